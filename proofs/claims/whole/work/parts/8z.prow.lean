def rqX (k j : Nat) : Bool := ((decide (1 ≤ k) && decide (k < 17)) && !(k == 14)) || ((k == 0 && (j == 14 || j == 15)) || ((k == 35 && j == 2) || ((k == 52 && (j == 7 || j == 8)) || (k == 102 || (k == 100 && (j == 0 || (j == 6 || (j == 13 || j == 32))))))))
theorem rqX_c {h g : AH} (F : Fr cwX h g) : Fr rqX h g := F.weak (fun k j hx => by
  rw [Bool.eq_false_iff] at hx ⊢
  intro x
  refine hx ?_
  simp only [rqX, cwX, Bool.or_eq_true, Bool.and_eq_true, Bool.not_eq_true', beq_eq_false_iff_ne, beq_iff_eq, decide_eq_true_eq] at x ⊢
  omega)
theorem rqX_m {h g : AH} (F : Fr mr9X h g) : Fr rqX h g := F.weak (fun k j hx => by
  rw [Bool.eq_false_iff] at hx ⊢
  intro x
  refine hx ?_
  simp only [rqX, mr9X, Bool.or_eq_true, Bool.and_eq_true, Bool.not_eq_true', beq_eq_false_iff_ne, beq_iff_eq, decide_eq_true_eq] at x ⊢
  omega)
theorem rq_i : ∀ k j, iS k j = true → rqX k j = false := by
  intro k j e
  rw [Bool.eq_false_iff]
  intro x
  simp only [iS, rqX, Bool.or_eq_true, Bool.and_eq_true, Bool.not_eq_true', beq_eq_false_iff_ne, beq_iff_eq, decide_eq_true_eq] at e x
  omega
theorem rq_d : ∀ k j, dS k j = true → rqX k j = false := by
  intro k j e
  rw [Bool.eq_false_iff]
  intro x
  simp only [dS, rqX, Bool.or_eq_true, Bool.and_eq_true, Bool.not_eq_true', beq_eq_false_iff_ne, beq_iff_eq, decide_eq_true_eq] at e x
  omega
theorem rq_z : ∀ k j, zS k j = true → rqX k j = false := by
  intro k j e
  rw [Bool.eq_false_iff]
  intro x
  simp only [zS, rqX, Bool.or_eq_true, Bool.and_eq_true, Bool.not_eq_true', beq_eq_false_iff_ne, beq_iff_eq, decide_eq_true_eq] at e x
  omega
theorem rq_T : ∀ k j, 129 ≤ k → rqX k j = false := by
  intro k j e
  rw [Bool.eq_false_iff]
  intro x
  simp only [rqX, Bool.or_eq_true, Bool.and_eq_true, Bool.not_eq_true', beq_eq_false_iff_ne, beq_iff_eq, decide_eq_true_eq] at x
  omega
section Pr2
variable {L : Nat} {xs : Nat → Int32}
theorem p_row : Pr (Ivt L xs) 103 M_X11_row M_X12_row [] := by
  intro n h I
  obtain ⟨np, nt, nd, nl, no, LSs, E, US, C1, C2, C3⟩ := I.2.2.1
  obtain ⟨Lt, l1, l2, l3, l4, l5, l6, l7⟩ := I.2.2.2.2.1
  by_cases c0 : Lt = 0
  · rw [c0] at l2 l3
    refine (t_row0 102 I.1.1 I.1.2.1 l2).imp (fun r h1 p => ⟨_, p.2, ?_⟩)
    rw [p.1]
    have F1 : Fr oaX h (rcH h 6) := (Fr.rfl'.sI rfl).sI rfl
    have R1 : RfOK (rcH h 6) := I.1.2.1.rc 6
    refine (s_row0 102 (F1.S I.1.1) R1 ((rcH_I h 6 (by decide) 13).trans l3)).imp (fun r2 h2 q => ⟨q.2, ?_⟩)
    have e2 := q.1
    have F : Fr oaX h h2 := by
      rw [e2]
      exact ((F1.sI rfl).sI rfl).sI rfl
    have lo : ∀ k j, k < 100 → gI h2 k j = gI (rcH h 6) k j := fun k j hk => by
      rw [e2, rfH_I _ _ (by omega), gI_ne _ _ _ _ (by omega)]
    have A : ANSW h2 := by
      refine ANSW.ref (k := 6) (by omega) I.2.2.2.2.2.1 ?_ ?_ ?_ (fun j => ?_) (fun j => ?_)
      · rw [lo 0 14 (by decide), rcH_0, e2, rfH_0]
      · rw [lo 0 15 (by decide), F.I 100 6 rfl, rcH_1 _ _ (by decide)]
        exact I.2.2.2.2.2.1.2.1
      · rw [lo 0 16 (by decide), rcH_1 _ _ (by decide), e2, rfH_1 _ _ (by decide), gI_off _ _ _ (by decide), rcH_I _ _ (by decide)]
        exact I.2.2.2.2.2.1.2.2.1
      · rw [lo 65 j (by decide)]
      · rw [e2]
        exact rf101 (fun j => (gI_ne _ _ _ _ (by decide)).trans (rcH_I _ _ (by decide) j)) j
    refine (I.bad F (by rw [e2]; exact (R1.put _ _ _).rf 6) ?_ ?_ ?_ A).up
    · rw [lo 35 2 (by decide), rcH_I _ _ (by decide)]
      exact l2
    · rw [e2, rfH_1 _ _ (by decide)]
      exact gI_hit _ _ _ _
    · rw [lo 35 3 (by decide), rcH_I _ _ (by decide), e2, rfH_1 _ _ (by decide), gI_off _ _ _ (by decide), rcH_I _ _ (by decide)]
      exact l6
  · have eL : Lt = 2 * (Lt / 2) + Lt % 2 := by omega
    have hb : Lt % 2 ≤ 1 := by omega
    refine (t_row 101 I.1.1 I.1.2.1 C1.1.1.c C1.2.1 l1 eL hb (by omega) l2 l5).imp (fun r h1 p => ?_)
    obtain ⟨g, K', nt', c, ⟨Sg, Rg, Fg, Hg, Qg⟩, eF, hc, es, rfl, e1⟩ := p
    refine ⟨_, rfl, ?_⟩
    have F1 : Fr rqX h (sI (sI g 35 2 (nI 0)) 15 1 (nI 0)) := ((rqX_c Fg).sI rfl).sI rfl
    have R1 : RfOK (sI (sI g 35 2 (nI 0)) 15 1 (nI 0)) := (Rg.put _ _ _).put _ _ _
    have x1 : ∀ k j, ¬ (k = 35 ∧ j = 2) → ¬ (k = 15 ∧ j = 1) → gI (sI (sI g 35 2 (nI 0)) 15 1 (nI 0)) k j = gI g k j := fun k j a b => by rw [gI_o _ _ b, gI_o _ _ a]
    have x2 : gI (sI (sI g 35 2 (nI 0)) 15 1 (nI 0)) 35 2 = nI 0 := (gI_ne _ _ _ _ (by decide)).trans (gI_hit _ _ _ _)
    have x3 : gI (sI (sI g 35 2 (nI 0)) 15 1 (nI 0)) 15 1 = nI 0 := gI_hit _ _ _ _
    generalize sI (sI g 35 2 (nI 0)) 15 1 (nI 0) = gs at e1 F1 R1 x1 x2 x3
    rw [e1]
    have F2 : Fr rqX h (acH gs) := ((F1.sI rfl).sI rfl).sI rfl
    have hm : ∀ k j, 100 ≤ k → gI (acH gs) k j = gI h k j := fun k j hk => (ac_I gs (by omega) j).trans ((x1 k j (by omega) (by omega)).trans (Fg.I k j (by
      rw [Bool.eq_false_iff]
      intro x
      simp only [cwX, Bool.or_eq_true, Bool.and_eq_true, beq_iff_eq] at x
      omega)))
    have e107 : gI (acH gs) 107 = gI h 36 := (funext fun j => hm 107 j (by omega) : gI (acH gs) 107 = gI h 107).trans l4
    refine (s_row 100 (F2.S I.1.1) R1.ac (funext fun j => hm 102 j (by omega)) C1.2.1 l1 eL hb (by omega) ((hm 100 13 (by omega)).trans l3)).imp (fun r2 h2 p2 => ?_)
    obtain ⟨k, K2, nt2, c2, ⟨Sk, Rk, Fk, eK, Qk⟩, eF2, hc2, es2, y3, e2⟩ := p2
    rw [e107, eF] at eF2
    have q1 : K' = K2 := congrArg Prod.fst eF2
    have q2 : nt' = nt2 := congrArg (fun z => z.2.1) eF2
    have q3 : c = c2 := congrArg (fun z => z.2.2) eF2
    subst q1 q2 q3
    refine ⟨y3, ?_⟩
    have Fm : Fr mr9X (sI (acH gs) 100 13 (nI 0)) k := Fk
    have F : Fr rqX h h2 := by
      rw [e2]
      exact (((F2.sI rfl).trans (rqX_m Fk)).sI rfl).sI rfl
    have R : RfOK h2 := by
      rw [e2]
      exact Rk.ga
    have low : ∀ a j, a < 100 → gI h2 a j = gI (acH gs) a j := fun a j ha => by
      rw [e2, ga_I k (by omega), Fk.I a j (by
        rw [Bool.eq_false_iff]
        intro x
        simp only [mr9X, Bool.or_eq_true, Bool.and_eq_true, beq_iff_eq] at x
        omega), gI_ne _ _ _ _ (by omega)]
    have cl : ∀ a j, a < 100 → a ≠ 0 → a ≠ 52 → ¬ (a = 35 ∧ j = 2) → ¬ (a = 15 ∧ j = 1) → gI h2 a j = gI g a j := fun a j h1 h2 h3 h4 h5 => (low a j h1).trans ((ac_I gs ⟨h2, h3⟩ j).trans (x1 a j h4 h5))
    have f102 : gI h2 102 = K' := by
      rw [e2, ga_F k 102 (by decide)]
      exact eK
    have g100 : ∀ j, j ≠ 0 → j ≠ 32 → gI h2 100 j = gI k 100 j := fun j h1 h2 => by
      rw [e2]
      exact (gI_off _ _ _ h1).trans (gI_off _ _ _ h2)
    have A2 : HAc (gI h2) (gI h2 102) np nt' nd nl := by
      rw [f102]
      refine ⟨?_, ?_⟩
      · exact (cl 1 0 (by omega) (by omega) (by omega) (by omega) (by omega)).trans Hg.1
      · obtain ⟨-, a2, a3, a4, a5, a6, a7, a8, a9, b1, b2, b3, b4, b5', b6, b7, b8, b9, c1, c2⟩ := Hg
        have w : ∀ a j, 1 ≤ a → a < 14 → gI h2 a j = gI g a j := fun a j h1 h2 => cl a j (by omega) (by omega) (by omega) (by omega) (by omega)
        exact ⟨(w _ _ (by omega) (by omega)).trans a2, (w _ _ (by omega) (by omega)).trans a3, (w _ _ (by omega) (by omega)).trans a4, (w _ _ (by omega) (by omega)).trans a5, (w _ _ (by omega) (by omega)).trans a6, fun p hp => (w _ _ (by omega) (by omega)).trans (a7 p hp), fun p hp => (w _ _ (by omega) (by omega)).trans (a8 p hp), fun p hp => (w _ _ (by omega) (by omega)).trans (a9 p hp), fun p hp => (w _ _ (by omega) (by omega)).trans (b1 p hp), fun p hp => (w _ _ (by omega) (by omega)).trans (b2 p hp), fun p hp => (w _ _ (by omega) (by omega)).trans (b3 p hp), fun p hp => (w _ _ (by omega) (by omega)).trans (b4 p hp), fun p hp => (w _ _ (by omega) (by omega)).trans (b5' p hp), fun p hp => (w _ _ (by omega) (by omega)).trans (b6 p hp), fun p hp => (w _ _ (by omega) (by omega)).trans (b7 p hp), fun p hp => (w _ _ (by omega) (by omega)).trans (b8 p hp), (w _ _ (by omega) (by omega)).trans b9, (w _ _ (by omega) (by omega)).trans c1, (w _ _ (by omega) (by omega)).trans c2⟩
    have Gf : HG h2 1 (gI h2 102) np nt' nd nl LSs [] := C1.1.set F (A2.ha (HOK.of (F.S I.1.1) R (Or.inl rfl))) ⟨by decide, (low 15 1 (by omega)).trans ((ac_I gs (by decide) 1).trans x3), fun j x hj => by cases hj⟩ (fun j => rfl) rq_T
    have h0 : ∀ j, j ≠ 14 → gI h2 0 j = gI g 0 j := fun j hj => by
      rw [low 0 j (by omega)]
      show gI (sI (sI (sI gs 0 14 (nI 0)) 52 7 (nI 0)) 52 8 (nI 0)) 0 j = _
      rw [gI_ne _ _ _ _ (by decide), gI_ne _ _ _ _ (by decide), gI_off _ _ _ hj, x1 0 j (by omega) (by omega)]
    have h100 : ∀ j, j ≠ 0 → j ≠ 32 → j ≠ 6 → j ≠ 13 → gI h2 100 j = gI h 100 j := fun j a b c d => by
      rw [g100 j a b, Fk.I 100 j (by
        rw [Bool.eq_false_iff]
        intro x
        simp only [mr9X, Bool.or_eq_true, Bool.and_eq_true, beq_iff_eq] at x
        omega), gI_off _ _ _ d]
      exact hm 100 j (by omega)
    have An : ANSW h2 := by
      refine ANSW.mk' I.2.2.2.2.2.1 ?_ ?_ ?_ (fun j => ?_) (fun j => ?_)
      · rw [low 0 14 (by omega), e2]
        rfl
      · rw [h0 15 (by decide), es, g100 6 (by decide) (by decide), es2]
      · rw [h0 16 (by decide), h100 50 (by decide) (by decide) (by decide) (by decide), Fg.I 0 16 rfl]
        exact I.2.2.2.2.2.1.2.2.1
      · rw [cl 65 j (by omega) (by omega) (by omega) (by omega) (by omega)]
        exact Fg.I 65 j rfl
      · rw [e2, ga_I k (by decide), Fk.I 101 j rfl, gI_ne _ _ _ _ (by decide)]
        exact hm 101 j (by omega)
    have c7 : gI h2 52 7 = nI 0 := (low 52 7 (by omega)).trans rfl
    have c8 : gI h2 52 8 = nI 0 := (low 52 8 (by omega)).trans rfl
    have c32 : gI h2 100 32 = nI 0 := by
      rw [e2]
      rfl
    have e36 : gI h2 36 = gI h 36 := F.fun (fun _ => rfl)
    have e107' : gI h2 107 = gI h 107 := F.fun (fun _ => rfl)
    have f35 : gI h2 35 2 = nI 0 := (low 35 2 (by omega)).trans ((ac_I gs (by decide) 2).trans x2)
    have f13 : gI h2 100 13 = nI 0 := by
      rw [g100 13 (by decide) (by decide), Fk.I 100 13 rfl]
      exact gI_hit _ _ _ _
    refine (I.all F R (I.2.1.fr F rq_z) ⟨np, nt', nd, nl, no, LSs, [], [], ⟨Gf, by rw [f102]; exact Qg, UR_nil _, by decide, c32, fun i r hi => by cases hi⟩, CAB.no c7, CWY.no c8⟩ ⟨I.2.2.2.1.1.fr (by decide) F rq_i, I.2.2.2.1.2.fr (by decide) F rq_i⟩ ⟨0, by omega, f35, f13, by rw [e36, e107']; exact l4, by rw [e36]; exact l5, ?_, fun i hi => (F.I 106 i rfl).trans (l7 i hi)⟩ An (I.2.2.2.2.2.2.fr F rq_d)).up
    rw [cl 35 3 (by omega) (by omega) (by omega) (by omega) (by omega), Fg.I 35 3 rfl, h100 14 (by decide) (by decide) (by decide) (by decide)]
    exact l6
end Pr2
