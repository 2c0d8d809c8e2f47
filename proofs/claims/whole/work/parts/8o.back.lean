section Pj
variable {L : Nat} {xs : Nat → Int32}
def b1X (k j : Nat) : Bool := k == 102 || (k == 100 && (j == 0 || j == 32))
theorem p_back (a1 : Int32) : Pr (Ivt L xs) 103 M_X11_back M_X12_back [.int a1] := by
  intro n h I
  by_cases c : inN a1 2 = true
  · obtain ⟨q, hq, rfl⟩ := (inN_iff (by omega)).mp c
    have M : IMG h q := by
      by_cases q0 : q = 0
      · rw [q0]
        exact I.2.2.2.1.1
      · rw [show q = 1 by omega]
        exact I.2.2.2.1.2
    obtain ⟨f, e34, e104, w⟩ := M
    match f, e34, e104, w with
    | false, e34, e104, w =>
      refine (t_back_un 100 I.1.1 I.1.2.1 hq e34).imp (fun r h1 p => ⟨_, p.2, ?_⟩)
      rw [p.1]
      have F1 := rcF_r h 2
      have t2 := s_back 101 (F1.S I.1.1) (I.1.2.1.rc 2) (nI q)
      rw [show mBack (rcH h 2) (nI q) = (-nI 2, rfH (rcH h 2) 2) by unfold mBack; rw [if_pos c, ix_nI (by omega), if_pos (show gI (rcH h 2) am_hasImage q = 0 from (F1.I 104 q rfl).trans e104)]] at t2
      refine t2.imp (fun r2 h2 p2 => ⟨p2.2, ?_⟩)
      rw [p2.1]
      exact (I.nn (by omega)).up
    | true, e34, e104, w =>
      obtain ⟨np, nt, nd, nl, no, LSs, E, G, Q⟩ := w rfl
      refine (t_back 100 I.1.1 I.1.2.1 hq e34 G).imp (fun r h1 p => ?_)
      obtain ⟨e1, rfl⟩ := p
      refine ⟨_, rfl, ?_⟩
      have A1 : HOK h 1 := HOK.of I.1.1 I.1.2.1 (by omega)
      have G2 : HG (cpyH (68 + 16 * q) 1 h) 1 (KI h q) np nt nd nl LSs E := G.cpy (Or.inl rfl) (Or.inr (by omega)) A1
      have F1 := cpy_fr (68 + 16 * q) 1 h
      have R1 : RfOK (cpyH (68 + 16 * q) 1 h) := I.1.2.1.cpy (68 + 16 * q) (by omega)
      generalize cpyH (68 + 16 * q) 1 h = g at e1 G2 F1 R1
      have F0 : Fr (fun k j => k == 15 && j == 1) g (sI g 15 1 (nI 0)) := Fr.rfl'.sI rfl
      have F2 : Fr (hlX 1) h (sI g 15 1 (nI 0)) := F1.sI rfl
      have R2 : RfOK (sI g 15 1 (nI 0)) := R1.put _ _ _
      have l0 : gI (sI g 15 1 (nI 0)) 15 1 = nI 0 := gI_hit _ _ _ _
      generalize sI g 15 1 (nI 0) = g2 at e1 F0 F2 R2 l0
      have b15 : ∀ k j, (¬ k = 15) → ((fun (k j : Nat) => k == 15 && j == 1) k j) = false := fun k j hk => by
        show (k == 15 && j == 1) = false
        rw [beq_eq_false_iff_ne.mpr hk]
        rfl
      have G3 : HG g2 1 (KI h q) np nt nd nl LSs [] := ⟨G2.1.fr F0 (fun o j ho => b15 _ _ (by omega)) rfl, G2.2.1.fr F0 (fun j => b15 _ _ (by decide)) rfl (fun j => b15 _ _ (by decide)) (fun k j o => b15 _ _ (by unfold okT at o; omega)), G2.2.2.1.fr F0 (fun j => b15 _ _ (by decide)), ⟨by decide, l0, fun j x hj => by cases hj⟩, G2.2.2.2.2.fr F0 (fun j => b15 _ _ (by decide)) (fun k j hk => b15 _ _ (by omega))⟩
      rw [e1]
      have G4 : HG (acH g2) 1 (KI h q) np nt nd nl LSs [] := G3.yn (Or.inl rfl) (acH_fr g2)
      have F3 : Fr baX h (acH g2) := (((baX_h F2).sI rfl).sI rfl).sI rfl
      have e3 : ∀ j, gI (acH g2) 103 j = gI h 103 j := fun j => F3.I 103 j rfl
      have t2 := s_back 101 (F3.S I.1.1) R2.ac (nI q)
      rw [show mBack (acH g2) (nI q) = (nI 0, gaH (bakW (acH g2) q 5716)) by unfold mBack; rw [if_pos c, ix_nI (by omega), if_neg (by rw [show gI (acH g2) am_hasImage q = gI h 104 q from F3.I 104 q rfl, e104]; decide)]] at t2
      refine t2.imp (fun r2 h2 p2 => ⟨p2.2, ?_⟩)
      have eh := p2.1
      have O4 : Fr hkX (acH g2) (bakW (acH g2) q 5716) := Fr.rfl'.wr 5716 (fun i _ => rfl)
      have R4 : RfOK (bakW (acH g2) q 5716) := R2.ac.wr _ _ _ _
      have v4 : ∀ i, i < 5716 → gI (bakW (acH g2) q 5716) 102 i = KI h q i := fun i hi => (gI_wrI_id (acH g2) 102 _ 5716 hi).trans (e3 _)
      generalize bakW (acH g2) q 5716 = w3 at eh O4 R4 v4
      have A := (ANSW.ok I.2.2.2.2.2.1 F2 h1_n O4 hk_n).2
      have eh : h2 = gaH w3 := eh
      rw [← eh] at A
      have O6 : Fr b1X (acH g2) h2 := by
        rw [eh]
        exact ((O4.weak (fun k j x => by unfold b1X at x; rw [Bool.or_eq_false_iff] at x; exact x.1)).sI rfl).sI rfl
      have F : Fr baX h h2 := F3.trans (O6.weak (fun k j x => by
        rw [Bool.eq_false_iff] at x ⊢
        intro z
        refine x ?_
        simp only [b1X, baX, hlX, Bool.or_eq_true, Bool.and_eq_true, beq_iff_eq, decide_eq_true_eq] at z ⊢
        omega))
      have R : RfOK h2 := by
        rw [eh]
        exact R4.ga
      have e102 : ∀ i, i < 5716 → gI h2 102 i = KI h q i := fun i hi => by
        rw [eh, ga_I w3 (by decide)]
        exact v4 i hi
      have c7 : gI h2 52 7 = nI 0 := by
        rw [eh, ga_I w3 (by decide), O4.I 52 7 rfl]
        rfl
      have c8 : gI h2 52 8 = nI 0 := by
        rw [eh, ga_I w3 (by decide), O4.I 52 8 rfl]
        rfl
      have c32 : gI h2 100 32 = nI 0 := by
        rw [eh]
        rfl
      have Gf : HG h2 1 (gI h2 102) np nt nd nl LSs [] := (G4.fr O6 (fun o j ho => by
        rw [Bool.eq_false_iff]
        intro z
        simp only [b1X, Bool.or_eq_true, Bool.and_eq_true, beq_iff_eq] at z
        omega) (fun k j hk => by
        rw [Bool.eq_false_iff]
        intro z
        simp only [b1X, Bool.or_eq_true, Bool.and_eq_true, beq_iff_eq] at z
        omega)).lo Q.1.1 (fun j hj => e102 j (by omega))
      exact (I.all F R (I.2.1.fr F ba_z) ⟨np, nt, nd, nl, no, LSs, [], [], ⟨Gf, Q.lo e102, UR_nil _, by decide, c32, fun i r hi => by cases hi⟩, CAB.no c7, CWY.no c8⟩ ⟨I.2.2.2.1.1.fr (by decide) F ba_i, I.2.2.2.1.2.fr (by decide) F ba_i⟩ (I.2.2.2.2.1.fr F ba_t) A (I.2.2.2.2.2.2.fr F ba_d)).up
  · refine pr_no (k := 1) I (by omega) (t_back_no 100 I.1.1 I.1.2.1 c) (fun g Sg Rg eg => ?_)
    have t2 := s_back 101 Sg Rg a1
    rw [show mBack g a1 = (-nI 1, rfH g 1) by unfold mBack; rw [if_neg c]] at t2
    exact t2
end Pj
