section Pu
variable {L : Nat} {xs : Nat → Int32}
def tvS (k j : Nat) : Bool := cS k j || (aS k j || (wS2 k j || (iS k j || (nS k j || (dS k j || zS k j)))))
theorem Ivt.tape {X : Nat → Nat → Bool} {n : Nat} {h g : AH} (C : Ivt L xs n h) (F : Fr X h g) (R : RfOK g) (e : gI g 102 = gI h 102) (hx : ∀ k j, tvS k j = true → X k j = false) (T2 : TAPE g) : Ivt L xs n g := by
  obtain ⟨B, Z, ⟨np, nt, nd, nl, no, LSs, E, US, C1, C2, C3⟩, ⟨I0, I1⟩, T, A, D⟩ := C
  have xc : ∀ k j, cS k j = true → X k j = false := fun k j e => hx k j (by unfold tvS; rw [e]; rfl)
  have xa : ∀ k j, aS k j = true → X k j = false := fun k j e => hx k j (by unfold tvS; rw [e]; simp)
  have xw : ∀ k j, wS2 k j = true → X k j = false := fun k j e => hx k j (by unfold tvS; rw [e]; simp)
  have xi : ∀ k j, iS k j = true → X k j = false := fun k j e => hx k j (by unfold tvS; rw [e]; simp)
  have xn : ∀ k j, nS k j = true → X k j = false := fun k j e => hx k j (by unfold tvS; rw [e]; simp)
  have xd : ∀ k j, dS k j = true → X k j = false := fun k j e => hx k j (by unfold tvS; rw [e]; simp)
  have xz : ∀ k j, zS k j = true → X k j = false := fun k j e => hx k j (by unfold tvS; rw [e]; simp)
  exact ⟨B.fr F R, Z.fr F xz, ⟨np, nt, nd, nl, no, LSs, E, US, C1.fr F e xc, by rw [e]; exact C2.fr F xa, by rw [e]; exact C3.fr F xc xw⟩, ⟨I0.fr (by decide) F xi, I1.fr (by decide) F xi⟩, T2, A.fr F xn, D.fr F xd⟩
def edX (k j : Nat) : Bool := (k == 35 && j == 2) || (k == 100 && j == 13)
theorem tv_ed : ∀ k j, tvS k j = true → edX k j = false := by
  intro k j e
  rw [Bool.eq_false_iff]
  intro x
  simp only [tvS, cS, aS, wS2, iS, nS, dS, zS, edX, Bool.or_eq_true, Bool.and_eq_true, beq_iff_eq, decide_eq_true_eq] at e x
  omega
theorem p_end (a1 : Int32) : Pr (Ivt L xs) 103 M_X11_end M_X12_end [.int a1] := by
  intro n h I
  obtain ⟨Lt, h1, h2, h3, h4, h5, h6, h7⟩ := I.2.2.2.2.1
  have t := t_end 103 I.1.1 I.1.2.1 a1
  by_cases c : inN a1 (Lt + 1) = true
  · obtain ⟨m, hm, rfl⟩ := (inN_iff (by omega)).mp c
    have c1 : ¬ nI m < 0 := fun z => by
      rw [i32_lt, nI_toInt (by omega)] at z
      have q1 : (0 : Int32).toInt = 0 := rfl
      omega
    have c2 : nI m ≤ nI Lt := by
      rw [i32_le, nI_toInt (by omega), nI_toInt (by omega)]
      omega
    rw [show mEndC h (nI m) = (nI m, sI h 35 2 (nI m)) by unfold mEndC; rw [if_neg c1, show gI h at_reader freader_length = nI Lt from h2, if_pos c2]] at t
    refine t.imp (fun r g p => ⟨_, p.2, ?_⟩)
    rw [p.1]
    have t2 := s_end 102 (h := sI h 35 2 (nI m)) (fun k q hq => I.1.1 k q hq) (nI m)
    rw [show mEnd (sI h 35 2 (nI m)) (nI m) = (nI m, sI (sI h 35 2 (nI m)) 100 13 (nI m)) by unfold mEnd; rw [show gI (sI h 35 2 (nI m)) aM fm_taped = nI Lt from h3, inN_lies' (by omega), if_pos c]] at t2
    refine t2.imp (fun r2 g2 q => ⟨q.2, ?_⟩)
    rw [q.1]
    have F : Fr edX h (sI (sI h 35 2 (nI m)) 100 13 (nI m)) := (Fr.rfl'.sI rfl).sI rfl
    have R2 : RfOK (sI (sI h 35 2 (nI m)) 100 13 (nI m)) := (I.1.2.1.put _ _ _).put _ _ _
    have f1 : gI (sI (sI h 35 2 (nI m)) 100 13 (nI m)) 35 2 = nI m := by rw [gI_o _ _ (by omega), gI_hit]
    have f2 : gI (sI (sI h 35 2 (nI m)) 100 13 (nI m)) 100 13 = nI m := gI_hit _ _ _ _
    generalize sI (sI h 35 2 (nI m)) 100 13 (nI m) = g3 at F R2 f1 f2
    have e36 : gI g3 36 = gI h 36 := F.fun (fun _ => rfl)
    have e107 : gI g3 107 = gI h 107 := F.fun (fun _ => rfl)
    have e106 : gI g3 106 = gI h 106 := F.fun (fun _ => rfl)
    exact (I.tape F R2 (F.fun (fun _ => rfl)) tv_ed ⟨m, by omega, f1, f2, by rw [e36, e107]; exact h4, by rw [e36]; exact h5, by rw [F.I 35 3 rfl, F.I 100 14 rfl]; exact h6, fun i hi => (congrFun e106 i).trans (h7 i hi)⟩).up
  · have cC : mEndC h a1 = (-1, h) := by
      unfold mEndC
      by_cases c1 : a1 < 0
      · rw [if_pos c1]
      · rw [if_neg c1, show gI h at_reader freader_length = nI Lt from h2, if_neg (fun z => c (inN_tle (by omega) c1 z))]
    rw [cC] at t
    refine t.imp (fun r g p => ⟨_, p.2, ?_⟩)
    rw [p.1]
    have t2 := s_end 102 (h := h) I.1.1 a1
    rw [show mEnd h a1 = (-1, h) by unfold mEnd; rw [show gI h aM fm_taped = nI Lt from h3, inN_lies' (by omega), if_neg c]] at t2
    refine t2.imp (fun r2 g2 q => ⟨q.2, ?_⟩)
    rw [q.1]
    exact I.up
def fgX (k j : Nat) : Bool := (k == 1 && j == 12) || ((k == 52 && (j == 7 || j == 8)) || (k == 102 && j == 106))
theorem mu_fg : ∀ k j, muS k j = true → fgX k j = false := by
  intro k j e
  rw [Bool.eq_false_iff]
  intro x
  simp only [muS, iS, tS, dS, zS, fgX, Bool.or_eq_true, Bool.and_eq_true, beq_iff_eq, decide_eq_true_eq] at e x
  omega
theorem n_fg : ∀ k j, nS k j = true → fgX k j = false := by
  intro k j e
  rw [Bool.eq_false_iff]
  intro x
  simp only [nS, fgX, Bool.or_eq_true, Bool.and_eq_true, beq_iff_eq, decide_eq_true_eq] at e x
  omega
theorem p_forget : Pr (Ivt L xs) 103 M_X11_forget M_X12_forget [] := by
  intro n h I
  obtain ⟨np, nt, nd, nl, no, LSs, E, US, C1, C2, C3⟩ := I.2.2.1
  have V := C1.2.1.1
  refine (t_forget 102 I.1.1 I.1.2.1).imp (fun r g p => ⟨_, p.2, ?_⟩)
  rw [p.1]
  have F1 : Fr fgX h (mForgetC h).2 := ((Fr.rfl'.sI rfl).sI rfl).sI rfl
  have R1 : RfOK (mForgetC h).2 := ((I.1.2.1.put _ _ _).put _ _ _).put _ _ _
  refine (s_forget 103 (h := (mForgetC h).2) (F1.S I.1.1) R1).imp (fun r2 g2 q => ⟨?_, ?_⟩)
  · rw [q.2]
    exact congrArg (fun x => some (Value.int x)) C1.1.1.2.2.2.2.1.symm
  · rw [q.1]
    have F2 : Fr fgX h (mForget (mForgetC h).2).2 := F1.sI rfl
    have R2 : RfOK (mForget (mForgetC h).2).2 := R1.put _ _ _
    have fo : ∀ a b, ¬ (a = 1 ∧ b = 12) → a < 50 → gI (mForget (mForgetC h).2).2 a b = gI h a b := fun a b q1 q2 => by
      show gI (sI (sI (sI (sI h 1 12 (nI 0)) 52 7 (nI 0)) 52 8 (nI 0)) 102 106 (nI 0)) a b = _
      rw [gI_o _ _ (by omega), gI_o _ _ (by omega), gI_o _ _ (by omega), gI_o _ _ q1]
    have eK : gI (mForget (mForgetC h).2).2 102 = upK (gI h 102) 106 (nI 0) := gI_s102 (mForgetC h).2 106 (nI 0)
    have f0 : gI (mForget (mForgetC h).2).2 1 12 = nI 0 := rfl
    have f7 : gI (mForget (mForgetC h).2).2 52 7 = nI 0 := rfl
    have f8 : gI (mForget (mForgetC h).2).2 52 8 = nI 0 := rfl
    have f32 : gI (mForget (mForgetC h).2).2 100 32 = gI h 100 32 := rfl
    have f113 : ∀ j, gI (mForget (mForgetC h).2).2 113 j = gI h 113 j := fun j => rfl
    generalize (mForget (mForgetC h).2).2 = g2 at F2 R2 fo eK f0 f7 f8 f32 f113
    refine (I.put (Y := noX) F2 Fr.rfl' mu_fg (fun _ _ _ => rfl) R2 ⟨np, nt, nd, nl, 0, LSs, E, US, ⟨?_, ?_, ?_, ?_⟩, CAB.no f7, CWY.no f8⟩ (I.2.2.2.2.2.1.fr F2 n_fg)).up
    · rw [eK]
      have Lg := C1.1.2.2.2.1
      have Hc := C1.1.1.c
      have A : HAc (gI g2) (upK (gI h 102) 106 (nI 0)) np nt nd nl := Hc.gen ((fo 1 0 (by omega) (by omega)).trans Hc.1) ((fo 1 5 (by omega) (by omega)).trans Hc.2.1) ((fo 1 9 (by omega) (by omega)).trans Hc.2.2.1) (f0.trans (upK_eq _ _ _).symm) ((fo 1 16 (by omega) (by omega)).trans Hc.2.2.2.2.1) ((fo 1 18 (by omega) (by omega)).trans (Hc.2.2.2.2.2.1.trans (upK_ne _ (by omega)).symm)) (fun t ht => ((fo 8 t (by omega) (by omega)).trans (Hc.2.2.2.2.2.2.2.2.2.2.2.2.1 t ht)).trans (hOf_eqv np (fun q hq => (upK_ne _ (by have := V.1; omega)).symm))) (fun k j i a => Or.inl ⟨fo k j (by unfold arK at a; omega) (by unfold arK at a; omega), upK_ne _ (by unfold arK at a; omega)⟩)
      exact C1.1.set F2 (A.ha (HOK.of (F2.S I.1.1) R2 (Or.inl rfl))) ⟨Lg.1, (fo 15 1 (by omega) (by omega)).trans Lg.2.1, fun j x hj => (fo 16 j (by omega) (by omega)).trans (Lg.2.2 j x hj)⟩ (fun j => rfl) (fun k j hk => by
        rw [Bool.eq_false_iff]
        intro x
        simp only [fgX, Bool.or_eq_true, Bool.and_eq_true, beq_iff_eq, decide_eq_true_eq] at x
        omega)
    · rw [eK]
      exact C1.2.1.fgt
    · rw [eK]
      exact URr_congr (fun j hj => (upK_ne _ (by omega)).symm) _ _ C1.2.2.1
    · have u := C1.2.2.2
      exact ⟨u.1, f32.trans u.2.1, fun i r hi j hj => (f113 _).trans (u.2.2 i r hi j hj)⟩
theorem trm_eq (w v : Int32) : (inN w 3 && inN v (mostT w + 1)) = isTermM w v := by
  by_cases c : inN w 3 = true
  · obtain ⟨q, hq, rfl⟩ := (inN_iff (by omega)).mp c
    rw [c, Bool.true_and]
    match q, hq with
    | 0, _ => rfl
    | 1, _ => rfl
    | 2, _ => rfl
    | q + 3, hq => exact absurd hq (by omega)
  · rw [Bool.eq_false_iff.mpr c, Bool.false_and]
    unfold isTermM
    rw [if_neg (fun z => c (by rw [z]; rfl)), if_neg (fun z => c (by rw [z]; rfl)), if_neg (fun z => c (by rw [z]; rfl))]
theorem p_terms (a1 a2 : Int32) : Pr (Ivt L xs) 103 M_X11_terms M_X12_terms [.int a1, .int a2] := by
  intro n h I
  obtain ⟨np, nt, nd, nl, no, LSs, E, US, C1, C2, C3⟩ := I.2.2.1
  have V := C1.2.1.1
  obtain ⟨k3, k4, k5, k6, k7⟩ := C1.2.1.2.2.2.2.2.2.1
  have t := t_terms 101 I.1.1 I.1.2.1 a1 a2
  by_cases c : (inN a1 3 && inN a2 (mostT a1 + 1)) = true
  · rw [show mTermsC h a1 a2 = (gI h (at_hall + 12) (ix a1), acH (clr (sI h (at_hall + 12) (ix a1) a2))) by unfold mTermsC; rw [if_pos c]] at t
    have cc := c
    have cI : isTermM a1 a2 = true := (trm_eq a1 a2).symm.trans c
    rw [Bool.and_eq_true] at cc
    obtain ⟨q, hq, rfl⟩ := (inN_iff (by omega)).mp cc.1
    obtain ⟨v, ta, rfl, eta, hta⟩ : ∃ v ta, a2 = nI v ∧ tAt (nI q) = ta ∧ ((q = 0 ∧ ta = 6 ∧ v < 1000) ∨ (q = 1 ∧ ta = 101 ∧ v < 11) ∨ (q = 2 ∧ ta = 102 ∧ v < 10)) := by
      match q, hq with
      | 0, _ =>
        obtain ⟨v, hv, e⟩ := (inN_iff (by decide)).mp cc.2
        exact ⟨v, 6, e, rfl, Or.inl ⟨rfl, rfl, hv⟩⟩
      | 1, _ =>
        obtain ⟨v, hv, e⟩ := (inN_iff (by decide)).mp cc.2
        exact ⟨v, 101, e, rfl, Or.inr (Or.inl ⟨rfl, rfl, hv⟩)⟩
      | 2, _ =>
        obtain ⟨v, hv, e⟩ := (inN_iff (by decide)).mp cc.2
        exact ⟨v, 102, e, rfl, Or.inr (Or.inr ⟨rfl, rfl, hv⟩)⟩
      | q + 3, hq => exact absurd hq (by omega)
    rw [ix_nI (show q < 2147483648 by omega)] at t
    have ev : gI h 13 q = gI h 102 ta := C1.1.1.c.cel (by
      unfold arK
      rcases hta with ⟨h1, h2, h3⟩ | ⟨h1, h2, h3⟩ | ⟨h1, h2, h3⟩
      · exact Or.inr (Or.inr (Or.inr (Or.inr (Or.inr (Or.inr (Or.inr (Or.inr (Or.inr (Or.inr (Or.inl ⟨rfl, h1, h2⟩))))))))))
      · exact Or.inr (Or.inr (Or.inr (Or.inr (Or.inr (Or.inr (Or.inr (Or.inr (Or.inr (Or.inr (Or.inr (Or.inl ⟨rfl, h1, h2⟩)))))))))))
      · exact Or.inr (Or.inr (Or.inr (Or.inr (Or.inr (Or.inr (Or.inr (Or.inr (Or.inr (Or.inr (Or.inr (Or.inr ⟨rfl, h1, h2⟩))))))))))))
    have Fc : Fr hcX h (clr (sI h (at_hall + 12) q (nI v))) := ((Fr.rfl'.sI rfl).sI rfl)
    have R1 : RfOK (clr (sI h (at_hall + 12) q (nI v))) := ((I.1.2.1.put _ _ _).put _ _ _)
    have fo : ∀ a b, ¬ (a = 13 ∧ b = q) → ¬ (a = 15 ∧ b = 1) → gI (clr (sI h (at_hall + 12) q (nI v))) a b = gI h a b := fun a b q0 q1 => by
      show gI (sI (sI h 13 q (nI v)) 15 1 (nI 0)) a b = _
      rw [gI_o _ _ q1, gI_o _ _ q0]
    have f0 : gI (clr (sI h (at_hall + 12) q (nI v))) 13 q = (nI v) := by
      show gI (sI (sI h 13 q (nI v)) 15 1 (nI 0)) 13 q = _
      rw [gI_o _ _ (by omega), gI_hit]
    have f1 : gI (clr (sI h (at_hall + 12) q (nI v))) 15 1 = (nI 0) := by
      show gI (sI (sI h 13 q (nI v)) 15 1 (nI 0)) 15 1 = _
      rw [gI_hit]
    generalize clr (sI h (at_hall + 12) q (nI v)) = g at t Fc R1 fo f0 f1
    have h13 : gI (acH g) 102 = gI h 102 := funext fun j => (ac_I g (by decide) j).trans (Fc.I 102 j rfl)
    have Fm : Fr hkX (acH g) (sI (acH g) am_kept ta (nI v)) := (Fr.rfl'.sI rfl)
    have R2 : RfOK (sI (acH g) am_kept ta (nI v)) := (R1.ac.put _ _ _)
    have eK : gI (sI (acH g) am_kept ta (nI v)) 102 = upK (gI h 102) ta (nI v) := by
      rw [show am_kept = 102 from rfl, gI_s102, h13]
    refine pr_ok (g' := sI (acH g) am_kept ta (nI v)) (h2 := gaH (sI (acH g) am_kept ta (nI v))) I t Fc R1 (fun Sg Rg e => ?_) Fm R2 (Or.inr rfl) ⟨np, nt, nd, nl, no, LSs, [], [], ?_⟩
    · have t2 := s_terms 101 Sg Rg (nI q) (nI v)
      rw [show mTerms (acH g) (nI q) (nI v) = (gI h (at_hall + 12) q, gaH (sI (acH g) am_kept ta (nI v))) by unfold mTerms; rw [if_pos cI, eta, show gI (acH g) am_kept ta = gI h (at_hall + 12) q from (congrFun h13 ta).trans ev.symm]] at t2
      exact t2
    · refine C1.cl I.1.1 R2 Fc Fm ?_ ?_ f1
      · rw [eK]
        refine C1.1.1.c.gen ((fo 1 0 (by omega) (by omega)).trans C1.1.1.c.1) ((fo 1 5 (by omega) (by omega)).trans C1.1.1.c.2.1) ((fo 1 9 (by omega) (by omega)).trans C1.1.1.c.2.2.1) ((fo 1 12 (by omega) (by omega)).trans (C1.1.1.c.2.2.2.1.trans (upK_ne _ (by omega)).symm)) ((fo 1 16 (by omega) (by omega)).trans C1.1.1.c.2.2.2.2.1) ((fo 1 18 (by omega) (by omega)).trans (C1.1.1.c.2.2.2.2.2.1.trans (upK_ne _ (by omega)).symm)) (fun t ht => ((fo 8 t (by omega) (by omega)).trans (C1.1.1.c.2.2.2.2.2.2.2.2.2.2.2.2.1 t ht)).trans (hOf_eqv np (fun q hq => (upK_ne _ (by have := V.1; omega)).symm))) (fun k j i a => ?_)
        by_cases c0 : k = 13 ∧ j = q
        · refine Or.inr ?_
          rw [c0.1, c0.2, f0]
          unfold arK at a
          rw [show i = ta by omega]
          exact (upK_eq _ _ _).symm
        refine Or.inl ⟨fo k j c0 (by unfold arK at a; omega), upK_ne _ (by unfold arK at a; omega)⟩
      · rw [eK]
        exact C1.2.1.trm (by omega)
  · rw [show mTermsC h a1 a2 = (-nI 1, rcH h 1) by unfold mTermsC; rw [if_neg c]] at t
    refine pr_no (k := 1) I (by omega) t (fun g Sg Rg eg => ?_)
    have t2 := s_terms 101 Sg Rg a1 a2
    rw [show mTerms g a1 a2 = (-nI 1, rfH g 1) by unfold mTerms; rw [if_neg (by rw [← trm_eq]; exact c)]] at t2
    exact t2
end Pu
