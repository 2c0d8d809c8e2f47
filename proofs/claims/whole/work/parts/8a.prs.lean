section Pt
variable {L : Nat} {xs : Nat → Int32}
theorem p_desk (a1 a2 : Int32) : Pr (Ivt L xs) 103 M_X11_desk M_X12_desk [.int a1, .int a2] := by
  intro n h I
  obtain ⟨np, nt, nd, nl, no, LSs, E, US, C1, C2, C3⟩ := I.2.2.1
  have V := C1.2.1.1
  obtain ⟨k3, k4, k5, k6, k7⟩ := C1.2.1.2.2.2.2.2.2.1
  have vd := C1.2.1.2.2.2.1
  have t := t_desk 101 I.1.1 I.1.2.1 a1 a2 vd.1 C1.1.1.2.2.2.1
  by_cases c : (inN a1 32 && okS a2) = true
  · by_cases c2 : nd = 3
    · rw [show mDeskC h a1 a2 nd = (-nI 5, rcH h 5) by unfold mDeskC; rw [if_pos c, if_pos c2]] at t
      refine pr_no (k := 5) I (by omega) t (fun g Sg Rg eg => ?_)
      have t2 := s_desk 102 Sg Rg a1 a2 vd.1 ((congrFun eg 105).trans k5)
      rw [show mDesk g a1 a2 nd = (-nI 5, rfH g 5) by unfold mDesk; rw [if_pos c, if_pos c2]] at t2
      exact t2
    · rw [show mDeskC h a1 a2 nd = (nI nd, acH (dkH h a1 a2 nd)) by unfold mDeskC; rw [if_pos c, if_neg c2]] at t
      have hn : nd < 3 := by have := vd.1; omega
      have cc := c
      rw [Bool.and_eq_true] at cc
      obtain ⟨s, hs, rfl⟩ : ∃ s, (1 ≤ s ∧ s ≤ 9) ∧ a2 = nI s := by
        have q := of_decide_eq_true cc.2
        rw [i32_le, i32_le] at q
        have q1 : (nI 1).toInt = 1 := rfl
        have q2 : (nI 9).toInt = 9 := rfl
        refine ⟨a2.toInt.toNat, by omega, ?_⟩
        rw [i32_eq, nI_toInt (by omega)]
        omega
      have Fc : Fr hcX h (dkH h a1 (nI s) nd) := (((Fr.rfl'.sI rfl).sI rfl).sI rfl)
      have R1 : RfOK (dkH h a1 (nI s) nd) := (((I.1.2.1.put _ _ _).put _ _ _).put _ _ _)
      have fo : ∀ a b, ¬ (a = 9 ∧ b = nd) → ¬ (a = 10 ∧ b = nd) → ¬ (a = 1 ∧ b = 9) → gI (dkH h a1 (nI s) nd) a b = gI h a b := fun a b q0 q1 q2 => by
        show gI (sI (sI (sI h 9 nd a1) 10 nd (nI s)) 1 9 (nI (nd + 1))) a b = _
        rw [gI_o _ _ q2, gI_o _ _ q1, gI_o _ _ q0]
      have f0 : gI (dkH h a1 (nI s) nd) 9 nd = a1 := by
        show gI (sI (sI (sI h 9 nd a1) 10 nd (nI s)) 1 9 (nI (nd + 1))) 9 nd = _
        rw [gI_o _ _ (by omega), gI_o _ _ (by omega), gI_hit]
      have f1 : gI (dkH h a1 (nI s) nd) 10 nd = (nI s) := by
        show gI (sI (sI (sI h 9 nd a1) 10 nd (nI s)) 1 9 (nI (nd + 1))) 10 nd = _
        rw [gI_o _ _ (by omega), gI_hit]
      have f2 : gI (dkH h a1 (nI s) nd) 1 9 = (nI (nd + 1)) := by
        show gI (sI (sI (sI h 9 nd a1) 10 nd (nI s)) 1 9 (nI (nd + 1))) 1 9 = _
        rw [gI_hit]
      generalize dkH h a1 (nI s) nd = g at t Fc R1 fo f0 f1 f2
      have h13 : gI (acH g) 102 = gI h 102 := funext fun j => (ac_I g (by decide) j).trans (Fc.I 102 j rfl)
      have Fm : Fr hkX (acH g) (sI (sI (sI (acH g) am_kept (83 + nd) a1) am_kept (86 + nd) (nI s)) am_kept 105 (nI (nd + 1))) := (((Fr.rfl'.sI rfl).sI rfl).sI rfl)
      have R2 : RfOK (sI (sI (sI (acH g) am_kept (83 + nd) a1) am_kept (86 + nd) (nI s)) am_kept 105 (nI (nd + 1))) := (((R1.ac.put _ _ _).put _ _ _).put _ _ _)
      have eK : gI (sI (sI (sI (acH g) am_kept (83 + nd) a1) am_kept (86 + nd) (nI s)) am_kept 105 (nI (nd + 1))) 102 = dskK (gI h 102) nd a1 (nI s) := by
        rw [show am_kept = 102 from rfl, gI_s102, gI_s102, gI_s102, h13]
        rfl
      refine pr_ok (g' := sI (sI (sI (acH g) am_kept (83 + nd) a1) am_kept (86 + nd) (nI s)) am_kept 105 (nI (nd + 1))) (h2 := gdH (sI (sI (sI (acH g) am_kept (83 + nd) a1) am_kept (86 + nd) (nI s)) am_kept 105 (nI (nd + 1)))) I t Fc R1 (fun Sg Rg e => ?_) Fm R2 (Or.inl rfl) ⟨np, nt, nd + 1, nl, no, LSs, E, US, ?_⟩
      · have t2 := s_desk 102 Sg Rg a1 (nI s) vd.1 ((congrFun e 105).trans k5)
        rw [show mDesk (acH g) a1 (nI s) nd = (nI nd, gdH (sI (sI (sI (acH g) am_kept (83 + nd) a1) am_kept (86 + nd) (nI s)) am_kept 105 (nI (nd + 1)))) by unfold mDesk; rw [if_pos c, if_neg c2]] at t2
        exact t2
      · refine C1.keep I.1.1 R2 Fc Fm ?_ ?_ (fun j hj => by rw [eK]; exact dskK_o (by omega)) (fo 15 1 (by omega) (by omega) (by omega)) (fun j => (fo 16 j (by omega) (by omega) (by omega)))
        · rw [eK]
          refine C1.1.1.c.gen ((fo 1 0 (by omega) (by omega) (by omega)).trans C1.1.1.c.1) ((fo 1 5 (by omega) (by omega) (by omega)).trans C1.1.1.c.2.1) f2 ((fo 1 12 (by omega) (by omega) (by omega)).trans (C1.1.1.c.2.2.2.1.trans (dskK_o (by omega)).symm)) ((fo 1 16 (by omega) (by omega) (by omega)).trans C1.1.1.c.2.2.2.2.1) ((fo 1 18 (by omega) (by omega) (by omega)).trans (C1.1.1.c.2.2.2.2.2.1.trans (dskK_o (by omega)).symm)) (fun t ht => ((fo 8 t (by omega) (by omega) (by omega)).trans (C1.1.1.c.2.2.2.2.2.2.2.2.2.2.2.2.1 t ht)).trans (hOf_eqv np (fun q hq => (dskK_o (by have := V.1; omega)).symm))) (fun k j i a => ?_)
          by_cases c0 : k = 9 ∧ j = nd
          · refine Or.inr ?_
            rw [c0.1, c0.2, f0]
            unfold arK at a
            rw [show i = 83 + nd by omega]
            exact (dskK_n hn).symm
          by_cases c1 : k = 10 ∧ j = nd
          · refine Or.inr ?_
            rw [c1.1, c1.2, f1]
            unfold arK at a
            rw [show i = 86 + nd by omega]
            exact (dskK_k hn).symm
          refine Or.inl ⟨fo k j c0 c1 (by unfold arK at a; omega), dskK_o (by unfold arK at a; omega)⟩
        · rw [eK]
          exact C1.2.1.dsk hn a1 hs
  · rw [show mDeskC h a1 a2 nd = (-nI 1, rcH h 1) by unfold mDeskC; rw [if_neg c]] at t
    refine pr_no (k := 1) I (by omega) t (fun g Sg Rg eg => ?_)
    have t2 := s_desk 102 Sg Rg a1 a2 vd.1 ((congrFun eg 105).trans k5)
    rw [show mDesk g a1 a2 nd = (-nI 1, rfH g 1) by unfold mDesk; rw [if_neg c]] at t2
    exact t2
theorem p_told (a1 a2 : Int32) : Pr (Ivt L xs) 103 M_X11_told M_X12_told [.int a1, .int a2] := by
  intro n h I
  obtain ⟨np, nt, nd, nl, no, LSs, E, US, C1, C2, C3⟩ := I.2.2.1
  have V := C1.2.1.1
  obtain ⟨k3, k4, k5, k6, k7⟩ := C1.2.1.2.2.2.2.2.2.1
  have vt := C1.2.1.2.2.2.2.1
  have t := t_told 101 I.1.1 I.1.2.1 a1 a2 V.1 vt.1 C1.1.1.2.1 (C1.1.1.2.2.2.2.1.trans k6)
  by_cases c : inN a2 1000 = true
  · by_cases cp : inN a1 np = true
    · by_cases c2 : no = 6
      · rw [show mToldC h a1 a2 np no = (-nI 5, rcH h 5) by unfold mToldC; rw [if_pos c, if_pos cp, if_pos c2]] at t
        refine pr_no (k := 5) I (by omega) t (fun g Sg Rg eg => ?_)
        have t2 := s_told 101 Sg Rg a1 a2 V.1 vt.1 ((congrFun eg 103).trans k3) ((congrFun eg 106).trans k6)
        rw [show mTold g a1 a2 np no = (-nI 5, rfH g 5) by unfold mTold; rw [if_pos c, if_pos cp, if_pos c2]] at t2
        exact t2
      · rw [show mToldC h a1 a2 np no = (nI (no + 1), acH (sI (sI (sI h (at_hall + 10) no a1) (at_hall + 11) no a2) at_hall fhall_tolds (nI (no + 1)))) by unfold mToldC; rw [if_pos c, if_pos cp, if_neg c2]] at t
        have hn : no < 6 := by have := vt.1; omega
        have hp6 := V.1
        obtain ⟨p, hp, rfl⟩ := (inN_iff (by omega)).mp cp
        have Fc : Fr hcX h (sI (sI (sI h (at_hall + 10) no (nI p)) (at_hall + 11) no a2) at_hall fhall_tolds (nI (no + 1))) := (((Fr.rfl'.sI rfl).sI rfl).sI rfl)
        have R1 : RfOK (sI (sI (sI h (at_hall + 10) no (nI p)) (at_hall + 11) no a2) at_hall fhall_tolds (nI (no + 1))) := (((I.1.2.1.put _ _ _).put _ _ _).put _ _ _)
        have fo : ∀ a b, ¬ (a = 11 ∧ b = no) → ¬ (a = 12 ∧ b = no) → ¬ (a = 1 ∧ b = 12) → gI (sI (sI (sI h (at_hall + 10) no (nI p)) (at_hall + 11) no a2) at_hall fhall_tolds (nI (no + 1))) a b = gI h a b := fun a b q0 q1 q2 => by
          show gI (sI (sI (sI h 11 no (nI p)) 12 no a2) 1 12 (nI (no + 1))) a b = _
          rw [gI_o _ _ q2, gI_o _ _ q1, gI_o _ _ q0]
        have f0 : gI (sI (sI (sI h (at_hall + 10) no (nI p)) (at_hall + 11) no a2) at_hall fhall_tolds (nI (no + 1))) 11 no = (nI p) := by
          show gI (sI (sI (sI h 11 no (nI p)) 12 no a2) 1 12 (nI (no + 1))) 11 no = _
          rw [gI_o _ _ (by omega), gI_o _ _ (by omega), gI_hit]
        have f1 : gI (sI (sI (sI h (at_hall + 10) no (nI p)) (at_hall + 11) no a2) at_hall fhall_tolds (nI (no + 1))) 12 no = a2 := by
          show gI (sI (sI (sI h 11 no (nI p)) 12 no a2) 1 12 (nI (no + 1))) 12 no = _
          rw [gI_o _ _ (by omega), gI_hit]
        have f2 : gI (sI (sI (sI h (at_hall + 10) no (nI p)) (at_hall + 11) no a2) at_hall fhall_tolds (nI (no + 1))) 1 12 = (nI (no + 1)) := by
          show gI (sI (sI (sI h 11 no (nI p)) 12 no a2) 1 12 (nI (no + 1))) 1 12 = _
          rw [gI_hit]
        generalize sI (sI (sI h (at_hall + 10) no (nI p)) (at_hall + 11) no a2) at_hall fhall_tolds (nI (no + 1)) = g at t Fc R1 fo f0 f1 f2
        have h13 : gI (acH g) 102 = gI h 102 := funext fun j => (ac_I g (by decide) j).trans (Fc.I 102 j rfl)
        have Fm : Fr hkX (acH g) (sI (sI (sI (acH g) am_kept (89 + 2 * no) (nI p)) am_kept (89 + 2 * no + 1) a2) am_kept 106 (nI (no + 1))) := (((Fr.rfl'.sI rfl).sI rfl).sI rfl)
        have R2 : RfOK (sI (sI (sI (acH g) am_kept (89 + 2 * no) (nI p)) am_kept (89 + 2 * no + 1) a2) am_kept 106 (nI (no + 1))) := (((R1.ac.put _ _ _).put _ _ _).put _ _ _)
        have eK : gI (sI (sI (sI (acH g) am_kept (89 + 2 * no) (nI p)) am_kept (89 + 2 * no + 1) a2) am_kept 106 (nI (no + 1))) 102 = tldK (gI h 102) no (nI p) a2 := by
          rw [show am_kept = 102 from rfl, gI_s102, gI_s102, gI_s102, h13]
          rfl
        refine pr_ok (g' := sI (sI (sI (acH g) am_kept (89 + 2 * no) (nI p)) am_kept (89 + 2 * no + 1) a2) am_kept 106 (nI (no + 1))) (h2 := gdH (sI (sI (sI (acH g) am_kept (89 + 2 * no) (nI p)) am_kept (89 + 2 * no + 1) a2) am_kept 106 (nI (no + 1)))) I t Fc R1 (fun Sg Rg e => ?_) Fm R2 (Or.inl rfl) ⟨np, nt, nd, nl, no + 1, LSs, E, US, ?_⟩
        · have t2 := s_told 101 Sg Rg (nI p) a2 V.1 vt.1 ((congrFun e 103).trans k3) ((congrFun e 106).trans k6)
          rw [show mTold (acH g) (nI p) a2 np no = (nI (no + 1), gdH (sI (sI (sI (acH g) am_kept (89 + 2 * no) (nI p)) am_kept (89 + 2 * no + 1) a2) am_kept 106 (nI (no + 1)))) by unfold mTold; rw [if_pos c, if_pos cp, if_neg c2]] at t2
          exact t2
        · refine C1.keep I.1.1 R2 Fc Fm ?_ ?_ (fun j hj => by rw [eK]; exact tldK_o (by omega)) (fo 15 1 (by omega) (by omega) (by omega)) (fun j => (fo 16 j (by omega) (by omega) (by omega)))
          · rw [eK]
            refine C1.1.1.c.gen ((fo 1 0 (by omega) (by omega) (by omega)).trans C1.1.1.c.1) ((fo 1 5 (by omega) (by omega) (by omega)).trans C1.1.1.c.2.1) ((fo 1 9 (by omega) (by omega) (by omega)).trans C1.1.1.c.2.2.1) (f2.trans (show tldK _ _ _ _ 106 = _ from upK_eq _ _ _).symm) ((fo 1 16 (by omega) (by omega) (by omega)).trans C1.1.1.c.2.2.2.2.1) ((fo 1 18 (by omega) (by omega) (by omega)).trans (C1.1.1.c.2.2.2.2.2.1.trans (tldK_o (by omega)).symm)) (fun t ht => ((fo 8 t (by omega) (by omega) (by omega)).trans (C1.1.1.c.2.2.2.2.2.2.2.2.2.2.2.2.1 t ht)).trans (hOf_eqv np (fun q hq => (tldK_o (by have := V.1; omega)).symm))) (fun k j i a => ?_)
            by_cases c0 : k = 11 ∧ j = no
            · refine Or.inr ?_
              rw [c0.1, c0.2, f0]
              unfold arK at a
              rw [show i = 89 + 2 * no by omega]
              exact (tldK_n hn).symm
            by_cases c1 : k = 12 ∧ j = no
            · refine Or.inr ?_
              rw [c1.1, c1.2, f1]
              unfold arK at a
              rw [show i = 90 + 2 * no by omega]
              exact (tldK_k hn).symm
            refine Or.inl ⟨fo k j c0 c1 (by unfold arK at a; omega), tldK_o (by unfold arK at a; omega)⟩
          · rw [eK]
            exact C1.2.1.tld hn (by omega) a2
    · rw [show mToldC h a1 a2 np no = (-nI 2, rcH h 2) by unfold mToldC; rw [if_pos c, if_neg cp]] at t
      refine pr_no (k := 2) I (by omega) t (fun g Sg Rg eg => ?_)
      have t2 := s_told 101 Sg Rg a1 a2 V.1 vt.1 ((congrFun eg 103).trans k3) ((congrFun eg 106).trans k6)
      rw [show mTold g a1 a2 np no = (-nI 2, rfH g 2) by unfold mTold; rw [if_pos c, if_neg cp]] at t2
      exact t2
  · rw [show mToldC h a1 a2 np no = (-nI 1, rcH h 1) by unfold mToldC; rw [if_neg c]] at t
    refine pr_no (k := 1) I (by omega) t (fun g Sg Rg eg => ?_)
    have t2 := s_told 101 Sg Rg a1 a2 V.1 vt.1 ((congrFun eg 103).trans k3) ((congrFun eg 106).trans k6)
    rw [show mTold g a1 a2 np no = (-nI 1, rfH g 1) by unfold mTold; rw [if_neg c]] at t2
    exact t2
theorem p_wish (a1 a2 a3 : Int32) : Pr (Ivt L xs) 103 M_X11_wish M_X12_wish [.int a1, .int a2, .int a3] := by
  intro n h I
  obtain ⟨np, nt, nd, nl, no, LSs, E, US, C1, C2, C3⟩ := I.2.2.1
  have V := C1.2.1.1
  obtain ⟨k3, k4, k5, k6, k7⟩ := C1.2.1.2.2.2.2.2.2.1
  have t := t_wish 101 I.1.1 I.1.2.1 a1 a2 a3 V.1 V.2.1 C1.1.1.2.1 C1.1.1.2.2.1
  by_cases c : inN a3 10 = true
  · by_cases cp : (inN a1 np && inN a2 nt) = true
    · rw [show mWishC h a1 a2 a3 np nt = (gI h (at_hall + 4) (ix a1 * 8 + ix a2), acH (sI h (at_hall + 4) (ix a1 * 8 + ix a2) a3)) by unfold mWishC; rw [if_pos c, if_pos cp]] at t
      have cc := cp
      rw [Bool.and_eq_true] at cc
      have hp6 := V.1
      have ht8 := V.2.1
      obtain ⟨p, hp, rfl⟩ := (inN_iff (by omega)).mp cc.1
      obtain ⟨u, hu, rfl⟩ := (inN_iff (by omega)).mp cc.2
      obtain ⟨v, hv, rfl⟩ := (inN_iff (by omega)).mp c
      rw [ix_nI (show p < 2147483648 by omega), ix_nI (show u < 2147483648 by omega)] at t
      have Fc : Fr hcX h (sI h (at_hall + 4) (p * 8 + u) (nI v)) := (Fr.rfl'.sI rfl)
      have R1 : RfOK (sI h (at_hall + 4) (p * 8 + u) (nI v)) := (I.1.2.1.put _ _ _)
      have fo : ∀ a b, ¬ (a = 5 ∧ b = (p * 8 + u)) → gI (sI h (at_hall + 4) (p * 8 + u) (nI v)) a b = gI h a b := fun a b q0 => by
        show gI (sI h 5 (p * 8 + u) (nI v)) a b = _
        rw [gI_o _ _ q0]
      have f0 : gI (sI h (at_hall + 4) (p * 8 + u) (nI v)) 5 (p * 8 + u) = (nI v) := by
        show gI (sI h 5 (p * 8 + u) (nI v)) 5 (p * 8 + u) = _
        rw [gI_hit]
      generalize sI h (at_hall + 4) (p * 8 + u) (nI v) = g at t Fc R1 fo f0
      have h13 : gI (acH g) 102 = gI h 102 := funext fun j => (ac_I g (by decide) j).trans (Fc.I 102 j rfl)
      have Fm : Fr hkX (acH g) (sI (acH g) am_kept (19 + 8 * p + u) (nI v)) := (Fr.rfl'.sI rfl)
      have R2 : RfOK (sI (acH g) am_kept (19 + 8 * p + u) (nI v)) := (R1.ac.put _ _ _)
      have eK : gI (sI (acH g) am_kept (19 + 8 * p + u) (nI v)) 102 = upK (gI h 102) (19 + (8 * p + u)) (nI v) := by
        rw [show am_kept = 102 from rfl, gI_s102, h13, show 19 + 8 * p + u = 19 + (8 * p + u) by omega]
      refine pr_ok (g' := sI (acH g) am_kept (19 + 8 * p + u) (nI v)) (h2 := gdH (sI (acH g) am_kept (19 + 8 * p + u) (nI v))) I t Fc R1 (fun Sg Rg e => ?_) Fm R2 (Or.inl rfl) ⟨np, nt, nd, nl, no, LSs, E, US, ?_⟩
      · have t2 := s_wish 101 Sg Rg (nI p) (nI u) (nI v) V.1 V.2.1 ((congrFun e 103).trans k3) ((congrFun e 104).trans k4)
        rw [show mWish (acH g) (nI p) (nI u) (nI v) np nt = (gI h (at_hall + 4) (p * 8 + u), gdH (sI (acH g) am_kept (19 + 8 * p + u) (nI v))) by unfold mWish; rw [if_pos c, if_pos cp, ix_nI (show p < 2147483648 by omega), ix_nI (show u < 2147483648 by omega), show gI (acH g) am_kept (19 + 8 * p + u) = gI h (at_hall + 4) (p * 8 + u) from (congrFun h13 (19 + 8 * p + u)).trans ((C1.1.1.c.cel (k := 5) (j := p * 8 + u) (i := 19 + 8 * p + u) (by unfold arK; exact Or.inr (Or.inr (Or.inr (Or.inl ⟨rfl, by omega, by omega⟩))))).symm)]] at t2
        exact t2
      · refine C1.keep I.1.1 R2 Fc Fm ?_ ?_ (fun j hj => by rw [eK]; exact upK_ne _ (by omega)) (fo 15 1 (by omega)) (fun j => (fo 16 j (by omega)))
        · rw [eK]
          refine C1.1.1.c.gen ((fo 1 0 (by omega)).trans C1.1.1.c.1) ((fo 1 5 (by omega)).trans C1.1.1.c.2.1) ((fo 1 9 (by omega)).trans C1.1.1.c.2.2.1) ((fo 1 12 (by omega)).trans (C1.1.1.c.2.2.2.1.trans (upK_ne _ (by omega)).symm)) ((fo 1 16 (by omega)).trans C1.1.1.c.2.2.2.2.1) ((fo 1 18 (by omega)).trans (C1.1.1.c.2.2.2.2.2.1.trans (upK_ne _ (by omega)).symm)) (fun t ht => ((fo 8 t (by omega)).trans (C1.1.1.c.2.2.2.2.2.2.2.2.2.2.2.2.1 t ht)).trans (hOf_eqv np (fun q hq => (upK_ne _ (by have := V.1; omega)).symm))) (fun k j i a => ?_)
          by_cases c0 : k = 5 ∧ j = (p * 8 + u)
          · refine Or.inr ?_
            rw [c0.1, c0.2, f0]
            unfold arK at a
            rw [show i = 19 + (8 * p + u) by omega]
            exact (upK_eq _ _ _).symm
          refine Or.inl ⟨fo k j c0, upK_ne _ (by unfold arK at a; omega)⟩
        · rw [eK]
          exact C1.2.1.wsh hp hu hv
    · rw [show mWishC h a1 a2 a3 np nt = (-nI 2, rcH h 2) by unfold mWishC; rw [if_pos c, if_neg cp]] at t
      refine pr_no (k := 2) I (by omega) t (fun g Sg Rg eg => ?_)
      have t2 := s_wish 101 Sg Rg a1 a2 a3 V.1 V.2.1 ((congrFun eg 103).trans k3) ((congrFun eg 104).trans k4)
      rw [show mWish g a1 a2 a3 np nt = (-nI 2, rfH g 2) by unfold mWish; rw [if_pos c, if_neg cp]] at t2
      exact t2
  · rw [show mWishC h a1 a2 a3 np nt = (-nI 1, rcH h 1) by unfold mWishC; rw [if_neg c]] at t
    refine pr_no (k := 1) I (by omega) t (fun g Sg Rg eg => ?_)
    have t2 := s_wish 101 Sg Rg a1 a2 a3 V.1 V.2.1 ((congrFun eg 103).trans k3) ((congrFun eg 104).trans k4)
    rw [show mWish g a1 a2 a3 np nt = (-nI 1, rfH g 1) by unfold mWish; rw [if_neg c]] at t2
    exact t2
theorem frc_iff {x k : Int32} {nl : Nat} (hl : nl ≤ 6) (hk : k = nI nl) : (decide (-1 ≤ x ∧ x ≤ k - nI 1) = true) ↔ (x = -1 ∨ inN x nl = true) := by
  rw [hk, decide_eq_true_eq]
  unfold inN
  rw [decide_eq_true_eq, i32_le, i32_le, i32_eq]
  have q1 : (-1 : Int32).toInt = -1 := rfl
  rw [q1, pk_sub_toInt (by omega) (by omega)]
  omega
theorem p_force (a1 : Int32) : Pr (Ivt L xs) 103 M_X11_force M_X12_force [.int a1] := by
  intro n h I
  obtain ⟨np, nt, nd, nl, no, LSs, E, US, C1, C2, C3⟩ := I.2.2.1
  have V := C1.2.1.1
  obtain ⟨k3, k4, k5, k6, k7⟩ := C1.2.1.2.2.2.2.2.2.1
  have hl := C1.2.1.2.2.2.2.2.2.2.1
  have t := t_force 101 I.1.1 I.1.2.1 a1 hl C1.1.1.2.2.2.2.2.1
  by_cases c : a1 = -1 ∨ inN a1 nl = true
  · rw [show mForceC h a1 nl = (gI h at_hall fhall_force, acH (sI h at_hall fhall_force a1)) by unfold mForceC; rw [if_pos c]] at t
    have Fc : Fr hcX h (sI h at_hall fhall_force a1) := (Fr.rfl'.sI rfl)
    have R1 : RfOK (sI h at_hall fhall_force a1) := (I.1.2.1.put _ _ _)
    have fo : ∀ a b, ¬ (a = 1 ∧ b = 18) → gI (sI h at_hall fhall_force a1) a b = gI h a b := fun a b q0 => by
      show gI (sI h 1 18 a1) a b = _
      rw [gI_o _ _ q0]
    have f0 : gI (sI h at_hall fhall_force a1) 1 18 = a1 := by
      show gI (sI h 1 18 a1) 1 18 = _
      rw [gI_hit]
    generalize sI h at_hall fhall_force a1 = g at t Fc R1 fo f0
    have h13 : gI (acH g) 102 = gI h 102 := funext fun j => (ac_I g (by decide) j).trans (Fc.I 102 j rfl)
    have Fm : Fr hkX (acH g) (sI (acH g) am_kept 108 a1) := (Fr.rfl'.sI rfl)
    have R2 : RfOK (sI (acH g) am_kept 108 a1) := (R1.ac.put _ _ _)
    have eK : gI (sI (acH g) am_kept 108 a1) 102 = upK (gI h 102) 108 a1 := by
      rw [show am_kept = 102 from rfl, gI_s102, h13]
    refine pr_ok (g' := sI (acH g) am_kept 108 a1) (h2 := gdH (sI (acH g) am_kept 108 a1)) I t Fc R1 (fun Sg Rg e => ?_) Fm R2 (Or.inl rfl) ⟨np, nt, nd, nl, no, LSs, E, US, ?_⟩
    · have t2 := s_force 101 Sg Rg a1
      rw [show mForce (acH g) a1 = (gI h at_hall fhall_force, gdH (sI (acH g) am_kept 108 a1)) by unfold mForce; rw [if_pos ((frc_iff hl ((congrFun h13 107).trans k7)).mpr c), show gI (acH g) am_kept 108 = gI h at_hall fhall_force from (congrFun h13 108).trans C1.1.1.2.2.2.2.2.2.1.symm]] at t2
      exact t2
    · refine C1.keep I.1.1 R2 Fc Fm ?_ ?_ (fun j hj => by rw [eK]; exact upK_ne _ (by omega)) (fo 15 1 (by omega)) (fun j => (fo 16 j (by omega)))
      · rw [eK]
        refine C1.1.1.c.gen ((fo 1 0 (by omega)).trans C1.1.1.c.1) ((fo 1 5 (by omega)).trans C1.1.1.c.2.1) ((fo 1 9 (by omega)).trans C1.1.1.c.2.2.1) ((fo 1 12 (by omega)).trans (C1.1.1.c.2.2.2.1.trans (upK_ne _ (by omega)).symm)) ((fo 1 16 (by omega)).trans C1.1.1.c.2.2.2.2.1) (f0.trans (upK_eq _ _ _).symm) (fun t ht => ((fo 8 t (by omega)).trans (C1.1.1.c.2.2.2.2.2.2.2.2.2.2.2.2.1 t ht)).trans (hOf_eqv np (fun q hq => (upK_ne _ (by have := V.1; omega)).symm))) (fun k j i a => ?_)
        refine Or.inl ⟨fo k j (by unfold arK at a; omega), upK_ne _ (by unfold arK at a; omega)⟩
      · rw [eK]
        refine C1.2.1.frc (c.imp id (fun z => ?_))
        obtain ⟨l, h1, h2⟩ := (inN_iff (by omega)).mp z
        exact ⟨l, h1, h2⟩
  · rw [show mForceC h a1 nl = (-nI 2, rcH h 2) by unfold mForceC; rw [if_neg c]] at t
    refine pr_no (k := 2) I (by omega) t (fun g Sg Rg eg => ?_)
    have t2 := s_force 101 Sg Rg a1
    rw [show mForce g a1 = (-nI 2, rfH g 2) by unfold mForce; rw [if_neg (fun z => c ((frc_iff hl ((congrFun eg 107).trans k7)).mp z))]] at t2
    exact t2
end Pt
