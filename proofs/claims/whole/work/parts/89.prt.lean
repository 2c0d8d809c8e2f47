section Ps
variable {L : Nat} {xs : Nat → Int32}
theorem p_ticket (a1 a2 : Int32) : Pr (Ivt L xs) 103 M_X11_ticket M_X12_ticket [.int a1, .int a2] := by
  intro n h I
  obtain ⟨np, nt, nd, nl, no, LSs, E, US, C1, C2, C3⟩ := I.2.2.1
  have V := C1.2.1.1
  have k4 := C1.2.1.2.2.2.2.2.2.1.2.1
  have t := t_ticket 101 I.1.1 I.1.2.1 a1 a2 V.2.1 C1.1.1.2.2.1
  have en : ∀ g, gI g 102 = gI h 102 → numd g a1 nt = numC h a1 nt := fun g e => nOf_cg nt 0 (fun i _ hi => (congrFun e (67 + i)).trans (C1.1.1.2.2.2.2.2.2.2.2.2.2.2.1 i (by have := V.2.1; omega)).symm)
  by_cases c : canT a1 a2 = true
  · by_cases cn : numC h a1 nt = true
    · rw [show mTicketC h a1 a2 nt = (-nI 3, rcH h 3) by unfold mTicketC; rw [if_pos c, if_pos cn]] at t
      refine pr_no (k := 3) I (by omega) t (fun g Sg Rg eg => ?_)
      have t2 := s_ticket 100 Sg Rg a1 a2 V.2.1 ((congrFun eg 104).trans k4)
      rw [show mTicket g a1 a2 nt = (-nI 3, rfH g 3) by unfold mTicket; rw [if_pos c, if_pos ((en g eg).trans cn)]] at t2
      exact t2
    · by_cases c2 : nt = 8
      · rw [show mTicketC h a1 a2 nt = (-nI 5, rcH h 5) by unfold mTicketC; rw [if_pos c, if_neg cn, if_pos c2]] at t
        refine pr_no (k := 5) I (by omega) t (fun g Sg Rg eg => ?_)
        have t2 := s_ticket 100 Sg Rg a1 a2 V.2.1 ((congrFun eg 104).trans k4)
        rw [show mTicket g a1 a2 nt = (-nI 5, rfH g 5) by unfold mTicket; rw [if_pos c, if_neg (by rw [en g eg]; exact cn), if_pos c2]] at t2
        exact t2
      · rw [show mTicketC h a1 a2 nt = (nI nt, acH (clr (tkH h a1 a2 nt))) by unfold mTicketC; rw [if_pos c, if_neg cn, if_neg c2]] at t
        have hn : nt < 8 := by have := V.2.1; omega
        have cc := c
        rw [Bool.and_eq_true] at cc
        obtain ⟨x, hx, rfl⟩ : ∃ x, (1 ≤ x ∧ x ≤ 99) ∧ a1 = nI x := by
          have q := of_decide_eq_true cc.1
          refine ⟨a1.toInt.toNat, ?_, ?_⟩
          · rw [i32_le, i32_le] at q
            have q1 : (nI 1).toInt = 1 := rfl
            have q2 : (nI 99).toInt = 99 := rfl
            omega
          · rw [i32_le, i32_le] at q
            have q1 : (nI 1).toInt = 1 := rfl
            have q2 : (nI 99).toInt = 99 := rfl
            rw [i32_eq, nI_toInt (by omega)]
            omega
        obtain ⟨k0, hk, rfl⟩ := (inN_iff (by omega)).mp cc.2
        have Fc : Fr hcX h (clr (tkH h (nI x) (nI k0) nt)) := ((((Fr.rfl'.sI rfl).sI rfl).sI rfl).sI rfl)
        have R1 : RfOK (clr (tkH h (nI x) (nI k0) nt)) := ((((I.1.2.1.put _ _ _).put _ _ _).put _ _ _).put _ _ _)
        have fo : ∀ a b, ¬ (a = 6 ∧ b = nt) → ¬ (a = 7 ∧ b = nt) → ¬ (a = 1 ∧ b = 5) → ¬ (a = 15 ∧ b = 1) → gI (clr (tkH h (nI x) (nI k0) nt)) a b = gI h a b := fun a b q0 q1 q2 q3 => by
          show gI (sI (sI (sI (sI h 6 nt (nI x)) 7 nt (nI k0)) 1 5 (nI (nt + 1))) 15 1 (nI 0)) a b = _
          rw [gI_o _ _ q3, gI_o _ _ q2, gI_o _ _ q1, gI_o _ _ q0]
        have f0 : gI (clr (tkH h (nI x) (nI k0) nt)) 6 nt = (nI x) := by
          show gI (sI (sI (sI (sI h 6 nt (nI x)) 7 nt (nI k0)) 1 5 (nI (nt + 1))) 15 1 (nI 0)) 6 nt = _
          rw [gI_o _ _ (by omega), gI_o _ _ (by omega), gI_o _ _ (by omega), gI_hit]
        have f1 : gI (clr (tkH h (nI x) (nI k0) nt)) 7 nt = (nI k0) := by
          show gI (sI (sI (sI (sI h 6 nt (nI x)) 7 nt (nI k0)) 1 5 (nI (nt + 1))) 15 1 (nI 0)) 7 nt = _
          rw [gI_o _ _ (by omega), gI_o _ _ (by omega), gI_hit]
        have f2 : gI (clr (tkH h (nI x) (nI k0) nt)) 1 5 = (nI (nt + 1)) := by
          show gI (sI (sI (sI (sI h 6 nt (nI x)) 7 nt (nI k0)) 1 5 (nI (nt + 1))) 15 1 (nI 0)) 1 5 = _
          rw [gI_o _ _ (by omega), gI_hit]
        have f3 : gI (clr (tkH h (nI x) (nI k0) nt)) 15 1 = (nI 0) := by
          show gI (sI (sI (sI (sI h 6 nt (nI x)) 7 nt (nI k0)) 1 5 (nI (nt + 1))) 15 1 (nI 0)) 15 1 = _
          rw [gI_hit]
        generalize clr (tkH h (nI x) (nI k0) nt) = g at t Fc R1 fo f0 f1 f2 f3
        have h13 : gI (acH g) 102 = gI h 102 := funext fun j => (ac_I g (by decide) j).trans (Fc.I 102 j rfl)
        have Fm : Fr hkX (acH g) (adT (acH g) (nI x) (nI k0) nt) := (((Fr.rfl'.sI rfl).sI rfl).wr 6 (fun _ _ => rfl)).sI rfl
        have R2 : RfOK (adT (acH g) (nI x) (nI k0) nt) := (RfOK.wr ((R1.ac.put _ _ _).put _ _ _) _ _ _ _).put _ _ _
        have eK : gI (adT (acH g) (nI x) (nI k0) nt) 102 = tikK (gI h 102) nt (nI x) (nI k0) := by
          have zz := C1.2.1.2.2.2.2.2.2.2.2.2.2
          have e1 : gI (sI (sI (acH g) 102 (67 + nt) (nI x)) 102 (75 + nt) (nI k0)) 102 = upK (upK (gI h 102) (67 + nt) (nI x)) (75 + nt) (nI k0) := by rw [gI_s102, gI_s102, h13]
          unfold adT
          rw [show am_kept = 102 from rfl, gI_s102]
          unfold tikK
          rw [← e1]
          congr 1
          refine funext fun j => ?_
          unfold tikH
          refine wrI_same 6 (fun i hi => ?_) 102 j
          rw [show am_kept = 102 from rfl, e1, upK_ne _ (by omega), upK_ne _ (by omega), show 19 + 8 * i + nt = 19 + (8 * i + nt) by omega]
          exact zz i nt hi hn (Or.inr (Nat.le_refl _))
        refine pr_ok (g' := adT (acH g) (nI x) (nI k0) nt) (h2 := gaH (adT (acH g) (nI x) (nI k0) nt)) I t Fc R1 (fun Sg Rg e => ?_) Fm R2 (Or.inr rfl) ⟨np, nt + 1, nd, nl, no, LSs, [], [], ?_⟩
        · have t2 := s_ticket 100 Sg Rg (nI x) (nI k0) V.2.1 ((congrFun e 104).trans k4)
          rw [show mTicket (acH g) (nI x) (nI k0) nt = (nI nt, gaH (adT (acH g) (nI x) (nI k0) nt)) by unfold mTicket; rw [if_pos c, if_neg (by rw [en _ h13]; exact cn), if_neg c2]] at t2
          exact t2
        · refine C1.cl I.1.1 R2 Fc Fm ?_ ?_ f3
          · rw [eK]
            refine C1.1.1.c.gen ((fo 1 0 (by omega) (by omega) (by omega) (by omega)).trans C1.1.1.c.1) f2 ((fo 1 9 (by omega) (by omega) (by omega) (by omega)).trans C1.1.1.c.2.2.1) ((fo 1 12 (by omega) (by omega) (by omega) (by omega)).trans (C1.1.1.c.2.2.2.1.trans (tikK_o (by omega)).symm)) ((fo 1 16 (by omega) (by omega) (by omega) (by omega)).trans C1.1.1.c.2.2.2.2.1) ((fo 1 18 (by omega) (by omega) (by omega) (by omega)).trans (C1.1.1.c.2.2.2.2.2.1.trans (tikK_o (by omega)).symm)) (fun t ht => ((fo 8 t (by omega) (by omega) (by omega) (by omega)).trans (C1.1.1.c.2.2.2.2.2.2.2.2.2.2.2.2.1 t ht)).trans (hOf_eqv np (fun q hq => (tikK_o (by have := V.1; omega)).symm))) (fun k j i a => ?_)
            by_cases c0 : k = 6 ∧ j = nt
            · refine Or.inr ?_
              rw [c0.1, c0.2, f0]
              unfold arK at a
              rw [show i = 67 + nt by omega]
              exact (tikK_n hn).symm
            by_cases c1 : k = 7 ∧ j = nt
            · refine Or.inr ?_
              rw [c1.1, c1.2, f1]
              unfold arK at a
              rw [show i = 75 + nt by omega]
              exact (tikK_k hn).symm
            refine Or.inl ⟨fo k j c0 c1 (by unfold arK at a; omega) (by unfold arK at a; omega), tikK_o (by unfold arK at a; omega)⟩
          · rw [eK]
            refine C1.2.1.tik hn hx hk (fun i hi => ?_)
            rw [← show gI h 6 i = _ from C1.1.1.2.2.2.2.2.2.2.2.2.2.2.1 i (by omega)]
            exact nOf_no nt 0 (Bool.eq_false_iff.mpr cn) i (by omega) (by omega)
  · rw [show mTicketC h a1 a2 nt = (-nI 1, rcH h 1) by unfold mTicketC; rw [if_neg c]] at t
    refine pr_no (k := 1) I (by omega) t (fun g Sg Rg eg => ?_)
    have t2 := s_ticket 100 Sg Rg a1 a2 V.2.1 ((congrFun eg 104).trans k4)
    rw [show mTicket g a1 a2 nt = (-nI 1, rfH g 1) by unfold mTicket; rw [if_neg c]] at t2
    exact t2
end Ps
