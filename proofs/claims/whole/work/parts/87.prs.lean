section Pn
variable {L n : Nat} {xs : Nat → Int32} {h : AH}
theorem pr_no {D k : Nat} {Mx Mm : MT} {args : List Value} (I : Ivt L xs n h) (hk : k = 1 ∨ k = 2 ∨ k = 3 ∨ k = 5 ∨ k = 6) (tx : Rp D Mx 0 (entL (.ref 0 :: args) Mx.2.2.1) [] h (fun r h1 => h1 = rcH h k ∧ r = some (.int (-nI k)))) (tm : ∀ g, ShOK g → RfOK g → gI g 102 = gI h 102 → Rp D Mm 0 (entL (.ref 100 :: args) Mm.2.2.1) [] g (fun r h2 => h2 = rfH g k ∧ r = some (.int (-nI k)))) : Rp D Mx 0 (entL (.ref 0 :: args) Mx.2.2.1) [] h (fun r h1 => ∃ v : Int32, r = some (.int v) ∧ Rp D Mm 0 (entL (.ref 100 :: args) Mm.2.2.1) [] h1 (fun r2 h2 => r2 = some (.int v) ∧ Ivt L xs (n + 1) h2)) := by
  refine tx.imp (fun r h1 p => ⟨_, p.2, ?_⟩)
  rw [p.1]
  have F1 := rcF_r h k
  refine (tm (rcH h k) (F1.S I.1.1) (I.1.2.1.rc k) (F1.fun (fun _ => rfl))).imp (fun r2 h2 q => ⟨q.2, ?_⟩)
  rw [q.1]
  exact (I.nn hk).up
theorem pr_ok {D : Nat} {Mx Mm : MT} {args : List Value} {g g' h2 : AH} {v : Int32} (I : Ivt L xs n h) (tx : Rp D Mx 0 (entL (.ref 0 :: args) Mx.2.2.1) [] h (fun r h1 => h1 = acH g ∧ r = some (.int v))) (Fc : Fr hcX h g) (R1 : RfOK g) (tm : ShOK (acH g) → RfOK (acH g) → gI (acH g) 102 = gI h 102 → Rp D Mm 0 (entL (.ref 100 :: args) Mm.2.2.1) [] (acH g) (fun r q => q = h2 ∧ r = some (.int v))) (Fm : Fr hkX (acH g) g') (R2 : RfOK g') (e2 : h2 = gdH g' ∨ h2 = gaH g') (C2 : ∃ np nt nd nl no LSs E US, CORE h2 np nt nd nl no LSs E US) : Rp D Mx 0 (entL (.ref 0 :: args) Mx.2.2.1) [] h (fun r h1 => ∃ v : Int32, r = some (.int v) ∧ Rp D Mm 0 (entL (.ref 100 :: args) Mm.2.2.1) [] h1 (fun r2 h2 => r2 = some (.int v) ∧ Ivt L xs (n + 1) h2)) := by
  refine tx.imp (fun r h1 p => ⟨_, p.2, ?_⟩)
  rw [p.1]
  refine (tm (fun k q hq => Fc.S I.1.1 k q hq) R1.ac (funext fun j => (ac_I g (by decide) j).trans (Fc.I 102 j rfl))).imp (fun r2 h3 q => ⟨q.2, ?_⟩)
  rw [q.1]
  exact (I.set Fc Fm R2 e2 C2).up
theorem p_person (a1 a2 : Int32) : Pr (Ivt L xs) 103 M_X11_person M_X12_person [.int a1, .int a2] := by
  intro n h I
  obtain ⟨np, nt, nd, nl, no, LSs, E, US, C1, C2, C3⟩ := I.2.2.1
  have V := C1.2.1.1
  have k3 := C1.2.1.2.2.2.2.2.2.1.1
  have t := t_person 101 I.1.1 I.1.2.1 a1 a2 V.1 C1.1.1.2.1
  by_cases c : (inN a1 5 && inN a2 100) = true
  · by_cases c2 : np = 6
    · rw [show mPersonC h a1 a2 np = (-nI 5, rcH h 5) by unfold mPersonC; rw [if_pos c, if_pos c2]] at t
      refine pr_no (k := 5) I (by omega) t (fun g Sg Rg eg => ?_)
      have t2 := s_person 101 Sg Rg a1 a2 V.1 ((congrFun eg 103).trans k3)
      rw [show mPerson g a1 a2 np = (-nI 5, rfH g 5) by unfold mPerson; rw [if_pos c, if_pos c2]] at t2
      exact t2
    · have hn : np < 6 := by have := V.1; omega
      rw [show mPersonC h a1 a2 np = (nI np, acH (clr (sI (sI (sI h (at_hall + 1) np a1) (at_hall + 2) np a2) at_hall fhall_people (nI (np + 1))))) by unfold mPersonC; rw [if_pos c, if_neg c2]] at t
      rw [Bool.and_eq_true] at c
      obtain ⟨b, hb, rfl⟩ := (inN_iff (by omega)).mp c.1
      obtain ⟨p, hp, rfl⟩ := (inN_iff (by omega)).mp c.2
      have Fc : Fr hcX h (clr (sI (sI (sI h (at_hall + 1) np (nI b)) (at_hall + 2) np (nI p)) at_hall fhall_people (nI (np + 1)))) := (((Fr.rfl'.sI rfl).sI rfl).sI rfl).sI rfl
      have R1 : RfOK (clr (sI (sI (sI h (at_hall + 1) np (nI b)) (at_hall + 2) np (nI p)) at_hall fhall_people (nI (np + 1)))) := (((I.1.2.1.put _ _ _).put _ _ _).put _ _ _).put _ _ _
      generalize eg : clr (sI (sI (sI h (at_hall + 1) np (nI b)) (at_hall + 2) np (nI p)) at_hall fhall_people (nI (np + 1))) = g at t Fc R1
      have h13 : gI (acH g) 102 = gI h 102 := funext fun j => (ac_I g (by decide) j).trans (Fc.I 102 j rfl)
      have Fm : Fr hkX (acH g) (sI (perH (acH g) (nI b) (nI p) np) am_kept 103 (nI (np + 1))) := ((((Fr.rfl'.sI rfl).sI rfl).sI rfl).wr 8 (fun _ _ => rfl)).sI rfl
      have R2 : RfOK (sI (perH (acH g) (nI b) (nI p) np) am_kept 103 (nI (np + 1))) := (RfOK.wr (((R1.ac.put _ _ _).put _ _ _).put _ _ _) _ _ _ _).put _ _ _
      have eK : gI (sI (perH (acH g) (nI b) (nI p) np) am_kept 103 (nI (np + 1))) 102 = perK (gI h 102) np (nI b) (nI p) := by
        have zz := C1.2.1.2.2.2.2.2.2.2.2.2.2
        have e1 : gI (sI (sI (sI (acH g) 102 (7 + np) (nI b)) 102 (13 + np) (nI p)) 102 np (-1)) 102 = upK (upK (gI h 102) (7 + np) (nI b)) (13 + np) (nI p) := by
          rw [gI_s102, gI_s102, gI_s102, h13]
          refine funext fun j => ?_
          by_cases cj : j = np
          · have e : gI h 102 np = -1 := (V.2.2.1 np hn).resolve_right (fun z => absurd z.1 (by omega))
            rw [cj, upK_eq, upK_ne _ (by omega), upK_ne _ (by omega), e]
          · rw [upK_ne _ cj]
        rw [show am_kept = 102 from rfl, gI_s102]
        unfold perK
        rw [← e1]
        congr 1
        refine funext fun j => ?_
        unfold perH
        refine wrI_same 8 (fun i hi => ?_) 102 j
        rw [show am_kept = 102 from rfl, e1, upK_ne _ (by omega), upK_ne _ (by omega), show 19 + 8 * np + i = 19 + (8 * np + i) by omega]
        exact zz np i hn hi (Or.inl (Nat.le_refl _))
      refine pr_ok (g' := sI (perH (acH g) (nI b) (nI p) np) am_kept 103 (nI (np + 1))) (h2 := gaH (sI (perH (acH g) (nI b) (nI p) np) am_kept 103 (nI (np + 1)))) I t Fc R1 (fun Sg Rg e => ?_) Fm R2 (Or.inr rfl) ⟨np + 1, nt, nd, nl, no, LSs, [], [], ?_⟩
      · have t2 := s_person 101 Sg Rg (nI b) (nI p) V.1 ((congrFun e 103).trans k3)
        rw [show mPerson (acH g) (nI b) (nI p) np = (nI np, gaH (sI (perH (acH g) (nI b) (nI p) np) am_kept 103 (nI (np + 1)))) by unfold mPerson; rw [if_pos (by rw [c.1, c.2]; rfl), if_neg c2]] at t2
        exact t2
      · refine C1.cl I.1.1 R2 Fc Fm ?_ ?_ ?_
        · rw [eK]
          refine C1.1.1.c.per V hn (nI b) (nI p) ?_ (fun j hj => ?_) (fun j => ?_) (fun j => ?_) (fun k j h1 h2 => ?_)
          · rw [← eg]; rfl
          · rw [← eg]
            show gI (sI (sI (sI (sI h 2 np (nI b)) 3 np (nI p)) 1 0 (nI (np + 1))) 15 1 (nI 0)) 1 j = _
            rw [gI_ne _ _ _ _ (by decide), gI_off _ _ _ hj, gI_ne _ _ _ _ (by decide), gI_ne _ _ _ _ (by decide)]
          · rw [← eg]
            show gI (sI (sI (sI (sI h 2 np (nI b)) 3 np (nI p)) 1 0 (nI (np + 1))) 15 1 (nI 0)) 2 j = _
            rw [gI_ne _ _ _ _ (by decide), gI_ne _ _ _ _ (by decide), gI_ne _ _ _ _ (by decide), gI_at]
          · rw [← eg]
            show gI (sI (sI (sI (sI h 2 np (nI b)) 3 np (nI p)) 1 0 (nI (np + 1))) 15 1 (nI 0)) 3 j = _
            rw [gI_ne _ _ _ _ (by decide), gI_ne _ _ _ _ (by decide), gI_at, gI_ne _ _ _ _ (by decide)]
          · rw [← eg]
            show gI (sI (sI (sI (sI h 2 np (nI b)) 3 np (nI p)) 1 0 (nI (np + 1))) 15 1 (nI 0)) k j = _
            rw [gI_ne _ _ _ _ (by omega), gI_ne _ _ _ _ (by omega), gI_ne _ _ _ _ (by omega), gI_ne _ _ _ _ (by omega)]
        · rw [eK]
          exact C1.2.1.per hn hb hp
        · rw [← eg]; rfl
  · rw [show mPersonC h a1 a2 np = (-nI 1, rcH h 1) by unfold mPersonC; rw [if_neg c]] at t
    refine pr_no (k := 1) I (by omega) t (fun g Sg Rg eg => ?_)
    have t2 := s_person 101 Sg Rg a1 a2 V.1 ((congrFun eg 103).trans k3)
    rw [show mPerson g a1 a2 np = (-nI 1, rfH g 1) by unfold mPerson; rw [if_neg c]] at t2
    exact t2
end Pn
