theorem Rp.imp {d : Nat} {M : MT} {pc : Nat} {ls : List (Option Value)} {st : List Value} {h : AH} {P Q : Option Value → AH → Prop} (H : Rp d M pc ls st h P) (k : ∀ r g, P r g → Q r g) : Rp d M pc ls st h Q := by
  obtain ⟨v, g, j, p⟩ := H
  exact ⟨v, g, j, k v g p⟩
/-- a pair that changes nothing that is looked at later -/
theorem pq {L : Nat} {xs : Nat → Int32} (f : (Nat → Int32) → Nat → Nat → Nat → Nat → Nat → (Nat → List CLE) → Int32) {X Y : Nat → Nat → Bool} (lX : ∀ k j, Lv k j = true → X k j = false) (lY : ∀ k j, Lv k j = true → Y k j = false) {D : Nat} {Mx Mm : MT} {args : List Value}
    (tx : ∀ h np nt nd nl no LSs E US, ShOK h → RfOK h → ZER h → CORE h np nt nd nl no LSs E US → Rp D Mx 0 (entL (.ref 0 :: args) Mx.2.2.1) [] h (fun r g => r = some (.int (f (gI h 102) np nt nd nl no LSs)) ∧ Fr X h g ∧ RfOK g ∧ gI g 102 = gI h 102))
    (tm : ∀ h np nt nd nl no LSs E US, ShOK h → RfOK h → CORE h np nt nd nl no LSs E US → Rp D Mm 0 (entL (.ref 100 :: args) Mm.2.2.1) [] h (fun r g => r = some (.int (f (gI h 102) np nt nd nl no LSs)) ∧ Fr Y h g ∧ RfOK g ∧ gI g 102 = gI h 102)) : Pr (Ivt L xs) D Mx Mm args := by
  intro n h I
  obtain ⟨np, nt, nd, nl, no, LSs, E, US, C1, C2, C3⟩ := I.2.2.1
  refine (tx h np nt nd nl no LSs E US I.1.1 I.1.2.1 I.2.1 C1).imp (fun r h1 p => ⟨_, p.1, ?_⟩)
  have C1' := C1.fr p.2.1 p.2.2.2 (fun k j e => lX k j (by unfold Lv; rw [e]; rfl))
  have I1 := I.fr p.2.1 p.2.2.1 p.2.2.2 lX
  refine (tm h1 np nt nd nl no LSs E US I1.1.1 I1.1.2.1 C1').imp (fun r2 h2 q => ⟨?_, (I1.fr q.2.1 q.2.2.1 q.2.2.2 lY).up⟩)
  rw [← p.2.2.2]
  exact q.1
def noX (_k _j : Nat) : Bool := false
theorem lv_no : ∀ k j, Lv k j = true → noX k j = false := fun _ _ _ => rfl
theorem lv_bjX : ∀ k j, Lv k j = true → bjX k j = false := by
  intro k j e
  rw [Bool.eq_false_iff]
  intro x
  simp only [Lv, cS, aS, wS2, iS, tS, nS, dS, zS, bjX, bX, jX, Bool.or_eq_true, Bool.and_eq_true, beq_iff_eq, decide_eq_true_eq] at e x
  omega
theorem lv_tlX : ∀ k j, Lv k j = true → tlX k j = false := by
  intro k j e
  rw [Bool.eq_false_iff]
  intro x
  simp only [Lv, cS, aS, wS2, iS, tS, nS, dS, zS, tlX, Bool.or_eq_true, Bool.and_eq_true, beq_iff_eq, decide_eq_true_eq] at e x
  omega
theorem lv_tzX : ∀ k j, Lv k j = true → tzX k j = false := by
  intro k j e
  rw [Bool.eq_false_iff]
  intro x
  simp only [Lv, cS, aS, wS2, iS, tS, nS, dS, zS, tzX, soX, pdX, bX, liX, wyX, plX, dX, jX, Bool.or_eq_true, Bool.and_eq_true, beq_iff_eq, decide_eq_true_eq] at e x
  omega
theorem lv_mdX : ∀ k j, Lv k j = true → mdX k j = false := by
  intro k j e
  rw [Bool.eq_false_iff]
  intro x
  simp only [Lv, cS, aS, wS2, iS, tS, nS, dS, zS, mdX, tlX, Bool.or_eq_true, Bool.and_eq_true, beq_iff_eq, decide_eq_true_eq] at e x
  omega
theorem lv_tmX : ∀ k j, Lv k j = true → tmX k j = false := by
  intro k j e
  rw [Bool.eq_false_iff]
  intro x
  simp only [Lv, cS, aS, wS2, iS, tS, nS, dS, zS, tmX, mdX, tlX, Bool.or_eq_true, Bool.and_eq_true, beq_iff_eq, decide_eq_true_eq] at e x
  omega
theorem lv_trZ : ∀ k j, Lv k j = true → trZ k j = false := by
  intro k j e
  rw [Bool.eq_false_iff]
  intro x
  simp only [Lv, cS, aS, wS2, iS, tS, nS, dS, zS, trZ, bX, trX, jX, t5X, Bool.or_eq_true, Bool.and_eq_true, beq_iff_eq, decide_eq_true_eq] at e x
  omega
theorem lv_mtX : ∀ k j, Lv k j = true → mtX k j = false := by
  intro k j e
  rw [Bool.eq_false_iff]
  intro x
  simp only [Lv, cS, aS, wS2, iS, tS, nS, dS, zS, mtX, mpX, tlX, Bool.or_eq_true, Bool.and_eq_true, beq_iff_eq, decide_eq_true_eq] at e x
  omega
theorem lv_f67 : ∀ k j, Lv k j = true → fwX 67 k j = false := by
  intro k j e
  rw [Bool.eq_false_iff]
  intro x
  simp only [Lv, cS, aS, wS2, iS, tS, nS, dS, zS, fwX, Bool.or_eq_true, Bool.and_eq_true, beq_iff_eq, decide_eq_true_eq] at e x
  omega
theorem lv_f126 : ∀ k j, Lv k j = true → fwX 126 k j = false := by
  intro k j e
  rw [Bool.eq_false_iff]
  intro x
  simp only [Lv, cS, aS, wS2, iS, tS, nS, dS, zS, fwX, Bool.or_eq_true, Bool.and_eq_true, beq_iff_eq, decide_eq_true_eq] at e x
  omega
section Pq
variable {L : Nat} {xs : Nat → Int32}
theorem p_both (a1 : Int32) : Pr (Ivt L xs) 103 M_X11_both M_X12_both [.int a1] :=
  pq (fun K np nt nd nl no LSs => btA K (flO nl LSs (K 108)) np a1) lv_bjX lv_tlX
    (fun h np nt nd nl no LSs E US S R Z C => (t_both _ S R C.1 C.2.1.1 C.2.1.2.1 Z.1 a1).imp (fun r g p => ⟨p.1, p.2.1, p.2.1.R R (by decide), p.2.1.fun (fun _ => rfl)⟩))
    (fun h np nt nd nl no LSs E US S R C => (s_both _ (C.ma S R) a1).imp (fun r g p => ⟨p.1, p.2.1, p.2.1.R R (by decide), p.2.2⟩))
theorem p_desks (a1 a2 : Int32) : Pr (Ivt L xs) 103 M_X11_desks M_X12_desks [.int a1, .int a2] :=
  pq (fun K np nt nd nl no LSs => dsA K (flO nl LSs (K 108)) nd np nt a1 a2) lv_tzX lv_mdX
    (fun h np nt nd nl no LSs E US S R Z C => (t_desks _ S R C.1 C.2.1.1 C.2.1.2.1 C.2.1.2.2.1 C.2.1.2.2.2.1 Z.1 a1 a2).imp (fun r g p => ⟨p.1, p.2.1, p.2.1.R R (by decide), p.2.1.fun (fun _ => rfl)⟩))
    (fun h np nt nd nl no LSs E US S R C => (s_desks _ (C.mb S R) a1 a2).imp (fun r g p => ⟨p.1, p.2.1, p.2.1.R R (by decide), p.2.2⟩))
theorem p_trade (a1 : Int32) : Pr (Ivt L xs) 103 M_X11_trade M_X12_trade [.int a1] :=
  pq (fun K np nt nd nl no LSs => trA K (flO nl LSs (K 108)) np nt a1) lv_trZ lv_mtX
    (fun h np nt nd nl no LSs E US S R Z C => (t_trade _ S R C.1 C.2.1.1 C.2.1.2.1 C.2.1.2.2.2.2.2.1 Z.1 a1).imp (fun r g p => ⟨p.1, p.2.1, p.2.2.1, p.2.1.fun (fun _ => rfl)⟩))
    (fun h np nt nd nl no LSs E US S R C => (s_trade _ (C.ma S R) C.2.1.2.2.2.2.2.1 a1).imp (fun r g p => ⟨p.1, p.2, p.2.R R (by decide), p.2.fun (fun _ => rfl)⟩))
theorem p_take (a1 : Int32) : Pr (Ivt L xs) 103 M_X11_take M_X12_take [.int a1] :=
  pq (fun K np nt nd nl no LSs => tkA K (flO nl LSs (K 108)) nd np nt a1) lv_tzX lv_tmX
    (fun h np nt nd nl no LSs E US S R Z C => (t_take _ S R C.1 C.2.1.1 C.2.1.2.1 C.2.1.2.2.1 C.2.1.2.2.2.1 Z.1 a1).imp (fun r g p => ⟨p.1, p.2.1, p.2.1.R R (by decide), p.2.1.fun (fun _ => rfl)⟩))
    (fun h np nt nd nl no LSs E US S R C => (s_take _ (C.ma S R) C.2.1.2.2.2.1 C.2.1.2.2.1 C.2.1.2.2.2.2.2.2.1.2.2.1 a1).imp (fun r g p => ⟨p.1, p.2.1, p.2.1.R R (by decide), p.2.2⟩))
theorem p_at (a1 a2 : Int32) : Pr (Ivt L xs) 103 M_X11_at M_X12_at [.int a1, .int a2] :=
  pq (fun K np nt nd nl no LSs => if inN a1 nt then (if a2 = nI 0 then K (67 + ix a1) else if a2 = nI 1 then K (75 + ix a1) else if a2 = nI 2 then hOf K a1 np else -1) else -1) lv_no lv_no
    (fun h np nt nd nl no LSs E US S R Z C => (t_at _ S R a1 a2 C.2.1.1.2.1 C.1.1.2.2.1).imp (fun r g p => by
      obtain ⟨rfl, rfl⟩ := p
      refine ⟨?_, Fr.rfl', R, rfl⟩
      unfold mAtC
      by_cases c : inN a1 nt = true
      · obtain ⟨q, hq, rfl⟩ := (inN_iff (by have := C.2.1.1.2.1; omega)).mp c
        have h8 : q < 8 := by have := C.2.1.1.2.1; omega
        rw [if_pos c, if_pos c, ix_nI (by omega)]
        have e5 := C.1.1.2.2.2.2.2.2.2.2.2.2.2.1 q h8
        have e6 := C.1.1.2.2.2.2.2.2.2.2.2.2.2.2.1 q h8
        have e7 := C.1.1.2.2.2.2.2.2.2.2.2.2.2.2.2.1 q h8
        rw [show gI g (at_hall + 5) q = _ from e5, show gI g (at_hall + 6) q = _ from e6, show gI g (at_hall + 7) q = _ from e7]
      · rw [if_neg c, if_neg c]))
    (fun h np nt nd nl no LSs E US S R C => (s_at _ S R a1 a2 C.2.1.1.1 C.2.1.1.2.1 C.2.1.2.2.2.2.2.2.1.1 C.2.1.2.2.2.2.2.2.1.2.1).imp (fun r g p => by
      obtain ⟨rfl, rfl⟩ := p
      exact ⟨rfl, Fr.rfl', R, rfl⟩))
theorem p_status : Pr (Ivt L xs) 103 M_X11_status M_X12_status [] := by
  intro n h I
  refine (t_status _ I.1.1).imp (fun r h1 p => ?_)
  obtain ⟨rfl, rfl⟩ := p
  refine ⟨_, rfl, (s_status _ I.1.1).imp (fun r2 h2 q => ?_)⟩
  obtain ⟨rfl, rfl⟩ := q
  exact ⟨congrArg (fun x => some (Value.int x)) I.2.2.2.2.2.1.1.symm, I.up⟩
theorem p_scraps : Pr (Ivt L xs) 103 M_X11_scraps M_X12_scraps [] := by
  intro n h I
  refine (t_scraps _ I.1.1).imp (fun r h1 p => ?_)
  obtain ⟨rfl, rfl⟩ := p
  refine ⟨_, rfl, (s_scraps _ I.1.1).imp (fun r2 h2 q => ?_)⟩
  obtain ⟨rfl, rfl⟩ := q
  exact ⟨congrArg (fun x => some (Value.int x)) I.2.2.2.2.2.1.2.1.symm, I.up⟩
theorem p_stopped : Pr (Ivt L xs) 103 M_X11_stopped M_X12_stopped [] := by
  intro n h I
  refine (t_stopped _ I.1.1).imp (fun r h1 p => ?_)
  obtain ⟨rfl, rfl⟩ := p
  refine ⟨_, rfl, (s_stopped _ I.1.1).imp (fun r2 h2 q => ?_)⟩
  obtain ⟨rfl, rfl⟩ := q
  exact ⟨congrArg (fun x => some (Value.int x)) I.2.2.2.2.2.1.2.2.1.symm, I.up⟩
theorem p_fault : Pr (Ivt L xs) 103 M_X11_fault M_X12_fault [] := by
  intro n h I
  obtain ⟨Lt, h1, h2, h3, h4, h5, h6, h7⟩ := I.2.2.2.2.1
  refine (t_fault _ I.1.1 I.1.2.1).imp (fun r h1 p => ?_)
  obtain ⟨rfl, rfl⟩ := p
  refine ⟨_, rfl, (s_fault _ I.1.1).imp (fun r2 h2 q => ?_)⟩
  obtain ⟨rfl, rfl⟩ := q
  exact ⟨congrArg (fun x => some (Value.int x)) h6.symm, I.up⟩
theorem p_drawn (a1 : Int32) : Pr (Ivt L xs) 103 M_X11_drawn M_X12_drawn [.int a1] := by
  intro n h I
  obtain ⟨m, hm, e58, ed⟩ := I.2.2.2.2.2.2
  have hbd : decide (nI 0 ≤ a1 ∧ a1 ≤ gI h 100 58 - nI 1) = inN a1 m := by
    rcases e58 with e | ⟨e0, e⟩
    · rw [e]
      exact inN_lies (by omega)
    · rw [e, e0]
      unfold inN
      refine decide_eq_decide.mpr ?_
      simp only [i32_le]
      have q1 : (nI 0).toInt = 0 := rfl
      have q2 : (-1 - nI 1 : Int32).toInt = -2 := rfl
      rw [q1, q2]
      omega
  refine (t_drawn _ I.1.1 I.1.2.1 a1).imp (fun r h1 p => ?_)
  obtain ⟨rfl, rfl⟩ := p
  refine ⟨_, rfl, (s_drawn _ I.1.1 I.1.2.1 a1 (fun w => ?_)).imp (fun r2 h2 q => ?_)⟩
  · rw [show decide (nI 0 ≤ a1 ∧ a1 ≤ gI h1 aM fm_drawnMany - nI 1) = inN a1 m from hbd] at w
    obtain ⟨q, hq, rfl⟩ := (inN_iff (by omega)).mp w
    exact inN_nI (by omega) (by omega)
  · obtain ⟨rfl, rfl⟩ := q
    refine ⟨?_, I.up⟩
    unfold mDrawn mDrawnC
    rw [show decide (nI 0 ≤ a1 ∧ a1 ≤ gI h2 aM fm_drawnMany - nI 1) = inN a1 m from hbd]
    by_cases c : inN a1 6 = true
    · obtain ⟨q, hq, rfl⟩ := (inN_iff (by omega)).mp c
      rw [if_pos c, ix_nI (by omega), show gI h2 at_drawnTickets q = _ from ed q hq]
      by_cases c2 : q < m
      · rw [inN_nI c2 (by omega), if_pos c2, if_pos rfl]
      · rw [if_neg c2, if_neg]
        intro w
        obtain ⟨q2, hq2, e⟩ := (inN_iff (by omega)).mp w
        exact c2 (nI_inj (by omega) (by omega) e ▸ hq2)
    · rw [if_neg c, if_neg]
      intro w
      obtain ⟨q2, hq2, rfl⟩ := (inN_iff (by omega)).mp w
      exact c (inN_nI (by omega) (by omega))
theorem p_few (a1 a2 : Int32) : PrL (Ivt L xs) 103 M_X11_few M_X12_few [.int a1, .int a2] := by
  intro n h I
  obtain ⟨np, nt, nd, nl, no, LSs, E, US, C1, C2, C3⟩ := I.2.2.1
  refine (t_few _ I.1.1 I.1.2.1 a1 a2).imp (fun r h1 p => ⟨_, p.2, ?_⟩)
  have I1 := I.fr p.1 (p.1.R I.1.2.1 (by decide)) (p.1.fun (fun _ => rfl)) lv_f67
  refine (s_few _ I1.1.1 I1.1.2.1 a1 a2).imp (fun r2 h2 q => ⟨?_, (I1.fr q.1 (q.1.R I1.1.2.1 (by decide)) (q.1.fun (fun _ => rfl)) lv_f126).up⟩)
  have e : gI h 13 1 = gI h 102 101 := C1.1.1.2.2.2.2.2.2.2.2.2.2.2.2.2.2.2.2.2.2.2.1
  rw [e, ← p.1.I 102 101 rfl]
  exact q.2
end Pq
