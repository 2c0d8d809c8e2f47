def muS (k j : Nat) : Bool := iS k j || (tS k j || (dS k j || zS k j))
/-- a call that changes the hall: what it leaves comes by frames -/
theorem Ivt.put {X Y : Nat → Nat → Bool} {L n : Nat} {xs : Nat → Int32} {h h1 h2 : AH} (I : Ivt L xs n h) (F1 : Fr X h h1) (F2 : Fr Y h1 h2) (x1 : ∀ k j, muS k j = true → X k j = false) (x2 : ∀ k j, muS k j = true → Y k j = false) (R2 : RfOK h2) (C2 : ∃ np nt nd nl no LSs E US, CORE h2 np nt nd nl no LSs E US ∧ CAB h2 (gI h2 102) np nt nd nl LSs ∧ CWY h2 (gI h2 102) np nt nd nl no LSs) (A2 : ANSW h2) : Ivt L xs n h2 := by
  obtain ⟨B, Z, -, ⟨I0, I1⟩, T, A, D⟩ := I
  have xi : ∀ k j, iS k j = true → X k j = false := fun k j e => x1 k j (by unfold muS; rw [e]; rfl)
  have xt : ∀ k j, tS k j = true → X k j = false := fun k j e => x1 k j (by unfold muS; rw [e]; simp)
  have xd : ∀ k j, dS k j = true → X k j = false := fun k j e => x1 k j (by unfold muS; rw [e]; simp)
  have xz : ∀ k j, zS k j = true → X k j = false := fun k j e => x1 k j (by unfold muS; rw [e]; simp)
  have yi : ∀ k j, iS k j = true → Y k j = false := fun k j e => x2 k j (by unfold muS; rw [e]; rfl)
  have yt : ∀ k j, tS k j = true → Y k j = false := fun k j e => x2 k j (by unfold muS; rw [e]; simp)
  have yd : ∀ k j, dS k j = true → Y k j = false := fun k j e => x2 k j (by unfold muS; rw [e]; simp)
  have yz : ∀ k j, zS k j = true → Y k j = false := fun k j e => x2 k j (by unfold muS; rw [e]; simp)
  have B2 : BAS L xs n h2 := ⟨F2.S (F1.S B.1), R2, (F2.2.1.trans F1.2.1).trans B.2.2.1, by have := B.2.2.2.1; unfold aN at this ⊢; rw [F2.1, F1.1]; exact this, by have := B.2.2.2.2; unfold aZ at this ⊢; rw [F2.1, F1.1]; exact this⟩
  exact ⟨B2, (Z.fr F1 xz).fr F2 yz, C2, ⟨(I0.fr (by decide) F1 xi).fr (by decide) F2 yi, (I1.fr (by decide) F1 xi).fr (by decide) F2 yi⟩, (T.fr F1 xt).fr F2 yt, A2, (D.fr F1 xd).fr F2 yd⟩
theorem CAB.no {h : AH} {K : Nat → Int32} {np nt nd nl : Nat} {LSs : Nat → List CLE} (e : gI h 52 7 = nI 0) : CAB h K np nt nd nl LSs := ⟨false, e, fun q => (Bool.false_ne_true q).elim⟩
theorem CWY.no {h : AH} {K : Nat → Int32} {np nt nd nl no : Nat} {LSs : Nat → List CLE} (e : gI h 52 8 = nI 0) : CWY h K np nt nd nl no LSs := ⟨false, e, fun q => (Bool.false_ne_true q).elim⟩
theorem ANSW.no {X Y : Nat → Nat → Bool} {h g g' : AH} {k : Nat} (hk : k = 1 ∨ k = 2 ∨ k = 3 ∨ k = 5 ∨ k = 6) (N : ANSW h) (F : Fr X h g) (hx : ∀ k j, nS k j = true → X k j = false) (F' : Fr Y (rcH g k) g') (hy : ∀ k j, nS k j = true → Y k j = false) : ANSW (rfH g' k) := by
  have N1 : ANSW g := N.fr F hx
  have c : ∀ a b, nS a b = true → gI g' a b = gI (rcH g k) a b := fun a b e => F'.I a b (hy a b e)
  unfold ANSW rfH
  unfold ANSW at N1
  simp only [gI_sI]
  simp only [c 0 14 rfl, c 0 15 rfl, c 0 16 rfl, c 100 0 rfl, c 100 6 rfl, c 100 50 rfl, fun j => c 65 j rfl, fun j => c 101 j rfl]
  unfold rcH rfP
  simp only [gI_sI]
  obtain ⟨n1, n2, n3, n4, n5, n6, n7, n8⟩ := N1
  rcases hk with rfl | rfl | rfl | rfl | rfl <;> simp [n2, n3, n4, n5, n6, n7, n8, aM, fm_status, am_refused, at_refusals, ft_latestStatus, at_plan, fplan_aboutKnown, fplan_waysKnown, fm_undoMany]
theorem ANSW.ok {X Y : Nat → Nat → Bool} {h g g' : AH} (N : ANSW h) (F : Fr X h g) (hx : ∀ k j, nS k j = true → X k j = false) (F' : Fr Y (acH g) g') (hy : ∀ k j, nS k j = true → Y k j = false) : ANSW (gdH g') ∧ ANSW (gaH g') := by
  have N1 : ANSW g := N.fr F hx
  have c : ∀ a b, nS a b = true → gI g' a b = gI (acH g) a b := fun a b e => F'.I a b (hy a b e)
  obtain ⟨n1, n2, n3, n4, n5, n6, n7, n8⟩ := N1
  constructor
  · unfold ANSW gdH
    simp only [gI_sI]
    simp only [c 0 14 rfl, c 0 15 rfl, c 0 16 rfl, c 100 0 rfl, c 100 6 rfl, c 100 50 rfl, fun j => c 65 j rfl, fun j => c 101 j rfl]
    unfold acH stH
    simp only [gI_sI]
    simp [n2, n3, n4, n5, n6, n7, n8, aM, fm_status, am_refused, at_refusals, ft_latestStatus, at_plan, fplan_aboutKnown, fplan_waysKnown, fm_undoMany]
  · unfold ANSW gaH
    simp only [gI_sI]
    simp only [c 0 14 rfl, c 0 15 rfl, c 0 16 rfl, c 100 0 rfl, c 100 6 rfl, c 100 50 rfl, fun j => c 65 j rfl, fun j => c 101 j rfl]
    unfold acH stH
    simp only [gI_sI]
    simp [n2, n3, n4, n5, n6, n7, n8, aM, fm_status, am_refused, at_refusals, ft_latestStatus, at_plan, fplan_aboutKnown, fplan_waysKnown, fm_undoMany]
def rcF (k j : Nat) : Bool := k == 65 || (k == 0 && j == 14)
def rfF (k j : Nat) : Bool := k == 101 || (k == 100 && j == 0)
theorem rcF_r (h : AH) (k : Nat) : Fr rcF h (rcH h k) := (Fr.rfl'.sI rfl).sI rfl
theorem rfF_r (h : AH) (k : Nat) : Fr rfF h (rfH h k) := (Fr.rfl'.sI rfl).sI rfl
theorem RfOK.rf {h : AH} (R : RfOK h) (k : Nat) : RfOK (rfH h k) := fun a b c e => R a b c e
/-- refused by both, with nothing changed -/
theorem Ivt.nn {L n : Nat} {xs : Nat → Int32} {h : AH} (I : Ivt L xs n h) {k : Nat} (hk : k = 1 ∨ k = 2 ∨ k = 3 ∨ k = 5 ∨ k = 6) : Ivt L xs n (rfH (rcH h k) k) := by
  obtain ⟨np, nt, nd, nl, no, LSs, E, US, C1, C2, C3⟩ := I.2.2.1
  have F1 := rcF_r h k
  have F2 := rfF_r (rcH h k) k
  have e1 : gI (rcH h k) 102 = gI h 102 := F1.fun (fun _ => rfl)
  have e2 : gI (rfH (rcH h k) k) 102 = gI (rcH h k) 102 := F2.fun (fun _ => rfl)
  have a01 : ∀ k j, cS k j = true → rcF k j = false := by
    intro k j e
    rw [Bool.eq_false_iff]
    intro x
    simp only [cS, rcF, Bool.or_eq_true, Bool.and_eq_true, beq_iff_eq, decide_eq_true_eq] at e x
    omega
  have a2 : ∀ k j, cS k j = true → rfF k j = false := by
    intro k j e
    rw [Bool.eq_false_iff]
    intro x
    simp only [cS, rfF, Bool.or_eq_true, Bool.and_eq_true, beq_iff_eq, decide_eq_true_eq] at e x
    omega
  have m01 : ∀ k j, muS k j = true → rcF k j = false := by
    intro k j e
    rw [Bool.eq_false_iff]
    intro x
    simp only [muS, iS, tS, dS, zS, rcF, Bool.or_eq_true, Bool.and_eq_true, beq_iff_eq, decide_eq_true_eq] at e x
    omega
  have m02 : ∀ k j, muS k j = true → rfF k j = false := by
    intro k j e
    rw [Bool.eq_false_iff]
    intro x
    simp only [muS, iS, tS, dS, zS, rfF, Bool.or_eq_true, Bool.and_eq_true, beq_iff_eq, decide_eq_true_eq] at e x
    omega
  have b1 : ∀ k j, aS k j = true → rcF k j = false := by
    intro k j e
    rw [Bool.eq_false_iff]
    intro x
    simp only [aS, rcF, Bool.or_eq_true, Bool.and_eq_true, beq_iff_eq, decide_eq_true_eq] at e x
    omega
  have b2 : ∀ k j, aS k j = true → rfF k j = false := by
    intro k j e
    rw [Bool.eq_false_iff]
    intro x
    simp only [aS, rfF, Bool.or_eq_true, Bool.and_eq_true, beq_iff_eq, decide_eq_true_eq] at e x
    omega
  have w01 : ∀ k j, wS2 k j = true → rcF k j = false := by
    intro k j e
    rw [Bool.eq_false_iff]
    intro x
    simp only [wS2, rcF, Bool.or_eq_true, Bool.and_eq_true, beq_iff_eq, decide_eq_true_eq] at e x
    omega
  have w02 : ∀ k j, wS2 k j = true → rfF k j = false := by
    intro k j e
    rw [Bool.eq_false_iff]
    intro x
    simp only [wS2, rfF, Bool.or_eq_true, Bool.and_eq_true, beq_iff_eq, decide_eq_true_eq] at e x
    omega
  refine I.put F1 F2 m01 m02 ((I.1.2.1.rc k).rf k) ⟨np, nt, nd, nl, no, LSs, E, US, (C1.fr F1 e1 a01).fr F2 e2 a2, ?_, ?_⟩ (ANSW.no hk I.2.2.2.2.2.1 (X := noX) Fr.rfl' (fun _ _ _ => rfl) (Y := noX) Fr.rfl' (fun _ _ _ => rfl))
  · rw [e2, e1]
    exact (C2.fr F1 b1).fr F2 b2
  · rw [e2, e1]
    exact (C3.fr F1 a01 w01).fr F2 a2 w02
