def ocX (k j : Nat) : Bool := (decide (1 ≤ k) && decide (k < 33)) || ((k == 0 && (j == 14 || j == 16)) || (k == 35 || (k == 37 || (k == 38 || (k == 39 || (k == 40 || (k == 42 || (k == 43 || (k == 44 || (k == 63 || (k == 64 || k == 65)))))))))))
def omX (k j : Nat) : Bool := (k == 100 && decide (j ≠ 6 ∧ j ≠ 58)) || (k == 101 || (k == 102 || (k == 105 || ((decide (109 ≤ k) && decide (k ≤ 114)) || k == 127))))
def opX (k j : Nat) : Bool := ocX k j || (omX k j || (k == 52 && (j == 7 || j == 8)))
theorem opX_c {h g : AH} (F : Fr ocX h g) : Fr opX h g := F.weak (fun k j e => by unfold opX at e; rw [Bool.or_eq_false_iff] at e; exact e.1)
theorem opX_m {h g : AH} (F : Fr omX h g) : Fr opX h g := F.weak (fun k j e => by unfold opX at e; rw [Bool.or_eq_false_iff, Bool.or_eq_false_iff] at e; exact e.2.1)
def oaX (k j : Nat) : Bool := (k == 0 && (j == 14 || j == 16)) || (k == 35 || (k == 37 || (k == 38 || (k == 39 || (k == 65 || ((k == 100 && decide (j ≠ 6 ∧ j ≠ 58 ∧ j ≠ 32)) || (k == 101 || (decide (109 ≤ k) && decide (k ≤ 111)))))))))
theorem ocX_rd {h g : AH} (F : Fr rdX h g) : Fr ocX h g := F.weak (fun k j hx => by
  rw [Bool.eq_false_iff] at hx ⊢
  intro x
  refine hx ?_
  simp only [ocX, rdX, rcX, rX, Bool.or_eq_true, Bool.and_eq_true, beq_iff_eq, decide_eq_true_eq] at x ⊢
  omega)
theorem ocX_ow {h g : AH} (F : Fr owX h g) : Fr ocX h g := F.weak (fun k j hx => by
  rw [Bool.eq_false_iff] at hx ⊢
  intro x
  refine hx ?_
  simp only [ocX, owX, hlX, bX, orX, otX, tkX, aX, jX, hX, lX, loX, oX, Bool.or_eq_true, Bool.and_eq_true, beq_iff_eq, decide_eq_true_eq] at x ⊢
  omega)
theorem ocX_h1 {h g : AH} (F : Fr (hlX 1) h g) : Fr ocX h g := F.weak (fun k j hx => by
  rw [Bool.eq_false_iff] at hx ⊢
  intro x
  refine hx ?_
  simp only [ocX, hlX, Bool.or_eq_true, Bool.and_eq_true, beq_iff_eq, decide_eq_true_eq] at x ⊢
  omega)
theorem omX_rs {h g : AH} (F : Fr rsX h g) : Fr omX h g := F.weak (fun k j hx => by
  rw [Bool.eq_false_iff] at hx ⊢
  intro x
  refine hx ?_
  simp only [omX, rsX, Bool.or_eq_true, Bool.and_eq_true, beq_iff_eq, decide_eq_true_eq] at x ⊢
  omega)
theorem omX_mo {h g : AH} (F : Fr moX h g) : Fr omX h g := F.weak (fun k j hx => by
  rw [Bool.eq_false_iff] at hx ⊢
  intro x
  refine hx ?_
  simp only [omX, moX, rnX, gaX, tlX, gbX, obX, amX, kpX, Bool.or_eq_true, Bool.and_eq_true, beq_iff_eq, decide_eq_true_eq] at x ⊢
  omega)
theorem oaX_rd {h g : AH} (F : Fr rdX h g) : Fr oaX h g := F.weak (fun k j hx => by
  rw [Bool.eq_false_iff] at hx ⊢
  intro x
  refine hx ?_
  simp only [oaX, rdX, rcX, rX, Bool.or_eq_true, Bool.and_eq_true, beq_iff_eq, decide_eq_true_eq] at x ⊢
  omega)
theorem oaX_rs {h g : AH} (F : Fr rsX h g) : Fr oaX h g := F.weak (fun k j hx => by
  rw [Bool.eq_false_iff] at hx ⊢
  intro x
  refine hx ?_
  simp only [oaX, rsX, Bool.or_eq_true, Bool.and_eq_true, beq_iff_eq, decide_eq_true_eq] at x ⊢
  omega)
theorem oa_c : ∀ k j, cS k j = true → oaX k j = false := by
  intro k j e
  rw [Bool.eq_false_iff]
  intro x
  simp only [cS, oaX, Bool.or_eq_true, Bool.and_eq_true, beq_iff_eq, decide_eq_true_eq] at e x
  omega
theorem oa_a : ∀ k j, aS k j = true → oaX k j = false := by
  intro k j e
  rw [Bool.eq_false_iff]
  intro x
  simp only [aS, oaX, Bool.or_eq_true, Bool.and_eq_true, beq_iff_eq, decide_eq_true_eq] at e x
  omega
theorem oa_w : ∀ k j, wS2 k j = true → oaX k j = false := by
  intro k j e
  rw [Bool.eq_false_iff]
  intro x
  simp only [wS2, oaX, Bool.or_eq_true, Bool.and_eq_true, beq_iff_eq, decide_eq_true_eq] at e x
  omega
theorem oa_i : ∀ k j, iS k j = true → oaX k j = false := by
  intro k j e
  rw [Bool.eq_false_iff]
  intro x
  simp only [iS, oaX, Bool.or_eq_true, Bool.and_eq_true, beq_iff_eq, decide_eq_true_eq] at e x
  omega
theorem oa_d : ∀ k j, dS k j = true → oaX k j = false := by
  intro k j e
  rw [Bool.eq_false_iff]
  intro x
  simp only [dS, oaX, Bool.or_eq_true, Bool.and_eq_true, beq_iff_eq, decide_eq_true_eq] at e x
  omega
theorem oa_z : ∀ k j, zS k j = true → oaX k j = false := by
  intro k j e
  rw [Bool.eq_false_iff]
  intro x
  simp only [zS, oaX, Bool.or_eq_true, Bool.and_eq_true, beq_iff_eq, decide_eq_true_eq] at e x
  omega
theorem op_i : ∀ k j, iS k j = true → opX k j = false := by
  intro k j e
  rw [Bool.eq_false_iff]
  intro x
  simp only [iS, opX, ocX, omX, Bool.or_eq_true, Bool.and_eq_true, beq_iff_eq, decide_eq_true_eq] at e x
  omega
theorem op_d : ∀ k j, dS k j = true → opX k j = false := by
  intro k j e
  rw [Bool.eq_false_iff]
  intro x
  simp only [dS, opX, ocX, omX, Bool.or_eq_true, Bool.and_eq_true, beq_iff_eq, decide_eq_true_eq] at e x
  omega
theorem rc65 {h g : AH} {k : Nat} (e : ∀ j, gI g 65 j = gI h 65 j) (j : Nat) : gI (rcH g k) 65 j = gI (rcH h k) 65 j := by
  show gI (sI (sI g 0 14 (-nI k)) 65 (rfP k) (gI g 65 (rfP k) + nI 1)) 65 j = gI (sI (sI h 0 14 (-nI k)) 65 (rfP k) (gI h 65 (rfP k) + nI 1)) 65 j
  rw [gI_at, gI_at, gI_ne _ _ _ _ (by decide), gI_ne _ _ _ _ (by decide), e, e]
theorem rf101 {h g : AH} {k : Nat} (e : ∀ j, gI g 101 j = gI h 101 j) (j : Nat) : gI (rfH g k) 101 j = gI (rfH h k) 101 j := by
  show gI (sI (sI g 100 0 (-nI k)) 101 k (gI g 101 k + nI 1)) 101 j = gI (sI (sI h 100 0 (-nI k)) 101 k (gI h 101 k + nI 1)) 101 j
  rw [gI_at, gI_at, gI_ne _ _ _ _ (by decide), gI_ne _ _ _ _ (by decide), e, e]
theorem rfH_I (h : AH) (k : Nat) {a : Nat} (ha : a ≠ 100 ∧ a ≠ 101) (j : Nat) : gI (rfH h k) a j = gI h a j := (gI_ne _ _ _ _ ha.2).trans (gI_ne _ _ _ _ ha.1)
theorem rcH_I (h : AH) (k : Nat) {a : Nat} (ha : a ≠ 0 ∧ a ≠ 65) (j : Nat) : gI (rcH h k) a j = gI h a j := (gI_ne _ _ _ _ ha.2).trans (gI_ne _ _ _ _ ha.1)
theorem rfH_0 (h : AH) (k : Nat) : gI (rfH h k) 100 0 = -nI k := (gI_ne _ _ _ _ (by decide)).trans (gI_hit _ _ _ _)
theorem rcH_0 (h : AH) (k : Nat) : gI (rcH h k) 0 14 = -nI k := (gI_ne _ _ _ _ (by decide)).trans (gI_hit _ _ _ _)
theorem rfH_1 (h : AH) (k : Nat) {j : Nat} (hj : j ≠ 0) : gI (rfH h k) 100 j = gI h 100 j := (gI_ne _ _ _ _ (by decide)).trans (gI_off _ _ _ hj)
theorem rcH_1 (h : AH) (k : Nat) {j : Nat} (hj : j ≠ 14) : gI (rcH h k) 0 j = gI h 0 j := (gI_ne _ _ _ _ (by decide)).trans (gI_off _ _ _ hj)
theorem ANSW.ref {h h2 : AH} {k : Nat} (hk : k = 1 ∨ k = 2 ∨ k = 3 ∨ k = 5 ∨ k = 6) (N : ANSW h) (a : gI h2 0 14 = gI h2 100 0) (b : gI h2 0 15 = gI h2 100 6) (c : gI h2 0 16 = gI h2 100 50) (d : ∀ j, gI h2 65 j = gI (rcH h k) 65 j) (e : ∀ j, gI h2 101 j = gI (rfH h k) 101 j) : ANSW h2 := by
  have N' : ANSW (rfH (rcH h k) k) := ANSW.no hk N (X := noX) Fr.rfl' (fun _ _ _ => rfl) (Y := noX) Fr.rfl' (fun _ _ _ => rfl)
  refine ANSW.mk' N' a b c (fun j => (d j).trans (rfH_I _ _ (by decide) j).symm) (fun j => (e j).trans ?_)
  exact rf101 (fun j => (rcH_I h k (by decide) j).symm) j
/-- a text not taken: only the tape, the fault and what was answered change -/
theorem Ivt.bad {L n : Nat} {xs : Nat → Int32} {h h2 : AH} (I : Ivt L xs n h) (F : Fr oaX h h2) (R : RfOK h2) (z1 : gI h2 35 2 = nI 0) (y1 : gI h2 100 13 = nI 0) (fe : gI h2 35 3 = gI h2 100 14) (A : ANSW h2) : Ivt L xs n h2 := by
  obtain ⟨np, nt, nd, nl, no, LSs, E, US, C1, C2, C3⟩ := I.2.2.1
  obtain ⟨Lt, h1, h2', h3, h4, h5, h6, h7⟩ := I.2.2.2.2.1
  have e102 : gI h2 102 = gI h 102 := F.fun (fun _ => rfl)
  have e36 : gI h2 36 = gI h 36 := F.fun (fun _ => rfl)
  have e107 : gI h2 107 = gI h 107 := F.fun (fun _ => rfl)
  refine I.all F R (I.2.1.fr F oa_z) ⟨np, nt, nd, nl, no, LSs, E, US, C1.fr F e102 oa_c, by rw [e102]; exact C2.fr F oa_a, by rw [e102]; exact C3.fr F oa_c oa_w⟩ ⟨I.2.2.2.1.1.fr (by decide) F oa_i, I.2.2.2.1.2.fr (by decide) F oa_i⟩ ⟨0, by omega, z1, y1, by rw [e36, e107]; exact h4, by rw [e36]; exact h5, fe, fun i hi => (F.I 106 i rfl).trans (h7 i hi)⟩ A (I.2.2.2.2.2.2.fr F oa_d)
theorem LawK.ly6 {K : Nat → Int32} {l : Nat} {cls : List CLE} (H : LawK K l cls) (hl : l < 6) {c v : Nat → Nat} {T : Nat} (hT : T ≤ 400) : LawK (lyK K c v 6 T) l cls := by
  obtain ⟨T', c', v', f, a1, a2, a3, a4, a5⟩ := H
  have w : ∀ i, i ≠ 115 → ¬ (2516 ≤ i ∧ i < 2516 + T) → ¬ (5316 ≤ i ∧ i < 5316 + T) → lyK K c v 6 T i = K i := fun i q1 q2 q3 => by
    unfold lyK
    rw [if_neg (by omega), if_neg (by omega), if_neg (by omega)]
  refine ⟨T', c', v', f, a1, a2, by rw [w _ (by omega) (by omega) (by omega)]; exact a3, fun k hk => ?_, a5⟩
  rw [w _ (by omega) (by omega) (by omega), w _ (by omega) (by omega) (by omega)]
  exact a4 k hk
theorem KST.ly6 {K : Nat → Int32} {np nt nd nl no : Nat} {LSs : Nat → List CLE} (Q : KST K np nt nd nl no LSs) {c v : Nat → Nat} {T : Nat} (hT : T ≤ 400) : KST (lyK K c v 6 T) np nt nd nl no LSs := by
  have e : ∀ j, j < 109 → lyK K c v 6 T j = K j := fun j hj => lyK_lo hj
  obtain ⟨V, B, N, Dd, T1, W, ⟨k3, k4, k5, k6, k7⟩, hl, hf, ll, zz⟩ := Q
  exact ⟨V.cg (fun j _ => e j (by omega)), B.cg (fun j _ => e j (by omega)), N.cg (fun j _ _ => e j (by omega)), Dd.cg (fun j _ _ => e j (by omega)), T1.cg (fun j _ _ => e j (by omega)), W.cg (fun j _ _ => e j (by omega)), ⟨(e _ (by omega)).trans k3, (e _ (by omega)).trans k4, (e _ (by omega)).trans k5, (e _ (by omega)).trans k6, (e _ (by omega)).trans k7⟩, hl, by rw [e _ (by omega)]; exact hf, fun l h1 => (ll l h1).ly6 (by omega) hT, fun q t hq ht hz => by rw [e _ (by omega)]; exact zz q t hq ht hz⟩
theorem CWY.via {X : Nat → Nat → Bool} {h g : AH} {K : Nat → Int32} {np nt nd nl no : Nat} {LSs : Nat → List CLE} (C : CWY h K np nt nd nl no LSs) (F : Fr X h g) (hx : ∀ k j, wS2 k j = true → X k j = false) (T : TD g K no) : CWY g K np nt nd nl no LSs := by
  obtain ⟨kn, e, w⟩ := C
  refine ⟨kn, (F.I 52 8 (hx 52 8 rfl)).trans e, fun q => ?_⟩
  obtain ⟨-, w2, w3, w4⟩ := w q
  exact ⟨T, (F.I 52 12 (hx 52 12 rfl)).trans w2, w3, fun i W hW => (F.I 56 i (hx 56 i rfl)).trans (w4 i W hW)⟩
theorem oc_no {k j : Nat} (hk : k = 102 ∨ k = 113 ∨ k = 107 ∨ k = 106 ∨ k = 36 ∨ k = 100 ∨ k = 101) : ocX k j = false := by
  rw [Bool.eq_false_iff]
  intro x
  simp only [ocX, Bool.or_eq_true, Bool.and_eq_true, beq_iff_eq, decide_eq_true_eq] at x
  omega
theorem om_no {k j : Nat} (hk : k < 100 ∨ k = 106 ∨ k = 107 ∨ 128 ≤ k) : omX k j = false := by
  rw [Bool.eq_false_iff]
  intro x
  simp only [omX, Bool.or_eq_true, Bool.and_eq_true, beq_iff_eq, decide_eq_true_eq] at x
  omega
