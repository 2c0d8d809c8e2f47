/-- h' is h but for the slots of X -/
def Fr (X : Nat → Nat → Bool) (h h' : AH) : Prop := h'.1 = h.1 ∧ gS h' = gS h ∧ (∀ k j, X k j = false → gI h' k j = gI h k j) ∧ (∀ k j, X k j = false → gL h' k j = gL h k j) ∧ (∀ k j, X k j = false → gR h' k j = gR h k j)
def xok (X : Nat → Nat → Bool) : Bool := rfL.all fun q => ! X q.1 q.2
theorem Fr.rfl' {X : Nat → Nat → Bool} {h : AH} : Fr X h h := ⟨rfl, rfl, fun _ _ _ => rfl, fun _ _ _ => rfl, fun _ _ _ => rfl⟩
theorem Fr.trans {X : Nat → Nat → Bool} {h h' h2 : AH} (a : Fr X h h') (b : Fr X h' h2) : Fr X h h2 := ⟨b.1.trans a.1, b.2.1.trans a.2.1, fun k j x => (b.2.2.1 k j x).trans (a.2.2.1 k j x), fun k j x => (b.2.2.2.1 k j x).trans (a.2.2.2.1 k j x), fun k j x => (b.2.2.2.2 k j x).trans (a.2.2.2.2 k j x)⟩
theorem Fr.weak {X Y : Nat → Nat → Bool} {h h' : AH} (hx : ∀ k j, Y k j = false → X k j = false) (a : Fr X h h') : Fr Y h h' := ⟨a.1, a.2.1, fun k j x => a.2.2.1 k j (hx k j x), fun k j x => a.2.2.2.1 k j (hx k j x), fun k j x => a.2.2.2.2 k j (hx k j x)⟩
theorem Fr.sI {X : Nat → Nat → Bool} {h h' : AH} (a : Fr X h h') {k j : Nat} {v : Int32} (hx : X k j = true) : Fr X h (sI h' k j v) := ⟨a.1, a.2.1, fun k' j' x => by
  rw [gI_sI]
  by_cases h1 : k' = k
  · rw [if_pos h1]
    by_cases h2 : j' = j
    · rw [h1, h2, hx] at x; cases x
    · rw [if_neg h2]; exact a.2.2.1 k' j' x
  · rw [if_neg h1]; exact a.2.2.1 k' j' x, fun k' j' x => a.2.2.2.1 k' j' x, fun k' j' x => a.2.2.2.2 k' j' x⟩
theorem Fr.sL {X : Nat → Nat → Bool} {h h' : AH} (a : Fr X h h') {k j : Nat} {v : Int64} (hx : X k j = true) : Fr X h (sL h' k j v) := ⟨a.1, a.2.1, fun k' j' x => a.2.2.1 k' j' x, fun k' j' x => by
  show (if k' = k then (if j' = j then v else gL h' k' j') else gL h' k' j') = _
  by_cases h1 : k' = k
  · rw [if_pos h1]
    by_cases h2 : j' = j
    · rw [h1, h2, hx] at x; cases x
    · rw [if_neg h2]; exact a.2.2.2.1 k' j' x
  · rw [if_neg h1]; exact a.2.2.2.1 k' j' x, fun k' j' x => a.2.2.2.2 k' j' x⟩
theorem Fr.sR {X : Nat → Nat → Bool} {h h' : AH} (a : Fr X h h') {k j : Nat} {v : Option Nat} (hx : X k j = true) : Fr X h (sR h' k j v) := ⟨a.1, a.2.1, fun k' j' x => a.2.2.1 k' j' x, fun k' j' x => a.2.2.2.1 k' j' x, fun k' j' x => by
  show (if k' = k then (if j' = j then v else gR h' k' j') else gR h' k' j') = _
  by_cases h1 : k' = k
  · rw [if_pos h1]
    by_cases h2 : j' = j
    · rw [h1, h2, hx] at x; cases x
    · rw [if_neg h2]; exact a.2.2.2.2 k' j' x
  · rw [if_neg h1]; exact a.2.2.2.2 k' j' x⟩
theorem Fr.S {X : Nat → Nat → Bool} {h h' : AH} (a : Fr X h h') (S : ShOK h) : ShOK h' := fun k q hq => by rw [a.1]; exact S k q hq
theorem Fr.R {X : Nat → Nat → Bool} {h h' : AH} (a : Fr X h h') (R : RfOK h) (hx : xok X = true) : RfOK h' := fun k j r hr => by
  have h1 := List.all_eq_true.mp hx _ (rfL_of hr)
  rw [a.2.2.2.2 k j (by simpa using h1)]
  exact R k j r hr
theorem Fr.I {X : Nat → Nat → Bool} {h h' : AH} (a : Fr X h h') (k j : Nat) (hx : X k j = false) : gI h' k j = gI h k j := a.2.2.1 k j hx
theorem Fr.L {X : Nat → Nat → Bool} {h h' : AH} (a : Fr X h h') (k j : Nat) (hx : X k j = false) : gL h' k j = gL h k j := a.2.2.2.1 k j hx
theorem Fr.Rr {X : Nat → Nat → Bool} {h h' : AH} (a : Fr X h h') (k j : Nat) (hx : X k j = false) : gR h' k j = gR h k j := a.2.2.2.2 k j hx
theorem gI_ne (h : AH) {k a : Nat} (j : Nat) (x : Int32) (b : Nat) (hk : a ≠ k) : gI (sI h k j x) a b = gI h a b := by rw [gI_sI, if_neg hk]
theorem gI_at (h : AH) (k j : Nat) (x : Int32) (b : Nat) : gI (sI h k j x) k b = if b = j then x else gI h k b := by rw [gI_sI, if_pos rfl]
theorem gI_hit (h : AH) (k j : Nat) (x : Int32) : gI (sI h k j x) k j = x := by rw [gI_sI, if_pos rfl, if_pos rfl]
theorem gI_off (h : AH) (k : Nat) {j b : Nat} (x : Int32) (hb : b ≠ j) : gI (sI h k j x) k b = gI h k b := by rw [gI_sI, if_pos rfl, if_neg hb]
