theorem FlK.hi {K K' : Nat → Int32} {fl : Option (List CLE)} (H : FlK K fl) (e : ∀ j, 7 ≤ j → K' j = K j) : FlK K' fl := by
  match fl, H with
  | none, H => exact (e 108 (by decide)).trans H
  | some L, ⟨l, hl, e1, T, c, v, f, hT, h0, h1, h2, h3⟩ =>
    exact ⟨l, hl, (e 108 (by decide)).trans e1, T, c, v, f, hT, h0, (e _ (by omega)).trans h1, fun k hk => by
      rw [e _ (by omega), e _ (by omega)]
      exact h2 k hk, h3⟩
def dzX (k j : Nat) : Bool := haX k j || (k == 100 && j == 59)
theorem dzX_h {h g : AH} (F : Fr haX h g) : Fr dzX h g := F.weak (fun k j hx => by unfold dzX at hx; rw [Bool.or_eq_false_iff] at hx; exact hx.1)
theorem dzX_hi {h g : AH} (F : Fr dzX h g) {j : Nat} (hj : 7 ≤ j) : gI g 102 j = gI h 102 j := F.I 102 j (by
  unfold dzX haX tlX
  rw [decide_eq_false (show ¬ j < 7 by omega)]
  rfl)
theorem MA.dz {h g : AH} {fl : Option (List CLE)} {np nt : Nat} {US : List (Nat → Int32)} (A : MA h fl np nt US) (F : Fr dzX h g) (V : VH (gI g 102) np nt) {m : Nat} (hm : m < 1000) (e6 : gI g 102 6 = nI m) : MA g fl np nt US := by
  obtain ⟨S, R, hF, B, -, hM, hT, L⟩ := A
  exact ⟨F.S S, F.R R (by decide), hF.hi (fun j hj => dzX_hi F hj), B.hi (fun j hj => dzX_hi F hj) hm e6, V, (dzX_hi F (by decide)).trans hM, (dzX_hi F (by decide)).trans hT, L.1, (F.I 100 32 rfl).trans L.2.1, fun i r hi j hj => (F.I 113 _ rfl).trans (L.2.2 i r hi j hj)⟩
