theorem gI_wrI_in (h : AH) (a s : Nat) (v : Nat → Int32) {j : Nat} : ∀ n, j < n → gI (wrI h a (fun i => s + i) v n) a (s + j) = v j
  | 0, hj => absurd hj (Nat.not_lt_zero _)
  | n + 1, hj => by
    show gI (sI (wrI h a (fun i => s + i) v n) a (s + n) (v n)) a (s + j) = v j
    by_cases z : j = n
    · rw [z, gI_hit]
    · rw [gI_off _ _ _ (by omega)]; exact gI_wrI_in h a s v n (by omega)
theorem gI_wrI_id (h : AH) (a : Nat) (v : Nat → Int32) {j : Nat} : ∀ n, j < n → gI (wrI h a (fun i => i) v n) a j = v j
  | 0, hj => absurd hj (Nat.not_lt_zero _)
  | n + 1, hj => by
    show gI (sI (wrI h a (fun i => i) v n) a n (v n)) a j = v j
    by_cases z : j = n
    · rw [z, gI_hit]
    · rw [gI_off _ _ _ z]; exact gI_wrI_id h a v n (by omega)
theorem days_back {h g : AH} {a b : Int32} (F : Fr dzX (wrI (sI (sI h 100 59 a) 100 58 b) am_aside (fun i => 7 * 0 + i) (gI h 102) 7) g) : gI (sI (wrI (wrI g 128 (fun i => i) (gI g 102) 7) 102 (fun i => i) (fun i => gI (wrI g 128 (fun i => i) (gI g 102) 7) am_aside (7 * 0 + i)) 7) aM fm_status (nI 0)) 102 = gI h 102 := by
  funext j
  rw [gI_ne _ _ _ _ (by decide)]
  by_cases hj : j < 7
  · rw [gI_wrI_id _ _ _ 7 hj, gI_wrI_ne _ _ _ (by decide), F.I am_aside _ rfl]
    exact gI_wrI_in _ _ _ _ 7 hj
  · rw [gI_wrI_out _ _ _ _ 7 (fun i hi => by omega), gI_wrI_ne _ _ _ (by decide), dzX_hi F (by omega), gI_wrI_ne _ _ _ (by decide)]
    rfl
theorem days_shown {g : AH} {v : Nat → Int32} {x : Int32} {i : Nat} (hi : i < 7) : gI (sI (wrI (wrI g 128 (fun i => i) (gI g 102) 7) 102 (fun i => i) v 7) aM fm_status x) 128 i = gI g 102 i := by
  rw [gI_ne _ _ _ _ (by decide), gI_wrI_ne _ _ _ (by decide)]
  exact gI_wrI_id _ _ _ 7 hi
