theorem gI_wrI_in (h : AH) (a s : Nat) (v : Nat → Int32) {j : Nat} : ∀ n, j < n → gI (wrI h a (fun i => s + i) v n) a (s + j) = v j
  | 0, hj => absurd hj (Nat.not_lt_zero _)
  | n + 1, hj => by
    show gI (sI (wrI h a (fun i => s + i) v n) a (s + n) (v n)) a (s + j) = v j
    by_cases z : j = n
    · rw [z, gI_hit]
    · rw [gI_off _ _ _ (by omega)]; exact gI_wrI_in h a s v n (by omega)
theorem gI_wrI_id (h : AH) (a : Nat) (v : Nat → Int32) {j : Nat} : ∀ n, j < n → gI (wrI h a (fun i => i) v n) a j = v j
  | 0, hj => absurd hj (Nat.not_lt_zero _)
  | n + 1, hj => by
    show gI (sI (wrI h a (fun i => i) v n) a n (v n)) a j = v j
    by_cases z : j = n
    · rw [z, gI_hit]
    · rw [gI_off _ _ _ z]; exact gI_wrI_id h a v n (by omega)
