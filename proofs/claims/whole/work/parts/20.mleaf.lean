section ML
variable (d : Nat) (h : AH)
theorem s_lies (v lo hi : Int32) : Rp d M_X12_lies 0 [some (.int v), some (.int lo), some (.int hi)] [] h (fun r h' => h' = h ∧ r = some (.int (b2i (decide (lo ≤ v ∧ v ≤ hi))))) := by
  refine Rp.iload_n dX12_lies_0 rfl ?_
  refine Rp.iload_n dX12_lies_1 rfl ?_
  first | ((with_reducible show Rp _ _ _ _ (.int (nI _) :: .int (nI _) :: _) _ _); refine Rp.icmp_ltN (tgt := 14) dX12_lies_2 (by decide) (by omega) (fun c2 => ?_) (fun c2 => ?_)) | refine Rp.icmp_lt (tgt := 14) dX12_lies_2 (by decide) (fun c2 => ?_) (fun c2 => ?_)
  · skip
    refine Rp.iconst (nI 0) dX12_lies_14 (by decide) ?_
    refine Rp.zreturn dX12_lies_15 rfl (by first | exact Or.inl rfl | exact Or.inr rfl | assumption) ?_
    refine ⟨rfl, ?_⟩
    first | rw [b2i_t (by simp only [i32_lt, i32_le] at *; omega)] | rw [b2i_f (by simp only [i32_lt, i32_le] at *; omega)]
  · skip
    refine Rp.iload_n dX12_lies_5 rfl ?_
    refine Rp.iload_n dX12_lies_6 rfl ?_
    first | ((with_reducible show Rp _ _ _ _ (.int (nI _) :: .int (nI _) :: _) _ _); refine Rp.icmp_gtN (tgt := 14) dX12_lies_7 (by decide) (by omega) (fun c7 => ?_) (fun c7 => ?_)) | refine Rp.icmp_gt (tgt := 14) dX12_lies_7 (by decide) (fun c7 => ?_) (fun c7 => ?_)
    · skip
      refine Rp.iconst (nI 0) dX12_lies_14 (by decide) ?_
      refine Rp.zreturn dX12_lies_15 rfl (by first | exact Or.inl rfl | exact Or.inr rfl | assumption) ?_
      refine ⟨rfl, ?_⟩
      first | rw [b2i_t (by simp only [i32_lt, i32_le] at *; omega)] | rw [b2i_f (by simp only [i32_lt, i32_le] at *; omega)]
    · skip
      refine Rp.iconst (nI 1) dX12_lies_10 (by decide) ?_
      refine Rp.goto (tgt := 15) dX12_lies_11 (by decide) ?_
      refine Rp.zreturn dX12_lies_15 rfl (by first | exact Or.inl rfl | exact Or.inr rfl | assumption) ?_
      refine ⟨rfl, ?_⟩
      first | rw [b2i_t (by simp only [i32_lt, i32_le] at *; omega)] | rw [b2i_f (by simp only [i32_lt, i32_le] at *; omega)]
theorem s_greater (a b : Int32) : Rp d M_X12_greater 0 [some (.int a), some (.int b)] [] h (fun r h' => h' = h ∧ r = some (.int (if b < a then a else b))) := by
  refine Rp.iload_n dX12_greater_0 rfl ?_
  refine Rp.iload_n dX12_greater_1 rfl ?_
  first | ((with_reducible show Rp _ _ _ _ (.int (nI _) :: .int (nI _) :: _) _ _); refine Rp.icmp_leN (tgt := 9) dX12_greater_2 (by decide) (by omega) (fun c2 => ?_) (fun c2 => ?_)) | refine Rp.icmp_le (tgt := 9) dX12_greater_2 (by decide) (fun c2 => ?_) (fun c2 => ?_)
  · skip
    refine Rp.iload_n dX12_greater_9 rfl ?_
    refine Rp.ireturn dX12_greater_10 rfl ?_
    refine ⟨rfl, ?_⟩
    first | rw [if_pos (by simp only [i32_lt, i32_le] at *; omega)] | rw [if_neg (by simp only [i32_lt, i32_le] at *; omega)]
  · skip
    refine Rp.iload_n dX12_greater_5 rfl ?_
    refine Rp.goto (tgt := 10) dX12_greater_6 (by decide) ?_
    refine Rp.ireturn dX12_greater_10 rfl ?_
    refine ⟨rfl, ?_⟩
    first | rw [if_pos (by simp only [i32_lt, i32_le] at *; omega)] | rw [if_neg (by simp only [i32_lt, i32_le] at *; omega)]
theorem s_isIn (a b : Int32) : Rp d M_X12_isIn 0 [some (.int a), some (.int b)] [] h (fun r h' => h' = h ∧ r = some (.int (b2i (decide (a >>> (b &&& 31) &&& nI 1 = nI 1))))) := by
  refine Rp.iload_n dX12_isIn_0 rfl ?_
  refine Rp.iload_n dX12_isIn_1 rfl ?_
  refine Rp.ishr dX12_isIn_2 ?_
  refine Rp.iconst (nI 1) dX12_isIn_3 (by decide) ?_
  refine Rp.iand dX12_isIn_4 ?_
  refine Rp.iconst (nI 1) dX12_isIn_5 (by decide) ?_
  first | ((with_reducible show Rp _ _ _ _ (.int (nI _) :: .int (nI _) :: _) _ _); refine Rp.icmp_neN (tgt := 13) dX12_isIn_6 (by decide) (by omega) (fun c6 => ?_) (fun c6 => ?_)) | refine Rp.icmp_ne (tgt := 13) dX12_isIn_6 (by decide) (fun c6 => ?_) (fun c6 => ?_)
  · skip
    refine Rp.iconst (nI 0) dX12_isIn_13 (by decide) ?_
    refine Rp.zreturn dX12_isIn_14 rfl (by first | exact Or.inl rfl | exact Or.inr rfl | assumption) ?_
    refine ⟨rfl, ?_⟩
    first | rw [b2i_t (by assumption)] | rw [b2i_f (by assumption)]
  · skip
    refine Rp.iconst (nI 1) dX12_isIn_9 (by decide) ?_
    refine Rp.goto (tgt := 14) dX12_isIn_10 (by decide) ?_
    refine Rp.zreturn dX12_isIn_14 rfl (by first | exact Or.inl rfl | exact Or.inr rfl | assumption) ?_
    refine ⟨rfl, ?_⟩
    first | rw [b2i_t (by assumption)] | rw [b2i_f (by assumption)]
theorem s_sign (a : Int32) : Rp d M_X12_sign 0 [some (.int a)] [] h (fun r h' => h' = h ∧ r = some (.int (nI 100 + a))) := by
  refine Rp.bipush (nI 100) dX12_sign_0 (by decide) ?_
  refine Rp.iload_n dX12_sign_2 rfl ?_
  first | ((with_reducible show Rp _ _ _ _ (.int (nI _) :: .int (nI _) :: _) _ _); refine Rp.iaddN dX12_sign_3 ?_) | refine Rp.iadd dX12_sign_3 ?_
  refine Rp.ireturn dX12_sign_4 rfl ?_
  exact ⟨rfl, rfl⟩
variable {h}
/-- good(v): the status is 0 -/
theorem s_good (S : ShOK h) (v : Int32) : Rp d M_X12_good 0 [some (.ref aM), some (.int v)] [] h (fun r h' => h' = sI h aM fm_status (nI 0) ∧ r = some (.int v)) := by
  refine Rp.aload_n dX12_good_0 rfl rfl ?_
  refine Rp.iconst (nI 0) dX12_good_1 (by decide) ?_
  refine Rp.putI dX12_good_2 fk_X12_3w rfl (S _ _ rfl) ?_
  refine Rp.iload_n dX12_good_5 rfl ?_
  refine Rp.ireturn dX12_good_6 rfl ?_
  exact ⟨rfl, rfl⟩
theorem s_goodAnew (S : ShOK h) (v : Int32) : Rp (d + 1) M_X12_goodAnew 0 [some (.ref aM), some (.int v)] [] h (fun r h' => h' = sI (sI h aM fm_undoMany (nI 0)) aM fm_status (nI 0) ∧ r = some (.int v)) := by
  refine Rp.aload_n dX12_goodAnew_0 rfl rfl ?_
  refine Rp.iconst (nI 0) dX12_goodAnew_1 (by decide) ?_
  refine Rp.putI dX12_goodAnew_2 fk_X12_11w rfl (S _ _ rfl) ?_
  refine Rp.aload_n dX12_goodAnew_5 rfl rfl ?_
  refine Rp.iload_n dX12_goodAnew_6 rfl ?_
  refine Rp.callV1 M_X12_good (ci := 12) dX12_goodAnew_7 mo_X12_good lk_X12_14 (by decide) rfl rfl (S _ _ rfl) (Nat.le_of_ble_eq_true rfl) (Nat.le_of_ble_eq_true rfl) (s_good d (h := sI h aM fm_undoMany (nI 0)) S v) (fun v1 h1 p1 x1 => ?_)
  rw [p1.1, p1.2]
  try dsimp only [Option.toList, List.cons_append, List.nil_append, List.append]
  refine Rp.ireturn dX12_goodAnew_10 rfl ?_
  exact ⟨rfl, rfl⟩
theorem s_refuses (S : ShOK h) (R : RfOK h) (k : Nat) (hk : k < 7) : Rp d M_X12_refuses 0 [some (.ref aM), some (.int (-nI k))] [] h (fun r h' => h' = sI (sI h aM fm_status (-nI k)) am_refused k (gI h am_refused k + nI 1) ∧ r = some (.int (-nI k))) := by
  refine Rp.aload_n dX12_refuses_0 rfl rfl ?_
  refine Rp.iload_n dX12_refuses_1 rfl ?_
  refine Rp.putI dX12_refuses_2 fk_X12_3w rfl (S _ _ rfl) ?_
  refine Rp.aload_n dX12_refuses_5 rfl rfl ?_
  refine Rp.getR dX12_refuses_6 fk_X12_7 rfl (S _ _ rfl) (R _ _ _ rfl) ?_
  refine Rp.iload_n dX12_refuses_9 rfl ?_
  refine Rp.ineg dX12_refuses_10 ?_
  rw [Int32.neg_neg]
  refine Rp.dup2 dX12_refuses_11 rfl rfl ?_
  first | ((with_reducible show Rp _ _ _ _ (.int (nI _) :: _) _ _); refine Rp.ialoadN dX12_refuses_12 (S _ _ rfl) (by omega) ?_) | refine Rp.iaload dX12_refuses_12 (S _ _ rfl) (by first | assumption | exact vpb (by decide)) ?_
  refine Rp.iconst (nI 1) dX12_refuses_13 (by decide) ?_
  first | ((with_reducible show Rp _ _ _ _ (.int (nI _) :: .int (nI _) :: _) _ _); refine Rp.iaddN dX12_refuses_14 ?_) | refine Rp.iadd dX12_refuses_14 ?_
  first | ((with_reducible show Rp _ _ _ _ (_ :: .int (nI _) :: _) _ _); refine Rp.iastoreN dX12_refuses_15 (S _ _ rfl) (by omega) ?_) | refine Rp.iastore dX12_refuses_15 (S _ _ rfl) (by first | assumption | exact vpb (by decide)) ?_
  refine Rp.iload_n dX12_refuses_16 rfl ?_
  refine Rp.ireturn dX12_refuses_17 rfl ?_
  exact ⟨rfl, rfl⟩
end ML
