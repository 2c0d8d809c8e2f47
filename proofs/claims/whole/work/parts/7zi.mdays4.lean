def dzB (s n : Int32) : Bool := decide (nI 0 ≤ s ∧ s ≤ 1000000) && decide (nI 1 ≤ n ∧ n ≤ nI 60)
section Dg
variable (d : Nat) {h : AH}
theorem s_days_bad (S : ShOK h) (R : RfOK h) {s n : Int32} (hb : dzB s n = false) : Rp (d + 1) M_X12_days 0 [some (.ref aM), some (.int s), some (.int n), none, none, none, none] [] h (fun r h' => h' = rfH h 1 ∧ r = some (.int (-nI 1))) := by
  unfold dzB at hb
  cases e1 : decide (nI 0 ≤ s ∧ s ≤ 1000000)
  · skip
    refine Rp.iload_n dX12_days_0 rfl ?_
    refine Rp.iconst (nI 0) dX12_days_1 (by decide) ?_
    refine Rp.ldc dX12_days_2 kc_X12_192 ?_
    refine Rp.callS3 M_X12_lies dX12_days_4 mo_X12_lies lk_X12_117 (Nat.le_of_ble_eq_true rfl) (Nat.le_of_ble_eq_true rfl) (s_lies d h s (nI 0) 1000000) (fun v1 h1 p1 x1 => ?_)
    rw [p1.1, p1.2, e1]
    try dsimp only [Option.toList, List.cons_append, List.nil_append, List.append]
    first | ((with_reducible show Rp _ _ _ _ (.int (b2i _) :: _) _ _); refine Rp.if_eqB (tgt := 20) dX12_days_7 (by decide) (fun c7 => ?_) (fun c7 => ?_)) | ((with_reducible show Rp _ _ _ _ (.int (nI _) :: _) _ _); refine Rp.if_eqN (tgt := 20) dX12_days_7 (by decide) (by omega) (fun c7 => ?_) (fun c7 => ?_)) | refine Rp.if_eq (tgt := 20) dX12_days_7 (by decide) (fun c7 => ?_) (fun c7 => ?_)
    · skip
      refine Rp.aload_n dX12_days_20 rfl rfl ?_
      refine Rp.iconst (-1) dX12_days_21 (by decide) ?_
      refine Rp.callV1 M_X12_refuses (ci := 12) dX12_days_22 mo_X12_refuses lk_X12_121 (by decide) rfl rfl (S _ _ rfl) (Nat.le_of_ble_eq_true rfl) (Nat.le_of_ble_eq_true rfl) (s_refuses d S R 1 (by decide)) (fun v1 h1 p1 x1 => ?_)
      rw [p1.1, p1.2]
      try dsimp only [Option.toList, List.cons_append, List.nil_append, List.append]
      refine Rp.ireturn dX12_days_25 rfl ?_
      exact ⟨rfl, rfl⟩
    · skip
      cases c7
  · cases e2 : decide (nI 1 ≤ n ∧ n ≤ nI 60)
    · skip
      refine Rp.iload_n dX12_days_0 rfl ?_
      refine Rp.iconst (nI 0) dX12_days_1 (by decide) ?_
      refine Rp.ldc dX12_days_2 kc_X12_192 ?_
      refine Rp.callS3 M_X12_lies dX12_days_4 mo_X12_lies lk_X12_117 (Nat.le_of_ble_eq_true rfl) (Nat.le_of_ble_eq_true rfl) (s_lies d h s (nI 0) 1000000) (fun v1 h1 p1 x1 => ?_)
      rw [p1.1, p1.2, e1]
      try dsimp only [Option.toList, List.cons_append, List.nil_append, List.append]
      first | ((with_reducible show Rp _ _ _ _ (.int (b2i _) :: _) _ _); refine Rp.if_eqB (tgt := 20) dX12_days_7 (by decide) (fun c7 => ?_) (fun c7 => ?_)) | ((with_reducible show Rp _ _ _ _ (.int (nI _) :: _) _ _); refine Rp.if_eqN (tgt := 20) dX12_days_7 (by decide) (by omega) (fun c7 => ?_) (fun c7 => ?_)) | refine Rp.if_eq (tgt := 20) dX12_days_7 (by decide) (fun c7 => ?_) (fun c7 => ?_)
      · skip
        cases c7
      · skip
        refine Rp.iload_n dX12_days_10 rfl ?_
        refine Rp.iconst (nI 1) dX12_days_11 (by decide) ?_
        refine Rp.bipush (nI 60) dX12_days_12 (by decide) ?_
        refine Rp.callS3 M_X12_lies dX12_days_14 mo_X12_lies lk_X12_117 (Nat.le_of_ble_eq_true rfl) (Nat.le_of_ble_eq_true rfl) (s_lies d h n (nI 1) (nI 60)) (fun v1 h1 p1 x1 => ?_)
        rw [p1.1, p1.2, e2]
        try dsimp only [Option.toList, List.cons_append, List.nil_append, List.append]
        first | ((with_reducible show Rp _ _ _ _ (.int (b2i _) :: _) _ _); refine Rp.if_neB (tgt := 26) dX12_days_17 (by decide) (fun c17 => ?_) (fun c17 => ?_)) | ((with_reducible show Rp _ _ _ _ (.int (nI _) :: _) _ _); refine Rp.if_neN (tgt := 26) dX12_days_17 (by decide) (by omega) (fun c17 => ?_) (fun c17 => ?_)) | refine Rp.if_ne (tgt := 26) dX12_days_17 (by decide) (fun c17 => ?_) (fun c17 => ?_)
        · skip
          cases c17
        · skip
          refine Rp.aload_n dX12_days_20 rfl rfl ?_
          refine Rp.iconst (-1) dX12_days_21 (by decide) ?_
          refine Rp.callV1 M_X12_refuses (ci := 12) dX12_days_22 mo_X12_refuses lk_X12_121 (by decide) rfl rfl (S _ _ rfl) (Nat.le_of_ble_eq_true rfl) (Nat.le_of_ble_eq_true rfl) (s_refuses d S R 1 (by decide)) (fun v1 h1 p1 x1 => ?_)
          rw [p1.1, p1.2]
          try dsimp only [Option.toList, List.cons_append, List.nil_append, List.append]
          refine Rp.ireturn dX12_days_25 rfl ?_
          exact ⟨rfl, rfl⟩
    · rw [e1, e2] at hb; cases hb
end Dg
