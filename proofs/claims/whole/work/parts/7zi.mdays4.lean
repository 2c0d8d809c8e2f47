def dzB (s n : Int32) : Bool := decide (nI 0 ≤ s ∧ s ≤ 1000000) && decide (nI 1 ≤ n ∧ n ≤ nI 60)
section Dg
variable (d : Nat) {h : AH}
theorem s_days_bad (S : ShOK h) (R : RfOK h) {s n : Int32} (hb : dzB s n = false) : Rp (d + 1) M_X12_days 0 [some (.ref aM), some (.int s), some (.int n), none, none, none, none] [] h (fun r h' => h' = rfH h 1 ∧ r = some (.int (-nI 1))) := by
  unfold dzB at hb
  cases e1 : decide (nI 0 ≤ s ∧ s ≤ 1000000)
  · skip
    refine Rp.iload_n dX12_days_0 rfl ?_
    refine Rp.iconst (nI 0) dX12_days_1 (by decide) ?_
    refine Rp.ldc dX12_days_2 kc_X12_192 ?_
    refine Rp.callS3 M_X12_lies dX12_days_4 mo_X12_lies lk_X12_117 (Nat.le_of_ble_eq_true rfl) (Nat.le_of_ble_eq_true rfl) (s_lies d h s (nI 0) 1000000) (fun v1 h1 p1 x1 => ?_)
    rw [p1.1, p1.2, e1]
    try dsimp only [Option.toList, List.cons_append, List.nil_append, List.append]
    first | ((with_reducible show Rp _ _ _ _ (.int (b2i _) :: _) _ _); refine Rp.if_eqB (tgt := 20) dX12_days_7 (by decide) (fun c7 => ?_) (fun c7 => ?_)) | ((with_reducible show Rp _ _ _ _ (.int (nI _) :: _) _ _); refine Rp.if_eqN (tgt := 20) dX12_days_7 (by decide) (by omega) (fun c7 => ?_) (fun c7 => ?_)) | refine Rp.if_eq (tgt := 20) dX12_days_7 (by decide) (fun c7 => ?_) (fun c7 => ?_)
    · skip
      refine Rp.aload_n dX12_days_20 rfl rfl ?_
      refine Rp.iconst (-1) dX12_days_21 (by decide) ?_
      refine Rp.callV1 M_X12_refuses (ci := 12) dX12_days_22 mo_X12_refuses lk_X12_121 (by decide) rfl rfl (S _ _ rfl) (Nat.le_of_ble_eq_true rfl) (Nat.le_of_ble_eq_true rfl) (s_refuses d S R 1 (by decide)) (fun v1 h1 p1 x1 => ?_)
      rw [p1.1, p1.2]
      try dsimp only [Option.toList, List.cons_append, List.nil_append, List.append]
      refine Rp.ireturn dX12_days_25 rfl ?_
      exact ⟨rfl, rfl⟩
    · skip
      cases c7
  · cases e2 : decide (nI 1 ≤ n ∧ n ≤ nI 60)
    · skip
      refine Rp.iload_n dX12_days_0 rfl ?_
      refine Rp.iconst (nI 0) dX12_days_1 (by decide) ?_
      refine Rp.ldc dX12_days_2 kc_X12_192 ?_
      refine Rp.callS3 M_X12_lies dX12_days_4 mo_X12_lies lk_X12_117 (Nat.le_of_ble_eq_true rfl) (Nat.le_of_ble_eq_true rfl) (s_lies d h s (nI 0) 1000000) (fun v1 h1 p1 x1 => ?_)
      rw [p1.1, p1.2, e1]
      try dsimp only [Option.toList, List.cons_append, List.nil_append, List.append]
      first | ((with_reducible show Rp _ _ _ _ (.int (b2i _) :: _) _ _); refine Rp.if_eqB (tgt := 20) dX12_days_7 (by decide) (fun c7 => ?_) (fun c7 => ?_)) | ((with_reducible show Rp _ _ _ _ (.int (nI _) :: _) _ _); refine Rp.if_eqN (tgt := 20) dX12_days_7 (by decide) (by omega) (fun c7 => ?_) (fun c7 => ?_)) | refine Rp.if_eq (tgt := 20) dX12_days_7 (by decide) (fun c7 => ?_) (fun c7 => ?_)
      · skip
        cases c7
      · skip
        refine Rp.iload_n dX12_days_10 rfl ?_
        refine Rp.iconst (nI 1) dX12_days_11 (by decide) ?_
        refine Rp.bipush (nI 60) dX12_days_12 (by decide) ?_
        refine Rp.callS3 M_X12_lies dX12_days_14 mo_X12_lies lk_X12_117 (Nat.le_of_ble_eq_true rfl) (Nat.le_of_ble_eq_true rfl) (s_lies d h n (nI 1) (nI 60)) (fun v1 h1 p1 x1 => ?_)
        rw [p1.1, p1.2, e2]
        try dsimp only [Option.toList, List.cons_append, List.nil_append, List.append]
        first | ((with_reducible show Rp _ _ _ _ (.int (b2i _) :: _) _ _); refine Rp.if_neB (tgt := 26) dX12_days_17 (by decide) (fun c17 => ?_) (fun c17 => ?_)) | ((with_reducible show Rp _ _ _ _ (.int (nI _) :: _) _ _); refine Rp.if_neN (tgt := 26) dX12_days_17 (by decide) (by omega) (fun c17 => ?_) (fun c17 => ?_)) | refine Rp.if_ne (tgt := 26) dX12_days_17 (by decide) (fun c17 => ?_) (fun c17 => ?_)
        · skip
          cases c17
        · skip
          refine Rp.aload_n dX12_days_20 rfl rfl ?_
          refine Rp.iconst (-1) dX12_days_21 (by decide) ?_
          refine Rp.callV1 M_X12_refuses (ci := 12) dX12_days_22 mo_X12_refuses lk_X12_121 (by decide) rfl rfl (S _ _ rfl) (Nat.le_of_ble_eq_true rfl) (Nat.le_of_ble_eq_true rfl) (s_refuses d S R 1 (by decide)) (fun v1 h1 p1 x1 => ?_)
          rw [p1.1, p1.2]
          try dsimp only [Option.toList, List.cons_append, List.nil_append, List.append]
          refine Rp.ireturn dX12_days_25 rfl ?_
          exact ⟨rfl, rfl⟩
    · rw [e1, e2] at hb; cases hb
theorem s_days_none (S : ShOK h) (R : RfOK h) {s n : Int32} (hb : dzB s n = true) {np nt : Nat} (hM : gI h 102 103 = nI np) (hT : gI h 102 104 = nI nt) (v1 : np ≤ 6) (v2 : nt ≤ 8) (hz : np = 0 ∨ nt = 0) : Rp (d + 1) M_X12_days 0 [some (.ref aM), some (.int s), some (.int n), none, none, none, none] [] h (fun r h' => h' = rfH h 3 ∧ r = some (.int (-nI 3))) := by
  unfold dzB at hb
  rw [Bool.and_eq_true] at hb
  obtain ⟨e1, e2⟩ := hb
  by_cases z : np = 0
  · skip
    refine Rp.iload_n dX12_days_0 rfl ?_
    refine Rp.iconst (nI 0) dX12_days_1 (by decide) ?_
    refine Rp.ldc dX12_days_2 kc_X12_192 ?_
    refine Rp.callS3 M_X12_lies dX12_days_4 mo_X12_lies lk_X12_117 (Nat.le_of_ble_eq_true rfl) (Nat.le_of_ble_eq_true rfl) (s_lies d h s (nI 0) 1000000) (fun v1 h1 p1 x1 => ?_)
    rw [p1.1, p1.2, e1]
    try dsimp only [Option.toList, List.cons_append, List.nil_append, List.append]
    first | ((with_reducible show Rp _ _ _ _ (.int (b2i _) :: _) _ _); refine Rp.if_eqB (tgt := 20) dX12_days_7 (by decide) (fun c7 => ?_) (fun c7 => ?_)) | ((with_reducible show Rp _ _ _ _ (.int (nI _) :: _) _ _); refine Rp.if_eqN (tgt := 20) dX12_days_7 (by decide) (by omega) (fun c7 => ?_) (fun c7 => ?_)) | refine Rp.if_eq (tgt := 20) dX12_days_7 (by decide) (fun c7 => ?_) (fun c7 => ?_)
    · skip
      cases c7
    · skip
      refine Rp.iload_n dX12_days_10 rfl ?_
      refine Rp.iconst (nI 1) dX12_days_11 (by decide) ?_
      refine Rp.bipush (nI 60) dX12_days_12 (by decide) ?_
      refine Rp.callS3 M_X12_lies dX12_days_14 mo_X12_lies lk_X12_117 (Nat.le_of_ble_eq_true rfl) (Nat.le_of_ble_eq_true rfl) (s_lies d h n (nI 1) (nI 60)) (fun v1 h1 p1 x1 => ?_)
      rw [p1.1, p1.2, e2]
      try dsimp only [Option.toList, List.cons_append, List.nil_append, List.append]
      first | ((with_reducible show Rp _ _ _ _ (.int (b2i _) :: _) _ _); refine Rp.if_neB (tgt := 26) dX12_days_17 (by decide) (fun c17 => ?_) (fun c17 => ?_)) | ((with_reducible show Rp _ _ _ _ (.int (nI _) :: _) _ _); refine Rp.if_neN (tgt := 26) dX12_days_17 (by decide) (by omega) (fun c17 => ?_) (fun c17 => ?_)) | refine Rp.if_ne (tgt := 26) dX12_days_17 (by decide) (fun c17 => ?_) (fun c17 => ?_)
      · skip
        refine Rp.aload_n dX12_days_26 rfl rfl ?_
        refine Rp.getR dX12_days_27 fk_X12_24 rfl (S _ _ rfl) (R _ _ _ rfl) ?_
        refine Rp.bipush (nI 103) dX12_days_30 (by decide) ?_
        first | ((with_reducible show Rp _ _ _ _ (.int (nI _) :: _) _ _); refine Rp.ialoadN dX12_days_32 (S _ _ rfl) (by omega) ?_) | refine Rp.iaload dX12_days_32 (S _ _ rfl) (by first | assumption | exact vpb (by decide)) ?_
        first | rw [hM] | rw [hT] | skip
        first | ((with_reducible show Rp _ _ _ _ (.int (b2i _) :: _) _ _); refine Rp.if_eqB (tgt := 46) dX12_days_33 (by decide) (fun c33 => ?_) (fun c33 => ?_)) | ((with_reducible show Rp _ _ _ _ (.int (nI _) :: _) _ _); refine Rp.if_eqN (tgt := 46) dX12_days_33 (by decide) (by omega) (fun c33 => ?_) (fun c33 => ?_)) | refine Rp.if_eq (tgt := 46) dX12_days_33 (by decide) (fun c33 => ?_) (fun c33 => ?_)
        · skip
          refine Rp.aload_n dX12_days_46 rfl rfl ?_
          refine Rp.bipush (-3) dX12_days_47 (by decide) ?_
          refine Rp.callV1 M_X12_refuses (ci := 12) dX12_days_49 mo_X12_refuses lk_X12_121 (by decide) rfl rfl (S _ _ rfl) (Nat.le_of_ble_eq_true rfl) (Nat.le_of_ble_eq_true rfl) (s_refuses d S R 3 (by decide)) (fun v1 h1 p1 x1 => ?_)
          rw [p1.1, p1.2]
          try dsimp only [Option.toList, List.cons_append, List.nil_append, List.append]
          refine Rp.ireturn dX12_days_52 rfl ?_
          exact ⟨rfl, rfl⟩
        · skip
          first | (exfalso; omega) | exact absurd c33 (by decide) | exact absurd (by decide) c33
      · skip
        cases c17
  · have z2 : nt = 0 := hz.resolve_left z
    refine Rp.iload_n dX12_days_0 rfl ?_
    refine Rp.iconst (nI 0) dX12_days_1 (by decide) ?_
    refine Rp.ldc dX12_days_2 kc_X12_192 ?_
    refine Rp.callS3 M_X12_lies dX12_days_4 mo_X12_lies lk_X12_117 (Nat.le_of_ble_eq_true rfl) (Nat.le_of_ble_eq_true rfl) (s_lies d h s (nI 0) 1000000) (fun v1 h1 p1 x1 => ?_)
    rw [p1.1, p1.2, e1]
    try dsimp only [Option.toList, List.cons_append, List.nil_append, List.append]
    first | ((with_reducible show Rp _ _ _ _ (.int (b2i _) :: _) _ _); refine Rp.if_eqB (tgt := 20) dX12_days_7 (by decide) (fun c7 => ?_) (fun c7 => ?_)) | ((with_reducible show Rp _ _ _ _ (.int (nI _) :: _) _ _); refine Rp.if_eqN (tgt := 20) dX12_days_7 (by decide) (by omega) (fun c7 => ?_) (fun c7 => ?_)) | refine Rp.if_eq (tgt := 20) dX12_days_7 (by decide) (fun c7 => ?_) (fun c7 => ?_)
    · skip
      cases c7
    · skip
      refine Rp.iload_n dX12_days_10 rfl ?_
      refine Rp.iconst (nI 1) dX12_days_11 (by decide) ?_
      refine Rp.bipush (nI 60) dX12_days_12 (by decide) ?_
      refine Rp.callS3 M_X12_lies dX12_days_14 mo_X12_lies lk_X12_117 (Nat.le_of_ble_eq_true rfl) (Nat.le_of_ble_eq_true rfl) (s_lies d h n (nI 1) (nI 60)) (fun v1 h1 p1 x1 => ?_)
      rw [p1.1, p1.2, e2]
      try dsimp only [Option.toList, List.cons_append, List.nil_append, List.append]
      first | ((with_reducible show Rp _ _ _ _ (.int (b2i _) :: _) _ _); refine Rp.if_neB (tgt := 26) dX12_days_17 (by decide) (fun c17 => ?_) (fun c17 => ?_)) | ((with_reducible show Rp _ _ _ _ (.int (nI _) :: _) _ _); refine Rp.if_neN (tgt := 26) dX12_days_17 (by decide) (by omega) (fun c17 => ?_) (fun c17 => ?_)) | refine Rp.if_ne (tgt := 26) dX12_days_17 (by decide) (fun c17 => ?_) (fun c17 => ?_)
      · skip
        refine Rp.aload_n dX12_days_26 rfl rfl ?_
        refine Rp.getR dX12_days_27 fk_X12_24 rfl (S _ _ rfl) (R _ _ _ rfl) ?_
        refine Rp.bipush (nI 103) dX12_days_30 (by decide) ?_
        first | ((with_reducible show Rp _ _ _ _ (.int (nI _) :: _) _ _); refine Rp.ialoadN dX12_days_32 (S _ _ rfl) (by omega) ?_) | refine Rp.iaload dX12_days_32 (S _ _ rfl) (by first | assumption | exact vpb (by decide)) ?_
        first | rw [hM] | rw [hT] | skip
        first | ((with_reducible show Rp _ _ _ _ (.int (b2i _) :: _) _ _); refine Rp.if_eqB (tgt := 46) dX12_days_33 (by decide) (fun c33 => ?_) (fun c33 => ?_)) | ((with_reducible show Rp _ _ _ _ (.int (nI _) :: _) _ _); refine Rp.if_eqN (tgt := 46) dX12_days_33 (by decide) (by omega) (fun c33 => ?_) (fun c33 => ?_)) | refine Rp.if_eq (tgt := 46) dX12_days_33 (by decide) (fun c33 => ?_) (fun c33 => ?_)
        · skip
          first | (exfalso; omega) | exact absurd c33 (by decide) | exact absurd (by decide) c33
        · skip
          refine Rp.aload_n dX12_days_36 rfl rfl ?_
          refine Rp.getR dX12_days_37 fk_X12_24 rfl (S _ _ rfl) (R _ _ _ rfl) ?_
          refine Rp.bipush (nI 104) dX12_days_40 (by decide) ?_
          first | ((with_reducible show Rp _ _ _ _ (.int (nI _) :: _) _ _); refine Rp.ialoadN dX12_days_42 (S _ _ rfl) (by omega) ?_) | refine Rp.iaload dX12_days_42 (S _ _ rfl) (by first | assumption | exact vpb (by decide)) ?_
          first | rw [hM] | rw [hT] | skip
          first | ((with_reducible show Rp _ _ _ _ (.int (b2i _) :: _) _ _); refine Rp.if_neB (tgt := 53) dX12_days_43 (by decide) (fun c43 => ?_) (fun c43 => ?_)) | ((with_reducible show Rp _ _ _ _ (.int (nI _) :: _) _ _); refine Rp.if_neN (tgt := 53) dX12_days_43 (by decide) (by omega) (fun c43 => ?_) (fun c43 => ?_)) | refine Rp.if_ne (tgt := 53) dX12_days_43 (by decide) (fun c43 => ?_) (fun c43 => ?_)
          · skip
            first | (exfalso; omega) | exact absurd c43 (by decide) | exact absurd (by decide) c43
          · skip
            refine Rp.aload_n dX12_days_46 rfl rfl ?_
            refine Rp.bipush (-3) dX12_days_47 (by decide) ?_
            refine Rp.callV1 M_X12_refuses (ci := 12) dX12_days_49 mo_X12_refuses lk_X12_121 (by decide) rfl rfl (S _ _ rfl) (Nat.le_of_ble_eq_true rfl) (Nat.le_of_ble_eq_true rfl) (s_refuses d S R 3 (by decide)) (fun v1 h1 p1 x1 => ?_)
            rw [p1.1, p1.2]
            try dsimp only [Option.toList, List.cons_append, List.nil_append, List.append]
            refine Rp.ireturn dX12_days_52 rfl ?_
            exact ⟨rfl, rfl⟩
      · skip
        cases c17
end Dg
