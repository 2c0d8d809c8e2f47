section Ma4
variable (d : Nat) {h : AH} {fl : Option (List CLE)} {np nt : Nat} {US : List (Nat → Int32)}
theorem s_swapsNow (S : ShOK h) (R : RfOK h) {p q : Nat} (hp : p < 6) (hq : q < 6) : Rp d M_X12_swapsNow 0 [some (.ref aM), some (.int (nI p)), some (.int (nI q)), none] [] h (fun r h' => h' = sI (sI h 102 (0 + p) (gI h 102 (0 + q))) 102 (0 + q) (gI h 102 (0 + p)) ∧ r = none) := by
  refine Rp.aload_n dX12_swapsNow_0 rfl rfl ?_
  refine Rp.getR dX12_swapsNow_1 fk_X12_24 rfl (S _ _ rfl) (R _ _ _ rfl) ?_
  refine Rp.iconst (nI 0) dX12_swapsNow_4 (by decide) ?_
  refine Rp.iload_n dX12_swapsNow_5 rfl ?_
  first | ((with_reducible show Rp _ _ _ _ (.int (nI _) :: .int (nI _) :: _) _ _); refine Rp.iaddN dX12_swapsNow_6 ?_) | refine Rp.iadd dX12_swapsNow_6 ?_
  first | ((with_reducible show Rp _ _ _ _ (.int (nI _) :: _) _ _); refine Rp.ialoadN dX12_swapsNow_7 (S _ _ rfl) (by omega) ?_) | refine Rp.iaload dX12_swapsNow_7 (S _ _ rfl) (by first | assumption | exact vpb (by decide)) ?_
  refine Rp.ist3 dX12_swapsNow_8 (by first | exact nl2_some rfl | exact nl2_none) (by decide) ?_
  refine Rp.aload_n dX12_swapsNow_9 rfl rfl ?_
  refine Rp.getR dX12_swapsNow_10 fk_X12_24 rfl (S _ _ rfl) (R _ _ _ rfl) ?_
  refine Rp.iconst (nI 0) dX12_swapsNow_13 (by decide) ?_
  refine Rp.iload_n dX12_swapsNow_14 rfl ?_
  first | ((with_reducible show Rp _ _ _ _ (.int (nI _) :: .int (nI _) :: _) _ _); refine Rp.iaddN dX12_swapsNow_15 ?_) | refine Rp.iadd dX12_swapsNow_15 ?_
  refine Rp.aload_n dX12_swapsNow_16 rfl rfl ?_
  refine Rp.getR dX12_swapsNow_17 fk_X12_24 rfl (S _ _ rfl) (R _ _ _ rfl) ?_
  refine Rp.iconst (nI 0) dX12_swapsNow_20 (by decide) ?_
  refine Rp.iload_n dX12_swapsNow_21 rfl ?_
  first | ((with_reducible show Rp _ _ _ _ (.int (nI _) :: .int (nI _) :: _) _ _); refine Rp.iaddN dX12_swapsNow_22 ?_) | refine Rp.iadd dX12_swapsNow_22 ?_
  first | ((with_reducible show Rp _ _ _ _ (.int (nI _) :: _) _ _); refine Rp.ialoadN dX12_swapsNow_23 (S _ _ rfl) (by omega) ?_) | refine Rp.iaload dX12_swapsNow_23 (S _ _ rfl) (by first | assumption | exact vpb (by decide)) ?_
  first | ((with_reducible show Rp _ _ _ _ (_ :: .int (nI _) :: _) _ _); refine Rp.iastoreN dX12_swapsNow_24 (S _ _ rfl) (by omega) ?_) | refine Rp.iastore dX12_swapsNow_24 (S _ _ rfl) (by first | assumption | exact vpb (by decide)) ?_
  refine Rp.aload_n dX12_swapsNow_25 rfl rfl ?_
  refine Rp.getR dX12_swapsNow_26 fk_X12_24 rfl (S _ _ rfl) (R _ _ _ rfl) ?_
  refine Rp.iconst (nI 0) dX12_swapsNow_29 (by decide) ?_
  refine Rp.iload_n dX12_swapsNow_30 rfl ?_
  first | ((with_reducible show Rp _ _ _ _ (.int (nI _) :: .int (nI _) :: _) _ _); refine Rp.iaddN dX12_swapsNow_31 ?_) | refine Rp.iadd dX12_swapsNow_31 ?_
  refine Rp.iload_n dX12_swapsNow_32 rfl ?_
  first | ((with_reducible show Rp _ _ _ _ (_ :: .int (nI _) :: _) _ _); refine Rp.iastoreN dX12_swapsNow_33 (S _ _ rfl) (by omega) ?_) | refine Rp.iastore dX12_swapsNow_33 (S _ _ rfl) (by first | assumption | exact vpb (by decide)) ?_
  refine Rp.vreturn dX12_swapsNow_34 rfl ?_
  exact ⟨rfl, rfl⟩
theorem s_swapsKept (A : MA h fl np nt US) (p q : Int32) : Rp (d + 77) M_X12_swapsKept 0 [some (.ref aM), some (.int p), some (.int q)] [] h (AmQ h US (swR (gI h am_kept) fl np p q)) := by
  have A0 := A
  obtain ⟨S, R, hF, B, V, hM, hT, L⟩ := A
  have q1 := s_isPerson (d + 75) S R p V.1 hM
  have q2 := s_isPerson (d + 75) S R q V.1 hM
  have v1 := V.1
  unfold swR
  by_cases e1 : inN p np = true
  · rw [e1] at q1
    by_cases e2 : inN q np = true
    · rw [e2] at q2
      rw [if_pos (by rw [e1, e2]; rfl)]
      obtain ⟨u, hu, rfl⟩ := (inN_iff (by omega)).mp e1
      obtain ⟨w, hw, rfl⟩ := (inN_iff (by omega)).mp e2
      rw [ix_nI (by omega), ix_nI (by omega)]
      have cd := s_canSwap d A0 (p := u) (q := w) (by omega) (by omega)
      refine Rp.aload_n dX12_swapsKept_0 rfl rfl ?_
      refine Rp.iload_n dX12_swapsKept_1 rfl ?_
      refine Rp.callV1 M_X12_isPerson (ci := 12) dX12_swapsKept_2 mo_X12_isPerson lk_X12_131 (by decide) rfl rfl (S _ _ rfl) (Nat.le_of_ble_eq_true rfl) (Nat.le_of_ble_eq_true rfl) (q1) (fun v1 h1 p1 x1 => ?_)
      rw [p1.1, p1.2]
      try dsimp only [Option.toList, List.cons_append, List.nil_append, List.append]
      first | ((with_reducible show Rp _ _ _ _ (.int (b2i _) :: _) _ _); refine Rp.if_eqB (tgt := 16) dX12_swapsKept_5 (by decide) (fun c5 => ?_) (fun c5 => ?_)) | ((with_reducible show Rp _ _ _ _ (.int (nI _) :: _) _ _); refine Rp.if_eqN (tgt := 16) dX12_swapsKept_5 (by decide) (by omega) (fun c5 => ?_) (fun c5 => ?_)) | refine Rp.if_eq (tgt := 16) dX12_swapsKept_5 (by decide) (fun c5 => ?_) (fun c5 => ?_)
      · cases c5
      refine Rp.aload_n dX12_swapsKept_8 rfl rfl ?_
      refine Rp.iload_n dX12_swapsKept_9 rfl ?_
      refine Rp.callV1 M_X12_isPerson (ci := 12) dX12_swapsKept_10 mo_X12_isPerson lk_X12_131 (by decide) rfl rfl (S _ _ rfl) (Nat.le_of_ble_eq_true rfl) (Nat.le_of_ble_eq_true rfl) (q2) (fun v1 h1 p1 x1 => ?_)
      rw [p1.1, p1.2]
      try dsimp only [Option.toList, List.cons_append, List.nil_append, List.append]
      first | ((with_reducible show Rp _ _ _ _ (.int (b2i _) :: _) _ _); refine Rp.if_neB (tgt := 19) dX12_swapsKept_13 (by decide) (fun c13 => ?_) (fun c13 => ?_)) | ((with_reducible show Rp _ _ _ _ (.int (nI _) :: _) _ _); refine Rp.if_neN (tgt := 19) dX12_swapsKept_13 (by decide) (by omega) (fun c13 => ?_) (fun c13 => ?_)) | refine Rp.if_ne (tgt := 19) dX12_swapsKept_13 (by decide) (fun c13 => ?_) (fun c13 => ?_)
      rotate_left
      · cases c13
      refine Rp.aload_n dX12_swapsKept_19 rfl rfl ?_
      refine Rp.iload_n dX12_swapsKept_20 rfl ?_
      refine Rp.iload_n dX12_swapsKept_21 rfl ?_
      refine Rp.callV2 M_X12_canSwap (ci := 12) dX12_swapsKept_22 mo_X12_canSwap lk_X12_360 (by decide) rfl rfl (S _ _ rfl) (Nat.le_of_ble_eq_true rfl) (Nat.le_of_ble_eq_true rfl) (cd) (fun v1 h1 p1 x1 => ?_)
      obtain ⟨F1, rfl⟩ := p1
      try dsimp only [Option.toList, List.cons_append, List.nil_append, List.append]
      skip
      have S1 := F1.S S
      have R1 := F1.R R (by decide)
      have eK : gI h1 102 = gI h 102 := (mdX_t F1).k102
      cases e3 : canS (gI h am_kept) fl u w
      · rw [if_neg (by decide)]
        first | ((with_reducible show Rp _ _ _ _ (.int (b2i _) :: _) _ _); refine Rp.if_neB (tgt := 31) dX12_swapsKept_25 (by decide) (fun c25 => ?_) (fun c25 => ?_)) | ((with_reducible show Rp _ _ _ _ (.int (nI _) :: _) _ _); refine Rp.if_neN (tgt := 31) dX12_swapsKept_25 (by decide) (by omega) (fun c25 => ?_) (fun c25 => ?_)) | refine Rp.if_ne (tgt := 31) dX12_swapsKept_25 (by decide) (fun c25 => ?_) (fun c25 => ?_)
        · skip
          cases c25
        · skip
          refine Rp.bipush (-3) dX12_swapsKept_28 (by decide) ?_
          refine Rp.ireturn dX12_swapsKept_30 rfl ?_
          exact AmQ_no L F1
      · rw [if_pos rfl]
        have uw : u ≠ w := fun z => by
          unfold canS at e3
          rw [decide_eq_false (fun y => y z)] at e3
          cases e3
        have kp := s_keeps (d + 76) S1 R1 (L.ft F1) 1
        first | ((with_reducible show Rp _ _ _ _ (.int (b2i _) :: _) _ _); refine Rp.if_neB (tgt := 31) dX12_swapsKept_25 (by decide) (fun c25 => ?_) (fun c25 => ?_)) | ((with_reducible show Rp _ _ _ _ (.int (nI _) :: _) _ _); refine Rp.if_neN (tgt := 31) dX12_swapsKept_25 (by decide) (by omega) (fun c25 => ?_) (fun c25 => ?_)) | refine Rp.if_ne (tgt := 31) dX12_swapsKept_25 (by decide) (fun c25 => ?_) (fun c25 => ?_)
        rotate_left
        · cases c25
        refine Rp.aload_n dX12_swapsKept_31 rfl rfl ?_
        refine Rp.iconst (nI 1) dX12_swapsKept_32 (by decide) ?_
        refine Rp.callV1 M_X12_keeps (ci := 12) dX12_swapsKept_33 mo_X12_keeps lk_X12_357 (by decide) rfl rfl (S1 _ _ rfl) (Nat.le_of_ble_eq_true rfl) (Nat.le_of_ble_eq_true rfl) (kp) (fun v1 h1 p1 x1 => ?_)
        obtain ⟨rfl, F2, L2⟩ := p1
        try dsimp only [Option.toList, List.cons_append, List.nil_append, List.append]
        skip
        have S2 := F2.S S1
        have R2 := F2.R R1 (by decide)
        have eK2 : gI h1 102 = gI h 102 := (funext fun j => F2.I 102 j rfl).trans eK
        rw [eK] at L2
        have sn := s_swapsNow (d + 76) S2 R2 (p := u) (q := w) (by omega) (by omega)
        have K3 : gI (sI (sI h1 102 (0 + u) (gI h1 102 (0 + w))) 102 (0 + w) (gI h1 102 (0 + u))) 102 = swK (gI h 102) u w := funext fun j => by
          unfold swK upK
          rw [gI_at, gI_at, Nat.zero_add, Nat.zero_add, eK2]
        have en : gI (sI (sI h1 102 (0 + u) (gI h1 102 (0 + w))) 102 (0 + w) (gI h1 102 (0 + u))) 102 (0 + u) = gI h am_kept w := by
          rw [K3, Nat.zero_add]
          unfold swK upK
          rw [if_neg uw, if_pos rfl]
        have F3 : Fr amX h (sI (sI h1 102 (0 + u) (gI h1 102 (0 + w))) 102 (0 + w) (gI h1 102 (0 + u))) := (((amX_t F1).trans (amX_k F2)).sI (by unfold amX; rw [decide_eq_true (show 0 + u < 7 by omega)]; simp)).sI (by unfold amX; rw [decide_eq_true (show 0 + w < 7 by omega)]; simp)
        have L3 : LGm (sI (sI h1 102 (0 + u) (gI h1 102 (0 + w))) 102 (0 + w) (gI h1 102 (0 + u))) (lgU US (rwF (gI h 102) 1)) := ⟨L2.1, by rw [gI_ne _ _ _ _ (by decide), gI_ne _ _ _ _ (by decide)]; exact L2.2.1, fun i r hi j hj => by rw [gI_ne _ _ _ _ (by decide), gI_ne _ _ _ _ (by decide)]; exact L2.2.2 i r hi j hj⟩
        refine Rp.aload_n dX12_swapsKept_36 rfl rfl ?_
        refine Rp.iload_n dX12_swapsKept_37 rfl ?_
        refine Rp.iload_n dX12_swapsKept_38 rfl ?_
        refine Rp.callV2 M_X12_swapsNow (ci := 12) dX12_swapsKept_39 mo_X12_swapsNow lk_X12_363 (by decide) rfl rfl (S2 _ _ rfl) (Nat.le_of_ble_eq_true rfl) (Nat.le_of_ble_eq_true rfl) (sn) (fun v1 h1 p1 x1 => ?_)
        rw [p1.1, p1.2]
        try dsimp only [Option.toList, List.cons_append, List.nil_append, List.append]
        refine Rp.aload_n dX12_swapsKept_42 rfl rfl ?_
        refine Rp.getR dX12_swapsKept_43 fk_X12_24 rfl (S2 _ _ rfl) (R2 _ _ _ rfl) ?_
        refine Rp.iconst (nI 0) dX12_swapsKept_46 (by decide) ?_
        refine Rp.iload_n dX12_swapsKept_47 rfl ?_
        first | ((with_reducible show Rp _ _ _ _ (.int (nI _) :: .int (nI _) :: _) _ _); refine Rp.iaddN dX12_swapsKept_48 ?_) | refine Rp.iadd dX12_swapsKept_48 ?_
        first | ((with_reducible show Rp _ _ _ _ (.int (nI _) :: _) _ _); refine Rp.ialoadN dX12_swapsKept_49 (S2 _ _ rfl) (by omega) ?_) | refine Rp.iaload dX12_swapsKept_49 (S2 _ _ rfl) (by first | assumption | exact vpb (by decide)) ?_
        first | rw [en] | skip
        refine Rp.ireturn dX12_swapsKept_50 rfl ?_
        exact ⟨rfl, F3, K3, L3⟩
    · have e2 : inN q np = false := Bool.eq_false_iff.mpr e2
      rw [e2] at q2
      rw [if_neg (by rw [e2, Bool.and_false]; decide)]
      refine Rp.aload_n dX12_swapsKept_0 rfl rfl ?_
      refine Rp.iload_n dX12_swapsKept_1 rfl ?_
      refine Rp.callV1 M_X12_isPerson (ci := 12) dX12_swapsKept_2 mo_X12_isPerson lk_X12_131 (by decide) rfl rfl (S _ _ rfl) (Nat.le_of_ble_eq_true rfl) (Nat.le_of_ble_eq_true rfl) (q1) (fun v1 h1 p1 x1 => ?_)
      rw [p1.1, p1.2]
      try dsimp only [Option.toList, List.cons_append, List.nil_append, List.append]
      first | ((with_reducible show Rp _ _ _ _ (.int (b2i _) :: _) _ _); refine Rp.if_eqB (tgt := 16) dX12_swapsKept_5 (by decide) (fun c5 => ?_) (fun c5 => ?_)) | ((with_reducible show Rp _ _ _ _ (.int (nI _) :: _) _ _); refine Rp.if_eqN (tgt := 16) dX12_swapsKept_5 (by decide) (by omega) (fun c5 => ?_) (fun c5 => ?_)) | refine Rp.if_eq (tgt := 16) dX12_swapsKept_5 (by decide) (fun c5 => ?_) (fun c5 => ?_)
      · skip
        cases c5
      · skip
        refine Rp.aload_n dX12_swapsKept_8 rfl rfl ?_
        refine Rp.iload_n dX12_swapsKept_9 rfl ?_
        refine Rp.callV1 M_X12_isPerson (ci := 12) dX12_swapsKept_10 mo_X12_isPerson lk_X12_131 (by decide) rfl rfl (S _ _ rfl) (Nat.le_of_ble_eq_true rfl) (Nat.le_of_ble_eq_true rfl) (q2) (fun v1 h1 p1 x1 => ?_)
        rw [p1.1, p1.2]
        try dsimp only [Option.toList, List.cons_append, List.nil_append, List.append]
        first | ((with_reducible show Rp _ _ _ _ (.int (b2i _) :: _) _ _); refine Rp.if_neB (tgt := 19) dX12_swapsKept_13 (by decide) (fun c13 => ?_) (fun c13 => ?_)) | ((with_reducible show Rp _ _ _ _ (.int (nI _) :: _) _ _); refine Rp.if_neN (tgt := 19) dX12_swapsKept_13 (by decide) (by omega) (fun c13 => ?_) (fun c13 => ?_)) | refine Rp.if_ne (tgt := 19) dX12_swapsKept_13 (by decide) (fun c13 => ?_) (fun c13 => ?_)
        · skip
          cases c13
        · skip
          refine Rp.bipush (-2) dX12_swapsKept_16 (by decide) ?_
          refine Rp.ireturn dX12_swapsKept_18 rfl ?_
          exact AmQ_no L Fr.rfl'
  · have e1 : inN p np = false := Bool.eq_false_iff.mpr e1
    rw [e1] at q1
    rw [if_neg (by rw [e1, Bool.false_and]; decide)]
    refine Rp.aload_n dX12_swapsKept_0 rfl rfl ?_
    refine Rp.iload_n dX12_swapsKept_1 rfl ?_
    refine Rp.callV1 M_X12_isPerson (ci := 12) dX12_swapsKept_2 mo_X12_isPerson lk_X12_131 (by decide) rfl rfl (S _ _ rfl) (Nat.le_of_ble_eq_true rfl) (Nat.le_of_ble_eq_true rfl) (q1) (fun v1 h1 p1 x1 => ?_)
    rw [p1.1, p1.2]
    try dsimp only [Option.toList, List.cons_append, List.nil_append, List.append]
    first | ((with_reducible show Rp _ _ _ _ (.int (b2i _) :: _) _ _); refine Rp.if_eqB (tgt := 16) dX12_swapsKept_5 (by decide) (fun c5 => ?_) (fun c5 => ?_)) | ((with_reducible show Rp _ _ _ _ (.int (nI _) :: _) _ _); refine Rp.if_eqN (tgt := 16) dX12_swapsKept_5 (by decide) (by omega) (fun c5 => ?_) (fun c5 => ?_)) | refine Rp.if_eq (tgt := 16) dX12_swapsKept_5 (by decide) (fun c5 => ?_) (fun c5 => ?_)
    · skip
      refine Rp.bipush (-2) dX12_swapsKept_16 (by decide) ?_
      refine Rp.ireturn dX12_swapsKept_18 rfl ?_
      exact AmQ_no L Fr.rfl'
    · skip
      cases c5
theorem s_dropsKept (A : MA h fl np nt US) (p : Int32) : Rp (d + 77) M_X12_dropsKept 0 [some (.ref aM), some (.int p), none] [] h (AmQ h US (dpR (gI h am_kept) np p)) := by
  obtain ⟨S, R, hF, B, V, hM, hT, L⟩ := A
  have q1 := s_isPerson (d + 75) S R p V.1 hM
  have v1 := V.1
  unfold dpR
  by_cases e1 : inN p np = true
  · rw [e1] at q1
    rw [if_pos e1]
    obtain ⟨w, hw, rfl⟩ := (inN_iff (by omega)).mp e1
    rw [ix_nI (by omega)]
    have ho := s_holds (d + 76) S R (q := w) (by omega)
    by_cases c1 : gI h am_kept w = -1
    · rw [if_pos c1]
      rw [decide_eq_false (fun z => z c1)] at ho
      refine Rp.aload_n dX12_dropsKept_0 rfl rfl ?_
      refine Rp.iload_n dX12_dropsKept_1 rfl ?_
      refine Rp.callV1 M_X12_isPerson (ci := 12) dX12_dropsKept_2 mo_X12_isPerson lk_X12_131 (by decide) rfl rfl (S _ _ rfl) (Nat.le_of_ble_eq_true rfl) (Nat.le_of_ble_eq_true rfl) (q1) (fun v1 h1 p1 x1 => ?_)
      rw [p1.1, p1.2]
      try dsimp only [Option.toList, List.cons_append, List.nil_append, List.append]
      first | ((with_reducible show Rp _ _ _ _ (.int (b2i _) :: _) _ _); refine Rp.if_neB (tgt := 11) dX12_dropsKept_5 (by decide) (fun c5 => ?_) (fun c5 => ?_)) | ((with_reducible show Rp _ _ _ _ (.int (nI _) :: _) _ _); refine Rp.if_neN (tgt := 11) dX12_dropsKept_5 (by decide) (by omega) (fun c5 => ?_) (fun c5 => ?_)) | refine Rp.if_ne (tgt := 11) dX12_dropsKept_5 (by decide) (fun c5 => ?_) (fun c5 => ?_)
      · skip
        refine Rp.aload_n dX12_dropsKept_11 rfl rfl ?_
        refine Rp.iload_n dX12_dropsKept_12 rfl ?_
        refine Rp.callV1 M_X12_holds (ci := 12) dX12_dropsKept_13 mo_X12_holds lk_X12_351 (by decide) rfl rfl (S _ _ rfl) (Nat.le_of_ble_eq_true rfl) (Nat.le_of_ble_eq_true rfl) (ho) (fun v1 h1 p1 x1 => ?_)
        rw [p1.1, p1.2]
        try dsimp only [Option.toList, List.cons_append, List.nil_append, List.append]
        first | ((with_reducible show Rp _ _ _ _ (.int (b2i _) :: _) _ _); refine Rp.if_neB (tgt := 22) dX12_dropsKept_16 (by decide) (fun c16 => ?_) (fun c16 => ?_)) | ((with_reducible show Rp _ _ _ _ (.int (nI _) :: _) _ _); refine Rp.if_neN (tgt := 22) dX12_dropsKept_16 (by decide) (by omega) (fun c16 => ?_) (fun c16 => ?_)) | refine Rp.if_ne (tgt := 22) dX12_dropsKept_16 (by decide) (fun c16 => ?_) (fun c16 => ?_)
        · skip
          cases c16
        · skip
          refine Rp.bipush (-3) dX12_dropsKept_19 (by decide) ?_
          refine Rp.ireturn dX12_dropsKept_21 rfl ?_
          exact AmQ_no L Fr.rfl'
      · skip
        cases c5
    · rw [if_neg c1]
      rw [decide_eq_true c1] at ho
      have kp := s_keeps (d + 76) S R L 2
      refine Rp.aload_n dX12_dropsKept_0 rfl rfl ?_
      refine Rp.iload_n dX12_dropsKept_1 rfl ?_
      refine Rp.callV1 M_X12_isPerson (ci := 12) dX12_dropsKept_2 mo_X12_isPerson lk_X12_131 (by decide) rfl rfl (S _ _ rfl) (Nat.le_of_ble_eq_true rfl) (Nat.le_of_ble_eq_true rfl) (q1) (fun v1 h1 p1 x1 => ?_)
      rw [p1.1, p1.2]
      try dsimp only [Option.toList, List.cons_append, List.nil_append, List.append]
      first | ((with_reducible show Rp _ _ _ _ (.int (b2i _) :: _) _ _); refine Rp.if_neB (tgt := 11) dX12_dropsKept_5 (by decide) (fun c5 => ?_) (fun c5 => ?_)) | ((with_reducible show Rp _ _ _ _ (.int (nI _) :: _) _ _); refine Rp.if_neN (tgt := 11) dX12_dropsKept_5 (by decide) (by omega) (fun c5 => ?_) (fun c5 => ?_)) | refine Rp.if_ne (tgt := 11) dX12_dropsKept_5 (by decide) (fun c5 => ?_) (fun c5 => ?_)
      rotate_left
      · cases c5
      refine Rp.aload_n dX12_dropsKept_11 rfl rfl ?_
      refine Rp.iload_n dX12_dropsKept_12 rfl ?_
      refine Rp.callV1 M_X12_holds (ci := 12) dX12_dropsKept_13 mo_X12_holds lk_X12_351 (by decide) rfl rfl (S _ _ rfl) (Nat.le_of_ble_eq_true rfl) (Nat.le_of_ble_eq_true rfl) (ho) (fun v1 h1 p1 x1 => ?_)
      rw [p1.1, p1.2]
      try dsimp only [Option.toList, List.cons_append, List.nil_append, List.append]
      first | ((with_reducible show Rp _ _ _ _ (.int (b2i _) :: _) _ _); refine Rp.if_neB (tgt := 22) dX12_dropsKept_16 (by decide) (fun c16 => ?_) (fun c16 => ?_)) | ((with_reducible show Rp _ _ _ _ (.int (nI _) :: _) _ _); refine Rp.if_neN (tgt := 22) dX12_dropsKept_16 (by decide) (by omega) (fun c16 => ?_) (fun c16 => ?_)) | refine Rp.if_ne (tgt := 22) dX12_dropsKept_16 (by decide) (fun c16 => ?_) (fun c16 => ?_)
      rotate_left
      · cases c16
      refine Rp.aload_n dX12_dropsKept_22 rfl rfl ?_
      refine Rp.iconst (nI 2) dX12_dropsKept_23 (by decide) ?_
      refine Rp.callV1 M_X12_keeps (ci := 12) dX12_dropsKept_24 mo_X12_keeps lk_X12_357 (by decide) rfl rfl (S _ _ rfl) (Nat.le_of_ble_eq_true rfl) (Nat.le_of_ble_eq_true rfl) (kp) (fun v1 h1 p1 x1 => ?_)
      obtain ⟨rfl, F2, L2⟩ := p1
      try dsimp only [Option.toList, List.cons_append, List.nil_append, List.append]
      skip
      have S2 := F2.S S
      have R2 := F2.R R (by decide)
      have eK2 : gI h1 102 = gI h 102 := funext fun j => F2.I 102 j rfl
      have ew : gI h1 102 (0 + w) = gI h am_kept w := by rw [Nat.zero_add, eK2]
      have F3 : Fr amX h (sI h1 102 (0 + w) (-1)) := (amX_k F2).sI (by unfold amX; rw [decide_eq_true (show 0 + w < 7 by omega)]; simp)
      have K3 : gI (sI h1 102 (0 + w) (-1)) 102 = upK (gI h 102) w (-1) := funext fun j => by
        unfold upK
        rw [gI_at, Nat.zero_add, eK2]
      have L3 : LGm (sI h1 102 (0 + w) (-1)) (lgU US (rwF (gI h 102) 2)) := ⟨L2.1, by rw [gI_ne _ _ _ _ (by decide)]; exact L2.2.1, fun i r hi j hj => by rw [gI_ne _ _ _ _ (by decide)]; exact L2.2.2 i r hi j hj⟩
      refine Rp.aload_n dX12_dropsKept_27 rfl rfl ?_
      refine Rp.getR dX12_dropsKept_28 fk_X12_24 rfl (S2 _ _ rfl) (R2 _ _ _ rfl) ?_
      refine Rp.iconst (nI 0) dX12_dropsKept_31 (by decide) ?_
      refine Rp.iload_n dX12_dropsKept_32 rfl ?_
      first | ((with_reducible show Rp _ _ _ _ (.int (nI _) :: .int (nI _) :: _) _ _); refine Rp.iaddN dX12_dropsKept_33 ?_) | refine Rp.iadd dX12_dropsKept_33 ?_
      first | ((with_reducible show Rp _ _ _ _ (.int (nI _) :: _) _ _); refine Rp.ialoadN dX12_dropsKept_34 (S2 _ _ rfl) (by omega) ?_) | refine Rp.iaload dX12_dropsKept_34 (S2 _ _ rfl) (by first | assumption | exact vpb (by decide)) ?_
      first | rw [ew] | skip
      refine Rp.ist2 dX12_dropsKept_35 (by first | exact nl2_some rfl | exact nl2_none) (by decide) ?_
      refine Rp.aload_n dX12_dropsKept_36 rfl rfl ?_
      refine Rp.getR dX12_dropsKept_37 fk_X12_24 rfl (S2 _ _ rfl) (R2 _ _ _ rfl) ?_
      refine Rp.iconst (nI 0) dX12_dropsKept_40 (by decide) ?_
      refine Rp.iload_n dX12_dropsKept_41 rfl ?_
      first | ((with_reducible show Rp _ _ _ _ (.int (nI _) :: .int (nI _) :: _) _ _); refine Rp.iaddN dX12_dropsKept_42 ?_) | refine Rp.iadd dX12_dropsKept_42 ?_
      refine Rp.iconst (-1) dX12_dropsKept_43 (by decide) ?_
      first | ((with_reducible show Rp _ _ _ _ (_ :: .int (nI _) :: _) _ _); refine Rp.iastoreN dX12_dropsKept_44 (S2 _ _ rfl) (by omega) ?_) | refine Rp.iastore dX12_dropsKept_44 (S2 _ _ rfl) (by first | assumption | exact vpb (by decide)) ?_
      refine Rp.iload_n dX12_dropsKept_45 rfl ?_
      refine Rp.ireturn dX12_dropsKept_46 rfl ?_
      exact ⟨rfl, F3, K3, L3⟩
  · have e1 : inN p np = false := Bool.eq_false_iff.mpr e1
    rw [e1] at q1
    rw [if_neg (by rw [e1]; decide)]
    refine Rp.aload_n dX12_dropsKept_0 rfl rfl ?_
    refine Rp.iload_n dX12_dropsKept_1 rfl ?_
    refine Rp.callV1 M_X12_isPerson (ci := 12) dX12_dropsKept_2 mo_X12_isPerson lk_X12_131 (by decide) rfl rfl (S _ _ rfl) (Nat.le_of_ble_eq_true rfl) (Nat.le_of_ble_eq_true rfl) (q1) (fun v1 h1 p1 x1 => ?_)
    rw [p1.1, p1.2]
    try dsimp only [Option.toList, List.cons_append, List.nil_append, List.append]
    first | ((with_reducible show Rp _ _ _ _ (.int (b2i _) :: _) _ _); refine Rp.if_neB (tgt := 11) dX12_dropsKept_5 (by decide) (fun c5 => ?_) (fun c5 => ?_)) | ((with_reducible show Rp _ _ _ _ (.int (nI _) :: _) _ _); refine Rp.if_neN (tgt := 11) dX12_dropsKept_5 (by decide) (by omega) (fun c5 => ?_) (fun c5 => ?_)) | refine Rp.if_ne (tgt := 11) dX12_dropsKept_5 (by decide) (fun c5 => ?_) (fun c5 => ?_)
    · skip
      cases c5
    · skip
      refine Rp.bipush (-2) dX12_dropsKept_8 (by decide) ?_
      refine Rp.ireturn dX12_dropsKept_10 rfl ?_
      exact AmQ_no L Fr.rfl'
theorem s_passesKept (S : ShOK h) (R : RfOK h) (L : LGm h US) {m : Nat} (hm : m ≤ 999) (e6 : gI h am_kept 6 = nI m) : Rp (d + 77) M_X12_passesKept 0 [some (.ref aM)] [] h (AmQ h US (tkR (gI h am_kept))) := by
  unfold tkR
  by_cases h9 : m = 999
  · rw [if_pos (by rw [e6, h9])]
    refine Rp.aload_n dX12_passesKept_0 rfl rfl ?_
    refine Rp.getR dX12_passesKept_1 fk_X12_24 rfl (S _ _ rfl) (R _ _ _ rfl) ?_
    refine Rp.bipush (nI 6) dX12_passesKept_4 (by decide) ?_
    first | ((with_reducible show Rp _ _ _ _ (.int (nI _) :: _) _ _); refine Rp.ialoadN dX12_passesKept_6 (S _ _ rfl) (by omega) ?_) | refine Rp.iaload dX12_passesKept_6 (S _ _ rfl) (by first | assumption | exact vpb (by decide)) ?_
    first | rw [e6] | skip
    refine Rp.sipush (nI 999) dX12_passesKept_7 (by decide +kernel) ?_
    first | ((with_reducible show Rp _ _ _ _ (.int (nI _) :: .int (nI _) :: _) _ _); refine Rp.icmp_neN (tgt := 16) dX12_passesKept_10 (by decide) (by omega) (fun c10 => ?_) (fun c10 => ?_)) | refine Rp.icmp_ne (tgt := 16) dX12_passesKept_10 (by decide) (fun c10 => ?_) (fun c10 => ?_)
    · skip
      first | (exfalso; omega) | exact absurd c10 (by decide) | exact absurd (by decide) c10
    · skip
      refine Rp.bipush (-3) dX12_passesKept_13 (by decide) ?_
      refine Rp.ireturn dX12_passesKept_15 rfl ?_
      exact AmQ_no L Fr.rfl'
  · rw [if_neg (by rw [e6]; exact nI_ne (by omega) (by decide) h9), e6, nI_add]
    have kp := s_keeps (d + 76) S R L 3
    refine Rp.aload_n dX12_passesKept_0 rfl rfl ?_
    refine Rp.getR dX12_passesKept_1 fk_X12_24 rfl (S _ _ rfl) (R _ _ _ rfl) ?_
    refine Rp.bipush (nI 6) dX12_passesKept_4 (by decide) ?_
    first | ((with_reducible show Rp _ _ _ _ (.int (nI _) :: _) _ _); refine Rp.ialoadN dX12_passesKept_6 (S _ _ rfl) (by omega) ?_) | refine Rp.iaload dX12_passesKept_6 (S _ _ rfl) (by first | assumption | exact vpb (by decide)) ?_
    first | rw [e6] | skip
    refine Rp.sipush (nI 999) dX12_passesKept_7 (by decide +kernel) ?_
    first | ((with_reducible show Rp _ _ _ _ (.int (nI _) :: .int (nI _) :: _) _ _); refine Rp.icmp_neN (tgt := 16) dX12_passesKept_10 (by decide) (by omega) (fun c10 => ?_) (fun c10 => ?_)) | refine Rp.icmp_ne (tgt := 16) dX12_passesKept_10 (by decide) (fun c10 => ?_) (fun c10 => ?_)
    rotate_left
    · first | (exfalso; omega) | exact absurd c10 (by decide) | exact absurd (by decide) c10
    refine Rp.aload_n dX12_passesKept_16 rfl rfl ?_
    refine Rp.iconst (nI 3) dX12_passesKept_17 (by decide) ?_
    refine Rp.callV1 M_X12_keeps (ci := 12) dX12_passesKept_18 mo_X12_keeps lk_X12_357 (by decide) rfl rfl (S _ _ rfl) (Nat.le_of_ble_eq_true rfl) (Nat.le_of_ble_eq_true rfl) (kp) (fun v1 h1 p1 x1 => ?_)
    obtain ⟨rfl, F2, L2⟩ := p1
    try dsimp only [Option.toList, List.cons_append, List.nil_append, List.append]
    skip
    have S2 := F2.S S
    have R2 := F2.R R (by decide)
    have eK2 : gI h1 102 = gI h 102 := funext fun j => F2.I 102 j rfl
    have e62 : gI h1 102 6 = nI m := by rw [eK2]; exact e6
    have e63 : gI (sI h1 102 6 (nI (m + 1))) 102 6 = nI (m + 1) := gI_hit _ _ _ _
    have F3 : Fr amX h (sI h1 102 6 (nI (m + 1))) := (amX_k F2).sI rfl
    have K3 : gI (sI h1 102 6 (nI (m + 1))) 102 = upK (gI h 102) 6 (gI h 102 6 + nI 1) := funext fun j => by
      unfold upK
      rw [gI_at, eK2, show gI h 102 6 = nI m from e6, nI_add]
    have L3 : LGm (sI h1 102 6 (nI (m + 1))) (lgU US (rwF (gI h 102) 3)) := ⟨L2.1, by rw [gI_ne _ _ _ _ (by decide)]; exact L2.2.1, fun i r hi j hj => by rw [gI_ne _ _ _ _ (by decide)]; exact L2.2.2 i r hi j hj⟩
    refine Rp.aload_n dX12_passesKept_21 rfl rfl ?_
    refine Rp.getR dX12_passesKept_22 fk_X12_24 rfl (S2 _ _ rfl) (R2 _ _ _ rfl) ?_
    refine Rp.bipush (nI 6) dX12_passesKept_25 (by decide) ?_
    refine Rp.dup2 dX12_passesKept_27 rfl rfl ?_
    first | ((with_reducible show Rp _ _ _ _ (.int (nI _) :: _) _ _); refine Rp.ialoadN dX12_passesKept_28 (S2 _ _ rfl) (by omega) ?_) | refine Rp.iaload dX12_passesKept_28 (S2 _ _ rfl) (by first | assumption | exact vpb (by decide)) ?_
    first | rw [e62] | rw [e63] | skip
    refine Rp.iconst (nI 1) dX12_passesKept_29 (by decide) ?_
    first | ((with_reducible show Rp _ _ _ _ (.int (nI _) :: .int (nI _) :: _) _ _); refine Rp.iaddN dX12_passesKept_30 ?_) | refine Rp.iadd dX12_passesKept_30 ?_
    first | ((with_reducible show Rp _ _ _ _ (_ :: .int (nI _) :: _) _ _); refine Rp.iastoreN dX12_passesKept_31 (S2 _ _ rfl) (by omega) ?_) | refine Rp.iastore dX12_passesKept_31 (S2 _ _ rfl) (by first | assumption | exact vpb (by decide)) ?_
    refine Rp.aload_n dX12_passesKept_32 rfl rfl ?_
    refine Rp.getR dX12_passesKept_33 fk_X12_24 rfl (S2 _ _ rfl) (R2 _ _ _ rfl) ?_
    refine Rp.bipush (nI 6) dX12_passesKept_36 (by decide) ?_
    first | ((with_reducible show Rp _ _ _ _ (.int (nI _) :: _) _ _); refine Rp.ialoadN dX12_passesKept_38 (S2 _ _ rfl) (by omega) ?_) | refine Rp.iaload dX12_passesKept_38 (S2 _ _ rfl) (by first | assumption | exact vpb (by decide)) ?_
    first | rw [e62] | rw [e63] | skip
    refine Rp.ireturn dX12_passesKept_39 rfl ?_
    exact ⟨rfl, F3, K3, L3⟩
end Ma4
