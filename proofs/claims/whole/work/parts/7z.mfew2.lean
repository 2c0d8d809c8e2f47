section Fn
variable (d : Nat) {h : AH}
theorem mfew26 {P : Option Value → AH → Prop} (S0 : ShOK h) (R0 : RfOK h) (k n : Int32) (c : Int32) (kk : ∀ g, Fr (fwX 126) h g → (∀ j, j < 21 → gL g 126 j = fw c 0 j) → Rp d M_X12_few 55 [some (.ref aM), some (.int k), some (.int n), some (.int (nI 21)), none, none] [] g P) : ∀ (m i : Nat) (g : AH), i + m = 21 → Fr (fwX 126) h g → (∀ j, j < i → gL g 126 j = fw c 0 j) → Rp d M_X12_few 26 [some (.ref aM), some (.int k), some (.int n), some (.int (nI i)), none, none] [] g P := by
  intro m
  induction m with
  | zero =>
    intro i g hi F h0
    have e : i = 21 := by omega
    subst e
    have k1 := kk g F h0
    refine Rp.iload_n dX12_few_26 rfl ?_
    refine Rp.bipush (nI 20) dX12_few_27 (by decide) ?_
    first | ((with_reducible show Rp _ _ _ _ (.int (nI _) :: .int (nI _) :: _) _ _); refine Rp.icmp_gtN (tgt := 55) dX12_few_29 (by decide) (by omega) (fun c29 => ?_) (fun c29 => ?_)) | refine Rp.icmp_gt (tgt := 55) dX12_few_29 (by decide) (fun c29 => ?_) (fun c29 => ?_)
    · skip
      exact k1
    · skip
      first | (exfalso; omega) | exact absurd c29 (by decide) | exact absurd (by decide) c29
  | succ m ih =>
    intro i g hi F h0
    have S := F.S S0
    have R := F.R R0 (fwX_ok (Or.inr rfl))
    have k1 := ih (i + 1) (sL g 126 i (fw c 0 i)) (by omega) (F.sL rfl) (fun j hj => by
      by_cases z : j = i
      · rw [z, gL_hit]
      · rw [gL_off _ _ _ z]; exact h0 j (by omega))
    by_cases z : i = 0
    · subst z
      rw [show fw c 0 0 = 1000000000000 from rfl] at k1
      refine Rp.iload_n dX12_few_26 rfl ?_
      refine Rp.bipush (nI 20) dX12_few_27 (by decide) ?_
      first | ((with_reducible show Rp _ _ _ _ (.int (nI _) :: .int (nI _) :: _) _ _); refine Rp.icmp_gtN (tgt := 55) dX12_few_29 (by decide) (by omega) (fun c29 => ?_) (fun c29 => ?_)) | refine Rp.icmp_gt (tgt := 55) dX12_few_29 (by decide) (fun c29 => ?_) (fun c29 => ?_)
      · skip
        first | (exfalso; omega) | exact absurd c29 (by decide) | exact absurd (by decide) c29
      · skip
        refine Rp.aload_n dX12_few_32 rfl rfl ?_
        refine Rp.getR dX12_few_33 fk_X12_101 rfl (S _ _ rfl) (R _ _ _ rfl) ?_
        refine Rp.iload_n dX12_few_36 rfl ?_
        refine Rp.iload_n dX12_few_37 rfl ?_
        first | ((with_reducible show Rp _ _ _ _ (.int (b2i _) :: _) _ _); refine Rp.if_neB (tgt := 47) dX12_few_38 (by decide) (fun c38 => ?_) (fun c38 => ?_)) | ((with_reducible show Rp _ _ _ _ (.int (nI _) :: _) _ _); refine Rp.if_neN (tgt := 47) dX12_few_38 (by decide) (by omega) (fun c38 => ?_) (fun c38 => ?_)) | refine Rp.if_ne (tgt := 47) dX12_few_38 (by decide) (fun c38 => ?_) (fun c38 => ?_)
        · skip
          first | (exfalso; omega) | exact absurd c38 (by decide) | exact absurd (by decide) c38
        · skip
          refine Rp.ldc2 dX12_few_41 kc_X12_478 ?_
          refine Rp.goto (tgt := 48) dX12_few_44 (by decide) ?_
          first | ((with_reducible show Rp _ _ _ _ (_ :: .int (nI _) :: _) _ _); refine Rp.lastoreN dX12_few_48 (S _ _ rfl) (by omega) ?_) | refine Rp.lastore dX12_few_48 (S _ _ rfl) (by first | assumption | exact vpb (by decide)) ?_
          first | ((with_reducible show Rp _ _ _ (_ :: _ :: _ :: some (.int (nI _)) :: _) _ _ _); refine Rp.inc3N (c := 1) dX12_few_49 (by first | exact nl2_some rfl | exact nl2_none) (by decide) ?_) | refine Rp.inc3 _ dX12_few_49 rfl (by first | exact nl2_some rfl | exact nl2_none) (by decide) ?_
          refine Rp.goto (tgt := 26) dX12_few_52 (by decide) ?_
          exact k1
    · rw [show fw c 0 i = 0 from by show (if i = 0 then (1000000000000 : Int64) else 0) = 0; rw [if_neg z]] at k1
      refine Rp.iload_n dX12_few_26 rfl ?_
      refine Rp.bipush (nI 20) dX12_few_27 (by decide) ?_
      first | ((with_reducible show Rp _ _ _ _ (.int (nI _) :: .int (nI _) :: _) _ _); refine Rp.icmp_gtN (tgt := 55) dX12_few_29 (by decide) (by omega) (fun c29 => ?_) (fun c29 => ?_)) | refine Rp.icmp_gt (tgt := 55) dX12_few_29 (by decide) (fun c29 => ?_) (fun c29 => ?_)
      · skip
        first | (exfalso; omega) | exact absurd c29 (by decide) | exact absurd (by decide) c29
      · skip
        refine Rp.aload_n dX12_few_32 rfl rfl ?_
        refine Rp.getR dX12_few_33 fk_X12_101 rfl (S _ _ rfl) (R _ _ _ rfl) ?_
        refine Rp.iload_n dX12_few_36 rfl ?_
        refine Rp.iload_n dX12_few_37 rfl ?_
        first | ((with_reducible show Rp _ _ _ _ (.int (b2i _) :: _) _ _); refine Rp.if_neB (tgt := 47) dX12_few_38 (by decide) (fun c38 => ?_) (fun c38 => ?_)) | ((with_reducible show Rp _ _ _ _ (.int (nI _) :: _) _ _); refine Rp.if_neN (tgt := 47) dX12_few_38 (by decide) (by omega) (fun c38 => ?_) (fun c38 => ?_)) | refine Rp.if_ne (tgt := 47) dX12_few_38 (by decide) (fun c38 => ?_) (fun c38 => ?_)
        · skip
          refine Rp.lconst (0) dX12_few_47 (by decide) ?_
          first | ((with_reducible show Rp _ _ _ _ (_ :: .int (nI _) :: _) _ _); refine Rp.lastoreN dX12_few_48 (S _ _ rfl) (by omega) ?_) | refine Rp.lastore dX12_few_48 (S _ _ rfl) (by first | assumption | exact vpb (by decide)) ?_
          first | ((with_reducible show Rp _ _ _ (_ :: _ :: _ :: some (.int (nI _)) :: _) _ _ _); refine Rp.inc3N (c := 1) dX12_few_49 (by first | exact nl2_some rfl | exact nl2_none) (by decide) ?_) | refine Rp.inc3 _ dX12_few_49 rfl (by first | exact nl2_some rfl | exact nl2_none) (by decide) ?_
          refine Rp.goto (tgt := 26) dX12_few_52 (by decide) ?_
          exact k1
        · skip
          first | (exfalso; omega) | exact absurd c38 (by decide) | exact absurd (by decide) c38
theorem s_few (S : ShOK h) (R : RfOK h) (k n : Int32) : Rp (d + 1) M_X12_few 0 [some (.ref aM), some (.int k), some (.int n), none, none, none] [] h (fun r h' => Fr (fwX 126) h h' ∧ r = some (.long (fewR k n (gI h 102 101)))) := by
  unfold fewR
  by_cases e1 : decide (nI 1 ≤ k ∧ k ≤ nI 20) = true
  · obtain ⟨q, q1, q2, rfl⟩ := i1_20.mp e1
    by_cases e2 : inN n 100 = true
    · rw [if_pos (by rw [e1, e2]; rfl)]
      obtain ⟨N, hN, rfl⟩ := (inN_iff (by omega)).mp e2
      rw [ix_nI (by omega), ix_nI (by omega)]
      have kk : ∀ g, Fr (fwX 126) h g → (∀ j, j < 21 → gL g 126 j = fw (gI h 102 101) 0 j) → Rp (d + 1) M_X12_few 55 [some (.ref aM), some (.int (nI q)), some (.int (nI N)), some (.int (nI 21)), none, none] [] g (fun r h' => Fr (fwX 126) h h' ∧ r = some (.long (fwS (gI h 102 101) N q))) := by
        intro g F h0
        have k1 := mfew57 (d + 1) S R (k := q) (N := N) ⟨q1, q2⟩ (by omega) (gI h 102 101) rfl N 0 g none (by omega) F (fun j hj => h0 j (by omega))
        refine Rp.iconst (nI 0) dX12_few_55 (by decide) ?_
        refine Rp.ist3 dX12_few_56 (by first | exact nl2_some rfl | exact nl2_none) (by decide) ?_
        exact k1
      have k2 := mfew26 (d + 1) S R (nI q) (nI N) (gI h 102 101) kk 21 0 h (by decide) Fr.rfl' (fun j hj => absurd hj (Nat.not_lt_zero _))
      refine Rp.iload_n dX12_few_0 rfl ?_
      refine Rp.iconst (nI 1) dX12_few_1 (by decide) ?_
      refine Rp.bipush (nI 20) dX12_few_2 (by decide) ?_
      refine Rp.callS3 M_X12_lies dX12_few_4 mo_X12_lies lk_X12_117 (Nat.le_of_ble_eq_true rfl) (Nat.le_of_ble_eq_true rfl) (s_lies d h (nI q) (nI 1) (nI 20)) (fun v1 h1 p1 x1 => ?_)
      rw [p1.1, p1.2, e1]
      try dsimp only [Option.toList, List.cons_append, List.nil_append, List.append]
      first | ((with_reducible show Rp _ _ _ _ (.int (b2i _) :: _) _ _); refine Rp.if_eqB (tgt := 20) dX12_few_7 (by decide) (fun c7 => ?_) (fun c7 => ?_)) | ((with_reducible show Rp _ _ _ _ (.int (nI _) :: _) _ _); refine Rp.if_eqN (tgt := 20) dX12_few_7 (by decide) (by omega) (fun c7 => ?_) (fun c7 => ?_)) | refine Rp.if_eq (tgt := 20) dX12_few_7 (by decide) (fun c7 => ?_) (fun c7 => ?_)
      · skip
        exact absurd c7 (by decide)
      · skip
        refine Rp.iload_n dX12_few_10 rfl ?_
        refine Rp.iconst (nI 0) dX12_few_11 (by decide) ?_
        refine Rp.bipush (nI 99) dX12_few_12 (by decide) ?_
        refine Rp.callS3 M_X12_lies dX12_few_14 mo_X12_lies lk_X12_117 (Nat.le_of_ble_eq_true rfl) (Nat.le_of_ble_eq_true rfl) (s_lies d h (nI N) (nI 0) (nI 99)) (fun v1 h1 p1 x1 => ?_)
        rw [p1.1, p1.2, inN_lies' (by omega), e2]
        try dsimp only [Option.toList, List.cons_append, List.nil_append, List.append]
        first | ((with_reducible show Rp _ _ _ _ (.int (b2i _) :: _) _ _); refine Rp.if_neB (tgt := 24) dX12_few_17 (by decide) (fun c17 => ?_) (fun c17 => ?_)) | ((with_reducible show Rp _ _ _ _ (.int (nI _) :: _) _ _); refine Rp.if_neN (tgt := 24) dX12_few_17 (by decide) (by omega) (fun c17 => ?_) (fun c17 => ?_)) | refine Rp.if_ne (tgt := 24) dX12_few_17 (by decide) (fun c17 => ?_) (fun c17 => ?_)
        · skip
          refine Rp.iconst (nI 0) dX12_few_24 (by decide) ?_
          refine Rp.ist3 dX12_few_25 (by first | exact nl2_some rfl | exact nl2_none) (by decide) ?_
          exact k2
        · skip
          exact absurd c17 (by decide)
    · have e2 : inN n 100 = false := Bool.eq_false_iff.mpr e2
      rw [if_neg (by rw [e2, Bool.and_false]; decide)]
      refine Rp.iload_n dX12_few_0 rfl ?_
      refine Rp.iconst (nI 1) dX12_few_1 (by decide) ?_
      refine Rp.bipush (nI 20) dX12_few_2 (by decide) ?_
      refine Rp.callS3 M_X12_lies dX12_few_4 mo_X12_lies lk_X12_117 (Nat.le_of_ble_eq_true rfl) (Nat.le_of_ble_eq_true rfl) (s_lies d h (nI q) (nI 1) (nI 20)) (fun v1 h1 p1 x1 => ?_)
      rw [p1.1, p1.2, e1]
      try dsimp only [Option.toList, List.cons_append, List.nil_append, List.append]
      first | ((with_reducible show Rp _ _ _ _ (.int (b2i _) :: _) _ _); refine Rp.if_eqB (tgt := 20) dX12_few_7 (by decide) (fun c7 => ?_) (fun c7 => ?_)) | ((with_reducible show Rp _ _ _ _ (.int (nI _) :: _) _ _); refine Rp.if_eqN (tgt := 20) dX12_few_7 (by decide) (by omega) (fun c7 => ?_) (fun c7 => ?_)) | refine Rp.if_eq (tgt := 20) dX12_few_7 (by decide) (fun c7 => ?_) (fun c7 => ?_)
      · skip
        exact absurd c7 (by decide)
      · skip
        refine Rp.iload_n dX12_few_10 rfl ?_
        refine Rp.iconst (nI 0) dX12_few_11 (by decide) ?_
        refine Rp.bipush (nI 99) dX12_few_12 (by decide) ?_
        refine Rp.callS3 M_X12_lies dX12_few_14 mo_X12_lies lk_X12_117 (Nat.le_of_ble_eq_true rfl) (Nat.le_of_ble_eq_true rfl) (s_lies d h n (nI 0) (nI 99)) (fun v1 h1 p1 x1 => ?_)
        rw [p1.1, p1.2, inN_lies' (by omega), e2]
        try dsimp only [Option.toList, List.cons_append, List.nil_append, List.append]
        first | ((with_reducible show Rp _ _ _ _ (.int (b2i _) :: _) _ _); refine Rp.if_neB (tgt := 24) dX12_few_17 (by decide) (fun c17 => ?_) (fun c17 => ?_)) | ((with_reducible show Rp _ _ _ _ (.int (nI _) :: _) _ _); refine Rp.if_neN (tgt := 24) dX12_few_17 (by decide) (by omega) (fun c17 => ?_) (fun c17 => ?_)) | refine Rp.if_ne (tgt := 24) dX12_few_17 (by decide) (fun c17 => ?_) (fun c17 => ?_)
        · skip
          exact absurd c17 (by decide)
        · skip
          refine Rp.ldc2 dX12_few_20 kc_X12_476 ?_
          refine Rp.lreturn dX12_few_23 rfl ?_
          exact ⟨Fr.rfl', rfl⟩
  · have e1 : decide (nI 1 ≤ k ∧ k ≤ nI 20) = false := Bool.eq_false_iff.mpr e1
    rw [if_neg (by rw [e1, Bool.false_and]; decide)]
    refine Rp.iload_n dX12_few_0 rfl ?_
    refine Rp.iconst (nI 1) dX12_few_1 (by decide) ?_
    refine Rp.bipush (nI 20) dX12_few_2 (by decide) ?_
    refine Rp.callS3 M_X12_lies dX12_few_4 mo_X12_lies lk_X12_117 (Nat.le_of_ble_eq_true rfl) (Nat.le_of_ble_eq_true rfl) (s_lies d h k (nI 1) (nI 20)) (fun v1 h1 p1 x1 => ?_)
    rw [p1.1, p1.2, e1]
    try dsimp only [Option.toList, List.cons_append, List.nil_append, List.append]
    first | ((with_reducible show Rp _ _ _ _ (.int (b2i _) :: _) _ _); refine Rp.if_eqB (tgt := 20) dX12_few_7 (by decide) (fun c7 => ?_) (fun c7 => ?_)) | ((with_reducible show Rp _ _ _ _ (.int (nI _) :: _) _ _); refine Rp.if_eqN (tgt := 20) dX12_few_7 (by decide) (by omega) (fun c7 => ?_) (fun c7 => ?_)) | refine Rp.if_eq (tgt := 20) dX12_few_7 (by decide) (fun c7 => ?_) (fun c7 => ?_)
    · skip
      refine Rp.ldc2 dX12_few_20 kc_X12_476 ?_
      refine Rp.lreturn dX12_few_23 rfl ?_
      exact ⟨Fr.rfl', rfl⟩
    · skip
      exact absurd c7 (by decide)
end Fn
