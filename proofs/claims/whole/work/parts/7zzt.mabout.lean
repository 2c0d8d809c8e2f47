def maX (k j : Nat) : Bool := lhX k j || (taX k j || (k == 105 || (k == 102 && decide (j < 7))))
theorem maX_l {h g : AH} (F : Fr lhX h g) : Fr maX h g := F.weak (fun k j hx => by unfold maX at hx; rw [Bool.or_eq_false_iff] at hx; exact hx.1)
theorem maX_t {h g : AH} (F : Fr taX h g) : Fr maX h g := F.weak (fun k j hx => by unfold maX at hx; rw [Bool.or_eq_false_iff, Bool.or_eq_false_iff] at hx; exact hx.2.1)
theorem maX_105 (j : Nat) : maX 105 j = true := by unfold maX; rw [Bool.or_eq_true, Bool.or_eq_true]; exact Or.inr (Or.inr rfl)
theorem maX_102 {j : Nat} (h : j < 7) : maX 102 j = true := by unfold maX; rw [decide_eq_true h, Bool.or_eq_true, Bool.or_eq_true]; exact Or.inr (Or.inr rfl)
theorem RWy.start {g : AH} {K : Nat → Int32} {np nt : Nat} (S : ShOK g) (R : RfOK g) (L : LH g K np nt) (V : VH K np nt) (e : gI g 102 = K) : RWy g K np nt W0 0 0 := ⟨S, R, L, fun j _ => by rw [e], fun q _ z => by rw [e]; exact z, fun i q hi => absurd hi (Nat.not_lt_zero _), VH_W0 V.1 V.2.1, fun _ _ => rfl, fun _ _ _ _ => rfl, by decide, fun i t hi => by
  have mt := tkL_mem nt 0 t (List.mem_of_getElem? hi)
  have := V.2.1
  rw [Nat.zero_testBit, hOf_W0 (show t < 8 by omega)]
  exact (decide_eq_false (fun z => z rfl)).symm⟩
section Ab
variable (d : Nat) {h : AH} {fl : Option (List CLE)} {np nt nd : Nat}
theorem s_about (A : MBd h fl np nt nd) (hT : gI h 102 104 = nI nt) (w : Int32) : Rp (d + 87) M_X12_about 0 [some (.ref aM), some (.int w)] [] h (fun r h' => r = some (.int (abA np (abR (gI h 102) fl nd np nt) w)) ∧ Fr maX h h' ∧ gI h' 102 = gI h 102) := by
  obtain ⟨S, R, hF, B, VDd, hD, VNn, V, hM⟩ := id A
  have v1 := V.1
  have v2 := V.2.1
  have hl6 : (hlR (gI h 102) np 0).length ≤ 6 := by rw [hlR_len]; exact Nat.le_trans (cntH_le _ _) v1
  have li := s_lies (d + 86) h w (nI 0) (nI (np + 1))
  have hM1 : gI h 102 103 = nI np := hM
  unfold abA
  by_cases e : inN w (np + 2) = true
  · rw [if_pos e]
    obtain ⟨q, hq, rfl⟩ := (inN_iff (by omega)).mp e
    rw [ix_nI (by omega)]
    have el : decide (nI 0 ≤ nI q ∧ nI q ≤ nI (np + 1)) = true := decide_eq_true (by rw [i32_le, i32_le, nI_toInt (by omega), nI_toInt (by omega), nI_toInt (by omega)]; omega)
    rw [el] at li
    have lh := s_laysHolders (d + 85) S R V hM1 hT
    refine Rp.iload_n dX12_about_0 rfl ?_
    refine Rp.iconst (nI 0) dX12_about_1 (by decide) ?_
    refine Rp.aload_n dX12_about_2 rfl rfl ?_
    refine Rp.getR dX12_about_3 fk_X12_24 rfl (S _ _ rfl) (R _ _ _ rfl) ?_
    refine Rp.bipush (nI 103) dX12_about_6 (by decide) ?_
    first | ((with_reducible show Rp _ _ _ _ (.int (nI _) :: _) _ _); refine Rp.ialoadN dX12_about_8 (S _ _ rfl) (by omega) ?_) | refine Rp.iaload dX12_about_8 (S _ _ rfl) (by first | assumption | exact vpb (by decide)) ?_
    first | rw [hM1] | skip
    refine Rp.iconst (nI 1) dX12_about_9 (by decide) ?_
    first | ((with_reducible show Rp _ _ _ _ (.int (nI _) :: .int (nI _) :: _) _ _); refine Rp.iaddN dX12_about_10 ?_) | refine Rp.iadd dX12_about_10 ?_
    refine Rp.callS3 M_X12_lies dX12_about_11 mo_X12_lies lk_X12_117 (Nat.le_of_ble_eq_true rfl) (Nat.le_of_ble_eq_true rfl) (li) (fun v1 h1 p1 x1 => ?_)
    rw [p1.1, p1.2]
    try dsimp only [Option.toList, List.cons_append, List.nil_append, List.append]
    first | ((with_reducible show Rp _ _ _ _ (.int (b2i _) :: _) _ _); refine Rp.if_neB (tgt := 19) dX12_about_14 (by decide) (fun c14 => ?_) (fun c14 => ?_)) | ((with_reducible show Rp _ _ _ _ (.int (nI _) :: _) _ _); refine Rp.if_neN (tgt := 19) dX12_about_14 (by decide) (by omega) (fun c14 => ?_) (fun c14 => ?_)) | refine Rp.if_ne (tgt := 19) dX12_about_14 (by decide) (fun c14 => ?_) (fun c14 => ?_)
    rotate_left
    · cases c14
    refine Rp.aload_n dX12_about_19 rfl rfl ?_
    refine Rp.callV0 M_X12_laysHolders (ci := 12) dX12_about_20 mo_X12_laysHolders lk_X12_423 (by decide) rfl rfl (S _ _ rfl) (Nat.le_of_ble_eq_true rfl) (Nat.le_of_ble_eq_true rfl) (lh) (fun v1 h1 p1 x1 => ?_)
    obtain ⟨rfl, F1, L1⟩ := p1
    try dsimp only [Option.toList, List.cons_append, List.nil_append, List.append]
    skip
    have S1 := F1.S S
    have R1 := F1.R R (by decide)
    have K1 : gI h1 102 = gI h 102 := funext fun j => F1.I 102 j rfl
    have la := s_laysAside (d + 86) S1 R1 (k := 0) (by decide)
    have S2 := S1.wr 105 (fun i => 7 * 0 + i) (gI h1 102) 7
    have R2 := R1.wr 105 (fun i => 7 * 0 + i) (gI h1 102) 7
    have F2 : Fr maX h (wrI h1 105 (fun i => 7 * 0 + i) (gI h1 102) 7) := (maX_l F1).wr 7 (fun i hi => maX_105 _)
    have n2 : ∀ k j, k ≠ 105 → gI (wrI h1 105 (fun i => 7 * 0 + i) (gI h1 102) 7) k j = gI h1 k j := fun k j hk => gI_wrI_ne h1 _ _ hk j 7
    have i2 : ∀ i, i < 7 → gI (wrI h1 105 (fun i => 7 * 0 + i) (gI h1 102) 7) 105 (7 * 0 + i) = gI h1 102 i := fun i hi => gI_wrI_in h1 105 (7 * 0) (gI h1 102) 7 hi
    have la : Rp (d + 86) M_X12_laysAside 0 [some (.ref aM), some (.int (nI 0)), none] [] h1 (fun r h' => h' = wrI h1 105 (fun i => 7 * 0 + i) (gI h1 102) 7 ∧ r = none) := la
    generalize wrI h1 105 (fun i => 7 * 0 + i) (gI h1 102) 7 = h2 at S2 R2 F2 n2 i2 la
    have K2 : gI h2 102 = gI h 102 := (funext fun j => n2 102 j (by decide)).trans K1
    have L2 : LH h2 (gI h 102) np nt := ⟨(n2 100 39 (by decide)).trans L1.1, fun i q hi => (n2 119 i (by decide)).trans (L1.2.1 i q hi), fun i q hi => (n2 120 i (by decide)).trans (L1.2.2 i q hi)⟩
    have F3 : Fr mfX h2 (sI (sI h2 100 40 (-1)) 100 41 1000000) := (Fr.rfl'.sI rfl).sI rfl
    have B3 : RWy (sI (sI h2 100 40 (-1)) 100 41 1000000) (gI h 102) np nt W0 0 0 := RWy.start S2 R2 L2 V K2
    have ta := s_tryA d A V (hlR (gI h 102) np 0) [] W0 0 none (sI (sI h2 100 40 (-1)) 100 41 1000000) rfl B3 ⟨(gI_off _ _ _ (by decide)).trans (gI_hit _ _ _ _), gI_hit _ _ _ _⟩
    have ta := Rp.deeper (show d + 80 + (hlR (gI h 102) np 0).length ≤ d + 86 by omega) ta
    have S3 : ShOK (sI (sI h2 100 40 (-1)) 100 41 1000000) := S2
    refine Rp.aload_n dX12_about_23 rfl rfl ?_
    refine Rp.iconst (nI 0) dX12_about_24 (by decide) ?_
    refine Rp.callV1 M_X12_laysAside (ci := 12) dX12_about_25 mo_X12_laysAside lk_X12_426 (by decide) rfl rfl (S1 _ _ rfl) (Nat.le_of_ble_eq_true rfl) (Nat.le_of_ble_eq_true rfl) (la) (fun v1 h1 p1 x1 => ?_)
    rw [p1.1, p1.2]
    try dsimp only [Option.toList, List.cons_append, List.nil_append, List.append]
    refine Rp.aload_n dX12_about_28 rfl rfl ?_
    refine Rp.iconst (-1) dX12_about_29 (by decide) ?_
    refine Rp.putI dX12_about_30 fk_X12_411w rfl (S2 _ _ rfl) ?_
    refine Rp.aload_n dX12_about_33 rfl rfl ?_
    refine Rp.ldc dX12_about_34 kc_X12_192 ?_
    refine Rp.putI dX12_about_36 fk_X12_414w rfl (S2 _ _ rfl) ?_
    refine Rp.aload_n dX12_about_39 rfl rfl ?_
    refine Rp.iconst (nI 0) dX12_about_40 (by decide) ?_
    refine Rp.iconst (nI 0) dX12_about_41 (by decide) ?_
    refine Rp.callV2 M_X12_triesAbout (ci := 12) dX12_about_42 mo_X12_triesAbout lk_X12_420 (by decide) rfl rfl (S3 _ _ rfl) (Nat.le_of_ble_eq_true rfl) (Nat.le_of_ble_eq_true rfl) (ta) (fun v1 h1 p1 x1 => ?_)
    obtain ⟨rfl, B4, r4, F4⟩ := p1
    try dsimp only [Option.toList, List.cons_append, List.nil_append, List.append]
    skip
    have S4 := B4.1
    have R4 := B4.2.1
    have tb := s_takesBack (d + 86) S4 R4 (k := 0) (by decide)
    have S5 := S4.wr 102 (fun i => i) (fun i => gI h1 105 (7 * 0 + i)) 7
    have R5 := R4.wr 102 (fun i => i) (fun i => gI h1 105 (7 * 0 + i)) 7
    have F45 : Fr maX h h1 := (F2.trans (maX_t (taX_m (mjX_f F3)))).trans (maX_t F4)
    have F5 : Fr maX h (wrI h1 102 (fun i => i) (fun i => gI h1 105 (7 * 0 + i)) 7) := F45.wr 7 (fun i hi => maX_102 hi)
    have K5 : gI (wrI h1 102 (fun i => i) (fun i => gI h1 105 (7 * 0 + i)) 7) 102 = gI h 102 := funext fun j => by
      by_cases hj : j < 7
      · rw [gI_wrI_id _ _ _ 7 hj, F4.I 105 _ rfl]
        exact (show gI (sI (sI h2 100 40 (-1)) 100 41 1000000) 105 (7 * 0 + j) = gI h2 105 (7 * 0 + j) from rfl).trans ((i2 j hj).trans (F1.I 102 j rfl))
      · rw [gI_wrI_out _ _ _ _ 7 (fun i hi => by omega)]
        exact B4.2.2.2.1 j (by omega)
    have n5 : ∀ k j, k ≠ 102 → gI (wrI h1 102 (fun i => i) (fun i => gI h1 105 (7 * 0 + i)) 7) k j = gI h1 k j := fun k j hk => gI_wrI_ne h1 _ _ hk j 7
    have tb : Rp (d + 86) M_X12_takesBack 0 [some (.ref aM), some (.int (nI 0)), none] [] h1 (fun r h' => h' = wrI h1 102 (fun i => i) (fun i => gI h1 105 (7 * 0 + i)) 7 ∧ r = none) := tb
    generalize wrI h1 102 (fun i => i) (fun i => gI h1 105 (7 * 0 + i)) 7 = h5 at S5 R5 F5 K5 n5 tb
    have r5 : RMab h5 (abR (gI h 102) fl nd np nt) := by
      have r4 : RMab h1 (abR (gI h 102) fl nd np nt) := r4
      match hab : abR (gI h 102) fl nd np nt, r4 with
      | none, r4 => exact ⟨(n5 100 40 (by decide)).trans r4.1, (n5 100 41 (by decide)).trans r4.2⟩
      | some (f, a, Bf), r4 => exact ⟨(n5 100 40 (by decide)).trans r4.1, (n5 100 41 (by decide)).trans r4.2.1, fun q hq => (n5 121 q (by decide)).trans (r4.2.2.1 q hq), r4.2.2.2⟩
    generalize abR (gI h 102) fl nd np nt = s at r5
    match s, r5 with
    | none, r5 =>
      have q40 : gI h5 100 40 = -1 := r5.1
      refine Rp.aload_n dX12_about_45 rfl rfl ?_
      refine Rp.iconst (nI 0) dX12_about_46 (by decide) ?_
      refine Rp.callV1 M_X12_takesBack (ci := 12) dX12_about_47 mo_X12_takesBack lk_X12_429 (by decide) rfl rfl (S4 _ _ rfl) (Nat.le_of_ble_eq_true rfl) (Nat.le_of_ble_eq_true rfl) (tb) (fun v1 h1 p1 x1 => ?_)
      rw [p1.1, p1.2]
      try dsimp only [Option.toList, List.cons_append, List.nil_append, List.append]
      refine Rp.aload_n dX12_about_50 rfl rfl ?_
      refine Rp.getI dX12_about_51 fk_X12_411 rfl (S5 _ _ rfl) ?_
      first | rw [q40] | skip
      refine Rp.iconst (-1) dX12_about_54 (by decide) ?_
      first | ((with_reducible show Rp _ _ _ _ (.int (nI _) :: .int (nI _) :: _) _ _); refine Rp.icmp_neN (tgt := 60) dX12_about_55 (by decide) (by omega) (fun c55 => ?_) (fun c55 => ?_)) | refine Rp.icmp_ne (tgt := 60) dX12_about_55 (by decide) (fun c55 => ?_) (fun c55 => ?_)
      · skip
        exact absurd rfl c55
      · skip
        refine Rp.iconst (-1) dX12_about_58 (by decide) ?_
        refine Rp.ireturn dX12_about_59 rfl ?_
        exact ⟨rfl, F5, K5⟩
    | some (f, a, Bf), r5 =>
      have q40 : gI h5 100 40 = nI f := r5.1
      have q41 : gI h5 100 41 = nI a := r5.2.1
      have nf : ¬ nI f = -1 := nI_m1 (by have := r5.2.2.2.1; omega)
      dsimp only
      by_cases c0 : q = 0
      · subst c0
        rw [if_pos rfl]
        refine Rp.aload_n dX12_about_45 rfl rfl ?_
        refine Rp.iconst (nI 0) dX12_about_46 (by decide) ?_
        refine Rp.callV1 M_X12_takesBack (ci := 12) dX12_about_47 mo_X12_takesBack lk_X12_429 (by decide) rfl rfl (S4 _ _ rfl) (Nat.le_of_ble_eq_true rfl) (Nat.le_of_ble_eq_true rfl) (tb) (fun v1 h1 p1 x1 => ?_)
        rw [p1.1, p1.2]
        try dsimp only [Option.toList, List.cons_append, List.nil_append, List.append]
        refine Rp.aload_n dX12_about_50 rfl rfl ?_
        refine Rp.getI dX12_about_51 fk_X12_411 rfl (S5 _ _ rfl) ?_
        first | rw [q40] | rw [q41] | skip
        refine Rp.iconst (-1) dX12_about_54 (by decide) ?_
        first | ((with_reducible show Rp _ _ _ _ (.int (nI _) :: .int (nI _) :: _) _ _); refine Rp.icmp_neN (tgt := 60) dX12_about_55 (by decide) (by omega) (fun c55 => ?_) (fun c55 => ?_)) | refine Rp.icmp_ne (tgt := 60) dX12_about_55 (by decide) (fun c55 => ?_) (fun c55 => ?_)
        · skip
          refine Rp.iload_n dX12_about_60 rfl ?_
          first | ((with_reducible show Rp _ _ _ _ (.int (b2i _) :: _) _ _); refine Rp.if_neB (tgt := 71) dX12_about_61 (by decide) (fun c61 => ?_) (fun c61 => ?_)) | ((with_reducible show Rp _ _ _ _ (.int (nI _) :: _) _ _); refine Rp.if_neN (tgt := 71) dX12_about_61 (by decide) (by omega) (fun c61 => ?_) (fun c61 => ?_)) | refine Rp.if_ne (tgt := 71) dX12_about_61 (by decide) (fun c61 => ?_) (fun c61 => ?_)
          · skip
            first | (exfalso; omega) | exact absurd c61 (by decide) | exact absurd (by decide) c61
          · skip
            refine Rp.aload_n dX12_about_64 rfl rfl ?_
            refine Rp.getI dX12_about_65 fk_X12_411 rfl (S5 _ _ rfl) ?_
            first | rw [q40] | rw [q41] | skip
            refine Rp.goto (tgt := 91) dX12_about_68 (by decide) ?_
            refine Rp.ireturn dX12_about_91 rfl ?_
            exact ⟨rfl, F5, K5⟩
        · skip
          exact absurd c55 nf
      · rw [if_neg c0]
        by_cases c1 : q = 1
        · subst c1
          rw [if_pos rfl]
          refine Rp.aload_n dX12_about_45 rfl rfl ?_
          refine Rp.iconst (nI 0) dX12_about_46 (by decide) ?_
          refine Rp.callV1 M_X12_takesBack (ci := 12) dX12_about_47 mo_X12_takesBack lk_X12_429 (by decide) rfl rfl (S4 _ _ rfl) (Nat.le_of_ble_eq_true rfl) (Nat.le_of_ble_eq_true rfl) (tb) (fun v1 h1 p1 x1 => ?_)
          rw [p1.1, p1.2]
          try dsimp only [Option.toList, List.cons_append, List.nil_append, List.append]
          refine Rp.aload_n dX12_about_50 rfl rfl ?_
          refine Rp.getI dX12_about_51 fk_X12_411 rfl (S5 _ _ rfl) ?_
          first | rw [q40] | rw [q41] | skip
          refine Rp.iconst (-1) dX12_about_54 (by decide) ?_
          first | ((with_reducible show Rp _ _ _ _ (.int (nI _) :: .int (nI _) :: _) _ _); refine Rp.icmp_neN (tgt := 60) dX12_about_55 (by decide) (by omega) (fun c55 => ?_) (fun c55 => ?_)) | refine Rp.icmp_ne (tgt := 60) dX12_about_55 (by decide) (fun c55 => ?_) (fun c55 => ?_)
          · skip
            refine Rp.iload_n dX12_about_60 rfl ?_
            first | ((with_reducible show Rp _ _ _ _ (.int (b2i _) :: _) _ _); refine Rp.if_neB (tgt := 71) dX12_about_61 (by decide) (fun c61 => ?_) (fun c61 => ?_)) | ((with_reducible show Rp _ _ _ _ (.int (nI _) :: _) _ _); refine Rp.if_neN (tgt := 71) dX12_about_61 (by decide) (by omega) (fun c61 => ?_) (fun c61 => ?_)) | refine Rp.if_ne (tgt := 71) dX12_about_61 (by decide) (fun c61 => ?_) (fun c61 => ?_)
            · skip
              refine Rp.iload_n dX12_about_71 rfl ?_
              refine Rp.iconst (nI 1) dX12_about_72 (by decide) ?_
              first | ((with_reducible show Rp _ _ _ _ (.int (nI _) :: .int (nI _) :: _) _ _); refine Rp.icmp_neN (tgt := 83) dX12_about_73 (by decide) (by omega) (fun c73 => ?_) (fun c73 => ?_)) | refine Rp.icmp_ne (tgt := 83) dX12_about_73 (by decide) (fun c73 => ?_) (fun c73 => ?_)
              · skip
                first | (exfalso; omega) | exact absurd c73 (by decide) | exact absurd (by decide) c73
              · skip
                refine Rp.aload_n dX12_about_76 rfl rfl ?_
                refine Rp.getI dX12_about_77 fk_X12_414 rfl (S5 _ _ rfl) ?_
                first | rw [q40] | rw [q41] | skip
                refine Rp.goto (tgt := 91) dX12_about_80 (by decide) ?_
                refine Rp.ireturn dX12_about_91 rfl ?_
                exact ⟨rfl, F5, K5⟩
            · skip
              first | (exfalso; omega) | exact absurd c61 (by decide) | exact absurd (by decide) c61
          · skip
            exact absurd c55 nf
        · rw [if_neg c1]
          have q121 : gI h5 121 (q - 2) = Bf (q - 2) := r5.2.2.1 (q - 2) (by omega)
          refine Rp.aload_n dX12_about_45 rfl rfl ?_
          refine Rp.iconst (nI 0) dX12_about_46 (by decide) ?_
          refine Rp.callV1 M_X12_takesBack (ci := 12) dX12_about_47 mo_X12_takesBack lk_X12_429 (by decide) rfl rfl (S4 _ _ rfl) (Nat.le_of_ble_eq_true rfl) (Nat.le_of_ble_eq_true rfl) (tb) (fun v1 h1 p1 x1 => ?_)
          rw [p1.1, p1.2]
          try dsimp only [Option.toList, List.cons_append, List.nil_append, List.append]
          refine Rp.aload_n dX12_about_50 rfl rfl ?_
          refine Rp.getI dX12_about_51 fk_X12_411 rfl (S5 _ _ rfl) ?_
          first | rw [q40] | rw [q121] | skip
          refine Rp.iconst (-1) dX12_about_54 (by decide) ?_
          first | ((with_reducible show Rp _ _ _ _ (.int (nI _) :: .int (nI _) :: _) _ _); refine Rp.icmp_neN (tgt := 60) dX12_about_55 (by decide) (by omega) (fun c55 => ?_) (fun c55 => ?_)) | refine Rp.icmp_ne (tgt := 60) dX12_about_55 (by decide) (fun c55 => ?_) (fun c55 => ?_)
          · skip
            refine Rp.iload_n dX12_about_60 rfl ?_
            first | ((with_reducible show Rp _ _ _ _ (.int (b2i _) :: _) _ _); refine Rp.if_neB (tgt := 71) dX12_about_61 (by decide) (fun c61 => ?_) (fun c61 => ?_)) | ((with_reducible show Rp _ _ _ _ (.int (nI _) :: _) _ _); refine Rp.if_neN (tgt := 71) dX12_about_61 (by decide) (by omega) (fun c61 => ?_) (fun c61 => ?_)) | refine Rp.if_ne (tgt := 71) dX12_about_61 (by decide) (fun c61 => ?_) (fun c61 => ?_)
            · skip
              refine Rp.iload_n dX12_about_71 rfl ?_
              refine Rp.iconst (nI 1) dX12_about_72 (by decide) ?_
              first | ((with_reducible show Rp _ _ _ _ (.int (nI _) :: .int (nI _) :: _) _ _); refine Rp.icmp_neN (tgt := 83) dX12_about_73 (by decide) (by omega) (fun c73 => ?_) (fun c73 => ?_)) | refine Rp.icmp_ne (tgt := 83) dX12_about_73 (by decide) (fun c73 => ?_) (fun c73 => ?_)
              · skip
                refine Rp.aload_n dX12_about_83 rfl rfl ?_
                refine Rp.getR dX12_about_84 fk_X12_86 rfl (S5 _ _ rfl) (R5 _ _ _ rfl) ?_
                refine Rp.iload_n dX12_about_87 rfl ?_
                refine Rp.iconst (nI 2) dX12_about_88 (by decide) ?_
                first | ((with_reducible show Rp _ _ _ _ (.int (nI _) :: .int (nI _) :: _) _ _); refine Rp.isubN dX12_about_89 (by omega) ?_) | refine Rp.isub dX12_about_89 ?_
                first | ((with_reducible show Rp _ _ _ _ (.int (nI _) :: _) _ _); refine Rp.ialoadN dX12_about_90 (S5 _ _ rfl) (by omega) ?_) | refine Rp.iaload dX12_about_90 (S5 _ _ rfl) (by first | assumption | exact vpb (by decide)) ?_
                first | rw [q40] | rw [q121] | skip
                refine Rp.ireturn dX12_about_91 rfl ?_
                exact ⟨rfl, F5, K5⟩
              · skip
                first | (exfalso; omega) | exact absurd c73 (by decide) | exact absurd (by decide) c73
            · skip
              first | (exfalso; omega) | exact absurd c61 (by decide) | exact absurd (by decide) c61
          · skip
            exact absurd c55 nf
  · rw [if_neg e]
    have el : decide (nI 0 ≤ w ∧ w ≤ nI (np + 1)) = false := decide_eq_false (fun z => e (by
      unfold inN
      rw [i32_le, i32_le, nI_toInt (by omega), nI_toInt (by omega)] at z
      exact decide_eq_true (by omega)))
    rw [el] at li
    refine Rp.iload_n dX12_about_0 rfl ?_
    refine Rp.iconst (nI 0) dX12_about_1 (by decide) ?_
    refine Rp.aload_n dX12_about_2 rfl rfl ?_
    refine Rp.getR dX12_about_3 fk_X12_24 rfl (S _ _ rfl) (R _ _ _ rfl) ?_
    refine Rp.bipush (nI 103) dX12_about_6 (by decide) ?_
    first | ((with_reducible show Rp _ _ _ _ (.int (nI _) :: _) _ _); refine Rp.ialoadN dX12_about_8 (S _ _ rfl) (by omega) ?_) | refine Rp.iaload dX12_about_8 (S _ _ rfl) (by first | assumption | exact vpb (by decide)) ?_
    first | rw [hM1] | skip
    refine Rp.iconst (nI 1) dX12_about_9 (by decide) ?_
    first | ((with_reducible show Rp _ _ _ _ (.int (nI _) :: .int (nI _) :: _) _ _); refine Rp.iaddN dX12_about_10 ?_) | refine Rp.iadd dX12_about_10 ?_
    refine Rp.callS3 M_X12_lies dX12_about_11 mo_X12_lies lk_X12_117 (Nat.le_of_ble_eq_true rfl) (Nat.le_of_ble_eq_true rfl) (li) (fun v1 h1 p1 x1 => ?_)
    rw [p1.1, p1.2]
    try dsimp only [Option.toList, List.cons_append, List.nil_append, List.append]
    first | ((with_reducible show Rp _ _ _ _ (.int (b2i _) :: _) _ _); refine Rp.if_neB (tgt := 19) dX12_about_14 (by decide) (fun c14 => ?_) (fun c14 => ?_)) | ((with_reducible show Rp _ _ _ _ (.int (nI _) :: _) _ _); refine Rp.if_neN (tgt := 19) dX12_about_14 (by decide) (by omega) (fun c14 => ?_) (fun c14 => ?_)) | refine Rp.if_ne (tgt := 19) dX12_about_14 (by decide) (fun c14 => ?_) (fun c14 => ?_)
    · skip
      cases c14
    · skip
      refine Rp.iconst (-1) dX12_about_17 (by decide) ?_
      refine Rp.ireturn dX12_about_18 rfl ?_
      exact ⟨rfl, Fr.rfl', rfl⟩
end Ab
