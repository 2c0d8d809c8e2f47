theorem pw_big {k c : Nat} (hc : 30 ≤ c) : pwK k c = none := by
  unfold pwK; rw [if_neg (by omega), if_neg (by omega)]
theorem pw_3 (c : Nat) : pwK 3 c = if 9 ≤ c ∧ c ≤ 17 then some (lwI c) else none := by
  by_cases hc : c < 30
  · have h1 := List.all_eq_true.mp pw_all c (List.mem_range.mpr hc)
    simp only [Bool.and_eq_true, decide_eq_true_eq] at h1
    exact h1.1.1.1.1.1.1.1.2
  · rw [pw_big (by omega), if_neg (by omega)]
theorem pw_2 (c : Nat) : pwK 2 c = if 17 ≤ c ∧ c ≤ 21 then some (c - 17) else if c = 22 then some 5 else if c = 16 then some 6 else none := by
  by_cases hc : c < 30
  · have h1 := List.all_eq_true.mp pw_all c (List.mem_range.mpr hc)
    simp only [Bool.and_eq_true, decide_eq_true_eq] at h1
    exact h1.1.1.1.1.1.1.1.1.2
  · rw [pw_big (by omega), if_neg (by omega), if_neg (by omega), if_neg (by omega)]
theorem lwI_lt {c : Nat} : lwI c < 9 := by
  unfold lwI
  match c - 9 with
  | 0 | 1 | 2 | 3 | 4 | 5 | 6 | 7 | 8 => decide
  | k + 9 => exact (by decide : 0 < 9)
theorem fit_one (ord : Bool) (w : Nat) : fitC ord [(2, w)] = (ord && decide (w = 3)) := by
  unfold fitC
  cases ord
  · rfl
  · by_cases h : w = 3
    · subst h; rfl
    · rw [decide_eq_false h]
      show (((2 == 2) && (w == 3)) || false) = false
      rw [show (w == 3) = false from beq_eq_false_iff_ne.mpr h]; rfl
section Pa
variable (d : Nat) {h : AH} {ord : Bool} {L : Nat} {TL : List (Nat × Nat)}
theorem part_pre {P : Option Value → AH → Prop} (B : RB h ord L) (hTL : TL = TLo (gI h 36) L) {i lv a : Nat} {af : Bool} (G : GS h L TL i lv a af) (h191 : cT (gI h 36) TL i ≠ 191) (dep : Int32) (kk : Rp (d + 5) M_X7_part 50 [some (.ref 35), some (.int dep), some (.int (oI (pwK (if ord then 2 else 3) (cT (gI h 36) TL i)))), none] [] h P) : Rp (d + 5) M_X7_part 0 [some (.ref 35), some (.int dep), none, none] [] h P := by
  have B0 := B
  obtain ⟨S, R, hL, hl, ho⟩ := B
  have sg := TS_sign G.1 (s := 91) (by decide) (by decide) (by decide)
  cases ord with
  | false =>
    rw [show b2i false = nI 0 from rfl] at ho
    have pl := t_place d S R (k := 3) (by decide) hL hTL G.1
    refine Rp.aload_n dX7_part_0 rfl rfl ?_
    refine Rp.getI dX7_part_1 fk_X7_48 rfl (S _ _ rfl) ?_
    first | rw [ho] | skip
    refine Rp.bipush (nI 91) dX7_part_4 (by decide) ?_
    first | ((with_reducible show Rp _ _ _ _ (.int (nI _) :: .int (nI _) :: _) _ _); refine Rp.icmp_neN (tgt := 31) dX7_part_6 (by decide) (by omega) (fun c6 => ?_) (fun c6 => ?_)) | refine Rp.icmp_ne (tgt := 31) dX7_part_6 (by decide) (fun c6 => ?_) (fun c6 => ?_)
    · skip
      refine Rp.aload_n dX7_part_31 rfl rfl ?_
      refine Rp.aload_n dX7_part_32 rfl rfl ?_
      refine Rp.getI dX7_part_33 fk_X7_29 rfl (S _ _ rfl) ?_
      first | rw [ho] | skip
      first | ((with_reducible show Rp _ _ _ _ (.int (b2i _) :: _) _ _); refine Rp.if_eqB (tgt := 44) dX7_part_36 (by decide) (fun c36 => ?_) (fun c36 => ?_)) | ((with_reducible show Rp _ _ _ _ (.int (nI _) :: _) _ _); refine Rp.if_eqN (tgt := 44) dX7_part_36 (by decide) (by omega) (fun c36 => ?_) (fun c36 => ?_)) | refine Rp.if_eq (tgt := 44) dX7_part_36 (by decide) (fun c36 => ?_) (fun c36 => ?_)
      · skip
        refine Rp.ldcS (k := 3) dX7_part_44 (by decide) rfl rfl ?_
        refine Rp.callV1 M_X7_placeIn (ci := 7) dX7_part_46 mo_X7_placeIn lk_X7_61 (by decide) rfl rfl (S _ _ rfl) (Nat.le_of_ble_eq_true rfl) (Nat.le_of_ble_eq_true rfl) (pl) (fun v1 h1 p1 x1 => ?_)
        rw [p1.1, p1.2]
        try dsimp only [Option.toList, List.cons_append, List.nil_append, List.append]
        refine Rp.ist2 dX7_part_49 (by first | exact nl2_some rfl | exact nl2_none) (by decide) ?_
        exact kk
      · skip
        first | (exfalso; omega) | exact absurd c36 (by decide) | exact absurd (by decide) c36
    · skip
      exact absurd (sg.mp c6) h191
  | true =>
    rw [show b2i true = nI 1 from rfl] at ho
    have pl := t_place d S R (k := 2) (by decide) hL hTL G.1
    refine Rp.aload_n dX7_part_0 rfl rfl ?_
    refine Rp.getI dX7_part_1 fk_X7_48 rfl (S _ _ rfl) ?_
    first | rw [ho] | skip
    refine Rp.bipush (nI 91) dX7_part_4 (by decide) ?_
    first | ((with_reducible show Rp _ _ _ _ (.int (nI _) :: .int (nI _) :: _) _ _); refine Rp.icmp_neN (tgt := 31) dX7_part_6 (by decide) (by omega) (fun c6 => ?_) (fun c6 => ?_)) | refine Rp.icmp_ne (tgt := 31) dX7_part_6 (by decide) (fun c6 => ?_) (fun c6 => ?_)
    · skip
      refine Rp.aload_n dX7_part_31 rfl rfl ?_
      refine Rp.aload_n dX7_part_32 rfl rfl ?_
      refine Rp.getI dX7_part_33 fk_X7_29 rfl (S _ _ rfl) ?_
      first | rw [ho] | skip
      first | ((with_reducible show Rp _ _ _ _ (.int (b2i _) :: _) _ _); refine Rp.if_eqB (tgt := 44) dX7_part_36 (by decide) (fun c36 => ?_) (fun c36 => ?_)) | ((with_reducible show Rp _ _ _ _ (.int (nI _) :: _) _ _); refine Rp.if_eqN (tgt := 44) dX7_part_36 (by decide) (by omega) (fun c36 => ?_) (fun c36 => ?_)) | refine Rp.if_eq (tgt := 44) dX7_part_36 (by decide) (fun c36 => ?_) (fun c36 => ?_)
      · skip
        first | (exfalso; omega) | exact absurd c36 (by decide) | exact absurd (by decide) c36
      · skip
        refine Rp.ldcS (k := 2) dX7_part_39 (by decide) rfl rfl ?_
        refine Rp.goto (tgt := 46) dX7_part_41 (by decide) ?_
        refine Rp.callV1 M_X7_placeIn (ci := 7) dX7_part_46 mo_X7_placeIn lk_X7_61 (by decide) rfl rfl (S _ _ rfl) (Nat.le_of_ble_eq_true rfl) (Nat.le_of_ble_eq_true rfl) (pl) (fun v1 h1 p1 x1 => ?_)
        rw [p1.1, p1.2]
        try dsimp only [Option.toList, List.cons_append, List.nil_append, List.append]
        refine Rp.ist2 dX7_part_49 (by first | exact nl2_some rfl | exact nl2_none) (by decide) ?_
        exact kk
    · skip
      exact absurd (sg.mp c6) h191
theorem part_num {P : Option Value → AH → Prop} (S : ShOK h) {i : Nat} (T : TS h L TL i) (dep : Value) (x : Int32) (kk : Rp (d + 5) M_X7_part 75 [some (.ref 35), some dep, some (.int x), some (.int (b2i (decide (cT (gI h 36) TL i = 50 ∧ vT (gI h 36) TL i ≤ 1000))))] [] h P) : Rp (d + 5) M_X7_part 50 [some (.ref 35), some dep, some (.int x), none] [] h P := by
  have sn := TS_num T
  by_cases e : cT (gI h 36) TL i = 50
  · have e3 := sn.1.mpr e
    have e8 := sn.2 e
    by_cases e5 : vT (gI h 36) TL i ≤ 1000
    · rw [decide_eq_true ⟨e, e5⟩, show b2i true = nI 1 from rfl] at kk
      refine Rp.aload_n dX7_part_50 rfl rfl ?_
      refine Rp.getI dX7_part_51 fk_X7_48 rfl (S _ _ rfl) ?_
      first | rw [e3] | rw [e8] | skip
      refine Rp.bipush (-3) dX7_part_54 (by decide) ?_
      first | ((with_reducible show Rp _ _ _ _ (.int (nI _) :: .int (nI _) :: _) _ _); refine Rp.icmp_neN (tgt := 73) dX7_part_56 (by decide) (by omega) (fun c56 => ?_) (fun c56 => ?_)) | refine Rp.icmp_ne (tgt := 73) dX7_part_56 (by decide) (fun c56 => ?_) (fun c56 => ?_)
      · skip
        first | (exfalso; omega) | exact absurd c56 (by decide) | exact absurd (by decide) c56
      · skip
        refine Rp.aload_n dX7_part_59 rfl rfl ?_
        refine Rp.getI dX7_part_60 fk_X7_102 rfl (S _ _ rfl) ?_
        first | rw [e3] | rw [e8] | skip
        refine Rp.sipush (nI 1000) dX7_part_63 (by decide +kernel) ?_
        first | ((with_reducible show Rp _ _ _ _ (.int (nI _) :: .int (nI _) :: _) _ _); refine Rp.icmp_gtN (tgt := 73) dX7_part_66 (by decide) (by omega) (fun c66 => ?_) (fun c66 => ?_)) | refine Rp.icmp_gt (tgt := 73) dX7_part_66 (by decide) (fun c66 => ?_) (fun c66 => ?_)
        · skip
          first | (exfalso; omega) | exact absurd c66 (by decide) | exact absurd (by decide) c66
        · skip
          refine Rp.iconst (nI 1) dX7_part_69 (by decide) ?_
          refine Rp.goto (tgt := 74) dX7_part_70 (by decide) ?_
          refine Rp.ist3 dX7_part_74 (by first | exact nl2_some rfl | exact nl2_none) (by decide) ?_
          exact kk
    · rw [decide_eq_false (fun z => e5 z.2), show b2i false = nI 0 from rfl] at kk
      refine Rp.aload_n dX7_part_50 rfl rfl ?_
      refine Rp.getI dX7_part_51 fk_X7_48 rfl (S _ _ rfl) ?_
      first | rw [e3] | rw [e8] | skip
      refine Rp.bipush (-3) dX7_part_54 (by decide) ?_
      first | ((with_reducible show Rp _ _ _ _ (.int (nI _) :: .int (nI _) :: _) _ _); refine Rp.icmp_neN (tgt := 73) dX7_part_56 (by decide) (by omega) (fun c56 => ?_) (fun c56 => ?_)) | refine Rp.icmp_ne (tgt := 73) dX7_part_56 (by decide) (fun c56 => ?_) (fun c56 => ?_)
      · skip
        first | (exfalso; omega) | exact absurd c56 (by decide) | exact absurd (by decide) c56
      · skip
        refine Rp.aload_n dX7_part_59 rfl rfl ?_
        refine Rp.getI dX7_part_60 fk_X7_102 rfl (S _ _ rfl) ?_
        first | rw [e3] | rw [e8] | skip
        refine Rp.sipush (nI 1000) dX7_part_63 (by decide +kernel) ?_
        first | ((with_reducible show Rp _ _ _ _ (.int (nI _) :: .int (nI _) :: _) _ _); refine Rp.icmp_gtN (tgt := 73) dX7_part_66 (by decide) (by omega) (fun c66 => ?_) (fun c66 => ?_)) | refine Rp.icmp_gt (tgt := 73) dX7_part_66 (by decide) (fun c66 => ?_) (fun c66 => ?_)
        · skip
          refine Rp.iconst (nI 0) dX7_part_73 (by decide) ?_
          refine Rp.ist3 dX7_part_74 (by first | exact nl2_some rfl | exact nl2_none) (by decide) ?_
          exact kk
        · skip
          first | (exfalso; omega) | exact absurd c66 (by decide) | exact absurd (by decide) c66
  · rw [decide_eq_false (fun z => e z.1), show b2i false = nI 0 from rfl] at kk
    refine Rp.aload_n dX7_part_50 rfl rfl ?_
    refine Rp.getI dX7_part_51 fk_X7_48 rfl (S _ _ rfl) ?_
    refine Rp.bipush (-3) dX7_part_54 (by decide) ?_
    first | ((with_reducible show Rp _ _ _ _ (.int (nI _) :: .int (nI _) :: _) _ _); refine Rp.icmp_neN (tgt := 73) dX7_part_56 (by decide) (by omega) (fun c56 => ?_) (fun c56 => ?_)) | refine Rp.icmp_ne (tgt := 73) dX7_part_56 (by decide) (fun c56 => ?_) (fun c56 => ?_)
    · skip
      refine Rp.iconst (nI 0) dX7_part_73 (by decide) ?_
      refine Rp.ist3 dX7_part_74 (by first | exact nl2_some rfl | exact nl2_none) (by decide) ?_
      exact kk
    · skip
      exact absurd (sn.1.mp c56) e
theorem part_err {i lv a : Nat} {af : Bool} (S : ShOK h) (ha : a ≤ 436) (G : GS h L TL i lv a af) (dep : Value) (x : Int32) (b : Bool) (hl : lv ≤ 50) (hx : lv < 50 → x = -1 ∧ b = false) : Rp (d + 5) M_X7_part 75 [some (.ref 35), some dep, some (.int x), some (.int (b2i b))] [] h (fun r h' => r = none ∧ cQ h ord L TL a af (.error i) h') := by
  have h9 := G.2.1
  have fin : Rp (d + 5) M_X7_part 93 [some (.ref 35), some dep, some (.int x), some (.int (b2i b))] [] h (fun r h' => r = none ∧ cQ h ord L TL a af (.error i) h') := by
    refine Rp.aload_n dX7_part_93 rfl rfl ?_
    refine Rp.callV0 M_X7_wrong (ci := 7) dX7_part_94 mo_X7_wrong lk_X7_51 (by decide) rfl rfl (S _ _ rfl) (Nat.le_of_ble_eq_true rfl) (Nat.le_of_ble_eq_true rfl) (t_wrong (d + 4) S G.2.2.1) (fun v1 h1 p1 x1 => ?_)
    rw [p1.1, p1.2]
    try dsimp only [Option.toList, List.cons_append, List.nil_append, List.append]
    refine Rp.vreturn dX7_part_97 rfl ?_
    exact ⟨rfl, cQ_err ha G⟩
  by_cases hq : lv < 50
  · obtain ⟨rfl, rfl⟩ := hx hq
    refine Rp.aload_n dX7_part_75 rfl rfl ?_
    refine Rp.getI dX7_part_76 fk_X7_36 rfl (S _ _ rfl) ?_
    first | rw [h9] | skip
    refine Rp.bipush (nI 50) dX7_part_79 (by decide) ?_
    first | ((with_reducible show Rp _ _ _ _ (.int (nI _) :: .int (nI _) :: _) _ _); refine Rp.icmp_geN (tgt := 93) dX7_part_81 (by decide) (by omega) (fun c81 => ?_) (fun c81 => ?_)) | refine Rp.icmp_ge (tgt := 93) dX7_part_81 (by decide) (fun c81 => ?_) (fun c81 => ?_)
    · skip
      first | (exfalso; omega) | exact absurd c81 (by decide) | exact absurd (by decide) c81
    · skip
      refine Rp.iload_n dX7_part_84 rfl ?_
      refine Rp.iconst (-1) dX7_part_85 (by decide) ?_
      first | ((with_reducible show Rp _ _ _ _ (.int (nI _) :: .int (nI _) :: _) _ _); refine Rp.icmp_neN (tgt := 98) dX7_part_86 (by decide) (by omega) (fun c86 => ?_) (fun c86 => ?_)) | refine Rp.icmp_ne (tgt := 98) dX7_part_86 (by decide) (fun c86 => ?_) (fun c86 => ?_)
      · skip
        exact absurd rfl c86
      · skip
        refine Rp.iload_n dX7_part_89 rfl ?_
        first | ((with_reducible show Rp _ _ _ _ (.int (b2i _) :: _) _ _); refine Rp.if_neB (tgt := 98) dX7_part_90 (by decide) (fun c90 => ?_) (fun c90 => ?_)) | ((with_reducible show Rp _ _ _ _ (.int (nI _) :: _) _ _); refine Rp.if_neN (tgt := 98) dX7_part_90 (by decide) (by omega) (fun c90 => ?_) (fun c90 => ?_)) | refine Rp.if_ne (tgt := 98) dX7_part_90 (by decide) (fun c90 => ?_) (fun c90 => ?_)
        · skip
          cases c90
        · skip
          exact fin
  · skip
    refine Rp.aload_n dX7_part_75 rfl rfl ?_
    refine Rp.getI dX7_part_76 fk_X7_36 rfl (S _ _ rfl) ?_
    first | rw [h9] | skip
    refine Rp.bipush (nI 50) dX7_part_79 (by decide) ?_
    first | ((with_reducible show Rp _ _ _ _ (.int (nI _) :: .int (nI _) :: _) _ _); refine Rp.icmp_geN (tgt := 93) dX7_part_81 (by decide) (by omega) (fun c81 => ?_) (fun c81 => ?_)) | refine Rp.icmp_ge (tgt := 93) dX7_part_81 (by decide) (fun c81 => ?_) (fun c81 => ?_)
    · skip
      exact fin
    · skip
      first | (exfalso; omega) | exact absurd c81 (by decide) | exact absurd (by decide) c81
theorem part_nr {i lv a : Nat} {af : Bool} (B : RB h ord L) (hTL : TL = TLo (gI h 36) L) (ha : a < 436) (G : GS h L TL i lv a af) (dep : Value) (x : Int32) (hl : lv < 50) (e : cT (gI h 36) TL i = 50) (e5 : vT (gI h 36) TL i ≤ 1000) (D : DN) : Rp (d + 5) M_X7_part 75 [some (.ref 35), some dep, some (.int x), some (.int (nI 1))] [] h (fun r h' => r = none ∧ cQ h ord L TL a af (.ok (i + 1, lv + 1, [(1, vT (gI h 36) TL i)], D)) h') := by
  have B0 := B
  obtain ⟨S, R, hL, hln, ho⟩ := B
  have h9 := G.2.1
  have sn := TS_num G.1
  have e8 : gI (sI h 35 9 (nI (lv + 1))) 35 8 = nI (vT (gI h 36) TL i) := by
    rw [gI_off _ _ _ (by decide), sn.2 e, show min (vT (gI h 36) TL i) 1001 = vT (gI h 36) TL i by omega]
  have G1 := G.parts (lv + 1)
  have em := t_emit (d + 4) (h := sI h 35 9 (nI (lv + 1))) S R (o := 1) (v := vT (gI h 36) TL i) (a := a) (by decide) (by omega) ha G1.2.2.2.1
  have G2 := G1.emit (enc (1, vT (gI h 36) TL i))
  have Fe : Fr rX h (sI (sI (sI h 35 9 (nI (lv + 1))) 39 a (enc (1, vT (gI h 36) TL i))) 37 3 (nI (a + 1))) := ((Fr.rfl'.sI rfl).sI rfl).sI rfl
  have nx := t_next (d + 3) (B0.fr Fe) (TL := TL) (by rw [Fe.tp]; exact hTL) G2.1 (cT_len (tb := gI h 36) (by rw [e]; decide))
  have fin : Rp (d + 5) M_X7_part 98 [some (.ref 35), some dep, some (.int x), some (.int (nI 1))] [] h (fun r h' => r = none ∧ cQ h ord L TL a af (.ok (i + 1, lv + 1, [(1, vT (gI h 36) TL i)], D)) h') := by
    refine Rp.aload_n dX7_part_98 rfl rfl ?_
    refine Rp.dup dX7_part_99 rfl ?_
    refine Rp.getI dX7_part_100 fk_X7_36 rfl (S _ _ rfl) ?_
    first | rw [h9] | rw [e8] | skip
    refine Rp.iconst (nI 1) dX7_part_103 (by decide) ?_
    first | ((with_reducible show Rp _ _ _ _ (.int (nI _) :: .int (nI _) :: _) _ _); refine Rp.iaddN dX7_part_104 ?_) | refine Rp.iadd dX7_part_104 ?_
    refine Rp.putI dX7_part_105 fk_X7_36w rfl (S _ _ rfl) ?_
    refine Rp.iload_n dX7_part_108 rfl ?_
    first | ((with_reducible show Rp _ _ _ _ (.int (b2i _) :: _) _ _); refine Rp.if_eqB (tgt := 132) dX7_part_109 (by decide) (fun c109 => ?_) (fun c109 => ?_)) | ((with_reducible show Rp _ _ _ _ (.int (nI _) :: _) _ _); refine Rp.if_eqN (tgt := 132) dX7_part_109 (by decide) (by omega) (fun c109 => ?_) (fun c109 => ?_)) | refine Rp.if_eq (tgt := 132) dX7_part_109 (by decide) (fun c109 => ?_) (fun c109 => ?_)
    · skip
      first | (exfalso; omega) | exact absurd c109 (by decide) | exact absurd (by decide) c109
    · skip
      refine Rp.aload_n dX7_part_112 rfl rfl ?_
      refine Rp.getR dX7_part_113 fk_X7_18 rfl (S _ _ rfl) (R _ _ _ rfl) ?_
      refine Rp.iconst (nI 1) dX7_part_116 (by decide) ?_
      refine Rp.aload_n dX7_part_117 rfl rfl ?_
      refine Rp.getI dX7_part_118 fk_X7_102 rfl (S _ _ rfl) ?_
      first | rw [h9] | rw [e8] | skip
      refine Rp.callV2 M_X9_emit (ci := 9) dX7_part_121 mo_X9_emit lk_X7_98 (by decide) rfl rfl (S _ _ rfl) (Nat.le_of_ble_eq_true rfl) (Nat.le_of_ble_eq_true rfl) (em) (fun v1 h1 p1 x1 => ?_)
      rw [p1.1, p1.2]
      try dsimp only [Option.toList, List.cons_append, List.nil_append, List.append]
      refine Rp.pop dX7_part_124 rfl ?_
      refine Rp.aload_n dX7_part_125 rfl rfl ?_
      refine Rp.callV0 M_X7_advance (ci := 7) dX7_part_126 mo_X7_advance lk_X7_42 (by decide) rfl rfl (S _ _ rfl) (Nat.le_of_ble_eq_true rfl) (Nat.le_of_ble_eq_true rfl) (nx) (fun v1 h1 p1 x1 => ?_)
      obtain ⟨rfl, p2, p3⟩ := p1
      try dsimp only [Option.toList, List.cons_append, List.nil_append, List.append]
      refine Rp.goto (tgt := 141) dX7_part_129 (by decide) ?_
      refine Rp.vreturn dX7_part_141 rfl ?_
      refine ⟨rfl, cQ_one (Fe.trans p2.av) ?_ (fun j hj => ?_) ?_⟩
      · rw [show fitC ord [(1, vT (gI h 36) TL i)] = false by cases ord <;> rfl, Bool.or_false]; exact G2.av p2 p3
      · rw [p2.I 39 j rfl, gI_ne _ _ _ _ (by decide), gI_off _ _ _ (by omega), gI_ne _ _ _ _ (by decide)]
      · rw [p2.I 39 a rfl, gI_ne _ _ _ _ (by decide), gI_hit]
  refine Rp.aload_n dX7_part_75 rfl rfl ?_
  refine Rp.getI dX7_part_76 fk_X7_36 rfl (S _ _ rfl) ?_
  first | rw [h9] | skip
  refine Rp.bipush (nI 50) dX7_part_79 (by decide) ?_
  first | ((with_reducible show Rp _ _ _ _ (.int (nI _) :: .int (nI _) :: _) _ _); refine Rp.icmp_geN (tgt := 93) dX7_part_81 (by decide) (by omega) (fun c81 => ?_) (fun c81 => ?_)) | refine Rp.icmp_ge (tgt := 93) dX7_part_81 (by decide) (fun c81 => ?_) (fun c81 => ?_)
  · skip
    first | (exfalso; omega) | exact absurd c81 (by decide) | exact absurd (by decide) c81
  · skip
    refine Rp.iload_n dX7_part_84 rfl ?_
    refine Rp.iconst (-1) dX7_part_85 (by decide) ?_
    first | ((with_reducible show Rp _ _ _ _ (.int (nI _) :: .int (nI _) :: _) _ _); refine Rp.icmp_neN (tgt := 98) dX7_part_86 (by decide) (by omega) (fun c86 => ?_) (fun c86 => ?_)) | refine Rp.icmp_ne (tgt := 98) dX7_part_86 (by decide) (fun c86 => ?_) (fun c86 => ?_)
    · skip
      exact fin
    · skip
      refine Rp.iload_n dX7_part_89 rfl ?_
      first | ((with_reducible show Rp _ _ _ _ (.int (b2i _) :: _) _ _); refine Rp.if_neB (tgt := 98) dX7_part_90 (by decide) (fun c90 => ?_) (fun c90 => ?_)) | ((with_reducible show Rp _ _ _ _ (.int (nI _) :: _) _ _); refine Rp.if_neN (tgt := 98) dX7_part_90 (by decide) (by omega) (fun c90 => ?_) (fun c90 => ?_)) | refine Rp.if_ne (tgt := 98) dX7_part_90 (by decide) (fun c90 => ?_) (fun c90 => ?_)
      · skip
        exact fin
      · skip
        first | (exfalso; omega) | exact absurd c90 (by decide) | exact absurd (by decide) c90
theorem part_wd {P : Option Value → AH → Prop} {i lv a w : Nat} {af : Bool} (B : RB h ord L) (hTL : TL = TLo (gI h 36) L) (G : GS h L TL i lv a af) (dep : Value) (hw : w < 9) (hl : lv < 50) (hi : i < TL.length) (kk : ∀ g, Fr rX h g → (∀ j, gI g 39 j = gI h 39 j) → GS g L TL (i + 1) (lv + 1) a af → Rp (d + 4) M_X7_word 0 [some (.ref 35), some (.int (nI w)), none] [] g (fun r h' => r = none ∧ P none h')) : Rp (d + 5) M_X7_part 75 [some (.ref 35), some dep, some (.int (nI w)), some (.int (nI 0))] [] h P := by
  have B0 := B
  obtain ⟨S, R, hL, hln, ho⟩ := B
  have h9 := G.2.1
  have G1 := G.parts (lv + 1)
  have Fe : Fr rX h (sI h 35 9 (nI (lv + 1))) := Fr.rfl'.sI rfl
  have nx := t_next (d + 3) (B0.fr Fe) (TL := TL) (by rw [Fe.tp]; exact hTL) G1.1 hi
  have hm : nI w ≠ -1 := nI_ne_m1 (by omega)
  refine Rp.aload_n dX7_part_75 rfl rfl ?_
  refine Rp.getI dX7_part_76 fk_X7_36 rfl (S _ _ rfl) ?_
  first | rw [h9] | skip
  refine Rp.bipush (nI 50) dX7_part_79 (by decide) ?_
  first | ((with_reducible show Rp _ _ _ _ (.int (nI _) :: .int (nI _) :: _) _ _); refine Rp.icmp_geN (tgt := 93) dX7_part_81 (by decide) (by omega) (fun c81 => ?_) (fun c81 => ?_)) | refine Rp.icmp_ge (tgt := 93) dX7_part_81 (by decide) (fun c81 => ?_) (fun c81 => ?_)
  · skip
    first | (exfalso; omega) | exact absurd c81 (by decide) | exact absurd (by decide) c81
  · skip
    refine Rp.iload_n dX7_part_84 rfl ?_
    refine Rp.iconst (-1) dX7_part_85 (by decide) ?_
    first | ((with_reducible show Rp _ _ _ _ (.int (nI _) :: .int (nI _) :: _) _ _); refine Rp.icmp_neN (tgt := 98) dX7_part_86 (by decide) (by omega) (fun c86 => ?_) (fun c86 => ?_)) | refine Rp.icmp_ne (tgt := 98) dX7_part_86 (by decide) (fun c86 => ?_) (fun c86 => ?_)
    · skip
      refine Rp.aload_n dX7_part_98 rfl rfl ?_
      refine Rp.dup dX7_part_99 rfl ?_
      refine Rp.getI dX7_part_100 fk_X7_36 rfl (S _ _ rfl) ?_
      first | rw [h9] | skip
      refine Rp.iconst (nI 1) dX7_part_103 (by decide) ?_
      first | ((with_reducible show Rp _ _ _ _ (.int (nI _) :: .int (nI _) :: _) _ _); refine Rp.iaddN dX7_part_104 ?_) | refine Rp.iadd dX7_part_104 ?_
      refine Rp.putI dX7_part_105 fk_X7_36w rfl (S _ _ rfl) ?_
      refine Rp.iload_n dX7_part_108 rfl ?_
      first | ((with_reducible show Rp _ _ _ _ (.int (b2i _) :: _) _ _); refine Rp.if_eqB (tgt := 132) dX7_part_109 (by decide) (fun c109 => ?_) (fun c109 => ?_)) | ((with_reducible show Rp _ _ _ _ (.int (nI _) :: _) _ _); refine Rp.if_eqN (tgt := 132) dX7_part_109 (by decide) (by omega) (fun c109 => ?_) (fun c109 => ?_)) | refine Rp.if_eq (tgt := 132) dX7_part_109 (by decide) (fun c109 => ?_) (fun c109 => ?_)
      · skip
        refine Rp.aload_n dX7_part_132 rfl rfl ?_
        refine Rp.callV0 M_X7_advance (ci := 7) dX7_part_133 mo_X7_advance lk_X7_42 (by decide) rfl rfl (S _ _ rfl) (Nat.le_of_ble_eq_true rfl) (Nat.le_of_ble_eq_true rfl) (nx) (fun v1 h1 p1 x1 => ?_)
        obtain ⟨rfl, p2, p3⟩ := p1
        have q1 := kk h1 (Fe.trans p2.av) (fun j => (p2.I 39 j rfl).trans (gI_ne _ _ _ _ (by decide))) (G1.av p2 p3)
        have S1 := p2.S S
        try dsimp only [Option.toList, List.cons_append, List.nil_append, List.append]
        refine Rp.aload_n dX7_part_136 rfl rfl ?_
        refine Rp.iload_n dX7_part_137 rfl ?_
        refine Rp.callV1 M_X7_word (ci := 7) dX7_part_138 mo_X7_word lk_X7_143 (by decide) rfl rfl (S1 _ _ rfl) (Nat.le_of_ble_eq_true rfl) (Nat.le_of_ble_eq_true rfl) (q1) (fun v1 h1 p1 x1 => ?_)
        obtain ⟨rfl, p4⟩ := p1
        try dsimp only [Option.toList, List.cons_append, List.nil_append, List.append]
        refine Rp.vreturn dX7_part_141 rfl ?_
        exact p4
      · skip
        first | (exfalso; omega) | exact absurd c109 (by decide) | exact absurd (by decide) c109
    · skip
      exact absurd c86 hm
theorem t_part (B : RB h ord L) (hTL : TL = TLo (gI h 36) L) {i lv a : Nat} {af : Bool} (hi : i ≤ TL.length) (hT : TL.length ≤ 400) (hl : lv ≤ 50) (ha : a ≤ i + 35) (G : GS h L TL i lv a af) (h191 : cT (gI h 36) TL i ≠ 191) (dep : Int32) : Rp (d + 5) M_X7_part 0 [some (.ref 35), some (.int dep), none, none] [] h (fun r h' => r = none ∧ cQ h ord L TL a af (prtL ord (cT (gI h 36) TL) (vT (gI h 36) TL) i lv) h') := by
  refine part_pre d B hTL G h191 dep ?_
  refine part_num d B.1 G.1 _ _ ?_
  by_cases hq : (cT (gI h 36) TL i = 50 ∧ vT (gI h 36) TL i ≤ 1000) ∨ isW ord (cT (gI h 36) TL i) = true
  · have hp : prtL ord (cT (gI h 36) TL) (vT (gI h 36) TL) i lv = _ := if_pos hq
    rw [hp]
    by_cases h50 : lv = 50
    · rw [if_pos h50]
      exact part_err d B.1 (by omega) G _ _ _ hl (fun z => absurd z (by omega))
    · rw [if_neg h50]
      by_cases e : cT (gI h 36) TL i = 50
      · have e5 : vT (gI h 36) TL i ≤ 1000 := by
          rcases hq with z | z
          · exact z.2
          · rw [e] at z; exact absurd z (by cases ord <;> decide)
        rw [if_pos e, decide_eq_true ⟨e, e5⟩]
        have hi2 : i < TL.length := cT_len (tb := gI h 36) (by rw [e]; decide)
        exact part_nr d B hTL (by omega) G _ _ (by omega) e e5 _
      · rw [if_neg e, decide_eq_false (fun z => e z.1)]
        have hw := hq.resolve_left (fun z => e z.1)
        have hc0 : cT (gI h 36) TL i ≠ 0 := fun z => by rw [z] at hw; revert hw; cases ord <;> decide
        have hi2 : i < TL.length := cT_len hc0
        cases ord with
        | false =>
          have hr : 9 ≤ cT (gI h 36) TL i ∧ cT (gI h 36) TL i ≤ 17 := of_decide_eq_true hw
          rw [if_neg (show ¬ false = true by decide), if_neg (show ¬ false = true by decide), pw_3, if_pos hr]
          refine part_wd d B hTL G _ (w := lwI (cT (gI h 36) TL i)) lwI_lt (by omega) hi2 (fun g F h39 G2 => ?_)
          refine Rp.mono (fun r h' p => ?_) (t_wordS (d + 3) (B.fr F) (w := lwI (cT (gI h 36) TL i)) lwI_lt (fun z => nomatch z) G2 (by omega))
          obtain ⟨p1, rfl⟩ := p
          refine ⟨p1, rfl, cQ_one (((F.sI rfl).sI rfl).sI rfl) ?_ (fun j hj => ?_) ?_⟩
          · rw [fit_one]
            exact (G2.ask _).emit _
          · rw [gI_ne _ _ _ _ (by decide), gI_off _ _ _ (by omega), gI_ne _ _ _ _ (by decide), h39]
          · rw [gI_ne _ _ _ _ (by decide), gI_hit]
        | true =>
          have hr : 16 ≤ cT (gI h 36) TL i ∧ cT (gI h 36) TL i ≤ 22 := of_decide_eq_true hw
          rw [if_pos rfl, if_pos rfl, pw_2]
          by_cases hp2 : cT (gI h 36) TL i = 16 ∨ cT (gI h 36) TL i = 22
          · rw [if_pos hp2, if_neg (by omega)]
            have key : ∀ w : Nat, (w = 5 ∨ w = 6) → (if cT (gI h 36) TL i = 22 then 5 else 11) = (if w = 5 then 5 else 11) → Rp (d + 5) M_X7_part 75 [some (.ref 35), some (.int dep), some (.int (nI w)), some (.int (nI 0))] [] h (fun r h' => r = none ∧ cQ h true L TL a af (if cT (gI h 36) TL (i + 1) = 50 ∧ vT (gI h 36) TL (i + 1) ≤ 5 then .ok (i + 2, lv + 1, [(2, (if cT (gI h 36) TL i = 22 then 5 else 11) + vT (gI h 36) TL (i + 1))], fun w _ => some (w ((if cT (gI h 36) TL i = 22 then 5 else 11) + vT (gI h 36) TL (i + 1))).toInt) else .error (i + 1)) h') := by
              intro w hw5 he
              refine part_wd d B hTL G _ (w := w) (by omega) (by omega) hi2 (fun g F h39 G2 => ?_)
              have q := t_wordP (d + 2) (B.fr F) (TL := TL) (by rw [F.tp]; exact hTL) hw5 G2 (by omega)
              rw [F.tp] at q
              refine Rp.mono (fun r h' p => ⟨p.1, rfl, ?_⟩) q
              rcases p.2 with ⟨z, rfl⟩ | ⟨z, F2, T2⟩
              · rw [if_neg z]
                have c1 := cQ_err (ord := true) (show a ≤ 436 by omega) G2
                exact ⟨F.trans c1.1, c1.2⟩
              · rw [if_pos z, he]
                have G3 := (G2.emit (enc (2, (if w = 5 then 5 else 11) + vT (gI h 36) TL (i + 1)))).av F2 T2
                refine cQ_one (((F.sI rfl).sI rfl).trans F2.av) ?_ (fun j hj => ?_) ?_
                · rw [fit_one, decide_eq_false (by split <;> omega), Bool.and_false, Bool.or_false]
                  exact G3
                · rw [F2.I 39 j rfl, gI_ne _ _ _ _ (by decide), gI_off _ _ _ (by omega), h39]
                · rw [F2.I 39 a rfl, gI_ne _ _ _ _ (by decide), gI_hit]
            by_cases e22 : cT (gI h 36) TL i = 22
            · rw [if_pos e22]
              have q := key 5 (Or.inl rfl) (by rw [if_pos e22, if_pos rfl])
              exact q
            · rw [if_neg e22, if_pos (hp2.resolve_right e22)]
              have q := key 6 (Or.inr rfl) (by rw [if_neg e22, if_neg (by decide)])
              exact q
          · rw [if_neg hp2, if_pos (by omega)]
            have hw5 : cT (gI h 36) TL i - 17 < 5 := by omega
            refine part_wd d B hTL G _ (w := cT (gI h 36) TL i - 17) (by omega) (by omega) hi2 (fun g F h39 G2 => ?_)
            refine Rp.mono (fun r h' p => ?_) (t_wordS (d + 3) (B.fr F) (w := cT (gI h 36) TL i - 17) (by omega) (fun _ => hw5) G2 (by omega))
            obtain ⟨p1, rfl⟩ := p
            refine ⟨p1, rfl, cQ_one (((F.sI rfl).sI rfl).sI rfl) ?_ (fun j hj => ?_) ?_⟩
            · rw [fit_one]
              exact (G2.ask _).emit _
            · rw [gI_ne _ _ _ _ (by decide), gI_off _ _ _ (by omega), gI_ne _ _ _ _ (by decide), h39]
            · rw [gI_ne _ _ _ _ (by decide), gI_hit]
  · have hp : prtL ord (cT (gI h 36) TL) (vT (gI h 36) TL) i lv = .error i := if_neg hq
    rw [hp, decide_eq_false (fun z => hq (Or.inl z))]
    have hn : oI (pwK (if ord then 2 else 3) (cT (gI h 36) TL i)) = -1 := by
      have hq2 : ¬ isW ord (cT (gI h 36) TL i) = true := fun z => hq (Or.inr z)
      cases ord with
      | false =>
        rw [if_neg (show ¬ false = true by decide), pw_3, if_neg (fun z => hq2 (decide_eq_true z))]; rfl
      | true =>
        have hr : ¬ (16 ≤ cT (gI h 36) TL i ∧ cT (gI h 36) TL i ≤ 22) := fun z => hq2 (decide_eq_true z)
        rw [if_pos rfl, pw_2, if_neg (by omega), if_neg (by omega), if_neg (by omega)]; rfl
    exact part_err d B.1 (by omega) G _ _ _ hl (fun _ => ⟨hn, rfl⟩)
end Pa
