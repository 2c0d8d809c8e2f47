section E6
variable {h : AH} {B : Nat} {ord : Bool} {c v : Nat → Nat} {T : Nat} {w : Nat → Int32}
theorem C_6 (S : ShOK h) (R : RfOK h) (K : EK h B c v T) (E : EO h ord w) {f : Nat} (ih : CIH h B ord c v T w f) {d dep i lv a i' lv' : Nat} {cd : List (Nat × Nat)} {D : DN} {live b : Bool} (hd : dep ≤ 8) (hi : i ≤ T) (hl : lv ≤ 50) (hP : Pst ord c v (Prs ord c v f) 6 dep i lv a = .ok (i', lv', cd, D)) : cR h B w live b d 6 dep i i' D := by
  have hT := K.1
  have hc := K.2.1
  have hP : (if c i = 140 then (if dep = 8 then .error i else cloL c 141 (Prs ord c v f 0 (dep + 1) (i + 1) lv a)) else cmpL c (Prs ord c v f 7 dep i lv a) a (Prs ord c v f 7 dep)) = .ok (i', lv', cd, D) := hP
  show Rp (d + 8 * (8 - dep) + 6) M_X12_positiveOf 0 [some (.ref aM), some (.int (b2i live)), none, none, none, none, none] [] (evH h (nI (B + i)) (b2i b)) (evT live b (D w 0) h (B + i'))
  refine Rp.aload_n dX12_positiveOf_0 rfl rfl ?_
  refine Rp.bipush (nI 40) dX12_positiveOf_1 (by decide) ?_
  refine Rp.callS1 M_X12_sign dX12_positiveOf_3 mo_X12_sign lk_X12_241 (Nat.le_of_ble_eq_true rfl) (Nat.le_of_ble_eq_true rfl) (s_signN (d + 8 * (8 - dep) + 5) 40) (fun v1 h1 p1 x1 => ?_)
  rw [p1.1, p1.2]
  try dsimp only [Option.toList, List.cons_append, List.nil_append, List.append]
  refine Rp.callV1 M_X12_passes0 (ci := 12) dX12_positiveOf_6 mo_X12_passes0 lk_X12_306 (by decide) rfl rfl (S _ _ rfl) (Nat.le_of_ble_eq_true rfl) (Nat.le_of_ble_eq_true rfl) (s_passes (d + 8 * (8 - dep) + 4) S R K hi (b2i b) _ (by decide)) (fun v1 h1 p1 x1 => ?_)
  skip
  try dsimp only [Option.toList, List.cons_append, List.nil_append, List.append]
  skip
  rcases p1 with ⟨e, rfl, rfl⟩ | ⟨e, rfl, rfl⟩
  · dsimp only [Option.toList, List.cons_append, List.nil_append, List.append]
    rw [if_pos e] at hP
    have hi1 := lt_of_code hc hi (by rw [e]; decide)
    by_cases h8 : dep = 8
    · rw [if_pos h8] at hP; cases hP
    · rw [if_neg h8] at hP
      obtain ⟨i1, x1, e1, rfl⟩ := cloL_inv hP
      have q1 := ih 0 (d + 4) (dep + 1) (i + 1) lv a i1 lv' cd D live b (by decide) (by omega) hi1 hl x1
      have ed : d + 4 + 8 * (8 - (dep + 1)) + 9 = d + 8 * (8 - dep) + 5 := by omega
      have q1 : Rp (d + 4 + 8 * (8 - (dep + 1)) + 9) M_X12_testOf 0 [some (.ref aM), some (.int (b2i live)), none, none] [] (evH h (nI (B + i + 1)) (b2i b)) (evT live b (D w 0) h (B + i1)) := q1
      rw [ed] at q1
      first | ((with_reducible show Rp _ _ _ _ (.int (b2i _) :: _) _ _); refine Rp.if_eqB (tgt := 30) dX12_positiveOf_9 (by decide) (fun c9 => ?_) (fun c9 => ?_)) | ((with_reducible show Rp _ _ _ _ (.int (nI _) :: _) _ _); refine Rp.if_eqN (tgt := 30) dX12_positiveOf_9 (by decide) (by omega) (fun c9 => ?_) (fun c9 => ?_)) | refine Rp.if_eq (tgt := 30) dX12_positiveOf_9 (by decide) (fun c9 => ?_) (fun c9 => ?_)
      · skip
        first | (exfalso; omega) | exact absurd c9 (by decide) | exact absurd (by decide) c9
      · skip
        refine Rp.aload_n dX12_positiveOf_12 rfl rfl ?_
        refine Rp.iload_n dX12_positiveOf_13 rfl ?_
        refine Rp.callV1 M_X12_testOf (ci := 12) dX12_positiveOf_14 mo_X12_testOf lk_X12_340 (by decide) rfl rfl (S _ _ rfl) (Nat.le_of_ble_eq_true rfl) (Nat.le_of_ble_eq_true rfl) (q1) (fun v1 h1 p1 x1 => ?_)
        obtain ⟨t, b1, rfl, rfl, p1⟩ := p1
        try dsimp only [Option.toList, List.cons_append, List.nil_append, List.append]
        refine Rp.ist2 dX12_positiveOf_17 (by first | exact nl2_some rfl | exact nl2_none) (by decide) ?_
        refine Rp.aload_n dX12_positiveOf_18 rfl rfl ?_
        refine Rp.dup dX12_positiveOf_19 rfl ?_
        refine Rp.getI dX12_positiveOf_20 fk_X12_282 rfl (S _ _ rfl) ?_
        first | rw [ev_g] | skip
        refine Rp.iconst (nI 1) dX12_positiveOf_23 (by decide) ?_
        first | ((with_reducible show Rp _ _ _ _ (.int (nI _) :: .int (nI _) :: _) _ _); refine Rp.iaddN dX12_positiveOf_24 ?_) | refine Rp.iadd dX12_positiveOf_24 ?_
        refine Rp.putI dX12_positiveOf_25 fk_X12_282w rfl (S _ _ rfl) ?_
        first | rw [ev_sg] | skip
        refine Rp.iload_n dX12_positiveOf_28 rfl ?_
        refine Rp.zreturn dX12_positiveOf_29 rfl (b2i_01 t) ?_
        exact ⟨t, b1, rfl, rfl, p1⟩
  · dsimp only [Option.toList, List.cons_append, List.nil_append, List.append]
    rw [if_neg e] at hP
    obtain ⟨i1, lv1, cd1, D1, cd2, D2, x1, hop, x2, -, rfl⟩ := cmpL_inv hP
    have o1 := Prs_ok (ord := ord) (v := v) hc f 7 dep i lv a (by decide) hi hl
    rw [x1] at o1
    have hi1 := lt_of_code hc o1.2.1 (fun z => by rw [z] at hop; exact hop rfl)
    have hci := K.lt o1.2.1
    have q1 := ih 7 d dep i lv a i1 lv1 cd1 D1 live b (by decide) hd hi hl x1
    have q2 := fun b => ih 7 d dep (i1 + 1) lv1 _ i' lv' cd2 D2 live b (by decide) hd hi1 o1.2.2.2.1 x2
    have i1T := o1.2.1
    first | ((with_reducible show Rp _ _ _ _ (.int (b2i _) :: _) _ _); refine Rp.if_eqB (tgt := 30) dX12_positiveOf_9 (by decide) (fun c9 => ?_) (fun c9 => ?_)) | ((with_reducible show Rp _ _ _ _ (.int (nI _) :: _) _ _); refine Rp.if_eqN (tgt := 30) dX12_positiveOf_9 (by decide) (by omega) (fun c9 => ?_) (fun c9 => ?_)) | refine Rp.if_eq (tgt := 30) dX12_positiveOf_9 (by decide) (fun c9 => ?_) (fun c9 => ?_)
    rotate_left
    · first | (exfalso; omega) | exact absurd c9 (by decide) | exact absurd (by decide) c9
    refine Rp.aload_n dX12_positiveOf_30 rfl rfl ?_
    refine Rp.iload_n dX12_positiveOf_31 rfl ?_
    refine Rp.callV1 M_X12_sumOf (ci := 12) dX12_positiveOf_32 mo_X12_sumOf lk_X12_309 (by decide) rfl rfl (S _ _ rfl) (Nat.le_of_ble_eq_true rfl) (Nat.le_of_ble_eq_true rfl) (q1) (fun v1 h1 p1 x1 => ?_)
    obtain ⟨X, b1, rfl, rfl, p1⟩ := p1
    have p0 := p1
    try dsimp only [Option.toList, List.cons_append, List.nil_append, List.append]
    refine Rp.lst2 dX12_positiveOf_35 (by first | exact nl2_some rfl | exact nl2_none) (by decide) ?_
    refine Rp.aload_n dX12_positiveOf_36 rfl rfl ?_
    refine Rp.aload_n dX12_positiveOf_37 rfl rfl ?_
    refine Rp.getI dX12_positiveOf_38 fk_X12_282 rfl (S _ _ rfl) ?_
    first | rw [ev_g] | skip
    refine Rp.callV1 M_X12_codeAt (ci := 12) dX12_positiveOf_41 mo_X12_codeAt lk_X12_285 (by decide) rfl rfl (S _ _ rfl) (Nat.le_of_ble_eq_true rfl) (Nat.le_of_ble_eq_true rfl) (s_codeAt (d + 8 * (8 - dep) + 5) S R K i1T _ _) (fun v1 h1 p1 x1 => ?_)
    rw [p1.1, p1.2]
    try dsimp only [Option.toList, List.cons_append, List.nil_append, List.append]
    refine Rp.ist4 dX12_positiveOf_44 (by first | exact nl2_some rfl | exact nl2_none) (by decide) ?_
    refine Rp.aload_n dX12_positiveOf_46 rfl rfl ?_
    refine Rp.dup dX12_positiveOf_47 rfl ?_
    refine Rp.getI dX12_positiveOf_48 fk_X12_282 rfl (S _ _ rfl) ?_
    first | rw [ev_g] | skip
    refine Rp.iconst (nI 1) dX12_positiveOf_51 (by decide) ?_
    first | ((with_reducible show Rp _ _ _ _ (.int (nI _) :: .int (nI _) :: _) _ _); refine Rp.iaddN dX12_positiveOf_52 ?_) | refine Rp.iadd dX12_positiveOf_52 ?_
    refine Rp.putI dX12_positiveOf_53 fk_X12_282w rfl (S _ _ rfl) ?_
    first | rw [ev_sg] | skip
    refine Rp.aload_n dX12_positiveOf_56 rfl rfl ?_
    refine Rp.iload_n dX12_positiveOf_57 rfl ?_
    refine Rp.callV1 M_X12_sumOf (ci := 12) dX12_positiveOf_58 mo_X12_sumOf lk_X12_309 (by decide) rfl rfl (S _ _ rfl) (Nat.le_of_ble_eq_true rfl) (Nat.le_of_ble_eq_true rfl) (q2 b1) (fun v1 h1 p1 x1 => ?_)
    obtain ⟨Y, b2, rfl, rfl, p2⟩ := p1
    try dsimp only [Option.toList, List.cons_append, List.nil_append, List.append]
    refine Rp.lst5 dX12_positiveOf_61 (by first | exact nl2_some rfl | exact nl2_none) (by decide) ?_
    skip
    by_cases hl2 : live = true ∧ b2 = false
    · obtain ⟨hb1, hY, hY1, hY2⟩ := evC_full p2 hl2
      obtain ⟨hb0, hX, hX1, hX2⟩ := evC_full p0 ⟨hl2.1, hb1⟩
      have s1 := evC_some p0 ⟨hl2.1, hb1⟩
      have s2 := evC_some p2 hl2
      obtain ⟨rfl, rfl⟩ := hl2
      generalize (D1 w 0).getD 0 = y at *
      generalize (D2 w 0).getD 0 = z at *
      have fin : ∀ t : Bool, cmO (cOp (c i1)) y z = bZ t → evT true b ((D1 w 0).bind fun y => (D2 w 0).map fun z => cmO (cOp (c i1)) y z) h (B + i') (some (.int (b2i t))) (evH h (nI (B + i')) (b2i false)) := fun t ht => ⟨t, false, rfl, rfl, by
        unfold evCT
        rw [if_pos ⟨rfl, hb0⟩, s1]
        rw [s2]
        exact ⟨rfl, ht⟩⟩
      have lt1 : X < Y ↔ y < z := by rw [hX, hY]; exact z64_lt (by omega) (by omega) (by omega) (by omega)
      have lt2 : Y < X ↔ z < y := by rw [hX, hY]; exact z64_lt (by omega) (by omega) (by omega) (by omega)
      have eq1 : X = Y ↔ y = z := by rw [hX, hY]; exact z64_eq (by omega) (by omega) (by omega) (by omega)
      have le1 : Y ≤ X ↔ z ≤ y := by rw [Int64.le_iff_toInt_le, hX, hY, z64_toInt (by omega) (by omega), z64_toInt (by omega) (by omega)]
      have le2 : X ≤ Y ↔ y ≤ z := by rw [Int64.le_iff_toInt_le, hX, hY, z64_toInt (by omega) (by omega), z64_toInt (by omega) (by omega)]
      by_cases k1 : c i1 = 160
      · rw [k1] at fin ⊢
        refine Rp.iload_n dX12_positiveOf_63 rfl ?_
        first | ((with_reducible show Rp _ _ _ _ (.int (b2i _) :: _) _ _); refine Rp.if_eqB (tgt := 125) dX12_positiveOf_64 (by decide) (fun c64 => ?_) (fun c64 => ?_)) | ((with_reducible show Rp _ _ _ _ (.int (nI _) :: _) _ _); refine Rp.if_eqN (tgt := 125) dX12_positiveOf_64 (by decide) (by omega) (fun c64 => ?_) (fun c64 => ?_)) | refine Rp.if_eq (tgt := 125) dX12_positiveOf_64 (by decide) (fun c64 => ?_) (fun c64 => ?_)
        · skip
          first | (exfalso; omega) | exact absurd c64 (by decide) | exact absurd (by decide) c64
        · skip
          refine Rp.aload_n dX12_positiveOf_67 rfl rfl ?_
          refine Rp.getI dX12_positiveOf_68 fk_X12_292 rfl (S _ _ rfl) ?_
          first | rw [ev_b] | skip
          first | ((with_reducible show Rp _ _ _ _ (.int (b2i _) :: _) _ _); refine Rp.if_neB (tgt := 125) dX12_positiveOf_71 (by decide) (fun c71 => ?_) (fun c71 => ?_)) | ((with_reducible show Rp _ _ _ _ (.int (nI _) :: _) _ _); refine Rp.if_neN (tgt := 125) dX12_positiveOf_71 (by decide) (by omega) (fun c71 => ?_) (fun c71 => ?_)) | refine Rp.if_ne (tgt := 125) dX12_positiveOf_71 (by decide) (fun c71 => ?_) (fun c71 => ?_)
          · skip
            first | (exfalso; omega) | exact absurd c71 (by decide) | exact absurd (by decide) c71
          · skip
            refine Rp.iload dX12_positiveOf_74 rfl ?_
            refine Rp.bipush (nI 60) dX12_positiveOf_76 (by decide) ?_
            refine Rp.callS1 M_X12_sign dX12_positiveOf_78 mo_X12_sign lk_X12_241 (Nat.le_of_ble_eq_true rfl) (Nat.le_of_ble_eq_true rfl) (s_signN (d + 8 * (8 - dep) + 5) 60) (fun v1 h1 p1 x1 => ?_)
            rw [p1.1, p1.2]
            try dsimp only [Option.toList, List.cons_append, List.nil_append, List.append]
            first | ((with_reducible show Rp _ _ _ _ (.int (nI _) :: .int (nI _) :: _) _ _); refine Rp.icmp_neN (tgt := 94) dX12_positiveOf_81 (by decide) (by omega) (fun c81 => ?_) (fun c81 => ?_)) | refine Rp.icmp_ne (tgt := 94) dX12_positiveOf_81 (by decide) (fun c81 => ?_) (fun c81 => ?_)
            · skip
              first | (exfalso; omega) | exact absurd c81 (by decide) | exact absurd (by decide) c81
            · skip
              refine Rp.lload_n dX12_positiveOf_84 rfl ?_
              refine Rp.lload dX12_positiveOf_85 rfl ?_
              refine Rp.lcmp dX12_positiveOf_87 ?_
              refine Rp.if_ge (tgt := 125) dX12_positiveOf_88 (by decide) (fun c88 => ?_) (fun c88 => ?_)
              · skip
                refine Rp.iconst (nI 0) dX12_positiveOf_125 (by decide) ?_
                refine Rp.zreturn dX12_positiveOf_126 rfl (by first | exact Or.inl rfl | exact Or.inr rfl | assumption) ?_
                first | exact fin true (congrArg bZ (decide_eq_true (by have := mt (lg_cmp_ge _ _).mpr c88; rw [le1] at this; omega))) | exact fin false (congrArg bZ (decide_eq_false (by have := (lg_cmp_ge _ _).mp c88; rw [le1] at this; omega)))
              · skip
                refine Rp.goto (tgt := 121) dX12_positiveOf_91 (by decide) ?_
                refine Rp.iconst (nI 1) dX12_positiveOf_121 (by decide) ?_
                refine Rp.goto (tgt := 126) dX12_positiveOf_122 (by decide) ?_
                refine Rp.zreturn dX12_positiveOf_126 rfl (by first | exact Or.inl rfl | exact Or.inr rfl | assumption) ?_
                first | exact fin true (congrArg bZ (decide_eq_true (by have := mt (lg_cmp_ge _ _).mpr c88; rw [le1] at this; omega))) | exact fin false (congrArg bZ (decide_eq_false (by have := (lg_cmp_ge _ _).mp c88; rw [le1] at this; omega)))
      · by_cases k2 : c i1 = 162
        · rw [k2] at fin ⊢
          refine Rp.iload_n dX12_positiveOf_63 rfl ?_
          first | ((with_reducible show Rp _ _ _ _ (.int (b2i _) :: _) _ _); refine Rp.if_eqB (tgt := 125) dX12_positiveOf_64 (by decide) (fun c64 => ?_) (fun c64 => ?_)) | ((with_reducible show Rp _ _ _ _ (.int (nI _) :: _) _ _); refine Rp.if_eqN (tgt := 125) dX12_positiveOf_64 (by decide) (by omega) (fun c64 => ?_) (fun c64 => ?_)) | refine Rp.if_eq (tgt := 125) dX12_positiveOf_64 (by decide) (fun c64 => ?_) (fun c64 => ?_)
          · skip
            first | (exfalso; omega) | exact absurd c64 (by decide) | exact absurd (by decide) c64
          · skip
            refine Rp.aload_n dX12_positiveOf_67 rfl rfl ?_
            refine Rp.getI dX12_positiveOf_68 fk_X12_292 rfl (S _ _ rfl) ?_
            first | rw [ev_b] | skip
            first | ((with_reducible show Rp _ _ _ _ (.int (b2i _) :: _) _ _); refine Rp.if_neB (tgt := 125) dX12_positiveOf_71 (by decide) (fun c71 => ?_) (fun c71 => ?_)) | ((with_reducible show Rp _ _ _ _ (.int (nI _) :: _) _ _); refine Rp.if_neN (tgt := 125) dX12_positiveOf_71 (by decide) (by omega) (fun c71 => ?_) (fun c71 => ?_)) | refine Rp.if_ne (tgt := 125) dX12_positiveOf_71 (by decide) (fun c71 => ?_) (fun c71 => ?_)
            · skip
              first | (exfalso; omega) | exact absurd c71 (by decide) | exact absurd (by decide) c71
            · skip
              refine Rp.iload dX12_positiveOf_74 rfl ?_
              refine Rp.bipush (nI 60) dX12_positiveOf_76 (by decide) ?_
              refine Rp.callS1 M_X12_sign dX12_positiveOf_78 mo_X12_sign lk_X12_241 (Nat.le_of_ble_eq_true rfl) (Nat.le_of_ble_eq_true rfl) (s_signN (d + 8 * (8 - dep) + 5) 60) (fun v1 h1 p1 x1 => ?_)
              rw [p1.1, p1.2]
              try dsimp only [Option.toList, List.cons_append, List.nil_append, List.append]
              first | ((with_reducible show Rp _ _ _ _ (.int (nI _) :: .int (nI _) :: _) _ _); refine Rp.icmp_neN (tgt := 94) dX12_positiveOf_81 (by decide) (by omega) (fun c81 => ?_) (fun c81 => ?_)) | refine Rp.icmp_ne (tgt := 94) dX12_positiveOf_81 (by decide) (fun c81 => ?_) (fun c81 => ?_)
              · skip
                refine Rp.iload dX12_positiveOf_94 rfl ?_
                refine Rp.bipush (nI 62) dX12_positiveOf_96 (by decide) ?_
                refine Rp.callS1 M_X12_sign dX12_positiveOf_98 mo_X12_sign lk_X12_241 (Nat.le_of_ble_eq_true rfl) (Nat.le_of_ble_eq_true rfl) (s_signN (d + 8 * (8 - dep) + 5) 62) (fun v1 h1 p1 x1 => ?_)
                rw [p1.1, p1.2]
                try dsimp only [Option.toList, List.cons_append, List.nil_append, List.append]
                first | ((with_reducible show Rp _ _ _ _ (.int (nI _) :: .int (nI _) :: _) _ _); refine Rp.icmp_neN (tgt := 114) dX12_positiveOf_101 (by decide) (by omega) (fun c101 => ?_) (fun c101 => ?_)) | refine Rp.icmp_ne (tgt := 114) dX12_positiveOf_101 (by decide) (fun c101 => ?_) (fun c101 => ?_)
                · skip
                  first | (exfalso; omega) | exact absurd c101 (by decide) | exact absurd (by decide) c101
                · skip
                  refine Rp.lload_n dX12_positiveOf_104 rfl ?_
                  refine Rp.lload dX12_positiveOf_105 rfl ?_
                  refine Rp.lcmp dX12_positiveOf_107 ?_
                  refine Rp.if_le (tgt := 125) dX12_positiveOf_108 (by decide) (fun c108 => ?_) (fun c108 => ?_)
                  · skip
                    refine Rp.iconst (nI 0) dX12_positiveOf_125 (by decide) ?_
                    refine Rp.zreturn dX12_positiveOf_126 rfl (by first | exact Or.inl rfl | exact Or.inr rfl | assumption) ?_
                    first | exact fin true (congrArg bZ (decide_eq_true (by have := mt (lg_cmp_le _ _).mpr c108; rw [le2] at this; omega))) | exact fin false (congrArg bZ (decide_eq_false (by have := (lg_cmp_le _ _).mp c108; rw [le2] at this; omega)))
                  · skip
                    refine Rp.goto (tgt := 121) dX12_positiveOf_111 (by decide) ?_
                    refine Rp.iconst (nI 1) dX12_positiveOf_121 (by decide) ?_
                    refine Rp.goto (tgt := 126) dX12_positiveOf_122 (by decide) ?_
                    refine Rp.zreturn dX12_positiveOf_126 rfl (by first | exact Or.inl rfl | exact Or.inr rfl | assumption) ?_
                    first | exact fin true (congrArg bZ (decide_eq_true (by have := mt (lg_cmp_le _ _).mpr c108; rw [le2] at this; omega))) | exact fin false (congrArg bZ (decide_eq_false (by have := (lg_cmp_le _ _).mp c108; rw [le2] at this; omega)))
              · skip
                first | (exfalso; omega) | exact absurd c81 (by decide) | exact absurd (by decide) c81
        · have k3 : c i1 = 161 := by
            by_cases k3 : c i1 = 161
            · exact k3
            · exact absurd (by unfold cOp; rw [if_neg k1, if_neg k2, if_neg k3]) hop
          rw [k3] at fin ⊢
          refine Rp.iload_n dX12_positiveOf_63 rfl ?_
          first | ((with_reducible show Rp _ _ _ _ (.int (b2i _) :: _) _ _); refine Rp.if_eqB (tgt := 125) dX12_positiveOf_64 (by decide) (fun c64 => ?_) (fun c64 => ?_)) | ((with_reducible show Rp _ _ _ _ (.int (nI _) :: _) _ _); refine Rp.if_eqN (tgt := 125) dX12_positiveOf_64 (by decide) (by omega) (fun c64 => ?_) (fun c64 => ?_)) | refine Rp.if_eq (tgt := 125) dX12_positiveOf_64 (by decide) (fun c64 => ?_) (fun c64 => ?_)
          · skip
            first | (exfalso; omega) | exact absurd c64 (by decide) | exact absurd (by decide) c64
          · skip
            refine Rp.aload_n dX12_positiveOf_67 rfl rfl ?_
            refine Rp.getI dX12_positiveOf_68 fk_X12_292 rfl (S _ _ rfl) ?_
            first | rw [ev_b] | skip
            first | ((with_reducible show Rp _ _ _ _ (.int (b2i _) :: _) _ _); refine Rp.if_neB (tgt := 125) dX12_positiveOf_71 (by decide) (fun c71 => ?_) (fun c71 => ?_)) | ((with_reducible show Rp _ _ _ _ (.int (nI _) :: _) _ _); refine Rp.if_neN (tgt := 125) dX12_positiveOf_71 (by decide) (by omega) (fun c71 => ?_) (fun c71 => ?_)) | refine Rp.if_ne (tgt := 125) dX12_positiveOf_71 (by decide) (fun c71 => ?_) (fun c71 => ?_)
            · skip
              first | (exfalso; omega) | exact absurd c71 (by decide) | exact absurd (by decide) c71
            · skip
              refine Rp.iload dX12_positiveOf_74 rfl ?_
              refine Rp.bipush (nI 60) dX12_positiveOf_76 (by decide) ?_
              refine Rp.callS1 M_X12_sign dX12_positiveOf_78 mo_X12_sign lk_X12_241 (Nat.le_of_ble_eq_true rfl) (Nat.le_of_ble_eq_true rfl) (s_signN (d + 8 * (8 - dep) + 5) 60) (fun v1 h1 p1 x1 => ?_)
              rw [p1.1, p1.2]
              try dsimp only [Option.toList, List.cons_append, List.nil_append, List.append]
              first | ((with_reducible show Rp _ _ _ _ (.int (nI _) :: .int (nI _) :: _) _ _); refine Rp.icmp_neN (tgt := 94) dX12_positiveOf_81 (by decide) (by omega) (fun c81 => ?_) (fun c81 => ?_)) | refine Rp.icmp_ne (tgt := 94) dX12_positiveOf_81 (by decide) (fun c81 => ?_) (fun c81 => ?_)
              · skip
                refine Rp.iload dX12_positiveOf_94 rfl ?_
                refine Rp.bipush (nI 62) dX12_positiveOf_96 (by decide) ?_
                refine Rp.callS1 M_X12_sign dX12_positiveOf_98 mo_X12_sign lk_X12_241 (Nat.le_of_ble_eq_true rfl) (Nat.le_of_ble_eq_true rfl) (s_signN (d + 8 * (8 - dep) + 5) 62) (fun v1 h1 p1 x1 => ?_)
                rw [p1.1, p1.2]
                try dsimp only [Option.toList, List.cons_append, List.nil_append, List.append]
                first | ((with_reducible show Rp _ _ _ _ (.int (nI _) :: .int (nI _) :: _) _ _); refine Rp.icmp_neN (tgt := 114) dX12_positiveOf_101 (by decide) (by omega) (fun c101 => ?_) (fun c101 => ?_)) | refine Rp.icmp_ne (tgt := 114) dX12_positiveOf_101 (by decide) (fun c101 => ?_) (fun c101 => ?_)
                · skip
                  refine Rp.lload_n dX12_positiveOf_114 rfl ?_
                  refine Rp.lload dX12_positiveOf_115 rfl ?_
                  refine Rp.lcmp dX12_positiveOf_117 ?_
                  first | ((with_reducible show Rp _ _ _ _ (.int (b2i _) :: _) _ _); refine Rp.if_neB (tgt := 125) dX12_positiveOf_118 (by decide) (fun c118 => ?_) (fun c118 => ?_)) | ((with_reducible show Rp _ _ _ _ (.int (nI _) :: _) _ _); refine Rp.if_neN (tgt := 125) dX12_positiveOf_118 (by decide) (by omega) (fun c118 => ?_) (fun c118 => ?_)) | refine Rp.if_ne (tgt := 125) dX12_positiveOf_118 (by decide) (fun c118 => ?_) (fun c118 => ?_)
                  · skip
                    refine Rp.iconst (nI 0) dX12_positiveOf_125 (by decide) ?_
                    refine Rp.zreturn dX12_positiveOf_126 rfl (by first | exact Or.inl rfl | exact Or.inr rfl | assumption) ?_
                    first | exact fin true (congrArg bZ (decide_eq_true (eq1.mp ((lcmp_0 _ _).mp c118)))) | exact fin false (congrArg bZ (decide_eq_false (fun z0 => c118 ((lcmp_0 _ _).mpr (eq1.mpr z0)))))
                  · skip
                    refine Rp.iconst (nI 1) dX12_positiveOf_121 (by decide) ?_
                    refine Rp.goto (tgt := 126) dX12_positiveOf_122 (by decide) ?_
                    refine Rp.zreturn dX12_positiveOf_126 rfl (by first | exact Or.inl rfl | exact Or.inr rfl | assumption) ?_
                    first | exact fin true (congrArg bZ (decide_eq_true (eq1.mp ((lcmp_0 _ _).mp c118)))) | exact fin false (congrArg bZ (decide_eq_false (fun z0 => c118 ((lcmp_0 _ _).mpr (eq1.mpr z0)))))
                · skip
                  first | (exfalso; omega) | exact absurd c101 (by decide) | exact absurd (by decide) c101
              · skip
                first | (exfalso; omega) | exact absurd c81 (by decide) | exact absurd (by decide) c81
    · have fin : evT live b ((D1 w 0).bind fun y => (D2 w 0).map fun z => cmO (cOp (c i1)) y z) h (B + i') (some (.int (nI 0))) (evH h (nI (B + i')) (b2i b2)) := ⟨false, b2, rfl, rfl, evCT_cmp p0 p2 hl2⟩
      cases live
      · skip
        refine Rp.iload_n dX12_positiveOf_63 rfl ?_
        first | ((with_reducible show Rp _ _ _ _ (.int (b2i _) :: _) _ _); refine Rp.if_eqB (tgt := 125) dX12_positiveOf_64 (by decide) (fun c64 => ?_) (fun c64 => ?_)) | ((with_reducible show Rp _ _ _ _ (.int (nI _) :: _) _ _); refine Rp.if_eqN (tgt := 125) dX12_positiveOf_64 (by decide) (by omega) (fun c64 => ?_) (fun c64 => ?_)) | refine Rp.if_eq (tgt := 125) dX12_positiveOf_64 (by decide) (fun c64 => ?_) (fun c64 => ?_)
        · skip
          refine Rp.iconst (nI 0) dX12_positiveOf_125 (by decide) ?_
          refine Rp.zreturn dX12_positiveOf_126 rfl (by first | exact Or.inl rfl | exact Or.inr rfl | assumption) ?_
          exact fin
        · skip
          first | (exfalso; omega) | exact absurd c64 (by decide) | exact absurd (by decide) c64
      · cases b2
        · exact absurd ⟨rfl, rfl⟩ hl2
        · skip
          refine Rp.iload_n dX12_positiveOf_63 rfl ?_
          first | ((with_reducible show Rp _ _ _ _ (.int (b2i _) :: _) _ _); refine Rp.if_eqB (tgt := 125) dX12_positiveOf_64 (by decide) (fun c64 => ?_) (fun c64 => ?_)) | ((with_reducible show Rp _ _ _ _ (.int (nI _) :: _) _ _); refine Rp.if_eqN (tgt := 125) dX12_positiveOf_64 (by decide) (by omega) (fun c64 => ?_) (fun c64 => ?_)) | refine Rp.if_eq (tgt := 125) dX12_positiveOf_64 (by decide) (fun c64 => ?_) (fun c64 => ?_)
          · skip
            first | (exfalso; omega) | exact absurd c64 (by decide) | exact absurd (by decide) c64
          · skip
            refine Rp.aload_n dX12_positiveOf_67 rfl rfl ?_
            refine Rp.getI dX12_positiveOf_68 fk_X12_292 rfl (S _ _ rfl) ?_
            first | rw [ev_b] | skip
            first | ((with_reducible show Rp _ _ _ _ (.int (b2i _) :: _) _ _); refine Rp.if_neB (tgt := 125) dX12_positiveOf_71 (by decide) (fun c71 => ?_) (fun c71 => ?_)) | ((with_reducible show Rp _ _ _ _ (.int (nI _) :: _) _ _); refine Rp.if_neN (tgt := 125) dX12_positiveOf_71 (by decide) (by omega) (fun c71 => ?_) (fun c71 => ?_)) | refine Rp.if_ne (tgt := 125) dX12_positiveOf_71 (by decide) (fun c71 => ?_) (fun c71 => ?_)
            · skip
              refine Rp.iconst (nI 0) dX12_positiveOf_125 (by decide) ?_
              refine Rp.zreturn dX12_positiveOf_126 rfl (by first | exact Or.inl rfl | exact Or.inr rfl | assumption) ?_
              exact fin
            · skip
              first | (exfalso; omega) | exact absurd c71 (by decide) | exact absurd (by decide) c71
end E6
