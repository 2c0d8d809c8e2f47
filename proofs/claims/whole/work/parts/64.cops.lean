theorem Cc_8b {ord : Bool} {tb : Nat → Int32} {L : Nat} {TL : List (Nat × Nat)} {f : Nat} (ih : CIx ord tb L TL f) (d dep i lv a : Nat) (af : Bool) (h : AH) (hd : dep ≤ 8) (h1i : 1 ≤ i) (hi : i ≤ TL.length) (hl : lv ≤ 50) (ha : a ≤ i + 35) (B : CB h ord tb L TL) (G : GS h L TL i lv a af) (hf : 12 * (TL.length - i) + 8 ≤ f + 1) (n : Nat) (hn : n < i) {o : Nat} (ho : 9 ≤ o ∧ o ≤ 10) (hi1 : i + 1 ≤ TL.length) : Rp (d + 3 * (8 - dep) + 7) M_X7_sum 57 [some (.ref 35), some (.int (nI dep)), some (.int (nI n)), some (.int (nI o))] [] h (fun r h' => r = none ∧ cQ h ord L TL a af (opL o (Prs ord (cT tb TL) (vT tb TL) f 9 dep (i + 1) lv a) a (Prs ord (cT tb TL) (vT tb TL) f 8 dep)) h') := by
  have S := B.1.1
  have R := B.1.2.1
  have hT := B.le
  have nx := t_next (d + 3 * (8 - dep) + 5) B.1 B.tl G.1 hi1
  refine Rp.aload_n dX7_sum_57 rfl rfl ?_
  refine Rp.callV0 M_X7_advance (ci := 7) dX7_sum_58 mo_X7_advance lk_X7_42 (by decide) rfl rfl (S _ _ rfl) (Nat.le_of_ble_eq_true rfl) (Nat.le_of_ble_eq_true rfl) (nx) (fun v1 h1 p1 x1 => ?_)
  obtain ⟨rfl, F, T1⟩ := p1
  try dsimp only [Option.toList, List.cons_append, List.nil_append, List.append]
  skip
  have S1 := F.S S
  have R1 := F.R R (by decide)
  have G1 := G.av F T1
  have q1 := ih 9 d dep (i + 1) lv a af h1 (by decide) hd (by omega) hi1 hl (by show _ + 0 ≤ _; omega) (B.fr F.av) G1 (by show _ + 2 ≤ f; omega)
  have o1 := Prs_ok (ord := ord) (v := vT tb TL) (cT_end tb TL) f 9 dep (i + 1) lv a (by decide) hi1 hl
  refine Rp.aload_n dX7_sum_61 rfl rfl ?_
  refine Rp.iload_n dX7_sum_62 rfl ?_
  refine Rp.callV1 M_X7_term (ci := 7) dX7_sum_63 mo_X7_term lk_X7_133 (by decide) rfl rfl (S1 _ _ rfl) (Nat.le_of_ble_eq_true rfl) (Nat.le_of_ble_eq_true rfl) (q1) (fun v1 h1 p1 x1 => ?_)
  obtain ⟨rfl, p1⟩ := p1
  try dsimp only [Option.toList, List.cons_append, List.nil_append, List.append]
  skip
  generalize Prs ord (cT tb TL) (vT tb TL) f 9 dep (i + 1) lv a = x at p1 o1 ⊢
  have S2 := p1.1.S S1
  have R2 := p1.1.R R1 (by decide)
  rcases cQ_cases B.1.2.2.1 B.2.2 o1 p1 with ⟨e2, rfl, hb, m, hm, hz⟩ | ⟨i1, lv1, cd, D, rfl, g1, g2, g3, g4, g5⟩
  · skip
    refine Rp.aload_n dX7_sum_66 rfl rfl ?_
    refine Rp.getR dX7_sum_67 fk_X7_18 rfl (S2 _ _ rfl) (R2 _ _ _ rfl) ?_
    refine Rp.iload_n dX7_sum_70 rfl ?_
    refine Rp.iconst (nI 0) dX7_sum_71 (by decide) ?_
    refine Rp.callV2 M_X9_emit (ci := 9) dX7_sum_72 mo_X9_emit lk_X7_98 (by decide) rfl rfl (S2 _ _ rfl) (Nat.le_of_ble_eq_true rfl) (Nat.le_of_ble_eq_true rfl) (bad_emit (d + 3 * (8 - dep) + 6) S2 R2 hm hz) (fun v1 h1 p1 x1 => ?_)
    obtain ⟨p2, p3, p4, x, rfl⟩ := p1
    try dsimp only [Option.toList, List.cons_append, List.nil_append, List.append]
    refine Rp.pop dX7_sum_75 rfl ?_
    first | ((with_reducible show Rp _ _ _ (_ :: _ :: some (.int (nI _)) :: _) _ _ _); refine Rp.inc2N (c := 1) dX7_sum_76 (by first | exact nl2_some rfl | exact nl2_none) (by decide) ?_) | refine Rp.inc2 _ dX7_sum_76 rfl (by first | exact nl2_some rfl | exact nl2_none) (by decide) ?_
    refine Rp.goto (tgt := 7) dX7_sum_79 (by decide) ?_
    skip
    exact Rp.mono (fun r h' p => ⟨p.1, cQ_pre_err F.av (cQ_bad_end (a' := a) (af' := af) p1 ⟨p2.trans p.2.1, p.2.2.1.trans p3, p.2.2.2⟩)⟩) (bad_sum7c (d + 3 * (8 - dep) + 7) (p2.S S2) (by rw [p3]; exact hb) p4 _ (by omega) _)
  · have g3 := g3 rfl
    have e0 : slM 9 = 0 := rfl
    have em := t_emit (d + 3 * (8 - dep) + 6) S2 R2 (o := o) (v := 0) (a := a + cd.length) (by omega) (by decide) (by omega) p1.2.1.2.2.2.1
    have pj := cQ_emit (o := o) (D' := D) (by omega) p1
    have Gj := pj.2.1
    rw [GS_op (by omega)] at Gj
    refine Rp.aload_n dX7_sum_66 rfl rfl ?_
    refine Rp.getR dX7_sum_67 fk_X7_18 rfl (S2 _ _ rfl) (R2 _ _ _ rfl) ?_
    refine Rp.iload_n dX7_sum_70 rfl ?_
    refine Rp.iconst (nI 0) dX7_sum_71 (by decide) ?_
    refine Rp.callV2 M_X9_emit (ci := 9) dX7_sum_72 mo_X9_emit lk_X7_98 (by decide) rfl rfl (S2 _ _ rfl) (Nat.le_of_ble_eq_true rfl) (Nat.le_of_ble_eq_true rfl) (em) (fun v1 h1 p1 x1 => ?_)
    obtain ⟨rfl, rfl⟩ := p1
    try dsimp only [Option.toList, List.cons_append, List.nil_append, List.append]
    refine Rp.pop dX7_sum_75 rfl ?_
    first | ((with_reducible show Rp _ _ _ (_ :: _ :: some (.int (nI _)) :: _) _ _ _); refine Rp.inc2N (c := 1) dX7_sum_76 (by first | exact nl2_some rfl | exact nl2_none) (by decide) ?_) | refine Rp.inc2 _ dX7_sum_76 rfl (by first | exact nl2_some rfl | exact nl2_none) (by decide) ?_
    refine Rp.goto (tgt := 7) dX7_sum_79 (by decide) ?_
    skip
    exact Rp.mono (fun r h' p => ⟨p.1, cQ_av F (fun j => F.I 39 j rfl) (cQ_op (by omega) pj p.2)⟩) (ih 8 d dep i1 lv1 (a + cd.length + 1) _ _ (by decide) hd (by omega) g2 g4 (by show _ + 0 ≤ _; omega) ((B.fr F.av).fr pj.1) Gj (by show _ + 8 ≤ f; omega) (n + 1) _ (by omega))

theorem Cc_10b {ord : Bool} {tb : Nat → Int32} {L : Nat} {TL : List (Nat × Nat)} {f : Nat} (ih : CIx ord tb L TL f) (d dep i lv a : Nat) (af : Bool) (h : AH) (hd : dep ≤ 8) (h1i : 1 ≤ i) (hi : i ≤ TL.length) (hl : lv ≤ 50) (ha : a ≤ i + 35) (B : CB h ord tb L TL) (G : GS h L TL i lv a af) (hf : 12 * (TL.length - i) + 8 ≤ f + 1) (n : Nat) (hn : n < i) {o : Nat} (ho : 11 ≤ o ∧ o ≤ 13) (hi1 : i + 1 ≤ TL.length) : Rp (d + 3 * (8 - dep) + 6) M_X7_term 79 [some (.ref 35), some (.int (nI dep)), some (.int (nI n)), some (.int (nI o))] [] h (fun r h' => r = none ∧ cQ h ord L TL a af (opL o (Prs ord (cT tb TL) (vT tb TL) f 11 dep (i + 1) lv a) a (Prs ord (cT tb TL) (vT tb TL) f 10 dep)) h') := by
  have S := B.1.1
  have R := B.1.2.1
  have hT := B.le
  have nx := t_next (d + 3 * (8 - dep) + 4) B.1 B.tl G.1 hi1
  refine Rp.aload_n dX7_term_79 rfl rfl ?_
  refine Rp.callV0 M_X7_advance (ci := 7) dX7_term_80 mo_X7_advance lk_X7_42 (by decide) rfl rfl (S _ _ rfl) (Nat.le_of_ble_eq_true rfl) (Nat.le_of_ble_eq_true rfl) (nx) (fun v1 h1 p1 x1 => ?_)
  obtain ⟨rfl, F, T1⟩ := p1
  try dsimp only [Option.toList, List.cons_append, List.nil_append, List.append]
  skip
  have S1 := F.S S
  have R1 := F.R R (by decide)
  have G1 := G.av F T1
  have q1 := ih 11 d dep (i + 1) lv a af h1 (by decide) hd (by omega) hi1 hl (by show _ + 0 ≤ _; omega) (B.fr F.av) G1 (by show _ + 1 ≤ f; omega)
  have o1 := Prs_ok (ord := ord) (v := vT tb TL) (cT_end tb TL) f 11 dep (i + 1) lv a (by decide) hi1 hl
  refine Rp.aload_n dX7_term_83 rfl rfl ?_
  refine Rp.iload_n dX7_term_84 rfl ?_
  refine Rp.callV1 M_X7_part (ci := 7) dX7_term_85 mo_X7_part lk_X7_136 (by decide) rfl rfl (S1 _ _ rfl) (Nat.le_of_ble_eq_true rfl) (Nat.le_of_ble_eq_true rfl) (q1) (fun v1 h1 p1 x1 => ?_)
  obtain ⟨rfl, p1⟩ := p1
  try dsimp only [Option.toList, List.cons_append, List.nil_append, List.append]
  skip
  generalize Prs ord (cT tb TL) (vT tb TL) f 11 dep (i + 1) lv a = x at p1 o1 ⊢
  have S2 := p1.1.S S1
  have R2 := p1.1.R R1 (by decide)
  rcases cQ_cases B.1.2.2.1 B.2.2 o1 p1 with ⟨e2, rfl, hb, m, hm, hz⟩ | ⟨i1, lv1, cd, D, rfl, g1, g2, g3, g4, g5⟩
  · skip
    refine Rp.aload_n dX7_term_88 rfl rfl ?_
    refine Rp.getR dX7_term_89 fk_X7_18 rfl (S2 _ _ rfl) (R2 _ _ _ rfl) ?_
    refine Rp.iload_n dX7_term_92 rfl ?_
    refine Rp.iconst (nI 0) dX7_term_93 (by decide) ?_
    refine Rp.callV2 M_X9_emit (ci := 9) dX7_term_94 mo_X9_emit lk_X7_98 (by decide) rfl rfl (S2 _ _ rfl) (Nat.le_of_ble_eq_true rfl) (Nat.le_of_ble_eq_true rfl) (bad_emit (d + 3 * (8 - dep) + 5) S2 R2 hm hz) (fun v1 h1 p1 x1 => ?_)
    obtain ⟨p2, p3, p4, x, rfl⟩ := p1
    try dsimp only [Option.toList, List.cons_append, List.nil_append, List.append]
    refine Rp.pop dX7_term_97 rfl ?_
    first | ((with_reducible show Rp _ _ _ (_ :: _ :: some (.int (nI _)) :: _) _ _ _); refine Rp.inc2N (c := 1) dX7_term_98 (by first | exact nl2_some rfl | exact nl2_none) (by decide) ?_) | refine Rp.inc2 _ dX7_term_98 rfl (by first | exact nl2_some rfl | exact nl2_none) (by decide) ?_
    refine Rp.goto (tgt := 7) dX7_term_101 (by decide) ?_
    skip
    exact Rp.mono (fun r h' p => ⟨p.1, cQ_pre_err F.av (cQ_bad_end (a' := a) (af' := af) p1 ⟨p2.trans p.2.1, p.2.2.1.trans p3, p.2.2.2⟩)⟩) (bad_term7c (d + 3 * (8 - dep) + 6) (p2.S S2) (by rw [p3]; exact hb) p4 _ (by omega) _)
  · have g3 := g3 rfl
    have e0 : slM 11 = 0 := rfl
    have em := t_emit (d + 3 * (8 - dep) + 5) S2 R2 (o := o) (v := 0) (a := a + cd.length) (by omega) (by decide) (by omega) p1.2.1.2.2.2.1
    have pj := cQ_emit (o := o) (D' := D) (by omega) p1
    have Gj := pj.2.1
    rw [GS_op (by omega)] at Gj
    refine Rp.aload_n dX7_term_88 rfl rfl ?_
    refine Rp.getR dX7_term_89 fk_X7_18 rfl (S2 _ _ rfl) (R2 _ _ _ rfl) ?_
    refine Rp.iload_n dX7_term_92 rfl ?_
    refine Rp.iconst (nI 0) dX7_term_93 (by decide) ?_
    refine Rp.callV2 M_X9_emit (ci := 9) dX7_term_94 mo_X9_emit lk_X7_98 (by decide) rfl rfl (S2 _ _ rfl) (Nat.le_of_ble_eq_true rfl) (Nat.le_of_ble_eq_true rfl) (em) (fun v1 h1 p1 x1 => ?_)
    obtain ⟨rfl, rfl⟩ := p1
    try dsimp only [Option.toList, List.cons_append, List.nil_append, List.append]
    refine Rp.pop dX7_term_97 rfl ?_
    first | ((with_reducible show Rp _ _ _ (_ :: _ :: some (.int (nI _)) :: _) _ _ _); refine Rp.inc2N (c := 1) dX7_term_98 (by first | exact nl2_some rfl | exact nl2_none) (by decide) ?_) | refine Rp.inc2 _ dX7_term_98 rfl (by first | exact nl2_some rfl | exact nl2_none) (by decide) ?_
    refine Rp.goto (tgt := 7) dX7_term_101 (by decide) ?_
    skip
    exact Rp.mono (fun r h' p => ⟨p.1, cQ_av F (fun j => F.I 39 j rfl) (cQ_op (by omega) pj p.2)⟩) (ih 10 d dep i1 lv1 (a + cd.length + 1) _ _ (by decide) hd (by omega) g2 g4 (by show _ + 0 ≤ _; omega) ((B.fr F.av).fr pj.1) Gj (by show _ + 8 ≤ f; omega) (n + 1) _ (by omega))

theorem Cc_8 {ord : Bool} {tb : Nat → Int32} {L : Nat} {TL : List (Nat × Nat)} {f : Nat} (ih : CIx ord tb L TL f) (d dep i lv a : Nat) (af : Bool) (h : AH) (hd : dep ≤ 8) (h1i : 1 ≤ i) (hi : i ≤ TL.length) (hl : lv ≤ 50) (ha : a ≤ i + 35) (B : CB h ord tb L TL) (G : GS h L TL i lv a af) (hf : 12 * (TL.length - i) + 8 ≤ f + 1) (n : Nat) (a3 : Option Value) (hn : n < i) : Rp (d + 3 * (8 - dep) + 7) M_X7_sum 7 [some (.ref 35), some (.int (nI dep)), some (.int (nI n)), a3] [] h (fun r h' => r = none ∧ cQ h ord L TL a af (if sOp (cT tb TL i) = 0 then .ok (i, lv, [], fun _ x => some x) else opL (sOp (cT tb TL i)) (Prs ord (cT tb TL) (vT tb TL) f 9 dep (i + 1) lv a) a (Prs ord (cT tb TL) (vT tb TL) f 8 dep)) h') := by
  have S := B.1.1
  have R := B.1.2.1
  have hT := B.le
  have hf3 := G.2.2.1
  have sg43 := TS_sign G.1 (s := 43) (by decide) (by decide) (by decide)
  rw [B.2.1] at sg43
  have sg45 := TS_sign G.1 (s := 45) (by decide) (by decide) (by decide)
  rw [B.2.1] at sg45
  by_cases e1 : cT tb TL i = 143
  · have hi1 : i + 1 ≤ TL.length := cT_len (tb := tb) (by rw [e1]; decide)
    rw [e1, if_neg (by decide), show sOp 143 = 9 from rfl]
    have k1 := Cc_8b ih d dep i lv a af h hd h1i hi hl ha B G hf n hn (o := 9) (by decide) hi1
    have y := sg43.mpr e1
    refine Rp.iload_n dX7_sum_7 rfl ?_
    refine Rp.sipush (nI 400) dX7_sum_8 (by decide) ?_
    first | ((with_reducible show Rp _ _ _ _ (.int (nI _) :: .int (nI _) :: _) _ _); refine Rp.icmp_geN (tgt := 82) dX7_sum_11 (by decide) (by omega) (fun c11 => ?_) (fun c11 => ?_)) | refine Rp.icmp_ge (tgt := 82) dX7_sum_11 (by decide) (fun c11 => ?_) (fun c11 => ?_)
    · skip
      first | (exfalso; omega) | exact absurd c11 (by decide) | exact absurd (by decide) c11
    · skip
      refine Rp.aload_n dX7_sum_14 rfl rfl ?_
      refine Rp.getI dX7_sum_15 fk_X7_22 rfl (S _ _ rfl) ?_
      first | rw [hf3] | skip
      refine Rp.iconst (-1) dX7_sum_18 (by decide) ?_
      first | ((with_reducible show Rp _ _ _ _ (.int (nI _) :: .int (nI _) :: _) _ _); refine Rp.icmp_neN (tgt := 82) dX7_sum_19 (by decide) (by omega) (fun c19 => ?_) (fun c19 => ?_)) | refine Rp.icmp_ne (tgt := 82) dX7_sum_19 (by decide) (fun c19 => ?_) (fun c19 => ?_)
      · skip
        first | (exfalso; omega) | exact absurd c19 (by decide) | exact absurd (by decide) c19
      · skip
        refine Rp.aload_n dX7_sum_22 rfl rfl ?_
        refine Rp.getI dX7_sum_23 fk_X7_48 rfl (S _ _ rfl) ?_
        first | rw [hf3] | skip
        refine Rp.bipush (nI 43) dX7_sum_26 (by decide) ?_
        first | ((with_reducible show Rp _ _ _ _ (.int (nI _) :: .int (nI _) :: _) _ _); refine Rp.icmp_eqN (tgt := 40) dX7_sum_28 (by decide) (by omega) (fun c28 => ?_) (fun c28 => ?_)) | refine Rp.icmp_eq (tgt := 40) dX7_sum_28 (by decide) (fun c28 => ?_) (fun c28 => ?_)
        · skip
          refine Rp.aload_n dX7_sum_40 rfl rfl ?_
          refine Rp.getI dX7_sum_41 fk_X7_48 rfl (S _ _ rfl) ?_
          first | rw [hf3] | skip
          refine Rp.bipush (nI 43) dX7_sum_44 (by decide) ?_
          first | ((with_reducible show Rp _ _ _ _ (.int (nI _) :: .int (nI _) :: _) _ _); refine Rp.icmp_neN (tgt := 54) dX7_sum_46 (by decide) (by omega) (fun c46 => ?_) (fun c46 => ?_)) | refine Rp.icmp_ne (tgt := 54) dX7_sum_46 (by decide) (fun c46 => ?_) (fun c46 => ?_)
          · skip
            exact absurd y c46
          · skip
            refine Rp.bipush (nI 9) dX7_sum_49 (by decide) ?_
            refine Rp.goto (tgt := 56) dX7_sum_51 (by decide) ?_
            refine Rp.ist3 dX7_sum_56 (by first | exact nl2_some rfl | exact nl2_none) (by decide) ?_
            exact k1
        · skip
          exact absurd y c28
  · by_cases e2 : cT tb TL i = 145
    · have hi1 : i + 1 ≤ TL.length := cT_len (tb := tb) (by rw [e2]; decide)
      rw [e2, if_neg (by decide), show sOp 145 = 10 from rfl]
      have k1 := Cc_8b ih d dep i lv a af h hd h1i hi hl ha B G hf n hn (o := 10) (by decide) hi1
      have y := sg45.mpr e2
      have z : ¬ gI h 35 7 = nI 43 := fun z => e1 (sg43.mp z)
      refine Rp.iload_n dX7_sum_7 rfl ?_
      refine Rp.sipush (nI 400) dX7_sum_8 (by decide) ?_
      first | ((with_reducible show Rp _ _ _ _ (.int (nI _) :: .int (nI _) :: _) _ _); refine Rp.icmp_geN (tgt := 82) dX7_sum_11 (by decide) (by omega) (fun c11 => ?_) (fun c11 => ?_)) | refine Rp.icmp_ge (tgt := 82) dX7_sum_11 (by decide) (fun c11 => ?_) (fun c11 => ?_)
      · skip
        first | (exfalso; omega) | exact absurd c11 (by decide) | exact absurd (by decide) c11
      · skip
        refine Rp.aload_n dX7_sum_14 rfl rfl ?_
        refine Rp.getI dX7_sum_15 fk_X7_22 rfl (S _ _ rfl) ?_
        first | rw [hf3] | skip
        refine Rp.iconst (-1) dX7_sum_18 (by decide) ?_
        first | ((with_reducible show Rp _ _ _ _ (.int (nI _) :: .int (nI _) :: _) _ _); refine Rp.icmp_neN (tgt := 82) dX7_sum_19 (by decide) (by omega) (fun c19 => ?_) (fun c19 => ?_)) | refine Rp.icmp_ne (tgt := 82) dX7_sum_19 (by decide) (fun c19 => ?_) (fun c19 => ?_)
        · skip
          first | (exfalso; omega) | exact absurd c19 (by decide) | exact absurd (by decide) c19
        · skip
          refine Rp.aload_n dX7_sum_22 rfl rfl ?_
          refine Rp.getI dX7_sum_23 fk_X7_48 rfl (S _ _ rfl) ?_
          first | rw [hf3] | skip
          refine Rp.bipush (nI 43) dX7_sum_26 (by decide) ?_
          first | ((with_reducible show Rp _ _ _ _ (.int (nI _) :: .int (nI _) :: _) _ _); refine Rp.icmp_eqN (tgt := 40) dX7_sum_28 (by decide) (by omega) (fun c28 => ?_) (fun c28 => ?_)) | refine Rp.icmp_eq (tgt := 40) dX7_sum_28 (by decide) (fun c28 => ?_) (fun c28 => ?_)
          · skip
            exact absurd c28 z
          · skip
            refine Rp.aload_n dX7_sum_31 rfl rfl ?_
            refine Rp.getI dX7_sum_32 fk_X7_48 rfl (S _ _ rfl) ?_
            first | rw [hf3] | skip
            refine Rp.bipush (nI 45) dX7_sum_35 (by decide) ?_
            first | ((with_reducible show Rp _ _ _ _ (.int (nI _) :: .int (nI _) :: _) _ _); refine Rp.icmp_neN (tgt := 82) dX7_sum_37 (by decide) (by omega) (fun c37 => ?_) (fun c37 => ?_)) | refine Rp.icmp_ne (tgt := 82) dX7_sum_37 (by decide) (fun c37 => ?_) (fun c37 => ?_)
            · skip
              exact absurd y c37
            · skip
              refine Rp.aload_n dX7_sum_40 rfl rfl ?_
              refine Rp.getI dX7_sum_41 fk_X7_48 rfl (S _ _ rfl) ?_
              first | rw [hf3] | skip
              refine Rp.bipush (nI 43) dX7_sum_44 (by decide) ?_
              first | ((with_reducible show Rp _ _ _ _ (.int (nI _) :: .int (nI _) :: _) _ _); refine Rp.icmp_neN (tgt := 54) dX7_sum_46 (by decide) (by omega) (fun c46 => ?_) (fun c46 => ?_)) | refine Rp.icmp_ne (tgt := 54) dX7_sum_46 (by decide) (fun c46 => ?_) (fun c46 => ?_)
              · skip
                refine Rp.bipush (nI 10) dX7_sum_54 (by decide) ?_
                refine Rp.ist3 dX7_sum_56 (by first | exact nl2_some rfl | exact nl2_none) (by decide) ?_
                exact k1
              · skip
                exact absurd c46 z
    · rw [if_pos (by unfold sOp; rw [if_neg e1, if_neg e2])]
      have z : ¬ gI h 35 7 = nI 43 := fun z => e1 (sg43.mp z)
      have z2 : ¬ gI h 35 7 = nI 45 := fun z => e2 (sg45.mp z)
      refine Rp.iload_n dX7_sum_7 rfl ?_
      refine Rp.sipush (nI 400) dX7_sum_8 (by decide) ?_
      first | ((with_reducible show Rp _ _ _ _ (.int (nI _) :: .int (nI _) :: _) _ _); refine Rp.icmp_geN (tgt := 82) dX7_sum_11 (by decide) (by omega) (fun c11 => ?_) (fun c11 => ?_)) | refine Rp.icmp_ge (tgt := 82) dX7_sum_11 (by decide) (fun c11 => ?_) (fun c11 => ?_)
      · skip
        first | (exfalso; omega) | exact absurd c11 (by decide) | exact absurd (by decide) c11
      · skip
        refine Rp.aload_n dX7_sum_14 rfl rfl ?_
        refine Rp.getI dX7_sum_15 fk_X7_22 rfl (S _ _ rfl) ?_
        first | rw [hf3] | skip
        refine Rp.iconst (-1) dX7_sum_18 (by decide) ?_
        first | ((with_reducible show Rp _ _ _ _ (.int (nI _) :: .int (nI _) :: _) _ _); refine Rp.icmp_neN (tgt := 82) dX7_sum_19 (by decide) (by omega) (fun c19 => ?_) (fun c19 => ?_)) | refine Rp.icmp_ne (tgt := 82) dX7_sum_19 (by decide) (fun c19 => ?_) (fun c19 => ?_)
        · skip
          first | (exfalso; omega) | exact absurd c19 (by decide) | exact absurd (by decide) c19
        · skip
          refine Rp.aload_n dX7_sum_22 rfl rfl ?_
          refine Rp.getI dX7_sum_23 fk_X7_48 rfl (S _ _ rfl) ?_
          first | rw [hf3] | skip
          refine Rp.bipush (nI 43) dX7_sum_26 (by decide) ?_
          first | ((with_reducible show Rp _ _ _ _ (.int (nI _) :: .int (nI _) :: _) _ _); refine Rp.icmp_eqN (tgt := 40) dX7_sum_28 (by decide) (by omega) (fun c28 => ?_) (fun c28 => ?_)) | refine Rp.icmp_eq (tgt := 40) dX7_sum_28 (by decide) (fun c28 => ?_) (fun c28 => ?_)
          · skip
            exact absurd c28 z
          · skip
            refine Rp.aload_n dX7_sum_31 rfl rfl ?_
            refine Rp.getI dX7_sum_32 fk_X7_48 rfl (S _ _ rfl) ?_
            first | rw [hf3] | skip
            refine Rp.bipush (nI 45) dX7_sum_35 (by decide) ?_
            first | ((with_reducible show Rp _ _ _ _ (.int (nI _) :: .int (nI _) :: _) _ _); refine Rp.icmp_neN (tgt := 82) dX7_sum_37 (by decide) (by omega) (fun c37 => ?_) (fun c37 => ?_)) | refine Rp.icmp_ne (tgt := 82) dX7_sum_37 (by decide) (fun c37 => ?_) (fun c37 => ?_)
            · skip
              refine Rp.vreturn dX7_sum_82 rfl ?_
              exact ⟨rfl, cQ_nil G⟩
            · skip
              exact absurd c37 z2

theorem Cc_10 {ord : Bool} {tb : Nat → Int32} {L : Nat} {TL : List (Nat × Nat)} {f : Nat} (ih : CIx ord tb L TL f) (d dep i lv a : Nat) (af : Bool) (h : AH) (hd : dep ≤ 8) (h1i : 1 ≤ i) (hi : i ≤ TL.length) (hl : lv ≤ 50) (ha : a ≤ i + 35) (B : CB h ord tb L TL) (G : GS h L TL i lv a af) (hf : 12 * (TL.length - i) + 8 ≤ f + 1) (n : Nat) (a3 : Option Value) (hn : n < i) : Rp (d + 3 * (8 - dep) + 6) M_X7_term 7 [some (.ref 35), some (.int (nI dep)), some (.int (nI n)), a3] [] h (fun r h' => r = none ∧ cQ h ord L TL a af (if tOp (cT tb TL i) = 0 then .ok (i, lv, [], fun _ x => some x) else opL (tOp (cT tb TL i)) (Prs ord (cT tb TL) (vT tb TL) f 11 dep (i + 1) lv a) a (Prs ord (cT tb TL) (vT tb TL) f 10 dep)) h') := by
  have S := B.1.1
  have R := B.1.2.1
  have hT := B.le
  have hf3 := G.2.2.1
  have sg42 := TS_sign G.1 (s := 42) (by decide) (by decide) (by decide)
  rw [B.2.1] at sg42
  have sg47 := TS_sign G.1 (s := 47) (by decide) (by decide) (by decide)
  rw [B.2.1] at sg47
  have sg37 := TS_sign G.1 (s := 37) (by decide) (by decide) (by decide)
  rw [B.2.1] at sg37
  by_cases e1 : cT tb TL i = 142
  · have hi1 : i + 1 ≤ TL.length := cT_len (tb := tb) (by rw [e1]; decide)
    rw [e1, if_neg (by decide), show tOp 142 = 11 from rfl]
    have k1 := Cc_10b ih d dep i lv a af h hd h1i hi hl ha B G hf n hn (o := 11) (by decide) hi1
    have y := sg42.mpr e1
    have z2 : ¬ gI h 35 7 = nI 47 := fun z => by have := sg47.mp z; omega
    have z3 : ¬ gI h 35 7 = nI 37 := fun z => by have := sg37.mp z; omega
    refine Rp.iload_n dX7_term_7 rfl ?_
    refine Rp.sipush (nI 400) dX7_term_8 (by decide) ?_
    first | ((with_reducible show Rp _ _ _ _ (.int (nI _) :: .int (nI _) :: _) _ _); refine Rp.icmp_geN (tgt := 104) dX7_term_11 (by decide) (by omega) (fun c11 => ?_) (fun c11 => ?_)) | refine Rp.icmp_ge (tgt := 104) dX7_term_11 (by decide) (fun c11 => ?_) (fun c11 => ?_)
    · skip
      first | (exfalso; omega) | exact absurd c11 (by decide) | exact absurd (by decide) c11
    · skip
      refine Rp.aload_n dX7_term_14 rfl rfl ?_
      refine Rp.getI dX7_term_15 fk_X7_22 rfl (S _ _ rfl) ?_
      first | rw [hf3] | skip
      refine Rp.iconst (-1) dX7_term_18 (by decide) ?_
      first | ((with_reducible show Rp _ _ _ _ (.int (nI _) :: .int (nI _) :: _) _ _); refine Rp.icmp_neN (tgt := 104) dX7_term_19 (by decide) (by omega) (fun c19 => ?_) (fun c19 => ?_)) | refine Rp.icmp_ne (tgt := 104) dX7_term_19 (by decide) (fun c19 => ?_) (fun c19 => ?_)
      · skip
        first | (exfalso; omega) | exact absurd c19 (by decide) | exact absurd (by decide) c19
      · skip
        refine Rp.aload_n dX7_term_22 rfl rfl ?_
        refine Rp.getI dX7_term_23 fk_X7_48 rfl (S _ _ rfl) ?_
        first | rw [hf3] | skip
        refine Rp.bipush (nI 42) dX7_term_26 (by decide) ?_
        first | ((with_reducible show Rp _ _ _ _ (.int (nI _) :: .int (nI _) :: _) _ _); refine Rp.icmp_eqN (tgt := 49) dX7_term_28 (by decide) (by omega) (fun c28 => ?_) (fun c28 => ?_)) | refine Rp.icmp_eq (tgt := 49) dX7_term_28 (by decide) (fun c28 => ?_) (fun c28 => ?_)
        · skip
          refine Rp.bipush (nI 11) dX7_term_49 (by decide) ?_
          refine Rp.ist3 dX7_term_51 (by first | exact nl2_some rfl | exact nl2_none) (by decide) ?_
          refine Rp.aload_n dX7_term_52 rfl rfl ?_
          refine Rp.getI dX7_term_53 fk_X7_48 rfl (S _ _ rfl) ?_
          first | rw [hf3] | skip
          refine Rp.bipush (nI 47) dX7_term_56 (by decide) ?_
          first | ((with_reducible show Rp _ _ _ _ (.int (nI _) :: .int (nI _) :: _) _ _); refine Rp.icmp_neN (tgt := 67) dX7_term_58 (by decide) (by omega) (fun c58 => ?_) (fun c58 => ?_)) | refine Rp.icmp_ne (tgt := 67) dX7_term_58 (by decide) (fun c58 => ?_) (fun c58 => ?_)
          · skip
            refine Rp.aload_n dX7_term_67 rfl rfl ?_
            refine Rp.getI dX7_term_68 fk_X7_48 rfl (S _ _ rfl) ?_
            first | rw [hf3] | skip
            refine Rp.bipush (nI 37) dX7_term_71 (by decide) ?_
            first | ((with_reducible show Rp _ _ _ _ (.int (nI _) :: .int (nI _) :: _) _ _); refine Rp.icmp_neN (tgt := 79) dX7_term_73 (by decide) (by omega) (fun c73 => ?_) (fun c73 => ?_)) | refine Rp.icmp_ne (tgt := 79) dX7_term_73 (by decide) (fun c73 => ?_) (fun c73 => ?_)
            · skip
              exact k1
            · skip
              exact absurd c73 z3
          · skip
            exact absurd c58 z2
        · skip
          exact absurd y c28
  · have z1 : ¬ gI h 35 7 = nI 42 := fun z => e1 (sg42.mp z)
    by_cases e2 : cT tb TL i = 147
    · have hi1 : i + 1 ≤ TL.length := cT_len (tb := tb) (by rw [e2]; decide)
      rw [e2, if_neg (by decide), show tOp 147 = 12 from rfl]
      have k1 := Cc_10b ih d dep i lv a af h hd h1i hi hl ha B G hf n hn (o := 12) (by decide) hi1
      have y := sg47.mpr e2
      refine Rp.iload_n dX7_term_7 rfl ?_
      refine Rp.sipush (nI 400) dX7_term_8 (by decide) ?_
      first | ((with_reducible show Rp _ _ _ _ (.int (nI _) :: .int (nI _) :: _) _ _); refine Rp.icmp_geN (tgt := 104) dX7_term_11 (by decide) (by omega) (fun c11 => ?_) (fun c11 => ?_)) | refine Rp.icmp_ge (tgt := 104) dX7_term_11 (by decide) (fun c11 => ?_) (fun c11 => ?_)
      · skip
        first | (exfalso; omega) | exact absurd c11 (by decide) | exact absurd (by decide) c11
      · skip
        refine Rp.aload_n dX7_term_14 rfl rfl ?_
        refine Rp.getI dX7_term_15 fk_X7_22 rfl (S _ _ rfl) ?_
        first | rw [hf3] | skip
        refine Rp.iconst (-1) dX7_term_18 (by decide) ?_
        first | ((with_reducible show Rp _ _ _ _ (.int (nI _) :: .int (nI _) :: _) _ _); refine Rp.icmp_neN (tgt := 104) dX7_term_19 (by decide) (by omega) (fun c19 => ?_) (fun c19 => ?_)) | refine Rp.icmp_ne (tgt := 104) dX7_term_19 (by decide) (fun c19 => ?_) (fun c19 => ?_)
        · skip
          first | (exfalso; omega) | exact absurd c19 (by decide) | exact absurd (by decide) c19
        · skip
          refine Rp.aload_n dX7_term_22 rfl rfl ?_
          refine Rp.getI dX7_term_23 fk_X7_48 rfl (S _ _ rfl) ?_
          first | rw [hf3] | skip
          refine Rp.bipush (nI 42) dX7_term_26 (by decide) ?_
          first | ((with_reducible show Rp _ _ _ _ (.int (nI _) :: .int (nI _) :: _) _ _); refine Rp.icmp_eqN (tgt := 49) dX7_term_28 (by decide) (by omega) (fun c28 => ?_) (fun c28 => ?_)) | refine Rp.icmp_eq (tgt := 49) dX7_term_28 (by decide) (fun c28 => ?_) (fun c28 => ?_)
          · skip
            exact absurd c28 z1
          · skip
            refine Rp.aload_n dX7_term_31 rfl rfl ?_
            refine Rp.getI dX7_term_32 fk_X7_48 rfl (S _ _ rfl) ?_
            first | rw [hf3] | skip
            refine Rp.bipush (nI 47) dX7_term_35 (by decide) ?_
            first | ((with_reducible show Rp _ _ _ _ (.int (nI _) :: .int (nI _) :: _) _ _); refine Rp.icmp_eqN (tgt := 49) dX7_term_37 (by decide) (by omega) (fun c37 => ?_) (fun c37 => ?_)) | refine Rp.icmp_eq (tgt := 49) dX7_term_37 (by decide) (fun c37 => ?_) (fun c37 => ?_)
            · skip
              refine Rp.bipush (nI 11) dX7_term_49 (by decide) ?_
              refine Rp.ist3 dX7_term_51 (by first | exact nl2_some rfl | exact nl2_none) (by decide) ?_
              refine Rp.aload_n dX7_term_52 rfl rfl ?_
              refine Rp.getI dX7_term_53 fk_X7_48 rfl (S _ _ rfl) ?_
              first | rw [hf3] | skip
              refine Rp.bipush (nI 47) dX7_term_56 (by decide) ?_
              first | ((with_reducible show Rp _ _ _ _ (.int (nI _) :: .int (nI _) :: _) _ _); refine Rp.icmp_neN (tgt := 67) dX7_term_58 (by decide) (by omega) (fun c58 => ?_) (fun c58 => ?_)) | refine Rp.icmp_ne (tgt := 67) dX7_term_58 (by decide) (fun c58 => ?_) (fun c58 => ?_)
              · skip
                exact absurd y c58
              · skip
                refine Rp.bipush (nI 12) dX7_term_61 (by decide) ?_
                refine Rp.ist3 dX7_term_63 (by first | exact nl2_some rfl | exact nl2_none) (by decide) ?_
                refine Rp.goto (tgt := 79) dX7_term_64 (by decide) ?_
                exact k1
            · skip
              exact absurd y c37
    · have z2 : ¬ gI h 35 7 = nI 47 := fun z => e2 (sg47.mp z)
      by_cases e3 : cT tb TL i = 137
      · have hi1 : i + 1 ≤ TL.length := cT_len (tb := tb) (by rw [e3]; decide)
        rw [e3, if_neg (by decide), show tOp 137 = 13 from rfl]
        have k1 := Cc_10b ih d dep i lv a af h hd h1i hi hl ha B G hf n hn (o := 13) (by decide) hi1
        have y := sg37.mpr e3
        refine Rp.iload_n dX7_term_7 rfl ?_
        refine Rp.sipush (nI 400) dX7_term_8 (by decide) ?_
        first | ((with_reducible show Rp _ _ _ _ (.int (nI _) :: .int (nI _) :: _) _ _); refine Rp.icmp_geN (tgt := 104) dX7_term_11 (by decide) (by omega) (fun c11 => ?_) (fun c11 => ?_)) | refine Rp.icmp_ge (tgt := 104) dX7_term_11 (by decide) (fun c11 => ?_) (fun c11 => ?_)
        · skip
          first | (exfalso; omega) | exact absurd c11 (by decide) | exact absurd (by decide) c11
        · skip
          refine Rp.aload_n dX7_term_14 rfl rfl ?_
          refine Rp.getI dX7_term_15 fk_X7_22 rfl (S _ _ rfl) ?_
          first | rw [hf3] | skip
          refine Rp.iconst (-1) dX7_term_18 (by decide) ?_
          first | ((with_reducible show Rp _ _ _ _ (.int (nI _) :: .int (nI _) :: _) _ _); refine Rp.icmp_neN (tgt := 104) dX7_term_19 (by decide) (by omega) (fun c19 => ?_) (fun c19 => ?_)) | refine Rp.icmp_ne (tgt := 104) dX7_term_19 (by decide) (fun c19 => ?_) (fun c19 => ?_)
          · skip
            first | (exfalso; omega) | exact absurd c19 (by decide) | exact absurd (by decide) c19
          · skip
            refine Rp.aload_n dX7_term_22 rfl rfl ?_
            refine Rp.getI dX7_term_23 fk_X7_48 rfl (S _ _ rfl) ?_
            first | rw [hf3] | skip
            refine Rp.bipush (nI 42) dX7_term_26 (by decide) ?_
            first | ((with_reducible show Rp _ _ _ _ (.int (nI _) :: .int (nI _) :: _) _ _); refine Rp.icmp_eqN (tgt := 49) dX7_term_28 (by decide) (by omega) (fun c28 => ?_) (fun c28 => ?_)) | refine Rp.icmp_eq (tgt := 49) dX7_term_28 (by decide) (fun c28 => ?_) (fun c28 => ?_)
            · skip
              exact absurd c28 z1
            · skip
              refine Rp.aload_n dX7_term_31 rfl rfl ?_
              refine Rp.getI dX7_term_32 fk_X7_48 rfl (S _ _ rfl) ?_
              first | rw [hf3] | skip
              refine Rp.bipush (nI 47) dX7_term_35 (by decide) ?_
              first | ((with_reducible show Rp _ _ _ _ (.int (nI _) :: .int (nI _) :: _) _ _); refine Rp.icmp_eqN (tgt := 49) dX7_term_37 (by decide) (by omega) (fun c37 => ?_) (fun c37 => ?_)) | refine Rp.icmp_eq (tgt := 49) dX7_term_37 (by decide) (fun c37 => ?_) (fun c37 => ?_)
              · skip
                exact absurd c37 z2
              · skip
                refine Rp.aload_n dX7_term_40 rfl rfl ?_
                refine Rp.getI dX7_term_41 fk_X7_48 rfl (S _ _ rfl) ?_
                first | rw [hf3] | skip
                refine Rp.bipush (nI 37) dX7_term_44 (by decide) ?_
                first | ((with_reducible show Rp _ _ _ _ (.int (nI _) :: .int (nI _) :: _) _ _); refine Rp.icmp_neN (tgt := 104) dX7_term_46 (by decide) (by omega) (fun c46 => ?_) (fun c46 => ?_)) | refine Rp.icmp_ne (tgt := 104) dX7_term_46 (by decide) (fun c46 => ?_) (fun c46 => ?_)
                · skip
                  exact absurd y c46
                · skip
                  refine Rp.bipush (nI 11) dX7_term_49 (by decide) ?_
                  refine Rp.ist3 dX7_term_51 (by first | exact nl2_some rfl | exact nl2_none) (by decide) ?_
                  refine Rp.aload_n dX7_term_52 rfl rfl ?_
                  refine Rp.getI dX7_term_53 fk_X7_48 rfl (S _ _ rfl) ?_
                  first | rw [hf3] | skip
                  refine Rp.bipush (nI 47) dX7_term_56 (by decide) ?_
                  first | ((with_reducible show Rp _ _ _ _ (.int (nI _) :: .int (nI _) :: _) _ _); refine Rp.icmp_neN (tgt := 67) dX7_term_58 (by decide) (by omega) (fun c58 => ?_) (fun c58 => ?_)) | refine Rp.icmp_ne (tgt := 67) dX7_term_58 (by decide) (fun c58 => ?_) (fun c58 => ?_)
                  · skip
                    refine Rp.aload_n dX7_term_67 rfl rfl ?_
                    refine Rp.getI dX7_term_68 fk_X7_48 rfl (S _ _ rfl) ?_
                    first | rw [hf3] | skip
                    refine Rp.bipush (nI 37) dX7_term_71 (by decide) ?_
                    first | ((with_reducible show Rp _ _ _ _ (.int (nI _) :: .int (nI _) :: _) _ _); refine Rp.icmp_neN (tgt := 79) dX7_term_73 (by decide) (by omega) (fun c73 => ?_) (fun c73 => ?_)) | refine Rp.icmp_ne (tgt := 79) dX7_term_73 (by decide) (fun c73 => ?_) (fun c73 => ?_)
                    · skip
                      exact absurd y c73
                    · skip
                      refine Rp.bipush (nI 13) dX7_term_76 (by decide) ?_
                      refine Rp.ist3 dX7_term_78 (by first | exact nl2_some rfl | exact nl2_none) (by decide) ?_
                      exact k1
                  · skip
                    exact absurd c58 z2
      · have z3 : ¬ gI h 35 7 = nI 37 := fun z => e3 (sg37.mp z)
        rw [if_pos (by unfold tOp; rw [if_neg e1, if_neg e2, if_neg e3])]
        refine Rp.iload_n dX7_term_7 rfl ?_
        refine Rp.sipush (nI 400) dX7_term_8 (by decide) ?_
        first | ((with_reducible show Rp _ _ _ _ (.int (nI _) :: .int (nI _) :: _) _ _); refine Rp.icmp_geN (tgt := 104) dX7_term_11 (by decide) (by omega) (fun c11 => ?_) (fun c11 => ?_)) | refine Rp.icmp_ge (tgt := 104) dX7_term_11 (by decide) (fun c11 => ?_) (fun c11 => ?_)
        · skip
          first | (exfalso; omega) | exact absurd c11 (by decide) | exact absurd (by decide) c11
        · skip
          refine Rp.aload_n dX7_term_14 rfl rfl ?_
          refine Rp.getI dX7_term_15 fk_X7_22 rfl (S _ _ rfl) ?_
          first | rw [hf3] | skip
          refine Rp.iconst (-1) dX7_term_18 (by decide) ?_
          first | ((with_reducible show Rp _ _ _ _ (.int (nI _) :: .int (nI _) :: _) _ _); refine Rp.icmp_neN (tgt := 104) dX7_term_19 (by decide) (by omega) (fun c19 => ?_) (fun c19 => ?_)) | refine Rp.icmp_ne (tgt := 104) dX7_term_19 (by decide) (fun c19 => ?_) (fun c19 => ?_)
          · skip
            first | (exfalso; omega) | exact absurd c19 (by decide) | exact absurd (by decide) c19
          · skip
            refine Rp.aload_n dX7_term_22 rfl rfl ?_
            refine Rp.getI dX7_term_23 fk_X7_48 rfl (S _ _ rfl) ?_
            first | rw [hf3] | skip
            refine Rp.bipush (nI 42) dX7_term_26 (by decide) ?_
            first | ((with_reducible show Rp _ _ _ _ (.int (nI _) :: .int (nI _) :: _) _ _); refine Rp.icmp_eqN (tgt := 49) dX7_term_28 (by decide) (by omega) (fun c28 => ?_) (fun c28 => ?_)) | refine Rp.icmp_eq (tgt := 49) dX7_term_28 (by decide) (fun c28 => ?_) (fun c28 => ?_)
            · skip
              exact absurd c28 z1
            · skip
              refine Rp.aload_n dX7_term_31 rfl rfl ?_
              refine Rp.getI dX7_term_32 fk_X7_48 rfl (S _ _ rfl) ?_
              first | rw [hf3] | skip
              refine Rp.bipush (nI 47) dX7_term_35 (by decide) ?_
              first | ((with_reducible show Rp _ _ _ _ (.int (nI _) :: .int (nI _) :: _) _ _); refine Rp.icmp_eqN (tgt := 49) dX7_term_37 (by decide) (by omega) (fun c37 => ?_) (fun c37 => ?_)) | refine Rp.icmp_eq (tgt := 49) dX7_term_37 (by decide) (fun c37 => ?_) (fun c37 => ?_)
              · skip
                exact absurd c37 z2
              · skip
                refine Rp.aload_n dX7_term_40 rfl rfl ?_
                refine Rp.getI dX7_term_41 fk_X7_48 rfl (S _ _ rfl) ?_
                first | rw [hf3] | skip
                refine Rp.bipush (nI 37) dX7_term_44 (by decide) ?_
                first | ((with_reducible show Rp _ _ _ _ (.int (nI _) :: .int (nI _) :: _) _ _); refine Rp.icmp_neN (tgt := 104) dX7_term_46 (by decide) (by omega) (fun c46 => ?_) (fun c46 => ?_)) | refine Rp.icmp_ne (tgt := 104) dX7_term_46 (by decide) (fun c46 => ?_) (fun c46 => ?_)
                · skip
                  refine Rp.vreturn dX7_term_104 rfl ?_
                  exact ⟨rfl, cQ_nil G⟩
                · skip
                  exact absurd c46 z3

theorem Cc_3 {ord : Bool} {tb : Nat → Int32} {L : Nat} {TL : List (Nat × Nat)} {f : Nat} (ih : CIx ord tb L TL f) (d dep i lv a : Nat) (af : Bool) (h : AH) (hd : dep ≤ 8) (h1i : 1 ≤ i) (hi : i ≤ TL.length) (hl : lv ≤ 50) (ha : a + 0 ≤ i + 35) (B : CB h ord tb L TL) (G : GS h L TL i lv a af) (hf : 12 * (TL.length - i) + 5 ≤ f + 1) (n : Nat) (hn : n < i) : Rp (d + 3 * (8 - dep) + 9) M_X7_plain 4 [some (.ref 35), some (.int (nI dep)), some (.int (nI 0)), some (.int (nI n))] [] h (fun r h' => r = none ∧ cQ h ord L TL a af (if cT tb TL i = 8 then Prs ord (cT tb TL) (vT tb TL) f 5 dep (i + 1) lv a else Prs ord (cT tb TL) (vT tb TL) f 6 dep i lv a) h') := by
  have S := B.1.1
  have R := B.1.2.1
  have hT := B.le
  have go := t_goes (d + 3 * (8 - dep) + 3) B.1 B.tl (k := 8) (by decide) (by decide) G.1 G.2.2.1
  rw [B.2.1] at go
  refine Rp.iload_n dX7_plain_4 rfl ?_
  refine Rp.sipush (nI 400) dX7_plain_5 (by decide) ?_
  first | ((with_reducible show Rp _ _ _ _ (.int (nI _) :: .int (nI _) :: _) _ _); refine Rp.icmp_geN (tgt := 36) dX7_plain_8 (by decide) (by omega) (fun c8 => ?_) (fun c8 => ?_)) | refine Rp.icmp_ge (tgt := 36) dX7_plain_8 (by decide) (fun c8 => ?_) (fun c8 => ?_)
  · first | (exfalso; omega) | exact absurd c8 (by decide) | exact absurd (by decide) c8
  refine Rp.aload_n dX7_plain_11 rfl rfl ?_
  refine Rp.ldcS (k := 8) dX7_plain_12 (by decide) rfl rfl ?_
  refine Rp.callV1 M_X7_goesOnWith (ci := 7) dX7_plain_14 mo_X7_goesOnWith lk_X7_76 (by decide) rfl rfl (S _ _ rfl) (Nat.le_of_ble_eq_true rfl) (Nat.le_of_ble_eq_true rfl) (go) (fun v1 h1 p1 x1 => ?_)
  skip
  try dsimp only [Option.toList, List.cons_append, List.nil_append, List.append]
  skip
  rcases p1 with ⟨e, rfl, F, T1⟩ | ⟨e, rfl, rfl⟩
  · have e : cT tb TL i = 8 := e
    rw [if_pos e]
    have hi1 : i + 1 ≤ TL.length := cT_len (tb := tb) (by rw [e]; decide)
    have S1 := F.S S
    have k1 := ih 5 d dep (i + 1) lv a af h1 (by decide) hd (by omega) hi1 hl (by show _ + 1 ≤ _; omega) (B.fr F.av) (G.av F T1) (by show _ + 5 ≤ f; omega) (n + 1) (by omega)
    dsimp only [Option.toList, List.cons_append, List.nil_append, List.append]
    first | ((with_reducible show Rp _ _ _ _ (.int (b2i _) :: _) _ _); refine Rp.if_eqB (tgt := 36) dX7_plain_17 (by decide) (fun c17 => ?_) (fun c17 => ?_)) | ((with_reducible show Rp _ _ _ _ (.int (nI _) :: _) _ _); refine Rp.if_eqN (tgt := 36) dX7_plain_17 (by decide) (by omega) (fun c17 => ?_) (fun c17 => ?_)) | refine Rp.if_eq (tgt := 36) dX7_plain_17 (by decide) (fun c17 => ?_) (fun c17 => ?_)
    · first | (exfalso; omega) | exact absurd c17 (by decide) | exact absurd (by decide) c17
    refine Rp.iload_n dX7_plain_20 rfl ?_
    first | ((with_reducible show Rp _ _ _ _ (.int (b2i _) :: _) _ _); refine Rp.if_neB (tgt := 28) dX7_plain_21 (by decide) (fun c21 => ?_) (fun c21 => ?_)) | ((with_reducible show Rp _ _ _ _ (.int (nI _) :: _) _ _); refine Rp.if_neN (tgt := 28) dX7_plain_21 (by decide) (by omega) (fun c21 => ?_) (fun c21 => ?_)) | refine Rp.if_ne (tgt := 28) dX7_plain_21 (by decide) (fun c21 => ?_) (fun c21 => ?_)
    · first | (exfalso; omega) | exact absurd c21 (by decide) | exact absurd (by decide) c21
    refine Rp.iconst (nI 1) dX7_plain_24 (by decide) ?_
    refine Rp.goto (tgt := 29) dX7_plain_25 (by decide) ?_
    refine Rp.ist2 dX7_plain_29 (by first | exact nl2_some rfl | exact nl2_none) (by decide) ?_
    first | ((with_reducible show Rp _ _ _ (_ :: _ :: _ :: some (.int (nI _)) :: _) _ _ _); refine Rp.inc3N (c := 1) dX7_plain_30 (by first | exact nl2_some rfl | exact nl2_none) (by decide) ?_) | refine Rp.inc3 _ dX7_plain_30 rfl (by first | exact nl2_some rfl | exact nl2_none) (by decide) ?_
    refine Rp.goto (tgt := 4) dX7_plain_33 (by decide) ?_
    skip
    exact Rp.mono (fun r h' p => ⟨p.1, cQ_av F (fun j => F.I 39 j rfl) p.2⟩) k1
  · rw [if_neg (show ¬ cT tb TL i = 8 from e)]
    dsimp only [Option.toList, List.cons_append, List.nil_append, List.append]
    first | ((with_reducible show Rp _ _ _ _ (.int (b2i _) :: _) _ _); refine Rp.if_eqB (tgt := 36) dX7_plain_17 (by decide) (fun c17 => ?_) (fun c17 => ?_)) | ((with_reducible show Rp _ _ _ _ (.int (nI _) :: _) _ _); refine Rp.if_eqN (tgt := 36) dX7_plain_17 (by decide) (by omega) (fun c17 => ?_) (fun c17 => ?_)) | refine Rp.if_eq (tgt := 36) dX7_plain_17 (by decide) (fun c17 => ?_) (fun c17 => ?_)
    rotate_left
    · first | (exfalso; omega) | exact absurd c17 (by decide) | exact absurd (by decide) c17
    skip
    refine ih 6 d dep i lv a af _ (by decide) hd h1i hi hl (by show _ + 0 ≤ _; omega) B G (by show _ + 4 ≤ f; omega) _ _ _ (fun h3 Q => ?_)
    have S3 := Q.1.S S
    refine Rp.iload_n dX7_plain_74 rfl ?_
    first | ((with_reducible show Rp _ _ _ _ (.int (b2i _) :: _) _ _); refine Rp.if_eqB (tgt := 88) dX7_plain_75 (by decide) (fun c75 => ?_) (fun c75 => ?_)) | ((with_reducible show Rp _ _ _ _ (.int (nI _) :: _) _ _); refine Rp.if_eqN (tgt := 88) dX7_plain_75 (by decide) (by omega) (fun c75 => ?_) (fun c75 => ?_)) | refine Rp.if_eq (tgt := 88) dX7_plain_75 (by decide) (fun c75 => ?_) (fun c75 => ?_)
    · skip
      refine Rp.vreturn dX7_plain_88 rfl ?_
      exact ⟨rfl, Q⟩
    · skip
      first | (exfalso; omega) | exact absurd c75 (by decide) | exact absurd (by decide) c75

theorem Cc_5 {ord : Bool} {tb : Nat → Int32} {L : Nat} {TL : List (Nat × Nat)} {f : Nat} (ih : CIx ord tb L TL f) (d dep i lv a : Nat) (af : Bool) (h : AH) (hd : dep ≤ 8) (h1i : 1 ≤ i) (hi : i ≤ TL.length) (hl : lv ≤ 50) (ha : a + 1 ≤ i + 35) (B : CB h ord tb L TL) (G : GS h L TL i lv a af) (hf : 12 * (TL.length - i) + 5 ≤ f + 1) (n : Nat) (hn : n < i) : Rp (d + 3 * (8 - dep) + 9) M_X7_plain 4 [some (.ref 35), some (.int (nI dep)), some (.int (nI 1)), some (.int (nI n))] [] h (fun r h' => r = none ∧ cQ h ord L TL a af (if cT tb TL i = 8 then Prs ord (cT tb TL) (vT tb TL) f 3 dep (i + 1) lv a else notL (Prs ord (cT tb TL) (vT tb TL) f 6 dep i lv a)) h') := by
  have S := B.1.1
  have R := B.1.2.1
  have hT := B.le
  have go := t_goes (d + 3 * (8 - dep) + 3) B.1 B.tl (k := 8) (by decide) (by decide) G.1 G.2.2.1
  rw [B.2.1] at go
  refine Rp.iload_n dX7_plain_4 rfl ?_
  refine Rp.sipush (nI 400) dX7_plain_5 (by decide) ?_
  first | ((with_reducible show Rp _ _ _ _ (.int (nI _) :: .int (nI _) :: _) _ _); refine Rp.icmp_geN (tgt := 36) dX7_plain_8 (by decide) (by omega) (fun c8 => ?_) (fun c8 => ?_)) | refine Rp.icmp_ge (tgt := 36) dX7_plain_8 (by decide) (fun c8 => ?_) (fun c8 => ?_)
  · first | (exfalso; omega) | exact absurd c8 (by decide) | exact absurd (by decide) c8
  refine Rp.aload_n dX7_plain_11 rfl rfl ?_
  refine Rp.ldcS (k := 8) dX7_plain_12 (by decide) rfl rfl ?_
  refine Rp.callV1 M_X7_goesOnWith (ci := 7) dX7_plain_14 mo_X7_goesOnWith lk_X7_76 (by decide) rfl rfl (S _ _ rfl) (Nat.le_of_ble_eq_true rfl) (Nat.le_of_ble_eq_true rfl) (go) (fun v1 h1 p1 x1 => ?_)
  skip
  try dsimp only [Option.toList, List.cons_append, List.nil_append, List.append]
  skip
  rcases p1 with ⟨e, rfl, F, T1⟩ | ⟨e, rfl, rfl⟩
  · have e : cT tb TL i = 8 := e
    rw [if_pos e]
    have hi1 : i + 1 ≤ TL.length := cT_len (tb := tb) (by rw [e]; decide)
    have S1 := F.S S
    have k1 := ih 3 d dep (i + 1) lv a af h1 (by decide) hd (by omega) hi1 hl (by show _ + 0 ≤ _; omega) (B.fr F.av) (G.av F T1) (by show _ + 5 ≤ f; omega) (n + 1) (by omega)
    dsimp only [Option.toList, List.cons_append, List.nil_append, List.append]
    first | ((with_reducible show Rp _ _ _ _ (.int (b2i _) :: _) _ _); refine Rp.if_eqB (tgt := 36) dX7_plain_17 (by decide) (fun c17 => ?_) (fun c17 => ?_)) | ((with_reducible show Rp _ _ _ _ (.int (nI _) :: _) _ _); refine Rp.if_eqN (tgt := 36) dX7_plain_17 (by decide) (by omega) (fun c17 => ?_) (fun c17 => ?_)) | refine Rp.if_eq (tgt := 36) dX7_plain_17 (by decide) (fun c17 => ?_) (fun c17 => ?_)
    · first | (exfalso; omega) | exact absurd c17 (by decide) | exact absurd (by decide) c17
    refine Rp.iload_n dX7_plain_20 rfl ?_
    first | ((with_reducible show Rp _ _ _ _ (.int (b2i _) :: _) _ _); refine Rp.if_neB (tgt := 28) dX7_plain_21 (by decide) (fun c21 => ?_) (fun c21 => ?_)) | ((with_reducible show Rp _ _ _ _ (.int (nI _) :: _) _ _); refine Rp.if_neN (tgt := 28) dX7_plain_21 (by decide) (by omega) (fun c21 => ?_) (fun c21 => ?_)) | refine Rp.if_ne (tgt := 28) dX7_plain_21 (by decide) (fun c21 => ?_) (fun c21 => ?_)
    rotate_left
    · first | (exfalso; omega) | exact absurd c21 (by decide) | exact absurd (by decide) c21
    refine Rp.iconst (nI 0) dX7_plain_28 (by decide) ?_
    refine Rp.ist2 dX7_plain_29 (by first | exact nl2_some rfl | exact nl2_none) (by decide) ?_
    first | ((with_reducible show Rp _ _ _ (_ :: _ :: _ :: some (.int (nI _)) :: _) _ _ _); refine Rp.inc3N (c := 1) dX7_plain_30 (by first | exact nl2_some rfl | exact nl2_none) (by decide) ?_) | refine Rp.inc3 _ dX7_plain_30 rfl (by first | exact nl2_some rfl | exact nl2_none) (by decide) ?_
    refine Rp.goto (tgt := 4) dX7_plain_33 (by decide) ?_
    skip
    exact Rp.mono (fun r h' p => ⟨p.1, cQ_av F (fun j => F.I 39 j rfl) p.2⟩) k1
  · rw [if_neg (show ¬ cT tb TL i = 8 from e)]
    dsimp only [Option.toList, List.cons_append, List.nil_append, List.append]
    first | ((with_reducible show Rp _ _ _ _ (.int (b2i _) :: _) _ _); refine Rp.if_eqB (tgt := 36) dX7_plain_17 (by decide) (fun c17 => ?_) (fun c17 => ?_)) | ((with_reducible show Rp _ _ _ _ (.int (nI _) :: _) _ _); refine Rp.if_eqN (tgt := 36) dX7_plain_17 (by decide) (by omega) (fun c17 => ?_) (fun c17 => ?_)) | refine Rp.if_eq (tgt := 36) dX7_plain_17 (by decide) (fun c17 => ?_) (fun c17 => ?_)
    rotate_left
    · first | (exfalso; omega) | exact absurd c17 (by decide) | exact absurd (by decide) c17
    skip
    refine ih 6 d dep i lv a af _ (by decide) hd h1i hi hl (by show _ + 0 ≤ _; omega) B G (by show _ + 4 ≤ f; omega) _ _ _ (fun h3 Q => ?_)
    have o1 := Prs_ok (ord := ord) (v := vT tb TL) (cT_end tb TL) f 6 dep i lv a (by decide) hi hl
    generalize Prs ord (cT tb TL) (vT tb TL) f 6 dep i lv a = x at Q o1 ⊢
    have S3 := Q.1.S S
    have R3 := Q.1.R R (by decide)
    rcases cQ_cases B.1.2.2.1 B.2.2 o1 Q with ⟨e2, rfl, hb, hz⟩ | ⟨i1, lv1, cd, D, rfl, g1, g2, g3, g4, g5⟩
    · exact Rp.mono (fun r h' p => ⟨p.1, cQ_bad_end Q p.2⟩) (bad_plain74 (d + 3 * (8 - dep) + 8) S3 R3 hz _ true _)
    · have g3 := g3 rfl
      have e0 : slM 6 = 0 := rfl
      have em := t_emit (d + 3 * (8 - dep) + 8) S3 R3 (o := 5) (v := 0) (a := a + cd.length) (by decide) (by decide) (by omega) Q.2.1.2.2.2.1
      refine Rp.iload_n dX7_plain_74 rfl ?_
      first | ((with_reducible show Rp _ _ _ _ (.int (b2i _) :: _) _ _); refine Rp.if_eqB (tgt := 88) dX7_plain_75 (by decide) (fun c75 => ?_) (fun c75 => ?_)) | ((with_reducible show Rp _ _ _ _ (.int (nI _) :: _) _ _); refine Rp.if_eqN (tgt := 88) dX7_plain_75 (by decide) (by omega) (fun c75 => ?_) (fun c75 => ?_)) | refine Rp.if_eq (tgt := 88) dX7_plain_75 (by decide) (fun c75 => ?_) (fun c75 => ?_)
      · skip
        first | (exfalso; omega) | exact absurd c75 (by decide) | exact absurd (by decide) c75
      · skip
        refine Rp.aload_n dX7_plain_78 rfl rfl ?_
        refine Rp.getR dX7_plain_79 fk_X7_18 rfl (S3 _ _ rfl) (R3 _ _ _ rfl) ?_
        refine Rp.iconst (nI 5) dX7_plain_82 (by decide) ?_
        refine Rp.iconst (nI 0) dX7_plain_83 (by decide) ?_
        refine Rp.callV2 M_X9_emit (ci := 9) dX7_plain_84 mo_X9_emit lk_X7_98 (by decide) rfl rfl (S3 _ _ rfl) (Nat.le_of_ble_eq_true rfl) (Nat.le_of_ble_eq_true rfl) (em) (fun v1 h1 p1 x1 => ?_)
        obtain ⟨rfl, rfl⟩ := p1
        try dsimp only [Option.toList, List.cons_append, List.nil_append, List.append]
        refine Rp.pop dX7_plain_87 rfl ?_
        refine Rp.vreturn dX7_plain_88 rfl ?_
        exact ⟨rfl, cQ_emit (by decide) Q⟩
