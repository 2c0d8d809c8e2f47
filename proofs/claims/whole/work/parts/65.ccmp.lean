theorem Cc_cmpb {ord : Bool} {tb : Nat → Int32} {L : Nat} {TL : List (Nat × Nat)} {f : Nat} (ih : CIx ord tb L TL f) (d dep i lv a : Nat) (af : Bool) (h : AH) (hd : dep ≤ 8) (h1i : 1 ≤ i) (hl : lv ≤ 50) (ha : a ≤ i + 35) (B : CB h ord tb L TL) (G : GS h L TL i lv a af) (hf : 12 * (TL.length - (i + 1)) + 3 ≤ f) {o : Nat} (ho : 6 ≤ o ∧ o ≤ 8) (hi1 : i + 1 ≤ TL.length) : Rp (d + 3 * (8 - dep) + 8) M_X7_comparison 58 [some (.ref 35), some (.int (nI dep)), some (.int (nI o))] [] h (fun r h' => r = none ∧ cQ h ord L TL a af (match Prs ord (cT tb TL) (vT tb TL) f 7 dep (i + 1) lv a with
    | .error e => .error e
    | .ok (i', lv', cd', D') => .ok (i', lv', cd' ++ [(o, 0)], D')) h') := by
  have S := B.1.1
  have R := B.1.2.1
  have hT := B.le
  have nx := t_next (d + 3 * (8 - dep) + 6) B.1 B.tl G.1 hi1
  have om : ¬ nI o = -1 := nI_ne_m1 (by omega)
  refine Rp.iload_n dX7_comparison_58 rfl ?_
  refine Rp.iconst (-1) dX7_comparison_59 (by decide) ?_
  first | ((with_reducible show Rp _ _ _ _ (.int (nI _) :: .int (nI _) :: _) _ _); refine Rp.icmp_neN (tgt := 68) dX7_comparison_60 (by decide) (by omega) (fun c60 => ?_) (fun c60 => ?_)) | refine Rp.icmp_ne (tgt := 68) dX7_comparison_60 (by decide) (fun c60 => ?_) (fun c60 => ?_)
  rotate_left
  · exact absurd c60 om
  refine Rp.aload_n dX7_comparison_68 rfl rfl ?_
  refine Rp.callV0 M_X7_advance (ci := 7) dX7_comparison_69 mo_X7_advance lk_X7_42 (by decide) rfl rfl (S _ _ rfl) (Nat.le_of_ble_eq_true rfl) (Nat.le_of_ble_eq_true rfl) (nx) (fun v1 h1 p1 x1 => ?_)
  obtain ⟨rfl, F, T1⟩ := p1
  try dsimp only [Option.toList, List.cons_append, List.nil_append, List.append]
  skip
  have S1 := F.S S
  have R1 := F.R R (by decide)
  have G1 := G.av F T1
  have q1 := ih 7 d dep (i + 1) lv a af h1 (by decide) hd (by omega) hi1 hl (by show _ + 0 ≤ _; omega) (B.fr F.av) G1 (by show _ + 3 ≤ f; omega)
  have o1 := Prs_ok (ord := ord) (v := vT tb TL) (cT_end tb TL) f 7 dep (i + 1) lv a (by decide) hi1 hl
  refine Rp.aload_n dX7_comparison_72 rfl rfl ?_
  refine Rp.iload_n dX7_comparison_73 rfl ?_
  refine Rp.callV1 M_X7_sum (ci := 7) dX7_comparison_74 mo_X7_sum lk_X7_105 (by decide) rfl rfl (S1 _ _ rfl) (Nat.le_of_ble_eq_true rfl) (Nat.le_of_ble_eq_true rfl) (q1) (fun v1 h1 p1 x1 => ?_)
  obtain ⟨rfl, p1⟩ := p1
  try dsimp only [Option.toList, List.cons_append, List.nil_append, List.append]
  skip
  generalize Prs ord (cT tb TL) (vT tb TL) f 7 dep (i + 1) lv a = x at p1 o1 ⊢
  have S2 := p1.1.S S1
  have R2 := p1.1.R R1 (by decide)
  rcases cQ_cases B.1.2.2.1 B.2.2 o1 p1 with ⟨e2, rfl, hb, m, hm, hz⟩ | ⟨i1, lv1, cd, D, rfl, g1, g2, g3, g4, g5⟩
  · skip
    refine Rp.aload_n dX7_comparison_77 rfl rfl ?_
    refine Rp.getR dX7_comparison_78 fk_X7_18 rfl (S2 _ _ rfl) (R2 _ _ _ rfl) ?_
    refine Rp.iload_n dX7_comparison_81 rfl ?_
    refine Rp.iconst (nI 0) dX7_comparison_82 (by decide) ?_
    refine Rp.callV2 M_X9_emit (ci := 9) dX7_comparison_83 mo_X9_emit lk_X7_98 (by decide) rfl rfl (S2 _ _ rfl) (Nat.le_of_ble_eq_true rfl) (Nat.le_of_ble_eq_true rfl) (bad_emit (d + 3 * (8 - dep) + 7) S2 R2 hm hz) (fun v1 h1 p1 x1 => ?_)
    obtain ⟨p2, p3, p4, x, rfl⟩ := p1
    try dsimp only [Option.toList, List.cons_append, List.nil_append, List.append]
    refine Rp.pop dX7_comparison_86 rfl ?_
    refine Rp.vreturn dX7_comparison_87 rfl ?_
    exact ⟨rfl, cQ_pre_err F.av (cQ_bad_end (a' := a) (af' := af) p1 ⟨p2, p3, p4⟩)⟩
  · have g3 := g3 rfl
    have e0 : slM 7 = 0 := rfl
    have em := t_emit (d + 3 * (8 - dep) + 7) S2 R2 (o := o) (v := 0) (a := a + cd.length) (by omega) (by decide) (by omega) p1.2.1.2.2.2.1
    refine Rp.aload_n dX7_comparison_77 rfl rfl ?_
    refine Rp.getR dX7_comparison_78 fk_X7_18 rfl (S2 _ _ rfl) (R2 _ _ _ rfl) ?_
    refine Rp.iload_n dX7_comparison_81 rfl ?_
    refine Rp.iconst (nI 0) dX7_comparison_82 (by decide) ?_
    refine Rp.callV2 M_X9_emit (ci := 9) dX7_comparison_83 mo_X9_emit lk_X7_98 (by decide) rfl rfl (S2 _ _ rfl) (Nat.le_of_ble_eq_true rfl) (Nat.le_of_ble_eq_true rfl) (em) (fun v1 h1 p1 x1 => ?_)
    obtain ⟨rfl, rfl⟩ := p1
    try dsimp only [Option.toList, List.cons_append, List.nil_append, List.append]
    refine Rp.pop dX7_comparison_86 rfl ?_
    refine Rp.vreturn dX7_comparison_87 rfl ?_
    exact ⟨rfl, cQ_av F (fun j => F.I 39 j rfl) (cQ_emit (by omega) p1)⟩
theorem cQ_cmp {h h1 h2 : AH} {ord : Bool} {L : Nat} {TL : List (Nat × Nat)} {a i1 lv1 : Nat} {af : Bool} {c : Nat → Nat} {cd1 : List (Nat × Nat)} {D1 : DN} {k : Nat → Nat → Nat → Except Nat LR} (hc : cOp (c i1) ≠ 0) (p : cQ h ord L TL a af (.ok (i1, lv1, cd1, D1)) h1) (q : cQ h1 ord L TL (a + cd1.length) (af || fitC ord cd1) (match k (i1 + 1) lv1 (a + cd1.length) with
    | .error e => .error e
    | .ok (i', lv', cd', D') => .ok (i', lv', cd' ++ [(cOp (c i1), 0)], D')) h2) : cQ h ord L TL a af (cmpL c (.ok (i1, lv1, cd1, D1)) a k) h2 := by
  unfold cmpL
  dsimp only
  rw [if_neg hc]
  generalize k (i1 + 1) lv1 (a + cd1.length) = x at q ⊢
  match x, q with
  | .error e, q => exact cQ_pre_err p.1 q
  | .ok (i2, lv2, cd2, D2), q => exact cQ_app p q
theorem Cc_cmp {ord : Bool} {tb : Nat → Int32} {L : Nat} {TL : List (Nat × Nat)} {f : Nat} (ih : CIx ord tb L TL f) (d dep i lv a : Nat) (af : Bool) (h : AH) (hd : dep ≤ 8) (h1i : 1 ≤ i) (hi : i ≤ TL.length) (hl : lv ≤ 50) (ha : a ≤ i + 35) (B : CB h ord tb L TL) (G : GS h L TL i lv a af) (hf : 12 * (TL.length - i) + 3 ≤ f) : Rp (d + 3 * (8 - dep) + 8) M_X7_comparison 0 [some (.ref 35), some (.int (nI dep)), none] [] h (fun r h' => r = none ∧ cQ h ord L TL a af (cmpL (cT tb TL) (Prs ord (cT tb TL) (vT tb TL) f 7 dep i lv a) a (Prs ord (cT tb TL) (vT tb TL) f 7 dep)) h') := by
  have S := B.1.1
  have R := B.1.2.1
  have hT := B.le
  have q1 := ih 7 d dep i lv a af h (by decide) hd h1i hi hl (by show _ + 0 ≤ _; omega) B G (by show _ + 3 ≤ f; omega)
  have o1 := Prs_ok (ord := ord) (v := vT tb TL) (cT_end tb TL) f 7 dep i lv a (by decide) hi hl
  refine Rp.aload_n dX7_comparison_0 rfl rfl ?_
  refine Rp.iload_n dX7_comparison_1 rfl ?_
  refine Rp.callV1 M_X7_sum (ci := 7) dX7_comparison_2 mo_X7_sum lk_X7_105 (by decide) rfl rfl (S _ _ rfl) (Nat.le_of_ble_eq_true rfl) (Nat.le_of_ble_eq_true rfl) (q1) (fun v1 h1 p1 x1 => ?_)
  obtain ⟨rfl, p1⟩ := p1
  try dsimp only [Option.toList, List.cons_append, List.nil_append, List.append]
  skip
  generalize Prs ord (cT tb TL) (vT tb TL) f 7 dep i lv a = x at p1 o1 ⊢
  have S2 := p1.1.S S
  have R2 := p1.1.R R (by decide)
  rcases cQ_cases B.1.2.2.1 B.2.2 o1 p1 with ⟨e2, rfl, hb, hz⟩ | ⟨i1, lv1, cd, D, rfl, g1, g2, g3, g4, g5⟩
  · skip
    refine Rp.aload_n dX7_comparison_5 rfl rfl ?_
    refine Rp.getI dX7_comparison_6 fk_X7_22 rfl (S2 _ _ rfl) ?_
    refine Rp.iconst (-1) dX7_comparison_9 (by decide) ?_
    first | ((with_reducible show Rp _ _ _ _ (.int (nI _) :: .int (nI _) :: _) _ _); refine Rp.icmp_eqN (tgt := 14) dX7_comparison_10 (by decide) (by omega) (fun c10 => ?_) (fun c10 => ?_)) | refine Rp.icmp_eq (tgt := 14) dX7_comparison_10 (by decide) (fun c10 => ?_) (fun c10 => ?_)
    · skip
      exact absurd c10 hb
    · skip
      refine Rp.vreturn dX7_comparison_13 rfl ?_
      exact ⟨rfl, p1⟩
  · have g3 := g3 rfl
    have e0 : slM 7 = 0 := rfl
    have B1 := B.fr p1.1
    have G1 := p1.2.1
    have hf3 := G1.2.2.1
    have sg60 := TS_sign G1.1 (s := 60) (by decide) (by decide) (by decide)
    have sg62 := TS_sign G1.1 (s := 62) (by decide) (by decide) (by decide)
    have sg61 := TS_sign G1.1 (s := 61) (by decide) (by decide) (by decide)
    rw [B1.2.1] at sg60 sg62 sg61
    have key : ∀ o : Nat, cOp (cT tb TL i1) = o → 6 ≤ o ∧ o ≤ 8 → i1 + 1 ≤ TL.length → Rp (d + 3 * (8 - dep) + 8) M_X7_comparison 58 [some (.ref 35), some (.int (nI dep)), some (.int (nI o))] [] h1 (fun r h' => r = none ∧ cQ h ord L TL a af (cmpL (cT tb TL) (.ok (i1, lv1, cd, D)) a (Prs ord (cT tb TL) (vT tb TL) f 7 dep)) h') := fun o eo ho hi2 => Rp.mono (fun r h' p => ⟨p.1, cQ_cmp (by rw [eo]; omega) p1 (by rw [eo]; exact p.2)⟩) (Cc_cmpb ih d dep i1 lv1 (a + cd.length) _ h1 hd (by omega) g4 (by omega) B1 G1 (by omega) ho hi2)
    by_cases e1 : cT tb TL i1 = 160
    · have k1 := key 6 (by rw [e1]; rfl) (by decide) (cT_len (tb := tb) (by rw [e1]; decide))
      have y := sg60.mpr e1
      refine Rp.aload_n dX7_comparison_5 rfl rfl ?_
      refine Rp.getI dX7_comparison_6 fk_X7_22 rfl (S2 _ _ rfl) ?_
      first | rw [hf3] | skip
      refine Rp.iconst (-1) dX7_comparison_9 (by decide) ?_
      first | ((with_reducible show Rp _ _ _ _ (.int (nI _) :: .int (nI _) :: _) _ _); refine Rp.icmp_eqN (tgt := 14) dX7_comparison_10 (by decide) (by omega) (fun c10 => ?_) (fun c10 => ?_)) | refine Rp.icmp_eq (tgt := 14) dX7_comparison_10 (by decide) (fun c10 => ?_) (fun c10 => ?_)
      · skip
        refine Rp.iconst (-1) dX7_comparison_14 (by decide) ?_
        refine Rp.ist2 dX7_comparison_15 (by first | exact nl2_some rfl | exact nl2_none) (by decide) ?_
        refine Rp.aload_n dX7_comparison_16 rfl rfl ?_
        refine Rp.getI dX7_comparison_17 fk_X7_48 rfl (S2 _ _ rfl) ?_
        first | rw [hf3] | skip
        refine Rp.bipush (nI 60) dX7_comparison_20 (by decide) ?_
        first | ((with_reducible show Rp _ _ _ _ (.int (nI _) :: .int (nI _) :: _) _ _); refine Rp.icmp_neN (tgt := 31) dX7_comparison_22 (by decide) (by omega) (fun c22 => ?_) (fun c22 => ?_)) | refine Rp.icmp_ne (tgt := 31) dX7_comparison_22 (by decide) (fun c22 => ?_) (fun c22 => ?_)
        · skip
          exact absurd y c22
        · skip
          refine Rp.bipush (nI 6) dX7_comparison_25 (by decide) ?_
          refine Rp.ist2 dX7_comparison_27 (by first | exact nl2_some rfl | exact nl2_none) (by decide) ?_
          refine Rp.goto (tgt := 58) dX7_comparison_28 (by decide) ?_
          exact k1
      · skip
        first | (exfalso; omega) | exact absurd c10 (by decide) | exact absurd (by decide) c10
    · have z1 : ¬ gI h1 35 7 = nI 60 := fun z => e1 (sg60.mp z)
      by_cases e2 : cT tb TL i1 = 162
      · have k1 := key 7 (by rw [e2]; rfl) (by decide) (cT_len (tb := tb) (by rw [e2]; decide))
        have y := sg62.mpr e2
        refine Rp.aload_n dX7_comparison_5 rfl rfl ?_
        refine Rp.getI dX7_comparison_6 fk_X7_22 rfl (S2 _ _ rfl) ?_
        first | rw [hf3] | skip
        refine Rp.iconst (-1) dX7_comparison_9 (by decide) ?_
        first | ((with_reducible show Rp _ _ _ _ (.int (nI _) :: .int (nI _) :: _) _ _); refine Rp.icmp_eqN (tgt := 14) dX7_comparison_10 (by decide) (by omega) (fun c10 => ?_) (fun c10 => ?_)) | refine Rp.icmp_eq (tgt := 14) dX7_comparison_10 (by decide) (fun c10 => ?_) (fun c10 => ?_)
        · skip
          refine Rp.iconst (-1) dX7_comparison_14 (by decide) ?_
          refine Rp.ist2 dX7_comparison_15 (by first | exact nl2_some rfl | exact nl2_none) (by decide) ?_
          refine Rp.aload_n dX7_comparison_16 rfl rfl ?_
          refine Rp.getI dX7_comparison_17 fk_X7_48 rfl (S2 _ _ rfl) ?_
          first | rw [hf3] | skip
          refine Rp.bipush (nI 60) dX7_comparison_20 (by decide) ?_
          first | ((with_reducible show Rp _ _ _ _ (.int (nI _) :: .int (nI _) :: _) _ _); refine Rp.icmp_neN (tgt := 31) dX7_comparison_22 (by decide) (by omega) (fun c22 => ?_) (fun c22 => ?_)) | refine Rp.icmp_ne (tgt := 31) dX7_comparison_22 (by decide) (fun c22 => ?_) (fun c22 => ?_)
          · skip
            refine Rp.aload_n dX7_comparison_31 rfl rfl ?_
            refine Rp.getI dX7_comparison_32 fk_X7_48 rfl (S2 _ _ rfl) ?_
            first | rw [hf3] | skip
            refine Rp.bipush (nI 62) dX7_comparison_35 (by decide) ?_
            first | ((with_reducible show Rp _ _ _ _ (.int (nI _) :: .int (nI _) :: _) _ _); refine Rp.icmp_neN (tgt := 46) dX7_comparison_37 (by decide) (by omega) (fun c37 => ?_) (fun c37 => ?_)) | refine Rp.icmp_ne (tgt := 46) dX7_comparison_37 (by decide) (fun c37 => ?_) (fun c37 => ?_)
            · skip
              exact absurd y c37
            · skip
              refine Rp.bipush (nI 7) dX7_comparison_40 (by decide) ?_
              refine Rp.ist2 dX7_comparison_42 (by first | exact nl2_some rfl | exact nl2_none) (by decide) ?_
              refine Rp.goto (tgt := 58) dX7_comparison_43 (by decide) ?_
              exact k1
          · skip
            exact absurd c22 z1
        · skip
          first | (exfalso; omega) | exact absurd c10 (by decide) | exact absurd (by decide) c10
      · have z2 : ¬ gI h1 35 7 = nI 62 := fun z => e2 (sg62.mp z)
        by_cases e3 : cT tb TL i1 = 161
        · have k1 := key 8 (by rw [e3]; rfl) (by decide) (cT_len (tb := tb) (by rw [e3]; decide))
          have y := sg61.mpr e3
          refine Rp.aload_n dX7_comparison_5 rfl rfl ?_
          refine Rp.getI dX7_comparison_6 fk_X7_22 rfl (S2 _ _ rfl) ?_
          first | rw [hf3] | skip
          refine Rp.iconst (-1) dX7_comparison_9 (by decide) ?_
          first | ((with_reducible show Rp _ _ _ _ (.int (nI _) :: .int (nI _) :: _) _ _); refine Rp.icmp_eqN (tgt := 14) dX7_comparison_10 (by decide) (by omega) (fun c10 => ?_) (fun c10 => ?_)) | refine Rp.icmp_eq (tgt := 14) dX7_comparison_10 (by decide) (fun c10 => ?_) (fun c10 => ?_)
          · skip
            refine Rp.iconst (-1) dX7_comparison_14 (by decide) ?_
            refine Rp.ist2 dX7_comparison_15 (by first | exact nl2_some rfl | exact nl2_none) (by decide) ?_
            refine Rp.aload_n dX7_comparison_16 rfl rfl ?_
            refine Rp.getI dX7_comparison_17 fk_X7_48 rfl (S2 _ _ rfl) ?_
            first | rw [hf3] | skip
            refine Rp.bipush (nI 60) dX7_comparison_20 (by decide) ?_
            first | ((with_reducible show Rp _ _ _ _ (.int (nI _) :: .int (nI _) :: _) _ _); refine Rp.icmp_neN (tgt := 31) dX7_comparison_22 (by decide) (by omega) (fun c22 => ?_) (fun c22 => ?_)) | refine Rp.icmp_ne (tgt := 31) dX7_comparison_22 (by decide) (fun c22 => ?_) (fun c22 => ?_)
            · skip
              refine Rp.aload_n dX7_comparison_31 rfl rfl ?_
              refine Rp.getI dX7_comparison_32 fk_X7_48 rfl (S2 _ _ rfl) ?_
              first | rw [hf3] | skip
              refine Rp.bipush (nI 62) dX7_comparison_35 (by decide) ?_
              first | ((with_reducible show Rp _ _ _ _ (.int (nI _) :: .int (nI _) :: _) _ _); refine Rp.icmp_neN (tgt := 46) dX7_comparison_37 (by decide) (by omega) (fun c37 => ?_) (fun c37 => ?_)) | refine Rp.icmp_ne (tgt := 46) dX7_comparison_37 (by decide) (fun c37 => ?_) (fun c37 => ?_)
              · skip
                refine Rp.aload_n dX7_comparison_46 rfl rfl ?_
                refine Rp.getI dX7_comparison_47 fk_X7_48 rfl (S2 _ _ rfl) ?_
                first | rw [hf3] | skip
                refine Rp.bipush (nI 61) dX7_comparison_50 (by decide) ?_
                first | ((with_reducible show Rp _ _ _ _ (.int (nI _) :: .int (nI _) :: _) _ _); refine Rp.icmp_neN (tgt := 58) dX7_comparison_52 (by decide) (by omega) (fun c52 => ?_) (fun c52 => ?_)) | refine Rp.icmp_ne (tgt := 58) dX7_comparison_52 (by decide) (fun c52 => ?_) (fun c52 => ?_)
                · skip
                  exact absurd y c52
                · skip
                  refine Rp.bipush (nI 8) dX7_comparison_55 (by decide) ?_
                  refine Rp.ist2 dX7_comparison_57 (by first | exact nl2_some rfl | exact nl2_none) (by decide) ?_
                  exact k1
              · skip
                exact absurd c37 z2
            · skip
              exact absurd c22 z1
          · skip
            first | (exfalso; omega) | exact absurd c10 (by decide) | exact absurd (by decide) c10
        · have z3 : ¬ gI h1 35 7 = nI 61 := fun z => e3 (sg61.mp z)
          have er : cmpL (cT tb TL) (.ok (i1, lv1, cd, D)) a (Prs ord (cT tb TL) (vT tb TL) f 7 dep) = .error i1 := by
            unfold cmpL; dsimp only
            rw [if_pos (by unfold cOp; rw [if_neg e1, if_neg e2, if_neg e3])]
          rw [er]
          have wr := t_wrong (d + 3 * (8 - dep) + 7) S2 hf3
          refine Rp.aload_n dX7_comparison_5 rfl rfl ?_
          refine Rp.getI dX7_comparison_6 fk_X7_22 rfl (S2 _ _ rfl) ?_
          first | rw [hf3] | skip
          refine Rp.iconst (-1) dX7_comparison_9 (by decide) ?_
          first | ((with_reducible show Rp _ _ _ _ (.int (nI _) :: .int (nI _) :: _) _ _); refine Rp.icmp_eqN (tgt := 14) dX7_comparison_10 (by decide) (by omega) (fun c10 => ?_) (fun c10 => ?_)) | refine Rp.icmp_eq (tgt := 14) dX7_comparison_10 (by decide) (fun c10 => ?_) (fun c10 => ?_)
          · skip
            refine Rp.iconst (-1) dX7_comparison_14 (by decide) ?_
            refine Rp.ist2 dX7_comparison_15 (by first | exact nl2_some rfl | exact nl2_none) (by decide) ?_
            refine Rp.aload_n dX7_comparison_16 rfl rfl ?_
            refine Rp.getI dX7_comparison_17 fk_X7_48 rfl (S2 _ _ rfl) ?_
            first | rw [hf3] | skip
            refine Rp.bipush (nI 60) dX7_comparison_20 (by decide) ?_
            first | ((with_reducible show Rp _ _ _ _ (.int (nI _) :: .int (nI _) :: _) _ _); refine Rp.icmp_neN (tgt := 31) dX7_comparison_22 (by decide) (by omega) (fun c22 => ?_) (fun c22 => ?_)) | refine Rp.icmp_ne (tgt := 31) dX7_comparison_22 (by decide) (fun c22 => ?_) (fun c22 => ?_)
            · skip
              refine Rp.aload_n dX7_comparison_31 rfl rfl ?_
              refine Rp.getI dX7_comparison_32 fk_X7_48 rfl (S2 _ _ rfl) ?_
              first | rw [hf3] | skip
              refine Rp.bipush (nI 62) dX7_comparison_35 (by decide) ?_
              first | ((with_reducible show Rp _ _ _ _ (.int (nI _) :: .int (nI _) :: _) _ _); refine Rp.icmp_neN (tgt := 46) dX7_comparison_37 (by decide) (by omega) (fun c37 => ?_) (fun c37 => ?_)) | refine Rp.icmp_ne (tgt := 46) dX7_comparison_37 (by decide) (fun c37 => ?_) (fun c37 => ?_)
              · skip
                refine Rp.aload_n dX7_comparison_46 rfl rfl ?_
                refine Rp.getI dX7_comparison_47 fk_X7_48 rfl (S2 _ _ rfl) ?_
                first | rw [hf3] | skip
                refine Rp.bipush (nI 61) dX7_comparison_50 (by decide) ?_
                first | ((with_reducible show Rp _ _ _ _ (.int (nI _) :: .int (nI _) :: _) _ _); refine Rp.icmp_neN (tgt := 58) dX7_comparison_52 (by decide) (by omega) (fun c52 => ?_) (fun c52 => ?_)) | refine Rp.icmp_ne (tgt := 58) dX7_comparison_52 (by decide) (fun c52 => ?_) (fun c52 => ?_)
                · skip
                  refine Rp.iload_n dX7_comparison_58 rfl ?_
                  refine Rp.iconst (-1) dX7_comparison_59 (by decide) ?_
                  first | ((with_reducible show Rp _ _ _ _ (.int (nI _) :: .int (nI _) :: _) _ _); refine Rp.icmp_neN (tgt := 68) dX7_comparison_60 (by decide) (by omega) (fun c60 => ?_) (fun c60 => ?_)) | refine Rp.icmp_ne (tgt := 68) dX7_comparison_60 (by decide) (fun c60 => ?_) (fun c60 => ?_)
                  · skip
                    exact absurd rfl c60
                  · skip
                    refine Rp.aload_n dX7_comparison_63 rfl rfl ?_
                    refine Rp.callV0 M_X7_wrong (ci := 7) dX7_comparison_64 mo_X7_wrong lk_X7_51 (by decide) rfl rfl (S2 _ _ rfl) (Nat.le_of_ble_eq_true rfl) (Nat.le_of_ble_eq_true rfl) (wr) (fun v1 h1 p1 x1 => ?_)
                    obtain ⟨rfl, rfl⟩ := p1
                    try dsimp only [Option.toList, List.cons_append, List.nil_append, List.append]
                    refine Rp.vreturn dX7_comparison_67 rfl ?_
                    exact ⟨rfl, cQ_pre_err p1.1 (cQ_err (by omega) G1)⟩
                · skip
                  exact absurd c52 z3
              · skip
                exact absurd c37 z2
            · skip
              exact absurd c22 z1
          · skip
            first | (exfalso; omega) | exact absurd c10 (by decide) | exact absurd (by decide) c10
