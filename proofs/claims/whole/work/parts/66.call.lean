/-- a bracket: what closes it -/
theorem cQ_clo {h h1 h2 : AH} {ord : Bool} {tb : Nat → Int32} {L : Nat} {TL : List (Nat × Nat)} {a i1 lv1 s : Nat} {af : Bool} {cd : List (Nat × Nat)} {D : DN} (ha : a + cd.length ≤ 436) (p : cQ h ord L TL a af (.ok (i1, lv1, cd, D)) h1) (q : (cT tb TL i1 = s ∧ Fr avX h1 h2 ∧ TS h2 L TL (i1 + 1)) ∨ (cT tb TL i1 ≠ s ∧ h2 = sI h1 35 3 (gI h1 35 6))) : cQ h ord L TL a af (cloL (cT tb TL) s (.ok (i1, lv1, cd, D))) h2 := by
  unfold cloL
  dsimp only
  rcases q with ⟨e, F, T⟩ | ⟨e, rfl⟩
  · rw [if_pos e]
    exact ⟨p.1.trans F.av, p.2.1.av F T, fun j hj => (F.I 39 j rfl).trans (p.2.2.1 j hj), fun n q hq => (F.I 39 _ rfl).trans (p.2.2.2 n q hq)⟩
  · rw [if_neg e]
    exact cQ_pre_err p.1 (cQ_err ha p.2.1)
theorem Cc_6 {ord : Bool} {tb : Nat → Int32} {L : Nat} {TL : List (Nat × Nat)} {f : Nat} (ih : CIx ord tb L TL f) (d dep i lv a : Nat) (af : Bool) (h : AH) (hd : dep ≤ 8) (h1i : 1 ≤ i) (hi : i ≤ TL.length) (hl : lv ≤ 50) (ha : a ≤ i + 35) (B : CB h ord tb L TL) (G : GS h L TL i lv a af) (hf : 12 * (TL.length - i) + 4 ≤ f + 1) (P : Option Value → AH → Prop) (x n : Option Value) (kk : ∀ h', cQ h ord L TL a af (if cT tb TL i = 140 then (if dep = 8 then .error i else cloL (cT tb TL) 141 (Prs ord (cT tb TL) (vT tb TL) f 0 (dep + 1) (i + 1) lv a)) else cmpL (cT tb TL) (Prs ord (cT tb TL) (vT tb TL) f 7 dep i lv a) a (Prs ord (cT tb TL) (vT tb TL) f 7 dep)) h' → Rp (d + 3 * (8 - dep) + 9) M_X7_plain 74 [some (.ref 35), some (.int (nI dep)), x, n] [] h' P) : Rp (d + 3 * (8 - dep) + 9) M_X7_plain 36 [some (.ref 35), some (.int (nI dep)), x, n] [] h P := by
  have S := B.1.1
  have R := B.1.2.1
  have hT := B.le
  have sg := TS_sign G.1 (s := 40) (by decide) (by decide) (by decide)
  rw [B.2.1] at sg
  by_cases e : cT tb TL i = 140
  · rw [if_pos e] at kk
    have hi1 : i + 1 ≤ TL.length := cT_len (tb := tb) (by rw [e]; decide)
    have y := sg.mpr e
    by_cases e8 : dep = 8
    · subst e8
      rw [if_pos rfl] at kk
      have op := t_opensF (d + 3 * (8 - 8) + 6) S G.2.2.1
      refine Rp.aload_n dX7_plain_36 rfl rfl ?_
      refine Rp.getI dX7_plain_37 fk_X7_48 rfl (S _ _ rfl) ?_
      refine Rp.bipush (nI 40) dX7_plain_40 (by decide) ?_
      first | ((with_reducible show Rp _ _ _ _ (.int (nI _) :: .int (nI _) :: _) _ _); refine Rp.icmp_neN (tgt := 69) dX7_plain_42 (by decide) (by omega) (fun c42 => ?_) (fun c42 => ?_)) | refine Rp.icmp_ne (tgt := 69) dX7_plain_42 (by decide) (fun c42 => ?_) (fun c42 => ?_)
      · skip
        exact absurd y c42
      · skip
        refine Rp.aload_n dX7_plain_45 rfl rfl ?_
        refine Rp.iload_n dX7_plain_46 rfl ?_
        refine Rp.callV1 M_X7_opens (ci := 7) dX7_plain_47 mo_X7_opens lk_X7_123 (by decide) rfl rfl (S _ _ rfl) (Nat.le_of_ble_eq_true rfl) (Nat.le_of_ble_eq_true rfl) (op) (fun v1 h1 p1 x1 => ?_)
        obtain ⟨rfl, rfl⟩ := p1
        try dsimp only [Option.toList, List.cons_append, List.nil_append, List.append]
        first | ((with_reducible show Rp _ _ _ _ (.int (b2i _) :: _) _ _); refine Rp.if_eqB (tgt := 74) dX7_plain_50 (by decide) (fun c50 => ?_) (fun c50 => ?_)) | ((with_reducible show Rp _ _ _ _ (.int (nI _) :: _) _ _); refine Rp.if_eqN (tgt := 74) dX7_plain_50 (by decide) (by omega) (fun c50 => ?_) (fun c50 => ?_)) | refine Rp.if_eq (tgt := 74) dX7_plain_50 (by decide) (fun c50 => ?_) (fun c50 => ?_)
        · skip
          exact kk _ (cQ_err (by omega) G)
        · skip
          first | (exfalso; omega) | exact absurd c50 (by decide) | exact absurd (by decide) c50
    · rw [if_neg e8] at kk
      have op := t_opens (d + 3 * (8 - dep) + 6) B.1 B.tl (dep := dep) G.1 hi1 (by omega)
      refine Rp.aload_n dX7_plain_36 rfl rfl ?_
      refine Rp.getI dX7_plain_37 fk_X7_48 rfl (S _ _ rfl) ?_
      refine Rp.bipush (nI 40) dX7_plain_40 (by decide) ?_
      first | ((with_reducible show Rp _ _ _ _ (.int (nI _) :: .int (nI _) :: _) _ _); refine Rp.icmp_neN (tgt := 69) dX7_plain_42 (by decide) (by omega) (fun c42 => ?_) (fun c42 => ?_)) | refine Rp.icmp_ne (tgt := 69) dX7_plain_42 (by decide) (fun c42 => ?_) (fun c42 => ?_)
      · exact absurd y c42
      refine Rp.aload_n dX7_plain_45 rfl rfl ?_
      refine Rp.iload_n dX7_plain_46 rfl ?_
      refine Rp.callV1 M_X7_opens (ci := 7) dX7_plain_47 mo_X7_opens lk_X7_123 (by decide) rfl rfl (S _ _ rfl) (Nat.le_of_ble_eq_true rfl) (Nat.le_of_ble_eq_true rfl) (op) (fun v1 h1 p1 x1 => ?_)
      obtain ⟨rfl, F, T1⟩ := p1
      try dsimp only [Option.toList, List.cons_append, List.nil_append, List.append]
      first | ((with_reducible show Rp _ _ _ _ (.int (b2i _) :: _) _ _); refine Rp.if_eqB (tgt := 74) dX7_plain_50 (by decide) (fun c50 => ?_) (fun c50 => ?_)) | ((with_reducible show Rp _ _ _ _ (.int (nI _) :: _) _ _); refine Rp.if_eqN (tgt := 74) dX7_plain_50 (by decide) (by omega) (fun c50 => ?_) (fun c50 => ?_)) | refine Rp.if_eq (tgt := 74) dX7_plain_50 (by decide) (fun c50 => ?_) (fun c50 => ?_)
      · first | (exfalso; omega) | exact absurd c50 (by decide) | exact absurd (by decide) c50
      skip
      have S1 := F.S S
      have R1 := F.R R (by decide)
      have G1 := G.av F T1
      have q1 := ih 0 d (dep + 1) (i + 1) lv a af h1 (by decide) (by omega) (by omega) hi1 hl (by show _ + 0 ≤ _; omega) (B.fr F.av) G1 (by show _ + 7 ≤ f; omega)
      have q1 : Rp (d + 3 * (8 - dep) + 8) M_X7_anyOf 0 [some (.ref 35), some (.int (nI (dep + 1))), none, none] [] h1 (fun r h' => r = none ∧ cQ h1 ord L TL a af (Prs ord (cT tb TL) (vT tb TL) f 0 (dep + 1) (i + 1) lv a) h') := by
        rw [show d + 3 * (8 - dep) + 8 = d + 3 * (8 - (dep + 1)) + 11 by omega]; exact q1
      have o1 := Prs_ok (ord := ord) (v := vT tb TL) (cT_end tb TL) f 0 (dep + 1) (i + 1) lv a (by decide) hi1 hl
      refine Rp.aload_n dX7_plain_53 rfl rfl ?_
      refine Rp.iload_n dX7_plain_54 rfl ?_
      refine Rp.iconst (nI 1) dX7_plain_55 (by decide) ?_
      first | ((with_reducible show Rp _ _ _ _ (.int (nI _) :: .int (nI _) :: _) _ _); refine Rp.iaddN dX7_plain_56 ?_) | refine Rp.iadd dX7_plain_56 ?_
      refine Rp.callV1 M_X7_anyOf (ci := 7) dX7_plain_57 mo_X7_anyOf lk_X7_93 (by decide) rfl rfl (S1 _ _ rfl) (Nat.le_of_ble_eq_true rfl) (Nat.le_of_ble_eq_true rfl) (q1) (fun v1 h1 p1 x1 => ?_)
      obtain ⟨rfl, p1⟩ := p1
      try dsimp only [Option.toList, List.cons_append, List.nil_append, List.append]
      skip
      generalize Prs ord (cT tb TL) (vT tb TL) f 0 (dep + 1) (i + 1) lv a = y at p1 o1 kk
      have S2 := p1.1.S S1
      have R2 := p1.1.R R1 (by decide)
      rcases cQ_cases B.1.2.2.1 B.2.2 o1 p1 with ⟨e2, rfl, hb, hz⟩ | ⟨i1, lv1, cd, D, rfl, g1, g2, g3, g4, g5⟩
      · skip
        refine Rp.aload_n dX7_plain_60 rfl rfl ?_
        refine Rp.bipush (nI 41) dX7_plain_61 (by decide) ?_
        refine Rp.callV1 M_X7_close (ci := 7) dX7_plain_63 mo_X7_close lk_X7_127 (by decide) rfl rfl (S2 _ _ rfl) (Nat.le_of_ble_eq_true rfl) (Nat.le_of_ble_eq_true rfl) (bad_close (d + 3 * (8 - dep) + 6) S2 hb (nI 41)) (fun v1 h1 p1 x1 => ?_)
        obtain ⟨rfl, rfl⟩ := p1
        try dsimp only [Option.toList, List.cons_append, List.nil_append, List.append]
        refine Rp.goto (tgt := 74) dX7_plain_66 (by decide) ?_
        exact kk _ (cQ_pre_err F.av p1)
      · have g3 := g3 rfl
        have e0 : slM 0 = 0 := rfl
        have B2 := (B.fr F.av).fr p1.1
        have cl := t_close (d + 3 * (8 - dep) + 6) B2.1 B2.tl (s := 41) (by decide) (by decide) (by decide) p1.2.1.1 p1.2.1.2.2.1
        rw [B2.2.1] at cl
        refine Rp.aload_n dX7_plain_60 rfl rfl ?_
        refine Rp.bipush (nI 41) dX7_plain_61 (by decide) ?_
        refine Rp.callV1 M_X7_close (ci := 7) dX7_plain_63 mo_X7_close lk_X7_127 (by decide) rfl rfl (S2 _ _ rfl) (Nat.le_of_ble_eq_true rfl) (Nat.le_of_ble_eq_true rfl) (cl) (fun v1 h1 p1 x1 => ?_)
        obtain ⟨rfl, p2⟩ := p1
        try dsimp only [Option.toList, List.cons_append, List.nil_append, List.append]
        refine Rp.goto (tgt := 74) dX7_plain_66 (by decide) ?_
        exact kk _ (cQ_av F (fun j => F.I 39 j rfl) (cQ_clo (by omega) p1 p2))
  · rw [if_neg e] at kk
    have z : ¬ gI h 35 7 = nI 40 := fun z => e (sg.mp z)
    have q1 := Cc_cmp ih d dep i lv a af h hd h1i hi hl ha B G (by omega)
    refine Rp.aload_n dX7_plain_36 rfl rfl ?_
    refine Rp.getI dX7_plain_37 fk_X7_48 rfl (S _ _ rfl) ?_
    refine Rp.bipush (nI 40) dX7_plain_40 (by decide) ?_
    first | ((with_reducible show Rp _ _ _ _ (.int (nI _) :: .int (nI _) :: _) _ _); refine Rp.icmp_neN (tgt := 69) dX7_plain_42 (by decide) (by omega) (fun c42 => ?_) (fun c42 => ?_)) | refine Rp.icmp_ne (tgt := 69) dX7_plain_42 (by decide) (fun c42 => ?_) (fun c42 => ?_)
    · skip
      refine Rp.aload_n dX7_plain_69 rfl rfl ?_
      refine Rp.iload_n dX7_plain_70 rfl ?_
      refine Rp.callV1 M_X7_comparison (ci := 7) dX7_plain_71 mo_X7_comparison lk_X7_130 (by decide) rfl rfl (S _ _ rfl) (Nat.le_of_ble_eq_true rfl) (Nat.le_of_ble_eq_true rfl) (q1) (fun v1 h1 p1 x1 => ?_)
      obtain ⟨rfl, p1⟩ := p1
      try dsimp only [Option.toList, List.cons_append, List.nil_append, List.append]
      exact kk _ p1
    · skip
      exact absurd c42 z
theorem Cc_11 {ord : Bool} {tb : Nat → Int32} {L : Nat} {TL : List (Nat × Nat)} {f : Nat} (ih : CIx ord tb L TL f) (d dep i lv a : Nat) (af : Bool) (h : AH) (hd : dep ≤ 8) (h1i : 1 ≤ i) (hi : i ≤ TL.length) (hl : lv ≤ 50) (ha : a ≤ i + 35) (B : CB h ord tb L TL) (G : GS h L TL i lv a af) (hf : 12 * (TL.length - i) + 1 ≤ f + 1) : Rp (d + 3 * (8 - dep) + 5) M_X7_part 0 [some (.ref 35), some (.int (nI dep)), none, none] [] h (fun r h' => r = none ∧ cQ h ord L TL a af (if cT tb TL i = 191 then (if dep = 8 then .error i else cloL (cT tb TL) 193 (Prs ord (cT tb TL) (vT tb TL) f 7 (dep + 1) (i + 1) lv a)) else prtL ord (cT tb TL) (vT tb TL) i lv) h') := by
  have S := B.1.1
  have R := B.1.2.1
  have hT := B.le
  have sg := TS_sign G.1 (s := 91) (by decide) (by decide) (by decide)
  rw [B.2.1] at sg
  by_cases e : cT tb TL i = 191
  · rw [if_pos e]
    have hi1 : i + 1 ≤ TL.length := cT_len (tb := tb) (by rw [e]; decide)
    have y := sg.mpr e
    by_cases e8 : dep = 8
    · subst e8
      rw [if_pos rfl]
      have op := t_opensF (d + 3 * (8 - 8) + 2) S G.2.2.1
      refine Rp.aload_n dX7_part_0 rfl rfl ?_
      refine Rp.getI dX7_part_1 fk_X7_48 rfl (S _ _ rfl) ?_
      refine Rp.bipush (nI 91) dX7_part_4 (by decide) ?_
      first | ((with_reducible show Rp _ _ _ _ (.int (nI _) :: .int (nI _) :: _) _ _); refine Rp.icmp_neN (tgt := 31) dX7_part_6 (by decide) (by omega) (fun c6 => ?_) (fun c6 => ?_)) | refine Rp.icmp_ne (tgt := 31) dX7_part_6 (by decide) (fun c6 => ?_) (fun c6 => ?_)
      · skip
        exact absurd y c6
      · skip
        refine Rp.aload_n dX7_part_9 rfl rfl ?_
        refine Rp.iload_n dX7_part_10 rfl ?_
        refine Rp.callV1 M_X7_opens (ci := 7) dX7_part_11 mo_X7_opens lk_X7_123 (by decide) rfl rfl (S _ _ rfl) (Nat.le_of_ble_eq_true rfl) (Nat.le_of_ble_eq_true rfl) (op) (fun v1 h1 p1 x1 => ?_)
        obtain ⟨rfl, rfl⟩ := p1
        try dsimp only [Option.toList, List.cons_append, List.nil_append, List.append]
        first | ((with_reducible show Rp _ _ _ _ (.int (b2i _) :: _) _ _); refine Rp.if_eqB (tgt := 30) dX7_part_14 (by decide) (fun c14 => ?_) (fun c14 => ?_)) | ((with_reducible show Rp _ _ _ _ (.int (nI _) :: _) _ _); refine Rp.if_eqN (tgt := 30) dX7_part_14 (by decide) (by omega) (fun c14 => ?_) (fun c14 => ?_)) | refine Rp.if_eq (tgt := 30) dX7_part_14 (by decide) (fun c14 => ?_) (fun c14 => ?_)
        · skip
          refine Rp.vreturn dX7_part_30 rfl ?_
          exact ⟨rfl, cQ_err (by omega) G⟩
        · skip
          first | (exfalso; omega) | exact absurd c14 (by decide) | exact absurd (by decide) c14
    · rw [if_neg e8]
      have op := t_opens (d + 3 * (8 - dep) + 2) B.1 B.tl (dep := dep) G.1 hi1 (by omega)
      refine Rp.aload_n dX7_part_0 rfl rfl ?_
      refine Rp.getI dX7_part_1 fk_X7_48 rfl (S _ _ rfl) ?_
      refine Rp.bipush (nI 91) dX7_part_4 (by decide) ?_
      first | ((with_reducible show Rp _ _ _ _ (.int (nI _) :: .int (nI _) :: _) _ _); refine Rp.icmp_neN (tgt := 31) dX7_part_6 (by decide) (by omega) (fun c6 => ?_) (fun c6 => ?_)) | refine Rp.icmp_ne (tgt := 31) dX7_part_6 (by decide) (fun c6 => ?_) (fun c6 => ?_)
      · exact absurd y c6
      refine Rp.aload_n dX7_part_9 rfl rfl ?_
      refine Rp.iload_n dX7_part_10 rfl ?_
      refine Rp.callV1 M_X7_opens (ci := 7) dX7_part_11 mo_X7_opens lk_X7_123 (by decide) rfl rfl (S _ _ rfl) (Nat.le_of_ble_eq_true rfl) (Nat.le_of_ble_eq_true rfl) (op) (fun v1 h1 p1 x1 => ?_)
      obtain ⟨rfl, F, T1⟩ := p1
      try dsimp only [Option.toList, List.cons_append, List.nil_append, List.append]
      first | ((with_reducible show Rp _ _ _ _ (.int (b2i _) :: _) _ _); refine Rp.if_eqB (tgt := 30) dX7_part_14 (by decide) (fun c14 => ?_) (fun c14 => ?_)) | ((with_reducible show Rp _ _ _ _ (.int (nI _) :: _) _ _); refine Rp.if_eqN (tgt := 30) dX7_part_14 (by decide) (by omega) (fun c14 => ?_) (fun c14 => ?_)) | refine Rp.if_eq (tgt := 30) dX7_part_14 (by decide) (fun c14 => ?_) (fun c14 => ?_)
      · first | (exfalso; omega) | exact absurd c14 (by decide) | exact absurd (by decide) c14
      skip
      have S1 := F.S S
      have R1 := F.R R (by decide)
      have G1 := G.av F T1
      have q1 := ih 7 d (dep + 1) (i + 1) lv a af h1 (by decide) (by omega) (by omega) hi1 hl (by show _ + 0 ≤ _; omega) (B.fr F.av) G1 (by show _ + 3 ≤ f; omega)
      have q1 : Rp (d + 3 * (8 - dep) + 4) M_X7_sum 0 [some (.ref 35), some (.int (nI (dep + 1))), none, none] [] h1 (fun r h' => r = none ∧ cQ h1 ord L TL a af (Prs ord (cT tb TL) (vT tb TL) f 7 (dep + 1) (i + 1) lv a) h') := by
        rw [show d + 3 * (8 - dep) + 4 = d + 3 * (8 - (dep + 1)) + 7 by omega]; exact q1
      have o1 := Prs_ok (ord := ord) (v := vT tb TL) (cT_end tb TL) f 7 (dep + 1) (i + 1) lv a (by decide) hi1 hl
      refine Rp.aload_n dX7_part_17 rfl rfl ?_
      refine Rp.iload_n dX7_part_18 rfl ?_
      refine Rp.iconst (nI 1) dX7_part_19 (by decide) ?_
      first | ((with_reducible show Rp _ _ _ _ (.int (nI _) :: .int (nI _) :: _) _ _); refine Rp.iaddN dX7_part_20 ?_) | refine Rp.iadd dX7_part_20 ?_
      refine Rp.callV1 M_X7_sum (ci := 7) dX7_part_21 mo_X7_sum lk_X7_105 (by decide) rfl rfl (S1 _ _ rfl) (Nat.le_of_ble_eq_true rfl) (Nat.le_of_ble_eq_true rfl) (q1) (fun v1 h1 p1 x1 => ?_)
      obtain ⟨rfl, p1⟩ := p1
      try dsimp only [Option.toList, List.cons_append, List.nil_append, List.append]
      skip
      generalize Prs ord (cT tb TL) (vT tb TL) f 7 (dep + 1) (i + 1) lv a = y at p1 o1 ⊢
      have S2 := p1.1.S S1
      have R2 := p1.1.R R1 (by decide)
      rcases cQ_cases B.1.2.2.1 B.2.2 o1 p1 with ⟨e2, rfl, hb, hz⟩ | ⟨i1, lv1, cd, D, rfl, g1, g2, g3, g4, g5⟩
      · skip
        refine Rp.aload_n dX7_part_24 rfl rfl ?_
        refine Rp.bipush (nI 93) dX7_part_25 (by decide) ?_
        refine Rp.callV1 M_X7_close (ci := 7) dX7_part_27 mo_X7_close lk_X7_127 (by decide) rfl rfl (S2 _ _ rfl) (Nat.le_of_ble_eq_true rfl) (Nat.le_of_ble_eq_true rfl) (bad_close (d + 3 * (8 - dep) + 2) S2 hb (nI 93)) (fun v1 h1 p1 x1 => ?_)
        obtain ⟨rfl, rfl⟩ := p1
        try dsimp only [Option.toList, List.cons_append, List.nil_append, List.append]
        refine Rp.vreturn dX7_part_30 rfl ?_
        exact ⟨rfl, cQ_pre_err F.av p1⟩
      · have g3 := g3 rfl
        have e0 : slM 7 = 0 := rfl
        have B2 := (B.fr F.av).fr p1.1
        have cl := t_close (d + 3 * (8 - dep) + 2) B2.1 B2.tl (s := 93) (by decide) (by decide) (by decide) p1.2.1.1 p1.2.1.2.2.1
        rw [B2.2.1] at cl
        refine Rp.aload_n dX7_part_24 rfl rfl ?_
        refine Rp.bipush (nI 93) dX7_part_25 (by decide) ?_
        refine Rp.callV1 M_X7_close (ci := 7) dX7_part_27 mo_X7_close lk_X7_127 (by decide) rfl rfl (S2 _ _ rfl) (Nat.le_of_ble_eq_true rfl) (Nat.le_of_ble_eq_true rfl) (cl) (fun v1 h1 p1 x1 => ?_)
        obtain ⟨rfl, p2⟩ := p1
        try dsimp only [Option.toList, List.cons_append, List.nil_append, List.append]
        refine Rp.vreturn dX7_part_30 rfl ?_
        exact ⟨rfl, cQ_av F (fun j => F.I 39 j rfl) (cQ_clo (by omega) p1 p2)⟩
  · rw [if_neg e]
    have q := t_part (d + 3 * (8 - dep)) B.1 B.tl hi hT hl ha G (by rw [B.2.1]; exact e) (nI dep)
    rw [B.2.1] at q
    exact q
theorem CC_all {ord : Bool} {tb : Nat → Int32} {L : Nat} {TL : List (Nat × Nat)} : ∀ f, CIx ord tb L TL f := by
  intro f
  induction f with
  | zero =>
    intro md d dep i lv a af h hm hd h1i hi hl ha B G hf
    have : 1 ≤ rkM md := by
      match md, hm with
      | 0, _ | 1, _ | 2, _ | 3, _ | 4, _ | 5, _ | 6, _ | 7, _ | 8, _ | 9, _ | 10, _ | 11, _ => decide
    omega
  | succ f ih =>
    intro md d dep i lv a af h hm hd h1i hi hl ha B G hf
    match md, hm, ha, hf with
    | 0, _, ha, hf => exact Cc_0 ih d dep i lv a af h hd h1i hi hl ha B G hf
    | 1, _, ha, hf => exact Cc_1 ih d dep i lv a af h hd h1i hi hl ha B G hf
    | 2, _, ha, hf => exact fun n a3 hn => Cc_2 ih d dep i lv a af h hd h1i hi hl ha B G hf n a3 hn
    | 3, _, ha, hf => exact fun n hn => Cc_3 ih d dep i lv a af h hd h1i hi hl ha B G hf n hn
    | 4, _, ha, hf => exact fun n a3 hn => Cc_4 ih d dep i lv a af h hd h1i hi hl ha B G hf n a3 hn
    | 5, _, ha, hf => exact fun n hn => Cc_5 ih d dep i lv a af h hd h1i hi hl ha B G hf n hn
    | 6, _, ha, hf => exact fun P x n kk => Cc_6 ih d dep i lv a af h hd h1i hi hl ha B G hf P x n kk
    | 7, _, ha, hf => exact Cc_7 ih d dep i lv a af h hd h1i hi hl ha B G hf
    | 8, _, ha, hf => exact fun n a3 hn => Cc_8 ih d dep i lv a af h hd h1i hi hl ha B G hf n a3 hn
    | 9, _, ha, hf => exact Cc_9 ih d dep i lv a af h hd h1i hi hl ha B G hf
    | 10, _, ha, hf => exact fun n a3 hn => Cc_10 ih d dep i lv a af h hd h1i hi hl ha B G hf n a3 hn
    | 11, _, ha, hf => exact Cc_11 ih d dep i lv a af h hd h1i hi hl ha B G hf
