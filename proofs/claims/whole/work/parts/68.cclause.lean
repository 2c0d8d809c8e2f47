def hdV (vb tm : Nat) (p q ts : PT) : Nat → Int32 := fun w => match w with
  | 0 => nI vb
  | 1 => nI tm
  | 2 => oI (ts.map Prod.fst)
  | 3 => oI (p.map Prod.fst)
  | _ => oI (q.map Prod.fst)
def clQ (h0 : AH) (ord : Bool) (L : Nat) (TL : List (Nat × Nat)) (n a : Nat) (af : Bool) (q : Except Nat CLR) (h' : AH) : Prop := match q with
  | .error e => ME h0 L TL e h'
  | .ok (i', lv', cd, vb, tm, p, q, ts) => MC h0 ord L TL n a af h' i' lv' cd (hdV vb tm p q ts)
theorem MC.hv {h0 h : AH} {ord : Bool} {L : Nat} {TL : List (Nat × Nat)} {n a : Nat} {af : Bool} {i lv : Nat} {cd : List (Nat × Nat)} {hv hv' : Nat → Int32} (M : MC h0 ord L TL n a af h i lv cd hv) (e : ∀ w, w < 5 → hv w = hv' w) : MC h0 ord L TL n a af h i lv cd hv' := ⟨M.1, M.2.1, M.2.2.1, M.2.2.2.1, M.2.2.2.2.1, M.2.2.2.2.2.1, fun w hw => (M.2.2.2.2.2.2 w hw).trans (e w hw)⟩
section Mcl
variable (d : Nat) {h0 h : AH} {ord : Bool} {tb : Nat → Int32} {L : Nat} {TL : List (Nat × Nat)} {n a : Nat} {af : Bool} {i lv : Nat} {cd : List (Nat × Nat)} {hv : Nat → Int32} {f : Nat}
theorem t_markedSum (B0 : CB h0 ord tb L TL) (hn : n < 12) (M : MC h0 ord L TL n a af h i lv cd hv) {w : Nat} (hw : w < 5) (h1i : 1 ≤ i) (hi : i ≤ TL.length) (hl : lv ≤ 50) (ha : a + cd.length ≤ i + 35) (hf : 12 * TL.length + 8 ≤ f) : Rp (d + 33) M_X7_markedSum 0 [some (.ref 35), some (.int (nI w))] [] h (fun r h' => r = none ∧ match Prs ord (cT tb TL) (vT tb TL) f 7 0 i lv (a + cd.length) with
    | .error e => ME h0 L TL e h'
    | .ok (i', lv', cd', _) => MC h0 ord L TL n a af h' i' lv' (cd ++ (cd' ++ [(0, 0)])) (upV hv w (nI (a + cd.length)))) := by
  have B := B0.rc M.1
  have S := B.1.1
  have R := B.1.2.1
  have hT := B.le
  have ez := M.2.1.2.2.2.1
  have mk := t_mark (d + 32) S R hn hw M.2.2.2.2.1 (nI (a + cd.length))
  have M1 := M.mark hw (nI (a + cd.length))
  have B1 := B0.rc M1.1
  have q1 := CC_all (ord := ord) (tb := tb) (L := L) (TL := TL) f 7 (d + 1) 0 i lv (a + cd.length) _ _ (by decide) (by decide) h1i hi hl (by show _ + 0 ≤ _; omega) B1 M1.2.1 (by show _ + 3 ≤ f; omega)
  have q1 : Rp (d + 32) M_X7_sum 0 [some (.ref 35), some (.int (nI 0)), none, none] [] (sI h 38 (5 * n + w) (nI (a + cd.length))) (fun r h' => r = none ∧ cQ (sI h 38 (5 * n + w) (nI (a + cd.length))) ord L TL (a + cd.length) (af || fitC ord cd) (Prs ord (cT tb TL) (vT tb TL) f 7 0 i lv (a + cd.length)) h') := q1
  have o1 := Prs_ok (ord := ord) (v := vT tb TL) (cT_end tb TL) f 7 0 i lv (a + cd.length) (by decide) hi hl
  refine Rp.aload_n dX7_markedSum_0 rfl rfl ?_
  refine Rp.getR dX7_markedSum_1 fk_X7_18 rfl (S _ _ rfl) (R _ _ _ rfl) ?_
  refine Rp.iload_n dX7_markedSum_4 rfl ?_
  refine Rp.aload_n dX7_markedSum_5 rfl rfl ?_
  refine Rp.getR dX7_markedSum_6 fk_X7_18 rfl (S _ _ rfl) (R _ _ _ rfl) ?_
  refine Rp.getI dX7_markedSum_9 fk_X7_86 rfl (S _ _ rfl) ?_
  first | rw [ez] | skip
  refine Rp.callV2 M_X9_mark (ci := 9) dX7_markedSum_12 mo_X9_mark lk_X7_89 (by decide) rfl rfl (S _ _ rfl) (Nat.le_of_ble_eq_true rfl) (Nat.le_of_ble_eq_true rfl) (mk) (fun v1 h1 p1 x1 => ?_)
  rw [p1.1, p1.2]
  try dsimp only [Option.toList, List.cons_append, List.nil_append, List.append]
  refine Rp.aload_n dX7_markedSum_15 rfl rfl ?_
  refine Rp.iconst (nI 0) dX7_markedSum_16 (by decide) ?_
  refine Rp.callV1 M_X7_sum (ci := 7) dX7_markedSum_17 mo_X7_sum lk_X7_105 (by decide) rfl rfl (S _ _ rfl) (Nat.le_of_ble_eq_true rfl) (Nat.le_of_ble_eq_true rfl) (q1) (fun v1 h1 p1 x1 => ?_)
  obtain ⟨rfl, p1⟩ := p1
  try dsimp only [Option.toList, List.cons_append, List.nil_append, List.append]
  skip
  generalize Prs ord (cT tb TL) (vT tb TL) f 7 0 i lv (a + cd.length) = x at p1 o1 ⊢
  have S2 := p1.1.S B1.1.1
  have R2 := p1.1.R B1.1.2.1 (by decide)
  rcases cQ_cases B.1.2.2.1 B.2.2 o1 p1 with ⟨e2, rfl, hb, m, hm, hz⟩ | ⟨i1, lv1, cd1, D, rfl, g1, g2, g3, g4, g5⟩
  · skip
    refine Rp.aload_n dX7_markedSum_20 rfl rfl ?_
    refine Rp.getR dX7_markedSum_21 fk_X7_18 rfl (S2 _ _ rfl) (R2 _ _ _ rfl) ?_
    refine Rp.iconst (nI 0) dX7_markedSum_24 (by decide) ?_
    refine Rp.iconst (nI 0) dX7_markedSum_25 (by decide) ?_
    refine Rp.callV2 M_X9_emit (ci := 9) dX7_markedSum_26 mo_X9_emit lk_X7_98 (by decide) rfl rfl (S2 _ _ rfl) (Nat.le_of_ble_eq_true rfl) (Nat.le_of_ble_eq_true rfl) (bad_emit (d + 32) S2 R2 hm hz) (fun v1 h1 p1 x1 => ?_)
    obtain ⟨p2, p3, p4, x, rfl⟩ := p1
    try dsimp only [Option.toList, List.cons_append, List.nil_append, List.append]
    refine Rp.pop dX7_markedSum_29 rfl ?_
    refine Rp.vreturn dX7_markedSum_30 rfl ?_
    exact ⟨rfl, M1.perr (cQ_bad_end (a' := a) (af' := af) p1 ⟨p2, p3, p4⟩)⟩
  · have g3 := g3 rfl
    have e0 : slM 7 = 0 := rfl
    have em := t_emit (d + 32) S2 R2 (o := 0) (v := 0) (a := a + cd.length + cd1.length) (by decide) (by decide) (by omega) p1.2.1.2.2.2.1
    have M2 := (M1.parse p1).stop
    rw [List.length_append, ← Nat.add_assoc, List.append_assoc] at M2
    refine Rp.aload_n dX7_markedSum_20 rfl rfl ?_
    refine Rp.getR dX7_markedSum_21 fk_X7_18 rfl (S2 _ _ rfl) (R2 _ _ _ rfl) ?_
    refine Rp.iconst (nI 0) dX7_markedSum_24 (by decide) ?_
    refine Rp.iconst (nI 0) dX7_markedSum_25 (by decide) ?_
    refine Rp.callV2 M_X9_emit (ci := 9) dX7_markedSum_26 mo_X9_emit lk_X7_98 (by decide) rfl rfl (S2 _ _ rfl) (Nat.le_of_ble_eq_true rfl) (Nat.le_of_ble_eq_true rfl) (em) (fun v1 h1 p1 x1 => ?_)
    obtain ⟨rfl, rfl⟩ := p1
    try dsimp only [Option.toList, List.cons_append, List.nil_append, List.append]
    refine Rp.pop dX7_markedSum_29 rfl ?_
    refine Rp.vreturn dX7_markedSum_30 rfl ?_
    exact ⟨rfl, M2⟩
theorem t_times (B0 : CB h0 ord tb L TL) (hn : n < 12) (M : MC h0 ord L TL n a af h i lv cd hv) (ha : a + cd.length ≤ 436) : Rp (d + 2) M_X7_times 0 [some (.ref 35)] [] h (fun r h' => r = none ∧ ((cT tb TL i = 50 ∧ 1 ≤ vT tb TL i ∧ vT tb TL i ≤ 20 ∧ MC h0 ord L TL n a af h' (i + 1) lv cd (upV hv 1 (nI (vT tb TL i)))) ∨ (¬ (cT tb TL i = 50 ∧ 1 ≤ vT tb TL i ∧ vT tb TL i ≤ 20) ∧ ME h0 L TL i h'))) := by
  have B := B0.rc M.1
  have S := B.1.1
  have R := B.1.2.1
  have sn := TS_num M.2.1.1
  rw [B.2.1] at sn
  have wr := t_wrong (d + 1) S M.2.1.2.2.1
  have W := M.werr ha
  by_cases e : cT tb TL i = 50
  · have e3 := sn.1.mpr e
    have e8 := sn.2 e
    by_cases e1 : 1 ≤ vT tb TL i ∧ vT tb TL i ≤ 20
    · rw [show min (vT tb TL i) 1001 = vT tb TL i by omega] at e8
      have mk := t_mark (d + 1) S R hn (w := 1) (by decide) M.2.2.2.2.1 (nI (vT tb TL i))
      have M1 := M.mark (w := 1) (by decide) (nI (vT tb TL i))
      have B1 := B0.rc M1.1
      have nx := t_next d B1.1 B1.tl M1.2.1.1 (cT_len (tb := tb) (by rw [e]; decide))
      refine Rp.aload_n dX7_times_0 rfl rfl ?_
      refine Rp.getI dX7_times_1 fk_X7_48 rfl (S _ _ rfl) ?_
      first | rw [e3] | rw [e8] | skip
      refine Rp.bipush (-3) dX7_times_4 (by decide) ?_
      first | ((with_reducible show Rp _ _ _ _ (.int (nI _) :: .int (nI _) :: _) _ _); refine Rp.icmp_neN (tgt := 45) dX7_times_6 (by decide) (by omega) (fun c6 => ?_) (fun c6 => ?_)) | refine Rp.icmp_ne (tgt := 45) dX7_times_6 (by decide) (fun c6 => ?_) (fun c6 => ?_)
      · skip
        first | (exfalso; omega) | exact absurd c6 (by decide) | exact absurd (by decide) c6
      · skip
        refine Rp.aload_n dX7_times_9 rfl rfl ?_
        refine Rp.getI dX7_times_10 fk_X7_102 rfl (S _ _ rfl) ?_
        first | rw [e3] | rw [e8] | skip
        refine Rp.iconst (nI 1) dX7_times_13 (by decide) ?_
        first | ((with_reducible show Rp _ _ _ _ (.int (nI _) :: .int (nI _) :: _) _ _); refine Rp.icmp_ltN (tgt := 45) dX7_times_14 (by decide) (by omega) (fun c14 => ?_) (fun c14 => ?_)) | refine Rp.icmp_lt (tgt := 45) dX7_times_14 (by decide) (fun c14 => ?_) (fun c14 => ?_)
        · skip
          first | (exfalso; omega) | exact absurd c14 (by decide) | exact absurd (by decide) c14
        · skip
          refine Rp.aload_n dX7_times_17 rfl rfl ?_
          refine Rp.getI dX7_times_18 fk_X7_102 rfl (S _ _ rfl) ?_
          first | rw [e3] | rw [e8] | skip
          refine Rp.bipush (nI 20) dX7_times_21 (by decide) ?_
          first | ((with_reducible show Rp _ _ _ _ (.int (nI _) :: .int (nI _) :: _) _ _); refine Rp.icmp_gtN (tgt := 45) dX7_times_23 (by decide) (by omega) (fun c23 => ?_) (fun c23 => ?_)) | refine Rp.icmp_gt (tgt := 45) dX7_times_23 (by decide) (fun c23 => ?_) (fun c23 => ?_)
          · skip
            first | (exfalso; omega) | exact absurd c23 (by decide) | exact absurd (by decide) c23
          · skip
            refine Rp.aload_n dX7_times_26 rfl rfl ?_
            refine Rp.getR dX7_times_27 fk_X7_18 rfl (S _ _ rfl) (R _ _ _ rfl) ?_
            refine Rp.iconst (nI 1) dX7_times_30 (by decide) ?_
            refine Rp.aload_n dX7_times_31 rfl rfl ?_
            refine Rp.getI dX7_times_32 fk_X7_102 rfl (S _ _ rfl) ?_
            first | rw [e3] | rw [e8] | skip
            refine Rp.callV2 M_X9_mark (ci := 9) dX7_times_35 mo_X9_mark lk_X7_89 (by decide) rfl rfl (S _ _ rfl) (Nat.le_of_ble_eq_true rfl) (Nat.le_of_ble_eq_true rfl) (mk) (fun v1 h1 p1 x1 => ?_)
            rw [p1.1, p1.2]
            try dsimp only [Option.toList, List.cons_append, List.nil_append, List.append]
            refine Rp.aload_n dX7_times_38 rfl rfl ?_
            refine Rp.callV0 M_X7_advance (ci := 7) dX7_times_39 mo_X7_advance lk_X7_42 (by decide) rfl rfl (S _ _ rfl) (Nat.le_of_ble_eq_true rfl) (Nat.le_of_ble_eq_true rfl) (nx) (fun v1 h1 p1 x1 => ?_)
            obtain ⟨rfl, F, T1⟩ := p1
            try dsimp only [Option.toList, List.cons_append, List.nil_append, List.append]
            refine Rp.goto (tgt := 49) dX7_times_42 (by decide) ?_
            refine Rp.vreturn dX7_times_49 rfl ?_
            exact ⟨rfl, Or.inl ⟨e, e1.1, e1.2, M1.av F T1⟩⟩
    · skip
      refine Rp.aload_n dX7_times_0 rfl rfl ?_
      refine Rp.getI dX7_times_1 fk_X7_48 rfl (S _ _ rfl) ?_
      first | rw [e3] | rw [e8] | skip
      refine Rp.bipush (-3) dX7_times_4 (by decide) ?_
      first | ((with_reducible show Rp _ _ _ _ (.int (nI _) :: .int (nI _) :: _) _ _); refine Rp.icmp_neN (tgt := 45) dX7_times_6 (by decide) (by omega) (fun c6 => ?_) (fun c6 => ?_)) | refine Rp.icmp_ne (tgt := 45) dX7_times_6 (by decide) (fun c6 => ?_) (fun c6 => ?_)
      · skip
        first | (exfalso; omega) | exact absurd c6 (by decide) | exact absurd (by decide) c6
      · skip
        refine Rp.aload_n dX7_times_9 rfl rfl ?_
        refine Rp.getI dX7_times_10 fk_X7_102 rfl (S _ _ rfl) ?_
        first | rw [e3] | rw [e8] | skip
        refine Rp.iconst (nI 1) dX7_times_13 (by decide) ?_
        first | ((with_reducible show Rp _ _ _ _ (.int (nI _) :: .int (nI _) :: _) _ _); refine Rp.icmp_ltN (tgt := 45) dX7_times_14 (by decide) (by omega) (fun c14 => ?_) (fun c14 => ?_)) | refine Rp.icmp_lt (tgt := 45) dX7_times_14 (by decide) (fun c14 => ?_) (fun c14 => ?_)
        · skip
          refine Rp.aload_n dX7_times_45 rfl rfl ?_
          refine Rp.callV0 M_X7_wrong (ci := 7) dX7_times_46 mo_X7_wrong lk_X7_51 (by decide) rfl rfl (S _ _ rfl) (Nat.le_of_ble_eq_true rfl) (Nat.le_of_ble_eq_true rfl) (wr) (fun v1 h1 p1 x1 => ?_)
          obtain ⟨rfl, rfl⟩ := p1
          try dsimp only [Option.toList, List.cons_append, List.nil_append, List.append]
          refine Rp.vreturn dX7_times_49 rfl ?_
          exact ⟨rfl, Or.inr ⟨fun z => e1 z.2, W⟩⟩
        · skip
          refine Rp.aload_n dX7_times_17 rfl rfl ?_
          refine Rp.getI dX7_times_18 fk_X7_102 rfl (S _ _ rfl) ?_
          first | rw [e3] | rw [e8] | skip
          refine Rp.bipush (nI 20) dX7_times_21 (by decide) ?_
          first | ((with_reducible show Rp _ _ _ _ (.int (nI _) :: .int (nI _) :: _) _ _); refine Rp.icmp_gtN (tgt := 45) dX7_times_23 (by decide) (by omega) (fun c23 => ?_) (fun c23 => ?_)) | refine Rp.icmp_gt (tgt := 45) dX7_times_23 (by decide) (fun c23 => ?_) (fun c23 => ?_)
          · skip
            refine Rp.aload_n dX7_times_45 rfl rfl ?_
            refine Rp.callV0 M_X7_wrong (ci := 7) dX7_times_46 mo_X7_wrong lk_X7_51 (by decide) rfl rfl (S _ _ rfl) (Nat.le_of_ble_eq_true rfl) (Nat.le_of_ble_eq_true rfl) (wr) (fun v1 h1 p1 x1 => ?_)
            obtain ⟨rfl, rfl⟩ := p1
            try dsimp only [Option.toList, List.cons_append, List.nil_append, List.append]
            refine Rp.vreturn dX7_times_49 rfl ?_
            exact ⟨rfl, Or.inr ⟨fun z => e1 z.2, W⟩⟩
          · skip
            first | (exfalso; omega) | exact absurd c23 (by decide) | exact absurd (by decide) c23
  · skip
    refine Rp.aload_n dX7_times_0 rfl rfl ?_
    refine Rp.getI dX7_times_1 fk_X7_48 rfl (S _ _ rfl) ?_
    refine Rp.bipush (-3) dX7_times_4 (by decide) ?_
    first | ((with_reducible show Rp _ _ _ _ (.int (nI _) :: .int (nI _) :: _) _ _); refine Rp.icmp_neN (tgt := 45) dX7_times_6 (by decide) (by omega) (fun c6 => ?_) (fun c6 => ?_)) | refine Rp.icmp_ne (tgt := 45) dX7_times_6 (by decide) (fun c6 => ?_) (fun c6 => ?_)
    · skip
      refine Rp.aload_n dX7_times_45 rfl rfl ?_
      refine Rp.callV0 M_X7_wrong (ci := 7) dX7_times_46 mo_X7_wrong lk_X7_51 (by decide) rfl rfl (S _ _ rfl) (Nat.le_of_ble_eq_true rfl) (Nat.le_of_ble_eq_true rfl) (wr) (fun v1 h1 p1 x1 => ?_)
      obtain ⟨rfl, rfl⟩ := p1
      try dsimp only [Option.toList, List.cons_append, List.nil_append, List.append]
      refine Rp.vreturn dX7_times_49 rfl ?_
      exact ⟨rfl, Or.inr ⟨fun z => e z.1, W⟩⟩
    · skip
      exact absurd (sn.1.mp c6) e
theorem clb128 {e : Nat} (B0 : CB h0 ord tb L TL) (E : ME h0 L TL e h) (v : Value) : Rp (d + 36) M_X7_clause 128 [some (.ref 35), some v] [] h (fun r h' => r = none ∧ ME h0 L TL e h') := by
  have B := B0.rc E.1
  have S := B.1.1
  have hb : gI h 35 3 ≠ -1 := by rw [E.2.1]; exact pT_m1 B.1.2.2.1 B.2.2 e
  refine Rp.aload_n dX7_clause_128 rfl rfl ?_
  refine Rp.ldcS (k := 7) dX7_clause_129 (by decide) rfl rfl ?_
  refine Rp.callV1 M_X7_goesOnWith (ci := 7) dX7_clause_131 mo_X7_goesOnWith lk_X7_76 (by decide) rfl rfl (S _ _ rfl) (Nat.le_of_ble_eq_true rfl) (Nat.le_of_ble_eq_true rfl) (bad_goes (d + 30) S hb 7) (fun v1 h1 p1 x1 => ?_)
  rw [p1.1, p1.2]
  try dsimp only [Option.toList, List.cons_append, List.nil_append, List.append]
  first | ((with_reducible show Rp _ _ _ _ (.int (b2i _) :: _) _ _); refine Rp.if_eqB (tgt := 167) dX7_clause_134 (by decide) (fun c134 => ?_) (fun c134 => ?_)) | ((with_reducible show Rp _ _ _ _ (.int (nI _) :: _) _ _); refine Rp.if_eqN (tgt := 167) dX7_clause_134 (by decide) (by omega) (fun c134 => ?_) (fun c134 => ?_)) | refine Rp.if_eq (tgt := 167) dX7_clause_134 (by decide) (fun c134 => ?_) (fun c134 => ?_)
  · skip
    refine Rp.vreturn dX7_clause_167 rfl ?_
    exact ⟨rfl, E⟩
  · skip
    first | (exfalso; omega) | exact absurd c134 (by decide) | exact absurd (by decide) c134
theorem clb108 {e : Nat} (B0 : CB h0 ord tb L TL) (E : ME h0 L TL e h) (v : Value) : Rp (d + 36) M_X7_clause 108 [some (.ref 35), some v] [] h (fun r h' => r = none ∧ ME h0 L TL e h') := by
  have B := B0.rc E.1
  have S := B.1.1
  have ho := B.1.2.2.2.2
  have hb : gI h 35 3 ≠ -1 := by rw [E.2.1]; exact pT_m1 B.1.2.2.1 B.2.2 e
  have k1 := clb128 d B0 E v
  refine Rp.aload_n dX7_clause_108 rfl rfl ?_
  refine Rp.getI dX7_clause_109 fk_X7_29 rfl (S _ _ rfl) ?_
  first | rw [ho] | skip
  first | ((with_reducible show Rp _ _ _ _ (.int (b2i _) :: _) _ _); refine Rp.if_eqB (tgt := 128) dX7_clause_112 (by decide) (fun c112 => ?_) (fun c112 => ?_)) | ((with_reducible show Rp _ _ _ _ (.int (nI _) :: _) _ _); refine Rp.if_eqN (tgt := 128) dX7_clause_112 (by decide) (by omega) (fun c112 => ?_) (fun c112 => ?_)) | refine Rp.if_eq (tgt := 128) dX7_clause_112 (by decide) (fun c112 => ?_) (fun c112 => ?_)
  · skip
    exact k1
  · skip
    refine Rp.aload_n dX7_clause_115 rfl rfl ?_
    refine Rp.ldcS (k := 6) dX7_clause_116 (by decide) rfl rfl ?_
    refine Rp.callV1 M_X7_goesOnWith (ci := 7) dX7_clause_118 mo_X7_goesOnWith lk_X7_76 (by decide) rfl rfl (S _ _ rfl) (Nat.le_of_ble_eq_true rfl) (Nat.le_of_ble_eq_true rfl) (bad_goes (d + 30) S hb 6) (fun v1 h1 p1 x1 => ?_)
    rw [p1.1, p1.2]
    try dsimp only [Option.toList, List.cons_append, List.nil_append, List.append]
    first | ((with_reducible show Rp _ _ _ _ (.int (b2i _) :: _) _ _); refine Rp.if_eqB (tgt := 128) dX7_clause_121 (by decide) (fun c121 => ?_) (fun c121 => ?_)) | ((with_reducible show Rp _ _ _ _ (.int (nI _) :: _) _ _); refine Rp.if_eqN (tgt := 128) dX7_clause_121 (by decide) (by omega) (fun c121 => ?_) (fun c121 => ?_)) | refine Rp.if_eq (tgt := 128) dX7_clause_121 (by decide) (fun c121 => ?_) (fun c121 => ?_)
    · skip
      exact k1
    · skip
      first | (exfalso; omega) | exact absurd c121 (by decide) | exact absurd (by decide) c121
theorem clb66 {e vb : Nat} (B0 : CB h0 ord tb L TL) (hv4 : vb < 4) (E : ME h0 L TL e h) : Rp (d + 36) M_X7_clause 66 [some (.ref 35), some (.int (nI vb))] [] h (fun r h' => r = none ∧ ME h0 L TL e h') := by
  have B := B0.rc E.1
  have S := B.1.1
  have ho := B.1.2.2.2.2
  have hb : gI h 35 3 ≠ -1 := by rw [E.2.1]; exact pT_m1 B.1.2.2.1 B.2.2 e
  have k1 := clb108 d B0 E (.int (nI vb))
  have w1 := bad_wrong (d + 35) S hb
  refine Rp.aload_n dX7_clause_66 rfl rfl ?_
  refine Rp.getI dX7_clause_67 fk_X7_29 rfl (S _ _ rfl) ?_
  first | rw [ho] | skip
  first | ((with_reducible show Rp _ _ _ _ (.int (b2i _) :: _) _ _); refine Rp.if_eqB (tgt := 108) dX7_clause_70 (by decide) (fun c70 => ?_) (fun c70 => ?_)) | ((with_reducible show Rp _ _ _ _ (.int (nI _) :: _) _ _); refine Rp.if_eqN (tgt := 108) dX7_clause_70 (by decide) (by omega) (fun c70 => ?_) (fun c70 => ?_)) | refine Rp.if_eq (tgt := 108) dX7_clause_70 (by decide) (fun c70 => ?_) (fun c70 => ?_)
  · skip
    exact k1
  · skip
    refine Rp.iload_n dX7_clause_73 rfl ?_
    refine Rp.iconst (nI 1) dX7_clause_74 (by decide) ?_
    first | ((with_reducible show Rp _ _ _ _ (.int (nI _) :: .int (nI _) :: _) _ _); refine Rp.icmp_gtN (tgt := 108) dX7_clause_75 (by decide) (by omega) (fun c75 => ?_) (fun c75 => ?_)) | refine Rp.icmp_gt (tgt := 108) dX7_clause_75 (by decide) (fun c75 => ?_) (fun c75 => ?_)
    · skip
      exact k1
    · skip
      refine Rp.aload_n dX7_clause_78 rfl rfl ?_
      refine Rp.iload_n dX7_clause_79 rfl ?_
      first | ((with_reducible show Rp _ _ _ _ (.int (b2i _) :: _) _ _); refine Rp.if_neB (tgt := 88) dX7_clause_80 (by decide) (fun c80 => ?_) (fun c80 => ?_)) | ((with_reducible show Rp _ _ _ _ (.int (nI _) :: _) _ _); refine Rp.if_neN (tgt := 88) dX7_clause_80 (by decide) (by omega) (fun c80 => ?_) (fun c80 => ?_)) | refine Rp.if_ne (tgt := 88) dX7_clause_80 (by decide) (fun c80 => ?_) (fun c80 => ?_)
      · skip
        refine Rp.ldcS (k := 5) dX7_clause_88 (by decide) rfl rfl ?_
        refine Rp.callV1 M_X7_goesOnWith (ci := 7) dX7_clause_90 mo_X7_goesOnWith lk_X7_76 (by decide) rfl rfl (S _ _ rfl) (Nat.le_of_ble_eq_true rfl) (Nat.le_of_ble_eq_true rfl) (bad_goes (d + 30) S hb _) (fun v1 h1 p1 x1 => ?_)
        rw [p1.1, p1.2]
        try dsimp only [Option.toList, List.cons_append, List.nil_append, List.append]
        first | ((with_reducible show Rp _ _ _ _ (.int (b2i _) :: _) _ _); refine Rp.if_eqB (tgt := 104) dX7_clause_93 (by decide) (fun c93 => ?_) (fun c93 => ?_)) | ((with_reducible show Rp _ _ _ _ (.int (nI _) :: _) _ _); refine Rp.if_eqN (tgt := 104) dX7_clause_93 (by decide) (by omega) (fun c93 => ?_) (fun c93 => ?_)) | refine Rp.if_eq (tgt := 104) dX7_clause_93 (by decide) (fun c93 => ?_) (fun c93 => ?_)
        · skip
          refine Rp.aload_n dX7_clause_104 rfl rfl ?_
          refine Rp.callV0 M_X7_wrong (ci := 7) dX7_clause_105 mo_X7_wrong lk_X7_51 (by decide) rfl rfl (S _ _ rfl) (Nat.le_of_ble_eq_true rfl) (Nat.le_of_ble_eq_true rfl) (w1) (fun v1 h1 p1 x1 => ?_)
          obtain ⟨rfl, rfl⟩ := p1
          try dsimp only [Option.toList, List.cons_append, List.nil_append, List.append]
          exact k1
        · skip
          first | (exfalso; omega) | exact absurd c93 (by decide) | exact absurd (by decide) c93
      · skip
        refine Rp.ldcS (k := 4) dX7_clause_83 (by decide) rfl rfl ?_
        refine Rp.goto (tgt := 90) dX7_clause_85 (by decide) ?_
        refine Rp.callV1 M_X7_goesOnWith (ci := 7) dX7_clause_90 mo_X7_goesOnWith lk_X7_76 (by decide) rfl rfl (S _ _ rfl) (Nat.le_of_ble_eq_true rfl) (Nat.le_of_ble_eq_true rfl) (bad_goes (d + 30) S hb _) (fun v1 h1 p1 x1 => ?_)
        rw [p1.1, p1.2]
        try dsimp only [Option.toList, List.cons_append, List.nil_append, List.append]
        first | ((with_reducible show Rp _ _ _ _ (.int (b2i _) :: _) _ _); refine Rp.if_eqB (tgt := 104) dX7_clause_93 (by decide) (fun c93 => ?_) (fun c93 => ?_)) | ((with_reducible show Rp _ _ _ _ (.int (nI _) :: _) _ _); refine Rp.if_eqN (tgt := 104) dX7_clause_93 (by decide) (by omega) (fun c93 => ?_) (fun c93 => ?_)) | refine Rp.if_eq (tgt := 104) dX7_clause_93 (by decide) (fun c93 => ?_) (fun c93 => ?_)
        · skip
          refine Rp.aload_n dX7_clause_104 rfl rfl ?_
          refine Rp.callV0 M_X7_wrong (ci := 7) dX7_clause_105 mo_X7_wrong lk_X7_51 (by decide) rfl rfl (S _ _ rfl) (Nat.le_of_ble_eq_true rfl) (Nat.le_of_ble_eq_true rfl) (w1) (fun v1 h1 p1 x1 => ?_)
          obtain ⟨rfl, rfl⟩ := p1
          try dsimp only [Option.toList, List.cons_append, List.nil_append, List.append]
          exact k1
        · skip
          first | (exfalso; omega) | exact absurd c93 (by decide) | exact absurd (by decide) c93
theorem cl128 (B0 : CB h0 ord tb L TL) (hn : n < 12) {vb tm : Nat} {p q : PT} (M : MC h0 ord L TL n a af h i lv cd (hdV vb tm p q none)) (h1i : 1 ≤ i) (hi : i ≤ TL.length) (hl : lv ≤ 50) (ha : a + cd.length ≤ i + 35) (hf : 12 * TL.length + 8 ≤ f) (v : Value) : Rp (d + 36) M_X7_clause 128 [some (.ref 35), some v] [] h (fun r h' => r = none ∧ clQ h0 ord L TL n a af (clT ord (cT tb TL) (vT tb TL) f i lv a cd vb tm p q) h') := by
  have B := B0.rc M.1
  have S := B.1.1
  have R := B.1.2.1
  have hT := B.le
  have go := t_goes (d + 30) B.1 B.tl (k := 7) (by decide) (by decide) M.2.1.1 M.2.1.2.2.1
  rw [B.2.1] at go
  refine Rp.aload_n dX7_clause_128 rfl rfl ?_
  refine Rp.ldcS (k := 7) dX7_clause_129 (by decide) rfl rfl ?_
  refine Rp.callV1 M_X7_goesOnWith (ci := 7) dX7_clause_131 mo_X7_goesOnWith lk_X7_76 (by decide) rfl rfl (S _ _ rfl) (Nat.le_of_ble_eq_true rfl) (Nat.le_of_ble_eq_true rfl) (go) (fun v1 h1 p1 x1 => ?_)
  skip
  try dsimp only [Option.toList, List.cons_append, List.nil_append, List.append]
  skip
  rcases p1 with ⟨e, rfl, F, T1⟩ | ⟨e, rfl, rfl⟩
  · have e : cT tb TL i = 5 := e
    have hi1 : i + 1 ≤ TL.length := cT_len (tb := tb) (by rw [e]; decide)
    have M1 := M.av F T1
    have B1 := B0.rc M1.1
    have S1 := B1.1.1
    have R1 := B1.1.2.1
    have ez := M1.2.1.2.2.2.1
    have mk := t_mark (d + 35) S1 R1 hn (w := 2) (by decide) M1.2.2.2.2.1 (nI (a + cd.length))
    have M2 := M1.mark (w := 2) (by decide) (nI (a + cd.length))
    have B2 := B0.rc M2.1
    have q1 := CC_all (ord := ord) (tb := tb) (L := L) (TL := TL) f 0 d 0 (i + 1) lv (a + cd.length) _ _ (by decide) (by decide) (by omega) hi1 hl (by show _ + 0 ≤ _; omega) B2 M2.2.1 (by show _ + 7 ≤ f; omega)
    have q1 : Rp (d + 35) M_X7_anyOf 0 [some (.ref 35), some (.int (nI 0)), none, none] [] (sI h1 38 (5 * n + 2) (nI (a + cd.length))) (fun r h' => r = none ∧ cQ (sI h1 38 (5 * n + 2) (nI (a + cd.length))) ord L TL (a + cd.length) (af || fitC ord cd) (Prs ord (cT tb TL) (vT tb TL) f 0 0 (i + 1) lv (a + cd.length)) h') := q1
    have o1 := Prs_ok (ord := ord) (v := vT tb TL) (cT_end tb TL) f 0 0 (i + 1) lv (a + cd.length) (by decide) hi1 hl
    dsimp only [Option.toList, List.cons_append, List.nil_append, List.append]
    first | ((with_reducible show Rp _ _ _ _ (.int (b2i _) :: _) _ _); refine Rp.if_eqB (tgt := 167) dX7_clause_134 (by decide) (fun c134 => ?_) (fun c134 => ?_)) | ((with_reducible show Rp _ _ _ _ (.int (nI _) :: _) _ _); refine Rp.if_eqN (tgt := 167) dX7_clause_134 (by decide) (by omega) (fun c134 => ?_) (fun c134 => ?_)) | refine Rp.if_eq (tgt := 167) dX7_clause_134 (by decide) (fun c134 => ?_) (fun c134 => ?_)
    · first | (exfalso; omega) | exact absurd c134 (by decide) | exact absurd (by decide) c134
    refine Rp.aload_n dX7_clause_137 rfl rfl ?_
    refine Rp.getR dX7_clause_138 fk_X7_18 rfl (S1 _ _ rfl) (R1 _ _ _ rfl) ?_
    refine Rp.iconst (nI 2) dX7_clause_141 (by decide) ?_
    refine Rp.aload_n dX7_clause_142 rfl rfl ?_
    refine Rp.getR dX7_clause_143 fk_X7_18 rfl (S1 _ _ rfl) (R1 _ _ _ rfl) ?_
    refine Rp.getI dX7_clause_146 fk_X7_86 rfl (S1 _ _ rfl) ?_
    first | rw [ez] | skip
    refine Rp.callV2 M_X9_mark (ci := 9) dX7_clause_149 mo_X9_mark lk_X7_89 (by decide) rfl rfl (S1 _ _ rfl) (Nat.le_of_ble_eq_true rfl) (Nat.le_of_ble_eq_true rfl) (mk) (fun v1 h1 p1 x1 => ?_)
    rw [p1.1, p1.2]
    try dsimp only [Option.toList, List.cons_append, List.nil_append, List.append]
    refine Rp.aload_n dX7_clause_152 rfl rfl ?_
    refine Rp.iconst (nI 0) dX7_clause_153 (by decide) ?_
    refine Rp.callV1 M_X7_anyOf (ci := 7) dX7_clause_154 mo_X7_anyOf lk_X7_93 (by decide) rfl rfl (S1 _ _ rfl) (Nat.le_of_ble_eq_true rfl) (Nat.le_of_ble_eq_true rfl) (q1) (fun v1 h1 p1 x1 => ?_)
    obtain ⟨rfl, p1⟩ := p1
    try dsimp only [Option.toList, List.cons_append, List.nil_append, List.append]
    skip
    unfold clT
    rw [if_pos e]
    generalize Prs ord (cT tb TL) (vT tb TL) f 0 0 (i + 1) lv (a + cd.length) = x at p1 o1 ⊢
    have S2 := p1.1.S B2.1.1
    have R2 := p1.1.R B2.1.2.1 (by decide)
    rcases cQ_cases B.1.2.2.1 B.2.2 o1 p1 with ⟨e2, rfl, hb, m, hm, hz⟩ | ⟨i1, lv1, cd1, D, rfl, g1, g2, g3, g4, g5⟩
    · skip
      refine Rp.aload_n dX7_clause_157 rfl rfl ?_
      refine Rp.getR dX7_clause_158 fk_X7_18 rfl (S2 _ _ rfl) (R2 _ _ _ rfl) ?_
      refine Rp.iconst (nI 0) dX7_clause_161 (by decide) ?_
      refine Rp.iconst (nI 0) dX7_clause_162 (by decide) ?_
      refine Rp.callV2 M_X9_emit (ci := 9) dX7_clause_163 mo_X9_emit lk_X7_98 (by decide) rfl rfl (S2 _ _ rfl) (Nat.le_of_ble_eq_true rfl) (Nat.le_of_ble_eq_true rfl) (bad_emit (d + 35) S2 R2 hm hz) (fun v1 h1 p1 x1 => ?_)
      obtain ⟨p2, p3, p4, x, rfl⟩ := p1
      try dsimp only [Option.toList, List.cons_append, List.nil_append, List.append]
      refine Rp.pop dX7_clause_166 rfl ?_
      refine Rp.vreturn dX7_clause_167 rfl ?_
      exact ⟨rfl, M2.perr (cQ_bad_end (a' := a) (af' := af) p1 ⟨p2, p3, p4⟩)⟩
    · have g3 := g3 rfl
      have e0 : slM 0 = 0 := rfl
      have em := t_emit (d + 35) S2 R2 (o := 0) (v := 0) (a := a + cd.length + cd1.length) (by decide) (by decide) (by omega) p1.2.1.2.2.2.1
      have M3 := (M2.parse p1).stop
      rw [List.length_append, ← Nat.add_assoc, List.append_assoc] at M3
      have M4 := M3.hv (hv' := hdV vb tm p q (some (a + cd.length, D))) (fun w hw => by
        match w, hw with
        | 0, _ => rfl
        | 1, _ => rfl
        | 2, _ => rfl
        | 3, _ => rfl
        | 4, _ => rfl)
      refine Rp.aload_n dX7_clause_157 rfl rfl ?_
      refine Rp.getR dX7_clause_158 fk_X7_18 rfl (S2 _ _ rfl) (R2 _ _ _ rfl) ?_
      refine Rp.iconst (nI 0) dX7_clause_161 (by decide) ?_
      refine Rp.iconst (nI 0) dX7_clause_162 (by decide) ?_
      refine Rp.callV2 M_X9_emit (ci := 9) dX7_clause_163 mo_X9_emit lk_X7_98 (by decide) rfl rfl (S2 _ _ rfl) (Nat.le_of_ble_eq_true rfl) (Nat.le_of_ble_eq_true rfl) (em) (fun v1 h1 p1 x1 => ?_)
      obtain ⟨rfl, rfl⟩ := p1
      try dsimp only [Option.toList, List.cons_append, List.nil_append, List.append]
      refine Rp.pop dX7_clause_166 rfl ?_
      refine Rp.vreturn dX7_clause_167 rfl ?_
      exact ⟨rfl, M4⟩
  · dsimp only [Option.toList, List.cons_append, List.nil_append, List.append]
    unfold clT
    rw [if_neg (show ¬ cT tb TL i = 5 from e)]
    first | ((with_reducible show Rp _ _ _ _ (.int (b2i _) :: _) _ _); refine Rp.if_eqB (tgt := 167) dX7_clause_134 (by decide) (fun c134 => ?_) (fun c134 => ?_)) | ((with_reducible show Rp _ _ _ _ (.int (nI _) :: _) _ _); refine Rp.if_eqN (tgt := 167) dX7_clause_134 (by decide) (by omega) (fun c134 => ?_) (fun c134 => ?_)) | refine Rp.if_eq (tgt := 167) dX7_clause_134 (by decide) (fun c134 => ?_) (fun c134 => ?_)
    · skip
      refine Rp.vreturn dX7_clause_167 rfl ?_
      exact ⟨rfl, M⟩
    · skip
      first | (exfalso; omega) | exact absurd c134 (by decide) | exact absurd (by decide) c134
theorem cl108 (B0 : CB h0 ord tb L TL) (hn : n < 12) {vb : Nat} {p q : PT} (M : MC h0 ord L TL n a af h i lv cd (hdV vb 1 p q none)) (h1i : 1 ≤ i) (hi : i ≤ TL.length) (hl : lv ≤ 50) (ha : a + cd.length ≤ i + 35) (hf : 12 * TL.length + 8 ≤ f) (v : Value) : Rp (d + 36) M_X7_clause 108 [some (.ref 35), some v] [] h (fun r h' => r = none ∧ clQ h0 ord L TL n a af (clM ord (cT tb TL) (vT tb TL) f i lv a cd vb p q) h') := by
  have B := B0.rc M.1
  have S := B.1.1
  have R := B.1.2.1
  have hT := B.le
  have ho := B.1.2.2.2.2
  unfold clM
  cases ord with
  | false =>
    rw [show b2i false = nI 0 from rfl] at ho
    rw [if_neg (fun z => nomatch z.1)]
    have k1 := cl128 d B0 hn M h1i hi hl ha hf v
    refine Rp.aload_n dX7_clause_108 rfl rfl ?_
    refine Rp.getI dX7_clause_109 fk_X7_29 rfl (S _ _ rfl) ?_
    first | rw [ho] | skip
    first | ((with_reducible show Rp _ _ _ _ (.int (b2i _) :: _) _ _); refine Rp.if_eqB (tgt := 128) dX7_clause_112 (by decide) (fun c112 => ?_) (fun c112 => ?_)) | ((with_reducible show Rp _ _ _ _ (.int (nI _) :: _) _ _); refine Rp.if_eqN (tgt := 128) dX7_clause_112 (by decide) (by omega) (fun c112 => ?_) (fun c112 => ?_)) | refine Rp.if_eq (tgt := 128) dX7_clause_112 (by decide) (fun c112 => ?_) (fun c112 => ?_)
    · skip
      exact k1
    · skip
      first | (exfalso; omega) | exact absurd c112 (by decide) | exact absurd (by decide) c112
  | true =>
    rw [show b2i true = nI 1 from rfl] at ho
    have go := t_goes (d + 30) B.1 B.tl (k := 6) (by decide) (by decide) M.2.1.1 M.2.1.2.2.1
    rw [B.2.1] at go
    refine Rp.aload_n dX7_clause_108 rfl rfl ?_
    refine Rp.getI dX7_clause_109 fk_X7_29 rfl (S _ _ rfl) ?_
    first | rw [ho] | skip
    first | ((with_reducible show Rp _ _ _ _ (.int (b2i _) :: _) _ _); refine Rp.if_eqB (tgt := 128) dX7_clause_112 (by decide) (fun c112 => ?_) (fun c112 => ?_)) | ((with_reducible show Rp _ _ _ _ (.int (nI _) :: _) _ _); refine Rp.if_eqN (tgt := 128) dX7_clause_112 (by decide) (by omega) (fun c112 => ?_) (fun c112 => ?_)) | refine Rp.if_eq (tgt := 128) dX7_clause_112 (by decide) (fun c112 => ?_) (fun c112 => ?_)
    · first | (exfalso; omega) | exact absurd c112 (by decide) | exact absurd (by decide) c112
    refine Rp.aload_n dX7_clause_115 rfl rfl ?_
    refine Rp.ldcS (k := 6) dX7_clause_116 (by decide) rfl rfl ?_
    refine Rp.callV1 M_X7_goesOnWith (ci := 7) dX7_clause_118 mo_X7_goesOnWith lk_X7_76 (by decide) rfl rfl (S _ _ rfl) (Nat.le_of_ble_eq_true rfl) (Nat.le_of_ble_eq_true rfl) (go) (fun v1 h1 p1 x1 => ?_)
    skip
    try dsimp only [Option.toList, List.cons_append, List.nil_append, List.append]
    skip
    rcases p1 with ⟨e, rfl, F, T1⟩ | ⟨e, rfl, rfl⟩
    · have e : cT tb TL i = 29 := e
      rw [if_pos ⟨rfl, e⟩]
      have hi1 : i + 1 ≤ TL.length := cT_len (tb := tb) (by rw [e]; decide)
      have M1 := M.av F T1
      have B1 := B0.rc M1.1
      have S1 := B1.1.1
      have R1 := B1.1.2.1
      have tm := t_times (d + 33) B0 hn M1 (by omega)
      dsimp only [Option.toList, List.cons_append, List.nil_append, List.append]
      first | ((with_reducible show Rp _ _ _ _ (.int (b2i _) :: _) _ _); refine Rp.if_eqB (tgt := 128) dX7_clause_121 (by decide) (fun c121 => ?_) (fun c121 => ?_)) | ((with_reducible show Rp _ _ _ _ (.int (nI _) :: _) _ _); refine Rp.if_eqN (tgt := 128) dX7_clause_121 (by decide) (by omega) (fun c121 => ?_) (fun c121 => ?_)) | refine Rp.if_eq (tgt := 128) dX7_clause_121 (by decide) (fun c121 => ?_) (fun c121 => ?_)
      · first | (exfalso; omega) | exact absurd c121 (by decide) | exact absurd (by decide) c121
      refine Rp.aload_n dX7_clause_124 rfl rfl ?_
      refine Rp.callV0 M_X7_times (ci := 7) dX7_clause_125 mo_X7_times lk_X7_82 (by decide) rfl rfl (S1 _ _ rfl) (Nat.le_of_ble_eq_true rfl) (Nat.le_of_ble_eq_true rfl) (tm) (fun v1 h1 p1 x1 => ?_)
      obtain ⟨rfl, p1⟩ := p1
      try dsimp only [Option.toList, List.cons_append, List.nil_append, List.append]
      skip
      rcases p1 with ⟨y1, y2, y3, M2⟩ | ⟨y1, E⟩
      · rw [if_pos ⟨y1, y2, y3⟩]
        have M3 := M2.hv (hv' := hdV vb (vT tb TL (i + 1)) p q none) (fun w hw => by
          match w, hw with
          | 0, _ => rfl
          | 1, _ => rfl
          | 2, _ => rfl
          | 3, _ => rfl
          | 4, _ => rfl)
        exact cl128 d B0 hn M3 (by omega) (cT_len (tb := tb) (by rw [y1]; decide)) hl (by omega) hf v
      · rw [if_neg y1]
        exact clb128 d B0 E v
    · rw [if_neg (fun z => e z.2)]
      have k1 := cl128 d B0 hn M h1i hi hl ha hf v
      dsimp only [Option.toList, List.cons_append, List.nil_append, List.append]
      first | ((with_reducible show Rp _ _ _ _ (.int (b2i _) :: _) _ _); refine Rp.if_eqB (tgt := 128) dX7_clause_121 (by decide) (fun c121 => ?_) (fun c121 => ?_)) | ((with_reducible show Rp _ _ _ _ (.int (nI _) :: _) _ _); refine Rp.if_eqN (tgt := 128) dX7_clause_121 (by decide) (by omega) (fun c121 => ?_) (fun c121 => ?_)) | refine Rp.if_eq (tgt := 128) dX7_clause_121 (by decide) (fun c121 => ?_) (fun c121 => ?_)
      · skip
        exact k1
      · skip
        first | (exfalso; omega) | exact absurd c121 (by decide) | exact absurd (by decide) c121
end Mcl
