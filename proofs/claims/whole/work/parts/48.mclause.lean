def rdC (h : AH) (q : Except Nat CLR) (h' : AH) : Prop := match q with
  | .error e => ∃ t l, h' = rdH h t l (gI h am_placed e)
  | .ok (i, lv, _) => h' = rdH h (nI i) (nI lv) (-1)
section Rc
variable (d : Nat) {h : AH} {ord : Bool} {c v : Nat → Nat} {T f : Nat}
theorem r_test (S : ShOK h) (R : RfOK h) (K : TK h ord c v T) (hf : 12 * T + 8 ≤ f) {i lv : Nat} (hi : i ≤ T) (hl : lv ≤ 50) (a : Nat) : Rp (d + 56) M_X12_readTest 0 [some (.ref aM), some (.int (nI 0))] [] (rdH h (nI i) (nI lv) (-1)) (fun r h' => r = none ∧ rdQ h (Prs ord c v f 0 0 i lv a) h') := A_all S R K f 0 d 0 i lv a (by decide) (by decide) hi hl (by show _ + 7 ≤ f; omega)
theorem r_sum (S : ShOK h) (R : RfOK h) (K : TK h ord c v T) (hf : 12 * T + 8 ≤ f) {i lv : Nat} (hi : i ≤ T) (hl : lv ≤ 50) (a : Nat) : Rp (d + 53) M_X12_readSum 0 [some (.ref aM), some (.int (nI 0))] [] (rdH h (nI i) (nI lv) (-1)) (fun r h' => r = none ∧ rdQ h (Prs ord c v f 7 0 i lv a) h') := A_all S R K f 7 d 0 i lv a (by decide) (by decide) hi hl (by show _ + 3 ≤ f; omega)

theorem readClauseT (S : ShOK h) (R : RfOK h) (K : TK h ord c v T) (hf : 12 * T + 8 ≤ f) {i lv : Nat} (hi : i ≤ T) (hl : lv ≤ 50) (a : Nat) (cd : List (Nat × Nat)) (vb tm : Nat) (p q : PT) : Rp (d + 57) M_X12_readClause 37 [some (.ref aM)] [] (rdH h (nI i) (nI lv) (-1)) (fun r h' => r = none ∧ rdC h (clT ord c v f i lv a cd vb tm p q) h') := by
  have hc := K.2.1
  unfold clT
  refine Rp.aload_n dX12_readClause_37 rfl rfl ?_
  refine Rp.iconst (nI 5) dX12_readClause_38 (by decide) ?_
  refine Rp.callV1 M_X12_takes0 (ci := 12) dX12_readClause_39 mo_X12_takes0 lk_X12_203 (by decide) rfl rfl (S _ _ rfl) (Nat.le_of_ble_eq_true rfl) (Nat.le_of_ble_eq_true rfl) (s_takes (d + 55) S R K hi (nI lv) 5 (by decide)) (fun v1 h1 p1 x1 => ?_)
  skip
  try dsimp only [Option.toList, List.cons_append, List.nil_append, List.append]
  skip
  rcases p1 with ⟨e, rfl, rfl⟩ | ⟨e, rfl, rfl⟩
  · rw [if_pos e]
    dsimp only [Option.toList, List.cons_append, List.nil_append, List.append]
    have hi1 := lt_of_code hc hi (by rw [e]; decide)
    first | ((with_reducible show Rp _ _ _ _ (.int (b2i _) :: _) _ _); refine Rp.if_eqB (tgt := 50) dX12_readClause_42 (by decide) (fun c42 => ?_) (fun c42 => ?_)) | ((with_reducible show Rp _ _ _ _ (.int (nI _) :: _) _ _); refine Rp.if_eqN (tgt := 50) dX12_readClause_42 (by decide) (by omega) (fun c42 => ?_) (fun c42 => ?_)) | refine Rp.if_eq (tgt := 50) dX12_readClause_42 (by decide) (fun c42 => ?_) (fun c42 => ?_)
    · skip
      first | (exfalso; omega) | exact absurd c42 (by decide) | exact absurd (by decide) c42
    · skip
      refine Rp.aload_n dX12_readClause_45 rfl rfl ?_
      refine Rp.iconst (nI 0) dX12_readClause_46 (by decide) ?_
      refine Rp.callV1 M_X12_readTest (ci := 12) dX12_readClause_47 mo_X12_readTest lk_X12_219 (by decide) rfl rfl (S _ _ rfl) (Nat.le_of_ble_eq_true rfl) (Nat.le_of_ble_eq_true rfl) (r_test d S R K hf hi1 hl (a + cd.length)) (fun v1 h1 p1 x1 => ?_)
      obtain ⟨rfl, p1⟩ := p1
      try dsimp only [Option.toList, List.cons_append, List.nil_append, List.append]
      refine Rp.vreturn dX12_readClause_50 rfl ?_
      refine ⟨rfl, ?_⟩
      match Prs ord c v f 0 0 (i + 1) lv (a + cd.length), p1 with
      | .error e, p1 => exact p1
      | .ok (i2, lv2, cd2, D2), p1 => exact p1
  · rw [if_neg e]
    dsimp only [Option.toList, List.cons_append, List.nil_append, List.append]
    first | ((with_reducible show Rp _ _ _ _ (.int (b2i _) :: _) _ _); refine Rp.if_eqB (tgt := 50) dX12_readClause_42 (by decide) (fun c42 => ?_) (fun c42 => ?_)) | ((with_reducible show Rp _ _ _ _ (.int (nI _) :: _) _ _); refine Rp.if_eqN (tgt := 50) dX12_readClause_42 (by decide) (by omega) (fun c42 => ?_) (fun c42 => ?_)) | refine Rp.if_eq (tgt := 50) dX12_readClause_42 (by decide) (fun c42 => ?_) (fun c42 => ?_)
    · skip
      refine Rp.vreturn dX12_readClause_50 rfl ?_
      exact ⟨rfl, rfl⟩
    · skip
      first | (exfalso; omega) | exact absurd c42 (by decide) | exact absurd (by decide) c42
theorem readClauseTb (S : ShOK h) (R : RfOK h) (t l b : Int32) (hb : b ≠ -1) : Rp (d + 57) M_X12_readClause 37 [some (.ref aM)] [] (rdH h t l b) (fun r h' => h' = rdH h t l b ∧ r = none) := by
  refine Rp.aload_n dX12_readClause_37 rfl rfl ?_
  refine Rp.iconst (nI 5) dX12_readClause_38 (by decide) ?_
  refine Rp.callV1 M_X12_takes0 (ci := 12) dX12_readClause_39 mo_X12_takes0 lk_X12_203 (by decide) rfl rfl (S _ _ rfl) (Nat.le_of_ble_eq_true rfl) (Nat.le_of_ble_eq_true rfl) (s_takesF (d + 55) S R _ t l b hb) (fun v1 h1 p1 x1 => ?_)
  rw [p1.1, p1.2]
  try dsimp only [Option.toList, List.cons_append, List.nil_append, List.append]
  first | ((with_reducible show Rp _ _ _ _ (.int (b2i _) :: _) _ _); refine Rp.if_eqB (tgt := 50) dX12_readClause_42 (by decide) (fun c42 => ?_) (fun c42 => ?_)) | ((with_reducible show Rp _ _ _ _ (.int (nI _) :: _) _ _); refine Rp.if_eqN (tgt := 50) dX12_readClause_42 (by decide) (by omega) (fun c42 => ?_) (fun c42 => ?_)) | refine Rp.if_eq (tgt := 50) dX12_readClause_42 (by decide) (fun c42 => ?_) (fun c42 => ?_)
  · skip
    refine Rp.vreturn dX12_readClause_50 rfl ?_
    exact ⟨rfl, rfl⟩
  · skip
    first | (exfalso; omega) | exact absurd c42 (by decide) | exact absurd (by decide) c42
theorem readOrderT (S : ShOK h) (R : RfOK h) (K : TK h ord c v T) (hf : 12 * T + 8 ≤ f) {i lv : Nat} (hi : i ≤ T) (hl : lv ≤ 50) (a : Nat) (cd : List (Nat × Nat)) (vb tm : Nat) (p q : PT) : Rp (d + 57) M_X12_readOrder 95 [some (.ref aM)] [] (rdH h (nI i) (nI lv) (-1)) (fun r h' => r = none ∧ rdC h (clT ord c v f i lv a cd vb tm p q) h') := by
  have hc := K.2.1
  unfold clT
  refine Rp.aload_n dX12_readOrder_95 rfl rfl ?_
  refine Rp.iconst (nI 5) dX12_readOrder_96 (by decide) ?_
  refine Rp.callV1 M_X12_takes0 (ci := 12) dX12_readOrder_97 mo_X12_takes0 lk_X12_203 (by decide) rfl rfl (S _ _ rfl) (Nat.le_of_ble_eq_true rfl) (Nat.le_of_ble_eq_true rfl) (s_takes (d + 55) S R K hi (nI lv) 5 (by decide)) (fun v1 h1 p1 x1 => ?_)
  skip
  try dsimp only [Option.toList, List.cons_append, List.nil_append, List.append]
  skip
  rcases p1 with ⟨e, rfl, rfl⟩ | ⟨e, rfl, rfl⟩
  · rw [if_pos e]
    dsimp only [Option.toList, List.cons_append, List.nil_append, List.append]
    have hi1 := lt_of_code hc hi (by rw [e]; decide)
    first | ((with_reducible show Rp _ _ _ _ (.int (b2i _) :: _) _ _); refine Rp.if_eqB (tgt := 108) dX12_readOrder_100 (by decide) (fun c100 => ?_) (fun c100 => ?_)) | ((with_reducible show Rp _ _ _ _ (.int (nI _) :: _) _ _); refine Rp.if_eqN (tgt := 108) dX12_readOrder_100 (by decide) (by omega) (fun c100 => ?_) (fun c100 => ?_)) | refine Rp.if_eq (tgt := 108) dX12_readOrder_100 (by decide) (fun c100 => ?_) (fun c100 => ?_)
    · skip
      first | (exfalso; omega) | exact absurd c100 (by decide) | exact absurd (by decide) c100
    · skip
      refine Rp.aload_n dX12_readOrder_103 rfl rfl ?_
      refine Rp.iconst (nI 0) dX12_readOrder_104 (by decide) ?_
      refine Rp.callV1 M_X12_readTest (ci := 12) dX12_readOrder_105 mo_X12_readTest lk_X12_219 (by decide) rfl rfl (S _ _ rfl) (Nat.le_of_ble_eq_true rfl) (Nat.le_of_ble_eq_true rfl) (r_test d S R K hf hi1 hl (a + cd.length)) (fun v1 h1 p1 x1 => ?_)
      obtain ⟨rfl, p1⟩ := p1
      try dsimp only [Option.toList, List.cons_append, List.nil_append, List.append]
      refine Rp.vreturn dX12_readOrder_108 rfl ?_
      refine ⟨rfl, ?_⟩
      match Prs ord c v f 0 0 (i + 1) lv (a + cd.length), p1 with
      | .error e, p1 => exact p1
      | .ok (i2, lv2, cd2, D2), p1 => exact p1
  · rw [if_neg e]
    dsimp only [Option.toList, List.cons_append, List.nil_append, List.append]
    first | ((with_reducible show Rp _ _ _ _ (.int (b2i _) :: _) _ _); refine Rp.if_eqB (tgt := 108) dX12_readOrder_100 (by decide) (fun c100 => ?_) (fun c100 => ?_)) | ((with_reducible show Rp _ _ _ _ (.int (nI _) :: _) _ _); refine Rp.if_eqN (tgt := 108) dX12_readOrder_100 (by decide) (by omega) (fun c100 => ?_) (fun c100 => ?_)) | refine Rp.if_eq (tgt := 108) dX12_readOrder_100 (by decide) (fun c100 => ?_) (fun c100 => ?_)
    · skip
      refine Rp.vreturn dX12_readOrder_108 rfl ?_
      exact ⟨rfl, rfl⟩
    · skip
      first | (exfalso; omega) | exact absurd c100 (by decide) | exact absurd (by decide) c100
theorem readOrderTb (S : ShOK h) (R : RfOK h) (t l b : Int32) (hb : b ≠ -1) : Rp (d + 57) M_X12_readOrder 95 [some (.ref aM)] [] (rdH h t l b) (fun r h' => h' = rdH h t l b ∧ r = none) := by
  refine Rp.aload_n dX12_readOrder_95 rfl rfl ?_
  refine Rp.iconst (nI 5) dX12_readOrder_96 (by decide) ?_
  refine Rp.callV1 M_X12_takes0 (ci := 12) dX12_readOrder_97 mo_X12_takes0 lk_X12_203 (by decide) rfl rfl (S _ _ rfl) (Nat.le_of_ble_eq_true rfl) (Nat.le_of_ble_eq_true rfl) (s_takesF (d + 55) S R _ t l b hb) (fun v1 h1 p1 x1 => ?_)
  rw [p1.1, p1.2]
  try dsimp only [Option.toList, List.cons_append, List.nil_append, List.append]
  first | ((with_reducible show Rp _ _ _ _ (.int (b2i _) :: _) _ _); refine Rp.if_eqB (tgt := 108) dX12_readOrder_100 (by decide) (fun c100 => ?_) (fun c100 => ?_)) | ((with_reducible show Rp _ _ _ _ (.int (nI _) :: _) _ _); refine Rp.if_eqN (tgt := 108) dX12_readOrder_100 (by decide) (by omega) (fun c100 => ?_) (fun c100 => ?_)) | refine Rp.if_eq (tgt := 108) dX12_readOrder_100 (by decide) (fun c100 => ?_) (fun c100 => ?_)
  · skip
    refine Rp.vreturn dX12_readOrder_108 rfl ?_
    exact ⟨rfl, rfl⟩
  · skip
    first | (exfalso; omega) | exact absurd c100 (by decide) | exact absurd (by decide) c100
theorem readOrderM (S : ShOK h) (R : RfOK h) (K : TK h true c v T) (hf : 12 * T + 8 ≤ f) {i lv : Nat} (hi : i ≤ T) (hl : lv ≤ 50) (a : Nat) (cd : List (Nat × Nat)) (vb : Nat) (p q : PT) : Rp (d + 57) M_X12_readOrder 79 [some (.ref aM)] [] (rdH h (nI i) (nI lv) (-1)) (fun r h' => r = none ∧ rdC h (clM true c v f i lv a cd vb p q) h') := by
  have hc := K.2.1
  unfold clM
  refine Rp.aload_n dX12_readOrder_79 rfl rfl ?_
  refine Rp.bipush (nI 29) dX12_readOrder_80 (by decide) ?_
  refine Rp.callV1 M_X12_takes0 (ci := 12) dX12_readOrder_82 mo_X12_takes0 lk_X12_203 (by decide) rfl rfl (S _ _ rfl) (Nat.le_of_ble_eq_true rfl) (Nat.le_of_ble_eq_true rfl) (s_takes (d + 55) S R K hi (nI lv) 29 (by decide)) (fun v1 h1 p1 x1 => ?_)
  skip
  try dsimp only [Option.toList, List.cons_append, List.nil_append, List.append]
  skip
  rcases p1 with ⟨e, rfl, rfl⟩ | ⟨e, rfl, rfl⟩
  · rw [if_pos ⟨rfl, e⟩]
    dsimp only [Option.toList, List.cons_append, List.nil_append, List.append]
    have hi1 := lt_of_code hc hi (by rw [e]; decide)
    by_cases h2 : c (i + 1) = 50 ∧ 1 ≤ v (i + 1) ∧ v (i + 1) ≤ 20
    · rw [if_pos h2]
      have hi2 := lt_of_code hc hi1 (by show c (i + 1) ≠ 0; rw [h2.1]; decide)
      first | ((with_reducible show Rp _ _ _ _ (.int (b2i _) :: _) _ _); refine Rp.if_eqB (tgt := 95) dX12_readOrder_85 (by decide) (fun c85 => ?_) (fun c85 => ?_)) | ((with_reducible show Rp _ _ _ _ (.int (nI _) :: _) _ _); refine Rp.if_eqN (tgt := 95) dX12_readOrder_85 (by decide) (by omega) (fun c85 => ?_) (fun c85 => ?_)) | refine Rp.if_eq (tgt := 95) dX12_readOrder_85 (by decide) (fun c85 => ?_) (fun c85 => ?_)
      · skip
        first | (exfalso; omega) | exact absurd c85 (by decide) | exact absurd (by decide) c85
      · skip
        refine Rp.aload_n dX12_readOrder_88 rfl rfl ?_
        refine Rp.iconst (nI 1) dX12_readOrder_89 (by decide) ?_
        refine Rp.bipush (nI 20) dX12_readOrder_90 (by decide) ?_
        refine Rp.callV2 M_X12_mustNumber (ci := 12) dX12_readOrder_92 mo_X12_mustNumber lk_X12_222 (by decide) rfl rfl (S _ _ rfl) (Nat.le_of_ble_eq_true rfl) (Nat.le_of_ble_eq_true rfl) (s_mustN (d + 54) S R K (show i + 1 ≤ T from hi1) (nI lv) (by decide)) (fun v1 h1 p1 x1 => ?_)
        rw [if_pos h2] at p1
        rw [p1.1, p1.2]
        try dsimp only [Option.toList, List.cons_append, List.nil_append, List.append]
        exact readOrderT d S R K hf hi2 hl a cd vb _ p q
    · rw [if_neg h2]
      first | ((with_reducible show Rp _ _ _ _ (.int (b2i _) :: _) _ _); refine Rp.if_eqB (tgt := 95) dX12_readOrder_85 (by decide) (fun c85 => ?_) (fun c85 => ?_)) | ((with_reducible show Rp _ _ _ _ (.int (nI _) :: _) _ _); refine Rp.if_eqN (tgt := 95) dX12_readOrder_85 (by decide) (by omega) (fun c85 => ?_) (fun c85 => ?_)) | refine Rp.if_eq (tgt := 95) dX12_readOrder_85 (by decide) (fun c85 => ?_) (fun c85 => ?_)
      · skip
        first | (exfalso; omega) | exact absurd c85 (by decide) | exact absurd (by decide) c85
      · skip
        refine Rp.aload_n dX12_readOrder_88 rfl rfl ?_
        refine Rp.iconst (nI 1) dX12_readOrder_89 (by decide) ?_
        refine Rp.bipush (nI 20) dX12_readOrder_90 (by decide) ?_
        refine Rp.callV2 M_X12_mustNumber (ci := 12) dX12_readOrder_92 mo_X12_mustNumber lk_X12_222 (by decide) rfl rfl (S _ _ rfl) (Nat.le_of_ble_eq_true rfl) (Nat.le_of_ble_eq_true rfl) (s_mustN (d + 54) S R K (show i + 1 ≤ T from hi1) (nI lv) (by decide)) (fun v1 h1 p1 x1 => ?_)
        rw [if_neg h2] at p1
        rw [p1.1, p1.2]
        try dsimp only [Option.toList, List.cons_append, List.nil_append, List.append]
        exact Rp.mono (fun r h2 p => ⟨p.2, _, _, p.1⟩) (readOrderTb d S R _ _ _ (K.pl hi1))
  · rw [if_neg (fun z => e z.2)]
    dsimp only [Option.toList, List.cons_append, List.nil_append, List.append]
    first | ((with_reducible show Rp _ _ _ _ (.int (b2i _) :: _) _ _); refine Rp.if_eqB (tgt := 95) dX12_readOrder_85 (by decide) (fun c85 => ?_) (fun c85 => ?_)) | ((with_reducible show Rp _ _ _ _ (.int (nI _) :: _) _ _); refine Rp.if_eqN (tgt := 95) dX12_readOrder_85 (by decide) (by omega) (fun c85 => ?_) (fun c85 => ?_)) | refine Rp.if_eq (tgt := 95) dX12_readOrder_85 (by decide) (fun c85 => ?_) (fun c85 => ?_)
    · skip
      exact readOrderT d S R K hf hi hl a cd vb _ p q
    · skip
      first | (exfalso; omega) | exact absurd c85 (by decide) | exact absurd (by decide) c85
theorem readOrderMb (S : ShOK h) (R : RfOK h) (t l b : Int32) (hb : b ≠ -1) : Rp (d + 57) M_X12_readOrder 79 [some (.ref aM)] [] (rdH h t l b) (fun r h' => h' = rdH h t l b ∧ r = none) := by
  refine Rp.aload_n dX12_readOrder_79 rfl rfl ?_
  refine Rp.bipush (nI 29) dX12_readOrder_80 (by decide) ?_
  refine Rp.callV1 M_X12_takes0 (ci := 12) dX12_readOrder_82 mo_X12_takes0 lk_X12_203 (by decide) rfl rfl (S _ _ rfl) (Nat.le_of_ble_eq_true rfl) (Nat.le_of_ble_eq_true rfl) (s_takesF (d + 55) S R _ t l b hb) (fun v1 h1 p1 x1 => ?_)
  rw [p1.1, p1.2]
  try dsimp only [Option.toList, List.cons_append, List.nil_append, List.append]
  first | ((with_reducible show Rp _ _ _ _ (.int (b2i _) :: _) _ _); refine Rp.if_eqB (tgt := 95) dX12_readOrder_85 (by decide) (fun c85 => ?_) (fun c85 => ?_)) | ((with_reducible show Rp _ _ _ _ (.int (nI _) :: _) _ _); refine Rp.if_eqN (tgt := 95) dX12_readOrder_85 (by decide) (by omega) (fun c85 => ?_) (fun c85 => ?_)) | refine Rp.if_eq (tgt := 95) dX12_readOrder_85 (by decide) (fun c85 => ?_) (fun c85 => ?_)
  · skip
    exact readOrderTb d S R t l b hb
  · skip
    first | (exfalso; omega) | exact absurd c85 (by decide) | exact absurd (by decide) c85
theorem clM_false {i lv a : Nat} {cd : List (Nat × Nat)} {vb : Nat} {p q : PT} : clM false c v f i lv a cd vb p q = clT false c v f i lv a cd vb 1 p q := by
  unfold clM
  rw [if_neg (fun z => absurd z.1 (by decide))]
theorem clause16 (S : ShOK h) (R : RfOK h) (K : TK h false c v T) (hf : 12 * T + 8 ≤ f) {i lv : Nat} (hi : i ≤ T) (hl : lv ≤ 50) (a vb : Nat) : Rp (d + 57) M_X12_readClause 16 [some (.ref aM)] [] (rdH h (nI i) (nI lv) (-1)) (fun r h' => r = none ∧ rdC h (cl1 false c v f i lv a vb) h') := by
  have hc := K.2.1
  unfold cl1
  have o1 := Prs_ok (ord := false) (v := v) hc f 7 0 i lv a (by decide) hi hl
  refine Rp.aload_n dX12_readClause_16 rfl rfl ?_
  refine Rp.iconst (nI 0) dX12_readClause_17 (by decide) ?_
  refine Rp.callV1 M_X12_readSum (ci := 12) dX12_readClause_18 mo_X12_readSum lk_X12_212 (by decide) rfl rfl (S _ _ rfl) (Nat.le_of_ble_eq_true rfl) (Nat.le_of_ble_eq_true rfl) (r_sum (d + 3) S R K hf hi hl a) (fun v1 h1 p1 x1 => ?_)
  obtain ⟨rfl, p1⟩ := p1
  try dsimp only [Option.toList, List.cons_append, List.nil_append, List.append]
  refine Rp.goto (tgt := 37) dX12_readClause_21 (by decide) ?_
  skip
  generalize Prs false c v f 7 0 i lv a = x at p1 o1 ⊢
  rcases rdQ_cases K o1 p1 with ⟨e, t, l, rfl, he, hb, rfl⟩ | ⟨i1, lv1, cd, D, rfl, g1, g2, g3, g4, rfl⟩
  · exact Rp.mono (fun r h' p => ⟨p.2, t, l, p.1⟩) (readClauseTb d S R t l _ hb)
  · dsimp only
    rw [if_neg (fun z => absurd z.1 (by decide)), clM_false]
    exact readClauseT d S R K hf g2 g4 a _ vb 1 _ none
theorem s_readClause (S : ShOK h) (R : RfOK h) (K : TK h false c v T) (hf : 12 * T + 8 ≤ f) {i lv : Nat} (hi : i ≤ T) (hl : lv ≤ 50) (a : Nat) : Rp (d + 57) M_X12_readClause 0 [some (.ref aM)] [] (rdH h (nI i) (nI lv) (-1)) (fun r h' => r = none ∧ rdC h (clR false c v f i lv a) h') := by
  have hc := K.2.1
  refine Rp.aload_n dX12_readClause_0 rfl rfl ?_
  refine Rp.iconst (nI 1) dX12_readClause_1 (by decide) ?_
  refine Rp.callV1 M_X12_takes0 (ci := 12) dX12_readClause_2 mo_X12_takes0 lk_X12_203 (by decide) rfl rfl (S _ _ rfl) (Nat.le_of_ble_eq_true rfl) (Nat.le_of_ble_eq_true rfl) (s_takes (d + 55) S R K hi (nI lv) 1 (by decide)) (fun v1 h1 p1 x1 => ?_)
  skip
  try dsimp only [Option.toList, List.cons_append, List.nil_append, List.append]
  skip
  rcases p1 with ⟨e, rfl, rfl⟩ | ⟨e1, rfl, rfl⟩
  · dsimp only [Option.toList, List.cons_append, List.nil_append, List.append]
    have hi1 := lt_of_code hc hi (by rw [e]; decide)
    rw [show clR false c v f i lv a = cl1 false c v f (i + 1) lv a 0 by unfold clR; rw [e]; rfl]
    first | ((with_reducible show Rp _ _ _ _ (.int (b2i _) :: _) _ _); refine Rp.if_neB (tgt := 16) dX12_readClause_5 (by decide) (fun c5 => ?_) (fun c5 => ?_)) | ((with_reducible show Rp _ _ _ _ (.int (nI _) :: _) _ _); refine Rp.if_neN (tgt := 16) dX12_readClause_5 (by decide) (by omega) (fun c5 => ?_) (fun c5 => ?_)) | refine Rp.if_ne (tgt := 16) dX12_readClause_5 (by decide) (fun c5 => ?_) (fun c5 => ?_)
    · skip
      exact clause16 d S R K hf hi1 hl a 0
    · skip
      first | (exfalso; omega) | exact absurd c5 (by decide) | exact absurd (by decide) c5
  · dsimp only [Option.toList, List.cons_append, List.nil_append, List.append]
    first | ((with_reducible show Rp _ _ _ _ (.int (b2i _) :: _) _ _); refine Rp.if_neB (tgt := 16) dX12_readClause_5 (by decide) (fun c5 => ?_) (fun c5 => ?_)) | ((with_reducible show Rp _ _ _ _ (.int (nI _) :: _) _ _); refine Rp.if_neN (tgt := 16) dX12_readClause_5 (by decide) (by omega) (fun c5 => ?_) (fun c5 => ?_)) | refine Rp.if_ne (tgt := 16) dX12_readClause_5 (by decide) (fun c5 => ?_) (fun c5 => ?_)
    · first | (exfalso; omega) | exact absurd c5 (by decide) | exact absurd (by decide) c5
    refine Rp.aload_n dX12_readClause_8 rfl rfl ?_
    refine Rp.iconst (nI 2) dX12_readClause_9 (by decide) ?_
    refine Rp.callV1 M_X12_takes0 (ci := 12) dX12_readClause_10 mo_X12_takes0 lk_X12_203 (by decide) rfl rfl (S _ _ rfl) (Nat.le_of_ble_eq_true rfl) (Nat.le_of_ble_eq_true rfl) (s_takes (d + 55) S R K hi (nI lv) 2 (by decide)) (fun v1 h1 p1 x1 => ?_)
    skip
    try dsimp only [Option.toList, List.cons_append, List.nil_append, List.append]
    skip
    rcases p1 with ⟨e, rfl, rfl⟩ | ⟨e2, rfl, rfl⟩
    · dsimp only [Option.toList, List.cons_append, List.nil_append, List.append]
      have hi1 := lt_of_code hc hi (by rw [e]; decide)
      rw [show clR false c v f i lv a = cl1 false c v f (i + 1) lv a 1 by unfold clR; rw [e]; rfl]
      first | ((with_reducible show Rp _ _ _ _ (.int (b2i _) :: _) _ _); refine Rp.if_eqB (tgt := 24) dX12_readClause_13 (by decide) (fun c13 => ?_) (fun c13 => ?_)) | ((with_reducible show Rp _ _ _ _ (.int (nI _) :: _) _ _); refine Rp.if_eqN (tgt := 24) dX12_readClause_13 (by decide) (by omega) (fun c13 => ?_) (fun c13 => ?_)) | refine Rp.if_eq (tgt := 24) dX12_readClause_13 (by decide) (fun c13 => ?_) (fun c13 => ?_)
      · skip
        first | (exfalso; omega) | exact absurd c13 (by decide) | exact absurd (by decide) c13
      · skip
        exact clause16 d S R K hf hi1 hl a 1
    · dsimp only [Option.toList, List.cons_append, List.nil_append, List.append]
      first | ((with_reducible show Rp _ _ _ _ (.int (b2i _) :: _) _ _); refine Rp.if_eqB (tgt := 24) dX12_readClause_13 (by decide) (fun c13 => ?_) (fun c13 => ?_)) | ((with_reducible show Rp _ _ _ _ (.int (nI _) :: _) _ _); refine Rp.if_eqN (tgt := 24) dX12_readClause_13 (by decide) (by omega) (fun c13 => ?_) (fun c13 => ?_)) | refine Rp.if_eq (tgt := 24) dX12_readClause_13 (by decide) (fun c13 => ?_) (fun c13 => ?_)
      rotate_left
      · first | (exfalso; omega) | exact absurd c13 (by decide) | exact absurd (by decide) c13
      refine Rp.aload_n dX12_readClause_24 rfl rfl ?_
      refine Rp.iconst (nI 3) dX12_readClause_25 (by decide) ?_
      refine Rp.callV1 M_X12_takes0 (ci := 12) dX12_readClause_26 mo_X12_takes0 lk_X12_203 (by decide) rfl rfl (S _ _ rfl) (Nat.le_of_ble_eq_true rfl) (Nat.le_of_ble_eq_true rfl) (s_takes (d + 55) S R K hi (nI lv) 3 (by decide)) (fun v1 h1 p1 x1 => ?_)
      skip
      try dsimp only [Option.toList, List.cons_append, List.nil_append, List.append]
      skip
      rcases p1 with ⟨e, rfl, rfl⟩ | ⟨e3, rfl, rfl⟩
      · dsimp only [Option.toList, List.cons_append, List.nil_append, List.append]
        have hi1 := lt_of_code hc hi (by rw [e]; decide)
        rw [show clR false c v f i lv a = clM false c v f (i + 1) lv a [] 2 none none by unfold clR; rw [e]; rfl, clM_false]
        first | ((with_reducible show Rp _ _ _ _ (.int (b2i _) :: _) _ _); refine Rp.if_neB (tgt := 37) dX12_readClause_29 (by decide) (fun c29 => ?_) (fun c29 => ?_)) | ((with_reducible show Rp _ _ _ _ (.int (nI _) :: _) _ _); refine Rp.if_neN (tgt := 37) dX12_readClause_29 (by decide) (by omega) (fun c29 => ?_) (fun c29 => ?_)) | refine Rp.if_ne (tgt := 37) dX12_readClause_29 (by decide) (fun c29 => ?_) (fun c29 => ?_)
        · skip
          exact readClauseT d S R K hf hi1 hl a [] 2 1 none none
        · skip
          first | (exfalso; omega) | exact absurd c29 (by decide) | exact absurd (by decide) c29
      · dsimp only [Option.toList, List.cons_append, List.nil_append, List.append]
        by_cases e4 : c i = 4
        · have hi1 := lt_of_code hc hi (by rw [e4]; decide)
          rw [show clR false c v f i lv a = clM false c v f (i + 1) lv a [] 3 none none by unfold clR; rw [e4]; rfl, clM_false]
          first | ((with_reducible show Rp _ _ _ _ (.int (b2i _) :: _) _ _); refine Rp.if_neB (tgt := 37) dX12_readClause_29 (by decide) (fun c29 => ?_) (fun c29 => ?_)) | ((with_reducible show Rp _ _ _ _ (.int (nI _) :: _) _ _); refine Rp.if_neN (tgt := 37) dX12_readClause_29 (by decide) (by omega) (fun c29 => ?_) (fun c29 => ?_)) | refine Rp.if_ne (tgt := 37) dX12_readClause_29 (by decide) (fun c29 => ?_) (fun c29 => ?_)
          · skip
            first | (exfalso; omega) | exact absurd c29 (by decide) | exact absurd (by decide) c29
          · skip
            refine Rp.aload_n dX12_readClause_32 rfl rfl ?_
            refine Rp.iconst (nI 4) dX12_readClause_33 (by decide) ?_
            refine Rp.callV1 M_X12_must (ci := 12) dX12_readClause_34 mo_X12_must lk_X12_216 (by decide) rfl rfl (S _ _ rfl) (Nat.le_of_ble_eq_true rfl) (Nat.le_of_ble_eq_true rfl) (s_must (d + 54) S R K hi (nI lv) 4 (by decide)) (fun v1 h1 p1 x1 => ?_)
            rw [if_pos e4] at p1
            rw [p1.1, p1.2]
            try dsimp only [Option.toList, List.cons_append, List.nil_append, List.append]
            exact readClauseT d S R K hf hi1 hl a [] 3 1 none none
        · have hn : vbO false (c i) = none := by
            show (if c i = 1 then some 0 else if c i = 2 then some 1 else if c i = 3 then some 2 else if c i = 4 then some 3 else none) = none
            rw [if_neg e1, if_neg e2, if_neg e3, if_neg e4]
          rw [show clR false c v f i lv a = .error i by unfold clR; rw [hn]]
          first | ((with_reducible show Rp _ _ _ _ (.int (b2i _) :: _) _ _); refine Rp.if_neB (tgt := 37) dX12_readClause_29 (by decide) (fun c29 => ?_) (fun c29 => ?_)) | ((with_reducible show Rp _ _ _ _ (.int (nI _) :: _) _ _); refine Rp.if_neN (tgt := 37) dX12_readClause_29 (by decide) (by omega) (fun c29 => ?_) (fun c29 => ?_)) | refine Rp.if_ne (tgt := 37) dX12_readClause_29 (by decide) (fun c29 => ?_) (fun c29 => ?_)
          · skip
            first | (exfalso; omega) | exact absurd c29 (by decide) | exact absurd (by decide) c29
          · skip
            refine Rp.aload_n dX12_readClause_32 rfl rfl ?_
            refine Rp.iconst (nI 4) dX12_readClause_33 (by decide) ?_
            refine Rp.callV1 M_X12_must (ci := 12) dX12_readClause_34 mo_X12_must lk_X12_216 (by decide) rfl rfl (S _ _ rfl) (Nat.le_of_ble_eq_true rfl) (Nat.le_of_ble_eq_true rfl) (s_must (d + 54) S R K hi (nI lv) 4 (by decide)) (fun v1 h1 p1 x1 => ?_)
            rw [if_neg e4] at p1
            rw [p1.1, p1.2]
            try dsimp only [Option.toList, List.cons_append, List.nil_append, List.append]
            exact Rp.mono (fun r h2 p => ⟨p.2, _, _, p.1⟩) (readClauseTb d S R _ _ _ (K.pl hi))
theorem order9 (S : ShOK h) (R : RfOK h) (K : TK h true c v T) (hf : 12 * T + 8 ≤ f) {i lv : Nat} (hi : i ≤ T) (hl : lv ≤ 50) (a : Nat) : Rp (d + 57) M_X12_readOrder 9 [some (.ref aM)] [] (rdH h (nI i) (nI lv) (-1)) (fun r h' => r = none ∧ rdC h (cl1 true c v f i lv a 0) h') := by
  have hc := K.2.1
  unfold cl1
  have o1 := Prs_ok (ord := true) (v := v) hc f 7 0 i lv a (by decide) hi hl
  refine Rp.aload_n dX12_readOrder_9 rfl rfl ?_
  refine Rp.iconst (nI 0) dX12_readOrder_10 (by decide) ?_
  refine Rp.callV1 M_X12_readSum (ci := 12) dX12_readOrder_11 mo_X12_readSum lk_X12_212 (by decide) rfl rfl (S _ _ rfl) (Nat.le_of_ble_eq_true rfl) (Nat.le_of_ble_eq_true rfl) (r_sum (d + 3) S R K hf hi hl a) (fun v1 h1 p1 x1 => ?_)
  obtain ⟨rfl, p1⟩ := p1
  try dsimp only [Option.toList, List.cons_append, List.nil_append, List.append]
  skip
  generalize Prs true c v f 7 0 i lv a = x at p1 o1 ⊢
  rcases rdQ_cases K o1 p1 with ⟨e, t, l, rfl, he, hb, rfl⟩ | ⟨i1, lv1, cd, D, rfl, g1, g2, g3, g4, rfl⟩
  · skip
    refine Rp.aload_n dX12_readOrder_14 rfl rfl ?_
    refine Rp.bipush (nI 24) dX12_readOrder_15 (by decide) ?_
    refine Rp.callV1 M_X12_must (ci := 12) dX12_readOrder_17 mo_X12_must lk_X12_216 (by decide) rfl rfl (S _ _ rfl) (Nat.le_of_ble_eq_true rfl) (Nat.le_of_ble_eq_true rfl) (s_mustF (d + 54) S R _ t l _ hb) (fun v1 h1 p1 x1 => ?_)
    rw [p1.1, p1.2]
    try dsimp only [Option.toList, List.cons_append, List.nil_append, List.append]
    refine Rp.aload_n dX12_readOrder_20 rfl rfl ?_
    refine Rp.iconst (nI 0) dX12_readOrder_21 (by decide) ?_
    refine Rp.callV1 M_X12_readSum (ci := 12) dX12_readOrder_22 mo_X12_readSum lk_X12_212 (by decide) rfl rfl (S _ _ rfl) (Nat.le_of_ble_eq_true rfl) (Nat.le_of_ble_eq_true rfl) (bad_sum (d + 51) S R _ t l _ hb) (fun v1 h1 p1 x1 => ?_)
    rw [p1.1, p1.2]
    try dsimp only [Option.toList, List.cons_append, List.nil_append, List.append]
    refine Rp.goto (tgt := 79) dX12_readOrder_25 (by decide) ?_
    exact Rp.mono (fun r h2 p => ⟨p.2, t, l, p.1⟩) (readOrderMb d S R t l _ hb)
  · dsimp only
    rw [if_pos ⟨rfl, by decide⟩]
    by_cases e : c i1 = (if (0 : Nat) = 0 then 24 else 26)
    · rw [if_pos e]
      have e : c i1 = 24 := e
      have hi1 := lt_of_code hc g2 (by rw [e]; decide)
      unfold cl2
      have o1 := Prs_ok (ord := true) (v := v) hc f 7 0 (i1 + 1) lv1 (a + (cd ++ [((0 : Nat), (0 : Nat))]).length) (by decide) hi1 g4
      refine Rp.aload_n dX12_readOrder_14 rfl rfl ?_
      refine Rp.bipush (nI 24) dX12_readOrder_15 (by decide) ?_
      refine Rp.callV1 M_X12_must (ci := 12) dX12_readOrder_17 mo_X12_must lk_X12_216 (by decide) rfl rfl (S _ _ rfl) (Nat.le_of_ble_eq_true rfl) (Nat.le_of_ble_eq_true rfl) (s_must (d + 54) S R K g2 (nI lv1) 24 (by decide)) (fun v1 h1 p1 x1 => ?_)
      rw [if_pos e] at p1
      rw [p1.1, p1.2]
      try dsimp only [Option.toList, List.cons_append, List.nil_append, List.append]
      refine Rp.aload_n dX12_readOrder_20 rfl rfl ?_
      refine Rp.iconst (nI 0) dX12_readOrder_21 (by decide) ?_
      refine Rp.callV1 M_X12_readSum (ci := 12) dX12_readOrder_22 mo_X12_readSum lk_X12_212 (by decide) rfl rfl (S _ _ rfl) (Nat.le_of_ble_eq_true rfl) (Nat.le_of_ble_eq_true rfl) (r_sum (d + 3) S R K hf hi1 g4 (a + (cd ++ [((0 : Nat), (0 : Nat))]).length)) (fun v1 h1 p1 x1 => ?_)
      obtain ⟨rfl, p1⟩ := p1
      try dsimp only [Option.toList, List.cons_append, List.nil_append, List.append]
      refine Rp.goto (tgt := 79) dX12_readOrder_25 (by decide) ?_
      skip
      generalize Prs true c v f 7 0 (i1 + 1) lv1 (a + (cd ++ [((0 : Nat), (0 : Nat))]).length) = x at p1 o1 ⊢
      rcases rdQ_cases K o1 p1 with ⟨e, t, l, rfl, he, hb, rfl⟩ | ⟨i2, lv2, cd2, D2, rfl, k1, k2, k3, k4, rfl⟩
      · exact Rp.mono (fun r h' p => ⟨p.2, t, l, p.1⟩) (readOrderMb d S R t l _ hb)
      · exact readOrderM d S R K hf k2 k4 a _ 0 _ _
    · rw [if_neg e]
      have e : c i1 ≠ 24 := e
      refine Rp.aload_n dX12_readOrder_14 rfl rfl ?_
      refine Rp.bipush (nI 24) dX12_readOrder_15 (by decide) ?_
      refine Rp.callV1 M_X12_must (ci := 12) dX12_readOrder_17 mo_X12_must lk_X12_216 (by decide) rfl rfl (S _ _ rfl) (Nat.le_of_ble_eq_true rfl) (Nat.le_of_ble_eq_true rfl) (s_must (d + 54) S R K g2 (nI lv1) 24 (by decide)) (fun v1 h1 p1 x1 => ?_)
      rw [if_neg e] at p1
      rw [p1.1, p1.2]
      try dsimp only [Option.toList, List.cons_append, List.nil_append, List.append]
      refine Rp.aload_n dX12_readOrder_20 rfl rfl ?_
      refine Rp.iconst (nI 0) dX12_readOrder_21 (by decide) ?_
      refine Rp.callV1 M_X12_readSum (ci := 12) dX12_readOrder_22 mo_X12_readSum lk_X12_212 (by decide) rfl rfl (S _ _ rfl) (Nat.le_of_ble_eq_true rfl) (Nat.le_of_ble_eq_true rfl) (bad_sum (d + 51) S R _ _ _ _ (K.pl g2)) (fun v1 h1 p1 x1 => ?_)
      rw [p1.1, p1.2]
      try dsimp only [Option.toList, List.cons_append, List.nil_append, List.append]
      refine Rp.goto (tgt := 79) dX12_readOrder_25 (by decide) ?_
      exact Rp.mono (fun r h2 p => ⟨p.2, _, _, p.1⟩) (readOrderMb d S R _ _ _ (K.pl g2))
theorem order37 (S : ShOK h) (R : RfOK h) (K : TK h true c v T) (hf : 12 * T + 8 ≤ f) {i lv : Nat} (hi : i ≤ T) (hl : lv ≤ 50) (a : Nat) : Rp (d + 57) M_X12_readOrder 37 [some (.ref aM)] [] (rdH h (nI i) (nI lv) (-1)) (fun r h' => r = none ∧ rdC h (cl1 true c v f i lv a 1) h') := by
  have hc := K.2.1
  unfold cl1
  have o1 := Prs_ok (ord := true) (v := v) hc f 7 0 i lv a (by decide) hi hl
  refine Rp.aload_n dX12_readOrder_37 rfl rfl ?_
  refine Rp.iconst (nI 0) dX12_readOrder_38 (by decide) ?_
  refine Rp.callV1 M_X12_readSum (ci := 12) dX12_readOrder_39 mo_X12_readSum lk_X12_212 (by decide) rfl rfl (S _ _ rfl) (Nat.le_of_ble_eq_true rfl) (Nat.le_of_ble_eq_true rfl) (r_sum (d + 3) S R K hf hi hl a) (fun v1 h1 p1 x1 => ?_)
  obtain ⟨rfl, p1⟩ := p1
  try dsimp only [Option.toList, List.cons_append, List.nil_append, List.append]
  skip
  generalize Prs true c v f 7 0 i lv a = x at p1 o1 ⊢
  rcases rdQ_cases K o1 p1 with ⟨e, t, l, rfl, he, hb, rfl⟩ | ⟨i1, lv1, cd, D, rfl, g1, g2, g3, g4, rfl⟩
  · skip
    refine Rp.aload_n dX12_readOrder_42 rfl rfl ?_
    refine Rp.bipush (nI 26) dX12_readOrder_43 (by decide) ?_
    refine Rp.callV1 M_X12_must (ci := 12) dX12_readOrder_45 mo_X12_must lk_X12_216 (by decide) rfl rfl (S _ _ rfl) (Nat.le_of_ble_eq_true rfl) (Nat.le_of_ble_eq_true rfl) (s_mustF (d + 54) S R _ t l _ hb) (fun v1 h1 p1 x1 => ?_)
    rw [p1.1, p1.2]
    try dsimp only [Option.toList, List.cons_append, List.nil_append, List.append]
    refine Rp.aload_n dX12_readOrder_48 rfl rfl ?_
    refine Rp.iconst (nI 0) dX12_readOrder_49 (by decide) ?_
    refine Rp.callV1 M_X12_readSum (ci := 12) dX12_readOrder_50 mo_X12_readSum lk_X12_212 (by decide) rfl rfl (S _ _ rfl) (Nat.le_of_ble_eq_true rfl) (Nat.le_of_ble_eq_true rfl) (bad_sum (d + 51) S R _ t l _ hb) (fun v1 h1 p1 x1 => ?_)
    rw [p1.1, p1.2]
    try dsimp only [Option.toList, List.cons_append, List.nil_append, List.append]
    refine Rp.goto (tgt := 79) dX12_readOrder_53 (by decide) ?_
    exact Rp.mono (fun r h2 p => ⟨p.2, t, l, p.1⟩) (readOrderMb d S R t l _ hb)
  · dsimp only
    rw [if_pos ⟨rfl, by decide⟩]
    by_cases e : c i1 = (if (1 : Nat) = 0 then 24 else 26)
    · rw [if_pos e]
      have e : c i1 = 26 := e
      have hi1 := lt_of_code hc g2 (by rw [e]; decide)
      unfold cl2
      have o1 := Prs_ok (ord := true) (v := v) hc f 7 0 (i1 + 1) lv1 (a + (cd ++ [((0 : Nat), (0 : Nat))]).length) (by decide) hi1 g4
      refine Rp.aload_n dX12_readOrder_42 rfl rfl ?_
      refine Rp.bipush (nI 26) dX12_readOrder_43 (by decide) ?_
      refine Rp.callV1 M_X12_must (ci := 12) dX12_readOrder_45 mo_X12_must lk_X12_216 (by decide) rfl rfl (S _ _ rfl) (Nat.le_of_ble_eq_true rfl) (Nat.le_of_ble_eq_true rfl) (s_must (d + 54) S R K g2 (nI lv1) 26 (by decide)) (fun v1 h1 p1 x1 => ?_)
      rw [if_pos e] at p1
      rw [p1.1, p1.2]
      try dsimp only [Option.toList, List.cons_append, List.nil_append, List.append]
      refine Rp.aload_n dX12_readOrder_48 rfl rfl ?_
      refine Rp.iconst (nI 0) dX12_readOrder_49 (by decide) ?_
      refine Rp.callV1 M_X12_readSum (ci := 12) dX12_readOrder_50 mo_X12_readSum lk_X12_212 (by decide) rfl rfl (S _ _ rfl) (Nat.le_of_ble_eq_true rfl) (Nat.le_of_ble_eq_true rfl) (r_sum (d + 3) S R K hf hi1 g4 (a + (cd ++ [((0 : Nat), (0 : Nat))]).length)) (fun v1 h1 p1 x1 => ?_)
      obtain ⟨rfl, p1⟩ := p1
      try dsimp only [Option.toList, List.cons_append, List.nil_append, List.append]
      refine Rp.goto (tgt := 79) dX12_readOrder_53 (by decide) ?_
      skip
      generalize Prs true c v f 7 0 (i1 + 1) lv1 (a + (cd ++ [((0 : Nat), (0 : Nat))]).length) = x at p1 o1 ⊢
      rcases rdQ_cases K o1 p1 with ⟨e, t, l, rfl, he, hb, rfl⟩ | ⟨i2, lv2, cd2, D2, rfl, k1, k2, k3, k4, rfl⟩
      · exact Rp.mono (fun r h' p => ⟨p.2, t, l, p.1⟩) (readOrderMb d S R t l _ hb)
      · exact readOrderM d S R K hf k2 k4 a _ 1 _ _
    · rw [if_neg e]
      have e : c i1 ≠ 26 := e
      refine Rp.aload_n dX12_readOrder_42 rfl rfl ?_
      refine Rp.bipush (nI 26) dX12_readOrder_43 (by decide) ?_
      refine Rp.callV1 M_X12_must (ci := 12) dX12_readOrder_45 mo_X12_must lk_X12_216 (by decide) rfl rfl (S _ _ rfl) (Nat.le_of_ble_eq_true rfl) (Nat.le_of_ble_eq_true rfl) (s_must (d + 54) S R K g2 (nI lv1) 26 (by decide)) (fun v1 h1 p1 x1 => ?_)
      rw [if_neg e] at p1
      rw [p1.1, p1.2]
      try dsimp only [Option.toList, List.cons_append, List.nil_append, List.append]
      refine Rp.aload_n dX12_readOrder_48 rfl rfl ?_
      refine Rp.iconst (nI 0) dX12_readOrder_49 (by decide) ?_
      refine Rp.callV1 M_X12_readSum (ci := 12) dX12_readOrder_50 mo_X12_readSum lk_X12_212 (by decide) rfl rfl (S _ _ rfl) (Nat.le_of_ble_eq_true rfl) (Nat.le_of_ble_eq_true rfl) (bad_sum (d + 51) S R _ _ _ _ (K.pl g2)) (fun v1 h1 p1 x1 => ?_)
      rw [p1.1, p1.2]
      try dsimp only [Option.toList, List.cons_append, List.nil_append, List.append]
      refine Rp.goto (tgt := 79) dX12_readOrder_53 (by decide) ?_
      exact Rp.mono (fun r h2 p => ⟨p.2, _, _, p.1⟩) (readOrderMb d S R _ _ _ (K.pl g2))
theorem order65 (S : ShOK h) (R : RfOK h) (K : TK h true c v T) (hf : 12 * T + 8 ≤ f) {i lv : Nat} (hi : i ≤ T) (hl : lv ≤ 50) (a : Nat) : Rp (d + 57) M_X12_readOrder 65 [some (.ref aM)] [] (rdH h (nI i) (nI lv) (-1)) (fun r h' => r = none ∧ rdC h (cl1 true c v f i lv a 2) h') := by
  have hc := K.2.1
  unfold cl1
  have o1 := Prs_ok (ord := true) (v := v) hc f 7 0 i lv a (by decide) hi hl
  refine Rp.aload_n dX12_readOrder_65 rfl rfl ?_
  refine Rp.iconst (nI 0) dX12_readOrder_66 (by decide) ?_
  refine Rp.callV1 M_X12_readSum (ci := 12) dX12_readOrder_67 mo_X12_readSum lk_X12_212 (by decide) rfl rfl (S _ _ rfl) (Nat.le_of_ble_eq_true rfl) (Nat.le_of_ble_eq_true rfl) (r_sum (d + 3) S R K hf hi hl a) (fun v1 h1 p1 x1 => ?_)
  obtain ⟨rfl, p1⟩ := p1
  try dsimp only [Option.toList, List.cons_append, List.nil_append, List.append]
  refine Rp.goto (tgt := 79) dX12_readOrder_70 (by decide) ?_
  skip
  generalize Prs true c v f 7 0 i lv a = x at p1 o1 ⊢
  rcases rdQ_cases K o1 p1 with ⟨e, t, l, rfl, he, hb, rfl⟩ | ⟨i1, lv1, cd, D, rfl, g1, g2, g3, g4, rfl⟩
  · exact Rp.mono (fun r h' p => ⟨p.2, t, l, p.1⟩) (readOrderMb d S R t l _ hb)
  · dsimp only
    rw [if_neg (fun z => absurd z.2 (by decide))]
    exact readOrderM d S R K hf g2 g4 a _ 2 _ none
theorem s_readOrder (S : ShOK h) (R : RfOK h) (K : TK h true c v T) (hf : 12 * T + 8 ≤ f) {i lv : Nat} (hi : i ≤ T) (hl : lv ≤ 50) (a : Nat) : Rp (d + 57) M_X12_readOrder 0 [some (.ref aM)] [] (rdH h (nI i) (nI lv) (-1)) (fun r h' => r = none ∧ rdC h (clR true c v f i lv a) h') := by
  have hc := K.2.1
  refine Rp.aload_n dX12_readOrder_0 rfl rfl ?_
  refine Rp.bipush (nI 23) dX12_readOrder_1 (by decide) ?_
  refine Rp.callV1 M_X12_takes0 (ci := 12) dX12_readOrder_3 mo_X12_takes0 lk_X12_203 (by decide) rfl rfl (S _ _ rfl) (Nat.le_of_ble_eq_true rfl) (Nat.le_of_ble_eq_true rfl) (s_takes (d + 55) S R K hi (nI lv) 23 (by decide)) (fun v1 h1 p1 x1 => ?_)
  skip
  try dsimp only [Option.toList, List.cons_append, List.nil_append, List.append]
  skip
  rcases p1 with ⟨e, rfl, rfl⟩ | ⟨e1, rfl, rfl⟩
  · dsimp only [Option.toList, List.cons_append, List.nil_append, List.append]
    have hi1 := lt_of_code hc hi (by rw [e]; decide)
    rw [show clR true c v f i lv a = cl1 true c v f (i + 1) lv a 0 by unfold clR; rw [e]; rfl]
    first | ((with_reducible show Rp _ _ _ _ (.int (b2i _) :: _) _ _); refine Rp.if_eqB (tgt := 28) dX12_readOrder_6 (by decide) (fun c6 => ?_) (fun c6 => ?_)) | ((with_reducible show Rp _ _ _ _ (.int (nI _) :: _) _ _); refine Rp.if_eqN (tgt := 28) dX12_readOrder_6 (by decide) (by omega) (fun c6 => ?_) (fun c6 => ?_)) | refine Rp.if_eq (tgt := 28) dX12_readOrder_6 (by decide) (fun c6 => ?_) (fun c6 => ?_)
    · skip
      first | (exfalso; omega) | exact absurd c6 (by decide) | exact absurd (by decide) c6
    · skip
      exact order9 d S R K hf hi1 hl a
  · dsimp only [Option.toList, List.cons_append, List.nil_append, List.append]
    first | ((with_reducible show Rp _ _ _ _ (.int (b2i _) :: _) _ _); refine Rp.if_eqB (tgt := 28) dX12_readOrder_6 (by decide) (fun c6 => ?_) (fun c6 => ?_)) | ((with_reducible show Rp _ _ _ _ (.int (nI _) :: _) _ _); refine Rp.if_eqN (tgt := 28) dX12_readOrder_6 (by decide) (by omega) (fun c6 => ?_) (fun c6 => ?_)) | refine Rp.if_eq (tgt := 28) dX12_readOrder_6 (by decide) (fun c6 => ?_) (fun c6 => ?_)
    rotate_left
    · first | (exfalso; omega) | exact absurd c6 (by decide) | exact absurd (by decide) c6
    refine Rp.aload_n dX12_readOrder_28 rfl rfl ?_
    refine Rp.bipush (nI 25) dX12_readOrder_29 (by decide) ?_
    refine Rp.callV1 M_X12_takes0 (ci := 12) dX12_readOrder_31 mo_X12_takes0 lk_X12_203 (by decide) rfl rfl (S _ _ rfl) (Nat.le_of_ble_eq_true rfl) (Nat.le_of_ble_eq_true rfl) (s_takes (d + 55) S R K hi (nI lv) 25 (by decide)) (fun v1 h1 p1 x1 => ?_)
    skip
    try dsimp only [Option.toList, List.cons_append, List.nil_append, List.append]
    skip
    rcases p1 with ⟨e, rfl, rfl⟩ | ⟨e2, rfl, rfl⟩
    · dsimp only [Option.toList, List.cons_append, List.nil_append, List.append]
      have hi1 := lt_of_code hc hi (by rw [e]; decide)
      rw [show clR true c v f i lv a = cl1 true c v f (i + 1) lv a 1 by unfold clR; rw [e]; rfl]
      first | ((with_reducible show Rp _ _ _ _ (.int (b2i _) :: _) _ _); refine Rp.if_eqB (tgt := 56) dX12_readOrder_34 (by decide) (fun c34 => ?_) (fun c34 => ?_)) | ((with_reducible show Rp _ _ _ _ (.int (nI _) :: _) _ _); refine Rp.if_eqN (tgt := 56) dX12_readOrder_34 (by decide) (by omega) (fun c34 => ?_) (fun c34 => ?_)) | refine Rp.if_eq (tgt := 56) dX12_readOrder_34 (by decide) (fun c34 => ?_) (fun c34 => ?_)
      · skip
        first | (exfalso; omega) | exact absurd c34 (by decide) | exact absurd (by decide) c34
      · skip
        exact order37 d S R K hf hi1 hl a
    · dsimp only [Option.toList, List.cons_append, List.nil_append, List.append]
      first | ((with_reducible show Rp _ _ _ _ (.int (b2i _) :: _) _ _); refine Rp.if_eqB (tgt := 56) dX12_readOrder_34 (by decide) (fun c34 => ?_) (fun c34 => ?_)) | ((with_reducible show Rp _ _ _ _ (.int (nI _) :: _) _ _); refine Rp.if_eqN (tgt := 56) dX12_readOrder_34 (by decide) (by omega) (fun c34 => ?_) (fun c34 => ?_)) | refine Rp.if_eq (tgt := 56) dX12_readOrder_34 (by decide) (fun c34 => ?_) (fun c34 => ?_)
      rotate_left
      · first | (exfalso; omega) | exact absurd c34 (by decide) | exact absurd (by decide) c34
      refine Rp.aload_n dX12_readOrder_56 rfl rfl ?_
      refine Rp.bipush (nI 27) dX12_readOrder_57 (by decide) ?_
      refine Rp.callV1 M_X12_takes0 (ci := 12) dX12_readOrder_59 mo_X12_takes0 lk_X12_203 (by decide) rfl rfl (S _ _ rfl) (Nat.le_of_ble_eq_true rfl) (Nat.le_of_ble_eq_true rfl) (s_takes (d + 55) S R K hi (nI lv) 27 (by decide)) (fun v1 h1 p1 x1 => ?_)
      skip
      try dsimp only [Option.toList, List.cons_append, List.nil_append, List.append]
      skip
      rcases p1 with ⟨e, rfl, rfl⟩ | ⟨e3, rfl, rfl⟩
      · dsimp only [Option.toList, List.cons_append, List.nil_append, List.append]
        have hi1 := lt_of_code hc hi (by rw [e]; decide)
        rw [show clR true c v f i lv a = cl1 true c v f (i + 1) lv a 2 by unfold clR; rw [e]; rfl]
        first | ((with_reducible show Rp _ _ _ _ (.int (b2i _) :: _) _ _); refine Rp.if_eqB (tgt := 73) dX12_readOrder_62 (by decide) (fun c62 => ?_) (fun c62 => ?_)) | ((with_reducible show Rp _ _ _ _ (.int (nI _) :: _) _ _); refine Rp.if_eqN (tgt := 73) dX12_readOrder_62 (by decide) (by omega) (fun c62 => ?_) (fun c62 => ?_)) | refine Rp.if_eq (tgt := 73) dX12_readOrder_62 (by decide) (fun c62 => ?_) (fun c62 => ?_)
        · skip
          first | (exfalso; omega) | exact absurd c62 (by decide) | exact absurd (by decide) c62
        · skip
          exact order65 d S R K hf hi1 hl a
      · dsimp only [Option.toList, List.cons_append, List.nil_append, List.append]
        by_cases e4 : c i = 28
        · have hi1 := lt_of_code hc hi (by rw [e4]; decide)
          rw [show clR true c v f i lv a = clM true c v f (i + 1) lv a [] 3 none none by unfold clR; rw [e4]; rfl]
          first | ((with_reducible show Rp _ _ _ _ (.int (b2i _) :: _) _ _); refine Rp.if_eqB (tgt := 73) dX12_readOrder_62 (by decide) (fun c62 => ?_) (fun c62 => ?_)) | ((with_reducible show Rp _ _ _ _ (.int (nI _) :: _) _ _); refine Rp.if_eqN (tgt := 73) dX12_readOrder_62 (by decide) (by omega) (fun c62 => ?_) (fun c62 => ?_)) | refine Rp.if_eq (tgt := 73) dX12_readOrder_62 (by decide) (fun c62 => ?_) (fun c62 => ?_)
          · skip
            refine Rp.aload_n dX12_readOrder_73 rfl rfl ?_
            refine Rp.bipush (nI 28) dX12_readOrder_74 (by decide) ?_
            refine Rp.callV1 M_X12_must (ci := 12) dX12_readOrder_76 mo_X12_must lk_X12_216 (by decide) rfl rfl (S _ _ rfl) (Nat.le_of_ble_eq_true rfl) (Nat.le_of_ble_eq_true rfl) (s_must (d + 54) S R K hi (nI lv) 28 (by decide)) (fun v1 h1 p1 x1 => ?_)
            rw [if_pos e4] at p1
            rw [p1.1, p1.2]
            try dsimp only [Option.toList, List.cons_append, List.nil_append, List.append]
            exact readOrderM d S R K hf hi1 hl a [] 3 none none
          · skip
            first | (exfalso; omega) | exact absurd c62 (by decide) | exact absurd (by decide) c62
        · have hn : vbO true (c i) = none := by
            show (if c i = 23 then some 0 else if c i = 25 then some 1 else if c i = 27 then some 2 else if c i = 28 then some 3 else none) = none
            rw [if_neg e1, if_neg e2, if_neg e3, if_neg e4]
          rw [show clR true c v f i lv a = .error i by unfold clR; rw [hn]]
          first | ((with_reducible show Rp _ _ _ _ (.int (b2i _) :: _) _ _); refine Rp.if_eqB (tgt := 73) dX12_readOrder_62 (by decide) (fun c62 => ?_) (fun c62 => ?_)) | ((with_reducible show Rp _ _ _ _ (.int (nI _) :: _) _ _); refine Rp.if_eqN (tgt := 73) dX12_readOrder_62 (by decide) (by omega) (fun c62 => ?_) (fun c62 => ?_)) | refine Rp.if_eq (tgt := 73) dX12_readOrder_62 (by decide) (fun c62 => ?_) (fun c62 => ?_)
          · skip
            refine Rp.aload_n dX12_readOrder_73 rfl rfl ?_
            refine Rp.bipush (nI 28) dX12_readOrder_74 (by decide) ?_
            refine Rp.callV1 M_X12_must (ci := 12) dX12_readOrder_76 mo_X12_must lk_X12_216 (by decide) rfl rfl (S _ _ rfl) (Nat.le_of_ble_eq_true rfl) (Nat.le_of_ble_eq_true rfl) (s_must (d + 54) S R K hi (nI lv) 28 (by decide)) (fun v1 h1 p1 x1 => ?_)
            rw [if_neg e4] at p1
            rw [p1.1, p1.2]
            try dsimp only [Option.toList, List.cons_append, List.nil_append, List.append]
            exact Rp.mono (fun r h2 p => ⟨p.2, _, _, p.1⟩) (readOrderMb d S R _ _ _ (K.pl hi))
          · skip
            first | (exfalso; omega) | exact absurd c62 (by decide) | exact absurd (by decide) c62
theorem s_readOne (S : ShOK h) (R : RfOK h) (K : TK h ord c v T) (hf : 12 * T + 8 ≤ f) {i lv : Nat} (hi : i ≤ T) (hl : lv ≤ 50) (a : Nat) : Rp (d + 58) M_X12_readOne 0 [some (.ref aM)] [] (rdH h (nI i) (nI lv) (-1)) (fun r h' => r = none ∧ rdC h (clR ord c v f i lv a) h') := by
  have eo := K.2.2.2.1
  cases ord
  · rw [b2i_F] at eo
    refine Rp.aload_n dX12_readOne_0 rfl rfl ?_
    refine Rp.getI dX12_readOne_1 fk_X12_225 rfl (S _ _ rfl) ?_
    first | rw [rd_10, eo] | skip
    first | ((with_reducible show Rp _ _ _ _ (.int (b2i _) :: _) _ _); refine Rp.if_eqB (tgt := 14) dX12_readOne_4 (by decide) (fun c4 => ?_) (fun c4 => ?_)) | ((with_reducible show Rp _ _ _ _ (.int (nI _) :: _) _ _); refine Rp.if_eqN (tgt := 14) dX12_readOne_4 (by decide) (by omega) (fun c4 => ?_) (fun c4 => ?_)) | refine Rp.if_eq (tgt := 14) dX12_readOne_4 (by decide) (fun c4 => ?_) (fun c4 => ?_)
    · skip
      refine Rp.aload_n dX12_readOne_14 rfl rfl ?_
      refine Rp.callV0 M_X12_readClause (ci := 12) dX12_readOne_15 mo_X12_readClause lk_X12_232 (by decide) rfl rfl (S _ _ rfl) (Nat.le_of_ble_eq_true rfl) (Nat.le_of_ble_eq_true rfl) (s_readClause d S R K hf hi hl a) (fun v1 h1 p1 x1 => ?_)
      obtain ⟨rfl, p1⟩ := p1
      try dsimp only [Option.toList, List.cons_append, List.nil_append, List.append]
      refine Rp.vreturn dX12_readOne_18 rfl ?_
      exact ⟨rfl, p1⟩
    · skip
      first | (exfalso; omega) | exact absurd c4 (by decide) | exact absurd (by decide) c4
  · rw [b2i_T] at eo
    refine Rp.aload_n dX12_readOne_0 rfl rfl ?_
    refine Rp.getI dX12_readOne_1 fk_X12_225 rfl (S _ _ rfl) ?_
    first | rw [rd_10, eo] | skip
    first | ((with_reducible show Rp _ _ _ _ (.int (b2i _) :: _) _ _); refine Rp.if_eqB (tgt := 14) dX12_readOne_4 (by decide) (fun c4 => ?_) (fun c4 => ?_)) | ((with_reducible show Rp _ _ _ _ (.int (nI _) :: _) _ _); refine Rp.if_eqN (tgt := 14) dX12_readOne_4 (by decide) (by omega) (fun c4 => ?_) (fun c4 => ?_)) | refine Rp.if_eq (tgt := 14) dX12_readOne_4 (by decide) (fun c4 => ?_) (fun c4 => ?_)
    · skip
      first | (exfalso; omega) | exact absurd c4 (by decide) | exact absurd (by decide) c4
    · skip
      refine Rp.aload_n dX12_readOne_7 rfl rfl ?_
      refine Rp.callV0 M_X12_readOrder (ci := 12) dX12_readOne_8 mo_X12_readOrder lk_X12_229 (by decide) rfl rfl (S _ _ rfl) (Nat.le_of_ble_eq_true rfl) (Nat.le_of_ble_eq_true rfl) (s_readOrder d S R K hf hi hl a) (fun v1 h1 p1 x1 => ?_)
      obtain ⟨rfl, p1⟩ := p1
      try dsimp only [Option.toList, List.cons_append, List.nil_append, List.append]
      refine Rp.goto (tgt := 18) dX12_readOne_11 (by decide) ?_
      refine Rp.vreturn dX12_readOne_18 rfl ?_
      exact ⟨rfl, p1⟩
theorem rdC_cases {x : Except Nat CLR} {h' : AH} {i lv m : Nat} (K : TK h ord c v T) (o : okC T i lv m x) (q : rdC h x h') : (∃ e t l, x = .error e ∧ e ≤ T ∧ gI h am_placed e ≠ -1 ∧ h' = rdH h t l (gI h am_placed e)) ∨ (∃ i' lv' cd p, x = .ok (i', lv', cd, p) ∧ i ≤ i' ∧ i' ≤ T ∧ lv' ≤ 50 ∧ h' = rdH h (nI i') (nI lv') (-1)) := by
  match x, o, q with
  | .error e, o, q =>
    obtain ⟨t, l, q⟩ := q
    exact Or.inl ⟨e, t, l, rfl, o, K.pl o, q⟩
  | .ok (i', lv', cd, p), o, q => exact Or.inr ⟨i', lv', cd, p, rfl, o.1, o.2.1, o.2.2.1, q⟩
/-- behind the reading: the fault, and whether all was fine -/
def rdE (h : AH) (b : Int32) (h' : AH) : Prop := ∃ t l, h' = sI (rdH h t l b) aM fm_fault b
theorem rd_f (h : AH) (t l b : Int32) : gI (rdH h t l b) aM 18 = gI h aM 18 := rd_q h t l b (by decide) (by decide) (by decide)
theorem reads95 (S : ShOK h) (R : RfOK h) (t l b : Int32) (n : Option Value) : Rp (d + 59) M_X12_reads 95 [some (.ref aM), n] [] (rdH h t l b) (fun r h' => r = some (.int (b2i (decide (b = -1)))) ∧ rdE h b h') := by
  have e : gI (sI (rdH h t l b) aM fm_fault b) aM 21 = b := by rw [gI_off _ _ _ (by decide), rd_b]
  refine Rp.aload_n dX12_reads_95 rfl rfl ?_
  refine Rp.aload_n dX12_reads_96 rfl rfl ?_
  refine Rp.getI dX12_reads_97 fk_X12_193 rfl (S _ _ rfl) ?_
  rw [rd_b]
  refine Rp.putI dX12_reads_100 fk_X12_47w rfl (S _ _ rfl) ?_
  refine Rp.aload_n dX12_reads_103 rfl rfl ?_
  refine Rp.callV0 M_X12_fine (ci := 12) dX12_reads_104 mo_X12_fine lk_X12_196 (by decide) rfl rfl (S _ _ rfl) (Nat.le_of_ble_eq_true rfl) (Nat.le_of_ble_eq_true rfl) (?_ : Rp _ _ _ _ _ _ (fun r h' => h' = sI (rdH h t l b) aM fm_fault b ∧ r = some (.int (b2i (decide (b = -1)))))) (fun v1 h1 p1 x1 => ?_)
  · by_cases hb : b = -1
    · rw [b2i_t hb]
      refine Rp.aload_n dX12_fine_0 rfl rfl ?_
      refine Rp.getI dX12_fine_1 fk_X12_193 rfl (S _ _ rfl) ?_
      first | rw [e] | skip
      refine Rp.iconst (-1) dX12_fine_4 (by decide) ?_
      first | ((with_reducible show Rp _ _ _ _ (.int (nI _) :: .int (nI _) :: _) _ _); refine Rp.icmp_neN (tgt := 12) dX12_fine_5 (by decide) (by omega) (fun c5 => ?_) (fun c5 => ?_)) | refine Rp.icmp_ne (tgt := 12) dX12_fine_5 (by decide) (fun c5 => ?_) (fun c5 => ?_)
      · skip
        exact absurd hb c5
      · skip
        refine Rp.iconst (nI 1) dX12_fine_8 (by decide) ?_
        refine Rp.goto (tgt := 13) dX12_fine_9 (by decide) ?_
        refine Rp.zreturn dX12_fine_13 rfl (by first | exact Or.inl rfl | exact Or.inr rfl | assumption) ?_
        exact ⟨rfl, rfl⟩
    · rw [b2i_f hb]
      refine Rp.aload_n dX12_fine_0 rfl rfl ?_
      refine Rp.getI dX12_fine_1 fk_X12_193 rfl (S _ _ rfl) ?_
      first | rw [e] | skip
      refine Rp.iconst (-1) dX12_fine_4 (by decide) ?_
      first | ((with_reducible show Rp _ _ _ _ (.int (nI _) :: .int (nI _) :: _) _ _); refine Rp.icmp_neN (tgt := 12) dX12_fine_5 (by decide) (by omega) (fun c5 => ?_) (fun c5 => ?_)) | refine Rp.icmp_ne (tgt := 12) dX12_fine_5 (by decide) (fun c5 => ?_) (fun c5 => ?_)
      · skip
        refine Rp.iconst (nI 0) dX12_fine_12 (by decide) ?_
        refine Rp.zreturn dX12_fine_13 rfl (by first | exact Or.inl rfl | exact Or.inr rfl | assumption) ?_
        exact ⟨rfl, rfl⟩
      · skip
        exact absurd c5 hb
  · obtain ⟨rfl, rfl⟩ := p1
    dsimp only [Option.toList, List.cons_append, List.nil_append, List.append]
    refine Rp.zreturn dX12_reads_107 rfl (b2i_01 _) ?_
    exact ⟨rfl, t, l, rfl⟩
theorem reads73 (S : ShOK h) (R : RfOK h) (K : TK h ord c v T) (hk : gI h aM fm_tokens = nI T) {i : Nat} (hi : i ≤ T) (l : Int32) (n : Option Value) : Rp (d + 59) M_X12_reads 73 [some (.ref aM), n] [] (rdH h (nI i) l (-1)) (fun r h' => r = some (.int (b2i (decide (i = T)))) ∧ rdE h (if i < T then gI h am_placed i else -1) h') := by
  have hT := K.1
  by_cases hq : i < T
  · rw [if_pos hq]
    have hb := K.pl hi
    refine Rp.aload_n dX12_reads_73 rfl rfl ?_
    refine Rp.callV0 M_X12_fine (ci := 12) dX12_reads_74 mo_X12_fine lk_X12_196 (by decide) rfl rfl (S _ _ rfl) (Nat.le_of_ble_eq_true rfl) (Nat.le_of_ble_eq_true rfl) (s_fine (d + 58) S R _ _) (fun v1 h1 p1 x1 => ?_)
    rw [p1.1, p1.2]
    try dsimp only [Option.toList, List.cons_append, List.nil_append, List.append]
    first | ((with_reducible show Rp _ _ _ _ (.int (b2i _) :: _) _ _); refine Rp.if_eqB (tgt := 95) dX12_reads_77 (by decide) (fun c77 => ?_) (fun c77 => ?_)) | ((with_reducible show Rp _ _ _ _ (.int (nI _) :: _) _ _); refine Rp.if_eqN (tgt := 95) dX12_reads_77 (by decide) (by omega) (fun c77 => ?_) (fun c77 => ?_)) | refine Rp.if_eq (tgt := 95) dX12_reads_77 (by decide) (fun c77 => ?_) (fun c77 => ?_)
    · skip
      first | (exfalso; omega) | exact absurd c77 (by decide) | exact absurd (by decide) c77
    · skip
      refine Rp.aload_n dX12_reads_80 rfl rfl ?_
      refine Rp.getI dX12_reads_81 fk_X12_200 rfl (S _ _ rfl) ?_
      first | rw [rd_t] | rw [rd_f, hk] | skip
      refine Rp.aload_n dX12_reads_84 rfl rfl ?_
      refine Rp.getI dX12_reads_85 fk_X12_180 rfl (S _ _ rfl) ?_
      first | rw [rd_t] | rw [rd_f, hk] | skip
      first | ((with_reducible show Rp _ _ _ _ (.int (nI _) :: .int (nI _) :: _) _ _); refine Rp.icmp_geN (tgt := 95) dX12_reads_88 (by decide) (by omega) (fun c88 => ?_) (fun c88 => ?_)) | refine Rp.icmp_ge (tgt := 95) dX12_reads_88 (by decide) (fun c88 => ?_) (fun c88 => ?_)
      · skip
        first | (exfalso; omega) | exact absurd c88 (by decide) | exact absurd (by decide) c88
      · skip
        refine Rp.aload_n dX12_reads_91 rfl rfl ?_
        refine Rp.callV0 M_X12_faults (ci := 12) dX12_reads_92 mo_X12_faults lk_X12_206 (by decide) rfl rfl (S _ _ rfl) (Nat.le_of_ble_eq_true rfl) (Nat.le_of_ble_eq_true rfl) (s_faults (d + 57) S R K hi l) (fun v1 h1 p1 x1 => ?_)
        rw [p1.1, p1.2]
        try dsimp only [Option.toList, List.cons_append, List.nil_append, List.append]
        refine Rp.mono (fun r h2 p => ⟨?_, p.2⟩) (reads95 d S R _ _ _ n)
        rw [p.1, b2i_f hb, b2i_f (show ¬ i = T by omega)]
  · rw [if_neg hq]
    refine Rp.aload_n dX12_reads_73 rfl rfl ?_
    refine Rp.callV0 M_X12_fine (ci := 12) dX12_reads_74 mo_X12_fine lk_X12_196 (by decide) rfl rfl (S _ _ rfl) (Nat.le_of_ble_eq_true rfl) (Nat.le_of_ble_eq_true rfl) (s_fine (d + 58) S R _ _) (fun v1 h1 p1 x1 => ?_)
    rw [p1.1, p1.2]
    try dsimp only [Option.toList, List.cons_append, List.nil_append, List.append]
    first | ((with_reducible show Rp _ _ _ _ (.int (b2i _) :: _) _ _); refine Rp.if_eqB (tgt := 95) dX12_reads_77 (by decide) (fun c77 => ?_) (fun c77 => ?_)) | ((with_reducible show Rp _ _ _ _ (.int (nI _) :: _) _ _); refine Rp.if_eqN (tgt := 95) dX12_reads_77 (by decide) (by omega) (fun c77 => ?_) (fun c77 => ?_)) | refine Rp.if_eq (tgt := 95) dX12_reads_77 (by decide) (fun c77 => ?_) (fun c77 => ?_)
    · skip
      first | (exfalso; omega) | exact absurd c77 (by decide) | exact absurd (by decide) c77
    · skip
      refine Rp.aload_n dX12_reads_80 rfl rfl ?_
      refine Rp.getI dX12_reads_81 fk_X12_200 rfl (S _ _ rfl) ?_
      first | rw [rd_t] | rw [rd_f, hk] | skip
      refine Rp.aload_n dX12_reads_84 rfl rfl ?_
      refine Rp.getI dX12_reads_85 fk_X12_180 rfl (S _ _ rfl) ?_
      first | rw [rd_t] | rw [rd_f, hk] | skip
      first | ((with_reducible show Rp _ _ _ _ (.int (nI _) :: .int (nI _) :: _) _ _); refine Rp.icmp_geN (tgt := 95) dX12_reads_88 (by decide) (by omega) (fun c88 => ?_) (fun c88 => ?_)) | refine Rp.icmp_ge (tgt := 95) dX12_reads_88 (by decide) (fun c88 => ?_) (fun c88 => ?_)
      · skip
        refine Rp.mono (fun r h2 p => ⟨?_, p.2⟩) (reads95 d S R _ _ _ n)
        rw [p.1, b2i_t rfl, b2i_t (show i = T by omega)]
      · skip
        first | (exfalso; omega) | exact absurd c88 (by decide) | exact absurd (by decide) c88
theorem reads73b (S : ShOK h) (R : RfOK h) (t l b : Int32) (hb : b ≠ -1) (n : Option Value) : Rp (d + 59) M_X12_reads 73 [some (.ref aM), n] [] (rdH h t l b) (fun r h' => r = some (.int (nI 0)) ∧ rdE h b h') := by
  refine Rp.aload_n dX12_reads_73 rfl rfl ?_
  refine Rp.callV0 M_X12_fine (ci := 12) dX12_reads_74 mo_X12_fine lk_X12_196 (by decide) rfl rfl (S _ _ rfl) (Nat.le_of_ble_eq_true rfl) (Nat.le_of_ble_eq_true rfl) (s_fineF (d + 58) S R _ _ _ hb) (fun v1 h1 p1 x1 => ?_)
  rw [p1.1, p1.2]
  try dsimp only [Option.toList, List.cons_append, List.nil_append, List.append]
  first | ((with_reducible show Rp _ _ _ _ (.int (b2i _) :: _) _ _); refine Rp.if_eqB (tgt := 95) dX12_reads_77 (by decide) (fun c77 => ?_) (fun c77 => ?_)) | ((with_reducible show Rp _ _ _ _ (.int (nI _) :: _) _ _); refine Rp.if_eqN (tgt := 95) dX12_reads_77 (by decide) (by omega) (fun c77 => ?_) (fun c77 => ?_)) | refine Rp.if_eq (tgt := 95) dX12_reads_77 (by decide) (fun c77 => ?_) (fun c77 => ?_)
  · skip
    refine Rp.mono (fun r h2 p => ⟨?_, p.2⟩) (reads95 d S R _ _ _ n)
    rw [p.1, b2i_f hb]
  · skip
    first | (exfalso; omega) | exact absurd c77 (by decide) | exact absurd (by decide) c77
/-- what the whole reading answers -/
def rdA (h : AH) (q : Except Nat (List CLE)) (r : Option Value) (h' : AH) : Prop := match q with
  | .error e => r = some (.int (nI 0)) ∧ rdE h (gI h am_placed e) h'
  | .ok _ => r = some (.int (nI 1)) ∧ rdE h (-1) h'
theorem reads34 (S : ShOK h) (R : RfOK h) (K : TK h ord c v T) (hk : gI h aM fm_tokens = nI T) (hf : 12 * T + 8 ≤ f) : ∀ (k n i lv a : Nat) (cd : List (Nat × Nat)) (i0 a0 : Nat) (p : CLQ), n + k = 12 → 1 ≤ n → i ≤ T → lv ≤ 50 → Rp (d + 59) M_X12_reads 34 [some (.ref aM), some (.int (nI n))] [] (rdH h (nI i) (nI lv) (-1)) (rdA h (if c i = 159 then (match rdL ord c v T f k (i + 1) lv a with
        | .error e => .error e
        | .ok L => .ok ((i0, a0, i, cd, p) :: L))
      else if i < T then .error i else .ok [(i0, a0, i, cd, p)])) := by
  have hT := K.1
  have hc := K.2.1
  intro k
  induction k with
  | zero =>
    intro n i lv a cd i0 a0 p hn h1 hi hl
    by_cases e : c i = 159
    · rw [if_pos e]
      have hi1 := lt_of_code hc hi (by rw [e]; decide)
      show Rp _ _ _ _ _ _ (rdA h (.error (i + 1)))
      have hb := K.pl (show i + 1 ≤ T from hi1)
      refine Rp.aload_n dX12_reads_34 rfl rfl ?_
      refine Rp.bipush (nI 59) dX12_reads_35 (by decide) ?_
      refine Rp.callS1 M_X12_sign dX12_reads_37 mo_X12_sign lk_X12_241 (Nat.le_of_ble_eq_true rfl) (Nat.le_of_ble_eq_true rfl) (s_signN (d + 58) 59) (fun v1 h1 p1 x1 => ?_)
      rw [p1.1, p1.2]
      try dsimp only [Option.toList, List.cons_append, List.nil_append, List.append]
      refine Rp.callV1 M_X12_takes0 (ci := 12) dX12_reads_40 mo_X12_takes0 lk_X12_203 (by decide) rfl rfl (S _ _ rfl) (Nat.le_of_ble_eq_true rfl) (Nat.le_of_ble_eq_true rfl) (s_takes (d + 57) S R K hi (nI lv) _ (by decide)) (fun v1 h1 p1 x1 => ?_)
      skip
      try dsimp only [Option.toList, List.cons_append, List.nil_append, List.append]
      skip
      rcases p1 with ⟨-, rfl, rfl⟩ | ⟨e0, rfl, rfl⟩
      · dsimp only [Option.toList, List.cons_append, List.nil_append, List.append]
        first | ((with_reducible show Rp _ _ _ _ (.int (b2i _) :: _) _ _); refine Rp.if_eqB (tgt := 73) dX12_reads_43 (by decide) (fun c43 => ?_) (fun c43 => ?_)) | ((with_reducible show Rp _ _ _ _ (.int (nI _) :: _) _ _); refine Rp.if_eqN (tgt := 73) dX12_reads_43 (by decide) (by omega) (fun c43 => ?_) (fun c43 => ?_)) | refine Rp.if_eq (tgt := 73) dX12_reads_43 (by decide) (fun c43 => ?_) (fun c43 => ?_)
        · first | (exfalso; omega) | exact absurd c43 (by decide) | exact absurd (by decide) c43
        refine Rp.iload_n dX12_reads_46 rfl ?_
        refine Rp.bipush (nI 12) dX12_reads_47 (by decide) ?_
        first | ((with_reducible show Rp _ _ _ _ (.int (nI _) :: .int (nI _) :: _) _ _); refine Rp.icmp_neN (tgt := 56) dX12_reads_49 (by decide) (by omega) (fun c49 => ?_) (fun c49 => ?_)) | refine Rp.icmp_ne (tgt := 56) dX12_reads_49 (by decide) (fun c49 => ?_) (fun c49 => ?_)
        · first | (exfalso; omega) | exact absurd c49 (by decide) | exact absurd (by decide) c49
        refine Rp.aload_n dX12_reads_52 rfl rfl ?_
        refine Rp.callV0 M_X12_faults (ci := 12) dX12_reads_53 mo_X12_faults lk_X12_206 (by decide) rfl rfl (S _ _ rfl) (Nat.le_of_ble_eq_true rfl) (Nat.le_of_ble_eq_true rfl) (s_faults (d + 57) S R K (show i + 1 ≤ T from hi1) (nI lv)) (fun v1 h1 p1 x1 => ?_)
        rw [p1.1, p1.2]
        try dsimp only [Option.toList, List.cons_append, List.nil_append, List.append]
        refine Rp.aload_n dX12_reads_56 rfl rfl ?_
        refine Rp.callV0 M_X12_fine (ci := 12) dX12_reads_57 mo_X12_fine lk_X12_196 (by decide) rfl rfl (S _ _ rfl) (Nat.le_of_ble_eq_true rfl) (Nat.le_of_ble_eq_true rfl) (s_fineF (d + 58) S R _ _ _ hb) (fun v1 h1 p1 x1 => ?_)
        rw [p1.1, p1.2]
        try dsimp only [Option.toList, List.cons_append, List.nil_append, List.append]
        first | ((with_reducible show Rp _ _ _ _ (.int (b2i _) :: _) _ _); refine Rp.if_eqB (tgt := 67) dX12_reads_60 (by decide) (fun c60 => ?_) (fun c60 => ?_)) | ((with_reducible show Rp _ _ _ _ (.int (nI _) :: _) _ _); refine Rp.if_eqN (tgt := 67) dX12_reads_60 (by decide) (by omega) (fun c60 => ?_) (fun c60 => ?_)) | refine Rp.if_eq (tgt := 67) dX12_reads_60 (by decide) (fun c60 => ?_) (fun c60 => ?_)
        rotate_left
        · first | (exfalso; omega) | exact absurd c60 (by decide) | exact absurd (by decide) c60
        first | ((with_reducible show Rp _ _ _ (_ :: some (.int (nI _)) :: _) _ _ _); refine Rp.inc1N (c := 1) dX12_reads_67 (by first | exact nl2_some rfl | exact nl2_none) (by decide) ?_) | refine Rp.inc1 _ dX12_reads_67 rfl (by first | exact nl2_some rfl | exact nl2_none) (by decide) ?_
        refine Rp.goto (tgt := 34) dX12_reads_70 (by decide) ?_
        skip
        refine Rp.aload_n dX12_reads_34 rfl rfl ?_
        refine Rp.bipush (nI 59) dX12_reads_35 (by decide) ?_
        refine Rp.callS1 M_X12_sign dX12_reads_37 mo_X12_sign lk_X12_241 (Nat.le_of_ble_eq_true rfl) (Nat.le_of_ble_eq_true rfl) (s_signN (d + 58) 59) (fun v1 h1 p1 x1 => ?_)
        rw [p1.1, p1.2]
        try dsimp only [Option.toList, List.cons_append, List.nil_append, List.append]
        refine Rp.callV1 M_X12_takes0 (ci := 12) dX12_reads_40 mo_X12_takes0 lk_X12_203 (by decide) rfl rfl (S _ _ rfl) (Nat.le_of_ble_eq_true rfl) (Nat.le_of_ble_eq_true rfl) (s_takesF (d + 57) S R _ _ _ _ hb) (fun v1 h1 p1 x1 => ?_)
        rw [p1.1, p1.2]
        try dsimp only [Option.toList, List.cons_append, List.nil_append, List.append]
        first | ((with_reducible show Rp _ _ _ _ (.int (b2i _) :: _) _ _); refine Rp.if_eqB (tgt := 73) dX12_reads_43 (by decide) (fun c43 => ?_) (fun c43 => ?_)) | ((with_reducible show Rp _ _ _ _ (.int (nI _) :: _) _ _); refine Rp.if_eqN (tgt := 73) dX12_reads_43 (by decide) (by omega) (fun c43 => ?_) (fun c43 => ?_)) | refine Rp.if_eq (tgt := 73) dX12_reads_43 (by decide) (fun c43 => ?_) (fun c43 => ?_)
        · skip
          exact reads73b d S R _ _ _ hb _
        · skip
          first | (exfalso; omega) | exact absurd c43 (by decide) | exact absurd (by decide) c43
      · exact absurd e e0
    · rw [if_neg e]
      refine Rp.aload_n dX12_reads_34 rfl rfl ?_
      refine Rp.bipush (nI 59) dX12_reads_35 (by decide) ?_
      refine Rp.callS1 M_X12_sign dX12_reads_37 mo_X12_sign lk_X12_241 (Nat.le_of_ble_eq_true rfl) (Nat.le_of_ble_eq_true rfl) (s_signN (d + 58) 59) (fun v1 h1 p1 x1 => ?_)
      rw [p1.1, p1.2]
      try dsimp only [Option.toList, List.cons_append, List.nil_append, List.append]
      refine Rp.callV1 M_X12_takes0 (ci := 12) dX12_reads_40 mo_X12_takes0 lk_X12_203 (by decide) rfl rfl (S _ _ rfl) (Nat.le_of_ble_eq_true rfl) (Nat.le_of_ble_eq_true rfl) (s_takes (d + 57) S R K hi (nI lv) _ (by decide)) (fun v1 h1 p1 x1 => ?_)
      skip
      try dsimp only [Option.toList, List.cons_append, List.nil_append, List.append]
      skip
      rcases p1 with ⟨e0, rfl, rfl⟩ | ⟨-, rfl, rfl⟩
      · exact absurd e0 e
      · dsimp only [Option.toList, List.cons_append, List.nil_append, List.append]
        first | ((with_reducible show Rp _ _ _ _ (.int (b2i _) :: _) _ _); refine Rp.if_eqB (tgt := 73) dX12_reads_43 (by decide) (fun c43 => ?_) (fun c43 => ?_)) | ((with_reducible show Rp _ _ _ _ (.int (nI _) :: _) _ _); refine Rp.if_eqN (tgt := 73) dX12_reads_43 (by decide) (by omega) (fun c43 => ?_) (fun c43 => ?_)) | refine Rp.if_eq (tgt := 73) dX12_reads_43 (by decide) (fun c43 => ?_) (fun c43 => ?_)
        · skip
          refine Rp.mono (fun r h2 p => ?_) (reads73 d S R K hk hi (nI lv) _)
          obtain ⟨p1, p2⟩ := p
          by_cases hq : i < T
          · rw [if_pos hq] at p2 ⊢; exact ⟨by rw [p1, b2i_f (show ¬ i = T by omega)], p2⟩
          · rw [if_neg hq] at p2 ⊢; exact ⟨by rw [p1, b2i_t (show i = T by omega)], p2⟩
        · skip
          first | (exfalso; omega) | exact absurd c43 (by decide) | exact absurd (by decide) c43
  | succ k ih =>
    intro n i lv a cd i0 a0 p hn h1 hi hl
    by_cases e : c i = 159
    · rw [if_pos e]
      have hi1 := lt_of_code hc hi (by rw [e]; decide)
      have hi2 : i + 1 ≤ T := hi1
      have o1 := okC_R (ord := ord) (c := c) (v := v) (f := f) (a := a) hc hi2 hl
      rw [rdL]
      refine Rp.aload_n dX12_reads_34 rfl rfl ?_
      refine Rp.bipush (nI 59) dX12_reads_35 (by decide) ?_
      refine Rp.callS1 M_X12_sign dX12_reads_37 mo_X12_sign lk_X12_241 (Nat.le_of_ble_eq_true rfl) (Nat.le_of_ble_eq_true rfl) (s_signN (d + 58) 59) (fun v1 h1 p1 x1 => ?_)
      rw [p1.1, p1.2]
      try dsimp only [Option.toList, List.cons_append, List.nil_append, List.append]
      refine Rp.callV1 M_X12_takes0 (ci := 12) dX12_reads_40 mo_X12_takes0 lk_X12_203 (by decide) rfl rfl (S _ _ rfl) (Nat.le_of_ble_eq_true rfl) (Nat.le_of_ble_eq_true rfl) (s_takes (d + 57) S R K hi (nI lv) _ (by decide)) (fun v1 h1 p1 x1 => ?_)
      skip
      try dsimp only [Option.toList, List.cons_append, List.nil_append, List.append]
      skip
      rcases p1 with ⟨-, rfl, rfl⟩ | ⟨e0, rfl, rfl⟩
      · dsimp only [Option.toList, List.cons_append, List.nil_append, List.append]
        first | ((with_reducible show Rp _ _ _ _ (.int (b2i _) :: _) _ _); refine Rp.if_eqB (tgt := 73) dX12_reads_43 (by decide) (fun c43 => ?_) (fun c43 => ?_)) | ((with_reducible show Rp _ _ _ _ (.int (nI _) :: _) _ _); refine Rp.if_eqN (tgt := 73) dX12_reads_43 (by decide) (by omega) (fun c43 => ?_) (fun c43 => ?_)) | refine Rp.if_eq (tgt := 73) dX12_reads_43 (by decide) (fun c43 => ?_) (fun c43 => ?_)
        · first | (exfalso; omega) | exact absurd c43 (by decide) | exact absurd (by decide) c43
        refine Rp.iload_n dX12_reads_46 rfl ?_
        refine Rp.bipush (nI 12) dX12_reads_47 (by decide) ?_
        first | ((with_reducible show Rp _ _ _ _ (.int (nI _) :: .int (nI _) :: _) _ _); refine Rp.icmp_neN (tgt := 56) dX12_reads_49 (by decide) (by omega) (fun c49 => ?_) (fun c49 => ?_)) | refine Rp.icmp_ne (tgt := 56) dX12_reads_49 (by decide) (fun c49 => ?_) (fun c49 => ?_)
        rotate_left
        · first | (exfalso; omega) | exact absurd c49 (by decide) | exact absurd (by decide) c49
        refine Rp.aload_n dX12_reads_56 rfl rfl ?_
        refine Rp.callV0 M_X12_fine (ci := 12) dX12_reads_57 mo_X12_fine lk_X12_196 (by decide) rfl rfl (S _ _ rfl) (Nat.le_of_ble_eq_true rfl) (Nat.le_of_ble_eq_true rfl) (s_fine (d + 58) S R _ _) (fun v1 h1 p1 x1 => ?_)
        rw [p1.1, p1.2]
        try dsimp only [Option.toList, List.cons_append, List.nil_append, List.append]
        first | ((with_reducible show Rp _ _ _ _ (.int (b2i _) :: _) _ _); refine Rp.if_eqB (tgt := 67) dX12_reads_60 (by decide) (fun c60 => ?_) (fun c60 => ?_)) | ((with_reducible show Rp _ _ _ _ (.int (nI _) :: _) _ _); refine Rp.if_eqN (tgt := 67) dX12_reads_60 (by decide) (by omega) (fun c60 => ?_) (fun c60 => ?_)) | refine Rp.if_eq (tgt := 67) dX12_reads_60 (by decide) (fun c60 => ?_) (fun c60 => ?_)
        · first | (exfalso; omega) | exact absurd c60 (by decide) | exact absurd (by decide) c60
        refine Rp.aload_n dX12_reads_63 rfl rfl ?_
        refine Rp.callV0 M_X12_readOne (ci := 12) dX12_reads_64 mo_X12_readOne lk_X12_263 (by decide) rfl rfl (S _ _ rfl) (Nat.le_of_ble_eq_true rfl) (Nat.le_of_ble_eq_true rfl) (s_readOne d S R K hf hi2 hl a) (fun v1 h1 p1 x1 => ?_)
        obtain ⟨rfl, p1⟩ := p1
        try dsimp only [Option.toList, List.cons_append, List.nil_append, List.append]
        skip
        generalize clR ord c v f (i + 1) lv a = x at p1 o1 ⊢
        rcases rdC_cases K o1 p1 with ⟨e, t, l, rfl, he, hb, rfl⟩ | ⟨i1, lv1, cd1, q1, rfl, g1, g2, g4, rfl⟩
        · dsimp only
          first | ((with_reducible show Rp _ _ _ (_ :: some (.int (nI _)) :: _) _ _ _); refine Rp.inc1N (c := 1) dX12_reads_67 (by first | exact nl2_some rfl | exact nl2_none) (by decide) ?_) | refine Rp.inc1 _ dX12_reads_67 rfl (by first | exact nl2_some rfl | exact nl2_none) (by decide) ?_
          refine Rp.goto (tgt := 34) dX12_reads_70 (by decide) ?_
          skip
          refine Rp.aload_n dX12_reads_34 rfl rfl ?_
          refine Rp.bipush (nI 59) dX12_reads_35 (by decide) ?_
          refine Rp.callS1 M_X12_sign dX12_reads_37 mo_X12_sign lk_X12_241 (Nat.le_of_ble_eq_true rfl) (Nat.le_of_ble_eq_true rfl) (s_signN (d + 58) 59) (fun v1 h1 p1 x1 => ?_)
          rw [p1.1, p1.2]
          try dsimp only [Option.toList, List.cons_append, List.nil_append, List.append]
          refine Rp.callV1 M_X12_takes0 (ci := 12) dX12_reads_40 mo_X12_takes0 lk_X12_203 (by decide) rfl rfl (S _ _ rfl) (Nat.le_of_ble_eq_true rfl) (Nat.le_of_ble_eq_true rfl) (s_takesF (d + 57) S R _ _ _ _ hb) (fun v1 h1 p1 x1 => ?_)
          rw [p1.1, p1.2]
          try dsimp only [Option.toList, List.cons_append, List.nil_append, List.append]
          first | ((with_reducible show Rp _ _ _ _ (.int (b2i _) :: _) _ _); refine Rp.if_eqB (tgt := 73) dX12_reads_43 (by decide) (fun c43 => ?_) (fun c43 => ?_)) | ((with_reducible show Rp _ _ _ _ (.int (nI _) :: _) _ _); refine Rp.if_eqN (tgt := 73) dX12_reads_43 (by decide) (by omega) (fun c43 => ?_) (fun c43 => ?_)) | refine Rp.if_eq (tgt := 73) dX12_reads_43 (by decide) (fun c43 => ?_) (fun c43 => ?_)
          · skip
            exact reads73b d S R _ _ _ hb _
          · skip
            first | (exfalso; omega) | exact absurd c43 (by decide) | exact absurd (by decide) c43
        · dsimp only
          first | ((with_reducible show Rp _ _ _ (_ :: some (.int (nI _)) :: _) _ _ _); refine Rp.inc1N (c := 1) dX12_reads_67 (by first | exact nl2_some rfl | exact nl2_none) (by decide) ?_) | refine Rp.inc1 _ dX12_reads_67 rfl (by first | exact nl2_some rfl | exact nl2_none) (by decide) ?_
          refine Rp.goto (tgt := 34) dX12_reads_70 (by decide) ?_
          refine Rp.mono (fun r h2 p => ?_) (ih (n + 1) i1 lv1 (a + cd1.length) cd1 (i + 1) a q1 (by omega) (by omega) g2 g4)
          revert p
          generalize (if c i1 = 159 then (match rdL ord c v T f k (i1 + 1) lv1 (a + cd1.length) with
        | .error e => .error e
        | .ok L => .ok ((i + 1, a, i1, cd1, q1) :: L))
      else if i1 < T then .error i1 else .ok [(i + 1, a, i1, cd1, q1)] : Except Nat (List CLE)) = y
          intro p
          match y, p with
          | .error e, p => exact p
          | .ok L, p => exact p
      · exact absurd e e0
    · rw [if_neg e]
      refine Rp.aload_n dX12_reads_34 rfl rfl ?_
      refine Rp.bipush (nI 59) dX12_reads_35 (by decide) ?_
      refine Rp.callS1 M_X12_sign dX12_reads_37 mo_X12_sign lk_X12_241 (Nat.le_of_ble_eq_true rfl) (Nat.le_of_ble_eq_true rfl) (s_signN (d + 58) 59) (fun v1 h1 p1 x1 => ?_)
      rw [p1.1, p1.2]
      try dsimp only [Option.toList, List.cons_append, List.nil_append, List.append]
      refine Rp.callV1 M_X12_takes0 (ci := 12) dX12_reads_40 mo_X12_takes0 lk_X12_203 (by decide) rfl rfl (S _ _ rfl) (Nat.le_of_ble_eq_true rfl) (Nat.le_of_ble_eq_true rfl) (s_takes (d + 57) S R K hi (nI lv) _ (by decide)) (fun v1 h1 p1 x1 => ?_)
      skip
      try dsimp only [Option.toList, List.cons_append, List.nil_append, List.append]
      skip
      rcases p1 with ⟨e0, rfl, rfl⟩ | ⟨-, rfl, rfl⟩
      · exact absurd e0 e
      · dsimp only [Option.toList, List.cons_append, List.nil_append, List.append]
        first | ((with_reducible show Rp _ _ _ _ (.int (b2i _) :: _) _ _); refine Rp.if_eqB (tgt := 73) dX12_reads_43 (by decide) (fun c43 => ?_) (fun c43 => ?_)) | ((with_reducible show Rp _ _ _ _ (.int (nI _) :: _) _ _); refine Rp.if_eqN (tgt := 73) dX12_reads_43 (by decide) (by omega) (fun c43 => ?_) (fun c43 => ?_)) | refine Rp.if_eq (tgt := 73) dX12_reads_43 (by decide) (fun c43 => ?_) (fun c43 => ?_)
        · skip
          refine Rp.mono (fun r h2 p => ?_) (reads73 d S R K hk hi (nI lv) _)
          obtain ⟨p1, p2⟩ := p
          by_cases hq : i < T
          · rw [if_pos hq] at p2 ⊢; exact ⟨by rw [p1, b2i_f (show ¬ i = T by omega)], p2⟩
          · rw [if_neg hq] at p2 ⊢; exact ⟨by rw [p1, b2i_t (show i = T by omega)], p2⟩
        · skip
          first | (exfalso; omega) | exact absurd c43 (by decide) | exact absurd (by decide) c43
theorem reads28 (S : ShOK h) (R : RfOK h) (K : TK h ord c v T) (hk : gI h aM fm_tokens = nI T) (hf : 12 * T + 8 ≤ f) : Rp (d + 59) M_X12_reads 28 [some (.ref aM), none] [] (rdH h (nI 0) (nI 0) (-1)) (rdA h (rdL ord c v T f 12 0 0 0)) := by
  have hc := K.2.1
  have o1 := okC_R (ord := ord) (c := c) (v := v) (f := f) (a := 0) (lv := 0) hc (Nat.zero_le T) (by decide)
  rw [rdL]
  refine Rp.aload_n dX12_reads_28 rfl rfl ?_
  refine Rp.callV0 M_X12_readOne (ci := 12) dX12_reads_29 mo_X12_readOne lk_X12_263 (by decide) rfl rfl (S _ _ rfl) (Nat.le_of_ble_eq_true rfl) (Nat.le_of_ble_eq_true rfl) (s_readOne d S R K hf (Nat.zero_le T) (by decide) 0) (fun v1 h1 p1 x1 => ?_)
  obtain ⟨rfl, p1⟩ := p1
  try dsimp only [Option.toList, List.cons_append, List.nil_append, List.append]
  skip
  generalize clR ord c v f 0 0 0 = x at p1 o1 ⊢
  rcases rdC_cases K o1 p1 with ⟨e, t, l, rfl, he, hb, rfl⟩ | ⟨i1, lv1, cd1, q1, rfl, g1, g2, g4, rfl⟩
  · dsimp only
    refine Rp.iconst (nI 1) dX12_reads_32 (by decide) ?_
    refine Rp.ist1 dX12_reads_33 (by first | exact nl2_some rfl | exact nl2_none) (by decide) ?_
    skip
    refine Rp.aload_n dX12_reads_34 rfl rfl ?_
    refine Rp.bipush (nI 59) dX12_reads_35 (by decide) ?_
    refine Rp.callS1 M_X12_sign dX12_reads_37 mo_X12_sign lk_X12_241 (Nat.le_of_ble_eq_true rfl) (Nat.le_of_ble_eq_true rfl) (s_signN (d + 58) 59) (fun v1 h1 p1 x1 => ?_)
    rw [p1.1, p1.2]
    try dsimp only [Option.toList, List.cons_append, List.nil_append, List.append]
    refine Rp.callV1 M_X12_takes0 (ci := 12) dX12_reads_40 mo_X12_takes0 lk_X12_203 (by decide) rfl rfl (S _ _ rfl) (Nat.le_of_ble_eq_true rfl) (Nat.le_of_ble_eq_true rfl) (s_takesF (d + 57) S R _ _ _ _ hb) (fun v1 h1 p1 x1 => ?_)
    rw [p1.1, p1.2]
    try dsimp only [Option.toList, List.cons_append, List.nil_append, List.append]
    first | ((with_reducible show Rp _ _ _ _ (.int (b2i _) :: _) _ _); refine Rp.if_eqB (tgt := 73) dX12_reads_43 (by decide) (fun c43 => ?_) (fun c43 => ?_)) | ((with_reducible show Rp _ _ _ _ (.int (nI _) :: _) _ _); refine Rp.if_eqN (tgt := 73) dX12_reads_43 (by decide) (by omega) (fun c43 => ?_) (fun c43 => ?_)) | refine Rp.if_eq (tgt := 73) dX12_reads_43 (by decide) (fun c43 => ?_) (fun c43 => ?_)
    · skip
      exact reads73b d S R _ _ _ hb _
    · skip
      first | (exfalso; omega) | exact absurd c43 (by decide) | exact absurd (by decide) c43
  · dsimp only
    refine Rp.iconst (nI 1) dX12_reads_32 (by decide) ?_
    refine Rp.ist1 dX12_reads_33 (by first | exact nl2_some rfl | exact nl2_none) (by decide) ?_
    exact reads34 d S R K hk hf 11 1 i1 lv1 (0 + cd1.length) cd1 0 0 q1 rfl (by decide) g2 g4
end Rc
