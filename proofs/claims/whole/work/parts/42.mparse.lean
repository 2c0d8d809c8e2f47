/-- what is left of a reading in the heap -/
def rdQ (h : AH) (q : Except Nat LR) (h' : AH) : Prop := match q with
  | .error e => ∃ t l, h' = rdH h t l (gI h am_placed e)
  | .ok (i, lv, _) => h' = rdH h (nI i) (nI lv) (-1)
def aR (h : AH) (d md dep i lv : Nat) (Q : AH → Prop) : Prop := match md with
  | 0 => Rp (d + 6 * (8 - dep) + 8) M_X12_readTest 0 [some (.ref aM), some (.int (nI dep))] [] (rdH h (nI i) (nI lv) (-1)) (fun r h' => r = none ∧ Q h')
  | 2 => Rp (d + 6 * (8 - dep) + 8) M_X12_readTest 5 [some (.ref aM), some (.int (nI dep))] [] (rdH h (nI i) (nI lv) (-1)) (fun r h' => r = none ∧ Q h')
  | 1 => Rp (d + 6 * (8 - dep) + 7) M_X12_readBoth 0 [some (.ref aM), some (.int (nI dep))] [] (rdH h (nI i) (nI lv) (-1)) (fun r h' => r = none ∧ Q h')
  | 4 => Rp (d + 6 * (8 - dep) + 7) M_X12_readBoth 5 [some (.ref aM), some (.int (nI dep))] [] (rdH h (nI i) (nI lv) (-1)) (fun r h' => r = none ∧ Q h')
  | 3 => Rp (d + 6 * (8 - dep) + 6) M_X12_readPlain 2 [some (.ref aM), some (.int (nI dep)), some (.int (nI 1)), none] [] (rdH h (nI i) (nI lv) (-1)) (fun r h' => r = none ∧ Q h')
  | 5 => Rp (d + 6 * (8 - dep) + 6) M_X12_readPlain 2 [some (.ref aM), some (.int (nI dep)), some (.int (nI 1)), none] [] (rdH h (nI i) (nI lv) (-1)) (fun r h' => r = none ∧ Q h')
  | 6 => Rp (d + 6 * (8 - dep) + 6) M_X12_readPlain 16 [some (.ref aM), some (.int (nI dep)), some (.int (nI 0)), none] [] (rdH h (nI i) (nI lv) (-1)) (fun r h' => r = none ∧ Q h')
  | 7 => Rp (d + 6 * (8 - dep) + 5) M_X12_readSum 0 [some (.ref aM), some (.int (nI dep))] [] (rdH h (nI i) (nI lv) (-1)) (fun r h' => r = none ∧ Q h')
  | 8 => Rp (d + 6 * (8 - dep) + 5) M_X12_readSum 5 [some (.ref aM), some (.int (nI dep))] [] (rdH h (nI i) (nI lv) (-1)) (fun r h' => r = none ∧ Q h')
  | 9 => Rp (d + 6 * (8 - dep) + 4) M_X12_readTerm 0 [some (.ref aM), some (.int (nI dep))] [] (rdH h (nI i) (nI lv) (-1)) (fun r h' => r = none ∧ Q h')
  | 10 => Rp (d + 6 * (8 - dep) + 4) M_X12_readTerm 5 [some (.ref aM), some (.int (nI dep))] [] (rdH h (nI i) (nI lv) (-1)) (fun r h' => r = none ∧ Q h')
  | _ => Rp (d + 6 * (8 - dep) + 3) M_X12_readPart 0 [some (.ref aM), some (.int (nI dep)), none] [] (rdH h (nI i) (nI lv) (-1)) (fun r h' => r = none ∧ Q h')
theorem TK.pl {h : AH} {ord : Bool} {c v : Nat → Nat} {T : Nat} (K : TK h ord c v T) {e : Nat} (he : e ≤ T) : gI h am_placed e ≠ -1 := by
  obtain ⟨-, -, -, -, n, hn, en⟩ := K.2.2.1 e he
  rw [en]; exact nI_ne_m1 hn
section Rb
variable (d : Nat) {h : AH} {ord : Bool} {c v : Nat → Nat} {T : Nat}
theorem bad_part (S : ShOK h) (R : RfOK h) (dep t l b : Int32) (hb : b ≠ -1) : Rp (d + 3) M_X12_readPart 0 [some (.ref aM), some (.int dep), none] [] (rdH h t l b) (fun r h' => h' = rdH h t l b ∧ r = none) := by
  refine Rp.aload_n dX12_readPart_0 rfl rfl ?_
  refine Rp.callV0 M_X12_fine (ci := 12) dX12_readPart_1 mo_X12_fine lk_X12_196 (by decide) rfl rfl (S _ _ rfl) (Nat.le_of_ble_eq_true rfl) (Nat.le_of_ble_eq_true rfl) (s_fineF (d + 2) S R t l b hb) (fun v1 h1 p1 x1 => ?_)
  rw [p1.1, p1.2]
  try dsimp only [Option.toList, List.cons_append, List.nil_append, List.append]
  first | ((with_reducible show Rp _ _ _ _ (.int (b2i _) :: _) _ _); refine Rp.if_neB (tgt := 8) dX12_readPart_4 (by decide) (fun c4 => ?_) (fun c4 => ?_)) | ((with_reducible show Rp _ _ _ _ (.int (nI _) :: _) _ _); refine Rp.if_neN (tgt := 8) dX12_readPart_4 (by decide) (by omega) (fun c4 => ?_) (fun c4 => ?_)) | refine Rp.if_ne (tgt := 8) dX12_readPart_4 (by decide) (fun c4 => ?_) (fun c4 => ?_)
  · skip
    first | (exfalso; omega) | exact absurd c4 (by decide) | exact absurd (by decide) c4
  · skip
    refine Rp.vreturn dX12_readPart_7 rfl ?_
    exact ⟨rfl, rfl⟩
theorem bad_term5 (S : ShOK h) (R : RfOK h) (dep t l b : Int32) (hb : b ≠ -1) : Rp (d + 4) M_X12_readTerm 5 [some (.ref aM), some (.int dep)] [] (rdH h t l b) (fun r h' => h' = rdH h t l b ∧ r = none) := by
  refine Rp.aload_n dX12_readTerm_5 rfl rfl ?_
  refine Rp.bipush (nI 42) dX12_readTerm_6 (by decide) ?_
  refine Rp.callS1 M_X12_sign dX12_readTerm_8 mo_X12_sign lk_X12_241 (Nat.le_of_ble_eq_true rfl) (Nat.le_of_ble_eq_true rfl) (s_signN (d + 3) 42) (fun v1 h1 p1 x1 => ?_)
  rw [p1.1, p1.2]
  try dsimp only [Option.toList, List.cons_append, List.nil_append, List.append]
  refine Rp.callV1 M_X12_takes0 (ci := 12) dX12_readTerm_11 mo_X12_takes0 lk_X12_203 (by decide) rfl rfl (S _ _ rfl) (Nat.le_of_ble_eq_true rfl) (Nat.le_of_ble_eq_true rfl) (s_takesF (d + 2) S R _ t l b hb) (fun v1 h1 p1 x1 => ?_)
  rw [p1.1, p1.2]
  try dsimp only [Option.toList, List.cons_append, List.nil_append, List.append]
  first | ((with_reducible show Rp _ _ _ _ (.int (b2i _) :: _) _ _); refine Rp.if_neB (tgt := 41) dX12_readTerm_14 (by decide) (fun c14 => ?_) (fun c14 => ?_)) | ((with_reducible show Rp _ _ _ _ (.int (nI _) :: _) _ _); refine Rp.if_neN (tgt := 41) dX12_readTerm_14 (by decide) (by omega) (fun c14 => ?_) (fun c14 => ?_)) | refine Rp.if_ne (tgt := 41) dX12_readTerm_14 (by decide) (fun c14 => ?_) (fun c14 => ?_)
  · skip
    first | (exfalso; omega) | exact absurd c14 (by decide) | exact absurd (by decide) c14
  · skip
    refine Rp.aload_n dX12_readTerm_17 rfl rfl ?_
    refine Rp.bipush (nI 47) dX12_readTerm_18 (by decide) ?_
    refine Rp.callS1 M_X12_sign dX12_readTerm_20 mo_X12_sign lk_X12_241 (Nat.le_of_ble_eq_true rfl) (Nat.le_of_ble_eq_true rfl) (s_signN (d + 3) 47) (fun v1 h1 p1 x1 => ?_)
    rw [p1.1, p1.2]
    try dsimp only [Option.toList, List.cons_append, List.nil_append, List.append]
    refine Rp.callV1 M_X12_takes0 (ci := 12) dX12_readTerm_23 mo_X12_takes0 lk_X12_203 (by decide) rfl rfl (S _ _ rfl) (Nat.le_of_ble_eq_true rfl) (Nat.le_of_ble_eq_true rfl) (s_takesF (d + 2) S R _ t l b hb) (fun v1 h1 p1 x1 => ?_)
    rw [p1.1, p1.2]
    try dsimp only [Option.toList, List.cons_append, List.nil_append, List.append]
    first | ((with_reducible show Rp _ _ _ _ (.int (b2i _) :: _) _ _); refine Rp.if_neB (tgt := 41) dX12_readTerm_26 (by decide) (fun c26 => ?_) (fun c26 => ?_)) | ((with_reducible show Rp _ _ _ _ (.int (nI _) :: _) _ _); refine Rp.if_neN (tgt := 41) dX12_readTerm_26 (by decide) (by omega) (fun c26 => ?_) (fun c26 => ?_)) | refine Rp.if_ne (tgt := 41) dX12_readTerm_26 (by decide) (fun c26 => ?_) (fun c26 => ?_)
    · skip
      first | (exfalso; omega) | exact absurd c26 (by decide) | exact absurd (by decide) c26
    · skip
      refine Rp.aload_n dX12_readTerm_29 rfl rfl ?_
      refine Rp.bipush (nI 37) dX12_readTerm_30 (by decide) ?_
      refine Rp.callS1 M_X12_sign dX12_readTerm_32 mo_X12_sign lk_X12_241 (Nat.le_of_ble_eq_true rfl) (Nat.le_of_ble_eq_true rfl) (s_signN (d + 3) 37) (fun v1 h1 p1 x1 => ?_)
      rw [p1.1, p1.2]
      try dsimp only [Option.toList, List.cons_append, List.nil_append, List.append]
      refine Rp.callV1 M_X12_takes0 (ci := 12) dX12_readTerm_35 mo_X12_takes0 lk_X12_203 (by decide) rfl rfl (S _ _ rfl) (Nat.le_of_ble_eq_true rfl) (Nat.le_of_ble_eq_true rfl) (s_takesF (d + 2) S R _ t l b hb) (fun v1 h1 p1 x1 => ?_)
      rw [p1.1, p1.2]
      try dsimp only [Option.toList, List.cons_append, List.nil_append, List.append]
      first | ((with_reducible show Rp _ _ _ _ (.int (b2i _) :: _) _ _); refine Rp.if_eqB (tgt := 49) dX12_readTerm_38 (by decide) (fun c38 => ?_) (fun c38 => ?_)) | ((with_reducible show Rp _ _ _ _ (.int (nI _) :: _) _ _); refine Rp.if_eqN (tgt := 49) dX12_readTerm_38 (by decide) (by omega) (fun c38 => ?_) (fun c38 => ?_)) | refine Rp.if_eq (tgt := 49) dX12_readTerm_38 (by decide) (fun c38 => ?_) (fun c38 => ?_)
      · skip
        refine Rp.vreturn dX12_readTerm_49 rfl ?_
        exact ⟨rfl, rfl⟩
      · skip
        first | (exfalso; omega) | exact absurd c38 (by decide) | exact absurd (by decide) c38
theorem bad_term (S : ShOK h) (R : RfOK h) (dep t l b : Int32) (hb : b ≠ -1) : Rp (d + 4) M_X12_readTerm 0 [some (.ref aM), some (.int dep)] [] (rdH h t l b) (fun r h' => h' = rdH h t l b ∧ r = none) := by
  refine Rp.aload_n dX12_readTerm_0 rfl rfl ?_
  refine Rp.iload_n dX12_readTerm_1 rfl ?_
  refine Rp.callV1 M_X12_readPart (ci := 12) dX12_readTerm_2 mo_X12_readPart lk_X12_248 (by decide) rfl rfl (S _ _ rfl) (Nat.le_of_ble_eq_true rfl) (Nat.le_of_ble_eq_true rfl) (bad_part d S R dep t l b hb) (fun v1 h1 p1 x1 => ?_)
  rw [p1.1, p1.2]
  try dsimp only [Option.toList, List.cons_append, List.nil_append, List.append]
  exact bad_term5 d S R dep t l b hb
theorem bad_sum5 (S : ShOK h) (R : RfOK h) (dep t l b : Int32) (hb : b ≠ -1) : Rp (d + 5) M_X12_readSum 5 [some (.ref aM), some (.int dep)] [] (rdH h t l b) (fun r h' => h' = rdH h t l b ∧ r = none) := by
  refine Rp.aload_n dX12_readSum_5 rfl rfl ?_
  refine Rp.bipush (nI 43) dX12_readSum_6 (by decide) ?_
  refine Rp.callS1 M_X12_sign dX12_readSum_8 mo_X12_sign lk_X12_241 (Nat.le_of_ble_eq_true rfl) (Nat.le_of_ble_eq_true rfl) (s_signN (d + 4) 43) (fun v1 h1 p1 x1 => ?_)
  rw [p1.1, p1.2]
  try dsimp only [Option.toList, List.cons_append, List.nil_append, List.append]
  refine Rp.callV1 M_X12_takes0 (ci := 12) dX12_readSum_11 mo_X12_takes0 lk_X12_203 (by decide) rfl rfl (S _ _ rfl) (Nat.le_of_ble_eq_true rfl) (Nat.le_of_ble_eq_true rfl) (s_takesF (d + 3) S R _ t l b hb) (fun v1 h1 p1 x1 => ?_)
  rw [p1.1, p1.2]
  try dsimp only [Option.toList, List.cons_append, List.nil_append, List.append]
  first | ((with_reducible show Rp _ _ _ _ (.int (b2i _) :: _) _ _); refine Rp.if_neB (tgt := 29) dX12_readSum_14 (by decide) (fun c14 => ?_) (fun c14 => ?_)) | ((with_reducible show Rp _ _ _ _ (.int (nI _) :: _) _ _); refine Rp.if_neN (tgt := 29) dX12_readSum_14 (by decide) (by omega) (fun c14 => ?_) (fun c14 => ?_)) | refine Rp.if_ne (tgt := 29) dX12_readSum_14 (by decide) (fun c14 => ?_) (fun c14 => ?_)
  · skip
    first | (exfalso; omega) | exact absurd c14 (by decide) | exact absurd (by decide) c14
  · skip
    refine Rp.aload_n dX12_readSum_17 rfl rfl ?_
    refine Rp.bipush (nI 45) dX12_readSum_18 (by decide) ?_
    refine Rp.callS1 M_X12_sign dX12_readSum_20 mo_X12_sign lk_X12_241 (Nat.le_of_ble_eq_true rfl) (Nat.le_of_ble_eq_true rfl) (s_signN (d + 4) 45) (fun v1 h1 p1 x1 => ?_)
    rw [p1.1, p1.2]
    try dsimp only [Option.toList, List.cons_append, List.nil_append, List.append]
    refine Rp.callV1 M_X12_takes0 (ci := 12) dX12_readSum_23 mo_X12_takes0 lk_X12_203 (by decide) rfl rfl (S _ _ rfl) (Nat.le_of_ble_eq_true rfl) (Nat.le_of_ble_eq_true rfl) (s_takesF (d + 3) S R _ t l b hb) (fun v1 h1 p1 x1 => ?_)
    rw [p1.1, p1.2]
    try dsimp only [Option.toList, List.cons_append, List.nil_append, List.append]
    first | ((with_reducible show Rp _ _ _ _ (.int (b2i _) :: _) _ _); refine Rp.if_eqB (tgt := 37) dX12_readSum_26 (by decide) (fun c26 => ?_) (fun c26 => ?_)) | ((with_reducible show Rp _ _ _ _ (.int (nI _) :: _) _ _); refine Rp.if_eqN (tgt := 37) dX12_readSum_26 (by decide) (by omega) (fun c26 => ?_) (fun c26 => ?_)) | refine Rp.if_eq (tgt := 37) dX12_readSum_26 (by decide) (fun c26 => ?_) (fun c26 => ?_)
    · skip
      refine Rp.vreturn dX12_readSum_37 rfl ?_
      exact ⟨rfl, rfl⟩
    · skip
      first | (exfalso; omega) | exact absurd c26 (by decide) | exact absurd (by decide) c26
theorem bad_sum (S : ShOK h) (R : RfOK h) (dep t l b : Int32) (hb : b ≠ -1) : Rp (d + 5) M_X12_readSum 0 [some (.ref aM), some (.int dep)] [] (rdH h t l b) (fun r h' => h' = rdH h t l b ∧ r = none) := by
  refine Rp.aload_n dX12_readSum_0 rfl rfl ?_
  refine Rp.iload_n dX12_readSum_1 rfl ?_
  refine Rp.callV1 M_X12_readTerm (ci := 12) dX12_readSum_2 mo_X12_readTerm lk_X12_245 (by decide) rfl rfl (S _ _ rfl) (Nat.le_of_ble_eq_true rfl) (Nat.le_of_ble_eq_true rfl) (bad_term d S R dep t l b hb) (fun v1 h1 p1 x1 => ?_)
  rw [p1.1, p1.2]
  try dsimp only [Option.toList, List.cons_append, List.nil_append, List.append]
  exact bad_sum5 d S R dep t l b hb
theorem bad_test5 (S : ShOK h) (R : RfOK h) (dep t l b : Int32) (hb : b ≠ -1) : Rp (d + 8) M_X12_readTest 5 [some (.ref aM), some (.int dep)] [] (rdH h t l b) (fun r h' => h' = rdH h t l b ∧ r = none) := by
  refine Rp.aload_n dX12_readTest_5 rfl rfl ?_
  refine Rp.bipush (nI 6) dX12_readTest_6 (by decide) ?_
  refine Rp.callV1 M_X12_takes0 (ci := 12) dX12_readTest_8 mo_X12_takes0 lk_X12_203 (by decide) rfl rfl (S _ _ rfl) (Nat.le_of_ble_eq_true rfl) (Nat.le_of_ble_eq_true rfl) (s_takesF (d + 6) S R _ t l b hb) (fun v1 h1 p1 x1 => ?_)
  rw [p1.1, p1.2]
  try dsimp only [Option.toList, List.cons_append, List.nil_append, List.append]
  first | ((with_reducible show Rp _ _ _ _ (.int (b2i _) :: _) _ _); refine Rp.if_eqB (tgt := 22) dX12_readTest_11 (by decide) (fun c11 => ?_) (fun c11 => ?_)) | ((with_reducible show Rp _ _ _ _ (.int (nI _) :: _) _ _); refine Rp.if_eqN (tgt := 22) dX12_readTest_11 (by decide) (by omega) (fun c11 => ?_) (fun c11 => ?_)) | refine Rp.if_eq (tgt := 22) dX12_readTest_11 (by decide) (fun c11 => ?_) (fun c11 => ?_)
  · skip
    refine Rp.vreturn dX12_readTest_22 rfl ?_
    exact ⟨rfl, rfl⟩
  · skip
    first | (exfalso; omega) | exact absurd c11 (by decide) | exact absurd (by decide) c11
theorem bad_both5 (S : ShOK h) (R : RfOK h) (dep t l b : Int32) (hb : b ≠ -1) : Rp (d + 7) M_X12_readBoth 5 [some (.ref aM), some (.int dep)] [] (rdH h t l b) (fun r h' => h' = rdH h t l b ∧ r = none) := by
  refine Rp.aload_n dX12_readBoth_5 rfl rfl ?_
  refine Rp.bipush (nI 7) dX12_readBoth_6 (by decide) ?_
  refine Rp.callV1 M_X12_takes0 (ci := 12) dX12_readBoth_8 mo_X12_takes0 lk_X12_203 (by decide) rfl rfl (S _ _ rfl) (Nat.le_of_ble_eq_true rfl) (Nat.le_of_ble_eq_true rfl) (s_takesF (d + 5) S R _ t l b hb) (fun v1 h1 p1 x1 => ?_)
  rw [p1.1, p1.2]
  try dsimp only [Option.toList, List.cons_append, List.nil_append, List.append]
  first | ((with_reducible show Rp _ _ _ _ (.int (b2i _) :: _) _ _); refine Rp.if_eqB (tgt := 22) dX12_readBoth_11 (by decide) (fun c11 => ?_) (fun c11 => ?_)) | ((with_reducible show Rp _ _ _ _ (.int (nI _) :: _) _ _); refine Rp.if_eqN (tgt := 22) dX12_readBoth_11 (by decide) (by omega) (fun c11 => ?_) (fun c11 => ?_)) | refine Rp.if_eq (tgt := 22) dX12_readBoth_11 (by decide) (fun c11 => ?_) (fun c11 => ?_)
  · skip
    refine Rp.vreturn dX12_readBoth_22 rfl ?_
    exact ⟨rfl, rfl⟩
  · skip
    first | (exfalso; omega) | exact absurd c11 (by decide) | exact absurd (by decide) c11
theorem rdQ_seq {i lv a : Nat} {cd : List (Nat × Nat)} {D : DN} {k : Nat → Nat → Nat → Except Nat LR} {h' : AH} (q : rdQ h (k i lv (a + cd.length)) h') : rdQ h (seqL (.ok (i, lv, cd, D)) a k) h' := by
  unfold seqL
  dsimp only
  match k i lv (a + cd.length), q with
  | .error e, q => exact q
  | .ok (i2, lv2, cd2, D2), q => exact q
theorem rdQ_jmp {i lv a op : Nat} {cd : List (Nat × Nat)} {D : DN} {k : Nat → Nat → Nat → Except Nat LR} {h' : AH} (q : rdQ h (k i lv (a + 1 + cd.length)) h') : rdQ h (jmpL op (.ok (i, lv, cd, D)) a k) h' := by
  unfold jmpL
  dsimp only
  match k i lv (a + 1 + cd.length), q with
  | .error e, q => exact q
  | .ok (i2, lv2, cd2, D2), q => exact q
theorem rdQ_op {i lv a op : Nat} {cd : List (Nat × Nat)} {D : DN} {k : Nat → Nat → Nat → Except Nat LR} {h' : AH} (q : rdQ h (k i lv (a + cd.length + 1)) h') : rdQ h (opL op (.ok (i, lv, cd, D)) a k) h' := by
  unfold opL
  dsimp only
  match k i lv (a + cd.length + 1), q with
  | .error e, q => exact q
  | .ok (i2, lv2, cd2, D2), q => exact q
theorem rdQ_not {x : Except Nat LR} {h' : AH} (q : rdQ h x h') : rdQ h (notL x) h' := by
  match x, q with
  | .error e, q => exact q
  | .ok (i2, lv2, cd2, D2), q => exact q
/-- what the first half of a reading leaves for the second -/
theorem rdQ_cases {x : Except Nat LR} {h' : AH} {i lv sl : Nat} {hd : Bool} (K : TK h ord c v T) (o : okL T hd i lv x sl) (q : rdQ h x h') : (∃ e t l, x = .error e ∧ e ≤ T ∧ gI h am_placed e ≠ -1 ∧ h' = rdH h t l (gI h am_placed e)) ∨ (∃ i' lv' cd D, x = .ok (i', lv', cd, D) ∧ i ≤ i' ∧ i' ≤ T ∧ (hd = true → i < i') ∧ lv' ≤ 50 ∧ h' = rdH h (nI i') (nI lv') (-1)) := by
  match x, o, q with
  | .error e, o, q =>
    obtain ⟨t, l, q⟩ := q
    exact Or.inl ⟨e, t, l, rfl, o, K.pl o, q⟩
  | .ok (i', lv', cd, D), o, q => exact Or.inr ⟨i', lv', cd, D, rfl, o.1, o.2.1, o.2.2.1, o.2.2.2.1, q⟩
end Rb

theorem rd_8 (h : AH) (t l b : Int32) : gI (rdH h t l b) aM 8 = gI h aM 8 := rd_q h t l b (by decide) (by decide) (by decide)
theorem rd_9 (h : AH) (t l b : Int32) : gI (rdH h t l b) aM 9 = gI h aM 9 := rd_q h t l b (by decide) (by decide) (by decide)
theorem rd_10 (h : AH) (t l b : Int32) : gI (rdH h t l b) aM 10 = gI h aM 10 := rd_q h t l b (by decide) (by decide) (by decide)
section Rl
variable (d : Nat) {h : AH} {ord : Bool} {c v : Nat → Nat} {T : Nat}
theorem s_leaf (S : ShOK h) (R : RfOK h) (K : TK h ord c v T) {i lv : Nat} (hi : i ≤ T) (hl : lv ≤ 50) : Rp (d + 2) M_X12_leaf 0 [some (.ref aM)] [] (rdH h (nI i) (nI lv) (-1)) (fun r h' => r = none ∧ h' = if lv = 50 then rdH h (nI i) (nI (lv + 1)) (gI h am_placed i) else rdH h (nI (i + 1)) (nI (lv + 1)) (-1)) := by
  have hT := K.1
  by_cases h5 : lv = 50
  · rw [if_pos h5]
    refine Rp.aload_n dX12_leaf_0 rfl rfl ?_
    refine Rp.getI dX12_leaf_1 fk_X12_209 rfl (S _ _ rfl) ?_
    first | rw [rd_t] | rw [rd_l] | skip
    refine Rp.bipush (nI 50) dX12_leaf_4 (by decide) ?_
    first | ((with_reducible show Rp _ _ _ _ (.int (nI _) :: .int (nI _) :: _) _ _); refine Rp.icmp_neN (tgt := 13) dX12_leaf_6 (by decide) (by omega) (fun c6 => ?_) (fun c6 => ?_)) | refine Rp.icmp_ne (tgt := 13) dX12_leaf_6 (by decide) (fun c6 => ?_) (fun c6 => ?_)
    · skip
      first | (exfalso; omega) | exact absurd c6 (by decide) | exact absurd (by decide) c6
    · skip
      refine Rp.aload_n dX12_leaf_9 rfl rfl ?_
      refine Rp.callV0 M_X12_faults (ci := 12) dX12_leaf_10 mo_X12_faults lk_X12_206 (by decide) rfl rfl (S _ _ rfl) (Nat.le_of_ble_eq_true rfl) (Nat.le_of_ble_eq_true rfl) (s_faults d S R K hi (nI lv)) (fun v1 h1 p1 x1 => ?_)
      rw [p1.1, p1.2]
      try dsimp only [Option.toList, List.cons_append, List.nil_append, List.append]
      refine Rp.aload_n dX12_leaf_13 rfl rfl ?_
      refine Rp.dup dX12_leaf_14 rfl ?_
      refine Rp.getI dX12_leaf_15 fk_X12_209 rfl (S _ _ rfl) ?_
      first | rw [rd_t] | rw [rd_l] | skip
      refine Rp.iconst (nI 1) dX12_leaf_18 (by decide) ?_
      first | ((with_reducible show Rp _ _ _ _ (.int (nI _) :: .int (nI _) :: _) _ _); refine Rp.iaddN dX12_leaf_19 ?_) | refine Rp.iadd dX12_leaf_19 ?_
      refine Rp.putI dX12_leaf_20 fk_X12_209w rfl (S _ _ rfl) ?_
      first | rw [rd_st] | rw [rd_sl] | skip
      refine Rp.aload_n dX12_leaf_23 rfl rfl ?_
      refine Rp.callV0 M_X12_fine (ci := 12) dX12_leaf_24 mo_X12_fine lk_X12_196 (by decide) rfl rfl (S _ _ rfl) (Nat.le_of_ble_eq_true rfl) (Nat.le_of_ble_eq_true rfl) (s_fineF (d + 1) S R _ _ _ (K.pl hi)) (fun v1 h1 p1 x1 => ?_)
      rw [p1.1, p1.2]
      try dsimp only [Option.toList, List.cons_append, List.nil_append, List.append]
      first | ((with_reducible show Rp _ _ _ _ (.int (b2i _) :: _) _ _); refine Rp.if_eqB (tgt := 40) dX12_leaf_27 (by decide) (fun c27 => ?_) (fun c27 => ?_)) | ((with_reducible show Rp _ _ _ _ (.int (nI _) :: _) _ _); refine Rp.if_eqN (tgt := 40) dX12_leaf_27 (by decide) (by omega) (fun c27 => ?_) (fun c27 => ?_)) | refine Rp.if_eq (tgt := 40) dX12_leaf_27 (by decide) (fun c27 => ?_) (fun c27 => ?_)
      · skip
        refine Rp.vreturn dX12_leaf_40 rfl ?_
        exact ⟨rfl, rfl⟩
      · skip
        first | (exfalso; omega) | exact absurd c27 (by decide) | exact absurd (by decide) c27
  · rw [if_neg h5]
    refine Rp.aload_n dX12_leaf_0 rfl rfl ?_
    refine Rp.getI dX12_leaf_1 fk_X12_209 rfl (S _ _ rfl) ?_
    first | rw [rd_t] | rw [rd_l] | skip
    refine Rp.bipush (nI 50) dX12_leaf_4 (by decide) ?_
    first | ((with_reducible show Rp _ _ _ _ (.int (nI _) :: .int (nI _) :: _) _ _); refine Rp.icmp_neN (tgt := 13) dX12_leaf_6 (by decide) (by omega) (fun c6 => ?_) (fun c6 => ?_)) | refine Rp.icmp_ne (tgt := 13) dX12_leaf_6 (by decide) (fun c6 => ?_) (fun c6 => ?_)
    · skip
      refine Rp.aload_n dX12_leaf_13 rfl rfl ?_
      refine Rp.dup dX12_leaf_14 rfl ?_
      refine Rp.getI dX12_leaf_15 fk_X12_209 rfl (S _ _ rfl) ?_
      first | rw [rd_t] | rw [rd_l] | skip
      refine Rp.iconst (nI 1) dX12_leaf_18 (by decide) ?_
      first | ((with_reducible show Rp _ _ _ _ (.int (nI _) :: .int (nI _) :: _) _ _); refine Rp.iaddN dX12_leaf_19 ?_) | refine Rp.iadd dX12_leaf_19 ?_
      refine Rp.putI dX12_leaf_20 fk_X12_209w rfl (S _ _ rfl) ?_
      first | rw [rd_st] | rw [rd_sl] | skip
      refine Rp.aload_n dX12_leaf_23 rfl rfl ?_
      refine Rp.callV0 M_X12_fine (ci := 12) dX12_leaf_24 mo_X12_fine lk_X12_196 (by decide) rfl rfl (S _ _ rfl) (Nat.le_of_ble_eq_true rfl) (Nat.le_of_ble_eq_true rfl) (s_fine (d + 1) S R _ _) (fun v1 h1 p1 x1 => ?_)
      rw [p1.1, p1.2]
      try dsimp only [Option.toList, List.cons_append, List.nil_append, List.append]
      first | ((with_reducible show Rp _ _ _ _ (.int (b2i _) :: _) _ _); refine Rp.if_eqB (tgt := 40) dX12_leaf_27 (by decide) (fun c27 => ?_) (fun c27 => ?_)) | ((with_reducible show Rp _ _ _ _ (.int (nI _) :: _) _ _); refine Rp.if_eqN (tgt := 40) dX12_leaf_27 (by decide) (by omega) (fun c27 => ?_) (fun c27 => ?_)) | refine Rp.if_eq (tgt := 40) dX12_leaf_27 (by decide) (fun c27 => ?_) (fun c27 => ?_)
      · skip
        first | (exfalso; omega) | exact absurd c27 (by decide) | exact absurd (by decide) c27
      · skip
        refine Rp.aload_n dX12_leaf_30 rfl rfl ?_
        refine Rp.dup dX12_leaf_31 rfl ?_
        refine Rp.getI dX12_leaf_32 fk_X12_200 rfl (S _ _ rfl) ?_
        first | rw [rd_t] | rw [rd_l] | skip
        refine Rp.iconst (nI 1) dX12_leaf_35 (by decide) ?_
        first | ((with_reducible show Rp _ _ _ _ (.int (nI _) :: .int (nI _) :: _) _ _); refine Rp.iaddN dX12_leaf_36 ?_) | refine Rp.iadd dX12_leaf_36 ?_
        refine Rp.putI dX12_leaf_37 fk_X12_200w rfl (S _ _ rfl) ?_
        first | rw [rd_st] | rw [rd_sl] | skip
        refine Rp.vreturn dX12_leaf_40 rfl ?_
        exact ⟨rfl, rfl⟩
    · skip
      first | (exfalso; omega) | exact absurd c6 (by decide) | exact absurd (by decide) c6
theorem part111 (S : ShOK h) (R : RfOK h) (K : TK h ord c v T) {i lv : Nat} (hi : i < T) (hl : lv ≤ 50) (dep : Nat) (hq : (c i = 50 ∧ v i ≤ 1000) ∨ isW ord (c i) = true) : Rp (d + 3) M_X12_readPart 111 [some (.ref aM), some (.int (nI dep)), some (.int (nI (c i)))] [] (rdH h (nI i) (nI lv) (-1)) (fun r h' => r = none ∧ rdQ h (prtL ord c v i lv) h') := by
  have hT := K.1
  have hi0 : i ≤ T := Nat.le_of_lt hi
  obtain ⟨e1, e3, e2, e4, -⟩ := K.2.2.1 i hi0
  have eo := K.2.2.2.1
  unfold prtL
  rw [if_pos hq]
  by_cases h5 : lv = 50
  · rw [if_pos h5]
    cases ord
    · rw [b2i_F] at eo
      refine Rp.aload_n dX12_readPart_111 rfl rfl ?_
      refine Rp.callV0 M_X12_leaf (ci := 12) dX12_readPart_112 mo_X12_leaf lk_X12_257 (by decide) rfl rfl (S _ _ rfl) (Nat.le_of_ble_eq_true rfl) (Nat.le_of_ble_eq_true rfl) (s_leaf d S R K hi0 hl) (fun v1 h1 p1 x1 => ?_)
      rw [if_pos h5] at p1
      rw [p1.1, p1.2]
      try dsimp only [Option.toList, List.cons_append, List.nil_append, List.append]
      refine Rp.aload_n dX12_readPart_115 rfl rfl ?_
      refine Rp.getI dX12_readPart_116 fk_X12_225 rfl (S _ _ rfl) ?_
      first | rw [rd_10, eo] | skip
      first | ((with_reducible show Rp _ _ _ _ (.int (b2i _) :: _) _ _); refine Rp.if_eqB (tgt := 147) dX12_readPart_119 (by decide) (fun c119 => ?_) (fun c119 => ?_)) | ((with_reducible show Rp _ _ _ _ (.int (nI _) :: _) _ _); refine Rp.if_eqN (tgt := 147) dX12_readPart_119 (by decide) (by omega) (fun c119 => ?_) (fun c119 => ?_)) | refine Rp.if_eq (tgt := 147) dX12_readPart_119 (by decide) (fun c119 => ?_) (fun c119 => ?_)
      · skip
        refine Rp.vreturn dX12_readPart_147 rfl ?_
        exact ⟨rfl, _, _, rfl⟩
      · skip
        first | (exfalso; omega) | exact absurd c119 (by decide) | exact absurd (by decide) c119
    · rw [b2i_T] at eo
      refine Rp.aload_n dX12_readPart_111 rfl rfl ?_
      refine Rp.callV0 M_X12_leaf (ci := 12) dX12_readPart_112 mo_X12_leaf lk_X12_257 (by decide) rfl rfl (S _ _ rfl) (Nat.le_of_ble_eq_true rfl) (Nat.le_of_ble_eq_true rfl) (s_leaf d S R K hi0 hl) (fun v1 h1 p1 x1 => ?_)
      rw [if_pos h5] at p1
      rw [p1.1, p1.2]
      try dsimp only [Option.toList, List.cons_append, List.nil_append, List.append]
      refine Rp.aload_n dX12_readPart_115 rfl rfl ?_
      refine Rp.getI dX12_readPart_116 fk_X12_225 rfl (S _ _ rfl) ?_
      first | rw [rd_10, eo] | skip
      first | ((with_reducible show Rp _ _ _ _ (.int (b2i _) :: _) _ _); refine Rp.if_eqB (tgt := 147) dX12_readPart_119 (by decide) (fun c119 => ?_) (fun c119 => ?_)) | ((with_reducible show Rp _ _ _ _ (.int (nI _) :: _) _ _); refine Rp.if_eqN (tgt := 147) dX12_readPart_119 (by decide) (by omega) (fun c119 => ?_) (fun c119 => ?_)) | refine Rp.if_eq (tgt := 147) dX12_readPart_119 (by decide) (fun c119 => ?_) (fun c119 => ?_)
      · skip
        first | (exfalso; omega) | exact absurd c119 (by decide) | exact absurd (by decide) c119
      · skip
        refine Rp.iload_n dX12_readPart_122 rfl ?_
        refine Rp.bipush (nI 16) dX12_readPart_123 (by decide) ?_
        first | ((with_reducible show Rp _ _ _ _ (.int (nI _) :: .int (nI _) :: _) _ _); refine Rp.icmp_eqN (tgt := 134) dX12_readPart_125 (by decide) (by omega) (fun c125 => ?_) (fun c125 => ?_)) | refine Rp.icmp_eq (tgt := 134) dX12_readPart_125 (by decide) (fun c125 => ?_) (fun c125 => ?_)
        · skip
          refine Rp.aload_n dX12_readPart_134 rfl rfl ?_
          refine Rp.iconst (nI 0) dX12_readPart_135 (by decide) ?_
          refine Rp.iconst (nI 5) dX12_readPart_136 (by decide) ?_
          refine Rp.callV2 M_X12_mustNumber (ci := 12) dX12_readPart_137 mo_X12_mustNumber lk_X12_222 (by decide) rfl rfl (S _ _ rfl) (Nat.le_of_ble_eq_true rfl) (Nat.le_of_ble_eq_true rfl) (s_mustNF d S R _ _ _ _ _ (K.pl hi0)) (fun v1 h1 p1 x1 => ?_)
          rw [p1.1, p1.2]
          try dsimp only [Option.toList, List.cons_append, List.nil_append, List.append]
          refine Rp.goto (tgt := 147) dX12_readPart_140 (by decide) ?_
          refine Rp.vreturn dX12_readPart_147 rfl ?_
          exact ⟨rfl, _, _, rfl⟩
        · skip
          refine Rp.iload_n dX12_readPart_128 rfl ?_
          refine Rp.bipush (nI 22) dX12_readPart_129 (by decide) ?_
          first | ((with_reducible show Rp _ _ _ _ (.int (nI _) :: .int (nI _) :: _) _ _); refine Rp.icmp_neN (tgt := 147) dX12_readPart_131 (by decide) (by omega) (fun c131 => ?_) (fun c131 => ?_)) | refine Rp.icmp_ne (tgt := 147) dX12_readPart_131 (by decide) (fun c131 => ?_) (fun c131 => ?_)
          · skip
            refine Rp.vreturn dX12_readPart_147 rfl ?_
            exact ⟨rfl, _, _, rfl⟩
          · skip
            refine Rp.aload_n dX12_readPart_134 rfl rfl ?_
            refine Rp.iconst (nI 0) dX12_readPart_135 (by decide) ?_
            refine Rp.iconst (nI 5) dX12_readPart_136 (by decide) ?_
            refine Rp.callV2 M_X12_mustNumber (ci := 12) dX12_readPart_137 mo_X12_mustNumber lk_X12_222 (by decide) rfl rfl (S _ _ rfl) (Nat.le_of_ble_eq_true rfl) (Nat.le_of_ble_eq_true rfl) (s_mustNF d S R _ _ _ _ _ (K.pl hi0)) (fun v1 h1 p1 x1 => ?_)
            rw [p1.1, p1.2]
            try dsimp only [Option.toList, List.cons_append, List.nil_append, List.append]
            refine Rp.goto (tgt := 147) dX12_readPart_140 (by decide) ?_
            refine Rp.vreturn dX12_readPart_147 rfl ?_
            exact ⟨rfl, _, _, rfl⟩
  · rw [if_neg h5]
    cases ord
    · rw [b2i_F] at eo
      by_cases h6 : c i = 50
      · rw [if_pos h6]
        refine Rp.aload_n dX12_readPart_111 rfl rfl ?_
        refine Rp.callV0 M_X12_leaf (ci := 12) dX12_readPart_112 mo_X12_leaf lk_X12_257 (by decide) rfl rfl (S _ _ rfl) (Nat.le_of_ble_eq_true rfl) (Nat.le_of_ble_eq_true rfl) (s_leaf d S R K hi0 hl) (fun v1 h1 p1 x1 => ?_)
        rw [if_neg h5] at p1
        rw [p1.1, p1.2]
        try dsimp only [Option.toList, List.cons_append, List.nil_append, List.append]
        refine Rp.aload_n dX12_readPart_115 rfl rfl ?_
        refine Rp.getI dX12_readPart_116 fk_X12_225 rfl (S _ _ rfl) ?_
        first | rw [rd_10, eo] | skip
        first | ((with_reducible show Rp _ _ _ _ (.int (b2i _) :: _) _ _); refine Rp.if_eqB (tgt := 147) dX12_readPart_119 (by decide) (fun c119 => ?_) (fun c119 => ?_)) | ((with_reducible show Rp _ _ _ _ (.int (nI _) :: _) _ _); refine Rp.if_eqN (tgt := 147) dX12_readPart_119 (by decide) (by omega) (fun c119 => ?_) (fun c119 => ?_)) | refine Rp.if_eq (tgt := 147) dX12_readPart_119 (by decide) (fun c119 => ?_) (fun c119 => ?_)
        · skip
          refine Rp.vreturn dX12_readPart_147 rfl ?_
          exact ⟨rfl, rfl⟩
        · skip
          first | (exfalso; omega) | exact absurd c119 (by decide) | exact absurd (by decide) c119
      · rw [if_neg h6, if_neg (show ¬ (false = true) by decide)]
        refine Rp.aload_n dX12_readPart_111 rfl rfl ?_
        refine Rp.callV0 M_X12_leaf (ci := 12) dX12_readPart_112 mo_X12_leaf lk_X12_257 (by decide) rfl rfl (S _ _ rfl) (Nat.le_of_ble_eq_true rfl) (Nat.le_of_ble_eq_true rfl) (s_leaf d S R K hi0 hl) (fun v1 h1 p1 x1 => ?_)
        rw [if_neg h5] at p1
        rw [p1.1, p1.2]
        try dsimp only [Option.toList, List.cons_append, List.nil_append, List.append]
        refine Rp.aload_n dX12_readPart_115 rfl rfl ?_
        refine Rp.getI dX12_readPart_116 fk_X12_225 rfl (S _ _ rfl) ?_
        first | rw [rd_10, eo] | skip
        first | ((with_reducible show Rp _ _ _ _ (.int (b2i _) :: _) _ _); refine Rp.if_eqB (tgt := 147) dX12_readPart_119 (by decide) (fun c119 => ?_) (fun c119 => ?_)) | ((with_reducible show Rp _ _ _ _ (.int (nI _) :: _) _ _); refine Rp.if_eqN (tgt := 147) dX12_readPart_119 (by decide) (by omega) (fun c119 => ?_) (fun c119 => ?_)) | refine Rp.if_eq (tgt := 147) dX12_readPart_119 (by decide) (fun c119 => ?_) (fun c119 => ?_)
        · skip
          refine Rp.vreturn dX12_readPart_147 rfl ?_
          exact ⟨rfl, rfl⟩
        · skip
          first | (exfalso; omega) | exact absurd c119 (by decide) | exact absurd (by decide) c119
    · rw [b2i_T] at eo
      by_cases h6 : c i = 50
      · rw [if_pos h6]
        refine Rp.aload_n dX12_readPart_111 rfl rfl ?_
        refine Rp.callV0 M_X12_leaf (ci := 12) dX12_readPart_112 mo_X12_leaf lk_X12_257 (by decide) rfl rfl (S _ _ rfl) (Nat.le_of_ble_eq_true rfl) (Nat.le_of_ble_eq_true rfl) (s_leaf d S R K hi0 hl) (fun v1 h1 p1 x1 => ?_)
        rw [if_neg h5] at p1
        rw [p1.1, p1.2]
        try dsimp only [Option.toList, List.cons_append, List.nil_append, List.append]
        refine Rp.aload_n dX12_readPart_115 rfl rfl ?_
        refine Rp.getI dX12_readPart_116 fk_X12_225 rfl (S _ _ rfl) ?_
        first | rw [rd_10, eo] | skip
        first | ((with_reducible show Rp _ _ _ _ (.int (b2i _) :: _) _ _); refine Rp.if_eqB (tgt := 147) dX12_readPart_119 (by decide) (fun c119 => ?_) (fun c119 => ?_)) | ((with_reducible show Rp _ _ _ _ (.int (nI _) :: _) _ _); refine Rp.if_eqN (tgt := 147) dX12_readPart_119 (by decide) (by omega) (fun c119 => ?_) (fun c119 => ?_)) | refine Rp.if_eq (tgt := 147) dX12_readPart_119 (by decide) (fun c119 => ?_) (fun c119 => ?_)
        · skip
          first | (exfalso; omega) | exact absurd c119 (by decide) | exact absurd (by decide) c119
        · skip
          refine Rp.iload_n dX12_readPart_122 rfl ?_
          refine Rp.bipush (nI 16) dX12_readPart_123 (by decide) ?_
          first | ((with_reducible show Rp _ _ _ _ (.int (nI _) :: .int (nI _) :: _) _ _); refine Rp.icmp_eqN (tgt := 134) dX12_readPart_125 (by decide) (by omega) (fun c125 => ?_) (fun c125 => ?_)) | refine Rp.icmp_eq (tgt := 134) dX12_readPart_125 (by decide) (fun c125 => ?_) (fun c125 => ?_)
          · skip
            first | (exfalso; omega) | exact absurd c125 (by decide) | exact absurd (by decide) c125
          · skip
            refine Rp.iload_n dX12_readPart_128 rfl ?_
            refine Rp.bipush (nI 22) dX12_readPart_129 (by decide) ?_
            first | ((with_reducible show Rp _ _ _ _ (.int (nI _) :: .int (nI _) :: _) _ _); refine Rp.icmp_neN (tgt := 147) dX12_readPart_131 (by decide) (by omega) (fun c131 => ?_) (fun c131 => ?_)) | refine Rp.icmp_ne (tgt := 147) dX12_readPart_131 (by decide) (fun c131 => ?_) (fun c131 => ?_)
            · skip
              refine Rp.vreturn dX12_readPart_147 rfl ?_
              exact ⟨rfl, rfl⟩
            · skip
              first | (exfalso; omega) | exact absurd c131 (by decide) | exact absurd (by decide) c131
      · rw [if_neg h6, if_pos (rfl : true = true)]
        by_cases h7 : c i = 16 ∨ c i = 22
        · rw [if_pos h7]
          have fin : ∀ (h1 : AH), (h1 = if c (i + 1) = 50 ∧ 0 ≤ v (i + 1) ∧ v (i + 1) ≤ 5 then rdH h (nI (i + 1 + 1)) (nI (lv + 1)) (-1) else rdH h (nI (i + 1)) (nI (lv + 1)) (gI h am_placed (i + 1))) → rdQ h (if c (i + 1) = 50 ∧ v (i + 1) ≤ 5 then .ok (i + 2, lv + 1, [(2, (if c i = 22 then 5 else 11) + v (i + 1))], fun w _ => some (w ((if c i = 22 then 5 else 11) + v (i + 1))).toInt) else .error (i + 1)) h1 := by
            intro h1 p
            by_cases hz : c (i + 1) = 50 ∧ v (i + 1) ≤ 5
            · rw [if_pos hz]
              rw [if_pos ⟨hz.1, Nat.zero_le _, hz.2⟩] at p
              exact p
            · rw [if_neg hz]
              rw [if_neg (fun w => hz ⟨w.1, w.2.2⟩)] at p
              exact ⟨_, _, p⟩
          refine Rp.aload_n dX12_readPart_111 rfl rfl ?_
          refine Rp.callV0 M_X12_leaf (ci := 12) dX12_readPart_112 mo_X12_leaf lk_X12_257 (by decide) rfl rfl (S _ _ rfl) (Nat.le_of_ble_eq_true rfl) (Nat.le_of_ble_eq_true rfl) (s_leaf d S R K hi0 hl) (fun v1 h1 p1 x1 => ?_)
          rw [if_neg h5] at p1
          rw [p1.1, p1.2]
          try dsimp only [Option.toList, List.cons_append, List.nil_append, List.append]
          refine Rp.aload_n dX12_readPart_115 rfl rfl ?_
          refine Rp.getI dX12_readPart_116 fk_X12_225 rfl (S _ _ rfl) ?_
          first | rw [rd_10, eo] | skip
          first | ((with_reducible show Rp _ _ _ _ (.int (b2i _) :: _) _ _); refine Rp.if_eqB (tgt := 147) dX12_readPart_119 (by decide) (fun c119 => ?_) (fun c119 => ?_)) | ((with_reducible show Rp _ _ _ _ (.int (nI _) :: _) _ _); refine Rp.if_eqN (tgt := 147) dX12_readPart_119 (by decide) (by omega) (fun c119 => ?_) (fun c119 => ?_)) | refine Rp.if_eq (tgt := 147) dX12_readPart_119 (by decide) (fun c119 => ?_) (fun c119 => ?_)
          · skip
            first | (exfalso; omega) | exact absurd c119 (by decide) | exact absurd (by decide) c119
          · skip
            refine Rp.iload_n dX12_readPart_122 rfl ?_
            refine Rp.bipush (nI 16) dX12_readPart_123 (by decide) ?_
            first | ((with_reducible show Rp _ _ _ _ (.int (nI _) :: .int (nI _) :: _) _ _); refine Rp.icmp_eqN (tgt := 134) dX12_readPart_125 (by decide) (by omega) (fun c125 => ?_) (fun c125 => ?_)) | refine Rp.icmp_eq (tgt := 134) dX12_readPart_125 (by decide) (fun c125 => ?_) (fun c125 => ?_)
            · skip
              refine Rp.aload_n dX12_readPart_134 rfl rfl ?_
              refine Rp.iconst (nI 0) dX12_readPart_135 (by decide) ?_
              refine Rp.iconst (nI 5) dX12_readPart_136 (by decide) ?_
              refine Rp.callV2 M_X12_mustNumber (ci := 12) dX12_readPart_137 mo_X12_mustNumber lk_X12_222 (by decide) rfl rfl (S _ _ rfl) (Nat.le_of_ble_eq_true rfl) (Nat.le_of_ble_eq_true rfl) (s_mustN d S R K (show i + 1 ≤ T from hi) (nI (lv + 1)) (by decide)) (fun v1 h1 p1 x1 => ?_)
              obtain ⟨rfl, p1⟩ := p1
              try dsimp only [Option.toList, List.cons_append, List.nil_append, List.append]
              refine Rp.goto (tgt := 147) dX12_readPart_140 (by decide) ?_
              refine Rp.vreturn dX12_readPart_147 rfl ?_
              exact ⟨rfl, fin _ p1⟩
            · skip
              refine Rp.iload_n dX12_readPart_128 rfl ?_
              refine Rp.bipush (nI 22) dX12_readPart_129 (by decide) ?_
              first | ((with_reducible show Rp _ _ _ _ (.int (nI _) :: .int (nI _) :: _) _ _); refine Rp.icmp_neN (tgt := 147) dX12_readPart_131 (by decide) (by omega) (fun c131 => ?_) (fun c131 => ?_)) | refine Rp.icmp_ne (tgt := 147) dX12_readPart_131 (by decide) (fun c131 => ?_) (fun c131 => ?_)
              · skip
                first | (exfalso; omega) | exact absurd c131 (by decide) | exact absurd (by decide) c131
              · skip
                refine Rp.aload_n dX12_readPart_134 rfl rfl ?_
                refine Rp.iconst (nI 0) dX12_readPart_135 (by decide) ?_
                refine Rp.iconst (nI 5) dX12_readPart_136 (by decide) ?_
                refine Rp.callV2 M_X12_mustNumber (ci := 12) dX12_readPart_137 mo_X12_mustNumber lk_X12_222 (by decide) rfl rfl (S _ _ rfl) (Nat.le_of_ble_eq_true rfl) (Nat.le_of_ble_eq_true rfl) (s_mustN d S R K (show i + 1 ≤ T from hi) (nI (lv + 1)) (by decide)) (fun v1 h1 p1 x1 => ?_)
                obtain ⟨rfl, p1⟩ := p1
                try dsimp only [Option.toList, List.cons_append, List.nil_append, List.append]
                refine Rp.goto (tgt := 147) dX12_readPart_140 (by decide) ?_
                refine Rp.vreturn dX12_readPart_147 rfl ?_
                exact ⟨rfl, fin _ p1⟩
        · rw [if_neg h7]
          refine Rp.aload_n dX12_readPart_111 rfl rfl ?_
          refine Rp.callV0 M_X12_leaf (ci := 12) dX12_readPart_112 mo_X12_leaf lk_X12_257 (by decide) rfl rfl (S _ _ rfl) (Nat.le_of_ble_eq_true rfl) (Nat.le_of_ble_eq_true rfl) (s_leaf d S R K hi0 hl) (fun v1 h1 p1 x1 => ?_)
          rw [if_neg h5] at p1
          rw [p1.1, p1.2]
          try dsimp only [Option.toList, List.cons_append, List.nil_append, List.append]
          refine Rp.aload_n dX12_readPart_115 rfl rfl ?_
          refine Rp.getI dX12_readPart_116 fk_X12_225 rfl (S _ _ rfl) ?_
          first | rw [rd_10, eo] | skip
          first | ((with_reducible show Rp _ _ _ _ (.int (b2i _) :: _) _ _); refine Rp.if_eqB (tgt := 147) dX12_readPart_119 (by decide) (fun c119 => ?_) (fun c119 => ?_)) | ((with_reducible show Rp _ _ _ _ (.int (nI _) :: _) _ _); refine Rp.if_eqN (tgt := 147) dX12_readPart_119 (by decide) (by omega) (fun c119 => ?_) (fun c119 => ?_)) | refine Rp.if_eq (tgt := 147) dX12_readPart_119 (by decide) (fun c119 => ?_) (fun c119 => ?_)
          · skip
            first | (exfalso; omega) | exact absurd c119 (by decide) | exact absurd (by decide) c119
          · skip
            refine Rp.iload_n dX12_readPart_122 rfl ?_
            refine Rp.bipush (nI 16) dX12_readPart_123 (by decide) ?_
            first | ((with_reducible show Rp _ _ _ _ (.int (nI _) :: .int (nI _) :: _) _ _); refine Rp.icmp_eqN (tgt := 134) dX12_readPart_125 (by decide) (by omega) (fun c125 => ?_) (fun c125 => ?_)) | refine Rp.icmp_eq (tgt := 134) dX12_readPart_125 (by decide) (fun c125 => ?_) (fun c125 => ?_)
            · skip
              first | (exfalso; omega) | exact absurd c125 (by decide) | exact absurd (by decide) c125
            · skip
              refine Rp.iload_n dX12_readPart_128 rfl ?_
              refine Rp.bipush (nI 22) dX12_readPart_129 (by decide) ?_
              first | ((with_reducible show Rp _ _ _ _ (.int (nI _) :: .int (nI _) :: _) _ _); refine Rp.icmp_neN (tgt := 147) dX12_readPart_131 (by decide) (by omega) (fun c131 => ?_) (fun c131 => ?_)) | refine Rp.icmp_ne (tgt := 147) dX12_readPart_131 (by decide) (fun c131 => ?_) (fun c131 => ?_)
              · skip
                refine Rp.vreturn dX12_readPart_147 rfl ?_
                exact ⟨rfl, rfl⟩
              · skip
                first | (exfalso; omega) | exact absurd c131 (by decide) | exact absurd (by decide) c131
theorem A_part (S : ShOK h) (R : RfOK h) (K : TK h ord c v T) {i lv dep : Nat} (hi : i ≤ T) (hl : lv ≤ 50) (hdp : dep ≤ 8) (h191 : c i ≠ 191) : Rp (d + 3) M_X12_readPart 0 [some (.ref aM), some (.int (nI dep)), none] [] (rdH h (nI i) (nI lv) (-1)) (fun r h' => r = none ∧ rdQ h (prtL ord c v i lv) h') := by
  have hT := K.1
  obtain ⟨e1, e3, e2, e4, -⟩ := K.2.2.1 i hi
  have ef := K.2.2.2.2.1
  have el := K.2.2.2.2.2
  have hfw : (if ord = true then 16 else 9) < 1000 := by cases ord <;> decide
  have hlw : (if ord = true then 22 else 17) < 1000 := by cases ord <;> decide
  have hw : isW ord (c i) = true ↔ ((if ord = true then 16 else 9) ≤ c i ∧ c i ≤ (if ord = true then 22 else 17)) := by
    cases ord
    · show decide (9 ≤ c i ∧ c i ≤ 17) = true ↔ (9 ≤ c i ∧ c i ≤ 17); rw [decide_eq_true_eq]
    · show decide (16 ≤ c i ∧ c i ≤ 22) = true ↔ (16 ≤ c i ∧ c i ≤ 22); rw [decide_eq_true_eq]
  have hz : ∀ (hq : (c i = 50 ∧ v i ≤ 1000) ∨ isW ord (c i) = true), i < T := fun hq => lt_of_code K.2.1 hi (fun z => by
    rw [z] at hq
    cases ord
    · exact absurd hq (by simp [isW])
    · exact absurd hq (by simp [isW]))
  generalize hA : (if ord = true then 16 else 9) = fw at *
  generalize hB : (if ord = true then 22 else 17) = lw at *
  refine Rp.aload_n dX12_readPart_0 rfl rfl ?_
  refine Rp.callV0 M_X12_fine (ci := 12) dX12_readPart_1 mo_X12_fine lk_X12_196 (by decide) rfl rfl (S _ _ rfl) (Nat.le_of_ble_eq_true rfl) (Nat.le_of_ble_eq_true rfl) (s_fine (d + 2) S R _ _) (fun v1 h1 p1 x1 => ?_)
  rw [p1.1, p1.2]
  try dsimp only [Option.toList, List.cons_append, List.nil_append, List.append]
  first | ((with_reducible show Rp _ _ _ _ (.int (b2i _) :: _) _ _); refine Rp.if_neB (tgt := 8) dX12_readPart_4 (by decide) (fun c4 => ?_) (fun c4 => ?_)) | ((with_reducible show Rp _ _ _ _ (.int (nI _) :: _) _ _); refine Rp.if_neN (tgt := 8) dX12_readPart_4 (by decide) (by omega) (fun c4 => ?_) (fun c4 => ?_)) | refine Rp.if_ne (tgt := 8) dX12_readPart_4 (by decide) (fun c4 => ?_) (fun c4 => ?_)
  · skip
    refine Rp.aload_n dX12_readPart_8 rfl rfl ?_
    refine Rp.getR dX12_readPart_9 fk_X12_50 rfl (S _ _ rfl) (R _ _ _ rfl) ?_
    refine Rp.aload_n dX12_readPart_12 rfl rfl ?_
    refine Rp.getI dX12_readPart_13 fk_X12_200 rfl (S _ _ rfl) ?_
    first | rw [rd_t] | rw [rd_c, e1] | rw [rd_v, e3] | rw [rd_8, ef] | rw [rd_9, el] | skip
    first | ((with_reducible show Rp _ _ _ _ (.int (nI _) :: _) _ _); refine Rp.ialoadN dX12_readPart_16 (S _ _ rfl) (by omega) ?_) | refine Rp.iaload dX12_readPart_16 (S _ _ rfl) (by first | assumption | exact vpb (by decide)) ?_
    first | rw [rd_t] | rw [rd_c, e1] | rw [rd_v, e3] | rw [rd_8, ef] | rw [rd_9, el] | skip
    refine Rp.ist2 dX12_readPart_17 (by first | exact nl2_some rfl | exact nl2_none) (by decide) ?_
    refine Rp.iload_n dX12_readPart_18 rfl ?_
    refine Rp.bipush (nI 91) dX12_readPart_19 (by decide) ?_
    refine Rp.callS1 M_X12_sign dX12_readPart_21 mo_X12_sign lk_X12_241 (Nat.le_of_ble_eq_true rfl) (Nat.le_of_ble_eq_true rfl) (s_signN (d + 2) 91) (fun v1 h1 p1 x1 => ?_)
    rw [p1.1, p1.2]
    try dsimp only [Option.toList, List.cons_append, List.nil_append, List.append]
    first | ((with_reducible show Rp _ _ _ _ (.int (nI _) :: .int (nI _) :: _) _ _); refine Rp.icmp_neN (tgt := 74) dX12_readPart_24 (by decide) (by omega) (fun c24 => ?_) (fun c24 => ?_)) | refine Rp.icmp_ne (tgt := 74) dX12_readPart_24 (by decide) (fun c24 => ?_) (fun c24 => ?_)
    · skip
      refine Rp.iload_n dX12_readPart_74 rfl ?_
      refine Rp.bipush (nI 50) dX12_readPart_75 (by decide) ?_
      first | ((with_reducible show Rp _ _ _ _ (.int (nI _) :: .int (nI _) :: _) _ _); refine Rp.icmp_neN (tgt := 95) dX12_readPart_77 (by decide) (by omega) (fun c77 => ?_) (fun c77 => ?_)) | refine Rp.icmp_ne (tgt := 95) dX12_readPart_77 (by decide) (fun c77 => ?_) (fun c77 => ?_)
      · skip
        refine Rp.iload_n dX12_readPart_95 rfl ?_
        refine Rp.aload_n dX12_readPart_96 rfl rfl ?_
        refine Rp.getI dX12_readPart_97 fk_X12_251 rfl (S _ _ rfl) ?_
        first | rw [rd_t] | rw [rd_c, e1] | rw [rd_v, e3] | rw [rd_8, ef] | rw [rd_9, el] | skip
        first | ((with_reducible show Rp _ _ _ _ (.int (nI _) :: .int (nI _) :: _) _ _); refine Rp.icmp_ltN (tgt := 143) dX12_readPart_100 (by decide) (by omega) (fun c100 => ?_) (fun c100 => ?_)) | refine Rp.icmp_lt (tgt := 143) dX12_readPart_100 (by decide) (fun c100 => ?_) (fun c100 => ?_)
        · skip
          refine Rp.aload_n dX12_readPart_143 rfl rfl ?_
          refine Rp.callV0 M_X12_faults (ci := 12) dX12_readPart_144 mo_X12_faults lk_X12_206 (by decide) rfl rfl (S _ _ rfl) (Nat.le_of_ble_eq_true rfl) (Nat.le_of_ble_eq_true rfl) (s_faults (d + 1) S R K hi (nI lv)) (fun v1 h1 p1 x1 => ?_)
          rw [p1.1, p1.2]
          try dsimp only [Option.toList, List.cons_append, List.nil_append, List.append]
          refine Rp.vreturn dX12_readPart_147 rfl ?_
          refine ⟨rfl, ?_⟩
          have hn : ¬ ((c i = 50 ∧ v i ≤ 1000) ∨ isW ord (c i) = true) := fun z => by
            rw [hw] at z; omega
          unfold prtL
          rw [if_neg hn]
          exact ⟨_, _, rfl⟩
        · skip
          refine Rp.iload_n dX12_readPart_103 rfl ?_
          refine Rp.aload_n dX12_readPart_104 rfl rfl ?_
          refine Rp.getI dX12_readPart_105 fk_X12_254 rfl (S _ _ rfl) ?_
          first | rw [rd_t] | rw [rd_c, e1] | rw [rd_v, e3] | rw [rd_8, ef] | rw [rd_9, el] | skip
          first | ((with_reducible show Rp _ _ _ _ (.int (nI _) :: .int (nI _) :: _) _ _); refine Rp.icmp_gtN (tgt := 143) dX12_readPart_108 (by decide) (by omega) (fun c108 => ?_) (fun c108 => ?_)) | refine Rp.icmp_gt (tgt := 143) dX12_readPart_108 (by decide) (fun c108 => ?_) (fun c108 => ?_)
          · skip
            refine Rp.aload_n dX12_readPart_143 rfl rfl ?_
            refine Rp.callV0 M_X12_faults (ci := 12) dX12_readPart_144 mo_X12_faults lk_X12_206 (by decide) rfl rfl (S _ _ rfl) (Nat.le_of_ble_eq_true rfl) (Nat.le_of_ble_eq_true rfl) (s_faults (d + 1) S R K hi (nI lv)) (fun v1 h1 p1 x1 => ?_)
            rw [p1.1, p1.2]
            try dsimp only [Option.toList, List.cons_append, List.nil_append, List.append]
            refine Rp.vreturn dX12_readPart_147 rfl ?_
            refine ⟨rfl, ?_⟩
            have hn : ¬ ((c i = 50 ∧ v i ≤ 1000) ∨ isW ord (c i) = true) := fun z => by
              rw [hw] at z; omega
            unfold prtL
            rw [if_neg hn]
            exact ⟨_, _, rfl⟩
          · skip
            first | exact part111 d S R K (hz (Or.inl ⟨by omega, by omega⟩)) hl dep (Or.inl ⟨by omega, by omega⟩) | exact part111 d S R K (hz (Or.inr (hw.mpr ⟨by omega, by omega⟩))) hl dep (Or.inr (hw.mpr ⟨by omega, by omega⟩))
      · skip
        refine Rp.aload_n dX12_readPart_80 rfl rfl ?_
        refine Rp.getR dX12_readPart_81 fk_X12_53 rfl (S _ _ rfl) (R _ _ _ rfl) ?_
        refine Rp.aload_n dX12_readPart_84 rfl rfl ?_
        refine Rp.getI dX12_readPart_85 fk_X12_200 rfl (S _ _ rfl) ?_
        first | rw [rd_t] | rw [rd_c, e1] | rw [rd_v, e3] | rw [rd_8, ef] | rw [rd_9, el] | skip
        first | ((with_reducible show Rp _ _ _ _ (.int (nI _) :: _) _ _); refine Rp.ialoadN dX12_readPart_88 (S _ _ rfl) (by omega) ?_) | refine Rp.iaload dX12_readPart_88 (S _ _ rfl) (by first | assumption | exact vpb (by decide)) ?_
        first | rw [rd_t] | rw [rd_c, e1] | rw [rd_v, e3] | rw [rd_8, ef] | rw [rd_9, el] | skip
        refine Rp.sipush (nI 1000) dX12_readPart_89 (by decide +kernel) ?_
        first | ((with_reducible show Rp _ _ _ _ (.int (nI _) :: .int (nI _) :: _) _ _); refine Rp.icmp_leN (tgt := 111) dX12_readPart_92 (by decide) (by omega) (fun c92 => ?_) (fun c92 => ?_)) | refine Rp.icmp_le (tgt := 111) dX12_readPart_92 (by decide) (fun c92 => ?_) (fun c92 => ?_)
        · skip
          first | exact part111 d S R K (hz (Or.inl ⟨by omega, by omega⟩)) hl dep (Or.inl ⟨by omega, by omega⟩) | exact part111 d S R K (hz (Or.inr (hw.mpr ⟨by omega, by omega⟩))) hl dep (Or.inr (hw.mpr ⟨by omega, by omega⟩))
        · skip
          refine Rp.iload_n dX12_readPart_95 rfl ?_
          refine Rp.aload_n dX12_readPart_96 rfl rfl ?_
          refine Rp.getI dX12_readPart_97 fk_X12_251 rfl (S _ _ rfl) ?_
          first | rw [rd_t] | rw [rd_c, e1] | rw [rd_v, e3] | rw [rd_8, ef] | rw [rd_9, el] | skip
          first | ((with_reducible show Rp _ _ _ _ (.int (nI _) :: .int (nI _) :: _) _ _); refine Rp.icmp_ltN (tgt := 143) dX12_readPart_100 (by decide) (by omega) (fun c100 => ?_) (fun c100 => ?_)) | refine Rp.icmp_lt (tgt := 143) dX12_readPart_100 (by decide) (fun c100 => ?_) (fun c100 => ?_)
          · skip
            refine Rp.aload_n dX12_readPart_143 rfl rfl ?_
            refine Rp.callV0 M_X12_faults (ci := 12) dX12_readPart_144 mo_X12_faults lk_X12_206 (by decide) rfl rfl (S _ _ rfl) (Nat.le_of_ble_eq_true rfl) (Nat.le_of_ble_eq_true rfl) (s_faults (d + 1) S R K hi (nI lv)) (fun v1 h1 p1 x1 => ?_)
            rw [p1.1, p1.2]
            try dsimp only [Option.toList, List.cons_append, List.nil_append, List.append]
            refine Rp.vreturn dX12_readPart_147 rfl ?_
            refine ⟨rfl, ?_⟩
            have hn : ¬ ((c i = 50 ∧ v i ≤ 1000) ∨ isW ord (c i) = true) := fun z => by
              rw [hw] at z; omega
            unfold prtL
            rw [if_neg hn]
            exact ⟨_, _, rfl⟩
          · skip
            refine Rp.iload_n dX12_readPart_103 rfl ?_
            refine Rp.aload_n dX12_readPart_104 rfl rfl ?_
            refine Rp.getI dX12_readPart_105 fk_X12_254 rfl (S _ _ rfl) ?_
            first | rw [rd_t] | rw [rd_c, e1] | rw [rd_v, e3] | rw [rd_8, ef] | rw [rd_9, el] | skip
            first | ((with_reducible show Rp _ _ _ _ (.int (nI _) :: .int (nI _) :: _) _ _); refine Rp.icmp_gtN (tgt := 143) dX12_readPart_108 (by decide) (by omega) (fun c108 => ?_) (fun c108 => ?_)) | refine Rp.icmp_gt (tgt := 143) dX12_readPart_108 (by decide) (fun c108 => ?_) (fun c108 => ?_)
            · skip
              refine Rp.aload_n dX12_readPart_143 rfl rfl ?_
              refine Rp.callV0 M_X12_faults (ci := 12) dX12_readPart_144 mo_X12_faults lk_X12_206 (by decide) rfl rfl (S _ _ rfl) (Nat.le_of_ble_eq_true rfl) (Nat.le_of_ble_eq_true rfl) (s_faults (d + 1) S R K hi (nI lv)) (fun v1 h1 p1 x1 => ?_)
              rw [p1.1, p1.2]
              try dsimp only [Option.toList, List.cons_append, List.nil_append, List.append]
              refine Rp.vreturn dX12_readPart_147 rfl ?_
              refine ⟨rfl, ?_⟩
              have hn : ¬ ((c i = 50 ∧ v i ≤ 1000) ∨ isW ord (c i) = true) := fun z => by
                rw [hw] at z; omega
              unfold prtL
              rw [if_neg hn]
              exact ⟨_, _, rfl⟩
            · skip
              first | exact part111 d S R K (hz (Or.inl ⟨by omega, by omega⟩)) hl dep (Or.inl ⟨by omega, by omega⟩) | exact part111 d S R K (hz (Or.inr (hw.mpr ⟨by omega, by omega⟩))) hl dep (Or.inr (hw.mpr ⟨by omega, by omega⟩))
    · skip
      first | (exfalso; omega) | exact absurd c24 (by decide) | exact absurd (by decide) c24
  · skip
    first | (exfalso; omega) | exact absurd c4 (by decide) | exact absurd (by decide) c4
end Rl
theorem plain0 {d : Nat} {h : AH} {a b : Value} {P : Option Value → AH → Prop} (hb : nl2 (some b)) (q : Rp d M_X12_readPlain 2 [some a, some b, some (.int (nI 1)), none] [] h P) : Rp d M_X12_readPlain 0 [some a, some b, none, none] [] h P := by
  refine Rp.iconst (nI 1) dX12_readPlain_0 (by decide) ?_
  refine Rp.ist2 dX12_readPlain_1 hb (by decide) ?_
  exact q
section Ra
variable {h : AH} {ord : Bool} {c v : Nat → Nat} {T : Nat}
theorem A_all (S : ShOK h) (R : RfOK h) (K : TK h ord c v T) : ∀ (f md d dep i lv a : Nat), md < 12 → dep ≤ 8 → i ≤ T → lv ≤ 50 → 12 * (T - i) + rkM md ≤ f → aR h d md dep i lv (rdQ h (Prs ord c v f md dep i lv a)) := by
  have hT := K.1
  have hc := K.2.1
  intro f
  induction f with
  | zero =>
    intro md d dep i lv a hm hd hi hl hf
    have : 1 ≤ rkM md := by
      match md, hm with
      | 0, _ | 1, _ | 2, _ | 3, _ | 4, _ | 5, _ | 6, _ | 7, _ | 8, _ | 9, _ | 10, _ | 11, _ => decide
    omega
  | succ f ih =>
    intro md d dep i lv a hm hd hi hl hf
    match md, hm, hf with
    | 0, _, hf =>
      have hf : 12 * (T - i) + 7 ≤ f + 1 := hf
      have q1 := ih 1 d dep i lv a (by decide) hd hi hl (by show _ + 6 ≤ f; omega)
      have o1 := Prs_ok (ord := ord) (v := v) hc f 1 dep i lv a (by decide) hi hl
      show Rp (d + 6 * (8 - dep) + 8) M_X12_readTest 0 [some (.ref aM), some (.int (nI dep))] [] (rdH h (nI i) (nI lv) (-1)) (fun r h' => r = none ∧ rdQ h (seqL (Prs ord c v f 1 dep i lv a) a (Prs ord c v f 2 dep)) h')
      refine Rp.aload_n dX12_readTest_0 rfl rfl ?_
      refine Rp.iload_n dX12_readTest_1 rfl ?_
      refine Rp.callV1 M_X12_readBoth (ci := 12) dX12_readTest_2 mo_X12_readBoth lk_X12_235 (by decide) rfl rfl (S _ _ rfl) (Nat.le_of_ble_eq_true rfl) (Nat.le_of_ble_eq_true rfl) (q1) (fun v1 h1 p1 x1 => ?_)
      obtain ⟨rfl, p1⟩ := p1
      try dsimp only [Option.toList, List.cons_append, List.nil_append, List.append]
      skip
      generalize Prs ord c v f 1 dep i lv a = x at p1 o1 ⊢
      rcases rdQ_cases K o1 p1 with ⟨e, t, l, rfl, he, hb, rfl⟩ | ⟨i1, lv1, cd, D, rfl, g1, g2, g3, g4, rfl⟩
      · exact Rp.mono (fun r h' p => ⟨p.2, t, l, p.1⟩) (bad_test5 (d + 6 * (8 - dep)) S R (nI dep) t l _ hb)
      · have := g3 rfl
        exact Rp.mono (fun r h' p => ⟨p.1, rdQ_seq p.2⟩) (ih 2 d dep i1 lv1 (a + cd.length) (by decide) hd g2 g4 (by show _ + 8 ≤ f; omega))
    | 1, _, hf =>
      have hf : 12 * (T - i) + 6 ≤ f + 1 := hf
      have q1 := ih 3 d dep i lv a (by decide) hd hi hl (by show _ + 5 ≤ f; omega)
      have o1 := Prs_ok (ord := ord) (v := v) hc f 3 dep i lv a (by decide) hi hl
      show Rp (d + 6 * (8 - dep) + 7) M_X12_readBoth 0 [some (.ref aM), some (.int (nI dep))] [] (rdH h (nI i) (nI lv) (-1)) (fun r h' => r = none ∧ rdQ h (seqL (Prs ord c v f 3 dep i lv a) a (Prs ord c v f 4 dep)) h')
      refine Rp.aload_n dX12_readBoth_0 rfl rfl ?_
      refine Rp.iload_n dX12_readBoth_1 rfl ?_
      refine Rp.callV1 M_X12_readPlain (ci := 12) dX12_readBoth_2 mo_X12_readPlain lk_X12_238 (by decide) rfl rfl (S _ _ rfl) (Nat.le_of_ble_eq_true rfl) (Nat.le_of_ble_eq_true rfl) (plain0 (nl2_some rfl) q1) (fun v1 h1 p1 x1 => ?_)
      obtain ⟨rfl, p1⟩ := p1
      try dsimp only [Option.toList, List.cons_append, List.nil_append, List.append]
      skip
      generalize Prs ord c v f 3 dep i lv a = x at p1 o1 ⊢
      rcases rdQ_cases K o1 p1 with ⟨e, t, l, rfl, he, hb, rfl⟩ | ⟨i1, lv1, cd, D, rfl, g1, g2, g3, g4, rfl⟩
      · exact Rp.mono (fun r h' p => ⟨p.2, t, l, p.1⟩) (bad_both5 (d + 6 * (8 - dep)) S R (nI dep) t l _ hb)
      · have := g3 rfl
        exact Rp.mono (fun r h' p => ⟨p.1, rdQ_seq p.2⟩) (ih 4 d dep i1 lv1 (a + cd.length) (by decide) hd g2 g4 (by show _ + 8 ≤ f; omega))
    | 7, _, hf =>
      have hf : 12 * (T - i) + 3 ≤ f + 1 := hf
      have q1 := ih 9 d dep i lv a (by decide) hd hi hl (by show _ + 2 ≤ f; omega)
      have o1 := Prs_ok (ord := ord) (v := v) hc f 9 dep i lv a (by decide) hi hl
      show Rp (d + 6 * (8 - dep) + 5) M_X12_readSum 0 [some (.ref aM), some (.int (nI dep))] [] (rdH h (nI i) (nI lv) (-1)) (fun r h' => r = none ∧ rdQ h (seqL (Prs ord c v f 9 dep i lv a) a (Prs ord c v f 8 dep)) h')
      refine Rp.aload_n dX12_readSum_0 rfl rfl ?_
      refine Rp.iload_n dX12_readSum_1 rfl ?_
      refine Rp.callV1 M_X12_readTerm (ci := 12) dX12_readSum_2 mo_X12_readTerm lk_X12_245 (by decide) rfl rfl (S _ _ rfl) (Nat.le_of_ble_eq_true rfl) (Nat.le_of_ble_eq_true rfl) (q1) (fun v1 h1 p1 x1 => ?_)
      obtain ⟨rfl, p1⟩ := p1
      try dsimp only [Option.toList, List.cons_append, List.nil_append, List.append]
      skip
      generalize Prs ord c v f 9 dep i lv a = x at p1 o1 ⊢
      rcases rdQ_cases K o1 p1 with ⟨e, t, l, rfl, he, hb, rfl⟩ | ⟨i1, lv1, cd, D, rfl, g1, g2, g3, g4, rfl⟩
      · exact Rp.mono (fun r h' p => ⟨p.2, t, l, p.1⟩) (bad_sum5 (d + 6 * (8 - dep)) S R (nI dep) t l _ hb)
      · have := g3 rfl
        exact Rp.mono (fun r h' p => ⟨p.1, rdQ_seq p.2⟩) (ih 8 d dep i1 lv1 (a + cd.length) (by decide) hd g2 g4 (by show _ + 8 ≤ f; omega))
    | 9, _, hf =>
      have hf : 12 * (T - i) + 2 ≤ f + 1 := hf
      have q1 := ih 11 d dep i lv a (by decide) hd hi hl (by show _ + 1 ≤ f; omega)
      have o1 := Prs_ok (ord := ord) (v := v) hc f 11 dep i lv a (by decide) hi hl
      show Rp (d + 6 * (8 - dep) + 4) M_X12_readTerm 0 [some (.ref aM), some (.int (nI dep))] [] (rdH h (nI i) (nI lv) (-1)) (fun r h' => r = none ∧ rdQ h (seqL (Prs ord c v f 11 dep i lv a) a (Prs ord c v f 10 dep)) h')
      refine Rp.aload_n dX12_readTerm_0 rfl rfl ?_
      refine Rp.iload_n dX12_readTerm_1 rfl ?_
      refine Rp.callV1 M_X12_readPart (ci := 12) dX12_readTerm_2 mo_X12_readPart lk_X12_248 (by decide) rfl rfl (S _ _ rfl) (Nat.le_of_ble_eq_true rfl) (Nat.le_of_ble_eq_true rfl) (q1) (fun v1 h1 p1 x1 => ?_)
      obtain ⟨rfl, p1⟩ := p1
      try dsimp only [Option.toList, List.cons_append, List.nil_append, List.append]
      skip
      generalize Prs ord c v f 11 dep i lv a = x at p1 o1 ⊢
      rcases rdQ_cases K o1 p1 with ⟨e, t, l, rfl, he, hb, rfl⟩ | ⟨i1, lv1, cd, D, rfl, g1, g2, g3, g4, rfl⟩
      · exact Rp.mono (fun r h' p => ⟨p.2, t, l, p.1⟩) (bad_term5 (d + 6 * (8 - dep)) S R (nI dep) t l _ hb)
      · have := g3 rfl
        exact Rp.mono (fun r h' p => ⟨p.1, rdQ_seq p.2⟩) (ih 10 d dep i1 lv1 (a + cd.length) (by decide) hd g2 g4 (by show _ + 8 ≤ f; omega))
    | 2, _, hf =>
      have hf : 12 * (T - i) + 8 ≤ f + 1 := hf
      show Rp (d + 6 * (8 - dep) + 8) M_X12_readTest 5 [some (.ref aM), some (.int (nI dep))] [] (rdH h (nI i) (nI lv) (-1)) (fun r h' => r = none ∧ rdQ h (if c i = 6 then jmpL 4 (Prs ord c v f 1 dep (i + 1) lv (a + 1)) a (Prs ord c v f 2 dep) else .ok (i, lv, [], fun _ x => some x)) h')
      refine Rp.aload_n dX12_readTest_5 rfl rfl ?_
      refine Rp.bipush (nI 6) dX12_readTest_6 (by decide) ?_
      refine Rp.callV1 M_X12_takes0 (ci := 12) dX12_readTest_8 mo_X12_takes0 lk_X12_203 (by decide) rfl rfl (S _ _ rfl) (Nat.le_of_ble_eq_true rfl) (Nat.le_of_ble_eq_true rfl) (s_takes (d + 6 * (8 - dep) + 6) S R K hi (nI lv) 6 (by decide)) (fun v1 h1 p1 x1 => ?_)
      skip
      try dsimp only [Option.toList, List.cons_append, List.nil_append, List.append]
      skip
      rcases p1 with ⟨e, rfl, rfl⟩ | ⟨e, rfl, rfl⟩
      · rw [if_pos e]
        have hi1 := lt_of_code hc hi (by rw [e]; decide)
        have q1 := ih 1 d dep (i + 1) lv (a + 1) (by decide) hd hi1 hl (by show _ + 6 ≤ f; omega)
        have o1 := Prs_ok (ord := ord) (v := v) hc f 1 dep (i + 1) lv (a + 1) (by decide) hi1 hl
        dsimp only [Option.toList, List.cons_append, List.nil_append, List.append]
        first | ((with_reducible show Rp _ _ _ _ (.int (b2i _) :: _) _ _); refine Rp.if_eqB (tgt := 22) dX12_readTest_11 (by decide) (fun c11 => ?_) (fun c11 => ?_)) | ((with_reducible show Rp _ _ _ _ (.int (nI _) :: _) _ _); refine Rp.if_eqN (tgt := 22) dX12_readTest_11 (by decide) (by omega) (fun c11 => ?_) (fun c11 => ?_)) | refine Rp.if_eq (tgt := 22) dX12_readTest_11 (by decide) (fun c11 => ?_) (fun c11 => ?_)
        · first | (exfalso; omega) | exact absurd c11 (by decide) | exact absurd (by decide) c11
        refine Rp.aload_n dX12_readTest_14 rfl rfl ?_
        refine Rp.iload_n dX12_readTest_15 rfl ?_
        refine Rp.callV1 M_X12_readBoth (ci := 12) dX12_readTest_16 mo_X12_readBoth lk_X12_235 (by decide) rfl rfl (S _ _ rfl) (Nat.le_of_ble_eq_true rfl) (Nat.le_of_ble_eq_true rfl) (q1) (fun v1 h1 p1 x1 => ?_)
        obtain ⟨rfl, p1⟩ := p1
        try dsimp only [Option.toList, List.cons_append, List.nil_append, List.append]
        refine Rp.goto (tgt := 5) dX12_readTest_19 (by decide) ?_
        skip
        generalize Prs ord c v f 1 dep (i + 1) lv (a + 1) = x at p1 o1 ⊢
        rcases rdQ_cases K o1 p1 with ⟨e, t, l, rfl, he, hb, rfl⟩ | ⟨i1, lv1, cd, D, rfl, g1, g2, g3, g4, rfl⟩
        · exact Rp.mono (fun r h' p => ⟨p.2, t, l, p.1⟩) (bad_test5 (d + 6 * (8 - dep)) S R (nI dep) t l _ hb)
        · have := g3 rfl
          exact Rp.mono (fun r h' p => ⟨p.1, rdQ_jmp p.2⟩) (ih 2 d dep i1 lv1 (a + 1 + cd.length) (by decide) hd g2 g4 (by show _ + 8 ≤ f; omega))
      · rw [if_neg e]
        dsimp only [Option.toList, List.cons_append, List.nil_append, List.append]
        first | ((with_reducible show Rp _ _ _ _ (.int (b2i _) :: _) _ _); refine Rp.if_eqB (tgt := 22) dX12_readTest_11 (by decide) (fun c11 => ?_) (fun c11 => ?_)) | ((with_reducible show Rp _ _ _ _ (.int (nI _) :: _) _ _); refine Rp.if_eqN (tgt := 22) dX12_readTest_11 (by decide) (by omega) (fun c11 => ?_) (fun c11 => ?_)) | refine Rp.if_eq (tgt := 22) dX12_readTest_11 (by decide) (fun c11 => ?_) (fun c11 => ?_)
        · skip
          refine Rp.vreturn dX12_readTest_22 rfl ?_
          exact ⟨rfl, rfl⟩
        · skip
          first | (exfalso; omega) | exact absurd c11 (by decide) | exact absurd (by decide) c11
    | 4, _, hf =>
      have hf : 12 * (T - i) + 8 ≤ f + 1 := hf
      show Rp (d + 6 * (8 - dep) + 7) M_X12_readBoth 5 [some (.ref aM), some (.int (nI dep))] [] (rdH h (nI i) (nI lv) (-1)) (fun r h' => r = none ∧ rdQ h (if c i = 7 then jmpL 3 (Prs ord c v f 3 dep (i + 1) lv (a + 1)) a (Prs ord c v f 4 dep) else .ok (i, lv, [], fun _ x => some x)) h')
      refine Rp.aload_n dX12_readBoth_5 rfl rfl ?_
      refine Rp.bipush (nI 7) dX12_readBoth_6 (by decide) ?_
      refine Rp.callV1 M_X12_takes0 (ci := 12) dX12_readBoth_8 mo_X12_takes0 lk_X12_203 (by decide) rfl rfl (S _ _ rfl) (Nat.le_of_ble_eq_true rfl) (Nat.le_of_ble_eq_true rfl) (s_takes (d + 6 * (8 - dep) + 5) S R K hi (nI lv) 7 (by decide)) (fun v1 h1 p1 x1 => ?_)
      skip
      try dsimp only [Option.toList, List.cons_append, List.nil_append, List.append]
      skip
      rcases p1 with ⟨e, rfl, rfl⟩ | ⟨e, rfl, rfl⟩
      · rw [if_pos e]
        have hi1 := lt_of_code hc hi (by rw [e]; decide)
        have q1 := ih 3 d dep (i + 1) lv (a + 1) (by decide) hd hi1 hl (by show _ + 5 ≤ f; omega)
        have o1 := Prs_ok (ord := ord) (v := v) hc f 3 dep (i + 1) lv (a + 1) (by decide) hi1 hl
        dsimp only [Option.toList, List.cons_append, List.nil_append, List.append]
        first | ((with_reducible show Rp _ _ _ _ (.int (b2i _) :: _) _ _); refine Rp.if_eqB (tgt := 22) dX12_readBoth_11 (by decide) (fun c11 => ?_) (fun c11 => ?_)) | ((with_reducible show Rp _ _ _ _ (.int (nI _) :: _) _ _); refine Rp.if_eqN (tgt := 22) dX12_readBoth_11 (by decide) (by omega) (fun c11 => ?_) (fun c11 => ?_)) | refine Rp.if_eq (tgt := 22) dX12_readBoth_11 (by decide) (fun c11 => ?_) (fun c11 => ?_)
        · first | (exfalso; omega) | exact absurd c11 (by decide) | exact absurd (by decide) c11
        refine Rp.aload_n dX12_readBoth_14 rfl rfl ?_
        refine Rp.iload_n dX12_readBoth_15 rfl ?_
        refine Rp.callV1 M_X12_readPlain (ci := 12) dX12_readBoth_16 mo_X12_readPlain lk_X12_238 (by decide) rfl rfl (S _ _ rfl) (Nat.le_of_ble_eq_true rfl) (Nat.le_of_ble_eq_true rfl) (plain0 (nl2_some rfl) q1) (fun v1 h1 p1 x1 => ?_)
        obtain ⟨rfl, p1⟩ := p1
        try dsimp only [Option.toList, List.cons_append, List.nil_append, List.append]
        refine Rp.goto (tgt := 5) dX12_readBoth_19 (by decide) ?_
        skip
        generalize Prs ord c v f 3 dep (i + 1) lv (a + 1) = x at p1 o1 ⊢
        rcases rdQ_cases K o1 p1 with ⟨e, t, l, rfl, he, hb, rfl⟩ | ⟨i1, lv1, cd, D, rfl, g1, g2, g3, g4, rfl⟩
        · exact Rp.mono (fun r h' p => ⟨p.2, t, l, p.1⟩) (bad_both5 (d + 6 * (8 - dep)) S R (nI dep) t l _ hb)
        · have := g3 rfl
          exact Rp.mono (fun r h' p => ⟨p.1, rdQ_jmp p.2⟩) (ih 4 d dep i1 lv1 (a + 1 + cd.length) (by decide) hd g2 g4 (by show _ + 8 ≤ f; omega))
      · rw [if_neg e]
        dsimp only [Option.toList, List.cons_append, List.nil_append, List.append]
        first | ((with_reducible show Rp _ _ _ _ (.int (b2i _) :: _) _ _); refine Rp.if_eqB (tgt := 22) dX12_readBoth_11 (by decide) (fun c11 => ?_) (fun c11 => ?_)) | ((with_reducible show Rp _ _ _ _ (.int (nI _) :: _) _ _); refine Rp.if_eqN (tgt := 22) dX12_readBoth_11 (by decide) (by omega) (fun c11 => ?_) (fun c11 => ?_)) | refine Rp.if_eq (tgt := 22) dX12_readBoth_11 (by decide) (fun c11 => ?_) (fun c11 => ?_)
        · skip
          refine Rp.vreturn dX12_readBoth_22 rfl ?_
          exact ⟨rfl, rfl⟩
        · skip
          first | (exfalso; omega) | exact absurd c11 (by decide) | exact absurd (by decide) c11
    | 3, _, hf =>
      have hf : 12 * (T - i) + 5 ≤ f + 1 := hf
      show Rp (d + 6 * (8 - dep) + 6) M_X12_readPlain 2 [some (.ref aM), some (.int (nI dep)), some (.int (nI 1)), none] [] (rdH h (nI i) (nI lv) (-1)) (fun r h' => r = none ∧ rdQ h (if c i = 8 then Prs ord c v f 5 dep (i + 1) lv a else (Prs ord c v f 6 dep i lv a)) h')
      refine Rp.iload_n dX12_readPlain_2 rfl ?_
      first | ((with_reducible show Rp _ _ _ _ (.int (b2i _) :: _) _ _); refine Rp.if_eqB (tgt := 16) dX12_readPlain_3 (by decide) (fun c3 => ?_) (fun c3 => ?_)) | ((with_reducible show Rp _ _ _ _ (.int (nI _) :: _) _ _); refine Rp.if_eqN (tgt := 16) dX12_readPlain_3 (by decide) (by omega) (fun c3 => ?_) (fun c3 => ?_)) | refine Rp.if_eq (tgt := 16) dX12_readPlain_3 (by decide) (fun c3 => ?_) (fun c3 => ?_)
      · first | (exfalso; omega) | exact absurd c3 (by decide) | exact absurd (by decide) c3
      refine Rp.aload_n dX12_readPlain_6 rfl rfl ?_
      refine Rp.bipush (nI 8) dX12_readPlain_7 (by decide) ?_
      refine Rp.callV1 M_X12_takes0 (ci := 12) dX12_readPlain_9 mo_X12_takes0 lk_X12_203 (by decide) rfl rfl (S _ _ rfl) (Nat.le_of_ble_eq_true rfl) (Nat.le_of_ble_eq_true rfl) (s_takes (d + 6 * (8 - dep) + 4) S R K hi (nI lv) 8 (by decide)) (fun v1 h1 p1 x1 => ?_)
      skip
      try dsimp only [Option.toList, List.cons_append, List.nil_append, List.append]
      skip
      rcases p1 with ⟨e, rfl, rfl⟩ | ⟨e, rfl, rfl⟩
      · rw [if_pos e]
        have hi1 := lt_of_code hc hi (by rw [e]; decide)
        dsimp only [Option.toList, List.cons_append, List.nil_append, List.append]
        refine Rp.ist2 dX12_readPlain_12 (by first | exact nl2_some rfl | exact nl2_none) (by decide) ?_
        refine Rp.goto (tgt := 2) dX12_readPlain_13 (by decide) ?_
        exact ih 5 d dep (i + 1) lv a (by decide) hd hi1 hl (by show _ + 5 ≤ f; omega)
      · rw [if_neg e]
        dsimp only [Option.toList, List.cons_append, List.nil_append, List.append]
        refine Rp.ist2 dX12_readPlain_12 (by first | exact nl2_some rfl | exact nl2_none) (by decide) ?_
        refine Rp.goto (tgt := 2) dX12_readPlain_13 (by decide) ?_
        refine Rp.iload_n dX12_readPlain_2 rfl ?_
        first | ((with_reducible show Rp _ _ _ _ (.int (b2i _) :: _) _ _); refine Rp.if_eqB (tgt := 16) dX12_readPlain_3 (by decide) (fun c3 => ?_) (fun c3 => ?_)) | ((with_reducible show Rp _ _ _ _ (.int (nI _) :: _) _ _); refine Rp.if_eqN (tgt := 16) dX12_readPlain_3 (by decide) (by omega) (fun c3 => ?_) (fun c3 => ?_)) | refine Rp.if_eq (tgt := 16) dX12_readPlain_3 (by decide) (fun c3 => ?_) (fun c3 => ?_)
        · skip
          exact (ih 6 d dep i lv a (by decide) hd hi hl (by show _ + 4 ≤ f; omega))
        · skip
          first | (exfalso; omega) | exact absurd c3 (by decide) | exact absurd (by decide) c3
    | 5, _, hf =>
      have hf : 12 * (T - i) + 5 ≤ f + 1 := hf
      show Rp (d + 6 * (8 - dep) + 6) M_X12_readPlain 2 [some (.ref aM), some (.int (nI dep)), some (.int (nI 1)), none] [] (rdH h (nI i) (nI lv) (-1)) (fun r h' => r = none ∧ rdQ h (if c i = 8 then Prs ord c v f 3 dep (i + 1) lv a else notL (Prs ord c v f 6 dep i lv a)) h')
      refine Rp.iload_n dX12_readPlain_2 rfl ?_
      first | ((with_reducible show Rp _ _ _ _ (.int (b2i _) :: _) _ _); refine Rp.if_eqB (tgt := 16) dX12_readPlain_3 (by decide) (fun c3 => ?_) (fun c3 => ?_)) | ((with_reducible show Rp _ _ _ _ (.int (nI _) :: _) _ _); refine Rp.if_eqN (tgt := 16) dX12_readPlain_3 (by decide) (by omega) (fun c3 => ?_) (fun c3 => ?_)) | refine Rp.if_eq (tgt := 16) dX12_readPlain_3 (by decide) (fun c3 => ?_) (fun c3 => ?_)
      · first | (exfalso; omega) | exact absurd c3 (by decide) | exact absurd (by decide) c3
      refine Rp.aload_n dX12_readPlain_6 rfl rfl ?_
      refine Rp.bipush (nI 8) dX12_readPlain_7 (by decide) ?_
      refine Rp.callV1 M_X12_takes0 (ci := 12) dX12_readPlain_9 mo_X12_takes0 lk_X12_203 (by decide) rfl rfl (S _ _ rfl) (Nat.le_of_ble_eq_true rfl) (Nat.le_of_ble_eq_true rfl) (s_takes (d + 6 * (8 - dep) + 4) S R K hi (nI lv) 8 (by decide)) (fun v1 h1 p1 x1 => ?_)
      skip
      try dsimp only [Option.toList, List.cons_append, List.nil_append, List.append]
      skip
      rcases p1 with ⟨e, rfl, rfl⟩ | ⟨e, rfl, rfl⟩
      · rw [if_pos e]
        have hi1 := lt_of_code hc hi (by rw [e]; decide)
        dsimp only [Option.toList, List.cons_append, List.nil_append, List.append]
        refine Rp.ist2 dX12_readPlain_12 (by first | exact nl2_some rfl | exact nl2_none) (by decide) ?_
        refine Rp.goto (tgt := 2) dX12_readPlain_13 (by decide) ?_
        exact ih 3 d dep (i + 1) lv a (by decide) hd hi1 hl (by show _ + 5 ≤ f; omega)
      · rw [if_neg e]
        dsimp only [Option.toList, List.cons_append, List.nil_append, List.append]
        refine Rp.ist2 dX12_readPlain_12 (by first | exact nl2_some rfl | exact nl2_none) (by decide) ?_
        refine Rp.goto (tgt := 2) dX12_readPlain_13 (by decide) ?_
        refine Rp.iload_n dX12_readPlain_2 rfl ?_
        first | ((with_reducible show Rp _ _ _ _ (.int (b2i _) :: _) _ _); refine Rp.if_eqB (tgt := 16) dX12_readPlain_3 (by decide) (fun c3 => ?_) (fun c3 => ?_)) | ((with_reducible show Rp _ _ _ _ (.int (nI _) :: _) _ _); refine Rp.if_eqN (tgt := 16) dX12_readPlain_3 (by decide) (by omega) (fun c3 => ?_) (fun c3 => ?_)) | refine Rp.if_eq (tgt := 16) dX12_readPlain_3 (by decide) (fun c3 => ?_) (fun c3 => ?_)
        · skip
          exact Rp.mono (fun r h2 p => ⟨p.1, rdQ_not p.2⟩) (ih 6 d dep i lv a (by decide) hd hi hl (by show _ + 4 ≤ f; omega))
        · skip
          first | (exfalso; omega) | exact absurd c3 (by decide) | exact absurd (by decide) c3
    | 6, _, hf =>
      have hf : 12 * (T - i) + 4 ≤ f + 1 := hf
      obtain ⟨e1, e3, e2, e4, -⟩ := K.2.2.1 i hi
      show Rp (d + 6 * (8 - dep) + 6) M_X12_readPlain 16 [some (.ref aM), some (.int (nI dep)), some (.int (nI 0)), none] [] (rdH h (nI i) (nI lv) (-1)) (fun r h' => r = none ∧ rdQ h (if c i = 140 then (if dep = 8 then .error i else cloL c 141 (Prs ord c v f 0 (dep + 1) (i + 1) lv a)) else cmpL c (Prs ord c v f 7 dep i lv a) a (Prs ord c v f 7 dep)) h')
      by_cases h140 : c i = 140
      · rw [if_pos h140]
        have hi1 := lt_of_code hc hi (by rw [h140]; decide)
        by_cases h8 : dep = 8
        · rw [if_pos h8]
          refine Rp.aload_n dX12_readPlain_16 rfl rfl ?_
          refine Rp.callV0 M_X12_fine (ci := 12) dX12_readPlain_17 mo_X12_fine lk_X12_196 (by decide) rfl rfl (S _ _ rfl) (Nat.le_of_ble_eq_true rfl) (Nat.le_of_ble_eq_true rfl) (s_fine (d + 6 * (8 - dep) + 5) S R _ _) (fun v1 h1 p1 x1 => ?_)
          rw [p1.1, p1.2]
          try dsimp only [Option.toList, List.cons_append, List.nil_append, List.append]
          first | ((with_reducible show Rp _ _ _ _ (.int (b2i _) :: _) _ _); refine Rp.if_neB (tgt := 24) dX12_readPlain_20 (by decide) (fun c20 => ?_) (fun c20 => ?_)) | ((with_reducible show Rp _ _ _ _ (.int (nI _) :: _) _ _); refine Rp.if_neN (tgt := 24) dX12_readPlain_20 (by decide) (by omega) (fun c20 => ?_) (fun c20 => ?_)) | refine Rp.if_ne (tgt := 24) dX12_readPlain_20 (by decide) (fun c20 => ?_) (fun c20 => ?_)
          · skip
            refine Rp.aload_n dX12_readPlain_24 rfl rfl ?_
            refine Rp.getR dX12_readPlain_25 fk_X12_50 rfl (S _ _ rfl) (R _ _ _ rfl) ?_
            refine Rp.aload_n dX12_readPlain_28 rfl rfl ?_
            refine Rp.getI dX12_readPlain_29 fk_X12_200 rfl (S _ _ rfl) ?_
            first | rw [rd_t] | rw [rd_c, e1] | skip
            first | ((with_reducible show Rp _ _ _ _ (.int (nI _) :: _) _ _); refine Rp.ialoadN dX12_readPlain_32 (S _ _ rfl) (by omega) ?_) | refine Rp.iaload dX12_readPlain_32 (S _ _ rfl) (by first | assumption | exact vpb (by decide)) ?_
            first | rw [rd_t] | rw [rd_c, e1] | skip
            refine Rp.ist3 dX12_readPlain_33 (by first | exact nl2_some rfl | exact nl2_none) (by decide) ?_
            refine Rp.iload_n dX12_readPlain_34 rfl ?_
            refine Rp.bipush (nI 40) dX12_readPlain_35 (by decide) ?_
            refine Rp.callS1 M_X12_sign dX12_readPlain_37 mo_X12_sign lk_X12_241 (Nat.le_of_ble_eq_true rfl) (Nat.le_of_ble_eq_true rfl) (s_signN (d + 6 * (8 - dep) + 5) 40) (fun v1 h1 p1 x1 => ?_)
            rw [p1.1, p1.2]
            try dsimp only [Option.toList, List.cons_append, List.nil_append, List.append]
            first | ((with_reducible show Rp _ _ _ _ (.int (nI _) :: .int (nI _) :: _) _ _); refine Rp.icmp_neN (tgt := 90) dX12_readPlain_40 (by decide) (by omega) (fun c40 => ?_) (fun c40 => ?_)) | refine Rp.icmp_ne (tgt := 90) dX12_readPlain_40 (by decide) (fun c40 => ?_) (fun c40 => ?_)
            · skip
              first | (exfalso; omega) | exact absurd c40 (by decide) | exact absurd (by decide) c40
            · skip
              refine Rp.iload_n dX12_readPlain_43 rfl ?_
              refine Rp.bipush (nI 8) dX12_readPlain_44 (by decide) ?_
              first | ((with_reducible show Rp _ _ _ _ (.int (nI _) :: .int (nI _) :: _) _ _); refine Rp.icmp_neN (tgt := 53) dX12_readPlain_46 (by decide) (by omega) (fun c46 => ?_) (fun c46 => ?_)) | refine Rp.icmp_ne (tgt := 53) dX12_readPlain_46 (by decide) (fun c46 => ?_) (fun c46 => ?_)
              · skip
                first | (exfalso; omega) | exact absurd c46 (by decide) | exact absurd (by decide) c46
              · skip
                refine Rp.aload_n dX12_readPlain_49 rfl rfl ?_
                refine Rp.callV0 M_X12_faults (ci := 12) dX12_readPlain_50 mo_X12_faults lk_X12_206 (by decide) rfl rfl (S _ _ rfl) (Nat.le_of_ble_eq_true rfl) (Nat.le_of_ble_eq_true rfl) (s_faults (d + 6 * (8 - dep) + 4) S R K hi _) (fun v1 h1 p1 x1 => ?_)
                rw [p1.1, p1.2]
                try dsimp only [Option.toList, List.cons_append, List.nil_append, List.append]
                refine Rp.aload_n dX12_readPlain_53 rfl rfl ?_
                refine Rp.callV0 M_X12_fine (ci := 12) dX12_readPlain_54 mo_X12_fine lk_X12_196 (by decide) rfl rfl (S _ _ rfl) (Nat.le_of_ble_eq_true rfl) (Nat.le_of_ble_eq_true rfl) (s_fineF (d + 6 * (8 - dep) + 5) S R _ _ _ (K.pl hi)) (fun v1 h1 p1 x1 => ?_)
                rw [p1.1, p1.2]
                try dsimp only [Option.toList, List.cons_append, List.nil_append, List.append]
                first | ((with_reducible show Rp _ _ _ _ (.int (b2i _) :: _) _ _); refine Rp.if_neB (tgt := 61) dX12_readPlain_57 (by decide) (fun c57 => ?_) (fun c57 => ?_)) | ((with_reducible show Rp _ _ _ _ (.int (nI _) :: _) _ _); refine Rp.if_neN (tgt := 61) dX12_readPlain_57 (by decide) (by omega) (fun c57 => ?_) (fun c57 => ?_)) | refine Rp.if_ne (tgt := 61) dX12_readPlain_57 (by decide) (fun c57 => ?_) (fun c57 => ?_)
                · skip
                  first | (exfalso; omega) | exact absurd c57 (by decide) | exact absurd (by decide) c57
                · skip
                  refine Rp.vreturn dX12_readPlain_60 rfl ?_
                  exact ⟨rfl, _, _, rfl⟩
          · skip
            first | (exfalso; omega) | exact absurd c20 (by decide) | exact absurd (by decide) c20
        · rw [if_neg h8]
          have q1 := ih 0 (d + 3) (dep + 1) (i + 1) lv a (by decide) (by omega) hi1 hl (by show _ + 7 ≤ f; omega)
          rw [show Prs ord c v f 0 (dep + 1) (i + 1) lv a = Prs ord c v f 0 (dep + 1) (i + 1) lv a from rfl] at q1
          have ed : d + 3 + 6 * (8 - (dep + 1)) + 8 = d + 6 * (8 - dep) + 5 := by omega
          have q1 : Rp (d + 3 + 6 * (8 - (dep + 1)) + 8) M_X12_readTest 0 [some (.ref aM), some (.int (nI (dep + 1)))] [] (rdH h (nI (i + 1)) (nI lv) (-1)) (fun r h' => r = none ∧ rdQ h (Prs ord c v f 0 (dep + 1) (i + 1) lv a) h') := q1
          rw [ed] at q1
          have o1 := Prs_ok (ord := ord) (v := v) hc f 0 (dep + 1) (i + 1) lv a (by decide) hi1 hl
          refine Rp.aload_n dX12_readPlain_16 rfl rfl ?_
          refine Rp.callV0 M_X12_fine (ci := 12) dX12_readPlain_17 mo_X12_fine lk_X12_196 (by decide) rfl rfl (S _ _ rfl) (Nat.le_of_ble_eq_true rfl) (Nat.le_of_ble_eq_true rfl) (s_fine (d + 6 * (8 - dep) + 5) S R _ _) (fun v1 h1 p1 x1 => ?_)
          rw [p1.1, p1.2]
          try dsimp only [Option.toList, List.cons_append, List.nil_append, List.append]
          first | ((with_reducible show Rp _ _ _ _ (.int (b2i _) :: _) _ _); refine Rp.if_neB (tgt := 24) dX12_readPlain_20 (by decide) (fun c20 => ?_) (fun c20 => ?_)) | ((with_reducible show Rp _ _ _ _ (.int (nI _) :: _) _ _); refine Rp.if_neN (tgt := 24) dX12_readPlain_20 (by decide) (by omega) (fun c20 => ?_) (fun c20 => ?_)) | refine Rp.if_ne (tgt := 24) dX12_readPlain_20 (by decide) (fun c20 => ?_) (fun c20 => ?_)
          rotate_left
          · first | (exfalso; omega) | exact absurd c20 (by decide) | exact absurd (by decide) c20
          refine Rp.aload_n dX12_readPlain_24 rfl rfl ?_
          refine Rp.getR dX12_readPlain_25 fk_X12_50 rfl (S _ _ rfl) (R _ _ _ rfl) ?_
          refine Rp.aload_n dX12_readPlain_28 rfl rfl ?_
          refine Rp.getI dX12_readPlain_29 fk_X12_200 rfl (S _ _ rfl) ?_
          first | rw [rd_t] | rw [rd_c, e1] | skip
          first | ((with_reducible show Rp _ _ _ _ (.int (nI _) :: _) _ _); refine Rp.ialoadN dX12_readPlain_32 (S _ _ rfl) (by omega) ?_) | refine Rp.iaload dX12_readPlain_32 (S _ _ rfl) (by first | assumption | exact vpb (by decide)) ?_
          first | rw [rd_t] | rw [rd_c, e1] | skip
          refine Rp.ist3 dX12_readPlain_33 (by first | exact nl2_some rfl | exact nl2_none) (by decide) ?_
          refine Rp.iload_n dX12_readPlain_34 rfl ?_
          refine Rp.bipush (nI 40) dX12_readPlain_35 (by decide) ?_
          refine Rp.callS1 M_X12_sign dX12_readPlain_37 mo_X12_sign lk_X12_241 (Nat.le_of_ble_eq_true rfl) (Nat.le_of_ble_eq_true rfl) (s_signN (d + 6 * (8 - dep) + 5) 40) (fun v1 h1 p1 x1 => ?_)
          rw [p1.1, p1.2]
          try dsimp only [Option.toList, List.cons_append, List.nil_append, List.append]
          first | ((with_reducible show Rp _ _ _ _ (.int (nI _) :: .int (nI _) :: _) _ _); refine Rp.icmp_neN (tgt := 90) dX12_readPlain_40 (by decide) (by omega) (fun c40 => ?_) (fun c40 => ?_)) | refine Rp.icmp_ne (tgt := 90) dX12_readPlain_40 (by decide) (fun c40 => ?_) (fun c40 => ?_)
          · first | (exfalso; omega) | exact absurd c40 (by decide) | exact absurd (by decide) c40
          refine Rp.iload_n dX12_readPlain_43 rfl ?_
          refine Rp.bipush (nI 8) dX12_readPlain_44 (by decide) ?_
          first | ((with_reducible show Rp _ _ _ _ (.int (nI _) :: .int (nI _) :: _) _ _); refine Rp.icmp_neN (tgt := 53) dX12_readPlain_46 (by decide) (by omega) (fun c46 => ?_) (fun c46 => ?_)) | refine Rp.icmp_ne (tgt := 53) dX12_readPlain_46 (by decide) (fun c46 => ?_) (fun c46 => ?_)
          rotate_left
          · first | (exfalso; omega) | exact absurd c46 (by decide) | exact absurd (by decide) c46
          refine Rp.aload_n dX12_readPlain_53 rfl rfl ?_
          refine Rp.callV0 M_X12_fine (ci := 12) dX12_readPlain_54 mo_X12_fine lk_X12_196 (by decide) rfl rfl (S _ _ rfl) (Nat.le_of_ble_eq_true rfl) (Nat.le_of_ble_eq_true rfl) (s_fine (d + 6 * (8 - dep) + 5) S R _ _) (fun v1 h1 p1 x1 => ?_)
          rw [p1.1, p1.2]
          try dsimp only [Option.toList, List.cons_append, List.nil_append, List.append]
          first | ((with_reducible show Rp _ _ _ _ (.int (b2i _) :: _) _ _); refine Rp.if_neB (tgt := 61) dX12_readPlain_57 (by decide) (fun c57 => ?_) (fun c57 => ?_)) | ((with_reducible show Rp _ _ _ _ (.int (nI _) :: _) _ _); refine Rp.if_neN (tgt := 61) dX12_readPlain_57 (by decide) (by omega) (fun c57 => ?_) (fun c57 => ?_)) | refine Rp.if_ne (tgt := 61) dX12_readPlain_57 (by decide) (fun c57 => ?_) (fun c57 => ?_)
          rotate_left
          · first | (exfalso; omega) | exact absurd c57 (by decide) | exact absurd (by decide) c57
          refine Rp.aload_n dX12_readPlain_61 rfl rfl ?_
          refine Rp.dup dX12_readPlain_62 rfl ?_
          refine Rp.getI dX12_readPlain_63 fk_X12_200 rfl (S _ _ rfl) ?_
          first | rw [rd_t] | rw [rd_c, e1] | skip
          refine Rp.iconst (nI 1) dX12_readPlain_66 (by decide) ?_
          first | ((with_reducible show Rp _ _ _ _ (.int (nI _) :: .int (nI _) :: _) _ _); refine Rp.iaddN dX12_readPlain_67 ?_) | refine Rp.iadd dX12_readPlain_67 ?_
          refine Rp.putI dX12_readPlain_68 fk_X12_200w rfl (S _ _ rfl) ?_
          first | rw [rd_st] | skip
          refine Rp.aload_n dX12_readPlain_71 rfl rfl ?_
          refine Rp.iload_n dX12_readPlain_72 rfl ?_
          refine Rp.iconst (nI 1) dX12_readPlain_73 (by decide) ?_
          first | ((with_reducible show Rp _ _ _ _ (.int (nI _) :: .int (nI _) :: _) _ _); refine Rp.iaddN dX12_readPlain_74 ?_) | refine Rp.iadd dX12_readPlain_74 ?_
          refine Rp.callV1 M_X12_readTest (ci := 12) dX12_readPlain_75 mo_X12_readTest lk_X12_219 (by decide) rfl rfl (S _ _ rfl) (Nat.le_of_ble_eq_true rfl) (Nat.le_of_ble_eq_true rfl) (q1) (fun v1 h1 p1 x1 => ?_)
          obtain ⟨rfl, p1⟩ := p1
          try dsimp only [Option.toList, List.cons_append, List.nil_append, List.append]
          skip
          generalize Prs ord c v f 0 (dep + 1) (i + 1) lv a = x at p1 o1 ⊢
          rcases rdQ_cases K o1 p1 with ⟨e, t, l, rfl, he, hb, rfl⟩ | ⟨i1, lv1, cd, D, rfl, g1, g2, g3, g4, rfl⟩
          · skip
            refine Rp.aload_n dX12_readPlain_78 rfl rfl ?_
            refine Rp.bipush (nI 41) dX12_readPlain_79 (by decide) ?_
            refine Rp.callS1 M_X12_sign dX12_readPlain_81 mo_X12_sign lk_X12_241 (Nat.le_of_ble_eq_true rfl) (Nat.le_of_ble_eq_true rfl) (s_signN (d + 6 * (8 - dep) + 5) 41) (fun v1 h1 p1 x1 => ?_)
            rw [p1.1, p1.2]
            try dsimp only [Option.toList, List.cons_append, List.nil_append, List.append]
            refine Rp.callV1 M_X12_must (ci := 12) dX12_readPlain_84 mo_X12_must lk_X12_216 (by decide) rfl rfl (S _ _ rfl) (Nat.le_of_ble_eq_true rfl) (Nat.le_of_ble_eq_true rfl) (s_mustF (d + 6 * (8 - dep) + 3) S R _ t l _ hb) (fun v1 h1 p1 x1 => ?_)
            rw [p1.1, p1.2]
            try dsimp only [Option.toList, List.cons_append, List.nil_append, List.append]
            refine Rp.goto (tgt := 133) dX12_readPlain_87 (by decide) ?_
            refine Rp.vreturn dX12_readPlain_133 rfl ?_
            exact ⟨rfl, t, l, rfl⟩
          · unfold cloL
            dsimp only
            refine Rp.aload_n dX12_readPlain_78 rfl rfl ?_
            refine Rp.bipush (nI 41) dX12_readPlain_79 (by decide) ?_
            refine Rp.callS1 M_X12_sign dX12_readPlain_81 mo_X12_sign lk_X12_241 (Nat.le_of_ble_eq_true rfl) (Nat.le_of_ble_eq_true rfl) (s_signN (d + 6 * (8 - dep) + 5) 41) (fun v1 h1 p1 x1 => ?_)
            rw [p1.1, p1.2]
            try dsimp only [Option.toList, List.cons_append, List.nil_append, List.append]
            refine Rp.callV1 M_X12_must (ci := 12) dX12_readPlain_84 mo_X12_must lk_X12_216 (by decide) rfl rfl (S _ _ rfl) (Nat.le_of_ble_eq_true rfl) (Nat.le_of_ble_eq_true rfl) (s_must (d + 6 * (8 - dep) + 3) S R K g2 (nI lv1) _ (by decide)) (fun v1 h1 p1 x1 => ?_)
            rw [p1.1, p1.2]
            try dsimp only [Option.toList, List.cons_append, List.nil_append, List.append]
            refine Rp.goto (tgt := 133) dX12_readPlain_87 (by decide) ?_
            refine Rp.vreturn dX12_readPlain_133 rfl ?_
            refine ⟨rfl, ?_⟩
            by_cases hq : c i1 = 141
            · rw [if_pos hq, if_pos hq]; rfl
            · rw [if_neg hq, if_neg hq]; exact ⟨_, _, rfl⟩
      · rw [if_neg h140]
        have q1 := ih 7 d dep i lv a (by decide) hd hi hl (by show _ + 3 ≤ f; omega)
        have o1 := Prs_ok (ord := ord) (v := v) hc f 7 dep i lv a (by decide) hi hl
        refine Rp.aload_n dX12_readPlain_16 rfl rfl ?_
        refine Rp.callV0 M_X12_fine (ci := 12) dX12_readPlain_17 mo_X12_fine lk_X12_196 (by decide) rfl rfl (S _ _ rfl) (Nat.le_of_ble_eq_true rfl) (Nat.le_of_ble_eq_true rfl) (s_fine (d + 6 * (8 - dep) + 5) S R _ _) (fun v1 h1 p1 x1 => ?_)
        rw [p1.1, p1.2]
        try dsimp only [Option.toList, List.cons_append, List.nil_append, List.append]
        first | ((with_reducible show Rp _ _ _ _ (.int (b2i _) :: _) _ _); refine Rp.if_neB (tgt := 24) dX12_readPlain_20 (by decide) (fun c20 => ?_) (fun c20 => ?_)) | ((with_reducible show Rp _ _ _ _ (.int (nI _) :: _) _ _); refine Rp.if_neN (tgt := 24) dX12_readPlain_20 (by decide) (by omega) (fun c20 => ?_) (fun c20 => ?_)) | refine Rp.if_ne (tgt := 24) dX12_readPlain_20 (by decide) (fun c20 => ?_) (fun c20 => ?_)
        rotate_left
        · first | (exfalso; omega) | exact absurd c20 (by decide) | exact absurd (by decide) c20
        refine Rp.aload_n dX12_readPlain_24 rfl rfl ?_
        refine Rp.getR dX12_readPlain_25 fk_X12_50 rfl (S _ _ rfl) (R _ _ _ rfl) ?_
        refine Rp.aload_n dX12_readPlain_28 rfl rfl ?_
        refine Rp.getI dX12_readPlain_29 fk_X12_200 rfl (S _ _ rfl) ?_
        first | rw [rd_t] | rw [rd_c, e1] | skip
        first | ((with_reducible show Rp _ _ _ _ (.int (nI _) :: _) _ _); refine Rp.ialoadN dX12_readPlain_32 (S _ _ rfl) (by omega) ?_) | refine Rp.iaload dX12_readPlain_32 (S _ _ rfl) (by first | assumption | exact vpb (by decide)) ?_
        first | rw [rd_t] | rw [rd_c, e1] | skip
        refine Rp.ist3 dX12_readPlain_33 (by first | exact nl2_some rfl | exact nl2_none) (by decide) ?_
        refine Rp.iload_n dX12_readPlain_34 rfl ?_
        refine Rp.bipush (nI 40) dX12_readPlain_35 (by decide) ?_
        refine Rp.callS1 M_X12_sign dX12_readPlain_37 mo_X12_sign lk_X12_241 (Nat.le_of_ble_eq_true rfl) (Nat.le_of_ble_eq_true rfl) (s_signN (d + 6 * (8 - dep) + 5) 40) (fun v1 h1 p1 x1 => ?_)
        rw [p1.1, p1.2]
        try dsimp only [Option.toList, List.cons_append, List.nil_append, List.append]
        first | ((with_reducible show Rp _ _ _ _ (.int (nI _) :: .int (nI _) :: _) _ _); refine Rp.icmp_neN (tgt := 90) dX12_readPlain_40 (by decide) (by omega) (fun c40 => ?_) (fun c40 => ?_)) | refine Rp.icmp_ne (tgt := 90) dX12_readPlain_40 (by decide) (fun c40 => ?_) (fun c40 => ?_)
        rotate_left
        · first | (exfalso; omega) | exact absurd c40 (by decide) | exact absurd (by decide) c40
        refine Rp.aload_n dX12_readPlain_90 rfl rfl ?_
        refine Rp.iload_n dX12_readPlain_91 rfl ?_
        refine Rp.callV1 M_X12_readSum (ci := 12) dX12_readPlain_92 mo_X12_readSum lk_X12_212 (by decide) rfl rfl (S _ _ rfl) (Nat.le_of_ble_eq_true rfl) (Nat.le_of_ble_eq_true rfl) (q1) (fun v1 h1 p1 x1 => ?_)
        obtain ⟨rfl, p1⟩ := p1
        try dsimp only [Option.toList, List.cons_append, List.nil_append, List.append]
        skip
        generalize Prs ord c v f 7 dep i lv a = x at p1 o1 ⊢
        rcases rdQ_cases K o1 p1 with ⟨e, t, l, rfl, he, hb, rfl⟩ | ⟨i1, lv1, cd, D, rfl, g1, g2, g3, g4, rfl⟩
        · skip
          refine Rp.aload_n dX12_readPlain_95 rfl rfl ?_
          refine Rp.bipush (nI 60) dX12_readPlain_96 (by decide) ?_
          refine Rp.callS1 M_X12_sign dX12_readPlain_98 mo_X12_sign lk_X12_241 (Nat.le_of_ble_eq_true rfl) (Nat.le_of_ble_eq_true rfl) (s_signN (d + 6 * (8 - dep) + 5) 60) (fun v1 h1 p1 x1 => ?_)
          rw [p1.1, p1.2]
          try dsimp only [Option.toList, List.cons_append, List.nil_append, List.append]
          refine Rp.callV1 M_X12_takes0 (ci := 12) dX12_readPlain_101 mo_X12_takes0 lk_X12_203 (by decide) rfl rfl (S _ _ rfl) (Nat.le_of_ble_eq_true rfl) (Nat.le_of_ble_eq_true rfl) (s_takesF (d + 6 * (8 - dep) + 4) S R _ t l _ hb) (fun v1 h1 p1 x1 => ?_)
          rw [p1.1, p1.2]
          try dsimp only [Option.toList, List.cons_append, List.nil_append, List.append]
          first | ((with_reducible show Rp _ _ _ _ (.int (b2i _) :: _) _ _); refine Rp.if_neB (tgt := 128) dX12_readPlain_104 (by decide) (fun c104 => ?_) (fun c104 => ?_)) | ((with_reducible show Rp _ _ _ _ (.int (nI _) :: _) _ _); refine Rp.if_neN (tgt := 128) dX12_readPlain_104 (by decide) (by omega) (fun c104 => ?_) (fun c104 => ?_)) | refine Rp.if_ne (tgt := 128) dX12_readPlain_104 (by decide) (fun c104 => ?_) (fun c104 => ?_)
          · skip
            first | (exfalso; omega) | exact absurd c104 (by decide) | exact absurd (by decide) c104
          · skip
            refine Rp.aload_n dX12_readPlain_107 rfl rfl ?_
            refine Rp.bipush (nI 62) dX12_readPlain_108 (by decide) ?_
            refine Rp.callS1 M_X12_sign dX12_readPlain_110 mo_X12_sign lk_X12_241 (Nat.le_of_ble_eq_true rfl) (Nat.le_of_ble_eq_true rfl) (s_signN (d + 6 * (8 - dep) + 5) 62) (fun v1 h1 p1 x1 => ?_)
            rw [p1.1, p1.2]
            try dsimp only [Option.toList, List.cons_append, List.nil_append, List.append]
            refine Rp.callV1 M_X12_takes0 (ci := 12) dX12_readPlain_113 mo_X12_takes0 lk_X12_203 (by decide) rfl rfl (S _ _ rfl) (Nat.le_of_ble_eq_true rfl) (Nat.le_of_ble_eq_true rfl) (s_takesF (d + 6 * (8 - dep) + 4) S R _ t l _ hb) (fun v1 h1 p1 x1 => ?_)
            rw [p1.1, p1.2]
            try dsimp only [Option.toList, List.cons_append, List.nil_append, List.append]
            first | ((with_reducible show Rp _ _ _ _ (.int (b2i _) :: _) _ _); refine Rp.if_neB (tgt := 128) dX12_readPlain_116 (by decide) (fun c116 => ?_) (fun c116 => ?_)) | ((with_reducible show Rp _ _ _ _ (.int (nI _) :: _) _ _); refine Rp.if_neN (tgt := 128) dX12_readPlain_116 (by decide) (by omega) (fun c116 => ?_) (fun c116 => ?_)) | refine Rp.if_ne (tgt := 128) dX12_readPlain_116 (by decide) (fun c116 => ?_) (fun c116 => ?_)
            · skip
              first | (exfalso; omega) | exact absurd c116 (by decide) | exact absurd (by decide) c116
            · skip
              refine Rp.aload_n dX12_readPlain_119 rfl rfl ?_
              refine Rp.bipush (nI 61) dX12_readPlain_120 (by decide) ?_
              refine Rp.callS1 M_X12_sign dX12_readPlain_122 mo_X12_sign lk_X12_241 (Nat.le_of_ble_eq_true rfl) (Nat.le_of_ble_eq_true rfl) (s_signN (d + 6 * (8 - dep) + 5) 61) (fun v1 h1 p1 x1 => ?_)
              rw [p1.1, p1.2]
              try dsimp only [Option.toList, List.cons_append, List.nil_append, List.append]
              refine Rp.callV1 M_X12_must (ci := 12) dX12_readPlain_125 mo_X12_must lk_X12_216 (by decide) rfl rfl (S _ _ rfl) (Nat.le_of_ble_eq_true rfl) (Nat.le_of_ble_eq_true rfl) (s_mustF (d + 6 * (8 - dep) + 3) S R _ t l _ hb) (fun v1 h1 p1 x1 => ?_)
              rw [p1.1, p1.2]
              try dsimp only [Option.toList, List.cons_append, List.nil_append, List.append]
              refine Rp.aload_n dX12_readPlain_128 rfl rfl ?_
              refine Rp.iload_n dX12_readPlain_129 rfl ?_
              refine Rp.callV1 M_X12_readSum (ci := 12) dX12_readPlain_130 mo_X12_readSum lk_X12_212 (by decide) rfl rfl (S _ _ rfl) (Nat.le_of_ble_eq_true rfl) (Nat.le_of_ble_eq_true rfl) (bad_sum (d + 6 * (8 - dep)) S R _ t l _ hb) (fun v1 h1 p1 x1 => ?_)
              rw [p1.1, p1.2]
              try dsimp only [Option.toList, List.cons_append, List.nil_append, List.append]
              refine Rp.vreturn dX12_readPlain_133 rfl ?_
              exact ⟨rfl, t, l, rfl⟩
        · have fin : ∀ (hq : cOp (c i1) ≠ 0), Rp (d + 6 * (8 - dep) + 6) M_X12_readPlain 128 [some (.ref aM), some (.int (nI dep)), some (.int (nI 0)), some (.int (nI (c i)))] [] (rdH h (nI (i1 + 1)) (nI lv1) (-1)) (fun r h' => r = none ∧ rdQ h (cmpL c (.ok (i1, lv1, cd, D)) a (Prs ord c v f 7 dep)) h') := by
            intro hq
            have hi1 := lt_of_code hc g2 (fun z => by rw [z] at hq; exact hq rfl)
            have := g3 rfl
            have q1 := ih 7 d dep (i1 + 1) lv1 (a + cd.length) (by decide) hd hi1 g4 (by show _ + 3 ≤ f; omega)
            unfold cmpL
            dsimp only
            rw [if_neg hq]
            refine Rp.aload_n dX12_readPlain_128 rfl rfl ?_
            refine Rp.iload_n dX12_readPlain_129 rfl ?_
            refine Rp.callV1 M_X12_readSum (ci := 12) dX12_readPlain_130 mo_X12_readSum lk_X12_212 (by decide) rfl rfl (S _ _ rfl) (Nat.le_of_ble_eq_true rfl) (Nat.le_of_ble_eq_true rfl) (q1) (fun v1 h1 p1 x1 => ?_)
            obtain ⟨rfl, p1⟩ := p1
            try dsimp only [Option.toList, List.cons_append, List.nil_append, List.append]
            refine Rp.vreturn dX12_readPlain_133 rfl ?_
            refine ⟨rfl, ?_⟩
            match Prs ord c v f 7 dep (i1 + 1) lv1 (a + cd.length), p1 with
            | .error e, p1 => exact p1
            | .ok (i2, lv2, cd2, D2), p1 => exact p1
          refine Rp.aload_n dX12_readPlain_95 rfl rfl ?_
          refine Rp.bipush (nI 60) dX12_readPlain_96 (by decide) ?_
          refine Rp.callS1 M_X12_sign dX12_readPlain_98 mo_X12_sign lk_X12_241 (Nat.le_of_ble_eq_true rfl) (Nat.le_of_ble_eq_true rfl) (s_signN (d + 6 * (8 - dep) + 5) 60) (fun v1 h1 p1 x1 => ?_)
          rw [p1.1, p1.2]
          try dsimp only [Option.toList, List.cons_append, List.nil_append, List.append]
          refine Rp.callV1 M_X12_takes0 (ci := 12) dX12_readPlain_101 mo_X12_takes0 lk_X12_203 (by decide) rfl rfl (S _ _ rfl) (Nat.le_of_ble_eq_true rfl) (Nat.le_of_ble_eq_true rfl) (s_takes (d + 6 * (8 - dep) + 4) S R K g2 (nI lv1) _ (by decide)) (fun v1 h1 p1 x1 => ?_)
          skip
          try dsimp only [Option.toList, List.cons_append, List.nil_append, List.append]
          skip
          rcases p1 with ⟨e, rfl, rfl⟩ | ⟨ea, rfl, rfl⟩
          · dsimp only [Option.toList, List.cons_append, List.nil_append, List.append]
            first | ((with_reducible show Rp _ _ _ _ (.int (b2i _) :: _) _ _); refine Rp.if_neB (tgt := 128) dX12_readPlain_104 (by decide) (fun c104 => ?_) (fun c104 => ?_)) | ((with_reducible show Rp _ _ _ _ (.int (nI _) :: _) _ _); refine Rp.if_neN (tgt := 128) dX12_readPlain_104 (by decide) (by omega) (fun c104 => ?_) (fun c104 => ?_)) | refine Rp.if_ne (tgt := 128) dX12_readPlain_104 (by decide) (fun c104 => ?_) (fun c104 => ?_)
            · skip
              exact fin (by rw [e]; decide)
            · skip
              first | (exfalso; omega) | exact absurd c104 (by decide) | exact absurd (by decide) c104
          · dsimp only [Option.toList, List.cons_append, List.nil_append, List.append]
            first | ((with_reducible show Rp _ _ _ _ (.int (b2i _) :: _) _ _); refine Rp.if_neB (tgt := 128) dX12_readPlain_104 (by decide) (fun c104 => ?_) (fun c104 => ?_)) | ((with_reducible show Rp _ _ _ _ (.int (nI _) :: _) _ _); refine Rp.if_neN (tgt := 128) dX12_readPlain_104 (by decide) (by omega) (fun c104 => ?_) (fun c104 => ?_)) | refine Rp.if_ne (tgt := 128) dX12_readPlain_104 (by decide) (fun c104 => ?_) (fun c104 => ?_)
            · first | (exfalso; omega) | exact absurd c104 (by decide) | exact absurd (by decide) c104
            refine Rp.aload_n dX12_readPlain_107 rfl rfl ?_
            refine Rp.bipush (nI 62) dX12_readPlain_108 (by decide) ?_
            refine Rp.callS1 M_X12_sign dX12_readPlain_110 mo_X12_sign lk_X12_241 (Nat.le_of_ble_eq_true rfl) (Nat.le_of_ble_eq_true rfl) (s_signN (d + 6 * (8 - dep) + 5) 62) (fun v1 h1 p1 x1 => ?_)
            rw [p1.1, p1.2]
            try dsimp only [Option.toList, List.cons_append, List.nil_append, List.append]
            refine Rp.callV1 M_X12_takes0 (ci := 12) dX12_readPlain_113 mo_X12_takes0 lk_X12_203 (by decide) rfl rfl (S _ _ rfl) (Nat.le_of_ble_eq_true rfl) (Nat.le_of_ble_eq_true rfl) (s_takes (d + 6 * (8 - dep) + 4) S R K g2 (nI lv1) _ (by decide)) (fun v1 h1 p1 x1 => ?_)
            skip
            try dsimp only [Option.toList, List.cons_append, List.nil_append, List.append]
            skip
            rcases p1 with ⟨e, rfl, rfl⟩ | ⟨eb, rfl, rfl⟩
            · dsimp only [Option.toList, List.cons_append, List.nil_append, List.append]
              first | ((with_reducible show Rp _ _ _ _ (.int (b2i _) :: _) _ _); refine Rp.if_neB (tgt := 128) dX12_readPlain_116 (by decide) (fun c116 => ?_) (fun c116 => ?_)) | ((with_reducible show Rp _ _ _ _ (.int (nI _) :: _) _ _); refine Rp.if_neN (tgt := 128) dX12_readPlain_116 (by decide) (by omega) (fun c116 => ?_) (fun c116 => ?_)) | refine Rp.if_ne (tgt := 128) dX12_readPlain_116 (by decide) (fun c116 => ?_) (fun c116 => ?_)
              · skip
                exact fin (by rw [e]; decide)
              · skip
                first | (exfalso; omega) | exact absurd c116 (by decide) | exact absurd (by decide) c116
            · dsimp only [Option.toList, List.cons_append, List.nil_append, List.append]
              first | ((with_reducible show Rp _ _ _ _ (.int (b2i _) :: _) _ _); refine Rp.if_neB (tgt := 128) dX12_readPlain_116 (by decide) (fun c116 => ?_) (fun c116 => ?_)) | ((with_reducible show Rp _ _ _ _ (.int (nI _) :: _) _ _); refine Rp.if_neN (tgt := 128) dX12_readPlain_116 (by decide) (by omega) (fun c116 => ?_) (fun c116 => ?_)) | refine Rp.if_ne (tgt := 128) dX12_readPlain_116 (by decide) (fun c116 => ?_) (fun c116 => ?_)
              · first | (exfalso; omega) | exact absurd c116 (by decide) | exact absurd (by decide) c116
              refine Rp.aload_n dX12_readPlain_119 rfl rfl ?_
              refine Rp.bipush (nI 61) dX12_readPlain_120 (by decide) ?_
              refine Rp.callS1 M_X12_sign dX12_readPlain_122 mo_X12_sign lk_X12_241 (Nat.le_of_ble_eq_true rfl) (Nat.le_of_ble_eq_true rfl) (s_signN (d + 6 * (8 - dep) + 5) 61) (fun v1 h1 p1 x1 => ?_)
              rw [p1.1, p1.2]
              try dsimp only [Option.toList, List.cons_append, List.nil_append, List.append]
              refine Rp.callV1 M_X12_must (ci := 12) dX12_readPlain_125 mo_X12_must lk_X12_216 (by decide) rfl rfl (S _ _ rfl) (Nat.le_of_ble_eq_true rfl) (Nat.le_of_ble_eq_true rfl) (s_must (d + 6 * (8 - dep) + 3) S R K g2 (nI lv1) _ (by decide)) (fun v1 h1 p1 x1 => ?_)
              obtain ⟨rfl, p1⟩ := p1
              try dsimp only [Option.toList, List.cons_append, List.nil_append, List.append]
              skip
              by_cases ec : c i1 = 161
              · rw [if_pos ec] at p1
                subst p1
                exact fin (by rw [ec]; decide)
              · rw [if_neg ec] at p1
                subst p1
                have hz : cOp (c i1) = 0 := by unfold cOp; rw [if_neg ea, if_neg eb, if_neg ec]
                unfold cmpL
                dsimp only
                rw [if_pos hz]
                refine Rp.aload_n dX12_readPlain_128 rfl rfl ?_
                refine Rp.iload_n dX12_readPlain_129 rfl ?_
                refine Rp.callV1 M_X12_readSum (ci := 12) dX12_readPlain_130 mo_X12_readSum lk_X12_212 (by decide) rfl rfl (S _ _ rfl) (Nat.le_of_ble_eq_true rfl) (Nat.le_of_ble_eq_true rfl) (bad_sum (d + 6 * (8 - dep)) S R _ _ _ _ (K.pl g2)) (fun v1 h1 p1 x1 => ?_)
                rw [p1.1, p1.2]
                try dsimp only [Option.toList, List.cons_append, List.nil_append, List.append]
                refine Rp.vreturn dX12_readPlain_133 rfl ?_
                exact ⟨rfl, _, _, rfl⟩
    | 8, _, hf =>
      have hf : 12 * (T - i) + 8 ≤ f + 1 := hf
      show Rp (d + 6 * (8 - dep) + 5) M_X12_readSum 5 [some (.ref aM), some (.int (nI dep))] [] (rdH h (nI i) (nI lv) (-1)) (fun r h' => r = none ∧ rdQ h (if sOp (c i) = 0 then .ok (i, lv, [], fun _ x => some x) else opL (sOp (c i)) (Prs ord c v f 9 dep (i + 1) lv a) a (Prs ord c v f 8 dep)) h')
      have fin : ∀ (hq : sOp (c i) ≠ 0), Rp (d + 6 * (8 - dep) + 5) M_X12_readSum 29 [some (.ref aM), some (.int (nI dep))] [] (rdH h (nI (i + 1)) (nI lv) (-1)) (fun r h' => r = none ∧ rdQ h (if sOp (c i) = 0 then .ok (i, lv, [], fun _ x => some x) else opL (sOp (c i)) (Prs ord c v f 9 dep (i + 1) lv a) a (Prs ord c v f 8 dep)) h') := by
        intro hq
        rw [if_neg hq]
        have hi1 := lt_of_code hc hi (fun z => by rw [z] at hq; exact hq rfl)
        have q1 := ih 9 d dep (i + 1) lv a (by decide) hd hi1 hl (by show _ + 2 ≤ f; omega)
        have o1 := Prs_ok (ord := ord) (v := v) hc f 9 dep (i + 1) lv a (by decide) hi1 hl
        refine Rp.aload_n dX12_readSum_29 rfl rfl ?_
        refine Rp.iload_n dX12_readSum_30 rfl ?_
        refine Rp.callV1 M_X12_readTerm (ci := 12) dX12_readSum_31 mo_X12_readTerm lk_X12_245 (by decide) rfl rfl (S _ _ rfl) (Nat.le_of_ble_eq_true rfl) (Nat.le_of_ble_eq_true rfl) (q1) (fun v1 h1 p1 x1 => ?_)
        obtain ⟨rfl, p1⟩ := p1
        try dsimp only [Option.toList, List.cons_append, List.nil_append, List.append]
        refine Rp.goto (tgt := 5) dX12_readSum_34 (by decide) ?_
        skip
        generalize Prs ord c v f 9 dep (i + 1) lv a = x at p1 o1 ⊢
        rcases rdQ_cases K o1 p1 with ⟨e, t, l, rfl, he, hb, rfl⟩ | ⟨i1, lv1, cd, D, rfl, g1, g2, g3, g4, rfl⟩
        · exact Rp.mono (fun r h' p => ⟨p.2, t, l, p.1⟩) (bad_sum5 (d + 6 * (8 - dep)) S R (nI dep) t l _ hb)
        · have := g3 rfl
          exact Rp.mono (fun r h' p => ⟨p.1, rdQ_op p.2⟩) (ih 8 d dep i1 lv1 (a + cd.length + 1) (by decide) hd g2 g4 (by show _ + 8 ≤ f; omega))
      refine Rp.aload_n dX12_readSum_5 rfl rfl ?_
      refine Rp.bipush (nI 43) dX12_readSum_6 (by decide) ?_
      refine Rp.callS1 M_X12_sign dX12_readSum_8 mo_X12_sign lk_X12_241 (Nat.le_of_ble_eq_true rfl) (Nat.le_of_ble_eq_true rfl) (s_signN (d + 6 * (8 - dep) + 4) 43) (fun v1 h1 p1 x1 => ?_)
      rw [p1.1, p1.2]
      try dsimp only [Option.toList, List.cons_append, List.nil_append, List.append]
      refine Rp.callV1 M_X12_takes0 (ci := 12) dX12_readSum_11 mo_X12_takes0 lk_X12_203 (by decide) rfl rfl (S _ _ rfl) (Nat.le_of_ble_eq_true rfl) (Nat.le_of_ble_eq_true rfl) (s_takes (d + 6 * (8 - dep) + 3) S R K hi (nI lv) _ (by decide)) (fun v1 h1 p1 x1 => ?_)
      skip
      try dsimp only [Option.toList, List.cons_append, List.nil_append, List.append]
      skip
      rcases p1 with ⟨e0, rfl, rfl⟩ | ⟨e0, rfl, rfl⟩
      · dsimp only [Option.toList, List.cons_append, List.nil_append, List.append]
        first | ((with_reducible show Rp _ _ _ _ (.int (b2i _) :: _) _ _); refine Rp.if_neB (tgt := 29) dX12_readSum_14 (by decide) (fun c14 => ?_) (fun c14 => ?_)) | ((with_reducible show Rp _ _ _ _ (.int (nI _) :: _) _ _); refine Rp.if_neN (tgt := 29) dX12_readSum_14 (by decide) (by omega) (fun c14 => ?_) (fun c14 => ?_)) | refine Rp.if_ne (tgt := 29) dX12_readSum_14 (by decide) (fun c14 => ?_) (fun c14 => ?_)
        · skip
          exact fin (by rw [e0]; decide)
        · skip
          first | (exfalso; omega) | exact absurd c14 (by decide) | exact absurd (by decide) c14
      · dsimp only [Option.toList, List.cons_append, List.nil_append, List.append]
        first | ((with_reducible show Rp _ _ _ _ (.int (b2i _) :: _) _ _); refine Rp.if_neB (tgt := 29) dX12_readSum_14 (by decide) (fun c14 => ?_) (fun c14 => ?_)) | ((with_reducible show Rp _ _ _ _ (.int (nI _) :: _) _ _); refine Rp.if_neN (tgt := 29) dX12_readSum_14 (by decide) (by omega) (fun c14 => ?_) (fun c14 => ?_)) | refine Rp.if_ne (tgt := 29) dX12_readSum_14 (by decide) (fun c14 => ?_) (fun c14 => ?_)
        · first | (exfalso; omega) | exact absurd c14 (by decide) | exact absurd (by decide) c14
        refine Rp.aload_n dX12_readSum_17 rfl rfl ?_
        refine Rp.bipush (nI 45) dX12_readSum_18 (by decide) ?_
        refine Rp.callS1 M_X12_sign dX12_readSum_20 mo_X12_sign lk_X12_241 (Nat.le_of_ble_eq_true rfl) (Nat.le_of_ble_eq_true rfl) (s_signN (d + 6 * (8 - dep) + 4) 45) (fun v1 h1 p1 x1 => ?_)
        rw [p1.1, p1.2]
        try dsimp only [Option.toList, List.cons_append, List.nil_append, List.append]
        refine Rp.callV1 M_X12_takes0 (ci := 12) dX12_readSum_23 mo_X12_takes0 lk_X12_203 (by decide) rfl rfl (S _ _ rfl) (Nat.le_of_ble_eq_true rfl) (Nat.le_of_ble_eq_true rfl) (s_takes (d + 6 * (8 - dep) + 3) S R K hi (nI lv) _ (by decide)) (fun v1 h1 p1 x1 => ?_)
        skip
        try dsimp only [Option.toList, List.cons_append, List.nil_append, List.append]
        skip
        rcases p1 with ⟨e1, rfl, rfl⟩ | ⟨e1, rfl, rfl⟩
        · dsimp only [Option.toList, List.cons_append, List.nil_append, List.append]
          first | ((with_reducible show Rp _ _ _ _ (.int (b2i _) :: _) _ _); refine Rp.if_eqB (tgt := 37) dX12_readSum_26 (by decide) (fun c26 => ?_) (fun c26 => ?_)) | ((with_reducible show Rp _ _ _ _ (.int (nI _) :: _) _ _); refine Rp.if_eqN (tgt := 37) dX12_readSum_26 (by decide) (by omega) (fun c26 => ?_) (fun c26 => ?_)) | refine Rp.if_eq (tgt := 37) dX12_readSum_26 (by decide) (fun c26 => ?_) (fun c26 => ?_)
          · skip
            first | (exfalso; omega) | exact absurd c26 (by decide) | exact absurd (by decide) c26
          · skip
            exact fin (by rw [e1]; decide)
        · dsimp only [Option.toList, List.cons_append, List.nil_append, List.append]
          have hz : sOp (c i) = 0 := by unfold sOp; rw [if_neg e0, if_neg e1]
          rw [if_pos hz]
          first | ((with_reducible show Rp _ _ _ _ (.int (b2i _) :: _) _ _); refine Rp.if_eqB (tgt := 37) dX12_readSum_26 (by decide) (fun c26 => ?_) (fun c26 => ?_)) | ((with_reducible show Rp _ _ _ _ (.int (nI _) :: _) _ _); refine Rp.if_eqN (tgt := 37) dX12_readSum_26 (by decide) (by omega) (fun c26 => ?_) (fun c26 => ?_)) | refine Rp.if_eq (tgt := 37) dX12_readSum_26 (by decide) (fun c26 => ?_) (fun c26 => ?_)
          · skip
            refine Rp.vreturn dX12_readSum_37 rfl ?_
            exact ⟨rfl, rfl⟩
          · skip
            first | (exfalso; omega) | exact absurd c26 (by decide) | exact absurd (by decide) c26
    | 10, _, hf =>
      have hf : 12 * (T - i) + 8 ≤ f + 1 := hf
      show Rp (d + 6 * (8 - dep) + 4) M_X12_readTerm 5 [some (.ref aM), some (.int (nI dep))] [] (rdH h (nI i) (nI lv) (-1)) (fun r h' => r = none ∧ rdQ h (if tOp (c i) = 0 then .ok (i, lv, [], fun _ x => some x) else opL (tOp (c i)) (Prs ord c v f 11 dep (i + 1) lv a) a (Prs ord c v f 10 dep)) h')
      have fin : ∀ (hq : tOp (c i) ≠ 0), Rp (d + 6 * (8 - dep) + 4) M_X12_readTerm 41 [some (.ref aM), some (.int (nI dep))] [] (rdH h (nI (i + 1)) (nI lv) (-1)) (fun r h' => r = none ∧ rdQ h (if tOp (c i) = 0 then .ok (i, lv, [], fun _ x => some x) else opL (tOp (c i)) (Prs ord c v f 11 dep (i + 1) lv a) a (Prs ord c v f 10 dep)) h') := by
        intro hq
        rw [if_neg hq]
        have hi1 := lt_of_code hc hi (fun z => by rw [z] at hq; exact hq rfl)
        have q1 := ih 11 d dep (i + 1) lv a (by decide) hd hi1 hl (by show _ + 1 ≤ f; omega)
        have o1 := Prs_ok (ord := ord) (v := v) hc f 11 dep (i + 1) lv a (by decide) hi1 hl
        refine Rp.aload_n dX12_readTerm_41 rfl rfl ?_
        refine Rp.iload_n dX12_readTerm_42 rfl ?_
        refine Rp.callV1 M_X12_readPart (ci := 12) dX12_readTerm_43 mo_X12_readPart lk_X12_248 (by decide) rfl rfl (S _ _ rfl) (Nat.le_of_ble_eq_true rfl) (Nat.le_of_ble_eq_true rfl) (q1) (fun v1 h1 p1 x1 => ?_)
        obtain ⟨rfl, p1⟩ := p1
        try dsimp only [Option.toList, List.cons_append, List.nil_append, List.append]
        refine Rp.goto (tgt := 5) dX12_readTerm_46 (by decide) ?_
        skip
        generalize Prs ord c v f 11 dep (i + 1) lv a = x at p1 o1 ⊢
        rcases rdQ_cases K o1 p1 with ⟨e, t, l, rfl, he, hb, rfl⟩ | ⟨i1, lv1, cd, D, rfl, g1, g2, g3, g4, rfl⟩
        · exact Rp.mono (fun r h' p => ⟨p.2, t, l, p.1⟩) (bad_term5 (d + 6 * (8 - dep)) S R (nI dep) t l _ hb)
        · have := g3 rfl
          exact Rp.mono (fun r h' p => ⟨p.1, rdQ_op p.2⟩) (ih 10 d dep i1 lv1 (a + cd.length + 1) (by decide) hd g2 g4 (by show _ + 8 ≤ f; omega))
      refine Rp.aload_n dX12_readTerm_5 rfl rfl ?_
      refine Rp.bipush (nI 42) dX12_readTerm_6 (by decide) ?_
      refine Rp.callS1 M_X12_sign dX12_readTerm_8 mo_X12_sign lk_X12_241 (Nat.le_of_ble_eq_true rfl) (Nat.le_of_ble_eq_true rfl) (s_signN (d + 6 * (8 - dep) + 3) 42) (fun v1 h1 p1 x1 => ?_)
      rw [p1.1, p1.2]
      try dsimp only [Option.toList, List.cons_append, List.nil_append, List.append]
      refine Rp.callV1 M_X12_takes0 (ci := 12) dX12_readTerm_11 mo_X12_takes0 lk_X12_203 (by decide) rfl rfl (S _ _ rfl) (Nat.le_of_ble_eq_true rfl) (Nat.le_of_ble_eq_true rfl) (s_takes (d + 6 * (8 - dep) + 2) S R K hi (nI lv) _ (by decide)) (fun v1 h1 p1 x1 => ?_)
      skip
      try dsimp only [Option.toList, List.cons_append, List.nil_append, List.append]
      skip
      rcases p1 with ⟨e0, rfl, rfl⟩ | ⟨e0, rfl, rfl⟩
      · dsimp only [Option.toList, List.cons_append, List.nil_append, List.append]
        first | ((with_reducible show Rp _ _ _ _ (.int (b2i _) :: _) _ _); refine Rp.if_neB (tgt := 41) dX12_readTerm_14 (by decide) (fun c14 => ?_) (fun c14 => ?_)) | ((with_reducible show Rp _ _ _ _ (.int (nI _) :: _) _ _); refine Rp.if_neN (tgt := 41) dX12_readTerm_14 (by decide) (by omega) (fun c14 => ?_) (fun c14 => ?_)) | refine Rp.if_ne (tgt := 41) dX12_readTerm_14 (by decide) (fun c14 => ?_) (fun c14 => ?_)
        · skip
          exact fin (by rw [e0]; decide)
        · skip
          first | (exfalso; omega) | exact absurd c14 (by decide) | exact absurd (by decide) c14
      · dsimp only [Option.toList, List.cons_append, List.nil_append, List.append]
        first | ((with_reducible show Rp _ _ _ _ (.int (b2i _) :: _) _ _); refine Rp.if_neB (tgt := 41) dX12_readTerm_14 (by decide) (fun c14 => ?_) (fun c14 => ?_)) | ((with_reducible show Rp _ _ _ _ (.int (nI _) :: _) _ _); refine Rp.if_neN (tgt := 41) dX12_readTerm_14 (by decide) (by omega) (fun c14 => ?_) (fun c14 => ?_)) | refine Rp.if_ne (tgt := 41) dX12_readTerm_14 (by decide) (fun c14 => ?_) (fun c14 => ?_)
        · first | (exfalso; omega) | exact absurd c14 (by decide) | exact absurd (by decide) c14
        refine Rp.aload_n dX12_readTerm_17 rfl rfl ?_
        refine Rp.bipush (nI 47) dX12_readTerm_18 (by decide) ?_
        refine Rp.callS1 M_X12_sign dX12_readTerm_20 mo_X12_sign lk_X12_241 (Nat.le_of_ble_eq_true rfl) (Nat.le_of_ble_eq_true rfl) (s_signN (d + 6 * (8 - dep) + 3) 47) (fun v1 h1 p1 x1 => ?_)
        rw [p1.1, p1.2]
        try dsimp only [Option.toList, List.cons_append, List.nil_append, List.append]
        refine Rp.callV1 M_X12_takes0 (ci := 12) dX12_readTerm_23 mo_X12_takes0 lk_X12_203 (by decide) rfl rfl (S _ _ rfl) (Nat.le_of_ble_eq_true rfl) (Nat.le_of_ble_eq_true rfl) (s_takes (d + 6 * (8 - dep) + 2) S R K hi (nI lv) _ (by decide)) (fun v1 h1 p1 x1 => ?_)
        skip
        try dsimp only [Option.toList, List.cons_append, List.nil_append, List.append]
        skip
        rcases p1 with ⟨e1, rfl, rfl⟩ | ⟨e1, rfl, rfl⟩
        · dsimp only [Option.toList, List.cons_append, List.nil_append, List.append]
          first | ((with_reducible show Rp _ _ _ _ (.int (b2i _) :: _) _ _); refine Rp.if_neB (tgt := 41) dX12_readTerm_26 (by decide) (fun c26 => ?_) (fun c26 => ?_)) | ((with_reducible show Rp _ _ _ _ (.int (nI _) :: _) _ _); refine Rp.if_neN (tgt := 41) dX12_readTerm_26 (by decide) (by omega) (fun c26 => ?_) (fun c26 => ?_)) | refine Rp.if_ne (tgt := 41) dX12_readTerm_26 (by decide) (fun c26 => ?_) (fun c26 => ?_)
          · skip
            exact fin (by rw [e1]; decide)
          · skip
            first | (exfalso; omega) | exact absurd c26 (by decide) | exact absurd (by decide) c26
        · dsimp only [Option.toList, List.cons_append, List.nil_append, List.append]
          first | ((with_reducible show Rp _ _ _ _ (.int (b2i _) :: _) _ _); refine Rp.if_neB (tgt := 41) dX12_readTerm_26 (by decide) (fun c26 => ?_) (fun c26 => ?_)) | ((with_reducible show Rp _ _ _ _ (.int (nI _) :: _) _ _); refine Rp.if_neN (tgt := 41) dX12_readTerm_26 (by decide) (by omega) (fun c26 => ?_) (fun c26 => ?_)) | refine Rp.if_ne (tgt := 41) dX12_readTerm_26 (by decide) (fun c26 => ?_) (fun c26 => ?_)
          · first | (exfalso; omega) | exact absurd c26 (by decide) | exact absurd (by decide) c26
          refine Rp.aload_n dX12_readTerm_29 rfl rfl ?_
          refine Rp.bipush (nI 37) dX12_readTerm_30 (by decide) ?_
          refine Rp.callS1 M_X12_sign dX12_readTerm_32 mo_X12_sign lk_X12_241 (Nat.le_of_ble_eq_true rfl) (Nat.le_of_ble_eq_true rfl) (s_signN (d + 6 * (8 - dep) + 3) 37) (fun v1 h1 p1 x1 => ?_)
          rw [p1.1, p1.2]
          try dsimp only [Option.toList, List.cons_append, List.nil_append, List.append]
          refine Rp.callV1 M_X12_takes0 (ci := 12) dX12_readTerm_35 mo_X12_takes0 lk_X12_203 (by decide) rfl rfl (S _ _ rfl) (Nat.le_of_ble_eq_true rfl) (Nat.le_of_ble_eq_true rfl) (s_takes (d + 6 * (8 - dep) + 2) S R K hi (nI lv) _ (by decide)) (fun v1 h1 p1 x1 => ?_)
          skip
          try dsimp only [Option.toList, List.cons_append, List.nil_append, List.append]
          skip
          rcases p1 with ⟨e2, rfl, rfl⟩ | ⟨e2, rfl, rfl⟩
          · dsimp only [Option.toList, List.cons_append, List.nil_append, List.append]
            first | ((with_reducible show Rp _ _ _ _ (.int (b2i _) :: _) _ _); refine Rp.if_eqB (tgt := 49) dX12_readTerm_38 (by decide) (fun c38 => ?_) (fun c38 => ?_)) | ((with_reducible show Rp _ _ _ _ (.int (nI _) :: _) _ _); refine Rp.if_eqN (tgt := 49) dX12_readTerm_38 (by decide) (by omega) (fun c38 => ?_) (fun c38 => ?_)) | refine Rp.if_eq (tgt := 49) dX12_readTerm_38 (by decide) (fun c38 => ?_) (fun c38 => ?_)
            · skip
              first | (exfalso; omega) | exact absurd c38 (by decide) | exact absurd (by decide) c38
            · skip
              exact fin (by rw [e2]; decide)
          · dsimp only [Option.toList, List.cons_append, List.nil_append, List.append]
            have hz : tOp (c i) = 0 := by unfold tOp; rw [if_neg e0, if_neg e1, if_neg e2]
            rw [if_pos hz]
            first | ((with_reducible show Rp _ _ _ _ (.int (b2i _) :: _) _ _); refine Rp.if_eqB (tgt := 49) dX12_readTerm_38 (by decide) (fun c38 => ?_) (fun c38 => ?_)) | ((with_reducible show Rp _ _ _ _ (.int (nI _) :: _) _ _); refine Rp.if_eqN (tgt := 49) dX12_readTerm_38 (by decide) (by omega) (fun c38 => ?_) (fun c38 => ?_)) | refine Rp.if_eq (tgt := 49) dX12_readTerm_38 (by decide) (fun c38 => ?_) (fun c38 => ?_)
            · skip
              refine Rp.vreturn dX12_readTerm_49 rfl ?_
              exact ⟨rfl, rfl⟩
            · skip
              first | (exfalso; omega) | exact absurd c38 (by decide) | exact absurd (by decide) c38
    | 11, _, hf =>
      have hf : 12 * (T - i) + 1 ≤ f + 1 := hf
      obtain ⟨e1, e3, e2, e4, -⟩ := K.2.2.1 i hi
      have eo := K.2.2.2.1
      have ef := K.2.2.2.2.1
      have el := K.2.2.2.2.2
      show Rp (d + 6 * (8 - dep) + 3) M_X12_readPart 0 [some (.ref aM), some (.int (nI dep)), none] [] (rdH h (nI i) (nI lv) (-1)) (fun r h' => r = none ∧ rdQ h (if c i = 191 then (if dep = 8 then .error i else cloL c 193 (Prs ord c v f 7 (dep + 1) (i + 1) lv a)) else prtL ord c v i lv) h')
      by_cases h191 : c i = 191
      · rw [if_pos h191]
        have hi1 := lt_of_code hc hi (by rw [h191]; decide)
        by_cases h8 : dep = 8
        · rw [if_pos h8]
          refine Rp.aload_n dX12_readPart_0 rfl rfl ?_
          refine Rp.callV0 M_X12_fine (ci := 12) dX12_readPart_1 mo_X12_fine lk_X12_196 (by decide) rfl rfl (S _ _ rfl) (Nat.le_of_ble_eq_true rfl) (Nat.le_of_ble_eq_true rfl) (s_fine (d + 6 * (8 - dep) + 2) S R _ _) (fun v1 h1 p1 x1 => ?_)
          rw [p1.1, p1.2]
          try dsimp only [Option.toList, List.cons_append, List.nil_append, List.append]
          first | ((with_reducible show Rp _ _ _ _ (.int (b2i _) :: _) _ _); refine Rp.if_neB (tgt := 8) dX12_readPart_4 (by decide) (fun c4 => ?_) (fun c4 => ?_)) | ((with_reducible show Rp _ _ _ _ (.int (nI _) :: _) _ _); refine Rp.if_neN (tgt := 8) dX12_readPart_4 (by decide) (by omega) (fun c4 => ?_) (fun c4 => ?_)) | refine Rp.if_ne (tgt := 8) dX12_readPart_4 (by decide) (fun c4 => ?_) (fun c4 => ?_)
          · skip
            refine Rp.aload_n dX12_readPart_8 rfl rfl ?_
            refine Rp.getR dX12_readPart_9 fk_X12_50 rfl (S _ _ rfl) (R _ _ _ rfl) ?_
            refine Rp.aload_n dX12_readPart_12 rfl rfl ?_
            refine Rp.getI dX12_readPart_13 fk_X12_200 rfl (S _ _ rfl) ?_
            first | rw [rd_t] | rw [rd_c, e1] | skip
            first | ((with_reducible show Rp _ _ _ _ (.int (nI _) :: _) _ _); refine Rp.ialoadN dX12_readPart_16 (S _ _ rfl) (by omega) ?_) | refine Rp.iaload dX12_readPart_16 (S _ _ rfl) (by first | assumption | exact vpb (by decide)) ?_
            first | rw [rd_t] | rw [rd_c, e1] | skip
            refine Rp.ist2 dX12_readPart_17 (by first | exact nl2_some rfl | exact nl2_none) (by decide) ?_
            refine Rp.iload_n dX12_readPart_18 rfl ?_
            refine Rp.bipush (nI 91) dX12_readPart_19 (by decide) ?_
            refine Rp.callS1 M_X12_sign dX12_readPart_21 mo_X12_sign lk_X12_241 (Nat.le_of_ble_eq_true rfl) (Nat.le_of_ble_eq_true rfl) (s_signN (d + 6 * (8 - dep) + 2) 91) (fun v1 h1 p1 x1 => ?_)
            rw [p1.1, p1.2]
            try dsimp only [Option.toList, List.cons_append, List.nil_append, List.append]
            first | ((with_reducible show Rp _ _ _ _ (.int (nI _) :: .int (nI _) :: _) _ _); refine Rp.icmp_neN (tgt := 74) dX12_readPart_24 (by decide) (by omega) (fun c24 => ?_) (fun c24 => ?_)) | refine Rp.icmp_ne (tgt := 74) dX12_readPart_24 (by decide) (fun c24 => ?_) (fun c24 => ?_)
            · skip
              first | (exfalso; omega) | exact absurd c24 (by decide) | exact absurd (by decide) c24
            · skip
              refine Rp.iload_n dX12_readPart_27 rfl ?_
              refine Rp.bipush (nI 8) dX12_readPart_28 (by decide) ?_
              first | ((with_reducible show Rp _ _ _ _ (.int (nI _) :: .int (nI _) :: _) _ _); refine Rp.icmp_neN (tgt := 37) dX12_readPart_30 (by decide) (by omega) (fun c30 => ?_) (fun c30 => ?_)) | refine Rp.icmp_ne (tgt := 37) dX12_readPart_30 (by decide) (fun c30 => ?_) (fun c30 => ?_)
              · skip
                first | (exfalso; omega) | exact absurd c30 (by decide) | exact absurd (by decide) c30
              · skip
                refine Rp.aload_n dX12_readPart_33 rfl rfl ?_
                refine Rp.callV0 M_X12_faults (ci := 12) dX12_readPart_34 mo_X12_faults lk_X12_206 (by decide) rfl rfl (S _ _ rfl) (Nat.le_of_ble_eq_true rfl) (Nat.le_of_ble_eq_true rfl) (s_faults (d + 6 * (8 - dep) + 1) S R K hi _) (fun v1 h1 p1 x1 => ?_)
                rw [p1.1, p1.2]
                try dsimp only [Option.toList, List.cons_append, List.nil_append, List.append]
                refine Rp.aload_n dX12_readPart_37 rfl rfl ?_
                refine Rp.callV0 M_X12_fine (ci := 12) dX12_readPart_38 mo_X12_fine lk_X12_196 (by decide) rfl rfl (S _ _ rfl) (Nat.le_of_ble_eq_true rfl) (Nat.le_of_ble_eq_true rfl) (s_fineF (d + 6 * (8 - dep) + 2) S R _ _ _ (K.pl hi)) (fun v1 h1 p1 x1 => ?_)
                rw [p1.1, p1.2]
                try dsimp only [Option.toList, List.cons_append, List.nil_append, List.append]
                first | ((with_reducible show Rp _ _ _ _ (.int (b2i _) :: _) _ _); refine Rp.if_neB (tgt := 45) dX12_readPart_41 (by decide) (fun c41 => ?_) (fun c41 => ?_)) | ((with_reducible show Rp _ _ _ _ (.int (nI _) :: _) _ _); refine Rp.if_neN (tgt := 45) dX12_readPart_41 (by decide) (by omega) (fun c41 => ?_) (fun c41 => ?_)) | refine Rp.if_ne (tgt := 45) dX12_readPart_41 (by decide) (fun c41 => ?_) (fun c41 => ?_)
                · skip
                  first | (exfalso; omega) | exact absurd c41 (by decide) | exact absurd (by decide) c41
                · skip
                  refine Rp.vreturn dX12_readPart_44 rfl ?_
                  exact ⟨rfl, _, _, rfl⟩
          · skip
            first | (exfalso; omega) | exact absurd c4 (by decide) | exact absurd (by decide) c4
        · rw [if_neg h8]
          have q1 := ih 7 (d + 3) (dep + 1) (i + 1) lv a (by decide) (by omega) hi1 hl (by show _ + 3 ≤ f; omega)
          have ed : d + 3 + 6 * (8 - (dep + 1)) + 5 = d + 6 * (8 - dep) + 2 := by omega
          have q1 : Rp (d + 3 + 6 * (8 - (dep + 1)) + 5) M_X12_readSum 0 [some (.ref aM), some (.int (nI (dep + 1)))] [] (rdH h (nI (i + 1)) (nI lv) (-1)) (fun r h' => r = none ∧ rdQ h (Prs ord c v f 7 (dep + 1) (i + 1) lv a) h') := q1
          rw [ed] at q1
          have o1 := Prs_ok (ord := ord) (v := v) hc f 7 (dep + 1) (i + 1) lv a (by decide) hi1 hl
          refine Rp.aload_n dX12_readPart_0 rfl rfl ?_
          refine Rp.callV0 M_X12_fine (ci := 12) dX12_readPart_1 mo_X12_fine lk_X12_196 (by decide) rfl rfl (S _ _ rfl) (Nat.le_of_ble_eq_true rfl) (Nat.le_of_ble_eq_true rfl) (s_fine (d + 6 * (8 - dep) + 2) S R _ _) (fun v1 h1 p1 x1 => ?_)
          rw [p1.1, p1.2]
          try dsimp only [Option.toList, List.cons_append, List.nil_append, List.append]
          first | ((with_reducible show Rp _ _ _ _ (.int (b2i _) :: _) _ _); refine Rp.if_neB (tgt := 8) dX12_readPart_4 (by decide) (fun c4 => ?_) (fun c4 => ?_)) | ((with_reducible show Rp _ _ _ _ (.int (nI _) :: _) _ _); refine Rp.if_neN (tgt := 8) dX12_readPart_4 (by decide) (by omega) (fun c4 => ?_) (fun c4 => ?_)) | refine Rp.if_ne (tgt := 8) dX12_readPart_4 (by decide) (fun c4 => ?_) (fun c4 => ?_)
          rotate_left
          · first | (exfalso; omega) | exact absurd c4 (by decide) | exact absurd (by decide) c4
          refine Rp.aload_n dX12_readPart_8 rfl rfl ?_
          refine Rp.getR dX12_readPart_9 fk_X12_50 rfl (S _ _ rfl) (R _ _ _ rfl) ?_
          refine Rp.aload_n dX12_readPart_12 rfl rfl ?_
          refine Rp.getI dX12_readPart_13 fk_X12_200 rfl (S _ _ rfl) ?_
          first | rw [rd_t] | rw [rd_c, e1] | skip
          first | ((with_reducible show Rp _ _ _ _ (.int (nI _) :: _) _ _); refine Rp.ialoadN dX12_readPart_16 (S _ _ rfl) (by omega) ?_) | refine Rp.iaload dX12_readPart_16 (S _ _ rfl) (by first | assumption | exact vpb (by decide)) ?_
          first | rw [rd_t] | rw [rd_c, e1] | skip
          refine Rp.ist2 dX12_readPart_17 (by first | exact nl2_some rfl | exact nl2_none) (by decide) ?_
          refine Rp.iload_n dX12_readPart_18 rfl ?_
          refine Rp.bipush (nI 91) dX12_readPart_19 (by decide) ?_
          refine Rp.callS1 M_X12_sign dX12_readPart_21 mo_X12_sign lk_X12_241 (Nat.le_of_ble_eq_true rfl) (Nat.le_of_ble_eq_true rfl) (s_signN (d + 6 * (8 - dep) + 2) 91) (fun v1 h1 p1 x1 => ?_)
          rw [p1.1, p1.2]
          try dsimp only [Option.toList, List.cons_append, List.nil_append, List.append]
          first | ((with_reducible show Rp _ _ _ _ (.int (nI _) :: .int (nI _) :: _) _ _); refine Rp.icmp_neN (tgt := 74) dX12_readPart_24 (by decide) (by omega) (fun c24 => ?_) (fun c24 => ?_)) | refine Rp.icmp_ne (tgt := 74) dX12_readPart_24 (by decide) (fun c24 => ?_) (fun c24 => ?_)
          · first | (exfalso; omega) | exact absurd c24 (by decide) | exact absurd (by decide) c24
          refine Rp.iload_n dX12_readPart_27 rfl ?_
          refine Rp.bipush (nI 8) dX12_readPart_28 (by decide) ?_
          first | ((with_reducible show Rp _ _ _ _ (.int (nI _) :: .int (nI _) :: _) _ _); refine Rp.icmp_neN (tgt := 37) dX12_readPart_30 (by decide) (by omega) (fun c30 => ?_) (fun c30 => ?_)) | refine Rp.icmp_ne (tgt := 37) dX12_readPart_30 (by decide) (fun c30 => ?_) (fun c30 => ?_)
          rotate_left
          · first | (exfalso; omega) | exact absurd c30 (by decide) | exact absurd (by decide) c30
          refine Rp.aload_n dX12_readPart_37 rfl rfl ?_
          refine Rp.callV0 M_X12_fine (ci := 12) dX12_readPart_38 mo_X12_fine lk_X12_196 (by decide) rfl rfl (S _ _ rfl) (Nat.le_of_ble_eq_true rfl) (Nat.le_of_ble_eq_true rfl) (s_fine (d + 6 * (8 - dep) + 2) S R _ _) (fun v1 h1 p1 x1 => ?_)
          rw [p1.1, p1.2]
          try dsimp only [Option.toList, List.cons_append, List.nil_append, List.append]
          first | ((with_reducible show Rp _ _ _ _ (.int (b2i _) :: _) _ _); refine Rp.if_neB (tgt := 45) dX12_readPart_41 (by decide) (fun c41 => ?_) (fun c41 => ?_)) | ((with_reducible show Rp _ _ _ _ (.int (nI _) :: _) _ _); refine Rp.if_neN (tgt := 45) dX12_readPart_41 (by decide) (by omega) (fun c41 => ?_) (fun c41 => ?_)) | refine Rp.if_ne (tgt := 45) dX12_readPart_41 (by decide) (fun c41 => ?_) (fun c41 => ?_)
          rotate_left
          · first | (exfalso; omega) | exact absurd c41 (by decide) | exact absurd (by decide) c41
          refine Rp.aload_n dX12_readPart_45 rfl rfl ?_
          refine Rp.dup dX12_readPart_46 rfl ?_
          refine Rp.getI dX12_readPart_47 fk_X12_200 rfl (S _ _ rfl) ?_
          first | rw [rd_t] | rw [rd_c, e1] | skip
          refine Rp.iconst (nI 1) dX12_readPart_50 (by decide) ?_
          first | ((with_reducible show Rp _ _ _ _ (.int (nI _) :: .int (nI _) :: _) _ _); refine Rp.iaddN dX12_readPart_51 ?_) | refine Rp.iadd dX12_readPart_51 ?_
          refine Rp.putI dX12_readPart_52 fk_X12_200w rfl (S _ _ rfl) ?_
          first | rw [rd_st] | skip
          refine Rp.aload_n dX12_readPart_55 rfl rfl ?_
          refine Rp.iload_n dX12_readPart_56 rfl ?_
          refine Rp.iconst (nI 1) dX12_readPart_57 (by decide) ?_
          first | ((with_reducible show Rp _ _ _ _ (.int (nI _) :: .int (nI _) :: _) _ _); refine Rp.iaddN dX12_readPart_58 ?_) | refine Rp.iadd dX12_readPart_58 ?_
          refine Rp.callV1 M_X12_readSum (ci := 12) dX12_readPart_59 mo_X12_readSum lk_X12_212 (by decide) rfl rfl (S _ _ rfl) (Nat.le_of_ble_eq_true rfl) (Nat.le_of_ble_eq_true rfl) (q1) (fun v1 h1 p1 x1 => ?_)
          obtain ⟨rfl, p1⟩ := p1
          try dsimp only [Option.toList, List.cons_append, List.nil_append, List.append]
          skip
          generalize Prs ord c v f 7 (dep + 1) (i + 1) lv a = x at p1 o1 ⊢
          rcases rdQ_cases K o1 p1 with ⟨e, t, l, rfl, he, hb, rfl⟩ | ⟨i1, lv1, cd, D, rfl, g1, g2, g3, g4, rfl⟩
          · skip
            refine Rp.aload_n dX12_readPart_62 rfl rfl ?_
            refine Rp.bipush (nI 93) dX12_readPart_63 (by decide) ?_
            refine Rp.callS1 M_X12_sign dX12_readPart_65 mo_X12_sign lk_X12_241 (Nat.le_of_ble_eq_true rfl) (Nat.le_of_ble_eq_true rfl) (s_signN (d + 6 * (8 - dep) + 2) 93) (fun v1 h1 p1 x1 => ?_)
            rw [p1.1, p1.2]
            try dsimp only [Option.toList, List.cons_append, List.nil_append, List.append]
            refine Rp.callV1 M_X12_must (ci := 12) dX12_readPart_68 mo_X12_must lk_X12_216 (by decide) rfl rfl (S _ _ rfl) (Nat.le_of_ble_eq_true rfl) (Nat.le_of_ble_eq_true rfl) (s_mustF (d + 6 * (8 - dep)) S R _ t l _ hb) (fun v1 h1 p1 x1 => ?_)
            rw [p1.1, p1.2]
            try dsimp only [Option.toList, List.cons_append, List.nil_append, List.append]
            refine Rp.goto (tgt := 147) dX12_readPart_71 (by decide) ?_
            refine Rp.vreturn dX12_readPart_147 rfl ?_
            exact ⟨rfl, t, l, rfl⟩
          · unfold cloL
            dsimp only
            refine Rp.aload_n dX12_readPart_62 rfl rfl ?_
            refine Rp.bipush (nI 93) dX12_readPart_63 (by decide) ?_
            refine Rp.callS1 M_X12_sign dX12_readPart_65 mo_X12_sign lk_X12_241 (Nat.le_of_ble_eq_true rfl) (Nat.le_of_ble_eq_true rfl) (s_signN (d + 6 * (8 - dep) + 2) 93) (fun v1 h1 p1 x1 => ?_)
            rw [p1.1, p1.2]
            try dsimp only [Option.toList, List.cons_append, List.nil_append, List.append]
            refine Rp.callV1 M_X12_must (ci := 12) dX12_readPart_68 mo_X12_must lk_X12_216 (by decide) rfl rfl (S _ _ rfl) (Nat.le_of_ble_eq_true rfl) (Nat.le_of_ble_eq_true rfl) (s_must (d + 6 * (8 - dep)) S R K g2 (nI lv1) _ (by decide)) (fun v1 h1 p1 x1 => ?_)
            rw [p1.1, p1.2]
            try dsimp only [Option.toList, List.cons_append, List.nil_append, List.append]
            refine Rp.goto (tgt := 147) dX12_readPart_71 (by decide) ?_
            refine Rp.vreturn dX12_readPart_147 rfl ?_
            refine ⟨rfl, ?_⟩
            by_cases hq : c i1 = 193
            · rw [if_pos hq, if_pos hq]; rfl
            · rw [if_neg hq, if_neg hq]; exact ⟨_, _, rfl⟩
      · rw [if_neg h191]
        exact A_part (d + 6 * (8 - dep)) S R K hi hl hd h191
end Ra
