def bQ (h h' : AH) : Prop := Fr rX h h' ∧ gI h' 35 3 = gI h 35 3 ∧ ∃ n, n ≤ 436 ∧ gI h' 37 3 = nI n
theorem fitC_app (ord : Bool) (a b : List (Nat × Nat)) : fitC ord (a ++ b) = (fitC ord a || fitC ord b) := by
  unfold fitC; rw [List.any_append]; cases ord <;> rfl
theorem fitC_op (ord : Bool) {o : Nat} (v : Nat) (h : o ≠ 2) : fitC ord [(o, v)] = false := by
  unfold fitC
  show (ord && (((o == 2) && (v == 3)) || false)) = false
  rw [show (o == 2) = false from beq_eq_false_iff_ne.mpr h]; cases ord <;> rfl
section Cq
variable {h h1 h2 : AH} {ord : Bool} {L : Nat} {TL : List (Nat × Nat)} {a : Nat} {af : Bool}
theorem cQ_bad_end {e a' : Nat} {af' : Bool} (p : cQ h ord L TL a af (.error e) h1) (q : bQ h1 h2) : cQ h ord L TL a' af' (.error e) h2 := ⟨p.1.trans q.1, q.2.1.trans p.2.1, q.2.2⟩
theorem cQ_pre_err {e a' : Nat} {af' : Bool} (F : Fr rX h h1) (q : cQ h1 ord L TL a' af' (.error e) h2) : cQ h ord L TL a af (.error e) h2 := ⟨F.trans q.1, q.2⟩
theorem cQ_app {i1 lv1 i2 lv2 : Nat} {cd1 cd2 : List (Nat × Nat)} {D1 D2 D : DN} (p : cQ h ord L TL a af (.ok (i1, lv1, cd1, D1)) h1) (q : cQ h1 ord L TL (a + cd1.length) (af || fitC ord cd1) (.ok (i2, lv2, cd2, D2)) h2) : cQ h ord L TL a af (.ok (i2, lv2, cd1 ++ cd2, D)) h2 := by
  obtain ⟨F1, G1, b1, c1⟩ := p
  obtain ⟨F2, G2, b2, c2⟩ := q
  refine ⟨F1.trans F2, ?_, fun j hj => (b2 j (by omega)).trans (b1 j hj), fun n q hq => ?_⟩
  · rw [List.length_append, ← Nat.add_assoc, fitC_app, ← Bool.or_assoc]; exact G2
  · by_cases hn : n < cd1.length
    · rw [List.getElem?_append_left hn] at hq
      rw [b2 (a + n) (by omega)]; exact c1 n q hq
    · rw [List.getElem?_append_right (by omega)] at hq
      have := c2 _ q hq
      rw [show a + cd1.length + (n - cd1.length) = a + n by omega] at this; exact this
theorem cQ_D {i1 lv1 : Nat} {cd : List (Nat × Nat)} {D D' : DN} (p : cQ h ord L TL a af (.ok (i1, lv1, cd, D)) h1) : cQ h ord L TL a af (.ok (i1, lv1, cd, D')) h1 := p
theorem cQ_emit {i1 lv1 o : Nat} {cd : List (Nat × Nat)} {D D' : DN} (ho : o ≠ 2) (p : cQ h ord L TL a af (.ok (i1, lv1, cd, D)) h1) : cQ h ord L TL a af (.ok (i1, lv1, cd ++ [(o, 0)], D')) (sI (sI h1 39 (a + cd.length) (enc (o, 0))) 37 3 (nI (a + cd.length + 1))) := by
  refine cQ_app (D2 := D) p (cQ_one ((Fr.rfl'.sI rfl).sI rfl) ?_ (fun j hj => ?_) ?_)
  · rw [fitC_op ord 0 ho, Bool.or_false]; exact p.2.1.emit _
  · rw [gI_ne _ _ _ _ (by decide), gI_off _ _ _ (by omega)]
  · rw [gI_ne _ _ _ _ (by decide), gI_hit]
/-- a jump: its cell was laid first, then aimed -/
theorem cQ_aim {i0 i1 lv lv1 o : Nat} {cd : List (Nat × Nat)} {D D' : DN} (ho : o ≠ 2) (G : GS h L TL i0 lv a af) (p : cQ (sI (sI h 39 a (enc (o, 0))) 37 3 (nI (a + 1))) ord L TL (a + 1) af (.ok (i1, lv1, cd, D)) h1) : cQ h ord L TL a af (.ok (i1, lv1, (o, a + 1 + cd.length) :: cd, D')) (sI h1 39 a (enc (o, a + 1 + cd.length))) := by
  obtain ⟨F1, G1, b1, c1⟩ := p
  refine ⟨(((Fr.rfl'.sI rfl).sI rfl).trans F1).sI rfl, ?_, fun j hj => ?_, fun n q hq => ?_⟩
  · rw [List.length_cons, show a + (cd.length + 1) = a + 1 + cd.length by omega, show (o, a + 1 + cd.length) :: cd = [(o, a + 1 + cd.length)] ++ cd from rfl, fitC_app, fitC_op ord _ ho, Bool.false_or]
    exact ⟨G1.1.o _ _ (by decide) (by decide), by rw [gI_ne _ _ _ _ (by decide)]; exact G1.2.1, by rw [gI_ne _ _ _ _ (by decide)]; exact G1.2.2.1, by rw [gI_ne _ _ _ _ (by decide)]; exact G1.2.2.2.1, by rw [gI_ne _ _ _ _ (by decide)]; exact G1.2.2.2.2⟩
  · rw [gI_off _ _ _ (by omega), b1 j (by omega), gI_ne _ _ _ _ (by decide), gI_off _ _ _ (by omega)]
  · match n, hq with
    | 0, hq => cases hq; exact gI_hit _ _ _ _
    | n + 1, hq =>
      rw [gI_off _ _ _ (by omega), show a + (n + 1) = a + 1 + n by omega]; exact c1 n q hq
theorem cQ_nil {i lv : Nat} {D : DN} (G : GS h L TL i lv a af) : cQ h ord L TL a af (.ok (i, lv, [], D)) h := ⟨Fr.rfl', by rw [show fitC ord [] = false by cases ord <;> rfl, Bool.or_false]; exact G, fun _ _ => rfl, fun n q hq => nomatch hq⟩
theorem pT_m1 {tb : Nat → Int32} (hL : L ≤ 400) (hTL : TL = TLo tb L) (e : Nat) : nI (pT L TL e) ≠ -1 := by
  rw [hTL]
  exact nI_ne_m1 (by have := pT_lt tb (L := L) L 0 e; show pT L (toks tb L L 0) e < 401; omega)
end Cq
section Cb
variable (d : Nat) {h : AH}
theorem bad_any7 (S : ShOK h) (hf : gI h 35 3 ≠ -1) (hz : ∃ n, n ≤ 436 ∧ gI h 37 3 = nI n) (dep : Value) {n : Nat} (hn : n < 500) (a3 : Option Value) : Rp (d + 6) M_X7_anyOf 7 [some (.ref 35), some dep, some (.int (nI n)), a3] [] h (fun r h' => r = none ∧ bQ h h') := by
  refine Rp.iload_n dX7_anyOf_7 rfl ?_
  refine Rp.sipush (nI 400) dX7_anyOf_8 (by decide) ?_
  first | ((with_reducible show Rp _ _ _ _ (.int (nI _) :: .int (nI _) :: _) _ _); refine Rp.icmp_geN (tgt := 52) dX7_anyOf_11 (by decide) (by omega) (fun c11 => ?_) (fun c11 => ?_)) | refine Rp.icmp_ge (tgt := 52) dX7_anyOf_11 (by decide) (fun c11 => ?_) (fun c11 => ?_)
  · skip
    refine Rp.vreturn dX7_anyOf_52 rfl ?_
    exact ⟨rfl, Fr.rfl', rfl, hz⟩
  · skip
    refine Rp.aload_n dX7_anyOf_14 rfl rfl ?_
    refine Rp.ldcS (k := 10) dX7_anyOf_15 (by decide) rfl rfl ?_
    refine Rp.callV1 M_X7_goesOnWith (ci := 7) dX7_anyOf_17 mo_X7_goesOnWith lk_X7_76 (by decide) rfl rfl (S _ _ rfl) (Nat.le_of_ble_eq_true rfl) (Nat.le_of_ble_eq_true rfl) (bad_goes d S hf 10) (fun v1 h1 p1 x1 => ?_)
    rw [p1.1, p1.2]
    try dsimp only [Option.toList, List.cons_append, List.nil_append, List.append]
    first | ((with_reducible show Rp _ _ _ _ (.int (b2i _) :: _) _ _); refine Rp.if_eqB (tgt := 52) dX7_anyOf_20 (by decide) (fun c20 => ?_) (fun c20 => ?_)) | ((with_reducible show Rp _ _ _ _ (.int (nI _) :: _) _ _); refine Rp.if_eqN (tgt := 52) dX7_anyOf_20 (by decide) (by omega) (fun c20 => ?_) (fun c20 => ?_)) | refine Rp.if_eq (tgt := 52) dX7_anyOf_20 (by decide) (fun c20 => ?_) (fun c20 => ?_)
    · skip
      refine Rp.vreturn dX7_anyOf_52 rfl ?_
      exact ⟨rfl, Fr.rfl', rfl, hz⟩
    · skip
      first | (exfalso; omega) | exact absurd c20 (by decide) | exact absurd (by decide) c20
theorem bad_all7 (S : ShOK h) (hf : gI h 35 3 ≠ -1) (hz : ∃ n, n ≤ 436 ∧ gI h 37 3 = nI n) (dep : Value) {n : Nat} (hn : n < 500) (a3 : Option Value) : Rp (d + 6) M_X7_allOf 7 [some (.ref 35), some dep, some (.int (nI n)), a3] [] h (fun r h' => r = none ∧ bQ h h') := by
  refine Rp.iload_n dX7_allOf_7 rfl ?_
  refine Rp.sipush (nI 400) dX7_allOf_8 (by decide) ?_
  first | ((with_reducible show Rp _ _ _ _ (.int (nI _) :: .int (nI _) :: _) _ _); refine Rp.icmp_geN (tgt := 52) dX7_allOf_11 (by decide) (by omega) (fun c11 => ?_) (fun c11 => ?_)) | refine Rp.icmp_ge (tgt := 52) dX7_allOf_11 (by decide) (fun c11 => ?_) (fun c11 => ?_)
  · skip
    refine Rp.vreturn dX7_allOf_52 rfl ?_
    exact ⟨rfl, Fr.rfl', rfl, hz⟩
  · skip
    refine Rp.aload_n dX7_allOf_14 rfl rfl ?_
    refine Rp.ldcS (k := 9) dX7_allOf_15 (by decide) rfl rfl ?_
    refine Rp.callV1 M_X7_goesOnWith (ci := 7) dX7_allOf_17 mo_X7_goesOnWith lk_X7_76 (by decide) rfl rfl (S _ _ rfl) (Nat.le_of_ble_eq_true rfl) (Nat.le_of_ble_eq_true rfl) (bad_goes d S hf 9) (fun v1 h1 p1 x1 => ?_)
    rw [p1.1, p1.2]
    try dsimp only [Option.toList, List.cons_append, List.nil_append, List.append]
    first | ((with_reducible show Rp _ _ _ _ (.int (b2i _) :: _) _ _); refine Rp.if_eqB (tgt := 52) dX7_allOf_20 (by decide) (fun c20 => ?_) (fun c20 => ?_)) | ((with_reducible show Rp _ _ _ _ (.int (nI _) :: _) _ _); refine Rp.if_eqN (tgt := 52) dX7_allOf_20 (by decide) (by omega) (fun c20 => ?_) (fun c20 => ?_)) | refine Rp.if_eq (tgt := 52) dX7_allOf_20 (by decide) (fun c20 => ?_) (fun c20 => ?_)
    · skip
      refine Rp.vreturn dX7_allOf_52 rfl ?_
      exact ⟨rfl, Fr.rfl', rfl, hz⟩
    · skip
      first | (exfalso; omega) | exact absurd c20 (by decide) | exact absurd (by decide) c20
theorem bad_sum7c (S : ShOK h) (hf : gI h 35 3 ≠ -1) (hz : ∃ n, n ≤ 436 ∧ gI h 37 3 = nI n) (dep : Value) {n : Nat} (hn : n < 500) (a3 : Option Value) : Rp d M_X7_sum 7 [some (.ref 35), some dep, some (.int (nI n)), a3] [] h (fun r h' => r = none ∧ bQ h h') := by
  refine Rp.iload_n dX7_sum_7 rfl ?_
  refine Rp.sipush (nI 400) dX7_sum_8 (by decide) ?_
  first | ((with_reducible show Rp _ _ _ _ (.int (nI _) :: .int (nI _) :: _) _ _); refine Rp.icmp_geN (tgt := 82) dX7_sum_11 (by decide) (by omega) (fun c11 => ?_) (fun c11 => ?_)) | refine Rp.icmp_ge (tgt := 82) dX7_sum_11 (by decide) (fun c11 => ?_) (fun c11 => ?_)
  · skip
    refine Rp.vreturn dX7_sum_82 rfl ?_
    exact ⟨rfl, Fr.rfl', rfl, hz⟩
  · skip
    refine Rp.aload_n dX7_sum_14 rfl rfl ?_
    refine Rp.getI dX7_sum_15 fk_X7_22 rfl (S _ _ rfl) ?_
    refine Rp.iconst (-1) dX7_sum_18 (by decide) ?_
    first | ((with_reducible show Rp _ _ _ _ (.int (nI _) :: .int (nI _) :: _) _ _); refine Rp.icmp_neN (tgt := 82) dX7_sum_19 (by decide) (by omega) (fun c19 => ?_) (fun c19 => ?_)) | refine Rp.icmp_ne (tgt := 82) dX7_sum_19 (by decide) (fun c19 => ?_) (fun c19 => ?_)
    · skip
      refine Rp.vreturn dX7_sum_82 rfl ?_
      exact ⟨rfl, Fr.rfl', rfl, hz⟩
    · skip
      exact absurd c19 hf
theorem bad_term7c (S : ShOK h) (hf : gI h 35 3 ≠ -1) (hz : ∃ n, n ≤ 436 ∧ gI h 37 3 = nI n) (dep : Value) {n : Nat} (hn : n < 500) (a3 : Option Value) : Rp d M_X7_term 7 [some (.ref 35), some dep, some (.int (nI n)), a3] [] h (fun r h' => r = none ∧ bQ h h') := by
  refine Rp.iload_n dX7_term_7 rfl ?_
  refine Rp.sipush (nI 400) dX7_term_8 (by decide) ?_
  first | ((with_reducible show Rp _ _ _ _ (.int (nI _) :: .int (nI _) :: _) _ _); refine Rp.icmp_geN (tgt := 104) dX7_term_11 (by decide) (by omega) (fun c11 => ?_) (fun c11 => ?_)) | refine Rp.icmp_ge (tgt := 104) dX7_term_11 (by decide) (fun c11 => ?_) (fun c11 => ?_)
  · skip
    refine Rp.vreturn dX7_term_104 rfl ?_
    exact ⟨rfl, Fr.rfl', rfl, hz⟩
  · skip
    refine Rp.aload_n dX7_term_14 rfl rfl ?_
    refine Rp.getI dX7_term_15 fk_X7_22 rfl (S _ _ rfl) ?_
    refine Rp.iconst (-1) dX7_term_18 (by decide) ?_
    first | ((with_reducible show Rp _ _ _ _ (.int (nI _) :: .int (nI _) :: _) _ _); refine Rp.icmp_neN (tgt := 104) dX7_term_19 (by decide) (by omega) (fun c19 => ?_) (fun c19 => ?_)) | refine Rp.icmp_ne (tgt := 104) dX7_term_19 (by decide) (fun c19 => ?_) (fun c19 => ?_)
    · skip
      refine Rp.vreturn dX7_term_104 rfl ?_
      exact ⟨rfl, Fr.rfl', rfl, hz⟩
    · skip
      exact absurd c19 hf
theorem bad_plain74 (S : ShOK h) (R : RfOK h) (hz : ∃ n, n ≤ 436 ∧ gI h 37 3 = nI n) (dep : Value) (b : Bool) (a3 : Option Value) : Rp (d + 1) M_X7_plain 74 [some (.ref 35), some dep, some (.int (b2i b)), a3] [] h (fun r h' => r = none ∧ bQ h h') := by
  obtain ⟨n, hn, en⟩ := hz
  refine Rp.iload_n dX7_plain_74 rfl ?_
  first | ((with_reducible show Rp _ _ _ _ (.int (b2i _) :: _) _ _); refine Rp.if_eqB (tgt := 88) dX7_plain_75 (by decide) (fun c75 => ?_) (fun c75 => ?_)) | ((with_reducible show Rp _ _ _ _ (.int (nI _) :: _) _ _); refine Rp.if_eqN (tgt := 88) dX7_plain_75 (by decide) (by omega) (fun c75 => ?_) (fun c75 => ?_)) | refine Rp.if_eq (tgt := 88) dX7_plain_75 (by decide) (fun c75 => ?_) (fun c75 => ?_)
  · skip
    refine Rp.vreturn dX7_plain_88 rfl ?_
    first | exact ⟨rfl, p2, p3, p4⟩ | exact ⟨rfl, Fr.rfl', rfl, n, hn, en⟩
  · skip
    refine Rp.aload_n dX7_plain_78 rfl rfl ?_
    refine Rp.getR dX7_plain_79 fk_X7_18 rfl (S _ _ rfl) (R _ _ _ rfl) ?_
    refine Rp.iconst (nI 5) dX7_plain_82 (by decide) ?_
    refine Rp.iconst (nI 0) dX7_plain_83 (by decide) ?_
    refine Rp.callV2 M_X9_emit (ci := 9) dX7_plain_84 mo_X9_emit lk_X7_98 (by decide) rfl rfl (S _ _ rfl) (Nat.le_of_ble_eq_true rfl) (Nat.le_of_ble_eq_true rfl) (bad_emit d S R hn en) (fun v1 h1 p1 x1 => ?_)
    obtain ⟨p2, p3, p4, x, rfl⟩ := p1
    try dsimp only [Option.toList, List.cons_append, List.nil_append, List.append]
    refine Rp.pop dX7_plain_87 rfl ?_
    refine Rp.vreturn dX7_plain_88 rfl ?_
    first | exact ⟨rfl, p2, p3, p4⟩ | exact ⟨rfl, Fr.rfl', rfl, n, hn, en⟩
end Cb
