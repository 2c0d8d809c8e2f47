section Cj
variable {h h1 h2 : AH} {ord : Bool} {L : Nat} {TL : List (Nat × Nat)} {a : Nat} {af : Bool}
theorem cQ_seq {i1 lv1 : Nat} {cd1 : List (Nat × Nat)} {D1 : DN} {k : Nat → Nat → Nat → Except Nat LR} (p : cQ h ord L TL a af (.ok (i1, lv1, cd1, D1)) h1) (q : cQ h1 ord L TL (a + cd1.length) (af || fitC ord cd1) (k i1 lv1 (a + cd1.length)) h2) : cQ h ord L TL a af (seqL (.ok (i1, lv1, cd1, D1)) a k) h2 := by
  unfold seqL
  dsimp only
  generalize k i1 lv1 (a + cd1.length) = x at q ⊢
  match x, q with
  | .error e, q => exact cQ_pre_err p.1 q
  | .ok (i2, lv2, cd2, D2), q => exact cQ_app p q
theorem GS_jmp {g : AH} {i lv o v : Nat} {cd : List (Nat × Nat)} (ho : o ≠ 2) : GS g L TL i lv (a + ((o, v) :: cd).length) (af || fitC ord ((o, v) :: cd)) = GS g L TL i lv (a + 1 + cd.length) (af || fitC ord cd) := by
  rw [List.length_cons, show a + (cd.length + 1) = a + 1 + cd.length by omega, show (o, v) :: cd = [(o, v)] ++ cd from rfl, fitC_app, fitC_op ord v ho, Bool.false_or]
theorem GS_op {g : AH} {i lv o : Nat} {cd : List (Nat × Nat)} (ho : o ≠ 2) : GS g L TL i lv (a + (cd ++ [(o, 0)]).length) (af || fitC ord (cd ++ [(o, 0)])) = GS g L TL i lv (a + cd.length + 1) (af || fitC ord cd) := by
  rw [List.length_append, show [((o, 0) : Nat × Nat)].length = 1 from rfl, fitC_app, fitC_op ord 0 ho, Bool.or_false, Nat.add_assoc]
theorem cQ_jmp {i1 lv1 o : Nat} {cd1 : List (Nat × Nat)} {D1 D : DN} {k : Nat → Nat → Nat → Except Nat LR} (ho : o ≠ 2) (p : cQ h ord L TL a af (.ok (i1, lv1, (o, a + 1 + cd1.length) :: cd1, D1)) h1) (q : cQ h1 ord L TL (a + 1 + cd1.length) (af || fitC ord cd1) (k i1 lv1 (a + 1 + cd1.length)) h2) : cQ h ord L TL a af (jmpL o (.ok (i1, lv1, cd1, D)) a k) h2 := by
  unfold jmpL
  dsimp only
  generalize k i1 lv1 (a + 1 + cd1.length) = x at q ⊢
  match x, q with
  | .error e, q => exact cQ_pre_err p.1 q
  | .ok (i2, lv2, cd2, D2), q =>
    refine cQ_app (cd1 := (o, a + 1 + cd1.length) :: cd1) (D2 := D2) p ?_
    rw [List.length_cons, show a + (cd1.length + 1) = a + 1 + cd1.length by omega, show (o, a + 1 + cd1.length) :: cd1 = [(o, a + 1 + cd1.length)] ++ cd1 from rfl, fitC_app, fitC_op ord _ ho, Bool.false_or]
    exact q
theorem cQ_op {i1 lv1 o : Nat} {cd1 : List (Nat × Nat)} {D1 D : DN} {k : Nat → Nat → Nat → Except Nat LR} (ho : o ≠ 2) (p : cQ h ord L TL a af (.ok (i1, lv1, cd1 ++ [(o, 0)], D1)) h1) (q : cQ h1 ord L TL (a + cd1.length + 1) (af || fitC ord cd1) (k i1 lv1 (a + cd1.length + 1)) h2) : cQ h ord L TL a af (opL o (.ok (i1, lv1, cd1, D)) a k) h2 := by
  unfold opL
  dsimp only
  generalize k i1 lv1 (a + cd1.length + 1) = x at q ⊢
  match x, q with
  | .error e, q => exact cQ_pre_err p.1 q
  | .ok (i2, lv2, cd2, D2), q =>
    dsimp only
    rw [show cd1 ++ (o, 0) :: cd2 = (cd1 ++ [(o, 0)]) ++ cd2 by rw [List.append_assoc]; rfl]
    refine cQ_app (D2 := D2) p ?_
    rw [List.length_append, show [((o, 0) : Nat × Nat)].length = 1 from rfl, fitC_app, fitC_op ord 0 ho, Bool.or_false, ← Nat.add_assoc]
    exact q
/-- what a reading came to -/
theorem cQ_cases {tb : Nat → Int32} {T i lv sl : Nat} {hd : Bool} {x : Except Nat LR} (hL : L ≤ 400) (hTL : TL = TLo tb L) (o : okL T hd i lv x sl) (p : cQ h ord L TL a af x h1) : (∃ e, x = .error e ∧ gI h1 35 3 ≠ -1 ∧ (∃ n, n ≤ 436 ∧ gI h1 37 3 = nI n)) ∨ (∃ i1 lv1 cd D, x = .ok (i1, lv1, cd, D) ∧ i ≤ i1 ∧ i1 ≤ T ∧ (hd = true → i < i1) ∧ lv1 ≤ 50 ∧ cd.length ≤ i1 - i + sl) := by
  match x, o, p with
  | .error e, o, p => exact Or.inl ⟨e, rfl, by rw [p.2.1]; exact pT_m1 hL hTL e, p.2.2⟩
  | .ok (i1, lv1, cd, D), o, p => exact Or.inr ⟨i1, lv1, cd, D, rfl, o.1, o.2.1, o.2.2.1, o.2.2.2.1, o.2.2.2.2.2⟩
end Cj
def aC (h : AH) (d md dep i : Nat) (Q : AH → Prop) : Prop := match md with
  | 0 => Rp (d + 3 * (8 - dep) + 11) M_X7_anyOf 0 [some (.ref 35), some (.int (nI dep)), none, none] [] h (fun r h' => r = none ∧ Q h')
  | 1 => Rp (d + 3 * (8 - dep) + 10) M_X7_allOf 0 [some (.ref 35), some (.int (nI dep)), none, none] [] h (fun r h' => r = none ∧ Q h')
  | 2 => ∀ (n : Nat) (a3 : Option Value), n < i → Rp (d + 3 * (8 - dep) + 11) M_X7_anyOf 7 [some (.ref 35), some (.int (nI dep)), some (.int (nI n)), a3] [] h (fun r h' => r = none ∧ Q h')
  | 3 => ∀ n : Nat, n < i → Rp (d + 3 * (8 - dep) + 9) M_X7_plain 4 [some (.ref 35), some (.int (nI dep)), some (.int (nI 0)), some (.int (nI n))] [] h (fun r h' => r = none ∧ Q h')
  | 4 => ∀ (n : Nat) (a3 : Option Value), n < i → Rp (d + 3 * (8 - dep) + 10) M_X7_allOf 7 [some (.ref 35), some (.int (nI dep)), some (.int (nI n)), a3] [] h (fun r h' => r = none ∧ Q h')
  | 5 => ∀ n : Nat, n < i → Rp (d + 3 * (8 - dep) + 9) M_X7_plain 4 [some (.ref 35), some (.int (nI dep)), some (.int (nI 1)), some (.int (nI n))] [] h (fun r h' => r = none ∧ Q h')
  | 6 => ∀ (P : Option Value → AH → Prop) (x n : Option Value), (∀ h', Q h' → Rp (d + 3 * (8 - dep) + 9) M_X7_plain 74 [some (.ref 35), some (.int (nI dep)), x, n] [] h' P) → Rp (d + 3 * (8 - dep) + 9) M_X7_plain 36 [some (.ref 35), some (.int (nI dep)), x, n] [] h P
  | 7 => Rp (d + 3 * (8 - dep) + 7) M_X7_sum 0 [some (.ref 35), some (.int (nI dep)), none, none] [] h (fun r h' => r = none ∧ Q h')
  | 8 => ∀ (n : Nat) (a3 : Option Value), n < i → Rp (d + 3 * (8 - dep) + 7) M_X7_sum 7 [some (.ref 35), some (.int (nI dep)), some (.int (nI n)), a3] [] h (fun r h' => r = none ∧ Q h')
  | 9 => Rp (d + 3 * (8 - dep) + 6) M_X7_term 0 [some (.ref 35), some (.int (nI dep)), none, none] [] h (fun r h' => r = none ∧ Q h')
  | 10 => ∀ (n : Nat) (a3 : Option Value), n < i → Rp (d + 3 * (8 - dep) + 6) M_X7_term 7 [some (.ref 35), some (.int (nI dep)), some (.int (nI n)), a3] [] h (fun r h' => r = none ∧ Q h')
  | _ => Rp (d + 3 * (8 - dep) + 5) M_X7_part 0 [some (.ref 35), some (.int (nI dep)), none, none] [] h (fun r h' => r = none ∧ Q h')
/-- what is known at a place of the text -/
def CB (h : AH) (ord : Bool) (tb : Nat → Int32) (L : Nat) (TL : List (Nat × Nat)) : Prop := RB h ord L ∧ gI h 36 = tb ∧ TL = TLo tb L
theorem CB.fr {h h' : AH} {ord : Bool} {tb : Nat → Int32} {L : Nat} {TL : List (Nat × Nat)} (B : CB h ord tb L TL) (F : Fr rX h h') : CB h' ord tb L TL := ⟨B.1.fr F, F.tp.trans B.2.1, B.2.2⟩
theorem CB.tl {h : AH} {ord : Bool} {tb : Nat → Int32} {L : Nat} {TL : List (Nat × Nat)} (B : CB h ord tb L TL) : TL = TLo (gI h 36) L := by rw [B.2.1]; exact B.2.2
theorem CB.le {h : AH} {ord : Bool} {tb : Nat → Int32} {L : Nat} {TL : List (Nat × Nat)} (B : CB h ord tb L TL) : TL.length ≤ 400 := by
  have := toks_len tb L L 0
  have hl := B.1.2.2.1
  rw [B.2.2]; show (toks tb L L 0).length ≤ 400; omega
def CIx (ord : Bool) (tb : Nat → Int32) (L : Nat) (TL : List (Nat × Nat)) (f : Nat) : Prop := ∀ (md d dep i lv a : Nat) (af : Bool) (h : AH), md < 12 → dep ≤ 8 → 1 ≤ i → i ≤ TL.length → lv ≤ 50 → a + slM md ≤ i + 35 → CB h ord tb L TL → GS h L TL i lv a af → 12 * (TL.length - i) + rkM md ≤ f → aC h d md dep i (cQ h ord L TL a af (Prs ord (cT tb TL) (vT tb TL) f md dep i lv a))

theorem plain0c {d : Nat} {h : AH} {a b : Value} {P : Option Value → AH → Prop} (hb : nl2 (some b)) (q : Rp d M_X7_plain 4 [some a, some b, some (.int (nI 0)), some (.int (nI 0))] [] h P) : Rp d M_X7_plain 0 [some a, some b, none, none] [] h P := by
  refine Rp.iconst (nI 0) dX7_plain_0 (by decide) ?_
  refine Rp.ist2 dX7_plain_1 hb (by decide) ?_
  refine Rp.iconst (nI 0) dX7_plain_2 (by decide) ?_
  refine Rp.ist3 dX7_plain_3 (nl2_some rfl) (by decide) ?_
  exact q

theorem Cc_0 {ord : Bool} {tb : Nat → Int32} {L : Nat} {TL : List (Nat × Nat)} {f : Nat} (ih : CIx ord tb L TL f) (d dep i lv a : Nat) (af : Bool) (h : AH) (hd : dep ≤ 8) (h1i : 1 ≤ i) (hi : i ≤ TL.length) (hl : lv ≤ 50) (ha : a ≤ i + 35) (B : CB h ord tb L TL) (G : GS h L TL i lv a af) (hf : 12 * (TL.length - i) + 7 ≤ f + 1) : Rp (d + 3 * (8 - dep) + 11) M_X7_anyOf 0 [some (.ref 35), some (.int (nI dep)), none, none] [] h (fun r h' => r = none ∧ cQ h ord L TL a af (seqL (Prs ord (cT tb TL) (vT tb TL) f 1 dep i lv a) a (Prs ord (cT tb TL) (vT tb TL) f 2 dep)) h') := by
  have S := B.1.1
  have R := B.1.2.1
  have hT := B.le
  have q1 := ih 1 d dep i lv a af h (by decide) hd h1i hi hl ha B G (by show _ + 6 ≤ f; omega)
  have o1 := Prs_ok (ord := ord) (v := vT tb TL) (cT_end tb TL) f 1 dep i lv a (by decide) hi hl
  refine Rp.aload_n dX7_anyOf_0 rfl rfl ?_
  refine Rp.iload_n dX7_anyOf_1 rfl ?_
  refine Rp.callV1 M_X7_allOf (ci := 7) dX7_anyOf_2 mo_X7_allOf lk_X7_108 (by decide) rfl rfl (S _ _ rfl) (Nat.le_of_ble_eq_true rfl) (Nat.le_of_ble_eq_true rfl) (q1) (fun v1 h1 p1 x1 => ?_)
  obtain ⟨rfl, p1⟩ := p1
  try dsimp only [Option.toList, List.cons_append, List.nil_append, List.append]
  refine Rp.iconst (nI 0) dX7_anyOf_5 (by decide) ?_
  refine Rp.ist2 dX7_anyOf_6 (by first | exact nl2_some rfl | exact nl2_none) (by decide) ?_
  skip
  generalize Prs ord (cT tb TL) (vT tb TL) f 1 dep i lv a = x at p1 o1 ⊢
  rcases cQ_cases B.1.2.2.1 B.2.2 o1 p1 with ⟨e, rfl, hb, hz⟩ | ⟨i1, lv1, cd, D, rfl, g1, g2, g3, g4, g5⟩
  · exact Rp.mono (fun r h' p => ⟨p.1, cQ_bad_end p1 p.2⟩) (bad_any7 (d + 3 * (8 - dep) + 5) (p1.1.S S) hb hz _ (by decide) _)
  · have g3 := g3 rfl
    have e0 : slM 1 = 0 := rfl
    exact Rp.mono (fun r h' p => ⟨p.1, cQ_seq p1 p.2⟩) (ih 2 d dep i1 lv1 (a + cd.length) _ _ (by decide) hd (by omega) g2 g4 (by show _ + 0 ≤ _; omega) (B.fr p1.1) p1.2.1 (by show _ + 8 ≤ f; omega) 0 none (by omega))

theorem Cc_1 {ord : Bool} {tb : Nat → Int32} {L : Nat} {TL : List (Nat × Nat)} {f : Nat} (ih : CIx ord tb L TL f) (d dep i lv a : Nat) (af : Bool) (h : AH) (hd : dep ≤ 8) (h1i : 1 ≤ i) (hi : i ≤ TL.length) (hl : lv ≤ 50) (ha : a ≤ i + 35) (B : CB h ord tb L TL) (G : GS h L TL i lv a af) (hf : 12 * (TL.length - i) + 6 ≤ f + 1) : Rp (d + 3 * (8 - dep) + 10) M_X7_allOf 0 [some (.ref 35), some (.int (nI dep)), none, none] [] h (fun r h' => r = none ∧ cQ h ord L TL a af (seqL (Prs ord (cT tb TL) (vT tb TL) f 3 dep i lv a) a (Prs ord (cT tb TL) (vT tb TL) f 4 dep)) h') := by
  have S := B.1.1
  have R := B.1.2.1
  have hT := B.le
  have q1 := ih 3 d dep i lv a af h (by decide) hd h1i hi hl ha B G (by show _ + 5 ≤ f; omega)
  have o1 := Prs_ok (ord := ord) (v := vT tb TL) (cT_end tb TL) f 3 dep i lv a (by decide) hi hl
  refine Rp.aload_n dX7_allOf_0 rfl rfl ?_
  refine Rp.iload_n dX7_allOf_1 rfl ?_
  refine Rp.callV1 M_X7_plain (ci := 7) dX7_allOf_2 mo_X7_plain lk_X7_116 (by decide) rfl rfl (S _ _ rfl) (Nat.le_of_ble_eq_true rfl) (Nat.le_of_ble_eq_true rfl) (plain0c (nl2_some rfl) (q1 0 (by omega))) (fun v1 h1 p1 x1 => ?_)
  obtain ⟨rfl, p1⟩ := p1
  try dsimp only [Option.toList, List.cons_append, List.nil_append, List.append]
  refine Rp.iconst (nI 0) dX7_allOf_5 (by decide) ?_
  refine Rp.ist2 dX7_allOf_6 (by first | exact nl2_some rfl | exact nl2_none) (by decide) ?_
  skip
  generalize Prs ord (cT tb TL) (vT tb TL) f 3 dep i lv a = x at p1 o1 ⊢
  rcases cQ_cases B.1.2.2.1 B.2.2 o1 p1 with ⟨e, rfl, hb, hz⟩ | ⟨i1, lv1, cd, D, rfl, g1, g2, g3, g4, g5⟩
  · exact Rp.mono (fun r h' p => ⟨p.1, cQ_bad_end p1 p.2⟩) (bad_all7 (d + 3 * (8 - dep) + 4) (p1.1.S S) hb hz _ (by decide) _)
  · have g3 := g3 rfl
    have e0 : slM 3 = 0 := rfl
    exact Rp.mono (fun r h' p => ⟨p.1, cQ_seq p1 p.2⟩) (ih 4 d dep i1 lv1 (a + cd.length) _ _ (by decide) hd (by omega) g2 g4 (by show _ + 0 ≤ _; omega) (B.fr p1.1) p1.2.1 (by show _ + 8 ≤ f; omega) 0 none (by omega))

theorem Cc_7 {ord : Bool} {tb : Nat → Int32} {L : Nat} {TL : List (Nat × Nat)} {f : Nat} (ih : CIx ord tb L TL f) (d dep i lv a : Nat) (af : Bool) (h : AH) (hd : dep ≤ 8) (h1i : 1 ≤ i) (hi : i ≤ TL.length) (hl : lv ≤ 50) (ha : a ≤ i + 35) (B : CB h ord tb L TL) (G : GS h L TL i lv a af) (hf : 12 * (TL.length - i) + 3 ≤ f + 1) : Rp (d + 3 * (8 - dep) + 7) M_X7_sum 0 [some (.ref 35), some (.int (nI dep)), none, none] [] h (fun r h' => r = none ∧ cQ h ord L TL a af (seqL (Prs ord (cT tb TL) (vT tb TL) f 9 dep i lv a) a (Prs ord (cT tb TL) (vT tb TL) f 8 dep)) h') := by
  have S := B.1.1
  have R := B.1.2.1
  have hT := B.le
  have q1 := ih 9 d dep i lv a af h (by decide) hd h1i hi hl ha B G (by show _ + 2 ≤ f; omega)
  have o1 := Prs_ok (ord := ord) (v := vT tb TL) (cT_end tb TL) f 9 dep i lv a (by decide) hi hl
  refine Rp.aload_n dX7_sum_0 rfl rfl ?_
  refine Rp.iload_n dX7_sum_1 rfl ?_
  refine Rp.callV1 M_X7_term (ci := 7) dX7_sum_2 mo_X7_term lk_X7_133 (by decide) rfl rfl (S _ _ rfl) (Nat.le_of_ble_eq_true rfl) (Nat.le_of_ble_eq_true rfl) (q1) (fun v1 h1 p1 x1 => ?_)
  obtain ⟨rfl, p1⟩ := p1
  try dsimp only [Option.toList, List.cons_append, List.nil_append, List.append]
  refine Rp.iconst (nI 0) dX7_sum_5 (by decide) ?_
  refine Rp.ist2 dX7_sum_6 (by first | exact nl2_some rfl | exact nl2_none) (by decide) ?_
  skip
  generalize Prs ord (cT tb TL) (vT tb TL) f 9 dep i lv a = x at p1 o1 ⊢
  rcases cQ_cases B.1.2.2.1 B.2.2 o1 p1 with ⟨e, rfl, hb, hz⟩ | ⟨i1, lv1, cd, D, rfl, g1, g2, g3, g4, g5⟩
  · exact Rp.mono (fun r h' p => ⟨p.1, cQ_bad_end p1 p.2⟩) (bad_sum7c (d + 3 * (8 - dep) + 7) (p1.1.S S) hb hz _ (by decide) _)
  · have g3 := g3 rfl
    have e0 : slM 9 = 0 := rfl
    exact Rp.mono (fun r h' p => ⟨p.1, cQ_seq p1 p.2⟩) (ih 8 d dep i1 lv1 (a + cd.length) _ _ (by decide) hd (by omega) g2 g4 (by show _ + 0 ≤ _; omega) (B.fr p1.1) p1.2.1 (by show _ + 8 ≤ f; omega) 0 none (by omega))

theorem Cc_9 {ord : Bool} {tb : Nat → Int32} {L : Nat} {TL : List (Nat × Nat)} {f : Nat} (ih : CIx ord tb L TL f) (d dep i lv a : Nat) (af : Bool) (h : AH) (hd : dep ≤ 8) (h1i : 1 ≤ i) (hi : i ≤ TL.length) (hl : lv ≤ 50) (ha : a ≤ i + 35) (B : CB h ord tb L TL) (G : GS h L TL i lv a af) (hf : 12 * (TL.length - i) + 2 ≤ f + 1) : Rp (d + 3 * (8 - dep) + 6) M_X7_term 0 [some (.ref 35), some (.int (nI dep)), none, none] [] h (fun r h' => r = none ∧ cQ h ord L TL a af (seqL (Prs ord (cT tb TL) (vT tb TL) f 11 dep i lv a) a (Prs ord (cT tb TL) (vT tb TL) f 10 dep)) h') := by
  have S := B.1.1
  have R := B.1.2.1
  have hT := B.le
  have q1 := ih 11 d dep i lv a af h (by decide) hd h1i hi hl ha B G (by show _ + 1 ≤ f; omega)
  have o1 := Prs_ok (ord := ord) (v := vT tb TL) (cT_end tb TL) f 11 dep i lv a (by decide) hi hl
  refine Rp.aload_n dX7_term_0 rfl rfl ?_
  refine Rp.iload_n dX7_term_1 rfl ?_
  refine Rp.callV1 M_X7_part (ci := 7) dX7_term_2 mo_X7_part lk_X7_136 (by decide) rfl rfl (S _ _ rfl) (Nat.le_of_ble_eq_true rfl) (Nat.le_of_ble_eq_true rfl) (q1) (fun v1 h1 p1 x1 => ?_)
  obtain ⟨rfl, p1⟩ := p1
  try dsimp only [Option.toList, List.cons_append, List.nil_append, List.append]
  refine Rp.iconst (nI 0) dX7_term_5 (by decide) ?_
  refine Rp.ist2 dX7_term_6 (by first | exact nl2_some rfl | exact nl2_none) (by decide) ?_
  skip
  generalize Prs ord (cT tb TL) (vT tb TL) f 11 dep i lv a = x at p1 o1 ⊢
  rcases cQ_cases B.1.2.2.1 B.2.2 o1 p1 with ⟨e, rfl, hb, hz⟩ | ⟨i1, lv1, cd, D, rfl, g1, g2, g3, g4, g5⟩
  · exact Rp.mono (fun r h' p => ⟨p.1, cQ_bad_end p1 p.2⟩) (bad_term7c (d + 3 * (8 - dep) + 6) (p1.1.S S) hb hz _ (by decide) _)
  · have g3 := g3 rfl
    have e0 : slM 11 = 0 := rfl
    exact Rp.mono (fun r h' p => ⟨p.1, cQ_seq p1 p.2⟩) (ih 10 d dep i1 lv1 (a + cd.length) _ _ (by decide) hd (by omega) g2 g4 (by show _ + 0 ≤ _; omega) (B.fr p1.1) p1.2.1 (by show _ + 8 ≤ f; omega) 0 none (by omega))

theorem cQ_av {h h1 h2 : AH} {ord : Bool} {L : Nat} {TL : List (Nat × Nat)} {a : Nat} {af : Bool} {x : Except Nat LR} (F : Fr avX h h1) (e : ∀ j, gI h1 39 j = gI h 39 j) (p : cQ h1 ord L TL a af x h2) : cQ h ord L TL a af x h2 := by
  match x, p with
  | .error e, p => exact ⟨F.av.trans p.1, p.2⟩
  | .ok (i1, lv1, cd, D), p => exact ⟨F.av.trans p.1, p.2.1, fun j hj => (p.2.2.1 j hj).trans (e j), p.2.2.2⟩

theorem Cc_2 {ord : Bool} {tb : Nat → Int32} {L : Nat} {TL : List (Nat × Nat)} {f : Nat} (ih : CIx ord tb L TL f) (d dep i lv a : Nat) (af : Bool) (h : AH) (hd : dep ≤ 8) (h1i : 1 ≤ i) (hi : i ≤ TL.length) (hl : lv ≤ 50) (ha : a ≤ i + 35) (B : CB h ord tb L TL) (G : GS h L TL i lv a af) (hf : 12 * (TL.length - i) + 8 ≤ f + 1) (n : Nat) (a3 : Option Value) (hn : n < i) : Rp (d + 3 * (8 - dep) + 11) M_X7_anyOf 7 [some (.ref 35), some (.int (nI dep)), some (.int (nI n)), a3] [] h (fun r h' => r = none ∧ cQ h ord L TL a af (if cT tb TL i = 6 then jmpL 4 (Prs ord (cT tb TL) (vT tb TL) f 1 dep (i + 1) lv (a + 1)) a (Prs ord (cT tb TL) (vT tb TL) f 2 dep) else .ok (i, lv, [], fun _ x => some x)) h') := by
  have S := B.1.1
  have R := B.1.2.1
  have hT := B.le
  have go := t_goes (d + 3 * (8 - dep) + 5) B.1 B.tl (k := 10) (by decide) (by decide) G.1 G.2.2.1
  rw [B.2.1] at go
  refine Rp.iload_n dX7_anyOf_7 rfl ?_
  refine Rp.sipush (nI 400) dX7_anyOf_8 (by decide) ?_
  first | ((with_reducible show Rp _ _ _ _ (.int (nI _) :: .int (nI _) :: _) _ _); refine Rp.icmp_geN (tgt := 52) dX7_anyOf_11 (by decide) (by omega) (fun c11 => ?_) (fun c11 => ?_)) | refine Rp.icmp_ge (tgt := 52) dX7_anyOf_11 (by decide) (fun c11 => ?_) (fun c11 => ?_)
  · first | (exfalso; omega) | exact absurd c11 (by decide) | exact absurd (by decide) c11
  refine Rp.aload_n dX7_anyOf_14 rfl rfl ?_
  refine Rp.ldcS (k := 10) dX7_anyOf_15 (by decide) rfl rfl ?_
  refine Rp.callV1 M_X7_goesOnWith (ci := 7) dX7_anyOf_17 mo_X7_goesOnWith lk_X7_76 (by decide) rfl rfl (S _ _ rfl) (Nat.le_of_ble_eq_true rfl) (Nat.le_of_ble_eq_true rfl) (go) (fun v1 h1 p1 x1 => ?_)
  skip
  try dsimp only [Option.toList, List.cons_append, List.nil_append, List.append]
  skip
  rcases p1 with ⟨e, rfl, F, T1⟩ | ⟨e, rfl, rfl⟩
  · have e : cT tb TL i = 6 := e
    rw [if_pos e]
    have hi1 : i + 1 ≤ TL.length := cT_len (tb := tb) (by rw [e]; decide)
    have S1 := F.S S
    have R1 := F.R R (by decide)
    have G1 := G.av F T1
    have em := t_emit (d + 3 * (8 - dep) + 10) S1 R1 (o := 4) (v := 0) (a := a) (by decide) (by decide) (by omega) G1.2.2.2.1
    have GE := G1.emit (enc (4, 0))
    have FE : Fr rX h1 (sI (sI h1 39 a (enc (4, 0))) 37 3 (nI (a + 1))) := (Fr.rfl'.sI rfl).sI rfl
    have BE := (B.fr F.av).fr FE
    have q1 := ih 1 d dep (i + 1) lv (a + 1) af _ (by decide) hd (by omega) hi1 hl (by show _ + 0 ≤ _; omega) BE GE (by show _ + 6 ≤ f; omega)
    have o1 := Prs_ok (ord := ord) (v := vT tb TL) (cT_end tb TL) f 1 dep (i + 1) lv (a + 1) (by decide) hi1 hl
    dsimp only [Option.toList, List.cons_append, List.nil_append, List.append]
    first | ((with_reducible show Rp _ _ _ _ (.int (b2i _) :: _) _ _); refine Rp.if_eqB (tgt := 52) dX7_anyOf_20 (by decide) (fun c20 => ?_) (fun c20 => ?_)) | ((with_reducible show Rp _ _ _ _ (.int (nI _) :: _) _ _); refine Rp.if_eqN (tgt := 52) dX7_anyOf_20 (by decide) (by omega) (fun c20 => ?_) (fun c20 => ?_)) | refine Rp.if_eq (tgt := 52) dX7_anyOf_20 (by decide) (fun c20 => ?_) (fun c20 => ?_)
    · first | (exfalso; omega) | exact absurd c20 (by decide) | exact absurd (by decide) c20
    refine Rp.aload_n dX7_anyOf_23 rfl rfl ?_
    refine Rp.getR dX7_anyOf_24 fk_X7_18 rfl (S1 _ _ rfl) (R1 _ _ _ rfl) ?_
    refine Rp.iconst (nI 4) dX7_anyOf_27 (by decide) ?_
    refine Rp.iconst (nI 0) dX7_anyOf_28 (by decide) ?_
    refine Rp.callV2 M_X9_emit (ci := 9) dX7_anyOf_29 mo_X9_emit lk_X7_98 (by decide) rfl rfl (S1 _ _ rfl) (Nat.le_of_ble_eq_true rfl) (Nat.le_of_ble_eq_true rfl) (em) (fun v1 h1 p1 x1 => ?_)
    rw [p1.1, p1.2]
    try dsimp only [Option.toList, List.cons_append, List.nil_append, List.append]
    refine Rp.ist3 dX7_anyOf_32 (by first | exact nl2_some rfl | exact nl2_none) (by decide) ?_
    refine Rp.aload_n dX7_anyOf_33 rfl rfl ?_
    refine Rp.iload_n dX7_anyOf_34 rfl ?_
    refine Rp.callV1 M_X7_allOf (ci := 7) dX7_anyOf_35 mo_X7_allOf lk_X7_108 (by decide) rfl rfl (S1 _ _ rfl) (Nat.le_of_ble_eq_true rfl) (Nat.le_of_ble_eq_true rfl) (q1) (fun v1 h1 p1 x1 => ?_)
    obtain ⟨rfl, p1⟩ := p1
    try dsimp only [Option.toList, List.cons_append, List.nil_append, List.append]
    skip
    generalize Prs ord (cT tb TL) (vT tb TL) f 1 dep (i + 1) lv (a + 1) = x at p1 o1 ⊢
    have S2 := p1.1.S (FE.S S1)
    have R2 := p1.1.R (FE.R R1 (by decide)) (by decide)
    rcases cQ_cases B.1.2.2.1 B.2.2 o1 p1 with ⟨e2, rfl, hb, m, hm, hz⟩ | ⟨i1, lv1, cd, D, rfl, g1, g2, g3, g4, g5⟩
    · skip
      refine Rp.aload_n dX7_anyOf_38 rfl rfl ?_
      refine Rp.getR dX7_anyOf_39 fk_X7_18 rfl (S2 _ _ rfl) (R2 _ _ _ rfl) ?_
      refine Rp.iload_n dX7_anyOf_42 rfl ?_
      refine Rp.callV1 M_X9_aimHere (ci := 9) dX7_anyOf_43 mo_X9_aimHere lk_X7_113 (by decide) rfl rfl (S2 _ _ rfl) (Nat.le_of_ble_eq_true rfl) (Nat.le_of_ble_eq_true rfl) (bad_aim (d + 3 * (8 - dep) + 10) S2 R2 hm hz) (fun v1 h1 p1 x1 => ?_)
      obtain ⟨p2, p3, p4, rfl⟩ := p1
      try dsimp only [Option.toList, List.cons_append, List.nil_append, List.append]
      first | ((with_reducible show Rp _ _ _ (_ :: _ :: some (.int (nI _)) :: _) _ _ _); refine Rp.inc2N (c := 1) dX7_anyOf_46 (by first | exact nl2_some rfl | exact nl2_none) (by decide) ?_) | refine Rp.inc2 _ dX7_anyOf_46 rfl (by first | exact nl2_some rfl | exact nl2_none) (by decide) ?_
      refine Rp.goto (tgt := 7) dX7_anyOf_49 (by decide) ?_
      skip
      exact Rp.mono (fun r h' p => ⟨p.1, cQ_pre_err (F.av.trans FE) (cQ_bad_end (a' := a + 1) (af' := af) p1 ⟨p2.trans p.2.1, p.2.2.1.trans p3, p.2.2.2⟩)⟩) (bad_any7 (d + 3 * (8 - dep) + 5) (p2.S S2) (by rw [p3]; exact hb) p4 _ (by omega) _)
    · have g3 := g3 rfl
      have e0 : slM 1 = 0 := rfl
      have hx : gI h1 39 a = enc (4, 0) := by rw [p1.2.2.1 a (by omega), gI_ne _ _ _ _ (by decide), gI_hit]
      have am := t_aim (d + 3 * (8 - dep) + 10) S2 R2 (o := 4) (c := a) (a := a + 1 + cd.length) (by decide) (by omega) (by omega) p1.2.1.2.2.2.1 hx
      have pj := cQ_aim (D' := D) (by decide) G1 p1
      have Gj := pj.2.1
      rw [GS_jmp (by decide)] at Gj
      refine Rp.aload_n dX7_anyOf_38 rfl rfl ?_
      refine Rp.getR dX7_anyOf_39 fk_X7_18 rfl (S2 _ _ rfl) (R2 _ _ _ rfl) ?_
      refine Rp.iload_n dX7_anyOf_42 rfl ?_
      refine Rp.callV1 M_X9_aimHere (ci := 9) dX7_anyOf_43 mo_X9_aimHere lk_X7_113 (by decide) rfl rfl (S2 _ _ rfl) (Nat.le_of_ble_eq_true rfl) (Nat.le_of_ble_eq_true rfl) (am) (fun v1 h1 p1 x1 => ?_)
      obtain ⟨rfl, rfl⟩ := p1
      try dsimp only [Option.toList, List.cons_append, List.nil_append, List.append]
      first | ((with_reducible show Rp _ _ _ (_ :: _ :: some (.int (nI _)) :: _) _ _ _); refine Rp.inc2N (c := 1) dX7_anyOf_46 (by first | exact nl2_some rfl | exact nl2_none) (by decide) ?_) | refine Rp.inc2 _ dX7_anyOf_46 rfl (by first | exact nl2_some rfl | exact nl2_none) (by decide) ?_
      refine Rp.goto (tgt := 7) dX7_anyOf_49 (by decide) ?_
      skip
      exact Rp.mono (fun r h' p => ⟨p.1, cQ_av F (fun j => F.I 39 j rfl) (cQ_jmp (by decide) pj p.2)⟩) (ih 2 d dep i1 lv1 (a + 1 + cd.length) _ _ (by decide) hd (by omega) g2 g4 (by show _ + 0 ≤ _; omega) ((B.fr F.av).fr pj.1) Gj (by show _ + 8 ≤ f; omega) (n + 1) _ (by omega))
  · rw [if_neg (show ¬ cT tb TL i = 6 from e)]
    dsimp only [Option.toList, List.cons_append, List.nil_append, List.append]
    first | ((with_reducible show Rp _ _ _ _ (.int (b2i _) :: _) _ _); refine Rp.if_eqB (tgt := 52) dX7_anyOf_20 (by decide) (fun c20 => ?_) (fun c20 => ?_)) | ((with_reducible show Rp _ _ _ _ (.int (nI _) :: _) _ _); refine Rp.if_eqN (tgt := 52) dX7_anyOf_20 (by decide) (by omega) (fun c20 => ?_) (fun c20 => ?_)) | refine Rp.if_eq (tgt := 52) dX7_anyOf_20 (by decide) (fun c20 => ?_) (fun c20 => ?_)
    · skip
      refine Rp.vreturn dX7_anyOf_52 rfl ?_
      exact ⟨rfl, cQ_nil G⟩
    · skip
      first | (exfalso; omega) | exact absurd c20 (by decide) | exact absurd (by decide) c20

theorem Cc_4 {ord : Bool} {tb : Nat → Int32} {L : Nat} {TL : List (Nat × Nat)} {f : Nat} (ih : CIx ord tb L TL f) (d dep i lv a : Nat) (af : Bool) (h : AH) (hd : dep ≤ 8) (h1i : 1 ≤ i) (hi : i ≤ TL.length) (hl : lv ≤ 50) (ha : a ≤ i + 35) (B : CB h ord tb L TL) (G : GS h L TL i lv a af) (hf : 12 * (TL.length - i) + 8 ≤ f + 1) (n : Nat) (a3 : Option Value) (hn : n < i) : Rp (d + 3 * (8 - dep) + 10) M_X7_allOf 7 [some (.ref 35), some (.int (nI dep)), some (.int (nI n)), a3] [] h (fun r h' => r = none ∧ cQ h ord L TL a af (if cT tb TL i = 7 then jmpL 3 (Prs ord (cT tb TL) (vT tb TL) f 3 dep (i + 1) lv (a + 1)) a (Prs ord (cT tb TL) (vT tb TL) f 4 dep) else .ok (i, lv, [], fun _ x => some x)) h') := by
  have S := B.1.1
  have R := B.1.2.1
  have hT := B.le
  have go := t_goes (d + 3 * (8 - dep) + 4) B.1 B.tl (k := 9) (by decide) (by decide) G.1 G.2.2.1
  rw [B.2.1] at go
  refine Rp.iload_n dX7_allOf_7 rfl ?_
  refine Rp.sipush (nI 400) dX7_allOf_8 (by decide) ?_
  first | ((with_reducible show Rp _ _ _ _ (.int (nI _) :: .int (nI _) :: _) _ _); refine Rp.icmp_geN (tgt := 52) dX7_allOf_11 (by decide) (by omega) (fun c11 => ?_) (fun c11 => ?_)) | refine Rp.icmp_ge (tgt := 52) dX7_allOf_11 (by decide) (fun c11 => ?_) (fun c11 => ?_)
  · first | (exfalso; omega) | exact absurd c11 (by decide) | exact absurd (by decide) c11
  refine Rp.aload_n dX7_allOf_14 rfl rfl ?_
  refine Rp.ldcS (k := 9) dX7_allOf_15 (by decide) rfl rfl ?_
  refine Rp.callV1 M_X7_goesOnWith (ci := 7) dX7_allOf_17 mo_X7_goesOnWith lk_X7_76 (by decide) rfl rfl (S _ _ rfl) (Nat.le_of_ble_eq_true rfl) (Nat.le_of_ble_eq_true rfl) (go) (fun v1 h1 p1 x1 => ?_)
  skip
  try dsimp only [Option.toList, List.cons_append, List.nil_append, List.append]
  skip
  rcases p1 with ⟨e, rfl, F, T1⟩ | ⟨e, rfl, rfl⟩
  · have e : cT tb TL i = 7 := e
    rw [if_pos e]
    have hi1 : i + 1 ≤ TL.length := cT_len (tb := tb) (by rw [e]; decide)
    have S1 := F.S S
    have R1 := F.R R (by decide)
    have G1 := G.av F T1
    have em := t_emit (d + 3 * (8 - dep) + 9) S1 R1 (o := 3) (v := 0) (a := a) (by decide) (by decide) (by omega) G1.2.2.2.1
    have GE := G1.emit (enc (3, 0))
    have FE : Fr rX h1 (sI (sI h1 39 a (enc (3, 0))) 37 3 (nI (a + 1))) := (Fr.rfl'.sI rfl).sI rfl
    have BE := (B.fr F.av).fr FE
    have q1 := ih 3 d dep (i + 1) lv (a + 1) af _ (by decide) hd (by omega) hi1 hl (by show _ + 0 ≤ _; omega) BE GE (by show _ + 5 ≤ f; omega)
    have o1 := Prs_ok (ord := ord) (v := vT tb TL) (cT_end tb TL) f 3 dep (i + 1) lv (a + 1) (by decide) hi1 hl
    dsimp only [Option.toList, List.cons_append, List.nil_append, List.append]
    first | ((with_reducible show Rp _ _ _ _ (.int (b2i _) :: _) _ _); refine Rp.if_eqB (tgt := 52) dX7_allOf_20 (by decide) (fun c20 => ?_) (fun c20 => ?_)) | ((with_reducible show Rp _ _ _ _ (.int (nI _) :: _) _ _); refine Rp.if_eqN (tgt := 52) dX7_allOf_20 (by decide) (by omega) (fun c20 => ?_) (fun c20 => ?_)) | refine Rp.if_eq (tgt := 52) dX7_allOf_20 (by decide) (fun c20 => ?_) (fun c20 => ?_)
    · first | (exfalso; omega) | exact absurd c20 (by decide) | exact absurd (by decide) c20
    refine Rp.aload_n dX7_allOf_23 rfl rfl ?_
    refine Rp.getR dX7_allOf_24 fk_X7_18 rfl (S1 _ _ rfl) (R1 _ _ _ rfl) ?_
    refine Rp.iconst (nI 3) dX7_allOf_27 (by decide) ?_
    refine Rp.iconst (nI 0) dX7_allOf_28 (by decide) ?_
    refine Rp.callV2 M_X9_emit (ci := 9) dX7_allOf_29 mo_X9_emit lk_X7_98 (by decide) rfl rfl (S1 _ _ rfl) (Nat.le_of_ble_eq_true rfl) (Nat.le_of_ble_eq_true rfl) (em) (fun v1 h1 p1 x1 => ?_)
    rw [p1.1, p1.2]
    try dsimp only [Option.toList, List.cons_append, List.nil_append, List.append]
    refine Rp.ist3 dX7_allOf_32 (by first | exact nl2_some rfl | exact nl2_none) (by decide) ?_
    refine Rp.aload_n dX7_allOf_33 rfl rfl ?_
    refine Rp.iload_n dX7_allOf_34 rfl ?_
    refine Rp.callV1 M_X7_plain (ci := 7) dX7_allOf_35 mo_X7_plain lk_X7_116 (by decide) rfl rfl (S1 _ _ rfl) (Nat.le_of_ble_eq_true rfl) (Nat.le_of_ble_eq_true rfl) (plain0c (nl2_some rfl) (q1 0 (by omega))) (fun v1 h1 p1 x1 => ?_)
    obtain ⟨rfl, p1⟩ := p1
    try dsimp only [Option.toList, List.cons_append, List.nil_append, List.append]
    skip
    generalize Prs ord (cT tb TL) (vT tb TL) f 3 dep (i + 1) lv (a + 1) = x at p1 o1 ⊢
    have S2 := p1.1.S (FE.S S1)
    have R2 := p1.1.R (FE.R R1 (by decide)) (by decide)
    rcases cQ_cases B.1.2.2.1 B.2.2 o1 p1 with ⟨e2, rfl, hb, m, hm, hz⟩ | ⟨i1, lv1, cd, D, rfl, g1, g2, g3, g4, g5⟩
    · skip
      refine Rp.aload_n dX7_allOf_38 rfl rfl ?_
      refine Rp.getR dX7_allOf_39 fk_X7_18 rfl (S2 _ _ rfl) (R2 _ _ _ rfl) ?_
      refine Rp.iload_n dX7_allOf_42 rfl ?_
      refine Rp.callV1 M_X9_aimHere (ci := 9) dX7_allOf_43 mo_X9_aimHere lk_X7_113 (by decide) rfl rfl (S2 _ _ rfl) (Nat.le_of_ble_eq_true rfl) (Nat.le_of_ble_eq_true rfl) (bad_aim (d + 3 * (8 - dep) + 9) S2 R2 hm hz) (fun v1 h1 p1 x1 => ?_)
      obtain ⟨p2, p3, p4, rfl⟩ := p1
      try dsimp only [Option.toList, List.cons_append, List.nil_append, List.append]
      first | ((with_reducible show Rp _ _ _ (_ :: _ :: some (.int (nI _)) :: _) _ _ _); refine Rp.inc2N (c := 1) dX7_allOf_46 (by first | exact nl2_some rfl | exact nl2_none) (by decide) ?_) | refine Rp.inc2 _ dX7_allOf_46 rfl (by first | exact nl2_some rfl | exact nl2_none) (by decide) ?_
      refine Rp.goto (tgt := 7) dX7_allOf_49 (by decide) ?_
      skip
      exact Rp.mono (fun r h' p => ⟨p.1, cQ_pre_err (F.av.trans FE) (cQ_bad_end (a' := a + 1) (af' := af) p1 ⟨p2.trans p.2.1, p.2.2.1.trans p3, p.2.2.2⟩)⟩) (bad_all7 (d + 3 * (8 - dep) + 4) (p2.S S2) (by rw [p3]; exact hb) p4 _ (by omega) _)
    · have g3 := g3 rfl
      have e0 : slM 3 = 0 := rfl
      have hx : gI h1 39 a = enc (3, 0) := by rw [p1.2.2.1 a (by omega), gI_ne _ _ _ _ (by decide), gI_hit]
      have am := t_aim (d + 3 * (8 - dep) + 9) S2 R2 (o := 3) (c := a) (a := a + 1 + cd.length) (by decide) (by omega) (by omega) p1.2.1.2.2.2.1 hx
      have pj := cQ_aim (D' := D) (by decide) G1 p1
      have Gj := pj.2.1
      rw [GS_jmp (by decide)] at Gj
      refine Rp.aload_n dX7_allOf_38 rfl rfl ?_
      refine Rp.getR dX7_allOf_39 fk_X7_18 rfl (S2 _ _ rfl) (R2 _ _ _ rfl) ?_
      refine Rp.iload_n dX7_allOf_42 rfl ?_
      refine Rp.callV1 M_X9_aimHere (ci := 9) dX7_allOf_43 mo_X9_aimHere lk_X7_113 (by decide) rfl rfl (S2 _ _ rfl) (Nat.le_of_ble_eq_true rfl) (Nat.le_of_ble_eq_true rfl) (am) (fun v1 h1 p1 x1 => ?_)
      obtain ⟨rfl, rfl⟩ := p1
      try dsimp only [Option.toList, List.cons_append, List.nil_append, List.append]
      first | ((with_reducible show Rp _ _ _ (_ :: _ :: some (.int (nI _)) :: _) _ _ _); refine Rp.inc2N (c := 1) dX7_allOf_46 (by first | exact nl2_some rfl | exact nl2_none) (by decide) ?_) | refine Rp.inc2 _ dX7_allOf_46 rfl (by first | exact nl2_some rfl | exact nl2_none) (by decide) ?_
      refine Rp.goto (tgt := 7) dX7_allOf_49 (by decide) ?_
      skip
      exact Rp.mono (fun r h' p => ⟨p.1, cQ_av F (fun j => F.I 39 j rfl) (cQ_jmp (by decide) pj p.2)⟩) (ih 4 d dep i1 lv1 (a + 1 + cd.length) _ _ (by decide) hd (by omega) g2 g4 (by show _ + 0 ≤ _; omega) ((B.fr F.av).fr pj.1) Gj (by show _ + 8 ≤ f; omega) (n + 1) _ (by omega))
  · rw [if_neg (show ¬ cT tb TL i = 7 from e)]
    dsimp only [Option.toList, List.cons_append, List.nil_append, List.append]
    first | ((with_reducible show Rp _ _ _ _ (.int (b2i _) :: _) _ _); refine Rp.if_eqB (tgt := 52) dX7_allOf_20 (by decide) (fun c20 => ?_) (fun c20 => ?_)) | ((with_reducible show Rp _ _ _ _ (.int (nI _) :: _) _ _); refine Rp.if_eqN (tgt := 52) dX7_allOf_20 (by decide) (by omega) (fun c20 => ?_) (fun c20 => ?_)) | refine Rp.if_eq (tgt := 52) dX7_allOf_20 (by decide) (fun c20 => ?_) (fun c20 => ?_)
    · skip
      refine Rp.vreturn dX7_allOf_52 rfl ?_
      exact ⟨rfl, cQ_nil G⟩
    · skip
      first | (exfalso; omega) | exact absurd c20 (by decide) | exact absurd (by decide) c20
