theorem TS.mv {h h' : AH} {L i : Nat} {TL : List (Nat × Nat)} (T : TS h L TL i) (e : gI h' 36 = gI h 36) (e5 : gI h' 35 5 = gI h 35 5) (e6 : gI h' 35 6 = gI h 35 6) (e7 : gI h' 35 7 = gI h 35 7) (e8 : gI h' 35 8 = gI h 35 8) : TS h' L TL i := by
  unfold TS at T ⊢
  rw [e, e5, e6, e7, e8]; exact T
theorem gI36 (h : AH) {k : Nat} (j : Nat) (x : Int32) (hk : k ≠ 36) : gI (sI h k j x) 36 = gI h 36 := funext fun i => gI_ne h j x i (Ne.symm hk)
theorem TS.o {h : AH} {L i : Nat} {TL : List (Nat × Nat)} (T : TS h L TL i) {k : Nat} (j : Nat) (x : Int32) (hk : k ≠ 36) (hk2 : k ≠ 35) : TS (sI h k j x) L TL i := T.mv (gI36 h j x hk) (gI_ne h j x _ (Ne.symm hk2)) (gI_ne h j x _ (Ne.symm hk2)) (gI_ne h j x _ (Ne.symm hk2)) (gI_ne h j x _ (Ne.symm hk2))
theorem TS.q {h : AH} {L i : Nat} {TL : List (Nat × Nat)} (T : TS h L TL i) {j : Nat} (x : Int32) (hj : j = 3 ∨ j = 9) : TS (sI h 35 j x) L TL i := T.mv (gI36 h j x (by decide)) (gI_off h _ x (by omega)) (gI_off h _ x (by omega)) (gI_off h _ x (by omega)) (gI_off h _ x (by omega))
def fitC (ord : Bool) (cd : List (Nat × Nat)) : Bool := ord && cd.any (fun q => q.1 == 2 && q.2 == 3)
def GS (h : AH) (L : Nat) (TL : List (Nat × Nat)) (i lv a : Nat) (af : Bool) : Prop := TS h L TL i ∧ gI h 35 9 = nI lv ∧ gI h 35 3 = -1 ∧ gI h 37 3 = nI a ∧ gI h 37 4 = b2i af
def cQ (h : AH) (ord : Bool) (L : Nat) (TL : List (Nat × Nat)) (a : Nat) (af : Bool) (q : Except Nat LR) (h' : AH) : Prop := Fr rX h h' ∧ match q with
  | .error e => gI h' 35 3 = nI (pT L TL e) ∧ ∃ n, n ≤ 436 ∧ gI h' 37 3 = nI n
  | .ok (i', lv', cd, _) => GS h' L TL i' lv' (a + cd.length) (af || fitC ord cd) ∧ (∀ j, j < a → gI h' 39 j = gI h 39 j) ∧ (∀ n q, cd[n]? = some q → gI h' 39 (a + n) = enc q)
theorem cQ_err {h : AH} {ord : Bool} {L : Nat} {TL : List (Nat × Nat)} {i lv a : Nat} {af : Bool} (ha : a ≤ 436) (G : GS h L TL i lv a af) : cQ h ord L TL a af (.error i) (sI h 35 3 (gI h 35 6)) := ⟨Fr.rfl'.sI rfl, by rw [gI_hit]; exact TS_start G.1, a, ha, by rw [gI_ne _ _ _ _ (by decide)]; exact G.2.2.2.1⟩
theorem GS.av {h h' : AH} {L : Nat} {TL : List (Nat × Nat)} {i j lv a : Nat} {af : Bool} (G : GS h L TL i lv a af) (F : Fr avX h h') (T : TS h' L TL j) : GS h' L TL j lv a af := ⟨T, (F.I 35 9 rfl).trans G.2.1, (F.I 35 3 rfl).trans G.2.2.1, (F.I 37 3 rfl).trans G.2.2.2.1, (F.I 37 4 rfl).trans G.2.2.2.2⟩
theorem GS.emit {h : AH} {L : Nat} {TL : List (Nat × Nat)} {i lv a : Nat} {af : Bool} (G : GS h L TL i lv a af) (x : Int32) : GS (sI (sI h 39 a x) 37 3 (nI (a + 1))) L TL i lv (a + 1) af := ⟨(G.1.o a x (by decide) (by decide)).o _ _ (by decide) (by decide), by rw [gI_ne _ _ _ _ (by decide), gI_ne _ _ _ _ (by decide)]; exact G.2.1, by rw [gI_ne _ _ _ _ (by decide), gI_ne _ _ _ _ (by decide)]; exact G.2.2.1, gI_hit _ _ _ _, by rw [gI_off _ _ _ (by decide), gI_ne _ _ _ _ (by decide)]; exact G.2.2.2.2⟩
theorem GS.parts {h : AH} {L : Nat} {TL : List (Nat × Nat)} {i lv a : Nat} {af : Bool} (G : GS h L TL i lv a af) (n : Nat) : GS (sI h 35 9 (nI n)) L TL i n a af := ⟨G.1.q _ (Or.inr rfl), gI_hit _ _ _ _, by rw [gI_off _ _ _ (by decide)]; exact G.2.2.1, by rw [gI_ne _ _ _ _ (by decide)]; exact G.2.2.2.1, by rw [gI_ne _ _ _ _ (by decide)]; exact G.2.2.2.2⟩
theorem GS.ask {h : AH} {L : Nat} {TL : List (Nat × Nat)} {i lv a : Nat} {af : Bool} (G : GS h L TL i lv a af) (b : Bool) : GS (sI h 37 4 (b2i b)) L TL i lv a b := ⟨G.1.o _ _ (by decide) (by decide), by rw [gI_ne _ _ _ _ (by decide)]; exact G.2.1, by rw [gI_ne _ _ _ _ (by decide)]; exact G.2.2.1, by rw [gI_off _ _ _ (by decide)]; exact G.2.2.2.1, gI_hit _ _ _ _⟩
/-- one cell of code came -/
theorem cQ_one {h h' : AH} {ord : Bool} {L : Nat} {TL : List (Nat × Nat)} {i lv a : Nat} {af : Bool} {D : DN} {q : Nat × Nat} (F : Fr rX h h') (G : GS h' L TL i lv (a + 1) (af || fitC ord [q])) (h1 : ∀ j, j < a → gI h' 39 j = gI h 39 j) (h2 : gI h' 39 a = enc q) : cQ h ord L TL a af (.ok (i, lv, [q], D)) h' := ⟨F, G, h1, fun n q' hq => by
  match n, hq with
  | 0, hq => cases hq; exact h2
  | n + 1, hq => cases hq⟩
section Wo
variable (d : Nat) {h : AH} {ord : Bool} {L : Nat} {TL : List (Nat × Nat)}
theorem b2i_or (a b : Bool) : b2i a ||| b2i b = b2i (a || b) := by cases a <;> cases b <;> decide
theorem t_wordS (B : RB h ord L) {i lv a w : Nat} {af : Bool} (hw : w < 9) (hw2 : ord = true → w < 5) (G : GS h L TL i lv a af) (ha : a < 436) : Rp (d + 1) M_X7_word 0 [some (.ref 35), some (.int (nI w)), none] [] h (fun r h' => r = none ∧ h' = sI (sI (sI h 37 4 (b2i (af || (ord && decide (w = 3))))) 39 a (enc (2, w))) 37 3 (nI (a + 1))) := by
  obtain ⟨S, R, hL, hl, ho⟩ := B
  have hq := G.2.2.2.2
  have ez : gI (sI h 37 4 (b2i (af || (ord && decide (w = 3))))) 37 3 = nI a := by rw [gI_off _ _ _ (by decide)]; exact G.2.2.2.1
  have em := t_emit d (h := sI h 37 4 (b2i (af || (ord && decide (w = 3))))) S R (o := 2) (v := w) (a := a) (by decide) (by omega) ha ez
  cases ord with
  | false =>
    rw [show b2i false = nI 0 from rfl] at ho
    have e1 : (af || (false && decide (w = 3))) = af := by cases af <;> rfl
    rw [e1] at em ⊢
    refine Rp.aload_n dX7_word_0 rfl rfl ?_
    refine Rp.getI dX7_word_1 fk_X7_29 rfl (S _ _ rfl) ?_
    first | rw [ho] | rw [hq] | skip
    first | ((with_reducible show Rp _ _ _ _ (.int (b2i _) :: _) _ _); refine Rp.if_eqB (tgt := 12) dX7_word_4 (by decide) (fun c4 => ?_) (fun c4 => ?_)) | ((with_reducible show Rp _ _ _ _ (.int (nI _) :: _) _ _); refine Rp.if_eqN (tgt := 12) dX7_word_4 (by decide) (by omega) (fun c4 => ?_) (fun c4 => ?_)) | refine Rp.if_eq (tgt := 12) dX7_word_4 (by decide) (fun c4 => ?_) (fun c4 => ?_)
    · skip
      refine Rp.aload_n dX7_word_12 rfl rfl ?_
      refine Rp.getR dX7_word_13 fk_X7_18 rfl (S _ _ rfl) (R _ _ _ rfl) ?_
      refine Rp.dup dX7_word_16 rfl ?_
      refine Rp.getI dX7_word_17 fk_X7_148 rfl (S _ _ rfl) ?_
      first | rw [ho] | rw [hq] | skip
      refine Rp.aload_n dX7_word_20 rfl rfl ?_
      refine Rp.getI dX7_word_21 fk_X7_29 rfl (S _ _ rfl) ?_
      first | rw [ho] | rw [hq] | skip
      first | ((with_reducible show Rp _ _ _ _ (.int (b2i _) :: _) _ _); refine Rp.if_eqB (tgt := 36) dX7_word_24 (by decide) (fun c24 => ?_) (fun c24 => ?_)) | ((with_reducible show Rp _ _ _ _ (.int (nI _) :: _) _ _); refine Rp.if_eqN (tgt := 36) dX7_word_24 (by decide) (by omega) (fun c24 => ?_) (fun c24 => ?_)) | refine Rp.if_eq (tgt := 36) dX7_word_24 (by decide) (fun c24 => ?_) (fun c24 => ?_)
      · skip
        refine Rp.iconst (nI 0) dX7_word_36 (by decide) ?_
        refine Rp.ior dX7_word_37 ?_
        rw [show nI 0 = b2i false from rfl, b2i_or, Bool.or_false]
        refine Rp.putZ dX7_word_38 fk_X7_148w rfl (b2i_01 _) (S _ _ rfl) ?_
        refine Rp.aload_n dX7_word_41 rfl rfl ?_
        refine Rp.getR dX7_word_42 fk_X7_18 rfl (S _ _ rfl) (R _ _ _ rfl) ?_
        refine Rp.iconst (nI 2) dX7_word_45 (by decide) ?_
        refine Rp.iload_n dX7_word_46 rfl ?_
        refine Rp.callV2 M_X9_emit (ci := 9) dX7_word_47 mo_X9_emit lk_X7_98 (by decide) rfl rfl (S _ _ rfl) (Nat.le_of_ble_eq_true rfl) (Nat.le_of_ble_eq_true rfl) (em) (fun v1 h1 p1 x1 => ?_)
        rw [p1.1, p1.2]
        try dsimp only [Option.toList, List.cons_append, List.nil_append, List.append]
        refine Rp.pop dX7_word_50 rfl ?_
        refine Rp.vreturn dX7_word_51 rfl ?_
        exact ⟨rfl, rfl⟩
      · skip
        first | (exfalso; omega) | exact absurd c24 (by decide) | exact absurd (by decide) c24
    · skip
      first | (exfalso; omega) | exact absurd c4 (by decide) | exact absurd (by decide) c4
  | true =>
    have hw5 := hw2 rfl
    rw [show b2i true = nI 1 from rfl] at ho
    by_cases e3 : w = 3
    · have e1 : (af || (true && decide (w = 3))) = true := by rw [decide_eq_true e3]; cases af <;> rfl
      rw [e1] at em ⊢
      refine Rp.aload_n dX7_word_0 rfl rfl ?_
      refine Rp.getI dX7_word_1 fk_X7_29 rfl (S _ _ rfl) ?_
      first | rw [ho] | rw [hq] | skip
      first | ((with_reducible show Rp _ _ _ _ (.int (b2i _) :: _) _ _); refine Rp.if_eqB (tgt := 12) dX7_word_4 (by decide) (fun c4 => ?_) (fun c4 => ?_)) | ((with_reducible show Rp _ _ _ _ (.int (nI _) :: _) _ _); refine Rp.if_eqN (tgt := 12) dX7_word_4 (by decide) (by omega) (fun c4 => ?_) (fun c4 => ?_)) | refine Rp.if_eq (tgt := 12) dX7_word_4 (by decide) (fun c4 => ?_) (fun c4 => ?_)
      · skip
        first | (exfalso; omega) | exact absurd c4 (by decide) | exact absurd (by decide) c4
      · skip
        refine Rp.iload_n dX7_word_7 rfl ?_
        refine Rp.iconst (nI 5) dX7_word_8 (by decide) ?_
        first | ((with_reducible show Rp _ _ _ _ (.int (nI _) :: .int (nI _) :: _) _ _); refine Rp.icmp_geN (tgt := 52) dX7_word_9 (by decide) (by omega) (fun c9 => ?_) (fun c9 => ?_)) | refine Rp.icmp_ge (tgt := 52) dX7_word_9 (by decide) (fun c9 => ?_) (fun c9 => ?_)
        · skip
          first | (exfalso; omega) | exact absurd c9 (by decide) | exact absurd (by decide) c9
        · skip
          refine Rp.aload_n dX7_word_12 rfl rfl ?_
          refine Rp.getR dX7_word_13 fk_X7_18 rfl (S _ _ rfl) (R _ _ _ rfl) ?_
          refine Rp.dup dX7_word_16 rfl ?_
          refine Rp.getI dX7_word_17 fk_X7_148 rfl (S _ _ rfl) ?_
          first | rw [ho] | rw [hq] | skip
          refine Rp.aload_n dX7_word_20 rfl rfl ?_
          refine Rp.getI dX7_word_21 fk_X7_29 rfl (S _ _ rfl) ?_
          first | rw [ho] | rw [hq] | skip
          first | ((with_reducible show Rp _ _ _ _ (.int (b2i _) :: _) _ _); refine Rp.if_eqB (tgt := 36) dX7_word_24 (by decide) (fun c24 => ?_) (fun c24 => ?_)) | ((with_reducible show Rp _ _ _ _ (.int (nI _) :: _) _ _); refine Rp.if_eqN (tgt := 36) dX7_word_24 (by decide) (by omega) (fun c24 => ?_) (fun c24 => ?_)) | refine Rp.if_eq (tgt := 36) dX7_word_24 (by decide) (fun c24 => ?_) (fun c24 => ?_)
          · skip
            first | (exfalso; omega) | exact absurd c24 (by decide) | exact absurd (by decide) c24
          · skip
            refine Rp.iload_n dX7_word_27 rfl ?_
            refine Rp.iconst (nI 3) dX7_word_28 (by decide) ?_
            first | ((with_reducible show Rp _ _ _ _ (.int (nI _) :: .int (nI _) :: _) _ _); refine Rp.icmp_neN (tgt := 36) dX7_word_29 (by decide) (by omega) (fun c29 => ?_) (fun c29 => ?_)) | refine Rp.icmp_ne (tgt := 36) dX7_word_29 (by decide) (fun c29 => ?_) (fun c29 => ?_)
            · skip
              first | (exfalso; omega) | exact absurd c29 (by decide) | exact absurd (by decide) c29
            · skip
              refine Rp.iconst (nI 1) dX7_word_32 (by decide) ?_
              refine Rp.goto (tgt := 37) dX7_word_33 (by decide) ?_
              refine Rp.ior dX7_word_37 ?_
              rw [show nI 1 = b2i true from rfl, b2i_or, Bool.or_true]
              refine Rp.putZ dX7_word_38 fk_X7_148w rfl (b2i_01 _) (S _ _ rfl) ?_
              refine Rp.aload_n dX7_word_41 rfl rfl ?_
              refine Rp.getR dX7_word_42 fk_X7_18 rfl (S _ _ rfl) (R _ _ _ rfl) ?_
              refine Rp.iconst (nI 2) dX7_word_45 (by decide) ?_
              refine Rp.iload_n dX7_word_46 rfl ?_
              refine Rp.callV2 M_X9_emit (ci := 9) dX7_word_47 mo_X9_emit lk_X7_98 (by decide) rfl rfl (S _ _ rfl) (Nat.le_of_ble_eq_true rfl) (Nat.le_of_ble_eq_true rfl) (em) (fun v1 h1 p1 x1 => ?_)
              rw [p1.1, p1.2]
              try dsimp only [Option.toList, List.cons_append, List.nil_append, List.append]
              refine Rp.pop dX7_word_50 rfl ?_
              refine Rp.vreturn dX7_word_51 rfl ?_
              exact ⟨rfl, rfl⟩
    · have e1 : (af || (true && decide (w = 3))) = af := by rw [decide_eq_false e3]; cases af <;> rfl
      rw [e1] at em ⊢
      refine Rp.aload_n dX7_word_0 rfl rfl ?_
      refine Rp.getI dX7_word_1 fk_X7_29 rfl (S _ _ rfl) ?_
      first | rw [ho] | rw [hq] | skip
      first | ((with_reducible show Rp _ _ _ _ (.int (b2i _) :: _) _ _); refine Rp.if_eqB (tgt := 12) dX7_word_4 (by decide) (fun c4 => ?_) (fun c4 => ?_)) | ((with_reducible show Rp _ _ _ _ (.int (nI _) :: _) _ _); refine Rp.if_eqN (tgt := 12) dX7_word_4 (by decide) (by omega) (fun c4 => ?_) (fun c4 => ?_)) | refine Rp.if_eq (tgt := 12) dX7_word_4 (by decide) (fun c4 => ?_) (fun c4 => ?_)
      · skip
        first | (exfalso; omega) | exact absurd c4 (by decide) | exact absurd (by decide) c4
      · skip
        refine Rp.iload_n dX7_word_7 rfl ?_
        refine Rp.iconst (nI 5) dX7_word_8 (by decide) ?_
        first | ((with_reducible show Rp _ _ _ _ (.int (nI _) :: .int (nI _) :: _) _ _); refine Rp.icmp_geN (tgt := 52) dX7_word_9 (by decide) (by omega) (fun c9 => ?_) (fun c9 => ?_)) | refine Rp.icmp_ge (tgt := 52) dX7_word_9 (by decide) (fun c9 => ?_) (fun c9 => ?_)
        · skip
          first | (exfalso; omega) | exact absurd c9 (by decide) | exact absurd (by decide) c9
        · skip
          refine Rp.aload_n dX7_word_12 rfl rfl ?_
          refine Rp.getR dX7_word_13 fk_X7_18 rfl (S _ _ rfl) (R _ _ _ rfl) ?_
          refine Rp.dup dX7_word_16 rfl ?_
          refine Rp.getI dX7_word_17 fk_X7_148 rfl (S _ _ rfl) ?_
          first | rw [ho] | rw [hq] | skip
          refine Rp.aload_n dX7_word_20 rfl rfl ?_
          refine Rp.getI dX7_word_21 fk_X7_29 rfl (S _ _ rfl) ?_
          first | rw [ho] | rw [hq] | skip
          first | ((with_reducible show Rp _ _ _ _ (.int (b2i _) :: _) _ _); refine Rp.if_eqB (tgt := 36) dX7_word_24 (by decide) (fun c24 => ?_) (fun c24 => ?_)) | ((with_reducible show Rp _ _ _ _ (.int (nI _) :: _) _ _); refine Rp.if_eqN (tgt := 36) dX7_word_24 (by decide) (by omega) (fun c24 => ?_) (fun c24 => ?_)) | refine Rp.if_eq (tgt := 36) dX7_word_24 (by decide) (fun c24 => ?_) (fun c24 => ?_)
          · skip
            first | (exfalso; omega) | exact absurd c24 (by decide) | exact absurd (by decide) c24
          · skip
            refine Rp.iload_n dX7_word_27 rfl ?_
            refine Rp.iconst (nI 3) dX7_word_28 (by decide) ?_
            first | ((with_reducible show Rp _ _ _ _ (.int (nI _) :: .int (nI _) :: _) _ _); refine Rp.icmp_neN (tgt := 36) dX7_word_29 (by decide) (by omega) (fun c29 => ?_) (fun c29 => ?_)) | refine Rp.icmp_ne (tgt := 36) dX7_word_29 (by decide) (fun c29 => ?_) (fun c29 => ?_)
            · skip
              refine Rp.iconst (nI 0) dX7_word_36 (by decide) ?_
              refine Rp.ior dX7_word_37 ?_
              rw [show nI 0 = b2i false from rfl, b2i_or, Bool.or_false]
              refine Rp.putZ dX7_word_38 fk_X7_148w rfl (b2i_01 _) (S _ _ rfl) ?_
              refine Rp.aload_n dX7_word_41 rfl rfl ?_
              refine Rp.getR dX7_word_42 fk_X7_18 rfl (S _ _ rfl) (R _ _ _ rfl) ?_
              refine Rp.iconst (nI 2) dX7_word_45 (by decide) ?_
              refine Rp.iload_n dX7_word_46 rfl ?_
              refine Rp.callV2 M_X9_emit (ci := 9) dX7_word_47 mo_X9_emit lk_X7_98 (by decide) rfl rfl (S _ _ rfl) (Nat.le_of_ble_eq_true rfl) (Nat.le_of_ble_eq_true rfl) (em) (fun v1 h1 p1 x1 => ?_)
              rw [p1.1, p1.2]
              try dsimp only [Option.toList, List.cons_append, List.nil_append, List.append]
              refine Rp.pop dX7_word_50 rfl ?_
              refine Rp.vreturn dX7_word_51 rfl ?_
              exact ⟨rfl, rfl⟩
            · skip
              first | (exfalso; omega) | exact absurd c29 (by decide) | exact absurd (by decide) c29
theorem t_wordP (B : RB h true L) (hTL : TL = TLo (gI h 36) L) {i lv a w : Nat} {af : Bool} (hw : w = 5 ∨ w = 6) (G : GS h L TL i lv a af) (ha : a < 436) : Rp (d + 2) M_X7_word 0 [some (.ref 35), some (.int (nI w)), none] [] h (fun r h' => r = none ∧ ((¬ (cT (gI h 36) TL i = 50 ∧ vT (gI h 36) TL i ≤ 5) ∧ h' = sI h 35 3 (gI h 35 6)) ∨ ((cT (gI h 36) TL i = 50 ∧ vT (gI h 36) TL i ≤ 5) ∧ Fr avX (sI (sI h 39 a (enc (2, (if w = 5 then 5 else 11) + vT (gI h 36) TL i))) 37 3 (nI (a + 1))) h' ∧ TS h' L TL (i + 1)))) := by
  have B0 := B
  obtain ⟨S, R, hL, hl, ho⟩ := B
  rw [show b2i true = nI 1 from rfl] at ho
  have sn := TS_num G.1
  by_cases e : cT (gI h 36) TL i = 50
  · have e3 := sn.1.mpr e
    have e8 := sn.2 e
    by_cases e5 : vT (gI h 36) TL i ≤ 5
    · rw [show min (vT (gI h 36) TL i) 1001 = vT (gI h 36) TL i by omega] at e8
      have em := t_emit (d + 1) S R (o := 2) (v := (if w = 5 then 5 else 11) + vT (gI h 36) TL i) (a := a) (by decide) (by split <;> omega) ha G.2.2.2.1
      have Fe : Fr rX h (sI (sI h 39 a (enc (2, (if w = 5 then 5 else 11) + vT (gI h 36) TL i))) 37 3 (nI (a + 1))) := (Fr.rfl'.sI rfl).sI rfl
      have nx := t_next d (B0.fr Fe) (TL := TL) (by rw [Fe.tp]; exact hTL) (i := i) ((G.1.o _ _ (by decide) (by decide)).o _ _ (by decide) (by decide)) (cT_len (tb := gI h 36) (by rw [e]; decide))
      rcases hw with rfl | rfl
      · rw [if_pos rfl] at em nx
        refine Rp.aload_n dX7_word_0 rfl rfl ?_
        refine Rp.getI dX7_word_1 fk_X7_29 rfl (S _ _ rfl) ?_
        first | rw [ho] | rw [e3] | rw [e8] | skip
        first | ((with_reducible show Rp _ _ _ _ (.int (b2i _) :: _) _ _); refine Rp.if_eqB (tgt := 12) dX7_word_4 (by decide) (fun c4 => ?_) (fun c4 => ?_)) | ((with_reducible show Rp _ _ _ _ (.int (nI _) :: _) _ _); refine Rp.if_eqN (tgt := 12) dX7_word_4 (by decide) (by omega) (fun c4 => ?_) (fun c4 => ?_)) | refine Rp.if_eq (tgt := 12) dX7_word_4 (by decide) (fun c4 => ?_) (fun c4 => ?_)
        · skip
          first | (exfalso; omega) | exact absurd c4 (by decide) | exact absurd (by decide) c4
        · skip
          refine Rp.iload_n dX7_word_7 rfl ?_
          refine Rp.iconst (nI 5) dX7_word_8 (by decide) ?_
          first | ((with_reducible show Rp _ _ _ _ (.int (nI _) :: .int (nI _) :: _) _ _); refine Rp.icmp_geN (tgt := 52) dX7_word_9 (by decide) (by omega) (fun c9 => ?_) (fun c9 => ?_)) | refine Rp.icmp_ge (tgt := 52) dX7_word_9 (by decide) (fun c9 => ?_) (fun c9 => ?_)
          · skip
            refine Rp.aload_n dX7_word_52 rfl rfl ?_
            refine Rp.getI dX7_word_53 fk_X7_48 rfl (S _ _ rfl) ?_
            first | rw [ho] | rw [e3] | rw [e8] | skip
            refine Rp.bipush (-3) dX7_word_56 (by decide) ?_
            first | ((with_reducible show Rp _ _ _ _ (.int (nI _) :: .int (nI _) :: _) _ _); refine Rp.icmp_neN (tgt := 70) dX7_word_58 (by decide) (by omega) (fun c58 => ?_) (fun c58 => ?_)) | refine Rp.icmp_ne (tgt := 70) dX7_word_58 (by decide) (fun c58 => ?_) (fun c58 => ?_)
            · skip
              first | (exfalso; omega) | exact absurd c58 (by decide) | exact absurd (by decide) c58
            · skip
              refine Rp.aload_n dX7_word_61 rfl rfl ?_
              refine Rp.getI dX7_word_62 fk_X7_102 rfl (S _ _ rfl) ?_
              first | rw [ho] | rw [e3] | rw [e8] | skip
              refine Rp.bipush (nI 6) dX7_word_65 (by decide) ?_
              first | ((with_reducible show Rp _ _ _ _ (.int (nI _) :: .int (nI _) :: _) _ _); refine Rp.icmp_ltN (tgt := 75) dX7_word_67 (by decide) (by omega) (fun c67 => ?_) (fun c67 => ?_)) | refine Rp.icmp_lt (tgt := 75) dX7_word_67 (by decide) (fun c67 => ?_) (fun c67 => ?_)
              · skip
                refine Rp.iload_n dX7_word_75 rfl ?_
                refine Rp.iconst (nI 5) dX7_word_76 (by decide) ?_
                first | ((with_reducible show Rp _ _ _ _ (.int (nI _) :: .int (nI _) :: _) _ _); refine Rp.icmp_neN (tgt := 84) dX7_word_77 (by decide) (by omega) (fun c77 => ?_) (fun c77 => ?_)) | refine Rp.icmp_ne (tgt := 84) dX7_word_77 (by decide) (fun c77 => ?_) (fun c77 => ?_)
                · skip
                  first | (exfalso; omega) | exact absurd c77 (by decide) | exact absurd (by decide) c77
                · skip
                  refine Rp.iconst (nI 5) dX7_word_80 (by decide) ?_
                  refine Rp.goto (tgt := 86) dX7_word_81 (by decide) ?_
                  refine Rp.ist2 dX7_word_86 (by first | exact nl2_some rfl | exact nl2_none) (by decide) ?_
                  refine Rp.aload_n dX7_word_87 rfl rfl ?_
                  refine Rp.getR dX7_word_88 fk_X7_18 rfl (S _ _ rfl) (R _ _ _ rfl) ?_
                  refine Rp.iconst (nI 2) dX7_word_91 (by decide) ?_
                  refine Rp.iload_n dX7_word_92 rfl ?_
                  refine Rp.aload_n dX7_word_93 rfl rfl ?_
                  refine Rp.getI dX7_word_94 fk_X7_102 rfl (S _ _ rfl) ?_
                  first | rw [ho] | rw [e3] | rw [e8] | skip
                  first | ((with_reducible show Rp _ _ _ _ (.int (nI _) :: .int (nI _) :: _) _ _); refine Rp.iaddN dX7_word_97 ?_) | refine Rp.iadd dX7_word_97 ?_
                  refine Rp.callV2 M_X9_emit (ci := 9) dX7_word_98 mo_X9_emit lk_X7_98 (by decide) rfl rfl (S _ _ rfl) (Nat.le_of_ble_eq_true rfl) (Nat.le_of_ble_eq_true rfl) (em) (fun v1 h1 p1 x1 => ?_)
                  rw [p1.1, p1.2]
                  try dsimp only [Option.toList, List.cons_append, List.nil_append, List.append]
                  refine Rp.pop dX7_word_101 rfl ?_
                  refine Rp.aload_n dX7_word_102 rfl rfl ?_
                  refine Rp.callV0 M_X7_advance (ci := 7) dX7_word_103 mo_X7_advance lk_X7_42 (by decide) rfl rfl (S _ _ rfl) (Nat.le_of_ble_eq_true rfl) (Nat.le_of_ble_eq_true rfl) (nx) (fun v1 h1 p1 x1 => ?_)
                  obtain ⟨rfl, p2, p3⟩ := p1
                  try dsimp only [Option.toList, List.cons_append, List.nil_append, List.append]
                  refine Rp.vreturn dX7_word_106 rfl ?_
                  exact ⟨rfl, Or.inr ⟨⟨e, e5⟩, by rw [if_pos rfl]; exact p2, p3⟩⟩
              · skip
                first | (exfalso; omega) | exact absurd c67 (by decide) | exact absurd (by decide) c67
          · skip
            first | (exfalso; omega) | exact absurd c9 (by decide) | exact absurd (by decide) c9
      · rw [if_neg (by decide)] at em nx
        refine Rp.aload_n dX7_word_0 rfl rfl ?_
        refine Rp.getI dX7_word_1 fk_X7_29 rfl (S _ _ rfl) ?_
        first | rw [ho] | rw [e3] | rw [e8] | skip
        first | ((with_reducible show Rp _ _ _ _ (.int (b2i _) :: _) _ _); refine Rp.if_eqB (tgt := 12) dX7_word_4 (by decide) (fun c4 => ?_) (fun c4 => ?_)) | ((with_reducible show Rp _ _ _ _ (.int (nI _) :: _) _ _); refine Rp.if_eqN (tgt := 12) dX7_word_4 (by decide) (by omega) (fun c4 => ?_) (fun c4 => ?_)) | refine Rp.if_eq (tgt := 12) dX7_word_4 (by decide) (fun c4 => ?_) (fun c4 => ?_)
        · skip
          first | (exfalso; omega) | exact absurd c4 (by decide) | exact absurd (by decide) c4
        · skip
          refine Rp.iload_n dX7_word_7 rfl ?_
          refine Rp.iconst (nI 5) dX7_word_8 (by decide) ?_
          first | ((with_reducible show Rp _ _ _ _ (.int (nI _) :: .int (nI _) :: _) _ _); refine Rp.icmp_geN (tgt := 52) dX7_word_9 (by decide) (by omega) (fun c9 => ?_) (fun c9 => ?_)) | refine Rp.icmp_ge (tgt := 52) dX7_word_9 (by decide) (fun c9 => ?_) (fun c9 => ?_)
          · skip
            refine Rp.aload_n dX7_word_52 rfl rfl ?_
            refine Rp.getI dX7_word_53 fk_X7_48 rfl (S _ _ rfl) ?_
            first | rw [ho] | rw [e3] | rw [e8] | skip
            refine Rp.bipush (-3) dX7_word_56 (by decide) ?_
            first | ((with_reducible show Rp _ _ _ _ (.int (nI _) :: .int (nI _) :: _) _ _); refine Rp.icmp_neN (tgt := 70) dX7_word_58 (by decide) (by omega) (fun c58 => ?_) (fun c58 => ?_)) | refine Rp.icmp_ne (tgt := 70) dX7_word_58 (by decide) (fun c58 => ?_) (fun c58 => ?_)
            · skip
              first | (exfalso; omega) | exact absurd c58 (by decide) | exact absurd (by decide) c58
            · skip
              refine Rp.aload_n dX7_word_61 rfl rfl ?_
              refine Rp.getI dX7_word_62 fk_X7_102 rfl (S _ _ rfl) ?_
              first | rw [ho] | rw [e3] | rw [e8] | skip
              refine Rp.bipush (nI 6) dX7_word_65 (by decide) ?_
              first | ((with_reducible show Rp _ _ _ _ (.int (nI _) :: .int (nI _) :: _) _ _); refine Rp.icmp_ltN (tgt := 75) dX7_word_67 (by decide) (by omega) (fun c67 => ?_) (fun c67 => ?_)) | refine Rp.icmp_lt (tgt := 75) dX7_word_67 (by decide) (fun c67 => ?_) (fun c67 => ?_)
              · skip
                refine Rp.iload_n dX7_word_75 rfl ?_
                refine Rp.iconst (nI 5) dX7_word_76 (by decide) ?_
                first | ((with_reducible show Rp _ _ _ _ (.int (nI _) :: .int (nI _) :: _) _ _); refine Rp.icmp_neN (tgt := 84) dX7_word_77 (by decide) (by omega) (fun c77 => ?_) (fun c77 => ?_)) | refine Rp.icmp_ne (tgt := 84) dX7_word_77 (by decide) (fun c77 => ?_) (fun c77 => ?_)
                · skip
                  refine Rp.bipush (nI 11) dX7_word_84 (by decide) ?_
                  refine Rp.ist2 dX7_word_86 (by first | exact nl2_some rfl | exact nl2_none) (by decide) ?_
                  refine Rp.aload_n dX7_word_87 rfl rfl ?_
                  refine Rp.getR dX7_word_88 fk_X7_18 rfl (S _ _ rfl) (R _ _ _ rfl) ?_
                  refine Rp.iconst (nI 2) dX7_word_91 (by decide) ?_
                  refine Rp.iload_n dX7_word_92 rfl ?_
                  refine Rp.aload_n dX7_word_93 rfl rfl ?_
                  refine Rp.getI dX7_word_94 fk_X7_102 rfl (S _ _ rfl) ?_
                  first | rw [ho] | rw [e3] | rw [e8] | skip
                  first | ((with_reducible show Rp _ _ _ _ (.int (nI _) :: .int (nI _) :: _) _ _); refine Rp.iaddN dX7_word_97 ?_) | refine Rp.iadd dX7_word_97 ?_
                  refine Rp.callV2 M_X9_emit (ci := 9) dX7_word_98 mo_X9_emit lk_X7_98 (by decide) rfl rfl (S _ _ rfl) (Nat.le_of_ble_eq_true rfl) (Nat.le_of_ble_eq_true rfl) (em) (fun v1 h1 p1 x1 => ?_)
                  rw [p1.1, p1.2]
                  try dsimp only [Option.toList, List.cons_append, List.nil_append, List.append]
                  refine Rp.pop dX7_word_101 rfl ?_
                  refine Rp.aload_n dX7_word_102 rfl rfl ?_
                  refine Rp.callV0 M_X7_advance (ci := 7) dX7_word_103 mo_X7_advance lk_X7_42 (by decide) rfl rfl (S _ _ rfl) (Nat.le_of_ble_eq_true rfl) (Nat.le_of_ble_eq_true rfl) (nx) (fun v1 h1 p1 x1 => ?_)
                  obtain ⟨rfl, p2, p3⟩ := p1
                  try dsimp only [Option.toList, List.cons_append, List.nil_append, List.append]
                  refine Rp.vreturn dX7_word_106 rfl ?_
                  exact ⟨rfl, Or.inr ⟨⟨e, e5⟩, by rw [if_neg (by decide)]; exact p2, p3⟩⟩
                · skip
                  first | (exfalso; omega) | exact absurd c77 (by decide) | exact absurd (by decide) c77
              · skip
                first | (exfalso; omega) | exact absurd c67 (by decide) | exact absurd (by decide) c67
          · skip
            first | (exfalso; omega) | exact absurd c9 (by decide) | exact absurd (by decide) c9
    · have hw6 : 5 ≤ w ∧ w < 10 := by omega
      refine Rp.aload_n dX7_word_0 rfl rfl ?_
      refine Rp.getI dX7_word_1 fk_X7_29 rfl (S _ _ rfl) ?_
      first | rw [ho] | rw [e3] | rw [e8] | skip
      first | ((with_reducible show Rp _ _ _ _ (.int (b2i _) :: _) _ _); refine Rp.if_eqB (tgt := 12) dX7_word_4 (by decide) (fun c4 => ?_) (fun c4 => ?_)) | ((with_reducible show Rp _ _ _ _ (.int (nI _) :: _) _ _); refine Rp.if_eqN (tgt := 12) dX7_word_4 (by decide) (by omega) (fun c4 => ?_) (fun c4 => ?_)) | refine Rp.if_eq (tgt := 12) dX7_word_4 (by decide) (fun c4 => ?_) (fun c4 => ?_)
      · skip
        first | (exfalso; omega) | exact absurd c4 (by decide) | exact absurd (by decide) c4
      · skip
        refine Rp.iload_n dX7_word_7 rfl ?_
        refine Rp.iconst (nI 5) dX7_word_8 (by decide) ?_
        first | ((with_reducible show Rp _ _ _ _ (.int (nI _) :: .int (nI _) :: _) _ _); refine Rp.icmp_geN (tgt := 52) dX7_word_9 (by decide) (by omega) (fun c9 => ?_) (fun c9 => ?_)) | refine Rp.icmp_ge (tgt := 52) dX7_word_9 (by decide) (fun c9 => ?_) (fun c9 => ?_)
        · skip
          refine Rp.aload_n dX7_word_52 rfl rfl ?_
          refine Rp.getI dX7_word_53 fk_X7_48 rfl (S _ _ rfl) ?_
          first | rw [ho] | rw [e3] | rw [e8] | skip
          refine Rp.bipush (-3) dX7_word_56 (by decide) ?_
          first | ((with_reducible show Rp _ _ _ _ (.int (nI _) :: .int (nI _) :: _) _ _); refine Rp.icmp_neN (tgt := 70) dX7_word_58 (by decide) (by omega) (fun c58 => ?_) (fun c58 => ?_)) | refine Rp.icmp_ne (tgt := 70) dX7_word_58 (by decide) (fun c58 => ?_) (fun c58 => ?_)
          · skip
            first | (exfalso; omega) | exact absurd c58 (by decide) | exact absurd (by decide) c58
          · skip
            refine Rp.aload_n dX7_word_61 rfl rfl ?_
            refine Rp.getI dX7_word_62 fk_X7_102 rfl (S _ _ rfl) ?_
            first | rw [ho] | rw [e3] | rw [e8] | skip
            refine Rp.bipush (nI 6) dX7_word_65 (by decide) ?_
            first | ((with_reducible show Rp _ _ _ _ (.int (nI _) :: .int (nI _) :: _) _ _); refine Rp.icmp_ltN (tgt := 75) dX7_word_67 (by decide) (by omega) (fun c67 => ?_) (fun c67 => ?_)) | refine Rp.icmp_lt (tgt := 75) dX7_word_67 (by decide) (fun c67 => ?_) (fun c67 => ?_)
            · skip
              first | (exfalso; omega) | exact absurd c67 (by decide) | exact absurd (by decide) c67
            · skip
              refine Rp.aload_n dX7_word_70 rfl rfl ?_
              refine Rp.callV0 M_X7_wrong (ci := 7) dX7_word_71 mo_X7_wrong lk_X7_51 (by decide) rfl rfl (S _ _ rfl) (Nat.le_of_ble_eq_true rfl) (Nat.le_of_ble_eq_true rfl) (t_wrong (d + 1) S G.2.2.1) (fun v1 h1 p1 x1 => ?_)
              rw [p1.1, p1.2]
              try dsimp only [Option.toList, List.cons_append, List.nil_append, List.append]
              refine Rp.vreturn dX7_word_74 rfl ?_
              exact ⟨rfl, Or.inl ⟨fun z => e5 z.2, rfl⟩⟩
        · skip
          first | (exfalso; omega) | exact absurd c9 (by decide) | exact absurd (by decide) c9
  · have hw6 : 5 ≤ w ∧ w < 10 := by omega
    refine Rp.aload_n dX7_word_0 rfl rfl ?_
    refine Rp.getI dX7_word_1 fk_X7_29 rfl (S _ _ rfl) ?_
    first | rw [ho] | skip
    first | ((with_reducible show Rp _ _ _ _ (.int (b2i _) :: _) _ _); refine Rp.if_eqB (tgt := 12) dX7_word_4 (by decide) (fun c4 => ?_) (fun c4 => ?_)) | ((with_reducible show Rp _ _ _ _ (.int (nI _) :: _) _ _); refine Rp.if_eqN (tgt := 12) dX7_word_4 (by decide) (by omega) (fun c4 => ?_) (fun c4 => ?_)) | refine Rp.if_eq (tgt := 12) dX7_word_4 (by decide) (fun c4 => ?_) (fun c4 => ?_)
    · skip
      first | (exfalso; omega) | exact absurd c4 (by decide) | exact absurd (by decide) c4
    · skip
      refine Rp.iload_n dX7_word_7 rfl ?_
      refine Rp.iconst (nI 5) dX7_word_8 (by decide) ?_
      first | ((with_reducible show Rp _ _ _ _ (.int (nI _) :: .int (nI _) :: _) _ _); refine Rp.icmp_geN (tgt := 52) dX7_word_9 (by decide) (by omega) (fun c9 => ?_) (fun c9 => ?_)) | refine Rp.icmp_ge (tgt := 52) dX7_word_9 (by decide) (fun c9 => ?_) (fun c9 => ?_)
      · skip
        refine Rp.aload_n dX7_word_52 rfl rfl ?_
        refine Rp.getI dX7_word_53 fk_X7_48 rfl (S _ _ rfl) ?_
        first | rw [ho] | skip
        refine Rp.bipush (-3) dX7_word_56 (by decide) ?_
        first | ((with_reducible show Rp _ _ _ _ (.int (nI _) :: .int (nI _) :: _) _ _); refine Rp.icmp_neN (tgt := 70) dX7_word_58 (by decide) (by omega) (fun c58 => ?_) (fun c58 => ?_)) | refine Rp.icmp_ne (tgt := 70) dX7_word_58 (by decide) (fun c58 => ?_) (fun c58 => ?_)
        · skip
          refine Rp.aload_n dX7_word_70 rfl rfl ?_
          refine Rp.callV0 M_X7_wrong (ci := 7) dX7_word_71 mo_X7_wrong lk_X7_51 (by decide) rfl rfl (S _ _ rfl) (Nat.le_of_ble_eq_true rfl) (Nat.le_of_ble_eq_true rfl) (t_wrong (d + 1) S G.2.2.1) (fun v1 h1 p1 x1 => ?_)
          rw [p1.1, p1.2]
          try dsimp only [Option.toList, List.cons_append, List.nil_append, List.append]
          refine Rp.vreturn dX7_word_74 rfl ?_
          exact ⟨rfl, Or.inl ⟨fun z => e z.1, rfl⟩⟩
        · skip
          exact absurd (sn.1.mp c58) e
      · skip
        first | (exfalso; omega) | exact absurd c9 (by decide) | exact absurd (by decide) c9
end Wo
