theorem sOp_r {c : Nat} (h : sOp c ≠ 0) : 9 ≤ sOp c ∧ sOp c ≤ 13 := by
  unfold sOp at h ⊢
  by_cases h1 : c = 143
  · rw [if_pos h1]; decide
  · rw [if_neg h1] at h ⊢
    by_cases h2 : c = 145
    · rw [if_pos h2]; decide
    · rw [if_neg h2] at h; exact absurd rfl h
theorem tOp_r {c : Nat} (h : tOp c ≠ 0) : 9 ≤ tOp c ∧ tOp c ≤ 13 := by
  unfold tOp at h ⊢
  by_cases h1 : c = 142
  · rw [if_pos h1]; decide
  · rw [if_neg h1] at h ⊢
    by_cases h2 : c = 147
    · rw [if_pos h2]; decide
    · rw [if_neg h2] at h ⊢
      by_cases h3 : c = 137
      · rw [if_pos h3]; decide
      · rw [if_neg h3] at h; exact absurd rfl h
theorem cOp_r {c : Nat} (h : cOp c ≠ 0) : 6 ≤ cOp c ∧ cOp c ≤ 8 := by
  unfold cOp at h ⊢
  by_cases h1 : c = 160
  · rw [if_pos h1]; decide
  · rw [if_neg h1] at h ⊢
    by_cases h2 : c = 162
    · rw [if_pos h2]; decide
    · rw [if_neg h2] at h ⊢
      by_cases h3 : c = 161
      · rw [if_pos h3]; decide
      · rw [if_neg h3] at h; exact absurd rfl h
section Xa
variable {h : AH} {d tx kc kw nc nw sz : Nat} {w : Nat → Int32}
def XI (h : AH) (d tx kc kw sz : Nat) (ord : Bool) (c v : Nat → Nat) (w : Nat → Int32) (f : Nat) : Prop := ∀ (md dep i lv a i' lv' : Nat) (cd : List (Nat × Nat)) (D : DN), md < 12 → dep ≤ 8 → Prs ord c v f md dep i lv a = .ok (i', lv', cd, D) → XQ h d tx kc kw sz w md dep a cd D
theorem X_prt (B : MB h tx kc kw nc nw sz) {ord : Bool} {c v : Nat → Nat} (hw : gI h kw = w) (hn : nw = if ord then 17 else 9) (hb : ∀ j, j < nw → -1000000000 ≤ (w j).toInt ∧ (w j).toInt ≤ 1000000000) {dep i lv a i' lv' : Nat} {cd : List (Nat × Nat)} {D : DN} (hd : dep ≤ 8) (hP : prtL ord c v i lv = .ok (i', lv', cd, D)) : XQ h d tx kc kw sz w 11 dep a cd D := by
  have num : ∀ (u : Nat), u ≤ 1000 → XQ h d tx kc kw sz w 11 dep a [(1, u)] (fun _ _ => some (u : Int)) := by
    intro u hu P fr g t sk x F hc hz hs ht hx k0 k1
    have ht : t ≤ 2 * dep + 3 := ht
    have hc0 := hc 0 _ rfl
    have hz : a + 1 < sz := hz
    have q := k1 (sI g 42 t (nI u)) u sk (F.sI rfl) rfl (show -1000000000 ≤ (u : Int) ∧ (u : Int) ≤ 1000000000 by omega) (fun j hj => gI_off _ _ _ (by omega)) (gI_hit _ _ _ _) (show sk ≤ a + 1 by omega)
    show mS d tx kw fr P g a t sk
    exact m_num (B.fr F) (by omega) hs (by omega) (by omega) ((F.I kc _ (beq_eq_false_iff_ne.mpr B.2.2.2.2.2.2.2.2.2.2.2.1)).trans hc0) q
  have wrd : ∀ (u : Nat), u < nw → XQ h d tx kc kw sz w 11 dep a [(2, u)] (fun w _ => some (w u).toInt) := by
    intro u hu P fr g t sk x F hc hz hs ht hx k0 k1
    have ht : t ≤ 2 * dep + 3 := ht
    have hc0 := hc 0 _ rfl
    have hz : a + 1 < sz := hz
    have eg : gI g kw u = w u := (F.I kw u (beq_eq_false_iff_ne.mpr B.2.2.2.2.2.2.2.2.2.2.2.2)).trans (by rw [hw])
    have e2 : w u = Int32.ofInt (w u).toInt := (Int32.ofInt_toInt (w u)).symm
    have q := k1 (sI g 42 t (w u)) (w u).toInt sk (F.sI rfl) rfl (hb u hu) (fun j hj => gI_off _ _ _ (by omega)) (by rw [gI_hit]; exact e2) (show sk ≤ a + 1 by omega)
    rw [← eg] at q
    show mS d tx kw fr P g a t sk
    exact m_word (B.fr F) (by omega) hs hu (by omega) ((F.I kc _ (beq_eq_false_iff_ne.mpr B.2.2.2.2.2.2.2.2.2.2.2.1)).trans hc0) q
  unfold prtL at hP
  split at hP
  · rename_i hq
    split at hP
    · cases hP
    · split at hP
      · rename_i e5
        cases hP
        exact num (v i) (by
          rcases hq with z | z
          · exact z.2
          · rw [e5] at z; exact absurd z (by cases ord <;> decide))
      · rename_i e5
        have hz := hq.resolve_left (fun z => e5 z.1)
        split at hP
        · rename_i eo
          subst eo
          have hn : nw = 17 := hn
          have hr : 16 ≤ c i ∧ c i ≤ 22 := of_decide_eq_true hz
          split at hP
          · split at hP
            · rename_i ev
              cases hP
              exact wrd ((if c i = 22 then 5 else 11) + v (i + 1)) (by split <;> omega)
            · cases hP
          · rename_i e1
            cases hP
            exact wrd (c i - 17) (by omega)
        · rename_i eo
          have eo : ord = false := by cases ord; rfl; exact absurd rfl eo
          subst eo
          have hn : nw = 9 := hn
          cases hP
          exact wrd (lwI (c i)) (by have := @lwI_lt (c i); omega)
  · cases hP
theorem X_all (B : MB h tx kc kw nc nw sz) {ord : Bool} {c v : Nat → Nat} (hw : gI h kw = w) (hn : nw = if ord then 17 else 9) (hb : ∀ j, j < nw → -1000000000 ≤ (w j).toInt ∧ (w j).toInt ≤ 1000000000) : ∀ f, XI h d tx kc kw sz ord c v w f := by
  intro f
  induction f with
  | zero => intro md dep i lv a i' lv' cd D hm hd hP; cases hP
  | succ f ih =>
    intro md dep i lv a i' lv' cd D hm hd hP
    match md, hm, hP with
    | 0, _, hP =>
      obtain ⟨i1, lv1, cd1, D1, cd2, D2, p1, p2, rfl, rfl⟩ := seqL_inv (show seqL (Prs ord c v f 1 dep i lv a) a (Prs ord c v f 2 dep) = _ from hP)
      exact X_seq (m1 := 1) (m2 := 2) rfl rfl rfl (Nat.le_refl _) (Nat.le_refl _) (fun y z => z) (fun y z => z) (ih 1 dep i lv a _ _ _ _ (by decide) hd p1) (ih 2 dep i1 lv1 _ _ _ _ _ (by decide) hd p2)
    | 1, _, hP =>
      obtain ⟨i1, lv1, cd1, D1, cd2, D2, p1, p2, rfl, rfl⟩ := seqL_inv (show seqL (Prs ord c v f 3 dep i lv a) a (Prs ord c v f 4 dep) = _ from hP)
      exact X_seq (m1 := 3) (m2 := 4) rfl rfl rfl (Nat.le_refl _) (Nat.le_refl _) (fun y z => z) (fun y z => z) (ih 3 dep i lv a _ _ _ _ (by decide) hd p1) (ih 4 dep i1 lv1 _ _ _ _ _ (by decide) hd p2)
    | 7, _, hP =>
      obtain ⟨i1, lv1, cd1, D1, cd2, D2, p1, p2, rfl, rfl⟩ := seqL_inv (show seqL (Prs ord c v f 9 dep i lv a) a (Prs ord c v f 8 dep) = _ from hP)
      exact X_seq (m1 := 9) (m2 := 8) rfl rfl rfl (show 2 * dep + 1 ≤ 2 * dep + 2 by omega) (Nat.le_refl _) (fun y z => z) (fun y z => z) (ih 9 dep i lv a _ _ _ _ (by decide) hd p1) (ih 8 dep i1 lv1 _ _ _ _ _ (by decide) hd p2)
    | 9, _, hP =>
      obtain ⟨i1, lv1, cd1, D1, cd2, D2, p1, p2, rfl, rfl⟩ := seqL_inv (show seqL (Prs ord c v f 11 dep i lv a) a (Prs ord c v f 10 dep) = _ from hP)
      exact X_seq (m1 := 11) (m2 := 10) rfl rfl rfl (show 2 * dep + 2 ≤ 2 * dep + 3 by omega) (Nat.le_refl _) (fun y z => z) (fun y z => z) (ih 11 dep i lv a _ _ _ _ (by decide) hd p1) (ih 10 dep i1 lv1 _ _ _ _ _ (by decide) hd p2)
    | 2, _, hP =>
      have hP : (if c i = 6 then jmpL 4 (Prs ord c v f 1 dep (i + 1) lv (a + 1)) a (Prs ord c v f 2 dep) else .ok (i, lv, [], fun _ x => some x)) = .ok (i', lv', cd, D) := hP
      split at hP
      · obtain ⟨i1, lv1, cd1, D1, cd2, D2, p1, p2, rfl, rfl⟩ := jmpL_inv hP
        exact X_jmp B (Or.inr rfl) (by decide) rfl rfl hd (by decide) (ih 1 dep _ _ _ _ _ _ _ (by decide) hd p1) (ih 2 dep _ _ _ _ _ _ _ (by decide) hd p2)
      · cases hP; exact X_nil rfl
    | 4, _, hP =>
      have hP : (if c i = 7 then jmpL 3 (Prs ord c v f 3 dep (i + 1) lv (a + 1)) a (Prs ord c v f 4 dep) else .ok (i, lv, [], fun _ x => some x)) = .ok (i', lv', cd, D) := hP
      split at hP
      · obtain ⟨i1, lv1, cd1, D1, cd2, D2, p1, p2, rfl, rfl⟩ := jmpL_inv hP
        exact X_jmp B (Or.inl rfl) (by decide) rfl rfl hd (by decide) (ih 3 dep _ _ _ _ _ _ _ (by decide) hd p1) (ih 4 dep _ _ _ _ _ _ _ (by decide) hd p2)
      · cases hP; exact X_nil rfl
    | 3, _, hP =>
      have hP : (if c i = 8 then Prs ord c v f 5 dep (i + 1) lv a else Prs ord c v f 6 dep i lv a) = .ok (i', lv', cd, D) := hP
      split at hP
      · exact ih 5 dep _ _ _ _ _ _ _ (by decide) hd hP
      · exact ih 6 dep _ _ _ _ _ _ _ (by decide) hd hP
    | 5, _, hP =>
      have hP : (if c i = 8 then Prs ord c v f 3 dep (i + 1) lv a else notL (Prs ord c v f 6 dep i lv a)) = .ok (i', lv', cd, D) := hP
      split at hP
      · exact ih 3 dep _ _ _ _ _ _ _ (by decide) hd hP
      · obtain ⟨cd1, D1, p1, rfl, rfl⟩ := notL_inv hP
        exact X_not B hd (ih 6 dep _ _ _ _ _ _ _ (by decide) hd p1)
    | 6, _, hP =>
      have hP : (if c i = 140 then (if dep = 8 then .error i else cloL c 141 (Prs ord c v f 0 (dep + 1) (i + 1) lv a)) else cmpL c (Prs ord c v f 7 dep i lv a) a (Prs ord c v f 7 dep)) = .ok (i', lv', cd, D) := hP
      split at hP
      · split at hP
        · cases hP
        · obtain ⟨i1, p1, -, -⟩ := cloL_inv hP
          have X := ih 0 (dep + 1) _ _ _ _ _ _ _ (by decide) (by omega) p1
          intro P fr g t sk x F hc hz hs ht hx k0 k1
          have ht : t ≤ 2 * dep := ht
          exact X P fr g t sk x F hc hz hs (show t ≤ 2 * (dep + 1) by omega) (fun z => nomatch z) k0 k1
      · obtain ⟨i1, lv1, cd1, D1, cd2, D2, p1, po, p2, rfl, rfl⟩ := cmpL_inv hP
        exact X_cmp B (cOp_r po) hd (ih 7 dep _ _ _ _ _ _ _ (by decide) hd p1) (ih 7 dep _ _ _ _ _ _ _ (by decide) hd p2)
    | 8, _, hP =>
      have hP : (if sOp (c i) = 0 then .ok (i, lv, [], fun _ x => some x) else opL (sOp (c i)) (Prs ord c v f 9 dep (i + 1) lv a) a (Prs ord c v f 8 dep)) = .ok (i', lv', cd, D) := hP
      split at hP
      · cases hP; exact X_nil rfl
      · rename_i po
        obtain ⟨i1, lv1, cd1, D1, cd2, D2, p1, p2, rfl, rfl⟩ := opL_inv hP
        exact X_op (m1 := 9) B (sOp_r po) (by decide) (by decide) rfl rfl hd (show 2 * dep + 1 + 1 ≤ 2 * dep + 2 by omega) (ih 9 dep _ _ _ _ _ _ _ (by decide) hd p1) (ih 8 dep _ _ _ _ _ _ _ (by decide) hd p2)
    | 10, _, hP =>
      have hP : (if tOp (c i) = 0 then .ok (i, lv, [], fun _ x => some x) else opL (tOp (c i)) (Prs ord c v f 11 dep (i + 1) lv a) a (Prs ord c v f 10 dep)) = .ok (i', lv', cd, D) := hP
      split at hP
      · cases hP; exact X_nil rfl
      · rename_i po
        obtain ⟨i1, lv1, cd1, D1, cd2, D2, p1, p2, rfl, rfl⟩ := opL_inv hP
        exact X_op (m1 := 11) B (tOp_r po) (by decide) (by decide) rfl rfl hd (show 2 * dep + 2 + 1 ≤ 2 * dep + 3 by omega) (ih 11 dep _ _ _ _ _ _ _ (by decide) hd p1) (ih 10 dep _ _ _ _ _ _ _ (by decide) hd p2)
    | 11, _, hP =>
      have hP : (if c i = 191 then (if dep = 8 then .error i else cloL c 193 (Prs ord c v f 7 (dep + 1) (i + 1) lv a)) else prtL ord c v i lv) = .ok (i', lv', cd, D) := hP
      split at hP
      · split at hP
        · cases hP
        · obtain ⟨i1, p1, -, -⟩ := cloL_inv hP
          have X := ih 7 (dep + 1) _ _ _ _ _ _ _ (by decide) (by omega) p1
          intro P fr g t sk x F hc hz hs ht hx k0 k1
          have ht : t ≤ 2 * dep + 3 := ht
          exact X P fr g t sk x F hc hz hs (show t ≤ 2 * (dep + 1) + 1 by omega) (fun z => nomatch z) k0 k1
      · exact X_prt B hw hn hb hd hP
/-- what the machine answers -/
def mAns (o : Option Int) : Int32 := match o with
  | none => -2000000000
  | some y => Int32.ofInt y
theorem t_run (B : MB h tx kc kw nc nw sz) {ord : Bool} {c v : Nat → Nat} (hw : gI h kw = w) (hn : nw = if ord then 17 else 9) (hb : ∀ j, j < nw → -1000000000 ≤ (w j).toInt ∧ (w j).toInt ≤ 1000000000) {f md i lv a i' lv' : Nat} {cd : List (Nat × Nat)} {D : DN} (hm : md = 0 ∨ md = 7) (hP : Prs ord c v f md 0 i lv a = .ok (i', lv', cd, D)) (hc : ∀ n q, (cd ++ [(0, 0)])[n]? = some q → gI h kc (a + n) = enc q) (hz : a + cd.length < sz) : Rp d M_X5_run 0 [some (.ref 41), some (.ref tx), some (.int (nI a)), some (.ref kw), none, none, none, none, none, none, none, none, none, none, none] [] h (fun r h' => Fr mX h h' ∧ r = some (.int (mAns (D w 0)))) := by
  have hsz := B.2.2.2.2.2.2.1
  have hnc := B.2.2.2.2.2.2.2.1
  obtain ⟨c1, c2⟩ := cd_l hc
  have hc0 := c2 0 _ rfl
  rw [Nat.add_zero] at hc0
  have hd : isHd md = true := by rcases hm with rfl | rfl <;> rfl
  have X := X_all (d := d) B (c := c) (v := v) hw hn hb f md 0 i lv a i' lv' cd D (by omega) (by decide) hP
  have q := X (fun r h' => Fr mX h h' ∧ r = some (.int (mAns (D w 0)))) (nI a) h 0 a 0 Fr.rfl' c1 hz (Nat.le_refl _) (Nat.zero_le _) (fun z => absurd hd (by rw [z]; decide)) (fun g' F' e => ⟨F', by rw [e]; rfl⟩) (fun g' y sk' F' e vy pj py hs => m_stop (B.fr F') (v := 0) hz hs (by decide) ((F'.I kc _ (beq_eq_false_iff_ne.mpr B.2.2.2.2.2.2.2.2.2.2.2.1)).trans hc0) ⟨F', by rw [e, py]; rfl⟩)
  rw [if_pos hd] at q
  have e0 : (0 : Int32) ≤ nI a := by rw [i32_le, nI_toInt (by omega)]; exact Int.natCast_nonneg _
  have k1 := q none none none none none none none none
  unfold mL at k1
  refine Rp.iload_n dX5_run_0 rfl ?_
  refine Rp.if_ge (tgt := 7) dX5_run_1 (by decide) (fun c1 => ?_) (fun c1 => ?_)
  · skip
    refine Rp.iconst (nI 0) dX5_run_7 (by decide) ?_
    refine Rp.ist4 dX5_run_8 (by first | exact nl2_some rfl | exact nl2_none) (by decide) ?_
    refine Rp.iload_n dX5_run_10 rfl ?_
    refine Rp.ist5 dX5_run_11 (by first | exact nl2_some rfl | exact nl2_none) (by decide) ?_
    refine Rp.iload_n dX5_run_13 rfl ?_
    refine Rp.ist6 dX5_run_14 (by first | exact nl2_some rfl | exact nl2_none) (by decide) ?_
    exact k1
  · skip
    exact absurd e0 c1
end Xa
