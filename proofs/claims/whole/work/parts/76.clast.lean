def okT (k : Nat) : Prop := 129 ≤ k ∨ k = 37 ∨ k = 38 ∨ k = 39
/-- a text of the class with all that is known of it -/
def TXG (h : AH) (tx kh kc nh nc : Nat) (ord : Bool) (LS : List CLE) : Prop := h.1[tx]? = some (9, clN 9) ∧ gR h tx 0 = some kh ∧ gR h tx 1 = some kc ∧ h.1[kh]? = some (13, nh) ∧ h.1[kc]? = some (13, nc) ∧ 5 * LS.length ≤ nh ∧ nh ≤ 60 ∧ (cdA LS).length ≤ nc ∧ nc ≤ 436 ∧ TXT h tx kh kc ord LS ∧ (okT tx ∧ okT kh ∧ okT kc) ∧ ∃ c v, ∀ e ∈ LS, CeOK ord c v (cdA LS) e
theorem TXG.fr {X : Nat → Nat → Bool} {h g : AH} {tx kh kc nh nc : Nat} {ord : Bool} {LS : List CLE} (T : TXG h tx kh kc nh nc ord LS) (F : Fr X h g) (hx : ∀ k j, okT k → X k j = false) : TXG g tx kh kc nh nc ord LS := by
  obtain ⟨t1, t2, t3, t4, t5, t6, t7, t8, t9, ⟨u1, u2, u3, u4, u5⟩, ⟨o1, o2, o3⟩, t12⟩ := T
  refine ⟨by rw [F.1]; exact t1, (F.Rr _ _ (hx _ _ o1)).trans t2, (F.Rr _ _ (hx _ _ o1)).trans t3, by rw [F.1]; exact t4, by rw [F.1]; exact t5, t6, t7, t8, t9, ⟨(F.I _ _ (hx _ _ o1)).trans u1, (F.I _ _ (hx _ _ o1)).trans u2, (F.I _ _ (hx _ _ o1)).trans u3, fun m q hq => (F.I _ _ (hx _ _ o3)).trans (u4 m q hq), fun m e he w hw => (F.I _ _ (hx _ _ o2)).trans (u5 m e he w hw)⟩, ⟨o1, o2, o3⟩, t12⟩
theorem okT_ne {k a : Nat} (h : okT k) (ha : a < 129) (h1 : a ≠ 37) (h2 : a ≠ 38) (h3 : a ≠ 39) : k ≠ a := by
  rcases h with h | h | h | h <;> omega
theorem okT_m {k : Nat} (j : Nat) (h : okT k) : mX k j = false := beq_eq_false_iff_ne.mpr (okT_ne h (by decide) (by decide) (by decide) (by decide))
section Ju
variable (d : Nat) {h : AH} {tx kh kc nh nc : Nat} {ord : Bool} {LS : List CLE}
theorem t_headT (T : TXG h tx kh kc nh nc ord LS) {m : Nat} {e : CLE} (he : LS[m]? = some e) {w : Nat} (hw : w < 5) : Rp d M_X9_head 0 [some (.ref tx), some (.int (nI m)), some (.int (nI w))] [] h (fun r h' => h' = h ∧ r = some (.int (hdQ e w))) := by
  obtain ⟨t1, t2, t3, t4, t5, t6, t7, t8, t9, ⟨u1, u2, u3, u4, u5⟩, o, t12⟩ := T
  have hm := (List.getElem?_eq_some_iff.mp he).1
  have e5 := u5 m e he w hw
  rw [show 5 * m + w = m * 5 + w by omega] at e5
  refine Rp.aload_n dX9_head_0 rfl rfl ?_
  refine Rp.getR dX9_head_1 fk_X9_11 rfl t1 t2 ?_
  refine Rp.iload_n dX9_head_4 rfl ?_
  refine Rp.iconst (nI 5) dX9_head_5 (by decide) ?_
  first | ((with_reducible show Rp _ _ _ _ (.int (nI _) :: .int (nI _) :: _) _ _); refine Rp.imulN dX9_head_6 ?_) | refine Rp.imul dX9_head_6 ?_
  refine Rp.iload_n dX9_head_7 rfl ?_
  first | ((with_reducible show Rp _ _ _ _ (.int (nI _) :: .int (nI _) :: _) _ _); refine Rp.iaddN dX9_head_8 ?_) | refine Rp.iadd dX9_head_8 ?_
  first | ((with_reducible show Rp _ _ _ _ (.int (nI _) :: _) _ _); refine Rp.ialoadN dX9_head_9 t4 (by omega) ?_) | refine Rp.iaload dX9_head_9 t4 (by first | assumption | exact vpb (by decide)) ?_
  first | rw [e5] | skip
  refine Rp.ireturn dX9_head_10 rfl ?_
  exact ⟨rfl, rfl⟩
/-- the machine at a part of a clause -/
theorem t_pt (S : ShOK h) (R : RfOK h) (T : TXG h tx kh kc nh nc ord LS) {c v : Nat → Nat} {kw nw : Nat} {w : Nat → Int32} (hk : h.1[kw]? = some (13, nw)) (hk2 : kw ≠ 42) (hw : gI h kw = w) (hn : nw = if ord then 17 else 9) (hb : ∀ j, j < nw → -1000000000 ≤ (w j).toInt ∧ (w j).toInt ≤ 1000000000) {md pos : Nat} {D : DN} (hm : md = 0 ∨ md = 7) (hp : PtOK ord c v (cdA LS) md (some (pos, D))) : Rp d M_X5_run 0 [some (.ref 41), some (.ref tx), some (.int (nI pos)), some (.ref kw), none, none, none, none, none, none, none, none, none, none, none] [] h (fun r h' => Fr mX h h' ∧ r = some (.int (mAns (D w 0)))) := by
  obtain ⟨t1, t2, t3, t4, t5, t6, t7, t8, t9, ⟨u1, u2, u3, u4, u5⟩, ⟨o1, o2, o3⟩, t12⟩ := T
  obtain ⟨f, i, lv, i', lv', cd, hP, hA⟩ := hp pos D rfl
  have hz : pos + cd.length < (cdA LS).length := by
    have := hA cd.length (0, 0) (by rw [List.getElem?_append_right (Nat.le_refl _), Nat.sub_self]; rfl)
    exact (List.getElem?_eq_some_iff.mp this).1
  exact t_run (sz := (cdA LS).length) ⟨S, R, t1, t3, t5, u2, t8, t9, hk, by rw [hn]; split <;> decide, okT_ne o1 (by decide) (by decide) (by decide) (by decide), okT_ne o3 (by decide) (by decide) (by decide) (by decide), hk2⟩ hw hn hb hm hP (fun n q hq => u4 _ q (hA n q hq)) hz
end Ju
/-- what the last clause of a verb that holds tells -/
def ltL (vb : Nat) (w : Nat → Int32) (L : List CLE) : Option Int := L.foldl (fun acc e => if e.2.2.2.2.1 = vb ∧ clH e.2.2.2.2 w = true then (match clV e.2.2.2.2 w with
  | some y => some y
  | none => acc) else acc) none
def ltS (vb : Nat) (w : Nat → Int32) (acc : Option Int) (e : CLE) : Option Int := if e.2.2.2.2.1 = vb ∧ clH e.2.2.2.2 w = true then (match clV e.2.2.2.2 w with
  | some y => some y
  | none => acc) else acc
theorem ltL_snoc (vb : Nat) (w : Nat → Int32) (L : List CLE) (e : CLE) : ltL vb w (L ++ [e]) = ltS vb w (ltL vb w L) e := by
  unfold ltL; rw [List.foldl_append]; rfl
theorem take_snoc {α : Type} {L : List α} {m : Nat} {e : α} (h : L[m]? = some e) : L.take (m + 1) = L.take m ++ [e] := by
  obtain ⟨hm, rfl⟩ := List.getElem?_eq_some_iff.mp h
  rw [List.take_append_getElem hm]
theorem mAns_b {o : Option Int} (h : ∀ y, o = some y → -1000000000 ≤ y ∧ y ≤ 1000000000) : (mAns o = -2000000000 ↔ o = none) ∧ (mAns o = nI 1 ↔ o = some 1) := by
  match o, h with
  | none, h => exact ⟨⟨fun _ => rfl, fun _ => rfl⟩, ⟨fun z => absurd z (by decide), fun z => nomatch z⟩⟩
  | some y, h =>
    have b := h y rfl
    have e := i32_of b
    refine ⟨⟨fun z => ?_, fun z => nomatch z⟩, ⟨fun z => ?_, fun z => by cases z; rfl⟩⟩
    · have z : Int32.ofInt y = -2000000000 := z
      rw [i32_eq, e] at z
      have : (-2000000000 : Int32).toInt = -2000000000 := rfl
      omega
    · have z : Int32.ofInt y = nI 1 := z
      rw [i32_eq, e, nI_toInt (by decide)] at z
      rw [z]; rfl
/-- a part's value is bounded -/
def PtB (w : Nat → Int32) (pt : PT) : Prop := ∀ pos D, pt = some (pos, D) → ∀ y, D w 0 = some y → -1000000000 ≤ y ∧ y ≤ 1000000000
theorem Prs_vb {ord : Bool} {c v : Nat → Nat} {w : Nat → Int32} (hb : ∀ j, j < (if ord then 17 else 9) → -1000000000 ≤ (w j).toInt ∧ (w j).toInt ≤ 1000000000) : ∀ (f md dep i lv a i' lv' : Nat) (cd : List (Nat × Nat)) (D : DN), md < 12 → Prs ord c v f md dep i lv a = .ok (i', lv', cd, D) → ∀ x y, (isHd md = false → vbM md x) → D w x = some y → vbM md y := by
  intro f
  induction f with
  | zero => intro md dep i lv a i' lv' cd D hm hP; cases hP
  | succ f ih =>
    have sq : ∀ (md m1 m2 dep i lv a i' lv' : Nat) (cd : List (Nat × Nat)) (D : DN), m1 < 12 → m2 < 12 → isHd m1 = true → (∀ y, vbM m1 y → vbM m2 y) → (∀ y, vbM m2 y → vbM md y) → seqL (Prs ord c v f m1 dep i lv a) a (Prs ord c v f m2 dep) = .ok (i', lv', cd, D) → ∀ x y, D w x = some y → vbM md y := by
      intro md m1 m2 dep i lv a i' lv' cd D h1 h2 hh v1 v2 hP x y hD
      obtain ⟨i1, lv1, cd1, D1, cd2, D2, p1, p2, rfl, rfl⟩ := seqL_inv hP
      obtain ⟨z, e1, e2⟩ := Option.bind_eq_some_iff.mp hD
      exact v2 y (ih m2 dep _ _ _ _ _ _ _ h2 p2 z y (fun _ => v1 z (ih m1 dep _ _ _ _ _ _ _ h1 p1 x z (fun q => absurd hh (by rw [q]; decide)) e1)) e2)
    have jm : ∀ (md m1 o dep i lv a i' lv' : Nat) (cd : List (Nat × Nat)) (D : DN), m1 < 12 → md < 12 → isHd m1 = true → (∀ y, vbM m1 y → vbM md y) → jmpL o (Prs ord c v f m1 dep (i + 1) lv (a + 1)) a (Prs ord c v f md dep) = .ok (i', lv', cd, D) → ∀ x y, vbM md x → D w x = some y → vbM md y := by
      intro md m1 o dep i lv a i' lv' cd D h1 h2 hh v1 hP x y hx hD
      obtain ⟨i1, lv1, cd1, D1, cd2, D2, p1, p2, rfl, rfl⟩ := jmpL_inv hP
      obtain ⟨z, e1, e2⟩ := Option.bind_eq_some_iff.mp hD
      refine ih md dep _ _ _ _ _ _ _ h2 p2 z y (fun _ => ?_) e2
      split at e1
      · cases e1; exact hx
      · exact v1 z (ih m1 dep _ _ _ _ _ _ _ h1 p1 0 z (fun q => absurd hh (by rw [q]; decide)) e1)
    have op : ∀ (md m1 o dep i lv a i' lv' : Nat) (cd : List (Nat × Nat)) (D : DN), 7 ≤ md → md < 12 → opL o (Prs ord c v f m1 dep (i + 1) lv a) a (Prs ord c v f md dep) = .ok (i', lv', cd, D) → ∀ x y, D w x = some y → vbM md y := by
      intro md m1 o dep i lv a i' lv' cd D h7 h2 hP x y hD
      obtain ⟨i1, lv1, cd1, D1, cd2, D2, p1, p2, rfl, rfl⟩ := opL_inv hP
      obtain ⟨z, e1, e2⟩ := Option.bind_eq_some_iff.mp hD
      obtain ⟨u, e3, e4⟩ := Option.bind_eq_some_iff.mp e1
      exact ih md dep _ _ _ _ _ _ _ h2 p2 z y (fun _ => by unfold vbM; rw [if_neg (by omega)]; exact arO_b e4) e2
    intro md dep i lv a i' lv' cd D hm hP x y hx hD
    match md, hm, hP, hx with
    | 0, _, hP, hx => exact sq 0 1 2 dep i lv a i' lv' cd D (by decide) (by decide) rfl (fun _ z => z) (fun _ z => z) hP x y hD
    | 1, _, hP, hx => exact sq 1 3 4 dep i lv a i' lv' cd D (by decide) (by decide) rfl (fun _ z => z) (fun _ z => z) hP x y hD
    | 7, _, hP, hx => exact sq 7 9 8 dep i lv a i' lv' cd D (by decide) (by decide) rfl (fun _ z => z) (fun _ z => z) hP x y hD
    | 9, _, hP, hx => exact sq 9 11 10 dep i lv a i' lv' cd D (by decide) (by decide) rfl (fun _ z => z) (fun _ z => z) hP x y hD
    | 2, _, hP, hx =>
      have hP : (if c i = 6 then jmpL 4 (Prs ord c v f 1 dep (i + 1) lv (a + 1)) a (Prs ord c v f 2 dep) else .ok (i, lv, [], fun _ x => some x)) = .ok (i', lv', cd, D) := hP
      split at hP
      · exact jm 2 1 4 dep i lv a i' lv' cd D (by decide) (by decide) rfl (fun _ z => z) hP x y (hx rfl) hD
      · cases hP; cases hD; exact hx rfl
    | 4, _, hP, hx =>
      have hP : (if c i = 7 then jmpL 3 (Prs ord c v f 3 dep (i + 1) lv (a + 1)) a (Prs ord c v f 4 dep) else .ok (i, lv, [], fun _ x => some x)) = .ok (i', lv', cd, D) := hP
      split at hP
      · exact jm 4 3 3 dep i lv a i' lv' cd D (by decide) (by decide) rfl (fun _ z => z) hP x y (hx rfl) hD
      · cases hP; cases hD; exact hx rfl
    | 3, _, hP, hx =>
      have hP : (if c i = 8 then Prs ord c v f 5 dep (i + 1) lv a else Prs ord c v f 6 dep i lv a) = .ok (i', lv', cd, D) := hP
      split at hP
      · exact ih 5 dep _ _ _ _ _ _ _ (by decide) hP x y (fun z => nomatch z) hD
      · exact ih 6 dep _ _ _ _ _ _ _ (by decide) hP x y (fun z => nomatch z) hD
    | 5, _, hP, hx =>
      have hP : (if c i = 8 then Prs ord c v f 3 dep (i + 1) lv a else notL (Prs ord c v f 6 dep i lv a)) = .ok (i', lv', cd, D) := hP
      split at hP
      · exact ih 3 dep _ _ _ _ _ _ _ (by decide) hP x y (fun z => nomatch z) hD
      · obtain ⟨cd1, D1, p1, rfl, rfl⟩ := notL_inv hP
        obtain ⟨z, e1, rfl⟩ := Option.map_eq_some_iff.mp hD
        have q : z = 0 ∨ z = 1 := ih 6 dep _ _ _ _ _ _ _ (by decide) p1 x z (fun z => nomatch z) e1
        show 1 - z = 0 ∨ 1 - z = 1
        omega
    | 6, _, hP, hx =>
      have hP : (if c i = 140 then (if dep = 8 then .error i else cloL c 141 (Prs ord c v f 0 (dep + 1) (i + 1) lv a)) else cmpL c (Prs ord c v f 7 dep i lv a) a (Prs ord c v f 7 dep)) = .ok (i', lv', cd, D) := hP
      split at hP
      · split at hP
        · cases hP
        · obtain ⟨i1, p1, -, -⟩ := cloL_inv hP
          exact ih 0 (dep + 1) _ _ _ _ _ _ _ (by decide) p1 x y (fun z => nomatch z) hD
      · obtain ⟨i1, lv1, cd1, D1, cd2, D2, p1, po, p2, rfl, rfl⟩ := cmpL_inv hP
        obtain ⟨z, e1, e2⟩ := Option.bind_eq_some_iff.mp hD
        obtain ⟨u, e3, rfl⟩ := Option.map_eq_some_iff.mp e2
        exact cmO_01 _ _ _
    | 8, _, hP, hx =>
      have hP : (if sOp (c i) = 0 then .ok (i, lv, [], fun _ x => some x) else opL (sOp (c i)) (Prs ord c v f 9 dep (i + 1) lv a) a (Prs ord c v f 8 dep)) = .ok (i', lv', cd, D) := hP
      split at hP
      · cases hP; cases hD; exact hx rfl
      · exact op 8 9 _ dep i lv a i' lv' cd D (by decide) (by decide) hP x y hD
    | 10, _, hP, hx =>
      have hP : (if tOp (c i) = 0 then .ok (i, lv, [], fun _ x => some x) else opL (tOp (c i)) (Prs ord c v f 11 dep (i + 1) lv a) a (Prs ord c v f 10 dep)) = .ok (i', lv', cd, D) := hP
      split at hP
      · cases hP; cases hD; exact hx rfl
      · exact op 10 11 _ dep i lv a i' lv' cd D (by decide) (by decide) hP x y hD
    | 11, _, hP, hx =>
      have hP : (if c i = 191 then (if dep = 8 then .error i else cloL c 193 (Prs ord c v f 7 (dep + 1) (i + 1) lv a)) else prtL ord c v i lv) = .ok (i', lv', cd, D) := hP
      split at hP
      · split at hP
        · cases hP
        · obtain ⟨i1, p1, -, -⟩ := cloL_inv hP
          exact ih 7 (dep + 1) _ _ _ _ _ _ _ (by decide) p1 x y (fun z => nomatch z) hD
      · rcases prtL_inv hP with ⟨h1, h2, -, -, -, rfl⟩ | ⟨rfl, h1, h2, h3, -, -, -, rfl⟩ | ⟨rfl, h1, h2, -, -, -, rfl⟩ | ⟨rfl, h1, h2, -, -, -, rfl⟩
        · cases hD
          show -1000000000 ≤ (v i : Int) ∧ (v i : Int) ≤ 1000000000
          omega
        · cases hD
          exact hb _ (by rw [if_pos rfl]; split <;> omega)
        · cases hD
          exact hb _ (by rw [if_pos rfl]; omega)
        · cases hD
          exact hb _ (by rw [if_neg (by decide)]; exact lwI_lt)
theorem Pt_B {ord : Bool} {c v : Nat → Nat} {w : Nat → Int32} (hb : ∀ j, j < (if ord then 17 else 9) → -1000000000 ≤ (w j).toInt ∧ (w j).toInt ≤ 1000000000) {A : List (Nat × Nat)} {md : Nat} (hm : md = 0 ∨ md = 7) {pt : PT} (h : PtOK ord c v A md pt) : PtB w pt := by
  intro pos D e y hy
  obtain ⟨f, i, lv, i', lv', cd, hP, -⟩ := h pos D e
  exact vbM_b (Prs_vb hb f md 0 i lv pos i' lv' cd D (by omega) hP 0 y (fun z => by rcases hm with rfl | rfl <;> cases z) hy)
