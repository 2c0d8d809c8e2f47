/-- slots that the class's reading of clauses changes -/
def rcX (k j : Nat) : Bool := rX k j || (k == 37 && j == 2) || k == 38
theorem Fr.rc {h h' : AH} (F : Fr rX h h') : Fr rcX h h' := F.weak (fun k j hx => by
  unfold rcX at hx
  rw [Bool.or_eq_false_iff, Bool.or_eq_false_iff] at hx
  exact hx.1.1)
theorem CB.rc {h h' : AH} {ord : Bool} {tb : Nat → Int32} {L : Nat} {TL : List (Nat × Nat)} (B : CB h ord tb L TL) (F : Fr rcX h h') : CB h' ord tb L TL := ⟨⟨F.S B.1.1, F.R B.1.2.1 (by decide), B.1.2.2.1, (F.I 35 2 rfl).trans B.1.2.2.2.1, (F.I 35 4 rfl).trans B.1.2.2.2.2⟩, (funext fun i => F.I 36 i rfl).trans B.2.1, B.2.2⟩
/-- within a clause: h0 stood ahead of it; n clauses stand, its code begins at a, cd is its code so far, hv its head -/
def MC (h0 : AH) (ord : Bool) (L : Nat) (TL : List (Nat × Nat)) (n a : Nat) (af : Bool) (h : AH) (i lv : Nat) (cd : List (Nat × Nat)) (hv : Nat → Int32) : Prop := Fr rcX h0 h ∧ GS h L TL i lv (a + cd.length) (af || fitC ord cd) ∧ (∀ j, j < a → gI h 39 j = gI h0 39 j) ∧ (∀ m q, cd[m]? = some q → gI h 39 (a + m) = enc q) ∧ gI h 37 2 = nI (n + 1) ∧ (∀ j, j < 5 * n → gI h 38 j = gI h0 38 j) ∧ (∀ w, w < 5 → gI h 38 (5 * n + w) = hv w)
/-- the reading of a clause has failed -/
def ME (h0 : AH) (L : Nat) (TL : List (Nat × Nat)) (e : Nat) (h : AH) : Prop := Fr rcX h0 h ∧ gI h 35 3 = nI (pT L TL e) ∧ ∃ n, n ≤ 436 ∧ gI h 37 3 = nI n
section Mk
variable {h0 h h1 : AH} {ord : Bool} {L : Nat} {TL : List (Nat × Nat)} {n a : Nat} {af : Bool} {i lv : Nat} {cd : List (Nat × Nat)} {hv : Nat → Int32}
theorem MC.parse {i1 lv1 : Nat} {cd1 : List (Nat × Nat)} {D : DN} (M : MC h0 ord L TL n a af h i lv cd hv) (p : cQ h ord L TL (a + cd.length) (af || fitC ord cd) (.ok (i1, lv1, cd1, D)) h1) : MC h0 ord L TL n a af h1 i1 lv1 (cd ++ cd1) hv := by
  obtain ⟨F, G, m1, m2, m3, m4, m5⟩ := M
  obtain ⟨F1, G1, b1, c1⟩ := p
  refine ⟨F.trans F1.rc, ?_, fun j hj => (b1 j (by omega)).trans (m1 j hj), fun m q hq => ?_, (F1.I 37 2 rfl).trans m3, fun j hj => (F1.I 38 j rfl).trans (m4 j hj), fun w hw => (F1.I 38 _ rfl).trans (m5 w hw)⟩
  · rw [List.length_append, ← Nat.add_assoc, fitC_app, ← Bool.or_assoc]; exact G1
  · by_cases hm : m < cd.length
    · rw [List.getElem?_append_left hm] at hq
      rw [b1 (a + m) (by omega)]; exact m2 m q hq
    · rw [List.getElem?_append_right (by omega)] at hq
      have := c1 _ q hq
      rw [show a + cd.length + (m - cd.length) = a + m by omega] at this; exact this
theorem MC.perr {e a' : Nat} {af' : Bool} (M : MC h0 ord L TL n a af h i lv cd hv) (p : cQ h ord L TL a' af' (.error e) h1) : ME h0 L TL e h1 := ⟨M.1.trans p.1.rc, p.2⟩
theorem MC.werr (M : MC h0 ord L TL n a af h i lv cd hv) (ha : a + cd.length ≤ 436) : ME h0 L TL i (sI h 35 3 (gI h 35 6)) := M.perr (cQ_err (ord := ord) ha M.2.1)
theorem MC.av (M : MC h0 ord L TL n a af h i lv cd hv) {j : Nat} (F : Fr avX h h1) (T : TS h1 L TL j) : MC h0 ord L TL n a af h1 j lv cd hv := ⟨M.1.trans F.av.rc, M.2.1.av F T, fun j hj => (F.I 39 j rfl).trans (M.2.2.1 j hj), fun m q hq => (F.I 39 _ rfl).trans (M.2.2.2.1 m q hq), (F.I 37 2 rfl).trans M.2.2.2.2.1, fun j hj => (F.I 38 j rfl).trans (M.2.2.2.2.2.1 j hj), fun w hw => (F.I 38 _ rfl).trans (M.2.2.2.2.2.2 w hw)⟩
theorem MC.stop (M : MC h0 ord L TL n a af h i lv cd hv) : MC h0 ord L TL n a af (sI (sI h 39 (a + cd.length) (enc (0, 0))) 37 3 (nI (a + cd.length + 1))) i lv (cd ++ [(0, 0)]) hv := M.parse (D := fun _ _ => none) (cQ_emit (o := 0) (cd := []) (D := fun _ _ => none) (by decide) (cQ_nil M.2.1))
def upV (hv : Nat → Int32) (w : Nat) (x : Int32) : Nat → Int32 := fun j => if j = w then x else hv j
theorem MC.mark (M : MC h0 ord L TL n a af h i lv cd hv) {w : Nat} (hw : w < 5) (x : Int32) : MC h0 ord L TL n a af (sI h 38 (5 * n + w) x) i lv cd (upV hv w x) := by
  obtain ⟨F, G, m1, m2, m3, m4, m5⟩ := M
  refine ⟨F.sI (by unfold rcX; simp), ⟨G.1.o _ _ (by decide) (by decide), by rw [gI_ne _ _ _ _ (by decide)]; exact G.2.1, by rw [gI_ne _ _ _ _ (by decide)]; exact G.2.2.1, by rw [gI_ne _ _ _ _ (by decide)]; exact G.2.2.2.1, by rw [gI_ne _ _ _ _ (by decide)]; exact G.2.2.2.2⟩, fun j hj => by rw [gI_ne _ _ _ _ (by decide)]; exact m1 j hj, fun m q hq => by rw [gI_ne _ _ _ _ (by decide)]; exact m2 m q hq, by rw [gI_ne _ _ _ _ (by decide)]; exact m3, fun j hj => by rw [gI_off _ _ _ (by omega)]; exact m4 j hj, fun w' hw' => ?_⟩
  unfold upV
  by_cases e : w' = w
  · rw [if_pos e, e, gI_hit]
  · rw [if_neg e, gI_off _ _ _ (by omega)]; exact m5 w' hw'
end Mk
section Mt
variable (d : Nat) {h : AH}
theorem t_mark (S : ShOK h) (R : RfOK h) {n w : Nat} (hn : n < 12) (hw : w < 5) (hc : gI h 37 2 = nI (n + 1)) (x : Int32) : Rp d M_X9_mark 0 [some (.ref 37), some (.int (nI w)), some (.int x)] [] h (fun r h' => h' = sI h 38 (5 * n + w) x ∧ r = none) := by
  have e0 : ¬ nI (n + 1) ≤ 0 := by rw [i32_le, nI_toInt (by omega)]; show ¬ ((n + 1 : Nat) : Int) ≤ 0; omega
  refine Rp.aload_n dX9_mark_0 rfl rfl ?_
  refine Rp.getI dX9_mark_1 fk_X9_18 rfl (S _ _ rfl) ?_
  first | rw [hc] | skip
  refine Rp.if_le (tgt := 23) dX9_mark_4 (by decide) (fun c4 => ?_) (fun c4 => ?_)
  · skip
    exact absurd c4 e0
  · skip
    refine Rp.aload_n dX9_mark_7 rfl rfl ?_
    refine Rp.getR dX9_mark_8 fk_X9_11 rfl (S _ _ rfl) (R _ _ _ rfl) ?_
    refine Rp.aload_n dX9_mark_11 rfl rfl ?_
    refine Rp.getI dX9_mark_12 fk_X9_18 rfl (S _ _ rfl) ?_
    first | rw [hc] | skip
    refine Rp.iconst (nI 1) dX9_mark_15 (by decide) ?_
    first | ((with_reducible show Rp _ _ _ _ (.int (nI _) :: .int (nI _) :: _) _ _); refine Rp.isubN dX9_mark_16 (by omega) ?_) | refine Rp.isub dX9_mark_16 ?_
    refine Rp.iconst (nI 5) dX9_mark_17 (by decide) ?_
    first | ((with_reducible show Rp _ _ _ _ (.int (nI _) :: .int (nI _) :: _) _ _); refine Rp.imulN dX9_mark_18 ?_) | refine Rp.imul dX9_mark_18 ?_
    refine Rp.iload_n dX9_mark_19 rfl ?_
    first | ((with_reducible show Rp _ _ _ _ (.int (nI _) :: .int (nI _) :: _) _ _); refine Rp.iaddN dX9_mark_20 ?_) | refine Rp.iadd dX9_mark_20 ?_
    refine Rp.iload_n dX9_mark_21 rfl ?_
    first | ((with_reducible show Rp _ _ _ _ (_ :: .int (nI _) :: _) _ _); refine Rp.iastoreN dX9_mark_22 (S _ _ rfl) (by omega) ?_) | refine Rp.iastore dX9_mark_22 (S _ _ rfl) (by first | assumption | exact vpb (by decide)) ?_
    refine Rp.vreturn dX9_mark_23 rfl ?_
    exact ⟨by rw [show (n + 1 - 1) * 5 + w = 5 * n + w by omega], rfl⟩
def opH (h : AH) (n vb : Nat) : AH := sI (sI (sI (sI (sI (sI h 37 2 (nI (n + 1))) 38 (5 * n + 0) (nI vb)) 38 (5 * n + 1) (nI 1)) 38 (5 * n + 2) (-1)) 38 (5 * n + 3) (-1)) 38 (5 * n + 4) (-1)
theorem t_open (S : ShOK h) (R : RfOK h) {n vb : Nat} (hn : n < 12) (hc : gI h 37 2 = nI n) : Rp (d + 1) M_X9_open 0 [some (.ref 37), some (.int (nI vb))] [] h (fun r h' => h' = opH h n vb ∧ r = none) := by
  have e1 : ∀ (g : AH) (j : Nat) (x : Int32), gI g 37 2 = nI (n + 1) → gI (sI g 38 j x) 37 2 = nI (n + 1) := fun g j x e => by rw [gI_ne _ _ _ _ (by decide)]; exact e
  have k0 : gI (sI h 37 2 (nI (n + 1))) 37 2 = nI (n + 1) := gI_hit _ _ _ _
  have k1 := e1 _ (5 * n + 0) (nI vb) k0
  have k2 := e1 _ (5 * n + 1) (nI 1) k1
  have k3 := e1 _ (5 * n + 2) (-1) k2
  have k4 := e1 _ (5 * n + 3) (-1) k3
  have q0 := t_mark d (h := sI h 37 2 (nI (n + 1))) S R hn (w := 0) (by decide) k0 (nI vb)
  have q1 := t_mark d (h := sI (sI h 37 2 (nI (n + 1))) 38 (5 * n + 0) (nI vb)) S R hn (w := 1) (by decide) k1 (nI 1)
  have q2 := t_mark d (h := sI (sI (sI h 37 2 (nI (n + 1))) 38 (5 * n + 0) (nI vb)) 38 (5 * n + 1) (nI 1)) S R hn (w := 2) (by decide) k2 (-1)
  have q3 := t_mark d (h := sI (sI (sI (sI h 37 2 (nI (n + 1))) 38 (5 * n + 0) (nI vb)) 38 (5 * n + 1) (nI 1)) 38 (5 * n + 2) (-1)) S R hn (w := 3) (by decide) k3 (-1)
  have q4 := t_mark d (h := sI (sI (sI (sI (sI h 37 2 (nI (n + 1))) 38 (5 * n + 0) (nI vb)) 38 (5 * n + 1) (nI 1)) 38 (5 * n + 2) (-1)) 38 (5 * n + 3) (-1)) S R hn (w := 4) (by decide) k4 (-1)
  refine Rp.aload_n dX9_open_0 rfl rfl ?_
  refine Rp.getI dX9_open_1 fk_X9_18 rfl (S _ _ rfl) ?_
  first | rw [hc] | skip
  refine Rp.bipush (nI 12) dX9_open_4 (by decide) ?_
  first | ((with_reducible show Rp _ _ _ _ (.int (nI _) :: .int (nI _) :: _) _ _); refine Rp.icmp_ltN (tgt := 10) dX9_open_6 (by decide) (by omega) (fun c6 => ?_) (fun c6 => ?_)) | refine Rp.icmp_lt (tgt := 10) dX9_open_6 (by decide) (fun c6 => ?_) (fun c6 => ?_)
  · skip
    refine Rp.aload_n dX9_open_10 rfl rfl ?_
    refine Rp.dup dX9_open_11 rfl ?_
    refine Rp.getI dX9_open_12 fk_X9_18 rfl (S _ _ rfl) ?_
    first | rw [hc] | skip
    refine Rp.iconst (nI 1) dX9_open_15 (by decide) ?_
    first | ((with_reducible show Rp _ _ _ _ (.int (nI _) :: .int (nI _) :: _) _ _); refine Rp.iaddN dX9_open_16 ?_) | refine Rp.iadd dX9_open_16 ?_
    refine Rp.putI dX9_open_17 fk_X9_18w rfl (S _ _ rfl) ?_
    refine Rp.aload_n dX9_open_20 rfl rfl ?_
    refine Rp.iconst (nI 0) dX9_open_21 (by decide) ?_
    refine Rp.iload_n dX9_open_22 rfl ?_
    refine Rp.callV2 M_X9_mark (ci := 9) dX9_open_23 mo_X9_mark lk_X9_35 (by decide) rfl rfl (S _ _ rfl) (Nat.le_of_ble_eq_true rfl) (Nat.le_of_ble_eq_true rfl) (q0) (fun v1 h1 p1 x1 => ?_)
    rw [p1.1, p1.2]
    try dsimp only [Option.toList, List.cons_append, List.nil_append, List.append]
    refine Rp.aload_n dX9_open_26 rfl rfl ?_
    refine Rp.iconst (nI 1) dX9_open_27 (by decide) ?_
    refine Rp.iconst (nI 1) dX9_open_28 (by decide) ?_
    refine Rp.callV2 M_X9_mark (ci := 9) dX9_open_29 mo_X9_mark lk_X9_35 (by decide) rfl rfl (S _ _ rfl) (Nat.le_of_ble_eq_true rfl) (Nat.le_of_ble_eq_true rfl) (q1) (fun v1 h1 p1 x1 => ?_)
    rw [p1.1, p1.2]
    try dsimp only [Option.toList, List.cons_append, List.nil_append, List.append]
    refine Rp.aload_n dX9_open_32 rfl rfl ?_
    refine Rp.iconst (nI 2) dX9_open_33 (by decide) ?_
    refine Rp.iconst (-1) dX9_open_34 (by decide) ?_
    refine Rp.callV2 M_X9_mark (ci := 9) dX9_open_35 mo_X9_mark lk_X9_35 (by decide) rfl rfl (S _ _ rfl) (Nat.le_of_ble_eq_true rfl) (Nat.le_of_ble_eq_true rfl) (q2) (fun v1 h1 p1 x1 => ?_)
    rw [p1.1, p1.2]
    try dsimp only [Option.toList, List.cons_append, List.nil_append, List.append]
    refine Rp.aload_n dX9_open_38 rfl rfl ?_
    refine Rp.iconst (nI 3) dX9_open_39 (by decide) ?_
    refine Rp.iconst (-1) dX9_open_40 (by decide) ?_
    refine Rp.callV2 M_X9_mark (ci := 9) dX9_open_41 mo_X9_mark lk_X9_35 (by decide) rfl rfl (S _ _ rfl) (Nat.le_of_ble_eq_true rfl) (Nat.le_of_ble_eq_true rfl) (q3) (fun v1 h1 p1 x1 => ?_)
    rw [p1.1, p1.2]
    try dsimp only [Option.toList, List.cons_append, List.nil_append, List.append]
    refine Rp.aload_n dX9_open_44 rfl rfl ?_
    refine Rp.iconst (nI 4) dX9_open_45 (by decide) ?_
    refine Rp.iconst (-1) dX9_open_46 (by decide) ?_
    refine Rp.callV2 M_X9_mark (ci := 9) dX9_open_47 mo_X9_mark lk_X9_35 (by decide) rfl rfl (S _ _ rfl) (Nat.le_of_ble_eq_true rfl) (Nat.le_of_ble_eq_true rfl) (q4) (fun v1 h1 p1 x1 => ?_)
    rw [p1.1, p1.2]
    try dsimp only [Option.toList, List.cons_append, List.nil_append, List.append]
    refine Rp.vreturn dX9_open_50 rfl ?_
    exact ⟨rfl, rfl⟩
  · skip
    first | (exfalso; omega) | exact absurd c6 (by decide) | exact absurd (by decide) c6
def hv0 (vb : Nat) : Nat → Int32 := fun w => match w with
  | 0 => nI vb
  | 1 => nI 1
  | _ => -1
theorem MC_open {ord : Bool} {L : Nat} {TL : List (Nat × Nat)} {n vb i lv a : Nat} {af : Bool} (G : GS h L TL i lv a af) : MC h ord L TL n a af (opH h n vb) i lv [] (hv0 vb) := by
  have F : Fr rcX h (opH h n vb) := (((((Fr.rfl'.sI rfl).sI (by unfold rcX; simp)).sI (by unfold rcX; simp)).sI (by unfold rcX; simp)).sI (by unfold rcX; simp)).sI (by unfold rcX; simp)
  have o : ∀ k j, k ≠ 38 → k ≠ 37 → gI (opH h n vb) k j = gI h k j := fun k j h1 h2 => by
    unfold opH
    rw [gI_ne _ _ _ _ h1, gI_ne _ _ _ _ h1, gI_ne _ _ _ _ h1, gI_ne _ _ _ _ h1, gI_ne _ _ _ _ h1, gI_ne _ _ _ _ h2]
  have o7 : ∀ j, j ≠ 2 → gI (opH h n vb) 37 j = gI h 37 j := fun j h1 => by
    unfold opH
    rw [gI_ne _ _ _ _ (by decide), gI_ne _ _ _ _ (by decide), gI_ne _ _ _ _ (by decide), gI_ne _ _ _ _ (by decide), gI_ne _ _ _ _ (by decide), gI_off _ _ _ h1]
  refine ⟨F, ⟨G.1.mv (funext fun j => o 36 j (by decide) (by decide)) (o 35 5 (by decide) (by decide)) (o 35 6 (by decide) (by decide)) (o 35 7 (by decide) (by decide)) (o 35 8 (by decide) (by decide)), (o 35 9 (by decide) (by decide)).trans G.2.1, (o 35 3 (by decide) (by decide)).trans G.2.2.1, (o7 3 (by decide)).trans G.2.2.2.1, ?_⟩, fun j hj => o 39 j (by decide) (by decide), fun m q hq => (nomatch hq), ?_, fun j hj => ?_, fun w hw => ?_⟩
  · rw [show fitC ord [] = false by cases ord <;> rfl, Bool.or_false]; exact (o7 4 (by decide)).trans G.2.2.2.2
  · unfold opH
    rw [gI_ne _ _ _ _ (by decide), gI_ne _ _ _ _ (by decide), gI_ne _ _ _ _ (by decide), gI_ne _ _ _ _ (by decide), gI_ne _ _ _ _ (by decide), gI_hit]
  · unfold opH
    rw [gI_off _ _ _ (by omega), gI_off _ _ _ (by omega), gI_off _ _ _ (by omega), gI_off _ _ _ (by omega), gI_off _ _ _ (by omega), gI_ne _ _ _ _ (by decide)]
  · unfold opH
    match w, hw with
    | 0, _ => rw [gI_off _ _ _ (by omega), gI_off _ _ _ (by omega), gI_off _ _ _ (by omega), gI_off _ _ _ (by omega), gI_hit]; rfl
    | 1, _ => rw [gI_off _ _ _ (by omega), gI_off _ _ _ (by omega), gI_off _ _ _ (by omega), gI_hit]; rfl
    | 2, _ => rw [gI_off _ _ _ (by omega), gI_off _ _ _ (by omega), gI_hit]; rfl
    | 3, _ => rw [gI_off _ _ _ (by omega), gI_hit]; rfl
    | 4, _ => rw [gI_hit]; rfl
end Mt
