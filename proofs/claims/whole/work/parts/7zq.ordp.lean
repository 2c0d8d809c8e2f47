theorem Prs_ag {ord : Bool} {c v : Nat → Nat} {w w' : Nat → Int32} : ∀ (f md dep i lv a i' lv' : Nat) (cd : List (Nat × Nat)) (D : DN), md < 12 → Prs ord c v f md dep i lv a = .ok (i', lv', cd, D) → (∀ q ∈ cd, q.1 = 2 → w q.2 = w' q.2) → D w = D w' := by
  intro f
  induction f with
  | zero => intro md dep i lv a i' lv' cd D hm hP; cases hP
  | succ f ih =>
    have sq : ∀ (m1 m2 dep i lv a i' lv' : Nat) (cd : List (Nat × Nat)) (D : DN), m1 < 12 → m2 < 12 → seqL (Prs ord c v f m1 dep i lv a) a (Prs ord c v f m2 dep) = .ok (i', lv', cd, D) → (∀ q ∈ cd, q.1 = 2 → w q.2 = w' q.2) → D w = D w' := by
      intro m1 m2 dep i lv a i' lv' cd D h1 h2 hP hq
      obtain ⟨i1, lv1, cd1, D1, cd2, D2, p1, p2, rfl, rfl⟩ := seqL_inv hP
      have e1 := ih m1 dep _ _ _ _ _ _ _ h1 p1 (fun q m => hq q (List.mem_append_left _ m))
      have e2 := ih m2 dep _ _ _ _ _ _ _ h2 p2 (fun q m => hq q (List.mem_append_right _ m))
      show (fun x => (D1 w x).bind (D2 w)) = (fun x => (D1 w' x).bind (D2 w'))
      rw [e1, e2]
    have jm : ∀ (md m1 o dep i lv a i' lv' : Nat) (cd : List (Nat × Nat)) (D : DN), m1 < 12 → md < 12 → jmpL o (Prs ord c v f m1 dep (i + 1) lv (a + 1)) a (Prs ord c v f md dep) = .ok (i', lv', cd, D) → (∀ q ∈ cd, q.1 = 2 → w q.2 = w' q.2) → D w = D w' := by
      intro md m1 o dep i lv a i' lv' cd D h1 h2 hP hq
      obtain ⟨i1, lv1, cd1, D1, cd2, D2, p1, p2, rfl, rfl⟩ := jmpL_inv hP
      have e1 := ih m1 dep _ _ _ _ _ _ _ h1 p1 (fun q m => hq q (List.mem_cons_of_mem _ (List.mem_append_left _ m)))
      have e2 := ih md dep _ _ _ _ _ _ _ h2 p2 (fun q m => hq q (List.mem_cons_of_mem _ (List.mem_append_right _ m)))
      show (fun x => (if x = (o : Int) - 3 then some x else D1 w 0).bind (D2 w)) = (fun x => (if x = (o : Int) - 3 then some x else D1 w' 0).bind (D2 w'))
      rw [e1, e2]
    have op : ∀ (md m1 o dep i lv a i' lv' : Nat) (cd : List (Nat × Nat)) (D : DN), m1 < 12 → md < 12 → opL o (Prs ord c v f m1 dep (i + 1) lv a) a (Prs ord c v f md dep) = .ok (i', lv', cd, D) → (∀ q ∈ cd, q.1 = 2 → w q.2 = w' q.2) → D w = D w' := by
      intro md m1 o dep i lv a i' lv' cd D h1 h2 hP hq
      obtain ⟨i1, lv1, cd1, D1, cd2, D2, p1, p2, rfl, rfl⟩ := opL_inv hP
      have e1 := ih m1 dep _ _ _ _ _ _ _ h1 p1 (fun q m => hq q (List.mem_append_left _ m))
      have e2 := ih md dep _ _ _ _ _ _ _ h2 p2 (fun q m => hq q (List.mem_append_right _ (List.mem_cons_of_mem _ m)))
      show (fun x => ((D1 w 0).bind fun y => arO o x y).bind (D2 w)) = (fun x => ((D1 w' 0).bind fun y => arO o x y).bind (D2 w'))
      rw [e1, e2]
    intro md dep i lv a i' lv' cd D hm hP hq
    match md, hm, hP with
    | 0, _, hP => exact sq 1 2 dep i lv a i' lv' cd D (by decide) (by decide) hP hq
    | 1, _, hP => exact sq 3 4 dep i lv a i' lv' cd D (by decide) (by decide) hP hq
    | 7, _, hP => exact sq 9 8 dep i lv a i' lv' cd D (by decide) (by decide) hP hq
    | 9, _, hP => exact sq 11 10 dep i lv a i' lv' cd D (by decide) (by decide) hP hq
    | 2, _, hP =>
      have hP : (if c i = 6 then jmpL 4 (Prs ord c v f 1 dep (i + 1) lv (a + 1)) a (Prs ord c v f 2 dep) else .ok (i, lv, [], fun _ x => some x)) = .ok (i', lv', cd, D) := hP
      split at hP
      · exact jm 2 1 4 dep i lv a i' lv' cd D (by decide) (by decide) hP hq
      · cases hP; rfl
    | 4, _, hP =>
      have hP : (if c i = 7 then jmpL 3 (Prs ord c v f 3 dep (i + 1) lv (a + 1)) a (Prs ord c v f 4 dep) else .ok (i, lv, [], fun _ x => some x)) = .ok (i', lv', cd, D) := hP
      split at hP
      · exact jm 4 3 3 dep i lv a i' lv' cd D (by decide) (by decide) hP hq
      · cases hP; rfl
    | 3, _, hP =>
      have hP : (if c i = 8 then Prs ord c v f 5 dep (i + 1) lv a else Prs ord c v f 6 dep i lv a) = .ok (i', lv', cd, D) := hP
      split at hP
      · exact ih 5 dep _ _ _ _ _ _ _ (by decide) hP hq
      · exact ih 6 dep _ _ _ _ _ _ _ (by decide) hP hq
    | 5, _, hP =>
      have hP : (if c i = 8 then Prs ord c v f 3 dep (i + 1) lv a else notL (Prs ord c v f 6 dep i lv a)) = .ok (i', lv', cd, D) := hP
      split at hP
      · exact ih 3 dep _ _ _ _ _ _ _ (by decide) hP hq
      · obtain ⟨cd1, D1, p1, rfl, rfl⟩ := notL_inv hP
        have e1 := ih 6 dep _ _ _ _ _ _ _ (by decide) p1 (fun q m => hq q (List.mem_append_left _ m))
        show (fun x => (D1 w x).map fun y => 1 - y) = (fun x => (D1 w' x).map fun y => 1 - y)
        rw [e1]
    | 6, _, hP =>
      have hP : (if c i = 140 then (if dep = 8 then .error i else cloL c 141 (Prs ord c v f 0 (dep + 1) (i + 1) lv a)) else cmpL c (Prs ord c v f 7 dep i lv a) a (Prs ord c v f 7 dep)) = .ok (i', lv', cd, D) := hP
      split at hP
      · split at hP
        · cases hP
        · obtain ⟨i1, p1, -, -⟩ := cloL_inv hP
          exact ih 0 (dep + 1) _ _ _ _ _ _ _ (by decide) p1 hq
      · obtain ⟨i1, lv1, cd1, D1, cd2, D2, p1, po, p2, rfl, rfl⟩ := cmpL_inv hP
        have e1 := ih 7 dep _ _ _ _ _ _ _ (by decide) p1 (fun q m => hq q (List.mem_append_left _ m))
        have e2 := ih 7 dep _ _ _ _ _ _ _ (by decide) p2 (fun q m => hq q (List.mem_append_right _ (List.mem_append_left _ m)))
        show (fun x => (D1 w x).bind fun y => (D2 w 0).map fun z => cmO (cOp (c i1)) y z) = (fun x => (D1 w' x).bind fun y => (D2 w' 0).map fun z => cmO (cOp (c i1)) y z)
        rw [e1, e2]
    | 8, _, hP =>
      have hP : (if sOp (c i) = 0 then .ok (i, lv, [], fun _ x => some x) else opL (sOp (c i)) (Prs ord c v f 9 dep (i + 1) lv a) a (Prs ord c v f 8 dep)) = .ok (i', lv', cd, D) := hP
      split at hP
      · cases hP; rfl
      · exact op 8 9 _ dep i lv a i' lv' cd D (by decide) (by decide) hP hq
    | 10, _, hP =>
      have hP : (if tOp (c i) = 0 then .ok (i, lv, [], fun _ x => some x) else opL (tOp (c i)) (Prs ord c v f 11 dep (i + 1) lv a) a (Prs ord c v f 10 dep)) = .ok (i', lv', cd, D) := hP
      split at hP
      · cases hP; rfl
      · exact op 10 11 _ dep i lv a i' lv' cd D (by decide) (by decide) hP hq
    | 11, _, hP =>
      have hP : (if c i = 191 then (if dep = 8 then .error i else cloL c 193 (Prs ord c v f 7 (dep + 1) (i + 1) lv a)) else prtL ord c v i lv) = .ok (i', lv', cd, D) := hP
      split at hP
      · split at hP
        · cases hP
        · obtain ⟨i1, p1, -, -⟩ := cloL_inv hP
          exact ih 7 (dep + 1) _ _ _ _ _ _ _ (by decide) p1 hq
      · rcases prtL_inv hP with ⟨h1, h2, -, -, ec, rfl⟩ | ⟨rfl, h1, h2, h3, -, -, ec, rfl⟩ | ⟨rfl, h1, h2, -, -, ec, rfl⟩ | ⟨rfl, h1, h2, -, -, ec, rfl⟩
        · rfl
        · have := hq _ (by rw [ec]; exact List.mem_cons_self ..) rfl
          exact funext fun x => congrArg (fun z : Int32 => some z.toInt) this
        · have := hq _ (by rw [ec]; exact List.mem_cons_self ..) rfl
          exact funext fun x => congrArg (fun z : Int32 => some z.toInt) this
        · have := hq _ (by rw [ec]; exact List.mem_cons_self ..) rfl
          exact funext fun x => congrArg (fun z : Int32 => some z.toInt) this
theorem wO_ne {K : Nat → Int32} {np nt dn : Nat} {lt : Int32} {f f' j : Nat} (hj : j ≠ 3) : wO K np nt dn lt f j = wO K np nt dn lt f' j := by
  match j, hj with
  | 0, _ => rfl
  | 1, _ => rfl
  | 2, _ => rfl
  | 3, h => exact absurd rfl h
  | 4, _ => rfl
  | j + 5, _ => rfl
/-- a part that doesn't ask how many are fit -/
theorem pt_ag {c v : Nat → Nat} {LS : List CLE} {md pos : Nat} {D : DN} (hm : md < 12) (h : PtOK true c v (cdA LS) md (some (pos, D))) (K : Nat → Int32) (np nt dn : Nat) (lt : Int32) (f : Nat) : D (wO K np nt dn lt (if fitC true (cdA LS) = true then f else 0)) = D (wO K np nt dn lt f) := by
  by_cases e : fitC true (cdA LS) = true
  · rw [if_pos e]
  · rw [if_neg e]
    obtain ⟨g, i, lv, i', lv', cd, hP, hA⟩ := h pos D rfl
    refine Prs_ag g md 0 i lv pos i' lv' cd D hm hP (fun q hq h2 => wO_ne (fun h3 => e ?_))
    obtain ⟨n, hn⟩ := List.mem_iff_getElem?.mp hq
    have := hA n q (by rw [List.getElem?_append_left (List.getElem?_eq_some_iff.mp hn).1]; exact hn)
    unfold fitC
    rw [Bool.true_and, List.any_eq_true]
    exact ⟨q, List.mem_of_getElem? this, by rw [h2, h3]; rfl⟩
def ptV (p : PT) (w : Nat → Int32) : Option Int := match p with
  | none => some 0
  | some x => x.2 w 0
/-- what an order does -/
def obR (K : Nat → Int32) (fl : Option (List CLE)) (np nt vb : Nat) (x y : Int32) : Int32 × AC := if vb = 0 then drR K fl np nt x y else if vb = 1 then swR K fl np x y else if vb = 2 then dpR K np x else tkR K
/-- what people hold, the logs, how many were done, the latest number -/
abbrev OS : Type := (Nat → Int32) × List Int32 × List (Nat → Int32) × Nat × Int32
def orW (fl : Option (List CLE)) (np nt : Nat) (s : OS) : Nat → Int32 := wO s.1 np nt s.2.2.2.1 s.2.2.2.2 (fitN s.1 fl np)
def orA (s : OS) (vb : Nat) (r : Int32 × AC) : Option OS := if r.2.isSome = true then some (acK s.1 r.2, acE s.2.1 r.2, acU s.2.2.1 s.1 r.2, s.2.2.2.1 + 1, if vb = 0 then r.1 else s.2.2.2.2) else none
def orX2 (fl : Option (List CLE)) (np nt : Nat) (s : OS) (vb : Nat) (x y : Option Int) : Option OS := match x with
  | none => none
  | some x => match y with
    | none => none
    | some y => orA s vb (obR s.1 fl np nt vb (Int32.ofInt x) (Int32.ofInt y))
def orS (fl : Option (List CLE)) (np nt : Nat) (q : CLQ) (s : OS) : Option OS := if clH q (orW fl np nt s) = true then orX2 fl np nt s q.1 (ptV q.2.2.1 (orW fl np nt s)) (ptV q.2.2.2.1 (orW fl np nt s)) else some s
def orT (fl : Option (List CLE)) (np nt : Nat) (q : CLQ) : Nat → OS → Option OS
  | 0, s => some s
  | n + 1, s => match orS fl np nt q s with
    | none => none
    | some s' => orT fl np nt q n s'
def orL (fl : Option (List CLE)) (np nt : Nat) : List CLE → Nat → OS → Except Nat OS
  | [], _, s => .ok s
  | e :: L, n, s => match orT fl np nt e.2.2.2.2 e.2.2.2.2.2.1 s with
    | none => .error n
    | some s' => orL fl np nt L (n + 1) s'
/-- what holds all the while of a state -/
def OSK (np nt N : Nat) (s : OS) : Prop := VH s.1 np nt ∧ KB s.1 ∧ UR np nt s.1 s.2.1 s.2.2.1 ∧ s.2.2.2.1 ≤ N ∧ (s.2.2.2.2 = -1 ∨ ∃ x, x < 100 ∧ s.2.2.2.2 = nI x)
