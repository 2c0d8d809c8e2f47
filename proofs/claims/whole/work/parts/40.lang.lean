/-- what reading a piece of a text gives: the next token, the leaves, the code, its meaning -/
abbrev DN : Type := (Nat → Int32) → Int → Option Int
abbrev LR : Type := Nat × Nat × List (Nat × Nat) × DN
def ck (x : Int) : Option Int := if x > 1000000000 ∨ x < -1000000000 then none else some x
def arO (op : Nat) (x y : Int) : Option Int := if op = 9 then ck (x + y) else if op = 10 then ck (x - y) else if op = 11 then ck (x * y) else if op = 12 then (if y = 0 then none else ck (x.tdiv y)) else if y = 0 then none else ck (x.tmod y)
def bZ (b : Bool) : Int := if b then 1 else 0
def cmO (op : Nat) (x y : Int) : Int := if op = 6 then bZ (decide (x < y)) else if op = 7 then bZ (decide (y < x)) else bZ (decide (x = y))
def sOp (c : Nat) : Nat := if c = 143 then 9 else if c = 145 then 10 else 0
def tOp (c : Nat) : Nat := if c = 142 then 11 else if c = 147 then 12 else if c = 137 then 13 else 0
def cOp (c : Nat) : Nat := if c = 160 then 6 else if c = 162 then 7 else if c = 161 then 8 else 0
/-- the place of a law's word in the class, by its code -/
def lwI (c : Nat) : Nat := [0, 1, 3, 4, 5, 6, 8, 2, 7].getD (c - 9) 0
def seqL (x : Except Nat LR) (a : Nat) (k : Nat → Nat → Nat → Except Nat LR) : Except Nat LR := match x with
  | .error e => .error e
  | .ok (i, lv, cd, D) => match k i lv (a + cd.length) with
    | .error e => .error e
    | .ok (i', lv', cd', D') => .ok (i', lv', cd ++ cd', fun w x => (D w x).bind (D' w))
/-- or, and: op 4, 3 -/
def jmpL (op : Nat) (x : Except Nat LR) (a : Nat) (k : Nat → Nat → Nat → Except Nat LR) : Except Nat LR := match x with
  | .error e => .error e
  | .ok (i, lv, cd, D) => match k i lv (a + 1 + cd.length) with
    | .error e => .error e
    | .ok (i', lv', cd', D') => .ok (i', lv', (op, a + 1 + cd.length) :: (cd ++ cd'), fun w x => (if x = (op : Int) - 3 then some x else D w 0).bind (D' w))
/-- an operation behind its right side -/
def opL (op : Nat) (x : Except Nat LR) (a : Nat) (k : Nat → Nat → Nat → Except Nat LR) : Except Nat LR := match x with
  | .error e => .error e
  | .ok (i, lv, cd, D) => match k i lv (a + cd.length + 1) with
    | .error e => .error e
    | .ok (i', lv', cd', D') => .ok (i', lv', cd ++ (op, 0) :: cd', fun w x => ((D w 0).bind fun y => arO op x y).bind (D' w))
def notL (x : Except Nat LR) : Except Nat LR := match x with
  | .error e => .error e
  | .ok (i, lv, cd, D) => .ok (i, lv, cd ++ [(5, 0)], fun w x => (D w x).map fun y => 1 - y)
def cloL (c : Nat → Nat) (s : Nat) (x : Except Nat LR) : Except Nat LR := match x with
  | .error e => .error e
  | .ok (i, lv, cd, D) => if c i = s then .ok (i + 1, lv, cd, D) else .error i
def cmpL (c : Nat → Nat) (x : Except Nat LR) (a : Nat) (k : Nat → Nat → Nat → Except Nat LR) : Except Nat LR := match x with
  | .error e => .error e
  | .ok (i, lv, cd, D) => if cOp (c i) = 0 then .error i else match k (i + 1) lv (a + cd.length) with
    | .error e => .error e
    | .ok (i', lv', cd', D') => .ok (i', lv', cd ++ (cd' ++ [(cOp (c i), 0)]), fun w x => (D w x).bind fun y => (D' w 0).map fun z => cmO (cOp (c i)) y z)
def isW (ord : Bool) (k : Nat) : Bool := if ord then decide (16 ≤ k ∧ k ≤ 22) else decide (9 ≤ k ∧ k ≤ 17)
def prtL (ord : Bool) (c v : Nat → Nat) (i lv : Nat) : Except Nat LR :=
  if (c i = 50 ∧ v i ≤ 1000) ∨ isW ord (c i) = true then
    if lv = 50 then .error i else
    if c i = 50 then .ok (i + 1, lv + 1, [(1, v i)], fun _ _ => some (v i : Int))
    else if ord = true then
      if c i = 16 ∨ c i = 22 then
        if c (i + 1) = 50 ∧ v (i + 1) ≤ 5 then .ok (i + 2, lv + 1, [(2, (if c i = 22 then 5 else 11) + v (i + 1))], fun w _ => some (w ((if c i = 22 then 5 else 11) + v (i + 1))).toInt)
        else .error (i + 1)
      else .ok (i + 1, lv + 1, [(2, c i - 17)], fun w _ => some (w (c i - 17)).toInt)
    else .ok (i + 1, lv + 1, [(2, lwI (c i))], fun w _ => some (w (lwI (c i))).toInt)
  else .error i
def Pst (ord : Bool) (c v : Nat → Nat) (rec : Nat → Nat → Nat → Nat → Nat → Except Nat LR) (md dep i lv a : Nat) : Except Nat LR := match md with
  | 0 => seqL (rec 1 dep i lv a) a (rec 2 dep)
  | 1 => seqL (rec 3 dep i lv a) a (rec 4 dep)
  | 2 => if c i = 6 then jmpL 4 (rec 1 dep (i + 1) lv (a + 1)) a (rec 2 dep) else .ok (i, lv, [], fun _ x => some x)
  | 3 => if c i = 8 then rec 5 dep (i + 1) lv a else rec 6 dep i lv a
  | 4 => if c i = 7 then jmpL 3 (rec 3 dep (i + 1) lv (a + 1)) a (rec 4 dep) else .ok (i, lv, [], fun _ x => some x)
  | 5 => if c i = 8 then rec 3 dep (i + 1) lv a else notL (rec 6 dep i lv a)
  | 6 => if c i = 140 then (if dep = 8 then .error i else cloL c 141 (rec 0 (dep + 1) (i + 1) lv a)) else cmpL c (rec 7 dep i lv a) a (rec 7 dep)
  | 7 => seqL (rec 9 dep i lv a) a (rec 8 dep)
  | 8 => if sOp (c i) = 0 then .ok (i, lv, [], fun _ x => some x) else opL (sOp (c i)) (rec 9 dep (i + 1) lv a) a (rec 8 dep)
  | 9 => seqL (rec 11 dep i lv a) a (rec 10 dep)
  | 10 => if tOp (c i) = 0 then .ok (i, lv, [], fun _ x => some x) else opL (tOp (c i)) (rec 11 dep (i + 1) lv a) a (rec 10 dep)
  | _ => if c i = 191 then (if dep = 8 then .error i else cloL c 193 (rec 7 (dep + 1) (i + 1) lv a)) else prtL ord c v i lv
def Prs (ord : Bool) (c v : Nat → Nat) : Nat → Nat → Nat → Nat → Nat → Nat → Except Nat LR
  | 0 => fun _ _ i _ _ => .error i
  | f + 1 => Pst ord c v (Prs ord c v f)
/-- the rank of a mode: fuel 12 for a token, and the rank -/
def rkM (md : Nat) : Nat := [7, 6, 8, 5, 8, 5, 4, 3, 8, 2, 8, 1].getD md 1
def isHd (md : Nat) : Bool := [true, true, false, true, false, true, true, true, false, true, false].getD md true
/-- what a reading may be -/
def okL (T : Nat) (hd : Bool) (i lv : Nat) (q : Except Nat LR) (sl : Nat := 0) : Prop := match q with
  | .error e => e ≤ T
  | .ok (i', lv', cd, _) => i ≤ i' ∧ i' ≤ T ∧ (hd = true → i < i') ∧ lv' ≤ 50 ∧ lv ≤ lv' ∧ cd.length ≤ i' - i + sl
theorem okL_seq {T : Nat} {hd : Bool} {i lv : Nat} {x : Except Nat LR} {a : Nat} {k : Nat → Nat → Nat → Except Nat LR} (h1 : okL T hd i lv x) (h2 : ∀ i' lv' a', (i ≤ i' ∧ i' ≤ T ∧ (hd = true → i < i')) → lv' ≤ 50 → okL T false i' lv' (k i' lv' a')) : okL T hd i lv (seqL x a k) := by
  match x, h1 with
  | .error e, h1 => exact h1
  | .ok (i1, lv1, cd, D), h1 =>
    have q := h2 i1 lv1 (a + cd.length) ⟨h1.1, h1.2.1, h1.2.2.1⟩ h1.2.2.2.1
    unfold seqL
    dsimp only
    match k i1 lv1 (a + cd.length), q with
    | .error e, q => exact q
    | .ok (i2, lv2, cd2, D2), q =>
      have p := h1.2.2.1
      have p2 : (cd ++ cd2).length = cd.length + cd2.length := List.length_append
      obtain ⟨a1, a2, a3, a4, a5, a6⟩ := h1
      obtain ⟨b1, b2, b3, b4, b5, b6⟩ := q
      refine ⟨by omega, by omega, fun z => by have := a3 z; omega, by omega, by omega, by omega⟩
theorem okL_jmp {T op : Nat} {hd : Bool} {i lv : Nat} {x : Except Nat LR} {a : Nat} {k : Nat → Nat → Nat → Except Nat LR} (h1 : okL T true (i + 1) lv x) (h2 : ∀ i' lv' a', (i + 1 < i' ∧ i' ≤ T) → lv' ≤ 50 → okL T false i' lv' (k i' lv' a')) : okL T hd i lv (jmpL op x a k) := by
  match x, h1 with
  | .error e, h1 => exact h1
  | .ok (i1, lv1, cd, D), h1 =>
    have q := h2 i1 lv1 (a + 1 + cd.length) ⟨h1.2.2.1 rfl, h1.2.1⟩ h1.2.2.2.1
    unfold jmpL
    dsimp only
    match k i1 lv1 (a + 1 + cd.length), q with
    | .error e, q => exact q
    | .ok (i2, lv2, cd2, D2), q =>
      have p2 : ((op, a + 1 + cd.length) :: (cd ++ cd2)).length = cd.length + cd2.length + 1 := by rw [List.length_cons, List.length_append]
      obtain ⟨a1, a2, a3, a4, a5, a6⟩ := h1
      obtain ⟨b1, b2, b3, b4, b5, b6⟩ := q
      have := a3 rfl
      refine ⟨by omega, by omega, fun z => by omega, by omega, by omega, by omega⟩
theorem okL_op {T op : Nat} {hd : Bool} {i lv : Nat} {x : Except Nat LR} {a : Nat} {k : Nat → Nat → Nat → Except Nat LR} (h1 : okL T true (i + 1) lv x) (h2 : ∀ i' lv' a', (i + 1 < i' ∧ i' ≤ T) → lv' ≤ 50 → okL T false i' lv' (k i' lv' a')) : okL T hd i lv (opL op x a k) := by
  match x, h1 with
  | .error e, h1 => exact h1
  | .ok (i1, lv1, cd, D), h1 =>
    have q := h2 i1 lv1 (a + cd.length + 1) ⟨h1.2.2.1 rfl, h1.2.1⟩ h1.2.2.2.1
    unfold opL
    dsimp only
    match k i1 lv1 (a + cd.length + 1), q with
    | .error e, q => exact q
    | .ok (i2, lv2, cd2, D2), q =>
      have p2 : (cd ++ (op, 0) :: cd2).length = cd.length + (cd2.length + 1) := by rw [List.length_append, List.length_cons]
      obtain ⟨a1, a2, a3, a4, a5, a6⟩ := h1
      obtain ⟨b1, b2, b3, b4, b5, b6⟩ := q
      have := a3 rfl
      refine ⟨by omega, by omega, fun z => by omega, by omega, by omega, by omega⟩
theorem okL_clo {T s : Nat} {c : Nat → Nat} {i lv : Nat} {x : Except Nat LR} (hc : c T = 0) (hs : s ≠ 0) (h1 : okL T true (i + 1) lv x) : okL T true i lv (cloL c s x) := by
  match x, h1 with
  | .error e, h1 => exact h1
  | .ok (i1, lv1, cd, D), h1 =>
    unfold cloL
    dsimp only
    obtain ⟨a1, a2, a3, a4, a5, a6⟩ := h1
    by_cases hq : c i1 = s
    · rw [if_pos hq]
      have : i1 ≠ T := fun z => by rw [z, hc] at hq; exact hs hq.symm
      refine ⟨by omega, by omega, fun _ => by omega, by omega, by omega, by omega⟩
    · rw [if_neg hq]; exact a2
theorem okL_not {T : Nat} {i lv : Nat} {x : Except Nat LR} (h1 : okL T true i lv x) : okL T true i lv (notL x) 1 := by
  match x, h1 with
  | .error e, h1 => exact h1
  | .ok (i1, lv1, cd, D), h1 =>
    obtain ⟨a1, a2, a3, a4, a5, a6⟩ := h1
    have p2 : (cd ++ [((5 : Nat), (0 : Nat))]).length = cd.length + 1 := by rw [List.length_append]; rfl
    refine ⟨a1, a2, a3, a4, a5, ?_⟩
    rw [p2]; omega
theorem okL_up {T : Nat} {i lv s1 s2 : Nat} {hd : Bool} {x : Except Nat LR} (hs : s1 ≤ s2 + 1) (h1 : okL T true (i + 1) lv x s1) : okL T hd i lv x s2 := by
  match x, h1 with
  | .error e, h1 => exact h1
  | .ok (i1, lv1, cd, D), h1 =>
    obtain ⟨a1, a2, a3, a4, a5, a6⟩ := h1
    have := a3 rfl
    exact ⟨by omega, by omega, fun _ => by omega, by omega, by omega, by omega⟩
theorem okL_cmp {T : Nat} {c : Nat → Nat} {i lv : Nat} {x : Except Nat LR} {a : Nat} {k : Nat → Nat → Nat → Except Nat LR} (hc : c T = 0) (h1 : okL T true i lv x) (h2 : ∀ i' lv' a', (i < i' ∧ i' ≤ T) → lv' ≤ 50 → okL T true i' lv' (k i' lv' a')) : okL T true i lv (cmpL c x a k) := by
  match x, h1 with
  | .error e, h1 => exact h1
  | .ok (i1, lv1, cd, D), h1 =>
    unfold cmpL
    dsimp only
    obtain ⟨a1, a2, a3, a4, a5, a6⟩ := h1
    by_cases hq : cOp (c i1) = 0
    · rw [if_pos hq]; exact a2
    · rw [if_neg hq]
      have hT : i1 ≠ T := fun z => by rw [z, hc] at hq; exact hq rfl
      have := a3 rfl
      have q := h2 (i1 + 1) lv1 (a + cd.length) ⟨by omega, by omega⟩ a4
      match k (i1 + 1) lv1 (a + cd.length), q with
      | .error e, q => exact q
      | .ok (i2, lv2, cd2, D2), q =>
        have p2 : (cd ++ (cd2 ++ [(cOp (c i1), 0)])).length = cd.length + (cd2.length + 1) := by rw [List.length_append, List.length_append]; rfl
        obtain ⟨b1, b2, b3, b4, b5, b6⟩ := q
        refine ⟨by omega, by omega, fun _ => by omega, by omega, by omega, by omega⟩
theorem okL_prt {ord : Bool} {c v : Nat → Nat} {T i lv : Nat} (hc : c T = 0) (hi : i ≤ T) (hl : lv ≤ 50) : okL T true i lv (prtL ord c v i lv) := by
  unfold prtL
  by_cases h1 : (c i = 50 ∧ v i ≤ 1000) ∨ isW ord (c i) = true
  · rw [if_pos h1]
    have hT : i ≠ T := fun z => by
      rw [z, hc] at h1
      cases ord
      · exact absurd h1 (by simp [isW])
      · exact absurd h1 (by simp [isW])
    by_cases h2 : lv = 50
    · rw [if_pos h2]; exact hi
    · rw [if_neg h2]
      by_cases h3 : c i = 50
      · rw [if_pos h3]
        exact ⟨by omega, by omega, fun _ => by omega, by omega, by omega, by show 1 ≤ _; omega⟩
      · rw [if_neg h3]
        by_cases h4 : ord = true
        · rw [if_pos h4]
          by_cases h5 : c i = 16 ∨ c i = 22
          · rw [if_pos h5]
            by_cases h6 : c (i + 1) = 50 ∧ v (i + 1) ≤ 5
            · rw [if_pos h6]
              have hT2 : i + 1 ≠ T := fun z => by rw [z, hc] at h6; exact absurd h6.1 (by decide)
              exact ⟨by omega, by omega, fun _ => by omega, by omega, by omega, by show 1 ≤ _; omega⟩
            · rw [if_neg h6]; show i + 1 ≤ T; omega
          · rw [if_neg h5]
            exact ⟨by omega, by omega, fun _ => by omega, by omega, by omega, by show 1 ≤ _; omega⟩
        · rw [if_neg h4]
          exact ⟨by omega, by omega, fun _ => by omega, by omega, by omega, by show 1 ≤ _; omega⟩
  · rw [if_neg h1]; exact hi
def slM (md : Nat) : Nat := if md = 5 then 1 else 0
theorem okL_hd {T i lv sl : Nat} {x : Except Nat LR} {hd : Bool} (h : okL T true i lv x sl) : okL T hd i lv x sl := by
  match x, h with
  | .error e, h => exact h
  | .ok (i1, lv1, cd, D), h => exact ⟨h.1, h.2.1, fun _ => h.2.2.1 rfl, h.2.2.2.1, h.2.2.2.2.1, h.2.2.2.2.2⟩
theorem okL_nil {T i lv : Nat} {D : DN} (hi : i ≤ T) (hl : lv ≤ 50) : okL T false i lv (.ok (i, lv, [], D)) := ⟨Nat.le_refl _, hi, (fun z => nomatch z), hl, Nat.le_refl _, Nat.zero_le _⟩
theorem lt_of_code {c : Nat → Nat} {T i : Nat} (hc : c T = 0) (hi : i ≤ T) (h : c i ≠ 0) : i < T := by
  have : i ≠ T := fun z => by rw [z] at h; exact h hc
  omega
theorem Prs_ok {ord : Bool} {c v : Nat → Nat} {T : Nat} (hc : c T = 0) : ∀ (f md dep i lv a : Nat), md < 12 → i ≤ T → lv ≤ 50 → okL T (isHd md) i lv (Prs ord c v f md dep i lv a) (slM md) := by
  intro f
  induction f with
  | zero => intro md dep i lv a hm hi hl; exact hi
  | succ f ih =>
    intro md dep i lv a hm hi hl
    show okL T (isHd md) i lv (Pst ord c v (Prs ord c v f) md dep i lv a) (slM md)
    match md, hm with
    | 0, _ => exact okL_seq (ih 1 dep i lv a (by decide) hi hl) (fun i' lv' a' p q => ih 2 dep i' lv' a' (by decide) p.2.1 q)
    | 1, _ => exact okL_seq (ih 3 dep i lv a (by decide) hi hl) (fun i' lv' a' p q => ih 4 dep i' lv' a' (by decide) p.2.1 q)
    | 2, _ =>
      show okL T false i lv (if c i = 6 then _ else _) 0
      by_cases h6 : c i = 6
      · rw [if_pos h6]
        have := lt_of_code hc hi (by rw [h6]; decide)
        exact okL_jmp (ih 1 dep (i + 1) lv (a + 1) (by decide) this hl) (fun i' lv' a' p q => ih 2 dep i' lv' a' (by decide) p.2 q)
      · rw [if_neg h6]; exact okL_nil hi hl
    | 3, _ =>
      show okL T true i lv (if c i = 8 then _ else _) 0
      by_cases h6 : c i = 8
      · rw [if_pos h6]
        have := lt_of_code hc hi (by rw [h6]; decide)
        exact okL_up (Nat.le_refl _) (ih 5 dep (i + 1) lv a (by decide) this hl)
      · rw [if_neg h6]; exact ih 6 dep i lv a (by decide) hi hl
    | 4, _ =>
      show okL T false i lv (if c i = 7 then _ else _) 0
      by_cases h6 : c i = 7
      · rw [if_pos h6]
        have := lt_of_code hc hi (by rw [h6]; decide)
        exact okL_jmp (ih 3 dep (i + 1) lv (a + 1) (by decide) this hl) (fun i' lv' a' p q => ih 4 dep i' lv' a' (by decide) p.2 q)
      · rw [if_neg h6]; exact okL_nil hi hl
    | 5, _ =>
      show okL T true i lv (if c i = 8 then _ else _) 1
      by_cases h6 : c i = 8
      · rw [if_pos h6]
        have := lt_of_code hc hi (by rw [h6]; decide)
        exact okL_up (by decide) (ih 3 dep (i + 1) lv a (by decide) this hl)
      · rw [if_neg h6]; exact okL_not (ih 6 dep i lv a (by decide) hi hl)
    | 6, _ =>
      show okL T true i lv (if c i = 140 then (if dep = 8 then _ else _) else _) 0
      by_cases h6 : c i = 140
      · rw [if_pos h6]
        have := lt_of_code hc hi (by rw [h6]; decide)
        by_cases h8 : dep = 8
        · rw [if_pos h8]; exact hi
        · rw [if_neg h8]; exact okL_clo hc (by decide) (ih 0 (dep + 1) (i + 1) lv a (by decide) this hl)
      · rw [if_neg h6]
        exact okL_cmp hc (ih 7 dep i lv a (by decide) hi hl) (fun i' lv' a' p q => ih 7 dep i' lv' a' (by decide) p.2 q)
    | 7, _ => exact okL_seq (ih 9 dep i lv a (by decide) hi hl) (fun i' lv' a' p q => ih 8 dep i' lv' a' (by decide) p.2.1 q)
    | 8, _ =>
      show okL T false i lv (if sOp (c i) = 0 then _ else _) 0
      by_cases h6 : sOp (c i) = 0
      · rw [if_pos h6]; exact okL_nil hi hl
      · rw [if_neg h6]
        have := lt_of_code hc hi (fun z => by rw [z] at h6; exact h6 rfl)
        exact okL_op (ih 9 dep (i + 1) lv a (by decide) this hl) (fun i' lv' a' p q => ih 8 dep i' lv' a' (by decide) p.2 q)
    | 9, _ => exact okL_seq (ih 11 dep i lv a (by decide) hi hl) (fun i' lv' a' p q => ih 10 dep i' lv' a' (by decide) p.2.1 q)
    | 10, _ =>
      show okL T false i lv (if tOp (c i) = 0 then _ else _) 0
      by_cases h6 : tOp (c i) = 0
      · rw [if_pos h6]; exact okL_nil hi hl
      · rw [if_neg h6]
        have := lt_of_code hc hi (fun z => by rw [z] at h6; exact h6 rfl)
        exact okL_op (ih 11 dep (i + 1) lv a (by decide) this hl) (fun i' lv' a' p q => ih 10 dep i' lv' a' (by decide) p.2 q)
    | 11, _ =>
      show okL T true i lv (if c i = 191 then (if dep = 8 then _ else _) else _) 0
      by_cases h6 : c i = 191
      · rw [if_pos h6]
        have := lt_of_code hc hi (by rw [h6]; decide)
        by_cases h8 : dep = 8
        · rw [if_pos h8]; exact hi
        · rw [if_neg h8]; exact okL_clo hc (by decide) (ih 7 (dep + 1) (i + 1) lv a (by decide) this hl)
      · rw [if_neg h6]; exact okL_prt hc hi hl
