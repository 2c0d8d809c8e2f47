theorem seqL_inv {x : Except Nat LR} {a : Nat} {k : Nat → Nat → Nat → Except Nat LR} {i' lv' : Nat} {cd : List (Nat × Nat)} {D : DN} (h : seqL x a k = .ok (i', lv', cd, D)) : ∃ i1 lv1 cd1 D1 cd2 D2, x = .ok (i1, lv1, cd1, D1) ∧ k i1 lv1 (a + cd1.length) = .ok (i', lv', cd2, D2) ∧ cd = cd1 ++ cd2 ∧ D = fun w x => (D1 w x).bind (D2 w) := by
  match x, h with
  | .ok (i1, lv1, cd1, D1), h =>
    unfold seqL at h
    dsimp only at h
    match hk : k i1 lv1 (a + cd1.length), h with
    | .ok (i2, lv2, cd2, D2), h =>
      dsimp only at h
      cases h
      exact ⟨i1, lv1, cd1, D1, cd2, D2, rfl, hk, rfl, rfl⟩
theorem jmpL_inv {op : Nat} {x : Except Nat LR} {a : Nat} {k : Nat → Nat → Nat → Except Nat LR} {i' lv' : Nat} {cd : List (Nat × Nat)} {D : DN} (h : jmpL op x a k = .ok (i', lv', cd, D)) : ∃ i1 lv1 cd1 D1 cd2 D2, x = .ok (i1, lv1, cd1, D1) ∧ k i1 lv1 (a + 1 + cd1.length) = .ok (i', lv', cd2, D2) ∧ cd = (op, a + 1 + cd1.length) :: (cd1 ++ cd2) ∧ D = fun w x => (if x = (op : Int) - 3 then some x else D1 w 0).bind (D2 w) := by
  match x, h with
  | .ok (i1, lv1, cd1, D1), h =>
    unfold jmpL at h
    dsimp only at h
    match hk : k i1 lv1 (a + 1 + cd1.length), h with
    | .ok (i2, lv2, cd2, D2), h =>
      dsimp only at h
      cases h
      exact ⟨i1, lv1, cd1, D1, cd2, D2, rfl, hk, rfl, rfl⟩
theorem opL_inv {op : Nat} {x : Except Nat LR} {a : Nat} {k : Nat → Nat → Nat → Except Nat LR} {i' lv' : Nat} {cd : List (Nat × Nat)} {D : DN} (h : opL op x a k = .ok (i', lv', cd, D)) : ∃ i1 lv1 cd1 D1 cd2 D2, x = .ok (i1, lv1, cd1, D1) ∧ k i1 lv1 (a + cd1.length + 1) = .ok (i', lv', cd2, D2) ∧ cd = cd1 ++ (op, 0) :: cd2 ∧ D = fun w x => ((D1 w 0).bind fun y => arO op x y).bind (D2 w) := by
  match x, h with
  | .ok (i1, lv1, cd1, D1), h =>
    unfold opL at h
    dsimp only at h
    match hk : k i1 lv1 (a + cd1.length + 1), h with
    | .ok (i2, lv2, cd2, D2), h =>
      dsimp only at h
      cases h
      exact ⟨i1, lv1, cd1, D1, cd2, D2, rfl, hk, rfl, rfl⟩
theorem notL_inv {x : Except Nat LR} {i' lv' : Nat} {cd : List (Nat × Nat)} {D : DN} (h : notL x = .ok (i', lv', cd, D)) : ∃ cd1 D1, x = .ok (i', lv', cd1, D1) ∧ cd = cd1 ++ [(5, 0)] ∧ D = fun w x => (D1 w x).map fun y => 1 - y := by
  match x, h with
  | .ok (i1, lv1, cd1, D1), h =>
    unfold notL at h
    dsimp only at h
    cases h
    exact ⟨cd1, D1, rfl, rfl, rfl⟩
theorem cloL_inv {c : Nat → Nat} {s : Nat} {x : Except Nat LR} {i' lv' : Nat} {cd : List (Nat × Nat)} {D : DN} (h : cloL c s x = .ok (i', lv', cd, D)) : ∃ i1, x = .ok (i1, lv', cd, D) ∧ c i1 = s ∧ i' = i1 + 1 := by
  match x, h with
  | .ok (i1, lv1, cd1, D1), h =>
    unfold cloL at h
    dsimp only at h
    by_cases hs : c i1 = s
    · rw [if_pos hs] at h
      cases h
      exact ⟨i1, rfl, hs, rfl⟩
    · rw [if_neg hs] at h
      cases h
theorem cmpL_inv {c : Nat → Nat} {x : Except Nat LR} {a : Nat} {k : Nat → Nat → Nat → Except Nat LR} {i' lv' : Nat} {cd : List (Nat × Nat)} {D : DN} (h : cmpL c x a k = .ok (i', lv', cd, D)) : ∃ i1 lv1 cd1 D1 cd2 D2, x = .ok (i1, lv1, cd1, D1) ∧ cOp (c i1) ≠ 0 ∧ k (i1 + 1) lv1 (a + cd1.length) = .ok (i', lv', cd2, D2) ∧ cd = cd1 ++ (cd2 ++ [(cOp (c i1), 0)]) ∧ D = fun w x => (D1 w x).bind fun y => (D2 w 0).map fun z => cmO (cOp (c i1)) y z := by
  match x, h with
  | .ok (i1, lv1, cd1, D1), h =>
    unfold cmpL at h
    dsimp only at h
    by_cases hs : cOp (c i1) = 0
    · rw [if_pos hs] at h
      cases h
    · rw [if_neg hs] at h
      match hk : k (i1 + 1) lv1 (a + cd1.length), h with
      | .ok (i2, lv2, cd2, D2), h =>
        dsimp only at h
        cases h
        exact ⟨i1, lv1, cd1, D1, cd2, D2, rfl, hs, hk, rfl, rfl⟩
theorem prtL_inv {ord : Bool} {c v : Nat → Nat} {i lv i' lv' : Nat} {cd : List (Nat × Nat)} {D : DN} (h : prtL ord c v i lv = .ok (i', lv', cd, D)) :
    (c i = 50 ∧ v i ≤ 1000 ∧ i' = i + 1 ∧ lv' = lv + 1 ∧ cd = [(1, v i)] ∧ D = fun _ _ => some (v i : Int)) ∨
    (ord = true ∧ (c i = 16 ∨ c i = 22) ∧ c (i + 1) = 50 ∧ v (i + 1) ≤ 5 ∧ i' = i + 2 ∧ lv' = lv + 1 ∧ cd = [(2, (if c i = 22 then 5 else 11) + v (i + 1))] ∧ D = fun w _ => some (w ((if c i = 22 then 5 else 11) + v (i + 1))).toInt) ∨
    (ord = true ∧ 17 ≤ c i ∧ c i ≤ 21 ∧ i' = i + 1 ∧ lv' = lv + 1 ∧ cd = [(2, c i - 17)] ∧ D = fun w _ => some (w (c i - 17)).toInt) ∨
    (ord = false ∧ 9 ≤ c i ∧ c i ≤ 17 ∧ i' = i + 1 ∧ lv' = lv + 1 ∧ cd = [(2, lwI (c i))] ∧ D = fun w _ => some (w (lwI (c i))).toInt) := by
  unfold prtL at h
  by_cases h1 : (c i = 50 ∧ v i ≤ 1000) ∨ isW ord (c i) = true
  · rw [if_pos h1] at h
    by_cases h2 : lv = 50
    · rw [if_pos h2] at h; cases h
    · rw [if_neg h2] at h
      by_cases h3 : c i = 50
      · rw [if_pos h3] at h
        have hv : v i ≤ 1000 := by
          rcases h1 with h1 | h1
          · exact h1.2
          · rw [h3] at h1
            cases ord
            · exact absurd h1 (by decide)
            · exact absurd h1 (by decide)
        cases h
        exact Or.inl ⟨h3, hv, rfl, rfl, rfl, rfl⟩
      · rw [if_neg h3] at h
        have hw : isW ord (c i) = true := by
          rcases h1 with h1 | h1
          · exact absurd h1.1 h3
          · exact h1
        cases ord
        · rw [if_neg (show ¬ (false = true) by decide)] at h
          have hw : 9 ≤ c i ∧ c i ≤ 17 := of_decide_eq_true hw
          cases h
          exact Or.inr (Or.inr (Or.inr ⟨rfl, hw.1, hw.2, rfl, rfl, rfl, rfl⟩))
        · rw [if_pos rfl] at h
          have hw : 16 ≤ c i ∧ c i ≤ 22 := of_decide_eq_true hw
          by_cases h4 : c i = 16 ∨ c i = 22
          · rw [if_pos h4] at h
            by_cases h5 : c (i + 1) = 50 ∧ v (i + 1) ≤ 5
            · rw [if_pos h5] at h
              cases h
              exact Or.inr (Or.inl ⟨rfl, h4, h5.1, h5.2, rfl, rfl, rfl, rfl⟩)
            · rw [if_neg h5] at h; cases h
          · rw [if_neg h4] at h
            cases h
            exact Or.inr (Or.inr (Or.inl ⟨rfl, by omega, by omega, rfl, rfl, rfl, rfl⟩))
  · rw [if_neg h1] at h; cases h
theorem z64_toInt {y : Int} (h1 : -4000000000000000000 ≤ y) (h2 : y ≤ 4000000000000000000) : (Int64.ofInt y).toInt = y := Int64.toInt_ofInt_of_le (by omega) (by omega)
theorem z64_lt {x y : Int} (h1 : -4000000000000000000 ≤ x) (h2 : x ≤ 4000000000000000000) (h3 : -4000000000000000000 ≤ y) (h4 : y ≤ 4000000000000000000) : Int64.ofInt x < Int64.ofInt y ↔ x < y := by
  rw [Int64.lt_iff_toInt_lt, z64_toInt h1 h2, z64_toInt h3 h4]
theorem z64_eq {x y : Int} (h1 : -4000000000000000000 ≤ x) (h2 : x ≤ 4000000000000000000) (h3 : -4000000000000000000 ≤ y) (h4 : y ≤ 4000000000000000000) : Int64.ofInt x = Int64.ofInt y ↔ x = y := by
  rw [← Int64.toInt_inj, z64_toInt h1 h2, z64_toInt h3 h4]
theorem z64_div {x y : Int} (h1 : -1000000000 ≤ x) (h2 : x ≤ 1000000000) (h3 : -1000000000 ≤ y) (h4 : y ≤ 1000000000) : Int64.ofInt x / Int64.ofInt y = Int64.ofInt (x.tdiv y) := by
  have e1 : Int64.minValue.toInt = -9223372036854775808 := rfl
  have e2 : Int64.maxValue.toInt = 9223372036854775807 := rfl
  rw [Int64.ofInt_tdiv (by omega) (by omega) (by omega) (by omega)]
theorem z64_rem {x y : Int} (h1 : -1000000000 ≤ x) (h2 : x ≤ 1000000000) (h3 : -1000000000 ≤ y) (h4 : y ≤ 1000000000) : Int64.ofInt x - Int64.ofInt x / Int64.ofInt y * Int64.ofInt y = Int64.ofInt (x.tmod y) := by
  rw [z64_div h1 h2 h3 h4, ← Int64.ofInt_mul, ← Int64.ofInt_sub, Int.tmod_def, Int.mul_comm (x.tdiv y) y]
theorem tdiv_bnd {x y : Int} (h1 : -1000000000 ≤ x) (h2 : x ≤ 1000000000) : -4000000000000000000 ≤ x.tdiv y ∧ x.tdiv y ≤ 4000000000000000000 := by
  have h : (x.tdiv y).natAbs ≤ x.natAbs := by rw [Int.natAbs_tdiv]; exact Nat.div_le_self _ _
  omega
theorem tmod_bnd {x y : Int} (h1 : -1000000000 ≤ x) (h2 : x ≤ 1000000000) : -4000000000000000000 ≤ x.tmod y ∧ x.tmod y ≤ 4000000000000000000 := by
  have h : (x.tmod y).natAbs ≤ x.natAbs := by rw [Int.natAbs_tmod]; exact Nat.mod_le _ _
  omega
theorem mul_bnd {x y : Int} (h1 : -1000000000 ≤ x) (h2 : x ≤ 1000000000) (h3 : -1000000000 ≤ y) (h4 : y ≤ 1000000000) : -4000000000000000000 ≤ x * y ∧ x * y ≤ 4000000000000000000 := by
  have h : (x * y).natAbs ≤ 1000000000 * 1000000000 := by
    rw [Int.natAbs_mul]
    exact Nat.mul_le_mul (by omega) (by omega)
  omega
