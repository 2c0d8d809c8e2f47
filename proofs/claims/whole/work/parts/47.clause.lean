/-- a part of a clause: where its code begins, what it means -/
abbrev PT : Type := Option (Nat × DN)
abbrev CLQ : Type := Nat × Nat × PT × PT × PT
abbrev CLR : Type := Nat × Nat × List (Nat × Nat) × CLQ
def vbO (ord : Bool) (k : Nat) : Option Nat := if ord = true then (if k = 23 then some 0 else if k = 25 then some 1 else if k = 27 then some 2 else if k = 28 then some 3 else none) else (if k = 1 then some 0 else if k = 2 then some 1 else if k = 3 then some 2 else if k = 4 then some 3 else none)
def clT (ord : Bool) (c v : Nat → Nat) (f i lv a : Nat) (cd : List (Nat × Nat)) (vb tm : Nat) (p q : PT) : Except Nat CLR :=
  if c i = 5 then (match Prs ord c v f 0 0 (i + 1) lv (a + cd.length) with
    | .error e => .error e
    | .ok (i', lv', cd', D) => .ok (i', lv', cd ++ (cd' ++ [(0, 0)]), vb, tm, p, q, some (a + cd.length, D)))
  else .ok (i, lv, cd, vb, tm, p, q, none)
def clM (ord : Bool) (c v : Nat → Nat) (f i lv a : Nat) (cd : List (Nat × Nat)) (vb : Nat) (p q : PT) : Except Nat CLR :=
  if ord = true ∧ c i = 29 then (if c (i + 1) = 50 ∧ 1 ≤ v (i + 1) ∧ v (i + 1) ≤ 20 then clT ord c v f (i + 2) lv a cd vb (v (i + 1)) p q else .error (i + 1))
  else clT ord c v f i lv a cd vb 1 p q
def cl2 (ord : Bool) (c v : Nat → Nat) (f i lv a : Nat) (cd : List (Nat × Nat)) (vb : Nat) (p : PT) : Except Nat CLR := match Prs ord c v f 7 0 i lv (a + cd.length) with
  | .error e => .error e
  | .ok (i', lv', cd', D) => clM ord c v f i' lv' a (cd ++ (cd' ++ [(0, 0)])) vb p (some (a + cd.length, D))
def cl1 (ord : Bool) (c v : Nat → Nat) (f i lv a vb : Nat) : Except Nat CLR := match Prs ord c v f 7 0 i lv a with
  | .error e => .error e
  | .ok (i', lv', cd', D) =>
    if ord = true ∧ vb < 2 then (if c i' = (if vb = 0 then 24 else 26) then cl2 ord c v f (i' + 1) lv' a (cd' ++ [(0, 0)]) vb (some (a, D)) else .error i')
    else clM ord c v f i' lv' a (cd' ++ [(0, 0)]) vb (some (a, D)) none
def clR (ord : Bool) (c v : Nat → Nat) (f i lv a : Nat) : Except Nat CLR := match vbO ord (c i) with
  | none => .error i
  | some vb => if (if ord = true then vb = 3 else 1 < vb) then clM ord c v f (i + 1) lv a [] vb none none else cl1 ord c v f (i + 1) lv a vb
/-- the clauses: each with its first token, its code's place, its last token, its code -/
abbrev CLE : Type := Nat × Nat × Nat × List (Nat × Nat) × CLQ
def rdL (ord : Bool) (c v : Nat → Nat) (T f : Nat) : Nat → Nat → Nat → Nat → Except Nat (List CLE)
  | 0, i, _, _ => .error i
  | k + 1, i, lv, a => match clR ord c v f i lv a with
    | .error e => .error e
    | .ok (i', lv', cd, q) => if c i' = 159 then (match rdL ord c v T f k (i' + 1) lv' (a + cd.length) with
        | .error e => .error e
        | .ok L => .ok ((i, a, i', cd, q) :: L))
      else if i' < T then .error i' else .ok [(i, a, i', cd, q)]
def okC (T i lv : Nat) (m : Nat) (q : Except Nat CLR) : Prop := match q with
  | .error e => e ≤ T
  | .ok (i', lv', cd, vb, tm, _) => i ≤ i' ∧ i' ≤ T ∧ lv' ≤ 50 ∧ cd.length ≤ i' - i + m ∧ vb < 4 ∧ 1 ≤ tm ∧ tm ≤ 20
theorem okC_up {T i j lv m n : Nat} {q : Except Nat CLR} (hij : j ≤ i) (hm : m ≤ n + (i - j)) (h : okC T i lv m q) : okC T j lv n q := by
  match q, h with
  | .error e, h => exact h
  | .ok (i', lv', cd, vb, tm, p), h =>
    obtain ⟨a1, a2, a3, a4, a5, a6, a7⟩ := h
    exact ⟨by omega, a2, a3, by omega, a5, a6, a7⟩
section Ck
variable {ord : Bool} {c v : Nat → Nat} {T f : Nat}
theorem okC_T (hc : c T = 0) {i lv a : Nat} {cd : List (Nat × Nat)} {vb tm m : Nat} {p q : PT} (hi : i ≤ T) (hl : lv ≤ 50) (hm : cd.length ≤ m) (hv : vb < 4) (ht : 1 ≤ tm ∧ tm ≤ 20) : okC T i lv (m + 1) (clT ord c v f i lv a cd vb tm p q) := by
  unfold clT
  by_cases h5 : c i = 5
  · rw [if_pos h5]
    have hi1 := lt_of_code hc hi (by rw [h5]; decide)
    have o := Prs_ok (ord := ord) (v := v) hc f 0 0 (i + 1) lv (a + cd.length) (by decide) hi1 hl
    match Prs ord c v f 0 0 (i + 1) lv (a + cd.length), o with
    | .error e, o => exact o
    | .ok (i', lv', cd', D), o =>
      obtain ⟨a1, a2, a3, a4, a5, a6⟩ := o
      have e0 : slM 0 = 0 := rfl
      have e : (cd ++ (cd' ++ [((0 : Nat), (0 : Nat))])).length = cd.length + (cd'.length + 1) := by rw [List.length_append, List.length_append]; rfl
      refine ⟨by omega, by omega, a4, ?_, hv, ht.1, ht.2⟩
      rw [e]; omega
  · rw [if_neg h5]
    exact ⟨Nat.le_refl _, hi, hl, by omega, hv, ht.1, ht.2⟩
theorem okC_M (hc : c T = 0) {i lv a : Nat} {cd : List (Nat × Nat)} {vb m : Nat} {p q : PT} (hi : i ≤ T) (hl : lv ≤ 50) (hm : cd.length ≤ m) (hv : vb < 4) : okC T i lv (m + 1) (clM ord c v f i lv a cd vb p q) := by
  unfold clM
  by_cases h1 : ord = true ∧ c i = 29
  · rw [if_pos h1]
    have hi1 := lt_of_code hc hi (by rw [h1.2]; decide)
    by_cases h2 : c (i + 1) = 50 ∧ 1 ≤ v (i + 1) ∧ v (i + 1) ≤ 20
    · rw [if_pos h2]
      have hi2 := lt_of_code hc hi1 (by show c (i + 1) ≠ 0; rw [h2.1]; decide)
      exact okC_up (by omega) (by omega) (okC_T hc hi2 hl hm hv h2.2)
    · rw [if_neg h2]; exact hi1
  · rw [if_neg h1]
    exact okC_T hc hi hl hm hv (by decide)
theorem okC_2 (hc : c T = 0) {i lv a : Nat} {cd : List (Nat × Nat)} {vb m : Nat} {p : PT} (hi : i ≤ T) (hl : lv ≤ 50) (hm : cd.length ≤ m) (hv : vb < 4) : okC T i lv (m + 2) (cl2 ord c v f i lv a cd vb p) := by
  unfold cl2
  have o := Prs_ok (ord := ord) (v := v) hc f 7 0 i lv (a + cd.length) (by decide) hi hl
  match Prs ord c v f 7 0 i lv (a + cd.length), o with
  | .error e, o => exact o
  | .ok (i', lv', cd', D), o =>
    obtain ⟨a1, a2, a3, a4, a5, a6⟩ := o
    have e0 : slM 7 = 0 := rfl
    have e : (cd ++ (cd' ++ [((0 : Nat), (0 : Nat))])).length = cd.length + (cd'.length + 1) := by rw [List.length_append, List.length_append]; rfl
    exact okC_up a1 (by omega) (okC_M hc a2 a4 (m := m + 1 + (i' - i)) (by rw [e]; omega) hv)
theorem okC_1 (hc : c T = 0) {i lv a vb : Nat} (hi : i ≤ T) (hl : lv ≤ 50) (hv : vb < 4) : okC T i lv 3 (cl1 ord c v f i lv a vb) := by
  unfold cl1
  have o := Prs_ok (ord := ord) (v := v) hc f 7 0 i lv a (by decide) hi hl
  match Prs ord c v f 7 0 i lv a, o with
  | .error e, o => exact o
  | .ok (i', lv', cd', D), o =>
    obtain ⟨a1, a2, a3, a4, a5, a6⟩ := o
    have e0 : slM 7 = 0 := rfl
    have e : (cd' ++ [((0 : Nat), (0 : Nat))]).length = cd'.length + 1 := by rw [List.length_append]; rfl
    dsimp only
    by_cases h1 : ord = true ∧ vb < 2
    · rw [if_pos h1]
      by_cases h2 : c i' = (if vb = 0 then 24 else 26)
      · rw [if_pos h2]
        have hi1 := lt_of_code hc a2 (by rw [h2]; split <;> decide)
        exact okC_up (by omega) (by omega) (okC_2 hc hi1 a4 (m := 1 + (i' - i)) (by rw [e]; omega) hv)
      · rw [if_neg h2]; exact a2
    · rw [if_neg h1]
      exact okC_up a1 (by omega) (okC_M hc a2 a4 (m := 1 + (i' - i)) (by rw [e]; omega) hv)
theorem vbO_lt {k vb : Nat} (h : vbO ord k = some vb) : vb < 4 ∧ k ≠ 0 := by
  cases ord
  · have h : (if k = 1 then some 0 else if k = 2 then some 1 else if k = 3 then some 2 else if k = 4 then some 3 else none) = some vb := h
    by_cases h1 : k = 1
    · rw [if_pos h1] at h; cases h; exact ⟨by decide, by omega⟩
    · rw [if_neg h1] at h
      by_cases h2 : k = 2
      · rw [if_pos h2] at h; cases h; exact ⟨by decide, by omega⟩
      · rw [if_neg h2] at h
        by_cases h3 : k = 3
        · rw [if_pos h3] at h; cases h; exact ⟨by decide, by omega⟩
        · rw [if_neg h3] at h
          by_cases h4 : k = 4
          · rw [if_pos h4] at h; cases h; exact ⟨by decide, by omega⟩
          · rw [if_neg h4] at h; cases h
  · have h : (if k = 23 then some 0 else if k = 25 then some 1 else if k = 27 then some 2 else if k = 28 then some 3 else none) = some vb := h
    by_cases h1 : k = 23
    · rw [if_pos h1] at h; cases h; exact ⟨by decide, by omega⟩
    · rw [if_neg h1] at h
      by_cases h2 : k = 25
      · rw [if_pos h2] at h; cases h; exact ⟨by decide, by omega⟩
      · rw [if_neg h2] at h
        by_cases h3 : k = 27
        · rw [if_pos h3] at h; cases h; exact ⟨by decide, by omega⟩
        · rw [if_neg h3] at h
          by_cases h4 : k = 28
          · rw [if_pos h4] at h; cases h; exact ⟨by decide, by omega⟩
          · rw [if_neg h4] at h; cases h
theorem okC_R (hc : c T = 0) {i lv a : Nat} (hi : i ≤ T) (hl : lv ≤ 50) : okC T i lv 2 (clR ord c v f i lv a) := by
  unfold clR
  match hv : vbO ord (c i) with
  | none => exact hi
  | some vb =>
    have hv2 := vbO_lt hv
    have hi1 := lt_of_code hc hi hv2.2
    dsimp only
    by_cases h1 : (if ord = true then vb = 3 else 1 < vb)
    · rw [if_pos h1]
      exact okC_up (by omega) (by omega) (okC_M hc hi1 hl (m := 0) (by decide) hv2.1)
    · rw [if_neg h1]
      exact okC_up (by omega) (by omega) (okC_1 hc hi1 hl hv2.1)
end Ck
