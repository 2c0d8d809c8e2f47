theorem ev_sx (h : AH) (g b x : Int32) {j : Nat} (h1 : j ≠ 22) (h2 : j ≠ 24) : sI (evH h g b) aM j x = evH (sI h aM j x) g b := by
  refine ah_ext rfl (fun k i => ?_) rfl
  by_cases hk : k = aM
  · subst hk
    rw [gI_at]
    by_cases e1 : i = 22
    · subst e1; rw [if_neg (fun z => h1 z.symm), ev_g, ev_g]
    · by_cases e2 : i = 24
      · subst e2; rw [if_neg (fun z => h2 z.symm), ev_b, ev_b]
      · rw [ev_q _ _ _ e1 e2, ev_q _ _ _ e1 e2, gI_at]
  · rw [gI_ne _ _ _ _ hk, ev_o _ _ _ _ hk, ev_o _ _ _ _ hk, gI_ne _ _ _ _ hk]
theorem ev_s52 (h : AH) (g b x : Int32) : sI (evH h g b) aM 52 x = evH (sI h aM 52 x) g b := ev_sx h g b x (by decide) (by decide)
theorem ev_s53 (h : AH) (g b x : Int32) : sI (evH h g b) aM 53 x = evH (sI h aM 53 x) g b := ev_sx h g b x (by decide) (by decide)
theorem ev_s54 (h : AH) (g b x : Int32) : sI (evH h g b) aM 54 x = evH (sI h aM 54 x) g b := ev_sx h g b x (by decide) (by decide)
theorem ev_s55 (h : AH) (g b x : Int32) : sI (evH h g b) aM 55 x = evH (sI h aM 55 x) g b := ev_sx h g b x (by decide) (by decide)
theorem ev_sL (h : AH) (g b : Int32) (k j : Nat) (x : Int64) : sL (evH h g b) k j x = evH (sL h k j x) g b := rfl
theorem ev_53 (h : AH) (g b : Int32) : gI (evH h g b) aM 53 = gI h aM 53 := ev_q h g b (by decide) (by decide)
theorem ev_54 (h : AH) (g b : Int32) : gI (evH h g b) aM 54 = gI h aM 54 := ev_q h g b (by decide) (by decide)
theorem ev_55 (h : AH) (g b : Int32) : gI (evH h g b) aM 55 = gI h aM 55 := ev_q h g b (by decide) (by decide)
theorem ev_mk (h : AH) (g : Int32) : sI h aM 22 g = evH h g (gI h aM 24) := by
  refine ah_ext rfl (fun k i => ?_) rfl
  by_cases hk : k = aM
  · subst hk
    rw [gI_at]
    by_cases e1 : i = 22
    · subst e1; rw [if_pos rfl, ev_g]
    · rw [if_neg e1]
      by_cases e2 : i = 24
      · subst e2; rw [ev_b]
      · rw [ev_q _ _ _ e1 e2]
  · rw [gI_ne _ _ _ _ hk, ev_o _ _ _ _ hk]
/-- what reading an order's clause is made of -/
theorem clR_invT {c v : Nat → Nat} {f i lv a i' lv' : Nat} {cd : List (Nat × Nat)} {vb tm : Nat} {p q ts : PT} (h : clR true c v f i lv a = .ok (i', lv', cd, vb, tm, p, q, ts)) : vbO true (c i) = some vb ∧ ∃ i1 lv1, ((vb < 2 ∧ ∃ j1 l1 cd1 D1 a2 cd2 D2, Prs true c v f 7 0 (i + 1) lv a = .ok (j1, l1, cd1, D1) ∧ Prs true c v f 7 0 (j1 + 1) l1 a2 = .ok (i1, lv1, cd2, D2) ∧ c j1 = (if vb = 0 then 24 else 26) ∧ p = some (a, D1) ∧ q = some (a2, D2)) ∨ (vb = 2 ∧ ∃ cd1 D1, Prs true c v f 7 0 (i + 1) lv a = .ok (i1, lv1, cd1, D1) ∧ p = some (a, D1) ∧ q = none) ∨ (vb = 3 ∧ i1 = i + 1 ∧ lv1 = lv ∧ p = none ∧ q = none)) ∧ ∃ i2, ((c i1 = 29 ∧ c (i1 + 1) = 50 ∧ 1 ≤ v (i1 + 1) ∧ v (i1 + 1) ≤ 20 ∧ i2 = i1 + 2 ∧ tm = v (i1 + 1)) ∨ (c i1 ≠ 29 ∧ i2 = i1 ∧ tm = 1)) ∧ ((c i2 = 5 ∧ ∃ a3 cd3 D3, Prs true c v f 0 0 (i2 + 1) lv1 a3 = .ok (i', lv', cd3, D3) ∧ ts = some (a3, D3)) ∨ (c i2 ≠ 5 ∧ i' = i2 ∧ lv' = lv1 ∧ ts = none)) := by
  have hT : ∀ {i2 lv1 : Nat} {cd1 : List (Nat × Nat)} {vb1 tm1 : Nat} {p1 q1 : PT}, clT true c v f i2 lv1 a cd1 vb1 tm1 p1 q1 = .ok (i', lv', cd, vb, tm, p, q, ts) → vb1 = vb ∧ tm1 = tm ∧ p1 = p ∧ q1 = q ∧ ((c i2 = 5 ∧ ∃ a3 cd3 D3, Prs true c v f 0 0 (i2 + 1) lv1 a3 = .ok (i', lv', cd3, D3) ∧ ts = some (a3, D3)) ∨ (c i2 ≠ 5 ∧ i' = i2 ∧ lv' = lv1 ∧ ts = none)) := by
    intro i2 lv1 cd1 vb1 tm1 p1 q1 h
    unfold clT at h
    by_cases h5 : c i2 = 5
    · rw [if_pos h5] at h
      match hq : Prs true c v f 0 0 (i2 + 1) lv1 (a + cd1.length), h with
      | .ok (i3, lv3, cd3, D3), h =>
        cases h
        exact ⟨rfl, rfl, rfl, rfl, Or.inl ⟨h5, a + cd1.length, cd3, D3, hq, rfl⟩⟩
    · rw [if_neg h5] at h
      cases h
      exact ⟨rfl, rfl, rfl, rfl, Or.inr ⟨h5, rfl, rfl, rfl⟩⟩
  have hM : ∀ {i1 lv1 : Nat} {cd1 : List (Nat × Nat)} {vb1 : Nat} {p1 q1 : PT}, clM true c v f i1 lv1 a cd1 vb1 p1 q1 = .ok (i', lv', cd, vb, tm, p, q, ts) → vb1 = vb ∧ p1 = p ∧ q1 = q ∧ ∃ i2, ((c i1 = 29 ∧ c (i1 + 1) = 50 ∧ 1 ≤ v (i1 + 1) ∧ v (i1 + 1) ≤ 20 ∧ i2 = i1 + 2 ∧ tm = v (i1 + 1)) ∨ (c i1 ≠ 29 ∧ i2 = i1 ∧ tm = 1)) ∧ ((c i2 = 5 ∧ ∃ a3 cd3 D3, Prs true c v f 0 0 (i2 + 1) lv1 a3 = .ok (i', lv', cd3, D3) ∧ ts = some (a3, D3)) ∨ (c i2 ≠ 5 ∧ i' = i2 ∧ lv' = lv1 ∧ ts = none)) := by
    intro i1 lv1 cd1 vb1 p1 q1 h
    unfold clM at h
    by_cases h9 : c i1 = 29
    · rw [if_pos ⟨rfl, h9⟩] at h
      by_cases hv : c (i1 + 1) = 50 ∧ 1 ≤ v (i1 + 1) ∧ v (i1 + 1) ≤ 20
      · rw [if_pos hv] at h
        obtain ⟨e1, e2, e3, e4, e5⟩ := hT h
        exact ⟨e1, e3, e4, i1 + 2, Or.inl ⟨h9, hv.1, hv.2.1, hv.2.2, rfl, e2.symm⟩, e5⟩
      · rw [if_neg hv] at h; cases h
    · rw [if_neg (fun z => h9 z.2)] at h
      obtain ⟨e1, e2, e3, e4, e5⟩ := hT h
      exact ⟨e1, e3, e4, i1, Or.inr ⟨h9, rfl, e2.symm⟩, e5⟩
  unfold clR at h
  generalize hv : vbO true (c i) = x at h
  match x, hv, h with
  | none, hv, h => cases h
  | some vb1, hv, h =>
    have hv4 := (vbO_lt2 hv).1
    dsimp only at h
    by_cases h3 : vb1 = 3
    · rw [if_pos (by rw [if_pos rfl]; exact h3)] at h
      obtain ⟨rfl, rfl, rfl, i2, e2⟩ := hM h
      exact ⟨rfl, i + 1, lv, Or.inr (Or.inr ⟨h3, rfl, rfl, rfl, rfl⟩), i2, e2⟩
    · rw [if_neg (by rw [if_pos rfl]; exact h3)] at h
      unfold cl1 at h
      match hq : Prs true c v f 7 0 (i + 1) lv a, h with
      | .error e, h => cases h
      | .ok (j1, l1, cd1, D1), h =>
        dsimp only at h
        by_cases h2 : vb1 < 2
        · rw [if_pos ⟨rfl, h2⟩] at h
          by_cases hj : c j1 = (if vb1 = 0 then 24 else 26)
          · rw [if_pos hj] at h
            unfold cl2 at h
            match hr : Prs true c v f 7 0 (j1 + 1) l1 (a + (cd1 ++ [((0 : Nat), (0 : Nat))]).length), h with
            | .error e, h => cases h
            | .ok (i1, lv1, cd2, D2), h =>
              dsimp only at h
              obtain ⟨rfl, rfl, rfl, i2, e2⟩ := hM h
              exact ⟨rfl, i1, lv1, Or.inl ⟨h2, j1, l1, cd1, D1, _, cd2, D2, rfl, hr, hj, rfl, rfl⟩, i2, e2⟩
          · rw [if_neg hj] at h; cases h
        · rw [if_neg (fun z => h2 z.2)] at h
          obtain ⟨rfl, rfl, rfl, i2, e2⟩ := hM h
          exact ⟨rfl, j1, l1, Or.inr (Or.inl ⟨by omega, cd1, D1, rfl, rfl, rfl⟩), i2, e2⟩
