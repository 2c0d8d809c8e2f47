/-- an act's answer is no refusal just where it did something -/
def AcS (q : Int32 × AC) : Prop := q.2.isSome = !decide (q.1 < 0)
theorem AcS_no {n : Nat} (hn : 0 < n) (h2 : n < 100) : AcS (-nI n, none) := by
  have e : (-nI n : Int32).toInt = -(n : Int) := by
    rw [Int32.toInt_neg, nI_toInt (by omega)]
    show Int.bmod (-(n : Int)) (2 ^ 32) = _
    rw [Int.bmod_eq_of_le (by omega) (by omega)]
  unfold AcS
  rw [decide_eq_true (show -nI n < 0 by rw [i32_lt, e]; show -(n : Int) < 0; omega)]
  rfl
theorem AcS_yes {n : Nat} (hn : n < 1000) (a : Nat × Nat × Nat) : AcS (nI n, some a) := by
  unfold AcS
  rw [decide_eq_false (show ¬ nI n < 0 by rw [i32_lt, nI_toInt (by omega)]; exact Int.not_lt.mpr (Int.natCast_nonneg _))]
  rfl
theorem AcS.dr {K : Nat → Int32} {fl : Option (List CLE)} {np nt : Nat} (V : VH K np nt) (B : KB K) (t p : Int32) : AcS (drR K fl np nt t p) := by
  have v1 := V.1
  have v2 := V.2.1
  unfold drR
  by_cases e : (inN t nt && inN p np) = true
  · rw [if_pos e]
    rw [Bool.and_eq_true] at e
    obtain ⟨u, hu, rfl⟩ := (inN_iff (by omega)).mp e.1
    rw [ix_nI (by omega)]
    by_cases c : canD K fl np u (ix p) = true
    · rw [if_pos c]
      obtain ⟨x, hx, ex⟩ := B.2.2.1 u (by omega)
      rw [ex]
      exact AcS_yes (by omega) _
    · rw [if_neg c]; exact AcS_no (by decide) (by decide)
  · rw [if_neg e]; exact AcS_no (by decide) (by decide)
theorem AcS.sw {K : Nat → Int32} {fl : Option (List CLE)} {np nt : Nat} (V : VH K np nt) (p q : Int32) : AcS (swR K fl np p q) := by
  have v1 := V.1
  have v2 := V.2.1
  unfold swR
  by_cases e : (inN p np && inN q np) = true
  · rw [if_pos e]
    rw [Bool.and_eq_true] at e
    obtain ⟨u, hu, rfl⟩ := (inN_iff (by omega)).mp e.1
    obtain ⟨w, hw, rfl⟩ := (inN_iff (by omega)).mp e.2
    rw [ix_nI (by omega), ix_nI (by omega)]
    by_cases c : canS K fl u w = true
    · rw [if_pos c]
      unfold canS at c
      rw [Bool.and_eq_true, Bool.and_eq_true, Bool.and_eq_true, Bool.and_eq_true, decide_eq_true_eq, decide_eq_true_eq, decide_eq_true_eq] at c
      obtain ⟨y, hy, ey⟩ := ((V.2.2.1 w (by omega)).resolve_left c.1.1.2).2
      rw [ey]
      exact AcS_yes (by omega) _
    · rw [if_neg c]; exact AcS_no (by decide) (by decide)
  · rw [if_neg e]; exact AcS_no (by decide) (by decide)
theorem AcS.dp {K : Nat → Int32} {np nt : Nat} (V : VH K np nt) (p : Int32) : AcS (dpR K np p) := by
  have v1 := V.1
  have v2 := V.2.1
  unfold dpR
  by_cases e : inN p np = true
  · rw [if_pos e]
    obtain ⟨w, hw, rfl⟩ := (inN_iff (by omega)).mp e
    rw [ix_nI (by omega)]
    by_cases c : K w = -1
    · rw [if_pos c]; exact AcS_no (by decide) (by decide)
    · rw [if_neg c]
      obtain ⟨y, hy, ey⟩ := ((V.2.2.1 w (by omega)).resolve_left c).2
      rw [ey]
      exact AcS_yes (by omega) _
  · rw [if_neg e]; exact AcS_no (by decide) (by decide)
theorem AcS.bl {K : Nat → Int32} {fl : Option (List CLE)} {np nt : Nat} (V : VH K np nt) (B : KB K) (p t w : Nat) : AcS (blR K fl np nt p t w) := by
  unfold blR
  by_cases c0 : w = 0
  · rw [if_pos c0]; exact AcS.dr V B _ _
  · rw [if_neg c0]
    by_cases c1 : w = 1
    · rw [if_pos c1]; exact AcS.sw V _ _
    · rw [if_neg c1]; exact AcS.dp V _
/-- acts of people leave all but what they hold -/
theorem upK_hi {K : Nat → Int32} {p j : Nat} {x : Int32} (hp : p < 6) (hj : 6 ≤ j) : upK K p x j = K j := by unfold upK; rw [if_neg (by omega)]
theorem swK_hi {K : Nat → Int32} {p q j : Nat} (hp : p < 6) (hq : q < 6) (hj : 6 ≤ j) : swK K p q j = K j := by unfold swK; rw [upK_hi hq hj, upK_hi hp hj]
theorem bl_hi {K : Nat → Int32} {fl : Option (List CLE)} {np nt : Nat} (V : VH K np nt) (p t w : Nat) {j : Nat} (hj : 6 ≤ j) : acK K (blR K fl np nt p t w).2 j = K j := by
  have v1 := V.1
  have v2 := V.2.1
  unfold blR
  by_cases c0 : w = 0
  · rw [if_pos c0]
    unfold drR
    by_cases e : (inN (nI t) nt && inN (nI p) np) = true
    · rw [if_pos e]
      rw [Bool.and_eq_true] at e
      obtain ⟨y, hy, ey⟩ := (inN_iff (by omega)).mp e.2
      rw [ey, show ix (nI y) = y from ix_nI (by omega)]
      by_cases c : canD K fl np (ix (nI t)) y = true
      · rw [if_pos c]; exact upK_hi (by omega) hj
      · rw [if_neg c]; rfl
    · rw [if_neg e]; rfl
  · rw [if_neg c0]
    by_cases c1 : w = 1
    · rw [if_pos c1]
      unfold swR
      by_cases e : (inN (nI p) np && inN (hOf K (nI t) np) np) = true
      · rw [if_pos e]
        rw [Bool.and_eq_true] at e
        obtain ⟨y, hy, ey⟩ := (inN_iff (by omega)).mp e.1
        obtain ⟨z, hz, ez⟩ := (inN_iff (by omega)).mp e.2
        rw [ey, ez, ix_nI (by omega), ix_nI (by omega)]
        by_cases c : canS K fl y z = true
        · rw [if_pos c]; exact swK_hi (by omega) (by omega) hj
        · rw [if_neg c]; rfl
      · rw [if_neg e]; rfl
    · rw [if_neg c1]
      unfold dpR
      by_cases e : inN (nI p) np = true
      · rw [if_pos e]
        obtain ⟨y, hy, ey⟩ := (inN_iff (by omega)).mp e
        rw [ey, ix_nI (by omega)]
        by_cases c : K y = -1
        · rw [if_pos c]; rfl
        · rw [if_neg c]; exact upK_hi (by omega) hj
      · rw [if_neg e]; rfl
theorem KB.hi {K K' : Nat → Int32} (B : KB K) (e : ∀ j, 7 ≤ j → K' j = K j) {m : Nat} (hm : m < 1000) (e6 : K' 6 = nI m) : KB K' := by
  obtain ⟨b1, b2, b3, b4, b5, b6, b7⟩ := B
  exact ⟨fun p hp => by rw [e _ (by omega)]; exact b1 p hp, fun p hp => by rw [e _ (by omega)]; exact b2 p hp, fun p hp => by rw [e _ (by omega)]; exact b3 p hp, fun p hp => by rw [e _ (by omega)]; exact b4 p hp, fun p hp => by rw [e _ (by omega)]; exact b5 p hp, ⟨m, hm, e6⟩, by rw [e _ (by omega)]; exact b7⟩
/-- the days: what people hold, the lot, how many acts were done -/
def dyS (fl : Option (List CLE)) (np nt : Nat) : Nat → (Nat → Int32) × Nat × Nat → (Nat → Int32) × Nat × Nat
  | 0, s => s
  | n + 1, (K, x, c) => if nI 999 ≤ K 6 then (K, x, c) else dyS fl np nt n (upK (acK K (blR K fl np nt (lc x % np) (lc (lc x) % nt) (lc (lc (lc x)) % 3)).2) 6 (K 6 + nI 1), lc (lc (lc x)), c + if (blR K fl np nt (lc x % np) (lc (lc x) % nt) (lc (lc (lc x)) % 3)).2.isSome = true then 1 else 0)
