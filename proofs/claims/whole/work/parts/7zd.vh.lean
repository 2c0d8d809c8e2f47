theorem VH.give {K : Nat → Int32} {np nt t p : Nat} (V : VH K np nt) (hp : p < np) (ht : t < nt) (hH : hOf K (nI t) np = -1) : VH (upK K p (nI t)) np nt := by
  obtain ⟨v1, v2, v3, v4⟩ := V
  have hn := hOf_m1 np (by omega) hH
  refine ⟨v1, v2, fun q hq => ?_, fun q r hq hr e1 e2 => ?_⟩
  · unfold upK
    by_cases z : q = p
    · rw [if_pos z]; exact Or.inr ⟨by omega, t, ht, rfl⟩
    · rw [if_neg z]; exact v3 q hq
  · unfold upK at e1 e2
    by_cases z : q = p
    · by_cases y : r = p
      · omega
      · rw [if_pos z, if_neg y] at e1; exact absurd e1.symm (hn r hr)
    · rw [if_neg z] at e1 e2
      by_cases y : r = p
      · rw [if_pos y] at e1; exact absurd e1 (hn q hq)
      · rw [if_neg y] at e1; exact v4 q r hq hr e1 e2
theorem VH.ungive {K : Nat → Int32} {np nt : Nat} (V : VH K np nt) (p : Nat) : VH (upK K p (-1)) np nt := by
  obtain ⟨v1, v2, v3, v4⟩ := V
  refine ⟨v1, v2, fun q hq => ?_, fun q r hq hr e1 e2 => ?_⟩
  · unfold upK
    by_cases z : q = p
    · rw [if_pos z]; exact Or.inl rfl
    · rw [if_neg z]; exact v3 q hq
  · unfold upK at e1 e2
    by_cases z : q = p
    · rw [if_pos z] at e2; exact absurd rfl e2
    · rw [if_neg z] at e1 e2
      by_cases y : r = p
      · rw [if_pos y] at e1; exact absurd e1 e2
      · rw [if_neg y] at e1; exact v4 q r hq hr e1 e2
theorem VH.cross {K : Nat → Int32} {np nt t u p q : Nat} (V : VH K np nt) (hp : p < np) (hq : q < np) (hpq : p ≠ q) (ht : t < nt) (hu : u < nt) (hK : K p = nI t) (hQ : K q = nI u) : VH (swK K p q) np nt := by
  obtain ⟨v1, v2, v3, v4⟩ := V
  have nt1 : nI t ≠ -1 := nI_m1 (by omega)
  have nu1 : nI u ≠ -1 := nI_m1 (by omega)
  have tu : t ≠ u := fun z => hpq (v4 p q hp hq (by rw [hK, hQ, z]) (by rw [hK]; exact nt1))
  have tu2 : nI t ≠ nI u := nI_ne (by omega) (by omega) tu
  have sp : swK K p q p = nI u := by unfold swK upK; rw [if_neg hpq, if_pos rfl]; exact hQ
  have sq : swK K p q q = nI t := by unfold swK upK; rw [if_pos rfl]; exact hK
  have so : ∀ r, r ≠ p → r ≠ q → swK K p q r = K r := fun r h1 h2 => by unfold swK upK; rw [if_neg h2, if_neg h1]
  have np1 : ∀ r, r < np → K r = nI t → r = p := fun r hr e => v4 r p hr hp (e.trans hK.symm) (by rw [e]; exact nt1)
  have nq1 : ∀ r, r < np → K r = nI u → r = q := fun r hr e => v4 r q hr hq (e.trans hQ.symm) (by rw [e]; exact nu1)
  refine ⟨v1, v2, fun r hr => ?_, fun r s hr hs e1 e2 => ?_⟩
  · by_cases z : r = p
    · rw [z, sp]; exact Or.inr ⟨hp, u, hu, rfl⟩
    · by_cases y : r = q
      · rw [y, sq]; exact Or.inr ⟨hq, t, ht, rfl⟩
      · rw [so r z y]; exact v3 r hr
  · by_cases z : r = p
    · by_cases y : s = p
      · omega
      · by_cases x : s = q
        · rw [z, sp, x, sq] at e1; exact absurd e1.symm tu2
        · rw [z, sp, so s y x] at e1; exact absurd (nq1 s hs e1.symm) x
    · by_cases z2 : r = q
      · by_cases y : s = p
        · rw [z2, sq, y, sp] at e1; exact absurd e1 tu2
        · by_cases x : s = q
          · omega
          · rw [z2, sq, so s y x] at e1; exact absurd (np1 s hs e1.symm) y
      · rw [so r z z2] at e1 e2
        by_cases y : s = p
        · rw [y, sp] at e1; exact absurd (nq1 r hr e1) z2
        · by_cases x : s = q
          · rw [x, sq] at e1; exact absurd (np1 r hr e1) z
          · rw [so s y x] at e1; exact v4 r s hr hs e1 e2
theorem VH.dr {K : Nat → Int32} {fl : Option (List CLE)} {np nt : Nat} (V : VH K np nt) (t p : Int32) : VH (acK K (drR K fl np nt t p).2) np nt := by
  have v1 := V.1
  have v2 := V.2.1
  unfold drR
  by_cases e : (inN t nt && inN p np) = true
  · rw [if_pos e]
    rw [Bool.and_eq_true] at e
    obtain ⟨u, hu, rfl⟩ := (inN_iff (by omega)).mp e.1
    obtain ⟨w, hw, rfl⟩ := (inN_iff (by omega)).mp e.2
    rw [ix_nI (by omega), ix_nI (by omega)]
    by_cases c : canD K fl np u w = true
    · rw [if_pos c]
      unfold canD at c
      rw [Bool.and_eq_true, Bool.and_eq_true, decide_eq_true_eq, decide_eq_true_eq] at c
      exact V.give hw hu c.1.2
    · rw [if_neg c]; exact V
  · rw [if_neg e]; exact V
theorem VH.sw {K : Nat → Int32} {fl : Option (List CLE)} {np nt : Nat} (V : VH K np nt) (p q : Int32) : VH (acK K (swR K fl np p q).2) np nt := by
  have v1 := V.1
  have v2 := V.2.1
  unfold swR
  by_cases e : (inN p np && inN q np) = true
  · rw [if_pos e]
    rw [Bool.and_eq_true] at e
    obtain ⟨u, hu, rfl⟩ := (inN_iff (by omega)).mp e.1
    obtain ⟨w, hw, rfl⟩ := (inN_iff (by omega)).mp e.2
    rw [ix_nI (by omega), ix_nI (by omega)]
    by_cases c : canS K fl u w = true
    · rw [if_pos c]
      unfold canS at c
      rw [Bool.and_eq_true, Bool.and_eq_true, Bool.and_eq_true, Bool.and_eq_true, decide_eq_true_eq, decide_eq_true_eq, decide_eq_true_eq] at c
      obtain ⟨x, hx, ex⟩ := ((V.2.2.1 u (by omega)).resolve_left c.1.1.1.2).2
      obtain ⟨y, hy, ey⟩ := ((V.2.2.1 w (by omega)).resolve_left c.1.1.2).2
      exact V.cross hu hw c.1.1.1.1 hx hy ex ey
    · rw [if_neg c]; exact V
  · rw [if_neg e]; exact V
theorem VH.dp {K : Nat → Int32} {np nt : Nat} (V : VH K np nt) (p : Int32) : VH (acK K (dpR K np p).2) np nt := by
  unfold dpR
  by_cases e : inN p np = true
  · rw [if_pos e]
    by_cases c : K (ix p) = -1
    · rw [if_pos c]; exact V
    · rw [if_neg c]; exact V.ungive _
  · rw [if_neg e]; exact V
theorem VH.bl {K : Nat → Int32} {fl : Option (List CLE)} {np nt : Nat} (V : VH K np nt) (p t w : Nat) : VH (acK K (blR K fl np nt p t w).2) np nt := by
  unfold blR
  by_cases c0 : w = 0
  · rw [if_pos c0]; exact V.dr _ _
  · rw [if_neg c0]
    by_cases c1 : w = 1
    · rw [if_pos c1]; exact V.sw _ _
    · rw [if_neg c1]; exact V.dp _
theorem VH.up6 {K : Nat → Int32} {np nt : Nat} (V : VH K np nt) (x : Int32) : VH (upK K 6 x) np nt := by
  have e : ∀ p, p < 6 → upK K 6 x p = K p := fun p hp => by unfold upK; rw [if_neg (by omega)]
  obtain ⟨v1, v2, v3, v4⟩ := V
  exact ⟨v1, v2, fun p hp => by rw [e p hp]; exact v3 p hp, fun p q hp hq e1 e2 => by rw [e p (by omega)] at e1 e2; rw [e q (by omega)] at e1; exact v4 p q hp hq e1 e2⟩
