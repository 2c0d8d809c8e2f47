section Ob
variable {K : Nat → Int32} {fl : Option (List CLE)} {np nt : Nat}
/-- each act: what it is, with all that is known -/
theorem dr_is (V : VH K np nt) (t p : Int32) : (∃ n, 0 < n ∧ n < 100 ∧ drR K fl np nt t p = (-nI n, none)) ∨ ∃ u q, u < nt ∧ q < np ∧ K q = -1 ∧ hOf K (nI u) np = -1 ∧ drR K fl np nt t p = (K (67 + u), some (0, u, q)) := by
  have v1 := V.1
  have v2 := V.2.1
  unfold drR
  by_cases e : (inN t nt && inN p np) = true
  · rw [if_pos e]
    rw [Bool.and_eq_true] at e
    obtain ⟨u, hu, rfl⟩ := (inN_iff (by omega)).mp e.1
    obtain ⟨q, hq, rfl⟩ := (inN_iff (by omega)).mp e.2
    rw [ix_nI (by omega), ix_nI (by omega)]
    by_cases c : canD K fl np u q = true
    · rw [if_pos c]
      unfold canD at c
      rw [Bool.and_eq_true, Bool.and_eq_true, decide_eq_true_eq, decide_eq_true_eq] at c
      exact Or.inr ⟨u, q, hu, hq, c.1.1, c.1.2, rfl⟩
    · rw [if_neg c]; exact Or.inl ⟨3, by decide, by decide, rfl⟩
  · rw [if_neg e]; exact Or.inl ⟨2, by decide, by decide, rfl⟩
theorem sw_is (V : VH K np nt) (p q : Int32) : (∃ n, 0 < n ∧ n < 100 ∧ swR K fl np p q = (-nI n, none)) ∨ ∃ u w x, u < np ∧ w < np ∧ u ≠ w ∧ K u ≠ -1 ∧ x < nt ∧ K w = nI x ∧ swR K fl np p q = (nI x, some (1, u, w)) := by
  have v1 := V.1
  have v2 := V.2.1
  unfold swR
  by_cases e : (inN p np && inN q np) = true
  · rw [if_pos e]
    rw [Bool.and_eq_true] at e
    obtain ⟨u, hu, rfl⟩ := (inN_iff (by omega)).mp e.1
    obtain ⟨w, hw, rfl⟩ := (inN_iff (by omega)).mp e.2
    rw [ix_nI (by omega), ix_nI (by omega)]
    by_cases c : canS K fl u w = true
    · rw [if_pos c]
      unfold canS at c
      rw [Bool.and_eq_true, Bool.and_eq_true, Bool.and_eq_true, Bool.and_eq_true, decide_eq_true_eq, decide_eq_true_eq, decide_eq_true_eq] at c
      obtain ⟨y, hy, ey⟩ := ((V.2.2.1 w (by omega)).resolve_left c.1.1.2).2
      exact Or.inr ⟨u, w, y, hu, hw, c.1.1.1.1, c.1.1.1.2, hy, ey, by rw [ey]⟩
    · rw [if_neg c]; exact Or.inl ⟨3, by decide, by decide, rfl⟩
  · rw [if_neg e]; exact Or.inl ⟨2, by decide, by decide, rfl⟩
theorem dp_is (V : VH K np nt) (p : Int32) : (∃ n, 0 < n ∧ n < 100 ∧ dpR K np p = (-nI n, none)) ∨ ∃ q x, q < np ∧ x < nt ∧ K q = nI x ∧ dpR K np p = (nI x, some (2, x, q)) := by
  have v1 := V.1
  have v2 := V.2.1
  unfold dpR
  by_cases e : inN p np = true
  · rw [if_pos e]
    obtain ⟨w, hw, rfl⟩ := (inN_iff (by omega)).mp e
    rw [ix_nI (by omega)]
    by_cases c : K w = -1
    · rw [if_pos c]; exact Or.inl ⟨3, by decide, by decide, rfl⟩
    · rw [if_neg c]
      obtain ⟨y, hy, ey⟩ := ((V.2.2.1 w (by omega)).resolve_left c).2
      exact Or.inr ⟨w, y, hw, hy, ey, by rw [ey, ix_nI (by omega)]⟩
  · rw [if_neg e]; exact Or.inl ⟨2, by decide, by decide, rfl⟩
theorem tk_is (B : KB K) : (∃ n, 0 < n ∧ n < 100 ∧ tkR K = (-nI n, none)) ∨ ∃ m, m < 999 ∧ K 6 = nI m ∧ tkR K = (nI (m + 1), some (3, 0, 0)) := by
  obtain ⟨m, hm, e6⟩ := B.2.2.2.2.2.1
  unfold tkR
  by_cases c : m = 999
  · rw [if_pos (by rw [e6, c])]; exact Or.inl ⟨3, by decide, by decide, rfl⟩
  · rw [if_neg (by rw [e6]; exact nI_ne (by omega) (by decide) c)]
    exact Or.inr ⟨m, by omega, e6, by rw [e6, nI_p1]⟩
/-- an order that is done -/
theorem ob_is (V : VH K np nt) (B : KB K) (vb : Nat) (x y : Int32) : (∃ n, 0 < n ∧ n < 100 ∧ obR K fl np nt vb x y = (-nI n, none)) ∨ ∃ n o f s, n ≤ 999 ∧ UOK np nt K o f s ∧ (vb = 0 → n < 100) ∧ VH (acK K (some (o, f, s))) np nt ∧ KB (acK K (some (o, f, s))) ∧ (∀ j, 7 ≤ j → acK K (some (o, f, s)) j = K j) ∧ obR K fl np nt vb x y = (nI n, some (o, f, s)) := by
  have v1 := V.1
  have v2 := V.2.1
  obtain ⟨m0, hm0, e6⟩ := B.2.2.2.2.2.1
  have kb : ∀ K' : Nat → Int32, (∀ j, 6 ≤ j → K' j = K j) → KB K' ∧ (∀ j, 7 ≤ j → K' j = K j) := fun K' e => ⟨B.hi (fun j hj => e j (by omega)) hm0 ((e 6 (Nat.le_refl _)).trans e6), fun j hj => e j (by omega)⟩
  unfold obR
  by_cases c0 : vb = 0
  · rw [if_pos c0]
    rcases dr_is (fl := fl) V x y with ⟨n, h1, h2, e⟩ | ⟨u, q, hu, hq, k1, k2, e⟩
    · exact Or.inl ⟨n, h1, h2, e⟩
    · obtain ⟨z, hz, ez⟩ := B.2.2.1 u (by omega)
      have VV := V.dr (fl := fl) x y
      rw [e] at VV
      have kk := kb (acK K (some (0, u, q))) (fun j hj => upK_hi (by omega) hj)
      exact Or.inr ⟨z, 0, u, q, by omega, Or.inl ⟨rfl, hu, hq, k1⟩, fun _ => hz, VV, kk.1, kk.2, by rw [e, ez]⟩
  · rw [if_neg c0]
    by_cases c1 : vb = 1
    · rw [if_pos c1]
      rcases sw_is (fl := fl) V x y with ⟨n, h1, h2, e⟩ | ⟨u, w, z, hu, hw, k1, k2, k3, k4, e⟩
      · exact Or.inl ⟨n, h1, h2, e⟩
      · have VV := V.sw (fl := fl) x y
        rw [e] at VV
        have kk := kb (acK K (some (1, u, w))) (fun j hj => swK_hi (by omega) (by omega) hj)
        exact Or.inr ⟨z, 1, u, w, by omega, Or.inr (Or.inl ⟨rfl, hu, hw, k1, k2, by rw [k4]; exact nI_m1 (by omega)⟩), fun z => absurd z c0, VV, kk.1, kk.2, e⟩
    · rw [if_neg c1]
      by_cases c2 : vb = 2
      · rw [if_pos c2]
        rcases dp_is V x with ⟨n, h1, h2, e⟩ | ⟨q, z, hq, hz, k1, e⟩
        · exact Or.inl ⟨n, h1, h2, e⟩
        · have VV := V.dp x
          rw [e] at VV
          have kk := kb (acK K (some (2, z, q))) (fun j hj => upK_hi (by omega) hj)
          refine Or.inr ⟨z, 2, z, q, by omega, Or.inr (Or.inr (Or.inl ⟨rfl, hz, hq, k1, fun r hr hn e2 => hn ?_⟩)), fun z => absurd z c0, VV, kk.1, kk.2, e⟩
          exact V.2.2.2 r q hr hq (e2.trans k1.symm) (by rw [e2]; exact nI_m1 (by omega))
      · rw [if_neg c2]
        rcases tk_is B with ⟨n, h1, h2, e⟩ | ⟨m, hm, k1, e⟩
        · exact Or.inl ⟨n, h1, h2, e⟩
        · have eK : ∀ j, 7 ≤ j → acK K (some (3, 0, 0)) j = K j := fun j hj => by
            show upK K 6 _ j = K j
            unfold upK; rw [if_neg (by omega)]
          exact Or.inr ⟨m + 1, 3, 0, 0, by omega, Or.inr (Or.inr (Or.inr ⟨rfl, rfl, rfl, m, hm, k1⟩)), fun z => absurd z c0, V.up6 _, B.hi eK (m := m + 1) (by omega) (by
            show upK K 6 (K 6 + nI 1) 6 = _
            unfold upK; rw [if_pos rfl, k1, nI_p1]), eK, e⟩
theorem ob_AcS (V : VH K np nt) (B : KB K) (vb : Nat) (x y : Int32) : AcS (obR K fl np nt vb x y) := by
  rcases ob_is (fl := fl) V B vb x y with ⟨n, h1, h2, e⟩ | ⟨n, o, f, s, h1, -, -, -, -, -, e⟩
  · rw [e]; exact AcS_no h1 h2
  · rw [e]
    unfold AcS
    rw [decide_eq_false (show ¬ nI n < 0 by rw [i32_lt, nI_toInt (by omega)]; exact Int.not_lt.mpr (Int.natCast_nonneg _))]
    rfl
theorem orA_k {s s' : OS} {N vb : Nat} (H : OSK np nt N s) {x y : Int32} (e : orA s vb (obR s.1 fl np nt vb x y) = some s') : OSK np nt (N + 1) s' ∧ ∀ j, 7 ≤ j → s'.1 j = s.1 j := by
  obtain ⟨V, B, U, hN, hl⟩ := H
  unfold orA at e
  rcases ob_is (fl := fl) V B vb x y with ⟨n, h1, h2, eq⟩ | ⟨n, o, f, w, h1, h2, h3, h4, h5, h6, eq⟩
  · rw [eq] at e; cases e
  · rw [eq] at e
    have e := (if_pos (show ((nI n, some (o, f, w)).snd : AC).isSome = true from rfl)).symm.trans e
    cases e
    refine ⟨⟨h4, h5, UR_act V.1 U h2, by show s.2.2.2.1 + 1 ≤ _; omega, ?_⟩, h6⟩
    show (if vb = 0 then nI n else s.2.2.2.2) = -1 ∨ _
    by_cases c : vb = 0
    · right
      exact ⟨n, h3 c, by rw [if_pos c]⟩
    · rw [if_neg c]; exact hl
theorem orS_k {s s' : OS} {N : Nat} {q : CLQ} (H : OSK np nt N s) (e : orS fl np nt q s = some s') : OSK np nt (N + 1) s' ∧ ∀ j, 7 ≤ j → s'.1 j = s.1 j := by
  unfold orS at e
  by_cases c : clH q (orW fl np nt s) = true
  · rw [if_pos c] at e
    generalize ptV q.2.2.1 (orW fl np nt s) = a at e
    generalize ptV q.2.2.2.1 (orW fl np nt s) = b at e
    match a, b, e with
    | some x, some y, e => exact orA_k H e
    | some x, none, e => cases e
    | none, _, e => cases e
  · rw [if_neg c] at e
    cases e
    exact ⟨⟨H.1, H.2.1, H.2.2.1, by have := H.2.2.2.1; omega, H.2.2.2.2⟩, fun j hj => rfl⟩
theorem wO_b {dn fit : Nat} {lt : Int32} (V : VH K np nt) (B : KB K) (hd : dn ≤ 1000) (hf : fit ≤ 1000) (hl : lt = -1 ∨ ∃ x, x < 100 ∧ lt = nI x) (j : Nat) : -1000000000 ≤ (wO K np nt dn lt fit j).toInt ∧ (wO K np nt dn lt fit j).toInt ≤ 1000000000 := by
  have v1 := V.1
  have v2 := V.2.1
  have bn : ∀ n, n ≤ 1000 → -1000000000 ≤ (nI n).toInt ∧ (nI n).toInt ≤ 1000000000 := fun n hn => by rw [nI_toInt (by omega)]; omega
  have b1 : -1000000000 ≤ (-1 : Int32).toInt ∧ (-1 : Int32).toInt ≤ 1000000000 := by decide
  match j with
  | 0 =>
    obtain ⟨m, hm, e⟩ := B.2.2.2.2.2.1
    show -1000000000 ≤ (K 6).toInt ∧ (K 6).toInt ≤ 1000000000
    rw [e]; exact bn m (by omega)
  | 1 => exact bn dn hd
  | 2 =>
    show -1000000000 ≤ lt.toInt ∧ lt.toInt ≤ 1000000000
    rcases hl with e | ⟨x, hx, e⟩
    · rw [e]; exact b1
    · rw [e]; exact bn x (by omega)
  | 3 => exact bn fit hf
  | 4 => exact bn _ (by omega)
  | j + 5 =>
    show -1000000000 ≤ (if j < 6 then (if j < np then K j else -1) else if j < 12 then (if j - 6 < np then K (13 + (j - 6)) else -1) else 0 : Int32).toInt ∧ (if j < 6 then (if j < np then K j else -1) else if j < 12 then (if j - 6 < np then K (13 + (j - 6)) else -1) else 0 : Int32).toInt ≤ 1000000000
    by_cases c1 : j < 6
    · rw [if_pos c1]
      by_cases c2 : j < np
      · rw [if_pos c2]
        rcases V.2.2.1 j c1 with e | ⟨-, t, ht, e⟩
        · rw [e]; exact b1
        · rw [e]; exact bn t (by omega)
      · rw [if_neg c2]; exact b1
    · rw [if_neg c1]
      by_cases c2 : j < 12
      · rw [if_pos c2]
        by_cases c3 : j - 6 < np
        · rw [if_pos c3]
          obtain ⟨x, hx, e⟩ := B.2.1 (j - 6) (by omega)
          rw [e]; exact bn x (by omega)
        · rw [if_neg c3]; exact b1
      · rw [if_neg c2]; decide
end Ob
