theorem rdL_bnd {ord : Bool} {c v : Nat → Nat} {T f : Nat} (hc : c T = 0) : ∀ (k i lv a : Nat) (L : List CLE), i ≤ T → lv ≤ 50 → rdL ord c v T f k i lv a = .ok L → L.length ≤ k ∧ (cdA L).length ≤ (T - i) + 2 * k ∧ ∀ e ∈ L, e.2.2.2.2.2.1 ≤ 20 := by
  intro k
  induction k with
  | zero => intro i lv a L hi hl h; cases h
  | succ k ih =>
    intro i lv a L hi hl h
    rw [rdL] at h
    have oc := okC_R (ord := ord) (c := c) (v := v) (f := f) (a := a) hc hi hl
    generalize clR ord c v f i lv a = x at h oc
    match x, h, oc with
    | .error e2, h, oc => cases h
    | .ok (i1, lv1, cd1, vb, tm, Q), h, oc =>
      obtain ⟨o1, o2, o3, o4, o5, o6, o7⟩ := oc
      dsimp only at h
      by_cases h159 : c i1 = 159
      · rw [if_pos h159] at h
        have hi2 := lt_of_code hc o2 (by rw [h159]; decide)
        generalize hy : rdL ord c v T f k (i1 + 1) lv1 (a + cd1.length) = y at h
        match y, hy, h with
        | .error e2, hy, h => cases h
        | .ok L', hy, h =>
          cases h
          obtain ⟨q1, q2, q3⟩ := ih (i1 + 1) lv1 _ L' (by omega) o3 hy
          refine ⟨by rw [List.length_cons]; omega, ?_, fun e he => ?_⟩
          · show (cd1 ++ cdA L').length ≤ _
            rw [List.length_append]; omega
          · rcases List.mem_cons.mp he with rfl | he
            · exact o7
            · exact q3 e he
      · rw [if_neg h159] at h
        by_cases hT : i1 < T
        · rw [if_pos hT] at h; cases h
        · rw [if_neg hT] at h
          cases h
          refine ⟨by rw [List.length_cons]; show 0 + 1 ≤ _; omega, ?_, fun e he => ?_⟩
          · show (cd1 ++ []).length ≤ _
            rw [List.append_nil]; omega
          · rcases List.mem_cons.mp he with rfl | he
            · exact o7
            · cases he
/-- the text that was read -/
theorem txg_read {h : AH} {ord : Bool} {tb : Nat → Int32} {L : Nat} {LS : List CLE} (S : ShOK h) (R : RfOK h) (hL : L ≤ 400) (e : RDg ord tb L = .ok LS) (T : TXT h 37 38 39 ord LS) : TXG h 37 38 39 60 436 ord LS ∧ ∀ e ∈ LS, e.2.2.2.2.2.1 ≤ 20 := by
  have hlen : (TLo tb L).length ≤ L - 0 := toks_len tb L L 0
  obtain ⟨q1, q2, q3⟩ := rdL_bnd (cT_end tb (TLo tb L)) 12 0 0 0 LS (Nat.zero_le _) (Nat.zero_le _) e
  exact ⟨⟨S _ _ rfl, R _ _ _ rfl, R _ _ _ rfl, S _ _ rfl, S _ _ rfl, by omega, by decide, by omega, by decide, T, ⟨Or.inr (Or.inl rfl), Or.inr (Or.inr (Or.inl rfl)), Or.inr (Or.inr (Or.inr rfl))⟩, _, _, rdL_pts (A := cdA LS) 12 0 0 0 LS e (fun n q hq => by rw [Nat.zero_add]; exact hq)⟩, q3⟩
/-- a hall behind acts -/
theorem HA.act {X : Nat → Nat → Bool} {h g : AH} {b : Nat} {K K' : Nat → Int32} {np nt nd nl : Nat} (H : HA h b K np nt nd nl) (F : Fr X h g) (J : HJ g b K') (M : HM g b K' np nt) (e : ∀ j, 7 ≤ j → K' j = K j) (h0 : ∀ j, X b j = false) (h4 : ∀ j, X (b + 4) j = false) (h8 : ∀ j, X (b + 8) j = false) (h10 : ∀ j, X (b + 10) j = false) (h11 : ∀ j, X (b + 11) j = false) (h12 : X (b + 12) 1 = false) : HA g b K' np nt nd nl := by
  obtain ⟨A, a0, a5, a9, a12, a16, a18, c1, c2, c3, c4, c5, c6, c7, c8, c9, c10, c11, d0, d1, d2⟩ := H
  obtain ⟨-, A', j1, j2, j5, j6, j9, j12, j122⟩ := J
  exact ⟨A', M.2.2.1, M.2.2.2.1, (F.I _ _ (h0 _)).trans a9, ((F.I _ _ (h0 _)).trans a12).trans (e _ (by decide)).symm, (F.I _ _ (h0 _)).trans a16, ((F.I _ _ (h0 _)).trans a18).trans (e _ (by decide)).symm, j1, j2, M.2.2.2.2.1, fun i hi => ((F.I _ _ (h4 _)).trans (c4 i hi)).trans (e _ (by omega)).symm, j5, j6, M.2.2.2.2.2, fun i hi => ((F.I _ _ (h8 _)).trans (c8 i hi)).trans (e _ (by omega)).symm, j9, fun i hi => ((F.I _ _ (h10 _)).trans (c10 i hi)).trans (e _ (by omega)).symm, fun i hi => ((F.I _ _ (h11 _)).trans (c11 i hi)).trans (e _ (by omega)).symm, j12, ((F.I _ _ h12).trans d1).trans (e _ (by decide)).symm, j122⟩
theorem orT_k {fl : Option (List CLE)} {np nt : Nat} {q : CLQ} : ∀ (n N : Nat) (s s' : OS), OSK np nt N s → orT fl np nt q n s = some s' → OSK np nt (N + n) s' ∧ ∀ j, 7 ≤ j → s'.1 j = s.1 j
  | 0, N, s, s', H, e => by cases e; exact ⟨H, fun j hj => rfl⟩
  | n + 1, N, s, s', H, e => by
    rw [orT] at e
    match hq : orS fl np nt q s, e with
    | none, e => cases e
    | some s1, e =>
      obtain ⟨H1, k1⟩ := orS_k H hq
      obtain ⟨H2, k2⟩ := orT_k n (N + 1) s1 s' H1 e
      exact ⟨by rw [show N + (n + 1) = N + 1 + n by omega]; exact H2, fun j hj => (k2 j hj).trans (k1 j hj)⟩
theorem OSK.up {np nt N N' : Nat} {s : OS} (H : OSK np nt N s) (h : N ≤ N') : OSK np nt N' s := ⟨H.1, H.2.1, H.2.2.1, Nat.le_trans H.2.2.2.1 h, H.2.2.2.2⟩
theorem orL_k {fl : Option (List CLE)} {np nt : Nat} : ∀ (L : List CLE) (n N : Nat) (s s' : OS), (∀ e ∈ L, e.2.2.2.2.2.1 ≤ 20) → OSK np nt N s → orL fl np nt L n s = .ok s' → OSK np nt (N + 20 * L.length) s' ∧ ∀ j, 7 ≤ j → s'.1 j = s.1 j
  | [], n, N, s, s', _, H, e => by cases e; exact ⟨H, fun j hj => rfl⟩
  | c :: L, n, N, s, s', ht, H, e => by
    rw [orL] at e
    match hq : orT fl np nt c.2.2.2.2 c.2.2.2.2.2.1 s, e with
    | none, e => cases e
    | some s1, e =>
      obtain ⟨H1, k1⟩ := orT_k _ N s s1 H hq
      have := ht c (List.mem_cons_self ..)
      obtain ⟨H2, k2⟩ := orL_k L (n + 1) (N + 20) s1 s' (fun x hx => ht x (List.mem_cons_of_mem _ hx)) (H1.up (by omega)) e
      exact ⟨H2.up (by rw [List.length_cons]; omega), fun j hj => (k2 j hj).trans (k1 j hj)⟩
/-- the clause at which orders stop is one of them -/
theorem orL_lt {fl : Option (List CLE)} {np nt : Nat} : ∀ (L : List CLE) (n : Nat) (s : OS) (m : Nat), orL fl np nt L n s = .error m → m < n + L.length
  | [], n, s, m, e => by cases e
  | c :: L, n, s, m, e => by
    rw [orL] at e
    match hq : orT fl np nt c.2.2.2.2 c.2.2.2.2.2.1 s, e with
    | none, e => cases e; rw [List.length_cons]; omega
    | some s1, e => have := orL_lt L (n + 1) s1 m e; rw [List.length_cons]; omega
