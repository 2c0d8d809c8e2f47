/-- a part of a clause stands in the code -/
def PtOK (ord : Bool) (c v : Nat → Nat) (A : List (Nat × Nat)) (md : Nat) (pt : PT) : Prop := ∀ pos D, pt = some (pos, D) → ∃ f i lv i' lv' cd, Prs ord c v f md 0 i lv pos = .ok (i', lv', cd, D) ∧ ∀ n q, (cd ++ [((0 : Nat), (0 : Nat))])[n]? = some q → A[pos + n]? = some q
def ClOK (ord : Bool) (c v : Nat → Nat) (A : List (Nat × Nat)) (q : CLQ) : Prop := PtOK ord c v A 7 q.2.2.1 ∧ PtOK ord c v A 7 q.2.2.2.1 ∧ PtOK ord c v A 0 q.2.2.2.2
section Pts
variable {ord : Bool} {c v : Nat → Nat} {A : List (Nat × Nat)}
theorem Pt_none {md : Nat} : PtOK ord c v A md none := fun _ _ e => nomatch e
theorem A_app {cd1 cd2 : List (Nat × Nat)} {a : Nat} (h : ∀ n q, (cd1 ++ cd2)[n]? = some q → A[a + n]? = some q) : (∀ n q, cd1[n]? = some q → A[a + n]? = some q) ∧ (∀ n q, cd2[n]? = some q → A[a + cd1.length + n]? = some q) := by
  refine ⟨fun n q hq => h n q ?_, fun n q hq => ?_⟩
  · rw [List.getElem?_append_left (List.getElem?_eq_some_iff.mp hq).1]; exact hq
  · have := h (cd1.length + n) q (by rw [List.getElem?_append_right (by omega), show cd1.length + n - cd1.length = n by omega]; exact hq)
    rw [← Nat.add_assoc] at this; exact this
theorem clT_pts {f i lv a : Nat} {cd : List (Nat × Nat)} {vb tm : Nat} {p q : PT} {i' lv' : Nat} {cd' : List (Nat × Nat)} {Q : CLQ} (h : clT ord c v f i lv a cd vb tm p q = .ok (i', lv', cd', Q)) : ∃ cd2, cd' = cd ++ cd2 ∧ Q.1 = vb ∧ Q.2.2.1 = p ∧ Q.2.2.2.1 = q ∧ ((∀ n q, cd2[n]? = some q → A[a + cd.length + n]? = some q) → PtOK ord c v A 0 Q.2.2.2.2) := by
  unfold clT at h
  split at h
  · generalize hx : Prs ord c v f 0 0 (i + 1) lv (a + cd.length) = x at h
    match x, hx, h with
    | .error e, hx, h => cases h
    | .ok (i1, lv1, cd1, D), hx, h =>
      cases h
      refine ⟨cd1 ++ [(0, 0)], rfl, rfl, rfl, rfl, fun hA pos D e => ?_⟩
      cases e
      exact ⟨f, i + 1, lv, _, _, cd1, hx, hA⟩
  · cases h
    exact ⟨[], (List.append_nil _).symm, rfl, rfl, rfl, fun _ => Pt_none⟩
theorem clM_pts {f i lv a : Nat} {cd : List (Nat × Nat)} {vb : Nat} {p q : PT} {i' lv' : Nat} {cd' : List (Nat × Nat)} {Q : CLQ} (h : clM ord c v f i lv a cd vb p q = .ok (i', lv', cd', Q)) : ∃ cd2, cd' = cd ++ cd2 ∧ Q.1 = vb ∧ Q.2.2.1 = p ∧ Q.2.2.2.1 = q ∧ ((∀ n q, cd2[n]? = some q → A[a + cd.length + n]? = some q) → PtOK ord c v A 0 Q.2.2.2.2) := by
  unfold clM at h
  split at h
  · split at h
    · exact clT_pts h
    · cases h
  · exact clT_pts h
theorem cl2_pts {f i lv a : Nat} {cd : List (Nat × Nat)} {vb : Nat} {p : PT} {i' lv' : Nat} {cd' : List (Nat × Nat)} {Q : CLQ} (h : cl2 ord c v f i lv a cd vb p = .ok (i', lv', cd', Q)) : ∃ cd2, cd' = cd ++ cd2 ∧ Q.1 = vb ∧ Q.2.2.1 = p ∧ ((∀ n q, cd2[n]? = some q → A[a + cd.length + n]? = some q) → PtOK ord c v A 7 Q.2.2.2.1 ∧ PtOK ord c v A 0 Q.2.2.2.2) := by
  unfold cl2 at h
  generalize hx : Prs ord c v f 7 0 i lv (a + cd.length) = x at h
  match x, hx, h with
  | .error e, hx, h => cases h
  | .ok (i1, lv1, cd1, D), hx, h =>
    obtain ⟨cd2, e1, e2, e3, e4, e5⟩ := clM_pts (A := A) h
    refine ⟨(cd1 ++ [(0, 0)]) ++ cd2, by rw [e1, List.append_assoc], e2, e3, fun hA => ?_⟩
    obtain ⟨h1, h2⟩ := A_app hA
    rw [e4]
    refine ⟨fun pos D e => ?_, e5 (fun n q hq => ?_)⟩
    · cases e
      exact ⟨f, i, lv, _, _, cd1, hx, h1⟩
    · rw [List.length_append, ← Nat.add_assoc]; exact h2 n q hq
theorem cl1_pts {f i lv a vb : Nat} {i' lv' : Nat} {cd' : List (Nat × Nat)} {Q : CLQ} (h : cl1 ord c v f i lv a vb = .ok (i', lv', cd', Q)) : Q.1 = vb ∧ (∃ x, Q.2.2.1 = some x) ∧ ((∀ n q, cd'[n]? = some q → A[a + n]? = some q) → ClOK ord c v A Q) := by
  unfold cl1 at h
  generalize hx : Prs ord c v f 7 0 i lv a = x at h
  match x, hx, h with
  | .error e, hx, h => cases h
  | .ok (i1, lv1, cd1, D), hx, h =>
    have p7 : (∀ n q, (cd1 ++ [((0 : Nat), (0 : Nat))])[n]? = some q → A[a + n]? = some q) → PtOK ord c v A 7 (some (a, D)) := fun hA pos D e => by
      cases e
      exact ⟨f, i, lv, _, _, cd1, hx, hA⟩
    dsimp only at h
    split at h
    · by_cases hq : c i1 = (if vb = 0 then 24 else 26)
      · rw [if_pos hq] at h
        obtain ⟨cd2, e1, e2, e3, e4⟩ := cl2_pts (A := A) h
        refine ⟨e2, ⟨_, e3⟩, fun hA => ?_⟩
        rw [e1] at hA
        obtain ⟨h1, h2⟩ := A_app hA
        exact ⟨by rw [e3]; exact p7 h1, e4 h2⟩
      · rw [if_neg hq] at h; cases h
    · obtain ⟨cd2, e1, e2, e3, e4, e5⟩ := clM_pts (A := A) h
      refine ⟨e2, ⟨_, e3⟩, fun hA => ?_⟩
      rw [e1] at hA
      obtain ⟨h1, h2⟩ := A_app hA
      exact ⟨by rw [e3]; exact p7 h1, by rw [e4]; exact Pt_none, e5 h2⟩
theorem clR_pts {f i lv a : Nat} {i' lv' : Nat} {cd' : List (Nat × Nat)} {Q : CLQ} (h : clR ord c v f i lv a = .ok (i', lv', cd', Q)) : vbO ord (c i) = some Q.1 ∧ ((if ord = true then Q.1 = 3 else 1 < Q.1) ↔ Q.2.2.1 = none) ∧ ((∀ n q, cd'[n]? = some q → A[a + n]? = some q) → ClOK ord c v A Q) := by
  unfold clR at h
  generalize hv : vbO ord (c i) = x at h
  match x, hv, h with
  | none, hv, h => cases h
  | some vb, hv, h =>
    dsimp only at h
    by_cases hq : (if ord = true then vb = 3 else 1 < vb)
    · rw [if_pos hq] at h
      obtain ⟨cd2, e1, e2, e3, e4, e5⟩ := clM_pts (A := A) h
      refine ⟨by rw [e2], by rw [e2, e3]; exact ⟨fun _ => rfl, fun _ => hq⟩, fun hA => ?_⟩
      rw [e1] at hA
      obtain ⟨h1, h2⟩ := A_app hA
      exact ⟨by rw [e3]; exact Pt_none, by rw [e4]; exact Pt_none, e5 h2⟩
    · rw [if_neg hq] at h
      obtain ⟨e1, ⟨y, e2⟩, e3⟩ := cl1_pts (A := A) h
      refine ⟨by rw [e1], by rw [e1, e2]; exact ⟨fun z => absurd z hq, fun z => nomatch z⟩, e3⟩
/-- what is known of each clause of a text -/
def CeOK (ord : Bool) (c v : Nat → Nat) (A : List (Nat × Nat)) (e : CLE) : Prop := e.2.2.2.2.1 < 4 ∧ ((if ord = true then e.2.2.2.2.1 = 3 else 1 < e.2.2.2.2.1) ↔ e.2.2.2.2.2.2.1 = none) ∧ ClOK ord c v A e.2.2.2.2
theorem rdL_pts {T f : Nat} : ∀ (k i lv a : Nat) (L : List CLE), rdL ord c v T f k i lv a = .ok L → (∀ n q, (cdA L)[n]? = some q → A[a + n]? = some q) → ∀ e ∈ L, CeOK ord c v A e := by
  intro k
  induction k with
  | zero => intro i lv a L h; cases h
  | succ k ih =>
    intro i lv a L h hA e he
    rw [rdL] at h
    generalize hx : clR ord c v f i lv a = x at h
    match x, hx, h with
    | .error e2, hx, h => cases h
    | .ok (i1, lv1, cd1, Q), hx, h =>
      obtain ⟨g1, g2, g3⟩ := clR_pts (A := A) hx
      have g1 := (vbO_lt2 g1).1
      dsimp only at h
      split at h
      · generalize hy : rdL ord c v T f k (i1 + 1) lv1 (a + cd1.length) = y at h
        match y, hy, h with
        | .error e2, hy, h => cases h
        | .ok L', hy, h =>
          cases h
          have hA : ∀ n q, (cd1 ++ cdA L')[n]? = some q → A[a + n]? = some q := hA
          obtain ⟨h1, h2⟩ := A_app hA
          rcases List.mem_cons.mp he with rfl | he
          · exact ⟨g1, g2, g3 h1⟩
          · exact ih _ _ _ L' hy h2 e he
      · split at h
        · cases h
        · cases h
          have hA : ∀ n q, (cd1 ++ [])[n]? = some q → A[a + n]? = some q := hA
          rw [List.append_nil] at hA
          rcases List.mem_cons.mp he with rfl | he
          · exact ⟨g1, g2, g3 hA⟩
          · cases he
end Pts
