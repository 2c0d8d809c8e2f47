/-- an act that was done, seen from what was ahead of it -/
def UOK (np nt : Nat) (r : Nat → Int32) (o f s : Nat) : Prop := (o = 0 ∧ f < nt ∧ s < np ∧ r s = -1) ∨ (o = 1 ∧ f < np ∧ s < np ∧ f ≠ s ∧ r f ≠ -1 ∧ r s ≠ -1) ∨ (o = 2 ∧ f < nt ∧ s < np ∧ r s = nI f ∧ ∀ q, q < np → q ≠ s → r q ≠ nI f) ∨ (o = 3 ∧ f = 0 ∧ s = 0 ∧ ∃ m, m < 999 ∧ r 6 = nI m)
/-- the class's log and the reference's rows tell the same, the latest first -/
def URr (np nt : Nat) (K : Nat → Int32) : List Int32 → List (Nat → Int32) → Prop
  | [], [] => True
  | x :: E, r :: US => (∃ o f s, UOK np nt r o f s ∧ x = lgE o f s ∧ r 7 = nI o ∧ ∀ j, j < 7 → K j = acK r (some (o, f, s)) j) ∧ URr np nt r E US
  | [], _ :: _ => False
  | _ :: _, [] => False
def UR (np nt : Nat) (K : Nat → Int32) (E : List Int32) (US : List (Nat → Int32)) : Prop := URr np nt K E.reverse US.reverse
theorem URr_congr {np nt : Nat} {K K' : Nat → Int32} (e : ∀ j, j < 7 → K j = K' j) : ∀ E US, URr np nt K E US → URr np nt K' E US
  | [], [], _ => trivial
  | x :: E, r :: US, h => by
    obtain ⟨⟨o, f, s, h1, h2, h3, h4⟩, h5⟩ := h
    exact ⟨⟨o, f, s, h1, h2, h3, fun j hj => (e j hj).symm.trans (h4 j hj)⟩, h5⟩
  | [], _ :: _, h => h.elim
  | _ :: _, [], h => h.elim
theorem URr_len {np nt : Nat} : ∀ (K : Nat → Int32) (E : List Int32) (US : List (Nat → Int32)), URr np nt K E US → E.length = US.length
  | _, [], [], _ => rfl
  | _, _ :: E, r :: US, h => by rw [List.length_cons, List.length_cons, URr_len r E US h.2]
  | _, [], _ :: _, h => h.elim
  | _, _ :: _, [], h => h.elim
theorem URr_init {np nt : Nat} : ∀ (K : Nat → Int32) (E : List Int32) (US : List (Nat → Int32)), URr np nt K E US → URr np nt K E.dropLast US.dropLast
  | _, [], [], _ => trivial
  | _, [x], [r], _ => trivial
  | K, x :: y :: E, r :: u :: US, h => ⟨h.1, URr_init r (y :: E) (u :: US) h.2⟩
  | _, [x], r :: u :: US, h => (h.2 : False).elim
  | _, x :: y :: E, [r], h => (h.2 : False).elim
  | _, [], _ :: _, h => h.elim
  | _, _ :: _, [], h => h.elim
theorem acK_congr {K K' : Nat → Int32} (e : ∀ j, j < 7 → K j = K' j) {o f s : Nat} (hf : o = 1 → f < 7) (hs : o = 1 → s < 7) : ∀ j, j < 7 → acK K (some (o, f, s)) j = acK K' (some (o, f, s)) j := by
  intro j hj
  match o, hf, hs with
  | 0, _, _ => show upK K s (nI f) j = upK K' s (nI f) j; unfold upK; rw [e j hj]
  | 1, hf, hs => show swK K f s j = swK K' f s j; unfold swK upK; rw [e j hj, e f (hf rfl), e s (hs rfl)]
  | 2, _, _ => show upK K s (-1) j = upK K' s (-1) j; unfold upK; rw [e j hj]
  | o + 3, _, _ => show upK K 6 (K 6 + nI 1) j = upK K' 6 (K' 6 + nI 1) j; unfold upK; rw [e j hj, e 6 (by decide)]
theorem UOK_congr {np nt : Nat} (hnp : np ≤ 6) {K K' : Nat → Int32} (e : ∀ j, j < 7 → K j = K' j) {o f s : Nat} (h : UOK np nt K o f s) : UOK np nt K' o f s := by
  rcases h with ⟨h0, h1, h2, h3⟩ | ⟨h0, h1, h2, h3, h4, h5⟩ | ⟨h0, h1, h2, h3, h4⟩ | ⟨h0, h1, h2, m, h3, h4⟩
  · exact Or.inl ⟨h0, h1, h2, by rw [← e s (by omega)]; exact h3⟩
  · exact Or.inr (Or.inl ⟨h0, h1, h2, h3, by rw [← e f (by omega)]; exact h4, by rw [← e s (by omega)]; exact h5⟩)
  · exact Or.inr (Or.inr (Or.inl ⟨h0, h1, h2, by rw [← e s (by omega)]; exact h3, fun q hq hne => by rw [← e q (by omega)]; exact h4 q hq hne⟩))
  · exact Or.inr (Or.inr (Or.inr ⟨h0, h1, h2, m, h3, by rw [← e 6 (by decide)]; exact h4⟩))
theorem UOK_1 {np nt : Nat} {r : Nat → Int32} {o f s : Nat} (h : UOK np nt r o f s) : o = 1 → f < np ∧ s < np := by
  intro z
  rcases h with ⟨h0, h1, h2, h3⟩ | ⟨h0, h1, h2, h3, h4, h5⟩ | ⟨h0, h1, h2, h3, h4⟩ | ⟨h0, h1, h2, m, h3, h4⟩
  · omega
  · exact ⟨h1, h2⟩
  · omega
  · omega
theorem UR_act {np nt : Nat} (hnp : np ≤ 6) {K : Nat → Int32} {E : List Int32} {US : List (Nat → Int32)} (U : UR np nt K E US) {o f s : Nat} (h : UOK np nt K o f s) : UR np nt (acK K (some (o, f, s))) (acE E (some (o, f, s))) (acU US K (some (o, f, s))) := by
  have hl := URr_len _ _ _ U
  rw [List.length_reverse, List.length_reverse] at hl
  have r7 : rwF K o 7 = nI o := by unfold rwF; rw [if_pos rfl]
  have rj : ∀ j, j < 7 → K j = rwF K o j := fun j hj => by unfold rwF; rw [if_neg (by omega)]
  have top : ∃ o' f' s', UOK np nt (rwF K o) o' f' s' ∧ lgE o f s = lgE o' f' s' ∧ rwF K o 7 = nI o' ∧ ∀ j, j < 7 → acK K (some (o, f, s)) j = acK (rwF K o) (some (o', f', s')) j := ⟨o, f, s, UOK_congr hnp rj h, rfl, r7, acK_congr rj (fun z => by have := UOK_1 h z; omega) (fun z => by have := UOK_1 h z; omega)⟩
  show UR np nt (acK K (some (o, f, s))) (lgA E (lgE o f s)) (lgU US (rwF K o))
  unfold UR lgA lgU
  by_cases hq : E.length = 16
  · rw [if_pos hq, if_pos (by omega), List.reverse_append, List.reverse_append]
    refine ⟨top, ?_⟩
    have q := URr_init K _ _ U
    rw [List.dropLast_reverse, List.dropLast_reverse] at q
    exact URr_congr rj _ _ q
  · rw [if_neg hq, if_neg (by omega), List.reverse_append, List.reverse_append]
    exact ⟨top, URr_congr rj _ _ U⟩
theorem UR_nil {np nt : Nat} (K : Nat → Int32) : UR np nt K [] [] := trivial
/-- the latest act and what is left behind it -/
theorem UR_last {np nt : Nat} {K : Nat → Int32} {E : List Int32} {US : List (Nat → Int32)} (U : UR np nt K E US) (hE : E ≠ []) : ∃ E' US' r o f s, E = E' ++ [lgE o f s] ∧ US = US' ++ [r] ∧ UOK np nt r o f s ∧ r 7 = nI o ∧ (∀ j, j < 7 → K j = acK r (some (o, f, s)) j) ∧ UR np nt r E' US' := by
  unfold UR at U
  generalize hA : E.reverse = A at U
  generalize hB : US.reverse = B at U
  match A, B, U, hA, hB with
  | [], _, _, hA, _ => exact absurd (List.reverse_eq_nil_iff.mp hA) hE
  | _ :: _, [], h, _, _ => exact h.elim
  | x :: A, r :: B, h, hA, hB =>
    obtain ⟨⟨o, f, s, h1, rfl, h3, h4⟩, h5⟩ := h
    refine ⟨A.reverse, B.reverse, r, o, f, s, ?_, ?_, h1, h3, h4, ?_⟩
    · rw [← List.reverse_reverse E, hA, List.reverse_cons]
    · rw [← List.reverse_reverse US, hB, List.reverse_cons]
    · unfold UR; rw [List.reverse_reverse, List.reverse_reverse]; exact h5
