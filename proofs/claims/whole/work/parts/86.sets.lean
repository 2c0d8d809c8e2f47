theorem VH.cg {K K' : Nat → Int32} {np nt : Nat} (V : VH K np nt) (e : ∀ j, j < 6 → K' j = K j) : VH K' np nt := ⟨V.1, V.2.1, fun p hp => by rw [e p hp]; exact V.2.2.1 p hp, fun p q hp hq => by
  have := V.1
  rw [e p (by omega), e q (by omega)]
  exact V.2.2.2 p q hp hq⟩
theorem KB.cg {K K' : Nat → Int32} (B : KB K) (e : ∀ j, (6 ≤ j ∧ j < 19) ∨ (67 ≤ j ∧ j < 83) ∨ (86 ≤ j ∧ j < 89) ∨ j = 102 → K' j = K j) : KB K' := by
  obtain ⟨b1, b2, b3, b4, b6, b7, b8⟩ := B
  refine ⟨fun p hp => ?_, fun p hp => ?_, fun p hp => ?_, fun p hp => ?_, fun p hp => ?_, ?_, ?_⟩
  · rw [e _ (by omega)]; exact b1 p hp
  · rw [e _ (by omega)]; exact b2 p hp
  · rw [e _ (by omega)]; exact b3 p hp
  · rw [e _ (by omega)]; exact b4 p hp
  · rw [e _ (by omega)]; exact b6 p hp
  · rw [e _ (by omega)]; exact b7
  · rw [e _ (by omega)]; exact b8
theorem VN.cg {K K' : Nat → Int32} {nt : Nat} (V : VN K nt) (e : ∀ j, 67 ≤ j → j < 75 → K' j = K j) : VN K' nt := ⟨V.1, fun t ht => by
  have := V.1
  rw [e _ (by omega) (by omega)]
  exact V.2.1 t ht, fun t u ht hu => by
  have := V.1
  rw [e _ (by omega) (by omega), e _ (by omega) (by omega)]
  exact V.2.2 t u ht hu⟩
theorem VD.cg {K K' : Nat → Int32} {nd : Nat} (V : VD K nd) (e : ∀ j, 86 ≤ j → j < 89 → K' j = K j) : VD K' nd := ⟨V.1, fun t ht => by
  have := V.1
  rw [e _ (by omega) (by omega)]
  exact V.2 t ht⟩
theorem VT.cg {K K' : Nat → Int32} {no : Nat} (V : VT K no) (e : ∀ j, 89 ≤ j → j < 101 → K' j = K j) : VT K' no := ⟨V.1, fun t ht => by
  have := V.1
  rw [e _ (by omega) (by omega)]
  exact V.2 t ht⟩
theorem KW.cg {K K' : Nat → Int32} (V : KW K) (e : ∀ j, 19 ≤ j → j < 67 → K' j = K j) : KW K' := fun i hi => by
  rw [e _ (by omega) (by omega)]
  exact V i hi
theorem LawK.cg {K K' : Nat → Int32} {l : Nat} {cls : List CLE} (H : LawK K l cls) (hl : l < 6) (e : ∀ j, 109 ≤ j → j < 5716 → K' j = K j) : LawK K' l cls := by
  obtain ⟨T, c, v, f, h1, h2, h3, h4, h5⟩ := H
  refine ⟨T, c, v, f, h1, h2, by rw [e _ (by omega) (by omega)]; exact h3, fun k hk => ?_, h5⟩
  rw [e _ (by omega) (by omega), e _ (by omega) (by omega)]
  exact h4 k hk
theorem hOf_eqv {f g : Nat → Int32} {t : Int32} (n : Nat) (h : ∀ q, q < n → f q = g q) : hOf f t n = hOf g t n := hOf_congr n (fun q hq => by rw [h q hq])
theorem upK_ne {K : Nat → Int32} {p : Nat} (x : Int32) {j : Nat} (h : j ≠ p) : upK K p x j = K j := if_neg h
theorem upK_eq (K : Nat → Int32) (p : Nat) (x : Int32) : upK K p x p = x := if_pos rfl
theorem wrI_same {h : AH} {a : Nat} {f : Nat → Nat} {v : Nat → Int32} : ∀ n, (∀ i, i < n → gI h a (f i) = v i) → ∀ k j, gI (wrI h a f v n) k j = gI h k j
  | 0, _, _, _ => rfl
  | n + 1, e, k, j => by
    have ih := wrI_same n (fun i hi => e i (by omega))
    show gI (sI (wrI h a f v n) a (f n) (v n)) k j = _
    rw [gI_sI]
    by_cases q : k = a
    · rw [if_pos q]
      by_cases q2 : j = f n
      · rw [if_pos q2, q, q2]
        exact (e n (by omega)).symm
      · rw [if_neg q2]
        exact ih k j
    · rw [if_neg q]
      exact ih k j
theorem gI_s102 (h : AH) (j : Nat) (x : Int32) : gI (sI h 102 j x) 102 = upK (gI h 102) j x := funext fun i => gI_at h 102 j x i
section Sp
variable {L n : Nat} {xs : Nat → Int32} {h : AH} {np nt nd nl no : Nat} {LSs : Nat → List CLE} {E : List Int32} {US : List (Nat → Int32)}
def perK (K : Nat → Int32) (np : Nat) (b p : Int32) : Nat → Int32 := upK (upK (upK K (7 + np) b) (13 + np) p) 103 (nI (np + 1))
theorem perK_o {K : Nat → Int32} {np : Nat} {b p : Int32} {j : Nat} (h : j ≠ 103 ∧ j ≠ 13 + np ∧ j ≠ 7 + np) : perK K np b p j = K j := by
  unfold perK
  rw [upK_ne _ h.1, upK_ne _ h.2.1, upK_ne _ h.2.2]
theorem perK_h {K : Nat → Int32} {np nt : Nat} (V : VH K np nt) (hn : np < 6) (b p : Int32) (t : Nat) (ht : t < 8) : hOf (perK K np b p) (nI t) (np + 1) = hOf K (nI t) np := by
  have e : K np = -1 := (V.2.2.1 np hn).resolve_right (fun z => absurd z.1 (by omega))
  show (if perK K np b p np = nI t then nI np else hOf (perK K np b p) (nI t) np) = _
  rw [perK_o (by omega), e, if_neg (fun z => nI_m1 (by omega) z.symm)]
  exact hOf_eqv np (fun q hq => perK_o (by omega))
theorem HAc.per {f : Nat → Nat → Int32} {K : Nat → Int32} (H : HAc f K np nt nd nl) (V : VH K np nt) (hn : np < 6) (b p : Int32) {f' : Nat → Nat → Int32} (e0 : f' 1 0 = nI (np + 1)) (e1 : ∀ j, j ≠ 0 → f' 1 j = f 1 j) (e2 : ∀ j, f' 2 j = if j = np then b else f 2 j) (e3 : ∀ j, f' 3 j = if j = np then p else f 3 j) (e4 : ∀ k j, 4 ≤ k → k < 14 → f' k j = f k j) : HAc f' (perK K np b p) (np + 1) nt nd nl := by
  obtain ⟨a1, a2, a3, a4, a5, a6, a7, a8, a9, b1, b2, b3, b4, b5', b6, b7, b8, b9, c1, c2⟩ := H
  refine ⟨e0, (e1 5 (by decide)).trans a2, (e1 9 (by decide)).trans a3, ?_, (e1 16 (by decide)).trans a5, ?_, fun q hq => ?_, fun q hq => ?_, fun q hq => ?_, fun q hq => ?_, fun q hq => ?_, fun q hq => ?_, fun q hq => ?_, fun q hq => ?_, fun q hq => ?_, fun q hq => ?_, fun q hq => ?_, ?_, ?_, ?_⟩
  · rw [e1 12 (by decide), perK_o (by omega)]; exact a4
  · rw [e1 18 (by decide), perK_o (by omega)]; exact a6
  · rw [show f' (1 + 1) q = _ from e2 q]
    by_cases c : q = np
    · rw [if_pos c, c]
      unfold perK
      rw [upK_ne _ (by omega), upK_ne _ (by omega), upK_eq]
    · rw [if_neg c, perK_o (by omega)]
      exact a7 q hq
  · rw [show f' (1 + 2) q = _ from e3 q]
    by_cases c : q = np
    · rw [if_pos c, c]
      unfold perK
      rw [upK_ne _ (by omega), upK_eq]
    · rw [if_neg c, perK_o (by omega)]
      exact a8 q hq
  · rw [e4 _ _ (by decide) (by decide), perK_o (by omega)]; exact a9 q hq
  · rw [e4 _ _ (by decide) (by decide), perK_o (by omega)]; exact b1 q hq
  · rw [e4 _ _ (by decide) (by decide), perK_o (by omega)]; exact b2 q hq
  · rw [e4 _ _ (by decide) (by decide), perK_o (by omega)]; exact b3 q hq
  · rw [e4 _ _ (by decide) (by decide), perK_h V hn b p q hq]; exact b4 q hq
  · rw [e4 _ _ (by decide) (by decide), perK_o (by omega)]; exact b5' q hq
  · rw [e4 _ _ (by decide) (by decide), perK_o (by omega)]; exact b6 q hq
  · rw [e4 _ _ (by decide) (by decide), perK_o (by omega)]; exact b7 q hq
  · rw [e4 _ _ (by decide) (by decide), perK_o (by omega)]; exact b8 q hq
  · rw [e4 _ _ (by decide) (by decide), perK_o (by omega)]; exact b9
  · rw [e4 _ _ (by decide) (by decide), perK_o (by omega)]; exact c1
  · rw [e4 _ _ (by decide) (by decide), perK_o (by omega)]; exact c2
theorem KST.per {K : Nat → Int32} (Q : KST K np nt nd nl no LSs) (hn : np < 6) {b p : Nat} (hb : b < 5) (hp : p < 100) : KST (perK K np (nI b) (nI p)) (np + 1) nt nd nl no LSs := by
  obtain ⟨V, B, N, Dd, T, W, ⟨k3, k4, k5, k6, k7⟩, hl, hf, ll, zz⟩ := Q
  have e : K np = -1 := (V.2.2.1 np hn).resolve_right (fun z => absurd z.1 (by omega))
  refine ⟨⟨by omega, V.2.1, fun q hq => ?_, fun q r hq hr => ?_⟩, ⟨fun q hq => ?_, fun q hq => ?_, ?_⟩, N.cg (fun j _ _ => perK_o (by omega)), Dd.cg (fun j _ _ => perK_o (by omega)), T.cg (fun j _ _ => perK_o (by omega)), W.cg (fun j _ _ => perK_o (by omega)), ⟨upK_eq _ _ _, by rw [perK_o (by omega)]; exact k4, by rw [perK_o (by omega)]; exact k5, by rw [perK_o (by omega)]; exact k6, by rw [perK_o (by omega)]; exact k7⟩, hl, by rw [perK_o (by omega)]; exact hf, fun l h1 => (ll l h1).cg (by omega) (fun j _ _ => perK_o (by omega)), fun q t hq ht hz => by rw [perK_o (by omega)]; exact zz q t hq ht (by omega)⟩
  · rw [perK_o (by omega)]
    rcases V.2.2.1 q hq with z | ⟨z, t, ht, z2⟩
    · exact Or.inl z
    · exact Or.inr ⟨by omega, t, ht, z2⟩
  · rw [perK_o (by omega), perK_o (by omega)]
    intro z1 z2
    by_cases c : q = np
    · exact absurd (by rw [c]; exact e) z2
    · by_cases c2 : r = np
      · exact absurd (by rw [z1, c2]; exact e) z2
      · exact V.2.2.2 q r (by omega) (by omega) z1 z2
  · by_cases c : q = np
    · refine ⟨b, hb, ?_⟩
      rw [c]
      unfold perK
      rw [upK_ne _ (by omega), upK_ne _ (by omega), upK_eq]
    · rw [perK_o (by omega)]
      exact B.1 q hq
  · by_cases c : q = np
    · refine ⟨p, hp, ?_⟩
      rw [c]
      unfold perK
      rw [upK_ne _ (by omega), upK_eq]
    · rw [perK_o (by omega)]
      exact B.2.1 q hq
  · refine ⟨fun q hq => ?_, fun q hq => ?_, fun q hq => ?_, ?_, ?_⟩
    · rw [perK_o (by omega)]; exact B.2.2.1 q hq
    · rw [perK_o (by omega)]; exact B.2.2.2.1 q hq
    · rw [perK_o (by omega)]; exact B.2.2.2.2.1 q hq
    · rw [perK_o (by omega)]; exact B.2.2.2.2.2.1
    · rw [perK_o (by omega)]; exact B.2.2.2.2.2.2
end Sp
