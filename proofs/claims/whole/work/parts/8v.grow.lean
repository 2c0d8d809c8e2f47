theorem rf_129 {k j a : Nat} (ha : rf0 k j = some a) : k < 129 ∧ k ≠ 14 := by
  have q := rfL_of ha
  have hb1 : (rfL.all fun q => decide (q.1 < 129 ∧ q.1 ≠ 14)) = true := by decide +kernel
  exact of_decide_eq_true (List.all_eq_true.mp hb1 _ q)
theorem sh_lt {h : AH} {k : Nat} {q : Nat × Nat} (hk : h.1[k]? = some q) : k < aN h := (List.getElem?_eq_some_iff.mp hk).1
theorem TXG.gr {h g : AH} {tx kh kc nh nc : Nat} {ord : Bool} {LS : List CLE} (T : TXG h tx kh kc nh nc ord LS) (G : Gr h g) : TXG g tx kh kc nh nc ord LS := by
  obtain ⟨t1, t2, t3, t4, t5, t6, t7, t8, t9, ⟨x1, x2, x3, x4, x5⟩, t10, t11⟩ := T
  have lx := sh_lt t1
  have lh := sh_lt t4
  have lc := sh_lt t5
  exact ⟨sh_pre G.1 t1, (G.2.2.2.2 _ _ lx).trans t2, (G.2.2.2.2 _ _ lx).trans t3, sh_pre G.1 t4, sh_pre G.1 t5, t6, t7, t8, t9, ⟨(G.2.2.1 _ _ lx).trans x1, (G.2.2.1 _ _ lx).trans x2, (G.2.2.1 _ _ lx).trans x3, fun m q hq => (G.2.2.1 _ _ lc).trans (x4 m q hq), fun m e he w hw => (G.2.2.1 _ _ lh).trans (x5 m e he w hw)⟩, t10, t11⟩
theorem HOK.gr {h g : AH} {b : Nat} (A : HOK h b) (G : Gr h g) (hb : b + 16 ≤ aN h) : HOK g b := ⟨fun o q hq => sh_pre G.1 (A.1 o q hq), fun o j a ha => by
  have ho : o < 16 := by
    refine Nat.lt_of_not_le (fun z => ?_)
    have e : hrf.getD o [] = [] := by
      rw [List.getD_eq_getElem?_getD, List.getElem?_eq_none (show hrf.length ≤ o from z)]
      rfl
    rw [e] at ha
    simp at ha
  exact (G.2.2.2.2 _ _ (by omega)).trans (A.2 o j a ha)⟩
theorem HA.gr {h g : AH} {b : Nat} {K : Nat → Int32} {np nt nd nl : Nat} (H : HA h b K np nt nd nl) (G : Gr h g) (hb : b + 16 ≤ aN h) : HA g b K np nt nd nl := by
  obtain ⟨A, a1, a2, a3, a4, a5, a6, a7, a8, a9, b1, b2, b3, b4, b5', b6, b7, b8, b9, c1, c2⟩ := H
  have w : ∀ k j, k < b + 16 → gI g k j = gI h k j := fun k j hk => G.2.2.1 k j (by omega)
  exact ⟨A.gr G hb, (w _ _ (by omega)).trans a1, (w _ _ (by omega)).trans a2, (w _ _ (by omega)).trans a3, (w _ _ (by omega)).trans a4, (w _ _ (by omega)).trans a5, (w _ _ (by omega)).trans a6, fun p hp => (w _ _ (by omega)).trans (a7 p hp), fun p hp => (w _ _ (by omega)).trans (a8 p hp), fun p hp => (w _ _ (by omega)).trans (a9 p hp), fun p hp => (w _ _ (by omega)).trans (b1 p hp), fun p hp => (w _ _ (by omega)).trans (b2 p hp), fun p hp => (w _ _ (by omega)).trans (b3 p hp), fun p hp => (w _ _ (by omega)).trans (b4 p hp), fun p hp => (w _ _ (by omega)).trans (b5' p hp), fun p hp => (w _ _ (by omega)).trans (b6 p hp), fun p hp => (w _ _ (by omega)).trans (b7 p hp), fun p hp => (w _ _ (by omega)).trans (b8 p hp), (w _ _ (by omega)).trans b9, (w _ _ (by omega)).trans c1, (w _ _ (by omega)).trans c2⟩
theorem HG.gr {h g : AH} {b : Nat} {K : Nat → Int32} {np nt nd nl : Nat} {LSs : Nat → List CLE} {E : List Int32} (H : HG h b K np nt nd nl LSs E) (G : Gr h g) (hb : b + 16 ≤ aN h) : HG g b K np nt nd nl LSs E := by
  have r13 : ∀ i, gR g (b + 13) i = gR h (b + 13) i := fun i => G.2.2.2.2 _ _ (by omega)
  refine ⟨H.1.gr G hb, ⟨H.1.1.gr G hb, H.2.1.2.1, (G.2.2.1 _ _ (by omega)).trans H.2.1.2.2.1, fun l hl => ?_⟩, fun i a hi ha => ?_, ⟨H.2.2.2.1.1, (G.2.2.1 _ _ (by omega)).trans H.2.2.2.1.2.1, fun j x hj => (G.2.2.1 _ _ (by omega)).trans (H.2.2.2.1.2.2 j x hj)⟩, fun l hl => ?_⟩
  · obtain ⟨tx, kh, kc, nh, nc, q, T⟩ := H.2.1.2.2.2 l hl
    exact ⟨tx, kh, kc, nh, nc, (r13 l).trans q, T.gr G⟩
  · rw [r13] at ha
    exact sh_pre G.1 (H.2.2.1 i a hi ha)
  · obtain ⟨tx, kh, kc, q1, q2, q3, q4, q5, q6⟩ := H.2.2.2.2 l hl
    have n6 := H.2.1.2.1
    have lx := sh_lt (H.2.2.1 l tx (by omega) q1)
    exact ⟨tx, kh, kc, (r13 l).trans q1, q2, (G.2.2.2.2 _ _ lx).trans q3, q4, (G.2.2.2.2 _ _ lx).trans q5, q6⟩
theorem Gr.fn {h g : AH} (G : Gr h g) (hN : 129 ≤ aN h) {k : Nat} (hk : k < 129) : gI g k = gI h k := funext fun j => G.2.2.1 k j (by omega)
theorem CORE.gr {h g : AH} {np nt nd nl no : Nat} {LSs : Nat → List CLE} {E : List Int32} {US : List (Nat → Int32)} (C : CORE h np nt nd nl no LSs E US) (G : Gr h g) (hN : 129 ≤ aN h) : CORE g np nt nd nl no LSs E US := by
  unfold CORE
  rw [G.fn hN (k := 102) (by decide)]
  exact ⟨C.1.gr G (by omega), C.2.1, C.2.2.1, C.2.2.2.1, (G.2.2.1 _ _ (by omega)).trans C.2.2.2.2.1, fun i r hi j hj => (G.2.2.1 _ _ (by omega)).trans (C.2.2.2.2.2 i r hi j hj)⟩
theorem IMG.gr {h g : AH} {k : Nat} (C : IMG h k) (hk : k < 2) (G : Gr h g) (hN : 129 ≤ aN h) : IMG g k := by
  obtain ⟨f, e1, e2, w⟩ := C
  have e : KI g k = KI h k := funext fun i => G.2.2.1 103 _ (by omega)
  refine ⟨f, (G.2.2.1 _ _ (by omega)).trans e1, (G.2.2.1 _ _ (by omega)).trans e2, fun q => ?_⟩
  obtain ⟨np, nt, nd, nl, no, LSs, E, H, Q⟩ := w q
  rw [e]
  exact ⟨np, nt, nd, nl, no, LSs, E, H.gr G (by omega), Q⟩
theorem ZER.gr {h g : AH} (C : ZER h) (G : Gr h g) (hN : 129 ≤ aN h) : ZER g := ⟨fun j hj => (G.2.2.1 _ _ (by omega)).trans (C.1 j hj), fun j hj => (G.2.2.1 _ _ (by omega)).trans (C.2 j hj)⟩
theorem DRWN.gr {h g : AH} (C : DRWN h) (G : Gr h g) (hN : 129 ≤ aN h) : DRWN g := by
  unfold DRWN
  rw [G.2.2.1 100 58 (by omega), G.fn hN (k := 66) (by decide), G.fn hN (k := 128) (by decide)]
  exact C
theorem RfOK.gr {h g : AH} (R : RfOK h) (G : Gr h g) (hN : 129 ≤ aN h) : RfOK g := fun k j a ha => (G.2.2.2.2 k j (by have := (rf_129 ha).1; omega)).trans (R k j a ha)
/-- what is kept with one more law -/
def lwK (K : Nat → Int32) (c v : Nat → Nat) (nl T : Nat) : Nat → Int32 := upK (lyK K c v nl T) 107 (nI (nl + 1))
theorem lwK_lo {K : Nat → Int32} {c v : Nat → Nat} {nl T j : Nat} (h1 : j < 109) (h2 : j ≠ 107) : lwK K c v nl T j = K j := by
  unfold lwK
  rw [upK_ne _ h2, lyK_lo h1]
theorem LawK.law {K : Nat → Int32} {l : Nat} {cls : List CLE} (H : LawK K l cls) {nl : Nat} (hl : l < nl) (hn : nl < 6) {c v : Nat → Nat} {T : Nat} (hT : T ≤ 400) : LawK (lwK K c v nl T) l cls := by
  obtain ⟨T', c', v', f, a1, a2, a3, a4, a5⟩ := H
  have w : ∀ i, 109 ≤ i → i ≠ 109 + nl → ¬ (116 + 400 * nl ≤ i ∧ i < 116 + 400 * nl + T) → ¬ (2916 + 400 * nl ≤ i ∧ i < 2916 + 400 * nl + T) → lwK K c v nl T i = K i := fun i q0 q1 q2 q3 => by
    unfold lwK
    rw [upK_ne _ (by omega)]
    unfold lyK
    rw [if_neg q1, if_neg q2, if_neg q3]
  refine ⟨T', c', v', f, a1, a2, by rw [w _ (by omega) (by omega) (by omega) (by omega)]; exact a3, fun k hk => ?_, a5⟩
  rw [w _ (by omega) (by omega) (by omega) (by omega), w _ (by omega) (by omega) (by omega) (by omega)]
  exact a4 k hk
theorem LawK.new {K : Nat → Int32} {nl : Nat} {cls : List CLE} {c v : Nat → Nat} {T f : Nat} (hn : nl < 6) (hT : T ≤ 400) (hc : c T = 0) (hb : ∀ k, k < T → c k < 1000 ∧ v k < 20000000) (hr : rdL false c v T f 12 0 0 0 = .ok cls) : LawK (lwK K c v nl T) nl cls := by
  refine ⟨T, c, v, f, hT, hc, ?_, fun k hk => ⟨?_, ?_, hb k hk⟩, hr⟩
  · unfold lwK
    rw [upK_ne _ (by omega)]
    unfold lyK
    rw [if_pos rfl]
  · unfold lwK
    rw [upK_ne _ (by omega)]
    unfold lyK
    rw [if_neg (by omega), if_pos (by omega), show 116 + (400 * nl + k) - (116 + 400 * nl) = k by omega]
  · unfold lwK
    rw [upK_ne _ (by omega)]
    unfold lyK
    rw [if_neg (by omega), if_neg (by omega), if_pos (by omega), show 2916 + (400 * nl + k) - (2916 + 400 * nl) = k by omega]
def lsU (LSs : Nat → List CLE) (nl : Nat) (LS : List CLE) : Nat → List CLE := fun l => if l = nl then LS else LSs l
theorem KST.law {K : Nat → Int32} {np nt nd nl no : Nat} {LSs : Nat → List CLE} (Q : KST K np nt nd nl no LSs) (hn : nl < 6) {c v : Nat → Nat} {T f : Nat} {LS : List CLE} (hT : T ≤ 400) (hc : c T = 0) (hb : ∀ k, k < T → c k < 1000 ∧ v k < 20000000) (hr : rdL false c v T f 12 0 0 0 = .ok LS) : KST (lwK K c v nl T) np nt nd (nl + 1) no (lsU LSs nl LS) := by
  have e : ∀ j, j < 109 → j ≠ 107 → lwK K c v nl T j = K j := fun j h1 h2 => lwK_lo h1 h2
  obtain ⟨V, B, N, Dd, T1, W, ⟨k3, k4, k5, k6, k7⟩, hl, hf, ll, zz⟩ := Q
  refine ⟨V.cg (fun j _ => e j (by omega) (by omega)), B.cg (fun j _ => e j (by omega) (by omega)), N.cg (fun j _ _ => e j (by omega) (by omega)), Dd.cg (fun j _ _ => e j (by omega) (by omega)), T1.cg (fun j _ _ => e j (by omega) (by omega)), W.cg (fun j _ _ => e j (by omega) (by omega)), ⟨(e _ (by omega) (by omega)).trans k3, (e _ (by omega) (by omega)).trans k4, (e _ (by omega) (by omega)).trans k5, (e _ (by omega) (by omega)).trans k6, upK_eq _ _ _⟩, by omega, ?_, fun l h1 => ?_, fun q t hq ht hz => by rw [e _ (by omega) (by omega)]; exact zz q t hq ht hz⟩
  · rw [e _ (by omega) (by omega)]
    rcases hf with z | ⟨l, h1, h2⟩
    · exact Or.inl z
    · exact Or.inr ⟨l, by omega, h2⟩
  · unfold lsU
    by_cases c1 : l = nl
    · rw [if_pos c1, c1]
      exact LawK.new hn hT hc hb hr
    · rw [if_neg c1]
      exact (ll l (by omega)).law (by omega) hn hT
/-- the new text, as a law -/
theorem TxN.txg {h g : AH} {LS : List CLE} (T : TXG h 37 38 39 60 436 false LS) (N : TxN h LS.length (cdA LS).length (fitC false (cdA LS)) g) (hN : 129 ≤ aN h) : TXG g (aN h) (aN h + 1) (aN h + 2) (LS.length * 5) (cdA LS).length false LS := by
  obtain ⟨n1, n2, n3, n4, n5, n6, n7, n8, n9⟩ := N
  obtain ⟨t1, t2, t3, t4, t5, t6, t7, t8, t9, ⟨x1, x2, x3, x4, x5⟩, t10, t11⟩ := T
  have s0 : g.1[aN h]? = some (9, clN 9) := by
    rw [n1]
    show (h.1 ++ _)[h.1.length]? = _
    rw [List.getElem?_append_right (Nat.le_refl _)]
    simp
  have s1 : g.1[aN h + 1]? = some (13, LS.length * 5) := by
    rw [n1]
    show (h.1 ++ _)[h.1.length + 1]? = _
    rw [List.getElem?_append_right (by omega)]
    simp
  have s2 : g.1[aN h + 2]? = some (13, (cdA LS).length) := by
    rw [n1]
    show (h.1 ++ _)[h.1.length + 2]? = _
    rw [List.getElem?_append_right (by omega)]
    simp
  refine ⟨s0, n3, n4, s1, s2, by omega, by omega, Nat.le_refl _, by omega, ⟨n5, n6, n7, fun m q hq => ?_, fun m e he w hw => ?_⟩, ⟨Or.inl (by omega), Or.inl (by omega), Or.inl (by omega)⟩, t11⟩
  · have hm := (List.getElem?_eq_some_iff.mp hq).1
    rw [n9 m hm]
    exact x4 m q hq
  · have hm := (List.getElem?_eq_some_iff.mp he).1
    rw [n8 _ (by omega)]
    exact x5 m e he w hw
