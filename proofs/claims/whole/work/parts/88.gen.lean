def arK (k j i : Nat) : Prop := (k = 2 ∧ j < 6 ∧ i = 7 + j) ∨ (k = 3 ∧ j < 6 ∧ i = 13 + j) ∨ (k = 4 ∧ j < 6 ∧ i = j) ∨ (k = 5 ∧ j < 48 ∧ i = 19 + j) ∨ (k = 6 ∧ j < 8 ∧ i = 67 + j) ∨ (k = 7 ∧ j < 8 ∧ i = 75 + j) ∨ (k = 9 ∧ j < 3 ∧ i = 83 + j) ∨ (k = 10 ∧ j < 3 ∧ i = 86 + j) ∨ (k = 11 ∧ j < 6 ∧ i = 89 + 2 * j) ∨ (k = 12 ∧ j < 6 ∧ i = 90 + 2 * j) ∨ (k = 13 ∧ j = 0 ∧ i = 6) ∨ (k = 13 ∧ j = 1 ∧ i = 101) ∨ (k = 13 ∧ j = 2 ∧ i = 102)
theorem HAc.cel {f : Nat → Nat → Int32} {K : Nat → Int32} {np nt nd nl : Nat} (H : HAc f K np nt nd nl) {k j i : Nat} (a : arK k j i) : f k j = K i := by
  obtain ⟨a1, a2, a3, a4, a5, a6, a7, a8, a9, b1, b2, b3, b4, b5', b6, b7, b8, b9, c1, c2⟩ := H
  rcases a with ⟨rfl, q, rfl⟩ | ⟨rfl, q, rfl⟩ | ⟨rfl, q, rfl⟩ | ⟨rfl, q, rfl⟩ | ⟨rfl, q, rfl⟩ | ⟨rfl, q, rfl⟩ | ⟨rfl, q, rfl⟩ | ⟨rfl, q, rfl⟩ | ⟨rfl, q, rfl⟩ | ⟨rfl, q, rfl⟩ | ⟨rfl, rfl, rfl⟩ | ⟨rfl, rfl, rfl⟩ | ⟨rfl, rfl, rfl⟩
  · exact a7 _ q
  · exact a8 _ q
  · exact a9 _ q
  · exact b1 _ q
  · exact b2 _ q
  · exact b3 _ q
  · exact b5' _ q
  · exact b6 _ q
  · exact b7 _ q
  · exact b8 _ q
  · exact b9
  · exact c1
  · exact c2
theorem HAc.gen {f f' : Nat → Nat → Int32} {K K' : Nat → Int32} {np nt nd nl np' nt' nd' nl' : Nat} (H : HAc f K np nt nd nl) (e0 : f' 1 0 = nI np') (e5 : f' 1 5 = nI nt') (e9 : f' 1 9 = nI nd') (e12 : f' 1 12 = K' 106) (e16 : f' 1 16 = nI nl') (e18 : f' 1 18 = K' 108) (hh : ∀ t, t < 8 → f' 8 t = hOf K' (nI t) np') (c : ∀ k j i, arK k j i → (f' k j = f k j ∧ K' i = K i) ∨ f' k j = K' i) : HAc f' K' np' nt' nd' nl' := by
  have d : ∀ k j i, arK k j i → f' k j = K' i := fun k j i a => by
    rcases c k j i a with ⟨q1, q2⟩ | q
    · rw [q1, q2]
      exact H.cel a
    · exact q
  exact ⟨e0, e5, e9, e12, e16, e18, fun q hq => d _ _ _ (Or.inl ⟨rfl, hq, rfl⟩), fun q hq => d _ _ _ (Or.inr (Or.inl ⟨rfl, hq, rfl⟩)), fun q hq => d _ _ _ (Or.inr (Or.inr (Or.inl ⟨rfl, hq, rfl⟩))), fun q hq => d _ _ _ (Or.inr (Or.inr (Or.inr (Or.inl ⟨rfl, hq, rfl⟩)))), fun q hq => d _ _ _ (Or.inr (Or.inr (Or.inr (Or.inr (Or.inl ⟨rfl, hq, rfl⟩))))), fun q hq => d _ _ _ (Or.inr (Or.inr (Or.inr (Or.inr (Or.inr (Or.inl ⟨rfl, hq, rfl⟩)))))), hh, fun q hq => d _ _ _ (Or.inr (Or.inr (Or.inr (Or.inr (Or.inr (Or.inr (Or.inl ⟨rfl, hq, rfl⟩))))))), fun q hq => d _ _ _ (Or.inr (Or.inr (Or.inr (Or.inr (Or.inr (Or.inr (Or.inr (Or.inl ⟨rfl, hq, rfl⟩)))))))), fun q hq => d _ _ _ (Or.inr (Or.inr (Or.inr (Or.inr (Or.inr (Or.inr (Or.inr (Or.inr (Or.inl ⟨rfl, hq, rfl⟩))))))))), fun q hq => d _ _ _ (Or.inr (Or.inr (Or.inr (Or.inr (Or.inr (Or.inr (Or.inr (Or.inr (Or.inr (Or.inl ⟨rfl, hq, rfl⟩)))))))))), d _ _ _ (Or.inr (Or.inr (Or.inr (Or.inr (Or.inr (Or.inr (Or.inr (Or.inr (Or.inr (Or.inr (Or.inl ⟨rfl, rfl, rfl⟩))))))))))), d _ _ _ (Or.inr (Or.inr (Or.inr (Or.inr (Or.inr (Or.inr (Or.inr (Or.inr (Or.inr (Or.inr (Or.inr (Or.inl ⟨rfl, rfl, rfl⟩)))))))))))), d _ _ _ (Or.inr (Or.inr (Or.inr (Or.inr (Or.inr (Or.inr (Or.inr (Or.inr (Or.inr (Or.inr (Or.inr (Or.inr (⟨rfl, rfl, rfl⟩)))))))))))))⟩
theorem gI_o (h : AH) {k j a b : Nat} (x : Int32) (hn : ¬ (a = k ∧ b = j)) : gI (sI h k j x) a b = gI h a b := by
  rw [gI_sI]
  by_cases c : a = k
  · rw [if_pos c, if_neg (fun z => hn ⟨c, z⟩)]
  · rw [if_neg c]
theorem nOf_cg {f g : Nat → Int32} {x : Int32} : ∀ m t, (∀ i, t ≤ i → i < t + m → f i = g i) → nOf f x t m = nOf g x t m
  | 0, _, _ => rfl
  | m + 1, t, e => by
    show (decide (f t = x) || nOf f x (t + 1) m) = (decide (g t = x) || nOf g x (t + 1) m)
    rw [e t (Nat.le_refl _) (by omega), nOf_cg m (t + 1) (fun i h1 h2 => e i (by omega) (by omega))]
theorem nOf_no {f : Nat → Int32} {x : Int32} : ∀ m t, nOf f x t m = false → ∀ i, t ≤ i → i < t + m → f i ≠ x
  | 0, _, _, i, h1, h2 => by omega
  | m + 1, t, e, i, h1, h2 => by
    have e' : (decide (f t = x) || nOf f x (t + 1) m) = false := e
    rw [Bool.or_eq_false_iff] at e'
    by_cases c : i = t
    · rw [c]
      exact of_decide_eq_false e'.1
    · exact nOf_no m (t + 1) e'.2 i (by omega) (by omega)
section Sg
variable {K : Nat → Int32} {np nt nd nl no : Nat} {LSs : Nat → List CLE}
/-- a ticket more -/
def tikK (K : Nat → Int32) (nt : Nat) (x k : Int32) : Nat → Int32 := upK (upK (upK K (67 + nt) x) (75 + nt) k) 104 (nI (nt + 1))
theorem tikK_o {x k : Int32} {j : Nat} (h : j ≠ 104 ∧ j ≠ 75 + nt ∧ j ≠ 67 + nt) : tikK K nt x k j = K j := by
  unfold tikK
  rw [upK_ne _ h.1, upK_ne _ h.2.1, upK_ne _ h.2.2]
theorem tikK_n {x k : Int32} (h : nt < 8) : tikK K nt x k (67 + nt) = x := by
  unfold tikK
  rw [upK_ne _ (by omega), upK_ne _ (by omega), upK_eq]
theorem tikK_k {x k : Int32} (h : nt < 8) : tikK K nt x k (75 + nt) = k := by
  unfold tikK
  rw [upK_ne _ (by omega), upK_eq]
theorem KST.tik (Q : KST K np nt nd nl no LSs) (hn : nt < 8) {x k : Nat} (hx : 1 ≤ x ∧ x ≤ 99) (hk : k < 5) (hu : ∀ i, i < nt → K (67 + i) ≠ nI x) : KST (tikK K nt (nI x) (nI k)) np (nt + 1) nd nl no LSs := by
  obtain ⟨V, B, N, Dd, T, W, ⟨k3, k4, k5, k6, k7⟩, hl, hf, ll, zz⟩ := Q
  have hp := V.1
  refine ⟨⟨V.1, by omega, fun q hq => ?_, fun q r hq hr => ?_⟩, ⟨fun q hq => ?_, fun q hq => ?_, fun q hq => ?_, fun q hq => ?_, fun q hq => ?_, ?_, ?_⟩, ⟨by omega, fun t ht => ?_, fun t u ht hu' => ?_⟩, Dd.cg (fun j _ _ => tikK_o (by omega)), T.cg (fun j _ _ => tikK_o (by omega)), W.cg (fun j _ _ => tikK_o (by omega)), ⟨by rw [tikK_o (by omega)]; exact k3, upK_eq _ _ _, by rw [tikK_o (by omega)]; exact k5, by rw [tikK_o (by omega)]; exact k6, by rw [tikK_o (by omega)]; exact k7⟩, hl, by rw [tikK_o (by omega)]; exact hf, fun l h1 => (ll l h1).cg (by omega) (fun j _ _ => tikK_o (by omega)), fun q t hq ht hz => by rw [tikK_o (by omega)]; exact zz q t hq ht (by omega)⟩
  · rw [tikK_o (by omega)]
    rcases V.2.2.1 q hq with z | ⟨z, t, ht, z2⟩
    · exact Or.inl z
    · exact Or.inr ⟨z, t, by omega, z2⟩
  · rw [tikK_o (by omega), tikK_o (by omega)]
    exact V.2.2.2 q r hq hr
  · rw [tikK_o (by omega)]; exact B.1 q hq
  · rw [tikK_o (by omega)]; exact B.2.1 q hq
  · by_cases c : q = nt
    · exact ⟨x, by omega, by rw [c]; exact tikK_n hn⟩
    · rw [tikK_o (by omega)]; exact B.2.2.1 q hq
  · by_cases c : q = nt
    · exact ⟨k, hk, by rw [c]; exact tikK_k hn⟩
    · rw [tikK_o (by omega)]; exact B.2.2.2.1 q hq
  · rw [tikK_o (by omega)]; exact B.2.2.2.2.1 q hq
  · rw [tikK_o (by omega)]; exact B.2.2.2.2.2.1
  · rw [tikK_o (by omega)]; exact B.2.2.2.2.2.2
  · by_cases c : t = nt
    · exact ⟨x, hx.1, hx.2, by rw [c]; exact tikK_n hn⟩
    · rw [tikK_o (by omega)]; exact N.2.1 t (by omega)
  · by_cases c : t = nt
    · by_cases c2 : u = nt
      · intro _
        rw [c, c2]
      · rw [c, tikK_n hn, tikK_o (by omega)]
        exact fun z => absurd z.symm (hu u (by omega))
    · by_cases c2 : u = nt
      · rw [c2, tikK_n hn, tikK_o (by omega)]
        exact fun z => absurd z (hu t (by omega))
      · rw [tikK_o (by omega), tikK_o (by omega)]
        exact N.2.2 t u (by omega) (by omega)
/-- a desk more -/
def dskK (K : Nat → Int32) (nd : Nat) (o s : Int32) : Nat → Int32 := upK (upK (upK K (83 + nd) o) (86 + nd) s) 105 (nI (nd + 1))
theorem dskK_o {o s : Int32} {j : Nat} (h : j ≠ 105 ∧ j ≠ 86 + nd ∧ j ≠ 83 + nd) : dskK K nd o s j = K j := by
  unfold dskK
  rw [upK_ne _ h.1, upK_ne _ h.2.1, upK_ne _ h.2.2]
theorem dskK_n {o s : Int32} (h : nd < 3) : dskK K nd o s (83 + nd) = o := by
  unfold dskK
  rw [upK_ne _ (by omega), upK_ne _ (by omega), upK_eq]
theorem dskK_k {o s : Int32} (h : nd < 3) : dskK K nd o s (86 + nd) = s := by
  unfold dskK
  rw [upK_ne _ (by omega), upK_eq]
theorem KST.dsk (Q : KST K np nt nd nl no LSs) (hn : nd < 3) {s : Nat} (o : Int32) (hs : 1 ≤ s ∧ s ≤ 9) : KST (dskK K nd o (nI s)) np nt (nd + 1) nl no LSs := by
  obtain ⟨V, B, N, Dd, T, W, ⟨k3, k4, k5, k6, k7⟩, hl, hf, ll, zz⟩ := Q
  have hp := V.1
  refine ⟨V.cg (fun j hj => dskK_o (by omega)), ⟨fun q hq => ?_, fun q hq => ?_, fun q hq => ?_, fun q hq => ?_, fun q hq => ?_, ?_, ?_⟩, N.cg (fun j _ _ => dskK_o (by omega)), ⟨by omega, fun e he => ?_⟩, T.cg (fun j _ _ => dskK_o (by omega)), W.cg (fun j _ _ => dskK_o (by omega)), ⟨by rw [dskK_o (by omega)]; exact k3, by rw [dskK_o (by omega)]; exact k4, upK_eq _ _ _, by rw [dskK_o (by omega)]; exact k6, by rw [dskK_o (by omega)]; exact k7⟩, hl, by rw [dskK_o (by omega)]; exact hf, fun l h1 => (ll l h1).cg (by omega) (fun j _ _ => dskK_o (by omega)), fun q t hq ht hz => by rw [dskK_o (by omega)]; exact zz q t hq ht hz⟩
  · rw [dskK_o (by omega)]; exact B.1 q hq
  · rw [dskK_o (by omega)]; exact B.2.1 q hq
  · rw [dskK_o (by omega)]; exact B.2.2.1 q hq
  · rw [dskK_o (by omega)]; exact B.2.2.2.1 q hq
  · by_cases c : q = nd
    · exact ⟨s, by omega, by rw [c]; exact dskK_k hn⟩
    · rw [dskK_o (by omega)]; exact B.2.2.2.2.1 q hq
  · rw [dskK_o (by omega)]; exact B.2.2.2.2.2.1
  · rw [dskK_o (by omega)]; exact B.2.2.2.2.2.2
  · by_cases c : e = nd
    · exact ⟨s, hs.1, hs.2, by rw [c]; exact dskK_k hn⟩
    · rw [dskK_o (by omega)]; exact Dd.2 e (by omega)
/-- one thing more told -/
def tldK (K : Nat → Int32) (no : Nat) (p m : Int32) : Nat → Int32 := upK (upK (upK K (89 + 2 * no) p) (89 + 2 * no + 1) m) 106 (nI (no + 1))
theorem tldK_o {p m : Int32} {j : Nat} (h : j ≠ 106 ∧ j ≠ 89 + 2 * no + 1 ∧ j ≠ 89 + 2 * no) : tldK K no p m j = K j := by
  unfold tldK
  rw [upK_ne _ h.1, upK_ne _ h.2.1, upK_ne _ h.2.2]
theorem tldK_n {p m : Int32} (h : no < 6) : tldK K no p m (89 + 2 * no) = p := by
  unfold tldK
  rw [upK_ne _ (by omega), upK_ne _ (by omega), upK_eq]
theorem tldK_k {p m : Int32} (h : no < 6) : tldK K no p m (90 + 2 * no) = m := by
  unfold tldK
  rw [show 90 + 2 * no = 89 + 2 * no + 1 by omega, upK_ne _ (by omega), upK_eq]
theorem KST.tld (Q : KST K np nt nd nl no LSs) (hn : no < 6) {p : Nat} (hp : p < 6) (m : Int32) : KST (tldK K no (nI p) m) np nt nd nl (no + 1) LSs := by
  obtain ⟨V, B, N, Dd, T, W, ⟨k3, k4, k5, k6, k7⟩, hl, hf, ll, zz⟩ := Q
  refine ⟨V.cg (fun j hj => tldK_o (by omega)), B.cg (fun j hj => tldK_o (by omega)), N.cg (fun j _ _ => tldK_o (by omega)), Dd.cg (fun j _ _ => tldK_o (by omega)), ⟨by omega, fun i hi => ?_⟩, W.cg (fun j _ _ => tldK_o (by omega)), ⟨by rw [tldK_o (by omega)]; exact k3, by rw [tldK_o (by omega)]; exact k4, by rw [tldK_o (by omega)]; exact k5, upK_eq _ _ _, by rw [tldK_o (by omega)]; exact k7⟩, hl, by rw [tldK_o (by omega)]; exact hf, fun l h1 => (ll l h1).cg (by omega) (fun j _ _ => tldK_o (by omega)), fun q t hq ht hz => by rw [tldK_o (by omega)]; exact zz q t hq ht hz⟩
  by_cases c : i = no
  · exact ⟨p, hp, by rw [c]; exact tldK_n hn⟩
  · rw [tldK_o (by omega)]; exact T.2 i (by omega)
/-- a wish -/
theorem KST.wsh (Q : KST K np nt nd nl no LSs) {p t v : Nat} (hp : p < np) (ht : t < nt) (hv : v < 10) : KST (upK K (19 + (8 * p + t)) (nI v)) np nt nd nl no LSs := by
  obtain ⟨V, B, N, Dd, T, W, ⟨k3, k4, k5, k6, k7⟩, hl, hf, ll, zz⟩ := Q
  have v1 := V.1
  have v2 := V.2.1
  refine ⟨V.cg (fun j hj => upK_ne _ (by omega)), B.cg (fun j hj => upK_ne _ (by omega)), N.cg (fun j _ _ => upK_ne _ (by omega)), Dd.cg (fun j _ _ => upK_ne _ (by omega)), T.cg (fun j _ _ => upK_ne _ (by omega)), fun i hi => ?_, ⟨by rw [upK_ne _ (by omega)]; exact k3, by rw [upK_ne _ (by omega)]; exact k4, by rw [upK_ne _ (by omega)]; exact k5, by rw [upK_ne _ (by omega)]; exact k6, by rw [upK_ne _ (by omega)]; exact k7⟩, hl, by rw [upK_ne _ (by omega)]; exact hf, fun l h1 => (ll l h1).cg (by omega) (fun j _ _ => upK_ne _ (by omega)), fun q u hq hu hz => by rw [upK_ne _ (by omega)]; exact zz q u hq hu hz⟩
  by_cases c : i = 8 * p + t
  · exact ⟨v, hv, by rw [c]; exact upK_eq _ _ _⟩
  · rw [upK_ne _ (by omega)]; exact W i hi
/-- a law in force -/
theorem KST.frc (Q : KST K np nt nd nl no LSs) {x : Int32} (hx : x = -1 ∨ ∃ l, l < nl ∧ x = nI l) : KST (upK K 108 x) np nt nd nl no LSs := by
  obtain ⟨V, B, N, Dd, T, W, ⟨k3, k4, k5, k6, k7⟩, hl, hf, ll, zz⟩ := Q
  exact ⟨V.cg (fun j hj => upK_ne _ (by omega)), B.cg (fun j hj => upK_ne _ (by omega)), N.cg (fun j _ _ => upK_ne _ (by omega)), Dd.cg (fun j _ _ => upK_ne _ (by omega)), T.cg (fun j _ _ => upK_ne _ (by omega)), W.cg (fun j _ _ => upK_ne _ (by omega)), ⟨by rw [upK_ne _ (by omega)]; exact k3, by rw [upK_ne _ (by omega)]; exact k4, by rw [upK_ne _ (by omega)]; exact k5, by rw [upK_ne _ (by omega)]; exact k6, by rw [upK_ne _ (by omega)]; exact k7⟩, hl, by rw [upK_eq]; exact hx, fun l h1 => (ll l h1).cg (by omega) (fun j _ _ => upK_ne _ (by omega)), fun q u hq hu hz => by rw [upK_ne _ (by omega)]; exact zz q u hq hu hz⟩
/-- nothing told -/
theorem KST.fgt (Q : KST K np nt nd nl no LSs) : KST (upK K 106 (nI 0)) np nt nd nl 0 LSs := by
  obtain ⟨V, B, N, Dd, T, W, ⟨k3, k4, k5, k6, k7⟩, hl, hf, ll, zz⟩ := Q
  exact ⟨V.cg (fun j hj => upK_ne _ (by omega)), B.cg (fun j hj => upK_ne _ (by omega)), N.cg (fun j _ _ => upK_ne _ (by omega)), Dd.cg (fun j _ _ => upK_ne _ (by omega)), ⟨by omega, fun i hi => absurd hi (by omega)⟩, W.cg (fun j _ _ => upK_ne _ (by omega)), ⟨by rw [upK_ne _ (by omega)]; exact k3, by rw [upK_ne _ (by omega)]; exact k4, by rw [upK_ne _ (by omega)]; exact k5, upK_eq _ _ _, by rw [upK_ne _ (by omega)]; exact k7⟩, hl, by rw [upK_ne _ (by omega)]; exact hf, fun l h1 => (ll l h1).cg (by omega) (fun j _ _ => upK_ne _ (by omega)), fun q u hq hu hz => by rw [upK_ne _ (by omega)]; exact zz q u hq hu hz⟩
/-- a term -/
theorem KST.trm (Q : KST K np nt nd nl no LSs) {a v : Nat} (h : (a = 6 ∧ v < 1000) ∨ a = 101 ∨ (a = 102 ∧ v < 10)) : KST (upK K a (nI v)) np nt nd nl no LSs := by
  obtain ⟨V, B, N, Dd, T, W, ⟨k3, k4, k5, k6, k7⟩, hl, hf, ll, zz⟩ := Q
  refine ⟨V.cg (fun j hj => upK_ne _ (by omega)), ⟨fun q hq => ?_, fun q hq => ?_, fun q hq => ?_, fun q hq => ?_, fun q hq => ?_, ?_, ?_⟩, N.cg (fun j _ _ => upK_ne _ (by omega)), Dd.cg (fun j _ _ => upK_ne _ (by omega)), T.cg (fun j _ _ => upK_ne _ (by omega)), W.cg (fun j _ _ => upK_ne _ (by omega)), ⟨by rw [upK_ne _ (by omega)]; exact k3, by rw [upK_ne _ (by omega)]; exact k4, by rw [upK_ne _ (by omega)]; exact k5, by rw [upK_ne _ (by omega)]; exact k6, by rw [upK_ne _ (by omega)]; exact k7⟩, hl, by rw [upK_ne _ (by omega)]; exact hf, fun l h1 => (ll l h1).cg (by omega) (fun j _ _ => upK_ne _ (by omega)), fun q u hq hu hz => by rw [upK_ne _ (by omega)]; exact zz q u hq hu hz⟩
  · rw [upK_ne _ (by omega)]; exact B.1 q hq
  · rw [upK_ne _ (by omega)]; exact B.2.1 q hq
  · rw [upK_ne _ (by omega)]; exact B.2.2.1 q hq
  · rw [upK_ne _ (by omega)]; exact B.2.2.2.1 q hq
  · rw [upK_ne _ (by omega)]; exact B.2.2.2.2.1 q hq
  · by_cases c : a = 6
    · exact ⟨v, by omega, by rw [c]; exact upK_eq _ _ _⟩
    · rw [upK_ne _ (by omega)]; exact B.2.2.2.2.2.1
  · by_cases c : a = 102
    · exact ⟨v, by omega, by rw [c]; exact upK_eq _ _ _⟩
    · rw [upK_ne _ (by omega)]; exact B.2.2.2.2.2.2
end Sg
