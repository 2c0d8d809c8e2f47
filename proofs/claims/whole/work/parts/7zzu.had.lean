/-- what was told of the first n is so -/
def tdB (K : Nat → Int32) (s : DS) : Nat → Bool
  | 0 => true
  | n + 1 => tdB K s n && decide (s.2.2.1 (ix (K (89 + 2 * n))) = K (90 + 2 * n))
def tdW (K : Nat → Int32) (fl : Option (List CLE)) (nd np nt no : Nat) (W : Nat → Int32) : Bool := tdB K (dayF K fl nd np nt (fun _ => true) W 100) no
/-- one more way, if it is as told -/
def hdS (K : Nat → Int32) (fl : Option (List CLE)) (nd np nt no : Nat) (W : Nat → Int32) (L : List (Nat → Int32)) : List (Nat → Int32) := if tdW K fl nd np nt no W = true then L ++ [W] else L
/-- at most 720 -/
def hdC (K : Nat → Int32) (fl : Option (List CLE)) (nd np nt no : Nat) (W : Nat → Int32) (L : List (Nat → Int32)) : List (Nat → Int32) := if tdW K fl nd np nt no W = true then (if L.length < 720 then L ++ [W] else L) else L
theorem tdB_congr {K K' : Nat → Int32} (e : ∀ j, 6 ≤ j → K j = K' j) (s : DS) : ∀ n, tdB K s n = tdB K' s n
  | 0 => rfl
  | n + 1 => by rw [tdB, tdB, tdB_congr e s n, e _ (by omega), e _ (by omega)]
def fc : Nat → Nat
  | 0 => 1
  | n + 1 => (n + 1) * fc n
theorem fc_pos : ∀ n, 1 ≤ fc n
  | 0 => Nat.le_refl _
  | n + 1 => by
    have := fc_pos n
    show 1 ≤ (n + 1) * fc n
    exact Nat.le_trans this (Nat.le_mul_of_pos_left _ (by omega))
theorem fc_le : ∀ n, n ≤ 6 → fc n ≤ 720 := by decide
/-- how many of these a way leaves -/
def unW (np : Nat) (W : Nat → Int32) : List Nat → Nat
  | [] => 0
  | t :: ts => unW np W ts + (if hOf W (nI t) np = -1 then 1 else 0)
theorem unW_same {np : Nat} {W W' : Nat → Int32} : ∀ ts : List Nat, (∀ u ∈ ts, hOf W' (nI u) np = hOf W (nI u) np) → unW np W' ts = unW np W ts
  | [], _ => rfl
  | t :: ts, h => by rw [unW, unW, unW_same ts (fun u hu => h u (List.mem_cons_of_mem _ hu)), h t (List.mem_cons_self ..)]
theorem unW_one {np : Nat} {W W' : Nat → Int32} {t : Nat} (h2 : hOf W' (nI t) np ≠ -1) (h3 : hOf W (nI t) np = -1) : ∀ ts : List Nat, ts.Nodup → t ∈ ts → (∀ u ∈ ts, u ≠ t → hOf W' (nI u) np = hOf W (nI u) np) → unW np W' ts + 1 = unW np W ts
  | [], _, h, _ => by cases h
  | a :: ts, hn, h, h1 => by
    rw [List.nodup_cons] at hn
    rw [unW, unW]
    rcases List.mem_cons.mp h with rfl | h
    · rw [if_neg h2, if_pos h3, unW_same ts (fun u hu => h1 u (List.mem_cons_of_mem _ hu) (fun z => hn.1 (by rw [← z]; exact hu)))]
    · have ih := unW_one h2 h3 ts hn.2 h (fun u hu => h1 u (List.mem_cons_of_mem _ hu))
      rw [h1 a (List.mem_cons_self ..) (fun z => hn.1 (by rw [z]; exact h))]
      omega
theorem hOf_up {np : Nat} {W : Nat → Int32} {p t : Nat} (h6 : np ≤ 6) (hp : p < np) (hW : W p = -1) (hu : hOf W (nI t) np = -1) (ht : t < 8) : hOf (upK W p (nI t)) (nI t) np ≠ -1 ∧ ∀ u, u < 8 → u ≠ t → hOf (upK W p (nI t)) (nI u) np = hOf W (nI u) np := by
  refine ⟨?_, fun u hu8 hne => ?_⟩
  · rw [hOf_one (p := p) (by unfold upK; rw [if_pos rfl]) np hp (fun q hq y => by
      unfold upK at y
      by_cases x : q = p
      · exact x
      · rw [if_neg x] at y
        exact absurd y (hOf_m1 np (by omega) hu q hq))]
    exact nI_m1 (by omega)
  · exact hOf_congr np (fun q hq => by
      unfold upK
      by_cases x : q = p
      · rw [if_pos x, x, hW]
        exact ⟨fun y => absurd (nI_inj (by omega) (by omega) y).symm hne, fun y => absurd y.symm (nI_m1 (by omega))⟩
      · rw [if_neg x])
section Hb
variable {K : Nat → Int32} {fl : Option (List CLE)} {nd np nt no : Nat} {okp : Nat → Nat → Bool} {ts : List Nat}
/-- no more than 720, and so nothing is cut off -/
theorem tw_cap (h6 : np ≤ 6) (hn : ts.Nodup) (h8 : ∀ t ∈ ts, t < 8) : ∀ (rest : List Nat) (W : Nat → Int32) (s : List (Nat → Int32)), rest.Nodup → (∀ p ∈ rest, p < np ∧ W p = -1) → unW np W ts = rest.length → (twF np ts okp (hdS K fl nd np nt no) rest W s).length ≤ s.length + fc rest.length ∧ (s.length + fc rest.length ≤ 720 → twF np ts okp (hdC K fl nd np nt no) rest W s = twF np ts okp (hdS K fl nd np nt no) rest W s) := by
  intro rest
  induction rest with
  | nil =>
    intro W s _ _ _
    refine ⟨?_, fun h => ?_⟩
    · show (hdS K fl nd np nt no W s).length ≤ s.length + 1
      unfold hdS
      split
      · rw [List.length_append]; exact Nat.le_refl _
      · omega
    · show hdC K fl nd np nt no W s = hdS K fl nd np nt no W s
      have h : s.length + 1 ≤ 720 := h
      unfold hdC hdS
      rw [if_pos (show s.length < 720 by omega)]
  | cons p rest ih =>
    intro W s hr hp hu
    rw [List.nodup_cons] at hr
    have pp := hp p (List.mem_cons_self ..)
    have step : ∀ t, t ∈ ts → hOf W (nI t) np = -1 → (∀ q ∈ rest, q < np ∧ upK W p (nI t) q = -1) ∧ unW np (upK W p (nI t)) ts = rest.length := fun t ht hh => by
      have u := hOf_up h6 pp.1 pp.2 hh (h8 t ht)
      have e := unW_one (W := W) (W' := upK W p (nI t)) u.1 hh ts hn ht (fun x hx hne => u.2 x (h8 x hx) hne)
      refine ⟨fun q hq => ⟨(hp q (List.mem_cons_of_mem _ hq)).1, ?_⟩, ?_⟩
      · unfold upK
        rw [if_neg (fun z => hr.1 (by rw [← z]; exact hq))]
        exact (hp q (List.mem_cons_of_mem _ hq)).2
      · rw [hu, List.length_cons] at e; omega
    have lp : ∀ (ts2 : List Nat) (s : List (Nat → Int32)), (∀ t ∈ ts2, t ∈ ts) → (ts2.foldl (fun s t => if hOf W (nI t) np ≠ -1 ∨ okp p t = false then s else twF np ts okp (hdS K fl nd np nt no) rest (upK W p (nI t)) s) s).length ≤ s.length + unW np W ts2 * fc rest.length ∧ (s.length + unW np W ts2 * fc rest.length ≤ 720 → ts2.foldl (fun s t => if hOf W (nI t) np ≠ -1 ∨ okp p t = false then s else twF np ts okp (hdC K fl nd np nt no) rest (upK W p (nI t)) s) s = ts2.foldl (fun s t => if hOf W (nI t) np ≠ -1 ∨ okp p t = false then s else twF np ts okp (hdS K fl nd np nt no) rest (upK W p (nI t)) s) s) := by
      intro ts2
      induction ts2 with
      | nil => intro s _; exact ⟨Nat.le_add_right _ _, fun _ => rfl⟩
      | cons t ts2 iht =>
        intro s hm
        rw [List.foldl_cons, List.foldl_cons, unW]
        have hm2 : ∀ t ∈ ts2, t ∈ ts := fun x hx => hm x (List.mem_cons_of_mem _ hx)
        by_cases c : hOf W (nI t) np ≠ -1 ∨ okp p t = false
        · rw [if_pos c, if_pos c]
          have q := iht s hm2
          by_cases z : hOf W (nI t) np = -1
          · rw [if_pos z, Nat.add_mul]
            exact ⟨by omega, fun h => q.2 (by omega)⟩
          · rw [if_neg z]; exact q
        · rw [if_neg c, if_neg c]
          have z : hOf W (nI t) np = -1 := Classical.byContradiction fun y => c (Or.inl y)
          rw [if_pos z, Nat.add_mul, Nat.one_mul]
          obtain ⟨s1, s2⟩ := step t (hm t (List.mem_cons_self ..)) z
          have q1 := ih (upK W p (nI t)) s hr.2 s1 s2
          have q2 := iht (twF np ts okp (hdS K fl nd np nt no) rest (upK W p (nI t)) s) hm2
          refine ⟨by omega, fun h => ?_⟩
          rw [q1.2 (by omega)]
          exact q2.2 (by omega)
    have q := lp ts s (fun t ht => ht)
    rw [hu] at q
    exact q
end Hb
theorem tkL_nodup {K : Nat → Int32} {np : Nat} : ∀ m t, (tkL K np m t).Nodup
  | 0, t => List.nodup_nil
  | m + 1, t => by
    rw [tkL]
    split
    · exact tkL_nodup m (t + 1)
    · rw [List.nodup_cons]
      exact ⟨fun h => by have := tkL_mem m (t + 1) t h; omega, tkL_nodup m (t + 1)⟩
theorem hlR_nodup {K : Nat → Int32} : ∀ m p, (hlR K m p).Nodup
  | 0, p => List.nodup_nil
  | m + 1, p => by
    rw [hlR]
    split
    · exact hlR_nodup m (p + 1)
    · rw [List.nodup_cons]
      exact ⟨fun h => by have := hlR_mem m (p + 1) p h; omega, hlR_nodup m (p + 1)⟩
theorem unW_W0 {np : Nat} : ∀ ts : List Nat, (∀ t ∈ ts, t < 8) → unW np W0 ts = ts.length
  | [], _ => rfl
  | t :: ts, h => by
    rw [unW, hOf_W0 (h t (List.mem_cons_self ..)), if_pos rfl, unW_W0 ts (fun x hx => h x (List.mem_cons_of_mem _ hx)), List.length_cons]
/-- the ways that were had -/
def hdR (K : Nat → Int32) (fl : Option (List CLE)) (nd np nt no : Nat) : List (Nat → Int32) := twF np (tkL K np nt 0) (okC9 K fl true) (hdS K fl nd np nt no) (hlR K np 0) W0 []
theorem hdR_cap {K : Nat → Int32} {fl : Option (List CLE)} {nd np nt no : Nat} (V : VH K np nt) : twF np (tkL K np nt 0) (okC9 K fl true) (hdC K fl nd np nt no) (hlR K np 0) W0 [] = hdR K fl nd np nt no ∧ (hdR K fl nd np nt no).length ≤ 720 := by
  have v1 := V.1
  have v2 := V.2.1
  have h8 : ∀ t ∈ tkL K np nt 0, t < 8 := fun t ht => by have := tkL_mem nt 0 t ht; omega
  have hl6 : (hlR K np 0).length ≤ 6 := by rw [hlR_len]; exact Nat.le_trans (cntH_le _ _) v1
  have q := tw_cap (K := K) (fl := fl) (nd := nd) (nt := nt) (no := no) (okp := okC9 K fl true) v1 (tkL_nodup nt 0) h8 (hlR K np 0) W0 [] (hlR_nodup np 0) (fun p hp => ⟨by have := hlR_mem np 0 p hp; omega, rfl⟩) ((unW_W0 _ h8).trans V.lens)
  have f := fc_le _ hl6
  have q1 := q.1
  rw [List.length_nil, Nat.zero_add] at q1
  exact ⟨q.2 (by rw [List.length_nil, Nat.zero_add]; exact f), Nat.le_trans q1 f⟩
