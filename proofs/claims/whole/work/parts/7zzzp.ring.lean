/-- going on n times -/
def itF (f : Nat → Nat) : Nat → Nat → Nat
  | 0, a => a
  | n + 1, a => itF f n (f a)
theorem itF_s (f : Nat → Nat) : ∀ n a, itF f (n + 1) a = f (itF f n a)
  | 0, a => rfl
  | n + 1, a => itF_s f n (f a)
theorem itF_add (f : Nat → Nat) (m : Nat) : ∀ n a, itF f (n + m) a = itF f m (itF f n a)
  | 0, a => by rw [Nat.zero_add]; rfl
  | n + 1, a => by rw [show n + 1 + m = (n + m) + 1 by omega]; exact itF_add f m n (f a)
theorem onL_iff {f : Nat → Nat} {p : Nat} : ∀ k a, onL f p k a = true ↔ ∃ i, i ≤ k ∧ itF f i a = p
  | 0, a => by
    rw [onL, decide_eq_true_eq]
    exact ⟨fun z => ⟨0, Nat.le_refl _, z⟩, fun ⟨i, hi, z⟩ => by
      have : i = 0 := by omega
      subst this; exact z⟩
  | k + 1, a => by
    rw [onL]
    by_cases c : a = p
    · rw [if_pos c]; exact ⟨fun _ => ⟨0, by omega, c⟩, fun _ => rfl⟩
    · rw [if_neg c, onL_iff k (f a)]
      exact ⟨fun ⟨i, hi, z⟩ => ⟨i + 1, by omega, z⟩, fun ⟨i, hi, z⟩ => by
        match i, hi, z with
        | 0, _, z => exact absurd z c
        | i + 1, hi, z => exact ⟨i, by omega, z⟩⟩
theorem onR_iff {f : Nat → Nat} {p : Nat} : onR f p = true ↔ ∃ n, 1 ≤ n ∧ n ≤ 7 ∧ itF f n p = p := by
  unfold onR
  rw [onL_iff]
  exact ⟨fun ⟨i, hi, z⟩ => ⟨i + 1, by omega, by omega, z⟩, fun ⟨n, h1, h2, z⟩ => by
    match n, h1, h2, z with
    | n + 1, _, h2, z => exact ⟨n, by omega, z⟩⟩
/-- a first return -/
theorem onR_per {f : Nat → Nat} {p : Nat} (h : onR f p = true) : ∃ n, 1 ≤ n ∧ n ≤ 7 ∧ itF f n p = p ∧ ∀ i, 1 ≤ i → i < n → itF f i p ≠ p := by
  obtain ⟨n, h1, h2, z⟩ := onR_iff.1 h
  have go : ∀ m n, n ≤ m → 1 ≤ n → itF f n p = p → ∃ k, 1 ≤ k ∧ k ≤ n ∧ itF f k p = p ∧ ∀ i, 1 ≤ i → i < k → itF f i p ≠ p := by
    intro m
    induction m with
    | zero => intro n a b; omega
    | succ m ih =>
      intro n hn h1 z
      by_cases c : ∃ i, 1 ≤ i ∧ i < n ∧ itF f i p = p
      · obtain ⟨i, i1, i2, e⟩ := c
        obtain ⟨k, k1, k2, k3, k4⟩ := ih i (by omega) i1 e
        exact ⟨k, k1, by omega, k3, k4⟩
      · exact ⟨n, h1, Nat.le_refl _, z, fun i i1 i2 e => c ⟨i, i1, i2, e⟩⟩
  obtain ⟨k, k1, k2, k3, k4⟩ := go n n (Nat.le_refl _) h1 z
  exact ⟨k, k1, by omega, k3, k4⟩
theorem itF_mul {f : Nat → Nat} {p n : Nat} (h : itF f n p = p) : ∀ k, itF f (n * k) p = p
  | 0 => rfl
  | k + 1 => by rw [Nat.mul_succ, itF_add, itF_mul h k, h]
theorem itF_mod {f : Nat → Nat} {p n : Nat} (h : itF f n p = p) (i : Nat) : itF f i p = itF f (i % n) p := by
  have e : i = n * (i / n) + i % n := (Nat.div_add_mod i n).symm
  calc itF f i p = itF f (n * (i / n) + i % n) p := by rw [← e]
    _ = itF f (i % n) p := by rw [itF_add, itF_mul h]
/-- who is met from one on a ring is on the ring, and meets that one -/
theorem onR_it {f : Nat → Nat} {p : Nat} (h : onR f p = true) (i : Nat) : onR f (itF f i p) = true ∧ ∃ j, itF f j (itF f i p) = p := by
  obtain ⟨n, h1, h2, z, -⟩ := onR_per h
  constructor
  · exact onR_iff.2 ⟨n, h1, h2, by rw [← itF_add, Nat.add_comm, itF_add, z]⟩
  · rw [itF_mod z i]
    have := Nat.mod_lt i (show n > 0 by omega)
    exact ⟨n - i % n, by rw [← itF_add, show i % n + (n - i % n) = n by omega]; exact z⟩
theorem onR_back {f : Nat → Nat} {p q i : Nat} (h : onR f q = true) (e : itF f i q = p) : onR f p = true ∧ ∃ j, itF f j p = q := by
  have := onR_it h i
  rw [e] at this
  exact this
theorem loL_le {f : Nat → Nat} {p : Nat} : ∀ k a l, loL f p k a l ≤ l
  | 0, a, l => Nat.le_refl _
  | k + 1, a, l => by
    rw [loL]
    split
    · exact Nat.le_refl _
    · have := loL_le (f := f) (p := p) k (f a) (min l (f a)); omega
theorem loL_ge {f : Nat → Nat} {p m : Nat} : ∀ k a l, m ≤ l → (∀ i, m ≤ itF f i a) → m ≤ loL f p k a l
  | 0, a, l, h, _ => h
  | k + 1, a, l, h, hi => by
    rw [loL]
    split
    · exact h
    · have h1 : m ≤ f a := hi 1
      exact loL_ge k (f a) (min l (f a)) (by omega) (fun i => hi (i + 1))
theorem loL_path {f : Nat → Nat} {p : Nat} : ∀ k a l, l ≤ a → onL f p k a = true → ∀ i, (∀ j, j < i → itF f j a ≠ p) → loL f p k a l ≤ itF f i a
  | 0, a, l, h, ho, i, hi => by
    rw [onL, decide_eq_true_eq] at ho
    match i, hi with
    | 0, _ => exact h
    | i + 1, hi => exact absurd ho (hi 0 (by omega))
  | k + 1, a, l, h, ho, i, hi => by
    rw [loL]
    rw [onL] at ho
    by_cases c : a = p
    · rw [if_pos c]
      match i, hi with
      | 0, _ => exact h
      | i + 1, hi => exact absurd c (hi 0 (by omega))
    · rw [if_neg c] at ho ⊢
      match i, hi with
      | 0, _ =>
        have := loL_le (f := f) (p := p) k (f a) (min l (f a))
        show _ ≤ a
        omega
      | i + 1, hi => exact loL_path k (f a) (min l (f a)) (by omega) ho i (fun j hj => hi (j + 1) (by omega))
/-- one is the lowest of one's ring just where none met is lower -/
theorem loR_iff {f : Nat → Nat} {p : Nat} (h : onR f p = true) : loR f p = p ↔ ∀ i, p ≤ itF f i p := by
  constructor
  · intro e i
    obtain ⟨n, h1, h2, z, mn⟩ := onR_per h
    rw [itF_mod z i]
    have lt := Nat.mod_lt i (show n > 0 by omega)
    match hx : i % n, lt with
    | 0, _ => exact Nat.le_refl _
    | k + 1, lt =>
      have := loL_path (f := f) (p := p) 6 (f p) (min p (f p)) (by omega) h k (fun j hj => mn (j + 1) (by omega) (by omega))
      rw [show loL f p 6 (f p) (min p (f p)) = p from e] at this
      exact this
  · intro hi
    have h1 : p ≤ f p := hi 1
    have a1 := loL_ge (f := f) (p := p) (m := p) 6 (f p) (min p (f p)) (by omega) (fun i => hi (i + 1))
    have a2 := loL_le (f := f) (p := p) 6 (f p) (min p (f p))
    unfold loR
    omega
theorem pigeon : ∀ (n : Nat) (g : Nat → Nat), (∀ i, i ≤ n → g i < n) → ∃ i j, i < j ∧ j ≤ n ∧ g i = g j
  | 0, g, h => absurd (h 0 (Nat.le_refl _)) (Nat.not_lt_zero _)
  | n + 1, g, h => by
    by_cases c : ∃ i, i ≤ n ∧ g i = g (n + 1)
    · obtain ⟨i, hi, e⟩ := c
      exact ⟨i, n + 1, by omega, Nat.le_refl _, e⟩
    · have hv := h (n + 1) (Nat.le_refl _)
      obtain ⟨i, j, ij, jn, e⟩ := pigeon n (fun i => if g i = n then g (n + 1) else g i) (fun i hi => by
        have a := h i (by omega)
        have b : g i ≠ g (n + 1) := fun z => c ⟨i, hi, z⟩
        show (if g i = n then g (n + 1) else g i) < n
        split <;> omega)
      have bi : g i ≠ g (n + 1) := fun z => c ⟨i, by omega, z⟩
      have bj : g j ≠ g (n + 1) := fun z => c ⟨j, by omega, z⟩
      refine ⟨i, j, ij, by omega, ?_⟩
      have e : (if g i = n then g (n + 1) else g i) = (if g j = n then g (n + 1) else g j) := e
      split at e <;> split at e <;> omega
theorem itF_cl {f : Nat → Nat} {lf : Nat → Bool} (hcl : ∀ q, lf q = true → lf (f q) = true) : ∀ i a, lf a = true → lf (itF f i a) = true
  | 0, _, h => h
  | i + 1, a, h => itF_cl hcl i (f a) (hcl a h)
/-- where any is left there is a ring -/
theorem ring_is {f : Nat → Nat} {lf : Nat → Bool} (hcl : ∀ q, lf q = true → lf (f q) = true) (h6 : ∀ q, lf q = true → q < 6) {a : Nat} (ha : lf a = true) : ∃ p, lf p = true ∧ onR f p = true := by
  obtain ⟨i, j, ij, j6, e⟩ := pigeon 6 (fun i => itF f i a) (fun i _ => h6 _ (itF_cl hcl i a ha))
  have e : itF f i a = itF f j a := e
  exact ⟨itF f i a, itF_cl hcl i a ha, onR_iff.2 ⟨j - i, by omega, by omega, by rw [← itF_add, show i + (j - i) = j by omega]; exact e.symm⟩⟩
/-- how many are left of the first n -/
def lfN (lf : Nat → Bool) : Nat → Nat
  | 0 => 0
  | n + 1 => lfN lf n + if lf n = true then 1 else 0
theorem lfN_le (lf : Nat → Bool) : ∀ n, lfN lf n ≤ n
  | 0 => Nat.le_refl _
  | n + 1 => by have := lfN_le lf n; rw [lfN]; split <;> omega
theorem lfN_0 {lf : Nat → Bool} : ∀ n, lfN lf n = 0 → ∀ q, q < n → lf q = false
  | 0, _, q, hq => absurd hq (Nat.not_lt_zero _)
  | n + 1, h, q, hq => by
    rw [lfN] at h
    cases c : lf n
    · rw [c] at h
      by_cases e : q = n
      · rw [e]; exact c
      · exact lfN_0 n (by omega) q (by omega)
    · rw [c, if_pos rfl] at h; omega
theorem lfN_mono {lf lf' : Nat → Bool} (h : ∀ q, lf' q = true → lf q = true) : ∀ n, lfN lf' n ≤ lfN lf n
  | 0 => Nat.le_refl _
  | n + 1 => by
    have := lfN_mono h n
    rw [lfN, lfN]
    by_cases c : lf' n = true
    · rw [if_pos c, if_pos (h n c)]; omega
    · rw [if_neg c]; omega
theorem lfN_lt {lf lf' : Nat → Bool} (h : ∀ q, lf' q = true → lf q = true) {p : Nat} (h1 : lf p = true) (h2 : lf' p = false) : ∀ n, p < n → lfN lf' n < lfN lf n
  | 0, hp => absurd hp (Nat.not_lt_zero _)
  | n + 1, hp => by
    rw [lfN, lfN]
    by_cases e : p = n
    · subst e
      have := lfN_mono h p
      rw [if_pos h1, h2, if_neg (by decide)]; omega
    · have := lfN_lt h h1 h2 n (by omega)
      by_cases c : lf' n = true
      · rw [if_pos c, if_pos (h n c)]; omega
      · rw [if_neg c]; omega
theorem rgN_0 (f : Nat → Nat) {lf : Nat → Bool} (h : ∀ q, lf q = false) : ∀ n, rgN f lf n = 0
  | 0 => rfl
  | n + 1 => by rw [rgN, rgN_0 f h n, if_neg (fun z => by rw [h n] at z; cases z.1)]
/-- with none left, a round changes nothing -/
theorem trT_0 {K : Nat → Int32} {fl : Option (List CLE)} {np nt : Nat} : ∀ (m : Nat) (s : TRS), (∀ q, s.1 q = false) → (trT K fl np nt m s).2 = s.2
  | 0, s, _ => rfl
  | m + 1, s, h => by
    rw [trT, trT_0 m (trN K fl np nt s) (fun q => by show (s.1 q && _) = false; rw [h q]; rfl)]
    refine Prod.ext (funext fun q => ?_) ?_
    · show (if s.1 q = true ∧ _ then _ else _) = _
      rw [if_neg (fun z => by rw [h q] at z; cases z.1)]
    · show s.2.2 + rgN _ s.1 np = s.2.2
      rw [rgN_0 _ h]; rfl
/-- amid a round of the reference: rings with one below p are gone -/
def thP (lf : Nat → Bool) (f : Nat → Nat) (p : Nat) (T : Nat → Bool) : Prop := ∀ q, T q = true ↔ lf q = true ∧ ¬ (onR f q = true ∧ ∃ i, itF f i q < p)
def tgP (K gt : Nat → Int32) (lf : Nat → Bool) (f : Nat → Nat) (T : Nat → Bool) : Nat → Int32 := fun q => if lf q = true ∧ T q = false then K (f q) else gt q
theorem thP_0 (lf : Nat → Bool) (f : Nat → Nat) : thP lf f 0 lf := fun q => ⟨fun h => ⟨h, fun ⟨_, i, z⟩ => absurd z (Nat.not_lt_zero _)⟩, fun h => h.1⟩
theorem thP_end {lf : Nat → Bool} {f : Nat → Nat} {np : Nat} {T : Nat → Bool} (hln : ∀ q, lf q = true → q < np) (H : thP lf f np T) : T = fun q => lf q && !onR f q := funext fun q => by
  have h := H q
  cases cl : lf q
  · rw [cl] at h
    cases ct : T q
    · rfl
    · exact absurd (h.1 ct).1 (by decide)
  · cases co : onR f q
    · exact h.2 ⟨cl, fun z => by rw [co] at z; cases z.1⟩
    · show T q = false
      cases ct : T q
      · rfl
      · exact absurd ⟨co, 0, hln q cl⟩ (h.1 ct).2
section Th
variable {lf : Nat → Bool} {f : Nat → Nat} {p : Nat} {T : Nat → Bool}
/-- one whose ring is gone, or who is on none, leaves all as it is -/
theorem thP_no (hcl : ∀ q, lf q = true → lf (f q) = true) (H : thP lf f p T) (c : T p = false ∨ onR f p = false) : thP lf f (p + 1) T ∧ ¬ (lf p = true ∧ onR f p = true ∧ loR f p = p) := by
  constructor
  · intro q
    rw [H q]
    constructor
    · intro ⟨h1, h2⟩
      refine ⟨h1, fun ⟨ho, i, hi⟩ => ?_⟩
      by_cases e : itF f i q = p
      · obtain ⟨op, j, ej⟩ := onR_back ho e
        rcases c with c | c
        · have lp : lf p = true := by rw [← e]; exact itF_cl hcl i q h1
          have np : ¬ (¬ (onR f p = true ∧ ∃ i, itF f i p < p)) := fun z => by rw [(H p).2 ⟨lp, z⟩] at c; cases c
          exact np (fun ⟨_, k, hk⟩ => h2 ⟨ho, i + k, by rw [itF_add, e]; exact hk⟩)
        · rw [op] at c; cases c
      · exact h2 ⟨ho, i, by omega⟩
    · intro ⟨h1, h2⟩
      exact ⟨h1, fun ⟨ho, i, hi⟩ => h2 ⟨ho, i, by omega⟩⟩
  · intro ⟨lp, op, lo⟩
    rcases c with c | c
    · have := (H p).2 ⟨lp, fun ⟨_, i, hi⟩ => by have := (loR_iff op).1 lo i; omega⟩
      rw [this] at c; cases c
    · rw [op] at c; cases c
theorem thP_orb (hcl : ∀ q, lf q = true → lf (f q) = true) (H : thP lf f p T) (tp : T p = true) (op : onR f p = true) (i : Nat) : T (itF f i p) = true := by
  have h := (H p).1 tp
  refine (H _).2 ⟨itF_cl hcl i p h.1, fun ⟨_, k, hk⟩ => h.2 ⟨op, i + k, by rw [itF_add]; exact hk⟩⟩
theorem thP_yes (hcl : ∀ q, lf q = true → lf (f q) = true) (H : thP lf f p T) (tp : T p = true) (op : onR f p = true) {T' : Nat → Bool} (hT : ∀ q, T' q = true ↔ T q = true ∧ ¬ ∃ i, itF f i p = q) : thP lf f (p + 1) T' ∧ (lf p = true ∧ onR f p = true ∧ loR f p = p) := by
  have h := (H p).1 tp
  constructor
  · intro q
    rw [hT q, H q]
    constructor
    · intro ⟨⟨h1, h2⟩, h3⟩
      refine ⟨h1, fun ⟨ho, i, hi⟩ => ?_⟩
      by_cases e : itF f i q = p
      · exact h3 (onR_back ho e).2
      · exact h2 ⟨ho, i, by omega⟩
    · intro ⟨h1, h2⟩
      refine ⟨⟨h1, fun ⟨ho, i, hi⟩ => h2 ⟨ho, i, by omega⟩⟩, fun ⟨i, e⟩ => ?_⟩
      obtain ⟨oq, j, ej⟩ := onR_back op e
      exact h2 ⟨oq, j, by omega⟩
  · exact ⟨h.1, op, (loR_iff op).2 (fun i => Nat.le_of_not_lt (fun z => h.2 ⟨op, i, z⟩))⟩
end Th
