def bitB (x k : Int32) : Bool := decide (x >>> (k &&& 31) &&& nI 1 = nI 1)
/-- the desk that is free earliest, of the first n -/
def dskF (K : Nat → Int32) (st : Nat → Bool) (f : Nat → Nat) (kd : Int32) : Nat → Option Nat
  | 0 => none
  | n + 1 => if (st n && bitB (K (83 + n)) kd) = true then (match dskF K st f kd n with
    | none => some n
    | some e => if f n < f e then some n else some e) else dskF K st f kd n
theorem dskF_lt {K : Nat → Int32} {st : Nat → Bool} {f : Nat → Nat} {kd : Int32} : ∀ n e, dskF K st f kd n = some e → e < n
  | 0, e, h => nomatch h
  | n + 1, e, h => by
    rw [dskF] at h
    split at h
    · generalize hx : dskF K st f kd n = x at h
      match x, hx, h with
      | none, hx, h => cases h; exact Nat.lt_succ_self _
      | some u, hx, h =>
        have := dskF_lt n u hx
        dsimp only at h
        split at h
        · cases h; exact Nat.lt_succ_self _
        · cases h; omega
    · have := dskF_lt n e h; omega
/-- a day: when each desk is free; when each person is begun, done, where -/
abbrev DS : Type := (Nat → Nat) × (Nat → Int32) × (Nat → Int32) × (Nat → Int32)
def upN (f : Nat → Nat) (k x : Nat) : Nat → Nat := fun j => if j = k then x else f j
def stp (K : Nat → Int32) (fl : Option (List CLE)) (nd : Nat) (st : Nat → Bool) (s : DS) (p t : Nat) : DS := match dskF K st s.1 (K (75 + t)) nd with
  | none => s
  | some e => (upN s.1 e (s.1 e + oTk K fl p t e), upK s.2.1 p (nI (s.1 e)), upK s.2.2.1 p (nI (s.1 e + oTk K fl p t e)), upK s.2.2.2 p (nI e))
def fT (K : Nat → Int32) (x : Nat) : Nat → Option Nat
  | 0 => none
  | n + 1 => if K (67 + n) = nI x then some n else fT K x n
def ds0 : DS := (fun _ => 0, fun _ => -1, fun _ => -1, fun _ => -1)
/-- the day of those whose numbers are below x -/
def dayF (K : Nat → Int32) (fl : Option (List CLE)) (nd np nt : Nat) (st : Nat → Bool) (hs : Nat → Int32) : Nat → DS
  | 0 => ds0
  | x + 1 => match fT K x nt with
    | none => dayF K fl nd np nt st hs x
    | some t => if hOf hs (nI t) np = -1 then dayF K fl nd np nt st hs x else stp K fl nd st (dayF K fl nd np nt st hs x) (ix (hOf hs (nI t) np)) t
/-- numbers are in order -/
def VN (K : Nat → Int32) (nt : Nat) : Prop := nt ≤ 8 ∧ (∀ t, t < nt → ∃ x, 1 ≤ x ∧ x ≤ 99 ∧ K (67 + t) = nI x) ∧ (∀ t u, t < nt → u < nt → K (67 + t) = K (67 + u) → t = u)
def nmb (K : Nat → Int32) (t : Nat) : Nat := (K (67 + t)).toInt.toNat
theorem VN.n {K : Nat → Int32} {nt : Nat} (V : VN K nt) {t : Nat} (ht : t < nt) : K (67 + t) = nI (nmb K t) ∧ 1 ≤ nmb K t ∧ nmb K t ≤ 99 := by
  obtain ⟨x, h1, h2, e⟩ := V.2.1 t ht
  have : nmb K t = x := by unfold nmb; rw [e, nI_toInt (by omega)]; rfl
  rw [this]; exact ⟨e, h1, h2⟩
theorem fT_none {K : Nat → Int32} {x : Nat} : ∀ n, (∀ t, t < n → K (67 + t) ≠ nI x) → fT K x n = none
  | 0, _ => rfl
  | n + 1, h => by rw [fT, if_neg (h n (Nat.lt_succ_self n))]; exact fT_none n (fun t ht => h t (Nat.lt_succ_of_lt ht))
theorem fT_some {K : Nat → Int32} {x t : Nat} (e : K (67 + t) = nI x) : ∀ n, t < n → (∀ u, u < n → K (67 + u) = nI x → u = t) → fT K x n = some t
  | 0, h, _ => absurd h (Nat.not_lt_zero _)
  | n + 1, ht, h => by
    rw [fT]
    by_cases z : K (67 + n) = nI x
    · rw [if_pos z, h n (Nat.lt_succ_self n) z]
    · rw [if_neg z]
      exact fT_some e n (by
        have : t ≠ n := fun y => z (by rw [← y]; exact e)
        omega) (fun u hu => h u (Nat.lt_succ_of_lt hu))
/-- how many numbers are below x -/
def rk (K : Nat → Int32) (x : Nat) : Nat → Nat
  | 0 => 0
  | n + 1 => rk K x n + (if nmb K n < x then 1 else 0)
theorem rk_le (K : Nat → Int32) (x : Nat) : ∀ n, rk K x n ≤ n
  | 0 => Nat.le_refl _
  | n + 1 => by rw [rk]; have := rk_le K x n; split <;> omega
theorem rk_mono (K : Nat → Int32) {x y : Nat} (h : x ≤ y) : ∀ n, rk K x n ≤ rk K y n
  | 0 => Nat.le_refl _
  | n + 1 => by
    rw [rk, rk]; have := rk_mono K h n
    by_cases z : nmb K n < x
    · rw [if_pos z, if_pos (by omega)]; omega
    · rw [if_neg z]; split <;> omega
theorem rk_lt (K : Nat → Int32) {x y t : Nat} (h : x ≤ nmb K t) (h2 : nmb K t < y) : ∀ n, t < n → rk K x n < rk K y n
  | 0, ht => absurd ht (Nat.not_lt_zero _)
  | n + 1, ht => by
    rw [rk, rk]
    by_cases z : t = n
    · subst z
      have := rk_mono K (show x ≤ y by omega) t
      rw [if_neg (by omega), if_pos h2]; omega
    · have := rk_lt K h h2 n (by omega)
      by_cases w : nmb K n < x
      · rw [if_pos w, if_pos (by omega)]; omega
      · rw [if_neg w]; split <;> omega
theorem rk_same (K : Nat → Int32) {x y : Nat} (h : x ≤ y) : ∀ n, (∀ t, t < n → ¬ (x ≤ nmb K t ∧ nmb K t < y)) → rk K x n = rk K y n
  | 0, _ => rfl
  | n + 1, hn => by
    rw [rk, rk, rk_same K h n (fun t ht => hn t (Nat.lt_succ_of_lt ht))]
    have := hn n (Nat.lt_succ_self n)
    by_cases z : nmb K n < x
    · rw [if_pos z, if_pos (by omega)]
    · rw [if_neg z, if_neg (by omega)]
theorem rk_all (K : Nat → Int32) {x : Nat} : ∀ n, (∀ t, t < n → nmb K t < x) → rk K x n = n
  | 0, _ => rfl
  | n + 1, h => by rw [rk, rk_all K n (fun t ht => h t (Nat.lt_succ_of_lt ht)), if_pos (h n (Nat.lt_succ_self n))]
theorem rk_full (K : Nat → Int32) {x : Nat} : ∀ n, rk K x n = n → ∀ t, t < n → nmb K t < x
  | 0, _ => fun t ht => absurd ht (Nat.not_lt_zero _)
  | n + 1, h => fun t ht => by
    rw [rk] at h
    have := rk_le K x n
    by_cases z : nmb K n < x
    · rw [if_pos z] at h
      by_cases y : t = n
      · rw [y]; exact z
      · exact rk_full K n (by omega) t (by omega)
    · rw [if_neg z] at h; omega
/-- the next number from x on -/
theorem rk_next (K : Nat → Int32) {nt : Nat} (V : VN K nt) : ∀ (m x : Nat), 100 ≤ x + m → rk K x nt < nt → ∃ t, t < nt ∧ x ≤ nmb K t ∧ ∀ u, u < nt → ¬ (x ≤ nmb K u ∧ nmb K u < nmb K t) := by
  intro m
  induction m with
  | zero =>
    intro x hx hr
    exact absurd (rk_all K (x := x) nt (fun t ht => by have := (V.n ht).2.2; omega)) (by omega)
  | succ m ih =>
    intro x hx hr
    by_cases z : ∃ t, t < nt ∧ nmb K t = x
    · obtain ⟨t, ht, e⟩ := z
      exact ⟨t, ht, by omega, fun u hu => by omega⟩
    · have e : rk K x nt = rk K (x + 1) nt := rk_same K (by omega) nt (fun t ht q => z ⟨t, ht, by omega⟩)
      obtain ⟨t, ht, h1, h2⟩ := ih (x + 1) (by omega) (by omega)
      exact ⟨t, ht, by omega, fun u hu q => h2 u hu ⟨by have : nmb K u ≠ x := fun y => z ⟨u, hu, y⟩; omega, q.2⟩⟩
section Df
variable {K : Nat → Int32} {fl : Option (List CLE)} {nd np nt : Nat} {st : Nat → Bool} {hs : Nat → Int32}
theorem dayF_skip {x : Nat} (h : ∀ t, t < nt → K (67 + t) = nI x → hOf hs (nI t) np = -1) : dayF K fl nd np nt st hs (x + 1) = dayF K fl nd np nt st hs x := by
  rw [dayF]
  match hq : fT K x nt with
  | none => rfl
  | some t =>
    have key : ∀ n, fT K x n = some t → t < n ∧ K (67 + t) = nI x := by
      intro n
      induction n with
      | zero => intro h; cases h
      | succ n ih =>
        intro h
        rw [fT] at h
        split at h
        · rename_i e; cases h; exact ⟨Nat.lt_succ_self _, e⟩
        · have := ih h; exact ⟨by omega, this.2⟩
    obtain ⟨h1, h2⟩ := key nt hq
    dsimp only
    rw [if_pos (h t h1 h2)]
theorem dayF_skips {x : Nat} : ∀ m, (∀ t, t < nt → ∀ y, x ≤ y → y < x + m → K (67 + t) = nI y → hOf hs (nI t) np = -1) → dayF K fl nd np nt st hs (x + m) = dayF K fl nd np nt st hs x
  | 0, _ => rfl
  | m + 1, h => by
    rw [show x + (m + 1) = x + m + 1 by omega, dayF_skip (fun t ht e => h t ht (x + m) (by omega) (by omega) e)]
    exact dayF_skips m (fun t ht y h1 h2 e => h t ht y h1 (by omega) e)
theorem dayF_call (V : VN K nt) {t : Nat} (ht : t < nt) (hh : hOf hs (nI t) np ≠ -1) : dayF K fl nd np nt st hs (nmb K t + 1) = stp K fl nd st (dayF K fl nd np nt st hs (nmb K t)) (ix (hOf hs (nI t) np)) t := by
  rw [dayF, fT_some (V.n ht).1 nt ht (fun u hu e => V.2.2 u t hu ht (by rw [e, (V.n ht).1]))]
  dsimp only
  rw [if_neg hh]
theorem dayF_free : ∀ x e, (dayF K fl nd np nt st hs x).1 e ≤ 60 * x
  | 0, e => Nat.zero_le _
  | x + 1, e => by
    have ih := dayF_free x
    rw [dayF]
    match fT K x nt with
    | none => have := ih e; dsimp only; omega
    | some t =>
      dsimp only
      split
      · have := ih e; omega
      · unfold stp
        match dskF K st (dayF K fl nd np nt st hs x).1 (K (75 + t)) nd with
        | none => have := ih e; dsimp only; omega
        | some e2 =>
          dsimp only
          unfold upN
          have a1 := ih e
          have a2 := ih e2
          have a3 : ∀ p, oTk K fl p t e2 ≤ 60 := fun p => tlO_le (by decide) (by decide) (by have := Nat.div_le_self 20 (spE K e2); omega)
          have := a3 (ix (hOf hs (nI t) np))
          split <;> omega
end Df
