/-- what is held, on top of all else -/
def mixK (W K : Nat → Int32) : Nat → Int32 := fun j => if j < 6 then W j else K j
theorem mixK_lo {W K : Nat → Int32} {j : Nat} (h : j < 6) : mixK W K j = W j := if_pos h
theorem mixK_hi {W K : Nat → Int32} {j : Nat} (h : 6 ≤ j) : mixK W K j = K j := if_neg (by omega)
theorem dskF_congr {K K' : Nat → Int32} (e : ∀ j, 6 ≤ j → K j = K' j) (st : Nat → Bool) (f : Nat → Nat) (kd : Int32) : ∀ n, dskF K st f kd n = dskF K' st f kd n
  | 0 => rfl
  | n + 1 => by rw [dskF, dskF, e _ (by omega), dskF_congr e st f kd n]
theorem fT_congr {K K' : Nat → Int32} (e : ∀ j, 6 ≤ j → K j = K' j) (x : Nat) : ∀ n, fT K x n = fT K' x n
  | 0 => rfl
  | n + 1 => by rw [fT, fT, e _ (by omega), fT_congr e x n]
theorem stp_congr {K K' : Nat → Int32} (e : ∀ j, 6 ≤ j → K j = K' j) (fl : Option (List CLE)) (nd : Nat) (st : Nat → Bool) (s : DS) (p t : Nat) : stp K fl nd st s p t = stp K' fl nd st s p t := by
  have a := (ask_congr e fl).1
  unfold stp
  rw [e _ (by omega), dskF_congr e]
  match dskF K' st s.1 (K' (75 + t)) nd with
  | none => rfl
  | some x => dsimp only; rw [a]
theorem dayF_congr {K K' : Nat → Int32} (e : ∀ j, 6 ≤ j → K j = K' j) (fl : Option (List CLE)) (nd np nt : Nat) (st : Nat → Bool) {hs hs' : Nat → Int32} (eh : ∀ p, p < np → hs p = hs' p) : ∀ n, dayF K fl nd np nt st hs n = dayF K' fl nd np nt st hs' n
  | 0 => rfl
  | n + 1 => by
    rw [dayF, dayF, fT_congr e, dayF_congr e fl nd np nt st eh n]
    match fT K' n nt with
    | none => rfl
    | some t =>
      dsimp only
      rw [hOf_congr (f := hs) (g := hs') np (fun q hq => by rw [eh q hq]), stp_congr e]
theorem wtA_congr {K K' : Nat → Int32} (e : ∀ j, 6 ≤ j → K j = K' j) (fl : Option (List CLE)) (s : DS) {hs hs' : Nat → Int32} : ∀ n, (∀ p, p < n → (hs p = -1 ↔ hs' p = -1)) → wtA K fl s hs n = wtA K' fl s hs' n
  | 0, _ => rfl
  | n + 1, eh => by
    have a := (ask_congr e fl).2.2.2
    rw [wtA, wtA, wtA_congr e fl s n (fun p hp => eh p (by omega)), show wtN K fl s n = wtN K' fl s n by unfold wtN; rw [a]]
    by_cases z : hs n = -1
    · rw [if_pos z, if_pos ((eh n (by omega)).mp z)]
    · rw [if_neg z, if_neg (fun y => z ((eh n (by omega)).mpr y))]
theorem fitN_congr {K K' : Nat → Int32} (e : ∀ j, 6 ≤ j → K j = K' j) (fl : Option (List CLE)) : ∀ n, (∀ p, p < n → K p = K' p) → fitN K fl n = fitN K' fl n
  | 0, _ => rfl
  | n + 1, eh => by
    have a := (ask_congr e fl).2.1
    rw [fitN, fitN, fitN_congr e fl n (fun p hp => eh p (by omega)), eh n (by omega), a]
/-- a leaf of about: how many are fit, what all waiting costs -/
def lfF (K : Nat → Int32) (fl : Option (List CLE)) (np : Nat) (W : Nat → Int32) : Nat := fitN (mixK W K) fl np
def lfA (K : Nat → Int32) (fl : Option (List CLE)) (nd np nt : Nat) (W : Nat → Int32) : Nat := wtA K fl (dayF K fl nd np nt (fun _ => true) W 100) W np
abbrev AB : Type := Option (Nat × Nat × (Nat → Int32))
def abS (K : Nat → Int32) (fl : Option (List CLE)) (nd np nt : Nat) (W : Nat → Int32) (s : AB) : AB := match s with
  | none => some (lfF K fl np W, lfA K fl nd np nt W, W)
  | some (f, a, B) => if lfF K fl np W < f then some (f, a, B) else if lfF K fl np W = f ∧ a ≤ lfA K fl nd np nt W then some (f, a, B) else some (lfF K fl np W, lfA K fl nd np nt W, W)
/-- those who hold, from p on -/
def hlR (K : Nat → Int32) : Nat → Nat → List Nat
  | 0, _ => []
  | m + 1, p => if K p = -1 then hlR K m (p + 1) else p :: hlR K m (p + 1)
/-- the tickets that are held, from t on -/
def tkL (K : Nat → Int32) (np : Nat) : Nat → Nat → List Nat
  | 0, _ => []
  | m + 1, t => if hOf K (nI t) np = -1 then tkL K np m (t + 1) else t :: tkL K np m (t + 1)
/-- all ways in their order -/
def twF {σ : Type} (np : Nat) (ts : List Nat) (okp : Nat → Nat → Bool) (f : (Nat → Int32) → σ → σ) : List Nat → (Nat → Int32) → σ → σ
  | [], W, s => f W s
  | p :: ps, W, s => ts.foldl (fun s t => if hOf W (nI t) np ≠ -1 ∨ okp p t = false then s else twF np ts okp f ps (upK W p (nI t)) s) s
theorem hlR_mem {K : Nat → Int32} : ∀ m p q, q ∈ hlR K m p → p ≤ q ∧ q < p + m ∧ K q ≠ -1
  | 0, p, q, h => by cases h
  | m + 1, p, q, h => by
    rw [hlR] at h
    by_cases e : K p = -1
    · rw [if_pos e] at h
      have := hlR_mem m (p + 1) q h
      exact ⟨by omega, by omega, this.2.2⟩
    · rw [if_neg e] at h
      rcases List.mem_cons.mp h with rfl | h
      · exact ⟨Nat.le_refl _, by omega, e⟩
      · have := hlR_mem m (p + 1) q h
        exact ⟨by omega, by omega, this.2.2⟩
theorem hlR_in {K : Nat → Int32} : ∀ m p q, p ≤ q → q < p + m → K q ≠ -1 → q ∈ hlR K m p
  | 0, p, q, h1, h2, _ => by omega
  | m + 1, p, q, h1, h2, h3 => by
    rw [hlR]
    by_cases e : K p = -1
    · rw [if_pos e]
      have : p ≠ q := fun z => h3 (by rw [← z]; exact e)
      exact hlR_in m (p + 1) q (by omega) (by omega) h3
    · rw [if_neg e]
      by_cases z : p = q
      · rw [z]; exact List.mem_cons_self ..
      · exact List.mem_cons_of_mem _ (hlR_in m (p + 1) q (by omega) (by omega) h3)
theorem tkL_mem {K : Nat → Int32} {np : Nat} : ∀ m t q, q ∈ tkL K np m t → t ≤ q ∧ q < t + m ∧ hOf K (nI q) np ≠ -1
  | 0, t, q, h => by cases h
  | m + 1, t, q, h => by
    rw [tkL] at h
    by_cases e : hOf K (nI t) np = -1
    · rw [if_pos e] at h
      have := tkL_mem m (t + 1) q h
      exact ⟨by omega, by omega, this.2.2⟩
    · rw [if_neg e] at h
      rcases List.mem_cons.mp h with rfl | h
      · exact ⟨Nat.le_refl _, by omega, e⟩
      · have := tkL_mem m (t + 1) q h
        exact ⟨by omega, by omega, this.2.2⟩
theorem hlR_len {K : Nat → Int32} : ∀ m p, (hlR K m p).length = cntH (fun q => K (p + q)) m
  | 0, p => rfl
  | m + 1, p => by
    have ih := hlR_len (K := K) m (p + 1)
    have sh : ∀ n, cntH (fun q => K (p + q)) (n + 1) = (if K p = -1 then 0 else 1) + cntH (fun q => K (p + 1 + q)) n := fun n => by
      induction n with
      | zero => show 0 + _ = _ + 0; rw [Nat.zero_add, Nat.add_zero]; rfl
      | succ n ihn =>
        rw [cntH, ihn, cntH, Nat.add_assoc, show p + (n + 1) = p + 1 + n by omega]
    rw [sh, hlR]
    by_cases e : K p = -1
    · rw [if_pos e, if_pos e, ih, Nat.zero_add]
    · rw [if_neg e, if_neg e, List.length_cons, ih, Nat.add_comm]
theorem tkL_len {K : Nat → Int32} {np : Nat} : ∀ m t, (tkL K np m t).length + cOf (fun x => hOf K (nI (t + x)) np) (-1) m = m
  | 0, t => rfl
  | m + 1, t => by
    have ih := tkL_len (K := K) (np := np) m (t + 1)
    have sh : ∀ n, cOf (fun x => hOf K (nI (t + x)) np) (-1) (n + 1) = (if hOf K (nI t) np = -1 then 1 else 0) + cOf (fun x => hOf K (nI (t + 1 + x)) np) (-1) n := fun n => by
      induction n with
      | zero => show (if hOf K (nI (t + 0)) np = -1 then 0 + 1 else 0) = _ + 0; rw [Nat.add_zero t]; rfl
      | succ n ihn =>
        rw [cOf, ihn, cOf, show t + (n + 1) = t + 1 + n by omega]
        split <;> omega
    rw [sh, tkL]
    by_cases e : hOf K (nI t) np = -1
    · rw [if_pos e, if_pos e]; omega
    · rw [if_neg e, if_neg e, List.length_cons]; omega
/-- as many hold as are held -/
theorem VH.lens {K : Nat → Int32} {np nt : Nat} (V : VH K np nt) : (tkL K np nt 0).length = (hlR K np 0).length := by
  have a := tkL_len (K := K) (np := np) nt 0
  have b := hlR_len (K := K) np 0
  have c := free_cnt V.2.1 np V.1 (fun p hp => by
    have := V.1
    rcases V.2.2.1 p (by omega) with e | ⟨-, e⟩
    · exact Or.inl e
    · exact Or.inr e) V.2.2.2
  have e1 : (fun x => hOf K (nI (0 + x)) np) = (fun t => hOf K (nI t) np) := funext fun x => by rw [Nat.zero_add]
  have e2 : (fun q => K (0 + q)) = K := funext fun x => by rw [Nat.zero_add]
  rw [e1] at a
  rw [e2] at b
  omega
