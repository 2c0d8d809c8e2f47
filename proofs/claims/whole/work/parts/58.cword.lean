theorem fiW_get : ∀ (ws : List (List Int32)) (t : List Int32) (w0 w : Nat), fiW ws t w0 = w → w ≠ 0 → w0 ≤ w ∧ w < w0 + ws.length ∧ ws.getD (w - w0) [] = t
  | [], t, w0, w, h, hw => absurd h.symm hw
  | x :: r, t, w0, w, h, hw => by
    rw [fiW] at h
    by_cases e : x = t
    · rw [if_pos e] at h
      subst h
      refine ⟨Nat.le_refl _, by rw [List.length_cons]; omega, ?_⟩
      rw [Nat.sub_self]; exact e
    · rw [if_neg e] at h
      obtain ⟨a1, a2, a3⟩ := fiW_get r t (w0 + 1) w h hw
      refine ⟨by omega, by rw [List.length_cons]; omega, ?_⟩
      rw [show w - w0 = (w - (w0 + 1)) + 1 by omega]; exact a3
theorem fiO_none : ∀ (ws : List (List Int32)) (t : List Int32) (w : Nat), (∀ x ∈ ws, x ≠ t) → fiO ws t w = none
  | [], _, _, _ => rfl
  | x :: r, t, w, h => by
    rw [fiO, if_neg (h x (List.mem_cons_self ..))]
    exact fiO_none r t (w + 1) (fun y hy => h y (List.mem_cons_of_mem _ hy))
theorem fiW_0 : ∀ (ws : List (List Int32)) (t : List Int32) (w : Nat), w ≠ 0 → fiW ws t w = 0 → ∀ x ∈ ws, x ≠ t
  | [], _, _, _, _ => fun x hx => nomatch hx
  | y :: r, t, w, hw, h => fun x hx => by
    rw [fiW] at h
    by_cases e : y = t
    · rw [if_pos e] at h; exact absurd h hw
    · rw [if_neg e] at h
      rcases List.mem_cons.mp hx with rfl | hx
      · exact e
      · exact fiW_0 r t (w + 1) (by omega) h x hx
theorem wsK_sub : ((List.range 11).all fun k => (wsK.getD k []).all fun x => W29.contains x) = true := by decide +kernel
/-- the place of a word in a string constant, by its code -/
def pwK (k c : Nat) : Option Nat := if c = 0 then none else if c ≤ 29 then fiO (wsK.getD k []) (W29.getD (c - 1) []) 0 else none
theorem W29_len : W29.length = 29 := by decide
theorem fiO_pw {k : Nat} (hk : k < 11) (t : List Int32) : fiO (wsK.getD k []) t 0 = pwK k (fiW W29 t 1) := by
  unfold pwK
  by_cases h0 : fiW W29 t 1 = 0
  · rw [if_pos h0]
    refine fiO_none _ _ _ (fun x hx => ?_)
    have h1 := List.all_eq_true.mp (List.all_eq_true.mp wsK_sub k (List.mem_range.mpr hk)) x hx
    exact fiW_0 W29 t 1 (by decide) h0 x (List.contains_iff_mem.mp h1)
  · obtain ⟨a1, a2, a3⟩ := fiW_get W29 t 1 _ rfl h0
    rw [W29_len] at a2
    rw [if_neg h0, if_pos (by omega), a3]
theorem pw_all : ((List.range 30).all fun c => decide (pwK 0 c = vbO true c) && decide (pwK 1 c = vbO false c) && decide (pwK 2 c = if 17 ≤ c ∧ c ≤ 21 then some (c - 17) else if c = 22 then some 5 else if c = 16 then some 6 else none) && decide (pwK 3 c = if 9 ≤ c ∧ c ≤ 17 then some (lwI c) else none) && decide (pwK 4 c = if c = 24 then some 0 else none) && decide (pwK 5 c = if c = 26 then some 0 else none) && decide (pwK 6 c = if c = 29 then some 0 else none) && decide (pwK 7 c = if c = 5 then some 0 else none) && decide (pwK 8 c = if c = 8 then some 0 else none) && decide (pwK 9 c = if c = 7 then some 0 else none) && decide (pwK 10 c = if c = 6 then some 0 else none)) = true := by decide +kernel
/-- the code of a single word -/
def cdK (k : Nat) : Nat := [0, 0, 0, 0, 24, 26, 29, 5, 8, 7, 6].getD k 0
theorem cdK_lt {k : Nat} : cdK k ≤ 29 := by
  unfold cdK
  match k with
  | 0 | 1 | 2 | 3 | 4 | 5 | 6 | 7 | 8 | 9 | 10 => decide
  | k + 11 => exact Nat.zero_le _
theorem pw_all' : ((List.range 30).all fun c => (List.range 7).all fun k => decide (pwK (k + 4) c = if c = cdK (k + 4) then some 0 else none)) = true := by decide +kernel
theorem pw_single {k c : Nat} (h4 : 4 ≤ k) (hk : k < 11) : pwK k c = if c = cdK k then some 0 else none := by
  by_cases hc : c < 30
  · have h1 := List.all_eq_true.mp pw_all' c (List.mem_range.mpr hc)
    have h2 := List.all_eq_true.mp h1 (k - 4) (List.mem_range.mpr (by omega))
    have h3 := of_decide_eq_true h2
    rw [show k - 4 + 4 = k by omega] at h3
    exact h3
  · unfold pwK
    have := @cdK_lt k
    rw [if_neg (by omega), if_neg (by omega), if_neg (by omega)]
section Wd
variable (d : Nat) {h : AH} {L : Nat} {TL : List (Nat × Nat)}
theorem TS_end {i : Nat} (hT : TS h L TL i) (hq : TL[i]? = none) : gI h 35 6 = nI L ∧ gI h 35 5 = nI L ∧ gI h 35 7 = -1 := by
  unfold TS at hT; rw [hq] at hT; exact hT
theorem TS_tok {i : Nat} {q : Nat × Nat} (hT : TS h L TL i) (hq : TL[i]? = some q) : gI h 35 6 = nI q.1 ∧ gI h 35 5 = nI q.2 ∧ gI h 35 7 = sgT (gI h 36) q ∧ (isDg (gI h 36 q.1) = true → gI h 35 8 = nI (min (tkV (gI h 36) q) 1001)) := by
  unfold TS at hT; rw [hq] at hT; exact hT
theorem cT_at {tb : Nat → Int32} {i : Nat} {q : Nat × Nat} (hq : TL[i]? = some q) : cT tb TL i = tkC tb q := by unfold cT; rw [hq]
theorem cT_no {tb : Nat → Int32} {i : Nat} (hq : TL[i]? = none) : cT tb TL i = 0 := by unfold cT; rw [hq]
theorem vT_at {tb : Nat → Int32} {i : Nat} {q : Nat × Nat} (hq : TL[i]? = some q) : vT tb TL i = tkV tb q := by unfold vT; rw [hq]
theorem pT_at {i : Nat} {q : Nat × Nat} (hq : TL[i]? = some q) : pT L TL i = q.1 := by unfold pT; rw [hq]
theorem pT_no {i : Nat} (hq : TL[i]? = none) : pT L TL i = L := by unfold pT; rw [hq]
theorem TS_start {i : Nat} (hT : TS h L TL i) : gI h 35 6 = nI (pT L TL i) := by
  match hq : TL[i]? with
  | none => rw [pT_no hq]; exact (TS_end hT hq).1
  | some q => rw [pT_at hq]; exact (TS_tok hT hq).1
theorem nI_ne {a b : Nat} (ha : a < 2147483648) (hb : b < 2147483648) (h : a ≠ b) : nI a ≠ nI b := fun z => h (by rw [i32_eq, nI_toInt ha, nI_toInt hb] at z; omega)
/-- the sign tells a single byte's code -/
theorem TS_sign {i : Nat} (hT : TS h L TL i) {s : Nat} (hs : s < 256) (hs2 : isSm (nI s) = false) (hs3 : isDg (nI s) = false) : gI h 35 7 = nI s ↔ cT (gI h 36) TL i = 100 + s := by
  match hq : TL[i]? with
  | none =>
    rw [cT_no hq, (TS_end hT hq).2.2]
    exact ⟨fun z => absurd z.symm (fun y => by rw [i32_eq, nI_toInt (by omega)] at y; have : (-1 : Int32).toInt = -1 := rfl; omega), fun z => by omega⟩
  | some q =>
    rw [cT_at hq, (TS_tok hT hq).2.2.1]
    unfold sgT tkC
    by_cases h1 : isSm (gI h 36 q.1) = true
    · rw [if_pos h1, if_pos h1]
      have h2 := fiW_le W29 (sl (gI h 36) q.1 (q.2 - q.1)) 1
      rw [W29_len] at h2
      exact ⟨fun z => absurd z.symm (fun y => by rw [i32_eq, nI_toInt (by omega)] at y; have : (-2 : Int32).toInt = -2 := rfl; omega), fun z => by omega⟩
    · rw [if_neg h1, if_neg h1]
      by_cases h2 : isDg (gI h 36 q.1) = true
      · rw [if_pos h2, if_pos h2]
        exact ⟨fun z => absurd z.symm (fun y => by rw [i32_eq, nI_toInt (by omega)] at y; have : (-3 : Int32).toInt = -3 := rfl; omega), fun z => by omega⟩
      · rw [if_neg h2, if_neg h2]
        have h3 := (ub_lt (gI h 36 q.1)).1
        refine ⟨fun z => ?_, fun z => by rw [show ub (gI h 36 q.1) = s by omega]⟩
        rw [i32_eq, nI_toInt (by omega), nI_toInt (by omega)] at z
        omega
theorem TS_num {i : Nat} (hT : TS h L TL i) : (gI h 35 7 = -3 ↔ cT (gI h 36) TL i = 50) ∧ (cT (gI h 36) TL i = 50 → gI h 35 8 = nI (min (vT (gI h 36) TL i) 1001)) := by
  match hq : TL[i]? with
  | none =>
    rw [cT_no hq, (TS_end hT hq).2.2]
    exact ⟨⟨fun z => absurd z (by decide), fun z => absurd z (by decide)⟩, fun z => absurd z (by decide)⟩
  | some q =>
    obtain ⟨-, -, a3, a4⟩ := TS_tok hT hq
    rw [cT_at hq, vT_at hq, a3]
    have h3 := (ub_lt (gI h 36 q.1)).1
    unfold sgT tkC
    by_cases h1 : isSm (gI h 36 q.1) = true
    · rw [if_pos h1, if_pos h1]
      have h2 := fiW_le W29 (sl (gI h 36) q.1 (q.2 - q.1)) 1
      rw [W29_len] at h2
      exact ⟨⟨fun z => absurd z (by decide), fun z => by omega⟩, fun z => by omega⟩
    · rw [if_neg h1, if_neg h1]
      by_cases h2 : isDg (gI h 36 q.1) = true
      · rw [if_pos h2, if_pos h2]
        exact ⟨⟨fun _ => rfl, fun _ => rfl⟩, fun _ => a4 h2⟩
      · rw [if_neg h2, if_neg h2]
        exact ⟨⟨fun z => absurd z (fun y => by rw [i32_eq, nI_toInt (by omega)] at y; have : (-3 : Int32).toInt = -3 := rfl; omega), fun z => by omega⟩, fun z => by omega⟩
/-- placeIn at a token -/
theorem t_place (S : ShOK h) (R : RfOK h) {k i : Nat} (hk : k < 11) (hL : L ≤ 400) (hTL : TL = TLo (gI h 36) L) (hT : TS h L TL i) : Rp (d + 4) M_X7_placeIn 0 [some (.ref 35), some (.retAddr k), none, none, none, none] [] h (fun r h' => h' = h ∧ r = some (.int (oI (pwK k (cT (gI h 36) TL i))))) := by
  match hq : TL[i]? with
  | none =>
    rw [cT_no hq]
    exact t_placeN d S (by rw [(TS_end hT hq).2.2]; decide)
  | some q =>
    obtain ⟨a1, a2, a3, a4⟩ := TS_tok hT hq
    have hb := toks_mem (gI h 36) L L 0 q (by rw [show toks (gI h 36) L L 0 = TL from hTL.symm]; exact List.mem_of_getElem? hq)
    rw [cT_at hq]
    by_cases h1 : isSm (gI h 36 q.1) = true
    · have e := t_placeW d S R hk (by rw [a3]; unfold sgT; rw [if_pos h1]) a1 a2 ⟨hb.2.1, by omega⟩
      rw [fiO_pw hk] at e
      unfold tkC; rw [if_pos h1]
      exact e
    · have h3 := (ub_lt (gI h 36 q.1)).1
      have hn : pwK k (tkC (gI h 36) q) = none := by
        unfold pwK tkC; rw [if_neg h1]
        by_cases h2 : isDg (gI h 36 q.1) = true
        · rw [if_pos h2, if_neg (by decide), if_neg (by decide)]
        · rw [if_neg h2, if_neg (by omega), if_neg (by omega)]
      rw [hn]
      refine t_placeN d S ?_
      rw [a3]; unfold sgT; rw [if_neg h1]
      by_cases h2 : isDg (gI h 36 q.1) = true
      · rw [if_pos h2]; decide
      · rw [if_neg h2]; exact fun y => by rw [i32_eq, nI_toInt (by omega)] at y; have : (-2 : Int32).toInt = -2 := rfl; omega
end Wd
