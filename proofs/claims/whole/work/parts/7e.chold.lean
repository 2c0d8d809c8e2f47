def upK (K : Nat → Int32) (p : Nat) (x : Int32) : Nat → Int32 := fun j => if j = p then x else K j
theorem hOf_congr {f g : Nat → Int32} {t : Int32} : ∀ n, (∀ q, q < n → (f q = t ↔ g q = t)) → hOf f t n = hOf g t n
  | 0, _ => rfl
  | n + 1, h => by
    rw [hOf, hOf]
    by_cases e : f n = t
    · rw [if_pos e, if_pos ((h n (Nat.lt_succ_self n)).mp e)]
    · rw [if_neg e, if_neg (fun z => e ((h n (Nat.lt_succ_self n)).mpr z))]
      exact hOf_congr n (fun q hq => h q (Nat.lt_succ_of_lt hq))
theorem hOf_none {f : Nat → Int32} {t : Int32} : ∀ n, (∀ q, q < n → f q ≠ t) → hOf f t n = -1
  | 0, _ => rfl
  | n + 1, h => by rw [hOf, if_neg (h n (Nat.lt_succ_self n))]; exact hOf_none n (fun q hq => h q (Nat.lt_succ_of_lt hq))
theorem hOf_one {f : Nat → Int32} {t : Int32} {p : Nat} (e : f p = t) : ∀ n, p < n → (∀ q, q < n → f q = t → q = p) → hOf f t n = nI p
  | 0, hp, _ => absurd hp (Nat.not_lt_zero _)
  | n + 1, hp, h => by
    rw [hOf]
    by_cases z : f n = t
    · rw [if_pos z, h n (Nat.lt_succ_self n) z]
    · rw [if_neg z]
      exact hOf_one e n (by
        have : p ≠ n := fun y => z (by rw [← y]; exact e)
        omega) (fun q hq => h q (Nat.lt_succ_of_lt hq))
theorem hOf_m1 {f : Nat → Int32} {t : Int32} : ∀ n, n < 1000 → hOf f t n = -1 → ∀ q, q < n → f q ≠ t
  | 0, _, _ => fun q hq => absurd hq (Nat.not_lt_zero _)
  | n + 1, hn, h => fun q hq => by
    rw [hOf] at h
    by_cases z : f n = t
    · rw [if_pos z] at h; exact absurd h (nI_m1 (by omega))
    · rw [if_neg z] at h
      by_cases y : q = n
      · rw [y]; exact z
      · exact hOf_m1 n (by omega) h q (by omega)
theorem hOf_get {f : Nat → Int32} {t : Int32} : ∀ n, hOf f t n ≠ -1 → ∃ p, p < n ∧ hOf f t n = nI p ∧ f p = t
  | 0, h => absurd rfl h
  | n + 1, h => by
    rw [hOf] at h ⊢
    by_cases z : f n = t
    · rw [if_pos z]; exact ⟨n, Nat.lt_succ_self n, rfl, z⟩
    · rw [if_neg z] at h ⊢
      obtain ⟨p, h1, h2, h3⟩ := hOf_get n h
      exact ⟨p, by omega, h2, h3⟩
/-- who holds what is in order -/
def VH (K : Nat → Int32) (np nt : Nat) : Prop := np ≤ 6 ∧ nt ≤ 8 ∧ (∀ p, p < 6 → K p = -1 ∨ (p < np ∧ ∃ t, t < nt ∧ K p = nI t)) ∧ (∀ p q, p < np → q < np → K p = K q → K p ≠ -1 → p = q)
/-- what a hall of the class has of holding -/
def HM (h : AH) (b : Nat) (K : Nat → Int32) (np nt : Nat) : Prop := VH K np nt ∧ HOK h b ∧ gI h b 0 = nI np ∧ gI h b 5 = nI nt ∧ (∀ p, p < 6 → gI h (b + 3) p = K p) ∧ (∀ t, t < 8 → gI h (b + 7) t = hOf K (nI t) np)
theorem HM.fr {X : Nat → Nat → Bool} {h g : AH} {b : Nat} {K : Nat → Int32} {np nt : Nat} (M : HM h b K np nt) (F : Fr X h g) (hx : ∀ o j, o < 16 → (o ≠ 14 ∨ j ≠ 1) → o ≠ 15 → X (b + o) j = false) (hr : ∀ o j, o < 16 → X (b + o) j = true → o = 15 ∨ (o = 14 ∧ j = 1)) : HM g b K np nt := by
  obtain ⟨m1, ⟨a1, a2⟩, m3, m4, m5, m6⟩ := M
  refine ⟨m1, ⟨fun o q hq => by rw [F.1]; exact a1 o q hq, fun o j a ha => ?_⟩, (F.I _ _ (hx 0 0 (by omega) (by omega) (by omega))).trans m3, (F.I _ _ (hx 0 5 (by omega) (by omega) (by omega))).trans m4, fun p hp => (F.I _ _ (hx 3 p (by omega) (by omega) (by omega))).trans (m5 p hp), fun t ht => (F.I _ _ (hx 7 t (by omega) (by omega) (by omega))).trans (m6 t ht)⟩
  have ho : o < 16 := by
    by_cases z : o < 16
    · exact z
    · rw [show hrf.getD o [] = [] by rw [List.getD_eq_getElem?_getD, List.getElem?_eq_none (by show hrf.length ≤ o; exact Nat.le_of_not_lt z)]; rfl] at ha
      cases ha
  cases hX : X (b + o) j with
  | false => exact (F.Rr _ _ hX).trans (a2 o j a ha)
  | true =>
    rcases hr o j ho hX with rfl | ⟨rfl, rfl⟩
    · cases ha
    · cases ha
theorem HM.give {h : AH} {b : Nat} {K : Nat → Int32} {np nt t p : Nat} (M : HM h b K np nt) (hp : p < np) (ht : t < nt) (hK : K p = -1) (hH : hOf K (nI t) np = -1) : HM (sI (sI h (b + 7) t (nI p)) (b + 3) p (nI t)) b (upK K p (nI t)) np nt := by
  obtain ⟨⟨v1, v2, v3, v4⟩, A, m3, m4, m5, m6⟩ := M
  have hn := hOf_m1 np (by omega) hH
  have nt1 : nI t ≠ -1 := nI_m1 (by omega)
  refine ⟨⟨v1, v2, fun q hq => ?_, fun q r hq hr e1 e2 => ?_⟩, A.moved rfl (fun _ _ => rfl), by rw [gI_ne _ _ _ _ (by omega), gI_ne _ _ _ _ (by omega)]; exact m3, by rw [gI_ne _ _ _ _ (by omega), gI_ne _ _ _ _ (by omega)]; exact m4, fun q hq => ?_, fun u hu => ?_⟩
  · unfold upK
    by_cases z : q = p
    · rw [if_pos z]; exact Or.inr ⟨by omega, t, ht, rfl⟩
    · rw [if_neg z]; exact v3 q hq
  · unfold upK at e1 e2
    by_cases z : q = p
    · by_cases y : r = p
      · omega
      · rw [if_pos z, if_neg y] at e1; exact absurd e1.symm (hn r hr)
    · rw [if_neg z] at e1 e2
      by_cases y : r = p
      · rw [if_pos y] at e1; exact absurd e1 (hn q hq)
      · rw [if_neg y] at e1; exact v4 q r hq hr e1 e2
  · unfold upK
    by_cases z : q = p
    · rw [if_pos z, z, gI_hit]
    · rw [if_neg z, gI_off _ _ _ z, gI_ne _ _ _ _ (by omega)]; exact m5 q hq
  · rw [gI_ne _ _ _ _ (by omega)]
    by_cases z : u = t
    · rw [z, gI_hit]
      refine (hOf_one (f := upK K p (nI t)) (by unfold upK; rw [if_pos rfl]) np hp (fun q hq e => ?_)).symm
      unfold upK at e
      by_cases y : q = p
      · exact y
      · rw [if_neg y] at e; exact absurd e (hn q hq)
    · rw [gI_off _ _ _ z, m6 u hu]
      refine hOf_congr np (fun q hq => ?_)
      unfold upK
      by_cases y : q = p
      · rw [if_pos y, y, hK]
        exact ⟨fun w => absurd w.symm (nI_m1 (by omega)), fun w => absurd w (nI_ne (by omega) (by omega) (Ne.symm z))⟩
      · rw [if_neg y]
theorem HM.ungive {h : AH} {b : Nat} {K : Nat → Int32} {np nt t p : Nat} (M : HM h b K np nt) (hp : p < np) (ht : t < nt) (hK : K p = nI t) : HM (sI (sI h (b + 7) t (-1)) (b + 3) p (-1)) b (upK K p (-1)) np nt := by
  obtain ⟨⟨v1, v2, v3, v4⟩, A, m3, m4, m5, m6⟩ := M
  have nt1 : nI t ≠ -1 := nI_m1 (by omega)
  refine ⟨⟨v1, v2, fun q hq => ?_, fun q r hq hr e1 e2 => ?_⟩, A.moved rfl (fun _ _ => rfl), by rw [gI_ne _ _ _ _ (by omega), gI_ne _ _ _ _ (by omega)]; exact m3, by rw [gI_ne _ _ _ _ (by omega), gI_ne _ _ _ _ (by omega)]; exact m4, fun q hq => ?_, fun u hu => ?_⟩
  · unfold upK
    by_cases z : q = p
    · rw [if_pos z]; exact Or.inl rfl
    · rw [if_neg z]; exact v3 q hq
  · unfold upK at e1 e2
    by_cases z : q = p
    · rw [if_pos z] at e2; exact absurd rfl e2
    · rw [if_neg z] at e1 e2
      by_cases y : r = p
      · rw [if_pos y] at e1; exact absurd e1 e2
      · rw [if_neg y] at e1; exact v4 q r hq hr e1 e2
  · unfold upK
    by_cases z : q = p
    · rw [if_pos z, z, gI_hit]
    · rw [if_neg z, gI_off _ _ _ z, gI_ne _ _ _ _ (by omega)]; exact m5 q hq
  · rw [gI_ne _ _ _ _ (by omega)]
    by_cases z : u = t
    · rw [z, gI_hit]
      refine (hOf_none np (fun q hq e => ?_)).symm
      unfold upK at e
      by_cases y : q = p
      · rw [if_pos y] at e; exact nt1 e.symm
      · rw [if_neg y] at e
        exact y (v4 q p hq hp (e.trans hK.symm) (by rw [e]; exact nt1))
    · rw [gI_off _ _ _ z, m6 u hu]
      refine hOf_congr np (fun q hq => ?_)
      unfold upK
      by_cases y : q = p
      · rw [if_pos y, y, hK]
        exact ⟨fun w => absurd w (nI_ne (by omega) (by omega) (Ne.symm z)), fun w => absurd w.symm (nI_m1 (by omega))⟩
      · rw [if_neg y]
def swK (K : Nat → Int32) (p q : Nat) : Nat → Int32 := upK (upK K p (K q)) q (K p)
theorem HM.cross {h : AH} {b : Nat} {K : Nat → Int32} {np nt t u p q : Nat} (M : HM h b K np nt) (hp : p < np) (hq : q < np) (hpq : p ≠ q) (ht : t < nt) (hu : u < nt) (hK : K p = nI t) (hQ : K q = nI u) : HM (sI (sI (sI (sI h (b + 7) u (nI p)) (b + 3) p (nI u)) (b + 7) t (nI q)) (b + 3) q (nI t)) b (swK K p q) np nt := by
  obtain ⟨⟨v1, v2, v3, v4⟩, A, m3, m4, m5, m6⟩ := M
  have nt1 : nI t ≠ -1 := nI_m1 (by omega)
  have nu1 : nI u ≠ -1 := nI_m1 (by omega)
  have tu : t ≠ u := fun z => hpq (v4 p q hp hq (by rw [hK, hQ, z]) (by rw [hK]; exact nt1))
  have tu2 : nI t ≠ nI u := nI_ne (by omega) (by omega) tu
  have sp : swK K p q p = nI u := by unfold swK upK; rw [if_neg hpq, if_pos rfl]; exact hQ
  have sq : swK K p q q = nI t := by unfold swK upK; rw [if_pos rfl]; exact hK
  have so : ∀ r, r ≠ p → r ≠ q → swK K p q r = K r := fun r h1 h2 => by unfold swK upK; rw [if_neg h2, if_neg h1]
  have np1 : ∀ r, r < np → K r = nI t → r = p := fun r hr e => v4 r p hr hp (e.trans hK.symm) (by rw [e]; exact nt1)
  have nq1 : ∀ r, r < np → K r = nI u → r = q := fun r hr e => v4 r q hr hq (e.trans hQ.symm) (by rw [e]; exact nu1)
  refine ⟨⟨v1, v2, fun r hr => ?_, fun r s hr hs e1 e2 => ?_⟩, A.moved rfl (fun _ _ => rfl), by rw [gI_ne _ _ _ _ (by omega), gI_ne _ _ _ _ (by omega), gI_ne _ _ _ _ (by omega), gI_ne _ _ _ _ (by omega)]; exact m3, by rw [gI_ne _ _ _ _ (by omega), gI_ne _ _ _ _ (by omega), gI_ne _ _ _ _ (by omega), gI_ne _ _ _ _ (by omega)]; exact m4, fun r hr => ?_, fun w hw => ?_⟩
  · by_cases z : r = p
    · rw [z, sp]; exact Or.inr ⟨hp, u, hu, rfl⟩
    · by_cases y : r = q
      · rw [y, sq]; exact Or.inr ⟨hq, t, ht, rfl⟩
      · rw [so r z y]; exact v3 r hr
  · by_cases z : r = p
    · by_cases y : s = p
      · omega
      · by_cases x : s = q
        · rw [z, sp, x, sq] at e1; exact absurd e1.symm tu2
        · rw [z, sp, so s y x] at e1; exact absurd (nq1 s hs e1.symm) x
    · by_cases z2 : r = q
      · by_cases y : s = p
        · rw [z2, sq, y, sp] at e1; exact absurd e1 tu2
        · by_cases x : s = q
          · omega
          · rw [z2, sq, so s y x] at e1; exact absurd (np1 s hs e1.symm) y
      · rw [so r z z2] at e1 e2
        by_cases y : s = p
        · rw [y, sp] at e1; exact absurd (nq1 r hr e1) z2
        · by_cases x : s = q
          · rw [x, sq] at e1; exact absurd (np1 r hr e1) z
          · rw [so s y x] at e1; exact v4 r s hr hs e1 e2
  · by_cases y : r = q
    · rw [y, gI_hit, sq]
    · rw [gI_off _ _ _ y, gI_ne _ _ _ _ (by omega)]
      by_cases z : r = p
      · rw [z, gI_hit, sp]
      · rw [gI_off _ _ _ z, gI_ne _ _ _ _ (by omega), so r z y]; exact m5 r hr
  · rw [gI_ne _ _ _ _ (by omega)]
    by_cases z : w = t
    · rw [z, gI_hit]
      refine (hOf_one sq np hq (fun r hr e => ?_)).symm
      by_cases y : r = p
      · rw [y, sp] at e; exact absurd e.symm tu2
      · by_cases x : r = q
        · exact x
        · rw [so r y x] at e; exact absurd (np1 r hr e) y
    · rw [gI_off _ _ _ z, gI_ne _ _ _ _ (by omega)]
      by_cases z2 : w = u
      · rw [z2, gI_hit]
        refine (hOf_one sp np hp (fun r hr e => ?_)).symm
        by_cases y : r = p
        · exact y
        · by_cases x : r = q
          · rw [x, sq] at e; exact absurd e tu2
          · rw [so r y x] at e; exact absurd (nq1 r hr e) x
      · rw [gI_off _ _ _ z2, m6 w hw]
        refine hOf_congr np (fun r hr => ?_)
        have wt : nI w ≠ nI t := nI_ne (by omega) (by omega) z
        have wu : nI w ≠ nI u := nI_ne (by omega) (by omega) z2
        by_cases y : r = p
        · rw [y, sp, hK]; exact ⟨fun e => absurd e.symm wt, fun e => absurd e.symm wu⟩
        · by_cases x : r = q
          · rw [x, sq, hQ]; exact ⟨fun e => absurd e.symm wu, fun e => absurd e.symm wt⟩
          · rw [so r y x]
theorem wJ_congr {K K' : Nat → Int32} (h : ∀ j, 6 ≤ j → K j = K' j) (p : Nat) (t e : Option Nat) : wJ K p t e = wJ K' p t e := by
  funext j
  match j with
  | 0 => rfl
  | 1 => exact h _ (by omega)
  | 2 => exact h _ (by omega)
  | 3 => rfl
  | 4 => cases t with
    | none => rfl
    | some t => exact h _ (by omega)
  | 5 => cases t with
    | none => rfl
    | some t => exact h _ (by omega)
  | 6 => cases e with
    | none => rfl
    | some e => exact h _ (by omega)
  | 7 => exact h _ (by omega)
  | 8 => exact h _ (by omega)
  | j + 9 => rfl
theorem ask_congr {K K' : Nat → Int32} (h : ∀ j, 6 ≤ j → K j = K' j) (fl : Option (List CLE)) : (∀ p t e, oTk K fl p t e = oTk K' fl p t e) ∧ (∀ p t, oFt K fl p t = oFt K' fl p t) ∧ (∀ p t, oBr K fl p t = oBr K' fl p t) ∧ (∀ p, oCs K fl p = oCs K' fl p) := by
  refine ⟨fun p t e => ?_, fun p t => ?_, fun p t => ?_, fun p => ?_⟩
  · unfold oTk spE; rw [wJ_congr h, h (86 + e) (by omega)]
  · unfold oFt; rw [wJ_congr h, h (75 + t) (by omega), h (7 + p) (by omega)]
  · unfold oBr; rw [wJ_congr h]
  · unfold oCs; rw [wJ_congr h]
theorem JS.congr {h : AH} {b : Nat} {K K' : Nat → Int32} {fl : Option (List CLE)} (e : ∀ j, 6 ≤ j → K j = K' j) (J : JS h b K fl) : JS h b K' fl := by
  obtain ⟨J1, J2, ⟨j0, j1, j2, j3, j4, j5, j6, j7, j8⟩, J4, k1, k2, k3, k4⟩ := J
  obtain ⟨c1, c2, c3, c4⟩ := ask_congr e fl
  refine ⟨J1, J2, ⟨j0, j1, fun p hp => (j2 p hp).trans (e _ (by omega)), fun p hp => (j3 p hp).trans (e _ (by omega)), fun p hp => (j4 p hp).trans (e _ (by omega)), fun p hp => (j5 p hp).trans (e _ (by omega)), fun p hp => (j6 p hp).trans (e _ (by omega)), j7.trans (e _ (by omega)), j8.trans (e _ (by omega))⟩, J4, fun p t e' h1 h2 h3 => by rw [← c1]; exact k1 p t e' h1 h2 h3, fun p t h1 h2 => by rw [← c2]; exact k2 p t h1 h2, fun p t h1 h2 => by rw [← c3]; exact k3 p t h1 h2, fun p h1 => by rw [← c4]; exact k4 p h1⟩
