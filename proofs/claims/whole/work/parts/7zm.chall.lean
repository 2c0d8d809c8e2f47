theorem cpy_at {b0 b1 : Nat} (hab : apart b0 b1) (h : AH) {o s n j : Nat} (hm : (o, s, n) ∈ cpops ++ cpops2) (hj : s ≤ j ∧ j < s + n) : gI (cpyH b0 b1 h) (b1 + o) j = gI h (b0 + o) j := by
  have l1 : ∀ q ∈ cpops, q.1 < 16 := by decide
  have l2 : ∀ q ∈ cpops2, q.1 < 16 := by decide
  have lo : o < 16 := by
    rcases List.mem_append.mp hm with m | m
    · exact l1 _ m
    · exact l2 _ m
  have src : gI (crT b0 b1 (cpB b0 b1 cpops h) 6) (b0 + o) j = gI h (b0 + o) j := by
    rw [(crT_1 b0 b1 _ 6).2.2.2, cpB_out b0 b1 _ h _ _ (fun q hq z => by have := l1 q hq; unfold apart at hab; omega)]
  unfold cpyH
  by_cases hr : ∃ q ∈ cpops2, o = q.1 ∧ q.2.1 ≤ j ∧ j < q.2.1 + q.2.2
  · rw [cpB_in b0 b1 hab _ _ o j l2 hr]; exact src
  · rw [cpB_out b0 b1 _ _ _ _ (fun q hq z => hr ⟨q, hq, by omega, z.2⟩), (crT_1 b0 b1 _ 6).2.2.2]
    rcases List.mem_append.mp hm with m | m
    · exact cpB_in b0 b1 hab _ _ o j l1 ⟨_, m, rfl, hj⟩
    · exact absurd ⟨_, m, rfl, hj⟩ hr
theorem cpy_R (b0 b1 : Nat) (h : AH) (k j : Nat) : gR (cpyH b0 b1 h) k j = if k = b1 + 13 ∧ j < 6 then gR h (b0 + 13) j else gR h k j := by
  unfold cpyH
  rw [(cpB_1 b0 b1 cpops2 _).2.2.2, crT_R, (cpB_1 b0 b1 cpops _).2.2.2, (cpB_1 b0 b1 cpops _).2.2.2]
/-- a hall's cells -/
def hlX (b k : Nat) (_ : Nat) : Bool := decide (b ≤ k) && decide (k < b + 16)
theorem hlX_n {b k j : Nat} (h : k < b ∨ b + 16 ≤ k) : hlX b k j = false := by
  unfold hlX
  rcases h with h | h
  · rw [decide_eq_false (by omega)]; rfl
  · rw [decide_eq_false (p := k < b + 16) (by omega), Bool.and_false]
theorem hlX_no {b k j : Nat} (h : hlX b k j = false) : k < b ∨ b + 16 ≤ k := by
  unfold hlX at h
  rcases Nat.lt_or_ge k b with q | q
  · exact Or.inl q
  · refine Or.inr (Nat.le_of_not_lt fun z => ?_)
    rw [decide_eq_true q, decide_eq_true z] at h
    cases h
theorem cpy_fr (b0 b1 : Nat) (h : AH) : Fr (hlX b1) h (cpyH b0 b1 h) := by
  have l1 : ∀ q ∈ cpops, q.1 < 16 := by decide
  have l2 : ∀ q ∈ cpops2, q.1 < 16 := by decide
  refine ⟨?_, ?_, fun k j hx => ?_, fun k j hx => ?_, fun k j hx => ?_⟩
  · unfold cpyH; rw [(cpB_1 b0 b1 cpops2 _).1, (crT_1 b0 b1 _ 6).1, (cpB_1 b0 b1 cpops _).1]
  · unfold cpyH; rw [(cpB_1 b0 b1 cpops2 _).2.1, (crT_1 b0 b1 _ 6).2.1, (cpB_1 b0 b1 cpops _).2.1]
  · have q := hlX_no hx
    unfold cpyH
    rw [cpB_out b0 b1 _ _ _ _ (fun w hw z => by have := l2 w hw; omega), (crT_1 b0 b1 _ 6).2.2.2, cpB_out b0 b1 _ _ _ _ (fun w hw z => by have := l1 w hw; omega)]
  · unfold cpyH; rw [(cpB_1 b0 b1 cpops2 _).2.2.1, (crT_1 b0 b1 _ 6).2.2.1, (cpB_1 b0 b1 cpops _).2.2.1]
  · have q := hlX_no hx
    rw [cpy_R, if_neg (fun z => by omega)]
theorem RfOK.cpy {h : AH} (R : RfOK h) (b0 : Nat) {b1 : Nat} (hb : b1 = 1 ∨ b1 = 17 ∨ b1 = 68 ∨ b1 = 84) : RfOK (cpyH b0 b1 h) := fun k j a ha => by
  have n13 : k ≠ b1 + 13 := by
    have q := rfL_of ha
    have hb1 : (rfL.all fun q => decide (q.1 ≠ 1 + 13 ∧ q.1 ≠ 17 + 13 ∧ q.1 ≠ 68 + 13 ∧ q.1 ≠ 84 + 13)) = true := by decide +kernel
    have := of_decide_eq_true (List.all_eq_true.mp hb1 _ q)
    rcases hb with rfl | rfl | rfl | rfl
    · exact this.1
    · exact this.2.1
    · exact this.2.2.1
    · exact this.2.2.2
  rw [cpy_R, if_neg (fun z => n13 z.1)]
  exact R k j a ha
/-- the hall at b is K's -/
def HA (h : AH) (b : Nat) (K : Nat → Int32) (np nt nd nl : Nat) : Prop := HOK h b ∧ gI h b 0 = nI np ∧ gI h b 5 = nI nt ∧ gI h b 9 = nI nd ∧ gI h b 12 = K 106 ∧ gI h b 16 = nI nl ∧ gI h b 18 = K 108 ∧ (∀ p, p < 6 → gI h (b + 1) p = K (7 + p)) ∧ (∀ p, p < 6 → gI h (b + 2) p = K (13 + p)) ∧ (∀ p, p < 6 → gI h (b + 3) p = K p) ∧ (∀ i, i < 48 → gI h (b + 4) i = K (19 + i)) ∧ (∀ t, t < 8 → gI h (b + 5) t = K (67 + t)) ∧ (∀ t, t < 8 → gI h (b + 6) t = K (75 + t)) ∧ (∀ t, t < 8 → gI h (b + 7) t = hOf K (nI t) np) ∧ (∀ e, e < 3 → gI h (b + 8) e = K (83 + e)) ∧ (∀ e, e < 3 → gI h (b + 9) e = K (86 + e)) ∧ (∀ i, i < 6 → gI h (b + 10) i = K (89 + 2 * i)) ∧ (∀ i, i < 6 → gI h (b + 11) i = K (90 + 2 * i)) ∧ gI h (b + 12) 0 = K 6 ∧ gI h (b + 12) 1 = K 101 ∧ gI h (b + 12) 2 = K 102
/-- whatever stands in a hall's row of laws is a text -/
def HT (h : AH) (b : Nat) : Prop := ∀ i a, i < 6 → gR h (b + 13) i = some a → h.1[a]? = some (9, clN 9)
theorem HOK.cpy {h : AH} {b0 b1 : Nat} (A : HOK h b1) : HOK (cpyH b0 b1 h) b1 := ⟨fun o q hq => by rw [(cpy_fr b0 b1 h).1]; exact A.1 o q hq, fun o j a ha => by
  have n13 : o ≠ 13 := fun z => by subst z; cases ha
  rw [cpy_R, if_neg (fun z => by omega)]
  exact A.2 o j a ha⟩
theorem HA.cpy {h : AH} {b0 b1 : Nat} {K : Nat → Int32} {np nt nd nl : Nat} (hab : apart b0 b1) (A1 : HOK h b1) (H : HA h b0 K np nt nd nl) : HA (cpyH b0 b1 h) b1 K np nt nd nl := by
  obtain ⟨A, a0, a5, a9, a12, a16, a18, c1, c2, c3, c4, c5, c6, c7, c8, c9, c10, c11, d0, d1, d2⟩ := H
  exact ⟨A1.cpy, (cpy_at hab h (o := 0) (s := 0) (n := 1) (by decide) (by decide)).trans a0, (cpy_at hab h (o := 0) (s := 5) (n := 1) (by decide) (by decide)).trans a5, (cpy_at hab h (o := 0) (s := 9) (n := 1) (by decide) (by decide)).trans a9, (cpy_at hab h (o := 0) (s := 12) (n := 1) (by decide) (by decide)).trans a12, (cpy_at hab h (o := 0) (s := 16) (n := 1) (by decide) (by decide)).trans a16, (cpy_at hab h (o := 0) (s := 18) (n := 1) (by decide) (by decide)).trans a18, fun p hp => (cpy_at hab h (o := 1) (s := 0) (n := 6) (by decide) (by omega)).trans (c1 p hp), fun p hp => (cpy_at hab h (o := 2) (s := 0) (n := 6) (by decide) (by omega)).trans (c2 p hp), fun p hp => (cpy_at hab h (o := 3) (s := 0) (n := 6) (by decide) (by omega)).trans (c3 p hp), fun p hp => (cpy_at hab h (o := 4) (s := 0) (n := 48) (by decide) (by omega)).trans (c4 p hp), fun p hp => (cpy_at hab h (o := 5) (s := 0) (n := 8) (by decide) (by omega)).trans (c5 p hp), fun p hp => (cpy_at hab h (o := 6) (s := 0) (n := 8) (by decide) (by omega)).trans (c6 p hp), fun p hp => (cpy_at hab h (o := 7) (s := 0) (n := 8) (by decide) (by omega)).trans (c7 p hp), fun p hp => (cpy_at hab h (o := 8) (s := 0) (n := 3) (by decide) (by omega)).trans (c8 p hp), fun p hp => (cpy_at hab h (o := 9) (s := 0) (n := 3) (by decide) (by omega)).trans (c9 p hp), fun p hp => (cpy_at hab h (o := 10) (s := 0) (n := 6) (by decide) (by omega)).trans (c10 p hp), fun p hp => (cpy_at hab h (o := 11) (s := 0) (n := 6) (by decide) (by omega)).trans (c11 p hp), (cpy_at hab h (o := 12) (s := 0) (n := 3) (by decide) (by decide)).trans d0, (cpy_at hab h (o := 12) (s := 0) (n := 3) (by decide) (by decide)).trans d1, (cpy_at hab h (o := 12) (s := 0) (n := 3) (by decide) (by decide)).trans d2⟩
theorem HT.cpy {h : AH} {b0 : Nat} (b1 : Nat) (H : HT h b0) : HT (cpyH b0 b1 h) b1 := fun i a hi ha => by
  rw [cpy_R, if_pos ⟨rfl, hi⟩] at ha
  rw [(cpy_fr b0 b1 h).1]
  exact H i a hi ha
theorem hlX_T {b k j : Nat} (hb : b = 1 ∨ b = 17 ∨ b = 68 ∨ b = 84) (o : okT k) : hlX b k j = false := hlX_n (by unfold okT at o; omega)
theorem HLw.cpy {h : AH} {b0 b1 nl : Nat} {LSs : Nat → List CLE} (hb : b1 = 1 ∨ b1 = 17 ∨ b1 = 68 ∨ b1 = 84) (hab : apart b0 b1) (A1 : HOK h b1) (H : HLw h b0 nl LSs) : HLw (cpyH b0 b1 h) b1 nl LSs := by
  refine ⟨A1.cpy, H.2.1, (cpy_at hab h (o := 0) (s := 16) (n := 1) (by decide) (by decide)).trans H.2.2.1, fun l hl => ?_⟩
  obtain ⟨tx, kh, kc, nh, nc, q, T⟩ := H.2.2.2 l hl
  have := H.2.1
  exact ⟨tx, kh, kc, nh, nc, by rw [cpy_R, if_pos ⟨rfl, by omega⟩]; exact q, T.fr (cpy_fr b0 b1 h) (fun k j o => hlX_T hb o)⟩
theorem LOG.cpy {h : AH} {b0 b1 : Nat} {E : List Int32} (hab : apart b0 b1) (L : LOG h b0 E) : LOG (cpyH b0 b1 h) b1 E := by
  have l := L.1
  refine ⟨l, (cpy_at hab h (o := 14) (s := 1) (n := 1) (by decide) (by decide)).trans L.2.1, fun j x hj => ?_⟩
  have := (List.getElem?_eq_some_iff.mp hj).1
  exact (cpy_at hab h (o := 15) (s := 0) (n := 16) (by decide) (by omega)).trans (L.2.2 j x hj)
theorem HA.hj {h : AH} {b : Nat} {K : Nat → Int32} {np nt nd nl : Nat} (hb : b = 1 ∨ b = 17) (H : HA h b K np nt nd nl) : HJ h b K := by
  obtain ⟨A, a0, a5, a9, a12, a16, a18, c1, c2, c3, c4, c5, c6, c7, c8, c9, c10, c11, d0, d1, d2⟩ := H
  exact ⟨hb, A, c1, c2, c5, c6, c9, d0, d2⟩
theorem HA.hm {h : AH} {b : Nat} {K : Nat → Int32} {np nt nd nl : Nat} (V : VH K np nt) (H : HA h b K np nt nd nl) : HM h b K np nt := by
  obtain ⟨A, a0, a5, a9, a12, a16, a18, c1, c2, c3, c4, c5, c6, c7, c8, c9, c10, c11, d0, d1, d2⟩ := H
  exact ⟨V, A, a0, a5, c3, c7⟩
theorem HA.hd {h : AH} {b : Nat} {K : Nat → Int32} {np nt nd nl : Nat} (hd : nd ≤ 3) (H : HA h b K np nt nd nl) : HD h b K nd := by
  obtain ⟨A, a0, a5, a9, a12, a16, a18, c1, c2, c3, c4, c5, c6, c7, c8, c9, c10, c11, d0, d1, d2⟩ := H
  exact ⟨A, hd, a9, c8⟩
theorem HA.fr {X : Nat → Nat → Bool} {h g : AH} {b : Nat} {K : Nat → Int32} {np nt nd nl : Nat} (H : HA h b K np nt nd nl) (F : Fr X h g) (hx : ∀ o j, o < 13 → X (b + o) j = false) (h14 : X (b + 14) 0 = false) : HA g b K np nt nd nl := by
  obtain ⟨A, a0, a5, a9, a12, a16, a18, c1, c2, c3, c4, c5, c6, c7, c8, c9, c10, c11, d0, d1, d2⟩ := H
  exact ⟨A.fr F (fun j => hx 0 j (by decide)) h14, (F.I _ _ (hx 0 _ (by decide))).trans a0, (F.I _ _ (hx 0 _ (by decide))).trans a5, (F.I _ _ (hx 0 _ (by decide))).trans a9, (F.I _ _ (hx 0 _ (by decide))).trans a12, (F.I _ _ (hx 0 _ (by decide))).trans a16, (F.I _ _ (hx 0 _ (by decide))).trans a18, fun p hp => (F.I _ _ (hx 1 _ (by decide))).trans (c1 p hp), fun p hp => (F.I _ _ (hx 2 _ (by decide))).trans (c2 p hp), fun p hp => (F.I _ _ (hx 3 _ (by decide))).trans (c3 p hp), fun p hp => (F.I _ _ (hx 4 _ (by decide))).trans (c4 p hp), fun p hp => (F.I _ _ (hx 5 _ (by decide))).trans (c5 p hp), fun p hp => (F.I _ _ (hx 6 _ (by decide))).trans (c6 p hp), fun p hp => (F.I _ _ (hx 7 _ (by decide))).trans (c7 p hp), fun p hp => (F.I _ _ (hx 8 _ (by decide))).trans (c8 p hp), fun p hp => (F.I _ _ (hx 9 _ (by decide))).trans (c9 p hp), fun p hp => (F.I _ _ (hx 10 _ (by decide))).trans (c10 p hp), fun p hp => (F.I _ _ (hx 11 _ (by decide))).trans (c11 p hp), (F.I _ _ (hx 12 _ (by decide))).trans d0, (F.I _ _ (hx 12 _ (by decide))).trans d1, (F.I _ _ (hx 12 _ (by decide))).trans d2⟩
