def hX (b k j : Nat) : Bool := k == b + 3 || k == b + 7 || lX b k j
def aX (b k j : Nat) : Bool := jX k j || hX b k j
theorem hX_o {b o j : Nat} (h3 : o ≠ 3) (h7 : o ≠ 7) (h15 : o ≠ 15) (h14 : o ≠ 14 ∨ j ≠ 1) : hX b (b + o) j = false := by
  unfold hX lX
  rw [show (b + o == b + 3) = false from beq_eq_false_iff_ne.mpr (by omega), show (b + o == b + 7) = false from beq_eq_false_iff_ne.mpr (by omega), show (b + o == b + 15) = false from beq_eq_false_iff_ne.mpr (by omega)]
  rcases h14 with z | z
  · rw [show (b + o == b + 14) = false from beq_eq_false_iff_ne.mpr (by omega)]; rfl
  · rw [show (j == 1) = false from beq_eq_false_iff_ne.mpr z, Bool.and_false]; rfl
theorem hX_big {b k j : Nat} (hb : b ≤ 17) (hk : 33 ≤ k) : hX b k j = false := by
  unfold hX lX
  rw [show (k == b + 3) = false from beq_eq_false_iff_ne.mpr (by omega), show (k == b + 7) = false from beq_eq_false_iff_ne.mpr (by omega), show (k == b + 15) = false from beq_eq_false_iff_ne.mpr (by omega), show (k == b + 14) = false from beq_eq_false_iff_ne.mpr (by omega)]; rfl
theorem okT_33 {k : Nat} (o : okT k) : 33 ≤ k := by rcases o with h | h | h | h <;> omega
theorem hrf_o {o j a : Nat} (ha : (hrf.getD o []).getD j none = some a) : o = 0 ∨ (o = 14 ∧ j = 0) := by
  by_cases z : o < 16
  · have hb : ∀ o, o < 16 → o ≠ 0 → o ≠ 14 → hrf.getD o [] = [] := by decide
    by_cases h0 : o = 0
    · exact Or.inl h0
    · by_cases h14 : o = 14
      · subst h14
        match j, ha with
        | 0, _ => exact Or.inr ⟨rfl, rfl⟩
        | j + 1, ha => cases ha
      · rw [hb o z h0 h14] at ha; cases ha
  · rw [show hrf.getD o [] = [] by rw [List.getD_eq_getElem?_getD, List.getElem?_eq_none (by show hrf.length ≤ o; exact Nat.le_of_not_lt z)]; rfl] at ha
    cases ha
theorem HOK.fr {X : Nat → Nat → Bool} {h g : AH} {b : Nat} (A : HOK h b) (F : Fr X h g) (h0 : ∀ j, X (b + 0) j = false) (h14 : X (b + 14) 0 = false) : HOK g b := ⟨fun o q hq => by rw [F.1]; exact A.1 o q hq, fun o j a ha => by
  rcases hrf_o ha with rfl | ⟨rfl, rfl⟩
  · exact (F.Rr _ _ (h0 j)).trans (A.2 0 j a ha)
  · exact (F.Rr _ _ h14).trans (A.2 14 0 a ha)⟩
theorem JS.fh {h g : AH} {b : Nat} {K : Nat → Int32} {fl : Option (List CLE)} (J : JS h b K fl) (F : Fr (hX b) h g) : JS g b K fl := by
  obtain ⟨J1, J2, ⟨j0, j1, j2, j3, j4, j5, j6, j7, j8⟩, J4, k1, k2, k3, k4⟩ := J
  have hb : b ≤ 17 := by omega
  have e44 : ∀ j, gI g 44 j = gI h 44 j := fun j => F.I 44 j (hX_big hb (by decide))
  refine ⟨(F.Rr _ _ (hX_big hb (by decide))).trans J1, J2.fr F (fun k j o => hX_big hb (okT_33 o)) (hX_big hb (by decide)), ⟨j0, j1.fr F (fun j => hX_o (by decide) (by decide) (by decide) (Or.inl (by decide))) (hX_o (by decide) (by decide) (by decide) (Or.inr (by decide))), fun p hp => (F.I _ _ (hX_o (by decide) (by decide) (by decide) (Or.inl (by decide)))).trans (j2 p hp), fun p hp => (F.I _ _ (hX_o (by decide) (by decide) (by decide) (Or.inl (by decide)))).trans (j3 p hp), fun p hp => (F.I _ _ (hX_o (by decide) (by decide) (by decide) (Or.inl (by decide)))).trans (j4 p hp), fun p hp => (F.I _ _ (hX_o (by decide) (by decide) (by decide) (Or.inl (by decide)))).trans (j5 p hp), fun p hp => (F.I _ _ (hX_o (by decide) (by decide) (by decide) (Or.inl (by decide)))).trans (j6 p hp), (F.I _ _ (hX_o (by decide) (by decide) (by decide) (Or.inl (by decide)))).trans j7, (F.I _ _ (hX_o (by decide) (by decide) (by decide) (Or.inl (by decide)))).trans j8⟩, fun j hj => (F.I 43 j (hX_big hb (by decide))).trans (J4 j hj), fun p t e h1 h2 h3 => by rw [e44]; exact k1 p t e h1 h2 h3, fun p t h1 h2 => by rw [e44]; exact k2 p t h1 h2, fun p t h1 h2 => by rw [e44]; exact k3 p t h1 h2, fun p h1 => by rw [e44]; exact k4 p h1⟩
theorem jX_b {b o j : Nat} (hb : b ≤ 17) (ho : o < 16) : jX (b + o) j = false := jX_lt (by omega)
theorem HM.fj {h g : AH} {b : Nat} {K : Nat → Int32} {np nt : Nat} (hb : b ≤ 17) (M : HM h b K np nt) (F : Fr jX h g) : HM g b K np nt := M.fr F (fun o j ho _ _ => jX_b hb ho) (fun o j ho e => by rw [jX_b hb ho] at e; cases e)
theorem HM.fl {h g : AH} {b : Nat} {K : Nat → Int32} {np nt : Nat} (M : HM h b K np nt) (F : Fr (lX b) h g) : HM g b K np nt := M.fr F (fun o j ho h14 h15 => by
  unfold lX
  rw [show (b + o == b + 15) = false from beq_eq_false_iff_ne.mpr (by omega)]
  rcases h14 with z | z
  · rw [show (b + o == b + 14) = false from beq_eq_false_iff_ne.mpr (by omega)]; rfl
  · rw [show (j == 1) = false from beq_eq_false_iff_ne.mpr z, Bool.and_false]; rfl) (fun o j ho e => by
  unfold lX at e
  rw [Bool.or_eq_true, Bool.and_eq_true, beq_iff_eq, beq_iff_eq, beq_iff_eq] at e
  omega)
theorem LOG.fr {X : Nat → Nat → Bool} {h g : AH} {b : Nat} {E : List Int32} (L : LOG h b E) (F : Fr X h g) (h1 : X (b + 14) 1 = false) (h2 : ∀ j, X (b + 15) j = false) : LOG g b E := ⟨L.1, (F.I _ _ h1).trans L.2.1, fun j x hj => (F.I _ _ (h2 j)).trans (L.2.2 j x hj)⟩
/-- an act: what, first, second -/
abbrev AC : Type := Option (Nat × Nat × Nat)
def acK (K : Nat → Int32) (a : AC) : Nat → Int32 := match a with
  | none => K
  | some (0, t, p) => upK K p (nI t)
  | some (1, p, q) => swK K p q
  | some (2, _, p) => upK K p (-1)
  | some (_, _, _) => upK K 6 (K 6 + nI 1)
def acE (E : List Int32) (a : AC) : List Int32 := match a with
  | none => E
  | some (o, f, s) => lgA E (lgE o f s)
def canD (K : Nat → Int32) (fl : Option (List CLE)) (np t p : Nat) : Bool := decide (K p = -1) && decide (hOf K (nI t) np = -1) && !oBr K fl p t
def drR (K : Nat → Int32) (fl : Option (List CLE)) (np nt : Nat) (t p : Int32) : Int32 × AC := if (inN t nt && inN p np) = true then (if canD K fl np (ix t) (ix p) = true then (K (67 + ix t), some (0, ix t, ix p)) else (-nI 3, none)) else (-nI 2, none)
/-- what an act leaves in the class -/
def AcQ (h : AH) (b : Nat) (K : Nat → Int32) (fl : Option (List CLE)) (np nt : Nat) (E : List Int32) (q : Int32 × AC) (r : Option Value) (h' : AH) : Prop := r = some (.int q.1) ∧ Fr (aX b) h h' ∧ JS h' b (acK K q.2) fl ∧ HM h' b (acK K q.2) np nt ∧ LOG h' b (acE E q.2)
theorem aX_j {h g : AH} {b : Nat} (F : Fr jX h g) : Fr (aX b) h g := F.weak (fun k j hx => by unfold aX at hx; rw [Bool.or_eq_false_iff] at hx; exact hx.1)
theorem aX_h {h g : AH} {b : Nat} (F : Fr (hX b) h g) : Fr (aX b) h g := F.weak (fun k j hx => by unfold aX at hx; rw [Bool.or_eq_false_iff] at hx; exact hx.2)
theorem hX_l {h g : AH} {b : Nat} (F : Fr (lX b) h g) : Fr (hX b) h g := F.weak (fun k j hx => by unfold hX at hx; rw [Bool.or_eq_false_iff] at hx; exact hx.2)
section Act
variable (d : Nat) {h : AH} {b : Nat} {K : Nat → Int32} {fl : Option (List CLE)} {np nt : Nat} {E : List Int32}
theorem t_give (A : HOK h b) {t p : Nat} (ht : t < 8) (hp : p < 6) : Rp d M_X2_give 0 [some (.ref b), some (.int (nI t)), some (.int (nI p))] [] h (fun r h' => h' = sI (sI h (b + 7) t (nI p)) (b + 3) p (nI t) ∧ r = none) := by
  refine Rp.aload_n dX2_give_0 rfl rfl ?_
  refine Rp.getR dX2_give_1 fk_X2_30 rfl (A.1 0 _ rfl) (A.2 0 8 7 rfl) ?_
  refine Rp.iload_n dX2_give_4 rfl ?_
  refine Rp.iload_n dX2_give_5 rfl ?_
  first | ((with_reducible show Rp _ _ _ _ (_ :: .int (nI _) :: _) _ _); refine Rp.iastoreN dX2_give_6 (A.1 7 _ rfl) (by omega) ?_) | refine Rp.iastore dX2_give_6 (A.1 7 _ rfl) (by first | assumption | exact vpb (by decide)) ?_
  refine Rp.aload_n dX2_give_7 rfl rfl ?_
  refine Rp.getR dX2_give_8 fk_X2_18 rfl (A.1 0 _ rfl) (A.2 0 3 3 rfl) ?_
  refine Rp.iload_n dX2_give_11 rfl ?_
  refine Rp.iload_n dX2_give_12 rfl ?_
  first | ((with_reducible show Rp _ _ _ _ (_ :: .int (nI _) :: _) _ _); refine Rp.iastoreN dX2_give_13 (A.1 3 _ rfl) (by omega) ?_) | refine Rp.iastore dX2_give_13 (A.1 3 _ rfl) (by first | assumption | exact vpb (by decide)) ?_
  refine Rp.vreturn dX2_give_14 rfl ?_
  exact ⟨rfl, rfl⟩
theorem t_ungive (A : HOK h b) {t p : Nat} (ht : t < 8) (hp : p < 6) : Rp d M_X2_ungive 0 [some (.ref b), some (.int (nI t)), some (.int (nI p))] [] h (fun r h' => h' = sI (sI h (b + 7) t (-1)) (b + 3) p (-1) ∧ r = none) := by
  refine Rp.aload_n dX2_ungive_0 rfl rfl ?_
  refine Rp.getR dX2_ungive_1 fk_X2_30 rfl (A.1 0 _ rfl) (A.2 0 8 7 rfl) ?_
  refine Rp.iload_n dX2_ungive_4 rfl ?_
  refine Rp.iconst (-1) dX2_ungive_5 (by decide) ?_
  first | ((with_reducible show Rp _ _ _ _ (_ :: .int (nI _) :: _) _ _); refine Rp.iastoreN dX2_ungive_6 (A.1 7 _ rfl) (by omega) ?_) | refine Rp.iastore dX2_ungive_6 (A.1 7 _ rfl) (by first | assumption | exact vpb (by decide)) ?_
  refine Rp.aload_n dX2_ungive_7 rfl rfl ?_
  refine Rp.getR dX2_ungive_8 fk_X2_18 rfl (A.1 0 _ rfl) (A.2 0 3 3 rfl) ?_
  refine Rp.iload_n dX2_ungive_11 rfl ?_
  refine Rp.iconst (-1) dX2_ungive_12 (by decide) ?_
  first | ((with_reducible show Rp _ _ _ _ (_ :: .int (nI _) :: _) _ _); refine Rp.iastoreN dX2_ungive_13 (A.1 3 _ rfl) (by omega) ?_) | refine Rp.iastore dX2_ungive_13 (A.1 3 _ rfl) (by first | assumption | exact vpb (by decide)) ?_
  refine Rp.vreturn dX2_ungive_14 rfl ?_
  exact ⟨rfl, rfl⟩
theorem t_cross (A : HOK h b) {p q t u : Nat} (hp : p < 6) (hq : q < 6) (ht : t < 8) (hu : u < 8) (e1 : gI h (b + 3) p = nI t) (e2 : gI h (b + 3) q = nI u) : Rp (d + 1) M_X2_cross 0 [some (.ref b), some (.int (nI p)), some (.int (nI q)), none] [] h (fun r h' => h' = sI (sI (sI (sI h (b + 7) u (nI p)) (b + 3) p (nI u)) (b + 7) t (nI q)) (b + 3) q (nI t) ∧ r = none) := by
  have g1 := t_give d A hu hp
  have g2 := t_give d (h := sI (sI h (b + 7) u (nI p)) (b + 3) p (nI u)) (A.moved rfl (fun _ _ => rfl)) ht hq
  refine Rp.aload_n dX2_cross_0 rfl rfl ?_
  refine Rp.getR dX2_cross_1 fk_X2_18 rfl (A.1 0 _ rfl) (A.2 0 3 3 rfl) ?_
  refine Rp.iload_n dX2_cross_4 rfl ?_
  first | ((with_reducible show Rp _ _ _ _ (.int (nI _) :: _) _ _); refine Rp.ialoadN dX2_cross_5 (A.1 3 _ rfl) (by omega) ?_) | refine Rp.iaload dX2_cross_5 (A.1 3 _ rfl) (by first | assumption | exact vpb (by decide)) ?_
  first | rw [e1] | rw [e2] | skip
  refine Rp.ist3 dX2_cross_6 (by first | exact nl2_some rfl | exact nl2_none) (by decide) ?_
  refine Rp.aload_n dX2_cross_7 rfl rfl ?_
  refine Rp.aload_n dX2_cross_8 rfl rfl ?_
  refine Rp.getR dX2_cross_9 fk_X2_18 rfl (A.1 0 _ rfl) (A.2 0 3 3 rfl) ?_
  refine Rp.iload_n dX2_cross_12 rfl ?_
  first | ((with_reducible show Rp _ _ _ _ (.int (nI _) :: _) _ _); refine Rp.ialoadN dX2_cross_13 (A.1 3 _ rfl) (by omega) ?_) | refine Rp.iaload dX2_cross_13 (A.1 3 _ rfl) (by first | assumption | exact vpb (by decide)) ?_
  first | rw [e1] | rw [e2] | skip
  refine Rp.iload_n dX2_cross_14 rfl ?_
  refine Rp.callV2 M_X2_give (ci := 2) dX2_cross_15 mo_X2_give lk_X2_104 (by decide) rfl rfl (A.1 0 _ rfl) (Nat.le_of_ble_eq_true rfl) (Nat.le_of_ble_eq_true rfl) (g1) (fun v1 h1 p1 x1 => ?_)
  rw [p1.1, p1.2]
  try dsimp only [Option.toList, List.cons_append, List.nil_append, List.append]
  refine Rp.aload_n dX2_cross_18 rfl rfl ?_
  refine Rp.iload_n dX2_cross_19 rfl ?_
  refine Rp.iload_n dX2_cross_20 rfl ?_
  refine Rp.callV2 M_X2_give (ci := 2) dX2_cross_21 mo_X2_give lk_X2_104 (by decide) rfl rfl (A.1 0 _ rfl) (Nat.le_of_ble_eq_true rfl) (Nat.le_of_ble_eq_true rfl) (g2) (fun v1 h1 p1 x1 => ?_)
  rw [p1.1, p1.2]
  try dsimp only [Option.toList, List.cons_append, List.nil_append, List.append]
  refine Rp.vreturn dX2_cross_24 rfl ?_
  exact ⟨rfl, rfl⟩
theorem AcQ_no {x : Int32} {h' : AH} (hb : b ≤ 17) (M : HM h b K np nt) (L : LOG h b E) (F : Fr jX h h') (J : JS h' b K fl) : AcQ h b K fl np nt E (x, none) (some (.int x)) h' := ⟨rfl, aX_j F, J, M.fj hb F, L.fr F (jX_b hb (by decide)) (fun j => jX_b hb (by decide))⟩
theorem t_takeUp (S : ShOK h) (R : RfOK h) (J : JS h b K fl) (B : KB K) (M : HM h b K np nt) (L : LOG h b E) (t p : Int32) : Rp (d + 3) M_X0_takeUp 0 [some (.ref 45), some (.ref b), some (.int t), some (.int p)] [] h (AcQ h b K fl np nt E (drR K fl np nt t p)) := by
  obtain ⟨⟨v1, v2, v3, v4⟩, A, m3, m4, m5, m6⟩ := M
  have M : HM h b K np nt := ⟨⟨v1, v2, v3, v4⟩, A, m3, m4, m5, m6⟩
  have hb : b ≤ 17 := by have := J.2.2.1.1; omega
  have q1 := t_isTicket (d + 2) (k := b) (A.1 0 _ rfl) t v2 m4
  have q2 := t_isPerson (d + 2) (k := b) (A.1 0 _ rfl) p v1 m3
  unfold drR
  by_cases e1 : inN t nt = true
  · rw [e1] at q1
    by_cases e2 : inN p np = true
    · rw [e2] at q2
      rw [if_pos (by rw [e1, e2]; rfl)]
      obtain ⟨u, hu, rfl⟩ := (inN_iff (by omega)).mp e1
      obtain ⟨w, hw, rfl⟩ := (inN_iff (by omega)).mp e2
      rw [ix_nI (by omega), ix_nI (by omega)]
      have eh := m5 w (by omega)
      have eo := m6 u (by omega)
      have ib := t_isBarredJ d S R J B (p := w) (t := u) (by omega) (by omega)
      by_cases c1 : K w = -1
      · by_cases c2 : hOf K (nI u) np = -1
        · rw [c1] at eh
          rw [c2] at eo
          refine Rp.aload_n dX0_takeUp_0 rfl rfl ?_
          refine Rp.iload_n dX0_takeUp_1 rfl ?_
          refine Rp.callV1 M_X2_isTicket (ci := 2) dX0_takeUp_2 mo_X2_isTicket lk_X0_15 (by decide) rfl rfl (A.1 0 _ rfl) (Nat.le_of_ble_eq_true rfl) (Nat.le_of_ble_eq_true rfl) (q1) (fun v1 h1 p1 x1 => ?_)
          rw [p1.1, p1.2]
          try dsimp only [Option.toList, List.cons_append, List.nil_append, List.append]
          first | ((with_reducible show Rp _ _ _ _ (.int (b2i _) :: _) _ _); refine Rp.if_eqB (tgt := 16) dX0_takeUp_5 (by decide) (fun c5 => ?_) (fun c5 => ?_)) | ((with_reducible show Rp _ _ _ _ (.int (nI _) :: _) _ _); refine Rp.if_eqN (tgt := 16) dX0_takeUp_5 (by decide) (by omega) (fun c5 => ?_) (fun c5 => ?_)) | refine Rp.if_eq (tgt := 16) dX0_takeUp_5 (by decide) (fun c5 => ?_) (fun c5 => ?_)
          · cases c5
          refine Rp.aload_n dX0_takeUp_8 rfl rfl ?_
          refine Rp.iload_n dX0_takeUp_9 rfl ?_
          refine Rp.callV1 M_X2_isPerson (ci := 2) dX0_takeUp_10 mo_X2_isPerson lk_X0_21 (by decide) rfl rfl (A.1 0 _ rfl) (Nat.le_of_ble_eq_true rfl) (Nat.le_of_ble_eq_true rfl) (q2) (fun v1 h1 p1 x1 => ?_)
          rw [p1.1, p1.2]
          try dsimp only [Option.toList, List.cons_append, List.nil_append, List.append]
          first | ((with_reducible show Rp _ _ _ _ (.int (b2i _) :: _) _ _); refine Rp.if_neB (tgt := 19) dX0_takeUp_13 (by decide) (fun c13 => ?_) (fun c13 => ?_)) | ((with_reducible show Rp _ _ _ _ (.int (nI _) :: _) _ _); refine Rp.if_neN (tgt := 19) dX0_takeUp_13 (by decide) (by omega) (fun c13 => ?_) (fun c13 => ?_)) | refine Rp.if_ne (tgt := 19) dX0_takeUp_13 (by decide) (fun c13 => ?_) (fun c13 => ?_)
          rotate_left
          · cases c13
          refine Rp.aload_n dX0_takeUp_19 rfl rfl ?_
          refine Rp.getR dX0_takeUp_20 fk_X0_24 rfl (A.1 0 _ rfl) (A.2 0 3 3 rfl) ?_
          refine Rp.iload_n dX0_takeUp_23 rfl ?_
          first | ((with_reducible show Rp _ _ _ _ (.int (nI _) :: _) _ _); refine Rp.ialoadN dX0_takeUp_24 (A.1 3 _ rfl) (by omega) ?_) | refine Rp.iaload dX0_takeUp_24 (A.1 3 _ rfl) (by first | assumption | exact vpb (by decide)) ?_
          first | rw [eh] | rw [eo] | skip
          refine Rp.iconst (-1) dX0_takeUp_25 (by decide) ?_
          first | ((with_reducible show Rp _ _ _ _ (.int (nI _) :: .int (nI _) :: _) _ _); refine Rp.icmp_neN (tgt := 51) dX0_takeUp_26 (by decide) (by omega) (fun c26 => ?_) (fun c26 => ?_)) | refine Rp.icmp_ne (tgt := 51) dX0_takeUp_26 (by decide) (fun c26 => ?_) (fun c26 => ?_)
          · exact absurd rfl c26
          refine Rp.aload_n dX0_takeUp_29 rfl rfl ?_
          refine Rp.getR dX0_takeUp_30 fk_X0_28 rfl (A.1 0 _ rfl) (A.2 0 8 7 rfl) ?_
          refine Rp.iload_n dX0_takeUp_33 rfl ?_
          first | ((with_reducible show Rp _ _ _ _ (.int (nI _) :: _) _ _); refine Rp.ialoadN dX0_takeUp_34 (A.1 7 _ rfl) (by omega) ?_) | refine Rp.iaload dX0_takeUp_34 (A.1 7 _ rfl) (by first | assumption | exact vpb (by decide)) ?_
          first | rw [eh] | rw [eo] | skip
          refine Rp.iconst (-1) dX0_takeUp_35 (by decide) ?_
          first | ((with_reducible show Rp _ _ _ _ (.int (nI _) :: .int (nI _) :: _) _ _); refine Rp.icmp_neN (tgt := 51) dX0_takeUp_36 (by decide) (by omega) (fun c36 => ?_) (fun c36 => ?_)) | refine Rp.icmp_ne (tgt := 51) dX0_takeUp_36 (by decide) (fun c36 => ?_) (fun c36 => ?_)
          · exact absurd rfl c36
          refine Rp.aload_n dX0_takeUp_39 rfl rfl ?_
          refine Rp.getR dX0_takeUp_40 fk_X0_9 rfl (S _ _ rfl) (R _ _ _ rfl) ?_
          refine Rp.iload_n dX0_takeUp_43 rfl ?_
          refine Rp.iload_n dX0_takeUp_44 rfl ?_
          refine Rp.callV2 M_X3_isBarred (ci := 3) dX0_takeUp_45 mo_X3_isBarred lk_X0_31 (by decide) rfl rfl (S _ _ rfl) (Nat.le_of_ble_eq_true rfl) (Nat.le_of_ble_eq_true rfl) (ib) (fun v1 h1 p1 x1 => ?_)
          obtain ⟨F1, J1, rfl⟩ := p1
          try dsimp only [Option.toList, List.cons_append, List.nil_append, List.append]
          skip
          have M1 := M.fj hb F1
          have L1 := L.fr F1 (jX_b hb (by decide)) (fun j => jX_b hb (by decide))
          have A1 := M1.2.1
          cases e3 : oBr K fl w u
          · rw [if_pos (show canD K fl np u w = true by unfold canD; rw [decide_eq_true c1, decide_eq_true c2, e3]; rfl)]
            have gv := t_give (d + 2) A1 (t := u) (p := w) (by omega) (by omega)
            have M2 := M1.give (t := u) (p := w) hw hu c1 c2
            have F2 : Fr (hX b) h1 (sI (sI h1 (b + 7) u (nI w)) (b + 3) w (nI u)) := (Fr.rfl'.sI (by unfold hX; simp)).sI (by unfold hX; simp)
            have L2 : LOG (sI (sI h1 (b + 7) u (nI w)) (b + 3) w (nI u)) b E := ⟨L1.1, by rw [gI_ne _ _ _ _ (by omega), gI_ne _ _ _ _ (by omega)]; exact L1.2.1, fun j x hj => by rw [gI_ne _ _ _ _ (by omega), gI_ne _ _ _ _ (by omega)]; exact L1.2.2 j x hj⟩
            have A2 := M2.2.1
            have ad := t_addL (d + 1) A2 L2 (o := 0) (f := u) (s := w) (by decide) (by omega) (by omega)
            first | ((with_reducible show Rp _ _ _ _ (.int (b2i _) :: _) _ _); refine Rp.if_eqB (tgt := 54) dX0_takeUp_48 (by decide) (fun c48 => ?_) (fun c48 => ?_)) | ((with_reducible show Rp _ _ _ _ (.int (nI _) :: _) _ _); refine Rp.if_eqN (tgt := 54) dX0_takeUp_48 (by decide) (by omega) (fun c48 => ?_) (fun c48 => ?_)) | refine Rp.if_eq (tgt := 54) dX0_takeUp_48 (by decide) (fun c48 => ?_) (fun c48 => ?_)
            rotate_left
            · cases c48
            refine Rp.aload_n dX0_takeUp_54 rfl rfl ?_
            refine Rp.iload_n dX0_takeUp_55 rfl ?_
            refine Rp.iload_n dX0_takeUp_56 rfl ?_
            refine Rp.callV2 M_X2_give (ci := 2) dX0_takeUp_57 mo_X2_give lk_X0_37 (by decide) rfl rfl (A1.1 0 _ rfl) (Nat.le_of_ble_eq_true rfl) (Nat.le_of_ble_eq_true rfl) (gv) (fun v1 h1 p1 x1 => ?_)
            rw [p1.1, p1.2]
            try dsimp only [Option.toList, List.cons_append, List.nil_append, List.append]
            refine Rp.aload_n dX0_takeUp_60 rfl rfl ?_
            refine Rp.getR dX0_takeUp_61 fk_X0_41 rfl (A1.1 0 _ rfl) (A2.2 0 19 14 rfl) ?_
            refine Rp.iconst (nI 0) dX0_takeUp_64 (by decide) ?_
            refine Rp.iload_n dX0_takeUp_65 rfl ?_
            refine Rp.iload_n dX0_takeUp_66 rfl ?_
            refine Rp.callV3 M_X4_add (ci := 4) dX0_takeUp_67 mo_X4_add lk_X0_45 (by decide) rfl rfl (A2.1 14 _ rfl) (Nat.le_of_ble_eq_true rfl) (Nat.le_of_ble_eq_true rfl) (ad) (fun v1 h1 p1 x1 => ?_)
            obtain ⟨rfl, F3, L3⟩ := p1
            try dsimp only [Option.toList, List.cons_append, List.nil_append, List.append]
            skip
            have F4 := F2.trans (hX_l F3)
            have J4 := (J1.fh F4).congr (K' := upK K w (nI u)) (fun j hj => by unfold upK; rw [if_neg (by omega)])
            have M4 := M2.fl F3
            have A4 := M4.2.1
            have en := (J1.fh F4).2.2.1.2.2.2.2.1 u (by omega)
            refine Rp.aload_n dX0_takeUp_70 rfl rfl ?_
            refine Rp.getR dX0_takeUp_71 fk_X0_51 rfl (A4.1 0 _ rfl) (A4.2 0 6 5 rfl) ?_
            refine Rp.iload_n dX0_takeUp_74 rfl ?_
            first | ((with_reducible show Rp _ _ _ _ (.int (nI _) :: _) _ _); refine Rp.ialoadN dX0_takeUp_75 (A4.1 5 _ rfl) (by omega) ?_) | refine Rp.iaload dX0_takeUp_75 (A4.1 5 _ rfl) (by first | assumption | exact vpb (by decide)) ?_
            first | rw [en] | skip
            refine Rp.ireturn dX0_takeUp_76 rfl ?_
            exact ⟨rfl, (aX_j F1).trans (aX_h F4), J4, M4, L3⟩
          · rw [if_neg (show ¬ canD K fl np u w = true by unfold canD; rw [e3]; simp)]
            first | ((with_reducible show Rp _ _ _ _ (.int (b2i _) :: _) _ _); refine Rp.if_eqB (tgt := 54) dX0_takeUp_48 (by decide) (fun c48 => ?_) (fun c48 => ?_)) | ((with_reducible show Rp _ _ _ _ (.int (nI _) :: _) _ _); refine Rp.if_eqN (tgt := 54) dX0_takeUp_48 (by decide) (by omega) (fun c48 => ?_) (fun c48 => ?_)) | refine Rp.if_eq (tgt := 54) dX0_takeUp_48 (by decide) (fun c48 => ?_) (fun c48 => ?_)
            · skip
              cases c48
            · skip
              refine Rp.bipush (-3) dX0_takeUp_51 (by decide) ?_
              refine Rp.ireturn dX0_takeUp_53 rfl ?_
              exact AcQ_no hb M L F1 J1
        · rw [if_neg (show ¬ canD K fl np u w = true by unfold canD; rw [decide_eq_false c2]; simp)]
          rw [c1] at eh
          refine Rp.aload_n dX0_takeUp_0 rfl rfl ?_
          refine Rp.iload_n dX0_takeUp_1 rfl ?_
          refine Rp.callV1 M_X2_isTicket (ci := 2) dX0_takeUp_2 mo_X2_isTicket lk_X0_15 (by decide) rfl rfl (A.1 0 _ rfl) (Nat.le_of_ble_eq_true rfl) (Nat.le_of_ble_eq_true rfl) (q1) (fun v1 h1 p1 x1 => ?_)
          rw [p1.1, p1.2]
          try dsimp only [Option.toList, List.cons_append, List.nil_append, List.append]
          first | ((with_reducible show Rp _ _ _ _ (.int (b2i _) :: _) _ _); refine Rp.if_eqB (tgt := 16) dX0_takeUp_5 (by decide) (fun c5 => ?_) (fun c5 => ?_)) | ((with_reducible show Rp _ _ _ _ (.int (nI _) :: _) _ _); refine Rp.if_eqN (tgt := 16) dX0_takeUp_5 (by decide) (by omega) (fun c5 => ?_) (fun c5 => ?_)) | refine Rp.if_eq (tgt := 16) dX0_takeUp_5 (by decide) (fun c5 => ?_) (fun c5 => ?_)
          · skip
            cases c5
          · skip
            refine Rp.aload_n dX0_takeUp_8 rfl rfl ?_
            refine Rp.iload_n dX0_takeUp_9 rfl ?_
            refine Rp.callV1 M_X2_isPerson (ci := 2) dX0_takeUp_10 mo_X2_isPerson lk_X0_21 (by decide) rfl rfl (A.1 0 _ rfl) (Nat.le_of_ble_eq_true rfl) (Nat.le_of_ble_eq_true rfl) (q2) (fun v1 h1 p1 x1 => ?_)
            rw [p1.1, p1.2]
            try dsimp only [Option.toList, List.cons_append, List.nil_append, List.append]
            first | ((with_reducible show Rp _ _ _ _ (.int (b2i _) :: _) _ _); refine Rp.if_neB (tgt := 19) dX0_takeUp_13 (by decide) (fun c13 => ?_) (fun c13 => ?_)) | ((with_reducible show Rp _ _ _ _ (.int (nI _) :: _) _ _); refine Rp.if_neN (tgt := 19) dX0_takeUp_13 (by decide) (by omega) (fun c13 => ?_) (fun c13 => ?_)) | refine Rp.if_ne (tgt := 19) dX0_takeUp_13 (by decide) (fun c13 => ?_) (fun c13 => ?_)
            · skip
              refine Rp.aload_n dX0_takeUp_19 rfl rfl ?_
              refine Rp.getR dX0_takeUp_20 fk_X0_24 rfl (A.1 0 _ rfl) (A.2 0 3 3 rfl) ?_
              refine Rp.iload_n dX0_takeUp_23 rfl ?_
              first | ((with_reducible show Rp _ _ _ _ (.int (nI _) :: _) _ _); refine Rp.ialoadN dX0_takeUp_24 (A.1 3 _ rfl) (by omega) ?_) | refine Rp.iaload dX0_takeUp_24 (A.1 3 _ rfl) (by first | assumption | exact vpb (by decide)) ?_
              first | rw [eh] | rw [eo] | skip
              refine Rp.iconst (-1) dX0_takeUp_25 (by decide) ?_
              first | ((with_reducible show Rp _ _ _ _ (.int (nI _) :: .int (nI _) :: _) _ _); refine Rp.icmp_neN (tgt := 51) dX0_takeUp_26 (by decide) (by omega) (fun c26 => ?_) (fun c26 => ?_)) | refine Rp.icmp_ne (tgt := 51) dX0_takeUp_26 (by decide) (fun c26 => ?_) (fun c26 => ?_)
              · skip
                exact absurd rfl c26
              · skip
                refine Rp.aload_n dX0_takeUp_29 rfl rfl ?_
                refine Rp.getR dX0_takeUp_30 fk_X0_28 rfl (A.1 0 _ rfl) (A.2 0 8 7 rfl) ?_
                refine Rp.iload_n dX0_takeUp_33 rfl ?_
                first | ((with_reducible show Rp _ _ _ _ (.int (nI _) :: _) _ _); refine Rp.ialoadN dX0_takeUp_34 (A.1 7 _ rfl) (by omega) ?_) | refine Rp.iaload dX0_takeUp_34 (A.1 7 _ rfl) (by first | assumption | exact vpb (by decide)) ?_
                first | rw [eh] | rw [eo] | skip
                refine Rp.iconst (-1) dX0_takeUp_35 (by decide) ?_
                first | ((with_reducible show Rp _ _ _ _ (.int (nI _) :: .int (nI _) :: _) _ _); refine Rp.icmp_neN (tgt := 51) dX0_takeUp_36 (by decide) (by omega) (fun c36 => ?_) (fun c36 => ?_)) | refine Rp.icmp_ne (tgt := 51) dX0_takeUp_36 (by decide) (fun c36 => ?_) (fun c36 => ?_)
                · skip
                  refine Rp.bipush (-3) dX0_takeUp_51 (by decide) ?_
                  refine Rp.ireturn dX0_takeUp_53 rfl ?_
                  exact AcQ_no hb M L Fr.rfl' J
                · skip
                  exact absurd c36 c2
            · skip
              cases c13
      · rw [if_neg (show ¬ canD K fl np u w = true by unfold canD; rw [decide_eq_false c1]; simp)]
        refine Rp.aload_n dX0_takeUp_0 rfl rfl ?_
        refine Rp.iload_n dX0_takeUp_1 rfl ?_
        refine Rp.callV1 M_X2_isTicket (ci := 2) dX0_takeUp_2 mo_X2_isTicket lk_X0_15 (by decide) rfl rfl (A.1 0 _ rfl) (Nat.le_of_ble_eq_true rfl) (Nat.le_of_ble_eq_true rfl) (q1) (fun v1 h1 p1 x1 => ?_)
        rw [p1.1, p1.2]
        try dsimp only [Option.toList, List.cons_append, List.nil_append, List.append]
        first | ((with_reducible show Rp _ _ _ _ (.int (b2i _) :: _) _ _); refine Rp.if_eqB (tgt := 16) dX0_takeUp_5 (by decide) (fun c5 => ?_) (fun c5 => ?_)) | ((with_reducible show Rp _ _ _ _ (.int (nI _) :: _) _ _); refine Rp.if_eqN (tgt := 16) dX0_takeUp_5 (by decide) (by omega) (fun c5 => ?_) (fun c5 => ?_)) | refine Rp.if_eq (tgt := 16) dX0_takeUp_5 (by decide) (fun c5 => ?_) (fun c5 => ?_)
        · skip
          cases c5
        · skip
          refine Rp.aload_n dX0_takeUp_8 rfl rfl ?_
          refine Rp.iload_n dX0_takeUp_9 rfl ?_
          refine Rp.callV1 M_X2_isPerson (ci := 2) dX0_takeUp_10 mo_X2_isPerson lk_X0_21 (by decide) rfl rfl (A.1 0 _ rfl) (Nat.le_of_ble_eq_true rfl) (Nat.le_of_ble_eq_true rfl) (q2) (fun v1 h1 p1 x1 => ?_)
          rw [p1.1, p1.2]
          try dsimp only [Option.toList, List.cons_append, List.nil_append, List.append]
          first | ((with_reducible show Rp _ _ _ _ (.int (b2i _) :: _) _ _); refine Rp.if_neB (tgt := 19) dX0_takeUp_13 (by decide) (fun c13 => ?_) (fun c13 => ?_)) | ((with_reducible show Rp _ _ _ _ (.int (nI _) :: _) _ _); refine Rp.if_neN (tgt := 19) dX0_takeUp_13 (by decide) (by omega) (fun c13 => ?_) (fun c13 => ?_)) | refine Rp.if_ne (tgt := 19) dX0_takeUp_13 (by decide) (fun c13 => ?_) (fun c13 => ?_)
          · skip
            refine Rp.aload_n dX0_takeUp_19 rfl rfl ?_
            refine Rp.getR dX0_takeUp_20 fk_X0_24 rfl (A.1 0 _ rfl) (A.2 0 3 3 rfl) ?_
            refine Rp.iload_n dX0_takeUp_23 rfl ?_
            first | ((with_reducible show Rp _ _ _ _ (.int (nI _) :: _) _ _); refine Rp.ialoadN dX0_takeUp_24 (A.1 3 _ rfl) (by omega) ?_) | refine Rp.iaload dX0_takeUp_24 (A.1 3 _ rfl) (by first | assumption | exact vpb (by decide)) ?_
            first | rw [eh] | skip
            refine Rp.iconst (-1) dX0_takeUp_25 (by decide) ?_
            first | ((with_reducible show Rp _ _ _ _ (.int (nI _) :: .int (nI _) :: _) _ _); refine Rp.icmp_neN (tgt := 51) dX0_takeUp_26 (by decide) (by omega) (fun c26 => ?_) (fun c26 => ?_)) | refine Rp.icmp_ne (tgt := 51) dX0_takeUp_26 (by decide) (fun c26 => ?_) (fun c26 => ?_)
            · skip
              refine Rp.bipush (-3) dX0_takeUp_51 (by decide) ?_
              refine Rp.ireturn dX0_takeUp_53 rfl ?_
              exact AcQ_no hb M L Fr.rfl' J
            · skip
              exact absurd c26 c1
          · skip
            cases c13
    · have e2 : inN p np = false := Bool.eq_false_iff.mpr e2
      rw [e2] at q2
      rw [if_neg (by rw [e2, Bool.and_false]; decide)]
      refine Rp.aload_n dX0_takeUp_0 rfl rfl ?_
      refine Rp.iload_n dX0_takeUp_1 rfl ?_
      refine Rp.callV1 M_X2_isTicket (ci := 2) dX0_takeUp_2 mo_X2_isTicket lk_X0_15 (by decide) rfl rfl (A.1 0 _ rfl) (Nat.le_of_ble_eq_true rfl) (Nat.le_of_ble_eq_true rfl) (q1) (fun v1 h1 p1 x1 => ?_)
      rw [p1.1, p1.2]
      try dsimp only [Option.toList, List.cons_append, List.nil_append, List.append]
      first | ((with_reducible show Rp _ _ _ _ (.int (b2i _) :: _) _ _); refine Rp.if_eqB (tgt := 16) dX0_takeUp_5 (by decide) (fun c5 => ?_) (fun c5 => ?_)) | ((with_reducible show Rp _ _ _ _ (.int (nI _) :: _) _ _); refine Rp.if_eqN (tgt := 16) dX0_takeUp_5 (by decide) (by omega) (fun c5 => ?_) (fun c5 => ?_)) | refine Rp.if_eq (tgt := 16) dX0_takeUp_5 (by decide) (fun c5 => ?_) (fun c5 => ?_)
      · skip
        cases c5
      · skip
        refine Rp.aload_n dX0_takeUp_8 rfl rfl ?_
        refine Rp.iload_n dX0_takeUp_9 rfl ?_
        refine Rp.callV1 M_X2_isPerson (ci := 2) dX0_takeUp_10 mo_X2_isPerson lk_X0_21 (by decide) rfl rfl (A.1 0 _ rfl) (Nat.le_of_ble_eq_true rfl) (Nat.le_of_ble_eq_true rfl) (q2) (fun v1 h1 p1 x1 => ?_)
        rw [p1.1, p1.2]
        try dsimp only [Option.toList, List.cons_append, List.nil_append, List.append]
        first | ((with_reducible show Rp _ _ _ _ (.int (b2i _) :: _) _ _); refine Rp.if_neB (tgt := 19) dX0_takeUp_13 (by decide) (fun c13 => ?_) (fun c13 => ?_)) | ((with_reducible show Rp _ _ _ _ (.int (nI _) :: _) _ _); refine Rp.if_neN (tgt := 19) dX0_takeUp_13 (by decide) (by omega) (fun c13 => ?_) (fun c13 => ?_)) | refine Rp.if_ne (tgt := 19) dX0_takeUp_13 (by decide) (fun c13 => ?_) (fun c13 => ?_)
        · skip
          cases c13
        · skip
          refine Rp.bipush (-2) dX0_takeUp_16 (by decide) ?_
          refine Rp.ireturn dX0_takeUp_18 rfl ?_
          exact AcQ_no hb M L Fr.rfl' J
  · have e1 : inN t nt = false := Bool.eq_false_iff.mpr e1
    rw [e1] at q1
    rw [if_neg (by rw [e1, Bool.false_and]; decide)]
    refine Rp.aload_n dX0_takeUp_0 rfl rfl ?_
    refine Rp.iload_n dX0_takeUp_1 rfl ?_
    refine Rp.callV1 M_X2_isTicket (ci := 2) dX0_takeUp_2 mo_X2_isTicket lk_X0_15 (by decide) rfl rfl (A.1 0 _ rfl) (Nat.le_of_ble_eq_true rfl) (Nat.le_of_ble_eq_true rfl) (q1) (fun v1 h1 p1 x1 => ?_)
    rw [p1.1, p1.2]
    try dsimp only [Option.toList, List.cons_append, List.nil_append, List.append]
    first | ((with_reducible show Rp _ _ _ _ (.int (b2i _) :: _) _ _); refine Rp.if_eqB (tgt := 16) dX0_takeUp_5 (by decide) (fun c5 => ?_) (fun c5 => ?_)) | ((with_reducible show Rp _ _ _ _ (.int (nI _) :: _) _ _); refine Rp.if_eqN (tgt := 16) dX0_takeUp_5 (by decide) (by omega) (fun c5 => ?_) (fun c5 => ?_)) | refine Rp.if_eq (tgt := 16) dX0_takeUp_5 (by decide) (fun c5 => ?_) (fun c5 => ?_)
    · skip
      refine Rp.bipush (-2) dX0_takeUp_16 (by decide) ?_
      refine Rp.ireturn dX0_takeUp_18 rfl ?_
      exact AcQ_no hb M L Fr.rfl' J
    · skip
      cases c5
end Act
