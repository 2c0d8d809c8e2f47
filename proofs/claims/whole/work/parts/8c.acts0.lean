/-- an act where the judge has not begun -/
def AcH (h : AH) (b : Nat) (K : Nat → Int32) (np nt : Nat) (E : List Int32) (q : Int32 × AC) (r : Option Value) (h' : AH) : Prop := r = some (.int q.1) ∧ Fr (tkX b) h h' ∧ HJ h' b (acK K q.2) ∧ HM h' b (acK K q.2) np nt ∧ LOG h' b (acE E q.2) ∧ ∀ j, 9 ≤ j → gI h' 43 j = 0
theorem tkX_a {b : Nat} {h g : AH} (F : Fr (aX b) h g) : Fr (tkX b) h g := F.weak (fun k j hx => by unfold tkX at hx; rw [Bool.or_eq_false_iff, Bool.or_eq_false_iff] at hx; exact hx.1.1)
theorem HJ.cg6 {h : AH} {b : Nat} {K K' : Nat → Int32} (J : HJ h b K) (e : ∀ j, 6 ≤ j → K' j = K j) : HJ h b K' := by
  obtain ⟨j0, j1, j2, j3, j4, j5, j6, j7, j8⟩ := J
  exact ⟨j0, j1, fun p hp => (j2 p hp).trans (e _ (by omega)).symm, fun p hp => (j3 p hp).trans (e _ (by omega)).symm, fun p hp => (j4 p hp).trans (e _ (by omega)).symm, fun p hp => (j5 p hp).trans (e _ (by omega)).symm, fun p hp => (j6 p hp).trans (e _ (by omega)).symm, j7.trans (e _ (by omega)).symm, j8.trans (e _ (by omega)).symm⟩
section Act0
variable (d : Nat) {h : AH} {b : Nat} {K : Nat → Int32} {np nt : Nat} {E : List Int32}
theorem t_giveUp0 (J : HJ h b K) (hz0 : ∀ j, 9 ≤ j → gI h 43 j = 0) (M : HM h b K np nt) (L : LOG h b E) (p : Int32) : Rp (d + 3) M_X0_giveUp 0 [some (.ref 45), some (.ref b), some (.int p), none] [] h (AcH h b K np nt E (dpR K np p)) := by
  obtain ⟨⟨v1, v2, v3, v4⟩, A, m3, m4, m5, m6⟩ := M
  have M : HM h b K np nt := ⟨⟨v1, v2, v3, v4⟩, A, m3, m4, m5, m6⟩
  have hb : b ≤ 17 := by have := J.1; omega
  have q2 := t_isPerson (d + 2) (k := b) (A.1 0 _ rfl) p v1 m3
  unfold dpR
  by_cases e2 : inN p np = true
  · rw [e2] at q2
    rw [if_pos e2]
    obtain ⟨w, hw, rfl⟩ := (inN_iff (by omega)).mp e2
    rw [ix_nI (by omega)]
    have eh := m5 w (by omega)
    by_cases c1 : K w = -1
    · rw [if_pos c1]
      rw [c1] at eh
      refine Rp.aload_n dX0_giveUp_0 rfl rfl ?_
      refine Rp.iload_n dX0_giveUp_1 rfl ?_
      refine Rp.callV1 M_X2_isPerson (ci := 2) dX0_giveUp_2 mo_X2_isPerson lk_X0_21 (by decide) rfl rfl (A.1 0 _ rfl) (Nat.le_of_ble_eq_true rfl) (Nat.le_of_ble_eq_true rfl) (q2) (fun v1 h1 p1 x1 => ?_)
      rw [p1.1, p1.2]
      try dsimp only [Option.toList, List.cons_append, List.nil_append, List.append]
      first | ((with_reducible show Rp _ _ _ _ (.int (b2i _) :: _) _ _); refine Rp.if_neB (tgt := 11) dX0_giveUp_5 (by decide) (fun c5 => ?_) (fun c5 => ?_)) | ((with_reducible show Rp _ _ _ _ (.int (nI _) :: _) _ _); refine Rp.if_neN (tgt := 11) dX0_giveUp_5 (by decide) (by omega) (fun c5 => ?_) (fun c5 => ?_)) | refine Rp.if_ne (tgt := 11) dX0_giveUp_5 (by decide) (fun c5 => ?_) (fun c5 => ?_)
      · skip
        refine Rp.aload_n dX0_giveUp_11 rfl rfl ?_
        refine Rp.getR dX0_giveUp_12 fk_X0_24 rfl (A.1 0 _ rfl) (A.2 0 3 3 rfl) ?_
        refine Rp.iload_n dX0_giveUp_15 rfl ?_
        first | ((with_reducible show Rp _ _ _ _ (.int (nI _) :: _) _ _); refine Rp.ialoadN dX0_giveUp_16 (A.1 3 _ rfl) (by omega) ?_) | refine Rp.iaload dX0_giveUp_16 (A.1 3 _ rfl) (by first | assumption | exact vpb (by decide)) ?_
        first | rw [eh] | skip
        refine Rp.ist3 dX0_giveUp_17 (by first | exact nl2_some rfl | exact nl2_none) (by decide) ?_
        refine Rp.iload_n dX0_giveUp_18 rfl ?_
        refine Rp.iconst (-1) dX0_giveUp_19 (by decide) ?_
        first | ((with_reducible show Rp _ _ _ _ (.int (nI _) :: .int (nI _) :: _) _ _); refine Rp.icmp_neN (tgt := 26) dX0_giveUp_20 (by decide) (by omega) (fun c20 => ?_) (fun c20 => ?_)) | refine Rp.icmp_ne (tgt := 26) dX0_giveUp_20 (by decide) (fun c20 => ?_) (fun c20 => ?_)
        · skip
          exact absurd rfl c20
        · skip
          refine Rp.bipush (-3) dX0_giveUp_23 (by decide) ?_
          refine Rp.ireturn dX0_giveUp_25 rfl ?_
          exact ⟨rfl, Fr.rfl', J, M, L, hz0⟩
      · skip
        cases c5
    · rw [if_neg c1]
      obtain ⟨u, hu, eu⟩ := ((v3 w (by omega)).resolve_left c1).2
      rw [eu] at eh c1
      rw [eu, ix_nI (by omega)]
      have gv := t_ungive (d + 2) A (t := u) (p := w) (by omega) (by omega)
      have M2 := M.ungive (t := u) (p := w) hw hu eu
      have F2 : Fr (hX b) h (sI (sI h (b + 7) u (-1)) (b + 3) w (-1)) := (Fr.rfl'.sI (by unfold hX; simp)).sI (by unfold hX; simp)
      have L2 : LOG (sI (sI h (b + 7) u (-1)) (b + 3) w (-1)) b E := ⟨L.1, by rw [gI_ne _ _ _ _ (by omega), gI_ne _ _ _ _ (by omega)]; exact L.2.1, fun j x hj => by rw [gI_ne _ _ _ _ (by omega), gI_ne _ _ _ _ (by omega)]; exact L.2.2 j x hj⟩
      have A2 := M2.2.1
      have ad := t_addL (d + 1) A2 L2 (o := 2) (f := u) (s := w) (by decide) (by omega) (by omega)
      refine Rp.aload_n dX0_giveUp_0 rfl rfl ?_
      refine Rp.iload_n dX0_giveUp_1 rfl ?_
      refine Rp.callV1 M_X2_isPerson (ci := 2) dX0_giveUp_2 mo_X2_isPerson lk_X0_21 (by decide) rfl rfl (A.1 0 _ rfl) (Nat.le_of_ble_eq_true rfl) (Nat.le_of_ble_eq_true rfl) (q2) (fun v1 h1 p1 x1 => ?_)
      rw [p1.1, p1.2]
      try dsimp only [Option.toList, List.cons_append, List.nil_append, List.append]
      first | ((with_reducible show Rp _ _ _ _ (.int (b2i _) :: _) _ _); refine Rp.if_neB (tgt := 11) dX0_giveUp_5 (by decide) (fun c5 => ?_) (fun c5 => ?_)) | ((with_reducible show Rp _ _ _ _ (.int (nI _) :: _) _ _); refine Rp.if_neN (tgt := 11) dX0_giveUp_5 (by decide) (by omega) (fun c5 => ?_) (fun c5 => ?_)) | refine Rp.if_ne (tgt := 11) dX0_giveUp_5 (by decide) (fun c5 => ?_) (fun c5 => ?_)
      rotate_left
      · cases c5
      refine Rp.aload_n dX0_giveUp_11 rfl rfl ?_
      refine Rp.getR dX0_giveUp_12 fk_X0_24 rfl (A.1 0 _ rfl) (A.2 0 3 3 rfl) ?_
      refine Rp.iload_n dX0_giveUp_15 rfl ?_
      first | ((with_reducible show Rp _ _ _ _ (.int (nI _) :: _) _ _); refine Rp.ialoadN dX0_giveUp_16 (A.1 3 _ rfl) (by omega) ?_) | refine Rp.iaload dX0_giveUp_16 (A.1 3 _ rfl) (by first | assumption | exact vpb (by decide)) ?_
      first | rw [eh] | skip
      refine Rp.ist3 dX0_giveUp_17 (by first | exact nl2_some rfl | exact nl2_none) (by decide) ?_
      refine Rp.iload_n dX0_giveUp_18 rfl ?_
      refine Rp.iconst (-1) dX0_giveUp_19 (by decide) ?_
      first | ((with_reducible show Rp _ _ _ _ (.int (nI _) :: .int (nI _) :: _) _ _); refine Rp.icmp_neN (tgt := 26) dX0_giveUp_20 (by decide) (by omega) (fun c20 => ?_) (fun c20 => ?_)) | refine Rp.icmp_ne (tgt := 26) dX0_giveUp_20 (by decide) (fun c20 => ?_) (fun c20 => ?_)
      rotate_left
      · exact absurd c20 c1
      refine Rp.aload_n dX0_giveUp_26 rfl rfl ?_
      refine Rp.iload_n dX0_giveUp_27 rfl ?_
      refine Rp.iload_n dX0_giveUp_28 rfl ?_
      refine Rp.callV2 M_X2_ungive (ci := 2) dX0_giveUp_29 mo_X2_ungive lk_X0_57 (by decide) rfl rfl (A.1 0 _ rfl) (Nat.le_of_ble_eq_true rfl) (Nat.le_of_ble_eq_true rfl) (gv) (fun v1 h1 p1 x1 => ?_)
      rw [p1.1, p1.2]
      try dsimp only [Option.toList, List.cons_append, List.nil_append, List.append]
      refine Rp.aload_n dX0_giveUp_32 rfl rfl ?_
      refine Rp.getR dX0_giveUp_33 fk_X0_41 rfl (A2.1 0 _ rfl) (A2.2 0 19 14 rfl) ?_
      refine Rp.iconst (nI 2) dX0_giveUp_36 (by decide) ?_
      refine Rp.iload_n dX0_giveUp_37 rfl ?_
      refine Rp.iload_n dX0_giveUp_38 rfl ?_
      refine Rp.callV3 M_X4_add (ci := 4) dX0_giveUp_39 mo_X4_add lk_X0_45 (by decide) rfl rfl (A2.1 14 _ rfl) (Nat.le_of_ble_eq_true rfl) (Nat.le_of_ble_eq_true rfl) (ad) (fun v1 h1 p1 x1 => ?_)
      obtain ⟨rfl, F3, L3⟩ := p1
      try dsimp only [Option.toList, List.cons_append, List.nil_append, List.append]
      skip
      have F4 := F2.trans (hX_l F3)
      have J4 := (J.fl F4).cg6 (K' := upK K w (-1)) (fun j hj => by unfold upK; rw [if_neg (by omega)])
      have M4 := M2.fl F3
      refine Rp.iload_n dX0_giveUp_42 rfl ?_
      refine Rp.ireturn dX0_giveUp_43 rfl ?_
      exact ⟨rfl, tkX_a (aX_h F4), J4, M4, L3, fun j hj => (F4.I 43 j (hX_big hb (by omega))).trans (hz0 j hj)⟩
  · have e2 : inN p np = false := Bool.eq_false_iff.mpr e2
    rw [e2] at q2
    rw [if_neg (by rw [e2]; decide)]
    refine Rp.aload_n dX0_giveUp_0 rfl rfl ?_
    refine Rp.iload_n dX0_giveUp_1 rfl ?_
    refine Rp.callV1 M_X2_isPerson (ci := 2) dX0_giveUp_2 mo_X2_isPerson lk_X0_21 (by decide) rfl rfl (A.1 0 _ rfl) (Nat.le_of_ble_eq_true rfl) (Nat.le_of_ble_eq_true rfl) (q2) (fun v1 h1 p1 x1 => ?_)
    rw [p1.1, p1.2]
    try dsimp only [Option.toList, List.cons_append, List.nil_append, List.append]
    first | ((with_reducible show Rp _ _ _ _ (.int (b2i _) :: _) _ _); refine Rp.if_neB (tgt := 11) dX0_giveUp_5 (by decide) (fun c5 => ?_) (fun c5 => ?_)) | ((with_reducible show Rp _ _ _ _ (.int (nI _) :: _) _ _); refine Rp.if_neN (tgt := 11) dX0_giveUp_5 (by decide) (by omega) (fun c5 => ?_) (fun c5 => ?_)) | refine Rp.if_ne (tgt := 11) dX0_giveUp_5 (by decide) (fun c5 => ?_) (fun c5 => ?_)
    · skip
      cases c5
    · skip
      refine Rp.bipush (-2) dX0_giveUp_8 (by decide) ?_
      refine Rp.ireturn dX0_giveUp_10 rfl ?_
      exact ⟨rfl, Fr.rfl', J, M, L, hz0⟩
end Act0
theorem t_tick0 (d : Nat) {h : AH} {b : Nat} {K : Nat → Int32} {fl : Option (List CLE)} {np nt : Nat} {E : List Int32} (S : ShOK h) (R : RfOK h) (J : HJ h b K) (hz0 : ∀ j, 9 ≤ j → gI h 43 j = 0) (M : HM h b K np nt) (L : LOG h b E) {nl : Nat} {LSs : Nat → List CLE} (H : HLw h b nl LSs) (hfl : fl = flO nl LSs (gI h b 18)) {m : Nat} (hm : m ≤ 999) (e6 : K 6 = nI m) : Rp (d + 3) M_X0_tick 0 [some (.ref 45), some (.ref b)] [] h (AcH h b K np nt E (tkR K)) := by
  have A := M.2.1
  have hb : b ≤ 17 := by have := J.1; omega
  have em : gI h (b + 12) 0 = nI m := J.2.2.2.2.2.2.2.1.trans e6
  unfold tkR
  by_cases h9 : m = 999
  · rw [if_pos (by rw [e6, h9])]
    refine Rp.aload_n dX0_tick_0 rfl rfl ?_
    refine Rp.getR dX0_tick_1 fk_X0_60 rfl (A.1 0 _ rfl) (A.2 0 15 12 rfl) ?_
    refine Rp.iconst (nI 0) dX0_tick_4 (by decide) ?_
    first | ((with_reducible show Rp _ _ _ _ (.int (nI _) :: _) _ _); refine Rp.ialoadN dX0_tick_5 (A.1 12 _ rfl) (by omega) ?_) | refine Rp.iaload dX0_tick_5 (A.1 12 _ rfl) (by first | assumption | exact vpb (by decide)) ?_
    first | rw [em] | skip
    refine Rp.sipush (nI 999) dX0_tick_6 (by decide +kernel) ?_
    first | ((with_reducible show Rp _ _ _ _ (.int (nI _) :: .int (nI _) :: _) _ _); refine Rp.icmp_ltN (tgt := 15) dX0_tick_9 (by decide) (by omega) (fun c9 => ?_) (fun c9 => ?_)) | refine Rp.icmp_lt (tgt := 15) dX0_tick_9 (by decide) (fun c9 => ?_) (fun c9 => ?_)
    · skip
      first | (exfalso; omega) | exact absurd c9 (by decide) | exact absurd (by decide) c9
    · skip
      refine Rp.bipush (-3) dX0_tick_12 (by decide) ?_
      refine Rp.ireturn dX0_tick_14 rfl ?_
      exact ⟨rfl, Fr.rfl', J, M, L, hz0⟩
  · rw [if_neg (by rw [e6]; exact nI_ne (by omega) (by decide) h9), e6, nI_add]
    have M1 := M.min (nI (m + 1))
    have J1 := J.min (nI (m + 1))
    have A1 := M1.2.1
    have F1 : Fr (tkX b) h (sI h (b + 12) 0 (nI (m + 1))) := Fr.rfl'.sI (by unfold tkX; simp)
    have L1 : LOG (sI h (b + 12) 0 (nI (m + 1))) b E := ⟨L.1, by rw [gI_ne _ _ _ _ (by omega)]; exact L.2.1, fun j x hj => by rw [gI_ne _ _ _ _ (by omega)]; exact L.2.2 j x hj⟩
    have ad := t_addL (d + 1) A1 L1 (o := 3) (f := 0) (s := 0) (by decide) (by decide) (by decide)
    refine Rp.aload_n dX0_tick_0 rfl rfl ?_
    refine Rp.getR dX0_tick_1 fk_X0_60 rfl (A.1 0 _ rfl) (A.2 0 15 12 rfl) ?_
    refine Rp.iconst (nI 0) dX0_tick_4 (by decide) ?_
    first | ((with_reducible show Rp _ _ _ _ (.int (nI _) :: _) _ _); refine Rp.ialoadN dX0_tick_5 (A.1 12 _ rfl) (by omega) ?_) | refine Rp.iaload dX0_tick_5 (A.1 12 _ rfl) (by first | assumption | exact vpb (by decide)) ?_
    first | rw [em] | skip
    refine Rp.sipush (nI 999) dX0_tick_6 (by decide +kernel) ?_
    first | ((with_reducible show Rp _ _ _ _ (.int (nI _) :: .int (nI _) :: _) _ _); refine Rp.icmp_ltN (tgt := 15) dX0_tick_9 (by decide) (by omega) (fun c9 => ?_) (fun c9 => ?_)) | refine Rp.icmp_lt (tgt := 15) dX0_tick_9 (by decide) (fun c9 => ?_) (fun c9 => ?_)
    rotate_left
    · first | (exfalso; omega) | exact absurd c9 (by decide) | exact absurd (by decide) c9
    refine Rp.aload_n dX0_tick_15 rfl rfl ?_
    refine Rp.getR dX0_tick_16 fk_X0_60 rfl (A.1 0 _ rfl) (A.2 0 15 12 rfl) ?_
    refine Rp.iconst (nI 0) dX0_tick_19 (by decide) ?_
    refine Rp.dup2 dX0_tick_20 rfl rfl ?_
    first | ((with_reducible show Rp _ _ _ _ (.int (nI _) :: _) _ _); refine Rp.ialoadN dX0_tick_21 (A.1 12 _ rfl) (by omega) ?_) | refine Rp.iaload dX0_tick_21 (A.1 12 _ rfl) (by first | assumption | exact vpb (by decide)) ?_
    first | rw [em] | skip
    refine Rp.iconst (nI 1) dX0_tick_22 (by decide) ?_
    first | ((with_reducible show Rp _ _ _ _ (.int (nI _) :: .int (nI _) :: _) _ _); refine Rp.iaddN dX0_tick_23 ?_) | refine Rp.iadd dX0_tick_23 ?_
    first | ((with_reducible show Rp _ _ _ _ (_ :: .int (nI _) :: _) _ _); refine Rp.iastoreN dX0_tick_24 (A.1 12 _ rfl) (by omega) ?_) | refine Rp.iastore dX0_tick_24 (A.1 12 _ rfl) (by first | assumption | exact vpb (by decide)) ?_
    refine Rp.aload_n dX0_tick_25 rfl rfl ?_
    refine Rp.getR dX0_tick_26 fk_X0_41 rfl (A1.1 0 _ rfl) (A1.2 0 19 14 rfl) ?_
    refine Rp.iconst (nI 3) dX0_tick_29 (by decide) ?_
    refine Rp.iconst (nI 0) dX0_tick_30 (by decide) ?_
    refine Rp.iconst (nI 0) dX0_tick_31 (by decide) ?_
    refine Rp.callV3 M_X4_add (ci := 4) dX0_tick_32 mo_X4_add lk_X0_45 (by decide) rfl rfl (A1.1 14 _ rfl) (Nat.le_of_ble_eq_true rfl) (Nat.le_of_ble_eq_true rfl) (ad) (fun v1 h1 p1 x1 => ?_)
    obtain ⟨rfl, F2, L2⟩ := p1
    try dsimp only [Option.toList, List.cons_append, List.nil_append, List.append]
    skip
    have F3 : Fr (tkX b) h h1 := F1.trans ((aX_h (hX_l F2)).weak (fun k j hx => by unfold tkX at hx; rw [Bool.or_eq_false_iff, Bool.or_eq_false_iff] at hx; exact hx.1.1))
    have S2 := F2.S (F1.S S)
    have R2 : RfOK h1 := fun k j a ha => by
      have hk : k < 129 ∧ ¬ (k = b + 15) ∧ ¬ (k = b + 14 ∧ j = 1) := by
        have q := rfL_of ha
        rcases J.1 with rfl | rfl
        · have hb1 : (rfL.all fun q => decide (q.1 < 129 ∧ ¬ (q.1 = 1 + 15) ∧ ¬ (q.1 = 1 + 14 ∧ q.2 = 1))) = true := by decide +kernel
          exact of_decide_eq_true (List.all_eq_true.mp hb1 _ q)
        · have hb1 : (rfL.all fun q => decide (q.1 < 129 ∧ ¬ (q.1 = 17 + 15) ∧ ¬ (q.1 = 17 + 14 ∧ q.2 = 1))) = true := by decide +kernel
          exact of_decide_eq_true (List.all_eq_true.mp hb1 _ q)
      rw [F2.Rr k j (by
        unfold lX
        rw [show (k == b + 15) = false from beq_eq_false_iff_ne.mpr hk.2.1, Bool.or_false, Bool.and_eq_false_iff]
        by_cases z : k = b + 14
        · exact Or.inr (beq_eq_false_iff_ne.mpr (fun y => hk.2.2 ⟨z, y⟩))
        · exact Or.inl (beq_eq_false_iff_ne.mpr z))]
      exact R k j a ha
    have M2 := M1.fl F2
    have A2 := M2.2.1
    have J2 := J1.fl (hX_l F2)
    have hz : ∀ j, 9 ≤ j → gI h1 43 j = 0 := fun j hj => by rw [F2.I 43 j (by unfold lX; rw [show (43 == b + 15) = false from beq_eq_false_iff_ne.mpr (by omega), show (43 == b + 14) = false from beq_eq_false_iff_ne.mpr (by omega)]; rfl), gI_ne _ _ _ _ (by omega)]; exact hz0 j hj
    have H1 : HLw (sI h (b + 12) 0 (nI (m + 1))) b nl LSs := H.fr (X := fun k j => k == b + 12) (Fr.rfl'.sI (by simp)) (fun j => by simp) (by simp) (fun j => by simp) (fun k j o => beq_eq_false_iff_ne.mpr (by have := okT_33 o; omega))
    have H2 : HLw h1 b nl LSs := H1.fr (hX_l F2) (fun j => hX_o (by decide) (by decide) (by decide) (Or.inl (by decide))) (hX_o (by decide) (by decide) (by decide) (Or.inr (by decide))) (fun j => hX_o (by decide) (by decide) (by decide) (Or.inl (by decide))) (fun k j o => hX_big hb (okT_33 o))
    have e18 : gI h1 b 18 = gI h b 18 := by
      rw [show b = b + 0 from rfl, F2.I (b + 0) 18 (by have := hX_o (b := b) (o := 0) (j := 18) (by decide) (by decide) (by decide) (Or.inl (by decide)); unfold hX at this; rw [Bool.or_eq_false_iff] at this; exact this.2), gI_ne _ _ _ _ (by omega)]
    have lf := t_lawInForce d H2
    rw [e18, ← hfl] at lf
    have eK : acK K (some (3, 0, 0)) = upK K 6 (nI (m + 1)) := by show upK K 6 (K 6 + nI 1) = _; rw [e6, nI_add]
    have fin : ∀ g : AH, Fr bX h1 g → JS g b (upK K 6 (nI (m + 1))) fl → Rp (d + 3) M_X0_tick 47 [some (.ref 45), some (.ref b)] [] g (AcH h b K np nt E (nI (m + 1), some (3, 0, 0))) := by
      intro g F4 J4
      have M4 := M2.fb hb F4
      have A4 := M4.2.1
      have L4 := L2.fr F4 (bX_b hb (by decide)) (fun j => bX_b hb (by decide))
      have F5 : Fr (tkX b) h g := F3.trans (F4.weak (fun k j hx => by unfold tkX at hx; rw [Bool.or_eq_false_iff, Bool.or_eq_false_iff] at hx; exact hx.1.2))
      have em4 : gI g (b + 12) 0 = nI (m + 1) := J4.2.2.1.2.2.2.2.2.2.2.1.trans (by unfold upK; rw [if_pos rfl])
      refine Rp.aload_n dX0_tick_47 rfl rfl ?_
      refine Rp.getR dX0_tick_48 fk_X0_60 rfl (A4.1 0 _ rfl) (A4.2 0 15 12 rfl) ?_
      refine Rp.iconst (nI 0) dX0_tick_51 (by decide) ?_
      first | ((with_reducible show Rp _ _ _ _ (.int (nI _) :: _) _ _); refine Rp.ialoadN dX0_tick_52 (A4.1 12 _ rfl) (by omega) ?_) | refine Rp.iaload dX0_tick_52 (A4.1 12 _ rfl) (by first | assumption | exact vpb (by decide)) ?_
      first | rw [em4] | skip
      refine Rp.ireturn dX0_tick_53 rfl ?_
      exact ⟨rfl, F5, by rw [eK]; exact J4.2.2.1, by rw [eK]; exact M4, L4, J4.2.2.2.1⟩
    refine Rp.aload_n dX0_tick_35 rfl rfl ?_
    refine Rp.getR dX0_tick_36 fk_X0_9 rfl (S2 _ _ rfl) (R2 _ _ _ rfl) ?_
    refine Rp.aload_n dX0_tick_39 rfl rfl ?_
    refine Rp.aload_n dX0_tick_40 rfl rfl ?_
    refine Rp.callV0 M_X2_lawInForce (ci := 2) dX0_tick_41 mo_X2_lawInForce lk_X0_63 (by decide) rfl rfl (A2.1 0 _ rfl) (Nat.le_of_ble_eq_true rfl) (Nat.le_of_ble_eq_true rfl) (lf) (fun v1 h1 p1 x1 => ?_)
    obtain ⟨rfl, lr, rfl, q⟩ := p1
    try dsimp only [Option.toList, List.cons_append, List.nil_append, List.append]
    skip
    match lr, q with
    | none, q =>
      have bg := t_beginJ (d + 1) S2 R2 J2 hz q
      dsimp only [cvR] at bg ⊢
      refine Rp.callV2 M_X3_begin (ci := 3) dX0_tick_44 mo_X3_begin lk_X0_67 (by decide) rfl rfl (S2 _ _ rfl) (Nat.le_of_ble_eq_true rfl) (Nat.le_of_ble_eq_true rfl) (bg) (fun v1 h1 p1 x1 => ?_)
      obtain ⟨rfl, F4, J4⟩ := p1
      try dsimp only [Option.toList, List.cons_append, List.nil_append, List.append]
      exact fin _ F4 J4
    | some tx, q =>
      have bg := t_beginJ (d + 1) S2 R2 J2 hz q
      dsimp only [cvR] at bg ⊢
      refine Rp.callV2 M_X3_begin (ci := 3) dX0_tick_44 mo_X3_begin lk_X0_67 (by decide) rfl rfl (S2 _ _ rfl) (Nat.le_of_ble_eq_true rfl) (Nat.le_of_ble_eq_true rfl) (bg) (fun v1 h1 p1 x1 => ?_)
      obtain ⟨rfl, F4, J4⟩ := p1
      try dsimp only [Option.toList, List.cons_append, List.nil_append, List.append]
      exact fin _ F4 J4
