section Ml2
variable (d : Nat) {h : AH} {fl : Option (List CLE)} {np nt nd : Nat} {st : Nat → Bool}
theorem lay2 {P : Option Value → AH → Prop} (S0 : ShOK h) (R0 : RfOK h) (op : Int32) (kk : ∀ g, Fr mdX h g → (∀ e, e < 3 → gI g 118 e = nI 0) → Rp d M_X12_laysDay 22 [some (.ref aM), some (.int op), some (.int (nI 0))] [] g P) : ∀ (m i : Nat) (g : AH), i + m = 3 → Fr mdX h g → (∀ e, e < i → gI g 118 e = nI 0) → Rp d M_X12_laysDay 2 [some (.ref aM), some (.int op), some (.int (nI i))] [] g P := by
  intro m
  induction m with
  | zero =>
    intro i g hi F h0
    have e : i = 3 := by omega
    subst e
    have k1 := kk g F h0
    refine Rp.iload_n dX12_laysDay_2 rfl ?_
    refine Rp.iconst (nI 3) dX12_laysDay_3 (by decide) ?_
    first | ((with_reducible show Rp _ _ _ _ (.int (nI _) :: .int (nI _) :: _) _ _); refine Rp.icmp_geN (tgt := 20) dX12_laysDay_4 (by decide) (by omega) (fun c4 => ?_) (fun c4 => ?_)) | refine Rp.icmp_ge (tgt := 20) dX12_laysDay_4 (by decide) (fun c4 => ?_) (fun c4 => ?_)
    · skip
      refine Rp.iconst (nI 0) dX12_laysDay_20 (by decide) ?_
      refine Rp.ist2 dX12_laysDay_21 (by first | exact nl2_some rfl | exact nl2_none) (by decide) ?_
      exact k1
    · skip
      first | (exfalso; omega) | exact absurd c4 (by decide) | exact absurd (by decide) c4
  | succ m ih =>
    intro i g hi F h0
    have S := F.S S0
    have R := F.R R0 (by decide)
    have k1 := ih (i + 1) (sI g 118 i (nI 0)) (by omega) (F.sI (by unfold mdX; rw [decide_eq_true (show i < 3 by omega)]; simp)) (fun e he => by
      by_cases z : e = i
      · rw [z, gI_hit]
      · rw [gI_off _ _ _ z]; exact h0 e (by omega))
    refine Rp.iload_n dX12_laysDay_2 rfl ?_
    refine Rp.iconst (nI 3) dX12_laysDay_3 (by decide) ?_
    first | ((with_reducible show Rp _ _ _ _ (.int (nI _) :: .int (nI _) :: _) _ _); refine Rp.icmp_geN (tgt := 20) dX12_laysDay_4 (by decide) (by omega) (fun c4 => ?_) (fun c4 => ?_)) | refine Rp.icmp_ge (tgt := 20) dX12_laysDay_4 (by decide) (fun c4 => ?_) (fun c4 => ?_)
    · skip
      first | (exfalso; omega) | exact absurd c4 (by decide) | exact absurd (by decide) c4
    · skip
      refine Rp.aload_n dX12_laysDay_7 rfl rfl ?_
      refine Rp.getR dX12_laysDay_8 fk_X12_77 rfl (S _ _ rfl) (R _ _ _ rfl) ?_
      refine Rp.iload_n dX12_laysDay_11 rfl ?_
      refine Rp.iconst (nI 0) dX12_laysDay_12 (by decide) ?_
      first | ((with_reducible show Rp _ _ _ _ (_ :: .int (nI _) :: _) _ _); refine Rp.iastoreN dX12_laysDay_13 (S _ _ rfl) (by omega) ?_) | refine Rp.iastore dX12_laysDay_13 (S _ _ rfl) (by first | assumption | exact vpb (by decide)) ?_
      first | ((with_reducible show Rp _ _ _ (_ :: _ :: some (.int (nI _)) :: _) _ _ _); refine Rp.inc2N (c := 1) dX12_laysDay_14 (by first | exact nl2_some rfl | exact nl2_none) (by decide) ?_) | refine Rp.inc2 _ dX12_laysDay_14 rfl (by first | exact nl2_some rfl | exact nl2_none) (by decide) ?_
      refine Rp.goto (tgt := 2) dX12_laysDay_17 (by decide) ?_
      exact k1
theorem lay22 {P : Option Value → AH → Prop} (S0 : ShOK h) (R0 : RfOK h) (op : Int32) (kk : ∀ g, Fr mdX h g → DYm g ds0 → Rp d M_X12_laysDay 55 [some (.ref aM), some (.int op), some (.int (nI 6))] [] g P) : ∀ (m i : Nat) (g : AH), i + m = 6 → Fr mdX h g → (∀ e, e < 3 → gI g 118 e = nI 0) → (∀ p, p < i → gI g 115 p = -1 ∧ gI g 116 p = -1 ∧ gI g 117 p = -1) → Rp d M_X12_laysDay 22 [some (.ref aM), some (.int op), some (.int (nI i))] [] g P := by
  intro m
  induction m with
  | zero =>
    intro i g hi F h0 h1
    have e : i = 6 := by omega
    subst e
    have k1 := kk g F ⟨h0, fun p hp => (h1 p hp).1, fun p hp => (h1 p hp).2.1, fun p hp => (h1 p hp).2.2⟩
    refine Rp.iload_n dX12_laysDay_22 rfl ?_
    refine Rp.bipush (nI 6) dX12_laysDay_23 (by decide) ?_
    first | ((with_reducible show Rp _ _ _ _ (.int (nI _) :: .int (nI _) :: _) _ _); refine Rp.icmp_geN (tgt := 55) dX12_laysDay_25 (by decide) (by omega) (fun c25 => ?_) (fun c25 => ?_)) | refine Rp.icmp_ge (tgt := 55) dX12_laysDay_25 (by decide) (fun c25 => ?_) (fun c25 => ?_)
    · skip
      exact k1
    · skip
      first | (exfalso; omega) | exact absurd c25 (by decide) | exact absurd (by decide) c25
  | succ m ih =>
    intro i g hi F h0 h1
    have S := F.S S0
    have R := F.R R0 (by decide)
    have i6 : i < 6 := by omega
    have k1 := ih (i + 1) (sI (sI (sI g 117 i (-1)) 115 i (-1)) 116 i (-1)) (by omega) (((F.sI (by unfold mdX; rw [decide_eq_true i6]; simp)).sI (by unfold mdX; rw [decide_eq_true i6]; simp)).sI (by unfold mdX; rw [decide_eq_true i6]; simp)) (fun e he => by rw [gI_ne _ _ _ _ (by decide), gI_ne _ _ _ _ (by decide), gI_ne _ _ _ _ (by decide)]; exact h0 e he) (fun p hp => by
      by_cases z : p = i
      · subst z
        exact ⟨by rw [gI_ne _ _ _ _ (by decide), gI_hit], gI_hit _ _ _ _, by rw [gI_ne _ _ _ _ (by decide), gI_ne _ _ _ _ (by decide), gI_hit]⟩
      · have q := h1 p (by omega)
        exact ⟨by rw [gI_ne _ _ _ _ (by decide), gI_off _ _ _ z, gI_ne _ _ _ _ (by decide)]; exact q.1, by rw [gI_off _ _ _ z, gI_ne _ _ _ _ (by decide), gI_ne _ _ _ _ (by decide)]; exact q.2.1, by rw [gI_ne _ _ _ _ (by decide), gI_ne _ _ _ _ (by decide), gI_off _ _ _ z]; exact q.2.2⟩)
    refine Rp.iload_n dX12_laysDay_22 rfl ?_
    refine Rp.bipush (nI 6) dX12_laysDay_23 (by decide) ?_
    first | ((with_reducible show Rp _ _ _ _ (.int (nI _) :: .int (nI _) :: _) _ _); refine Rp.icmp_geN (tgt := 55) dX12_laysDay_25 (by decide) (by omega) (fun c25 => ?_) (fun c25 => ?_)) | refine Rp.icmp_ge (tgt := 55) dX12_laysDay_25 (by decide) (fun c25 => ?_) (fun c25 => ?_)
    · skip
      first | (exfalso; omega) | exact absurd c25 (by decide) | exact absurd (by decide) c25
    · skip
      refine Rp.aload_n dX12_laysDay_28 rfl rfl ?_
      refine Rp.getR dX12_laysDay_29 fk_X12_74 rfl (S _ _ rfl) (R _ _ _ rfl) ?_
      refine Rp.iload_n dX12_laysDay_32 rfl ?_
      refine Rp.iconst (-1) dX12_laysDay_33 (by decide) ?_
      first | ((with_reducible show Rp _ _ _ _ (_ :: .int (nI _) :: _) _ _); refine Rp.iastoreN dX12_laysDay_34 (S _ _ rfl) (by omega) ?_) | refine Rp.iastore dX12_laysDay_34 (S _ _ rfl) (by first | assumption | exact vpb (by decide)) ?_
      refine Rp.aload_n dX12_laysDay_35 rfl rfl ?_
      refine Rp.getR dX12_laysDay_36 fk_X12_68 rfl (S _ _ rfl) (R _ _ _ rfl) ?_
      refine Rp.iload_n dX12_laysDay_39 rfl ?_
      refine Rp.iconst (-1) dX12_laysDay_40 (by decide) ?_
      first | ((with_reducible show Rp _ _ _ _ (_ :: .int (nI _) :: _) _ _); refine Rp.iastoreN dX12_laysDay_41 (S _ _ rfl) (by omega) ?_) | refine Rp.iastore dX12_laysDay_41 (S _ _ rfl) (by first | assumption | exact vpb (by decide)) ?_
      refine Rp.aload_n dX12_laysDay_42 rfl rfl ?_
      refine Rp.getR dX12_laysDay_43 fk_X12_71 rfl (S _ _ rfl) (R _ _ _ rfl) ?_
      refine Rp.iload_n dX12_laysDay_46 rfl ?_
      refine Rp.iconst (-1) dX12_laysDay_47 (by decide) ?_
      first | ((with_reducible show Rp _ _ _ _ (_ :: .int (nI _) :: _) _ _); refine Rp.iastoreN dX12_laysDay_48 (S _ _ rfl) (by omega) ?_) | refine Rp.iastore dX12_laysDay_48 (S _ _ rfl) (by first | assumption | exact vpb (by decide)) ?_
      first | ((with_reducible show Rp _ _ _ (_ :: _ :: some (.int (nI _)) :: _) _ _ _); refine Rp.inc2N (c := 1) dX12_laysDay_49 (by first | exact nl2_some rfl | exact nl2_none) (by decide) ?_) | refine Rp.inc2 _ dX12_laysDay_49 rfl (by first | exact nl2_some rfl | exact nl2_none) (by decide) ?_
      refine Rp.goto (tgt := 22) dX12_laysDay_52 (by decide) ?_
      exact k1
theorem s_laysDay (B : MBd h fl np nt nd) {op : Int32} (hst : ∀ e, e < nd → st e = bitB op (nI e)) : Rp (d + 77) M_X12_laysDay 0 [some (.ref aM), some (.int op), none] [] h (fun r h' => r = none ∧ Fr mdX h h' ∧ DYm h' (dayF (gI h am_kept) fl nd np nt st (gI h am_kept) 100)) := by
  have S := B.1
  have R := B.2.1
  have V0 := B.2.2.2.2.2.2.1
  have k2 : ∀ g, Fr mdX h g → DYm g ds0 → Rp (d + 77) M_X12_laysDay 55 [some (.ref aM), some (.int op), some (.int (nI 6))] [] g (fun r h' => r = none ∧ Fr mdX h h' ∧ DYm h' (dayF (gI h am_kept) fl nd np nt st (gI h am_kept) 100)) := by
    intro g F Y
    have B1 := B.fr F
    have eK : gI g am_kept = gI h am_kept := F.k102
    obtain ⟨S1, R1, hF1, KB1, VD1, hD1, V1, VH1, hM1⟩ := B1
    have nx := s_nextCalled (d + 75) S1 R1 V1 VH1 hM1 (x := 0) (by decide)
    rw [eK] at nx
    have e1 : dayF (gI h am_kept) fl nd np nt st (gI h am_kept) (0 + 1) = ds0 := dayF_skip (fun t ht e => by
      have := (V0.n ht)
      rw [this.1, i32_eq, nI_toInt (by omega), nI_toInt (by decide)] at e
      omega)
    refine Rp.aload_n dX12_laysDay_55 rfl rfl ?_
    refine Rp.iconst (nI 0) dX12_laysDay_56 (by decide) ?_
    refine Rp.callV1 M_X12_nextCalled (ci := 12) dX12_laysDay_57 mo_X12_nextCalled lk_X12_387 (by decide) rfl rfl (S1 _ _ rfl) (Nat.le_of_ble_eq_true rfl) (Nat.le_of_ble_eq_true rfl) (nx) (fun v1 h1 p1 x1 => ?_)
    obtain ⟨rfl, o2, rfl, hN2⟩ := p1
    try dsimp only [Option.toList, List.cons_append, List.nil_append, List.append]
    refine Rp.ist2 dX12_laysDay_60 (by first | exact nl2_some rfl | exact nl2_none) (by decide) ?_
    exact lay61 d B hst 100 0 o2 _ (by omega) (by omega) hN2 F (by rw [e1]; exact Y)
  have k1 := lay2 (d + 77) S R op (P := fun r h' => r = none ∧ Fr mdX h h' ∧ DYm h' (dayF (gI h am_kept) fl nd np nt st (gI h am_kept) 100)) (fun g F h0 => lay22 (d + 77) S R op k2 6 0 g (by decide) F h0 (fun p hp => absurd hp (Nat.not_lt_zero _))) 3 0 h (by decide) Fr.rfl' (fun e he => absurd he (Nat.not_lt_zero _))
  refine Rp.iconst (nI 0) dX12_laysDay_0 (by decide) ?_
  refine Rp.ist2 dX12_laysDay_1 (by first | exact nl2_some rfl | exact nl2_none) (by decide) ?_
  exact k1
def adI (nd : Nat) : Int32 := (nI 1 <<< (nI nd &&& 31)) - nI 1
theorem s_allDesks (S : ShOK h) (R : RfOK h) (hD : gI h am_kept 105 = nI nd) : Rp d M_X12_allDesks 0 [some (.ref aM)] [] h (fun r h' => h' = h ∧ r = some (.int (adI nd))) := by
  refine Rp.iconst (nI 1) dX12_allDesks_0 (by decide) ?_
  refine Rp.aload_n dX12_allDesks_1 rfl rfl ?_
  refine Rp.getR dX12_allDesks_2 fk_X12_24 rfl (S _ _ rfl) (R _ _ _ rfl) ?_
  refine Rp.bipush (nI 105) dX12_allDesks_5 (by decide) ?_
  first | ((with_reducible show Rp _ _ _ _ (.int (nI _) :: _) _ _); refine Rp.ialoadN dX12_allDesks_7 (S _ _ rfl) (by omega) ?_) | refine Rp.iaload dX12_allDesks_7 (S _ _ rfl) (by first | assumption | exact vpb (by decide)) ?_
  first | rw [hD] | skip
  refine Rp.ishl dX12_allDesks_8 ?_
  skip
  refine Rp.iconst (nI 1) dX12_allDesks_9 (by decide) ?_
  refine Rp.isub dX12_allDesks_10 ?_
  exact Rp.ireturn dX12_allDesks_11 rfl ⟨rfl, rfl⟩
theorem adI_b (hnd : nd ≤ 3) : ∀ e, e < nd → true = bitB (adI nd) (nI e) := by
  match nd, hnd with
  | 0, _ => intro e he; exact absurd he (Nat.not_lt_zero _)
  | 1, _ => decide
  | 2, _ => decide
  | 3, _ => decide
theorem seven_b (hnd : nd ≤ 3) : ∀ e, e < nd → true = bitB (nI 7) (nI e) := by
  match nd, hnd with
  | 0, _ => intro e he; exact absurd he (Nat.not_lt_zero _)
  | 1, _ => decide
  | 2, _ => decide
  | 3, _ => decide
theorem s_waitOf (S : ShOK h) (R : RfOK h) (hF : FlK (gI h am_kept) fl) (B : KB (gI h am_kept)) {s : DS} (Y : DYm h s) {p : Nat} (hp : p < 6) (D : DP s nd 6000 p) (hnd : nd ≤ 3) : Rp (d + 76) M_X12_waitOf 0 [some (.ref aM), some (.int (nI p))] [] h (fun r h' => Fr tlX h h' ∧ r = some (.int (nI (wtN (gI h am_kept) fl s p)))) := by
  have eb := Y.2.1 p hp
  have ed := Y.2.2.2 p hp
  unfold wtN
  rcases D with z | ⟨v, u, e, h1, h2, h3, h4, h5, h6⟩
  · rw [if_pos z.1]
    rw [z.2.2] at ed
    refine Rp.aload_n dX12_waitOf_0 rfl rfl ?_
    refine Rp.getR dX12_waitOf_1 fk_X12_74 rfl (S _ _ rfl) (R _ _ _ rfl) ?_
    refine Rp.iload_n dX12_waitOf_4 rfl ?_
    first | ((with_reducible show Rp _ _ _ _ (.int (nI _) :: _) _ _); refine Rp.ialoadN dX12_waitOf_5 (S _ _ rfl) (by omega) ?_) | refine Rp.iaload dX12_waitOf_5 (S _ _ rfl) (by first | assumption | exact vpb (by decide)) ?_
    first | rw [ed] | skip
    refine Rp.iconst (-1) dX12_waitOf_6 (by decide) ?_
    first | ((with_reducible show Rp _ _ _ _ (.int (nI _) :: .int (nI _) :: _) _ _); refine Rp.icmp_neN (tgt := 16) dX12_waitOf_7 (by decide) (by omega) (fun c7 => ?_) (fun c7 => ?_)) | refine Rp.icmp_ne (tgt := 16) dX12_waitOf_7 (by decide) (fun c7 => ?_) (fun c7 => ?_)
    · skip
      exact absurd rfl c7
    · skip
      refine Rp.sipush (nI 1000) dX12_waitOf_10 (by decide +kernel) ?_
      refine Rp.goto (tgt := 28) dX12_waitOf_13 (by decide) ?_
      refine Rp.ireturn dX12_waitOf_28 rfl ?_
      exact ⟨Fr.rfl', rfl⟩
  · have om : ¬ nI v = -1 := nI_m1 (by omega)
    have om2 : ¬ nI e = -1 := nI_m1 (by omega)
    rw [h6] at ed
    rw [h4] at eb ⊢
    rw [if_neg om, nI_toInt (by omega)]
    have le : oCs (gI h am_kept) fl p ≤ 9 := tlO_le (by decide) (by decide) (by decide)
    have cs := s_costOf d S R hF B hp
    refine Rp.aload_n dX12_waitOf_0 rfl rfl ?_
    refine Rp.getR dX12_waitOf_1 fk_X12_74 rfl (S _ _ rfl) (R _ _ _ rfl) ?_
    refine Rp.iload_n dX12_waitOf_4 rfl ?_
    first | ((with_reducible show Rp _ _ _ _ (.int (nI _) :: _) _ _); refine Rp.ialoadN dX12_waitOf_5 (S _ _ rfl) (by omega) ?_) | refine Rp.iaload dX12_waitOf_5 (S _ _ rfl) (by first | assumption | exact vpb (by decide)) ?_
    first | rw [ed] | skip
    refine Rp.iconst (-1) dX12_waitOf_6 (by decide) ?_
    first | ((with_reducible show Rp _ _ _ _ (.int (nI _) :: .int (nI _) :: _) _ _); refine Rp.icmp_neN (tgt := 16) dX12_waitOf_7 (by decide) (by omega) (fun c7 => ?_) (fun c7 => ?_)) | refine Rp.icmp_ne (tgt := 16) dX12_waitOf_7 (by decide) (fun c7 => ?_) (fun c7 => ?_)
    rotate_left
    · exact absurd c7 om2
    refine Rp.aload_n dX12_waitOf_16 rfl rfl ?_
    refine Rp.iload_n dX12_waitOf_17 rfl ?_
    refine Rp.callV1 M_X12_costOf (ci := 12) dX12_waitOf_18 mo_X12_costOf lk_X12_134 (by decide) rfl rfl (S _ _ rfl) (Nat.le_of_ble_eq_true rfl) (Nat.le_of_ble_eq_true rfl) (cs) (fun v1 h1 p1 x1 => ?_)
    obtain ⟨F1, rfl⟩ := p1
    try dsimp only [Option.toList, List.cons_append, List.nil_append, List.append]
    skip
    have S1 := F1.S S
    have R1 := F1.R R (by decide)
    have eb1 : gI h1 115 p = nI v := (F1.I 115 p rfl).trans eb
    refine Rp.aload_n dX12_waitOf_21 rfl rfl ?_
    refine Rp.getR dX12_waitOf_22 fk_X12_68 rfl (S1 _ _ rfl) (R1 _ _ _ rfl) ?_
    refine Rp.iload_n dX12_waitOf_25 rfl ?_
    first | ((with_reducible show Rp _ _ _ _ (.int (nI _) :: _) _ _); refine Rp.ialoadN dX12_waitOf_26 (S1 _ _ rfl) (by omega) ?_) | refine Rp.iaload dX12_waitOf_26 (S1 _ _ rfl) (by first | assumption | exact vpb (by decide)) ?_
    first | rw [eb1] | skip
    first | ((with_reducible show Rp _ _ _ _ (.int (nI _) :: .int (nI _) :: _) _ _); refine Rp.imulN dX12_waitOf_27 ?_) | refine Rp.imul dX12_waitOf_27 ?_
    refine Rp.ireturn dX12_waitOf_28 rfl ?_
    exact ⟨F1, rfl⟩
theorem DYm.ft {h g : AH} {s : DS} (Y : DYm h s) (F : Fr tlX h g) : DYm g s := ⟨fun x hx => (F.I 118 x rfl).trans (Y.1 x hx), fun x hx => (F.I 115 x rfl).trans (Y.2.1 x hx), fun x hx => (F.I 116 x rfl).trans (Y.2.2.1 x hx), fun x hx => (F.I 117 x rfl).trans (Y.2.2.2 x hx)⟩
theorem wait12 (B0 : MBd h fl np nt nd) {s : DS} (Y0 : DYm h s) (D : ∀ p, DP s nd 6000 p) : ∀ (m p : Nat) (g : AH), p + m = np → Fr tlX h g → Rp (d + 77) M_X12_waitOfAll 12 [some (.ref aM), some (.int (nI (wtA (gI h am_kept) fl s (gI h am_kept) p))), some (.int (nI p))] [] g (fun r h' => Fr tlX h h' ∧ r = some (.int (nI (wtA (gI h am_kept) fl s (gI h am_kept) np)))) := by
  have hnp := B0.2.2.2.2.2.2.2.1.1
  intro m
  induction m with
  | zero =>
    intro p g hp F
    have e : p = np := by omega
    subst e
    have B := B0.fr (mdX_t F)
    obtain ⟨S, R, hF, KBk, VDd, hD, V, VHh, hM⟩ := B
    refine Rp.iload_n dX12_waitOfAll_12 rfl ?_
    refine Rp.aload_n dX12_waitOfAll_13 rfl rfl ?_
    refine Rp.getR dX12_waitOfAll_14 fk_X12_24 rfl (S _ _ rfl) (R _ _ _ rfl) ?_
    refine Rp.bipush (nI 103) dX12_waitOfAll_17 (by decide) ?_
    first | ((with_reducible show Rp _ _ _ _ (.int (nI _) :: _) _ _); refine Rp.ialoadN dX12_waitOfAll_19 (S _ _ rfl) (by omega) ?_) | refine Rp.iaload dX12_waitOfAll_19 (S _ _ rfl) (by first | assumption | exact vpb (by decide)) ?_
    first | rw [hM] | skip
    first | ((with_reducible show Rp _ _ _ _ (.int (nI _) :: .int (nI _) :: _) _ _); refine Rp.icmp_geN (tgt := 49) dX12_waitOfAll_20 (by decide) (by omega) (fun c20 => ?_) (fun c20 => ?_)) | refine Rp.icmp_ge (tgt := 49) dX12_waitOfAll_20 (by decide) (fun c20 => ?_) (fun c20 => ?_)
    · skip
      refine Rp.iload_n dX12_waitOfAll_49 rfl ?_
      refine Rp.ireturn dX12_waitOfAll_50 rfl ?_
      exact ⟨F, rfl⟩
    · skip
      first | (exfalso; omega) | exact absurd c20 (by decide) | exact absurd (by decide) c20
  | succ m ih =>
    intro p g hp F
    have B := B0.fr (mdX_t F)
    have eK : gI g am_kept = gI h am_kept := (mdX_t F).k102
    obtain ⟨S, R, hF, KBk, VDd, hD, V, VHh, hM⟩ := B
    have ho := s_holds (d + 76) S R (q := p) (by omega)
    have wl := wtA_le (K := gI h am_kept) (fl := fl) (hs := gI h am_kept) D p
    have k1 := ih (p + 1)
    rw [wtA] at k1
    by_cases hq : gI h am_kept p = -1
    · rw [if_pos hq] at k1
      rw [eK, decide_eq_false (fun z => z hq)] at ho
      have k1 := k1 g (by omega) F
      refine Rp.iload_n dX12_waitOfAll_12 rfl ?_
      refine Rp.aload_n dX12_waitOfAll_13 rfl rfl ?_
      refine Rp.getR dX12_waitOfAll_14 fk_X12_24 rfl (S _ _ rfl) (R _ _ _ rfl) ?_
      refine Rp.bipush (nI 103) dX12_waitOfAll_17 (by decide) ?_
      first | ((with_reducible show Rp _ _ _ _ (.int (nI _) :: _) _ _); refine Rp.ialoadN dX12_waitOfAll_19 (S _ _ rfl) (by omega) ?_) | refine Rp.iaload dX12_waitOfAll_19 (S _ _ rfl) (by first | assumption | exact vpb (by decide)) ?_
      first | rw [hM] | skip
      first | ((with_reducible show Rp _ _ _ _ (.int (nI _) :: .int (nI _) :: _) _ _); refine Rp.icmp_geN (tgt := 49) dX12_waitOfAll_20 (by decide) (by omega) (fun c20 => ?_) (fun c20 => ?_)) | refine Rp.icmp_ge (tgt := 49) dX12_waitOfAll_20 (by decide) (fun c20 => ?_) (fun c20 => ?_)
      · skip
        first | (exfalso; omega) | exact absurd c20 (by decide) | exact absurd (by decide) c20
      · skip
        refine Rp.iload_n dX12_waitOfAll_23 rfl ?_
        refine Rp.aload_n dX12_waitOfAll_24 rfl rfl ?_
        refine Rp.iload_n dX12_waitOfAll_25 rfl ?_
        refine Rp.callV1 M_X12_holds (ci := 12) dX12_waitOfAll_26 mo_X12_holds lk_X12_351 (by decide) rfl rfl (S _ _ rfl) (Nat.le_of_ble_eq_true rfl) (Nat.le_of_ble_eq_true rfl) (ho) (fun v1 h1 p1 x1 => ?_)
        rw [p1.1, p1.2]
        try dsimp only [Option.toList, List.cons_append, List.nil_append, List.append]
        first | ((with_reducible show Rp _ _ _ _ (.int (b2i _) :: _) _ _); refine Rp.if_eqB (tgt := 40) dX12_waitOfAll_29 (by decide) (fun c29 => ?_) (fun c29 => ?_)) | ((with_reducible show Rp _ _ _ _ (.int (nI _) :: _) _ _); refine Rp.if_eqN (tgt := 40) dX12_waitOfAll_29 (by decide) (by omega) (fun c29 => ?_) (fun c29 => ?_)) | refine Rp.if_eq (tgt := 40) dX12_waitOfAll_29 (by decide) (fun c29 => ?_) (fun c29 => ?_)
        · skip
          refine Rp.iconst (nI 0) dX12_waitOfAll_40 (by decide) ?_
          first | ((with_reducible show Rp _ _ _ _ (.int (nI _) :: .int (nI _) :: _) _ _); refine Rp.iaddN dX12_waitOfAll_41 ?_) | refine Rp.iadd dX12_waitOfAll_41 ?_
          refine Rp.ist1 dX12_waitOfAll_42 (by first | exact nl2_some rfl | exact nl2_none) (by decide) ?_
          first | ((with_reducible show Rp _ _ _ (_ :: _ :: some (.int (nI _)) :: _) _ _ _); refine Rp.inc2N (c := 1) dX12_waitOfAll_43 (by first | exact nl2_some rfl | exact nl2_none) (by decide) ?_) | refine Rp.inc2 _ dX12_waitOfAll_43 rfl (by first | exact nl2_some rfl | exact nl2_none) (by decide) ?_
          refine Rp.goto (tgt := 12) dX12_waitOfAll_46 (by decide) ?_
          exact k1
        · skip
          cases c29
    · rw [if_neg hq] at k1
      rw [eK, decide_eq_true hq] at ho
      have wo := s_waitOf d S R hF KBk (Y0.ft F) (p := p) (by omega) (D p) VDd.1
      rw [eK] at wo
      refine Rp.iload_n dX12_waitOfAll_12 rfl ?_
      refine Rp.aload_n dX12_waitOfAll_13 rfl rfl ?_
      refine Rp.getR dX12_waitOfAll_14 fk_X12_24 rfl (S _ _ rfl) (R _ _ _ rfl) ?_
      refine Rp.bipush (nI 103) dX12_waitOfAll_17 (by decide) ?_
      first | ((with_reducible show Rp _ _ _ _ (.int (nI _) :: _) _ _); refine Rp.ialoadN dX12_waitOfAll_19 (S _ _ rfl) (by omega) ?_) | refine Rp.iaload dX12_waitOfAll_19 (S _ _ rfl) (by first | assumption | exact vpb (by decide)) ?_
      first | rw [hM] | skip
      first | ((with_reducible show Rp _ _ _ _ (.int (nI _) :: .int (nI _) :: _) _ _); refine Rp.icmp_geN (tgt := 49) dX12_waitOfAll_20 (by decide) (by omega) (fun c20 => ?_) (fun c20 => ?_)) | refine Rp.icmp_ge (tgt := 49) dX12_waitOfAll_20 (by decide) (fun c20 => ?_) (fun c20 => ?_)
      · skip
        first | (exfalso; omega) | exact absurd c20 (by decide) | exact absurd (by decide) c20
      · skip
        refine Rp.iload_n dX12_waitOfAll_23 rfl ?_
        refine Rp.aload_n dX12_waitOfAll_24 rfl rfl ?_
        refine Rp.iload_n dX12_waitOfAll_25 rfl ?_
        refine Rp.callV1 M_X12_holds (ci := 12) dX12_waitOfAll_26 mo_X12_holds lk_X12_351 (by decide) rfl rfl (S _ _ rfl) (Nat.le_of_ble_eq_true rfl) (Nat.le_of_ble_eq_true rfl) (ho) (fun v1 h1 p1 x1 => ?_)
        rw [p1.1, p1.2]
        try dsimp only [Option.toList, List.cons_append, List.nil_append, List.append]
        first | ((with_reducible show Rp _ _ _ _ (.int (b2i _) :: _) _ _); refine Rp.if_eqB (tgt := 40) dX12_waitOfAll_29 (by decide) (fun c29 => ?_) (fun c29 => ?_)) | ((with_reducible show Rp _ _ _ _ (.int (nI _) :: _) _ _); refine Rp.if_eqN (tgt := 40) dX12_waitOfAll_29 (by decide) (by omega) (fun c29 => ?_) (fun c29 => ?_)) | refine Rp.if_eq (tgt := 40) dX12_waitOfAll_29 (by decide) (fun c29 => ?_) (fun c29 => ?_)
        · skip
          cases c29
        · skip
          refine Rp.aload_n dX12_waitOfAll_32 rfl rfl ?_
          refine Rp.iload_n dX12_waitOfAll_33 rfl ?_
          refine Rp.callV1 M_X12_waitOf (ci := 12) dX12_waitOfAll_34 mo_X12_waitOf lk_X12_399 (by decide) rfl rfl (S _ _ rfl) (Nat.le_of_ble_eq_true rfl) (Nat.le_of_ble_eq_true rfl) (wo) (fun v1 h1 p1 x1 => ?_)
          obtain ⟨F1, rfl⟩ := p1
          have k1 := k1 h1 (by omega) (F.trans F1)
          try dsimp only [Option.toList, List.cons_append, List.nil_append, List.append]
          refine Rp.goto (tgt := 41) dX12_waitOfAll_37 (by decide) ?_
          first | ((with_reducible show Rp _ _ _ _ (.int (nI _) :: .int (nI _) :: _) _ _); refine Rp.iaddN dX12_waitOfAll_41 ?_) | refine Rp.iadd dX12_waitOfAll_41 ?_
          refine Rp.ist1 dX12_waitOfAll_42 (by first | exact nl2_some rfl | exact nl2_none) (by decide) ?_
          first | ((with_reducible show Rp _ _ _ (_ :: _ :: some (.int (nI _)) :: _) _ _ _); refine Rp.inc2N (c := 1) dX12_waitOfAll_43 (by first | exact nl2_some rfl | exact nl2_none) (by decide) ?_) | refine Rp.inc2 _ dX12_waitOfAll_43 rfl (by first | exact nl2_some rfl | exact nl2_none) (by decide) ?_
          refine Rp.goto (tgt := 12) dX12_waitOfAll_46 (by decide) ?_
          exact k1
theorem s_waitOfAll (B : MBd h fl np nt nd) : Rp (d + 78) M_X12_waitOfAll 0 [some (.ref aM), none, none] [] h (fun r h' => Fr mdX h h' ∧ DYm h' (dayF (gI h am_kept) fl nd np nt (fun _ => true) (gI h am_kept) 100) ∧ r = some (.int (nI (wtA (gI h am_kept) fl (dayF (gI h am_kept) fl nd np nt (fun _ => true) (gI h am_kept) 100) (gI h am_kept) np)))) := by
  have S := B.1
  have R := B.2.1
  have hnd := B.2.2.2.2.1.1
  have ad := s_allDesks (d + 77) S R B.2.2.2.2.2.1
  have ly := s_laysDay d B (st := fun _ => true) (op := adI nd) (adI_b hnd)
  refine Rp.aload_n dX12_waitOfAll_0 rfl rfl ?_
  refine Rp.aload_n dX12_waitOfAll_1 rfl rfl ?_
  refine Rp.callV0 M_X12_allDesks (ci := 12) dX12_waitOfAll_2 mo_X12_allDesks lk_X12_393 (by decide) rfl rfl (S _ _ rfl) (Nat.le_of_ble_eq_true rfl) (Nat.le_of_ble_eq_true rfl) (ad) (fun v1 h1 p1 x1 => ?_)
  rw [p1.1, p1.2]
  try dsimp only [Option.toList, List.cons_append, List.nil_append, List.append]
  refine Rp.callV1 M_X12_laysDay (ci := 12) dX12_waitOfAll_5 mo_X12_laysDay lk_X12_396 (by decide) rfl rfl (S _ _ rfl) (Nat.le_of_ble_eq_true rfl) (Nat.le_of_ble_eq_true rfl) (ly) (fun v1 h1 p1 x1 => ?_)
  obtain ⟨rfl, F1, Y1⟩ := p1
  try dsimp only [Option.toList, List.cons_append, List.nil_append, List.append]
  skip
  have B1 := B.fr F1
  have eK : gI h1 am_kept = gI h am_kept := F1.k102
  have k1 := wait12 (d + 1) B1 (s := dayF (gI h am_kept) fl nd np nt (fun _ => true) (gI h am_kept) 100) Y1 (fun p => dayF_DP 100 p) np 0 h1 (by omega) Fr.rfl'
  rw [eK] at k1
  have k2 := Rp.mono (Q := fun r h' => Fr mdX h h' ∧ DYm h' (dayF (gI h am_kept) fl nd np nt (fun _ => true) (gI h am_kept) 100) ∧ r = some (.int (nI (wtA (gI h am_kept) fl (dayF (gI h am_kept) fl nd np nt (fun _ => true) (gI h am_kept) 100) (gI h am_kept) np)))) (fun r h' p => ⟨F1.trans (mdX_t p.1), Y1.ft p.1, p.2⟩) k1
  refine Rp.iconst (nI 0) dX12_waitOfAll_8 (by decide) ?_
  refine Rp.ist1 dX12_waitOfAll_9 (by first | exact nl2_some rfl | exact nl2_none) (by decide) ?_
  refine Rp.iconst (nI 0) dX12_waitOfAll_10 (by decide) ?_
  refine Rp.ist2 dX12_waitOfAll_11 (by first | exact nl2_some rfl | exact nl2_none) (by decide) ?_
  exact k2
end Ml2
