theorem HA.lo {h : AH} {b : Nat} {K K' : Nat → Int32} {np nt nd nl : Nat} (H : HA h b K np nt nd nl) (hn : np ≤ 6) (e : ∀ j, j < 109 → K' j = K j) : HA h b K' np nt nd nl := by
  obtain ⟨A, a1, a2, a3, a4, a5, a6, a7, a8, a9, b1, b2, b3, b4, b5', b6, b7, b8, b9, c1, c2⟩ := H
  have w : ∀ {x : Int32} {j : Nat}, j < 109 → x = K j → x = K' j := fun hj z => z.trans (e _ hj).symm
  exact ⟨A, a1, a2, a3, w (by omega) a4, a5, w (by omega) a6, fun p hp => w (by omega) (a7 p hp), fun p hp => w (by omega) (a8 p hp), fun p hp => w (by omega) (a9 p hp), fun p hp => w (by omega) (b1 p hp), fun p hp => w (by omega) (b2 p hp), fun p hp => w (by omega) (b3 p hp), fun p hp => (b4 p hp).trans (hOf_eqv np (fun q hq => (e q (by omega)).symm)), fun p hp => w (by omega) (b5' p hp), fun p hp => w (by omega) (b6 p hp), fun p hp => w (by omega) (b7 p hp), fun p hp => w (by omega) (b8 p hp), w (by omega) b9, w (by omega) c1, w (by omega) c2⟩
theorem HG.lo {h : AH} {b : Nat} {K K' : Nat → Int32} {np nt nd nl : Nat} {LSs : Nat → List CLE} {E : List Int32} (G : HG h b K np nt nd nl LSs E) (hn : np ≤ 6) (e : ∀ j, j < 109 → K' j = K j) : HG h b K' np nt nd nl LSs E := ⟨G.1.lo hn e, G.2⟩
theorem KST.lo {K K' : Nat → Int32} {np nt nd nl no : Nat} {LSs : Nat → List CLE} (Q : KST K np nt nd nl no LSs) (e : ∀ j, j < 5716 → K' j = K j) : KST K' np nt nd nl no LSs := by
  obtain ⟨V, B, N, Dd, T, W, ⟨k3, k4, k5, k6, k7⟩, hl, hf, ll, zz⟩ := Q
  exact ⟨V.cg (fun j _ => e j (by omega)), B.cg (fun j _ => e j (by omega)), N.cg (fun j _ _ => e j (by omega)), Dd.cg (fun j _ _ => e j (by omega)), T.cg (fun j _ _ => e j (by omega)), W.cg (fun j _ _ => e j (by omega)), ⟨(e _ (by omega)).trans k3, (e _ (by omega)).trans k4, (e _ (by omega)).trans k5, (e _ (by omega)).trans k6, (e _ (by omega)).trans k7⟩, hl, by rw [e _ (by omega)]; exact hf, fun l h1 => (ll l h1).cg (by omega) (fun j _ hj => e j hj), fun q t hq ht hz => by rw [e _ (by omega)]; exact zz q t hq ht hz⟩
theorem IMG.keep {X : Nat → Nat → Bool} {h g : AH} {k : Nat} (C : IMG h k) (F : Fr X h g) (e34 : gI g 34 k = gI h 34 k) (e104 : gI g 104 k = gI h 104 k) (e103 : ∀ i, i < 5716 → gI g 103 (5716 * k + i) = gI h 103 (5716 * k + i)) (hx : ∀ o j, o < 16 → X (68 + 16 * k + o) j = false) (hT : ∀ k j, 129 ≤ k → X k j = false) : IMG g k := by
  obtain ⟨f, e1, e2, w⟩ := C
  refine ⟨f, e34.trans e1, e104.trans e2, fun q => ?_⟩
  obtain ⟨np, nt, nd, nl, no, LSs, E, G, Q⟩ := w q
  exact ⟨np, nt, nd, nl, no, LSs, E, (G.fr F hx hT).lo Q.1.1 (fun j hj => e103 j (by omega)), Q.lo (fun j hj => e103 j hj)⟩
section Ig
variable (d : Nat) {h : AH} {K : Nat → Int32} {np nt nd nl : Nat} {LSs : Nat → List CLE} {E : List Int32}
theorem im_ref (R : RfOK h) {q : Nat} (hq : q < 2) : gR h 33 q = some (68 + 16 * q) := by
  match q, hq with
  | 0, _ => exact R 33 0 68 rfl
  | 1, _ => exact R 33 1 84 rfl
  | q + 2, hq => exact absurd hq (by omega)
theorem t_image (S : ShOK h) (R : RfOK h) (G : HG h 1 K np nt nd nl LSs E) {q : Nat} (hq : q < 2) : Rp (d + 3) M_X11_image 0 [some (.ref 0), some (.int (nI q))] [] h (fun r h' => h' = acH (sI (cpyH 1 (68 + 16 * q) h) 34 q (nI 1 &&& 1)) ∧ r = some (.int (nI 0))) := by
  have A1 : HOK h (68 + 16 * q) := HOK.of S R (by omega)
  have hab : apart 1 (68 + 16 * q) := Or.inl (by omega)
  have cf := t_copyFrom d hab G.1.1 A1 G.2.2.1
  have S1 : ShOK (cpyH 1 (68 + 16 * q) h) := (cpy_fr 1 (68 + 16 * q) h).S S
  have R1 : RfOK (cpyH 1 (68 + 16 * q) h) := R.cpy 1 (by omega)
  have er := im_ref R hq
  have k28 : ∀ g, ShOK g → RfOK g → Rp (d + 3) M_X11_image 28 [some (.ref 0), some (.int (nI q))] [] g (fun r h' => h' = acH (sI g 34 q (nI 1 &&& 1)) ∧ r = some (.int (nI 0))) := by
    intro g Sg Rg
    have ac := t_accepted (d + 1) (h := sI g 34 q (nI 1 &&& 1)) (fun k z hz => Sg k z hz) (Rg.put _ _ _) (nI 0)
    refine Rp.aload_n dX11_image_28 rfl rfl ?_
    refine Rp.getR dX11_image_29 fk_X11_23 rfl (Sg _ _ rfl) (Rg _ _ _ rfl) ?_
    refine Rp.iload_n dX11_image_32 rfl ?_
    refine Rp.iconst (nI 1) dX11_image_33 (by decide) ?_
    first | ((with_reducible show Rp _ _ _ _ (_ :: .int (nI _) :: _) _ _); refine Rp.zastoreN dX11_image_34 (Sg _ _ rfl) (by omega) ?_) | refine Rp.zastore dX11_image_34 (Sg _ _ rfl) (by first | assumption | exact vpb (by decide)) ?_
    refine Rp.aload_n dX11_image_35 rfl rfl ?_
    refine Rp.iconst (nI 0) dX11_image_36 (by decide) ?_
    refine Rp.callV1 M_X11_accepted (ci := 11) dX11_image_37 mo_X11_accepted lk_X11_122 (by decide) rfl rfl (Sg _ _ rfl) (Nat.le_of_ble_eq_true rfl) (Nat.le_of_ble_eq_true rfl) (ac) (fun v1 h1 p1 x1 => ?_)
    rw [p1.1, p1.2]
    try dsimp only [Option.toList, List.cons_append, List.nil_append, List.append]
    refine Rp.ireturn dX11_image_40 rfl ?_
    exact ⟨rfl, rfl⟩
  have k28' := k28 _ S1 R1
  refine Rp.iload_n dX11_image_0 rfl ?_
  refine Rp.if_lt (tgt := 9) dX11_image_1 (by decide) (fun c1 => ?_) (fun c1 => ?_)
  · skip
    exact absurd c1 (nI_pos (by omega))
  · skip
    refine Rp.iload_n dX11_image_4 rfl ?_
    refine Rp.iconst (nI 1) dX11_image_5 (by decide) ?_
    first | ((with_reducible show Rp _ _ _ _ (.int (nI _) :: .int (nI _) :: _) _ _); refine Rp.icmp_leN (tgt := 15) dX11_image_6 (by decide) (by omega) (fun c6 => ?_) (fun c6 => ?_)) | refine Rp.icmp_le (tgt := 15) dX11_image_6 (by decide) (fun c6 => ?_) (fun c6 => ?_)
    · skip
      refine Rp.aload_n dX11_image_15 rfl rfl ?_
      refine Rp.getR dX11_image_16 fk_X11_19 rfl (S _ _ rfl) (R _ _ _ rfl) ?_
      refine Rp.iload_n dX11_image_19 rfl ?_
      refine Rp.aaload dX11_image_20 (Or.inr rfl) (S _ _ rfl) (vp_in_nI (show q < 2 from hq) (by decide)) ?_
      rw [nI_clamp (show q < 2 ^ 31 by omega), er]
      dsimp only [cvR]
      refine Rp.aload_n dX11_image_21 rfl rfl ?_
      refine Rp.getR dX11_image_22 fk_X11_10 rfl (S _ _ rfl) (R _ _ _ rfl) ?_
      refine Rp.callV1 M_X2_copyFrom (ci := 2) dX11_image_25 mo_X2_copyFrom lk_X11_223 (by decide) rfl rfl (A1.1 0 _ rfl) (Nat.le_of_ble_eq_true rfl) (Nat.le_of_ble_eq_true rfl) (cf) (fun v1 h1 p1 x1 => ?_)
      rw [p1.1, p1.2]
      try dsimp only [Option.toList, List.cons_append, List.nil_append, List.append]
      exact k28'
    · skip
      first | (exfalso; omega) | exact absurd c6 (by decide) | exact absurd (by decide) c6
theorem t_image_no (S : ShOK h) (R : RfOK h) {k : Int32} (hk : ¬ inN k 2 = true) : Rp (d + 3) M_X11_image 0 [some (.ref 0), some (.int k)] [] h (fun r h' => h' = rcH h 1 ∧ r = some (.int (-nI 1))) := by
  have rf := t_refused (d + 2) S R 1 (by decide)
  have n1 : ¬ (¬ k < 0 ∧ k ≤ nI 1) := fun z => hk (inN_tle (n := 1) (by omega) z.1 z.2)
  refine Rp.iload_n dX11_image_0 rfl ?_
  refine Rp.if_lt (tgt := 9) dX11_image_1 (by decide) (fun c1 => ?_) (fun c1 => ?_)
  · skip
    refine Rp.aload_n dX11_image_9 rfl rfl ?_
    refine Rp.iconst (-1) dX11_image_10 (by decide) ?_
    refine Rp.callV1 M_X11_refused (ci := 11) dX11_image_11 mo_X11_refused lk_X11_109 (by decide) rfl rfl (S _ _ rfl) (Nat.le_of_ble_eq_true rfl) (Nat.le_of_ble_eq_true rfl) (rf) (fun v1 h1 p1 x1 => ?_)
    rw [p1.1, p1.2]
    try dsimp only [Option.toList, List.cons_append, List.nil_append, List.append]
    refine Rp.ireturn dX11_image_14 rfl ?_
    exact ⟨rfl, rfl⟩
  · skip
    refine Rp.iload_n dX11_image_4 rfl ?_
    refine Rp.iconst (nI 1) dX11_image_5 (by decide) ?_
    first | ((with_reducible show Rp _ _ _ _ (.int (nI _) :: .int (nI _) :: _) _ _); refine Rp.icmp_leN (tgt := 15) dX11_image_6 (by decide) (by omega) (fun c6 => ?_) (fun c6 => ?_)) | refine Rp.icmp_le (tgt := 15) dX11_image_6 (by decide) (fun c6 => ?_) (fun c6 => ?_)
    · skip
      exact absurd ⟨c1, c6⟩ n1
    · skip
      refine Rp.aload_n dX11_image_9 rfl rfl ?_
      refine Rp.iconst (-1) dX11_image_10 (by decide) ?_
      refine Rp.callV1 M_X11_refused (ci := 11) dX11_image_11 mo_X11_refused lk_X11_109 (by decide) rfl rfl (S _ _ rfl) (Nat.le_of_ble_eq_true rfl) (Nat.le_of_ble_eq_true rfl) (rf) (fun v1 h1 p1 x1 => ?_)
      rw [p1.1, p1.2]
      try dsimp only [Option.toList, List.cons_append, List.nil_append, List.append]
      refine Rp.ireturn dX11_image_14 rfl ?_
      exact ⟨rfl, rfl⟩
theorem t_back_no (S : ShOK h) (R : RfOK h) {k : Int32} (hk : ¬ inN k 2 = true) : Rp (d + 3) M_X11_back 0 [some (.ref 0), some (.int k)] [] h (fun r h' => h' = rcH h 1 ∧ r = some (.int (-nI 1))) := by
  have rf := t_refused (d + 2) S R 1 (by decide)
  have n1 : ¬ (¬ k < 0 ∧ k ≤ nI 1) := fun z => hk (inN_tle (n := 1) (by omega) z.1 z.2)
  refine Rp.iload_n dX11_back_0 rfl ?_
  refine Rp.if_lt (tgt := 9) dX11_back_1 (by decide) (fun c1 => ?_) (fun c1 => ?_)
  · skip
    refine Rp.aload_n dX11_back_9 rfl rfl ?_
    refine Rp.iconst (-1) dX11_back_10 (by decide) ?_
    refine Rp.callV1 M_X11_refused (ci := 11) dX11_back_11 mo_X11_refused lk_X11_109 (by decide) rfl rfl (S _ _ rfl) (Nat.le_of_ble_eq_true rfl) (Nat.le_of_ble_eq_true rfl) (rf) (fun v1 h1 p1 x1 => ?_)
    rw [p1.1, p1.2]
    try dsimp only [Option.toList, List.cons_append, List.nil_append, List.append]
    refine Rp.ireturn dX11_back_14 rfl ?_
    exact ⟨rfl, rfl⟩
  · skip
    refine Rp.iload_n dX11_back_4 rfl ?_
    refine Rp.iconst (nI 1) dX11_back_5 (by decide) ?_
    first | ((with_reducible show Rp _ _ _ _ (.int (nI _) :: .int (nI _) :: _) _ _); refine Rp.icmp_leN (tgt := 15) dX11_back_6 (by decide) (by omega) (fun c6 => ?_) (fun c6 => ?_)) | refine Rp.icmp_le (tgt := 15) dX11_back_6 (by decide) (fun c6 => ?_) (fun c6 => ?_)
    · skip
      exact absurd ⟨c1, c6⟩ n1
    · skip
      refine Rp.aload_n dX11_back_9 rfl rfl ?_
      refine Rp.iconst (-1) dX11_back_10 (by decide) ?_
      refine Rp.callV1 M_X11_refused (ci := 11) dX11_back_11 mo_X11_refused lk_X11_109 (by decide) rfl rfl (S _ _ rfl) (Nat.le_of_ble_eq_true rfl) (Nat.le_of_ble_eq_true rfl) (rf) (fun v1 h1 p1 x1 => ?_)
      rw [p1.1, p1.2]
      try dsimp only [Option.toList, List.cons_append, List.nil_append, List.append]
      refine Rp.ireturn dX11_back_14 rfl ?_
      exact ⟨rfl, rfl⟩
theorem t_back_un (S : ShOK h) (R : RfOK h) {q : Nat} (hq : q < 2) (e34 : gI h 34 q = b2i false) : Rp (d + 3) M_X11_back 0 [some (.ref 0), some (.int (nI q))] [] h (fun r h' => h' = rcH h 2 ∧ r = some (.int (-nI 2))) := by
  have rf := t_refused (d + 2) S R 2 (by decide)
  refine Rp.iload_n dX11_back_0 rfl ?_
  refine Rp.if_lt (tgt := 9) dX11_back_1 (by decide) (fun c1 => ?_) (fun c1 => ?_)
  · skip
    exact absurd c1 (nI_pos (by omega))
  · skip
    refine Rp.iload_n dX11_back_4 rfl ?_
    refine Rp.iconst (nI 1) dX11_back_5 (by decide) ?_
    first | ((with_reducible show Rp _ _ _ _ (.int (nI _) :: .int (nI _) :: _) _ _); refine Rp.icmp_leN (tgt := 15) dX11_back_6 (by decide) (by omega) (fun c6 => ?_) (fun c6 => ?_)) | refine Rp.icmp_le (tgt := 15) dX11_back_6 (by decide) (fun c6 => ?_) (fun c6 => ?_)
    · skip
      refine Rp.aload_n dX11_back_15 rfl rfl ?_
      refine Rp.getR dX11_back_16 fk_X11_23 rfl (S _ _ rfl) (R _ _ _ rfl) ?_
      refine Rp.iload_n dX11_back_19 rfl ?_
      first | ((with_reducible show Rp _ _ _ _ (.int (nI _) :: _) _ _); refine Rp.zaloadN dX11_back_20 (S _ _ rfl) (by omega) ?_) | refine Rp.zaload dX11_back_20 (S _ _ rfl) (by first | assumption | exact vpb (by decide)) ?_
      first | rw [e34] | skip
      first | ((with_reducible show Rp _ _ _ _ (.int (b2i _) :: _) _ _); refine Rp.if_neB (tgt := 31) dX11_back_21 (by decide) (fun c21 => ?_) (fun c21 => ?_)) | ((with_reducible show Rp _ _ _ _ (.int (nI _) :: _) _ _); refine Rp.if_neN (tgt := 31) dX11_back_21 (by decide) (by omega) (fun c21 => ?_) (fun c21 => ?_)) | refine Rp.if_ne (tgt := 31) dX11_back_21 (by decide) (fun c21 => ?_) (fun c21 => ?_)
      · skip
        cases c21
      · skip
        refine Rp.aload_n dX11_back_24 rfl rfl ?_
        refine Rp.bipush (-2) dX11_back_25 (by decide) ?_
        refine Rp.callV1 M_X11_refused (ci := 11) dX11_back_27 mo_X11_refused lk_X11_109 (by decide) rfl rfl (S _ _ rfl) (Nat.le_of_ble_eq_true rfl) (Nat.le_of_ble_eq_true rfl) (rf) (fun v1 h1 p1 x1 => ?_)
        rw [p1.1, p1.2]
        try dsimp only [Option.toList, List.cons_append, List.nil_append, List.append]
        refine Rp.ireturn dX11_back_30 rfl ?_
        exact ⟨rfl, rfl⟩
    · skip
      first | (exfalso; omega) | exact absurd c6 (by decide) | exact absurd (by decide) c6
theorem t_back (S : ShOK h) (R : RfOK h) {q : Nat} (hq : q < 2) (e34 : gI h 34 q = b2i true) (G : HG h (68 + 16 * q) K np nt nd nl LSs E) : Rp (d + 3) M_X11_back 0 [some (.ref 0), some (.int (nI q))] [] h (fun r h' => h' = acH (sI (cpyH (68 + 16 * q) 1 h) 15 1 (nI 0)) ∧ r = some (.int (nI 0))) := by
  have A1 : HOK h 1 := HOK.of S R (by omega)
  have hab : apart (68 + 16 * q) 1 := Or.inr (by omega)
  have cf := t_copyFrom d hab G.1.1 A1 G.2.2.1
  have S1 : ShOK (cpyH (68 + 16 * q) 1 h) := (cpy_fr (68 + 16 * q) 1 h).S S
  have R1 : RfOK (cpyH (68 + 16 * q) 1 h) := R.cpy (68 + 16 * q) (by omega)
  have er := im_ref R hq
  have k44 : ∀ g, ShOK g → RfOK g → Rp (d + 3) M_X11_back 44 [some (.ref 0), some (.int (nI q))] [] g (fun r h' => h' = acH (sI g 15 1 (nI 0)) ∧ r = some (.int (nI 0))) := by
    intro g Sg Rg
    have cl := t_clear (d + 2) (h := g) (Sg 15 _ rfl)
    have ac := t_accepted (d + 1) (h := sI g 15 1 (nI 0)) (fun k z hz => Sg k z hz) (Rg.put _ _ _) (nI 0)
    refine Rp.aload_n dX11_back_44 rfl rfl ?_
    refine Rp.getR dX11_back_45 fk_X11_10 rfl (Sg _ _ rfl) (Rg _ _ _ rfl) ?_
    refine Rp.getR dX11_back_48 fk_X11_113 rfl (Sg _ _ rfl) (Rg _ _ _ rfl) ?_
    refine Rp.callV0 M_X4_clear (ci := 4) dX11_back_51 mo_X4_clear lk_X11_117 (by decide) rfl rfl (Sg _ _ rfl) (Nat.le_of_ble_eq_true rfl) (Nat.le_of_ble_eq_true rfl) (cl) (fun v1 h1 p1 x1 => ?_)
    rw [p1.1, p1.2]
    try dsimp only [Option.toList, List.cons_append, List.nil_append, List.append]
    refine Rp.aload_n dX11_back_54 rfl rfl ?_
    refine Rp.iconst (nI 0) dX11_back_55 (by decide) ?_
    refine Rp.callV1 M_X11_accepted (ci := 11) dX11_back_56 mo_X11_accepted lk_X11_122 (by decide) rfl rfl (Sg _ _ rfl) (Nat.le_of_ble_eq_true rfl) (Nat.le_of_ble_eq_true rfl) (ac) (fun v1 h1 p1 x1 => ?_)
    rw [p1.1, p1.2]
    try dsimp only [Option.toList, List.cons_append, List.nil_append, List.append]
    refine Rp.ireturn dX11_back_59 rfl ?_
    exact ⟨rfl, rfl⟩
  have k44' := k44 _ S1 R1
  refine Rp.iload_n dX11_back_0 rfl ?_
  refine Rp.if_lt (tgt := 9) dX11_back_1 (by decide) (fun c1 => ?_) (fun c1 => ?_)
  · skip
    exact absurd c1 (nI_pos (by omega))
  · skip
    refine Rp.iload_n dX11_back_4 rfl ?_
    refine Rp.iconst (nI 1) dX11_back_5 (by decide) ?_
    first | ((with_reducible show Rp _ _ _ _ (.int (nI _) :: .int (nI _) :: _) _ _); refine Rp.icmp_leN (tgt := 15) dX11_back_6 (by decide) (by omega) (fun c6 => ?_) (fun c6 => ?_)) | refine Rp.icmp_le (tgt := 15) dX11_back_6 (by decide) (fun c6 => ?_) (fun c6 => ?_)
    · skip
      refine Rp.aload_n dX11_back_15 rfl rfl ?_
      refine Rp.getR dX11_back_16 fk_X11_23 rfl (S _ _ rfl) (R _ _ _ rfl) ?_
      refine Rp.iload_n dX11_back_19 rfl ?_
      first | ((with_reducible show Rp _ _ _ _ (.int (nI _) :: _) _ _); refine Rp.zaloadN dX11_back_20 (S _ _ rfl) (by omega) ?_) | refine Rp.zaload dX11_back_20 (S _ _ rfl) (by first | assumption | exact vpb (by decide)) ?_
      first | rw [e34] | skip
      first | ((with_reducible show Rp _ _ _ _ (.int (b2i _) :: _) _ _); refine Rp.if_neB (tgt := 31) dX11_back_21 (by decide) (fun c21 => ?_) (fun c21 => ?_)) | ((with_reducible show Rp _ _ _ _ (.int (nI _) :: _) _ _); refine Rp.if_neN (tgt := 31) dX11_back_21 (by decide) (by omega) (fun c21 => ?_) (fun c21 => ?_)) | refine Rp.if_ne (tgt := 31) dX11_back_21 (by decide) (fun c21 => ?_) (fun c21 => ?_)
      · skip
        refine Rp.aload_n dX11_back_31 rfl rfl ?_
        refine Rp.getR dX11_back_32 fk_X11_10 rfl (S _ _ rfl) (R _ _ _ rfl) ?_
        refine Rp.aload_n dX11_back_35 rfl rfl ?_
        refine Rp.getR dX11_back_36 fk_X11_19 rfl (S _ _ rfl) (R _ _ _ rfl) ?_
        refine Rp.iload_n dX11_back_39 rfl ?_
        refine Rp.aaload dX11_back_40 (Or.inr rfl) (S _ _ rfl) (vp_in_nI (show q < 2 from hq) (by decide)) ?_
        rw [nI_clamp (show q < 2 ^ 31 by omega), er]
        dsimp only [cvR]
        refine Rp.callV1 M_X2_copyFrom (ci := 2) dX11_back_41 mo_X2_copyFrom lk_X11_223 (by decide) rfl rfl (S _ _ rfl) (Nat.le_of_ble_eq_true rfl) (Nat.le_of_ble_eq_true rfl) (cf) (fun v1 h1 p1 x1 => ?_)
        rw [p1.1, p1.2]
        try dsimp only [Option.toList, List.cons_append, List.nil_append, List.append]
        exact k44'
      · skip
        cases c21
    · skip
      first | (exfalso; omega) | exact absurd c6 (by decide) | exact absurd (by decide) c6
end Ig
def ioX (k j : Nat) : Bool := k == 34 || (k == 103 || (k == 104 || ((k == 0 && j == 14) || ((k == 52 && (j == 7 || j == 8)) || (k == 100 && j == 0)))))
def imX (q k j : Nat) : Bool := hlX (68 + 16 * q) k j || ioX k j
theorem imX_h {q : Nat} {h g : AH} (F : Fr (hlX (68 + 16 * q)) h g) : Fr (imX q) h g := F.weak (fun k j e => by unfold imX at e; rw [Bool.or_eq_false_iff] at e; exact e.1)
theorem imX_o {q : Nat} {h g : AH} (F : Fr ioX h g) : Fr (imX q) h g := F.weak (fun k j e => by unfold imX at e; rw [Bool.or_eq_false_iff] at e; exact e.2)
def icX (q k j : Nat) : Bool := hlX (68 + 16 * q) k j || k == 34
theorem icX_h {q : Nat} {h g : AH} (F : Fr (hlX (68 + 16 * q)) h g) : Fr (icX q) h g := F.weak (fun k j e => by unfold icX at e; rw [Bool.or_eq_false_iff] at e; exact e.1)
def ikX (k _j : Nat) : Bool := k == 103 || k == 104
def baX (k j : Nat) : Bool := hlX 1 k j || (k == 102 || ((k == 0 && j == 14) || ((k == 52 && (j == 7 || j == 8)) || (k == 100 && (j == 0 || j == 32)))))
theorem baX_h {h g : AH} (F : Fr (hlX 1) h g) : Fr baX h g := F.weak (fun k j e => by unfold baX at e; rw [Bool.or_eq_false_iff] at e; exact e.1)
theorem im_c {q : Nat} (hq : q < 2) : ∀ k j, cS k j = true → imX q k j = false := by
  intro k j e
  rw [Bool.eq_false_iff]
  intro x
  simp only [cS, imX, hlX, ioX, Bool.or_eq_true, Bool.and_eq_true, beq_iff_eq, decide_eq_true_eq] at e x
  omega
theorem im_t {q : Nat} (hq : q < 2) : ∀ k j, tS k j = true → imX q k j = false := by
  intro k j e
  rw [Bool.eq_false_iff]
  intro x
  simp only [tS, imX, hlX, ioX, Bool.or_eq_true, Bool.and_eq_true, beq_iff_eq, decide_eq_true_eq] at e x
  omega
theorem im_d {q : Nat} (hq : q < 2) : ∀ k j, dS k j = true → imX q k j = false := by
  intro k j e
  rw [Bool.eq_false_iff]
  intro x
  simp only [dS, imX, hlX, ioX, Bool.or_eq_true, Bool.and_eq_true, beq_iff_eq, decide_eq_true_eq] at e x
  omega
theorem im_z {q : Nat} (hq : q < 2) : ∀ k j, zS k j = true → imX q k j = false := by
  intro k j e
  rw [Bool.eq_false_iff]
  intro x
  simp only [zS, imX, hlX, ioX, Bool.or_eq_true, Bool.and_eq_true, beq_iff_eq, decide_eq_true_eq] at e x
  omega
theorem ic_n {q : Nat} (hq : q < 2) : ∀ k j, nS k j = true → icX q k j = false := by
  intro k j e
  rw [Bool.eq_false_iff]
  intro x
  simp only [nS, icX, hlX, Bool.or_eq_true, Bool.and_eq_true, beq_iff_eq, decide_eq_true_eq] at e x
  omega
theorem ik_n : ∀ k j, nS k j = true → ikX k j = false := by
  intro k j e
  rw [Bool.eq_false_iff]
  intro x
  simp only [nS, ikX, Bool.or_eq_true, Bool.and_eq_true, beq_iff_eq, decide_eq_true_eq] at e x
  omega
theorem ba_i : ∀ k j, iS k j = true → baX k j = false := by
  intro k j e
  rw [Bool.eq_false_iff]
  intro x
  simp only [iS, baX, hlX, Bool.or_eq_true, Bool.and_eq_true, beq_iff_eq, decide_eq_true_eq] at e x
  omega
theorem ba_t : ∀ k j, tS k j = true → baX k j = false := by
  intro k j e
  rw [Bool.eq_false_iff]
  intro x
  simp only [tS, baX, hlX, Bool.or_eq_true, Bool.and_eq_true, beq_iff_eq, decide_eq_true_eq] at e x
  omega
theorem ba_d : ∀ k j, dS k j = true → baX k j = false := by
  intro k j e
  rw [Bool.eq_false_iff]
  intro x
  simp only [dS, baX, hlX, Bool.or_eq_true, Bool.and_eq_true, beq_iff_eq, decide_eq_true_eq] at e x
  omega
theorem ba_z : ∀ k j, zS k j = true → baX k j = false := by
  intro k j e
  rw [Bool.eq_false_iff]
  intro x
  simp only [zS, baX, hlX, Bool.or_eq_true, Bool.and_eq_true, beq_iff_eq, decide_eq_true_eq] at e x
  omega
theorem h1_n : ∀ k j, nS k j = true → (hlX 1) k j = false := by
  intro k j e
  rw [Bool.eq_false_iff]
  intro x
  simp only [nS, hlX, Bool.or_eq_true, Bool.and_eq_true, beq_iff_eq, decide_eq_true_eq] at e x
  omega
theorem k2_n : ∀ k j, nS k j = true → hkX k j = false := by
  intro k j e
  rw [Bool.eq_false_iff]
  intro x
  simp only [nS, hkX, Bool.or_eq_true, Bool.and_eq_true, beq_iff_eq, decide_eq_true_eq] at e x
  omega
section Pi
variable {L : Nat} {xs : Nat → Int32}
theorem p_image (a1 : Int32) : Pr (Ivt L xs) 103 M_X11_image M_X12_image [.int a1] := by
  intro n h I
  obtain ⟨np, nt, nd, nl, no, LSs, E, US, C1, C2, C3⟩ := I.2.2.1
  by_cases c : inN a1 2 = true
  · obtain ⟨q, hq, rfl⟩ := (inN_iff (by omega)).mp c
    refine (t_image 100 I.1.1 I.1.2.1 C1.1 hq).imp (fun r h1 p => ?_)
    obtain ⟨e1, rfl⟩ := p
    refine ⟨_, rfl, ?_⟩
    have A1 : HOK h (68 + 16 * q) := HOK.of I.1.1 I.1.2.1 (by omega)
    have G2 : HG (cpyH 1 (68 + 16 * q) h) (68 + 16 * q) (gI h 102) np nt nd nl LSs E := C1.1.cpy (by omega) (Or.inl (by omega)) A1
    have F1 := cpy_fr 1 (68 + 16 * q) h
    have R1 : RfOK (cpyH 1 (68 + 16 * q) h) := I.1.2.1.cpy 1 (by omega)
    generalize cpyH 1 (68 + 16 * q) h = g at e1 G2 F1 R1
    have F2 : Fr (icX q) h (sI g 34 q (nI 1 &&& 1)) := (icX_h F1).sI (by unfold icX; simp)
    have O2 : Fr ioX g (sI g 34 q (nI 1 &&& 1)) := Fr.rfl'.sI rfl
    have R2 : RfOK (sI g 34 q (nI 1 &&& 1)) := R1.put _ _ _
    have e34 : gI (sI g 34 q (nI 1 &&& 1)) 34 q = b2i true := gI_hit _ _ _ _
    have o34 : ∀ k, k ≠ q → gI (sI g 34 q (nI 1 &&& 1)) 34 k = gI h 34 k := fun k hk => (gI_off _ _ _ hk).trans (F1.I 34 k (hlX_n (by omega)))
    generalize sI g 34 q (nI 1 &&& 1) = g2 at e1 F2 O2 R2 e34 o34
    rw [e1]
    have O3 : Fr ioX g (acH g2) := ((O2.sI rfl).sI rfl).sI rfl
    have e3 : gI (acH g2) 102 = gI h 102 := funext fun j => (ac_I g2 (by decide) j).trans ((O2.I 102 j rfl).trans (F1.I 102 j (hlX_n (by omega))))
    have S3 : ShOK (acH g2) := O3.S (F1.S I.1.1)
    have t2 := s_image 102 S3 R2.ac (nI q)
    rw [show mImage (acH g2) (nI q) = (nI 0, gdH (sI (imgW (acH g2) q 5716) am_hasImage q (nI 1 &&& 1))) by unfold mImage; rw [if_pos c, ix_nI (by omega)]] at t2
    refine t2.imp (fun r2 h2 p2 => ⟨p2.2, ?_⟩)
    have eh := p2.1
    have O4 : Fr ikX (acH g2) (imgW (acH g2) q 5716) := Fr.rfl'.wr 5716 (fun i _ => rfl)
    have R4 : RfOK (imgW (acH g2) q 5716) := R2.ac.wr _ _ _ _
    have v4 : ∀ i, i < 5716 → gI (imgW (acH g2) q 5716) 103 (5716 * q + i) = gI h 102 i := fun i hi => (gI_wrI_in (acH g2) 103 (5716 * q) _ 5716 hi).trans (congrFun e3 i)
    have u4 : ∀ j, (∀ i, i < 5716 → j ≠ 5716 * q + i) → gI (imgW (acH g2) q 5716) 103 j = gI h 103 j := fun j hj => (gI_wrI_out _ _ _ _ _ hj).trans ((ac_I g2 (by decide) j).trans (F2.I 103 j (by unfold icX; rw [hlX_n (by omega)]; rfl)))
    have h4 : ∀ j, gI (imgW (acH g2) q 5716) 104 j = gI h 104 j := fun j => (gI_wrI_ne _ _ _ (by decide) _ _).trans ((ac_I g2 (by decide) j).trans (F2.I 104 j (by unfold icX; rw [hlX_n (by omega)]; rfl)))
    have w34 : ∀ j, gI (imgW (acH g2) q 5716) 34 j = gI g2 34 j := fun j => (gI_wrI_ne _ _ _ (by decide) _ _).trans (ac_I g2 (by decide) j)
    generalize imgW (acH g2) q 5716 = w at eh O4 R4 v4 u4 h4 w34
    have O5 : Fr ikX (acH g2) (sI w am_hasImage q (nI 1 &&& 1)) := O4.sI rfl
    have R5 : RfOK (sI w am_hasImage q (nI 1 &&& 1)) := R4.put _ _ _
    have e104 : gI (sI w am_hasImage q (nI 1 &&& 1)) 104 q = b2i true := gI_hit _ _ _ _
    have o104 : ∀ k, k ≠ q → gI (sI w am_hasImage q (nI 1 &&& 1)) 104 k = gI h 104 k := fun k hk => (gI_off _ _ _ hk).trans (h4 k)
    have v5 : ∀ i, i < 5716 → gI (sI w am_hasImage q (nI 1 &&& 1)) 103 (5716 * q + i) = gI h 102 i := fun i hi => (gI_ne _ _ _ _ (by decide)).trans (v4 i hi)
    have u5 : ∀ j, (∀ i, i < 5716 → j ≠ 5716 * q + i) → gI (sI w am_hasImage q (nI 1 &&& 1)) 103 j = gI h 103 j := fun j hj => (gI_ne _ _ _ _ (by decide)).trans (u4 j hj)
    have w5 : ∀ j, gI (sI w am_hasImage q (nI 1 &&& 1)) 34 j = gI g2 34 j := fun j => (gI_ne _ _ _ _ (by decide)).trans (w34 j)
    generalize sI w am_hasImage q (nI 1 &&& 1) = w2 at eh O5 R5 e104 o104 v5 u5 w5
    have eh : h2 = gdH w2 := eh
    have A := (ANSW.ok I.2.2.2.2.2.1 F2 (ic_n hq) O5 ik_n).1
    rw [← eh] at A
    have O5' : Fr ioX (acH g2) w2 := O5.weak (fun k j x => by
      rw [Bool.eq_false_iff] at x ⊢
      intro z
      refine x ?_
      simp only [ikX, ioX, Bool.or_eq_true, Bool.and_eq_true, beq_iff_eq] at z ⊢
      omega)
    have O6 : Fr ioX g h2 := by
      rw [eh]
      exact (O3.trans O5').sI rfl
    have F : Fr (imX q) h h2 := (imX_h F1).trans (imX_o O6)
    have R : RfOK h2 := by
      rw [eh]
      exact R5.gd
    have e102 : gI h2 102 = gI h 102 := F.fun (fun j => by unfold imX; rw [hlX_n (by omega)]; rfl)
    have x34 : ∀ j, gI h2 34 j = gI g2 34 j := fun j => by
      rw [eh, gd_I w2 (by decide)]
      exact w5 j
    have x104 : ∀ j, gI h2 104 j = gI w2 104 j := fun j => by
      rw [eh, gd_I w2 (by decide)]
    have x103 : ∀ j, gI h2 103 j = gI w2 103 j := fun j => by
      rw [eh, gd_I w2 (by decide)]
    have c7 : gI h2 52 7 = nI 0 := by
      rw [eh, gd_I w2 (by decide), O5.I 52 7 rfl]
      rfl
    have c8 : gI h2 52 8 = nI 0 := by
      rw [eh, gd_I w2 (by decide), O5.I 52 8 rfl]
      rfl
    have Mq : IMG h2 q := by
      refine ⟨true, (x34 q).trans e34, (x104 q).trans e104, fun _ => ⟨np, nt, nd, nl, no, LSs, E, ?_, ?_⟩⟩
      · refine (G2.fr O6 (fun o j ho => ?_) (fun k j hk => ?_)).lo C1.2.1.1.1 (fun j hj => (x103 _).trans (v5 j (by omega)))
        · rw [Bool.eq_false_iff]
          intro z
          simp only [ioX, Bool.or_eq_true, Bool.and_eq_true, beq_iff_eq] at z
          omega
        · rw [Bool.eq_false_iff]
          intro z
          simp only [ioX, Bool.or_eq_true, Bool.and_eq_true, beq_iff_eq] at z
          omega
      · exact C1.2.1.lo (fun j hj => (x103 _).trans (v5 j hj))
    have Mo : ∀ k, k < 2 → k ≠ q → IMG h k → IMG h2 k := fun k hk hkq M => M.keep F ((x34 k).trans (o34 k hkq)) ((x104 k).trans (o104 k hkq)) (fun i hi => (x103 _).trans (u5 _ (fun i2 hi2 => by omega))) (fun o j ho => by
        rw [Bool.eq_false_iff]
        intro z
        simp only [imX, hlX, ioX, Bool.or_eq_true, Bool.and_eq_true, beq_iff_eq, decide_eq_true_eq] at z
        omega) (fun k j hk => by
        rw [Bool.eq_false_iff]
        intro z
        simp only [imX, hlX, ioX, Bool.or_eq_true, Bool.and_eq_true, beq_iff_eq, decide_eq_true_eq] at z
        omega)
    have M2 : IMG h2 0 ∧ IMG h2 1 := by
      by_cases q0 : q = 0
      · exact ⟨by rw [q0] at Mq; exact Mq, Mo 1 (by omega) (by omega) I.2.2.2.1.2⟩
      · have q1 : q = 1 := by omega
        exact ⟨Mo 0 (by omega) (by omega) I.2.2.2.1.1, by rw [q1] at Mq; exact Mq⟩
    exact (I.all F R (I.2.1.fr F (im_z hq)) ⟨np, nt, nd, nl, no, LSs, E, US, C1.fr F e102 (im_c hq), CAB.no c7, CWY.no c8⟩ M2 (I.2.2.2.2.1.fr F (im_t hq)) A (I.2.2.2.2.2.2.fr F (im_d hq))).up
  · refine pr_no (k := 1) I (by omega) (t_image_no 100 I.1.1 I.1.2.1 c) (fun g Sg Rg eg => ?_)
    have t2 := s_image 102 Sg Rg a1
    rw [show mImage g a1 = (-nI 1, rfH g 1) by unfold mImage; rw [if_neg c]] at t2
    exact t2
end Pi
