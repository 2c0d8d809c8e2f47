section Te2
variable (d : Nat) {h : AH} {K : Nat → Int32} {np nt nd nl : Nat} {LSs : Nat → List CLE} {E : List Int32}
theorem t_earliest {fl : Option (List CLE)} (S : ShOK h) (R : RfOK h) (J : JS h 1 K fl) (M : HM h 1 K np nt) (D : HD h 1 K nd) (L : LINE h K nt) (B : KB K) (VDd : VD K nd) (VNn : VN K nt) {p : Nat} (hp : p < np) (hKp : K p = -1) : Rp (d + 4) M_X6_earliestDone 0 [some (.ref 52), some (.int (nI p)), none, none, none, none, none] [] h (fun r h' => EdI h h' K fl np nt nd ∧ r = some (.int (aqI (tkF K fl nd np nt p nt)))) := by
  have j40 : gR h 40 3 = some 1 := J.1
  have F1 : Fr wyX h (cpH h 8 54 0 0 8) := Fr.cpL (fun j hj => by unfold wyX; rw [decide_eq_true (show j < 8 by omega)]; rfl)
  have h33 : ∀ k j, k < 33 → wyX k j = false := fun k j hk => wyX_n (by omega)
  have I1 : EdI h (cpH h 8 54 0 0 8) K fl np nt nd := ⟨S, R, J.fw F1, M.fr F1 (fun o j ho _ _ => h33 _ _ (by omega)) (fun o j ho e => by rw [h33 _ _ (by omega)] at e; cases e), ⟨D.1.fr F1 (fun j => h33 _ _ (by decide)) (h33 _ _ (by decide)), D.2.1, (F1.I _ _ (h33 _ _ (by decide))).trans D.2.2.1, fun e he => (F1.I _ _ (h33 _ _ (by decide))).trans (D.2.2.2 e he)⟩, fun t ht => (F1.I 47 _ rfl).trans (L t ht), fun t ht => by rw [gI_cp, if_pos rfl, if_pos (by omega), show 0 + (t - 0) = t by omega]; exact M.2.2.2.2.2 t ht, pdX_w F1⟩
  have k31 := earl31 d (h0 := h) (fl := fl) B M.1 VDd VNn hp hKp nt 0 (cpH h 8 54 0 0 8) (nI 0) none (by omega) I1 (fun z => absurd rfl z)
  refine Rp.aload_n dX6_earliestDone_0 rfl rfl ?_
  refine Rp.getR dX6_earliestDone_1 fk_X6_27 rfl (S _ _ rfl) (R _ _ _ rfl) ?_
  refine Rp.getR dX6_earliestDone_4 fk_X6_86 rfl (S _ _ rfl) j40 ?_
  refine Rp.ast2 dX6_earliestDone_7 (by first | exact nl2_some rfl | exact nl2_none) (by decide) ?_
  refine Rp.aload_n dX6_earliestDone_8 rfl rfl ?_
  refine Rp.getR dX6_earliestDone_9 fk_X6_105 rfl (S _ _ rfl) (R _ _ _ rfl) ?_
  refine Rp.iconst (nI 0) dX6_earliestDone_12 (by decide) ?_
  refine Rp.aload_n dX6_earliestDone_13 rfl rfl ?_
  refine Rp.getR dX6_earliestDone_14 fk_X6_15 rfl (S _ _ rfl) (R _ _ _ rfl) ?_
  refine Rp.iconst (nI 0) dX6_earliestDone_17 (by decide) ?_
  refine Rp.bipush (nI 8) dX6_earliestDone_18 (by decide) ?_
  refine Rp.acopy dX6_earliestDone_20 ac_X6_126 (S _ _ rfl) (S _ _ rfl) (by decide) (Nat.le_of_ble_eq_true rfl) ?_
  refine Rp.iconst (-1) dX6_earliestDone_23 (by decide) ?_
  refine Rp.ist3 dX6_earliestDone_24 (by first | exact nl2_some rfl | exact nl2_none) (by decide) ?_
  refine Rp.iconst (nI 0) dX6_earliestDone_25 (by decide) ?_
  refine Rp.ist4 dX6_earliestDone_26 (by first | exact nl2_some rfl | exact nl2_none) (by decide) ?_
  refine Rp.iconst (nI 0) dX6_earliestDone_28 (by decide) ?_
  refine Rp.ist5 dX6_earliestDone_29 (by first | exact nl2_some rfl | exact nl2_none) (by decide) ?_
  exact k31
def tzX (k j : Nat) : Bool := soX k j || pdX k j
theorem tzX_s {h g : AH} (F : Fr soX h g) : Fr tzX h g := F.weak (fun k j hx => by unfold tzX at hx; rw [Bool.or_eq_false_iff] at hx; exact hx.1)
theorem tzX_a {h g : AH} (F : Fr pdX h g) : Fr tzX h g := F.weak (fun k j hx => by unfold tzX at hx; rw [Bool.or_eq_false_iff] at hx; exact hx.2)
theorem t_take (S : ShOK h) (R : RfOK h) (G : HG h 1 K np nt nd nl LSs E) (V : VH K np nt) (B : KB K) (VNn : VN K nt) (VDd : VD K nd) (hz : ∀ j, 9 ≤ j → gI h 43 j = 0) (p : Int32) : Rp (d + 5) M_X11_take 0 [some (.ref 0), some (.int p)] [] h (fun r h' => r = some (.int (tkA K (flO nl LSs (K 108)) nd np nt p)) ∧ Fr tzX h h' ∧ ∀ j, 9 ≤ j → gI h' 43 j = 0) := by
  have v1 := V.1
  have ip := t_isPerson (d + 4) (k := 1) (S _ _ rfl) p v1 G.1.2.1
  unfold tkA
  by_cases c : inN p np = true
  · rw [if_pos c]
    rw [c] at ip
    obtain ⟨q, hq, rfl⟩ := (inN_iff (by omega)).mp c
    rw [ix_nI (by omega)]
    have ek : gI h 4 q = K q := G.1.2.2.2.2.2.2.2.2.2.1 q (by omega)
    by_cases c2 : K q = -1
    · rw [if_pos c2]
      have e18 : gI h 1 18 = K 108 := G.1.2.2.2.2.2.2.1
      have lf := t_lawInForce (d + 2) G.2.1
      rw [e18] at lf
      have k44 : ∀ g, Fr bX h g → JS g 1 K (flO nl LSs (K 108)) → Rp (d + 5) M_X11_take 44 [some (.ref 0), some (.int (nI q))] [] g (fun r h' => r = some (.int (aqI (tkF K (flO nl LSs (K 108)) nd np nt q nt))) ∧ Fr tzX h h' ∧ ∀ j, 9 ≤ j → gI h' 43 j = 0) := by
        intro g F1 J1
        have S1 := F1.S S
        have R1 := F1.R R (by decide)
        have G1 : HG g 1 K np nt nd nl LSs E := G.fr F1 (fun o j ho => bX_b (by decide) ho) (fun k j o => bX_T (ok129 o))
        have M1 := G1.1.hm V
        have ln := t_line (d + 4) (K := K) S1 R1 (by decide) G1.1.1 VNn M1.2.2.2.1 G1.1.2.2.2.2.2.2.2.2.2.2.2.1
        refine Rp.aload_n dX11_take_44 rfl rfl ?_
        refine Rp.getR dX11_take_45 fk_X11_55 rfl (S1 _ _ rfl) (R1 _ _ _ rfl) ?_
        refine Rp.aload_n dX11_take_48 rfl rfl ?_
        refine Rp.getR dX11_take_49 fk_X11_10 rfl (S1 _ _ rfl) (R1 _ _ _ rfl) ?_
        refine Rp.callV1 M_X1_line (ci := 1) dX11_take_52 mo_X1_line lk_X11_308 (by decide) rfl rfl (S1 _ _ rfl) (Nat.le_of_ble_eq_true rfl) (Nat.le_of_ble_eq_true rfl) (ln) (fun v1 h1 p1 x1 => ?_)
        obtain ⟨rfl, F2, L2⟩ := p1
        try dsimp only [Option.toList, List.cons_append, List.nil_append, List.append]
        skip
        have S2 := F2.S S1
        have R2 := F2.R R1 (by decide)
        have J2 : JS h1 1 K (flO nl LSs (K 108)) := J1.fg F2 (fun j => rfl) (fun j => rfl) (fun j => rfl) (fun k j hk => liX_n (by omega)) (fun k j o => liX_n (okT_ne o (by decide) (by decide) (by decide) (by decide)))
        have G2 : HG h1 1 K np nt nd nl LSs E := G1.fr F2 (fun o j ho => liX_n (by omega)) (fun k j o => liX_n (by omega))
        have ed := t_earliest d S2 R2 J2 (G2.1.hm V) (G2.1.hd VDd.1) L2 B VDd VNn hq c2
        refine Rp.aload_n dX11_take_55 rfl rfl ?_
        refine Rp.getR dX11_take_56 fk_X11_64 rfl (S2 _ _ rfl) (R2 _ _ _ rfl) ?_
        refine Rp.iload_n dX11_take_59 rfl ?_
        refine Rp.callV1 M_X6_earliestDone (ci := 6) dX11_take_60 mo_X6_earliestDone lk_X11_311 (by decide) rfl rfl (S2 _ _ rfl) (Nat.le_of_ble_eq_true rfl) (Nat.le_of_ble_eq_true rfl) (ed) (fun v1 h1 p1 x1 => ?_)
        obtain ⟨I3, rfl⟩ := p1
        try dsimp only [Option.toList, List.cons_append, List.nil_append, List.append]
        refine Rp.ireturn dX11_take_63 rfl ?_
        exact ⟨rfl, ((tzX_s (soX_b F1)).trans (tzX_s (soX_l F2))).trans (tzX_a I3.2.2.2.2.2.2.2), I3.2.2.1.2.2.2.1⟩
      refine Rp.aload_n dX11_take_0 rfl rfl ?_
      refine Rp.getR dX11_take_1 fk_X11_10 rfl (S _ _ rfl) (R _ _ _ rfl) ?_
      refine Rp.iload_n dX11_take_4 rfl ?_
      refine Rp.callV1 M_X2_isPerson (ci := 2) dX11_take_5 mo_X2_isPerson lk_X11_125 (by decide) rfl rfl (S _ _ rfl) (Nat.le_of_ble_eq_true rfl) (Nat.le_of_ble_eq_true rfl) (ip) (fun v1 h1 p1 x1 => ?_)
      rw [p1.1, p1.2]
      try dsimp only [Option.toList, List.cons_append, List.nil_append, List.append]
      first | ((with_reducible show Rp _ _ _ _ (.int (b2i _) :: _) _ _); refine Rp.if_eqB (tgt := 24) dX11_take_8 (by decide) (fun c8 => ?_) (fun c8 => ?_)) | ((with_reducible show Rp _ _ _ _ (.int (nI _) :: _) _ _); refine Rp.if_eqN (tgt := 24) dX11_take_8 (by decide) (by omega) (fun c8 => ?_) (fun c8 => ?_)) | refine Rp.if_eq (tgt := 24) dX11_take_8 (by decide) (fun c8 => ?_) (fun c8 => ?_)
      · cases c8
      refine Rp.aload_n dX11_take_11 rfl rfl ?_
      refine Rp.getR dX11_take_12 fk_X11_10 rfl (S _ _ rfl) (R _ _ _ rfl) ?_
      refine Rp.getR dX11_take_15 fk_X11_135 rfl (S _ _ rfl) (R _ _ _ rfl) ?_
      refine Rp.iload_n dX11_take_18 rfl ?_
      first | ((with_reducible show Rp _ _ _ _ (.int (nI _) :: _) _ _); refine Rp.ialoadN dX11_take_19 (S _ _ rfl) (by omega) ?_) | refine Rp.iaload dX11_take_19 (S _ _ rfl) (by first | assumption | exact vpb (by decide)) ?_
      first | rw [ek] | skip
      refine Rp.iconst (-1) dX11_take_20 (by decide) ?_
      first | ((with_reducible show Rp _ _ _ _ (.int (nI _) :: .int (nI _) :: _) _ _); refine Rp.icmp_eqN (tgt := 26) dX11_take_21 (by decide) (by omega) (fun c21 => ?_) (fun c21 => ?_)) | refine Rp.icmp_eq (tgt := 26) dX11_take_21 (by decide) (fun c21 => ?_) (fun c21 => ?_)
      rotate_left
      · exact absurd c2 c21
      refine Rp.aload_n dX11_take_26 rfl rfl ?_
      refine Rp.getR dX11_take_27 fk_X11_39 rfl (S _ _ rfl) (R _ _ _ rfl) ?_
      refine Rp.aload_n dX11_take_30 rfl rfl ?_
      refine Rp.getR dX11_take_31 fk_X11_10 rfl (S _ _ rfl) (R _ _ _ rfl) ?_
      refine Rp.aload_n dX11_take_34 rfl rfl ?_
      refine Rp.getR dX11_take_35 fk_X11_10 rfl (S _ _ rfl) (R _ _ _ rfl) ?_
      refine Rp.callV0 M_X2_lawInForce (ci := 2) dX11_take_38 mo_X2_lawInForce lk_X11_138 (by decide) rfl rfl (S _ _ rfl) (Nat.le_of_ble_eq_true rfl) (Nat.le_of_ble_eq_true rfl) (lf) (fun v1 h1 p1 x1 => ?_)
      obtain ⟨rfl, lr, rfl, qq⟩ := p1
      try dsimp only [Option.toList, List.cons_append, List.nil_append, List.append]
      skip
      match lr, qq with
      | none, qq =>
        have bg := t_beginJ (d + 3) S R (G.1.hj (Or.inl rfl)) hz qq
        dsimp only [cvR] at bg ⊢
        refine Rp.callV2 M_X3_begin (ci := 3) dX11_take_41 mo_X3_begin lk_X11_142 (by decide) rfl rfl (S _ _ rfl) (Nat.le_of_ble_eq_true rfl) (Nat.le_of_ble_eq_true rfl) (bg) (fun v1 h1 p1 x1 => ?_)
        obtain ⟨rfl, F4, J4⟩ := p1
        try dsimp only [Option.toList, List.cons_append, List.nil_append, List.append]
        exact k44 _ F4 J4
      | some tx, qq =>
        have bg := t_beginJ (d + 3) S R (G.1.hj (Or.inl rfl)) hz qq
        dsimp only [cvR] at bg ⊢
        refine Rp.callV2 M_X3_begin (ci := 3) dX11_take_41 mo_X3_begin lk_X11_142 (by decide) rfl rfl (S _ _ rfl) (Nat.le_of_ble_eq_true rfl) (Nat.le_of_ble_eq_true rfl) (bg) (fun v1 h1 p1 x1 => ?_)
        obtain ⟨rfl, F4, J4⟩ := p1
        try dsimp only [Option.toList, List.cons_append, List.nil_append, List.append]
        exact k44 _ F4 J4
    · rw [if_neg c2]
      refine Rp.aload_n dX11_take_0 rfl rfl ?_
      refine Rp.getR dX11_take_1 fk_X11_10 rfl (S _ _ rfl) (R _ _ _ rfl) ?_
      refine Rp.iload_n dX11_take_4 rfl ?_
      refine Rp.callV1 M_X2_isPerson (ci := 2) dX11_take_5 mo_X2_isPerson lk_X11_125 (by decide) rfl rfl (S _ _ rfl) (Nat.le_of_ble_eq_true rfl) (Nat.le_of_ble_eq_true rfl) (ip) (fun v1 h1 p1 x1 => ?_)
      rw [p1.1, p1.2]
      try dsimp only [Option.toList, List.cons_append, List.nil_append, List.append]
      first | ((with_reducible show Rp _ _ _ _ (.int (b2i _) :: _) _ _); refine Rp.if_eqB (tgt := 24) dX11_take_8 (by decide) (fun c8 => ?_) (fun c8 => ?_)) | ((with_reducible show Rp _ _ _ _ (.int (nI _) :: _) _ _); refine Rp.if_eqN (tgt := 24) dX11_take_8 (by decide) (by omega) (fun c8 => ?_) (fun c8 => ?_)) | refine Rp.if_eq (tgt := 24) dX11_take_8 (by decide) (fun c8 => ?_) (fun c8 => ?_)
      · skip
        cases c8
      · skip
        refine Rp.aload_n dX11_take_11 rfl rfl ?_
        refine Rp.getR dX11_take_12 fk_X11_10 rfl (S _ _ rfl) (R _ _ _ rfl) ?_
        refine Rp.getR dX11_take_15 fk_X11_135 rfl (S _ _ rfl) (R _ _ _ rfl) ?_
        refine Rp.iload_n dX11_take_18 rfl ?_
        first | ((with_reducible show Rp _ _ _ _ (.int (nI _) :: _) _ _); refine Rp.ialoadN dX11_take_19 (S _ _ rfl) (by omega) ?_) | refine Rp.iaload dX11_take_19 (S _ _ rfl) (by first | assumption | exact vpb (by decide)) ?_
        first | rw [ek] | skip
        refine Rp.iconst (-1) dX11_take_20 (by decide) ?_
        first | ((with_reducible show Rp _ _ _ _ (.int (nI _) :: .int (nI _) :: _) _ _); refine Rp.icmp_eqN (tgt := 26) dX11_take_21 (by decide) (by omega) (fun c21 => ?_) (fun c21 => ?_)) | refine Rp.icmp_eq (tgt := 26) dX11_take_21 (by decide) (fun c21 => ?_) (fun c21 => ?_)
        · skip
          exact absurd c21 c2
        · skip
          refine Rp.iconst (-1) dX11_take_24 (by decide) ?_
          refine Rp.ireturn dX11_take_25 rfl ?_
          exact ⟨rfl, Fr.rfl', hz⟩
  · rw [if_neg c]
    rw [Bool.eq_false_iff.mpr c] at ip
    refine Rp.aload_n dX11_take_0 rfl rfl ?_
    refine Rp.getR dX11_take_1 fk_X11_10 rfl (S _ _ rfl) (R _ _ _ rfl) ?_
    refine Rp.iload_n dX11_take_4 rfl ?_
    refine Rp.callV1 M_X2_isPerson (ci := 2) dX11_take_5 mo_X2_isPerson lk_X11_125 (by decide) rfl rfl (S _ _ rfl) (Nat.le_of_ble_eq_true rfl) (Nat.le_of_ble_eq_true rfl) (ip) (fun v1 h1 p1 x1 => ?_)
    rw [p1.1, p1.2]
    try dsimp only [Option.toList, List.cons_append, List.nil_append, List.append]
    first | ((with_reducible show Rp _ _ _ _ (.int (b2i _) :: _) _ _); refine Rp.if_eqB (tgt := 24) dX11_take_8 (by decide) (fun c8 => ?_) (fun c8 => ?_)) | ((with_reducible show Rp _ _ _ _ (.int (nI _) :: _) _ _); refine Rp.if_eqN (tgt := 24) dX11_take_8 (by decide) (by omega) (fun c8 => ?_) (fun c8 => ?_)) | refine Rp.if_eq (tgt := 24) dX11_take_8 (by decide) (fun c8 => ?_) (fun c8 => ?_)
    · skip
      refine Rp.iconst (-1) dX11_take_24 (by decide) ?_
      refine Rp.ireturn dX11_take_25 rfl ?_
      exact ⟨rfl, Fr.rfl', hz⟩
    · skip
      cases c8
end Te2
def tmX (k j : Nat) : Bool := mdX k j || (k == 102 && decide (j < 6))
theorem tmX_d {h g : AH} (F : Fr mdX h g) : Fr tmX h g := F.weak (fun k j hx => by unfold tmX at hx; rw [Bool.or_eq_false_iff] at hx; exact hx.1)
section Mt
variable (d : Nat) {h : AH} {K : Nat → Int32} {fl : Option (List CLE)} {np nt nd : Nat} {US : List (Nat → Int32)}
theorem mtake26 (VDd : VD K nd) (VNn : VN K nt) (V : VH K np nt) (hT : K 104 = nI nt) (hD : K 105 = nI nd) {p : Nat} (hp : p < np) (hKp : K p = -1) : ∀ (m t : Nat) (g : AH), t + m = nt → MA g fl np nt US → gI g 102 = K → Fr tmX h g → Rp (d + 78) M_X12_take 26 [some (.ref aM), some (.int (nI p)), some (.int (aqI (tkF K fl nd np nt p t))), some (.int (alI (tkF K fl nd np nt p t))), some (.int (nI t))] [] g (fun r h' => r = some (.int (aqI (tkF K fl nd np nt p nt))) ∧ Fr tmX h h' ∧ gI h' 102 = K) := by
  have v1 := V.1
  have v2 := V.2.1
  intro m
  induction m with
  | zero =>
    intro t g hm A hK F
    have e : t = nt := by omega
    subst e
    have S := A.1
    have R := A.2.1
    have e104 : gI g 102 104 = nI t := by rw [hK]; exact hT
    refine Rp.iload dX12_take_26 rfl ?_
    refine Rp.aload_n dX12_take_28 rfl rfl ?_
    refine Rp.getR dX12_take_29 fk_X12_24 rfl (S _ _ rfl) (R _ _ _ rfl) ?_
    refine Rp.bipush (nI 104) dX12_take_32 (by decide) ?_
    first | ((with_reducible show Rp _ _ _ _ (.int (nI _) :: _) _ _); refine Rp.ialoadN dX12_take_34 (S _ _ rfl) (by omega) ?_) | refine Rp.iaload dX12_take_34 (S _ _ rfl) (by first | assumption | exact vpb (by decide)) ?_
    first | rw [e104] | skip
    first | ((with_reducible show Rp _ _ _ _ (.int (nI _) :: .int (nI _) :: _) _ _); refine Rp.icmp_geN (tgt := 117) dX12_take_35 (by decide) (by omega) (fun c35 => ?_) (fun c35 => ?_)) | refine Rp.icmp_ge (tgt := 117) dX12_take_35 (by decide) (fun c35 => ?_) (fun c35 => ?_)
    · skip
      refine Rp.iload_n dX12_take_117 rfl ?_
      refine Rp.ireturn dX12_take_118 rfl ?_
      exact ⟨rfl, F, hK⟩
    · skip
      first | (exfalso; omega) | exact absurd c35 (by decide) | exact absurd (by decide) c35
  | succ m ih =>
    intro t g hm A hK F
    have S := A.1
    have R := A.2.1
    have e104 : gI g 102 104 = nI nt := by rw [hK]; exact hT
    have cd := s_canDraw (d + 1) A (t := t) (p := p) (by omega) (by omega)
    rw [show gI g am_kept = K from hK] at cd
    refine Rp.iload dX12_take_26 rfl ?_
    refine Rp.aload_n dX12_take_28 rfl rfl ?_
    refine Rp.getR dX12_take_29 fk_X12_24 rfl (S _ _ rfl) (R _ _ _ rfl) ?_
    refine Rp.bipush (nI 104) dX12_take_32 (by decide) ?_
    first | ((with_reducible show Rp _ _ _ _ (.int (nI _) :: _) _ _); refine Rp.ialoadN dX12_take_34 (S _ _ rfl) (by omega) ?_) | refine Rp.iaload dX12_take_34 (S _ _ rfl) (by first | assumption | exact vpb (by decide)) ?_
    first | rw [e104] | skip
    first | ((with_reducible show Rp _ _ _ _ (.int (nI _) :: .int (nI _) :: _) _ _); refine Rp.icmp_geN (tgt := 117) dX12_take_35 (by decide) (by omega) (fun c35 => ?_) (fun c35 => ?_)) | refine Rp.icmp_ge (tgt := 117) dX12_take_35 (by decide) (fun c35 => ?_) (fun c35 => ?_)
    · first | (exfalso; omega) | exact absurd c35 (by decide) | exact absurd (by decide) c35
    refine Rp.aload_n dX12_take_38 rfl rfl ?_
    refine Rp.iload dX12_take_39 rfl ?_
    refine Rp.iload_n dX12_take_41 rfl ?_
    refine Rp.callV2 M_X12_canDraw (ci := 12) dX12_take_42 mo_X12_canDraw lk_X12_354 (by decide) rfl rfl (S _ _ rfl) (Nat.le_of_ble_eq_true rfl) (Nat.le_of_ble_eq_true rfl) (cd) (fun v1 h1 p1 x1 => ?_)
    obtain ⟨F1, rfl⟩ := p1
    try dsimp only [Option.toList, List.cons_append, List.nil_append, List.append]
    skip
    have A1 := A.tl F1
    have S1 := A1.1
    have R1 := A1.2.1
    have K1 : gI h1 102 = K := (funext fun j => F1.I 102 j rfl).trans hK
    have FF : Fr tmX h h1 := F.trans (tmX_d (mdX_t F1))
    cases c : canD K fl np t p
    · have k1 := ih (t + 1) h1 (by omega) A1 K1 FF
      rw [tkF, if_neg (by rw [c]; decide)] at k1
      first | ((with_reducible show Rp _ _ _ _ (.int (b2i _) :: _) _ _); refine Rp.if_neB (tgt := 51) dX12_take_45 (by decide) (fun c45 => ?_) (fun c45 => ?_)) | ((with_reducible show Rp _ _ _ _ (.int (nI _) :: _) _ _); refine Rp.if_neN (tgt := 51) dX12_take_45 (by decide) (by omega) (fun c45 => ?_) (fun c45 => ?_)) | refine Rp.if_ne (tgt := 51) dX12_take_45 (by decide) (fun c45 => ?_) (fun c45 => ?_)
      · skip
        cases c45
      · skip
        refine Rp.goto (tgt := 111) dX12_take_48 (by decide) ?_
        first | ((with_reducible show Rp _ _ _ (_ :: _ :: _ :: _ :: some (.int (nI _)) :: _) _ _ _); refine Rp.inc4N (c := 1) dX12_take_111 (by first | exact nl2_some rfl | exact nl2_none) (by decide) ?_) | refine Rp.inc4 _ dX12_take_111 rfl (by first | exact nl2_some rfl | exact nl2_none) (by decide) ?_
        refine Rp.goto (tgt := 26) dX12_take_114 (by decide) ?_
        exact k1
    · have c0 := c
      unfold canD at c
      rw [Bool.and_eq_true, Bool.and_eq_true, decide_eq_true_eq, decide_eq_true_eq] at c
      have V2 := V.give hp (show t < nt by omega) c.1.2
      have K2 : gI (sI h1 102 p (nI t)) 102 = upK K p (nI t) := funext fun j => by rw [gI_at, K1]; rfl
      have hi : ∀ j, 6 ≤ j → upK K p (nI t) j = K j := fun j hj => upK_hi (by omega) hj
      obtain ⟨-, -, hF1, B1, -, hM1, -, L1⟩ := A1
      rw [show gI h1 am_kept = K from K1] at hF1 B1 hM1
      obtain ⟨m6, hm6, e6⟩ := B1.2.2.2.2.2.1
      have S2 : ShOK (sI h1 102 p (nI t)) := S1
      have R2 : RfOK (sI h1 102 p (nI t)) := R1
      have MB : MBd (sI h1 102 p (nI t)) fl np nt nd := by
        refine ⟨S2, R2, ?_, ?_, ?_, ?_, ?_, ?_, ?_⟩ <;> rw [show gI (sI h1 102 p (nI t)) am_kept = upK K p (nI t) from K2]
        · exact hF1.hi (fun j hj => hi j (by omega))
        · exact B1.hi (fun j hj => hi j (by omega)) hm6 ((hi 6 (by decide)).trans e6)
        · exact ⟨VDd.1, fun x hx => by rw [hi _ (by omega)]; exact VDd.2 x hx⟩
        · rw [hi _ (by decide)]; exact hD
        · exact ⟨VNn.1, fun x hx => by rw [hi _ (by omega)]; exact VNn.2.1 x hx, fun x y hx hy => by rw [hi _ (by omega), hi _ (by omega)]; exact VNn.2.2 x y hx hy⟩
        · exact V2
        · rw [hi _ (by decide)]; exact hM1
      have ad := s_allDesks (d + 77) S2 R2 (MB.2.2.2.2.2.1)
      have ld := s_laysDay d (st := fun _ => true) MB (op := adI nd) (adI_b VDd.1)
      rw [show gI (sI h1 102 p (nI t)) am_kept = upK K p (nI t) from K2, dayF_congr (K := upK K p (nI t)) (K' := K) hi fl nd np nt _ (hs := upK K p (nI t)) (hs' := upK K p (nI t)) (fun q hq => rfl) 100] at ld
      first | ((with_reducible show Rp _ _ _ _ (.int (b2i _) :: _) _ _); refine Rp.if_neB (tgt := 51) dX12_take_45 (by decide) (fun c45 => ?_) (fun c45 => ?_)) | ((with_reducible show Rp _ _ _ _ (.int (nI _) :: _) _ _); refine Rp.if_neN (tgt := 51) dX12_take_45 (by decide) (by omega) (fun c45 => ?_) (fun c45 => ?_)) | refine Rp.if_ne (tgt := 51) dX12_take_45 (by decide) (fun c45 => ?_) (fun c45 => ?_)
      rotate_left
      · cases c45
      refine Rp.aload_n dX12_take_51 rfl rfl ?_
      refine Rp.getR dX12_take_52 fk_X12_24 rfl (S1 _ _ rfl) (R1 _ _ _ rfl) ?_
      refine Rp.iconst (nI 0) dX12_take_55 (by decide) ?_
      refine Rp.iload_n dX12_take_56 rfl ?_
      first | ((with_reducible show Rp _ _ _ _ (.int (nI _) :: .int (nI _) :: _) _ _); refine Rp.iaddN dX12_take_57 ?_) | refine Rp.iadd dX12_take_57 ?_
      refine Rp.iload dX12_take_58 rfl ?_
      rw [Nat.zero_add]
      first | ((with_reducible show Rp _ _ _ _ (_ :: .int (nI _) :: _) _ _); refine Rp.iastoreN dX12_take_60 (S1 _ _ rfl) (by omega) ?_) | refine Rp.iastore dX12_take_60 (S1 _ _ rfl) (by first | assumption | exact vpb (by decide)) ?_
      refine Rp.aload_n dX12_take_61 rfl rfl ?_
      refine Rp.aload_n dX12_take_62 rfl rfl ?_
      refine Rp.callV0 M_X12_allDesks (ci := 12) dX12_take_63 mo_X12_allDesks lk_X12_393 (by decide) rfl rfl (S2 _ _ rfl) (Nat.le_of_ble_eq_true rfl) (Nat.le_of_ble_eq_true rfl) (ad) (fun v1 h1 p1 x1 => ?_)
      rw [p1.1, p1.2]
      try dsimp only [Option.toList, List.cons_append, List.nil_append, List.append]
      refine Rp.callV1 M_X12_laysDay (ci := 12) dX12_take_66 mo_X12_laysDay lk_X12_396 (by decide) rfl rfl (S2 _ _ rfl) (Nat.le_of_ble_eq_true rfl) (Nat.le_of_ble_eq_true rfl) (ld) (fun v1 h1 p1 x1 => ?_)
      obtain ⟨rfl, F3, Y3⟩ := p1
      try dsimp only [Option.toList, List.cons_append, List.nil_append, List.append]
      skip
      have S3 := F3.S S2
      have R3 := F3.R R2 (by decide)
      have K3 : gI h1 102 = upK K p (nI t) := F3.k102.trans K2
      have K4 : gI (sI h1 102 p (-1)) 102 = K := funext fun j => by
        rw [gI_at]
        by_cases z : j = p
        · rw [if_pos z, z, hKp]
        · rw [if_neg z, K3]; unfold upK; rw [if_neg z]
      have S4 : ShOK (sI h1 102 p (-1)) := S3
      have R4 : RfOK (sI h1 102 p (-1)) := R3
      have t6 : ((102 : Nat) == 102 && decide (p < 6)) = true := by rw [decide_eq_true (show p < 6 by omega)]; rfl
      have F24 : Fr tmX h (sI h1 102 p (-1)) := ((FF.sI (by unfold tmX; rw [t6, Bool.or_true])).trans (tmX_d F3)).sI (by unfold tmX; rw [t6, Bool.or_true])
      have A4 : MA (sI h1 102 p (-1)) fl np nt US := by
        refine ⟨S4, R4, ?_, ?_, ?_, ?_, ?_, ?_⟩
        · rw [show gI (sI h1 102 p (-1)) am_kept = K from K4]; exact hF1
        · rw [show gI (sI h1 102 p (-1)) am_kept = K from K4]; exact B1
        · rw [show gI (sI h1 102 p (-1)) am_kept = K from K4]; exact V
        · rw [show gI (sI h1 102 p (-1)) am_kept = K from K4]; exact hM1
        · rw [show gI (sI h1 102 p (-1)) am_kept = K from K4]; exact hT
        · exact ⟨L1.1, (F3.I 100 32 rfl).trans L1.2.1, fun i r hi j hj => (F3.I 113 _ rfl).trans (L1.2.2 i r hi j hj)⟩
      have k1 := ih (t + 1) (sI h1 102 p (-1)) (by omega) A4 K4 F24
      rw [tkF, if_pos c0] at k1
      have ed : gI (sI h1 102 p (-1)) 117 p = (tkD K fl nd np nt p t).2.2.2 p := Y3.2.2.2 p (by omega)
      have ee : gI (sI h1 102 p (-1)) 116 p = (tkD K fl nd np nt p t).2.2.1 p := Y3.2.2.1 p (by omega)
      rcases dnO_is VDd.1 (dayF_DP (K := K) (fl := fl) (nd := nd) (np := np) (nt := nt) (st := fun _ => true) (hs := upK K p (nI t)) 100 p) with ⟨e1, e2, e3⟩ | ⟨u, hu6, e1, e2, e3⟩
      · rw [show dnO (tkD K fl nd np nt p t) p = none from e3] at k1
        rw [show (tkD K fl nd np nt p t).2.2.2 p = -1 from e2] at ed
        refine Rp.aload_n dX12_take_69 rfl rfl ?_
        refine Rp.getR dX12_take_70 fk_X12_24 rfl (S3 _ _ rfl) (R3 _ _ _ rfl) ?_
        refine Rp.iconst (nI 0) dX12_take_73 (by decide) ?_
        refine Rp.iload_n dX12_take_74 rfl ?_
        first | ((with_reducible show Rp _ _ _ _ (.int (nI _) :: .int (nI _) :: _) _ _); refine Rp.iaddN dX12_take_75 ?_) | refine Rp.iadd dX12_take_75 ?_
        refine Rp.iconst (-1) dX12_take_76 (by decide) ?_
        rw [Nat.zero_add]
        first | ((with_reducible show Rp _ _ _ _ (_ :: .int (nI _) :: _) _ _); refine Rp.iastoreN dX12_take_77 (S3 _ _ rfl) (by omega) ?_) | refine Rp.iastore dX12_take_77 (S3 _ _ rfl) (by first | assumption | exact vpb (by decide)) ?_
        refine Rp.aload_n dX12_take_78 rfl rfl ?_
        refine Rp.getR dX12_take_79 fk_X12_74 rfl (S4 _ _ rfl) (R4 _ _ _ rfl) ?_
        refine Rp.iload_n dX12_take_82 rfl ?_
        first | ((with_reducible show Rp _ _ _ _ (.int (nI _) :: _) _ _); refine Rp.ialoadN dX12_take_83 (S4 _ _ rfl) (by omega) ?_) | refine Rp.iaload dX12_take_83 (S4 _ _ rfl) (by first | assumption | exact vpb (by decide)) ?_
        first | rw [ed] | skip
        refine Rp.iconst (-1) dX12_take_84 (by decide) ?_
        first | ((with_reducible show Rp _ _ _ _ (.int (nI _) :: .int (nI _) :: _) _ _); refine Rp.icmp_eqN (tgt := 111) dX12_take_85 (by decide) (by omega) (fun c85 => ?_) (fun c85 => ?_)) | refine Rp.icmp_eq (tgt := 111) dX12_take_85 (by decide) (fun c85 => ?_) (fun c85 => ?_)
        · skip
          first | ((with_reducible show Rp _ _ _ (_ :: _ :: _ :: _ :: some (.int (nI _)) :: _) _ _ _); refine Rp.inc4N (c := 1) dX12_take_111 (by first | exact nl2_some rfl | exact nl2_none) (by decide) ?_) | refine Rp.inc4 _ dX12_take_111 rfl (by first | exact nl2_some rfl | exact nl2_none) (by decide) ?_
          refine Rp.goto (tgt := 26) dX12_take_114 (by decide) ?_
          exact k1
        · skip
          exact absurd rfl c85
      · rw [show dnO (tkD K fl nd np nt p t) p = some u from e3] at k1
        rw [show (tkD K fl nd np nt p t).2.2.1 p = nI u from e1] at ee
        have e2 : ¬ (tkD K fl nd np nt p t).2.2.2 p = -1 := e2
        match hx : tkF K fl nd np nt p t with
        | none =>
          rw [hx] at k1
          have lt9 : nI u < 1000000 := by
            rw [i32_lt, nI_toInt (by omega)]
            show (u : Int) < 1000000
            omega
          dsimp only [aqI, alI]
          refine Rp.aload_n dX12_take_69 rfl rfl ?_
          refine Rp.getR dX12_take_70 fk_X12_24 rfl (S3 _ _ rfl) (R3 _ _ _ rfl) ?_
          refine Rp.iconst (nI 0) dX12_take_73 (by decide) ?_
          refine Rp.iload_n dX12_take_74 rfl ?_
          first | ((with_reducible show Rp _ _ _ _ (.int (nI _) :: .int (nI _) :: _) _ _); refine Rp.iaddN dX12_take_75 ?_) | refine Rp.iadd dX12_take_75 ?_
          refine Rp.iconst (-1) dX12_take_76 (by decide) ?_
          rw [Nat.zero_add]
          first | ((with_reducible show Rp _ _ _ _ (_ :: .int (nI _) :: _) _ _); refine Rp.iastoreN dX12_take_77 (S3 _ _ rfl) (by omega) ?_) | refine Rp.iastore dX12_take_77 (S3 _ _ rfl) (by first | assumption | exact vpb (by decide)) ?_
          refine Rp.aload_n dX12_take_78 rfl rfl ?_
          refine Rp.getR dX12_take_79 fk_X12_74 rfl (S4 _ _ rfl) (R4 _ _ _ rfl) ?_
          refine Rp.iload_n dX12_take_82 rfl ?_
          first | ((with_reducible show Rp _ _ _ _ (.int (nI _) :: _) _ _); refine Rp.ialoadN dX12_take_83 (S4 _ _ rfl) (by omega) ?_) | refine Rp.iaload dX12_take_83 (S4 _ _ rfl) (by first | assumption | exact vpb (by decide)) ?_
          first | rw [ed] | rw [ee] | skip
          refine Rp.iconst (-1) dX12_take_84 (by decide) ?_
          first | ((with_reducible show Rp _ _ _ _ (.int (nI _) :: .int (nI _) :: _) _ _); refine Rp.icmp_eqN (tgt := 111) dX12_take_85 (by decide) (by omega) (fun c85 => ?_) (fun c85 => ?_)) | refine Rp.icmp_eq (tgt := 111) dX12_take_85 (by decide) (fun c85 => ?_) (fun c85 => ?_)
          · skip
            exact absurd c85 e2
          · skip
            refine Rp.aload_n dX12_take_88 rfl rfl ?_
            refine Rp.getR dX12_take_89 fk_X12_71 rfl (S4 _ _ rfl) (R4 _ _ _ rfl) ?_
            refine Rp.iload_n dX12_take_92 rfl ?_
            first | ((with_reducible show Rp _ _ _ _ (.int (nI _) :: _) _ _); refine Rp.ialoadN dX12_take_93 (S4 _ _ rfl) (by omega) ?_) | refine Rp.iaload dX12_take_93 (S4 _ _ rfl) (by first | assumption | exact vpb (by decide)) ?_
            first | rw [ed] | rw [ee] | skip
            refine Rp.iload_n dX12_take_94 rfl ?_
            first | ((with_reducible show Rp _ _ _ _ (.int (nI _) :: .int (nI _) :: _) _ _); refine Rp.icmp_ltN (tgt := 101) dX12_take_95 (by decide) (by omega) (fun c95 => ?_) (fun c95 => ?_)) | refine Rp.icmp_lt (tgt := 101) dX12_take_95 (by decide) (fun c95 => ?_) (fun c95 => ?_)
            · skip
              refine Rp.aload_n dX12_take_101 rfl rfl ?_
              refine Rp.getR dX12_take_102 fk_X12_71 rfl (S4 _ _ rfl) (R4 _ _ _ rfl) ?_
              refine Rp.iload_n dX12_take_105 rfl ?_
              first | ((with_reducible show Rp _ _ _ _ (.int (nI _) :: _) _ _); refine Rp.ialoadN dX12_take_106 (S4 _ _ rfl) (by omega) ?_) | refine Rp.iaload dX12_take_106 (S4 _ _ rfl) (by first | assumption | exact vpb (by decide)) ?_
              first | rw [ed] | rw [ee] | skip
              refine Rp.ist3 dX12_take_107 (by first | exact nl2_some rfl | exact nl2_none) (by decide) ?_
              refine Rp.iload dX12_take_108 rfl ?_
              refine Rp.ist2 dX12_take_110 (by first | exact nl2_some rfl | exact nl2_none) (by decide) ?_
              first | ((with_reducible show Rp _ _ _ (_ :: _ :: _ :: _ :: some (.int (nI _)) :: _) _ _ _); refine Rp.inc4N (c := 1) dX12_take_111 (by first | exact nl2_some rfl | exact nl2_none) (by decide) ?_) | refine Rp.inc4 _ dX12_take_111 rfl (by first | exact nl2_some rfl | exact nl2_none) (by decide) ?_
              refine Rp.goto (tgt := 26) dX12_take_114 (by decide) ?_
              exact k1
            · skip
              exact absurd lt9 c95
        | some (b, mm) =>
          have bb := tkF_b VDd.1 t b mm hx
          rw [hx] at k1
          have es : tkS (some (b, mm)) t (some u) = if u < mm then some (t, u) else some (b, mm) := rfl
          rw [es] at k1
          dsimp only [aqI, alI]
          by_cases c5 : u < mm
          · rw [if_pos c5] at k1
            refine Rp.aload_n dX12_take_69 rfl rfl ?_
            refine Rp.getR dX12_take_70 fk_X12_24 rfl (S3 _ _ rfl) (R3 _ _ _ rfl) ?_
            refine Rp.iconst (nI 0) dX12_take_73 (by decide) ?_
            refine Rp.iload_n dX12_take_74 rfl ?_
            first | ((with_reducible show Rp _ _ _ _ (.int (nI _) :: .int (nI _) :: _) _ _); refine Rp.iaddN dX12_take_75 ?_) | refine Rp.iadd dX12_take_75 ?_
            refine Rp.iconst (-1) dX12_take_76 (by decide) ?_
            rw [Nat.zero_add]
            first | ((with_reducible show Rp _ _ _ _ (_ :: .int (nI _) :: _) _ _); refine Rp.iastoreN dX12_take_77 (S3 _ _ rfl) (by omega) ?_) | refine Rp.iastore dX12_take_77 (S3 _ _ rfl) (by first | assumption | exact vpb (by decide)) ?_
            refine Rp.aload_n dX12_take_78 rfl rfl ?_
            refine Rp.getR dX12_take_79 fk_X12_74 rfl (S4 _ _ rfl) (R4 _ _ _ rfl) ?_
            refine Rp.iload_n dX12_take_82 rfl ?_
            first | ((with_reducible show Rp _ _ _ _ (.int (nI _) :: _) _ _); refine Rp.ialoadN dX12_take_83 (S4 _ _ rfl) (by omega) ?_) | refine Rp.iaload dX12_take_83 (S4 _ _ rfl) (by first | assumption | exact vpb (by decide)) ?_
            first | rw [ed] | rw [ee] | skip
            refine Rp.iconst (-1) dX12_take_84 (by decide) ?_
            first | ((with_reducible show Rp _ _ _ _ (.int (nI _) :: .int (nI _) :: _) _ _); refine Rp.icmp_eqN (tgt := 111) dX12_take_85 (by decide) (by omega) (fun c85 => ?_) (fun c85 => ?_)) | refine Rp.icmp_eq (tgt := 111) dX12_take_85 (by decide) (fun c85 => ?_) (fun c85 => ?_)
            · skip
              exact absurd c85 e2
            · skip
              refine Rp.aload_n dX12_take_88 rfl rfl ?_
              refine Rp.getR dX12_take_89 fk_X12_71 rfl (S4 _ _ rfl) (R4 _ _ _ rfl) ?_
              refine Rp.iload_n dX12_take_92 rfl ?_
              first | ((with_reducible show Rp _ _ _ _ (.int (nI _) :: _) _ _); refine Rp.ialoadN dX12_take_93 (S4 _ _ rfl) (by omega) ?_) | refine Rp.iaload dX12_take_93 (S4 _ _ rfl) (by first | assumption | exact vpb (by decide)) ?_
              first | rw [ed] | rw [ee] | skip
              refine Rp.iload_n dX12_take_94 rfl ?_
              first | ((with_reducible show Rp _ _ _ _ (.int (nI _) :: .int (nI _) :: _) _ _); refine Rp.icmp_ltN (tgt := 101) dX12_take_95 (by decide) (by omega) (fun c95 => ?_) (fun c95 => ?_)) | refine Rp.icmp_lt (tgt := 101) dX12_take_95 (by decide) (fun c95 => ?_) (fun c95 => ?_)
              · skip
                refine Rp.aload_n dX12_take_101 rfl rfl ?_
                refine Rp.getR dX12_take_102 fk_X12_71 rfl (S4 _ _ rfl) (R4 _ _ _ rfl) ?_
                refine Rp.iload_n dX12_take_105 rfl ?_
                first | ((with_reducible show Rp _ _ _ _ (.int (nI _) :: _) _ _); refine Rp.ialoadN dX12_take_106 (S4 _ _ rfl) (by omega) ?_) | refine Rp.iaload dX12_take_106 (S4 _ _ rfl) (by first | assumption | exact vpb (by decide)) ?_
                first | rw [ed] | rw [ee] | skip
                refine Rp.ist3 dX12_take_107 (by first | exact nl2_some rfl | exact nl2_none) (by decide) ?_
                refine Rp.iload dX12_take_108 rfl ?_
                refine Rp.ist2 dX12_take_110 (by first | exact nl2_some rfl | exact nl2_none) (by decide) ?_
                first | ((with_reducible show Rp _ _ _ (_ :: _ :: _ :: _ :: some (.int (nI _)) :: _) _ _ _); refine Rp.inc4N (c := 1) dX12_take_111 (by first | exact nl2_some rfl | exact nl2_none) (by decide) ?_) | refine Rp.inc4 _ dX12_take_111 rfl (by first | exact nl2_some rfl | exact nl2_none) (by decide) ?_
                refine Rp.goto (tgt := 26) dX12_take_114 (by decide) ?_
                exact k1
              · skip
                first | (exfalso; omega) | exact absurd c95 (by decide) | exact absurd (by decide) c95
          · rw [if_neg c5] at k1
            refine Rp.aload_n dX12_take_69 rfl rfl ?_
            refine Rp.getR dX12_take_70 fk_X12_24 rfl (S3 _ _ rfl) (R3 _ _ _ rfl) ?_
            refine Rp.iconst (nI 0) dX12_take_73 (by decide) ?_
            refine Rp.iload_n dX12_take_74 rfl ?_
            first | ((with_reducible show Rp _ _ _ _ (.int (nI _) :: .int (nI _) :: _) _ _); refine Rp.iaddN dX12_take_75 ?_) | refine Rp.iadd dX12_take_75 ?_
            refine Rp.iconst (-1) dX12_take_76 (by decide) ?_
            rw [Nat.zero_add]
            first | ((with_reducible show Rp _ _ _ _ (_ :: .int (nI _) :: _) _ _); refine Rp.iastoreN dX12_take_77 (S3 _ _ rfl) (by omega) ?_) | refine Rp.iastore dX12_take_77 (S3 _ _ rfl) (by first | assumption | exact vpb (by decide)) ?_
            refine Rp.aload_n dX12_take_78 rfl rfl ?_
            refine Rp.getR dX12_take_79 fk_X12_74 rfl (S4 _ _ rfl) (R4 _ _ _ rfl) ?_
            refine Rp.iload_n dX12_take_82 rfl ?_
            first | ((with_reducible show Rp _ _ _ _ (.int (nI _) :: _) _ _); refine Rp.ialoadN dX12_take_83 (S4 _ _ rfl) (by omega) ?_) | refine Rp.iaload dX12_take_83 (S4 _ _ rfl) (by first | assumption | exact vpb (by decide)) ?_
            first | rw [ed] | rw [ee] | skip
            refine Rp.iconst (-1) dX12_take_84 (by decide) ?_
            first | ((with_reducible show Rp _ _ _ _ (.int (nI _) :: .int (nI _) :: _) _ _); refine Rp.icmp_eqN (tgt := 111) dX12_take_85 (by decide) (by omega) (fun c85 => ?_) (fun c85 => ?_)) | refine Rp.icmp_eq (tgt := 111) dX12_take_85 (by decide) (fun c85 => ?_) (fun c85 => ?_)
            · skip
              exact absurd c85 e2
            · skip
              refine Rp.aload_n dX12_take_88 rfl rfl ?_
              refine Rp.getR dX12_take_89 fk_X12_71 rfl (S4 _ _ rfl) (R4 _ _ _ rfl) ?_
              refine Rp.iload_n dX12_take_92 rfl ?_
              first | ((with_reducible show Rp _ _ _ _ (.int (nI _) :: _) _ _); refine Rp.ialoadN dX12_take_93 (S4 _ _ rfl) (by omega) ?_) | refine Rp.iaload dX12_take_93 (S4 _ _ rfl) (by first | assumption | exact vpb (by decide)) ?_
              first | rw [ed] | rw [ee] | skip
              refine Rp.iload_n dX12_take_94 rfl ?_
              first | ((with_reducible show Rp _ _ _ _ (.int (nI _) :: .int (nI _) :: _) _ _); refine Rp.icmp_ltN (tgt := 101) dX12_take_95 (by decide) (by omega) (fun c95 => ?_) (fun c95 => ?_)) | refine Rp.icmp_lt (tgt := 101) dX12_take_95 (by decide) (fun c95 => ?_) (fun c95 => ?_)
              · skip
                first | (exfalso; omega) | exact absurd c95 (by decide) | exact absurd (by decide) c95
              · skip
                refine Rp.goto (tgt := 111) dX12_take_98 (by decide) ?_
                first | ((with_reducible show Rp _ _ _ (_ :: _ :: _ :: _ :: some (.int (nI _)) :: _) _ _ _); refine Rp.inc4N (c := 1) dX12_take_111 (by first | exact nl2_some rfl | exact nl2_none) (by decide) ?_) | refine Rp.inc4 _ dX12_take_111 rfl (by first | exact nl2_some rfl | exact nl2_none) (by decide) ?_
                refine Rp.goto (tgt := 26) dX12_take_114 (by decide) ?_
                exact k1
theorem s_take (A : MA h fl np nt US) (VDd : VD (gI h 102) nd) (VNn : VN (gI h 102) nt) (hD : gI h 102 105 = nI nd) (p : Int32) : Rp (d + 78) M_X12_take 0 [some (.ref aM), some (.int p), none, none, none] [] h (fun r h' => r = some (.int (tkA (gI h 102) fl nd np nt p)) ∧ Fr tmX h h' ∧ gI h' 102 = gI h 102) := by
  obtain ⟨S, R, hF, B, V, hM, hT, L⟩ := id A
  have v1 := V.1
  have ip := s_isPerson (d + 76) S R p v1 hM
  unfold tkA
  by_cases c : inN p np = true
  · rw [if_pos c]
    rw [c] at ip
    obtain ⟨q, hq, rfl⟩ := (inN_iff (by omega)).mp c
    rw [ix_nI (by omega)]
    have hd := s_holds (d + 77) S R (q := q) (by omega)
    by_cases c2 : gI h 102 q = -1
    · rw [if_pos c2]
      rw [show gI h am_kept q = -1 from c2] at hd
      have k26 := mtake26 d (h := h) (K := gI h 102) VDd VNn V hT hD hq c2 nt 0 h (by omega) A rfl Fr.rfl'
      refine Rp.aload_n dX12_take_0 rfl rfl ?_
      refine Rp.iload_n dX12_take_1 rfl ?_
      refine Rp.callV1 M_X12_isPerson (ci := 12) dX12_take_2 mo_X12_isPerson lk_X12_131 (by decide) rfl rfl (S _ _ rfl) (Nat.le_of_ble_eq_true rfl) (Nat.le_of_ble_eq_true rfl) (ip) (fun v1 h1 p1 x1 => ?_)
      rw [p1.1, p1.2]
      try dsimp only [Option.toList, List.cons_append, List.nil_append, List.append]
      first | ((with_reducible show Rp _ _ _ _ (.int (b2i _) :: _) _ _); refine Rp.if_eqB (tgt := 16) dX12_take_5 (by decide) (fun c5 => ?_) (fun c5 => ?_)) | ((with_reducible show Rp _ _ _ _ (.int (nI _) :: _) _ _); refine Rp.if_eqN (tgt := 16) dX12_take_5 (by decide) (by omega) (fun c5 => ?_) (fun c5 => ?_)) | refine Rp.if_eq (tgt := 16) dX12_take_5 (by decide) (fun c5 => ?_) (fun c5 => ?_)
      · skip
        cases c5
      · skip
        refine Rp.aload_n dX12_take_8 rfl rfl ?_
        refine Rp.iload_n dX12_take_9 rfl ?_
        refine Rp.callV1 M_X12_holds (ci := 12) dX12_take_10 mo_X12_holds lk_X12_351 (by decide) rfl rfl (S _ _ rfl) (Nat.le_of_ble_eq_true rfl) (Nat.le_of_ble_eq_true rfl) (hd) (fun v1 h1 p1 x1 => ?_)
        rw [p1.1, p1.2]
        try dsimp only [Option.toList, List.cons_append, List.nil_append, List.append]
        first | ((with_reducible show Rp _ _ _ _ (.int (b2i _) :: _) _ _); refine Rp.if_eqB (tgt := 18) dX12_take_13 (by decide) (fun c13 => ?_) (fun c13 => ?_)) | ((with_reducible show Rp _ _ _ _ (.int (nI _) :: _) _ _); refine Rp.if_eqN (tgt := 18) dX12_take_13 (by decide) (by omega) (fun c13 => ?_) (fun c13 => ?_)) | refine Rp.if_eq (tgt := 18) dX12_take_13 (by decide) (fun c13 => ?_) (fun c13 => ?_)
        · skip
          refine Rp.iconst (-1) dX12_take_18 (by decide) ?_
          refine Rp.ist2 dX12_take_19 (by first | exact nl2_some rfl | exact nl2_none) (by decide) ?_
          refine Rp.ldc dX12_take_20 kc_X12_192 ?_
          refine Rp.ist3 dX12_take_22 (by first | exact nl2_some rfl | exact nl2_none) (by decide) ?_
          refine Rp.iconst (nI 0) dX12_take_23 (by decide) ?_
          refine Rp.ist4 dX12_take_24 (by first | exact nl2_some rfl | exact nl2_none) (by decide) ?_
          exact k26
        · skip
          exact absurd c13 (by decide)
    · rw [if_neg c2]
      rw [show decide (gI h am_kept q ≠ -1) = true from decide_eq_true c2] at hd
      refine Rp.aload_n dX12_take_0 rfl rfl ?_
      refine Rp.iload_n dX12_take_1 rfl ?_
      refine Rp.callV1 M_X12_isPerson (ci := 12) dX12_take_2 mo_X12_isPerson lk_X12_131 (by decide) rfl rfl (S _ _ rfl) (Nat.le_of_ble_eq_true rfl) (Nat.le_of_ble_eq_true rfl) (ip) (fun v1 h1 p1 x1 => ?_)
      rw [p1.1, p1.2]
      try dsimp only [Option.toList, List.cons_append, List.nil_append, List.append]
      first | ((with_reducible show Rp _ _ _ _ (.int (b2i _) :: _) _ _); refine Rp.if_eqB (tgt := 16) dX12_take_5 (by decide) (fun c5 => ?_) (fun c5 => ?_)) | ((with_reducible show Rp _ _ _ _ (.int (nI _) :: _) _ _); refine Rp.if_eqN (tgt := 16) dX12_take_5 (by decide) (by omega) (fun c5 => ?_) (fun c5 => ?_)) | refine Rp.if_eq (tgt := 16) dX12_take_5 (by decide) (fun c5 => ?_) (fun c5 => ?_)
      · skip
        cases c5
      · skip
        refine Rp.aload_n dX12_take_8 rfl rfl ?_
        refine Rp.iload_n dX12_take_9 rfl ?_
        refine Rp.callV1 M_X12_holds (ci := 12) dX12_take_10 mo_X12_holds lk_X12_351 (by decide) rfl rfl (S _ _ rfl) (Nat.le_of_ble_eq_true rfl) (Nat.le_of_ble_eq_true rfl) (hd) (fun v1 h1 p1 x1 => ?_)
        rw [p1.1, p1.2]
        try dsimp only [Option.toList, List.cons_append, List.nil_append, List.append]
        first | ((with_reducible show Rp _ _ _ _ (.int (b2i _) :: _) _ _); refine Rp.if_eqB (tgt := 18) dX12_take_13 (by decide) (fun c13 => ?_) (fun c13 => ?_)) | ((with_reducible show Rp _ _ _ _ (.int (nI _) :: _) _ _); refine Rp.if_eqN (tgt := 18) dX12_take_13 (by decide) (by omega) (fun c13 => ?_) (fun c13 => ?_)) | refine Rp.if_eq (tgt := 18) dX12_take_13 (by decide) (fun c13 => ?_) (fun c13 => ?_)
        · skip
          cases c13
        · skip
          refine Rp.iconst (-1) dX12_take_16 (by decide) ?_
          refine Rp.ireturn dX12_take_17 rfl ?_
          exact ⟨rfl, Fr.rfl', rfl⟩
  · rw [if_neg c]
    rw [Bool.eq_false_iff.mpr c] at ip
    refine Rp.aload_n dX12_take_0 rfl rfl ?_
    refine Rp.iload_n dX12_take_1 rfl ?_
    refine Rp.callV1 M_X12_isPerson (ci := 12) dX12_take_2 mo_X12_isPerson lk_X12_131 (by decide) rfl rfl (S _ _ rfl) (Nat.le_of_ble_eq_true rfl) (Nat.le_of_ble_eq_true rfl) (ip) (fun v1 h1 p1 x1 => ?_)
    rw [p1.1, p1.2]
    try dsimp only [Option.toList, List.cons_append, List.nil_append, List.append]
    first | ((with_reducible show Rp _ _ _ _ (.int (b2i _) :: _) _ _); refine Rp.if_eqB (tgt := 16) dX12_take_5 (by decide) (fun c5 => ?_) (fun c5 => ?_)) | ((with_reducible show Rp _ _ _ _ (.int (nI _) :: _) _ _); refine Rp.if_eqN (tgt := 16) dX12_take_5 (by decide) (by omega) (fun c5 => ?_) (fun c5 => ?_)) | refine Rp.if_eq (tgt := 16) dX12_take_5 (by decide) (fun c5 => ?_) (fun c5 => ?_)
    · skip
      refine Rp.iconst (-1) dX12_take_16 (by decide) ?_
      refine Rp.ireturn dX12_take_17 rfl ?_
      exact ⟨rfl, Fr.rfl', rfl⟩
    · skip
      cases c5
end Mt
