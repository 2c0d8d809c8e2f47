section Dn2
variable (d : Nat) {h : AH} {K : Nat → Int32} {np nt nd nl : Nat} {LSs : Nat → List CLE} {E : List Int32}
theorem t_days_okR (S : ShOK h) (R : RfOK h) (hz : ∀ j, 9 ≤ j → gI h 43 j = 0) (H : HA h 1 K np nt nd nl) (HLW : HLw h 1 nl LSs) (T1 : HT h 1) (V : VH K np nt) (B : KB K) (L : LOG h 1 E) (hp : 0 < np) (ht : 0 < nt) {x N : Nat} (hx : x < 1000001) (hN : N ≤ 60) (hb : dzB (nI x) (nI N) = true) : Rp (d + 5) M_X11_days 0 [some (.ref 0), some (.int (nI x)), some (.int (nI N)), none, none] [] h (fun r h' => ∃ g, Fr cdX h g ∧ RfOK g ∧ (∀ j, 9 ≤ j → gI g 43 j = 0) ∧ (∀ p, p < 6 → gI g 20 p = (dyS (flO nl LSs (K 108)) np nt N (K, x, 0)).1 p) ∧ r = some (.int (nI (dyS (flO nl LSs (K 108)) np nt N (K, x, 0)).2.2)) ∧ h' = acH (cpH g 20 66 0 0 6)) := by
  have v1 := V.1
  have v2 := V.2.1
  have A0 : HOK h 1 := H.1
  have A1 : HOK h 17 := HOK.of S R (by decide)
  have a0 := H.2.1
  have a5 := H.2.2.1
  have a18 := H.2.2.2.2.2.2.1
  obtain ⟨m, hm, e6⟩ := B.2.2.2.2.2.1
  have hq : (nI 0 ≤ nI x ∧ nI x ≤ 1000000) ∧ (nI 1 ≤ nI N ∧ nI N ≤ nI 60) := by
    unfold dzB at hb
    rw [Bool.and_eq_true, decide_eq_true_eq, decide_eq_true_eq] at hb
    exact hb
  obtain ⟨⟨q1, q2⟩, q3, q4⟩ := hq
  have hN1 : 1 ≤ N := by rw [i32_le, nI_toInt (by omega), nI_toInt (by omega)] at q3; omega
  have hab : apart 1 17 := Or.inl (by decide)
  have cf := t_copyFrom (d + 2) hab A0 A1 T1
  let h1 := cpyH 1 17 h
  have F1 : Fr cdX h h1 := cdX_c (cpy_fr 1 17 h)
  have S1 : ShOK h1 := F1.S S
  have R1 : RfOK h1 := R.cpy 1 (Or.inr (Or.inl rfl))
  have H1 : HA h1 17 K np nt nd nl := H.cpy hab A1
  have HL1 : HLw h1 17 nl LSs := HLW.cpy (Or.inr (Or.inl rfl)) hab A1
  have L1 : LOG h1 17 E := L.cpy hab
  have J1 : HJ h1 17 K := H1.hj (Or.inr rfl)
  have M1 : HM h1 17 K np nt := H1.hm V
  have hz1 : ∀ j, 9 ≤ j → gI h1 43 j = 0 := fun j hj => ((cpy_fr 1 17 h).I 43 j rfl).trans (hz j hj)
  have e18 : gI h1 17 18 = K 108 := H1.2.2.2.2.2.2.1
  have lf := t_lawInForce (d + 2) HL1
  rw [e18] at lf
  have e64 : (nI x).toInt64 = Int64.ofInt (x : Int) := nI64 (by omega)
  have k84 : ∀ g, Fr bX h1 g → JS g 17 K (flO nl LSs (K 108)) → Rp (d + 5) M_X11_days 84 [some (.ref 0), some (.int (nI x)), some (.int (nI N)), none, none] [] g (fun r h' => ∃ g, Fr cdX h g ∧ RfOK g ∧ (∀ j, 9 ≤ j → gI g 43 j = 0) ∧ (∀ p, p < 6 → gI g 20 p = (dyS (flO nl LSs (K 108)) np nt N (K, x, 0)).1 p) ∧ r = some (.int (nI (dyS (flO nl LSs (K 108)) np nt N (K, x, 0)).2.2)) ∧ h' = acH (cpH g 20 66 0 0 6)) := by
    intro g F2 J2
    have S2 := F2.S S1
    have R2 := F2.R R1 (by decide)
    have F3 : Fr sX g (sL g 45 1 (Int64.ofInt (x : Int))) := Fr.rfl'.sL rfl
    have J3 := J2.fs F3
    have M3 := (M1.fb (by decide) F2).fs (by decide) F3
    have L3 := (L1.fr F2 (bX_b (by decide) (by decide)) (fun j => bX_b (by decide) (by decide))).fs (by decide) F3
    have H3 : HLw (sL g 45 1 (Int64.ofInt (x : Int))) 17 nl LSs := (HL1.fr F2 (fun j => bX_b (by decide) (by decide)) (bX_b (by decide) (by decide)) (fun j => bX_b (by decide) (by decide)) (fun k j o => bX_T o)).fr F3 (fun j => rfl) rfl (fun j => rfl) (fun k j o => sX_T o)
    have e183 : gI (sL g 45 1 (Int64.ofInt (x : Int))) 17 18 = K 108 := (F3.I 17 18 rfl).trans ((F2.I 17 18 rfl).trans e18)
    have S3 := F3.S S2
    have R3 := F3.R R2 (by decide)
    have kf : ∀ g' K' x' c' i', ShOK g' → RfOK g' → HM g' 17 K' np nt → Fr cdX h g' → c' ≤ 60 → (∀ j, 9 ≤ j → gI g' 43 j = 0) → dyS (flO nl LSs (K 108)) np nt N (K, x, 0) = (K', x', c') → Rp (d + 5) M_X11_days 154 [some (.ref 0), some (.int (nI x)), some (.int (nI N)), some (.int (nI c')), some (.int (nI i'))] [] g' (fun r h' => ∃ g, Fr cdX h g ∧ RfOK g ∧ (∀ j, 9 ≤ j → gI g 43 j = 0) ∧ (∀ p, p < 6 → gI g 20 p = (dyS (flO nl LSs (K 108)) np nt N (K, x, 0)).1 p) ∧ r = some (.int (nI (dyS (flO nl LSs (K 108)) np nt N (K, x, 0)).2.2)) ∧ h' = acH (cpH g 20 66 0 0 6)) := by
      intro g' K' x' c' i' Sg Rg Mg Fg hc hzg eg
      have ac := t_accepted (d + 3) (h := cpH g' 20 66 0 0 6) Sg Rg (nI c')
      have m5 : ∀ p, p < 6 → gI g' 20 p = (dyS (flO nl LSs (K 108)) np nt N (K, x, 0)).1 p := by rw [eg]; exact Mg.2.2.2.2.1
      refine Rp.aload_n dX11_days_154 rfl rfl ?_
      refine Rp.getR dX11_days_155 fk_X11_16 rfl (Sg _ _ rfl) (Rg _ _ _ rfl) ?_
      refine Rp.getR dX11_days_158 fk_X11_135 rfl (Sg _ _ rfl) (Rg _ _ _ rfl) ?_
      refine Rp.iconst (nI 0) dX11_days_161 (by decide) ?_
      refine Rp.aload_n dX11_days_162 rfl rfl ?_
      refine Rp.getR dX11_days_163 fk_X11_88 rfl (Sg _ _ rfl) (Rg _ _ _ rfl) ?_
      refine Rp.iconst (nI 0) dX11_days_166 (by decide) ?_
      refine Rp.bipush (nI 6) dX11_days_167 (by decide) ?_
      refine Rp.acopy dX11_days_169 ac_X11_370 (Sg _ _ rfl) (Sg _ _ rfl) (by decide) (Nat.le_of_ble_eq_true rfl) ?_
      refine Rp.aload_n dX11_days_172 rfl rfl ?_
      refine Rp.iload_n dX11_days_173 rfl ?_
      refine Rp.callV1 M_X11_accepted (ci := 11) dX11_days_174 mo_X11_accepted lk_X11_122 (by decide) rfl rfl (Sg _ _ rfl) (Nat.le_of_ble_eq_true rfl) (Nat.le_of_ble_eq_true rfl) (ac) (fun v1 h1 p1 x1 => ?_)
      rw [p1.1, p1.2]
      try dsimp only [Option.toList, List.cons_append, List.nil_append, List.append]
      refine Rp.ireturn dX11_days_177 rfl ?_
      exact ⟨g', Fg, Rg, hzg, m5, by rw [eg], rfl⟩
    have k98 := cday98 d (fl := flO nl LSs (K 108)) (np := np) (nt := nt) (nl := nl) (LSs := LSs) (h := h) hp ht (nI x) hN (dyS (flO nl LSs (K 108)) np nt N (K, x, 0)) (fun g' K' x' c' i' Sg Rg Mg Fg hc hzg eg => kf g' K' x' c' i' Sg Rg Mg Fg hc hzg eg) N 0 _ K E x 0 m (by omega) (Nat.le_refl _) S3 R3 (((F1.trans (cdX_b F2))).trans (cdX_s F3)) J3 M3 L3 H3 (by rw [e183]) B (by omega) (gL_hit _ _ _ _) e6 hm rfl
    refine Rp.aload_n dX11_days_84 rfl rfl ?_
    refine Rp.getR dX11_days_85 fk_X11_48 rfl (S2 _ _ rfl) (R2 _ _ _ rfl) ?_
    refine Rp.iload_n dX11_days_88 rfl ?_
    refine Rp.i2l dX11_days_89 ?_
    rw [e64]
    refine Rp.putL dX11_days_90 fk_X11_363w rfl (S2 _ _ rfl) ?_
    refine Rp.iconst (nI 0) dX11_days_93 (by decide) ?_
    refine Rp.ist3 dX11_days_94 (by first | exact nl2_some rfl | exact nl2_none) (by decide) ?_
    refine Rp.iconst (nI 0) dX11_days_95 (by decide) ?_
    refine Rp.ist4 dX11_days_96 (by first | exact nl2_some rfl | exact nl2_none) (by decide) ?_
    exact k98
  have k66 : Rp (d + 5) M_X11_days 66 [some (.ref 0), some (.int (nI x)), some (.int (nI N)), none, none] [] h1 (fun r h' => ∃ g, Fr cdX h g ∧ RfOK g ∧ (∀ j, 9 ≤ j → gI g 43 j = 0) ∧ (∀ p, p < 6 → gI g 20 p = (dyS (flO nl LSs (K 108)) np nt N (K, x, 0)).1 p) ∧ r = some (.int (nI (dyS (flO nl LSs (K 108)) np nt N (K, x, 0)).2.2)) ∧ h' = acH (cpH g 20 66 0 0 6)) := by
    refine Rp.aload_n dX11_days_66 rfl rfl ?_
    refine Rp.getR dX11_days_67 fk_X11_39 rfl (S1 _ _ rfl) (R1 _ _ _ rfl) ?_
    refine Rp.aload_n dX11_days_70 rfl rfl ?_
    refine Rp.getR dX11_days_71 fk_X11_16 rfl (S1 _ _ rfl) (R1 _ _ _ rfl) ?_
    refine Rp.aload_n dX11_days_74 rfl rfl ?_
    refine Rp.getR dX11_days_75 fk_X11_16 rfl (S1 _ _ rfl) (R1 _ _ _ rfl) ?_
    refine Rp.callV0 M_X2_lawInForce (ci := 2) dX11_days_78 mo_X2_lawInForce lk_X11_138 (by decide) rfl rfl (S1 _ _ rfl) (Nat.le_of_ble_eq_true rfl) (Nat.le_of_ble_eq_true rfl) (lf) (fun v1 h1 p1 x1 => ?_)
    obtain ⟨rfl, lr, rfl, q⟩ := p1
    try dsimp only [Option.toList, List.cons_append, List.nil_append, List.append]
    skip
    match lr, q with
    | none, q =>
      have bg := t_beginJ (d + 3) S1 R1 J1 hz1 q
      dsimp only [cvR] at bg ⊢
      refine Rp.callV2 M_X3_begin (ci := 3) dX11_days_81 mo_X3_begin lk_X11_142 (by decide) rfl rfl (S1 _ _ rfl) (Nat.le_of_ble_eq_true rfl) (Nat.le_of_ble_eq_true rfl) (bg) (fun v1 h1 p1 x1 => ?_)
      obtain ⟨rfl, F4, J4⟩ := p1
      try dsimp only [Option.toList, List.cons_append, List.nil_append, List.append]
      exact k84 _ F4 J4
    | some tx, q =>
      have bg := t_beginJ (d + 3) S1 R1 J1 hz1 q
      dsimp only [cvR] at bg ⊢
      refine Rp.callV2 M_X3_begin (ci := 3) dX11_days_81 mo_X3_begin lk_X11_142 (by decide) rfl rfl (S1 _ _ rfl) (Nat.le_of_ble_eq_true rfl) (Nat.le_of_ble_eq_true rfl) (bg) (fun v1 h1 p1 x1 => ?_)
      obtain ⟨rfl, F4, J4⟩ := p1
      try dsimp only [Option.toList, List.cons_append, List.nil_append, List.append]
      exact k84 _ F4 J4
  refine Rp.iload_n dX11_days_0 rfl ?_
  refine Rp.if_lt (tgt := 22) dX11_days_1 (by decide) (fun c1 => ?_) (fun c1 => ?_)
  · skip
    exact absurd c1 (by rw [i32_lt]; rw [i32_le] at q1; exact Int.not_lt.mpr q1)
  · skip
    refine Rp.iload_n dX11_days_4 rfl ?_
    refine Rp.ldcw dX11_days_5 kc_X11_359 ?_
    first | ((with_reducible show Rp _ _ _ _ (.int (nI _) :: .int (nI _) :: _) _ _); refine Rp.icmp_gtN (tgt := 22) dX11_days_8 (by decide) (by omega) (fun c8 => ?_) (fun c8 => ?_)) | refine Rp.icmp_gt (tgt := 22) dX11_days_8 (by decide) (fun c8 => ?_) (fun c8 => ?_)
    · skip
      exact absurd c8 (by rw [i32_lt]; rw [i32_le] at q2; exact Int.not_lt.mpr q2)
    · skip
      refine Rp.iload_n dX11_days_11 rfl ?_
      refine Rp.iconst (nI 1) dX11_days_12 (by decide) ?_
      first | ((with_reducible show Rp _ _ _ _ (.int (nI _) :: .int (nI _) :: _) _ _); refine Rp.icmp_ltN (tgt := 22) dX11_days_13 (by decide) (by omega) (fun c13 => ?_) (fun c13 => ?_)) | refine Rp.icmp_lt (tgt := 22) dX11_days_13 (by decide) (fun c13 => ?_) (fun c13 => ?_)
      · skip
        exact absurd c13 (by omega)
      · skip
        refine Rp.iload_n dX11_days_16 rfl ?_
        refine Rp.bipush (nI 60) dX11_days_17 (by decide) ?_
        first | ((with_reducible show Rp _ _ _ _ (.int (nI _) :: .int (nI _) :: _) _ _); refine Rp.icmp_leN (tgt := 28) dX11_days_19 (by decide) (by omega) (fun c19 => ?_) (fun c19 => ?_)) | refine Rp.icmp_le (tgt := 28) dX11_days_19 (by decide) (fun c19 => ?_) (fun c19 => ?_)
        · skip
          refine Rp.aload_n dX11_days_28 rfl rfl ?_
          refine Rp.getR dX11_days_29 fk_X11_10 rfl (S _ _ rfl) (R _ _ _ rfl) ?_
          refine Rp.getI dX11_days_32 fk_X11_280 rfl (S _ _ rfl) ?_
          first | rw [a0] | rw [a5] | skip
          first | ((with_reducible show Rp _ _ _ _ (.int (b2i _) :: _) _ _); refine Rp.if_eqB (tgt := 48) dX11_days_35 (by decide) (fun c35 => ?_) (fun c35 => ?_)) | ((with_reducible show Rp _ _ _ _ (.int (nI _) :: _) _ _); refine Rp.if_eqN (tgt := 48) dX11_days_35 (by decide) (by omega) (fun c35 => ?_) (fun c35 => ?_)) | refine Rp.if_eq (tgt := 48) dX11_days_35 (by decide) (fun c35 => ?_) (fun c35 => ?_)
          · skip
            first | (exfalso; omega) | exact absurd c35 (by decide) | exact absurd (by decide) c35
          · skip
            refine Rp.aload_n dX11_days_38 rfl rfl ?_
            refine Rp.getR dX11_days_39 fk_X11_10 rfl (S _ _ rfl) (R _ _ _ rfl) ?_
            refine Rp.getI dX11_days_42 fk_X11_360 rfl (S _ _ rfl) ?_
            first | rw [a0] | rw [a5] | skip
            first | ((with_reducible show Rp _ _ _ _ (.int (b2i _) :: _) _ _); refine Rp.if_neB (tgt := 55) dX11_days_45 (by decide) (fun c45 => ?_) (fun c45 => ?_)) | ((with_reducible show Rp _ _ _ _ (.int (nI _) :: _) _ _); refine Rp.if_neN (tgt := 55) dX11_days_45 (by decide) (by omega) (fun c45 => ?_) (fun c45 => ?_)) | refine Rp.if_ne (tgt := 55) dX11_days_45 (by decide) (fun c45 => ?_) (fun c45 => ?_)
            · skip
              refine Rp.aload_n dX11_days_55 rfl rfl ?_
              refine Rp.getR dX11_days_56 fk_X11_16 rfl (S _ _ rfl) (R _ _ _ rfl) ?_
              refine Rp.aload_n dX11_days_59 rfl rfl ?_
              refine Rp.getR dX11_days_60 fk_X11_10 rfl (S _ _ rfl) (R _ _ _ rfl) ?_
              refine Rp.callV1 M_X2_copyFrom (ci := 2) dX11_days_63 mo_X2_copyFrom lk_X11_223 (by decide) rfl rfl (S _ _ rfl) (Nat.le_of_ble_eq_true rfl) (Nat.le_of_ble_eq_true rfl) (cf) (fun v1 h1 p1 x1 => ?_)
              rw [p1.1, p1.2]
              try dsimp only [Option.toList, List.cons_append, List.nil_append, List.append]
              exact k66
            · skip
              first | (exfalso; omega) | exact absurd c45 (by decide) | exact absurd (by decide) c45
        · skip
          exact absurd hN c19
end Dn2
theorem VH.dy {fl : Option (List CLE)} {np nt : Nat} : ∀ (n : Nat) (K : Nat → Int32) (x c : Nat), VH K np nt → VH (dyS fl np nt n (K, x, c)).1 np nt
  | 0, K, x, c, V => V
  | n + 1, K, x, c, V => by
    rw [dyS]
    by_cases q : nI 999 ≤ K 6
    · rw [if_pos q]
      exact V
    · rw [if_neg q]
      exact VH.dy n _ _ _ ((V.bl _ _ _).up6 _)
theorem dz_parse {s n : Int32} (hb : dzB s n = true) : ∃ x N, x < 1000001 ∧ N ≤ 60 ∧ s = nI x ∧ n = nI N := by
  unfold dzB at hb
  rw [Bool.and_eq_true, decide_eq_true_eq, decide_eq_true_eq] at hb
  obtain ⟨⟨q1, q2⟩, q3, q4⟩ := hb
  rw [i32_le] at q1 q2 q3 q4
  have z0 : (nI 0).toInt = 0 := rfl
  have z1 : (nI 1).toInt = 1 := rfl
  have z2 : (1000000 : Int32).toInt = 1000000 := rfl
  have z3 : (nI 60).toInt = 60 := rfl
  rw [z0] at q1
  rw [z2] at q2
  rw [z1] at q3
  rw [z3] at q4
  obtain ⟨x, h1, h2⟩ := (inN_iff (p := s) (n := 1000001) (by decide)).mp (by unfold inN; rw [decide_eq_true_eq]; omega)
  obtain ⟨N, h3, h4⟩ := (inN_iff (p := n) (n := 61) (by decide)).mp (by unfold inN; rw [decide_eq_true_eq]; omega)
  exact ⟨x, N, h1, by omega, h2, h4⟩
/-- a call that changes what it will: its parts given -/
theorem Ivt.all {X : Nat → Nat → Bool} {L n : Nat} {xs : Nat → Int32} {h g : AH} (I : Ivt L xs n h) (F : Fr X h g) (R : RfOK g) (Z : ZER g) (C : ∃ np nt nd nl no LSs E US, CORE g np nt nd nl no LSs E US ∧ CAB g (gI g 102) np nt nd nl LSs ∧ CWY g (gI g 102) np nt nd nl no LSs) (M : IMG g 0 ∧ IMG g 1) (T : TAPE g) (A : ANSW g) (D : DRWN g) : Ivt L xs n g := ⟨I.1.fr F R, Z, C, M, T, A, D⟩
def dcX (k j : Nat) : Bool := cdX k j || k == 66
def dmX (k j : Nat) : Bool := dzX k j || (k == 105 || (k == 128 || (k == 102 || (k == 100 && j == 58))))
def dwX (k j : Nat) : Bool := dcX k j || (dmX k j || ((k == 0 && j == 14) || ((k == 52 && (j == 7 || j == 8)) || (k == 100 && j == 0))))
theorem dwX_c {h g : AH} (F : Fr dcX h g) : Fr dwX h g := F.weak (fun k j e => by unfold dwX at e; rw [Bool.or_eq_false_iff] at e; exact e.1)
theorem dwX_m {h g : AH} (F : Fr dmX h g) : Fr dwX h g := F.weak (fun k j e => by unfold dwX at e; rw [Bool.or_eq_false_iff, Bool.or_eq_false_iff] at e; exact e.2.1)
theorem dcX_d {h g : AH} (F : Fr cdX h g) : Fr dcX h g := F.weak (fun k j e => by unfold dcX at e; rw [Bool.or_eq_false_iff] at e; exact e.1)
theorem dmX_d {h g : AH} (F : Fr dzX h g) : Fr dmX h g := F.weak (fun k j e => by unfold dmX at e; rw [Bool.or_eq_false_iff] at e; exact e.1)
theorem dc_n : ∀ k j, nS k j = true → dcX k j = false := by
  intro k j e
  rw [Bool.eq_false_iff]
  intro x
  simp only [nS, dcX, cdX, hlX, bX, jX, sX, Bool.or_eq_true, Bool.and_eq_true, beq_iff_eq, decide_eq_true_eq] at e x
  omega
theorem dm_n : ∀ k j, nS k j = true → dmX k j = false := by
  intro k j e
  rw [Bool.eq_false_iff]
  intro x
  simp only [nS, dmX, dzX, haX, tlX, Bool.or_eq_true, Bool.and_eq_true, beq_iff_eq, decide_eq_true_eq] at e x
  omega
theorem dw_c : ∀ k j, cS k j = true → dwX k j = false := by
  intro k j e
  rw [Bool.eq_false_iff]
  intro x
  simp only [cS, dwX, dcX, cdX, hlX, bX, jX, sX, dmX, dzX, haX, tlX, Bool.or_eq_true, Bool.and_eq_true, beq_iff_eq, decide_eq_true_eq] at e x
  omega
theorem dw_i : ∀ k j, iS k j = true → dwX k j = false := by
  intro k j e
  rw [Bool.eq_false_iff]
  intro x
  simp only [iS, dwX, dcX, cdX, hlX, bX, jX, sX, dmX, dzX, haX, tlX, Bool.or_eq_true, Bool.and_eq_true, beq_iff_eq, decide_eq_true_eq] at e x
  omega
theorem dw_t : ∀ k j, tS k j = true → dwX k j = false := by
  intro k j e
  rw [Bool.eq_false_iff]
  intro x
  simp only [tS, dwX, dcX, cdX, hlX, bX, jX, sX, dmX, dzX, haX, tlX, Bool.or_eq_true, Bool.and_eq_true, beq_iff_eq, decide_eq_true_eq] at e x
  omega
theorem dw_z : ∀ k j, zS k j = true → dwX k j = false := by
  intro k j e
  rw [Bool.eq_false_iff]
  intro x
  simp only [zS, dwX, dcX, cdX, hlX, bX, jX, sX, dmX, dzX, haX, tlX, Bool.or_eq_true, Bool.and_eq_true, beq_iff_eq, decide_eq_true_eq] at e x
  omega
theorem dc_c : ∀ k j, cS k j = true → dcX k j = false := by
  intro k j e
  rw [Bool.eq_false_iff]
  intro x
  simp only [cS, dcX, cdX, hlX, bX, jX, sX, Bool.or_eq_true, Bool.and_eq_true, beq_iff_eq, decide_eq_true_eq] at e x
  omega
theorem cp_fr {X : Nat → Nat → Bool} (h : AH) {k0 k1 sp dp n : Nat} (hx : ∀ j, X k1 j = true) : Fr X h (cpH h k0 k1 sp dp n) := by
  refine ⟨rfl, rfl, fun k j e => ?_, fun k j e => rfl, fun k j e => rfl⟩
  show (if k = k1 then _ else gI h k j) = gI h k j
  rw [if_neg]
  intro z
  rw [z, hx j] at e
  cases e
section Pg
variable {L : Nat} {xs : Nat → Int32}
theorem p_days (a1 a2 : Int32) : Pr (Ivt L xs) 103 M_X11_days M_X12_days [.int a1, .int a2] := by
  intro n h I
  obtain ⟨np, nt, nd, nl, no, LSs, E, US, C1, C2, C3⟩ := I.2.2.1
  have V := C1.2.1.1
  obtain ⟨k3, k4, k5, k6, k7⟩ := C1.2.1.2.2.2.2.2.2.1
  by_cases cb : dzB a1 a2 = true
  · by_cases c0 : np = 0 ∨ nt = 0
    · exact pr_no (k := 3) I (by omega) (t_days_none 102 I.1.1 I.1.2.1 C1.1.1 V.1 V.2.1 c0 cb) (fun g Sg Rg eg => s_days_none 102 Sg Rg cb ((congrFun eg 103).trans k3) ((congrFun eg 104).trans k4) V.1 V.2.1 c0)
    · obtain ⟨x, N, hx, hN, rfl, rfl⟩ := dz_parse cb
      refine (t_days_okR 98 I.1.1 I.1.2.1 I.2.1.1 C1.1.1 C1.1.2.1 C1.1.2.2.1 V C1.2.1.2.1 C1.1.2.2.2.1 (by omega) (by omega) hx hN cb).imp (fun r h1 p => ?_)
      obtain ⟨g, F1, R1, z1, e1, rfl, rfl⟩ := p
      refine ⟨_, rfl, ?_⟩
      have F2 : Fr dcX h (cpH g 20 66 0 0 6) := (dcX_d F1).trans (cp_fr g (fun j => rfl))
      have R2 : RfOK (cpH g 20 66 0 0 6) := fun a b c e => R1 a b c e
      have e66 : ∀ p, p < 6 → gI (cpH g 20 66 0 0 6) 66 p = gI g 20 p := fun p hp => by
        show (if (66 : Nat) = 66 then (if 0 ≤ p ∧ p < 0 + 6 then gI g 20 (0 + (p - 0)) else gI g 66 p) else gI g 66 p) = _
        rw [if_pos rfl, if_pos (by omega), show 0 + (p - 0) = p by omega]
      generalize cpH g 20 66 0 0 6 = g1 at F2 R2 e66 ⊢
      have F3 : Fr dwX h (acH g1) := (((dwX_c F2).sI rfl).sI rfl).sI rfl
      have e3 : gI (acH g1) 102 = gI h 102 := funext fun j => (ac_I g1 (by decide) j).trans (F2.I 102 j rfl)
      have C3' : CORE (acH g1) np nt nd nl no LSs E US := C1.fr F3 e3 dw_c
      have A3 := C3'.ma (F3.S I.1.1) R2.ac
      rw [e3] at A3
      refine (s_days_ok 25 A3 (by omega) (by omega) hx hN cb).imp (fun r2 h2 q => ?_)
      obtain ⟨g3, F4, ⟨y, ey⟩, rfl, e2⟩ := q
      rw [e3] at F4 ey ⊢
      refine ⟨rfl, ?_⟩
      have e102 : gI h2 102 = gI h 102 := by
        rw [e2]
        have z := days_back (h := acH g1) (g := g3) (a := nI x) (b := nI np) (by rw [e3]; exact F4)
        rw [e3] at z
        exact z
      have e128 : ∀ p, p < 7 → gI h2 128 p = gI g3 102 p := fun p hp => by
        rw [e2]
        exact days_shown hp
      have F5 : Fr dmX (acH g1) g3 := (((Fr.rfl'.sI rfl).sI rfl).wr 7 (fun i _ => rfl)).trans (dmX_d F4)
      have F6 : Fr dmX (acH g1) (wrI (wrI g3 128 (fun i => i) (gI g3 102) 7) 102 (fun i => i) (fun i => gI (wrI g3 128 (fun i => i) (gI g3 102) 7) am_aside (7 * 0 + i)) 7) := (F5.wr 7 (fun i _ => rfl)).wr 7 (fun i _ => by unfold dmX; simp)
      have R6 : RfOK (wrI (wrI g3 128 (fun i => i) (gI g3 102) 7) 102 (fun i => i) (fun i => gI (wrI g3 128 (fun i => i) (gI g3 102) 7) am_aside (7 * 0 + i)) 7) := ((F5.R R2.ac (by decide)).wr _ _ _ _).wr _ _ _ _
      have e58 : gI h2 100 58 = nI np := by
        rw [e2, gI_off _ _ _ (by decide), gI_wrI_ne _ _ _ (by decide), gI_wrI_ne _ _ _ (by decide), F4.I 100 58 rfl, gI_wrI_ne _ _ _ (by decide)]
        exact gI_hit _ _ _ _
      have e66' : ∀ p, p < 6 → gI h2 66 p = gI g1 66 p := fun p hp => by
        rw [e2, gI_ne _ _ _ _ (by decide), F6.I 66 p rfl, ac_I g1 (by decide)]
      generalize wrI (wrI g3 128 (fun i => i) (gI g3 102) 7) 102 (fun i => i) (fun i => gI (wrI g3 128 (fun i => i) (gI g3 102) 7) am_aside (7 * 0 + i)) 7 = g6 at e2 F6 R6
      have e2 : h2 = gdH g6 := e2
      have F : Fr dwX h h2 := by
        rw [e2]
        exact (F3.trans (dwX_m F6)).sI rfl
      have R : RfOK h2 := by
        rw [e2]
        exact R6.gd
      have A := (ANSW.ok I.2.2.2.2.2.1 F2 dc_n F6 dm_n).1
      rw [← e2] at A
      have c7 : gI h2 52 7 = nI 0 := by
        rw [e2, gd_I g6 (by decide), F6.I 52 7 rfl]
        rfl
      have c8 : gI h2 52 8 = nI 0 := by
        rw [e2, gd_I g6 (by decide), F6.I 52 8 rfl]
        rfl
      have VD' := VH.dy (fl := flO nl LSs (gI h 102 108)) N (gI h 102) x 0 V
      have v1 := V.1
      refine (I.all F R (I.2.1.fr F dw_z) ⟨np, nt, nd, nl, no, LSs, E, US, C1.fr F e102 dw_c, CAB.no c7, CWY.no c8⟩ ⟨I.2.2.2.1.1.fr (by decide) F dw_i, I.2.2.2.1.2.fr (by decide) F dw_i⟩ (I.2.2.2.2.1.fr F dw_t) A ⟨np, v1, Or.inl e58, fun p hp => ?_⟩).up
      rw [e66' p hp, e66 p hp, e1 p hp]
      by_cases cp : p < np
      · rw [if_pos cp, e128 p (by omega), ey]
      · rw [if_neg cp]
        exact (VD'.2.2.1 p hp).resolve_right (fun z => cp z.1)
  · have cb' : dzB a1 a2 = false := Bool.eq_false_iff.mpr cb
    exact pr_no (k := 1) I (by omega) (t_days_bad 102 I.1.1 I.1.2.1 cb') (fun g Sg Rg eg => s_days_bad 102 Sg Rg cb')
end Pg
