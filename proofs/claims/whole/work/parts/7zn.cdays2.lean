/-- what the class's days touch -/
def cdX (k j : Nat) : Bool := hlX 17 k j || (bX k j || (jX k j || sX k j))
theorem cdX_i {k j : Nat} (hx : cdX k j = false) : (k < 17 ∨ 17 + 16 ≤ k) ∧ bX k j = false ∧ jX k j = false ∧ sX k j = false := by
  unfold cdX at hx
  rw [Bool.or_eq_false_iff, Bool.or_eq_false_iff, Bool.or_eq_false_iff] at hx
  exact ⟨hlX_no hx.1, hx.2.1, hx.2.2.1, hx.2.2.2⟩
theorem aX17_n {k j : Nat} (hk : k < 17 ∨ 17 + 16 ≤ k) (hj : jX k j = false) : aX 17 k j = false := by
  unfold aX hX lX
  rw [hj, show (k == 17 + 3) = false from beq_eq_false_iff_ne.mpr (by omega), show (k == 17 + 7) = false from beq_eq_false_iff_ne.mpr (by omega), show (k == 17 + 14) = false from beq_eq_false_iff_ne.mpr (by omega), show (k == 17 + 15) = false from beq_eq_false_iff_ne.mpr (by omega)]
  rfl
theorem cdX_l {h g : AH} (F : Fr (lsX 17) h g) : Fr cdX h g := F.weak (fun k j hx => by
  obtain ⟨h1, h2, h3, h4⟩ := cdX_i hx
  unfold lsX
  rw [aX17_n h1 h3, h4]
  rfl)
theorem cdX_t {h g : AH} (F : Fr (tkX 17) h g) : Fr cdX h g := F.weak (fun k j hx => by
  obtain ⟨h1, h2, h3, h4⟩ := cdX_i hx
  unfold tkX
  rw [aX17_n h1 h3, h2, show (k == 17 + 12) = false from beq_eq_false_iff_ne.mpr (by omega)]
  rfl)
theorem cdX_b {h g : AH} (F : Fr bX h g) : Fr cdX h g := F.weak (fun k j hx => (cdX_i hx).2.1)
theorem cdX_c {h g : AH} (F : Fr (hlX 17) h g) : Fr cdX h g := F.weak (fun k j hx => hlX_n (cdX_i hx).1)
theorem cdX_s {h g : AH} (F : Fr sX h g) : Fr cdX h g := F.weak (fun k j hx => (cdX_i hx).2.2.2)
theorem lsX_T {k j : Nat} (o : okT k) : lsX 17 k j = false := by
  unfold lsX
  rw [aX17_n (Or.inr (okT_33 o)) (jX_T o), sX_T o]
  rfl
theorem tkX_T {k j : Nat} (o : okT k) : tkX 17 k j = false := by
  have := okT_33 o
  unfold tkX
  rw [aX17_n (Or.inr (okT_33 o)) (jX_T o), bX_T o, show (k == 17 + 12) = false from beq_eq_false_iff_ne.mpr (by omega)]
  rfl
section Cg
variable (d : Nat) {fl : Option (List CLE)} {np nt nl : Nat} {LSs : Nat → List CLE}
theorem cday98 {P : Option Value → AH → Prop} {h : AH} (hp : 0 < np) (ht : 0 < nt) (s1 : Int32) {N : Nat} (hN : N ≤ 60) (Fn : (Nat → Int32) × Nat × Nat) (kk : ∀ g K x c i, ShOK g → RfOK g → HM g 17 K np nt → Fr cdX h g → c ≤ 60 → (∀ j, 9 ≤ j → gI g 43 j = 0) → Fn = (K, x, c) → Rp (d + 5) M_X11_days 154 [some (.ref 0), some (.int s1), some (.int (nI N)), some (.int (nI c)), some (.int (nI i))] [] g P) : ∀ (n i : Nat) (g : AH) (K : Nat → Int32) (E : List Int32) (x c m : Nat), i + n = N → c ≤ i → ShOK g → RfOK g → Fr cdX h g → JS g 17 K fl → HM g 17 K np nt → LOG g 17 E → HLw g 17 nl LSs → fl = flO nl LSs (gI g 17 18) → KB K → x < 1000003 → gL g 45 1 = Int64.ofInt (x : Int) → K 6 = nI m → m < 1000 → dyS fl np nt n (K, x, c) = Fn → Rp (d + 5) M_X11_days 98 [some (.ref 0), some (.int s1), some (.int (nI N)), some (.int (nI c)), some (.int (nI i))] [] g P := by
  intro n
  induction n with
  | zero =>
    intro i g K E x c m hi hc S R F J M L H hf B hx ex e6 hm hF
    have e : i = N := by omega
    subst e
    have k1 := kk g K x c i S R M F (by omega) J.2.2.2.1 hF.symm
    refine Rp.iload dX11_days_98 rfl ?_
    refine Rp.iload_n dX11_days_100 rfl ?_
    first | ((with_reducible show Rp _ _ _ _ (.int (nI _) :: .int (nI _) :: _) _ _); refine Rp.icmp_geN (tgt := 154) dX11_days_101 (by decide) (by omega) (fun c101 => ?_) (fun c101 => ?_)) | refine Rp.icmp_ge (tgt := 154) dX11_days_101 (by decide) (fun c101 => ?_) (fun c101 => ?_)
    · skip
      exact k1
    · skip
      first | (exfalso; omega) | exact absurd c101 (by decide) | exact absurd (by decide) c101
  | succ n ih =>
    intro i g K E x c m hi hc S R F J M L H hf B hx ex e6 hm hF
    have V := M.1
    have v1 := V.1
    have v2 := V.2.1
    have em : gI g 29 0 = nI m := J.2.2.1.2.2.2.2.2.2.2.1.trans e6
    by_cases q9 : 999 ≤ m
    · have e9 : nI 999 ≤ K 6 := by rw [e6, i32_le, nI_toInt (by decide), nI_toInt (by omega)]; omega
      rw [dyS, if_pos e9] at hF
      have k1 := kk g K x c i S R M F (by omega) J.2.2.2.1 hF.symm
      refine Rp.iload dX11_days_98 rfl ?_
      refine Rp.iload_n dX11_days_100 rfl ?_
      first | ((with_reducible show Rp _ _ _ _ (.int (nI _) :: .int (nI _) :: _) _ _); refine Rp.icmp_geN (tgt := 154) dX11_days_101 (by decide) (by omega) (fun c101 => ?_) (fun c101 => ?_)) | refine Rp.icmp_ge (tgt := 154) dX11_days_101 (by decide) (fun c101 => ?_) (fun c101 => ?_)
      · skip
        first | (exfalso; omega) | exact absurd c101 (by decide) | exact absurd (by decide) c101
      · skip
        refine Rp.aload_n dX11_days_104 rfl rfl ?_
        refine Rp.getR dX11_days_105 fk_X11_16 rfl (S _ _ rfl) (R _ _ _ rfl) ?_
        refine Rp.getR dX11_days_108 fk_X11_187 rfl (S _ _ rfl) (R _ _ _ rfl) ?_
        refine Rp.iconst (nI 0) dX11_days_111 (by decide) ?_
        first | ((with_reducible show Rp _ _ _ _ (.int (nI _) :: _) _ _); refine Rp.ialoadN dX11_days_112 (S _ _ rfl) (by omega) ?_) | refine Rp.iaload dX11_days_112 (S _ _ rfl) (by first | assumption | exact vpb (by decide)) ?_
        first | rw [em] | skip
        refine Rp.sipush (nI 999) dX11_days_113 (by decide +kernel) ?_
        first | ((with_reducible show Rp _ _ _ _ (.int (nI _) :: .int (nI _) :: _) _ _); refine Rp.icmp_geN (tgt := 154) dX11_days_116 (by decide) (by omega) (fun c116 => ?_) (fun c116 => ?_)) | refine Rp.icmp_ge (tgt := 154) dX11_days_116 (by decide) (fun c116 => ?_) (fun c116 => ?_)
        · skip
          exact k1
        · skip
          first | (exfalso; omega) | exact absurd c116 (by decide) | exact absurd (by decide) c116
    · have e9 : ¬ nI 999 ≤ K 6 := by rw [e6, i32_le, nI_toInt (by decide), nI_toInt (by omega)]; omega
      rw [dyS, if_neg e9] at hF
      have bl := t_byLot d S R J B M L hp ht hx ex
      have q0 : lc x % np < np := Nat.mod_lt _ hp
      have q1 : lc (lc x) % nt < nt := Nat.mod_lt _ ht
      have q2 : lc (lc (lc x)) % 3 < 3 := Nat.mod_lt _ (by decide)
      generalize lc x % np = p at bl q0 hF
      generalize lc (lc x) % nt = t at bl q1 hF
      generalize lc (lc (lc x)) % 3 = w at bl q2 hF
      have hs := AcS.bl (fl := fl) V B p t w
      have V1 := V.bl (fl := fl) p t w
      have hi6 : ∀ j, 6 ≤ j → acK K (blR K fl np nt p t w).2 j = K j := fun j hj => bl_hi V p t w hj
      generalize blR K fl np nt p t w = q at bl hs V1 hi6 hF
      have k136 : ∀ (g1 : AH) (c1 : Nat), Fr (lsX 17) g g1 → gL g1 45 1 = Int64.ofInt ((lc (lc (lc x)) : Nat) : Int) → JS g1 17 (acK K q.2) fl → HM g1 17 (acK K q.2) np nt → LOG g1 17 (acE E q.2) → c1 ≤ i + 1 → dyS fl np nt n (upK (acK K q.2) 6 (K 6 + nI 1), lc (lc (lc x)), c1) = Fn → Rp (d + 5) M_X11_days 136 [some (.ref 0), some (.int s1), some (.int (nI N)), some (.int (nI c1)), some (.int (nI i))] [] g1 P := by
        intro g1 c1 F1 ex1 J1 M1 L1 hc1 hF1
        have S1 := F1.S S
        have R1 := F1.R R (by decide +kernel)
        have H1 : HLw g1 17 nl LSs := H.fr F1 (fun j => rfl) rfl (fun j => rfl) (fun k j o => lsX_T o)
        have hf1 : fl = flO nl LSs (gI g1 17 18) := by rw [F1.I 17 18 rfl]; exact hf
        have e61 : acK K q.2 6 = nI m := (hi6 6 (by decide)).trans e6
        have tk := t_tick (d + 1) S1 R1 J1 M1 L1 H1 hf1 (m := m) (by omega) e61
        have etk : tkR (acK K q.2) = (nI (m + 1), some (3, 0, 0)) := by
          unfold tkR
          rw [e61, if_neg (nI_ne (by omega) (by decide) (by omega)), nI_p1]
        rw [etk] at tk
        refine Rp.aload_n dX11_days_136 rfl rfl ?_
        refine Rp.getR dX11_days_137 fk_X11_48 rfl (S1 _ _ rfl) (R1 _ _ _ rfl) ?_
        refine Rp.aload_n dX11_days_140 rfl rfl ?_
        refine Rp.getR dX11_days_141 fk_X11_16 rfl (S1 _ _ rfl) (R1 _ _ _ rfl) ?_
        refine Rp.callV1 M_X0_tick (ci := 0) dX11_days_144 mo_X0_tick lk_X11_253 (by decide) rfl rfl (S1 _ _ rfl) (Nat.le_of_ble_eq_true rfl) (Nat.le_of_ble_eq_true rfl) (tk) (fun v1 h1 p1 x1 => ?_)
        obtain ⟨rfl, F2, J2, M2, L2⟩ := p1
        try dsimp only [Option.toList, List.cons_append, List.nil_append, List.append]
        skip
        have S2 := F2.S S1
        have R2 := F2.R R1 (by decide +kernel)
        have H2 : HLw h1 17 nl LSs := H1.fr F2 (fun j => rfl) rfl (fun j => rfl) (fun k j o => tkX_T o)
        have hf2 : fl = flO nl LSs (gI h1 17 18) := by rw [F2.I 17 18 rfl]; exact hf1
        have eK : acK (acK K q.2) (some (3, 0, 0)) = upK (acK K q.2) 6 (K 6 + nI 1) := by
          show upK (acK K q.2) 6 (acK K q.2 6 + nI 1) = _
          rw [hi6 6 (by decide)]
        have e62 : upK (acK K q.2) 6 (K 6 + nI 1) 6 = nI (m + 1) := by unfold upK; rw [if_pos rfl, e6, nI_p1]
        have B2 : KB (upK (acK K q.2) 6 (K 6 + nI 1)) := B.hi (fun j hj => by unfold upK; rw [if_neg (by omega)]; exact hi6 j (by omega)) (m := m + 1) (by omega) e62
        rw [eK] at J2 M2
        have k1 := ih (i + 1) h1 _ _ (lc (lc (lc x))) c1 (m + 1) (by omega) (by omega) S2 R2 ((F.trans (cdX_l F1)).trans (cdX_t F2)) J2 M2 L2 H2 hf2 B2 (lc_lt _) ((F2.L 45 1 rfl).trans ex1) e62 (by omega) hF1
        refine Rp.pop dX11_days_147 rfl ?_
        first | ((with_reducible show Rp _ _ _ (_ :: _ :: _ :: _ :: some (.int (nI _)) :: _) _ _ _); refine Rp.inc4N (c := 1) dX11_days_148 (by first | exact nl2_some rfl | exact nl2_none) (by decide) ?_) | refine Rp.inc4 _ dX11_days_148 rfl (by first | exact nl2_some rfl | exact nl2_none) (by decide) ?_
        refine Rp.goto (tgt := 98) dX11_days_151 (by decide) ?_
        exact k1
      refine Rp.iload dX11_days_98 rfl ?_
      refine Rp.iload_n dX11_days_100 rfl ?_
      first | ((with_reducible show Rp _ _ _ _ (.int (nI _) :: .int (nI _) :: _) _ _); refine Rp.icmp_geN (tgt := 154) dX11_days_101 (by decide) (by omega) (fun c101 => ?_) (fun c101 => ?_)) | refine Rp.icmp_ge (tgt := 154) dX11_days_101 (by decide) (fun c101 => ?_) (fun c101 => ?_)
      · first | (exfalso; omega) | exact absurd c101 (by decide) | exact absurd (by decide) c101
      refine Rp.aload_n dX11_days_104 rfl rfl ?_
      refine Rp.getR dX11_days_105 fk_X11_16 rfl (S _ _ rfl) (R _ _ _ rfl) ?_
      refine Rp.getR dX11_days_108 fk_X11_187 rfl (S _ _ rfl) (R _ _ _ rfl) ?_
      refine Rp.iconst (nI 0) dX11_days_111 (by decide) ?_
      first | ((with_reducible show Rp _ _ _ _ (.int (nI _) :: _) _ _); refine Rp.ialoadN dX11_days_112 (S _ _ rfl) (by omega) ?_) | refine Rp.iaload dX11_days_112 (S _ _ rfl) (by first | assumption | exact vpb (by decide)) ?_
      first | rw [em] | skip
      refine Rp.sipush (nI 999) dX11_days_113 (by decide +kernel) ?_
      first | ((with_reducible show Rp _ _ _ _ (.int (nI _) :: .int (nI _) :: _) _ _); refine Rp.icmp_geN (tgt := 154) dX11_days_116 (by decide) (by omega) (fun c116 => ?_) (fun c116 => ?_)) | refine Rp.icmp_ge (tgt := 154) dX11_days_116 (by decide) (fun c116 => ?_) (fun c116 => ?_)
      · first | (exfalso; omega) | exact absurd c116 (by decide) | exact absurd (by decide) c116
      refine Rp.aload_n dX11_days_119 rfl rfl ?_
      refine Rp.getR dX11_days_120 fk_X11_48 rfl (S _ _ rfl) (R _ _ _ rfl) ?_
      refine Rp.aload_n dX11_days_123 rfl rfl ?_
      refine Rp.getR dX11_days_124 fk_X11_16 rfl (S _ _ rfl) (R _ _ _ rfl) ?_
      refine Rp.callV1 M_X0_byLot (ci := 0) dX11_days_127 mo_X0_byLot lk_X11_367 (by decide) rfl rfl (S _ _ rfl) (Nat.le_of_ble_eq_true rfl) (Nat.le_of_ble_eq_true rfl) (bl) (fun v1 h1 p1 x1 => ?_)
      obtain ⟨rfl, F1, ex1, J1, M1, L1⟩ := p1
      try dsimp only [Option.toList, List.cons_append, List.nil_append, List.append]
      skip
      unfold AcS at hs
      by_cases c0 : q.1 < 0
      · rw [decide_eq_true c0] at hs
        rw [hs, if_neg (by decide)] at hF
        have k1 := k136 _ c F1 ex1 J1 M1 L1 (by omega) hF
        refine Rp.if_lt (tgt := 136) dX11_days_130 (by decide) (fun c130 => ?_) (fun c130 => ?_)
        · skip
          exact k1
        · skip
          exact absurd c0 c130
      · rw [decide_eq_false c0] at hs
        rw [hs, if_pos (by decide)] at hF
        have k1 := k136 _ (c + 1) F1 ex1 J1 M1 L1 (by omega) hF
        refine Rp.if_lt (tgt := 136) dX11_days_130 (by decide) (fun c130 => ?_) (fun c130 => ?_)
        · skip
          exact absurd c130 c0
        · skip
          first | ((with_reducible show Rp _ _ _ (_ :: _ :: _ :: some (.int (nI _)) :: _) _ _ _); refine Rp.inc3N (c := 1) dX11_days_133 (by first | exact nl2_some rfl | exact nl2_none) (by decide) ?_) | refine Rp.inc3 _ dX11_days_133 rfl (by first | exact nl2_some rfl | exact nl2_none) (by decide) ?_
          exact k1
variable {h : AH} {K : Nat → Int32} {nd : Nat} {E : List Int32}
theorem t_days_none (S : ShOK h) (R : RfOK h) (H : HA h 1 K np nt nd nl) (v1 : np ≤ 6) (v2 : nt ≤ 8) (hz : np = 0 ∨ nt = 0) {s n : Int32} (hb : dzB s n = true) : Rp (d + 1) M_X11_days 0 [some (.ref 0), some (.int s), some (.int n), none, none] [] h (fun r h' => h' = rcH h 3 ∧ r = some (.int (-nI 3))) := by
  obtain ⟨A, a0, a5, -⟩ := H
  have hq : (nI 0 ≤ s ∧ s ≤ 1000000) ∧ (nI 1 ≤ n ∧ n ≤ nI 60) := by
    unfold dzB at hb
    rw [Bool.and_eq_true, decide_eq_true_eq, decide_eq_true_eq] at hb
    exact hb
  obtain ⟨⟨q1, q2⟩, q3, q4⟩ := hq
  have rf := t_refused d S R 3 (by decide)
  have k48 : Rp (d + 1) M_X11_days 48 [some (.ref 0), some (.int s), some (.int n), none, none] [] h (fun r h' => h' = rcH h 3 ∧ r = some (.int (-nI 3))) := by
    refine Rp.aload_n dX11_days_48 rfl rfl ?_
    refine Rp.bipush (-3) dX11_days_49 (by decide) ?_
    refine Rp.callV1 M_X11_refused (ci := 11) dX11_days_51 mo_X11_refused lk_X11_109 (by decide) rfl rfl (S _ _ rfl) (Nat.le_of_ble_eq_true rfl) (Nat.le_of_ble_eq_true rfl) (rf) (fun v1 h1 p1 x1 => ?_)
    rw [p1.1, p1.2]
    try dsimp only [Option.toList, List.cons_append, List.nil_append, List.append]
    refine Rp.ireturn dX11_days_54 rfl ?_
    exact ⟨rfl, rfl⟩
  refine Rp.iload_n dX11_days_0 rfl ?_
  refine Rp.if_lt (tgt := 22) dX11_days_1 (by decide) (fun c1 => ?_) (fun c1 => ?_)
  · skip
    exact absurd c1 (by rw [i32_lt]; rw [i32_le] at q1; exact Int.not_lt.mpr q1)
  · skip
    refine Rp.iload_n dX11_days_4 rfl ?_
    refine Rp.ldcw dX11_days_5 kc_X11_359 ?_
    first | ((with_reducible show Rp _ _ _ _ (.int (nI _) :: .int (nI _) :: _) _ _); refine Rp.icmp_gtN (tgt := 22) dX11_days_8 (by decide) (by omega) (fun c8 => ?_) (fun c8 => ?_)) | refine Rp.icmp_gt (tgt := 22) dX11_days_8 (by decide) (fun c8 => ?_) (fun c8 => ?_)
    · skip
      exact absurd c8 (by rw [i32_lt]; rw [i32_le] at q2; exact Int.not_lt.mpr q2)
    · skip
      refine Rp.iload_n dX11_days_11 rfl ?_
      refine Rp.iconst (nI 1) dX11_days_12 (by decide) ?_
      first | ((with_reducible show Rp _ _ _ _ (.int (nI _) :: .int (nI _) :: _) _ _); refine Rp.icmp_ltN (tgt := 22) dX11_days_13 (by decide) (by omega) (fun c13 => ?_) (fun c13 => ?_)) | refine Rp.icmp_lt (tgt := 22) dX11_days_13 (by decide) (fun c13 => ?_) (fun c13 => ?_)
      · skip
        exact absurd c13 (by rw [i32_lt]; rw [i32_le] at q3; exact Int.not_lt.mpr q3)
      · skip
        refine Rp.iload_n dX11_days_16 rfl ?_
        refine Rp.bipush (nI 60) dX11_days_17 (by decide) ?_
        first | ((with_reducible show Rp _ _ _ _ (.int (nI _) :: .int (nI _) :: _) _ _); refine Rp.icmp_leN (tgt := 28) dX11_days_19 (by decide) (by omega) (fun c19 => ?_) (fun c19 => ?_)) | refine Rp.icmp_le (tgt := 28) dX11_days_19 (by decide) (fun c19 => ?_) (fun c19 => ?_)
        · skip
          refine Rp.aload_n dX11_days_28 rfl rfl ?_
          refine Rp.getR dX11_days_29 fk_X11_10 rfl (S _ _ rfl) (R _ _ _ rfl) ?_
          refine Rp.getI dX11_days_32 fk_X11_280 rfl (S _ _ rfl) ?_
          first | rw [a0] | rw [a5] | skip
          first | ((with_reducible show Rp _ _ _ _ (.int (b2i _) :: _) _ _); refine Rp.if_eqB (tgt := 48) dX11_days_35 (by decide) (fun c35 => ?_) (fun c35 => ?_)) | ((with_reducible show Rp _ _ _ _ (.int (nI _) :: _) _ _); refine Rp.if_eqN (tgt := 48) dX11_days_35 (by decide) (by omega) (fun c35 => ?_) (fun c35 => ?_)) | refine Rp.if_eq (tgt := 48) dX11_days_35 (by decide) (fun c35 => ?_) (fun c35 => ?_)
          · skip
            exact k48
          · skip
            refine Rp.aload_n dX11_days_38 rfl rfl ?_
            refine Rp.getR dX11_days_39 fk_X11_10 rfl (S _ _ rfl) (R _ _ _ rfl) ?_
            refine Rp.getI dX11_days_42 fk_X11_360 rfl (S _ _ rfl) ?_
            first | rw [a0] | rw [a5] | skip
            first | ((with_reducible show Rp _ _ _ _ (.int (b2i _) :: _) _ _); refine Rp.if_neB (tgt := 55) dX11_days_45 (by decide) (fun c45 => ?_) (fun c45 => ?_)) | ((with_reducible show Rp _ _ _ _ (.int (nI _) :: _) _ _); refine Rp.if_neN (tgt := 55) dX11_days_45 (by decide) (by omega) (fun c45 => ?_) (fun c45 => ?_)) | refine Rp.if_ne (tgt := 55) dX11_days_45 (by decide) (fun c45 => ?_) (fun c45 => ?_)
            · skip
              first | (exfalso; omega) | exact absurd c45 (by decide) | exact absurd (by decide) c45
            · skip
              exact k48
        · skip
          exact absurd q4 c19
theorem t_days_ok (S : ShOK h) (R : RfOK h) (hz : ∀ j, 9 ≤ j → gI h 43 j = 0) (H : HA h 1 K np nt nd nl) (HLW : HLw h 1 nl LSs) (T1 : HT h 1) (V : VH K np nt) (B : KB K) (L : LOG h 1 E) (hp : 0 < np) (ht : 0 < nt) {x N : Nat} (hx : x < 1000001) (hN : N ≤ 60) (hb : dzB (nI x) (nI N) = true) : Rp (d + 5) M_X11_days 0 [some (.ref 0), some (.int (nI x)), some (.int (nI N)), none, none] [] h (fun r h' => ∃ g, Fr cdX h g ∧ (∀ j, 9 ≤ j → gI g 43 j = 0) ∧ (∀ p, p < 6 → gI g 20 p = (dyS (flO nl LSs (K 108)) np nt N (K, x, 0)).1 p) ∧ r = some (.int (nI (dyS (flO nl LSs (K 108)) np nt N (K, x, 0)).2.2)) ∧ h' = acH (cpH g 20 66 0 0 6)) := by
  have v1 := V.1
  have v2 := V.2.1
  have A0 : HOK h 1 := H.1
  have A1 : HOK h 17 := HOK.of S R (by decide)
  have a0 := H.2.1
  have a5 := H.2.2.1
  have a18 := H.2.2.2.2.2.2.1
  obtain ⟨m, hm, e6⟩ := B.2.2.2.2.2.1
  have hq : (nI 0 ≤ nI x ∧ nI x ≤ 1000000) ∧ (nI 1 ≤ nI N ∧ nI N ≤ nI 60) := by
    unfold dzB at hb
    rw [Bool.and_eq_true, decide_eq_true_eq, decide_eq_true_eq] at hb
    exact hb
  obtain ⟨⟨q1, q2⟩, q3, q4⟩ := hq
  have hN1 : 1 ≤ N := by rw [i32_le, nI_toInt (by omega), nI_toInt (by omega)] at q3; omega
  have hab : apart 1 17 := Or.inl (by decide)
  have cf := t_copyFrom (d + 2) hab A0 A1 T1
  let h1 := cpyH 1 17 h
  have F1 : Fr cdX h h1 := cdX_c (cpy_fr 1 17 h)
  have S1 : ShOK h1 := F1.S S
  have R1 : RfOK h1 := R.cpy 1 (Or.inr (Or.inl rfl))
  have H1 : HA h1 17 K np nt nd nl := H.cpy hab A1
  have HL1 : HLw h1 17 nl LSs := HLW.cpy (Or.inr (Or.inl rfl)) hab A1
  have L1 : LOG h1 17 E := L.cpy hab
  have J1 : HJ h1 17 K := H1.hj (Or.inr rfl)
  have M1 : HM h1 17 K np nt := H1.hm V
  have hz1 : ∀ j, 9 ≤ j → gI h1 43 j = 0 := fun j hj => ((cpy_fr 1 17 h).I 43 j rfl).trans (hz j hj)
  have e18 : gI h1 17 18 = K 108 := H1.2.2.2.2.2.2.1
  have lf := t_lawInForce (d + 2) HL1
  rw [e18] at lf
  have e64 : (nI x).toInt64 = Int64.ofInt (x : Int) := nI64 (by omega)
  have k84 : ∀ g, Fr bX h1 g → JS g 17 K (flO nl LSs (K 108)) → Rp (d + 5) M_X11_days 84 [some (.ref 0), some (.int (nI x)), some (.int (nI N)), none, none] [] g (fun r h' => ∃ g, Fr cdX h g ∧ (∀ j, 9 ≤ j → gI g 43 j = 0) ∧ (∀ p, p < 6 → gI g 20 p = (dyS (flO nl LSs (K 108)) np nt N (K, x, 0)).1 p) ∧ r = some (.int (nI (dyS (flO nl LSs (K 108)) np nt N (K, x, 0)).2.2)) ∧ h' = acH (cpH g 20 66 0 0 6)) := by
    intro g F2 J2
    have S2 := F2.S S1
    have R2 := F2.R R1 (by decide)
    have F3 : Fr sX g (sL g 45 1 (Int64.ofInt (x : Int))) := Fr.rfl'.sL rfl
    have J3 := J2.fs F3
    have M3 := (M1.fb (by decide) F2).fs (by decide) F3
    have L3 := (L1.fr F2 (bX_b (by decide) (by decide)) (fun j => bX_b (by decide) (by decide))).fs (by decide) F3
    have H3 : HLw (sL g 45 1 (Int64.ofInt (x : Int))) 17 nl LSs := (HL1.fr F2 (fun j => bX_b (by decide) (by decide)) (bX_b (by decide) (by decide)) (fun j => bX_b (by decide) (by decide)) (fun k j o => bX_T o)).fr F3 (fun j => rfl) rfl (fun j => rfl) (fun k j o => sX_T o)
    have e183 : gI (sL g 45 1 (Int64.ofInt (x : Int))) 17 18 = K 108 := (F3.I 17 18 rfl).trans ((F2.I 17 18 rfl).trans e18)
    have S3 := F3.S S2
    have R3 := F3.R R2 (by decide)
    have kf : ∀ g' K' x' c' i', ShOK g' → RfOK g' → HM g' 17 K' np nt → Fr cdX h g' → c' ≤ 60 → (∀ j, 9 ≤ j → gI g' 43 j = 0) → dyS (flO nl LSs (K 108)) np nt N (K, x, 0) = (K', x', c') → Rp (d + 5) M_X11_days 154 [some (.ref 0), some (.int (nI x)), some (.int (nI N)), some (.int (nI c')), some (.int (nI i'))] [] g' (fun r h' => ∃ g, Fr cdX h g ∧ (∀ j, 9 ≤ j → gI g 43 j = 0) ∧ (∀ p, p < 6 → gI g 20 p = (dyS (flO nl LSs (K 108)) np nt N (K, x, 0)).1 p) ∧ r = some (.int (nI (dyS (flO nl LSs (K 108)) np nt N (K, x, 0)).2.2)) ∧ h' = acH (cpH g 20 66 0 0 6)) := by
      intro g' K' x' c' i' Sg Rg Mg Fg hc hzg eg
      have ac := t_accepted (d + 3) (h := cpH g' 20 66 0 0 6) Sg Rg (nI c')
      have m5 : ∀ p, p < 6 → gI g' 20 p = (dyS (flO nl LSs (K 108)) np nt N (K, x, 0)).1 p := by rw [eg]; exact Mg.2.2.2.2.1
      refine Rp.aload_n dX11_days_154 rfl rfl ?_
      refine Rp.getR dX11_days_155 fk_X11_16 rfl (Sg _ _ rfl) (Rg _ _ _ rfl) ?_
      refine Rp.getR dX11_days_158 fk_X11_135 rfl (Sg _ _ rfl) (Rg _ _ _ rfl) ?_
      refine Rp.iconst (nI 0) dX11_days_161 (by decide) ?_
      refine Rp.aload_n dX11_days_162 rfl rfl ?_
      refine Rp.getR dX11_days_163 fk_X11_88 rfl (Sg _ _ rfl) (Rg _ _ _ rfl) ?_
      refine Rp.iconst (nI 0) dX11_days_166 (by decide) ?_
      refine Rp.bipush (nI 6) dX11_days_167 (by decide) ?_
      refine Rp.acopy dX11_days_169 ac_X11_370 (Sg _ _ rfl) (Sg _ _ rfl) (by decide) (Nat.le_of_ble_eq_true rfl) ?_
      refine Rp.aload_n dX11_days_172 rfl rfl ?_
      refine Rp.iload_n dX11_days_173 rfl ?_
      refine Rp.callV1 M_X11_accepted (ci := 11) dX11_days_174 mo_X11_accepted lk_X11_122 (by decide) rfl rfl (Sg _ _ rfl) (Nat.le_of_ble_eq_true rfl) (Nat.le_of_ble_eq_true rfl) (ac) (fun v1 h1 p1 x1 => ?_)
      rw [p1.1, p1.2]
      try dsimp only [Option.toList, List.cons_append, List.nil_append, List.append]
      refine Rp.ireturn dX11_days_177 rfl ?_
      exact ⟨g', Fg, hzg, m5, by rw [eg], rfl⟩
    have k98 := cday98 d (fl := flO nl LSs (K 108)) (np := np) (nt := nt) (nl := nl) (LSs := LSs) (h := h) hp ht (nI x) hN (dyS (flO nl LSs (K 108)) np nt N (K, x, 0)) (fun g' K' x' c' i' Sg Rg Mg Fg hc hzg eg => kf g' K' x' c' i' Sg Rg Mg Fg hc hzg eg) N 0 _ K E x 0 m (by omega) (Nat.le_refl _) S3 R3 (((F1.trans (cdX_b F2))).trans (cdX_s F3)) J3 M3 L3 H3 (by rw [e183]) B (by omega) (gL_hit _ _ _ _) e6 hm rfl
    refine Rp.aload_n dX11_days_84 rfl rfl ?_
    refine Rp.getR dX11_days_85 fk_X11_48 rfl (S2 _ _ rfl) (R2 _ _ _ rfl) ?_
    refine Rp.iload_n dX11_days_88 rfl ?_
    refine Rp.i2l dX11_days_89 ?_
    rw [e64]
    refine Rp.putL dX11_days_90 fk_X11_363w rfl (S2 _ _ rfl) ?_
    refine Rp.iconst (nI 0) dX11_days_93 (by decide) ?_
    refine Rp.ist3 dX11_days_94 (by first | exact nl2_some rfl | exact nl2_none) (by decide) ?_
    refine Rp.iconst (nI 0) dX11_days_95 (by decide) ?_
    refine Rp.ist4 dX11_days_96 (by first | exact nl2_some rfl | exact nl2_none) (by decide) ?_
    exact k98
  have k66 : Rp (d + 5) M_X11_days 66 [some (.ref 0), some (.int (nI x)), some (.int (nI N)), none, none] [] h1 (fun r h' => ∃ g, Fr cdX h g ∧ (∀ j, 9 ≤ j → gI g 43 j = 0) ∧ (∀ p, p < 6 → gI g 20 p = (dyS (flO nl LSs (K 108)) np nt N (K, x, 0)).1 p) ∧ r = some (.int (nI (dyS (flO nl LSs (K 108)) np nt N (K, x, 0)).2.2)) ∧ h' = acH (cpH g 20 66 0 0 6)) := by
    refine Rp.aload_n dX11_days_66 rfl rfl ?_
    refine Rp.getR dX11_days_67 fk_X11_39 rfl (S1 _ _ rfl) (R1 _ _ _ rfl) ?_
    refine Rp.aload_n dX11_days_70 rfl rfl ?_
    refine Rp.getR dX11_days_71 fk_X11_16 rfl (S1 _ _ rfl) (R1 _ _ _ rfl) ?_
    refine Rp.aload_n dX11_days_74 rfl rfl ?_
    refine Rp.getR dX11_days_75 fk_X11_16 rfl (S1 _ _ rfl) (R1 _ _ _ rfl) ?_
    refine Rp.callV0 M_X2_lawInForce (ci := 2) dX11_days_78 mo_X2_lawInForce lk_X11_138 (by decide) rfl rfl (S1 _ _ rfl) (Nat.le_of_ble_eq_true rfl) (Nat.le_of_ble_eq_true rfl) (lf) (fun v1 h1 p1 x1 => ?_)
    obtain ⟨rfl, lr, rfl, q⟩ := p1
    try dsimp only [Option.toList, List.cons_append, List.nil_append, List.append]
    skip
    match lr, q with
    | none, q =>
      have bg := t_beginJ (d + 3) S1 R1 J1 hz1 q
      dsimp only [cvR] at bg ⊢
      refine Rp.callV2 M_X3_begin (ci := 3) dX11_days_81 mo_X3_begin lk_X11_142 (by decide) rfl rfl (S1 _ _ rfl) (Nat.le_of_ble_eq_true rfl) (Nat.le_of_ble_eq_true rfl) (bg) (fun v1 h1 p1 x1 => ?_)
      obtain ⟨rfl, F4, J4⟩ := p1
      try dsimp only [Option.toList, List.cons_append, List.nil_append, List.append]
      exact k84 _ F4 J4
    | some tx, q =>
      have bg := t_beginJ (d + 3) S1 R1 J1 hz1 q
      dsimp only [cvR] at bg ⊢
      refine Rp.callV2 M_X3_begin (ci := 3) dX11_days_81 mo_X3_begin lk_X11_142 (by decide) rfl rfl (S1 _ _ rfl) (Nat.le_of_ble_eq_true rfl) (Nat.le_of_ble_eq_true rfl) (bg) (fun v1 h1 p1 x1 => ?_)
      obtain ⟨rfl, F4, J4⟩ := p1
      try dsimp only [Option.toList, List.cons_append, List.nil_append, List.append]
      exact k84 _ F4 J4
  refine Rp.iload_n dX11_days_0 rfl ?_
  refine Rp.if_lt (tgt := 22) dX11_days_1 (by decide) (fun c1 => ?_) (fun c1 => ?_)
  · skip
    exact absurd c1 (by rw [i32_lt]; rw [i32_le] at q1; exact Int.not_lt.mpr q1)
  · skip
    refine Rp.iload_n dX11_days_4 rfl ?_
    refine Rp.ldcw dX11_days_5 kc_X11_359 ?_
    first | ((with_reducible show Rp _ _ _ _ (.int (nI _) :: .int (nI _) :: _) _ _); refine Rp.icmp_gtN (tgt := 22) dX11_days_8 (by decide) (by omega) (fun c8 => ?_) (fun c8 => ?_)) | refine Rp.icmp_gt (tgt := 22) dX11_days_8 (by decide) (fun c8 => ?_) (fun c8 => ?_)
    · skip
      exact absurd c8 (by rw [i32_lt]; rw [i32_le] at q2; exact Int.not_lt.mpr q2)
    · skip
      refine Rp.iload_n dX11_days_11 rfl ?_
      refine Rp.iconst (nI 1) dX11_days_12 (by decide) ?_
      first | ((with_reducible show Rp _ _ _ _ (.int (nI _) :: .int (nI _) :: _) _ _); refine Rp.icmp_ltN (tgt := 22) dX11_days_13 (by decide) (by omega) (fun c13 => ?_) (fun c13 => ?_)) | refine Rp.icmp_lt (tgt := 22) dX11_days_13 (by decide) (fun c13 => ?_) (fun c13 => ?_)
      · skip
        exact absurd c13 (by omega)
      · skip
        refine Rp.iload_n dX11_days_16 rfl ?_
        refine Rp.bipush (nI 60) dX11_days_17 (by decide) ?_
        first | ((with_reducible show Rp _ _ _ _ (.int (nI _) :: .int (nI _) :: _) _ _); refine Rp.icmp_leN (tgt := 28) dX11_days_19 (by decide) (by omega) (fun c19 => ?_) (fun c19 => ?_)) | refine Rp.icmp_le (tgt := 28) dX11_days_19 (by decide) (fun c19 => ?_) (fun c19 => ?_)
        · skip
          refine Rp.aload_n dX11_days_28 rfl rfl ?_
          refine Rp.getR dX11_days_29 fk_X11_10 rfl (S _ _ rfl) (R _ _ _ rfl) ?_
          refine Rp.getI dX11_days_32 fk_X11_280 rfl (S _ _ rfl) ?_
          first | rw [a0] | rw [a5] | skip
          first | ((with_reducible show Rp _ _ _ _ (.int (b2i _) :: _) _ _); refine Rp.if_eqB (tgt := 48) dX11_days_35 (by decide) (fun c35 => ?_) (fun c35 => ?_)) | ((with_reducible show Rp _ _ _ _ (.int (nI _) :: _) _ _); refine Rp.if_eqN (tgt := 48) dX11_days_35 (by decide) (by omega) (fun c35 => ?_) (fun c35 => ?_)) | refine Rp.if_eq (tgt := 48) dX11_days_35 (by decide) (fun c35 => ?_) (fun c35 => ?_)
          · skip
            first | (exfalso; omega) | exact absurd c35 (by decide) | exact absurd (by decide) c35
          · skip
            refine Rp.aload_n dX11_days_38 rfl rfl ?_
            refine Rp.getR dX11_days_39 fk_X11_10 rfl (S _ _ rfl) (R _ _ _ rfl) ?_
            refine Rp.getI dX11_days_42 fk_X11_360 rfl (S _ _ rfl) ?_
            first | rw [a0] | rw [a5] | skip
            first | ((with_reducible show Rp _ _ _ _ (.int (b2i _) :: _) _ _); refine Rp.if_neB (tgt := 55) dX11_days_45 (by decide) (fun c45 => ?_) (fun c45 => ?_)) | ((with_reducible show Rp _ _ _ _ (.int (nI _) :: _) _ _); refine Rp.if_neN (tgt := 55) dX11_days_45 (by decide) (by omega) (fun c45 => ?_) (fun c45 => ?_)) | refine Rp.if_ne (tgt := 55) dX11_days_45 (by decide) (fun c45 => ?_) (fun c45 => ?_)
            · skip
              refine Rp.aload_n dX11_days_55 rfl rfl ?_
              refine Rp.getR dX11_days_56 fk_X11_16 rfl (S _ _ rfl) (R _ _ _ rfl) ?_
              refine Rp.aload_n dX11_days_59 rfl rfl ?_
              refine Rp.getR dX11_days_60 fk_X11_10 rfl (S _ _ rfl) (R _ _ _ rfl) ?_
              refine Rp.callV1 M_X2_copyFrom (ci := 2) dX11_days_63 mo_X2_copyFrom lk_X11_223 (by decide) rfl rfl (S _ _ rfl) (Nat.le_of_ble_eq_true rfl) (Nat.le_of_ble_eq_true rfl) (cf) (fun v1 h1 p1 x1 => ?_)
              rw [p1.1, p1.2]
              try dsimp only [Option.toList, List.cons_append, List.nil_append, List.append]
              exact k66
            · skip
              first | (exfalso; omega) | exact absurd c45 (by decide) | exact absurd (by decide) c45
        · skip
          exact absurd hN c19
end Cg
