def haX (k j : Nat) : Bool := tlX k j || (k == 102 && decide (j < 7))
theorem haX_t {h g : AH} (F : Fr tlX h g) : Fr haX h g := F.weak (fun k j hx => by unfold haX at hx; rw [Bool.or_eq_false_iff] at hx; exact hx.1)
theorem haX_p {p : Nat} (hp : p < 7) : haX 102 (0 + p) = true := by unfold haX; rw [decide_eq_true (show 0 + p < 7 by omega)]; simp
def HpQ (h : AH) (q : Int32 × AC) (r : Option Value) (h' : AH) : Prop := r = some (.int (b2i q.2.isSome)) ∧ Fr haX h h' ∧ gI h' 102 = acK (gI h 102) q.2
theorem HpQ_no {h g : AH} (F : Fr tlX h g) (x : Int32) : HpQ h (x, none) (some (.int (b2i false))) g := ⟨rfl, haX_t F, (mdX_t F).k102⟩
section Hp
variable (d : Nat) {h : AH} {fl : Option (List CLE)} {np nt : Nat} {US : List (Nat → Int32)}
theorem hap0 (A : MA h fl np nt US) {p t : Nat} (hp : p < np) (ht : t < nt) : Rp (d + 77) M_X12_happens 0 [some (.ref aM), some (.int (nI p)), some (.int (nI t)), some (.int (nI 0)), none, none] [] h (HpQ h (drR (gI h am_kept) fl np nt (nI t) (nI p))) := by
  have A0 := A
  obtain ⟨S, R, hF, B, V, hM, hT, L⟩ := A
  have v1 := V.1
  have v2 := V.2.1
  have i1 : inN (nI p) np = true := (inN_iff (by omega)).mpr ⟨p, hp, rfl⟩
  have i2 : inN (nI t) nt = true := (inN_iff (by omega)).mpr ⟨t, ht, rfl⟩
  unfold drR
  rw [if_pos (by rw [i1, i2]; rfl), ix_nI (by omega), ix_nI (by omega)]
  have cd := s_canDraw d A0 (t := t) (p := p) (by omega) (by omega)
  refine Rp.iload_n dX12_happens_0 rfl ?_
  first | ((with_reducible show Rp _ _ _ _ (.int (b2i _) :: _) _ _); refine Rp.if_neB (tgt := 29) dX12_happens_1 (by decide) (fun c1 => ?_) (fun c1 => ?_)) | ((with_reducible show Rp _ _ _ _ (.int (nI _) :: _) _ _); refine Rp.if_neN (tgt := 29) dX12_happens_1 (by decide) (by omega) (fun c1 => ?_) (fun c1 => ?_)) | refine Rp.if_ne (tgt := 29) dX12_happens_1 (by decide) (fun c1 => ?_) (fun c1 => ?_)
  · first | (exfalso; omega) | exact absurd c1 (by decide) | exact absurd (by decide) c1
  refine Rp.aload_n dX12_happens_4 rfl rfl ?_
  refine Rp.iload_n dX12_happens_5 rfl ?_
  refine Rp.iload_n dX12_happens_6 rfl ?_
  refine Rp.callV2 M_X12_canDraw (ci := 12) dX12_happens_7 mo_X12_canDraw lk_X12_354 (by decide) rfl rfl (S _ _ rfl) (Nat.le_of_ble_eq_true rfl) (Nat.le_of_ble_eq_true rfl) (cd) (fun v1 h1 p1 x1 => ?_)
  obtain ⟨F1, rfl⟩ := p1
  try dsimp only [Option.toList, List.cons_append, List.nil_append, List.append]
  skip
  have S1 := F1.S S
  have R1 := F1.R R (by decide)
  have eK : gI h1 102 = gI h 102 := (mdX_t F1).k102
  cases e3 : canD (gI h am_kept) fl np t p
  · rw [if_neg (by decide)]
    refine Rp.ist4 dX12_happens_10 (by first | exact nl2_some rfl | exact nl2_none) (by decide) ?_
    refine Rp.iload dX12_happens_12 rfl ?_
    first | ((with_reducible show Rp _ _ _ _ (.int (b2i _) :: _) _ _); refine Rp.if_eqB (tgt := 26) dX12_happens_14 (by decide) (fun c14 => ?_) (fun c14 => ?_)) | ((with_reducible show Rp _ _ _ _ (.int (nI _) :: _) _ _); refine Rp.if_eqN (tgt := 26) dX12_happens_14 (by decide) (by omega) (fun c14 => ?_) (fun c14 => ?_)) | refine Rp.if_eq (tgt := 26) dX12_happens_14 (by decide) (fun c14 => ?_) (fun c14 => ?_)
    · skip
      refine Rp.iload dX12_happens_26 rfl ?_
      refine Rp.zreturn dX12_happens_28 rfl (b2i_01 _) ?_
      exact HpQ_no F1 _
    · skip
      cases c14
  · rw [if_pos rfl]
    have K3 : gI (sI h1 102 (0 + p) (nI t)) 102 = upK (gI h 102) p (nI t) := funext fun j => by
      unfold upK
      rw [gI_at, Nat.zero_add, eK]
    refine Rp.ist4 dX12_happens_10 (by first | exact nl2_some rfl | exact nl2_none) (by decide) ?_
    refine Rp.iload dX12_happens_12 rfl ?_
    first | ((with_reducible show Rp _ _ _ _ (.int (b2i _) :: _) _ _); refine Rp.if_eqB (tgt := 26) dX12_happens_14 (by decide) (fun c14 => ?_) (fun c14 => ?_)) | ((with_reducible show Rp _ _ _ _ (.int (nI _) :: _) _ _); refine Rp.if_eqN (tgt := 26) dX12_happens_14 (by decide) (by omega) (fun c14 => ?_) (fun c14 => ?_)) | refine Rp.if_eq (tgt := 26) dX12_happens_14 (by decide) (fun c14 => ?_) (fun c14 => ?_)
    · skip
      cases c14
    · skip
      refine Rp.aload_n dX12_happens_17 rfl rfl ?_
      refine Rp.getR dX12_happens_18 fk_X12_24 rfl (S1 _ _ rfl) (R1 _ _ _ rfl) ?_
      refine Rp.iconst (nI 0) dX12_happens_21 (by decide) ?_
      refine Rp.iload_n dX12_happens_22 rfl ?_
      first | ((with_reducible show Rp _ _ _ _ (.int (nI _) :: .int (nI _) :: _) _ _); refine Rp.iaddN dX12_happens_23 ?_) | refine Rp.iadd dX12_happens_23 ?_
      refine Rp.iload_n dX12_happens_24 rfl ?_
      first | ((with_reducible show Rp _ _ _ _ (_ :: .int (nI _) :: _) _ _); refine Rp.iastoreN dX12_happens_25 (S1 _ _ rfl) (by omega) ?_) | refine Rp.iastore dX12_happens_25 (S1 _ _ rfl) (by first | assumption | exact vpb (by decide)) ?_
      refine Rp.iload dX12_happens_26 rfl ?_
      refine Rp.zreturn dX12_happens_28 rfl (b2i_01 _) ?_
      exact ⟨rfl, (haX_t F1).sI (haX_p (by omega)), K3⟩
theorem hap1 (A : MA h fl np nt US) {p t : Nat} (hp : p < np) (ht : t < nt) : Rp (d + 77) M_X12_happens 0 [some (.ref aM), some (.int (nI p)), some (.int (nI t)), some (.int (nI 1)), none, none] [] h (HpQ h (swR (gI h am_kept) fl np (nI p) (hOf (gI h am_kept) (nI t) np))) := by
  have A0 := A
  obtain ⟨S, R, hF, B, V, hM, hT, L⟩ := A
  have v1 := V.1
  have v2 := V.2.1
  have i1 : inN (nI p) np = true := (inN_iff (by omega)).mpr ⟨p, hp, rfl⟩
  have ho := s_holderOf (d + 76) S R (nI t) V.1 hM
  by_cases e1 : hOf (gI h am_kept) (nI t) np = -1
  · rw [e1] at ho ⊢
    have i2 : inN (-1) np = false := by unfold inN; exact decide_eq_false (fun z => absurd z.1 (by decide))
    unfold swR
    rw [if_neg (by rw [i2, Bool.and_false]; decide)]
    refine Rp.iload_n dX12_happens_0 rfl ?_
    first | ((with_reducible show Rp _ _ _ _ (.int (b2i _) :: _) _ _); refine Rp.if_neB (tgt := 29) dX12_happens_1 (by decide) (fun c1 => ?_) (fun c1 => ?_)) | ((with_reducible show Rp _ _ _ _ (.int (nI _) :: _) _ _); refine Rp.if_neN (tgt := 29) dX12_happens_1 (by decide) (by omega) (fun c1 => ?_) (fun c1 => ?_)) | refine Rp.if_ne (tgt := 29) dX12_happens_1 (by decide) (fun c1 => ?_) (fun c1 => ?_)
    · skip
      refine Rp.iload_n dX12_happens_29 rfl ?_
      refine Rp.iconst (nI 1) dX12_happens_30 (by decide) ?_
      first | ((with_reducible show Rp _ _ _ _ (.int (nI _) :: .int (nI _) :: _) _ _); refine Rp.icmp_neN (tgt := 79) dX12_happens_31 (by decide) (by omega) (fun c31 => ?_) (fun c31 => ?_)) | refine Rp.icmp_ne (tgt := 79) dX12_happens_31 (by decide) (fun c31 => ?_) (fun c31 => ?_)
      · skip
        first | (exfalso; omega) | exact absurd c31 (by decide) | exact absurd (by decide) c31
      · skip
        refine Rp.aload_n dX12_happens_34 rfl rfl ?_
        refine Rp.iload_n dX12_happens_35 rfl ?_
        refine Rp.callV1 M_X12_holderOf (ci := 12) dX12_happens_36 mo_X12_holderOf lk_X12_151 (by decide) rfl rfl (S _ _ rfl) (Nat.le_of_ble_eq_true rfl) (Nat.le_of_ble_eq_true rfl) (ho) (fun v1 h1 p1 x1 => ?_)
        rw [p1.1, p1.2]
        try dsimp only [Option.toList, List.cons_append, List.nil_append, List.append]
        refine Rp.ist4 dX12_happens_39 (by first | exact nl2_some rfl | exact nl2_none) (by decide) ?_
        refine Rp.iload dX12_happens_41 rfl ?_
        refine Rp.iconst (-1) dX12_happens_43 (by decide) ?_
        first | ((with_reducible show Rp _ _ _ _ (.int (nI _) :: .int (nI _) :: _) _ _); refine Rp.icmp_eqN (tgt := 61) dX12_happens_44 (by decide) (by omega) (fun c44 => ?_) (fun c44 => ?_)) | refine Rp.icmp_eq (tgt := 61) dX12_happens_44 (by decide) (fun c44 => ?_) (fun c44 => ?_)
        · skip
          refine Rp.iconst (nI 0) dX12_happens_61 (by decide) ?_
          refine Rp.ist5 dX12_happens_62 (by first | exact nl2_some rfl | exact nl2_none) (by decide) ?_
          refine Rp.iload dX12_happens_64 rfl ?_
          first | ((with_reducible show Rp _ _ _ _ (.int (b2i _) :: _) _ _); refine Rp.if_eqB (tgt := 76) dX12_happens_66 (by decide) (fun c66 => ?_) (fun c66 => ?_)) | ((with_reducible show Rp _ _ _ _ (.int (nI _) :: _) _ _); refine Rp.if_eqN (tgt := 76) dX12_happens_66 (by decide) (by omega) (fun c66 => ?_) (fun c66 => ?_)) | refine Rp.if_eq (tgt := 76) dX12_happens_66 (by decide) (fun c66 => ?_) (fun c66 => ?_)
          · skip
            refine Rp.iload dX12_happens_76 rfl ?_
            refine Rp.zreturn dX12_happens_78 rfl (b2i_01 false) ?_
            exact HpQ_no Fr.rfl' _
          · skip
            exact absurd rfl c66
        · skip
          exact absurd rfl c44
    · skip
      first | (exfalso; omega) | exact absurd c1 (by decide) | exact absurd (by decide) c1
  · obtain ⟨q, hq, eq, -⟩ := hOf_get np e1
    rw [eq] at ho ⊢
    have i2 : inN (nI q) np = true := (inN_iff (by omega)).mpr ⟨q, hq, rfl⟩
    have nq : nI q ≠ -1 := nI_m1 (by omega)
    unfold swR
    rw [if_pos (by rw [i1, i2]; rfl), ix_nI (by omega), ix_nI (by omega)]
    have cd := s_canSwap d A0 (p := p) (q := q) (by omega) (by omega)
    refine Rp.iload_n dX12_happens_0 rfl ?_
    first | ((with_reducible show Rp _ _ _ _ (.int (b2i _) :: _) _ _); refine Rp.if_neB (tgt := 29) dX12_happens_1 (by decide) (fun c1 => ?_) (fun c1 => ?_)) | ((with_reducible show Rp _ _ _ _ (.int (nI _) :: _) _ _); refine Rp.if_neN (tgt := 29) dX12_happens_1 (by decide) (by omega) (fun c1 => ?_) (fun c1 => ?_)) | refine Rp.if_ne (tgt := 29) dX12_happens_1 (by decide) (fun c1 => ?_) (fun c1 => ?_)
    rotate_left
    · first | (exfalso; omega) | exact absurd c1 (by decide) | exact absurd (by decide) c1
    refine Rp.iload_n dX12_happens_29 rfl ?_
    refine Rp.iconst (nI 1) dX12_happens_30 (by decide) ?_
    first | ((with_reducible show Rp _ _ _ _ (.int (nI _) :: .int (nI _) :: _) _ _); refine Rp.icmp_neN (tgt := 79) dX12_happens_31 (by decide) (by omega) (fun c31 => ?_) (fun c31 => ?_)) | refine Rp.icmp_ne (tgt := 79) dX12_happens_31 (by decide) (fun c31 => ?_) (fun c31 => ?_)
    · first | (exfalso; omega) | exact absurd c31 (by decide) | exact absurd (by decide) c31
    refine Rp.aload_n dX12_happens_34 rfl rfl ?_
    refine Rp.iload_n dX12_happens_35 rfl ?_
    refine Rp.callV1 M_X12_holderOf (ci := 12) dX12_happens_36 mo_X12_holderOf lk_X12_151 (by decide) rfl rfl (S _ _ rfl) (Nat.le_of_ble_eq_true rfl) (Nat.le_of_ble_eq_true rfl) (ho) (fun v1 h1 p1 x1 => ?_)
    rw [p1.1, p1.2]
    try dsimp only [Option.toList, List.cons_append, List.nil_append, List.append]
    refine Rp.ist4 dX12_happens_39 (by first | exact nl2_some rfl | exact nl2_none) (by decide) ?_
    refine Rp.iload dX12_happens_41 rfl ?_
    refine Rp.iconst (-1) dX12_happens_43 (by decide) ?_
    first | ((with_reducible show Rp _ _ _ _ (.int (nI _) :: .int (nI _) :: _) _ _); refine Rp.icmp_eqN (tgt := 61) dX12_happens_44 (by decide) (by omega) (fun c44 => ?_) (fun c44 => ?_)) | refine Rp.icmp_eq (tgt := 61) dX12_happens_44 (by decide) (fun c44 => ?_) (fun c44 => ?_)
    · exact absurd c44 nq
    refine Rp.aload_n dX12_happens_47 rfl rfl ?_
    refine Rp.iload_n dX12_happens_48 rfl ?_
    refine Rp.iload dX12_happens_49 rfl ?_
    refine Rp.callV2 M_X12_canSwap (ci := 12) dX12_happens_51 mo_X12_canSwap lk_X12_360 (by decide) rfl rfl (S _ _ rfl) (Nat.le_of_ble_eq_true rfl) (Nat.le_of_ble_eq_true rfl) (cd) (fun v1 h1 p1 x1 => ?_)
    obtain ⟨F1, rfl⟩ := p1
    try dsimp only [Option.toList, List.cons_append, List.nil_append, List.append]
    skip
    have S1 := F1.S S
    have R1 := F1.R R (by decide)
    have eK : gI h1 102 = gI h 102 := (mdX_t F1).k102
    cases e3 : canS (gI h am_kept) fl p q
    · rw [if_neg (by decide)]
      first | ((with_reducible show Rp _ _ _ _ (.int (b2i _) :: _) _ _); refine Rp.if_eqB (tgt := 61) dX12_happens_54 (by decide) (fun c54 => ?_) (fun c54 => ?_)) | ((with_reducible show Rp _ _ _ _ (.int (nI _) :: _) _ _); refine Rp.if_eqN (tgt := 61) dX12_happens_54 (by decide) (by omega) (fun c54 => ?_) (fun c54 => ?_)) | refine Rp.if_eq (tgt := 61) dX12_happens_54 (by decide) (fun c54 => ?_) (fun c54 => ?_)
      · skip
        refine Rp.iconst (nI 0) dX12_happens_61 (by decide) ?_
        refine Rp.ist5 dX12_happens_62 (by first | exact nl2_some rfl | exact nl2_none) (by decide) ?_
        refine Rp.iload dX12_happens_64 rfl ?_
        first | ((with_reducible show Rp _ _ _ _ (.int (b2i _) :: _) _ _); refine Rp.if_eqB (tgt := 76) dX12_happens_66 (by decide) (fun c66 => ?_) (fun c66 => ?_)) | ((with_reducible show Rp _ _ _ _ (.int (nI _) :: _) _ _); refine Rp.if_eqN (tgt := 76) dX12_happens_66 (by decide) (by omega) (fun c66 => ?_) (fun c66 => ?_)) | refine Rp.if_eq (tgt := 76) dX12_happens_66 (by decide) (fun c66 => ?_) (fun c66 => ?_)
        · skip
          refine Rp.iload dX12_happens_76 rfl ?_
          refine Rp.zreturn dX12_happens_78 rfl (b2i_01 false) ?_
          exact HpQ_no F1 _
        · skip
          exact absurd rfl c66
      · skip
        cases c54
    · rw [if_pos rfl]
      have sn := s_swapsNow (d + 76) S1 R1 (p := p) (q := q) (by omega) (by omega)
      have K3 : gI (sI (sI h1 102 (0 + p) (gI h1 102 (0 + q))) 102 (0 + q) (gI h1 102 (0 + p))) 102 = swK (gI h 102) p q := funext fun j => by
        unfold swK upK
        rw [gI_at, gI_at, Nat.zero_add, Nat.zero_add, eK]
      have F3 : Fr haX h (sI (sI h1 102 (0 + p) (gI h1 102 (0 + q))) 102 (0 + q) (gI h1 102 (0 + p))) := ((haX_t F1).sI (haX_p (by omega))).sI (haX_p (by omega))
      first | ((with_reducible show Rp _ _ _ _ (.int (b2i _) :: _) _ _); refine Rp.if_eqB (tgt := 61) dX12_happens_54 (by decide) (fun c54 => ?_) (fun c54 => ?_)) | ((with_reducible show Rp _ _ _ _ (.int (nI _) :: _) _ _); refine Rp.if_eqN (tgt := 61) dX12_happens_54 (by decide) (by omega) (fun c54 => ?_) (fun c54 => ?_)) | refine Rp.if_eq (tgt := 61) dX12_happens_54 (by decide) (fun c54 => ?_) (fun c54 => ?_)
      · skip
        cases c54
      · skip
        refine Rp.iconst (nI 1) dX12_happens_57 (by decide) ?_
        refine Rp.goto (tgt := 62) dX12_happens_58 (by decide) ?_
        refine Rp.ist5 dX12_happens_62 (by first | exact nl2_some rfl | exact nl2_none) (by decide) ?_
        refine Rp.iload dX12_happens_64 rfl ?_
        first | ((with_reducible show Rp _ _ _ _ (.int (b2i _) :: _) _ _); refine Rp.if_eqB (tgt := 76) dX12_happens_66 (by decide) (fun c66 => ?_) (fun c66 => ?_)) | ((with_reducible show Rp _ _ _ _ (.int (nI _) :: _) _ _); refine Rp.if_eqN (tgt := 76) dX12_happens_66 (by decide) (by omega) (fun c66 => ?_) (fun c66 => ?_)) | refine Rp.if_eq (tgt := 76) dX12_happens_66 (by decide) (fun c66 => ?_) (fun c66 => ?_)
        · skip
          exact absurd c66 (by decide)
        · skip
          refine Rp.aload_n dX12_happens_69 rfl rfl ?_
          refine Rp.iload_n dX12_happens_70 rfl ?_
          refine Rp.iload dX12_happens_71 rfl ?_
          refine Rp.callV2 M_X12_swapsNow (ci := 12) dX12_happens_73 mo_X12_swapsNow lk_X12_363 (by decide) rfl rfl (S1 _ _ rfl) (Nat.le_of_ble_eq_true rfl) (Nat.le_of_ble_eq_true rfl) (sn) (fun v1 h1 p1 x1 => ?_)
          rw [p1.1, p1.2]
          try dsimp only [Option.toList, List.cons_append, List.nil_append, List.append]
          refine Rp.iload dX12_happens_76 rfl ?_
          refine Rp.zreturn dX12_happens_78 rfl (b2i_01 true) ?_
          exact ⟨rfl, F3, K3⟩
theorem hap2 (A : MA h fl np nt US) {p t w : Nat} (hp : p < np) (hw : 2 ≤ w ∧ w < 3) : Rp (d + 77) M_X12_happens 0 [some (.ref aM), some (.int (nI p)), some (.int (nI t)), some (.int (nI w)), none, none] [] h (HpQ h (dpR (gI h am_kept) np (nI p))) := by
  obtain ⟨S, R, hF, B, V, hM, hT, L⟩ := A
  have v1 := V.1
  have i1 : inN (nI p) np = true := (inN_iff (by omega)).mpr ⟨p, hp, rfl⟩
  unfold dpR
  rw [if_pos i1, ix_nI (by omega)]
  have ho := s_holds (d + 76) S R (q := p) (by omega)
  have K3 : gI (sI h 102 (0 + p) (-1)) 102 = upK (gI h 102) p (-1) := funext fun j => by
    unfold upK
    rw [gI_at, Nat.zero_add]
  by_cases c1 : gI h am_kept p = -1
  · rw [if_pos c1]
    rw [decide_eq_false (fun z => z c1)] at ho
    have K4 : gI (sI h 102 (0 + p) (-1)) 102 = gI h 102 := by
      rw [K3]
      funext j
      unfold upK
      by_cases z : j = p
      · rw [if_pos z, z]; exact c1.symm
      · rw [if_neg z]
    refine Rp.iload_n dX12_happens_0 rfl ?_
    first | ((with_reducible show Rp _ _ _ _ (.int (b2i _) :: _) _ _); refine Rp.if_neB (tgt := 29) dX12_happens_1 (by decide) (fun c1 => ?_) (fun c1 => ?_)) | ((with_reducible show Rp _ _ _ _ (.int (nI _) :: _) _ _); refine Rp.if_neN (tgt := 29) dX12_happens_1 (by decide) (by omega) (fun c1 => ?_) (fun c1 => ?_)) | refine Rp.if_ne (tgt := 29) dX12_happens_1 (by decide) (fun c1 => ?_) (fun c1 => ?_)
    · skip
      refine Rp.iload_n dX12_happens_29 rfl ?_
      refine Rp.iconst (nI 1) dX12_happens_30 (by decide) ?_
      first | ((with_reducible show Rp _ _ _ _ (.int (nI _) :: .int (nI _) :: _) _ _); refine Rp.icmp_neN (tgt := 79) dX12_happens_31 (by decide) (by omega) (fun c31 => ?_) (fun c31 => ?_)) | refine Rp.icmp_ne (tgt := 79) dX12_happens_31 (by decide) (fun c31 => ?_) (fun c31 => ?_)
      · skip
        refine Rp.aload_n dX12_happens_79 rfl rfl ?_
        refine Rp.iload_n dX12_happens_80 rfl ?_
        refine Rp.callV1 M_X12_holds (ci := 12) dX12_happens_81 mo_X12_holds lk_X12_351 (by decide) rfl rfl (S _ _ rfl) (Nat.le_of_ble_eq_true rfl) (Nat.le_of_ble_eq_true rfl) (ho) (fun v1 h1 p1 x1 => ?_)
        rw [p1.1, p1.2]
        try dsimp only [Option.toList, List.cons_append, List.nil_append, List.append]
        refine Rp.ist4 dX12_happens_84 (by first | exact nl2_some rfl | exact nl2_none) (by decide) ?_
        refine Rp.aload_n dX12_happens_86 rfl rfl ?_
        refine Rp.getR dX12_happens_87 fk_X12_24 rfl (S _ _ rfl) (R _ _ _ rfl) ?_
        refine Rp.iconst (nI 0) dX12_happens_90 (by decide) ?_
        refine Rp.iload_n dX12_happens_91 rfl ?_
        first | ((with_reducible show Rp _ _ _ _ (.int (nI _) :: .int (nI _) :: _) _ _); refine Rp.iaddN dX12_happens_92 ?_) | refine Rp.iadd dX12_happens_92 ?_
        refine Rp.iconst (-1) dX12_happens_93 (by decide) ?_
        first | ((with_reducible show Rp _ _ _ _ (_ :: .int (nI _) :: _) _ _); refine Rp.iastoreN dX12_happens_94 (S _ _ rfl) (by omega) ?_) | refine Rp.iastore dX12_happens_94 (S _ _ rfl) (by first | assumption | exact vpb (by decide)) ?_
        refine Rp.iload dX12_happens_95 rfl ?_
        refine Rp.zreturn dX12_happens_97 rfl (b2i_01 _) ?_
        exact ⟨rfl, Fr.rfl'.sI (haX_p (by omega)), K4⟩
      · skip
        first | (exfalso; omega) | exact absurd c31 (by decide) | exact absurd (by decide) c31
    · skip
      first | (exfalso; omega) | exact absurd c1 (by decide) | exact absurd (by decide) c1
  · rw [if_neg c1]
    rw [decide_eq_true c1] at ho
    refine Rp.iload_n dX12_happens_0 rfl ?_
    first | ((with_reducible show Rp _ _ _ _ (.int (b2i _) :: _) _ _); refine Rp.if_neB (tgt := 29) dX12_happens_1 (by decide) (fun c1 => ?_) (fun c1 => ?_)) | ((with_reducible show Rp _ _ _ _ (.int (nI _) :: _) _ _); refine Rp.if_neN (tgt := 29) dX12_happens_1 (by decide) (by omega) (fun c1 => ?_) (fun c1 => ?_)) | refine Rp.if_ne (tgt := 29) dX12_happens_1 (by decide) (fun c1 => ?_) (fun c1 => ?_)
    · skip
      refine Rp.iload_n dX12_happens_29 rfl ?_
      refine Rp.iconst (nI 1) dX12_happens_30 (by decide) ?_
      first | ((with_reducible show Rp _ _ _ _ (.int (nI _) :: .int (nI _) :: _) _ _); refine Rp.icmp_neN (tgt := 79) dX12_happens_31 (by decide) (by omega) (fun c31 => ?_) (fun c31 => ?_)) | refine Rp.icmp_ne (tgt := 79) dX12_happens_31 (by decide) (fun c31 => ?_) (fun c31 => ?_)
      · skip
        refine Rp.aload_n dX12_happens_79 rfl rfl ?_
        refine Rp.iload_n dX12_happens_80 rfl ?_
        refine Rp.callV1 M_X12_holds (ci := 12) dX12_happens_81 mo_X12_holds lk_X12_351 (by decide) rfl rfl (S _ _ rfl) (Nat.le_of_ble_eq_true rfl) (Nat.le_of_ble_eq_true rfl) (ho) (fun v1 h1 p1 x1 => ?_)
        rw [p1.1, p1.2]
        try dsimp only [Option.toList, List.cons_append, List.nil_append, List.append]
        refine Rp.ist4 dX12_happens_84 (by first | exact nl2_some rfl | exact nl2_none) (by decide) ?_
        refine Rp.aload_n dX12_happens_86 rfl rfl ?_
        refine Rp.getR dX12_happens_87 fk_X12_24 rfl (S _ _ rfl) (R _ _ _ rfl) ?_
        refine Rp.iconst (nI 0) dX12_happens_90 (by decide) ?_
        refine Rp.iload_n dX12_happens_91 rfl ?_
        first | ((with_reducible show Rp _ _ _ _ (.int (nI _) :: .int (nI _) :: _) _ _); refine Rp.iaddN dX12_happens_92 ?_) | refine Rp.iadd dX12_happens_92 ?_
        refine Rp.iconst (-1) dX12_happens_93 (by decide) ?_
        first | ((with_reducible show Rp _ _ _ _ (_ :: .int (nI _) :: _) _ _); refine Rp.iastoreN dX12_happens_94 (S _ _ rfl) (by omega) ?_) | refine Rp.iastore dX12_happens_94 (S _ _ rfl) (by first | assumption | exact vpb (by decide)) ?_
        refine Rp.iload dX12_happens_95 rfl ?_
        refine Rp.zreturn dX12_happens_97 rfl (b2i_01 _) ?_
        exact ⟨rfl, Fr.rfl'.sI (haX_p (by omega)), K3⟩
      · skip
        first | (exfalso; omega) | exact absurd c31 (by decide) | exact absurd (by decide) c31
    · skip
      first | (exfalso; omega) | exact absurd c1 (by decide) | exact absurd (by decide) c1
theorem s_happens (A : MA h fl np nt US) {p t w : Nat} (hp : p < np) (ht : t < nt) (hw : w < 3) : Rp (d + 77) M_X12_happens 0 [some (.ref aM), some (.int (nI p)), some (.int (nI t)), some (.int (nI w)), none, none] [] h (HpQ h (blR (gI h am_kept) fl np nt p t w)) := by
  unfold blR
  by_cases c0 : w = 0
  · subst c0; rw [if_pos rfl]; exact hap0 d A hp ht
  · rw [if_neg c0]
    by_cases c1 : w = 1
    · subst c1; rw [if_pos rfl]; exact hap1 d A hp ht
    · rw [if_neg c1]; exact hap2 d A hp (by omega)
end Hp
