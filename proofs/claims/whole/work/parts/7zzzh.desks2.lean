theorem shl1 : ∀ n, n ≤ 3 → nI 1 <<< (nI n &&& 31) = nI (2 ^ n) := by decide
section De2
variable (d : Nat) {K : Nat → Int32} {fl : Option (List CLE)} {np nt nd : Nat} {h0 : AH}
theorem few32 (B : KB K) (VDd : VD K nd) (VNn : VN K nt) {mi : Nat} (hmi : mi < 1000) {size : Nat} (hs : size ≤ 3) {P : Option Value → AH → Prop} : ∀ (m u : Nat) (g : AH), u + m = 2 ^ nd → DeI h0 g K fl np nt nd → (∀ x g', fdI (dmB K fl nd np nt (nI mi)) size m u = some x → DeI h0 g' K fl np nt nd → P (some (.int (nI x))) g') → (∀ g', fdI (dmB K fl nd np nt (nI mi)) size m u = none → DeI h0 g' K fl np nt nd → Rp (d + 5) M_X6_fewestDesks 66 [some (.ref 52), some (.int (nI mi)), some (.int (nI (2 ^ nd))), some (.int (nI size)), some (.int (nI (2 ^ nd)))] [] g' P) → Rp (d + 5) M_X6_fewestDesks 32 [some (.ref 52), some (.int (nI mi)), some (.int (nI (2 ^ nd))), some (.int (nI size)), some (.int (nI u))] [] g P := by
  have h8 : 2 ^ nd ≤ 8 := Nat.pow_le_pow_right (n := 2) (by decide) VDd.1
  generalize hmk : 2 ^ nd = mk at h8 ⊢
  intro m
  induction m with
  | zero =>
    intro u g hm I kok kno
    have e : u = mk := by omega
    subst e
    have k1 := kno g rfl I
    refine Rp.iload dX6_fewestDesks_32 rfl ?_
    refine Rp.iload_n dX6_fewestDesks_34 rfl ?_
    first | ((with_reducible show Rp _ _ _ _ (.int (nI _) :: .int (nI _) :: _) _ _); refine Rp.icmp_geN (tgt := 66) dX6_fewestDesks_35 (by decide) (by omega) (fun c35 => ?_) (fun c35 => ?_)) | refine Rp.icmp_ge (tgt := 66) dX6_fewestDesks_35 (by decide) (fun c35 => ?_) (fun c35 => ?_)
    · skip
      exact k1
    · skip
      first | (exfalso; omega) | exact absurd c35 (by decide) | exact absurd (by decide) c35
  | succ m ih =>
    intro u g hm I kok kno
    have S := I.1
    have bc := t_bitC (d + 4) (h := g) (u := u) (by omega)
    have p8 : pc8 u ≤ 3 := by
      have : u = 0 ∨ u = 1 ∨ u = 2 ∨ u = 3 ∨ u = 4 ∨ u = 5 ∨ u = 6 ∨ u = 7 := by omega
      rcases this with rfl | rfl | rfl | rfl | rfl | rfl | rfl | rfl <;> decide
    rw [fdI] at kok kno
    by_cases c1 : pc8 u = size
    · have ad := t_areDone d I B VDd VNn (u := u) hmi
      refine Rp.iload dX6_fewestDesks_32 rfl ?_
      refine Rp.iload_n dX6_fewestDesks_34 rfl ?_
      first | ((with_reducible show Rp _ _ _ _ (.int (nI _) :: .int (nI _) :: _) _ _); refine Rp.icmp_geN (tgt := 66) dX6_fewestDesks_35 (by decide) (by omega) (fun c35 => ?_) (fun c35 => ?_)) | refine Rp.icmp_ge (tgt := 66) dX6_fewestDesks_35 (by decide) (fun c35 => ?_) (fun c35 => ?_)
      · first | (exfalso; omega) | exact absurd c35 (by decide) | exact absurd (by decide) c35
      refine Rp.iload dX6_fewestDesks_38 rfl ?_
      refine Rp.callS1 M_J6_bitCount_0f7a4 dX6_fewestDesks_40 mo_J6_bitCount_0f7a4 lk_X6_156 (Nat.le_of_ble_eq_true rfl) (Nat.le_of_ble_eq_true rfl) (bc) (fun v1 h1 p1 x1 => ?_)
      rw [p1.1, p1.2]
      try dsimp only [Option.toList, List.cons_append, List.nil_append, List.append]
      refine Rp.iload_n dX6_fewestDesks_43 rfl ?_
      first | ((with_reducible show Rp _ _ _ _ (.int (nI _) :: .int (nI _) :: _) _ _); refine Rp.icmp_neN (tgt := 60) dX6_fewestDesks_44 (by decide) (by omega) (fun c44 => ?_) (fun c44 => ?_)) | refine Rp.icmp_ne (tgt := 60) dX6_fewestDesks_44 (by decide) (fun c44 => ?_) (fun c44 => ?_)
      · first | (exfalso; omega) | exact absurd c44 (by decide) | exact absurd (by decide) c44
      refine Rp.aload_n dX6_fewestDesks_47 rfl rfl ?_
      refine Rp.iload dX6_fewestDesks_48 rfl ?_
      refine Rp.iload_n dX6_fewestDesks_50 rfl ?_
      refine Rp.callV2 M_X6_areDone (ci := 6) dX6_fewestDesks_51 mo_X6_areDone lk_X6_162 (by decide) rfl rfl (S _ _ rfl) (Nat.le_of_ble_eq_true rfl) (Nat.le_of_ble_eq_true rfl) (ad) (fun v1 h1 p1 x1 => ?_)
      obtain ⟨I1, rfl⟩ := p1
      try dsimp only [Option.toList, List.cons_append, List.nil_append, List.append]
      skip
      cases c2 : dmB K fl nd np nt (nI mi) u
      · rw [if_neg (fun z => by rw [c2] at z; exact absurd z.2 (by decide))] at kok kno
        have k1 := ih (u + 1) h1 (by omega) I1 kok kno
        first | ((with_reducible show Rp _ _ _ _ (.int (b2i _) :: _) _ _); refine Rp.if_eqB (tgt := 60) dX6_fewestDesks_54 (by decide) (fun c54 => ?_) (fun c54 => ?_)) | ((with_reducible show Rp _ _ _ _ (.int (nI _) :: _) _ _); refine Rp.if_eqN (tgt := 60) dX6_fewestDesks_54 (by decide) (by omega) (fun c54 => ?_) (fun c54 => ?_)) | refine Rp.if_eq (tgt := 60) dX6_fewestDesks_54 (by decide) (fun c54 => ?_) (fun c54 => ?_)
        · skip
          first | ((with_reducible show Rp _ _ _ (_ :: _ :: _ :: _ :: some (.int (nI _)) :: _) _ _ _); refine Rp.inc4N (c := 1) dX6_fewestDesks_60 (by first | exact nl2_some rfl | exact nl2_none) (by decide) ?_) | refine Rp.inc4 _ dX6_fewestDesks_60 rfl (by first | exact nl2_some rfl | exact nl2_none) (by decide) ?_
          refine Rp.goto (tgt := 32) dX6_fewestDesks_63 (by decide) ?_
          exact k1
        · skip
          cases c54
      · rw [if_pos ⟨c1, c2⟩] at kok
        have k1 := kok u h1 rfl I1
        first | ((with_reducible show Rp _ _ _ _ (.int (b2i _) :: _) _ _); refine Rp.if_eqB (tgt := 60) dX6_fewestDesks_54 (by decide) (fun c54 => ?_) (fun c54 => ?_)) | ((with_reducible show Rp _ _ _ _ (.int (nI _) :: _) _ _); refine Rp.if_eqN (tgt := 60) dX6_fewestDesks_54 (by decide) (by omega) (fun c54 => ?_) (fun c54 => ?_)) | refine Rp.if_eq (tgt := 60) dX6_fewestDesks_54 (by decide) (fun c54 => ?_) (fun c54 => ?_)
        · skip
          cases c54
        · skip
          refine Rp.iload dX6_fewestDesks_57 rfl ?_
          refine Rp.ireturn dX6_fewestDesks_59 rfl ?_
          exact k1
    · rw [if_neg (fun z => c1 z.1)] at kok kno
      have k1 := ih (u + 1) g (by omega) I kok kno
      refine Rp.iload dX6_fewestDesks_32 rfl ?_
      refine Rp.iload_n dX6_fewestDesks_34 rfl ?_
      first | ((with_reducible show Rp _ _ _ _ (.int (nI _) :: .int (nI _) :: _) _ _); refine Rp.icmp_geN (tgt := 66) dX6_fewestDesks_35 (by decide) (by omega) (fun c35 => ?_) (fun c35 => ?_)) | refine Rp.icmp_ge (tgt := 66) dX6_fewestDesks_35 (by decide) (fun c35 => ?_) (fun c35 => ?_)
      · skip
        first | (exfalso; omega) | exact absurd c35 (by decide) | exact absurd (by decide) c35
      · skip
        refine Rp.iload dX6_fewestDesks_38 rfl ?_
        refine Rp.callS1 M_J6_bitCount_0f7a4 dX6_fewestDesks_40 mo_J6_bitCount_0f7a4 lk_X6_156 (Nat.le_of_ble_eq_true rfl) (Nat.le_of_ble_eq_true rfl) (bc) (fun v1 h1 p1 x1 => ?_)
        rw [p1.1, p1.2]
        try dsimp only [Option.toList, List.cons_append, List.nil_append, List.append]
        refine Rp.iload_n dX6_fewestDesks_43 rfl ?_
        first | ((with_reducible show Rp _ _ _ _ (.int (nI _) :: .int (nI _) :: _) _ _); refine Rp.icmp_neN (tgt := 60) dX6_fewestDesks_44 (by decide) (by omega) (fun c44 => ?_) (fun c44 => ?_)) | refine Rp.icmp_ne (tgt := 60) dX6_fewestDesks_44 (by decide) (fun c44 => ?_) (fun c44 => ?_)
        · skip
          first | ((with_reducible show Rp _ _ _ (_ :: _ :: _ :: _ :: some (.int (nI _)) :: _) _ _ _); refine Rp.inc4N (c := 1) dX6_fewestDesks_60 (by first | exact nl2_some rfl | exact nl2_none) (by decide) ?_) | refine Rp.inc4 _ dX6_fewestDesks_60 rfl (by first | exact nl2_some rfl | exact nl2_none) (by decide) ?_
          refine Rp.goto (tgt := 32) dX6_fewestDesks_63 (by decide) ?_
          exact k1
        · skip
          first | (exfalso; omega) | exact absurd c44 (by decide) | exact absurd (by decide) c44
theorem few66 {P : Option Value → AH → Prop} {g : AH} {a1 a2 a4 : Int32} {n : Nat} (k1 : Rp (d + 5) M_X6_fewestDesks 15 [some (.ref 52), some (.int a1), some (.int a2), some (.int (nI (n + 1))), some (.int a4)] [] g P) : Rp (d + 5) M_X6_fewestDesks 66 [some (.ref 52), some (.int a1), some (.int a2), some (.int (nI n)), some (.int a4)] [] g P := by
  first | ((with_reducible show Rp _ _ _ (_ :: _ :: _ :: some (.int (nI _)) :: _) _ _ _); refine Rp.inc3N (c := 1) dX6_fewestDesks_66 (by first | exact nl2_some rfl | exact nl2_none) (by decide) ?_) | refine Rp.inc3 _ dX6_fewestDesks_66 rfl (by first | exact nl2_some rfl | exact nl2_none) (by decide) ?_
  refine Rp.goto (tgt := 15) dX6_fewestDesks_69 (by decide) ?_
  exact k1
theorem few15 (B : KB K) (VDd : VD K nd) (VNn : VN K nt) {mi : Nat} (hmi : mi < 1000) : ∀ (m size : Nat) (g : AH) (a4 : Option Value), size + m = nd + 1 → DeI h0 g K fl np nt nd → Rp (d + 5) M_X6_fewestDesks 15 [some (.ref 52), some (.int (nI mi)), some (.int (nI (2 ^ nd))), some (.int (nI size)), a4] [] g (fun r h' => DeI h0 h' K fl np nt nd ∧ r = some (.int (oI (fdO (dmB K fl nd np nt (nI mi)) (2 ^ nd) m size)))) := by
  have hnd := VDd.1
  intro m
  induction m with
  | zero =>
    intro size g a4 hm I
    obtain ⟨S, R, J, M, D, L, FF⟩ := id I
    have j40 : gR g 40 3 = some 1 := J.1
    have e9 : gI g 1 9 = nI nd := D.2.2.1
    refine Rp.iload_n dX6_fewestDesks_15 rfl ?_
    refine Rp.aload_n dX6_fewestDesks_16 rfl rfl ?_
    refine Rp.getR dX6_fewestDesks_17 fk_X6_27 rfl (S _ _ rfl) (R _ _ _ rfl) ?_
    refine Rp.getR dX6_fewestDesks_20 fk_X6_86 rfl (S _ _ rfl) j40 ?_
    refine Rp.getI dX6_fewestDesks_23 fk_X6_153 rfl (S _ _ rfl) ?_
    first | rw [e9] | skip
    first | ((with_reducible show Rp _ _ _ _ (.int (nI _) :: .int (nI _) :: _) _ _); refine Rp.icmp_gtN (tgt := 72) dX6_fewestDesks_26 (by decide) (by omega) (fun c26 => ?_) (fun c26 => ?_)) | refine Rp.icmp_gt (tgt := 72) dX6_fewestDesks_26 (by decide) (fun c26 => ?_) (fun c26 => ?_)
    · skip
      refine Rp.iconst (-1) dX6_fewestDesks_72 (by decide) ?_
      refine Rp.ireturn dX6_fewestDesks_73 rfl ?_
      exact ⟨I, rfl⟩
    · skip
      first | (exfalso; omega) | exact absurd c26 (by decide) | exact absurd (by decide) c26
  | succ m ih =>
    intro size g a4 hm I
    obtain ⟨S, R, J, M, D, L, FF⟩ := id I
    have j40 : gR g 40 3 = some 1 := J.1
    have e9 : gI g 1 9 = nI nd := D.2.2.1
    have k32 := few32 d (h0 := h0) (size := size) B VDd VNn hmi (by omega) (P := fun r h' => DeI h0 h' K fl np nt nd ∧ r = some (.int (oI (fdO (dmB K fl nd np nt (nI mi)) (2 ^ nd) (m + 1) size)))) (2 ^ nd) 0 g (by omega) I (fun x g' e I' => ⟨I', by rw [fdO, e]; rfl⟩) (fun g' e I' => by
      have k1 := ih (size + 1) g' (some (.int (nI (2 ^ nd)))) (by omega) I'
      have eo : fdO (dmB K fl nd np nt (nI mi)) (2 ^ nd) (m + 1) size = fdO (dmB K fl nd np nt (nI mi)) (2 ^ nd) m (size + 1) := by rw [fdO, e]
      rw [eo]
      exact few66 d k1)
    refine Rp.iload_n dX6_fewestDesks_15 rfl ?_
    refine Rp.aload_n dX6_fewestDesks_16 rfl rfl ?_
    refine Rp.getR dX6_fewestDesks_17 fk_X6_27 rfl (S _ _ rfl) (R _ _ _ rfl) ?_
    refine Rp.getR dX6_fewestDesks_20 fk_X6_86 rfl (S _ _ rfl) j40 ?_
    refine Rp.getI dX6_fewestDesks_23 fk_X6_153 rfl (S _ _ rfl) ?_
    first | rw [e9] | skip
    first | ((with_reducible show Rp _ _ _ _ (.int (nI _) :: .int (nI _) :: _) _ _); refine Rp.icmp_gtN (tgt := 72) dX6_fewestDesks_26 (by decide) (by omega) (fun c26 => ?_) (fun c26 => ?_)) | refine Rp.icmp_gt (tgt := 72) dX6_fewestDesks_26 (by decide) (fun c26 => ?_) (fun c26 => ?_)
    · skip
      first | (exfalso; omega) | exact absurd c26 (by decide) | exact absurd (by decide) c26
    · skip
      refine Rp.iconst (nI 0) dX6_fewestDesks_29 (by decide) ?_
      refine Rp.ist4 dX6_fewestDesks_30 (by first | exact nl2_some rfl | exact nl2_none) (by decide) ?_
      exact k32
theorem t_fewest {g : AH} (I : DeI h0 g K fl np nt nd) (B : KB K) (VDd : VD K nd) (VNn : VN K nt) {mi : Nat} (hmi : mi < 1000) : Rp (d + 5) M_X6_fewestDesks 0 [some (.ref 52), some (.int (nI mi)), none, none, none] [] g (fun r h' => DeI h0 h' K fl np nt nd ∧ r = some (.int (oI (gdF (dmB K fl nd np nt (nI mi)) (2 ^ nd))))) := by
  obtain ⟨S, R, J, M, D, L, FF⟩ := id I
  have j40 : gR g 40 3 = some 1 := J.1
  have e9 : gI g 1 9 = nI nd := D.2.2.1
  have k15 := few15 d (h0 := h0) B VDd VNn hmi (nd + 1) 0 g none (by omega) I
  rw [fd_gd _ nd VDd.1] at k15
  have sh := shl1 nd VDd.1
  refine Rp.iconst (nI 1) dX6_fewestDesks_0 (by decide) ?_
  refine Rp.aload_n dX6_fewestDesks_1 rfl rfl ?_
  refine Rp.getR dX6_fewestDesks_2 fk_X6_27 rfl (S _ _ rfl) (R _ _ _ rfl) ?_
  refine Rp.getR dX6_fewestDesks_5 fk_X6_86 rfl (S _ _ rfl) j40 ?_
  refine Rp.getI dX6_fewestDesks_8 fk_X6_153 rfl (S _ _ rfl) ?_
  first | rw [e9] | skip
  refine Rp.ishl dX6_fewestDesks_11 ?_
  rw [sh]
  refine Rp.ist2 dX6_fewestDesks_12 (by first | exact nl2_some rfl | exact nl2_none) (by decide) ?_
  refine Rp.iconst (nI 0) dX6_fewestDesks_13 (by decide) ?_
  refine Rp.ist3 dX6_fewestDesks_14 (by first | exact nl2_some rfl | exact nl2_none) (by decide) ?_
  exact k15
theorem gdF_lt {D : Nat → Bool} : ∀ n u, gdF D n = some u → u < n
  | 0, u, h => nomatch h
  | n + 1, u, h => by
    rw [gdF] at h
    match hx : gdF D n, h with
    | none, h =>
      dsimp only at h
      split at h
      · cases h; omega
      · cases h
    | some b, h =>
      have := gdF_lt n b hx
      dsimp only at h
      split at h
      · cases h; omega
      · cases h; omega
variable {h : AH} {nl : Nat} {LSs : Nat → List CLE} {E : List Int32}
theorem t_desks (S : ShOK h) (R : RfOK h) (G : HG h 1 K np nt nd nl LSs E) (V : VH K np nt) (B : KB K) (VNn : VN K nt) (VDd : VD K nd) (hz : ∀ j, 9 ≤ j → gI h 43 j = 0) (mi w : Int32) : Rp (d + 6) M_X11_desks 0 [some (.ref 0), some (.int mi), some (.int w), none] [] h (fun r h' => r = some (.int (dsA K (flO nl LSs (K 108)) nd np nt mi w)) ∧ Fr tzX h h' ∧ ∀ j, 9 ≤ j → gI h' 43 j = 0) := by
  unfold dsA
  by_cases c : (inN mi 1000 && inN w 2) = true
  · rw [if_pos c]
    rw [Bool.and_eq_true] at c
    obtain ⟨mm, hmm, rfl⟩ := (inN_iff (by decide)).mp c.1
    obtain ⟨q, hq, rfl⟩ := (inN_iff (by decide)).mp c.2
    rw [ix_nI (by omega)]
    have nm : ¬ nI mm < 0 := by rw [i32_lt, nI_toInt (by omega)]; exact Int.not_lt.mpr (Int.natCast_nonneg _)
    have nq : ¬ nI q < 0 := by rw [i32_lt, nI_toInt (by omega)]; exact Int.not_lt.mpr (Int.natCast_nonneg _)
    have e18 : gI h 1 18 = K 108 := G.1.2.2.2.2.2.2.1
    have lf := t_lawInForce (d + 3) G.2.1
    rw [e18] at lf
    have h8 : 2 ^ nd ≤ 8 := Nat.pow_le_pow_right (n := 2) (by decide) VDd.1
    have k40 : ∀ g, Fr bX h g → JS g 1 K (flO nl LSs (K 108)) → Rp (d + 6) M_X11_desks 40 [some (.ref 0), some (.int (nI mm)), some (.int (nI q)), none] [] g (fun r h' => r = some (.int (match gdF (dmB K (flO nl LSs (K 108)) nd np nt (nI mm)) (2 ^ nd) with
      | none => -1
      | some u => if q = 0 then nI (pc8 u) else nI u)) ∧ Fr tzX h h' ∧ ∀ j, 9 ≤ j → gI h' 43 j = 0) := by
      intro g F1 J1
      have S1 := F1.S S
      have R1 := F1.R R (by decide)
      have G1 : HG g 1 K np nt nd nl LSs E := G.fr F1 (fun o j ho => bX_b (by decide) ho) (fun k j o => bX_T (ok129 o))
      have M1 := G1.1.hm V
      have ln := t_line (d + 5) (K := K) S1 R1 (by decide) G1.1.1 VNn M1.2.2.2.1 G1.1.2.2.2.2.2.2.2.2.2.2.2.1
      refine Rp.aload_n dX11_desks_40 rfl rfl ?_
      refine Rp.getR dX11_desks_41 fk_X11_55 rfl (S1 _ _ rfl) (R1 _ _ _ rfl) ?_
      refine Rp.aload_n dX11_desks_44 rfl rfl ?_
      refine Rp.getR dX11_desks_45 fk_X11_10 rfl (S1 _ _ rfl) (R1 _ _ _ rfl) ?_
      refine Rp.callV1 M_X1_line (ci := 1) dX11_desks_48 mo_X1_line lk_X11_308 (by decide) rfl rfl (S1 _ _ rfl) (Nat.le_of_ble_eq_true rfl) (Nat.le_of_ble_eq_true rfl) (ln) (fun v1 h1 p1 x1 => ?_)
      obtain ⟨rfl, F2, L2⟩ := p1
      try dsimp only [Option.toList, List.cons_append, List.nil_append, List.append]
      skip
      have S2 := F2.S S1
      have R2 := F2.R R1 (by decide)
      have J2 : JS h1 1 K (flO nl LSs (K 108)) := J1.fg F2 (fun j => rfl) (fun j => rfl) (fun j => rfl) (fun k j hk => liX_n (by omega)) (fun k j o => liX_n (okT_ne o (by decide) (by decide) (by decide) (by decide)))
      have G2 : HG h1 1 K np nt nd nl LSs E := G1.fr F2 (fun o j ho => liX_n (by omega)) (fun k j o => liX_n (by omega))
      have fe := t_fewest d (h0 := h1) (g := h1) ⟨S2, R2, J2, G2.1.hm V, G2.1.hd VDd.1, L2, Fr.rfl'⟩ B VDd VNn hmm
      refine Rp.aload_n dX11_desks_51 rfl rfl ?_
      refine Rp.getR dX11_desks_52 fk_X11_64 rfl (S2 _ _ rfl) (R2 _ _ _ rfl) ?_
      refine Rp.iload_n dX11_desks_55 rfl ?_
      refine Rp.callV1 M_X6_fewestDesks (ci := 6) dX11_desks_56 mo_X6_fewestDesks lk_X11_314 (by decide) rfl rfl (S2 _ _ rfl) (Nat.le_of_ble_eq_true rfl) (Nat.le_of_ble_eq_true rfl) (fe) (fun v1 h1 p1 x1 => ?_)
      obtain ⟨I3, rfl⟩ := p1
      try dsimp only [Option.toList, List.cons_append, List.nil_append, List.append]
      skip
      have FF : Fr tzX h h1 := ((tzX_s (soX_b F1)).trans (tzX_s (soX_l F2))).trans (tzX_a (pdX_q I3.2.2.2.2.2.2))
      have zz := I3.2.2.1.2.2.2.1
      match hx : gdF (dmB K (flO nl LSs (K 108)) nd np nt (nI mm)) (2 ^ nd) with
      | none =>
        dsimp only [oI]
        refine Rp.ist3 dX11_desks_59 (by first | exact nl2_some rfl | exact nl2_none) (by decide) ?_
        refine Rp.iload_n dX11_desks_60 rfl ?_
        refine Rp.iconst (-1) dX11_desks_61 (by decide) ?_
        first | ((with_reducible show Rp _ _ _ _ (.int (nI _) :: .int (nI _) :: _) _ _); refine Rp.icmp_neN (tgt := 67) dX11_desks_62 (by decide) (by omega) (fun c62 => ?_) (fun c62 => ?_)) | refine Rp.icmp_ne (tgt := 67) dX11_desks_62 (by decide) (fun c62 => ?_) (fun c62 => ?_)
        · skip
          exact absurd rfl c62
        · skip
          refine Rp.iconst (-1) dX11_desks_65 (by decide) ?_
          refine Rp.ireturn dX11_desks_66 rfl ?_
          exact ⟨rfl, FF, zz⟩
      | some u =>
        have ul := gdF_lt _ _ hx
        have nu : ¬ nI u = -1 := nI_m1 (by omega)
        have bc := t_bitC (d + 5) (h := h1) (u := u) (by omega)
        dsimp only [oI]
        by_cases c0 : q = 0
        · subst c0
          rw [if_pos rfl]
          refine Rp.ist3 dX11_desks_59 (by first | exact nl2_some rfl | exact nl2_none) (by decide) ?_
          refine Rp.iload_n dX11_desks_60 rfl ?_
          refine Rp.iconst (-1) dX11_desks_61 (by decide) ?_
          first | ((with_reducible show Rp _ _ _ _ (.int (nI _) :: .int (nI _) :: _) _ _); refine Rp.icmp_neN (tgt := 67) dX11_desks_62 (by decide) (by omega) (fun c62 => ?_) (fun c62 => ?_)) | refine Rp.icmp_ne (tgt := 67) dX11_desks_62 (by decide) (fun c62 => ?_) (fun c62 => ?_)
          · skip
            refine Rp.iload_n dX11_desks_67 rfl ?_
            first | ((with_reducible show Rp _ _ _ _ (.int (b2i _) :: _) _ _); refine Rp.if_neB (tgt := 78) dX11_desks_68 (by decide) (fun c68 => ?_) (fun c68 => ?_)) | ((with_reducible show Rp _ _ _ _ (.int (nI _) :: _) _ _); refine Rp.if_neN (tgt := 78) dX11_desks_68 (by decide) (by omega) (fun c68 => ?_) (fun c68 => ?_)) | refine Rp.if_ne (tgt := 78) dX11_desks_68 (by decide) (fun c68 => ?_) (fun c68 => ?_)
            · skip
              first | (exfalso; omega) | exact absurd c68 (by decide) | exact absurd (by decide) c68
            · skip
              refine Rp.iload_n dX11_desks_71 rfl ?_
              refine Rp.callS1 M_J6_bitCount_0f7a4 dX11_desks_72 mo_J6_bitCount_0f7a4 lk_X11_317 (Nat.le_of_ble_eq_true rfl) (Nat.le_of_ble_eq_true rfl) (bc) (fun v1 h1 p1 x1 => ?_)
              rw [p1.1, p1.2]
              try dsimp only [Option.toList, List.cons_append, List.nil_append, List.append]
              refine Rp.goto (tgt := 79) dX11_desks_75 (by decide) ?_
              refine Rp.ireturn dX11_desks_79 rfl ?_
              exact ⟨rfl, FF, zz⟩
          · skip
            exact absurd c62 nu
        · rw [if_neg c0]
          refine Rp.ist3 dX11_desks_59 (by first | exact nl2_some rfl | exact nl2_none) (by decide) ?_
          refine Rp.iload_n dX11_desks_60 rfl ?_
          refine Rp.iconst (-1) dX11_desks_61 (by decide) ?_
          first | ((with_reducible show Rp _ _ _ _ (.int (nI _) :: .int (nI _) :: _) _ _); refine Rp.icmp_neN (tgt := 67) dX11_desks_62 (by decide) (by omega) (fun c62 => ?_) (fun c62 => ?_)) | refine Rp.icmp_ne (tgt := 67) dX11_desks_62 (by decide) (fun c62 => ?_) (fun c62 => ?_)
          · skip
            refine Rp.iload_n dX11_desks_67 rfl ?_
            first | ((with_reducible show Rp _ _ _ _ (.int (b2i _) :: _) _ _); refine Rp.if_neB (tgt := 78) dX11_desks_68 (by decide) (fun c68 => ?_) (fun c68 => ?_)) | ((with_reducible show Rp _ _ _ _ (.int (nI _) :: _) _ _); refine Rp.if_neN (tgt := 78) dX11_desks_68 (by decide) (by omega) (fun c68 => ?_) (fun c68 => ?_)) | refine Rp.if_ne (tgt := 78) dX11_desks_68 (by decide) (fun c68 => ?_) (fun c68 => ?_)
            · skip
              refine Rp.iload_n dX11_desks_78 rfl ?_
              refine Rp.ireturn dX11_desks_79 rfl ?_
              exact ⟨rfl, FF, zz⟩
            · skip
              first | (exfalso; omega) | exact absurd c68 (by decide) | exact absurd (by decide) c68
          · skip
            exact absurd c62 nu
    refine Rp.iload_n dX11_desks_0 rfl ?_
    refine Rp.if_lt (tgt := 20) dX11_desks_1 (by decide) (fun c1 => ?_) (fun c1 => ?_)
    · exact absurd c1 nm
    refine Rp.iload_n dX11_desks_4 rfl ?_
    refine Rp.sipush (nI 999) dX11_desks_5 (by decide +kernel) ?_
    first | ((with_reducible show Rp _ _ _ _ (.int (nI _) :: .int (nI _) :: _) _ _); refine Rp.icmp_gtN (tgt := 20) dX11_desks_8 (by decide) (by omega) (fun c8 => ?_) (fun c8 => ?_)) | refine Rp.icmp_gt (tgt := 20) dX11_desks_8 (by decide) (fun c8 => ?_) (fun c8 => ?_)
    · first | (exfalso; omega) | exact absurd c8 (by decide) | exact absurd (by decide) c8
    refine Rp.iload_n dX11_desks_11 rfl ?_
    refine Rp.if_lt (tgt := 20) dX11_desks_12 (by decide) (fun c12 => ?_) (fun c12 => ?_)
    · exact absurd c12 nq
    refine Rp.iload_n dX11_desks_15 rfl ?_
    refine Rp.iconst (nI 1) dX11_desks_16 (by decide) ?_
    first | ((with_reducible show Rp _ _ _ _ (.int (nI _) :: .int (nI _) :: _) _ _); refine Rp.icmp_leN (tgt := 22) dX11_desks_17 (by decide) (by omega) (fun c17 => ?_) (fun c17 => ?_)) | refine Rp.icmp_le (tgt := 22) dX11_desks_17 (by decide) (fun c17 => ?_) (fun c17 => ?_)
    rotate_left
    · first | (exfalso; omega) | exact absurd c17 (by decide) | exact absurd (by decide) c17
    refine Rp.aload_n dX11_desks_22 rfl rfl ?_
    refine Rp.getR dX11_desks_23 fk_X11_39 rfl (S _ _ rfl) (R _ _ _ rfl) ?_
    refine Rp.aload_n dX11_desks_26 rfl rfl ?_
    refine Rp.getR dX11_desks_27 fk_X11_10 rfl (S _ _ rfl) (R _ _ _ rfl) ?_
    refine Rp.aload_n dX11_desks_30 rfl rfl ?_
    refine Rp.getR dX11_desks_31 fk_X11_10 rfl (S _ _ rfl) (R _ _ _ rfl) ?_
    refine Rp.callV0 M_X2_lawInForce (ci := 2) dX11_desks_34 mo_X2_lawInForce lk_X11_138 (by decide) rfl rfl (S _ _ rfl) (Nat.le_of_ble_eq_true rfl) (Nat.le_of_ble_eq_true rfl) (lf) (fun v1 h1 p1 x1 => ?_)
    obtain ⟨rfl, lr, rfl, qq⟩ := p1
    try dsimp only [Option.toList, List.cons_append, List.nil_append, List.append]
    skip
    match lr, qq with
    | none, qq =>
      have bg := t_beginJ (d + 4) S R (G.1.hj (Or.inl rfl)) hz qq
      dsimp only [cvR] at bg ⊢
      refine Rp.callV2 M_X3_begin (ci := 3) dX11_desks_37 mo_X3_begin lk_X11_142 (by decide) rfl rfl (S _ _ rfl) (Nat.le_of_ble_eq_true rfl) (Nat.le_of_ble_eq_true rfl) (bg) (fun v1 h1 p1 x1 => ?_)
      obtain ⟨rfl, F4, J4⟩ := p1
      try dsimp only [Option.toList, List.cons_append, List.nil_append, List.append]
      exact k40 _ F4 J4
    | some tx, qq =>
      have bg := t_beginJ (d + 4) S R (G.1.hj (Or.inl rfl)) hz qq
      dsimp only [cvR] at bg ⊢
      refine Rp.callV2 M_X3_begin (ci := 3) dX11_desks_37 mo_X3_begin lk_X11_142 (by decide) rfl rfl (S _ _ rfl) (Nat.le_of_ble_eq_true rfl) (Nat.le_of_ble_eq_true rfl) (bg) (fun v1 h1 p1 x1 => ?_)
      obtain ⟨rfl, F4, J4⟩ := p1
      try dsimp only [Option.toList, List.cons_append, List.nil_append, List.append]
      exact k40 _ F4 J4
  · rw [if_neg c]
    refine Rp.iload_n dX11_desks_0 rfl ?_
    refine Rp.if_lt (tgt := 20) dX11_desks_1 (by decide) (fun c1 => ?_) (fun c1 => ?_)
    · skip
      refine Rp.iconst (-1) dX11_desks_20 (by decide) ?_
      refine Rp.ireturn dX11_desks_21 rfl ?_
      exact ⟨rfl, Fr.rfl', hz⟩
    · skip
      refine Rp.iload_n dX11_desks_4 rfl ?_
      refine Rp.sipush (nI 999) dX11_desks_5 (by decide +kernel) ?_
      first | ((with_reducible show Rp _ _ _ _ (.int (nI _) :: .int (nI _) :: _) _ _); refine Rp.icmp_gtN (tgt := 20) dX11_desks_8 (by decide) (by omega) (fun c8 => ?_) (fun c8 => ?_)) | refine Rp.icmp_gt (tgt := 20) dX11_desks_8 (by decide) (fun c8 => ?_) (fun c8 => ?_)
      · skip
        refine Rp.iconst (-1) dX11_desks_20 (by decide) ?_
        refine Rp.ireturn dX11_desks_21 rfl ?_
        exact ⟨rfl, Fr.rfl', hz⟩
      · skip
        refine Rp.iload_n dX11_desks_11 rfl ?_
        refine Rp.if_lt (tgt := 20) dX11_desks_12 (by decide) (fun c12 => ?_) (fun c12 => ?_)
        · skip
          refine Rp.iconst (-1) dX11_desks_20 (by decide) ?_
          refine Rp.ireturn dX11_desks_21 rfl ?_
          exact ⟨rfl, Fr.rfl', hz⟩
        · skip
          refine Rp.iload_n dX11_desks_15 rfl ?_
          refine Rp.iconst (nI 1) dX11_desks_16 (by decide) ?_
          first | ((with_reducible show Rp _ _ _ _ (.int (nI _) :: .int (nI _) :: _) _ _); refine Rp.icmp_leN (tgt := 22) dX11_desks_17 (by decide) (by omega) (fun c17 => ?_) (fun c17 => ?_)) | refine Rp.icmp_le (tgt := 22) dX11_desks_17 (by decide) (fun c17 => ?_) (fun c17 => ?_)
          · skip
            exact absurd (by rw [Bool.and_eq_true]; exact ⟨by unfold inN; exact decide_eq_true ⟨by rw [i32_lt] at c1; exact Int.not_lt.mp c1, by have c8 : ¬ nI 999 < mi := c8; rw [i32_lt, nI_toInt (by decide)] at c8; omega⟩, by unfold inN; exact decide_eq_true ⟨by rw [i32_lt] at c12; exact Int.not_lt.mp c12, by rw [i32_le, nI_toInt (by decide)] at c17; omega⟩⟩) c
          · skip
            refine Rp.iconst (-1) dX11_desks_20 (by decide) ?_
            refine Rp.ireturn dX11_desks_21 rfl ?_
            exact ⟨rfl, Fr.rfl', hz⟩
end De2
