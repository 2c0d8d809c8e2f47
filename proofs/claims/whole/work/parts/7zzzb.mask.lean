section Mk
variable (d : Nat) {h : AH} {fl : Option (List CLE)} {np nt nd no : Nat}
theorem s_had (A : MBd h fl np nt nd) (hT : gI h 102 104 = nI nt) (hno : gI h 102 106 = nI no) (VTt : VT (gI h 102) no) (i p : Int32) : Rp (d + 88) M_X12_had 0 [some (.ref aM), some (.int i), some (.int p)] [] h (fun r h' => r = some (.int (hdA np (hdR (gI h 102) fl nd np nt no) i p)) ∧ Fr hwX h h' ∧ gI h' 102 = gI h 102) := by
  obtain ⟨S, R, hF, B, VDd, hD, VNn, V, hM⟩ := id A
  have v1 := V.1
  have lw := s_laysWays d A hT hno VTt i
  have ip := s_isPerson (d + 86) S R p v1 hM
  have l7 := (hdR_cap (K := gI h 102) (fl := fl) (nd := nd) (no := no) V).2
  generalize hdR (gI h 102) fl nd np nt no = L at lw l7
  unfold hdA
  have zz : (0 : Int32).toInt = 0 := rfl
  have z1 : (-1 : Int32).toInt = -1 := rfl
  by_cases d1 : i = -1
  · subst d1
    rw [if_pos rfl]
    have k20 : Rp (d + 88) M_X12_had 20 [some (.ref aM), some (.int (-1)), some (.int p)] [] h (fun r h' => r = some (.int (nI L.length)) ∧ Fr hwX h h' ∧ gI h' 102 = gI h 102) := by
      refine Rp.aload_n dX12_had_20 rfl rfl ?_
      refine Rp.iload_n dX12_had_21 rfl ?_
      refine Rp.callV1 M_X12_laysWays (ci := 12) dX12_had_22 mo_X12_laysWays lk_X12_467 (by decide) rfl rfl (S _ _ rfl) (Nat.le_of_ble_eq_true rfl) (Nat.le_of_ble_eq_true rfl) (lw) (fun v1 h1 p1 x1 => ?_)
      obtain ⟨rfl, F1, K1, r1⟩ := p1
      try dsimp only [Option.toList, List.cons_append, List.nil_append, List.append]
      skip
      have S1 := F1.S S
      have e45 : gI h1 100 45 = nI L.length := r1.1
      refine Rp.iload_n dX12_had_25 rfl ?_
      refine Rp.iconst (-1) dX12_had_26 (by decide) ?_
      first | ((with_reducible show Rp _ _ _ _ (.int (nI _) :: .int (nI _) :: _) _ _); refine Rp.icmp_neN (tgt := 35) dX12_had_27 (by decide) (by omega) (fun c27 => ?_) (fun c27 => ?_)) | refine Rp.icmp_ne (tgt := 35) dX12_had_27 (by decide) (fun c27 => ?_) (fun c27 => ?_)
      · skip
        exact absurd rfl c27
      · skip
        refine Rp.aload_n dX12_had_30 rfl rfl ?_
        refine Rp.getI dX12_had_31 fk_X12_455 rfl (S1 _ _ rfl) ?_
        first | rw [e45] | skip
        refine Rp.ireturn dX12_had_34 rfl ?_
        exact ⟨rfl, F1, K1⟩
    refine Rp.iload_n dX12_had_0 rfl ?_
    refine Rp.iconst (-1) dX12_had_1 (by decide) ?_
    first | ((with_reducible show Rp _ _ _ _ (.int (nI _) :: .int (nI _) :: _) _ _); refine Rp.icmp_ltN (tgt := 18) dX12_had_2 (by decide) (by omega) (fun c2 => ?_) (fun c2 => ?_)) | refine Rp.icmp_lt (tgt := 18) dX12_had_2 (by decide) (fun c2 => ?_) (fun c2 => ?_)
    · skip
      exact absurd c2 (by decide)
    · skip
      refine Rp.iload_n dX12_had_5 rfl ?_
      refine Rp.iconst (-1) dX12_had_6 (by decide) ?_
      first | ((with_reducible show Rp _ _ _ _ (.int (nI _) :: .int (nI _) :: _) _ _); refine Rp.icmp_leN (tgt := 20) dX12_had_7 (by decide) (by omega) (fun c7 => ?_) (fun c7 => ?_)) | refine Rp.icmp_le (tgt := 20) dX12_had_7 (by decide) (fun c7 => ?_) (fun c7 => ?_)
      · skip
        exact k20
      · skip
        exact absurd (by decide) c7
  · rw [if_neg d1]
    by_cases d2 : i < 0
    · rw [if_pos d2]
      have lt : i < -1 := by
        rw [i32_lt] at d2 ⊢
        rw [i32_eq] at d1
        omega
      refine Rp.iload_n dX12_had_0 rfl ?_
      refine Rp.iconst (-1) dX12_had_1 (by decide) ?_
      first | ((with_reducible show Rp _ _ _ _ (.int (nI _) :: .int (nI _) :: _) _ _); refine Rp.icmp_ltN (tgt := 18) dX12_had_2 (by decide) (by omega) (fun c2 => ?_) (fun c2 => ?_)) | refine Rp.icmp_lt (tgt := 18) dX12_had_2 (by decide) (fun c2 => ?_) (fun c2 => ?_)
      · skip
        refine Rp.iconst (-1) dX12_had_18 (by decide) ?_
        refine Rp.ireturn dX12_had_19 rfl ?_
        exact ⟨rfl, Fr.rfl', rfl⟩
      · skip
        exact absurd lt c2
    · rw [if_neg d2]
      obtain ⟨n, hn, rfl⟩ := i32_nn d2
      have nlt : ¬ nI n < -1 := by rw [i32_lt, nI_toInt hn]; omega
      have nle : ¬ nI n ≤ -1 := by rw [i32_le, nI_toInt hn]; omega
      by_cases c3 : inN p np = true
      · rw [if_pos c3]
        rw [c3] at ip
        obtain ⟨q, hq, rfl⟩ := (inN_iff (by omega)).mp c3
        rw [ix_nI hn, ix_nI (by omega)]
        have k20 : Rp (d + 88) M_X12_had 20 [some (.ref aM), some (.int (nI n)), some (.int (nI q))] [] h (fun r h' => r = some (.int (pkW L[n]? q)) ∧ Fr hwX h h' ∧ gI h' 102 = gI h 102) := by
          refine Rp.aload_n dX12_had_20 rfl rfl ?_
          refine Rp.iload_n dX12_had_21 rfl ?_
          refine Rp.callV1 M_X12_laysWays (ci := 12) dX12_had_22 mo_X12_laysWays lk_X12_467 (by decide) rfl rfl (S _ _ rfl) (Nat.le_of_ble_eq_true rfl) (Nat.le_of_ble_eq_true rfl) (lw) (fun v1 h1 p1 x1 => ?_)
          obtain ⟨rfl, F1, K1, r1⟩ := p1
          try dsimp only [Option.toList, List.cons_append, List.nil_append, List.append]
          skip
          have S1 := F1.S S
          have R1 := F1.R R (by decide)
          have e45 : gI h1 100 45 = nI L.length := r1.1
          match hL : L[n]? with
          | none =>
            have ln : L.length ≤ n := List.getElem?_eq_none_iff.mp hL
            refine Rp.iload_n dX12_had_25 rfl ?_
            refine Rp.iconst (-1) dX12_had_26 (by decide) ?_
            first | ((with_reducible show Rp _ _ _ _ (.int (nI _) :: .int (nI _) :: _) _ _); refine Rp.icmp_neN (tgt := 35) dX12_had_27 (by decide) (by omega) (fun c27 => ?_) (fun c27 => ?_)) | refine Rp.icmp_ne (tgt := 35) dX12_had_27 (by decide) (fun c27 => ?_) (fun c27 => ?_)
            · skip
              refine Rp.iload_n dX12_had_35 rfl ?_
              refine Rp.aload_n dX12_had_36 rfl rfl ?_
              refine Rp.getI dX12_had_37 fk_X12_455 rfl (S1 _ _ rfl) ?_
              first | rw [e45] | skip
              first | ((with_reducible show Rp _ _ _ _ (.int (nI _) :: .int (nI _) :: _) _ _); refine Rp.icmp_geN (tgt := 52) dX12_had_40 (by decide) (by omega) (fun c40 => ?_) (fun c40 => ?_)) | refine Rp.icmp_ge (tgt := 52) dX12_had_40 (by decide) (fun c40 => ?_) (fun c40 => ?_)
              · skip
                refine Rp.iconst (-1) dX12_had_52 (by decide) ?_
                refine Rp.ireturn dX12_had_53 rfl ?_
                exact ⟨rfl, F1, K1⟩
              · skip
                first | (exfalso; omega) | exact absurd c40 (by decide) | exact absurd (by decide) c40
            · skip
              exact absurd c27 d1
          | some W =>
            have ln := (List.getElem?_eq_some_iff.mp hL).1
            have eW : gI h1 124 q = W q := r1.2.2.1 n W hL rfl q (by omega)
            refine Rp.iload_n dX12_had_25 rfl ?_
            refine Rp.iconst (-1) dX12_had_26 (by decide) ?_
            first | ((with_reducible show Rp _ _ _ _ (.int (nI _) :: .int (nI _) :: _) _ _); refine Rp.icmp_neN (tgt := 35) dX12_had_27 (by decide) (by omega) (fun c27 => ?_) (fun c27 => ?_)) | refine Rp.icmp_ne (tgt := 35) dX12_had_27 (by decide) (fun c27 => ?_) (fun c27 => ?_)
            · skip
              refine Rp.iload_n dX12_had_35 rfl ?_
              refine Rp.aload_n dX12_had_36 rfl rfl ?_
              refine Rp.getI dX12_had_37 fk_X12_455 rfl (S1 _ _ rfl) ?_
              first | rw [e45] | rw [eW] | skip
              first | ((with_reducible show Rp _ _ _ _ (.int (nI _) :: .int (nI _) :: _) _ _); refine Rp.icmp_geN (tgt := 52) dX12_had_40 (by decide) (by omega) (fun c40 => ?_) (fun c40 => ?_)) | refine Rp.icmp_ge (tgt := 52) dX12_had_40 (by decide) (fun c40 => ?_) (fun c40 => ?_)
              · skip
                first | (exfalso; omega) | exact absurd c40 (by decide) | exact absurd (by decide) c40
              · skip
                refine Rp.aload_n dX12_had_43 rfl rfl ?_
                refine Rp.getR dX12_had_44 fk_X12_95 rfl (S1 _ _ rfl) (R1 _ _ _ rfl) ?_
                refine Rp.iload_n dX12_had_47 rfl ?_
                first | ((with_reducible show Rp _ _ _ _ (.int (nI _) :: _) _ _); refine Rp.ialoadN dX12_had_48 (S1 _ _ rfl) (by omega) ?_) | refine Rp.iaload dX12_had_48 (S1 _ _ rfl) (by first | assumption | exact vpb (by decide)) ?_
                first | rw [e45] | rw [eW] | skip
                refine Rp.goto (tgt := 53) dX12_had_49 (by decide) ?_
                refine Rp.ireturn dX12_had_53 rfl ?_
                exact ⟨rfl, F1, K1⟩
            · skip
              exact absurd c27 d1
        refine Rp.iload_n dX12_had_0 rfl ?_
        refine Rp.iconst (-1) dX12_had_1 (by decide) ?_
        first | ((with_reducible show Rp _ _ _ _ (.int (nI _) :: .int (nI _) :: _) _ _); refine Rp.icmp_ltN (tgt := 18) dX12_had_2 (by decide) (by omega) (fun c2 => ?_) (fun c2 => ?_)) | refine Rp.icmp_lt (tgt := 18) dX12_had_2 (by decide) (fun c2 => ?_) (fun c2 => ?_)
        · skip
          exact absurd c2 nlt
        · skip
          refine Rp.iload_n dX12_had_5 rfl ?_
          refine Rp.iconst (-1) dX12_had_6 (by decide) ?_
          first | ((with_reducible show Rp _ _ _ _ (.int (nI _) :: .int (nI _) :: _) _ _); refine Rp.icmp_leN (tgt := 20) dX12_had_7 (by decide) (by omega) (fun c7 => ?_) (fun c7 => ?_)) | refine Rp.icmp_le (tgt := 20) dX12_had_7 (by decide) (fun c7 => ?_) (fun c7 => ?_)
          · skip
            exact absurd c7 nle
          · skip
            refine Rp.aload_n dX12_had_10 rfl rfl ?_
            refine Rp.iload_n dX12_had_11 rfl ?_
            refine Rp.callV1 M_X12_isPerson (ci := 12) dX12_had_12 mo_X12_isPerson lk_X12_131 (by decide) rfl rfl (S _ _ rfl) (Nat.le_of_ble_eq_true rfl) (Nat.le_of_ble_eq_true rfl) (ip) (fun v1 h1 p1 x1 => ?_)
            rw [p1.1, p1.2]
            try dsimp only [Option.toList, List.cons_append, List.nil_append, List.append]
            first | ((with_reducible show Rp _ _ _ _ (.int (b2i _) :: _) _ _); refine Rp.if_neB (tgt := 20) dX12_had_15 (by decide) (fun c15 => ?_) (fun c15 => ?_)) | ((with_reducible show Rp _ _ _ _ (.int (nI _) :: _) _ _); refine Rp.if_neN (tgt := 20) dX12_had_15 (by decide) (by omega) (fun c15 => ?_) (fun c15 => ?_)) | refine Rp.if_ne (tgt := 20) dX12_had_15 (by decide) (fun c15 => ?_) (fun c15 => ?_)
            · skip
              exact k20
            · skip
              cases c15
      · rw [if_neg c3]
        rw [Bool.eq_false_iff.mpr c3] at ip
        refine Rp.iload_n dX12_had_0 rfl ?_
        refine Rp.iconst (-1) dX12_had_1 (by decide) ?_
        first | ((with_reducible show Rp _ _ _ _ (.int (nI _) :: .int (nI _) :: _) _ _); refine Rp.icmp_ltN (tgt := 18) dX12_had_2 (by decide) (by omega) (fun c2 => ?_) (fun c2 => ?_)) | refine Rp.icmp_lt (tgt := 18) dX12_had_2 (by decide) (fun c2 => ?_) (fun c2 => ?_)
        · skip
          exact absurd c2 nlt
        · skip
          refine Rp.iload_n dX12_had_5 rfl ?_
          refine Rp.iconst (-1) dX12_had_6 (by decide) ?_
          first | ((with_reducible show Rp _ _ _ _ (.int (nI _) :: .int (nI _) :: _) _ _); refine Rp.icmp_leN (tgt := 20) dX12_had_7 (by decide) (by omega) (fun c7 => ?_) (fun c7 => ?_)) | refine Rp.icmp_le (tgt := 20) dX12_had_7 (by decide) (fun c7 => ?_) (fun c7 => ?_)
          · skip
            exact absurd c7 nle
          · skip
            refine Rp.aload_n dX12_had_10 rfl rfl ?_
            refine Rp.iload_n dX12_had_11 rfl ?_
            refine Rp.callV1 M_X12_isPerson (ci := 12) dX12_had_12 mo_X12_isPerson lk_X12_131 (by decide) rfl rfl (S _ _ rfl) (Nat.le_of_ble_eq_true rfl) (Nat.le_of_ble_eq_true rfl) (ip) (fun v1 h1 p1 x1 => ?_)
            rw [p1.1, p1.2]
            try dsimp only [Option.toList, List.cons_append, List.nil_append, List.append]
            first | ((with_reducible show Rp _ _ _ _ (.int (b2i _) :: _) _ _); refine Rp.if_neB (tgt := 20) dX12_had_15 (by decide) (fun c15 => ?_) (fun c15 => ?_)) | ((with_reducible show Rp _ _ _ _ (.int (nI _) :: _) _ _); refine Rp.if_neN (tgt := 20) dX12_had_15 (by decide) (by omega) (fun c15 => ?_) (fun c15 => ?_)) | refine Rp.if_ne (tgt := 20) dX12_had_15 (by decide) (fun c15 => ?_) (fun c15 => ?_)
            · skip
              cases c15
            · skip
              refine Rp.iconst (-1) dX12_had_18 (by decide) ?_
              refine Rp.ireturn dX12_had_19 rfl ?_
              exact ⟨rfl, Fr.rfl', rfl⟩
theorem s_greater2 {a b : Nat} (ha : a < 2147483648) (hb : b < 2147483648) : Rp d M_X12_greater 0 [some (.int (nI a)), some (.int (nI b))] [] h (fun r h' => h' = h ∧ r = some (.int (nI (max a b)))) := by
  refine Rp.iload_n dX12_greater_0 rfl ?_
  refine Rp.iload_n dX12_greater_1 rfl ?_
  first | ((with_reducible show Rp _ _ _ _ (.int (nI _) :: .int (nI _) :: _) _ _); refine Rp.icmp_leN (tgt := 9) dX12_greater_2 (by decide) (by omega) (fun c2 => ?_) (fun c2 => ?_)) | refine Rp.icmp_le (tgt := 9) dX12_greater_2 (by decide) (fun c2 => ?_) (fun c2 => ?_)
  · skip
    refine Rp.iload_n dX12_greater_9 rfl ?_
    refine Rp.ireturn dX12_greater_10 rfl ?_
    refine ⟨rfl, ?_⟩
    first | rw [Nat.max_eq_right (by omega)] | rw [Nat.max_eq_left (by omega)]
  · skip
    refine Rp.iload_n dX12_greater_5 rfl ?_
    refine Rp.goto (tgt := 10) dX12_greater_6 (by decide) ?_
    refine Rp.ireturn dX12_greater_10 rfl ?_
    refine ⟨rfl, ?_⟩
    first | rw [Nat.max_eq_right (by omega)] | rw [Nat.max_eq_left (by omega)]
theorem given4 {wi : Int32} {L : List (Nat → Int32)} (S : ShOK h) (R : RfOK h) (H : RMw wi h L) (hL : L.length ≤ 720) {p : Nat} (hp : p < 6) : ∀ (m t : Nat), t + m = 8 → Rp (d + 1) M_X12_mostGiven 4 [some (.ref aM), some (.int (nI p)), some (.int (nI (mxT (fun t => cnW p t L) t))), some (.int (nI t))] [] h (fun r h' => h' = h ∧ r = some (.int (nI (mxW p L)))) := by
  intro m
  induction m with
  | zero =>
    intro t hm
    have e : t = 8 := by omega
    subst e
    refine Rp.iload_n dX12_mostGiven_4 rfl ?_
    refine Rp.bipush (nI 8) dX12_mostGiven_5 (by decide) ?_
    first | ((with_reducible show Rp _ _ _ _ (.int (nI _) :: .int (nI _) :: _) _ _); refine Rp.icmp_geN (tgt := 32) dX12_mostGiven_7 (by decide) (by omega) (fun c7 => ?_) (fun c7 => ?_)) | refine Rp.icmp_ge (tgt := 32) dX12_mostGiven_7 (by decide) (fun c7 => ?_) (fun c7 => ?_)
    · skip
      refine Rp.iload_n dX12_mostGiven_32 rfl ?_
      refine Rp.ireturn dX12_mostGiven_33 rfl ?_
      exact ⟨rfl, rfl⟩
    · skip
      first | (exfalso; omega) | exact absurd c7 (by decide) | exact absurd (by decide) c7
  | succ m ih =>
    intro t hm
    have k1 := ih (t + 1) (by omega)
    have eg : gI h 125 (8 * p + t) = nI (cnW p t L) := H.2.2.2 p t hp (by omega)
    have b1 : mxT (fun t => cnW p t L) t ≤ L.length := mxT_le t (fun u _ => cnW_le p u L)
    have b2 := cnW_le p t L
    have gr := s_greater2 d (h := h) (a := mxT (fun t => cnW p t L) t) (b := cnW p t L) (by omega) (by omega)
    refine Rp.iload_n dX12_mostGiven_4 rfl ?_
    refine Rp.bipush (nI 8) dX12_mostGiven_5 (by decide) ?_
    first | ((with_reducible show Rp _ _ _ _ (.int (nI _) :: .int (nI _) :: _) _ _); refine Rp.icmp_geN (tgt := 32) dX12_mostGiven_7 (by decide) (by omega) (fun c7 => ?_) (fun c7 => ?_)) | refine Rp.icmp_ge (tgt := 32) dX12_mostGiven_7 (by decide) (fun c7 => ?_) (fun c7 => ?_)
    · skip
      first | (exfalso; omega) | exact absurd c7 (by decide) | exact absurd (by decide) c7
    · skip
      refine Rp.iload_n dX12_mostGiven_10 rfl ?_
      refine Rp.aload_n dX12_mostGiven_11 rfl rfl ?_
      refine Rp.getR dX12_mostGiven_12 fk_X12_98 rfl (S _ _ rfl) (R _ _ _ rfl) ?_
      refine Rp.bipush (nI 8) dX12_mostGiven_15 (by decide) ?_
      refine Rp.iload_n dX12_mostGiven_17 rfl ?_
      first | ((with_reducible show Rp _ _ _ _ (.int (nI _) :: .int (nI _) :: _) _ _); refine Rp.imulN dX12_mostGiven_18 ?_) | refine Rp.imul dX12_mostGiven_18 ?_
      refine Rp.iload_n dX12_mostGiven_19 rfl ?_
      first | ((with_reducible show Rp _ _ _ _ (.int (nI _) :: .int (nI _) :: _) _ _); refine Rp.iaddN dX12_mostGiven_20 ?_) | refine Rp.iadd dX12_mostGiven_20 ?_
      first | ((with_reducible show Rp _ _ _ _ (.int (nI _) :: _) _ _); refine Rp.ialoadN dX12_mostGiven_21 (S _ _ rfl) (by omega) ?_) | refine Rp.iaload dX12_mostGiven_21 (S _ _ rfl) (by first | assumption | exact vpb (by decide)) ?_
      first | rw [eg] | skip
      refine Rp.callS2 M_X12_greater dX12_mostGiven_22 mo_X12_greater lk_X12_470 (Nat.le_of_ble_eq_true rfl) (Nat.le_of_ble_eq_true rfl) (gr) (fun v1 h1 p1 x1 => ?_)
      rw [p1.1, p1.2]
      try dsimp only [Option.toList, List.cons_append, List.nil_append, List.append]
      refine Rp.ist2 dX12_mostGiven_25 (by first | exact nl2_some rfl | exact nl2_none) (by decide) ?_
      first | ((with_reducible show Rp _ _ _ (_ :: _ :: _ :: some (.int (nI _)) :: _) _ _ _); refine Rp.inc3N (c := 1) dX12_mostGiven_26 (by first | exact nl2_some rfl | exact nl2_none) (by decide) ?_) | refine Rp.inc3 _ dX12_mostGiven_26 rfl (by first | exact nl2_some rfl | exact nl2_none) (by decide) ?_
      refine Rp.goto (tgt := 4) dX12_mostGiven_29 (by decide) ?_
      exact k1
theorem s_mostGiven {wi : Int32} {L : List (Nat → Int32)} (S : ShOK h) (R : RfOK h) (H : RMw wi h L) (hL : L.length ≤ 720) {p : Nat} (hp : p < 6) : Rp (d + 1) M_X12_mostGiven 0 [some (.ref aM), some (.int (nI p)), none, none] [] h (fun r h' => h' = h ∧ r = some (.int (nI (mxW p L)))) := by
  have k1 := given4 d S R H hL hp 8 0 (by omega)
  refine Rp.iconst (nI 0) dX12_mostGiven_0 (by decide) ?_
  refine Rp.ist2 dX12_mostGiven_1 (by first | exact nl2_some rfl | exact nl2_none) (by decide) ?_
  refine Rp.iconst (nI 0) dX12_mostGiven_2 (by decide) ?_
  refine Rp.ist3 dX12_mostGiven_3 (by first | exact nl2_some rfl | exact nl2_none) (by decide) ?_
  exact k1
/-- how a finding stands in the reference's two locals -/
def alI (o : Option (Nat × Nat)) : Int32 := match o with
  | none => 1000000
  | some (_, m) => nI m
theorem ask24 {wi : Int32} {L : List (Nat → Int32)} {K : Nat → Int32} (S : ShOK h) (R : RfOK h) (H : RMw wi h L) (hL : L.length ≤ 720) (hK : gI h 102 = K) (v1 : np ≤ 6) (hM : K 103 = nI np) (hpos : 0 < L.length) {P : Option Value → AH → Prop} (w : Int32) (kk : Rp (d + 88) M_X12_ask 81 [some (.ref aM), some (.int w), some (.int (aqI (askF K L np))), some (.int (alI (askF K L np))), some (.int (nI np))] [] h P) : ∀ (m p : Nat), p + m = np → Rp (d + 88) M_X12_ask 24 [some (.ref aM), some (.int w), some (.int (aqI (askF K L p))), some (.int (alI (askF K L p))), some (.int (nI p))] [] h P := by
  have hM1 : gI h 102 103 = nI np := by rw [hK]; exact hM
  have e45 : gI h 100 45 = nI L.length := H.1
  have gt0 : ¬ nI L.length ≤ 0 := by
    rw [i32_le, nI_toInt (by omega)]
    show ¬ ((L.length : Int) ≤ 0)
    omega
  intro m
  induction m with
  | zero =>
    intro p hm
    have e : p = np := by omega
    subst e
    refine Rp.iload dX12_ask_24 rfl ?_
    refine Rp.aload_n dX12_ask_26 rfl rfl ?_
    refine Rp.getR dX12_ask_27 fk_X12_24 rfl (S _ _ rfl) (R _ _ _ rfl) ?_
    refine Rp.bipush (nI 103) dX12_ask_30 (by decide) ?_
    first | ((with_reducible show Rp _ _ _ _ (.int (nI _) :: _) _ _); refine Rp.ialoadN dX12_ask_32 (S _ _ rfl) (by omega) ?_) | refine Rp.iaload dX12_ask_32 (S _ _ rfl) (by first | assumption | exact vpb (by decide)) ?_
    first | rw [hM1] | skip
    first | ((with_reducible show Rp _ _ _ _ (.int (nI _) :: .int (nI _) :: _) _ _); refine Rp.icmp_geN (tgt := 81) dX12_ask_33 (by decide) (by omega) (fun c33 => ?_) (fun c33 => ?_)) | refine Rp.icmp_ge (tgt := 81) dX12_ask_33 (by decide) (fun c33 => ?_) (fun c33 => ?_)
    · skip
      exact kk
    · skip
      first | (exfalso; omega) | exact absurd c33 (by decide) | exact absurd (by decide) c33
  | succ m ih =>
    intro p hm
    have k1 := ih (p + 1) (by omega)
    have hd := s_holds (d + 87) S R (q := p) (by omega)
    have mg := s_mostGiven (d + 86) S R H hL (p := p) (by omega)
    have b := mxW_le p L
    rw [askF] at k1
    by_cases c : K p = -1
    · rw [if_pos c] at k1
      rw [show gI h am_kept p = -1 by rw [show gI h am_kept = K from hK]; exact c] at hd
      refine Rp.iload dX12_ask_24 rfl ?_
      refine Rp.aload_n dX12_ask_26 rfl rfl ?_
      refine Rp.getR dX12_ask_27 fk_X12_24 rfl (S _ _ rfl) (R _ _ _ rfl) ?_
      refine Rp.bipush (nI 103) dX12_ask_30 (by decide) ?_
      first | ((with_reducible show Rp _ _ _ _ (.int (nI _) :: _) _ _); refine Rp.ialoadN dX12_ask_32 (S _ _ rfl) (by omega) ?_) | refine Rp.iaload dX12_ask_32 (S _ _ rfl) (by first | assumption | exact vpb (by decide)) ?_
      first | rw [hM1] | rw [e45] | skip
      first | ((with_reducible show Rp _ _ _ _ (.int (nI _) :: .int (nI _) :: _) _ _); refine Rp.icmp_geN (tgt := 81) dX12_ask_33 (by decide) (by omega) (fun c33 => ?_) (fun c33 => ?_)) | refine Rp.icmp_ge (tgt := 81) dX12_ask_33 (by decide) (fun c33 => ?_) (fun c33 => ?_)
      · skip
        first | (exfalso; omega) | exact absurd c33 (by decide) | exact absurd (by decide) c33
      · skip
        refine Rp.aload_n dX12_ask_36 rfl rfl ?_
        refine Rp.getI dX12_ask_37 fk_X12_455 rfl (S _ _ rfl) ?_
        first | rw [hM1] | rw [e45] | skip
        refine Rp.if_le (tgt := 81) dX12_ask_40 (by decide) (fun c40 => ?_) (fun c40 => ?_)
        · skip
          exact absurd c40 gt0
        · skip
          refine Rp.aload_n dX12_ask_43 rfl rfl ?_
          refine Rp.iload dX12_ask_44 rfl ?_
          refine Rp.callV1 M_X12_holds (ci := 12) dX12_ask_46 mo_X12_holds lk_X12_351 (by decide) rfl rfl (S _ _ rfl) (Nat.le_of_ble_eq_true rfl) (Nat.le_of_ble_eq_true rfl) (hd) (fun v1 h1 p1 x1 => ?_)
          rw [p1.1, p1.2]
          try dsimp only [Option.toList, List.cons_append, List.nil_append, List.append]
          first | ((with_reducible show Rp _ _ _ _ (.int (b2i _) :: _) _ _); refine Rp.if_eqB (tgt := 75) dX12_ask_49 (by decide) (fun c49 => ?_) (fun c49 => ?_)) | ((with_reducible show Rp _ _ _ _ (.int (nI _) :: _) _ _); refine Rp.if_eqN (tgt := 75) dX12_ask_49 (by decide) (by omega) (fun c49 => ?_) (fun c49 => ?_)) | refine Rp.if_eq (tgt := 75) dX12_ask_49 (by decide) (fun c49 => ?_) (fun c49 => ?_)
          · skip
            first | ((with_reducible show Rp _ _ _ (_ :: _ :: _ :: _ :: some (.int (nI _)) :: _) _ _ _); refine Rp.inc4N (c := 1) dX12_ask_75 (by first | exact nl2_some rfl | exact nl2_none) (by decide) ?_) | refine Rp.inc4 _ dX12_ask_75 rfl (by first | exact nl2_some rfl | exact nl2_none) (by decide) ?_
            refine Rp.goto (tgt := 24) dX12_ask_78 (by decide) ?_
            exact k1
          · skip
            exact absurd c49 (by decide)
    · rw [if_neg c] at k1
      rw [show decide (gI h am_kept p ≠ -1) = true by rw [show gI h am_kept = K from hK]; exact decide_eq_true c] at hd
      match hx : askF K L p with
      | none =>
        rw [hx] at k1
        have lt : nI (mxW p L) < 1000000 := by
          rw [i32_lt, nI_toInt (by omega)]
          show (mxW p L : Int) < 1000000
          omega
        dsimp only [alI, aqI]
        refine Rp.iload dX12_ask_24 rfl ?_
        refine Rp.aload_n dX12_ask_26 rfl rfl ?_
        refine Rp.getR dX12_ask_27 fk_X12_24 rfl (S _ _ rfl) (R _ _ _ rfl) ?_
        refine Rp.bipush (nI 103) dX12_ask_30 (by decide) ?_
        first | ((with_reducible show Rp _ _ _ _ (.int (nI _) :: _) _ _); refine Rp.ialoadN dX12_ask_32 (S _ _ rfl) (by omega) ?_) | refine Rp.iaload dX12_ask_32 (S _ _ rfl) (by first | assumption | exact vpb (by decide)) ?_
        first | rw [hM1] | rw [e45] | skip
        first | ((with_reducible show Rp _ _ _ _ (.int (nI _) :: .int (nI _) :: _) _ _); refine Rp.icmp_geN (tgt := 81) dX12_ask_33 (by decide) (by omega) (fun c33 => ?_) (fun c33 => ?_)) | refine Rp.icmp_ge (tgt := 81) dX12_ask_33 (by decide) (fun c33 => ?_) (fun c33 => ?_)
        · skip
          first | (exfalso; omega) | exact absurd c33 (by decide) | exact absurd (by decide) c33
        · skip
          refine Rp.aload_n dX12_ask_36 rfl rfl ?_
          refine Rp.getI dX12_ask_37 fk_X12_455 rfl (S _ _ rfl) ?_
          first | rw [hM1] | rw [e45] | skip
          refine Rp.if_le (tgt := 81) dX12_ask_40 (by decide) (fun c40 => ?_) (fun c40 => ?_)
          · skip
            exact absurd c40 gt0
          · skip
            refine Rp.aload_n dX12_ask_43 rfl rfl ?_
            refine Rp.iload dX12_ask_44 rfl ?_
            refine Rp.callV1 M_X12_holds (ci := 12) dX12_ask_46 mo_X12_holds lk_X12_351 (by decide) rfl rfl (S _ _ rfl) (Nat.le_of_ble_eq_true rfl) (Nat.le_of_ble_eq_true rfl) (hd) (fun v1 h1 p1 x1 => ?_)
            rw [p1.1, p1.2]
            try dsimp only [Option.toList, List.cons_append, List.nil_append, List.append]
            first | ((with_reducible show Rp _ _ _ _ (.int (b2i _) :: _) _ _); refine Rp.if_eqB (tgt := 75) dX12_ask_49 (by decide) (fun c49 => ?_) (fun c49 => ?_)) | ((with_reducible show Rp _ _ _ _ (.int (nI _) :: _) _ _); refine Rp.if_eqN (tgt := 75) dX12_ask_49 (by decide) (by omega) (fun c49 => ?_) (fun c49 => ?_)) | refine Rp.if_eq (tgt := 75) dX12_ask_49 (by decide) (fun c49 => ?_) (fun c49 => ?_)
            · skip
              cases c49
            · skip
              refine Rp.aload_n dX12_ask_52 rfl rfl ?_
              refine Rp.iload dX12_ask_53 rfl ?_
              refine Rp.callV1 M_X12_mostGiven (ci := 12) dX12_ask_55 mo_X12_mostGiven lk_X12_473 (by decide) rfl rfl (S _ _ rfl) (Nat.le_of_ble_eq_true rfl) (Nat.le_of_ble_eq_true rfl) (mg) (fun v1 h1 p1 x1 => ?_)
              rw [p1.1, p1.2]
              try dsimp only [Option.toList, List.cons_append, List.nil_append, List.append]
              refine Rp.iload_n dX12_ask_58 rfl ?_
              first | ((with_reducible show Rp _ _ _ _ (.int (nI _) :: .int (nI _) :: _) _ _); refine Rp.icmp_ltN (tgt := 65) dX12_ask_59 (by decide) (by omega) (fun c59 => ?_) (fun c59 => ?_)) | refine Rp.icmp_lt (tgt := 65) dX12_ask_59 (by decide) (fun c59 => ?_) (fun c59 => ?_)
              · skip
                refine Rp.aload_n dX12_ask_65 rfl rfl ?_
                refine Rp.iload dX12_ask_66 rfl ?_
                refine Rp.callV1 M_X12_mostGiven (ci := 12) dX12_ask_68 mo_X12_mostGiven lk_X12_473 (by decide) rfl rfl (S _ _ rfl) (Nat.le_of_ble_eq_true rfl) (Nat.le_of_ble_eq_true rfl) (mg) (fun v1 h1 p1 x1 => ?_)
                rw [p1.1, p1.2]
                try dsimp only [Option.toList, List.cons_append, List.nil_append, List.append]
                refine Rp.ist3 dX12_ask_71 (by first | exact nl2_some rfl | exact nl2_none) (by decide) ?_
                refine Rp.iload dX12_ask_72 rfl ?_
                refine Rp.ist2 dX12_ask_74 (by first | exact nl2_some rfl | exact nl2_none) (by decide) ?_
                first | ((with_reducible show Rp _ _ _ (_ :: _ :: _ :: _ :: some (.int (nI _)) :: _) _ _ _); refine Rp.inc4N (c := 1) dX12_ask_75 (by first | exact nl2_some rfl | exact nl2_none) (by decide) ?_) | refine Rp.inc4 _ dX12_ask_75 rfl (by first | exact nl2_some rfl | exact nl2_none) (by decide) ?_
                refine Rp.goto (tgt := 24) dX12_ask_78 (by decide) ?_
                exact k1
              · skip
                exact absurd lt c59
      | some (q, mm) =>
        rw [hx] at k1
        have bb := askF_b p q mm hx
        dsimp only [alI, aqI]
        dsimp only at k1
        by_cases c2 : mxW p L < mm
        · rw [if_pos c2] at k1
          refine Rp.iload dX12_ask_24 rfl ?_
          refine Rp.aload_n dX12_ask_26 rfl rfl ?_
          refine Rp.getR dX12_ask_27 fk_X12_24 rfl (S _ _ rfl) (R _ _ _ rfl) ?_
          refine Rp.bipush (nI 103) dX12_ask_30 (by decide) ?_
          first | ((with_reducible show Rp _ _ _ _ (.int (nI _) :: _) _ _); refine Rp.ialoadN dX12_ask_32 (S _ _ rfl) (by omega) ?_) | refine Rp.iaload dX12_ask_32 (S _ _ rfl) (by first | assumption | exact vpb (by decide)) ?_
          first | rw [hM1] | rw [e45] | skip
          first | ((with_reducible show Rp _ _ _ _ (.int (nI _) :: .int (nI _) :: _) _ _); refine Rp.icmp_geN (tgt := 81) dX12_ask_33 (by decide) (by omega) (fun c33 => ?_) (fun c33 => ?_)) | refine Rp.icmp_ge (tgt := 81) dX12_ask_33 (by decide) (fun c33 => ?_) (fun c33 => ?_)
          · skip
            first | (exfalso; omega) | exact absurd c33 (by decide) | exact absurd (by decide) c33
          · skip
            refine Rp.aload_n dX12_ask_36 rfl rfl ?_
            refine Rp.getI dX12_ask_37 fk_X12_455 rfl (S _ _ rfl) ?_
            first | rw [hM1] | rw [e45] | skip
            refine Rp.if_le (tgt := 81) dX12_ask_40 (by decide) (fun c40 => ?_) (fun c40 => ?_)
            · skip
              exact absurd c40 gt0
            · skip
              refine Rp.aload_n dX12_ask_43 rfl rfl ?_
              refine Rp.iload dX12_ask_44 rfl ?_
              refine Rp.callV1 M_X12_holds (ci := 12) dX12_ask_46 mo_X12_holds lk_X12_351 (by decide) rfl rfl (S _ _ rfl) (Nat.le_of_ble_eq_true rfl) (Nat.le_of_ble_eq_true rfl) (hd) (fun v1 h1 p1 x1 => ?_)
              rw [p1.1, p1.2]
              try dsimp only [Option.toList, List.cons_append, List.nil_append, List.append]
              first | ((with_reducible show Rp _ _ _ _ (.int (b2i _) :: _) _ _); refine Rp.if_eqB (tgt := 75) dX12_ask_49 (by decide) (fun c49 => ?_) (fun c49 => ?_)) | ((with_reducible show Rp _ _ _ _ (.int (nI _) :: _) _ _); refine Rp.if_eqN (tgt := 75) dX12_ask_49 (by decide) (by omega) (fun c49 => ?_) (fun c49 => ?_)) | refine Rp.if_eq (tgt := 75) dX12_ask_49 (by decide) (fun c49 => ?_) (fun c49 => ?_)
              · skip
                cases c49
              · skip
                refine Rp.aload_n dX12_ask_52 rfl rfl ?_
                refine Rp.iload dX12_ask_53 rfl ?_
                refine Rp.callV1 M_X12_mostGiven (ci := 12) dX12_ask_55 mo_X12_mostGiven lk_X12_473 (by decide) rfl rfl (S _ _ rfl) (Nat.le_of_ble_eq_true rfl) (Nat.le_of_ble_eq_true rfl) (mg) (fun v1 h1 p1 x1 => ?_)
                rw [p1.1, p1.2]
                try dsimp only [Option.toList, List.cons_append, List.nil_append, List.append]
                refine Rp.iload_n dX12_ask_58 rfl ?_
                first | ((with_reducible show Rp _ _ _ _ (.int (nI _) :: .int (nI _) :: _) _ _); refine Rp.icmp_ltN (tgt := 65) dX12_ask_59 (by decide) (by omega) (fun c59 => ?_) (fun c59 => ?_)) | refine Rp.icmp_lt (tgt := 65) dX12_ask_59 (by decide) (fun c59 => ?_) (fun c59 => ?_)
                · skip
                  refine Rp.aload_n dX12_ask_65 rfl rfl ?_
                  refine Rp.iload dX12_ask_66 rfl ?_
                  refine Rp.callV1 M_X12_mostGiven (ci := 12) dX12_ask_68 mo_X12_mostGiven lk_X12_473 (by decide) rfl rfl (S _ _ rfl) (Nat.le_of_ble_eq_true rfl) (Nat.le_of_ble_eq_true rfl) (mg) (fun v1 h1 p1 x1 => ?_)
                  rw [p1.1, p1.2]
                  try dsimp only [Option.toList, List.cons_append, List.nil_append, List.append]
                  refine Rp.ist3 dX12_ask_71 (by first | exact nl2_some rfl | exact nl2_none) (by decide) ?_
                  refine Rp.iload dX12_ask_72 rfl ?_
                  refine Rp.ist2 dX12_ask_74 (by first | exact nl2_some rfl | exact nl2_none) (by decide) ?_
                  first | ((with_reducible show Rp _ _ _ (_ :: _ :: _ :: _ :: some (.int (nI _)) :: _) _ _ _); refine Rp.inc4N (c := 1) dX12_ask_75 (by first | exact nl2_some rfl | exact nl2_none) (by decide) ?_) | refine Rp.inc4 _ dX12_ask_75 rfl (by first | exact nl2_some rfl | exact nl2_none) (by decide) ?_
                  refine Rp.goto (tgt := 24) dX12_ask_78 (by decide) ?_
                  exact k1
                · skip
                  first | (exfalso; omega) | exact absurd c59 (by decide) | exact absurd (by decide) c59
        · rw [if_neg c2] at k1
          refine Rp.iload dX12_ask_24 rfl ?_
          refine Rp.aload_n dX12_ask_26 rfl rfl ?_
          refine Rp.getR dX12_ask_27 fk_X12_24 rfl (S _ _ rfl) (R _ _ _ rfl) ?_
          refine Rp.bipush (nI 103) dX12_ask_30 (by decide) ?_
          first | ((with_reducible show Rp _ _ _ _ (.int (nI _) :: _) _ _); refine Rp.ialoadN dX12_ask_32 (S _ _ rfl) (by omega) ?_) | refine Rp.iaload dX12_ask_32 (S _ _ rfl) (by first | assumption | exact vpb (by decide)) ?_
          first | rw [hM1] | rw [e45] | skip
          first | ((with_reducible show Rp _ _ _ _ (.int (nI _) :: .int (nI _) :: _) _ _); refine Rp.icmp_geN (tgt := 81) dX12_ask_33 (by decide) (by omega) (fun c33 => ?_) (fun c33 => ?_)) | refine Rp.icmp_ge (tgt := 81) dX12_ask_33 (by decide) (fun c33 => ?_) (fun c33 => ?_)
          · skip
            first | (exfalso; omega) | exact absurd c33 (by decide) | exact absurd (by decide) c33
          · skip
            refine Rp.aload_n dX12_ask_36 rfl rfl ?_
            refine Rp.getI dX12_ask_37 fk_X12_455 rfl (S _ _ rfl) ?_
            first | rw [hM1] | rw [e45] | skip
            refine Rp.if_le (tgt := 81) dX12_ask_40 (by decide) (fun c40 => ?_) (fun c40 => ?_)
            · skip
              exact absurd c40 gt0
            · skip
              refine Rp.aload_n dX12_ask_43 rfl rfl ?_
              refine Rp.iload dX12_ask_44 rfl ?_
              refine Rp.callV1 M_X12_holds (ci := 12) dX12_ask_46 mo_X12_holds lk_X12_351 (by decide) rfl rfl (S _ _ rfl) (Nat.le_of_ble_eq_true rfl) (Nat.le_of_ble_eq_true rfl) (hd) (fun v1 h1 p1 x1 => ?_)
              rw [p1.1, p1.2]
              try dsimp only [Option.toList, List.cons_append, List.nil_append, List.append]
              first | ((with_reducible show Rp _ _ _ _ (.int (b2i _) :: _) _ _); refine Rp.if_eqB (tgt := 75) dX12_ask_49 (by decide) (fun c49 => ?_) (fun c49 => ?_)) | ((with_reducible show Rp _ _ _ _ (.int (nI _) :: _) _ _); refine Rp.if_eqN (tgt := 75) dX12_ask_49 (by decide) (by omega) (fun c49 => ?_) (fun c49 => ?_)) | refine Rp.if_eq (tgt := 75) dX12_ask_49 (by decide) (fun c49 => ?_) (fun c49 => ?_)
              · skip
                cases c49
              · skip
                refine Rp.aload_n dX12_ask_52 rfl rfl ?_
                refine Rp.iload dX12_ask_53 rfl ?_
                refine Rp.callV1 M_X12_mostGiven (ci := 12) dX12_ask_55 mo_X12_mostGiven lk_X12_473 (by decide) rfl rfl (S _ _ rfl) (Nat.le_of_ble_eq_true rfl) (Nat.le_of_ble_eq_true rfl) (mg) (fun v1 h1 p1 x1 => ?_)
                rw [p1.1, p1.2]
                try dsimp only [Option.toList, List.cons_append, List.nil_append, List.append]
                refine Rp.iload_n dX12_ask_58 rfl ?_
                first | ((with_reducible show Rp _ _ _ _ (.int (nI _) :: .int (nI _) :: _) _ _); refine Rp.icmp_ltN (tgt := 65) dX12_ask_59 (by decide) (by omega) (fun c59 => ?_) (fun c59 => ?_)) | refine Rp.icmp_lt (tgt := 65) dX12_ask_59 (by decide) (fun c59 => ?_) (fun c59 => ?_)
                · skip
                  first | (exfalso; omega) | exact absurd c59 (by decide) | exact absurd (by decide) c59
                · skip
                  refine Rp.goto (tgt := 75) dX12_ask_62 (by decide) ?_
                  first | ((with_reducible show Rp _ _ _ (_ :: _ :: _ :: _ :: some (.int (nI _)) :: _) _ _ _); refine Rp.inc4N (c := 1) dX12_ask_75 (by first | exact nl2_some rfl | exact nl2_none) (by decide) ?_) | refine Rp.inc4 _ dX12_ask_75 rfl (by first | exact nl2_some rfl | exact nl2_none) (by decide) ?_
                  refine Rp.goto (tgt := 24) dX12_ask_78 (by decide) ?_
                  exact k1
theorem s_ask (A : MBd h fl np nt nd) (hT : gI h 102 104 = nI nt) (hno : gI h 102 106 = nI no) (VTt : VT (gI h 102) no) (w : Int32) : Rp (d + 88) M_X12_ask 0 [some (.ref aM), some (.int w), none, none, none] [] h (fun r h' => r = some (.int (askA (gI h 102) np (hdR (gI h 102) fl nd np nt no) w)) ∧ Fr hwX h h' ∧ gI h' 102 = gI h 102) := by
  obtain ⟨S, R, hF, B, VDd, hD, VNn, V, hM⟩ := id A
  have v1 := V.1
  have lw := s_laysWays d A hT hno VTt (-1)
  have l7 := (hdR_cap (K := gI h 102) (fl := fl) (nd := nd) (no := no) V).2
  generalize hdR (gI h 102) fl nd np nt no = L at lw l7
  have li := s_lies (d + 87) h w (nI 0) (nI 1)
  unfold askA
  by_cases cw : inN w 2 = true
  · rw [if_pos cw]
    obtain ⟨q, hq, rfl⟩ := (inN_iff (by decide)).mp cw
    rw [ix_nI (by omega)]
    have el : decide (nI 0 ≤ nI q ∧ nI q ≤ nI 1) = true := decide_eq_true (by rw [i32_le, i32_le, nI_toInt (by omega), nI_toInt (by omega), nI_toInt (by omega)]; omega)
    rw [el] at li
    refine Rp.iload_n dX12_ask_0 rfl ?_
    refine Rp.iconst (nI 0) dX12_ask_1 (by decide) ?_
    refine Rp.iconst (nI 1) dX12_ask_2 (by decide) ?_
    refine Rp.callS3 M_X12_lies dX12_ask_3 mo_X12_lies lk_X12_117 (Nat.le_of_ble_eq_true rfl) (Nat.le_of_ble_eq_true rfl) (li) (fun v1 h1 p1 x1 => ?_)
    rw [p1.1, p1.2]
    try dsimp only [Option.toList, List.cons_append, List.nil_append, List.append]
    first | ((with_reducible show Rp _ _ _ _ (.int (b2i _) :: _) _ _); refine Rp.if_neB (tgt := 11) dX12_ask_6 (by decide) (fun c6 => ?_) (fun c6 => ?_)) | ((with_reducible show Rp _ _ _ _ (.int (nI _) :: _) _ _); refine Rp.if_neN (tgt := 11) dX12_ask_6 (by decide) (by omega) (fun c6 => ?_) (fun c6 => ?_)) | refine Rp.if_ne (tgt := 11) dX12_ask_6 (by decide) (fun c6 => ?_) (fun c6 => ?_)
    rotate_left
    · cases c6
    refine Rp.aload_n dX12_ask_11 rfl rfl ?_
    refine Rp.iconst (-1) dX12_ask_12 (by decide) ?_
    refine Rp.callV1 M_X12_laysWays (ci := 12) dX12_ask_13 mo_X12_laysWays lk_X12_467 (by decide) rfl rfl (S _ _ rfl) (Nat.le_of_ble_eq_true rfl) (Nat.le_of_ble_eq_true rfl) (lw) (fun v1 h1 p1 x1 => ?_)
    obtain ⟨rfl, F1, K1, r1⟩ := p1
    try dsimp only [Option.toList, List.cons_append, List.nil_append, List.append]
    skip
    have S1 := F1.S S
    have R1 := F1.R R (by decide)
    have e45 : gI h1 100 45 = nI L.length := r1.1
    have hM1 : gI h1 102 103 = nI np := by rw [K1]; exact hM
    by_cases c2 : L.length = 0
    · rw [if_pos c2]
      have le0 : nI L.length ≤ 0 := by rw [c2]; decide
      have k81 : ∀ x : Nat, Rp (d + 88) M_X12_ask 81 [some (.ref aM), some (.int (nI q)), some (.int (-1)), some (.int 1000000), some (.int (nI x))] [] h1 (fun r h' => r = some (.int (-1)) ∧ Fr hwX h h' ∧ gI h' 102 = gI h 102) := by
        intro x
        refine Rp.iload_n dX12_ask_81 rfl ?_
        refine Rp.iconst (-1) dX12_ask_82 (by decide) ?_
        first | ((with_reducible show Rp _ _ _ _ (.int (nI _) :: .int (nI _) :: _) _ _); refine Rp.icmp_eqN (tgt := 90) dX12_ask_83 (by decide) (by omega) (fun c83 => ?_) (fun c83 => ?_)) | refine Rp.icmp_eq (tgt := 90) dX12_ask_83 (by decide) (fun c83 => ?_) (fun c83 => ?_)
        · skip
          refine Rp.iload_n dX12_ask_90 rfl ?_
          refine Rp.goto (tgt := 95) dX12_ask_91 (by decide) ?_
          refine Rp.ireturn dX12_ask_95 rfl ?_
          exact ⟨rfl, F1, K1⟩
        · skip
          exact absurd rfl c83
      have k1 := k81 0
      by_cases n0 : np = 0
      · rw [n0] at hM1
        refine Rp.iconst (-1) dX12_ask_16 (by decide) ?_
        refine Rp.ist2 dX12_ask_17 (by first | exact nl2_some rfl | exact nl2_none) (by decide) ?_
        refine Rp.ldc dX12_ask_18 kc_X12_192 ?_
        refine Rp.ist3 dX12_ask_20 (by first | exact nl2_some rfl | exact nl2_none) (by decide) ?_
        refine Rp.iconst (nI 0) dX12_ask_21 (by decide) ?_
        refine Rp.ist4 dX12_ask_22 (by first | exact nl2_some rfl | exact nl2_none) (by decide) ?_
        refine Rp.iload dX12_ask_24 rfl ?_
        refine Rp.aload_n dX12_ask_26 rfl rfl ?_
        refine Rp.getR dX12_ask_27 fk_X12_24 rfl (S1 _ _ rfl) (R1 _ _ _ rfl) ?_
        refine Rp.bipush (nI 103) dX12_ask_30 (by decide) ?_
        first | ((with_reducible show Rp _ _ _ _ (.int (nI _) :: _) _ _); refine Rp.ialoadN dX12_ask_32 (S1 _ _ rfl) (by omega) ?_) | refine Rp.iaload dX12_ask_32 (S1 _ _ rfl) (by first | assumption | exact vpb (by decide)) ?_
        first | rw [hM1] | skip
        first | ((with_reducible show Rp _ _ _ _ (.int (nI _) :: .int (nI _) :: _) _ _); refine Rp.icmp_geN (tgt := 81) dX12_ask_33 (by decide) (by omega) (fun c33 => ?_) (fun c33 => ?_)) | refine Rp.icmp_ge (tgt := 81) dX12_ask_33 (by decide) (fun c33 => ?_) (fun c33 => ?_)
        · skip
          exact k1
        · skip
          first | (exfalso; omega) | exact absurd c33 (by decide) | exact absurd (by decide) c33
      · skip
        refine Rp.iconst (-1) dX12_ask_16 (by decide) ?_
        refine Rp.ist2 dX12_ask_17 (by first | exact nl2_some rfl | exact nl2_none) (by decide) ?_
        refine Rp.ldc dX12_ask_18 kc_X12_192 ?_
        refine Rp.ist3 dX12_ask_20 (by first | exact nl2_some rfl | exact nl2_none) (by decide) ?_
        refine Rp.iconst (nI 0) dX12_ask_21 (by decide) ?_
        refine Rp.ist4 dX12_ask_22 (by first | exact nl2_some rfl | exact nl2_none) (by decide) ?_
        refine Rp.iload dX12_ask_24 rfl ?_
        refine Rp.aload_n dX12_ask_26 rfl rfl ?_
        refine Rp.getR dX12_ask_27 fk_X12_24 rfl (S1 _ _ rfl) (R1 _ _ _ rfl) ?_
        refine Rp.bipush (nI 103) dX12_ask_30 (by decide) ?_
        first | ((with_reducible show Rp _ _ _ _ (.int (nI _) :: _) _ _); refine Rp.ialoadN dX12_ask_32 (S1 _ _ rfl) (by omega) ?_) | refine Rp.iaload dX12_ask_32 (S1 _ _ rfl) (by first | assumption | exact vpb (by decide)) ?_
        first | rw [hM1] | rw [e45] | skip
        first | ((with_reducible show Rp _ _ _ _ (.int (nI _) :: .int (nI _) :: _) _ _); refine Rp.icmp_geN (tgt := 81) dX12_ask_33 (by decide) (by omega) (fun c33 => ?_) (fun c33 => ?_)) | refine Rp.icmp_ge (tgt := 81) dX12_ask_33 (by decide) (fun c33 => ?_) (fun c33 => ?_)
        · skip
          first | (exfalso; omega) | exact absurd c33 (by decide) | exact absurd (by decide) c33
        · skip
          refine Rp.aload_n dX12_ask_36 rfl rfl ?_
          refine Rp.getI dX12_ask_37 fk_X12_455 rfl (S1 _ _ rfl) ?_
          first | rw [hM1] | rw [e45] | skip
          refine Rp.if_le (tgt := 81) dX12_ask_40 (by decide) (fun c40 => ?_) (fun c40 => ?_)
          · skip
            exact k1
          · skip
            exact absurd le0 c40
    · rw [if_neg c2]
      have k81 : Rp (d + 88) M_X12_ask 81 [some (.ref aM), some (.int (nI q)), some (.int (aqI (askF (gI h 102) L np))), some (.int (alI (askF (gI h 102) L np))), some (.int (nI np))] [] h1 (fun r h' => r = some (.int (match askF (gI h 102) L np with
        | none => -1
        | some (q', m) => if q = 0 then nI q' else nI m)) ∧ Fr hwX h h' ∧ gI h' 102 = gI h 102) := by
        match hx : askF (gI h 102) L np with
        | none =>
          dsimp only [aqI, alI]
          refine Rp.iload_n dX12_ask_81 rfl ?_
          refine Rp.iconst (-1) dX12_ask_82 (by decide) ?_
          first | ((with_reducible show Rp _ _ _ _ (.int (nI _) :: .int (nI _) :: _) _ _); refine Rp.icmp_eqN (tgt := 90) dX12_ask_83 (by decide) (by omega) (fun c83 => ?_) (fun c83 => ?_)) | refine Rp.icmp_eq (tgt := 90) dX12_ask_83 (by decide) (fun c83 => ?_) (fun c83 => ?_)
          · skip
            refine Rp.iload_n dX12_ask_90 rfl ?_
            refine Rp.goto (tgt := 95) dX12_ask_91 (by decide) ?_
            refine Rp.ireturn dX12_ask_95 rfl ?_
            exact ⟨rfl, F1, K1⟩
          · skip
            exact absurd rfl c83
        | some (q', m) =>
          have bb := askF_b np q' m hx
          have nq : ¬ nI q' = -1 := nI_m1 (by omega)
          dsimp only [aqI, alI]
          by_cases c0 : q = 0
          · subst c0
            rw [if_pos rfl]
            refine Rp.iload_n dX12_ask_81 rfl ?_
            refine Rp.iconst (-1) dX12_ask_82 (by decide) ?_
            first | ((with_reducible show Rp _ _ _ _ (.int (nI _) :: .int (nI _) :: _) _ _); refine Rp.icmp_eqN (tgt := 90) dX12_ask_83 (by decide) (by omega) (fun c83 => ?_) (fun c83 => ?_)) | refine Rp.icmp_eq (tgt := 90) dX12_ask_83 (by decide) (fun c83 => ?_) (fun c83 => ?_)
            · skip
              exact absurd c83 nq
            · skip
              refine Rp.iload_n dX12_ask_86 rfl ?_
              first | ((with_reducible show Rp _ _ _ _ (.int (b2i _) :: _) _ _); refine Rp.if_neB (tgt := 94) dX12_ask_87 (by decide) (fun c87 => ?_) (fun c87 => ?_)) | ((with_reducible show Rp _ _ _ _ (.int (nI _) :: _) _ _); refine Rp.if_neN (tgt := 94) dX12_ask_87 (by decide) (by omega) (fun c87 => ?_) (fun c87 => ?_)) | refine Rp.if_ne (tgt := 94) dX12_ask_87 (by decide) (fun c87 => ?_) (fun c87 => ?_)
              · skip
                first | (exfalso; omega) | exact absurd c87 (by decide) | exact absurd (by decide) c87
              · skip
                refine Rp.iload_n dX12_ask_90 rfl ?_
                refine Rp.goto (tgt := 95) dX12_ask_91 (by decide) ?_
                refine Rp.ireturn dX12_ask_95 rfl ?_
                exact ⟨rfl, F1, K1⟩
          · rw [if_neg c0]
            refine Rp.iload_n dX12_ask_81 rfl ?_
            refine Rp.iconst (-1) dX12_ask_82 (by decide) ?_
            first | ((with_reducible show Rp _ _ _ _ (.int (nI _) :: .int (nI _) :: _) _ _); refine Rp.icmp_eqN (tgt := 90) dX12_ask_83 (by decide) (by omega) (fun c83 => ?_) (fun c83 => ?_)) | refine Rp.icmp_eq (tgt := 90) dX12_ask_83 (by decide) (fun c83 => ?_) (fun c83 => ?_)
            · skip
              exact absurd c83 nq
            · skip
              refine Rp.iload_n dX12_ask_86 rfl ?_
              first | ((with_reducible show Rp _ _ _ _ (.int (b2i _) :: _) _ _); refine Rp.if_neB (tgt := 94) dX12_ask_87 (by decide) (fun c87 => ?_) (fun c87 => ?_)) | ((with_reducible show Rp _ _ _ _ (.int (nI _) :: _) _ _); refine Rp.if_neN (tgt := 94) dX12_ask_87 (by decide) (by omega) (fun c87 => ?_) (fun c87 => ?_)) | refine Rp.if_ne (tgt := 94) dX12_ask_87 (by decide) (fun c87 => ?_) (fun c87 => ?_)
              · skip
                refine Rp.iload_n dX12_ask_94 rfl ?_
                refine Rp.ireturn dX12_ask_95 rfl ?_
                exact ⟨rfl, F1, K1⟩
              · skip
                first | (exfalso; omega) | exact absurd c87 (by decide) | exact absurd (by decide) c87
      have k24 := ask24 d S1 R1 r1 l7 K1 V.1 hM (by omega) (nI q) k81 np 0 (by omega)
      refine Rp.iconst (-1) dX12_ask_16 (by decide) ?_
      refine Rp.ist2 dX12_ask_17 (by first | exact nl2_some rfl | exact nl2_none) (by decide) ?_
      refine Rp.ldc dX12_ask_18 kc_X12_192 ?_
      refine Rp.ist3 dX12_ask_20 (by first | exact nl2_some rfl | exact nl2_none) (by decide) ?_
      refine Rp.iconst (nI 0) dX12_ask_21 (by decide) ?_
      refine Rp.ist4 dX12_ask_22 (by first | exact nl2_some rfl | exact nl2_none) (by decide) ?_
      exact k24
  · rw [if_neg cw]
    have el : decide (nI 0 ≤ w ∧ w ≤ nI 1) = false := decide_eq_false (fun z => cw (by
      unfold inN
      rw [i32_le, i32_le, nI_toInt (by omega), nI_toInt (by omega)] at z
      exact decide_eq_true (by omega)))
    rw [el] at li
    refine Rp.iload_n dX12_ask_0 rfl ?_
    refine Rp.iconst (nI 0) dX12_ask_1 (by decide) ?_
    refine Rp.iconst (nI 1) dX12_ask_2 (by decide) ?_
    refine Rp.callS3 M_X12_lies dX12_ask_3 mo_X12_lies lk_X12_117 (Nat.le_of_ble_eq_true rfl) (Nat.le_of_ble_eq_true rfl) (li) (fun v1 h1 p1 x1 => ?_)
    rw [p1.1, p1.2]
    try dsimp only [Option.toList, List.cons_append, List.nil_append, List.append]
    first | ((with_reducible show Rp _ _ _ _ (.int (b2i _) :: _) _ _); refine Rp.if_neB (tgt := 11) dX12_ask_6 (by decide) (fun c6 => ?_) (fun c6 => ?_)) | ((with_reducible show Rp _ _ _ _ (.int (nI _) :: _) _ _); refine Rp.if_neN (tgt := 11) dX12_ask_6 (by decide) (by omega) (fun c6 => ?_) (fun c6 => ?_)) | refine Rp.if_ne (tgt := 11) dX12_ask_6 (by decide) (fun c6 => ?_) (fun c6 => ?_)
    · skip
      cases c6
    · skip
      refine Rp.iconst (-1) dX12_ask_9 (by decide) ?_
      refine Rp.ireturn dX12_ask_10 rfl ?_
      exact ⟨rfl, Fr.rfl', rfl⟩
end Mk
