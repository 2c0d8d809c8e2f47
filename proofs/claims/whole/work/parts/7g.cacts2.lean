def canS (K : Nat → Int32) (fl : Option (List CLE)) (p q : Nat) : Bool := decide (p ≠ q) && decide (K p ≠ -1) && decide (K q ≠ -1) && !oBr K fl p (ix (K q)) && !oBr K fl q (ix (K p))
def swR (K : Nat → Int32) (fl : Option (List CLE)) (np : Nat) (p q : Int32) : Int32 × AC := if (inN p np && inN q np) = true then (if canS K fl (ix p) (ix q) = true then (K (ix q), some (1, ix p, ix q)) else (-nI 3, none)) else (-nI 2, none)
def dpR (K : Nat → Int32) (np : Nat) (p : Int32) : Int32 × AC := if inN p np = true then (if K (ix p) = -1 then (-nI 3, none) else (K (ix p), some (2, ix (K (ix p)), ix p))) else (-nI 2, none)
def tkR (K : Nat → Int32) : Int32 × AC := if K 6 = nI 999 then (-nI 3, none) else (K 6 + nI 1, some (3, 0, 0))
section Act2
variable (d : Nat) {h : AH} {b : Nat} {K : Nat → Int32} {fl : Option (List CLE)} {np nt : Nat} {E : List Int32}
theorem t_giveUp (J : JS h b K fl) (M : HM h b K np nt) (L : LOG h b E) (p : Int32) : Rp (d + 3) M_X0_giveUp 0 [some (.ref 45), some (.ref b), some (.int p), none] [] h (AcQ h b K fl np nt E (dpR K np p)) := by
  obtain ⟨⟨v1, v2, v3, v4⟩, A, m3, m4, m5, m6⟩ := M
  have M : HM h b K np nt := ⟨⟨v1, v2, v3, v4⟩, A, m3, m4, m5, m6⟩
  have hb : b ≤ 17 := by have := J.2.2.1.1; omega
  have q2 := t_isPerson (d + 2) (k := b) (A.1 0 _ rfl) p v1 m3
  unfold dpR
  by_cases e2 : inN p np = true
  · rw [e2] at q2
    rw [if_pos e2]
    obtain ⟨w, hw, rfl⟩ := (inN_iff (by omega)).mp e2
    rw [ix_nI (by omega)]
    have eh := m5 w (by omega)
    by_cases c1 : K w = -1
    · rw [if_pos c1]
      rw [c1] at eh
      refine Rp.aload_n dX0_giveUp_0 rfl rfl ?_
      refine Rp.iload_n dX0_giveUp_1 rfl ?_
      refine Rp.callV1 M_X2_isPerson (ci := 2) dX0_giveUp_2 mo_X2_isPerson lk_X0_21 (by decide) rfl rfl (A.1 0 _ rfl) (Nat.le_of_ble_eq_true rfl) (Nat.le_of_ble_eq_true rfl) (q2) (fun v1 h1 p1 x1 => ?_)
      rw [p1.1, p1.2]
      try dsimp only [Option.toList, List.cons_append, List.nil_append, List.append]
      first | ((with_reducible show Rp _ _ _ _ (.int (b2i _) :: _) _ _); refine Rp.if_neB (tgt := 11) dX0_giveUp_5 (by decide) (fun c5 => ?_) (fun c5 => ?_)) | ((with_reducible show Rp _ _ _ _ (.int (nI _) :: _) _ _); refine Rp.if_neN (tgt := 11) dX0_giveUp_5 (by decide) (by omega) (fun c5 => ?_) (fun c5 => ?_)) | refine Rp.if_ne (tgt := 11) dX0_giveUp_5 (by decide) (fun c5 => ?_) (fun c5 => ?_)
      · skip
        refine Rp.aload_n dX0_giveUp_11 rfl rfl ?_
        refine Rp.getR dX0_giveUp_12 fk_X0_24 rfl (A.1 0 _ rfl) (A.2 0 3 3 rfl) ?_
        refine Rp.iload_n dX0_giveUp_15 rfl ?_
        first | ((with_reducible show Rp _ _ _ _ (.int (nI _) :: _) _ _); refine Rp.ialoadN dX0_giveUp_16 (A.1 3 _ rfl) (by omega) ?_) | refine Rp.iaload dX0_giveUp_16 (A.1 3 _ rfl) (by first | assumption | exact vpb (by decide)) ?_
        first | rw [eh] | skip
        refine Rp.ist3 dX0_giveUp_17 (by first | exact nl2_some rfl | exact nl2_none) (by decide) ?_
        refine Rp.iload_n dX0_giveUp_18 rfl ?_
        refine Rp.iconst (-1) dX0_giveUp_19 (by decide) ?_
        first | ((with_reducible show Rp _ _ _ _ (.int (nI _) :: .int (nI _) :: _) _ _); refine Rp.icmp_neN (tgt := 26) dX0_giveUp_20 (by decide) (by omega) (fun c20 => ?_) (fun c20 => ?_)) | refine Rp.icmp_ne (tgt := 26) dX0_giveUp_20 (by decide) (fun c20 => ?_) (fun c20 => ?_)
        · skip
          exact absurd rfl c20
        · skip
          refine Rp.bipush (-3) dX0_giveUp_23 (by decide) ?_
          refine Rp.ireturn dX0_giveUp_25 rfl ?_
          exact AcQ_no hb M L Fr.rfl' J
      · skip
        cases c5
    · rw [if_neg c1]
      obtain ⟨u, hu, eu⟩ := ((v3 w (by omega)).resolve_left c1).2
      rw [eu] at eh c1
      rw [eu, ix_nI (by omega)]
      have gv := t_ungive (d + 2) A (t := u) (p := w) (by omega) (by omega)
      have M2 := M.ungive (t := u) (p := w) hw hu eu
      have F2 : Fr (hX b) h (sI (sI h (b + 7) u (-1)) (b + 3) w (-1)) := (Fr.rfl'.sI (by unfold hX; simp)).sI (by unfold hX; simp)
      have L2 : LOG (sI (sI h (b + 7) u (-1)) (b + 3) w (-1)) b E := ⟨L.1, by rw [gI_ne _ _ _ _ (by omega), gI_ne _ _ _ _ (by omega)]; exact L.2.1, fun j x hj => by rw [gI_ne _ _ _ _ (by omega), gI_ne _ _ _ _ (by omega)]; exact L.2.2 j x hj⟩
      have A2 := M2.2.1
      have ad := t_addL (d + 1) A2 L2 (o := 2) (f := u) (s := w) (by decide) (by omega) (by omega)
      refine Rp.aload_n dX0_giveUp_0 rfl rfl ?_
      refine Rp.iload_n dX0_giveUp_1 rfl ?_
      refine Rp.callV1 M_X2_isPerson (ci := 2) dX0_giveUp_2 mo_X2_isPerson lk_X0_21 (by decide) rfl rfl (A.1 0 _ rfl) (Nat.le_of_ble_eq_true rfl) (Nat.le_of_ble_eq_true rfl) (q2) (fun v1 h1 p1 x1 => ?_)
      rw [p1.1, p1.2]
      try dsimp only [Option.toList, List.cons_append, List.nil_append, List.append]
      first | ((with_reducible show Rp _ _ _ _ (.int (b2i _) :: _) _ _); refine Rp.if_neB (tgt := 11) dX0_giveUp_5 (by decide) (fun c5 => ?_) (fun c5 => ?_)) | ((with_reducible show Rp _ _ _ _ (.int (nI _) :: _) _ _); refine Rp.if_neN (tgt := 11) dX0_giveUp_5 (by decide) (by omega) (fun c5 => ?_) (fun c5 => ?_)) | refine Rp.if_ne (tgt := 11) dX0_giveUp_5 (by decide) (fun c5 => ?_) (fun c5 => ?_)
      rotate_left
      · cases c5
      refine Rp.aload_n dX0_giveUp_11 rfl rfl ?_
      refine Rp.getR dX0_giveUp_12 fk_X0_24 rfl (A.1 0 _ rfl) (A.2 0 3 3 rfl) ?_
      refine Rp.iload_n dX0_giveUp_15 rfl ?_
      first | ((with_reducible show Rp _ _ _ _ (.int (nI _) :: _) _ _); refine Rp.ialoadN dX0_giveUp_16 (A.1 3 _ rfl) (by omega) ?_) | refine Rp.iaload dX0_giveUp_16 (A.1 3 _ rfl) (by first | assumption | exact vpb (by decide)) ?_
      first | rw [eh] | skip
      refine Rp.ist3 dX0_giveUp_17 (by first | exact nl2_some rfl | exact nl2_none) (by decide) ?_
      refine Rp.iload_n dX0_giveUp_18 rfl ?_
      refine Rp.iconst (-1) dX0_giveUp_19 (by decide) ?_
      first | ((with_reducible show Rp _ _ _ _ (.int (nI _) :: .int (nI _) :: _) _ _); refine Rp.icmp_neN (tgt := 26) dX0_giveUp_20 (by decide) (by omega) (fun c20 => ?_) (fun c20 => ?_)) | refine Rp.icmp_ne (tgt := 26) dX0_giveUp_20 (by decide) (fun c20 => ?_) (fun c20 => ?_)
      rotate_left
      · exact absurd c20 c1
      refine Rp.aload_n dX0_giveUp_26 rfl rfl ?_
      refine Rp.iload_n dX0_giveUp_27 rfl ?_
      refine Rp.iload_n dX0_giveUp_28 rfl ?_
      refine Rp.callV2 M_X2_ungive (ci := 2) dX0_giveUp_29 mo_X2_ungive lk_X0_57 (by decide) rfl rfl (A.1 0 _ rfl) (Nat.le_of_ble_eq_true rfl) (Nat.le_of_ble_eq_true rfl) (gv) (fun v1 h1 p1 x1 => ?_)
      rw [p1.1, p1.2]
      try dsimp only [Option.toList, List.cons_append, List.nil_append, List.append]
      refine Rp.aload_n dX0_giveUp_32 rfl rfl ?_
      refine Rp.getR dX0_giveUp_33 fk_X0_41 rfl (A2.1 0 _ rfl) (A2.2 0 19 14 rfl) ?_
      refine Rp.iconst (nI 2) dX0_giveUp_36 (by decide) ?_
      refine Rp.iload_n dX0_giveUp_37 rfl ?_
      refine Rp.iload_n dX0_giveUp_38 rfl ?_
      refine Rp.callV3 M_X4_add (ci := 4) dX0_giveUp_39 mo_X4_add lk_X0_45 (by decide) rfl rfl (A2.1 14 _ rfl) (Nat.le_of_ble_eq_true rfl) (Nat.le_of_ble_eq_true rfl) (ad) (fun v1 h1 p1 x1 => ?_)
      obtain ⟨rfl, F3, L3⟩ := p1
      try dsimp only [Option.toList, List.cons_append, List.nil_append, List.append]
      skip
      have F4 := F2.trans (hX_l F3)
      have J4 := (J.fh F4).congr (K' := upK K w (-1)) (fun j hj => by unfold upK; rw [if_neg (by omega)])
      have M4 := M2.fl F3
      refine Rp.iload_n dX0_giveUp_42 rfl ?_
      refine Rp.ireturn dX0_giveUp_43 rfl ?_
      exact ⟨rfl, aX_h F4, J4, M4, L3⟩
  · have e2 : inN p np = false := Bool.eq_false_iff.mpr e2
    rw [e2] at q2
    rw [if_neg (by rw [e2]; decide)]
    refine Rp.aload_n dX0_giveUp_0 rfl rfl ?_
    refine Rp.iload_n dX0_giveUp_1 rfl ?_
    refine Rp.callV1 M_X2_isPerson (ci := 2) dX0_giveUp_2 mo_X2_isPerson lk_X0_21 (by decide) rfl rfl (A.1 0 _ rfl) (Nat.le_of_ble_eq_true rfl) (Nat.le_of_ble_eq_true rfl) (q2) (fun v1 h1 p1 x1 => ?_)
    rw [p1.1, p1.2]
    try dsimp only [Option.toList, List.cons_append, List.nil_append, List.append]
    first | ((with_reducible show Rp _ _ _ _ (.int (b2i _) :: _) _ _); refine Rp.if_neB (tgt := 11) dX0_giveUp_5 (by decide) (fun c5 => ?_) (fun c5 => ?_)) | ((with_reducible show Rp _ _ _ _ (.int (nI _) :: _) _ _); refine Rp.if_neN (tgt := 11) dX0_giveUp_5 (by decide) (by omega) (fun c5 => ?_) (fun c5 => ?_)) | refine Rp.if_ne (tgt := 11) dX0_giveUp_5 (by decide) (fun c5 => ?_) (fun c5 => ?_)
    · skip
      cases c5
    · skip
      refine Rp.bipush (-2) dX0_giveUp_8 (by decide) ?_
      refine Rp.ireturn dX0_giveUp_10 rfl ?_
      exact AcQ_no hb M L Fr.rfl' J
theorem t_exchange (S : ShOK h) (R : RfOK h) (J : JS h b K fl) (B : KB K) (M : HM h b K np nt) (L : LOG h b E) (p q : Int32) : Rp (d + 3) M_X0_exchange 0 [some (.ref 45), some (.ref b), some (.int p), some (.int q), none, none] [] h (AcQ h b K fl np nt E (swR K fl np p q)) := by
  obtain ⟨⟨v1, v2, v3, v4⟩, A, m3, m4, m5, m6⟩ := M
  have M : HM h b K np nt := ⟨⟨v1, v2, v3, v4⟩, A, m3, m4, m5, m6⟩
  have hb : b ≤ 17 := by have := J.2.2.1.1; omega
  have q1 := t_isPerson (d + 2) (k := b) (A.1 0 _ rfl) p v1 m3
  have q2 := t_isPerson (d + 2) (k := b) (A.1 0 _ rfl) q v1 m3
  unfold swR
  by_cases e1 : inN p np = true
  · rw [e1] at q1
    by_cases e2 : inN q np = true
    · rw [e2] at q2
      rw [if_pos (by rw [e1, e2]; rfl)]
      obtain ⟨w, hw, rfl⟩ := (inN_iff (by omega)).mp e1
      obtain ⟨x, hx, rfl⟩ := (inN_iff (by omega)).mp e2
      rw [ix_nI (by omega), ix_nI (by omega)]
      have ew := m5 w (by omega)
      have ex := m5 x (by omega)
      by_cases c0 : w = x
      · subst c0
        rw [if_neg (show ¬ canS K fl w w = true by unfold canS; simp)]
        refine Rp.aload_n dX0_exchange_0 rfl rfl ?_
        refine Rp.iload_n dX0_exchange_1 rfl ?_
        refine Rp.callV1 M_X2_isPerson (ci := 2) dX0_exchange_2 mo_X2_isPerson lk_X0_21 (by decide) rfl rfl (A.1 0 _ rfl) (Nat.le_of_ble_eq_true rfl) (Nat.le_of_ble_eq_true rfl) (q1) (fun v1 h1 p1 x1 => ?_)
        rw [p1.1, p1.2]
        try dsimp only [Option.toList, List.cons_append, List.nil_append, List.append]
        first | ((with_reducible show Rp _ _ _ _ (.int (b2i _) :: _) _ _); refine Rp.if_eqB (tgt := 16) dX0_exchange_5 (by decide) (fun c5 => ?_) (fun c5 => ?_)) | ((with_reducible show Rp _ _ _ _ (.int (nI _) :: _) _ _); refine Rp.if_eqN (tgt := 16) dX0_exchange_5 (by decide) (by omega) (fun c5 => ?_) (fun c5 => ?_)) | refine Rp.if_eq (tgt := 16) dX0_exchange_5 (by decide) (fun c5 => ?_) (fun c5 => ?_)
        · skip
          cases c5
        · skip
          refine Rp.aload_n dX0_exchange_8 rfl rfl ?_
          refine Rp.iload_n dX0_exchange_9 rfl ?_
          refine Rp.callV1 M_X2_isPerson (ci := 2) dX0_exchange_10 mo_X2_isPerson lk_X0_21 (by decide) rfl rfl (A.1 0 _ rfl) (Nat.le_of_ble_eq_true rfl) (Nat.le_of_ble_eq_true rfl) (q2) (fun v1 h1 p1 x1 => ?_)
          rw [p1.1, p1.2]
          try dsimp only [Option.toList, List.cons_append, List.nil_append, List.append]
          first | ((with_reducible show Rp _ _ _ _ (.int (b2i _) :: _) _ _); refine Rp.if_neB (tgt := 19) dX0_exchange_13 (by decide) (fun c13 => ?_) (fun c13 => ?_)) | ((with_reducible show Rp _ _ _ _ (.int (nI _) :: _) _ _); refine Rp.if_neN (tgt := 19) dX0_exchange_13 (by decide) (by omega) (fun c13 => ?_) (fun c13 => ?_)) | refine Rp.if_ne (tgt := 19) dX0_exchange_13 (by decide) (fun c13 => ?_) (fun c13 => ?_)
          · skip
            refine Rp.aload_n dX0_exchange_19 rfl rfl ?_
            refine Rp.getR dX0_exchange_20 fk_X0_24 rfl (A.1 0 _ rfl) (A.2 0 3 3 rfl) ?_
            refine Rp.iload_n dX0_exchange_23 rfl ?_
            first | ((with_reducible show Rp _ _ _ _ (.int (nI _) :: _) _ _); refine Rp.ialoadN dX0_exchange_24 (A.1 3 _ rfl) (by omega) ?_) | refine Rp.iaload dX0_exchange_24 (A.1 3 _ rfl) (by first | assumption | exact vpb (by decide)) ?_
            first | rw [ew] | skip
            refine Rp.ist4 dX0_exchange_25 (by first | exact nl2_some rfl | exact nl2_none) (by decide) ?_
            refine Rp.aload_n dX0_exchange_27 rfl rfl ?_
            refine Rp.getR dX0_exchange_28 fk_X0_24 rfl (A.1 0 _ rfl) (A.2 0 3 3 rfl) ?_
            refine Rp.iload_n dX0_exchange_31 rfl ?_
            first | ((with_reducible show Rp _ _ _ _ (.int (nI _) :: _) _ _); refine Rp.ialoadN dX0_exchange_32 (A.1 3 _ rfl) (by omega) ?_) | refine Rp.iaload dX0_exchange_32 (A.1 3 _ rfl) (by first | assumption | exact vpb (by decide)) ?_
            first | rw [ew] | skip
            refine Rp.ist5 dX0_exchange_33 (by first | exact nl2_some rfl | exact nl2_none) (by decide) ?_
            refine Rp.iload_n dX0_exchange_35 rfl ?_
            refine Rp.iload_n dX0_exchange_36 rfl ?_
            first | ((with_reducible show Rp _ _ _ _ (.int (nI _) :: .int (nI _) :: _) _ _); refine Rp.icmp_eqN (tgt := 52) dX0_exchange_37 (by decide) (by omega) (fun c37 => ?_) (fun c37 => ?_)) | refine Rp.icmp_eq (tgt := 52) dX0_exchange_37 (by decide) (fun c37 => ?_) (fun c37 => ?_)
            · skip
              refine Rp.bipush (-3) dX0_exchange_52 (by decide) ?_
              refine Rp.ireturn dX0_exchange_54 rfl ?_
              exact AcQ_no hb M L Fr.rfl' J
            · skip
              first | (exfalso; omega) | exact absurd c37 (by decide) | exact absurd (by decide) c37
          · skip
            cases c13
      · by_cases c1 : K w = -1
        · rw [if_neg (show ¬ canS K fl w x = true by unfold canS; rw [c1]; simp)]
          rw [c1] at ew
          refine Rp.aload_n dX0_exchange_0 rfl rfl ?_
          refine Rp.iload_n dX0_exchange_1 rfl ?_
          refine Rp.callV1 M_X2_isPerson (ci := 2) dX0_exchange_2 mo_X2_isPerson lk_X0_21 (by decide) rfl rfl (A.1 0 _ rfl) (Nat.le_of_ble_eq_true rfl) (Nat.le_of_ble_eq_true rfl) (q1) (fun v1 h1 p1 x1 => ?_)
          rw [p1.1, p1.2]
          try dsimp only [Option.toList, List.cons_append, List.nil_append, List.append]
          first | ((with_reducible show Rp _ _ _ _ (.int (b2i _) :: _) _ _); refine Rp.if_eqB (tgt := 16) dX0_exchange_5 (by decide) (fun c5 => ?_) (fun c5 => ?_)) | ((with_reducible show Rp _ _ _ _ (.int (nI _) :: _) _ _); refine Rp.if_eqN (tgt := 16) dX0_exchange_5 (by decide) (by omega) (fun c5 => ?_) (fun c5 => ?_)) | refine Rp.if_eq (tgt := 16) dX0_exchange_5 (by decide) (fun c5 => ?_) (fun c5 => ?_)
          · skip
            cases c5
          · skip
            refine Rp.aload_n dX0_exchange_8 rfl rfl ?_
            refine Rp.iload_n dX0_exchange_9 rfl ?_
            refine Rp.callV1 M_X2_isPerson (ci := 2) dX0_exchange_10 mo_X2_isPerson lk_X0_21 (by decide) rfl rfl (A.1 0 _ rfl) (Nat.le_of_ble_eq_true rfl) (Nat.le_of_ble_eq_true rfl) (q2) (fun v1 h1 p1 x1 => ?_)
            rw [p1.1, p1.2]
            try dsimp only [Option.toList, List.cons_append, List.nil_append, List.append]
            first | ((with_reducible show Rp _ _ _ _ (.int (b2i _) :: _) _ _); refine Rp.if_neB (tgt := 19) dX0_exchange_13 (by decide) (fun c13 => ?_) (fun c13 => ?_)) | ((with_reducible show Rp _ _ _ _ (.int (nI _) :: _) _ _); refine Rp.if_neN (tgt := 19) dX0_exchange_13 (by decide) (by omega) (fun c13 => ?_) (fun c13 => ?_)) | refine Rp.if_ne (tgt := 19) dX0_exchange_13 (by decide) (fun c13 => ?_) (fun c13 => ?_)
            · skip
              refine Rp.aload_n dX0_exchange_19 rfl rfl ?_
              refine Rp.getR dX0_exchange_20 fk_X0_24 rfl (A.1 0 _ rfl) (A.2 0 3 3 rfl) ?_
              refine Rp.iload_n dX0_exchange_23 rfl ?_
              first | ((with_reducible show Rp _ _ _ _ (.int (nI _) :: _) _ _); refine Rp.ialoadN dX0_exchange_24 (A.1 3 _ rfl) (by omega) ?_) | refine Rp.iaload dX0_exchange_24 (A.1 3 _ rfl) (by first | assumption | exact vpb (by decide)) ?_
              first | rw [ew] | rw [ex] | skip
              refine Rp.ist4 dX0_exchange_25 (by first | exact nl2_some rfl | exact nl2_none) (by decide) ?_
              refine Rp.aload_n dX0_exchange_27 rfl rfl ?_
              refine Rp.getR dX0_exchange_28 fk_X0_24 rfl (A.1 0 _ rfl) (A.2 0 3 3 rfl) ?_
              refine Rp.iload_n dX0_exchange_31 rfl ?_
              first | ((with_reducible show Rp _ _ _ _ (.int (nI _) :: _) _ _); refine Rp.ialoadN dX0_exchange_32 (A.1 3 _ rfl) (by omega) ?_) | refine Rp.iaload dX0_exchange_32 (A.1 3 _ rfl) (by first | assumption | exact vpb (by decide)) ?_
              first | rw [ew] | rw [ex] | skip
              refine Rp.ist5 dX0_exchange_33 (by first | exact nl2_some rfl | exact nl2_none) (by decide) ?_
              refine Rp.iload_n dX0_exchange_35 rfl ?_
              refine Rp.iload_n dX0_exchange_36 rfl ?_
              first | ((with_reducible show Rp _ _ _ _ (.int (nI _) :: .int (nI _) :: _) _ _); refine Rp.icmp_eqN (tgt := 52) dX0_exchange_37 (by decide) (by omega) (fun c37 => ?_) (fun c37 => ?_)) | refine Rp.icmp_eq (tgt := 52) dX0_exchange_37 (by decide) (fun c37 => ?_) (fun c37 => ?_)
              · skip
                first | (exfalso; omega) | exact absurd c37 (by decide) | exact absurd (by decide) c37
              · skip
                refine Rp.iload dX0_exchange_40 rfl ?_
                refine Rp.iconst (-1) dX0_exchange_42 (by decide) ?_
                first | ((with_reducible show Rp _ _ _ _ (.int (nI _) :: .int (nI _) :: _) _ _); refine Rp.icmp_eqN (tgt := 52) dX0_exchange_43 (by decide) (by omega) (fun c43 => ?_) (fun c43 => ?_)) | refine Rp.icmp_eq (tgt := 52) dX0_exchange_43 (by decide) (fun c43 => ?_) (fun c43 => ?_)
                · skip
                  refine Rp.bipush (-3) dX0_exchange_52 (by decide) ?_
                  refine Rp.ireturn dX0_exchange_54 rfl ?_
                  exact AcQ_no hb M L Fr.rfl' J
                · skip
                  exact absurd rfl c43
            · skip
              cases c13
        · by_cases c2 : K x = -1
          · rw [if_neg (show ¬ canS K fl w x = true by unfold canS; rw [c2]; simp)]
            rw [c2] at ex
            refine Rp.aload_n dX0_exchange_0 rfl rfl ?_
            refine Rp.iload_n dX0_exchange_1 rfl ?_
            refine Rp.callV1 M_X2_isPerson (ci := 2) dX0_exchange_2 mo_X2_isPerson lk_X0_21 (by decide) rfl rfl (A.1 0 _ rfl) (Nat.le_of_ble_eq_true rfl) (Nat.le_of_ble_eq_true rfl) (q1) (fun v1 h1 p1 x1 => ?_)
            rw [p1.1, p1.2]
            try dsimp only [Option.toList, List.cons_append, List.nil_append, List.append]
            first | ((with_reducible show Rp _ _ _ _ (.int (b2i _) :: _) _ _); refine Rp.if_eqB (tgt := 16) dX0_exchange_5 (by decide) (fun c5 => ?_) (fun c5 => ?_)) | ((with_reducible show Rp _ _ _ _ (.int (nI _) :: _) _ _); refine Rp.if_eqN (tgt := 16) dX0_exchange_5 (by decide) (by omega) (fun c5 => ?_) (fun c5 => ?_)) | refine Rp.if_eq (tgt := 16) dX0_exchange_5 (by decide) (fun c5 => ?_) (fun c5 => ?_)
            · skip
              cases c5
            · skip
              refine Rp.aload_n dX0_exchange_8 rfl rfl ?_
              refine Rp.iload_n dX0_exchange_9 rfl ?_
              refine Rp.callV1 M_X2_isPerson (ci := 2) dX0_exchange_10 mo_X2_isPerson lk_X0_21 (by decide) rfl rfl (A.1 0 _ rfl) (Nat.le_of_ble_eq_true rfl) (Nat.le_of_ble_eq_true rfl) (q2) (fun v1 h1 p1 x1 => ?_)
              rw [p1.1, p1.2]
              try dsimp only [Option.toList, List.cons_append, List.nil_append, List.append]
              first | ((with_reducible show Rp _ _ _ _ (.int (b2i _) :: _) _ _); refine Rp.if_neB (tgt := 19) dX0_exchange_13 (by decide) (fun c13 => ?_) (fun c13 => ?_)) | ((with_reducible show Rp _ _ _ _ (.int (nI _) :: _) _ _); refine Rp.if_neN (tgt := 19) dX0_exchange_13 (by decide) (by omega) (fun c13 => ?_) (fun c13 => ?_)) | refine Rp.if_ne (tgt := 19) dX0_exchange_13 (by decide) (fun c13 => ?_) (fun c13 => ?_)
              · skip
                refine Rp.aload_n dX0_exchange_19 rfl rfl ?_
                refine Rp.getR dX0_exchange_20 fk_X0_24 rfl (A.1 0 _ rfl) (A.2 0 3 3 rfl) ?_
                refine Rp.iload_n dX0_exchange_23 rfl ?_
                first | ((with_reducible show Rp _ _ _ _ (.int (nI _) :: _) _ _); refine Rp.ialoadN dX0_exchange_24 (A.1 3 _ rfl) (by omega) ?_) | refine Rp.iaload dX0_exchange_24 (A.1 3 _ rfl) (by first | assumption | exact vpb (by decide)) ?_
                first | rw [ew] | rw [ex] | skip
                refine Rp.ist4 dX0_exchange_25 (by first | exact nl2_some rfl | exact nl2_none) (by decide) ?_
                refine Rp.aload_n dX0_exchange_27 rfl rfl ?_
                refine Rp.getR dX0_exchange_28 fk_X0_24 rfl (A.1 0 _ rfl) (A.2 0 3 3 rfl) ?_
                refine Rp.iload_n dX0_exchange_31 rfl ?_
                first | ((with_reducible show Rp _ _ _ _ (.int (nI _) :: _) _ _); refine Rp.ialoadN dX0_exchange_32 (A.1 3 _ rfl) (by omega) ?_) | refine Rp.iaload dX0_exchange_32 (A.1 3 _ rfl) (by first | assumption | exact vpb (by decide)) ?_
                first | rw [ew] | rw [ex] | skip
                refine Rp.ist5 dX0_exchange_33 (by first | exact nl2_some rfl | exact nl2_none) (by decide) ?_
                refine Rp.iload_n dX0_exchange_35 rfl ?_
                refine Rp.iload_n dX0_exchange_36 rfl ?_
                first | ((with_reducible show Rp _ _ _ _ (.int (nI _) :: .int (nI _) :: _) _ _); refine Rp.icmp_eqN (tgt := 52) dX0_exchange_37 (by decide) (by omega) (fun c37 => ?_) (fun c37 => ?_)) | refine Rp.icmp_eq (tgt := 52) dX0_exchange_37 (by decide) (fun c37 => ?_) (fun c37 => ?_)
                · skip
                  first | (exfalso; omega) | exact absurd c37 (by decide) | exact absurd (by decide) c37
                · skip
                  refine Rp.iload dX0_exchange_40 rfl ?_
                  refine Rp.iconst (-1) dX0_exchange_42 (by decide) ?_
                  first | ((with_reducible show Rp _ _ _ _ (.int (nI _) :: .int (nI _) :: _) _ _); refine Rp.icmp_eqN (tgt := 52) dX0_exchange_43 (by decide) (by omega) (fun c43 => ?_) (fun c43 => ?_)) | refine Rp.icmp_eq (tgt := 52) dX0_exchange_43 (by decide) (fun c43 => ?_) (fun c43 => ?_)
                  · skip
                    exact absurd c43 c1
                  · skip
                    refine Rp.iload dX0_exchange_46 rfl ?_
                    refine Rp.iconst (-1) dX0_exchange_48 (by decide) ?_
                    first | ((with_reducible show Rp _ _ _ _ (.int (nI _) :: .int (nI _) :: _) _ _); refine Rp.icmp_neN (tgt := 55) dX0_exchange_49 (by decide) (by omega) (fun c49 => ?_) (fun c49 => ?_)) | refine Rp.icmp_ne (tgt := 55) dX0_exchange_49 (by decide) (fun c49 => ?_) (fun c49 => ?_)
                    · skip
                      exact absurd rfl c49
                    · skip
                      refine Rp.bipush (-3) dX0_exchange_52 (by decide) ?_
                      refine Rp.ireturn dX0_exchange_54 rfl ?_
                      exact AcQ_no hb M L Fr.rfl' J
              · skip
                cases c13
          · obtain ⟨t, ht, et⟩ := ((v3 w (by omega)).resolve_left c1).2
            obtain ⟨u, hu, eu⟩ := ((v3 x (by omega)).resolve_left c2).2
            have cS : canS K fl w x = (!oBr K fl w u && !oBr K fl x t) := by
              unfold canS
              rw [decide_eq_true c0, decide_eq_true c1, decide_eq_true c2, et, eu, ix_nI (by omega), ix_nI (by omega)]; rfl
            rw [cS]
            rw [et] at ew c1
            rw [eu] at ex c2
            have ib := t_isBarredJ d S R J B (p := w) (t := u) (by omega) (by omega)
            refine Rp.aload_n dX0_exchange_0 rfl rfl ?_
            refine Rp.iload_n dX0_exchange_1 rfl ?_
            refine Rp.callV1 M_X2_isPerson (ci := 2) dX0_exchange_2 mo_X2_isPerson lk_X0_21 (by decide) rfl rfl (A.1 0 _ rfl) (Nat.le_of_ble_eq_true rfl) (Nat.le_of_ble_eq_true rfl) (q1) (fun v1 h1 p1 x1 => ?_)
            rw [p1.1, p1.2]
            try dsimp only [Option.toList, List.cons_append, List.nil_append, List.append]
            first | ((with_reducible show Rp _ _ _ _ (.int (b2i _) :: _) _ _); refine Rp.if_eqB (tgt := 16) dX0_exchange_5 (by decide) (fun c5 => ?_) (fun c5 => ?_)) | ((with_reducible show Rp _ _ _ _ (.int (nI _) :: _) _ _); refine Rp.if_eqN (tgt := 16) dX0_exchange_5 (by decide) (by omega) (fun c5 => ?_) (fun c5 => ?_)) | refine Rp.if_eq (tgt := 16) dX0_exchange_5 (by decide) (fun c5 => ?_) (fun c5 => ?_)
            · cases c5
            refine Rp.aload_n dX0_exchange_8 rfl rfl ?_
            refine Rp.iload_n dX0_exchange_9 rfl ?_
            refine Rp.callV1 M_X2_isPerson (ci := 2) dX0_exchange_10 mo_X2_isPerson lk_X0_21 (by decide) rfl rfl (A.1 0 _ rfl) (Nat.le_of_ble_eq_true rfl) (Nat.le_of_ble_eq_true rfl) (q2) (fun v1 h1 p1 x1 => ?_)
            rw [p1.1, p1.2]
            try dsimp only [Option.toList, List.cons_append, List.nil_append, List.append]
            first | ((with_reducible show Rp _ _ _ _ (.int (b2i _) :: _) _ _); refine Rp.if_neB (tgt := 19) dX0_exchange_13 (by decide) (fun c13 => ?_) (fun c13 => ?_)) | ((with_reducible show Rp _ _ _ _ (.int (nI _) :: _) _ _); refine Rp.if_neN (tgt := 19) dX0_exchange_13 (by decide) (by omega) (fun c13 => ?_) (fun c13 => ?_)) | refine Rp.if_ne (tgt := 19) dX0_exchange_13 (by decide) (fun c13 => ?_) (fun c13 => ?_)
            rotate_left
            · cases c13
            refine Rp.aload_n dX0_exchange_19 rfl rfl ?_
            refine Rp.getR dX0_exchange_20 fk_X0_24 rfl (A.1 0 _ rfl) (A.2 0 3 3 rfl) ?_
            refine Rp.iload_n dX0_exchange_23 rfl ?_
            first | ((with_reducible show Rp _ _ _ _ (.int (nI _) :: _) _ _); refine Rp.ialoadN dX0_exchange_24 (A.1 3 _ rfl) (by omega) ?_) | refine Rp.iaload dX0_exchange_24 (A.1 3 _ rfl) (by first | assumption | exact vpb (by decide)) ?_
            first | rw [ew] | rw [ex] | skip
            refine Rp.ist4 dX0_exchange_25 (by first | exact nl2_some rfl | exact nl2_none) (by decide) ?_
            refine Rp.aload_n dX0_exchange_27 rfl rfl ?_
            refine Rp.getR dX0_exchange_28 fk_X0_24 rfl (A.1 0 _ rfl) (A.2 0 3 3 rfl) ?_
            refine Rp.iload_n dX0_exchange_31 rfl ?_
            first | ((with_reducible show Rp _ _ _ _ (.int (nI _) :: _) _ _); refine Rp.ialoadN dX0_exchange_32 (A.1 3 _ rfl) (by omega) ?_) | refine Rp.iaload dX0_exchange_32 (A.1 3 _ rfl) (by first | assumption | exact vpb (by decide)) ?_
            first | rw [ew] | rw [ex] | skip
            refine Rp.ist5 dX0_exchange_33 (by first | exact nl2_some rfl | exact nl2_none) (by decide) ?_
            refine Rp.iload_n dX0_exchange_35 rfl ?_
            refine Rp.iload_n dX0_exchange_36 rfl ?_
            first | ((with_reducible show Rp _ _ _ _ (.int (nI _) :: .int (nI _) :: _) _ _); refine Rp.icmp_eqN (tgt := 52) dX0_exchange_37 (by decide) (by omega) (fun c37 => ?_) (fun c37 => ?_)) | refine Rp.icmp_eq (tgt := 52) dX0_exchange_37 (by decide) (fun c37 => ?_) (fun c37 => ?_)
            · first | (exfalso; omega) | exact absurd c37 (by decide) | exact absurd (by decide) c37
            refine Rp.iload dX0_exchange_40 rfl ?_
            refine Rp.iconst (-1) dX0_exchange_42 (by decide) ?_
            first | ((with_reducible show Rp _ _ _ _ (.int (nI _) :: .int (nI _) :: _) _ _); refine Rp.icmp_eqN (tgt := 52) dX0_exchange_43 (by decide) (by omega) (fun c43 => ?_) (fun c43 => ?_)) | refine Rp.icmp_eq (tgt := 52) dX0_exchange_43 (by decide) (fun c43 => ?_) (fun c43 => ?_)
            · exact absurd c43 c1
            refine Rp.iload dX0_exchange_46 rfl ?_
            refine Rp.iconst (-1) dX0_exchange_48 (by decide) ?_
            first | ((with_reducible show Rp _ _ _ _ (.int (nI _) :: .int (nI _) :: _) _ _); refine Rp.icmp_neN (tgt := 55) dX0_exchange_49 (by decide) (by omega) (fun c49 => ?_) (fun c49 => ?_)) | refine Rp.icmp_ne (tgt := 55) dX0_exchange_49 (by decide) (fun c49 => ?_) (fun c49 => ?_)
            rotate_left
            · exact absurd c49 c2
            refine Rp.aload_n dX0_exchange_55 rfl rfl ?_
            refine Rp.getR dX0_exchange_56 fk_X0_9 rfl (S _ _ rfl) (R _ _ _ rfl) ?_
            refine Rp.iload_n dX0_exchange_59 rfl ?_
            refine Rp.iload dX0_exchange_60 rfl ?_
            refine Rp.callV2 M_X3_isBarred (ci := 3) dX0_exchange_62 mo_X3_isBarred lk_X0_31 (by decide) rfl rfl (S _ _ rfl) (Nat.le_of_ble_eq_true rfl) (Nat.le_of_ble_eq_true rfl) (ib) (fun v1 h1 p1 x1 => ?_)
            obtain ⟨F1, J1, rfl⟩ := p1
            try dsimp only [Option.toList, List.cons_append, List.nil_append, List.append]
            skip
            cases e3 : oBr K fl w u
            · have S1 := F1.S S
              have R1 := F1.R R (by decide)
              have ib2 := t_isBarredJ d S1 R1 J1 B (p := x) (t := t) (by omega) (by omega)
              first | ((with_reducible show Rp _ _ _ _ (.int (b2i _) :: _) _ _); refine Rp.if_neB (tgt := 81) dX0_exchange_65 (by decide) (fun c65 => ?_) (fun c65 => ?_)) | ((with_reducible show Rp _ _ _ _ (.int (nI _) :: _) _ _); refine Rp.if_neN (tgt := 81) dX0_exchange_65 (by decide) (by omega) (fun c65 => ?_) (fun c65 => ?_)) | refine Rp.if_ne (tgt := 81) dX0_exchange_65 (by decide) (fun c65 => ?_) (fun c65 => ?_)
              · cases c65
              refine Rp.aload_n dX0_exchange_68 rfl rfl ?_
              refine Rp.getR dX0_exchange_69 fk_X0_9 rfl (S1 _ _ rfl) (R1 _ _ _ rfl) ?_
              refine Rp.iload_n dX0_exchange_72 rfl ?_
              refine Rp.iload dX0_exchange_73 rfl ?_
              refine Rp.callV2 M_X3_isBarred (ci := 3) dX0_exchange_75 mo_X3_isBarred lk_X0_31 (by decide) rfl rfl (S1 _ _ rfl) (Nat.le_of_ble_eq_true rfl) (Nat.le_of_ble_eq_true rfl) (ib2) (fun v1 h1 p1 x1 => ?_)
              obtain ⟨F2, J2, rfl⟩ := p1
              try dsimp only [Option.toList, List.cons_append, List.nil_append, List.append]
              skip
              have F12 := F1.trans F2
              have M1 := M.fj hb F12
              have L1 := L.fr F12 (jX_b hb (by decide)) (fun j => jX_b hb (by decide))
              have A1 := M1.2.1
              cases e4 : oBr K fl x t
              · rw [if_pos (show (!false && !false) = true from rfl), eu]
                have cr := t_cross (d + 1) A1 (p := w) (q := x) (t := t) (u := u) (by omega) (by omega) (by omega) (by omega) ((M1.2.2.2.2.1 w (by omega)).trans et) ((M1.2.2.2.2.1 x (by omega)).trans eu)
                have M2 := M1.cross (p := w) (q := x) (t := t) (u := u) hw hx c0 ht hu et eu
                have F3 : Fr (hX b) h1 (sI (sI (sI (sI h1 (b + 7) u (nI w)) (b + 3) w (nI u)) (b + 7) t (nI x)) (b + 3) x (nI t)) := (((Fr.rfl'.sI (by unfold hX; simp)).sI (by unfold hX; simp)).sI (by unfold hX; simp)).sI (by unfold hX; simp)
                have L2 : LOG (sI (sI (sI (sI h1 (b + 7) u (nI w)) (b + 3) w (nI u)) (b + 7) t (nI x)) (b + 3) x (nI t)) b E := ⟨L1.1, by rw [gI_ne _ _ _ _ (by omega), gI_ne _ _ _ _ (by omega), gI_ne _ _ _ _ (by omega), gI_ne _ _ _ _ (by omega)]; exact L1.2.1, fun j y hj => by rw [gI_ne _ _ _ _ (by omega), gI_ne _ _ _ _ (by omega), gI_ne _ _ _ _ (by omega), gI_ne _ _ _ _ (by omega)]; exact L1.2.2 j y hj⟩
                have A2 := M2.2.1
                have ad := t_addL (d + 1) A2 L2 (o := 1) (f := w) (s := x) (by decide) (by omega) (by omega)
                first | ((with_reducible show Rp _ _ _ _ (.int (b2i _) :: _) _ _); refine Rp.if_eqB (tgt := 84) dX0_exchange_78 (by decide) (fun c78 => ?_) (fun c78 => ?_)) | ((with_reducible show Rp _ _ _ _ (.int (nI _) :: _) _ _); refine Rp.if_eqN (tgt := 84) dX0_exchange_78 (by decide) (by omega) (fun c78 => ?_) (fun c78 => ?_)) | refine Rp.if_eq (tgt := 84) dX0_exchange_78 (by decide) (fun c78 => ?_) (fun c78 => ?_)
                rotate_left
                · cases c78
                refine Rp.aload_n dX0_exchange_84 rfl rfl ?_
                refine Rp.iload_n dX0_exchange_85 rfl ?_
                refine Rp.iload_n dX0_exchange_86 rfl ?_
                refine Rp.callV2 M_X2_cross (ci := 2) dX0_exchange_87 mo_X2_cross lk_X0_54 (by decide) rfl rfl (A1.1 0 _ rfl) (Nat.le_of_ble_eq_true rfl) (Nat.le_of_ble_eq_true rfl) (cr) (fun v1 h1 p1 x1 => ?_)
                rw [p1.1, p1.2]
                try dsimp only [Option.toList, List.cons_append, List.nil_append, List.append]
                refine Rp.aload_n dX0_exchange_90 rfl rfl ?_
                refine Rp.getR dX0_exchange_91 fk_X0_41 rfl (A2.1 0 _ rfl) (A2.2 0 19 14 rfl) ?_
                refine Rp.iconst (nI 1) dX0_exchange_94 (by decide) ?_
                refine Rp.iload_n dX0_exchange_95 rfl ?_
                refine Rp.iload_n dX0_exchange_96 rfl ?_
                refine Rp.callV3 M_X4_add (ci := 4) dX0_exchange_97 mo_X4_add lk_X0_45 (by decide) rfl rfl (A2.1 14 _ rfl) (Nat.le_of_ble_eq_true rfl) (Nat.le_of_ble_eq_true rfl) (ad) (fun v1 h1 p1 x1 => ?_)
                obtain ⟨rfl, F4, L4⟩ := p1
                try dsimp only [Option.toList, List.cons_append, List.nil_append, List.append]
                skip
                have F5 := F3.trans (hX_l F4)
                have J5 := (J2.fh F5).congr (K' := swK K w x) (fun j hj => by unfold swK upK; rw [if_neg (by omega), if_neg (by omega)])
                have M5 := M2.fl F4
                refine Rp.iload dX0_exchange_100 rfl ?_
                refine Rp.ireturn dX0_exchange_102 rfl ?_
                exact ⟨rfl, (aX_j F12).trans (aX_h F5), J5, M5, L4⟩
              · rw [if_neg (by simp)]
                first | ((with_reducible show Rp _ _ _ _ (.int (b2i _) :: _) _ _); refine Rp.if_eqB (tgt := 84) dX0_exchange_78 (by decide) (fun c78 => ?_) (fun c78 => ?_)) | ((with_reducible show Rp _ _ _ _ (.int (nI _) :: _) _ _); refine Rp.if_eqN (tgt := 84) dX0_exchange_78 (by decide) (by omega) (fun c78 => ?_) (fun c78 => ?_)) | refine Rp.if_eq (tgt := 84) dX0_exchange_78 (by decide) (fun c78 => ?_) (fun c78 => ?_)
                · skip
                  cases c78
                · skip
                  refine Rp.bipush (-3) dX0_exchange_81 (by decide) ?_
                  refine Rp.ireturn dX0_exchange_83 rfl ?_
                  exact AcQ_no hb M L F12 J2
            · rw [if_neg (by simp)]
              first | ((with_reducible show Rp _ _ _ _ (.int (b2i _) :: _) _ _); refine Rp.if_neB (tgt := 81) dX0_exchange_65 (by decide) (fun c65 => ?_) (fun c65 => ?_)) | ((with_reducible show Rp _ _ _ _ (.int (nI _) :: _) _ _); refine Rp.if_neN (tgt := 81) dX0_exchange_65 (by decide) (by omega) (fun c65 => ?_) (fun c65 => ?_)) | refine Rp.if_ne (tgt := 81) dX0_exchange_65 (by decide) (fun c65 => ?_) (fun c65 => ?_)
              · skip
                refine Rp.bipush (-3) dX0_exchange_81 (by decide) ?_
                refine Rp.ireturn dX0_exchange_83 rfl ?_
                exact AcQ_no hb M L F1 J1
              · skip
                cases c65
    · have e2 : inN q np = false := Bool.eq_false_iff.mpr e2
      rw [e2] at q2
      rw [if_neg (by rw [e2, Bool.and_false]; decide)]
      refine Rp.aload_n dX0_exchange_0 rfl rfl ?_
      refine Rp.iload_n dX0_exchange_1 rfl ?_
      refine Rp.callV1 M_X2_isPerson (ci := 2) dX0_exchange_2 mo_X2_isPerson lk_X0_21 (by decide) rfl rfl (A.1 0 _ rfl) (Nat.le_of_ble_eq_true rfl) (Nat.le_of_ble_eq_true rfl) (q1) (fun v1 h1 p1 x1 => ?_)
      rw [p1.1, p1.2]
      try dsimp only [Option.toList, List.cons_append, List.nil_append, List.append]
      first | ((with_reducible show Rp _ _ _ _ (.int (b2i _) :: _) _ _); refine Rp.if_eqB (tgt := 16) dX0_exchange_5 (by decide) (fun c5 => ?_) (fun c5 => ?_)) | ((with_reducible show Rp _ _ _ _ (.int (nI _) :: _) _ _); refine Rp.if_eqN (tgt := 16) dX0_exchange_5 (by decide) (by omega) (fun c5 => ?_) (fun c5 => ?_)) | refine Rp.if_eq (tgt := 16) dX0_exchange_5 (by decide) (fun c5 => ?_) (fun c5 => ?_)
      · skip
        cases c5
      · skip
        refine Rp.aload_n dX0_exchange_8 rfl rfl ?_
        refine Rp.iload_n dX0_exchange_9 rfl ?_
        refine Rp.callV1 M_X2_isPerson (ci := 2) dX0_exchange_10 mo_X2_isPerson lk_X0_21 (by decide) rfl rfl (A.1 0 _ rfl) (Nat.le_of_ble_eq_true rfl) (Nat.le_of_ble_eq_true rfl) (q2) (fun v1 h1 p1 x1 => ?_)
        rw [p1.1, p1.2]
        try dsimp only [Option.toList, List.cons_append, List.nil_append, List.append]
        first | ((with_reducible show Rp _ _ _ _ (.int (b2i _) :: _) _ _); refine Rp.if_neB (tgt := 19) dX0_exchange_13 (by decide) (fun c13 => ?_) (fun c13 => ?_)) | ((with_reducible show Rp _ _ _ _ (.int (nI _) :: _) _ _); refine Rp.if_neN (tgt := 19) dX0_exchange_13 (by decide) (by omega) (fun c13 => ?_) (fun c13 => ?_)) | refine Rp.if_ne (tgt := 19) dX0_exchange_13 (by decide) (fun c13 => ?_) (fun c13 => ?_)
        · skip
          cases c13
        · skip
          refine Rp.bipush (-2) dX0_exchange_16 (by decide) ?_
          refine Rp.ireturn dX0_exchange_18 rfl ?_
          exact AcQ_no hb M L Fr.rfl' J
  · have e1 : inN p np = false := Bool.eq_false_iff.mpr e1
    rw [e1] at q1
    rw [if_neg (by rw [e1, Bool.false_and]; decide)]
    refine Rp.aload_n dX0_exchange_0 rfl rfl ?_
    refine Rp.iload_n dX0_exchange_1 rfl ?_
    refine Rp.callV1 M_X2_isPerson (ci := 2) dX0_exchange_2 mo_X2_isPerson lk_X0_21 (by decide) rfl rfl (A.1 0 _ rfl) (Nat.le_of_ble_eq_true rfl) (Nat.le_of_ble_eq_true rfl) (q1) (fun v1 h1 p1 x1 => ?_)
    rw [p1.1, p1.2]
    try dsimp only [Option.toList, List.cons_append, List.nil_append, List.append]
    first | ((with_reducible show Rp _ _ _ _ (.int (b2i _) :: _) _ _); refine Rp.if_eqB (tgt := 16) dX0_exchange_5 (by decide) (fun c5 => ?_) (fun c5 => ?_)) | ((with_reducible show Rp _ _ _ _ (.int (nI _) :: _) _ _); refine Rp.if_eqN (tgt := 16) dX0_exchange_5 (by decide) (by omega) (fun c5 => ?_) (fun c5 => ?_)) | refine Rp.if_eq (tgt := 16) dX0_exchange_5 (by decide) (fun c5 => ?_) (fun c5 => ?_)
    · skip
      refine Rp.bipush (-2) dX0_exchange_16 (by decide) ?_
      refine Rp.ireturn dX0_exchange_18 rfl ?_
      exact AcQ_no hb M L Fr.rfl' J
    · skip
      cases c5
end Act2
