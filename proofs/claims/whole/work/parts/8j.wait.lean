section Md
variable (d : Nat) {h : AH} {fl : Option (List CLE)} {np nt nd : Nat}
theorem s_day (A : MBd h fl np nt nd) (p w : Int32) : Rp (d + 78) M_X12_day 0 [some (.ref aM), some (.int p), some (.int w)] [] h (fun r h' => r = some (.int (dyA (dayF (gI h 102) fl nd np nt (fun _ => true) (gI h 102) 100) np p w)) ∧ Fr mdX h h') := by
  obtain ⟨S, R, hF, B, VDd, k5, VNn, V, k3⟩ := id A
  have v1 := V.1
  have ip := s_isPerson (d + 76) S R p v1 k3
  by_cases c : inN p np = true
  · rw [c] at ip
    obtain ⟨q, hq, rfl⟩ := (inN_iff (by omega)).mp c
    have eq := ix_nI (show q < 2147483648 by omega)
    have ad := s_allDesks (d + 77) S R k5
    have ly := s_laysDay d A (st := fun _ => true) (op := adI nd) (adI_b VDd.1)
    refine Rp.aload_n dX12_day_0 rfl rfl ?_
    refine Rp.iload_n dX12_day_1 rfl ?_
    refine Rp.callV1 M_X12_isPerson (ci := 12) dX12_day_2 mo_X12_isPerson lk_X12_131 (by decide) rfl rfl (S _ _ rfl) (Nat.le_of_ble_eq_true rfl) (Nat.le_of_ble_eq_true rfl) (ip) (fun v1 h1 p1 x1 => ?_)
    rw [p1.1, p1.2]
    try dsimp only [Option.toList, List.cons_append, List.nil_append, List.append]
    first | ((with_reducible show Rp _ _ _ _ (.int (b2i _) :: _) _ _); refine Rp.if_neB (tgt := 10) dX12_day_5 (by decide) (fun c5 => ?_) (fun c5 => ?_)) | ((with_reducible show Rp _ _ _ _ (.int (nI _) :: _) _ _); refine Rp.if_neN (tgt := 10) dX12_day_5 (by decide) (by omega) (fun c5 => ?_) (fun c5 => ?_)) | refine Rp.if_ne (tgt := 10) dX12_day_5 (by decide) (fun c5 => ?_) (fun c5 => ?_)
    rotate_left
    · cases c5
    refine Rp.aload_n dX12_day_10 rfl rfl ?_
    refine Rp.aload_n dX12_day_11 rfl rfl ?_
    refine Rp.callV0 M_X12_allDesks (ci := 12) dX12_day_12 mo_X12_allDesks lk_X12_393 (by decide) rfl rfl (S _ _ rfl) (Nat.le_of_ble_eq_true rfl) (Nat.le_of_ble_eq_true rfl) (ad) (fun v1 h1 p1 x1 => ?_)
    rw [p1.1, p1.2]
    try dsimp only [Option.toList, List.cons_append, List.nil_append, List.append]
    refine Rp.callV1 M_X12_laysDay (ci := 12) dX12_day_15 mo_X12_laysDay lk_X12_396 (by decide) rfl rfl (S _ _ rfl) (Nat.le_of_ble_eq_true rfl) (Nat.le_of_ble_eq_true rfl) (ly) (fun v1 h1 p1 x1 => ?_)
    obtain ⟨rfl, F1, Y1⟩ := p1
    try dsimp only [Option.toList, List.cons_append, List.nil_append, List.append]
    skip
    have S1 := F1.S S
    have R1 := F1.R R (by decide)
    have y1 := Y1.2.1 q (by omega)
    have y2 := Y1.2.2.1 q (by omega)
    have y3 := Y1.2.2.2 q (by omega)
    refine Rp.iload_n dX12_day_18 rfl ?_
    by_cases hx19 : inN w 3 = true
    · obtain ⟨j19, hj19, rfl⟩ := (inN_iff (by omega)).mp hx19
      match j19, hj19 with
      | 0, _ =>
        refine Rp.tableIn (tgt := 44) (off := 25) dX12_day_19 (by decide) (by decide) (by decide) (by decide) ?_
        refine Rp.aload_n dX12_day_44 rfl rfl ?_
        refine Rp.getR dX12_day_45 fk_X12_68 rfl (S1 _ _ rfl) (R1 _ _ _ rfl) ?_
        refine Rp.iload_n dX12_day_48 rfl ?_
        first | ((with_reducible show Rp _ _ _ _ (.int (nI _) :: _) _ _); refine Rp.ialoadN dX12_day_49 (S1 _ _ rfl) (by omega) ?_) | refine Rp.iaload dX12_day_49 (S1 _ _ rfl) (by first | assumption | exact vpb (by decide)) ?_
        first | rw [y1] | rw [y2] | rw [y3] | skip
        refine Rp.ireturn dX12_day_50 rfl ?_
        exact ⟨by unfold dyA; rw [if_pos c, if_pos rfl, eq], F1⟩
      | 1, _ =>
        refine Rp.tableIn (tgt := 51) (off := 32) dX12_day_19 (by decide) (by decide) (by decide) (by decide) ?_
        refine Rp.aload_n dX12_day_51 rfl rfl ?_
        refine Rp.getR dX12_day_52 fk_X12_71 rfl (S1 _ _ rfl) (R1 _ _ _ rfl) ?_
        refine Rp.iload_n dX12_day_55 rfl ?_
        first | ((with_reducible show Rp _ _ _ _ (.int (nI _) :: _) _ _); refine Rp.ialoadN dX12_day_56 (S1 _ _ rfl) (by omega) ?_) | refine Rp.iaload dX12_day_56 (S1 _ _ rfl) (by first | assumption | exact vpb (by decide)) ?_
        first | rw [y1] | rw [y2] | rw [y3] | skip
        refine Rp.ireturn dX12_day_57 rfl ?_
        exact ⟨by unfold dyA; rw [if_pos c, if_neg (by decide), if_pos rfl, eq], F1⟩
      | 2, _ =>
        refine Rp.tableIn (tgt := 58) (off := 39) dX12_day_19 (by decide) (by decide) (by decide) (by decide) ?_
        refine Rp.aload_n dX12_day_58 rfl rfl ?_
        refine Rp.getR dX12_day_59 fk_X12_74 rfl (S1 _ _ rfl) (R1 _ _ _ rfl) ?_
        refine Rp.iload_n dX12_day_62 rfl ?_
        first | ((with_reducible show Rp _ _ _ _ (.int (nI _) :: _) _ _); refine Rp.ialoadN dX12_day_63 (S1 _ _ rfl) (by omega) ?_) | refine Rp.iaload dX12_day_63 (S1 _ _ rfl) (by first | assumption | exact vpb (by decide)) ?_
        first | rw [y1] | rw [y2] | rw [y3] | skip
        refine Rp.ireturn dX12_day_64 rfl ?_
        exact ⟨by unfold dyA; rw [if_pos c, if_neg (by decide), if_neg (by decide), if_pos rfl, eq], F1⟩
      | k + 3, hk => exact absurd hk (by omega)
    · refine Rp.tableOut (tgt := 65) dX12_day_19 (by unfold inN at hx19; rw [decide_eq_true_eq] at hx19; omega) (by decide) ?_
      refine Rp.iconst (-1) dX12_day_65 (by decide) ?_
      refine Rp.ireturn dX12_day_66 rfl ?_
      exact ⟨by unfold dyA; rw [if_pos c, if_neg (fun z => hx19 (by rw [z]; rfl)), if_neg (fun z => hx19 (by rw [z]; rfl)), if_neg (fun z => hx19 (by rw [z]; rfl))], F1⟩
  · have c' : inN p np = false := Bool.eq_false_iff.mpr c
    rw [c'] at ip
    refine Rp.aload_n dX12_day_0 rfl rfl ?_
    refine Rp.iload_n dX12_day_1 rfl ?_
    refine Rp.callV1 M_X12_isPerson (ci := 12) dX12_day_2 mo_X12_isPerson lk_X12_131 (by decide) rfl rfl (S _ _ rfl) (Nat.le_of_ble_eq_true rfl) (Nat.le_of_ble_eq_true rfl) (ip) (fun v1 h1 p1 x1 => ?_)
    rw [p1.1, p1.2]
    try dsimp only [Option.toList, List.cons_append, List.nil_append, List.append]
    first | ((with_reducible show Rp _ _ _ _ (.int (b2i _) :: _) _ _); refine Rp.if_neB (tgt := 10) dX12_day_5 (by decide) (fun c5 => ?_) (fun c5 => ?_)) | ((with_reducible show Rp _ _ _ _ (.int (nI _) :: _) _ _); refine Rp.if_neN (tgt := 10) dX12_day_5 (by decide) (by omega) (fun c5 => ?_) (fun c5 => ?_)) | refine Rp.if_ne (tgt := 10) dX12_day_5 (by decide) (fun c5 => ?_) (fun c5 => ?_)
    · skip
      cases c5
    · skip
      refine Rp.iconst (-1) dX12_day_8 (by decide) ?_
      refine Rp.ireturn dX12_day_9 rfl ?_
      exact ⟨by unfold dyA; rw [if_neg c], Fr.rfl'⟩
def waA (K : Nat → Int32) (fl : Option (List CLE)) (nd np nt : Nat) (p : Int32) : Int32 := if p = -1 then nI (wtA K fl (dayF K fl nd np nt (fun _ => true) K 100) K np) else if inN p np = true then (if K (ix p) = -1 then -1 else nI (wtN K fl (dayF K fl nd np nt (fun _ => true) K 100) (ix p))) else -1
theorem s_waiting (A : MBd h fl np nt nd) (p : Int32) : Rp (d + 79) M_X12_waiting 0 [some (.ref aM), some (.int p)] [] h (fun r h' => r = some (.int (waA (gI h 102) fl nd np nt p)) ∧ Fr mdX h h') := by
  obtain ⟨S, R, hF, B, VDd, k5, VNn, V, k3⟩ := id A
  have v1 := V.1
  by_cases cp : p = -1
  · rw [cp]
    have wa := s_waitOfAll d A
    refine Rp.iload_n dX12_waiting_0 rfl ?_
    refine Rp.iconst (-1) dX12_waiting_1 (by decide) ?_
    first | ((with_reducible show Rp _ _ _ _ (.int (nI _) :: .int (nI _) :: _) _ _); refine Rp.icmp_neN (tgt := 10) dX12_waiting_2 (by decide) (by omega) (fun c2 => ?_) (fun c2 => ?_)) | refine Rp.icmp_ne (tgt := 10) dX12_waiting_2 (by decide) (fun c2 => ?_) (fun c2 => ?_)
    · skip
      exact absurd rfl c2
    · skip
      refine Rp.aload_n dX12_waiting_5 rfl rfl ?_
      refine Rp.callV0 M_X12_waitOfAll (ci := 12) dX12_waiting_6 mo_X12_waitOfAll lk_X12_402 (by decide) rfl rfl (S _ _ rfl) (Nat.le_of_ble_eq_true rfl) (Nat.le_of_ble_eq_true rfl) (wa) (fun v1 h1 p1 x1 => ?_)
      obtain ⟨F1, Y1, rfl⟩ := p1
      try dsimp only [Option.toList, List.cons_append, List.nil_append, List.append]
      refine Rp.ireturn dX12_waiting_9 rfl ?_
      exact ⟨by unfold waA; rw [if_pos rfl], F1⟩
  · have ip := s_isPerson (d + 77) S R p v1 k3
    by_cases c : inN p np = true
    · rw [c] at ip
      obtain ⟨q, hq, rfl⟩ := (inN_iff (by omega)).mp c
      have eq := ix_nI (show q < 2147483648 by omega)
      have hd := s_holds (d + 78) S R (q := q) (by omega)
      by_cases ch : gI h 102 q = -1
      · rw [show decide (gI h am_kept q ≠ -1) = false from decide_eq_false (fun z => z ch)] at hd
        refine Rp.iload_n dX12_waiting_0 rfl ?_
        refine Rp.iconst (-1) dX12_waiting_1 (by decide) ?_
        first | ((with_reducible show Rp _ _ _ _ (.int (nI _) :: .int (nI _) :: _) _ _); refine Rp.icmp_neN (tgt := 10) dX12_waiting_2 (by decide) (by omega) (fun c2 => ?_) (fun c2 => ?_)) | refine Rp.icmp_ne (tgt := 10) dX12_waiting_2 (by decide) (fun c2 => ?_) (fun c2 => ?_)
        · skip
          refine Rp.aload_n dX12_waiting_10 rfl rfl ?_
          refine Rp.iload_n dX12_waiting_11 rfl ?_
          refine Rp.callV1 M_X12_isPerson (ci := 12) dX12_waiting_12 mo_X12_isPerson lk_X12_131 (by decide) rfl rfl (S _ _ rfl) (Nat.le_of_ble_eq_true rfl) (Nat.le_of_ble_eq_true rfl) (ip) (fun v1 h1 p1 x1 => ?_)
          rw [p1.1, p1.2]
          try dsimp only [Option.toList, List.cons_append, List.nil_append, List.append]
          first | ((with_reducible show Rp _ _ _ _ (.int (b2i _) :: _) _ _); refine Rp.if_eqB (tgt := 26) dX12_waiting_15 (by decide) (fun c15 => ?_) (fun c15 => ?_)) | ((with_reducible show Rp _ _ _ _ (.int (nI _) :: _) _ _); refine Rp.if_eqN (tgt := 26) dX12_waiting_15 (by decide) (by omega) (fun c15 => ?_) (fun c15 => ?_)) | refine Rp.if_eq (tgt := 26) dX12_waiting_15 (by decide) (fun c15 => ?_) (fun c15 => ?_)
          · skip
            cases c15
          · skip
            refine Rp.aload_n dX12_waiting_18 rfl rfl ?_
            refine Rp.iload_n dX12_waiting_19 rfl ?_
            refine Rp.callV1 M_X12_holds (ci := 12) dX12_waiting_20 mo_X12_holds lk_X12_351 (by decide) rfl rfl (S _ _ rfl) (Nat.le_of_ble_eq_true rfl) (Nat.le_of_ble_eq_true rfl) (hd) (fun v1 h1 p1 x1 => ?_)
            rw [p1.1, p1.2]
            try dsimp only [Option.toList, List.cons_append, List.nil_append, List.append]
            first | ((with_reducible show Rp _ _ _ _ (.int (b2i _) :: _) _ _); refine Rp.if_neB (tgt := 28) dX12_waiting_23 (by decide) (fun c23 => ?_) (fun c23 => ?_)) | ((with_reducible show Rp _ _ _ _ (.int (nI _) :: _) _ _); refine Rp.if_neN (tgt := 28) dX12_waiting_23 (by decide) (by omega) (fun c23 => ?_) (fun c23 => ?_)) | refine Rp.if_ne (tgt := 28) dX12_waiting_23 (by decide) (fun c23 => ?_) (fun c23 => ?_)
            · skip
              cases c23
            · skip
              refine Rp.iconst (-1) dX12_waiting_26 (by decide) ?_
              refine Rp.ireturn dX12_waiting_27 rfl ?_
              exact ⟨by unfold waA; rw [if_neg cp, if_pos c, eq, if_pos ch], Fr.rfl'⟩
        · skip
          exact absurd c2 cp
      · rw [show decide (gI h am_kept q ≠ -1) = true from decide_eq_true ch] at hd
        have ad := s_allDesks (d + 78) S R k5
        have ly := s_laysDay (d + 1) A (st := fun _ => true) (op := adI nd) (adI_b VDd.1)
        refine Rp.iload_n dX12_waiting_0 rfl ?_
        refine Rp.iconst (-1) dX12_waiting_1 (by decide) ?_
        first | ((with_reducible show Rp _ _ _ _ (.int (nI _) :: .int (nI _) :: _) _ _); refine Rp.icmp_neN (tgt := 10) dX12_waiting_2 (by decide) (by omega) (fun c2 => ?_) (fun c2 => ?_)) | refine Rp.icmp_ne (tgt := 10) dX12_waiting_2 (by decide) (fun c2 => ?_) (fun c2 => ?_)
        rotate_left
        · exact absurd c2 cp
        refine Rp.aload_n dX12_waiting_10 rfl rfl ?_
        refine Rp.iload_n dX12_waiting_11 rfl ?_
        refine Rp.callV1 M_X12_isPerson (ci := 12) dX12_waiting_12 mo_X12_isPerson lk_X12_131 (by decide) rfl rfl (S _ _ rfl) (Nat.le_of_ble_eq_true rfl) (Nat.le_of_ble_eq_true rfl) (ip) (fun v1 h1 p1 x1 => ?_)
        rw [p1.1, p1.2]
        try dsimp only [Option.toList, List.cons_append, List.nil_append, List.append]
        first | ((with_reducible show Rp _ _ _ _ (.int (b2i _) :: _) _ _); refine Rp.if_eqB (tgt := 26) dX12_waiting_15 (by decide) (fun c15 => ?_) (fun c15 => ?_)) | ((with_reducible show Rp _ _ _ _ (.int (nI _) :: _) _ _); refine Rp.if_eqN (tgt := 26) dX12_waiting_15 (by decide) (by omega) (fun c15 => ?_) (fun c15 => ?_)) | refine Rp.if_eq (tgt := 26) dX12_waiting_15 (by decide) (fun c15 => ?_) (fun c15 => ?_)
        · cases c15
        refine Rp.aload_n dX12_waiting_18 rfl rfl ?_
        refine Rp.iload_n dX12_waiting_19 rfl ?_
        refine Rp.callV1 M_X12_holds (ci := 12) dX12_waiting_20 mo_X12_holds lk_X12_351 (by decide) rfl rfl (S _ _ rfl) (Nat.le_of_ble_eq_true rfl) (Nat.le_of_ble_eq_true rfl) (hd) (fun v1 h1 p1 x1 => ?_)
        rw [p1.1, p1.2]
        try dsimp only [Option.toList, List.cons_append, List.nil_append, List.append]
        first | ((with_reducible show Rp _ _ _ _ (.int (b2i _) :: _) _ _); refine Rp.if_neB (tgt := 28) dX12_waiting_23 (by decide) (fun c23 => ?_) (fun c23 => ?_)) | ((with_reducible show Rp _ _ _ _ (.int (nI _) :: _) _ _); refine Rp.if_neN (tgt := 28) dX12_waiting_23 (by decide) (by omega) (fun c23 => ?_) (fun c23 => ?_)) | refine Rp.if_ne (tgt := 28) dX12_waiting_23 (by decide) (fun c23 => ?_) (fun c23 => ?_)
        rotate_left
        · cases c23
        refine Rp.aload_n dX12_waiting_28 rfl rfl ?_
        refine Rp.aload_n dX12_waiting_29 rfl rfl ?_
        refine Rp.callV0 M_X12_allDesks (ci := 12) dX12_waiting_30 mo_X12_allDesks lk_X12_393 (by decide) rfl rfl (S _ _ rfl) (Nat.le_of_ble_eq_true rfl) (Nat.le_of_ble_eq_true rfl) (ad) (fun v1 h1 p1 x1 => ?_)
        rw [p1.1, p1.2]
        try dsimp only [Option.toList, List.cons_append, List.nil_append, List.append]
        refine Rp.callV1 M_X12_laysDay (ci := 12) dX12_waiting_33 mo_X12_laysDay lk_X12_396 (by decide) rfl rfl (S _ _ rfl) (Nat.le_of_ble_eq_true rfl) (Nat.le_of_ble_eq_true rfl) (ly) (fun v1 h1 p1 x1 => ?_)
        obtain ⟨rfl, F1, Y1⟩ := p1
        try dsimp only [Option.toList, List.cons_append, List.nil_append, List.append]
        skip
        have A1 := A.fr F1
        have e1 : gI h1 102 = gI h 102 := F1.fun (fun _ => rfl)
        have wo := s_waitOf (d + 2) A1.1 A1.2.1 A1.2.2.1 A1.2.2.2.1 Y1 (p := q) (by omega) (dayF_DP 100 q) VDd.1
        refine Rp.aload_n dX12_waiting_36 rfl rfl ?_
        refine Rp.iload_n dX12_waiting_37 rfl ?_
        refine Rp.callV1 M_X12_waitOf (ci := 12) dX12_waiting_38 mo_X12_waitOf lk_X12_399 (by decide) rfl rfl (A1.1 _ _ rfl) (Nat.le_of_ble_eq_true rfl) (Nat.le_of_ble_eq_true rfl) (wo) (fun v1 h1 p1 x1 => ?_)
        obtain ⟨F2, rfl⟩ := p1
        try dsimp only [Option.toList, List.cons_append, List.nil_append, List.append]
        refine Rp.ireturn dX12_waiting_41 rfl ?_
        refine ⟨?_, F1.trans (F2.weak (fun k j hx => by unfold mdX at hx; rw [Bool.or_eq_false_iff, Bool.or_eq_false_iff] at hx; exact hx.1.1))⟩
        unfold waA
        rw [if_neg cp, if_pos c, eq, if_neg ch, show gI _ am_kept = _ from e1]
    · have c' : inN p np = false := Bool.eq_false_iff.mpr c
      rw [c'] at ip
      refine Rp.iload_n dX12_waiting_0 rfl ?_
      refine Rp.iconst (-1) dX12_waiting_1 (by decide) ?_
      first | ((with_reducible show Rp _ _ _ _ (.int (nI _) :: .int (nI _) :: _) _ _); refine Rp.icmp_neN (tgt := 10) dX12_waiting_2 (by decide) (by omega) (fun c2 => ?_) (fun c2 => ?_)) | refine Rp.icmp_ne (tgt := 10) dX12_waiting_2 (by decide) (fun c2 => ?_) (fun c2 => ?_)
      · skip
        refine Rp.aload_n dX12_waiting_10 rfl rfl ?_
        refine Rp.iload_n dX12_waiting_11 rfl ?_
        refine Rp.callV1 M_X12_isPerson (ci := 12) dX12_waiting_12 mo_X12_isPerson lk_X12_131 (by decide) rfl rfl (S _ _ rfl) (Nat.le_of_ble_eq_true rfl) (Nat.le_of_ble_eq_true rfl) (ip) (fun v1 h1 p1 x1 => ?_)
        rw [p1.1, p1.2]
        try dsimp only [Option.toList, List.cons_append, List.nil_append, List.append]
        first | ((with_reducible show Rp _ _ _ _ (.int (b2i _) :: _) _ _); refine Rp.if_eqB (tgt := 26) dX12_waiting_15 (by decide) (fun c15 => ?_) (fun c15 => ?_)) | ((with_reducible show Rp _ _ _ _ (.int (nI _) :: _) _ _); refine Rp.if_eqN (tgt := 26) dX12_waiting_15 (by decide) (by omega) (fun c15 => ?_) (fun c15 => ?_)) | refine Rp.if_eq (tgt := 26) dX12_waiting_15 (by decide) (fun c15 => ?_) (fun c15 => ?_)
        · skip
          refine Rp.iconst (-1) dX12_waiting_26 (by decide) ?_
          refine Rp.ireturn dX12_waiting_27 rfl ?_
          exact ⟨by unfold waA; rw [if_neg cp, if_neg c], Fr.rfl'⟩
        · skip
          cases c15
      · skip
        exact absurd c2 cp
end Md
section Cf
variable (d : Nat) {h : AH} {K : Nat → Int32} {np nt nd nl : Nat} {LSs : Nat → List CLE} {E : List Int32}
theorem tzX_j {h g : AH} (F : Fr jX h g) : Fr tzX h g := tzX_a (pdX_j F)
theorem t_waiting (S : ShOK h) (R : RfOK h) (G : HG h 1 K np nt nd nl LSs E) (V : VH K np nt) (B : KB K) (hz : ∀ j, 9 ≤ j → gI h 43 j = 0) (VNn : VN K nt) (VDd : VD K nd) (p : Int32) : Rp (d + 5) M_X11_waiting 0 [some (.ref 0), some (.int p)] [] h (fun r h' => r = some (.int (waA K (flO nl LSs (K 108)) nd np nt p)) ∧ Fr tzX h h') := by
  have v1 := V.1
  have e18 : gI h 1 18 = K 108 := G.1.2.2.2.2.2.2.1
  have lf := t_lawInForce (d + 2) G.2.1
  rw [e18] at lf
  have m3 : gI h 1 0 = nI np := G.1.2.1
  have tl : ∀ lr, LR0 h lr (flO nl LSs (K 108)) → (p = -1 ∨ ∃ q, q < np ∧ p = nI q ∧ K q ≠ -1) → Rp (d + 5) M_X11_waiting 39 [some (.ref 0), some (.int p)] [cvR lr, .ref 0] h (fun r h' => r = some (.int (waA K (flO nl LSs (K 108)) nd np nt p)) ∧ Fr tzX h h') := by
    intro lr hl hp
    have pd := t_playDay d S R G V B hz VNn VDd hl
    have k42 : ∀ g, Fr tzX h g → JS g 1 K (flO nl LSs (K 108)) → DY g (dayF K (flO nl LSs (K 108)) nd np nt (fun _ => true) K 100) → Rp (d + 5) M_X11_waiting 42 [some (.ref 0), some (.int p)] [] g (fun r h' => r = some (.int (waA K (flO nl LSs (K 108)) nd np nt p)) ∧ Fr tzX h h') := by
      intro g F1 J1 Y1
      have S1 := F1.S S
      have R1 := F1.R R (by decide)
      rcases hp with rfl | ⟨q, hq, rfl, ch⟩
      · have wa := t_waitOfAllJ (d + 1) S1 R1 (by decide) B J1 Y1 (fun p => dayF_DP 100 p) v1 (hs := K) J1.2.2.1.2.1 ((F1.I 1 0 rfl).trans m3) (fun p hp => (F1.I _ _ rfl).trans (G.1.2.2.2.2.2.2.2.2.2.1 p hp))
        refine Rp.iload_n dX11_waiting_42 rfl ?_
        refine Rp.iconst (-1) dX11_waiting_43 (by decide) ?_
        first | ((with_reducible show Rp _ _ _ _ (.int (nI _) :: .int (nI _) :: _) _ _); refine Rp.icmp_neN (tgt := 61) dX11_waiting_44 (by decide) (by omega) (fun c44 => ?_) (fun c44 => ?_)) | refine Rp.icmp_ne (tgt := 61) dX11_waiting_44 (by decide) (fun c44 => ?_) (fun c44 => ?_)
        · skip
          exact absurd rfl c44
        · skip
          refine Rp.aload_n dX11_waiting_47 rfl rfl ?_
          refine Rp.getR dX11_waiting_48 fk_X11_55 rfl (S1 _ _ rfl) (R1 _ _ _ rfl) ?_
          refine Rp.aload_n dX11_waiting_51 rfl rfl ?_
          refine Rp.getR dX11_waiting_52 fk_X11_39 rfl (S1 _ _ rfl) (R1 _ _ _ rfl) ?_
          refine Rp.callV1 M_X1_waitOfAll (ci := 1) dX11_waiting_55 mo_X1_waitOfAll lk_X11_272 (by decide) rfl rfl (S1 _ _ rfl) (Nat.le_of_ble_eq_true rfl) (Nat.le_of_ble_eq_true rfl) (wa) (fun v1 h1 p1 x1 => ?_)
          obtain ⟨F2, J2, rfl⟩ := p1
          try dsimp only [Option.toList, List.cons_append, List.nil_append, List.append]
          refine Rp.goto (tgt := 73) dX11_waiting_58 (by decide) ?_
          refine Rp.ireturn dX11_waiting_73 rfl ?_
          exact ⟨by unfold waA; rw [if_pos rfl], F1.trans (tzX_j F2)⟩
      · have wo := t_waitOfJ (d + 1) S1 R1 B J1 Y1 (p := q) (by omega) (dayF_DP 100 q)
        have n1 : ¬ nI q = -1 := nI_m1 (by omega)
        refine Rp.iload_n dX11_waiting_42 rfl ?_
        refine Rp.iconst (-1) dX11_waiting_43 (by decide) ?_
        first | ((with_reducible show Rp _ _ _ _ (.int (nI _) :: .int (nI _) :: _) _ _); refine Rp.icmp_neN (tgt := 61) dX11_waiting_44 (by decide) (by omega) (fun c44 => ?_) (fun c44 => ?_)) | refine Rp.icmp_ne (tgt := 61) dX11_waiting_44 (by decide) (fun c44 => ?_) (fun c44 => ?_)
        · skip
          refine Rp.aload_n dX11_waiting_61 rfl rfl ?_
          refine Rp.getR dX11_waiting_62 fk_X11_55 rfl (S1 _ _ rfl) (R1 _ _ _ rfl) ?_
          refine Rp.aload_n dX11_waiting_65 rfl rfl ?_
          refine Rp.getR dX11_waiting_66 fk_X11_39 rfl (S1 _ _ rfl) (R1 _ _ _ rfl) ?_
          refine Rp.iload_n dX11_waiting_69 rfl ?_
          refine Rp.callV2 M_X1_waitOf (ci := 1) dX11_waiting_70 mo_X1_waitOf lk_X11_276 (by decide) rfl rfl (S1 _ _ rfl) (Nat.le_of_ble_eq_true rfl) (Nat.le_of_ble_eq_true rfl) (wo) (fun v1 h1 p1 x1 => ?_)
          obtain ⟨F2, J2, rfl⟩ := p1
          try dsimp only [Option.toList, List.cons_append, List.nil_append, List.append]
          refine Rp.ireturn dX11_waiting_73 rfl ?_
          exact ⟨by unfold waA; rw [if_neg n1, if_pos (inN_nI hq (by omega)), ix_nI (by omega), if_neg ch], F1.trans (tzX_j F2)⟩
        · skip
          exact absurd c44 n1
    match lr, hl, pd with
    | none, hl, pd =>
      dsimp only [cvR] at pd ⊢
      refine Rp.callV1 M_X11_playDay (ci := 11) dX11_waiting_39 mo_X11_playDay lk_X11_261 (by decide) rfl rfl (S _ _ rfl) (Nat.le_of_ble_eq_true rfl) (Nat.le_of_ble_eq_true rfl) (pd) (fun v1 h1 p1 x1 => ?_)
      obtain ⟨rfl, F1, J1, Y1⟩ := p1
      try dsimp only [Option.toList, List.cons_append, List.nil_append, List.append]
      exact k42 _ F1 J1 Y1
    | some tx, hl, pd =>
      dsimp only [cvR] at pd ⊢
      refine Rp.callV1 M_X11_playDay (ci := 11) dX11_waiting_39 mo_X11_playDay lk_X11_261 (by decide) rfl rfl (S _ _ rfl) (Nat.le_of_ble_eq_true rfl) (Nat.le_of_ble_eq_true rfl) (pd) (fun v1 h1 p1 x1 => ?_)
      obtain ⟨rfl, F1, J1, Y1⟩ := p1
      try dsimp only [Option.toList, List.cons_append, List.nil_append, List.append]
      exact k42 _ F1 J1 Y1
  by_cases cp : p = -1
  · rw [cp] at tl ⊢
    refine Rp.iload_n dX11_waiting_0 rfl ?_
    refine Rp.iconst (-1) dX11_waiting_1 (by decide) ?_
    first | ((with_reducible show Rp _ _ _ _ (.int (nI _) :: .int (nI _) :: _) _ _); refine Rp.icmp_eqN (tgt := 31) dX11_waiting_2 (by decide) (by omega) (fun c2 => ?_) (fun c2 => ?_)) | refine Rp.icmp_eq (tgt := 31) dX11_waiting_2 (by decide) (fun c2 => ?_) (fun c2 => ?_)
    · skip
      refine Rp.aload_n dX11_waiting_31 rfl rfl ?_
      refine Rp.aload_n dX11_waiting_32 rfl rfl ?_
      refine Rp.getR dX11_waiting_33 fk_X11_10 rfl (S _ _ rfl) (R _ _ _ rfl) ?_
      refine Rp.callV0 M_X2_lawInForce (ci := 2) dX11_waiting_36 mo_X2_lawInForce lk_X11_138 (by decide) rfl rfl (S _ _ rfl) (Nat.le_of_ble_eq_true rfl) (Nat.le_of_ble_eq_true rfl) (lf) (fun v1 h1 p1 x1 => ?_)
      obtain ⟨rfl, lr, rfl, qq⟩ := p1
      try dsimp only [Option.toList, List.cons_append, List.nil_append, List.append]
      exact tl lr qq (Or.inl rfl)
    · skip
      exact absurd rfl c2
  · have ip := t_isPerson (d + 4) (S 1 _ rfl) p v1 m3
    by_cases c : inN p np = true
    · rw [c] at ip
      obtain ⟨q, hq, rfl⟩ := (inN_iff (by omega)).mp c
      have eq := ix_nI (show q < 2147483648 by omega)
      have h3 := G.1.2.2.2.2.2.2.2.2.2.1 q (by omega)
      have h3 : gI h 4 q = K q := h3
      by_cases ch : K q = -1
      · rw [ch] at h3
        refine Rp.iload_n dX11_waiting_0 rfl ?_
        refine Rp.iconst (-1) dX11_waiting_1 (by decide) ?_
        first | ((with_reducible show Rp _ _ _ _ (.int (nI _) :: .int (nI _) :: _) _ _); refine Rp.icmp_eqN (tgt := 31) dX11_waiting_2 (by decide) (by omega) (fun c2 => ?_) (fun c2 => ?_)) | refine Rp.icmp_eq (tgt := 31) dX11_waiting_2 (by decide) (fun c2 => ?_) (fun c2 => ?_)
        · skip
          exact absurd c2 cp
        · skip
          refine Rp.aload_n dX11_waiting_5 rfl rfl ?_
          refine Rp.getR dX11_waiting_6 fk_X11_10 rfl (S _ _ rfl) (R _ _ _ rfl) ?_
          refine Rp.iload_n dX11_waiting_9 rfl ?_
          refine Rp.callV1 M_X2_isPerson (ci := 2) dX11_waiting_10 mo_X2_isPerson lk_X11_125 (by decide) rfl rfl (S _ _ rfl) (Nat.le_of_ble_eq_true rfl) (Nat.le_of_ble_eq_true rfl) (ip) (fun v1 h1 p1 x1 => ?_)
          rw [p1.1, p1.2]
          try dsimp only [Option.toList, List.cons_append, List.nil_append, List.append]
          first | ((with_reducible show Rp _ _ _ _ (.int (b2i _) :: _) _ _); refine Rp.if_eqB (tgt := 29) dX11_waiting_13 (by decide) (fun c13 => ?_) (fun c13 => ?_)) | ((with_reducible show Rp _ _ _ _ (.int (nI _) :: _) _ _); refine Rp.if_eqN (tgt := 29) dX11_waiting_13 (by decide) (by omega) (fun c13 => ?_) (fun c13 => ?_)) | refine Rp.if_eq (tgt := 29) dX11_waiting_13 (by decide) (fun c13 => ?_) (fun c13 => ?_)
          · skip
            cases c13
          · skip
            refine Rp.aload_n dX11_waiting_16 rfl rfl ?_
            refine Rp.getR dX11_waiting_17 fk_X11_10 rfl (S _ _ rfl) (R _ _ _ rfl) ?_
            refine Rp.getR dX11_waiting_20 fk_X11_135 rfl (S _ _ rfl) (R _ _ _ rfl) ?_
            refine Rp.iload_n dX11_waiting_23 rfl ?_
            first | ((with_reducible show Rp _ _ _ _ (.int (nI _) :: _) _ _); refine Rp.ialoadN dX11_waiting_24 (S _ _ rfl) (by omega) ?_) | refine Rp.iaload dX11_waiting_24 (S _ _ rfl) (by first | assumption | exact vpb (by decide)) ?_
            first | rw [h3] | skip
            refine Rp.iconst (-1) dX11_waiting_25 (by decide) ?_
            first | ((with_reducible show Rp _ _ _ _ (.int (nI _) :: .int (nI _) :: _) _ _); refine Rp.icmp_neN (tgt := 31) dX11_waiting_26 (by decide) (by omega) (fun c26 => ?_) (fun c26 => ?_)) | refine Rp.icmp_ne (tgt := 31) dX11_waiting_26 (by decide) (fun c26 => ?_) (fun c26 => ?_)
            · skip
              exact absurd rfl c26
            · skip
              refine Rp.iconst (-1) dX11_waiting_29 (by decide) ?_
              refine Rp.ireturn dX11_waiting_30 rfl ?_
              exact ⟨by unfold waA; rw [if_neg cp, if_pos c, eq, if_pos ch], Fr.rfl'⟩
      · skip
        refine Rp.iload_n dX11_waiting_0 rfl ?_
        refine Rp.iconst (-1) dX11_waiting_1 (by decide) ?_
        first | ((with_reducible show Rp _ _ _ _ (.int (nI _) :: .int (nI _) :: _) _ _); refine Rp.icmp_eqN (tgt := 31) dX11_waiting_2 (by decide) (by omega) (fun c2 => ?_) (fun c2 => ?_)) | refine Rp.icmp_eq (tgt := 31) dX11_waiting_2 (by decide) (fun c2 => ?_) (fun c2 => ?_)
        · skip
          exact absurd c2 cp
        · skip
          refine Rp.aload_n dX11_waiting_5 rfl rfl ?_
          refine Rp.getR dX11_waiting_6 fk_X11_10 rfl (S _ _ rfl) (R _ _ _ rfl) ?_
          refine Rp.iload_n dX11_waiting_9 rfl ?_
          refine Rp.callV1 M_X2_isPerson (ci := 2) dX11_waiting_10 mo_X2_isPerson lk_X11_125 (by decide) rfl rfl (S _ _ rfl) (Nat.le_of_ble_eq_true rfl) (Nat.le_of_ble_eq_true rfl) (ip) (fun v1 h1 p1 x1 => ?_)
          rw [p1.1, p1.2]
          try dsimp only [Option.toList, List.cons_append, List.nil_append, List.append]
          first | ((with_reducible show Rp _ _ _ _ (.int (b2i _) :: _) _ _); refine Rp.if_eqB (tgt := 29) dX11_waiting_13 (by decide) (fun c13 => ?_) (fun c13 => ?_)) | ((with_reducible show Rp _ _ _ _ (.int (nI _) :: _) _ _); refine Rp.if_eqN (tgt := 29) dX11_waiting_13 (by decide) (by omega) (fun c13 => ?_) (fun c13 => ?_)) | refine Rp.if_eq (tgt := 29) dX11_waiting_13 (by decide) (fun c13 => ?_) (fun c13 => ?_)
          · skip
            cases c13
          · skip
            refine Rp.aload_n dX11_waiting_16 rfl rfl ?_
            refine Rp.getR dX11_waiting_17 fk_X11_10 rfl (S _ _ rfl) (R _ _ _ rfl) ?_
            refine Rp.getR dX11_waiting_20 fk_X11_135 rfl (S _ _ rfl) (R _ _ _ rfl) ?_
            refine Rp.iload_n dX11_waiting_23 rfl ?_
            first | ((with_reducible show Rp _ _ _ _ (.int (nI _) :: _) _ _); refine Rp.ialoadN dX11_waiting_24 (S _ _ rfl) (by omega) ?_) | refine Rp.iaload dX11_waiting_24 (S _ _ rfl) (by first | assumption | exact vpb (by decide)) ?_
            first | rw [h3] | skip
            refine Rp.iconst (-1) dX11_waiting_25 (by decide) ?_
            first | ((with_reducible show Rp _ _ _ _ (.int (nI _) :: .int (nI _) :: _) _ _); refine Rp.icmp_neN (tgt := 31) dX11_waiting_26 (by decide) (by omega) (fun c26 => ?_) (fun c26 => ?_)) | refine Rp.icmp_ne (tgt := 31) dX11_waiting_26 (by decide) (fun c26 => ?_) (fun c26 => ?_)
            · skip
              refine Rp.aload_n dX11_waiting_31 rfl rfl ?_
              refine Rp.aload_n dX11_waiting_32 rfl rfl ?_
              refine Rp.getR dX11_waiting_33 fk_X11_10 rfl (S _ _ rfl) (R _ _ _ rfl) ?_
              refine Rp.callV0 M_X2_lawInForce (ci := 2) dX11_waiting_36 mo_X2_lawInForce lk_X11_138 (by decide) rfl rfl (S _ _ rfl) (Nat.le_of_ble_eq_true rfl) (Nat.le_of_ble_eq_true rfl) (lf) (fun v1 h1 p1 x1 => ?_)
              obtain ⟨rfl, lr, rfl, qq⟩ := p1
              try dsimp only [Option.toList, List.cons_append, List.nil_append, List.append]
              exact tl lr qq (Or.inr ⟨q, hq, rfl, ch⟩)
            · skip
              exact absurd c26 ch
    · have c' : inN p np = false := Bool.eq_false_iff.mpr c
      rw [c'] at ip
      refine Rp.iload_n dX11_waiting_0 rfl ?_
      refine Rp.iconst (-1) dX11_waiting_1 (by decide) ?_
      first | ((with_reducible show Rp _ _ _ _ (.int (nI _) :: .int (nI _) :: _) _ _); refine Rp.icmp_eqN (tgt := 31) dX11_waiting_2 (by decide) (by omega) (fun c2 => ?_) (fun c2 => ?_)) | refine Rp.icmp_eq (tgt := 31) dX11_waiting_2 (by decide) (fun c2 => ?_) (fun c2 => ?_)
      · skip
        exact absurd c2 cp
      · skip
        refine Rp.aload_n dX11_waiting_5 rfl rfl ?_
        refine Rp.getR dX11_waiting_6 fk_X11_10 rfl (S _ _ rfl) (R _ _ _ rfl) ?_
        refine Rp.iload_n dX11_waiting_9 rfl ?_
        refine Rp.callV1 M_X2_isPerson (ci := 2) dX11_waiting_10 mo_X2_isPerson lk_X11_125 (by decide) rfl rfl (S _ _ rfl) (Nat.le_of_ble_eq_true rfl) (Nat.le_of_ble_eq_true rfl) (ip) (fun v1 h1 p1 x1 => ?_)
        rw [p1.1, p1.2]
        try dsimp only [Option.toList, List.cons_append, List.nil_append, List.append]
        first | ((with_reducible show Rp _ _ _ _ (.int (b2i _) :: _) _ _); refine Rp.if_eqB (tgt := 29) dX11_waiting_13 (by decide) (fun c13 => ?_) (fun c13 => ?_)) | ((with_reducible show Rp _ _ _ _ (.int (nI _) :: _) _ _); refine Rp.if_eqN (tgt := 29) dX11_waiting_13 (by decide) (by omega) (fun c13 => ?_) (fun c13 => ?_)) | refine Rp.if_eq (tgt := 29) dX11_waiting_13 (by decide) (fun c13 => ?_) (fun c13 => ?_)
        · skip
          refine Rp.iconst (-1) dX11_waiting_29 (by decide) ?_
          refine Rp.ireturn dX11_waiting_30 rfl ?_
          exact ⟨by unfold waA; rw [if_neg cp, if_neg c], Fr.rfl'⟩
        · skip
          cases c13
end Cf
section Pd2
variable {L : Nat} {xs : Nat → Int32}
theorem p_day (a1 a2 : Int32) : Pr (Ivt L xs) 103 M_X11_day M_X12_day [.int a1, .int a2] :=
  pq (fun K np nt nd nl no LSs => dyA (dayF K (flO nl LSs (K 108)) nd np nt (fun _ => true) K 100) np a1 a2) lv_tzX lv_mdX
    (fun h np nt nd nl no LSs E US S R Z C => (t_day _ S R C.1 C.2.1.1 C.2.1.2.1 Z.1 C.2.1.2.2.1 C.2.1.2.2.2.1 a1 a2).imp (fun r g p => ⟨p.1, p.2, p.2.R R (by decide), p.2.fun (fun _ => rfl)⟩))
    (fun h np nt nd nl no LSs E US S R C => (s_day _ (C.mb S R) a1 a2).imp (fun r g p => ⟨p.1, p.2, p.2.R R (by decide), p.2.fun (fun _ => rfl)⟩))
theorem p_waiting (a1 : Int32) : Pr (Ivt L xs) 103 M_X11_waiting M_X12_waiting [.int a1] :=
  pq (fun K np nt nd nl no LSs => waA K (flO nl LSs (K 108)) nd np nt a1) lv_tzX lv_mdX
    (fun h np nt nd nl no LSs E US S R Z C => (t_waiting _ S R C.1 C.2.1.1 C.2.1.2.1 Z.1 C.2.1.2.2.1 C.2.1.2.2.2.1 a1).imp (fun r g p => ⟨p.1, p.2, p.2.R R (by decide), p.2.fun (fun _ => rfl)⟩))
    (fun h np nt nd nl no LSs E US S R C => (s_waiting _ (C.mb S R) a1).imp (fun r g p => ⟨p.1, p.2, p.2.R R (by decide), p.2.fun (fun _ => rfl)⟩))
end Pd2
