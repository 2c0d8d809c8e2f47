section MPe
variable (d : Nat) {h : AH}
theorem person_loop {H : AH} {P : Option Value → AH → Prop} (S0 : ShOK H) (R0 : RfOK H) (b p : Int32) {np : Nat} (hp : np < 6) (hk : Rp d M_X12_person 105 [some (.ref aM), some (.int b), some (.int p), some (.int (nI np)), some (.int (nI 8))] [] (wrI H am_kept (fun t => 19 + 8 * np + t) (fun _ => nI 0) 8) P) : ∀ (m t : Nat), t + m = 8 → Rp d M_X12_person 76 [some (.ref aM), some (.int b), some (.int p), some (.int (nI np)), some (.int (nI t))] [] (wrI H am_kept (fun t => 19 + 8 * np + t) (fun _ => nI 0) t) P := by
  intro m
  induction m with
  | zero =>
    intro t ht
    have e : t = 8 := by omega
    subst e
    refine Rp.iload dX12_person_76 rfl ?_
    refine Rp.bipush (nI 8) dX12_person_78 (by decide) ?_
    first | ((with_reducible show Rp _ _ _ _ (.int (nI _) :: .int (nI _) :: _) _ _); refine Rp.icmp_geN (tgt := 105) dX12_person_80 (by decide) (by omega) (fun c80 => ?_) (fun c80 => ?_)) | refine Rp.icmp_ge (tgt := 105) dX12_person_80 (by decide) (fun c80 => ?_) (fun c80 => ?_)
    · skip
      exact hk
    · skip
      exact absurd (Nat.le_refl 8) c80
  | succ m ih =>
    intro t ht
    have S := S0.wr am_kept (fun t => 19 + 8 * np + t) (fun _ => nI 0) t
    have R := R0.wr am_kept (fun t => 19 + 8 * np + t) (fun _ => nI 0) t
    refine Rp.iload dX12_person_76 rfl ?_
    refine Rp.bipush (nI 8) dX12_person_78 (by decide) ?_
    first | ((with_reducible show Rp _ _ _ _ (.int (nI _) :: .int (nI _) :: _) _ _); refine Rp.icmp_geN (tgt := 105) dX12_person_80 (by decide) (by omega) (fun c80 => ?_) (fun c80 => ?_)) | refine Rp.icmp_ge (tgt := 105) dX12_person_80 (by decide) (fun c80 => ?_) (fun c80 => ?_)
    · skip
      exact absurd c80 (by omega)
    · skip
      refine Rp.aload_n dX12_person_83 rfl rfl ?_
      refine Rp.getR dX12_person_84 fk_X12_24 rfl (S _ _ rfl) (R _ _ _ rfl) ?_
      refine Rp.bipush (nI 19) dX12_person_87 (by decide) ?_
      refine Rp.bipush (nI 8) dX12_person_89 (by decide) ?_
      refine Rp.iload_n dX12_person_91 rfl ?_
      first | ((with_reducible show Rp _ _ _ _ (.int (nI _) :: .int (nI _) :: _) _ _); refine Rp.imulN dX12_person_92 ?_) | refine Rp.imul dX12_person_92 ?_
      first | ((with_reducible show Rp _ _ _ _ (.int (nI _) :: .int (nI _) :: _) _ _); refine Rp.iaddN dX12_person_93 ?_) | refine Rp.iadd dX12_person_93 ?_
      refine Rp.iload dX12_person_94 rfl ?_
      first | ((with_reducible show Rp _ _ _ _ (.int (nI _) :: .int (nI _) :: _) _ _); refine Rp.iaddN dX12_person_96 ?_) | refine Rp.iadd dX12_person_96 ?_
      refine Rp.iconst (nI 0) dX12_person_97 (by decide) ?_
      first | ((with_reducible show Rp _ _ _ _ (_ :: .int (nI _) :: _) _ _); refine Rp.iastoreN dX12_person_98 (S _ _ rfl) (by omega) ?_) | refine Rp.iastore dX12_person_98 (S _ _ rfl) (by first | assumption | exact vpb (by decide)) ?_
      first | ((with_reducible show Rp _ _ _ (_ :: _ :: _ :: _ :: some (.int (nI _)) :: _) _ _ _); refine Rp.inc4N (c := 1) dX12_person_99 (by first | exact nl2_some rfl | exact nl2_none) (by decide) ?_) | refine Rp.inc4 _ dX12_person_99 rfl (by first | exact nl2_some rfl | exact nl2_none) (by decide) ?_
      refine Rp.goto (tgt := 76) dX12_person_102 (by decide) ?_
      exact ih (t + 1) (by omega)
def perH (h : AH) (b p : Int32) (np : Nat) : AH := wrI (sI (sI (sI h am_kept (7 + np) b) am_kept (13 + np) p) am_kept np (-1)) am_kept (fun t => 19 + 8 * np + t) (fun _ => nI 0) 8
def mPerson (h : AH) (b p : Int32) (np : Nat) : Int32 × AH := if inN b 5 && inN p 100 then (if np = 6 then (-nI 5, rfH h 5) else (nI np, gaH (sI (perH h b p np) am_kept 103 (nI (np + 1))))) else (-nI 1, rfH h 1)
theorem person_end (h : AH) (b p : Int32) {np : Nat} (hp : np ≤ 6) (hM : gI h am_kept 103 = nI np) (c4 : inN b 5 = true) (c14 : inN p 100 = true) (c34 : ¬ np = 6) (H : AH) (eH : H = perH h b p np) (S : ShOK H) (R : RfOK H) : Rp (d + 2) M_X12_person 105 [some (.ref aM), some (.int b), some (.int p), some (.int (nI np)), some (.int (nI 8))] [] H (fun r h' => h' = (mPerson h b p np).2 ∧ r = some (.int (mPerson h b p np).1)) := by
  have hc : gI H 102 103 = nI np := by
    rw [eH]
    unfold perH
    rw [gI_wrI_out _ _ _ _ _ (fun i hi => by omega), gI_sI, if_pos rfl, if_neg (by omega), gI_sI, if_pos rfl, if_neg (by omega), gI_sI, if_pos rfl, if_neg (by omega)]
    exact hM
  refine Rp.aload_n dX12_person_105 rfl rfl ?_
  refine Rp.getR dX12_person_106 fk_X12_24 rfl (S _ _ rfl) (R _ _ _ rfl) ?_
  refine Rp.bipush (nI 103) dX12_person_109 (by decide) ?_
  refine Rp.dup2 dX12_person_111 rfl rfl ?_
  first | ((with_reducible show Rp _ _ _ _ (.int (nI _) :: _) _ _); refine Rp.ialoadN dX12_person_112 (S _ _ rfl) (by omega) ?_) | refine Rp.iaload dX12_person_112 (S _ _ rfl) (by first | assumption | exact vpb (by decide)) ?_
  rw [hc]
  refine Rp.iconst (nI 1) dX12_person_113 (by decide) ?_
  first | ((with_reducible show Rp _ _ _ _ (.int (nI _) :: .int (nI _) :: _) _ _); refine Rp.iaddN dX12_person_114 ?_) | refine Rp.iadd dX12_person_114 ?_
  first | ((with_reducible show Rp _ _ _ _ (_ :: .int (nI _) :: _) _ _); refine Rp.iastoreN dX12_person_115 (S _ _ rfl) (by omega) ?_) | refine Rp.iastore dX12_person_115 (S _ _ rfl) (by first | assumption | exact vpb (by decide)) ?_
  refine Rp.aload_n dX12_person_116 rfl rfl ?_
  refine Rp.iload_n dX12_person_117 rfl ?_
  refine Rp.callV1 M_X12_goodAnew (ci := 12) dX12_person_118 mo_X12_goodAnew lk_X12_124 (by decide) rfl rfl (S _ _ rfl) (Nat.le_of_ble_eq_true rfl) (Nat.le_of_ble_eq_true rfl) (s_goodAnew d (h := sI H am_kept 103 (nI (np + 1))) S _) (fun v1 h1 p1 x1 => ?_)
  rw [p1.1, p1.2]
  try dsimp only [Option.toList, List.cons_append, List.nil_append, List.append]
  refine Rp.ireturn dX12_person_121 rfl ?_
  rw [eH]
  simp [mPerson, c4, c14, c34, gaH]
set_option maxHeartbeats 4000000 in
theorem s_person (S : ShOK h) (R : RfOK h) (b p : Int32) {np : Nat} (hp : np ≤ 6) (hM : gI h am_kept 103 = nI np) : Rp (d + 2) M_X12_person 0 [some (.ref aM), some (.int b), some (.int p), none, none] [] h (fun r h' => h' = (mPerson h b p np).2 ∧ r = some (.int (mPerson h b p np).1)) := by
  refine Rp.iload_n dX12_person_0 rfl ?_
  refine Rp.callS1 M_X12_isKind dX12_person_1 mo_X12_isKind lk_X12_127 (Nat.le_of_ble_eq_true rfl) (Nat.le_of_ble_eq_true rfl) (s_isKind d b) (fun v1 h1 p1 x1 => ?_)
  rw [p1.1, p1.2]
  try dsimp only [Option.toList, List.cons_append, List.nil_append, List.append]
  first | ((with_reducible show Rp _ _ _ _ (.int (b2i _) :: _) _ _); refine Rp.if_eqB (tgt := 17) dX12_person_4 (by decide) (fun c4 => ?_) (fun c4 => ?_)) | ((with_reducible show Rp _ _ _ _ (.int (nI _) :: _) _ _); refine Rp.if_eqN (tgt := 17) dX12_person_4 (by decide) (by omega) (fun c4 => ?_) (fun c4 => ?_)) | refine Rp.if_eq (tgt := 17) dX12_person_4 (by decide) (fun c4 => ?_) (fun c4 => ?_)
  · skip
    refine Rp.aload_n dX12_person_17 rfl rfl ?_
    refine Rp.iconst (-1) dX12_person_18 (by decide) ?_
    refine Rp.callV1 M_X12_refuses (ci := 12) dX12_person_19 mo_X12_refuses lk_X12_121 (by decide) rfl rfl (S _ _ rfl) (Nat.le_of_ble_eq_true rfl) (Nat.le_of_ble_eq_true rfl) (s_refuses (d + 1) S R 1 (by decide)) (fun v1 h1 p1 x1 => ?_)
    rw [p1.1, p1.2]
    try dsimp only [Option.toList, List.cons_append, List.nil_append, List.append]
    refine Rp.ireturn dX12_person_22 rfl ?_
    simp only [mPerson, c4]
    try simp only [c14]
    exact ⟨rfl, rfl⟩
  · skip
    refine Rp.iload_n dX12_person_7 rfl ?_
    refine Rp.iconst (nI 0) dX12_person_8 (by decide) ?_
    refine Rp.bipush (nI 99) dX12_person_9 (by decide) ?_
    refine Rp.callS3 M_X12_lies dX12_person_11 mo_X12_lies lk_X12_117 (Nat.le_of_ble_eq_true rfl) (Nat.le_of_ble_eq_true rfl) (s_lies (d + 1) h p (nI 0) (nI 99)) (fun v1 h1 p1 x1 => ?_)
    rw [p1.1, p1.2, inN_lies' (by omega)]
    try dsimp only [Option.toList, List.cons_append, List.nil_append, List.append]
    first | ((with_reducible show Rp _ _ _ _ (.int (b2i _) :: _) _ _); refine Rp.if_neB (tgt := 23) dX12_person_14 (by decide) (fun c14 => ?_) (fun c14 => ?_)) | ((with_reducible show Rp _ _ _ _ (.int (nI _) :: _) _ _); refine Rp.if_neN (tgt := 23) dX12_person_14 (by decide) (by omega) (fun c14 => ?_) (fun c14 => ?_)) | refine Rp.if_ne (tgt := 23) dX12_person_14 (by decide) (fun c14 => ?_) (fun c14 => ?_)
    · skip
      refine Rp.aload_n dX12_person_23 rfl rfl ?_
      refine Rp.getR dX12_person_24 fk_X12_24 rfl (S _ _ rfl) (R _ _ _ rfl) ?_
      refine Rp.bipush (nI 103) dX12_person_27 (by decide) ?_
      first | ((with_reducible show Rp _ _ _ _ (.int (nI _) :: _) _ _); refine Rp.ialoadN dX12_person_29 (S _ _ rfl) (by omega) ?_) | refine Rp.iaload dX12_person_29 (S _ _ rfl) (by first | assumption | exact vpb (by decide)) ?_
      rw [show gI h 102 103 = nI np from hM]
      refine Rp.ist3 dX12_person_30 (by first | exact nl2_some rfl | exact nl2_none) (by decide) ?_
      refine Rp.iload_n dX12_person_31 rfl ?_
      refine Rp.bipush (nI 6) dX12_person_32 (by decide) ?_
      first | ((with_reducible show Rp _ _ _ _ (.int (nI _) :: .int (nI _) :: _) _ _); refine Rp.icmp_neN (tgt := 44) dX12_person_34 (by decide) (by omega) (fun c34 => ?_) (fun c34 => ?_)) | refine Rp.icmp_ne (tgt := 44) dX12_person_34 (by decide) (fun c34 => ?_) (fun c34 => ?_)
      · skip
        refine Rp.aload_n dX12_person_44 rfl rfl ?_
        refine Rp.getR dX12_person_45 fk_X12_24 rfl (S _ _ rfl) (R _ _ _ rfl) ?_
        refine Rp.bipush (nI 7) dX12_person_48 (by decide) ?_
        refine Rp.iload_n dX12_person_50 rfl ?_
        first | ((with_reducible show Rp _ _ _ _ (.int (nI _) :: .int (nI _) :: _) _ _); refine Rp.iaddN dX12_person_51 ?_) | refine Rp.iadd dX12_person_51 ?_
        refine Rp.iload_n dX12_person_52 rfl ?_
        first | ((with_reducible show Rp _ _ _ _ (_ :: .int (nI _) :: _) _ _); refine Rp.iastoreN dX12_person_53 (S _ _ rfl) (by omega) ?_) | refine Rp.iastore dX12_person_53 (S _ _ rfl) (by first | assumption | exact vpb (by decide)) ?_
        refine Rp.aload_n dX12_person_54 rfl rfl ?_
        refine Rp.getR dX12_person_55 fk_X12_24 rfl (S _ _ rfl) (R _ _ _ rfl) ?_
        refine Rp.bipush (nI 13) dX12_person_58 (by decide) ?_
        refine Rp.iload_n dX12_person_60 rfl ?_
        first | ((with_reducible show Rp _ _ _ _ (.int (nI _) :: .int (nI _) :: _) _ _); refine Rp.iaddN dX12_person_61 ?_) | refine Rp.iadd dX12_person_61 ?_
        refine Rp.iload_n dX12_person_62 rfl ?_
        first | ((with_reducible show Rp _ _ _ _ (_ :: .int (nI _) :: _) _ _); refine Rp.iastoreN dX12_person_63 (S _ _ rfl) (by omega) ?_) | refine Rp.iastore dX12_person_63 (S _ _ rfl) (by first | assumption | exact vpb (by decide)) ?_
        refine Rp.aload_n dX12_person_64 rfl rfl ?_
        refine Rp.getR dX12_person_65 fk_X12_24 rfl (S _ _ rfl) (R _ _ _ rfl) ?_
        refine Rp.iconst (nI 0) dX12_person_68 (by decide) ?_
        refine Rp.iload_n dX12_person_69 rfl ?_
        first | ((with_reducible show Rp _ _ _ _ (.int (nI _) :: .int (nI _) :: _) _ _); refine Rp.iaddN dX12_person_70 ?_) | refine Rp.iadd dX12_person_70 ?_
        rw [Nat.zero_add np]
        refine Rp.iconst (-1) dX12_person_71 (by decide) ?_
        first | ((with_reducible show Rp _ _ _ _ (_ :: .int (nI _) :: _) _ _); refine Rp.iastoreN dX12_person_72 (S _ _ rfl) (by omega) ?_) | refine Rp.iastore dX12_person_72 (S _ _ rfl) (by first | assumption | exact vpb (by decide)) ?_
        refine Rp.iconst (nI 0) dX12_person_73 (by decide) ?_
        refine Rp.ist4 dX12_person_74 (by first | exact nl2_some rfl | exact nl2_none) (by decide) ?_
        refine person_loop (d + 2) (H := sI (sI (sI h am_kept (7 + np) b) am_kept (13 + np) p) am_kept np (-1)) S R b p (show np < 6 by omega) ?_ 8 0 (by omega)
        have S2 := ShOK.wr (h := sI (sI (sI h am_kept (7 + np) b) am_kept (13 + np) p) am_kept np (-1)) S am_kept (fun t => 19 + 8 * np + t) (fun _ => nI 0) 8
        have R2 := RfOK.wr (h := sI (sI (sI h am_kept (7 + np) b) am_kept (13 + np) p) am_kept np (-1)) R am_kept (fun t => 19 + 8 * np + t) (fun _ => nI 0) 8
        exact person_end d h b p hp hM c4 c14 c34 _ rfl S2 R2
      · skip
        refine Rp.aload_n dX12_person_37 rfl rfl ?_
        refine Rp.bipush (-5) dX12_person_38 (by decide) ?_
        refine Rp.callV1 M_X12_refuses (ci := 12) dX12_person_40 mo_X12_refuses lk_X12_121 (by decide) rfl rfl (S _ _ rfl) (Nat.le_of_ble_eq_true rfl) (Nat.le_of_ble_eq_true rfl) (s_refuses (d + 1) S R 5 (by decide)) (fun v1 h1 p1 x1 => ?_)
        rw [p1.1, p1.2]
        try dsimp only [Option.toList, List.cons_append, List.nil_append, List.append]
        refine Rp.ireturn dX12_person_43 rfl ?_
        simp [mPerson, c4, c14, c34, rfH]
    · skip
      refine Rp.aload_n dX12_person_17 rfl rfl ?_
      refine Rp.iconst (-1) dX12_person_18 (by decide) ?_
      refine Rp.callV1 M_X12_refuses (ci := 12) dX12_person_19 mo_X12_refuses lk_X12_121 (by decide) rfl rfl (S _ _ rfl) (Nat.le_of_ble_eq_true rfl) (Nat.le_of_ble_eq_true rfl) (s_refuses (d + 1) S R 1 (by decide)) (fun v1 h1 p1 x1 => ?_)
      rw [p1.1, p1.2]
      try dsimp only [Option.toList, List.cons_append, List.nil_append, List.append]
      refine Rp.ireturn dX12_person_22 rfl ?_
      simp only [mPerson, c4]
      try simp only [c14]
      exact ⟨rfl, rfl⟩

theorem addsTicket_loop {H : AH} {P : Option Value → AH → Prop} (S0 : ShOK H) (R0 : RfOK H) (x k : Int32) {nt : Nat} (ht : nt < 8) (hk : Rp d M_X12_addsTicket 60 [some (.ref aM), some (.int x), some (.int k), some (.int (nI nt)), some (.int (nI 6))] [] (wrI H am_kept (fun p => 19 + 8 * p + nt) (fun _ => nI 0) 6) P) : ∀ (m p : Nat), p + m = 6 → Rp d M_X12_addsTicket 31 [some (.ref aM), some (.int x), some (.int k), some (.int (nI nt)), some (.int (nI p))] [] (wrI H am_kept (fun p => 19 + 8 * p + nt) (fun _ => nI 0) p) P := by
  intro m
  induction m with
  | zero =>
    intro p hp
    have e : p = 6 := by omega
    subst e
    refine Rp.iload dX12_addsTicket_31 rfl ?_
    refine Rp.bipush (nI 6) dX12_addsTicket_33 (by decide) ?_
    first | ((with_reducible show Rp _ _ _ _ (.int (nI _) :: .int (nI _) :: _) _ _); refine Rp.icmp_geN (tgt := 60) dX12_addsTicket_35 (by decide) (by omega) (fun c35 => ?_) (fun c35 => ?_)) | refine Rp.icmp_ge (tgt := 60) dX12_addsTicket_35 (by decide) (fun c35 => ?_) (fun c35 => ?_)
    · skip
      exact hk
    · skip
      exact absurd (Nat.le_refl 6) c35
  | succ m ih =>
    intro p hp
    have S := S0.wr am_kept (fun p => 19 + 8 * p + nt) (fun _ => nI 0) p
    have R := R0.wr am_kept (fun p => 19 + 8 * p + nt) (fun _ => nI 0) p
    refine Rp.iload dX12_addsTicket_31 rfl ?_
    refine Rp.bipush (nI 6) dX12_addsTicket_33 (by decide) ?_
    first | ((with_reducible show Rp _ _ _ _ (.int (nI _) :: .int (nI _) :: _) _ _); refine Rp.icmp_geN (tgt := 60) dX12_addsTicket_35 (by decide) (by omega) (fun c35 => ?_) (fun c35 => ?_)) | refine Rp.icmp_ge (tgt := 60) dX12_addsTicket_35 (by decide) (fun c35 => ?_) (fun c35 => ?_)
    · skip
      exact absurd c35 (by omega)
    · skip
      refine Rp.aload_n dX12_addsTicket_38 rfl rfl ?_
      refine Rp.getR dX12_addsTicket_39 fk_X12_24 rfl (S _ _ rfl) (R _ _ _ rfl) ?_
      refine Rp.bipush (nI 19) dX12_addsTicket_42 (by decide) ?_
      refine Rp.bipush (nI 8) dX12_addsTicket_44 (by decide) ?_
      refine Rp.iload dX12_addsTicket_46 rfl ?_
      first | ((with_reducible show Rp _ _ _ _ (.int (nI _) :: .int (nI _) :: _) _ _); refine Rp.imulN dX12_addsTicket_48 ?_) | refine Rp.imul dX12_addsTicket_48 ?_
      first | ((with_reducible show Rp _ _ _ _ (.int (nI _) :: .int (nI _) :: _) _ _); refine Rp.iaddN dX12_addsTicket_49 ?_) | refine Rp.iadd dX12_addsTicket_49 ?_
      refine Rp.iload_n dX12_addsTicket_50 rfl ?_
      first | ((with_reducible show Rp _ _ _ _ (.int (nI _) :: .int (nI _) :: _) _ _); refine Rp.iaddN dX12_addsTicket_51 ?_) | refine Rp.iadd dX12_addsTicket_51 ?_
      refine Rp.iconst (nI 0) dX12_addsTicket_52 (by decide) ?_
      first | ((with_reducible show Rp _ _ _ _ (_ :: .int (nI _) :: _) _ _); refine Rp.iastoreN dX12_addsTicket_53 (S _ _ rfl) (by omega) ?_) | refine Rp.iastore dX12_addsTicket_53 (S _ _ rfl) (by first | assumption | exact vpb (by decide)) ?_
      first | ((with_reducible show Rp _ _ _ (_ :: _ :: _ :: _ :: some (.int (nI _)) :: _) _ _ _); refine Rp.inc4N (c := 1) dX12_addsTicket_54 (by first | exact nl2_some rfl | exact nl2_none) (by decide) ?_) | refine Rp.inc4 _ dX12_addsTicket_54 rfl (by first | exact nl2_some rfl | exact nl2_none) (by decide) ?_
      refine Rp.goto (tgt := 31) dX12_addsTicket_57 (by decide) ?_
      exact ih (p + 1) (by omega)
def tikH (h : AH) (x k : Int32) (nt : Nat) : AH := wrI (sI (sI h am_kept (67 + nt) x) am_kept (75 + nt) k) am_kept (fun p => 19 + 8 * p + nt) (fun _ => nI 0) 6
theorem tikH_c (h : AH) (x k : Int32) {nt : Nat} (ht : nt < 8) (hM : gI h am_kept 104 = nI nt) : gI (tikH h x k nt) 102 104 = nI nt := by
  unfold tikH
  rw [gI_wrI_out _ _ _ _ _ (fun i hi => by omega), gI_sI, if_pos rfl, if_neg (by omega), gI_sI, if_pos rfl, if_neg (by omega)]
  exact hM
def adT (h : AH) (x k : Int32) (nt : Nat) : AH := sI (tikH h x k nt) am_kept 104 (nI (nt + 1))
theorem addsTicket_end (h : AH) (x k : Int32) {nt : Nat} (ht : nt < 8) (hM : gI h am_kept 104 = nI nt) (H : AH) (eH : H = tikH h x k nt) (S : ShOK H) (R : RfOK H) : Rp d M_X12_addsTicket 60 [some (.ref aM), some (.int x), some (.int k), some (.int (nI nt)), some (.int (nI 6))] [] H (fun r h' => h' = adT h x k nt ∧ r = none) := by
  have hc : gI H 102 104 = nI nt := by rw [eH]; exact tikH_c h x k ht hM
  refine Rp.aload_n dX12_addsTicket_60 rfl rfl ?_
  refine Rp.getR dX12_addsTicket_61 fk_X12_24 rfl (S _ _ rfl) (R _ _ _ rfl) ?_
  refine Rp.bipush (nI 104) dX12_addsTicket_64 (by decide) ?_
  refine Rp.dup2 dX12_addsTicket_66 rfl rfl ?_
  first | ((with_reducible show Rp _ _ _ _ (.int (nI _) :: _) _ _); refine Rp.ialoadN dX12_addsTicket_67 (S _ _ rfl) (by omega) ?_) | refine Rp.iaload dX12_addsTicket_67 (S _ _ rfl) (by first | assumption | exact vpb (by decide)) ?_
  rw [hc]
  refine Rp.iconst (nI 1) dX12_addsTicket_68 (by decide) ?_
  first | ((with_reducible show Rp _ _ _ _ (.int (nI _) :: .int (nI _) :: _) _ _); refine Rp.iaddN dX12_addsTicket_69 ?_) | refine Rp.iadd dX12_addsTicket_69 ?_
  first | ((with_reducible show Rp _ _ _ _ (_ :: .int (nI _) :: _) _ _); refine Rp.iastoreN dX12_addsTicket_70 (S _ _ rfl) (by omega) ?_) | refine Rp.iastore dX12_addsTicket_70 (S _ _ rfl) (by first | assumption | exact vpb (by decide)) ?_
  refine Rp.vreturn dX12_addsTicket_71 rfl ?_
  rw [eH]
  exact ⟨rfl, rfl⟩
theorem s_addsTicket (S : ShOK h) (R : RfOK h) (x k : Int32) {nt : Nat} (ht : nt < 8) (hM : gI h am_kept 104 = nI nt) : Rp d M_X12_addsTicket 0 [some (.ref aM), some (.int x), some (.int k), none, none] [] h (fun r h' => h' = adT h x k nt ∧ r = none) := by
  refine Rp.aload_n dX12_addsTicket_0 rfl rfl ?_
  refine Rp.getR dX12_addsTicket_1 fk_X12_24 rfl (S _ _ rfl) (R _ _ _ rfl) ?_
  refine Rp.bipush (nI 104) dX12_addsTicket_4 (by decide) ?_
  first | ((with_reducible show Rp _ _ _ _ (.int (nI _) :: _) _ _); refine Rp.ialoadN dX12_addsTicket_6 (S _ _ rfl) (by omega) ?_) | refine Rp.iaload dX12_addsTicket_6 (S _ _ rfl) (by first | assumption | exact vpb (by decide)) ?_
  rw [show gI h 102 104 = nI nt from hM]
  refine Rp.ist3 dX12_addsTicket_7 (by first | exact nl2_some rfl | exact nl2_none) (by decide) ?_
  refine Rp.aload_n dX12_addsTicket_8 rfl rfl ?_
  refine Rp.getR dX12_addsTicket_9 fk_X12_24 rfl (S _ _ rfl) (R _ _ _ rfl) ?_
  refine Rp.bipush (nI 67) dX12_addsTicket_12 (by decide) ?_
  refine Rp.iload_n dX12_addsTicket_14 rfl ?_
  first | ((with_reducible show Rp _ _ _ _ (.int (nI _) :: .int (nI _) :: _) _ _); refine Rp.iaddN dX12_addsTicket_15 ?_) | refine Rp.iadd dX12_addsTicket_15 ?_
  refine Rp.iload_n dX12_addsTicket_16 rfl ?_
  first | ((with_reducible show Rp _ _ _ _ (_ :: .int (nI _) :: _) _ _); refine Rp.iastoreN dX12_addsTicket_17 (S _ _ rfl) (by omega) ?_) | refine Rp.iastore dX12_addsTicket_17 (S _ _ rfl) (by first | assumption | exact vpb (by decide)) ?_
  refine Rp.aload_n dX12_addsTicket_18 rfl rfl ?_
  refine Rp.getR dX12_addsTicket_19 fk_X12_24 rfl (S _ _ rfl) (R _ _ _ rfl) ?_
  refine Rp.bipush (nI 75) dX12_addsTicket_22 (by decide) ?_
  refine Rp.iload_n dX12_addsTicket_24 rfl ?_
  first | ((with_reducible show Rp _ _ _ _ (.int (nI _) :: .int (nI _) :: _) _ _); refine Rp.iaddN dX12_addsTicket_25 ?_) | refine Rp.iadd dX12_addsTicket_25 ?_
  refine Rp.iload_n dX12_addsTicket_26 rfl ?_
  first | ((with_reducible show Rp _ _ _ _ (_ :: .int (nI _) :: _) _ _); refine Rp.iastoreN dX12_addsTicket_27 (S _ _ rfl) (by omega) ?_) | refine Rp.iastore dX12_addsTicket_27 (S _ _ rfl) (by first | assumption | exact vpb (by decide)) ?_
  refine Rp.iconst (nI 0) dX12_addsTicket_28 (by decide) ?_
  refine Rp.ist4 dX12_addsTicket_29 (by first | exact nl2_some rfl | exact nl2_none) (by decide) ?_
  refine addsTicket_loop d (H := sI (sI h am_kept (67 + nt) x) am_kept (75 + nt) k) S R x k ht ?_ 6 0 (by omega)
  exact addsTicket_end d h x k ht hM _ rfl (ShOK.wr (h := sI (sI h am_kept (67 + nt) x) am_kept (75 + nt) k) S am_kept (fun p => 19 + 8 * p + nt) (fun _ => nI 0) 6) (RfOK.wr (h := sI (sI h am_kept (67 + nt) x) am_kept (75 + nt) k) R am_kept (fun p => 19 + 8 * p + nt) (fun _ => nI 0) 6)
abbrev canT (x k : Int32) : Bool := decide (nI 1 ≤ x ∧ x ≤ nI 99) && inN k 5
abbrev numd (h : AH) (x : Int32) (nt : Nat) : Bool := nOf (fun i => gI h am_kept (67 + i)) x 0 nt
def mTicket (h : AH) (x k : Int32) (nt : Nat) : Int32 × AH := if canT x k then (if numd h x nt then (-nI 3, rfH h 3) else if nt = 8 then (-nI 5, rfH h 5) else (nI nt, gaH (adT h x k nt))) else (-nI 1, rfH h 1)
theorem adT_1 (h : AH) (x k : Int32) (nt : Nat) : (adT h x k nt).1 = h.1 := by
  unfold adT tikH
  rw [sI_1, wrI_1, sI_1, sI_1]
theorem adT_S {h : AH} (S : ShOK h) (x k : Int32) (nt : Nat) : ShOK (adT h x k nt) := fun a q hq => by rw [adT_1]; exact S a q hq
theorem adT_R {h : AH} (R : RfOK h) (x k : Int32) (nt : Nat) : RfOK (adT h x k nt) := fun a j r hr => by
  unfold adT tikH
  rw [gR_sI, gR_wrI, gR_sI, gR_sI]
  exact R a j r hr
theorem adT_c (h : AH) (x k : Int32) (nt : Nat) : gI (adT h x k nt) 102 104 = nI (nt + 1) := by
  unfold adT
  rw [gI_sI, if_pos rfl, if_pos rfl]
set_option maxHeartbeats 4000000 in
theorem s_ticket (S : ShOK h) (R : RfOK h) (x k : Int32) {nt : Nat} (ht : nt ≤ 8) (hM : gI h am_kept 104 = nI nt) : Rp (d + 3) M_X12_ticket 0 [some (.ref aM), some (.int x), some (.int k)] [] h (fun r h' => h' = (mTicket h x k nt).2 ∧ r = some (.int (mTicket h x k nt).1)) := by
  refine Rp.aload_n dX12_ticket_0 rfl rfl ?_
  refine Rp.iload_n dX12_ticket_1 rfl ?_
  refine Rp.iload_n dX12_ticket_2 rfl ?_
  refine Rp.callV2 M_X12_canTicket (ci := 12) dX12_ticket_3 mo_X12_canTicket lk_X12_137 (by decide) rfl rfl (S _ _ rfl) (Nat.le_of_ble_eq_true rfl) (Nat.le_of_ble_eq_true rfl) (s_canTicket d S x k) (fun v1 h1 p1 x1 => ?_)
  rw [p1.1, p1.2]
  try dsimp only [Option.toList, List.cons_append, List.nil_append, List.append]
  first | ((with_reducible show Rp _ _ _ _ (.int (b2i _) :: _) _ _); refine Rp.if_neB (tgt := 15) dX12_ticket_6 (by decide) (fun c6 => ?_) (fun c6 => ?_)) | ((with_reducible show Rp _ _ _ _ (.int (nI _) :: _) _ _); refine Rp.if_neN (tgt := 15) dX12_ticket_6 (by decide) (by omega) (fun c6 => ?_) (fun c6 => ?_)) | refine Rp.if_ne (tgt := 15) dX12_ticket_6 (by decide) (fun c6 => ?_) (fun c6 => ?_)
  · skip
    refine Rp.aload_n dX12_ticket_15 rfl rfl ?_
    refine Rp.iload_n dX12_ticket_16 rfl ?_
    refine Rp.callV1 M_X12_isNumbered (ci := 12) dX12_ticket_17 mo_X12_isNumbered lk_X12_141 (by decide) rfl rfl (S _ _ rfl) (Nat.le_of_ble_eq_true rfl) (Nat.le_of_ble_eq_true rfl) (s_isNumbered (d + 2) S R x ht hM) (fun v1 h1 p1 x1 => ?_)
    rw [p1.1, p1.2]
    try dsimp only [Option.toList, List.cons_append, List.nil_append, List.append]
    first | ((with_reducible show Rp _ _ _ _ (.int (b2i _) :: _) _ _); refine Rp.if_eqB (tgt := 30) dX12_ticket_20 (by decide) (fun c20 => ?_) (fun c20 => ?_)) | ((with_reducible show Rp _ _ _ _ (.int (nI _) :: _) _ _); refine Rp.if_eqN (tgt := 30) dX12_ticket_20 (by decide) (by omega) (fun c20 => ?_) (fun c20 => ?_)) | refine Rp.if_eq (tgt := 30) dX12_ticket_20 (by decide) (fun c20 => ?_) (fun c20 => ?_)
    · skip
      refine Rp.aload_n dX12_ticket_30 rfl rfl ?_
      refine Rp.getR dX12_ticket_31 fk_X12_24 rfl (S _ _ rfl) (R _ _ _ rfl) ?_
      refine Rp.bipush (nI 104) dX12_ticket_34 (by decide) ?_
      first | ((with_reducible show Rp _ _ _ _ (.int (nI _) :: _) _ _); refine Rp.ialoadN dX12_ticket_36 (S _ _ rfl) (by omega) ?_) | refine Rp.iaload dX12_ticket_36 (S _ _ rfl) (by first | assumption | exact vpb (by decide)) ?_
      rw [show gI h 102 104 = nI nt from hM]
      refine Rp.bipush (nI 8) dX12_ticket_37 (by decide) ?_
      first | ((with_reducible show Rp _ _ _ _ (.int (nI _) :: .int (nI _) :: _) _ _); refine Rp.icmp_neN (tgt := 49) dX12_ticket_39 (by decide) (by omega) (fun c39 => ?_) (fun c39 => ?_)) | refine Rp.icmp_ne (tgt := 49) dX12_ticket_39 (by decide) (fun c39 => ?_) (fun c39 => ?_)
      · skip
        refine Rp.aload_n dX12_ticket_49 rfl rfl ?_
        refine Rp.iload_n dX12_ticket_50 rfl ?_
        refine Rp.iload_n dX12_ticket_51 rfl ?_
        refine Rp.callV2 M_X12_addsTicket (ci := 12) dX12_ticket_52 mo_X12_addsTicket lk_X12_144 (by decide) rfl rfl (S _ _ rfl) (Nat.le_of_ble_eq_true rfl) (Nat.le_of_ble_eq_true rfl) (s_addsTicket (d + 2) S R x k (show nt < 8 by omega) hM) (fun v1 h1 p1 x1 => ?_)
        have e1 := p1.1
        rw [p1.2]
        have S : ShOK h1 := by rw [e1]; exact adT_S S x k nt
        have R : RfOK h1 := by rw [e1]; exact adT_R R x k nt
        have hc : gI h1 102 104 = nI (nt + 1) := by rw [e1]; exact adT_c h x k nt
        try dsimp only [Option.toList, List.cons_append, List.nil_append, List.append]
        refine Rp.aload_n dX12_ticket_55 rfl rfl ?_
        refine Rp.aload_n dX12_ticket_56 rfl rfl ?_
        refine Rp.getR dX12_ticket_57 fk_X12_24 rfl (S _ _ rfl) (R _ _ _ rfl) ?_
        refine Rp.bipush (nI 104) dX12_ticket_60 (by decide) ?_
        first | ((with_reducible show Rp _ _ _ _ (.int (nI _) :: _) _ _); refine Rp.ialoadN dX12_ticket_62 (S _ _ rfl) (by omega) ?_) | refine Rp.iaload dX12_ticket_62 (S _ _ rfl) (by first | assumption | exact vpb (by decide)) ?_
        rw [hc]
        refine Rp.iconst (nI 1) dX12_ticket_63 (by decide) ?_
        first | ((with_reducible show Rp _ _ _ _ (.int (nI _) :: .int (nI _) :: _) _ _); refine Rp.isubN dX12_ticket_64 (by omega) ?_) | refine Rp.isub dX12_ticket_64 ?_
        rw [show nt + 1 - 1 = nt by omega]
        refine Rp.callV1 M_X12_goodAnew (ci := 12) dX12_ticket_65 mo_X12_goodAnew lk_X12_124 (by decide) rfl rfl (S _ _ rfl) (Nat.le_of_ble_eq_true rfl) (Nat.le_of_ble_eq_true rfl) (s_goodAnew (d + 1) (h := h1) S (nI nt)) (fun v1 h1 p1 x1 => ?_)
        rw [p1.1, p1.2]
        try dsimp only [Option.toList, List.cons_append, List.nil_append, List.append]
        refine Rp.ireturn dX12_ticket_68 rfl ?_
        unfold mTicket
        rw [show canT x k = true from c6, show numd h x nt = false from c20]
        rw [e1]
        simp [c39, gaH]
      · skip
        refine Rp.aload_n dX12_ticket_42 rfl rfl ?_
        refine Rp.bipush (-5) dX12_ticket_43 (by decide) ?_
        refine Rp.callV1 M_X12_refuses (ci := 12) dX12_ticket_45 mo_X12_refuses lk_X12_121 (by decide) rfl rfl (S _ _ rfl) (Nat.le_of_ble_eq_true rfl) (Nat.le_of_ble_eq_true rfl) (s_refuses (d + 2) S R 5 (by decide)) (fun v1 h1 p1 x1 => ?_)
        rw [p1.1, p1.2]
        try dsimp only [Option.toList, List.cons_append, List.nil_append, List.append]
        refine Rp.ireturn dX12_ticket_48 rfl ?_
        unfold mTicket
        rw [show canT x k = true from c6, show numd h x nt = false from c20]
        simp [c39, rfH]
    · skip
      refine Rp.aload_n dX12_ticket_23 rfl rfl ?_
      refine Rp.bipush (-3) dX12_ticket_24 (by decide) ?_
      refine Rp.callV1 M_X12_refuses (ci := 12) dX12_ticket_26 mo_X12_refuses lk_X12_121 (by decide) rfl rfl (S _ _ rfl) (Nat.le_of_ble_eq_true rfl) (Nat.le_of_ble_eq_true rfl) (s_refuses (d + 2) S R 3 (by decide)) (fun v1 h1 p1 x1 => ?_)
      rw [p1.1, p1.2]
      try dsimp only [Option.toList, List.cons_append, List.nil_append, List.append]
      refine Rp.ireturn dX12_ticket_29 rfl ?_
      unfold mTicket
      rw [show canT x k = true from c6, show numd h x nt = true from c20]
      exact ⟨rfl, rfl⟩
  · skip
    refine Rp.aload_n dX12_ticket_9 rfl rfl ?_
    refine Rp.iconst (-1) dX12_ticket_10 (by decide) ?_
    refine Rp.callV1 M_X12_refuses (ci := 12) dX12_ticket_11 mo_X12_refuses lk_X12_121 (by decide) rfl rfl (S _ _ rfl) (Nat.le_of_ble_eq_true rfl) (Nat.le_of_ble_eq_true rfl) (s_refuses (d + 2) S R 1 (by decide)) (fun v1 h1 p1 x1 => ?_)
    rw [p1.1, p1.2]
    try dsimp only [Option.toList, List.cons_append, List.nil_append, List.append]
    refine Rp.ireturn dX12_ticket_14 rfl ?_
    unfold mTicket
    rw [show canT x k = false from c6]
    exact ⟨rfl, rfl⟩
def mAt (h : AH) (t w : Int32) (np nt : Nat) : Int32 := if inN t nt then (if w = nI 0 then gI h am_kept (67 + ix t) else if w = nI 1 then gI h am_kept (75 + ix t) else if w = nI 2 then hOf (gI h am_kept) t np else -1) else -1
theorem s_at (S : ShOK h) (R : RfOK h) (t w : Int32) {np nt : Nat} (hp : np ≤ 6) (ht : nt ≤ 8) (hM : gI h am_kept 103 = nI np) (hT : gI h am_kept 104 = nI nt) : Rp (d + 2) M_X12_at 0 [some (.ref aM), some (.int t), some (.int w)] [] h (fun r h' => h' = h ∧ r = some (.int (mAt h t w np nt))) := by
  refine Rp.aload_n dX12_at_0 rfl rfl ?_
  refine Rp.iload_n dX12_at_1 rfl ?_
  refine Rp.callV1 M_X12_isTicket (ci := 12) dX12_at_2 mo_X12_isTicket lk_X12_148 (by decide) rfl rfl (S _ _ rfl) (Nat.le_of_ble_eq_true rfl) (Nat.le_of_ble_eq_true rfl) (s_isTicket d S R t ht hT) (fun v1 h1 p1 x1 => ?_)
  rw [p1.1, p1.2]
  try dsimp only [Option.toList, List.cons_append, List.nil_append, List.append]
  first | ((with_reducible show Rp _ _ _ _ (.int (b2i _) :: _) _ _); refine Rp.if_neB (tgt := 10) dX12_at_5 (by decide) (fun c5 => ?_) (fun c5 => ?_)) | ((with_reducible show Rp _ _ _ _ (.int (nI _) :: _) _ _); refine Rp.if_neN (tgt := 10) dX12_at_5 (by decide) (by omega) (fun c5 => ?_) (fun c5 => ?_)) | refine Rp.if_ne (tgt := 10) dX12_at_5 (by decide) (fun c5 => ?_) (fun c5 => ?_)
  · skip
    obtain ⟨q, hq, rfl⟩ := (inN_iff (by omega)).mp c5
    have eq := ix_nI (show q < 2147483648 by omega)
    refine Rp.iload_n dX12_at_10 rfl ?_
    by_cases hx11 : inN w 3 = true
    · obtain ⟨j11, hj11, rfl⟩ := (inN_iff (by omega)).mp hx11
      match j11, hj11 with
      | 0, _ =>
        refine Rp.tableIn (tgt := 36) (off := 25) dX12_at_11 (by decide) (by decide) (by decide) (by decide) ?_
        refine Rp.aload_n dX12_at_36 rfl rfl ?_
        refine Rp.getR dX12_at_37 fk_X12_24 rfl (S _ _ rfl) (R _ _ _ rfl) ?_
        refine Rp.bipush (nI 67) dX12_at_40 (by decide) ?_
        refine Rp.iload_n dX12_at_42 rfl ?_
        first | ((with_reducible show Rp _ _ _ _ (.int (nI _) :: .int (nI _) :: _) _ _); refine Rp.iaddN dX12_at_43 ?_) | refine Rp.iadd dX12_at_43 ?_
        first | ((with_reducible show Rp _ _ _ _ (.int (nI _) :: _) _ _); refine Rp.ialoadN dX12_at_44 (S _ _ rfl) (by omega) ?_) | refine Rp.iaload dX12_at_44 (S _ _ rfl) (by first | assumption | exact vpb (by decide)) ?_
        refine Rp.ireturn dX12_at_45 rfl ?_
        refine ⟨rfl, ?_⟩
        rw [mAt, c5, eq]; rfl
      | 1, _ =>
        refine Rp.tableIn (tgt := 46) (off := 35) dX12_at_11 (by decide) (by decide) (by decide) (by decide) ?_
        refine Rp.aload_n dX12_at_46 rfl rfl ?_
        refine Rp.getR dX12_at_47 fk_X12_24 rfl (S _ _ rfl) (R _ _ _ rfl) ?_
        refine Rp.bipush (nI 75) dX12_at_50 (by decide) ?_
        refine Rp.iload_n dX12_at_52 rfl ?_
        first | ((with_reducible show Rp _ _ _ _ (.int (nI _) :: .int (nI _) :: _) _ _); refine Rp.iaddN dX12_at_53 ?_) | refine Rp.iadd dX12_at_53 ?_
        first | ((with_reducible show Rp _ _ _ _ (.int (nI _) :: _) _ _); refine Rp.ialoadN dX12_at_54 (S _ _ rfl) (by omega) ?_) | refine Rp.iaload dX12_at_54 (S _ _ rfl) (by first | assumption | exact vpb (by decide)) ?_
        refine Rp.ireturn dX12_at_55 rfl ?_
        refine ⟨rfl, ?_⟩
        rw [mAt, c5, eq]; rfl
      | 2, _ =>
        refine Rp.tableIn (tgt := 56) (off := 45) dX12_at_11 (by decide) (by decide) (by decide) (by decide) ?_
        refine Rp.aload_n dX12_at_56 rfl rfl ?_
        refine Rp.iload_n dX12_at_57 rfl ?_
        refine Rp.callV1 M_X12_holderOf (ci := 12) dX12_at_58 mo_X12_holderOf lk_X12_151 (by decide) rfl rfl (S _ _ rfl) (Nat.le_of_ble_eq_true rfl) (Nat.le_of_ble_eq_true rfl) (s_holderOf (d + 1) S R (nI q) hp hM) (fun v1 h1 p1 x1 => ?_)
        rw [p1.1, p1.2]
        try dsimp only [Option.toList, List.cons_append, List.nil_append, List.append]
        refine Rp.ireturn dX12_at_61 rfl ?_
        refine ⟨rfl, ?_⟩
        rw [mAt, c5]; rfl
      | k + 3, hk => exact absurd hk (by omega)
    · refine Rp.tableOut (tgt := 62) dX12_at_11 (by unfold inN at hx11; rw [decide_eq_true_eq] at hx11; omega) (by decide) ?_
      refine Rp.iconst (-1) dX12_at_62 (by decide) ?_
      refine Rp.ireturn dX12_at_63 rfl ?_
      refine ⟨rfl, ?_⟩
      rw [mAt, c5, if_pos rfl, if_neg (fun z => hx11 (by rw [z]; rfl)), if_neg (fun z => hx11 (by rw [z]; rfl)), if_neg (fun z => hx11 (by rw [z]; rfl))]
  · skip
    refine Rp.iconst (-1) dX12_at_8 (by decide) ?_
    refine Rp.ireturn dX12_at_9 rfl ?_
    refine ⟨rfl, ?_⟩
    rw [mAt, c5]; rfl
end MPe
