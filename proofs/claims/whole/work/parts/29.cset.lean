section CSe
variable (d : Nat) {h : AH}
def mWishC (h : AH) (p t v : Int32) (np nt : Nat) : Int32 × AH := if inN v 10 then (if inN p np && inN t nt then (gI h (at_hall + 4) (ix p * 8 + ix t), acH (sI h (at_hall + 4) (ix p * 8 + ix t) v)) else (-nI 2, rcH h 2)) else (-nI 1, rcH h 1)
theorem t_wish (S : ShOK h) (R : RfOK h) (p t v : Int32) {np nt : Nat} (hp : np ≤ 6) (ht : nt ≤ 8) (hM : gI h at_hall fhall_people = nI np) (hT : gI h at_hall fhall_tickets = nI nt) : Rp (d + 2) M_X11_wish 0 [some (.ref 0), some (.int p), some (.int t), some (.int v), none, none] [] h (fun r h' => h' = (mWishC h p t v np nt).2 ∧ r = some (.int (mWishC h p t v np nt).1)) := by
  refine Rp.iload_n dX11_wish_0 rfl ?_
  refine Rp.if_lt (tgt := 10) dX11_wish_1 (by decide) (fun c1 => ?_) (fun c1 => ?_)
  · skip
    refine Rp.aload_n dX11_wish_10 rfl rfl ?_
    refine Rp.iconst (-1) dX11_wish_11 (by decide) ?_
    refine Rp.callV1 M_X11_refused (ci := 11) dX11_wish_12 mo_X11_refused lk_X11_109 (by decide) rfl rfl (S _ _ rfl) (Nat.le_of_ble_eq_true rfl) (Nat.le_of_ble_eq_true rfl) (t_refused (d + 1) S R 1 (by decide)) (fun v1 h1 p1 x1 => ?_)
    rw [p1.1, p1.2]
    try dsimp only [Option.toList, List.cons_append, List.nil_append, List.append]
    refine Rp.ireturn dX11_wish_15 rfl ?_
    unfold mWishC
    first | (rw [inN_tl c1]; exact ⟨rfl, rfl⟩) | (rw [inN_tnle (by decide) c7]; exact ⟨rfl, rfl⟩)
  · skip
    refine Rp.iload_n dX11_wish_4 rfl ?_
    refine Rp.bipush (nI 9) dX11_wish_5 (by decide) ?_
    first | ((with_reducible show Rp _ _ _ _ (.int (nI _) :: .int (nI _) :: _) _ _); refine Rp.icmp_leN (tgt := 16) dX11_wish_7 (by decide) (by omega) (fun c7 => ?_) (fun c7 => ?_)) | refine Rp.icmp_le (tgt := 16) dX11_wish_7 (by decide) (fun c7 => ?_) (fun c7 => ?_)
    · skip
      refine Rp.aload_n dX11_wish_16 rfl rfl ?_
      refine Rp.getR dX11_wish_17 fk_X11_10 rfl (S _ _ rfl) (R _ _ _ rfl) ?_
      refine Rp.iload_n dX11_wish_20 rfl ?_
      refine Rp.callV1 M_X2_isPerson (ci := 2) dX11_wish_21 mo_X2_isPerson lk_X11_125 (by decide) rfl rfl (S _ _ rfl) (Nat.le_of_ble_eq_true rfl) (Nat.le_of_ble_eq_true rfl) (t_isPerson (d + 1) (S _ _ rfl) p hp hM) (fun v1 h1 p1 x1 => ?_)
      rw [p1.1, p1.2]
      try dsimp only [Option.toList, List.cons_append, List.nil_append, List.append]
      first | ((with_reducible show Rp _ _ _ _ (.int (b2i _) :: _) _ _); refine Rp.if_eqB (tgt := 38) dX11_wish_24 (by decide) (fun c24 => ?_) (fun c24 => ?_)) | ((with_reducible show Rp _ _ _ _ (.int (nI _) :: _) _ _); refine Rp.if_eqN (tgt := 38) dX11_wish_24 (by decide) (by omega) (fun c24 => ?_) (fun c24 => ?_)) | refine Rp.if_eq (tgt := 38) dX11_wish_24 (by decide) (fun c24 => ?_) (fun c24 => ?_)
      · skip
        refine Rp.aload_n dX11_wish_38 rfl rfl ?_
        refine Rp.bipush (-2) dX11_wish_39 (by decide) ?_
        refine Rp.callV1 M_X11_refused (ci := 11) dX11_wish_41 mo_X11_refused lk_X11_109 (by decide) rfl rfl (S _ _ rfl) (Nat.le_of_ble_eq_true rfl) (Nat.le_of_ble_eq_true rfl) (t_refused (d + 1) S R 2 (by decide)) (fun v1 h1 p1 x1 => ?_)
        rw [p1.1, p1.2]
        try dsimp only [Option.toList, List.cons_append, List.nil_append, List.append]
        refine Rp.ireturn dX11_wish_44 rfl ?_
        unfold mWishC
        rw [inN_tle (by decide) c1 c7, c24]
        try rw [c35]
        exact ⟨rfl, rfl⟩
      · skip
        refine Rp.aload_n dX11_wish_27 rfl rfl ?_
        refine Rp.getR dX11_wish_28 fk_X11_10 rfl (S _ _ rfl) (R _ _ _ rfl) ?_
        refine Rp.iload_n dX11_wish_31 rfl ?_
        refine Rp.callV1 M_X2_isTicket (ci := 2) dX11_wish_32 mo_X2_isTicket lk_X11_152 (by decide) rfl rfl (S _ _ rfl) (Nat.le_of_ble_eq_true rfl) (Nat.le_of_ble_eq_true rfl) (t_isTicket (d + 1) (S _ _ rfl) t ht hT) (fun v1 h1 p1 x1 => ?_)
        rw [p1.1, p1.2]
        try dsimp only [Option.toList, List.cons_append, List.nil_append, List.append]
        first | ((with_reducible show Rp _ _ _ _ (.int (b2i _) :: _) _ _); refine Rp.if_neB (tgt := 45) dX11_wish_35 (by decide) (fun c35 => ?_) (fun c35 => ?_)) | ((with_reducible show Rp _ _ _ _ (.int (nI _) :: _) _ _); refine Rp.if_neN (tgt := 45) dX11_wish_35 (by decide) (by omega) (fun c35 => ?_) (fun c35 => ?_)) | refine Rp.if_ne (tgt := 45) dX11_wish_35 (by decide) (fun c35 => ?_) (fun c35 => ?_)
        · skip
          obtain ⟨q, hq, rfl⟩ := (inN_iff (by omega)).mp c24
          obtain ⟨u, hu, rfl⟩ := (inN_iff (by omega)).mp c35
          refine Rp.iload_n dX11_wish_45 rfl ?_
          refine Rp.bipush (nI 8) dX11_wish_46 (by decide) ?_
          first | ((with_reducible show Rp _ _ _ _ (.int (nI _) :: .int (nI _) :: _) _ _); refine Rp.imulN dX11_wish_48 ?_) | refine Rp.imul dX11_wish_48 ?_
          refine Rp.iload_n dX11_wish_49 rfl ?_
          first | ((with_reducible show Rp _ _ _ _ (.int (nI _) :: .int (nI _) :: _) _ _); refine Rp.iaddN dX11_wish_50 ?_) | refine Rp.iadd dX11_wish_50 ?_
          refine Rp.ist4 dX11_wish_51 (by first | exact nl2_some rfl | exact nl2_none) (by decide) ?_
          refine Rp.aload_n dX11_wish_53 rfl rfl ?_
          refine Rp.getR dX11_wish_54 fk_X11_10 rfl (S _ _ rfl) (R _ _ _ rfl) ?_
          refine Rp.getR dX11_wish_57 fk_X11_164 rfl (S _ _ rfl) (R _ _ _ rfl) ?_
          refine Rp.iload dX11_wish_60 rfl ?_
          first | ((with_reducible show Rp _ _ _ _ (.int (nI _) :: _) _ _); refine Rp.ialoadN dX11_wish_62 (S _ _ rfl) (by omega) ?_) | refine Rp.iaload dX11_wish_62 (S _ _ rfl) (by first | assumption | exact vpb (by decide)) ?_
          refine Rp.ist5 dX11_wish_63 (by first | exact nl2_some rfl | exact nl2_none) (by decide) ?_
          refine Rp.aload_n dX11_wish_65 rfl rfl ?_
          refine Rp.getR dX11_wish_66 fk_X11_10 rfl (S _ _ rfl) (R _ _ _ rfl) ?_
          refine Rp.getR dX11_wish_69 fk_X11_164 rfl (S _ _ rfl) (R _ _ _ rfl) ?_
          refine Rp.iload dX11_wish_72 rfl ?_
          refine Rp.iload_n dX11_wish_74 rfl ?_
          first | ((with_reducible show Rp _ _ _ _ (_ :: .int (nI _) :: _) _ _); refine Rp.iastoreN dX11_wish_75 (S _ _ rfl) (by omega) ?_) | refine Rp.iastore dX11_wish_75 (S _ _ rfl) (by first | assumption | exact vpb (by decide)) ?_
          refine Rp.aload_n dX11_wish_76 rfl rfl ?_
          refine Rp.iload dX11_wish_77 rfl ?_
          refine Rp.callV1 M_X11_accepted (ci := 11) dX11_wish_79 mo_X11_accepted lk_X11_122 (by decide) rfl rfl (S _ _ rfl) (Nat.le_of_ble_eq_true rfl) (Nat.le_of_ble_eq_true rfl) (t_accepted d (h := sI h (at_hall + 4) (q * 8 + u) v) S R _) (fun v1 h1 p1 x1 => ?_)
          rw [p1.1, p1.2]
          try dsimp only [Option.toList, List.cons_append, List.nil_append, List.append]
          refine Rp.ireturn dX11_wish_82 rfl ?_
          unfold mWishC
          rw [inN_tle (by decide) c1 c7, c24, c35, ix_nI (show q < 2147483648 by omega), ix_nI (show u < 2147483648 by omega)]
          exact ⟨rfl, rfl⟩
        · skip
          refine Rp.aload_n dX11_wish_38 rfl rfl ?_
          refine Rp.bipush (-2) dX11_wish_39 (by decide) ?_
          refine Rp.callV1 M_X11_refused (ci := 11) dX11_wish_41 mo_X11_refused lk_X11_109 (by decide) rfl rfl (S _ _ rfl) (Nat.le_of_ble_eq_true rfl) (Nat.le_of_ble_eq_true rfl) (t_refused (d + 1) S R 2 (by decide)) (fun v1 h1 p1 x1 => ?_)
          rw [p1.1, p1.2]
          try dsimp only [Option.toList, List.cons_append, List.nil_append, List.append]
          refine Rp.ireturn dX11_wish_44 rfl ?_
          unfold mWishC
          rw [inN_tle (by decide) c1 c7, c24]
          try rw [c35]
          exact ⟨rfl, rfl⟩
    · skip
      refine Rp.aload_n dX11_wish_10 rfl rfl ?_
      refine Rp.iconst (-1) dX11_wish_11 (by decide) ?_
      refine Rp.callV1 M_X11_refused (ci := 11) dX11_wish_12 mo_X11_refused lk_X11_109 (by decide) rfl rfl (S _ _ rfl) (Nat.le_of_ble_eq_true rfl) (Nat.le_of_ble_eq_true rfl) (t_refused (d + 1) S R 1 (by decide)) (fun v1 h1 p1 x1 => ?_)
      rw [p1.1, p1.2]
      try dsimp only [Option.toList, List.cons_append, List.nil_append, List.append]
      refine Rp.ireturn dX11_wish_15 rfl ?_
      unfold mWishC
      first | (rw [inN_tl c1]; exact ⟨rfl, rfl⟩) | (rw [inN_tnle (by decide) c7]; exact ⟨rfl, rfl⟩)
def mToldC (h : AH) (p m : Int32) (np nq : Nat) : Int32 × AH := if inN m 1000 then (if inN p np then (if nq = 6 then (-nI 5, rcH h 5) else (nI (nq + 1), acH (sI (sI (sI h (at_hall + 10) nq p) (at_hall + 11) nq m) at_hall fhall_tolds (nI (nq + 1))))) else (-nI 2, rcH h 2)) else (-nI 1, rcH h 1)
theorem t_told (S : ShOK h) (R : RfOK h) (p m : Int32) {np nq : Nat} (hp : np ≤ 6) (hq : nq ≤ 6) (hM : gI h at_hall fhall_people = nI np) (hQ : gI h at_hall fhall_tolds = nI nq) : Rp (d + 2) M_X11_told 0 [some (.ref 0), some (.int p), some (.int m)] [] h (fun r h' => h' = (mToldC h p m np nq).2 ∧ r = some (.int (mToldC h p m np nq).1)) := by
  refine Rp.iload_n dX11_told_0 rfl ?_
  refine Rp.if_lt (tgt := 11) dX11_told_1 (by decide) (fun c1 => ?_) (fun c1 => ?_)
  · skip
    refine Rp.aload_n dX11_told_11 rfl rfl ?_
    refine Rp.iconst (-1) dX11_told_12 (by decide) ?_
    refine Rp.callV1 M_X11_refused (ci := 11) dX11_told_13 mo_X11_refused lk_X11_109 (by decide) rfl rfl (S _ _ rfl) (Nat.le_of_ble_eq_true rfl) (Nat.le_of_ble_eq_true rfl) (t_refused (d + 1) S R 1 (by decide)) (fun v1 h1 p1 x1 => ?_)
    rw [p1.1, p1.2]
    try dsimp only [Option.toList, List.cons_append, List.nil_append, List.append]
    refine Rp.ireturn dX11_told_16 rfl ?_
    unfold mToldC
    first | (rw [inN_tl c1]; exact ⟨rfl, rfl⟩) | (rw [inN_tnle (by decide) c8]; exact ⟨rfl, rfl⟩)
  · skip
    refine Rp.iload_n dX11_told_4 rfl ?_
    refine Rp.sipush (nI 999) dX11_told_5 (by decide +kernel) ?_
    first | ((with_reducible show Rp _ _ _ _ (.int (nI _) :: .int (nI _) :: _) _ _); refine Rp.icmp_leN (tgt := 17) dX11_told_8 (by decide) (by omega) (fun c8 => ?_) (fun c8 => ?_)) | refine Rp.icmp_le (tgt := 17) dX11_told_8 (by decide) (fun c8 => ?_) (fun c8 => ?_)
    · skip
      refine Rp.aload_n dX11_told_17 rfl rfl ?_
      refine Rp.getR dX11_told_18 fk_X11_10 rfl (S _ _ rfl) (R _ _ _ rfl) ?_
      refine Rp.iload_n dX11_told_21 rfl ?_
      refine Rp.callV1 M_X2_isPerson (ci := 2) dX11_told_22 mo_X2_isPerson lk_X11_125 (by decide) rfl rfl (S _ _ rfl) (Nat.le_of_ble_eq_true rfl) (Nat.le_of_ble_eq_true rfl) (t_isPerson (d + 1) (S _ _ rfl) p hp hM) (fun v1 h1 p1 x1 => ?_)
      rw [p1.1, p1.2]
      try dsimp only [Option.toList, List.cons_append, List.nil_append, List.append]
      first | ((with_reducible show Rp _ _ _ _ (.int (b2i _) :: _) _ _); refine Rp.if_neB (tgt := 35) dX11_told_25 (by decide) (fun c25 => ?_) (fun c25 => ?_)) | ((with_reducible show Rp _ _ _ _ (.int (nI _) :: _) _ _); refine Rp.if_neN (tgt := 35) dX11_told_25 (by decide) (by omega) (fun c25 => ?_) (fun c25 => ?_)) | refine Rp.if_ne (tgt := 35) dX11_told_25 (by decide) (fun c25 => ?_) (fun c25 => ?_)
      · skip
        refine Rp.aload_n dX11_told_35 rfl rfl ?_
        refine Rp.getR dX11_told_36 fk_X11_10 rfl (S _ _ rfl) (R _ _ _ rfl) ?_
        refine Rp.getI dX11_told_39 fk_X11_322 rfl (S _ _ rfl) ?_
        rw [show gI h 1 12 = nI nq from hQ]
        refine Rp.bipush (nI 6) dX11_told_42 (by decide) ?_
        first | ((with_reducible show Rp _ _ _ _ (.int (nI _) :: .int (nI _) :: _) _ _); refine Rp.icmp_ltN (tgt := 54) dX11_told_44 (by decide) (by omega) (fun c44 => ?_) (fun c44 => ?_)) | refine Rp.icmp_lt (tgt := 54) dX11_told_44 (by decide) (fun c44 => ?_) (fun c44 => ?_)
        · skip
          refine Rp.aload_n dX11_told_54 rfl rfl ?_
          refine Rp.getR dX11_told_55 fk_X11_10 rfl (S _ _ rfl) (R _ _ _ rfl) ?_
          refine Rp.getR dX11_told_58 fk_X11_325 rfl (S _ _ rfl) (R _ _ _ rfl) ?_
          refine Rp.aload_n dX11_told_61 rfl rfl ?_
          refine Rp.getR dX11_told_62 fk_X11_10 rfl (S _ _ rfl) (R _ _ _ rfl) ?_
          refine Rp.getI dX11_told_65 fk_X11_322 rfl (S _ _ rfl) ?_
          rw [show gI h 1 12 = nI nq from hQ]
          refine Rp.iload_n dX11_told_68 rfl ?_
          first | ((with_reducible show Rp _ _ _ _ (_ :: .int (nI _) :: _) _ _); refine Rp.iastoreN dX11_told_69 (S _ _ rfl) (by omega) ?_) | refine Rp.iastore dX11_told_69 (S _ _ rfl) (by first | assumption | exact vpb (by decide)) ?_
          refine Rp.aload_n dX11_told_70 rfl rfl ?_
          refine Rp.getR dX11_told_71 fk_X11_10 rfl (S _ _ rfl) (R _ _ _ rfl) ?_
          refine Rp.getR dX11_told_74 fk_X11_328 rfl (S _ _ rfl) (R _ _ _ rfl) ?_
          refine Rp.aload_n dX11_told_77 rfl rfl ?_
          refine Rp.getR dX11_told_78 fk_X11_10 rfl (S _ _ rfl) (R _ _ _ rfl) ?_
          refine Rp.getI dX11_told_81 fk_X11_322 rfl (S _ _ rfl) ?_
          rw [show gI (sI h 11 nq p) 1 12 = nI nq from hQ]
          refine Rp.iload_n dX11_told_84 rfl ?_
          first | ((with_reducible show Rp _ _ _ _ (_ :: .int (nI _) :: _) _ _); refine Rp.iastoreN dX11_told_85 (S _ _ rfl) (by omega) ?_) | refine Rp.iastore dX11_told_85 (S _ _ rfl) (by first | assumption | exact vpb (by decide)) ?_
          refine Rp.aload_n dX11_told_86 rfl rfl ?_
          refine Rp.getR dX11_told_87 fk_X11_10 rfl (S _ _ rfl) (R _ _ _ rfl) ?_
          refine Rp.dup dX11_told_90 rfl ?_
          refine Rp.getI dX11_told_91 fk_X11_322 rfl (S _ _ rfl) ?_
          rw [show gI (sI (sI h 11 nq p) 12 nq m) 1 12 = nI nq from hQ]
          refine Rp.iconst (nI 1) dX11_told_94 (by decide) ?_
          first | ((with_reducible show Rp _ _ _ _ (.int (nI _) :: .int (nI _) :: _) _ _); refine Rp.iaddN dX11_told_95 ?_) | refine Rp.iadd dX11_told_95 ?_
          refine Rp.putI dX11_told_96 fk_X11_322w rfl (S _ _ rfl) ?_
          refine Rp.aload_n dX11_told_99 rfl rfl ?_
          refine Rp.aload_n dX11_told_100 rfl rfl ?_
          refine Rp.getR dX11_told_101 fk_X11_10 rfl (S _ _ rfl) (R _ _ _ rfl) ?_
          refine Rp.getI dX11_told_104 fk_X11_322 rfl (S _ _ rfl) ?_
          rw [show gI (sI (sI (sI h 11 nq p) 12 nq m) 1 12 (nI (nq + 1))) 1 12 = nI (nq + 1) from rfl]
          refine Rp.callV1 M_X11_accepted (ci := 11) dX11_told_107 mo_X11_accepted lk_X11_122 (by decide) rfl rfl (S _ _ rfl) (Nat.le_of_ble_eq_true rfl) (Nat.le_of_ble_eq_true rfl) (t_accepted d (h := sI (sI (sI h (at_hall + 10) nq p) (at_hall + 11) nq m) at_hall fhall_tolds (nI (nq + 1))) S R _) (fun v1 h1 p1 x1 => ?_)
          rw [p1.1, p1.2]
          try dsimp only [Option.toList, List.cons_append, List.nil_append, List.append]
          refine Rp.ireturn dX11_told_110 rfl ?_
          unfold mToldC
          rw [inN_tle (by decide) c1 c8, c25]
          simp only [if_true]
          rw [if_neg (show ¬ nq = 6 by omega)]
          exact ⟨rfl, rfl⟩
        · skip
          refine Rp.aload_n dX11_told_47 rfl rfl ?_
          refine Rp.bipush (-5) dX11_told_48 (by decide) ?_
          refine Rp.callV1 M_X11_refused (ci := 11) dX11_told_50 mo_X11_refused lk_X11_109 (by decide) rfl rfl (S _ _ rfl) (Nat.le_of_ble_eq_true rfl) (Nat.le_of_ble_eq_true rfl) (t_refused (d + 1) S R 5 (by decide)) (fun v1 h1 p1 x1 => ?_)
          rw [p1.1, p1.2]
          try dsimp only [Option.toList, List.cons_append, List.nil_append, List.append]
          refine Rp.ireturn dX11_told_53 rfl ?_
          unfold mToldC
          rw [inN_tle (by decide) c1 c8, c25]
          simp only [if_true]
          rw [if_pos (show nq = 6 by omega)]
          exact ⟨rfl, rfl⟩
      · skip
        refine Rp.aload_n dX11_told_28 rfl rfl ?_
        refine Rp.bipush (-2) dX11_told_29 (by decide) ?_
        refine Rp.callV1 M_X11_refused (ci := 11) dX11_told_31 mo_X11_refused lk_X11_109 (by decide) rfl rfl (S _ _ rfl) (Nat.le_of_ble_eq_true rfl) (Nat.le_of_ble_eq_true rfl) (t_refused (d + 1) S R 2 (by decide)) (fun v1 h1 p1 x1 => ?_)
        rw [p1.1, p1.2]
        try dsimp only [Option.toList, List.cons_append, List.nil_append, List.append]
        refine Rp.ireturn dX11_told_34 rfl ?_
        unfold mToldC
        rw [inN_tle (by decide) c1 c8, c25]
        exact ⟨rfl, rfl⟩
    · skip
      refine Rp.aload_n dX11_told_11 rfl rfl ?_
      refine Rp.iconst (-1) dX11_told_12 (by decide) ?_
      refine Rp.callV1 M_X11_refused (ci := 11) dX11_told_13 mo_X11_refused lk_X11_109 (by decide) rfl rfl (S _ _ rfl) (Nat.le_of_ble_eq_true rfl) (Nat.le_of_ble_eq_true rfl) (t_refused (d + 1) S R 1 (by decide)) (fun v1 h1 p1 x1 => ?_)
      rw [p1.1, p1.2]
      try dsimp only [Option.toList, List.cons_append, List.nil_append, List.append]
      refine Rp.ireturn dX11_told_16 rfl ?_
      unfold mToldC
      first | (rw [inN_tl c1]; exact ⟨rfl, rfl⟩) | (rw [inN_tnle (by decide) c8]; exact ⟨rfl, rfl⟩)
theorem t_mostOfTerm (w : Int32) : Rp d M_X11_mostOfTerm 0 [some (.int w)] [] h (fun r h' => h' = h ∧ r = some (.int (nI (if w = 0 then 999 else if w = nI 1 then 10 else 9)))) := by
  refine Rp.iload_n dX11_mostOfTerm_0 rfl ?_
  first | ((with_reducible show Rp _ _ _ _ (.int (b2i _) :: _) _ _); refine Rp.if_neB (tgt := 8) dX11_mostOfTerm_1 (by decide) (fun c1 => ?_) (fun c1 => ?_)) | ((with_reducible show Rp _ _ _ _ (.int (nI _) :: _) _ _); refine Rp.if_neN (tgt := 8) dX11_mostOfTerm_1 (by decide) (by omega) (fun c1 => ?_) (fun c1 => ?_)) | refine Rp.if_ne (tgt := 8) dX11_mostOfTerm_1 (by decide) (fun c1 => ?_) (fun c1 => ?_)
  · skip
    refine Rp.iload_n dX11_mostOfTerm_8 rfl ?_
    refine Rp.iconst (nI 1) dX11_mostOfTerm_9 (by decide) ?_
    first | ((with_reducible show Rp _ _ _ _ (.int (nI _) :: .int (nI _) :: _) _ _); refine Rp.icmp_neN (tgt := 18) dX11_mostOfTerm_10 (by decide) (by omega) (fun c10 => ?_) (fun c10 => ?_)) | refine Rp.icmp_ne (tgt := 18) dX11_mostOfTerm_10 (by decide) (fun c10 => ?_) (fun c10 => ?_)
    · skip
      refine Rp.bipush (nI 9) dX11_mostOfTerm_18 (by decide) ?_
      refine Rp.ireturn dX11_mostOfTerm_20 rfl ?_
      rw [if_neg c1]
      first | (rw [if_pos c10]; exact ⟨rfl, rfl⟩) | (rw [if_neg c10]; exact ⟨rfl, rfl⟩)
    · skip
      refine Rp.bipush (nI 10) dX11_mostOfTerm_13 (by decide) ?_
      refine Rp.goto (tgt := 20) dX11_mostOfTerm_15 (by decide) ?_
      refine Rp.ireturn dX11_mostOfTerm_20 rfl ?_
      rw [if_neg c1]
      first | (rw [if_pos c10]; exact ⟨rfl, rfl⟩) | (rw [if_neg c10]; exact ⟨rfl, rfl⟩)
  · skip
    refine Rp.sipush (nI 999) dX11_mostOfTerm_4 (by decide +kernel) ?_
    refine Rp.ireturn dX11_mostOfTerm_7 rfl ?_
    rw [if_pos c1]
    exact ⟨rfl, rfl⟩
def mForceC (h : AH) (x : Int32) (nl : Nat) : Int32 × AH := if x = -1 ∨ inN x nl = true then (gI h at_hall fhall_force, acH (sI h at_hall fhall_force x)) else (-nI 2, rcH h 2)
theorem t_force (S : ShOK h) (R : RfOK h) (x : Int32) {nl : Nat} (hl : nl ≤ 6) (hL : gI h at_hall fhall_laws = nI nl) : Rp (d + 2) M_X11_force 0 [some (.ref 0), some (.int x), none] [] h (fun r h' => h' = (mForceC h x nl).2 ∧ r = some (.int (mForceC h x nl).1)) := by
  refine Rp.iload_n dX11_force_0 rfl ?_
  refine Rp.iconst (-1) dX11_force_1 (by decide) ?_
  first | ((with_reducible show Rp _ _ _ _ (.int (nI _) :: .int (nI _) :: _) _ _); refine Rp.icmp_eqN (tgt := 23) dX11_force_2 (by decide) (by omega) (fun c2 => ?_) (fun c2 => ?_)) | refine Rp.icmp_eq (tgt := 23) dX11_force_2 (by decide) (fun c2 => ?_) (fun c2 => ?_)
  · skip
    refine Rp.aload_n dX11_force_23 rfl rfl ?_
    refine Rp.getR dX11_force_24 fk_X11_10 rfl (S _ _ rfl) (R _ _ _ rfl) ?_
    refine Rp.getI dX11_force_27 fk_X11_239 rfl (S _ _ rfl) ?_
    refine Rp.ist2 dX11_force_30 (by first | exact nl2_some rfl | exact nl2_none) (by decide) ?_
    refine Rp.aload_n dX11_force_31 rfl rfl ?_
    refine Rp.getR dX11_force_32 fk_X11_10 rfl (S _ _ rfl) (R _ _ _ rfl) ?_
    refine Rp.iload_n dX11_force_35 rfl ?_
    refine Rp.putI dX11_force_36 fk_X11_239w rfl (S _ _ rfl) ?_
    refine Rp.aload_n dX11_force_39 rfl rfl ?_
    refine Rp.iload_n dX11_force_40 rfl ?_
    refine Rp.callV1 M_X11_accepted (ci := 11) dX11_force_41 mo_X11_accepted lk_X11_122 (by decide) rfl rfl (S _ _ rfl) (Nat.le_of_ble_eq_true rfl) (Nat.le_of_ble_eq_true rfl) (t_accepted d (h := sI h at_hall fhall_force x) S R _) (fun v1 h1 p1 x1 => ?_)
    rw [p1.1, p1.2]
    try dsimp only [Option.toList, List.cons_append, List.nil_append, List.append]
    refine Rp.ireturn dX11_force_44 rfl ?_
    unfold mForceC
    first | (rw [if_pos (Or.inl c2)]; exact ⟨rfl, rfl⟩) | (rw [if_pos (Or.inr c13)]; exact ⟨rfl, rfl⟩)
  · skip
    refine Rp.aload_n dX11_force_5 rfl rfl ?_
    refine Rp.getR dX11_force_6 fk_X11_10 rfl (S _ _ rfl) (R _ _ _ rfl) ?_
    refine Rp.iload_n dX11_force_9 rfl ?_
    refine Rp.callV1 M_X2_isLaw (ci := 2) dX11_force_10 mo_X2_isLaw lk_X11_236 (by decide) rfl rfl (S _ _ rfl) (Nat.le_of_ble_eq_true rfl) (Nat.le_of_ble_eq_true rfl) (t_isLaw (d + 1) (S _ _ rfl) x hl hL) (fun v1 h1 p1 x1 => ?_)
    rw [p1.1, p1.2]
    try dsimp only [Option.toList, List.cons_append, List.nil_append, List.append]
    first | ((with_reducible show Rp _ _ _ _ (.int (b2i _) :: _) _ _); refine Rp.if_neB (tgt := 23) dX11_force_13 (by decide) (fun c13 => ?_) (fun c13 => ?_)) | ((with_reducible show Rp _ _ _ _ (.int (nI _) :: _) _ _); refine Rp.if_neN (tgt := 23) dX11_force_13 (by decide) (by omega) (fun c13 => ?_) (fun c13 => ?_)) | refine Rp.if_ne (tgt := 23) dX11_force_13 (by decide) (fun c13 => ?_) (fun c13 => ?_)
    · skip
      refine Rp.aload_n dX11_force_23 rfl rfl ?_
      refine Rp.getR dX11_force_24 fk_X11_10 rfl (S _ _ rfl) (R _ _ _ rfl) ?_
      refine Rp.getI dX11_force_27 fk_X11_239 rfl (S _ _ rfl) ?_
      refine Rp.ist2 dX11_force_30 (by first | exact nl2_some rfl | exact nl2_none) (by decide) ?_
      refine Rp.aload_n dX11_force_31 rfl rfl ?_
      refine Rp.getR dX11_force_32 fk_X11_10 rfl (S _ _ rfl) (R _ _ _ rfl) ?_
      refine Rp.iload_n dX11_force_35 rfl ?_
      refine Rp.putI dX11_force_36 fk_X11_239w rfl (S _ _ rfl) ?_
      refine Rp.aload_n dX11_force_39 rfl rfl ?_
      refine Rp.iload_n dX11_force_40 rfl ?_
      refine Rp.callV1 M_X11_accepted (ci := 11) dX11_force_41 mo_X11_accepted lk_X11_122 (by decide) rfl rfl (S _ _ rfl) (Nat.le_of_ble_eq_true rfl) (Nat.le_of_ble_eq_true rfl) (t_accepted d (h := sI h at_hall fhall_force x) S R _) (fun v1 h1 p1 x1 => ?_)
      rw [p1.1, p1.2]
      try dsimp only [Option.toList, List.cons_append, List.nil_append, List.append]
      refine Rp.ireturn dX11_force_44 rfl ?_
      unfold mForceC
      first | (rw [if_pos (Or.inl c2)]; exact ⟨rfl, rfl⟩) | (rw [if_pos (Or.inr c13)]; exact ⟨rfl, rfl⟩)
    · skip
      refine Rp.aload_n dX11_force_16 rfl rfl ?_
      refine Rp.bipush (-2) dX11_force_17 (by decide) ?_
      refine Rp.callV1 M_X11_refused (ci := 11) dX11_force_19 mo_X11_refused lk_X11_109 (by decide) rfl rfl (S _ _ rfl) (Nat.le_of_ble_eq_true rfl) (Nat.le_of_ble_eq_true rfl) (t_refused (d + 1) S R 2 (by decide)) (fun v1 h1 p1 x1 => ?_)
      rw [p1.1, p1.2]
      try dsimp only [Option.toList, List.cons_append, List.nil_append, List.append]
      refine Rp.ireturn dX11_force_22 rfl ?_
      unfold mForceC
      rw [if_neg (fun z => z.elim c2 (fun y => by rw [c13] at y; cases y))]
      exact ⟨rfl, rfl⟩
def mAtC (h : AH) (t w : Int32) (nt : Nat) : Int32 := if inN t nt then (if w = nI 0 then gI h (at_hall + 5) (ix t) else if w = nI 1 then gI h (at_hall + 6) (ix t) else if w = nI 2 then gI h (at_hall + 7) (ix t) else -1) else -1
theorem t_at (S : ShOK h) (R : RfOK h) (t w : Int32) {nt : Nat} (ht : nt ≤ 8) (hT : gI h at_hall fhall_tickets = nI nt) : Rp (d + 1) M_X11_at 0 [some (.ref 0), some (.int t), some (.int w)] [] h (fun r h' => h' = h ∧ r = some (.int (mAtC h t w nt))) := by
  refine Rp.aload_n dX11_at_0 rfl rfl ?_
  refine Rp.getR dX11_at_1 fk_X11_10 rfl (S _ _ rfl) (R _ _ _ rfl) ?_
  refine Rp.iload_n dX11_at_4 rfl ?_
  refine Rp.callV1 M_X2_isTicket (ci := 2) dX11_at_5 mo_X2_isTicket lk_X11_152 (by decide) rfl rfl (S _ _ rfl) (Nat.le_of_ble_eq_true rfl) (Nat.le_of_ble_eq_true rfl) (t_isTicket d (S _ _ rfl) t ht hT) (fun v1 h1 p1 x1 => ?_)
  rw [p1.1, p1.2]
  try dsimp only [Option.toList, List.cons_append, List.nil_append, List.append]
  first | ((with_reducible show Rp _ _ _ _ (.int (b2i _) :: _) _ _); refine Rp.if_neB (tgt := 13) dX11_at_8 (by decide) (fun c8 => ?_) (fun c8 => ?_)) | ((with_reducible show Rp _ _ _ _ (.int (nI _) :: _) _ _); refine Rp.if_neN (tgt := 13) dX11_at_8 (by decide) (by omega) (fun c8 => ?_) (fun c8 => ?_)) | refine Rp.if_ne (tgt := 13) dX11_at_8 (by decide) (fun c8 => ?_) (fun c8 => ?_)
  · skip
    obtain ⟨q, hq, rfl⟩ := (inN_iff (by omega)).mp c8
    have eq := ix_nI (show q < 2147483648 by omega)
    refine Rp.iload_n dX11_at_13 rfl ?_
    by_cases hx14 : inN w 3 = true
    · obtain ⟨j14, hj14, rfl⟩ := (inN_iff (by omega)).mp hx14
      match j14, hj14 with
      | 0, _ =>
        refine Rp.tableIn (tgt := 40) (off := 26) dX11_at_14 (by decide) (by decide) (by decide) (by decide) ?_
        refine Rp.aload_n dX11_at_40 rfl rfl ?_
        refine Rp.getR dX11_at_41 fk_X11_10 rfl (S _ _ rfl) (R _ _ _ rfl) ?_
        refine Rp.getR dX11_at_44 fk_X11_155 rfl (S _ _ rfl) (R _ _ _ rfl) ?_
        refine Rp.iload_n dX11_at_47 rfl ?_
        first | ((with_reducible show Rp _ _ _ _ (.int (nI _) :: _) _ _); refine Rp.ialoadN dX11_at_48 (S _ _ rfl) (by omega) ?_) | refine Rp.iaload dX11_at_48 (S _ _ rfl) (by first | assumption | exact vpb (by decide)) ?_
        refine Rp.ireturn dX11_at_49 rfl ?_
        refine ⟨rfl, ?_⟩
        rw [mAtC, c8, eq]; rfl
      | 1, _ =>
        refine Rp.tableIn (tgt := 50) (off := 36) dX11_at_14 (by decide) (by decide) (by decide) (by decide) ?_
        refine Rp.aload_n dX11_at_50 rfl rfl ?_
        refine Rp.getR dX11_at_51 fk_X11_10 rfl (S _ _ rfl) (R _ _ _ rfl) ?_
        refine Rp.getR dX11_at_54 fk_X11_158 rfl (S _ _ rfl) (R _ _ _ rfl) ?_
        refine Rp.iload_n dX11_at_57 rfl ?_
        first | ((with_reducible show Rp _ _ _ _ (.int (nI _) :: _) _ _); refine Rp.ialoadN dX11_at_58 (S _ _ rfl) (by omega) ?_) | refine Rp.iaload dX11_at_58 (S _ _ rfl) (by first | assumption | exact vpb (by decide)) ?_
        refine Rp.ireturn dX11_at_59 rfl ?_
        refine ⟨rfl, ?_⟩
        rw [mAtC, c8, eq]; rfl
      | 2, _ =>
        refine Rp.tableIn (tgt := 60) (off := 46) dX11_at_14 (by decide) (by decide) (by decide) (by decide) ?_
        refine Rp.aload_n dX11_at_60 rfl rfl ?_
        refine Rp.getR dX11_at_61 fk_X11_10 rfl (S _ _ rfl) (R _ _ _ rfl) ?_
        refine Rp.getR dX11_at_64 fk_X11_161 rfl (S _ _ rfl) (R _ _ _ rfl) ?_
        refine Rp.iload_n dX11_at_67 rfl ?_
        first | ((with_reducible show Rp _ _ _ _ (.int (nI _) :: _) _ _); refine Rp.ialoadN dX11_at_68 (S _ _ rfl) (by omega) ?_) | refine Rp.iaload dX11_at_68 (S _ _ rfl) (by first | assumption | exact vpb (by decide)) ?_
        refine Rp.ireturn dX11_at_69 rfl ?_
        refine ⟨rfl, ?_⟩
        rw [mAtC, c8, eq]; rfl
      | k + 3, hk => exact absurd hk (by omega)
    · refine Rp.tableOut (tgt := 70) dX11_at_14 (by unfold inN at hx14; rw [decide_eq_true_eq] at hx14; omega) (by decide) ?_
      refine Rp.iconst (-1) dX11_at_70 (by decide) ?_
      refine Rp.ireturn dX11_at_71 rfl ?_
      refine ⟨rfl, ?_⟩
      rw [mAtC, c8, if_pos rfl, if_neg (fun z => hx14 (by rw [z]; rfl)), if_neg (fun z => hx14 (by rw [z]; rfl)), if_neg (fun z => hx14 (by rw [z]; rfl))]
  · skip
    refine Rp.iconst (-1) dX11_at_11 (by decide) ?_
    refine Rp.ireturn dX11_at_12 rfl ?_
    refine ⟨rfl, ?_⟩
    rw [mAtC, c8]; rfl
def mEndC (h : AH) (n : Int32) : Int32 × AH := if n < 0 then (-1, h) else if n ≤ gI h at_reader freader_length then (n, sI h at_reader freader_length n) else (-1, h)
theorem t_end (S : ShOK h) (R : RfOK h) (n : Int32) : Rp d M_X11_end 0 [some (.ref 0), some (.int n)] [] h (fun r h' => h' = (mEndC h n).2 ∧ r = some (.int (mEndC h n).1)) := by
  refine Rp.iload_n dX11_end_0 rfl ?_
  refine Rp.if_lt (tgt := 15) dX11_end_1 (by decide) (fun c1 => ?_) (fun c1 => ?_)
  · skip
    refine Rp.iconst (-1) dX11_end_15 (by decide) ?_
    refine Rp.ireturn dX11_end_16 rfl ?_
    unfold mEndC
    first | (rw [if_pos c1]; exact ⟨rfl, rfl⟩) | (rw [if_neg c1, if_neg c12]; exact ⟨rfl, rfl⟩)
  · skip
    refine Rp.iload_n dX11_end_4 rfl ?_
    refine Rp.aload_n dX11_end_5 rfl rfl ?_
    refine Rp.getR dX11_end_6 fk_X11_30 rfl (S _ _ rfl) (R _ _ _ rfl) ?_
    refine Rp.getI dX11_end_9 fk_X11_190 rfl (S _ _ rfl) ?_
    first | ((with_reducible show Rp _ _ _ _ (.int (nI _) :: .int (nI _) :: _) _ _); refine Rp.icmp_leN (tgt := 17) dX11_end_12 (by decide) (by omega) (fun c12 => ?_) (fun c12 => ?_)) | refine Rp.icmp_le (tgt := 17) dX11_end_12 (by decide) (fun c12 => ?_) (fun c12 => ?_)
    · skip
      refine Rp.aload_n dX11_end_17 rfl rfl ?_
      refine Rp.getR dX11_end_18 fk_X11_30 rfl (S _ _ rfl) (R _ _ _ rfl) ?_
      refine Rp.iload_n dX11_end_21 rfl ?_
      refine Rp.putI dX11_end_22 fk_X11_190w rfl (S _ _ rfl) ?_
      refine Rp.iload_n dX11_end_25 rfl ?_
      refine Rp.ireturn dX11_end_26 rfl ?_
      unfold mEndC
      rw [if_neg c1, if_pos c12]
      exact ⟨rfl, rfl⟩
    · skip
      refine Rp.iconst (-1) dX11_end_15 (by decide) ?_
      refine Rp.ireturn dX11_end_16 rfl ?_
      unfold mEndC
      first | (rw [if_pos c1]; exact ⟨rfl, rfl⟩) | (rw [if_neg c1, if_neg c12]; exact ⟨rfl, rfl⟩)
end CSe
