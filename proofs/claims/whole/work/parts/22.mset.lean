/-- what refuses(-k), good, goodAnew leave -/
def rfH (h : AH) (k : Nat) : AH := sI (sI h aM fm_status (-nI k)) am_refused k (gI h am_refused k + nI 1)
def gdH (h : AH) : AH := sI h aM fm_status (nI 0)
def gaH (h : AH) : AH := sI (sI h aM fm_undoMany (nI 0)) aM fm_status (nI 0)
abbrev ix (p : Int32) : Nat := p.toNatClampNeg
theorem ix_nI {n : Nat} (h : n < 2147483648) : ix (nI n) = n := nI_clamp h
section MS
variable (d : Nat) {h : AH}
theorem s_wishOf (S : ShOK h) (R : RfOK h) {q u : Nat} (hq : q < 6) (hu : u < 8) : Rp d M_X12_wishOf 0 [some (.ref aM), some (.int (nI q)), some (.int (nI u))] [] h (fun r h' => h' = h ∧ r = some (.int (gI h am_kept (19 + 8 * q + u)))) := by
  refine Rp.aload_n dX12_wishOf_0 rfl rfl ?_
  refine Rp.getR dX12_wishOf_1 fk_X12_24 rfl (S _ _ rfl) (R _ _ _ rfl) ?_
  refine Rp.bipush (nI 19) dX12_wishOf_4 (by decide) ?_
  refine Rp.bipush (nI 8) dX12_wishOf_6 (by decide) ?_
  refine Rp.iload_n dX12_wishOf_8 rfl ?_
  first | ((with_reducible show Rp _ _ _ _ (.int (nI _) :: .int (nI _) :: _) _ _); refine Rp.imulN dX12_wishOf_9 ?_) | refine Rp.imul dX12_wishOf_9 ?_
  first | ((with_reducible show Rp _ _ _ _ (.int (nI _) :: .int (nI _) :: _) _ _); refine Rp.iaddN dX12_wishOf_10 ?_) | refine Rp.iadd dX12_wishOf_10 ?_
  refine Rp.iload_n dX12_wishOf_11 rfl ?_
  first | ((with_reducible show Rp _ _ _ _ (.int (nI _) :: .int (nI _) :: _) _ _); refine Rp.iaddN dX12_wishOf_12 ?_) | refine Rp.iadd dX12_wishOf_12 ?_
  first | ((with_reducible show Rp _ _ _ _ (.int (nI _) :: _) _ _); refine Rp.ialoadN dX12_wishOf_13 (S _ _ rfl) (by omega) ?_) | refine Rp.iaload dX12_wishOf_13 (S _ _ rfl) (by first | assumption | exact vpb (by decide)) ?_
  refine Rp.ireturn dX12_wishOf_14 rfl ?_
  exact ⟨rfl, rfl⟩
def mWish (h : AH) (p t v : Int32) (np nt : Nat) : Int32 × AH := if inN v 10 then (if inN p np && inN t nt then (gI h am_kept (19 + 8 * ix p + ix t), gdH (sI h am_kept (19 + 8 * ix p + ix t) v)) else (-nI 2, rfH h 2)) else (-nI 1, rfH h 1)
theorem s_wish (S : ShOK h) (R : RfOK h) (p t v : Int32) {np nt : Nat} (hp : np ≤ 6) (ht : nt ≤ 8) (hM : gI h am_kept 103 = nI np) (hT : gI h am_kept 104 = nI nt) : Rp (d + 2) M_X12_wish 0 [some (.ref aM), some (.int p), some (.int t), some (.int v), none] [] h (fun r h' => h' = (mWish h p t v np nt).2 ∧ r = some (.int (mWish h p t v np nt).1)) := by
  refine Rp.iload_n dX12_wish_0 rfl ?_
  refine Rp.iconst (nI 0) dX12_wish_1 (by decide) ?_
  refine Rp.bipush (nI 9) dX12_wish_2 (by decide) ?_
  refine Rp.callS3 M_X12_lies dX12_wish_4 mo_X12_lies lk_X12_117 (Nat.le_of_ble_eq_true rfl) (Nat.le_of_ble_eq_true rfl) (s_lies (d + 1) h v (nI 0) (nI 9)) (fun v1 h1 p1 x1 => ?_)
  rw [p1.1, p1.2, inN_lies' (by omega)]
  try dsimp only [Option.toList, List.cons_append, List.nil_append, List.append]
  first | ((with_reducible show Rp _ _ _ _ (.int (b2i _) :: _) _ _); refine Rp.if_neB (tgt := 16) dX12_wish_7 (by decide) (fun c7 => ?_) (fun c7 => ?_)) | ((with_reducible show Rp _ _ _ _ (.int (nI _) :: _) _ _); refine Rp.if_neN (tgt := 16) dX12_wish_7 (by decide) (by omega) (fun c7 => ?_) (fun c7 => ?_)) | refine Rp.if_ne (tgt := 16) dX12_wish_7 (by decide) (fun c7 => ?_) (fun c7 => ?_)
  · skip
    refine Rp.aload_n dX12_wish_16 rfl rfl ?_
    refine Rp.iload_n dX12_wish_17 rfl ?_
    refine Rp.callV1 M_X12_isPerson (ci := 12) dX12_wish_18 mo_X12_isPerson lk_X12_131 (by decide) rfl rfl (S _ _ rfl) (Nat.le_of_ble_eq_true rfl) (Nat.le_of_ble_eq_true rfl) (s_isPerson d S R p hp hM) (fun v1 h1 p1 x1 => ?_)
    rw [p1.1, p1.2]
    try dsimp only [Option.toList, List.cons_append, List.nil_append, List.append]
    first | ((with_reducible show Rp _ _ _ _ (.int (b2i _) :: _) _ _); refine Rp.if_eqB (tgt := 32) dX12_wish_21 (by decide) (fun c21 => ?_) (fun c21 => ?_)) | ((with_reducible show Rp _ _ _ _ (.int (nI _) :: _) _ _); refine Rp.if_eqN (tgt := 32) dX12_wish_21 (by decide) (by omega) (fun c21 => ?_) (fun c21 => ?_)) | refine Rp.if_eq (tgt := 32) dX12_wish_21 (by decide) (fun c21 => ?_) (fun c21 => ?_)
    · skip
      refine Rp.aload_n dX12_wish_32 rfl rfl ?_
      refine Rp.bipush (-2) dX12_wish_33 (by decide) ?_
      refine Rp.callV1 M_X12_refuses (ci := 12) dX12_wish_35 mo_X12_refuses lk_X12_121 (by decide) rfl rfl (S _ _ rfl) (Nat.le_of_ble_eq_true rfl) (Nat.le_of_ble_eq_true rfl) (s_refuses (d + 1) S R 2 (by decide)) (fun v1 h1 p1 x1 => ?_)
      rw [p1.1, p1.2]
      try dsimp only [Option.toList, List.cons_append, List.nil_append, List.append]
      refine Rp.ireturn dX12_wish_38 rfl ?_
      simp [mWish, c7, c21, rfH]
      try simp [c29]
    · skip
      refine Rp.aload_n dX12_wish_24 rfl rfl ?_
      refine Rp.iload_n dX12_wish_25 rfl ?_
      refine Rp.callV1 M_X12_isTicket (ci := 12) dX12_wish_26 mo_X12_isTicket lk_X12_148 (by decide) rfl rfl (S _ _ rfl) (Nat.le_of_ble_eq_true rfl) (Nat.le_of_ble_eq_true rfl) (s_isTicket d S R t ht hT) (fun v1 h1 p1 x1 => ?_)
      rw [p1.1, p1.2]
      try dsimp only [Option.toList, List.cons_append, List.nil_append, List.append]
      first | ((with_reducible show Rp _ _ _ _ (.int (b2i _) :: _) _ _); refine Rp.if_neB (tgt := 39) dX12_wish_29 (by decide) (fun c29 => ?_) (fun c29 => ?_)) | ((with_reducible show Rp _ _ _ _ (.int (nI _) :: _) _ _); refine Rp.if_neN (tgt := 39) dX12_wish_29 (by decide) (by omega) (fun c29 => ?_) (fun c29 => ?_)) | refine Rp.if_ne (tgt := 39) dX12_wish_29 (by decide) (fun c29 => ?_) (fun c29 => ?_)
      · skip
        obtain ⟨q, hq, rfl⟩ := (inN_iff (by omega)).mp c21
        obtain ⟨u, hu, rfl⟩ := (inN_iff (by omega)).mp c29
        refine Rp.aload_n dX12_wish_39 rfl rfl ?_
        refine Rp.iload_n dX12_wish_40 rfl ?_
        refine Rp.iload_n dX12_wish_41 rfl ?_
        refine Rp.callV2 M_X12_wishOf (ci := 12) dX12_wish_42 mo_X12_wishOf lk_X12_154 (by decide) rfl rfl (S _ _ rfl) (Nat.le_of_ble_eq_true rfl) (Nat.le_of_ble_eq_true rfl) (s_wishOf (d + 1) S R (show q < 6 by omega) (show u < 8 by omega)) (fun v1 h1 p1 x1 => ?_)
        rw [p1.1, p1.2]
        try dsimp only [Option.toList, List.cons_append, List.nil_append, List.append]
        refine Rp.ist4 dX12_wish_45 (by first | exact nl2_some rfl | exact nl2_none) (by decide) ?_
        refine Rp.aload_n dX12_wish_47 rfl rfl ?_
        refine Rp.getR dX12_wish_48 fk_X12_24 rfl (S _ _ rfl) (R _ _ _ rfl) ?_
        refine Rp.bipush (nI 19) dX12_wish_51 (by decide) ?_
        refine Rp.bipush (nI 8) dX12_wish_53 (by decide) ?_
        refine Rp.iload_n dX12_wish_55 rfl ?_
        first | ((with_reducible show Rp _ _ _ _ (.int (nI _) :: .int (nI _) :: _) _ _); refine Rp.imulN dX12_wish_56 ?_) | refine Rp.imul dX12_wish_56 ?_
        first | ((with_reducible show Rp _ _ _ _ (.int (nI _) :: .int (nI _) :: _) _ _); refine Rp.iaddN dX12_wish_57 ?_) | refine Rp.iadd dX12_wish_57 ?_
        refine Rp.iload_n dX12_wish_58 rfl ?_
        first | ((with_reducible show Rp _ _ _ _ (.int (nI _) :: .int (nI _) :: _) _ _); refine Rp.iaddN dX12_wish_59 ?_) | refine Rp.iadd dX12_wish_59 ?_
        refine Rp.iload_n dX12_wish_60 rfl ?_
        first | ((with_reducible show Rp _ _ _ _ (_ :: .int (nI _) :: _) _ _); refine Rp.iastoreN dX12_wish_61 (S _ _ rfl) (by omega) ?_) | refine Rp.iastore dX12_wish_61 (S _ _ rfl) (by first | assumption | exact vpb (by decide)) ?_
        refine Rp.aload_n dX12_wish_62 rfl rfl ?_
        refine Rp.iload dX12_wish_63 rfl ?_
        refine Rp.callV1 M_X12_good (ci := 12) dX12_wish_65 mo_X12_good lk_X12_14 (by decide) rfl rfl (S _ _ rfl) (Nat.le_of_ble_eq_true rfl) (Nat.le_of_ble_eq_true rfl) (s_good (d + 1) (h := sI h am_kept (19 + 8 * q + u) v) S _) (fun v1 h1 p1 x1 => ?_)
        rw [p1.1, p1.2]
        try dsimp only [Option.toList, List.cons_append, List.nil_append, List.append]
        refine Rp.ireturn dX12_wish_68 rfl ?_
        simp [mWish, c7, c21, c29, gdH, ix_nI (show q < 2147483648 by omega), ix_nI (show u < 2147483648 by omega)]
      · skip
        refine Rp.aload_n dX12_wish_32 rfl rfl ?_
        refine Rp.bipush (-2) dX12_wish_33 (by decide) ?_
        refine Rp.callV1 M_X12_refuses (ci := 12) dX12_wish_35 mo_X12_refuses lk_X12_121 (by decide) rfl rfl (S _ _ rfl) (Nat.le_of_ble_eq_true rfl) (Nat.le_of_ble_eq_true rfl) (s_refuses (d + 1) S R 2 (by decide)) (fun v1 h1 p1 x1 => ?_)
        rw [p1.1, p1.2]
        try dsimp only [Option.toList, List.cons_append, List.nil_append, List.append]
        refine Rp.ireturn dX12_wish_38 rfl ?_
        simp [mWish, c7, c21, rfH]
        try simp [c29]
  · skip
    refine Rp.aload_n dX12_wish_10 rfl rfl ?_
    refine Rp.iconst (-1) dX12_wish_11 (by decide) ?_
    refine Rp.callV1 M_X12_refuses (ci := 12) dX12_wish_12 mo_X12_refuses lk_X12_121 (by decide) rfl rfl (S _ _ rfl) (Nat.le_of_ble_eq_true rfl) (Nat.le_of_ble_eq_true rfl) (s_refuses (d + 1) S R 1 (by decide)) (fun v1 h1 p1 x1 => ?_)
    rw [p1.1, p1.2]
    try dsimp only [Option.toList, List.cons_append, List.nil_append, List.append]
    refine Rp.ireturn dX12_wish_15 rfl ?_
    simp [mWish, c7, rfH]
def mDesk (h : AH) (o s : Int32) (nd : Nat) : Int32 × AH := if inN o 32 && decide (nI 1 ≤ s ∧ s ≤ nI 9) then (if nd = 3 then (-nI 5, rfH h 5) else (nI nd, gdH (sI (sI (sI h am_kept (83 + nd) o) am_kept (86 + nd) s) am_kept 105 (nI (nd + 1))))) else (-nI 1, rfH h 1)
theorem s_desk (S : ShOK h) (R : RfOK h) (o s : Int32) {nd : Nat} (hp : nd ≤ 3) (hM : gI h am_kept 105 = nI nd) : Rp (d + 1) M_X12_desk 0 [some (.ref aM), some (.int o), some (.int s), none] [] h (fun r h' => h' = (mDesk h o s nd).2 ∧ r = some (.int (mDesk h o s nd).1)) := by
  refine Rp.iload_n dX12_desk_0 rfl ?_
  refine Rp.iconst (nI 0) dX12_desk_1 (by decide) ?_
  refine Rp.bipush (nI 31) dX12_desk_2 (by decide) ?_
  refine Rp.callS3 M_X12_lies dX12_desk_4 mo_X12_lies lk_X12_117 (Nat.le_of_ble_eq_true rfl) (Nat.le_of_ble_eq_true rfl) (s_lies d h o (nI 0) (nI 31)) (fun v1 h1 p1 x1 => ?_)
  rw [p1.1, p1.2, inN_lies' (by omega)]
  try dsimp only [Option.toList, List.cons_append, List.nil_append, List.append]
  first | ((with_reducible show Rp _ _ _ _ (.int (b2i _) :: _) _ _); refine Rp.if_eqB (tgt := 20) dX12_desk_7 (by decide) (fun c7 => ?_) (fun c7 => ?_)) | ((with_reducible show Rp _ _ _ _ (.int (nI _) :: _) _ _); refine Rp.if_eqN (tgt := 20) dX12_desk_7 (by decide) (by omega) (fun c7 => ?_) (fun c7 => ?_)) | refine Rp.if_eq (tgt := 20) dX12_desk_7 (by decide) (fun c7 => ?_) (fun c7 => ?_)
  · skip
    refine Rp.aload_n dX12_desk_20 rfl rfl ?_
    refine Rp.iconst (-1) dX12_desk_21 (by decide) ?_
    refine Rp.callV1 M_X12_refuses (ci := 12) dX12_desk_22 mo_X12_refuses lk_X12_121 (by decide) rfl rfl (S _ _ rfl) (Nat.le_of_ble_eq_true rfl) (Nat.le_of_ble_eq_true rfl) (s_refuses d S R 1 (by decide)) (fun v1 h1 p1 x1 => ?_)
    rw [p1.1, p1.2]
    try dsimp only [Option.toList, List.cons_append, List.nil_append, List.append]
    refine Rp.ireturn dX12_desk_25 rfl ?_
    simp only [mDesk, c7]
    try simp only [c17]
    exact ⟨rfl, rfl⟩
  · skip
    refine Rp.iload_n dX12_desk_10 rfl ?_
    refine Rp.iconst (nI 1) dX12_desk_11 (by decide) ?_
    refine Rp.bipush (nI 9) dX12_desk_12 (by decide) ?_
    refine Rp.callS3 M_X12_lies dX12_desk_14 mo_X12_lies lk_X12_117 (Nat.le_of_ble_eq_true rfl) (Nat.le_of_ble_eq_true rfl) (s_lies d h s (nI 1) (nI 9)) (fun v1 h1 p1 x1 => ?_)
    rw [p1.1, p1.2]
    try dsimp only [Option.toList, List.cons_append, List.nil_append, List.append]
    first | ((with_reducible show Rp _ _ _ _ (.int (b2i _) :: _) _ _); refine Rp.if_neB (tgt := 26) dX12_desk_17 (by decide) (fun c17 => ?_) (fun c17 => ?_)) | ((with_reducible show Rp _ _ _ _ (.int (nI _) :: _) _ _); refine Rp.if_neN (tgt := 26) dX12_desk_17 (by decide) (by omega) (fun c17 => ?_) (fun c17 => ?_)) | refine Rp.if_ne (tgt := 26) dX12_desk_17 (by decide) (fun c17 => ?_) (fun c17 => ?_)
    · skip
      refine Rp.aload_n dX12_desk_26 rfl rfl ?_
      refine Rp.getR dX12_desk_27 fk_X12_24 rfl (S _ _ rfl) (R _ _ _ rfl) ?_
      refine Rp.bipush (nI 105) dX12_desk_30 (by decide) ?_
      first | ((with_reducible show Rp _ _ _ _ (.int (nI _) :: _) _ _); refine Rp.ialoadN dX12_desk_32 (S _ _ rfl) (by omega) ?_) | refine Rp.iaload dX12_desk_32 (S _ _ rfl) (by first | assumption | exact vpb (by decide)) ?_
      rw [show gI h 102 105 = nI nd from hM]
      refine Rp.ist3 dX12_desk_33 (by first | exact nl2_some rfl | exact nl2_none) (by decide) ?_
      refine Rp.iload_n dX12_desk_34 rfl ?_
      refine Rp.iconst (nI 3) dX12_desk_35 (by decide) ?_
      first | ((with_reducible show Rp _ _ _ _ (.int (nI _) :: .int (nI _) :: _) _ _); refine Rp.icmp_neN (tgt := 46) dX12_desk_36 (by decide) (by omega) (fun c36 => ?_) (fun c36 => ?_)) | refine Rp.icmp_ne (tgt := 46) dX12_desk_36 (by decide) (fun c36 => ?_) (fun c36 => ?_)
      · skip
        refine Rp.aload_n dX12_desk_46 rfl rfl ?_
        refine Rp.getR dX12_desk_47 fk_X12_24 rfl (S _ _ rfl) (R _ _ _ rfl) ?_
        refine Rp.bipush (nI 83) dX12_desk_50 (by decide) ?_
        refine Rp.iload_n dX12_desk_52 rfl ?_
        first | ((with_reducible show Rp _ _ _ _ (.int (nI _) :: .int (nI _) :: _) _ _); refine Rp.iaddN dX12_desk_53 ?_) | refine Rp.iadd dX12_desk_53 ?_
        refine Rp.iload_n dX12_desk_54 rfl ?_
        first | ((with_reducible show Rp _ _ _ _ (_ :: .int (nI _) :: _) _ _); refine Rp.iastoreN dX12_desk_55 (S _ _ rfl) (by omega) ?_) | refine Rp.iastore dX12_desk_55 (S _ _ rfl) (by first | assumption | exact vpb (by decide)) ?_
        refine Rp.aload_n dX12_desk_56 rfl rfl ?_
        refine Rp.getR dX12_desk_57 fk_X12_24 rfl (S _ _ rfl) (R _ _ _ rfl) ?_
        refine Rp.bipush (nI 86) dX12_desk_60 (by decide) ?_
        refine Rp.iload_n dX12_desk_62 rfl ?_
        first | ((with_reducible show Rp _ _ _ _ (.int (nI _) :: .int (nI _) :: _) _ _); refine Rp.iaddN dX12_desk_63 ?_) | refine Rp.iadd dX12_desk_63 ?_
        refine Rp.iload_n dX12_desk_64 rfl ?_
        first | ((with_reducible show Rp _ _ _ _ (_ :: .int (nI _) :: _) _ _); refine Rp.iastoreN dX12_desk_65 (S _ _ rfl) (by omega) ?_) | refine Rp.iastore dX12_desk_65 (S _ _ rfl) (by first | assumption | exact vpb (by decide)) ?_
        refine Rp.aload_n dX12_desk_66 rfl rfl ?_
        refine Rp.getR dX12_desk_67 fk_X12_24 rfl (S _ _ rfl) (R _ _ _ rfl) ?_
        refine Rp.bipush (nI 105) dX12_desk_70 (by decide) ?_
        refine Rp.dup2 dX12_desk_72 rfl rfl ?_
        first | ((with_reducible show Rp _ _ _ _ (.int (nI _) :: _) _ _); refine Rp.ialoadN dX12_desk_73 (S _ _ rfl) (by omega) ?_) | refine Rp.iaload dX12_desk_73 (S _ _ rfl) (by first | assumption | exact vpb (by decide)) ?_
        rw [show gI (sI (sI h 102 (83 + nd) o) 102 (86 + nd) s) 102 105 = nI nd by rw [gI_sI, if_pos rfl, if_neg (by omega), gI_sI, if_pos rfl, if_neg (by omega)]; exact hM]
        refine Rp.iconst (nI 1) dX12_desk_74 (by decide) ?_
        first | ((with_reducible show Rp _ _ _ _ (.int (nI _) :: .int (nI _) :: _) _ _); refine Rp.iaddN dX12_desk_75 ?_) | refine Rp.iadd dX12_desk_75 ?_
        first | ((with_reducible show Rp _ _ _ _ (_ :: .int (nI _) :: _) _ _); refine Rp.iastoreN dX12_desk_76 (S _ _ rfl) (by omega) ?_) | refine Rp.iastore dX12_desk_76 (S _ _ rfl) (by first | assumption | exact vpb (by decide)) ?_
        refine Rp.aload_n dX12_desk_77 rfl rfl ?_
        refine Rp.iload_n dX12_desk_78 rfl ?_
        refine Rp.callV1 M_X12_good (ci := 12) dX12_desk_79 mo_X12_good lk_X12_14 (by decide) rfl rfl (S _ _ rfl) (Nat.le_of_ble_eq_true rfl) (Nat.le_of_ble_eq_true rfl) (s_good d (h := sI (sI (sI h am_kept (83 + nd) o) am_kept (86 + nd) s) am_kept 105 (nI (nd + 1))) S _) (fun v1 h1 p1 x1 => ?_)
        rw [p1.1, p1.2]
        try dsimp only [Option.toList, List.cons_append, List.nil_append, List.append]
        refine Rp.ireturn dX12_desk_82 rfl ?_
        simp [mDesk, c7, c17, c36, gdH]
      · skip
        refine Rp.aload_n dX12_desk_39 rfl rfl ?_
        refine Rp.bipush (-5) dX12_desk_40 (by decide) ?_
        refine Rp.callV1 M_X12_refuses (ci := 12) dX12_desk_42 mo_X12_refuses lk_X12_121 (by decide) rfl rfl (S _ _ rfl) (Nat.le_of_ble_eq_true rfl) (Nat.le_of_ble_eq_true rfl) (s_refuses d S R 5 (by decide)) (fun v1 h1 p1 x1 => ?_)
        rw [p1.1, p1.2]
        try dsimp only [Option.toList, List.cons_append, List.nil_append, List.append]
        refine Rp.ireturn dX12_desk_45 rfl ?_
        simp [mDesk, c7, c17, c36, rfH]
    · skip
      refine Rp.aload_n dX12_desk_20 rfl rfl ?_
      refine Rp.iconst (-1) dX12_desk_21 (by decide) ?_
      refine Rp.callV1 M_X12_refuses (ci := 12) dX12_desk_22 mo_X12_refuses lk_X12_121 (by decide) rfl rfl (S _ _ rfl) (Nat.le_of_ble_eq_true rfl) (Nat.le_of_ble_eq_true rfl) (s_refuses d S R 1 (by decide)) (fun v1 h1 p1 x1 => ?_)
      rw [p1.1, p1.2]
      try dsimp only [Option.toList, List.cons_append, List.nil_append, List.append]
      refine Rp.ireturn dX12_desk_25 rfl ?_
      simp only [mDesk, c7]
      try simp only [c17]
      exact ⟨rfl, rfl⟩
def isTermM (w v : Int32) : Bool := if w = nI 0 then inN v 1000 else if w = nI 1 then inN v 11 else if w = nI 2 then inN v 10 else false
theorem s_isTerm (w v : Int32) : Rp (d + 1) M_X12_isTerm 0 [some (.int w), some (.int v)] [] h (fun r h' => h' = h ∧ r = some (.int (b2i (isTermM w v)))) := by
  refine Rp.iload_n dX12_isTerm_0 rfl ?_
  by_cases hx1 : inN w 3 = true
  · obtain ⟨j1, hj1, rfl⟩ := (inN_iff (by omega)).mp hx1
    match j1, hj1 with
    | 0, _ =>
      refine Rp.tableIn (tgt := 28) (off := 27) dX12_isTerm_1 (by decide) (by decide) (by decide) (by decide) ?_
      refine Rp.iload_n dX12_isTerm_28 rfl ?_
      refine Rp.iconst (nI 0) dX12_isTerm_29 (by decide) ?_
      refine Rp.sipush (nI 999) dX12_isTerm_30 (by decide +kernel) ?_
      refine Rp.callS3 M_X12_lies dX12_isTerm_33 mo_X12_lies lk_X12_117 (Nat.le_of_ble_eq_true rfl) (Nat.le_of_ble_eq_true rfl) (s_lies d h v (nI 0) (nI 999)) (fun v1 h1 p1 x1 => ?_)
      rw [p1.1, p1.2, inN_lies' (by omega)]
      try dsimp only [Option.toList, List.cons_append, List.nil_append, List.append]
      refine Rp.zreturn dX12_isTerm_36 rfl (b2i_01 _) ?_
      exact ⟨rfl, rfl⟩
    | 1, _ =>
      refine Rp.tableIn (tgt := 37) (off := 36) dX12_isTerm_1 (by decide) (by decide) (by decide) (by decide) ?_
      refine Rp.iload_n dX12_isTerm_37 rfl ?_
      refine Rp.iconst (nI 0) dX12_isTerm_38 (by decide) ?_
      refine Rp.bipush (nI 10) dX12_isTerm_39 (by decide) ?_
      refine Rp.callS3 M_X12_lies dX12_isTerm_41 mo_X12_lies lk_X12_117 (Nat.le_of_ble_eq_true rfl) (Nat.le_of_ble_eq_true rfl) (s_lies d h v (nI 0) (nI 10)) (fun v1 h1 p1 x1 => ?_)
      rw [p1.1, p1.2, inN_lies' (by omega)]
      try dsimp only [Option.toList, List.cons_append, List.nil_append, List.append]
      refine Rp.zreturn dX12_isTerm_44 rfl (b2i_01 _) ?_
      exact ⟨rfl, rfl⟩
    | 2, _ =>
      refine Rp.tableIn (tgt := 45) (off := 44) dX12_isTerm_1 (by decide) (by decide) (by decide) (by decide) ?_
      refine Rp.iload_n dX12_isTerm_45 rfl ?_
      refine Rp.iconst (nI 0) dX12_isTerm_46 (by decide) ?_
      refine Rp.bipush (nI 9) dX12_isTerm_47 (by decide) ?_
      refine Rp.callS3 M_X12_lies dX12_isTerm_49 mo_X12_lies lk_X12_117 (Nat.le_of_ble_eq_true rfl) (Nat.le_of_ble_eq_true rfl) (s_lies d h v (nI 0) (nI 9)) (fun v1 h1 p1 x1 => ?_)
      rw [p1.1, p1.2, inN_lies' (by omega)]
      try dsimp only [Option.toList, List.cons_append, List.nil_append, List.append]
      refine Rp.zreturn dX12_isTerm_52 rfl (b2i_01 _) ?_
      exact ⟨rfl, rfl⟩
    | k + 3, hk => exact absurd hk (by omega)
  · refine Rp.tableOut (tgt := 53) dX12_isTerm_1 (by unfold inN at hx1; rw [decide_eq_true_eq] at hx1; omega) (by decide) ?_
    refine Rp.iconst (nI 0) dX12_isTerm_53 (by decide) ?_
    refine Rp.zreturn dX12_isTerm_54 rfl (by first | exact Or.inl rfl | exact Or.inr rfl | assumption) ?_
    refine ⟨rfl, ?_⟩
    rw [isTermM, if_neg (fun z => hx1 (by rw [z]; rfl)), if_neg (fun z => hx1 (by rw [z]; rfl)), if_neg (fun z => hx1 (by rw [z]; rfl))]; rfl
def tAt (w : Int32) : Nat := if w = 0 then 6 else if w = nI 1 then 101 else 102
theorem s_termAt (w : Int32) : Rp d M_X12_termAt 0 [some (.int w)] [] h (fun r h' => h' = h ∧ r = some (.int (nI (tAt w)))) := by
  refine Rp.iload_n dX12_termAt_0 rfl ?_
  first | ((with_reducible show Rp _ _ _ _ (.int (b2i _) :: _) _ _); refine Rp.if_neB (tgt := 9) dX12_termAt_1 (by decide) (fun c1 => ?_) (fun c1 => ?_)) | ((with_reducible show Rp _ _ _ _ (.int (nI _) :: _) _ _); refine Rp.if_neN (tgt := 9) dX12_termAt_1 (by decide) (by omega) (fun c1 => ?_) (fun c1 => ?_)) | refine Rp.if_ne (tgt := 9) dX12_termAt_1 (by decide) (fun c1 => ?_) (fun c1 => ?_)
  · skip
    refine Rp.iload_n dX12_termAt_9 rfl ?_
    refine Rp.iconst (nI 1) dX12_termAt_10 (by decide) ?_
    first | ((with_reducible show Rp _ _ _ _ (.int (nI _) :: .int (nI _) :: _) _ _); refine Rp.icmp_neN (tgt := 19) dX12_termAt_11 (by decide) (by omega) (fun c11 => ?_) (fun c11 => ?_)) | refine Rp.icmp_ne (tgt := 19) dX12_termAt_11 (by decide) (fun c11 => ?_) (fun c11 => ?_)
    · skip
      refine Rp.bipush (nI 102) dX12_termAt_19 (by decide) ?_
      refine Rp.ireturn dX12_termAt_21 rfl ?_
      refine ⟨rfl, ?_⟩
      first | (rw [tAt, if_pos c1]; done) | (rw [tAt, if_neg c1, if_pos c11]; done) | (rw [tAt, if_neg c1, if_neg c11]; done)
    · skip
      refine Rp.bipush (nI 101) dX12_termAt_14 (by decide) ?_
      refine Rp.goto (tgt := 21) dX12_termAt_16 (by decide) ?_
      refine Rp.ireturn dX12_termAt_21 rfl ?_
      refine ⟨rfl, ?_⟩
      first | (rw [tAt, if_pos c1]; done) | (rw [tAt, if_neg c1, if_pos c11]; done) | (rw [tAt, if_neg c1, if_neg c11]; done)
  · skip
    refine Rp.bipush (nI 6) dX12_termAt_4 (by decide) ?_
    refine Rp.goto (tgt := 21) dX12_termAt_6 (by decide) ?_
    refine Rp.ireturn dX12_termAt_21 rfl ?_
    refine ⟨rfl, ?_⟩
    first | (rw [tAt, if_pos c1]; done) | (rw [tAt, if_neg c1, if_pos c11]; done) | (rw [tAt, if_neg c1, if_neg c11]; done)
end MS
