section MT2
variable (d : Nat) {h : AH}
def mTerms (h : AH) (w v : Int32) : Int32 × AH := if isTermM w v then (gI h am_kept (tAt w), gaH (sI h am_kept (tAt w) v)) else (-nI 1, rfH h 1)
theorem tAt_lt (w : Int32) : tAt w < 5716 := by unfold tAt; split; omega; split <;> omega
theorem s_terms (S : ShOK h) (R : RfOK h) (w v : Int32) : Rp (d + 2) M_X12_terms 0 [some (.ref aM), some (.int w), some (.int v), none] [] h (fun r h' => h' = (mTerms h w v).2 ∧ r = some (.int (mTerms h w v).1)) := by
  have ht := tAt_lt w
  refine Rp.iload_n dX12_terms_0 rfl ?_
  refine Rp.iload_n dX12_terms_1 rfl ?_
  refine Rp.callS2 M_X12_isTerm dX12_terms_2 mo_X12_isTerm lk_X12_168 (Nat.le_of_ble_eq_true rfl) (Nat.le_of_ble_eq_true rfl) (s_isTerm d w v) (fun v1 h1 p1 x1 => ?_)
  rw [p1.1, p1.2]
  try dsimp only [Option.toList, List.cons_append, List.nil_append, List.append]
  first | ((with_reducible show Rp _ _ _ _ (.int (b2i _) :: _) _ _); refine Rp.if_neB (tgt := 14) dX12_terms_5 (by decide) (fun c5 => ?_) (fun c5 => ?_)) | ((with_reducible show Rp _ _ _ _ (.int (nI _) :: _) _ _); refine Rp.if_neN (tgt := 14) dX12_terms_5 (by decide) (by omega) (fun c5 => ?_) (fun c5 => ?_)) | refine Rp.if_ne (tgt := 14) dX12_terms_5 (by decide) (fun c5 => ?_) (fun c5 => ?_)
  · skip
    refine Rp.aload_n dX12_terms_14 rfl rfl ?_
    refine Rp.getR dX12_terms_15 fk_X12_24 rfl (S _ _ rfl) (R _ _ _ rfl) ?_
    refine Rp.iload_n dX12_terms_18 rfl ?_
    refine Rp.callS1 M_X12_termAt dX12_terms_19 mo_X12_termAt lk_X12_171 (Nat.le_of_ble_eq_true rfl) (Nat.le_of_ble_eq_true rfl) (s_termAt (d + 1) w) (fun v1 h1 p1 x1 => ?_)
    rw [p1.1, p1.2]
    try dsimp only [Option.toList, List.cons_append, List.nil_append, List.append]
    first | ((with_reducible show Rp _ _ _ _ (.int (nI _) :: _) _ _); refine Rp.ialoadN dX12_terms_22 (S _ _ rfl) (by omega) ?_) | refine Rp.iaload dX12_terms_22 (S _ _ rfl) (by first | assumption | exact vpb (by decide)) ?_
    refine Rp.ist3 dX12_terms_23 (by first | exact nl2_some rfl | exact nl2_none) (by decide) ?_
    refine Rp.aload_n dX12_terms_24 rfl rfl ?_
    refine Rp.getR dX12_terms_25 fk_X12_24 rfl (S _ _ rfl) (R _ _ _ rfl) ?_
    refine Rp.iload_n dX12_terms_28 rfl ?_
    refine Rp.callS1 M_X12_termAt dX12_terms_29 mo_X12_termAt lk_X12_171 (Nat.le_of_ble_eq_true rfl) (Nat.le_of_ble_eq_true rfl) (s_termAt (d + 1) w) (fun v1 h1 p1 x1 => ?_)
    rw [p1.1, p1.2]
    try dsimp only [Option.toList, List.cons_append, List.nil_append, List.append]
    refine Rp.iload_n dX12_terms_32 rfl ?_
    first | ((with_reducible show Rp _ _ _ _ (_ :: .int (nI _) :: _) _ _); refine Rp.iastoreN dX12_terms_33 (S _ _ rfl) (by omega) ?_) | refine Rp.iastore dX12_terms_33 (S _ _ rfl) (by first | assumption | exact vpb (by decide)) ?_
    refine Rp.aload_n dX12_terms_34 rfl rfl ?_
    refine Rp.iload_n dX12_terms_35 rfl ?_
    refine Rp.callV1 M_X12_goodAnew (ci := 12) dX12_terms_36 mo_X12_goodAnew lk_X12_124 (by decide) rfl rfl (S _ _ rfl) (Nat.le_of_ble_eq_true rfl) (Nat.le_of_ble_eq_true rfl) (s_goodAnew d (h := sI h am_kept (tAt w) v) S _) (fun v1 h1 p1 x1 => ?_)
    rw [p1.1, p1.2]
    try dsimp only [Option.toList, List.cons_append, List.nil_append, List.append]
    refine Rp.ireturn dX12_terms_39 rfl ?_
    simp [mTerms, c5, gaH]
  · skip
    refine Rp.aload_n dX12_terms_8 rfl rfl ?_
    refine Rp.iconst (-1) dX12_terms_9 (by decide) ?_
    refine Rp.callV1 M_X12_refuses (ci := 12) dX12_terms_10 mo_X12_refuses lk_X12_121 (by decide) rfl rfl (S _ _ rfl) (Nat.le_of_ble_eq_true rfl) (Nat.le_of_ble_eq_true rfl) (s_refuses (d + 1) S R 1 (by decide)) (fun v1 h1 p1 x1 => ?_)
    rw [p1.1, p1.2]
    try dsimp only [Option.toList, List.cons_append, List.nil_append, List.append]
    refine Rp.ireturn dX12_terms_13 rfl ?_
    simp [mTerms, c5, rfH]
def mEnd (h : AH) (n : Int32) : Int32 × AH := if decide (nI 0 ≤ n ∧ n ≤ gI h aM fm_taped) then (n, sI h aM fm_taped n) else (-1, h)
theorem s_end (S : ShOK h) (n : Int32) : Rp (d + 1) M_X12_end 0 [some (.ref aM), some (.int n)] [] h (fun r h' => h' = (mEnd h n).2 ∧ r = some (.int (mEnd h n).1)) := by
  refine Rp.iload_n dX12_end_0 rfl ?_
  refine Rp.iconst (nI 0) dX12_end_1 (by decide) ?_
  refine Rp.aload_n dX12_end_2 rfl rfl ?_
  refine Rp.getI dX12_end_3 fk_X12_174 rfl (S _ _ rfl) ?_
  refine Rp.callS3 M_X12_lies dX12_end_6 mo_X12_lies lk_X12_117 (Nat.le_of_ble_eq_true rfl) (Nat.le_of_ble_eq_true rfl) (s_lies d h n (nI 0) (gI h aM fm_taped)) (fun v1 h1 p1 x1 => ?_)
  rw [p1.1, p1.2]
  try dsimp only [Option.toList, List.cons_append, List.nil_append, List.append]
  first | ((with_reducible show Rp _ _ _ _ (.int (b2i _) :: _) _ _); refine Rp.if_neB (tgt := 14) dX12_end_9 (by decide) (fun c9 => ?_) (fun c9 => ?_)) | ((with_reducible show Rp _ _ _ _ (.int (nI _) :: _) _ _); refine Rp.if_neN (tgt := 14) dX12_end_9 (by decide) (by omega) (fun c9 => ?_) (fun c9 => ?_)) | refine Rp.if_ne (tgt := 14) dX12_end_9 (by decide) (fun c9 => ?_) (fun c9 => ?_)
  · skip
    refine Rp.aload_n dX12_end_14 rfl rfl ?_
    refine Rp.iload_n dX12_end_15 rfl ?_
    refine Rp.putI dX12_end_16 fk_X12_174w rfl (S _ _ rfl) ?_
    refine Rp.iload_n dX12_end_19 rfl ?_
    refine Rp.ireturn dX12_end_20 rfl ?_
    unfold mEnd
    rw [c9]
    exact ⟨rfl, rfl⟩
  · skip
    refine Rp.iconst (-1) dX12_end_12 (by decide) ?_
    refine Rp.ireturn dX12_end_13 rfl ?_
    unfold mEnd
    rw [c9]
    exact ⟨rfl, rfl⟩
theorem s_isLaw (S : ShOK h) (R : RfOK h) (x : Int32) : Rp (d + 1) M_X12_isLaw 0 [some (.ref aM), some (.int x)] [] h (fun r h' => h' = h ∧ r = some (.int (b2i (decide (-1 ≤ x ∧ x ≤ gI h am_kept 107 - nI 1))))) := by
  refine Rp.iload_n dX12_isLaw_0 rfl ?_
  refine Rp.iconst (-1) dX12_isLaw_1 (by decide) ?_
  refine Rp.aload_n dX12_isLaw_2 rfl rfl ?_
  refine Rp.getR dX12_isLaw_3 fk_X12_24 rfl (S _ _ rfl) (R _ _ _ rfl) ?_
  refine Rp.bipush (nI 107) dX12_isLaw_6 (by decide) ?_
  first | ((with_reducible show Rp _ _ _ _ (.int (nI _) :: _) _ _); refine Rp.ialoadN dX12_isLaw_8 (S _ _ rfl) (by omega) ?_) | refine Rp.iaload dX12_isLaw_8 (S _ _ rfl) (by first | assumption | exact vpb (by decide)) ?_
  refine Rp.iconst (nI 1) dX12_isLaw_9 (by decide) ?_
  first | ((with_reducible show Rp _ _ _ _ (.int (nI _) :: .int (nI _) :: _) _ _); refine Rp.isubN dX12_isLaw_10 (by omega) ?_) | refine Rp.isub dX12_isLaw_10 ?_
  refine Rp.callS3 M_X12_lies dX12_isLaw_11 mo_X12_lies lk_X12_117 (Nat.le_of_ble_eq_true rfl) (Nat.le_of_ble_eq_true rfl) (s_lies d h x (-1) (gI h am_kept 107 - nI 1)) (fun v1 h1 p1 x1 => ?_)
  rw [p1.1, p1.2]
  try dsimp only [Option.toList, List.cons_append, List.nil_append, List.append]
  refine Rp.zreturn dX12_isLaw_14 rfl (b2i_01 _) ?_
  exact ⟨rfl, rfl⟩
def mForce (h : AH) (x : Int32) : Int32 × AH := if decide (-1 ≤ x ∧ x ≤ gI h am_kept 107 - nI 1) then (gI h am_kept 108, gdH (sI h am_kept 108 x)) else (-nI 2, rfH h 2)
theorem s_force (S : ShOK h) (R : RfOK h) (x : Int32) : Rp (d + 2) M_X12_force 0 [some (.ref aM), some (.int x), none] [] h (fun r h' => h' = (mForce h x).2 ∧ r = some (.int (mForce h x).1)) := by
  refine Rp.aload_n dX12_force_0 rfl rfl ?_
  refine Rp.iload_n dX12_force_1 rfl ?_
  refine Rp.callV1 M_X12_isLaw (ci := 12) dX12_force_2 mo_X12_isLaw lk_X12_276 (by decide) rfl rfl (S _ _ rfl) (Nat.le_of_ble_eq_true rfl) (Nat.le_of_ble_eq_true rfl) (s_isLaw d S R x) (fun v1 h1 p1 x1 => ?_)
  rw [p1.1, p1.2]
  try dsimp only [Option.toList, List.cons_append, List.nil_append, List.append]
  first | ((with_reducible show Rp _ _ _ _ (.int (b2i _) :: _) _ _); refine Rp.if_neB (tgt := 15) dX12_force_5 (by decide) (fun c5 => ?_) (fun c5 => ?_)) | ((with_reducible show Rp _ _ _ _ (.int (nI _) :: _) _ _); refine Rp.if_neN (tgt := 15) dX12_force_5 (by decide) (by omega) (fun c5 => ?_) (fun c5 => ?_)) | refine Rp.if_ne (tgt := 15) dX12_force_5 (by decide) (fun c5 => ?_) (fun c5 => ?_)
  · skip
    refine Rp.aload_n dX12_force_15 rfl rfl ?_
    refine Rp.getR dX12_force_16 fk_X12_24 rfl (S _ _ rfl) (R _ _ _ rfl) ?_
    refine Rp.bipush (nI 108) dX12_force_19 (by decide) ?_
    first | ((with_reducible show Rp _ _ _ _ (.int (nI _) :: _) _ _); refine Rp.ialoadN dX12_force_21 (S _ _ rfl) (by omega) ?_) | refine Rp.iaload dX12_force_21 (S _ _ rfl) (by first | assumption | exact vpb (by decide)) ?_
    refine Rp.ist2 dX12_force_22 (by first | exact nl2_some rfl | exact nl2_none) (by decide) ?_
    refine Rp.aload_n dX12_force_23 rfl rfl ?_
    refine Rp.getR dX12_force_24 fk_X12_24 rfl (S _ _ rfl) (R _ _ _ rfl) ?_
    refine Rp.bipush (nI 108) dX12_force_27 (by decide) ?_
    refine Rp.iload_n dX12_force_29 rfl ?_
    first | ((with_reducible show Rp _ _ _ _ (_ :: .int (nI _) :: _) _ _); refine Rp.iastoreN dX12_force_30 (S _ _ rfl) (by omega) ?_) | refine Rp.iastore dX12_force_30 (S _ _ rfl) (by first | assumption | exact vpb (by decide)) ?_
    refine Rp.aload_n dX12_force_31 rfl rfl ?_
    refine Rp.iload_n dX12_force_32 rfl ?_
    refine Rp.callV1 M_X12_good (ci := 12) dX12_force_33 mo_X12_good lk_X12_14 (by decide) rfl rfl (S _ _ rfl) (Nat.le_of_ble_eq_true rfl) (Nat.le_of_ble_eq_true rfl) (s_good (d + 1) (h := sI h am_kept 108 x) S _) (fun v1 h1 p1 x1 => ?_)
    rw [p1.1, p1.2]
    try dsimp only [Option.toList, List.cons_append, List.nil_append, List.append]
    refine Rp.ireturn dX12_force_36 rfl ?_
    unfold mForce
    rw [c5]
    exact ⟨rfl, rfl⟩
  · skip
    refine Rp.aload_n dX12_force_8 rfl rfl ?_
    refine Rp.bipush (-2) dX12_force_9 (by decide) ?_
    refine Rp.callV1 M_X12_refuses (ci := 12) dX12_force_11 mo_X12_refuses lk_X12_121 (by decide) rfl rfl (S _ _ rfl) (Nat.le_of_ble_eq_true rfl) (Nat.le_of_ble_eq_true rfl) (s_refuses (d + 1) S R 2 (by decide)) (fun v1 h1 p1 x1 => ?_)
    rw [p1.1, p1.2]
    try dsimp only [Option.toList, List.cons_append, List.nil_append, List.append]
    refine Rp.ireturn dX12_force_14 rfl ?_
    unfold mForce
    rw [c5]
    exact ⟨rfl, rfl⟩
theorem s_scraps (S : ShOK h) : Rp d M_X12_scraps 0 [some (.ref aM)] [] h (fun r h' => h' = h ∧ r = some (.int (gI h aM fm_scraps0))) := by
  refine Rp.aload_n dX12_scraps_0 rfl rfl ?_
  refine Rp.getI dX12_scraps_1 fk_X12_177 rfl (S _ _ rfl) ?_
  refine Rp.ireturn dX12_scraps_4 rfl ?_
  exact ⟨rfl, rfl⟩
theorem s_status (S : ShOK h) : Rp d M_X12_status 0 [some (.ref aM)] [] h (fun r h' => h' = h ∧ r = some (.int (gI h aM fm_status))) := by
  refine Rp.aload_n dX12_status_0 rfl rfl ?_
  refine Rp.getI dX12_status_1 fk_X12_3 rfl (S _ _ rfl) ?_
  refine Rp.ireturn dX12_status_4 rfl ?_
  exact ⟨rfl, rfl⟩
theorem s_fault (S : ShOK h) : Rp d M_X12_fault 0 [some (.ref aM)] [] h (fun r h' => h' = h ∧ r = some (.int (gI h aM fm_fault))) := by
  refine Rp.aload_n dX12_fault_0 rfl rfl ?_
  refine Rp.getI dX12_fault_1 fk_X12_47 rfl (S _ _ rfl) ?_
  refine Rp.ireturn dX12_fault_4 rfl ?_
  exact ⟨rfl, rfl⟩
theorem s_stopped (S : ShOK h) : Rp d M_X12_stopped 0 [some (.ref aM)] [] h (fun r h' => h' = h ∧ r = some (.int (gI h aM fm_stopped0))) := by
  refine Rp.aload_n dX12_stopped_0 rfl rfl ?_
  refine Rp.getI dX12_stopped_1 fk_X12_105 rfl (S _ _ rfl) ?_
  refine Rp.ireturn dX12_stopped_4 rfl ?_
  exact ⟨rfl, rfl⟩
def mForget (h : AH) : Int32 × AH := (gI h am_kept 106, sI h am_kept 106 (nI 0))
theorem s_forget (S : ShOK h) (R : RfOK h) : Rp d M_X12_forget 0 [some (.ref aM), none] [] h (fun r h' => h' = (mForget h).2 ∧ r = some (.int (mForget h).1)) := by
  refine Rp.aload_n dX12_forget_0 rfl rfl ?_
  refine Rp.getR dX12_forget_1 fk_X12_24 rfl (S _ _ rfl) (R _ _ _ rfl) ?_
  refine Rp.bipush (nI 106) dX12_forget_4 (by decide) ?_
  first | ((with_reducible show Rp _ _ _ _ (.int (nI _) :: _) _ _); refine Rp.ialoadN dX12_forget_6 (S _ _ rfl) (by omega) ?_) | refine Rp.iaload dX12_forget_6 (S _ _ rfl) (by first | assumption | exact vpb (by decide)) ?_
  refine Rp.ist1 dX12_forget_7 (by first | exact nl2_some rfl | exact nl2_none) (by decide) ?_
  refine Rp.aload_n dX12_forget_8 rfl rfl ?_
  refine Rp.getR dX12_forget_9 fk_X12_24 rfl (S _ _ rfl) (R _ _ _ rfl) ?_
  refine Rp.bipush (nI 106) dX12_forget_12 (by decide) ?_
  refine Rp.iconst (nI 0) dX12_forget_14 (by decide) ?_
  first | ((with_reducible show Rp _ _ _ _ (_ :: .int (nI _) :: _) _ _); refine Rp.iastoreN dX12_forget_15 (S _ _ rfl) (by omega) ?_) | refine Rp.iastore dX12_forget_15 (S _ _ rfl) (by first | assumption | exact vpb (by decide)) ?_
  refine Rp.iload_n dX12_forget_16 rfl ?_
  refine Rp.ireturn dX12_forget_17 rfl ?_
  exact ⟨rfl, rfl⟩
def mTold (h : AH) (p m : Int32) (np nq : Nat) : Int32 × AH := if inN m 1000 then (if inN p np then (if nq = 6 then (-nI 5, rfH h 5) else (nI (nq + 1), gdH (sI (sI (sI h am_kept (89 + 2 * nq) p) am_kept (89 + 2 * nq + 1) m) am_kept 106 (nI (nq + 1))))) else (-nI 2, rfH h 2)) else (-nI 1, rfH h 1)
theorem s_told (S : ShOK h) (R : RfOK h) (p m : Int32) {np nq : Nat} (hp : np ≤ 6) (hq : nq ≤ 6) (hM : gI h am_kept 103 = nI np) (hQ : gI h am_kept 106 = nI nq) : Rp (d + 2) M_X12_told 0 [some (.ref aM), some (.int p), some (.int m), none] [] h (fun r h' => h' = (mTold h p m np nq).2 ∧ r = some (.int (mTold h p m np nq).1)) := by
  refine Rp.iload_n dX12_told_0 rfl ?_
  refine Rp.iconst (nI 0) dX12_told_1 (by decide) ?_
  refine Rp.sipush (nI 999) dX12_told_2 (by decide +kernel) ?_
  refine Rp.callS3 M_X12_lies dX12_told_5 mo_X12_lies lk_X12_117 (Nat.le_of_ble_eq_true rfl) (Nat.le_of_ble_eq_true rfl) (s_lies (d + 1) h m (nI 0) (nI 999)) (fun v1 h1 p1 x1 => ?_)
  rw [p1.1, p1.2, inN_lies' (by omega)]
  try dsimp only [Option.toList, List.cons_append, List.nil_append, List.append]
  first | ((with_reducible show Rp _ _ _ _ (.int (b2i _) :: _) _ _); refine Rp.if_neB (tgt := 17) dX12_told_8 (by decide) (fun c8 => ?_) (fun c8 => ?_)) | ((with_reducible show Rp _ _ _ _ (.int (nI _) :: _) _ _); refine Rp.if_neN (tgt := 17) dX12_told_8 (by decide) (by omega) (fun c8 => ?_) (fun c8 => ?_)) | refine Rp.if_ne (tgt := 17) dX12_told_8 (by decide) (fun c8 => ?_) (fun c8 => ?_)
  · skip
    refine Rp.aload_n dX12_told_17 rfl rfl ?_
    refine Rp.iload_n dX12_told_18 rfl ?_
    refine Rp.callV1 M_X12_isPerson (ci := 12) dX12_told_19 mo_X12_isPerson lk_X12_131 (by decide) rfl rfl (S _ _ rfl) (Nat.le_of_ble_eq_true rfl) (Nat.le_of_ble_eq_true rfl) (s_isPerson d S R p hp hM) (fun v1 h1 p1 x1 => ?_)
    rw [p1.1, p1.2]
    try dsimp only [Option.toList, List.cons_append, List.nil_append, List.append]
    first | ((with_reducible show Rp _ _ _ _ (.int (b2i _) :: _) _ _); refine Rp.if_neB (tgt := 32) dX12_told_22 (by decide) (fun c22 => ?_) (fun c22 => ?_)) | ((with_reducible show Rp _ _ _ _ (.int (nI _) :: _) _ _); refine Rp.if_neN (tgt := 32) dX12_told_22 (by decide) (by omega) (fun c22 => ?_) (fun c22 => ?_)) | refine Rp.if_ne (tgt := 32) dX12_told_22 (by decide) (fun c22 => ?_) (fun c22 => ?_)
    · skip
      refine Rp.aload_n dX12_told_32 rfl rfl ?_
      refine Rp.getR dX12_told_33 fk_X12_24 rfl (S _ _ rfl) (R _ _ _ rfl) ?_
      refine Rp.bipush (nI 106) dX12_told_36 (by decide) ?_
      first | ((with_reducible show Rp _ _ _ _ (.int (nI _) :: _) _ _); refine Rp.ialoadN dX12_told_38 (S _ _ rfl) (by omega) ?_) | refine Rp.iaload dX12_told_38 (S _ _ rfl) (by first | assumption | exact vpb (by decide)) ?_
      rw [show gI h 102 106 = nI nq from hQ]
      refine Rp.ist3 dX12_told_39 (by first | exact nl2_some rfl | exact nl2_none) (by decide) ?_
      refine Rp.iload_n dX12_told_40 rfl ?_
      refine Rp.bipush (nI 6) dX12_told_41 (by decide) ?_
      first | ((with_reducible show Rp _ _ _ _ (.int (nI _) :: .int (nI _) :: _) _ _); refine Rp.icmp_neN (tgt := 53) dX12_told_43 (by decide) (by omega) (fun c43 => ?_) (fun c43 => ?_)) | refine Rp.icmp_ne (tgt := 53) dX12_told_43 (by decide) (fun c43 => ?_) (fun c43 => ?_)
      · skip
        refine Rp.aload_n dX12_told_53 rfl rfl ?_
        refine Rp.getR dX12_told_54 fk_X12_24 rfl (S _ _ rfl) (R _ _ _ rfl) ?_
        refine Rp.bipush (nI 89) dX12_told_57 (by decide) ?_
        refine Rp.iconst (nI 2) dX12_told_59 (by decide) ?_
        refine Rp.iload_n dX12_told_60 rfl ?_
        first | ((with_reducible show Rp _ _ _ _ (.int (nI _) :: .int (nI _) :: _) _ _); refine Rp.imulN dX12_told_61 ?_) | refine Rp.imul dX12_told_61 ?_
        first | ((with_reducible show Rp _ _ _ _ (.int (nI _) :: .int (nI _) :: _) _ _); refine Rp.iaddN dX12_told_62 ?_) | refine Rp.iadd dX12_told_62 ?_
        refine Rp.iload_n dX12_told_63 rfl ?_
        first | ((with_reducible show Rp _ _ _ _ (_ :: .int (nI _) :: _) _ _); refine Rp.iastoreN dX12_told_64 (S _ _ rfl) (by omega) ?_) | refine Rp.iastore dX12_told_64 (S _ _ rfl) (by first | assumption | exact vpb (by decide)) ?_
        refine Rp.aload_n dX12_told_65 rfl rfl ?_
        refine Rp.getR dX12_told_66 fk_X12_24 rfl (S _ _ rfl) (R _ _ _ rfl) ?_
        refine Rp.bipush (nI 89) dX12_told_69 (by decide) ?_
        refine Rp.iconst (nI 2) dX12_told_71 (by decide) ?_
        refine Rp.iload_n dX12_told_72 rfl ?_
        first | ((with_reducible show Rp _ _ _ _ (.int (nI _) :: .int (nI _) :: _) _ _); refine Rp.imulN dX12_told_73 ?_) | refine Rp.imul dX12_told_73 ?_
        first | ((with_reducible show Rp _ _ _ _ (.int (nI _) :: .int (nI _) :: _) _ _); refine Rp.iaddN dX12_told_74 ?_) | refine Rp.iadd dX12_told_74 ?_
        refine Rp.iconst (nI 1) dX12_told_75 (by decide) ?_
        first | ((with_reducible show Rp _ _ _ _ (.int (nI _) :: .int (nI _) :: _) _ _); refine Rp.iaddN dX12_told_76 ?_) | refine Rp.iadd dX12_told_76 ?_
        refine Rp.iload_n dX12_told_77 rfl ?_
        first | ((with_reducible show Rp _ _ _ _ (_ :: .int (nI _) :: _) _ _); refine Rp.iastoreN dX12_told_78 (S _ _ rfl) (by omega) ?_) | refine Rp.iastore dX12_told_78 (S _ _ rfl) (by first | assumption | exact vpb (by decide)) ?_
        refine Rp.aload_n dX12_told_79 rfl rfl ?_
        refine Rp.getR dX12_told_80 fk_X12_24 rfl (S _ _ rfl) (R _ _ _ rfl) ?_
        refine Rp.bipush (nI 106) dX12_told_83 (by decide) ?_
        refine Rp.dup2 dX12_told_85 rfl rfl ?_
        first | ((with_reducible show Rp _ _ _ _ (.int (nI _) :: _) _ _); refine Rp.ialoadN dX12_told_86 (S _ _ rfl) (by omega) ?_) | refine Rp.iaload dX12_told_86 (S _ _ rfl) (by first | assumption | exact vpb (by decide)) ?_
        rw [show gI (sI (sI h 102 (89 + 2 * nq) p) 102 (89 + 2 * nq + 1) m) 102 106 = nI nq by rw [gI_sI, if_pos rfl, if_neg (by omega), gI_sI, if_pos rfl, if_neg (by omega)]; exact hQ]
        refine Rp.iconst (nI 1) dX12_told_87 (by decide) ?_
        first | ((with_reducible show Rp _ _ _ _ (.int (nI _) :: .int (nI _) :: _) _ _); refine Rp.iaddN dX12_told_88 ?_) | refine Rp.iadd dX12_told_88 ?_
        first | ((with_reducible show Rp _ _ _ _ (_ :: .int (nI _) :: _) _ _); refine Rp.iastoreN dX12_told_89 (S _ _ rfl) (by omega) ?_) | refine Rp.iastore dX12_told_89 (S _ _ rfl) (by first | assumption | exact vpb (by decide)) ?_
        refine Rp.aload_n dX12_told_90 rfl rfl ?_
        refine Rp.iload_n dX12_told_91 rfl ?_
        refine Rp.iconst (nI 1) dX12_told_92 (by decide) ?_
        first | ((with_reducible show Rp _ _ _ _ (.int (nI _) :: .int (nI _) :: _) _ _); refine Rp.iaddN dX12_told_93 ?_) | refine Rp.iadd dX12_told_93 ?_
        refine Rp.callV1 M_X12_good (ci := 12) dX12_told_94 mo_X12_good lk_X12_14 (by decide) rfl rfl (S _ _ rfl) (Nat.le_of_ble_eq_true rfl) (Nat.le_of_ble_eq_true rfl) (s_good (d + 1) (h := sI (sI (sI h am_kept (89 + 2 * nq) p) am_kept (89 + 2 * nq + 1) m) am_kept 106 (nI (nq + 1))) S _) (fun v1 h1 p1 x1 => ?_)
        rw [p1.1, p1.2]
        try dsimp only [Option.toList, List.cons_append, List.nil_append, List.append]
        refine Rp.ireturn dX12_told_97 rfl ?_
        simp [mTold, c8, c22, c43, gdH]
      · skip
        refine Rp.aload_n dX12_told_46 rfl rfl ?_
        refine Rp.bipush (-5) dX12_told_47 (by decide) ?_
        refine Rp.callV1 M_X12_refuses (ci := 12) dX12_told_49 mo_X12_refuses lk_X12_121 (by decide) rfl rfl (S _ _ rfl) (Nat.le_of_ble_eq_true rfl) (Nat.le_of_ble_eq_true rfl) (s_refuses (d + 1) S R 5 (by decide)) (fun v1 h1 p1 x1 => ?_)
        rw [p1.1, p1.2]
        try dsimp only [Option.toList, List.cons_append, List.nil_append, List.append]
        refine Rp.ireturn dX12_told_52 rfl ?_
        simp [mTold, c8, c22, c43, rfH]
    · skip
      refine Rp.aload_n dX12_told_25 rfl rfl ?_
      refine Rp.bipush (-2) dX12_told_26 (by decide) ?_
      refine Rp.callV1 M_X12_refuses (ci := 12) dX12_told_28 mo_X12_refuses lk_X12_121 (by decide) rfl rfl (S _ _ rfl) (Nat.le_of_ble_eq_true rfl) (Nat.le_of_ble_eq_true rfl) (s_refuses (d + 1) S R 2 (by decide)) (fun v1 h1 p1 x1 => ?_)
      rw [p1.1, p1.2]
      try dsimp only [Option.toList, List.cons_append, List.nil_append, List.append]
      refine Rp.ireturn dX12_told_31 rfl ?_
      simp [mTold, c8, c22, rfH]
  · skip
    refine Rp.aload_n dX12_told_11 rfl rfl ?_
    refine Rp.iconst (-1) dX12_told_12 (by decide) ?_
    refine Rp.callV1 M_X12_refuses (ci := 12) dX12_told_13 mo_X12_refuses lk_X12_121 (by decide) rfl rfl (S _ _ rfl) (Nat.le_of_ble_eq_true rfl) (Nat.le_of_ble_eq_true rfl) (s_refuses (d + 1) S R 1 (by decide)) (fun v1 h1 p1 x1 => ?_)
    rw [p1.1, p1.2]
    try dsimp only [Option.toList, List.cons_append, List.nil_append, List.append]
    refine Rp.ireturn dX12_told_16 rfl ?_
    simp [mTold, c8, rfH]
/-- how many of the first n hold one -/
def cntH (f : Nat → Int32) : Nat → Nat
  | 0 => 0
  | n + 1 => cntH f n + (if f n = -1 then 0 else 1)
theorem cntH_le (f : Nat → Int32) : ∀ n, cntH f n ≤ n
  | 0 => Nat.le_refl 0
  | n + 1 => by have := cntH_le f n; unfold cntH; split <;> omega
theorem heldMany_loop (S : ShOK h) (R : RfOK h) {np : Nat} (hp : np ≤ 6) (hM : gI h am_kept 103 = nI np) : ∀ (m p : Nat), p + m = np → Rp (d + 1) M_X12_heldMany 4 [some (.ref aM), some (.int (nI (cntH (gI h am_kept) p))), some (.int (nI p))] [] h (fun r h' => h' = h ∧ r = some (.int (nI (cntH (gI h am_kept) np)))) := by
  intro m
  induction m with
  | zero =>
    intro p hpm
    refine Rp.iload_n dX12_heldMany_4 rfl ?_
    refine Rp.aload_n dX12_heldMany_5 rfl rfl ?_
    refine Rp.getR dX12_heldMany_6 fk_X12_24 rfl (S _ _ rfl) (R _ _ _ rfl) ?_
    refine Rp.bipush (nI 103) dX12_heldMany_9 (by decide) ?_
    first | ((with_reducible show Rp _ _ _ _ (.int (nI _) :: _) _ _); refine Rp.ialoadN dX12_heldMany_11 (S _ _ rfl) (by omega) ?_) | refine Rp.iaload dX12_heldMany_11 (S _ _ rfl) (by first | assumption | exact vpb (by decide)) ?_
    rw [show gI h 102 103 = nI np from hM]
    first | ((with_reducible show Rp _ _ _ _ (.int (nI _) :: .int (nI _) :: _) _ _); refine Rp.icmp_geN (tgt := 37) dX12_heldMany_12 (by decide) (by omega) (fun c12 => ?_) (fun c12 => ?_)) | refine Rp.icmp_ge (tgt := 37) dX12_heldMany_12 (by decide) (fun c12 => ?_) (fun c12 => ?_)
    · skip
      refine Rp.iload_n dX12_heldMany_37 rfl ?_
      refine Rp.ireturn dX12_heldMany_38 rfl ?_
      exact ⟨rfl, by rw [show p = np by omega]⟩
    · skip
      exact absurd (show np ≤ p by omega) c12
  | succ m ih =>
    intro p hpm
    have k := ih (p + 1) (by omega)
    rw [cntH] at k
    refine Rp.iload_n dX12_heldMany_4 rfl ?_
    refine Rp.aload_n dX12_heldMany_5 rfl rfl ?_
    refine Rp.getR dX12_heldMany_6 fk_X12_24 rfl (S _ _ rfl) (R _ _ _ rfl) ?_
    refine Rp.bipush (nI 103) dX12_heldMany_9 (by decide) ?_
    first | ((with_reducible show Rp _ _ _ _ (.int (nI _) :: _) _ _); refine Rp.ialoadN dX12_heldMany_11 (S _ _ rfl) (by omega) ?_) | refine Rp.iaload dX12_heldMany_11 (S _ _ rfl) (by first | assumption | exact vpb (by decide)) ?_
    rw [show gI h 102 103 = nI np from hM]
    first | ((with_reducible show Rp _ _ _ _ (.int (nI _) :: .int (nI _) :: _) _ _); refine Rp.icmp_geN (tgt := 37) dX12_heldMany_12 (by decide) (by omega) (fun c12 => ?_) (fun c12 => ?_)) | refine Rp.icmp_ge (tgt := 37) dX12_heldMany_12 (by decide) (fun c12 => ?_) (fun c12 => ?_)
    · skip
      exact absurd c12 (by omega)
    · skip
      refine Rp.iload_n dX12_heldMany_15 rfl ?_
      refine Rp.aload_n dX12_heldMany_16 rfl rfl ?_
      refine Rp.iload_n dX12_heldMany_17 rfl ?_
      refine Rp.callV1 M_X12_holds (ci := 12) dX12_heldMany_18 mo_X12_holds lk_X12_351 (by decide) rfl rfl (S _ _ rfl) (Nat.le_of_ble_eq_true rfl) (Nat.le_of_ble_eq_true rfl) (s_holds d S R (show p < 5716 by omega)) (fun v1 h1 p1 x1 => ?_)
      rw [p1.1, p1.2]
      try dsimp only [Option.toList, List.cons_append, List.nil_append, List.append]
      first | ((with_reducible show Rp _ _ _ _ (.int (b2i _) :: _) _ _); refine Rp.if_eqB (tgt := 28) dX12_heldMany_21 (by decide) (fun c21 => ?_) (fun c21 => ?_)) | ((with_reducible show Rp _ _ _ _ (.int (nI _) :: _) _ _); refine Rp.if_eqN (tgt := 28) dX12_heldMany_21 (by decide) (by omega) (fun c21 => ?_) (fun c21 => ?_)) | refine Rp.if_eq (tgt := 28) dX12_heldMany_21 (by decide) (fun c21 => ?_) (fun c21 => ?_)
      · skip
        refine Rp.iconst (nI 0) dX12_heldMany_28 (by decide) ?_
        first | ((with_reducible show Rp _ _ _ _ (.int (nI _) :: .int (nI _) :: _) _ _); refine Rp.iaddN dX12_heldMany_29 ?_) | refine Rp.iadd dX12_heldMany_29 ?_
        refine Rp.ist1 dX12_heldMany_30 (by first | exact nl2_some rfl | exact nl2_none) (by decide) ?_
        first | ((with_reducible show Rp _ _ _ (_ :: _ :: some (.int (nI _)) :: _) _ _ _); refine Rp.inc2N (c := 1) dX12_heldMany_31 (by first | exact nl2_some rfl | exact nl2_none) (by decide) ?_) | refine Rp.inc2 _ dX12_heldMany_31 rfl (by first | exact nl2_some rfl | exact nl2_none) (by decide) ?_
        refine Rp.goto (tgt := 4) dX12_heldMany_34 (by decide) ?_
        first | (rw [if_neg (by simpa using c21)] at k; exact k) | (rw [if_pos (by simpa using c21)] at k; exact k)
      · skip
        refine Rp.iconst (nI 1) dX12_heldMany_24 (by decide) ?_
        refine Rp.goto (tgt := 29) dX12_heldMany_25 (by decide) ?_
        first | ((with_reducible show Rp _ _ _ _ (.int (nI _) :: .int (nI _) :: _) _ _); refine Rp.iaddN dX12_heldMany_29 ?_) | refine Rp.iadd dX12_heldMany_29 ?_
        refine Rp.ist1 dX12_heldMany_30 (by first | exact nl2_some rfl | exact nl2_none) (by decide) ?_
        first | ((with_reducible show Rp _ _ _ (_ :: _ :: some (.int (nI _)) :: _) _ _ _); refine Rp.inc2N (c := 1) dX12_heldMany_31 (by first | exact nl2_some rfl | exact nl2_none) (by decide) ?_) | refine Rp.inc2 _ dX12_heldMany_31 rfl (by first | exact nl2_some rfl | exact nl2_none) (by decide) ?_
        refine Rp.goto (tgt := 4) dX12_heldMany_34 (by decide) ?_
        first | (rw [if_neg (by simpa using c21)] at k; exact k) | (rw [if_pos (by simpa using c21)] at k; exact k)
theorem s_heldMany (S : ShOK h) (R : RfOK h) {np : Nat} (hp : np ≤ 6) (hM : gI h am_kept 103 = nI np) : Rp (d + 1) M_X12_heldMany 0 [some (.ref aM), none, none] [] h (fun r h' => h' = h ∧ r = some (.int (nI (cntH (gI h am_kept) np)))) := by
  refine Rp.iconst (nI 0) dX12_heldMany_0 (by decide) ?_
  refine Rp.ist1 dX12_heldMany_1 (by first | exact nl2_some rfl | exact nl2_none) (by decide) ?_
  refine Rp.iconst (nI 0) dX12_heldMany_2 (by decide) ?_
  refine Rp.ist2 dX12_heldMany_3 (by first | exact nl2_some rfl | exact nl2_none) (by decide) ?_
  exact heldMany_loop d S R hp hM np 0 (by omega)
end MT2
