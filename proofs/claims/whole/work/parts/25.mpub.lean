section MPb
variable (d : Nat) {h : AH}
abbrev imgW (h : AH) (k i : Nat) : AH := wrI h am_images (fun i => 5716 * k + i) (gI h am_kept) i
abbrev bakW (h : AH) (k i : Nat) : AH := wrI h am_kept (fun i => i) (fun i => gI h am_images (5716 * k + i)) i
def mImage (h : AH) (k : Int32) : Int32 × AH := if inN k 2 then (nI 0, gdH (sI (imgW h (ix k) 5716) am_hasImage (ix k) (nI 1 &&& 1))) else (-nI 1, rfH h 1)
theorem image_loop (S0 : ShOK h) (R0 : RfOK h) {k : Nat} (hk : k < 2) : ∀ (m i : Nat), i + m = 5716 → Rp (d + 1) M_X12_image 17 [some (.ref aM), some (.int (nI k)), some (.int (nI i))] [] (imgW h k i) (fun r h' => h' = gdH (sI (imgW h k 5716) am_hasImage k (nI 1 &&& 1)) ∧ r = some (.int (nI 0))) := by
  intro m
  induction m with
  | zero =>
    intro i hi
    have S := S0.wr am_images (fun i => 5716 * k + i) (gI h am_kept) i
    have R := R0.wr am_images (fun i => 5716 * k + i) (gI h am_kept) i
    refine Rp.iload_n dX12_image_17 rfl ?_
    refine Rp.sipush (nI 5716) dX12_image_18 (by decide +kernel) ?_
    first | ((with_reducible show Rp _ _ _ _ (.int (nI _) :: .int (nI _) :: _) _ _); refine Rp.icmp_geN (tgt := 48) dX12_image_21 (by decide) (by omega) (fun c21 => ?_) (fun c21 => ?_)) | refine Rp.icmp_ge (tgt := 48) dX12_image_21 (by decide) (fun c21 => ?_) (fun c21 => ?_)
    · skip
      refine Rp.aload_n dX12_image_48 rfl rfl ?_
      refine Rp.getR dX12_image_49 fk_X12_30 rfl (S _ _ rfl) (R _ _ _ rfl) ?_
      refine Rp.iload_n dX12_image_52 rfl ?_
      refine Rp.iconst (nI 1) dX12_image_53 (by decide) ?_
      first | ((with_reducible show Rp _ _ _ _ (_ :: .int (nI _) :: _) _ _); refine Rp.zastoreN dX12_image_54 (S _ _ rfl) (by omega) ?_) | refine Rp.zastore dX12_image_54 (S _ _ rfl) (by first | assumption | exact vpb (by decide)) ?_
      refine Rp.aload_n dX12_image_55 rfl rfl ?_
      refine Rp.iconst (nI 0) dX12_image_56 (by decide) ?_
      refine Rp.callV1 M_X12_good (ci := 12) dX12_image_57 mo_X12_good lk_X12_14 (by decide) rfl rfl (S _ _ rfl) (Nat.le_of_ble_eq_true rfl) (Nat.le_of_ble_eq_true rfl) (s_good d (h := sI (imgW h k i) am_hasImage k (nI 1 &&& 1)) S (nI 0)) (fun v1 h1 p1 x1 => ?_)
      rw [p1.1, p1.2]
      try dsimp only [Option.toList, List.cons_append, List.nil_append, List.append]
      refine Rp.ireturn dX12_image_60 rfl ?_
      exact ⟨by rw [show i = 5716 by omega]; rfl, rfl⟩
    · skip
      exact absurd (show 5716 ≤ i by omega) c21
  | succ m ih =>
    intro i hi
    have S := S0.wr am_images (fun i => 5716 * k + i) (gI h am_kept) i
    have R := R0.wr am_images (fun i => 5716 * k + i) (gI h am_kept) i
    refine Rp.iload_n dX12_image_17 rfl ?_
    refine Rp.sipush (nI 5716) dX12_image_18 (by decide +kernel) ?_
    first | ((with_reducible show Rp _ _ _ _ (.int (nI _) :: .int (nI _) :: _) _ _); refine Rp.icmp_geN (tgt := 48) dX12_image_21 (by decide) (by omega) (fun c21 => ?_) (fun c21 => ?_)) | refine Rp.icmp_ge (tgt := 48) dX12_image_21 (by decide) (fun c21 => ?_) (fun c21 => ?_)
    · skip
      exact absurd c21 (by omega)
    · skip
      refine Rp.aload_n dX12_image_24 rfl rfl ?_
      refine Rp.getR dX12_image_25 fk_X12_27 rfl (S _ _ rfl) (R _ _ _ rfl) ?_
      refine Rp.sipush (nI 5716) dX12_image_28 (by decide +kernel) ?_
      refine Rp.iload_n dX12_image_31 rfl ?_
      first | ((with_reducible show Rp _ _ _ _ (.int (nI _) :: .int (nI _) :: _) _ _); refine Rp.imulN dX12_image_32 ?_) | refine Rp.imul dX12_image_32 ?_
      refine Rp.iload_n dX12_image_33 rfl ?_
      first | ((with_reducible show Rp _ _ _ _ (.int (nI _) :: .int (nI _) :: _) _ _); refine Rp.iaddN dX12_image_34 ?_) | refine Rp.iadd dX12_image_34 ?_
      refine Rp.aload_n dX12_image_35 rfl rfl ?_
      refine Rp.getR dX12_image_36 fk_X12_24 rfl (S _ _ rfl) (R _ _ _ rfl) ?_
      refine Rp.iload_n dX12_image_39 rfl ?_
      first | ((with_reducible show Rp _ _ _ _ (.int (nI _) :: _) _ _); refine Rp.ialoadN dX12_image_40 (S _ _ rfl) (by omega) ?_) | refine Rp.iaload dX12_image_40 (S _ _ rfl) (by first | assumption | exact vpb (by decide)) ?_
      rw [gI_wrI_ne h _ _ (by decide)]
      first | ((with_reducible show Rp _ _ _ _ (_ :: .int (nI _) :: _) _ _); refine Rp.iastoreN dX12_image_41 (S _ _ rfl) (by omega) ?_) | refine Rp.iastore dX12_image_41 (S _ _ rfl) (by first | assumption | exact vpb (by decide)) ?_
      first | ((with_reducible show Rp _ _ _ (_ :: _ :: some (.int (nI _)) :: _) _ _ _); refine Rp.inc2N (c := 1) dX12_image_42 (by first | exact nl2_some rfl | exact nl2_none) (by decide) ?_) | refine Rp.inc2 _ dX12_image_42 rfl (by first | exact nl2_some rfl | exact nl2_none) (by decide) ?_
      refine Rp.goto (tgt := 17) dX12_image_45 (by decide) ?_
      exact ih (i + 1) (by omega)
theorem s_image (S : ShOK h) (R : RfOK h) (k : Int32) : Rp (d + 1) M_X12_image 0 [some (.ref aM), some (.int k), none] [] h (fun r h' => h' = (mImage h k).2 ∧ r = some (.int (mImage h k).1)) := by
  refine Rp.iload_n dX12_image_0 rfl ?_
  refine Rp.iconst (nI 0) dX12_image_1 (by decide) ?_
  refine Rp.iconst (nI 1) dX12_image_2 (by decide) ?_
  refine Rp.callS3 M_X12_lies dX12_image_3 mo_X12_lies lk_X12_117 (Nat.le_of_ble_eq_true rfl) (Nat.le_of_ble_eq_true rfl) (s_lies d h k (nI 0) (nI 1)) (fun v1 h1 p1 x1 => ?_)
  rw [p1.1, p1.2, inN_lies' (by omega)]
  try dsimp only [Option.toList, List.cons_append, List.nil_append, List.append]
  first | ((with_reducible show Rp _ _ _ _ (.int (b2i _) :: _) _ _); refine Rp.if_neB (tgt := 15) dX12_image_6 (by decide) (fun c6 => ?_) (fun c6 => ?_)) | ((with_reducible show Rp _ _ _ _ (.int (nI _) :: _) _ _); refine Rp.if_neN (tgt := 15) dX12_image_6 (by decide) (by omega) (fun c6 => ?_) (fun c6 => ?_)) | refine Rp.if_ne (tgt := 15) dX12_image_6 (by decide) (fun c6 => ?_) (fun c6 => ?_)
  · skip
    obtain ⟨q, hq, rfl⟩ := (inN_iff (by omega)).mp c6
    refine Rp.iconst (nI 0) dX12_image_15 (by decide) ?_
    refine Rp.ist2 dX12_image_16 (by first | exact nl2_some rfl | exact nl2_none) (by decide) ?_
    refine Rp.mono (fun v h2 p => ?_) (image_loop d S R hq 5716 0 (by omega))
    rw [p.1, p.2]
    simp [mImage, c6, ix_nI (show q < 2147483648 by omega)]
  · skip
    refine Rp.aload_n dX12_image_9 rfl rfl ?_
    refine Rp.iconst (-1) dX12_image_10 (by decide) ?_
    refine Rp.callV1 M_X12_refuses (ci := 12) dX12_image_11 mo_X12_refuses lk_X12_121 (by decide) rfl rfl (S _ _ rfl) (Nat.le_of_ble_eq_true rfl) (Nat.le_of_ble_eq_true rfl) (s_refuses d S R 1 (by decide)) (fun v1 h1 p1 x1 => ?_)
    rw [p1.1, p1.2]
    try dsimp only [Option.toList, List.cons_append, List.nil_append, List.append]
    refine Rp.ireturn dX12_image_14 rfl ?_
    simp [mImage, c6, rfH]
def mBack (h : AH) (k : Int32) : Int32 × AH := if inN k 2 then (if gI h am_hasImage (ix k) = 0 then (-nI 2, rfH h 2) else (nI 0, gaH (bakW h (ix k) 5716))) else (-nI 1, rfH h 1)
theorem back_loop (S0 : ShOK h) (R0 : RfOK h) {k : Nat} (hk : k < 2) : ∀ (m i : Nat), i + m = 5716 → Rp (d + 2) M_X12_back 33 [some (.ref aM), some (.int (nI k)), some (.int (nI i))] [] (bakW h k i) (fun r h' => h' = gaH (bakW h k 5716) ∧ r = some (.int (nI 0))) := by
  intro m
  induction m with
  | zero =>
    intro i hi
    have S := S0.wr am_kept (fun i => i) (fun i => gI h am_images (5716 * k + i)) i
    have R := R0.wr am_kept (fun i => i) (fun i => gI h am_images (5716 * k + i)) i
    refine Rp.iload_n dX12_back_33 rfl ?_
    refine Rp.sipush (nI 5716) dX12_back_34 (by decide +kernel) ?_
    first | ((with_reducible show Rp _ _ _ _ (.int (nI _) :: .int (nI _) :: _) _ _); refine Rp.icmp_geN (tgt := 64) dX12_back_37 (by decide) (by omega) (fun c37 => ?_) (fun c37 => ?_)) | refine Rp.icmp_ge (tgt := 64) dX12_back_37 (by decide) (fun c37 => ?_) (fun c37 => ?_)
    · skip
      refine Rp.aload_n dX12_back_64 rfl rfl ?_
      refine Rp.iconst (nI 0) dX12_back_65 (by decide) ?_
      refine Rp.callV1 M_X12_goodAnew (ci := 12) dX12_back_66 mo_X12_goodAnew lk_X12_124 (by decide) rfl rfl (S _ _ rfl) (Nat.le_of_ble_eq_true rfl) (Nat.le_of_ble_eq_true rfl) (s_goodAnew d (h := bakW h k i) S (nI 0)) (fun v1 h1 p1 x1 => ?_)
      rw [p1.1, p1.2]
      try dsimp only [Option.toList, List.cons_append, List.nil_append, List.append]
      refine Rp.ireturn dX12_back_69 rfl ?_
      exact ⟨by rw [show i = 5716 by omega]; rfl, rfl⟩
    · skip
      exact absurd (show 5716 ≤ i by omega) c37
  | succ m ih =>
    intro i hi
    have S := S0.wr am_kept (fun i => i) (fun i => gI h am_images (5716 * k + i)) i
    have R := R0.wr am_kept (fun i => i) (fun i => gI h am_images (5716 * k + i)) i
    refine Rp.iload_n dX12_back_33 rfl ?_
    refine Rp.sipush (nI 5716) dX12_back_34 (by decide +kernel) ?_
    first | ((with_reducible show Rp _ _ _ _ (.int (nI _) :: .int (nI _) :: _) _ _); refine Rp.icmp_geN (tgt := 64) dX12_back_37 (by decide) (by omega) (fun c37 => ?_) (fun c37 => ?_)) | refine Rp.icmp_ge (tgt := 64) dX12_back_37 (by decide) (fun c37 => ?_) (fun c37 => ?_)
    · skip
      exact absurd c37 (by omega)
    · skip
      refine Rp.aload_n dX12_back_40 rfl rfl ?_
      refine Rp.getR dX12_back_41 fk_X12_24 rfl (S _ _ rfl) (R _ _ _ rfl) ?_
      refine Rp.iload_n dX12_back_44 rfl ?_
      refine Rp.aload_n dX12_back_45 rfl rfl ?_
      refine Rp.getR dX12_back_46 fk_X12_27 rfl (S _ _ rfl) (R _ _ _ rfl) ?_
      refine Rp.sipush (nI 5716) dX12_back_49 (by decide +kernel) ?_
      refine Rp.iload_n dX12_back_52 rfl ?_
      first | ((with_reducible show Rp _ _ _ _ (.int (nI _) :: .int (nI _) :: _) _ _); refine Rp.imulN dX12_back_53 ?_) | refine Rp.imul dX12_back_53 ?_
      refine Rp.iload_n dX12_back_54 rfl ?_
      first | ((with_reducible show Rp _ _ _ _ (.int (nI _) :: .int (nI _) :: _) _ _); refine Rp.iaddN dX12_back_55 ?_) | refine Rp.iadd dX12_back_55 ?_
      first | ((with_reducible show Rp _ _ _ _ (.int (nI _) :: _) _ _); refine Rp.ialoadN dX12_back_56 (S _ _ rfl) (by omega) ?_) | refine Rp.iaload dX12_back_56 (S _ _ rfl) (by first | assumption | exact vpb (by decide)) ?_
      rw [gI_wrI_ne h _ _ (by decide)]
      first | ((with_reducible show Rp _ _ _ _ (_ :: .int (nI _) :: _) _ _); refine Rp.iastoreN dX12_back_57 (S _ _ rfl) (by omega) ?_) | refine Rp.iastore dX12_back_57 (S _ _ rfl) (by first | assumption | exact vpb (by decide)) ?_
      first | ((with_reducible show Rp _ _ _ (_ :: _ :: some (.int (nI _)) :: _) _ _ _); refine Rp.inc2N (c := 1) dX12_back_58 (by first | exact nl2_some rfl | exact nl2_none) (by decide) ?_) | refine Rp.inc2 _ dX12_back_58 rfl (by first | exact nl2_some rfl | exact nl2_none) (by decide) ?_
      refine Rp.goto (tgt := 33) dX12_back_61 (by decide) ?_
      exact ih (i + 1) (by omega)
theorem s_back (S : ShOK h) (R : RfOK h) (k : Int32) : Rp (d + 2) M_X12_back 0 [some (.ref aM), some (.int k), none] [] h (fun r h' => h' = (mBack h k).2 ∧ r = some (.int (mBack h k).1)) := by
  refine Rp.iload_n dX12_back_0 rfl ?_
  refine Rp.iconst (nI 0) dX12_back_1 (by decide) ?_
  refine Rp.iconst (nI 1) dX12_back_2 (by decide) ?_
  refine Rp.callS3 M_X12_lies dX12_back_3 mo_X12_lies lk_X12_117 (Nat.le_of_ble_eq_true rfl) (Nat.le_of_ble_eq_true rfl) (s_lies (d + 1) h k (nI 0) (nI 1)) (fun v1 h1 p1 x1 => ?_)
  rw [p1.1, p1.2, inN_lies' (by omega)]
  try dsimp only [Option.toList, List.cons_append, List.nil_append, List.append]
  first | ((with_reducible show Rp _ _ _ _ (.int (b2i _) :: _) _ _); refine Rp.if_neB (tgt := 15) dX12_back_6 (by decide) (fun c6 => ?_) (fun c6 => ?_)) | ((with_reducible show Rp _ _ _ _ (.int (nI _) :: _) _ _); refine Rp.if_neN (tgt := 15) dX12_back_6 (by decide) (by omega) (fun c6 => ?_) (fun c6 => ?_)) | refine Rp.if_ne (tgt := 15) dX12_back_6 (by decide) (fun c6 => ?_) (fun c6 => ?_)
  · skip
    obtain ⟨q, hq, rfl⟩ := (inN_iff (by omega)).mp c6
    refine Rp.aload_n dX12_back_15 rfl rfl ?_
    refine Rp.getR dX12_back_16 fk_X12_30 rfl (S _ _ rfl) (R _ _ _ rfl) ?_
    refine Rp.iload_n dX12_back_19 rfl ?_
    first | ((with_reducible show Rp _ _ _ _ (.int (nI _) :: _) _ _); refine Rp.zaloadN dX12_back_20 (S _ _ rfl) (by omega) ?_) | refine Rp.zaload dX12_back_20 (S _ _ rfl) (by first | assumption | exact vpb (by decide)) ?_
    first | ((with_reducible show Rp _ _ _ _ (.int (b2i _) :: _) _ _); refine Rp.if_neB (tgt := 31) dX12_back_21 (by decide) (fun c21 => ?_) (fun c21 => ?_)) | ((with_reducible show Rp _ _ _ _ (.int (nI _) :: _) _ _); refine Rp.if_neN (tgt := 31) dX12_back_21 (by decide) (by omega) (fun c21 => ?_) (fun c21 => ?_)) | refine Rp.if_ne (tgt := 31) dX12_back_21 (by decide) (fun c21 => ?_) (fun c21 => ?_)
    · skip
      refine Rp.iconst (nI 0) dX12_back_31 (by decide) ?_
      refine Rp.ist2 dX12_back_32 (by first | exact nl2_some rfl | exact nl2_none) (by decide) ?_
      refine Rp.mono (fun v h2 p => ?_) (back_loop d S R hq 5716 0 (by omega))
      rw [p.1, p.2]
      have c21 : ¬ gI h 104 q = 0 := c21
      simp [mBack, c6, ix_nI (show q < 2147483648 by omega), c21]
    · skip
      refine Rp.aload_n dX12_back_24 rfl rfl ?_
      refine Rp.bipush (-2) dX12_back_25 (by decide) ?_
      refine Rp.callV1 M_X12_refuses (ci := 12) dX12_back_27 mo_X12_refuses lk_X12_121 (by decide) rfl rfl (S _ _ rfl) (Nat.le_of_ble_eq_true rfl) (Nat.le_of_ble_eq_true rfl) (s_refuses (d + 1) S R 2 (by decide)) (fun v1 h1 p1 x1 => ?_)
      rw [p1.1, p1.2]
      try dsimp only [Option.toList, List.cons_append, List.nil_append, List.append]
      refine Rp.ireturn dX12_back_30 rfl ?_
      simp [mBack, c6, rfH, ix_nI (show q < 2147483648 by omega), show gI h 104 q = 0 from c21]
  · skip
    refine Rp.aload_n dX12_back_9 rfl rfl ?_
    refine Rp.iconst (-1) dX12_back_10 (by decide) ?_
    refine Rp.callV1 M_X12_refuses (ci := 12) dX12_back_11 mo_X12_refuses lk_X12_121 (by decide) rfl rfl (S _ _ rfl) (Nat.le_of_ble_eq_true rfl) (Nat.le_of_ble_eq_true rfl) (s_refuses (d + 1) S R 1 (by decide)) (fun v1 h1 p1 x1 => ?_)
    rw [p1.1, p1.2]
    try dsimp only [Option.toList, List.cons_append, List.nil_append, List.append]
    refine Rp.ireturn dX12_back_14 rfl ?_
    simp [mBack, c6, rfH]
/-- is x among f t .. f (t + m - 1) -/
def nOf (f : Nat → Int32) (x : Int32) : Nat → Nat → Bool
  | _, 0 => false
  | t, m + 1 => decide (f t = x) || nOf f x (t + 1) m
theorem isNumbered_loop (S : ShOK h) (R : RfOK h) (x : Int32) {nt : Nat} (ht : nt ≤ 8) (hM : gI h am_kept 104 = nI nt) : ∀ (m t : Nat) (b : Bool), t + m = nt → Rp d M_X12_isNumbered 4 [some (.ref aM), some (.int x), some (.int (b2i b)), some (.int (nI t))] [] h (fun r h' => h' = h ∧ r = some (.int (b2i (b || nOf (fun i => gI h am_kept (67 + i)) x t m)))) := by
  intro m
  induction m with
  | zero =>
    intro t b htm
    refine Rp.iload_n dX12_isNumbered_4 rfl ?_
    refine Rp.aload_n dX12_isNumbered_5 rfl rfl ?_
    refine Rp.getR dX12_isNumbered_6 fk_X12_24 rfl (S _ _ rfl) (R _ _ _ rfl) ?_
    refine Rp.bipush (nI 104) dX12_isNumbered_9 (by decide) ?_
    first | ((with_reducible show Rp _ _ _ _ (.int (nI _) :: _) _ _); refine Rp.ialoadN dX12_isNumbered_11 (S _ _ rfl) (by omega) ?_) | refine Rp.iaload dX12_isNumbered_11 (S _ _ rfl) (by first | assumption | exact vpb (by decide)) ?_
    rw [show gI h 102 104 = nI nt from hM]
    first | ((with_reducible show Rp _ _ _ _ (.int (nI _) :: .int (nI _) :: _) _ _); refine Rp.icmp_geN (tgt := 44) dX12_isNumbered_12 (by decide) (by omega) (fun c12 => ?_) (fun c12 => ?_)) | refine Rp.icmp_ge (tgt := 44) dX12_isNumbered_12 (by decide) (fun c12 => ?_) (fun c12 => ?_)
    · skip
      refine Rp.iload_n dX12_isNumbered_44 rfl ?_
      refine Rp.zreturn dX12_isNumbered_45 rfl (b2i_01 _) ?_
      exact ⟨rfl, by rw [nOf, Bool.or_false]⟩
    · skip
      exact absurd (show nt ≤ t by omega) c12
  | succ m ih =>
    intro t b htm
    have k1 := ih (t + 1) true (by omega)
    have k0 := ih (t + 1) false (by omega)
    rw [Bool.true_or] at k1
    rw [Bool.false_or] at k0
    refine Rp.iload_n dX12_isNumbered_4 rfl ?_
    refine Rp.aload_n dX12_isNumbered_5 rfl rfl ?_
    refine Rp.getR dX12_isNumbered_6 fk_X12_24 rfl (S _ _ rfl) (R _ _ _ rfl) ?_
    refine Rp.bipush (nI 104) dX12_isNumbered_9 (by decide) ?_
    first | ((with_reducible show Rp _ _ _ _ (.int (nI _) :: _) _ _); refine Rp.ialoadN dX12_isNumbered_11 (S _ _ rfl) (by omega) ?_) | refine Rp.iaload dX12_isNumbered_11 (S _ _ rfl) (by first | assumption | exact vpb (by decide)) ?_
    rw [show gI h 102 104 = nI nt from hM]
    first | ((with_reducible show Rp _ _ _ _ (.int (nI _) :: .int (nI _) :: _) _ _); refine Rp.icmp_geN (tgt := 44) dX12_isNumbered_12 (by decide) (by omega) (fun c12 => ?_) (fun c12 => ?_)) | refine Rp.icmp_ge (tgt := 44) dX12_isNumbered_12 (by decide) (fun c12 => ?_) (fun c12 => ?_)
    · skip
      exact absurd c12 (by omega)
    · skip
      refine Rp.iload_n dX12_isNumbered_15 rfl ?_
      first | ((with_reducible show Rp _ _ _ _ (.int (b2i _) :: _) _ _); refine Rp.if_neB (tgt := 32) dX12_isNumbered_16 (by decide) (fun c16 => ?_) (fun c16 => ?_)) | ((with_reducible show Rp _ _ _ _ (.int (nI _) :: _) _ _); refine Rp.if_neN (tgt := 32) dX12_isNumbered_16 (by decide) (by omega) (fun c16 => ?_) (fun c16 => ?_)) | refine Rp.if_ne (tgt := 32) dX12_isNumbered_16 (by decide) (fun c16 => ?_) (fun c16 => ?_)
      · skip
        refine Rp.iconst (nI 1) dX12_isNumbered_32 (by decide) ?_
        refine Rp.goto (tgt := 37) dX12_isNumbered_33 (by decide) ?_
        refine Rp.ist2 dX12_isNumbered_37 (by first | exact nl2_some rfl | exact nl2_none) (by decide) ?_
        first | ((with_reducible show Rp _ _ _ (_ :: _ :: _ :: some (.int (nI _)) :: _) _ _ _); refine Rp.inc3N (c := 1) dX12_isNumbered_38 (by first | exact nl2_some rfl | exact nl2_none) (by decide) ?_) | refine Rp.inc3 _ dX12_isNumbered_38 rfl (by first | exact nl2_some rfl | exact nl2_none) (by decide) ?_
        refine Rp.goto (tgt := 4) dX12_isNumbered_41 (by decide) ?_
        rw [nOf]
        first | (rw [c16, Bool.true_or]; exact k1) | (rw [c16, show decide (gI h am_kept (67 + t) = x) = true from decide_eq_true c29, Bool.true_or, Bool.or_true]; exact k1) | (rw [c16, show decide (gI h am_kept (67 + t) = x) = false from decide_eq_false c29, Bool.false_or, Bool.false_or]; exact k0)
      · skip
        refine Rp.aload_n dX12_isNumbered_19 rfl rfl ?_
        refine Rp.getR dX12_isNumbered_20 fk_X12_24 rfl (S _ _ rfl) (R _ _ _ rfl) ?_
        refine Rp.bipush (nI 67) dX12_isNumbered_23 (by decide) ?_
        refine Rp.iload_n dX12_isNumbered_25 rfl ?_
        first | ((with_reducible show Rp _ _ _ _ (.int (nI _) :: .int (nI _) :: _) _ _); refine Rp.iaddN dX12_isNumbered_26 ?_) | refine Rp.iadd dX12_isNumbered_26 ?_
        first | ((with_reducible show Rp _ _ _ _ (.int (nI _) :: _) _ _); refine Rp.ialoadN dX12_isNumbered_27 (S _ _ rfl) (by omega) ?_) | refine Rp.iaload dX12_isNumbered_27 (S _ _ rfl) (by first | assumption | exact vpb (by decide)) ?_
        refine Rp.iload_n dX12_isNumbered_28 rfl ?_
        first | ((with_reducible show Rp _ _ _ _ (.int (nI _) :: .int (nI _) :: _) _ _); refine Rp.icmp_neN (tgt := 36) dX12_isNumbered_29 (by decide) (by omega) (fun c29 => ?_) (fun c29 => ?_)) | refine Rp.icmp_ne (tgt := 36) dX12_isNumbered_29 (by decide) (fun c29 => ?_) (fun c29 => ?_)
        · skip
          refine Rp.iconst (nI 0) dX12_isNumbered_36 (by decide) ?_
          refine Rp.ist2 dX12_isNumbered_37 (by first | exact nl2_some rfl | exact nl2_none) (by decide) ?_
          first | ((with_reducible show Rp _ _ _ (_ :: _ :: _ :: some (.int (nI _)) :: _) _ _ _); refine Rp.inc3N (c := 1) dX12_isNumbered_38 (by first | exact nl2_some rfl | exact nl2_none) (by decide) ?_) | refine Rp.inc3 _ dX12_isNumbered_38 rfl (by first | exact nl2_some rfl | exact nl2_none) (by decide) ?_
          refine Rp.goto (tgt := 4) dX12_isNumbered_41 (by decide) ?_
          rw [nOf]
          first | (rw [c16, Bool.true_or]; exact k1) | (rw [c16, show decide (gI h am_kept (67 + t) = x) = true from decide_eq_true c29, Bool.true_or, Bool.or_true]; exact k1) | (rw [c16, show decide (gI h am_kept (67 + t) = x) = false from decide_eq_false c29, Bool.false_or, Bool.false_or]; exact k0)
        · skip
          refine Rp.iconst (nI 1) dX12_isNumbered_32 (by decide) ?_
          refine Rp.goto (tgt := 37) dX12_isNumbered_33 (by decide) ?_
          refine Rp.ist2 dX12_isNumbered_37 (by first | exact nl2_some rfl | exact nl2_none) (by decide) ?_
          first | ((with_reducible show Rp _ _ _ (_ :: _ :: _ :: some (.int (nI _)) :: _) _ _ _); refine Rp.inc3N (c := 1) dX12_isNumbered_38 (by first | exact nl2_some rfl | exact nl2_none) (by decide) ?_) | refine Rp.inc3 _ dX12_isNumbered_38 rfl (by first | exact nl2_some rfl | exact nl2_none) (by decide) ?_
          refine Rp.goto (tgt := 4) dX12_isNumbered_41 (by decide) ?_
          rw [nOf]
          first | (rw [c16, Bool.true_or]; exact k1) | (rw [c16, show decide (gI h am_kept (67 + t) = x) = true from decide_eq_true c29, Bool.true_or, Bool.or_true]; exact k1) | (rw [c16, show decide (gI h am_kept (67 + t) = x) = false from decide_eq_false c29, Bool.false_or, Bool.false_or]; exact k0)
theorem s_isNumbered (S : ShOK h) (R : RfOK h) (x : Int32) {nt : Nat} (ht : nt ≤ 8) (hM : gI h am_kept 104 = nI nt) : Rp d M_X12_isNumbered 0 [some (.ref aM), some (.int x), none, none] [] h (fun r h' => h' = h ∧ r = some (.int (b2i (nOf (fun i => gI h am_kept (67 + i)) x 0 nt)))) := by
  have k := isNumbered_loop d S R x ht hM nt 0 false (by omega)
  rw [Bool.false_or] at k
  refine Rp.iconst (nI 0) dX12_isNumbered_0 (by decide) ?_
  refine Rp.ist2 dX12_isNumbered_1 (by first | exact nl2_some rfl | exact nl2_none) (by decide) ?_
  refine Rp.iconst (nI 0) dX12_isNumbered_2 (by decide) ?_
  refine Rp.ist3 dX12_isNumbered_3 (by first | exact nl2_some rfl | exact nl2_none) (by decide) ?_
  exact k
end MPb
