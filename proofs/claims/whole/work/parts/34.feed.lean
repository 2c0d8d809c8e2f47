section Fe
variable (d : Nat) {h : AH}
def mCount (h : AH) (w : Int32) (np : Nat) : Int32 :=
  if w = nI 0 then gI h am_kept 103 else if w = nI 1 then gI h am_kept 104 else if w = nI 2 then nI (cntH (gI h am_kept) np) else if w = nI 3 then gI h am_kept 105 else if w = nI 4 then gI h am_kept 106 else if w = nI 5 then gI h am_kept 107 else if w = nI 6 then gI h aM fm_undoMany else if w = nI 7 then gI h aM fm_taped else if w = nI 8 then gI h am_refused 1 else if w = nI 9 then gI h am_refused 2 else if w = nI 10 then gI h am_refused 3 else if w = nI 11 then gI h am_refused 5 else if w = nI 12 then gI h am_refused 6 else if w = nI 13 then gI h am_kept 108 else if w = nI 14 then gI h am_kept 6 else if w = nI 15 then gI h am_kept 101 else if w = nI 16 then gI h am_kept 102 else -1
theorem s_count (S : ShOK h) (R : RfOK h) (w : Int32) {np : Nat} (hp : np ≤ 6) (hM : gI h am_kept 103 = nI np) : Rp (d + 2) M_X12_count 0 [some (.ref aM), some (.int w)] [] h (fun r h' => h' = h ∧ r = some (.int (mCount h w np))) := by
  by_cases hw : inN w 17 = true
  · obtain ⟨q, hq, rfl⟩ := (inN_iff (by omega)).mp hw
    match q, hq with
    | 0, _ =>
      refine Rp.iload_n dX12_count_0 rfl ?_
      refine Rp.tableIn (tgt := 84) (off := 83) dX12_count_1 (by decide) (by decide) (by decide) (by decide) ?_
      refine Rp.aload_n dX12_count_84 rfl rfl ?_
      refine Rp.getR dX12_count_85 fk_X12_24 rfl (S _ _ rfl) (R _ _ _ rfl) ?_
      refine Rp.bipush (nI 103) dX12_count_88 (by decide) ?_
      first | ((with_reducible show Rp _ _ _ _ (.int (nI _) :: _) _ _); refine Rp.ialoadN dX12_count_90 (S _ _ rfl) (by omega) ?_) | refine Rp.iaload dX12_count_90 (S _ _ rfl) (by first | assumption | exact vpb (by decide)) ?_
      refine Rp.ireturn dX12_count_91 rfl ?_
      exact ⟨rfl, rfl⟩
    | 1, _ =>
      refine Rp.iload_n dX12_count_0 rfl ?_
      refine Rp.tableIn (tgt := 92) (off := 91) dX12_count_1 (by decide) (by decide) (by decide) (by decide) ?_
      refine Rp.aload_n dX12_count_92 rfl rfl ?_
      refine Rp.getR dX12_count_93 fk_X12_24 rfl (S _ _ rfl) (R _ _ _ rfl) ?_
      refine Rp.bipush (nI 104) dX12_count_96 (by decide) ?_
      first | ((with_reducible show Rp _ _ _ _ (.int (nI _) :: _) _ _); refine Rp.ialoadN dX12_count_98 (S _ _ rfl) (by omega) ?_) | refine Rp.iaload dX12_count_98 (S _ _ rfl) (by first | assumption | exact vpb (by decide)) ?_
      refine Rp.ireturn dX12_count_99 rfl ?_
      exact ⟨rfl, rfl⟩
    | 2, _ =>
      refine Rp.iload_n dX12_count_0 rfl ?_
      refine Rp.tableIn (tgt := 100) (off := 99) dX12_count_1 (by decide) (by decide) (by decide) (by decide) ?_
      refine Rp.aload_n dX12_count_100 rfl rfl ?_
      refine Rp.callV0 M_X12_heldMany (ci := 12) dX12_count_101 mo_X12_heldMany lk_X12_327 (by decide) rfl rfl (S _ _ rfl) (Nat.le_of_ble_eq_true rfl) (Nat.le_of_ble_eq_true rfl) (s_heldMany d S R hp hM) (fun v1 h1 p1 x1 => ?_)
      rw [p1.1, p1.2]
      try dsimp only [Option.toList, List.cons_append, List.nil_append, List.append]
      refine Rp.ireturn dX12_count_104 rfl ?_
      exact ⟨rfl, rfl⟩
    | 3, _ =>
      refine Rp.iload_n dX12_count_0 rfl ?_
      refine Rp.tableIn (tgt := 105) (off := 104) dX12_count_1 (by decide) (by decide) (by decide) (by decide) ?_
      refine Rp.aload_n dX12_count_105 rfl rfl ?_
      refine Rp.getR dX12_count_106 fk_X12_24 rfl (S _ _ rfl) (R _ _ _ rfl) ?_
      refine Rp.bipush (nI 105) dX12_count_109 (by decide) ?_
      first | ((with_reducible show Rp _ _ _ _ (.int (nI _) :: _) _ _); refine Rp.ialoadN dX12_count_111 (S _ _ rfl) (by omega) ?_) | refine Rp.iaload dX12_count_111 (S _ _ rfl) (by first | assumption | exact vpb (by decide)) ?_
      refine Rp.ireturn dX12_count_112 rfl ?_
      exact ⟨rfl, rfl⟩
    | 4, _ =>
      refine Rp.iload_n dX12_count_0 rfl ?_
      refine Rp.tableIn (tgt := 113) (off := 112) dX12_count_1 (by decide) (by decide) (by decide) (by decide) ?_
      refine Rp.aload_n dX12_count_113 rfl rfl ?_
      refine Rp.getR dX12_count_114 fk_X12_24 rfl (S _ _ rfl) (R _ _ _ rfl) ?_
      refine Rp.bipush (nI 106) dX12_count_117 (by decide) ?_
      first | ((with_reducible show Rp _ _ _ _ (.int (nI _) :: _) _ _); refine Rp.ialoadN dX12_count_119 (S _ _ rfl) (by omega) ?_) | refine Rp.iaload dX12_count_119 (S _ _ rfl) (by first | assumption | exact vpb (by decide)) ?_
      refine Rp.ireturn dX12_count_120 rfl ?_
      exact ⟨rfl, rfl⟩
    | 5, _ =>
      refine Rp.iload_n dX12_count_0 rfl ?_
      refine Rp.tableIn (tgt := 121) (off := 120) dX12_count_1 (by decide) (by decide) (by decide) (by decide) ?_
      refine Rp.aload_n dX12_count_121 rfl rfl ?_
      refine Rp.getR dX12_count_122 fk_X12_24 rfl (S _ _ rfl) (R _ _ _ rfl) ?_
      refine Rp.bipush (nI 107) dX12_count_125 (by decide) ?_
      first | ((with_reducible show Rp _ _ _ _ (.int (nI _) :: _) _ _); refine Rp.ialoadN dX12_count_127 (S _ _ rfl) (by omega) ?_) | refine Rp.iaload dX12_count_127 (S _ _ rfl) (by first | assumption | exact vpb (by decide)) ?_
      refine Rp.ireturn dX12_count_128 rfl ?_
      exact ⟨rfl, rfl⟩
    | 6, _ =>
      refine Rp.iload_n dX12_count_0 rfl ?_
      refine Rp.tableIn (tgt := 129) (off := 128) dX12_count_1 (by decide) (by decide) (by decide) (by decide) ?_
      refine Rp.aload_n dX12_count_129 rfl rfl ?_
      refine Rp.getI dX12_count_130 fk_X12_11 rfl (S _ _ rfl) ?_
      refine Rp.ireturn dX12_count_133 rfl ?_
      exact ⟨rfl, rfl⟩
    | 7, _ =>
      refine Rp.iload_n dX12_count_0 rfl ?_
      refine Rp.tableIn (tgt := 134) (off := 133) dX12_count_1 (by decide) (by decide) (by decide) (by decide) ?_
      refine Rp.aload_n dX12_count_134 rfl rfl ?_
      refine Rp.getI dX12_count_135 fk_X12_174 rfl (S _ _ rfl) ?_
      refine Rp.ireturn dX12_count_138 rfl ?_
      exact ⟨rfl, rfl⟩
    | 8, _ =>
      refine Rp.iload_n dX12_count_0 rfl ?_
      refine Rp.tableIn (tgt := 139) (off := 138) dX12_count_1 (by decide) (by decide) (by decide) (by decide) ?_
      refine Rp.aload_n dX12_count_139 rfl rfl ?_
      refine Rp.getR dX12_count_140 fk_X12_7 rfl (S _ _ rfl) (R _ _ _ rfl) ?_
      refine Rp.iload_n dX12_count_143 rfl ?_
      refine Rp.bipush (nI 7) dX12_count_144 (by decide) ?_
      first | ((with_reducible show Rp _ _ _ _ (.int (nI _) :: .int (nI _) :: _) _ _); refine Rp.isubN dX12_count_146 (by omega) ?_) | refine Rp.isub dX12_count_146 ?_
      first | ((with_reducible show Rp _ _ _ _ (.int (nI _) :: _) _ _); refine Rp.ialoadN dX12_count_147 (S _ _ rfl) (by omega) ?_) | refine Rp.iaload dX12_count_147 (S _ _ rfl) (by first | assumption | exact vpb (by decide)) ?_
      refine Rp.ireturn dX12_count_148 rfl ?_
      exact ⟨rfl, rfl⟩
    | 9, _ =>
      refine Rp.iload_n dX12_count_0 rfl ?_
      refine Rp.tableIn (tgt := 139) (off := 138) dX12_count_1 (by decide) (by decide) (by decide) (by decide) ?_
      refine Rp.aload_n dX12_count_139 rfl rfl ?_
      refine Rp.getR dX12_count_140 fk_X12_7 rfl (S _ _ rfl) (R _ _ _ rfl) ?_
      refine Rp.iload_n dX12_count_143 rfl ?_
      refine Rp.bipush (nI 7) dX12_count_144 (by decide) ?_
      first | ((with_reducible show Rp _ _ _ _ (.int (nI _) :: .int (nI _) :: _) _ _); refine Rp.isubN dX12_count_146 (by omega) ?_) | refine Rp.isub dX12_count_146 ?_
      first | ((with_reducible show Rp _ _ _ _ (.int (nI _) :: _) _ _); refine Rp.ialoadN dX12_count_147 (S _ _ rfl) (by omega) ?_) | refine Rp.iaload dX12_count_147 (S _ _ rfl) (by first | assumption | exact vpb (by decide)) ?_
      refine Rp.ireturn dX12_count_148 rfl ?_
      exact ⟨rfl, rfl⟩
    | 10, _ =>
      refine Rp.iload_n dX12_count_0 rfl ?_
      refine Rp.tableIn (tgt := 139) (off := 138) dX12_count_1 (by decide) (by decide) (by decide) (by decide) ?_
      refine Rp.aload_n dX12_count_139 rfl rfl ?_
      refine Rp.getR dX12_count_140 fk_X12_7 rfl (S _ _ rfl) (R _ _ _ rfl) ?_
      refine Rp.iload_n dX12_count_143 rfl ?_
      refine Rp.bipush (nI 7) dX12_count_144 (by decide) ?_
      first | ((with_reducible show Rp _ _ _ _ (.int (nI _) :: .int (nI _) :: _) _ _); refine Rp.isubN dX12_count_146 (by omega) ?_) | refine Rp.isub dX12_count_146 ?_
      first | ((with_reducible show Rp _ _ _ _ (.int (nI _) :: _) _ _); refine Rp.ialoadN dX12_count_147 (S _ _ rfl) (by omega) ?_) | refine Rp.iaload dX12_count_147 (S _ _ rfl) (by first | assumption | exact vpb (by decide)) ?_
      refine Rp.ireturn dX12_count_148 rfl ?_
      exact ⟨rfl, rfl⟩
    | 11, _ =>
      refine Rp.iload_n dX12_count_0 rfl ?_
      refine Rp.tableIn (tgt := 149) (off := 148) dX12_count_1 (by decide) (by decide) (by decide) (by decide) ?_
      refine Rp.aload_n dX12_count_149 rfl rfl ?_
      refine Rp.getR dX12_count_150 fk_X12_7 rfl (S _ _ rfl) (R _ _ _ rfl) ?_
      refine Rp.iconst (nI 5) dX12_count_153 (by decide) ?_
      first | ((with_reducible show Rp _ _ _ _ (.int (nI _) :: _) _ _); refine Rp.ialoadN dX12_count_154 (S _ _ rfl) (by omega) ?_) | refine Rp.iaload dX12_count_154 (S _ _ rfl) (by first | assumption | exact vpb (by decide)) ?_
      refine Rp.ireturn dX12_count_155 rfl ?_
      exact ⟨rfl, rfl⟩
    | 12, _ =>
      refine Rp.iload_n dX12_count_0 rfl ?_
      refine Rp.tableIn (tgt := 156) (off := 155) dX12_count_1 (by decide) (by decide) (by decide) (by decide) ?_
      refine Rp.aload_n dX12_count_156 rfl rfl ?_
      refine Rp.getR dX12_count_157 fk_X12_7 rfl (S _ _ rfl) (R _ _ _ rfl) ?_
      refine Rp.bipush (nI 6) dX12_count_160 (by decide) ?_
      first | ((with_reducible show Rp _ _ _ _ (.int (nI _) :: _) _ _); refine Rp.ialoadN dX12_count_162 (S _ _ rfl) (by omega) ?_) | refine Rp.iaload dX12_count_162 (S _ _ rfl) (by first | assumption | exact vpb (by decide)) ?_
      refine Rp.ireturn dX12_count_163 rfl ?_
      exact ⟨rfl, rfl⟩
    | 13, _ =>
      refine Rp.iload_n dX12_count_0 rfl ?_
      refine Rp.tableIn (tgt := 164) (off := 163) dX12_count_1 (by decide) (by decide) (by decide) (by decide) ?_
      refine Rp.aload_n dX12_count_164 rfl rfl ?_
      refine Rp.getR dX12_count_165 fk_X12_24 rfl (S _ _ rfl) (R _ _ _ rfl) ?_
      refine Rp.bipush (nI 108) dX12_count_168 (by decide) ?_
      first | ((with_reducible show Rp _ _ _ _ (.int (nI _) :: _) _ _); refine Rp.ialoadN dX12_count_170 (S _ _ rfl) (by omega) ?_) | refine Rp.iaload dX12_count_170 (S _ _ rfl) (by first | assumption | exact vpb (by decide)) ?_
      refine Rp.ireturn dX12_count_171 rfl ?_
      exact ⟨rfl, rfl⟩
    | 14, _ =>
      refine Rp.iload_n dX12_count_0 rfl ?_
      refine Rp.tableIn (tgt := 172) (off := 171) dX12_count_1 (by decide) (by decide) (by decide) (by decide) ?_
      refine Rp.aload_n dX12_count_172 rfl rfl ?_
      refine Rp.getR dX12_count_173 fk_X12_24 rfl (S _ _ rfl) (R _ _ _ rfl) ?_
      refine Rp.iload_n dX12_count_176 rfl ?_
      refine Rp.bipush (nI 14) dX12_count_177 (by decide) ?_
      first | ((with_reducible show Rp _ _ _ _ (.int (nI _) :: .int (nI _) :: _) _ _); refine Rp.isubN dX12_count_179 (by omega) ?_) | refine Rp.isub dX12_count_179 ?_
      refine Rp.callS1 M_X12_termAt dX12_count_180 mo_X12_termAt lk_X12_171 (Nat.le_of_ble_eq_true rfl) (Nat.le_of_ble_eq_true rfl) (s_termAt (d + 1) _) (fun v1 h1 p1 x1 => ?_)
      rw [p1.1, p1.2]
      rw [show tAt _ = 6 from rfl]
      try dsimp only [Option.toList, List.cons_append, List.nil_append, List.append]
      first | ((with_reducible show Rp _ _ _ _ (.int (nI _) :: _) _ _); refine Rp.ialoadN dX12_count_183 (S _ _ rfl) (by omega) ?_) | refine Rp.iaload dX12_count_183 (S _ _ rfl) (by first | assumption | exact vpb (by decide)) ?_
      refine Rp.ireturn dX12_count_184 rfl ?_
      exact ⟨rfl, rfl⟩
    | 15, _ =>
      refine Rp.iload_n dX12_count_0 rfl ?_
      refine Rp.tableIn (tgt := 172) (off := 171) dX12_count_1 (by decide) (by decide) (by decide) (by decide) ?_
      refine Rp.aload_n dX12_count_172 rfl rfl ?_
      refine Rp.getR dX12_count_173 fk_X12_24 rfl (S _ _ rfl) (R _ _ _ rfl) ?_
      refine Rp.iload_n dX12_count_176 rfl ?_
      refine Rp.bipush (nI 14) dX12_count_177 (by decide) ?_
      first | ((with_reducible show Rp _ _ _ _ (.int (nI _) :: .int (nI _) :: _) _ _); refine Rp.isubN dX12_count_179 (by omega) ?_) | refine Rp.isub dX12_count_179 ?_
      refine Rp.callS1 M_X12_termAt dX12_count_180 mo_X12_termAt lk_X12_171 (Nat.le_of_ble_eq_true rfl) (Nat.le_of_ble_eq_true rfl) (s_termAt (d + 1) _) (fun v1 h1 p1 x1 => ?_)
      rw [p1.1, p1.2]
      rw [show tAt _ = 101 from rfl]
      try dsimp only [Option.toList, List.cons_append, List.nil_append, List.append]
      first | ((with_reducible show Rp _ _ _ _ (.int (nI _) :: _) _ _); refine Rp.ialoadN dX12_count_183 (S _ _ rfl) (by omega) ?_) | refine Rp.iaload dX12_count_183 (S _ _ rfl) (by first | assumption | exact vpb (by decide)) ?_
      refine Rp.ireturn dX12_count_184 rfl ?_
      exact ⟨rfl, rfl⟩
    | 16, _ =>
      refine Rp.iload_n dX12_count_0 rfl ?_
      refine Rp.tableIn (tgt := 172) (off := 171) dX12_count_1 (by decide) (by decide) (by decide) (by decide) ?_
      refine Rp.aload_n dX12_count_172 rfl rfl ?_
      refine Rp.getR dX12_count_173 fk_X12_24 rfl (S _ _ rfl) (R _ _ _ rfl) ?_
      refine Rp.iload_n dX12_count_176 rfl ?_
      refine Rp.bipush (nI 14) dX12_count_177 (by decide) ?_
      first | ((with_reducible show Rp _ _ _ _ (.int (nI _) :: .int (nI _) :: _) _ _); refine Rp.isubN dX12_count_179 (by omega) ?_) | refine Rp.isub dX12_count_179 ?_
      refine Rp.callS1 M_X12_termAt dX12_count_180 mo_X12_termAt lk_X12_171 (Nat.le_of_ble_eq_true rfl) (Nat.le_of_ble_eq_true rfl) (s_termAt (d + 1) _) (fun v1 h1 p1 x1 => ?_)
      rw [p1.1, p1.2]
      rw [show tAt _ = 102 from rfl]
      try dsimp only [Option.toList, List.cons_append, List.nil_append, List.append]
      first | ((with_reducible show Rp _ _ _ _ (.int (nI _) :: _) _ _); refine Rp.ialoadN dX12_count_183 (S _ _ rfl) (by omega) ?_) | refine Rp.iaload dX12_count_183 (S _ _ rfl) (by first | assumption | exact vpb (by decide)) ?_
      refine Rp.ireturn dX12_count_184 rfl ?_
      exact ⟨rfl, rfl⟩
    | k + 17, hk => exact absurd hk (by omega)
  · have k1 : ∀ i, i < 17 → ¬ w = nI i := fun i hi z => by
      subst z
      exact hw ((inN_iff (by omega)).mpr ⟨i, hi, rfl⟩)
    have hn : w.toInt < 0 ∨ 16 < w.toInt := by
      simp only [inN, decide_eq_true_eq] at hw
      omega
    refine Rp.iload_n dX12_count_0 rfl ?_
    refine Rp.tableOut (tgt := 185) dX12_count_1 (by omega) (by decide) ?_
    refine Rp.iconst (-1) dX12_count_185 (by decide) ?_
    refine Rp.ireturn dX12_count_186 rfl ?_
    refine ⟨rfl, ?_⟩
    unfold mCount
    rw [if_neg (k1 0 (by decide)), if_neg (k1 1 (by decide)), if_neg (k1 2 (by decide)), if_neg (k1 3 (by decide)), if_neg (k1 4 (by decide)), if_neg (k1 5 (by decide)), if_neg (k1 6 (by decide)), if_neg (k1 7 (by decide)), if_neg (k1 8 (by decide)), if_neg (k1 9 (by decide)), if_neg (k1 10 (by decide)), if_neg (k1 11 (by decide)), if_neg (k1 12 (by decide)), if_neg (k1 13 (by decide)), if_neg (k1 14 (by decide)), if_neg (k1 15 (by decide)), if_neg (k1 16 (by decide))]
theorem write_end (v : Int32) : Rp d M_X7_write 3 [some (.ref at_reader), some (.int v), some (.int (nI 0 + (-8)))] [] h (fun r h' => h' = h ∧ r = none) := by
  refine Rp.iload_n dX7_write_3 rfl ?_
  refine Rp.if_lt (tgt := 46) dX7_write_4 (by decide) (fun c4 => ?_) (fun c4 => ?_)
  · skip
    refine Rp.vreturn dX7_write_46 rfl ?_
    exact ⟨rfl, rfl⟩
  · skip
    exact absurd (by decide) c4
/-- the byte that a shift of four leaves -/
def fB (v y : Int32) : Int32 := (v >>> (y &&& 31)).toInt8.toInt32
theorem i8_8 (x : Int32) : x.toInt8.toInt32.toInt8.toInt32 = x.toInt8.toInt32 := by simp
theorem write_step {P : Option Value → AH → Prop} (S : ShOK h) (R : RfOK h) (v y : Int32) (hy : (0 : Int32) ≤ y) {L : Nat} (hL : L < 400) (hl : gI h at_reader freader_length = nI L)
    (k : Rp d M_X7_write 3 [some (.ref at_reader), some (.int v), some (.int (y + (-8)))] [] (sI (sI h 36 L (fB v y)) at_reader freader_length (nI (L + 1))) P) : Rp d M_X7_write 3 [some (.ref at_reader), some (.int v), some (.int y)] [] h P := by
  have e : (fB v y).toInt8.toInt32 = fB v y := i8_8 _
  refine Rp.iload_n dX7_write_3 rfl ?_
  refine Rp.if_lt (tgt := 46) dX7_write_4 (by decide) (fun c4 => ?_) (fun c4 => ?_)
  · skip
    exact absurd hy (by simp only [i32_lt, i32_le] at *; omega)
  · skip
    refine Rp.aload_n dX7_write_7 rfl rfl ?_
    refine Rp.getI dX7_write_8 fk_X7_26 rfl (S _ _ rfl) ?_
    first | rw [hl] | skip
    refine Rp.sipush (nI 400) dX7_write_11 (by decide) ?_
    first | ((with_reducible show Rp _ _ _ _ (.int (nI _) :: .int (nI _) :: _) _ _); refine Rp.icmp_geN (tgt := 40) dX7_write_14 (by decide) (by omega) (fun c14 => ?_) (fun c14 => ?_)) | refine Rp.icmp_ge (tgt := 40) dX7_write_14 (by decide) (fun c14 => ?_) (fun c14 => ?_)
    · skip
      first | (exfalso; omega) | exact absurd c14 (by decide) | exact absurd (by decide) c14
    · skip
      refine Rp.aload_n dX7_write_17 rfl rfl ?_
      refine Rp.getR dX7_write_18 fk_X7_9 rfl (S _ _ rfl) (R _ _ _ rfl) ?_
      refine Rp.aload_n dX7_write_21 rfl rfl ?_
      refine Rp.getI dX7_write_22 fk_X7_26 rfl (S _ _ rfl) ?_
      first | rw [hl] | skip
      refine Rp.iload_n dX7_write_25 rfl ?_
      refine Rp.iload_n dX7_write_26 rfl ?_
      refine Rp.ishr dX7_write_27 ?_
      refine Rp.i2b dX7_write_28 ?_
      first | ((with_reducible show Rp _ _ _ _ (_ :: .int (nI _) :: _) _ _); refine Rp.bastoreN dX7_write_29 (S _ _ rfl) (by omega) ?_) | refine Rp.bastore dX7_write_29 (S _ _ rfl) (by first | assumption | exact vpb (by decide)) ?_
      rw [show (v >>> (y &&& 31)).toInt8.toInt32 = fB v y from rfl, e]
      refine Rp.aload_n dX7_write_30 rfl rfl ?_
      refine Rp.dup dX7_write_31 rfl ?_
      refine Rp.getI dX7_write_32 fk_X7_26 rfl (S _ _ rfl) ?_
      first | rw [hl] | skip
      rw [show gI (sI h 36 L (fB v y)) 35 2 = nI L from hl]
      refine Rp.iconst (nI 1) dX7_write_35 (by decide) ?_
      first | ((with_reducible show Rp _ _ _ _ (.int (nI _) :: .int (nI _) :: _) _ _); refine Rp.iaddN dX7_write_36 ?_) | refine Rp.iadd dX7_write_36 ?_
      refine Rp.putI dX7_write_37 fk_X7_26w rfl (S _ _ rfl) ?_
      refine Rp.inc2 (y + (-8)) dX7_write_40 rfl (by first | exact nl2_some rfl | exact nl2_none) (by decide) ?_
      refine Rp.goto (tgt := 3) dX7_write_43 (by decide) ?_
      exact k
def wB (v : Int32) (i : Nat) : Int32 := fB v (nI (24 - 8 * i))
def wrH (h : AH) (v : Int32) (L : Nat) : AH := sI (sI (sI (sI (sI (sI (sI (sI h 36 L (wB v 0)) at_reader freader_length (nI (L + 1))) 36 (L + 1) (wB v 1)) at_reader freader_length (nI (L + 2))) 36 (L + 2) (wB v 2)) at_reader freader_length (nI (L + 3))) 36 (L + 3) (wB v 3)) at_reader freader_length (nI (L + 4))
theorem t_write (S : ShOK h) (R : RfOK h) (v : Int32) {L : Nat} (hL : L + 4 ≤ 400) (hl : gI h at_reader freader_length = nI L) : Rp d M_X7_write 0 [some (.ref at_reader), some (.int v), none] [] h (fun r h' => h' = wrH h v L ∧ r = none) := by
  refine Rp.bipush (nI 24) dX7_write_0 (by decide) ?_
  refine Rp.ist2 dX7_write_2 (by first | exact nl2_some rfl | exact nl2_none) (by decide) ?_
  exact write_step d S R v (nI 24) (by decide) (show L < 400 by omega) hl (write_step d (h := sI (sI h 36 L (wB v 0)) at_reader freader_length (nI (L + 1))) S R v (nI 16) (by decide) (show L + 1 < 400 by omega) rfl (write_step d (h := sI (sI (sI (sI h 36 L (wB v 0)) at_reader freader_length (nI (L + 1))) 36 (L + 1) (wB v 1)) at_reader freader_length (nI (L + 2))) S R v (nI 8) (by decide) (show L + 2 < 400 by omega) rfl (write_step d (h := sI (sI (sI (sI (sI (sI h 36 L (wB v 0)) at_reader freader_length (nI (L + 1))) 36 (L + 1) (wB v 1)) at_reader freader_length (nI (L + 2))) 36 (L + 2) (wB v 2)) at_reader freader_length (nI (L + 3))) S R v (nI 0) (by decide) (show L + 3 < 400 by omega) rfl (write_end d (h := wrH h v L) v))))
theorem wrH_len (h : AH) (v : Int32) (L : Nat) : gI (wrH h v L) at_reader freader_length = nI (L + 4) := rfl
def fdX (k j : Nat) : Bool := k == 36 || (k == 35 && j == 2)
theorem wrH_fr (h : AH) (v : Int32) (L : Nat) : Fr fdX h (wrH h v L) := ((((((((Fr.rfl'.sI rfl).sI rfl).sI rfl).sI rfl).sI rfl).sI rfl).sI rfl).sI rfl)
theorem wrH_tape (h : AH) (v : Int32) (L j : Nat) : gI (wrH h v L) 36 j = if L ≤ j ∧ j < L + 4 then wB v (j - L) else gI h 36 j := by
  unfold wrH
  rw [gI_ne _ _ _ _ (by decide), gI_at, gI_ne _ _ _ _ (by decide), gI_at, gI_ne _ _ _ _ (by decide), gI_at, gI_ne _ _ _ _ (by decide), gI_at]
  by_cases hj : L ≤ j ∧ j < L + 4
  · rw [if_pos hj]
    obtain ⟨i, rfl⟩ : ∃ i, j = L + i := ⟨j - L, by omega⟩
    have hi : i < 4 := by omega
    rw [show L + i - L = i by omega]
    match i, hi with
    | 0, _ => rw [if_neg (by omega), if_neg (by omega), if_neg (by omega), if_pos (by omega)]
    | 1, _ => rw [if_neg (by omega), if_neg (by omega), if_pos rfl]
    | 2, _ => rw [if_neg (by omega), if_pos rfl]
    | 3, _ => rw [if_pos rfl]
  · rw [if_neg hj, if_neg (by omega), if_neg (by omega), if_neg (by omega), if_neg (by omega)]
def b5 (a b c e f : Int32) (i : Nat) : Int32 := wB (if i / 4 = 0 then a else if i / 4 = 1 then b else if i / 4 = 2 then c else if i / 4 = 3 then e else f) (i % 4)
theorem feed_j (a b c e f : Int32) (L j : Nat) (x : Int32) : (if L + 4 + 4 + 4 + 4 ≤ j ∧ j < L + 4 + 4 + 4 + 4 + 4 then wB f (j - (L + 4 + 4 + 4 + 4)) else if L + 4 + 4 + 4 ≤ j ∧ j < L + 4 + 4 + 4 + 4 then wB e (j - (L + 4 + 4 + 4)) else if L + 4 + 4 ≤ j ∧ j < L + 4 + 4 + 4 then wB c (j - (L + 4 + 4)) else if L + 4 ≤ j ∧ j < L + 4 + 4 then wB b (j - (L + 4)) else if L ≤ j ∧ j < L + 4 then wB a (j - L) else x) = if L ≤ j ∧ j < L + 20 then b5 a b c e f (j - L) else x := by
  by_cases hj : L ≤ j ∧ j < L + 20
  · rw [if_pos hj]
    obtain ⟨i, rfl⟩ : ∃ i, j = L + i := ⟨j - L, by omega⟩
    have hi : i < 20 := by omega
    rw [show L + i - L = i by omega]
    unfold b5
    by_cases q4 : 16 ≤ i
    · rw [if_pos (by omega), if_neg (by omega), if_neg (by omega), if_neg (by omega), if_neg (by omega), show L + i - (L + 4 + 4 + 4 + 4) = i % 4 by omega]
    · rw [if_neg (by omega)]
      by_cases q3 : 12 ≤ i
      · rw [if_pos (by omega), if_neg (by omega), if_neg (by omega), if_neg (by omega), if_pos (by omega), show L + i - (L + 4 + 4 + 4) = i % 4 by omega]
      · rw [if_neg (by omega)]
        by_cases q2 : 8 ≤ i
        · rw [if_pos (by omega), if_neg (by omega), if_neg (by omega), if_pos (by omega), show L + i - (L + 4 + 4) = i % 4 by omega]
        · rw [if_neg (by omega)]
          by_cases q1 : 4 ≤ i
          · rw [if_pos (by omega), if_neg (by omega), if_pos (by omega), show L + i - (L + 4) = i % 4 by omega]
          · rw [if_neg (by omega), if_pos (by omega), if_pos (by omega), show i % 4 = i by omega]
  · rw [if_neg hj, if_neg (by omega), if_neg (by omega), if_neg (by omega), if_neg (by omega), if_neg (by omega)]
theorem t_feed (S : ShOK h) (R : RfOK h) (a b c e f : Int32) {L : Nat} (hL : L ≤ 400) (hl : gI h at_reader freader_length = nI L) : Rp (d + 1) M_X11_feed 0 [some (.ref 0), some (.int a), some (.int b), some (.int c), some (.int e), some (.int f)] [] h (fun r h' => (400 < L + 20 → r = some (.int (-1)) ∧ h' = h) ∧ (¬ 400 < L + 20 → r = some (.int (nI (L + 20))) ∧ Fr fdX h h' ∧ gI h' at_reader freader_length = nI (L + 20) ∧ ∀ j, gI h' 36 j = if L ≤ j ∧ j < L + 20 then b5 a b c e f (j - L) else gI h 36 j)) := by
  have S0 := S
  have R0 := R
  refine Rp.aload_n dX11_feed_0 rfl rfl ?_
  refine Rp.getR dX11_feed_1 fk_X11_30 rfl (S _ _ rfl) (R _ _ _ rfl) ?_
  refine Rp.getI dX11_feed_4 fk_X11_190 rfl (S _ _ rfl) ?_
  rw [show gI h 35 2 = nI L from hl]
  refine Rp.bipush (nI 20) dX11_feed_7 (by decide) ?_
  first | ((with_reducible show Rp _ _ _ _ (.int (nI _) :: .int (nI _) :: _) _ _); refine Rp.iaddN dX11_feed_9 ?_) | refine Rp.iadd dX11_feed_9 ?_
  refine Rp.sipush (nI 400) dX11_feed_10 (by decide) ?_
  first | ((with_reducible show Rp _ _ _ _ (.int (nI _) :: .int (nI _) :: _) _ _); refine Rp.icmp_leN (tgt := 18) dX11_feed_13 (by decide) (by omega) (fun c13 => ?_) (fun c13 => ?_)) | refine Rp.icmp_le (tgt := 18) dX11_feed_13 (by decide) (fun c13 => ?_) (fun c13 => ?_)
  · skip
    refine Rp.aload_n dX11_feed_18 rfl rfl ?_
    refine Rp.getR dX11_feed_19 fk_X11_30 rfl (S _ _ rfl) (R _ _ _ rfl) ?_
    refine Rp.iload_n dX11_feed_22 rfl ?_
    refine Rp.callV1 M_X7_write (ci := 7) dX11_feed_23 mo_X7_write lk_X11_193 (by decide) rfl rfl (S _ _ rfl) (Nat.le_of_ble_eq_true rfl) (Nat.le_of_ble_eq_true rfl) (t_write d S R a (show L + 4 ≤ 400 by omega) hl) (fun v1 h1 p1 x1 => ?_)
    obtain ⟨e1, rfl⟩ := p1
    rename AH => g1
    have F1 : Fr fdX h g1 := by rw [e1]; exact wrH_fr h a L
    have l1 : gI g1 at_reader freader_length = nI (L + 4) := by rw [e1]; rfl
    have t1 : ∀ j, gI g1 36 j = if L ≤ j ∧ j < L + 4 then wB a (j - L) else gI h 36 j := fun j => by rw [e1]; exact wrH_tape h a L j
    have S := F1.S S
    have R := F1.R R (by decide)
    try dsimp only [Option.toList, List.cons_append, List.nil_append, List.append]
    refine Rp.aload_n dX11_feed_26 rfl rfl ?_
    refine Rp.getR dX11_feed_27 fk_X11_30 rfl (S _ _ rfl) (R _ _ _ rfl) ?_
    refine Rp.iload_n dX11_feed_30 rfl ?_
    refine Rp.callV1 M_X7_write (ci := 7) dX11_feed_31 mo_X7_write lk_X11_193 (by decide) rfl rfl (S _ _ rfl) (Nat.le_of_ble_eq_true rfl) (Nat.le_of_ble_eq_true rfl) (t_write d S R b (show L + 4 + 4 ≤ 400 by omega) l1) (fun v1 h1 p1 x1 => ?_)
    obtain ⟨e2, rfl⟩ := p1
    rename AH => g2
    have F2 : Fr fdX h g2 := by rw [e2]; exact F1.trans (wrH_fr g1 b (L + 4))
    have l2 : gI g2 at_reader freader_length = nI (L + 4 + 4) := by rw [e2]; rfl
    have t2 : ∀ j, gI g2 36 j = if L + 4 ≤ j ∧ j < L + 4 + 4 then wB b (j - (L + 4)) else gI g1 36 j := fun j => by rw [e2]; exact wrH_tape g1 b (L + 4) j
    have S := F2.S S0
    have R := F2.R R0 (by decide)
    try dsimp only [Option.toList, List.cons_append, List.nil_append, List.append]
    refine Rp.aload_n dX11_feed_34 rfl rfl ?_
    refine Rp.getR dX11_feed_35 fk_X11_30 rfl (S _ _ rfl) (R _ _ _ rfl) ?_
    refine Rp.iload_n dX11_feed_38 rfl ?_
    refine Rp.callV1 M_X7_write (ci := 7) dX11_feed_39 mo_X7_write lk_X11_193 (by decide) rfl rfl (S _ _ rfl) (Nat.le_of_ble_eq_true rfl) (Nat.le_of_ble_eq_true rfl) (t_write d S R c (show L + 4 + 4 + 4 ≤ 400 by omega) l2) (fun v1 h1 p1 x1 => ?_)
    obtain ⟨e3, rfl⟩ := p1
    rename AH => g3
    have F3 : Fr fdX h g3 := by rw [e3]; exact F2.trans (wrH_fr g2 c (L + 4 + 4))
    have l3 : gI g3 at_reader freader_length = nI (L + 4 + 4 + 4) := by rw [e3]; rfl
    have t3 : ∀ j, gI g3 36 j = if L + 4 + 4 ≤ j ∧ j < L + 4 + 4 + 4 then wB c (j - (L + 4 + 4)) else gI g2 36 j := fun j => by rw [e3]; exact wrH_tape g2 c (L + 4 + 4) j
    have S := F3.S S0
    have R := F3.R R0 (by decide)
    try dsimp only [Option.toList, List.cons_append, List.nil_append, List.append]
    refine Rp.aload_n dX11_feed_42 rfl rfl ?_
    refine Rp.getR dX11_feed_43 fk_X11_30 rfl (S _ _ rfl) (R _ _ _ rfl) ?_
    refine Rp.iload dX11_feed_46 rfl ?_
    refine Rp.callV1 M_X7_write (ci := 7) dX11_feed_48 mo_X7_write lk_X11_193 (by decide) rfl rfl (S _ _ rfl) (Nat.le_of_ble_eq_true rfl) (Nat.le_of_ble_eq_true rfl) (t_write d S R e (show L + 4 + 4 + 4 + 4 ≤ 400 by omega) l3) (fun v1 h1 p1 x1 => ?_)
    obtain ⟨e4, rfl⟩ := p1
    rename AH => g4
    have F4 : Fr fdX h g4 := by rw [e4]; exact F3.trans (wrH_fr g3 e (L + 4 + 4 + 4))
    have l4 : gI g4 at_reader freader_length = nI (L + 4 + 4 + 4 + 4) := by rw [e4]; rfl
    have t4 : ∀ j, gI g4 36 j = if L + 4 + 4 + 4 ≤ j ∧ j < L + 4 + 4 + 4 + 4 then wB e (j - (L + 4 + 4 + 4)) else gI g3 36 j := fun j => by rw [e4]; exact wrH_tape g3 e (L + 4 + 4 + 4) j
    have S := F4.S S0
    have R := F4.R R0 (by decide)
    try dsimp only [Option.toList, List.cons_append, List.nil_append, List.append]
    refine Rp.aload_n dX11_feed_51 rfl rfl ?_
    refine Rp.getR dX11_feed_52 fk_X11_30 rfl (S _ _ rfl) (R _ _ _ rfl) ?_
    refine Rp.iload dX11_feed_55 rfl ?_
    refine Rp.callV1 M_X7_write (ci := 7) dX11_feed_57 mo_X7_write lk_X11_193 (by decide) rfl rfl (S _ _ rfl) (Nat.le_of_ble_eq_true rfl) (Nat.le_of_ble_eq_true rfl) (t_write d S R f (show L + 4 + 4 + 4 + 4 + 4 ≤ 400 by omega) l4) (fun v1 h1 p1 x1 => ?_)
    obtain ⟨e5, rfl⟩ := p1
    rename AH => g5
    have F5 : Fr fdX h g5 := by rw [e5]; exact F4.trans (wrH_fr g4 f (L + 4 + 4 + 4 + 4))
    have l5 : gI g5 at_reader freader_length = nI (L + 4 + 4 + 4 + 4 + 4) := by rw [e5]; rfl
    have t5 : ∀ j, gI g5 36 j = if L + 4 + 4 + 4 + 4 ≤ j ∧ j < L + 4 + 4 + 4 + 4 + 4 then wB f (j - (L + 4 + 4 + 4 + 4)) else gI g4 36 j := fun j => by rw [e5]; exact wrH_tape g4 f (L + 4 + 4 + 4 + 4) j
    have S := F5.S S0
    have R := F5.R R0 (by decide)
    try dsimp only [Option.toList, List.cons_append, List.nil_append, List.append]
    refine Rp.aload_n dX11_feed_60 rfl rfl ?_
    refine Rp.getR dX11_feed_61 fk_X11_30 rfl (S _ _ rfl) (R _ _ _ rfl) ?_
    refine Rp.getI dX11_feed_64 fk_X11_190 rfl (S _ _ rfl) ?_
    refine Rp.ireturn dX11_feed_67 rfl ?_
    refine ⟨fun z => absurd z (by omega), fun _ => ⟨by rw [l5], F5, l5, fun j => ?_⟩⟩
    rw [t5, t4, t3, t2, t1]
    exact feed_j a b c e f L j _
  · skip
    refine Rp.iconst (-1) dX11_feed_16 (by decide) ?_
    refine Rp.ireturn dX11_feed_17 rfl ?_
    exact ⟨fun _ => ⟨rfl, rfl⟩, fun z => absurd (by omega) z⟩
end Fe
