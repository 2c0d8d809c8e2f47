def WD (h : AH) : Prop := ∀ i, i < 157 → gI h am_words i = (flW W29).getD i 0
section Sp
variable (d : Nat) {h : AH}
theorem s_isSmall (b : Int32) : Rp d M_X12_isSmall 0 [some (.int b)] [] h (fun r h' => h' = h ∧ r = some (.int (b2i (isSm b)))) := by
  have q : isSm b = true ↔ (nI 97 ≤ b ∧ b ≤ nI 122) := by unfold isSm; rw [decide_eq_true_eq]
  refine Rp.iload_n dX12_isSmall_0 rfl ?_
  refine Rp.bipush (nI 97) dX12_isSmall_1 (by decide) ?_
  first | ((with_reducible show Rp _ _ _ _ (.int (nI _) :: .int (nI _) :: _) _ _); refine Rp.icmp_ltN (tgt := 16) dX12_isSmall_3 (by decide) (by omega) (fun c3 => ?_) (fun c3 => ?_)) | refine Rp.icmp_lt (tgt := 16) dX12_isSmall_3 (by decide) (fun c3 => ?_) (fun c3 => ?_)
  · skip
    refine Rp.iconst (nI 0) dX12_isSmall_16 (by decide) ?_
    refine Rp.zreturn dX12_isSmall_17 rfl (by first | exact Or.inl rfl | exact Or.inr rfl | assumption) ?_
    refine ⟨rfl, ?_⟩
    first | (rw [show isSm b = true from q.mpr ⟨by simp only [i32_lt, i32_le] at *; omega, by simp only [i32_lt, i32_le] at *; omega⟩]; rfl) | (rw [show isSm b = false from Bool.eq_false_iff.mpr (fun z => by have z := q.mp z; simp only [i32_lt, i32_le] at *; omega)]; rfl)
  · skip
    refine Rp.iload_n dX12_isSmall_6 rfl ?_
    refine Rp.bipush (nI 122) dX12_isSmall_7 (by decide) ?_
    first | ((with_reducible show Rp _ _ _ _ (.int (nI _) :: .int (nI _) :: _) _ _); refine Rp.icmp_gtN (tgt := 16) dX12_isSmall_9 (by decide) (by omega) (fun c9 => ?_) (fun c9 => ?_)) | refine Rp.icmp_gt (tgt := 16) dX12_isSmall_9 (by decide) (fun c9 => ?_) (fun c9 => ?_)
    · skip
      refine Rp.iconst (nI 0) dX12_isSmall_16 (by decide) ?_
      refine Rp.zreturn dX12_isSmall_17 rfl (by first | exact Or.inl rfl | exact Or.inr rfl | assumption) ?_
      refine ⟨rfl, ?_⟩
      first | (rw [show isSm b = true from q.mpr ⟨by simp only [i32_lt, i32_le] at *; omega, by simp only [i32_lt, i32_le] at *; omega⟩]; rfl) | (rw [show isSm b = false from Bool.eq_false_iff.mpr (fun z => by have z := q.mp z; simp only [i32_lt, i32_le] at *; omega)]; rfl)
    · skip
      refine Rp.iconst (nI 1) dX12_isSmall_12 (by decide) ?_
      refine Rp.goto (tgt := 17) dX12_isSmall_13 (by decide) ?_
      refine Rp.zreturn dX12_isSmall_17 rfl (by first | exact Or.inl rfl | exact Or.inr rfl | assumption) ?_
      refine ⟨rfl, ?_⟩
      first | (rw [show isSm b = true from q.mpr ⟨by simp only [i32_lt, i32_le] at *; omega, by simp only [i32_lt, i32_le] at *; omega⟩]; rfl) | (rw [show isSm b = false from Bool.eq_false_iff.mpr (fun z => by have z := q.mp z; simp only [i32_lt, i32_le] at *; omega)]; rfl)
theorem s_isDigit (b : Int32) : Rp d M_X12_isDigit 0 [some (.int b)] [] h (fun r h' => h' = h ∧ r = some (.int (b2i (isDg b)))) := by
  have q : isDg b = true ↔ (nI 48 ≤ b ∧ b ≤ nI 57) := by unfold isDg; rw [decide_eq_true_eq]
  refine Rp.iload_n dX12_isDigit_0 rfl ?_
  refine Rp.bipush (nI 48) dX12_isDigit_1 (by decide) ?_
  first | ((with_reducible show Rp _ _ _ _ (.int (nI _) :: .int (nI _) :: _) _ _); refine Rp.icmp_ltN (tgt := 16) dX12_isDigit_3 (by decide) (by omega) (fun c3 => ?_) (fun c3 => ?_)) | refine Rp.icmp_lt (tgt := 16) dX12_isDigit_3 (by decide) (fun c3 => ?_) (fun c3 => ?_)
  · skip
    refine Rp.iconst (nI 0) dX12_isDigit_16 (by decide) ?_
    refine Rp.zreturn dX12_isDigit_17 rfl (by first | exact Or.inl rfl | exact Or.inr rfl | assumption) ?_
    refine ⟨rfl, ?_⟩
    first | (rw [show isDg b = true from q.mpr ⟨by simp only [i32_lt, i32_le] at *; omega, by simp only [i32_lt, i32_le] at *; omega⟩]; rfl) | (rw [show isDg b = false from Bool.eq_false_iff.mpr (fun z => by have z := q.mp z; simp only [i32_lt, i32_le] at *; omega)]; rfl)
  · skip
    refine Rp.iload_n dX12_isDigit_6 rfl ?_
    refine Rp.bipush (nI 57) dX12_isDigit_7 (by decide) ?_
    first | ((with_reducible show Rp _ _ _ _ (.int (nI _) :: .int (nI _) :: _) _ _); refine Rp.icmp_gtN (tgt := 16) dX12_isDigit_9 (by decide) (by omega) (fun c9 => ?_) (fun c9 => ?_)) | refine Rp.icmp_gt (tgt := 16) dX12_isDigit_9 (by decide) (fun c9 => ?_) (fun c9 => ?_)
    · skip
      refine Rp.iconst (nI 0) dX12_isDigit_16 (by decide) ?_
      refine Rp.zreturn dX12_isDigit_17 rfl (by first | exact Or.inl rfl | exact Or.inr rfl | assumption) ?_
      refine ⟨rfl, ?_⟩
      first | (rw [show isDg b = true from q.mpr ⟨by simp only [i32_lt, i32_le] at *; omega, by simp only [i32_lt, i32_le] at *; omega⟩]; rfl) | (rw [show isDg b = false from Bool.eq_false_iff.mpr (fun z => by have z := q.mp z; simp only [i32_lt, i32_le] at *; omega)]; rfl)
    · skip
      refine Rp.iconst (nI 1) dX12_isDigit_12 (by decide) ?_
      refine Rp.goto (tgt := 17) dX12_isDigit_13 (by decide) ?_
      refine Rp.zreturn dX12_isDigit_17 rfl (by first | exact Or.inl rfl | exact Or.inr rfl | assumption) ?_
      refine ⟨rfl, ?_⟩
      first | (rw [show isDg b = true from q.mpr ⟨by simp only [i32_lt, i32_le] at *; omega, by simp only [i32_lt, i32_le] at *; omega⟩]; rfl) | (rw [show isDg b = false from Bool.eq_false_iff.mpr (fun z => by have z := q.mp z; simp only [i32_lt, i32_le] at *; omega)]; rfl)
theorem word18 {P : Option Value → AH → Prop} (S : ShOK h) (R : RfOK h) (a1 a2 a3 a6 a7 : Option Value) {k n : Nat} (hk : k + n < 157) (h1 : ∀ i, i < n → gI h am_words (k + i) ≠ 32) (h2 : gI h am_words (k + n) = 32) (kk : Rp d M_X12_wordOf 39 [some (.ref aM), a1, a2, a3, some (.int (nI k)), some (.int (nI n)), a6, a7] [] h P) : ∀ (r m : Nat), m + r = n → Rp d M_X12_wordOf 18 [some (.ref aM), a1, a2, a3, some (.int (nI k)), some (.int (nI m)), a6, a7] [] h P := by
  intro r
  induction r with
  | zero =>
    intro m hm
    have e : m = n := by omega
    subst e
    refine Rp.aload_n dX12_wordOf_18 rfl rfl ?_
    refine Rp.getR dX12_wordOf_19 fk_X12_37 rfl (S _ _ rfl) (R _ _ _ rfl) ?_
    refine Rp.iload dX12_wordOf_22 rfl ?_
    refine Rp.iload dX12_wordOf_24 rfl ?_
    first | ((with_reducible show Rp _ _ _ _ (.int (nI _) :: .int (nI _) :: _) _ _); refine Rp.iaddN dX12_wordOf_26 ?_) | refine Rp.iadd dX12_wordOf_26 ?_
    first | ((with_reducible show Rp _ _ _ _ (.int (nI _) :: _) _ _); refine Rp.baloadN dX12_wordOf_27 (S _ _ rfl) (by omega) ?_) | refine Rp.baload dX12_wordOf_27 (S _ _ rfl) (by first | assumption | exact vpb (by decide)) ?_
    refine Rp.bipush (nI 32) dX12_wordOf_28 (by decide) ?_
    first | ((with_reducible show Rp _ _ _ _ (.int (nI _) :: .int (nI _) :: _) _ _); refine Rp.icmp_eqN (tgt := 39) dX12_wordOf_30 (by decide) (by omega) (fun c30 => ?_) (fun c30 => ?_)) | refine Rp.icmp_eq (tgt := 39) dX12_wordOf_30 (by decide) (fun c30 => ?_) (fun c30 => ?_)
    · skip
      exact kk
    · skip
      exact absurd h2 c30
  | succ r ih =>
    intro m hm
    refine Rp.aload_n dX12_wordOf_18 rfl rfl ?_
    refine Rp.getR dX12_wordOf_19 fk_X12_37 rfl (S _ _ rfl) (R _ _ _ rfl) ?_
    refine Rp.iload dX12_wordOf_22 rfl ?_
    refine Rp.iload dX12_wordOf_24 rfl ?_
    first | ((with_reducible show Rp _ _ _ _ (.int (nI _) :: .int (nI _) :: _) _ _); refine Rp.iaddN dX12_wordOf_26 ?_) | refine Rp.iadd dX12_wordOf_26 ?_
    first | ((with_reducible show Rp _ _ _ _ (.int (nI _) :: _) _ _); refine Rp.baloadN dX12_wordOf_27 (S _ _ rfl) (by omega) ?_) | refine Rp.baload dX12_wordOf_27 (S _ _ rfl) (by first | assumption | exact vpb (by decide)) ?_
    refine Rp.bipush (nI 32) dX12_wordOf_28 (by decide) ?_
    first | ((with_reducible show Rp _ _ _ _ (.int (nI _) :: .int (nI _) :: _) _ _); refine Rp.icmp_eqN (tgt := 39) dX12_wordOf_30 (by decide) (by omega) (fun c30 => ?_) (fun c30 => ?_)) | refine Rp.icmp_eq (tgt := 39) dX12_wordOf_30 (by decide) (fun c30 => ?_) (fun c30 => ?_)
    · skip
      exact absurd c30 (h1 m (by omega))
    · skip
      first | ((with_reducible show Rp _ _ _ (_ :: _ :: _ :: _ :: _ :: some (.int (nI _)) :: _) _ _ _); refine Rp.inc5N (c := 1) dX12_wordOf_33 (by first | exact nl2_some rfl | exact nl2_none) (by decide) ?_) | refine Rp.inc5 _ dX12_wordOf_33 rfl (by first | exact nl2_some rfl | exact nl2_none) (by decide) ?_
      refine Rp.goto (tgt := 18) dX12_wordOf_36 (by decide) ?_
      exact ih (m + 1) (by omega)
theorem word57f {P : Option Value → AH → Prop} (S : ShOK h) (R : RfOK h) (a1 a2 a3 a4 : Option Value) {n i : Nat} (hn : n < 157 ∧ i < 157) (kk : Rp d M_X12_wordOf 104 [some (.ref aM), a1, a2, a3, a4, some (.int (nI n)), some (.int (nI 0)), some (.int (nI i))] [] h P) : Rp d M_X12_wordOf 57 [some (.ref aM), a1, a2, a3, a4, some (.int (nI n)), some (.int (nI 0)), some (.int (nI i))] [] h P := by
  refine Rp.iload dX12_wordOf_57 rfl ?_
  refine Rp.iload dX12_wordOf_59 rfl ?_
  first | ((with_reducible show Rp _ _ _ _ (.int (nI _) :: .int (nI _) :: _) _ _); refine Rp.icmp_geN (tgt := 104) dX12_wordOf_61 (by decide) (by omega) (fun c61 => ?_) (fun c61 => ?_)) | refine Rp.icmp_ge (tgt := 104) dX12_wordOf_61 (by decide) (fun c61 => ?_) (fun c61 => ?_)
  · skip
    exact kk
  · skip
    refine Rp.iload dX12_wordOf_64 rfl ?_
    first | ((with_reducible show Rp _ _ _ _ (.int (b2i _) :: _) _ _); refine Rp.if_eqB (tgt := 104) dX12_wordOf_66 (by decide) (fun c66 => ?_) (fun c66 => ?_)) | ((with_reducible show Rp _ _ _ _ (.int (nI _) :: _) _ _); refine Rp.if_eqN (tgt := 104) dX12_wordOf_66 (by decide) (by omega) (fun c66 => ?_) (fun c66 => ?_)) | refine Rp.if_eq (tgt := 104) dX12_wordOf_66 (by decide) (fun c66 => ?_) (fun c66 => ?_)
    · skip
      exact kk
    · skip
      first | (exfalso; omega) | exact absurd c66 (by decide) | exact absurd (by decide) c66
theorem word57 {P : Option Value → AH → Prop} (S : ShOK h) (R : RfOK h) (a2 a3 : Option Value) {s k n : Nat} (hs : s + n ≤ 400) (hk : k + n < 157)
    (kt : (∀ i, i < n → gI h am_words (k + i) = gI h am_tape (s + i)) → Rp d M_X12_wordOf 104 [some (.ref aM), some (.int (nI s)), a2, a3, some (.int (nI k)), some (.int (nI n)), some (.int (nI 1)), some (.int (nI n))] [] h P)
    (kf : ∀ i, i < n → gI h am_words (k + i) ≠ gI h am_tape (s + i) → Rp d M_X12_wordOf 104 [some (.ref aM), some (.int (nI s)), a2, a3, some (.int (nI k)), some (.int (nI n)), some (.int (nI 0)), some (.int (nI (i + 1)))] [] h P) : ∀ (r m : Nat), m + r = n → (∀ i, i < m → gI h am_words (k + i) = gI h am_tape (s + i)) → Rp d M_X12_wordOf 57 [some (.ref aM), some (.int (nI s)), a2, a3, some (.int (nI k)), some (.int (nI n)), some (.int (nI 1)), some (.int (nI m))] [] h P := by
  intro r
  induction r with
  | zero =>
    intro m hm hq
    have e : m = n := by omega
    subst e
    refine Rp.iload dX12_wordOf_57 rfl ?_
    refine Rp.iload dX12_wordOf_59 rfl ?_
    first | ((with_reducible show Rp _ _ _ _ (.int (nI _) :: .int (nI _) :: _) _ _); refine Rp.icmp_geN (tgt := 104) dX12_wordOf_61 (by decide) (by omega) (fun c61 => ?_) (fun c61 => ?_)) | refine Rp.icmp_ge (tgt := 104) dX12_wordOf_61 (by decide) (fun c61 => ?_) (fun c61 => ?_)
    · skip
      exact kt hq
    · skip
      first | (exfalso; omega) | exact absurd c61 (by decide) | exact absurd (by decide) c61
  | succ r ih =>
    intro m hm hq
    by_cases e : gI h am_words (k + m) = gI h am_tape (s + m)
    · skip
      refine Rp.iload dX12_wordOf_57 rfl ?_
      refine Rp.iload dX12_wordOf_59 rfl ?_
      first | ((with_reducible show Rp _ _ _ _ (.int (nI _) :: .int (nI _) :: _) _ _); refine Rp.icmp_geN (tgt := 104) dX12_wordOf_61 (by decide) (by omega) (fun c61 => ?_) (fun c61 => ?_)) | refine Rp.icmp_ge (tgt := 104) dX12_wordOf_61 (by decide) (fun c61 => ?_) (fun c61 => ?_)
      · skip
        first | (exfalso; omega) | exact absurd c61 (by decide) | exact absurd (by decide) c61
      · skip
        refine Rp.iload dX12_wordOf_64 rfl ?_
        first | ((with_reducible show Rp _ _ _ _ (.int (b2i _) :: _) _ _); refine Rp.if_eqB (tgt := 104) dX12_wordOf_66 (by decide) (fun c66 => ?_) (fun c66 => ?_)) | ((with_reducible show Rp _ _ _ _ (.int (nI _) :: _) _ _); refine Rp.if_eqN (tgt := 104) dX12_wordOf_66 (by decide) (by omega) (fun c66 => ?_) (fun c66 => ?_)) | refine Rp.if_eq (tgt := 104) dX12_wordOf_66 (by decide) (fun c66 => ?_) (fun c66 => ?_)
        · skip
          first | (exfalso; omega) | exact absurd c66 (by decide) | exact absurd (by decide) c66
        · skip
          refine Rp.aload_n dX12_wordOf_69 rfl rfl ?_
          refine Rp.getR dX12_wordOf_70 fk_X12_37 rfl (S _ _ rfl) (R _ _ _ rfl) ?_
          refine Rp.iload dX12_wordOf_73 rfl ?_
          refine Rp.iload dX12_wordOf_75 rfl ?_
          first | ((with_reducible show Rp _ _ _ _ (.int (nI _) :: .int (nI _) :: _) _ _); refine Rp.iaddN dX12_wordOf_77 ?_) | refine Rp.iadd dX12_wordOf_77 ?_
          first | ((with_reducible show Rp _ _ _ _ (.int (nI _) :: _) _ _); refine Rp.baloadN dX12_wordOf_78 (S _ _ rfl) (by omega) ?_) | refine Rp.baload dX12_wordOf_78 (S _ _ rfl) (by first | assumption | exact vpb (by decide)) ?_
          refine Rp.aload_n dX12_wordOf_79 rfl rfl ?_
          refine Rp.getR dX12_wordOf_80 fk_X12_41 rfl (S _ _ rfl) (R _ _ _ rfl) ?_
          refine Rp.iload_n dX12_wordOf_83 rfl ?_
          refine Rp.iload dX12_wordOf_84 rfl ?_
          first | ((with_reducible show Rp _ _ _ _ (.int (nI _) :: .int (nI _) :: _) _ _); refine Rp.iaddN dX12_wordOf_86 ?_) | refine Rp.iadd dX12_wordOf_86 ?_
          first | ((with_reducible show Rp _ _ _ _ (.int (nI _) :: _) _ _); refine Rp.baloadN dX12_wordOf_87 (S _ _ rfl) (by omega) ?_) | refine Rp.baload dX12_wordOf_87 (S _ _ rfl) (by first | assumption | exact vpb (by decide)) ?_
          first | ((with_reducible show Rp _ _ _ _ (.int (nI _) :: .int (nI _) :: _) _ _); refine Rp.icmp_neN (tgt := 95) dX12_wordOf_88 (by decide) (by omega) (fun c88 => ?_) (fun c88 => ?_)) | refine Rp.icmp_ne (tgt := 95) dX12_wordOf_88 (by decide) (fun c88 => ?_) (fun c88 => ?_)
          · skip
            exact absurd e c88
          · skip
            refine Rp.iconst (nI 1) dX12_wordOf_91 (by decide) ?_
            refine Rp.goto (tgt := 96) dX12_wordOf_92 (by decide) ?_
            refine Rp.ist6 dX12_wordOf_96 (by first | exact nl2_some rfl | exact nl2_none) (by decide) ?_
            first | ((with_reducible show Rp _ _ _ (_ :: _ :: _ :: _ :: _ :: _ :: _ :: some (.int (nI _)) :: _) _ _ _); refine Rp.inc7N (c := 1) dX12_wordOf_98 (by first | exact nl2_some rfl | exact nl2_none) (by decide) ?_) | refine Rp.inc7 _ dX12_wordOf_98 rfl (by first | exact nl2_some rfl | exact nl2_none) (by decide) ?_
            refine Rp.goto (tgt := 57) dX12_wordOf_101 (by decide) ?_
            exact ih (m + 1) (by omega) (fun i hi => by by_cases hx : i = m; (rw [hx]; exact e); exact hq i (by omega))
    · skip
      refine Rp.iload dX12_wordOf_57 rfl ?_
      refine Rp.iload dX12_wordOf_59 rfl ?_
      first | ((with_reducible show Rp _ _ _ _ (.int (nI _) :: .int (nI _) :: _) _ _); refine Rp.icmp_geN (tgt := 104) dX12_wordOf_61 (by decide) (by omega) (fun c61 => ?_) (fun c61 => ?_)) | refine Rp.icmp_ge (tgt := 104) dX12_wordOf_61 (by decide) (fun c61 => ?_) (fun c61 => ?_)
      · skip
        first | (exfalso; omega) | exact absurd c61 (by decide) | exact absurd (by decide) c61
      · skip
        refine Rp.iload dX12_wordOf_64 rfl ?_
        first | ((with_reducible show Rp _ _ _ _ (.int (b2i _) :: _) _ _); refine Rp.if_eqB (tgt := 104) dX12_wordOf_66 (by decide) (fun c66 => ?_) (fun c66 => ?_)) | ((with_reducible show Rp _ _ _ _ (.int (nI _) :: _) _ _); refine Rp.if_eqN (tgt := 104) dX12_wordOf_66 (by decide) (by omega) (fun c66 => ?_) (fun c66 => ?_)) | refine Rp.if_eq (tgt := 104) dX12_wordOf_66 (by decide) (fun c66 => ?_) (fun c66 => ?_)
        · skip
          first | (exfalso; omega) | exact absurd c66 (by decide) | exact absurd (by decide) c66
        · skip
          refine Rp.aload_n dX12_wordOf_69 rfl rfl ?_
          refine Rp.getR dX12_wordOf_70 fk_X12_37 rfl (S _ _ rfl) (R _ _ _ rfl) ?_
          refine Rp.iload dX12_wordOf_73 rfl ?_
          refine Rp.iload dX12_wordOf_75 rfl ?_
          first | ((with_reducible show Rp _ _ _ _ (.int (nI _) :: .int (nI _) :: _) _ _); refine Rp.iaddN dX12_wordOf_77 ?_) | refine Rp.iadd dX12_wordOf_77 ?_
          first | ((with_reducible show Rp _ _ _ _ (.int (nI _) :: _) _ _); refine Rp.baloadN dX12_wordOf_78 (S _ _ rfl) (by omega) ?_) | refine Rp.baload dX12_wordOf_78 (S _ _ rfl) (by first | assumption | exact vpb (by decide)) ?_
          refine Rp.aload_n dX12_wordOf_79 rfl rfl ?_
          refine Rp.getR dX12_wordOf_80 fk_X12_41 rfl (S _ _ rfl) (R _ _ _ rfl) ?_
          refine Rp.iload_n dX12_wordOf_83 rfl ?_
          refine Rp.iload dX12_wordOf_84 rfl ?_
          first | ((with_reducible show Rp _ _ _ _ (.int (nI _) :: .int (nI _) :: _) _ _); refine Rp.iaddN dX12_wordOf_86 ?_) | refine Rp.iadd dX12_wordOf_86 ?_
          first | ((with_reducible show Rp _ _ _ _ (.int (nI _) :: _) _ _); refine Rp.baloadN dX12_wordOf_87 (S _ _ rfl) (by omega) ?_) | refine Rp.baload dX12_wordOf_87 (S _ _ rfl) (by first | assumption | exact vpb (by decide)) ?_
          first | ((with_reducible show Rp _ _ _ _ (.int (nI _) :: .int (nI _) :: _) _ _); refine Rp.icmp_neN (tgt := 95) dX12_wordOf_88 (by decide) (by omega) (fun c88 => ?_) (fun c88 => ?_)) | refine Rp.icmp_ne (tgt := 95) dX12_wordOf_88 (by decide) (fun c88 => ?_) (fun c88 => ?_)
          · skip
            refine Rp.iconst (nI 0) dX12_wordOf_95 (by decide) ?_
            refine Rp.ist6 dX12_wordOf_96 (by first | exact nl2_some rfl | exact nl2_none) (by decide) ?_
            first | ((with_reducible show Rp _ _ _ (_ :: _ :: _ :: _ :: _ :: _ :: _ :: some (.int (nI _)) :: _) _ _ _); refine Rp.inc7N (c := 1) dX12_wordOf_98 (by first | exact nl2_some rfl | exact nl2_none) (by decide) ?_) | refine Rp.inc7 _ dX12_wordOf_98 rfl (by first | exact nl2_some rfl | exact nl2_none) (by decide) ?_
            refine Rp.goto (tgt := 57) dX12_wordOf_101 (by decide) ?_
            exact word57f d S R _ _ _ _ (by omega) (kf m (by omega) e)
          · skip
            exact absurd c88 e
theorem word5 (S : ShOK h) (R : RfOK h) {s N : Nat} (hs : s + N ≤ 400) : ∀ (ws : List (List Int32)) (k w : Nat) (a5 a6 a7 : Option Value), k + (flW ws).length = 157 → (∀ i, i < (flW ws).length → gI h am_words (k + i) = (flW ws).getD i 0) → (∀ x ∈ ws, ∀ i, i < x.length → x.getD i 0 ≠ 32) → Rp d M_X12_wordOf 5 [some (.ref aM), some (.int (nI s)), some (.int (nI (s + N))), some (.int (nI w)), some (.int (nI k)), a5, a6, a7] [] h (fun r h' => h' = h ∧ r = some (.int (nI (fiW ws (sl (gI h am_tape) s N) w)))) := by
  intro ws
  induction ws with
  | nil =>
    intro k w a5 a6 a7 hk hw hns
    have hk : k = 157 := hk
    subst hk
    refine Rp.iload dX12_wordOf_5 rfl ?_
    refine Rp.aload_n dX12_wordOf_7 rfl rfl ?_
    refine Rp.getR dX12_wordOf_8 fk_X12_37 rfl (S _ _ rfl) (R _ _ _ rfl) ?_
    refine Rp.alen dX12_wordOf_11 (S _ _ rfl) (by decide) (by decide) ?_
    first | ((with_reducible show Rp _ _ _ _ (.int (nI _) :: .int (nI _) :: _) _ _); refine Rp.icmp_geN (tgt := 126) dX12_wordOf_12 (by decide) (by omega) (fun c12 => ?_) (fun c12 => ?_)) | refine Rp.icmp_ge (tgt := 126) dX12_wordOf_12 (by decide) (fun c12 => ?_) (fun c12 => ?_)
    · skip
      refine Rp.iconst (nI 0) dX12_wordOf_126 (by decide) ?_
      refine Rp.ireturn dX12_wordOf_127 rfl ?_
      exact ⟨rfl, rfl⟩
    · skip
      first | (exfalso; omega) | exact absurd c12 (by decide) | exact absurd (by decide) c12
  | cons x r ih =>
    intro k w a5 a6 a7 hk hw hns
    rw [flW_cons] at hk hw
    rw [List.length_append, List.length_cons] at hk hw
    have hx : ∀ i, i < x.length → gI h am_words (k + i) = x.getD i 0 := fun i hi => by
      rw [hw i (by omega), List.getD_eq_getElem?_getD, List.getElem?_append_left hi, ← List.getD_eq_getElem?_getD]
    have h32 : gI h am_words (k + x.length) = 32 := by
      rw [hw x.length (by omega), List.getD_eq_getElem?_getD, List.getElem?_append_right (Nat.le_refl _), Nat.sub_self]
      rfl
    have hr : ∀ i, i < (flW r).length → gI h am_words (k + x.length + 1 + i) = (flW r).getD i 0 := fun i hi => by
      rw [show k + x.length + 1 + i = k + (x.length + 1 + i) by omega, hw (x.length + 1 + i) (by omega), List.getD_eq_getElem?_getD, List.getElem?_append_right (by omega), show x.length + 1 + i - x.length = i + 1 by omega, List.getElem?_cons_succ, ← List.getD_eq_getElem?_getD]
    have hnx := hns x List.mem_cons_self
    have next : ∀ (hne : x ≠ sl (gI h am_tape) s N) (i : Nat), Rp d M_X12_wordOf 104 [some (.ref aM), some (.int (nI s)), some (.int (nI (s + N))), some (.int (nI w)), some (.int (nI k)), some (.int (nI x.length)), some (.int (nI 0)), some (.int (nI i))] [] h (fun r' h' => h' = h ∧ r' = some (.int (nI (fiW (x :: r) (sl (gI h am_tape) s N) w)))) := by
      intro hne i
      rw [fiW, if_neg hne]
      refine Rp.iload dX12_wordOf_104 rfl ?_
      first | ((with_reducible show Rp _ _ _ _ (.int (b2i _) :: _) _ _); refine Rp.if_eqB (tgt := 111) dX12_wordOf_106 (by decide) (fun c106 => ?_) (fun c106 => ?_)) | ((with_reducible show Rp _ _ _ _ (.int (nI _) :: _) _ _); refine Rp.if_eqN (tgt := 111) dX12_wordOf_106 (by decide) (by omega) (fun c106 => ?_) (fun c106 => ?_)) | refine Rp.if_eq (tgt := 111) dX12_wordOf_106 (by decide) (fun c106 => ?_) (fun c106 => ?_)
      · skip
        refine Rp.iload dX12_wordOf_111 rfl ?_
        refine Rp.iload dX12_wordOf_113 rfl ?_
        refine Rp.iconst (nI 1) dX12_wordOf_115 (by decide) ?_
        first | ((with_reducible show Rp _ _ _ _ (.int (nI _) :: .int (nI _) :: _) _ _); refine Rp.iaddN dX12_wordOf_116 ?_) | refine Rp.iadd dX12_wordOf_116 ?_
        first | ((with_reducible show Rp _ _ _ _ (.int (nI _) :: .int (nI _) :: _) _ _); refine Rp.iaddN dX12_wordOf_117 ?_) | refine Rp.iadd dX12_wordOf_117 ?_
        refine Rp.ist4 dX12_wordOf_118 (by first | exact nl2_some rfl | exact nl2_none) (by decide) ?_
        first | ((with_reducible show Rp _ _ _ (_ :: _ :: _ :: some (.int (nI _)) :: _) _ _ _); refine Rp.inc3N (c := 1) dX12_wordOf_120 (by first | exact nl2_some rfl | exact nl2_none) (by decide) ?_) | refine Rp.inc3 _ dX12_wordOf_120 rfl (by first | exact nl2_some rfl | exact nl2_none) (by decide) ?_
        refine Rp.goto (tgt := 5) dX12_wordOf_123 (by decide) ?_
        rw [show k + (x.length + 1) = k + x.length + 1 from rfl]
        exact ih (k + x.length + 1) (w + 1) _ _ _ (by omega) hr (fun y hy => hns y (List.mem_cons_of_mem _ hy))
      · skip
        first | (exfalso; omega) | exact absurd c106 (by decide) | exact absurd (by decide) c106
    have c39 : Rp d M_X12_wordOf 39 [some (.ref aM), some (.int (nI s)), some (.int (nI (s + N))), some (.int (nI w)), some (.int (nI k)), some (.int (nI x.length)), a6, a7] [] h (fun r' h' => h' = h ∧ r' = some (.int (nI (fiW (x :: r) (sl (gI h am_tape) s N) w)))) := by
      by_cases hN : x.length = N
      · skip
        refine Rp.iload dX12_wordOf_39 rfl ?_
        refine Rp.iload_n dX12_wordOf_41 rfl ?_
        refine Rp.iload_n dX12_wordOf_42 rfl ?_
        first | ((with_reducible show Rp _ _ _ _ (.int (nI _) :: .int (nI _) :: _) _ _); refine Rp.isubN dX12_wordOf_43 (by omega) ?_) | refine Rp.isub dX12_wordOf_43 ?_
        first | ((with_reducible show Rp _ _ _ _ (.int (nI _) :: .int (nI _) :: _) _ _); refine Rp.icmp_neN (tgt := 51) dX12_wordOf_44 (by decide) (by omega) (fun c44 => ?_) (fun c44 => ?_)) | refine Rp.icmp_ne (tgt := 51) dX12_wordOf_44 (by decide) (fun c44 => ?_) (fun c44 => ?_)
        · first | (exfalso; omega) | exact absurd c44 (by decide) | exact absurd (by decide) c44
        refine Rp.iconst (nI 1) dX12_wordOf_47 (by decide) ?_
        refine Rp.goto (tgt := 52) dX12_wordOf_48 (by decide) ?_
        refine Rp.ist6 dX12_wordOf_52 (by first | exact nl2_some rfl | exact nl2_none) (by decide) ?_
        refine Rp.iconst (nI 0) dX12_wordOf_54 (by decide) ?_
        refine Rp.ist7 dX12_wordOf_55 (by first | exact nl2_some rfl | exact nl2_none) (by decide) ?_
        skip
        refine word57 d S R _ _ (by omega) (by omega) (fun hq => ?_) (fun i hi hq => next (fun z => hq ?_) _) x.length 0 (by omega) (fun i hi => absurd hi (by omega))
        · have e : x = sl (gI h am_tape) s N := sl_eq.mpr ⟨hN, fun i hi => by rw [← hx i (by omega)]; exact hq i (by omega)⟩
          rw [fiW, if_pos e]
          refine Rp.iload dX12_wordOf_104 rfl ?_
          first | ((with_reducible show Rp _ _ _ _ (.int (b2i _) :: _) _ _); refine Rp.if_eqB (tgt := 111) dX12_wordOf_106 (by decide) (fun c106 => ?_) (fun c106 => ?_)) | ((with_reducible show Rp _ _ _ _ (.int (nI _) :: _) _ _); refine Rp.if_eqN (tgt := 111) dX12_wordOf_106 (by decide) (by omega) (fun c106 => ?_) (fun c106 => ?_)) | refine Rp.if_eq (tgt := 111) dX12_wordOf_106 (by decide) (fun c106 => ?_) (fun c106 => ?_)
          · skip
            first | (exfalso; omega) | exact absurd c106 (by decide) | exact absurd (by decide) c106
          · skip
            refine Rp.iload_n dX12_wordOf_109 rfl ?_
            refine Rp.ireturn dX12_wordOf_110 rfl ?_
            exact ⟨rfl, rfl⟩
        · rw [hx i hi]
          exact (sl_eq.mp z).2 i (by omega)
      · skip
        refine Rp.iload dX12_wordOf_39 rfl ?_
        refine Rp.iload_n dX12_wordOf_41 rfl ?_
        refine Rp.iload_n dX12_wordOf_42 rfl ?_
        first | ((with_reducible show Rp _ _ _ _ (.int (nI _) :: .int (nI _) :: _) _ _); refine Rp.isubN dX12_wordOf_43 (by omega) ?_) | refine Rp.isub dX12_wordOf_43 ?_
        first | ((with_reducible show Rp _ _ _ _ (.int (nI _) :: .int (nI _) :: _) _ _); refine Rp.icmp_neN (tgt := 51) dX12_wordOf_44 (by decide) (by omega) (fun c44 => ?_) (fun c44 => ?_)) | refine Rp.icmp_ne (tgt := 51) dX12_wordOf_44 (by decide) (fun c44 => ?_) (fun c44 => ?_)
        · skip
          refine Rp.iconst (nI 0) dX12_wordOf_51 (by decide) ?_
          refine Rp.ist6 dX12_wordOf_52 (by first | exact nl2_some rfl | exact nl2_none) (by decide) ?_
          refine Rp.iconst (nI 0) dX12_wordOf_54 (by decide) ?_
          refine Rp.ist7 dX12_wordOf_55 (by first | exact nl2_some rfl | exact nl2_none) (by decide) ?_
          exact word57f d S R _ _ _ _ (by omega) (next (fun z => hN (sl_eq.mp z).1) _)
        · skip
          first | (exfalso; omega) | exact absurd c44 (by decide) | exact absurd (by decide) c44
    refine Rp.iload dX12_wordOf_5 rfl ?_
    refine Rp.aload_n dX12_wordOf_7 rfl rfl ?_
    refine Rp.getR dX12_wordOf_8 fk_X12_37 rfl (S _ _ rfl) (R _ _ _ rfl) ?_
    refine Rp.alen dX12_wordOf_11 (S _ _ rfl) (by decide) (by decide) ?_
    rw [show Int32.ofNat 157 = nI 157 from rfl]
    first | ((with_reducible show Rp _ _ _ _ (.int (nI _) :: .int (nI _) :: _) _ _); refine Rp.icmp_geN (tgt := 126) dX12_wordOf_12 (by decide) (by omega) (fun c12 => ?_) (fun c12 => ?_)) | refine Rp.icmp_ge (tgt := 126) dX12_wordOf_12 (by decide) (fun c12 => ?_) (fun c12 => ?_)
    · skip
      first | (exfalso; omega) | exact absurd c12 (by decide) | exact absurd (by decide) c12
    · skip
      refine Rp.iconst (nI 0) dX12_wordOf_15 (by decide) ?_
      refine Rp.ist5 dX12_wordOf_16 (by first | exact nl2_some rfl | exact nl2_none) (by decide) ?_
      exact word18 d S R _ _ _ _ _ (show k + x.length < 157 by omega) (fun i hi => by rw [hx i hi]; exact hnx i hi) h32 c39 x.length 0 (by omega)
theorem W29_ns : ∀ x ∈ W29, ∀ i, i < x.length → x.getD i 0 ≠ 32 := by
  have h : (W29.all fun x => (List.range x.length).all fun i => decide (x.getD i 0 ≠ 32)) = true := by decide +kernel
  intro x hx i hi
  have h1 := List.all_eq_true.mp h x hx
  have h2 := List.all_eq_true.mp h1 i (List.mem_range.mpr hi)
  exact of_decide_eq_true h2
theorem flW_len : (flW W29).length = 157 := by decide +kernel
theorem s_wordOf (S : ShOK h) (R : RfOK h) (W : WD h) {s e : Nat} (hse : s ≤ e) (he : e ≤ 400) : Rp d M_X12_wordOf 0 [some (.ref aM), some (.int (nI s)), some (.int (nI e)), none, none, none, none, none] [] h (fun r h' => h' = h ∧ r = some (.int (nI (fiW W29 (sl (gI h am_tape) s (e - s)) 1)))) := by
  obtain ⟨N, rfl⟩ : ∃ N, e = s + N := ⟨e - s, by omega⟩
  rw [show s + N - s = N by omega]
  refine Rp.iconst (nI 1) dX12_wordOf_0 (by decide) ?_
  refine Rp.ist3 dX12_wordOf_1 (by first | exact nl2_some rfl | exact nl2_none) (by decide) ?_
  refine Rp.iconst (nI 0) dX12_wordOf_2 (by decide) ?_
  refine Rp.ist4 dX12_wordOf_3 (by first | exact nl2_some rfl | exact nl2_none) (by decide) ?_
  exact word5 d S R he W29 0 1 _ _ _ (by decide +kernel) (fun i hi => by rw [Nat.zero_add]; exact W i (flW_len ▸ hi)) W29_ns
/-- the cells of the tokens -/
def spX (k j : Nat) : Bool := k == 109 || k == 110 || k == 111 || (k == 100 && j == 18)
def SpI (h g : AH) (tb : Nat → Int32) (L : Nat) (TL : List (Nat × Nat)) (j : Nat) : Prop := Fr spX h g ∧ gI g aM fm_tokens = nI j ∧ ∀ i, i < j → gI g am_code i = nI (cT tb TL i) ∧ gI g am_value i = nI (vT tb TL i) ∧ gI g am_placed i = nI (pT L TL i)
theorem split43 {P : Option Value → AH → Prop} (S : ShOK h) (R : RfOK h) {L : Nat} (hL : L ≤ 400) (a2 a5 : Option Value) (b3 : Int32) {e : Nat} (kk : Rp (d + 1) M_X12_splits 68 [some (.ref aM), some (.int (nI L)), a2, some (.int b3), some (.int (nI e)), a5] [] h P) : ∀ (m t : Nat), t + m = L → runE isSm (gI h am_tape) L m t = e → Rp (d + 1) M_X12_splits 43 [some (.ref aM), some (.int (nI L)), a2, some (.int b3), some (.int (nI t)), a5] [] h P := by
  intro m
  induction m with
  | zero =>
    intro t ht he
    have he : t = e := he
    subst he
    refine Rp.iload dX12_splits_43 rfl ?_
    refine Rp.iload_n dX12_splits_45 rfl ?_
    first | ((with_reducible show Rp _ _ _ _ (.int (nI _) :: .int (nI _) :: _) _ _); refine Rp.icmp_geN (tgt := 68) dX12_splits_46 (by decide) (by omega) (fun c46 => ?_) (fun c46 => ?_)) | refine Rp.icmp_ge (tgt := 68) dX12_splits_46 (by decide) (fun c46 => ?_) (fun c46 => ?_)
    · skip
      exact kk
    · skip
      first | (exfalso; omega) | exact absurd c46 (by decide) | exact absurd (by decide) c46
  | succ m ih =>
    intro t ht he
    rw [runE] at he
    by_cases hq : isSm (gI h am_tape t) = true
    · rw [if_pos ⟨by omega, hq⟩] at he
      refine Rp.iload dX12_splits_43 rfl ?_
      refine Rp.iload_n dX12_splits_45 rfl ?_
      first | ((with_reducible show Rp _ _ _ _ (.int (nI _) :: .int (nI _) :: _) _ _); refine Rp.icmp_geN (tgt := 68) dX12_splits_46 (by decide) (by omega) (fun c46 => ?_) (fun c46 => ?_)) | refine Rp.icmp_ge (tgt := 68) dX12_splits_46 (by decide) (fun c46 => ?_) (fun c46 => ?_)
      · skip
        first | (exfalso; omega) | exact absurd c46 (by decide) | exact absurd (by decide) c46
      · skip
        refine Rp.aload_n dX12_splits_49 rfl rfl ?_
        refine Rp.getR dX12_splits_50 fk_X12_41 rfl (S _ _ rfl) (R _ _ _ rfl) ?_
        refine Rp.iload dX12_splits_53 rfl ?_
        first | ((with_reducible show Rp _ _ _ _ (.int (nI _) :: _) _ _); refine Rp.baloadN dX12_splits_55 (S _ _ rfl) (by omega) ?_) | refine Rp.baload dX12_splits_55 (S _ _ rfl) (by first | assumption | exact vpb (by decide)) ?_
        refine Rp.callS1 M_X12_isSmall dX12_splits_56 mo_X12_isSmall lk_X12_183 (Nat.le_of_ble_eq_true rfl) (Nat.le_of_ble_eq_true rfl) (s_isSmall d (gI h am_tape t)) (fun v1 h1 p1 x1 => ?_)
        rw [p1.1, p1.2, hq]
        try dsimp only [Option.toList, List.cons_append, List.nil_append, List.append]
        first | ((with_reducible show Rp _ _ _ _ (.int (b2i _) :: _) _ _); refine Rp.if_eqB (tgt := 68) dX12_splits_59 (by decide) (fun c59 => ?_) (fun c59 => ?_)) | ((with_reducible show Rp _ _ _ _ (.int (nI _) :: _) _ _); refine Rp.if_eqN (tgt := 68) dX12_splits_59 (by decide) (by omega) (fun c59 => ?_) (fun c59 => ?_)) | refine Rp.if_eq (tgt := 68) dX12_splits_59 (by decide) (fun c59 => ?_) (fun c59 => ?_)
        · skip
          cases c59
        · skip
          first | ((with_reducible show Rp _ _ _ (_ :: _ :: _ :: _ :: some (.int (nI _)) :: _) _ _ _); refine Rp.inc4N (c := 1) dX12_splits_62 (by first | exact nl2_some rfl | exact nl2_none) (by decide) ?_) | refine Rp.inc4 _ dX12_splits_62 rfl (by first | exact nl2_some rfl | exact nl2_none) (by decide) ?_
          refine Rp.goto (tgt := 43) dX12_splits_65 (by decide) ?_
          exact ih (t + 1) (by omega) he
    · rw [if_neg (fun z => hq z.2)] at he
      subst he
      rw [Bool.not_eq_true] at hq
      refine Rp.iload dX12_splits_43 rfl ?_
      refine Rp.iload_n dX12_splits_45 rfl ?_
      first | ((with_reducible show Rp _ _ _ _ (.int (nI _) :: .int (nI _) :: _) _ _); refine Rp.icmp_geN (tgt := 68) dX12_splits_46 (by decide) (by omega) (fun c46 => ?_) (fun c46 => ?_)) | refine Rp.icmp_ge (tgt := 68) dX12_splits_46 (by decide) (fun c46 => ?_) (fun c46 => ?_)
      · skip
        first | (exfalso; omega) | exact absurd c46 (by decide) | exact absurd (by decide) c46
      · skip
        refine Rp.aload_n dX12_splits_49 rfl rfl ?_
        refine Rp.getR dX12_splits_50 fk_X12_41 rfl (S _ _ rfl) (R _ _ _ rfl) ?_
        refine Rp.iload dX12_splits_53 rfl ?_
        first | ((with_reducible show Rp _ _ _ _ (.int (nI _) :: _) _ _); refine Rp.baloadN dX12_splits_55 (S _ _ rfl) (by omega) ?_) | refine Rp.baload dX12_splits_55 (S _ _ rfl) (by first | assumption | exact vpb (by decide)) ?_
        refine Rp.callS1 M_X12_isSmall dX12_splits_56 mo_X12_isSmall lk_X12_183 (Nat.le_of_ble_eq_true rfl) (Nat.le_of_ble_eq_true rfl) (s_isSmall d (gI h am_tape t)) (fun v1 h1 p1 x1 => ?_)
        rw [p1.1, p1.2, hq]
        try dsimp only [Option.toList, List.cons_append, List.nil_append, List.append]
        first | ((with_reducible show Rp _ _ _ _ (.int (b2i _) :: _) _ _); refine Rp.if_eqB (tgt := 68) dX12_splits_59 (by decide) (fun c59 => ?_) (fun c59 => ?_)) | ((with_reducible show Rp _ _ _ _ (.int (nI _) :: _) _ _); refine Rp.if_eqN (tgt := 68) dX12_splits_59 (by decide) (by omega) (fun c59 => ?_) (fun c59 => ?_)) | refine Rp.if_eq (tgt := 68) dX12_splits_59 (by decide) (fun c59 => ?_) (fun c59 => ?_)
        · skip
          exact kk
        · skip
          cases c59
theorem split75 {P : Option Value → AH → Prop} (S : ShOK h) (R : RfOK h) {L : Nat} (hL : L ≤ 400) (a2 a5 : Option Value) (b3 : Int32) {e : Nat} (kk : Rp (d + 1) M_X12_splits 100 [some (.ref aM), some (.int (nI L)), a2, some (.int b3), some (.int (nI e)), a5] [] h P) : ∀ (m t : Nat), t + m = L → runE isDg (gI h am_tape) L m t = e → Rp (d + 1) M_X12_splits 75 [some (.ref aM), some (.int (nI L)), a2, some (.int b3), some (.int (nI t)), a5] [] h P := by
  intro m
  induction m with
  | zero =>
    intro t ht he
    have he : t = e := he
    subst he
    refine Rp.iload dX12_splits_75 rfl ?_
    refine Rp.iload_n dX12_splits_77 rfl ?_
    first | ((with_reducible show Rp _ _ _ _ (.int (nI _) :: .int (nI _) :: _) _ _); refine Rp.icmp_geN (tgt := 100) dX12_splits_78 (by decide) (by omega) (fun c78 => ?_) (fun c78 => ?_)) | refine Rp.icmp_ge (tgt := 100) dX12_splits_78 (by decide) (fun c78 => ?_) (fun c78 => ?_)
    · skip
      exact kk
    · skip
      first | (exfalso; omega) | exact absurd c78 (by decide) | exact absurd (by decide) c78
  | succ m ih =>
    intro t ht he
    rw [runE] at he
    by_cases hq : isDg (gI h am_tape t) = true
    · rw [if_pos ⟨by omega, hq⟩] at he
      refine Rp.iload dX12_splits_75 rfl ?_
      refine Rp.iload_n dX12_splits_77 rfl ?_
      first | ((with_reducible show Rp _ _ _ _ (.int (nI _) :: .int (nI _) :: _) _ _); refine Rp.icmp_geN (tgt := 100) dX12_splits_78 (by decide) (by omega) (fun c78 => ?_) (fun c78 => ?_)) | refine Rp.icmp_ge (tgt := 100) dX12_splits_78 (by decide) (fun c78 => ?_) (fun c78 => ?_)
      · skip
        first | (exfalso; omega) | exact absurd c78 (by decide) | exact absurd (by decide) c78
      · skip
        refine Rp.aload_n dX12_splits_81 rfl rfl ?_
        refine Rp.getR dX12_splits_82 fk_X12_41 rfl (S _ _ rfl) (R _ _ _ rfl) ?_
        refine Rp.iload dX12_splits_85 rfl ?_
        first | ((with_reducible show Rp _ _ _ _ (.int (nI _) :: _) _ _); refine Rp.baloadN dX12_splits_87 (S _ _ rfl) (by omega) ?_) | refine Rp.baload dX12_splits_87 (S _ _ rfl) (by first | assumption | exact vpb (by decide)) ?_
        refine Rp.callS1 M_X12_isDigit dX12_splits_88 mo_X12_isDigit lk_X12_186 (Nat.le_of_ble_eq_true rfl) (Nat.le_of_ble_eq_true rfl) (s_isDigit d (gI h am_tape t)) (fun v1 h1 p1 x1 => ?_)
        rw [p1.1, p1.2, hq]
        try dsimp only [Option.toList, List.cons_append, List.nil_append, List.append]
        first | ((with_reducible show Rp _ _ _ _ (.int (b2i _) :: _) _ _); refine Rp.if_eqB (tgt := 100) dX12_splits_91 (by decide) (fun c91 => ?_) (fun c91 => ?_)) | ((with_reducible show Rp _ _ _ _ (.int (nI _) :: _) _ _); refine Rp.if_eqN (tgt := 100) dX12_splits_91 (by decide) (by omega) (fun c91 => ?_) (fun c91 => ?_)) | refine Rp.if_eq (tgt := 100) dX12_splits_91 (by decide) (fun c91 => ?_) (fun c91 => ?_)
        · skip
          cases c91
        · skip
          first | ((with_reducible show Rp _ _ _ (_ :: _ :: _ :: _ :: some (.int (nI _)) :: _) _ _ _); refine Rp.inc4N (c := 1) dX12_splits_94 (by first | exact nl2_some rfl | exact nl2_none) (by decide) ?_) | refine Rp.inc4 _ dX12_splits_94 rfl (by first | exact nl2_some rfl | exact nl2_none) (by decide) ?_
          refine Rp.goto (tgt := 75) dX12_splits_97 (by decide) ?_
          exact ih (t + 1) (by omega) he
    · rw [if_neg (fun z => hq z.2)] at he
      subst he
      rw [Bool.not_eq_true] at hq
      refine Rp.iload dX12_splits_75 rfl ?_
      refine Rp.iload_n dX12_splits_77 rfl ?_
      first | ((with_reducible show Rp _ _ _ _ (.int (nI _) :: .int (nI _) :: _) _ _); refine Rp.icmp_geN (tgt := 100) dX12_splits_78 (by decide) (by omega) (fun c78 => ?_) (fun c78 => ?_)) | refine Rp.icmp_ge (tgt := 100) dX12_splits_78 (by decide) (fun c78 => ?_) (fun c78 => ?_)
      · skip
        first | (exfalso; omega) | exact absurd c78 (by decide) | exact absurd (by decide) c78
      · skip
        refine Rp.aload_n dX12_splits_81 rfl rfl ?_
        refine Rp.getR dX12_splits_82 fk_X12_41 rfl (S _ _ rfl) (R _ _ _ rfl) ?_
        refine Rp.iload dX12_splits_85 rfl ?_
        first | ((with_reducible show Rp _ _ _ _ (.int (nI _) :: _) _ _); refine Rp.baloadN dX12_splits_87 (S _ _ rfl) (by omega) ?_) | refine Rp.baload dX12_splits_87 (S _ _ rfl) (by first | assumption | exact vpb (by decide)) ?_
        refine Rp.callS1 M_X12_isDigit dX12_splits_88 mo_X12_isDigit lk_X12_186 (Nat.le_of_ble_eq_true rfl) (Nat.le_of_ble_eq_true rfl) (s_isDigit d (gI h am_tape t)) (fun v1 h1 p1 x1 => ?_)
        rw [p1.1, p1.2, hq]
        try dsimp only [Option.toList, List.cons_append, List.nil_append, List.append]
        first | ((with_reducible show Rp _ _ _ _ (.int (b2i _) :: _) _ _); refine Rp.if_eqB (tgt := 100) dX12_splits_91 (by decide) (fun c91 => ?_) (fun c91 => ?_)) | ((with_reducible show Rp _ _ _ _ (.int (nI _) :: _) _ _); refine Rp.if_eqN (tgt := 100) dX12_splits_91 (by decide) (by omega) (fun c91 => ?_) (fun c91 => ?_)) | refine Rp.if_eq (tgt := 100) dX12_splits_91 (by decide) (fun c91 => ?_) (fun c91 => ?_)
        · skip
          exact kk
        · skip
          cases c91
theorem split169 {P : Option Value → AH → Prop} (S : ShOK h) (R : RfOK h) {L k e j : Nat} (hL : L ≤ 400) (he : e ≤ L) (hj : j < 401) (hb : ∀ i, (gI h am_tape i).toInt ≤ 127) (hd : isDg (gI h am_tape k) = true) (hall : ∀ i, k ≤ i → i < e → 48 ≤ (gI h am_tape i).toInt) (hk : gI h aM fm_tokens = nI j)
    (kk : Rp (d + 1) M_X12_splits 247 [some (.ref aM), some (.int (nI L)), some (.int (nI k)), some (.int (gI h am_tape k)), some (.int (nI e)), some (.int (nI e))] [] (sI h am_value j (nI (vF (gI h am_tape) k (e - k)))) P) : ∀ (m i : Nat), i + m = e → k ≤ i → Rp (d + 1) M_X12_splits 169 [some (.ref aM), some (.int (nI L)), some (.int (nI k)), some (.int (gI h am_tape k)), some (.int (nI e)), some (.int (nI i))] [] (sI h am_value j (nI (vF (gI h am_tape) k (i - k)))) P := by
  intro m
  induction m with
  | zero =>
    intro i hi hki
    have e1 : i = e := by omega
    subst e1
    refine Rp.iload dX12_splits_169 rfl ?_
    refine Rp.iload dX12_splits_171 rfl ?_
    first | ((with_reducible show Rp _ _ _ _ (.int (nI _) :: .int (nI _) :: _) _ _); refine Rp.icmp_geN (tgt := 247) dX12_splits_173 (by decide) (by omega) (fun c173 => ?_) (fun c173 => ?_)) | refine Rp.icmp_ge (tgt := 247) dX12_splits_173 (by decide) (fun c173 => ?_) (fun c173 => ?_)
    · skip
      exact kk
    · skip
      first | (exfalso; omega) | exact absurd c173 (by decide) | exact absurd (by decide) c173
  | succ m ih =>
    intro i hi hki
    have hv := vF_lt (gI h am_tape) hb k (i - k)
    have et : gI (sI h am_value j (nI (vF (gI h am_tape) k (i - k)))) aM fm_tokens = nI j := by rw [gI_ne _ _ _ _ (by decide)]; exact hk
    have ev : gI (sI h am_value j (nI (vF (gI h am_tape) k (i - k)))) am_value j = nI (vF (gI h am_tape) k (i - k)) := gI_hit _ _ _ _
    have eb : gI (sI h am_value j (nI (vF (gI h am_tape) k (i - k)))) am_tape i = gI h am_tape i := gI_ne _ _ _ _ (by decide)
    have h48 := hall i hki (by omega)
    have h127 := hb i
    have est : vF (gI h am_tape) k (i + 1 - k) = vSt (vF (gI h am_tape) k (i - k)) (gI h am_tape i) := by
      rw [show i + 1 - k = (i - k) + 1 by omega, vF, show k + (i - k) = i by omega]
    have q := ih (i + 1) (by omega) (by omega)
    rw [est] at q
    by_cases hbig : 1000000 < vF (gI h am_tape) k (i - k)
    · rw [show vSt (vF (gI h am_tape) k (i - k)) (gI h am_tape i) = vF (gI h am_tape) k (i - k) from if_pos hbig] at q
      refine Rp.iload dX12_splits_169 rfl ?_
      refine Rp.iload dX12_splits_171 rfl ?_
      first | ((with_reducible show Rp _ _ _ _ (.int (nI _) :: .int (nI _) :: _) _ _); refine Rp.icmp_geN (tgt := 247) dX12_splits_173 (by decide) (by omega) (fun c173 => ?_) (fun c173 => ?_)) | refine Rp.icmp_ge (tgt := 247) dX12_splits_173 (by decide) (fun c173 => ?_) (fun c173 => ?_)
      · skip
        first | (exfalso; omega) | exact absurd c173 (by decide) | exact absurd (by decide) c173
      · skip
        refine Rp.iload_n dX12_splits_176 rfl ?_
        refine Rp.callS1 M_X12_isDigit dX12_splits_177 mo_X12_isDigit lk_X12_186 (Nat.le_of_ble_eq_true rfl) (Nat.le_of_ble_eq_true rfl) (s_isDigit d (gI h am_tape k)) (fun v1 h1 p1 x1 => ?_)
        rw [p1.1, p1.2, hd]
        try dsimp only [Option.toList, List.cons_append, List.nil_append, List.append]
        first | ((with_reducible show Rp _ _ _ _ (.int (b2i _) :: _) _ _); refine Rp.if_eqB (tgt := 247) dX12_splits_180 (by decide) (fun c180 => ?_) (fun c180 => ?_)) | ((with_reducible show Rp _ _ _ _ (.int (nI _) :: _) _ _); refine Rp.if_eqN (tgt := 247) dX12_splits_180 (by decide) (by omega) (fun c180 => ?_) (fun c180 => ?_)) | refine Rp.if_eq (tgt := 247) dX12_splits_180 (by decide) (fun c180 => ?_) (fun c180 => ?_)
        · skip
          cases c180
        · skip
          refine Rp.aload_n dX12_splits_183 rfl rfl ?_
          refine Rp.getR dX12_splits_184 fk_X12_53 rfl (S _ _ rfl) (R _ _ _ rfl) ?_
          refine Rp.aload_n dX12_splits_187 rfl rfl ?_
          refine Rp.getI dX12_splits_188 fk_X12_180 rfl (S _ _ rfl) ?_
          first | rw [et] | rw [ev] | skip
          refine Rp.aload_n dX12_splits_191 rfl rfl ?_
          refine Rp.getR dX12_splits_192 fk_X12_53 rfl (S _ _ rfl) (R _ _ _ rfl) ?_
          refine Rp.aload_n dX12_splits_195 rfl rfl ?_
          refine Rp.getI dX12_splits_196 fk_X12_180 rfl (S _ _ rfl) ?_
          first | rw [et] | rw [ev] | skip
          first | ((with_reducible show Rp _ _ _ _ (.int (nI _) :: _) _ _); refine Rp.ialoadN dX12_splits_199 (S _ _ rfl) (by omega) ?_) | refine Rp.iaload dX12_splits_199 (S _ _ rfl) (by first | assumption | exact vpb (by decide)) ?_
          first | rw [et] | rw [ev] | skip
          refine Rp.ldc dX12_splits_200 kc_X12_192 ?_
          rw [show (1000000 : Int32) = nI 1000000 from rfl]
          first | ((with_reducible show Rp _ _ _ _ (.int (nI _) :: .int (nI _) :: _) _ _); refine Rp.icmp_leN (tgt := 217) dX12_splits_202 (by decide) (by omega) (fun c202 => ?_) (fun c202 => ?_)) | refine Rp.icmp_le (tgt := 217) dX12_splits_202 (by decide) (fun c202 => ?_) (fun c202 => ?_)
          · skip
            first | (exfalso; omega) | exact absurd c202 (by decide) | exact absurd (by decide) c202
          · skip
            refine Rp.aload_n dX12_splits_205 rfl rfl ?_
            refine Rp.getR dX12_splits_206 fk_X12_53 rfl (S _ _ rfl) (R _ _ _ rfl) ?_
            refine Rp.aload_n dX12_splits_209 rfl rfl ?_
            refine Rp.getI dX12_splits_210 fk_X12_180 rfl (S _ _ rfl) ?_
            first | rw [et] | rw [ev] | skip
            first | ((with_reducible show Rp _ _ _ _ (.int (nI _) :: _) _ _); refine Rp.ialoadN dX12_splits_213 (S _ _ rfl) (by omega) ?_) | refine Rp.iaload dX12_splits_213 (S _ _ rfl) (by first | assumption | exact vpb (by decide)) ?_
            first | rw [et] | rw [ev] | skip
            refine Rp.goto (tgt := 240) dX12_splits_214 (by decide) ?_
            first | ((with_reducible show Rp _ _ _ _ (_ :: .int (nI _) :: _) _ _); refine Rp.iastoreN dX12_splits_240 (S _ _ rfl) (by omega) ?_) | refine Rp.iastore dX12_splits_240 (S _ _ rfl) (by first | assumption | exact vpb (by decide)) ?_
            first | rw [sI_sI] | skip
            first | ((with_reducible show Rp _ _ _ (_ :: _ :: _ :: _ :: _ :: some (.int (nI _)) :: _) _ _ _); refine Rp.inc5N (c := 1) dX12_splits_241 (by first | exact nl2_some rfl | exact nl2_none) (by decide) ?_) | refine Rp.inc5 _ dX12_splits_241 rfl (by first | exact nl2_some rfl | exact nl2_none) (by decide) ?_
            refine Rp.goto (tgt := 169) dX12_splits_244 (by decide) ?_
            exact q
    · rw [show vSt (vF (gI h am_tape) k (i - k)) (gI h am_tape i) = 10 * vF (gI h am_tape) k (i - k) + ((gI h am_tape i).toInt - 48).toNat from if_neg hbig] at q
      have ea : nI (10 * vF (gI h am_tape) k (i - k)) + gI h am_tape i - nI 48 = nI (10 * vF (gI h am_tape) k (i - k) + ((gI h am_tape i).toInt - 48).toNat) := by
        have e1 : gI h am_tape i = nI ((gI h am_tape i).toInt.toNat) := by rw [i32_eq, nI_toInt (by omega)]; omega
        rw [e1, nI_add, pk_sub (by omega)]
        congr 1
        rw [nI_toInt (by omega)]
        omega
      refine Rp.iload dX12_splits_169 rfl ?_
      refine Rp.iload dX12_splits_171 rfl ?_
      first | ((with_reducible show Rp _ _ _ _ (.int (nI _) :: .int (nI _) :: _) _ _); refine Rp.icmp_geN (tgt := 247) dX12_splits_173 (by decide) (by omega) (fun c173 => ?_) (fun c173 => ?_)) | refine Rp.icmp_ge (tgt := 247) dX12_splits_173 (by decide) (fun c173 => ?_) (fun c173 => ?_)
      · skip
        first | (exfalso; omega) | exact absurd c173 (by decide) | exact absurd (by decide) c173
      · skip
        refine Rp.iload_n dX12_splits_176 rfl ?_
        refine Rp.callS1 M_X12_isDigit dX12_splits_177 mo_X12_isDigit lk_X12_186 (Nat.le_of_ble_eq_true rfl) (Nat.le_of_ble_eq_true rfl) (s_isDigit d (gI h am_tape k)) (fun v1 h1 p1 x1 => ?_)
        rw [p1.1, p1.2, hd]
        try dsimp only [Option.toList, List.cons_append, List.nil_append, List.append]
        first | ((with_reducible show Rp _ _ _ _ (.int (b2i _) :: _) _ _); refine Rp.if_eqB (tgt := 247) dX12_splits_180 (by decide) (fun c180 => ?_) (fun c180 => ?_)) | ((with_reducible show Rp _ _ _ _ (.int (nI _) :: _) _ _); refine Rp.if_eqN (tgt := 247) dX12_splits_180 (by decide) (by omega) (fun c180 => ?_) (fun c180 => ?_)) | refine Rp.if_eq (tgt := 247) dX12_splits_180 (by decide) (fun c180 => ?_) (fun c180 => ?_)
        · skip
          cases c180
        · skip
          refine Rp.aload_n dX12_splits_183 rfl rfl ?_
          refine Rp.getR dX12_splits_184 fk_X12_53 rfl (S _ _ rfl) (R _ _ _ rfl) ?_
          refine Rp.aload_n dX12_splits_187 rfl rfl ?_
          refine Rp.getI dX12_splits_188 fk_X12_180 rfl (S _ _ rfl) ?_
          first | rw [et] | rw [ev] | rw [eb] | skip
          refine Rp.aload_n dX12_splits_191 rfl rfl ?_
          refine Rp.getR dX12_splits_192 fk_X12_53 rfl (S _ _ rfl) (R _ _ _ rfl) ?_
          refine Rp.aload_n dX12_splits_195 rfl rfl ?_
          refine Rp.getI dX12_splits_196 fk_X12_180 rfl (S _ _ rfl) ?_
          first | rw [et] | rw [ev] | rw [eb] | skip
          first | ((with_reducible show Rp _ _ _ _ (.int (nI _) :: _) _ _); refine Rp.ialoadN dX12_splits_199 (S _ _ rfl) (by omega) ?_) | refine Rp.iaload dX12_splits_199 (S _ _ rfl) (by first | assumption | exact vpb (by decide)) ?_
          first | rw [et] | rw [ev] | rw [eb] | skip
          refine Rp.ldc dX12_splits_200 kc_X12_192 ?_
          rw [show (1000000 : Int32) = nI 1000000 from rfl]
          first | ((with_reducible show Rp _ _ _ _ (.int (nI _) :: .int (nI _) :: _) _ _); refine Rp.icmp_leN (tgt := 217) dX12_splits_202 (by decide) (by omega) (fun c202 => ?_) (fun c202 => ?_)) | refine Rp.icmp_le (tgt := 217) dX12_splits_202 (by decide) (fun c202 => ?_) (fun c202 => ?_)
          · skip
            refine Rp.bipush (nI 10) dX12_splits_217 (by decide) ?_
            refine Rp.aload_n dX12_splits_219 rfl rfl ?_
            refine Rp.getR dX12_splits_220 fk_X12_53 rfl (S _ _ rfl) (R _ _ _ rfl) ?_
            refine Rp.aload_n dX12_splits_223 rfl rfl ?_
            refine Rp.getI dX12_splits_224 fk_X12_180 rfl (S _ _ rfl) ?_
            first | rw [et] | rw [ev] | rw [eb] | skip
            first | ((with_reducible show Rp _ _ _ _ (.int (nI _) :: _) _ _); refine Rp.ialoadN dX12_splits_227 (S _ _ rfl) (by omega) ?_) | refine Rp.iaload dX12_splits_227 (S _ _ rfl) (by first | assumption | exact vpb (by decide)) ?_
            first | rw [et] | rw [ev] | rw [eb] | skip
            first | ((with_reducible show Rp _ _ _ _ (.int (nI _) :: .int (nI _) :: _) _ _); refine Rp.imulN dX12_splits_228 ?_) | refine Rp.imul dX12_splits_228 ?_
            refine Rp.aload_n dX12_splits_229 rfl rfl ?_
            refine Rp.getR dX12_splits_230 fk_X12_41 rfl (S _ _ rfl) (R _ _ _ rfl) ?_
            refine Rp.iload dX12_splits_233 rfl ?_
            first | ((with_reducible show Rp _ _ _ _ (.int (nI _) :: _) _ _); refine Rp.baloadN dX12_splits_235 (S _ _ rfl) (by omega) ?_) | refine Rp.baload dX12_splits_235 (S _ _ rfl) (by first | assumption | exact vpb (by decide)) ?_
            first | rw [et] | rw [ev] | rw [eb] | skip
            first | ((with_reducible show Rp _ _ _ _ (.int (nI _) :: .int (nI _) :: _) _ _); refine Rp.iaddN dX12_splits_236 ?_) | refine Rp.iadd dX12_splits_236 ?_
            refine Rp.bipush (nI 48) dX12_splits_237 (by decide) ?_
            first | ((with_reducible show Rp _ _ _ _ (.int (nI _) :: .int (nI _) :: _) _ _); refine Rp.isubN dX12_splits_239 (by omega) ?_) | refine Rp.isub dX12_splits_239 ?_
            rw [ea]
            first | ((with_reducible show Rp _ _ _ _ (_ :: .int (nI _) :: _) _ _); refine Rp.iastoreN dX12_splits_240 (S _ _ rfl) (by omega) ?_) | refine Rp.iastore dX12_splits_240 (S _ _ rfl) (by first | assumption | exact vpb (by decide)) ?_
            first | rw [sI_sI] | skip
            first | ((with_reducible show Rp _ _ _ (_ :: _ :: _ :: _ :: _ :: some (.int (nI _)) :: _) _ _ _); refine Rp.inc5N (c := 1) dX12_splits_241 (by first | exact nl2_some rfl | exact nl2_none) (by decide) ?_) | refine Rp.inc5 _ dX12_splits_241 rfl (by first | exact nl2_some rfl | exact nl2_none) (by decide) ?_
            refine Rp.goto (tgt := 169) dX12_splits_244 (by decide) ?_
            exact q
          · skip
            first | (exfalso; omega) | exact absurd c202 (by decide) | exact absurd (by decide) c202
end Sp
theorem SpI_step {h g : AH} {tb : Nat → Int32} {L : Nat} {TL : List (Nat × Nat)} {j k e : Nat} (I : SpI h g tb L TL j) (hq : TL[j]? = some (k, e)) : SpI h (sI (sI (sI (sI g am_placed j (nI k)) am_code j (nI (tkC tb (k, e)))) am_value j (nI (tkV tb (k, e)))) aM fm_tokens (nI (j + 1))) tb L TL (j + 1) := by
  have ec : cT tb TL j = tkC tb (k, e) := by unfold cT; rw [hq]
  have ev : vT tb TL j = tkV tb (k, e) := by unfold vT; rw [hq]
  have ep : pT L TL j = k := by unfold pT; rw [hq]
  refine ⟨(((I.1.sI rfl).sI rfl).sI rfl).sI rfl, gI_hit _ _ _ _, fun i hi => ?_⟩
  have z1 : gI (sI (sI (sI (sI g am_placed j (nI k)) am_code j (nI (tkC tb (k, e)))) am_value j (nI (tkV tb (k, e)))) aM fm_tokens (nI (j + 1))) am_code i = if i = j then nI (tkC tb (k, e)) else gI g am_code i := by rw [gI_ne _ _ _ _ (by decide), gI_ne _ _ _ _ (by decide), gI_at, gI_ne _ _ _ _ (by decide)]
  have z2 : gI (sI (sI (sI (sI g am_placed j (nI k)) am_code j (nI (tkC tb (k, e)))) am_value j (nI (tkV tb (k, e)))) aM fm_tokens (nI (j + 1))) am_value i = if i = j then nI (tkV tb (k, e)) else gI g am_value i := by rw [gI_ne _ _ _ _ (by decide), gI_at, gI_ne _ _ _ _ (by decide), gI_ne _ _ _ _ (by decide)]
  have z3 : gI (sI (sI (sI (sI g am_placed j (nI k)) am_code j (nI (tkC tb (k, e)))) am_value j (nI (tkV tb (k, e)))) aM fm_tokens (nI (j + 1))) am_placed i = if i = j then nI k else gI g am_placed i := by rw [gI_ne _ _ _ _ (by decide), gI_ne _ _ _ _ (by decide), gI_ne _ _ _ _ (by decide), gI_at]
  rw [z1, z2, z3]
  by_cases hj : i = j
  · subst hj
    rw [if_pos rfl, if_pos rfl, if_pos rfl, ec, ev, ep]
    exact ⟨rfl, rfl, rfl⟩
  · rw [if_neg hj, if_neg hj, if_neg hj]
    exact I.2.2 i (by omega)
/-- what splitting leaves -/
def SpE (h : AH) (tb : Nat → Int32) (L : Nat) (TL : List (Nat × Nat)) (h' : AH) : Prop := Fr spX h h' ∧ gI h' aM fm_tokens = nI TL.length ∧ ∀ i, i ≤ TL.length → gI h' am_code i = nI (cT tb TL i) ∧ gI h' am_value i = nI (vT tb TL i) ∧ gI h' am_placed i = nI (pT L TL i)
section Sq
variable (d : Nat) {h : AH}
theorem split263 {g : AH} {tb : Nat → Int32} {L : Nat} {TL : List (Nat × Nat)} (S0 : ShOK h) (R0 : RfOK h) (hj : TL.length ≤ 400) (I : SpI h g tb L TL TL.length) (a2 a3 a4 a5 : Option Value) : Rp (d + 1) M_X12_splits 263 [some (.ref aM), some (.int (nI L)), a2, a3, a4, a5] [] g (fun r h' => r = none ∧ SpE h tb L TL h') := by
  have S := I.1.S S0
  have R := I.1.R R0 (by decide)
  have t0 := I.2.1
  have t1 : gI (sI g am_placed TL.length (nI L)) aM fm_tokens = nI TL.length := by rw [gI_ne _ _ _ _ (by decide)]; exact t0
  have t2 : gI (sI (sI g am_placed TL.length (nI L)) am_code TL.length (nI 0)) aM fm_tokens = nI TL.length := by rw [gI_ne _ _ _ _ (by decide)]; exact t1
  have hn : TL[TL.length]? = none := List.getElem?_eq_none (Nat.le_refl _)
  have ec : cT tb TL TL.length = 0 := by unfold cT; rw [hn]
  have ev : vT tb TL TL.length = 0 := by unfold vT; rw [hn]
  have ep : pT L TL TL.length = L := by unfold pT; rw [hn]
  refine Rp.aload_n dX12_splits_263 rfl rfl ?_
  refine Rp.getR dX12_splits_264 fk_X12_56 rfl (S _ _ rfl) (R _ _ _ rfl) ?_
  refine Rp.aload_n dX12_splits_267 rfl rfl ?_
  refine Rp.getI dX12_splits_268 fk_X12_180 rfl (S _ _ rfl) ?_
  first | rw [t0] | rw [t1] | rw [t2] | skip
  refine Rp.iload_n dX12_splits_271 rfl ?_
  first | ((with_reducible show Rp _ _ _ _ (_ :: .int (nI _) :: _) _ _); refine Rp.iastoreN dX12_splits_272 (S _ _ rfl) (by omega) ?_) | refine Rp.iastore dX12_splits_272 (S _ _ rfl) (by first | assumption | exact vpb (by decide)) ?_
  refine Rp.aload_n dX12_splits_273 rfl rfl ?_
  refine Rp.getR dX12_splits_274 fk_X12_50 rfl (S _ _ rfl) (R _ _ _ rfl) ?_
  refine Rp.aload_n dX12_splits_277 rfl rfl ?_
  refine Rp.getI dX12_splits_278 fk_X12_180 rfl (S _ _ rfl) ?_
  first | rw [t0] | rw [t1] | rw [t2] | skip
  refine Rp.iconst (nI 0) dX12_splits_281 (by decide) ?_
  first | ((with_reducible show Rp _ _ _ _ (_ :: .int (nI _) :: _) _ _); refine Rp.iastoreN dX12_splits_282 (S _ _ rfl) (by omega) ?_) | refine Rp.iastore dX12_splits_282 (S _ _ rfl) (by first | assumption | exact vpb (by decide)) ?_
  refine Rp.aload_n dX12_splits_283 rfl rfl ?_
  refine Rp.getR dX12_splits_284 fk_X12_53 rfl (S _ _ rfl) (R _ _ _ rfl) ?_
  refine Rp.aload_n dX12_splits_287 rfl rfl ?_
  refine Rp.getI dX12_splits_288 fk_X12_180 rfl (S _ _ rfl) ?_
  first | rw [t0] | rw [t1] | rw [t2] | skip
  refine Rp.iconst (nI 0) dX12_splits_291 (by decide) ?_
  first | ((with_reducible show Rp _ _ _ _ (_ :: .int (nI _) :: _) _ _); refine Rp.iastoreN dX12_splits_292 (S _ _ rfl) (by omega) ?_) | refine Rp.iastore dX12_splits_292 (S _ _ rfl) (by first | assumption | exact vpb (by decide)) ?_
  refine Rp.vreturn dX12_splits_293 rfl ?_
  refine ⟨rfl, ((I.1.sI rfl).sI rfl).sI rfl, ?_, fun i hi => ?_⟩
  · rw [gI_ne _ _ _ _ (by decide)]; exact t2
  · have z1 : gI (sI (sI (sI g am_placed TL.length (nI L)) am_code TL.length (nI 0)) am_value TL.length (nI 0)) am_code i = if i = TL.length then nI 0 else gI g am_code i := by rw [gI_ne _ _ _ _ (by decide), gI_at, gI_ne _ _ _ _ (by decide)]
    have z2 : gI (sI (sI (sI g am_placed TL.length (nI L)) am_code TL.length (nI 0)) am_value TL.length (nI 0)) am_value i = if i = TL.length then nI 0 else gI g am_value i := by rw [gI_at, gI_ne _ _ _ _ (by decide), gI_ne _ _ _ _ (by decide)]
    have z3 : gI (sI (sI (sI g am_placed TL.length (nI L)) am_code TL.length (nI 0)) am_value TL.length (nI 0)) am_placed i = if i = TL.length then nI L else gI g am_placed i := by rw [gI_ne _ _ _ _ (by decide), gI_ne _ _ _ _ (by decide), gI_at]
    rw [z1, z2, z3]
    by_cases hx : i = TL.length
    · subst hx
      rw [if_pos rfl, if_pos rfl, if_pos rfl, ec, ev, ep]
      exact ⟨rfl, rfl, rfl⟩
    · rw [if_neg hx, if_neg hx, if_neg hx]
      exact I.2.2 i (by omega)
theorem split100 {P : Option Value → AH → Prop} {L k e j : Nat} (S : ShOK h) (R : RfOK h) (W : WD h) (hL : L ≤ 400) (hke : k < e) (he : e ≤ L) (hj : j < 401) (hb : ∀ i, (gI h am_tape i).toInt ≤ 127) (hall : isDg (gI h am_tape k) = true → ∀ i, k ≤ i → i < e → 48 ≤ (gI h am_tape i).toInt) (hk : gI h aM fm_tokens = nI j) (a5 : Option Value)
    (kk : ∀ l5 : Option Value, Rp (d + 1) M_X12_splits 7 [some (.ref aM), some (.int (nI L)), some (.int (nI e)), some (.int (gI h am_tape k)), some (.int (nI e)), l5] [] (sI (sI (sI (sI h am_placed j (nI k)) am_code j (nI (tkC (gI h am_tape) (k, e)))) am_value j (nI (tkV (gI h am_tape) (k, e)))) aM fm_tokens (nI (j + 1))) P) : Rp (d + 1) M_X12_splits 100 [some (.ref aM), some (.int (nI L)), some (.int (nI k)), some (.int (gI h am_tape k)), some (.int (nI e)), a5] [] h P := by
  have t1 : gI (sI h am_placed j (nI k)) aM fm_tokens = nI j := by rw [gI_ne _ _ _ _ (by decide)]; exact hk
  have t2 : gI (sI (sI h am_placed j (nI k)) am_value j (nI 0)) aM fm_tokens = nI j := by rw [gI_ne _ _ _ _ (by decide)]; exact t1
  have k247 : ∀ (V : Nat) (l5 : Option Value), V = tkV (gI h am_tape) (k, e) → Rp (d + 1) M_X12_splits 247 [some (.ref aM), some (.int (nI L)), some (.int (nI k)), some (.int (gI h am_tape k)), some (.int (nI e)), l5] [] (sI (sI (sI h am_placed j (nI k)) am_code j (nI (tkC (gI h am_tape) (k, e)))) am_value j (nI V)) P := by
    intro V l5 hV
    subst hV
    have t3 : gI (sI (sI (sI h am_placed j (nI k)) am_code j (nI (tkC (gI h am_tape) (k, e)))) am_value j (nI (tkV (gI h am_tape) (k, e)))) aM fm_tokens = nI j := by rw [gI_ne _ _ _ _ (by decide), gI_ne _ _ _ _ (by decide)]; exact t1
    refine Rp.aload_n dX12_splits_247 rfl rfl ?_
    refine Rp.dup dX12_splits_248 rfl ?_
    refine Rp.getI dX12_splits_249 fk_X12_180 rfl (S _ _ rfl) ?_
    first | rw [t3] | skip
    refine Rp.iconst (nI 1) dX12_splits_252 (by decide) ?_
    first | ((with_reducible show Rp _ _ _ _ (.int (nI _) :: .int (nI _) :: _) _ _); refine Rp.iaddN dX12_splits_253 ?_) | refine Rp.iadd dX12_splits_253 ?_
    refine Rp.putI dX12_splits_254 fk_X12_180w rfl (S _ _ rfl) ?_
    refine Rp.iload dX12_splits_257 rfl ?_
    refine Rp.ist2 dX12_splits_259 (by first | exact nl2_some rfl | exact nl2_none) (by decide) ?_
    refine Rp.goto (tgt := 7) dX12_splits_260 (by decide) ?_
    exact kk _
  have k166 : ∀ (l5 : Option Value), Rp (d + 1) M_X12_splits 166 [some (.ref aM), some (.int (nI L)), some (.int (nI k)), some (.int (gI h am_tape k)), some (.int (nI e)), l5] [] (sI (sI (sI h am_placed j (nI k)) am_code j (nI (tkC (gI h am_tape) (k, e)))) am_value j (nI 0)) P := by
    intro l5
    by_cases hd : isDg (gI h am_tape k) = true
    · have et : gI (sI (sI h am_placed j (nI k)) am_code j (nI (tkC (gI h am_tape) (k, e)))) am_tape = gI h am_tape := funext fun i => by rw [gI_ne _ _ _ _ (by decide), gI_ne _ _ _ _ (by decide)]
      have ev : tkV (gI h am_tape) (k, e) = vF (gI h am_tape) k (e - k) := if_pos hd
      have q := split169 d (h := sI (sI h am_placed j (nI k)) am_code j (nI (tkC (gI h am_tape) (k, e)))) (P := P) S R hL he hj (by rw [et]; exact hb) (by rw [et]; exact hd) (by rw [et]; exact hall hd) (by rw [gI_ne _ _ _ _ (by decide)]; exact t1) (by rw [et]; exact k247 _ _ ev.symm) (e - k) k (by omega) (Nat.le_refl _)
      rw [et, Nat.sub_self] at q
      refine Rp.iload_n dX12_splits_166 rfl ?_
      refine Rp.ist5 dX12_splits_167 (by first | exact nl2_some rfl | exact nl2_none) (by decide) ?_
      exact q
    · have ev : 0 = tkV (gI h am_tape) (k, e) := (if_neg hd).symm
      have hd2 : isDg (gI h am_tape k) = false := Bool.eq_false_iff.mpr hd
      refine Rp.iload_n dX12_splits_166 rfl ?_
      refine Rp.ist5 dX12_splits_167 (by first | exact nl2_some rfl | exact nl2_none) (by decide) ?_
      refine Rp.iload dX12_splits_169 rfl ?_
      refine Rp.iload dX12_splits_171 rfl ?_
      first | ((with_reducible show Rp _ _ _ _ (.int (nI _) :: .int (nI _) :: _) _ _); refine Rp.icmp_geN (tgt := 247) dX12_splits_173 (by decide) (by omega) (fun c173 => ?_) (fun c173 => ?_)) | refine Rp.icmp_ge (tgt := 247) dX12_splits_173 (by decide) (fun c173 => ?_) (fun c173 => ?_)
      · skip
        first | (exfalso; omega) | exact absurd c173 (by decide) | exact absurd (by decide) c173
      · skip
        refine Rp.iload_n dX12_splits_176 rfl ?_
        refine Rp.callS1 M_X12_isDigit dX12_splits_177 mo_X12_isDigit lk_X12_186 (Nat.le_of_ble_eq_true rfl) (Nat.le_of_ble_eq_true rfl) (s_isDigit d (gI h am_tape k)) (fun v1 h1 p1 x1 => ?_)
        rw [p1.1, p1.2, hd2]
        try dsimp only [Option.toList, List.cons_append, List.nil_append, List.append]
        first | ((with_reducible show Rp _ _ _ _ (.int (b2i _) :: _) _ _); refine Rp.if_eqB (tgt := 247) dX12_splits_180 (by decide) (fun c180 => ?_) (fun c180 => ?_)) | ((with_reducible show Rp _ _ _ _ (.int (nI _) :: _) _ _); refine Rp.if_eqN (tgt := 247) dX12_splits_180 (by decide) (by omega) (fun c180 => ?_) (fun c180 => ?_)) | refine Rp.if_eq (tgt := 247) dX12_splits_180 (by decide) (fun c180 => ?_) (fun c180 => ?_)
        · skip
          exact k247 _ _ ev
        · skip
          cases c180
  have et2 : gI (sI (sI h am_placed j (nI k)) am_value j (nI 0)) am_tape = gI h am_tape := funext fun i => by rw [gI_ne _ _ _ _ (by decide), gI_ne _ _ _ _ (by decide)]
  have W2 : WD (sI (sI h am_placed j (nI k)) am_value j (nI 0)) := fun i hi => by rw [gI_ne _ _ _ _ (by decide), gI_ne _ _ _ _ (by decide)]; exact W i hi
  have fin : ∀ (x : Int32), x = nI (tkC (gI h am_tape) (k, e)) → Rp (d + 1) M_X12_splits 166 [some (.ref aM), some (.int (nI L)), some (.int (nI k)), some (.int (gI h am_tape k)), some (.int (nI e)), a5] [] (sI (sI (sI h am_placed j (nI k)) am_value j (nI 0)) am_code j x) P := by
    intro x hx
    rw [hx, sI_comm _ (by decide)]
    exact k166 _
  by_cases hs : isSm (gI h am_tape k) = true
  · have ec : tkC (gI h am_tape) (k, e) = fiW W29 (sl (gI h am_tape) k (e - k)) 1 := if_pos hs
    have q := s_wordOf d (h := sI (sI h am_placed j (nI k)) am_value j (nI 0)) S R W2 (show k ≤ e by omega) (show e ≤ 400 by omega)
    rw [et2] at q
    refine Rp.aload_n dX12_splits_100 rfl rfl ?_
    refine Rp.getR dX12_splits_101 fk_X12_56 rfl (S _ _ rfl) (R _ _ _ rfl) ?_
    refine Rp.aload_n dX12_splits_104 rfl rfl ?_
    refine Rp.getI dX12_splits_105 fk_X12_180 rfl (S _ _ rfl) ?_
    first | rw [hk] | rw [t1] | rw [t2] | skip
    refine Rp.iload_n dX12_splits_108 rfl ?_
    first | ((with_reducible show Rp _ _ _ _ (_ :: .int (nI _) :: _) _ _); refine Rp.iastoreN dX12_splits_109 (S _ _ rfl) (by omega) ?_) | refine Rp.iastore dX12_splits_109 (S _ _ rfl) (by first | assumption | exact vpb (by decide)) ?_
    refine Rp.aload_n dX12_splits_110 rfl rfl ?_
    refine Rp.getR dX12_splits_111 fk_X12_53 rfl (S _ _ rfl) (R _ _ _ rfl) ?_
    refine Rp.aload_n dX12_splits_114 rfl rfl ?_
    refine Rp.getI dX12_splits_115 fk_X12_180 rfl (S _ _ rfl) ?_
    first | rw [hk] | rw [t1] | rw [t2] | skip
    refine Rp.iconst (nI 0) dX12_splits_118 (by decide) ?_
    first | ((with_reducible show Rp _ _ _ _ (_ :: .int (nI _) :: _) _ _); refine Rp.iastoreN dX12_splits_119 (S _ _ rfl) (by omega) ?_) | refine Rp.iastore dX12_splits_119 (S _ _ rfl) (by first | assumption | exact vpb (by decide)) ?_
    refine Rp.aload_n dX12_splits_120 rfl rfl ?_
    refine Rp.getR dX12_splits_121 fk_X12_50 rfl (S _ _ rfl) (R _ _ _ rfl) ?_
    refine Rp.aload_n dX12_splits_124 rfl rfl ?_
    refine Rp.getI dX12_splits_125 fk_X12_180 rfl (S _ _ rfl) ?_
    first | rw [hk] | rw [t1] | rw [t2] | skip
    refine Rp.iload_n dX12_splits_128 rfl ?_
    refine Rp.callS1 M_X12_isSmall dX12_splits_129 mo_X12_isSmall lk_X12_183 (Nat.le_of_ble_eq_true rfl) (Nat.le_of_ble_eq_true rfl) (s_isSmall d (gI h am_tape k)) (fun v1 h1 p1 x1 => ?_)
    rw [p1.1, p1.2, hs]
    try dsimp only [Option.toList, List.cons_append, List.nil_append, List.append]
    first | ((with_reducible show Rp _ _ _ _ (.int (b2i _) :: _) _ _); refine Rp.if_eqB (tgt := 145) dX12_splits_132 (by decide) (fun c132 => ?_) (fun c132 => ?_)) | ((with_reducible show Rp _ _ _ _ (.int (nI _) :: _) _ _); refine Rp.if_eqN (tgt := 145) dX12_splits_132 (by decide) (by omega) (fun c132 => ?_) (fun c132 => ?_)) | refine Rp.if_eq (tgt := 145) dX12_splits_132 (by decide) (fun c132 => ?_) (fun c132 => ?_)
    · skip
      cases c132
    · skip
      refine Rp.aload_n dX12_splits_135 rfl rfl ?_
      refine Rp.iload_n dX12_splits_136 rfl ?_
      refine Rp.iload dX12_splits_137 rfl ?_
      refine Rp.callV2 M_X12_wordOf (ci := 12) dX12_splits_139 mo_X12_wordOf lk_X12_189 (by decide) rfl rfl (S _ _ rfl) (Nat.le_of_ble_eq_true rfl) (Nat.le_of_ble_eq_true rfl) (q) (fun v1 h1 p1 x1 => ?_)
      rw [p1.1, p1.2]
      try dsimp only [Option.toList, List.cons_append, List.nil_append, List.append]
      refine Rp.goto (tgt := 165) dX12_splits_142 (by decide) ?_
      first | ((with_reducible show Rp _ _ _ _ (_ :: .int (nI _) :: _) _ _); refine Rp.iastoreN dX12_splits_165 (S _ _ rfl) (by omega) ?_) | refine Rp.iastore dX12_splits_165 (S _ _ rfl) (by first | assumption | exact vpb (by decide)) ?_
      exact fin _ (by rw [ec])
  · have hs2 : isSm (gI h am_tape k) = false := Bool.eq_false_iff.mpr hs
    by_cases hd : isDg (gI h am_tape k) = true
    · have ec : tkC (gI h am_tape) (k, e) = 50 := by unfold tkC; rw [if_neg hs, if_pos hd]
      refine Rp.aload_n dX12_splits_100 rfl rfl ?_
      refine Rp.getR dX12_splits_101 fk_X12_56 rfl (S _ _ rfl) (R _ _ _ rfl) ?_
      refine Rp.aload_n dX12_splits_104 rfl rfl ?_
      refine Rp.getI dX12_splits_105 fk_X12_180 rfl (S _ _ rfl) ?_
      first | rw [hk] | rw [t1] | rw [t2] | skip
      refine Rp.iload_n dX12_splits_108 rfl ?_
      first | ((with_reducible show Rp _ _ _ _ (_ :: .int (nI _) :: _) _ _); refine Rp.iastoreN dX12_splits_109 (S _ _ rfl) (by omega) ?_) | refine Rp.iastore dX12_splits_109 (S _ _ rfl) (by first | assumption | exact vpb (by decide)) ?_
      refine Rp.aload_n dX12_splits_110 rfl rfl ?_
      refine Rp.getR dX12_splits_111 fk_X12_53 rfl (S _ _ rfl) (R _ _ _ rfl) ?_
      refine Rp.aload_n dX12_splits_114 rfl rfl ?_
      refine Rp.getI dX12_splits_115 fk_X12_180 rfl (S _ _ rfl) ?_
      first | rw [hk] | rw [t1] | rw [t2] | skip
      refine Rp.iconst (nI 0) dX12_splits_118 (by decide) ?_
      first | ((with_reducible show Rp _ _ _ _ (_ :: .int (nI _) :: _) _ _); refine Rp.iastoreN dX12_splits_119 (S _ _ rfl) (by omega) ?_) | refine Rp.iastore dX12_splits_119 (S _ _ rfl) (by first | assumption | exact vpb (by decide)) ?_
      refine Rp.aload_n dX12_splits_120 rfl rfl ?_
      refine Rp.getR dX12_splits_121 fk_X12_50 rfl (S _ _ rfl) (R _ _ _ rfl) ?_
      refine Rp.aload_n dX12_splits_124 rfl rfl ?_
      refine Rp.getI dX12_splits_125 fk_X12_180 rfl (S _ _ rfl) ?_
      first | rw [hk] | rw [t1] | rw [t2] | skip
      refine Rp.iload_n dX12_splits_128 rfl ?_
      refine Rp.callS1 M_X12_isSmall dX12_splits_129 mo_X12_isSmall lk_X12_183 (Nat.le_of_ble_eq_true rfl) (Nat.le_of_ble_eq_true rfl) (s_isSmall d (gI h am_tape k)) (fun v1 h1 p1 x1 => ?_)
      rw [p1.1, p1.2, hs2]
      try dsimp only [Option.toList, List.cons_append, List.nil_append, List.append]
      first | ((with_reducible show Rp _ _ _ _ (.int (b2i _) :: _) _ _); refine Rp.if_eqB (tgt := 145) dX12_splits_132 (by decide) (fun c132 => ?_) (fun c132 => ?_)) | ((with_reducible show Rp _ _ _ _ (.int (nI _) :: _) _ _); refine Rp.if_eqN (tgt := 145) dX12_splits_132 (by decide) (by omega) (fun c132 => ?_) (fun c132 => ?_)) | refine Rp.if_eq (tgt := 145) dX12_splits_132 (by decide) (fun c132 => ?_) (fun c132 => ?_)
      · skip
        refine Rp.iload_n dX12_splits_145 rfl ?_
        refine Rp.callS1 M_X12_isDigit dX12_splits_146 mo_X12_isDigit lk_X12_186 (Nat.le_of_ble_eq_true rfl) (Nat.le_of_ble_eq_true rfl) (s_isDigit d (gI h am_tape k)) (fun v1 h1 p1 x1 => ?_)
        rw [p1.1, p1.2, hd]
        try dsimp only [Option.toList, List.cons_append, List.nil_append, List.append]
        first | ((with_reducible show Rp _ _ _ _ (.int (b2i _) :: _) _ _); refine Rp.if_eqB (tgt := 157) dX12_splits_149 (by decide) (fun c149 => ?_) (fun c149 => ?_)) | ((with_reducible show Rp _ _ _ _ (.int (nI _) :: _) _ _); refine Rp.if_eqN (tgt := 157) dX12_splits_149 (by decide) (by omega) (fun c149 => ?_) (fun c149 => ?_)) | refine Rp.if_eq (tgt := 157) dX12_splits_149 (by decide) (fun c149 => ?_) (fun c149 => ?_)
        · skip
          cases c149
        · skip
          refine Rp.bipush (nI 50) dX12_splits_152 (by decide) ?_
          refine Rp.goto (tgt := 165) dX12_splits_154 (by decide) ?_
          first | ((with_reducible show Rp _ _ _ _ (_ :: .int (nI _) :: _) _ _); refine Rp.iastoreN dX12_splits_165 (S _ _ rfl) (by omega) ?_) | refine Rp.iastore dX12_splits_165 (S _ _ rfl) (by first | assumption | exact vpb (by decide)) ?_
          exact fin _ (by rw [ec])
      · skip
        cases c132
    · have hd2 : isDg (gI h am_tape k) = false := Bool.eq_false_iff.mpr hd
      have ec : tkC (gI h am_tape) (k, e) = 100 + ub (gI h am_tape k) := by unfold tkC; rw [if_neg hs, if_neg hd]
      have eu := (ub_lt (gI h am_tape k)).2
      refine Rp.aload_n dX12_splits_100 rfl rfl ?_
      refine Rp.getR dX12_splits_101 fk_X12_56 rfl (S _ _ rfl) (R _ _ _ rfl) ?_
      refine Rp.aload_n dX12_splits_104 rfl rfl ?_
      refine Rp.getI dX12_splits_105 fk_X12_180 rfl (S _ _ rfl) ?_
      first | rw [hk] | rw [t1] | rw [t2] | skip
      refine Rp.iload_n dX12_splits_108 rfl ?_
      first | ((with_reducible show Rp _ _ _ _ (_ :: .int (nI _) :: _) _ _); refine Rp.iastoreN dX12_splits_109 (S _ _ rfl) (by omega) ?_) | refine Rp.iastore dX12_splits_109 (S _ _ rfl) (by first | assumption | exact vpb (by decide)) ?_
      refine Rp.aload_n dX12_splits_110 rfl rfl ?_
      refine Rp.getR dX12_splits_111 fk_X12_53 rfl (S _ _ rfl) (R _ _ _ rfl) ?_
      refine Rp.aload_n dX12_splits_114 rfl rfl ?_
      refine Rp.getI dX12_splits_115 fk_X12_180 rfl (S _ _ rfl) ?_
      first | rw [hk] | rw [t1] | rw [t2] | skip
      refine Rp.iconst (nI 0) dX12_splits_118 (by decide) ?_
      first | ((with_reducible show Rp _ _ _ _ (_ :: .int (nI _) :: _) _ _); refine Rp.iastoreN dX12_splits_119 (S _ _ rfl) (by omega) ?_) | refine Rp.iastore dX12_splits_119 (S _ _ rfl) (by first | assumption | exact vpb (by decide)) ?_
      refine Rp.aload_n dX12_splits_120 rfl rfl ?_
      refine Rp.getR dX12_splits_121 fk_X12_50 rfl (S _ _ rfl) (R _ _ _ rfl) ?_
      refine Rp.aload_n dX12_splits_124 rfl rfl ?_
      refine Rp.getI dX12_splits_125 fk_X12_180 rfl (S _ _ rfl) ?_
      first | rw [hk] | rw [t1] | rw [t2] | skip
      refine Rp.iload_n dX12_splits_128 rfl ?_
      refine Rp.callS1 M_X12_isSmall dX12_splits_129 mo_X12_isSmall lk_X12_183 (Nat.le_of_ble_eq_true rfl) (Nat.le_of_ble_eq_true rfl) (s_isSmall d (gI h am_tape k)) (fun v1 h1 p1 x1 => ?_)
      rw [p1.1, p1.2, hs2]
      try dsimp only [Option.toList, List.cons_append, List.nil_append, List.append]
      first | ((with_reducible show Rp _ _ _ _ (.int (b2i _) :: _) _ _); refine Rp.if_eqB (tgt := 145) dX12_splits_132 (by decide) (fun c132 => ?_) (fun c132 => ?_)) | ((with_reducible show Rp _ _ _ _ (.int (nI _) :: _) _ _); refine Rp.if_eqN (tgt := 145) dX12_splits_132 (by decide) (by omega) (fun c132 => ?_) (fun c132 => ?_)) | refine Rp.if_eq (tgt := 145) dX12_splits_132 (by decide) (fun c132 => ?_) (fun c132 => ?_)
      · skip
        refine Rp.iload_n dX12_splits_145 rfl ?_
        refine Rp.callS1 M_X12_isDigit dX12_splits_146 mo_X12_isDigit lk_X12_186 (Nat.le_of_ble_eq_true rfl) (Nat.le_of_ble_eq_true rfl) (s_isDigit d (gI h am_tape k)) (fun v1 h1 p1 x1 => ?_)
        rw [p1.1, p1.2, hd2]
        try dsimp only [Option.toList, List.cons_append, List.nil_append, List.append]
        first | ((with_reducible show Rp _ _ _ _ (.int (b2i _) :: _) _ _); refine Rp.if_eqB (tgt := 157) dX12_splits_149 (by decide) (fun c149 => ?_) (fun c149 => ?_)) | ((with_reducible show Rp _ _ _ _ (.int (nI _) :: _) _ _); refine Rp.if_eqN (tgt := 157) dX12_splits_149 (by decide) (by omega) (fun c149 => ?_) (fun c149 => ?_)) | refine Rp.if_eq (tgt := 157) dX12_splits_149 (by decide) (fun c149 => ?_) (fun c149 => ?_)
        · skip
          refine Rp.bipush (nI 100) dX12_splits_157 (by decide) ?_
          refine Rp.iload_n dX12_splits_159 rfl ?_
          refine Rp.sipush (nI 255) dX12_splits_160 (by decide) ?_
          refine Rp.iand dX12_splits_163 ?_
          rw [eu]
          first | ((with_reducible show Rp _ _ _ _ (.int (nI _) :: .int (nI _) :: _) _ _); refine Rp.iaddN dX12_splits_164 ?_) | refine Rp.iadd dX12_splits_164 ?_
          first | ((with_reducible show Rp _ _ _ _ (_ :: .int (nI _) :: _) _ _); refine Rp.iastoreN dX12_splits_165 (S _ _ rfl) (by omega) ?_) | refine Rp.iastore dX12_splits_165 (S _ _ rfl) (by first | assumption | exact vpb (by decide)) ?_
          exact fin _ (by rw [ec])
        · skip
          cases c149
      · skip
        cases c132
theorem runE_all (p : Int32 → Bool) (tb : Nat → Int32) (L : Nat) : ∀ m k i, k ≤ i → i < runE p tb L m k → p (tb i) = true
  | 0, k, i, h1, h2 => absurd h2 (by show ¬ i < k; omega)
  | m + 1, k, i, h1, h2 => by
    rw [runE] at h2
    by_cases hq : k < L ∧ p (tb k) = true
    · rw [if_pos hq] at h2
      by_cases hi : i = k
      · rw [hi]; exact hq.2
      · exact runE_all p tb L m (k + 1) i (by omega) h2
    · rw [if_neg hq] at h2; omega
theorem isDg_48 {b : Int32} (h : isDg b = true) : 48 ≤ b.toInt ∧ b.toInt ≤ 57 := by
  unfold isDg at h
  rw [decide_eq_true_eq] at h
  simp only [i32_le] at h
  have e1 : (nI 48).toInt = 48 := rfl
  have e2 : (nI 57).toInt = 57 := rfl
  omega
theorem isSm_97 {b : Int32} (h : isSm b = true) : 97 ≤ b.toInt ∧ b.toInt ≤ 122 := by
  unfold isSm at h
  rw [decide_eq_true_eq] at h
  simp only [i32_le] at h
  have e1 : (nI 97).toInt = 97 := rfl
  have e2 : (nI 122).toInt = 122 := rfl
  omega
theorem split7 (S0 : ShOK h) (R0 : RfOK h) (W0 : WD h) {L : Nat} (hL : L ≤ 400) (hb : ∀ i, (gI h am_tape i).toInt ≤ 127) {TL : List (Nat × Nat)} : ∀ (m k j : Nat) (g : AH) (a3 a4 a5 : Option Value) (done : List (Nat × Nat)), L - k ≤ m → k ≤ L → done.length = j → j ≤ k → TL = done ++ toks (gI h am_tape) L m k → SpI h g (gI h am_tape) L TL j → Rp (d + 1) M_X12_splits 7 [some (.ref aM), some (.int (nI L)), some (.int (nI k)), a3, a4, a5] [] g (fun r h' => r = none ∧ SpE h (gI h am_tape) L TL h') := by
  intro m
  induction m with
  | zero =>
    intro k j g a3 a4 a5 done hm hk hdn hjk hTL I
    have S := I.1.S S0
    have R := I.1.R R0 (by decide)
    have hl : TL.length = j := by rw [hTL, List.length_append, hdn]; rfl
    rw [← hl] at I
    refine Rp.iload_n dX12_splits_7 rfl ?_
    refine Rp.iload_n dX12_splits_8 rfl ?_
    first | ((with_reducible show Rp _ _ _ _ (.int (nI _) :: .int (nI _) :: _) _ _); refine Rp.icmp_geN (tgt := 263) dX12_splits_9 (by decide) (by omega) (fun c9 => ?_) (fun c9 => ?_)) | refine Rp.icmp_ge (tgt := 263) dX12_splits_9 (by decide) (fun c9 => ?_) (fun c9 => ?_)
    · skip
      exact split263 d S0 R0 (by omega) I _ _ _ _
    · skip
      first | (exfalso; omega) | exact absurd c9 (by decide) | exact absurd (by decide) c9
  | succ m ih =>
    intro k j g a3 a4 a5 done hm hk hdn hjk hTL I
    have S := I.1.S S0
    have R := I.1.R R0 (by decide)
    have et : gI g am_tape = gI h am_tape := funext fun i => I.1.I 107 i rfl
    have W : WD g := fun i hi => by rw [I.1.I 106 i rfl]; exact W0 i hi
    rw [toks] at hTL
    by_cases hkL : k < L
    · rw [if_pos hkL] at hTL
      by_cases h32 : gI h am_tape k = 32
      · rw [if_pos h32] at hTL
        have h32g : gI g am_tape k = 32 := by rw [et]; exact h32
        refine Rp.iload_n dX12_splits_7 rfl ?_
        refine Rp.iload_n dX12_splits_8 rfl ?_
        first | ((with_reducible show Rp _ _ _ _ (.int (nI _) :: .int (nI _) :: _) _ _); refine Rp.icmp_geN (tgt := 263) dX12_splits_9 (by decide) (by omega) (fun c9 => ?_) (fun c9 => ?_)) | refine Rp.icmp_ge (tgt := 263) dX12_splits_9 (by decide) (fun c9 => ?_) (fun c9 => ?_)
        · skip
          first | (exfalso; omega) | exact absurd c9 (by decide) | exact absurd (by decide) c9
        · skip
          refine Rp.aload_n dX12_splits_12 rfl rfl ?_
          refine Rp.getR dX12_splits_13 fk_X12_41 rfl (S _ _ rfl) (R _ _ _ rfl) ?_
          refine Rp.iload_n dX12_splits_16 rfl ?_
          first | ((with_reducible show Rp _ _ _ _ (.int (nI _) :: _) _ _); refine Rp.baloadN dX12_splits_17 (S _ _ rfl) (by omega) ?_) | refine Rp.baload dX12_splits_17 (S _ _ rfl) (by first | assumption | exact vpb (by decide)) ?_
          refine Rp.ist3 dX12_splits_18 (by first | exact nl2_some rfl | exact nl2_none) (by decide) ?_
          refine Rp.iload_n dX12_splits_19 rfl ?_
          refine Rp.bipush (nI 32) dX12_splits_20 (by decide) ?_
          first | ((with_reducible show Rp _ _ _ _ (.int (nI _) :: .int (nI _) :: _) _ _); refine Rp.icmp_neN (tgt := 31) dX12_splits_22 (by decide) (by omega) (fun c22 => ?_) (fun c22 => ?_)) | refine Rp.icmp_ne (tgt := 31) dX12_splits_22 (by decide) (fun c22 => ?_) (fun c22 => ?_)
          · skip
            exact absurd h32g c22
          · skip
            first | ((with_reducible show Rp _ _ _ (_ :: _ :: some (.int (nI _)) :: _) _ _ _); refine Rp.inc2N (c := 1) dX12_splits_25 (by first | exact nl2_some rfl | exact nl2_none) (by decide) ?_) | refine Rp.inc2 _ dX12_splits_25 rfl (by first | exact nl2_some rfl | exact nl2_none) (by decide) ?_
            refine Rp.goto (tgt := 7) dX12_splits_28 (by decide) ?_
            exact ih (k + 1) j g _ _ _ done (by omega) (by omega) hdn (by omega) hTL I
      · rw [if_neg h32] at hTL
        have h32g : ¬ gI g am_tape k = 32 := by rw [et]; exact h32
        have hq : TL[j]? = some (k, tokE (gI h am_tape) L k) := by rw [hTL, List.getElem?_append_right (by omega), hdn, Nat.sub_self]; rfl
        have hte := tokE_bnd (gI h am_tape) L k hkL
        have I2 := SpI_step I hq
        have next : ∀ a3 a4 a5, Rp (d + 1) M_X12_splits 7 [some (.ref aM), some (.int (nI L)), some (.int (nI (tokE (gI h am_tape) L k))), a3, a4, a5] [] (sI (sI (sI (sI g am_placed j (nI k)) am_code j (nI (tkC (gI h am_tape) (k, tokE (gI h am_tape) L k)))) am_value j (nI (tkV (gI h am_tape) (k, tokE (gI h am_tape) L k)))) aM fm_tokens (nI (j + 1))) (fun r h' => r = none ∧ SpE h (gI h am_tape) L TL h') := fun a3 a4 a5 => ih (tokE (gI h am_tape) L k) (j + 1) _ a3 a4 a5 (done ++ [(k, tokE (gI h am_tape) L k)]) (by omega) hte.2 (by rw [List.length_append, hdn]; rfl) (by omega) (by rw [List.append_assoc]; exact hTL) I2
        have c100 : ∀ a5, Rp (d + 1) M_X12_splits 100 [some (.ref aM), some (.int (nI L)), some (.int (nI k)), some (.int (gI g am_tape k)), some (.int (nI (tokE (gI h am_tape) L k))), a5] [] g (fun r h' => r = none ∧ SpE h (gI h am_tape) L TL h') := fun a5 => split100 d S R W hL hte.1 hte.2 (by omega) (by rw [et]; exact hb) (by
            rw [et]
            intro hd i h1 h2
            by_cases hi : i = k
            · rw [hi]; exact (isDg_48 hd).1
            · have hns : ¬ isSm (gI h am_tape k) = true := fun z => by have := (isSm_97 z).1; have := (isDg_48 hd).2; omega
              have e : tokE (gI h am_tape) L k = runE isDg (gI h am_tape) L (L - (k + 1)) (k + 1) := by unfold tokE; rw [if_neg hns, if_pos hd]
              rw [e] at h2
              exact (isDg_48 (runE_all _ _ _ _ _ _ (by omega) h2)).1) I.2.1 a5 (by rw [et]; exact fun l5 => next _ _ l5)
        by_cases hs : isSm (gI h am_tape k) = true
        · have e : tokE (gI h am_tape) L k = runE isSm (gI h am_tape) L (L - (k + 1)) (k + 1) := by unfold tokE; rw [if_pos hs]
          have hsg : isSm (gI g am_tape k) = true := by rw [et]; exact hs
          have hnd : isDg (gI g am_tape k) = false := Bool.eq_false_iff.mpr (fun z => by have := (isSm_97 hsg).1; have := (isDg_48 z).2; omega)
          have c68 : ∀ a5, Rp (d + 1) M_X12_splits 68 [some (.ref aM), some (.int (nI L)), some (.int (nI k)), some (.int (gI g am_tape k)), some (.int (nI (tokE (gI h am_tape) L k))), a5] [] g (fun r h' => r = none ∧ SpE h (gI h am_tape) L TL h') := by
            intro a5
            refine Rp.iload_n dX12_splits_68 rfl ?_
            refine Rp.callS1 M_X12_isDigit dX12_splits_69 mo_X12_isDigit lk_X12_186 (Nat.le_of_ble_eq_true rfl) (Nat.le_of_ble_eq_true rfl) (s_isDigit d (gI g am_tape k)) (fun v1 h1 p1 x1 => ?_)
            rw [p1.1, p1.2, hnd]
            try dsimp only [Option.toList, List.cons_append, List.nil_append, List.append]
            first | ((with_reducible show Rp _ _ _ _ (.int (b2i _) :: _) _ _); refine Rp.if_eqB (tgt := 100) dX12_splits_72 (by decide) (fun c72 => ?_) (fun c72 => ?_)) | ((with_reducible show Rp _ _ _ _ (.int (nI _) :: _) _ _); refine Rp.if_eqN (tgt := 100) dX12_splits_72 (by decide) (by omega) (fun c72 => ?_) (fun c72 => ?_)) | refine Rp.if_eq (tgt := 100) dX12_splits_72 (by decide) (fun c72 => ?_) (fun c72 => ?_)
            · skip
              exact c100 _
            · skip
              cases c72
          refine Rp.iload_n dX12_splits_7 rfl ?_
          refine Rp.iload_n dX12_splits_8 rfl ?_
          first | ((with_reducible show Rp _ _ _ _ (.int (nI _) :: .int (nI _) :: _) _ _); refine Rp.icmp_geN (tgt := 263) dX12_splits_9 (by decide) (by omega) (fun c9 => ?_) (fun c9 => ?_)) | refine Rp.icmp_ge (tgt := 263) dX12_splits_9 (by decide) (fun c9 => ?_) (fun c9 => ?_)
          · skip
            first | (exfalso; omega) | exact absurd c9 (by decide) | exact absurd (by decide) c9
          · skip
            refine Rp.aload_n dX12_splits_12 rfl rfl ?_
            refine Rp.getR dX12_splits_13 fk_X12_41 rfl (S _ _ rfl) (R _ _ _ rfl) ?_
            refine Rp.iload_n dX12_splits_16 rfl ?_
            first | ((with_reducible show Rp _ _ _ _ (.int (nI _) :: _) _ _); refine Rp.baloadN dX12_splits_17 (S _ _ rfl) (by omega) ?_) | refine Rp.baload dX12_splits_17 (S _ _ rfl) (by first | assumption | exact vpb (by decide)) ?_
            refine Rp.ist3 dX12_splits_18 (by first | exact nl2_some rfl | exact nl2_none) (by decide) ?_
            refine Rp.iload_n dX12_splits_19 rfl ?_
            refine Rp.bipush (nI 32) dX12_splits_20 (by decide) ?_
            first | ((with_reducible show Rp _ _ _ _ (.int (nI _) :: .int (nI _) :: _) _ _); refine Rp.icmp_neN (tgt := 31) dX12_splits_22 (by decide) (by omega) (fun c22 => ?_) (fun c22 => ?_)) | refine Rp.icmp_ne (tgt := 31) dX12_splits_22 (by decide) (fun c22 => ?_) (fun c22 => ?_)
            · skip
              refine Rp.iload_n dX12_splits_31 rfl ?_
              refine Rp.iconst (nI 1) dX12_splits_32 (by decide) ?_
              first | ((with_reducible show Rp _ _ _ _ (.int (nI _) :: .int (nI _) :: _) _ _); refine Rp.iaddN dX12_splits_33 ?_) | refine Rp.iadd dX12_splits_33 ?_
              refine Rp.ist4 dX12_splits_34 (by first | exact nl2_some rfl | exact nl2_none) (by decide) ?_
              refine Rp.iload_n dX12_splits_36 rfl ?_
              refine Rp.callS1 M_X12_isSmall dX12_splits_37 mo_X12_isSmall lk_X12_183 (Nat.le_of_ble_eq_true rfl) (Nat.le_of_ble_eq_true rfl) (s_isSmall d (gI g am_tape k)) (fun v1 h1 p1 x1 => ?_)
              rw [p1.1, p1.2, hsg]
              try dsimp only [Option.toList, List.cons_append, List.nil_append, List.append]
              first | ((with_reducible show Rp _ _ _ _ (.int (b2i _) :: _) _ _); refine Rp.if_eqB (tgt := 68) dX12_splits_40 (by decide) (fun c40 => ?_) (fun c40 => ?_)) | ((with_reducible show Rp _ _ _ _ (.int (nI _) :: _) _ _); refine Rp.if_eqN (tgt := 68) dX12_splits_40 (by decide) (by omega) (fun c40 => ?_) (fun c40 => ?_)) | refine Rp.if_eq (tgt := 68) dX12_splits_40 (by decide) (fun c40 => ?_) (fun c40 => ?_)
              · skip
                cases c40
              · skip
                exact split43 d S R hL _ _ _ (c68 _) (L - (k + 1)) (k + 1) (by omega) (by rw [et]; exact e.symm)
            · skip
              exact absurd c22 h32g
        · have hsg : isSm (gI g am_tape k) = false := by rw [et]; exact Bool.eq_false_iff.mpr hs
          by_cases hd : isDg (gI h am_tape k) = true
          · have e : tokE (gI h am_tape) L k = runE isDg (gI h am_tape) L (L - (k + 1)) (k + 1) := by unfold tokE; rw [if_neg hs, if_pos hd]
            have hdg : isDg (gI g am_tape k) = true := by rw [et]; exact hd
            refine Rp.iload_n dX12_splits_7 rfl ?_
            refine Rp.iload_n dX12_splits_8 rfl ?_
            first | ((with_reducible show Rp _ _ _ _ (.int (nI _) :: .int (nI _) :: _) _ _); refine Rp.icmp_geN (tgt := 263) dX12_splits_9 (by decide) (by omega) (fun c9 => ?_) (fun c9 => ?_)) | refine Rp.icmp_ge (tgt := 263) dX12_splits_9 (by decide) (fun c9 => ?_) (fun c9 => ?_)
            · skip
              first | (exfalso; omega) | exact absurd c9 (by decide) | exact absurd (by decide) c9
            · skip
              refine Rp.aload_n dX12_splits_12 rfl rfl ?_
              refine Rp.getR dX12_splits_13 fk_X12_41 rfl (S _ _ rfl) (R _ _ _ rfl) ?_
              refine Rp.iload_n dX12_splits_16 rfl ?_
              first | ((with_reducible show Rp _ _ _ _ (.int (nI _) :: _) _ _); refine Rp.baloadN dX12_splits_17 (S _ _ rfl) (by omega) ?_) | refine Rp.baload dX12_splits_17 (S _ _ rfl) (by first | assumption | exact vpb (by decide)) ?_
              refine Rp.ist3 dX12_splits_18 (by first | exact nl2_some rfl | exact nl2_none) (by decide) ?_
              refine Rp.iload_n dX12_splits_19 rfl ?_
              refine Rp.bipush (nI 32) dX12_splits_20 (by decide) ?_
              first | ((with_reducible show Rp _ _ _ _ (.int (nI _) :: .int (nI _) :: _) _ _); refine Rp.icmp_neN (tgt := 31) dX12_splits_22 (by decide) (by omega) (fun c22 => ?_) (fun c22 => ?_)) | refine Rp.icmp_ne (tgt := 31) dX12_splits_22 (by decide) (fun c22 => ?_) (fun c22 => ?_)
              · skip
                refine Rp.iload_n dX12_splits_31 rfl ?_
                refine Rp.iconst (nI 1) dX12_splits_32 (by decide) ?_
                first | ((with_reducible show Rp _ _ _ _ (.int (nI _) :: .int (nI _) :: _) _ _); refine Rp.iaddN dX12_splits_33 ?_) | refine Rp.iadd dX12_splits_33 ?_
                refine Rp.ist4 dX12_splits_34 (by first | exact nl2_some rfl | exact nl2_none) (by decide) ?_
                refine Rp.iload_n dX12_splits_36 rfl ?_
                refine Rp.callS1 M_X12_isSmall dX12_splits_37 mo_X12_isSmall lk_X12_183 (Nat.le_of_ble_eq_true rfl) (Nat.le_of_ble_eq_true rfl) (s_isSmall d (gI g am_tape k)) (fun v1 h1 p1 x1 => ?_)
                rw [p1.1, p1.2, hsg]
                try dsimp only [Option.toList, List.cons_append, List.nil_append, List.append]
                first | ((with_reducible show Rp _ _ _ _ (.int (b2i _) :: _) _ _); refine Rp.if_eqB (tgt := 68) dX12_splits_40 (by decide) (fun c40 => ?_) (fun c40 => ?_)) | ((with_reducible show Rp _ _ _ _ (.int (nI _) :: _) _ _); refine Rp.if_eqN (tgt := 68) dX12_splits_40 (by decide) (by omega) (fun c40 => ?_) (fun c40 => ?_)) | refine Rp.if_eq (tgt := 68) dX12_splits_40 (by decide) (fun c40 => ?_) (fun c40 => ?_)
                · skip
                  refine Rp.iload_n dX12_splits_68 rfl ?_
                  refine Rp.callS1 M_X12_isDigit dX12_splits_69 mo_X12_isDigit lk_X12_186 (Nat.le_of_ble_eq_true rfl) (Nat.le_of_ble_eq_true rfl) (s_isDigit d (gI g am_tape k)) (fun v1 h1 p1 x1 => ?_)
                  rw [p1.1, p1.2, hdg]
                  try dsimp only [Option.toList, List.cons_append, List.nil_append, List.append]
                  first | ((with_reducible show Rp _ _ _ _ (.int (b2i _) :: _) _ _); refine Rp.if_eqB (tgt := 100) dX12_splits_72 (by decide) (fun c72 => ?_) (fun c72 => ?_)) | ((with_reducible show Rp _ _ _ _ (.int (nI _) :: _) _ _); refine Rp.if_eqN (tgt := 100) dX12_splits_72 (by decide) (by omega) (fun c72 => ?_) (fun c72 => ?_)) | refine Rp.if_eq (tgt := 100) dX12_splits_72 (by decide) (fun c72 => ?_) (fun c72 => ?_)
                  · skip
                    cases c72
                  · skip
                    exact split75 d S R hL _ _ _ (c100 _) (L - (k + 1)) (k + 1) (by omega) (by rw [et]; exact e.symm)
                · skip
                  cases c40
              · skip
                exact absurd c22 h32g
          · have e : tokE (gI h am_tape) L k = k + 1 := by unfold tokE; rw [if_neg hs, if_neg hd]
            have hdg : isDg (gI g am_tape k) = false := by rw [et]; exact Bool.eq_false_iff.mpr hd
            rw [e] at c100
            refine Rp.iload_n dX12_splits_7 rfl ?_
            refine Rp.iload_n dX12_splits_8 rfl ?_
            first | ((with_reducible show Rp _ _ _ _ (.int (nI _) :: .int (nI _) :: _) _ _); refine Rp.icmp_geN (tgt := 263) dX12_splits_9 (by decide) (by omega) (fun c9 => ?_) (fun c9 => ?_)) | refine Rp.icmp_ge (tgt := 263) dX12_splits_9 (by decide) (fun c9 => ?_) (fun c9 => ?_)
            · skip
              first | (exfalso; omega) | exact absurd c9 (by decide) | exact absurd (by decide) c9
            · skip
              refine Rp.aload_n dX12_splits_12 rfl rfl ?_
              refine Rp.getR dX12_splits_13 fk_X12_41 rfl (S _ _ rfl) (R _ _ _ rfl) ?_
              refine Rp.iload_n dX12_splits_16 rfl ?_
              first | ((with_reducible show Rp _ _ _ _ (.int (nI _) :: _) _ _); refine Rp.baloadN dX12_splits_17 (S _ _ rfl) (by omega) ?_) | refine Rp.baload dX12_splits_17 (S _ _ rfl) (by first | assumption | exact vpb (by decide)) ?_
              refine Rp.ist3 dX12_splits_18 (by first | exact nl2_some rfl | exact nl2_none) (by decide) ?_
              refine Rp.iload_n dX12_splits_19 rfl ?_
              refine Rp.bipush (nI 32) dX12_splits_20 (by decide) ?_
              first | ((with_reducible show Rp _ _ _ _ (.int (nI _) :: .int (nI _) :: _) _ _); refine Rp.icmp_neN (tgt := 31) dX12_splits_22 (by decide) (by omega) (fun c22 => ?_) (fun c22 => ?_)) | refine Rp.icmp_ne (tgt := 31) dX12_splits_22 (by decide) (fun c22 => ?_) (fun c22 => ?_)
              · skip
                refine Rp.iload_n dX12_splits_31 rfl ?_
                refine Rp.iconst (nI 1) dX12_splits_32 (by decide) ?_
                first | ((with_reducible show Rp _ _ _ _ (.int (nI _) :: .int (nI _) :: _) _ _); refine Rp.iaddN dX12_splits_33 ?_) | refine Rp.iadd dX12_splits_33 ?_
                refine Rp.ist4 dX12_splits_34 (by first | exact nl2_some rfl | exact nl2_none) (by decide) ?_
                refine Rp.iload_n dX12_splits_36 rfl ?_
                refine Rp.callS1 M_X12_isSmall dX12_splits_37 mo_X12_isSmall lk_X12_183 (Nat.le_of_ble_eq_true rfl) (Nat.le_of_ble_eq_true rfl) (s_isSmall d (gI g am_tape k)) (fun v1 h1 p1 x1 => ?_)
                rw [p1.1, p1.2, hsg]
                try dsimp only [Option.toList, List.cons_append, List.nil_append, List.append]
                first | ((with_reducible show Rp _ _ _ _ (.int (b2i _) :: _) _ _); refine Rp.if_eqB (tgt := 68) dX12_splits_40 (by decide) (fun c40 => ?_) (fun c40 => ?_)) | ((with_reducible show Rp _ _ _ _ (.int (nI _) :: _) _ _); refine Rp.if_eqN (tgt := 68) dX12_splits_40 (by decide) (by omega) (fun c40 => ?_) (fun c40 => ?_)) | refine Rp.if_eq (tgt := 68) dX12_splits_40 (by decide) (fun c40 => ?_) (fun c40 => ?_)
                · skip
                  refine Rp.iload_n dX12_splits_68 rfl ?_
                  refine Rp.callS1 M_X12_isDigit dX12_splits_69 mo_X12_isDigit lk_X12_186 (Nat.le_of_ble_eq_true rfl) (Nat.le_of_ble_eq_true rfl) (s_isDigit d (gI g am_tape k)) (fun v1 h1 p1 x1 => ?_)
                  rw [p1.1, p1.2, hdg]
                  try dsimp only [Option.toList, List.cons_append, List.nil_append, List.append]
                  first | ((with_reducible show Rp _ _ _ _ (.int (b2i _) :: _) _ _); refine Rp.if_eqB (tgt := 100) dX12_splits_72 (by decide) (fun c72 => ?_) (fun c72 => ?_)) | ((with_reducible show Rp _ _ _ _ (.int (nI _) :: _) _ _); refine Rp.if_eqN (tgt := 100) dX12_splits_72 (by decide) (by omega) (fun c72 => ?_) (fun c72 => ?_)) | refine Rp.if_eq (tgt := 100) dX12_splits_72 (by decide) (fun c72 => ?_) (fun c72 => ?_)
                  · skip
                    exact c100 _
                  · skip
                    cases c72
                · skip
                  cases c40
              · skip
                exact absurd c22 h32g
    · rw [if_neg hkL] at hTL
      have hl : TL.length = j := by rw [hTL, List.length_append, hdn]; rfl
      rw [← hl] at I
      refine Rp.iload_n dX12_splits_7 rfl ?_
      refine Rp.iload_n dX12_splits_8 rfl ?_
      first | ((with_reducible show Rp _ _ _ _ (.int (nI _) :: .int (nI _) :: _) _ _); refine Rp.icmp_geN (tgt := 263) dX12_splits_9 (by decide) (by omega) (fun c9 => ?_) (fun c9 => ?_)) | refine Rp.icmp_ge (tgt := 263) dX12_splits_9 (by decide) (fun c9 => ?_) (fun c9 => ?_)
      · skip
        exact split263 d S0 R0 (by omega) I _ _ _ _
      · skip
        first | (exfalso; omega) | exact absurd c9 (by decide) | exact absurd (by decide) c9
theorem s_splits (S : ShOK h) (R : RfOK h) (W : WD h) {L : Nat} (hL : L ≤ 400) (hb : ∀ i, (gI h am_tape i).toInt ≤ 127) : Rp (d + 1) M_X12_splits 0 [some (.ref aM), some (.int (nI L)), none, none, none, none] [] h (fun r h' => r = none ∧ SpE h (gI h am_tape) L (toks (gI h am_tape) L L 0) h') := by
  have I : SpI h (sI h aM fm_tokens (nI 0)) (gI h am_tape) L (toks (gI h am_tape) L L 0) 0 := ⟨Fr.rfl'.sI rfl, gI_hit _ _ _ _, fun i hi => absurd hi (Nat.not_lt_zero i)⟩
  refine Rp.aload_n dX12_splits_0 rfl rfl ?_
  refine Rp.iconst (nI 0) dX12_splits_1 (by decide) ?_
  refine Rp.putI dX12_splits_2 fk_X12_180w rfl (S _ _ rfl) ?_
  refine Rp.iconst (nI 0) dX12_splits_5 (by decide) ?_
  refine Rp.ist2 dX12_splits_6 (by first | exact nl2_some rfl | exact nl2_none) (by decide) ?_
  exact split7 d S R W hL hb L 0 0 _ _ _ _ [] (by omega) (by omega) rfl (by omega) rfl I
end Sq
