section Fm
variable (d : Nat) {h : AH}
/-- one person more, in the reference: before index m is worked on -/
def FwM (g : AH) (c : Int32) (n k m : Nat) : Prop := (∀ j, j ≤ m → gL g 126 j = fw c n j) ∧ (m + 1 < k → gL g 126 (m + 1) = fw c n (m + 1) * (nI 10 - c).toInt64 / 10) ∧ ∀ j, m + 1 < j → j < k → gL g 126 j = fw c (n + 1) j
theorem FwM.step {g : AH} {c : Int32} {n k m : Nat} {v : Int64} (H : FwM g c n k m) (hv : v = gL g 126 (m + 1) + fw c n m * c.toInt64 / 10) : (∀ j, j < m → gL (sL (sL g 126 (m + 1) v) 126 m (fw c n m * (nI 10 - c).toInt64 / 10)) 126 j = fw c n j) ∧ gL (sL (sL g 126 (m + 1) v) 126 m (fw c n m * (nI 10 - c).toInt64 / 10)) 126 m = fw c n m * (nI 10 - c).toInt64 / 10 ∧ ∀ j, m < j → j < k → gL (sL (sL g 126 (m + 1) v) 126 m (fw c n m * (nI 10 - c).toInt64 / 10)) 126 j = fw c (n + 1) j := by
  refine ⟨fun j hj => ?_, gL_hit _ _ _ _, fun j a b => ?_⟩
  · rw [gL_off _ _ _ (by omega), gL_off _ _ _ (by omega)]; exact H.1 j (by omega)
  · rw [gL_off _ _ _ (by omega)]
    by_cases z : j = m + 1
    · subst z; rw [gL_hit, hv, H.2.1 b]; rfl
    · rw [gL_off _ _ _ z]; exact H.2.2 j (by omega) b
theorem mfew67 {P : Option Value → AH → Prop} (S0 : ShOK h) (R0 : RfOK h) {k n : Nat} (hk : 1 ≤ k ∧ k ≤ 20) (nn c x3 : Int32) (hc : gI h 102 101 = c) (a5 : Option Value) (kk : ∀ g, Fr (fwX 126) h g → (∀ j, j < k → gL g 126 j = fw c (n + 1) j) → Rp d M_X12_few 140 [some (.ref aM), some (.int (nI k)), some (.int nn), some (.int x3), some (.int (-1)), a5] [] g P) : ∀ (m : Nat) (g : AH), m < k → Fr (fwX 126) h g → FwM g c n k m → Rp d M_X12_few 67 [some (.ref aM), some (.int (nI k)), some (.int nn), some (.int x3), some (.int (nI m)), a5] [] g P := by
  intro m
  induction m with
  | zero =>
    intro g hm F H
    have S := F.S S0
    have R := F.R R0 (fwX_ok (Or.inr rfl))
    have T := H.step (v := gL g 126 (0 + 1) + fw c n 0 * c.toInt64 / 10) rfl
    have e2 : gL g 126 0 = fw c n 0 := H.1 0 (Nat.le_refl _)
    have eK : gI g 102 101 = c := (F.I 102 101 rfl).trans hc
    have e3 : gL (sL g 126 (0 + 1) (gL g 126 (0 + 1) + fw c n 0 * c.toInt64 / 10)) 126 0 = fw c n 0 := (gL_off _ _ _ (by decide)).trans e2
    have eK3 : gI (sL g 126 (0 + 1) (gL g 126 (0 + 1) + fw c n 0 * c.toInt64 / 10)) 102 101 = c := eK
    have e0 : nI 0 + Int32.ofInt (-1) = -1 := by decide
    have k1 := kk (sL (sL g 126 (0 + 1) (gL g 126 (0 + 1) + fw c n 0 * c.toInt64 / 10)) 126 0 (fw c n 0 * (nI 10 - c).toInt64 / 10)) ((F.sL rfl).sL rfl) (fun j hj => by
      by_cases z : j = 0
      · subst z; rw [T.2.1]; rfl
      · exact T.2.2 j (by omega) hj)
    refine Rp.iload dX12_few_67 rfl ?_
    refine Rp.if_lt (tgt := 140) dX12_few_69 (by decide) (fun c69 => ?_) (fun c69 => ?_)
    · exact absurd c69 (by decide)
    refine Rp.aload_n dX12_few_72 rfl rfl ?_
    refine Rp.getR dX12_few_73 fk_X12_101 rfl (S _ _ rfl) (R _ _ _ rfl) ?_
    refine Rp.iload dX12_few_76 rfl ?_
    refine Rp.iconst (nI 1) dX12_few_78 (by decide) ?_
    first | ((with_reducible show Rp _ _ _ _ (.int (nI _) :: .int (nI _) :: _) _ _); refine Rp.iaddN dX12_few_79 ?_) | refine Rp.iadd dX12_few_79 ?_
    refine Rp.dup2 dX12_few_80 rfl rfl ?_
    first | ((with_reducible show Rp _ _ _ _ (.int (nI _) :: _) _ _); refine Rp.laloadN dX12_few_81 (S _ _ rfl) (by omega) ?_) | refine Rp.laload dX12_few_81 (S _ _ rfl) (by first | assumption | exact vpb (by decide)) ?_
    first | rw [e2] | rw [eK] | rw [e3] | rw [eK3] | skip
    refine Rp.aload_n dX12_few_82 rfl rfl ?_
    refine Rp.getR dX12_few_83 fk_X12_101 rfl (S _ _ rfl) (R _ _ _ rfl) ?_
    refine Rp.iload dX12_few_86 rfl ?_
    first | ((with_reducible show Rp _ _ _ _ (.int (nI _) :: _) _ _); refine Rp.laloadN dX12_few_88 (S _ _ rfl) (by omega) ?_) | refine Rp.laload dX12_few_88 (S _ _ rfl) (by first | assumption | exact vpb (by decide)) ?_
    first | rw [e2] | rw [eK] | rw [e3] | rw [eK3] | skip
    refine Rp.aload_n dX12_few_89 rfl rfl ?_
    refine Rp.getR dX12_few_90 fk_X12_24 rfl (S _ _ rfl) (R _ _ _ rfl) ?_
    refine Rp.bipush (nI 101) dX12_few_93 (by decide) ?_
    first | ((with_reducible show Rp _ _ _ _ (.int (nI _) :: _) _ _); refine Rp.ialoadN dX12_few_95 (S _ _ rfl) (by omega) ?_) | refine Rp.iaload dX12_few_95 (S _ _ rfl) (by first | assumption | exact vpb (by decide)) ?_
    first | rw [e2] | rw [eK] | rw [e3] | rw [eK3] | skip
    refine Rp.i2l dX12_few_96 ?_
    refine Rp.lmul dX12_few_97 ?_
    refine Rp.ldc2 dX12_few_98 kc_X12_480 ?_
    refine Rp.ldiv dX12_few_101 (by decide) ?_
    refine Rp.ladd dX12_few_102 ?_
    first | ((with_reducible show Rp _ _ _ _ (_ :: .int (nI _) :: _) _ _); refine Rp.lastoreN dX12_few_103 (S _ _ rfl) (by omega) ?_) | refine Rp.lastore dX12_few_103 (S _ _ rfl) (by first | assumption | exact vpb (by decide)) ?_
    refine Rp.aload_n dX12_few_104 rfl rfl ?_
    refine Rp.getR dX12_few_105 fk_X12_101 rfl (S _ _ rfl) (R _ _ _ rfl) ?_
    refine Rp.iload dX12_few_108 rfl ?_
    refine Rp.aload_n dX12_few_110 rfl rfl ?_
    refine Rp.getR dX12_few_111 fk_X12_101 rfl (S _ _ rfl) (R _ _ _ rfl) ?_
    refine Rp.iload dX12_few_114 rfl ?_
    first | ((with_reducible show Rp _ _ _ _ (.int (nI _) :: _) _ _); refine Rp.laloadN dX12_few_116 (S _ _ rfl) (by omega) ?_) | refine Rp.laload dX12_few_116 (S _ _ rfl) (by first | assumption | exact vpb (by decide)) ?_
    first | rw [e2] | rw [eK] | rw [e3] | rw [eK3] | skip
    refine Rp.bipush (nI 10) dX12_few_117 (by decide) ?_
    refine Rp.aload_n dX12_few_119 rfl rfl ?_
    refine Rp.getR dX12_few_120 fk_X12_24 rfl (S _ _ rfl) (R _ _ _ rfl) ?_
    refine Rp.bipush (nI 101) dX12_few_123 (by decide) ?_
    first | ((with_reducible show Rp _ _ _ _ (.int (nI _) :: _) _ _); refine Rp.ialoadN dX12_few_125 (S _ _ rfl) (by omega) ?_) | refine Rp.iaload dX12_few_125 (S _ _ rfl) (by first | assumption | exact vpb (by decide)) ?_
    first | rw [e2] | rw [eK] | rw [e3] | rw [eK3] | skip
    first | ((with_reducible show Rp _ _ _ _ (.int (nI _) :: .int (nI _) :: _) _ _); refine Rp.isubN dX12_few_126 (by omega) ?_) | refine Rp.isub dX12_few_126 ?_
    refine Rp.i2l dX12_few_127 ?_
    refine Rp.lmul dX12_few_128 ?_
    refine Rp.ldc2 dX12_few_129 kc_X12_480 ?_
    refine Rp.ldiv dX12_few_132 (by decide) ?_
    first | ((with_reducible show Rp _ _ _ _ (_ :: .int (nI _) :: _) _ _); refine Rp.lastoreN dX12_few_133 (S _ _ rfl) (by omega) ?_) | refine Rp.lastore dX12_few_133 (S _ _ rfl) (by first | assumption | exact vpb (by decide)) ?_
    refine Rp.inc4 (-1 : Int32) dX12_few_134 e0 (by first | exact nl2_some rfl | exact nl2_none) (by decide) ?_
    refine Rp.goto (tgt := 67) dX12_few_137 (by decide) ?_
    skip
    refine Rp.iload dX12_few_67 rfl ?_
    refine Rp.if_lt (tgt := 140) dX12_few_69 (by decide) (fun c69 => ?_) (fun c69 => ?_)
    · skip
      exact k1
    · skip
      exact absurd (by decide) c69
  | succ m ih =>
    intro g hm F H
    have S := F.S S0
    have R := F.R R0 (fwX_ok (Or.inr rfl))
    have n0 : ¬ nI (m + 1) < 0 := by rw [i32_lt, nI_toInt (by omega)]; exact Int.not_lt.mpr (Int.natCast_nonneg _)
    have T := H.step (v := gL g 126 (m + 1 + 1) + fw c n (m + 1) * c.toInt64 / 10) rfl
    have e2 : gL g 126 (m + 1) = fw c n (m + 1) := H.1 (m + 1) (Nat.le_refl _)
    have eK : gI g 102 101 = c := (F.I 102 101 rfl).trans hc
    have e3 : gL (sL g 126 (m + 1 + 1) (gL g 126 (m + 1 + 1) + fw c n (m + 1) * c.toInt64 / 10)) 126 (m + 1) = fw c n (m + 1) := (gL_off _ _ _ (by omega)).trans e2
    have eK3 : gI (sL g 126 (m + 1 + 1) (gL g 126 (m + 1 + 1) + fw c n (m + 1) * c.toInt64 / 10)) 102 101 = c := eK
    have em : nI (m + 1) + Int32.ofInt (-1) = nI m := pk_m1 m
    have k1 := ih (sL (sL g 126 (m + 1 + 1) (gL g 126 (m + 1 + 1) + fw c n (m + 1) * c.toInt64 / 10)) 126 (m + 1) (fw c n (m + 1) * (nI 10 - c).toInt64 / 10)) (by omega) ((F.sL rfl).sL rfl) ⟨fun j hj => T.1 j (by omega), fun _ => T.2.1, fun j a b => T.2.2 j a b⟩
    refine Rp.iload dX12_few_67 rfl ?_
    refine Rp.if_lt (tgt := 140) dX12_few_69 (by decide) (fun c69 => ?_) (fun c69 => ?_)
    · skip
      exact absurd c69 n0
    · skip
      refine Rp.aload_n dX12_few_72 rfl rfl ?_
      refine Rp.getR dX12_few_73 fk_X12_101 rfl (S _ _ rfl) (R _ _ _ rfl) ?_
      refine Rp.iload dX12_few_76 rfl ?_
      refine Rp.iconst (nI 1) dX12_few_78 (by decide) ?_
      first | ((with_reducible show Rp _ _ _ _ (.int (nI _) :: .int (nI _) :: _) _ _); refine Rp.iaddN dX12_few_79 ?_) | refine Rp.iadd dX12_few_79 ?_
      refine Rp.dup2 dX12_few_80 rfl rfl ?_
      first | ((with_reducible show Rp _ _ _ _ (.int (nI _) :: _) _ _); refine Rp.laloadN dX12_few_81 (S _ _ rfl) (by omega) ?_) | refine Rp.laload dX12_few_81 (S _ _ rfl) (by first | assumption | exact vpb (by decide)) ?_
      first | rw [e2] | rw [eK] | rw [e3] | rw [eK3] | skip
      refine Rp.aload_n dX12_few_82 rfl rfl ?_
      refine Rp.getR dX12_few_83 fk_X12_101 rfl (S _ _ rfl) (R _ _ _ rfl) ?_
      refine Rp.iload dX12_few_86 rfl ?_
      first | ((with_reducible show Rp _ _ _ _ (.int (nI _) :: _) _ _); refine Rp.laloadN dX12_few_88 (S _ _ rfl) (by omega) ?_) | refine Rp.laload dX12_few_88 (S _ _ rfl) (by first | assumption | exact vpb (by decide)) ?_
      first | rw [e2] | rw [eK] | rw [e3] | rw [eK3] | skip
      refine Rp.aload_n dX12_few_89 rfl rfl ?_
      refine Rp.getR dX12_few_90 fk_X12_24 rfl (S _ _ rfl) (R _ _ _ rfl) ?_
      refine Rp.bipush (nI 101) dX12_few_93 (by decide) ?_
      first | ((with_reducible show Rp _ _ _ _ (.int (nI _) :: _) _ _); refine Rp.ialoadN dX12_few_95 (S _ _ rfl) (by omega) ?_) | refine Rp.iaload dX12_few_95 (S _ _ rfl) (by first | assumption | exact vpb (by decide)) ?_
      first | rw [e2] | rw [eK] | rw [e3] | rw [eK3] | skip
      refine Rp.i2l dX12_few_96 ?_
      refine Rp.lmul dX12_few_97 ?_
      refine Rp.ldc2 dX12_few_98 kc_X12_480 ?_
      refine Rp.ldiv dX12_few_101 (by decide) ?_
      refine Rp.ladd dX12_few_102 ?_
      first | ((with_reducible show Rp _ _ _ _ (_ :: .int (nI _) :: _) _ _); refine Rp.lastoreN dX12_few_103 (S _ _ rfl) (by omega) ?_) | refine Rp.lastore dX12_few_103 (S _ _ rfl) (by first | assumption | exact vpb (by decide)) ?_
      refine Rp.aload_n dX12_few_104 rfl rfl ?_
      refine Rp.getR dX12_few_105 fk_X12_101 rfl (S _ _ rfl) (R _ _ _ rfl) ?_
      refine Rp.iload dX12_few_108 rfl ?_
      refine Rp.aload_n dX12_few_110 rfl rfl ?_
      refine Rp.getR dX12_few_111 fk_X12_101 rfl (S _ _ rfl) (R _ _ _ rfl) ?_
      refine Rp.iload dX12_few_114 rfl ?_
      first | ((with_reducible show Rp _ _ _ _ (.int (nI _) :: _) _ _); refine Rp.laloadN dX12_few_116 (S _ _ rfl) (by omega) ?_) | refine Rp.laload dX12_few_116 (S _ _ rfl) (by first | assumption | exact vpb (by decide)) ?_
      first | rw [e2] | rw [eK] | rw [e3] | rw [eK3] | skip
      refine Rp.bipush (nI 10) dX12_few_117 (by decide) ?_
      refine Rp.aload_n dX12_few_119 rfl rfl ?_
      refine Rp.getR dX12_few_120 fk_X12_24 rfl (S _ _ rfl) (R _ _ _ rfl) ?_
      refine Rp.bipush (nI 101) dX12_few_123 (by decide) ?_
      first | ((with_reducible show Rp _ _ _ _ (.int (nI _) :: _) _ _); refine Rp.ialoadN dX12_few_125 (S _ _ rfl) (by omega) ?_) | refine Rp.iaload dX12_few_125 (S _ _ rfl) (by first | assumption | exact vpb (by decide)) ?_
      first | rw [e2] | rw [eK] | rw [e3] | rw [eK3] | skip
      first | ((with_reducible show Rp _ _ _ _ (.int (nI _) :: .int (nI _) :: _) _ _); refine Rp.isubN dX12_few_126 (by omega) ?_) | refine Rp.isub dX12_few_126 ?_
      refine Rp.i2l dX12_few_127 ?_
      refine Rp.lmul dX12_few_128 ?_
      refine Rp.ldc2 dX12_few_129 kc_X12_480 ?_
      refine Rp.ldiv dX12_few_132 (by decide) ?_
      first | ((with_reducible show Rp _ _ _ _ (_ :: .int (nI _) :: _) _ _); refine Rp.lastoreN dX12_few_133 (S _ _ rfl) (by omega) ?_) | refine Rp.lastore dX12_few_133 (S _ _ rfl) (by first | assumption | exact vpb (by decide)) ?_
      refine Rp.inc4 (nI m) dX12_few_134 em (by first | exact nl2_some rfl | exact nl2_none) (by decide) ?_
      refine Rp.goto (tgt := 67) dX12_few_137 (by decide) ?_
      exact k1
theorem mfew151 (S : ShOK h) (R : RfOK h) {k n : Nat} (hk : k ≤ 20) (nn c : Int32) (hv : ∀ j, j < k → gL h 126 j = fw c n j) : ∀ (m i : Nat), i + m = k → Rp d M_X12_few 151 [some (.ref aM), some (.int (nI k)), some (.int nn), some (.long (fwS c n i)), none, some (.int (nI i))] [] h (fun r h' => h' = h ∧ r = some (.long (fwS c n k))) := by
  intro m
  induction m with
  | zero =>
    intro i hi
    have e : i = k := by omega
    subst e
    refine Rp.iload dX12_few_151 rfl ?_
    refine Rp.iload_n dX12_few_153 rfl ?_
    first | ((with_reducible show Rp _ _ _ _ (.int (nI _) :: .int (nI _) :: _) _ _); refine Rp.icmp_geN (tgt := 173) dX12_few_154 (by decide) (by omega) (fun c154 => ?_) (fun c154 => ?_)) | refine Rp.icmp_ge (tgt := 173) dX12_few_154 (by decide) (fun c154 => ?_) (fun c154 => ?_)
    · skip
      refine Rp.lload_n dX12_few_173 rfl ?_
      refine Rp.lreturn dX12_few_174 rfl ?_
      exact ⟨rfl, rfl⟩
    · skip
      first | (exfalso; omega) | exact absurd c154 (by decide) | exact absurd (by decide) c154
  | succ m ih =>
    intro i hi
    have e1 := hv i (by omega)
    have k1 := ih (i + 1) (by omega)
    rw [fwS] at k1
    refine Rp.iload dX12_few_151 rfl ?_
    refine Rp.iload_n dX12_few_153 rfl ?_
    first | ((with_reducible show Rp _ _ _ _ (.int (nI _) :: .int (nI _) :: _) _ _); refine Rp.icmp_geN (tgt := 173) dX12_few_154 (by decide) (by omega) (fun c154 => ?_) (fun c154 => ?_)) | refine Rp.icmp_ge (tgt := 173) dX12_few_154 (by decide) (fun c154 => ?_) (fun c154 => ?_)
    · skip
      first | (exfalso; omega) | exact absurd c154 (by decide) | exact absurd (by decide) c154
    · skip
      refine Rp.lload_n dX12_few_157 rfl ?_
      refine Rp.aload_n dX12_few_158 rfl rfl ?_
      refine Rp.getR dX12_few_159 fk_X12_101 rfl (S _ _ rfl) (R _ _ _ rfl) ?_
      refine Rp.iload dX12_few_162 rfl ?_
      first | ((with_reducible show Rp _ _ _ _ (.int (nI _) :: _) _ _); refine Rp.laloadN dX12_few_164 (S _ _ rfl) (by omega) ?_) | refine Rp.laload dX12_few_164 (S _ _ rfl) (by first | assumption | exact vpb (by decide)) ?_
      first | rw [e1] | skip
      refine Rp.ladd dX12_few_165 ?_
      refine Rp.lst3 dX12_few_166 (by first | exact nl2_some rfl | exact nl2_none) (by decide) ?_
      first | ((with_reducible show Rp _ _ _ (_ :: _ :: _ :: _ :: _ :: some (.int (nI _)) :: _) _ _ _); refine Rp.inc5N (c := 1) dX12_few_167 (by first | exact nl2_some rfl | exact nl2_none) (by decide) ?_) | refine Rp.inc5 _ dX12_few_167 rfl (by first | exact nl2_some rfl | exact nl2_none) (by decide) ?_
      refine Rp.goto (tgt := 151) dX12_few_170 (by decide) ?_
      exact k1
theorem mfew57 (S0 : ShOK h) (R0 : RfOK h) {k N : Nat} (hk : 1 ≤ k ∧ k ≤ 20) (hN : N ≤ 99) (c : Int32) (hc : gI h 102 101 = c) : ∀ (m n : Nat) (g : AH) (a4 : Option Value), n + m = N → Fr (fwX 126) h g → (∀ j, j < k → gL g 126 j = fw c n j) → Rp d M_X12_few 57 [some (.ref aM), some (.int (nI k)), some (.int (nI N)), some (.int (nI n)), a4, none] [] g (fun r h' => Fr (fwX 126) h h' ∧ r = some (.long (fwS c N k))) := by
  intro m
  induction m with
  | zero =>
    intro n g a4 hn F h0
    have e : n = N := by omega
    subst e
    have S := F.S S0
    have R := F.R R0 (fwX_ok (Or.inr rfl))
    have k1 := Rp.mono (Q := fun r h' => Fr (fwX 126) h h' ∧ r = some (.long (fwS c n k))) (fun r h' p => ⟨by rw [p.1]; exact F, p.2⟩) (mfew151 d S R hk.2 (nI n) c h0 k 0 (by omega))
    refine Rp.iload_n dX12_few_57 rfl ?_
    refine Rp.iload_n dX12_few_58 rfl ?_
    first | ((with_reducible show Rp _ _ _ _ (.int (nI _) :: .int (nI _) :: _) _ _); refine Rp.icmp_geN (tgt := 146) dX12_few_59 (by decide) (by omega) (fun c59 => ?_) (fun c59 => ?_)) | refine Rp.icmp_ge (tgt := 146) dX12_few_59 (by decide) (fun c59 => ?_) (fun c59 => ?_)
    · skip
      refine Rp.lconst (0) dX12_few_146 (by decide) ?_
      refine Rp.lst3 dX12_few_147 (by first | exact nl2_some rfl | exact nl2_none) (by decide) ?_
      refine Rp.iconst (nI 0) dX12_few_148 (by decide) ?_
      refine Rp.ist5 dX12_few_149 (by first | exact nl2_some rfl | exact nl2_none) (by decide) ?_
      exact k1
    · skip
      first | (exfalso; omega) | exact absurd c59 (by decide) | exact absurd (by decide) c59
  | succ m ih =>
    intro n g a4 hn F h0
    have S := F.S S0
    have R := F.R R0 (fwX_ok (Or.inr rfl))
    have eK : gI g 102 101 = c := (F.I 102 101 rfl).trans hc
    have fin : ∀ g1, Fr (fwX 126) g g1 → (∀ j, j < k → gL g1 126 j = fw c (n + 1) j) → Rp d M_X12_few 140 [some (.ref aM), some (.int (nI k)), some (.int (nI N)), some (.int (nI n)), some (.int (-1)), none] [] g1 (fun r h' => Fr (fwX 126) h h' ∧ r = some (.long (fwS c N k))) := by
      intro g1 F1 h1
      have k1 := ih (n + 1) g1 (some (.int (-1))) (by omega) (F.trans F1) h1
      first | ((with_reducible show Rp _ _ _ (_ :: _ :: _ :: some (.int (nI _)) :: _) _ _ _); refine Rp.inc3N (c := 1) dX12_few_140 (by first | exact nl2_some rfl | exact nl2_none) (by decide) ?_) | refine Rp.inc3 _ dX12_few_140 rfl (by first | exact nl2_some rfl | exact nl2_none) (by decide) ?_
      refine Rp.goto (tgt := 57) dX12_few_143 (by decide) ?_
      exact k1
    have k2 := mfew67 d S R hk (nI N) c (nI n) eK none fin (k - 1) g (by omega) Fr.rfl' ⟨fun j a => h0 j (by omega), fun z => by omega, fun j a b => by omega⟩
    refine Rp.iload_n dX12_few_57 rfl ?_
    refine Rp.iload_n dX12_few_58 rfl ?_
    first | ((with_reducible show Rp _ _ _ _ (.int (nI _) :: .int (nI _) :: _) _ _); refine Rp.icmp_geN (tgt := 146) dX12_few_59 (by decide) (by omega) (fun c59 => ?_) (fun c59 => ?_)) | refine Rp.icmp_ge (tgt := 146) dX12_few_59 (by decide) (fun c59 => ?_) (fun c59 => ?_)
    · skip
      first | (exfalso; omega) | exact absurd c59 (by decide) | exact absurd (by decide) c59
    · skip
      refine Rp.iload_n dX12_few_62 rfl ?_
      refine Rp.iconst (nI 1) dX12_few_63 (by decide) ?_
      first | ((with_reducible show Rp _ _ _ _ (.int (nI _) :: .int (nI _) :: _) _ _); refine Rp.isubN dX12_few_64 (by omega) ?_) | refine Rp.isub dX12_few_64 ?_
      refine Rp.ist4 dX12_few_65 (by first | exact nl2_some rfl | exact nl2_none) (by decide) ?_
      exact k2
end Fm
