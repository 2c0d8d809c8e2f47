section Fx
variable (d : Nat) {h : AH}
theorem few155 (S : ShOK h) (R : RfOK h) {k n : Nat} (hk : k ≤ 20) (nn c : Int32) (hv : ∀ j, j < k → gL h 67 j = fw c n j) : ∀ (m i : Nat), i + m = k → Rp d M_X11_few 155 [some (.ref 0), some (.int (nI k)), some (.int nn), some (.int c), some (.long (fwS c n i)), none, some (.int (nI i))] [] h (fun r h' => h' = h ∧ r = some (.long (fwS c n k))) := by
  intro m
  induction m with
  | zero =>
    intro i hi
    have e : i = k := by omega
    subst e
    refine Rp.iload dX11_few_155 rfl ?_
    refine Rp.iload_n dX11_few_157 rfl ?_
    first | ((with_reducible show Rp _ _ _ _ (.int (nI _) :: .int (nI _) :: _) _ _); refine Rp.icmp_geN (tgt := 179) dX11_few_158 (by decide) (by omega) (fun c158 => ?_) (fun c158 => ?_)) | refine Rp.icmp_ge (tgt := 179) dX11_few_158 (by decide) (fun c158 => ?_) (fun c158 => ?_)
    · skip
      refine Rp.lload dX11_few_179 rfl ?_
      refine Rp.lreturn dX11_few_181 rfl ?_
      exact ⟨rfl, rfl⟩
    · skip
      first | (exfalso; omega) | exact absurd c158 (by decide) | exact absurd (by decide) c158
  | succ m ih =>
    intro i hi
    have e1 := hv i (by omega)
    have k1 := ih (i + 1) (by omega)
    rw [fwS] at k1
    refine Rp.iload dX11_few_155 rfl ?_
    refine Rp.iload_n dX11_few_157 rfl ?_
    first | ((with_reducible show Rp _ _ _ _ (.int (nI _) :: .int (nI _) :: _) _ _); refine Rp.icmp_geN (tgt := 179) dX11_few_158 (by decide) (by omega) (fun c158 => ?_) (fun c158 => ?_)) | refine Rp.icmp_ge (tgt := 179) dX11_few_158 (by decide) (fun c158 => ?_) (fun c158 => ?_)
    · skip
      first | (exfalso; omega) | exact absurd c158 (by decide) | exact absurd (by decide) c158
    · skip
      refine Rp.lload dX11_few_161 rfl ?_
      refine Rp.aload_n dX11_few_163 rfl rfl ?_
      refine Rp.getR dX11_few_164 fk_X11_91 rfl (S _ _ rfl) (R _ _ _ rfl) ?_
      refine Rp.iload dX11_few_167 rfl ?_
      first | ((with_reducible show Rp _ _ _ _ (.int (nI _) :: _) _ _); refine Rp.laloadN dX11_few_169 (S _ _ rfl) (by omega) ?_) | refine Rp.laload dX11_few_169 (S _ _ rfl) (by first | assumption | exact vpb (by decide)) ?_
      first | rw [e1] | skip
      refine Rp.ladd dX11_few_170 ?_
      refine Rp.lst4 dX11_few_171 (by first | exact nl2_some rfl | exact nl2_none) (by decide) ?_
      first | ((with_reducible show Rp _ _ _ (_ :: _ :: _ :: _ :: _ :: _ :: some (.int (nI _)) :: _) _ _ _); refine Rp.inc6N (c := 1) dX11_few_173 (by first | exact nl2_some rfl | exact nl2_none) (by decide) ?_) | refine Rp.inc6 _ dX11_few_173 rfl (by first | exact nl2_some rfl | exact nl2_none) (by decide) ?_
      refine Rp.goto (tgt := 155) dX11_few_176 (by decide) ?_
      exact k1
theorem few58 (S0 : ShOK h) (R0 : RfOK h) {k N : Nat} (hk : 1 ≤ k ∧ k ≤ 20) (hN : N ≤ 99) (c : Int32) : ∀ (m n : Nat) (g : AH) (a5 a6 : Option Value), n + m = N → Fr (fwX 67) h g → (∀ j, j < k → gL g 67 j = fw c n j) → Rp d M_X11_few 58 [some (.ref 0), some (.int (nI k)), some (.int (nI N)), some (.int c), some (.int (nI n)), a5, a6] [] g (fun r h' => Fr (fwX 67) h h' ∧ r = some (.long (fwS c N k))) := by
  intro m
  induction m with
  | zero =>
    intro n g a5 a6 hn F h0
    have e : n = N := by omega
    subst e
    have S := F.S S0
    have R := F.R R0 (fwX_ok (Or.inl rfl))
    have k1 := Rp.mono (Q := fun r h' => Fr (fwX 67) h h' ∧ r = some (.long (fwS c n k))) (fun r h' p => ⟨by rw [p.1]; exact F, p.2⟩) (few155 d S R hk.2 (nI n) c h0 k 0 (by omega))
    refine Rp.iload dX11_few_58 rfl ?_
    refine Rp.iload_n dX11_few_60 rfl ?_
    first | ((with_reducible show Rp _ _ _ _ (.int (nI _) :: .int (nI _) :: _) _ _); refine Rp.icmp_geN (tgt := 149) dX11_few_61 (by decide) (by omega) (fun c61 => ?_) (fun c61 => ?_)) | refine Rp.icmp_ge (tgt := 149) dX11_few_61 (by decide) (fun c61 => ?_) (fun c61 => ?_)
    · skip
      refine Rp.lconst (0) dX11_few_149 (by decide) ?_
      refine Rp.lst4 dX11_few_150 (by first | exact nl2_some rfl | exact nl2_none) (by decide) ?_
      refine Rp.iconst (nI 0) dX11_few_152 (by decide) ?_
      refine Rp.ist6 dX11_few_153 (by first | exact nl2_some rfl | exact nl2_none) (by decide) ?_
      exact k1
    · skip
      first | (exfalso; omega) | exact absurd c61 (by decide) | exact absurd (by decide) c61
  | succ m ih =>
    intro n g a5 a6 hn F h0
    have S := F.S S0
    have R := F.R R0 (fwX_ok (Or.inl rfl))
    have fin : ∀ g1, Fr (fwX 67) g g1 → (∀ j, 1 ≤ j → j < k → gL g1 67 j = fw c (n + 1) j) → gL g1 67 0 = fw c n 0 → Rp d M_X11_few 121 [some (.ref 0), some (.int (nI k)), some (.int (nI N)), some (.int c), some (.int (nI n)), some (.int (nI 0)), a6] [] g1 (fun r h' => Fr (fwX 67) h h' ∧ r = some (.long (fwS c N k))) := by
      intro g1 F1 h1 h2
      have S1 := F1.S S
      have R1 := F1.R R (fwX_ok (Or.inl rfl))
      have k1 := ih (n + 1) (sL g1 67 0 (fw c n 0 * (nI 10 - c).toInt64 / 10)) (some (.int (nI 0))) a6 (by omega) ((F.trans F1).sL rfl) (fun j hj => by
        by_cases z : j = 0
        · rw [z, gL_hit]; rfl
        · rw [gL_off _ _ _ z]; exact h1 j (by omega) hj)
      refine Rp.aload_n dX11_few_121 rfl rfl ?_
      refine Rp.getR dX11_few_122 fk_X11_91 rfl (S1 _ _ rfl) (R1 _ _ _ rfl) ?_
      refine Rp.iconst (nI 0) dX11_few_125 (by decide) ?_
      refine Rp.aload_n dX11_few_126 rfl rfl ?_
      refine Rp.getR dX11_few_127 fk_X11_91 rfl (S1 _ _ rfl) (R1 _ _ _ rfl) ?_
      refine Rp.iconst (nI 0) dX11_few_130 (by decide) ?_
      first | ((with_reducible show Rp _ _ _ _ (.int (nI _) :: _) _ _); refine Rp.laloadN dX11_few_131 (S1 _ _ rfl) (by omega) ?_) | refine Rp.laload dX11_few_131 (S1 _ _ rfl) (by first | assumption | exact vpb (by decide)) ?_
      first | rw [h2] | skip
      refine Rp.bipush (nI 10) dX11_few_132 (by decide) ?_
      refine Rp.iload_n dX11_few_134 rfl ?_
      first | ((with_reducible show Rp _ _ _ _ (.int (nI _) :: .int (nI _) :: _) _ _); refine Rp.isubN dX11_few_135 (by omega) ?_) | refine Rp.isub dX11_few_135 ?_
      refine Rp.i2l dX11_few_136 ?_
      refine Rp.lmul dX11_few_137 ?_
      refine Rp.ldc2 dX11_few_138 kc_X11_353 ?_
      refine Rp.ldiv dX11_few_141 (by decide) ?_
      first | ((with_reducible show Rp _ _ _ _ (_ :: .int (nI _) :: _) _ _); refine Rp.lastoreN dX11_few_142 (S1 _ _ rfl) (by omega) ?_) | refine Rp.lastore dX11_few_142 (S1 _ _ rfl) (by first | assumption | exact vpb (by decide)) ?_
      first | ((with_reducible show Rp _ _ _ (_ :: _ :: _ :: _ :: some (.int (nI _)) :: _) _ _ _); refine Rp.inc4N (c := 1) dX11_few_143 (by first | exact nl2_some rfl | exact nl2_none) (by decide) ?_) | refine Rp.inc4 _ dX11_few_143 rfl (by first | exact nl2_some rfl | exact nl2_none) (by decide) ?_
      refine Rp.goto (tgt := 58) dX11_few_146 (by decide) ?_
      exact k1
    have k2 := few69 d S R hk (nI N) c (nI n) a6 fin (k - 1) g (by omega) Fr.rfl' (fun j a b => by omega) (fun j a => h0 j (by omega))
    refine Rp.iload dX11_few_58 rfl ?_
    refine Rp.iload_n dX11_few_60 rfl ?_
    first | ((with_reducible show Rp _ _ _ _ (.int (nI _) :: .int (nI _) :: _) _ _); refine Rp.icmp_geN (tgt := 149) dX11_few_61 (by decide) (by omega) (fun c61 => ?_) (fun c61 => ?_)) | refine Rp.icmp_ge (tgt := 149) dX11_few_61 (by decide) (fun c61 => ?_) (fun c61 => ?_)
    · skip
      first | (exfalso; omega) | exact absurd c61 (by decide) | exact absurd (by decide) c61
    · skip
      refine Rp.iload_n dX11_few_64 rfl ?_
      refine Rp.iconst (nI 1) dX11_few_65 (by decide) ?_
      first | ((with_reducible show Rp _ _ _ _ (.int (nI _) :: .int (nI _) :: _) _ _); refine Rp.isubN dX11_few_66 (by omega) ?_) | refine Rp.isub dX11_few_66 ?_
      refine Rp.ist5 dX11_few_67 (by first | exact nl2_some rfl | exact nl2_none) (by decide) ?_
      exact k2
def fewR (k n : Int32) (c : Int32) : Int64 := if (decide (nI 1 ≤ k ∧ k ≤ nI 20) && inN n 100) = true then fwS c (ix n) (ix k) else -1
theorem i1_20 {k : Int32} : decide (nI 1 ≤ k ∧ k ≤ nI 20) = true ↔ ∃ q, 1 ≤ q ∧ q ≤ 20 ∧ k = nI q := by
  rw [decide_eq_true_eq, i32_le, i32_le, nI_toInt (by decide), nI_toInt (by decide)]
  constructor
  · intro z
    exact ⟨k.toInt.toNat, by omega, by omega, by rw [i32_eq, nI_toInt (by omega)]; omega⟩
  · rintro ⟨q, h1, h2, rfl⟩
    rw [nI_toInt (by omega)]; omega
theorem t_few (S : ShOK h) (R : RfOK h) (k n : Int32) : Rp (d + 1) M_X11_few 0 [some (.ref 0), some (.int k), some (.int n), none, none, none, none] [] h (fun r h' => Fr (fwX 67) h h' ∧ r = some (.long (fewR k n (gI h 13 1)))) := by
  unfold fewR
  by_cases e1 : decide (nI 1 ≤ k ∧ k ≤ nI 20) = true
  · obtain ⟨q, q1, q2, rfl⟩ := i1_20.mp e1
    by_cases e2 : inN n 100 = true
    · rw [if_pos (by rw [e1, e2]; rfl)]
      obtain ⟨N, hN, rfl⟩ := (inN_iff (by omega)).mp e2
      rw [ix_nI (by omega), ix_nI (by omega)]
      have n0 : ¬ nI N < 0 := by rw [i32_lt, nI_toInt (by omega)]; exact Int.not_lt.mpr (Int.natCast_nonneg _)
      have fl := t_fillL d S
      have A := HOK.of S R (b := 1) (Or.inl rfl)
      refine Rp.iload_n dX11_few_0 rfl ?_
      refine Rp.iconst (nI 1) dX11_few_1 (by decide) ?_
      first | ((with_reducible show Rp _ _ _ _ (.int (nI _) :: .int (nI _) :: _) _ _); refine Rp.icmp_ltN (tgt := 24) dX11_few_2 (by decide) (by omega) (fun c2 => ?_) (fun c2 => ?_)) | refine Rp.icmp_lt (tgt := 24) dX11_few_2 (by decide) (fun c2 => ?_) (fun c2 => ?_)
      · first | (exfalso; omega) | exact absurd c2 (by decide) | exact absurd (by decide) c2
      refine Rp.iload_n dX11_few_5 rfl ?_
      refine Rp.aload_n dX11_few_6 rfl rfl ?_
      refine Rp.getR dX11_few_7 fk_X11_91 rfl (S _ _ rfl) (R _ _ _ rfl) ?_
      refine Rp.alen dX11_few_10 (S _ _ rfl) (by decide) (by decide) ?_
      rw [show Int32.ofNat 20 = nI 20 from rfl]
      first | ((with_reducible show Rp _ _ _ _ (.int (nI _) :: .int (nI _) :: _) _ _); refine Rp.icmp_gtN (tgt := 24) dX11_few_11 (by decide) (by omega) (fun c11 => ?_) (fun c11 => ?_)) | refine Rp.icmp_gt (tgt := 24) dX11_few_11 (by decide) (fun c11 => ?_) (fun c11 => ?_)
      · first | (exfalso; omega) | exact absurd c11 (by decide) | exact absurd (by decide) c11
      refine Rp.iload_n dX11_few_14 rfl ?_
      refine Rp.if_lt (tgt := 24) dX11_few_15 (by decide) (fun c15 => ?_) (fun c15 => ?_)
      · exact absurd c15 n0
      refine Rp.iload_n dX11_few_18 rfl ?_
      refine Rp.bipush (nI 99) dX11_few_19 (by decide) ?_
      first | ((with_reducible show Rp _ _ _ _ (.int (nI _) :: .int (nI _) :: _) _ _); refine Rp.icmp_leN (tgt := 28) dX11_few_21 (by decide) (by omega) (fun c21 => ?_) (fun c21 => ?_)) | refine Rp.icmp_le (tgt := 28) dX11_few_21 (by decide) (fun c21 => ?_) (fun c21 => ?_)
      rotate_left
      · first | (exfalso; omega) | exact absurd c21 (by decide) | exact absurd (by decide) c21
      refine Rp.aload_n dX11_few_28 rfl rfl ?_
      refine Rp.getR dX11_few_29 fk_X11_10 rfl (S _ _ rfl) (R _ _ _ rfl) ?_
      refine Rp.getR dX11_few_32 fk_X11_187 rfl (A.1 0 _ rfl) (A.2 0 15 12 rfl) ?_
      refine Rp.iconst (nI 1) dX11_few_35 (by decide) ?_
      first | ((with_reducible show Rp _ _ _ _ (.int (nI _) :: _) _ _); refine Rp.ialoadN dX11_few_36 (A.1 12 _ rfl) (by omega) ?_) | refine Rp.iaload dX11_few_36 (A.1 12 _ rfl) (by first | assumption | exact vpb (by decide)) ?_
      refine Rp.ist3 dX11_few_37 (by first | exact nl2_some rfl | exact nl2_none) (by decide) ?_
      refine Rp.aload_n dX11_few_38 rfl rfl ?_
      refine Rp.getR dX11_few_39 fk_X11_91 rfl (S _ _ rfl) (R _ _ _ rfl) ?_
      refine Rp.lconst (0) dX11_few_42 (by decide) ?_
      refine Rp.callS2 M_J7_fill_d0a16 dX11_few_43 mo_J7_fill_d0a16 lk_X11_348 (Nat.le_of_ble_eq_true rfl) (Nat.le_of_ble_eq_true rfl) (fl) (fun v1 h1 p1 x1 => ?_)
      obtain ⟨rfl, F1, h0⟩ := p1
      try dsimp only [Option.toList, List.cons_append, List.nil_append, List.append]
      skip
      have S1 := F1.S S
      have R1 := F1.R R (fwX_ok (Or.inl rfl))
      have k1 := few58 (d + 1) S R (k := q) (N := N) ⟨q1, q2⟩ (by omega) (gI h 13 1) N 0 (sL h1 67 0 1000000000000) none none (by omega) (F1.sL rfl) (fun j hj => by
        by_cases z : j = 0
        · rw [z, gL_hit]; rfl
        · rw [gL_off _ _ _ z, h0 j (by omega)]; show (0 : Int64) = if j = 0 then 1000000000000 else 0; rw [if_neg z])
      refine Rp.aload_n dX11_few_46 rfl rfl ?_
      refine Rp.getR dX11_few_47 fk_X11_91 rfl (S1 _ _ rfl) (R1 _ _ _ rfl) ?_
      refine Rp.iconst (nI 0) dX11_few_50 (by decide) ?_
      refine Rp.ldc2 dX11_few_51 kc_X11_351 ?_
      first | ((with_reducible show Rp _ _ _ _ (_ :: .int (nI _) :: _) _ _); refine Rp.lastoreN dX11_few_54 (S1 _ _ rfl) (by omega) ?_) | refine Rp.lastore dX11_few_54 (S1 _ _ rfl) (by first | assumption | exact vpb (by decide)) ?_
      refine Rp.iconst (nI 0) dX11_few_55 (by decide) ?_
      refine Rp.ist4 dX11_few_56 (by first | exact nl2_some rfl | exact nl2_none) (by decide) ?_
      exact k1
    · have e2 : inN n 100 = false := Bool.eq_false_iff.mpr e2
      rw [if_neg (by rw [e2, Bool.and_false]; decide)]
      have nq : ¬ (¬ n < 0 ∧ n ≤ nI 99) := fun z => by
        have := inN_tle (p := n) (n := 99) (by decide) z.1 z.2
        rw [e2] at this; cases this
      refine Rp.iload_n dX11_few_0 rfl ?_
      refine Rp.iconst (nI 1) dX11_few_1 (by decide) ?_
      first | ((with_reducible show Rp _ _ _ _ (.int (nI _) :: .int (nI _) :: _) _ _); refine Rp.icmp_ltN (tgt := 24) dX11_few_2 (by decide) (by omega) (fun c2 => ?_) (fun c2 => ?_)) | refine Rp.icmp_lt (tgt := 24) dX11_few_2 (by decide) (fun c2 => ?_) (fun c2 => ?_)
      · skip
        first | (exfalso; omega) | exact absurd c2 (by decide) | exact absurd (by decide) c2
      · skip
        refine Rp.iload_n dX11_few_5 rfl ?_
        refine Rp.aload_n dX11_few_6 rfl rfl ?_
        refine Rp.getR dX11_few_7 fk_X11_91 rfl (S _ _ rfl) (R _ _ _ rfl) ?_
        refine Rp.alen dX11_few_10 (S _ _ rfl) (by decide) (by decide) ?_
        rw [show Int32.ofNat 20 = nI 20 from rfl]
        first | ((with_reducible show Rp _ _ _ _ (.int (nI _) :: .int (nI _) :: _) _ _); refine Rp.icmp_gtN (tgt := 24) dX11_few_11 (by decide) (by omega) (fun c11 => ?_) (fun c11 => ?_)) | refine Rp.icmp_gt (tgt := 24) dX11_few_11 (by decide) (fun c11 => ?_) (fun c11 => ?_)
        · skip
          first | (exfalso; omega) | exact absurd c11 (by decide) | exact absurd (by decide) c11
        · skip
          refine Rp.iload_n dX11_few_14 rfl ?_
          refine Rp.if_lt (tgt := 24) dX11_few_15 (by decide) (fun c15 => ?_) (fun c15 => ?_)
          · skip
            refine Rp.ldc2 dX11_few_24 kc_X11_346 ?_
            refine Rp.lreturn dX11_few_27 rfl ?_
            exact ⟨Fr.rfl', rfl⟩
          · skip
            refine Rp.iload_n dX11_few_18 rfl ?_
            refine Rp.bipush (nI 99) dX11_few_19 (by decide) ?_
            first | ((with_reducible show Rp _ _ _ _ (.int (nI _) :: .int (nI _) :: _) _ _); refine Rp.icmp_leN (tgt := 28) dX11_few_21 (by decide) (by omega) (fun c21 => ?_) (fun c21 => ?_)) | refine Rp.icmp_le (tgt := 28) dX11_few_21 (by decide) (fun c21 => ?_) (fun c21 => ?_)
            · skip
              exact absurd (And.intro c15 c21) nq
            · skip
              refine Rp.ldc2 dX11_few_24 kc_X11_346 ?_
              refine Rp.lreturn dX11_few_27 rfl ?_
              exact ⟨Fr.rfl', rfl⟩
  · have e1 : decide (nI 1 ≤ k ∧ k ≤ nI 20) = false := Bool.eq_false_iff.mpr e1
    rw [if_neg (by rw [e1, Bool.false_and]; decide)]
    have nq : ¬ (nI 1 ≤ k ∧ k ≤ nI 20) := of_decide_eq_false e1
    refine Rp.iload_n dX11_few_0 rfl ?_
    refine Rp.iconst (nI 1) dX11_few_1 (by decide) ?_
    first | ((with_reducible show Rp _ _ _ _ (.int (nI _) :: .int (nI _) :: _) _ _); refine Rp.icmp_ltN (tgt := 24) dX11_few_2 (by decide) (by omega) (fun c2 => ?_) (fun c2 => ?_)) | refine Rp.icmp_lt (tgt := 24) dX11_few_2 (by decide) (fun c2 => ?_) (fun c2 => ?_)
    · skip
      refine Rp.ldc2 dX11_few_24 kc_X11_346 ?_
      refine Rp.lreturn dX11_few_27 rfl ?_
      exact ⟨Fr.rfl', rfl⟩
    · skip
      refine Rp.iload_n dX11_few_5 rfl ?_
      refine Rp.aload_n dX11_few_6 rfl rfl ?_
      refine Rp.getR dX11_few_7 fk_X11_91 rfl (S _ _ rfl) (R _ _ _ rfl) ?_
      refine Rp.alen dX11_few_10 (S _ _ rfl) (by decide) (by decide) ?_
      rw [show Int32.ofNat 20 = nI 20 from rfl]
      first | ((with_reducible show Rp _ _ _ _ (.int (nI _) :: .int (nI _) :: _) _ _); refine Rp.icmp_gtN (tgt := 24) dX11_few_11 (by decide) (by omega) (fun c11 => ?_) (fun c11 => ?_)) | refine Rp.icmp_gt (tgt := 24) dX11_few_11 (by decide) (fun c11 => ?_) (fun c11 => ?_)
      · skip
        refine Rp.ldc2 dX11_few_24 kc_X11_346 ?_
        refine Rp.lreturn dX11_few_27 rfl ?_
        exact ⟨Fr.rfl', rfl⟩
      · skip
        exact absurd (And.intro (by rw [i32_lt] at c2; rw [i32_le]; omega) (by rw [i32_lt] at c11; rw [i32_le]; omega)) nq
end Fx
