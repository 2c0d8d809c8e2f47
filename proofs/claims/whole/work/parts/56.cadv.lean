theorem dg_iff (b : Int32) : isDg b = true ↔ (nI 48 ≤ b ∧ b ≤ nI 57) := by unfold isDg; rw [decide_eq_true_eq]
theorem sm_iff (b : Int32) : isSm b = true ↔ (nI 97 ≤ b ∧ b ≤ nI 122) := by unfold isSm; rw [decide_eq_true_eq]
theorem dg_n {b : Int32} (h : isDg b = true) : ∃ x, b = nI x ∧ b.toInt = x ∧ 48 ≤ x ∧ x ≤ 57 := by
  have h1 := isDg_48 h
  refine ⟨b.toInt.toNat, ?_, by omega, by omega, by omega⟩
  rw [i32_eq, nI_toInt (by omega)]; omega
theorem mn_n {a b : Nat} (ha : a < 2147483648) (hb : b < 2147483648) : (if nI b < nI a then nI b else nI a) = nI (min a b) := by
  by_cases h : b < a
  · rw [if_pos (by rw [i32_lt, nI_toInt ha, nI_toInt hb]; omega), Nat.min_eq_right (by omega)]
  · rw [if_neg (by rw [i32_lt, nI_toInt ha, nI_toInt hb]; omega), Nat.min_eq_left (by omega)]
section Av2
variable (d : Nat) {h : AH}
theorem av_dig {P : Option Value → AH → Prop} (S0 : ShOK h) (R0 : RfOK h) {L : Nat} (hL : L ≤ 400) (hl : gI h 35 2 = nI L) (b : Option Value) {s e : Nat} (hs : 1 ≤ e) (kk : ∀ g : AH, Fr avX h g → gI g 35 5 = nI e → gI g 35 6 = gI h 35 6 → gI g 35 7 = gI h 35 7 → gI g 35 8 = nI (min (vF (gI h 36) s (e - s)) 1001) → P none g) : ∀ (m k : Nat) (g : AH), k + m = L → s ≤ k → Fr avX h g → gI g 35 5 = nI k → gI g 35 6 = gI h 35 6 → gI g 35 7 = gI h 35 7 → gI g 35 8 = nI (min (vF (gI h 36) s (k - s)) 1001) → runE isDg (gI h 36) L m k = e → Rp (d + 1) M_X7_advance 179 [some (.ref 35), b] [] g P := by
  intro m
  induction m with
  | zero =>
    intro k g hk hsk F ha h6 h7 h8 he
    have he : k = e := he
    subst he
    have S := F.S S0
    have R := F.R R0 (by decide)
    have el : gI g 35 2 = nI L := (F.I 35 2 rfl).trans hl
    refine Rp.aload_n dX7_advance_179 rfl rfl ?_
    refine Rp.getI dX7_advance_180 fk_X7_39 rfl (S _ _ rfl) ?_
    first | rw [ha] | rw [el] | skip
    refine Rp.aload_n dX7_advance_183 rfl rfl ?_
    refine Rp.getI dX7_advance_184 fk_X7_26 rfl (S _ _ rfl) ?_
    first | rw [ha] | rw [el] | skip
    first | ((with_reducible show Rp _ _ _ _ (.int (nI _) :: .int (nI _) :: _) _ _); refine Rp.icmp_geN (tgt := 270) dX7_advance_187 (by decide) (by omega) (fun c187 => ?_) (fun c187 => ?_)) | refine Rp.icmp_ge (tgt := 270) dX7_advance_187 (by decide) (fun c187 => ?_) (fun c187 => ?_)
    · skip
      refine Rp.vreturn dX7_advance_270 rfl ?_
      exact kk g F ha h6 h7 h8
    · skip
      first | (exfalso; omega) | exact absurd c187 (by decide) | exact absurd (by decide) c187
  | succ m ih =>
    intro k g hk hsk F ha h6 h7 h8 he
    have S := F.S S0
    have R := F.R R0 (by decide)
    have el : gI g 35 2 = nI L := (F.I 35 2 rfl).trans hl
    have eb : gI g 36 k = gI h 36 k := F.I 36 k rfl
    rw [runE] at he
    by_cases hq : isDg (gI h 36 k) = true
    · rw [if_pos ⟨by omega, hq⟩] at he
      obtain ⟨x, ex, ex2, hx1, hx2⟩ := dg_n hq
      have hlt : ¬ gI h 36 k < nI 48 := by rw [i32_lt, ex2, nI_toInt (by decide)]; omega
      have hgt : ¬ nI 57 < gI h 36 k := by rw [i32_lt, ex2, nI_toInt (by decide)]; omega
      have hm := vF_min (gI h 36) s (k - s) x (by rw [show s + (k - s) = k by omega]; exact ex2) hx1 hx2
      have hc : min (vF (gI h 36) s (k - s)) 1001 ≤ 1001 := Nat.min_le_right _ _
      rw [show k - s + 1 = k + 1 - s by omega] at hm
      refine Rp.aload_n dX7_advance_179 rfl rfl ?_
      refine Rp.getI dX7_advance_180 fk_X7_39 rfl (S _ _ rfl) ?_
      first | rw [ha] | rw [el] | rw [eb] | rw [h8] | skip
      refine Rp.aload_n dX7_advance_183 rfl rfl ?_
      refine Rp.getI dX7_advance_184 fk_X7_26 rfl (S _ _ rfl) ?_
      first | rw [ha] | rw [el] | rw [eb] | rw [h8] | skip
      first | ((with_reducible show Rp _ _ _ _ (.int (nI _) :: .int (nI _) :: _) _ _); refine Rp.icmp_geN (tgt := 270) dX7_advance_187 (by decide) (by omega) (fun c187 => ?_) (fun c187 => ?_)) | refine Rp.icmp_ge (tgt := 270) dX7_advance_187 (by decide) (fun c187 => ?_) (fun c187 => ?_)
      · skip
        first | (exfalso; omega) | exact absurd c187 (by decide) | exact absurd (by decide) c187
      · skip
        refine Rp.aload_n dX7_advance_190 rfl rfl ?_
        refine Rp.getR dX7_advance_191 fk_X7_9 rfl (S _ _ rfl) (R _ _ _ rfl) ?_
        refine Rp.aload_n dX7_advance_194 rfl rfl ?_
        refine Rp.getI dX7_advance_195 fk_X7_39 rfl (S _ _ rfl) ?_
        first | rw [ha] | rw [el] | rw [eb] | rw [h8] | skip
        first | ((with_reducible show Rp _ _ _ _ (.int (nI _) :: _) _ _); refine Rp.baloadN dX7_advance_198 (S _ _ rfl) (by omega) ?_) | refine Rp.baload dX7_advance_198 (S _ _ rfl) (by first | assumption | exact vpb (by decide)) ?_
        first | rw [ha] | rw [el] | rw [eb] | rw [h8] | skip
        refine Rp.bipush (nI 48) dX7_advance_199 (by decide) ?_
        first | ((with_reducible show Rp _ _ _ _ (.int (nI _) :: .int (nI _) :: _) _ _); refine Rp.icmp_ltN (tgt := 270) dX7_advance_201 (by decide) (by omega) (fun c201 => ?_) (fun c201 => ?_)) | refine Rp.icmp_lt (tgt := 270) dX7_advance_201 (by decide) (fun c201 => ?_) (fun c201 => ?_)
        · skip
          exact absurd c201 hlt
        · skip
          refine Rp.aload_n dX7_advance_204 rfl rfl ?_
          refine Rp.getR dX7_advance_205 fk_X7_9 rfl (S _ _ rfl) (R _ _ _ rfl) ?_
          refine Rp.aload_n dX7_advance_208 rfl rfl ?_
          refine Rp.getI dX7_advance_209 fk_X7_39 rfl (S _ _ rfl) ?_
          first | rw [ha] | rw [el] | rw [eb] | rw [h8] | skip
          first | ((with_reducible show Rp _ _ _ _ (.int (nI _) :: _) _ _); refine Rp.baloadN dX7_advance_212 (S _ _ rfl) (by omega) ?_) | refine Rp.baload dX7_advance_212 (S _ _ rfl) (by first | assumption | exact vpb (by decide)) ?_
          first | rw [ha] | rw [el] | rw [eb] | rw [h8] | skip
          refine Rp.bipush (nI 57) dX7_advance_213 (by decide) ?_
          first | ((with_reducible show Rp _ _ _ _ (.int (nI _) :: .int (nI _) :: _) _ _); refine Rp.icmp_gtN (tgt := 270) dX7_advance_215 (by decide) (by omega) (fun c215 => ?_) (fun c215 => ?_)) | refine Rp.icmp_gt (tgt := 270) dX7_advance_215 (by decide) (fun c215 => ?_) (fun c215 => ?_)
          · skip
            exact absurd c215 hgt
          · skip
            refine Rp.aload_n dX7_advance_218 rfl rfl ?_
            refine Rp.aload_n dX7_advance_219 rfl rfl ?_
            refine Rp.getI dX7_advance_220 fk_X7_102 rfl (S _ _ rfl) ?_
            first | rw [ha] | rw [el] | rw [eb] | rw [h8] | skip
            refine Rp.bipush (nI 10) dX7_advance_223 (by decide) ?_
            first | ((with_reducible show Rp _ _ _ _ (.int (nI _) :: .int (nI _) :: _) _ _); refine Rp.imulN dX7_advance_225 ?_) | refine Rp.imul dX7_advance_225 ?_
            refine Rp.aload_n dX7_advance_226 rfl rfl ?_
            refine Rp.getR dX7_advance_227 fk_X7_9 rfl (S _ _ rfl) (R _ _ _ rfl) ?_
            refine Rp.aload_n dX7_advance_230 rfl rfl ?_
            refine Rp.getI dX7_advance_231 fk_X7_39 rfl (S _ _ rfl) ?_
            first | rw [ha] | rw [el] | rw [eb] | rw [h8] | skip
            first | ((with_reducible show Rp _ _ _ _ (.int (nI _) :: _) _ _); refine Rp.baloadN dX7_advance_234 (S _ _ rfl) (by omega) ?_) | refine Rp.baload dX7_advance_234 (S _ _ rfl) (by first | assumption | exact vpb (by decide)) ?_
            first | rw [ha] | rw [el] | rw [eb] | rw [h8] | skip
            rw [ex]
            first | ((with_reducible show Rp _ _ _ _ (.int (nI _) :: .int (nI _) :: _) _ _); refine Rp.iaddN dX7_advance_235 ?_) | refine Rp.iadd dX7_advance_235 ?_
            refine Rp.bipush (nI 48) dX7_advance_236 (by decide) ?_
            first | ((with_reducible show Rp _ _ _ _ (.int (nI _) :: .int (nI _) :: _) _ _); refine Rp.isubN dX7_advance_238 (by omega) ?_) | refine Rp.isub dX7_advance_238 ?_
            refine Rp.sipush (nI 1001) dX7_advance_239 (by decide +kernel) ?_
            refine Rp.mmin dX7_advance_242 mm_X7_151 (Nat.le_of_ble_eq_true rfl) ?_
            rw [mn_n (by omega) (by omega), show min (vF (gI h 36) s (k - s)) 1001 * 10 + x - 48 = 10 * min (vF (gI h 36) s (k - s)) 1001 + x - 48 by omega, hm]
            refine Rp.putI dX7_advance_245 fk_X7_102w rfl (S _ _ rfl) ?_
            refine Rp.aload_n dX7_advance_248 rfl rfl ?_
            refine Rp.dup dX7_advance_249 rfl ?_
            skip
            refine Rp.getI dX7_advance_250 fk_X7_39 rfl (S _ _ rfl) ?_
            first | rw [ha] | rw [el] | rw [eb] | rw [h8] | skip
            rw [gI_off _ _ _ (by decide), ha]
            refine Rp.iconst (nI 1) dX7_advance_253 (by decide) ?_
            first | ((with_reducible show Rp _ _ _ _ (.int (nI _) :: .int (nI _) :: _) _ _); refine Rp.iaddN dX7_advance_254 ?_) | refine Rp.iadd dX7_advance_254 ?_
            refine Rp.putI dX7_advance_255 fk_X7_39w rfl (S _ _ rfl) ?_
            refine Rp.goto (tgt := 179) dX7_advance_258 (by decide) ?_
            exact ih (k + 1) _ (by omega) (by omega) ((F.sI rfl).sI rfl) (gI_hit _ _ _ _) (by rw [gI_off _ _ _ (by decide), gI_off _ _ _ (by decide)]; exact h6) (by rw [gI_off _ _ _ (by decide), gI_off _ _ _ (by decide)]; exact h7) (by rw [gI_off _ _ _ (by decide), gI_hit]) he
    · rw [if_neg (fun z => hq z.2)] at he
      subst he
      refine Rp.aload_n dX7_advance_179 rfl rfl ?_
      refine Rp.getI dX7_advance_180 fk_X7_39 rfl (S _ _ rfl) ?_
      first | rw [ha] | rw [el] | rw [eb] | skip
      refine Rp.aload_n dX7_advance_183 rfl rfl ?_
      refine Rp.getI dX7_advance_184 fk_X7_26 rfl (S _ _ rfl) ?_
      first | rw [ha] | rw [el] | rw [eb] | skip
      first | ((with_reducible show Rp _ _ _ _ (.int (nI _) :: .int (nI _) :: _) _ _); refine Rp.icmp_geN (tgt := 270) dX7_advance_187 (by decide) (by omega) (fun c187 => ?_) (fun c187 => ?_)) | refine Rp.icmp_ge (tgt := 270) dX7_advance_187 (by decide) (fun c187 => ?_) (fun c187 => ?_)
      · skip
        first | (exfalso; omega) | exact absurd c187 (by decide) | exact absurd (by decide) c187
      · skip
        refine Rp.aload_n dX7_advance_190 rfl rfl ?_
        refine Rp.getR dX7_advance_191 fk_X7_9 rfl (S _ _ rfl) (R _ _ _ rfl) ?_
        refine Rp.aload_n dX7_advance_194 rfl rfl ?_
        refine Rp.getI dX7_advance_195 fk_X7_39 rfl (S _ _ rfl) ?_
        first | rw [ha] | rw [el] | rw [eb] | skip
        first | ((with_reducible show Rp _ _ _ _ (.int (nI _) :: _) _ _); refine Rp.baloadN dX7_advance_198 (S _ _ rfl) (by omega) ?_) | refine Rp.baload dX7_advance_198 (S _ _ rfl) (by first | assumption | exact vpb (by decide)) ?_
        first | rw [ha] | rw [el] | rw [eb] | skip
        refine Rp.bipush (nI 48) dX7_advance_199 (by decide) ?_
        first | ((with_reducible show Rp _ _ _ _ (.int (nI _) :: .int (nI _) :: _) _ _); refine Rp.icmp_ltN (tgt := 270) dX7_advance_201 (by decide) (by omega) (fun c201 => ?_) (fun c201 => ?_)) | refine Rp.icmp_lt (tgt := 270) dX7_advance_201 (by decide) (fun c201 => ?_) (fun c201 => ?_)
        · skip
          refine Rp.vreturn dX7_advance_270 rfl ?_
          exact kk g F ha h6 h7 h8
        · skip
          refine Rp.aload_n dX7_advance_204 rfl rfl ?_
          refine Rp.getR dX7_advance_205 fk_X7_9 rfl (S _ _ rfl) (R _ _ _ rfl) ?_
          refine Rp.aload_n dX7_advance_208 rfl rfl ?_
          refine Rp.getI dX7_advance_209 fk_X7_39 rfl (S _ _ rfl) ?_
          first | rw [ha] | rw [el] | rw [eb] | skip
          first | ((with_reducible show Rp _ _ _ _ (.int (nI _) :: _) _ _); refine Rp.baloadN dX7_advance_212 (S _ _ rfl) (by omega) ?_) | refine Rp.baload dX7_advance_212 (S _ _ rfl) (by first | assumption | exact vpb (by decide)) ?_
          first | rw [ha] | rw [el] | rw [eb] | skip
          refine Rp.bipush (nI 57) dX7_advance_213 (by decide) ?_
          first | ((with_reducible show Rp _ _ _ _ (.int (nI _) :: .int (nI _) :: _) _ _); refine Rp.icmp_gtN (tgt := 270) dX7_advance_215 (by decide) (by omega) (fun c215 => ?_) (fun c215 => ?_)) | refine Rp.icmp_gt (tgt := 270) dX7_advance_215 (by decide) (fun c215 => ?_) (fun c215 => ?_)
          · skip
            refine Rp.vreturn dX7_advance_270 rfl ?_
            exact kk g F ha h6 h7 h8
          · skip
            exact absurd ((dg_iff _).mpr ⟨by rw [i32_lt] at c201; rw [i32_le]; omega, by rw [i32_lt] at c215; rw [i32_le]; omega⟩) hq
theorem TS_some {g : AH} {L j : Nat} {TL : List (Nat × Nat)} {q : Nat × Nat} (hq : TL[j]? = some q) (h1 : gI g 35 6 = nI q.1) (h2 : gI g 35 5 = nI q.2) (h3 : gI g 35 7 = sgT (gI g 36) q) (h4 : isDg (gI g 36 q.1) = true → gI g 35 8 = nI (min (tkV (gI g 36) q) 1001)) : TS g L TL j := by
  unfold TS; rw [hq]; exact ⟨h1, h2, h3, h4⟩
theorem av_tok {L : Nat} (S : ShOK h) (R : RfOK h) (hL : L ≤ 400) (hl : gI h 35 2 = nI L) {TL : List (Nat × Nat)} {j k : Nat} (hk : k < L) (ha : gI h 35 5 = nI k) (h6 : gI h 35 6 = nI k) (hq : TL[j]? = some (k, tokE (gI h 36) L k)) : Rp (d + 1) M_X7_advance 63 [some (.ref 35), none] [] h (fun r h' => r = none ∧ Fr avX h h' ∧ TS h' L TL j) := by
  have hb := tokE_bnd (gI h 36) L k hk
  have tq : ∀ g : AH, Fr avX h g → gI g 36 = gI h 36 := fun g F => funext fun i => F.I 36 i rfl
  by_cases hsm : isSm (gI h 36 k) = true
  · have q := (sm_iff _).mp hsm
    have he : tokE (gI h 36) L k = runE isSm (gI h 36) L (L - (k + 1)) (k + 1) := if_pos hsm
    refine Rp.aload_n dX7_advance_63 rfl rfl ?_
    refine Rp.getR dX7_advance_64 fk_X7_9 rfl (S _ _ rfl) (R _ _ _ rfl) ?_
    refine Rp.aload_n dX7_advance_67 rfl rfl ?_
    refine Rp.getI dX7_advance_68 fk_X7_39 rfl (S _ _ rfl) ?_
    first | rw [ha] | skip
    first | ((with_reducible show Rp _ _ _ _ (.int (nI _) :: _) _ _); refine Rp.baloadN dX7_advance_71 (S _ _ rfl) (by omega) ?_) | refine Rp.baload dX7_advance_71 (S _ _ rfl) (by first | assumption | exact vpb (by decide)) ?_
    first | rw [ha] | skip
    refine Rp.ist1 dX7_advance_72 (by first | exact nl2_some rfl | exact nl2_none) (by decide) ?_
    refine Rp.aload_n dX7_advance_73 rfl rfl ?_
    refine Rp.dup dX7_advance_74 rfl ?_
    refine Rp.getI dX7_advance_75 fk_X7_39 rfl (S _ _ rfl) ?_
    first | rw [ha] | skip
    refine Rp.iconst (nI 1) dX7_advance_78 (by decide) ?_
    first | ((with_reducible show Rp _ _ _ _ (.int (nI _) :: .int (nI _) :: _) _ _); refine Rp.iaddN dX7_advance_79 ?_) | refine Rp.iadd dX7_advance_79 ?_
    refine Rp.putI dX7_advance_80 fk_X7_39w rfl (S _ _ rfl) ?_
    refine Rp.iload_n dX7_advance_83 rfl ?_
    refine Rp.bipush (nI 97) dX7_advance_84 (by decide) ?_
    first | ((with_reducible show Rp _ _ _ _ (.int (nI _) :: .int (nI _) :: _) _ _); refine Rp.icmp_ltN (tgt := 153) dX7_advance_86 (by decide) (by omega) (fun c86 => ?_) (fun c86 => ?_)) | refine Rp.icmp_lt (tgt := 153) dX7_advance_86 (by decide) (fun c86 => ?_) (fun c86 => ?_)
    · exact absurd c86 (by rw [i32_lt]; rw [i32_le] at q; omega)
    refine Rp.iload_n dX7_advance_89 rfl ?_
    refine Rp.bipush (nI 122) dX7_advance_90 (by decide) ?_
    first | ((with_reducible show Rp _ _ _ _ (.int (nI _) :: .int (nI _) :: _) _ _); refine Rp.icmp_gtN (tgt := 153) dX7_advance_92 (by decide) (by omega) (fun c92 => ?_) (fun c92 => ?_)) | refine Rp.icmp_gt (tgt := 153) dX7_advance_92 (by decide) (fun c92 => ?_) (fun c92 => ?_)
    · exact absurd c92 (by rw [i32_lt]; rw [i32_le, i32_le] at q; omega)
    refine Rp.aload_n dX7_advance_95 rfl rfl ?_
    refine Rp.bipush (-2) dX7_advance_96 (by decide) ?_
    refine Rp.putI dX7_advance_98 fk_X7_48w rfl (S _ _ rfl) ?_
    skip
    have F1 : Fr avX h (sI (sI h 35 5 (nI (k + 1))) 35 7 (-2)) := (Fr.rfl'.sI rfl).sI rfl
    refine av_let d (F1.S S) (F1.R R (by decide)) hL ((F1.I 35 2 rfl).trans hl) _ (e := tokE (gI h 36) L k) (fun g F a5 a6 a7 => ?_) (L - (k + 1)) (k + 1) _ (by omega) Fr.rfl' (by rw [gI_off _ _ _ (by decide), gI_hit]) rfl rfl (by rw [tq _ F1]; exact he.symm)
    have F2 := F1.trans F
    refine ⟨rfl, F2, TS_some hq ?_ a5 ?_ ?_⟩
    · rw [a6, gI_off _ _ _ (by decide), gI_off _ _ _ (by decide)]; exact h6
    · rw [a7, gI_hit, tq _ F2]; unfold sgT; rw [if_pos hsm]
    · rw [tq _ F2]; intro z
      exact absurd z (by
        intro z; have z : nI 48 ≤ gI h 36 k ∧ gI h 36 k ≤ nI 57 := (dg_iff _).mp z
        rw [i32_le, i32_le, nI_toInt (by decide), nI_toInt (by decide)] at z q; omega)
  · by_cases hdg : isDg (gI h 36 k) = true
    · obtain ⟨x, ex, ex2, hx1, hx2⟩ := dg_n hdg
      have he : tokE (gI h 36) L k = runE isDg (gI h 36) L (L - (k + 1)) (k + 1) := by unfold tokE; rw [if_neg hsm, if_pos hdg]
      have v1 : vF (gI h 36) k 1 = x - 48 := by
        rw [show vF (gI h 36) k 1 = vSt (vF (gI h 36) k 0) (gI h 36 (k + 0)) from rfl, show vF (gI h 36) k 0 = 0 from rfl, Nat.add_zero, vSt, if_neg (by decide), ex2]; omega
      refine Rp.aload_n dX7_advance_63 rfl rfl ?_
      refine Rp.getR dX7_advance_64 fk_X7_9 rfl (S _ _ rfl) (R _ _ _ rfl) ?_
      refine Rp.aload_n dX7_advance_67 rfl rfl ?_
      refine Rp.getI dX7_advance_68 fk_X7_39 rfl (S _ _ rfl) ?_
      first | rw [ha] | skip
      first | ((with_reducible show Rp _ _ _ _ (.int (nI _) :: _) _ _); refine Rp.baloadN dX7_advance_71 (S _ _ rfl) (by omega) ?_) | refine Rp.baload dX7_advance_71 (S _ _ rfl) (by first | assumption | exact vpb (by decide)) ?_
      first | rw [ha] | skip
      refine Rp.ist1 dX7_advance_72 (by first | exact nl2_some rfl | exact nl2_none) (by decide) ?_
      refine Rp.aload_n dX7_advance_73 rfl rfl ?_
      refine Rp.dup dX7_advance_74 rfl ?_
      refine Rp.getI dX7_advance_75 fk_X7_39 rfl (S _ _ rfl) ?_
      first | rw [ha] | skip
      refine Rp.iconst (nI 1) dX7_advance_78 (by decide) ?_
      first | ((with_reducible show Rp _ _ _ _ (.int (nI _) :: .int (nI _) :: _) _ _); refine Rp.iaddN dX7_advance_79 ?_) | refine Rp.iadd dX7_advance_79 ?_
      refine Rp.putI dX7_advance_80 fk_X7_39w rfl (S _ _ rfl) ?_
      refine Rp.iload_n dX7_advance_83 rfl ?_
      refine Rp.bipush (nI 97) dX7_advance_84 (by decide) ?_
      first | ((with_reducible show Rp _ _ _ _ (.int (nI _) :: .int (nI _) :: _) _ _); refine Rp.icmp_ltN (tgt := 153) dX7_advance_86 (by decide) (by omega) (fun c86 => ?_) (fun c86 => ?_)) | refine Rp.icmp_lt (tgt := 153) dX7_advance_86 (by decide) (fun c86 => ?_) (fun c86 => ?_)
      rotate_left
      · exact absurd c86 (by rw [i32_lt, ex2, nI_toInt (by decide)]; omega)
      refine Rp.iload_n dX7_advance_153 rfl ?_
      refine Rp.bipush (nI 48) dX7_advance_154 (by decide) ?_
      first | ((with_reducible show Rp _ _ _ _ (.int (nI _) :: .int (nI _) :: _) _ _); refine Rp.icmp_ltN (tgt := 261) dX7_advance_156 (by decide) (by omega) (fun c156 => ?_) (fun c156 => ?_)) | refine Rp.icmp_lt (tgt := 261) dX7_advance_156 (by decide) (fun c156 => ?_) (fun c156 => ?_)
      · exact absurd c156 (by rw [i32_lt, ex2, nI_toInt (by decide)]; omega)
      refine Rp.iload_n dX7_advance_159 rfl ?_
      refine Rp.bipush (nI 57) dX7_advance_160 (by decide) ?_
      first | ((with_reducible show Rp _ _ _ _ (.int (nI _) :: .int (nI _) :: _) _ _); refine Rp.icmp_gtN (tgt := 261) dX7_advance_162 (by decide) (by omega) (fun c162 => ?_) (fun c162 => ?_)) | refine Rp.icmp_gt (tgt := 261) dX7_advance_162 (by decide) (fun c162 => ?_) (fun c162 => ?_)
      · exact absurd c162 (by rw [i32_lt, ex2, nI_toInt (by decide)]; omega)
      refine Rp.aload_n dX7_advance_165 rfl rfl ?_
      refine Rp.bipush (-3) dX7_advance_166 (by decide) ?_
      refine Rp.putI dX7_advance_168 fk_X7_48w rfl (S _ _ rfl) ?_
      refine Rp.aload_n dX7_advance_171 rfl rfl ?_
      refine Rp.iload_n dX7_advance_172 rfl ?_
      refine Rp.bipush (nI 48) dX7_advance_173 (by decide) ?_
      rw [ex]
      first | ((with_reducible show Rp _ _ _ _ (.int (nI _) :: .int (nI _) :: _) _ _); refine Rp.isubN dX7_advance_175 (by omega) ?_) | refine Rp.isub dX7_advance_175 ?_
      refine Rp.putI dX7_advance_176 fk_X7_102w rfl (S _ _ rfl) ?_
      skip
      have F1 : Fr avX h (sI (sI (sI h 35 5 (nI (k + 1))) 35 7 (-3)) 35 8 (nI (x - 48))) := ((Fr.rfl'.sI rfl).sI rfl).sI rfl
      refine av_dig d (F1.S S) (F1.R R (by decide)) hL ((F1.I 35 2 rfl).trans hl) _ (s := k) (e := tokE (gI h 36) L k) (by omega) (fun g F a5 a6 a7 a8 => ?_) (L - (k + 1)) (k + 1) _ (by omega) (by omega) Fr.rfl' (by rw [gI_off _ _ _ (by decide), gI_off _ _ _ (by decide), gI_hit]) rfl rfl (by rw [gI_hit, tq _ F1, show k + 1 - k = 1 by omega, v1]; congr 1; omega) (by rw [tq _ F1]; exact he.symm)
      have F2 := F1.trans F
      refine ⟨rfl, F2, TS_some hq ?_ a5 ?_ ?_⟩
      · rw [a6, gI_off _ _ _ (by decide), gI_off _ _ _ (by decide), gI_off _ _ _ (by decide)]; exact h6
      · rw [a7, gI_off _ _ _ (by decide), gI_hit, tq _ F2]; unfold sgT; rw [if_neg hsm, if_pos hdg]
      · intro _
        rw [a8, tq _ F2, tq _ F1]; unfold tkV; rw [if_pos hdg]
    · have he : tokE (gI h 36) L k = k + 1 := by unfold tokE; rw [if_neg hsm, if_neg hdg]
      have hx := (ub_lt (gI h 36 k)).2
      have fin : Rp (d + 1) M_X7_advance 261 [some (.ref 35), some (.int (gI h 36 k))] [] (sI h 35 5 (nI (k + 1))) (fun r h' => r = none ∧ Fr avX h h' ∧ TS h' L TL j) := by
        refine Rp.aload_n dX7_advance_261 rfl rfl ?_
        refine Rp.iload_n dX7_advance_262 rfl ?_
        refine Rp.sipush (nI 255) dX7_advance_263 (by decide) ?_
        refine Rp.iand dX7_advance_266 ?_
        rw [hx]
        refine Rp.putI dX7_advance_267 fk_X7_48w rfl (S _ _ rfl) ?_
        refine Rp.vreturn dX7_advance_270 rfl ?_
        skip
        have F2 : Fr avX h (sI (sI h 35 5 (nI (k + 1))) 35 7 (nI (ub (gI h 36 k)))) := (Fr.rfl'.sI rfl).sI rfl
        refine ⟨rfl, F2, TS_some hq ?_ ?_ ?_ ?_⟩
        · rw [gI_off _ _ _ (by decide), gI_off _ _ _ (by decide)]; exact h6
        · rw [gI_off _ _ _ (by decide), gI_hit, he]
        · rw [gI_hit, tq _ F2]; unfold sgT; rw [if_neg hsm, if_neg hdg]
        · rw [tq _ F2]; intro z; exact absurd z hdg
      refine Rp.aload_n dX7_advance_63 rfl rfl ?_
      refine Rp.getR dX7_advance_64 fk_X7_9 rfl (S _ _ rfl) (R _ _ _ rfl) ?_
      refine Rp.aload_n dX7_advance_67 rfl rfl ?_
      refine Rp.getI dX7_advance_68 fk_X7_39 rfl (S _ _ rfl) ?_
      first | rw [ha] | skip
      first | ((with_reducible show Rp _ _ _ _ (.int (nI _) :: _) _ _); refine Rp.baloadN dX7_advance_71 (S _ _ rfl) (by omega) ?_) | refine Rp.baload dX7_advance_71 (S _ _ rfl) (by first | assumption | exact vpb (by decide)) ?_
      first | rw [ha] | skip
      refine Rp.ist1 dX7_advance_72 (by first | exact nl2_some rfl | exact nl2_none) (by decide) ?_
      refine Rp.aload_n dX7_advance_73 rfl rfl ?_
      refine Rp.dup dX7_advance_74 rfl ?_
      refine Rp.getI dX7_advance_75 fk_X7_39 rfl (S _ _ rfl) ?_
      first | rw [ha] | skip
      refine Rp.iconst (nI 1) dX7_advance_78 (by decide) ?_
      first | ((with_reducible show Rp _ _ _ _ (.int (nI _) :: .int (nI _) :: _) _ _); refine Rp.iaddN dX7_advance_79 ?_) | refine Rp.iadd dX7_advance_79 ?_
      refine Rp.putI dX7_advance_80 fk_X7_39w rfl (S _ _ rfl) ?_
      refine Rp.iload_n dX7_advance_83 rfl ?_
      refine Rp.bipush (nI 97) dX7_advance_84 (by decide) ?_
      first | ((with_reducible show Rp _ _ _ _ (.int (nI _) :: .int (nI _) :: _) _ _); refine Rp.icmp_ltN (tgt := 153) dX7_advance_86 (by decide) (by omega) (fun c86 => ?_) (fun c86 => ?_)) | refine Rp.icmp_lt (tgt := 153) dX7_advance_86 (by decide) (fun c86 => ?_) (fun c86 => ?_)
      · skip
        refine Rp.iload_n dX7_advance_153 rfl ?_
        refine Rp.bipush (nI 48) dX7_advance_154 (by decide) ?_
        first | ((with_reducible show Rp _ _ _ _ (.int (nI _) :: .int (nI _) :: _) _ _); refine Rp.icmp_ltN (tgt := 261) dX7_advance_156 (by decide) (by omega) (fun c156 => ?_) (fun c156 => ?_)) | refine Rp.icmp_lt (tgt := 261) dX7_advance_156 (by decide) (fun c156 => ?_) (fun c156 => ?_)
        · skip
          exact fin
        · skip
          refine Rp.iload_n dX7_advance_159 rfl ?_
          refine Rp.bipush (nI 57) dX7_advance_160 (by decide) ?_
          first | ((with_reducible show Rp _ _ _ _ (.int (nI _) :: .int (nI _) :: _) _ _); refine Rp.icmp_gtN (tgt := 261) dX7_advance_162 (by decide) (by omega) (fun c162 => ?_) (fun c162 => ?_)) | refine Rp.icmp_gt (tgt := 261) dX7_advance_162 (by decide) (fun c162 => ?_) (fun c162 => ?_)
          · skip
            exact fin
          · skip
            exact absurd ((dg_iff _).mpr ⟨by rw [i32_lt] at c156; rw [i32_le]; omega, by rw [i32_lt] at c162; rw [i32_le]; omega⟩) hdg
      · skip
        refine Rp.iload_n dX7_advance_89 rfl ?_
        refine Rp.bipush (nI 122) dX7_advance_90 (by decide) ?_
        first | ((with_reducible show Rp _ _ _ _ (.int (nI _) :: .int (nI _) :: _) _ _); refine Rp.icmp_gtN (tgt := 153) dX7_advance_92 (by decide) (by omega) (fun c92 => ?_) (fun c92 => ?_)) | refine Rp.icmp_gt (tgt := 153) dX7_advance_92 (by decide) (fun c92 => ?_) (fun c92 => ?_)
        · skip
          refine Rp.iload_n dX7_advance_153 rfl ?_
          refine Rp.bipush (nI 48) dX7_advance_154 (by decide) ?_
          first | ((with_reducible show Rp _ _ _ _ (.int (nI _) :: .int (nI _) :: _) _ _); refine Rp.icmp_ltN (tgt := 261) dX7_advance_156 (by decide) (by omega) (fun c156 => ?_) (fun c156 => ?_)) | refine Rp.icmp_lt (tgt := 261) dX7_advance_156 (by decide) (fun c156 => ?_) (fun c156 => ?_)
          · skip
            exact fin
          · skip
            refine Rp.iload_n dX7_advance_159 rfl ?_
            refine Rp.bipush (nI 57) dX7_advance_160 (by decide) ?_
            first | ((with_reducible show Rp _ _ _ _ (.int (nI _) :: .int (nI _) :: _) _ _); refine Rp.icmp_gtN (tgt := 261) dX7_advance_162 (by decide) (by omega) (fun c162 => ?_) (fun c162 => ?_)) | refine Rp.icmp_gt (tgt := 261) dX7_advance_162 (by decide) (fun c162 => ?_) (fun c162 => ?_)
            · skip
              exact fin
            · skip
              exact absurd ((dg_iff _).mpr ⟨by rw [i32_lt] at c156; rw [i32_le]; omega, by rw [i32_lt] at c162; rw [i32_le]; omega⟩) hdg
        · skip
          exact absurd ((sm_iff _).mpr ⟨by rw [i32_lt] at c86; rw [i32_le]; omega, by rw [i32_lt] at c92; rw [i32_le]; omega⟩) hsm
theorem t_adv {L : Nat} (S : ShOK h) (R : RfOK h) (hL : L ≤ 400) (hl : gI h 35 2 = nI L) {TL : List (Nat × Nat)} {j k : Nat} (hk : k ≤ L) (ha : gI h 35 5 = nI k) (ht : toks (gI h 36) L (L - k) k = TL.drop j) : Rp (d + 1) M_X7_advance 0 [some (.ref 35), none] [] h (fun r h' => r = none ∧ Fr avX h h' ∧ TS h' L TL j) := by
  refine av_blank d S R hL hl (TL := TL) (j := j) (fun g k F ha hk ht hb => ?_) (L - k) k h (by omega) Fr.rfl' ha ht
  have S1 := F.S S
  have R1 := F.R R (by decide)
  have el : gI g 35 2 = nI L := (F.I 35 2 rfl).trans hl
  have tq : gI g 36 = gI h 36 := funext fun i => F.I 36 i rfl
  by_cases hkl : k < L
  · rw [toks_tok hkl (hb hkl) (by omega)] at ht
    have hq : TL[j]? = some (k, tokE (gI h 36) L k) := by
      have := congrArg (fun l => l[0]?) ht
      simpa using this.symm
    refine Rp.aload_n dX7_advance_38 rfl rfl ?_
    refine Rp.aload_n dX7_advance_39 rfl rfl ?_
    refine Rp.getI dX7_advance_40 fk_X7_39 rfl (S1 _ _ rfl) ?_
    first | rw [ha] | rw [el] | skip
    refine Rp.putI dX7_advance_43 fk_X7_54w rfl (S1 _ _ rfl) ?_
    refine Rp.aload_n dX7_advance_46 rfl rfl ?_
    refine Rp.getI dX7_advance_47 fk_X7_39 rfl (S1 _ _ rfl) ?_
    first | rw [ha] | rw [el] | skip
    rw [gI_off _ _ _ (by decide), ha]
    refine Rp.aload_n dX7_advance_50 rfl rfl ?_
    refine Rp.getI dX7_advance_51 fk_X7_26 rfl (S1 _ _ rfl) ?_
    first | rw [ha] | rw [el] | skip
    rw [gI_off _ _ _ (by decide), el]
    first | ((with_reducible show Rp _ _ _ _ (.int (nI _) :: .int (nI _) :: _) _ _); refine Rp.icmp_ltN (tgt := 63) dX7_advance_54 (by decide) (by omega) (fun c54 => ?_) (fun c54 => ?_)) | refine Rp.icmp_lt (tgt := 63) dX7_advance_54 (by decide) (fun c54 => ?_) (fun c54 => ?_)
    rotate_left
    · first | (exfalso; omega) | exact absurd c54 (by decide) | exact absurd (by decide) c54
    skip
    have F1 : Fr avX g (sI g 35 6 (nI k)) := Fr.rfl'.sI rfl
    have tq1 : gI (sI g 35 6 (nI k)) 36 = gI h 36 := (funext fun i => F1.I 36 i rfl).trans tq
    exact Rp.mono (fun r h' p => ⟨p.1, (F.trans F1).trans p.2.1, p.2.2⟩) (av_tok d (F1.S S1) (F1.R R1 (by decide)) hL ((F1.I 35 2 rfl).trans el) (k := k) hkl (by rw [gI_off _ _ _ (by decide)]; exact ha) (gI_hit _ _ _ _) (by rw [tq1]; exact hq))
  · have e : k = L := by omega
    subst e
    have hq : TL[j]? = none := by
      have e0 : toks (gI h 36) k (k - k) k = [] := by rw [Nat.sub_self]; rfl
      rw [e0] at ht
      have := congrArg (fun l => l[0]?) ht
      simpa using this.symm
    refine Rp.aload_n dX7_advance_38 rfl rfl ?_
    refine Rp.aload_n dX7_advance_39 rfl rfl ?_
    refine Rp.getI dX7_advance_40 fk_X7_39 rfl (S1 _ _ rfl) ?_
    first | rw [ha] | rw [el] | skip
    refine Rp.putI dX7_advance_43 fk_X7_54w rfl (S1 _ _ rfl) ?_
    refine Rp.aload_n dX7_advance_46 rfl rfl ?_
    refine Rp.getI dX7_advance_47 fk_X7_39 rfl (S1 _ _ rfl) ?_
    first | rw [ha] | rw [el] | skip
    rw [gI_off _ _ _ (by decide), ha]
    refine Rp.aload_n dX7_advance_50 rfl rfl ?_
    refine Rp.getI dX7_advance_51 fk_X7_26 rfl (S1 _ _ rfl) ?_
    first | rw [ha] | rw [el] | skip
    rw [gI_off _ _ _ (by decide), el]
    first | ((with_reducible show Rp _ _ _ _ (.int (nI _) :: .int (nI _) :: _) _ _); refine Rp.icmp_ltN (tgt := 63) dX7_advance_54 (by decide) (by omega) (fun c54 => ?_) (fun c54 => ?_)) | refine Rp.icmp_lt (tgt := 63) dX7_advance_54 (by decide) (fun c54 => ?_) (fun c54 => ?_)
    · first | (exfalso; omega) | exact absurd c54 (by decide) | exact absurd (by decide) c54
    refine Rp.aload_n dX7_advance_57 rfl rfl ?_
    refine Rp.iconst (-1) dX7_advance_58 (by decide) ?_
    refine Rp.putI dX7_advance_59 fk_X7_48w rfl (S1 _ _ rfl) ?_
    skip
    refine Rp.vreturn dX7_advance_62 rfl ?_
    refine ⟨rfl, (F.sI rfl).sI rfl, ?_⟩
    unfold TS; rw [hq]
    exact ⟨by rw [gI_off _ _ _ (by decide), gI_hit], by rw [gI_off _ _ _ (by decide), gI_off _ _ _ (by decide)]; exact ha, gI_hit _ _ _ _⟩
end Av2
