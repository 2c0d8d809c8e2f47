section Tk
variable {tb : Nat → Int32} {L : Nat}
theorem toks_fuel : ∀ (m n k : Nat), L ≤ k + m → L ≤ k + n → toks tb L m k = toks tb L n k := by
  intro m
  induction m with
  | zero =>
    intro n k h1 h2
    match n with
    | 0 => rfl
    | n + 1 => simp only [toks, if_neg (show ¬ k < L by omega)]
  | succ m ih =>
    intro n k h1 h2
    match n with
    | 0 => simp only [toks, if_neg (show ¬ k < L by omega)]
    | n + 1 =>
      by_cases hk : k < L
      · have hb := tokE_bnd tb L k hk
        simp only [toks, if_pos hk]
        rw [ih n (k + 1) (by omega) (by omega), ih n (tokE tb L k) (by omega) (by omega)]
      · simp only [toks, if_neg hk]
theorem toks_blank {m k : Nat} (hk : k < L) (h : tb k = 32) (hm : L ≤ k + m) : toks tb L m k = toks tb L (L - (k + 1)) (k + 1) := by
  match m with
  | 0 => omega
  | m + 1 =>
    simp only [toks, if_pos hk, if_pos h]
    exact toks_fuel _ _ _ (by omega) (by omega)
theorem toks_tok {m k : Nat} (hk : k < L) (h : tb k ≠ 32) (hm : L ≤ k + m) : toks tb L m k = (k, tokE tb L k) :: toks tb L (L - tokE tb L k) (tokE tb L k) := by
  match m with
  | 0 => omega
  | m + 1 =>
    have hb := tokE_bnd tb L k hk
    simp only [toks, if_pos hk, if_neg h]
    rw [toks_fuel m (L - tokE tb L k) _ (by omega) (by omega)]
theorem toks_drop : ∀ (m k : Nat), L ≤ k + m → ∀ (i : Nat) (q : Nat × Nat), (toks tb L m k)[i]? = some q → toks tb L (L - q.2) q.2 = (toks tb L m k).drop (i + 1) ∧ q.2 ≤ L := by
  intro m
  induction m with
  | zero => intro k _ i q hq; simp only [toks] at hq; cases hq
  | succ m ih =>
    intro k hm i q hq
    by_cases hk : k < L
    · have hb := tokE_bnd tb L k hk
      by_cases h : tb k = 32
      · simp only [toks, if_pos hk, if_pos h] at hq ⊢
        exact ih (k + 1) (by omega) i q hq
      · simp only [toks, if_pos hk, if_neg h] at hq ⊢
        match i, hq with
        | 0, hq =>
          rw [List.getElem?_cons_zero] at hq
          cases hq
          refine ⟨?_, hb.2⟩
          rw [List.drop_succ_cons, List.drop_zero]
          exact toks_fuel _ _ _ (by omega) (by omega)
        | i + 1, hq =>
          rw [List.getElem?_cons_succ] at hq
          rw [List.drop_succ_cons]
          exact ih _ (by omega) i q hq
    · simp only [toks, if_neg hk] at hq; cases hq
/-- the sign of a token in the class -/
def sgT (tb : Nat → Int32) (q : Nat × Nat) : Int32 := if isSm (tb q.1) = true then -2 else if isDg (tb q.1) = true then -3 else nI (ub (tb q.1))
end Tk
/-- the class's reader at token i -/
def TS (h : AH) (L : Nat) (TL : List (Nat × Nat)) (i : Nat) : Prop := match TL[i]? with
  | some q => gI h 35 6 = nI q.1 ∧ gI h 35 5 = nI q.2 ∧ gI h 35 7 = sgT (gI h 36) q ∧ (isDg (gI h 36 q.1) = true → gI h 35 8 = nI (min (tkV (gI h 36) q) 1001))
  | none => gI h 35 6 = nI L ∧ gI h 35 5 = nI L ∧ gI h 35 7 = -1
def avX (k j : Nat) : Bool := k == 35 && (j == 5 || j == 6 || j == 7 || j == 8)
theorem vF_min (tb : Nat → Int32) (k n x : Nat) (hx : (tb (k + n)).toInt = x) (h1 : 48 ≤ x) (h2 : x ≤ 57) : min (10 * min (vF tb k n) 1001 + x - 48) 1001 = min (vF tb k (n + 1)) 1001 := by
  rw [show vF tb k (n + 1) = vSt (vF tb k n) (tb (k + n)) from rfl]
  unfold vSt
  by_cases hb : 1000000 < vF tb k n
  · rw [if_pos hb]; omega
  · rw [if_neg hb, hx]
    omega
section Av
variable (d : Nat) {h : AH}
theorem av_blank {P : Option Value → AH → Prop} (S0 : ShOK h) (R0 : RfOK h) {L : Nat} (hL : L ≤ 400) (hl : gI h 35 2 = nI L) {TL : List (Nat × Nat)} {j : Nat} (kk : ∀ (g : AH) (k : Nat), Fr avX h g → gI g 35 5 = nI k → k ≤ L → toks (gI h 36) L (L - k) k = TL.drop j → (k < L → gI h 36 k ≠ 32) → Rp (d + 1) M_X7_advance 38 [some (.ref 35), none] [] g P) : ∀ (m k : Nat) (g : AH), k + m = L → Fr avX h g → gI g 35 5 = nI k → toks (gI h 36) L (L - k) k = TL.drop j → Rp (d + 1) M_X7_advance 0 [some (.ref 35), none] [] g P := by
  intro m
  induction m with
  | zero =>
    intro k g hk F ha ht
    have S := F.S S0
    have R := F.R R0 (by decide)
    have el : gI g 35 2 = nI L := (F.I 35 2 rfl).trans hl
    refine Rp.aload_n dX7_advance_0 rfl rfl ?_
    refine Rp.getI dX7_advance_1 fk_X7_39 rfl (S _ _ rfl) ?_
    first | rw [ha] | rw [el] | skip
    refine Rp.aload_n dX7_advance_4 rfl rfl ?_
    refine Rp.getI dX7_advance_5 fk_X7_26 rfl (S _ _ rfl) ?_
    first | rw [ha] | rw [el] | skip
    first | ((with_reducible show Rp _ _ _ _ (.int (nI _) :: .int (nI _) :: _) _ _); refine Rp.icmp_geN (tgt := 38) dX7_advance_8 (by decide) (by omega) (fun c8 => ?_) (fun c8 => ?_)) | refine Rp.icmp_ge (tgt := 38) dX7_advance_8 (by decide) (fun c8 => ?_) (fun c8 => ?_)
    · skip
      exact kk g k F ha (by omega) ht (fun z => absurd z (by omega))
    · skip
      first | (exfalso; omega) | exact absurd c8 (by decide) | exact absurd (by decide) c8
  | succ m ih =>
    intro k g hk F ha ht
    have S := F.S S0
    have R := F.R R0 (by decide)
    have el : gI g 35 2 = nI L := (F.I 35 2 rfl).trans hl
    have eb : gI g 36 k = gI h 36 k := F.I 36 k rfl
    refine Rp.aload_n dX7_advance_0 rfl rfl ?_
    refine Rp.getI dX7_advance_1 fk_X7_39 rfl (S _ _ rfl) ?_
    first | rw [ha] | rw [el] | rw [eb] | skip
    refine Rp.aload_n dX7_advance_4 rfl rfl ?_
    refine Rp.getI dX7_advance_5 fk_X7_26 rfl (S _ _ rfl) ?_
    first | rw [ha] | rw [el] | rw [eb] | skip
    first | ((with_reducible show Rp _ _ _ _ (.int (nI _) :: .int (nI _) :: _) _ _); refine Rp.icmp_geN (tgt := 38) dX7_advance_8 (by decide) (by omega) (fun c8 => ?_) (fun c8 => ?_)) | refine Rp.icmp_ge (tgt := 38) dX7_advance_8 (by decide) (fun c8 => ?_) (fun c8 => ?_)
    · skip
      first | (exfalso; omega) | exact absurd c8 (by decide) | exact absurd (by decide) c8
    · skip
      refine Rp.aload_n dX7_advance_11 rfl rfl ?_
      refine Rp.getR dX7_advance_12 fk_X7_9 rfl (S _ _ rfl) (R _ _ _ rfl) ?_
      refine Rp.aload_n dX7_advance_15 rfl rfl ?_
      refine Rp.getI dX7_advance_16 fk_X7_39 rfl (S _ _ rfl) ?_
      first | rw [ha] | rw [el] | rw [eb] | skip
      first | ((with_reducible show Rp _ _ _ _ (.int (nI _) :: _) _ _); refine Rp.baloadN dX7_advance_19 (S _ _ rfl) (by omega) ?_) | refine Rp.baload dX7_advance_19 (S _ _ rfl) (by first | assumption | exact vpb (by decide)) ?_
      first | rw [ha] | rw [el] | rw [eb] | skip
      refine Rp.bipush (nI 32) dX7_advance_20 (by decide) ?_
      first | ((with_reducible show Rp _ _ _ _ (.int (nI _) :: .int (nI _) :: _) _ _); refine Rp.icmp_neN (tgt := 38) dX7_advance_22 (by decide) (by omega) (fun c22 => ?_) (fun c22 => ?_)) | refine Rp.icmp_ne (tgt := 38) dX7_advance_22 (by decide) (fun c22 => ?_) (fun c22 => ?_)
      · skip
        exact kk g k F ha (by omega) ht (fun _ => c22)
      · skip
        refine Rp.aload_n dX7_advance_25 rfl rfl ?_
        refine Rp.dup dX7_advance_26 rfl ?_
        refine Rp.getI dX7_advance_27 fk_X7_39 rfl (S _ _ rfl) ?_
        first | rw [ha] | rw [el] | rw [eb] | skip
        refine Rp.iconst (nI 1) dX7_advance_30 (by decide) ?_
        first | ((with_reducible show Rp _ _ _ _ (.int (nI _) :: .int (nI _) :: _) _ _); refine Rp.iaddN dX7_advance_31 ?_) | refine Rp.iadd dX7_advance_31 ?_
        refine Rp.putI dX7_advance_32 fk_X7_39w rfl (S _ _ rfl) ?_
        refine Rp.goto (tgt := 0) dX7_advance_35 (by decide) ?_
        rw [toks_blank (by omega) c22 (by omega)] at ht
        exact ih (k + 1) _ (by omega) (F.sI rfl) (gI_hit _ _ _ _) ht
theorem av_let {P : Option Value → AH → Prop} (S0 : ShOK h) (R0 : RfOK h) {L : Nat} (hL : L ≤ 400) (hl : gI h 35 2 = nI L) (b : Option Value) {e : Nat} (kk : ∀ g : AH, Fr avX h g → gI g 35 5 = nI e → gI g 35 6 = gI h 35 6 → gI g 35 7 = gI h 35 7 → P none g) : ∀ (m k : Nat) (g : AH), k + m = L → Fr avX h g → gI g 35 5 = nI k → gI g 35 6 = gI h 35 6 → gI g 35 7 = gI h 35 7 → runE isSm (gI h 36) L m k = e → Rp (d + 1) M_X7_advance 101 [some (.ref 35), b] [] g P := by
  intro m
  induction m with
  | zero =>
    intro k g hk F ha h6 h7 he
    have he : k = e := he
    have S := F.S S0
    have R := F.R R0 (by decide)
    have el : gI g 35 2 = nI L := (F.I 35 2 rfl).trans hl
    refine Rp.aload_n dX7_advance_101 rfl rfl ?_
    refine Rp.getI dX7_advance_102 fk_X7_39 rfl (S _ _ rfl) ?_
    first | rw [ha] | rw [el] | skip
    refine Rp.aload_n dX7_advance_105 rfl rfl ?_
    refine Rp.getI dX7_advance_106 fk_X7_26 rfl (S _ _ rfl) ?_
    first | rw [ha] | rw [el] | skip
    first | ((with_reducible show Rp _ _ _ _ (.int (nI _) :: .int (nI _) :: _) _ _); refine Rp.icmp_geN (tgt := 270) dX7_advance_109 (by decide) (by omega) (fun c109 => ?_) (fun c109 => ?_)) | refine Rp.icmp_ge (tgt := 270) dX7_advance_109 (by decide) (fun c109 => ?_) (fun c109 => ?_)
    · skip
      refine Rp.vreturn dX7_advance_270 rfl ?_
      exact kk g F (he ▸ ha) h6 h7
    · skip
      first | (exfalso; omega) | exact absurd c109 (by decide) | exact absurd (by decide) c109
  | succ m ih =>
    intro k g hk F ha h6 h7 he
    have S := F.S S0
    have R := F.R R0 (by decide)
    have el : gI g 35 2 = nI L := (F.I 35 2 rfl).trans hl
    have eb : gI g 36 k = gI h 36 k := F.I 36 k rfl
    have q : isSm (gI h 36 k) = true ↔ (nI 97 ≤ gI h 36 k ∧ gI h 36 k ≤ nI 122) := by unfold isSm; rw [decide_eq_true_eq]
    rw [runE] at he
    by_cases hq : isSm (gI h 36 k) = true
    · rw [if_pos ⟨by omega, hq⟩] at he
      have q2 := q.mp hq
      refine Rp.aload_n dX7_advance_101 rfl rfl ?_
      refine Rp.getI dX7_advance_102 fk_X7_39 rfl (S _ _ rfl) ?_
      first | rw [ha] | rw [el] | rw [eb] | skip
      refine Rp.aload_n dX7_advance_105 rfl rfl ?_
      refine Rp.getI dX7_advance_106 fk_X7_26 rfl (S _ _ rfl) ?_
      first | rw [ha] | rw [el] | rw [eb] | skip
      first | ((with_reducible show Rp _ _ _ _ (.int (nI _) :: .int (nI _) :: _) _ _); refine Rp.icmp_geN (tgt := 270) dX7_advance_109 (by decide) (by omega) (fun c109 => ?_) (fun c109 => ?_)) | refine Rp.icmp_ge (tgt := 270) dX7_advance_109 (by decide) (fun c109 => ?_) (fun c109 => ?_)
      · skip
        first | (exfalso; omega) | exact absurd c109 (by decide) | exact absurd (by decide) c109
      · skip
        refine Rp.aload_n dX7_advance_112 rfl rfl ?_
        refine Rp.getR dX7_advance_113 fk_X7_9 rfl (S _ _ rfl) (R _ _ _ rfl) ?_
        refine Rp.aload_n dX7_advance_116 rfl rfl ?_
        refine Rp.getI dX7_advance_117 fk_X7_39 rfl (S _ _ rfl) ?_
        first | rw [ha] | rw [el] | rw [eb] | skip
        first | ((with_reducible show Rp _ _ _ _ (.int (nI _) :: _) _ _); refine Rp.baloadN dX7_advance_120 (S _ _ rfl) (by omega) ?_) | refine Rp.baload dX7_advance_120 (S _ _ rfl) (by first | assumption | exact vpb (by decide)) ?_
        first | rw [ha] | rw [el] | rw [eb] | skip
        refine Rp.bipush (nI 97) dX7_advance_121 (by decide) ?_
        first | ((with_reducible show Rp _ _ _ _ (.int (nI _) :: .int (nI _) :: _) _ _); refine Rp.icmp_ltN (tgt := 270) dX7_advance_123 (by decide) (by omega) (fun c123 => ?_) (fun c123 => ?_)) | refine Rp.icmp_lt (tgt := 270) dX7_advance_123 (by decide) (fun c123 => ?_) (fun c123 => ?_)
        · skip
          exact absurd c123 (by rw [i32_lt]; rw [i32_le] at q2; omega)
        · skip
          refine Rp.aload_n dX7_advance_126 rfl rfl ?_
          refine Rp.getR dX7_advance_127 fk_X7_9 rfl (S _ _ rfl) (R _ _ _ rfl) ?_
          refine Rp.aload_n dX7_advance_130 rfl rfl ?_
          refine Rp.getI dX7_advance_131 fk_X7_39 rfl (S _ _ rfl) ?_
          first | rw [ha] | rw [el] | rw [eb] | skip
          first | ((with_reducible show Rp _ _ _ _ (.int (nI _) :: _) _ _); refine Rp.baloadN dX7_advance_134 (S _ _ rfl) (by omega) ?_) | refine Rp.baload dX7_advance_134 (S _ _ rfl) (by first | assumption | exact vpb (by decide)) ?_
          first | rw [ha] | rw [el] | rw [eb] | skip
          refine Rp.bipush (nI 122) dX7_advance_135 (by decide) ?_
          first | ((with_reducible show Rp _ _ _ _ (.int (nI _) :: .int (nI _) :: _) _ _); refine Rp.icmp_gtN (tgt := 270) dX7_advance_137 (by decide) (by omega) (fun c137 => ?_) (fun c137 => ?_)) | refine Rp.icmp_gt (tgt := 270) dX7_advance_137 (by decide) (fun c137 => ?_) (fun c137 => ?_)
          · skip
            exact absurd c137 (by rw [i32_lt]; rw [i32_le, i32_le] at q2; omega)
          · skip
            refine Rp.aload_n dX7_advance_140 rfl rfl ?_
            refine Rp.dup dX7_advance_141 rfl ?_
            refine Rp.getI dX7_advance_142 fk_X7_39 rfl (S _ _ rfl) ?_
            first | rw [ha] | rw [el] | rw [eb] | skip
            refine Rp.iconst (nI 1) dX7_advance_145 (by decide) ?_
            first | ((with_reducible show Rp _ _ _ _ (.int (nI _) :: .int (nI _) :: _) _ _); refine Rp.iaddN dX7_advance_146 ?_) | refine Rp.iadd dX7_advance_146 ?_
            refine Rp.putI dX7_advance_147 fk_X7_39w rfl (S _ _ rfl) ?_
            refine Rp.goto (tgt := 101) dX7_advance_150 (by decide) ?_
            exact ih (k + 1) _ (by omega) (F.sI rfl) (gI_hit _ _ _ _) (by rw [gI_off _ _ _ (by decide)]; exact h6) (by rw [gI_off _ _ _ (by decide)]; exact h7) he
    · rw [if_neg (fun z => hq z.2)] at he
      refine Rp.aload_n dX7_advance_101 rfl rfl ?_
      refine Rp.getI dX7_advance_102 fk_X7_39 rfl (S _ _ rfl) ?_
      first | rw [ha] | rw [el] | rw [eb] | skip
      refine Rp.aload_n dX7_advance_105 rfl rfl ?_
      refine Rp.getI dX7_advance_106 fk_X7_26 rfl (S _ _ rfl) ?_
      first | rw [ha] | rw [el] | rw [eb] | skip
      first | ((with_reducible show Rp _ _ _ _ (.int (nI _) :: .int (nI _) :: _) _ _); refine Rp.icmp_geN (tgt := 270) dX7_advance_109 (by decide) (by omega) (fun c109 => ?_) (fun c109 => ?_)) | refine Rp.icmp_ge (tgt := 270) dX7_advance_109 (by decide) (fun c109 => ?_) (fun c109 => ?_)
      · skip
        first | (exfalso; omega) | exact absurd c109 (by decide) | exact absurd (by decide) c109
      · skip
        refine Rp.aload_n dX7_advance_112 rfl rfl ?_
        refine Rp.getR dX7_advance_113 fk_X7_9 rfl (S _ _ rfl) (R _ _ _ rfl) ?_
        refine Rp.aload_n dX7_advance_116 rfl rfl ?_
        refine Rp.getI dX7_advance_117 fk_X7_39 rfl (S _ _ rfl) ?_
        first | rw [ha] | rw [el] | rw [eb] | skip
        first | ((with_reducible show Rp _ _ _ _ (.int (nI _) :: _) _ _); refine Rp.baloadN dX7_advance_120 (S _ _ rfl) (by omega) ?_) | refine Rp.baload dX7_advance_120 (S _ _ rfl) (by first | assumption | exact vpb (by decide)) ?_
        first | rw [ha] | rw [el] | rw [eb] | skip
        refine Rp.bipush (nI 97) dX7_advance_121 (by decide) ?_
        first | ((with_reducible show Rp _ _ _ _ (.int (nI _) :: .int (nI _) :: _) _ _); refine Rp.icmp_ltN (tgt := 270) dX7_advance_123 (by decide) (by omega) (fun c123 => ?_) (fun c123 => ?_)) | refine Rp.icmp_lt (tgt := 270) dX7_advance_123 (by decide) (fun c123 => ?_) (fun c123 => ?_)
        · skip
          refine Rp.vreturn dX7_advance_270 rfl ?_
          exact kk g F (he ▸ ha) h6 h7
        · skip
          refine Rp.aload_n dX7_advance_126 rfl rfl ?_
          refine Rp.getR dX7_advance_127 fk_X7_9 rfl (S _ _ rfl) (R _ _ _ rfl) ?_
          refine Rp.aload_n dX7_advance_130 rfl rfl ?_
          refine Rp.getI dX7_advance_131 fk_X7_39 rfl (S _ _ rfl) ?_
          first | rw [ha] | rw [el] | rw [eb] | skip
          first | ((with_reducible show Rp _ _ _ _ (.int (nI _) :: _) _ _); refine Rp.baloadN dX7_advance_134 (S _ _ rfl) (by omega) ?_) | refine Rp.baload dX7_advance_134 (S _ _ rfl) (by first | assumption | exact vpb (by decide)) ?_
          first | rw [ha] | rw [el] | rw [eb] | skip
          refine Rp.bipush (nI 122) dX7_advance_135 (by decide) ?_
          first | ((with_reducible show Rp _ _ _ _ (.int (nI _) :: .int (nI _) :: _) _ _); refine Rp.icmp_gtN (tgt := 270) dX7_advance_137 (by decide) (by omega) (fun c137 => ?_) (fun c137 => ?_)) | refine Rp.icmp_gt (tgt := 270) dX7_advance_137 (by decide) (fun c137 => ?_) (fun c137 => ?_)
          · skip
            refine Rp.vreturn dX7_advance_270 rfl ?_
            exact kk g F (he ▸ ha) h6 h7
          · skip
            exact absurd (q.mpr ⟨by rw [i32_lt] at c123; rw [i32_le]; omega, by rw [i32_lt] at c137; rw [i32_le]; omega⟩) hq
end Av
