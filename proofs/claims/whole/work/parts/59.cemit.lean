theorem nI_or (a b : Nat) : nI a ||| nI b = nI (a ||| b) := Int32.toBitVec_inj.1 (by show BitVec.ofNat 32 a ||| BitVec.ofNat 32 b = BitVec.ofNat 32 (a ||| b); rw [BitVec.ofNat_or])
/-- a cell of code -/
def enc (q : Nat × Nat) : Int32 := nI (q.1 + 16 * q.2)
theorem enc_or {o v : Nat} (ho : o < 16) (hv : v < 100000) : nI o ||| (nI v <<< (nI 4 &&& 31)) = enc (o, v) := by
  rw [pk_shlN (nI 4 &&& 31) 4 (by decide) (by omega), nI_or, Nat.or_comm, Nat.mul_comm v (2 ^ 4), ← Nat.two_pow_add_eq_or_of_lt (show o < 2 ^ 4 by omega) v]
  unfold enc
  congr 1
  dsimp only
  omega
/-- slots that the class's reading of a sum or a test changes -/
def rX (k j : Nat) : Bool := (k == 35 && (j == 3 || j == 5 || j == 6 || j == 7 || j == 8 || j == 9)) || (k == 37 && (j == 3 || j == 4)) || k == 39
theorem Fr.av {h h' : AH} (F : Fr avX h h') : Fr rX h h' := F.weak (fun k j hx => by
  unfold rX at hx; unfold avX
  simp only [Bool.or_eq_false_iff, Bool.and_eq_false_iff] at hx ⊢
  rcases hx.1.1 with z | z
  · exact Or.inl z
  · exact Or.inr ⟨⟨⟨z.1.1.1.1.2, z.1.1.1.2⟩, z.1.1.2⟩, z.1.2⟩)
section Em
variable (d : Nat) {h : AH}
theorem t_emit (S : ShOK h) (R : RfOK h) {o v a : Nat} (ho : o < 16) (hv : v < 100000) (ha : a < 436) (hz : gI h 37 3 = nI a) : Rp d M_X9_emit 0 [some (.ref 37), some (.int (nI o)), some (.int (nI v))] [] h (fun r h' => h' = sI (sI h 39 a (enc (o, v))) 37 3 (nI (a + 1)) ∧ r = some (.int (nI a))) := by
  have e1 : gI (sI h 39 a (enc (o, v))) 37 3 = nI a := by rw [gI_ne _ _ _ _ (by decide)]; exact hz
  refine Rp.aload_n dX9_emit_0 rfl rfl ?_
  refine Rp.getI dX9_emit_1 fk_X9_28 rfl (S _ _ rfl) ?_
  first | rw [hz] | rw [e1] | rw [gI_hit] | skip
  refine Rp.aload_n dX9_emit_4 rfl rfl ?_
  refine Rp.getR dX9_emit_5 fk_X9_15 rfl (S _ _ rfl) (R _ _ _ rfl) ?_
  refine Rp.alen dX9_emit_8 (S _ _ rfl) (by decide) (by decide) ?_
  rw [show Int32.ofNat 436 = nI 436 from rfl]
  first | ((with_reducible show Rp _ _ _ _ (.int (nI _) :: .int (nI _) :: _) _ _); refine Rp.icmp_ltN (tgt := 14) dX9_emit_9 (by decide) (by omega) (fun c9 => ?_) (fun c9 => ?_)) | refine Rp.icmp_lt (tgt := 14) dX9_emit_9 (by decide) (fun c9 => ?_) (fun c9 => ?_)
  · skip
    refine Rp.aload_n dX9_emit_14 rfl rfl ?_
    refine Rp.getR dX9_emit_15 fk_X9_15 rfl (S _ _ rfl) (R _ _ _ rfl) ?_
    refine Rp.aload_n dX9_emit_18 rfl rfl ?_
    refine Rp.getI dX9_emit_19 fk_X9_28 rfl (S _ _ rfl) ?_
    first | rw [hz] | rw [e1] | rw [gI_hit] | skip
    refine Rp.iload_n dX9_emit_22 rfl ?_
    refine Rp.iload_n dX9_emit_23 rfl ?_
    refine Rp.iconst (nI 4) dX9_emit_24 (by decide) ?_
    refine Rp.ishl dX9_emit_25 ?_
    refine Rp.ior dX9_emit_26 ?_
    rw [enc_or ho hv]
    first | ((with_reducible show Rp _ _ _ _ (_ :: .int (nI _) :: _) _ _); refine Rp.iastoreN dX9_emit_27 (S _ _ rfl) (by omega) ?_) | refine Rp.iastore dX9_emit_27 (S _ _ rfl) (by first | assumption | exact vpb (by decide)) ?_
    refine Rp.aload_n dX9_emit_28 rfl rfl ?_
    refine Rp.dup dX9_emit_29 rfl ?_
    refine Rp.getI dX9_emit_30 fk_X9_28 rfl (S _ _ rfl) ?_
    first | rw [hz] | rw [e1] | rw [gI_hit] | skip
    refine Rp.iconst (nI 1) dX9_emit_33 (by decide) ?_
    first | ((with_reducible show Rp _ _ _ _ (.int (nI _) :: .int (nI _) :: _) _ _); refine Rp.iaddN dX9_emit_34 ?_) | refine Rp.iadd dX9_emit_34 ?_
    refine Rp.putI dX9_emit_35 fk_X9_28w rfl (S _ _ rfl) ?_
    refine Rp.aload_n dX9_emit_38 rfl rfl ?_
    refine Rp.getI dX9_emit_39 fk_X9_28 rfl (S _ _ rfl) ?_
    first | rw [hz] | rw [e1] | rw [gI_hit] | skip
    refine Rp.iconst (nI 1) dX9_emit_42 (by decide) ?_
    first | ((with_reducible show Rp _ _ _ _ (.int (nI _) :: .int (nI _) :: _) _ _); refine Rp.isubN dX9_emit_43 (by omega) ?_) | refine Rp.isub dX9_emit_43 ?_
    refine Rp.ireturn dX9_emit_44 rfl ?_
    exact ⟨rfl, rfl⟩
  · skip
    first | (exfalso; omega) | exact absurd c9 (by decide) | exact absurd (by decide) c9
theorem t_emit_full (S : ShOK h) (R : RfOK h) {o v : Int32} (hz : gI h 37 3 = nI 436) : Rp d M_X9_emit 0 [some (.ref 37), some (.int o), some (.int v)] [] h (fun r h' => h' = h ∧ r = some (.int (-1))) := by
  refine Rp.aload_n dX9_emit_0 rfl rfl ?_
  refine Rp.getI dX9_emit_1 fk_X9_28 rfl (S _ _ rfl) ?_
  first | rw [hz] | skip
  refine Rp.aload_n dX9_emit_4 rfl rfl ?_
  refine Rp.getR dX9_emit_5 fk_X9_15 rfl (S _ _ rfl) (R _ _ _ rfl) ?_
  refine Rp.alen dX9_emit_8 (S _ _ rfl) (by decide) (by decide) ?_
  first | ((with_reducible show Rp _ _ _ _ (.int (nI _) :: .int (nI _) :: _) _ _); refine Rp.icmp_ltN (tgt := 14) dX9_emit_9 (by decide) (by omega) (fun c9 => ?_) (fun c9 => ?_)) | refine Rp.icmp_lt (tgt := 14) dX9_emit_9 (by decide) (fun c9 => ?_) (fun c9 => ?_)
  · skip
    first | (exfalso; omega) | exact absurd c9 (by decide) | exact absurd (by decide) c9
  · skip
    refine Rp.iconst (-1) dX9_emit_12 (by decide) ?_
    refine Rp.ireturn dX9_emit_13 rfl ?_
    exact ⟨rfl, rfl⟩
theorem bad_emit (S : ShOK h) (R : RfOK h) {o v : Int32} {a : Nat} (ha : a ≤ 436) (hz : gI h 37 3 = nI a) : Rp d M_X9_emit 0 [some (.ref 37), some (.int o), some (.int v)] [] h (fun r h' => Fr rX h h' ∧ gI h' 35 3 = gI h 35 3 ∧ (∃ n, n ≤ 436 ∧ gI h' 37 3 = nI n) ∧ ∃ x, r = some (.int x)) := by
  by_cases hq : a = 436
  · subst hq
    exact Rp.mono (fun r h' p => ⟨by rw [p.1]; exact Fr.rfl', by rw [p.1], ⟨436, Nat.le_refl _, by rw [p.1]; exact hz⟩, _, p.2⟩) (t_emit_full d S R hz)
  · skip
    refine Rp.aload_n dX9_emit_0 rfl rfl ?_
    refine Rp.getI dX9_emit_1 fk_X9_28 rfl (S _ _ rfl) ?_
    first | rw [hz] | rw [gI_hit] | skip
    refine Rp.aload_n dX9_emit_4 rfl rfl ?_
    refine Rp.getR dX9_emit_5 fk_X9_15 rfl (S _ _ rfl) (R _ _ _ rfl) ?_
    refine Rp.alen dX9_emit_8 (S _ _ rfl) (by decide) (by decide) ?_
    rw [show Int32.ofNat 436 = nI 436 from rfl]
    first | ((with_reducible show Rp _ _ _ _ (.int (nI _) :: .int (nI _) :: _) _ _); refine Rp.icmp_ltN (tgt := 14) dX9_emit_9 (by decide) (by omega) (fun c9 => ?_) (fun c9 => ?_)) | refine Rp.icmp_lt (tgt := 14) dX9_emit_9 (by decide) (fun c9 => ?_) (fun c9 => ?_)
    · skip
      refine Rp.aload_n dX9_emit_14 rfl rfl ?_
      refine Rp.getR dX9_emit_15 fk_X9_15 rfl (S _ _ rfl) (R _ _ _ rfl) ?_
      refine Rp.aload_n dX9_emit_18 rfl rfl ?_
      refine Rp.getI dX9_emit_19 fk_X9_28 rfl (S _ _ rfl) ?_
      first | rw [hz] | rw [gI_hit] | skip
      refine Rp.iload_n dX9_emit_22 rfl ?_
      refine Rp.iload_n dX9_emit_23 rfl ?_
      refine Rp.iconst (nI 4) dX9_emit_24 (by decide) ?_
      refine Rp.ishl dX9_emit_25 ?_
      refine Rp.ior dX9_emit_26 ?_
      first | ((with_reducible show Rp _ _ _ _ (_ :: .int (nI _) :: _) _ _); refine Rp.iastoreN dX9_emit_27 (S _ _ rfl) (by omega) ?_) | refine Rp.iastore dX9_emit_27 (S _ _ rfl) (by first | assumption | exact vpb (by decide)) ?_
      refine Rp.aload_n dX9_emit_28 rfl rfl ?_
      refine Rp.dup dX9_emit_29 rfl ?_
      refine Rp.getI dX9_emit_30 fk_X9_28 rfl (S _ _ rfl) ?_
      first | rw [hz] | rw [gI_hit] | skip
      first | rw [gI_ne _ _ _ _ (by decide), hz]
      refine Rp.iconst (nI 1) dX9_emit_33 (by decide) ?_
      first | ((with_reducible show Rp _ _ _ _ (.int (nI _) :: .int (nI _) :: _) _ _); refine Rp.iaddN dX9_emit_34 ?_) | refine Rp.iadd dX9_emit_34 ?_
      refine Rp.putI dX9_emit_35 fk_X9_28w rfl (S _ _ rfl) ?_
      skip
      refine Rp.aload_n dX9_emit_38 rfl rfl ?_
      refine Rp.getI dX9_emit_39 fk_X9_28 rfl (S _ _ rfl) ?_
      first | rw [hz] | rw [gI_hit] | skip
      refine Rp.iconst (nI 1) dX9_emit_42 (by decide) ?_
      first | ((with_reducible show Rp _ _ _ _ (.int (nI _) :: .int (nI _) :: _) _ _); refine Rp.isubN dX9_emit_43 (by omega) ?_) | refine Rp.isub dX9_emit_43 ?_
      refine Rp.ireturn dX9_emit_44 rfl ?_
      exact ⟨(Fr.rfl'.sI rfl).sI rfl, by rw [gI_ne _ _ _ _ (by decide), gI_ne _ _ _ _ (by decide)], ⟨a + 1, by omega, gI_hit _ _ _ _⟩, _, rfl⟩
    · skip
      first | (exfalso; omega) | exact absurd c9 (by decide) | exact absurd (by decide) c9
theorem t_aim (S : ShOK h) (R : RfOK h) {o c a : Nat} (ho : o < 16) (hc : c < a) (ha : a ≤ 436) (hz : gI h 37 3 = nI a) (hx : gI h 39 c = enc (o, 0)) : Rp d M_X9_aimHere 0 [some (.ref 37), some (.int (nI c))] [] h (fun r h' => h' = sI h 39 c (enc (o, a)) ∧ r = none) := by
  have e0 : ¬ nI c < 0 := by rw [i32_lt, nI_toInt (by omega)]; exact Int.not_lt.mpr (Int.natCast_nonneg _)
  have hx : gI h 39 c = nI o := by rw [hx]; unfold enc; congr 1
  refine Rp.iload_n dX9_aimHere_0 rfl ?_
  refine Rp.if_lt (tgt := 27) dX9_aimHere_1 (by decide) (fun c1 => ?_) (fun c1 => ?_)
  · skip
    exact absurd c1 e0
  · skip
    refine Rp.iload_n dX9_aimHere_4 rfl ?_
    refine Rp.aload_n dX9_aimHere_5 rfl rfl ?_
    refine Rp.getI dX9_aimHere_6 fk_X9_28 rfl (S _ _ rfl) ?_
    first | rw [hz] | rw [hx] | skip
    first | ((with_reducible show Rp _ _ _ _ (.int (nI _) :: .int (nI _) :: _) _ _); refine Rp.icmp_geN (tgt := 27) dX9_aimHere_9 (by decide) (by omega) (fun c9 => ?_) (fun c9 => ?_)) | refine Rp.icmp_ge (tgt := 27) dX9_aimHere_9 (by decide) (fun c9 => ?_) (fun c9 => ?_)
    · skip
      first | (exfalso; omega) | exact absurd c9 (by decide) | exact absurd (by decide) c9
    · skip
      refine Rp.aload_n dX9_aimHere_12 rfl rfl ?_
      refine Rp.getR dX9_aimHere_13 fk_X9_15 rfl (S _ _ rfl) (R _ _ _ rfl) ?_
      refine Rp.iload_n dX9_aimHere_16 rfl ?_
      refine Rp.dup2 dX9_aimHere_17 rfl rfl ?_
      first | ((with_reducible show Rp _ _ _ _ (.int (nI _) :: _) _ _); refine Rp.ialoadN dX9_aimHere_18 (S _ _ rfl) (by omega) ?_) | refine Rp.iaload dX9_aimHere_18 (S _ _ rfl) (by first | assumption | exact vpb (by decide)) ?_
      first | rw [hz] | rw [hx] | skip
      refine Rp.aload_n dX9_aimHere_19 rfl rfl ?_
      refine Rp.getI dX9_aimHere_20 fk_X9_28 rfl (S _ _ rfl) ?_
      first | rw [hz] | rw [hx] | skip
      refine Rp.iconst (nI 4) dX9_aimHere_23 (by decide) ?_
      refine Rp.ishl dX9_aimHere_24 ?_
      refine Rp.ior dX9_aimHere_25 ?_
      rw [enc_or ho (by omega)]
      first | ((with_reducible show Rp _ _ _ _ (_ :: .int (nI _) :: _) _ _); refine Rp.iastoreN dX9_aimHere_26 (S _ _ rfl) (by omega) ?_) | refine Rp.iastore dX9_aimHere_26 (S _ _ rfl) (by first | assumption | exact vpb (by decide)) ?_
      refine Rp.vreturn dX9_aimHere_27 rfl ?_
      exact ⟨rfl, rfl⟩
theorem bad_aim (S : ShOK h) (R : RfOK h) {x : Int32} {a : Nat} (ha : a ≤ 436) (hz : gI h 37 3 = nI a) : Rp d M_X9_aimHere 0 [some (.ref 37), some (.int x)] [] h (fun r h' => Fr rX h h' ∧ gI h' 35 3 = gI h 35 3 ∧ (∃ n, n ≤ 436 ∧ gI h' 37 3 = nI n) ∧ r = none) := by
  by_cases hx : inN x a = true
  · obtain ⟨q, hq, rfl⟩ := (inN_iff (by omega)).mp hx
    refine Rp.iload_n dX9_aimHere_0 rfl ?_
    refine Rp.if_lt (tgt := 27) dX9_aimHere_1 (by decide) (fun c1 => ?_) (fun c1 => ?_)
    · skip
      refine Rp.vreturn dX9_aimHere_27 rfl ?_
      first | exact ⟨Fr.rfl'.sI rfl, by rw [gI_ne _ _ _ _ (by decide)], ⟨a, ha, by rw [gI_ne _ _ _ _ (by decide)]; exact hz⟩, rfl⟩ | exact ⟨Fr.rfl', rfl, ⟨a, ha, hz⟩, rfl⟩
    · skip
      refine Rp.iload_n dX9_aimHere_4 rfl ?_
      refine Rp.aload_n dX9_aimHere_5 rfl rfl ?_
      refine Rp.getI dX9_aimHere_6 fk_X9_28 rfl (S _ _ rfl) ?_
      first | rw [hz] | skip
      first | ((with_reducible show Rp _ _ _ _ (.int (nI _) :: .int (nI _) :: _) _ _); refine Rp.icmp_geN (tgt := 27) dX9_aimHere_9 (by decide) (by omega) (fun c9 => ?_) (fun c9 => ?_)) | refine Rp.icmp_ge (tgt := 27) dX9_aimHere_9 (by decide) (fun c9 => ?_) (fun c9 => ?_)
      · skip
        first | (exfalso; omega) | exact absurd c9 (by decide) | exact absurd (by decide) c9
      · skip
        refine Rp.aload_n dX9_aimHere_12 rfl rfl ?_
        refine Rp.getR dX9_aimHere_13 fk_X9_15 rfl (S _ _ rfl) (R _ _ _ rfl) ?_
        refine Rp.iload_n dX9_aimHere_16 rfl ?_
        refine Rp.dup2 dX9_aimHere_17 rfl rfl ?_
        first | ((with_reducible show Rp _ _ _ _ (.int (nI _) :: _) _ _); refine Rp.ialoadN dX9_aimHere_18 (S _ _ rfl) (by omega) ?_) | refine Rp.iaload dX9_aimHere_18 (S _ _ rfl) (by first | assumption | exact vpb (by decide)) ?_
        first | rw [hz] | skip
        refine Rp.aload_n dX9_aimHere_19 rfl rfl ?_
        refine Rp.getI dX9_aimHere_20 fk_X9_28 rfl (S _ _ rfl) ?_
        first | rw [hz] | skip
        refine Rp.iconst (nI 4) dX9_aimHere_23 (by decide) ?_
        refine Rp.ishl dX9_aimHere_24 ?_
        refine Rp.ior dX9_aimHere_25 ?_
        first | ((with_reducible show Rp _ _ _ _ (_ :: .int (nI _) :: _) _ _); refine Rp.iastoreN dX9_aimHere_26 (S _ _ rfl) (by omega) ?_) | refine Rp.iastore dX9_aimHere_26 (S _ _ rfl) (by first | assumption | exact vpb (by decide)) ?_
        refine Rp.vreturn dX9_aimHere_27 rfl ?_
        first | exact ⟨Fr.rfl'.sI rfl, by rw [gI_ne _ _ _ _ (by decide)], ⟨a, ha, by rw [gI_ne _ _ _ _ (by decide)]; exact hz⟩, rfl⟩ | exact ⟨Fr.rfl', rfl, ⟨a, ha, hz⟩, rfl⟩
  · have hq : x < 0 ∨ ¬ x < nI a := by
      by_cases z : x < 0
      · exact Or.inl z
      · refine Or.inr (fun y => hx ?_)
        unfold inN
        rw [i32_lt] at z y
        rw [nI_toInt (by omega)] at y
        have : (0 : Int32).toInt = 0 := rfl
        exact decide_eq_true ⟨by omega, by omega⟩
    refine Rp.iload_n dX9_aimHere_0 rfl ?_
    refine Rp.if_lt (tgt := 27) dX9_aimHere_1 (by decide) (fun c1 => ?_) (fun c1 => ?_)
    · skip
      refine Rp.vreturn dX9_aimHere_27 rfl ?_
      exact ⟨Fr.rfl', rfl, ⟨a, ha, hz⟩, rfl⟩
    · skip
      refine Rp.iload_n dX9_aimHere_4 rfl ?_
      refine Rp.aload_n dX9_aimHere_5 rfl rfl ?_
      refine Rp.getI dX9_aimHere_6 fk_X9_28 rfl (S _ _ rfl) ?_
      first | rw [hz] | skip
      first | ((with_reducible show Rp _ _ _ _ (.int (nI _) :: .int (nI _) :: _) _ _); refine Rp.icmp_geN (tgt := 27) dX9_aimHere_9 (by decide) (by omega) (fun c9 => ?_) (fun c9 => ?_)) | refine Rp.icmp_ge (tgt := 27) dX9_aimHere_9 (by decide) (fun c9 => ?_) (fun c9 => ?_)
      · skip
        refine Rp.vreturn dX9_aimHere_27 rfl ?_
        exact ⟨Fr.rfl', rfl, ⟨a, ha, hz⟩, rfl⟩
      · skip
        exact absurd (show x < nI a by rw [i32_lt]; rw [i32_le] at c9; omega) (hq.resolve_left c1)
theorem t_wrong (S : ShOK h) (hf : gI h 35 3 = -1) : Rp d M_X7_wrong 0 [some (.ref 35)] [] h (fun r h' => h' = sI h 35 3 (gI h 35 6) ∧ r = none) := by
  refine Rp.aload_n dX7_wrong_0 rfl rfl ?_
  refine Rp.getI dX7_wrong_1 fk_X7_22 rfl (S _ _ rfl) ?_
  first | rw [hf] | skip
  refine Rp.iconst (-1) dX7_wrong_4 (by decide) ?_
  first | ((with_reducible show Rp _ _ _ _ (.int (nI _) :: .int (nI _) :: _) _ _); refine Rp.icmp_neN (tgt := 16) dX7_wrong_5 (by decide) (by omega) (fun c5 => ?_) (fun c5 => ?_)) | refine Rp.icmp_ne (tgt := 16) dX7_wrong_5 (by decide) (fun c5 => ?_) (fun c5 => ?_)
  · skip
    first | (exfalso; omega) | exact absurd c5 (by decide) | exact absurd (by decide) c5
  · skip
    refine Rp.aload_n dX7_wrong_8 rfl rfl ?_
    refine Rp.aload_n dX7_wrong_9 rfl rfl ?_
    refine Rp.getI dX7_wrong_10 fk_X7_54 rfl (S _ _ rfl) ?_
    first | rw [hf] | skip
    refine Rp.putI dX7_wrong_13 fk_X7_22w rfl (S _ _ rfl) ?_
    refine Rp.vreturn dX7_wrong_16 rfl ?_
    exact ⟨rfl, rfl⟩
theorem bad_wrong (S : ShOK h) (hf : gI h 35 3 ≠ -1) : Rp d M_X7_wrong 0 [some (.ref 35)] [] h (fun r h' => h' = h ∧ r = none) := by
  refine Rp.aload_n dX7_wrong_0 rfl rfl ?_
  refine Rp.getI dX7_wrong_1 fk_X7_22 rfl (S _ _ rfl) ?_
  refine Rp.iconst (-1) dX7_wrong_4 (by decide) ?_
  first | ((with_reducible show Rp _ _ _ _ (.int (nI _) :: .int (nI _) :: _) _ _); refine Rp.icmp_neN (tgt := 16) dX7_wrong_5 (by decide) (by omega) (fun c5 => ?_) (fun c5 => ?_)) | refine Rp.icmp_ne (tgt := 16) dX7_wrong_5 (by decide) (fun c5 => ?_) (fun c5 => ?_)
  · skip
    refine Rp.vreturn dX7_wrong_16 rfl ?_
    exact ⟨rfl, rfl⟩
  · skip
    exact absurd c5 hf
theorem bad_goes (S : ShOK h) (hf : gI h 35 3 ≠ -1) (k : Nat) : Rp (d + 5) M_X7_goesOnWith 0 [some (.ref 35), some (.retAddr k), none] [] h (fun r h' => h' = h ∧ r = some (.int (nI 0))) := by
  refine Rp.aload_n dX7_goesOnWith_0 rfl rfl ?_
  refine Rp.getI dX7_goesOnWith_1 fk_X7_22 rfl (S _ _ rfl) ?_
  refine Rp.iconst (-1) dX7_goesOnWith_4 (by decide) ?_
  first | ((with_reducible show Rp _ _ _ _ (.int (nI _) :: .int (nI _) :: _) _ _); refine Rp.icmp_neN (tgt := 20) dX7_goesOnWith_5 (by decide) (by omega) (fun c5 => ?_) (fun c5 => ?_)) | refine Rp.icmp_ne (tgt := 20) dX7_goesOnWith_5 (by decide) (fun c5 => ?_) (fun c5 => ?_)
  · skip
    refine Rp.iconst (nI 0) dX7_goesOnWith_20 (by decide) ?_
    refine Rp.ist2 dX7_goesOnWith_21 (by first | exact nl2_some rfl | exact nl2_none) (by decide) ?_
    refine Rp.iload_n dX7_goesOnWith_22 rfl ?_
    first | ((with_reducible show Rp _ _ _ _ (.int (b2i _) :: _) _ _); refine Rp.if_eqB (tgt := 30) dX7_goesOnWith_23 (by decide) (fun c23 => ?_) (fun c23 => ?_)) | ((with_reducible show Rp _ _ _ _ (.int (nI _) :: _) _ _); refine Rp.if_eqN (tgt := 30) dX7_goesOnWith_23 (by decide) (by omega) (fun c23 => ?_) (fun c23 => ?_)) | refine Rp.if_eq (tgt := 30) dX7_goesOnWith_23 (by decide) (fun c23 => ?_) (fun c23 => ?_)
    · skip
      refine Rp.iload_n dX7_goesOnWith_30 rfl ?_
      refine Rp.zreturn dX7_goesOnWith_31 rfl (Or.inl rfl) ?_
      exact ⟨rfl, rfl⟩
    · skip
      first | (exfalso; omega) | exact absurd c23 (by decide) | exact absurd (by decide) c23
  · skip
    exact absurd c5 hf
end Em
/-- the class's reader, as it was when it began: h0 -/
def RB (h : AH) (ord : Bool) (L : Nat) : Prop := ShOK h ∧ RfOK h ∧ L ≤ 400 ∧ gI h 35 2 = nI L ∧ gI h 35 4 = b2i ord
theorem RB.fr {h h' : AH} {ord : Bool} {L : Nat} (B : RB h ord L) (F : Fr rX h h') : RB h' ord L := ⟨F.S B.1, F.R B.2.1 (by decide), B.2.2.1, (F.I 35 2 rfl).trans B.2.2.2.1, (F.I 35 4 rfl).trans B.2.2.2.2⟩
theorem Fr.tp {h h' : AH} (F : Fr rX h h') : gI h' 36 = gI h 36 := funext fun i => F.I 36 i rfl
section Go
variable (d : Nat) {h : AH} {ord : Bool} {L : Nat} {TL : List (Nat × Nat)}
theorem t_next (B : RB h ord L) (hTL : TL = TLo (gI h 36) L) {i : Nat} (hT : TS h L TL i) (hi : i < TL.length) : Rp (d + 1) M_X7_advance 0 [some (.ref 35), none] [] h (fun r h' => r = none ∧ Fr avX h h' ∧ TS h' L TL (i + 1)) := by
  have hq := List.getElem?_eq_getElem hi
  obtain ⟨a1, a2, a3, a4⟩ := TS_tok hT hq
  have hd := toks_drop (tb := gI h 36) (L := L) L 0 (by omega) i TL[i] (by rw [show toks (gI h 36) L L 0 = TL from hTL.symm]; exact hq)
  rw [show toks (gI h 36) L L 0 = TL from hTL.symm] at hd
  exact t_adv d B.1 B.2.1 B.2.2.1 B.2.2.2.1 hd.2 a2 hd.1
theorem cT_len {tb : Nat → Int32} {i : Nat} (h : cT tb TL i ≠ 0) : i < TL.length := by
  match hq : TL[i]? with
  | none => exact absurd (cT_no hq) h
  | some q => exact (List.getElem?_eq_some_iff.mp hq).1
theorem t_goes (B : RB h ord L) (hTL : TL = TLo (gI h 36) L) {i k : Nat} (h4 : 4 ≤ k) (hk : k < 11) (hT : TS h L TL i) (hf : gI h 35 3 = -1) : Rp (d + 5) M_X7_goesOnWith 0 [some (.ref 35), some (.retAddr k), none] [] h (fun r h' => (cT (gI h 36) TL i = cdK k ∧ r = some (.int (nI 1)) ∧ Fr avX h h' ∧ TS h' L TL (i + 1)) ∨ (cT (gI h 36) TL i ≠ cdK k ∧ r = some (.int (nI 0)) ∧ h' = h)) := by
  have S := B.1
  have pl := t_place d S B.2.1 hk B.2.2.1 hTL hT
  rw [pw_single h4 hk] at pl
  by_cases e : cT (gI h 36) TL i = cdK k
  · rw [if_pos e] at pl
    have hi : i < TL.length := cT_len (tb := gI h 36) (by
      rw [e]; unfold cdK
      match k, h4, hk with
      | 4, _, _ | 5, _, _ | 6, _, _ | 7, _, _ | 8, _, _ | 9, _, _ | 10, _, _ => decide)
    have q1 := t_next (d + 3) B hTL hT hi
    refine Rp.aload_n dX7_goesOnWith_0 rfl rfl ?_
    refine Rp.getI dX7_goesOnWith_1 fk_X7_22 rfl (S _ _ rfl) ?_
    first | rw [hf] | skip
    refine Rp.iconst (-1) dX7_goesOnWith_4 (by decide) ?_
    first | ((with_reducible show Rp _ _ _ _ (.int (nI _) :: .int (nI _) :: _) _ _); refine Rp.icmp_neN (tgt := 20) dX7_goesOnWith_5 (by decide) (by omega) (fun c5 => ?_) (fun c5 => ?_)) | refine Rp.icmp_ne (tgt := 20) dX7_goesOnWith_5 (by decide) (fun c5 => ?_) (fun c5 => ?_)
    · skip
      first | (exfalso; omega) | exact absurd c5 (by decide) | exact absurd (by decide) c5
    · skip
      refine Rp.aload_n dX7_goesOnWith_8 rfl rfl ?_
      refine Rp.aload_n dX7_goesOnWith_9 rfl rfl ?_
      refine Rp.callV1 M_X7_placeIn (ci := 7) dX7_goesOnWith_10 mo_X7_placeIn lk_X7_61 (by decide) rfl rfl (S _ _ rfl) (Nat.le_of_ble_eq_true rfl) (Nat.le_of_ble_eq_true rfl) (pl) (fun v1 h1 p1 x1 => ?_)
      rw [p1.1, p1.2]
      try dsimp only [Option.toList, List.cons_append, List.nil_append, List.append]
      first | ((with_reducible show Rp _ _ _ _ (.int (b2i _) :: _) _ _); refine Rp.if_neB (tgt := 20) dX7_goesOnWith_13 (by decide) (fun c13 => ?_) (fun c13 => ?_)) | ((with_reducible show Rp _ _ _ _ (.int (nI _) :: _) _ _); refine Rp.if_neN (tgt := 20) dX7_goesOnWith_13 (by decide) (by omega) (fun c13 => ?_) (fun c13 => ?_)) | refine Rp.if_ne (tgt := 20) dX7_goesOnWith_13 (by decide) (fun c13 => ?_) (fun c13 => ?_)
      · skip
        exact absurd c13 (by decide)
      · skip
        refine Rp.iconst (nI 1) dX7_goesOnWith_16 (by decide) ?_
        refine Rp.goto (tgt := 21) dX7_goesOnWith_17 (by decide) ?_
        refine Rp.ist2 dX7_goesOnWith_21 (by first | exact nl2_some rfl | exact nl2_none) (by decide) ?_
        refine Rp.iload_n dX7_goesOnWith_22 rfl ?_
        first | ((with_reducible show Rp _ _ _ _ (.int (b2i _) :: _) _ _); refine Rp.if_eqB (tgt := 30) dX7_goesOnWith_23 (by decide) (fun c23 => ?_) (fun c23 => ?_)) | ((with_reducible show Rp _ _ _ _ (.int (nI _) :: _) _ _); refine Rp.if_eqN (tgt := 30) dX7_goesOnWith_23 (by decide) (by omega) (fun c23 => ?_) (fun c23 => ?_)) | refine Rp.if_eq (tgt := 30) dX7_goesOnWith_23 (by decide) (fun c23 => ?_) (fun c23 => ?_)
        · skip
          first | (exfalso; omega) | exact absurd c23 (by decide) | exact absurd (by decide) c23
        · skip
          refine Rp.aload_n dX7_goesOnWith_26 rfl rfl ?_
          refine Rp.callV0 M_X7_advance (ci := 7) dX7_goesOnWith_27 mo_X7_advance lk_X7_42 (by decide) rfl rfl (S _ _ rfl) (Nat.le_of_ble_eq_true rfl) (Nat.le_of_ble_eq_true rfl) (q1) (fun v1 h1 p1 x1 => ?_)
          obtain ⟨rfl, p2, p3⟩ := p1
          try dsimp only [Option.toList, List.cons_append, List.nil_append, List.append]
          refine Rp.iload_n dX7_goesOnWith_30 rfl ?_
          refine Rp.zreturn dX7_goesOnWith_31 rfl (Or.inr rfl) ?_
          exact Or.inl ⟨e, rfl, p2, p3⟩
  · rw [if_neg e] at pl
    refine Rp.aload_n dX7_goesOnWith_0 rfl rfl ?_
    refine Rp.getI dX7_goesOnWith_1 fk_X7_22 rfl (S _ _ rfl) ?_
    first | rw [hf] | skip
    refine Rp.iconst (-1) dX7_goesOnWith_4 (by decide) ?_
    first | ((with_reducible show Rp _ _ _ _ (.int (nI _) :: .int (nI _) :: _) _ _); refine Rp.icmp_neN (tgt := 20) dX7_goesOnWith_5 (by decide) (by omega) (fun c5 => ?_) (fun c5 => ?_)) | refine Rp.icmp_ne (tgt := 20) dX7_goesOnWith_5 (by decide) (fun c5 => ?_) (fun c5 => ?_)
    · skip
      first | (exfalso; omega) | exact absurd c5 (by decide) | exact absurd (by decide) c5
    · skip
      refine Rp.aload_n dX7_goesOnWith_8 rfl rfl ?_
      refine Rp.aload_n dX7_goesOnWith_9 rfl rfl ?_
      refine Rp.callV1 M_X7_placeIn (ci := 7) dX7_goesOnWith_10 mo_X7_placeIn lk_X7_61 (by decide) rfl rfl (S _ _ rfl) (Nat.le_of_ble_eq_true rfl) (Nat.le_of_ble_eq_true rfl) (pl) (fun v1 h1 p1 x1 => ?_)
      rw [p1.1, p1.2]
      try dsimp only [Option.toList, List.cons_append, List.nil_append, List.append]
      first | ((with_reducible show Rp _ _ _ _ (.int (b2i _) :: _) _ _); refine Rp.if_neB (tgt := 20) dX7_goesOnWith_13 (by decide) (fun c13 => ?_) (fun c13 => ?_)) | ((with_reducible show Rp _ _ _ _ (.int (nI _) :: _) _ _); refine Rp.if_neN (tgt := 20) dX7_goesOnWith_13 (by decide) (by omega) (fun c13 => ?_) (fun c13 => ?_)) | refine Rp.if_ne (tgt := 20) dX7_goesOnWith_13 (by decide) (fun c13 => ?_) (fun c13 => ?_)
      · skip
        refine Rp.iconst (nI 0) dX7_goesOnWith_20 (by decide) ?_
        refine Rp.ist2 dX7_goesOnWith_21 (by first | exact nl2_some rfl | exact nl2_none) (by decide) ?_
        refine Rp.iload_n dX7_goesOnWith_22 rfl ?_
        first | ((with_reducible show Rp _ _ _ _ (.int (b2i _) :: _) _ _); refine Rp.if_eqB (tgt := 30) dX7_goesOnWith_23 (by decide) (fun c23 => ?_) (fun c23 => ?_)) | ((with_reducible show Rp _ _ _ _ (.int (nI _) :: _) _ _); refine Rp.if_eqN (tgt := 30) dX7_goesOnWith_23 (by decide) (by omega) (fun c23 => ?_) (fun c23 => ?_)) | refine Rp.if_eq (tgt := 30) dX7_goesOnWith_23 (by decide) (fun c23 => ?_) (fun c23 => ?_)
        · skip
          refine Rp.iload_n dX7_goesOnWith_30 rfl ?_
          refine Rp.zreturn dX7_goesOnWith_31 rfl (Or.inl rfl) ?_
          exact Or.inr ⟨e, rfl, rfl⟩
        · skip
          first | (exfalso; omega) | exact absurd c23 (by decide) | exact absurd (by decide) c23
      · skip
        exact absurd c13 (by decide)
theorem t_opens (B : RB h ord L) (hTL : TL = TLo (gI h 36) L) {i dep : Nat} (hT : TS h L TL i) (hi : i < TL.length) (hd : dep < 8) : Rp (d + 2) M_X7_opens 0 [some (.ref 35), some (.int (nI dep))] [] h (fun r h' => r = some (.int (nI 1)) ∧ Fr avX h h' ∧ TS h' L TL (i + 1)) := by
  have S := B.1
  have q1 := t_next d B hTL hT hi
  refine Rp.iload_n dX7_opens_0 rfl ?_
  refine Rp.bipush (nI 8) dX7_opens_1 (by decide) ?_
  first | ((with_reducible show Rp _ _ _ _ (.int (nI _) :: .int (nI _) :: _) _ _); refine Rp.icmp_ltN (tgt := 12) dX7_opens_3 (by decide) (by omega) (fun c3 => ?_) (fun c3 => ?_)) | refine Rp.icmp_lt (tgt := 12) dX7_opens_3 (by decide) (fun c3 => ?_) (fun c3 => ?_)
  · skip
    refine Rp.aload_n dX7_opens_12 rfl rfl ?_
    refine Rp.callV0 M_X7_advance (ci := 7) dX7_opens_13 mo_X7_advance lk_X7_42 (by decide) rfl rfl (S _ _ rfl) (Nat.le_of_ble_eq_true rfl) (Nat.le_of_ble_eq_true rfl) (q1) (fun v1 h1 p1 x1 => ?_)
    obtain ⟨rfl, p2, p3⟩ := p1
    try dsimp only [Option.toList, List.cons_append, List.nil_append, List.append]
    refine Rp.iconst (nI 1) dX7_opens_16 (by decide) ?_
    refine Rp.zreturn dX7_opens_17 rfl (Or.inr rfl) ?_
    exact ⟨rfl, p2, p3⟩
  · skip
    first | (exfalso; omega) | exact absurd c3 (by decide) | exact absurd (by decide) c3
theorem t_opensF (S : ShOK h) (hf : gI h 35 3 = -1) : Rp (d + 2) M_X7_opens 0 [some (.ref 35), some (.int (nI 8))] [] h (fun r h' => r = some (.int (nI 0)) ∧ h' = sI h 35 3 (gI h 35 6)) := by
  refine Rp.iload_n dX7_opens_0 rfl ?_
  refine Rp.bipush (nI 8) dX7_opens_1 (by decide) ?_
  first | ((with_reducible show Rp _ _ _ _ (.int (nI _) :: .int (nI _) :: _) _ _); refine Rp.icmp_ltN (tgt := 12) dX7_opens_3 (by decide) (by omega) (fun c3 => ?_) (fun c3 => ?_)) | refine Rp.icmp_lt (tgt := 12) dX7_opens_3 (by decide) (fun c3 => ?_) (fun c3 => ?_)
  · skip
    first | (exfalso; omega) | exact absurd c3 (by decide) | exact absurd (by decide) c3
  · skip
    refine Rp.aload_n dX7_opens_6 rfl rfl ?_
    refine Rp.callV0 M_X7_wrong (ci := 7) dX7_opens_7 mo_X7_wrong lk_X7_51 (by decide) rfl rfl (S _ _ rfl) (Nat.le_of_ble_eq_true rfl) (Nat.le_of_ble_eq_true rfl) (t_wrong (d + 1) S hf) (fun v1 h1 p1 x1 => ?_)
    rw [p1.1, p1.2]
    try dsimp only [Option.toList, List.cons_append, List.nil_append, List.append]
    refine Rp.iconst (nI 0) dX7_opens_10 (by decide) ?_
    refine Rp.zreturn dX7_opens_11 rfl (Or.inl rfl) ?_
    exact ⟨rfl, rfl⟩
theorem bad_close (S : ShOK h) (hf : gI h 35 3 ≠ -1) (b : Int32) : Rp (d + 2) M_X7_close 0 [some (.ref 35), some (.int b)] [] h (fun r h' => h' = h ∧ r = none) := by
  refine Rp.aload_n dX7_close_0 rfl rfl ?_
  refine Rp.getI dX7_close_1 fk_X7_22 rfl (S _ _ rfl) ?_
  refine Rp.iconst (-1) dX7_close_4 (by decide) ?_
  first | ((with_reducible show Rp _ _ _ _ (.int (nI _) :: .int (nI _) :: _) _ _); refine Rp.icmp_eqN (tgt := 9) dX7_close_5 (by decide) (by omega) (fun c5 => ?_) (fun c5 => ?_)) | refine Rp.icmp_eq (tgt := 9) dX7_close_5 (by decide) (fun c5 => ?_) (fun c5 => ?_)
  · skip
    exact absurd c5 hf
  · skip
    refine Rp.vreturn dX7_close_8 rfl ?_
    exact ⟨rfl, rfl⟩
theorem t_close (B : RB h ord L) (hTL : TL = TLo (gI h 36) L) {i s : Nat} (hs : s < 256) (hs2 : isSm (nI s) = false) (hs3 : isDg (nI s) = false) (hT : TS h L TL i) (hf : gI h 35 3 = -1) : Rp (d + 2) M_X7_close 0 [some (.ref 35), some (.int (nI s))] [] h (fun r h' => r = none ∧ ((cT (gI h 36) TL i = 100 + s ∧ Fr avX h h' ∧ TS h' L TL (i + 1)) ∨ (cT (gI h 36) TL i ≠ 100 + s ∧ h' = sI h 35 3 (gI h 35 6)))) := by
  have S := B.1
  have sg := TS_sign hT hs hs2 hs3
  by_cases e : cT (gI h 36) TL i = 100 + s
  · have q1 := t_next d B hTL hT (cT_len (tb := gI h 36) (by rw [e]; omega))
    refine Rp.aload_n dX7_close_0 rfl rfl ?_
    refine Rp.getI dX7_close_1 fk_X7_22 rfl (S _ _ rfl) ?_
    first | rw [hf] | skip
    refine Rp.iconst (-1) dX7_close_4 (by decide) ?_
    first | ((with_reducible show Rp _ _ _ _ (.int (nI _) :: .int (nI _) :: _) _ _); refine Rp.icmp_eqN (tgt := 9) dX7_close_5 (by decide) (by omega) (fun c5 => ?_) (fun c5 => ?_)) | refine Rp.icmp_eq (tgt := 9) dX7_close_5 (by decide) (fun c5 => ?_) (fun c5 => ?_)
    · skip
      refine Rp.aload_n dX7_close_9 rfl rfl ?_
      refine Rp.getI dX7_close_10 fk_X7_48 rfl (S _ _ rfl) ?_
      first | rw [hf] | skip
      refine Rp.iload_n dX7_close_13 rfl ?_
      first | ((with_reducible show Rp _ _ _ _ (.int (nI _) :: .int (nI _) :: _) _ _); refine Rp.icmp_neN (tgt := 24) dX7_close_14 (by decide) (by omega) (fun c14 => ?_) (fun c14 => ?_)) | refine Rp.icmp_ne (tgt := 24) dX7_close_14 (by decide) (fun c14 => ?_) (fun c14 => ?_)
      · skip
        exact absurd (sg.mpr e) c14
      · skip
        refine Rp.aload_n dX7_close_17 rfl rfl ?_
        refine Rp.callV0 M_X7_advance (ci := 7) dX7_close_18 mo_X7_advance lk_X7_42 (by decide) rfl rfl (S _ _ rfl) (Nat.le_of_ble_eq_true rfl) (Nat.le_of_ble_eq_true rfl) (q1) (fun v1 h1 p1 x1 => ?_)
        obtain ⟨rfl, p2, p3⟩ := p1
        try dsimp only [Option.toList, List.cons_append, List.nil_append, List.append]
        refine Rp.goto (tgt := 28) dX7_close_21 (by decide) ?_
        refine Rp.vreturn dX7_close_28 rfl ?_
        exact ⟨rfl, Or.inl ⟨e, p2, p3⟩⟩
    · skip
      first | (exfalso; omega) | exact absurd c5 (by decide) | exact absurd (by decide) c5
  · skip
    refine Rp.aload_n dX7_close_0 rfl rfl ?_
    refine Rp.getI dX7_close_1 fk_X7_22 rfl (S _ _ rfl) ?_
    first | rw [hf] | skip
    refine Rp.iconst (-1) dX7_close_4 (by decide) ?_
    first | ((with_reducible show Rp _ _ _ _ (.int (nI _) :: .int (nI _) :: _) _ _); refine Rp.icmp_eqN (tgt := 9) dX7_close_5 (by decide) (by omega) (fun c5 => ?_) (fun c5 => ?_)) | refine Rp.icmp_eq (tgt := 9) dX7_close_5 (by decide) (fun c5 => ?_) (fun c5 => ?_)
    · skip
      refine Rp.aload_n dX7_close_9 rfl rfl ?_
      refine Rp.getI dX7_close_10 fk_X7_48 rfl (S _ _ rfl) ?_
      first | rw [hf] | skip
      refine Rp.iload_n dX7_close_13 rfl ?_
      first | ((with_reducible show Rp _ _ _ _ (.int (nI _) :: .int (nI _) :: _) _ _); refine Rp.icmp_neN (tgt := 24) dX7_close_14 (by decide) (by omega) (fun c14 => ?_) (fun c14 => ?_)) | refine Rp.icmp_ne (tgt := 24) dX7_close_14 (by decide) (fun c14 => ?_) (fun c14 => ?_)
      · skip
        refine Rp.aload_n dX7_close_24 rfl rfl ?_
        refine Rp.callV0 M_X7_wrong (ci := 7) dX7_close_25 mo_X7_wrong lk_X7_51 (by decide) rfl rfl (S _ _ rfl) (Nat.le_of_ble_eq_true rfl) (Nat.le_of_ble_eq_true rfl) (t_wrong (d + 1) S hf) (fun v1 h1 p1 x1 => ?_)
        rw [p1.1, p1.2]
        try dsimp only [Option.toList, List.cons_append, List.nil_append, List.append]
        refine Rp.vreturn dX7_close_28 rfl ?_
        exact ⟨rfl, Or.inr ⟨e, rfl⟩⟩
      · skip
        exact absurd (sg.mp c14) e
    · skip
      first | (exfalso; omega) | exact absurd c5 (by decide) | exact absurd (by decide) c5
end Go
