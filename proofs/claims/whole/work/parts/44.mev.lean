/-- the two slots that evaluation moves: go, broken -/
def evH (h : AH) (g b : Int32) : AH := sI (sI h aM fm_go g) aM fm_broken b
theorem ev_o (h : AH) (g b : Int32) {k : Nat} (j : Nat) (hk : k ≠ aM) : gI (evH h g b) k j = gI h k j := by
  unfold evH; rw [gI_ne _ _ _ _ hk, gI_ne _ _ _ _ hk]
theorem ev_q (h : AH) (g b : Int32) {j : Nat} (h1 : j ≠ 22) (h2 : j ≠ 24) : gI (evH h g b) aM j = gI h aM j := by
  unfold evH; rw [gI_off _ _ _ h2, gI_off _ _ _ h1]
theorem ev_g (h : AH) (g b : Int32) : gI (evH h g b) aM 22 = g := by
  unfold evH; rw [gI_off _ _ _ (by decide), gI_hit]
theorem ev_b (h : AH) (g b : Int32) : gI (evH h g b) aM 24 = b := by
  unfold evH; rw [gI_hit]
theorem ev_k (h : AH) (g b : Int32) (j : Nat) : gI (evH h g b) am_kept j = gI h am_kept j := ev_o h g b j (by decide)
theorem ev_a (h : AH) (g b : Int32) (j : Nat) : gI (evH h g b) am_asked j = gI h am_asked j := ev_o h g b j (by decide)
theorem ev_e (h : AH) (g b : Int32) : gI (evH h g b) aM 23 = gI h aM 23 := ev_q h g b (by decide) (by decide)
theorem ev_i (h : AH) (g b : Int32) : gI (evH h g b) aM 25 = gI h aM 25 := ev_q h g b (by decide) (by decide)
theorem ev_sg (h : AH) (g b x : Int32) : sI (evH h g b) aM 22 x = evH h x b := by
  refine ah_ext rfl (fun k j => ?_) rfl
  by_cases hk : k = aM
  · subst hk
    rw [gI_at]
    by_cases h1 : j = 22
    · subst h1; rw [if_pos rfl, ev_g]
    · rw [if_neg h1]
      by_cases h2 : j = 24
      · subst h2; rw [ev_b, ev_b]
      · rw [ev_q _ _ _ h1 h2, ev_q _ _ _ h1 h2]
  · rw [gI_ne _ _ _ _ hk, ev_o _ _ _ _ hk, ev_o _ _ _ _ hk]
theorem ev_sb (h : AH) (g b x : Int32) : sI (evH h g b) aM 24 x = evH h g x := by
  refine ah_ext rfl (fun k j => ?_) rfl
  by_cases hk : k = aM
  · subst hk
    rw [gI_at]
    by_cases h2 : j = 24
    · subst h2; rw [if_pos rfl, ev_b]
    · rw [if_neg h2]
      by_cases h1 : j = 22
      · subst h1; rw [ev_g, ev_g]
      · rw [ev_q _ _ _ h1 h2, ev_q _ _ _ h1 h2]
  · rw [gI_ne _ _ _ _ hk, ev_o _ _ _ _ hk, ev_o _ _ _ _ hk]
def EK (h : AH) (B : Nat) (c v : Nat → Nat) (T : Nat) : Prop := B + T ≤ 2800 ∧ c T = 0 ∧ gI h aM fm_goEnd = nI (B + T) ∧ (∀ k, k < T → gI h am_kept (116 + (B + k)) = nI (c k) ∧ gI h am_kept (2916 + (B + k)) = nI (v k) ∧ c k < 1000 ∧ v k < 20000000)
/-- what the value of a sum is, and whether it is broken -/
def evC (live b : Bool) (D : Option Int) (b' : Bool) (x : Int64) : Prop := if live = true ∧ b = false then (match D with
  | some y => b' = false ∧ x = Int64.ofInt y ∧ -1000000000 ≤ y ∧ y ≤ 1000000000
  | none => b' = true) else b' = b
def evS (live b : Bool) (D : Option Int) (h : AH) (g : Nat) (r : Option Value) (h' : AH) : Prop := ∃ x b', r = some (.long x) ∧ h' = evH h (nI g) (b2i b') ∧ evC live b D b' x
def evCT (live b : Bool) (D : Option Int) (b' t : Bool) : Prop := if live = true ∧ b = false then (match D with
  | some y => b' = false ∧ y = bZ t
  | none => b' = true) else b' = b
def evT (live b : Bool) (D : Option Int) (h : AH) (g : Nat) (r : Option Value) (h' : AH) : Prop := ∃ t b', r = some (.int (b2i t)) ∧ h' = evH h (nI g) (b2i b') ∧ evCT live b D b' t
theorem evC_bind {live b b1 b2 : Bool} {x1 x2 : Int64} {D1 : Option Int} {D2 : Int → Option Int} (e1 : evC live b D1 b1 x1) (e2 : evC live b1 (D2 (D1.getD 0)) b2 x2) : evC live b (D1.bind D2) b2 x2 := by
  unfold evC at e1 ⊢
  by_cases hl : live = true ∧ b = false
  · rw [if_pos hl] at e1 ⊢
    match D1, e1, e2 with
    | none, e1, e2 =>
      unfold evC at e2
      rw [e1, if_neg (fun z => absurd z.2 (by decide))] at e2
      exact e2
    | some y, e1, e2 =>
      unfold evC at e2
      rw [if_pos ⟨hl.1, e1.1⟩] at e2
      exact e2
  · rw [if_neg hl] at e1 ⊢
    unfold evC at e2
    rw [e1, if_neg hl] at e2
    exact e2
theorem evCT_bind {live b b1 b2 : Bool} {t1 t2 : Bool} {D1 : Option Int} {D2 : Int → Option Int} (e1 : evCT live b D1 b1 t1) (e2 : evCT live b1 (D2 (bZ t1)) b2 t2) : evCT live b (D1.bind D2) b2 t2 := by
  unfold evCT at e1 ⊢
  by_cases hl : live = true ∧ b = false
  · rw [if_pos hl] at e1 ⊢
    match D1, e1, e2 with
    | none, e1, e2 =>
      unfold evCT at e2
      rw [e1, if_neg (fun z => absurd z.2 (by decide))] at e2
      exact e2
    | some y, e1, e2 =>
      unfold evCT at e2
      rw [if_pos ⟨hl.1, e1.1⟩, ← e1.2] at e2
      exact e2
  · rw [if_neg hl] at e1 ⊢
    unfold evCT at e2
    rw [e1, if_neg hl] at e2
    exact e2
theorem evC_full {live b b1 : Bool} {x : Int64} {D : Option Int} (e : evC live b D b1 x) (hl : live = true ∧ b1 = false) : b = false ∧ x = Int64.ofInt (D.getD 0) ∧ -1000000000 ≤ D.getD 0 ∧ D.getD 0 ≤ 1000000000 := by
  unfold evC at e
  by_cases h1 : live = true ∧ b = false
  · rw [if_pos h1] at e
    match D, e with
    | none, e => rw [hl.2] at e; cases e
    | some y, e => exact ⟨h1.2, e.2⟩
  · rw [if_neg h1] at e
    exact absurd ⟨hl.1, e ▸ hl.2⟩ h1
theorem evC_b {live b b1 : Bool} {x : Int64} {D : Option Int} (e : evC live b D b1 x) (hb : b = true) : b1 = true := by
  unfold evC at e
  rw [if_neg (fun z => by rw [hb] at z; exact absurd z.2 (by decide))] at e
  rw [e, hb]
section Ev
variable (d : Nat) {h : AH} {B : Nat} {c v : Nat → Nat} {T : Nat}
theorem s_codeAt (S : ShOK h) (R : RfOK h) (K : EK h B c v T) {i : Nat} (hi : i ≤ T) (g b : Int32) : Rp d M_X12_codeAt 0 [some (.ref aM), some (.int (nI (B + i)))] [] (evH h g b) (fun r h' => h' = evH h g b ∧ r = some (.int (nI (c i)))) := by
  have hT := K.1
  have he := K.2.2.1
  by_cases hq : i < T
  · obtain ⟨e1, -, -, -⟩ := K.2.2.2 i hq
    refine Rp.iload_n dX12_codeAt_0 rfl ?_
    refine Rp.aload_n dX12_codeAt_1 rfl rfl ?_
    refine Rp.getI dX12_codeAt_2 fk_X12_279 rfl (S _ _ rfl) ?_
    first | rw [ev_e, he] | rw [ev_k, e1] | skip
    first | ((with_reducible show Rp _ _ _ _ (.int (nI _) :: .int (nI _) :: _) _ _); refine Rp.icmp_geN (tgt := 20) dX12_codeAt_5 (by decide) (by omega) (fun c5 => ?_) (fun c5 => ?_)) | refine Rp.icmp_ge (tgt := 20) dX12_codeAt_5 (by decide) (fun c5 => ?_) (fun c5 => ?_)
    · skip
      first | (exfalso; omega) | exact absurd c5 (by decide) | exact absurd (by decide) c5
    · skip
      refine Rp.aload_n dX12_codeAt_8 rfl rfl ?_
      refine Rp.getR dX12_codeAt_9 fk_X12_24 rfl (S _ _ rfl) (R _ _ _ rfl) ?_
      refine Rp.bipush (nI 116) dX12_codeAt_12 (by decide) ?_
      refine Rp.iload_n dX12_codeAt_14 rfl ?_
      first | ((with_reducible show Rp _ _ _ _ (.int (nI _) :: .int (nI _) :: _) _ _); refine Rp.iaddN dX12_codeAt_15 ?_) | refine Rp.iadd dX12_codeAt_15 ?_
      first | ((with_reducible show Rp _ _ _ _ (.int (nI _) :: _) _ _); refine Rp.ialoadN dX12_codeAt_16 (S _ _ rfl) (by omega) ?_) | refine Rp.iaload dX12_codeAt_16 (S _ _ rfl) (by first | assumption | exact vpb (by decide)) ?_
      first | rw [ev_e, he] | rw [ev_k, e1] | skip
      refine Rp.goto (tgt := 21) dX12_codeAt_17 (by decide) ?_
      refine Rp.ireturn dX12_codeAt_21 rfl ?_
      exact ⟨rfl, rfl⟩
  · have : i = T := by omega
    subst this
    rw [K.2.1]
    refine Rp.iload_n dX12_codeAt_0 rfl ?_
    refine Rp.aload_n dX12_codeAt_1 rfl rfl ?_
    refine Rp.getI dX12_codeAt_2 fk_X12_279 rfl (S _ _ rfl) ?_
    first | rw [ev_e, he] | skip
    first | ((with_reducible show Rp _ _ _ _ (.int (nI _) :: .int (nI _) :: _) _ _); refine Rp.icmp_geN (tgt := 20) dX12_codeAt_5 (by decide) (by omega) (fun c5 => ?_) (fun c5 => ?_)) | refine Rp.icmp_ge (tgt := 20) dX12_codeAt_5 (by decide) (fun c5 => ?_) (fun c5 => ?_)
    · skip
      refine Rp.iconst (nI 0) dX12_codeAt_20 (by decide) ?_
      refine Rp.ireturn dX12_codeAt_21 rfl ?_
      exact ⟨rfl, rfl⟩
    · skip
      first | (exfalso; omega) | exact absurd c5 (by decide) | exact absurd (by decide) c5
theorem EK.lt {h : AH} {B : Nat} {c v : Nat → Nat} {T : Nat} (K : EK h B c v T) {i : Nat} (hi : i ≤ T) : c i < 1000 := by
  by_cases hq : i < T
  · exact (K.2.2.2 i hq).2.2.1
  · have : i = T := by omega
    rw [this, K.2.1]; decide
theorem s_passes (S : ShOK h) (R : RfOK h) (K : EK h B c v T) {i : Nat} (hi : i ≤ T) (b : Int32) (k : Nat) (hk : k < 1000) : Rp (d + 1) M_X12_passes0 0 [some (.ref aM), some (.int (nI k)), none] [] (evH h (nI (B + i)) b) (fun r h' => (c i = k ∧ r = some (.int (nI 1)) ∧ h' = evH h (nI (B + i + 1)) b) ∨ (c i ≠ k ∧ r = some (.int (nI 0)) ∧ h' = evH h (nI (B + i)) b)) := by
  have hT := K.1
  have e2 := K.lt hi
  refine Rp.aload_n dX12_passes0_0 rfl rfl ?_
  refine Rp.aload_n dX12_passes0_1 rfl rfl ?_
  refine Rp.getI dX12_passes0_2 fk_X12_282 rfl (S _ _ rfl) ?_
  first | rw [ev_g] | skip
  refine Rp.callV1 M_X12_codeAt (ci := 12) dX12_passes0_5 mo_X12_codeAt lk_X12_285 (by decide) rfl rfl (S _ _ rfl) (Nat.le_of_ble_eq_true rfl) (Nat.le_of_ble_eq_true rfl) (s_codeAt d S R K hi _ b) (fun v1 h1 p1 x1 => ?_)
  rw [p1.1, p1.2]
  try dsimp only [Option.toList, List.cons_append, List.nil_append, List.append]
  refine Rp.iload_n dX12_passes0_8 rfl ?_
  first | ((with_reducible show Rp _ _ _ _ (.int (nI _) :: .int (nI _) :: _) _ _); refine Rp.icmp_neN (tgt := 16) dX12_passes0_9 (by decide) (by omega) (fun c9 => ?_) (fun c9 => ?_)) | refine Rp.icmp_ne (tgt := 16) dX12_passes0_9 (by decide) (fun c9 => ?_) (fun c9 => ?_)
  · skip
    refine Rp.iconst (nI 0) dX12_passes0_16 (by decide) ?_
    refine Rp.ist2 dX12_passes0_17 (by first | exact nl2_some rfl | exact nl2_none) (by decide) ?_
    refine Rp.iload_n dX12_passes0_18 rfl ?_
    first | ((with_reducible show Rp _ _ _ _ (.int (b2i _) :: _) _ _); refine Rp.if_eqB (tgt := 32) dX12_passes0_19 (by decide) (fun c19 => ?_) (fun c19 => ?_)) | ((with_reducible show Rp _ _ _ _ (.int (nI _) :: _) _ _); refine Rp.if_eqN (tgt := 32) dX12_passes0_19 (by decide) (by omega) (fun c19 => ?_) (fun c19 => ?_)) | refine Rp.if_eq (tgt := 32) dX12_passes0_19 (by decide) (fun c19 => ?_) (fun c19 => ?_)
    · skip
      refine Rp.iload_n dX12_passes0_32 rfl ?_
      refine Rp.zreturn dX12_passes0_33 rfl (by first | exact Or.inl rfl | exact Or.inr rfl | assumption) ?_
      first | exact Or.inl ⟨by omega, rfl, rfl⟩ | exact Or.inr ⟨by omega, rfl, rfl⟩ | (exfalso; omega)
    · skip
      refine Rp.aload_n dX12_passes0_22 rfl rfl ?_
      refine Rp.dup dX12_passes0_23 rfl ?_
      refine Rp.getI dX12_passes0_24 fk_X12_282 rfl (S _ _ rfl) ?_
      first | rw [ev_g] | skip
      refine Rp.iconst (nI 1) dX12_passes0_27 (by decide) ?_
      first | ((with_reducible show Rp _ _ _ _ (.int (nI _) :: .int (nI _) :: _) _ _); refine Rp.iaddN dX12_passes0_28 ?_) | refine Rp.iadd dX12_passes0_28 ?_
      refine Rp.putI dX12_passes0_29 fk_X12_282w rfl (S _ _ rfl) ?_
      first | rw [ev_sg] | skip
      refine Rp.iload_n dX12_passes0_32 rfl ?_
      refine Rp.zreturn dX12_passes0_33 rfl (by first | exact Or.inl rfl | exact Or.inr rfl | assumption) ?_
      first | exact Or.inl ⟨by omega, rfl, rfl⟩ | exact Or.inr ⟨by omega, rfl, rfl⟩ | (exfalso; omega)
  · skip
    refine Rp.iconst (nI 1) dX12_passes0_12 (by decide) ?_
    refine Rp.goto (tgt := 17) dX12_passes0_13 (by decide) ?_
    refine Rp.ist2 dX12_passes0_17 (by first | exact nl2_some rfl | exact nl2_none) (by decide) ?_
    refine Rp.iload_n dX12_passes0_18 rfl ?_
    first | ((with_reducible show Rp _ _ _ _ (.int (b2i _) :: _) _ _); refine Rp.if_eqB (tgt := 32) dX12_passes0_19 (by decide) (fun c19 => ?_) (fun c19 => ?_)) | ((with_reducible show Rp _ _ _ _ (.int (nI _) :: _) _ _); refine Rp.if_eqN (tgt := 32) dX12_passes0_19 (by decide) (by omega) (fun c19 => ?_) (fun c19 => ?_)) | refine Rp.if_eq (tgt := 32) dX12_passes0_19 (by decide) (fun c19 => ?_) (fun c19 => ?_)
    · skip
      refine Rp.iload_n dX12_passes0_32 rfl ?_
      refine Rp.zreturn dX12_passes0_33 rfl (by first | exact Or.inl rfl | exact Or.inr rfl | assumption) ?_
      first | exact Or.inl ⟨by omega, rfl, rfl⟩ | exact Or.inr ⟨by omega, rfl, rfl⟩ | (exfalso; omega)
    · skip
      refine Rp.aload_n dX12_passes0_22 rfl rfl ?_
      refine Rp.dup dX12_passes0_23 rfl ?_
      refine Rp.getI dX12_passes0_24 fk_X12_282 rfl (S _ _ rfl) ?_
      first | rw [ev_g] | skip
      refine Rp.iconst (nI 1) dX12_passes0_27 (by decide) ?_
      first | ((with_reducible show Rp _ _ _ _ (.int (nI _) :: .int (nI _) :: _) _ _); refine Rp.iaddN dX12_passes0_28 ?_) | refine Rp.iadd dX12_passes0_28 ?_
      refine Rp.putI dX12_passes0_29 fk_X12_282w rfl (S _ _ rfl) ?_
      first | rw [ev_sg] | skip
      refine Rp.iload_n dX12_passes0_32 rfl ?_
      refine Rp.zreturn dX12_passes0_33 rfl (by first | exact Or.inl rfl | exact Or.inr rfl | assumption) ?_
      first | exact Or.inl ⟨by omega, rfl, rfl⟩ | exact Or.inr ⟨by omega, rfl, rfl⟩ | (exfalso; omega)
theorem s_bound (S : ShOK h) (R : RfOK h) (live b : Bool) (g : Nat) (X : Int64) (Y : Int) (hx : live = true ∧ b = false → X = Int64.ofInt Y ∧ -4000000000000000000 ≤ Y ∧ Y ≤ 4000000000000000000) : Rp d M_X12_bounded 0 [some (.ref aM), some (.long X), none, some (.int (b2i live))] [] (evH h (nI g) (b2i b)) (evS live b (ck Y) h g) := by
  by_cases hl : live = true ∧ b = false
  · obtain ⟨rfl, h1, h2⟩ := hx hl
    obtain ⟨rfl, rfl⟩ := hl
    have q1 : ((1000000000 : Int64) < Int64.ofInt Y) ↔ 1000000000 < Y := z64_lt (x := 1000000000) (by decide) (by decide) h1 h2
    have q3 : ((-1000000000 : Int64) ≤ Int64.ofInt Y) ↔ -1000000000 ≤ Y := by
      rw [Int64.le_iff_toInt_le, z64_toInt h1 h2]
      exact Iff.rfl
    have kn : ∀ (q : Y > 1000000000 ∨ Y < -1000000000), Rp d M_X12_bounded 20 [some (.ref aM), some (.long (Int64.ofInt Y)), none, some (.int (b2i true))] [] (evH h (nI g) (b2i false)) (evS true false (ck Y) h g) := by
      intro q
      refine Rp.aload_n dX12_bounded_20 rfl rfl ?_
      refine Rp.iconst (nI 1) dX12_bounded_21 (by decide) ?_
      refine Rp.putZ dX12_bounded_22 fk_X12_292w rfl (by first | exact Or.inl rfl | exact Or.inr rfl | assumption) (S _ _ rfl) ?_
      first | rw [ev_sb] | skip
      refine Rp.aload_n dX12_bounded_25 rfl rfl ?_
      refine Rp.getI dX12_bounded_26 fk_X12_292 rfl (S _ _ rfl) ?_
      first | rw [ev_b] | skip
      first | ((with_reducible show Rp _ _ _ _ (.int (b2i _) :: _) _ _); refine Rp.if_eqB (tgt := 36) dX12_bounded_29 (by decide) (fun c29 => ?_) (fun c29 => ?_)) | ((with_reducible show Rp _ _ _ _ (.int (nI _) :: _) _ _); refine Rp.if_eqN (tgt := 36) dX12_bounded_29 (by decide) (by omega) (fun c29 => ?_) (fun c29 => ?_)) | refine Rp.if_eq (tgt := 36) dX12_bounded_29 (by decide) (fun c29 => ?_) (fun c29 => ?_)
      · skip
        first | (exfalso; omega) | exact absurd c29 (by decide) | exact absurd (by decide) c29
      · skip
        refine Rp.lconst (0) dX12_bounded_32 (by decide) ?_
        refine Rp.goto (tgt := 37) dX12_bounded_33 (by decide) ?_
        refine Rp.lreturn dX12_bounded_37 rfl ?_
        refine ⟨_, true, rfl, rfl, ?_⟩
        unfold evC ck
        rw [if_pos ⟨rfl, rfl⟩, if_pos q]
    refine Rp.iload_n dX12_bounded_0 rfl ?_
    first | ((with_reducible show Rp _ _ _ _ (.int (b2i _) :: _) _ _); refine Rp.if_eqB (tgt := 25) dX12_bounded_1 (by decide) (fun c1 => ?_) (fun c1 => ?_)) | ((with_reducible show Rp _ _ _ _ (.int (nI _) :: _) _ _); refine Rp.if_eqN (tgt := 25) dX12_bounded_1 (by decide) (by omega) (fun c1 => ?_) (fun c1 => ?_)) | refine Rp.if_eq (tgt := 25) dX12_bounded_1 (by decide) (fun c1 => ?_) (fun c1 => ?_)
    · skip
      first | (exfalso; omega) | exact absurd c1 (by decide) | exact absurd (by decide) c1
    · skip
      refine Rp.lload_n dX12_bounded_4 rfl ?_
      refine Rp.ldc2 dX12_bounded_5 kc_X12_288 ?_
      refine Rp.lcmp dX12_bounded_8 ?_
      refine Rp.if_gt (tgt := 20) dX12_bounded_9 (by decide) (fun c9 => ?_) (fun c9 => ?_)
      · skip
        first | exact kn (Or.inl (q1.mp ((lg_cmp_gt _ _).mp c9))) | exact kn (Or.inr (by have := mt (lg_cmp_ge _ _).mpr c17; rw [q3] at this; omega))
      · skip
        refine Rp.lload_n dX12_bounded_12 rfl ?_
        refine Rp.ldc2 dX12_bounded_13 kc_X12_290 ?_
        refine Rp.lcmp dX12_bounded_16 ?_
        refine Rp.if_ge (tgt := 25) dX12_bounded_17 (by decide) (fun c17 => ?_) (fun c17 => ?_)
        · skip
          refine Rp.aload_n dX12_bounded_25 rfl rfl ?_
          refine Rp.getI dX12_bounded_26 fk_X12_292 rfl (S _ _ rfl) ?_
          first | rw [ev_b] | skip
          first | ((with_reducible show Rp _ _ _ _ (.int (b2i _) :: _) _ _); refine Rp.if_eqB (tgt := 36) dX12_bounded_29 (by decide) (fun c29 => ?_) (fun c29 => ?_)) | ((with_reducible show Rp _ _ _ _ (.int (nI _) :: _) _ _); refine Rp.if_eqN (tgt := 36) dX12_bounded_29 (by decide) (by omega) (fun c29 => ?_) (fun c29 => ?_)) | refine Rp.if_eq (tgt := 36) dX12_bounded_29 (by decide) (fun c29 => ?_) (fun c29 => ?_)
          · skip
            refine Rp.lload_n dX12_bounded_36 rfl ?_
            refine Rp.lreturn dX12_bounded_37 rfl ?_
            have n1 : ¬ 1000000000 < Y := fun z => c9 ((lg_cmp_gt _ _).mpr (q1.mpr z))
            have n2 := q3.mp ((lg_cmp_ge _ _).mp c17)
            refine ⟨_, false, rfl, rfl, ?_⟩
            unfold evC ck
            rw [if_pos ⟨rfl, rfl⟩, if_neg (by omega)]
            exact ⟨rfl, rfl, by omega, by omega⟩
          · skip
            exact absurd c29 (by decide)
        · skip
          first | exact kn (Or.inl (q1.mp ((lg_cmp_gt _ _).mp c9))) | exact kn (Or.inr (by have := mt (lg_cmp_ge _ _).mpr c17; rw [q3] at this; omega))
  · have fin : ∀ x : Int64, evS live b (ck Y) h g (some (.long x)) (evH h (nI g) (b2i b)) := fun x => ⟨x, b, rfl, rfl, by unfold evC; rw [if_neg hl]⟩
    cases live
    · skip
      refine Rp.iload_n dX12_bounded_0 rfl ?_
      first | ((with_reducible show Rp _ _ _ _ (.int (b2i _) :: _) _ _); refine Rp.if_eqB (tgt := 25) dX12_bounded_1 (by decide) (fun c1 => ?_) (fun c1 => ?_)) | ((with_reducible show Rp _ _ _ _ (.int (nI _) :: _) _ _); refine Rp.if_eqN (tgt := 25) dX12_bounded_1 (by decide) (by omega) (fun c1 => ?_) (fun c1 => ?_)) | refine Rp.if_eq (tgt := 25) dX12_bounded_1 (by decide) (fun c1 => ?_) (fun c1 => ?_)
      · skip
        refine Rp.aload_n dX12_bounded_25 rfl rfl ?_
        refine Rp.getI dX12_bounded_26 fk_X12_292 rfl (S _ _ rfl) ?_
        first | rw [ev_b] | skip
        first | ((with_reducible show Rp _ _ _ _ (.int (b2i _) :: _) _ _); refine Rp.if_eqB (tgt := 36) dX12_bounded_29 (by decide) (fun c29 => ?_) (fun c29 => ?_)) | ((with_reducible show Rp _ _ _ _ (.int (nI _) :: _) _ _); refine Rp.if_eqN (tgt := 36) dX12_bounded_29 (by decide) (by omega) (fun c29 => ?_) (fun c29 => ?_)) | refine Rp.if_eq (tgt := 36) dX12_bounded_29 (by decide) (fun c29 => ?_) (fun c29 => ?_)
        · skip
          refine Rp.lload_n dX12_bounded_36 rfl ?_
          refine Rp.lreturn dX12_bounded_37 rfl ?_
          exact fin _
        · skip
          refine Rp.lconst (0) dX12_bounded_32 (by decide) ?_
          refine Rp.goto (tgt := 37) dX12_bounded_33 (by decide) ?_
          refine Rp.lreturn dX12_bounded_37 rfl ?_
          exact fin _
      · skip
        first | (exfalso; omega) | exact absurd c1 (by decide) | exact absurd (by decide) c1
    · cases b
      · exact absurd ⟨rfl, rfl⟩ hl
      · skip
        refine Rp.iload_n dX12_bounded_0 rfl ?_
        first | ((with_reducible show Rp _ _ _ _ (.int (b2i _) :: _) _ _); refine Rp.if_eqB (tgt := 25) dX12_bounded_1 (by decide) (fun c1 => ?_) (fun c1 => ?_)) | ((with_reducible show Rp _ _ _ _ (.int (nI _) :: _) _ _); refine Rp.if_eqN (tgt := 25) dX12_bounded_1 (by decide) (by omega) (fun c1 => ?_) (fun c1 => ?_)) | refine Rp.if_eq (tgt := 25) dX12_bounded_1 (by decide) (fun c1 => ?_) (fun c1 => ?_)
        · skip
          first | (exfalso; omega) | exact absurd c1 (by decide) | exact absurd (by decide) c1
        · skip
          refine Rp.lload_n dX12_bounded_4 rfl ?_
          refine Rp.ldc2 dX12_bounded_5 kc_X12_288 ?_
          refine Rp.lcmp dX12_bounded_8 ?_
          refine Rp.if_gt (tgt := 20) dX12_bounded_9 (by decide) (fun c9 => ?_) (fun c9 => ?_)
          · skip
            refine Rp.aload_n dX12_bounded_20 rfl rfl ?_
            refine Rp.iconst (nI 1) dX12_bounded_21 (by decide) ?_
            refine Rp.putZ dX12_bounded_22 fk_X12_292w rfl (by first | exact Or.inl rfl | exact Or.inr rfl | assumption) (S _ _ rfl) ?_
            first | rw [ev_sb] | skip
            refine Rp.aload_n dX12_bounded_25 rfl rfl ?_
            refine Rp.getI dX12_bounded_26 fk_X12_292 rfl (S _ _ rfl) ?_
            first | rw [ev_b] | skip
            first | ((with_reducible show Rp _ _ _ _ (.int (b2i _) :: _) _ _); refine Rp.if_eqB (tgt := 36) dX12_bounded_29 (by decide) (fun c29 => ?_) (fun c29 => ?_)) | ((with_reducible show Rp _ _ _ _ (.int (nI _) :: _) _ _); refine Rp.if_eqN (tgt := 36) dX12_bounded_29 (by decide) (by omega) (fun c29 => ?_) (fun c29 => ?_)) | refine Rp.if_eq (tgt := 36) dX12_bounded_29 (by decide) (fun c29 => ?_) (fun c29 => ?_)
            · skip
              first | (exfalso; omega) | exact absurd c29 (by decide) | exact absurd (by decide) c29
            · skip
              refine Rp.lconst (0) dX12_bounded_32 (by decide) ?_
              refine Rp.goto (tgt := 37) dX12_bounded_33 (by decide) ?_
              refine Rp.lreturn dX12_bounded_37 rfl ?_
              exact fin _
          · skip
            refine Rp.lload_n dX12_bounded_12 rfl ?_
            refine Rp.ldc2 dX12_bounded_13 kc_X12_290 ?_
            refine Rp.lcmp dX12_bounded_16 ?_
            refine Rp.if_ge (tgt := 25) dX12_bounded_17 (by decide) (fun c17 => ?_) (fun c17 => ?_)
            · skip
              refine Rp.aload_n dX12_bounded_25 rfl rfl ?_
              refine Rp.getI dX12_bounded_26 fk_X12_292 rfl (S _ _ rfl) ?_
              first | rw [ev_b] | skip
              first | ((with_reducible show Rp _ _ _ _ (.int (b2i _) :: _) _ _); refine Rp.if_eqB (tgt := 36) dX12_bounded_29 (by decide) (fun c29 => ?_) (fun c29 => ?_)) | ((with_reducible show Rp _ _ _ _ (.int (nI _) :: _) _ _); refine Rp.if_eqN (tgt := 36) dX12_bounded_29 (by decide) (by omega) (fun c29 => ?_) (fun c29 => ?_)) | refine Rp.if_eq (tgt := 36) dX12_bounded_29 (by decide) (fun c29 => ?_) (fun c29 => ?_)
              · skip
                first | (exfalso; omega) | exact absurd c29 (by decide) | exact absurd (by decide) c29
              · skip
                refine Rp.lconst (0) dX12_bounded_32 (by decide) ?_
                refine Rp.goto (tgt := 37) dX12_bounded_33 (by decide) ?_
                refine Rp.lreturn dX12_bounded_37 rfl ?_
                exact fin _
            · skip
              refine Rp.aload_n dX12_bounded_20 rfl rfl ?_
              refine Rp.iconst (nI 1) dX12_bounded_21 (by decide) ?_
              refine Rp.putZ dX12_bounded_22 fk_X12_292w rfl (by first | exact Or.inl rfl | exact Or.inr rfl | assumption) (S _ _ rfl) ?_
              first | rw [ev_sb] | skip
              refine Rp.aload_n dX12_bounded_25 rfl rfl ?_
              refine Rp.getI dX12_bounded_26 fk_X12_292 rfl (S _ _ rfl) ?_
              first | rw [ev_b] | skip
              first | ((with_reducible show Rp _ _ _ _ (.int (b2i _) :: _) _ _); refine Rp.if_eqB (tgt := 36) dX12_bounded_29 (by decide) (fun c29 => ?_) (fun c29 => ?_)) | ((with_reducible show Rp _ _ _ _ (.int (nI _) :: _) _ _); refine Rp.if_eqN (tgt := 36) dX12_bounded_29 (by decide) (by omega) (fun c29 => ?_) (fun c29 => ?_)) | refine Rp.if_eq (tgt := 36) dX12_bounded_29 (by decide) (fun c29 => ?_) (fun c29 => ?_)
              · skip
                first | (exfalso; omega) | exact absurd c29 (by decide) | exact absurd (by decide) c29
              · skip
                refine Rp.lconst (0) dX12_bounded_32 (by decide) ?_
                refine Rp.goto (tgt := 37) dX12_bounded_33 (by decide) ?_
                refine Rp.lreturn dX12_bounded_37 rfl ?_
                exact fin _
end Ev
