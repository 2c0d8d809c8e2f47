def bX (k j : Nat) : Bool := (k == 40 && (j == 3 || j == 4)) || (k == 44 && decide (j < 246))
/-- a law as a reference -/
def LR0 (h : AH) (lr : Option Nat) (fl : Option (List CLE)) : Prop := match fl with
  | none => lr = none
  | some LS => ∃ tx kh kc nh nc, lr = some tx ∧ TXG h tx kh kc nh nc false LS
theorem LR0.fr {X : Nat → Nat → Bool} {h g : AH} {lr : Option Nat} {fl : Option (List CLE)} (J : LR0 h lr fl) (F : Fr X h g) (hx : ∀ k j, okT k → X k j = false) : LR0 g lr fl := by
  match fl, J with
  | none, J => exact J
  | some LS, J =>
    obtain ⟨tx, kh, kc, nh, nc, hl, T⟩ := J
    exact ⟨tx, kh, kc, nh, nc, hl, T.fr F hx⟩
theorem Fr.fill {X : Nat → Nat → Bool} {h h' : AH} (F : Fr X h h') {a n : Nat} {x : Int32} (hx : ∀ j, j < n → X a j = true) : Fr X h (fillI h' a n x) := ⟨F.1, F.2.1, fun k j q => by
  rw [gI_fillI]
  by_cases z : k = a
  · rw [if_pos z]
    by_cases y : j < n
    · rw [z, hx j y] at q; cases q
    · rw [if_neg y]; exact F.2.2.1 k j q
  · rw [if_neg z]; exact F.2.2.1 k j q, fun k j q => F.2.2.2.1 k j q, fun k j q => F.2.2.2.2 k j q⟩
theorem bX_T {k j : Nat} (o : okT k) : bX k j = false := by
  unfold bX
  rw [show (k == 40) = false from beq_eq_false_iff_ne.mpr (okT_ne o (by decide) (by decide) (by decide) (by decide)), show (k == 44) = false from beq_eq_false_iff_ne.mpr (okT_ne o (by decide) (by decide) (by decide) (by decide))]; rfl
theorem bX_lt {k j : Nat} (h : k < 40) : bX k j = false := by
  unfold bX
  rw [show (k == 40) = false from beq_eq_false_iff_ne.mpr (by omega), show (k == 44) = false from beq_eq_false_iff_ne.mpr (by omega)]; rfl
section Bg
variable (d : Nat) {h : AH} {b : Nat} {K : Nat → Int32} {fl : Option (List CLE)}
theorem t_beginJ (S : ShOK h) (R : RfOK h) (J : HJ h b K) (hz : ∀ j, 9 ≤ j → gI h 43 j = 0) {lr : Option Nat} (hl : LR0 h lr fl) : Rp (d + 1) M_X3_begin 0 [some (.ref 40), some (.ref b), some (cvR lr)] [] h (fun r h' => r = none ∧ Fr bX h h' ∧ JS h' b K fl) := by
  have F0 : Fr bX h (fillI (sR (sR h 40 3 (some b)) 40 4 lr) 44 246 (-1)) := ((Fr.rfl'.sR rfl).sR rfl).fill (fun j hj => by unfold bX; rw [decide_eq_true hj]; rfl)
  have e44 : ∀ j, j < 246 → gI (fillI (sR (sR h 40 3 (some b)) 40 4 lr) 44 246 (-1)) 44 j = -1 := fun j hj => by rw [gI_fillI, if_pos rfl, if_pos hj]
  have fin : JS (fillI (sR (sR h 40 3 (some b)) 40 4 lr) 44 246 (-1)) b K fl := by
    refine ⟨?_, ?_, J.fr F0 (fun k j hk => bX_lt (by omega)), fun j hj => (F0.I 43 j rfl).trans (hz j hj), fun p t e h1 h2 h3 => Or.inl (e44 _ (by omega)), fun p t h1 h2 => Or.inl (e44 _ (by omega)), fun p t h1 h2 => Or.inl (e44 _ (by omega)), fun p h1 => Or.inl (e44 _ (by omega))⟩
    · show gR (sR (sR h 40 3 (some b)) 40 4 lr) 40 3 = some b
      rw [gR_sR, if_pos rfl, if_neg (by decide), gR_sR, if_pos rfl, if_pos rfl]
    · have e4 : gR (fillI (sR (sR h 40 3 (some b)) 40 4 lr) 44 246 (-1)) 40 4 = lr := by
        show gR (sR (sR h 40 3 (some b)) 40 4 lr) 40 4 = lr
        rw [gR_sR, if_pos rfl, if_pos rfl]
      have hl1 := hl.fr F0 (fun k j o => bX_T o)
      match fl, hl1 with
      | none, hl1 => exact e4.trans hl1
      | some LS, hl1 =>
        obtain ⟨tx, kh, kc, nh, nc, q, T⟩ := hl1
        exact ⟨tx, kh, kc, nh, nc, e4.trans q, T⟩
  have S2 : ShOK (sR (sR h 40 3 (some b)) 40 4 lr) := S
  have R2 : RfOK (sR (sR h 40 3 (some b)) 40 4 lr) := Fr.R (X := bX) ((Fr.rfl'.sR rfl).sR rfl) R (by decide)
  have fl1 := c_fill d (sR (sR h 40 3 (some b)) 40 4 lr) 44 246 (-1) (S2 _ _ rfl) (by decide)
  match lr, fin, F0, R2, fl1 with
  | none, fin, F0, R2, fl1 =>
    dsimp only [cvR]
    refine Rp.aload_n dX3_begin_0 rfl rfl ?_
    refine Rp.aload_n dX3_begin_1 rfl rfl ?_
    refine Rp.putR dX3_begin_2 fk_X3_25w (fun h => by cases h) (Or.inl ⟨_, rfl⟩) (S _ _ rfl) ?_
    refine Rp.aload_n dX3_begin_5 rfl rfl ?_
    refine Rp.aload_n dX3_begin_6 rfl rfl ?_
    refine Rp.putRN dX3_begin_7 fk_X3_29w (fun h => by cases h) (Or.inl ⟨_, rfl⟩) (S _ _ rfl) ?_
    refine Rp.aload_n dX3_begin_10 rfl rfl ?_
    refine Rp.getR dX3_begin_11 fk_X3_22 rfl (S _ _ rfl) (R2 _ _ _ rfl) ?_
    refine Rp.iconst (-1) dX3_begin_14 (by decide) ?_
    refine Rp.callS2 M_J7_fill_53178 dX3_begin_15 mo_J7_fill_53178 lk_X3_33 (Nat.le_of_ble_eq_true rfl) (Nat.le_of_ble_eq_true rfl) (fl1) (fun v1 h1 p1 x1 => ?_)
    rw [p1.1, p1.2]
    try dsimp only [Option.toList, List.cons_append, List.nil_append, List.append]
    refine Rp.vreturn dX3_begin_18 rfl ?_
    exact ⟨rfl, F0, fin⟩
  | some tx, fin, F0, R2, fl1 =>
    dsimp only [cvR]
    refine Rp.aload_n dX3_begin_0 rfl rfl ?_
    refine Rp.aload_n dX3_begin_1 rfl rfl ?_
    refine Rp.putR dX3_begin_2 fk_X3_25w (fun h => by cases h) (Or.inl ⟨_, rfl⟩) (S _ _ rfl) ?_
    refine Rp.aload_n dX3_begin_5 rfl rfl ?_
    refine Rp.aload_n dX3_begin_6 rfl rfl ?_
    refine Rp.putR dX3_begin_7 fk_X3_29w (fun h => by cases h) (Or.inl ⟨_, rfl⟩) (S _ _ rfl) ?_
    refine Rp.aload_n dX3_begin_10 rfl rfl ?_
    refine Rp.getR dX3_begin_11 fk_X3_22 rfl (S _ _ rfl) (R2 _ _ _ rfl) ?_
    refine Rp.iconst (-1) dX3_begin_14 (by decide) ?_
    refine Rp.callS2 M_J7_fill_53178 dX3_begin_15 mo_J7_fill_53178 lk_X3_33 (Nat.le_of_ble_eq_true rfl) (Nat.le_of_ble_eq_true rfl) (fl1) (fun v1 h1 p1 x1 => ?_)
    rw [p1.1, p1.2]
    try dsimp only [Option.toList, List.cons_append, List.nil_append, List.append]
    refine Rp.vreturn dX3_begin_18 rfl ?_
    exact ⟨rfl, F0, fin⟩
/-- the laws of a hall -/
def HLw (h : AH) (b nl : Nat) (LSs : Nat → List CLE) : Prop := HOK h b ∧ nl ≤ 6 ∧ gI h b 16 = nI nl ∧ ∀ l, l < nl → ∃ tx kh kc nh nc, gR h (b + 13) l = some tx ∧ TXG h tx kh kc nh nc false (LSs l)
def flO (nl : Nat) (LSs : Nat → List CLE) (x : Int32) : Option (List CLE) := if inN x nl = true then some (LSs (ix x)) else none
theorem t_lawOf {nl : Nat} {LSs : Nat → List CLE} (H : HLw h b nl LSs) (x : Int32) : Rp (d + 1) M_X2_lawOf 0 [some (.ref b), some (.int x)] [] h (fun r h' => h' = h ∧ ∃ lr, r = some (cvR lr) ∧ LR0 h lr (flO nl LSs x)) := by
  obtain ⟨A, hn, h16, ht⟩ := H
  have q := t_isLaw d (k := b) (A.1 0 _ rfl) x hn h16
  by_cases e : inN x nl = true
  · obtain ⟨l, hl, rfl⟩ := (inN_iff (by omega)).mp e
    obtain ⟨tx, kh, kc, nh, nc, hr, T⟩ := ht l hl
    have ef : flO nl LSs (nI l) = some (LSs l) := by unfold flO; rw [if_pos e, ix_nI (by omega)]
    rw [e] at q
    rw [ef]
    refine Rp.aload_n dX2_lawOf_0 rfl rfl ?_
    refine Rp.iload_n dX2_lawOf_1 rfl ?_
    refine Rp.callV1 M_X2_isLaw (ci := 2) dX2_lawOf_2 mo_X2_isLaw lk_X2_96 (by decide) rfl rfl (A.1 0 _ rfl) (Nat.le_of_ble_eq_true rfl) (Nat.le_of_ble_eq_true rfl) (q) (fun v1 h1 p1 x1 => ?_)
    rw [p1.1, p1.2]
    try dsimp only [Option.toList, List.cons_append, List.nil_append, List.append]
    refine Rp.if_eqB (tgt := 17) dX2_lawOf_5 (by decide) (fun c => nomatch c) (fun c => ?_)
    refine Rp.aload_n dX2_lawOf_8 rfl rfl ?_
    refine Rp.getR dX2_lawOf_9 fk_X2_50 rfl (A.1 0 _ rfl) (A.2 0 17 13 rfl) ?_
    refine Rp.iload_n dX2_lawOf_12 rfl ?_
    refine Rp.aaloadN dX2_lawOf_13 (Or.inl rfl) (A.1 13 _ rfl) ⟨by omega, by decide⟩ ?_
    rw [hr]
    dsimp only [cvR]
    refine Rp.goto (tgt := 18) dX2_lawOf_14 (by decide) ?_
    refine Rp.areturn dX2_lawOf_18 rfl (Or.inl ⟨_, rfl⟩) rfl ?_
    exact ⟨rfl, some tx, rfl, tx, kh, kc, nh, nc, rfl, T⟩
  · have e2 : inN x nl = false := Bool.eq_false_iff.mpr e
    have ef : flO nl LSs x = none := by unfold flO; rw [if_neg e]
    rw [e2] at q
    rw [ef]
    refine Rp.aload_n dX2_lawOf_0 rfl rfl ?_
    refine Rp.iload_n dX2_lawOf_1 rfl ?_
    refine Rp.callV1 M_X2_isLaw (ci := 2) dX2_lawOf_2 mo_X2_isLaw lk_X2_96 (by decide) rfl rfl (A.1 0 _ rfl) (Nat.le_of_ble_eq_true rfl) (Nat.le_of_ble_eq_true rfl) (q) (fun v1 h1 p1 x1 => ?_)
    rw [p1.1, p1.2]
    try dsimp only [Option.toList, List.cons_append, List.nil_append, List.append]
    refine Rp.if_eqB (tgt := 17) dX2_lawOf_5 (by decide) (fun c => ?_) (fun c => nomatch c)
    refine Rp.aconst_null dX2_lawOf_17 ?_
    refine Rp.areturn dX2_lawOf_18 rfl (Or.inl ⟨_, rfl⟩) rfl ?_
    exact ⟨rfl, none, rfl, rfl⟩
theorem t_lawInForce {nl : Nat} {LSs : Nat → List CLE} (H : HLw h b nl LSs) : Rp (d + 2) M_X2_lawInForce 0 [some (.ref b)] [] h (fun r h' => h' = h ∧ ∃ lr, r = some (cvR lr) ∧ LR0 h lr (flO nl LSs (gI h b 18))) := by
  have A := H.1
  refine Rp.aload_n dX2_lawInForce_0 rfl rfl ?_
  refine Rp.aload_n dX2_lawInForce_1 rfl rfl ?_
  refine Rp.getI dX2_lawInForce_2 fk_X2_54 rfl (A.1 0 _ rfl) ?_
  refine Rp.callV1 M_X2_lawOf (ci := 2) dX2_lawInForce_5 mo_X2_lawOf lk_X2_100 (by decide) rfl rfl (A.1 0 _ rfl) (Nat.le_of_ble_eq_true rfl) (Nat.le_of_ble_eq_true rfl) (t_lawOf d H _) (fun v1 h1 p1 x1 => ?_)
  obtain ⟨rfl, lr, rfl, q⟩ := p1
  try dsimp only [Option.toList, List.cons_append, List.nil_append, List.append]
  match lr, q with
  | none, q =>
    refine Rp.areturn dX2_lawInForce_8 rfl (Or.inl ⟨_, rfl⟩) rfl ?_
    exact ⟨rfl, none, rfl, q⟩
  | some tx, q =>
    refine Rp.areturn dX2_lawInForce_8 rfl (Or.inl ⟨_, rfl⟩) rfl ?_
    exact ⟨rfl, some tx, rfl, q⟩
end Bg
