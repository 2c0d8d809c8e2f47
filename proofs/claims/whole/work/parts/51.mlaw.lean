theorem rdL_le {ord : Bool} {c v : Nat → Nat} {T f : Nat} (hc : c T = 0) : ∀ (k i lv a : Nat), i ≤ T → lv ≤ 50 → (match rdL ord c v T f k i lv a with
  | .error e => e ≤ T
  | .ok _ => True) := by
  intro k
  induction k with
  | zero => intro i lv a hi hl; exact hi
  | succ k ih =>
    intro i lv a hi hl
    rw [rdL]
    have o := okC_R (ord := ord) (c := c) (v := v) (f := f) (a := a) hc hi hl
    match clR ord c v f i lv a, o with
    | .error e, o => exact o
    | .ok (i', lv', cd, q), o =>
      dsimp only
      obtain ⟨-, o2, o3, -⟩ := o
      by_cases h1 : c i' = 159
      · rw [if_pos h1]
        have hi1 := lt_of_code hc o2 (by rw [h1]; decide)
        have q1 := ih (i' + 1) lv' (a + cd.length) hi1 o3
        match rdL ord c v T f k (i' + 1) lv' (a + cd.length), q1 with
        | .error e, q1 => exact q1
        | .ok L, q1 => trivial
      · rw [if_neg h1]
        by_cases h2 : i' < T
        · rw [if_pos h2]; exact o2
        · rw [if_neg h2]; trivial
theorem toks_mem (tb : Nat → Int32) (L : Nat) : ∀ m k q, q ∈ toks tb L m k → k ≤ q.1 ∧ q.1 < q.2 ∧ q.2 ≤ L
  | 0, k, q, h => nomatch h
  | m + 1, k, q, h => by
    rw [toks] at h
    by_cases h1 : k < L
    · rw [if_pos h1] at h
      by_cases h2 : tb k = 32
      · rw [if_pos h2] at h
        have := toks_mem tb L m (k + 1) q h
        omega
      · rw [if_neg h2] at h
        have hb := tokE_bnd tb L k h1
        rcases List.mem_cons.mp h with rfl | h
        · exact ⟨Nat.le_refl _, hb.1, hb.2⟩
        · have := toks_mem tb L m (tokE tb L k) q h
          omega
    · rw [if_neg h1] at h; cases h
theorem toks_len (tb : Nat → Int32) (L : Nat) : ∀ m k, (toks tb L m k).length ≤ L - k
  | 0, k => Nat.zero_le _
  | m + 1, k => by
    rw [toks]
    by_cases h1 : k < L
    · rw [if_pos h1]
      by_cases h2 : tb k = 32
      · rw [if_pos h2]
        have := toks_len tb L m (k + 1)
        omega
      · rw [if_neg h2]
        have hb := tokE_bnd tb L k h1
        have := toks_len tb L m (tokE tb L k)
        rw [List.length_cons]
        omega
    · rw [if_neg h1]; exact Nat.zero_le _
theorem cT_lt (tb : Nat → Int32) (TL : List (Nat × Nat)) (j : Nat) : cT tb TL j < 1000 := by
  unfold cT
  split
  · exact tkC_lt _ _
  · decide
theorem vT_lt (tb : Nat → Int32) (hb : ∀ i, (tb i).toInt ≤ 127) (TL : List (Nat × Nat)) (j : Nat) : vT tb TL j < 20000000 := by
  unfold vT
  split
  · unfold tkV
    split
    · exact vF_lt tb hb _ _
    · decide
  · decide
theorem pT_lt (tb : Nat → Int32) {L : Nat} (m k j : Nat) : pT L (toks tb L m k) j ≤ L := by
  unfold pT
  split
  · rename_i q hq
    have := toks_mem tb L m k q (List.mem_of_getElem? hq)
    omega
  · exact Nat.le_refl _
theorem cT_end (tb : Nat → Int32) (TL : List (Nat × Nat)) : cT tb TL TL.length = 0 := by
  unfold cT
  rw [List.getElem?_eq_none (Nat.le_refl _)]
/-- the tokens of a tape -/
abbrev TLo (tb : Nat → Int32) (L : Nat) : List (Nat × Nat) := toks tb L L 0
/-- the reading of a tape -/
def RDg (ord : Bool) (tb : Nat → Int32) (L : Nat) : Except Nat (List CLE) := rdL ord (cT tb (TLo tb L)) (vT tb (TLo tb L)) (TLo tb L).length (12 * (TLo tb L).length + 8) 12 0 0 0
def rsX (k j : Nat) : Bool := k == 109 || k == 110 || k == 111 || (k == 100 && (j == 8 || j == 9 || j == 10 || j == 13 || j == 14 || j == 18 || j == 19 || j == 20 || j == 21))
def RdR (h : AH) (ord : Bool) (L : Nat) (r : Option Value) (h' : AH) : Prop := Fr rsX h h' ∧ gI h' aM fm_taped = nI 0 ∧ gI h' aM fm_tokens = nI (TLo (gI h am_tape) L).length ∧ (∀ i, i ≤ (TLo (gI h am_tape) L).length → gI h' am_code i = nI (cT (gI h am_tape) (TLo (gI h am_tape) L) i) ∧ gI h' am_value i = nI (vT (gI h am_tape) (TLo (gI h am_tape) L) i)) ∧ (match RDg ord (gI h am_tape) L with
  | .error e => r = some (.int (nI 0)) ∧ gI h' aM fm_fault = nI (pT L (TLo (gI h am_tape) L) e)
  | .ok _ => r = some (.int (nI 1)) ∧ gI h' aM fm_fault = -1)
section Ml
variable (d : Nat) {h : AH}
theorem rdH_fr {g : AH} (t l b : Int32) : Fr rsX g (rdH g t l b) := ((Fr.rfl'.sI rfl).sI rfl).sI rfl
theorem rdE_fr {g g' : AH} {b : Int32} (e : rdE g b g') : Fr rsX g g' := by
  obtain ⟨t, l, rfl⟩ := e
  exact (rdH_fr t l b).sI rfl
theorem rdE_f {g g' : AH} {b : Int32} (e : rdE g b g') : gI g' aM fm_fault = b := by
  obtain ⟨t, l, rfl⟩ := e
  exact gI_hit _ _ _ _
theorem rdE_o {g g' : AH} {b : Int32} (e : rdE g b g') {k : Nat} (hk : k ≠ aM) (j : Nat) : gI g' k j = gI g k j := by
  obtain ⟨t, l, rfl⟩ := e
  rw [gI_ne _ _ _ _ hk, rd_o _ _ _ _ _ hk]
theorem rdE_q {g g' : AH} {b : Int32} (e : rdE g b g') {j : Nat} (h1 : j ≠ 19) (h2 : j ≠ 20) (h3 : j ≠ 21) (h4 : j ≠ 14) : gI g' aM j = gI g aM j := by
  obtain ⟨t, l, rfl⟩ := e
  rw [gI_off _ _ _ h4, rd_q _ _ _ _ h1 h2 h3]
theorem s_reads (S : ShOK h) (R : RfOK h) (W : WD h) {ord : Bool} {L : Nat} (hL : L ≤ 400) (hb : ∀ i, (gI h am_tape i).toInt ≤ 127) (ht : gI h aM fm_taped = nI L) (ho : gI h aM fm_isOrders = b2i ord) (hf : gI h aM fm_firstWord = nI (if ord then 16 else 9)) (hw : gI h aM fm_lastWord = nI (if ord then 22 else 17)) : Rp (d + 59) M_X12_reads 0 [some (.ref aM), none] [] h (RdR h ord L) := by
  have main : ∀ h1 : AH, SpE h (gI h am_tape) L (TLo (gI h am_tape) L) h1 → Rp (d + 59) M_X12_reads 28 [some (.ref aM), none] [] (rdH (sI h1 aM fm_taped (nI 0)) (nI 0) (nI 0) (-1)) (RdR h ord L) := by
    intro h1 E
    have F2 : Fr rsX h (sI h1 aM fm_taped (nI 0)) := (E.1.weak (fun k j hx => by
      unfold rsX at hx
      unfold spX
      simp only [Bool.or_eq_false_iff, Bool.and_eq_false_iff] at hx ⊢
      refine ⟨hx.1, ?_⟩
      rcases hx.2 with hx | hx
      · exact Or.inl hx
      · exact Or.inr hx.1.1.1.2)).sI rfl
    have S2 := F2.S S
    have R2 := F2.R R (by decide)
    have hlen : (TLo (gI h am_tape) L).length ≤ L - 0 := toks_len (gI h am_tape) L L 0
    have K : TK (sI h1 aM fm_taped (nI 0)) ord (cT (gI h am_tape) (TLo (gI h am_tape) L)) (vT (gI h am_tape) (TLo (gI h am_tape) L)) (TLo (gI h am_tape) L).length := by
      refine ⟨by omega, cT_end _ _, fun k hk => ?_, ?_, ?_, ?_⟩
      · obtain ⟨e1, e2, e3⟩ := E.2.2 k hk
        rw [gI_ne _ _ _ _ (by decide), gI_ne _ _ _ _ (by decide), gI_ne _ _ _ _ (by decide)]
        exact ⟨e1, e2, cT_lt _ _ _, vT_lt _ hb _ _, _, Nat.lt_succ_of_le (Nat.le_trans (pT_lt _ _ _ _) hL), e3⟩
      · rw [gI_off _ _ _ (by decide), E.1.I 100 10 rfl]; exact ho
      · rw [gI_off _ _ _ (by decide), E.1.I 100 8 rfl]; exact hf
      · rw [gI_off _ _ _ (by decide), E.1.I 100 9 rfl]; exact hw
    have hk : gI (sI h1 aM fm_taped (nI 0)) aM fm_tokens = nI (TLo (gI h am_tape) L).length := by rw [gI_off _ _ _ (by decide)]; exact E.2.1
    have fin : ∀ (b : Int32) (h' : AH), rdE (sI h1 aM fm_taped (nI 0)) b h' → Fr rsX h h' ∧ gI h' aM fm_taped = nI 0 ∧ gI h' aM fm_tokens = nI (TLo (gI h am_tape) L).length ∧ (∀ i, i ≤ (TLo (gI h am_tape) L).length → gI h' am_code i = nI (cT (gI h am_tape) (TLo (gI h am_tape) L) i) ∧ gI h' am_value i = nI (vT (gI h am_tape) (TLo (gI h am_tape) L) i)) := by
      intro b h' e
      refine ⟨F2.trans (rdE_fr e), ?_, ?_, fun i hi => ?_⟩
      · rw [rdE_q e (by decide) (by decide) (by decide) (by decide), gI_hit]
      · rw [rdE_q e (by decide) (by decide) (by decide) (by decide), hk]
      · obtain ⟨e1, e2, -⟩ := E.2.2 i hi
        rw [rdE_o e (by decide), rdE_o e (by decide), gI_ne _ _ _ _ (by decide), gI_ne _ _ _ _ (by decide)]
        exact ⟨e1, e2⟩
    refine Rp.mono (fun r h' p => ?_) (reads28 d S2 R2 K hk (f := 12 * (TLo (gI h am_tape) L).length + 8) (Nat.le_refl _))
    unfold RdR
    have pe : ∀ e, e ≤ (TLo (gI h am_tape) L).length → gI (sI h1 aM fm_taped (nI 0)) am_placed e = nI (pT L (TLo (gI h am_tape) L) e) := fun e he => by rw [gI_ne _ _ _ _ (by decide)]; exact (E.2.2 e he).2.2
    have ob := rdL_le (ord := ord) (v := vT (gI h am_tape) (TLo (gI h am_tape) L)) (f := 12 * (TLo (gI h am_tape) L).length + 8) (cT_end (gI h am_tape) (TLo (gI h am_tape) L)) 12 0 0 0 (Nat.zero_le _) (by decide)
    show Fr rsX h h' ∧ _ ∧ _ ∧ _ ∧ (match rdL ord _ _ _ _ 12 0 0 0 with | .error e => _ | .ok _ => _)
    match hq : rdL ord (cT (gI h am_tape) (TLo (gI h am_tape) L)) (vT (gI h am_tape) (TLo (gI h am_tape) L)) (TLo (gI h am_tape) L).length (12 * (TLo (gI h am_tape) L).length + 8) 12 0 0 0, p, ob with
    | .error e, p, ob =>
      obtain ⟨a1, a2, a3, a4⟩ := fin _ _ p.2
      exact ⟨a1, a2, a3, a4, p.1, by rw [rdE_f p.2, pe e ob]⟩
    | .ok Lc, p, ob =>
      obtain ⟨a1, a2, a3, a4⟩ := fin _ _ p.2
      exact ⟨a1, a2, a3, a4, p.1, rdE_f p.2⟩
  refine Rp.aload_n dX12_reads_0 rfl rfl ?_
  refine Rp.aload_n dX12_reads_1 rfl rfl ?_
  refine Rp.getI dX12_reads_2 fk_X12_174 rfl (S _ _ rfl) ?_
  first | rw [ht] | skip
  refine Rp.callV1 M_X12_splits (ci := 12) dX12_reads_5 mo_X12_splits lk_X12_260 (by decide) rfl rfl (S _ _ rfl) (Nat.le_of_ble_eq_true rfl) (Nat.le_of_ble_eq_true rfl) (s_splits (d + 57) S R W hL hb) (fun v1 h1 p1 x1 => ?_)
  obtain ⟨rfl, p1⟩ := p1
  have S := p1.1.S S
  have R := p1.1.R R (by decide)
  try dsimp only [Option.toList, List.cons_append, List.nil_append, List.append]
  refine Rp.aload_n dX12_reads_8 rfl rfl ?_
  refine Rp.iconst (nI 0) dX12_reads_9 (by decide) ?_
  refine Rp.putI dX12_reads_10 fk_X12_174w rfl (S _ _ rfl) ?_
  refine Rp.aload_n dX12_reads_13 rfl rfl ?_
  refine Rp.iconst (nI 0) dX12_reads_14 (by decide) ?_
  refine Rp.putI dX12_reads_15 fk_X12_200w rfl (S _ _ rfl) ?_
  refine Rp.aload_n dX12_reads_18 rfl rfl ?_
  refine Rp.iconst (nI 0) dX12_reads_19 (by decide) ?_
  refine Rp.putI dX12_reads_20 fk_X12_209w rfl (S _ _ rfl) ?_
  refine Rp.aload_n dX12_reads_23 rfl rfl ?_
  refine Rp.iconst (-1) dX12_reads_24 (by decide) ?_
  refine Rp.putI dX12_reads_25 fk_X12_193w rfl (S _ _ rfl) ?_
  exact main _ p1
theorem s_readsAs (S : ShOK h) (R : RfOK h) (W : WD h) (ord : Bool) {L : Nat} (hL : L ≤ 400) (hb : ∀ i, (gI h am_tape i).toInt ≤ 127) (ht : gI h aM fm_taped = nI L) : Rp (d + 60) M_X12_readsAs 0 [some (.ref aM), some (.int (b2i ord))] [] h (RdR h ord L) := by
  have main : ∀ (x y : Int32), x = nI (if ord then 16 else 9) → y = nI (if ord then 22 else 17) → Rp (d + 60) M_X12_readsAs 35 [some (.ref aM), some (.int (b2i ord))] [] (sI (sI (sI h aM fm_isOrders (b2i ord)) aM fm_firstWord x) aM fm_lastWord y) (RdR h ord L) := by
    intro x y hx hy
    have F1 : Fr rsX h (sI (sI (sI h aM fm_isOrders (b2i ord)) aM fm_firstWord x) aM fm_lastWord y) := ((Fr.rfl'.sI rfl).sI rfl).sI rfl
    have et : gI (sI (sI (sI h aM fm_isOrders (b2i ord)) aM fm_firstWord x) aM fm_lastWord y) am_tape = gI h am_tape := funext fun i => F1.I 107 i rfl
    have q := s_reads d (h := sI (sI (sI h aM fm_isOrders (b2i ord)) aM fm_firstWord x) aM fm_lastWord y) (ord := ord) S R (fun i hi => by rw [F1.I 106 i rfl]; exact W i hi) hL (by rw [et]; exact hb) (by rw [gI_off _ _ _ (by decide), gI_off _ _ _ (by decide), gI_off _ _ _ (by decide)]; exact ht) (by rw [gI_off _ _ _ (by decide), gI_off _ _ _ (by decide), gI_hit]) (by rw [gI_off _ _ _ (by decide), gI_hit, hx]) (by rw [gI_hit, hy])
    refine Rp.aload_n dX12_readsAs_35 rfl rfl ?_
    refine Rp.callV0 M_X12_reads (ci := 12) dX12_readsAs_36 mo_X12_reads lk_X12_266 (by decide) rfl rfl (S _ _ rfl) (Nat.le_of_ble_eq_true rfl) (Nat.le_of_ble_eq_true rfl) (q) (fun v1 h1 p1 x1 => ?_)
    unfold RdR at p1
    rw [et] at p1
    try dsimp only [Option.toList, List.cons_append, List.nil_append, List.append]
    skip
    obtain ⟨a1, a2, a3, a4, a5⟩ := p1
    unfold RdR
    revert a5
    match RDg ord (gI h am_tape) L with
    | .error e =>
      intro a5
      obtain ⟨rfl, a5⟩ := a5
      dsimp only [Option.toList, List.cons_append, List.nil_append, List.append]
      refine Rp.zreturn dX12_readsAs_39 rfl (by first | exact Or.inl rfl | exact Or.inr rfl | assumption) ?_
      exact ⟨F1.trans a1, a2, a3, a4, rfl, a5⟩
    | .ok _ =>
      intro a5
      obtain ⟨rfl, a5⟩ := a5
      dsimp only [Option.toList, List.cons_append, List.nil_append, List.append]
      refine Rp.zreturn dX12_readsAs_39 rfl (by first | exact Or.inl rfl | exact Or.inr rfl | assumption) ?_
      exact ⟨F1.trans a1, a2, a3, a4, rfl, a5⟩
  cases ord
  · skip
    refine Rp.aload_n dX12_readsAs_0 rfl rfl ?_
    refine Rp.iload_n dX12_readsAs_1 rfl ?_
    refine Rp.putZ dX12_readsAs_2 fk_X12_225w rfl (Or.inl rfl) (S _ _ rfl) ?_
    refine Rp.aload_n dX12_readsAs_5 rfl rfl ?_
    refine Rp.iload_n dX12_readsAs_6 rfl ?_
    first | ((with_reducible show Rp _ _ _ _ (.int (b2i _) :: _) _ _); refine Rp.if_eqB (tgt := 15) dX12_readsAs_7 (by decide) (fun c7 => ?_) (fun c7 => ?_)) | ((with_reducible show Rp _ _ _ _ (.int (nI _) :: _) _ _); refine Rp.if_eqN (tgt := 15) dX12_readsAs_7 (by decide) (by omega) (fun c7 => ?_) (fun c7 => ?_)) | refine Rp.if_eq (tgt := 15) dX12_readsAs_7 (by decide) (fun c7 => ?_) (fun c7 => ?_)
    · skip
      refine Rp.bipush (nI 9) dX12_readsAs_15 (by decide) ?_
      refine Rp.putI dX12_readsAs_17 fk_X12_251w rfl (S _ _ rfl) ?_
      refine Rp.aload_n dX12_readsAs_20 rfl rfl ?_
      refine Rp.iload_n dX12_readsAs_21 rfl ?_
      first | ((with_reducible show Rp _ _ _ _ (.int (b2i _) :: _) _ _); refine Rp.if_eqB (tgt := 30) dX12_readsAs_22 (by decide) (fun c22 => ?_) (fun c22 => ?_)) | ((with_reducible show Rp _ _ _ _ (.int (nI _) :: _) _ _); refine Rp.if_eqN (tgt := 30) dX12_readsAs_22 (by decide) (by omega) (fun c22 => ?_) (fun c22 => ?_)) | refine Rp.if_eq (tgt := 30) dX12_readsAs_22 (by decide) (fun c22 => ?_) (fun c22 => ?_)
      · skip
        refine Rp.bipush (nI 17) dX12_readsAs_30 (by decide) ?_
        refine Rp.putI dX12_readsAs_32 fk_X12_254w rfl (S _ _ rfl) ?_
        exact main _ _ rfl rfl
      · skip
        first | (exfalso; omega) | exact absurd c22 (by decide) | exact absurd (by decide) c22
    · skip
      first | (exfalso; omega) | exact absurd c7 (by decide) | exact absurd (by decide) c7
  · skip
    refine Rp.aload_n dX12_readsAs_0 rfl rfl ?_
    refine Rp.iload_n dX12_readsAs_1 rfl ?_
    refine Rp.putZ dX12_readsAs_2 fk_X12_225w rfl (Or.inr rfl) (S _ _ rfl) ?_
    refine Rp.aload_n dX12_readsAs_5 rfl rfl ?_
    refine Rp.iload_n dX12_readsAs_6 rfl ?_
    first | ((with_reducible show Rp _ _ _ _ (.int (b2i _) :: _) _ _); refine Rp.if_eqB (tgt := 15) dX12_readsAs_7 (by decide) (fun c7 => ?_) (fun c7 => ?_)) | ((with_reducible show Rp _ _ _ _ (.int (nI _) :: _) _ _); refine Rp.if_eqN (tgt := 15) dX12_readsAs_7 (by decide) (by omega) (fun c7 => ?_) (fun c7 => ?_)) | refine Rp.if_eq (tgt := 15) dX12_readsAs_7 (by decide) (fun c7 => ?_) (fun c7 => ?_)
    · skip
      first | (exfalso; omega) | exact absurd c7 (by decide) | exact absurd (by decide) c7
    · skip
      refine Rp.bipush (nI 16) dX12_readsAs_10 (by decide) ?_
      refine Rp.goto (tgt := 17) dX12_readsAs_12 (by decide) ?_
      refine Rp.putI dX12_readsAs_17 fk_X12_251w rfl (S _ _ rfl) ?_
      refine Rp.aload_n dX12_readsAs_20 rfl rfl ?_
      refine Rp.iload_n dX12_readsAs_21 rfl ?_
      first | ((with_reducible show Rp _ _ _ _ (.int (b2i _) :: _) _ _); refine Rp.if_eqB (tgt := 30) dX12_readsAs_22 (by decide) (fun c22 => ?_) (fun c22 => ?_)) | ((with_reducible show Rp _ _ _ _ (.int (nI _) :: _) _ _); refine Rp.if_eqN (tgt := 30) dX12_readsAs_22 (by decide) (by omega) (fun c22 => ?_) (fun c22 => ?_)) | refine Rp.if_eq (tgt := 30) dX12_readsAs_22 (by decide) (fun c22 => ?_) (fun c22 => ?_)
      · skip
        first | (exfalso; omega) | exact absurd c22 (by decide) | exact absurd (by decide) c22
      · skip
        refine Rp.bipush (nI 22) dX12_readsAs_25 (by decide) ?_
        refine Rp.goto (tgt := 32) dX12_readsAs_27 (by decide) ?_
        refine Rp.putI dX12_readsAs_32 fk_X12_254w rfl (S _ _ rfl) ?_
        exact main _ _ rfl rfl
def lyX (k _j : Nat) : Bool := k == 102
/-- the tokens laid behind the laws -/
def LyR (h : AH) (c v : Nat → Nat) (t T n : Nat) (h' : AH) : Prop := Fr lyX h h' ∧ ∀ i, gI h' am_kept i = if i = 109 + t then nI T else if 116 + 400 * t ≤ i ∧ i < 116 + 400 * t + n then nI (c (i - (116 + 400 * t))) else if 2916 + 400 * t ≤ i ∧ i < 2916 + 400 * t + n then nI (v (i - (2916 + 400 * t))) else gI h am_kept i
theorem lays15 {c v : Nat → Nat} {t T : Nat} (S0 : ShOK h) (R0 : RfOK h) (ht : t < 7) (hT : T ≤ 400) (hk : gI h aM fm_tokens = nI T) (hc : ∀ i, i ≤ T → gI h am_code i = nI (c i) ∧ gI h am_value i = nI (v i)) : ∀ (m n : Nat) (g : AH), n + m = T → LyR h c v t T n g → Rp d M_X12_lays 15 [some (.ref aM), some (.int (nI t)), some (.int (nI n))] [] g (fun r h' => r = none ∧ LyR h c v t T T h') := by
  intro m
  induction m with
  | zero =>
    intro n g hn I
    have e : n = T := by omega
    subst e
    have S := I.1.S S0
    have R := I.1.R R0 (by decide)
    have tk : gI g aM fm_tokens = nI n := by rw [I.1.I 100 18 rfl]; exact hk
    refine Rp.iload_n dX12_lays_15 rfl ?_
    refine Rp.aload_n dX12_lays_16 rfl rfl ?_
    refine Rp.getI dX12_lays_17 fk_X12_180 rfl (S _ _ rfl) ?_
    first | rw [tk] | skip
    first | ((with_reducible show Rp _ _ _ _ (.int (nI _) :: .int (nI _) :: _) _ _); refine Rp.icmp_geN (tgt := 72) dX12_lays_20 (by decide) (by omega) (fun c20 => ?_) (fun c20 => ?_)) | refine Rp.icmp_ge (tgt := 72) dX12_lays_20 (by decide) (fun c20 => ?_) (fun c20 => ?_)
    · skip
      refine Rp.vreturn dX12_lays_72 rfl ?_
      exact ⟨rfl, I⟩
    · skip
      first | (exfalso; omega) | exact absurd c20 (by decide) | exact absurd (by decide) c20
  | succ m ih =>
    intro n g hn I
    have S := I.1.S S0
    have R := I.1.R R0 (by decide)
    have tk : gI g aM fm_tokens = nI T := by rw [I.1.I 100 18 rfl]; exact hk
    have c1 : gI g am_code n = nI (c n) := by rw [I.1.I 109 n rfl]; exact (hc n (by omega)).1
    have v1 : gI (sI g am_kept (116 + 400 * t + n) (nI (c n))) am_value n = nI (v n) := by rw [gI_ne _ _ _ _ (by decide), I.1.I 110 n rfl]; exact (hc n (by omega)).2
    have I2 : LyR h c v t T (n + 1) (sI (sI g am_kept (116 + 400 * t + n) (nI (c n))) am_kept (2916 + 400 * t + n) (nI (v n))) := by
      refine ⟨(I.1.sI rfl).sI rfl, fun i => ?_⟩
      rw [gI_at, gI_at, I.2 i]
      by_cases h1 : i = 2916 + 400 * t + n
      · rw [if_pos h1, if_neg (by omega), if_neg (by omega), if_pos (by omega), show i - (2916 + 400 * t) = n by omega]
      · rw [if_neg h1]
        by_cases h2 : i = 116 + 400 * t + n
        · rw [if_pos h2, if_neg (by omega), if_pos (by omega), show i - (116 + 400 * t) = n by omega]
        · rw [if_neg h2]
          by_cases h3 : i = 109 + t
          · rw [if_pos h3, if_pos h3]
          · rw [if_neg h3, if_neg h3]
            by_cases h4 : 116 + 400 * t ≤ i ∧ i < 116 + 400 * t + n
            · rw [if_pos h4, if_pos (by omega)]
            · rw [if_neg h4]
              have h6 : ¬ (116 + 400 * t ≤ i ∧ i < 116 + 400 * t + (n + 1)) := by omega
              by_cases h5 : 2916 + 400 * t ≤ i ∧ i < 2916 + 400 * t + n
              · rw [if_pos h5, if_neg h6, if_pos (by omega)]
              · have h7 : ¬ (2916 + 400 * t ≤ i ∧ i < 2916 + 400 * t + (n + 1)) := by omega
                rw [if_neg h5, if_neg h6, if_neg h7]
    refine Rp.iload_n dX12_lays_15 rfl ?_
    refine Rp.aload_n dX12_lays_16 rfl rfl ?_
    refine Rp.getI dX12_lays_17 fk_X12_180 rfl (S _ _ rfl) ?_
    first | rw [tk] | rw [c1] | rw [v1] | skip
    first | ((with_reducible show Rp _ _ _ _ (.int (nI _) :: .int (nI _) :: _) _ _); refine Rp.icmp_geN (tgt := 72) dX12_lays_20 (by decide) (by omega) (fun c20 => ?_) (fun c20 => ?_)) | refine Rp.icmp_ge (tgt := 72) dX12_lays_20 (by decide) (fun c20 => ?_) (fun c20 => ?_)
    · skip
      first | (exfalso; omega) | exact absurd c20 (by decide) | exact absurd (by decide) c20
    · skip
      refine Rp.aload_n dX12_lays_23 rfl rfl ?_
      refine Rp.getR dX12_lays_24 fk_X12_24 rfl (S _ _ rfl) (R _ _ _ rfl) ?_
      refine Rp.bipush (nI 116) dX12_lays_27 (by decide) ?_
      refine Rp.sipush (nI 400) dX12_lays_29 (by decide) ?_
      refine Rp.iload_n dX12_lays_32 rfl ?_
      first | ((with_reducible show Rp _ _ _ _ (.int (nI _) :: .int (nI _) :: _) _ _); refine Rp.imulN dX12_lays_33 ?_) | refine Rp.imul dX12_lays_33 ?_
      first | ((with_reducible show Rp _ _ _ _ (.int (nI _) :: .int (nI _) :: _) _ _); refine Rp.iaddN dX12_lays_34 ?_) | refine Rp.iadd dX12_lays_34 ?_
      refine Rp.iload_n dX12_lays_35 rfl ?_
      first | ((with_reducible show Rp _ _ _ _ (.int (nI _) :: .int (nI _) :: _) _ _); refine Rp.iaddN dX12_lays_36 ?_) | refine Rp.iadd dX12_lays_36 ?_
      refine Rp.aload_n dX12_lays_37 rfl rfl ?_
      refine Rp.getR dX12_lays_38 fk_X12_50 rfl (S _ _ rfl) (R _ _ _ rfl) ?_
      refine Rp.iload_n dX12_lays_41 rfl ?_
      first | ((with_reducible show Rp _ _ _ _ (.int (nI _) :: _) _ _); refine Rp.ialoadN dX12_lays_42 (S _ _ rfl) (by omega) ?_) | refine Rp.iaload dX12_lays_42 (S _ _ rfl) (by first | assumption | exact vpb (by decide)) ?_
      first | rw [tk] | rw [c1] | rw [v1] | skip
      first | ((with_reducible show Rp _ _ _ _ (_ :: .int (nI _) :: _) _ _); refine Rp.iastoreN dX12_lays_43 (S _ _ rfl) (by omega) ?_) | refine Rp.iastore dX12_lays_43 (S _ _ rfl) (by first | assumption | exact vpb (by decide)) ?_
      refine Rp.aload_n dX12_lays_44 rfl rfl ?_
      refine Rp.getR dX12_lays_45 fk_X12_24 rfl (S _ _ rfl) (R _ _ _ rfl) ?_
      refine Rp.sipush (nI 2916) dX12_lays_48 (by decide +kernel) ?_
      refine Rp.sipush (nI 400) dX12_lays_51 (by decide) ?_
      refine Rp.iload_n dX12_lays_54 rfl ?_
      first | ((with_reducible show Rp _ _ _ _ (.int (nI _) :: .int (nI _) :: _) _ _); refine Rp.imulN dX12_lays_55 ?_) | refine Rp.imul dX12_lays_55 ?_
      first | ((with_reducible show Rp _ _ _ _ (.int (nI _) :: .int (nI _) :: _) _ _); refine Rp.iaddN dX12_lays_56 ?_) | refine Rp.iadd dX12_lays_56 ?_
      refine Rp.iload_n dX12_lays_57 rfl ?_
      first | ((with_reducible show Rp _ _ _ _ (.int (nI _) :: .int (nI _) :: _) _ _); refine Rp.iaddN dX12_lays_58 ?_) | refine Rp.iadd dX12_lays_58 ?_
      refine Rp.aload_n dX12_lays_59 rfl rfl ?_
      refine Rp.getR dX12_lays_60 fk_X12_53 rfl (S _ _ rfl) (R _ _ _ rfl) ?_
      refine Rp.iload_n dX12_lays_63 rfl ?_
      first | ((with_reducible show Rp _ _ _ _ (.int (nI _) :: _) _ _); refine Rp.ialoadN dX12_lays_64 (S _ _ rfl) (by omega) ?_) | refine Rp.iaload dX12_lays_64 (S _ _ rfl) (by first | assumption | exact vpb (by decide)) ?_
      first | rw [tk] | rw [c1] | rw [v1] | skip
      first | ((with_reducible show Rp _ _ _ _ (_ :: .int (nI _) :: _) _ _); refine Rp.iastoreN dX12_lays_65 (S _ _ rfl) (by omega) ?_) | refine Rp.iastore dX12_lays_65 (S _ _ rfl) (by first | assumption | exact vpb (by decide)) ?_
      first | ((with_reducible show Rp _ _ _ (_ :: _ :: some (.int (nI _)) :: _) _ _ _); refine Rp.inc2N (c := 1) dX12_lays_66 (by first | exact nl2_some rfl | exact nl2_none) (by decide) ?_) | refine Rp.inc2 _ dX12_lays_66 rfl (by first | exact nl2_some rfl | exact nl2_none) (by decide) ?_
      refine Rp.goto (tgt := 15) dX12_lays_69 (by decide) ?_
      exact ih (n + 1) _ (by omega) I2
theorem s_lays {c v : Nat → Nat} {t T : Nat} (S : ShOK h) (R : RfOK h) (ht : t < 7) (hT : T ≤ 400) (hk : gI h aM fm_tokens = nI T) (hc : ∀ i, i ≤ T → gI h am_code i = nI (c i) ∧ gI h am_value i = nI (v i)) : Rp d M_X12_lays 0 [some (.ref aM), some (.int (nI t)), none] [] h (fun r h' => r = none ∧ LyR h c v t T T h') := by
  have I : LyR h c v t T 0 (sI h am_kept (109 + t) (nI T)) := by
    refine ⟨Fr.rfl'.sI rfl, fun i => ?_⟩
    rw [gI_at]
    by_cases h3 : i = 109 + t
    · rw [if_pos h3, if_pos h3]
    · rw [if_neg h3, if_neg h3, if_neg (by omega), if_neg (by omega)]
  refine Rp.aload_n dX12_lays_0 rfl rfl ?_
  refine Rp.getR dX12_lays_1 fk_X12_24 rfl (S _ _ rfl) (R _ _ _ rfl) ?_
  refine Rp.bipush (nI 109) dX12_lays_4 (by decide) ?_
  refine Rp.iload_n dX12_lays_6 rfl ?_
  first | ((with_reducible show Rp _ _ _ _ (.int (nI _) :: .int (nI _) :: _) _ _); refine Rp.iaddN dX12_lays_7 ?_) | refine Rp.iadd dX12_lays_7 ?_
  refine Rp.aload_n dX12_lays_8 rfl rfl ?_
  refine Rp.getI dX12_lays_9 fk_X12_180 rfl (S _ _ rfl) ?_
  first | rw [hk] | skip
  first | ((with_reducible show Rp _ _ _ _ (_ :: .int (nI _) :: _) _ _); refine Rp.iastoreN dX12_lays_12 (S _ _ rfl) (by omega) ?_) | refine Rp.iastore dX12_lays_12 (S _ _ rfl) (by first | assumption | exact vpb (by decide)) ?_
  refine Rp.iconst (nI 0) dX12_lays_13 (by decide) ?_
  refine Rp.ist2 dX12_lays_14 (by first | exact nl2_some rfl | exact nl2_none) (by decide) ?_
  exact lays15 d S R ht hT hk hc T 0 _ (by omega) I
end Ml
