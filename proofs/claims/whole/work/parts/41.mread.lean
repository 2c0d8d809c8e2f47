/-- the three slots that reading moves: token, leaves, bad -/
def rdH (h : AH) (t l b : Int32) : AH := sI (sI (sI h aM fm_token t) aM fm_leaves l) aM fm_bad b
theorem ah_ext {h h' : AH} (a : h'.1 = h.1) (b : ∀ k j, gI h' k j = gI h k j) (c : h'.2.2 = h.2.2) : h' = h := by
  obtain ⟨x, y, z⟩ := h
  obtain ⟨x', y', z'⟩ := h'
  have e : y' = y := funext fun k => funext fun j => b k j
  cases a; cases c; cases e; rfl
theorem rd_o (h : AH) (t l b : Int32) {k : Nat} (j : Nat) (hk : k ≠ aM) : gI (rdH h t l b) k j = gI h k j := by
  unfold rdH; rw [gI_ne _ _ _ _ hk, gI_ne _ _ _ _ hk, gI_ne _ _ _ _ hk]
theorem rd_c (h : AH) (t l b : Int32) (j : Nat) : gI (rdH h t l b) am_code j = gI h am_code j := rd_o h t l b j (by decide)
theorem rd_v (h : AH) (t l b : Int32) (j : Nat) : gI (rdH h t l b) am_value j = gI h am_value j := rd_o h t l b j (by decide)
theorem rd_p (h : AH) (t l b : Int32) (j : Nat) : gI (rdH h t l b) am_placed j = gI h am_placed j := rd_o h t l b j (by decide)
theorem rd_q (h : AH) (t l b : Int32) {j : Nat} (h1 : j ≠ 19) (h2 : j ≠ 20) (h3 : j ≠ 21) : gI (rdH h t l b) aM j = gI h aM j := by
  unfold rdH; rw [gI_off _ _ _ h3, gI_off _ _ _ h2, gI_off _ _ _ h1]
theorem rd_t (h : AH) (t l b : Int32) : gI (rdH h t l b) aM 19 = t := by
  unfold rdH; rw [gI_off _ _ _ (by decide), gI_off _ _ _ (by decide), gI_hit]
theorem rd_l (h : AH) (t l b : Int32) : gI (rdH h t l b) aM 20 = l := by
  unfold rdH; rw [gI_off _ _ _ (by decide), gI_hit]
theorem rd_b (h : AH) (t l b : Int32) : gI (rdH h t l b) aM 21 = b := by
  unfold rdH; rw [gI_hit]
theorem rd_st (h : AH) (t l b x : Int32) : sI (rdH h t l b) aM 19 x = rdH h x l b := by
  refine ah_ext rfl (fun k j => ?_) rfl
  by_cases hk : k = aM
  · subst hk
    rw [gI_at]
    by_cases h1 : j = 19
    · subst h1; rw [if_pos rfl, rd_t]
    · rw [if_neg h1]
      by_cases h2 : j = 20
      · subst h2; rw [rd_l, rd_l]
      · by_cases h3 : j = 21
        · subst h3; rw [rd_b, rd_b]
        · rw [rd_q _ _ _ _ h1 h2 h3, rd_q _ _ _ _ h1 h2 h3]
  · rw [gI_ne _ _ _ _ hk, rd_o _ _ _ _ _ hk, rd_o _ _ _ _ _ hk]
theorem rd_sl (h : AH) (t l b x : Int32) : sI (rdH h t l b) aM 20 x = rdH h t x b := by
  refine ah_ext rfl (fun k j => ?_) rfl
  by_cases hk : k = aM
  · subst hk
    rw [gI_at]
    by_cases h2 : j = 20
    · subst h2; rw [if_pos rfl, rd_l]
    · rw [if_neg h2]
      by_cases h1 : j = 19
      · subst h1; rw [rd_t, rd_t]
      · by_cases h3 : j = 21
        · subst h3; rw [rd_b, rd_b]
        · rw [rd_q _ _ _ _ h1 h2 h3, rd_q _ _ _ _ h1 h2 h3]
  · rw [gI_ne _ _ _ _ hk, rd_o _ _ _ _ _ hk, rd_o _ _ _ _ _ hk]
theorem rd_sb (h : AH) (t l b x : Int32) : sI (rdH h t l b) aM 21 x = rdH h t l x := by
  refine ah_ext rfl (fun k j => ?_) rfl
  by_cases hk : k = aM
  · subst hk
    rw [gI_at]
    by_cases h3 : j = 21
    · subst h3; rw [if_pos rfl, rd_b]
    · rw [if_neg h3]
      by_cases h1 : j = 19
      · subst h1; rw [rd_t, rd_t]
      · by_cases h2 : j = 20
        · subst h2; rw [rd_l, rd_l]
        · rw [rd_q _ _ _ _ h1 h2 h3, rd_q _ _ _ _ h1 h2 h3]
  · rw [gI_ne _ _ _ _ hk, rd_o _ _ _ _ _ hk, rd_o _ _ _ _ _ hk]
def TK (h : AH) (ord : Bool) (c v : Nat → Nat) (T : Nat) : Prop := T ≤ 400 ∧ c T = 0 ∧ (∀ k, k ≤ T → gI h am_code k = nI (c k) ∧ gI h am_value k = nI (v k) ∧ c k < 1000 ∧ v k < 20000000 ∧ ∃ n, n < 401 ∧ gI h am_placed k = nI n) ∧ gI h aM fm_isOrders = b2i ord ∧ gI h aM fm_firstWord = nI (if ord then 16 else 9) ∧ gI h aM fm_lastWord = nI (if ord then 22 else 17)
theorem nI_ne_m1 {n : Nat} (hn : n < 401) : nI n ≠ -1 := fun z => by
  have := congrArg Int32.toInt z
  rw [nI_toInt (by omega)] at this
  have e : ((-1 : Int32)).toInt = -1 := rfl
  omega
section Rd
variable (d : Nat) {h : AH} {ord : Bool} {c v : Nat → Nat} {T : Nat}
theorem s_signN (a : Nat) : Rp d M_X12_sign 0 [some (.int (nI a))] [] h (fun r h' => h' = h ∧ r = some (.int (nI (100 + a)))) := Rp.mono (fun r h' p => ⟨p.1, by rw [p.2, nI_add]⟩) (s_sign d h (nI a))
theorem s_fine (S : ShOK h) (R : RfOK h) (t l : Int32) : Rp d M_X12_fine 0 [some (.ref aM)] [] (rdH h t l (-1)) (fun r h' => h' = rdH h t l (-1) ∧ r = some (.int (nI 1))) := by
  refine Rp.aload_n dX12_fine_0 rfl rfl ?_
  refine Rp.getI dX12_fine_1 fk_X12_193 rfl (S _ _ rfl) ?_
  first | rw [rd_b] | skip
  refine Rp.iconst (-1) dX12_fine_4 (by decide) ?_
  first | ((with_reducible show Rp _ _ _ _ (.int (nI _) :: .int (nI _) :: _) _ _); refine Rp.icmp_neN (tgt := 12) dX12_fine_5 (by decide) (by omega) (fun c5 => ?_) (fun c5 => ?_)) | refine Rp.icmp_ne (tgt := 12) dX12_fine_5 (by decide) (fun c5 => ?_) (fun c5 => ?_)
  · skip
    first | (exfalso; omega) | exact absurd c5 (by decide) | exact absurd (by decide) c5
  · skip
    refine Rp.iconst (nI 1) dX12_fine_8 (by decide) ?_
    refine Rp.goto (tgt := 13) dX12_fine_9 (by decide) ?_
    refine Rp.zreturn dX12_fine_13 rfl (by first | exact Or.inl rfl | exact Or.inr rfl | assumption) ?_
    exact ⟨rfl, rfl⟩
theorem s_fineF (S : ShOK h) (R : RfOK h) (t l b : Int32) (hb : b ≠ -1) : Rp d M_X12_fine 0 [some (.ref aM)] [] (rdH h t l b) (fun r h' => h' = rdH h t l b ∧ r = some (.int (nI 0))) := by
  refine Rp.aload_n dX12_fine_0 rfl rfl ?_
  refine Rp.getI dX12_fine_1 fk_X12_193 rfl (S _ _ rfl) ?_
  first | rw [rd_b] | skip
  refine Rp.iconst (-1) dX12_fine_4 (by decide) ?_
  first | ((with_reducible show Rp _ _ _ _ (.int (nI _) :: .int (nI _) :: _) _ _); refine Rp.icmp_neN (tgt := 12) dX12_fine_5 (by decide) (by omega) (fun c5 => ?_) (fun c5 => ?_)) | refine Rp.icmp_ne (tgt := 12) dX12_fine_5 (by decide) (fun c5 => ?_) (fun c5 => ?_)
  · skip
    refine Rp.iconst (nI 0) dX12_fine_12 (by decide) ?_
    refine Rp.zreturn dX12_fine_13 rfl (by first | exact Or.inl rfl | exact Or.inr rfl | assumption) ?_
    exact ⟨rfl, rfl⟩
  · skip
    exact absurd c5 hb
theorem s_faultsF (S : ShOK h) (R : RfOK h) (t l b : Int32) (hb : b ≠ -1) : Rp (d + 1) M_X12_faults 0 [some (.ref aM)] [] (rdH h t l b) (fun r h' => h' = rdH h t l b ∧ r = none) := by
  refine Rp.aload_n dX12_faults_0 rfl rfl ?_
  refine Rp.callV0 M_X12_fine (ci := 12) dX12_faults_1 mo_X12_fine lk_X12_196 (by decide) rfl rfl (S _ _ rfl) (Nat.le_of_ble_eq_true rfl) (Nat.le_of_ble_eq_true rfl) (s_fineF d S R t l b hb) (fun v1 h1 p1 x1 => ?_)
  rw [p1.1, p1.2]
  try dsimp only [Option.toList, List.cons_append, List.nil_append, List.append]
  first | ((with_reducible show Rp _ _ _ _ (.int (b2i _) :: _) _ _); refine Rp.if_eqB (tgt := 20) dX12_faults_4 (by decide) (fun c4 => ?_) (fun c4 => ?_)) | ((with_reducible show Rp _ _ _ _ (.int (nI _) :: _) _ _); refine Rp.if_eqN (tgt := 20) dX12_faults_4 (by decide) (by omega) (fun c4 => ?_) (fun c4 => ?_)) | refine Rp.if_eq (tgt := 20) dX12_faults_4 (by decide) (fun c4 => ?_) (fun c4 => ?_)
  · skip
    refine Rp.vreturn dX12_faults_20 rfl ?_
    exact ⟨rfl, rfl⟩
  · skip
    first | (exfalso; omega) | exact absurd c4 (by decide) | exact absurd (by decide) c4
theorem s_faults (S : ShOK h) (R : RfOK h) (K : TK h ord c v T) {i : Nat} (hi : i ≤ T) (l : Int32) : Rp (d + 1) M_X12_faults 0 [some (.ref aM)] [] (rdH h (nI i) l (-1)) (fun r h' => h' = rdH h (nI i) l (gI h am_placed i) ∧ r = none) := by
  have hT := K.1
  refine Rp.aload_n dX12_faults_0 rfl rfl ?_
  refine Rp.callV0 M_X12_fine (ci := 12) dX12_faults_1 mo_X12_fine lk_X12_196 (by decide) rfl rfl (S _ _ rfl) (Nat.le_of_ble_eq_true rfl) (Nat.le_of_ble_eq_true rfl) (s_fine d S R _ l) (fun v1 h1 p1 x1 => ?_)
  rw [p1.1, p1.2]
  try dsimp only [Option.toList, List.cons_append, List.nil_append, List.append]
  first | ((with_reducible show Rp _ _ _ _ (.int (b2i _) :: _) _ _); refine Rp.if_eqB (tgt := 20) dX12_faults_4 (by decide) (fun c4 => ?_) (fun c4 => ?_)) | ((with_reducible show Rp _ _ _ _ (.int (nI _) :: _) _ _); refine Rp.if_eqN (tgt := 20) dX12_faults_4 (by decide) (by omega) (fun c4 => ?_) (fun c4 => ?_)) | refine Rp.if_eq (tgt := 20) dX12_faults_4 (by decide) (fun c4 => ?_) (fun c4 => ?_)
  · skip
    first | (exfalso; omega) | exact absurd c4 (by decide) | exact absurd (by decide) c4
  · skip
    refine Rp.aload_n dX12_faults_7 rfl rfl ?_
    refine Rp.aload_n dX12_faults_8 rfl rfl ?_
    refine Rp.getR dX12_faults_9 fk_X12_56 rfl (S _ _ rfl) (R _ _ _ rfl) ?_
    refine Rp.aload_n dX12_faults_12 rfl rfl ?_
    refine Rp.getI dX12_faults_13 fk_X12_200 rfl (S _ _ rfl) ?_
    first | rw [rd_t] | rw [rd_p] | skip
    first | ((with_reducible show Rp _ _ _ _ (.int (nI _) :: _) _ _); refine Rp.ialoadN dX12_faults_16 (S _ _ rfl) (by omega) ?_) | refine Rp.iaload dX12_faults_16 (S _ _ rfl) (by first | assumption | exact vpb (by decide)) ?_
    first | rw [rd_t] | rw [rd_p] | skip
    refine Rp.putI dX12_faults_17 fk_X12_193w rfl (S _ _ rfl) ?_
    first | rw [rd_sb] | skip
    refine Rp.vreturn dX12_faults_20 rfl ?_
    exact ⟨rfl, rfl⟩
theorem s_takesF (S : ShOK h) (R : RfOK h) (k : Nat) (t l b : Int32) (hb : b ≠ -1) : Rp (d + 1) M_X12_takes0 0 [some (.ref aM), some (.int (nI k)), none] [] (rdH h t l b) (fun r h' => h' = rdH h t l b ∧ r = some (.int (nI 0))) := by
  refine Rp.aload_n dX12_takes0_0 rfl rfl ?_
  refine Rp.callV0 M_X12_fine (ci := 12) dX12_takes0_1 mo_X12_fine lk_X12_196 (by decide) rfl rfl (S _ _ rfl) (Nat.le_of_ble_eq_true rfl) (Nat.le_of_ble_eq_true rfl) (s_fineF d S R t l b hb) (fun v1 h1 p1 x1 => ?_)
  rw [p1.1, p1.2]
  try dsimp only [Option.toList, List.cons_append, List.nil_append, List.append]
  first | ((with_reducible show Rp _ _ _ _ (.int (b2i _) :: _) _ _); refine Rp.if_eqB (tgt := 24) dX12_takes0_4 (by decide) (fun c4 => ?_) (fun c4 => ?_)) | ((with_reducible show Rp _ _ _ _ (.int (nI _) :: _) _ _); refine Rp.if_eqN (tgt := 24) dX12_takes0_4 (by decide) (by omega) (fun c4 => ?_) (fun c4 => ?_)) | refine Rp.if_eq (tgt := 24) dX12_takes0_4 (by decide) (fun c4 => ?_) (fun c4 => ?_)
  · skip
    refine Rp.iconst (nI 0) dX12_takes0_24 (by decide) ?_
    refine Rp.ist2 dX12_takes0_25 (by first | exact nl2_some rfl | exact nl2_none) (by decide) ?_
    refine Rp.iload_n dX12_takes0_26 rfl ?_
    first | ((with_reducible show Rp _ _ _ _ (.int (b2i _) :: _) _ _); refine Rp.if_eqB (tgt := 40) dX12_takes0_27 (by decide) (fun c27 => ?_) (fun c27 => ?_)) | ((with_reducible show Rp _ _ _ _ (.int (nI _) :: _) _ _); refine Rp.if_eqN (tgt := 40) dX12_takes0_27 (by decide) (by omega) (fun c27 => ?_) (fun c27 => ?_)) | refine Rp.if_eq (tgt := 40) dX12_takes0_27 (by decide) (fun c27 => ?_) (fun c27 => ?_)
    · skip
      refine Rp.iload_n dX12_takes0_40 rfl ?_
      refine Rp.zreturn dX12_takes0_41 rfl (by first | exact Or.inl rfl | exact Or.inr rfl | assumption) ?_
      exact ⟨rfl, rfl⟩
    · skip
      first | (exfalso; omega) | exact absurd c27 (by decide) | exact absurd (by decide) c27
  · skip
    first | (exfalso; omega) | exact absurd c4 (by decide) | exact absurd (by decide) c4
theorem s_takes (S : ShOK h) (R : RfOK h) (K : TK h ord c v T) {i : Nat} (hi : i ≤ T) (l : Int32) (k : Nat) (hk : k < 1000) : Rp (d + 1) M_X12_takes0 0 [some (.ref aM), some (.int (nI k)), none] [] (rdH h (nI i) l (-1)) (fun r h' => (c i = k ∧ r = some (.int (nI 1)) ∧ h' = rdH h (nI (i + 1)) l (-1)) ∨ (c i ≠ k ∧ r = some (.int (nI 0)) ∧ h' = rdH h (nI i) l (-1))) := by
  have hT := K.1
  obtain ⟨e1, -, e2, -⟩ := K.2.2.1 i hi
  refine Rp.aload_n dX12_takes0_0 rfl rfl ?_
  refine Rp.callV0 M_X12_fine (ci := 12) dX12_takes0_1 mo_X12_fine lk_X12_196 (by decide) rfl rfl (S _ _ rfl) (Nat.le_of_ble_eq_true rfl) (Nat.le_of_ble_eq_true rfl) (s_fine d S R _ l) (fun v1 h1 p1 x1 => ?_)
  rw [p1.1, p1.2]
  try dsimp only [Option.toList, List.cons_append, List.nil_append, List.append]
  first | ((with_reducible show Rp _ _ _ _ (.int (b2i _) :: _) _ _); refine Rp.if_eqB (tgt := 24) dX12_takes0_4 (by decide) (fun c4 => ?_) (fun c4 => ?_)) | ((with_reducible show Rp _ _ _ _ (.int (nI _) :: _) _ _); refine Rp.if_eqN (tgt := 24) dX12_takes0_4 (by decide) (by omega) (fun c4 => ?_) (fun c4 => ?_)) | refine Rp.if_eq (tgt := 24) dX12_takes0_4 (by decide) (fun c4 => ?_) (fun c4 => ?_)
  · skip
    first | (exfalso; omega) | exact absurd c4 (by decide) | exact absurd (by decide) c4
  · skip
    refine Rp.aload_n dX12_takes0_7 rfl rfl ?_
    refine Rp.getR dX12_takes0_8 fk_X12_50 rfl (S _ _ rfl) (R _ _ _ rfl) ?_
    refine Rp.aload_n dX12_takes0_11 rfl rfl ?_
    refine Rp.getI dX12_takes0_12 fk_X12_200 rfl (S _ _ rfl) ?_
    first | rw [rd_t] | rw [rd_c, e1] | skip
    first | ((with_reducible show Rp _ _ _ _ (.int (nI _) :: _) _ _); refine Rp.ialoadN dX12_takes0_15 (S _ _ rfl) (by omega) ?_) | refine Rp.iaload dX12_takes0_15 (S _ _ rfl) (by first | assumption | exact vpb (by decide)) ?_
    first | rw [rd_t] | rw [rd_c, e1] | skip
    refine Rp.iload_n dX12_takes0_16 rfl ?_
    first | ((with_reducible show Rp _ _ _ _ (.int (nI _) :: .int (nI _) :: _) _ _); refine Rp.icmp_neN (tgt := 24) dX12_takes0_17 (by decide) (by omega) (fun c17 => ?_) (fun c17 => ?_)) | refine Rp.icmp_ne (tgt := 24) dX12_takes0_17 (by decide) (fun c17 => ?_) (fun c17 => ?_)
    · skip
      skip
      refine Rp.iconst (nI 0) dX12_takes0_24 (by decide) ?_
      refine Rp.ist2 dX12_takes0_25 (by first | exact nl2_some rfl | exact nl2_none) (by decide) ?_
      refine Rp.iload_n dX12_takes0_26 rfl ?_
      first | ((with_reducible show Rp _ _ _ _ (.int (b2i _) :: _) _ _); refine Rp.if_eqB (tgt := 40) dX12_takes0_27 (by decide) (fun c27 => ?_) (fun c27 => ?_)) | ((with_reducible show Rp _ _ _ _ (.int (nI _) :: _) _ _); refine Rp.if_eqN (tgt := 40) dX12_takes0_27 (by decide) (by omega) (fun c27 => ?_) (fun c27 => ?_)) | refine Rp.if_eq (tgt := 40) dX12_takes0_27 (by decide) (fun c27 => ?_) (fun c27 => ?_)
      · skip
        refine Rp.iload_n dX12_takes0_40 rfl ?_
        refine Rp.zreturn dX12_takes0_41 rfl (by first | exact Or.inl rfl | exact Or.inr rfl | assumption) ?_
        first | exact Or.inl ⟨by omega, rfl, rfl⟩ | exact Or.inr ⟨by omega, rfl, rfl⟩ | (exfalso; omega)
      · skip
        refine Rp.aload_n dX12_takes0_30 rfl rfl ?_
        refine Rp.dup dX12_takes0_31 rfl ?_
        refine Rp.getI dX12_takes0_32 fk_X12_200 rfl (S _ _ rfl) ?_
        first | rw [rd_t] | rw [rd_c, e1] | skip
        refine Rp.iconst (nI 1) dX12_takes0_35 (by decide) ?_
        first | ((with_reducible show Rp _ _ _ _ (.int (nI _) :: .int (nI _) :: _) _ _); refine Rp.iaddN dX12_takes0_36 ?_) | refine Rp.iadd dX12_takes0_36 ?_
        refine Rp.putI dX12_takes0_37 fk_X12_200w rfl (S _ _ rfl) ?_
        first | rw [rd_st] | skip
        refine Rp.iload_n dX12_takes0_40 rfl ?_
        refine Rp.zreturn dX12_takes0_41 rfl (by first | exact Or.inl rfl | exact Or.inr rfl | assumption) ?_
        first | exact Or.inl ⟨by omega, rfl, rfl⟩ | exact Or.inr ⟨by omega, rfl, rfl⟩ | (exfalso; omega)
    · skip
      refine Rp.iconst (nI 1) dX12_takes0_20 (by decide) ?_
      refine Rp.goto (tgt := 25) dX12_takes0_21 (by decide) ?_
      refine Rp.ist2 dX12_takes0_25 (by first | exact nl2_some rfl | exact nl2_none) (by decide) ?_
      refine Rp.iload_n dX12_takes0_26 rfl ?_
      first | ((with_reducible show Rp _ _ _ _ (.int (b2i _) :: _) _ _); refine Rp.if_eqB (tgt := 40) dX12_takes0_27 (by decide) (fun c27 => ?_) (fun c27 => ?_)) | ((with_reducible show Rp _ _ _ _ (.int (nI _) :: _) _ _); refine Rp.if_eqN (tgt := 40) dX12_takes0_27 (by decide) (by omega) (fun c27 => ?_) (fun c27 => ?_)) | refine Rp.if_eq (tgt := 40) dX12_takes0_27 (by decide) (fun c27 => ?_) (fun c27 => ?_)
      · skip
        refine Rp.iload_n dX12_takes0_40 rfl ?_
        refine Rp.zreturn dX12_takes0_41 rfl (by first | exact Or.inl rfl | exact Or.inr rfl | assumption) ?_
        first | exact Or.inl ⟨by omega, rfl, rfl⟩ | exact Or.inr ⟨by omega, rfl, rfl⟩ | (exfalso; omega)
      · skip
        refine Rp.aload_n dX12_takes0_30 rfl rfl ?_
        refine Rp.dup dX12_takes0_31 rfl ?_
        refine Rp.getI dX12_takes0_32 fk_X12_200 rfl (S _ _ rfl) ?_
        first | rw [rd_t] | rw [rd_c, e1] | skip
        refine Rp.iconst (nI 1) dX12_takes0_35 (by decide) ?_
        first | ((with_reducible show Rp _ _ _ _ (.int (nI _) :: .int (nI _) :: _) _ _); refine Rp.iaddN dX12_takes0_36 ?_) | refine Rp.iadd dX12_takes0_36 ?_
        refine Rp.putI dX12_takes0_37 fk_X12_200w rfl (S _ _ rfl) ?_
        first | rw [rd_st] | skip
        refine Rp.iload_n dX12_takes0_40 rfl ?_
        refine Rp.zreturn dX12_takes0_41 rfl (by first | exact Or.inl rfl | exact Or.inr rfl | assumption) ?_
        first | exact Or.inl ⟨by omega, rfl, rfl⟩ | exact Or.inr ⟨by omega, rfl, rfl⟩ | (exfalso; omega)
theorem s_mustF (S : ShOK h) (R : RfOK h) (k : Nat) (t l b : Int32) (hb : b ≠ -1) : Rp (d + 2) M_X12_must 0 [some (.ref aM), some (.int (nI k))] [] (rdH h t l b) (fun r h' => h' = rdH h t l b ∧ r = none) := by
  refine Rp.aload_n dX12_must_0 rfl rfl ?_
  refine Rp.iload_n dX12_must_1 rfl ?_
  refine Rp.callV1 M_X12_takes0 (ci := 12) dX12_must_2 mo_X12_takes0 lk_X12_203 (by decide) rfl rfl (S _ _ rfl) (Nat.le_of_ble_eq_true rfl) (Nat.le_of_ble_eq_true rfl) (s_takesF d S R k t l b hb) (fun v1 h1 p1 x1 => ?_)
  rw [p1.1, p1.2]
  try dsimp only [Option.toList, List.cons_append, List.nil_append, List.append]
  first | ((with_reducible show Rp _ _ _ _ (.int (b2i _) :: _) _ _); refine Rp.if_neB (tgt := 12) dX12_must_5 (by decide) (fun c5 => ?_) (fun c5 => ?_)) | ((with_reducible show Rp _ _ _ _ (.int (nI _) :: _) _ _); refine Rp.if_neN (tgt := 12) dX12_must_5 (by decide) (by omega) (fun c5 => ?_) (fun c5 => ?_)) | refine Rp.if_ne (tgt := 12) dX12_must_5 (by decide) (fun c5 => ?_) (fun c5 => ?_)
  · skip
    first | (exfalso; omega) | exact absurd c5 (by decide) | exact absurd (by decide) c5
  · skip
    refine Rp.aload_n dX12_must_8 rfl rfl ?_
    refine Rp.callV0 M_X12_faults (ci := 12) dX12_must_9 mo_X12_faults lk_X12_206 (by decide) rfl rfl (S _ _ rfl) (Nat.le_of_ble_eq_true rfl) (Nat.le_of_ble_eq_true rfl) (s_faultsF d S R t l b hb) (fun v1 h1 p1 x1 => ?_)
    rw [p1.1, p1.2]
    try dsimp only [Option.toList, List.cons_append, List.nil_append, List.append]
    refine Rp.vreturn dX12_must_12 rfl ?_
    exact ⟨rfl, rfl⟩
theorem s_must (S : ShOK h) (R : RfOK h) (K : TK h ord c v T) {i : Nat} (hi : i ≤ T) (l : Int32) (k : Nat) (hk : k < 1000) : Rp (d + 2) M_X12_must 0 [some (.ref aM), some (.int (nI k))] [] (rdH h (nI i) l (-1)) (fun r h' => r = none ∧ h' = if c i = k then rdH h (nI (i + 1)) l (-1) else rdH h (nI i) l (gI h am_placed i)) := by
  refine Rp.aload_n dX12_must_0 rfl rfl ?_
  refine Rp.iload_n dX12_must_1 rfl ?_
  refine Rp.callV1 M_X12_takes0 (ci := 12) dX12_must_2 mo_X12_takes0 lk_X12_203 (by decide) rfl rfl (S _ _ rfl) (Nat.le_of_ble_eq_true rfl) (Nat.le_of_ble_eq_true rfl) (s_takes d S R K hi l k hk) (fun v1 h1 p1 x1 => ?_)
  rcases p1 with ⟨e, rfl, rfl⟩ | ⟨e, rfl, rfl⟩
  · rw [if_pos e]
    dsimp only [Option.toList, List.cons_append, List.nil_append, List.append]
    first | ((with_reducible show Rp _ _ _ _ (.int (b2i _) :: _) _ _); refine Rp.if_neB (tgt := 12) dX12_must_5 (by decide) (fun c5 => ?_) (fun c5 => ?_)) | ((with_reducible show Rp _ _ _ _ (.int (nI _) :: _) _ _); refine Rp.if_neN (tgt := 12) dX12_must_5 (by decide) (by omega) (fun c5 => ?_) (fun c5 => ?_)) | refine Rp.if_ne (tgt := 12) dX12_must_5 (by decide) (fun c5 => ?_) (fun c5 => ?_)
    · skip
      refine Rp.vreturn dX12_must_12 rfl ?_
      exact ⟨rfl, rfl⟩
    · skip
      first | (exfalso; omega) | exact absurd c5 (by decide) | exact absurd (by decide) c5
  · rw [if_neg e]
    dsimp only [Option.toList, List.cons_append, List.nil_append, List.append]
    first | ((with_reducible show Rp _ _ _ _ (.int (b2i _) :: _) _ _); refine Rp.if_neB (tgt := 12) dX12_must_5 (by decide) (fun c5 => ?_) (fun c5 => ?_)) | ((with_reducible show Rp _ _ _ _ (.int (nI _) :: _) _ _); refine Rp.if_neN (tgt := 12) dX12_must_5 (by decide) (by omega) (fun c5 => ?_) (fun c5 => ?_)) | refine Rp.if_ne (tgt := 12) dX12_must_5 (by decide) (fun c5 => ?_) (fun c5 => ?_)
    · skip
      first | (exfalso; omega) | exact absurd c5 (by decide) | exact absurd (by decide) c5
    · skip
      refine Rp.aload_n dX12_must_8 rfl rfl ?_
      refine Rp.callV0 M_X12_faults (ci := 12) dX12_must_9 mo_X12_faults lk_X12_206 (by decide) rfl rfl (S _ _ rfl) (Nat.le_of_ble_eq_true rfl) (Nat.le_of_ble_eq_true rfl) (s_faults d S R K hi l) (fun v1 h1 p1 x1 => ?_)
      rw [p1.1, p1.2]
      try dsimp only [Option.toList, List.cons_append, List.nil_append, List.append]
      refine Rp.vreturn dX12_must_12 rfl ?_
      exact ⟨rfl, rfl⟩
theorem s_mustNF (S : ShOK h) (R : RfOK h) (lo hi : Int32) (t l b : Int32) (hb : b ≠ -1) : Rp (d + 2) M_X12_mustNumber 0 [some (.ref aM), some (.int lo), some (.int hi)] [] (rdH h t l b) (fun r h' => h' = rdH h t l b ∧ r = none) := by
  refine Rp.aload_n dX12_mustNumber_0 rfl rfl ?_
  refine Rp.callV0 M_X12_fine (ci := 12) dX12_mustNumber_1 mo_X12_fine lk_X12_196 (by decide) rfl rfl (S _ _ rfl) (Nat.le_of_ble_eq_true rfl) (Nat.le_of_ble_eq_true rfl) (s_fineF (d + 1) S R t l b hb) (fun v1 h1 p1 x1 => ?_)
  rw [p1.1, p1.2]
  try dsimp only [Option.toList, List.cons_append, List.nil_append, List.append]
  first | ((with_reducible show Rp _ _ _ _ (.int (b2i _) :: _) _ _); refine Rp.if_eqB (tgt := 42) dX12_mustNumber_4 (by decide) (fun c4 => ?_) (fun c4 => ?_)) | ((with_reducible show Rp _ _ _ _ (.int (nI _) :: _) _ _); refine Rp.if_eqN (tgt := 42) dX12_mustNumber_4 (by decide) (by omega) (fun c4 => ?_) (fun c4 => ?_)) | refine Rp.if_eq (tgt := 42) dX12_mustNumber_4 (by decide) (fun c4 => ?_) (fun c4 => ?_)
  · skip
    refine Rp.aload_n dX12_mustNumber_42 rfl rfl ?_
    refine Rp.callV0 M_X12_fine (ci := 12) dX12_mustNumber_43 mo_X12_fine lk_X12_196 (by decide) rfl rfl (S _ _ rfl) (Nat.le_of_ble_eq_true rfl) (Nat.le_of_ble_eq_true rfl) (s_fineF (d + 1) S R t l b hb) (fun v1 h1 p1 x1 => ?_)
    rw [p1.1, p1.2]
    try dsimp only [Option.toList, List.cons_append, List.nil_append, List.append]
    first | ((with_reducible show Rp _ _ _ _ (.int (b2i _) :: _) _ _); refine Rp.if_eqB (tgt := 59) dX12_mustNumber_46 (by decide) (fun c46 => ?_) (fun c46 => ?_)) | ((with_reducible show Rp _ _ _ _ (.int (nI _) :: _) _ _); refine Rp.if_eqN (tgt := 59) dX12_mustNumber_46 (by decide) (by omega) (fun c46 => ?_) (fun c46 => ?_)) | refine Rp.if_eq (tgt := 59) dX12_mustNumber_46 (by decide) (fun c46 => ?_) (fun c46 => ?_)
    · skip
      refine Rp.vreturn dX12_mustNumber_59 rfl ?_
      exact ⟨rfl, rfl⟩
    · skip
      first | (exfalso; omega) | exact absurd c46 (by decide) | exact absurd (by decide) c46
  · skip
    first | (exfalso; omega) | exact absurd c4 (by decide) | exact absurd (by decide) c4
theorem mN_f (S : ShOK h) (R : RfOK h) (i : Nat) (l : Int32) (lo hh : Int32) : Rp (d + 2) M_X12_mustNumber 42 [some (.ref aM), some (.int lo), some (.int hh)] [] (rdH h (nI i) l (-1)) (fun r h' => r = none ∧ h' = rdH h (nI (i + 1)) l (-1)) := by
  refine Rp.aload_n dX12_mustNumber_42 rfl rfl ?_
  refine Rp.callV0 M_X12_fine (ci := 12) dX12_mustNumber_43 mo_X12_fine lk_X12_196 (by decide) rfl rfl (S _ _ rfl) (Nat.le_of_ble_eq_true rfl) (Nat.le_of_ble_eq_true rfl) (s_fine (d + 1) S R _ l) (fun v1 h1 p1 x1 => ?_)
  rw [p1.1, p1.2]
  try dsimp only [Option.toList, List.cons_append, List.nil_append, List.append]
  first | ((with_reducible show Rp _ _ _ _ (.int (b2i _) :: _) _ _); refine Rp.if_eqB (tgt := 59) dX12_mustNumber_46 (by decide) (fun c46 => ?_) (fun c46 => ?_)) | ((with_reducible show Rp _ _ _ _ (.int (nI _) :: _) _ _); refine Rp.if_eqN (tgt := 59) dX12_mustNumber_46 (by decide) (by omega) (fun c46 => ?_) (fun c46 => ?_)) | refine Rp.if_eq (tgt := 59) dX12_mustNumber_46 (by decide) (fun c46 => ?_) (fun c46 => ?_)
  · skip
    first | (exfalso; omega) | exact absurd c46 (by decide) | exact absurd (by decide) c46
  · skip
    refine Rp.aload_n dX12_mustNumber_49 rfl rfl ?_
    refine Rp.dup dX12_mustNumber_50 rfl ?_
    refine Rp.getI dX12_mustNumber_51 fk_X12_200 rfl (S _ _ rfl) ?_
    first | rw [rd_t] | skip
    refine Rp.iconst (nI 1) dX12_mustNumber_54 (by decide) ?_
    first | ((with_reducible show Rp _ _ _ _ (.int (nI _) :: .int (nI _) :: _) _ _); refine Rp.iaddN dX12_mustNumber_55 ?_) | refine Rp.iadd dX12_mustNumber_55 ?_
    refine Rp.putI dX12_mustNumber_56 fk_X12_200w rfl (S _ _ rfl) ?_
    first | rw [rd_st] | skip
    refine Rp.vreturn dX12_mustNumber_59 rfl ?_
    exact ⟨rfl, rfl⟩
theorem mN_b (S : ShOK h) (R : RfOK h) (t l b : Int32) (hb : b ≠ -1) (lo hh : Int32) : Rp (d + 2) M_X12_mustNumber 42 [some (.ref aM), some (.int lo), some (.int hh)] [] (rdH h t l b) (fun r h' => r = none ∧ h' = rdH h t l b) := by
  refine Rp.aload_n dX12_mustNumber_42 rfl rfl ?_
  refine Rp.callV0 M_X12_fine (ci := 12) dX12_mustNumber_43 mo_X12_fine lk_X12_196 (by decide) rfl rfl (S _ _ rfl) (Nat.le_of_ble_eq_true rfl) (Nat.le_of_ble_eq_true rfl) (s_fineF (d + 1) S R _ l _ hb) (fun v1 h1 p1 x1 => ?_)
  rw [p1.1, p1.2]
  try dsimp only [Option.toList, List.cons_append, List.nil_append, List.append]
  first | ((with_reducible show Rp _ _ _ _ (.int (b2i _) :: _) _ _); refine Rp.if_eqB (tgt := 59) dX12_mustNumber_46 (by decide) (fun c46 => ?_) (fun c46 => ?_)) | ((with_reducible show Rp _ _ _ _ (.int (nI _) :: _) _ _); refine Rp.if_eqN (tgt := 59) dX12_mustNumber_46 (by decide) (by omega) (fun c46 => ?_) (fun c46 => ?_)) | refine Rp.if_eq (tgt := 59) dX12_mustNumber_46 (by decide) (fun c46 => ?_) (fun c46 => ?_)
  · skip
    refine Rp.vreturn dX12_mustNumber_59 rfl ?_
    exact ⟨rfl, rfl⟩
  · skip
    first | (exfalso; omega) | exact absurd c46 (by decide) | exact absurd (by decide) c46
theorem s_mustN (S : ShOK h) (R : RfOK h) (K : TK h ord c v T) {i : Nat} (hi : i ≤ T) (l : Int32) {lo hh : Nat} (hh' : lo < 1000 ∧ hh < 1000) : Rp (d + 2) M_X12_mustNumber 0 [some (.ref aM), some (.int (nI lo)), some (.int (nI hh))] [] (rdH h (nI i) l (-1)) (fun r h' => r = none ∧ h' = if c i = 50 ∧ lo ≤ v i ∧ v i ≤ hh then rdH h (nI (i + 1)) l (-1) else rdH h (nI i) l (gI h am_placed i)) := by
  have hT := K.1
  obtain ⟨e1, e3, e2, e4, n, hn, en⟩ := K.2.2.1 i hi
  have hb : gI h am_placed i ≠ -1 := by rw [en]; exact nI_ne_m1 hn
  have q32 : (nI lo ≤ nI (v i) ∧ nI (v i) ≤ nI hh) ↔ (lo ≤ v i ∧ v i ≤ hh) := by simp only [i32_le]; rw [nI_toInt (by omega), nI_toInt (by omega), nI_toInt (by omega)]; omega
  by_cases hq : c i = 50 ∧ lo ≤ v i ∧ v i ≤ hh
  · rw [if_pos hq]
    refine Rp.aload_n dX12_mustNumber_0 rfl rfl ?_
    refine Rp.callV0 M_X12_fine (ci := 12) dX12_mustNumber_1 mo_X12_fine lk_X12_196 (by decide) rfl rfl (S _ _ rfl) (Nat.le_of_ble_eq_true rfl) (Nat.le_of_ble_eq_true rfl) (s_fine (d + 1) S R _ l) (fun v1 h1 p1 x1 => ?_)
    rw [p1.1, p1.2]
    try dsimp only [Option.toList, List.cons_append, List.nil_append, List.append]
    first | ((with_reducible show Rp _ _ _ _ (.int (b2i _) :: _) _ _); refine Rp.if_eqB (tgt := 42) dX12_mustNumber_4 (by decide) (fun c4 => ?_) (fun c4 => ?_)) | ((with_reducible show Rp _ _ _ _ (.int (nI _) :: _) _ _); refine Rp.if_eqN (tgt := 42) dX12_mustNumber_4 (by decide) (by omega) (fun c4 => ?_) (fun c4 => ?_)) | refine Rp.if_eq (tgt := 42) dX12_mustNumber_4 (by decide) (fun c4 => ?_) (fun c4 => ?_)
    · skip
      first | (exfalso; omega) | exact absurd c4 (by decide) | exact absurd (by decide) c4
    · skip
      refine Rp.aload_n dX12_mustNumber_7 rfl rfl ?_
      refine Rp.getR dX12_mustNumber_8 fk_X12_50 rfl (S _ _ rfl) (R _ _ _ rfl) ?_
      refine Rp.aload_n dX12_mustNumber_11 rfl rfl ?_
      refine Rp.getI dX12_mustNumber_12 fk_X12_200 rfl (S _ _ rfl) ?_
      first | rw [rd_t] | rw [rd_c, e1] | rw [rd_v, e3] | skip
      first | ((with_reducible show Rp _ _ _ _ (.int (nI _) :: _) _ _); refine Rp.ialoadN dX12_mustNumber_15 (S _ _ rfl) (by omega) ?_) | refine Rp.iaload dX12_mustNumber_15 (S _ _ rfl) (by first | assumption | exact vpb (by decide)) ?_
      first | rw [rd_t] | rw [rd_c, e1] | rw [rd_v, e3] | skip
      refine Rp.bipush (nI 50) dX12_mustNumber_16 (by decide) ?_
      first | ((with_reducible show Rp _ _ _ _ (.int (nI _) :: .int (nI _) :: _) _ _); refine Rp.icmp_neN (tgt := 38) dX12_mustNumber_18 (by decide) (by omega) (fun c18 => ?_) (fun c18 => ?_)) | refine Rp.icmp_ne (tgt := 38) dX12_mustNumber_18 (by decide) (fun c18 => ?_) (fun c18 => ?_)
      · skip
        first | (exfalso; omega) | exact absurd c18 (by decide) | exact absurd (by decide) c18
      · skip
        refine Rp.aload_n dX12_mustNumber_21 rfl rfl ?_
        refine Rp.getR dX12_mustNumber_22 fk_X12_53 rfl (S _ _ rfl) (R _ _ _ rfl) ?_
        refine Rp.aload_n dX12_mustNumber_25 rfl rfl ?_
        refine Rp.getI dX12_mustNumber_26 fk_X12_200 rfl (S _ _ rfl) ?_
        first | rw [rd_t] | rw [rd_c, e1] | rw [rd_v, e3] | skip
        first | ((with_reducible show Rp _ _ _ _ (.int (nI _) :: _) _ _); refine Rp.ialoadN dX12_mustNumber_29 (S _ _ rfl) (by omega) ?_) | refine Rp.iaload dX12_mustNumber_29 (S _ _ rfl) (by first | assumption | exact vpb (by decide)) ?_
        first | rw [rd_t] | rw [rd_c, e1] | rw [rd_v, e3] | skip
        refine Rp.iload_n dX12_mustNumber_30 rfl ?_
        refine Rp.iload_n dX12_mustNumber_31 rfl ?_
        refine Rp.callS3 M_X12_lies dX12_mustNumber_32 mo_X12_lies lk_X12_117 (Nat.le_of_ble_eq_true rfl) (Nat.le_of_ble_eq_true rfl) (s_lies (d + 1) _ (nI (v i)) (nI lo) (nI hh)) (fun v1 h1 p1 x1 => ?_)
        rw [p1.1, p1.2, b2i_t (q32.mpr hq.2)]
        try dsimp only [Option.toList, List.cons_append, List.nil_append, List.append]
        first | ((with_reducible show Rp _ _ _ _ (.int (b2i _) :: _) _ _); refine Rp.if_neB (tgt := 42) dX12_mustNumber_35 (by decide) (fun c35 => ?_) (fun c35 => ?_)) | ((with_reducible show Rp _ _ _ _ (.int (nI _) :: _) _ _); refine Rp.if_neN (tgt := 42) dX12_mustNumber_35 (by decide) (by omega) (fun c35 => ?_) (fun c35 => ?_)) | refine Rp.if_ne (tgt := 42) dX12_mustNumber_35 (by decide) (fun c35 => ?_) (fun c35 => ?_)
        · skip
          exact mN_f d S R i l _ _
        · skip
          first | (exfalso; omega) | exact absurd c35 (by decide) | exact absurd (by decide) c35
  · rw [if_neg hq]
    refine Rp.aload_n dX12_mustNumber_0 rfl rfl ?_
    refine Rp.callV0 M_X12_fine (ci := 12) dX12_mustNumber_1 mo_X12_fine lk_X12_196 (by decide) rfl rfl (S _ _ rfl) (Nat.le_of_ble_eq_true rfl) (Nat.le_of_ble_eq_true rfl) (s_fine (d + 1) S R _ l) (fun v1 h1 p1 x1 => ?_)
    rw [p1.1, p1.2]
    try dsimp only [Option.toList, List.cons_append, List.nil_append, List.append]
    first | ((with_reducible show Rp _ _ _ _ (.int (b2i _) :: _) _ _); refine Rp.if_eqB (tgt := 42) dX12_mustNumber_4 (by decide) (fun c4 => ?_) (fun c4 => ?_)) | ((with_reducible show Rp _ _ _ _ (.int (nI _) :: _) _ _); refine Rp.if_eqN (tgt := 42) dX12_mustNumber_4 (by decide) (by omega) (fun c4 => ?_) (fun c4 => ?_)) | refine Rp.if_eq (tgt := 42) dX12_mustNumber_4 (by decide) (fun c4 => ?_) (fun c4 => ?_)
    · skip
      first | (exfalso; omega) | exact absurd c4 (by decide) | exact absurd (by decide) c4
    · skip
      refine Rp.aload_n dX12_mustNumber_7 rfl rfl ?_
      refine Rp.getR dX12_mustNumber_8 fk_X12_50 rfl (S _ _ rfl) (R _ _ _ rfl) ?_
      refine Rp.aload_n dX12_mustNumber_11 rfl rfl ?_
      refine Rp.getI dX12_mustNumber_12 fk_X12_200 rfl (S _ _ rfl) ?_
      first | rw [rd_t] | rw [rd_c, e1] | rw [rd_v, e3] | skip
      first | ((with_reducible show Rp _ _ _ _ (.int (nI _) :: _) _ _); refine Rp.ialoadN dX12_mustNumber_15 (S _ _ rfl) (by omega) ?_) | refine Rp.iaload dX12_mustNumber_15 (S _ _ rfl) (by first | assumption | exact vpb (by decide)) ?_
      first | rw [rd_t] | rw [rd_c, e1] | rw [rd_v, e3] | skip
      refine Rp.bipush (nI 50) dX12_mustNumber_16 (by decide) ?_
      first | ((with_reducible show Rp _ _ _ _ (.int (nI _) :: .int (nI _) :: _) _ _); refine Rp.icmp_neN (tgt := 38) dX12_mustNumber_18 (by decide) (by omega) (fun c18 => ?_) (fun c18 => ?_)) | refine Rp.icmp_ne (tgt := 38) dX12_mustNumber_18 (by decide) (fun c18 => ?_) (fun c18 => ?_)
      · skip
        refine Rp.aload_n dX12_mustNumber_38 rfl rfl ?_
        refine Rp.callV0 M_X12_faults (ci := 12) dX12_mustNumber_39 mo_X12_faults lk_X12_206 (by decide) rfl rfl (S _ _ rfl) (Nat.le_of_ble_eq_true rfl) (Nat.le_of_ble_eq_true rfl) (s_faults d S R K hi l) (fun v1 h1 p1 x1 => ?_)
        rw [p1.1, p1.2]
        try dsimp only [Option.toList, List.cons_append, List.nil_append, List.append]
        exact mN_b d S R _ l _ hb _ _
      · skip
        refine Rp.aload_n dX12_mustNumber_21 rfl rfl ?_
        refine Rp.getR dX12_mustNumber_22 fk_X12_53 rfl (S _ _ rfl) (R _ _ _ rfl) ?_
        refine Rp.aload_n dX12_mustNumber_25 rfl rfl ?_
        refine Rp.getI dX12_mustNumber_26 fk_X12_200 rfl (S _ _ rfl) ?_
        first | rw [rd_t] | rw [rd_c, e1] | rw [rd_v, e3] | skip
        first | ((with_reducible show Rp _ _ _ _ (.int (nI _) :: _) _ _); refine Rp.ialoadN dX12_mustNumber_29 (S _ _ rfl) (by omega) ?_) | refine Rp.iaload dX12_mustNumber_29 (S _ _ rfl) (by first | assumption | exact vpb (by decide)) ?_
        first | rw [rd_t] | rw [rd_c, e1] | rw [rd_v, e3] | skip
        refine Rp.iload_n dX12_mustNumber_30 rfl ?_
        refine Rp.iload_n dX12_mustNumber_31 rfl ?_
        refine Rp.callS3 M_X12_lies dX12_mustNumber_32 mo_X12_lies lk_X12_117 (Nat.le_of_ble_eq_true rfl) (Nat.le_of_ble_eq_true rfl) (s_lies (d + 1) _ (nI (v i)) (nI lo) (nI hh)) (fun v1 h1 p1 x1 => ?_)
        rw [p1.1, p1.2, b2i_f (fun z => hq ⟨by omega, q32.mp z⟩)]
        try dsimp only [Option.toList, List.cons_append, List.nil_append, List.append]
        first | ((with_reducible show Rp _ _ _ _ (.int (b2i _) :: _) _ _); refine Rp.if_neB (tgt := 42) dX12_mustNumber_35 (by decide) (fun c35 => ?_) (fun c35 => ?_)) | ((with_reducible show Rp _ _ _ _ (.int (nI _) :: _) _ _); refine Rp.if_neN (tgt := 42) dX12_mustNumber_35 (by decide) (by omega) (fun c35 => ?_) (fun c35 => ?_)) | refine Rp.if_ne (tgt := 42) dX12_mustNumber_35 (by decide) (fun c35 => ?_) (fun c35 => ?_)
        · skip
          first | (exfalso; omega) | exact absurd c35 (by decide) | exact absurd (by decide) c35
        · skip
          refine Rp.aload_n dX12_mustNumber_38 rfl rfl ?_
          refine Rp.callV0 M_X12_faults (ci := 12) dX12_mustNumber_39 mo_X12_faults lk_X12_206 (by decide) rfl rfl (S _ _ rfl) (Nat.le_of_ble_eq_true rfl) (Nat.le_of_ble_eq_true rfl) (s_faults d S R K hi l) (fun v1 h1 p1 x1 => ?_)
          rw [p1.1, p1.2]
          try dsimp only [Option.toList, List.cons_append, List.nil_append, List.append]
          exact mN_b d S R _ l _ hb _ _
end Rd
