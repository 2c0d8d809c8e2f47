theorem hlR_snoc {K : Nat → Int32} : ∀ m p, hlR K (m + 1) p = hlR K m p ++ (if K (p + m) = -1 then [] else [p + m])
  | 0, p => by
    rw [hlR, hlR, hlR, Nat.add_zero]
    split <;> rfl
  | m + 1, p => by
    have ih := hlR_snoc (K := K) m (p + 1)
    rw [show p + 1 + m = p + (m + 1) by omega] at ih
    rw [hlR, ih, hlR]
    split
    · rfl
    · rfl
theorem tkL_snoc {K : Nat → Int32} {np : Nat} : ∀ m t, tkL K np (m + 1) t = tkL K np m t ++ (if hOf K (nI (t + m)) np = -1 then [] else [t + m])
  | 0, t => by
    rw [tkL, tkL, tkL, Nat.add_zero]
    split <;> rfl
  | m + 1, t => by
    have ih := tkL_snoc (K := K) (np := np) m (t + 1)
    rw [show t + 1 + m = t + (m + 1) by omega] at ih
    rw [tkL, ih, tkL]
    split
    · rfl
    · rfl
/-- in rising order -/
theorem hlR_lt {K : Nat → Int32} : ∀ (m p i j a b : Nat), (hlR K m p)[i]? = some a → (hlR K m p)[j]? = some b → i < j → a < b
  | 0, p, i, j, a, b, h1, _, _ => by cases h1
  | m + 1, p, i, j, a, b, h1, h2, hij => by
    rw [hlR] at h1 h2
    by_cases e : K p = -1
    · rw [if_pos e] at h1 h2; exact hlR_lt m (p + 1) i j a b h1 h2 hij
    · rw [if_neg e] at h1 h2
      obtain ⟨j, rfl⟩ : ∃ x, j = x + 1 := ⟨j - 1, by omega⟩
      rw [List.getElem?_cons_succ] at h2
      have m2 := hlR_mem m (p + 1) b (List.mem_of_getElem? h2)
      match i, h1 with
      | 0, h1 =>
        rw [List.getElem?_cons_zero] at h1
        cases h1
        omega
      | i + 1, h1 =>
        rw [List.getElem?_cons_succ] at h1
        exact hlR_lt m (p + 1) i j a b h1 h2 (by omega)
theorem tkL_lt {K : Nat → Int32} {np : Nat} : ∀ (m p i j a b : Nat), (tkL K np m p)[i]? = some a → (tkL K np m p)[j]? = some b → i < j → a < b
  | 0, p, i, j, a, b, h1, _, _ => by cases h1
  | m + 1, p, i, j, a, b, h1, h2, hij => by
    rw [tkL] at h1 h2
    by_cases e : hOf K (nI p) np = -1
    · rw [if_pos e] at h1 h2; exact tkL_lt m (p + 1) i j a b h1 h2 hij
    · rw [if_neg e] at h1 h2
      obtain ⟨j, rfl⟩ : ∃ x, j = x + 1 := ⟨j - 1, by omega⟩
      rw [List.getElem?_cons_succ] at h2
      have m2 := tkL_mem m (p + 1) b (List.mem_of_getElem? h2)
      match i, h1 with
      | 0, h1 =>
        rw [List.getElem?_cons_zero] at h1
        cases h1
        omega
      | i + 1, h1 =>
        rw [List.getElem?_cons_succ] at h1
        exact tkL_lt m (p + 1) i j a b h1 h2 (by omega)
theorem hlR_inj {K : Nat → Int32} {m p i j a : Nat} (h1 : (hlR K m p)[i]? = some a) (h2 : (hlR K m p)[j]? = some a) : i = j := by
  rcases Nat.lt_trichotomy i j with h | h | h
  · exact absurd (hlR_lt m p i j a a h1 h2 h) (Nat.lt_irrefl _)
  · exact h
  · exact absurd (hlR_lt m p j i a a h2 h1 h) (Nat.lt_irrefl _)
theorem tkL_inj {K : Nat → Int32} {np m p i j a : Nat} (h1 : (tkL K np m p)[i]? = some a) (h2 : (tkL K np m p)[j]? = some a) : i = j := by
  rcases Nat.lt_trichotomy i j with h | h | h
  · exact absurd (tkL_lt m p i j a a h1 h2 h) (Nat.lt_irrefl _)
  · exact h
  · exact absurd (tkL_lt m p j i a a h2 h1 h) (Nat.lt_irrefl _)
def lhX (k j : Nat) : Bool := ((k == 119 || k == 120) && decide (j < 6)) || (k == 100 && j == 39)
/-- the holders and what is held, laid out -/
def LH (g : AH) (K : Nat → Int32) (np nt : Nat) : Prop := gI g 100 39 = nI (hlR K np 0).length ∧ (∀ i q, (hlR K np 0)[i]? = some q → gI g 119 i = nI q) ∧ (∀ i t, (tkL K np nt 0)[i]? = some t → gI g 120 i = nI t)
section Lh
variable (d : Nat) {h : AH} {np nt : Nat}
theorem laysH7 {P : Option Value → AH → Prop} (S0 : ShOK h) (R0 : RfOK h) (hp : np ≤ 6) (hM : gI h 102 103 = nI np) (kk : ∀ g, Fr lhX h g → gI g 100 39 = nI (hlR (gI h 102) np 0).length → (∀ i q, (hlR (gI h 102) np 0)[i]? = some q → gI g 119 i = nI q) → Rp (d + 1) M_X12_laysHolders 55 [some (.ref aM), some (.int (nI np)), none] [] g P) : ∀ (m p : Nat) (g : AH), p + m = np → Fr lhX h g → gI g 100 39 = nI (hlR (gI h 102) p 0).length → (∀ i q, (hlR (gI h 102) p 0)[i]? = some q → gI g 119 i = nI q) → Rp (d + 1) M_X12_laysHolders 7 [some (.ref aM), some (.int (nI p)), none] [] g P := by
  intro m
  induction m with
  | zero =>
    intro p g hm F e39 e119
    have e : p = np := by omega
    subst e
    have S := F.S S0
    have R := F.R R0 (by decide)
    have hM1 : gI g 102 103 = nI p := (F.I 102 103 rfl).trans hM
    have k1 := kk g F e39 e119
    refine Rp.iload_n dX12_laysHolders_7 rfl ?_
    refine Rp.aload_n dX12_laysHolders_8 rfl rfl ?_
    refine Rp.getR dX12_laysHolders_9 fk_X12_24 rfl (S _ _ rfl) (R _ _ _ rfl) ?_
    refine Rp.bipush (nI 103) dX12_laysHolders_12 (by decide) ?_
    first | ((with_reducible show Rp _ _ _ _ (.int (nI _) :: _) _ _); refine Rp.ialoadN dX12_laysHolders_14 (S _ _ rfl) (by omega) ?_) | refine Rp.iaload dX12_laysHolders_14 (S _ _ rfl) (by first | assumption | exact vpb (by decide)) ?_
    first | rw [hM1] | skip
    first | ((with_reducible show Rp _ _ _ _ (.int (nI _) :: .int (nI _) :: _) _ _); refine Rp.icmp_geN (tgt := 55) dX12_laysHolders_15 (by decide) (by omega) (fun c15 => ?_) (fun c15 => ?_)) | refine Rp.icmp_ge (tgt := 55) dX12_laysHolders_15 (by decide) (fun c15 => ?_) (fun c15 => ?_)
    · skip
      exact k1
    · skip
      first | (exfalso; omega) | exact absurd c15 (by decide) | exact absurd (by decide) c15
  | succ m ih =>
    intro p g hm F e39 e119
    have S := F.S S0
    have R := F.R R0 (by decide)
    have hM1 : gI g 102 103 = nI np := (F.I 102 103 rfl).trans hM
    have K1 : gI g 102 p = gI h 102 p := F.I 102 p rfl
    have hd := s_holds d S R (q := p) (by omega)
    have sn := hlR_snoc (K := gI h 102) p 0
    rw [Nat.zero_add] at sn
    have ln : (hlR (gI h 102) p 0).length ≤ p := by rw [hlR_len]; exact cntH_le _ _
    by_cases c : gI h 102 p = -1
    · rw [if_pos c, List.append_nil] at sn
      have k1 := ih (p + 1) g (by omega) F (by rw [sn]; exact e39) (by rw [sn]; exact e119)
      rw [show gI g am_kept p = -1 from K1.trans c] at hd
      refine Rp.iload_n dX12_laysHolders_7 rfl ?_
      refine Rp.aload_n dX12_laysHolders_8 rfl rfl ?_
      refine Rp.getR dX12_laysHolders_9 fk_X12_24 rfl (S _ _ rfl) (R _ _ _ rfl) ?_
      refine Rp.bipush (nI 103) dX12_laysHolders_12 (by decide) ?_
      first | ((with_reducible show Rp _ _ _ _ (.int (nI _) :: _) _ _); refine Rp.ialoadN dX12_laysHolders_14 (S _ _ rfl) (by omega) ?_) | refine Rp.iaload dX12_laysHolders_14 (S _ _ rfl) (by first | assumption | exact vpb (by decide)) ?_
      first | rw [hM1] | skip
      first | ((with_reducible show Rp _ _ _ _ (.int (nI _) :: .int (nI _) :: _) _ _); refine Rp.icmp_geN (tgt := 55) dX12_laysHolders_15 (by decide) (by omega) (fun c15 => ?_) (fun c15 => ?_)) | refine Rp.icmp_ge (tgt := 55) dX12_laysHolders_15 (by decide) (fun c15 => ?_) (fun c15 => ?_)
      · skip
        first | (exfalso; omega) | exact absurd c15 (by decide) | exact absurd (by decide) c15
      · skip
        refine Rp.aload_n dX12_laysHolders_18 rfl rfl ?_
        refine Rp.iload_n dX12_laysHolders_19 rfl ?_
        refine Rp.callV1 M_X12_holds (ci := 12) dX12_laysHolders_20 mo_X12_holds lk_X12_351 (by decide) rfl rfl (S _ _ rfl) (Nat.le_of_ble_eq_true rfl) (Nat.le_of_ble_eq_true rfl) (hd) (fun v1 h1 p1 x1 => ?_)
        rw [p1.1, p1.2]
        try dsimp only [Option.toList, List.cons_append, List.nil_append, List.append]
        first | ((with_reducible show Rp _ _ _ _ (.int (b2i _) :: _) _ _); refine Rp.if_neB (tgt := 29) dX12_laysHolders_23 (by decide) (fun c23 => ?_) (fun c23 => ?_)) | ((with_reducible show Rp _ _ _ _ (.int (nI _) :: _) _ _); refine Rp.if_neN (tgt := 29) dX12_laysHolders_23 (by decide) (by omega) (fun c23 => ?_) (fun c23 => ?_)) | refine Rp.if_ne (tgt := 29) dX12_laysHolders_23 (by decide) (fun c23 => ?_) (fun c23 => ?_)
        · skip
          exact absurd c23 (by decide)
        · skip
          refine Rp.goto (tgt := 49) dX12_laysHolders_26 (by decide) ?_
          first | ((with_reducible show Rp _ _ _ (_ :: some (.int (nI _)) :: _) _ _ _); refine Rp.inc1N (c := 1) dX12_laysHolders_49 (by first | exact nl2_some rfl | exact nl2_none) (by decide) ?_) | refine Rp.inc1 _ dX12_laysHolders_49 rfl (by first | exact nl2_some rfl | exact nl2_none) (by decide) ?_
          refine Rp.goto (tgt := 7) dX12_laysHolders_52 (by decide) ?_
          exact k1
    · rw [if_neg c] at sn
      rw [show decide (gI g am_kept p ≠ -1) = true from decide_eq_true (fun z => c (K1.symm.trans z))] at hd
      have F1 : Fr lhX h (sI (sI g 119 (hlR (gI h 102) p 0).length (nI p)) 100 39 (nI ((hlR (gI h 102) p 0).length + 1))) := (F.sI (by unfold lhX; rw [decide_eq_true (show (hlR (gI h 102) p 0).length < 6 by omega)]; rfl)).sI rfl
      have k1 := ih (p + 1) _ (by omega) F1 (by rw [sn, List.length_append]; exact gI_hit _ _ _ _) (fun i q hi => by
        rw [sn] at hi
        rw [gI_ne _ _ _ _ (by decide), gI_at]
        by_cases z : i = (hlR (gI h 102) p 0).length
        · rw [if_pos z]
          rw [z, List.getElem?_append_right (Nat.le_refl _), Nat.sub_self] at hi
          cases hi; rfl
        · rw [if_neg z]
          have : i < (hlR (gI h 102) p 0).length := by
            have := (List.getElem?_eq_some_iff.mp hi).1
            rw [List.length_append] at this
            have : i < (hlR (gI h 102) p 0).length + 1 := this
            omega
          rw [List.getElem?_append_left this] at hi
          exact e119 i q hi)
      have e39b : gI (sI g 119 (hlR (gI h 102) p 0).length (nI p)) 100 39 = nI (hlR (gI h 102) p 0).length := e39
      refine Rp.iload_n dX12_laysHolders_7 rfl ?_
      refine Rp.aload_n dX12_laysHolders_8 rfl rfl ?_
      refine Rp.getR dX12_laysHolders_9 fk_X12_24 rfl (S _ _ rfl) (R _ _ _ rfl) ?_
      refine Rp.bipush (nI 103) dX12_laysHolders_12 (by decide) ?_
      first | ((with_reducible show Rp _ _ _ _ (.int (nI _) :: _) _ _); refine Rp.ialoadN dX12_laysHolders_14 (S _ _ rfl) (by omega) ?_) | refine Rp.iaload dX12_laysHolders_14 (S _ _ rfl) (by first | assumption | exact vpb (by decide)) ?_
      first | rw [hM1] | rw [e39] | rw [e39b] | skip
      first | ((with_reducible show Rp _ _ _ _ (.int (nI _) :: .int (nI _) :: _) _ _); refine Rp.icmp_geN (tgt := 55) dX12_laysHolders_15 (by decide) (by omega) (fun c15 => ?_) (fun c15 => ?_)) | refine Rp.icmp_ge (tgt := 55) dX12_laysHolders_15 (by decide) (fun c15 => ?_) (fun c15 => ?_)
      · skip
        first | (exfalso; omega) | exact absurd c15 (by decide) | exact absurd (by decide) c15
      · skip
        refine Rp.aload_n dX12_laysHolders_18 rfl rfl ?_
        refine Rp.iload_n dX12_laysHolders_19 rfl ?_
        refine Rp.callV1 M_X12_holds (ci := 12) dX12_laysHolders_20 mo_X12_holds lk_X12_351 (by decide) rfl rfl (S _ _ rfl) (Nat.le_of_ble_eq_true rfl) (Nat.le_of_ble_eq_true rfl) (hd) (fun v1 h1 p1 x1 => ?_)
        rw [p1.1, p1.2]
        try dsimp only [Option.toList, List.cons_append, List.nil_append, List.append]
        first | ((with_reducible show Rp _ _ _ _ (.int (b2i _) :: _) _ _); refine Rp.if_neB (tgt := 29) dX12_laysHolders_23 (by decide) (fun c23 => ?_) (fun c23 => ?_)) | ((with_reducible show Rp _ _ _ _ (.int (nI _) :: _) _ _); refine Rp.if_neN (tgt := 29) dX12_laysHolders_23 (by decide) (by omega) (fun c23 => ?_) (fun c23 => ?_)) | refine Rp.if_ne (tgt := 29) dX12_laysHolders_23 (by decide) (fun c23 => ?_) (fun c23 => ?_)
        · skip
          refine Rp.aload_n dX12_laysHolders_29 rfl rfl ?_
          refine Rp.getR dX12_laysHolders_30 fk_X12_80 rfl (S _ _ rfl) (R _ _ _ rfl) ?_
          refine Rp.aload_n dX12_laysHolders_33 rfl rfl ?_
          refine Rp.getI dX12_laysHolders_34 fk_X12_405 rfl (S _ _ rfl) ?_
          first | rw [hM1] | rw [e39] | rw [e39b] | skip
          refine Rp.iload_n dX12_laysHolders_37 rfl ?_
          first | ((with_reducible show Rp _ _ _ _ (_ :: .int (nI _) :: _) _ _); refine Rp.iastoreN dX12_laysHolders_38 (S _ _ rfl) (by omega) ?_) | refine Rp.iastore dX12_laysHolders_38 (S _ _ rfl) (by first | assumption | exact vpb (by decide)) ?_
          refine Rp.aload_n dX12_laysHolders_39 rfl rfl ?_
          refine Rp.dup dX12_laysHolders_40 rfl ?_
          refine Rp.getI dX12_laysHolders_41 fk_X12_405 rfl (S _ _ rfl) ?_
          first | rw [hM1] | rw [e39] | rw [e39b] | skip
          refine Rp.iconst (nI 1) dX12_laysHolders_44 (by decide) ?_
          first | ((with_reducible show Rp _ _ _ _ (.int (nI _) :: .int (nI _) :: _) _ _); refine Rp.iaddN dX12_laysHolders_45 ?_) | refine Rp.iadd dX12_laysHolders_45 ?_
          refine Rp.putI dX12_laysHolders_46 fk_X12_405w rfl (S _ _ rfl) ?_
          first | ((with_reducible show Rp _ _ _ (_ :: some (.int (nI _)) :: _) _ _ _); refine Rp.inc1N (c := 1) dX12_laysHolders_49 (by first | exact nl2_some rfl | exact nl2_none) (by decide) ?_) | refine Rp.inc1 _ dX12_laysHolders_49 rfl (by first | exact nl2_some rfl | exact nl2_none) (by decide) ?_
          refine Rp.goto (tgt := 7) dX12_laysHolders_52 (by decide) ?_
          exact k1
        · skip
          exact absurd c23 (by decide)
theorem laysH59 (S0 : ShOK h) (R0 : RfOK h) (V : VH (gI h 102) np nt) (hM : gI h 102 103 = nI np) (hT : gI h 102 104 = nI nt) : ∀ (m t : Nat) (g : AH), t + m = nt → Fr lhX h g → gI g 100 39 = nI (hlR (gI h 102) np 0).length → (∀ i q, (hlR (gI h 102) np 0)[i]? = some q → gI g 119 i = nI q) → (∀ i q, (tkL (gI h 102) np t 0)[i]? = some q → gI g 120 i = nI q) → Rp (d + 1) M_X12_laysHolders 59 [some (.ref aM), some (.int (nI (tkL (gI h 102) np t 0).length)), some (.int (nI t))] [] g (fun r h' => r = none ∧ Fr lhX h h' ∧ LH h' (gI h 102) np nt) := by
  have v1 := V.1
  have v2 := V.2.1
  have tl6 : (tkL (gI h 102) np nt 0).length ≤ 6 := by
    rw [V.lens, hlR_len]
    exact Nat.le_trans (cntH_le _ _) v1
  intro m
  induction m with
  | zero =>
    intro t g hm F e39 e119 e120
    have e : t = nt := by omega
    subst e
    have S := F.S S0
    have R := F.R R0 (by decide)
    have hT1 : gI g 102 104 = nI t := (F.I 102 104 rfl).trans hT
    refine Rp.iload_n dX12_laysHolders_59 rfl ?_
    refine Rp.aload_n dX12_laysHolders_60 rfl rfl ?_
    refine Rp.getR dX12_laysHolders_61 fk_X12_24 rfl (S _ _ rfl) (R _ _ _ rfl) ?_
    refine Rp.bipush (nI 104) dX12_laysHolders_64 (by decide) ?_
    first | ((with_reducible show Rp _ _ _ _ (.int (nI _) :: _) _ _); refine Rp.ialoadN dX12_laysHolders_66 (S _ _ rfl) (by omega) ?_) | refine Rp.iaload dX12_laysHolders_66 (S _ _ rfl) (by first | assumption | exact vpb (by decide)) ?_
    first | rw [hT1] | skip
    first | ((with_reducible show Rp _ _ _ _ (.int (nI _) :: .int (nI _) :: _) _ _); refine Rp.icmp_geN (tgt := 98) dX12_laysHolders_67 (by decide) (by omega) (fun c67 => ?_) (fun c67 => ?_)) | refine Rp.icmp_ge (tgt := 98) dX12_laysHolders_67 (by decide) (fun c67 => ?_) (fun c67 => ?_)
    · skip
      refine Rp.vreturn dX12_laysHolders_98 rfl ?_
      exact ⟨rfl, F, e39, e119, e120⟩
    · skip
      first | (exfalso; omega) | exact absurd c67 (by decide) | exact absurd (by decide) c67
  | succ m ih =>
    intro t g hm F e39 e119 e120
    have S := F.S S0
    have R := F.R R0 (by decide)
    have hT1 : gI g 102 104 = nI nt := (F.I 102 104 rfl).trans hT
    have hM1 : gI g 102 103 = nI np := (F.I 102 103 rfl).trans hM
    have K1 : gI g 102 = gI h 102 := funext fun j => F.I 102 j rfl
    have ho := s_holderOf d S R (nI t) v1 hM1
    rw [show gI g am_kept = gI h 102 from K1] at ho
    have sn := tkL_snoc (K := gI h 102) (np := np) t 0
    rw [Nat.zero_add] at sn
    have monoL : (tkL (gI h 102) np (t + 1) 0).length ≤ 6 := by
      have : ∀ k, t + 1 + k ≤ nt → (tkL (gI h 102) np (t + 1) 0).length ≤ (tkL (gI h 102) np (t + 1 + k) 0).length := fun k => by
        induction k with
        | zero => intro _; exact Nat.le_refl _
        | succ k ihk =>
          intro hk
          have := ihk (by omega)
          rw [show t + 1 + (k + 1) = (t + 1 + k) + 1 by omega, tkL_snoc (K := gI h 102) (np := np) (t + 1 + k) 0, List.length_append]
          omega
      have := this (nt - (t + 1)) (by omega)
      rw [show t + 1 + (nt - (t + 1)) = nt by omega] at this
      omega
    by_cases c : hOf (gI h 102) (nI t) np = -1
    · rw [if_pos c, List.append_nil] at sn
      have k1 := ih (t + 1) g (by omega) F e39 e119 (by rw [sn]; exact e120)
      rw [sn] at k1
      rw [c] at ho
      refine Rp.iload_n dX12_laysHolders_59 rfl ?_
      refine Rp.aload_n dX12_laysHolders_60 rfl rfl ?_
      refine Rp.getR dX12_laysHolders_61 fk_X12_24 rfl (S _ _ rfl) (R _ _ _ rfl) ?_
      refine Rp.bipush (nI 104) dX12_laysHolders_64 (by decide) ?_
      first | ((with_reducible show Rp _ _ _ _ (.int (nI _) :: _) _ _); refine Rp.ialoadN dX12_laysHolders_66 (S _ _ rfl) (by omega) ?_) | refine Rp.iaload dX12_laysHolders_66 (S _ _ rfl) (by first | assumption | exact vpb (by decide)) ?_
      first | rw [hT1] | skip
      first | ((with_reducible show Rp _ _ _ _ (.int (nI _) :: .int (nI _) :: _) _ _); refine Rp.icmp_geN (tgt := 98) dX12_laysHolders_67 (by decide) (by omega) (fun c67 => ?_) (fun c67 => ?_)) | refine Rp.icmp_ge (tgt := 98) dX12_laysHolders_67 (by decide) (fun c67 => ?_) (fun c67 => ?_)
      · skip
        first | (exfalso; omega) | exact absurd c67 (by decide) | exact absurd (by decide) c67
      · skip
        refine Rp.aload_n dX12_laysHolders_70 rfl rfl ?_
        refine Rp.iload_n dX12_laysHolders_71 rfl ?_
        refine Rp.callV1 M_X12_holderOf (ci := 12) dX12_laysHolders_72 mo_X12_holderOf lk_X12_151 (by decide) rfl rfl (S _ _ rfl) (Nat.le_of_ble_eq_true rfl) (Nat.le_of_ble_eq_true rfl) (ho) (fun v1 h1 p1 x1 => ?_)
        rw [p1.1, p1.2]
        try dsimp only [Option.toList, List.cons_append, List.nil_append, List.append]
        refine Rp.iconst (-1) dX12_laysHolders_75 (by decide) ?_
        first | ((with_reducible show Rp _ _ _ _ (.int (nI _) :: .int (nI _) :: _) _ _); refine Rp.icmp_neN (tgt := 82) dX12_laysHolders_76 (by decide) (by omega) (fun c76 => ?_) (fun c76 => ?_)) | refine Rp.icmp_ne (tgt := 82) dX12_laysHolders_76 (by decide) (fun c76 => ?_) (fun c76 => ?_)
        · skip
          exact absurd rfl c76
        · skip
          refine Rp.goto (tgt := 92) dX12_laysHolders_79 (by decide) ?_
          first | ((with_reducible show Rp _ _ _ (_ :: _ :: some (.int (nI _)) :: _) _ _ _); refine Rp.inc2N (c := 1) dX12_laysHolders_92 (by first | exact nl2_some rfl | exact nl2_none) (by decide) ?_) | refine Rp.inc2 _ dX12_laysHolders_92 rfl (by first | exact nl2_some rfl | exact nl2_none) (by decide) ?_
          refine Rp.goto (tgt := 59) dX12_laysHolders_95 (by decide) ?_
          exact k1
    · rw [if_neg c] at sn
      have ln : (tkL (gI h 102) np t 0).length < 6 := by rw [sn, List.length_append] at monoL; have : (tkL (gI h 102) np t 0).length + 1 ≤ 6 := monoL; omega
      have F1 : Fr lhX h (sI g 120 (tkL (gI h 102) np t 0).length (nI t)) := F.sI (by unfold lhX; rw [decide_eq_true ln]; rfl)
      have k1 := ih (t + 1) _ (by omega) F1 e39 (fun i q hi => (gI_ne _ _ _ _ (by decide)).trans (e119 i q hi)) (fun i q hi => by
        rw [sn] at hi
        rw [gI_at]
        by_cases z : i = (tkL (gI h 102) np t 0).length
        · rw [if_pos z]
          rw [z, List.getElem?_append_right (Nat.le_refl _), Nat.sub_self] at hi
          cases hi; rfl
        · rw [if_neg z]
          have : i < (tkL (gI h 102) np t 0).length := by
            have := (List.getElem?_eq_some_iff.mp hi).1
            rw [List.length_append] at this
            have : i < (tkL (gI h 102) np t 0).length + 1 := this
            omega
          rw [List.getElem?_append_left this] at hi
          exact e120 i q hi)
      rw [sn, List.length_append] at k1
      refine Rp.iload_n dX12_laysHolders_59 rfl ?_
      refine Rp.aload_n dX12_laysHolders_60 rfl rfl ?_
      refine Rp.getR dX12_laysHolders_61 fk_X12_24 rfl (S _ _ rfl) (R _ _ _ rfl) ?_
      refine Rp.bipush (nI 104) dX12_laysHolders_64 (by decide) ?_
      first | ((with_reducible show Rp _ _ _ _ (.int (nI _) :: _) _ _); refine Rp.ialoadN dX12_laysHolders_66 (S _ _ rfl) (by omega) ?_) | refine Rp.iaload dX12_laysHolders_66 (S _ _ rfl) (by first | assumption | exact vpb (by decide)) ?_
      first | rw [hT1] | skip
      first | ((with_reducible show Rp _ _ _ _ (.int (nI _) :: .int (nI _) :: _) _ _); refine Rp.icmp_geN (tgt := 98) dX12_laysHolders_67 (by decide) (by omega) (fun c67 => ?_) (fun c67 => ?_)) | refine Rp.icmp_ge (tgt := 98) dX12_laysHolders_67 (by decide) (fun c67 => ?_) (fun c67 => ?_)
      · skip
        first | (exfalso; omega) | exact absurd c67 (by decide) | exact absurd (by decide) c67
      · skip
        refine Rp.aload_n dX12_laysHolders_70 rfl rfl ?_
        refine Rp.iload_n dX12_laysHolders_71 rfl ?_
        refine Rp.callV1 M_X12_holderOf (ci := 12) dX12_laysHolders_72 mo_X12_holderOf lk_X12_151 (by decide) rfl rfl (S _ _ rfl) (Nat.le_of_ble_eq_true rfl) (Nat.le_of_ble_eq_true rfl) (ho) (fun v1 h1 p1 x1 => ?_)
        rw [p1.1, p1.2]
        try dsimp only [Option.toList, List.cons_append, List.nil_append, List.append]
        refine Rp.iconst (-1) dX12_laysHolders_75 (by decide) ?_
        first | ((with_reducible show Rp _ _ _ _ (.int (nI _) :: .int (nI _) :: _) _ _); refine Rp.icmp_neN (tgt := 82) dX12_laysHolders_76 (by decide) (by omega) (fun c76 => ?_) (fun c76 => ?_)) | refine Rp.icmp_ne (tgt := 82) dX12_laysHolders_76 (by decide) (fun c76 => ?_) (fun c76 => ?_)
        · skip
          refine Rp.aload_n dX12_laysHolders_82 rfl rfl ?_
          refine Rp.getR dX12_laysHolders_83 fk_X12_83 rfl (S _ _ rfl) (R _ _ _ rfl) ?_
          refine Rp.iload_n dX12_laysHolders_86 rfl ?_
          refine Rp.iload_n dX12_laysHolders_87 rfl ?_
          first | ((with_reducible show Rp _ _ _ _ (_ :: .int (nI _) :: _) _ _); refine Rp.iastoreN dX12_laysHolders_88 (S _ _ rfl) (by omega) ?_) | refine Rp.iastore dX12_laysHolders_88 (S _ _ rfl) (by first | assumption | exact vpb (by decide)) ?_
          first | ((with_reducible show Rp _ _ _ (_ :: some (.int (nI _)) :: _) _ _ _); refine Rp.inc1N (c := 1) dX12_laysHolders_89 (by first | exact nl2_some rfl | exact nl2_none) (by decide) ?_) | refine Rp.inc1 _ dX12_laysHolders_89 rfl (by first | exact nl2_some rfl | exact nl2_none) (by decide) ?_
          first | ((with_reducible show Rp _ _ _ (_ :: _ :: some (.int (nI _)) :: _) _ _ _); refine Rp.inc2N (c := 1) dX12_laysHolders_92 (by first | exact nl2_some rfl | exact nl2_none) (by decide) ?_) | refine Rp.inc2 _ dX12_laysHolders_92 rfl (by first | exact nl2_some rfl | exact nl2_none) (by decide) ?_
          refine Rp.goto (tgt := 59) dX12_laysHolders_95 (by decide) ?_
          exact k1
        · skip
          exact absurd c76 c
theorem laysH55 {P : Option Value → AH → Prop} {g : AH} {n : Nat} (k59 : Rp (d + 1) M_X12_laysHolders 59 [some (.ref aM), some (.int (nI 0)), some (.int (nI 0))] [] g P) : Rp (d + 1) M_X12_laysHolders 55 [some (.ref aM), some (.int (nI n)), none] [] g P := by
  refine Rp.iconst (nI 0) dX12_laysHolders_55 (by decide) ?_
  refine Rp.ist1 dX12_laysHolders_56 (by first | exact nl2_some rfl | exact nl2_none) (by decide) ?_
  refine Rp.iconst (nI 0) dX12_laysHolders_57 (by decide) ?_
  refine Rp.ist2 dX12_laysHolders_58 (by first | exact nl2_some rfl | exact nl2_none) (by decide) ?_
  exact k59
theorem s_laysHolders (S : ShOK h) (R : RfOK h) (V : VH (gI h 102) np nt) (hM : gI h 102 103 = nI np) (hT : gI h 102 104 = nI nt) : Rp (d + 1) M_X12_laysHolders 0 [some (.ref aM), none, none] [] h (fun r h' => r = none ∧ Fr lhX h h' ∧ LH h' (gI h 102) np nt) := by
  have v1 := V.1
  have S1 : ShOK (sI h 100 39 (nI 0)) := S
  have k7 := laysH7 d (h := h) (np := np) (P := fun r h' => r = none ∧ Fr lhX h h' ∧ LH h' (gI h 102) np nt) S R v1 hM (fun g F e39 e119 => laysH55 d (laysH59 d S R V hM hT nt 0 g (by omega) F e39 e119 (fun i q hi => by cases hi))) np 0 (sI h 100 39 (nI 0)) (by omega) (Fr.rfl'.sI rfl) (gI_hit _ _ _ _) (fun i q hi => by cases hi)
  refine Rp.aload_n dX12_laysHolders_0 rfl rfl ?_
  refine Rp.iconst (nI 0) dX12_laysHolders_1 (by decide) ?_
  refine Rp.putI dX12_laysHolders_2 fk_X12_405w rfl (S _ _ rfl) ?_
  refine Rp.iconst (nI 0) dX12_laysHolders_5 (by decide) ?_
  refine Rp.ist1 dX12_laysHolders_6 (by first | exact nl2_some rfl | exact nl2_none) (by decide) ?_
  exact k7
end Lh
