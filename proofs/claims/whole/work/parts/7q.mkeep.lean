/-- the reference's rows of what was, the oldest first -/
def LGm (h : AH) (US : List (Nat → Int32)) : Prop := US.length ≤ 16 ∧ gI h 100 32 = nI US.length ∧ ∀ i r, US[i]? = some r → ∀ j, j < 8 → gI h 113 (8 * i + j) = r j
def rwF (K : Nat → Int32) (o : Nat) : Nat → Int32 := fun j => if j = 7 then nI o else K j
def lgU (US : List (Nat → Int32)) (r : Nat → Int32) : List (Nat → Int32) := if US.length = 16 then US.tail ++ [r] else US ++ [r]
def kpX (k j : Nat) : Bool := k == 113 || (k == 100 && j == 32)
section Kp
variable (d : Nat) {h : AH}
theorem kp14 {P : Option Value → AH → Prop} (S0 : ShOK h) (R0 : RfOK h) (o : Int32) (kk : ∀ g, Fr kpX h g → gI g 100 32 = gI h 100 32 → (∀ i, i < 120 → gI g 113 i = gI h 113 (i + 8)) → Rp d M_X12_keeps 42 [some (.ref aM), some (.int o), some (.int (nI 8)), some (.int (nI 120))] [] g P) : ∀ (m k : Nat) (g : AH), k + m = 120 → Fr kpX h g → gI g 100 32 = gI h 100 32 → (∀ i, i < k → gI g 113 i = gI h 113 (i + 8)) → (∀ i, k ≤ i → gI g 113 i = gI h 113 i) → Rp d M_X12_keeps 14 [some (.ref aM), some (.int o), some (.int (nI 8)), some (.int (nI k))] [] g P := by
  intro m
  induction m with
  | zero =>
    intro k g hk F e32 h1 h2
    have e : k = 120 := by omega
    subst e
    have k1 := kk g F e32 h1
    refine Rp.iload_n dX12_keeps_14 rfl ?_
    refine Rp.bipush (nI 15) dX12_keeps_15 (by decide) ?_
    refine Rp.iload_n dX12_keeps_17 rfl ?_
    first | ((with_reducible show Rp _ _ _ _ (.int (nI _) :: .int (nI _) :: _) _ _); refine Rp.imulN dX12_keeps_18 ?_) | refine Rp.imul dX12_keeps_18 ?_
    first | ((with_reducible show Rp _ _ _ _ (.int (nI _) :: .int (nI _) :: _) _ _); refine Rp.icmp_geN (tgt := 42) dX12_keeps_19 (by decide) (by omega) (fun c19 => ?_) (fun c19 => ?_)) | refine Rp.icmp_ge (tgt := 42) dX12_keeps_19 (by decide) (fun c19 => ?_) (fun c19 => ?_)
    · skip
      exact k1
    · skip
      first | (exfalso; omega) | exact absurd c19 (by decide) | exact absurd (by decide) c19
  | succ m ih =>
    intro k g hk F e32 h1 h2
    have S := F.S S0
    have R := F.R R0 (by decide)
    have e8 := h2 (k + 8) (by omega)
    have k1 := ih (k + 1) (sI g 113 k (gI h 113 (k + 8))) (by omega) (F.sI rfl) (by rw [gI_ne _ _ _ _ (by decide)]; exact e32) (fun i hi => by
      by_cases z : i = k
      · rw [z, gI_hit]
      · rw [gI_off _ _ _ z]; exact h1 i (by omega)) (fun i hi => by rw [gI_off _ _ _ (by omega)]; exact h2 i (by omega))
    refine Rp.iload_n dX12_keeps_14 rfl ?_
    refine Rp.bipush (nI 15) dX12_keeps_15 (by decide) ?_
    refine Rp.iload_n dX12_keeps_17 rfl ?_
    first | ((with_reducible show Rp _ _ _ _ (.int (nI _) :: .int (nI _) :: _) _ _); refine Rp.imulN dX12_keeps_18 ?_) | refine Rp.imul dX12_keeps_18 ?_
    first | ((with_reducible show Rp _ _ _ _ (.int (nI _) :: .int (nI _) :: _) _ _); refine Rp.icmp_geN (tgt := 42) dX12_keeps_19 (by decide) (by omega) (fun c19 => ?_) (fun c19 => ?_)) | refine Rp.icmp_ge (tgt := 42) dX12_keeps_19 (by decide) (fun c19 => ?_) (fun c19 => ?_)
    · skip
      first | (exfalso; omega) | exact absurd c19 (by decide) | exact absurd (by decide) c19
    · skip
      refine Rp.aload_n dX12_keeps_22 rfl rfl ?_
      refine Rp.getR dX12_keeps_23 fk_X12_62 rfl (S _ _ rfl) (R _ _ _ rfl) ?_
      refine Rp.iload_n dX12_keeps_26 rfl ?_
      refine Rp.aload_n dX12_keeps_27 rfl rfl ?_
      refine Rp.getR dX12_keeps_28 fk_X12_62 rfl (S _ _ rfl) (R _ _ _ rfl) ?_
      refine Rp.iload_n dX12_keeps_31 rfl ?_
      refine Rp.iload_n dX12_keeps_32 rfl ?_
      first | ((with_reducible show Rp _ _ _ _ (.int (nI _) :: .int (nI _) :: _) _ _); refine Rp.iaddN dX12_keeps_33 ?_) | refine Rp.iadd dX12_keeps_33 ?_
      first | ((with_reducible show Rp _ _ _ _ (.int (nI _) :: _) _ _); refine Rp.ialoadN dX12_keeps_34 (S _ _ rfl) (by omega) ?_) | refine Rp.iaload dX12_keeps_34 (S _ _ rfl) (by first | assumption | exact vpb (by decide)) ?_
      first | rw [e8] | skip
      first | ((with_reducible show Rp _ _ _ _ (_ :: .int (nI _) :: _) _ _); refine Rp.iastoreN dX12_keeps_35 (S _ _ rfl) (by omega) ?_) | refine Rp.iastore dX12_keeps_35 (S _ _ rfl) (by first | assumption | exact vpb (by decide)) ?_
      first | ((with_reducible show Rp _ _ _ (_ :: _ :: _ :: some (.int (nI _)) :: _) _ _ _); refine Rp.inc3N (c := 1) dX12_keeps_36 (by first | exact nl2_some rfl | exact nl2_none) (by decide) ?_) | refine Rp.inc3 _ dX12_keeps_36 rfl (by first | exact nl2_some rfl | exact nl2_none) (by decide) ?_
      refine Rp.goto (tgt := 14) dX12_keeps_39 (by decide) ?_
      exact k1
theorem kp54 (S0 : ShOK h) (R0 : RfOK h) {o : Nat} {US : List (Nat → Int32)} (h16 : US.length < 16) (e32 : gI h 100 32 = nI US.length) : ∀ (m k : Nat) (g : AH), k + m = 7 → Fr kpX h g → gI g 100 32 = nI US.length → (∀ i, i < 8 * US.length → gI g 113 i = gI h 113 i) → (∀ j, j < k → gI g 113 (8 * US.length + j) = gI h 102 j) → Rp d M_X12_keeps 54 [some (.ref aM), some (.int (nI o)), some (.int (nI 8)), some (.int (nI k))] [] g (fun r h' => r = none ∧ Fr kpX h h' ∧ gI h' 100 32 = nI (US.length + 1) ∧ (∀ i, i < 8 * US.length → gI h' 113 i = gI h 113 i) ∧ (∀ j, j < 8 → gI h' 113 (8 * US.length + j) = rwF (gI h 102) o j)) := by
  intro m
  induction m with
  | zero =>
    intro k g hk F eg h1 h2
    have e : k = 7 := by omega
    subst e
    have S := F.S S0
    have R := F.R R0 (by decide)
    have eg2 : ∀ x, gI (sI g 113 (8 * US.length + 7) x) 100 32 = nI US.length := fun x => by rw [gI_ne _ _ _ _ (by decide)]; exact eg
    refine Rp.iload_n dX12_keeps_54 rfl ?_
    refine Rp.bipush (nI 7) dX12_keeps_55 (by decide) ?_
    first | ((with_reducible show Rp _ _ _ _ (.int (nI _) :: .int (nI _) :: _) _ _); refine Rp.icmp_geN (tgt := 85) dX12_keeps_57 (by decide) (by omega) (fun c57 => ?_) (fun c57 => ?_)) | refine Rp.icmp_ge (tgt := 85) dX12_keeps_57 (by decide) (fun c57 => ?_) (fun c57 => ?_)
    rotate_left
    · first | (exfalso; omega) | exact absurd c57 (by decide) | exact absurd (by decide) c57
    refine Rp.aload_n dX12_keeps_85 rfl rfl ?_
    refine Rp.getR dX12_keeps_86 fk_X12_62 rfl (S _ _ rfl) (R _ _ _ rfl) ?_
    refine Rp.iload_n dX12_keeps_89 rfl ?_
    refine Rp.aload_n dX12_keeps_90 rfl rfl ?_
    refine Rp.getI dX12_keeps_91 fk_X12_11 rfl (S _ _ rfl) ?_
    first | rw [eg] | rw [eg2] | skip
    first | ((with_reducible show Rp _ _ _ _ (.int (nI _) :: .int (nI _) :: _) _ _); refine Rp.imulN dX12_keeps_94 ?_) | refine Rp.imul dX12_keeps_94 ?_
    refine Rp.bipush (nI 7) dX12_keeps_95 (by decide) ?_
    first | ((with_reducible show Rp _ _ _ _ (.int (nI _) :: .int (nI _) :: _) _ _); refine Rp.iaddN dX12_keeps_97 ?_) | refine Rp.iadd dX12_keeps_97 ?_
    refine Rp.iload_n dX12_keeps_98 rfl ?_
    first | ((with_reducible show Rp _ _ _ _ (_ :: .int (nI _) :: _) _ _); refine Rp.iastoreN dX12_keeps_99 (S _ _ rfl) (by omega) ?_) | refine Rp.iastore dX12_keeps_99 (S _ _ rfl) (by first | assumption | exact vpb (by decide)) ?_
    refine Rp.aload_n dX12_keeps_100 rfl rfl ?_
    refine Rp.dup dX12_keeps_101 rfl ?_
    refine Rp.getI dX12_keeps_102 fk_X12_11 rfl (S _ _ rfl) ?_
    first | rw [eg] | rw [eg2] | skip
    refine Rp.iconst (nI 1) dX12_keeps_105 (by decide) ?_
    first | ((with_reducible show Rp _ _ _ _ (.int (nI _) :: .int (nI _) :: _) _ _); refine Rp.iaddN dX12_keeps_106 ?_) | refine Rp.iadd dX12_keeps_106 ?_
    refine Rp.putI dX12_keeps_107 fk_X12_11w rfl (S _ _ rfl) ?_
    skip
    refine Rp.vreturn dX12_keeps_110 rfl ?_
    refine ⟨rfl, (F.sI rfl).sI rfl, gI_hit _ _ _ _, fun i hi => by rw [gI_ne _ _ _ _ (by decide), gI_off _ _ _ (by omega)]; exact h1 i hi, fun j hj => ?_⟩
    rw [gI_ne _ _ _ _ (by decide)]
    unfold rwF
    by_cases z : j = 7
    · rw [z, gI_hit, if_pos rfl]
    · rw [gI_off _ _ _ (by omega), if_neg z]; exact h2 j (by omega)
  | succ m ih =>
    intro k g hk F eg h1 h2
    have S := F.S S0
    have R := F.R R0 (by decide)
    have ek : gI g 102 k = gI h 102 k := F.I 102 k rfl
    have k1 := ih (k + 1) (sI g 113 (8 * US.length + k) (gI h 102 k)) (by omega) (F.sI rfl) (by rw [gI_ne _ _ _ _ (by decide)]; exact eg) (fun i hi => by rw [gI_off _ _ _ (by omega)]; exact h1 i hi) (fun j hj => by
      by_cases z : j = k
      · rw [z, gI_hit]
      · rw [gI_off _ _ _ (by omega)]; exact h2 j (by omega))
    refine Rp.iload_n dX12_keeps_54 rfl ?_
    refine Rp.bipush (nI 7) dX12_keeps_55 (by decide) ?_
    first | ((with_reducible show Rp _ _ _ _ (.int (nI _) :: .int (nI _) :: _) _ _); refine Rp.icmp_geN (tgt := 85) dX12_keeps_57 (by decide) (by omega) (fun c57 => ?_) (fun c57 => ?_)) | refine Rp.icmp_ge (tgt := 85) dX12_keeps_57 (by decide) (fun c57 => ?_) (fun c57 => ?_)
    · skip
      first | (exfalso; omega) | exact absurd c57 (by decide) | exact absurd (by decide) c57
    · skip
      refine Rp.aload_n dX12_keeps_60 rfl rfl ?_
      refine Rp.getR dX12_keeps_61 fk_X12_62 rfl (S _ _ rfl) (R _ _ _ rfl) ?_
      refine Rp.iload_n dX12_keeps_64 rfl ?_
      refine Rp.aload_n dX12_keeps_65 rfl rfl ?_
      refine Rp.getI dX12_keeps_66 fk_X12_11 rfl (S _ _ rfl) ?_
      first | rw [eg] | rw [ek] | skip
      first | ((with_reducible show Rp _ _ _ _ (.int (nI _) :: .int (nI _) :: _) _ _); refine Rp.imulN dX12_keeps_69 ?_) | refine Rp.imul dX12_keeps_69 ?_
      refine Rp.iload_n dX12_keeps_70 rfl ?_
      first | ((with_reducible show Rp _ _ _ _ (.int (nI _) :: .int (nI _) :: _) _ _); refine Rp.iaddN dX12_keeps_71 ?_) | refine Rp.iadd dX12_keeps_71 ?_
      refine Rp.aload_n dX12_keeps_72 rfl rfl ?_
      refine Rp.getR dX12_keeps_73 fk_X12_24 rfl (S _ _ rfl) (R _ _ _ rfl) ?_
      refine Rp.iload_n dX12_keeps_76 rfl ?_
      first | ((with_reducible show Rp _ _ _ _ (.int (nI _) :: _) _ _); refine Rp.ialoadN dX12_keeps_77 (S _ _ rfl) (by omega) ?_) | refine Rp.iaload dX12_keeps_77 (S _ _ rfl) (by first | assumption | exact vpb (by decide)) ?_
      first | rw [eg] | rw [ek] | skip
      first | ((with_reducible show Rp _ _ _ _ (_ :: .int (nI _) :: _) _ _); refine Rp.iastoreN dX12_keeps_78 (S _ _ rfl) (by omega) ?_) | refine Rp.iastore dX12_keeps_78 (S _ _ rfl) (by first | assumption | exact vpb (by decide)) ?_
      first | ((with_reducible show Rp _ _ _ (_ :: _ :: _ :: some (.int (nI _)) :: _) _ _ _); refine Rp.inc3N (c := 1) dX12_keeps_79 (by first | exact nl2_some rfl | exact nl2_none) (by decide) ?_) | refine Rp.inc3 _ dX12_keeps_79 rfl (by first | exact nl2_some rfl | exact nl2_none) (by decide) ?_
      refine Rp.goto (tgt := 54) dX12_keeps_82 (by decide) ?_
      exact k1
theorem s_keeps (S : ShOK h) (R : RfOK h) {US : List (Nat → Int32)} (L : LGm h US) (o : Nat) : Rp d M_X12_keeps 0 [some (.ref aM), some (.int (nI o)), none, none] [] h (fun r h' => r = none ∧ Fr kpX h h' ∧ LGm h' (lgU US (rwF (gI h 102) o))) := by
  obtain ⟨l1, l2, l3⟩ := L
  have fin : ∀ (g : AH) (V : List (Nat → Int32)), Fr kpX h g → V.length < 16 → gI g 100 32 = nI V.length → (∀ i r, V[i]? = some r → ∀ j, j < 8 → gI g 113 (8 * i + j) = r j) → Rp d M_X12_keeps 54 [some (.ref aM), some (.int (nI o)), some (.int (nI 8)), some (.int (nI 0))] [] g (fun r h' => r = none ∧ Fr kpX h h' ∧ LGm h' (V ++ [rwF (gI h 102) o])) := by
    intro g V F hV eV hR
    have k1 := kp54 d (F.S S) (F.R R (by decide)) (o := o) (US := V) hV eV 7 0 g (by decide) Fr.rfl' eV (fun i _ => rfl) (fun j hj => absurd hj (Nat.not_lt_zero _))
    refine Rp.mono (fun r h' p => ?_) k1
    obtain ⟨p0, p1, p2, p3, p4⟩ := p
    refine ⟨p0, F.trans p1, by rw [List.length_append, List.length_singleton]; omega, by rw [p2, List.length_append, List.length_singleton], fun i r hi j hj => ?_⟩
    have eK : gI g 102 = gI h 102 := funext fun j => F.I 102 j rfl
    by_cases z : i < V.length
    · rw [List.getElem?_append_left z] at hi
      rw [p3 _ (by omega)]; exact hR i r hi j hj
    · rw [List.getElem?_append_right (by omega)] at hi
      have : i = V.length := by
        have := (List.getElem?_eq_some_iff.mp hi).1
        rw [List.length_singleton] at this; omega
      subst this
      rw [Nat.sub_self] at hi
      cases hi
      rw [p4 j hj, eK]
  unfold lgU
  by_cases hq : US.length = 16
  · rw [if_pos hq]
    have e32 : gI h 100 32 = nI 16 := by rw [l2, hq]
    have k2 : ∀ g, Fr kpX h g → gI g 100 32 = gI h 100 32 → (∀ i, i < 120 → gI g 113 i = gI h 113 (i + 8)) → Rp d M_X12_keeps 42 [some (.ref aM), some (.int (nI o)), some (.int (nI 8)), some (.int (nI 120))] [] g (fun r h' => r = none ∧ Fr kpX h h' ∧ LGm h' (US.tail ++ [rwF (gI h 102) o])) := by
      intro g F eg h1
      have S1 := F.S S
      have eg : gI g 100 32 = nI 16 := eg.trans e32
      have k3 := fin (sI g 100 32 (nI 15)) US.tail (F.sI rfl) (by rw [List.length_tail]; omega) (by rw [gI_hit, List.length_tail, hq]) (fun i r hi j hj => by
        have hi2 := (List.getElem?_eq_some_iff.mp hi).1
        rw [List.length_tail] at hi2
        rw [List.getElem?_tail] at hi
        rw [gI_ne _ _ _ _ (by decide), h1 _ (by omega), show 8 * i + j + 8 = 8 * (i + 1) + j by omega]
        exact l3 (i + 1) r hi j hj)
      refine Rp.aload_n dX12_keeps_42 rfl rfl ?_
      refine Rp.dup dX12_keeps_43 rfl ?_
      refine Rp.getI dX12_keeps_44 fk_X12_11 rfl (S1 _ _ rfl) ?_
      first | rw [eg] | skip
      refine Rp.iconst (nI 1) dX12_keeps_47 (by decide) ?_
      first | ((with_reducible show Rp _ _ _ _ (.int (nI _) :: .int (nI _) :: _) _ _); refine Rp.isubN dX12_keeps_48 (by omega) ?_) | refine Rp.isub dX12_keeps_48 ?_
      refine Rp.putI dX12_keeps_49 fk_X12_11w rfl (S1 _ _ rfl) ?_
      refine Rp.iconst (nI 0) dX12_keeps_52 (by decide) ?_
      refine Rp.ist3 dX12_keeps_53 (by first | exact nl2_some rfl | exact nl2_none) (by decide) ?_
      exact k3
    have k1 := kp14 d S R (nI o) k2 120 0 h (by decide) Fr.rfl' rfl (fun i hi => absurd hi (Nat.not_lt_zero _)) (fun i _ => rfl)
    refine Rp.bipush (nI 8) dX12_keeps_0 (by decide) ?_
    refine Rp.ist2 dX12_keeps_2 (by first | exact nl2_some rfl | exact nl2_none) (by decide) ?_
    refine Rp.aload_n dX12_keeps_3 rfl rfl ?_
    refine Rp.getI dX12_keeps_4 fk_X12_11 rfl (S _ _ rfl) ?_
    first | rw [e32] | skip
    refine Rp.bipush (nI 16) dX12_keeps_7 (by decide) ?_
    first | ((with_reducible show Rp _ _ _ _ (.int (nI _) :: .int (nI _) :: _) _ _); refine Rp.icmp_neN (tgt := 52) dX12_keeps_9 (by decide) (by omega) (fun c9 => ?_) (fun c9 => ?_)) | refine Rp.icmp_ne (tgt := 52) dX12_keeps_9 (by decide) (fun c9 => ?_) (fun c9 => ?_)
    · skip
      first | (exfalso; omega) | exact absurd c9 (by decide) | exact absurd (by decide) c9
    · skip
      refine Rp.iconst (nI 0) dX12_keeps_12 (by decide) ?_
      refine Rp.ist3 dX12_keeps_13 (by first | exact nl2_some rfl | exact nl2_none) (by decide) ?_
      exact k1
  · rw [if_neg hq]
    have k1 := fin h US Fr.rfl' (by omega) l2 l3
    refine Rp.bipush (nI 8) dX12_keeps_0 (by decide) ?_
    refine Rp.ist2 dX12_keeps_2 (by first | exact nl2_some rfl | exact nl2_none) (by decide) ?_
    refine Rp.aload_n dX12_keeps_3 rfl rfl ?_
    refine Rp.getI dX12_keeps_4 fk_X12_11 rfl (S _ _ rfl) ?_
    first | rw [l2] | skip
    refine Rp.bipush (nI 16) dX12_keeps_7 (by decide) ?_
    first | ((with_reducible show Rp _ _ _ _ (.int (nI _) :: .int (nI _) :: _) _ _); refine Rp.icmp_neN (tgt := 52) dX12_keeps_9 (by decide) (by omega) (fun c9 => ?_) (fun c9 => ?_)) | refine Rp.icmp_ne (tgt := 52) dX12_keeps_9 (by decide) (fun c9 => ?_) (fun c9 => ?_)
    · skip
      refine Rp.iconst (nI 0) dX12_keeps_52 (by decide) ?_
      refine Rp.ist3 dX12_keeps_53 (by first | exact nl2_some rfl | exact nl2_none) (by decide) ?_
      exact k1
    · skip
      first | (exfalso; omega) | exact absurd c9 (by decide) | exact absurd (by decide) c9
end Kp
