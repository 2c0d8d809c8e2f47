theorem bit_cl : ∀ U, U < 64 → ∀ i, i < 6 → Nat.testBit U i = true → (nI U &&& ((nI 1 <<< (nI i &&& 31)) ^^^ (-1))) = nI (U ^^^ 2 ^ i) ∧ U ^^^ 2 ^ i < 64 := by decide +kernel
theorem tb_cl : ∀ U, U < 64 → ∀ i, i < 6 → ∀ j, j < 6 → Nat.testBit U i = true → Nat.testBit (U ^^^ 2 ^ i) j = (Nat.testBit U j && decide (i ≠ j)) := by decide +kernel
theorem tb_hi {U q : Nat} (h : U < 64) (hq : 6 ≤ q) : Nat.testBit U q = false := Nat.testBit_lt_two_pow (Nat.lt_of_lt_of_le h (Nat.pow_le_pow_right (by decide) hq : 2 ^ 6 ≤ 2 ^ q))
theorem bit_o0 : ∀ U, U < 64 → (nI U ||| nI 0) = nI U := by decide +kernel
def lvX (k _j : Nat) : Bool := k == 122
def mpX (k j : Nat) : Bool := k == 123 || tlX k j
def mtX (k j : Nat) : Bool := k == 122 || mpX k j
theorem mtX_l {h g : AH} (F : Fr lvX h g) : Fr mtX h g := F.weak (fun k j hx => by unfold mtX at hx; rw [Bool.or_eq_false_iff] at hx; exact hx.1)
theorem mtX_p {h g : AH} (F : Fr mpX h g) : Fr mtX h g := F.weak (fun k j hx => by unfold mtX at hx; rw [Bool.or_eq_false_iff] at hx; exact hx.2)
theorem mpX_t {h g : AH} (F : Fr tlX h g) : Fr mpX h g := F.weak (fun k j hx => by unfold mpX at hx; rw [Bool.or_eq_false_iff] at hx; exact hx.2)
/-- met within k steps -/
def vis (f : Nat → Nat) (p k q : Nat) : Prop := ∃ i, i < k ∧ itF f i p = q
theorem vis_s {f : Nat → Nat} {p k q : Nat} : vis f p (k + 1) q ↔ vis f p k q ∨ itF f k p = q := by
  constructor
  · intro ⟨i, hi, e⟩
    by_cases c : i = k
    · exact Or.inr (by rw [← c]; exact e)
    · exact Or.inl ⟨i, by omega, e⟩
  · intro z
    rcases z with ⟨i, hi, e⟩ | e
    · exact ⟨i, by omega, e⟩
    · exact ⟨k, by omega, e⟩
section Ml
variable (d : Nat) {h0 : AH} {K gt : Nat → Int32} {f : Nat → Nat} {p n : Nat} {T lf : Nat → Bool}
theorem leaves5 (S0 : ShOK h0) (R0 : RfOK h0) (K0 : gI h0 102 = K) (hf : ∀ q, lf q = true → q < 6 ∧ lf (f q) = true ∧ gI h0 123 q = nI (f q)) (hp : lf p = true) (n1 : 1 ≤ n) (per : itF f n p = p) (mn : ∀ i, 1 ≤ i → i < n → itF f i p ≠ p) (orb : ∀ i, T (itF f i p) = true) (x2 : Int32) : ∀ (m k U : Nat) (g : AH), k + m = n → U < 64 → (∀ q, Nat.testBit U q = true ↔ T q = true ∧ ¬ vis f p k q) → (∀ q, q < 6 → (vis f p k q → gI g 122 q = K (f q)) ∧ (¬ vis f p k q → gI g 122 q = gt q)) → Fr lvX h0 g → Rp (d + 1) M_X12_leaves 5 [some (.ref aM), some (.int (nI p)), some (.int x2), some (.int (nI U)), some (.int (nI (itF f k p)))] [] g (fun r h' => ∃ U', r = some (.int (nI U')) ∧ U' < 64 ∧ (∀ q, Nat.testBit U' q = true ↔ T q = true ∧ ¬ vis f p n q) ∧ (∀ q, q < 6 → (vis f p n q → gI h' 122 q = K (f q)) ∧ (¬ vis f p n q → gI h' 122 q = gt q)) ∧ Fr lvX h0 h') := by
  have p6 := (hf p hp).1
  intro m
  induction m with
  | zero =>
    intro k U g hm hU hb ht F
    have e : k = n := by omega
    subst e
    have S := F.S S0
    have isn := s_isIn d (h := g) (nI U) (nI p)
    have bf : Nat.testBit U p = false := by
      cases c : Nat.testBit U p
      · rfl
      · exact absurd ⟨0, by omega, rfl⟩ ((hb p).1 c).2
    rw [show decide ((nI U) >>> (nI p &&& 31) &&& nI 1 = nI 1) = Nat.testBit U p from bit_tb U hU p p6, bf] at isn
    rw [per]
    refine Rp.iload_n dX12_leaves_5 rfl ?_
    refine Rp.iload dX12_leaves_6 rfl ?_
    refine Rp.callS2 M_X12_isIn dX12_leaves_8 mo_X12_isIn lk_X12_381 (Nat.le_of_ble_eq_true rfl) (Nat.le_of_ble_eq_true rfl) (isn) (fun v1 h1 p1 x1 => ?_)
    rw [p1.1, p1.2]
    try dsimp only [Option.toList, List.cons_append, List.nil_append, List.append]
    first | ((with_reducible show Rp _ _ _ _ (.int (b2i _) :: _) _ _); refine Rp.if_eqB (tgt := 56) dX12_leaves_11 (by decide) (fun c11 => ?_) (fun c11 => ?_)) | ((with_reducible show Rp _ _ _ _ (.int (nI _) :: _) _ _); refine Rp.if_eqN (tgt := 56) dX12_leaves_11 (by decide) (by omega) (fun c11 => ?_) (fun c11 => ?_)) | refine Rp.if_eq (tgt := 56) dX12_leaves_11 (by decide) (fun c11 => ?_) (fun c11 => ?_)
    · skip
      refine Rp.iload_n dX12_leaves_56 rfl ?_
      refine Rp.ireturn dX12_leaves_57 rfl ?_
      exact ⟨U, rfl, hU, hb, ht, F⟩
    · skip
      cases c11
  | succ m ih =>
    intro k U g hm hU hb ht F
    have S := F.S S0
    have R := F.R R0 (by decide)
    have la : lf (itF f k p) = true := itF_cl (fun q hq => (hf q hq).2.1) k p hp
    have ea : gI g 123 (itF f k p) = nI (f (itF f k p)) := (F.I 123 _ rfl).trans (hf _ la).2.2
    have a6 := (hf _ la).1
    have f6 := (hf _ (hf _ la).2.1).1
    have ek : gI g 102 (f (itF f k p)) = K (f (itF f k p)) := by rw [F.I 102 _ rfl, K0]
    have k1 := fun U1 => ih (k + 1) U1 (sI g 122 (itF f k p) (K (f (itF f k p)))) (by omega)
    have nv : ¬ vis f p k (itF f k p) := fun ⟨i, hi, e⟩ => mn (i + (n - k)) (by omega) (by omega) (by rw [itF_add, e, ← itF_add, show k + (n - k) = n by omega]; exact per)
    rw [itF_s] at k1
    have vs : ∀ q, vis f p (k + 1) q ↔ vis f p k q ∨ itF f k p = q := fun q => vis_s
    have oa := orb k
    generalize itF f k p = a at ea a6 f6 ek nv k1 vs oa la ⊢
    have ba : Nat.testBit U a = true := (hb a).2 ⟨oa, nv⟩
    have isn := s_isIn d (h := g) (nI U) (nI a)
    rw [show decide ((nI U) >>> (nI a &&& 31) &&& nI 1 = nI 1) = Nat.testBit U a from bit_tb U hU a a6, ba] at isn
    have cl := bit_cl U hU a a6 ba
    have k2 := k1 (U ^^^ 2 ^ a) cl.2 (fun q => by
      by_cases h6 : q < 6
      · rw [tb_cl U hU a a6 q h6 ba, Bool.and_eq_true, decide_eq_true_eq, hb q, vs q]
        exact ⟨fun z => ⟨z.1.1, fun y => y.elim z.1.2 z.2⟩, fun z => ⟨⟨z.1, fun y => z.2 (Or.inl y)⟩, fun y => z.2 (Or.inr y)⟩⟩
      · rw [tb_hi cl.2 (by omega)]
        have := hb q
        rw [tb_hi hU (by omega)] at this
        exact ⟨fun z => (by cases z), fun z => by have := this.2 ⟨z.1, fun y => z.2 ((vs q).2 (Or.inl y))⟩; cases this⟩) (fun q hq => by
      rw [gI_at, vs q]
      by_cases z : q = a
      · rw [if_pos z, z]
        exact ⟨fun _ => rfl, fun y => absurd (Or.inr rfl) y⟩
      · rw [if_neg z]
        exact ⟨fun y => (ht q hq).1 (y.resolve_right (fun w => z w.symm)), fun y => (ht q hq).2 (fun w => y (Or.inl w))⟩) (F.sI rfl)
    have S1 : ShOK (sI g 122 a (K (f a))) := S
    have R1 : RfOK (sI g 122 a (K (f a))) := R.put _ _ _
    have ea1 : gI (sI g 122 a (K (f a))) 123 a = nI (f a) := (gI_ne _ _ _ _ (by decide)).trans ea
    rw [← cl.1] at k2
    refine Rp.iload_n dX12_leaves_5 rfl ?_
    refine Rp.iload dX12_leaves_6 rfl ?_
    refine Rp.callS2 M_X12_isIn dX12_leaves_8 mo_X12_isIn lk_X12_381 (Nat.le_of_ble_eq_true rfl) (Nat.le_of_ble_eq_true rfl) (isn) (fun v1 h1 p1 x1 => ?_)
    rw [p1.1, p1.2]
    try dsimp only [Option.toList, List.cons_append, List.nil_append, List.append]
    first | ((with_reducible show Rp _ _ _ _ (.int (b2i _) :: _) _ _); refine Rp.if_eqB (tgt := 56) dX12_leaves_11 (by decide) (fun c11 => ?_) (fun c11 => ?_)) | ((with_reducible show Rp _ _ _ _ (.int (nI _) :: _) _ _); refine Rp.if_eqN (tgt := 56) dX12_leaves_11 (by decide) (by omega) (fun c11 => ?_) (fun c11 => ?_)) | refine Rp.if_eq (tgt := 56) dX12_leaves_11 (by decide) (fun c11 => ?_) (fun c11 => ?_)
    · skip
      cases c11
    · skip
      refine Rp.aload_n dX12_leaves_14 rfl rfl ?_
      refine Rp.getR dX12_leaves_15 fk_X12_89 rfl (S _ _ rfl) (R _ _ _ rfl) ?_
      refine Rp.iload dX12_leaves_18 rfl ?_
      refine Rp.aload_n dX12_leaves_20 rfl rfl ?_
      refine Rp.getR dX12_leaves_21 fk_X12_24 rfl (S _ _ rfl) (R _ _ _ rfl) ?_
      refine Rp.iconst (nI 0) dX12_leaves_24 (by decide) ?_
      refine Rp.aload_n dX12_leaves_25 rfl rfl ?_
      refine Rp.getR dX12_leaves_26 fk_X12_92 rfl (S _ _ rfl) (R _ _ _ rfl) ?_
      refine Rp.iload dX12_leaves_29 rfl ?_
      first | ((with_reducible show Rp _ _ _ _ (.int (nI _) :: _) _ _); refine Rp.ialoadN dX12_leaves_31 (S _ _ rfl) (by omega) ?_) | refine Rp.iaload dX12_leaves_31 (S _ _ rfl) (by first | assumption | exact vpb (by decide)) ?_
      first | rw [ea] | rw [ek] | rw [ea1] | skip
      first | ((with_reducible show Rp _ _ _ _ (.int (nI _) :: .int (nI _) :: _) _ _); refine Rp.iaddN dX12_leaves_32 ?_) | refine Rp.iadd dX12_leaves_32 ?_
      rw [Nat.zero_add]
      first | ((with_reducible show Rp _ _ _ _ (.int (nI _) :: _) _ _); refine Rp.ialoadN dX12_leaves_33 (S _ _ rfl) (by omega) ?_) | refine Rp.iaload dX12_leaves_33 (S _ _ rfl) (by first | assumption | exact vpb (by decide)) ?_
      first | rw [ea] | rw [ek] | rw [ea1] | skip
      first | ((with_reducible show Rp _ _ _ _ (_ :: .int (nI _) :: _) _ _); refine Rp.iastoreN dX12_leaves_34 (S _ _ rfl) (by omega) ?_) | refine Rp.iastore dX12_leaves_34 (S _ _ rfl) (by first | assumption | exact vpb (by decide)) ?_
      refine Rp.iload_n dX12_leaves_35 rfl ?_
      refine Rp.iconst (nI 1) dX12_leaves_36 (by decide) ?_
      refine Rp.iload dX12_leaves_37 rfl ?_
      refine Rp.ishl dX12_leaves_39 ?_
      refine Rp.iconst (-1) dX12_leaves_40 (by decide) ?_
      refine Rp.ixor dX12_leaves_41 ?_
      refine Rp.iand dX12_leaves_42 ?_
      refine Rp.ist3 dX12_leaves_43 (by first | exact nl2_some rfl | exact nl2_none) (by decide) ?_
      refine Rp.aload_n dX12_leaves_44 rfl rfl ?_
      refine Rp.getR dX12_leaves_45 fk_X12_92 rfl (S1 _ _ rfl) (R1 _ _ _ rfl) ?_
      refine Rp.iload dX12_leaves_48 rfl ?_
      first | ((with_reducible show Rp _ _ _ _ (.int (nI _) :: _) _ _); refine Rp.ialoadN dX12_leaves_50 (S1 _ _ rfl) (by omega) ?_) | refine Rp.iaload dX12_leaves_50 (S1 _ _ rfl) (by first | assumption | exact vpb (by decide)) ?_
      first | rw [ea] | rw [ek] | rw [ea1] | skip
      refine Rp.ist4 dX12_leaves_51 (by first | exact nl2_some rfl | exact nl2_none) (by decide) ?_
      refine Rp.goto (tgt := 5) dX12_leaves_53 (by decide) ?_
      exact k2
/-- a ring leaves -/
theorem s_leaves (S0 : ShOK h0) (R0 : RfOK h0) (K0 : gI h0 102 = K) (hf : ∀ q, lf q = true → q < 6 ∧ lf (f q) = true ∧ gI h0 123 q = nI (f q)) (hp : lf p = true) (ho : onR f p = true) (orb : ∀ i, T (itF f i p) = true) {U : Nat} (hU : U < 64) (hb : ∀ q, Nat.testBit U q = T q) (ht : ∀ q, q < 6 → gI h0 122 q = gt q) : Rp (d + 1) M_X12_leaves 0 [some (.ref aM), some (.int (nI p)), some (.int (nI U)), none, none] [] h0 (fun r h' => ∃ U', r = some (.int (nI U')) ∧ U' < 64 ∧ (∀ q, Nat.testBit U' q = true ↔ T q = true ∧ ¬ ∃ i, itF f i p = q) ∧ (∀ q, q < 6 → ((∃ i, itF f i p = q) → gI h' 122 q = K (f q)) ∧ ((¬ ∃ i, itF f i p = q) → gI h' 122 q = gt q)) ∧ Fr lvX h0 h') := by
  obtain ⟨n, n1, n7, per, mn⟩ := onR_per ho
  have v : ∀ q, vis f p n q ↔ ∃ i, itF f i p = q := fun q => ⟨fun ⟨i, _, e⟩ => ⟨i, e⟩, fun ⟨i, e⟩ => ⟨i % n, Nat.mod_lt _ (by omega), by rw [← itF_mod per]; exact e⟩⟩
  have k5 := leaves5 d (gt := gt) S0 R0 K0 hf hp n1 per mn orb (nI U) n 0 U h0 (by omega) hU (fun q => by
    rw [hb q]
    exact ⟨fun z => ⟨z, fun ⟨i, hi, _⟩ => absurd hi (Nat.not_lt_zero _)⟩, fun z => z.1⟩) (fun q hq => ⟨fun ⟨i, hi, _⟩ => absurd hi (Nat.not_lt_zero _), fun _ => ht q hq⟩) Fr.rfl'
  have k5 := Rp.mono (Q := fun r h' => ∃ U', r = some (.int (nI U')) ∧ U' < 64 ∧ (∀ q, Nat.testBit U' q = true ↔ T q = true ∧ ¬ ∃ i, itF f i p = q) ∧ (∀ q, q < 6 → ((∃ i, itF f i p = q) → gI h' 122 q = K (f q)) ∧ ((¬ ∃ i, itF f i p = q) → gI h' 122 q = gt q)) ∧ Fr lvX h0 h') (fun r h' ⟨U', e1, e2, e3, e4, e5⟩ => ⟨U', e1, e2, fun q => by rw [← v q]; exact e3 q, fun q hq => by rw [← v q]; exact e4 q hq, e5⟩) k5
  rw [itF] at k5
  refine Rp.iload_n dX12_leaves_0 rfl ?_
  refine Rp.ist3 dX12_leaves_1 (by first | exact nl2_some rfl | exact nl2_none) (by decide) ?_
  refine Rp.iload_n dX12_leaves_2 rfl ?_
  refine Rp.ist4 dX12_leaves_3 (by first | exact nl2_some rfl | exact nl2_none) (by decide) ?_
  exact k5
end Ml
