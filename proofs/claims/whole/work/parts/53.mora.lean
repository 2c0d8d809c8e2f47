/-- the numbers that a kept array may hold -/
def KB (K : Nat → Int32) : Prop := (∀ p, p < 6 → ∃ x, x < 5 ∧ K (7 + p) = nI x) ∧ (∀ p, p < 6 → ∃ x, x < 100 ∧ K (13 + p) = nI x) ∧ (∀ t, t < 8 → ∃ x, x < 100 ∧ K (67 + t) = nI x) ∧ (∀ t, t < 8 → ∃ x, x < 5 ∧ K (75 + t) = nI x) ∧ (∀ e, e < 3 → ∃ x, x < 10 ∧ K (86 + e) = nI x) ∧ (∃ x, x < 1000 ∧ K 6 = nI x) ∧ (∃ x, x < 10 ∧ K 102 = nI x)
theorem nI_bnd {n : Nat} (h : n < 1000) : -1000000000 ≤ (nI n).toInt ∧ (nI n).toInt ≤ 1000000000 := by
  rw [nI_toInt (by omega)]
  omega
theorem m1_bnd : -1000000000 ≤ (-1 : Int32).toInt ∧ (-1 : Int32).toInt ≤ 1000000000 := by decide
theorem wJ_bnd {K : Nat → Int32} (B : KB K) {p : Nat} (hp : p < 6) {t e : Option Nat} (ht : ∀ x, t = some x → x < 8) (he : ∀ x, e = some x → x < 3) (j : Nat) : -1000000000 ≤ (wJ K p t e j).toInt ∧ (wJ K p t e j).toInt ≤ 1000000000 := by
  obtain ⟨b1, b2, b3, b4, b5, b6, b7⟩ := B
  match j with
  | 0 => exact nI_bnd (show p < 1000 by omega)
  | 1 =>
    obtain ⟨x, hx, e⟩ := b1 p hp
    show _ ≤ (K (7 + p)).toInt ∧ (K (7 + p)).toInt ≤ _
    rw [e]; exact nI_bnd (by omega)
  | 2 =>
    obtain ⟨x, hx, e⟩ := b2 p hp
    show _ ≤ (K (13 + p)).toInt ∧ (K (13 + p)).toInt ≤ _
    rw [e]; exact nI_bnd (by omega)
  | 3 =>
    cases t with
    | none => exact m1_bnd
    | some t => have := ht t rfl; exact nI_bnd (show t < 1000 by omega)
  | 4 =>
    cases t with
    | none => exact m1_bnd
    | some t =>
      obtain ⟨x, hx, e⟩ := b3 t (ht t rfl)
      show _ ≤ (K (67 + t)).toInt ∧ (K (67 + t)).toInt ≤ _
      rw [e]; exact nI_bnd (by omega)
  | 5 =>
    cases t with
    | none => exact m1_bnd
    | some t =>
      obtain ⟨x, hx, e⟩ := b4 t (ht t rfl)
      show _ ≤ (K (75 + t)).toInt ∧ (K (75 + t)).toInt ≤ _
      rw [e]; exact nI_bnd (by omega)
  | 6 =>
    cases e with
    | none => exact m1_bnd
    | some e =>
      obtain ⟨x, hx, e1⟩ := b5 e (he e rfl)
      show _ ≤ (K (86 + e)).toInt ∧ (K (86 + e)).toInt ≤ _
      rw [e1]; exact nI_bnd (by omega)
  | 7 =>
    obtain ⟨x, hx, e⟩ := b6
    show _ ≤ (K 6).toInt ∧ (K 6).toInt ≤ _
    rw [e]; exact nI_bnd (by omega)
  | 8 =>
    obtain ⟨x, hx, e⟩ := b7
    show _ ≤ (K 102).toInt ∧ (K 102).toInt ≤ _
    rw [e]; exact nI_bnd (by omega)
  | j + 9 => exact ⟨(by decide : (-1000000000 : Int) ≤ (0 : Int32).toInt), (by decide : (0 : Int32).toInt ≤ 1000000000)⟩
/-- the answers of the law in force -/
def spE (K : Nat → Int32) (e : Nat) : Nat := (K (86 + e)).toInt.toNat
def oTk (K : Nat → Int32) (fl : Option (List CLE)) (p t e : Nat) : Nat := tlO fl 1 1 60 (wJ K p (some t) (some e)) (1 + 20 / spE K e)
def oCs (K : Nat → Int32) (fl : Option (List CLE)) (p : Nat) : Nat := tlO fl 2 0 9 (wJ K p none none) 1
def oFt (K : Nat → Int32) (fl : Option (List CLE)) (p t : Nat) : Bool := decide (K (75 + t) = K (7 + p)) || decide (tlO fl 3 0 1 (wJ K p (some t) none) 0 = 1)
def oBr (K : Nat → Int32) (fl : Option (List CLE)) (p t : Nat) : Bool := decide (tlO fl 4 0 1 (wJ K p (some t) none) 0 = 1)
theorem sm8 {t : Nat} (h : t < 8) : ∀ x, some t = some x → x < 8 := fun x e => by cases e; exact h
theorem sm3 {t : Nat} (h : t < 3) : ∀ x, some t = some x → x < 3 := fun x e => by cases e; exact h
theorem sn {n : Nat} : ∀ x, (none : Option Nat) = some x → x < n := fun x e => nomatch e
section Or
variable (d : Nat) {h : AH} {fl : Option (List CLE)}
theorem tlN_le {hd lo hi : Nat} {w : Nat → Int32} {m : Nat} (h1 : lo ≤ hi) (h2 : hi ≤ m) : ∀ (L : List CLE) (told : Nat), told ≤ m → tlN hd lo hi w told L ≤ m
  | [], told, ht => ht
  | e :: r, told, ht => tlN_le h1 h2 r _ (tlS_le h1 ht h2)
theorem tlO_le {hd lo hi : Nat} {w : Nat → Int32} {m wo : Nat} (h1 : lo ≤ hi) (h2 : hi ≤ m) (h3 : wo ≤ m) : tlO fl hd lo hi w wo ≤ m := by
  match fl with
  | none => exact h3
  | some L => exact tlN_le h1 h2 L wo h3
theorem idiv_nI {a b : Nat} (ha : a < 2147483648) (hb : b < 2147483648) (h0 : 0 < b) : nI a / nI b = nI (a / b) := by
  have hd : a / b ≤ a := Nat.div_le_self a b
  rw [i32_eq, lg_idiv_nonneg (by rw [nI_toInt ha]; omega) (by rw [nI_toInt hb]; omega), nI_toInt ha, nI_toInt hb, nI_toInt (by omega)]
  rfl
theorem s_takesAt (S : ShOK h) (R : RfOK h) (hF : FlK (gI h am_kept) fl) (B : KB (gI h am_kept)) {p t e : Nat} (hp : p < 6) (ht : t < 8) (he : e < 3) (hs : gI h am_kept (86 + e) ≠ nI 0) : Rp (d + 75) M_X12_takesAt 0 [some (.ref aM), some (.int (nI p)), some (.int (nI t)), some (.int (nI e))] [] h (fun r h' => Fr tlX h h' ∧ r = some (.int (nI (oTk (gI h am_kept) fl p t e)))) := by
  obtain ⟨x, hx, ex⟩ := B.2.2.2.2.1 e he
  have hx0 : x ≠ 0 := fun z => hs (by rw [ex, z])
  have sx : spE (gI h am_kept) e = x := by unfold spE; rw [ex, nI_toInt (by omega)]; rfl
  have hw : 1 + 20 / spE (gI h am_kept) e < 100 := by
    have := Nat.div_le_self 20 (spE (gI h am_kept) e)
    omega
  have q := s_tells d S R hF hp (sm8 ht) (sm3 he) (wJ_bnd B hp (sm8 ht) (sm3 he)) (hd := 1) (lo := 1) (hi := 60) (wo := 1 + 20 / spE (gI h am_kept) e) (by decide) hw
  rw [sx] at q
  have hne : ¬ nI x = 0 := fun z => hx0 ((nI_0' (by omega)).mp z)
  have hdv : nI 20 / nI x = nI (20 / x) := idiv_nI (by decide) (by omega) (by omega)
  refine Rp.aload_n dX12_takesAt_0 rfl rfl ?_
  refine Rp.iconst (nI 1) dX12_takesAt_1 (by decide) ?_
  refine Rp.iload_n dX12_takesAt_2 rfl ?_
  refine Rp.iload_n dX12_takesAt_3 rfl ?_
  refine Rp.iload_n dX12_takesAt_4 rfl ?_
  refine Rp.iconst (nI 1) dX12_takesAt_5 (by decide) ?_
  refine Rp.bipush (nI 60) dX12_takesAt_6 (by decide) ?_
  refine Rp.iconst (nI 1) dX12_takesAt_8 (by decide) ?_
  refine Rp.bipush (nI 20) dX12_takesAt_9 (by decide) ?_
  refine Rp.aload_n dX12_takesAt_11 rfl rfl ?_
  refine Rp.getR dX12_takesAt_12 fk_X12_24 rfl (S _ _ rfl) (R _ _ _ rfl) ?_
  refine Rp.bipush (nI 86) dX12_takesAt_15 (by decide) ?_
  refine Rp.iload_n dX12_takesAt_17 rfl ?_
  first | ((with_reducible show Rp _ _ _ _ (.int (nI _) :: .int (nI _) :: _) _ _); refine Rp.iaddN dX12_takesAt_18 ?_) | refine Rp.iadd dX12_takesAt_18 ?_
  first | ((with_reducible show Rp _ _ _ _ (.int (nI _) :: _) _ _); refine Rp.ialoadN dX12_takesAt_19 (S _ _ rfl) (by omega) ?_) | refine Rp.iaload dX12_takesAt_19 (S _ _ rfl) (by first | assumption | exact vpb (by decide)) ?_
  first | rw [ex] | skip
  refine Rp.idiv dX12_takesAt_20 hne ?_
  rw [hdv]
  first | ((with_reducible show Rp _ _ _ _ (.int (nI _) :: .int (nI _) :: _) _ _); refine Rp.iaddN dX12_takesAt_21 ?_) | refine Rp.iadd dX12_takesAt_21 ?_
  refine Rp.callV7 M_X12_tells (ci := 12) dX12_takesAt_22 mo_X12_tells lk_X12_347 (by decide) rfl rfl (S _ _ rfl) (Nat.le_of_ble_eq_true rfl) (Nat.le_of_ble_eq_true rfl) (q) (fun v1 h1 p1 x1 => ?_)
  obtain ⟨p1, rfl⟩ := p1
  try dsimp only [Option.toList, List.cons_append, List.nil_append, List.append]
  refine Rp.ireturn dX12_takesAt_25 rfl ?_
  refine ⟨p1, ?_⟩
  unfold oTk
  rw [sx]
theorem s_costOf (S : ShOK h) (R : RfOK h) (hF : FlK (gI h am_kept) fl) (B : KB (gI h am_kept)) {p : Nat} (hp : p < 6) : Rp (d + 75) M_X12_costOf 0 [some (.ref aM), some (.int (nI p))] [] h (fun r h' => Fr tlX h h' ∧ r = some (.int (nI (oCs (gI h am_kept) fl p)))) := by
  have q := s_tells d S R hF hp sn sn (wJ_bnd B hp sn sn) (t := none) (e := none) (hd := 2) (lo := 0) (hi := 9) (wo := 1) (by decide) (by decide)
  refine Rp.aload_n dX12_costOf_0 rfl rfl ?_
  refine Rp.iconst (nI 2) dX12_costOf_1 (by decide) ?_
  refine Rp.iload_n dX12_costOf_2 rfl ?_
  refine Rp.iconst (-1) dX12_costOf_3 (by decide) ?_
  refine Rp.iconst (-1) dX12_costOf_4 (by decide) ?_
  refine Rp.iconst (nI 0) dX12_costOf_5 (by decide) ?_
  refine Rp.bipush (nI 9) dX12_costOf_6 (by decide) ?_
  refine Rp.iconst (nI 1) dX12_costOf_8 (by decide) ?_
  refine Rp.callV7 M_X12_tells (ci := 12) dX12_costOf_9 mo_X12_tells lk_X12_347 (by decide) rfl rfl (S _ _ rfl) (Nat.le_of_ble_eq_true rfl) (Nat.le_of_ble_eq_true rfl) (q) (fun v1 h1 p1 x1 => ?_)
  obtain ⟨p1, rfl⟩ := p1
  try dsimp only [Option.toList, List.cons_append, List.nil_append, List.append]
  refine Rp.ireturn dX12_costOf_12 rfl ?_
  exact ⟨p1, rfl⟩
theorem s_isFit (S : ShOK h) (R : RfOK h) (hF : FlK (gI h am_kept) fl) (B : KB (gI h am_kept)) {p t : Nat} (hp : p < 6) (ht : t < 8) : Rp (d + 75) M_X12_isFit 0 [some (.ref aM), some (.int (nI p)), some (.int (nI t))] [] h (fun r h' => Fr tlX h h' ∧ r = some (.int (b2i (oFt (gI h am_kept) fl p t)))) := by
  have q := s_tells d S R hF hp (sm8 ht) sn (wJ_bnd B hp (sm8 ht) sn) (e := none) (hd := 3) (lo := 0) (hi := 1) (wo := 0) (by decide) (by decide)
  have hle := tlO_le (fl := fl) (hd := 3) (lo := 0) (hi := 1) (w := wJ (gI h am_kept) p (some t) none) (m := 1) (wo := 0) (by decide) (by decide) (by decide)
  by_cases hk : gI h am_kept (75 + t) = gI h am_kept (7 + p)
  · have e : oFt (gI h am_kept) fl p t = true := by unfold oFt; rw [decide_eq_true hk]; rfl
    rw [e]
    refine Rp.aload_n dX12_isFit_0 rfl rfl ?_
    refine Rp.getR dX12_isFit_1 fk_X12_24 rfl (S _ _ rfl) (R _ _ _ rfl) ?_
    refine Rp.bipush (nI 75) dX12_isFit_4 (by decide) ?_
    refine Rp.iload_n dX12_isFit_6 rfl ?_
    first | ((with_reducible show Rp _ _ _ _ (.int (nI _) :: .int (nI _) :: _) _ _); refine Rp.iaddN dX12_isFit_7 ?_) | refine Rp.iadd dX12_isFit_7 ?_
    first | ((with_reducible show Rp _ _ _ _ (.int (nI _) :: _) _ _); refine Rp.ialoadN dX12_isFit_8 (S _ _ rfl) (by omega) ?_) | refine Rp.iaload dX12_isFit_8 (S _ _ rfl) (by first | assumption | exact vpb (by decide)) ?_
    refine Rp.aload_n dX12_isFit_9 rfl rfl ?_
    refine Rp.getR dX12_isFit_10 fk_X12_24 rfl (S _ _ rfl) (R _ _ _ rfl) ?_
    refine Rp.bipush (nI 7) dX12_isFit_13 (by decide) ?_
    refine Rp.iload_n dX12_isFit_15 rfl ?_
    first | ((with_reducible show Rp _ _ _ _ (.int (nI _) :: .int (nI _) :: _) _ _); refine Rp.iaddN dX12_isFit_16 ?_) | refine Rp.iadd dX12_isFit_16 ?_
    first | ((with_reducible show Rp _ _ _ _ (.int (nI _) :: _) _ _); refine Rp.ialoadN dX12_isFit_17 (S _ _ rfl) (by omega) ?_) | refine Rp.iaload dX12_isFit_17 (S _ _ rfl) (by first | assumption | exact vpb (by decide)) ?_
    first | ((with_reducible show Rp _ _ _ _ (.int (nI _) :: .int (nI _) :: _) _ _); refine Rp.icmp_eqN (tgt := 36) dX12_isFit_18 (by decide) (by omega) (fun c18 => ?_) (fun c18 => ?_)) | refine Rp.icmp_eq (tgt := 36) dX12_isFit_18 (by decide) (fun c18 => ?_) (fun c18 => ?_)
    · skip
      refine Rp.iconst (nI 1) dX12_isFit_36 (by decide) ?_
      refine Rp.goto (tgt := 41) dX12_isFit_37 (by decide) ?_
      refine Rp.zreturn dX12_isFit_41 rfl (by first | exact Or.inl rfl | exact Or.inr rfl | assumption) ?_
      exact ⟨Fr.rfl', rfl⟩
    · skip
      exact absurd hk c18
  · have e : oFt (gI h am_kept) fl p t = decide (tlO fl 3 0 1 (wJ (gI h am_kept) p (some t) none) 0 = 1) := by unfold oFt; rw [decide_eq_false hk]; rfl
    rw [e]
    generalize tlO fl 3 0 1 (wJ (gI h am_kept) p (some t) none) 0 = n at *
    refine Rp.aload_n dX12_isFit_0 rfl rfl ?_
    refine Rp.getR dX12_isFit_1 fk_X12_24 rfl (S _ _ rfl) (R _ _ _ rfl) ?_
    refine Rp.bipush (nI 75) dX12_isFit_4 (by decide) ?_
    refine Rp.iload_n dX12_isFit_6 rfl ?_
    first | ((with_reducible show Rp _ _ _ _ (.int (nI _) :: .int (nI _) :: _) _ _); refine Rp.iaddN dX12_isFit_7 ?_) | refine Rp.iadd dX12_isFit_7 ?_
    first | ((with_reducible show Rp _ _ _ _ (.int (nI _) :: _) _ _); refine Rp.ialoadN dX12_isFit_8 (S _ _ rfl) (by omega) ?_) | refine Rp.iaload dX12_isFit_8 (S _ _ rfl) (by first | assumption | exact vpb (by decide)) ?_
    refine Rp.aload_n dX12_isFit_9 rfl rfl ?_
    refine Rp.getR dX12_isFit_10 fk_X12_24 rfl (S _ _ rfl) (R _ _ _ rfl) ?_
    refine Rp.bipush (nI 7) dX12_isFit_13 (by decide) ?_
    refine Rp.iload_n dX12_isFit_15 rfl ?_
    first | ((with_reducible show Rp _ _ _ _ (.int (nI _) :: .int (nI _) :: _) _ _); refine Rp.iaddN dX12_isFit_16 ?_) | refine Rp.iadd dX12_isFit_16 ?_
    first | ((with_reducible show Rp _ _ _ _ (.int (nI _) :: _) _ _); refine Rp.ialoadN dX12_isFit_17 (S _ _ rfl) (by omega) ?_) | refine Rp.iaload dX12_isFit_17 (S _ _ rfl) (by first | assumption | exact vpb (by decide)) ?_
    first | ((with_reducible show Rp _ _ _ _ (.int (nI _) :: .int (nI _) :: _) _ _); refine Rp.icmp_eqN (tgt := 36) dX12_isFit_18 (by decide) (by omega) (fun c18 => ?_) (fun c18 => ?_)) | refine Rp.icmp_eq (tgt := 36) dX12_isFit_18 (by decide) (fun c18 => ?_) (fun c18 => ?_)
    · skip
      exact absurd c18 hk
    · skip
      refine Rp.aload_n dX12_isFit_21 rfl rfl ?_
      refine Rp.iconst (nI 3) dX12_isFit_22 (by decide) ?_
      refine Rp.iload_n dX12_isFit_23 rfl ?_
      refine Rp.iload_n dX12_isFit_24 rfl ?_
      refine Rp.iconst (-1) dX12_isFit_25 (by decide) ?_
      refine Rp.iconst (nI 0) dX12_isFit_26 (by decide) ?_
      refine Rp.iconst (nI 1) dX12_isFit_27 (by decide) ?_
      refine Rp.iconst (nI 0) dX12_isFit_28 (by decide) ?_
      refine Rp.callV7 M_X12_tells (ci := 12) dX12_isFit_29 mo_X12_tells lk_X12_347 (by decide) rfl rfl (S _ _ rfl) (Nat.le_of_ble_eq_true rfl) (Nat.le_of_ble_eq_true rfl) (q) (fun v1 h1 p1 x1 => ?_)
      obtain ⟨p1, rfl⟩ := p1
      try dsimp only [Option.toList, List.cons_append, List.nil_append, List.append]
      refine Rp.iconst (nI 1) dX12_isFit_32 (by decide) ?_
      first | ((with_reducible show Rp _ _ _ _ (.int (nI _) :: .int (nI _) :: _) _ _); refine Rp.icmp_neN (tgt := 40) dX12_isFit_33 (by decide) (by omega) (fun c33 => ?_) (fun c33 => ?_)) | refine Rp.icmp_ne (tgt := 40) dX12_isFit_33 (by decide) (fun c33 => ?_) (fun c33 => ?_)
      · skip
        refine Rp.iconst (nI 0) dX12_isFit_40 (by decide) ?_
        refine Rp.zreturn dX12_isFit_41 rfl (by first | exact Or.inl rfl | exact Or.inr rfl | assumption) ?_
        refine ⟨p1, ?_⟩
        first | (rw [b2i_t (by omega)]; done) | (rw [b2i_f (by omega)]; done)
      · skip
        refine Rp.iconst (nI 1) dX12_isFit_36 (by decide) ?_
        refine Rp.goto (tgt := 41) dX12_isFit_37 (by decide) ?_
        refine Rp.zreturn dX12_isFit_41 rfl (by first | exact Or.inl rfl | exact Or.inr rfl | assumption) ?_
        refine ⟨p1, ?_⟩
        first | (rw [b2i_t (by omega)]; done) | (rw [b2i_f (by omega)]; done)
theorem s_isBarred (S : ShOK h) (R : RfOK h) (hF : FlK (gI h am_kept) fl) (B : KB (gI h am_kept)) {p t : Nat} (hp : p < 6) (ht : t < 8) : Rp (d + 75) M_X12_isBarred 0 [some (.ref aM), some (.int (nI p)), some (.int (nI t))] [] h (fun r h' => Fr tlX h h' ∧ r = some (.int (b2i (oBr (gI h am_kept) fl p t)))) := by
  have q := s_tells d S R hF hp (sm8 ht) sn (wJ_bnd B hp (sm8 ht) sn) (e := none) (hd := 4) (lo := 0) (hi := 1) (wo := 0) (by decide) (by decide)
  have hle := tlO_le (fl := fl) (hd := 4) (lo := 0) (hi := 1) (w := wJ (gI h am_kept) p (some t) none) (m := 1) (wo := 0) (by decide) (by decide) (by decide)
  unfold oBr
  generalize tlO fl 4 0 1 (wJ (gI h am_kept) p (some t) none) 0 = n at *
  refine Rp.aload_n dX12_isBarred_0 rfl rfl ?_
  refine Rp.iconst (nI 4) dX12_isBarred_1 (by decide) ?_
  refine Rp.iload_n dX12_isBarred_2 rfl ?_
  refine Rp.iload_n dX12_isBarred_3 rfl ?_
  refine Rp.iconst (-1) dX12_isBarred_4 (by decide) ?_
  refine Rp.iconst (nI 0) dX12_isBarred_5 (by decide) ?_
  refine Rp.iconst (nI 1) dX12_isBarred_6 (by decide) ?_
  refine Rp.iconst (nI 0) dX12_isBarred_7 (by decide) ?_
  refine Rp.callV7 M_X12_tells (ci := 12) dX12_isBarred_8 mo_X12_tells lk_X12_347 (by decide) rfl rfl (S _ _ rfl) (Nat.le_of_ble_eq_true rfl) (Nat.le_of_ble_eq_true rfl) (q) (fun v1 h1 p1 x1 => ?_)
  obtain ⟨p1, rfl⟩ := p1
  try dsimp only [Option.toList, List.cons_append, List.nil_append, List.append]
  refine Rp.iconst (nI 1) dX12_isBarred_11 (by decide) ?_
  first | ((with_reducible show Rp _ _ _ _ (.int (nI _) :: .int (nI _) :: _) _ _); refine Rp.icmp_neN (tgt := 19) dX12_isBarred_12 (by decide) (by omega) (fun c12 => ?_) (fun c12 => ?_)) | refine Rp.icmp_ne (tgt := 19) dX12_isBarred_12 (by decide) (fun c12 => ?_) (fun c12 => ?_)
  · skip
    refine Rp.iconst (nI 0) dX12_isBarred_19 (by decide) ?_
    refine Rp.zreturn dX12_isBarred_20 rfl (by first | exact Or.inl rfl | exact Or.inr rfl | assumption) ?_
    refine ⟨p1, ?_⟩
    first | (rw [b2i_t (by omega)]; done) | (rw [b2i_f (by omega)]; done)
  · skip
    refine Rp.iconst (nI 1) dX12_isBarred_15 (by decide) ?_
    refine Rp.goto (tgt := 20) dX12_isBarred_16 (by decide) ?_
    refine Rp.zreturn dX12_isBarred_20 rfl (by first | exact Or.inl rfl | exact Or.inr rfl | assumption) ?_
    refine ⟨p1, ?_⟩
    first | (rw [b2i_t (by omega)]; done) | (rw [b2i_f (by omega)]; done)
end Or
