/-- what starting over touches -/
def soX (k j : Nat) : Bool := bX k j || (liX k j || wyX k j)
theorem soX_b {h g : AH} (F : Fr bX h g) : Fr soX h g := F.weak (fun k j hx => by unfold soX at hx; rw [Bool.or_eq_false_iff] at hx; exact hx.1)
theorem soX_l {h g : AH} (F : Fr liX h g) : Fr soX h g := F.weak (fun k j hx => by unfold soX at hx; rw [Bool.or_eq_false_iff, Bool.or_eq_false_iff] at hx; exact hx.2.1)
theorem soX_w {h g : AH} (F : Fr wyX h g) : Fr soX h g := F.weak (fun k j hx => by unfold soX at hx; rw [Bool.or_eq_false_iff, Bool.or_eq_false_iff] at hx; exact hx.2.2)
theorem liX_n {k j : Nat} (h : k ≠ 47) : liX k j = false := by unfold liX; rw [beq_eq_false_iff_ne.mpr h]; rfl
/-- nobody holds anything -/
def W0 : Nat → Int32 := fun _ => -1
theorem VH_W0 {np nt : Nat} (h1 : np ≤ 6) (h2 : nt ≤ 8) : VH W0 np nt := ⟨h1, h2, fun p _ => Or.inl rfl, fun p q _ _ _ h => absurd rfl h⟩
theorem hOf_W0 {t : Nat} (ht : t < 8) : ∀ n, hOf W0 (nI t) n = -1
  | 0 => rfl
  | n + 1 => by
    show (if (-1 : Int32) = nI t then nI n else hOf W0 (nI t) n) = -1
    rw [if_neg (fun z => nI_m1 (by omega) z.symm)]; exact hOf_W0 ht n
section So
variable (d : Nat) {h : AH} {K : Nat → Int32} {np nt nd nl : Nat} {LSs : Nat → List CLE} {E : List Int32}
theorem t_startOver (S : ShOK h) (R : RfOK h) (G : HG h 1 K np nt nd nl LSs E) (V : VH K np nt) (VNn : VN K nt) (hnd : nd ≤ 3) (hz : ∀ j, 9 ≤ j → gI h 43 j = 0) : Rp (d + 3) M_X6_startOver 0 [some (.ref 52), some (.ref 1)] [] h (fun r h' => r = none ∧ Fr soX h h' ∧ PB h' K (flO nl LSs (K 108)) np nt nd W0) := by
  have v1 := V.1
  have v2 := V.2.1
  have e18 : gI h 1 18 = K 108 := G.1.2.2.2.2.2.2.1
  have lf := t_lawInForce d G.2.1
  rw [e18] at lf
  have k12 : ∀ g, Fr bX h g → JS g 1 K (flO nl LSs (K 108)) → Rp (d + 3) M_X6_startOver 12 [some (.ref 52), some (.ref 1)] [] g (fun r h' => r = none ∧ Fr soX h h' ∧ PB h' K (flO nl LSs (K 108)) np nt nd W0) := by
    intro g F1 J1
    have S1 := F1.S S
    have R1 := F1.R R (by decide)
    have G1 : HG g 1 K np nt nd nl LSs E := G.fr F1 (fun o j ho => bX_b (by decide) ho) (fun k j o => bX_T (ok129 o))
    have M1 := G1.1.hm V
    have ln := t_line (d + 2) (K := K) S1 R1 (by decide) G1.1.1 VNn M1.2.2.2.1 G1.1.2.2.2.2.2.2.2.2.2.2.2.1
    refine Rp.aload_n dX6_startOver_12 rfl rfl ?_
    refine Rp.getR dX6_startOver_13 fk_X6_31 rfl (S1 _ _ rfl) (R1 _ _ _ rfl) ?_
    refine Rp.aload_n dX6_startOver_16 rfl rfl ?_
    refine Rp.callV1 M_X1_line (ci := 1) dX6_startOver_17 mo_X1_line lk_X6_75 (by decide) rfl rfl (S1 _ _ rfl) (Nat.le_of_ble_eq_true rfl) (Nat.le_of_ble_eq_true rfl) (ln) (fun v1 h1 p1 x1 => ?_)
    obtain ⟨rfl, F2, L2⟩ := p1
    try dsimp only [Option.toList, List.cons_append, List.nil_append, List.append]
    skip
    have S2 := F2.S S1
    have R2 := F2.R R1 (by decide)
    have fa := c_fill (d + 2) h1 53 6 (-1) (S2 _ _ rfl) (by decide)
    have Sa : ShOK (fillI h1 53 6 (-1)) := S2
    have Ra : RfOK (fillI h1 53 6 (-1)) := R2
    have fb := c_fill (d + 2) (fillI h1 53 6 (-1)) 54 8 (-1) (Sa _ _ rfl) (by decide)
    have F3 : Fr wyX h1 (fillI (fillI h1 53 6 (-1)) 54 8 (-1)) := (Fr.rfl'.fill (fun j hj => by unfold wyX; rw [decide_eq_true hj]; rfl)).fill (fun j hj => by unfold wyX; rw [decide_eq_true hj]; rfl)
    have J2 : JS h1 1 K (flO nl LSs (K 108)) := J1.fg F2 (fun j => rfl) (fun j => rfl) (fun j => rfl) (fun k j hk => liX_n (by omega)) (fun k j o => liX_n (okT_ne o (by decide) (by decide) (by decide) (by decide)))
    have G2 : HG h1 1 K np nt nd nl LSs E := G1.fr F2 (fun o j ho => liX_n (by omega)) (fun k j o => liX_n (by omega))
    have G3 : HG (fillI (fillI h1 53 6 (-1)) 54 8 (-1)) 1 K np nt nd nl LSs E := G2.fr F3 (fun o j ho => wyX_n (by omega)) (fun k j o => wyX_n (by omega))
    have PP : PB (fillI (fillI h1 53 6 (-1)) 54 8 (-1)) K (flO nl LSs (K 108)) np nt nd W0 := ⟨F3.S S2, F3.R R2 (by decide), J2.fw F3, G3.1.hm V, G3.1.hd hnd, fun t ht => (F3.I 47 _ rfl).trans (L2 t ht), VH_W0 v1 v2, fun q hq => by rw [gI_fillI, if_neg (by decide), gI_fillI, if_pos rfl, if_pos hq]; rfl, fun t ht => by rw [gI_fillI, if_pos rfl, if_pos ht, hOf_W0 ht]⟩
    refine Rp.aload_n dX6_startOver_20 rfl rfl ?_
    refine Rp.getR dX6_startOver_21 fk_X6_9 rfl (S2 _ _ rfl) (R2 _ _ _ rfl) ?_
    refine Rp.iconst (-1) dX6_startOver_24 (by decide) ?_
    refine Rp.callS2 M_J7_fill_53178 dX6_startOver_25 mo_J7_fill_53178 lk_X6_80 (Nat.le_of_ble_eq_true rfl) (Nat.le_of_ble_eq_true rfl) (fa) (fun v1 h1 p1 x1 => ?_)
    rw [p1.1, p1.2]
    try dsimp only [Option.toList, List.cons_append, List.nil_append, List.append]
    refine Rp.aload_n dX6_startOver_28 rfl rfl ?_
    refine Rp.getR dX6_startOver_29 fk_X6_15 rfl (Sa _ _ rfl) (Ra _ _ _ rfl) ?_
    refine Rp.iconst (-1) dX6_startOver_32 (by decide) ?_
    refine Rp.callS2 M_J7_fill_53178 dX6_startOver_33 mo_J7_fill_53178 lk_X6_80 (Nat.le_of_ble_eq_true rfl) (Nat.le_of_ble_eq_true rfl) (fb) (fun v1 h1 p1 x1 => ?_)
    rw [p1.1, p1.2]
    try dsimp only [Option.toList, List.cons_append, List.nil_append, List.append]
    refine Rp.vreturn dX6_startOver_36 rfl ?_
    exact ⟨rfl, ((soX_b F1).trans (soX_l F2)).trans (soX_w F3), PP⟩
  refine Rp.aload_n dX6_startOver_0 rfl rfl ?_
  refine Rp.getR dX6_startOver_1 fk_X6_27 rfl (S _ _ rfl) (R _ _ _ rfl) ?_
  refine Rp.aload_n dX6_startOver_4 rfl rfl ?_
  refine Rp.aload_n dX6_startOver_5 rfl rfl ?_
  refine Rp.callV0 M_X2_lawInForce (ci := 2) dX6_startOver_6 mo_X2_lawInForce lk_X6_63 (by decide) rfl rfl (S _ _ rfl) (Nat.le_of_ble_eq_true rfl) (Nat.le_of_ble_eq_true rfl) (lf) (fun v1 h1 p1 x1 => ?_)
  obtain ⟨rfl, lr, rfl, q⟩ := p1
  try dsimp only [Option.toList, List.cons_append, List.nil_append, List.append]
  skip
  match lr, q with
  | none, q =>
    have bg := t_beginJ (d + 1) S R (G.1.hj (Or.inl rfl)) hz q
    dsimp only [cvR] at bg ⊢
    refine Rp.callV2 M_X3_begin (ci := 3) dX6_startOver_9 mo_X3_begin lk_X6_69 (by decide) rfl rfl (S _ _ rfl) (Nat.le_of_ble_eq_true rfl) (Nat.le_of_ble_eq_true rfl) (bg) (fun v1 h1 p1 x1 => ?_)
    obtain ⟨rfl, F4, J4⟩ := p1
    try dsimp only [Option.toList, List.cons_append, List.nil_append, List.append]
    exact k12 _ F4 J4
  | some tx, q =>
    have bg := t_beginJ (d + 1) S R (G.1.hj (Or.inl rfl)) hz q
    dsimp only [cvR] at bg ⊢
    refine Rp.callV2 M_X3_begin (ci := 3) dX6_startOver_9 mo_X3_begin lk_X6_69 (by decide) rfl rfl (S _ _ rfl) (Nat.le_of_ble_eq_true rfl) (Nat.le_of_ble_eq_true rfl) (bg) (fun v1 h1 p1 x1 => ?_)
    obtain ⟨rfl, F4, J4⟩ := p1
    try dsimp only [Option.toList, List.cons_append, List.nil_append, List.append]
    exact k12 _ F4 J4
end So
/-- what about finds -/
def abR (K : Nat → Int32) (fl : Option (List CLE)) (nd np nt : Nat) : AB := twF np (tkL K np nt 0) (okC9 K fl false) (abS K fl nd np nt) (hlR K np 0) W0 none
/-- what finding touches -/
def faX (k j : Nat) : Bool := soX k j || (abX k j || (k == 52 && (j == 7 || j == 9)))
theorem faX_s {h g : AH} (F : Fr soX h g) : Fr faX h g := F.weak (fun k j hx => by unfold faX at hx; rw [Bool.or_eq_false_iff] at hx; exact hx.1)
theorem faX_a {h g : AH} (F : Fr abX h g) : Fr faX h g := F.weak (fun k j hx => by unfold faX at hx; rw [Bool.or_eq_false_iff, Bool.or_eq_false_iff] at hx; exact hx.2.1)
section Fa
variable (d : Nat) {h : AH} {K : Nat → Int32} {np nt nd nl : Nat} {LSs : Nat → List CLE} {E : List Int32}
theorem t_findAbout (S : ShOK h) (R : RfOK h) (G : HG h 1 K np nt nd nl LSs E) (V : VH K np nt) (B : KB K) (VNn : VN K nt) (VDd : VD K nd) (hz : ∀ j, 9 ≤ j → gI h 43 j = 0) {kn : Bool} (h7 : gI h 52 7 = b2i kn) (hk : kn = true → RSab h (abR K (flO nl LSs (K 108)) nd np nt)) : Rp (d + 12) M_X6_findAbout 0 [some (.ref 52), some (.ref 1)] [] h (fun r h' => r = none ∧ Fr faX h h' ∧ ShOK h' ∧ RfOK h' ∧ (∀ j, 9 ≤ j → gI h' 43 j = 0) ∧ gI h' 52 7 = nI 1 ∧ RSab h' (abR K (flO nl LSs (K 108)) nd np nt)) := by
  have v1 := V.1
  have v2 := V.2.1
  cases kn
  · let h1 := sI (sI (sI h 52 10 (-1)) 52 11 (nI 0)) 52 9 (nI 0)
    have F1 : Fr faX h h1 := ((Fr.rfl'.sI rfl).sI rfl).sI rfl
    have F1' : Fr (fun k _ => k == 52) h h1 := ((Fr.rfl'.sI rfl).sI rfl).sI rfl
    have S1 : ShOK h1 := S
    have R1 : RfOK h1 := R
    have G1 : HG h1 1 K np nt nd nl LSs E := G.fr F1' (fun o j ho => beq_eq_false_iff_ne.mpr (by omega)) (fun k j o => beq_eq_false_iff_ne.mpr (by omega))
    have so := t_startOver (d + 8) S1 R1 G1 V VNn VDd.1 hz
    have s10 : gI h1 52 10 = -1 := (gI_off _ _ _ (by decide)).trans ((gI_off _ _ _ (by decide)).trans (gI_hit _ _ _ _))
    have s9 : gI h1 52 9 = b2i false := gI_hit _ _ _ _
    have e7 : ¬ gI h 52 7 = nI 1 := by rw [h7]; decide
    refine Rp.aload_n dX6_findAbout_0 rfl rfl ?_
    refine Rp.getI dX6_findAbout_1 fk_X6_35 rfl (S _ _ rfl) ?_
    first | rw [h7] | skip
    first | ((with_reducible show Rp _ _ _ _ (.int (b2i _) :: _) _ _); refine Rp.if_eqB (tgt := 8) dX6_findAbout_4 (by decide) (fun c4 => ?_) (fun c4 => ?_)) | ((with_reducible show Rp _ _ _ _ (.int (nI _) :: _) _ _); refine Rp.if_eqN (tgt := 8) dX6_findAbout_4 (by decide) (by omega) (fun c4 => ?_) (fun c4 => ?_)) | refine Rp.if_eq (tgt := 8) dX6_findAbout_4 (by decide) (fun c4 => ?_) (fun c4 => ?_)
    rotate_left
    · cases c4
    refine Rp.aload_n dX6_findAbout_8 rfl rfl ?_
    refine Rp.iconst (-1) dX6_findAbout_9 (by decide) ?_
    refine Rp.putI dX6_findAbout_10 fk_X6_42w rfl (S _ _ rfl) ?_
    refine Rp.aload_n dX6_findAbout_13 rfl rfl ?_
    refine Rp.iconst (nI 0) dX6_findAbout_14 (by decide) ?_
    refine Rp.putI dX6_findAbout_15 fk_X6_46w rfl (S _ _ rfl) ?_
    refine Rp.aload_n dX6_findAbout_18 rfl rfl ?_
    refine Rp.iconst (nI 0) dX6_findAbout_19 (by decide) ?_
    refine Rp.putZ dX6_findAbout_20 fk_X6_49w rfl (by first | exact Or.inl rfl | exact Or.inr rfl | assumption) (S _ _ rfl) ?_
    refine Rp.aload_n dX6_findAbout_23 rfl rfl ?_
    refine Rp.aload_n dX6_findAbout_24 rfl rfl ?_
    refine Rp.callV1 M_X6_startOver (ci := 6) dX6_findAbout_25 mo_X6_startOver lk_X6_52 (by decide) rfl rfl (S1 _ _ rfl) (Nat.le_of_ble_eq_true rfl) (Nat.le_of_ble_eq_true rfl) (so) (fun v1 h1 p1 x1 => ?_)
    obtain ⟨rfl, F2, P2⟩ := p1
    try dsimp only [Option.toList, List.cons_append, List.nil_append, List.append]
    skip
    have pl := t_ways d (K := K) (fl := flO nl LSs (K 108)) (np := np) (nt := nt) (nd := nd) (RS := RSab) (Z := abX) (f := abS K (flO nl LSs (K 108)) nd np nt) (at9 := false) (fun k j hx => abX_p hx) (fun g g' s H F => H.fr F rfl rfl (fun j => rfl)) B v1 (fun z => by cases z) (fun _ g W s P h9 hS hw => t_better d P B VDd VNn h9 hS hw) np 0 W0 none h1 (by omega) (fun q _ => rfl) (fun q => ⟨fun _ => rfl, fun z => absurd z (Nat.not_lt_zero _)⟩) P2 ((F2.I 52 9 rfl).trans s9) ((F2.I 52 10 rfl).trans s10)
    have S2 := P2.1
    have pl2 := Rp.deeper (show d + 5 + np ≤ d + 11 by omega) pl
    refine Rp.aload_n dX6_findAbout_28 rfl rfl ?_
    refine Rp.iconst (nI 0) dX6_findAbout_29 (by decide) ?_
    refine Rp.callV1 M_X6_place (ci := 6) dX6_findAbout_30 mo_X6_place lk_X6_56 (by decide) rfl rfl (S2 _ _ rfl) (Nat.le_of_ble_eq_true rfl) (Nat.le_of_ble_eq_true rfl) (pl2) (fun v1 h1 p1 x1 => ?_)
    obtain ⟨rfl, P3, h93, r3, F3⟩ := p1
    try dsimp only [Option.toList, List.cons_append, List.nil_append, List.append]
    skip
    have S3 := P3.1
    have R3 := P3.2.1
    have F4 : Fr (fun k j => k == 52 && j == 7) h1 (sI h1 52 7 (nI 1)) := Fr.rfl'.sI rfl
    have FF : Fr faX h (sI h1 52 7 (nI 1)) := (((F1.trans (faX_s F2)).trans (faX_a F3))).sI rfl
    refine Rp.aload_n dX6_findAbout_33 rfl rfl ?_
    refine Rp.iconst (nI 1) dX6_findAbout_34 (by decide) ?_
    refine Rp.putZ dX6_findAbout_35 fk_X6_35w rfl (by first | exact Or.inl rfl | exact Or.inr rfl | assumption) (S3 _ _ rfl) ?_
    refine Rp.vreturn dX6_findAbout_38 rfl ?_
    exact ⟨rfl, FF, S3, R3, fun j hj => P3.2.2.1.2.2.2.1 j hj, gI_hit _ _ _ _, r3.fr F4 rfl rfl (fun j => rfl)⟩
  · have r := hk rfl
    have q7 : gI h 52 7 = nI 1 := h7
    refine Rp.aload_n dX6_findAbout_0 rfl rfl ?_
    refine Rp.getI dX6_findAbout_1 fk_X6_35 rfl (S _ _ rfl) ?_
    first | rw [h7] | skip
    first | ((with_reducible show Rp _ _ _ _ (.int (b2i _) :: _) _ _); refine Rp.if_eqB (tgt := 8) dX6_findAbout_4 (by decide) (fun c4 => ?_) (fun c4 => ?_)) | ((with_reducible show Rp _ _ _ _ (.int (nI _) :: _) _ _); refine Rp.if_eqN (tgt := 8) dX6_findAbout_4 (by decide) (by omega) (fun c4 => ?_) (fun c4 => ?_)) | refine Rp.if_eq (tgt := 8) dX6_findAbout_4 (by decide) (fun c4 => ?_) (fun c4 => ?_)
    · skip
      cases c4
    · skip
      refine Rp.vreturn dX6_findAbout_7 rfl ?_
      exact ⟨rfl, Fr.rfl', S, R, hz, q7, r⟩
/-- what about answers -/
def abA (np : Nat) (s : AB) (w : Int32) : Int32 := if inN w (np + 2) = true then (match s with
  | none => -1
  | some (f, a, Bf) => if ix w = 0 then nI f else if ix w = 1 then nI a else Bf (ix w - 2)) else -1
end Fa
