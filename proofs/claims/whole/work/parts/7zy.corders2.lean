/-- the laws of a hall stand among the cells made since -/
def HQ (h : AH) (b nl : Nat) : Prop := ∀ l, l < nl → ∃ tx kh kc, gR h (b + 13) l = some tx ∧ 129 ≤ tx ∧ gR h tx 0 = some kh ∧ 129 ≤ kh ∧ gR h tx 1 = some kc ∧ 129 ≤ kc
theorem HQ.fr {X : Nat → Nat → Bool} {h g : AH} {b nl : Nat} (Q : HQ h b nl) (F : Fr X h g) (h13 : ∀ j, X (b + 13) j = false) (hT : ∀ k j, 129 ≤ k → X k j = false) : HQ g b nl := fun l hl => by
  obtain ⟨tx, kh, kc, q1, q2, q3, q4, q5, q6⟩ := Q l hl
  exact ⟨tx, kh, kc, (F.Rr _ _ (h13 l)).trans q1, q2, (F.Rr _ _ (hT _ _ q2)).trans q3, q4, (F.Rr _ _ (hT _ _ q2)).trans q5, q6⟩
theorem HQ.cpy {h : AH} {b0 b1 nl : Nat} (hb : b1 = 1 ∨ b1 = 17 ∨ b1 = 68 ∨ b1 = 84) (hn : nl ≤ 6) (Q : HQ h b0 nl) : HQ (cpyH b0 b1 h) b1 nl := fun l hl => by
  obtain ⟨tx, kh, kc, q1, q2, q3, q4, q5, q6⟩ := Q l hl
  refine ⟨tx, kh, kc, by rw [cpy_R, if_pos ⟨rfl, by omega⟩]; exact q1, q2, ?_, q4, ?_, q6⟩
  · rw [cpy_R, if_neg (fun z => by omega)]; exact q3
  · rw [cpy_R, if_neg (fun z => by omega)]; exact q5
theorem TXG.fq {X : Nat → Nat → Bool} {h g : AH} {tx kh kc nh nc : Nat} {ord : Bool} {LS : List CLE} (T : TXG h tx kh kc nh nc ord LS) (F : Fr X h g) (o1 : ∀ j, X tx j = false) (o2 : ∀ j, X kh j = false) (o3 : ∀ j, X kc j = false) : TXG g tx kh kc nh nc ord LS := by
  obtain ⟨t1, t2, t3, t4, t5, t6, t7, t8, t9, ⟨u1, u2, u3, u4, u5⟩, p, t12⟩ := T
  exact ⟨by rw [F.1]; exact t1, (F.Rr _ _ (o1 _)).trans t2, (F.Rr _ _ (o1 _)).trans t3, by rw [F.1]; exact t4, by rw [F.1]; exact t5, t6, t7, t8, t9, ⟨(F.I _ _ (o1 _)).trans u1, (F.I _ _ (o1 _)).trans u2, (F.I _ _ (o1 _)).trans u3, fun m q hq => (F.I _ _ (o3 _)).trans (u4 m q hq), fun m e he w hw => (F.I _ _ (o2 _)).trans (u5 m e he w hw)⟩, p, t12⟩
theorem HLw.fq {X : Nat → Nat → Bool} {h g : AH} {b nl : Nat} {LSs : Nat → List CLE} (H : HLw h b nl LSs) (Q : HQ h b nl) (F : Fr X h g) (h0 : ∀ j, X (b + 0) j = false) (h14 : X (b + 14) 0 = false) (h13 : ∀ j, X (b + 13) j = false) (hT : ∀ k j, 129 ≤ k → X k j = false) : HLw g b nl LSs := ⟨H.1.fr F h0 h14, H.2.1, (F.I _ _ (h0 16)).trans H.2.2.1, fun l hl => by
  obtain ⟨tx, kh, kc, nh, nc, q, T⟩ := H.2.2.2 l hl
  obtain ⟨tx', kh', kc', q1, q2, q3, q4, q5, q6⟩ := Q l hl
  rw [q] at q1
  cases q1
  have e1 := T.2.1
  have e2 := T.2.2.1
  rw [q3] at e1
  rw [q5] at e2
  cases e1
  cases e2
  exact ⟨tx, kh, kc, nh, nc, (F.Rr _ _ (h13 l)).trans q, T.fq F (fun j => hT _ j q2) (fun j => hT _ j q4) (fun j => hT _ j q6)⟩⟩
/-- a hall with its laws and its log -/
def HG (h : AH) (b : Nat) (K : Nat → Int32) (np nt nd nl : Nat) (LSs : Nat → List CLE) (E : List Int32) : Prop := HA h b K np nt nd nl ∧ HLw h b nl LSs ∧ HT h b ∧ LOG h b E ∧ HQ h b nl
theorem HG.cpy {h : AH} {b0 b1 : Nat} {K : Nat → Int32} {np nt nd nl : Nat} {LSs : Nat → List CLE} {E : List Int32} (hb : b1 = 1 ∨ b1 = 17 ∨ b1 = 68 ∨ b1 = 84) (hab : apart b0 b1) (A1 : HOK h b1) (G : HG h b0 K np nt nd nl LSs E) : HG (cpyH b0 b1 h) b1 K np nt nd nl LSs E := ⟨G.1.cpy hab A1, G.2.1.cpy hb hab A1, G.2.2.1.cpy b1, G.2.2.2.1.cpy hab, G.2.2.2.2.cpy hb G.2.1.2.1⟩
theorem HT.fr {X : Nat → Nat → Bool} {h g : AH} {b : Nat} (T : HT h b) (F : Fr X h g) (h13 : ∀ j, X (b + 13) j = false) : HT g b := fun i a hi ha => by
  rw [F.Rr _ _ (h13 i)] at ha
  rw [F.1]
  exact T i a hi ha
theorem HG.fr {X : Nat → Nat → Bool} {h g : AH} {b : Nat} {K : Nat → Int32} {np nt nd nl : Nat} {LSs : Nat → List CLE} {E : List Int32} (G : HG h b K np nt nd nl LSs E) (F : Fr X h g) (hx : ∀ o j, o < 16 → X (b + o) j = false) (hT : ∀ k j, 129 ≤ k → X k j = false) : HG g b K np nt nd nl LSs E := ⟨G.1.fr F (fun o j ho => hx o j (by omega)) (hx 14 0 (by decide)), G.2.1.fq G.2.2.2.2 F (fun j => hx 0 j (by decide)) (hx 14 0 (by decide)) (fun j => hx 13 j (by decide)) hT, G.2.2.1.fr F (fun j => hx 13 j (by decide)), G.2.2.2.1.fr F (hx 14 1 (by decide)) (fun j => hx 15 j (by decide)), G.2.2.2.2.fr F (fun j => hx 13 j (by decide)) hT⟩
theorem ok129 {k : Nat} (h : 129 ≤ k) : okT k := Or.inl h
/-- what saying yes or no touches -/
def ynX (k _j : Nat) : Bool := k == 0 || k == 52 || k == 65
theorem acH_fr (h : AH) : Fr ynX h (acH h) := ((Fr.rfl'.sI rfl).sI rfl).sI rfl
theorem rcH_fr (h : AH) (k : Nat) : Fr ynX h (rcH h k) := (Fr.rfl'.sI rfl).sI rfl
theorem RfOK.rc {h : AH} (R : RfOK h) (k : Nat) : RfOK (rcH h k) := fun a b c e => R a b c e
theorem RfOK.ac {h : AH} (R : RfOK h) : RfOK (acH h) := fun a b c e => R a b c e
theorem ynX_n {k j : Nat} (h : k ≠ 0 ∧ k ≠ 52 ∧ k ≠ 65) : ynX k j = false := by
  unfold ynX
  rw [beq_eq_false_iff_ne.mpr h.1, beq_eq_false_iff_ne.mpr h.2.1, beq_eq_false_iff_ne.mpr h.2.2]; rfl
theorem HG.yn {h g : AH} {b : Nat} {K : Nat → Int32} {np nt nd nl : Nat} {LSs : Nat → List CLE} {E : List Int32} (hb : b = 1 ∨ b = 17 ∨ b = 68 ∨ b = 84) (G : HG h b K np nt nd nl LSs E) (F : Fr ynX h g) : HG g b K np nt nd nl LSs E := G.fr F (fun o j ho => ynX_n (by omega)) (fun k j o => ynX_n (by omega))
theorem bX_43 {j : Nat} : bX 43 j = false := rfl
theorem jX_43 {j : Nat} (h : 9 ≤ j) : jX 43 j = false := by unfold jX; rw [decide_eq_false (show ¬ j < 9 by omega)]; rfl
theorem orX_43 {j : Nat} (h : 9 ≤ j) : orX 43 j = false := by
  unfold orX otX tkX loX aX
  rw [jX_43 h]; rfl
theorem orX_64 {j : Nat} (h : 17 ≤ j) : orX 64 j = false := by
  unfold orX loX oX
  rw [decide_eq_false (show ¬ j < 17 by omega)]; rfl
theorem orX_17 {k j : Nat} (h : 17 ≤ k ∧ k < 40) : orX k j = false := by
  unfold orX otX tkX
  rw [aX1_n (by omega) (jX_lt (by omega)), bX_lt (by omega), loX_lt (by omega), show (k == 1 + 12) = false from beq_eq_false_iff_ne.mpr (by omega), show (k == 63) = false from beq_eq_false_iff_ne.mpr (by omega)]
  rfl
theorem orX_T {k j : Nat} (o : okT k) : orX k j = false := by
  unfold orX
  rw [otX_T o, loX_T o, show (k == 63) = false from beq_eq_false_iff_ne.mpr (okT_ne o (by decide) (by decide) (by decide) (by decide))]
  rfl
/-- what running orders touches -/
def owX (k j : Nat) : Bool := hlX 17 k j || (bX k j || orX k j)
theorem owX_h {h g : AH} (F : Fr (hlX 17) h g) : Fr owX h g := F.weak (fun k j hx => by unfold owX at hx; rw [Bool.or_eq_false_iff] at hx; exact hx.1)
theorem owX_b {h g : AH} (F : Fr bX h g) : Fr owX h g := F.weak (fun k j hx => by unfold owX at hx; rw [Bool.or_eq_false_iff, Bool.or_eq_false_iff] at hx; exact hx.2.1)
theorem owX_o {h g : AH} (F : Fr orX h g) : Fr owX h g := F.weak (fun k j hx => by unfold owX at hx; rw [Bool.or_eq_false_iff, Bool.or_eq_false_iff] at hx; exact hx.2.2)
/-- what orders leave in the class -/
def COQ (h : AH) (K : Nat → Int32) (np nt nd nl : Nat) (LSs : Nat → List CLE) (E : List Int32) (g1 : AH) (q : Except Nat OS) (r : Option Value) (h' : AH) : Prop := ∃ g2, Fr owX g1 g2 ∧ (∀ j, 9 ≤ j → gI g2 43 j = 0) ∧ (∀ j, 17 ≤ j → gI g2 64 j = 0) ∧ ShOK h' ∧ RfOK h' ∧ match q with
  | .error n => r = some (.int (-nI 3)) ∧ h' = rcH (cpyH 17 1 (sI g2 0 16 (nI n))) 3 ∧ HG h' 1 K np nt nd nl LSs E
  | .ok s => r = some (.int (nI s.2.2.2.1)) ∧ h' = acH (sI g2 0 16 (-1)) ∧ HG h' 1 s.1 np nt nd nl LSs s.2.1
section Oc
variable (d : Nat) {h : AH} {K : Nat → Int32} {np nt nd nl : Nat} {LSs : Nat → List CLE} {E : List Int32} {US : List (Nat → Int32)}
theorem corders23 {LS : List CLE} (S : ShOK h) (R : RfOK h) (G : HG h 1 K np nt nd nl LSs E) (V : VH K np nt) (B : KB K) (U : UR np nt K E US) (hz : ∀ j, 9 ≤ j → gI h 43 j = 0) (hz2 : ∀ j, 17 ≤ j → gI h 64 j = 0) (T : TXG h 37 38 39 60 436 true LS) (hTm : ∀ e ∈ LS, e.2.2.2.2.2.1 ≤ 20) (hst : gI h 0 16 = -1) : Rp (d + 7) M_X11_orders 23 [some (.ref 0)] [] h (COQ h K np nt nd nl LSs E h (orL (flO nl LSs (K 108)) np nt LS 0 (K, E, US, 0, -1))) := by
  have A0 : HOK h 1 := G.1.1
  have A1 : HOK h 17 := HOK.of S R (by decide)
  have hab : apart 1 17 := Or.inl (by decide)
  have cf := t_copyFrom (d + 4) hab A0 A1 G.2.2.1
  let h1 := cpyH 1 17 h
  have F1 : Fr (hlX 17) h h1 := cpy_fr 1 17 h
  have S1 : ShOK h1 := F1.S S
  have R1 : RfOK h1 := R.cpy 1 (Or.inr (Or.inl rfl))
  have G1 : HG h1 1 K np nt nd nl LSs E := G.fr F1 (fun o j ho => hlX_n (by omega)) (fun k j o => hlX_n (by omega))
  have P1 : HG h1 17 K np nt nd nl LSs E := G.cpy (by decide) hab A1
  have T1 := T.fr F1 (fun k j o => hlX_T (by decide) o)
  have e18 : gI h1 1 18 = K 108 := G1.1.2.2.2.2.2.2.1
  have lf := t_lawInForce (d + 4) G1.2.1
  rw [e18] at lf
  have hz1 : ∀ j, 9 ≤ j → gI h1 43 j = 0 := fun j hj => (F1.I 43 j (hlX_n (by decide))).trans (hz j hj)
  have k52 : ∀ g, Fr bX h1 g → JS g 1 K (flO nl LSs (K 108)) → Rp (d + 7) M_X11_orders 52 [some (.ref 0)] [] g (COQ h K np nt nd nl LSs E h (orL (flO nl LSs (K 108)) np nt LS 0 (K, E, US, 0, -1))) := by
    intro g F2 J2
    have S2 := F2.S S1
    have R2 := F2.R R1 (by decide)
    have G2 : HG g 1 K np nt nd nl LSs E := G1.fr F2 (fun o j ho => bX_b (by decide) ho) (fun k j o => bX_T (ok129 o))
    have P2 : HG g 17 K np nt nd nl LSs E := P1.fr F2 (fun o j ho => bX_b (by decide) ho) (fun k j o => bX_T (ok129 o))
    have T2 := T1.fr F2 (fun k j o => bX_T o)
    have z2 : ∀ j, 17 ≤ j → gI g 64 j = 0 := fun j hj => (F2.I 64 j rfl).trans ((F1.I 64 j (hlX_n (by decide))).trans (hz2 j hj))
    have z43 : ∀ j, 9 ≤ j → gI g 43 j = 0 := J2.2.2.2.1
    have th := t_through d (US := US) (fl := flO nl LSs (K 108)) (fx := K 108) rfl hTm S2 R2 J2 B (G2.1.hm V) G2.2.2.2.1 G2.2.1 G2.1.2.2.2.2.2.2.1 T2 z2 U
    have st2 : gI g 0 16 = -1 := (F2.I 0 16 rfl).trans ((F1.I 0 16 (hlX_n (by decide))).trans hst)
    have Fh : Fr owX h g := (owX_h F1).trans (owX_b F2)
    match hq : orL (flO nl LSs (K 108)) np nt LS 0 (K, E, US, 0, -1) with
    | .error n =>
      rw [hq] at th
      have hn := orL_lt _ _ _ _ hq
      have l12 : LS.length ≤ 12 := by have := T.2.2.2.2.2.1; omega
      have nm : ¬ nI n = -1 := nI_m1 (by omega)
      refine Rp.aload_n dX11_orders_52 rfl rfl ?_
      refine Rp.aload_n dX11_orders_53 rfl rfl ?_
      refine Rp.getR dX11_orders_54 fk_X11_80 rfl (S2 _ _ rfl) (R2 _ _ _ rfl) ?_
      refine Rp.aload_n dX11_orders_57 rfl rfl ?_
      refine Rp.getR dX11_orders_58 fk_X11_10 rfl (S2 _ _ rfl) (R2 _ _ _ rfl) ?_
      refine Rp.aload_n dX11_orders_61 rfl rfl ?_
      refine Rp.getR dX11_orders_62 fk_X11_30 rfl (S2 _ _ rfl) (R2 _ _ _ rfl) ?_
      refine Rp.getR dX11_orders_65 fk_X11_212 rfl (S2 _ _ rfl) (R2 _ _ _ rfl) ?_
      refine Rp.callV2 M_X8_through (ci := 8) dX11_orders_68 mo_X8_through lk_X11_226 (by decide) rfl rfl (S2 _ _ rfl) (Nat.le_of_ble_eq_true rfl) (Nat.le_of_ble_eq_true rfl) (th) (fun v1 h1 p1 x1 => ?_)
      obtain ⟨F3, rfl, S3, R3⟩ := p1
      try dsimp only [Option.toList, List.cons_append, List.nil_append, List.append]
      skip
      have F4 : Fr (fun k _ => k == 0) h1 (sI h1 0 16 (nI n)) := Fr.rfl'.sI rfl
      have P3 : HG (sI h1 0 16 (nI n)) 17 K np nt nd nl LSs E := (P2.fr F3 (fun o j ho => orX_17 (by omega)) (fun k j o => orX_T (ok129 o))).fr F4 (fun o j ho => beq_eq_false_iff_ne.mpr (by omega)) (fun k j o => beq_eq_false_iff_ne.mpr (by omega))
      have S4 : ShOK (sI h1 0 16 (nI n)) := S3
      have R4 : RfOK (sI h1 0 16 (nI n)) := R3
      have A4 : HOK (sI h1 0 16 (nI n)) 1 := HOK.of S4 R4 (by decide)
      have A7 : HOK (sI h1 0 16 (nI n)) 17 := HOK.of S4 R4 (by decide)
      have hba : apart 17 1 := Or.inr (by decide)
      have cb := t_copyFrom (d + 4) hba A7 A4 P3.2.2.1
      have P5 : HG (cpyH 17 1 (sI h1 0 16 (nI n))) 1 K np nt nd nl LSs E := P3.cpy (by decide) hba A4
      have S5 : ShOK (cpyH 17 1 (sI h1 0 16 (nI n))) := (cpy_fr 17 1 _).S S4
      have R5 : RfOK (cpyH 17 1 (sI h1 0 16 (nI n))) := R4.cpy 17 (by decide)
      have rf := t_refused (d + 6) S5 R5 3 (by decide)
      have P6 : HG (rcH (cpyH 17 1 (sI h1 0 16 (nI n))) 3) 1 K np nt nd nl LSs E := P5.yn (by decide) (rcH_fr _ _)
      have w : gI (sI h1 0 16 (nI n)) 0 16 = nI n := gI_hit _ _ _ _
      refine Rp.putI dX11_orders_71 fk_X11_95w rfl (S3 _ _ rfl) ?_
      refine Rp.aload_n dX11_orders_74 rfl rfl ?_
      refine Rp.getI dX11_orders_75 fk_X11_95 rfl (S4 _ _ rfl) ?_
      first | rw [w] | skip
      refine Rp.iconst (-1) dX11_orders_78 (by decide) ?_
      first | ((with_reducible show Rp _ _ _ _ (.int (nI _) :: .int (nI _) :: _) _ _); refine Rp.icmp_eqN (tgt := 100) dX11_orders_79 (by decide) (by omega) (fun c79 => ?_) (fun c79 => ?_)) | refine Rp.icmp_eq (tgt := 100) dX11_orders_79 (by decide) (fun c79 => ?_) (fun c79 => ?_)
      · skip
        exact absurd c79 nm
      · skip
        refine Rp.aload_n dX11_orders_82 rfl rfl ?_
        refine Rp.getR dX11_orders_83 fk_X11_10 rfl (S4 _ _ rfl) (R4 _ _ _ rfl) ?_
        refine Rp.aload_n dX11_orders_86 rfl rfl ?_
        refine Rp.getR dX11_orders_87 fk_X11_16 rfl (S4 _ _ rfl) (R4 _ _ _ rfl) ?_
        refine Rp.callV1 M_X2_copyFrom (ci := 2) dX11_orders_90 mo_X2_copyFrom lk_X11_223 (by decide) rfl rfl (S4 _ _ rfl) (Nat.le_of_ble_eq_true rfl) (Nat.le_of_ble_eq_true rfl) (cb) (fun v1 h1 p1 x1 => ?_)
        rw [p1.1, p1.2]
        try dsimp only [Option.toList, List.cons_append, List.nil_append, List.append]
        refine Rp.aload_n dX11_orders_93 rfl rfl ?_
        refine Rp.bipush (-3) dX11_orders_94 (by decide) ?_
        refine Rp.callV1 M_X11_refused (ci := 11) dX11_orders_96 mo_X11_refused lk_X11_109 (by decide) rfl rfl (S5 _ _ rfl) (Nat.le_of_ble_eq_true rfl) (Nat.le_of_ble_eq_true rfl) (rf) (fun v1 h1 p1 x1 => ?_)
        rw [p1.1, p1.2]
        try dsimp only [Option.toList, List.cons_append, List.nil_append, List.append]
        refine Rp.ireturn dX11_orders_99 rfl ?_
        exact ⟨_, Fh.trans (owX_o F3), fun j hj => (F3.I 43 j (orX_43 hj)).trans (z43 j hj), fun j hj => (F3.I 64 j (orX_64 hj)).trans (z2 j hj), (rcH_fr _ _).S S5, R5.rc 3, rfl, rfl, P6⟩
    | .ok s =>
      rw [hq] at th
      have sk := orL_k (fl := flO nl LSs (K 108)) (np := np) (nt := nt) LS 0 0 (K, E, US, 0, -1) s hTm ⟨V, B, U, Nat.le_refl _, Or.inl rfl⟩ hq
      refine Rp.aload_n dX11_orders_52 rfl rfl ?_
      refine Rp.aload_n dX11_orders_53 rfl rfl ?_
      refine Rp.getR dX11_orders_54 fk_X11_80 rfl (S2 _ _ rfl) (R2 _ _ _ rfl) ?_
      refine Rp.aload_n dX11_orders_57 rfl rfl ?_
      refine Rp.getR dX11_orders_58 fk_X11_10 rfl (S2 _ _ rfl) (R2 _ _ _ rfl) ?_
      refine Rp.aload_n dX11_orders_61 rfl rfl ?_
      refine Rp.getR dX11_orders_62 fk_X11_30 rfl (S2 _ _ rfl) (R2 _ _ _ rfl) ?_
      refine Rp.getR dX11_orders_65 fk_X11_212 rfl (S2 _ _ rfl) (R2 _ _ _ rfl) ?_
      refine Rp.callV2 M_X8_through (ci := 8) dX11_orders_68 mo_X8_through lk_X11_226 (by decide) rfl rfl (S2 _ _ rfl) (Nat.le_of_ble_eq_true rfl) (Nat.le_of_ble_eq_true rfl) (th) (fun v1 h1 p1 x1 => ?_)
      obtain ⟨F3, rfl, C3⟩ := p1
      try dsimp only [Option.toList, List.cons_append, List.nil_append, List.append]
      skip
      obtain ⟨S3, R3, J3, M3, L3, H3, hf3, T3, e3, e4, z3⟩ := C3
      have F4 : Fr (fun k _ => k == 0) h1 (sI h1 0 16 (-1)) := Fr.rfl'.sI rfl
      have G3 : HG h1 1 s.1 np nt nd nl LSs s.2.1 := ⟨G2.1.act F3 J3.2.2.1 M3 sk.2 (fun j => rfl) (fun j => rfl) (fun j => rfl) (fun j => rfl) (fun j => rfl) rfl, H3, G2.2.2.1.fr F3 (fun j => rfl), L3, G2.2.2.2.2.fr F3 (fun j => rfl) (fun k j o => orX_T (ok129 o))⟩
      have G4 : HG (sI h1 0 16 (-1)) 1 s.1 np nt nd nl LSs s.2.1 := G3.fr F4 (fun o j ho => beq_eq_false_iff_ne.mpr (by omega)) (fun k j o => beq_eq_false_iff_ne.mpr (by omega))
      have S4 : ShOK (sI h1 0 16 (-1)) := S3
      have R4 : RfOK (sI h1 0 16 (-1)) := R3
      have ac := t_accepted (d + 5) S4 R4 (nI s.2.2.2.1)
      have w : gI (sI h1 0 16 (-1)) 0 16 = -1 := gI_hit _ _ _ _
      have e34 : gI (sI h1 0 16 (-1)) 63 3 = nI s.2.2.2.1 := e3
      have G5 : HG (acH (sI h1 0 16 (-1))) 1 s.1 np nt nd nl LSs s.2.1 := G4.yn (by decide) (acH_fr _)
      refine Rp.putI dX11_orders_71 fk_X11_95w rfl (S3 _ _ rfl) ?_
      refine Rp.aload_n dX11_orders_74 rfl rfl ?_
      refine Rp.getI dX11_orders_75 fk_X11_95 rfl (S4 _ _ rfl) ?_
      first | rw [w] | rw [e34] | skip
      refine Rp.iconst (-1) dX11_orders_78 (by decide) ?_
      first | ((with_reducible show Rp _ _ _ _ (.int (nI _) :: .int (nI _) :: _) _ _); refine Rp.icmp_eqN (tgt := 100) dX11_orders_79 (by decide) (by omega) (fun c79 => ?_) (fun c79 => ?_)) | refine Rp.icmp_eq (tgt := 100) dX11_orders_79 (by decide) (fun c79 => ?_) (fun c79 => ?_)
      · skip
        refine Rp.aload_n dX11_orders_100 rfl rfl ?_
        refine Rp.aload_n dX11_orders_101 rfl rfl ?_
        refine Rp.getR dX11_orders_102 fk_X11_80 rfl (S4 _ _ rfl) (R4 _ _ _ rfl) ?_
        refine Rp.getI dX11_orders_105 fk_X11_230 rfl (S4 _ _ rfl) ?_
        first | rw [w] | rw [e34] | skip
        refine Rp.callV1 M_X11_accepted (ci := 11) dX11_orders_108 mo_X11_accepted lk_X11_122 (by decide) rfl rfl (S4 _ _ rfl) (Nat.le_of_ble_eq_true rfl) (Nat.le_of_ble_eq_true rfl) (ac) (fun v1 h1 p1 x1 => ?_)
        rw [p1.1, p1.2]
        try dsimp only [Option.toList, List.cons_append, List.nil_append, List.append]
        refine Rp.ireturn dX11_orders_111 rfl ?_
        exact ⟨_, Fh.trans (owX_o F3), fun j hj => (F3.I 43 j (orX_43 hj)).trans (z43 j hj), z3, (acH_fr _).S S4, R4.ac, rfl, rfl, G5⟩
      · skip
        exact absurd rfl c79
  have k34 : Rp (d + 7) M_X11_orders 34 [some (.ref 0)] [] h1 (COQ h K np nt nd nl LSs E h (orL (flO nl LSs (K 108)) np nt LS 0 (K, E, US, 0, -1))) := by
    refine Rp.aload_n dX11_orders_34 rfl rfl ?_
    refine Rp.getR dX11_orders_35 fk_X11_39 rfl (S1 _ _ rfl) (R1 _ _ _ rfl) ?_
    refine Rp.aload_n dX11_orders_38 rfl rfl ?_
    refine Rp.getR dX11_orders_39 fk_X11_10 rfl (S1 _ _ rfl) (R1 _ _ _ rfl) ?_
    refine Rp.aload_n dX11_orders_42 rfl rfl ?_
    refine Rp.getR dX11_orders_43 fk_X11_10 rfl (S1 _ _ rfl) (R1 _ _ _ rfl) ?_
    refine Rp.callV0 M_X2_lawInForce (ci := 2) dX11_orders_46 mo_X2_lawInForce lk_X11_138 (by decide) rfl rfl (S1 _ _ rfl) (Nat.le_of_ble_eq_true rfl) (Nat.le_of_ble_eq_true rfl) (lf) (fun v1 h1 p1 x1 => ?_)
    obtain ⟨rfl, lr, rfl, q⟩ := p1
    try dsimp only [Option.toList, List.cons_append, List.nil_append, List.append]
    skip
    match lr, q with
    | none, q =>
      have bg := t_beginJ (d + 5) S1 R1 (G1.1.hj (Or.inl rfl)) hz1 q
      dsimp only [cvR] at bg ⊢
      refine Rp.callV2 M_X3_begin (ci := 3) dX11_orders_49 mo_X3_begin lk_X11_142 (by decide) rfl rfl (S1 _ _ rfl) (Nat.le_of_ble_eq_true rfl) (Nat.le_of_ble_eq_true rfl) (bg) (fun v1 h1 p1 x1 => ?_)
      obtain ⟨rfl, F4, J4⟩ := p1
      try dsimp only [Option.toList, List.cons_append, List.nil_append, List.append]
      exact k52 _ F4 J4
    | some tx, q =>
      have bg := t_beginJ (d + 5) S1 R1 (G1.1.hj (Or.inl rfl)) hz1 q
      dsimp only [cvR] at bg ⊢
      refine Rp.callV2 M_X3_begin (ci := 3) dX11_orders_49 mo_X3_begin lk_X11_142 (by decide) rfl rfl (S1 _ _ rfl) (Nat.le_of_ble_eq_true rfl) (Nat.le_of_ble_eq_true rfl) (bg) (fun v1 h1 p1 x1 => ?_)
      obtain ⟨rfl, F4, J4⟩ := p1
      try dsimp only [Option.toList, List.cons_append, List.nil_append, List.append]
      exact k52 _ F4 J4
  refine Rp.aload_n dX11_orders_23 rfl rfl ?_
  refine Rp.getR dX11_orders_24 fk_X11_16 rfl (S _ _ rfl) (R _ _ _ rfl) ?_
  refine Rp.aload_n dX11_orders_27 rfl rfl ?_
  refine Rp.getR dX11_orders_28 fk_X11_10 rfl (S _ _ rfl) (R _ _ _ rfl) ?_
  refine Rp.callV1 M_X2_copyFrom (ci := 2) dX11_orders_31 mo_X2_copyFrom lk_X11_223 (by decide) rfl rfl (S _ _ rfl) (Nat.le_of_ble_eq_true rfl) (Nat.le_of_ble_eq_true rfl) (cf) (fun v1 h1 p1 x1 => ?_)
  rw [p1.1, p1.2]
  try dsimp only [Option.toList, List.cons_append, List.nil_append, List.append]
  exact k34
theorem rdX_n {k j : Nat} (h : k ≠ 35 ∧ k ≠ 37 ∧ k ≠ 38 ∧ k ≠ 39) : rdX k j = false := by
  unfold rdX rcX rX
  rw [beq_eq_false_iff_ne.mpr h.1, beq_eq_false_iff_ne.mpr h.2.1, beq_eq_false_iff_ne.mpr h.2.2.1, beq_eq_false_iff_ne.mpr h.2.2.2]; rfl
/-- the class's orders -/
theorem t_orders (S : ShOK h) (R : RfOK h) (G : HG h 1 K np nt nd nl LSs E) (V : VH K np nt) (B : KB K) (U : UR np nt K E US) (hz : ∀ j, 9 ≤ j → gI h 43 j = 0) (hz2 : ∀ j, 17 ≤ j → gI h 64 j = 0) {L : Nat} (hL : L ≤ 400) (hl : gI h 35 2 = nI L) : Rp (d + 38) M_X11_orders 0 [some (.ref 0)] [] h (fun r h' => ∃ g1, Fr rdX (sI h 0 16 (-1)) g1 ∧ gI g1 35 2 = nI 0 ∧ match RDg true (gI h 36) L with
  | .error e => gI g1 35 3 = nI (pT L (TLo (gI h 36) L) e) ∧ r = some (.int (-nI 6)) ∧ h' = rcH g1 6
  | .ok LS => gI g1 35 3 = -1 ∧ COQ g1 K np nt nd nl LSs E g1 (orL (flO nl LSs (K 108)) np nt LS 0 (K, E, US, 0, -1)) r h') := by
  have S0 : ShOK (sI h 0 16 (-1)) := S
  have R0 : RfOK (sI h 0 16 (-1)) := R
  have rd := t_read d (h := sI h 0 16 (-1)) (ord := true) S0 R0 hL hl
  have F0 : Fr (fun k _ => k == 0) h (sI h 0 16 (-1)) := Fr.rfl'.sI rfl
  have e36 : gI (sI h 0 16 (-1)) 36 = gI h 36 := rfl
  unfold rdY at rd
  rw [e36] at rd
  have G0 : HG (sI h 0 16 (-1)) 1 K np nt nd nl LSs E := G.fr F0 (fun o j ho => beq_eq_false_iff_ne.mpr (by omega)) (fun k j o => beq_eq_false_iff_ne.mpr (by omega))
  match hq : RDg true (gI h 36) L with
  | .error e =>
    rw [hq] at rd
    refine Rp.aload_n dX11_orders_0 rfl rfl ?_
    refine Rp.iconst (-1) dX11_orders_1 (by decide) ?_
    refine Rp.putI dX11_orders_2 fk_X11_95w rfl (S _ _ rfl) ?_
    refine Rp.aload_n dX11_orders_5 rfl rfl ?_
    refine Rp.getR dX11_orders_6 fk_X11_30 rfl (S _ _ rfl) (R _ _ _ rfl) ?_
    refine Rp.iconst (nI 1) dX11_orders_9 (by decide) ?_
    refine Rp.callV1 M_X7_read (ci := 7) dX11_orders_10 mo_X7_read lk_X11_206 (by decide) rfl rfl (S0 _ _ rfl) (Nat.le_of_ble_eq_true rfl) (Nat.le_of_ble_eq_true rfl) (rd) (fun v1 h1 p1 x1 => ?_)
    obtain ⟨F1, z1, rfl, z2⟩ := p1
    try dsimp only [Option.toList, List.cons_append, List.nil_append, List.append]
    skip
    have S1 := F1.S S0
    have R1 := F1.R R0 (by decide)
    have rf := t_refused (d + 37) S1 R1 6 (by decide)
    first | ((with_reducible show Rp _ _ _ _ (.int (b2i _) :: _) _ _); refine Rp.if_neB (tgt := 23) dX11_orders_13 (by decide) (fun c13 => ?_) (fun c13 => ?_)) | ((with_reducible show Rp _ _ _ _ (.int (nI _) :: _) _ _); refine Rp.if_neN (tgt := 23) dX11_orders_13 (by decide) (by omega) (fun c13 => ?_) (fun c13 => ?_)) | refine Rp.if_ne (tgt := 23) dX11_orders_13 (by decide) (fun c13 => ?_) (fun c13 => ?_)
    · skip
      first | (exfalso; omega) | exact absurd c13 (by decide) | exact absurd (by decide) c13
    · skip
      refine Rp.aload_n dX11_orders_16 rfl rfl ?_
      refine Rp.bipush (-6) dX11_orders_17 (by decide) ?_
      refine Rp.callV1 M_X11_refused (ci := 11) dX11_orders_19 mo_X11_refused lk_X11_109 (by decide) rfl rfl (S1 _ _ rfl) (Nat.le_of_ble_eq_true rfl) (Nat.le_of_ble_eq_true rfl) (rf) (fun v1 h1 p1 x1 => ?_)
      rw [p1.1, p1.2]
      try dsimp only [Option.toList, List.cons_append, List.nil_append, List.append]
      refine Rp.ireturn dX11_orders_22 rfl ?_
      exact ⟨_, F1, z1, z2, rfl, rfl⟩
  | .ok LS =>
    rw [hq] at rd
    refine Rp.aload_n dX11_orders_0 rfl rfl ?_
    refine Rp.iconst (-1) dX11_orders_1 (by decide) ?_
    refine Rp.putI dX11_orders_2 fk_X11_95w rfl (S _ _ rfl) ?_
    refine Rp.aload_n dX11_orders_5 rfl rfl ?_
    refine Rp.getR dX11_orders_6 fk_X11_30 rfl (S _ _ rfl) (R _ _ _ rfl) ?_
    refine Rp.iconst (nI 1) dX11_orders_9 (by decide) ?_
    refine Rp.callV1 M_X7_read (ci := 7) dX11_orders_10 mo_X7_read lk_X11_206 (by decide) rfl rfl (S0 _ _ rfl) (Nat.le_of_ble_eq_true rfl) (Nat.le_of_ble_eq_true rfl) (rd) (fun v1 h1 p1 x1 => ?_)
    obtain ⟨F1, z1, rfl, z2, T1⟩ := p1
    try dsimp only [Option.toList, List.cons_append, List.nil_append, List.append]
    skip
    have S1 := F1.S S0
    have R1 := F1.R R0 (by decide)
    have T1 : TXT h1 37 38 39 true LS := T1
    obtain ⟨TG, hTm⟩ := txg_read S1 R1 hL hq T1
    have G1 : HG h1 1 K np nt nd nl LSs E := G0.fr F1 (fun o j ho => rdX_n (by omega)) (fun k j o => rdX_n (by omega))
    have k23 := corders23 (d + 31) (US := US) S1 R1 G1 V B U (fun j hj => (F1.I 43 j (rdX_n (by decide))).trans (hz j hj)) (fun j hj => (F1.I 64 j (rdX_n (by decide))).trans (hz2 j hj)) TG hTm ((F1.I 0 16 (rdX_n (by decide))).trans (gI_hit _ _ _ _))
    have k23 := Rp.mono (fun r h' z => (⟨h1, F1, z1, z2, z⟩ : ∃ g1, Fr rdX (sI h 0 16 (-1)) g1 ∧ gI g1 35 2 = nI 0 ∧ gI g1 35 3 = -1 ∧ COQ g1 K np nt nd nl LSs E g1 (orL (flO nl LSs (K 108)) np nt LS 0 (K, E, US, 0, -1)) r h')) k23
    first | ((with_reducible show Rp _ _ _ _ (.int (b2i _) :: _) _ _); refine Rp.if_neB (tgt := 23) dX11_orders_13 (by decide) (fun c13 => ?_) (fun c13 => ?_)) | ((with_reducible show Rp _ _ _ _ (.int (nI _) :: _) _ _); refine Rp.if_neN (tgt := 23) dX11_orders_13 (by decide) (by omega) (fun c13 => ?_) (fun c13 => ?_)) | refine Rp.if_ne (tgt := 23) dX11_orders_13 (by decide) (fun c13 => ?_) (fun c13 => ?_)
    · skip
      exact k23
    · skip
      first | (exfalso; omega) | exact absurd c13 (by decide) | exact absurd (by decide) c13
end Oc
