/-- what an act can answer -/
def AcV (q : Int32 × AC) : Prop := (q.1 = -nI 2 ∧ q.2 = none) ∨ (q.1 = -nI 3 ∧ q.2 = none) ∨ ∃ x a, x < 1001 ∧ q.1 = nI x ∧ q.2 = some a
def acF (q : Int32 × AC) (g : AH) : AH := if q.2.isSome = true then acH g else if q.1 = -nI 2 then rcH g 2 else rcH g 3
def amF (q : Int32 × AC) (g : AH) : AH := if q.2.isSome = true then gdH g else if q.1 = -nI 2 then rfH g 2 else rfH g 3
theorem AcV.dr {K : Nat → Int32} {fl : Option (List CLE)} {np nt : Nat} (V : VH K np nt) (B : KB K) (t p : Int32) : AcV (drR K fl np nt t p) := by
  unfold drR
  by_cases c : (inN t nt && inN p np) = true
  · rw [if_pos c]
    by_cases c2 : canD K fl np (ix t) (ix p) = true
    · rw [if_pos c2]
      rw [Bool.and_eq_true] at c
      have v2 := V.2.1
      obtain ⟨u, hu, rfl⟩ := (inN_iff (by omega)).mp c.1
      obtain ⟨x, hx, e⟩ := B.2.2.1 u (by omega)
      exact Or.inr (Or.inr ⟨x, _, by omega, by rw [ix_nI (by omega)]; exact e, rfl⟩)
    · rw [if_neg c2]
      exact Or.inr (Or.inl ⟨rfl, rfl⟩)
  · rw [if_neg c]
    exact Or.inl ⟨rfl, rfl⟩
theorem AcV.sw {K : Nat → Int32} {fl : Option (List CLE)} {np nt : Nat} (V : VH K np nt) (p q : Int32) : AcV (swR K fl np p q) := by
  unfold swR
  by_cases c : (inN p np && inN q np) = true
  · rw [if_pos c]
    by_cases c2 : canS K fl (ix p) (ix q) = true
    · rw [if_pos c2]
      rw [Bool.and_eq_true] at c
      have v1 := V.1
      have v2 := V.2.1
      obtain ⟨u, hu, rfl⟩ := (inN_iff (by omega)).mp c.2
      unfold canS at c2
      simp only [Bool.and_eq_true] at c2
      have c3 := of_decide_eq_true c2.1.1.2
      rw [ix_nI (by omega)] at c3
      obtain ⟨z, x, hx, e⟩ := (V.2.2.1 u (by omega)).resolve_left c3
      exact Or.inr (Or.inr ⟨x, _, by omega, by rw [ix_nI (by omega)]; exact e, rfl⟩)
    · rw [if_neg c2]
      exact Or.inr (Or.inl ⟨rfl, rfl⟩)
  · rw [if_neg c]
    exact Or.inl ⟨rfl, rfl⟩
theorem AcV.dp {K : Nat → Int32} {np nt : Nat} (V : VH K np nt) (p : Int32) : AcV (dpR K np p) := by
  unfold dpR
  by_cases c : inN p np = true
  · rw [if_pos c]
    by_cases c2 : K (ix p) = -1
    · rw [if_pos c2]
      exact Or.inr (Or.inl ⟨rfl, rfl⟩)
    · rw [if_neg c2]
      have v1 := V.1
      have v2 := V.2.1
      obtain ⟨u, hu, rfl⟩ := (inN_iff (by omega)).mp c
      rw [ix_nI (by omega)] at c2
      obtain ⟨z, x, hx, e⟩ := (V.2.2.1 u (by omega)).resolve_left c2
      exact Or.inr (Or.inr ⟨x, _, by omega, by rw [ix_nI (by omega)]; exact e, rfl⟩)
  · rw [if_neg c]
    exact Or.inl ⟨rfl, rfl⟩
theorem AcV.tk {K : Nat → Int32} (B : KB K) : AcV (tkR K) := by
  unfold tkR
  by_cases c : K 6 = nI 999
  · rw [if_pos c]
    exact Or.inr (Or.inl ⟨rfl, rfl⟩)
  · rw [if_neg c]
    obtain ⟨m, hm, e⟩ := B.2.2.2.2.2.1
    exact Or.inr (Or.inr ⟨m + 1, _, by omega, by rw [e, nI_add], rfl⟩)
theorem nI_ge0 {x : Nat} (h : x < 2147483648) : nI x ≥ 0 := by
  show 0 ≤ nI x
  rw [i32_le, nI_toInt h]
  have q1 : (0 : Int32).toInt = 0 := rfl
  omega
def ActQ (h : AH) (K : Nat → Int32) (np nt : Nat) (E : List Int32) (q : Int32 × AC) (g : AH) : Prop := Fr (tkX 1) h g ∧ ShOK g ∧ RfOK g ∧ HJ g 1 (acK K q.2) ∧ HM g 1 (acK K q.2) np nt ∧ LOG g 1 (acE E q.2) ∧ ∀ j, 9 ≤ j → gI g 43 j = 0
def ActR (h : AH) (K : Nat → Int32) (np nt : Nat) (E : List Int32) (q : Int32 × AC) (r : Option Value) (h' : AH) : Prop := ∃ g, ActQ h K np nt E q g ∧ r = some (.int q.1) ∧ h' = acF q g
theorem ActQ.mk {h g : AH} {K : Nat → Int32} {np nt : Nat} {E : List Int32} {q : Int32 × AC} (S : ShOK h) (R : RfOK h) (F : Fr (tkX 1) h g) (J : HJ g 1 (acK K q.2)) (M : HM g 1 (acK K q.2) np nt) (Lg : LOG g 1 (acE E q.2)) (hz : ∀ j, 9 ≤ j → gI g 43 j = 0) : ActQ h K np nt E q g := ⟨F, F.S S, F.R R (by decide), J, M, Lg, hz⟩
section Ca
variable (d : Nat) {h : AH} {K : Nat → Int32} {np nt nd nl : Nat} {LSs : Nat → List CLE} {E : List Int32}
theorem X11_draw_tail {q : Int32 × AC} {g : AH} (AQ : ActQ h K np nt E q g) (VV : AcV q) {v1 : Int32} {v2 : Int32} : Rp (d + 5) M_X11_draw 31 [some (.ref 0), some (.int v1), some (.int v2), none] [.int q.1] g (ActR h K np nt E q) := by
  have rf2 := t_refused (d + 4) AQ.2.1 AQ.2.2.1 2 (by omega)
  have rf3 := t_refused (d + 4) AQ.2.1 AQ.2.2.1 3 (by omega)
  rcases VV with ⟨e1, e2⟩ | ⟨e1, e2⟩ | ⟨x, a, hx, e1, e2⟩
  · rw [e1]
    refine Rp.ist3 dX11_draw_31 (by first | exact nl2_some rfl | exact nl2_none) (by decide) ?_
    refine Rp.iload_n dX11_draw_32 rfl ?_
    refine Rp.if_ge (tgt := 44) dX11_draw_33 (by decide) (fun c33 => ?_) (fun c33 => ?_)
    · skip
      exact absurd c33 (by decide)
    · skip
      refine Rp.aload_n dX11_draw_36 rfl rfl ?_
      refine Rp.iload_n dX11_draw_37 rfl ?_
      refine Rp.callV1 M_X11_refused (ci := 11) dX11_draw_38 mo_X11_refused lk_X11_109 (by decide) rfl rfl (AQ.2.1 _ _ rfl) (Nat.le_of_ble_eq_true rfl) (Nat.le_of_ble_eq_true rfl) (rf2) (fun v1 h1 p1 x1 => ?_)
      rw [p1.1, p1.2]
      try dsimp only [Option.toList, List.cons_append, List.nil_append, List.append]
      refine Rp.goto (tgt := 49) dX11_draw_41 (by decide) ?_
      refine Rp.ireturn dX11_draw_49 rfl ?_
      exact ⟨g, AQ, by rw [e1], by unfold acF; rw [e2, e1]; rfl⟩
  · rw [e1]
    refine Rp.ist3 dX11_draw_31 (by first | exact nl2_some rfl | exact nl2_none) (by decide) ?_
    refine Rp.iload_n dX11_draw_32 rfl ?_
    refine Rp.if_ge (tgt := 44) dX11_draw_33 (by decide) (fun c33 => ?_) (fun c33 => ?_)
    · skip
      exact absurd c33 (by decide)
    · skip
      refine Rp.aload_n dX11_draw_36 rfl rfl ?_
      refine Rp.iload_n dX11_draw_37 rfl ?_
      refine Rp.callV1 M_X11_refused (ci := 11) dX11_draw_38 mo_X11_refused lk_X11_109 (by decide) rfl rfl (AQ.2.1 _ _ rfl) (Nat.le_of_ble_eq_true rfl) (Nat.le_of_ble_eq_true rfl) (rf3) (fun v1 h1 p1 x1 => ?_)
      rw [p1.1, p1.2]
      try dsimp only [Option.toList, List.cons_append, List.nil_append, List.append]
      refine Rp.goto (tgt := 49) dX11_draw_41 (by decide) ?_
      refine Rp.ireturn dX11_draw_49 rfl ?_
      exact ⟨g, AQ, by rw [e1], by unfold acF; rw [e2, e1]; rfl⟩
  · rw [e1]
    have ac := t_accepted (d + 3) AQ.2.1 AQ.2.2.1 (nI x)
    refine Rp.ist3 dX11_draw_31 (by first | exact nl2_some rfl | exact nl2_none) (by decide) ?_
    refine Rp.iload_n dX11_draw_32 rfl ?_
    refine Rp.if_ge (tgt := 44) dX11_draw_33 (by decide) (fun c33 => ?_) (fun c33 => ?_)
    · skip
      refine Rp.aload_n dX11_draw_44 rfl rfl ?_
      refine Rp.iload_n dX11_draw_45 rfl ?_
      refine Rp.callV1 M_X11_accepted (ci := 11) dX11_draw_46 mo_X11_accepted lk_X11_122 (by decide) rfl rfl (AQ.2.1 _ _ rfl) (Nat.le_of_ble_eq_true rfl) (Nat.le_of_ble_eq_true rfl) (ac) (fun v1 h1 p1 x1 => ?_)
      rw [p1.1, p1.2]
      try dsimp only [Option.toList, List.cons_append, List.nil_append, List.append]
      refine Rp.ireturn dX11_draw_49 rfl ?_
      exact ⟨g, AQ, by rw [e1], by unfold acF; rw [e2]; rfl⟩
    · skip
      exact absurd (nI_ge0 (by omega)) c33
theorem t_draw (S : ShOK h) (R : RfOK h) (G : HG h 1 K np nt nd nl LSs E) (V : VH K np nt) (B : KB K) (hz : ∀ j, 9 ≤ j → gI h 43 j = 0) (t p : Int32) : Rp (d + 5) M_X11_draw 0 [some (.ref 0), some (.int t), some (.int p), none] [] h (ActR h K np nt E (drR K (flO nl LSs (K 108)) np nt t p)) := by
  have e18 : gI h 1 18 = K 108 := G.1.2.2.2.2.2.2.1
  have lf := t_lawInForce (d + 2) G.2.1
  rw [e18] at lf
  have k18 : ∀ g, Fr bX h g → JS g 1 K (flO nl LSs (K 108)) → Rp (d + 5) M_X11_draw 18 [some (.ref 0), some (.int t), some (.int p), none] [] g (ActR h K np nt E (drR K (flO nl LSs (K 108)) np nt t p)) := by
    intro g F1 J1
    have S1 := F1.S S
    have R1 := F1.R R (by decide)
    have G1 : HG g 1 K np nt nd nl LSs E := G.fr F1 (fun o j ho => bX_b (by decide) ho) (fun k j o => bX_T (ok129 o))
    have ta := t_takeUp (d + 1) S1 R1 J1 B (G1.1.hm V) G1.2.2.2.1 t p
    refine Rp.aload_n dX11_draw_18 rfl rfl ?_
    refine Rp.getR dX11_draw_19 fk_X11_48 rfl (S1 _ _ rfl) (R1 _ _ _ rfl) ?_
    refine Rp.aload_n dX11_draw_22 rfl rfl ?_
    refine Rp.getR dX11_draw_23 fk_X11_10 rfl (S1 _ _ rfl) (R1 _ _ _ rfl) ?_
    refine Rp.iload_n dX11_draw_26 rfl ?_
    refine Rp.iload_n dX11_draw_27 rfl ?_
    refine Rp.callV3 M_X0_takeUp (ci := 0) dX11_draw_28 mo_X0_takeUp lk_X11_242 (by decide) rfl rfl (S1 _ _ rfl) (Nat.le_of_ble_eq_true rfl) (Nat.le_of_ble_eq_true rfl) (ta) (fun v1 h1 p1 x1 => ?_)
    obtain ⟨rfl, F2, J2, M2, L2⟩ := p1
    try dsimp only [Option.toList, List.cons_append, List.nil_append, List.append]
    skip
    have F3 : Fr (tkX 1) h h1 := (F1.weak (fun k j hx => by unfold tkX at hx; rw [Bool.or_eq_false_iff, Bool.or_eq_false_iff] at hx; exact hx.1.2)).trans (tkX_a F2)
    exact X11_draw_tail d (ActQ.mk S R F3 J2.2.2.1 M2 L2 J2.2.2.2.1) (AcV.dr V B t p)
  refine Rp.aload_n dX11_draw_0 rfl rfl ?_
  refine Rp.getR dX11_draw_1 fk_X11_39 rfl (S _ _ rfl) (R _ _ _ rfl) ?_
  refine Rp.aload_n dX11_draw_4 rfl rfl ?_
  refine Rp.getR dX11_draw_5 fk_X11_10 rfl (S _ _ rfl) (R _ _ _ rfl) ?_
  refine Rp.aload_n dX11_draw_8 rfl rfl ?_
  refine Rp.getR dX11_draw_9 fk_X11_10 rfl (S _ _ rfl) (R _ _ _ rfl) ?_
  refine Rp.callV0 M_X2_lawInForce (ci := 2) dX11_draw_12 mo_X2_lawInForce lk_X11_138 (by decide) rfl rfl (S _ _ rfl) (Nat.le_of_ble_eq_true rfl) (Nat.le_of_ble_eq_true rfl) (lf) (fun v1 h1 p1 x1 => ?_)
  obtain ⟨rfl, lr, rfl, q⟩ := p1
  try dsimp only [Option.toList, List.cons_append, List.nil_append, List.append]
  skip
  match lr, q with
  | none, q =>
    have bg := t_beginJ (d + 3) S R (G.1.hj (Or.inl rfl)) hz q
    dsimp only [cvR] at bg ⊢
    refine Rp.callV2 M_X3_begin (ci := 3) dX11_draw_15 mo_X3_begin lk_X11_142 (by decide) rfl rfl (S _ _ rfl) (Nat.le_of_ble_eq_true rfl) (Nat.le_of_ble_eq_true rfl) (bg) (fun v1 h1 p1 x1 => ?_)
    obtain ⟨rfl, F4, J4⟩ := p1
    try dsimp only [Option.toList, List.cons_append, List.nil_append, List.append]
    exact k18 _ F4 J4
  | some tx, q =>
    have bg := t_beginJ (d + 3) S R (G.1.hj (Or.inl rfl)) hz q
    dsimp only [cvR] at bg ⊢
    refine Rp.callV2 M_X3_begin (ci := 3) dX11_draw_15 mo_X3_begin lk_X11_142 (by decide) rfl rfl (S _ _ rfl) (Nat.le_of_ble_eq_true rfl) (Nat.le_of_ble_eq_true rfl) (bg) (fun v1 h1 p1 x1 => ?_)
    obtain ⟨rfl, F4, J4⟩ := p1
    try dsimp only [Option.toList, List.cons_append, List.nil_append, List.append]
    exact k18 _ F4 J4
theorem X11_swap_tail {q : Int32 × AC} {g : AH} (AQ : ActQ h K np nt E q g) (VV : AcV q) {v1 : Int32} {v2 : Int32} : Rp (d + 5) M_X11_swap 31 [some (.ref 0), some (.int v1), some (.int v2), none] [.int q.1] g (ActR h K np nt E q) := by
  have rf2 := t_refused (d + 4) AQ.2.1 AQ.2.2.1 2 (by omega)
  have rf3 := t_refused (d + 4) AQ.2.1 AQ.2.2.1 3 (by omega)
  rcases VV with ⟨e1, e2⟩ | ⟨e1, e2⟩ | ⟨x, a, hx, e1, e2⟩
  · rw [e1]
    refine Rp.ist3 dX11_swap_31 (by first | exact nl2_some rfl | exact nl2_none) (by decide) ?_
    refine Rp.iload_n dX11_swap_32 rfl ?_
    refine Rp.if_ge (tgt := 44) dX11_swap_33 (by decide) (fun c33 => ?_) (fun c33 => ?_)
    · skip
      exact absurd c33 (by decide)
    · skip
      refine Rp.aload_n dX11_swap_36 rfl rfl ?_
      refine Rp.iload_n dX11_swap_37 rfl ?_
      refine Rp.callV1 M_X11_refused (ci := 11) dX11_swap_38 mo_X11_refused lk_X11_109 (by decide) rfl rfl (AQ.2.1 _ _ rfl) (Nat.le_of_ble_eq_true rfl) (Nat.le_of_ble_eq_true rfl) (rf2) (fun v1 h1 p1 x1 => ?_)
      rw [p1.1, p1.2]
      try dsimp only [Option.toList, List.cons_append, List.nil_append, List.append]
      refine Rp.goto (tgt := 49) dX11_swap_41 (by decide) ?_
      refine Rp.ireturn dX11_swap_49 rfl ?_
      exact ⟨g, AQ, by rw [e1], by unfold acF; rw [e2, e1]; rfl⟩
  · rw [e1]
    refine Rp.ist3 dX11_swap_31 (by first | exact nl2_some rfl | exact nl2_none) (by decide) ?_
    refine Rp.iload_n dX11_swap_32 rfl ?_
    refine Rp.if_ge (tgt := 44) dX11_swap_33 (by decide) (fun c33 => ?_) (fun c33 => ?_)
    · skip
      exact absurd c33 (by decide)
    · skip
      refine Rp.aload_n dX11_swap_36 rfl rfl ?_
      refine Rp.iload_n dX11_swap_37 rfl ?_
      refine Rp.callV1 M_X11_refused (ci := 11) dX11_swap_38 mo_X11_refused lk_X11_109 (by decide) rfl rfl (AQ.2.1 _ _ rfl) (Nat.le_of_ble_eq_true rfl) (Nat.le_of_ble_eq_true rfl) (rf3) (fun v1 h1 p1 x1 => ?_)
      rw [p1.1, p1.2]
      try dsimp only [Option.toList, List.cons_append, List.nil_append, List.append]
      refine Rp.goto (tgt := 49) dX11_swap_41 (by decide) ?_
      refine Rp.ireturn dX11_swap_49 rfl ?_
      exact ⟨g, AQ, by rw [e1], by unfold acF; rw [e2, e1]; rfl⟩
  · rw [e1]
    have ac := t_accepted (d + 3) AQ.2.1 AQ.2.2.1 (nI x)
    refine Rp.ist3 dX11_swap_31 (by first | exact nl2_some rfl | exact nl2_none) (by decide) ?_
    refine Rp.iload_n dX11_swap_32 rfl ?_
    refine Rp.if_ge (tgt := 44) dX11_swap_33 (by decide) (fun c33 => ?_) (fun c33 => ?_)
    · skip
      refine Rp.aload_n dX11_swap_44 rfl rfl ?_
      refine Rp.iload_n dX11_swap_45 rfl ?_
      refine Rp.callV1 M_X11_accepted (ci := 11) dX11_swap_46 mo_X11_accepted lk_X11_122 (by decide) rfl rfl (AQ.2.1 _ _ rfl) (Nat.le_of_ble_eq_true rfl) (Nat.le_of_ble_eq_true rfl) (ac) (fun v1 h1 p1 x1 => ?_)
      rw [p1.1, p1.2]
      try dsimp only [Option.toList, List.cons_append, List.nil_append, List.append]
      refine Rp.ireturn dX11_swap_49 rfl ?_
      exact ⟨g, AQ, by rw [e1], by unfold acF; rw [e2]; rfl⟩
    · skip
      exact absurd (nI_ge0 (by omega)) c33
theorem t_swap (S : ShOK h) (R : RfOK h) (G : HG h 1 K np nt nd nl LSs E) (V : VH K np nt) (B : KB K) (hz : ∀ j, 9 ≤ j → gI h 43 j = 0) (p q : Int32) : Rp (d + 5) M_X11_swap 0 [some (.ref 0), some (.int p), some (.int q), none] [] h (ActR h K np nt E (swR K (flO nl LSs (K 108)) np p q)) := by
  have e18 : gI h 1 18 = K 108 := G.1.2.2.2.2.2.2.1
  have lf := t_lawInForce (d + 2) G.2.1
  rw [e18] at lf
  have k18 : ∀ g, Fr bX h g → JS g 1 K (flO nl LSs (K 108)) → Rp (d + 5) M_X11_swap 18 [some (.ref 0), some (.int p), some (.int q), none] [] g (ActR h K np nt E (swR K (flO nl LSs (K 108)) np p q)) := by
    intro g F1 J1
    have S1 := F1.S S
    have R1 := F1.R R (by decide)
    have G1 : HG g 1 K np nt nd nl LSs E := G.fr F1 (fun o j ho => bX_b (by decide) ho) (fun k j o => bX_T (ok129 o))
    have ta := t_exchange (d + 1) S1 R1 J1 B (G1.1.hm V) G1.2.2.2.1 p q
    refine Rp.aload_n dX11_swap_18 rfl rfl ?_
    refine Rp.getR dX11_swap_19 fk_X11_48 rfl (S1 _ _ rfl) (R1 _ _ _ rfl) ?_
    refine Rp.aload_n dX11_swap_22 rfl rfl ?_
    refine Rp.getR dX11_swap_23 fk_X11_10 rfl (S1 _ _ rfl) (R1 _ _ _ rfl) ?_
    refine Rp.iload_n dX11_swap_26 rfl ?_
    refine Rp.iload_n dX11_swap_27 rfl ?_
    refine Rp.callV3 M_X0_exchange (ci := 0) dX11_swap_28 mo_X0_exchange lk_X11_246 (by decide) rfl rfl (S1 _ _ rfl) (Nat.le_of_ble_eq_true rfl) (Nat.le_of_ble_eq_true rfl) (ta) (fun v1 h1 p1 x1 => ?_)
    obtain ⟨rfl, F2, J2, M2, L2⟩ := p1
    try dsimp only [Option.toList, List.cons_append, List.nil_append, List.append]
    skip
    have F3 : Fr (tkX 1) h h1 := (F1.weak (fun k j hx => by unfold tkX at hx; rw [Bool.or_eq_false_iff, Bool.or_eq_false_iff] at hx; exact hx.1.2)).trans (tkX_a F2)
    exact X11_swap_tail d (ActQ.mk S R F3 J2.2.2.1 M2 L2 J2.2.2.2.1) (AcV.sw V p q)
  refine Rp.aload_n dX11_swap_0 rfl rfl ?_
  refine Rp.getR dX11_swap_1 fk_X11_39 rfl (S _ _ rfl) (R _ _ _ rfl) ?_
  refine Rp.aload_n dX11_swap_4 rfl rfl ?_
  refine Rp.getR dX11_swap_5 fk_X11_10 rfl (S _ _ rfl) (R _ _ _ rfl) ?_
  refine Rp.aload_n dX11_swap_8 rfl rfl ?_
  refine Rp.getR dX11_swap_9 fk_X11_10 rfl (S _ _ rfl) (R _ _ _ rfl) ?_
  refine Rp.callV0 M_X2_lawInForce (ci := 2) dX11_swap_12 mo_X2_lawInForce lk_X11_138 (by decide) rfl rfl (S _ _ rfl) (Nat.le_of_ble_eq_true rfl) (Nat.le_of_ble_eq_true rfl) (lf) (fun v1 h1 p1 x1 => ?_)
  obtain ⟨rfl, lr, rfl, qq⟩ := p1
  try dsimp only [Option.toList, List.cons_append, List.nil_append, List.append]
  skip
  match lr, qq with
  | none, qq =>
    have bg := t_beginJ (d + 3) S R (G.1.hj (Or.inl rfl)) hz qq
    dsimp only [cvR] at bg ⊢
    refine Rp.callV2 M_X3_begin (ci := 3) dX11_swap_15 mo_X3_begin lk_X11_142 (by decide) rfl rfl (S _ _ rfl) (Nat.le_of_ble_eq_true rfl) (Nat.le_of_ble_eq_true rfl) (bg) (fun v1 h1 p1 x1 => ?_)
    obtain ⟨rfl, F4, J4⟩ := p1
    try dsimp only [Option.toList, List.cons_append, List.nil_append, List.append]
    exact k18 _ F4 J4
  | some tx, qq =>
    have bg := t_beginJ (d + 3) S R (G.1.hj (Or.inl rfl)) hz qq
    dsimp only [cvR] at bg ⊢
    refine Rp.callV2 M_X3_begin (ci := 3) dX11_swap_15 mo_X3_begin lk_X11_142 (by decide) rfl rfl (S _ _ rfl) (Nat.le_of_ble_eq_true rfl) (Nat.le_of_ble_eq_true rfl) (bg) (fun v1 h1 p1 x1 => ?_)
    obtain ⟨rfl, F4, J4⟩ := p1
    try dsimp only [Option.toList, List.cons_append, List.nil_append, List.append]
    exact k18 _ F4 J4
theorem X11_drop_tail {q : Int32 × AC} {g : AH} (AQ : ActQ h K np nt E q g) (VV : AcV q) {v1 : Int32} : Rp (d + 5) M_X11_drop 12 [some (.ref 0), some (.int v1), none] [.int q.1] g (ActR h K np nt E q) := by
  have rf2 := t_refused (d + 4) AQ.2.1 AQ.2.2.1 2 (by omega)
  have rf3 := t_refused (d + 4) AQ.2.1 AQ.2.2.1 3 (by omega)
  rcases VV with ⟨e1, e2⟩ | ⟨e1, e2⟩ | ⟨x, a, hx, e1, e2⟩
  · rw [e1]
    refine Rp.ist2 dX11_drop_12 (by first | exact nl2_some rfl | exact nl2_none) (by decide) ?_
    refine Rp.iload_n dX11_drop_13 rfl ?_
    refine Rp.if_ge (tgt := 25) dX11_drop_14 (by decide) (fun c14 => ?_) (fun c14 => ?_)
    · skip
      exact absurd c14 (by decide)
    · skip
      refine Rp.aload_n dX11_drop_17 rfl rfl ?_
      refine Rp.iload_n dX11_drop_18 rfl ?_
      refine Rp.callV1 M_X11_refused (ci := 11) dX11_drop_19 mo_X11_refused lk_X11_109 (by decide) rfl rfl (AQ.2.1 _ _ rfl) (Nat.le_of_ble_eq_true rfl) (Nat.le_of_ble_eq_true rfl) (rf2) (fun v1 h1 p1 x1 => ?_)
      rw [p1.1, p1.2]
      try dsimp only [Option.toList, List.cons_append, List.nil_append, List.append]
      refine Rp.goto (tgt := 30) dX11_drop_22 (by decide) ?_
      refine Rp.ireturn dX11_drop_30 rfl ?_
      exact ⟨g, AQ, by rw [e1], by unfold acF; rw [e2, e1]; rfl⟩
  · rw [e1]
    refine Rp.ist2 dX11_drop_12 (by first | exact nl2_some rfl | exact nl2_none) (by decide) ?_
    refine Rp.iload_n dX11_drop_13 rfl ?_
    refine Rp.if_ge (tgt := 25) dX11_drop_14 (by decide) (fun c14 => ?_) (fun c14 => ?_)
    · skip
      exact absurd c14 (by decide)
    · skip
      refine Rp.aload_n dX11_drop_17 rfl rfl ?_
      refine Rp.iload_n dX11_drop_18 rfl ?_
      refine Rp.callV1 M_X11_refused (ci := 11) dX11_drop_19 mo_X11_refused lk_X11_109 (by decide) rfl rfl (AQ.2.1 _ _ rfl) (Nat.le_of_ble_eq_true rfl) (Nat.le_of_ble_eq_true rfl) (rf3) (fun v1 h1 p1 x1 => ?_)
      rw [p1.1, p1.2]
      try dsimp only [Option.toList, List.cons_append, List.nil_append, List.append]
      refine Rp.goto (tgt := 30) dX11_drop_22 (by decide) ?_
      refine Rp.ireturn dX11_drop_30 rfl ?_
      exact ⟨g, AQ, by rw [e1], by unfold acF; rw [e2, e1]; rfl⟩
  · rw [e1]
    have ac := t_accepted (d + 3) AQ.2.1 AQ.2.2.1 (nI x)
    refine Rp.ist2 dX11_drop_12 (by first | exact nl2_some rfl | exact nl2_none) (by decide) ?_
    refine Rp.iload_n dX11_drop_13 rfl ?_
    refine Rp.if_ge (tgt := 25) dX11_drop_14 (by decide) (fun c14 => ?_) (fun c14 => ?_)
    · skip
      refine Rp.aload_n dX11_drop_25 rfl rfl ?_
      refine Rp.iload_n dX11_drop_26 rfl ?_
      refine Rp.callV1 M_X11_accepted (ci := 11) dX11_drop_27 mo_X11_accepted lk_X11_122 (by decide) rfl rfl (AQ.2.1 _ _ rfl) (Nat.le_of_ble_eq_true rfl) (Nat.le_of_ble_eq_true rfl) (ac) (fun v1 h1 p1 x1 => ?_)
      rw [p1.1, p1.2]
      try dsimp only [Option.toList, List.cons_append, List.nil_append, List.append]
      refine Rp.ireturn dX11_drop_30 rfl ?_
      exact ⟨g, AQ, by rw [e1], by unfold acF; rw [e2]; rfl⟩
    · skip
      exact absurd (nI_ge0 (by omega)) c14
theorem t_drop (S : ShOK h) (R : RfOK h) (G : HG h 1 K np nt nd nl LSs E) (V : VH K np nt) (hz : ∀ j, 9 ≤ j → gI h 43 j = 0) (p : Int32) : Rp (d + 5) M_X11_drop 0 [some (.ref 0), some (.int p), none] [] h (ActR h K np nt E (dpR K np p)) := by
  have ta := t_giveUp0 (d + 1) (G.1.hj (Or.inl rfl)) hz (G.1.hm V) G.2.2.2.1 p
  refine Rp.aload_n dX11_drop_0 rfl rfl ?_
  refine Rp.getR dX11_drop_1 fk_X11_48 rfl (S _ _ rfl) (R _ _ _ rfl) ?_
  refine Rp.aload_n dX11_drop_4 rfl rfl ?_
  refine Rp.getR dX11_drop_5 fk_X11_10 rfl (S _ _ rfl) (R _ _ _ rfl) ?_
  refine Rp.iload_n dX11_drop_8 rfl ?_
  refine Rp.callV2 M_X0_giveUp (ci := 0) dX11_drop_9 mo_X0_giveUp lk_X11_249 (by decide) rfl rfl (S _ _ rfl) (Nat.le_of_ble_eq_true rfl) (Nat.le_of_ble_eq_true rfl) (ta) (fun v1 h1 p1 x1 => ?_)
  obtain ⟨rfl, F2, J2, M2, L2, z2⟩ := p1
  try dsimp only [Option.toList, List.cons_append, List.nil_append, List.append]
  skip
  exact X11_drop_tail d (ActQ.mk S R F2 J2 M2 L2 z2) (AcV.dp V p)
theorem X11_pass_tail {q : Int32 × AC} {g : AH} (AQ : ActQ h K np nt E q g) (VV : AcV q)  : Rp (d + 5) M_X11_pass 11 [some (.ref 0), none] [.int q.1] g (ActR h K np nt E q) := by
  have rf2 := t_refused (d + 4) AQ.2.1 AQ.2.2.1 2 (by omega)
  have rf3 := t_refused (d + 4) AQ.2.1 AQ.2.2.1 3 (by omega)
  rcases VV with ⟨e1, e2⟩ | ⟨e1, e2⟩ | ⟨x, a, hx, e1, e2⟩
  · rw [e1]
    refine Rp.ist1 dX11_pass_11 (by first | exact nl2_some rfl | exact nl2_none) (by decide) ?_
    refine Rp.iload_n dX11_pass_12 rfl ?_
    refine Rp.if_ge (tgt := 24) dX11_pass_13 (by decide) (fun c13 => ?_) (fun c13 => ?_)
    · skip
      exact absurd c13 (by decide)
    · skip
      refine Rp.aload_n dX11_pass_16 rfl rfl ?_
      refine Rp.iload_n dX11_pass_17 rfl ?_
      refine Rp.callV1 M_X11_refused (ci := 11) dX11_pass_18 mo_X11_refused lk_X11_109 (by decide) rfl rfl (AQ.2.1 _ _ rfl) (Nat.le_of_ble_eq_true rfl) (Nat.le_of_ble_eq_true rfl) (rf2) (fun v1 h1 p1 x1 => ?_)
      rw [p1.1, p1.2]
      try dsimp only [Option.toList, List.cons_append, List.nil_append, List.append]
      refine Rp.goto (tgt := 29) dX11_pass_21 (by decide) ?_
      refine Rp.ireturn dX11_pass_29 rfl ?_
      exact ⟨g, AQ, by rw [e1], by unfold acF; rw [e2, e1]; rfl⟩
  · rw [e1]
    refine Rp.ist1 dX11_pass_11 (by first | exact nl2_some rfl | exact nl2_none) (by decide) ?_
    refine Rp.iload_n dX11_pass_12 rfl ?_
    refine Rp.if_ge (tgt := 24) dX11_pass_13 (by decide) (fun c13 => ?_) (fun c13 => ?_)
    · skip
      exact absurd c13 (by decide)
    · skip
      refine Rp.aload_n dX11_pass_16 rfl rfl ?_
      refine Rp.iload_n dX11_pass_17 rfl ?_
      refine Rp.callV1 M_X11_refused (ci := 11) dX11_pass_18 mo_X11_refused lk_X11_109 (by decide) rfl rfl (AQ.2.1 _ _ rfl) (Nat.le_of_ble_eq_true rfl) (Nat.le_of_ble_eq_true rfl) (rf3) (fun v1 h1 p1 x1 => ?_)
      rw [p1.1, p1.2]
      try dsimp only [Option.toList, List.cons_append, List.nil_append, List.append]
      refine Rp.goto (tgt := 29) dX11_pass_21 (by decide) ?_
      refine Rp.ireturn dX11_pass_29 rfl ?_
      exact ⟨g, AQ, by rw [e1], by unfold acF; rw [e2, e1]; rfl⟩
  · rw [e1]
    have ac := t_accepted (d + 3) AQ.2.1 AQ.2.2.1 (nI x)
    refine Rp.ist1 dX11_pass_11 (by first | exact nl2_some rfl | exact nl2_none) (by decide) ?_
    refine Rp.iload_n dX11_pass_12 rfl ?_
    refine Rp.if_ge (tgt := 24) dX11_pass_13 (by decide) (fun c13 => ?_) (fun c13 => ?_)
    · skip
      refine Rp.aload_n dX11_pass_24 rfl rfl ?_
      refine Rp.iload_n dX11_pass_25 rfl ?_
      refine Rp.callV1 M_X11_accepted (ci := 11) dX11_pass_26 mo_X11_accepted lk_X11_122 (by decide) rfl rfl (AQ.2.1 _ _ rfl) (Nat.le_of_ble_eq_true rfl) (Nat.le_of_ble_eq_true rfl) (ac) (fun v1 h1 p1 x1 => ?_)
      rw [p1.1, p1.2]
      try dsimp only [Option.toList, List.cons_append, List.nil_append, List.append]
      refine Rp.ireturn dX11_pass_29 rfl ?_
      exact ⟨g, AQ, by rw [e1], by unfold acF; rw [e2]; rfl⟩
    · skip
      exact absurd (nI_ge0 (by omega)) c13
theorem t_pass (S : ShOK h) (R : RfOK h) (G : HG h 1 K np nt nd nl LSs E) (V : VH K np nt) (B : KB K) (hz : ∀ j, 9 ≤ j → gI h 43 j = 0) : Rp (d + 5) M_X11_pass 0 [some (.ref 0), none] [] h (ActR h K np nt E (tkR K)) := by
  obtain ⟨m, hm, e6⟩ := B.2.2.2.2.2.1
  have e18 : gI h 1 18 = K 108 := G.1.2.2.2.2.2.2.1
  have ta := t_tick0 (d + 1) S R (fl := flO nl LSs (gI h 1 18)) (G.1.hj (Or.inl rfl)) hz (G.1.hm V) G.2.2.2.1 G.2.1 rfl (show m ≤ 999 by omega) e6
  refine Rp.aload_n dX11_pass_0 rfl rfl ?_
  refine Rp.getR dX11_pass_1 fk_X11_48 rfl (S _ _ rfl) (R _ _ _ rfl) ?_
  refine Rp.aload_n dX11_pass_4 rfl rfl ?_
  refine Rp.getR dX11_pass_5 fk_X11_10 rfl (S _ _ rfl) (R _ _ _ rfl) ?_
  refine Rp.callV1 M_X0_tick (ci := 0) dX11_pass_8 mo_X0_tick lk_X11_253 (by decide) rfl rfl (S _ _ rfl) (Nat.le_of_ble_eq_true rfl) (Nat.le_of_ble_eq_true rfl) (ta) (fun v1 h1 p1 x1 => ?_)
  obtain ⟨rfl, F2, J2, M2, L2, z2⟩ := p1
  try dsimp only [Option.toList, List.cons_append, List.nil_append, List.append]
  skip
  exact X11_pass_tail d (ActQ.mk S R F2 J2 M2 L2 z2) (AcV.tk B)
end Ca
section Ma
variable (d : Nat) {h : AH} {fl : Option (List CLE)} {np nt : Nat} {US : List (Nat → Int32)}
theorem s_goodOr (S : ShOK h) (R : RfOK h) {q : Int32 × AC} (VV : AcV q) : Rp (d + 1) M_X12_goodOr 0 [some (.ref aM), some (.int q.1)] [] h (fun r h' => r = some (.int q.1) ∧ h' = amF q h) := by
  rcases VV with ⟨e1, e2⟩ | ⟨e1, e2⟩ | ⟨x, a, hx, e1, e2⟩
  · rw [e1]
    refine Rp.iload_n dX12_goodOr_0 rfl ?_
    refine Rp.if_ge (tgt := 12) dX12_goodOr_1 (by decide) (fun c1 => ?_) (fun c1 => ?_)
    · skip
      exact absurd c1 (by decide)
    · skip
      refine Rp.aload_n dX12_goodOr_4 rfl rfl ?_
      refine Rp.iload_n dX12_goodOr_5 rfl ?_
      refine Rp.callV1 M_X12_refuses (ci := 12) dX12_goodOr_6 mo_X12_refuses lk_X12_121 (by decide) rfl rfl (S _ _ rfl) (Nat.le_of_ble_eq_true rfl) (Nat.le_of_ble_eq_true rfl) (s_refuses d S R 2 (by decide)) (fun v1 h1 p1 x1 => ?_)
      rw [p1.1, p1.2]
      try dsimp only [Option.toList, List.cons_append, List.nil_append, List.append]
      refine Rp.goto (tgt := 17) dX12_goodOr_9 (by decide) ?_
      refine Rp.ireturn dX12_goodOr_17 rfl ?_
      exact ⟨rfl, by unfold amF; rw [e2, e1]; rfl⟩
  · rw [e1]
    refine Rp.iload_n dX12_goodOr_0 rfl ?_
    refine Rp.if_ge (tgt := 12) dX12_goodOr_1 (by decide) (fun c1 => ?_) (fun c1 => ?_)
    · skip
      exact absurd c1 (by decide)
    · skip
      refine Rp.aload_n dX12_goodOr_4 rfl rfl ?_
      refine Rp.iload_n dX12_goodOr_5 rfl ?_
      refine Rp.callV1 M_X12_refuses (ci := 12) dX12_goodOr_6 mo_X12_refuses lk_X12_121 (by decide) rfl rfl (S _ _ rfl) (Nat.le_of_ble_eq_true rfl) (Nat.le_of_ble_eq_true rfl) (s_refuses d S R 3 (by decide)) (fun v1 h1 p1 x1 => ?_)
      rw [p1.1, p1.2]
      try dsimp only [Option.toList, List.cons_append, List.nil_append, List.append]
      refine Rp.goto (tgt := 17) dX12_goodOr_9 (by decide) ?_
      refine Rp.ireturn dX12_goodOr_17 rfl ?_
      exact ⟨rfl, by unfold amF; rw [e2, e1]; rfl⟩
  · rw [e1]
    refine Rp.iload_n dX12_goodOr_0 rfl ?_
    refine Rp.if_ge (tgt := 12) dX12_goodOr_1 (by decide) (fun c1 => ?_) (fun c1 => ?_)
    · skip
      refine Rp.aload_n dX12_goodOr_12 rfl rfl ?_
      refine Rp.iload_n dX12_goodOr_13 rfl ?_
      refine Rp.callV1 M_X12_good (ci := 12) dX12_goodOr_14 mo_X12_good lk_X12_14 (by decide) rfl rfl (S _ _ rfl) (Nat.le_of_ble_eq_true rfl) (Nat.le_of_ble_eq_true rfl) (s_good d S (nI x)) (fun v1 h1 p1 x1 => ?_)
      rw [p1.1, p1.2]
      try dsimp only [Option.toList, List.cons_append, List.nil_append, List.append]
      refine Rp.ireturn dX12_goodOr_17 rfl ?_
      exact ⟨rfl, by unfold amF; rw [e2]; rfl⟩
    · skip
      exact absurd (nI_ge0 (by omega)) c1
def AmR (h : AH) (US : List (Nat → Int32)) (q : Int32 × AC) (r : Option Value) (h' : AH) : Prop := ∃ g, (Fr amX h g ∧ gI g 102 = acK (gI h 102) q.2 ∧ LGm g (acU US (gI h 102) q.2)) ∧ r = some (.int q.1) ∧ h' = amF q g
theorem s_draw (A : MA h fl np nt US) (t p : Int32) : Rp (d + 78) M_X12_draw 0 [some (.ref aM), some (.int t), some (.int p)] [] h (AmR h US (drR (gI h 102) fl np nt t p)) := by
  have S := A.1
  have R := A.2.1
  have V := A.2.2.2.2.1
  have B := A.2.2.2.1
  have VV : AcV (drR (gI h 102) fl np nt t p) := AcV.dr V B t p
  have ta := s_drawsKept d A t p
  refine Rp.aload_n dX12_draw_0 rfl rfl ?_
  refine Rp.aload_n dX12_draw_1 rfl rfl ?_
  refine Rp.iload_n dX12_draw_2 rfl ?_
  refine Rp.iload_n dX12_draw_3 rfl ?_
  refine Rp.callV2 M_X12_drawsKept (ci := 12) dX12_draw_4 mo_X12_drawsKept lk_X12_366 (by decide) rfl rfl (S _ _ rfl) (Nat.le_of_ble_eq_true rfl) (Nat.le_of_ble_eq_true rfl) (ta) (fun v1 h1 p1 x1 => ?_)
  obtain ⟨rfl, F2, k2, l2⟩ := p1
  try dsimp only [Option.toList, List.cons_append, List.nil_append, List.append]
  skip
  have S1 := F2.S S
  have R1 := F2.R R (by decide)
  have go := s_goodOr (d + 76) S1 R1 VV
  refine Rp.callV1 M_X12_goodOr (ci := 12) dX12_draw_7 mo_X12_goodOr lk_X12_369 (by decide) rfl rfl (S1 _ _ rfl) (Nat.le_of_ble_eq_true rfl) (Nat.le_of_ble_eq_true rfl) (go) (fun v1 h1 p1 x1 => ?_)
  obtain ⟨rfl, rfl⟩ := p1
  try dsimp only [Option.toList, List.cons_append, List.nil_append, List.append]
  refine Rp.ireturn dX12_draw_10 rfl ?_
  exact ⟨_, ⟨F2, k2, l2⟩, rfl, rfl⟩
theorem s_swap (A : MA h fl np nt US) (p q : Int32) : Rp (d + 78) M_X12_swap 0 [some (.ref aM), some (.int p), some (.int q)] [] h (AmR h US (swR (gI h 102) fl np p q)) := by
  have S := A.1
  have R := A.2.1
  have V := A.2.2.2.2.1
  have B := A.2.2.2.1
  have VV : AcV (swR (gI h 102) fl np p q) := AcV.sw V p q
  have ta := s_swapsKept d A p q
  refine Rp.aload_n dX12_swap_0 rfl rfl ?_
  refine Rp.aload_n dX12_swap_1 rfl rfl ?_
  refine Rp.iload_n dX12_swap_2 rfl ?_
  refine Rp.iload_n dX12_swap_3 rfl ?_
  refine Rp.callV2 M_X12_swapsKept (ci := 12) dX12_swap_4 mo_X12_swapsKept lk_X12_372 (by decide) rfl rfl (S _ _ rfl) (Nat.le_of_ble_eq_true rfl) (Nat.le_of_ble_eq_true rfl) (ta) (fun v1 h1 p1 x1 => ?_)
  obtain ⟨rfl, F2, k2, l2⟩ := p1
  try dsimp only [Option.toList, List.cons_append, List.nil_append, List.append]
  skip
  have S1 := F2.S S
  have R1 := F2.R R (by decide)
  have go := s_goodOr (d + 76) S1 R1 VV
  refine Rp.callV1 M_X12_goodOr (ci := 12) dX12_swap_7 mo_X12_goodOr lk_X12_369 (by decide) rfl rfl (S1 _ _ rfl) (Nat.le_of_ble_eq_true rfl) (Nat.le_of_ble_eq_true rfl) (go) (fun v1 h1 p1 x1 => ?_)
  obtain ⟨rfl, rfl⟩ := p1
  try dsimp only [Option.toList, List.cons_append, List.nil_append, List.append]
  refine Rp.ireturn dX12_swap_10 rfl ?_
  exact ⟨_, ⟨F2, k2, l2⟩, rfl, rfl⟩
theorem s_drop (A : MA h fl np nt US) (p : Int32) : Rp (d + 78) M_X12_drop 0 [some (.ref aM), some (.int p)] [] h (AmR h US (dpR (gI h 102) np p)) := by
  have S := A.1
  have R := A.2.1
  have V := A.2.2.2.2.1
  have B := A.2.2.2.1
  have VV : AcV (dpR (gI h 102) np p) := AcV.dp V p
  have ta := s_dropsKept d A p
  refine Rp.aload_n dX12_drop_0 rfl rfl ?_
  refine Rp.aload_n dX12_drop_1 rfl rfl ?_
  refine Rp.iload_n dX12_drop_2 rfl ?_
  refine Rp.callV1 M_X12_dropsKept (ci := 12) dX12_drop_3 mo_X12_dropsKept lk_X12_375 (by decide) rfl rfl (S _ _ rfl) (Nat.le_of_ble_eq_true rfl) (Nat.le_of_ble_eq_true rfl) (ta) (fun v1 h1 p1 x1 => ?_)
  obtain ⟨rfl, F2, k2, l2⟩ := p1
  try dsimp only [Option.toList, List.cons_append, List.nil_append, List.append]
  skip
  have S1 := F2.S S
  have R1 := F2.R R (by decide)
  have go := s_goodOr (d + 76) S1 R1 VV
  refine Rp.callV1 M_X12_goodOr (ci := 12) dX12_drop_6 mo_X12_goodOr lk_X12_369 (by decide) rfl rfl (S1 _ _ rfl) (Nat.le_of_ble_eq_true rfl) (Nat.le_of_ble_eq_true rfl) (go) (fun v1 h1 p1 x1 => ?_)
  obtain ⟨rfl, rfl⟩ := p1
  try dsimp only [Option.toList, List.cons_append, List.nil_append, List.append]
  refine Rp.ireturn dX12_drop_9 rfl ?_
  exact ⟨_, ⟨F2, k2, l2⟩, rfl, rfl⟩
theorem s_pass (A : MA h fl np nt US) : Rp (d + 78) M_X12_pass 0 [some (.ref aM)] [] h (AmR h US (tkR (gI h 102))) := by
  have S := A.1
  have R := A.2.1
  have V := A.2.2.2.2.1
  have B := A.2.2.2.1
  have VV : AcV (tkR (gI h 102)) := AcV.tk B
  obtain ⟨m, hm, e6⟩ := B.2.2.2.2.2.1
  have ta := s_passesKept d S R A.2.2.2.2.2.2.2 (show m ≤ 999 by omega) e6
  refine Rp.aload_n dX12_pass_0 rfl rfl ?_
  refine Rp.aload_n dX12_pass_1 rfl rfl ?_
  refine Rp.callV0 M_X12_passesKept (ci := 12) dX12_pass_2 mo_X12_passesKept lk_X12_378 (by decide) rfl rfl (S _ _ rfl) (Nat.le_of_ble_eq_true rfl) (Nat.le_of_ble_eq_true rfl) (ta) (fun v1 h1 p1 x1 => ?_)
  obtain ⟨rfl, F2, k2, l2⟩ := p1
  try dsimp only [Option.toList, List.cons_append, List.nil_append, List.append]
  skip
  have S1 := F2.S S
  have R1 := F2.R R (by decide)
  have go := s_goodOr (d + 76) S1 R1 VV
  refine Rp.callV1 M_X12_goodOr (ci := 12) dX12_pass_5 mo_X12_goodOr lk_X12_369 (by decide) rfl rfl (S1 _ _ rfl) (Nat.le_of_ble_eq_true rfl) (Nat.le_of_ble_eq_true rfl) (go) (fun v1 h1 p1 x1 => ?_)
  obtain ⟨rfl, rfl⟩ := p1
  try dsimp only [Option.toList, List.cons_append, List.nil_append, List.append]
  refine Rp.ireturn dX12_pass_8 rfl ?_
  exact ⟨_, ⟨F2, k2, l2⟩, rfl, rfl⟩
end Ma
