def ycX (k j : Nat) : Bool := k == 65 || ((k == 0 && j == 14) || (k == 52 && (j == 7 || j == 8)))
def atW (k j : Nat) : Bool := tkX 1 k j || (ycX k j || (amX k j || rfF k j))
theorem atW_t {h g : AH} (F : Fr (tkX 1) h g) : Fr atW h g := F.weak (fun k j e => by unfold atW at e; rw [Bool.or_eq_false_iff] at e; exact e.1)
theorem atW_y {h g : AH} (F : Fr ycX h g) : Fr atW h g := F.weak (fun k j e => by unfold atW at e; rw [Bool.or_eq_false_iff, Bool.or_eq_false_iff] at e; exact e.2.1)
theorem atW_m {h g : AH} (F : Fr amX h g) : Fr atW h g := F.weak (fun k j e => by unfold atW at e; rw [Bool.or_eq_false_iff, Bool.or_eq_false_iff, Bool.or_eq_false_iff] at e; exact e.2.2.1)
theorem atW_r {h g : AH} (F : Fr rfF h g) : Fr atW h g := F.weak (fun k j e => by unfold atW at e; rw [Bool.or_eq_false_iff, Bool.or_eq_false_iff, Bool.or_eq_false_iff] at e; exact e.2.2.2)
theorem ycX_a (g : AH) : Fr ycX g (acH g) := ((Fr.rfl'.sI rfl).sI rfl).sI rfl
theorem ycX_r (g : AH) (k : Nat) : Fr ycX g (rcH g k) := (Fr.rfl'.sI rfl).sI rfl
theorem rfF_g (g : AH) : Fr rfF g (gdH g) := Fr.rfl'.sI rfl
theorem at_mu : ∀ k j, muS k j = true → atW k j = false := by
  intro k j e
  rw [Bool.eq_false_iff]
  intro x
  simp only [muS, iS, tS, dS, zS, atW, ycX, rfF, tkX, aX, jX, hX, lX, bX, amX, tlX, kpX, Bool.or_eq_true, Bool.and_eq_true, beq_iff_eq, decide_eq_true_eq] at e x
  omega
theorem at_T : ∀ k j, 129 ≤ k → atW k j = false := by
  intro k j e
  rw [Bool.eq_false_iff]
  intro x
  simp only [atW, ycX, rfF, tkX, aX, jX, hX, lX, bX, amX, tlX, kpX, Bool.or_eq_true, Bool.and_eq_true, beq_iff_eq, decide_eq_true_eq] at x
  omega
theorem tk_n : ∀ k j, nS k j = true → tkX 1 k j = false := by
  intro k j e
  rw [Bool.eq_false_iff]
  intro x
  simp only [nS, tkX, aX, jX, hX, lX, bX, Bool.or_eq_true, Bool.and_eq_true, beq_iff_eq, decide_eq_true_eq] at e x
  omega
theorem am_n : ∀ k j, nS k j = true → amX k j = false := by
  intro k j e
  rw [Bool.eq_false_iff]
  intro x
  simp only [nS, amX, tlX, kpX, Bool.or_eq_true, Bool.and_eq_true, beq_iff_eq, decide_eq_true_eq] at e x
  omega
theorem tk_a : ∀ k j, aS k j = true → tkX 1 k j = false := by
  intro k j e
  rw [Bool.eq_false_iff]
  intro x
  simp only [aS, tkX, aX, jX, hX, lX, bX, Bool.or_eq_true, Bool.and_eq_true, beq_iff_eq, decide_eq_true_eq] at e x
  omega
theorem am_a : ∀ k j, aS k j = true → amX k j = false := by
  intro k j e
  rw [Bool.eq_false_iff]
  intro x
  simp only [aS, amX, tlX, kpX, Bool.or_eq_true, Bool.and_eq_true, beq_iff_eq, decide_eq_true_eq] at e x
  omega
theorem rc_a : ∀ k j, aS k j = true → rcF k j = false := by
  intro k j e
  rw [Bool.eq_false_iff]
  intro x
  simp only [aS, rcF, Bool.or_eq_true, Bool.and_eq_true, beq_iff_eq, decide_eq_true_eq] at e x
  omega
theorem rf_a : ∀ k j, aS k j = true → rfF k j = false := by
  intro k j e
  rw [Bool.eq_false_iff]
  intro x
  simp only [aS, rfF, Bool.or_eq_true, Bool.and_eq_true, beq_iff_eq, decide_eq_true_eq] at e x
  omega
theorem tk_w : ∀ k j, wS2 k j = true → tkX 1 k j = false := by
  intro k j e
  rw [Bool.eq_false_iff]
  intro x
  simp only [wS2, tkX, aX, jX, hX, lX, bX, Bool.or_eq_true, Bool.and_eq_true, beq_iff_eq, decide_eq_true_eq] at e x
  omega
theorem am_w : ∀ k j, wS2 k j = true → amX k j = false := by
  intro k j e
  rw [Bool.eq_false_iff]
  intro x
  simp only [wS2, amX, tlX, kpX, Bool.or_eq_true, Bool.and_eq_true, beq_iff_eq, decide_eq_true_eq] at e x
  omega
theorem rc_w : ∀ k j, wS2 k j = true → rcF k j = false := by
  intro k j e
  rw [Bool.eq_false_iff]
  intro x
  simp only [wS2, rcF, Bool.or_eq_true, Bool.and_eq_true, beq_iff_eq, decide_eq_true_eq] at e x
  omega
theorem rf_w : ∀ k j, wS2 k j = true → rfF k j = false := by
  intro k j e
  rw [Bool.eq_false_iff]
  intro x
  simp only [wS2, rfF, Bool.or_eq_true, Bool.and_eq_true, beq_iff_eq, decide_eq_true_eq] at e x
  omega
theorem CWY.fr2 {X : Nat → Nat → Bool} {h g : AH} {K : Nat → Int32} {np nt nd nl no : Nat} {LSs : Nat → List CLE} (C : CWY h K np nt nd nl no LSs) (F : Fr X h g) (h1 : X 1 12 = false) (h11 : ∀ j, X 11 j = false) (h12 : ∀ j, X 12 j = false) (hx : ∀ k j, wS2 k j = true → X k j = false) : CWY g K np nt nd nl no LSs := by
  obtain ⟨kn, e, w⟩ := C
  exact ⟨kn, (F.I 52 8 (hx 52 8 rfl)).trans e, fun q => (w q).fr F h1 h11 h12 (hx 52 12 rfl) (fun j => hx 56 j rfl)⟩
theorem KST.act {K K' : Nat → Int32} {np nt nd nl no : Nat} {LSs : Nat → List CLE} (Q : KST K np nt nd nl no LSs) (V : VH K' np nt) (B : KB K') (e : ∀ j, 7 ≤ j → K' j = K j) : KST K' np nt nd nl no LSs := by
  obtain ⟨-, -, N, Dd, T, W, ⟨k3, k4, k5, k6, k7⟩, hl, hf, ll, zz⟩ := Q
  exact ⟨V, B, N.cg (fun j _ _ => e j (by omega)), Dd.cg (fun j _ _ => e j (by omega)), T.cg (fun j _ _ => e j (by omega)), W.cg (fun j _ _ => e j (by omega)), ⟨(e _ (by omega)).trans k3, (e _ (by omega)).trans k4, (e _ (by omega)).trans k5, (e _ (by omega)).trans k6, (e _ (by omega)).trans k7⟩, hl, by rw [e _ (by omega)]; exact hf, fun l h1 => (ll l h1).cg (by omega) (fun j _ _ => e j (by omega)), fun q t hq ht hz => by rw [e _ (by omega)]; exact zz q t hq ht hz⟩
theorem act_core {h g h1 g' h2 : AH} {np nt nd nl no : Nat} {LSs : Nat → List CLE} {E : List Int32} {US : List (Nat → Int32)} {q : Int32 × AC} (C : CORE h np nt nd nl no LSs E US) (S : ShOK h) (R2 : RfOK h2) (AQ : ActQ h (gI h 102) np nt E q g) (F1 : Fr ycX g h1) (F2 : Fr amX h1 g') (k2 : gI g' 102 = acK (gI h 102) q.2) (l2 : LGm g' (acU US (gI h 102) q.2)) (F3 : Fr rfF g' h2) (V : VH (acK (gI h 102) q.2) np nt) (B : KB (acK (gI h 102) q.2)) (e : ∀ j, 7 ≤ j → acK (gI h 102) q.2 j = gI h 102 j) (U : UR np nt (acK (gI h 102) q.2) (acE E q.2) (acU US (gI h 102) q.2)) : Fr atW h h2 ∧ CORE h2 np nt nd nl no LSs (acE E q.2) (acU US (gI h 102) q.2) := by
  have FF : Fr atW h h2 := (((atW_t AQ.1).trans (atW_y F1)).trans (atW_m F2)).trans (atW_r F3)
  have e102 : gI h2 102 = acK (gI h 102) q.2 := (F3.fun (fun _ => rfl)).trans k2
  refine ⟨FF, ?_⟩
  unfold CORE
  rw [e102]
  have lo1 : ∀ {k j : Nat}, 1 ≤ k ∧ k < 40 → ycX k j = false := fun {k j} hk => by
    rw [Bool.eq_false_iff]
    intro x
    simp only [ycX, Bool.or_eq_true, Bool.and_eq_true, beq_iff_eq] at x
    omega
  have lo2 : ∀ {k j : Nat}, k < 40 → amX k j = false := fun {k j} hk => by
    rw [Bool.eq_false_iff]
    intro x
    simp only [amX, tlX, kpX, Bool.or_eq_true, Bool.and_eq_true, beq_iff_eq, decide_eq_true_eq] at x
    omega
  have lo3 : ∀ {k j : Nat}, k < 40 → rfF k j = false := fun {k j} hk => by
    rw [Bool.eq_false_iff]
    intro x
    simp only [rfF, Bool.or_eq_true, Bool.and_eq_true, beq_iff_eq] at x
    omega
  have Ag : HA g 1 (acK (gI h 102) q.2) np nt nd nl := C.1.1.act AQ.1 AQ.2.2.2.1 AQ.2.2.2.2.1 e (fun j => rfl) (fun j => rfl) (fun j => rfl) (fun j => rfl) (fun j => rfl) rfl
  have A2 : HA h2 1 (acK (gI h 102) q.2) np nt nd nl := ((Ag.fr F1 (fun o j ho => lo1 (by omega)) (lo1 (by omega))).fr F2 (fun o j ho => lo2 (by omega)) (lo2 (by omega))).fr F3 (fun o j ho => lo3 (by omega)) (lo3 (by omega))
  have Lg := ((AQ.2.2.2.2.2.1.fr F1 (lo1 (by omega)) (fun j => lo1 (by omega))).fr F2 (lo2 (by omega)) (fun j => lo2 (by omega))).fr F3 (lo3 (by omega)) (fun j => lo3 (by omega))
  exact ⟨C.1.set FF A2 Lg (fun j => rfl) at_T, C.2.1.act V B e, U, l2.fr F3 rfl (fun j => rfl)⟩
theorem AcV.ob {K : Nat → Int32} {fl : Option (List CLE)} {np nt : Nat} (V : VH K np nt) (B : KB K) (vb : Nat) (x y : Int32) : AcV (obR K fl np nt vb x y) := by
  unfold obR
  by_cases c0 : vb = 0
  · rw [if_pos c0]
    exact AcV.dr V B x y
  · rw [if_neg c0]
    by_cases c1 : vb = 1
    · rw [if_pos c1]
      exact AcV.sw V x y
    · rw [if_neg c1]
      by_cases c2 : vb = 2
      · rw [if_pos c2]
        exact AcV.dp V x
      · rw [if_neg c2]
        exact AcV.tk B
theorem CORE.mh {h g : AH} {np nt nd nl no : Nat} {LSs : Nat → List CLE} {E : List Int32} {US : List (Nat → Int32)} (C : CORE h np nt nd nl no LSs E US) (S : ShOK g) (R : RfOK g) (e : gI g 102 = gI h 102) (u : LGm g US) : MA g (flO nl LSs (gI h 102 108)) np nt US := by
  have Q := C.2.1
  unfold MA
  rw [show gI g am_kept = gI h 102 from e]
  exact ⟨S, R, Q.fl, Q.2.1, Q.1, Q.2.2.2.2.2.2.1.1, Q.2.2.2.2.2.2.1.2.1, u⟩
section Pa
variable {L : Nat} {xs : Nat → Int32}
theorem pr_act {D : Nat} {Mx Mm : MT} {args : List Value} (vb : Nat) (x y : Int32)
    (tx : ∀ (h : AH) (K : Nat → Int32) (np nt nd nl : Nat) (LSs : Nat → List CLE) (E : List Int32), ShOK h → RfOK h → HG h 1 K np nt nd nl LSs E → VH K np nt → KB K → (∀ j, 9 ≤ j → gI h 43 j = 0) → Rp D Mx 0 (entL (.ref 0 :: args) Mx.2.2.1) [] h (ActR h K np nt E (obR K (flO nl LSs (K 108)) np nt vb x y)))
    (tm : ∀ (h : AH) (fl : Option (List CLE)) (np nt : Nat) (US : List (Nat → Int32)), MA h fl np nt US → Rp D Mm 0 (entL (.ref 100 :: args) Mm.2.2.1) [] h (AmR h US (obR (gI h 102) fl np nt vb x y))) : Pr (Ivt L xs) D Mx Mm args := by
  intro n h I
  obtain ⟨np, nt, nd, nl, no, LSs, E, US, C1, C2, C3⟩ := I.2.2.1
  have V := C1.2.1.1
  have B := C1.2.1.2.1
  have VV : AcV (obR (gI h 102) (flO nl LSs (gI h 102 108)) np nt vb x y) := AcV.ob V B vb x y
  have ob := ob_is (fl := flO nl LSs (gI h 102 108)) V B vb x y
  refine (tx h (gI h 102) np nt nd nl LSs E I.1.1 I.1.2.1 C1.1 V B I.2.1.1).imp (fun r h1 p => ?_)
  obtain ⟨g, AQ, e, e1⟩ := p
  refine ⟨_, e, ?_⟩
  have eg : gI g 102 = gI h 102 := AQ.1.fun (fun _ => rfl)
  have ug : LGm g US := C1.2.2.2.fr AQ.1 rfl (fun _ => rfl)
  generalize eq : obR (gI h 102) (flO nl LSs (gI h 102 108)) np nt vb x y = q at AQ e e1 VV ob
  have fin : ∀ hh : AH, hh = h1 → Fr ycX g hh → RfOK hh → Rp D Mm 0 (entL (.ref 100 :: args) Mm.2.2.1) [] h1 (AmR h1 US q) := fun hh e3 F3 R3 => by
    rw [← e3]
    have e4 : gI hh 102 = gI h 102 := (F3.fun (fun _ => rfl)).trans eg
    have t2 := tm hh (flO nl LSs (gI h 102 108)) np nt US (C1.mh (F3.S AQ.2.1) R3 e4 (ug.fr F3 rfl (fun _ => rfl)))
    rw [e4, eq] at t2
    exact t2
  rcases ob with ⟨m, hm1, hm2, rfl⟩ | ⟨m, oo, f, s, hm, UO, -, V', B', e7, rfl⟩
  · obtain ⟨k, hk, ek⟩ : ∃ k, (k = 1 ∨ k = 2 ∨ k = 3 ∨ k = 5 ∨ k = 6) ∧ ((∀ g, acF (-nI m, none) g = rcH g k) ∧ ∀ g, amF (-nI m, none) g = rfH g k) := by
      rcases VV with ⟨a1, a2⟩ | ⟨a1, a2⟩ | ⟨x', a', hx, a1, a2⟩
      · exact ⟨2, by omega, fun g => by unfold acF; exact (if_neg (fun z => Bool.false_ne_true z)).trans (if_pos a1), fun g => by unfold amF; exact (if_neg (fun z => Bool.false_ne_true z)).trans (if_pos a1)⟩
      · refine ⟨3, by omega, fun g => ?_, fun g => ?_⟩
        · unfold acF
          exact (if_neg (fun z => Bool.false_ne_true z)).trans (if_neg (fun z => absurd (a1.symm.trans z) (by decide)))
        · unfold amF
          exact (if_neg (fun z => Bool.false_ne_true z)).trans (if_neg (fun z => absurd (a1.symm.trans z) (by decide)))
      · cases a2
    rw [ek.1] at e1
    refine (fin (rcH g k) e1.symm (ycX_r g k) (AQ.2.2.1.rc k)).imp (fun r2 h2 p2 => ?_)
    obtain ⟨g', ⟨F2, k2, l2⟩, e3, e4⟩ := p2
    refine ⟨e3, ?_⟩
    rw [ek.2] at e4
    rw [e1] at F2 k2 l2
    have e102 : gI (rcH g k) 102 = gI h 102 := ((ycX_r g k).fun (fun _ => rfl)).trans eg
    rw [e102] at k2 l2
    have R2 : RfOK g' := F2.R (AQ.2.2.1.rc k) (by decide)
    have cc := act_core C1 I.1.1 (R2.rf k) AQ (ycX_r g k) F2 k2 l2 (rfF_r g' k) V B (fun j _ => rfl) C1.2.2.1
    have An := ANSW.no hk I.2.2.2.2.2.1 AQ.1 tk_n F2 am_n
    rw [e4]
    have e5 : gI (rfH g' k) 102 = gI h 102 := ((rfF_r g' k).fun (fun _ => rfl)).trans k2
    refine (I.put (Y := noX) cc.1 Fr.rfl' at_mu (fun _ _ _ => rfl) (R2.rf k) ⟨np, nt, nd, nl, no, LSs, E, US, cc.2, ?_, ?_⟩ An).up
    · rw [e5]
      exact (((C2.fr AQ.1 tk_a).fr (rcF_r g k) rc_a).fr F2 am_a).fr (rfF_r g' k) rf_a
    · rw [e5]
      exact (((C3.fr2 AQ.1 rfl (fun _ => rfl) (fun _ => rfl) tk_w).fr2 (rcF_r g k) rfl (fun _ => rfl) (fun _ => rfl) rc_w).fr2 F2 rfl (fun _ => rfl) (fun _ => rfl) am_w).fr2 (rfF_r g' k) rfl (fun _ => rfl) (fun _ => rfl) rf_w
  · have ea : acF (nI m, some (oo, f, s)) g = acH g := by unfold acF; exact if_pos rfl
    rw [ea] at e1
    refine (fin (acH g) e1.symm (ycX_a g) AQ.2.2.1.ac).imp (fun r2 h2 p2 => ?_)
    obtain ⟨g', ⟨F2, k2, l2⟩, e3, e4⟩ := p2
    refine ⟨e3, ?_⟩
    rw [show amF (nI m, some (oo, f, s)) g' = gdH g' by unfold amF; exact if_pos rfl] at e4
    rw [e1] at F2 k2 l2
    have e102 : gI (acH g) 102 = gI h 102 := ((ycX_a g).fun (fun _ => rfl)).trans eg
    rw [e102] at k2 l2
    have R2 : RfOK g' := F2.R AQ.2.2.1.ac (by decide)
    have cc := act_core C1 I.1.1 R2.gd AQ (ycX_a g) F2 k2 l2 (rfF_g g') V' B' e7 (UR_act V.1 C1.2.2.1 UO)
    have An := (ANSW.ok I.2.2.2.2.2.1 AQ.1 tk_n F2 am_n).1
    rw [e4]
    have c7 : gI (gdH g') 52 7 = nI 0 := (gd_I g' (by decide) 7).trans (F2.I 52 7 rfl)
    have c8 : gI (gdH g') 52 8 = nI 0 := (gd_I g' (by decide) 8).trans (F2.I 52 8 rfl)
    exact (I.put (Y := noX) cc.1 Fr.rfl' at_mu (fun _ _ _ => rfl) R2.gd ⟨np, nt, nd, nl, no, LSs, _, _, cc.2, CAB.no c7, CWY.no c8⟩ An).up
theorem p_draw (a1 a2 : Int32) : Pr (Ivt L xs) 103 M_X11_draw M_X12_draw [.int a1, .int a2] :=
  pr_act 0 a1 a2 (fun h K np nt nd nl LSs E S R G V B Z => t_draw _ S R G V B Z a1 a2) (fun h fl np nt US A => s_draw _ A a1 a2)
theorem p_swap (a1 a2 : Int32) : Pr (Ivt L xs) 103 M_X11_swap M_X12_swap [.int a1, .int a2] :=
  pr_act 1 a1 a2 (fun h K np nt nd nl LSs E S R G V B Z => t_swap _ S R G V B Z a1 a2) (fun h fl np nt US A => s_swap _ A a1 a2)
theorem p_drop (a1 : Int32) : Pr (Ivt L xs) 103 M_X11_drop M_X12_drop [.int a1] :=
  pr_act 2 a1 0 (fun h K np nt nd nl LSs E S R G V B Z => t_drop _ S R G V Z a1) (fun h fl np nt US A => s_drop _ A a1)
theorem p_pass : Pr (Ivt L xs) 103 M_X11_pass M_X12_pass [] :=
  pr_act 3 0 0 (fun h K np nt nd nl LSs E S R G V B Z => t_pass _ S R G V B Z) (fun h fl np nt US A => s_pass _ A)
end Pa
