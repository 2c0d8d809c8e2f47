def hcX (k _j : Nat) : Bool := decide (1 ≤ k) && (decide (k < 17) && !(k == 14))
def hkX (k _j : Nat) : Bool := k == 102
def exX (k j : Nat) : Bool := hcX k j || (hkX k j || ((k == 0 && j == 14) || ((k == 52 && (j == 7 || j == 8)) || (k == 100 && (j == 0 || j == 32)))))
theorem exX_c {h g : AH} (F : Fr hcX h g) : Fr exX h g := F.weak (fun k j e => by unfold exX at e; rw [Bool.or_eq_false_iff] at e; exact e.1)
theorem exX_k {h g : AH} (F : Fr hkX h g) : Fr exX h g := F.weak (fun k j e => by unfold exX at e; rw [Bool.or_eq_false_iff, Bool.or_eq_false_iff] at e; exact e.2.1)
theorem ex_all {h g g' : AH} (Fc : Fr hcX h g) (Fm : Fr hkX (acH g) g') : Fr exX h (gdH g') ∧ Fr exX h (gaH g') := by
  have F1 : Fr exX h (acH g) := (((exX_c Fc).sI rfl).sI rfl).sI rfl
  have F2 : Fr exX h g' := F1.trans (exX_k Fm)
  exact ⟨F2.sI rfl, (F2.sI rfl).sI rfl⟩
theorem ex_mu : ∀ k j, muS k j = true → exX k j = false := by
  intro k j e
  rw [Bool.eq_false_iff]
  intro x
  simp only [muS, iS, tS, dS, zS, exX, hcX, hkX, Bool.or_eq_true, Bool.and_eq_true, beq_iff_eq, decide_eq_true_eq] at e x
  omega
theorem ex_T : ∀ k j, 129 ≤ k → exX k j = false := by
  intro k j e
  rw [Bool.eq_false_iff]
  intro x
  simp only [exX, hcX, hkX, Bool.or_eq_true, Bool.and_eq_true, beq_iff_eq, decide_eq_true_eq] at x
  omega
theorem hc_n : ∀ k j, nS k j = true → hcX k j = false := by
  intro k j e
  rw [Bool.eq_false_iff]
  intro x
  simp only [nS, hcX, Bool.or_eq_true, Bool.and_eq_true, beq_iff_eq, decide_eq_true_eq] at e x
  omega
theorem hk_n : ∀ k j, nS k j = true → hkX k j = false := by
  intro k j e
  rw [Bool.eq_false_iff]
  intro x
  simp only [nS, hkX, Bool.or_eq_true, Bool.and_eq_true, beq_iff_eq, decide_eq_true_eq] at e x
  omega
theorem RfOK.gd {h : AH} (R : RfOK h) : RfOK (gdH h) := fun a b c e => R a b c e
theorem RfOK.ga {h : AH} (R : RfOK h) : RfOK (gaH h) := fun a b c e => R a b c e
theorem gd_I (g : AH) {k : Nat} (hk : k ≠ 100) (j : Nat) : gI (gdH g) k j = gI g k j := gI_ne _ _ _ _ hk
theorem ga_I (g : AH) {k : Nat} (hk : k ≠ 100) (j : Nat) : gI (gaH g) k j = gI g k j := (gI_ne _ _ _ _ hk).trans (gI_ne _ _ _ _ hk)
theorem Ivt.set {L n : Nat} {xs : Nat → Int32} {h g g' h2 : AH} (I : Ivt L xs n h) (Fc : Fr hcX h g) (Fm : Fr hkX (acH g) g') (R2 : RfOK g') (e2 : h2 = gdH g' ∨ h2 = gaH g') (C2 : ∃ np nt nd nl no LSs E US, CORE h2 np nt nd nl no LSs E US) : Ivt L xs n h2 := by
  have F := ex_all Fc Fm
  have A := ANSW.ok I.2.2.2.2.2.1 Fc hc_n Fm hk_n
  have c7 : gI g' 52 7 = nI 0 := Fm.I 52 7 rfl
  have c8 : gI g' 52 8 = nI 0 := Fm.I 52 8 rfl
  obtain ⟨np, nt, nd, nl, no, LSs, E, US, C⟩ := C2
  rcases e2 with rfl | rfl
  · exact I.put (Y := noX) F.1 Fr.rfl' ex_mu (fun _ _ _ => rfl) R2.gd ⟨np, nt, nd, nl, no, LSs, E, US, C, CAB.no ((gd_I g' (by decide) 7).trans c7), CWY.no ((gd_I g' (by decide) 8).trans c8)⟩ A.1
  · exact I.put (Y := noX) F.2 Fr.rfl' ex_mu (fun _ _ _ => rfl) R2.ga ⟨np, nt, nd, nl, no, LSs, E, US, C, CAB.no ((ga_I g' (by decide) 7).trans c7), CWY.no ((ga_I g' (by decide) 8).trans c8)⟩ A.2
def HAc (f : Nat → Nat → Int32) (K : Nat → Int32) (np nt nd nl : Nat) : Prop := f 1 0 = nI np ∧ f 1 5 = nI nt ∧ f 1 9 = nI nd ∧ f 1 12 = K 106 ∧ f 1 16 = nI nl ∧ f 1 18 = K 108 ∧ (∀ p, p < 6 → f (1 + 1) p = K (7 + p)) ∧ (∀ p, p < 6 → f (1 + 2) p = K (13 + p)) ∧ (∀ p, p < 6 → f (1 + 3) p = K p) ∧ (∀ i, i < 48 → f (1 + 4) i = K (19 + i)) ∧ (∀ t, t < 8 → f (1 + 5) t = K (67 + t)) ∧ (∀ t, t < 8 → f (1 + 6) t = K (75 + t)) ∧ (∀ t, t < 8 → f (1 + 7) t = hOf K (nI t) np) ∧ (∀ e, e < 3 → f (1 + 8) e = K (83 + e)) ∧ (∀ e, e < 3 → f (1 + 9) e = K (86 + e)) ∧ (∀ i, i < 6 → f (1 + 10) i = K (89 + 2 * i)) ∧ (∀ i, i < 6 → f (1 + 11) i = K (90 + 2 * i)) ∧ f (1 + 12) 0 = K 6 ∧ f (1 + 12) 1 = K 101 ∧ f (1 + 12) 2 = K 102
theorem HA.c {h : AH} {K : Nat → Int32} {np nt nd nl : Nat} (H : HA h 1 K np nt nd nl) : HAc (gI h) K np nt nd nl := H.2
theorem HAc.ha {h : AH} {K : Nat → Int32} {np nt nd nl : Nat} (A : HOK h 1) (H : HAc (gI h) K np nt nd nl) : HA h 1 K np nt nd nl := ⟨A, H⟩
theorem HAc.cg {f f' : Nat → Nat → Int32} {K : Nat → Int32} {np nt nd nl : Nat} (H : HAc f K np nt nd nl) (e : ∀ k j, 1 ≤ k → k < 17 → f' k j = f k j) : HAc f' K np nt nd nl := by
  obtain ⟨a1, a2, a3, a4, a5, a6, a7, a8, a9, b1, b2, b3, b4, b5', b6, b7, b8, b9, c1, c2⟩ := H
  have d : ∀ k j, k < 16 → f' (1 + k) j = f (1 + k) j := fun k j hk => e (1 + k) j (by omega) (by omega)
  exact ⟨(e _ _ (by omega) (by omega)).trans a1, (e _ _ (by omega) (by omega)).trans a2, (e _ _ (by omega) (by omega)).trans a3, (e _ _ (by omega) (by omega)).trans a4, (e _ _ (by omega) (by omega)).trans a5, (e _ _ (by omega) (by omega)).trans a6, fun p hp => (d 1 p (by omega)).trans (a7 p hp), fun p hp => (d 2 p (by omega)).trans (a8 p hp), fun p hp => (d 3 p (by omega)).trans (a9 p hp), fun p hp => (d 4 p (by omega)).trans (b1 p hp), fun p hp => (d 5 p (by omega)).trans (b2 p hp), fun p hp => (d 6 p (by omega)).trans (b3 p hp), fun p hp => (d 7 p (by omega)).trans (b4 p hp), fun p hp => (d 8 p (by omega)).trans (b5' p hp), fun p hp => (d 9 p (by omega)).trans (b6 p hp), fun p hp => (d 10 p (by omega)).trans (b7 p hp), fun p hp => (d 11 p (by omega)).trans (b8 p hp), (d 12 0 (by omega)).trans b9, (d 12 1 (by omega)).trans c1, (d 12 2 (by omega)).trans c2⟩
theorem HLw.set {X : Nat → Nat → Bool} {h g : AH} {b nl : Nat} {LSs : Nat → List CLE} (H : HLw h b nl LSs) (Q : HQ h b nl) (F : Fr X h g) (A : HOK g b) (e16 : gI g b 16 = nI nl) (h13 : ∀ j, X (b + 13) j = false) (hT : ∀ k j, 129 ≤ k → X k j = false) : HLw g b nl LSs := ⟨A, H.2.1, e16, fun l hl => by
  obtain ⟨tx, kh, kc, nh, nc, q, T⟩ := H.2.2.2 l hl
  obtain ⟨tx', kh', kc', q1, q2, q3, q4, q5, q6⟩ := Q l hl
  rw [q] at q1
  cases q1
  have e1 := T.2.1
  have e2 := T.2.2.1
  rw [q3] at e1
  rw [q5] at e2
  cases e1
  cases e2
  exact ⟨tx, kh, kc, nh, nc, (F.Rr _ _ (h13 l)).trans q, T.fq F (fun j => hT _ _ q2) (fun j => hT _ _ q4) (fun j => hT _ _ q6)⟩⟩
theorem HG.set {X : Nat → Nat → Bool} {h g : AH} {K K' : Nat → Int32} {np nt nd nl np' nt' nd' : Nat} {LSs : Nat → List CLE} {E E' : List Int32} (G : HG h 1 K np nt nd nl LSs E) (F : Fr X h g) (A : HA g 1 K' np' nt' nd' nl) (Lg : LOG g 1 E') (h13 : ∀ j, X (1 + 13) j = false) (hT : ∀ k j, 129 ≤ k → X k j = false) : HG g 1 K' np' nt' nd' nl LSs E' := ⟨A, G.2.1.set G.2.2.2.2 F A.1 A.2.2.2.2.2.1 h13 hT, G.2.2.1.fr F h13, Lg, G.2.2.2.2.fr F h13 hT⟩
theorem gd_F (g : AH) (k : Nat) (hk : k ≠ 100) : gI (gdH g) k = gI g k := funext fun j => gd_I g hk j
theorem ga_F (g : AH) (k : Nat) (hk : k ≠ 100) : gI (gaH g) k = gI g k := funext fun j => ga_I g hk j
theorem ac_I (g : AH) {k : Nat} (hk : k ≠ 0 ∧ k ≠ 52) (j : Nat) : gI (acH g) k j = gI g k j := ((gI_ne _ _ _ _ hk.2).trans (gI_ne _ _ _ _ hk.2)).trans (gI_ne _ _ _ _ hk.1)
theorem cl_lo {g g' : AH} (Fm : Fr hkX (acH g) g') (k j : Nat) (h1 : 1 ≤ k) (h2 : k < 17) : gI g' k j = gI g k j := (Fm.I k j (by unfold hkX; rw [beq_eq_false_iff_ne]; omega)).trans (ac_I g (by omega) j)
/-- what is kept changed, what can be undone not -/
theorem CORE.keep {h g g' : AH} {np nt nd nl no nd' no' : Nat} {LSs : Nat → List CLE} {E : List Int32} {US : List (Nat → Int32)} (C : CORE h np nt nd nl no LSs E US) (S : ShOK h) (R2 : RfOK g') (Fc : Fr hcX h g) (Fm : Fr hkX (acH g) g') (A : HAc (gI g) (gI g' 102) np nt nd' nl) (Q : KST (gI g' 102) np nt nd' nl no' LSs) (e7 : ∀ j, j < 7 → gI g' 102 j = gI h 102 j) (l1 : gI g 15 1 = gI h 15 1) (l2 : ∀ j, gI g 16 j = gI h 16 j) : CORE (gdH g') np nt nd' nl no' LSs E US := by
  have F := (ex_all Fc Fm).1
  unfold CORE
  rw [gd_F g' 102 (by decide)]
  have A1 : HAc (gI (gdH g')) (gI g' 102) np nt nd' nl := A.cg (fun k j h1 h2 => (gd_I g' (by omega) j).trans (cl_lo Fm k j h1 h2))
  have A2 := A1.ha (HOK.of (F.S S) R2.gd (Or.inl rfl))
  have Lg := C.1.2.2.2.1
  refine ⟨C.1.set F A2 ⟨Lg.1, ?_, fun j x hj => ?_⟩ (fun _ => rfl) ex_T, Q, ?_, ?_⟩
  · exact ((gd_I g' (by decide) 1).trans (cl_lo Fm 15 1 (by decide) (by decide))).trans (l1.trans Lg.2.1)
  · exact ((gd_I g' (by decide) j).trans (cl_lo Fm 16 j (by decide) (by decide))).trans ((l2 j).trans (Lg.2.2 j x hj))
  · exact URr_congr (fun j hj => (e7 j hj).symm) _ _ C.2.2.1
  · have u := C.2.2.2
    refine ⟨u.1, ?_, fun i r hi j hj => ?_⟩
    · exact (((gI_off _ _ _ (by decide)).trans (Fm.I 100 32 rfl)).trans (ac_I g (by decide) 32)).trans ((Fc.I 100 32 rfl).trans u.2.1)
    · exact (((gd_I g' (by decide) _).trans (Fm.I 113 _ rfl)).trans (ac_I g (by decide) _)).trans ((Fc.I 113 _ rfl).trans (u.2.2 i r hi j hj))
/-- what is kept changed, nothing left to undo -/
theorem CORE.cl {h g g' : AH} {np nt nd nl no np' nt' nd' no' : Nat} {LSs : Nat → List CLE} {E : List Int32} {US : List (Nat → Int32)} (C : CORE h np nt nd nl no LSs E US) (S : ShOK h) (R2 : RfOK g') (Fc : Fr hcX h g) (Fm : Fr hkX (acH g) g') (A : HAc (gI g) (gI g' 102) np' nt' nd' nl) (Q : KST (gI g' 102) np' nt' nd' nl no' LSs) (l1 : gI g 15 1 = nI 0) : CORE (gaH g') np' nt' nd' nl no' LSs [] [] := by
  have F := (ex_all Fc Fm).2
  unfold CORE
  rw [ga_F g' 102 (by decide)]
  have A1 : HAc (gI (gaH g')) (gI g' 102) np' nt' nd' nl := A.cg (fun k j h1 h2 => (ga_I g' (by omega) j).trans (cl_lo Fm k j h1 h2))
  have A2 := A1.ha (HOK.of (F.S S) R2.ga (Or.inl rfl))
  refine ⟨C.1.set F A2 ⟨by decide, ?_, fun j x hj => ?_⟩ (fun _ => rfl) ex_T, Q, UR_nil _, by decide, ?_, fun i r hi => ?_⟩
  · exact ((ga_I g' (by decide) 1).trans (cl_lo Fm 15 1 (by decide) (by decide))).trans l1
  · cases hj
  · rfl
  · cases hi
