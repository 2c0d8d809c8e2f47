section Pk
variable {L : Nat} {xs : Nat → Int32}
theorem p_orders : Pr (Ivt L xs) 103 M_X11_orders M_X12_orders [] := by
  intro n h I
  obtain ⟨np, nt, nd, nl, no, LSs, E, US, C1, C2, C3⟩ := I.2.2.1
  obtain ⟨Lt, l1, l2, l3, l4, l5, l6, l7⟩ := I.2.2.2.2.1
  have hT : (TLo (gI h 36) Lt).length ≤ 400 := Nat.le_trans (toks_len (gI h 36) Lt Lt 0) (by omega)
  have eK : ∀ j, j < 109 → lyK (gI h 102) (cT (gI h 36) (TLo (gI h 36) Lt)) (vT (gI h 36) (TLo (gI h 36) Lt)) 6 (TLo (gI h 36) Lt).length j = gI h 102 j := fun j hj => lyK_lo hj
  have Q1 : KST (lyK (gI h 102) (cT (gI h 36) (TLo (gI h 36) Lt)) (vT (gI h 36) (TLo (gI h 36) Lt)) 6 (TLo (gI h 36) Lt).length) np nt nd nl no LSs := C1.2.1.ly6 hT
  have U1 : UR np nt (lyK (gI h 102) (cT (gI h 36) (TLo (gI h 36) Lt)) (vT (gI h 36) (TLo (gI h 36) Lt)) 6 (TLo (gI h 36) Lt).length) E US := C1.2.2.1.lo eK
  have v1 := C1.2.1.1.1
  have so : ∀ h1, ShOK h1 → RfOK h1 → Fr ocX h h1 ∨ Fr opX h h1 → gI h1 102 = gI h 102 → gI h1 107 = gI h 107 → gI h1 106 = gI h 106 → (∀ j, gI h1 113 j = gI h 113 j) → (∀ j, gI h1 100 j = gI h 100 j) → Rp (23 + 80) M_X12_orders 0 [some (.ref aM), none, none, none, none] [] h1 (fun r h' => ∃ g1, Fr rsX (sI h1 100 50 (-1)) g1 ∧ gI g1 aM fm_taped = nI 0 ∧ match RDg true (gI h 36) Lt with
    | .error e => gI g1 aM fm_fault = nI (pT Lt (TLo (gI h 36) Lt) e) ∧ r = some (.int (-nI 6)) ∧ h' = rfH g1 6
    | .ok LS => gI g1 aM fm_fault = -1 ∧ MOQ g1 (flO nl LSs (gI h 102 108)) np nt (lyK (gI h 102) (cT (gI h 36) (TLo (gI h 36) Lt)) (vT (gI h 36) (TLo (gI h 36) Lt)) 6 (TLo (gI h 36) Lt).length) US (orL (flO nl LSs (gI h 102 108)) np nt LS 0 (lyK (gI h 102) (cT (gI h 36) (TLo (gI h 36) Lt)) (vT (gI h 36) (TLo (gI h 36) Lt)) 6 (TLo (gI h 36) Lt).length, E, US, 0, -1)) r h') := by
    intro h1 S1 R1 _ e102 e107 e106 e113 e100
    have A : MA h1 (flO nl LSs (gI h 102 108)) np nt US := C1.mh S1 R1 e102 ⟨C1.2.2.2.1, (e100 32).trans C1.2.2.2.2.1, fun i r hi j hj => (e113 _).trans (C1.2.2.2.2.2 i r hi j hj)⟩
    have e7 : gI h1 am_tape = gI h 36 := e107.trans l4
    have t := s_orders 23 A (E := E) (by rw [e102]; exact C1.2.2.1) (fun i hi => (congrFun e106 i).trans (l7 i hi)) (L := Lt) l1 (by rw [e7]; exact fun i => (l5 i).2) ((e100 13).trans l3)
    rw [e7, e102] at t
    exact t
  have k8 : lyK (gI h 102) (cT (gI h 36) (TLo (gI h 36) Lt)) (vT (gI h 36) (TLo (gI h 36) Lt)) 6 (TLo (gI h 36) Lt).length 108 = gI h 102 108 := eK 108 (by omega)
  have to := t_orders 65 I.1.1 I.1.2.1 (C1.1.lo v1 eK) Q1.1 Q1.2.1 U1 I.2.1.1 I.2.1.2 l1 l2
  rw [k8] at to
  match hq : RDg true (gI h 36) Lt with
  | .error e =>
    rw [hq] at to so
    refine to.imp (fun r h1 p => ?_)
    obtain ⟨g1, F1, z1, z2, rfl, e1⟩ := p
    refine ⟨_, rfl, ?_⟩
    rw [e1]
    have F0 : Fr oaX h (sI h 0 16 (-1)) := Fr.rfl'.sI rfl
    have Fa : Fr oaX h g1 := F0.trans (oaX_rd F1)
    have R1 : RfOK g1 := F1.R (I.1.2.1.put _ _ _) (by decide)
    have Fb : Fr oaX h (rcH g1 6) := (Fa.sI rfl).sI rfl
    have Fc : Fr ocX h (rcH g1 6) := ((((Fr.rfl'.sI rfl : Fr ocX h (sI h 0 16 (-1)))).trans (ocX_rd F1)).sI rfl).sI rfl
    have g65 : ∀ j, gI g1 65 j = gI h 65 j := fun j => (F1.I 65 j rfl).trans (gI_ne _ _ _ _ (by decide))
    have g16 : gI g1 0 16 = -1 := (F1.I 0 16 rfl).trans (gI_hit _ _ _ _)
    refine (so (rcH g1 6) (Fb.S I.1.1) (R1.rc 6) (Or.inl Fc) (Fc.fun (fun _ => oc_no (by omega))) (Fc.fun (fun _ => oc_no (by omega))) (Fc.fun (fun _ => oc_no (by omega))) (fun j => Fc.I _ _ (oc_no (by omega))) (fun j => Fc.I _ _ (oc_no (by omega)))).imp (fun r2 h2 p2 => ?_)
    obtain ⟨g2, F2, y1, y2, y3, e2⟩ := p2
    refine ⟨y3, ?_⟩
    have F2' : Fr oaX h g2 := ((Fb.sI rfl).trans (oaX_rs F2))
    have R2 : RfOK g2 := F2.R ((R1.rc 6).put _ _ _) (by decide)
    have F : Fr oaX h h2 := by
      rw [e2]
      exact (F2'.sI rfl).sI rfl
    have lo : ∀ k j, k < 100 → gI h2 k j = gI (rcH g1 6) k j := fun k j hk => by
      rw [e2, rfH_I _ _ (by omega), F2.I k j (by
        rw [Bool.eq_false_iff]
        intro x
        simp only [rsX, Bool.or_eq_true, Bool.and_eq_true, beq_iff_eq] at x
        omega), gI_ne _ _ _ _ (by omega)]
    have A : ANSW h2 := by
      refine ANSW.ref (k := 6) (by omega) I.2.2.2.2.2.1 ?_ ?_ ?_ (fun j => ?_) (fun j => ?_)
      · rw [lo 0 14 (by decide), rcH_0, e2, rfH_0]
      · rw [lo 0 15 (by decide), F.I 100 6 rfl, rcH_1 _ _ (by decide), F1.I 0 15 rfl]
        exact I.2.2.2.2.2.1.2.1
      · rw [lo 0 16 (by decide), rcH_1 _ _ (by decide), g16, e2, rfH_1 _ _ (by decide), F2.I 100 50 rfl]
        exact (gI_hit _ _ _ _).symm
      · rw [lo 65 j (by decide)]
        exact rc65 g65 j
      · rw [e2]
        exact rf101 (fun j => (F2.I 101 j rfl).trans ((gI_ne _ _ _ _ (by decide)).trans (Fc.I 101 j (oc_no (by omega))))) j
    refine (I.bad F (by rw [e2]; exact R2.rf 6) ?_ ?_ ?_ A).up
    · rw [lo 35 2 (by decide), rcH_I _ _ (by decide)]
      exact z1
    · rw [e2, rfH_1 _ _ (by decide)]
      exact y1
    · rw [lo 35 3 (by decide), rcH_I _ _ (by decide), z2, e2, rfH_1 _ _ (by decide)]
      exact y2.symm
  | .ok LS =>
    rw [hq] at to so
    refine to.imp (fun r h1 p => ?_)
    obtain ⟨g1, F1, z1, z2, g2, F3, z43, z64, S1, R1, p⟩ := p
    have hTm := (rdL_bnd (cT_end _ _) 12 0 0 0 LS (Nat.zero_le _) (by omega) hq).2.2
    have Fg : Fr ocX h g2 := ((Fr.rfl'.sI rfl : Fr ocX h (sI h 0 16 (-1))).trans (ocX_rd F1)).trans (ocX_ow F3)
    have g65 : ∀ j, gI g2 65 j = gI h 65 j := fun j => (F3.I 65 j rfl).trans ((F1.I 65 j rfl).trans (gI_ne _ _ _ _ (by decide)))
    have g15 : gI g2 0 15 = gI h 0 15 := (F3.I 0 15 rfl).trans ((F1.I 0 15 rfl).trans (gI_off _ _ _ (by decide)))
    have w2 : gI g2 35 2 = nI 0 := (F3.I 35 2 rfl).trans z1
    have w3 : gI g2 35 3 = -1 := (F3.I 35 3 rfl).trans z2
    match ho : orL (flO nl LSs (gI h 102 108)) np nt LS 0 (lyK (gI h 102) (cT (gI h 36) (TLo (gI h 36) Lt)) (vT (gI h 36) (TLo (gI h 36) Lt)) 6 (TLo (gI h 36) Lt).length, E, US, 0, -1) with
    | .error m =>
      rw [ho] at p
      obtain ⟨rfl, e1, G1⟩ := p
      refine ⟨_, rfl, ?_⟩
      have Fx : Fr ocX g2 (cpyH 17 1 (sI g2 0 16 (nI m))) := (Fr.rfl'.sI rfl : Fr ocX g2 (sI g2 0 16 (nI m))).trans (ocX_h1 (cpy_fr 17 1 _))
      have x0 : ∀ j, gI (cpyH 17 1 (sI g2 0 16 (nI m))) 0 j = gI (sI g2 0 16 (nI m)) 0 j := fun j => (cpy_fr 17 1 _).I 0 j (hlX_n (by omega))
      have xh : ∀ k j, 17 ≤ k → gI (cpyH 17 1 (sI g2 0 16 (nI m))) k j = gI g2 k j := fun k j hk => ((cpy_fr 17 1 _).I k j (hlX_n (by omega))).trans (gI_ne _ _ _ _ (by omega))
      generalize cpyH 17 1 (sI g2 0 16 (nI m)) = gx at e1 Fx x0 xh
      have Fc : Fr ocX h h1 := by
        rw [e1]
        exact ((Fg.trans Fx).sI rfl).sI rfl
      refine (so h1 S1 R1 (Or.inl Fc) (Fc.fun (fun _ => oc_no (by omega))) (Fc.fun (fun _ => oc_no (by omega))) (Fc.fun (fun _ => oc_no (by omega))) (fun j => Fc.I _ _ (oc_no (by omega))) (fun j => Fc.I _ _ (oc_no (by omega)))).imp (fun r2 h2 p2 => ?_)
      obtain ⟨k1, F4, y1, y2, p2⟩ := p2
      rw [ho] at p2
      obtain ⟨k2, F5, Sk, Rk, y3, e2, e102, Lg, y50⟩ := p2
      refine ⟨y3, ?_⟩
      have e2 : h2 = rfH k2 3 := e2
      have Fm : Fr omX h1 h2 := by
        rw [e2]
        exact ((((Fr.rfl'.sI rfl : Fr omX h1 (sI h1 100 50 (-1))).trans (omX_rs F4)).trans (omX_mo F5)).sI rfl).sI rfl
      have F : Fr opX h h2 := (opX_c Fc).trans (opX_m Fm)
      have lo : ∀ k j, (k < 100 ∨ k = 106 ∨ k = 107 ∨ 128 ≤ k) → gI h2 k j = gI h1 k j := fun k j hk => Fm.I k j (om_no hk)
      have f102 : gI h2 102 = _ := (funext fun j => by rw [e2]; exact rfH_I _ _ (by decide) j : gI h2 102 = gI k2 102).trans e102
      have Gf := G1.fr Fm (fun o j ho => om_no (by omega)) (fun k j hk => om_no (by omega))
      have H1 := Gf.1
      have F52 : Fr (fun k j => ocX k j || omX k j) h h2 := (Fc.weak (fun k j e => by rw [Bool.or_eq_false_iff] at e; exact e.1)).trans (Fm.weak (fun k j e => by rw [Bool.or_eq_false_iff] at e; exact e.2))
      have xa : ∀ k j, aS k j = true → (ocX k j || omX k j) = false := by
        intro k j e
        rw [Bool.eq_false_iff]
        intro x
        simp only [aS, ocX, omX, Bool.or_eq_true, Bool.and_eq_true, beq_iff_eq, decide_eq_true_eq] at e x
        omega
      have xw : ∀ k j, wS2 k j = true → (ocX k j || omX k j) = false := by
        intro k j e
        rw [Bool.eq_false_iff]
        intro x
        simp only [wS2, ocX, omX, Bool.or_eq_true, Bool.and_eq_true, beq_iff_eq, decide_eq_true_eq] at e x
        omega
      have k6 := Q1.2.2.2.2.2.2.1.2.2.2.1
      have hno := Q1.2.2.2.2.1.1
      have hnd := Q1.2.2.2.1.1
      have hnt := Q1.1.2.1
      have TDf : TD h2 (lyK (gI h 102) (cT (gI h 36) (TLo (gI h 36) Lt)) (vT (gI h 36) (TLo (gI h 36) Lt)) 6 (TLo (gI h 36) Lt).length) no := ⟨H1.2.2.2.2.1.trans k6, H1.2.2.2.2.2.2.2.2.2.2.2.2.2.2.2.2.1, H1.2.2.2.2.2.2.2.2.2.2.2.2.2.2.2.2.2.1⟩
      have A : ANSW h2 := by
        refine ANSW.ref (k := 3) (by omega) I.2.2.2.2.2.1 ?_ ?_ ?_ (fun j => ?_) (fun j => ?_)
        · rw [lo 0 14 (by omega), e1, rcH_0, e2, rfH_0]
        · rw [lo 0 15 (by omega), F.I 100 6 rfl, e1, rcH_1 _ _ (by decide), x0, gI_off _ _ _ (by decide), g15]
          exact I.2.2.2.2.2.1.2.1
        · rw [lo 0 16 (by omega), e1, rcH_1 _ _ (by decide), x0, gI_hit, e2, rfH_1 _ _ (by decide), y50]
        · rw [lo 65 j (by omega), e1]
          exact rc65 (fun j => (xh 65 j (by omega)).trans (g65 j)) j
        · rw [e2]
          exact rf101 (fun j => (F5.I 101 j rfl).trans ((F4.I 101 j rfl).trans ((gI_ne _ _ _ _ (by decide)).trans (Fc.I 101 j (oc_no (by omega)))))) j
      have z5 : ∀ k j, 17 ≤ k → k < 100 → k ≠ 65 → gI h2 k j = gI g2 k j := fun k j a1 a2 a3 => by
        rw [lo k j (by omega), e1, rcH_I _ _ (by omega), xh k j a1]
      have e36 : gI h2 36 = gI h 36 := F.fun (fun _ => rfl)
      have e107 : gI h2 107 = gI h 107 := F.fun (fun _ => rfl)
      refine (I.all F (by rw [e2]; exact Rk.rf 3) ⟨fun j hj => (z5 43 j (by omega) (by omega) (by omega)).trans (z43 j hj), fun j hj => (z5 64 j (by omega) (by omega) (by omega)).trans (z64 j hj)⟩ ⟨np, nt, nd, nl, no, LSs, E, US, ⟨by rw [f102]; exact Gf, by rw [f102]; exact Q1, by rw [f102]; exact U1, ?_⟩, ?_, ?_⟩ ⟨I.2.2.2.1.1.fr (by decide) F op_i, I.2.2.2.1.2.fr (by decide) F op_i⟩ ⟨0, by omega, (z5 35 2 (by omega) (by omega) (by omega)).trans w2, ?_, by rw [e36, e107]; exact l4, by rw [e36]; exact l5, ?_, fun i hi => (F.I 106 i rfl).trans (l7 i hi)⟩ A (I.2.2.2.2.2.2.fr F op_d)).up
      · exact ⟨Lg.1, by rw [e2, rfH_1 _ _ (by decide)]; exact Lg.2.1, fun i r hi j hj => by rw [e2, rfH_I _ _ (by decide)]; exact Lg.2.2 i r hi j hj⟩
      · rw [f102]
        exact (C2.fr F52 xa).lo eK hnd v1 hnt
      · rw [f102]
        exact (C3.lo eK hnd v1 hnt hno).via F52 xw TDf
      · rw [e2, rfH_1 _ _ (by decide), F5.I 100 13 rfl]
        exact y1
      · rw [z5 35 3 (by omega) (by omega) (by omega), w3, e2, rfH_1 _ _ (by decide), F5.I 100 14 rfl]
        exact y2.symm
    | .ok s =>
      rw [ho] at p
      obtain ⟨rfl, e1, G1⟩ := p
      refine ⟨_, rfl, ?_⟩
      have sk := orL_k LS 0 0 _ s hTm ⟨Q1.1, Q1.2.1, U1, Nat.le_refl _, Or.inl rfl⟩ ho
      have Fx : Fr ocX h (sI g2 0 16 (-1)) := Fg.sI rfl
      have x0 : ∀ j, j ≠ 16 → gI (sI g2 0 16 (-1)) 0 j = gI g2 0 j := fun j hj => gI_off _ _ _ hj
      have x16 : gI (sI g2 0 16 (-1)) 0 16 = -1 := gI_hit _ _ _ _
      have xh : ∀ k j, 17 ≤ k → gI (sI g2 0 16 (-1)) k j = gI g2 k j := fun k j hk => gI_ne _ _ _ _ (by omega)
      generalize sI g2 0 16 (-1) = gx at e1 Fx x0 x16 xh
      have Fc : Fr opX h h1 := by
        rw [e1]
        exact (((opX_c Fx).sI rfl).sI rfl).sI rfl
      have hx : ∀ k j, (k = 102 ∨ k = 113 ∨ k = 107 ∨ k = 106 ∨ k = 36 ∨ k = 100 ∨ k = 101) → gI h1 k j = gI h k j := fun k j hk => by
        rw [e1, ac_I _ (by omega)]
        exact Fx.I k j (oc_no hk)
      refine (so h1 S1 R1 (Or.inr Fc) (funext fun j => hx _ j (by omega)) (funext fun j => hx _ j (by omega)) (funext fun j => hx _ j (by omega)) (fun j => hx _ j (by omega)) (fun j => hx _ j (by omega))).imp (fun r2 h2 p2 => ?_)
      obtain ⟨k1, F4, y1, y2, p2⟩ := p2
      rw [ho] at p2
      obtain ⟨k2, F5, Sk, Rk, y3, e2, e102, Lg, y50⟩ := p2
      refine ⟨y3, ?_⟩
      have e2 : h2 = gdH k2 := e2
      have Fm : Fr omX h1 h2 := by
        rw [e2]
        exact (((Fr.rfl'.sI rfl : Fr omX h1 (sI h1 100 50 (-1))).trans (omX_rs F4)).trans (omX_mo F5)).sI rfl
      have F : Fr opX h h2 := Fc.trans (opX_m Fm)
      have lo : ∀ k j, (k < 100 ∨ k = 106 ∨ k = 107 ∨ 128 ≤ k) → gI h2 k j = gI h1 k j := fun k j hk => Fm.I k j (om_no hk)
      have gd1 : ∀ j, j ≠ 0 → gI h2 100 j = gI k2 100 j := fun j hj => by
        rw [e2]
        exact gI_off _ _ _ hj
      have f102 : gI h2 102 = s.1 := (funext fun j => by rw [e2]; exact gd_I k2 (by decide) j : gI h2 102 = gI k2 102).trans e102
      have Gf := G1.fr Fm (fun o j ho => om_no (by omega)) (fun k j hk => om_no (by omega))
      have z5 : ∀ k j, 17 ≤ k → k < 100 → k ≠ 52 → gI h2 k j = gI g2 k j := fun k j a1 a2 a3 => by
        rw [lo k j (by omega), e1, ac_I _ (by omega), xh k j a1]
      have A : ANSW h2 := by
        refine ANSW.mk' I.2.2.2.2.2.1 ?_ ?_ ?_ (fun j => ?_) (fun j => ?_)
        · rw [lo 0 14 (by omega), e1, e2]
          rfl
        · rw [lo 0 15 (by omega), F.I 100 6 rfl, e1]
          exact (show gI (acH gx) 0 15 = gI gx 0 15 from rfl).trans ((x0 15 (by decide)).trans (g15.trans I.2.2.2.2.2.1.2.1))
        · rw [lo 0 16 (by omega), gd1 50 (by decide), y50, F4.I 100 50 rfl, gI_hit, e1]
          exact (show gI (acH gx) 0 16 = gI gx 0 16 from rfl).trans x16
        · rw [z5 65 j (by omega) (by omega) (by omega), g65 j]
        · rw [e2, gd_I _ (by decide), F5.I 101 j rfl, F4.I 101 j rfl, gI_ne _ _ _ _ (by decide)]
          exact hx 101 j (by omega)
      have e36 : gI h2 36 = gI h 36 := F.fun (fun _ => rfl)
      have e107 : gI h2 107 = gI h 107 := F.fun (fun _ => rfl)
      have c7 : gI h2 52 7 = nI 0 := by
        rw [lo 52 7 (by omega), e1]
        rfl
      have c8 : gI h2 52 8 = nI 0 := by
        rw [lo 52 8 (by omega), e1]
        rfl
      refine (I.all F (by rw [e2]; exact Rk.gd) ⟨fun j hj => (z5 43 j (by omega) (by omega) (by omega)).trans (z43 j hj), fun j hj => (z5 64 j (by omega) (by omega) (by omega)).trans (z64 j hj)⟩ ⟨np, nt, nd, nl, no, LSs, s.2.1, s.2.2.1, ⟨by rw [f102]; exact Gf, by rw [f102]; exact Q1.act sk.1.1 sk.1.2.1 sk.2, by rw [f102]; exact sk.1.2.2.1, ?_⟩, CAB.no c7, CWY.no c8⟩ ⟨I.2.2.2.1.1.fr (by decide) F op_i, I.2.2.2.1.2.fr (by decide) F op_i⟩ ⟨0, by omega, (z5 35 2 (by omega) (by omega) (by omega)).trans w2, ?_, by rw [e36, e107]; exact l4, by rw [e36]; exact l5, ?_, fun i hi => (F.I 106 i rfl).trans (l7 i hi)⟩ A (I.2.2.2.2.2.2.fr F op_d)).up
      · exact ⟨Lg.1, (gd1 32 (by decide)).trans Lg.2.1, fun i r hi j hj => by rw [e2, gd_I _ (by decide)]; exact Lg.2.2 i r hi j hj⟩
      · rw [gd1 13 (by decide), F5.I 100 13 rfl]
        exact y1
      · rw [z5 35 3 (by omega) (by omega) (by omega), w3, gd1 14 (by decide), F5.I 100 14 rfl]
        exact y2.symm
end Pk
