def lwX (nl k j : Nat) : Bool := (k == 14 && j == nl) || ((k == 1 && j == 16) || ((k == 0 && j == 14) || ((k == 52 && (j == 7 || j == 8)) || ((k == 100 && decide (j ≠ 6 ∧ j ≠ 32 ∧ j ≠ 50 ∧ j ≠ 58)) || (k == 102 || (decide (109 ≤ k) && decide (k ≤ 111)))))))
def lrX (k j : Nat) : Bool := (k == 100 && decide (j ≠ 6 ∧ j ≠ 32 ∧ j ≠ 50 ∧ j ≠ 58)) || (k == 102 || (decide (109 ≤ k) && decide (k ≤ 111)))
theorem lrX_rs {h g : AH} (F : Fr rsX h g) : Fr lrX h g := F.weak (fun k j hx => by
  rw [Bool.eq_false_iff] at hx ⊢
  intro x
  refine hx ?_
  simp only [lrX, rsX, Bool.or_eq_true, Bool.and_eq_true, beq_iff_eq, decide_eq_true_eq] at x ⊢
  omega)
theorem lrX_ly {h g : AH} (F : Fr lyX h g) : Fr lrX h g := F.weak (fun k j hx => by
  rw [Bool.eq_false_iff] at hx ⊢
  intro x
  refine hx ?_
  simp only [lrX, lyX, Bool.or_eq_true, Bool.and_eq_true, beq_iff_eq, decide_eq_true_eq] at x ⊢
  omega)
theorem lw_i {nl : Nat} : ∀ k j, iS k j = true → (lwX nl) k j = false := by
  intro k j e
  rw [Bool.eq_false_iff]
  intro x
  simp only [iS, lwX, Bool.or_eq_true, Bool.and_eq_true, beq_iff_eq, decide_eq_true_eq] at e x
  omega
theorem lw_d {nl : Nat} : ∀ k j, dS k j = true → (lwX nl) k j = false := by
  intro k j e
  rw [Bool.eq_false_iff]
  intro x
  simp only [dS, lwX, Bool.or_eq_true, Bool.and_eq_true, beq_iff_eq, decide_eq_true_eq] at e x
  omega
theorem lw_z {nl : Nat} : ∀ k j, zS k j = true → (lwX nl) k j = false := by
  intro k j e
  rw [Bool.eq_false_iff]
  intro x
  simp only [zS, lwX, Bool.or_eq_true, Bool.and_eq_true, beq_iff_eq, decide_eq_true_eq] at e x
  omega
theorem rdq_c : ∀ k j, cS k j = true → rdX k j = false := by
  intro k j e
  rw [Bool.eq_false_iff]
  intro x
  simp only [cS, rdX, rcX, rX, Bool.or_eq_true, Bool.and_eq_true, beq_iff_eq, decide_eq_true_eq] at e x
  omega
theorem rdq_i : ∀ k j, iS k j = true → rdX k j = false := by
  intro k j e
  rw [Bool.eq_false_iff]
  intro x
  simp only [iS, rdX, rcX, rX, Bool.or_eq_true, Bool.and_eq_true, beq_iff_eq, decide_eq_true_eq] at e x
  omega
theorem rdq_d : ∀ k j, dS k j = true → rdX k j = false := by
  intro k j e
  rw [Bool.eq_false_iff]
  intro x
  simp only [dS, rdX, rcX, rX, Bool.or_eq_true, Bool.and_eq_true, beq_iff_eq, decide_eq_true_eq] at e x
  omega
theorem rdq_z : ∀ k j, zS k j = true → rdX k j = false := by
  intro k j e
  rw [Bool.eq_false_iff]
  intro x
  simp only [zS, rdX, rcX, rX, Bool.or_eq_true, Bool.and_eq_true, beq_iff_eq, decide_eq_true_eq] at e x
  omega
theorem lwX_r {nl : Nat} {h g : AH} (F : Fr lrX h g) : Fr (lwX nl) h g := F.weak (fun k j hx => by
  rw [Bool.eq_false_iff] at hx ⊢
  intro x
  refine hx ?_
  simp only [lwX, lrX, Bool.or_eq_true, Bool.and_eq_true, beq_iff_eq, decide_eq_true_eq] at x ⊢
  omega)
theorem lr_f {k j : Nat} (hk : k < 100 ∨ k = 101 ∨ (102 < k ∧ k < 109) ∨ 112 ≤ k ∨ (k = 100 ∧ (j = 6 ∨ j = 32 ∨ j = 50 ∨ j = 58))) : lrX k j = false := by
  rw [Bool.eq_false_iff]
  intro x
  simp only [lrX, Bool.or_eq_true, Bool.and_eq_true, beq_iff_eq, decide_eq_true_eq] at x
  omega
theorem lw_f {nl k j : Nat} (hk : (k < 14 ∧ k ≠ 1 ∧ k ≠ 0) ∨ (k = 1 ∧ j ≠ 16) ∨ (14 < k ∧ k < 100 ∧ k ≠ 52) ∨ k = 101 ∨ (102 < k ∧ k < 109) ∨ 112 ≤ k) : lwX nl k j = false := by
  rw [Bool.eq_false_iff]
  intro x
  simp only [lwX, Bool.or_eq_true, Bool.and_eq_true, beq_iff_eq, decide_eq_true_eq] at x
  omega
section Pl
variable {L : Nat} {xs : Nat → Int32}
theorem p_law : Pr (Ivt L xs) 103 M_X11_law M_X12_law [] := by
  intro n h I
  obtain ⟨np, nt, nd, nl, no, LSs, E, US, C1, C2, C3⟩ := I.2.2.1
  obtain ⟨Lt, l1, l2, l3, l4, l5, l6, l7⟩ := I.2.2.2.2.1
  have hl := C1.2.1.2.2.2.2.2.2.2.1
  have k7 := C1.2.1.2.2.2.2.2.2.1.2.2.2.2
  have e16 : gI h 1 16 = nI nl := C1.1.1.2.2.2.2.2.1
  by_cases c6 : nl = 6
  · rw [c6] at e16 k7
    refine (t_law_full 102 I.1.1 I.1.2.1 e16).imp (fun r h1 p => ⟨_, p.2, ?_⟩)
    rw [p.1]
    have R1 : RfOK (rcH (sI h 35 2 (nI 0)) 5) := (I.1.2.1.put _ _ _).rc 5
    have F1 : Fr oaX h (rcH (sI h 35 2 (nI 0)) 5) := ((Fr.rfl'.sI rfl).sI rfl).sI rfl
    refine (s_law_full 102 (F1.S I.1.1) R1 ((F1.I 102 107 rfl).trans k7)).imp (fun r2 h2 q => ⟨q.2, ?_⟩)
    have e2 := q.1
    have F : Fr oaX h h2 := by
      rw [e2]
      exact ((F1.sI rfl).sI rfl).sI rfl
    have lo : ∀ k j, k < 100 → gI h2 k j = gI (rcH (sI h 35 2 (nI 0)) 5) k j := fun k j hk => by
      rw [e2, rfH_I _ _ (by omega), gI_ne _ _ _ _ (by omega)]
    have A : ANSW h2 := by
      refine ANSW.ref (k := 5) (by omega) I.2.2.2.2.2.1 ?_ ?_ ?_ (fun j => ?_) (fun j => ?_)
      · rw [lo 0 14 (by decide), rcH_0, e2, rfH_0]
      · rw [lo 0 15 (by decide), F.I 100 6 rfl, rcH_1 _ _ (by decide)]
        exact I.2.2.2.2.2.1.2.1
      · rw [lo 0 16 (by decide), rcH_1 _ _ (by decide), e2, rfH_1 _ _ (by decide)]
        exact I.2.2.2.2.2.1.2.2.1
      · rw [lo 65 j (by decide)]
        exact rc65 (fun j => gI_ne _ _ _ _ (by decide)) j
      · rw [e2]
        exact rf101 (fun j => (gI_ne _ _ _ _ (by decide)).trans ((rcH_I _ _ (by decide) j).trans (gI_ne _ _ _ _ (by decide)))) j
    refine (I.bad F (by rw [e2]; exact (R1.put _ _ _).rf 5) ?_ ?_ ?_ A).up
    · rw [lo 35 2 (by decide), rcH_I _ _ (by decide)]
      exact gI_hit _ _ _ _
    · rw [e2, rfH_1 _ _ (by decide)]
      exact gI_hit _ _ _ _
    · rw [lo 35 3 (by decide), rcH_I _ _ (by decide), e2, rfH_1 _ _ (by decide)]
      exact l6
  · have hn : nl < 6 := by omega
    have to := t_law 65 I.1.1 I.1.2.1 hn e16 l1 l2
    have so : ∀ h1, ShOK h1 → RfOK h1 → gI h1 102 107 = nI nl → gI h1 107 = gI h 107 → gI h1 106 = gI h 106 → gI h1 100 13 = gI h 100 13 → Rp (42 + 61) M_X12_law 0 [some (.ref aM)] [] h1 (fun r h' => ∃ g1, Fr rsX h1 g1 ∧ gI g1 aM fm_taped = nI 0 ∧ match RDg false (gI h 36) Lt with
      | .error e => gI g1 aM fm_fault = nI (pT Lt (TLo (gI h 36) Lt) e) ∧ r = some (.int (-nI 6)) ∧ h' = rfH g1 6
      | .ok LS => gI g1 aM fm_fault = -1 ∧ ∃ g2, LyR g1 (cT (gI h 36) (TLo (gI h 36) Lt)) (vT (gI h 36) (TLo (gI h 36) Lt)) nl (TLo (gI h 36) Lt).length (TLo (gI h 36) Lt).length g2 ∧ r = some (.int (nI nl)) ∧ h' = gdH (sI g2 102 107 (nI (nl + 1)))) := by
      intro h1 S1 R1 e7 e107 e106 e13
      have et : gI h1 am_tape = gI h 36 := e107.trans l4
      have t := s_law 42 S1 R1 (fun i hi => (congrFun e106 i).trans (l7 i hi)) hn e7 l1 (by rw [et]; exact fun i => (l5 i).2) (e13.trans l3)
      rw [et] at t
      exact t
    match hq : RDg false (gI h 36) Lt with
    | .error e =>
      rw [hq] at to so
      refine to.imp (fun r h1 p => ?_)
      obtain ⟨g1, F1, z1, z2, rfl, e1⟩ := p
      refine ⟨_, rfl, ?_⟩
      rw [e1]
      have Fa : Fr oaX h g1 := oaX_rd F1
      have R1 : RfOK g1 := F1.R I.1.2.1 (by decide)
      have Fb : Fr oaX h (rcH g1 6) := (Fa.sI rfl).sI rfl
      have Fc : Fr ocX h (rcH g1 6) := ((ocX_rd F1).sI rfl).sI rfl
      have g65 : ∀ j, gI g1 65 j = gI h 65 j := fun j => F1.I 65 j rfl
      refine (so (rcH g1 6) (Fb.S I.1.1) (R1.rc 6) ((Fc.I _ _ (oc_no (by omega))).trans k7) (Fc.fun (fun _ => oc_no (by omega))) (Fc.fun (fun _ => oc_no (by omega))) (Fc.I _ _ (oc_no (by omega)))).imp (fun r2 h2 p2 => ?_)
      obtain ⟨g2, F2, y1, y2, y3, e2⟩ := p2
      refine ⟨y3, ?_⟩
      have R2 : RfOK g2 := F2.R (R1.rc 6) (by decide)
      have F : Fr oaX h h2 := by
        rw [e2]
        exact ((Fb.trans (oaX_rs F2)).sI rfl).sI rfl
      have lo : ∀ k j, k < 100 → gI h2 k j = gI (rcH g1 6) k j := fun k j hk => by
        rw [e2, rfH_I _ _ (by omega), F2.I k j (by
          rw [Bool.eq_false_iff]
          intro x
          simp only [rsX, Bool.or_eq_true, Bool.and_eq_true, beq_iff_eq] at x
          omega)]
      have A : ANSW h2 := by
        refine ANSW.ref (k := 6) (by omega) I.2.2.2.2.2.1 ?_ ?_ ?_ (fun j => ?_) (fun j => ?_)
        · rw [lo 0 14 (by decide), rcH_0, e2, rfH_0]
        · rw [lo 0 15 (by decide), F.I 100 6 rfl, rcH_1 _ _ (by decide), F1.I 0 15 rfl]
          exact I.2.2.2.2.2.1.2.1
        · rw [lo 0 16 (by decide), rcH_1 _ _ (by decide), F1.I 0 16 rfl, e2, rfH_1 _ _ (by decide), F2.I 100 50 rfl, Fc.I 100 50 (oc_no (by omega))]
          exact I.2.2.2.2.2.1.2.2.1
        · rw [lo 65 j (by decide)]
          exact rc65 g65 j
        · rw [e2]
          exact rf101 (fun j => (F2.I 101 j rfl).trans (Fc.I 101 j (oc_no (by omega)))) j
      refine (I.bad F (by rw [e2]; exact R2.rf 6) ?_ ?_ ?_ A).up
      · rw [lo 35 2 (by decide), rcH_I _ _ (by decide)]
        exact z1
      · rw [e2, rfH_1 _ _ (by decide)]
        exact y1
      · rw [lo 35 3 (by decide), rcH_I _ _ (by decide), z2, e2, rfH_1 _ _ (by decide)]
        exact y2.symm
    | .ok LS =>
      rw [hq] at to so
      refine to.imp (fun r h1 p => ?_)
      obtain ⟨g1, F1, z1, z2, TG, g2, TN, rfl, e1⟩ := p
      refine ⟨_, rfl, ?_⟩
      have hN : 129 ≤ aN g1 := aN129 (F1.S I.1.1)
      have G := TN.2.1
      have eg : gI g1 102 = gI h 102 := F1.fun (fun _ => rfl)
      have R1 : RfOK g1 := F1.R I.1.2.1 (by decide)
      have R2 : RfOK g2 := R1.gr G hN
      have S2 : ShOK g2 := fun k q hq' => sh_pre G.1 (F1.S I.1.1 k q hq')
      have Cg := (C1.fr F1 eg rdq_c).gr G hN
      have M0 := (I.2.2.2.1.1.fr (by decide) F1 rdq_i).gr (by decide) G hN
      have M1 := (I.2.2.2.1.2.fr (by decide) F1 rdq_i).gr (by decide) G hN
      have Zg := (I.2.1.fr F1 rdq_z).gr G hN
      have Dg := (I.2.2.2.2.2.2.fr F1 rdq_d).gr G hN
      have TX := TN.txg TG hN
      have gk : ∀ k j, k < 129 → gI g2 k j = gI g1 k j := fun k j hk => G.2.2.1 k j (by omega)
      have e2K : gI g2 102 = gI h 102 := (G.fn hN (by decide)).trans eg
      have Fs : Fr (lwX nl) g2 (sI (sR g2 14 nl (some (aN g1))) 1 16 (nI (nl + 1))) := (Fr.rfl'.sR (by unfold lwX; simp)).sI (by unfold lwX; simp)
      have Rs : RfOK (sI (sR g2 14 nl (some (aN g1))) 1 16 (nI (nl + 1))) := fun k j a ha => by
        show (if k = 14 then (if j = nl then _ else gR g2 k j) else gR g2 k j) = _
        rw [if_neg (rf_129 ha).2]
        exact R2 k j a ha
      have s16 : gI (sI (sR g2 14 nl (some (aN g1))) 1 16 (nI (nl + 1))) 1 16 = nI (nl + 1) := gI_hit _ _ _ _
      have s14 : ∀ l, gR (sI (sR g2 14 nl (some (aN g1))) 1 16 (nI (nl + 1))) 14 l = if l = nl then some (aN g1) else gR g2 14 l := fun l => by
        show (if (14 : Nat) = 14 then (if l = nl then some (aN g1) else gR g2 14 l) else gR g2 14 l) = _
        rw [if_pos rfl]
      have sI' : ∀ k j, ¬ (k = 1 ∧ j = 16) → gI (sI (sR g2 14 nl (some (aN g1))) 1 16 (nI (nl + 1))) k j = gI g2 k j := fun k j hk => gI_o _ _ hk
      generalize sI (sR g2 14 nl (some (aN g1))) 1 16 (nI (nl + 1)) = gs at e1 Fs Rs s16 s14 sI'
      have Fh : Fr (lwX nl) g2 h1 := by
        rw [e1]
        exact ((Fs.sI (by unfold lwX; simp)).sI (by unfold lwX; simp)).sI (by unfold lwX; simp)
      have hI : ∀ k j, k ≠ 0 → k ≠ 52 → gI h1 k j = gI gs k j := fun k j a b => by
        rw [e1]
        exact ac_I gs ⟨a, b⟩ j
      have hR : ∀ k j, gR h1 k j = gR gs k j := fun k j => by
        rw [e1]
        rfl
      have hg : ∀ k j, 14 < k → k < 129 → k ≠ 52 → gI h1 k j = gI g1 k j := fun k j a b c => (hI k j (by omega) c).trans ((sI' k j (by omega)).trans (gk k j b))
      have R1h : RfOK h1 := by
        rw [e1]
        exact Rs.ac
      have rdn : ∀ k j, 100 ≤ k → gI g1 k j = gI h k j := fun k j hk => F1.I k j (rdX_n (by omega))
      refine (so h1 (Fh.S S2) R1h ((hg 102 107 (by omega) (by omega) (by omega)).trans ((rdn _ _ (by omega)).trans k7)) (funext fun j => (hg 107 j (by omega) (by omega) (by omega)).trans (rdn _ _ (by omega))) (funext fun j => (hg 106 j (by omega) (by omega) (by omega)).trans (rdn _ _ (by omega))) ((hg 100 13 (by omega) (by omega) (by omega)).trans (rdn _ _ (by omega)))).imp (fun r2 h2 p2 => ?_)
      obtain ⟨k1, F3, y1, y2, k2, Y, y3, e2⟩ := p2
      refine ⟨y3, ?_⟩
      have Fk : Fr lrX h1 (sI k2 102 107 (nI (nl + 1))) := ((lrX_rs F3).trans (lrX_ly Y.1)).sI rfl
      have Rk : RfOK (sI k2 102 107 (nI (nl + 1))) := (Y.1.R (F3.R R1h (by decide)) (by decide)).put _ _ _
      have vK : gI (sI k2 102 107 (nI (nl + 1))) 102 = lwK (gI h 102) (cT (gI h 36) (TLo (gI h 36) Lt)) (vT (gI h 36) (TLo (gI h 36) Lt)) nl (TLo (gI h 36) Lt).length := by
        rw [gI_s102]
        unfold lwK
        congr 1
        refine funext fun i => ?_
        rw [show gI k2 102 i = _ from Y.2 i]
        unfold lyK
        rw [show gI k1 am_kept i = gI h 102 i from (F3.I 102 i rfl).trans ((hg 102 i (by omega) (by omega) (by omega)).trans (rdn _ _ (by omega)))]
      have v13 : gI (sI k2 102 107 (nI (nl + 1))) 100 13 = nI 0 := (gI_ne _ _ _ _ (by decide)).trans ((Y.1.I 100 13 rfl).trans y1)
      have v14 : gI (sI k2 102 107 (nI (nl + 1))) 100 14 = -1 := (gI_ne _ _ _ _ (by decide)).trans ((Y.1.I 100 14 rfl).trans y2)
      generalize sI k2 102 107 (nI (nl + 1)) = ks at e2 Fk Rk vK v13 v14
      have F12 : Fr lrX h1 h2 := by
        rw [e2]
        exact Fk.sI rfl
      have F : Fr (lwX nl) g2 h2 := Fh.trans (lwX_r F12)
      have R : RfOK h2 := by
        rw [e2]
        exact Rk.gd
      have f102 : gI h2 102 = lwK (gI h 102) (cT (gI h 36) (TLo (gI h 36) Lt)) (vT (gI h 36) (TLo (gI h 36) Lt)) nl (TLo (gI h 36) Lt).length := by
        rw [e2, gd_F ks 102 (by decide)]
        exact vK
      have low : ∀ k j, k < 100 → gI h2 k j = gI h1 k j := fun k j hk => F12.I k j (lr_f (by omega))
      have r14 : ∀ l, gR h2 (1 + 13) l = if l = nl then some (aN g1) else gR g2 (1 + 13) l := fun l => (F12.Rr 14 l (lr_f (by omega))).trans ((hR 14 l).trans (s14 l))
      have cl : ∀ k j, 1 ≤ k → k < 17 → ¬ (k = 1 ∧ j = 16) → gI h2 k j = gI g2 k j := fun k j a b c => (low k j (by omega)).trans ((hI k j (by omega) (by omega)).trans (sI' k j c))
      have f16 : gI h2 1 16 = nI (nl + 1) := (low 1 16 (by omega)).trans ((hI 1 16 (by omega) (by omega)).trans s16)
      have eKlo : ∀ j, j < 109 → j ≠ 107 → gI h2 102 j = gI h 102 j := fun j a b => by
        rw [f102]
        exact lwK_lo a b
      have v1 := C1.2.1.1.1
      have Hc := Cg.1.1.c
      rw [e2K] at Hc
      have A : HAc (gI h2) (gI h2 102) np nt nd (nl + 1) := Hc.gen ((cl 1 0 (by omega) (by omega) (by omega)).trans Hc.1) ((cl 1 5 (by omega) (by omega) (by omega)).trans Hc.2.1) ((cl 1 9 (by omega) (by omega) (by omega)).trans Hc.2.2.1) ((cl 1 12 (by omega) (by omega) (by omega)).trans (Hc.2.2.2.1.trans (eKlo 106 (by omega) (by omega)).symm)) f16 ((cl 1 18 (by omega) (by omega) (by omega)).trans (Hc.2.2.2.2.2.1.trans (eKlo 108 (by omega) (by omega)).symm)) (fun t ht => ((cl 8 t (by omega) (by omega) (by omega)).trans (Hc.2.2.2.2.2.2.2.2.2.2.2.2.1 t ht)).trans (hOf_eqv np (fun q hq => (eKlo q (by omega) (by omega)).symm))) (fun k j i a => Or.inl ⟨cl k j (by unfold arK at a; omega) (by unfold arK at a; omega) (by unfold arK at a; omega), eKlo i (by unfold arK at a; omega) (by unfold arK at a; omega)⟩)
      have H1 : HOK h2 1 := HOK.of (F.S S2) R (Or.inl rfl)
      have Gf : HG h2 1 (gI h2 102) np nt nd (nl + 1) (lsU LSs nl LS) E := by
        refine ⟨A.ha H1, ⟨H1, by omega, f16, fun l hl2 => ?_⟩, fun i a hi ha => ?_, ?_, fun l hl2 => ?_⟩
        · by_cases c1 : l = nl
          · refine ⟨aN g1, aN g1 + 1, aN g1 + 2, LS.length * 5, (cdA LS).length, ?_, ?_⟩
            · exact (r14 l).trans (if_pos c1)
            · unfold lsU
              rw [if_pos c1]
              exact TX.fq F (fun j => lw_f (by omega)) (fun j => lw_f (by omega)) (fun j => lw_f (by omega))
          · obtain ⟨tx, kh, kc, nh, nc, q, T⟩ := Cg.1.2.1.2.2.2 l (by omega)
            refine ⟨tx, kh, kc, nh, nc, ?_, ?_⟩
            · exact (r14 l).trans ((if_neg c1).trans q)
            · unfold lsU
              rw [if_neg c1]
              exact T.fr F (fun k j o => lw_f (by unfold okT at o; omega))
        · rw [r14] at ha
          rw [F.1]
          by_cases c1 : i = nl
          · rw [if_pos c1] at ha
            cases ha
            exact TX.1
          · rw [if_neg c1] at ha
            exact Cg.1.2.2.1 i a hi ha
        · have Lg := Cg.1.2.2.2.1
          exact ⟨Lg.1, (cl 15 1 (by omega) (by omega) (by omega)).trans Lg.2.1, fun j x hj => (cl 16 j (by omega) (by omega) (by omega)).trans (Lg.2.2 j x hj)⟩
        · by_cases c1 : l = nl
          · exact ⟨aN g1, aN g1 + 1, aN g1 + 2, (r14 l).trans (if_pos c1), by omega, (F.Rr _ _ (lw_f (by omega))).trans TN.2.2.1, by omega, (F.Rr _ _ (lw_f (by omega))).trans TN.2.2.2.1, by omega⟩
          · obtain ⟨tx, kh, kc, q1, q2, q3, q4, q5, q6⟩ := Cg.1.2.2.2.2 l (by omega)
            exact ⟨tx, kh, kc, (r14 l).trans ((if_neg c1).trans q1), q2, (F.Rr _ _ (lw_f (by omega))).trans q3, q4, (F.Rr _ _ (lw_f (by omega))).trans q5, q6⟩
      have hT : (TLo (gI h 36) Lt).length ≤ 400 := Nat.le_trans (toks_len (gI h 36) Lt Lt 0) (by omega)
      have Qf : KST (gI h2 102) np nt nd (nl + 1) no (lsU LSs nl LS) := by
        rw [f102]
        exact C1.2.1.law hn (f := 12 * (TLo (gI h 36) Lt).length + 8) hT (cT_end _ _) (fun k hk => ⟨cT_lt _ _ _, vT_lt _ (fun i => (l5 i).2) _ _⟩) hq
      have hm : ∀ k j, (k = 101 ∨ k = 113 ∨ k = 106 ∨ k = 107 ∨ (k = 100 ∧ (j = 6 ∨ j = 32 ∨ j = 50 ∨ j = 58))) → gI h2 k j = gI h k j := fun k j hk => (F12.I k j (lr_f (by omega))).trans ((hg k j (by omega) (by omega) (by omega)).trans (rdn k j (by omega)))
      have u := C1.2.2.2
      have Uf : LGm h2 US := ⟨u.1, (hm 100 32 (by omega)).trans u.2.1, fun i r hi j hj => (hm 113 _ (by omega)).trans (u.2.2 i r hi j hj)⟩
      have h0 : ∀ j, j ≠ 14 → gI h2 0 j = gI h 0 j := fun j hj => by
        rw [low 0 j (by omega), e1]
        show gI (sI (sI (sI gs 0 14 (nI 0)) 52 7 (nI 0)) 52 8 (nI 0)) 0 j = _
        rw [gI_ne _ _ _ _ (by decide), gI_ne _ _ _ _ (by decide), gI_off _ _ _ hj, sI' 0 j (by omega), gk 0 j (by omega)]
        exact F1.I 0 j (rdX_n (by decide))
      have An : ANSW h2 := by
        refine ANSW.mk' I.2.2.2.2.2.1 ?_ ?_ ?_ (fun j => ?_) (fun j => ?_)
        · rw [low 0 14 (by omega), e1, e2]
          rfl
        · rw [h0 15 (by decide), hm 100 6 (by omega)]
          exact I.2.2.2.2.2.1.2.1
        · rw [h0 16 (by decide), hm 100 50 (by omega)]
          exact I.2.2.2.2.2.1.2.2.1
        · rw [low 65 j (by omega), hg 65 j (by omega) (by omega) (by omega)]
          exact F1.I 65 j rfl
        · exact hm 101 j (by omega)
      have c7 : gI h2 52 7 = nI 0 := by
        rw [low 52 7 (by omega), e1]
        rfl
      have c8 : gI h2 52 8 = nI 0 := by
        rw [low 52 8 (by omega), e1]
        rfl
      have f36 : gI h2 36 = gI h 36 := funext fun j => (low 36 j (by omega)).trans ((hg 36 j (by omega) (by omega) (by omega)).trans (F1.I 36 j rfl))
      have f107 : gI h2 107 = gI h 107 := funext fun j => hm 107 j (by omega)
      have f35 : ∀ j, gI h2 35 j = gI g1 35 j := fun j => (low 35 j (by omega)).trans (hg 35 j (by omega) (by omega) (by omega))
      have f100 : ∀ j, j ≠ 0 → gI h2 100 j = gI ks 100 j := fun j hj => by
        rw [e2]
        exact gI_off _ _ _ hj
      have Tf : TAPE h2 := ⟨0, by omega, (f35 2).trans z1, (f100 13 (by decide)).trans v13, by rw [f36, f107]; exact l4, by rw [f36]; exact l5, by rw [f35 3, z2, f100 14 (by decide), v14], fun i hi => (hm 106 i (by omega)).trans (l7 i hi)⟩
      have c95 : clN 9 = 5 := rfl
      have b6 := TG.2.2.2.2.2.1
      have b8 := TG.2.2.2.2.2.2.2.1
      have Bf : BAS L xs (n + 1) h2 := by
        refine ⟨F.S S2, R, F.2.1.trans (G.2.1.trans (F1.2.1.trans I.1.2.2.1)), ?_, ?_⟩
        · have q := I.1.2.2.2.1
          unfold aN at q ⊢
          rw [F.1, TN.1, F1.1, List.length_append]
          show _ + 3 ≤ _
          omega
        · have q := I.1.2.2.2.2
          unfold aZ at q ⊢
          rw [F.1, TN.1, F1.1, List.map_append, List.sum_append]
          show _ + (clN 9 + (LS.length * 5 + ((cdA LS).length + 0))) ≤ _
          omega
      exact ⟨Bf, Zg.fr F lw_z, ⟨np, nt, nd, nl + 1, no, lsU LSs nl LS, E, US, ⟨Gf, Qf, URr_congr (fun j hj => (eKlo j (by omega) (by omega)).symm) _ _ C1.2.2.1, Uf⟩, CAB.no c7, CWY.no c8⟩, ⟨M0.fr (by decide) F lw_i, M1.fr (by decide) F lw_i⟩, Tf, An, Dg.fr F lw_d⟩
end Pl
