def cpA (K : Nat → Int32) (nl : Nat) (LSs : Nat → List CLE) (nd np nt : Nat) (x : Int32) : Int32 := if x = -1 ∨ inN x nl = true then nI (wtA (upK K 108 x) (flO nl LSs x) (dayF (upK K 108 x) (flO nl LSs x) nd np nt (fun _ => true) (upK K 108 x) 100) (upK K 108 x) np) else -1
theorem HJ.cgb {h : AH} {b : Nat} {K K' : Nat → Int32} (J : HJ h b K) (e : ∀ j, j < 103 → K' j = K j) : HJ h b K' := by
  obtain ⟨j0, j1, j2, j3, j4, j5, j6, j7, j8⟩ := J
  exact ⟨j0, j1, fun p hp => (j2 p hp).trans (e _ (by omega)).symm, fun p hp => (j3 p hp).trans (e _ (by omega)).symm, fun p hp => (j4 p hp).trans (e _ (by omega)).symm, fun p hp => (j5 p hp).trans (e _ (by omega)).symm, fun p hp => (j6 p hp).trans (e _ (by omega)).symm, j7.trans (e _ (by omega)).symm, j8.trans (e _ (by omega)).symm⟩
section Cg
variable (d : Nat) {h : AH} {K : Nat → Int32} {np nt nd nl : Nat} {LSs : Nat → List CLE} {E : List Int32}
theorem t_compare (S : ShOK h) (R : RfOK h) (G : HG h 1 K np nt nd nl LSs E) (V : VH K np nt) (B : KB K) (hz : ∀ j, 9 ≤ j → gI h 43 j = 0) (VNn : VN K nt) (VDd : VD K nd) (x : Int32) : Rp (d + 5) M_X11_compare 0 [some (.ref 0), some (.int x)] [] h (fun r h' => r = some (.int (cpA K nl LSs nd np nt x)) ∧ Fr tzX h h') := by
  have v1 := V.1
  have lo := t_lawOf (d + 3) G.2.1 x
  have m3 : gI h 1 0 = nI np := G.1.2.1
  have e : ∀ j, j < 103 → (upK K 108 x) j = K j := fun j hj => upK_ne _ (by omega)
  have V' : VH (upK K 108 x) np nt := V.cg (fun j hj => e j (by omega))
  have M' : HM h 1 (upK K 108 x) np nt := ⟨V', G.1.1, G.1.2.1, G.1.2.2.1, fun p hp => (G.1.2.2.2.2.2.2.2.2.2.1 p hp).trans (e _ (by omega)).symm, fun t ht => (G.1.2.2.2.2.2.2.2.2.2.2.2.2.2.1 t ht).trans (hOf_eqv np (fun q hq => (e _ (by omega)).symm))⟩
  have D0 := G.1.hd VDd.1
  have D' : HD h 1 (upK K 108 x) nd := ⟨D0.1, D0.2.1, D0.2.2.1, fun q hq => (D0.2.2.2 q hq).trans (e _ (by omega)).symm⟩
  have B' : KB (upK K 108 x) := B.cg (fun j hj => e j (by omega))
  have N' : VN (upK K 108 x) nt := VNn.cg (fun j _ _ => e j (by omega))
  have W' : VD (upK K 108 x) nd := VDd.cg (fun j _ _ => e j (by omega))
  have tl : ∀ lr, LR0 h lr (flO nl LSs x) → (x = -1 ∨ inN x nl = true) → Rp (d + 5) M_X11_compare 27 [some (.ref 0), some (.int x)] [cvR lr, .ref 0] h (fun r h' => r = some (.int (cpA K nl LSs nd np nt x)) ∧ Fr tzX h h') := by
    intro lr hl hp
    have pd := t_playDay0 d S R ((G.1.hj (Or.inl rfl)).cgb e) V' M' D' (fun t ht => (G.1.2.2.2.2.2.2.2.2.2.2.2.1 t ht).trans (e _ (by omega)).symm) B' hz N' W' hl
    have k30 : ∀ g, Fr tzX h g → JS g 1 (upK K 108 x) (flO nl LSs x) → DY g (dayF (upK K 108 x) (flO nl LSs x) nd np nt (fun _ => true) (upK K 108 x) 100) → Rp (d + 5) M_X11_compare 30 [some (.ref 0), some (.int x)] [] g (fun r h' => r = some (.int (cpA K nl LSs nd np nt x)) ∧ Fr tzX h h') := by
      intro g F1 J1 Y1
      have S1 := F1.S S
      have R1 := F1.R R (by decide)
      have wa := t_waitOfAllJ (d + 1) S1 R1 (by decide) B' J1 Y1 (fun p => dayF_DP 100 p) v1 (hs := (upK K 108 x)) J1.2.2.1.2.1 ((F1.I 1 0 rfl).trans m3) (fun p hp => (F1.I _ _ rfl).trans (M'.2.2.2.2.1 p hp))
      refine Rp.aload_n dX11_compare_30 rfl rfl ?_
      refine Rp.getR dX11_compare_31 fk_X11_55 rfl (S1 _ _ rfl) (R1 _ _ _ rfl) ?_
      refine Rp.aload_n dX11_compare_34 rfl rfl ?_
      refine Rp.getR dX11_compare_35 fk_X11_39 rfl (S1 _ _ rfl) (R1 _ _ _ rfl) ?_
      refine Rp.callV1 M_X1_waitOfAll (ci := 1) dX11_compare_38 mo_X1_waitOfAll lk_X11_272 (by decide) rfl rfl (S1 _ _ rfl) (Nat.le_of_ble_eq_true rfl) (Nat.le_of_ble_eq_true rfl) (wa) (fun v1 h1 p1 x1 => ?_)
      obtain ⟨F2, J2, rfl⟩ := p1
      try dsimp only [Option.toList, List.cons_append, List.nil_append, List.append]
      refine Rp.ireturn dX11_compare_41 rfl ?_
      exact ⟨by unfold cpA; rw [if_pos hp], F1.trans (tzX_j F2)⟩
    match lr, hl, pd with
    | none, hl, pd =>
      dsimp only [cvR] at pd ⊢
      refine Rp.callV1 M_X11_playDay (ci := 11) dX11_compare_27 mo_X11_playDay lk_X11_261 (by decide) rfl rfl (S _ _ rfl) (Nat.le_of_ble_eq_true rfl) (Nat.le_of_ble_eq_true rfl) (pd) (fun v1 h1 p1 x1 => ?_)
      obtain ⟨rfl, F1, J1, Y1⟩ := p1
      try dsimp only [Option.toList, List.cons_append, List.nil_append, List.append]
      exact k30 _ F1 J1 Y1
    | some tx, hl, pd =>
      dsimp only [cvR] at pd ⊢
      refine Rp.callV1 M_X11_playDay (ci := 11) dX11_compare_27 mo_X11_playDay lk_X11_261 (by decide) rfl rfl (S _ _ rfl) (Nat.le_of_ble_eq_true rfl) (Nat.le_of_ble_eq_true rfl) (pd) (fun v1 h1 p1 x1 => ?_)
      obtain ⟨rfl, F1, J1, Y1⟩ := p1
      try dsimp only [Option.toList, List.cons_append, List.nil_append, List.append]
      exact k30 _ F1 J1 Y1
  by_cases cp : x = -1
  · rw [cp] at tl lo ⊢
    refine Rp.iload_n dX11_compare_0 rfl ?_
    refine Rp.iconst (-1) dX11_compare_1 (by decide) ?_
    first | ((with_reducible show Rp _ _ _ _ (.int (nI _) :: .int (nI _) :: _) _ _); refine Rp.icmp_eqN (tgt := 18) dX11_compare_2 (by decide) (by omega) (fun c2 => ?_) (fun c2 => ?_)) | refine Rp.icmp_eq (tgt := 18) dX11_compare_2 (by decide) (fun c2 => ?_) (fun c2 => ?_)
    · skip
      refine Rp.aload_n dX11_compare_18 rfl rfl ?_
      refine Rp.aload_n dX11_compare_19 rfl rfl ?_
      refine Rp.getR dX11_compare_20 fk_X11_10 rfl (S _ _ rfl) (R _ _ _ rfl) ?_
      refine Rp.iload_n dX11_compare_23 rfl ?_
      refine Rp.callV1 M_X2_lawOf (ci := 2) dX11_compare_24 mo_X2_lawOf lk_X11_355 (by decide) rfl rfl (S _ _ rfl) (Nat.le_of_ble_eq_true rfl) (Nat.le_of_ble_eq_true rfl) (lo) (fun v1 h1 p1 x1 => ?_)
      obtain ⟨rfl, lr, rfl, qq⟩ := p1
      try dsimp only [Option.toList, List.cons_append, List.nil_append, List.append]
      exact tl lr qq (Or.inl rfl)
    · skip
      exact absurd rfl c2
  · have il := t_isLaw (d + 4) (S 1 _ rfl) x G.2.1.2.1 G.2.1.2.2.1
    by_cases c : inN x nl = true
    · rw [c] at il
      refine Rp.iload_n dX11_compare_0 rfl ?_
      refine Rp.iconst (-1) dX11_compare_1 (by decide) ?_
      first | ((with_reducible show Rp _ _ _ _ (.int (nI _) :: .int (nI _) :: _) _ _); refine Rp.icmp_eqN (tgt := 18) dX11_compare_2 (by decide) (by omega) (fun c2 => ?_) (fun c2 => ?_)) | refine Rp.icmp_eq (tgt := 18) dX11_compare_2 (by decide) (fun c2 => ?_) (fun c2 => ?_)
      · skip
        exact absurd c2 cp
      · skip
        refine Rp.aload_n dX11_compare_5 rfl rfl ?_
        refine Rp.getR dX11_compare_6 fk_X11_10 rfl (S _ _ rfl) (R _ _ _ rfl) ?_
        refine Rp.iload_n dX11_compare_9 rfl ?_
        refine Rp.callV1 M_X2_isLaw (ci := 2) dX11_compare_10 mo_X2_isLaw lk_X11_236 (by decide) rfl rfl (S _ _ rfl) (Nat.le_of_ble_eq_true rfl) (Nat.le_of_ble_eq_true rfl) (il) (fun v1 h1 p1 x1 => ?_)
        rw [p1.1, p1.2]
        try dsimp only [Option.toList, List.cons_append, List.nil_append, List.append]
        first | ((with_reducible show Rp _ _ _ _ (.int (b2i _) :: _) _ _); refine Rp.if_neB (tgt := 18) dX11_compare_13 (by decide) (fun c13 => ?_) (fun c13 => ?_)) | ((with_reducible show Rp _ _ _ _ (.int (nI _) :: _) _ _); refine Rp.if_neN (tgt := 18) dX11_compare_13 (by decide) (by omega) (fun c13 => ?_) (fun c13 => ?_)) | refine Rp.if_ne (tgt := 18) dX11_compare_13 (by decide) (fun c13 => ?_) (fun c13 => ?_)
        · skip
          refine Rp.aload_n dX11_compare_18 rfl rfl ?_
          refine Rp.aload_n dX11_compare_19 rfl rfl ?_
          refine Rp.getR dX11_compare_20 fk_X11_10 rfl (S _ _ rfl) (R _ _ _ rfl) ?_
          refine Rp.iload_n dX11_compare_23 rfl ?_
          refine Rp.callV1 M_X2_lawOf (ci := 2) dX11_compare_24 mo_X2_lawOf lk_X11_355 (by decide) rfl rfl (S _ _ rfl) (Nat.le_of_ble_eq_true rfl) (Nat.le_of_ble_eq_true rfl) (lo) (fun v1 h1 p1 x1 => ?_)
          obtain ⟨rfl, lr, rfl, qq⟩ := p1
          try dsimp only [Option.toList, List.cons_append, List.nil_append, List.append]
          exact tl lr qq (Or.inr c)
        · skip
          cases c13
    · have c' : inN x nl = false := Bool.eq_false_iff.mpr c
      rw [c'] at il
      refine Rp.iload_n dX11_compare_0 rfl ?_
      refine Rp.iconst (-1) dX11_compare_1 (by decide) ?_
      first | ((with_reducible show Rp _ _ _ _ (.int (nI _) :: .int (nI _) :: _) _ _); refine Rp.icmp_eqN (tgt := 18) dX11_compare_2 (by decide) (by omega) (fun c2 => ?_) (fun c2 => ?_)) | refine Rp.icmp_eq (tgt := 18) dX11_compare_2 (by decide) (fun c2 => ?_) (fun c2 => ?_)
      · skip
        exact absurd c2 cp
      · skip
        refine Rp.aload_n dX11_compare_5 rfl rfl ?_
        refine Rp.getR dX11_compare_6 fk_X11_10 rfl (S _ _ rfl) (R _ _ _ rfl) ?_
        refine Rp.iload_n dX11_compare_9 rfl ?_
        refine Rp.callV1 M_X2_isLaw (ci := 2) dX11_compare_10 mo_X2_isLaw lk_X11_236 (by decide) rfl rfl (S _ _ rfl) (Nat.le_of_ble_eq_true rfl) (Nat.le_of_ble_eq_true rfl) (il) (fun v1 h1 p1 x1 => ?_)
        rw [p1.1, p1.2]
        try dsimp only [Option.toList, List.cons_append, List.nil_append, List.append]
        first | ((with_reducible show Rp _ _ _ _ (.int (b2i _) :: _) _ _); refine Rp.if_neB (tgt := 18) dX11_compare_13 (by decide) (fun c13 => ?_) (fun c13 => ?_)) | ((with_reducible show Rp _ _ _ _ (.int (nI _) :: _) _ _); refine Rp.if_neN (tgt := 18) dX11_compare_13 (by decide) (by omega) (fun c13 => ?_) (fun c13 => ?_)) | refine Rp.if_ne (tgt := 18) dX11_compare_13 (by decide) (fun c13 => ?_) (fun c13 => ?_)
        · skip
          cases c13
        · skip
          refine Rp.iconst (-1) dX11_compare_16 (by decide) ?_
          refine Rp.ireturn dX11_compare_17 rfl ?_
          exact ⟨by unfold cpA; rw [if_neg (fun z => z.elim cp c)], Fr.rfl'⟩
end Cg
section Mg
variable (d : Nat) {h : AH} {np nt nd nl no : Nat} {LSs : Nat → List CLE}
def cmX (k j : Nat) : Bool := mdX k j || k == 102
theorem cmX_m {h g : AH} (F : Fr mdX h g) : Fr cmX h g := F.weak (fun k j hx => by unfold cmX at hx; rw [Bool.or_eq_false_iff] at hx; exact hx.1)
theorem s_compare (S : ShOK h) (R : RfOK h) (Q : KST (gI h 102) np nt nd nl no LSs) (x : Int32) : Rp (d + 79) M_X12_compare 0 [some (.ref aM), some (.int x), none, none] [] h (fun r h' => r = some (.int (cpA (gI h 102) nl LSs nd np nt x)) ∧ Fr cmX h h' ∧ RfOK h' ∧ gI h' 102 = gI h 102) := by
  have hl := Q.2.2.2.2.2.2.2.1
  have k7 := Q.2.2.2.2.2.2.1.2.2.2.2
  have il := s_isLaw (d + 77) S R x
  have fi := frc_iff (x := x) hl k7
  by_cases c : x = -1 ∨ inN x nl = true
  · rw [show decide (-1 ≤ x ∧ x ≤ gI h am_kept 107 - nI 1) = true from fi.mpr c] at il
    have Q2 : KST (upK (gI h 102) 108 x) np nt nd nl no LSs := Q.frc (c.imp id (fun z => by
      obtain ⟨l, h1, h2⟩ := (inN_iff (by omega)).mp z
      exact ⟨l, h1, h2⟩))
    have e2 : gI (sI h 102 108 x) 102 = upK (gI h 102) 108 x := gI_s102 h 108 x
    have A2 : MBd (sI h 102 108 x) (flO nl LSs x) np nt nd := by
      unfold MBd
      rw [show gI (sI h 102 108 x) am_kept = _ from e2]
      have f := Q2.fl
      rw [upK_eq] at f
      exact ⟨fun k q hq => S k q hq, R.put _ _ _, f, Q2.2.1, Q2.2.2.2.1, Q2.2.2.2.2.2.2.1.2.2.1, Q2.2.2.1, Q2.1, Q2.2.2.2.2.2.2.1.1⟩
    have wa := s_waitOfAll d A2
    rw [show gI (sI h 102 108 x) am_kept = _ from e2] at wa
    refine Rp.aload_n dX12_compare_0 rfl rfl ?_
    refine Rp.iload_n dX12_compare_1 rfl ?_
    refine Rp.callV1 M_X12_isLaw (ci := 12) dX12_compare_2 mo_X12_isLaw lk_X12_276 (by decide) rfl rfl (S _ _ rfl) (Nat.le_of_ble_eq_true rfl) (Nat.le_of_ble_eq_true rfl) (il) (fun v1 h1 p1 x1 => ?_)
    rw [p1.1, p1.2]
    try dsimp only [Option.toList, List.cons_append, List.nil_append, List.append]
    first | ((with_reducible show Rp _ _ _ _ (.int (b2i _) :: _) _ _); refine Rp.if_neB (tgt := 10) dX12_compare_5 (by decide) (fun c5 => ?_) (fun c5 => ?_)) | ((with_reducible show Rp _ _ _ _ (.int (nI _) :: _) _ _); refine Rp.if_neN (tgt := 10) dX12_compare_5 (by decide) (by omega) (fun c5 => ?_) (fun c5 => ?_)) | refine Rp.if_ne (tgt := 10) dX12_compare_5 (by decide) (fun c5 => ?_) (fun c5 => ?_)
    rotate_left
    · cases c5
    refine Rp.aload_n dX12_compare_10 rfl rfl ?_
    refine Rp.getR dX12_compare_11 fk_X12_24 rfl (S _ _ rfl) (R _ _ _ rfl) ?_
    refine Rp.bipush (nI 108) dX12_compare_14 (by decide) ?_
    first | ((with_reducible show Rp _ _ _ _ (.int (nI _) :: _) _ _); refine Rp.ialoadN dX12_compare_16 (S _ _ rfl) (by omega) ?_) | refine Rp.iaload dX12_compare_16 (S _ _ rfl) (by first | assumption | exact vpb (by decide)) ?_
    refine Rp.ist2 dX12_compare_17 (by first | exact nl2_some rfl | exact nl2_none) (by decide) ?_
    refine Rp.aload_n dX12_compare_18 rfl rfl ?_
    refine Rp.getR dX12_compare_19 fk_X12_24 rfl (S _ _ rfl) (R _ _ _ rfl) ?_
    refine Rp.bipush (nI 108) dX12_compare_22 (by decide) ?_
    refine Rp.iload_n dX12_compare_24 rfl ?_
    first | ((with_reducible show Rp _ _ _ _ (_ :: .int (nI _) :: _) _ _); refine Rp.iastoreN dX12_compare_25 (S _ _ rfl) (by omega) ?_) | refine Rp.iastore dX12_compare_25 (S _ _ rfl) (by first | assumption | exact vpb (by decide)) ?_
    refine Rp.aload_n dX12_compare_26 rfl rfl ?_
    refine Rp.callV0 M_X12_waitOfAll (ci := 12) dX12_compare_27 mo_X12_waitOfAll lk_X12_402 (by decide) rfl rfl (S _ _ rfl) (Nat.le_of_ble_eq_true rfl) (Nat.le_of_ble_eq_true rfl) (wa) (fun v1 h1 p1 x1 => ?_)
    obtain ⟨F1, Y1, rfl⟩ := p1
    try dsimp only [Option.toList, List.cons_append, List.nil_append, List.append]
    skip
    have S1 := F1.S A2.1
    have R1 := F1.R A2.2.1 (by decide)
    refine Rp.ist3 dX12_compare_30 (by first | exact nl2_some rfl | exact nl2_none) (by decide) ?_
    refine Rp.aload_n dX12_compare_31 rfl rfl ?_
    refine Rp.getR dX12_compare_32 fk_X12_24 rfl (S1 _ _ rfl) (R1 _ _ _ rfl) ?_
    refine Rp.bipush (nI 108) dX12_compare_35 (by decide) ?_
    refine Rp.iload_n dX12_compare_37 rfl ?_
    first | ((with_reducible show Rp _ _ _ _ (_ :: .int (nI _) :: _) _ _); refine Rp.iastoreN dX12_compare_38 (S1 _ _ rfl) (by omega) ?_) | refine Rp.iastore dX12_compare_38 (S1 _ _ rfl) (by first | assumption | exact vpb (by decide)) ?_
    refine Rp.iload_n dX12_compare_39 rfl ?_
    refine Rp.ireturn dX12_compare_40 rfl ?_
    refine ⟨by unfold cpA; rw [if_pos c], (((Fr.rfl'.sI rfl).trans (cmX_m F1)).sI rfl), R1.put _ _ _, ?_⟩
    rw [gI_s102, F1.fun (k := 102) (fun _ => rfl), e2]
    refine funext fun j => ?_
    by_cases cj : j = 108
    · rw [cj, upK_eq]
    · rw [upK_ne _ cj, upK_ne _ cj]
  · rw [show decide (-1 ≤ x ∧ x ≤ gI h am_kept 107 - nI 1) = false from Bool.eq_false_iff.mpr (fun z => c (fi.mp z))] at il
    refine Rp.aload_n dX12_compare_0 rfl rfl ?_
    refine Rp.iload_n dX12_compare_1 rfl ?_
    refine Rp.callV1 M_X12_isLaw (ci := 12) dX12_compare_2 mo_X12_isLaw lk_X12_276 (by decide) rfl rfl (S _ _ rfl) (Nat.le_of_ble_eq_true rfl) (Nat.le_of_ble_eq_true rfl) (il) (fun v1 h1 p1 x1 => ?_)
    rw [p1.1, p1.2]
    try dsimp only [Option.toList, List.cons_append, List.nil_append, List.append]
    first | ((with_reducible show Rp _ _ _ _ (.int (b2i _) :: _) _ _); refine Rp.if_neB (tgt := 10) dX12_compare_5 (by decide) (fun c5 => ?_) (fun c5 => ?_)) | ((with_reducible show Rp _ _ _ _ (.int (nI _) :: _) _ _); refine Rp.if_neN (tgt := 10) dX12_compare_5 (by decide) (by omega) (fun c5 => ?_) (fun c5 => ?_)) | refine Rp.if_ne (tgt := 10) dX12_compare_5 (by decide) (fun c5 => ?_) (fun c5 => ?_)
    · skip
      cases c5
    · skip
      refine Rp.iconst (-1) dX12_compare_8 (by decide) ?_
      refine Rp.ireturn dX12_compare_9 rfl ?_
      exact ⟨by unfold cpA; rw [if_neg c], Fr.rfl', R, rfl⟩
end Mg
theorem lv_cmX : ∀ k j, Lv k j = true → cmX k j = false := by
  intro k j e
  rw [Bool.eq_false_iff]
  intro x
  simp only [Lv, cS, aS, wS2, iS, tS, nS, dS, zS, cmX, mdX, tlX, Bool.or_eq_true, Bool.and_eq_true, beq_iff_eq, decide_eq_true_eq] at e x
  omega
theorem p_compare {L : Nat} {xs : Nat → Int32} (a1 : Int32) : Pr (Ivt L xs) 103 M_X11_compare M_X12_compare [.int a1] :=
  pq (fun K np nt nd nl no LSs => cpA K nl LSs nd np nt a1) lv_tzX lv_cmX
    (fun h np nt nd nl no LSs E US S R Z C => (t_compare _ S R C.1 C.2.1.1 C.2.1.2.1 Z.1 C.2.1.2.2.1 C.2.1.2.2.2.1 a1).imp (fun r g p => ⟨p.1, p.2, p.2.R R (by decide), p.2.fun (fun _ => rfl)⟩))
    (fun h np nt nd nl no LSs E US S R C => (s_compare _ S R C.2.1 a1).imp (fun r g p => p))
