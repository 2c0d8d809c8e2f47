section Cu
variable (d : Nat) {h : AH} {K : Nat → Int32} {np nt nd nl : Nat} {LSs : Nat → List CLE} {E : List Int32}
theorem t_takeBack0 (A : HOK h 1) (e : gI h 15 1 = nI 0) : Rp d M_X2_takeBack 0 [some (.ref 1), none, none, none, none] [] h (fun r h' => h' = h ∧ r = some (.int (-nI 3))) := by
  refine Rp.aload_n dX2_takeBack_0 rfl rfl ?_
  refine Rp.getR dX2_takeBack_1 fk_X2_61 rfl (A.1 0 _ rfl) (A.2 0 19 14 rfl) ?_
  refine Rp.getI dX2_takeBack_4 fk_X2_108 rfl (A.1 14 _ rfl) ?_
  first | rw [e] | skip
  first | ((with_reducible show Rp _ _ _ _ (.int (b2i _) :: _) _ _); refine Rp.if_neB (tgt := 13) dX2_takeBack_7 (by decide) (fun c7 => ?_) (fun c7 => ?_)) | ((with_reducible show Rp _ _ _ _ (.int (nI _) :: _) _ _); refine Rp.if_neN (tgt := 13) dX2_takeBack_7 (by decide) (by omega) (fun c7 => ?_) (fun c7 => ?_)) | refine Rp.if_ne (tgt := 13) dX2_takeBack_7 (by decide) (fun c7 => ?_) (fun c7 => ?_)
  · skip
    exact absurd rfl c7
  · skip
    refine Rp.bipush (-3) dX2_takeBack_10 (by decide) ?_
    refine Rp.ireturn dX2_takeBack_12 rfl ?_
    exact ⟨rfl, rfl⟩
theorem t_undo0 (S : ShOK h) (R : RfOK h) (e : gI h 15 1 = nI 0) : Rp (d + 3) M_X11_undo 0 [some (.ref 0), none] [] h (fun r h' => h' = rcH h 3 ∧ r = some (.int (-nI 3))) := by
  have tb := t_takeBack0 (d + 2) (HOK.of S R (Or.inl rfl)) e
  have rf := t_refused (d + 2) S R 3 (by omega)
  refine Rp.aload_n dX11_undo_0 rfl rfl ?_
  refine Rp.getR dX11_undo_1 fk_X11_10 rfl (S _ _ rfl) (R _ _ _ rfl) ?_
  refine Rp.callV0 M_X2_takeBack (ci := 2) dX11_undo_4 mo_X2_takeBack lk_X11_257 (by decide) rfl rfl (S _ _ rfl) (Nat.le_of_ble_eq_true rfl) (Nat.le_of_ble_eq_true rfl) (tb) (fun v1 h1 p1 x1 => ?_)
  rw [p1.1, p1.2]
  try dsimp only [Option.toList, List.cons_append, List.nil_append, List.append]
  refine Rp.ist1 dX11_undo_7 (by first | exact nl2_some rfl | exact nl2_none) (by decide) ?_
  refine Rp.iload_n dX11_undo_8 rfl ?_
  refine Rp.if_ge (tgt := 20) dX11_undo_9 (by decide) (fun c9 => ?_) (fun c9 => ?_)
  · skip
    exact absurd c9 (by decide)
  · skip
    refine Rp.aload_n dX11_undo_12 rfl rfl ?_
    refine Rp.iload_n dX11_undo_13 rfl ?_
    refine Rp.callV1 M_X11_refused (ci := 11) dX11_undo_14 mo_X11_refused lk_X11_109 (by decide) rfl rfl (S _ _ rfl) (Nat.le_of_ble_eq_true rfl) (Nat.le_of_ble_eq_true rfl) (rf) (fun v1 h1 p1 x1 => ?_)
    rw [p1.1, p1.2]
    try dsimp only [Option.toList, List.cons_append, List.nil_append, List.append]
    refine Rp.goto (tgt := 25) dX11_undo_17 (by decide) ?_
    refine Rp.ireturn dX11_undo_25 rfl ?_
    exact ⟨rfl, rfl⟩
theorem t_undo1 (S : ShOK h) (R : RfOK h) (M : HM h 1 K np nt) (e12 : gI h (1 + 12) 0 = K 6) {r : Nat → Int32} {o f s : Nat} (ho : o < 4) (Lg : LOG h 1 (E ++ [lgE o f s])) (U : UOK np nt r o f s) (eK : ∀ j, j < 7 → K j = acK r (some (o, f, s)) j) : Rp (d + 3) M_X11_undo 0 [some (.ref 0), none] [] h (fun v h' => ∃ g, h' = acH g ∧ v = some (.int (nI o)) ∧ Fr (ukX 1) h g ∧ HM g 1 (mvK K r) np nt ∧ gI g (1 + 12) 0 = mvK K r 6 ∧ LOG g 1 E) := by
  have tb := t_takeBack d M e12 Lg U eK
  refine Rp.aload_n dX11_undo_0 rfl rfl ?_
  refine Rp.getR dX11_undo_1 fk_X11_10 rfl (S _ _ rfl) (R _ _ _ rfl) ?_
  refine Rp.callV0 M_X2_takeBack (ci := 2) dX11_undo_4 mo_X2_takeBack lk_X11_257 (by decide) rfl rfl (S _ _ rfl) (Nat.le_of_ble_eq_true rfl) (Nat.le_of_ble_eq_true rfl) (tb) (fun v1 h1 p1 x1 => ?_)
  obtain ⟨rfl, F1, M1, m1, l1⟩ := p1
  try dsimp only [Option.toList, List.cons_append, List.nil_append, List.append]
  skip
  have S1 := F1.S S
  have R1 : RfOK h1 := F1.R R (by decide)
  have ac := t_accepted (d + 1) S1 R1 (nI o)
  refine Rp.ist1 dX11_undo_7 (by first | exact nl2_some rfl | exact nl2_none) (by decide) ?_
  refine Rp.iload_n dX11_undo_8 rfl ?_
  refine Rp.if_ge (tgt := 20) dX11_undo_9 (by decide) (fun c9 => ?_) (fun c9 => ?_)
  · skip
    refine Rp.aload_n dX11_undo_20 rfl rfl ?_
    refine Rp.iload_n dX11_undo_21 rfl ?_
    refine Rp.callV1 M_X11_accepted (ci := 11) dX11_undo_22 mo_X11_accepted lk_X11_122 (by decide) rfl rfl (S1 _ _ rfl) (Nat.le_of_ble_eq_true rfl) (Nat.le_of_ble_eq_true rfl) (ac) (fun v1 h1 p1 x1 => ?_)
    rw [p1.1, p1.2]
    try dsimp only [Option.toList, List.cons_append, List.nil_append, List.append]
    refine Rp.ireturn dX11_undo_25 rfl ?_
    exact ⟨_, rfl, rfl, F1, M1, m1, l1⟩
  · skip
    exact absurd (nI_ge0 (by omega)) c9
end Cu
def unW2 (k j : Nat) : Bool := ukX 1 k j || (ycX k j || umX k j)
theorem unW_u {h g : AH} (F : Fr (ukX 1) h g) : Fr unW2 h g := F.weak (fun k j e => by unfold unW2 at e; rw [Bool.or_eq_false_iff] at e; exact e.1)
theorem unW_y {h g : AH} (F : Fr ycX h g) : Fr unW2 h g := F.weak (fun k j e => by unfold unW2 at e; rw [Bool.or_eq_false_iff, Bool.or_eq_false_iff] at e; exact e.2.1)
theorem unW_m {h g : AH} (F : Fr umX h g) : Fr unW2 h g := F.weak (fun k j e => by unfold unW2 at e; rw [Bool.or_eq_false_iff, Bool.or_eq_false_iff] at e; exact e.2.2)
theorem un_mu : ∀ k j, muS k j = true → unW2 k j = false := by
  intro k j e
  rw [Bool.eq_false_iff]
  intro x
  simp only [muS, iS, tS, dS, zS, unW2, ycX, umX, ukX, hX, lX, Bool.or_eq_true, Bool.and_eq_true, beq_iff_eq, decide_eq_true_eq] at e x
  omega
theorem uk_n : ∀ k j, nS k j = true → ukX 1 k j = false := by
  intro k j e
  rw [Bool.eq_false_iff]
  intro x
  simp only [nS, ukX, hX, lX, Bool.or_eq_true, Bool.and_eq_true, beq_iff_eq, decide_eq_true_eq] at e x
  omega
theorem un_T : ∀ k j, 129 ≤ k → unW2 k j = false := by
  intro k j e
  rw [Bool.eq_false_iff]
  intro x
  simp only [unW2, ycX, umX, ukX, hX, lX, Bool.or_eq_true, Bool.and_eq_true, beq_iff_eq, decide_eq_true_eq] at x
  omega
theorem mvK_hi {K r : Nat → Int32} {j : Nat} (h : 7 ≤ j) : mvK K r j = K j := if_neg (by omega)
theorem mvK_lo {K r : Nat → Int32} {j : Nat} (h : j < 7) : mvK K r j = r j := if_pos h
section Pu2
variable {L : Nat} {xs : Nat → Int32}
theorem p_undo : Pr (Ivt L xs) 103 M_X11_undo M_X12_undo [] := by
  intro n h I
  obtain ⟨np, nt, nd, nl, no, LSs, E, US, C1, C2, C3⟩ := I.2.2.1
  have V := C1.2.1.1
  have B := C1.2.1.2.1
  have len := URr_len _ _ _ C1.2.2.1
  rw [List.length_reverse, List.length_reverse] at len
  by_cases hE : E = []
  · have hU : US = [] := List.eq_nil_of_length_eq_zero (by rw [← len, hE]; rfl)
    have e0 : gI h 15 1 = nI 0 := by
      have q := C1.1.2.2.2.1.2.1
      rw [hE] at q
      exact q
    have F1 := rcF_r h 3
    refine (t_undo0 100 I.1.1 I.1.2.1 e0).imp (fun r h1 p => ⟨_, p.2, ?_⟩)
    rw [p.1]
    have ug : LGm (rcH h 3) [] := by
      have u := C1.2.2.2
      rw [hU] at u
      exact u.fr F1 rfl (fun _ => rfl)
    refine (s_undo0 102 (F1.S I.1.1) (I.1.2.1.rc 3) ug).imp (fun r2 h2 q => ⟨q.1, ?_⟩)
    rw [q.2]
    exact (I.nn (by omega)).up
  · obtain ⟨E', US', r, o, f, s, eE, eU, UO, r7, eK, U'⟩ := UR_last C1.2.2.1 hE
    have ho : o < 4 := by
      rcases UO with z | z | z | z <;> omega
    have e12 : gI h (1 + 12) 0 = gI h 102 6 := C1.1.1.2.2.2.2.2.2.2.2.2.2.2.2.2.2.2.2.2.2.1
    have Lg : LOG h 1 (E' ++ [lgE o f s]) := by rw [← eE]; exact C1.1.2.2.2.1
    refine (t_undo1 100 I.1.1 I.1.2.1 (C1.1.1.hm V) e12 ho Lg UO eK).imp (fun v h1 p => ?_)
    obtain ⟨g, e1, e2, F1, M1, m1, l1⟩ := p
    refine ⟨_, e2, ?_⟩
    rw [e1]
    have Fa := ycX_a g
    have S1 : ShOK (acH g) := Fa.S (F1.S I.1.1)
    have Rg : RfOK g := F1.R I.1.2.1 (by decide)
    have eg : gI g 102 = gI h 102 := F1.fun (fun _ => rfl)
    have ug : LGm g (US' ++ [r]) := by
      rw [← eU]
      exact C1.2.2.2.fr F1 rfl (fun _ => rfl)
    refine (s_undo 102 S1 Rg.ac (ug.fr Fa rfl (fun _ => rfl))).imp (fun v2 h2 q => ⟨?_, ?_⟩)
    · rw [q.1, r7]
    · obtain ⟨-, F2, k2, l2, s0⟩ := q
      have e102 : gI (acH g) 102 = gI h 102 := (Fa.fun (fun _ => rfl)).trans eg
      rw [e102] at k2
      have R2 : RfOK h2 := F2.R Rg.ac (by decide)
      have FF : Fr unW2 h h2 := ((unW_u F1).trans (unW_y Fa)).trans (unW_m F2)
      have lo1 : ∀ {k j : Nat}, 1 ≤ k ∧ k < 40 → ycX k j = false := fun {k j} hk => by
        rw [Bool.eq_false_iff]
        intro x
        simp only [ycX, Bool.or_eq_true, Bool.and_eq_true, beq_iff_eq] at x
        omega
      have lo2 : ∀ {k j : Nat}, k < 40 → umX k j = false := fun {k j} hk => by
        rw [Bool.eq_false_iff]
        intro x
        simp only [umX, Bool.or_eq_true, Bool.and_eq_true, beq_iff_eq, decide_eq_true_eq] at x
        omega
      have J0 := C1.1.1.hj (Or.inl rfl)
      have J1 : HJ g 1 (mvK (gI h 102) r) := ⟨Or.inl rfl, M1.2.1, fun p hp => ((F1.I _ _ rfl).trans (J0.2.2.1 p hp)).trans (mvK_hi (by omega)).symm, fun p hp => ((F1.I _ _ rfl).trans (J0.2.2.2.1 p hp)).trans (mvK_hi (by omega)).symm, fun p hp => ((F1.I _ _ rfl).trans (J0.2.2.2.2.1 p hp)).trans (mvK_hi (by omega)).symm, fun p hp => ((F1.I _ _ rfl).trans (J0.2.2.2.2.2.1 p hp)).trans (mvK_hi (by omega)).symm, fun p hp => ((F1.I _ _ rfl).trans (J0.2.2.2.2.2.2.1 p hp)).trans (mvK_hi (by omega)).symm, m1, ((F1.I _ _ rfl).trans J0.2.2.2.2.2.2.2.2).trans (mvK_hi (by omega)).symm⟩
      have Ag : HA g 1 (mvK (gI h 102) r) np nt nd nl := C1.1.1.act F1 J1 M1 (fun j hj => mvK_hi hj) (fun j => rfl) (fun j => rfl) (fun j => rfl) (fun j => rfl) (fun j => rfl) rfl
      have A2 : HA h2 1 (mvK (gI h 102) r) np nt nd nl := (Ag.fr Fa (fun o j ho => lo1 (by omega)) (lo1 (by omega))).fr F2 (fun o j ho => lo2 (by omega)) (lo2 (by omega))
      have Lg2 := (l1.fr Fa (lo1 (by omega)) (fun j => lo1 (by omega))).fr F2 (lo2 (by omega)) (fun j => lo2 (by omega))
      have B2 : KB (mvK (gI h 102) r) := by
        obtain ⟨m, hm, e6⟩ : ∃ m, m < 1000 ∧ r 6 = nI m := by
          obtain ⟨m, hm, e6⟩ := B.2.2.2.2.2.1
          have q6 := eK 6 (by omega)
          rcases UO with ⟨z, hf, hs, -⟩ | ⟨z, hf, hs, -⟩ | ⟨z, hf, hs, -⟩ | ⟨z, -, -, m', hm', z2⟩
          · have v1 := V.1
            rw [z] at q6
            exact ⟨m, hm, by rw [← e6, q6]; exact (upK_ne _ (by omega)).symm⟩
          · have v1 := V.1
            rw [z] at q6
            refine ⟨m, hm, ?_⟩
            rw [← e6, q6]
            show r 6 = upK (upK r f (r s)) s (r f) 6
            rw [upK_ne _ (by omega), upK_ne _ (by omega)]
          · have v1 := V.1
            rw [z] at q6
            exact ⟨m, hm, by rw [← e6, q6]; exact (upK_ne _ (by omega)).symm⟩
          · exact ⟨m', by omega, z2⟩
        exact B.hi (fun j hj => mvK_hi hj) hm ((mvK_lo (by omega)).trans e6)
      have cc : CORE h2 np nt nd nl no LSs E' US' := by
        unfold CORE
        rw [k2]
        exact ⟨C1.1.set FF A2 Lg2 (fun j => rfl) un_T, C1.2.1.act M1.1 B2 (fun j hj => mvK_hi hj), URr_congr (fun j hj => (mvK_lo hj).symm) _ _ U', l2⟩
      have c7 : gI h2 52 7 = nI 0 := F2.I 52 7 rfl
      have c8 : gI h2 52 8 = nI 0 := F2.I 52 8 rfl
      have N1 : ANSW g := I.2.2.2.2.2.1.fr F1 uk_n
      have An : ANSW h2 := by
        obtain ⟨n1, n2, n3, n4, n5, n6, n7, n8⟩ := N1
        unfold ANSW
        rw [s0, F2.I 0 14 rfl, F2.I 0 15 rfl, F2.I 0 16 rfl, F2.I 100 6 rfl, F2.I 100 50 rfl, F2.fun (k := 65) (fun _ => rfl), F2.fun (k := 101) (fun _ => rfl)]
        exact ⟨rfl, n2, n3, n4, n5, n6, n7, n8⟩
      exact (I.put (Y := noX) FF Fr.rfl' un_mu (fun _ _ _ => rfl) R2 ⟨np, nt, nd, nl, no, LSs, E', US', cc, CAB.no c7, CWY.no c8⟩ An).up
end Pu2
