theorem wX_T {k j : Nat} (o : okT k) : wX k j = false := by unfold wX; rw [show (k == 43) = false from beq_eq_false_iff_ne.mpr (okT_ne o (by decide) (by decide) (by decide) (by decide))]; rfl
theorem ltF_b {h : AH} {fl : Option (List CLE)} (J : JL h fl) {w : Nat → Int32} (hb : ∀ j, j < 9 → -1000000000 ≤ (w j).toInt ∧ (w j).toInt ≤ 1000000000) {vb : Nat} : ∀ y, ltF fl vb w = some y → -1000000000 ≤ y ∧ y ≤ 1000000000 := by
  match fl, J with
  | none, J => intro y hy; cases hy
  | some LS, J =>
    obtain ⟨tx, kh, kc, nh, nc, hl, T⟩ := J
    obtain ⟨c, v, hC⟩ := T.2.2.2.2.2.2.2.2.2.2.2
    have key : ∀ (L : List CLE) (acc : Option Int), (∀ e ∈ L, CeOK false c v (cdA LS) e) → (∀ y, acc = some y → -1000000000 ≤ y ∧ y ≤ 1000000000) → ∀ y, L.foldl (fun acc e => ltS vb w acc e) acc = some y → -1000000000 ≤ y ∧ y ≤ 1000000000 := by
      intro L
      induction L with
      | nil => intro acc _ ha y hy; exact ha y hy
      | cons e L ih =>
        intro acc hL ha y hy
        rw [List.foldl_cons] at hy
        refine ih _ (fun x hx => hL x (List.mem_cons_of_mem _ hx)) (fun z hz => ?_) y hy
        unfold ltS at hz
        split at hz
        · generalize hcv : clV e.2.2.2.2 w = cv at hz
          match cv, hcv, hz with
          | none, hcv, hz => exact ha z hz
          | some u, hcv, hz =>
            cases hz
            unfold clV at hcv
            generalize hp : e.2.2.2.2.2.2.1 = pt at hcv
            match pt, hp, hcv with
            | none, hp, hcv => cases hcv; decide
            | some (pos, D), hp, hcv =>
              have := (hL e (List.mem_cons_self ..)).2.2.1
              rw [show e.2.2.2.2.2.2.1 = some (pos, D) from hp] at this
              exact Pt_B (ord := false) (w := w) hb (Or.inr rfl) this pos D rfl _ hcv
        · exact ha z hz
    exact fun y hy => key LS none hC (fun y hy => nomatch hy) y hy
section Ask2
variable (d : Nat) {h : AH} {b : Nat} {K : Nat → Int32} {fl : Option (List CLE)}
theorem t_isFitJ (S : ShOK h) (R : RfOK h) (J : JS h b K fl) (B : KB K) {p t : Nat} (hp : p < 6) (ht : t < 8) : Rp (d + 2) M_X3_isFit 0 [some (.ref 40), some (.int (nI p)), some (.int (nI t)), none] [] h (fun r h' => Fr jX h h' ∧ JS h' b K fl ∧ r = some (.int (b2i (oFt K fl p t)))) := by
  obtain ⟨J1, J2, J3, J4, k1, k2, k3, k4⟩ := J
  have J : JS h b K fl := ⟨J1, J2, J3, J4, k1, k2, k3, k4⟩
  have hc := k2 p t hp ht
  by_cases hq : gI h 44 (144 + p * 8 + t) = -1
  · have sk := t_speak (d + 1) S R J3 J1 hp (sm8 ht) (-1) J4
    rw [wS_n] at sk
    refine Rp.sipush (nI 144) dX3_isFit_0 (by decide) ?_
    refine Rp.iload_n dX3_isFit_3 rfl ?_
    refine Rp.bipush (nI 8) dX3_isFit_4 (by decide) ?_
    first | ((with_reducible show Rp _ _ _ _ (.int (nI _) :: .int (nI _) :: _) _ _); refine Rp.imulN dX3_isFit_6 ?_) | refine Rp.imul dX3_isFit_6 ?_
    first | ((with_reducible show Rp _ _ _ _ (.int (nI _) :: .int (nI _) :: _) _ _); refine Rp.iaddN dX3_isFit_7 ?_) | refine Rp.iadd dX3_isFit_7 ?_
    refine Rp.iload_n dX3_isFit_8 rfl ?_
    first | ((with_reducible show Rp _ _ _ _ (.int (nI _) :: .int (nI _) :: _) _ _); refine Rp.iaddN dX3_isFit_9 ?_) | refine Rp.iadd dX3_isFit_9 ?_
    refine Rp.ist3 dX3_isFit_10 (by first | exact nl2_some rfl | exact nl2_none) (by decide) ?_
    refine Rp.aload_n dX3_isFit_11 rfl rfl ?_
    refine Rp.getR dX3_isFit_12 fk_X3_22 rfl (S _ _ rfl) (R _ _ _ rfl) ?_
    refine Rp.iload_n dX3_isFit_15 rfl ?_
    first | ((with_reducible show Rp _ _ _ _ (.int (nI _) :: _) _ _); refine Rp.ialoadN dX3_isFit_16 (S _ _ rfl) (by omega) ?_) | refine Rp.iaload dX3_isFit_16 (S _ _ rfl) (by first | assumption | exact vpb (by decide)) ?_
    first | rw [hq] | skip
    refine Rp.iconst (-1) dX3_isFit_17 (by decide) ?_
    first | ((with_reducible show Rp _ _ _ _ (.int (nI _) :: .int (nI _) :: _) _ _); refine Rp.icmp_neN (tgt := 68) dX3_isFit_18 (by decide) (by omega) (fun c18 => ?_) (fun c18 => ?_)) | refine Rp.icmp_ne (tgt := 68) dX3_isFit_18 (by decide) (fun c18 => ?_) (fun c18 => ?_)
    · exact absurd rfl c18
    refine Rp.aload_n dX3_isFit_21 rfl rfl ?_
    refine Rp.iload_n dX3_isFit_22 rfl ?_
    refine Rp.iload_n dX3_isFit_23 rfl ?_
    refine Rp.iconst (-1) dX3_isFit_24 (by decide) ?_
    refine Rp.callV3 M_X3_speakOf (ci := 3) dX3_isFit_25 mo_X3_speakOf lk_X3_50 (by decide) rfl rfl (S _ _ rfl) (Nat.le_of_ble_eq_true rfl) (Nat.le_of_ble_eq_true rfl) (sk) (fun v1 h1 p1 x1 => ?_)
    obtain ⟨rfl, F1, w1⟩ := p1
    try dsimp only [Option.toList, List.cons_append, List.nil_append, List.append]
    skip
    have S1 := F1.S S
    have R1 := F1.R R (by decide)
    have JL1 := J2.fr F1 (fun k j o => wX_T o) rfl
    have JH1 := J3.fr F1 (fun k j hk => wX_lt hk)
    have hj1 : gR h1 40 3 = some b := (F1.Rr 40 3 rfl).trans J1
    have A := JH1.2.1
    have ek := JH1.2.2.2.2.2.1 t ht
    have eb := JH1.2.2.1 p hp
    have an := t_any d S1 R1 JL1 w1 (fun j _ => wJ_bnd B hp (sm8 ht) sn j) (vb := 2) (by decide)
    rw [← tlO_an JL1 (by decide)] at an
    have fin : ∀ (g : AH) (x : Int32), x = b2i (oFt K fl p t) → Fr jX h g → (∀ j, gI g 44 j = gI h 44 j) → Rp (d + 2) M_X3_isFit 67 [some (.ref 40), some (.int (nI p)), some (.int (nI t)), some (.int (nI (144 + p * 8 + t)))] [.int x, .int (nI (144 + p * 8 + t)), .ref 44] g (fun r h' => Fr jX h h' ∧ JS h' b K fl ∧ r = some (.int (b2i (oFt K fl p t)))) := by
      intro g x hx F3 e44
      subst hx
      have S2 := F3.S S
      have R2 := F3.R R (by decide)
      have e1 : gI (sI g 44 (144 + p * 8 + t) (b2i (oFt K fl p t))) 44 (144 + p * 8 + t) = b2i (oFt K fl p t) := gI_hit _ _ _ _
      have F4 : Fr jX h (sI g 44 (144 + p * 8 + t) (b2i (oFt K fl p t))) := F3.sI (by unfold jX; rw [decide_eq_true (show 144 + p * 8 + t < 246 by omega)]; rfl)
      have o : ∀ j, j ≠ 144 + p * 8 + t → gI (sI g 44 (144 + p * 8 + t) (b2i (oFt K fl p t))) 44 j = gI h 44 j := fun j hj => by rw [gI_off _ _ _ hj, e44]
      have KN1 : KN (sI g 44 (144 + p * 8 + t) (b2i (oFt K fl p t))) K fl := by
        refine ⟨fun p' t' e' h1 h2 h3 => by rw [o _ (by omega)]; exact k1 p' t' e' h1 h2 h3, fun p' t' h1 h2 => ?_, fun p' t' h1 h2 => by rw [o _ (by omega)]; exact k3 p' t' h1 h2, fun p' h1 => by rw [o _ (by omega)]; exact k4 p' h1⟩
        by_cases z : 144 + p' * 8 + t' = 144 + p * 8 + t
        · rw [z, e1]
          have : p' = p ∧ t' = t := by omega
          rw [this.1, this.2]; exact Or.inr rfl
        · rw [o _ z]; exact k2 p' t' h1 h2
      have J5 := J.fr F4 KN1
      cases hv : oFt K fl p t
      · rw [hv] at e1 F4 J5
        rw [show b2i false = nI 0 from rfl] at e1 F4 J5 ⊢
        first | ((with_reducible show Rp _ _ _ _ (_ :: .int (nI _) :: _) _ _); refine Rp.iastoreN dX3_isFit_67 (S2 _ _ rfl) (by omega) ?_) | refine Rp.iastore dX3_isFit_67 (S2 _ _ rfl) (by first | assumption | exact vpb (by decide)) ?_
        refine Rp.aload_n dX3_isFit_68 rfl rfl ?_
        refine Rp.getR dX3_isFit_69 fk_X3_22 rfl (S2 _ _ rfl) (R2 _ _ _ rfl) ?_
        refine Rp.iload_n dX3_isFit_72 rfl ?_
        first | ((with_reducible show Rp _ _ _ _ (.int (nI _) :: _) _ _); refine Rp.ialoadN dX3_isFit_73 (S2 _ _ rfl) (by omega) ?_) | refine Rp.iaload dX3_isFit_73 (S2 _ _ rfl) (by first | assumption | exact vpb (by decide)) ?_
        first | rw [e1] | skip
        refine Rp.iconst (nI 1) dX3_isFit_74 (by decide) ?_
        first | ((with_reducible show Rp _ _ _ _ (.int (nI _) :: .int (nI _) :: _) _ _); refine Rp.icmp_neN (tgt := 82) dX3_isFit_75 (by decide) (by omega) (fun c75 => ?_) (fun c75 => ?_)) | refine Rp.icmp_ne (tgt := 82) dX3_isFit_75 (by decide) (fun c75 => ?_) (fun c75 => ?_)
        · skip
          refine Rp.iconst (nI 0) dX3_isFit_82 (by decide) ?_
          refine Rp.zreturn dX3_isFit_83 rfl (Or.inl rfl) ?_
          exact ⟨F4, J5, rfl⟩
        · skip
          first | (exfalso; omega) | exact absurd c75 (by decide) | exact absurd (by decide) c75
      · rw [hv] at e1 F4 J5
        rw [show b2i true = nI 1 from rfl] at e1 F4 J5 ⊢
        first | ((with_reducible show Rp _ _ _ _ (_ :: .int (nI _) :: _) _ _); refine Rp.iastoreN dX3_isFit_67 (S2 _ _ rfl) (by omega) ?_) | refine Rp.iastore dX3_isFit_67 (S2 _ _ rfl) (by first | assumption | exact vpb (by decide)) ?_
        refine Rp.aload_n dX3_isFit_68 rfl rfl ?_
        refine Rp.getR dX3_isFit_69 fk_X3_22 rfl (S2 _ _ rfl) (R2 _ _ _ rfl) ?_
        refine Rp.iload_n dX3_isFit_72 rfl ?_
        first | ((with_reducible show Rp _ _ _ _ (.int (nI _) :: _) _ _); refine Rp.ialoadN dX3_isFit_73 (S2 _ _ rfl) (by omega) ?_) | refine Rp.iaload dX3_isFit_73 (S2 _ _ rfl) (by first | assumption | exact vpb (by decide)) ?_
        first | rw [e1] | skip
        refine Rp.iconst (nI 1) dX3_isFit_74 (by decide) ?_
        first | ((with_reducible show Rp _ _ _ _ (.int (nI _) :: .int (nI _) :: _) _ _); refine Rp.icmp_neN (tgt := 82) dX3_isFit_75 (by decide) (by omega) (fun c75 => ?_) (fun c75 => ?_)) | refine Rp.icmp_ne (tgt := 82) dX3_isFit_75 (by decide) (fun c75 => ?_) (fun c75 => ?_)
        · skip
          first | (exfalso; omega) | exact absurd c75 (by decide) | exact absurd (by decide) c75
        · skip
          refine Rp.iconst (nI 1) dX3_isFit_78 (by decide) ?_
          refine Rp.goto (tgt := 83) dX3_isFit_79 (by decide) ?_
          refine Rp.zreturn dX3_isFit_83 rfl (Or.inr rfl) ?_
          exact ⟨F4, J5, rfl⟩
    have ef : oFt K fl p t = (decide (K (75 + t) = K (7 + p)) || decide (tlO fl (2 + 1) 0 1 (wJ K p (some t) none) 0 = 1)) := rfl
    by_cases hk : K (75 + t) = K (7 + p)
    · have f1 := fin h1 (nI 1) (by rw [ef, decide_eq_true hk]; rfl) (jX_w F1) (fun j => F1.I 44 j rfl)
      refine Rp.aload_n dX3_isFit_28 rfl rfl ?_
      refine Rp.getR dX3_isFit_29 fk_X3_22 rfl (S1 _ _ rfl) (R1 _ _ _ rfl) ?_
      refine Rp.iload_n dX3_isFit_32 rfl ?_
      refine Rp.aload_n dX3_isFit_33 rfl rfl ?_
      refine Rp.getR dX3_isFit_34 fk_X3_25 rfl (S1 _ _ rfl) hj1 ?_
      refine Rp.getR dX3_isFit_37 fk_X3_62 rfl (A.1 0 _ rfl) (A.2 0 7 6 rfl) ?_
      refine Rp.iload_n dX3_isFit_40 rfl ?_
      first | ((with_reducible show Rp _ _ _ _ (.int (nI _) :: _) _ _); refine Rp.ialoadN dX3_isFit_41 (A.1 6 _ rfl) (by omega) ?_) | refine Rp.iaload dX3_isFit_41 (A.1 6 _ rfl) (by first | assumption | exact vpb (by decide)) ?_
      first | rw [ek] | rw [eb] | skip
      refine Rp.aload_n dX3_isFit_42 rfl rfl ?_
      refine Rp.getR dX3_isFit_43 fk_X3_25 rfl (S1 _ _ rfl) hj1 ?_
      refine Rp.getR dX3_isFit_46 fk_X3_65 rfl (A.1 0 _ rfl) (A.2 0 1 1 rfl) ?_
      refine Rp.iload_n dX3_isFit_49 rfl ?_
      first | ((with_reducible show Rp _ _ _ _ (.int (nI _) :: _) _ _); refine Rp.ialoadN dX3_isFit_50 (A.1 1 _ rfl) (by omega) ?_) | refine Rp.iaload dX3_isFit_50 (A.1 1 _ rfl) (by first | assumption | exact vpb (by decide)) ?_
      first | rw [ek] | rw [eb] | skip
      first | ((with_reducible show Rp _ _ _ _ (.int (nI _) :: .int (nI _) :: _) _ _); refine Rp.icmp_eqN (tgt := 62) dX3_isFit_51 (by decide) (by omega) (fun c51 => ?_) (fun c51 => ?_)) | refine Rp.icmp_eq (tgt := 62) dX3_isFit_51 (by decide) (fun c51 => ?_) (fun c51 => ?_)
      · skip
        refine Rp.iconst (nI 1) dX3_isFit_62 (by decide) ?_
        refine Rp.goto (tgt := 67) dX3_isFit_63 (by decide) ?_
        exact f1
      · skip
        exact absurd hk c51
    · rw [decide_eq_false hk, Bool.false_or] at ef
      refine Rp.aload_n dX3_isFit_28 rfl rfl ?_
      refine Rp.getR dX3_isFit_29 fk_X3_22 rfl (S1 _ _ rfl) (R1 _ _ _ rfl) ?_
      refine Rp.iload_n dX3_isFit_32 rfl ?_
      refine Rp.aload_n dX3_isFit_33 rfl rfl ?_
      refine Rp.getR dX3_isFit_34 fk_X3_25 rfl (S1 _ _ rfl) hj1 ?_
      refine Rp.getR dX3_isFit_37 fk_X3_62 rfl (A.1 0 _ rfl) (A.2 0 7 6 rfl) ?_
      refine Rp.iload_n dX3_isFit_40 rfl ?_
      first | ((with_reducible show Rp _ _ _ _ (.int (nI _) :: _) _ _); refine Rp.ialoadN dX3_isFit_41 (A.1 6 _ rfl) (by omega) ?_) | refine Rp.iaload dX3_isFit_41 (A.1 6 _ rfl) (by first | assumption | exact vpb (by decide)) ?_
      first | rw [ek] | rw [eb] | skip
      refine Rp.aload_n dX3_isFit_42 rfl rfl ?_
      refine Rp.getR dX3_isFit_43 fk_X3_25 rfl (S1 _ _ rfl) hj1 ?_
      refine Rp.getR dX3_isFit_46 fk_X3_65 rfl (A.1 0 _ rfl) (A.2 0 1 1 rfl) ?_
      refine Rp.iload_n dX3_isFit_49 rfl ?_
      first | ((with_reducible show Rp _ _ _ _ (.int (nI _) :: _) _ _); refine Rp.ialoadN dX3_isFit_50 (A.1 1 _ rfl) (by omega) ?_) | refine Rp.iaload dX3_isFit_50 (A.1 1 _ rfl) (by first | assumption | exact vpb (by decide)) ?_
      first | rw [ek] | rw [eb] | skip
      first | ((with_reducible show Rp _ _ _ _ (.int (nI _) :: .int (nI _) :: _) _ _); refine Rp.icmp_eqN (tgt := 62) dX3_isFit_51 (by decide) (by omega) (fun c51 => ?_) (fun c51 => ?_)) | refine Rp.icmp_eq (tgt := 62) dX3_isFit_51 (by decide) (fun c51 => ?_) (fun c51 => ?_)
      · exact absurd c51 hk
      refine Rp.aload_n dX3_isFit_54 rfl rfl ?_
      refine Rp.iconst (nI 2) dX3_isFit_55 (by decide) ?_
      refine Rp.callV1 M_X3_anyHolds (ci := 3) dX3_isFit_56 mo_X3_anyHolds lk_X3_68 (by decide) rfl rfl (S1 _ _ rfl) (Nat.le_of_ble_eq_true rfl) (Nat.le_of_ble_eq_true rfl) (an) (fun v1 h1 p1 x1 => ?_)
      obtain ⟨F2, rfl⟩ := p1
      try dsimp only [Option.toList, List.cons_append, List.nil_append, List.append]
      skip
      have f0 := fin h1
      rw [← ef]
      have S2 := F2.S S1
      cases hv2 : oFt K fl p t
      · have f1 := f0 (nI 0) (by rw [hv2]; rfl) ((jX_w F1).trans (jX_m F2)) (fun j => (F2.I 44 j rfl).trans (F1.I 44 j rfl))
        rw [hv2] at f1
        first | ((with_reducible show Rp _ _ _ _ (.int (b2i _) :: _) _ _); refine Rp.if_eqB (tgt := 66) dX3_isFit_59 (by decide) (fun c59 => ?_) (fun c59 => ?_)) | ((with_reducible show Rp _ _ _ _ (.int (nI _) :: _) _ _); refine Rp.if_eqN (tgt := 66) dX3_isFit_59 (by decide) (by omega) (fun c59 => ?_) (fun c59 => ?_)) | refine Rp.if_eq (tgt := 66) dX3_isFit_59 (by decide) (fun c59 => ?_) (fun c59 => ?_)
        · skip
          refine Rp.iconst (nI 0) dX3_isFit_66 (by decide) ?_
          exact f1
        · skip
          cases c59
      · have f1 := f0 (nI 1) (by rw [hv2]; rfl) ((jX_w F1).trans (jX_m F2)) (fun j => (F2.I 44 j rfl).trans (F1.I 44 j rfl))
        rw [hv2] at f1
        first | ((with_reducible show Rp _ _ _ _ (.int (b2i _) :: _) _ _); refine Rp.if_eqB (tgt := 66) dX3_isFit_59 (by decide) (fun c59 => ?_) (fun c59 => ?_)) | ((with_reducible show Rp _ _ _ _ (.int (nI _) :: _) _ _); refine Rp.if_eqN (tgt := 66) dX3_isFit_59 (by decide) (by omega) (fun c59 => ?_) (fun c59 => ?_)) | refine Rp.if_eq (tgt := 66) dX3_isFit_59 (by decide) (fun c59 => ?_) (fun c59 => ?_)
        · skip
          cases c59
        · skip
          refine Rp.iconst (nI 1) dX3_isFit_62 (by decide) ?_
          refine Rp.goto (tgt := 67) dX3_isFit_63 (by decide) ?_
          exact f1
  · have hv := hc.resolve_left hq
    cases hv2 : oFt K fl p t
    · rw [hv2, show b2i false = nI 0 from rfl] at hv
      refine Rp.sipush (nI 144) dX3_isFit_0 (by decide) ?_
      refine Rp.iload_n dX3_isFit_3 rfl ?_
      refine Rp.bipush (nI 8) dX3_isFit_4 (by decide) ?_
      first | ((with_reducible show Rp _ _ _ _ (.int (nI _) :: .int (nI _) :: _) _ _); refine Rp.imulN dX3_isFit_6 ?_) | refine Rp.imul dX3_isFit_6 ?_
      first | ((with_reducible show Rp _ _ _ _ (.int (nI _) :: .int (nI _) :: _) _ _); refine Rp.iaddN dX3_isFit_7 ?_) | refine Rp.iadd dX3_isFit_7 ?_
      refine Rp.iload_n dX3_isFit_8 rfl ?_
      first | ((with_reducible show Rp _ _ _ _ (.int (nI _) :: .int (nI _) :: _) _ _); refine Rp.iaddN dX3_isFit_9 ?_) | refine Rp.iadd dX3_isFit_9 ?_
      refine Rp.ist3 dX3_isFit_10 (by first | exact nl2_some rfl | exact nl2_none) (by decide) ?_
      refine Rp.aload_n dX3_isFit_11 rfl rfl ?_
      refine Rp.getR dX3_isFit_12 fk_X3_22 rfl (S _ _ rfl) (R _ _ _ rfl) ?_
      refine Rp.iload_n dX3_isFit_15 rfl ?_
      first | ((with_reducible show Rp _ _ _ _ (.int (nI _) :: _) _ _); refine Rp.ialoadN dX3_isFit_16 (S _ _ rfl) (by omega) ?_) | refine Rp.iaload dX3_isFit_16 (S _ _ rfl) (by first | assumption | exact vpb (by decide)) ?_
      first | rw [hv] | skip
      refine Rp.iconst (-1) dX3_isFit_17 (by decide) ?_
      first | ((with_reducible show Rp _ _ _ _ (.int (nI _) :: .int (nI _) :: _) _ _); refine Rp.icmp_neN (tgt := 68) dX3_isFit_18 (by decide) (by omega) (fun c18 => ?_) (fun c18 => ?_)) | refine Rp.icmp_ne (tgt := 68) dX3_isFit_18 (by decide) (fun c18 => ?_) (fun c18 => ?_)
      · skip
        refine Rp.aload_n dX3_isFit_68 rfl rfl ?_
        refine Rp.getR dX3_isFit_69 fk_X3_22 rfl (S _ _ rfl) (R _ _ _ rfl) ?_
        refine Rp.iload_n dX3_isFit_72 rfl ?_
        first | ((with_reducible show Rp _ _ _ _ (.int (nI _) :: _) _ _); refine Rp.ialoadN dX3_isFit_73 (S _ _ rfl) (by omega) ?_) | refine Rp.iaload dX3_isFit_73 (S _ _ rfl) (by first | assumption | exact vpb (by decide)) ?_
        first | rw [hv] | skip
        refine Rp.iconst (nI 1) dX3_isFit_74 (by decide) ?_
        first | ((with_reducible show Rp _ _ _ _ (.int (nI _) :: .int (nI _) :: _) _ _); refine Rp.icmp_neN (tgt := 82) dX3_isFit_75 (by decide) (by omega) (fun c75 => ?_) (fun c75 => ?_)) | refine Rp.icmp_ne (tgt := 82) dX3_isFit_75 (by decide) (fun c75 => ?_) (fun c75 => ?_)
        · skip
          refine Rp.iconst (nI 0) dX3_isFit_82 (by decide) ?_
          refine Rp.zreturn dX3_isFit_83 rfl (Or.inl rfl) ?_
          exact ⟨Fr.rfl', J, rfl⟩
        · skip
          first | (exfalso; omega) | exact absurd c75 (by decide) | exact absurd (by decide) c75
      · skip
        exact absurd c18 (by decide)
    · rw [hv2, show b2i true = nI 1 from rfl] at hv
      refine Rp.sipush (nI 144) dX3_isFit_0 (by decide) ?_
      refine Rp.iload_n dX3_isFit_3 rfl ?_
      refine Rp.bipush (nI 8) dX3_isFit_4 (by decide) ?_
      first | ((with_reducible show Rp _ _ _ _ (.int (nI _) :: .int (nI _) :: _) _ _); refine Rp.imulN dX3_isFit_6 ?_) | refine Rp.imul dX3_isFit_6 ?_
      first | ((with_reducible show Rp _ _ _ _ (.int (nI _) :: .int (nI _) :: _) _ _); refine Rp.iaddN dX3_isFit_7 ?_) | refine Rp.iadd dX3_isFit_7 ?_
      refine Rp.iload_n dX3_isFit_8 rfl ?_
      first | ((with_reducible show Rp _ _ _ _ (.int (nI _) :: .int (nI _) :: _) _ _); refine Rp.iaddN dX3_isFit_9 ?_) | refine Rp.iadd dX3_isFit_9 ?_
      refine Rp.ist3 dX3_isFit_10 (by first | exact nl2_some rfl | exact nl2_none) (by decide) ?_
      refine Rp.aload_n dX3_isFit_11 rfl rfl ?_
      refine Rp.getR dX3_isFit_12 fk_X3_22 rfl (S _ _ rfl) (R _ _ _ rfl) ?_
      refine Rp.iload_n dX3_isFit_15 rfl ?_
      first | ((with_reducible show Rp _ _ _ _ (.int (nI _) :: _) _ _); refine Rp.ialoadN dX3_isFit_16 (S _ _ rfl) (by omega) ?_) | refine Rp.iaload dX3_isFit_16 (S _ _ rfl) (by first | assumption | exact vpb (by decide)) ?_
      first | rw [hv] | skip
      refine Rp.iconst (-1) dX3_isFit_17 (by decide) ?_
      first | ((with_reducible show Rp _ _ _ _ (.int (nI _) :: .int (nI _) :: _) _ _); refine Rp.icmp_neN (tgt := 68) dX3_isFit_18 (by decide) (by omega) (fun c18 => ?_) (fun c18 => ?_)) | refine Rp.icmp_ne (tgt := 68) dX3_isFit_18 (by decide) (fun c18 => ?_) (fun c18 => ?_)
      · skip
        refine Rp.aload_n dX3_isFit_68 rfl rfl ?_
        refine Rp.getR dX3_isFit_69 fk_X3_22 rfl (S _ _ rfl) (R _ _ _ rfl) ?_
        refine Rp.iload_n dX3_isFit_72 rfl ?_
        first | ((with_reducible show Rp _ _ _ _ (.int (nI _) :: _) _ _); refine Rp.ialoadN dX3_isFit_73 (S _ _ rfl) (by omega) ?_) | refine Rp.iaload dX3_isFit_73 (S _ _ rfl) (by first | assumption | exact vpb (by decide)) ?_
        first | rw [hv] | skip
        refine Rp.iconst (nI 1) dX3_isFit_74 (by decide) ?_
        first | ((with_reducible show Rp _ _ _ _ (.int (nI _) :: .int (nI _) :: _) _ _); refine Rp.icmp_neN (tgt := 82) dX3_isFit_75 (by decide) (by omega) (fun c75 => ?_) (fun c75 => ?_)) | refine Rp.icmp_ne (tgt := 82) dX3_isFit_75 (by decide) (fun c75 => ?_) (fun c75 => ?_)
        · skip
          first | (exfalso; omega) | exact absurd c75 (by decide) | exact absurd (by decide) c75
        · skip
          refine Rp.iconst (nI 1) dX3_isFit_78 (by decide) ?_
          refine Rp.goto (tgt := 83) dX3_isFit_79 (by decide) ?_
          refine Rp.zreturn dX3_isFit_83 rfl (Or.inr rfl) ?_
          exact ⟨Fr.rfl', J, rfl⟩
      · skip
        exact absurd c18 (by decide)
theorem nI_m1 {n : Nat} (h : n < 2147483648) : nI n ≠ -1 := fun z => by rw [i32_eq, nI_toInt h] at z; have : (-1 : Int32).toInt = -1 := rfl; omega
theorem t_costJ (S : ShOK h) (R : RfOK h) (J : JS h b K fl) (B : KB K) {p : Nat} (hp : p < 6) : Rp (d + 2) M_X3_cost 0 [some (.ref 40), some (.int (nI p)), none, none] [] h (fun r h' => Fr jX h h' ∧ JS h' b K fl ∧ r = some (.int (nI (oCs K fl p)))) := by
  obtain ⟨J1, J2, J3, J4, k1, k2, k3, k4⟩ := J
  have J : JS h b K fl := ⟨J1, J2, J3, J4, k1, k2, k3, k4⟩
  have hc := k4 p hp
  have le : oCs K fl p ≤ 9 := tlO_le (by decide) (by decide) (by decide)
  by_cases hq : gI h 44 (240 + p) = -1
  · have sk := t_speak (d + 1) S R J3 J1 hp (t := none) sn (-1) J4
    rw [wS_n] at sk
    refine Rp.sipush (nI 240) dX3_cost_0 (by decide) ?_
    refine Rp.iload_n dX3_cost_3 rfl ?_
    first | ((with_reducible show Rp _ _ _ _ (.int (nI _) :: .int (nI _) :: _) _ _); refine Rp.iaddN dX3_cost_4 ?_) | refine Rp.iadd dX3_cost_4 ?_
    refine Rp.ist2 dX3_cost_5 (by first | exact nl2_some rfl | exact nl2_none) (by decide) ?_
    refine Rp.aload_n dX3_cost_6 rfl rfl ?_
    refine Rp.getR dX3_cost_7 fk_X3_22 rfl (S _ _ rfl) (R _ _ _ rfl) ?_
    refine Rp.iload_n dX3_cost_10 rfl ?_
    first | ((with_reducible show Rp _ _ _ _ (.int (nI _) :: _) _ _); refine Rp.ialoadN dX3_cost_11 (S _ _ rfl) (by omega) ?_) | refine Rp.iaload dX3_cost_11 (S _ _ rfl) (by first | assumption | exact vpb (by decide)) ?_
    first | rw [hq] | skip
    refine Rp.iconst (-1) dX3_cost_12 (by decide) ?_
    first | ((with_reducible show Rp _ _ _ _ (.int (nI _) :: .int (nI _) :: _) _ _); refine Rp.icmp_neN (tgt := 55) dX3_cost_13 (by decide) (by omega) (fun c13 => ?_) (fun c13 => ?_)) | refine Rp.icmp_ne (tgt := 55) dX3_cost_13 (by decide) (fun c13 => ?_) (fun c13 => ?_)
    · exact absurd rfl c13
    refine Rp.aload_n dX3_cost_16 rfl rfl ?_
    refine Rp.iload_n dX3_cost_17 rfl ?_
    refine Rp.iconst (-1) dX3_cost_18 (by decide) ?_
    refine Rp.iconst (-1) dX3_cost_19 (by decide) ?_
    refine Rp.callV3 M_X3_speakOf (ci := 3) dX3_cost_20 mo_X3_speakOf lk_X3_50 (by decide) rfl rfl (S _ _ rfl) (Nat.le_of_ble_eq_true rfl) (Nat.le_of_ble_eq_true rfl) (sk) (fun v1 h1 p1 x1 => ?_)
    obtain ⟨rfl, F1, w1⟩ := p1
    try dsimp only [Option.toList, List.cons_append, List.nil_append, List.append]
    skip
    have S1 := F1.S S
    have R1 := F1.R R (by decide)
    have JL1 := J2.fr F1 (fun k j o => wX_T o) rfl
    have hbw : ∀ j, j < 9 → -1000000000 ≤ (wJ K p none none j).toInt ∧ (wJ K p none none j).toInt ≤ 1000000000 := fun j _ => wJ_bnd B hp sn sn j
    have la := t_last d S1 R1 JL1 w1 hbw (vb := 1) (by decide)
    have bd := mAns_b (ltF_b JL1 hbw (vb := 1))
    refine Rp.aload_n dX3_cost_23 rfl rfl ?_
    refine Rp.iconst (nI 1) dX3_cost_24 (by decide) ?_
    refine Rp.callV1 M_X3_lastTold (ci := 3) dX3_cost_25 mo_X3_lastTold lk_X3_54 (by decide) rfl rfl (S1 _ _ rfl) (Nat.le_of_ble_eq_true rfl) (Nat.le_of_ble_eq_true rfl) (la) (fun v1 h1 p1 x1 => ?_)
    obtain ⟨F2, rfl⟩ := p1
    try dsimp only [Option.toList, List.cons_append, List.nil_append, List.append]
    skip
    have S2 := F2.S S1
    have R2 := F2.R R1 (by decide)
    have F3 := (jX_w F1).trans (jX_m F2)
    have ec : oCs K fl p = (match ltF fl 1 (wJ K p none none) with | none => 1 | some y => clmp 0 9 y) := tlO_lt
    have fin : ∀ (x : Int32) (a3 : Option Value), x = nI (oCs K fl p) → Rp (d + 2) M_X3_cost 54 [some (.ref 40), some (.int (nI p)), some (.int (nI (240 + p))), a3] [.int x, .int (nI (240 + p)), .ref 44] h1 (fun r h' => Fr jX h h' ∧ JS h' b K fl ∧ r = some (.int (nI (oCs K fl p)))) := by
      intro x a3 hx
      subst hx
      have e1 : gI (sI h1 44 (240 + p) (nI (oCs K fl p))) 44 (240 + p) = nI (oCs K fl p) := gI_hit _ _ _ _
      have F4 : Fr jX h (sI h1 44 (240 + p) (nI (oCs K fl p))) := F3.sI (by unfold jX; rw [decide_eq_true (show 240 + p < 246 by omega)]; rfl)
      have o : ∀ j, j ≠ 240 + p → gI (sI h1 44 (240 + p) (nI (oCs K fl p))) 44 j = gI h 44 j := fun j hj => by rw [gI_off _ _ _ hj, F2.I 44 j rfl, F1.I 44 j rfl]
      have KN1 : KN (sI h1 44 (240 + p) (nI (oCs K fl p))) K fl := by
        refine ⟨fun p' t' e' h1 h2 h3 => by rw [o _ (by omega)]; exact k1 p' t' e' h1 h2 h3, fun p' t' h1 h2 => by rw [o _ (by omega)]; exact k2 p' t' h1 h2, fun p' t' h1 h2 => by rw [o _ (by omega)]; exact k3 p' t' h1 h2, fun p' h1 => ?_⟩
        by_cases z : p' = p
        · rw [z, e1]; exact Or.inr rfl
        · rw [o _ (by omega)]; exact k4 p' h1
      have J5 := J.fr F4 KN1
      first | ((with_reducible show Rp _ _ _ _ (_ :: .int (nI _) :: _) _ _); refine Rp.iastoreN dX3_cost_54 (S2 _ _ rfl) (by omega) ?_) | refine Rp.iastore dX3_cost_54 (S2 _ _ rfl) (by first | assumption | exact vpb (by decide)) ?_
      refine Rp.aload_n dX3_cost_55 rfl rfl ?_
      refine Rp.getR dX3_cost_56 fk_X3_22 rfl (S2 _ _ rfl) (R2 _ _ _ rfl) ?_
      refine Rp.iload_n dX3_cost_59 rfl ?_
      first | ((with_reducible show Rp _ _ _ _ (.int (nI _) :: _) _ _); refine Rp.ialoadN dX3_cost_60 (S2 _ _ rfl) (by omega) ?_) | refine Rp.iaload dX3_cost_60 (S2 _ _ rfl) (by first | assumption | exact vpb (by decide)) ?_
      first | rw [e1] | skip
      refine Rp.ireturn dX3_cost_61 rfl ?_
      exact ⟨F4, J5, rfl⟩
    match hl : ltF fl 1 (wJ K p none none) with
    | none =>
      rw [hl] at ec bd
      have f1 := fin (nI 1) (some (.int (-2000000000))) (by rw [ec])
      refine Rp.ist3 dX3_cost_28 (by first | exact nl2_some rfl | exact nl2_none) (by decide) ?_
      refine Rp.aload_n dX3_cost_29 rfl rfl ?_
      refine Rp.getR dX3_cost_30 fk_X3_22 rfl (S2 _ _ rfl) (R2 _ _ _ rfl) ?_
      refine Rp.iload_n dX3_cost_33 rfl ?_
      refine Rp.iload_n dX3_cost_34 rfl ?_
      refine Rp.ldc dX3_cost_35 kc_X3_58 ?_
      first | ((with_reducible show Rp _ _ _ _ (.int (nI _) :: .int (nI _) :: _) _ _); refine Rp.icmp_neN (tgt := 44) dX3_cost_37 (by decide) (by omega) (fun c37 => ?_) (fun c37 => ?_)) | refine Rp.icmp_ne (tgt := 44) dX3_cost_37 (by decide) (fun c37 => ?_) (fun c37 => ?_)
      · skip
        exact absurd rfl c37
      · skip
        refine Rp.iconst (nI 1) dX3_cost_40 (by decide) ?_
        refine Rp.goto (tgt := 54) dX3_cost_41 (by decide) ?_
        exact f1
    | some y =>
      have hy := ltF_b JL1 hbw (vb := 1) y hl
      rw [hl] at ec bd
      have hne : mAns (some y) ≠ -2000000000 := fun z => nomatch (bd.1.mp z)
      have f1 := fin _ (some (.int (Int32.ofInt y))) ((clmp_mm (lo := 0) (hi := 9) (by decide) (by decide) hy).trans (by rw [ec]))
      refine Rp.ist3 dX3_cost_28 (by first | exact nl2_some rfl | exact nl2_none) (by decide) ?_
      refine Rp.aload_n dX3_cost_29 rfl rfl ?_
      refine Rp.getR dX3_cost_30 fk_X3_22 rfl (S2 _ _ rfl) (R2 _ _ _ rfl) ?_
      refine Rp.iload_n dX3_cost_33 rfl ?_
      refine Rp.iload_n dX3_cost_34 rfl ?_
      refine Rp.ldc dX3_cost_35 kc_X3_58 ?_
      first | ((with_reducible show Rp _ _ _ _ (.int (nI _) :: .int (nI _) :: _) _ _); refine Rp.icmp_neN (tgt := 44) dX3_cost_37 (by decide) (by omega) (fun c37 => ?_) (fun c37 => ?_)) | refine Rp.icmp_ne (tgt := 44) dX3_cost_37 (by decide) (fun c37 => ?_) (fun c37 => ?_)
      · skip
        refine Rp.iconst (nI 0) dX3_cost_44 (by decide) ?_
        refine Rp.iload_n dX3_cost_45 rfl ?_
        refine Rp.bipush (nI 9) dX3_cost_46 (by decide) ?_
        refine Rp.mmin dX3_cost_48 mm_X3_59 (Nat.le_of_ble_eq_true rfl) ?_
        refine Rp.mmax dX3_cost_51 mm_X3_44 (Nat.le_of_ble_eq_true rfl) ?_
        exact f1
      · skip
        exact absurd c37 hne
  · have hv := hc.resolve_left hq
    have om := nI_m1 (n := oCs K fl p) (by omega)
    refine Rp.sipush (nI 240) dX3_cost_0 (by decide) ?_
    refine Rp.iload_n dX3_cost_3 rfl ?_
    first | ((with_reducible show Rp _ _ _ _ (.int (nI _) :: .int (nI _) :: _) _ _); refine Rp.iaddN dX3_cost_4 ?_) | refine Rp.iadd dX3_cost_4 ?_
    refine Rp.ist2 dX3_cost_5 (by first | exact nl2_some rfl | exact nl2_none) (by decide) ?_
    refine Rp.aload_n dX3_cost_6 rfl rfl ?_
    refine Rp.getR dX3_cost_7 fk_X3_22 rfl (S _ _ rfl) (R _ _ _ rfl) ?_
    refine Rp.iload_n dX3_cost_10 rfl ?_
    first | ((with_reducible show Rp _ _ _ _ (.int (nI _) :: _) _ _); refine Rp.ialoadN dX3_cost_11 (S _ _ rfl) (by omega) ?_) | refine Rp.iaload dX3_cost_11 (S _ _ rfl) (by first | assumption | exact vpb (by decide)) ?_
    first | rw [hv] | skip
    refine Rp.iconst (-1) dX3_cost_12 (by decide) ?_
    first | ((with_reducible show Rp _ _ _ _ (.int (nI _) :: .int (nI _) :: _) _ _); refine Rp.icmp_neN (tgt := 55) dX3_cost_13 (by decide) (by omega) (fun c13 => ?_) (fun c13 => ?_)) | refine Rp.icmp_ne (tgt := 55) dX3_cost_13 (by decide) (fun c13 => ?_) (fun c13 => ?_)
    · skip
      refine Rp.aload_n dX3_cost_55 rfl rfl ?_
      refine Rp.getR dX3_cost_56 fk_X3_22 rfl (S _ _ rfl) (R _ _ _ rfl) ?_
      refine Rp.iload_n dX3_cost_59 rfl ?_
      first | ((with_reducible show Rp _ _ _ _ (.int (nI _) :: _) _ _); refine Rp.ialoadN dX3_cost_60 (S _ _ rfl) (by omega) ?_) | refine Rp.iaload dX3_cost_60 (S _ _ rfl) (by first | assumption | exact vpb (by decide)) ?_
      first | rw [hv] | skip
      refine Rp.ireturn dX3_cost_61 rfl ?_
      exact ⟨Fr.rfl', J, rfl⟩
    · skip
      exact absurd c13 om
theorem t_minutesJ (S : ShOK h) (R : RfOK h) (J : JS h b K fl) (B : KB K) {p t e s : Nat} (hp : p < 6) (ht : t < 8) (he : e < 3) (hs : K (86 + e) = nI s) (hs1 : 1 ≤ s ∧ s ≤ 9) : Rp (d + 2) M_X3_minutes 0 [some (.ref 40), some (.int (nI p)), some (.int (nI t)), some (.int (nI e)), none, none, none] [] h (fun r h' => Fr jX h h' ∧ JS h' b K fl ∧ r = some (.int (nI (oTk K fl p t e)))) := by
  obtain ⟨J1, J2, J3, J4, k1, k2, k3, k4⟩ := J
  have J : JS h b K fl := ⟨J1, J2, J3, J4, k1, k2, k3, k4⟩
  have hc := k1 p t e hp ht he
  have esp : spE K e = s := by unfold spE; rw [hs, nI_toInt (by omega)]; rfl
  have d20 : 20 / s ≤ 20 := Nat.div_le_self _ _
  have le : oTk K fl p t e ≤ 60 := tlO_le (by decide) (by decide) (by rw [esp]; omega)
  by_cases hq : gI h 44 ((p * 8 + t) * 3 + e) = -1
  · have sk := t_speak (d + 1) S R J3 J1 hp (sm8 ht) (nI s) J4
    rw [← hs, wS_e, hs] at sk
    have A := J3.2.1
    have es := (J3.2.2.2.2.2.2.1 e he).trans hs
    have emx : (if nI s < nI 1 then nI 1 else nI s) = nI s := if_neg (by rw [i32_lt, nI_toInt (by omega), nI_toInt (by decide)]; omega)
    refine Rp.iload_n dX3_minutes_0 rfl ?_
    refine Rp.bipush (nI 8) dX3_minutes_1 (by decide) ?_
    first | ((with_reducible show Rp _ _ _ _ (.int (nI _) :: .int (nI _) :: _) _ _); refine Rp.imulN dX3_minutes_3 ?_) | refine Rp.imul dX3_minutes_3 ?_
    refine Rp.iload_n dX3_minutes_4 rfl ?_
    first | ((with_reducible show Rp _ _ _ _ (.int (nI _) :: .int (nI _) :: _) _ _); refine Rp.iaddN dX3_minutes_5 ?_) | refine Rp.iadd dX3_minutes_5 ?_
    refine Rp.iconst (nI 3) dX3_minutes_6 (by decide) ?_
    first | ((with_reducible show Rp _ _ _ _ (.int (nI _) :: .int (nI _) :: _) _ _); refine Rp.imulN dX3_minutes_7 ?_) | refine Rp.imul dX3_minutes_7 ?_
    refine Rp.iload_n dX3_minutes_8 rfl ?_
    first | ((with_reducible show Rp _ _ _ _ (.int (nI _) :: .int (nI _) :: _) _ _); refine Rp.iaddN dX3_minutes_9 ?_) | refine Rp.iadd dX3_minutes_9 ?_
    refine Rp.ist4 dX3_minutes_10 (by first | exact nl2_some rfl | exact nl2_none) (by decide) ?_
    refine Rp.aload_n dX3_minutes_12 rfl rfl ?_
    refine Rp.getR dX3_minutes_13 fk_X3_22 rfl (S _ _ rfl) (R _ _ _ rfl) ?_
    refine Rp.iload dX3_minutes_16 rfl ?_
    first | ((with_reducible show Rp _ _ _ _ (.int (nI _) :: _) _ _); refine Rp.ialoadN dX3_minutes_18 (S _ _ rfl) (by omega) ?_) | refine Rp.iaload dX3_minutes_18 (S _ _ rfl) (by first | assumption | exact vpb (by decide)) ?_
    first | rw [hq] | rw [es] | skip
    refine Rp.iconst (-1) dX3_minutes_19 (by decide) ?_
    first | ((with_reducible show Rp _ _ _ _ (.int (nI _) :: .int (nI _) :: _) _ _); refine Rp.icmp_neN (tgt := 88) dX3_minutes_20 (by decide) (by omega) (fun c20 => ?_) (fun c20 => ?_)) | refine Rp.icmp_ne (tgt := 88) dX3_minutes_20 (by decide) (fun c20 => ?_) (fun c20 => ?_)
    · exact absurd rfl c20
    refine Rp.aload_n dX3_minutes_23 rfl rfl ?_
    refine Rp.getR dX3_minutes_24 fk_X3_25 rfl (S _ _ rfl) J1 ?_
    refine Rp.getR dX3_minutes_27 fk_X3_39 rfl (A.1 0 _ rfl) (A.2 0 11 9 rfl) ?_
    refine Rp.iload_n dX3_minutes_30 rfl ?_
    first | ((with_reducible show Rp _ _ _ _ (.int (nI _) :: _) _ _); refine Rp.ialoadN dX3_minutes_31 (A.1 9 _ rfl) (by omega) ?_) | refine Rp.iaload dX3_minutes_31 (A.1 9 _ rfl) (by first | assumption | exact vpb (by decide)) ?_
    first | rw [hq] | rw [es] | skip
    refine Rp.iconst (nI 1) dX3_minutes_32 (by decide) ?_
    refine Rp.mmax dX3_minutes_33 mm_X3_44 (Nat.le_of_ble_eq_true rfl) ?_
    rw [emx]
    refine Rp.ist5 dX3_minutes_36 (by first | exact nl2_some rfl | exact nl2_none) (by decide) ?_
    refine Rp.aload_n dX3_minutes_38 rfl rfl ?_
    refine Rp.iload_n dX3_minutes_39 rfl ?_
    refine Rp.iload_n dX3_minutes_40 rfl ?_
    refine Rp.iload dX3_minutes_41 rfl ?_
    refine Rp.callV3 M_X3_speakOf (ci := 3) dX3_minutes_43 mo_X3_speakOf lk_X3_50 (by decide) rfl rfl (S _ _ rfl) (Nat.le_of_ble_eq_true rfl) (Nat.le_of_ble_eq_true rfl) (sk) (fun v1 h1 p1 x1 => ?_)
    obtain ⟨rfl, F1, w1⟩ := p1
    try dsimp only [Option.toList, List.cons_append, List.nil_append, List.append]
    skip
    have S1 := F1.S S
    have R1 := F1.R R (by decide)
    have JL1 := J2.fr F1 (fun k j o => wX_T o) rfl
    have hbw : ∀ j, j < 9 → -1000000000 ≤ (wJ K p (some t) (some e) j).toInt ∧ (wJ K p (some t) (some e) j).toInt ≤ 1000000000 := fun j _ => wJ_bnd B hp (sm8 ht) (sm3 he) j
    have la := t_last d S1 R1 JL1 w1 hbw (vb := 0) (by decide)
    have bd := mAns_b (ltF_b JL1 hbw (vb := 0))
    refine Rp.aload_n dX3_minutes_46 rfl rfl ?_
    refine Rp.iconst (nI 0) dX3_minutes_47 (by decide) ?_
    refine Rp.callV1 M_X3_lastTold (ci := 3) dX3_minutes_48 mo_X3_lastTold lk_X3_54 (by decide) rfl rfl (S1 _ _ rfl) (Nat.le_of_ble_eq_true rfl) (Nat.le_of_ble_eq_true rfl) (la) (fun v1 h1 p1 x1 => ?_)
    obtain ⟨F2, rfl⟩ := p1
    try dsimp only [Option.toList, List.cons_append, List.nil_append, List.append]
    skip
    have S2 := F2.S S1
    have R2 := F2.R R1 (by decide)
    have F3 := (jX_w F1).trans (jX_m F2)
    have ec : oTk K fl p t e = (match ltF fl 0 (wJ K p (some t) (some e)) with | none => 1 + 20 / spE K e | some y => clmp 1 60 y) := tlO_lt
    rw [esp] at ec
    have fin : ∀ (x : Int32) (a6 : Option Value), x = nI (oTk K fl p t e) → Rp (d + 2) M_X3_minutes 87 [some (.ref 40), some (.int (nI p)), some (.int (nI t)), some (.int (nI e)), some (.int (nI ((p * 8 + t) * 3 + e))), some (.int (nI s)), a6] [.int x, .int (nI ((p * 8 + t) * 3 + e)), .ref 44] h1 (fun r h' => Fr jX h h' ∧ JS h' b K fl ∧ r = some (.int (nI (oTk K fl p t e)))) := by
      intro x a6 hx
      subst hx
      have e1 : gI (sI h1 44 ((p * 8 + t) * 3 + e) (nI (oTk K fl p t e))) 44 ((p * 8 + t) * 3 + e) = nI (oTk K fl p t e) := gI_hit _ _ _ _
      have F4 : Fr jX h (sI h1 44 ((p * 8 + t) * 3 + e) (nI (oTk K fl p t e))) := F3.sI (by unfold jX; rw [decide_eq_true (show (p * 8 + t) * 3 + e < 246 by omega)]; rfl)
      have o : ∀ j, j ≠ (p * 8 + t) * 3 + e → gI (sI h1 44 ((p * 8 + t) * 3 + e) (nI (oTk K fl p t e))) 44 j = gI h 44 j := fun j hj => by rw [gI_off _ _ _ hj, F2.I 44 j rfl, F1.I 44 j rfl]
      have KN1 : KN (sI h1 44 ((p * 8 + t) * 3 + e) (nI (oTk K fl p t e))) K fl := by
        refine ⟨fun p' t' e' h1 h2 h3 => ?_, fun p' t' h1 h2 => by rw [o _ (by omega)]; exact k2 p' t' h1 h2, fun p' t' h1 h2 => by rw [o _ (by omega)]; exact k3 p' t' h1 h2, fun p' h1 => by rw [o _ (by omega)]; exact k4 p' h1⟩
        by_cases z : (p' * 8 + t') * 3 + e' = (p * 8 + t) * 3 + e
        · rw [z, e1]
          have : p' = p ∧ t' = t ∧ e' = e := by omega
          rw [this.1, this.2.1, this.2.2]; exact Or.inr rfl
        · rw [o _ z]; exact k1 p' t' e' h1 h2 h3
      have J5 := J.fr F4 KN1
      first | ((with_reducible show Rp _ _ _ _ (_ :: .int (nI _) :: _) _ _); refine Rp.iastoreN dX3_minutes_87 (S2 _ _ rfl) (by omega) ?_) | refine Rp.iastore dX3_minutes_87 (S2 _ _ rfl) (by first | assumption | exact vpb (by decide)) ?_
      refine Rp.aload_n dX3_minutes_88 rfl rfl ?_
      refine Rp.getR dX3_minutes_89 fk_X3_22 rfl (S2 _ _ rfl) (R2 _ _ _ rfl) ?_
      refine Rp.iload dX3_minutes_92 rfl ?_
      first | ((with_reducible show Rp _ _ _ _ (.int (nI _) :: _) _ _); refine Rp.ialoadN dX3_minutes_94 (S2 _ _ rfl) (by omega) ?_) | refine Rp.iaload dX3_minutes_94 (S2 _ _ rfl) (by first | assumption | exact vpb (by decide)) ?_
      first | rw [e1] | skip
      refine Rp.ireturn dX3_minutes_95 rfl ?_
      exact ⟨F4, J5, rfl⟩
    match hl : ltF fl 0 (wJ K p (some t) (some e)) with
    | none =>
      rw [hl] at ec bd
      have f1 := fin (nI (1 + 20 / s)) (some (.int (-2000000000))) (by rw [ec])
      have ne0 : ¬ nI s = 0 := fun z => by rw [i32_eq, nI_toInt (by omega)] at z; have : (0 : Int32).toInt = 0 := rfl; omega
      refine Rp.ist6 dX3_minutes_51 (by first | exact nl2_some rfl | exact nl2_none) (by decide) ?_
      refine Rp.aload_n dX3_minutes_53 rfl rfl ?_
      refine Rp.getR dX3_minutes_54 fk_X3_22 rfl (S2 _ _ rfl) (R2 _ _ _ rfl) ?_
      refine Rp.iload dX3_minutes_57 rfl ?_
      refine Rp.iload dX3_minutes_59 rfl ?_
      refine Rp.ldc dX3_minutes_61 kc_X3_58 ?_
      first | ((with_reducible show Rp _ _ _ _ (.int (nI _) :: .int (nI _) :: _) _ _); refine Rp.icmp_neN (tgt := 76) dX3_minutes_63 (by decide) (by omega) (fun c63 => ?_) (fun c63 => ?_)) | refine Rp.icmp_ne (tgt := 76) dX3_minutes_63 (by decide) (fun c63 => ?_) (fun c63 => ?_)
      · skip
        exact absurd rfl c63
      · skip
        refine Rp.iconst (nI 1) dX3_minutes_66 (by decide) ?_
        refine Rp.bipush (nI 20) dX3_minutes_67 (by decide) ?_
        refine Rp.iload dX3_minutes_69 rfl ?_
        refine Rp.idiv dX3_minutes_71 ne0 ?_
        rw [idiv_nI (by decide) (by omega) (by omega)]
        first | ((with_reducible show Rp _ _ _ _ (.int (nI _) :: .int (nI _) :: _) _ _); refine Rp.iaddN dX3_minutes_72 ?_) | refine Rp.iadd dX3_minutes_72 ?_
        refine Rp.goto (tgt := 87) dX3_minutes_73 (by decide) ?_
        exact f1
    | some y =>
      have hy := ltF_b JL1 hbw (vb := 0) y hl
      rw [hl] at ec bd
      have hne : mAns (some y) ≠ -2000000000 := fun z => nomatch (bd.1.mp z)
      have f1 := fin _ (some (.int (Int32.ofInt y))) ((clmp_mm (lo := 1) (hi := 60) (by decide) (by decide) hy).trans (by rw [ec]))
      refine Rp.ist6 dX3_minutes_51 (by first | exact nl2_some rfl | exact nl2_none) (by decide) ?_
      refine Rp.aload_n dX3_minutes_53 rfl rfl ?_
      refine Rp.getR dX3_minutes_54 fk_X3_22 rfl (S2 _ _ rfl) (R2 _ _ _ rfl) ?_
      refine Rp.iload dX3_minutes_57 rfl ?_
      refine Rp.iload dX3_minutes_59 rfl ?_
      refine Rp.ldc dX3_minutes_61 kc_X3_58 ?_
      first | ((with_reducible show Rp _ _ _ _ (.int (nI _) :: .int (nI _) :: _) _ _); refine Rp.icmp_neN (tgt := 76) dX3_minutes_63 (by decide) (by omega) (fun c63 => ?_) (fun c63 => ?_)) | refine Rp.icmp_ne (tgt := 76) dX3_minutes_63 (by decide) (fun c63 => ?_) (fun c63 => ?_)
      · skip
        refine Rp.iconst (nI 1) dX3_minutes_76 (by decide) ?_
        refine Rp.iload dX3_minutes_77 rfl ?_
        refine Rp.bipush (nI 60) dX3_minutes_79 (by decide) ?_
        refine Rp.mmin dX3_minutes_81 mm_X3_59 (Nat.le_of_ble_eq_true rfl) ?_
        refine Rp.mmax dX3_minutes_84 mm_X3_44 (Nat.le_of_ble_eq_true rfl) ?_
        exact f1
      · skip
        exact absurd c63 hne
  · have hv := hc.resolve_left hq
    have om := nI_m1 (n := oTk K fl p t e) (by omega)
    refine Rp.iload_n dX3_minutes_0 rfl ?_
    refine Rp.bipush (nI 8) dX3_minutes_1 (by decide) ?_
    first | ((with_reducible show Rp _ _ _ _ (.int (nI _) :: .int (nI _) :: _) _ _); refine Rp.imulN dX3_minutes_3 ?_) | refine Rp.imul dX3_minutes_3 ?_
    refine Rp.iload_n dX3_minutes_4 rfl ?_
    first | ((with_reducible show Rp _ _ _ _ (.int (nI _) :: .int (nI _) :: _) _ _); refine Rp.iaddN dX3_minutes_5 ?_) | refine Rp.iadd dX3_minutes_5 ?_
    refine Rp.iconst (nI 3) dX3_minutes_6 (by decide) ?_
    first | ((with_reducible show Rp _ _ _ _ (.int (nI _) :: .int (nI _) :: _) _ _); refine Rp.imulN dX3_minutes_7 ?_) | refine Rp.imul dX3_minutes_7 ?_
    refine Rp.iload_n dX3_minutes_8 rfl ?_
    first | ((with_reducible show Rp _ _ _ _ (.int (nI _) :: .int (nI _) :: _) _ _); refine Rp.iaddN dX3_minutes_9 ?_) | refine Rp.iadd dX3_minutes_9 ?_
    refine Rp.ist4 dX3_minutes_10 (by first | exact nl2_some rfl | exact nl2_none) (by decide) ?_
    refine Rp.aload_n dX3_minutes_12 rfl rfl ?_
    refine Rp.getR dX3_minutes_13 fk_X3_22 rfl (S _ _ rfl) (R _ _ _ rfl) ?_
    refine Rp.iload dX3_minutes_16 rfl ?_
    first | ((with_reducible show Rp _ _ _ _ (.int (nI _) :: _) _ _); refine Rp.ialoadN dX3_minutes_18 (S _ _ rfl) (by omega) ?_) | refine Rp.iaload dX3_minutes_18 (S _ _ rfl) (by first | assumption | exact vpb (by decide)) ?_
    first | rw [hv] | skip
    refine Rp.iconst (-1) dX3_minutes_19 (by decide) ?_
    first | ((with_reducible show Rp _ _ _ _ (.int (nI _) :: .int (nI _) :: _) _ _); refine Rp.icmp_neN (tgt := 88) dX3_minutes_20 (by decide) (by omega) (fun c20 => ?_) (fun c20 => ?_)) | refine Rp.icmp_ne (tgt := 88) dX3_minutes_20 (by decide) (fun c20 => ?_) (fun c20 => ?_)
    · skip
      refine Rp.aload_n dX3_minutes_88 rfl rfl ?_
      refine Rp.getR dX3_minutes_89 fk_X3_22 rfl (S _ _ rfl) (R _ _ _ rfl) ?_
      refine Rp.iload dX3_minutes_92 rfl ?_
      first | ((with_reducible show Rp _ _ _ _ (.int (nI _) :: _) _ _); refine Rp.ialoadN dX3_minutes_94 (S _ _ rfl) (by omega) ?_) | refine Rp.iaload dX3_minutes_94 (S _ _ rfl) (by first | assumption | exact vpb (by decide)) ?_
      first | rw [hv] | skip
      refine Rp.ireturn dX3_minutes_95 rfl ?_
      exact ⟨Fr.rfl', J, rfl⟩
    · skip
      exact absurd c20 om
end Ask2
