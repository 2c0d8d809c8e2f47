def liX (k j : Nat) : Bool := k == 47 && decide (j < 8)
/-- the tickets stand in line -/
def LINE (h : AH) (K : Nat → Int32) (nt : Nat) : Prop := ∀ t, t < nt → gI h 47 (rk K (nmb K t) nt) = nI t
section Ln
variable (d : Nat) {h : AH} {b : Nat} {K : Nat → Int32} {nt : Nat}
theorem line15 {P : Option Value → AH → Prop} (A : HOK h b) (V : VN K nt) (m4 : gI h b 5 = nI nt) (hn : ∀ t, t < 8 → gI h (b + 5) t = K (67 + t)) {t : Nat} (ht : t < nt) (a0 : Value) (kk : Rp d M_X1_line 49 [some a0, some (.ref b), some (.int (nI t)), some (.int (nI (rk K (nmb K t) nt))), some (.int (nI nt))] [] h P) : ∀ (m o : Nat), o + m = nt → Rp d M_X1_line 15 [some a0, some (.ref b), some (.int (nI t)), some (.int (nI (rk K (nmb K t) o))), some (.int (nI o))] [] h P := by
  have h8 := V.1
  intro m
  induction m with
  | zero =>
    intro o ho
    have e : o = nt := by omega
    subst e
    refine Rp.iload dX1_line_15 rfl ?_
    refine Rp.aload_n dX1_line_17 rfl rfl ?_
    refine Rp.getI dX1_line_18 fk_X1_27 rfl (A.1 0 _ rfl) ?_
    first | rw [m4] | skip
    first | ((with_reducible show Rp _ _ _ _ (.int (nI _) :: .int (nI _) :: _) _ _); refine Rp.icmp_geN (tgt := 49) dX1_line_21 (by decide) (by omega) (fun c21 => ?_) (fun c21 => ?_)) | refine Rp.icmp_ge (tgt := 49) dX1_line_21 (by decide) (fun c21 => ?_) (fun c21 => ?_)
    · skip
      exact kk
    · skip
      first | (exfalso; omega) | exact absurd c21 (by decide) | exact absurd (by decide) c21
  | succ m ih =>
    intro o ho
    have k1 := ih (o + 1) (by omega)
    have eo := (hn o (by omega)).trans (V.n (show o < nt by omega)).1
    have et := (hn t (by omega)).trans (V.n ht).1
    have b1 := (V.n (show o < nt by omega)).2.2
    have b2 := (V.n ht).2.2
    have r1 := rk_le K (nmb K t) o
    rw [rk] at k1
    by_cases q : nmb K o < nmb K t
    · rw [if_pos q] at k1
      refine Rp.iload dX1_line_15 rfl ?_
      refine Rp.aload_n dX1_line_17 rfl rfl ?_
      refine Rp.getI dX1_line_18 fk_X1_27 rfl (A.1 0 _ rfl) ?_
      first | rw [m4] | rw [eo] | rw [et] | skip
      first | ((with_reducible show Rp _ _ _ _ (.int (nI _) :: .int (nI _) :: _) _ _); refine Rp.icmp_geN (tgt := 49) dX1_line_21 (by decide) (by omega) (fun c21 => ?_) (fun c21 => ?_)) | refine Rp.icmp_ge (tgt := 49) dX1_line_21 (by decide) (fun c21 => ?_) (fun c21 => ?_)
      · skip
        first | (exfalso; omega) | exact absurd c21 (by decide) | exact absurd (by decide) c21
      · skip
        refine Rp.aload_n dX1_line_24 rfl rfl ?_
        refine Rp.getR dX1_line_25 fk_X1_33 rfl (A.1 0 _ rfl) (A.2 0 6 5 rfl) ?_
        refine Rp.iload dX1_line_28 rfl ?_
        first | ((with_reducible show Rp _ _ _ _ (.int (nI _) :: _) _ _); refine Rp.ialoadN dX1_line_30 (A.1 5 _ rfl) (by omega) ?_) | refine Rp.iaload dX1_line_30 (A.1 5 _ rfl) (by first | assumption | exact vpb (by decide)) ?_
        first | rw [m4] | rw [eo] | rw [et] | skip
        refine Rp.aload_n dX1_line_31 rfl rfl ?_
        refine Rp.getR dX1_line_32 fk_X1_33 rfl (A.1 0 _ rfl) (A.2 0 6 5 rfl) ?_
        refine Rp.iload_n dX1_line_35 rfl ?_
        first | ((with_reducible show Rp _ _ _ _ (.int (nI _) :: _) _ _); refine Rp.ialoadN dX1_line_36 (A.1 5 _ rfl) (by omega) ?_) | refine Rp.iaload dX1_line_36 (A.1 5 _ rfl) (by first | assumption | exact vpb (by decide)) ?_
        first | rw [m4] | rw [eo] | rw [et] | skip
        first | ((with_reducible show Rp _ _ _ _ (.int (nI _) :: .int (nI _) :: _) _ _); refine Rp.icmp_geN (tgt := 43) dX1_line_37 (by decide) (by omega) (fun c37 => ?_) (fun c37 => ?_)) | refine Rp.icmp_ge (tgt := 43) dX1_line_37 (by decide) (fun c37 => ?_) (fun c37 => ?_)
        · skip
          first | (exfalso; omega) | exact absurd c37 (by decide) | exact absurd (by decide) c37
        · skip
          first | ((with_reducible show Rp _ _ _ (_ :: _ :: _ :: some (.int (nI _)) :: _) _ _ _); refine Rp.inc3N (c := 1) dX1_line_40 (by first | exact nl2_some rfl | exact nl2_none) (by decide) ?_) | refine Rp.inc3 _ dX1_line_40 rfl (by first | exact nl2_some rfl | exact nl2_none) (by decide) ?_
          first | ((with_reducible show Rp _ _ _ (_ :: _ :: _ :: _ :: some (.int (nI _)) :: _) _ _ _); refine Rp.inc4N (c := 1) dX1_line_43 (by first | exact nl2_some rfl | exact nl2_none) (by decide) ?_) | refine Rp.inc4 _ dX1_line_43 rfl (by first | exact nl2_some rfl | exact nl2_none) (by decide) ?_
          refine Rp.goto (tgt := 15) dX1_line_46 (by decide) ?_
          exact k1
    · rw [if_neg q] at k1
      refine Rp.iload dX1_line_15 rfl ?_
      refine Rp.aload_n dX1_line_17 rfl rfl ?_
      refine Rp.getI dX1_line_18 fk_X1_27 rfl (A.1 0 _ rfl) ?_
      first | rw [m4] | rw [eo] | rw [et] | skip
      first | ((with_reducible show Rp _ _ _ _ (.int (nI _) :: .int (nI _) :: _) _ _); refine Rp.icmp_geN (tgt := 49) dX1_line_21 (by decide) (by omega) (fun c21 => ?_) (fun c21 => ?_)) | refine Rp.icmp_ge (tgt := 49) dX1_line_21 (by decide) (fun c21 => ?_) (fun c21 => ?_)
      · skip
        first | (exfalso; omega) | exact absurd c21 (by decide) | exact absurd (by decide) c21
      · skip
        refine Rp.aload_n dX1_line_24 rfl rfl ?_
        refine Rp.getR dX1_line_25 fk_X1_33 rfl (A.1 0 _ rfl) (A.2 0 6 5 rfl) ?_
        refine Rp.iload dX1_line_28 rfl ?_
        first | ((with_reducible show Rp _ _ _ _ (.int (nI _) :: _) _ _); refine Rp.ialoadN dX1_line_30 (A.1 5 _ rfl) (by omega) ?_) | refine Rp.iaload dX1_line_30 (A.1 5 _ rfl) (by first | assumption | exact vpb (by decide)) ?_
        first | rw [m4] | rw [eo] | rw [et] | skip
        refine Rp.aload_n dX1_line_31 rfl rfl ?_
        refine Rp.getR dX1_line_32 fk_X1_33 rfl (A.1 0 _ rfl) (A.2 0 6 5 rfl) ?_
        refine Rp.iload_n dX1_line_35 rfl ?_
        first | ((with_reducible show Rp _ _ _ _ (.int (nI _) :: _) _ _); refine Rp.ialoadN dX1_line_36 (A.1 5 _ rfl) (by omega) ?_) | refine Rp.iaload dX1_line_36 (A.1 5 _ rfl) (by first | assumption | exact vpb (by decide)) ?_
        first | rw [m4] | rw [eo] | rw [et] | skip
        first | ((with_reducible show Rp _ _ _ _ (.int (nI _) :: .int (nI _) :: _) _ _); refine Rp.icmp_geN (tgt := 43) dX1_line_37 (by decide) (by omega) (fun c37 => ?_) (fun c37 => ?_)) | refine Rp.icmp_ge (tgt := 43) dX1_line_37 (by decide) (fun c37 => ?_) (fun c37 => ?_)
        · skip
          first | ((with_reducible show Rp _ _ _ (_ :: _ :: _ :: _ :: some (.int (nI _)) :: _) _ _ _); refine Rp.inc4N (c := 1) dX1_line_43 (by first | exact nl2_some rfl | exact nl2_none) (by decide) ?_) | refine Rp.inc4 _ dX1_line_43 rfl (by first | exact nl2_some rfl | exact nl2_none) (by decide) ?_
          refine Rp.goto (tgt := 15) dX1_line_46 (by decide) ?_
          exact k1
        · skip
          first | (exfalso; omega) | exact absurd c37 (by decide) | exact absurd (by decide) c37
theorem line2 (S0 : ShOK h) (R0 : RfOK h) (hb : b ≤ 17) (A0 : HOK h b) (V : VN K nt) (m40 : gI h b 5 = nI nt) (hn0 : ∀ t, t < 8 → gI h (b + 5) t = K (67 + t)) : ∀ (m t : Nat) (g : AH) (a3 a4 : Option Value), t + m = nt → Fr liX h g → (∀ u, u < t → gI g 47 (rk K (nmb K u) nt) = nI u) → Rp d M_X1_line 2 [some (.ref 46), some (.ref b), some (.int (nI t)), a3, a4] [] g (fun r h' => r = none ∧ Fr liX h h' ∧ LINE h' K nt) := by
  have h8 := V.1
  have lx : ∀ o j, o < 16 → liX (b + o) j = false := fun o j ho => by unfold liX; rw [show (b + o == 47) = false from beq_eq_false_iff_ne.mpr (by omega)]; rfl
  intro m
  induction m with
  | zero =>
    intro t g a3 a4 ht F hu
    have e : t = nt := by omega
    subst e
    have A := A0.fr F (fun j => lx 0 j (by decide)) (lx 14 0 (by decide))
    have m4 : gI g b 5 = nI t := (F.I (b + 0) 5 (lx 0 5 (by decide))).trans m40
    refine Rp.iload_n dX1_line_2 rfl ?_
    refine Rp.aload_n dX1_line_3 rfl rfl ?_
    refine Rp.getI dX1_line_4 fk_X1_27 rfl (A.1 0 _ rfl) ?_
    first | rw [m4] | skip
    first | ((with_reducible show Rp _ _ _ _ (.int (nI _) :: .int (nI _) :: _) _ _); refine Rp.icmp_geN (tgt := 62) dX1_line_7 (by decide) (by omega) (fun c7 => ?_) (fun c7 => ?_)) | refine Rp.icmp_ge (tgt := 62) dX1_line_7 (by decide) (fun c7 => ?_) (fun c7 => ?_)
    · skip
      refine Rp.vreturn dX1_line_62 rfl ?_
      exact ⟨rfl, F, hu⟩
    · skip
      first | (exfalso; omega) | exact absurd c7 (by decide) | exact absurd (by decide) c7
  | succ m ih =>
    intro t g a3 a4 ht F hu
    have S := F.S S0
    have R := F.R R0 (by decide)
    have A := A0.fr F (fun j => lx 0 j (by decide)) (lx 14 0 (by decide))
    have m4 : gI g b 5 = nI nt := (F.I (b + 0) 5 (lx 0 5 (by decide))).trans m40
    have hn : ∀ t, t < 8 → gI g (b + 5) t = K (67 + t) := fun t ht => (F.I (b + 5) t (lx 5 t (by decide))).trans (hn0 t ht)
    have htn : t < nt := by omega
    have r1 : rk K (nmb K t) nt < nt := by
      have := rk_lt K (x := nmb K t) (y := nmb K t + 1) (t := t) (Nat.le_refl _) (Nat.lt_succ_self _) nt htn
      have := rk_le K (nmb K t + 1) nt
      omega
    have k1 := ih (t + 1) (sI g 47 (rk K (nmb K t) nt) (nI t)) (some (.int (nI (rk K (nmb K t) nt)))) (some (.int (nI nt))) (by omega) (F.sI (by unfold liX; rw [decide_eq_true (by omega)]; rfl)) (fun u hu1 => by
      by_cases z : u = t
      · rw [z, gI_hit]
      · have un : u < nt := by omega
        have ne : nmb K u ≠ nmb K t := fun y => z (V.2.2 u t un htn (by rw [(V.n un).1, (V.n htn).1, y]))
        rw [gI_off _ _ _ (by
          rcases Nat.lt_or_gt_of_ne ne with q | q
          · have := rk_lt K (x := nmb K u) (y := nmb K t) (t := u) (Nat.le_refl _) q nt un; omega
          · have := rk_lt K (x := nmb K t) (y := nmb K u) (t := t) (Nat.le_refl _) q nt htn; omega)]
        exact hu u (by omega))
    have fin : Rp d M_X1_line 49 [some (.ref 46), some (.ref b), some (.int (nI t)), some (.int (nI (rk K (nmb K t) nt))), some (.int (nI nt))] [] g (fun r h' => r = none ∧ Fr liX h h' ∧ LINE h' K nt) := by
      refine Rp.aload_n dX1_line_49 rfl rfl ?_
      refine Rp.getR dX1_line_50 fk_X1_9 rfl (S _ _ rfl) (R _ _ _ rfl) ?_
      refine Rp.iload_n dX1_line_53 rfl ?_
      refine Rp.iload_n dX1_line_54 rfl ?_
      first | ((with_reducible show Rp _ _ _ _ (_ :: .int (nI _) :: _) _ _); refine Rp.iastoreN dX1_line_55 (S _ _ rfl) (by omega) ?_) | refine Rp.iastore dX1_line_55 (S _ _ rfl) (by first | assumption | exact vpb (by decide)) ?_
      first | ((with_reducible show Rp _ _ _ (_ :: _ :: some (.int (nI _)) :: _) _ _ _); refine Rp.inc2N (c := 1) dX1_line_56 (by first | exact nl2_some rfl | exact nl2_none) (by decide) ?_) | refine Rp.inc2 _ dX1_line_56 rfl (by first | exact nl2_some rfl | exact nl2_none) (by decide) ?_
      refine Rp.goto (tgt := 2) dX1_line_59 (by decide) ?_
      exact k1
    have k2 := line15 d A V m4 hn htn (.ref 46) fin nt 0 (by omega)
    refine Rp.iload_n dX1_line_2 rfl ?_
    refine Rp.aload_n dX1_line_3 rfl rfl ?_
    refine Rp.getI dX1_line_4 fk_X1_27 rfl (A.1 0 _ rfl) ?_
    first | rw [m4] | skip
    first | ((with_reducible show Rp _ _ _ _ (.int (nI _) :: .int (nI _) :: _) _ _); refine Rp.icmp_geN (tgt := 62) dX1_line_7 (by decide) (by omega) (fun c7 => ?_) (fun c7 => ?_)) | refine Rp.icmp_ge (tgt := 62) dX1_line_7 (by decide) (fun c7 => ?_) (fun c7 => ?_)
    · skip
      first | (exfalso; omega) | exact absurd c7 (by decide) | exact absurd (by decide) c7
    · skip
      refine Rp.iconst (nI 0) dX1_line_10 (by decide) ?_
      refine Rp.ist3 dX1_line_11 (by first | exact nl2_some rfl | exact nl2_none) (by decide) ?_
      refine Rp.iconst (nI 0) dX1_line_12 (by decide) ?_
      refine Rp.ist4 dX1_line_13 (by first | exact nl2_some rfl | exact nl2_none) (by decide) ?_
      exact k2
theorem t_line (S : ShOK h) (R : RfOK h) (hb : b ≤ 17) (A : HOK h b) (V : VN K nt) (m4 : gI h b 5 = nI nt) (hn : ∀ t, t < 8 → gI h (b + 5) t = K (67 + t)) : Rp d M_X1_line 0 [some (.ref 46), some (.ref b), none, none, none] [] h (fun r h' => r = none ∧ Fr liX h h' ∧ LINE h' K nt) := by
  have k1 := line2 d S R hb A V m4 hn nt 0 h none none (by omega) Fr.rfl' (fun u hu => absurd hu (Nat.not_lt_zero _))
  refine Rp.iconst (nI 0) dX1_line_0 (by decide) ?_
  refine Rp.ist2 dX1_line_1 (by first | exact nl2_some rfl | exact nl2_none) (by decide) ?_
  exact k1
/-- desks of a hall -/
def HD (h : AH) (b : Nat) (K : Nat → Int32) (nd : Nat) : Prop := HOK h b ∧ nd ≤ 3 ∧ gI h b 9 = nI nd ∧ ∀ e, e < 3 → gI h (b + 8) e = K (83 + e)
theorem early6 (S : ShOK h) (R : RfOK h) {nd : Nat} (D : HD h b K nd) {st : Nat → Bool} {op kd : Int32} (hst : ∀ e, e < nd → st e = bitB op (nI e)) {f : Nat → Nat} (hf : ∀ e, e < 3 → gI h 48 e = nI (f e) ∧ f e < 2147483648) : ∀ (m e : Nat) (a6 : Option Value), e + m = nd → Rp d M_X1_earliest 6 [some (.ref 46), some (.ref b), some (.int kd), some (.int op), some (.int (oI (dskF K st f kd e))), some (.int (nI e)), a6] [] h (fun r h' => h' = h ∧ r = some (.int (oI (dskF K st f kd nd)))) := by
  obtain ⟨A, hn, m9, ho⟩ := D
  intro m
  induction m with
  | zero =>
    intro e a6 he
    have e1 : e = nd := by omega
    subst e1
    refine Rp.iload dX1_earliest_6 rfl ?_
    refine Rp.aload_n dX1_earliest_8 rfl rfl ?_
    refine Rp.getI dX1_earliest_9 fk_X1_59 rfl (A.1 0 _ rfl) ?_
    first | rw [m9] | skip
    first | ((with_reducible show Rp _ _ _ _ (.int (nI _) :: .int (nI _) :: _) _ _); refine Rp.icmp_geN (tgt := 85) dX1_earliest_12 (by decide) (by omega) (fun c12 => ?_) (fun c12 => ?_)) | refine Rp.icmp_ge (tgt := 85) dX1_earliest_12 (by decide) (fun c12 => ?_) (fun c12 => ?_)
    · skip
      refine Rp.iload dX1_earliest_85 rfl ?_
      refine Rp.ireturn dX1_earliest_87 rfl ?_
      exact ⟨rfl, rfl⟩
    · skip
      first | (exfalso; omega) | exact absurd c12 (by decide) | exact absurd (by decide) c12
  | succ m ih =>
    intro e a6 he
    have eo := ho e (by omega)
    have fe := (hf e (by omega)).1
    have fb := (hf e (by omega)).2
    have es := hst e (by omega)
    by_cases q : (st e && bitB (K (83 + e)) kd) = true
    · have k1 := ih (e + 1) (some (.int (nI 1))) (by omega)
      rw [dskF, if_pos q] at k1
      have q1 : op >>> (nI e &&& 31) &&& nI 1 = nI 1 := by
        rw [Bool.and_eq_true, es] at q; exact of_decide_eq_true q.1
      have q2 : K (83 + e) >>> (kd &&& 31) &&& nI 1 = nI 1 := by
        rw [Bool.and_eq_true] at q; exact of_decide_eq_true q.2
      match hx : dskF K st f kd e with
      | none =>
        rw [hx] at k1
        dsimp only [oI] at k1 ⊢
        refine Rp.iload dX1_earliest_6 rfl ?_
        refine Rp.aload_n dX1_earliest_8 rfl rfl ?_
        refine Rp.getI dX1_earliest_9 fk_X1_59 rfl (A.1 0 _ rfl) ?_
        first | rw [m9] | rw [eo] | skip
        first | ((with_reducible show Rp _ _ _ _ (.int (nI _) :: .int (nI _) :: _) _ _); refine Rp.icmp_geN (tgt := 85) dX1_earliest_12 (by decide) (by omega) (fun c12 => ?_) (fun c12 => ?_)) | refine Rp.icmp_ge (tgt := 85) dX1_earliest_12 (by decide) (fun c12 => ?_) (fun c12 => ?_)
        · skip
          first | (exfalso; omega) | exact absurd c12 (by decide) | exact absurd (by decide) c12
        · skip
          refine Rp.iload_n dX1_earliest_15 rfl ?_
          refine Rp.iload dX1_earliest_16 rfl ?_
          refine Rp.ishr dX1_earliest_18 ?_
          refine Rp.iconst (nI 1) dX1_earliest_19 (by decide) ?_
          refine Rp.iand dX1_earliest_20 ?_
          refine Rp.iconst (nI 1) dX1_earliest_21 (by decide) ?_
          first | ((with_reducible show Rp _ _ _ _ (.int (nI _) :: .int (nI _) :: _) _ _); refine Rp.icmp_neN (tgt := 44) dX1_earliest_22 (by decide) (by omega) (fun c22 => ?_) (fun c22 => ?_)) | refine Rp.icmp_ne (tgt := 44) dX1_earliest_22 (by decide) (fun c22 => ?_) (fun c22 => ?_)
          · skip
            exact absurd q1 c22
          · skip
            refine Rp.aload_n dX1_earliest_25 rfl rfl ?_
            refine Rp.getR dX1_earliest_26 fk_X1_62 rfl (A.1 0 _ rfl) (A.2 0 10 8 rfl) ?_
            refine Rp.iload dX1_earliest_29 rfl ?_
            first | ((with_reducible show Rp _ _ _ _ (.int (nI _) :: _) _ _); refine Rp.ialoadN dX1_earliest_31 (A.1 8 _ rfl) (by omega) ?_) | refine Rp.iaload dX1_earliest_31 (A.1 8 _ rfl) (by first | assumption | exact vpb (by decide)) ?_
            first | rw [m9] | rw [eo] | skip
            refine Rp.iload_n dX1_earliest_32 rfl ?_
            refine Rp.ishr dX1_earliest_33 ?_
            refine Rp.iconst (nI 1) dX1_earliest_34 (by decide) ?_
            refine Rp.iand dX1_earliest_35 ?_
            refine Rp.iconst (nI 1) dX1_earliest_36 (by decide) ?_
            first | ((with_reducible show Rp _ _ _ _ (.int (nI _) :: .int (nI _) :: _) _ _); refine Rp.icmp_neN (tgt := 44) dX1_earliest_37 (by decide) (by omega) (fun c37 => ?_) (fun c37 => ?_)) | refine Rp.icmp_ne (tgt := 44) dX1_earliest_37 (by decide) (fun c37 => ?_) (fun c37 => ?_)
            · skip
              exact absurd q2 c37
            · skip
              refine Rp.iconst (nI 1) dX1_earliest_40 (by decide) ?_
              refine Rp.goto (tgt := 45) dX1_earliest_41 (by decide) ?_
              refine Rp.ist6 dX1_earliest_45 (by first | exact nl2_some rfl | exact nl2_none) (by decide) ?_
              refine Rp.iload dX1_earliest_47 rfl ?_
              first | ((with_reducible show Rp _ _ _ _ (.int (b2i _) :: _) _ _); refine Rp.if_eqB (tgt := 79) dX1_earliest_49 (by decide) (fun c49 => ?_) (fun c49 => ?_)) | ((with_reducible show Rp _ _ _ _ (.int (nI _) :: _) _ _); refine Rp.if_eqN (tgt := 79) dX1_earliest_49 (by decide) (by omega) (fun c49 => ?_) (fun c49 => ?_)) | refine Rp.if_eq (tgt := 79) dX1_earliest_49 (by decide) (fun c49 => ?_) (fun c49 => ?_)
              · skip
                first | (exfalso; omega) | exact absurd c49 (by decide) | exact absurd (by decide) c49
              · skip
                refine Rp.iload dX1_earliest_52 rfl ?_
                refine Rp.iconst (-1) dX1_earliest_54 (by decide) ?_
                first | ((with_reducible show Rp _ _ _ _ (.int (nI _) :: .int (nI _) :: _) _ _); refine Rp.icmp_eqN (tgt := 75) dX1_earliest_55 (by decide) (by omega) (fun c55 => ?_) (fun c55 => ?_)) | refine Rp.icmp_eq (tgt := 75) dX1_earliest_55 (by decide) (fun c55 => ?_) (fun c55 => ?_)
                · skip
                  refine Rp.iload dX1_earliest_75 rfl ?_
                  refine Rp.ist4 dX1_earliest_77 (by first | exact nl2_some rfl | exact nl2_none) (by decide) ?_
                  first | ((with_reducible show Rp _ _ _ (_ :: _ :: _ :: _ :: _ :: some (.int (nI _)) :: _) _ _ _); refine Rp.inc5N (c := 1) dX1_earliest_79 (by first | exact nl2_some rfl | exact nl2_none) (by decide) ?_) | refine Rp.inc5 _ dX1_earliest_79 rfl (by first | exact nl2_some rfl | exact nl2_none) (by decide) ?_
                  refine Rp.goto (tgt := 6) dX1_earliest_82 (by decide) ?_
                  exact k1
                · skip
                  exact absurd rfl c55
      | some u =>
        have hu := dskF_lt e u hx
        have fu := (hf u (by omega)).1
        have fub := (hf u (by omega)).2
        have om : ¬ nI u = -1 := nI_m1 (by omega)
        rw [hx] at k1
        dsimp only at k1
        by_cases z : f e < f u
        · rw [if_pos z] at k1
          dsimp only [oI] at k1 ⊢
          refine Rp.iload dX1_earliest_6 rfl ?_
          refine Rp.aload_n dX1_earliest_8 rfl rfl ?_
          refine Rp.getI dX1_earliest_9 fk_X1_59 rfl (A.1 0 _ rfl) ?_
          first | rw [m9] | rw [eo] | rw [fe] | rw [fu] | skip
          first | ((with_reducible show Rp _ _ _ _ (.int (nI _) :: .int (nI _) :: _) _ _); refine Rp.icmp_geN (tgt := 85) dX1_earliest_12 (by decide) (by omega) (fun c12 => ?_) (fun c12 => ?_)) | refine Rp.icmp_ge (tgt := 85) dX1_earliest_12 (by decide) (fun c12 => ?_) (fun c12 => ?_)
          · skip
            first | (exfalso; omega) | exact absurd c12 (by decide) | exact absurd (by decide) c12
          · skip
            refine Rp.iload_n dX1_earliest_15 rfl ?_
            refine Rp.iload dX1_earliest_16 rfl ?_
            refine Rp.ishr dX1_earliest_18 ?_
            refine Rp.iconst (nI 1) dX1_earliest_19 (by decide) ?_
            refine Rp.iand dX1_earliest_20 ?_
            refine Rp.iconst (nI 1) dX1_earliest_21 (by decide) ?_
            first | ((with_reducible show Rp _ _ _ _ (.int (nI _) :: .int (nI _) :: _) _ _); refine Rp.icmp_neN (tgt := 44) dX1_earliest_22 (by decide) (by omega) (fun c22 => ?_) (fun c22 => ?_)) | refine Rp.icmp_ne (tgt := 44) dX1_earliest_22 (by decide) (fun c22 => ?_) (fun c22 => ?_)
            · skip
              exact absurd q1 c22
            · skip
              refine Rp.aload_n dX1_earliest_25 rfl rfl ?_
              refine Rp.getR dX1_earliest_26 fk_X1_62 rfl (A.1 0 _ rfl) (A.2 0 10 8 rfl) ?_
              refine Rp.iload dX1_earliest_29 rfl ?_
              first | ((with_reducible show Rp _ _ _ _ (.int (nI _) :: _) _ _); refine Rp.ialoadN dX1_earliest_31 (A.1 8 _ rfl) (by omega) ?_) | refine Rp.iaload dX1_earliest_31 (A.1 8 _ rfl) (by first | assumption | exact vpb (by decide)) ?_
              first | rw [m9] | rw [eo] | rw [fe] | rw [fu] | skip
              refine Rp.iload_n dX1_earliest_32 rfl ?_
              refine Rp.ishr dX1_earliest_33 ?_
              refine Rp.iconst (nI 1) dX1_earliest_34 (by decide) ?_
              refine Rp.iand dX1_earliest_35 ?_
              refine Rp.iconst (nI 1) dX1_earliest_36 (by decide) ?_
              first | ((with_reducible show Rp _ _ _ _ (.int (nI _) :: .int (nI _) :: _) _ _); refine Rp.icmp_neN (tgt := 44) dX1_earliest_37 (by decide) (by omega) (fun c37 => ?_) (fun c37 => ?_)) | refine Rp.icmp_ne (tgt := 44) dX1_earliest_37 (by decide) (fun c37 => ?_) (fun c37 => ?_)
              · skip
                exact absurd q2 c37
              · skip
                refine Rp.iconst (nI 1) dX1_earliest_40 (by decide) ?_
                refine Rp.goto (tgt := 45) dX1_earliest_41 (by decide) ?_
                refine Rp.ist6 dX1_earliest_45 (by first | exact nl2_some rfl | exact nl2_none) (by decide) ?_
                refine Rp.iload dX1_earliest_47 rfl ?_
                first | ((with_reducible show Rp _ _ _ _ (.int (b2i _) :: _) _ _); refine Rp.if_eqB (tgt := 79) dX1_earliest_49 (by decide) (fun c49 => ?_) (fun c49 => ?_)) | ((with_reducible show Rp _ _ _ _ (.int (nI _) :: _) _ _); refine Rp.if_eqN (tgt := 79) dX1_earliest_49 (by decide) (by omega) (fun c49 => ?_) (fun c49 => ?_)) | refine Rp.if_eq (tgt := 79) dX1_earliest_49 (by decide) (fun c49 => ?_) (fun c49 => ?_)
                · skip
                  first | (exfalso; omega) | exact absurd c49 (by decide) | exact absurd (by decide) c49
                · skip
                  refine Rp.iload dX1_earliest_52 rfl ?_
                  refine Rp.iconst (-1) dX1_earliest_54 (by decide) ?_
                  first | ((with_reducible show Rp _ _ _ _ (.int (nI _) :: .int (nI _) :: _) _ _); refine Rp.icmp_eqN (tgt := 75) dX1_earliest_55 (by decide) (by omega) (fun c55 => ?_) (fun c55 => ?_)) | refine Rp.icmp_eq (tgt := 75) dX1_earliest_55 (by decide) (fun c55 => ?_) (fun c55 => ?_)
                  · skip
                    exact absurd c55 om
                  · skip
                    refine Rp.aload_n dX1_earliest_58 rfl rfl ?_
                    refine Rp.getR dX1_earliest_59 fk_X1_15 rfl (S _ _ rfl) (R _ _ _ rfl) ?_
                    refine Rp.iload dX1_earliest_62 rfl ?_
                    first | ((with_reducible show Rp _ _ _ _ (.int (nI _) :: _) _ _); refine Rp.ialoadN dX1_earliest_64 (S _ _ rfl) (by omega) ?_) | refine Rp.iaload dX1_earliest_64 (S _ _ rfl) (by first | assumption | exact vpb (by decide)) ?_
                    first | rw [m9] | rw [eo] | rw [fe] | rw [fu] | skip
                    refine Rp.aload_n dX1_earliest_65 rfl rfl ?_
                    refine Rp.getR dX1_earliest_66 fk_X1_15 rfl (S _ _ rfl) (R _ _ _ rfl) ?_
                    refine Rp.iload dX1_earliest_69 rfl ?_
                    first | ((with_reducible show Rp _ _ _ _ (.int (nI _) :: _) _ _); refine Rp.ialoadN dX1_earliest_71 (S _ _ rfl) (by omega) ?_) | refine Rp.iaload dX1_earliest_71 (S _ _ rfl) (by first | assumption | exact vpb (by decide)) ?_
                    first | rw [m9] | rw [eo] | rw [fe] | rw [fu] | skip
                    first | ((with_reducible show Rp _ _ _ _ (.int (nI _) :: .int (nI _) :: _) _ _); refine Rp.icmp_geN (tgt := 79) dX1_earliest_72 (by decide) (by omega) (fun c72 => ?_) (fun c72 => ?_)) | refine Rp.icmp_ge (tgt := 79) dX1_earliest_72 (by decide) (fun c72 => ?_) (fun c72 => ?_)
                    · skip
                      first | (exfalso; omega) | exact absurd c72 (by decide) | exact absurd (by decide) c72
                    · skip
                      refine Rp.iload dX1_earliest_75 rfl ?_
                      refine Rp.ist4 dX1_earliest_77 (by first | exact nl2_some rfl | exact nl2_none) (by decide) ?_
                      first | ((with_reducible show Rp _ _ _ (_ :: _ :: _ :: _ :: _ :: some (.int (nI _)) :: _) _ _ _); refine Rp.inc5N (c := 1) dX1_earliest_79 (by first | exact nl2_some rfl | exact nl2_none) (by decide) ?_) | refine Rp.inc5 _ dX1_earliest_79 rfl (by first | exact nl2_some rfl | exact nl2_none) (by decide) ?_
                      refine Rp.goto (tgt := 6) dX1_earliest_82 (by decide) ?_
                      exact k1
        · rw [if_neg z] at k1
          dsimp only [oI] at k1 ⊢
          refine Rp.iload dX1_earliest_6 rfl ?_
          refine Rp.aload_n dX1_earliest_8 rfl rfl ?_
          refine Rp.getI dX1_earliest_9 fk_X1_59 rfl (A.1 0 _ rfl) ?_
          first | rw [m9] | rw [eo] | rw [fe] | rw [fu] | skip
          first | ((with_reducible show Rp _ _ _ _ (.int (nI _) :: .int (nI _) :: _) _ _); refine Rp.icmp_geN (tgt := 85) dX1_earliest_12 (by decide) (by omega) (fun c12 => ?_) (fun c12 => ?_)) | refine Rp.icmp_ge (tgt := 85) dX1_earliest_12 (by decide) (fun c12 => ?_) (fun c12 => ?_)
          · skip
            first | (exfalso; omega) | exact absurd c12 (by decide) | exact absurd (by decide) c12
          · skip
            refine Rp.iload_n dX1_earliest_15 rfl ?_
            refine Rp.iload dX1_earliest_16 rfl ?_
            refine Rp.ishr dX1_earliest_18 ?_
            refine Rp.iconst (nI 1) dX1_earliest_19 (by decide) ?_
            refine Rp.iand dX1_earliest_20 ?_
            refine Rp.iconst (nI 1) dX1_earliest_21 (by decide) ?_
            first | ((with_reducible show Rp _ _ _ _ (.int (nI _) :: .int (nI _) :: _) _ _); refine Rp.icmp_neN (tgt := 44) dX1_earliest_22 (by decide) (by omega) (fun c22 => ?_) (fun c22 => ?_)) | refine Rp.icmp_ne (tgt := 44) dX1_earliest_22 (by decide) (fun c22 => ?_) (fun c22 => ?_)
            · skip
              exact absurd q1 c22
            · skip
              refine Rp.aload_n dX1_earliest_25 rfl rfl ?_
              refine Rp.getR dX1_earliest_26 fk_X1_62 rfl (A.1 0 _ rfl) (A.2 0 10 8 rfl) ?_
              refine Rp.iload dX1_earliest_29 rfl ?_
              first | ((with_reducible show Rp _ _ _ _ (.int (nI _) :: _) _ _); refine Rp.ialoadN dX1_earliest_31 (A.1 8 _ rfl) (by omega) ?_) | refine Rp.iaload dX1_earliest_31 (A.1 8 _ rfl) (by first | assumption | exact vpb (by decide)) ?_
              first | rw [m9] | rw [eo] | rw [fe] | rw [fu] | skip
              refine Rp.iload_n dX1_earliest_32 rfl ?_
              refine Rp.ishr dX1_earliest_33 ?_
              refine Rp.iconst (nI 1) dX1_earliest_34 (by decide) ?_
              refine Rp.iand dX1_earliest_35 ?_
              refine Rp.iconst (nI 1) dX1_earliest_36 (by decide) ?_
              first | ((with_reducible show Rp _ _ _ _ (.int (nI _) :: .int (nI _) :: _) _ _); refine Rp.icmp_neN (tgt := 44) dX1_earliest_37 (by decide) (by omega) (fun c37 => ?_) (fun c37 => ?_)) | refine Rp.icmp_ne (tgt := 44) dX1_earliest_37 (by decide) (fun c37 => ?_) (fun c37 => ?_)
              · skip
                exact absurd q2 c37
              · skip
                refine Rp.iconst (nI 1) dX1_earliest_40 (by decide) ?_
                refine Rp.goto (tgt := 45) dX1_earliest_41 (by decide) ?_
                refine Rp.ist6 dX1_earliest_45 (by first | exact nl2_some rfl | exact nl2_none) (by decide) ?_
                refine Rp.iload dX1_earliest_47 rfl ?_
                first | ((with_reducible show Rp _ _ _ _ (.int (b2i _) :: _) _ _); refine Rp.if_eqB (tgt := 79) dX1_earliest_49 (by decide) (fun c49 => ?_) (fun c49 => ?_)) | ((with_reducible show Rp _ _ _ _ (.int (nI _) :: _) _ _); refine Rp.if_eqN (tgt := 79) dX1_earliest_49 (by decide) (by omega) (fun c49 => ?_) (fun c49 => ?_)) | refine Rp.if_eq (tgt := 79) dX1_earliest_49 (by decide) (fun c49 => ?_) (fun c49 => ?_)
                · skip
                  first | (exfalso; omega) | exact absurd c49 (by decide) | exact absurd (by decide) c49
                · skip
                  refine Rp.iload dX1_earliest_52 rfl ?_
                  refine Rp.iconst (-1) dX1_earliest_54 (by decide) ?_
                  first | ((with_reducible show Rp _ _ _ _ (.int (nI _) :: .int (nI _) :: _) _ _); refine Rp.icmp_eqN (tgt := 75) dX1_earliest_55 (by decide) (by omega) (fun c55 => ?_) (fun c55 => ?_)) | refine Rp.icmp_eq (tgt := 75) dX1_earliest_55 (by decide) (fun c55 => ?_) (fun c55 => ?_)
                  · skip
                    exact absurd c55 om
                  · skip
                    refine Rp.aload_n dX1_earliest_58 rfl rfl ?_
                    refine Rp.getR dX1_earliest_59 fk_X1_15 rfl (S _ _ rfl) (R _ _ _ rfl) ?_
                    refine Rp.iload dX1_earliest_62 rfl ?_
                    first | ((with_reducible show Rp _ _ _ _ (.int (nI _) :: _) _ _); refine Rp.ialoadN dX1_earliest_64 (S _ _ rfl) (by omega) ?_) | refine Rp.iaload dX1_earliest_64 (S _ _ rfl) (by first | assumption | exact vpb (by decide)) ?_
                    first | rw [m9] | rw [eo] | rw [fe] | rw [fu] | skip
                    refine Rp.aload_n dX1_earliest_65 rfl rfl ?_
                    refine Rp.getR dX1_earliest_66 fk_X1_15 rfl (S _ _ rfl) (R _ _ _ rfl) ?_
                    refine Rp.iload dX1_earliest_69 rfl ?_
                    first | ((with_reducible show Rp _ _ _ _ (.int (nI _) :: _) _ _); refine Rp.ialoadN dX1_earliest_71 (S _ _ rfl) (by omega) ?_) | refine Rp.iaload dX1_earliest_71 (S _ _ rfl) (by first | assumption | exact vpb (by decide)) ?_
                    first | rw [m9] | rw [eo] | rw [fe] | rw [fu] | skip
                    first | ((with_reducible show Rp _ _ _ _ (.int (nI _) :: .int (nI _) :: _) _ _); refine Rp.icmp_geN (tgt := 79) dX1_earliest_72 (by decide) (by omega) (fun c72 => ?_) (fun c72 => ?_)) | refine Rp.icmp_ge (tgt := 79) dX1_earliest_72 (by decide) (fun c72 => ?_) (fun c72 => ?_)
                    · skip
                      first | ((with_reducible show Rp _ _ _ (_ :: _ :: _ :: _ :: _ :: some (.int (nI _)) :: _) _ _ _); refine Rp.inc5N (c := 1) dX1_earliest_79 (by first | exact nl2_some rfl | exact nl2_none) (by decide) ?_) | refine Rp.inc5 _ dX1_earliest_79 rfl (by first | exact nl2_some rfl | exact nl2_none) (by decide) ?_
                      refine Rp.goto (tgt := 6) dX1_earliest_82 (by decide) ?_
                      exact k1
                    · skip
                      first | (exfalso; omega) | exact absurd c72 (by decide) | exact absurd (by decide) c72
    · have k1 := ih (e + 1) (some (.int (nI 0))) (by omega)
      rw [dskF, if_neg q] at k1
      have nq : ¬ (op >>> (nI e &&& 31) &&& nI 1 = nI 1 ∧ K (83 + e) >>> (kd &&& 31) &&& nI 1 = nI 1) := fun z => q (by rw [es]; unfold bitB; rw [decide_eq_true z.1, decide_eq_true z.2]; rfl)
      refine Rp.iload dX1_earliest_6 rfl ?_
      refine Rp.aload_n dX1_earliest_8 rfl rfl ?_
      refine Rp.getI dX1_earliest_9 fk_X1_59 rfl (A.1 0 _ rfl) ?_
      first | rw [m9] | rw [eo] | skip
      first | ((with_reducible show Rp _ _ _ _ (.int (nI _) :: .int (nI _) :: _) _ _); refine Rp.icmp_geN (tgt := 85) dX1_earliest_12 (by decide) (by omega) (fun c12 => ?_) (fun c12 => ?_)) | refine Rp.icmp_ge (tgt := 85) dX1_earliest_12 (by decide) (fun c12 => ?_) (fun c12 => ?_)
      · skip
        first | (exfalso; omega) | exact absurd c12 (by decide) | exact absurd (by decide) c12
      · skip
        refine Rp.iload_n dX1_earliest_15 rfl ?_
        refine Rp.iload dX1_earliest_16 rfl ?_
        refine Rp.ishr dX1_earliest_18 ?_
        refine Rp.iconst (nI 1) dX1_earliest_19 (by decide) ?_
        refine Rp.iand dX1_earliest_20 ?_
        refine Rp.iconst (nI 1) dX1_earliest_21 (by decide) ?_
        first | ((with_reducible show Rp _ _ _ _ (.int (nI _) :: .int (nI _) :: _) _ _); refine Rp.icmp_neN (tgt := 44) dX1_earliest_22 (by decide) (by omega) (fun c22 => ?_) (fun c22 => ?_)) | refine Rp.icmp_ne (tgt := 44) dX1_earliest_22 (by decide) (fun c22 => ?_) (fun c22 => ?_)
        · skip
          refine Rp.iconst (nI 0) dX1_earliest_44 (by decide) ?_
          refine Rp.ist6 dX1_earliest_45 (by first | exact nl2_some rfl | exact nl2_none) (by decide) ?_
          refine Rp.iload dX1_earliest_47 rfl ?_
          first | ((with_reducible show Rp _ _ _ _ (.int (b2i _) :: _) _ _); refine Rp.if_eqB (tgt := 79) dX1_earliest_49 (by decide) (fun c49 => ?_) (fun c49 => ?_)) | ((with_reducible show Rp _ _ _ _ (.int (nI _) :: _) _ _); refine Rp.if_eqN (tgt := 79) dX1_earliest_49 (by decide) (by omega) (fun c49 => ?_) (fun c49 => ?_)) | refine Rp.if_eq (tgt := 79) dX1_earliest_49 (by decide) (fun c49 => ?_) (fun c49 => ?_)
          · skip
            first | ((with_reducible show Rp _ _ _ (_ :: _ :: _ :: _ :: _ :: some (.int (nI _)) :: _) _ _ _); refine Rp.inc5N (c := 1) dX1_earliest_79 (by first | exact nl2_some rfl | exact nl2_none) (by decide) ?_) | refine Rp.inc5 _ dX1_earliest_79 rfl (by first | exact nl2_some rfl | exact nl2_none) (by decide) ?_
            refine Rp.goto (tgt := 6) dX1_earliest_82 (by decide) ?_
            exact k1
          · skip
            first | (exfalso; omega) | exact absurd c49 (by decide) | exact absurd (by decide) c49
        · skip
          refine Rp.aload_n dX1_earliest_25 rfl rfl ?_
          refine Rp.getR dX1_earliest_26 fk_X1_62 rfl (A.1 0 _ rfl) (A.2 0 10 8 rfl) ?_
          refine Rp.iload dX1_earliest_29 rfl ?_
          first | ((with_reducible show Rp _ _ _ _ (.int (nI _) :: _) _ _); refine Rp.ialoadN dX1_earliest_31 (A.1 8 _ rfl) (by omega) ?_) | refine Rp.iaload dX1_earliest_31 (A.1 8 _ rfl) (by first | assumption | exact vpb (by decide)) ?_
          first | rw [m9] | rw [eo] | skip
          refine Rp.iload_n dX1_earliest_32 rfl ?_
          refine Rp.ishr dX1_earliest_33 ?_
          refine Rp.iconst (nI 1) dX1_earliest_34 (by decide) ?_
          refine Rp.iand dX1_earliest_35 ?_
          refine Rp.iconst (nI 1) dX1_earliest_36 (by decide) ?_
          first | ((with_reducible show Rp _ _ _ _ (.int (nI _) :: .int (nI _) :: _) _ _); refine Rp.icmp_neN (tgt := 44) dX1_earliest_37 (by decide) (by omega) (fun c37 => ?_) (fun c37 => ?_)) | refine Rp.icmp_ne (tgt := 44) dX1_earliest_37 (by decide) (fun c37 => ?_) (fun c37 => ?_)
          · skip
            refine Rp.iconst (nI 0) dX1_earliest_44 (by decide) ?_
            refine Rp.ist6 dX1_earliest_45 (by first | exact nl2_some rfl | exact nl2_none) (by decide) ?_
            refine Rp.iload dX1_earliest_47 rfl ?_
            first | ((with_reducible show Rp _ _ _ _ (.int (b2i _) :: _) _ _); refine Rp.if_eqB (tgt := 79) dX1_earliest_49 (by decide) (fun c49 => ?_) (fun c49 => ?_)) | ((with_reducible show Rp _ _ _ _ (.int (nI _) :: _) _ _); refine Rp.if_eqN (tgt := 79) dX1_earliest_49 (by decide) (by omega) (fun c49 => ?_) (fun c49 => ?_)) | refine Rp.if_eq (tgt := 79) dX1_earliest_49 (by decide) (fun c49 => ?_) (fun c49 => ?_)
            · skip
              first | ((with_reducible show Rp _ _ _ (_ :: _ :: _ :: _ :: _ :: some (.int (nI _)) :: _) _ _ _); refine Rp.inc5N (c := 1) dX1_earliest_79 (by first | exact nl2_some rfl | exact nl2_none) (by decide) ?_) | refine Rp.inc5 _ dX1_earliest_79 rfl (by first | exact nl2_some rfl | exact nl2_none) (by decide) ?_
              refine Rp.goto (tgt := 6) dX1_earliest_82 (by decide) ?_
              exact k1
            · skip
              first | (exfalso; omega) | exact absurd c49 (by decide) | exact absurd (by decide) c49
          · skip
            exact absurd (And.intro c22 c37) nq
end Ln
