theorem pX_47 {j : Nat} : pX 47 j = false := by unfold pX; rw [dX_lt (by decide)]; rfl
theorem pX_lt {k j : Nat} (h : k < 42) : pX k j = false := by unfold pX; rw [jX_lt h, dX_lt (by omega)]; rfl
theorem pX_gt {k j : Nat} (h : 51 < k) : pX k j = false := by
  unfold pX jX
  rw [dX_gt h, show (k == 42) = false from beq_eq_false_iff_ne.mpr (by omega), show (k == 43) = false from beq_eq_false_iff_ne.mpr (by omega), show (k == 44) = false from beq_eq_false_iff_ne.mpr (by omega)]; rfl
theorem HD.fr {X : Nat → Nat → Bool} {h g : AH} {b nd : Nat} {K : Nat → Int32} (D : HD h b K nd) (F : Fr X h g) (h0 : ∀ j, X (b + 0) j = false) (h14 : X (b + 14) 0 = false) (h8 : ∀ j, X (b + 8) j = false) : HD g b K nd := ⟨D.1.fr F h0 h14, D.2.1, (F.I (b + 0) 9 (h0 9)).trans D.2.2.1, fun e he => (F.I _ _ (h8 e)).trans (D.2.2.2 e he)⟩
section Py2
variable (d : Nat) {h : AH} {b : Nat} {K : Nat → Int32} {fl : Option (List CLE)} {np nt nd : Nat} {st : Nat → Bool} {hs : Nat → Int32}
/-- what a day of the class is played over -/
def DB (h : AH) (b : Nat) (K : Nat → Int32) (np nt nd : Nat) (hs : Nat → Int32) (kh : Nat) : Prop := ShOK h ∧ RfOK h ∧ b ≤ 17 ∧ KB K ∧ HD h b K nd ∧ VD K nd ∧ VN K nt ∧ np ≤ 6 ∧ gI h b 5 = nI nt ∧ (kh = 8 ∨ kh = 24 ∨ kh = 54) ∧ (∀ t, t < nt → gI h kh t = hOf hs (nI t) np)
theorem DB.fr {h g : AH} {kh : Nat} (B : DB h b K np nt nd hs kh) (F : Fr pX h g) : DB g b K np nt nd hs kh := by
  obtain ⟨b1, b2, b3, b4, b5, b6, b7, b8, b9, b10, b11⟩ := B
  refine ⟨F.S b1, F.R b2 (by decide), b3, b4, b5.fr F (fun j => pX_lt (by omega)) (pX_lt (by omega)) (fun j => pX_lt (by omega)), b6, b7, b8, (F.I _ _ (pX_lt (by omega))).trans b9, b10, fun t ht => (F.I _ _ ?_).trans (b11 t ht)⟩
  rcases b10 with rfl | rfl | rfl
  · exact pX_lt (by decide)
  · exact pX_lt (by decide)
  · exact pX_gt (by decide)
theorem play41 {kh : Nat} (B0 : DB h b K np nt nd hs kh) (L0 : LINE h K nt) {op : Int32} (hst : ∀ e, e < nd → st e = bitB op (nI e)) : ∀ (m i X : Nat) (g : AH) (a6 a7 a8 : Option Value), i + m = nt → rk K X nt = i → X ≤ 100 → Fr pX h g → JS g b K fl → DY g (dayF K fl nd np nt st hs X) → Rp (d + 3) M_X1_play 41 [some (.ref 46), some (.ref 40), some (.ref kh), some (.int op), some (.ref b), some (.int (nI i)), a6, a7, a8] [] g (fun r h' => r = none ∧ Fr pX h h' ∧ JS h' b K fl ∧ DY h' (dayF K fl nd np nt st hs 100)) := by
  have h8 := B0.2.2.2.2.2.2.1.1
  intro m
  induction m with
  | zero =>
    intro i X g a6 a7 a8 hi hr hX F J Y
    have e : i = nt := by omega
    subst e
    have B := B0.fr F
    have A := B.2.2.2.2.1.1
    have m4 := B.2.2.2.2.2.2.2.2.1
    have V := B.2.2.2.2.2.2.1
    have ed : dayF K fl nd np i st hs 100 = dayF K fl nd np i st hs X := by
      have := dayF_skips (K := K) (fl := fl) (nd := nd) (np := np) (nt := i) (st := st) (hs := hs) (x := X) (100 - X) (fun t ht y h1 h2 e => by
        have := rk_full K i hr t ht
        rw [(V.n ht).1, i32_eq, nI_toInt (by have := (V.n ht).2.2; omega), nI_toInt (by omega)] at e
        omega)
      rw [show X + (100 - X) = 100 by omega] at this
      exact this
    rw [ed]
    refine Rp.iload dX1_play_41 rfl ?_
    refine Rp.aload dX1_play_43 rfl rfl ?_
    refine Rp.getI dX1_play_45 fk_X1_27 rfl (A.1 0 _ rfl) ?_
    first | rw [m4] | skip
    first | ((with_reducible show Rp _ _ _ _ (.int (nI _) :: .int (nI _) :: _) _ _); refine Rp.icmp_geN (tgt := 161) dX1_play_48 (by decide) (by omega) (fun c48 => ?_) (fun c48 => ?_)) | refine Rp.icmp_ge (tgt := 161) dX1_play_48 (by decide) (fun c48 => ?_) (fun c48 => ?_)
    · skip
      refine Rp.vreturn dX1_play_161 rfl ?_
      exact ⟨rfl, F, J, Y⟩
    · skip
      first | (exfalso; omega) | exact absurd c48 (by decide) | exact absurd (by decide) c48
  | succ m ih =>
    intro i X g a6 a7 a8 hi hr hX F J Y
    have B := B0.fr F
    obtain ⟨S, R, hb, KBk, D, VDd, V, hnp, m4, hkh, hho⟩ := B
    have A := D.1
    obtain ⟨t, ht, hx1, hx2⟩ := rk_next K V 100 X (by omega) (by omega)
    have rt : rk K (nmb K t) nt = i := by rw [← hr]; exact (rk_same K hx1 nt hx2).symm
    have el : gI g 47 i = nI t := by rw [F.I 47 i pX_47, ← rt]; exact L0 t ht
    have eh := hho t ht
    have nb := (V.n ht).2
    have rt1 : rk K (nmb K t + 1) nt = i + 1 := by
      have h1 := rk_lt K (x := nmb K t) (y := nmb K t + 1) (t := t) (Nat.le_refl _) (Nat.lt_succ_self _) nt ht
      have h2 : rk K (nmb K t + 1) nt ≤ i + 1 := by
        have key : ∀ n, n ≤ nt → rk K (nmb K t + 1) n ≤ rk K (nmb K t) n + (if t < n then 1 else 0) := by
          intro n
          induction n with
          | zero => intro _; exact Nat.zero_le _
          | succ n ihn =>
            intro hn
            have q := ihn (by omega)
            rw [rk, rk]
            by_cases z : n = t
            · subst z
              rw [if_pos (Nat.lt_succ_self _), if_neg (Nat.lt_irrefl _), if_pos (Nat.lt_succ_self _)]
              rw [if_neg (Nat.lt_irrefl _)] at q
              omega
            · have ne : nmb K n ≠ nmb K t := fun y => z (V.2.2 n t (by omega) ht (by rw [(V.n (show n < nt by omega)).1, (V.n ht).1, y]))
              by_cases w : nmb K n < nmb K t
              · rw [if_pos (by omega), if_pos w]
                split at q <;> (split <;> omega)
              · rw [if_neg (by omega), if_neg w]
                split at q <;> (split <;> omega)
        have := key nt (Nat.le_refl _)
        rw [if_pos ht, rt] at this
        exact this
      omega
    have ed : dayF K fl nd np nt st hs (nmb K t) = dayF K fl nd np nt st hs X := by
      have := dayF_skips (K := K) (fl := fl) (nd := nd) (np := np) (nt := nt) (st := st) (hs := hs) (x := X) (nmb K t - X) (fun u hu y h1 h2 e => by
        rw [(V.n hu).1, i32_eq, nI_toInt (by have := (V.n hu).2.2; omega), nI_toInt (by omega)] at e
        exact absurd ⟨by omega, by omega⟩ (hx2 u hu))
      rw [show X + (nmb K t - X) = nmb K t by omega] at this
      exact this
    have hsk : g.1[kh]? = some (13, 8) := by
      rcases hkh with rfl | rfl | rfl
      · exact S _ _ rfl
      · exact S _ _ rfl
      · exact S _ _ rfl
    by_cases hq : hOf hs (nI t) np = -1
    · have e2 : dayF K fl nd np nt st hs (nmb K t + 1) = dayF K fl nd np nt st hs X := by
        rw [dayF_skip (fun u hu e => by
          have : u = t := V.2.2 u t hu ht (by rw [e, (V.n ht).1])
          rw [this]; exact hq), ed]
      rw [hq] at eh
      have k1 := ih (i + 1) (nmb K t + 1) g (some (.int (nI t))) (some (.int (-1))) a8 (by omega) rt1 (by omega) F J (by rw [e2]; exact Y)
      refine Rp.iload dX1_play_41 rfl ?_
      refine Rp.aload dX1_play_43 rfl rfl ?_
      refine Rp.getI dX1_play_45 fk_X1_27 rfl (A.1 0 _ rfl) ?_
      first | rw [m4] | rw [el] | rw [eh] | skip
      first | ((with_reducible show Rp _ _ _ _ (.int (nI _) :: .int (nI _) :: _) _ _); refine Rp.icmp_geN (tgt := 161) dX1_play_48 (by decide) (by omega) (fun c48 => ?_) (fun c48 => ?_)) | refine Rp.icmp_ge (tgt := 161) dX1_play_48 (by decide) (fun c48 => ?_) (fun c48 => ?_)
      · skip
        first | (exfalso; omega) | exact absurd c48 (by decide) | exact absurd (by decide) c48
      · skip
        refine Rp.aload_n dX1_play_51 rfl rfl ?_
        refine Rp.getR dX1_play_52 fk_X1_9 rfl (S _ _ rfl) (R _ _ _ rfl) ?_
        refine Rp.iload dX1_play_55 rfl ?_
        first | ((with_reducible show Rp _ _ _ _ (.int (nI _) :: _) _ _); refine Rp.ialoadN dX1_play_57 (S _ _ rfl) (by omega) ?_) | refine Rp.iaload dX1_play_57 (S _ _ rfl) (by first | assumption | exact vpb (by decide)) ?_
        first | rw [m4] | rw [el] | rw [eh] | skip
        refine Rp.ist6 dX1_play_58 (by first | exact nl2_some rfl | exact nl2_none) (by decide) ?_
        refine Rp.aload_n dX1_play_60 rfl rfl ?_
        refine Rp.iload dX1_play_61 rfl ?_
        first | ((with_reducible show Rp _ _ _ _ (.int (nI _) :: _) _ _); refine Rp.ialoadN dX1_play_63 hsk (by omega) ?_) | refine Rp.iaload dX1_play_63 hsk (by first | assumption | exact vpb (by decide)) ?_
        first | rw [m4] | rw [el] | rw [eh] | skip
        refine Rp.ist7 dX1_play_64 (by first | exact nl2_some rfl | exact nl2_none) (by decide) ?_
        refine Rp.iload dX1_play_66 rfl ?_
        refine Rp.iconst (-1) dX1_play_68 (by decide) ?_
        first | ((with_reducible show Rp _ _ _ _ (.int (nI _) :: .int (nI _) :: _) _ _); refine Rp.icmp_neN (tgt := 75) dX1_play_69 (by decide) (by omega) (fun c69 => ?_) (fun c69 => ?_)) | refine Rp.icmp_ne (tgt := 75) dX1_play_69 (by decide) (fun c69 => ?_) (fun c69 => ?_)
        · skip
          exact absurd rfl c69
        · skip
          refine Rp.goto (tgt := 155) dX1_play_72 (by decide) ?_
          first | ((with_reducible show Rp _ _ _ (_ :: _ :: _ :: _ :: _ :: some (.int (nI _)) :: _) _ _ _); refine Rp.inc5N (c := 1) dX1_play_155 (by first | exact nl2_some rfl | exact nl2_none) (by decide) ?_) | refine Rp.inc5 _ dX1_play_155 rfl (by first | exact nl2_some rfl | exact nl2_none) (by decide) ?_
          refine Rp.goto (tgt := 41) dX1_play_158 (by decide) ?_
          exact k1
    · obtain ⟨p, hp, ep, -⟩ := hOf_get np hq
      have e2 : dayF K fl nd np nt st hs (nmb K t + 1) = stp K fl nd st (dayF K fl nd np nt st hs X) p t := by
        rw [dayF_call V ht hq, ed, ep, ix_nI (by omega)]
      rw [ep] at eh
      have om : ¬ nI p = -1 := nI_m1 (by omega)
      have kk : ∀ (g' : AH) (a8' : Option Value), Fr pX g g' → JS g' b K fl → DY g' (stp K fl nd st (dayF K fl nd np nt st hs X) p t) → Rp (d + 3) M_X1_play 155 [some (.ref 46), some (.ref 40), some (.ref kh), some (.int op), some (.ref b), some (.int (nI i)), some (.int (nI t)), some (.int (nI p)), a8'] [] g' (fun r h' => r = none ∧ Fr pX h h' ∧ JS h' b K fl ∧ DY h' (dayF K fl nd np nt st hs 100)) := by
        intro g' a8' F' J' Y'
        have k1 := ih (i + 1) (nmb K t + 1) g' (some (.int (nI t))) (some (.int (nI p))) a8' (by omega) rt1 (by omega) (F.trans F') J' (by rw [e2]; exact Y')
        first | ((with_reducible show Rp _ _ _ (_ :: _ :: _ :: _ :: _ :: some (.int (nI _)) :: _) _ _ _); refine Rp.inc5N (c := 1) dX1_play_155 (by first | exact nl2_some rfl | exact nl2_none) (by decide) ?_) | refine Rp.inc5 _ dX1_play_155 rfl (by first | exact nl2_some rfl | exact nl2_none) (by decide) ?_
        refine Rp.goto (tgt := 41) dX1_play_158 (by decide) ?_
        exact k1
      have k2 := play75 d S R J KBk D VDd hst Y (fun e => by have := dayF_free (K := K) (fl := fl) (nd := nd) (np := np) (nt := nt) (st := st) (hs := hs) X e; omega) (p := p) (t := t) (i := i) (kh := kh) (by omega) (by omega) a8 hkh kk
      refine Rp.iload dX1_play_41 rfl ?_
      refine Rp.aload dX1_play_43 rfl rfl ?_
      refine Rp.getI dX1_play_45 fk_X1_27 rfl (A.1 0 _ rfl) ?_
      first | rw [m4] | rw [el] | rw [eh] | skip
      first | ((with_reducible show Rp _ _ _ _ (.int (nI _) :: .int (nI _) :: _) _ _); refine Rp.icmp_geN (tgt := 161) dX1_play_48 (by decide) (by omega) (fun c48 => ?_) (fun c48 => ?_)) | refine Rp.icmp_ge (tgt := 161) dX1_play_48 (by decide) (fun c48 => ?_) (fun c48 => ?_)
      · skip
        first | (exfalso; omega) | exact absurd c48 (by decide) | exact absurd (by decide) c48
      · skip
        refine Rp.aload_n dX1_play_51 rfl rfl ?_
        refine Rp.getR dX1_play_52 fk_X1_9 rfl (S _ _ rfl) (R _ _ _ rfl) ?_
        refine Rp.iload dX1_play_55 rfl ?_
        first | ((with_reducible show Rp _ _ _ _ (.int (nI _) :: _) _ _); refine Rp.ialoadN dX1_play_57 (S _ _ rfl) (by omega) ?_) | refine Rp.iaload dX1_play_57 (S _ _ rfl) (by first | assumption | exact vpb (by decide)) ?_
        first | rw [m4] | rw [el] | rw [eh] | skip
        refine Rp.ist6 dX1_play_58 (by first | exact nl2_some rfl | exact nl2_none) (by decide) ?_
        refine Rp.aload_n dX1_play_60 rfl rfl ?_
        refine Rp.iload dX1_play_61 rfl ?_
        first | ((with_reducible show Rp _ _ _ _ (.int (nI _) :: _) _ _); refine Rp.ialoadN dX1_play_63 hsk (by omega) ?_) | refine Rp.iaload dX1_play_63 hsk (by first | assumption | exact vpb (by decide)) ?_
        first | rw [m4] | rw [el] | rw [eh] | skip
        refine Rp.ist7 dX1_play_64 (by first | exact nl2_some rfl | exact nl2_none) (by decide) ?_
        refine Rp.iload dX1_play_66 rfl ?_
        refine Rp.iconst (-1) dX1_play_68 (by decide) ?_
        first | ((with_reducible show Rp _ _ _ _ (.int (nI _) :: .int (nI _) :: _) _ _); refine Rp.icmp_neN (tgt := 75) dX1_play_69 (by decide) (by omega) (fun c69 => ?_) (fun c69 => ?_)) | refine Rp.icmp_ne (tgt := 75) dX1_play_69 (by decide) (fun c69 => ?_) (fun c69 => ?_)
        · skip
          exact k2
        · skip
          exact absurd c69 om
theorem t_play {kh : Nat} (B : DB h b K np nt nd hs kh) (L : LINE h K nt) (J : JS h b K fl) {op : Int32} (hst : ∀ e, e < nd → st e = bitB op (nI e)) : Rp (d + 3) M_X1_play 0 [some (.ref 46), some (.ref 40), some (.ref kh), some (.int op), none, none, none, none, none] [] h (fun r h' => r = none ∧ Fr pX h h' ∧ JS h' b K fl ∧ DY h' (dayF K fl nd np nt st hs 100)) := by
  have S := B.1
  have R := B.2.1
  have J1 := J.1
  have F0 : Fr dX h (fillI (fillI (fillI (fillI h 48 3 (nI 0)) 49 6 (-1)) 50 6 (-1)) 51 6 (-1)) := (((Fr.rfl'.fill (fun j hj => by unfold dX; rw [decide_eq_true hj]; rfl)).fill (fun j hj => by unfold dX; rw [decide_eq_true hj]; rfl)).fill (fun j hj => by unfold dX; rw [decide_eq_true hj]; rfl)).fill (fun j hj => by unfold dX; rw [decide_eq_true hj]; rfl)
  have Y0 : DY (fillI (fillI (fillI (fillI h 48 3 (nI 0)) 49 6 (-1)) 50 6 (-1)) 51 6 (-1)) (dayF K fl nd np nt st hs 0) := by
    refine ⟨fun e he => ?_, fun p hp => ?_, fun p hp => ?_, fun p hp => ?_⟩
    · rw [gI_fillI, if_neg (by decide), gI_fillI, if_neg (by decide), gI_fillI, if_neg (by decide), gI_fillI, if_pos rfl, if_pos he]; rfl
    · rw [gI_fillI, if_neg (by decide), gI_fillI, if_neg (by decide), gI_fillI, if_pos rfl, if_pos hp]; rfl
    · rw [gI_fillI, if_neg (by decide), gI_fillI, if_pos rfl, if_pos hp]; rfl
    · rw [gI_fillI, if_pos rfl, if_pos hp]; rfl
  have r0 : rk K 0 nt = 0 := by
    have key : ∀ n, rk K 0 n = 0 := by
      intro n
      induction n with
      | zero => rfl
      | succ n ih => rw [rk, ih, if_neg (Nat.not_lt_zero _)]
    exact key nt
  have k1 := play41 d B L hst nt 0 0 _ none none none (by omega) r0 (by omega) (pX_d F0) (J.fd F0) Y0
  have f1 := c_fill (d + 2) h 48 3 (nI 0) (S _ _ rfl) (by decide)
  have f2 := c_fill (d + 2) (fillI h 48 3 (nI 0)) 49 6 (-1) (S _ _ rfl) (by decide)
  have f3 := c_fill (d + 2) (fillI (fillI h 48 3 (nI 0)) 49 6 (-1)) 50 6 (-1) (S _ _ rfl) (by decide)
  have f4 := c_fill (d + 2) (fillI (fillI (fillI h 48 3 (nI 0)) 49 6 (-1)) 50 6 (-1)) 51 6 (-1) (S _ _ rfl) (by decide)
  refine Rp.aload_n dX1_play_0 rfl rfl ?_
  refine Rp.getR dX1_play_1 fk_X1_36 rfl (S _ _ rfl) J1 ?_
  refine Rp.ast4 dX1_play_4 (by first | exact nl2_some rfl | exact nl2_none) (by decide) ?_
  refine Rp.aload_n dX1_play_6 rfl rfl ?_
  refine Rp.getR dX1_play_7 fk_X1_15 rfl (S _ _ rfl) (R _ _ _ rfl) ?_
  refine Rp.iconst (nI 0) dX1_play_10 (by decide) ?_
  refine Rp.callS2 M_J7_fill_53178 dX1_play_11 mo_J7_fill_53178 lk_X1_42 (Nat.le_of_ble_eq_true rfl) (Nat.le_of_ble_eq_true rfl) (f1) (fun v1 h1 p1 x1 => ?_)
  rw [p1.1, p1.2]
  try dsimp only [Option.toList, List.cons_append, List.nil_append, List.append]
  refine Rp.aload_n dX1_play_14 rfl rfl ?_
  refine Rp.getR dX1_play_15 fk_X1_18 rfl (S _ _ rfl) (R _ _ _ rfl) ?_
  refine Rp.iconst (-1) dX1_play_18 (by decide) ?_
  refine Rp.callS2 M_J7_fill_53178 dX1_play_19 mo_J7_fill_53178 lk_X1_42 (Nat.le_of_ble_eq_true rfl) (Nat.le_of_ble_eq_true rfl) (f2) (fun v1 h1 p1 x1 => ?_)
  rw [p1.1, p1.2]
  try dsimp only [Option.toList, List.cons_append, List.nil_append, List.append]
  refine Rp.aload_n dX1_play_22 rfl rfl ?_
  refine Rp.getR dX1_play_23 fk_X1_21 rfl (S _ _ rfl) (R _ _ _ rfl) ?_
  refine Rp.iconst (-1) dX1_play_26 (by decide) ?_
  refine Rp.callS2 M_J7_fill_53178 dX1_play_27 mo_J7_fill_53178 lk_X1_42 (Nat.le_of_ble_eq_true rfl) (Nat.le_of_ble_eq_true rfl) (f3) (fun v1 h1 p1 x1 => ?_)
  rw [p1.1, p1.2]
  try dsimp only [Option.toList, List.cons_append, List.nil_append, List.append]
  refine Rp.aload_n dX1_play_30 rfl rfl ?_
  refine Rp.getR dX1_play_31 fk_X1_24 rfl (S _ _ rfl) (R _ _ _ rfl) ?_
  refine Rp.iconst (-1) dX1_play_34 (by decide) ?_
  refine Rp.callS2 M_J7_fill_53178 dX1_play_35 mo_J7_fill_53178 lk_X1_42 (Nat.le_of_ble_eq_true rfl) (Nat.le_of_ble_eq_true rfl) (f4) (fun v1 h1 p1 x1 => ?_)
  rw [p1.1, p1.2]
  try dsimp only [Option.toList, List.cons_append, List.nil_append, List.append]
  refine Rp.iconst (nI 0) dX1_play_38 (by decide) ?_
  refine Rp.ist5 dX1_play_39 (by first | exact nl2_some rfl | exact nl2_none) (by decide) ?_
  exact k1
end Py2
