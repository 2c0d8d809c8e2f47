/-- what about has found so far, in the class -/
def RSab (g : AH) (s : AB) : Prop := match s with
  | none => gI g 52 10 = -1
  | some (f, a, Bf) => gI g 52 10 = nI f ∧ gI g 52 11 = nI a ∧ (∀ q, q < 6 → gI g 55 q = Bf q) ∧ f ≤ 6 ∧ a ≤ 324000
def afX (k j : Nat) : Bool := (k == 52 && (j == 10 || j == 11)) || (k == 55 && decide (j < 6))
theorem afX_n {k j : Nat} (h : k ≠ 52 ∧ k ≠ 55) : afX k j = false := by
  unfold afX
  rw [beq_eq_false_iff_ne.mpr h.1, beq_eq_false_iff_ne.mpr h.2]; rfl
/-- what about touches -/
def abX (k j : Nat) : Bool := plX k j || (dX k j || afX k j)
theorem abX_p {k j : Nat} (h : abX k j = false) : plX k j = false := by unfold abX at h; rw [Bool.or_eq_false_iff] at h; exact h.1
theorem abX_j {h g : AH} (F : Fr jX h g) : Fr abX h g := (plX_j F).weak (fun k j hx => abX_p hx)
theorem abX_q {h g : AH} (F : Fr pX h g) : Fr abX h g := F.weak (fun k j hx => by
  unfold abX plX at hx
  rw [Bool.or_eq_false_iff, Bool.or_eq_false_iff, Bool.or_eq_false_iff, Bool.or_eq_false_iff] at hx
  unfold pX
  rw [hx.1.1, hx.2.1]; rfl)
theorem abX_a {h g : AH} (F : Fr afX h g) : Fr abX h g := F.weak (fun k j hx => by
  unfold abX at hx
  rw [Bool.or_eq_false_iff, Bool.or_eq_false_iff] at hx
  exact hx.2.2)
theorem RSab.fr {X : Nat → Nat → Bool} {g g' : AH} {s : AB} (H : RSab g s) (F : Fr X g g') (h10 : X 52 10 = false) (h11 : X 52 11 = false) (h55 : ∀ j, X 55 j = false) : RSab g' s := by
  match s, H with
  | none, H => exact (F.I 52 10 h10).trans H
  | some (f, a, Bf), H => exact ⟨(F.I 52 10 h10).trans H.1, (F.I 52 11 h11).trans H.2.1, fun q hq => (F.I 55 q (h55 q)).trans (H.2.2.1 q hq), H.2.2.2⟩
theorem PB.day {h g : AH} {K : Nat → Int32} {fl : Option (List CLE)} {np nt nd : Nat} {W : Nat → Int32} (P : PB h K fl np nt nd W) (F : Fr pX h g) (J : JS g 1 K fl) : PB g K fl np nt nd W := P.fr F J (by decide) (fun k j hk => by unfold pX; rw [jX_lt (by omega), dX_lt (by omega)]; rfl) (fun j => rfl) P.2.2.2.2.2.2.1 (fun q hq => (F.I 53 q rfl).trans (P.2.2.2.2.2.2.2.1 q hq)) (fun t ht => (F.I 54 t rfl).trans (P.2.2.2.2.2.2.2.2 t ht))
theorem PB.res {h g : AH} {K : Nat → Int32} {fl : Option (List CLE)} {np nt nd : Nat} {W : Nat → Int32} (P : PB h K fl np nt nd W) (F : Fr afX h g) : PB g K fl np nt nd W := P.fr F (P.2.2.1.fg F (fun j => rfl) (fun j => rfl) (fun j => rfl) (fun k j hk => afX_n (by omega)) (fun k j o => afX_n ⟨okT_ne o (by decide) (by decide) (by decide) (by decide), okT_ne o (by decide) (by decide) (by decide) (by decide)⟩)) (by decide) (fun k j hk => afX_n (by omega)) (fun j => rfl) P.2.2.2.2.2.2.1 (fun q hq => (F.I 53 q rfl).trans (P.2.2.2.2.2.2.2.1 q hq)) (fun t ht => (F.I 54 t rfl).trans (P.2.2.2.2.2.2.2.2 t ht))
theorem bit7 {nd : Nat} (h : nd ≤ 3) : ∀ e, e < nd → true = bitB (nI 7) (nI e) := fun e he => by
  have : e = 0 ∨ e = 1 ∨ e = 2 := by omega
  rcases this with rfl | rfl | rfl <;> decide
section Kb
variable (d : Nat) {K : Nat → Int32} {fl : Option (List CLE)} {np nt nd : Nat} {W : Nat → Int32}
theorem better4 {h : AH} {Q : Option Value → AH → Prop} (P0 : PB h K fl np nt nd W) (B : KB K) (kk : ∀ g, PB g K fl np nt nd W → Fr jX h g → Rp (d + 4) M_X6_keepIfBetter 54 [some (.ref 52), some (.int (nI (lfF K fl np W))), some (.int (nI np))] [] g Q) : ∀ (m p : Nat) (g : AH), p + m = np → PB g K fl np nt nd W → Fr jX h g → Rp (d + 4) M_X6_keepIfBetter 4 [some (.ref 52), some (.int (nI (fitN (mixK W K) fl p))), some (.int (nI p))] [] g Q := by
  have V := P0.2.2.2.2.2.2.1
  have v1 := V.1
  have v2 := V.2.1
  intro m
  induction m with
  | zero =>
    intro p g hm P F
    have e : p = np := by omega
    subst e
    obtain ⟨S, R, J, M, D, L, -, e53, e54⟩ := id P
    have m3 : gI g 1 0 = nI p := M.2.2.1
    have j40 : gR g 40 3 = some 1 := J.1
    have k1 := kk g P F
    refine Rp.iload_n dX6_keepIfBetter_4 rfl ?_
    refine Rp.aload_n dX6_keepIfBetter_5 rfl rfl ?_
    refine Rp.getR dX6_keepIfBetter_6 fk_X6_27 rfl (S _ _ rfl) (R _ _ _ rfl) ?_
    refine Rp.getR dX6_keepIfBetter_9 fk_X6_86 rfl (S _ _ rfl) j40 ?_
    refine Rp.getI dX6_keepIfBetter_12 fk_X6_90 rfl (S _ _ rfl) ?_
    first | rw [m3] | skip
    first | ((with_reducible show Rp _ _ _ _ (.int (nI _) :: .int (nI _) :: _) _ _); refine Rp.icmp_geN (tgt := 54) dX6_keepIfBetter_15 (by decide) (by omega) (fun c15 => ?_) (fun c15 => ?_)) | refine Rp.icmp_ge (tgt := 54) dX6_keepIfBetter_15 (by decide) (fun c15 => ?_) (fun c15 => ?_)
    · skip
      exact k1
    · skip
      first | (exfalso; omega) | exact absurd c15 (by decide) | exact absurd (by decide) c15
  | succ m ih =>
    intro p g hm P F
    obtain ⟨S, R, J, M, D, L, -, e53, e54⟩ := id P
    have m3 : gI g 1 0 = nI np := M.2.2.1
    have j40 : gR g 40 3 = some 1 := J.1
    have ew : gI g 53 p = W p := e53 p (by omega)
    have fle := fitN_le (mixK W K) fl p
    rcases V.2.2.1 p (by omega) with e | ⟨-, t, ht, e⟩
    · have k1 := ih (p + 1) g (by omega) P F
      rw [fitN, if_neg (fun z => z.1 (by rw [mixK_lo (by omega)]; exact e)), Nat.add_zero] at k1
      refine Rp.iload_n dX6_keepIfBetter_4 rfl ?_
      refine Rp.aload_n dX6_keepIfBetter_5 rfl rfl ?_
      refine Rp.getR dX6_keepIfBetter_6 fk_X6_27 rfl (S _ _ rfl) (R _ _ _ rfl) ?_
      refine Rp.getR dX6_keepIfBetter_9 fk_X6_86 rfl (S _ _ rfl) j40 ?_
      refine Rp.getI dX6_keepIfBetter_12 fk_X6_90 rfl (S _ _ rfl) ?_
      first | rw [m3] | rw [ew] | skip
      first | ((with_reducible show Rp _ _ _ _ (.int (nI _) :: .int (nI _) :: _) _ _); refine Rp.icmp_geN (tgt := 54) dX6_keepIfBetter_15 (by decide) (by omega) (fun c15 => ?_) (fun c15 => ?_)) | refine Rp.icmp_ge (tgt := 54) dX6_keepIfBetter_15 (by decide) (fun c15 => ?_) (fun c15 => ?_)
      · skip
        first | (exfalso; omega) | exact absurd c15 (by decide) | exact absurd (by decide) c15
      · skip
        refine Rp.aload_n dX6_keepIfBetter_18 rfl rfl ?_
        refine Rp.getR dX6_keepIfBetter_19 fk_X6_9 rfl (S _ _ rfl) (R _ _ _ rfl) ?_
        refine Rp.iload_n dX6_keepIfBetter_22 rfl ?_
        first | ((with_reducible show Rp _ _ _ _ (.int (nI _) :: _) _ _); refine Rp.ialoadN dX6_keepIfBetter_23 (S _ _ rfl) (by omega) ?_) | refine Rp.iaload dX6_keepIfBetter_23 (S _ _ rfl) (by first | assumption | exact vpb (by decide)) ?_
        first | rw [m3] | rw [ew] | skip
        refine Rp.iconst (-1) dX6_keepIfBetter_24 (by decide) ?_
        first | ((with_reducible show Rp _ _ _ _ (.int (nI _) :: .int (nI _) :: _) _ _); refine Rp.icmp_eqN (tgt := 48) dX6_keepIfBetter_25 (by decide) (by omega) (fun c25 => ?_) (fun c25 => ?_)) | refine Rp.icmp_eq (tgt := 48) dX6_keepIfBetter_25 (by decide) (fun c25 => ?_) (fun c25 => ?_)
        · skip
          first | ((with_reducible show Rp _ _ _ (_ :: _ :: some (.int (nI _)) :: _) _ _ _); refine Rp.inc2N (c := 1) dX6_keepIfBetter_48 (by first | exact nl2_some rfl | exact nl2_none) (by decide) ?_) | refine Rp.inc2 _ dX6_keepIfBetter_48 rfl (by first | exact nl2_some rfl | exact nl2_none) (by decide) ?_
          refine Rp.goto (tgt := 4) dX6_keepIfBetter_51 (by decide) ?_
          exact k1
        · skip
          exact absurd e c25
    · have en : ¬ W p = -1 := fun z => nI_m1 (by omega) (e.symm.trans z)
      have ft := t_isFitJ (d + 1) S R J B (p := p) (t := t) (by omega) (by omega)
      refine Rp.iload_n dX6_keepIfBetter_4 rfl ?_
      refine Rp.aload_n dX6_keepIfBetter_5 rfl rfl ?_
      refine Rp.getR dX6_keepIfBetter_6 fk_X6_27 rfl (S _ _ rfl) (R _ _ _ rfl) ?_
      refine Rp.getR dX6_keepIfBetter_9 fk_X6_86 rfl (S _ _ rfl) j40 ?_
      refine Rp.getI dX6_keepIfBetter_12 fk_X6_90 rfl (S _ _ rfl) ?_
      first | rw [m3] | rw [ew] | skip
      first | ((with_reducible show Rp _ _ _ _ (.int (nI _) :: .int (nI _) :: _) _ _); refine Rp.icmp_geN (tgt := 54) dX6_keepIfBetter_15 (by decide) (by omega) (fun c15 => ?_) (fun c15 => ?_)) | refine Rp.icmp_ge (tgt := 54) dX6_keepIfBetter_15 (by decide) (fun c15 => ?_) (fun c15 => ?_)
      · first | (exfalso; omega) | exact absurd c15 (by decide) | exact absurd (by decide) c15
      refine Rp.aload_n dX6_keepIfBetter_18 rfl rfl ?_
      refine Rp.getR dX6_keepIfBetter_19 fk_X6_9 rfl (S _ _ rfl) (R _ _ _ rfl) ?_
      refine Rp.iload_n dX6_keepIfBetter_22 rfl ?_
      first | ((with_reducible show Rp _ _ _ _ (.int (nI _) :: _) _ _); refine Rp.ialoadN dX6_keepIfBetter_23 (S _ _ rfl) (by omega) ?_) | refine Rp.iaload dX6_keepIfBetter_23 (S _ _ rfl) (by first | assumption | exact vpb (by decide)) ?_
      first | rw [m3] | rw [ew] | skip
      refine Rp.iconst (-1) dX6_keepIfBetter_24 (by decide) ?_
      first | ((with_reducible show Rp _ _ _ _ (.int (nI _) :: .int (nI _) :: _) _ _); refine Rp.icmp_eqN (tgt := 48) dX6_keepIfBetter_25 (by decide) (by omega) (fun c25 => ?_) (fun c25 => ?_)) | refine Rp.icmp_eq (tgt := 48) dX6_keepIfBetter_25 (by decide) (fun c25 => ?_) (fun c25 => ?_)
      · exact absurd c25 en
      refine Rp.aload_n dX6_keepIfBetter_28 rfl rfl ?_
      refine Rp.getR dX6_keepIfBetter_29 fk_X6_27 rfl (S _ _ rfl) (R _ _ _ rfl) ?_
      refine Rp.iload_n dX6_keepIfBetter_32 rfl ?_
      refine Rp.aload_n dX6_keepIfBetter_33 rfl rfl ?_
      refine Rp.getR dX6_keepIfBetter_34 fk_X6_9 rfl (S _ _ rfl) (R _ _ _ rfl) ?_
      refine Rp.iload_n dX6_keepIfBetter_37 rfl ?_
      first | ((with_reducible show Rp _ _ _ _ (.int (nI _) :: _) _ _); refine Rp.ialoadN dX6_keepIfBetter_38 (S _ _ rfl) (by omega) ?_) | refine Rp.iaload dX6_keepIfBetter_38 (S _ _ rfl) (by first | assumption | exact vpb (by decide)) ?_
      first | rw [m3] | rw [ew] | skip
      rw [e]
      refine Rp.callV2 M_X3_isFit (ci := 3) dX6_keepIfBetter_39 mo_X3_isFit lk_X6_115 (by decide) rfl rfl (S _ _ rfl) (Nat.le_of_ble_eq_true rfl) (Nat.le_of_ble_eq_true rfl) (ft) (fun v1 h1 p1 x1 => ?_)
      obtain ⟨F1, J1, rfl⟩ := p1
      try dsimp only [Option.toList, List.cons_append, List.nil_append, List.append]
      skip
      have k1 := ih (p + 1) h1 (by omega) (P.fj F1 J1) (F.trans F1)
      have em : oFt (mixK W K) fl p t = oFt K fl p t := (ask_congr (fun j hj => mixK_hi hj) fl).2.1 p t
      rw [fitN, mixK_lo (by omega), e, ix_nI (by omega), em] at k1
      cases c : oFt K fl p t
      · rw [if_neg (fun z => by rw [c] at z; exact absurd z.2 (by decide)), Nat.add_zero] at k1
        first | ((with_reducible show Rp _ _ _ _ (.int (b2i _) :: _) _ _); refine Rp.if_eqB (tgt := 48) dX6_keepIfBetter_42 (by decide) (fun c42 => ?_) (fun c42 => ?_)) | ((with_reducible show Rp _ _ _ _ (.int (nI _) :: _) _ _); refine Rp.if_eqN (tgt := 48) dX6_keepIfBetter_42 (by decide) (by omega) (fun c42 => ?_) (fun c42 => ?_)) | refine Rp.if_eq (tgt := 48) dX6_keepIfBetter_42 (by decide) (fun c42 => ?_) (fun c42 => ?_)
        · skip
          first | ((with_reducible show Rp _ _ _ (_ :: _ :: some (.int (nI _)) :: _) _ _ _); refine Rp.inc2N (c := 1) dX6_keepIfBetter_48 (by first | exact nl2_some rfl | exact nl2_none) (by decide) ?_) | refine Rp.inc2 _ dX6_keepIfBetter_48 rfl (by first | exact nl2_some rfl | exact nl2_none) (by decide) ?_
          refine Rp.goto (tgt := 4) dX6_keepIfBetter_51 (by decide) ?_
          exact k1
        · skip
          cases c42
      · rw [if_pos ⟨nI_m1 (by omega), c⟩] at k1
        first | ((with_reducible show Rp _ _ _ _ (.int (b2i _) :: _) _ _); refine Rp.if_eqB (tgt := 48) dX6_keepIfBetter_42 (by decide) (fun c42 => ?_) (fun c42 => ?_)) | ((with_reducible show Rp _ _ _ _ (.int (nI _) :: _) _ _); refine Rp.if_eqN (tgt := 48) dX6_keepIfBetter_42 (by decide) (by omega) (fun c42 => ?_) (fun c42 => ?_)) | refine Rp.if_eq (tgt := 48) dX6_keepIfBetter_42 (by decide) (fun c42 => ?_) (fun c42 => ?_)
        · skip
          cases c42
        · skip
          first | ((with_reducible show Rp _ _ _ (_ :: some (.int (nI _)) :: _) _ _ _); refine Rp.inc1N (c := 1) dX6_keepIfBetter_45 (by first | exact nl2_some rfl | exact nl2_none) (by decide) ?_) | refine Rp.inc1 _ dX6_keepIfBetter_45 rfl (by first | exact nl2_some rfl | exact nl2_none) (by decide) ?_
          first | ((with_reducible show Rp _ _ _ (_ :: _ :: some (.int (nI _)) :: _) _ _ _); refine Rp.inc2N (c := 1) dX6_keepIfBetter_48 (by first | exact nl2_some rfl | exact nl2_none) (by decide) ?_) | refine Rp.inc2 _ dX6_keepIfBetter_48 rfl (by first | exact nl2_some rfl | exact nl2_none) (by decide) ?_
          refine Rp.goto (tgt := 4) dX6_keepIfBetter_51 (by decide) ?_
          exact k1
theorem lfA_le : lfA K fl nd np nt W ≤ 54000 * np := wtA_le (nd := nd) (fun p => dayF_DP 100 p) np
/-- the better of two -/
theorem t_better {h : AH} {s : AB} (P : PB h K fl np nt nd W) (B : KB K) (VDd : VD K nd) (VNn : VN K nt) {at9 : Bool} (h9 : gI h 52 9 = b2i at9) (hS : RSab h s) (hw : ∀ q, (K q = -1 → W q = -1) ∧ (q < np → K q ≠ -1 → W q ≠ -1)) : Rp (d + 4) M_X6_keepIfBetter 0 [some (.ref 52), none, none] [] h (LfQ K fl np nt nd RSab abX at9 h W (abS K fl nd np nt W s)) := by
  have V := P.2.2.2.2.2.2.1
  have v1 := V.1
  have v2 := V.2.1
  have fle : lfF K fl np W ≤ np := fitN_le (mixK W K) fl np
  have ale := lfA_le (K := K) (fl := fl) (nd := nd) (np := np) (nt := nt) (W := W)
  have k54 : ∀ g, PB g K fl np nt nd W → Fr jX h g → Rp (d + 4) M_X6_keepIfBetter 54 [some (.ref 52), some (.int (nI (lfF K fl np W))), some (.int (nI np))] [] g (LfQ K fl np nt nd RSab abX at9 h W (abS K fl nd np nt W s)) := by
    intro g Pg F
    have S := Pg.1
    have R := Pg.2.1
    have J := Pg.2.2.1
    have M := Pg.2.2.2.1
    have hSg := hS.fr F rfl rfl (fun j => rfl)
    have h9g : gI g 52 9 = b2i at9 := (F.I 52 9 rfl).trans h9
    -- the day
    have DBg : DB g 1 K np nt nd W 54 := ⟨S, R, by decide, B, Pg.2.2.2.2.1, VDd, VNn, v1, M.2.2.2.1, Or.inr (Or.inr rfl), fun t ht => Pg.2.2.2.2.2.2.2.2 t (by omega)⟩
    have py := t_play d (st := fun _ => true) (fl := fl) DBg Pg.2.2.2.2.2.1 J (op := nI 7) (bit7 VDd.1)
    -- taking it
    have k108 : ∀ g2 : AH, PB g2 K fl np nt nd W → Fr abX h g2 → gI g2 52 9 = b2i at9 → abS K fl nd np nt W s = some (lfF K fl np W, lfA K fl nd np nt W, W) → Rp (d + 4) M_X6_keepIfBetter 108 [some (.ref 52), some (.int (nI (lfF K fl np W))), some (.int (nI (lfA K fl nd np nt W)))] [] g2 (LfQ K fl np nt nd RSab abX at9 h W (abS K fl nd np nt W s)) := by
      intro g2 P2 F2 h92 e
      rw [e]
      have S2 := P2.1
      have R2 := P2.2.1
      have F3 : Fr afX g2 (cpH (sI (sI g2 52 10 (nI (lfF K fl np W))) 52 11 (nI (lfA K fl nd np nt W))) 53 55 0 0 6) := ((Fr.rfl'.sI rfl).sI rfl).trans (Fr.cpL (fun j hj => by unfold afX; rw [decide_eq_true (show j < 6 by omega)]; rfl))
      have P3 := P2.res F3
      have r3 : RSab (cpH (sI (sI g2 52 10 (nI (lfF K fl np W))) 52 11 (nI (lfA K fl nd np nt W))) 53 55 0 0 6) (some (lfF K fl np W, lfA K fl nd np nt W, W)) := by
        refine ⟨?_, ?_, fun q hq => ?_, by omega, by omega⟩
        · rw [gI_cp, if_neg (by decide), gI_off _ _ _ (by decide), gI_hit]
        · rw [gI_cp, if_neg (by decide), gI_hit]
        · rw [gI_cp, if_pos rfl, if_pos (by omega), gI_ne _ _ _ _ (by decide), gI_ne _ _ _ _ (by decide), show 0 + (q - 0) = q by omega]
          exact P2.2.2.2.2.2.2.2.1 q hq
      have k1 : LfQ K fl np nt nd RSab abX at9 h W (some (lfF K fl np W, lfA K fl nd np nt W, W)) none (cpH (sI (sI g2 52 10 (nI (lfF K fl np W))) 52 11 (nI (lfA K fl nd np nt W))) 53 55 0 0 6) := ⟨rfl, P3, (F3.I 52 9 rfl).trans h92, r3, F2.trans (abX_a F3)⟩
      refine Rp.aload_n dX6_keepIfBetter_108 rfl rfl ?_
      refine Rp.iload_n dX6_keepIfBetter_109 rfl ?_
      refine Rp.putI dX6_keepIfBetter_110 fk_X6_42w rfl (S2 _ _ rfl) ?_
      refine Rp.aload_n dX6_keepIfBetter_113 rfl rfl ?_
      refine Rp.iload_n dX6_keepIfBetter_114 rfl ?_
      refine Rp.putI dX6_keepIfBetter_115 fk_X6_46w rfl (S2 _ _ rfl) ?_
      refine Rp.aload_n dX6_keepIfBetter_118 rfl rfl ?_
      refine Rp.getR dX6_keepIfBetter_119 fk_X6_9 rfl (S2 _ _ rfl) (R2 _ _ _ rfl) ?_
      refine Rp.iconst (nI 0) dX6_keepIfBetter_122 (by decide) ?_
      refine Rp.aload_n dX6_keepIfBetter_123 rfl rfl ?_
      refine Rp.getR dX6_keepIfBetter_124 fk_X6_18 rfl (S2 _ _ rfl) (R2 _ _ _ rfl) ?_
      refine Rp.iconst (nI 0) dX6_keepIfBetter_127 (by decide) ?_
      refine Rp.bipush (nI 6) dX6_keepIfBetter_128 (by decide) ?_
      refine Rp.acopy dX6_keepIfBetter_130 ac_X6_126 (S2 _ _ rfl) (S2 _ _ rfl) (by decide) (Nat.le_of_ble_eq_true rfl) ?_
      refine Rp.vreturn dX6_keepIfBetter_133 rfl ?_
      exact k1
    -- with the day played
    have k92 : ∀ g2 : AH, PB g2 K fl np nt nd W → Fr abX h g2 → gI g2 52 9 = b2i at9 → RSab g2 s → (∀ f a Bf, s = some (f, a, Bf) → ¬ lfF K fl np W < f) → Rp (d + 4) M_X6_keepIfBetter 92 [some (.ref 52), some (.int (nI (lfF K fl np W))), some (.int (nI (lfA K fl nd np nt W)))] [] g2 (LfQ K fl np nt nd RSab abX at9 h W (abS K fl nd np nt W s)) := by
      intro g2 P2 F2 h92 hS2 hnl
      have S2 := P2.1
      match s, hS2, hnl, k108 with
      | none, hS2, hnl, k108 =>
        have k1 := k108 g2 P2 F2 h92 rfl
        have q10 : gI g2 52 10 = -1 := hS2
        have gt : nI (lfF K fl np W) > -1 := by
          show (-1 : Int32) < nI (lfF K fl np W)
          rw [i32_lt, nI_toInt (by omega)]
          have : (-1 : Int32).toInt = -1 := rfl
          omega
        refine Rp.iload_n dX6_keepIfBetter_92 rfl ?_
        refine Rp.aload_n dX6_keepIfBetter_93 rfl rfl ?_
        refine Rp.getI dX6_keepIfBetter_94 fk_X6_42 rfl (S2 _ _ rfl) ?_
        first | rw [q10] | skip
        first | ((with_reducible show Rp _ _ _ _ (.int (nI _) :: .int (nI _) :: _) _ _); refine Rp.icmp_gtN (tgt := 108) dX6_keepIfBetter_97 (by decide) (by omega) (fun c97 => ?_) (fun c97 => ?_)) | refine Rp.icmp_gt (tgt := 108) dX6_keepIfBetter_97 (by decide) (fun c97 => ?_) (fun c97 => ?_)
        · skip
          exact k1
        · skip
          exact absurd gt c97
      | some (f, a, Bf), hS2, hnl, k108 =>
        have q10 : gI g2 52 10 = nI f := hS2.1
        have q11 : gI g2 52 11 = nI a := hS2.2.1
        have nl := hnl f a Bf rfl
        have fb := hS2.2.2.2.1
        have abd := hS2.2.2.2.2
        by_cases c1 : f < lfF K fl np W
        · have k1 := k108 g2 P2 F2 h92 (by show (if lfF K fl np W < f then _ else _) = _; rw [if_neg nl, if_neg (fun z => by omega)])
          refine Rp.iload_n dX6_keepIfBetter_92 rfl ?_
          refine Rp.aload_n dX6_keepIfBetter_93 rfl rfl ?_
          refine Rp.getI dX6_keepIfBetter_94 fk_X6_42 rfl (S2 _ _ rfl) ?_
          first | rw [q10] | rw [q11] | skip
          first | ((with_reducible show Rp _ _ _ _ (.int (nI _) :: .int (nI _) :: _) _ _); refine Rp.icmp_gtN (tgt := 108) dX6_keepIfBetter_97 (by decide) (by omega) (fun c97 => ?_) (fun c97 => ?_)) | refine Rp.icmp_gt (tgt := 108) dX6_keepIfBetter_97 (by decide) (fun c97 => ?_) (fun c97 => ?_)
          · skip
            exact k1
          · skip
            first | (exfalso; omega) | exact absurd c97 (by decide) | exact absurd (by decide) c97
        · have ef : lfF K fl np W = f := by omega
          by_cases c2 : a ≤ lfA K fl nd np nt W
          · have ea : abS K fl nd np nt W (some (f, a, Bf)) = some (f, a, Bf) := by show (if lfF K fl np W < f then _ else _) = _; rw [if_neg nl, if_pos ⟨ef, c2⟩]
            rw [ea]
            refine Rp.iload_n dX6_keepIfBetter_92 rfl ?_
            refine Rp.aload_n dX6_keepIfBetter_93 rfl rfl ?_
            refine Rp.getI dX6_keepIfBetter_94 fk_X6_42 rfl (S2 _ _ rfl) ?_
            first | rw [q10] | rw [q11] | skip
            first | ((with_reducible show Rp _ _ _ _ (.int (nI _) :: .int (nI _) :: _) _ _); refine Rp.icmp_gtN (tgt := 108) dX6_keepIfBetter_97 (by decide) (by omega) (fun c97 => ?_) (fun c97 => ?_)) | refine Rp.icmp_gt (tgt := 108) dX6_keepIfBetter_97 (by decide) (fun c97 => ?_) (fun c97 => ?_)
            · skip
              first | (exfalso; omega) | exact absurd c97 (by decide) | exact absurd (by decide) c97
            · skip
              refine Rp.iload_n dX6_keepIfBetter_100 rfl ?_
              refine Rp.aload_n dX6_keepIfBetter_101 rfl rfl ?_
              refine Rp.getI dX6_keepIfBetter_102 fk_X6_46 rfl (S2 _ _ rfl) ?_
              first | rw [q10] | rw [q11] | skip
              first | ((with_reducible show Rp _ _ _ _ (.int (nI _) :: .int (nI _) :: _) _ _); refine Rp.icmp_geN (tgt := 133) dX6_keepIfBetter_105 (by decide) (by omega) (fun c105 => ?_) (fun c105 => ?_)) | refine Rp.icmp_ge (tgt := 133) dX6_keepIfBetter_105 (by decide) (fun c105 => ?_) (fun c105 => ?_)
              · skip
                refine Rp.vreturn dX6_keepIfBetter_133 rfl ?_
                exact ⟨rfl, P2, h92, hS2, F2⟩
              · skip
                first | (exfalso; omega) | exact absurd c105 (by decide) | exact absurd (by decide) c105
          · have k1 := k108 g2 P2 F2 h92 (by show (if lfF K fl np W < f then _ else _) = _; rw [if_neg nl, if_neg (fun z => c2 z.2)])
            refine Rp.iload_n dX6_keepIfBetter_92 rfl ?_
            refine Rp.aload_n dX6_keepIfBetter_93 rfl rfl ?_
            refine Rp.getI dX6_keepIfBetter_94 fk_X6_42 rfl (S2 _ _ rfl) ?_
            first | rw [q10] | rw [q11] | skip
            first | ((with_reducible show Rp _ _ _ _ (.int (nI _) :: .int (nI _) :: _) _ _); refine Rp.icmp_gtN (tgt := 108) dX6_keepIfBetter_97 (by decide) (by omega) (fun c97 => ?_) (fun c97 => ?_)) | refine Rp.icmp_gt (tgt := 108) dX6_keepIfBetter_97 (by decide) (fun c97 => ?_) (fun c97 => ?_)
            · skip
              first | (exfalso; omega) | exact absurd c97 (by decide) | exact absurd (by decide) c97
            · skip
              refine Rp.iload_n dX6_keepIfBetter_100 rfl ?_
              refine Rp.aload_n dX6_keepIfBetter_101 rfl rfl ?_
              refine Rp.getI dX6_keepIfBetter_102 fk_X6_46 rfl (S2 _ _ rfl) ?_
              first | rw [q10] | rw [q11] | skip
              first | ((with_reducible show Rp _ _ _ _ (.int (nI _) :: .int (nI _) :: _) _ _); refine Rp.icmp_geN (tgt := 133) dX6_keepIfBetter_105 (by decide) (by omega) (fun c105 => ?_) (fun c105 => ?_)) | refine Rp.icmp_ge (tgt := 133) dX6_keepIfBetter_105 (by decide) (fun c105 => ?_) (fun c105 => ?_)
              · skip
                first | (exfalso; omega) | exact absurd c105 (by decide) | exact absurd (by decide) c105
              · skip
                exact k1
    have k63 : (∀ f a Bf, s = some (f, a, Bf) → ¬ lfF K fl np W < f) → Rp (d + 4) M_X6_keepIfBetter 63 [some (.ref 52), some (.int (nI (lfF K fl np W))), some (.int (nI np))] [] g (LfQ K fl np nt nd RSab abX at9 h W (abS K fl nd np nt W s)) := by
      intro hnl
      refine Rp.aload_n dX6_keepIfBetter_63 rfl rfl ?_
      refine Rp.getR dX6_keepIfBetter_64 fk_X6_31 rfl (S _ _ rfl) (R _ _ _ rfl) ?_
      refine Rp.aload_n dX6_keepIfBetter_67 rfl rfl ?_
      refine Rp.getR dX6_keepIfBetter_68 fk_X6_27 rfl (S _ _ rfl) (R _ _ _ rfl) ?_
      refine Rp.aload_n dX6_keepIfBetter_71 rfl rfl ?_
      refine Rp.getR dX6_keepIfBetter_72 fk_X6_15 rfl (S _ _ rfl) (R _ _ _ rfl) ?_
      refine Rp.bipush (nI 7) dX6_keepIfBetter_75 (by decide) ?_
      refine Rp.callV3 M_X1_play (ci := 1) dX6_keepIfBetter_77 mo_X1_play lk_X6_118 (by decide) rfl rfl (S _ _ rfl) (Nat.le_of_ble_eq_true rfl) (Nat.le_of_ble_eq_true rfl) (py) (fun v1 h1 p1 x1 => ?_)
      obtain ⟨rfl, F1, J1, Y1⟩ := p1
      try dsimp only [Option.toList, List.cons_append, List.nil_append, List.append]
      skip
      have P1 := Pg.day F1 J1
      have S1 := P1.1
      have R1 := P1.2.1
      have M1 := P1.2.2.2.1
      have wa := t_waitOfAllJ d (np := np) (nd := nd) S1 R1 (by decide) B J1 Y1 (fun p => dayF_DP 100 p) v1 M1.2.1 M1.2.2.1 M1.2.2.2.2.1
      have ew : wtA K fl (dayF K fl nd np nt (fun _ => true) W 100) K np = lfA K fl nd np nt W := wtA_congr (fun j hj => rfl) fl _ np (fun p hp => ⟨(hw p).1, fun z => by
        by_cases y : K p = -1
        · exact y
        · exact absurd z ((hw p).2 hp y)⟩)
      rw [ew] at wa
      refine Rp.aload_n dX6_keepIfBetter_80 rfl rfl ?_
      refine Rp.getR dX6_keepIfBetter_81 fk_X6_31 rfl (S1 _ _ rfl) (R1 _ _ _ rfl) ?_
      refine Rp.aload_n dX6_keepIfBetter_84 rfl rfl ?_
      refine Rp.getR dX6_keepIfBetter_85 fk_X6_27 rfl (S1 _ _ rfl) (R1 _ _ _ rfl) ?_
      refine Rp.callV1 M_X1_waitOfAll (ci := 1) dX6_keepIfBetter_88 mo_X1_waitOfAll lk_X6_122 (by decide) rfl rfl (S1 _ _ rfl) (Nat.le_of_ble_eq_true rfl) (Nat.le_of_ble_eq_true rfl) (wa) (fun v1 h1 p1 x1 => ?_)
      obtain ⟨F2, J2, rfl⟩ := p1
      try dsimp only [Option.toList, List.cons_append, List.nil_append, List.append]
      skip
      have P2 := P1.fj F2 J2
      have FF : Fr abX h h1 := ((abX_j F).trans (abX_q F1)).trans (abX_j F2)
      have k1 := k92 h1 P2 FF ((F2.I 52 9 rfl).trans ((F1.I 52 9 rfl).trans h9g)) ((hSg.fr F1 rfl rfl (fun j => rfl)).fr F2 rfl rfl (fun j => rfl)) hnl
      refine Rp.ist2 dX6_keepIfBetter_91 (by first | exact nl2_some rfl | exact nl2_none) (by decide) ?_
      exact k1
    match s, hSg, k63 with
    | none, hSg, k63 =>
      have q10 : gI g 52 10 = -1 := hSg
      have ge : nI (lfF K fl np W) ≥ -1 := by
        show (-1 : Int32) ≤ nI (lfF K fl np W)
        rw [i32_le, nI_toInt (by omega)]
        have : (-1 : Int32).toInt = -1 := rfl
        omega
      have k1 := k63 (fun f a Bf z => nomatch z)
      refine Rp.iload_n dX6_keepIfBetter_54 rfl ?_
      refine Rp.aload_n dX6_keepIfBetter_55 rfl rfl ?_
      refine Rp.getI dX6_keepIfBetter_56 fk_X6_42 rfl (S _ _ rfl) ?_
      first | rw [q10] | skip
      first | ((with_reducible show Rp _ _ _ _ (.int (nI _) :: .int (nI _) :: _) _ _); refine Rp.icmp_geN (tgt := 63) dX6_keepIfBetter_59 (by decide) (by omega) (fun c59 => ?_) (fun c59 => ?_)) | refine Rp.icmp_ge (tgt := 63) dX6_keepIfBetter_59 (by decide) (fun c59 => ?_) (fun c59 => ?_)
      · skip
        exact k1
      · skip
        exact absurd ge c59
    | some (f, a, Bf), hSg, k63 =>
      have q10 : gI g 52 10 = nI f := hSg.1
      have fb := hSg.2.2.2.1
      by_cases c1 : lfF K fl np W < f
      · have ea : abS K fl nd np nt W (some (f, a, Bf)) = some (f, a, Bf) := by show (if lfF K fl np W < f then _ else _) = _; rw [if_pos c1]
        rw [ea]
        refine Rp.iload_n dX6_keepIfBetter_54 rfl ?_
        refine Rp.aload_n dX6_keepIfBetter_55 rfl rfl ?_
        refine Rp.getI dX6_keepIfBetter_56 fk_X6_42 rfl (S _ _ rfl) ?_
        first | rw [q10] | skip
        first | ((with_reducible show Rp _ _ _ _ (.int (nI _) :: .int (nI _) :: _) _ _); refine Rp.icmp_geN (tgt := 63) dX6_keepIfBetter_59 (by decide) (by omega) (fun c59 => ?_) (fun c59 => ?_)) | refine Rp.icmp_ge (tgt := 63) dX6_keepIfBetter_59 (by decide) (fun c59 => ?_) (fun c59 => ?_)
        · skip
          first | (exfalso; omega) | exact absurd c59 (by decide) | exact absurd (by decide) c59
        · skip
          refine Rp.vreturn dX6_keepIfBetter_62 rfl ?_
          exact ⟨rfl, Pg, h9g, hSg, abX_j F⟩
      · have k1 := k63 (fun f' a' Bf' z => by cases z; exact c1)
        refine Rp.iload_n dX6_keepIfBetter_54 rfl ?_
        refine Rp.aload_n dX6_keepIfBetter_55 rfl rfl ?_
        refine Rp.getI dX6_keepIfBetter_56 fk_X6_42 rfl (S _ _ rfl) ?_
        first | rw [q10] | skip
        first | ((with_reducible show Rp _ _ _ _ (.int (nI _) :: .int (nI _) :: _) _ _); refine Rp.icmp_geN (tgt := 63) dX6_keepIfBetter_59 (by decide) (by omega) (fun c59 => ?_) (fun c59 => ?_)) | refine Rp.icmp_ge (tgt := 63) dX6_keepIfBetter_59 (by decide) (fun c59 => ?_) (fun c59 => ?_)
        · skip
          exact k1
        · skip
          first | (exfalso; omega) | exact absurd c59 (by decide) | exact absurd (by decide) c59
  have k4 := better4 d P B k54 np 0 h (by omega) P Fr.rfl'
  refine Rp.iconst (nI 0) dX6_keepIfBetter_0 (by decide) ?_
  refine Rp.ist1 dX6_keepIfBetter_1 (by first | exact nl2_some rfl | exact nl2_none) (by decide) ?_
  refine Rp.iconst (nI 0) dX6_keepIfBetter_2 (by decide) ?_
  refine Rp.ist2 dX6_keepIfBetter_3 (by first | exact nl2_some rfl | exact nl2_none) (by decide) ?_
  exact k4
end Kb
