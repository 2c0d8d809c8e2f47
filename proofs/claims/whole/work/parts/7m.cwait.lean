/-- what is known of a person's day -/
def DP (s : DS) (nd x p : Nat) : Prop := (s.2.1 p = -1 ∧ s.2.2.1 p = -1 ∧ s.2.2.2 p = -1) ∨ ∃ v u e, v ≤ x ∧ u ≤ x ∧ e < nd ∧ s.2.1 p = nI v ∧ s.2.2.1 p = nI u ∧ s.2.2.2 p = nI e
theorem dayF_DP {K : Nat → Int32} {fl : Option (List CLE)} {nd np nt : Nat} {st : Nat → Bool} {hs : Nat → Int32} : ∀ x p, DP (dayF K fl nd np nt st hs x) nd (60 * x) p
  | 0, p => Or.inl ⟨rfl, rfl, rfl⟩
  | x + 1, p => by
    have up : DP (dayF K fl nd np nt st hs x) nd (60 * (x + 1)) p := by
      rcases dayF_DP (K := K) (fl := fl) (nd := nd) (np := np) (nt := nt) (st := st) (hs := hs) x p with h | ⟨v, u, e, h1, h2, h3, h4⟩
      · exact Or.inl h
      · exact Or.inr ⟨v, u, e, by omega, by omega, h3, h4⟩
    rw [dayF]
    match fT K x nt with
    | none => exact up
    | some t =>
      dsimp only
      split
      · exact up
      · unfold stp
        match hq : dskF K st (dayF K fl nd np nt st hs x).1 (K (75 + t)) nd with
        | none => exact up
        | some e2 =>
          dsimp only
          have a2 := dayF_free (K := K) (fl := fl) (nd := nd) (np := np) (nt := nt) (st := st) (hs := hs) x e2
          have a3 : oTk K fl (ix (hOf hs (nI t) np)) t e2 ≤ 60 := tlO_le (by decide) (by decide) (by have := Nat.div_le_self 20 (spE K e2); omega)
          by_cases z : p = ix (hOf hs (nI t) np)
          · refine Or.inr ⟨_, _, e2, ?_, ?_, dskF_lt nd e2 hq, by dsimp only; unfold upK; rw [if_pos z], by dsimp only; unfold upK; rw [if_pos z], by dsimp only; unfold upK; rw [if_pos z]⟩
            · omega
            · omega
          · rcases up with h | ⟨v, u, e, h1, h2, h3, h4, h5, h6⟩
            · exact Or.inl ⟨by dsimp only; unfold upK; rw [if_neg z]; exact h.1, by dsimp only; unfold upK; rw [if_neg z]; exact h.2.1, by dsimp only; unfold upK; rw [if_neg z]; exact h.2.2⟩
            · exact Or.inr ⟨v, u, e, h1, h2, h3, by dsimp only; unfold upK; rw [if_neg z]; exact h4, by dsimp only; unfold upK; rw [if_neg z]; exact h5, by dsimp only; unfold upK; rw [if_neg z]; exact h6⟩
/-- what a person's waiting costs -/
def wtN (K : Nat → Int32) (fl : Option (List CLE)) (s : DS) (p : Nat) : Nat := if s.2.1 p = -1 then 1000 else oCs K fl p * (s.2.1 p).toInt.toNat
def wtA (K : Nat → Int32) (fl : Option (List CLE)) (s : DS) (hs : Nat → Int32) : Nat → Nat
  | 0 => 0
  | n + 1 => wtA K fl s hs n + (if hs n = -1 then 0 else wtN K fl s n)
theorem wtN_le {K : Nat → Int32} {fl : Option (List CLE)} {s : DS} {nd p : Nat} (D : DP s nd 6000 p) : wtN K fl s p ≤ 54000 := by
  unfold wtN
  split
  · decide
  · rename_i h
    rcases D with z | ⟨v, u, e, h1, h2, h3, h4, h5, h6⟩
    · exact absurd z.1 h
    · rw [h4, nI_toInt (by omega)]
      have le : oCs K fl p ≤ 9 := tlO_le (by decide) (by decide) (by decide)
      have : oCs K fl p * v ≤ 9 * 6000 := Nat.mul_le_mul le h1
      simpa using this
theorem wtA_le {K : Nat → Int32} {fl : Option (List CLE)} {s : DS} {nd : Nat} {hs : Nat → Int32} (D : ∀ p, DP s nd 6000 p) : ∀ n, wtA K fl s hs n ≤ 54000 * n
  | 0 => Nat.zero_le _
  | n + 1 => by
    rw [wtA]
    have := wtA_le (K := K) (fl := fl) (hs := hs) D n
    have := wtN_le (K := K) (fl := fl) (D n)
    split <;> omega
section Wt
variable (d : Nat) {h : AH} {b : Nat} {K : Nat → Int32} {fl : Option (List CLE)} {np nt nd : Nat}
theorem t_waitOfJ (S : ShOK h) (R : RfOK h) (B : KB K) (J : JS h b K fl) {s : DS} (Y : DY h s) {p : Nat} (hp : p < 6) (D : DP s nd 6000 p) : Rp (d + 3) M_X1_waitOf 0 [some (.ref 46), some (.ref 40), some (.int (nI p))] [] h (fun r h' => Fr jX h h' ∧ JS h' b K fl ∧ r = some (.int (nI (wtN K fl s p)))) := by
  have eb := Y.2.1 p hp
  unfold wtN
  rcases D with z | ⟨v, u, e, h1, h2, h3, h4, h5, h6⟩
  · rw [if_pos z.1]
    rw [z.1] at eb
    refine Rp.aload_n dX1_waitOf_0 rfl rfl ?_
    refine Rp.getR dX1_waitOf_1 fk_X1_18 rfl (S _ _ rfl) (R _ _ _ rfl) ?_
    refine Rp.iload_n dX1_waitOf_4 rfl ?_
    first | ((with_reducible show Rp _ _ _ _ (.int (nI _) :: _) _ _); refine Rp.ialoadN dX1_waitOf_5 (S _ _ rfl) (by omega) ?_) | refine Rp.iaload dX1_waitOf_5 (S _ _ rfl) (by first | assumption | exact vpb (by decide)) ?_
    first | rw [eb] | skip
    refine Rp.iconst (-1) dX1_waitOf_6 (by decide) ?_
    first | ((with_reducible show Rp _ _ _ _ (.int (nI _) :: .int (nI _) :: _) _ _); refine Rp.icmp_neN (tgt := 16) dX1_waitOf_7 (by decide) (by omega) (fun c7 => ?_) (fun c7 => ?_)) | refine Rp.icmp_ne (tgt := 16) dX1_waitOf_7 (by decide) (fun c7 => ?_) (fun c7 => ?_)
    · skip
      exact absurd rfl c7
    · skip
      refine Rp.sipush (nI 1000) dX1_waitOf_10 (by decide +kernel) ?_
      refine Rp.goto (tgt := 28) dX1_waitOf_13 (by decide) ?_
      refine Rp.ireturn dX1_waitOf_28 rfl ?_
      exact ⟨Fr.rfl', J, rfl⟩
  · have om : ¬ nI v = -1 := nI_m1 (by omega)
    rw [h4] at eb ⊢
    rw [if_neg om, nI_toInt (by omega)]
    have le : oCs K fl p ≤ 9 := tlO_le (by decide) (by decide) (by decide)
    have cs := t_costJ d S R J B hp
    refine Rp.aload_n dX1_waitOf_0 rfl rfl ?_
    refine Rp.getR dX1_waitOf_1 fk_X1_18 rfl (S _ _ rfl) (R _ _ _ rfl) ?_
    refine Rp.iload_n dX1_waitOf_4 rfl ?_
    first | ((with_reducible show Rp _ _ _ _ (.int (nI _) :: _) _ _); refine Rp.ialoadN dX1_waitOf_5 (S _ _ rfl) (by omega) ?_) | refine Rp.iaload dX1_waitOf_5 (S _ _ rfl) (by first | assumption | exact vpb (by decide)) ?_
    first | rw [eb] | skip
    refine Rp.iconst (-1) dX1_waitOf_6 (by decide) ?_
    first | ((with_reducible show Rp _ _ _ _ (.int (nI _) :: .int (nI _) :: _) _ _); refine Rp.icmp_neN (tgt := 16) dX1_waitOf_7 (by decide) (by omega) (fun c7 => ?_) (fun c7 => ?_)) | refine Rp.icmp_ne (tgt := 16) dX1_waitOf_7 (by decide) (fun c7 => ?_) (fun c7 => ?_)
    rotate_left
    · exact absurd c7 om
    refine Rp.aload_n dX1_waitOf_16 rfl rfl ?_
    refine Rp.iload_n dX1_waitOf_17 rfl ?_
    refine Rp.callV1 M_X3_cost (ci := 3) dX1_waitOf_18 mo_X3_cost lk_X1_65 (by decide) rfl rfl (S _ _ rfl) (Nat.le_of_ble_eq_true rfl) (Nat.le_of_ble_eq_true rfl) (cs) (fun v1 h1 p1 x1 => ?_)
    obtain ⟨F1, J1, rfl⟩ := p1
    try dsimp only [Option.toList, List.cons_append, List.nil_append, List.append]
    skip
    have S1 := F1.S S
    have R1 := F1.R R (by decide)
    have eb1 : gI h1 49 p = nI v := (F1.I 49 p rfl).trans eb
    refine Rp.aload_n dX1_waitOf_21 rfl rfl ?_
    refine Rp.getR dX1_waitOf_22 fk_X1_18 rfl (S1 _ _ rfl) (R1 _ _ _ rfl) ?_
    refine Rp.iload_n dX1_waitOf_25 rfl ?_
    first | ((with_reducible show Rp _ _ _ _ (.int (nI _) :: _) _ _); refine Rp.ialoadN dX1_waitOf_26 (S1 _ _ rfl) (by omega) ?_) | refine Rp.iaload dX1_waitOf_26 (S1 _ _ rfl) (by first | assumption | exact vpb (by decide)) ?_
    first | rw [eb1] | skip
    first | ((with_reducible show Rp _ _ _ _ (.int (nI _) :: .int (nI _) :: _) _ _); refine Rp.imulN dX1_waitOf_27 ?_) | refine Rp.imul dX1_waitOf_27 ?_
    refine Rp.ireturn dX1_waitOf_28 rfl ?_
    exact ⟨F1, J1, rfl⟩
theorem wait4 (S0 : ShOK h) (R0 : RfOK h) (hb : b ≤ 17) (B : KB K) {s : DS} (Y0 : DY h s) (D : ∀ p, DP s nd 6000 p) (hnp : np ≤ 6) {hs : Nat → Int32} (A0 : HOK h b) (m30 : gI h b 0 = nI np) (m50 : ∀ p, p < 6 → gI h (b + 3) p = hs p) : ∀ (m p : Nat) (g : AH), p + m = np → Fr jX h g → JS g b K fl → Rp (d + 3) M_X1_waitOfAll 4 [some (.ref 46), some (.ref 40), some (.int (nI (wtA K fl s hs p))), some (.int (nI p))] [] g (fun r h' => Fr jX h h' ∧ JS h' b K fl ∧ r = some (.int (nI (wtA K fl s hs np)))) := by
  intro m
  induction m with
  | zero =>
    intro p g hp F J
    have e : p = np := by omega
    subst e
    have S := F.S S0
    have R := F.R R0 (by decide)
    have A := A0.fr F (fun j => jX_b hb (by decide)) (jX_b hb (by decide))
    have m3 : gI g b 0 = nI p := (F.I (b + 0) 0 (jX_b hb (by decide))).trans m30
    have J1 := J.1
    refine Rp.iload_n dX1_waitOfAll_4 rfl ?_
    refine Rp.aload_n dX1_waitOfAll_5 rfl rfl ?_
    refine Rp.getR dX1_waitOfAll_6 fk_X1_36 rfl (S _ _ rfl) J1 ?_
    refine Rp.getI dX1_waitOfAll_9 fk_X1_69 rfl (A.1 0 _ rfl) ?_
    first | rw [m3] | skip
    first | ((with_reducible show Rp _ _ _ _ (.int (nI _) :: .int (nI _) :: _) _ _); refine Rp.icmp_geN (tgt := 65) dX1_waitOfAll_12 (by decide) (by omega) (fun c12 => ?_) (fun c12 => ?_)) | refine Rp.icmp_ge (tgt := 65) dX1_waitOfAll_12 (by decide) (fun c12 => ?_) (fun c12 => ?_)
    · skip
      refine Rp.iload_n dX1_waitOfAll_65 rfl ?_
      refine Rp.ireturn dX1_waitOfAll_66 rfl ?_
      exact ⟨F, J, rfl⟩
    · skip
      first | (exfalso; omega) | exact absurd c12 (by decide) | exact absurd (by decide) c12
  | succ m ih =>
    intro p g hp F J
    have S := F.S S0
    have R := F.R R0 (by decide)
    have A := A0.fr F (fun j => jX_b hb (by decide)) (jX_b hb (by decide))
    have m3 : gI g b 0 = nI np := (F.I (b + 0) 0 (jX_b hb (by decide))).trans m30
    have eh : gI g (b + 3) p = hs p := (F.I _ _ (jX_b hb (by decide))).trans (m50 p (by omega))
    have J1 := J.1
    have Y := Y0.fj F
    have eb := Y.2.1 p (by omega)
    have wl := wtA_le (K := K) (fl := fl) (hs := hs) D p
    have k1 := ih (p + 1)
    rw [wtA] at k1
    by_cases hq : hs p = -1
    · rw [if_pos hq, Nat.add_zero] at k1
      rw [hq] at eh
      have k1 := k1 g (by omega) F J
      refine Rp.iload_n dX1_waitOfAll_4 rfl ?_
      refine Rp.aload_n dX1_waitOfAll_5 rfl rfl ?_
      refine Rp.getR dX1_waitOfAll_6 fk_X1_36 rfl (S _ _ rfl) J1 ?_
      refine Rp.getI dX1_waitOfAll_9 fk_X1_69 rfl (A.1 0 _ rfl) ?_
      first | rw [m3] | rw [eh] | skip
      first | ((with_reducible show Rp _ _ _ _ (.int (nI _) :: .int (nI _) :: _) _ _); refine Rp.icmp_geN (tgt := 65) dX1_waitOfAll_12 (by decide) (by omega) (fun c12 => ?_) (fun c12 => ?_)) | refine Rp.icmp_ge (tgt := 65) dX1_waitOfAll_12 (by decide) (fun c12 => ?_) (fun c12 => ?_)
      · skip
        first | (exfalso; omega) | exact absurd c12 (by decide) | exact absurd (by decide) c12
      · skip
        refine Rp.aload_n dX1_waitOfAll_15 rfl rfl ?_
        refine Rp.getR dX1_waitOfAll_16 fk_X1_36 rfl (S _ _ rfl) J1 ?_
        refine Rp.getR dX1_waitOfAll_19 fk_X1_72 rfl (A.1 0 _ rfl) (A.2 0 3 3 rfl) ?_
        refine Rp.iload_n dX1_waitOfAll_22 rfl ?_
        first | ((with_reducible show Rp _ _ _ _ (.int (nI _) :: _) _ _); refine Rp.ialoadN dX1_waitOfAll_23 (A.1 3 _ rfl) (by omega) ?_) | refine Rp.iaload dX1_waitOfAll_23 (A.1 3 _ rfl) (by first | assumption | exact vpb (by decide)) ?_
        first | rw [m3] | rw [eh] | skip
        refine Rp.iconst (-1) dX1_waitOfAll_24 (by decide) ?_
        first | ((with_reducible show Rp _ _ _ _ (.int (nI _) :: .int (nI _) :: _) _ _); refine Rp.icmp_eqN (tgt := 59) dX1_waitOfAll_25 (by decide) (by omega) (fun c25 => ?_) (fun c25 => ?_)) | refine Rp.icmp_eq (tgt := 59) dX1_waitOfAll_25 (by decide) (fun c25 => ?_) (fun c25 => ?_)
        · skip
          first | ((with_reducible show Rp _ _ _ (_ :: _ :: _ :: some (.int (nI _)) :: _) _ _ _); refine Rp.inc3N (c := 1) dX1_waitOfAll_59 (by first | exact nl2_some rfl | exact nl2_none) (by decide) ?_) | refine Rp.inc3 _ dX1_waitOfAll_59 rfl (by first | exact nl2_some rfl | exact nl2_none) (by decide) ?_
          refine Rp.goto (tgt := 4) dX1_waitOfAll_62 (by decide) ?_
          exact k1
        · skip
          exact absurd rfl c25
    · rw [if_neg hq] at k1
      unfold wtN at k1
      rcases D p with z | ⟨v, u, e, h1, h2, h3, h4, h5, h6⟩
      · rw [if_pos z.1] at k1
        rw [z.1] at eb
        have k1 := k1 g (by omega) F J
        refine Rp.iload_n dX1_waitOfAll_4 rfl ?_
        refine Rp.aload_n dX1_waitOfAll_5 rfl rfl ?_
        refine Rp.getR dX1_waitOfAll_6 fk_X1_36 rfl (S _ _ rfl) J1 ?_
        refine Rp.getI dX1_waitOfAll_9 fk_X1_69 rfl (A.1 0 _ rfl) ?_
        first | rw [m3] | rw [eh] | rw [eb] | skip
        first | ((with_reducible show Rp _ _ _ _ (.int (nI _) :: .int (nI _) :: _) _ _); refine Rp.icmp_geN (tgt := 65) dX1_waitOfAll_12 (by decide) (by omega) (fun c12 => ?_) (fun c12 => ?_)) | refine Rp.icmp_ge (tgt := 65) dX1_waitOfAll_12 (by decide) (fun c12 => ?_) (fun c12 => ?_)
        · skip
          first | (exfalso; omega) | exact absurd c12 (by decide) | exact absurd (by decide) c12
        · skip
          refine Rp.aload_n dX1_waitOfAll_15 rfl rfl ?_
          refine Rp.getR dX1_waitOfAll_16 fk_X1_36 rfl (S _ _ rfl) J1 ?_
          refine Rp.getR dX1_waitOfAll_19 fk_X1_72 rfl (A.1 0 _ rfl) (A.2 0 3 3 rfl) ?_
          refine Rp.iload_n dX1_waitOfAll_22 rfl ?_
          first | ((with_reducible show Rp _ _ _ _ (.int (nI _) :: _) _ _); refine Rp.ialoadN dX1_waitOfAll_23 (A.1 3 _ rfl) (by omega) ?_) | refine Rp.iaload dX1_waitOfAll_23 (A.1 3 _ rfl) (by first | assumption | exact vpb (by decide)) ?_
          first | rw [m3] | rw [eh] | rw [eb] | skip
          refine Rp.iconst (-1) dX1_waitOfAll_24 (by decide) ?_
          first | ((with_reducible show Rp _ _ _ _ (.int (nI _) :: .int (nI _) :: _) _ _); refine Rp.icmp_eqN (tgt := 59) dX1_waitOfAll_25 (by decide) (by omega) (fun c25 => ?_) (fun c25 => ?_)) | refine Rp.icmp_eq (tgt := 59) dX1_waitOfAll_25 (by decide) (fun c25 => ?_) (fun c25 => ?_)
          · skip
            exact absurd c25 hq
          · skip
            refine Rp.iload_n dX1_waitOfAll_28 rfl ?_
            refine Rp.aload_n dX1_waitOfAll_29 rfl rfl ?_
            refine Rp.getR dX1_waitOfAll_30 fk_X1_18 rfl (S _ _ rfl) (R _ _ _ rfl) ?_
            refine Rp.iload_n dX1_waitOfAll_33 rfl ?_
            first | ((with_reducible show Rp _ _ _ _ (.int (nI _) :: _) _ _); refine Rp.ialoadN dX1_waitOfAll_34 (S _ _ rfl) (by omega) ?_) | refine Rp.iaload dX1_waitOfAll_34 (S _ _ rfl) (by first | assumption | exact vpb (by decide)) ?_
            first | rw [m3] | rw [eh] | rw [eb] | skip
            refine Rp.iconst (-1) dX1_waitOfAll_35 (by decide) ?_
            first | ((with_reducible show Rp _ _ _ _ (.int (nI _) :: .int (nI _) :: _) _ _); refine Rp.icmp_neN (tgt := 45) dX1_waitOfAll_36 (by decide) (by omega) (fun c36 => ?_) (fun c36 => ?_)) | refine Rp.icmp_ne (tgt := 45) dX1_waitOfAll_36 (by decide) (fun c36 => ?_) (fun c36 => ?_)
            · skip
              exact absurd rfl c36
            · skip
              refine Rp.sipush (nI 1000) dX1_waitOfAll_39 (by decide +kernel) ?_
              refine Rp.goto (tgt := 57) dX1_waitOfAll_42 (by decide) ?_
              first | ((with_reducible show Rp _ _ _ _ (.int (nI _) :: .int (nI _) :: _) _ _); refine Rp.iaddN dX1_waitOfAll_57 ?_) | refine Rp.iadd dX1_waitOfAll_57 ?_
              refine Rp.ist2 dX1_waitOfAll_58 (by first | exact nl2_some rfl | exact nl2_none) (by decide) ?_
              first | ((with_reducible show Rp _ _ _ (_ :: _ :: _ :: some (.int (nI _)) :: _) _ _ _); refine Rp.inc3N (c := 1) dX1_waitOfAll_59 (by first | exact nl2_some rfl | exact nl2_none) (by decide) ?_) | refine Rp.inc3 _ dX1_waitOfAll_59 rfl (by first | exact nl2_some rfl | exact nl2_none) (by decide) ?_
              refine Rp.goto (tgt := 4) dX1_waitOfAll_62 (by decide) ?_
              exact k1
      · have om : ¬ nI v = -1 := nI_m1 (by omega)
        rw [h4, if_neg om, nI_toInt (by omega)] at k1
        rw [h4] at eb
        have le : oCs K fl p ≤ 9 := tlO_le (by decide) (by decide) (by decide)
        have cs := t_costJ d S R J B (p := p) (by omega)
        refine Rp.iload_n dX1_waitOfAll_4 rfl ?_
        refine Rp.aload_n dX1_waitOfAll_5 rfl rfl ?_
        refine Rp.getR dX1_waitOfAll_6 fk_X1_36 rfl (S _ _ rfl) J1 ?_
        refine Rp.getI dX1_waitOfAll_9 fk_X1_69 rfl (A.1 0 _ rfl) ?_
        first | rw [m3] | rw [eh] | rw [eb] | skip
        first | ((with_reducible show Rp _ _ _ _ (.int (nI _) :: .int (nI _) :: _) _ _); refine Rp.icmp_geN (tgt := 65) dX1_waitOfAll_12 (by decide) (by omega) (fun c12 => ?_) (fun c12 => ?_)) | refine Rp.icmp_ge (tgt := 65) dX1_waitOfAll_12 (by decide) (fun c12 => ?_) (fun c12 => ?_)
        · first | (exfalso; omega) | exact absurd c12 (by decide) | exact absurd (by decide) c12
        refine Rp.aload_n dX1_waitOfAll_15 rfl rfl ?_
        refine Rp.getR dX1_waitOfAll_16 fk_X1_36 rfl (S _ _ rfl) J1 ?_
        refine Rp.getR dX1_waitOfAll_19 fk_X1_72 rfl (A.1 0 _ rfl) (A.2 0 3 3 rfl) ?_
        refine Rp.iload_n dX1_waitOfAll_22 rfl ?_
        first | ((with_reducible show Rp _ _ _ _ (.int (nI _) :: _) _ _); refine Rp.ialoadN dX1_waitOfAll_23 (A.1 3 _ rfl) (by omega) ?_) | refine Rp.iaload dX1_waitOfAll_23 (A.1 3 _ rfl) (by first | assumption | exact vpb (by decide)) ?_
        first | rw [m3] | rw [eh] | rw [eb] | skip
        refine Rp.iconst (-1) dX1_waitOfAll_24 (by decide) ?_
        first | ((with_reducible show Rp _ _ _ _ (.int (nI _) :: .int (nI _) :: _) _ _); refine Rp.icmp_eqN (tgt := 59) dX1_waitOfAll_25 (by decide) (by omega) (fun c25 => ?_) (fun c25 => ?_)) | refine Rp.icmp_eq (tgt := 59) dX1_waitOfAll_25 (by decide) (fun c25 => ?_) (fun c25 => ?_)
        · exact absurd c25 hq
        refine Rp.iload_n dX1_waitOfAll_28 rfl ?_
        refine Rp.aload_n dX1_waitOfAll_29 rfl rfl ?_
        refine Rp.getR dX1_waitOfAll_30 fk_X1_18 rfl (S _ _ rfl) (R _ _ _ rfl) ?_
        refine Rp.iload_n dX1_waitOfAll_33 rfl ?_
        first | ((with_reducible show Rp _ _ _ _ (.int (nI _) :: _) _ _); refine Rp.ialoadN dX1_waitOfAll_34 (S _ _ rfl) (by omega) ?_) | refine Rp.iaload dX1_waitOfAll_34 (S _ _ rfl) (by first | assumption | exact vpb (by decide)) ?_
        first | rw [m3] | rw [eh] | rw [eb] | skip
        refine Rp.iconst (-1) dX1_waitOfAll_35 (by decide) ?_
        first | ((with_reducible show Rp _ _ _ _ (.int (nI _) :: .int (nI _) :: _) _ _); refine Rp.icmp_neN (tgt := 45) dX1_waitOfAll_36 (by decide) (by omega) (fun c36 => ?_) (fun c36 => ?_)) | refine Rp.icmp_ne (tgt := 45) dX1_waitOfAll_36 (by decide) (fun c36 => ?_) (fun c36 => ?_)
        rotate_left
        · exact absurd c36 om
        refine Rp.aload_n dX1_waitOfAll_45 rfl rfl ?_
        refine Rp.iload_n dX1_waitOfAll_46 rfl ?_
        refine Rp.callV1 M_X3_cost (ci := 3) dX1_waitOfAll_47 mo_X3_cost lk_X1_65 (by decide) rfl rfl (S _ _ rfl) (Nat.le_of_ble_eq_true rfl) (Nat.le_of_ble_eq_true rfl) (cs) (fun v1 h1 p1 x1 => ?_)
        obtain ⟨F1, J2, rfl⟩ := p1
        try dsimp only [Option.toList, List.cons_append, List.nil_append, List.append]
        skip
        have S1 := F1.S S
        have R1 := F1.R R (by decide)
        have eb1 : gI h1 49 p = nI v := (F1.I 49 p rfl).trans eb
        have k1 := k1 h1 (by omega) (F.trans F1) J2
        refine Rp.aload_n dX1_waitOfAll_50 rfl rfl ?_
        refine Rp.getR dX1_waitOfAll_51 fk_X1_18 rfl (S1 _ _ rfl) (R1 _ _ _ rfl) ?_
        refine Rp.iload_n dX1_waitOfAll_54 rfl ?_
        first | ((with_reducible show Rp _ _ _ _ (.int (nI _) :: _) _ _); refine Rp.ialoadN dX1_waitOfAll_55 (S1 _ _ rfl) (by omega) ?_) | refine Rp.iaload dX1_waitOfAll_55 (S1 _ _ rfl) (by first | assumption | exact vpb (by decide)) ?_
        first | rw [eb1] | skip
        first | ((with_reducible show Rp _ _ _ _ (.int (nI _) :: .int (nI _) :: _) _ _); refine Rp.imulN dX1_waitOfAll_56 ?_) | refine Rp.imul dX1_waitOfAll_56 ?_
        first | ((with_reducible show Rp _ _ _ _ (.int (nI _) :: .int (nI _) :: _) _ _); refine Rp.iaddN dX1_waitOfAll_57 ?_) | refine Rp.iadd dX1_waitOfAll_57 ?_
        refine Rp.ist2 dX1_waitOfAll_58 (by first | exact nl2_some rfl | exact nl2_none) (by decide) ?_
        first | ((with_reducible show Rp _ _ _ (_ :: _ :: _ :: some (.int (nI _)) :: _) _ _ _); refine Rp.inc3N (c := 1) dX1_waitOfAll_59 (by first | exact nl2_some rfl | exact nl2_none) (by decide) ?_) | refine Rp.inc3 _ dX1_waitOfAll_59 rfl (by first | exact nl2_some rfl | exact nl2_none) (by decide) ?_
        refine Rp.goto (tgt := 4) dX1_waitOfAll_62 (by decide) ?_
        exact k1
theorem t_waitOfAllJ (S : ShOK h) (R : RfOK h) (hb : b ≤ 17) (B : KB K) (J : JS h b K fl) {s : DS} (Y : DY h s) (D : ∀ p, DP s nd 6000 p) (hnp : np ≤ 6) {hs : Nat → Int32} (A : HOK h b) (m3 : gI h b 0 = nI np) (m5 : ∀ p, p < 6 → gI h (b + 3) p = hs p) : Rp (d + 3) M_X1_waitOfAll 0 [some (.ref 46), some (.ref 40), none, none] [] h (fun r h' => Fr jX h h' ∧ JS h' b K fl ∧ r = some (.int (nI (wtA K fl s hs np)))) := by
  have k1 := wait4 d S R hb B Y D hnp (hs := hs) A m3 m5 np 0 h (by omega) Fr.rfl' J
  refine Rp.iconst (nI 0) dX1_waitOfAll_0 (by decide) ?_
  refine Rp.ist2 dX1_waitOfAll_1 (by first | exact nl2_some rfl | exact nl2_none) (by decide) ?_
  refine Rp.iconst (nI 0) dX1_waitOfAll_2 (by decide) ?_
  refine Rp.ist3 dX1_waitOfAll_3 (by first | exact nl2_some rfl | exact nl2_none) (by decide) ?_
  exact k1
end Wt
