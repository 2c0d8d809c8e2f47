def jX (k j : Nat) : Bool := k == 42 || (k == 43 && decide (j < 9)) || (k == 44 && decide (j < 246))
/-- what the judge remembers is so -/
def KN (h : AH) (K : Nat → Int32) (fl : Option (List CLE)) : Prop := (∀ p t e, p < 6 → t < 8 → e < 3 → gI h 44 ((p * 8 + t) * 3 + e) = -1 ∨ gI h 44 ((p * 8 + t) * 3 + e) = nI (oTk K fl p t e)) ∧ (∀ p t, p < 6 → t < 8 → gI h 44 (144 + p * 8 + t) = -1 ∨ gI h 44 (144 + p * 8 + t) = b2i (oFt K fl p t)) ∧ (∀ p t, p < 6 → t < 8 → gI h 44 (192 + p * 8 + t) = -1 ∨ gI h 44 (192 + p * 8 + t) = b2i (oBr K fl p t)) ∧ (∀ p, p < 6 → gI h 44 (240 + p) = -1 ∨ gI h 44 (240 + p) = nI (oCs K fl p))
def JS (h : AH) (b : Nat) (K : Nat → Int32) (fl : Option (List CLE)) : Prop := gR h 40 3 = some b ∧ JL h fl ∧ HJ h b K ∧ (∀ j, 9 ≤ j → gI h 43 j = 0) ∧ KN h K fl
theorem jX_w {h g : AH} (F : Fr wX h g) : Fr jX h g := F.weak (fun k j hx => by
  unfold jX at hx; unfold wX
  rw [Bool.or_eq_false_iff, Bool.or_eq_false_iff] at hx
  exact hx.1.2)
theorem jX_m {h g : AH} (F : Fr mX h g) : Fr jX h g := F.weak (fun k j hx => by
  unfold jX at hx; unfold mX
  rw [Bool.or_eq_false_iff, Bool.or_eq_false_iff] at hx
  exact hx.1.1)
theorem jX_lt {k j : Nat} (h : k < 42) : jX k j = false := by
  unfold jX
  rw [show (k == 42) = false from beq_eq_false_iff_ne.mpr (by omega), show (k == 43) = false from beq_eq_false_iff_ne.mpr (by omega), show (k == 44) = false from beq_eq_false_iff_ne.mpr (by omega)]; rfl
theorem jX_T {k j : Nat} (h : okT k) : jX k j = false := by
  unfold jX
  rw [show (k == 42) = false from beq_eq_false_iff_ne.mpr (okT_ne h (by decide) (by decide) (by decide) (by decide)), show (k == 43) = false from beq_eq_false_iff_ne.mpr (okT_ne h (by decide) (by decide) (by decide) (by decide)), show (k == 44) = false from beq_eq_false_iff_ne.mpr (okT_ne h (by decide) (by decide) (by decide) (by decide))]; rfl
theorem JL.fr {X : Nat → Nat → Bool} {h g : AH} {fl : Option (List CLE)} (J : JL h fl) (F : Fr X h g) (hx : ∀ k j, okT k → X k j = false) (h4 : X 40 4 = false) : JL g fl := by
  match fl, J with
  | none, J => exact (F.Rr 40 4 h4).trans J
  | some LS, J =>
    obtain ⟨tx, kh, kc, nh, nc, hl, T⟩ := J
    exact ⟨tx, kh, kc, nh, nc, (F.Rr 40 4 h4).trans hl, T.fr F hx⟩
/-- what was asked changes nothing but the judge's own rows -/
theorem JS.fr {h g : AH} {b : Nat} {K : Nat → Int32} {fl : Option (List CLE)} (J : JS h b K fl) (F : Fr jX h g) (hK : KN g K fl) : JS g b K fl := ⟨(F.Rr 40 3 rfl).trans J.1, J.2.1.fr F (fun k j o => jX_T o) rfl, J.2.2.1.fr F (fun k j hk => jX_lt (by omega)), fun j hj => (F.I 43 j (by unfold jX; rw [decide_eq_false (show ¬ j < 9 by omega)]; rfl)).trans (J.2.2.2.1 j hj), hK⟩
theorem wS_b {K : Nat → Int32} (B : KB K) {p : Nat} (hp : p < 6) {t : Option Nat} (ht : ∀ x, t = some x → x < 8) {sp : Int32} (hs : -1000000000 ≤ sp.toInt ∧ sp.toInt ≤ 1000000000) (j : Nat) : -1000000000 ≤ (wS K p t sp j).toInt ∧ (wS K p t sp j).toInt ≤ 1000000000 := by
  unfold wS
  by_cases z : j = 6
  · rw [if_pos z]; exact hs
  · rw [if_neg z]; exact wJ_bnd B hp ht sn j
theorem wS_n (K : Nat → Int32) (p : Nat) (t : Option Nat) : wS K p t (-1) = wJ K p t none := by
  funext j; unfold wS
  by_cases z : j = 6
  · rw [if_pos z, z]; rfl
  · rw [if_neg z]
theorem wS_e (K : Nat → Int32) (p : Nat) (t : Option Nat) (e : Nat) : wS K p t (K (86 + e)) = wJ K p t (some e) := by
  funext j; unfold wS
  by_cases z : j = 6
  · rw [if_pos z, z]; rfl
  · rw [if_neg z]
    match j, z with
    | 0, _ | 1, _ | 2, _ | 3, _ | 4, _ | 5, _ | 7, _ | 8, _ => rfl
    | 6, z => exact absurd rfl z
    | j + 9, _ => rfl
section Ask
variable (d : Nat) {h : AH} {b : Nat} {K : Nat → Int32} {fl : Option (List CLE)}
theorem t_isBarredJ (S : ShOK h) (R : RfOK h) (J : JS h b K fl) (B : KB K) {p t : Nat} (hp : p < 6) (ht : t < 8) : Rp (d + 2) M_X3_isBarred 0 [some (.ref 40), some (.int (nI p)), some (.int (nI t)), none] [] h (fun r h' => Fr jX h h' ∧ JS h' b K fl ∧ r = some (.int (b2i (oBr K fl p t)))) := by
  obtain ⟨J1, J2, J3, J4, k1, k2, k3, k4⟩ := J
  have J : JS h b K fl := ⟨J1, J2, J3, J4, k1, k2, k3, k4⟩
  have hc := k3 p t hp ht
  by_cases hq : gI h 44 (192 + p * 8 + t) = -1
  · have sk := t_speak (d + 1) S R J3 J1 hp (sm8 ht) (-1) J4
    rw [wS_n] at sk
    refine Rp.sipush (nI 192) dX3_isBarred_0 (by decide) ?_
    refine Rp.iload_n dX3_isBarred_3 rfl ?_
    refine Rp.bipush (nI 8) dX3_isBarred_4 (by decide) ?_
    first | ((with_reducible show Rp _ _ _ _ (.int (nI _) :: .int (nI _) :: _) _ _); refine Rp.imulN dX3_isBarred_6 ?_) | refine Rp.imul dX3_isBarred_6 ?_
    first | ((with_reducible show Rp _ _ _ _ (.int (nI _) :: .int (nI _) :: _) _ _); refine Rp.iaddN dX3_isBarred_7 ?_) | refine Rp.iadd dX3_isBarred_7 ?_
    refine Rp.iload_n dX3_isBarred_8 rfl ?_
    first | ((with_reducible show Rp _ _ _ _ (.int (nI _) :: .int (nI _) :: _) _ _); refine Rp.iaddN dX3_isBarred_9 ?_) | refine Rp.iadd dX3_isBarred_9 ?_
    refine Rp.ist3 dX3_isBarred_10 (by first | exact nl2_some rfl | exact nl2_none) (by decide) ?_
    refine Rp.aload_n dX3_isBarred_11 rfl rfl ?_
    refine Rp.getR dX3_isBarred_12 fk_X3_22 rfl (S _ _ rfl) (R _ _ _ rfl) ?_
    refine Rp.iload_n dX3_isBarred_15 rfl ?_
    first | ((with_reducible show Rp _ _ _ _ (.int (nI _) :: _) _ _); refine Rp.ialoadN dX3_isBarred_16 (S _ _ rfl) (by omega) ?_) | refine Rp.iaload dX3_isBarred_16 (S _ _ rfl) (by first | assumption | exact vpb (by decide)) ?_
    first | rw [hq] | skip
    refine Rp.iconst (-1) dX3_isBarred_17 (by decide) ?_
    first | ((with_reducible show Rp _ _ _ _ (.int (nI _) :: .int (nI _) :: _) _ _); refine Rp.icmp_neN (tgt := 47) dX3_isBarred_18 (by decide) (by omega) (fun c18 => ?_) (fun c18 => ?_)) | refine Rp.icmp_ne (tgt := 47) dX3_isBarred_18 (by decide) (fun c18 => ?_) (fun c18 => ?_)
    · exact absurd rfl c18
    refine Rp.aload_n dX3_isBarred_21 rfl rfl ?_
    refine Rp.iload_n dX3_isBarred_22 rfl ?_
    refine Rp.iload_n dX3_isBarred_23 rfl ?_
    refine Rp.iconst (-1) dX3_isBarred_24 (by decide) ?_
    refine Rp.callV3 M_X3_speakOf (ci := 3) dX3_isBarred_25 mo_X3_speakOf lk_X3_50 (by decide) rfl rfl (S _ _ rfl) (Nat.le_of_ble_eq_true rfl) (Nat.le_of_ble_eq_true rfl) (sk) (fun v1 h1 p1 x1 => ?_)
    obtain ⟨rfl, F1, w1⟩ := p1
    try dsimp only [Option.toList, List.cons_append, List.nil_append, List.append]
    skip
    have S1 := F1.S S
    have R1 := F1.R R (by decide)
    have JL1 := J2.fr F1 (fun k j o => by unfold wX; rw [show (k == 43) = false from beq_eq_false_iff_ne.mpr (okT_ne o (by decide) (by decide) (by decide) (by decide))]; rfl) rfl
    have an := t_any d S1 R1 JL1 w1 (fun j _ => wJ_bnd B hp (sm8 ht) sn j) (vb := 3) (by decide)
    rw [← tlO_an JL1 (by decide)] at an
    refine Rp.aload_n dX3_isBarred_28 rfl rfl ?_
    refine Rp.getR dX3_isBarred_29 fk_X3_22 rfl (S1 _ _ rfl) (R1 _ _ _ rfl) ?_
    refine Rp.iload_n dX3_isBarred_32 rfl ?_
    refine Rp.aload_n dX3_isBarred_33 rfl rfl ?_
    refine Rp.iconst (nI 3) dX3_isBarred_34 (by decide) ?_
    refine Rp.callV1 M_X3_anyHolds (ci := 3) dX3_isBarred_35 mo_X3_anyHolds lk_X3_68 (by decide) rfl rfl (S1 _ _ rfl) (Nat.le_of_ble_eq_true rfl) (Nat.le_of_ble_eq_true rfl) (an) (fun v1 h1 p1 x1 => ?_)
    obtain ⟨F2, rfl⟩ := p1
    try dsimp only [Option.toList, List.cons_append, List.nil_append, List.append]
    skip
    have S2 := F2.S S1
    have R2 := F2.R R1 (by decide)
    have F3 := (jX_w F1).trans (jX_m F2)
    have fin : ∀ x : Int32, x = b2i (oBr K fl p t) → Rp (d + 2) M_X3_isBarred 46 [some (.ref 40), some (.int (nI p)), some (.int (nI t)), some (.int (nI (192 + p * 8 + t)))] [.int x, .int (nI (192 + p * 8 + t)), .ref 44] h1 (fun r h' => Fr jX h h' ∧ JS h' b K fl ∧ r = some (.int (b2i (oBr K fl p t)))) := by
      intro x hx
      subst hx
      have e1 : gI (sI h1 44 (192 + p * 8 + t) (b2i (oBr K fl p t))) 44 (192 + p * 8 + t) = b2i (oBr K fl p t) := gI_hit _ _ _ _
      have F4 : Fr jX h (sI h1 44 (192 + p * 8 + t) (b2i (oBr K fl p t))) := F3.sI (by unfold jX; rw [decide_eq_true (show 192 + p * 8 + t < 246 by omega)]; rfl)
      have o : ∀ j, j ≠ 192 + p * 8 + t → gI (sI h1 44 (192 + p * 8 + t) (b2i (oBr K fl p t))) 44 j = gI h 44 j := fun j hj => by rw [gI_off _ _ _ hj, F2.I 44 j rfl, F1.I 44 j rfl]
      have KN1 : KN (sI h1 44 (192 + p * 8 + t) (b2i (oBr K fl p t))) K fl := by
        refine ⟨fun p' t' e' h1 h2 h3 => by rw [o _ (by omega)]; exact k1 p' t' e' h1 h2 h3, fun p' t' h1 h2 => by rw [o _ (by omega)]; exact k2 p' t' h1 h2, fun p' t' h1 h2 => ?_, fun p' h1 => by rw [o _ (by omega)]; exact k4 p' h1⟩
        by_cases z : 192 + p' * 8 + t' = 192 + p * 8 + t
        · rw [z, e1]
          have : p' = p ∧ t' = t := by omega
          rw [this.1, this.2]; exact Or.inr rfl
        · rw [o _ z]; exact k3 p' t' h1 h2
      have J5 := J.fr F4 KN1
      cases hv : oBr K fl p t
      · rw [hv] at e1 F4 J5
        rw [show b2i false = nI 0 from rfl] at e1 F4 J5 ⊢
        first | ((with_reducible show Rp _ _ _ _ (_ :: .int (nI _) :: _) _ _); refine Rp.iastoreN dX3_isBarred_46 (S2 _ _ rfl) (by omega) ?_) | refine Rp.iastore dX3_isBarred_46 (S2 _ _ rfl) (by first | assumption | exact vpb (by decide)) ?_
        refine Rp.aload_n dX3_isBarred_47 rfl rfl ?_
        refine Rp.getR dX3_isBarred_48 fk_X3_22 rfl (S2 _ _ rfl) (R2 _ _ _ rfl) ?_
        refine Rp.iload_n dX3_isBarred_51 rfl ?_
        first | ((with_reducible show Rp _ _ _ _ (.int (nI _) :: _) _ _); refine Rp.ialoadN dX3_isBarred_52 (S2 _ _ rfl) (by omega) ?_) | refine Rp.iaload dX3_isBarred_52 (S2 _ _ rfl) (by first | assumption | exact vpb (by decide)) ?_
        first | rw [e1] | skip
        refine Rp.iconst (nI 1) dX3_isBarred_53 (by decide) ?_
        first | ((with_reducible show Rp _ _ _ _ (.int (nI _) :: .int (nI _) :: _) _ _); refine Rp.icmp_neN (tgt := 61) dX3_isBarred_54 (by decide) (by omega) (fun c54 => ?_) (fun c54 => ?_)) | refine Rp.icmp_ne (tgt := 61) dX3_isBarred_54 (by decide) (fun c54 => ?_) (fun c54 => ?_)
        · skip
          refine Rp.iconst (nI 0) dX3_isBarred_61 (by decide) ?_
          refine Rp.zreturn dX3_isBarred_62 rfl (Or.inl rfl) ?_
          exact ⟨F4, J5, rfl⟩
        · skip
          first | (exfalso; omega) | exact absurd c54 (by decide) | exact absurd (by decide) c54
      · rw [hv] at e1 F4 J5
        rw [show b2i true = nI 1 from rfl] at e1 F4 J5 ⊢
        first | ((with_reducible show Rp _ _ _ _ (_ :: .int (nI _) :: _) _ _); refine Rp.iastoreN dX3_isBarred_46 (S2 _ _ rfl) (by omega) ?_) | refine Rp.iastore dX3_isBarred_46 (S2 _ _ rfl) (by first | assumption | exact vpb (by decide)) ?_
        refine Rp.aload_n dX3_isBarred_47 rfl rfl ?_
        refine Rp.getR dX3_isBarred_48 fk_X3_22 rfl (S2 _ _ rfl) (R2 _ _ _ rfl) ?_
        refine Rp.iload_n dX3_isBarred_51 rfl ?_
        first | ((with_reducible show Rp _ _ _ _ (.int (nI _) :: _) _ _); refine Rp.ialoadN dX3_isBarred_52 (S2 _ _ rfl) (by omega) ?_) | refine Rp.iaload dX3_isBarred_52 (S2 _ _ rfl) (by first | assumption | exact vpb (by decide)) ?_
        first | rw [e1] | skip
        refine Rp.iconst (nI 1) dX3_isBarred_53 (by decide) ?_
        first | ((with_reducible show Rp _ _ _ _ (.int (nI _) :: .int (nI _) :: _) _ _); refine Rp.icmp_neN (tgt := 61) dX3_isBarred_54 (by decide) (by omega) (fun c54 => ?_) (fun c54 => ?_)) | refine Rp.icmp_ne (tgt := 61) dX3_isBarred_54 (by decide) (fun c54 => ?_) (fun c54 => ?_)
        · skip
          first | (exfalso; omega) | exact absurd c54 (by decide) | exact absurd (by decide) c54
        · skip
          refine Rp.iconst (nI 1) dX3_isBarred_57 (by decide) ?_
          refine Rp.goto (tgt := 62) dX3_isBarred_58 (by decide) ?_
          refine Rp.zreturn dX3_isBarred_62 rfl (Or.inr rfl) ?_
          exact ⟨F4, J5, rfl⟩
    have hv : decide (tlO fl (3 + 1) 0 1 (wJ K p (some t) none) 0 = 1) = oBr K fl p t := rfl
    rw [hv]
    cases hv2 : oBr K fl p t
    · have f1 := fin (nI 0) (by rw [hv2]; rfl)
      rw [hv2] at f1
      first | ((with_reducible show Rp _ _ _ _ (.int (b2i _) :: _) _ _); refine Rp.if_eqB (tgt := 45) dX3_isBarred_38 (by decide) (fun c38 => ?_) (fun c38 => ?_)) | ((with_reducible show Rp _ _ _ _ (.int (nI _) :: _) _ _); refine Rp.if_eqN (tgt := 45) dX3_isBarred_38 (by decide) (by omega) (fun c38 => ?_) (fun c38 => ?_)) | refine Rp.if_eq (tgt := 45) dX3_isBarred_38 (by decide) (fun c38 => ?_) (fun c38 => ?_)
      · skip
        refine Rp.iconst (nI 0) dX3_isBarred_45 (by decide) ?_
        exact f1
      · skip
        first | (exfalso; omega) | exact absurd c38 (by decide) | exact absurd (by decide) c38
    · have f1 := fin (nI 1) (by rw [hv2]; rfl)
      rw [hv2] at f1
      first | ((with_reducible show Rp _ _ _ _ (.int (b2i _) :: _) _ _); refine Rp.if_eqB (tgt := 45) dX3_isBarred_38 (by decide) (fun c38 => ?_) (fun c38 => ?_)) | ((with_reducible show Rp _ _ _ _ (.int (nI _) :: _) _ _); refine Rp.if_eqN (tgt := 45) dX3_isBarred_38 (by decide) (by omega) (fun c38 => ?_) (fun c38 => ?_)) | refine Rp.if_eq (tgt := 45) dX3_isBarred_38 (by decide) (fun c38 => ?_) (fun c38 => ?_)
      · skip
        cases c38
      · skip
        refine Rp.iconst (nI 1) dX3_isBarred_41 (by decide) ?_
        refine Rp.goto (tgt := 46) dX3_isBarred_42 (by decide) ?_
        exact f1
  · have hv := hc.resolve_left hq
    cases hv2 : oBr K fl p t
    · rw [hv2, show b2i false = nI 0 from rfl] at hv
      refine Rp.sipush (nI 192) dX3_isBarred_0 (by decide) ?_
      refine Rp.iload_n dX3_isBarred_3 rfl ?_
      refine Rp.bipush (nI 8) dX3_isBarred_4 (by decide) ?_
      first | ((with_reducible show Rp _ _ _ _ (.int (nI _) :: .int (nI _) :: _) _ _); refine Rp.imulN dX3_isBarred_6 ?_) | refine Rp.imul dX3_isBarred_6 ?_
      first | ((with_reducible show Rp _ _ _ _ (.int (nI _) :: .int (nI _) :: _) _ _); refine Rp.iaddN dX3_isBarred_7 ?_) | refine Rp.iadd dX3_isBarred_7 ?_
      refine Rp.iload_n dX3_isBarred_8 rfl ?_
      first | ((with_reducible show Rp _ _ _ _ (.int (nI _) :: .int (nI _) :: _) _ _); refine Rp.iaddN dX3_isBarred_9 ?_) | refine Rp.iadd dX3_isBarred_9 ?_
      refine Rp.ist3 dX3_isBarred_10 (by first | exact nl2_some rfl | exact nl2_none) (by decide) ?_
      refine Rp.aload_n dX3_isBarred_11 rfl rfl ?_
      refine Rp.getR dX3_isBarred_12 fk_X3_22 rfl (S _ _ rfl) (R _ _ _ rfl) ?_
      refine Rp.iload_n dX3_isBarred_15 rfl ?_
      first | ((with_reducible show Rp _ _ _ _ (.int (nI _) :: _) _ _); refine Rp.ialoadN dX3_isBarred_16 (S _ _ rfl) (by omega) ?_) | refine Rp.iaload dX3_isBarred_16 (S _ _ rfl) (by first | assumption | exact vpb (by decide)) ?_
      first | rw [hv] | skip
      refine Rp.iconst (-1) dX3_isBarred_17 (by decide) ?_
      first | ((with_reducible show Rp _ _ _ _ (.int (nI _) :: .int (nI _) :: _) _ _); refine Rp.icmp_neN (tgt := 47) dX3_isBarred_18 (by decide) (by omega) (fun c18 => ?_) (fun c18 => ?_)) | refine Rp.icmp_ne (tgt := 47) dX3_isBarred_18 (by decide) (fun c18 => ?_) (fun c18 => ?_)
      · skip
        refine Rp.aload_n dX3_isBarred_47 rfl rfl ?_
        refine Rp.getR dX3_isBarred_48 fk_X3_22 rfl (S _ _ rfl) (R _ _ _ rfl) ?_
        refine Rp.iload_n dX3_isBarred_51 rfl ?_
        first | ((with_reducible show Rp _ _ _ _ (.int (nI _) :: _) _ _); refine Rp.ialoadN dX3_isBarred_52 (S _ _ rfl) (by omega) ?_) | refine Rp.iaload dX3_isBarred_52 (S _ _ rfl) (by first | assumption | exact vpb (by decide)) ?_
        first | rw [hv] | skip
        refine Rp.iconst (nI 1) dX3_isBarred_53 (by decide) ?_
        first | ((with_reducible show Rp _ _ _ _ (.int (nI _) :: .int (nI _) :: _) _ _); refine Rp.icmp_neN (tgt := 61) dX3_isBarred_54 (by decide) (by omega) (fun c54 => ?_) (fun c54 => ?_)) | refine Rp.icmp_ne (tgt := 61) dX3_isBarred_54 (by decide) (fun c54 => ?_) (fun c54 => ?_)
        · skip
          refine Rp.iconst (nI 0) dX3_isBarred_61 (by decide) ?_
          refine Rp.zreturn dX3_isBarred_62 rfl (Or.inl rfl) ?_
          exact ⟨Fr.rfl', J, rfl⟩
        · skip
          first | (exfalso; omega) | exact absurd c54 (by decide) | exact absurd (by decide) c54
      · skip
        exact absurd c18 (by decide)
    · rw [hv2, show b2i true = nI 1 from rfl] at hv
      refine Rp.sipush (nI 192) dX3_isBarred_0 (by decide) ?_
      refine Rp.iload_n dX3_isBarred_3 rfl ?_
      refine Rp.bipush (nI 8) dX3_isBarred_4 (by decide) ?_
      first | ((with_reducible show Rp _ _ _ _ (.int (nI _) :: .int (nI _) :: _) _ _); refine Rp.imulN dX3_isBarred_6 ?_) | refine Rp.imul dX3_isBarred_6 ?_
      first | ((with_reducible show Rp _ _ _ _ (.int (nI _) :: .int (nI _) :: _) _ _); refine Rp.iaddN dX3_isBarred_7 ?_) | refine Rp.iadd dX3_isBarred_7 ?_
      refine Rp.iload_n dX3_isBarred_8 rfl ?_
      first | ((with_reducible show Rp _ _ _ _ (.int (nI _) :: .int (nI _) :: _) _ _); refine Rp.iaddN dX3_isBarred_9 ?_) | refine Rp.iadd dX3_isBarred_9 ?_
      refine Rp.ist3 dX3_isBarred_10 (by first | exact nl2_some rfl | exact nl2_none) (by decide) ?_
      refine Rp.aload_n dX3_isBarred_11 rfl rfl ?_
      refine Rp.getR dX3_isBarred_12 fk_X3_22 rfl (S _ _ rfl) (R _ _ _ rfl) ?_
      refine Rp.iload_n dX3_isBarred_15 rfl ?_
      first | ((with_reducible show Rp _ _ _ _ (.int (nI _) :: _) _ _); refine Rp.ialoadN dX3_isBarred_16 (S _ _ rfl) (by omega) ?_) | refine Rp.iaload dX3_isBarred_16 (S _ _ rfl) (by first | assumption | exact vpb (by decide)) ?_
      first | rw [hv] | skip
      refine Rp.iconst (-1) dX3_isBarred_17 (by decide) ?_
      first | ((with_reducible show Rp _ _ _ _ (.int (nI _) :: .int (nI _) :: _) _ _); refine Rp.icmp_neN (tgt := 47) dX3_isBarred_18 (by decide) (by omega) (fun c18 => ?_) (fun c18 => ?_)) | refine Rp.icmp_ne (tgt := 47) dX3_isBarred_18 (by decide) (fun c18 => ?_) (fun c18 => ?_)
      · skip
        refine Rp.aload_n dX3_isBarred_47 rfl rfl ?_
        refine Rp.getR dX3_isBarred_48 fk_X3_22 rfl (S _ _ rfl) (R _ _ _ rfl) ?_
        refine Rp.iload_n dX3_isBarred_51 rfl ?_
        first | ((with_reducible show Rp _ _ _ _ (.int (nI _) :: _) _ _); refine Rp.ialoadN dX3_isBarred_52 (S _ _ rfl) (by omega) ?_) | refine Rp.iaload dX3_isBarred_52 (S _ _ rfl) (by first | assumption | exact vpb (by decide)) ?_
        first | rw [hv] | skip
        refine Rp.iconst (nI 1) dX3_isBarred_53 (by decide) ?_
        first | ((with_reducible show Rp _ _ _ _ (.int (nI _) :: .int (nI _) :: _) _ _); refine Rp.icmp_neN (tgt := 61) dX3_isBarred_54 (by decide) (by omega) (fun c54 => ?_) (fun c54 => ?_)) | refine Rp.icmp_ne (tgt := 61) dX3_isBarred_54 (by decide) (fun c54 => ?_) (fun c54 => ?_)
        · skip
          first | (exfalso; omega) | exact absurd c54 (by decide) | exact absurd (by decide) c54
        · skip
          refine Rp.iconst (nI 1) dX3_isBarred_57 (by decide) ?_
          refine Rp.goto (tgt := 62) dX3_isBarred_58 (by decide) ?_
          refine Rp.zreturn dX3_isBarred_62 rfl (Or.inr rfl) ?_
          exact ⟨Fr.rfl', J, rfl⟩
      · skip
        exact absurd c18 (by decide)
end Ask
