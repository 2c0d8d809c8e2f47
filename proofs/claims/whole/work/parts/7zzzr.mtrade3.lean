theorem tgP_of {K gt : Nat → Int32} {lf T T' : Nat → Bool} {f : Nat → Nat} {q : Nat} (h : T q = T' q) : tgP K gt lf f T q = tgP K gt lf f T' q := by unfold tgP; rw [h]
theorem tgP_e {K gt : Nat → Int32} {lf : Nat → Bool} {f : Nat → Nat} {q : Nat} : tgP K gt lf f (fun q => lf q && !onR f q) q = if lf q = true ∧ onR f q = true then K (f q) else gt q := by
  unfold tgP
  by_cases c : lf q = true ∧ onR f q = true
  · rw [if_pos c, if_pos ⟨c.1, by show (lf q && !onR f q) = false; rw [c.1, c.2]; rfl⟩]
  · rw [if_neg c, if_neg]
    intro ⟨z1, z2⟩
    have z2 : (lf q && !onR f q) = false := z2
    rw [z1] at z2
    cases co : onR f q
    · rw [co] at z2; cases z2
    · exact c ⟨z1, co⟩
section Mt3
variable (d : Nat) {K : Nat → Int32} {fl : Option (List CLE)} {np nt : Nat} {US : List (Nat → Int32)}
theorem mtr6 {h0 : AH} (A0 : MA h0 fl np nt US) (K0 : gI h0 102 = K) {P : Option Value → AH → Prop} (kk : ∀ g U, U < 64 → (∀ q, Nat.testBit U q = (tr0 K np).1 q) → (∀ q, q < 6 → gI g 122 q = -1) → Fr lvX h0 g → Rp (d + 77) M_X12_laysTrade 54 [some (.ref aM), some (.int (nI U)), some (.int (nI 0)), some (.int (nI 6)), none] [] g P) : ∀ (m p U : Nat) (g : AH), p + m = 6 → U < 64 → (∀ q, Nat.testBit U q = true ↔ q < p ∧ (tr0 K np).1 q = true) → (∀ q, q < p → gI g 122 q = -1) → Fr lvX h0 g → Rp (d + 77) M_X12_laysTrade 6 [some (.ref aM), some (.int (nI U)), some (.int (nI 0)), some (.int (nI p)), none] [] g P := by
  have v1 := A0.2.2.2.2.1.1
  have hM : gI h0 102 103 = nI np := A0.2.2.2.2.2.1
  intro m
  induction m with
  | zero =>
    intro p U g hm hU hb ht F
    have e : p = 6 := by omega
    subst e
    have k1 := kk g U hU (fun q => by
      have h := hb q
      cases c : (tr0 K np).1 q
      · rw [c] at h
        cases c2 : Nat.testBit U q
        · rfl
        · exact absurd (h.1 c2).2 (by decide)
      · exact h.2 ⟨by
          have c : (decide (q < np) && decide (K q ≠ -1)) = true := c
          rw [Bool.and_eq_true, decide_eq_true_eq] at c
          omega, c⟩) ht F
    refine Rp.iload_n dX12_laysTrade_6 rfl ?_
    refine Rp.bipush (nI 6) dX12_laysTrade_7 (by decide) ?_
    first | ((with_reducible show Rp _ _ _ _ (.int (nI _) :: .int (nI _) :: _) _ _); refine Rp.icmp_geN (tgt := 54) dX12_laysTrade_9 (by decide) (by omega) (fun c9 => ?_) (fun c9 => ?_)) | refine Rp.icmp_ge (tgt := 54) dX12_laysTrade_9 (by decide) (fun c9 => ?_) (fun c9 => ?_)
    · skip
      exact k1
    · skip
      first | (exfalso; omega) | exact absurd c9 (by decide) | exact absurd (by decide) c9
  | succ m ih =>
    intro p U g hm hU hb ht F
    have S := F.S A0.1
    have R := F.R A0.2.1 (by decide)
    have S1 : ShOK (sI g 122 p (-1)) := S
    have R1 : RfOK (sI g 122 p (-1)) := R.put _ _ _
    have e103 : gI (sI g 122 p (-1)) 102 103 = nI np := (gI_ne _ _ _ _ (by decide)).trans ((F.I 102 _ rfl).trans hM)
    have eKp : gI (sI g 122 p (-1)) 102 p = K p := (gI_ne _ _ _ _ (by decide)).trans ((F.I 102 _ rfl).trans (by rw [K0]))
    have ht1 : ∀ q, q < p + 1 → gI (sI g 122 p (-1)) 122 q = -1 := fun q hq => by
      rw [gI_at]
      by_cases z : q = p
      · rw [if_pos z]
      · rw [if_neg z]; exact ht q (by omega)
    have F1 : Fr lvX h0 (sI g 122 p (-1)) := F.sI rfl
    have no : (tr0 K np).1 p = false → Rp (d + 77) M_X12_laysTrade 6 [some (.ref aM), some (.int (nI U ||| nI 0)), some (.int (nI 0)), some (.int (nI (p + 1))), none] [] (sI g 122 p (-1)) P := fun hx => by
      rw [bit_o0 U hU]
      exact ih (p + 1) U _ (by omega) hU (fun q => by
        rw [hb q]
        exact ⟨fun z => ⟨by omega, z.2⟩, fun z => ⟨by
          have : q ≠ p := fun y => by rw [y, hx] at z; cases z.2
          have := z.1
          omega, z.2⟩⟩) ht1 F1
    by_cases c : p < np
    · have hl := s_holds (d + 76) S1 R1 (q := p) (by omega)
      rw [show gI (sI g 122 p (-1)) am_kept p = K p from eKp] at hl
      by_cases c2 : K p = -1
      · have k1 := no (by show (decide (p < np) && decide (K p ≠ -1)) = false; rw [decide_eq_false (p := K p ≠ -1) (fun z => z c2), Bool.and_false])
        rw [decide_eq_false (fun z => z c2)] at hl
        refine Rp.iload_n dX12_laysTrade_6 rfl ?_
        refine Rp.bipush (nI 6) dX12_laysTrade_7 (by decide) ?_
        first | ((with_reducible show Rp _ _ _ _ (.int (nI _) :: .int (nI _) :: _) _ _); refine Rp.icmp_geN (tgt := 54) dX12_laysTrade_9 (by decide) (by omega) (fun c9 => ?_) (fun c9 => ?_)) | refine Rp.icmp_ge (tgt := 54) dX12_laysTrade_9 (by decide) (fun c9 => ?_) (fun c9 => ?_)
        · skip
          first | (exfalso; omega) | exact absurd c9 (by decide) | exact absurd (by decide) c9
        · skip
          refine Rp.aload_n dX12_laysTrade_12 rfl rfl ?_
          refine Rp.getR dX12_laysTrade_13 fk_X12_89 rfl (S _ _ rfl) (R _ _ _ rfl) ?_
          refine Rp.iload_n dX12_laysTrade_16 rfl ?_
          refine Rp.iconst (-1) dX12_laysTrade_17 (by decide) ?_
          first | ((with_reducible show Rp _ _ _ _ (_ :: .int (nI _) :: _) _ _); refine Rp.iastoreN dX12_laysTrade_18 (S _ _ rfl) (by omega) ?_) | refine Rp.iastore dX12_laysTrade_18 (S _ _ rfl) (by first | assumption | exact vpb (by decide)) ?_
          refine Rp.iload_n dX12_laysTrade_19 rfl ?_
          refine Rp.iload_n dX12_laysTrade_20 rfl ?_
          refine Rp.aload_n dX12_laysTrade_21 rfl rfl ?_
          refine Rp.getR dX12_laysTrade_22 fk_X12_24 rfl (S1 _ _ rfl) (R1 _ _ _ rfl) ?_
          refine Rp.bipush (nI 103) dX12_laysTrade_25 (by decide) ?_
          first | ((with_reducible show Rp _ _ _ _ (.int (nI _) :: _) _ _); refine Rp.ialoadN dX12_laysTrade_27 (S1 _ _ rfl) (by omega) ?_) | refine Rp.iaload dX12_laysTrade_27 (S1 _ _ rfl) (by first | assumption | exact vpb (by decide)) ?_
          first | rw [e103] | skip
          first | ((with_reducible show Rp _ _ _ _ (.int (nI _) :: .int (nI _) :: _) _ _); refine Rp.icmp_geN (tgt := 45) dX12_laysTrade_28 (by decide) (by omega) (fun c28 => ?_) (fun c28 => ?_)) | refine Rp.icmp_ge (tgt := 45) dX12_laysTrade_28 (by decide) (fun c28 => ?_) (fun c28 => ?_)
          · skip
            first | (exfalso; omega) | exact absurd c28 (by decide) | exact absurd (by decide) c28
          · skip
            refine Rp.aload_n dX12_laysTrade_31 rfl rfl ?_
            refine Rp.iload_n dX12_laysTrade_32 rfl ?_
            refine Rp.callV1 M_X12_holds (ci := 12) dX12_laysTrade_33 mo_X12_holds lk_X12_351 (by decide) rfl rfl (S _ _ rfl) (Nat.le_of_ble_eq_true rfl) (Nat.le_of_ble_eq_true rfl) (hl) (fun v1 h1 p1 x1 => ?_)
            rw [p1.1, p1.2]
            try dsimp only [Option.toList, List.cons_append, List.nil_append, List.append]
            first | ((with_reducible show Rp _ _ _ _ (.int (b2i _) :: _) _ _); refine Rp.if_eqB (tgt := 45) dX12_laysTrade_36 (by decide) (fun c36 => ?_) (fun c36 => ?_)) | ((with_reducible show Rp _ _ _ _ (.int (nI _) :: _) _ _); refine Rp.if_eqN (tgt := 45) dX12_laysTrade_36 (by decide) (by omega) (fun c36 => ?_) (fun c36 => ?_)) | refine Rp.if_eq (tgt := 45) dX12_laysTrade_36 (by decide) (fun c36 => ?_) (fun c36 => ?_)
            · skip
              refine Rp.iconst (nI 0) dX12_laysTrade_45 (by decide) ?_
              refine Rp.ior dX12_laysTrade_46 ?_
              refine Rp.ist1 dX12_laysTrade_47 (by first | exact nl2_some rfl | exact nl2_none) (by decide) ?_
              first | ((with_reducible show Rp _ _ _ (_ :: _ :: _ :: some (.int (nI _)) :: _) _ _ _); refine Rp.inc3N (c := 1) dX12_laysTrade_48 (by first | exact nl2_some rfl | exact nl2_none) (by decide) ?_) | refine Rp.inc3 _ dX12_laysTrade_48 rfl (by first | exact nl2_some rfl | exact nl2_none) (by decide) ?_
              refine Rp.goto (tgt := 6) dX12_laysTrade_51 (by decide) ?_
              exact k1
            · skip
              cases c36
      · rw [decide_eq_true c2] at hl
        have bo := bit_or U hU p (by omega)
        have k1 := ih (p + 1) (U ||| 2 ^ p) _ (by omega) bo.2 (fun q => by
          by_cases h6 : q < 6
          · rw [tb_or U hU p (by omega) q h6, Bool.or_eq_true, decide_eq_true_eq, hb q]
            constructor
            · intro z
              rcases z with z | z
              · exact ⟨by omega, z.2⟩
              · exact ⟨by omega, by rw [← z]; show (decide (p < np) && decide (K p ≠ -1)) = true; rw [decide_eq_true c, decide_eq_true c2]; rfl⟩
            · intro z
              by_cases y : p = q
              · exact Or.inr y
              · exact Or.inl ⟨by omega, z.2⟩
          · rw [tb_hi bo.2 (by omega)]
            exact ⟨fun z => (by cases z), fun z => by omega⟩) ht1 F1
        rw [← bo.1] at k1
        refine Rp.iload_n dX12_laysTrade_6 rfl ?_
        refine Rp.bipush (nI 6) dX12_laysTrade_7 (by decide) ?_
        first | ((with_reducible show Rp _ _ _ _ (.int (nI _) :: .int (nI _) :: _) _ _); refine Rp.icmp_geN (tgt := 54) dX12_laysTrade_9 (by decide) (by omega) (fun c9 => ?_) (fun c9 => ?_)) | refine Rp.icmp_ge (tgt := 54) dX12_laysTrade_9 (by decide) (fun c9 => ?_) (fun c9 => ?_)
        · skip
          first | (exfalso; omega) | exact absurd c9 (by decide) | exact absurd (by decide) c9
        · skip
          refine Rp.aload_n dX12_laysTrade_12 rfl rfl ?_
          refine Rp.getR dX12_laysTrade_13 fk_X12_89 rfl (S _ _ rfl) (R _ _ _ rfl) ?_
          refine Rp.iload_n dX12_laysTrade_16 rfl ?_
          refine Rp.iconst (-1) dX12_laysTrade_17 (by decide) ?_
          first | ((with_reducible show Rp _ _ _ _ (_ :: .int (nI _) :: _) _ _); refine Rp.iastoreN dX12_laysTrade_18 (S _ _ rfl) (by omega) ?_) | refine Rp.iastore dX12_laysTrade_18 (S _ _ rfl) (by first | assumption | exact vpb (by decide)) ?_
          refine Rp.iload_n dX12_laysTrade_19 rfl ?_
          refine Rp.iload_n dX12_laysTrade_20 rfl ?_
          refine Rp.aload_n dX12_laysTrade_21 rfl rfl ?_
          refine Rp.getR dX12_laysTrade_22 fk_X12_24 rfl (S1 _ _ rfl) (R1 _ _ _ rfl) ?_
          refine Rp.bipush (nI 103) dX12_laysTrade_25 (by decide) ?_
          first | ((with_reducible show Rp _ _ _ _ (.int (nI _) :: _) _ _); refine Rp.ialoadN dX12_laysTrade_27 (S1 _ _ rfl) (by omega) ?_) | refine Rp.iaload dX12_laysTrade_27 (S1 _ _ rfl) (by first | assumption | exact vpb (by decide)) ?_
          first | rw [e103] | skip
          first | ((with_reducible show Rp _ _ _ _ (.int (nI _) :: .int (nI _) :: _) _ _); refine Rp.icmp_geN (tgt := 45) dX12_laysTrade_28 (by decide) (by omega) (fun c28 => ?_) (fun c28 => ?_)) | refine Rp.icmp_ge (tgt := 45) dX12_laysTrade_28 (by decide) (fun c28 => ?_) (fun c28 => ?_)
          · skip
            first | (exfalso; omega) | exact absurd c28 (by decide) | exact absurd (by decide) c28
          · skip
            refine Rp.aload_n dX12_laysTrade_31 rfl rfl ?_
            refine Rp.iload_n dX12_laysTrade_32 rfl ?_
            refine Rp.callV1 M_X12_holds (ci := 12) dX12_laysTrade_33 mo_X12_holds lk_X12_351 (by decide) rfl rfl (S _ _ rfl) (Nat.le_of_ble_eq_true rfl) (Nat.le_of_ble_eq_true rfl) (hl) (fun v1 h1 p1 x1 => ?_)
            rw [p1.1, p1.2]
            try dsimp only [Option.toList, List.cons_append, List.nil_append, List.append]
            first | ((with_reducible show Rp _ _ _ _ (.int (b2i _) :: _) _ _); refine Rp.if_eqB (tgt := 45) dX12_laysTrade_36 (by decide) (fun c36 => ?_) (fun c36 => ?_)) | ((with_reducible show Rp _ _ _ _ (.int (nI _) :: _) _ _); refine Rp.if_eqN (tgt := 45) dX12_laysTrade_36 (by decide) (by omega) (fun c36 => ?_) (fun c36 => ?_)) | refine Rp.if_eq (tgt := 45) dX12_laysTrade_36 (by decide) (fun c36 => ?_) (fun c36 => ?_)
            · skip
              cases c36
            · skip
              refine Rp.iconst (nI 1) dX12_laysTrade_39 (by decide) ?_
              refine Rp.iload_n dX12_laysTrade_40 rfl ?_
              refine Rp.ishl dX12_laysTrade_41 ?_
              refine Rp.goto (tgt := 46) dX12_laysTrade_42 (by decide) ?_
              refine Rp.ior dX12_laysTrade_46 ?_
              refine Rp.ist1 dX12_laysTrade_47 (by first | exact nl2_some rfl | exact nl2_none) (by decide) ?_
              first | ((with_reducible show Rp _ _ _ (_ :: _ :: _ :: some (.int (nI _)) :: _) _ _ _); refine Rp.inc3N (c := 1) dX12_laysTrade_48 (by first | exact nl2_some rfl | exact nl2_none) (by decide) ?_) | refine Rp.inc3 _ dX12_laysTrade_48 rfl (by first | exact nl2_some rfl | exact nl2_none) (by decide) ?_
              refine Rp.goto (tgt := 6) dX12_laysTrade_51 (by decide) ?_
              exact k1
    · have k1 := no (by show (decide (p < np) && decide (K p ≠ -1)) = false; rw [decide_eq_false c]; rfl)
      refine Rp.iload_n dX12_laysTrade_6 rfl ?_
      refine Rp.bipush (nI 6) dX12_laysTrade_7 (by decide) ?_
      first | ((with_reducible show Rp _ _ _ _ (.int (nI _) :: .int (nI _) :: _) _ _); refine Rp.icmp_geN (tgt := 54) dX12_laysTrade_9 (by decide) (by omega) (fun c9 => ?_) (fun c9 => ?_)) | refine Rp.icmp_ge (tgt := 54) dX12_laysTrade_9 (by decide) (fun c9 => ?_) (fun c9 => ?_)
      · skip
        first | (exfalso; omega) | exact absurd c9 (by decide) | exact absurd (by decide) c9
      · skip
        refine Rp.aload_n dX12_laysTrade_12 rfl rfl ?_
        refine Rp.getR dX12_laysTrade_13 fk_X12_89 rfl (S _ _ rfl) (R _ _ _ rfl) ?_
        refine Rp.iload_n dX12_laysTrade_16 rfl ?_
        refine Rp.iconst (-1) dX12_laysTrade_17 (by decide) ?_
        first | ((with_reducible show Rp _ _ _ _ (_ :: .int (nI _) :: _) _ _); refine Rp.iastoreN dX12_laysTrade_18 (S _ _ rfl) (by omega) ?_) | refine Rp.iastore dX12_laysTrade_18 (S _ _ rfl) (by first | assumption | exact vpb (by decide)) ?_
        refine Rp.iload_n dX12_laysTrade_19 rfl ?_
        refine Rp.iload_n dX12_laysTrade_20 rfl ?_
        refine Rp.aload_n dX12_laysTrade_21 rfl rfl ?_
        refine Rp.getR dX12_laysTrade_22 fk_X12_24 rfl (S1 _ _ rfl) (R1 _ _ _ rfl) ?_
        refine Rp.bipush (nI 103) dX12_laysTrade_25 (by decide) ?_
        first | ((with_reducible show Rp _ _ _ _ (.int (nI _) :: _) _ _); refine Rp.ialoadN dX12_laysTrade_27 (S1 _ _ rfl) (by omega) ?_) | refine Rp.iaload dX12_laysTrade_27 (S1 _ _ rfl) (by first | assumption | exact vpb (by decide)) ?_
        first | rw [e103] | skip
        first | ((with_reducible show Rp _ _ _ _ (.int (nI _) :: .int (nI _) :: _) _ _); refine Rp.icmp_geN (tgt := 45) dX12_laysTrade_28 (by decide) (by omega) (fun c28 => ?_) (fun c28 => ?_)) | refine Rp.icmp_ge (tgt := 45) dX12_laysTrade_28 (by decide) (fun c28 => ?_) (fun c28 => ?_)
        · skip
          refine Rp.iconst (nI 0) dX12_laysTrade_45 (by decide) ?_
          refine Rp.ior dX12_laysTrade_46 ?_
          refine Rp.ist1 dX12_laysTrade_47 (by first | exact nl2_some rfl | exact nl2_none) (by decide) ?_
          first | ((with_reducible show Rp _ _ _ (_ :: _ :: _ :: some (.int (nI _)) :: _) _ _ _); refine Rp.inc3N (c := 1) dX12_laysTrade_48 (by first | exact nl2_some rfl | exact nl2_none) (by decide) ?_) | refine Rp.inc3 _ dX12_laysTrade_48 rfl (by first | exact nl2_some rfl | exact nl2_none) (by decide) ?_
          refine Rp.goto (tgt := 6) dX12_laysTrade_51 (by decide) ?_
          exact k1
        · skip
          first | (exfalso; omega) | exact absurd c28 (by decide) | exact absurd (by decide) c28
/-- all who are left point -/
theorem mtr60 {h0 : AH} (W : KW K) {U : Nat} (hU : U < 64) (hl : ∀ q, Nat.testBit U q = true → q < np ∧ K q ≠ -1) {x2 : Int32} {a4 : Option Value} {P : Option Value → AH → Prop} (kk : ∀ g, MA g fl np nt US → gI g 102 = K → Fr mpX h0 g → (∀ q, Nat.testBit U q = true → gI g 123 q = nI (pnt K fl np nt (fun q => Nat.testBit U q) q)) → Rp (d + 77) M_X12_laysTrade 101 [some (.ref aM), some (.int (nI U)), some (.int x2), some (.int (nI np)), a4] [] g P) : ∀ (m p : Nat) (g : AH), p + m = np → MA g fl np nt US → gI g 102 = K → Fr mpX h0 g → (∀ q, q < p → Nat.testBit U q = true → gI g 123 q = nI (pnt K fl np nt (fun q => Nat.testBit U q) q)) → Rp (d + 77) M_X12_laysTrade 60 [some (.ref aM), some (.int (nI U)), some (.int x2), some (.int (nI p)), a4] [] g P := by
  intro m
  induction m with
  | zero =>
    intro p g hm A hK F hp
    have e : p = np := by omega
    subst e
    have S := A.1
    have R := A.2.1
    have e103 : gI g 102 103 = nI p := A.2.2.2.2.2.1
    have v1 := A.2.2.2.2.1.1
    have k1 := kk g A hK F (fun q hq => hp q (hl q hq).1 hq)
    refine Rp.iload_n dX12_laysTrade_60 rfl ?_
    refine Rp.aload_n dX12_laysTrade_61 rfl rfl ?_
    refine Rp.getR dX12_laysTrade_62 fk_X12_24 rfl (S _ _ rfl) (R _ _ _ rfl) ?_
    refine Rp.bipush (nI 103) dX12_laysTrade_65 (by decide) ?_
    first | ((with_reducible show Rp _ _ _ _ (.int (nI _) :: _) _ _); refine Rp.ialoadN dX12_laysTrade_67 (S _ _ rfl) (by omega) ?_) | refine Rp.iaload dX12_laysTrade_67 (S _ _ rfl) (by first | assumption | exact vpb (by decide)) ?_
    first | rw [e103] | skip
    first | ((with_reducible show Rp _ _ _ _ (.int (nI _) :: .int (nI _) :: _) _ _); refine Rp.icmp_geN (tgt := 101) dX12_laysTrade_68 (by decide) (by omega) (fun c68 => ?_) (fun c68 => ?_)) | refine Rp.icmp_ge (tgt := 101) dX12_laysTrade_68 (by decide) (fun c68 => ?_) (fun c68 => ?_)
    · skip
      exact k1
    · skip
      first | (exfalso; omega) | exact absurd c68 (by decide) | exact absurd (by decide) c68
  | succ m ih =>
    intro p g hm A hK F hp
    have S := A.1
    have R := A.2.1
    have V := A.2.2.2.2.1
    rw [show gI g am_kept = K from hK] at V
    have w1 := V.1
    have w2 := V.2.1
    have e103 : gI g 102 103 = nI np := A.2.2.2.2.2.1
    have isn := s_isIn (d + 76) (h := g) (nI U) (nI p)
    rw [show decide ((nI U) >>> (nI p &&& 31) &&& nI 1 = nI 1) = Nat.testBit U p from bit_tb U hU p (by omega)] at isn
    cases cb : Nat.testBit U p
    · rw [cb] at isn
      have k1 := ih (p + 1) g (by omega) A hK F (fun q hq hq2 => hp q (by
        have : q ≠ p := fun z => by rw [z, cb] at hq2; cases hq2
        omega) hq2)
      refine Rp.iload_n dX12_laysTrade_60 rfl ?_
      refine Rp.aload_n dX12_laysTrade_61 rfl rfl ?_
      refine Rp.getR dX12_laysTrade_62 fk_X12_24 rfl (S _ _ rfl) (R _ _ _ rfl) ?_
      refine Rp.bipush (nI 103) dX12_laysTrade_65 (by decide) ?_
      first | ((with_reducible show Rp _ _ _ _ (.int (nI _) :: _) _ _); refine Rp.ialoadN dX12_laysTrade_67 (S _ _ rfl) (by omega) ?_) | refine Rp.iaload dX12_laysTrade_67 (S _ _ rfl) (by first | assumption | exact vpb (by decide)) ?_
      first | rw [e103] | skip
      first | ((with_reducible show Rp _ _ _ _ (.int (nI _) :: .int (nI _) :: _) _ _); refine Rp.icmp_geN (tgt := 101) dX12_laysTrade_68 (by decide) (by omega) (fun c68 => ?_) (fun c68 => ?_)) | refine Rp.icmp_ge (tgt := 101) dX12_laysTrade_68 (by decide) (fun c68 => ?_) (fun c68 => ?_)
      · skip
        first | (exfalso; omega) | exact absurd c68 (by decide) | exact absurd (by decide) c68
      · skip
        refine Rp.iload_n dX12_laysTrade_71 rfl ?_
        refine Rp.iload_n dX12_laysTrade_72 rfl ?_
        refine Rp.callS2 M_X12_isIn dX12_laysTrade_73 mo_X12_isIn lk_X12_381 (Nat.le_of_ble_eq_true rfl) (Nat.le_of_ble_eq_true rfl) (isn) (fun v1 h1 p1 x1 => ?_)
        rw [p1.1, p1.2]
        try dsimp only [Option.toList, List.cons_append, List.nil_append, List.append]
        first | ((with_reducible show Rp _ _ _ _ (.int (b2i _) :: _) _ _); refine Rp.if_eqB (tgt := 95) dX12_laysTrade_76 (by decide) (fun c76 => ?_) (fun c76 => ?_)) | ((with_reducible show Rp _ _ _ _ (.int (nI _) :: _) _ _); refine Rp.if_eqN (tgt := 95) dX12_laysTrade_76 (by decide) (by omega) (fun c76 => ?_) (fun c76 => ?_)) | refine Rp.if_eq (tgt := 95) dX12_laysTrade_76 (by decide) (fun c76 => ?_) (fun c76 => ?_)
        · skip
          first | ((with_reducible show Rp _ _ _ (_ :: _ :: _ :: some (.int (nI _)) :: _) _ _ _); refine Rp.inc3N (c := 1) dX12_laysTrade_95 (by first | exact nl2_some rfl | exact nl2_none) (by decide) ?_) | refine Rp.inc3 _ dX12_laysTrade_95 rfl (by first | exact nl2_some rfl | exact nl2_none) (by decide) ?_
          refine Rp.goto (tgt := 60) dX12_laysTrade_98 (by decide) ?_
          exact k1
        · skip
          cases c76
    · rw [cb] at isn
      have wm := s_wishedMost d A (show KW (gI g 102) by rw [hK]; exact W) hU (show p < np by omega)
      rw [hK] at wm
      obtain ⟨t, ht, et⟩ := ((V.2.2.1 p (by omega)).resolve_left (hl p cb).2).2
      have sm := wmF_some (wm_own (fl := fl) V (lf := fun q => Nat.testBit U q) (show p < np by omega) ht cb et) nt ht
      match hx : wmF K fl np (fun q => Nat.testBit U q) p nt, sm with
      | none, sm => exact absurd rfl sm
      | some b, _ =>
        have fp := (fnI_pnt (fl := fl) V (lf := fun q => Nat.testBit U q) (show p < np by omega)).1
        rw [hx] at wm fp
        dsimp only [oI] at wm
        dsimp only [fnI] at fp
        refine Rp.iload_n dX12_laysTrade_60 rfl ?_
        refine Rp.aload_n dX12_laysTrade_61 rfl rfl ?_
        refine Rp.getR dX12_laysTrade_62 fk_X12_24 rfl (S _ _ rfl) (R _ _ _ rfl) ?_
        refine Rp.bipush (nI 103) dX12_laysTrade_65 (by decide) ?_
        first | ((with_reducible show Rp _ _ _ _ (.int (nI _) :: _) _ _); refine Rp.ialoadN dX12_laysTrade_67 (S _ _ rfl) (by omega) ?_) | refine Rp.iaload dX12_laysTrade_67 (S _ _ rfl) (by first | assumption | exact vpb (by decide)) ?_
        first | rw [e103] | skip
        first | ((with_reducible show Rp _ _ _ _ (.int (nI _) :: .int (nI _) :: _) _ _); refine Rp.icmp_geN (tgt := 101) dX12_laysTrade_68 (by decide) (by omega) (fun c68 => ?_) (fun c68 => ?_)) | refine Rp.icmp_ge (tgt := 101) dX12_laysTrade_68 (by decide) (fun c68 => ?_) (fun c68 => ?_)
        · first | (exfalso; omega) | exact absurd c68 (by decide) | exact absurd (by decide) c68
        refine Rp.iload_n dX12_laysTrade_71 rfl ?_
        refine Rp.iload_n dX12_laysTrade_72 rfl ?_
        refine Rp.callS2 M_X12_isIn dX12_laysTrade_73 mo_X12_isIn lk_X12_381 (Nat.le_of_ble_eq_true rfl) (Nat.le_of_ble_eq_true rfl) (isn) (fun v1 h1 p1 x1 => ?_)
        rw [p1.1, p1.2]
        try dsimp only [Option.toList, List.cons_append, List.nil_append, List.append]
        first | ((with_reducible show Rp _ _ _ _ (.int (b2i _) :: _) _ _); refine Rp.if_eqB (tgt := 95) dX12_laysTrade_76 (by decide) (fun c76 => ?_) (fun c76 => ?_)) | ((with_reducible show Rp _ _ _ _ (.int (nI _) :: _) _ _); refine Rp.if_eqN (tgt := 95) dX12_laysTrade_76 (by decide) (by omega) (fun c76 => ?_) (fun c76 => ?_)) | refine Rp.if_eq (tgt := 95) dX12_laysTrade_76 (by decide) (fun c76 => ?_) (fun c76 => ?_)
        · cases c76
        refine Rp.aload_n dX12_laysTrade_79 rfl rfl ?_
        refine Rp.getR dX12_laysTrade_80 fk_X12_92 rfl (S _ _ rfl) (R _ _ _ rfl) ?_
        refine Rp.iload_n dX12_laysTrade_83 rfl ?_
        refine Rp.aload_n dX12_laysTrade_84 rfl rfl ?_
        refine Rp.aload_n dX12_laysTrade_85 rfl rfl ?_
        refine Rp.iload_n dX12_laysTrade_86 rfl ?_
        refine Rp.iload_n dX12_laysTrade_87 rfl ?_
        refine Rp.callV2 M_X12_wishedMost (ci := 12) dX12_laysTrade_88 mo_X12_wishedMost lk_X12_432 (by decide) rfl rfl (S _ _ rfl) (Nat.le_of_ble_eq_true rfl) (Nat.le_of_ble_eq_true rfl) (wm) (fun v1 h1 p1 x1 => ?_)
        obtain ⟨A1, K1, F1, rfl⟩ := p1
        try dsimp only [Option.toList, List.cons_append, List.nil_append, List.append]
        skip
        have S1 := A1.1
        have ho := s_holderOf (d + 76) S1 A1.2.1 (nI b) w1 A1.2.2.2.2.2.1
        rw [show gI h1 am_kept = K from K1, fp] at ho
        have Fa : Fr mpX h1 (sI h1 123 p (nI (pnt K fl np nt (fun q => Nat.testBit U q) p))) := Fr.rfl'.sI rfl
        have k1 := ih (p + 1) (sI h1 123 p (nI (pnt K fl np nt (fun q => Nat.testBit U q) p))) (by omega) (A1.fr Fa (by decide) (fun j => rfl) (fun j => rfl) rfl) ((funext fun j => Fa.I 102 j rfl).trans K1) ((F.trans (mpX_t F1)).trans Fa) (fun q hq hq2 => by
          rw [gI_at]
          by_cases z : q = p
          · rw [if_pos z, z]
          · rw [if_neg z, F1.I 123 q rfl]; exact hp q (by omega) hq2)
        refine Rp.callV1 M_X12_holderOf (ci := 12) dX12_laysTrade_91 mo_X12_holderOf lk_X12_151 (by decide) rfl rfl (S1 _ _ rfl) (Nat.le_of_ble_eq_true rfl) (Nat.le_of_ble_eq_true rfl) (ho) (fun v1 h1 p1 x1 => ?_)
        rw [p1.1, p1.2]
        try dsimp only [Option.toList, List.cons_append, List.nil_append, List.append]
        first | ((with_reducible show Rp _ _ _ _ (_ :: .int (nI _) :: _) _ _); refine Rp.iastoreN dX12_laysTrade_94 (S1 _ _ rfl) (by omega) ?_) | refine Rp.iastore dX12_laysTrade_94 (S1 _ _ rfl) (by first | assumption | exact vpb (by decide)) ?_
        first | ((with_reducible show Rp _ _ _ (_ :: _ :: _ :: some (.int (nI _)) :: _) _ _ _); refine Rp.inc3N (c := 1) dX12_laysTrade_95 (by first | exact nl2_some rfl | exact nl2_none) (by decide) ?_) | refine Rp.inc3 _ dX12_laysTrade_95 rfl (by first | exact nl2_some rfl | exact nl2_none) (by decide) ?_
        refine Rp.goto (tgt := 60) dX12_laysTrade_98 (by decide) ?_
        exact k1
/-- the rings of a round leave -/
theorem mtr106 {h0 : AH} (S0 : ShOK h0) (R0 : RfOK h0) (K0 : gI h0 102 = K) (M0 : K 103 = nI np) (n6 : np ≤ 6) {U n : Nat} {f : Nat → Nat} {lf : Nat → Bool} {gt : Nat → Int32} (hln : ∀ q, lf q = true → q < np) (hcl : ∀ q, lf q = true → lf (f q) = true) (h123 : ∀ q, lf q = true → gI h0 123 q = nI (f q)) {P : Option Value → AH → Prop} (kk : ∀ g T, T < 64 → (∀ q, Nat.testBit T q = (lf q && !onR f q)) → (∀ q, q < 6 → gI g 122 q = if lf q = true ∧ onR f q = true then K (f q) else gt q) → Fr lvX h0 g → Rp (d + 77) M_X12_laysTrade 156 [some (.ref aM), some (.int (nI U)), some (.int (nI (n + rgN f lf np))), some (.int (nI T)), some (.int (nI np))] [] g P) : ∀ (m p T : Nat) (g : AH), p + m = np → T < 64 → thP lf f p (fun q => Nat.testBit T q) → (∀ q, q < 6 → gI g 122 q = tgP K gt lf f (fun q => Nat.testBit T q) q) → Fr lvX h0 g → Rp (d + 77) M_X12_laysTrade 106 [some (.ref aM), some (.int (nI U)), some (.int (nI (n + rgN f lf p))), some (.int (nI T)), some (.int (nI p))] [] g P := by
  intro m
  induction m with
  | zero =>
    intro p T g hm hT H ht F
    have e : p = np := by omega
    subst e
    have S := F.S S0
    have R := F.R R0 (by decide)
    have e103 : gI g 102 103 = nI p := (F.I 102 _ rfl).trans (by rw [K0]; exact M0)
    have te := thP_end hln H
    have k1 := kk g T hT (fun q => congrFun te q) (fun q hq => by
      rw [ht q hq, te]; exact tgP_e) F
    refine Rp.iload dX12_laysTrade_106 rfl ?_
    refine Rp.aload_n dX12_laysTrade_108 rfl rfl ?_
    refine Rp.getR dX12_laysTrade_109 fk_X12_24 rfl (S _ _ rfl) (R _ _ _ rfl) ?_
    refine Rp.bipush (nI 103) dX12_laysTrade_112 (by decide) ?_
    first | ((with_reducible show Rp _ _ _ _ (.int (nI _) :: _) _ _); refine Rp.ialoadN dX12_laysTrade_114 (S _ _ rfl) (by omega) ?_) | refine Rp.iaload dX12_laysTrade_114 (S _ _ rfl) (by first | assumption | exact vpb (by decide)) ?_
    first | rw [e103] | skip
    first | ((with_reducible show Rp _ _ _ _ (.int (nI _) :: .int (nI _) :: _) _ _); refine Rp.icmp_geN (tgt := 156) dX12_laysTrade_115 (by decide) (by omega) (fun c115 => ?_) (fun c115 => ?_)) | refine Rp.icmp_ge (tgt := 156) dX12_laysTrade_115 (by decide) (fun c115 => ?_) (fun c115 => ?_)
    · skip
      exact k1
    · skip
      first | (exfalso; omega) | exact absurd c115 (by decide) | exact absurd (by decide) c115
  | succ m ih =>
    intro p T g hm hT H ht F
    have S := F.S S0
    have R := F.R R0 (by decide)
    have e103 : gI g 102 103 = nI np := (F.I 102 _ rfl).trans (by rw [K0]; exact M0)
    have isn := s_isIn (d + 76) (h := g) (nI T) (nI p)
    rw [show decide ((nI T) >>> (nI p &&& 31) &&& nI 1 = nI 1) = Nat.testBit T p from bit_tb T hT p (by omega)] at isn
    have no : (Nat.testBit T p = false ∨ onR f p = false) → Rp (d + 77) M_X12_laysTrade 106 [some (.ref aM), some (.int (nI U)), some (.int (nI (n + rgN f lf p))), some (.int (nI T)), some (.int (nI (p + 1)))] [] g P := fun c => by
      obtain ⟨H1, nr⟩ := thP_no hcl H c
      have k1 := ih (p + 1) T g (by omega) hT H1 ht F
      rw [rgN, if_neg nr] at k1
      exact k1
    cases cb : Nat.testBit T p
    · rw [cb] at isn
      have k1 := no (Or.inl cb)
      refine Rp.iload dX12_laysTrade_106 rfl ?_
      refine Rp.aload_n dX12_laysTrade_108 rfl rfl ?_
      refine Rp.getR dX12_laysTrade_109 fk_X12_24 rfl (S _ _ rfl) (R _ _ _ rfl) ?_
      refine Rp.bipush (nI 103) dX12_laysTrade_112 (by decide) ?_
      first | ((with_reducible show Rp _ _ _ _ (.int (nI _) :: _) _ _); refine Rp.ialoadN dX12_laysTrade_114 (S _ _ rfl) (by omega) ?_) | refine Rp.iaload dX12_laysTrade_114 (S _ _ rfl) (by first | assumption | exact vpb (by decide)) ?_
      first | rw [e103] | skip
      first | ((with_reducible show Rp _ _ _ _ (.int (nI _) :: .int (nI _) :: _) _ _); refine Rp.icmp_geN (tgt := 156) dX12_laysTrade_115 (by decide) (by omega) (fun c115 => ?_) (fun c115 => ?_)) | refine Rp.icmp_ge (tgt := 156) dX12_laysTrade_115 (by decide) (fun c115 => ?_) (fun c115 => ?_)
      · first | (exfalso; omega) | exact absurd c115 (by decide) | exact absurd (by decide) c115
      refine Rp.iload_n dX12_laysTrade_118 rfl ?_
      refine Rp.iload dX12_laysTrade_119 rfl ?_
      refine Rp.callS2 M_X12_isIn dX12_laysTrade_121 mo_X12_isIn lk_X12_381 (Nat.le_of_ble_eq_true rfl) (Nat.le_of_ble_eq_true rfl) (isn) (fun v1 h1 p1 x1 => ?_)
      rw [p1.1, p1.2]
      try dsimp only [Option.toList, List.cons_append, List.nil_append, List.append]
      first | ((with_reducible show Rp _ _ _ _ (.int (b2i _) :: _) _ _); refine Rp.if_eqB (tgt := 150) dX12_laysTrade_124 (by decide) (fun c124 => ?_) (fun c124 => ?_)) | ((with_reducible show Rp _ _ _ _ (.int (nI _) :: _) _ _); refine Rp.if_eqN (tgt := 150) dX12_laysTrade_124 (by decide) (by omega) (fun c124 => ?_) (fun c124 => ?_)) | refine Rp.if_eq (tgt := 150) dX12_laysTrade_124 (by decide) (fun c124 => ?_) (fun c124 => ?_)
      rotate_left
      · cases c124
      skip
      first | ((with_reducible show Rp _ _ _ (_ :: _ :: _ :: _ :: some (.int (nI _)) :: _) _ _ _); refine Rp.inc4N (c := 1) dX12_laysTrade_150 (by first | exact nl2_some rfl | exact nl2_none) (by decide) ?_) | refine Rp.inc4 _ dX12_laysTrade_150 rfl (by first | exact nl2_some rfl | exact nl2_none) (by decide) ?_
      refine Rp.goto (tgt := 106) dX12_laysTrade_153 (by decide) ?_
      exact k1
    · rw [cb] at isn
      have lp := ((H p).1 cb).1
      have hf : ∀ q, lf q = true → q < 6 ∧ lf (f q) = true ∧ gI g 123 q = nI (f q) := fun q hq => ⟨by have := hln q hq; omega, hcl q hq, (F.I 123 q rfl).trans (h123 q hq)⟩
      have ior := s_isOnRing (d + 76) S R hf lp
      cases co : onR f p
      · rw [co] at ior
        have k1 := no (Or.inr co)
        refine Rp.iload dX12_laysTrade_106 rfl ?_
        refine Rp.aload_n dX12_laysTrade_108 rfl rfl ?_
        refine Rp.getR dX12_laysTrade_109 fk_X12_24 rfl (S _ _ rfl) (R _ _ _ rfl) ?_
        refine Rp.bipush (nI 103) dX12_laysTrade_112 (by decide) ?_
        first | ((with_reducible show Rp _ _ _ _ (.int (nI _) :: _) _ _); refine Rp.ialoadN dX12_laysTrade_114 (S _ _ rfl) (by omega) ?_) | refine Rp.iaload dX12_laysTrade_114 (S _ _ rfl) (by first | assumption | exact vpb (by decide)) ?_
        first | rw [e103] | skip
        first | ((with_reducible show Rp _ _ _ _ (.int (nI _) :: .int (nI _) :: _) _ _); refine Rp.icmp_geN (tgt := 156) dX12_laysTrade_115 (by decide) (by omega) (fun c115 => ?_) (fun c115 => ?_)) | refine Rp.icmp_ge (tgt := 156) dX12_laysTrade_115 (by decide) (fun c115 => ?_) (fun c115 => ?_)
        · first | (exfalso; omega) | exact absurd c115 (by decide) | exact absurd (by decide) c115
        refine Rp.iload_n dX12_laysTrade_118 rfl ?_
        refine Rp.iload dX12_laysTrade_119 rfl ?_
        refine Rp.callS2 M_X12_isIn dX12_laysTrade_121 mo_X12_isIn lk_X12_381 (Nat.le_of_ble_eq_true rfl) (Nat.le_of_ble_eq_true rfl) (isn) (fun v1 h1 p1 x1 => ?_)
        rw [p1.1, p1.2]
        try dsimp only [Option.toList, List.cons_append, List.nil_append, List.append]
        first | ((with_reducible show Rp _ _ _ _ (.int (b2i _) :: _) _ _); refine Rp.if_eqB (tgt := 150) dX12_laysTrade_124 (by decide) (fun c124 => ?_) (fun c124 => ?_)) | ((with_reducible show Rp _ _ _ _ (.int (nI _) :: _) _ _); refine Rp.if_eqN (tgt := 150) dX12_laysTrade_124 (by decide) (by omega) (fun c124 => ?_) (fun c124 => ?_)) | refine Rp.if_eq (tgt := 150) dX12_laysTrade_124 (by decide) (fun c124 => ?_) (fun c124 => ?_)
        · cases c124
        refine Rp.aload_n dX12_laysTrade_127 rfl rfl ?_
        refine Rp.iload dX12_laysTrade_128 rfl ?_
        refine Rp.callV1 M_X12_isOnRing (ci := 12) dX12_laysTrade_130 mo_X12_isOnRing lk_X12_435 (by decide) rfl rfl (S _ _ rfl) (Nat.le_of_ble_eq_true rfl) (Nat.le_of_ble_eq_true rfl) (ior) (fun v1 h1 p1 x1 => ?_)
        rw [p1.1, p1.2]
        try dsimp only [Option.toList, List.cons_append, List.nil_append, List.append]
        first | ((with_reducible show Rp _ _ _ _ (.int (b2i _) :: _) _ _); refine Rp.if_neB (tgt := 139) dX12_laysTrade_133 (by decide) (fun c133 => ?_) (fun c133 => ?_)) | ((with_reducible show Rp _ _ _ _ (.int (nI _) :: _) _ _); refine Rp.if_neN (tgt := 139) dX12_laysTrade_133 (by decide) (by omega) (fun c133 => ?_) (fun c133 => ?_)) | refine Rp.if_ne (tgt := 139) dX12_laysTrade_133 (by decide) (fun c133 => ?_) (fun c133 => ?_)
        · cases c133
        refine Rp.goto (tgt := 150) dX12_laysTrade_136 (by decide) ?_
        skip
        first | ((with_reducible show Rp _ _ _ (_ :: _ :: _ :: _ :: some (.int (nI _)) :: _) _ _ _); refine Rp.inc4N (c := 1) dX12_laysTrade_150 (by first | exact nl2_some rfl | exact nl2_none) (by decide) ?_) | refine Rp.inc4 _ dX12_laysTrade_150 rfl (by first | exact nl2_some rfl | exact nl2_none) (by decide) ?_
        refine Rp.goto (tgt := 106) dX12_laysTrade_153 (by decide) ?_
        exact k1
      · rw [co] at ior
        have lv := s_leaves (d + 75) (K := K) (gt := tgP K gt lf f (fun q => Nat.testBit T q)) (T := fun q => Nat.testBit T q) S R ((funext fun j => F.I 102 j rfl).trans K0) hf lp co (fun i => thP_orb hcl H cb co i) hT (fun q => rfl) ht
        refine Rp.iload dX12_laysTrade_106 rfl ?_
        refine Rp.aload_n dX12_laysTrade_108 rfl rfl ?_
        refine Rp.getR dX12_laysTrade_109 fk_X12_24 rfl (S _ _ rfl) (R _ _ _ rfl) ?_
        refine Rp.bipush (nI 103) dX12_laysTrade_112 (by decide) ?_
        first | ((with_reducible show Rp _ _ _ _ (.int (nI _) :: _) _ _); refine Rp.ialoadN dX12_laysTrade_114 (S _ _ rfl) (by omega) ?_) | refine Rp.iaload dX12_laysTrade_114 (S _ _ rfl) (by first | assumption | exact vpb (by decide)) ?_
        first | rw [e103] | skip
        first | ((with_reducible show Rp _ _ _ _ (.int (nI _) :: .int (nI _) :: _) _ _); refine Rp.icmp_geN (tgt := 156) dX12_laysTrade_115 (by decide) (by omega) (fun c115 => ?_) (fun c115 => ?_)) | refine Rp.icmp_ge (tgt := 156) dX12_laysTrade_115 (by decide) (fun c115 => ?_) (fun c115 => ?_)
        · first | (exfalso; omega) | exact absurd c115 (by decide) | exact absurd (by decide) c115
        refine Rp.iload_n dX12_laysTrade_118 rfl ?_
        refine Rp.iload dX12_laysTrade_119 rfl ?_
        refine Rp.callS2 M_X12_isIn dX12_laysTrade_121 mo_X12_isIn lk_X12_381 (Nat.le_of_ble_eq_true rfl) (Nat.le_of_ble_eq_true rfl) (isn) (fun v1 h1 p1 x1 => ?_)
        rw [p1.1, p1.2]
        try dsimp only [Option.toList, List.cons_append, List.nil_append, List.append]
        first | ((with_reducible show Rp _ _ _ _ (.int (b2i _) :: _) _ _); refine Rp.if_eqB (tgt := 150) dX12_laysTrade_124 (by decide) (fun c124 => ?_) (fun c124 => ?_)) | ((with_reducible show Rp _ _ _ _ (.int (nI _) :: _) _ _); refine Rp.if_eqN (tgt := 150) dX12_laysTrade_124 (by decide) (by omega) (fun c124 => ?_) (fun c124 => ?_)) | refine Rp.if_eq (tgt := 150) dX12_laysTrade_124 (by decide) (fun c124 => ?_) (fun c124 => ?_)
        · cases c124
        refine Rp.aload_n dX12_laysTrade_127 rfl rfl ?_
        refine Rp.iload dX12_laysTrade_128 rfl ?_
        refine Rp.callV1 M_X12_isOnRing (ci := 12) dX12_laysTrade_130 mo_X12_isOnRing lk_X12_435 (by decide) rfl rfl (S _ _ rfl) (Nat.le_of_ble_eq_true rfl) (Nat.le_of_ble_eq_true rfl) (ior) (fun v1 h1 p1 x1 => ?_)
        rw [p1.1, p1.2]
        try dsimp only [Option.toList, List.cons_append, List.nil_append, List.append]
        first | ((with_reducible show Rp _ _ _ _ (.int (b2i _) :: _) _ _); refine Rp.if_neB (tgt := 139) dX12_laysTrade_133 (by decide) (fun c133 => ?_) (fun c133 => ?_)) | ((with_reducible show Rp _ _ _ _ (.int (nI _) :: _) _ _); refine Rp.if_neN (tgt := 139) dX12_laysTrade_133 (by decide) (by omega) (fun c133 => ?_) (fun c133 => ?_)) | refine Rp.if_ne (tgt := 139) dX12_laysTrade_133 (by decide) (fun c133 => ?_) (fun c133 => ?_)
        rotate_left
        · cases c133
        first | ((with_reducible show Rp _ _ _ (_ :: _ :: some (.int (nI _)) :: _) _ _ _); refine Rp.inc2N (c := 1) dX12_laysTrade_139 (by first | exact nl2_some rfl | exact nl2_none) (by decide) ?_) | refine Rp.inc2 _ dX12_laysTrade_139 rfl (by first | exact nl2_some rfl | exact nl2_none) (by decide) ?_
        refine Rp.aload_n dX12_laysTrade_142 rfl rfl ?_
        refine Rp.iload dX12_laysTrade_143 rfl ?_
        refine Rp.iload_n dX12_laysTrade_145 rfl ?_
        refine Rp.callV2 M_X12_leaves (ci := 12) dX12_laysTrade_146 mo_X12_leaves lk_X12_438 (by decide) rfl rfl (S _ _ rfl) (Nat.le_of_ble_eq_true rfl) (Nat.le_of_ble_eq_true rfl) (lv) (fun v1 h1 p1 x1 => ?_)
        obtain ⟨T1, rfl, h64, hb1, ht1, F1⟩ := p1
        try dsimp only [Option.toList, List.cons_append, List.nil_append, List.append]
        skip
        obtain ⟨H1, yr⟩ := thP_yes hcl H cb co (T' := fun q => Nat.testBit T1 q) hb1
        have k1 := ih (p + 1) T1 h1 (by omega) h64 H1 (fun q hq => by
          by_cases z : ∃ i, itF f i p = q
          · rw [(ht1 q hq).1 z]
            obtain ⟨i, ei⟩ := z
            have lq : lf q = true := by rw [← ei]; exact itF_cl hcl i p lp
            have tq : Nat.testBit T1 q = false := by
              cases c : Nat.testBit T1 q
              · rfl
              · exact absurd ⟨i, ei⟩ ((hb1 q).1 c).2
            unfold tgP
            rw [if_pos ⟨lq, tq⟩]
          · rw [(ht1 q hq).2 z]
            have tq : Nat.testBit T1 q = Nat.testBit T q := by
              cases c : Nat.testBit T q
              · cases c1 : Nat.testBit T1 q
                · rfl
                · have := ((hb1 q).1 c1).1
                  rw [show Nat.testBit T q = true from this] at c
                  cases c
              · exact (hb1 q).2 ⟨c, z⟩
            exact tgP_of tq.symm) (F.trans F1)
        rw [rgN, if_pos yr, ← Nat.add_assoc] at k1
        refine Rp.ist3 dX12_laysTrade_149 (by first | exact nl2_some rfl | exact nl2_none) (by decide) ?_
        first | ((with_reducible show Rp _ _ _ (_ :: _ :: _ :: _ :: some (.int (nI _)) :: _) _ _ _); refine Rp.inc4N (c := 1) dX12_laysTrade_150 (by first | exact nl2_some rfl | exact nl2_none) (by decide) ?_) | refine Rp.inc4 _ dX12_laysTrade_150 rfl (by first | exact nl2_some rfl | exact nl2_none) (by decide) ?_
        refine Rp.goto (tgt := 106) dX12_laysTrade_153 (by decide) ?_
        exact k1
end Mt3
