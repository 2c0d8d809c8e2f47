section Mr
variable (d : Nat) {h0 : AH} {K : Nat → Int32} {fl : Option (List CLE)} {np nt : Nat} {US : List (Nat → Int32)}
theorem mwish5 (V : VH K np nt) (W : KW K) (hM : K 103 = nI np) (hT : K 104 = nI nt) {U : Nat} (hU : U < 64) {p : Nat} (hp : p < np) : ∀ (m t : Nat) (g : AH) (a5 : Option Value), t + m = nt → MA g fl np nt US → gI g 102 = K → Fr tlX h0 g → Rp (d + 76) M_X12_wishedMost 5 [some (.ref aM), some (.int (nI p)), some (.int (nI U)), some (.int (oI (wmF K fl np (fun q => Nat.testBit U q) p t))), some (.int (nI t)), a5] [] g (fun r h' => MA h' fl np nt US ∧ gI h' 102 = K ∧ Fr tlX h0 h' ∧ r = some (.int (oI (wmF K fl np (fun q => Nat.testBit U q) p nt)))) := by
  have v1 := V.1
  have v2 := V.2.1
  intro m
  induction m with
  | zero =>
    intro t g a5 hm A hK F
    have e : t = nt := by omega
    subst e
    have S := A.1
    have R := A.2.1
    have e104 : gI g 102 104 = nI t := by rw [hK]; exact hT
    refine Rp.iload dX12_wishedMost_5 rfl ?_
    refine Rp.aload_n dX12_wishedMost_7 rfl rfl ?_
    refine Rp.getR dX12_wishedMost_8 fk_X12_24 rfl (S _ _ rfl) (R _ _ _ rfl) ?_
    refine Rp.bipush (nI 104) dX12_wishedMost_11 (by decide) ?_
    first | ((with_reducible show Rp _ _ _ _ (.int (nI _) :: _) _ _); refine Rp.ialoadN dX12_wishedMost_13 (S _ _ rfl) (by omega) ?_) | refine Rp.iaload dX12_wishedMost_13 (S _ _ rfl) (by first | assumption | exact vpb (by decide)) ?_
    first | rw [e104] | skip
    first | ((with_reducible show Rp _ _ _ _ (.int (nI _) :: .int (nI _) :: _) _ _); refine Rp.icmp_geN (tgt := 89) dX12_wishedMost_14 (by decide) (by omega) (fun c14 => ?_) (fun c14 => ?_)) | refine Rp.icmp_ge (tgt := 89) dX12_wishedMost_14 (by decide) (fun c14 => ?_) (fun c14 => ?_)
    · skip
      refine Rp.iload_n dX12_wishedMost_89 rfl ?_
      refine Rp.ireturn dX12_wishedMost_90 rfl ?_
      exact ⟨A, hK, F, rfl⟩
    · skip
      first | (exfalso; omega) | exact absurd c14 (by decide) | exact absurd (by decide) c14
  | succ m ih =>
    intro t g a5 hm A hK F
    have S := A.1
    have R := A.2.1
    have e104 : gI g 102 104 = nI nt := by rw [hK]; exact hT
    have ho := s_holderOf (d + 75) S R (nI t) v1 A.2.2.2.2.2.1
    rw [show gI g am_kept = K from hK] at ho
    have wl := (W.is (p := p) (t := t) (by omega) (by omega)).2
    have we := (W.is (p := p) (t := t) (by omega) (by omega)).1
    have k1 := fun g' a5' => ih (t + 1) g' a5' (by omega)
    rw [wmF] at k1
    by_cases c1 : hOf K (nI t) np = -1
    · rw [if_neg (by unfold wmB; rw [decide_eq_false (fun z => z c1), Bool.false_and, Bool.false_and]; decide)] at k1
      have k2 := k1 g (some (.int (-1))) A hK F
      rw [c1] at ho
      refine Rp.iload dX12_wishedMost_5 rfl ?_
      refine Rp.aload_n dX12_wishedMost_7 rfl rfl ?_
      refine Rp.getR dX12_wishedMost_8 fk_X12_24 rfl (S _ _ rfl) (R _ _ _ rfl) ?_
      refine Rp.bipush (nI 104) dX12_wishedMost_11 (by decide) ?_
      first | ((with_reducible show Rp _ _ _ _ (.int (nI _) :: _) _ _); refine Rp.ialoadN dX12_wishedMost_13 (S _ _ rfl) (by omega) ?_) | refine Rp.iaload dX12_wishedMost_13 (S _ _ rfl) (by first | assumption | exact vpb (by decide)) ?_
      first | rw [e104] | skip
      first | ((with_reducible show Rp _ _ _ _ (.int (nI _) :: .int (nI _) :: _) _ _); refine Rp.icmp_geN (tgt := 89) dX12_wishedMost_14 (by decide) (by omega) (fun c14 => ?_) (fun c14 => ?_)) | refine Rp.icmp_ge (tgt := 89) dX12_wishedMost_14 (by decide) (fun c14 => ?_) (fun c14 => ?_)
      · skip
        first | (exfalso; omega) | exact absurd c14 (by decide) | exact absurd (by decide) c14
      · skip
        refine Rp.aload_n dX12_wishedMost_17 rfl rfl ?_
        refine Rp.iload dX12_wishedMost_18 rfl ?_
        refine Rp.callV1 M_X12_holderOf (ci := 12) dX12_wishedMost_20 mo_X12_holderOf lk_X12_151 (by decide) rfl rfl (S _ _ rfl) (Nat.le_of_ble_eq_true rfl) (Nat.le_of_ble_eq_true rfl) (ho) (fun v1 h1 p1 x1 => ?_)
        rw [p1.1, p1.2]
        try dsimp only [Option.toList, List.cons_append, List.nil_append, List.append]
        refine Rp.ist5 dX12_wishedMost_23 (by first | exact nl2_some rfl | exact nl2_none) (by decide) ?_
        refine Rp.iload dX12_wishedMost_25 rfl ?_
        refine Rp.iconst (-1) dX12_wishedMost_27 (by decide) ?_
        first | ((with_reducible show Rp _ _ _ _ (.int (nI _) :: .int (nI _) :: _) _ _); refine Rp.icmp_eqN (tgt := 83) dX12_wishedMost_28 (by decide) (by omega) (fun c28 => ?_) (fun c28 => ?_)) | refine Rp.icmp_eq (tgt := 83) dX12_wishedMost_28 (by decide) (fun c28 => ?_) (fun c28 => ?_)
        · skip
          first | ((with_reducible show Rp _ _ _ (_ :: _ :: _ :: _ :: some (.int (nI _)) :: _) _ _ _); refine Rp.inc4N (c := 1) dX12_wishedMost_83 (by first | exact nl2_some rfl | exact nl2_none) (by decide) ?_) | refine Rp.inc4 _ dX12_wishedMost_83 rfl (by first | exact nl2_some rfl | exact nl2_none) (by decide) ?_
          refine Rp.goto (tgt := 5) dX12_wishedMost_86 (by decide) ?_
          exact k2
        · skip
          exact absurd rfl c28
    · obtain ⟨q, hq, eq, eKq⟩ := hOf_get np c1
      rw [eq] at ho
      have nq : ¬ nI q = -1 := nI_m1 (by omega)
      have eB : wmB K fl np (fun q => Nat.testBit U q) p t = (Nat.testBit U q && (decide (nI q = nI p) || !oBr K fl p t)) := by unfold wmB; rw [eq, decide_eq_true nq, Bool.true_and, ix_nI (by omega)]
      have isn := s_isIn (d + 75) (h := g) (nI U) (nI q)
      rw [show decide ((nI U) >>> (nI q &&& 31) &&& nI 1 = nI 1) = Nat.testBit U q from bit_tb U hU q (by omega)] at isn
      cases cl : Nat.testBit U q
      · rw [eB, cl, Bool.false_and, if_neg (by decide)] at k1
        have k2 := k1 g (some (.int (nI q))) A hK F
        rw [cl] at isn
        refine Rp.iload dX12_wishedMost_5 rfl ?_
        refine Rp.aload_n dX12_wishedMost_7 rfl rfl ?_
        refine Rp.getR dX12_wishedMost_8 fk_X12_24 rfl (S _ _ rfl) (R _ _ _ rfl) ?_
        refine Rp.bipush (nI 104) dX12_wishedMost_11 (by decide) ?_
        first | ((with_reducible show Rp _ _ _ _ (.int (nI _) :: _) _ _); refine Rp.ialoadN dX12_wishedMost_13 (S _ _ rfl) (by omega) ?_) | refine Rp.iaload dX12_wishedMost_13 (S _ _ rfl) (by first | assumption | exact vpb (by decide)) ?_
        first | rw [e104] | skip
        first | ((with_reducible show Rp _ _ _ _ (.int (nI _) :: .int (nI _) :: _) _ _); refine Rp.icmp_geN (tgt := 89) dX12_wishedMost_14 (by decide) (by omega) (fun c14 => ?_) (fun c14 => ?_)) | refine Rp.icmp_ge (tgt := 89) dX12_wishedMost_14 (by decide) (fun c14 => ?_) (fun c14 => ?_)
        · skip
          first | (exfalso; omega) | exact absurd c14 (by decide) | exact absurd (by decide) c14
        · skip
          refine Rp.aload_n dX12_wishedMost_17 rfl rfl ?_
          refine Rp.iload dX12_wishedMost_18 rfl ?_
          refine Rp.callV1 M_X12_holderOf (ci := 12) dX12_wishedMost_20 mo_X12_holderOf lk_X12_151 (by decide) rfl rfl (S _ _ rfl) (Nat.le_of_ble_eq_true rfl) (Nat.le_of_ble_eq_true rfl) (ho) (fun v1 h1 p1 x1 => ?_)
          rw [p1.1, p1.2]
          try dsimp only [Option.toList, List.cons_append, List.nil_append, List.append]
          refine Rp.ist5 dX12_wishedMost_23 (by first | exact nl2_some rfl | exact nl2_none) (by decide) ?_
          refine Rp.iload dX12_wishedMost_25 rfl ?_
          refine Rp.iconst (-1) dX12_wishedMost_27 (by decide) ?_
          first | ((with_reducible show Rp _ _ _ _ (.int (nI _) :: .int (nI _) :: _) _ _); refine Rp.icmp_eqN (tgt := 83) dX12_wishedMost_28 (by decide) (by omega) (fun c28 => ?_) (fun c28 => ?_)) | refine Rp.icmp_eq (tgt := 83) dX12_wishedMost_28 (by decide) (fun c28 => ?_) (fun c28 => ?_)
          · skip
            exact absurd c28 nq
          · skip
            refine Rp.iload_n dX12_wishedMost_31 rfl ?_
            refine Rp.iload dX12_wishedMost_32 rfl ?_
            refine Rp.callS2 M_X12_isIn dX12_wishedMost_34 mo_X12_isIn lk_X12_381 (Nat.le_of_ble_eq_true rfl) (Nat.le_of_ble_eq_true rfl) (isn) (fun v1 h1 p1 x1 => ?_)
            rw [p1.1, p1.2]
            try dsimp only [Option.toList, List.cons_append, List.nil_append, List.append]
            first | ((with_reducible show Rp _ _ _ _ (.int (b2i _) :: _) _ _); refine Rp.if_eqB (tgt := 83) dX12_wishedMost_37 (by decide) (fun c37 => ?_) (fun c37 => ?_)) | ((with_reducible show Rp _ _ _ _ (.int (nI _) :: _) _ _); refine Rp.if_eqN (tgt := 83) dX12_wishedMost_37 (by decide) (by omega) (fun c37 => ?_) (fun c37 => ?_)) | refine Rp.if_eq (tgt := 83) dX12_wishedMost_37 (by decide) (fun c37 => ?_) (fun c37 => ?_)
            · skip
              first | ((with_reducible show Rp _ _ _ (_ :: _ :: _ :: _ :: some (.int (nI _)) :: _) _ _ _); refine Rp.inc4N (c := 1) dX12_wishedMost_83 (by first | exact nl2_some rfl | exact nl2_none) (by decide) ?_) | refine Rp.inc4 _ dX12_wishedMost_83 rfl (by first | exact nl2_some rfl | exact nl2_none) (by decide) ?_
              refine Rp.goto (tgt := 5) dX12_wishedMost_86 (by decide) ?_
              exact k2
            · skip
              cases c37
      · rw [cl] at isn
        rw [eB, cl, Bool.true_and] at k1
        have take59 : ∀ g1 : AH, MA g1 fl np nt US → gI g1 102 = K → Fr tlX h0 g1 → (decide (nI q = nI p) || !oBr K fl p t) = true → Rp (d + 76) M_X12_wishedMost 59 [some (.ref aM), some (.int (nI p)), some (.int (nI U)), some (.int (oI (wmF K fl np (fun q => Nat.testBit U q) p t))), some (.int (nI t)), some (.int (nI q))] [] g1 (fun r h' => MA h' fl np nt US ∧ gI h' 102 = K ∧ Fr tlX h0 h' ∧ r = some (.int (oI (wmF K fl np (fun q => Nat.testBit U q) p nt)))) := by
          intro g1 A1 K1 F1 ht
          have S1 := A1.1
          have R1 := A1.2.1
          rw [if_pos ht] at k1
          have k2 := k1 g1 (some (.int (nI q))) A1 K1 F1
          have w1 := s_wishOf (d + 75) S1 R1 (q := p) (u := t) (by omega) (by omega)
          rw [show gI g1 am_kept = K from K1, Nat.add_assoc, we] at w1
          match hx : wmF K fl np (fun q => Nat.testBit U q) p t with
          | none =>
            rw [hx] at k2
            dsimp only [oI] at k2 ⊢
            refine Rp.iload_n dX12_wishedMost_59 rfl ?_
            refine Rp.iconst (-1) dX12_wishedMost_60 (by decide) ?_
            first | ((with_reducible show Rp _ _ _ _ (.int (nI _) :: .int (nI _) :: _) _ _); refine Rp.icmp_eqN (tgt := 80) dX12_wishedMost_61 (by decide) (by omega) (fun c61 => ?_) (fun c61 => ?_)) | refine Rp.icmp_eq (tgt := 80) dX12_wishedMost_61 (by decide) (fun c61 => ?_) (fun c61 => ?_)
            · skip
              refine Rp.iload dX12_wishedMost_80 rfl ?_
              refine Rp.ist3 dX12_wishedMost_82 (by first | exact nl2_some rfl | exact nl2_none) (by decide) ?_
              first | ((with_reducible show Rp _ _ _ (_ :: _ :: _ :: _ :: some (.int (nI _)) :: _) _ _ _); refine Rp.inc4N (c := 1) dX12_wishedMost_83 (by first | exact nl2_some rfl | exact nl2_none) (by decide) ?_) | refine Rp.inc4 _ dX12_wishedMost_83 rfl (by first | exact nl2_some rfl | exact nl2_none) (by decide) ?_
              refine Rp.goto (tgt := 5) dX12_wishedMost_86 (by decide) ?_
              exact k2
            · skip
              exact absurd rfl c61
          | some b =>
            rw [hx] at k2
            have bb := (wmF_b t b hx).1
            have wb := W.is (p := p) (t := b) (by omega) (by omega)
            have w2 := s_wishOf (d + 75) S1 R1 (q := p) (u := b) (by omega) (by omega)
            rw [show gI g1 am_kept = K from K1, Nat.add_assoc, wb.1] at w2
            have wb2 := wb.2
            have nb : ¬ nI b = -1 := nI_m1 (by omega)
            dsimp only at k2
            by_cases c2 : wsN K p b < wsN K p t
            · rw [if_pos c2] at k2
              dsimp only [oI] at k2 ⊢
              refine Rp.iload_n dX12_wishedMost_59 rfl ?_
              refine Rp.iconst (-1) dX12_wishedMost_60 (by decide) ?_
              first | ((with_reducible show Rp _ _ _ _ (.int (nI _) :: .int (nI _) :: _) _ _); refine Rp.icmp_eqN (tgt := 80) dX12_wishedMost_61 (by decide) (by omega) (fun c61 => ?_) (fun c61 => ?_)) | refine Rp.icmp_eq (tgt := 80) dX12_wishedMost_61 (by decide) (fun c61 => ?_) (fun c61 => ?_)
              · skip
                exact absurd c61 nb
              · skip
                refine Rp.aload_n dX12_wishedMost_64 rfl rfl ?_
                refine Rp.iload_n dX12_wishedMost_65 rfl ?_
                refine Rp.iload dX12_wishedMost_66 rfl ?_
                refine Rp.callV2 M_X12_wishOf (ci := 12) dX12_wishedMost_68 mo_X12_wishOf lk_X12_154 (by decide) rfl rfl (S1 _ _ rfl) (Nat.le_of_ble_eq_true rfl) (Nat.le_of_ble_eq_true rfl) (w1) (fun v1 h1 p1 x1 => ?_)
                rw [p1.1, p1.2]
                try dsimp only [Option.toList, List.cons_append, List.nil_append, List.append]
                refine Rp.aload_n dX12_wishedMost_71 rfl rfl ?_
                refine Rp.iload_n dX12_wishedMost_72 rfl ?_
                refine Rp.iload_n dX12_wishedMost_73 rfl ?_
                refine Rp.callV2 M_X12_wishOf (ci := 12) dX12_wishedMost_74 mo_X12_wishOf lk_X12_154 (by decide) rfl rfl (S1 _ _ rfl) (Nat.le_of_ble_eq_true rfl) (Nat.le_of_ble_eq_true rfl) (w2) (fun v1 h1 p1 x1 => ?_)
                rw [p1.1, p1.2]
                try dsimp only [Option.toList, List.cons_append, List.nil_append, List.append]
                first | ((with_reducible show Rp _ _ _ _ (.int (nI _) :: .int (nI _) :: _) _ _); refine Rp.icmp_leN (tgt := 83) dX12_wishedMost_77 (by decide) (by omega) (fun c77 => ?_) (fun c77 => ?_)) | refine Rp.icmp_le (tgt := 83) dX12_wishedMost_77 (by decide) (fun c77 => ?_) (fun c77 => ?_)
                · skip
                  first | (exfalso; omega) | exact absurd c77 (by decide) | exact absurd (by decide) c77
                · skip
                  refine Rp.iload dX12_wishedMost_80 rfl ?_
                  refine Rp.ist3 dX12_wishedMost_82 (by first | exact nl2_some rfl | exact nl2_none) (by decide) ?_
                  first | ((with_reducible show Rp _ _ _ (_ :: _ :: _ :: _ :: some (.int (nI _)) :: _) _ _ _); refine Rp.inc4N (c := 1) dX12_wishedMost_83 (by first | exact nl2_some rfl | exact nl2_none) (by decide) ?_) | refine Rp.inc4 _ dX12_wishedMost_83 rfl (by first | exact nl2_some rfl | exact nl2_none) (by decide) ?_
                  refine Rp.goto (tgt := 5) dX12_wishedMost_86 (by decide) ?_
                  exact k2
            · rw [if_neg c2] at k2
              dsimp only [oI] at k2 ⊢
              refine Rp.iload_n dX12_wishedMost_59 rfl ?_
              refine Rp.iconst (-1) dX12_wishedMost_60 (by decide) ?_
              first | ((with_reducible show Rp _ _ _ _ (.int (nI _) :: .int (nI _) :: _) _ _); refine Rp.icmp_eqN (tgt := 80) dX12_wishedMost_61 (by decide) (by omega) (fun c61 => ?_) (fun c61 => ?_)) | refine Rp.icmp_eq (tgt := 80) dX12_wishedMost_61 (by decide) (fun c61 => ?_) (fun c61 => ?_)
              · skip
                exact absurd c61 nb
              · skip
                refine Rp.aload_n dX12_wishedMost_64 rfl rfl ?_
                refine Rp.iload_n dX12_wishedMost_65 rfl ?_
                refine Rp.iload dX12_wishedMost_66 rfl ?_
                refine Rp.callV2 M_X12_wishOf (ci := 12) dX12_wishedMost_68 mo_X12_wishOf lk_X12_154 (by decide) rfl rfl (S1 _ _ rfl) (Nat.le_of_ble_eq_true rfl) (Nat.le_of_ble_eq_true rfl) (w1) (fun v1 h1 p1 x1 => ?_)
                rw [p1.1, p1.2]
                try dsimp only [Option.toList, List.cons_append, List.nil_append, List.append]
                refine Rp.aload_n dX12_wishedMost_71 rfl rfl ?_
                refine Rp.iload_n dX12_wishedMost_72 rfl ?_
                refine Rp.iload_n dX12_wishedMost_73 rfl ?_
                refine Rp.callV2 M_X12_wishOf (ci := 12) dX12_wishedMost_74 mo_X12_wishOf lk_X12_154 (by decide) rfl rfl (S1 _ _ rfl) (Nat.le_of_ble_eq_true rfl) (Nat.le_of_ble_eq_true rfl) (w2) (fun v1 h1 p1 x1 => ?_)
                rw [p1.1, p1.2]
                try dsimp only [Option.toList, List.cons_append, List.nil_append, List.append]
                first | ((with_reducible show Rp _ _ _ _ (.int (nI _) :: .int (nI _) :: _) _ _); refine Rp.icmp_leN (tgt := 83) dX12_wishedMost_77 (by decide) (by omega) (fun c77 => ?_) (fun c77 => ?_)) | refine Rp.icmp_le (tgt := 83) dX12_wishedMost_77 (by decide) (fun c77 => ?_) (fun c77 => ?_)
                · skip
                  first | ((with_reducible show Rp _ _ _ (_ :: _ :: _ :: _ :: some (.int (nI _)) :: _) _ _ _); refine Rp.inc4N (c := 1) dX12_wishedMost_83 (by first | exact nl2_some rfl | exact nl2_none) (by decide) ?_) | refine Rp.inc4 _ dX12_wishedMost_83 rfl (by first | exact nl2_some rfl | exact nl2_none) (by decide) ?_
                  refine Rp.goto (tgt := 5) dX12_wishedMost_86 (by decide) ?_
                  exact k2
                · skip
                  first | (exfalso; omega) | exact absurd c77 (by decide) | exact absurd (by decide) c77
        by_cases c3 : q = p
        · have k59 := take59 g A hK F (by rw [decide_eq_true (by rw [c3])]; rfl)
          refine Rp.iload dX12_wishedMost_5 rfl ?_
          refine Rp.aload_n dX12_wishedMost_7 rfl rfl ?_
          refine Rp.getR dX12_wishedMost_8 fk_X12_24 rfl (S _ _ rfl) (R _ _ _ rfl) ?_
          refine Rp.bipush (nI 104) dX12_wishedMost_11 (by decide) ?_
          first | ((with_reducible show Rp _ _ _ _ (.int (nI _) :: _) _ _); refine Rp.ialoadN dX12_wishedMost_13 (S _ _ rfl) (by omega) ?_) | refine Rp.iaload dX12_wishedMost_13 (S _ _ rfl) (by first | assumption | exact vpb (by decide)) ?_
          first | rw [e104] | skip
          first | ((with_reducible show Rp _ _ _ _ (.int (nI _) :: .int (nI _) :: _) _ _); refine Rp.icmp_geN (tgt := 89) dX12_wishedMost_14 (by decide) (by omega) (fun c14 => ?_) (fun c14 => ?_)) | refine Rp.icmp_ge (tgt := 89) dX12_wishedMost_14 (by decide) (fun c14 => ?_) (fun c14 => ?_)
          · skip
            first | (exfalso; omega) | exact absurd c14 (by decide) | exact absurd (by decide) c14
          · skip
            refine Rp.aload_n dX12_wishedMost_17 rfl rfl ?_
            refine Rp.iload dX12_wishedMost_18 rfl ?_
            refine Rp.callV1 M_X12_holderOf (ci := 12) dX12_wishedMost_20 mo_X12_holderOf lk_X12_151 (by decide) rfl rfl (S _ _ rfl) (Nat.le_of_ble_eq_true rfl) (Nat.le_of_ble_eq_true rfl) (ho) (fun v1 h1 p1 x1 => ?_)
            rw [p1.1, p1.2]
            try dsimp only [Option.toList, List.cons_append, List.nil_append, List.append]
            refine Rp.ist5 dX12_wishedMost_23 (by first | exact nl2_some rfl | exact nl2_none) (by decide) ?_
            refine Rp.iload dX12_wishedMost_25 rfl ?_
            refine Rp.iconst (-1) dX12_wishedMost_27 (by decide) ?_
            first | ((with_reducible show Rp _ _ _ _ (.int (nI _) :: .int (nI _) :: _) _ _); refine Rp.icmp_eqN (tgt := 83) dX12_wishedMost_28 (by decide) (by omega) (fun c28 => ?_) (fun c28 => ?_)) | refine Rp.icmp_eq (tgt := 83) dX12_wishedMost_28 (by decide) (fun c28 => ?_) (fun c28 => ?_)
            · skip
              exact absurd c28 nq
            · skip
              refine Rp.iload_n dX12_wishedMost_31 rfl ?_
              refine Rp.iload dX12_wishedMost_32 rfl ?_
              refine Rp.callS2 M_X12_isIn dX12_wishedMost_34 mo_X12_isIn lk_X12_381 (Nat.le_of_ble_eq_true rfl) (Nat.le_of_ble_eq_true rfl) (isn) (fun v1 h1 p1 x1 => ?_)
              rw [p1.1, p1.2]
              try dsimp only [Option.toList, List.cons_append, List.nil_append, List.append]
              first | ((with_reducible show Rp _ _ _ _ (.int (b2i _) :: _) _ _); refine Rp.if_eqB (tgt := 83) dX12_wishedMost_37 (by decide) (fun c37 => ?_) (fun c37 => ?_)) | ((with_reducible show Rp _ _ _ _ (.int (nI _) :: _) _ _); refine Rp.if_eqN (tgt := 83) dX12_wishedMost_37 (by decide) (by omega) (fun c37 => ?_) (fun c37 => ?_)) | refine Rp.if_eq (tgt := 83) dX12_wishedMost_37 (by decide) (fun c37 => ?_) (fun c37 => ?_)
              · skip
                cases c37
              · skip
                refine Rp.iload dX12_wishedMost_40 rfl ?_
                refine Rp.iload_n dX12_wishedMost_42 rfl ?_
                first | ((with_reducible show Rp _ _ _ _ (.int (nI _) :: .int (nI _) :: _) _ _); refine Rp.icmp_eqN (tgt := 59) dX12_wishedMost_43 (by decide) (by omega) (fun c43 => ?_) (fun c43 => ?_)) | refine Rp.icmp_eq (tgt := 59) dX12_wishedMost_43 (by decide) (fun c43 => ?_) (fun c43 => ?_)
                · skip
                  exact k59
                · skip
                  first | (exfalso; omega) | exact absurd c43 (by decide) | exact absurd (by decide) c43
        · have nqp : ¬ nI q = nI p := fun z => c3 (nI_inj (by omega) (by omega) z)
          have br := s_isBarred d (h := g) (fl := fl) S R A.2.2.1 A.2.2.2.1 (p := p) (t := t) (by omega) (by omega)
          rw [show gI g am_kept = K from hK] at br
          refine Rp.iload dX12_wishedMost_5 rfl ?_
          refine Rp.aload_n dX12_wishedMost_7 rfl rfl ?_
          refine Rp.getR dX12_wishedMost_8 fk_X12_24 rfl (S _ _ rfl) (R _ _ _ rfl) ?_
          refine Rp.bipush (nI 104) dX12_wishedMost_11 (by decide) ?_
          first | ((with_reducible show Rp _ _ _ _ (.int (nI _) :: _) _ _); refine Rp.ialoadN dX12_wishedMost_13 (S _ _ rfl) (by omega) ?_) | refine Rp.iaload dX12_wishedMost_13 (S _ _ rfl) (by first | assumption | exact vpb (by decide)) ?_
          first | rw [e104] | skip
          first | ((with_reducible show Rp _ _ _ _ (.int (nI _) :: .int (nI _) :: _) _ _); refine Rp.icmp_geN (tgt := 89) dX12_wishedMost_14 (by decide) (by omega) (fun c14 => ?_) (fun c14 => ?_)) | refine Rp.icmp_ge (tgt := 89) dX12_wishedMost_14 (by decide) (fun c14 => ?_) (fun c14 => ?_)
          · first | (exfalso; omega) | exact absurd c14 (by decide) | exact absurd (by decide) c14
          refine Rp.aload_n dX12_wishedMost_17 rfl rfl ?_
          refine Rp.iload dX12_wishedMost_18 rfl ?_
          refine Rp.callV1 M_X12_holderOf (ci := 12) dX12_wishedMost_20 mo_X12_holderOf lk_X12_151 (by decide) rfl rfl (S _ _ rfl) (Nat.le_of_ble_eq_true rfl) (Nat.le_of_ble_eq_true rfl) (ho) (fun v1 h1 p1 x1 => ?_)
          rw [p1.1, p1.2]
          try dsimp only [Option.toList, List.cons_append, List.nil_append, List.append]
          refine Rp.ist5 dX12_wishedMost_23 (by first | exact nl2_some rfl | exact nl2_none) (by decide) ?_
          refine Rp.iload dX12_wishedMost_25 rfl ?_
          refine Rp.iconst (-1) dX12_wishedMost_27 (by decide) ?_
          first | ((with_reducible show Rp _ _ _ _ (.int (nI _) :: .int (nI _) :: _) _ _); refine Rp.icmp_eqN (tgt := 83) dX12_wishedMost_28 (by decide) (by omega) (fun c28 => ?_) (fun c28 => ?_)) | refine Rp.icmp_eq (tgt := 83) dX12_wishedMost_28 (by decide) (fun c28 => ?_) (fun c28 => ?_)
          · exact absurd c28 nq
          refine Rp.iload_n dX12_wishedMost_31 rfl ?_
          refine Rp.iload dX12_wishedMost_32 rfl ?_
          refine Rp.callS2 M_X12_isIn dX12_wishedMost_34 mo_X12_isIn lk_X12_381 (Nat.le_of_ble_eq_true rfl) (Nat.le_of_ble_eq_true rfl) (isn) (fun v1 h1 p1 x1 => ?_)
          rw [p1.1, p1.2]
          try dsimp only [Option.toList, List.cons_append, List.nil_append, List.append]
          first | ((with_reducible show Rp _ _ _ _ (.int (b2i _) :: _) _ _); refine Rp.if_eqB (tgt := 83) dX12_wishedMost_37 (by decide) (fun c37 => ?_) (fun c37 => ?_)) | ((with_reducible show Rp _ _ _ _ (.int (nI _) :: _) _ _); refine Rp.if_eqN (tgt := 83) dX12_wishedMost_37 (by decide) (by omega) (fun c37 => ?_) (fun c37 => ?_)) | refine Rp.if_eq (tgt := 83) dX12_wishedMost_37 (by decide) (fun c37 => ?_) (fun c37 => ?_)
          · cases c37
          refine Rp.iload dX12_wishedMost_40 rfl ?_
          refine Rp.iload_n dX12_wishedMost_42 rfl ?_
          first | ((with_reducible show Rp _ _ _ _ (.int (nI _) :: .int (nI _) :: _) _ _); refine Rp.icmp_eqN (tgt := 59) dX12_wishedMost_43 (by decide) (by omega) (fun c43 => ?_) (fun c43 => ?_)) | refine Rp.icmp_eq (tgt := 59) dX12_wishedMost_43 (by decide) (fun c43 => ?_) (fun c43 => ?_)
          · first | (exfalso; omega) | exact absurd c43 (by decide) | exact absurd (by decide) c43
          refine Rp.aload_n dX12_wishedMost_46 rfl rfl ?_
          refine Rp.iload_n dX12_wishedMost_47 rfl ?_
          refine Rp.iload dX12_wishedMost_48 rfl ?_
          refine Rp.callV2 M_X12_isBarred (ci := 12) dX12_wishedMost_50 mo_X12_isBarred lk_X12_161 (by decide) rfl rfl (S _ _ rfl) (Nat.le_of_ble_eq_true rfl) (Nat.le_of_ble_eq_true rfl) (br) (fun v1 h1 p1 x1 => ?_)
          obtain ⟨F1, rfl⟩ := p1
          try dsimp only [Option.toList, List.cons_append, List.nil_append, List.append]
          skip
          have A1 := A.tl F1
          have K1 : gI h1 102 = K := (funext fun j => F1.I 102 j rfl).trans hK
          cases c4 : oBr K fl p t
          · have k59 := take59 h1 A1 K1 (F.trans F1) (by rw [c4]; cases decide (nI q = nI p) <;> rfl)
            first | ((with_reducible show Rp _ _ _ _ (.int (b2i _) :: _) _ _); refine Rp.if_eqB (tgt := 59) dX12_wishedMost_53 (by decide) (fun c53 => ?_) (fun c53 => ?_)) | ((with_reducible show Rp _ _ _ _ (.int (nI _) :: _) _ _); refine Rp.if_eqN (tgt := 59) dX12_wishedMost_53 (by decide) (by omega) (fun c53 => ?_) (fun c53 => ?_)) | refine Rp.if_eq (tgt := 59) dX12_wishedMost_53 (by decide) (fun c53 => ?_) (fun c53 => ?_)
            · skip
              exact k59
            · skip
              cases c53
          · rw [c4, decide_eq_false nqp, if_neg (by decide)] at k1
            have k2 := k1 h1 (some (.int (nI q))) A1 K1 (F.trans F1)
            first | ((with_reducible show Rp _ _ _ _ (.int (b2i _) :: _) _ _); refine Rp.if_eqB (tgt := 59) dX12_wishedMost_53 (by decide) (fun c53 => ?_) (fun c53 => ?_)) | ((with_reducible show Rp _ _ _ _ (.int (nI _) :: _) _ _); refine Rp.if_eqN (tgt := 59) dX12_wishedMost_53 (by decide) (by omega) (fun c53 => ?_) (fun c53 => ?_)) | refine Rp.if_eq (tgt := 59) dX12_wishedMost_53 (by decide) (fun c53 => ?_) (fun c53 => ?_)
            · skip
              cases c53
            · skip
              refine Rp.goto (tgt := 83) dX12_wishedMost_56 (by decide) ?_
              first | ((with_reducible show Rp _ _ _ (_ :: _ :: _ :: _ :: some (.int (nI _)) :: _) _ _ _); refine Rp.inc4N (c := 1) dX12_wishedMost_83 (by first | exact nl2_some rfl | exact nl2_none) (by decide) ?_) | refine Rp.inc4 _ dX12_wishedMost_83 rfl (by first | exact nl2_some rfl | exact nl2_none) (by decide) ?_
              refine Rp.goto (tgt := 5) dX12_wishedMost_86 (by decide) ?_
              exact k2
theorem s_wishedMost {g : AH} (A : MA g fl np nt US) (W : KW (gI g 102)) {U : Nat} (hU : U < 64) {p : Nat} (hp : p < np) : Rp (d + 76) M_X12_wishedMost 0 [some (.ref aM), some (.int (nI p)), some (.int (nI U)), none, none, none] [] g (fun r h' => MA h' fl np nt US ∧ gI h' 102 = gI g 102 ∧ Fr tlX g h' ∧ r = some (.int (oI (wmF (gI g 102) fl np (fun q => Nat.testBit U q) p nt)))) := by
  have k5 := mwish5 d (h0 := g) (K := gI g 102) A.2.2.2.2.1 W A.2.2.2.2.2.1 A.2.2.2.2.2.2.1 hU hp nt 0 g none (by omega) A rfl Fr.rfl'
  refine Rp.iconst (-1) dX12_wishedMost_0 (by decide) ?_
  refine Rp.ist3 dX12_wishedMost_1 (by first | exact nl2_some rfl | exact nl2_none) (by decide) ?_
  refine Rp.iconst (nI 0) dX12_wishedMost_2 (by decide) ?_
  refine Rp.ist4 dX12_wishedMost_3 (by first | exact nl2_some rfl | exact nl2_none) (by decide) ?_
  exact k5
end Mr
/-- going on from at, at most k steps: whether one comes to p -/
def onL (f : Nat → Nat) (p : Nat) : Nat → Nat → Bool
  | 0, a => decide (a = p)
  | k + 1, a => if a = p then true else onL f p k (f a)
def onR (f : Nat → Nat) (p : Nat) : Bool := onL f p 6 (f p)
/-- the lowest on the way -/
def loL (f : Nat → Nat) (p : Nat) : Nat → Nat → Nat → Nat
  | 0, _, l => l
  | k + 1, a, l => if a = p then l else loL f p k (f a) (min l (f a))
def loR (f : Nat → Nat) (p : Nat) : Nat := loL f p 6 (f p) (min p (f p))
section Ir
variable (d : Nat) {h : AH} {lf : Nat → Bool}
theorem ring9 {f : Nat → Nat} (S : ShOK h) (R : RfOK h) (hf : ∀ q, lf q = true → q < 6 ∧ lf (f q) = true ∧ gI h 123 q = nI (f q)) {p : Nat} (hp : lf p = true) : ∀ (m k a : Nat), k + m = 6 → lf a = true → Rp d M_X12_isOnRing 9 [some (.ref aM), some (.int (nI p)), some (.int (nI a)), some (.int (nI k))] [] h (fun r h' => h' = h ∧ r = some (.int (b2i (onL f p m a)))) := by
  have p6 := (hf p hp).1
  intro m
  induction m with
  | zero =>
    intro k a hm ha
    have e : k = 6 := by omega
    subst e
    have a6 := (hf a ha).1
    by_cases c : a = p
    · rw [onL, decide_eq_true c]
      refine Rp.iload_n dX12_isOnRing_9 rfl ?_
      refine Rp.bipush (nI 6) dX12_isOnRing_10 (by decide) ?_
      first | ((with_reducible show Rp _ _ _ _ (.int (nI _) :: .int (nI _) :: _) _ _); refine Rp.icmp_geN (tgt := 33) dX12_isOnRing_12 (by decide) (by omega) (fun c12 => ?_) (fun c12 => ?_)) | refine Rp.icmp_ge (tgt := 33) dX12_isOnRing_12 (by decide) (fun c12 => ?_) (fun c12 => ?_)
      · skip
        refine Rp.iload_n dX12_isOnRing_33 rfl ?_
        refine Rp.iload_n dX12_isOnRing_34 rfl ?_
        first | ((with_reducible show Rp _ _ _ _ (.int (nI _) :: .int (nI _) :: _) _ _); refine Rp.icmp_neN (tgt := 42) dX12_isOnRing_35 (by decide) (by omega) (fun c35 => ?_) (fun c35 => ?_)) | refine Rp.icmp_ne (tgt := 42) dX12_isOnRing_35 (by decide) (fun c35 => ?_) (fun c35 => ?_)
        · skip
          first | (exfalso; omega) | exact absurd c35 (by decide) | exact absurd (by decide) c35
        · skip
          refine Rp.iconst (nI 1) dX12_isOnRing_38 (by decide) ?_
          refine Rp.goto (tgt := 43) dX12_isOnRing_39 (by decide) ?_
          refine Rp.zreturn dX12_isOnRing_43 rfl (by first | exact Or.inl rfl | exact Or.inr rfl | assumption) ?_
          exact ⟨rfl, rfl⟩
      · skip
        first | (exfalso; omega) | exact absurd c12 (by decide) | exact absurd (by decide) c12
    · rw [onL, decide_eq_false c]
      refine Rp.iload_n dX12_isOnRing_9 rfl ?_
      refine Rp.bipush (nI 6) dX12_isOnRing_10 (by decide) ?_
      first | ((with_reducible show Rp _ _ _ _ (.int (nI _) :: .int (nI _) :: _) _ _); refine Rp.icmp_geN (tgt := 33) dX12_isOnRing_12 (by decide) (by omega) (fun c12 => ?_) (fun c12 => ?_)) | refine Rp.icmp_ge (tgt := 33) dX12_isOnRing_12 (by decide) (fun c12 => ?_) (fun c12 => ?_)
      · skip
        refine Rp.iload_n dX12_isOnRing_33 rfl ?_
        refine Rp.iload_n dX12_isOnRing_34 rfl ?_
        first | ((with_reducible show Rp _ _ _ _ (.int (nI _) :: .int (nI _) :: _) _ _); refine Rp.icmp_neN (tgt := 42) dX12_isOnRing_35 (by decide) (by omega) (fun c35 => ?_) (fun c35 => ?_)) | refine Rp.icmp_ne (tgt := 42) dX12_isOnRing_35 (by decide) (fun c35 => ?_) (fun c35 => ?_)
        · skip
          refine Rp.iconst (nI 0) dX12_isOnRing_42 (by decide) ?_
          refine Rp.zreturn dX12_isOnRing_43 rfl (by first | exact Or.inl rfl | exact Or.inr rfl | assumption) ?_
          exact ⟨rfl, rfl⟩
        · skip
          first | (exfalso; omega) | exact absurd c35 (by decide) | exact absurd (by decide) c35
      · skip
        first | (exfalso; omega) | exact absurd c12 (by decide) | exact absurd (by decide) c12
  | succ m ih =>
    intro k a hm ha
    have a6 := (hf a ha).1
    rw [onL]
    by_cases c : a = p
    · rw [if_pos c]
      refine Rp.iload_n dX12_isOnRing_9 rfl ?_
      refine Rp.bipush (nI 6) dX12_isOnRing_10 (by decide) ?_
      first | ((with_reducible show Rp _ _ _ _ (.int (nI _) :: .int (nI _) :: _) _ _); refine Rp.icmp_geN (tgt := 33) dX12_isOnRing_12 (by decide) (by omega) (fun c12 => ?_) (fun c12 => ?_)) | refine Rp.icmp_ge (tgt := 33) dX12_isOnRing_12 (by decide) (fun c12 => ?_) (fun c12 => ?_)
      · skip
        first | (exfalso; omega) | exact absurd c12 (by decide) | exact absurd (by decide) c12
      · skip
        refine Rp.iload_n dX12_isOnRing_15 rfl ?_
        refine Rp.iload_n dX12_isOnRing_16 rfl ?_
        first | ((with_reducible show Rp _ _ _ _ (.int (nI _) :: .int (nI _) :: _) _ _); refine Rp.icmp_eqN (tgt := 33) dX12_isOnRing_17 (by decide) (by omega) (fun c17 => ?_) (fun c17 => ?_)) | refine Rp.icmp_eq (tgt := 33) dX12_isOnRing_17 (by decide) (fun c17 => ?_) (fun c17 => ?_)
        · skip
          refine Rp.iload_n dX12_isOnRing_33 rfl ?_
          refine Rp.iload_n dX12_isOnRing_34 rfl ?_
          first | ((with_reducible show Rp _ _ _ _ (.int (nI _) :: .int (nI _) :: _) _ _); refine Rp.icmp_neN (tgt := 42) dX12_isOnRing_35 (by decide) (by omega) (fun c35 => ?_) (fun c35 => ?_)) | refine Rp.icmp_ne (tgt := 42) dX12_isOnRing_35 (by decide) (fun c35 => ?_) (fun c35 => ?_)
          · skip
            first | (exfalso; omega) | exact absurd c35 (by decide) | exact absurd (by decide) c35
          · skip
            refine Rp.iconst (nI 1) dX12_isOnRing_38 (by decide) ?_
            refine Rp.goto (tgt := 43) dX12_isOnRing_39 (by decide) ?_
            refine Rp.zreturn dX12_isOnRing_43 rfl (by first | exact Or.inl rfl | exact Or.inr rfl | assumption) ?_
            exact ⟨rfl, rfl⟩
        · skip
          first | (exfalso; omega) | exact absurd c17 (by decide) | exact absurd (by decide) c17
    · rw [if_neg c]
      have k1 := ih (k + 1) (f a) (by omega) (hf a ha).2.1
      have ea := (hf a ha).2.2
      refine Rp.iload_n dX12_isOnRing_9 rfl ?_
      refine Rp.bipush (nI 6) dX12_isOnRing_10 (by decide) ?_
      first | ((with_reducible show Rp _ _ _ _ (.int (nI _) :: .int (nI _) :: _) _ _); refine Rp.icmp_geN (tgt := 33) dX12_isOnRing_12 (by decide) (by omega) (fun c12 => ?_) (fun c12 => ?_)) | refine Rp.icmp_ge (tgt := 33) dX12_isOnRing_12 (by decide) (fun c12 => ?_) (fun c12 => ?_)
      · skip
        first | (exfalso; omega) | exact absurd c12 (by decide) | exact absurd (by decide) c12
      · skip
        refine Rp.iload_n dX12_isOnRing_15 rfl ?_
        refine Rp.iload_n dX12_isOnRing_16 rfl ?_
        first | ((with_reducible show Rp _ _ _ _ (.int (nI _) :: .int (nI _) :: _) _ _); refine Rp.icmp_eqN (tgt := 33) dX12_isOnRing_17 (by decide) (by omega) (fun c17 => ?_) (fun c17 => ?_)) | refine Rp.icmp_eq (tgt := 33) dX12_isOnRing_17 (by decide) (fun c17 => ?_) (fun c17 => ?_)
        · skip
          first | (exfalso; omega) | exact absurd c17 (by decide) | exact absurd (by decide) c17
        · skip
          refine Rp.aload_n dX12_isOnRing_20 rfl rfl ?_
          refine Rp.getR dX12_isOnRing_21 fk_X12_92 rfl (S _ _ rfl) (R _ _ _ rfl) ?_
          refine Rp.iload_n dX12_isOnRing_24 rfl ?_
          first | ((with_reducible show Rp _ _ _ _ (.int (nI _) :: _) _ _); refine Rp.ialoadN dX12_isOnRing_25 (S _ _ rfl) (by omega) ?_) | refine Rp.iaload dX12_isOnRing_25 (S _ _ rfl) (by first | assumption | exact vpb (by decide)) ?_
          first | rw [ea] | skip
          refine Rp.ist2 dX12_isOnRing_26 (by first | exact nl2_some rfl | exact nl2_none) (by decide) ?_
          first | ((with_reducible show Rp _ _ _ (_ :: _ :: _ :: some (.int (nI _)) :: _) _ _ _); refine Rp.inc3N (c := 1) dX12_isOnRing_27 (by first | exact nl2_some rfl | exact nl2_none) (by decide) ?_) | refine Rp.inc3 _ dX12_isOnRing_27 rfl (by first | exact nl2_some rfl | exact nl2_none) (by decide) ?_
          refine Rp.goto (tgt := 9) dX12_isOnRing_30 (by decide) ?_
          exact k1
theorem s_isOnRing {f : Nat → Nat} (S : ShOK h) (R : RfOK h) (hf : ∀ q, lf q = true → q < 6 ∧ lf (f q) = true ∧ gI h 123 q = nI (f q)) {p : Nat} (hp : lf p = true) : Rp d M_X12_isOnRing 0 [some (.ref aM), some (.int (nI p)), none, none] [] h (fun r h' => h' = h ∧ r = some (.int (b2i (onR f p)))) := by
  have p6 := (hf p hp).1
  have ea := (hf p hp).2.2
  have k9 := ring9 d S R hf hp 6 0 (f p) (by omega) (hf p hp).2.1
  refine Rp.aload_n dX12_isOnRing_0 rfl rfl ?_
  refine Rp.getR dX12_isOnRing_1 fk_X12_92 rfl (S _ _ rfl) (R _ _ _ rfl) ?_
  refine Rp.iload_n dX12_isOnRing_4 rfl ?_
  first | ((with_reducible show Rp _ _ _ _ (.int (nI _) :: _) _ _); refine Rp.ialoadN dX12_isOnRing_5 (S _ _ rfl) (by omega) ?_) | refine Rp.iaload dX12_isOnRing_5 (S _ _ rfl) (by first | assumption | exact vpb (by decide)) ?_
  first | rw [ea] | skip
  refine Rp.ist2 dX12_isOnRing_6 (by first | exact nl2_some rfl | exact nl2_none) (by decide) ?_
  refine Rp.iconst (nI 0) dX12_isOnRing_7 (by decide) ?_
  refine Rp.ist3 dX12_isOnRing_8 (by first | exact nl2_some rfl | exact nl2_none) (by decide) ?_
  exact k9
theorem min_nI {a b : Nat} (ha : a < 1000) (hb : b < 1000) : (if nI a < nI b then nI a else nI b) = nI (min a b) ∧ (if nI b < nI a then nI b else nI a) = nI (min a b) := by
  constructor
  · by_cases c : a < b
    · rw [if_pos (by rw [i32_lt, nI_toInt (by omega), nI_toInt (by omega)]; omega), Nat.min_eq_left (by omega)]
    · rw [if_neg (by rw [i32_lt, nI_toInt (by omega), nI_toInt (by omega)]; omega), Nat.min_eq_right (by omega)]
  · by_cases c : b < a
    · rw [if_pos (by rw [i32_lt, nI_toInt (by omega), nI_toInt (by omega)]; omega), Nat.min_eq_right (by omega)]
    · rw [if_neg (by rw [i32_lt, nI_toInt (by omega), nI_toInt (by omega)]; omega), Nat.min_eq_left (by omega)]
end Ir
