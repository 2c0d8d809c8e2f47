section Md3
variable (d : Nat) {h : AH} {fl : Option (List CLE)} {np nt nd : Nat}
theorem mdone10 {K : Nat → Int32} {s : DS} (S : ShOK h) (R : RfOK h) (hK : gI h 102 = K) (v1 : np ≤ 6) (hM : K 103 = nI np) (hnd : nd ≤ 3) (Y : DYm h s) (DPp : ∀ p, DP s nd 6000 p) {mi : Nat} (hmi : mi < 1000) (u : Int32) : ∀ (m p : Nat), p + m = np → Rp (d + 1) M_X12_areDone 10 [some (.ref aM), some (.int u), some (.int (nI mi)), some (.int (b2i (arB K s (nI mi) p))), some (.int (nI p))] [] h (fun r h' => h' = h ∧ r = some (.int (b2i (arB K s (nI mi) np)))) := by
  have e103 : gI h 102 103 = nI np := by rw [hK]; exact hM
  intro m
  induction m with
  | zero =>
    intro p hm
    have e : p = np := by omega
    subst e
    refine Rp.iload dX12_areDone_10 rfl ?_
    refine Rp.aload_n dX12_areDone_12 rfl rfl ?_
    refine Rp.getR dX12_areDone_13 fk_X12_24 rfl (S _ _ rfl) (R _ _ _ rfl) ?_
    refine Rp.bipush (nI 103) dX12_areDone_16 (by decide) ?_
    first | ((with_reducible show Rp _ _ _ _ (.int (nI _) :: _) _ _); refine Rp.ialoadN dX12_areDone_18 (S _ _ rfl) (by omega) ?_) | refine Rp.iaload dX12_areDone_18 (S _ _ rfl) (by first | assumption | exact vpb (by decide)) ?_
    first | rw [e103] | skip
    first | ((with_reducible show Rp _ _ _ _ (.int (nI _) :: .int (nI _) :: _) _ _); refine Rp.icmp_geN (tgt := 69) dX12_areDone_19 (by decide) (by omega) (fun c19 => ?_) (fun c19 => ?_)) | refine Rp.icmp_ge (tgt := 69) dX12_areDone_19 (by decide) (fun c19 => ?_) (fun c19 => ?_)
    · skip
      refine Rp.iload_n dX12_areDone_69 rfl ?_
      refine Rp.zreturn dX12_areDone_70 rfl (b2i_01 _) ?_
      exact ⟨rfl, rfl⟩
    · skip
      first | (exfalso; omega) | exact absurd c19 (by decide) | exact absurd (by decide) c19
  | succ m ih =>
    intro p hm
    have k1 := ih (p + 1) (by omega)
    have hd := s_holds d S R (q := p) (by omega)
    have ed : gI h 117 p = s.2.2.2 p := Y.2.2.2 p (by omega)
    have ee : gI h 116 p = s.2.2.1 p := Y.2.2.1 p (by omega)
    cases ha : arB K s (nI mi) p
    · rw [show arB K s (nI mi) (p + 1) = false by rw [arB, ha]; rfl] at k1
      refine Rp.iload dX12_areDone_10 rfl ?_
      refine Rp.aload_n dX12_areDone_12 rfl rfl ?_
      refine Rp.getR dX12_areDone_13 fk_X12_24 rfl (S _ _ rfl) (R _ _ _ rfl) ?_
      refine Rp.bipush (nI 103) dX12_areDone_16 (by decide) ?_
      first | ((with_reducible show Rp _ _ _ _ (.int (nI _) :: _) _ _); refine Rp.ialoadN dX12_areDone_18 (S _ _ rfl) (by omega) ?_) | refine Rp.iaload dX12_areDone_18 (S _ _ rfl) (by first | assumption | exact vpb (by decide)) ?_
      first | rw [e103] | skip
      first | ((with_reducible show Rp _ _ _ _ (.int (nI _) :: .int (nI _) :: _) _ _); refine Rp.icmp_geN (tgt := 69) dX12_areDone_19 (by decide) (by omega) (fun c19 => ?_) (fun c19 => ?_)) | refine Rp.icmp_ge (tgt := 69) dX12_areDone_19 (by decide) (fun c19 => ?_) (fun c19 => ?_)
      · skip
        first | (exfalso; omega) | exact absurd c19 (by decide) | exact absurd (by decide) c19
      · skip
        refine Rp.iload_n dX12_areDone_22 rfl ?_
        first | ((with_reducible show Rp _ _ _ _ (.int (b2i _) :: _) _ _); refine Rp.if_eqB (tgt := 61) dX12_areDone_23 (by decide) (fun c23 => ?_) (fun c23 => ?_)) | ((with_reducible show Rp _ _ _ _ (.int (nI _) :: _) _ _); refine Rp.if_eqN (tgt := 61) dX12_areDone_23 (by decide) (by omega) (fun c23 => ?_) (fun c23 => ?_)) | refine Rp.if_eq (tgt := 61) dX12_areDone_23 (by decide) (fun c23 => ?_) (fun c23 => ?_)
        · skip
          refine Rp.iconst (nI 0) dX12_areDone_61 (by decide) ?_
          refine Rp.ist3 dX12_areDone_62 (by first | exact nl2_some rfl | exact nl2_none) (by decide) ?_
          first | ((with_reducible show Rp _ _ _ (_ :: _ :: _ :: _ :: some (.int (nI _)) :: _) _ _ _); refine Rp.inc4N (c := 1) dX12_areDone_63 (by first | exact nl2_some rfl | exact nl2_none) (by decide) ?_) | refine Rp.inc4 _ dX12_areDone_63 rfl (by first | exact nl2_some rfl | exact nl2_none) (by decide) ?_
          refine Rp.goto (tgt := 10) dX12_areDone_66 (by decide) ?_
          exact k1
        · skip
          cases c23
    · have st : arB K s (nI mi) (p + 1) = (decide (K p = -1) || (decide (s.2.2.1 p ≠ -1) && decide (s.2.2.1 p ≤ nI mi))) := by rw [arB, ha, Bool.true_and]
      by_cases c1 : K p = -1
      · rw [st, decide_eq_true c1, Bool.true_or] at k1
        rw [show gI h am_kept p = -1 by rw [show gI h am_kept = K from hK]; exact c1] at hd
        refine Rp.iload dX12_areDone_10 rfl ?_
        refine Rp.aload_n dX12_areDone_12 rfl rfl ?_
        refine Rp.getR dX12_areDone_13 fk_X12_24 rfl (S _ _ rfl) (R _ _ _ rfl) ?_
        refine Rp.bipush (nI 103) dX12_areDone_16 (by decide) ?_
        first | ((with_reducible show Rp _ _ _ _ (.int (nI _) :: _) _ _); refine Rp.ialoadN dX12_areDone_18 (S _ _ rfl) (by omega) ?_) | refine Rp.iaload dX12_areDone_18 (S _ _ rfl) (by first | assumption | exact vpb (by decide)) ?_
        first | rw [e103] | skip
        first | ((with_reducible show Rp _ _ _ _ (.int (nI _) :: .int (nI _) :: _) _ _); refine Rp.icmp_geN (tgt := 69) dX12_areDone_19 (by decide) (by omega) (fun c19 => ?_) (fun c19 => ?_)) | refine Rp.icmp_ge (tgt := 69) dX12_areDone_19 (by decide) (fun c19 => ?_) (fun c19 => ?_)
        · skip
          first | (exfalso; omega) | exact absurd c19 (by decide) | exact absurd (by decide) c19
        · skip
          refine Rp.iload_n dX12_areDone_22 rfl ?_
          first | ((with_reducible show Rp _ _ _ _ (.int (b2i _) :: _) _ _); refine Rp.if_eqB (tgt := 61) dX12_areDone_23 (by decide) (fun c23 => ?_) (fun c23 => ?_)) | ((with_reducible show Rp _ _ _ _ (.int (nI _) :: _) _ _); refine Rp.if_eqN (tgt := 61) dX12_areDone_23 (by decide) (by omega) (fun c23 => ?_) (fun c23 => ?_)) | refine Rp.if_eq (tgt := 61) dX12_areDone_23 (by decide) (fun c23 => ?_) (fun c23 => ?_)
          · skip
            cases c23
          · skip
            refine Rp.aload_n dX12_areDone_26 rfl rfl ?_
            refine Rp.iload dX12_areDone_27 rfl ?_
            refine Rp.callV1 M_X12_holds (ci := 12) dX12_areDone_29 mo_X12_holds lk_X12_351 (by decide) rfl rfl (S _ _ rfl) (Nat.le_of_ble_eq_true rfl) (Nat.le_of_ble_eq_true rfl) (hd) (fun v1 h1 p1 x1 => ?_)
            rw [p1.1, p1.2]
            try dsimp only [Option.toList, List.cons_append, List.nil_append, List.append]
            first | ((with_reducible show Rp _ _ _ _ (.int (b2i _) :: _) _ _); refine Rp.if_eqB (tgt := 57) dX12_areDone_32 (by decide) (fun c32 => ?_) (fun c32 => ?_)) | ((with_reducible show Rp _ _ _ _ (.int (nI _) :: _) _ _); refine Rp.if_eqN (tgt := 57) dX12_areDone_32 (by decide) (by omega) (fun c32 => ?_) (fun c32 => ?_)) | refine Rp.if_eq (tgt := 57) dX12_areDone_32 (by decide) (fun c32 => ?_) (fun c32 => ?_)
            · skip
              refine Rp.iconst (nI 1) dX12_areDone_57 (by decide) ?_
              refine Rp.goto (tgt := 62) dX12_areDone_58 (by decide) ?_
              refine Rp.ist3 dX12_areDone_62 (by first | exact nl2_some rfl | exact nl2_none) (by decide) ?_
              first | ((with_reducible show Rp _ _ _ (_ :: _ :: _ :: _ :: some (.int (nI _)) :: _) _ _ _); refine Rp.inc4N (c := 1) dX12_areDone_63 (by first | exact nl2_some rfl | exact nl2_none) (by decide) ?_) | refine Rp.inc4 _ dX12_areDone_63 rfl (by first | exact nl2_some rfl | exact nl2_none) (by decide) ?_
              refine Rp.goto (tgt := 10) dX12_areDone_66 (by decide) ?_
              exact k1
            · skip
              exact absurd c32 (by decide)
      · rw [show decide (gI h am_kept p ≠ -1) = true by rw [show gI h am_kept = K from hK]; exact decide_eq_true c1] at hd
        rcases dnO_is hnd (DPp p) with ⟨e1, e2, -⟩ | ⟨v, hv6, e1, e2, -⟩
        · rw [st, decide_eq_false c1, decide_eq_false (fun z => z e1), Bool.false_and, Bool.false_or] at k1
          rw [e2] at ed
          refine Rp.iload dX12_areDone_10 rfl ?_
          refine Rp.aload_n dX12_areDone_12 rfl rfl ?_
          refine Rp.getR dX12_areDone_13 fk_X12_24 rfl (S _ _ rfl) (R _ _ _ rfl) ?_
          refine Rp.bipush (nI 103) dX12_areDone_16 (by decide) ?_
          first | ((with_reducible show Rp _ _ _ _ (.int (nI _) :: _) _ _); refine Rp.ialoadN dX12_areDone_18 (S _ _ rfl) (by omega) ?_) | refine Rp.iaload dX12_areDone_18 (S _ _ rfl) (by first | assumption | exact vpb (by decide)) ?_
          first | rw [e103] | rw [ed] | skip
          first | ((with_reducible show Rp _ _ _ _ (.int (nI _) :: .int (nI _) :: _) _ _); refine Rp.icmp_geN (tgt := 69) dX12_areDone_19 (by decide) (by omega) (fun c19 => ?_) (fun c19 => ?_)) | refine Rp.icmp_ge (tgt := 69) dX12_areDone_19 (by decide) (fun c19 => ?_) (fun c19 => ?_)
          · skip
            first | (exfalso; omega) | exact absurd c19 (by decide) | exact absurd (by decide) c19
          · skip
            refine Rp.iload_n dX12_areDone_22 rfl ?_
            first | ((with_reducible show Rp _ _ _ _ (.int (b2i _) :: _) _ _); refine Rp.if_eqB (tgt := 61) dX12_areDone_23 (by decide) (fun c23 => ?_) (fun c23 => ?_)) | ((with_reducible show Rp _ _ _ _ (.int (nI _) :: _) _ _); refine Rp.if_eqN (tgt := 61) dX12_areDone_23 (by decide) (by omega) (fun c23 => ?_) (fun c23 => ?_)) | refine Rp.if_eq (tgt := 61) dX12_areDone_23 (by decide) (fun c23 => ?_) (fun c23 => ?_)
            · skip
              cases c23
            · skip
              refine Rp.aload_n dX12_areDone_26 rfl rfl ?_
              refine Rp.iload dX12_areDone_27 rfl ?_
              refine Rp.callV1 M_X12_holds (ci := 12) dX12_areDone_29 mo_X12_holds lk_X12_351 (by decide) rfl rfl (S _ _ rfl) (Nat.le_of_ble_eq_true rfl) (Nat.le_of_ble_eq_true rfl) (hd) (fun v1 h1 p1 x1 => ?_)
              rw [p1.1, p1.2]
              try dsimp only [Option.toList, List.cons_append, List.nil_append, List.append]
              first | ((with_reducible show Rp _ _ _ _ (.int (b2i _) :: _) _ _); refine Rp.if_eqB (tgt := 57) dX12_areDone_32 (by decide) (fun c32 => ?_) (fun c32 => ?_)) | ((with_reducible show Rp _ _ _ _ (.int (nI _) :: _) _ _); refine Rp.if_eqN (tgt := 57) dX12_areDone_32 (by decide) (by omega) (fun c32 => ?_) (fun c32 => ?_)) | refine Rp.if_eq (tgt := 57) dX12_areDone_32 (by decide) (fun c32 => ?_) (fun c32 => ?_)
              · skip
                cases c32
              · skip
                refine Rp.aload_n dX12_areDone_35 rfl rfl ?_
                refine Rp.getR dX12_areDone_36 fk_X12_74 rfl (S _ _ rfl) (R _ _ _ rfl) ?_
                refine Rp.iload dX12_areDone_39 rfl ?_
                first | ((with_reducible show Rp _ _ _ _ (.int (nI _) :: _) _ _); refine Rp.ialoadN dX12_areDone_41 (S _ _ rfl) (by omega) ?_) | refine Rp.iaload dX12_areDone_41 (S _ _ rfl) (by first | assumption | exact vpb (by decide)) ?_
                first | rw [e103] | rw [ed] | skip
                refine Rp.iconst (-1) dX12_areDone_42 (by decide) ?_
                first | ((with_reducible show Rp _ _ _ _ (.int (nI _) :: .int (nI _) :: _) _ _); refine Rp.icmp_eqN (tgt := 61) dX12_areDone_43 (by decide) (by omega) (fun c43 => ?_) (fun c43 => ?_)) | refine Rp.icmp_eq (tgt := 61) dX12_areDone_43 (by decide) (fun c43 => ?_) (fun c43 => ?_)
                · skip
                  refine Rp.iconst (nI 0) dX12_areDone_61 (by decide) ?_
                  refine Rp.ist3 dX12_areDone_62 (by first | exact nl2_some rfl | exact nl2_none) (by decide) ?_
                  first | ((with_reducible show Rp _ _ _ (_ :: _ :: _ :: _ :: some (.int (nI _)) :: _) _ _ _); refine Rp.inc4N (c := 1) dX12_areDone_63 (by first | exact nl2_some rfl | exact nl2_none) (by decide) ?_) | refine Rp.inc4 _ dX12_areDone_63 rfl (by first | exact nl2_some rfl | exact nl2_none) (by decide) ?_
                  refine Rp.goto (tgt := 10) dX12_areDone_66 (by decide) ?_
                  exact k1
                · skip
                  exact absurd rfl c43
        · rw [e1] at ee
          have nv : ¬ nI v = -1 := nI_m1 (by omega)
          by_cases c2 : v ≤ mi
          · rw [st, decide_eq_false c1, e1, decide_eq_true nv, decide_eq_true (show nI v ≤ nI mi by rw [i32_le, nI_toInt (by omega), nI_toInt (by omega)]; omega), Bool.true_and, Bool.false_or] at k1
            refine Rp.iload dX12_areDone_10 rfl ?_
            refine Rp.aload_n dX12_areDone_12 rfl rfl ?_
            refine Rp.getR dX12_areDone_13 fk_X12_24 rfl (S _ _ rfl) (R _ _ _ rfl) ?_
            refine Rp.bipush (nI 103) dX12_areDone_16 (by decide) ?_
            first | ((with_reducible show Rp _ _ _ _ (.int (nI _) :: _) _ _); refine Rp.ialoadN dX12_areDone_18 (S _ _ rfl) (by omega) ?_) | refine Rp.iaload dX12_areDone_18 (S _ _ rfl) (by first | assumption | exact vpb (by decide)) ?_
            first | rw [e103] | rw [ed] | rw [ee] | skip
            first | ((with_reducible show Rp _ _ _ _ (.int (nI _) :: .int (nI _) :: _) _ _); refine Rp.icmp_geN (tgt := 69) dX12_areDone_19 (by decide) (by omega) (fun c19 => ?_) (fun c19 => ?_)) | refine Rp.icmp_ge (tgt := 69) dX12_areDone_19 (by decide) (fun c19 => ?_) (fun c19 => ?_)
            · skip
              first | (exfalso; omega) | exact absurd c19 (by decide) | exact absurd (by decide) c19
            · skip
              refine Rp.iload_n dX12_areDone_22 rfl ?_
              first | ((with_reducible show Rp _ _ _ _ (.int (b2i _) :: _) _ _); refine Rp.if_eqB (tgt := 61) dX12_areDone_23 (by decide) (fun c23 => ?_) (fun c23 => ?_)) | ((with_reducible show Rp _ _ _ _ (.int (nI _) :: _) _ _); refine Rp.if_eqN (tgt := 61) dX12_areDone_23 (by decide) (by omega) (fun c23 => ?_) (fun c23 => ?_)) | refine Rp.if_eq (tgt := 61) dX12_areDone_23 (by decide) (fun c23 => ?_) (fun c23 => ?_)
              · skip
                cases c23
              · skip
                refine Rp.aload_n dX12_areDone_26 rfl rfl ?_
                refine Rp.iload dX12_areDone_27 rfl ?_
                refine Rp.callV1 M_X12_holds (ci := 12) dX12_areDone_29 mo_X12_holds lk_X12_351 (by decide) rfl rfl (S _ _ rfl) (Nat.le_of_ble_eq_true rfl) (Nat.le_of_ble_eq_true rfl) (hd) (fun v1 h1 p1 x1 => ?_)
                rw [p1.1, p1.2]
                try dsimp only [Option.toList, List.cons_append, List.nil_append, List.append]
                first | ((with_reducible show Rp _ _ _ _ (.int (b2i _) :: _) _ _); refine Rp.if_eqB (tgt := 57) dX12_areDone_32 (by decide) (fun c32 => ?_) (fun c32 => ?_)) | ((with_reducible show Rp _ _ _ _ (.int (nI _) :: _) _ _); refine Rp.if_eqN (tgt := 57) dX12_areDone_32 (by decide) (by omega) (fun c32 => ?_) (fun c32 => ?_)) | refine Rp.if_eq (tgt := 57) dX12_areDone_32 (by decide) (fun c32 => ?_) (fun c32 => ?_)
                · skip
                  cases c32
                · skip
                  refine Rp.aload_n dX12_areDone_35 rfl rfl ?_
                  refine Rp.getR dX12_areDone_36 fk_X12_74 rfl (S _ _ rfl) (R _ _ _ rfl) ?_
                  refine Rp.iload dX12_areDone_39 rfl ?_
                  first | ((with_reducible show Rp _ _ _ _ (.int (nI _) :: _) _ _); refine Rp.ialoadN dX12_areDone_41 (S _ _ rfl) (by omega) ?_) | refine Rp.iaload dX12_areDone_41 (S _ _ rfl) (by first | assumption | exact vpb (by decide)) ?_
                  first | rw [e103] | rw [ed] | rw [ee] | skip
                  refine Rp.iconst (-1) dX12_areDone_42 (by decide) ?_
                  first | ((with_reducible show Rp _ _ _ _ (.int (nI _) :: .int (nI _) :: _) _ _); refine Rp.icmp_eqN (tgt := 61) dX12_areDone_43 (by decide) (by omega) (fun c43 => ?_) (fun c43 => ?_)) | refine Rp.icmp_eq (tgt := 61) dX12_areDone_43 (by decide) (fun c43 => ?_) (fun c43 => ?_)
                  · skip
                    exact absurd c43 e2
                  · skip
                    refine Rp.aload_n dX12_areDone_46 rfl rfl ?_
                    refine Rp.getR dX12_areDone_47 fk_X12_71 rfl (S _ _ rfl) (R _ _ _ rfl) ?_
                    refine Rp.iload dX12_areDone_50 rfl ?_
                    first | ((with_reducible show Rp _ _ _ _ (.int (nI _) :: _) _ _); refine Rp.ialoadN dX12_areDone_52 (S _ _ rfl) (by omega) ?_) | refine Rp.iaload dX12_areDone_52 (S _ _ rfl) (by first | assumption | exact vpb (by decide)) ?_
                    first | rw [e103] | rw [ed] | rw [ee] | skip
                    refine Rp.iload_n dX12_areDone_53 rfl ?_
                    first | ((with_reducible show Rp _ _ _ _ (.int (nI _) :: .int (nI _) :: _) _ _); refine Rp.icmp_gtN (tgt := 61) dX12_areDone_54 (by decide) (by omega) (fun c54 => ?_) (fun c54 => ?_)) | refine Rp.icmp_gt (tgt := 61) dX12_areDone_54 (by decide) (fun c54 => ?_) (fun c54 => ?_)
                    · skip
                      first | (exfalso; omega) | exact absurd c54 (by decide) | exact absurd (by decide) c54
                    · skip
                      refine Rp.iconst (nI 1) dX12_areDone_57 (by decide) ?_
                      refine Rp.goto (tgt := 62) dX12_areDone_58 (by decide) ?_
                      refine Rp.ist3 dX12_areDone_62 (by first | exact nl2_some rfl | exact nl2_none) (by decide) ?_
                      first | ((with_reducible show Rp _ _ _ (_ :: _ :: _ :: _ :: some (.int (nI _)) :: _) _ _ _); refine Rp.inc4N (c := 1) dX12_areDone_63 (by first | exact nl2_some rfl | exact nl2_none) (by decide) ?_) | refine Rp.inc4 _ dX12_areDone_63 rfl (by first | exact nl2_some rfl | exact nl2_none) (by decide) ?_
                      refine Rp.goto (tgt := 10) dX12_areDone_66 (by decide) ?_
                      exact k1
          · rw [st, decide_eq_false c1, e1, decide_eq_false (show ¬ nI v ≤ nI mi by rw [i32_le, nI_toInt (by omega), nI_toInt (by omega)]; omega), Bool.and_false, Bool.false_or] at k1
            refine Rp.iload dX12_areDone_10 rfl ?_
            refine Rp.aload_n dX12_areDone_12 rfl rfl ?_
            refine Rp.getR dX12_areDone_13 fk_X12_24 rfl (S _ _ rfl) (R _ _ _ rfl) ?_
            refine Rp.bipush (nI 103) dX12_areDone_16 (by decide) ?_
            first | ((with_reducible show Rp _ _ _ _ (.int (nI _) :: _) _ _); refine Rp.ialoadN dX12_areDone_18 (S _ _ rfl) (by omega) ?_) | refine Rp.iaload dX12_areDone_18 (S _ _ rfl) (by first | assumption | exact vpb (by decide)) ?_
            first | rw [e103] | rw [ed] | rw [ee] | skip
            first | ((with_reducible show Rp _ _ _ _ (.int (nI _) :: .int (nI _) :: _) _ _); refine Rp.icmp_geN (tgt := 69) dX12_areDone_19 (by decide) (by omega) (fun c19 => ?_) (fun c19 => ?_)) | refine Rp.icmp_ge (tgt := 69) dX12_areDone_19 (by decide) (fun c19 => ?_) (fun c19 => ?_)
            · skip
              first | (exfalso; omega) | exact absurd c19 (by decide) | exact absurd (by decide) c19
            · skip
              refine Rp.iload_n dX12_areDone_22 rfl ?_
              first | ((with_reducible show Rp _ _ _ _ (.int (b2i _) :: _) _ _); refine Rp.if_eqB (tgt := 61) dX12_areDone_23 (by decide) (fun c23 => ?_) (fun c23 => ?_)) | ((with_reducible show Rp _ _ _ _ (.int (nI _) :: _) _ _); refine Rp.if_eqN (tgt := 61) dX12_areDone_23 (by decide) (by omega) (fun c23 => ?_) (fun c23 => ?_)) | refine Rp.if_eq (tgt := 61) dX12_areDone_23 (by decide) (fun c23 => ?_) (fun c23 => ?_)
              · skip
                cases c23
              · skip
                refine Rp.aload_n dX12_areDone_26 rfl rfl ?_
                refine Rp.iload dX12_areDone_27 rfl ?_
                refine Rp.callV1 M_X12_holds (ci := 12) dX12_areDone_29 mo_X12_holds lk_X12_351 (by decide) rfl rfl (S _ _ rfl) (Nat.le_of_ble_eq_true rfl) (Nat.le_of_ble_eq_true rfl) (hd) (fun v1 h1 p1 x1 => ?_)
                rw [p1.1, p1.2]
                try dsimp only [Option.toList, List.cons_append, List.nil_append, List.append]
                first | ((with_reducible show Rp _ _ _ _ (.int (b2i _) :: _) _ _); refine Rp.if_eqB (tgt := 57) dX12_areDone_32 (by decide) (fun c32 => ?_) (fun c32 => ?_)) | ((with_reducible show Rp _ _ _ _ (.int (nI _) :: _) _ _); refine Rp.if_eqN (tgt := 57) dX12_areDone_32 (by decide) (by omega) (fun c32 => ?_) (fun c32 => ?_)) | refine Rp.if_eq (tgt := 57) dX12_areDone_32 (by decide) (fun c32 => ?_) (fun c32 => ?_)
                · skip
                  cases c32
                · skip
                  refine Rp.aload_n dX12_areDone_35 rfl rfl ?_
                  refine Rp.getR dX12_areDone_36 fk_X12_74 rfl (S _ _ rfl) (R _ _ _ rfl) ?_
                  refine Rp.iload dX12_areDone_39 rfl ?_
                  first | ((with_reducible show Rp _ _ _ _ (.int (nI _) :: _) _ _); refine Rp.ialoadN dX12_areDone_41 (S _ _ rfl) (by omega) ?_) | refine Rp.iaload dX12_areDone_41 (S _ _ rfl) (by first | assumption | exact vpb (by decide)) ?_
                  first | rw [e103] | rw [ed] | rw [ee] | skip
                  refine Rp.iconst (-1) dX12_areDone_42 (by decide) ?_
                  first | ((with_reducible show Rp _ _ _ _ (.int (nI _) :: .int (nI _) :: _) _ _); refine Rp.icmp_eqN (tgt := 61) dX12_areDone_43 (by decide) (by omega) (fun c43 => ?_) (fun c43 => ?_)) | refine Rp.icmp_eq (tgt := 61) dX12_areDone_43 (by decide) (fun c43 => ?_) (fun c43 => ?_)
                  · skip
                    exact absurd c43 e2
                  · skip
                    refine Rp.aload_n dX12_areDone_46 rfl rfl ?_
                    refine Rp.getR dX12_areDone_47 fk_X12_71 rfl (S _ _ rfl) (R _ _ _ rfl) ?_
                    refine Rp.iload dX12_areDone_50 rfl ?_
                    first | ((with_reducible show Rp _ _ _ _ (.int (nI _) :: _) _ _); refine Rp.ialoadN dX12_areDone_52 (S _ _ rfl) (by omega) ?_) | refine Rp.iaload dX12_areDone_52 (S _ _ rfl) (by first | assumption | exact vpb (by decide)) ?_
                    first | rw [e103] | rw [ed] | rw [ee] | skip
                    refine Rp.iload_n dX12_areDone_53 rfl ?_
                    first | ((with_reducible show Rp _ _ _ _ (.int (nI _) :: .int (nI _) :: _) _ _); refine Rp.icmp_gtN (tgt := 61) dX12_areDone_54 (by decide) (by omega) (fun c54 => ?_) (fun c54 => ?_)) | refine Rp.icmp_gt (tgt := 61) dX12_areDone_54 (by decide) (fun c54 => ?_) (fun c54 => ?_)
                    · skip
                      refine Rp.iconst (nI 0) dX12_areDone_61 (by decide) ?_
                      refine Rp.ist3 dX12_areDone_62 (by first | exact nl2_some rfl | exact nl2_none) (by decide) ?_
                      first | ((with_reducible show Rp _ _ _ (_ :: _ :: _ :: _ :: some (.int (nI _)) :: _) _ _ _); refine Rp.inc4N (c := 1) dX12_areDone_63 (by first | exact nl2_some rfl | exact nl2_none) (by decide) ?_) | refine Rp.inc4 _ dX12_areDone_63 rfl (by first | exact nl2_some rfl | exact nl2_none) (by decide) ?_
                      refine Rp.goto (tgt := 10) dX12_areDone_66 (by decide) ?_
                      exact k1
                    · skip
                      first | (exfalso; omega) | exact absurd c54 (by decide) | exact absurd (by decide) c54
theorem s_areDone (A : MBd h fl np nt nd) {mi u : Nat} (hmi : mi < 1000) : Rp (d + 78) M_X12_areDone 0 [some (.ref aM), some (.int (nI u)), some (.int (nI mi)), none, none] [] h (fun r h' => Fr mdX h h' ∧ r = some (.int (b2i (dmB (gI h 102) fl nd np nt (nI mi) u)))) := by
  obtain ⟨S, R, hF, B, VDd, hD, VNn, V, hM⟩ := id A
  have ld := s_laysDay d (st := fun e => bitB (nI u) (nI e)) A (op := nI u) (fun e he => rfl)
  refine Rp.aload_n dX12_areDone_0 rfl rfl ?_
  refine Rp.iload_n dX12_areDone_1 rfl ?_
  refine Rp.callV1 M_X12_laysDay (ci := 12) dX12_areDone_2 mo_X12_laysDay lk_X12_396 (by decide) rfl rfl (S _ _ rfl) (Nat.le_of_ble_eq_true rfl) (Nat.le_of_ble_eq_true rfl) (ld) (fun v1 h1 p1 x1 => ?_)
  obtain ⟨rfl, F1, Y1⟩ := p1
  try dsimp only [Option.toList, List.cons_append, List.nil_append, List.append]
  skip
  have S1 := F1.S S
  have R1 := F1.R R (by decide)
  have k10 := mdone10 (d + 77) (K := gI h 102) (nd := nd) S1 R1 F1.k102 V.1 hM VDd.1 Y1 (fun p => dayF_DP 100 p) hmi (nI u) np 0 (by omega)
  have k10 := Rp.mono (Q := fun r h' => Fr mdX h h' ∧ r = some (.int (b2i (dmB (gI h 102) fl nd np nt (nI mi) u)))) (fun r h' z => ⟨by rw [z.1]; exact F1, z.2⟩) k10
  refine Rp.iconst (nI 1) dX12_areDone_5 (by decide) ?_
  refine Rp.ist3 dX12_areDone_6 (by first | exact nl2_some rfl | exact nl2_none) (by decide) ?_
  refine Rp.iconst (nI 0) dX12_areDone_7 (by decide) ?_
  refine Rp.ist4 dX12_areDone_8 (by first | exact nl2_some rfl | exact nl2_none) (by decide) ?_
  exact k10
theorem adI_is : ∀ n, n ≤ 3 → adI n = nI (2 ^ n - 1) := by decide
theorem pc8_le {u : Nat} (hu : u < 8) : pc8 u ≤ 3 := by
  have : u = 0 ∨ u = 1 ∨ u = 2 ∨ u = 3 ∨ u = 4 ∨ u = 5 ∨ u = 6 ∨ u = 7 := by omega
  rcases this with rfl | rfl | rfl | rfl | rfl | rfl | rfl | rfl <;> decide
theorem mdesks27 {h0 : AH} {K : Nat → Int32} {mi : Nat} (hmi : mi < 1000) (w : Int32) {P : Option Value → AH → Prop} (hnd : nd ≤ 3) (hD : K 105 = nI nd) (kk : ∀ g, MBd g fl np nt nd → gI g 102 = K → Fr mdX h0 g → Rp (d + 79) M_X12_desks 72 [some (.ref aM), some (.int (nI mi)), some (.int w), some (.int (oI (gdF (dmB K fl nd np nt (nI mi)) (2 ^ nd)))), some (.int (nI (2 ^ nd)))] [] g P) : ∀ (m u : Nat) (g : AH), u + m = 2 ^ nd → MBd g fl np nt nd → gI g 102 = K → Fr mdX h0 g → Rp (d + 79) M_X12_desks 27 [some (.ref aM), some (.int (nI mi)), some (.int w), some (.int (oI (gdF (dmB K fl nd np nt (nI mi)) u))), some (.int (nI u))] [] g P := by
  have h8 : 2 ^ nd ≤ 8 := Nat.pow_le_pow_right (n := 2) (by decide) hnd
  have h1 : 1 ≤ 2 ^ nd := Nat.one_le_two_pow
  have ai := adI_is nd hnd
  generalize 2 ^ nd = mk at h8 h1 ai kk ⊢
  intro m
  induction m with
  | zero =>
    intro u g hm A hK F
    have e : u = mk := by omega
    subst e
    have S := A.1
    have ad := s_allDesks (d + 78) A.1 A.2.1 A.2.2.2.2.2.1
    rw [ai] at ad
    have k1 := kk g A hK F
    refine Rp.iload dX12_desks_27 rfl ?_
    refine Rp.aload_n dX12_desks_29 rfl rfl ?_
    refine Rp.callV0 M_X12_allDesks (ci := 12) dX12_desks_30 mo_X12_allDesks lk_X12_393 (by decide) rfl rfl (S _ _ rfl) (Nat.le_of_ble_eq_true rfl) (Nat.le_of_ble_eq_true rfl) (ad) (fun v1 h1 p1 x1 => ?_)
    rw [p1.1, p1.2]
    try dsimp only [Option.toList, List.cons_append, List.nil_append, List.append]
    first | ((with_reducible show Rp _ _ _ _ (.int (nI _) :: .int (nI _) :: _) _ _); refine Rp.icmp_gtN (tgt := 72) dX12_desks_33 (by decide) (by omega) (fun c33 => ?_) (fun c33 => ?_)) | refine Rp.icmp_gt (tgt := 72) dX12_desks_33 (by decide) (fun c33 => ?_) (fun c33 => ?_)
    · skip
      exact k1
    · skip
      first | (exfalso; omega) | exact absurd c33 (by decide) | exact absurd (by decide) c33
  | succ m ih =>
    intro u g hm A hK F
    have S := A.1
    have ad := s_allDesks (d + 78) A.1 A.2.1 A.2.2.2.2.2.1
    rw [ai] at ad
    have dn := s_areDone d A (u := u) hmi
    rw [hK] at dn
    have on1 := s_ones (d + 78) (h := g) (u := u) (by omega)
    have p1 := pc8_le (show u < 8 by omega)
    -- asking whether they are done
    have k53 : ∀ o, gdF (dmB K fl nd np nt (nI mi)) u = o → (∀ b, o = some b → pc8 u < pc8 b) → Rp (d + 79) M_X12_desks 53 [some (.ref aM), some (.int (nI mi)), some (.int w), some (.int (oI o)), some (.int (nI u))] [] g P := by
      intro o ho hlt
      refine Rp.aload_n dX12_desks_53 rfl rfl ?_
      refine Rp.iload dX12_desks_54 rfl ?_
      refine Rp.iload_n dX12_desks_56 rfl ?_
      refine Rp.callV2 M_X12_areDone (ci := 12) dX12_desks_57 mo_X12_areDone lk_X12_449 (by decide) rfl rfl (S _ _ rfl) (Nat.le_of_ble_eq_true rfl) (Nat.le_of_ble_eq_true rfl) (dn) (fun v1 h1 p1 x1 => ?_)
      obtain ⟨F1, rfl⟩ := p1
      try dsimp only [Option.toList, List.cons_append, List.nil_append, List.append]
      skip
      have k1 := ih (u + 1) h1 (by omega) (A.fr F1) (F1.k102.trans hK) (F.trans F1)
      rw [gdF, ho] at k1
      cases c : dmB K fl nd np nt (nI mi) u
      · rw [c] at k1
        match o, ho, hlt, k1 with
        | none, ho, hlt, k1 =>
          dsimp only at k1
          rw [if_neg (by decide)] at k1
          first | ((with_reducible show Rp _ _ _ _ (.int (b2i _) :: _) _ _); refine Rp.if_eqB (tgt := 66) dX12_desks_60 (by decide) (fun c60 => ?_) (fun c60 => ?_)) | ((with_reducible show Rp _ _ _ _ (.int (nI _) :: _) _ _); refine Rp.if_eqN (tgt := 66) dX12_desks_60 (by decide) (by omega) (fun c60 => ?_) (fun c60 => ?_)) | refine Rp.if_eq (tgt := 66) dX12_desks_60 (by decide) (fun c60 => ?_) (fun c60 => ?_)
          · skip
            first | ((with_reducible show Rp _ _ _ (_ :: _ :: _ :: _ :: some (.int (nI _)) :: _) _ _ _); refine Rp.inc4N (c := 1) dX12_desks_66 (by first | exact nl2_some rfl | exact nl2_none) (by decide) ?_) | refine Rp.inc4 _ dX12_desks_66 rfl (by first | exact nl2_some rfl | exact nl2_none) (by decide) ?_
            refine Rp.goto (tgt := 27) dX12_desks_69 (by decide) ?_
            exact k1
          · skip
            cases c60
        | some b, ho, hlt, k1 =>
          dsimp only at k1
          rw [if_neg (fun z => absurd z.2 (by decide))] at k1
          first | ((with_reducible show Rp _ _ _ _ (.int (b2i _) :: _) _ _); refine Rp.if_eqB (tgt := 66) dX12_desks_60 (by decide) (fun c60 => ?_) (fun c60 => ?_)) | ((with_reducible show Rp _ _ _ _ (.int (nI _) :: _) _ _); refine Rp.if_eqN (tgt := 66) dX12_desks_60 (by decide) (by omega) (fun c60 => ?_) (fun c60 => ?_)) | refine Rp.if_eq (tgt := 66) dX12_desks_60 (by decide) (fun c60 => ?_) (fun c60 => ?_)
          · skip
            first | ((with_reducible show Rp _ _ _ (_ :: _ :: _ :: _ :: some (.int (nI _)) :: _) _ _ _); refine Rp.inc4N (c := 1) dX12_desks_66 (by first | exact nl2_some rfl | exact nl2_none) (by decide) ?_) | refine Rp.inc4 _ dX12_desks_66 rfl (by first | exact nl2_some rfl | exact nl2_none) (by decide) ?_
            refine Rp.goto (tgt := 27) dX12_desks_69 (by decide) ?_
            exact k1
          · skip
            cases c60
      · rw [c] at k1
        match o, ho, hlt, k1 with
        | none, ho, hlt, k1 =>
          dsimp only at k1
          rw [if_pos rfl] at k1
          first | ((with_reducible show Rp _ _ _ _ (.int (b2i _) :: _) _ _); refine Rp.if_eqB (tgt := 66) dX12_desks_60 (by decide) (fun c60 => ?_) (fun c60 => ?_)) | ((with_reducible show Rp _ _ _ _ (.int (nI _) :: _) _ _); refine Rp.if_eqN (tgt := 66) dX12_desks_60 (by decide) (by omega) (fun c60 => ?_) (fun c60 => ?_)) | refine Rp.if_eq (tgt := 66) dX12_desks_60 (by decide) (fun c60 => ?_) (fun c60 => ?_)
          · skip
            cases c60
          · skip
            refine Rp.iload dX12_desks_63 rfl ?_
            refine Rp.ist3 dX12_desks_65 (by first | exact nl2_some rfl | exact nl2_none) (by decide) ?_
            first | ((with_reducible show Rp _ _ _ (_ :: _ :: _ :: _ :: some (.int (nI _)) :: _) _ _ _); refine Rp.inc4N (c := 1) dX12_desks_66 (by first | exact nl2_some rfl | exact nl2_none) (by decide) ?_) | refine Rp.inc4 _ dX12_desks_66 rfl (by first | exact nl2_some rfl | exact nl2_none) (by decide) ?_
            refine Rp.goto (tgt := 27) dX12_desks_69 (by decide) ?_
            exact k1
        | some b, ho, hlt, k1 =>
          dsimp only at k1
          rw [if_pos ⟨hlt b rfl, rfl⟩] at k1
          first | ((with_reducible show Rp _ _ _ _ (.int (b2i _) :: _) _ _); refine Rp.if_eqB (tgt := 66) dX12_desks_60 (by decide) (fun c60 => ?_) (fun c60 => ?_)) | ((with_reducible show Rp _ _ _ _ (.int (nI _) :: _) _ _); refine Rp.if_eqN (tgt := 66) dX12_desks_60 (by decide) (by omega) (fun c60 => ?_) (fun c60 => ?_)) | refine Rp.if_eq (tgt := 66) dX12_desks_60 (by decide) (fun c60 => ?_) (fun c60 => ?_)
          · skip
            cases c60
          · skip
            refine Rp.iload dX12_desks_63 rfl ?_
            refine Rp.ist3 dX12_desks_65 (by first | exact nl2_some rfl | exact nl2_none) (by decide) ?_
            first | ((with_reducible show Rp _ _ _ (_ :: _ :: _ :: _ :: some (.int (nI _)) :: _) _ _ _); refine Rp.inc4N (c := 1) dX12_desks_66 (by first | exact nl2_some rfl | exact nl2_none) (by decide) ?_) | refine Rp.inc4 _ dX12_desks_66 rfl (by first | exact nl2_some rfl | exact nl2_none) (by decide) ?_
            refine Rp.goto (tgt := 27) dX12_desks_69 (by decide) ?_
            exact k1
    match ho : gdF (dmB K fl nd np nt (nI mi)) u with
    | none =>
      have k1 := k53 none ho (fun b z => nomatch z)
      refine Rp.iload dX12_desks_27 rfl ?_
      refine Rp.aload_n dX12_desks_29 rfl rfl ?_
      refine Rp.callV0 M_X12_allDesks (ci := 12) dX12_desks_30 mo_X12_allDesks lk_X12_393 (by decide) rfl rfl (S _ _ rfl) (Nat.le_of_ble_eq_true rfl) (Nat.le_of_ble_eq_true rfl) (ad) (fun v1 h1 p1 x1 => ?_)
      rw [p1.1, p1.2]
      try dsimp only [Option.toList, List.cons_append, List.nil_append, List.append]
      first | ((with_reducible show Rp _ _ _ _ (.int (nI _) :: .int (nI _) :: _) _ _); refine Rp.icmp_gtN (tgt := 72) dX12_desks_33 (by decide) (by omega) (fun c33 => ?_) (fun c33 => ?_)) | refine Rp.icmp_gt (tgt := 72) dX12_desks_33 (by decide) (fun c33 => ?_) (fun c33 => ?_)
      · skip
        first | (exfalso; omega) | exact absurd c33 (by decide) | exact absurd (by decide) c33
      · skip
        refine Rp.iload_n dX12_desks_36 rfl ?_
        refine Rp.iconst (-1) dX12_desks_37 (by decide) ?_
        first | ((with_reducible show Rp _ _ _ _ (.int (nI _) :: .int (nI _) :: _) _ _); refine Rp.icmp_eqN (tgt := 53) dX12_desks_38 (by decide) (by omega) (fun c38 => ?_) (fun c38 => ?_)) | refine Rp.icmp_eq (tgt := 53) dX12_desks_38 (by decide) (fun c38 => ?_) (fun c38 => ?_)
        · skip
          exact k1
        · skip
          exact absurd rfl c38
    | some b =>
      have bl := gdF_lt u b ho
      have p2 := pc8_le (show b < 8 by omega)
      have on2 := s_ones (d + 78) (h := g) (u := b) (by omega)
      have nb : ¬ nI b = -1 := nI_m1 (by omega)
      by_cases c1 : pc8 u < pc8 b
      · have k1 := k53 (some b) ho (fun b' z => by cases z; exact c1)
        dsimp only [oI] at k1 ⊢
        refine Rp.iload dX12_desks_27 rfl ?_
        refine Rp.aload_n dX12_desks_29 rfl rfl ?_
        refine Rp.callV0 M_X12_allDesks (ci := 12) dX12_desks_30 mo_X12_allDesks lk_X12_393 (by decide) rfl rfl (S _ _ rfl) (Nat.le_of_ble_eq_true rfl) (Nat.le_of_ble_eq_true rfl) (ad) (fun v1 h1 p1 x1 => ?_)
        rw [p1.1, p1.2]
        try dsimp only [Option.toList, List.cons_append, List.nil_append, List.append]
        first | ((with_reducible show Rp _ _ _ _ (.int (nI _) :: .int (nI _) :: _) _ _); refine Rp.icmp_gtN (tgt := 72) dX12_desks_33 (by decide) (by omega) (fun c33 => ?_) (fun c33 => ?_)) | refine Rp.icmp_gt (tgt := 72) dX12_desks_33 (by decide) (fun c33 => ?_) (fun c33 => ?_)
        · skip
          first | (exfalso; omega) | exact absurd c33 (by decide) | exact absurd (by decide) c33
        · skip
          refine Rp.iload_n dX12_desks_36 rfl ?_
          refine Rp.iconst (-1) dX12_desks_37 (by decide) ?_
          first | ((with_reducible show Rp _ _ _ _ (.int (nI _) :: .int (nI _) :: _) _ _); refine Rp.icmp_eqN (tgt := 53) dX12_desks_38 (by decide) (by omega) (fun c38 => ?_) (fun c38 => ?_)) | refine Rp.icmp_eq (tgt := 53) dX12_desks_38 (by decide) (fun c38 => ?_) (fun c38 => ?_)
          · skip
            exact absurd c38 nb
          · skip
            refine Rp.iload dX12_desks_41 rfl ?_
            refine Rp.callS1 M_X12_ones dX12_desks_43 mo_X12_ones lk_X12_446 (Nat.le_of_ble_eq_true rfl) (Nat.le_of_ble_eq_true rfl) (on1) (fun v1 h1 p1 x1 => ?_)
            rw [p1.1, p1.2]
            try dsimp only [Option.toList, List.cons_append, List.nil_append, List.append]
            refine Rp.iload_n dX12_desks_46 rfl ?_
            refine Rp.callS1 M_X12_ones dX12_desks_47 mo_X12_ones lk_X12_446 (Nat.le_of_ble_eq_true rfl) (Nat.le_of_ble_eq_true rfl) (on2) (fun v1 h1 p1 x1 => ?_)
            rw [p1.1, p1.2]
            try dsimp only [Option.toList, List.cons_append, List.nil_append, List.append]
            first | ((with_reducible show Rp _ _ _ _ (.int (nI _) :: .int (nI _) :: _) _ _); refine Rp.icmp_geN (tgt := 66) dX12_desks_50 (by decide) (by omega) (fun c50 => ?_) (fun c50 => ?_)) | refine Rp.icmp_ge (tgt := 66) dX12_desks_50 (by decide) (fun c50 => ?_) (fun c50 => ?_)
            · skip
              first | (exfalso; omega) | exact absurd c50 (by decide) | exact absurd (by decide) c50
            · skip
              exact k1
      · have k1 := ih (u + 1) g (by omega) A hK F
        rw [gdF, ho] at k1
        dsimp only at k1
        rw [if_neg (fun z => c1 z.1)] at k1
        dsimp only [oI] at k1 ⊢
        refine Rp.iload dX12_desks_27 rfl ?_
        refine Rp.aload_n dX12_desks_29 rfl rfl ?_
        refine Rp.callV0 M_X12_allDesks (ci := 12) dX12_desks_30 mo_X12_allDesks lk_X12_393 (by decide) rfl rfl (S _ _ rfl) (Nat.le_of_ble_eq_true rfl) (Nat.le_of_ble_eq_true rfl) (ad) (fun v1 h1 p1 x1 => ?_)
        rw [p1.1, p1.2]
        try dsimp only [Option.toList, List.cons_append, List.nil_append, List.append]
        first | ((with_reducible show Rp _ _ _ _ (.int (nI _) :: .int (nI _) :: _) _ _); refine Rp.icmp_gtN (tgt := 72) dX12_desks_33 (by decide) (by omega) (fun c33 => ?_) (fun c33 => ?_)) | refine Rp.icmp_gt (tgt := 72) dX12_desks_33 (by decide) (fun c33 => ?_) (fun c33 => ?_)
        · skip
          first | (exfalso; omega) | exact absurd c33 (by decide) | exact absurd (by decide) c33
        · skip
          refine Rp.iload_n dX12_desks_36 rfl ?_
          refine Rp.iconst (-1) dX12_desks_37 (by decide) ?_
          first | ((with_reducible show Rp _ _ _ _ (.int (nI _) :: .int (nI _) :: _) _ _); refine Rp.icmp_eqN (tgt := 53) dX12_desks_38 (by decide) (by omega) (fun c38 => ?_) (fun c38 => ?_)) | refine Rp.icmp_eq (tgt := 53) dX12_desks_38 (by decide) (fun c38 => ?_) (fun c38 => ?_)
          · skip
            exact absurd c38 nb
          · skip
            refine Rp.iload dX12_desks_41 rfl ?_
            refine Rp.callS1 M_X12_ones dX12_desks_43 mo_X12_ones lk_X12_446 (Nat.le_of_ble_eq_true rfl) (Nat.le_of_ble_eq_true rfl) (on1) (fun v1 h1 p1 x1 => ?_)
            rw [p1.1, p1.2]
            try dsimp only [Option.toList, List.cons_append, List.nil_append, List.append]
            refine Rp.iload_n dX12_desks_46 rfl ?_
            refine Rp.callS1 M_X12_ones dX12_desks_47 mo_X12_ones lk_X12_446 (Nat.le_of_ble_eq_true rfl) (Nat.le_of_ble_eq_true rfl) (on2) (fun v1 h1 p1 x1 => ?_)
            rw [p1.1, p1.2]
            try dsimp only [Option.toList, List.cons_append, List.nil_append, List.append]
            first | ((with_reducible show Rp _ _ _ _ (.int (nI _) :: .int (nI _) :: _) _ _); refine Rp.icmp_geN (tgt := 66) dX12_desks_50 (by decide) (by omega) (fun c50 => ?_) (fun c50 => ?_)) | refine Rp.icmp_ge (tgt := 66) dX12_desks_50 (by decide) (fun c50 => ?_) (fun c50 => ?_)
            · skip
              first | ((with_reducible show Rp _ _ _ (_ :: _ :: _ :: _ :: some (.int (nI _)) :: _) _ _ _); refine Rp.inc4N (c := 1) dX12_desks_66 (by first | exact nl2_some rfl | exact nl2_none) (by decide) ?_) | refine Rp.inc4 _ dX12_desks_66 rfl (by first | exact nl2_some rfl | exact nl2_none) (by decide) ?_
              refine Rp.goto (tgt := 27) dX12_desks_69 (by decide) ?_
              exact k1
            · skip
              first | (exfalso; omega) | exact absurd c50 (by decide) | exact absurd (by decide) c50
theorem s_desks (A : MBd h fl np nt nd) (mi w : Int32) : Rp (d + 79) M_X12_desks 0 [some (.ref aM), some (.int mi), some (.int w), none, none] [] h (fun r h' => r = some (.int (dsA (gI h 102) fl nd np nt mi w)) ∧ Fr mdX h h' ∧ gI h' 102 = gI h 102) := by
  obtain ⟨S, R, hF, B, VDd, hD, VNn, V, hM⟩ := id A
  have h8 : 2 ^ nd ≤ 8 := Nat.pow_le_pow_right (n := 2) (by decide) VDd.1
  have l1 := s_lies (d + 78) h mi (nI 0) (nI 999)
  have l2 := s_lies (d + 78) h w (nI 0) (nI 1)
  have e1 : decide (nI 0 ≤ mi ∧ mi ≤ nI 999) = inN mi 1000 := inN_lies' (by decide)
  have e2 : decide (nI 0 ≤ w ∧ w ≤ nI 1) = inN w 2 := inN_lies' (by decide)
  rw [e1] at l1
  rw [e2] at l2
  unfold dsA
  cases cm : inN mi 1000
  · rw [cm] at l1
    rw [Bool.false_and, if_neg (by decide)]
    refine Rp.iload_n dX12_desks_0 rfl ?_
    refine Rp.iconst (nI 0) dX12_desks_1 (by decide) ?_
    refine Rp.sipush (nI 999) dX12_desks_2 (by decide +kernel) ?_
    refine Rp.callS3 M_X12_lies dX12_desks_5 mo_X12_lies lk_X12_117 (Nat.le_of_ble_eq_true rfl) (Nat.le_of_ble_eq_true rfl) (l1) (fun v1 h1 p1 x1 => ?_)
    rw [p1.1, p1.2]
    try dsimp only [Option.toList, List.cons_append, List.nil_append, List.append]
    first | ((with_reducible show Rp _ _ _ _ (.int (b2i _) :: _) _ _); refine Rp.if_eqB (tgt := 20) dX12_desks_8 (by decide) (fun c8 => ?_) (fun c8 => ?_)) | ((with_reducible show Rp _ _ _ _ (.int (nI _) :: _) _ _); refine Rp.if_eqN (tgt := 20) dX12_desks_8 (by decide) (by omega) (fun c8 => ?_) (fun c8 => ?_)) | refine Rp.if_eq (tgt := 20) dX12_desks_8 (by decide) (fun c8 => ?_) (fun c8 => ?_)
    · skip
      refine Rp.iconst (-1) dX12_desks_20 (by decide) ?_
      refine Rp.ireturn dX12_desks_21 rfl ?_
      exact ⟨rfl, Fr.rfl', rfl⟩
    · skip
      cases c8
  · rw [cm] at l1
    cases cw : inN w 2
    · rw [cw] at l2
      rw [Bool.and_false, if_neg (by decide)]
      refine Rp.iload_n dX12_desks_0 rfl ?_
      refine Rp.iconst (nI 0) dX12_desks_1 (by decide) ?_
      refine Rp.sipush (nI 999) dX12_desks_2 (by decide +kernel) ?_
      refine Rp.callS3 M_X12_lies dX12_desks_5 mo_X12_lies lk_X12_117 (Nat.le_of_ble_eq_true rfl) (Nat.le_of_ble_eq_true rfl) (l1) (fun v1 h1 p1 x1 => ?_)
      rw [p1.1, p1.2]
      try dsimp only [Option.toList, List.cons_append, List.nil_append, List.append]
      first | ((with_reducible show Rp _ _ _ _ (.int (b2i _) :: _) _ _); refine Rp.if_eqB (tgt := 20) dX12_desks_8 (by decide) (fun c8 => ?_) (fun c8 => ?_)) | ((with_reducible show Rp _ _ _ _ (.int (nI _) :: _) _ _); refine Rp.if_eqN (tgt := 20) dX12_desks_8 (by decide) (by omega) (fun c8 => ?_) (fun c8 => ?_)) | refine Rp.if_eq (tgt := 20) dX12_desks_8 (by decide) (fun c8 => ?_) (fun c8 => ?_)
      · skip
        cases c8
      · skip
        refine Rp.iload_n dX12_desks_11 rfl ?_
        refine Rp.iconst (nI 0) dX12_desks_12 (by decide) ?_
        refine Rp.iconst (nI 1) dX12_desks_13 (by decide) ?_
        refine Rp.callS3 M_X12_lies dX12_desks_14 mo_X12_lies lk_X12_117 (Nat.le_of_ble_eq_true rfl) (Nat.le_of_ble_eq_true rfl) (l2) (fun v1 h1 p1 x1 => ?_)
        rw [p1.1, p1.2]
        try dsimp only [Option.toList, List.cons_append, List.nil_append, List.append]
        first | ((with_reducible show Rp _ _ _ _ (.int (b2i _) :: _) _ _); refine Rp.if_neB (tgt := 22) dX12_desks_17 (by decide) (fun c17 => ?_) (fun c17 => ?_)) | ((with_reducible show Rp _ _ _ _ (.int (nI _) :: _) _ _); refine Rp.if_neN (tgt := 22) dX12_desks_17 (by decide) (by omega) (fun c17 => ?_) (fun c17 => ?_)) | refine Rp.if_ne (tgt := 22) dX12_desks_17 (by decide) (fun c17 => ?_) (fun c17 => ?_)
        · skip
          cases c17
        · skip
          refine Rp.iconst (-1) dX12_desks_20 (by decide) ?_
          refine Rp.ireturn dX12_desks_21 rfl ?_
          exact ⟨rfl, Fr.rfl', rfl⟩
    · rw [cw] at l2
      rw [Bool.true_and, if_pos rfl]
      obtain ⟨mm, hmm, rfl⟩ := (inN_iff (by decide)).mp cm
      obtain ⟨q, hq, rfl⟩ := (inN_iff (by decide)).mp cw
      rw [ix_nI (by omega)]
      have k72 : ∀ g, MBd g fl np nt nd → gI g 102 = gI h 102 → Fr mdX h g → Rp (d + 79) M_X12_desks 72 [some (.ref aM), some (.int (nI mm)), some (.int (nI q)), some (.int (oI (gdF (dmB (gI h 102) fl nd np nt (nI mm)) (2 ^ nd)))), some (.int (nI (2 ^ nd)))] [] g (fun r h' => r = some (.int (match gdF (dmB (gI h 102) fl nd np nt (nI mm)) (2 ^ nd) with
        | none => -1
        | some u => if q = 0 then nI (pc8 u) else nI u)) ∧ Fr mdX h h' ∧ gI h' 102 = gI h 102) := by
        intro g Ag Kg Fg
        match hx : gdF (dmB (gI h 102) fl nd np nt (nI mm)) (2 ^ nd) with
        | none =>
          dsimp only [oI]
          refine Rp.iload_n dX12_desks_72 rfl ?_
          refine Rp.iconst (-1) dX12_desks_73 (by decide) ?_
          first | ((with_reducible show Rp _ _ _ _ (.int (nI _) :: .int (nI _) :: _) _ _); refine Rp.icmp_eqN (tgt := 82) dX12_desks_74 (by decide) (by omega) (fun c74 => ?_) (fun c74 => ?_)) | refine Rp.icmp_eq (tgt := 82) dX12_desks_74 (by decide) (fun c74 => ?_) (fun c74 => ?_)
          · skip
            refine Rp.iload_n dX12_desks_82 rfl ?_
            refine Rp.goto (tgt := 90) dX12_desks_83 (by decide) ?_
            refine Rp.ireturn dX12_desks_90 rfl ?_
            exact ⟨rfl, Fg, Kg⟩
          · skip
            exact absurd rfl c74
        | some u =>
          have ul := gdF_lt _ _ hx
          have nu : ¬ nI u = -1 := nI_m1 (by omega)
          have on := s_ones (d + 78) (h := g) (u := u) (by omega)
          dsimp only [oI]
          by_cases c0 : q = 0
          · subst c0
            rw [if_pos rfl]
            refine Rp.iload_n dX12_desks_72 rfl ?_
            refine Rp.iconst (-1) dX12_desks_73 (by decide) ?_
            first | ((with_reducible show Rp _ _ _ _ (.int (nI _) :: .int (nI _) :: _) _ _); refine Rp.icmp_eqN (tgt := 82) dX12_desks_74 (by decide) (by omega) (fun c74 => ?_) (fun c74 => ?_)) | refine Rp.icmp_eq (tgt := 82) dX12_desks_74 (by decide) (fun c74 => ?_) (fun c74 => ?_)
            · skip
              exact absurd c74 nu
            · skip
              refine Rp.iload_n dX12_desks_77 rfl ?_
              refine Rp.iconst (nI 1) dX12_desks_78 (by decide) ?_
              first | ((with_reducible show Rp _ _ _ _ (.int (nI _) :: .int (nI _) :: _) _ _); refine Rp.icmp_neN (tgt := 86) dX12_desks_79 (by decide) (by omega) (fun c79 => ?_) (fun c79 => ?_)) | refine Rp.icmp_ne (tgt := 86) dX12_desks_79 (by decide) (fun c79 => ?_) (fun c79 => ?_)
              · skip
                refine Rp.iload_n dX12_desks_86 rfl ?_
                refine Rp.callS1 M_X12_ones dX12_desks_87 mo_X12_ones lk_X12_446 (Nat.le_of_ble_eq_true rfl) (Nat.le_of_ble_eq_true rfl) (on) (fun v1 h1 p1 x1 => ?_)
                rw [p1.1, p1.2]
                try dsimp only [Option.toList, List.cons_append, List.nil_append, List.append]
                refine Rp.ireturn dX12_desks_90 rfl ?_
                exact ⟨rfl, Fg, Kg⟩
              · skip
                first | (exfalso; omega) | exact absurd c79 (by decide) | exact absurd (by decide) c79
          · rw [if_neg c0]
            refine Rp.iload_n dX12_desks_72 rfl ?_
            refine Rp.iconst (-1) dX12_desks_73 (by decide) ?_
            first | ((with_reducible show Rp _ _ _ _ (.int (nI _) :: .int (nI _) :: _) _ _); refine Rp.icmp_eqN (tgt := 82) dX12_desks_74 (by decide) (by omega) (fun c74 => ?_) (fun c74 => ?_)) | refine Rp.icmp_eq (tgt := 82) dX12_desks_74 (by decide) (fun c74 => ?_) (fun c74 => ?_)
            · skip
              exact absurd c74 nu
            · skip
              refine Rp.iload_n dX12_desks_77 rfl ?_
              refine Rp.iconst (nI 1) dX12_desks_78 (by decide) ?_
              first | ((with_reducible show Rp _ _ _ _ (.int (nI _) :: .int (nI _) :: _) _ _); refine Rp.icmp_neN (tgt := 86) dX12_desks_79 (by decide) (by omega) (fun c79 => ?_) (fun c79 => ?_)) | refine Rp.icmp_ne (tgt := 86) dX12_desks_79 (by decide) (fun c79 => ?_) (fun c79 => ?_)
              · skip
                first | (exfalso; omega) | exact absurd c79 (by decide) | exact absurd (by decide) c79
              · skip
                refine Rp.iload_n dX12_desks_82 rfl ?_
                refine Rp.goto (tgt := 90) dX12_desks_83 (by decide) ?_
                refine Rp.ireturn dX12_desks_90 rfl ?_
                exact ⟨rfl, Fg, Kg⟩
      have k27 := mdesks27 d (h0 := h) (K := gI h 102) hmm (nI q) VDd.1 hD k72 (2 ^ nd) 0 h (by omega) A rfl Fr.rfl'
      refine Rp.iload_n dX12_desks_0 rfl ?_
      refine Rp.iconst (nI 0) dX12_desks_1 (by decide) ?_
      refine Rp.sipush (nI 999) dX12_desks_2 (by decide +kernel) ?_
      refine Rp.callS3 M_X12_lies dX12_desks_5 mo_X12_lies lk_X12_117 (Nat.le_of_ble_eq_true rfl) (Nat.le_of_ble_eq_true rfl) (l1) (fun v1 h1 p1 x1 => ?_)
      rw [p1.1, p1.2]
      try dsimp only [Option.toList, List.cons_append, List.nil_append, List.append]
      first | ((with_reducible show Rp _ _ _ _ (.int (b2i _) :: _) _ _); refine Rp.if_eqB (tgt := 20) dX12_desks_8 (by decide) (fun c8 => ?_) (fun c8 => ?_)) | ((with_reducible show Rp _ _ _ _ (.int (nI _) :: _) _ _); refine Rp.if_eqN (tgt := 20) dX12_desks_8 (by decide) (by omega) (fun c8 => ?_) (fun c8 => ?_)) | refine Rp.if_eq (tgt := 20) dX12_desks_8 (by decide) (fun c8 => ?_) (fun c8 => ?_)
      · skip
        cases c8
      · skip
        refine Rp.iload_n dX12_desks_11 rfl ?_
        refine Rp.iconst (nI 0) dX12_desks_12 (by decide) ?_
        refine Rp.iconst (nI 1) dX12_desks_13 (by decide) ?_
        refine Rp.callS3 M_X12_lies dX12_desks_14 mo_X12_lies lk_X12_117 (Nat.le_of_ble_eq_true rfl) (Nat.le_of_ble_eq_true rfl) (l2) (fun v1 h1 p1 x1 => ?_)
        rw [p1.1, p1.2]
        try dsimp only [Option.toList, List.cons_append, List.nil_append, List.append]
        first | ((with_reducible show Rp _ _ _ _ (.int (b2i _) :: _) _ _); refine Rp.if_neB (tgt := 22) dX12_desks_17 (by decide) (fun c17 => ?_) (fun c17 => ?_)) | ((with_reducible show Rp _ _ _ _ (.int (nI _) :: _) _ _); refine Rp.if_neN (tgt := 22) dX12_desks_17 (by decide) (by omega) (fun c17 => ?_) (fun c17 => ?_)) | refine Rp.if_ne (tgt := 22) dX12_desks_17 (by decide) (fun c17 => ?_) (fun c17 => ?_)
        · skip
          refine Rp.iconst (-1) dX12_desks_22 (by decide) ?_
          refine Rp.ist3 dX12_desks_23 (by first | exact nl2_some rfl | exact nl2_none) (by decide) ?_
          refine Rp.iconst (nI 0) dX12_desks_24 (by decide) ?_
          refine Rp.ist4 dX12_desks_25 (by first | exact nl2_some rfl | exact nl2_none) (by decide) ?_
          exact k27
        · skip
          cases c17
end Md3
