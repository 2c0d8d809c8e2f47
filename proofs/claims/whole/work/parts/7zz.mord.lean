section Mf
variable (d : Nat) {h : AH} {fl : Option (List CLE)} {np nt : Nat}
theorem mfit4 (S0 : ShOK h) (R0 : RfOK h) (hF : FlK (gI h 102) fl) (B : KB (gI h 102)) (V : VH (gI h 102) np nt) (hM : gI h 102 103 = nI np) : ∀ (m p : Nat) (g : AH), p + m = np → Fr tlX h g → Rp (d + 76) M_X12_fitMany 4 [some (.ref aM), some (.int (nI (fitN (gI h 102) fl p))), some (.int (nI p))] [] g (fun r h' => Fr tlX h h' ∧ r = some (.int (nI (fitN (gI h 102) fl np)))) := by
  have v1 := V.1
  have v2 := V.2.1
  intro m
  induction m with
  | zero =>
    intro p g hm F
    have e : p = np := by omega
    subst e
    have S := F.S S0
    have R := F.R R0 (by decide)
    have hM1 : gI g 102 103 = nI p := (F.I 102 103 rfl).trans hM
    refine Rp.iload_n dX12_fitMany_4 rfl ?_
    refine Rp.aload_n dX12_fitMany_5 rfl rfl ?_
    refine Rp.getR dX12_fitMany_6 fk_X12_24 rfl (S _ _ rfl) (R _ _ _ rfl) ?_
    refine Rp.bipush (nI 103) dX12_fitMany_9 (by decide) ?_
    first | ((with_reducible show Rp _ _ _ _ (.int (nI _) :: _) _ _); refine Rp.ialoadN dX12_fitMany_11 (S _ _ rfl) (by omega) ?_) | refine Rp.iaload dX12_fitMany_11 (S _ _ rfl) (by first | assumption | exact vpb (by decide)) ?_
    first | rw [hM1] | skip
    first | ((with_reducible show Rp _ _ _ _ (.int (nI _) :: .int (nI _) :: _) _ _); refine Rp.icmp_geN (tgt := 53) dX12_fitMany_12 (by decide) (by omega) (fun c12 => ?_) (fun c12 => ?_)) | refine Rp.icmp_ge (tgt := 53) dX12_fitMany_12 (by decide) (fun c12 => ?_) (fun c12 => ?_)
    · skip
      refine Rp.iload_n dX12_fitMany_53 rfl ?_
      refine Rp.ireturn dX12_fitMany_54 rfl ?_
      exact ⟨F, rfl⟩
    · skip
      first | (exfalso; omega) | exact absurd c12 (by decide) | exact absurd (by decide) c12
  | succ m ih =>
    intro p g hm F
    have S := F.S S0
    have R := F.R R0 (by decide)
    have hM1 : gI g 102 103 = nI np := (F.I 102 103 rfl).trans hM
    have K1 : gI g 102 = gI h 102 := funext fun j => F.I 102 j rfl
    have hd := s_holds (d + 75) S R (q := p) (by omega)
    have fle := fitN_le (gI h 102) fl p
    rcases V.2.2.1 p (by omega) with e | ⟨-, t, ht, e⟩
    · have k1 := ih (p + 1) g (by omega) F
      rw [fitN, if_neg (fun z => z.1 e), Nat.add_zero] at k1
      rw [show gI g am_kept p = -1 from (F.I 102 p rfl).trans e] at hd
      refine Rp.iload_n dX12_fitMany_4 rfl ?_
      refine Rp.aload_n dX12_fitMany_5 rfl rfl ?_
      refine Rp.getR dX12_fitMany_6 fk_X12_24 rfl (S _ _ rfl) (R _ _ _ rfl) ?_
      refine Rp.bipush (nI 103) dX12_fitMany_9 (by decide) ?_
      first | ((with_reducible show Rp _ _ _ _ (.int (nI _) :: _) _ _); refine Rp.ialoadN dX12_fitMany_11 (S _ _ rfl) (by omega) ?_) | refine Rp.iaload dX12_fitMany_11 (S _ _ rfl) (by first | assumption | exact vpb (by decide)) ?_
      first | rw [hM1] | skip
      first | ((with_reducible show Rp _ _ _ _ (.int (nI _) :: .int (nI _) :: _) _ _); refine Rp.icmp_geN (tgt := 53) dX12_fitMany_12 (by decide) (by omega) (fun c12 => ?_) (fun c12 => ?_)) | refine Rp.icmp_ge (tgt := 53) dX12_fitMany_12 (by decide) (fun c12 => ?_) (fun c12 => ?_)
      · skip
        first | (exfalso; omega) | exact absurd c12 (by decide) | exact absurd (by decide) c12
      · skip
        refine Rp.iload_n dX12_fitMany_15 rfl ?_
        refine Rp.aload_n dX12_fitMany_16 rfl rfl ?_
        refine Rp.iload_n dX12_fitMany_17 rfl ?_
        refine Rp.callV1 M_X12_holds (ci := 12) dX12_fitMany_18 mo_X12_holds lk_X12_351 (by decide) rfl rfl (S _ _ rfl) (Nat.le_of_ble_eq_true rfl) (Nat.le_of_ble_eq_true rfl) (hd) (fun v1 h1 p1 x1 => ?_)
        rw [p1.1, p1.2]
        try dsimp only [Option.toList, List.cons_append, List.nil_append, List.append]
        first | ((with_reducible show Rp _ _ _ _ (.int (b2i _) :: _) _ _); refine Rp.if_eqB (tgt := 44) dX12_fitMany_21 (by decide) (fun c21 => ?_) (fun c21 => ?_)) | ((with_reducible show Rp _ _ _ _ (.int (nI _) :: _) _ _); refine Rp.if_eqN (tgt := 44) dX12_fitMany_21 (by decide) (by omega) (fun c21 => ?_) (fun c21 => ?_)) | refine Rp.if_eq (tgt := 44) dX12_fitMany_21 (by decide) (fun c21 => ?_) (fun c21 => ?_)
        · skip
          refine Rp.iconst (nI 0) dX12_fitMany_44 (by decide) ?_
          first | ((with_reducible show Rp _ _ _ _ (.int (nI _) :: .int (nI _) :: _) _ _); refine Rp.iaddN dX12_fitMany_45 ?_) | refine Rp.iadd dX12_fitMany_45 ?_
          refine Rp.ist1 dX12_fitMany_46 (by first | exact nl2_some rfl | exact nl2_none) (by decide) ?_
          first | ((with_reducible show Rp _ _ _ (_ :: _ :: some (.int (nI _)) :: _) _ _ _); refine Rp.inc2N (c := 1) dX12_fitMany_47 (by first | exact nl2_some rfl | exact nl2_none) (by decide) ?_) | refine Rp.inc2 _ dX12_fitMany_47 rfl (by first | exact nl2_some rfl | exact nl2_none) (by decide) ?_
          refine Rp.goto (tgt := 4) dX12_fitMany_50 (by decide) ?_
          exact k1
        · skip
          exact absurd c21 (by decide)
    · have en : ¬ gI g 102 p = -1 := fun z => nI_m1 (show t < 2147483648 by omega) (e.symm.trans ((F.I 102 p rfl).symm.trans z))
      have eg : gI g 102 p = nI t := (F.I 102 p rfl).trans e
      have ft := s_isFit d (h := g) (fl := fl) S R (by rw [show gI g am_kept = gI h 102 from K1]; exact hF) (by rw [show gI g am_kept = gI h 102 from K1]; exact B) (p := p) (t := t) (by omega) (by omega)
      rw [show gI g am_kept = gI h 102 from K1] at ft
      rw [show decide (gI g am_kept p ≠ -1) = true from decide_eq_true en] at hd
      refine Rp.iload_n dX12_fitMany_4 rfl ?_
      refine Rp.aload_n dX12_fitMany_5 rfl rfl ?_
      refine Rp.getR dX12_fitMany_6 fk_X12_24 rfl (S _ _ rfl) (R _ _ _ rfl) ?_
      refine Rp.bipush (nI 103) dX12_fitMany_9 (by decide) ?_
      first | ((with_reducible show Rp _ _ _ _ (.int (nI _) :: _) _ _); refine Rp.ialoadN dX12_fitMany_11 (S _ _ rfl) (by omega) ?_) | refine Rp.iaload dX12_fitMany_11 (S _ _ rfl) (by first | assumption | exact vpb (by decide)) ?_
      first | rw [hM1] | skip
      first | ((with_reducible show Rp _ _ _ _ (.int (nI _) :: .int (nI _) :: _) _ _); refine Rp.icmp_geN (tgt := 53) dX12_fitMany_12 (by decide) (by omega) (fun c12 => ?_) (fun c12 => ?_)) | refine Rp.icmp_ge (tgt := 53) dX12_fitMany_12 (by decide) (fun c12 => ?_) (fun c12 => ?_)
      · first | (exfalso; omega) | exact absurd c12 (by decide) | exact absurd (by decide) c12
      refine Rp.iload_n dX12_fitMany_15 rfl ?_
      refine Rp.aload_n dX12_fitMany_16 rfl rfl ?_
      refine Rp.iload_n dX12_fitMany_17 rfl ?_
      refine Rp.callV1 M_X12_holds (ci := 12) dX12_fitMany_18 mo_X12_holds lk_X12_351 (by decide) rfl rfl (S _ _ rfl) (Nat.le_of_ble_eq_true rfl) (Nat.le_of_ble_eq_true rfl) (hd) (fun v1 h1 p1 x1 => ?_)
      rw [p1.1, p1.2]
      try dsimp only [Option.toList, List.cons_append, List.nil_append, List.append]
      first | ((with_reducible show Rp _ _ _ _ (.int (b2i _) :: _) _ _); refine Rp.if_eqB (tgt := 44) dX12_fitMany_21 (by decide) (fun c21 => ?_) (fun c21 => ?_)) | ((with_reducible show Rp _ _ _ _ (.int (nI _) :: _) _ _); refine Rp.if_eqN (tgt := 44) dX12_fitMany_21 (by decide) (by omega) (fun c21 => ?_) (fun c21 => ?_)) | refine Rp.if_eq (tgt := 44) dX12_fitMany_21 (by decide) (fun c21 => ?_) (fun c21 => ?_)
      · cases c21
      refine Rp.aload_n dX12_fitMany_24 rfl rfl ?_
      refine Rp.iload_n dX12_fitMany_25 rfl ?_
      refine Rp.aload_n dX12_fitMany_26 rfl rfl ?_
      refine Rp.getR dX12_fitMany_27 fk_X12_24 rfl (S _ _ rfl) (R _ _ _ rfl) ?_
      refine Rp.iconst (nI 0) dX12_fitMany_30 (by decide) ?_
      refine Rp.iload_n dX12_fitMany_31 rfl ?_
      first | ((with_reducible show Rp _ _ _ _ (.int (nI _) :: .int (nI _) :: _) _ _); refine Rp.iaddN dX12_fitMany_32 ?_) | refine Rp.iadd dX12_fitMany_32 ?_
      rw [Nat.zero_add]
      first | ((with_reducible show Rp _ _ _ _ (.int (nI _) :: _) _ _); refine Rp.ialoadN dX12_fitMany_33 (S _ _ rfl) (by omega) ?_) | refine Rp.iaload dX12_fitMany_33 (S _ _ rfl) (by first | assumption | exact vpb (by decide)) ?_
      first | rw [hM1] | skip
      rw [eg]
      refine Rp.callV2 M_X12_isFit (ci := 12) dX12_fitMany_34 mo_X12_isFit lk_X12_158 (by decide) rfl rfl (S _ _ rfl) (Nat.le_of_ble_eq_true rfl) (Nat.le_of_ble_eq_true rfl) (ft) (fun v1 h1 p1 x1 => ?_)
      obtain ⟨F1, rfl⟩ := p1
      try dsimp only [Option.toList, List.cons_append, List.nil_append, List.append]
      skip
      have k1 := ih (p + 1) h1 (by omega) (F.trans F1)
      rw [fitN, e, ix_nI (by omega)] at k1
      cases c : oFt (gI h 102) fl p t
      · rw [if_neg (fun z => by rw [c] at z; exact absurd z.2 (by decide)), Nat.add_zero] at k1
        first | ((with_reducible show Rp _ _ _ _ (.int (b2i _) :: _) _ _); refine Rp.if_eqB (tgt := 44) dX12_fitMany_37 (by decide) (fun c37 => ?_) (fun c37 => ?_)) | ((with_reducible show Rp _ _ _ _ (.int (nI _) :: _) _ _); refine Rp.if_eqN (tgt := 44) dX12_fitMany_37 (by decide) (by omega) (fun c37 => ?_) (fun c37 => ?_)) | refine Rp.if_eq (tgt := 44) dX12_fitMany_37 (by decide) (fun c37 => ?_) (fun c37 => ?_)
        · skip
          refine Rp.iconst (nI 0) dX12_fitMany_44 (by decide) ?_
          first | ((with_reducible show Rp _ _ _ _ (.int (nI _) :: .int (nI _) :: _) _ _); refine Rp.iaddN dX12_fitMany_45 ?_) | refine Rp.iadd dX12_fitMany_45 ?_
          refine Rp.ist1 dX12_fitMany_46 (by first | exact nl2_some rfl | exact nl2_none) (by decide) ?_
          first | ((with_reducible show Rp _ _ _ (_ :: _ :: some (.int (nI _)) :: _) _ _ _); refine Rp.inc2N (c := 1) dX12_fitMany_47 (by first | exact nl2_some rfl | exact nl2_none) (by decide) ?_) | refine Rp.inc2 _ dX12_fitMany_47 rfl (by first | exact nl2_some rfl | exact nl2_none) (by decide) ?_
          refine Rp.goto (tgt := 4) dX12_fitMany_50 (by decide) ?_
          exact k1
        · skip
          cases c37
      · rw [if_pos ⟨nI_m1 (by omega), c⟩] at k1
        first | ((with_reducible show Rp _ _ _ _ (.int (b2i _) :: _) _ _); refine Rp.if_eqB (tgt := 44) dX12_fitMany_37 (by decide) (fun c37 => ?_) (fun c37 => ?_)) | ((with_reducible show Rp _ _ _ _ (.int (nI _) :: _) _ _); refine Rp.if_eqN (tgt := 44) dX12_fitMany_37 (by decide) (by omega) (fun c37 => ?_) (fun c37 => ?_)) | refine Rp.if_eq (tgt := 44) dX12_fitMany_37 (by decide) (fun c37 => ?_) (fun c37 => ?_)
        · skip
          cases c37
        · skip
          refine Rp.iconst (nI 1) dX12_fitMany_40 (by decide) ?_
          refine Rp.goto (tgt := 45) dX12_fitMany_41 (by decide) ?_
          first | ((with_reducible show Rp _ _ _ _ (.int (nI _) :: .int (nI _) :: _) _ _); refine Rp.iaddN dX12_fitMany_45 ?_) | refine Rp.iadd dX12_fitMany_45 ?_
          refine Rp.ist1 dX12_fitMany_46 (by first | exact nl2_some rfl | exact nl2_none) (by decide) ?_
          first | ((with_reducible show Rp _ _ _ (_ :: _ :: some (.int (nI _)) :: _) _ _ _); refine Rp.inc2N (c := 1) dX12_fitMany_47 (by first | exact nl2_some rfl | exact nl2_none) (by decide) ?_) | refine Rp.inc2 _ dX12_fitMany_47 rfl (by first | exact nl2_some rfl | exact nl2_none) (by decide) ?_
          refine Rp.goto (tgt := 4) dX12_fitMany_50 (by decide) ?_
          exact k1
theorem s_fitMany (S : ShOK h) (R : RfOK h) (hF : FlK (gI h 102) fl) (B : KB (gI h 102)) (V : VH (gI h 102) np nt) (hM : gI h 102 103 = nI np) : Rp (d + 76) M_X12_fitMany 0 [some (.ref aM), none, none] [] h (fun r h' => Fr tlX h h' ∧ r = some (.int (nI (fitN (gI h 102) fl np)))) := by
  have k1 := mfit4 d S R hF B V hM np 0 h (by omega) Fr.rfl'
  refine Rp.iconst (nI 0) dX12_fitMany_0 (by decide) ?_
  refine Rp.ist1 dX12_fitMany_1 (by first | exact nl2_some rfl | exact nl2_none) (by decide) ?_
  refine Rp.iconst (nI 0) dX12_fitMany_2 (by decide) ?_
  refine Rp.ist2 dX12_fitMany_3 (by first | exact nl2_some rfl | exact nl2_none) (by decide) ?_
  exact k1
end Mf
/-- the reference amid an order -/
def GB (h : AH) (c v : Nat → Nat) (T : Nat) (K : Nat → Int32) (dn : Nat) (lt : Int32) (fit : Nat) : Prop := ShOK h ∧ RfOK h ∧ EK h 2400 c v T ∧ gI h aM 25 = b2i true ∧ gI h 102 = K ∧ gI h aM 27 = nI dn ∧ gI h aM 28 = lt ∧ gI h aM 29 = nI fit
section Mo
variable {h : AH} {c v : Nat → Nat} {T : Nat} {K : Nat → Int32} {np nt dn fit : Nat} {lt : Int32}
theorem ov_person (d : Nat) (S : ShOK h) (R : RfOK h) (V : VH (gI h 102) np nt) (hM : gI h 102 103 = nI np) {k : Nat} (hk : k ≤ 5) : Rp (d + 2) M_X12_orderValue 0 [some (.ref aM), some (.int (nI 22)), some (.int (nI k))] [] h (fun r h' => h' = h ∧ r = some (.int (if k < np then gI h 102 k else -1))) ∧ Rp (d + 2) M_X12_orderValue 0 [some (.ref aM), some (.int (nI 16)), some (.int (nI k))] [] h (fun r h' => h' = h ∧ r = some (.int (if k < np then gI h 102 (13 + k) else -1))) := by
  have v1 := V.1
  have ip := s_isPerson d S R (nI k) v1 hM
  by_cases e : k < np
  · rw [show inN (nI k) np = true from (inN_iff (by omega)).mpr ⟨k, e, rfl⟩] at ip
    rw [if_pos e, if_pos e]
    refine ⟨?_, ?_⟩
    · skip
      refine Rp.iload_n dX12_orderValue_0 rfl ?_
      refine Rp.tableIn (tgt := 66) (off := 65) dX12_orderValue_1 (by decide) (by decide) (by decide) (by decide) ?_
      refine Rp.aload_n dX12_orderValue_66 rfl rfl ?_
      refine Rp.iload_n dX12_orderValue_67 rfl ?_
      refine Rp.callV1 M_X12_isPerson (ci := 12) dX12_orderValue_68 mo_X12_isPerson lk_X12_131 (by decide) rfl rfl (S _ _ rfl) (Nat.le_of_ble_eq_true rfl) (Nat.le_of_ble_eq_true rfl) (ip) (fun v1 h1 p1 x1 => ?_)
      rw [p1.1, p1.2]
      try dsimp only [Option.toList, List.cons_append, List.nil_append, List.append]
      first | ((with_reducible show Rp _ _ _ _ (.int (b2i _) :: _) _ _); refine Rp.if_eqB (tgt := 85) dX12_orderValue_71 (by decide) (fun c71 => ?_) (fun c71 => ?_)) | ((with_reducible show Rp _ _ _ _ (.int (nI _) :: _) _ _); refine Rp.if_eqN (tgt := 85) dX12_orderValue_71 (by decide) (by omega) (fun c71 => ?_) (fun c71 => ?_)) | refine Rp.if_eq (tgt := 85) dX12_orderValue_71 (by decide) (fun c71 => ?_) (fun c71 => ?_)
      · skip
        cases c71
      · skip
        refine Rp.aload_n dX12_orderValue_74 rfl rfl ?_
        refine Rp.getR dX12_orderValue_75 fk_X12_24 rfl (S _ _ rfl) (R _ _ _ rfl) ?_
        refine Rp.iconst (nI 0) dX12_orderValue_78 (by decide) ?_
        refine Rp.iload_n dX12_orderValue_79 rfl ?_
        first | ((with_reducible show Rp _ _ _ _ (.int (nI _) :: .int (nI _) :: _) _ _); refine Rp.iaddN dX12_orderValue_80 ?_) | refine Rp.iadd dX12_orderValue_80 ?_
        rw [Nat.zero_add]
        first | ((with_reducible show Rp _ _ _ _ (.int (nI _) :: _) _ _); refine Rp.ialoadN dX12_orderValue_81 (S _ _ rfl) (by omega) ?_) | refine Rp.iaload dX12_orderValue_81 (S _ _ rfl) (by first | assumption | exact vpb (by decide)) ?_
        refine Rp.goto (tgt := 86) dX12_orderValue_82 (by decide) ?_
        refine Rp.ireturn dX12_orderValue_86 rfl ?_
        exact ⟨rfl, rfl⟩
    · skip
      refine Rp.iload_n dX12_orderValue_0 rfl ?_
      refine Rp.tableIn (tgt := 44) (off := 43) dX12_orderValue_1 (by decide) (by decide) (by decide) (by decide) ?_
      refine Rp.aload_n dX12_orderValue_44 rfl rfl ?_
      refine Rp.iload_n dX12_orderValue_45 rfl ?_
      refine Rp.callV1 M_X12_isPerson (ci := 12) dX12_orderValue_46 mo_X12_isPerson lk_X12_131 (by decide) rfl rfl (S _ _ rfl) (Nat.le_of_ble_eq_true rfl) (Nat.le_of_ble_eq_true rfl) (ip) (fun v1 h1 p1 x1 => ?_)
      rw [p1.1, p1.2]
      try dsimp only [Option.toList, List.cons_append, List.nil_append, List.append]
      first | ((with_reducible show Rp _ _ _ _ (.int (b2i _) :: _) _ _); refine Rp.if_eqB (tgt := 64) dX12_orderValue_49 (by decide) (fun c49 => ?_) (fun c49 => ?_)) | ((with_reducible show Rp _ _ _ _ (.int (nI _) :: _) _ _); refine Rp.if_eqN (tgt := 64) dX12_orderValue_49 (by decide) (by omega) (fun c49 => ?_) (fun c49 => ?_)) | refine Rp.if_eq (tgt := 64) dX12_orderValue_49 (by decide) (fun c49 => ?_) (fun c49 => ?_)
      · skip
        cases c49
      · skip
        refine Rp.aload_n dX12_orderValue_52 rfl rfl ?_
        refine Rp.getR dX12_orderValue_53 fk_X12_24 rfl (S _ _ rfl) (R _ _ _ rfl) ?_
        refine Rp.bipush (nI 13) dX12_orderValue_56 (by decide) ?_
        refine Rp.iload_n dX12_orderValue_58 rfl ?_
        first | ((with_reducible show Rp _ _ _ _ (.int (nI _) :: .int (nI _) :: _) _ _); refine Rp.iaddN dX12_orderValue_59 ?_) | refine Rp.iadd dX12_orderValue_59 ?_
        first | ((with_reducible show Rp _ _ _ _ (.int (nI _) :: _) _ _); refine Rp.ialoadN dX12_orderValue_60 (S _ _ rfl) (by omega) ?_) | refine Rp.iaload dX12_orderValue_60 (S _ _ rfl) (by first | assumption | exact vpb (by decide)) ?_
        refine Rp.goto (tgt := 65) dX12_orderValue_61 (by decide) ?_
        refine Rp.ireturn dX12_orderValue_65 rfl ?_
        exact ⟨rfl, rfl⟩
  · have hf : inN (nI k) np = false := Bool.eq_false_iff.mpr (fun z => by
      obtain ⟨q, hq, e2⟩ := (inN_iff (by omega)).mp z
      exact e (by rw [nI_inj (by omega) (by omega) e2]; exact hq))
    rw [hf] at ip
    rw [if_neg e, if_neg e]
    refine ⟨?_, ?_⟩
    · skip
      refine Rp.iload_n dX12_orderValue_0 rfl ?_
      refine Rp.tableIn (tgt := 66) (off := 65) dX12_orderValue_1 (by decide) (by decide) (by decide) (by decide) ?_
      refine Rp.aload_n dX12_orderValue_66 rfl rfl ?_
      refine Rp.iload_n dX12_orderValue_67 rfl ?_
      refine Rp.callV1 M_X12_isPerson (ci := 12) dX12_orderValue_68 mo_X12_isPerson lk_X12_131 (by decide) rfl rfl (S _ _ rfl) (Nat.le_of_ble_eq_true rfl) (Nat.le_of_ble_eq_true rfl) (ip) (fun v1 h1 p1 x1 => ?_)
      rw [p1.1, p1.2]
      try dsimp only [Option.toList, List.cons_append, List.nil_append, List.append]
      first | ((with_reducible show Rp _ _ _ _ (.int (b2i _) :: _) _ _); refine Rp.if_eqB (tgt := 85) dX12_orderValue_71 (by decide) (fun c71 => ?_) (fun c71 => ?_)) | ((with_reducible show Rp _ _ _ _ (.int (nI _) :: _) _ _); refine Rp.if_eqN (tgt := 85) dX12_orderValue_71 (by decide) (by omega) (fun c71 => ?_) (fun c71 => ?_)) | refine Rp.if_eq (tgt := 85) dX12_orderValue_71 (by decide) (fun c71 => ?_) (fun c71 => ?_)
      · skip
        refine Rp.iconst (-1) dX12_orderValue_85 (by decide) ?_
        refine Rp.ireturn dX12_orderValue_86 rfl ?_
        exact ⟨rfl, rfl⟩
      · skip
        cases c71
    · skip
      refine Rp.iload_n dX12_orderValue_0 rfl ?_
      refine Rp.tableIn (tgt := 44) (off := 43) dX12_orderValue_1 (by decide) (by decide) (by decide) (by decide) ?_
      refine Rp.aload_n dX12_orderValue_44 rfl rfl ?_
      refine Rp.iload_n dX12_orderValue_45 rfl ?_
      refine Rp.callV1 M_X12_isPerson (ci := 12) dX12_orderValue_46 mo_X12_isPerson lk_X12_131 (by decide) rfl rfl (S _ _ rfl) (Nat.le_of_ble_eq_true rfl) (Nat.le_of_ble_eq_true rfl) (ip) (fun v1 h1 p1 x1 => ?_)
      rw [p1.1, p1.2]
      try dsimp only [Option.toList, List.cons_append, List.nil_append, List.append]
      first | ((with_reducible show Rp _ _ _ _ (.int (b2i _) :: _) _ _); refine Rp.if_eqB (tgt := 64) dX12_orderValue_49 (by decide) (fun c49 => ?_) (fun c49 => ?_)) | ((with_reducible show Rp _ _ _ _ (.int (nI _) :: _) _ _); refine Rp.if_eqN (tgt := 64) dX12_orderValue_49 (by decide) (by omega) (fun c49 => ?_) (fun c49 => ?_)) | refine Rp.if_eq (tgt := 64) dX12_orderValue_49 (by decide) (fun c49 => ?_) (fun c49 => ?_)
      · skip
        refine Rp.iconst (-1) dX12_orderValue_64 (by decide) ?_
        refine Rp.ireturn dX12_orderValue_65 rfl ?_
        exact ⟨rfl, rfl⟩
      · skip
        cases c49
theorem ov_word (d : Nat) (S : ShOK h) (R : RfOK h) (V : VH (gI h 102) np nt) (hM : gI h 102 103 = nI np) (hT : gI h 102 104 = nI nt) (h27 : gI h aM 27 = nI dn) (h28 : gI h aM 28 = lt) (h29 : gI h aM 29 = nI fit) {k : Nat} (h1 : 17 ≤ k) (h2 : k ≤ 21) : Rp (d + 2) M_X12_orderValue 0 [some (.ref aM), some (.int (nI k)), some (.int (nI 0))] [] h (fun r h' => h' = h ∧ r = some (.int (wO (gI h 102) np nt dn lt fit (k - 17)))) := by
  have v1 := V.1
  have v2 := V.2.1
  have hm := s_heldMany d S R v1 hM
  have cl := free_cnt v2 np v1 (fun p hp => by
    rcases V.2.2.1 p (by omega) with e | ⟨-, e⟩
    · exact Or.inl e
    · exact Or.inr e) V.2.2.2
  have q27 : gI h 100 27 = nI dn := h27
  have q28 : gI h 100 28 = lt := h28
  have q29 : gI h 100 29 = nI fit := h29
  have cl3 : cntH (gI h am_kept) np ≤ nt := (show cntH (gI h 102) np ≤ nt by omega)
  have hk : k = 17 ∨ k = 18 ∨ k = 19 ∨ k = 20 ∨ k = 21 := by omega
  rcases hk with rfl | rfl | rfl | rfl | rfl
  · skip
    refine Rp.iload_n dX12_orderValue_0 rfl ?_
    refine Rp.tableIn (tgt := 87) (off := 86) dX12_orderValue_1 (by decide) (by decide) (by decide) (by decide) ?_
    refine Rp.aload_n dX12_orderValue_87 rfl rfl ?_
    refine Rp.getR dX12_orderValue_88 fk_X12_24 rfl (S _ _ rfl) (R _ _ _ rfl) ?_
    refine Rp.bipush (nI 6) dX12_orderValue_91 (by decide) ?_
    first | ((with_reducible show Rp _ _ _ _ (.int (nI _) :: _) _ _); refine Rp.ialoadN dX12_orderValue_93 (S _ _ rfl) (by omega) ?_) | refine Rp.iaload dX12_orderValue_93 (S _ _ rfl) (by first | assumption | exact vpb (by decide)) ?_
    refine Rp.ireturn dX12_orderValue_94 rfl ?_
    exact ⟨rfl, rfl⟩
  · skip
    refine Rp.iload_n dX12_orderValue_0 rfl ?_
    refine Rp.tableIn (tgt := 95) (off := 94) dX12_orderValue_1 (by decide) (by decide) (by decide) (by decide) ?_
    refine Rp.aload_n dX12_orderValue_95 rfl rfl ?_
    refine Rp.getI dX12_orderValue_96 fk_X12_318 rfl (S _ _ rfl) ?_
    first | rw [q27] | skip
    refine Rp.ireturn dX12_orderValue_99 rfl ?_
    exact ⟨rfl, rfl⟩
  · skip
    refine Rp.iload_n dX12_orderValue_0 rfl ?_
    refine Rp.tableIn (tgt := 100) (off := 99) dX12_orderValue_1 (by decide) (by decide) (by decide) (by decide) ?_
    refine Rp.aload_n dX12_orderValue_100 rfl rfl ?_
    refine Rp.getI dX12_orderValue_101 fk_X12_321 rfl (S _ _ rfl) ?_
    first | rw [q28] | skip
    refine Rp.ireturn dX12_orderValue_104 rfl ?_
    exact ⟨rfl, rfl⟩
  · skip
    refine Rp.iload_n dX12_orderValue_0 rfl ?_
    refine Rp.tableIn (tgt := 105) (off := 104) dX12_orderValue_1 (by decide) (by decide) (by decide) (by decide) ?_
    refine Rp.aload_n dX12_orderValue_105 rfl rfl ?_
    refine Rp.getI dX12_orderValue_106 fk_X12_324 rfl (S _ _ rfl) ?_
    first | rw [q29] | skip
    refine Rp.ireturn dX12_orderValue_109 rfl ?_
    exact ⟨rfl, rfl⟩
  · skip
    refine Rp.iload_n dX12_orderValue_0 rfl ?_
    refine Rp.tableIn (tgt := 110) (off := 109) dX12_orderValue_1 (by decide) (by decide) (by decide) (by decide) ?_
    refine Rp.aload_n dX12_orderValue_110 rfl rfl ?_
    refine Rp.getR dX12_orderValue_111 fk_X12_24 rfl (S _ _ rfl) (R _ _ _ rfl) ?_
    refine Rp.bipush (nI 104) dX12_orderValue_114 (by decide) ?_
    first | ((with_reducible show Rp _ _ _ _ (.int (nI _) :: _) _ _); refine Rp.ialoadN dX12_orderValue_116 (S _ _ rfl) (by omega) ?_) | refine Rp.iaload dX12_orderValue_116 (S _ _ rfl) (by first | assumption | exact vpb (by decide)) ?_
    first | rw [hT] | skip
    refine Rp.aload_n dX12_orderValue_117 rfl rfl ?_
    refine Rp.callV0 M_X12_heldMany (ci := 12) dX12_orderValue_118 mo_X12_heldMany lk_X12_327 (by decide) rfl rfl (S _ _ rfl) (Nat.le_of_ble_eq_true rfl) (Nat.le_of_ble_eq_true rfl) (hm) (fun v1 h1 p1 x1 => ?_)
    rw [p1.1, p1.2]
    try dsimp only [Option.toList, List.cons_append, List.nil_append, List.append]
    first | ((with_reducible show Rp _ _ _ _ (.int (nI _) :: .int (nI _) :: _) _ _); refine Rp.isubN dX12_orderValue_121 (by omega) ?_) | refine Rp.isub dX12_orderValue_121 ?_
    refine Rp.ireturn dX12_orderValue_122 rfl ?_
    exact ⟨rfl, rfl⟩
theorem GB.eo (G : GB h c v T K dn lt fit) (V : VH K np nt) (B : KB K) (hM : K 103 = nI np) (hT : K 104 = nI nt) (hd : dn ≤ 1000) (hf : fit ≤ 1000) (hl : lt = -1 ∨ ∃ x, x < 100 ∧ lt = nI x) : EO h true (wO K np nt dn lt fit) := by
  obtain ⟨S, R, EKK, h25, hK, h27, h28, h29⟩ := G
  refine ⟨h25, fun j => wO_b V B hd hf hl j, (fun z => by cases z), fun _ d g b => ?_⟩
  have Sg : ShOK (evH h g b) := S
  have Rg : RfOK (evH h g b) := R
  have Kg : gI (evH h g b) 102 = K := (funext fun j => ev_k h g b j).trans hK
  have Vg : VH (gI (evH h g b) 102) np nt := by rw [Kg]; exact V
  have Mg : gI (evH h g b) 102 103 = nI np := by rw [Kg]; exact hM
  have Tg : gI (evH h g b) 102 104 = nI nt := by rw [Kg]; exact hT
  refine ⟨fun k h1 h2 => ?_, fun k hk => ?_, fun k hk => ?_⟩
  · have q := ov_word d Sg Rg Vg Mg Tg ((ev_q h g b (by decide) (by decide)).trans h27) ((ev_q h g b (by decide) (by decide)).trans h28) ((ev_q h g b (by decide) (by decide)).trans h29) h1 h2
    rw [Kg] at q
    exact q
  · have q := (ov_person d Sg Rg Vg Mg hk).1
    rw [Kg] at q
    rw [wO_has (by omega)]
    exact q
  · have q := (ov_person d Sg Rg Vg Mg hk).2
    rw [Kg] at q
    rw [wO_pat (by omega)]
    exact q
end Mo
