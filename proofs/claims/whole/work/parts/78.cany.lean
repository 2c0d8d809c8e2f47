def anS (vb : Nat) (w : Nat → Int32) (e : CLE) : Bool := decide (e.2.2.2.2.1 = vb) && clH e.2.2.2.2 w
section Ja
variable (d : Nat) {h : AH} {tx kh kc nh nc : Nat} {LS : List CLE} {w : Nat → Int32}
theorem an11 (S0 : ShOK h) (R0 : RfOK h) (T0 : TXG h tx kh kc nh nc false LS) (hl0 : gR h 40 4 = some tx) (hw0 : gI h 43 = w) (hb : ∀ j, j < 9 → -1000000000 ≤ (w j).toInt ∧ (w j).toInt ≤ 1000000000) {vb : Nat} (hvb : vb < 4) : ∀ (k m : Nat) (g : AH) (a3 : Option Value), m + k = LS.length → Fr mX h g → Rp (d + 1) M_X3_anyHolds 11 [some (.ref 40), some (.int (nI vb)), some (.int (nI m)), a3] [] g (fun r h' => Fr mX h h' ∧ r = some (.int (b2i ((LS.drop m).any (anS vb w))))) := by
  have hL : LS.length < 13 := by have := T0.2.2.2.2.2.1; have := T0.2.2.2.2.2.2.1; omega
  intro k
  induction k with
  | zero =>
    intro m g a3 hm F
    have S := F.S S0
    have hl : gR g 40 4 = some tx := (F.Rr 40 4 rfl).trans hl0
    have T := T0.fr F (fun k j o => okT_m j o)
    have ec := T.2.2.2.2.2.2.2.2.2.1.1
    rw [List.drop_eq_nil_of_le (by omega)]
    refine Rp.iload_n dX3_anyHolds_11 rfl ?_
    refine Rp.aload_n dX3_anyHolds_12 rfl rfl ?_
    refine Rp.getR dX3_anyHolds_13 fk_X3_29 rfl (S _ _ rfl) hl ?_
    refine Rp.getI dX3_anyHolds_16 fk_X3_81 rfl T.1 ?_
    first | rw [ec] | skip
    first | ((with_reducible show Rp _ _ _ _ (.int (nI _) :: .int (nI _) :: _) _ _); refine Rp.icmp_geN (tgt := 78) dX3_anyHolds_19 (by decide) (by omega) (fun c19 => ?_) (fun c19 => ?_)) | refine Rp.icmp_ge (tgt := 78) dX3_anyHolds_19 (by decide) (fun c19 => ?_) (fun c19 => ?_)
    · skip
      refine Rp.iconst (nI 0) dX3_anyHolds_78 (by decide) ?_
      refine Rp.zreturn dX3_anyHolds_79 rfl (Or.inl rfl) ?_
      exact ⟨F, rfl⟩
    · skip
      first | (exfalso; omega) | exact absurd c19 (by decide) | exact absurd (by decide) c19
  | succ k ih =>
    intro m g a3 hm F
    have S := F.S S0
    have R := F.R R0 (by decide)
    have T := T0.fr F (fun k j o => okT_m j o)
    have hl : gR g 40 4 = some tx := (F.Rr 40 4 rfl).trans hl0
    have hw : gI g 43 = w := (funext fun j => F.I 43 j rfl).trans hw0
    have hk : g.1[43]? = some (13, 9) := S _ _ rfl
    have ec := T.2.2.2.2.2.2.2.2.2.1.1
    have hm2 : m < LS.length := by omega
    have he : LS[m]? = some LS[m] := List.getElem?_eq_getElem hm2
    rw [List.drop_eq_getElem_cons hm2, List.any_cons]
    generalize LS[m] = e at he ⊢
    obtain ⟨c, v, hC⟩ := T.2.2.2.2.2.2.2.2.2.2.2
    obtain ⟨hv4, hpn, hp1, hp2, hp3⟩ := hC e (List.mem_of_getElem? he)
    have h0 := t_headT d T he (w := 0) (by decide)
    have h2 := t_headT d T he (w := 2) (by decide)
    have e0 : hdQ e 0 = nI e.2.2.2.2.1 := rfl
    rw [e0] at h0
    by_cases hv : e.2.2.2.2.1 = vb
    · rw [hv] at h0
      match hts : e.2.2.2.2.2.2.2.2 with
      | none =>
        have e2 : hdQ e 2 = -1 := by show oI (e.2.2.2.2.2.2.2.2.map Prod.fst) = -1; rw [hts]; rfl
        rw [e2] at h2
        have hH : anS vb w e = true := by unfold anS clH; rw [show e.2.2.2.2.2.2.2.2 = none from hts, decide_eq_true hv]; rfl
        rw [hH, Bool.true_or]
        refine Rp.iload_n dX3_anyHolds_11 rfl ?_
        refine Rp.aload_n dX3_anyHolds_12 rfl rfl ?_
        refine Rp.getR dX3_anyHolds_13 fk_X3_29 rfl (S _ _ rfl) hl ?_
        refine Rp.getI dX3_anyHolds_16 fk_X3_81 rfl T.1 ?_
        first | rw [ec] | skip
        first | ((with_reducible show Rp _ _ _ _ (.int (nI _) :: .int (nI _) :: _) _ _); refine Rp.icmp_geN (tgt := 78) dX3_anyHolds_19 (by decide) (by omega) (fun c19 => ?_) (fun c19 => ?_)) | refine Rp.icmp_ge (tgt := 78) dX3_anyHolds_19 (by decide) (fun c19 => ?_) (fun c19 => ?_)
        · skip
          first | (exfalso; omega) | exact absurd c19 (by decide) | exact absurd (by decide) c19
        · skip
          refine Rp.aload_n dX3_anyHolds_22 rfl rfl ?_
          refine Rp.getR dX3_anyHolds_23 fk_X3_29 rfl (S _ _ rfl) hl ?_
          refine Rp.iload_n dX3_anyHolds_26 rfl ?_
          refine Rp.iconst (nI 0) dX3_anyHolds_27 (by decide) ?_
          refine Rp.callV2 M_X9_head (ci := 9) dX3_anyHolds_28 mo_X9_head lk_X3_87 (by decide) rfl rfl T.1 (Nat.le_of_ble_eq_true rfl) (Nat.le_of_ble_eq_true rfl) (h0) (fun v1 h1 p1 x1 => ?_)
          rw [p1.1, p1.2]
          try dsimp only [Option.toList, List.cons_append, List.nil_append, List.append]
          refine Rp.iload_n dX3_anyHolds_31 rfl ?_
          first | ((with_reducible show Rp _ _ _ _ (.int (nI _) :: .int (nI _) :: _) _ _); refine Rp.icmp_neN (tgt := 72) dX3_anyHolds_32 (by decide) (by omega) (fun c32 => ?_) (fun c32 => ?_)) | refine Rp.icmp_ne (tgt := 72) dX3_anyHolds_32 (by decide) (fun c32 => ?_) (fun c32 => ?_)
          · skip
            first | (exfalso; omega) | exact absurd c32 (by decide) | exact absurd (by decide) c32
          · skip
            refine Rp.aload_n dX3_anyHolds_35 rfl rfl ?_
            refine Rp.getR dX3_anyHolds_36 fk_X3_29 rfl (S _ _ rfl) hl ?_
            refine Rp.iload_n dX3_anyHolds_39 rfl ?_
            refine Rp.iconst (nI 2) dX3_anyHolds_40 (by decide) ?_
            refine Rp.callV2 M_X9_head (ci := 9) dX3_anyHolds_41 mo_X9_head lk_X3_87 (by decide) rfl rfl T.1 (Nat.le_of_ble_eq_true rfl) (Nat.le_of_ble_eq_true rfl) (h2) (fun v1 h1 p1 x1 => ?_)
            rw [p1.1, p1.2]
            try dsimp only [Option.toList, List.cons_append, List.nil_append, List.append]
            refine Rp.ist3 dX3_anyHolds_44 (by first | exact nl2_some rfl | exact nl2_none) (by decide) ?_
            refine Rp.iload_n dX3_anyHolds_45 rfl ?_
            refine Rp.iconst (-1) dX3_anyHolds_46 (by decide) ?_
            first | ((with_reducible show Rp _ _ _ _ (.int (nI _) :: .int (nI _) :: _) _ _); refine Rp.icmp_eqN (tgt := 70) dX3_anyHolds_47 (by decide) (by omega) (fun c47 => ?_) (fun c47 => ?_)) | refine Rp.icmp_eq (tgt := 70) dX3_anyHolds_47 (by decide) (fun c47 => ?_) (fun c47 => ?_)
            · skip
              refine Rp.iconst (nI 1) dX3_anyHolds_70 (by decide) ?_
              refine Rp.zreturn dX3_anyHolds_71 rfl (Or.inr rfl) ?_
              exact ⟨F, rfl⟩
            · skip
              exact absurd rfl c47
      | some (pos, D) =>
        have hp3' : PtOK false c v (cdA LS) 0 (some (pos, D)) := by rw [← hts]; exact hp3
        have e2 : hdQ e 2 = nI pos := by show oI (e.2.2.2.2.2.2.2.2.map Prod.fst) = nI pos; rw [hts]; rfl
        rw [e2] at h2
        have hpos : pos < 436 := by
          obtain ⟨f, i, lv, i', lv', cd, hP, hA⟩ := hp3' pos D rfl
          have := hA cd.length (0, 0) (by rw [List.getElem?_append_right (Nat.le_refl _), Nat.sub_self]; rfl)
          have := (List.getElem?_eq_some_iff.mp this).1
          have := T.2.2.2.2.2.2.2.1
          have := T.2.2.2.2.2.2.2.2.1
          omega
        have om : ¬ nI pos = -1 := fun z => by rw [i32_eq, nI_toInt (by omega)] at z; have : (-1 : Int32).toInt = -1 := rfl; omega
        have rn := t_pt d S R T hk (by decide) hw rfl hb (Or.inl rfl) hp3'
        have bd := mAns_b (fun y hy => Pt_B (ord := false) (w := w) hb (Or.inl rfl) hp3' pos D rfl y hy)
        have eH : clH e.2.2.2.2 w = decide (D w 0 = some 1) := by unfold clH; rw [show e.2.2.2.2.2.2.2.2 = some (pos, D) from hts]
        refine Rp.iload_n dX3_anyHolds_11 rfl ?_
        refine Rp.aload_n dX3_anyHolds_12 rfl rfl ?_
        refine Rp.getR dX3_anyHolds_13 fk_X3_29 rfl (S _ _ rfl) hl ?_
        refine Rp.getI dX3_anyHolds_16 fk_X3_81 rfl T.1 ?_
        first | rw [ec] | skip
        first | ((with_reducible show Rp _ _ _ _ (.int (nI _) :: .int (nI _) :: _) _ _); refine Rp.icmp_geN (tgt := 78) dX3_anyHolds_19 (by decide) (by omega) (fun c19 => ?_) (fun c19 => ?_)) | refine Rp.icmp_ge (tgt := 78) dX3_anyHolds_19 (by decide) (fun c19 => ?_) (fun c19 => ?_)
        · first | (exfalso; omega) | exact absurd c19 (by decide) | exact absurd (by decide) c19
        refine Rp.aload_n dX3_anyHolds_22 rfl rfl ?_
        refine Rp.getR dX3_anyHolds_23 fk_X3_29 rfl (S _ _ rfl) hl ?_
        refine Rp.iload_n dX3_anyHolds_26 rfl ?_
        refine Rp.iconst (nI 0) dX3_anyHolds_27 (by decide) ?_
        refine Rp.callV2 M_X9_head (ci := 9) dX3_anyHolds_28 mo_X9_head lk_X3_87 (by decide) rfl rfl T.1 (Nat.le_of_ble_eq_true rfl) (Nat.le_of_ble_eq_true rfl) (h0) (fun v1 h1 p1 x1 => ?_)
        rw [p1.1, p1.2]
        try dsimp only [Option.toList, List.cons_append, List.nil_append, List.append]
        refine Rp.iload_n dX3_anyHolds_31 rfl ?_
        first | ((with_reducible show Rp _ _ _ _ (.int (nI _) :: .int (nI _) :: _) _ _); refine Rp.icmp_neN (tgt := 72) dX3_anyHolds_32 (by decide) (by omega) (fun c32 => ?_) (fun c32 => ?_)) | refine Rp.icmp_ne (tgt := 72) dX3_anyHolds_32 (by decide) (fun c32 => ?_) (fun c32 => ?_)
        · first | (exfalso; omega) | exact absurd c32 (by decide) | exact absurd (by decide) c32
        refine Rp.aload_n dX3_anyHolds_35 rfl rfl ?_
        refine Rp.getR dX3_anyHolds_36 fk_X3_29 rfl (S _ _ rfl) hl ?_
        refine Rp.iload_n dX3_anyHolds_39 rfl ?_
        refine Rp.iconst (nI 2) dX3_anyHolds_40 (by decide) ?_
        refine Rp.callV2 M_X9_head (ci := 9) dX3_anyHolds_41 mo_X9_head lk_X3_87 (by decide) rfl rfl T.1 (Nat.le_of_ble_eq_true rfl) (Nat.le_of_ble_eq_true rfl) (h2) (fun v1 h1 p1 x1 => ?_)
        rw [p1.1, p1.2]
        try dsimp only [Option.toList, List.cons_append, List.nil_append, List.append]
        refine Rp.ist3 dX3_anyHolds_44 (by first | exact nl2_some rfl | exact nl2_none) (by decide) ?_
        refine Rp.iload_n dX3_anyHolds_45 rfl ?_
        refine Rp.iconst (-1) dX3_anyHolds_46 (by decide) ?_
        first | ((with_reducible show Rp _ _ _ _ (.int (nI _) :: .int (nI _) :: _) _ _); refine Rp.icmp_eqN (tgt := 70) dX3_anyHolds_47 (by decide) (by omega) (fun c47 => ?_) (fun c47 => ?_)) | refine Rp.icmp_eq (tgt := 70) dX3_anyHolds_47 (by decide) (fun c47 => ?_) (fun c47 => ?_)
        · exact absurd c47 om
        refine Rp.aload_n dX3_anyHolds_50 rfl rfl ?_
        refine Rp.getR dX3_anyHolds_51 fk_X3_14 rfl (S _ _ rfl) (R _ _ _ rfl) ?_
        refine Rp.aload_n dX3_anyHolds_54 rfl rfl ?_
        refine Rp.getR dX3_anyHolds_55 fk_X3_29 rfl (S _ _ rfl) hl ?_
        refine Rp.iload_n dX3_anyHolds_58 rfl ?_
        refine Rp.aload_n dX3_anyHolds_59 rfl rfl ?_
        refine Rp.getR dX3_anyHolds_60 fk_X3_18 rfl (S _ _ rfl) (R _ _ _ rfl) ?_
        refine Rp.callV3 M_X5_run (ci := 5) dX3_anyHolds_63 mo_X5_run lk_X3_90 (by decide) rfl rfl (S _ _ rfl) (Nat.le_of_ble_eq_true rfl) (Nat.le_of_ble_eq_true rfl) (rn) (fun v1 h1 p1 x1 => ?_)
        obtain ⟨p2, rfl⟩ := p1
        try dsimp only [Option.toList, List.cons_append, List.nil_append, List.append]
        skip
        have F2 := F.trans p2
        by_cases hH : D w 0 = some 1
        · have hr := bd.2.mpr hH
          rw [show anS vb w e = true by unfold anS; rw [eH, decide_eq_true hv, decide_eq_true hH]; rfl, Bool.true_or]
          refine Rp.iconst (nI 1) dX3_anyHolds_66 (by decide) ?_
          first | ((with_reducible show Rp _ _ _ _ (.int (nI _) :: .int (nI _) :: _) _ _); refine Rp.icmp_neN (tgt := 72) dX3_anyHolds_67 (by decide) (by omega) (fun c67 => ?_) (fun c67 => ?_)) | refine Rp.icmp_ne (tgt := 72) dX3_anyHolds_67 (by decide) (fun c67 => ?_) (fun c67 => ?_)
          · skip
            exact absurd hr c67
          · skip
            refine Rp.iconst (nI 1) dX3_anyHolds_70 (by decide) ?_
            refine Rp.zreturn dX3_anyHolds_71 rfl (Or.inr rfl) ?_
            exact ⟨F2, rfl⟩
        · have hr : mAns (D w 0) ≠ nI 1 := fun z => hH (bd.2.mp z)
          rw [show anS vb w e = false by unfold anS; rw [eH, decide_eq_false hH, Bool.and_false], Bool.false_or]
          have back := ih (m + 1) h1 (some (.int (nI pos))) (by omega) F2
          refine Rp.iconst (nI 1) dX3_anyHolds_66 (by decide) ?_
          first | ((with_reducible show Rp _ _ _ _ (.int (nI _) :: .int (nI _) :: _) _ _); refine Rp.icmp_neN (tgt := 72) dX3_anyHolds_67 (by decide) (by omega) (fun c67 => ?_) (fun c67 => ?_)) | refine Rp.icmp_ne (tgt := 72) dX3_anyHolds_67 (by decide) (fun c67 => ?_) (fun c67 => ?_)
          · skip
            first | ((with_reducible show Rp _ _ _ (_ :: _ :: some (.int (nI _)) :: _) _ _ _); refine Rp.inc2N (c := 1) dX3_anyHolds_72 (by first | exact nl2_some rfl | exact nl2_none) (by decide) ?_) | refine Rp.inc2 _ dX3_anyHolds_72 rfl (by first | exact nl2_some rfl | exact nl2_none) (by decide) ?_
            refine Rp.goto (tgt := 11) dX3_anyHolds_75 (by decide) ?_
            exact back
          · skip
            exact absurd c67 hr
    · rw [show anS vb w e = false by unfold anS; rw [decide_eq_false hv]; rfl, Bool.false_or]
      have back := ih (m + 1) g a3 (by omega) F
      refine Rp.iload_n dX3_anyHolds_11 rfl ?_
      refine Rp.aload_n dX3_anyHolds_12 rfl rfl ?_
      refine Rp.getR dX3_anyHolds_13 fk_X3_29 rfl (S _ _ rfl) hl ?_
      refine Rp.getI dX3_anyHolds_16 fk_X3_81 rfl T.1 ?_
      first | rw [ec] | skip
      first | ((with_reducible show Rp _ _ _ _ (.int (nI _) :: .int (nI _) :: _) _ _); refine Rp.icmp_geN (tgt := 78) dX3_anyHolds_19 (by decide) (by omega) (fun c19 => ?_) (fun c19 => ?_)) | refine Rp.icmp_ge (tgt := 78) dX3_anyHolds_19 (by decide) (fun c19 => ?_) (fun c19 => ?_)
      · skip
        first | (exfalso; omega) | exact absurd c19 (by decide) | exact absurd (by decide) c19
      · skip
        refine Rp.aload_n dX3_anyHolds_22 rfl rfl ?_
        refine Rp.getR dX3_anyHolds_23 fk_X3_29 rfl (S _ _ rfl) hl ?_
        refine Rp.iload_n dX3_anyHolds_26 rfl ?_
        refine Rp.iconst (nI 0) dX3_anyHolds_27 (by decide) ?_
        refine Rp.callV2 M_X9_head (ci := 9) dX3_anyHolds_28 mo_X9_head lk_X3_87 (by decide) rfl rfl T.1 (Nat.le_of_ble_eq_true rfl) (Nat.le_of_ble_eq_true rfl) (h0) (fun v1 h1 p1 x1 => ?_)
        rw [p1.1, p1.2]
        try dsimp only [Option.toList, List.cons_append, List.nil_append, List.append]
        refine Rp.iload_n dX3_anyHolds_31 rfl ?_
        first | ((with_reducible show Rp _ _ _ _ (.int (nI _) :: .int (nI _) :: _) _ _); refine Rp.icmp_neN (tgt := 72) dX3_anyHolds_32 (by decide) (by omega) (fun c32 => ?_) (fun c32 => ?_)) | refine Rp.icmp_ne (tgt := 72) dX3_anyHolds_32 (by decide) (fun c32 => ?_) (fun c32 => ?_)
        · skip
          first | ((with_reducible show Rp _ _ _ (_ :: _ :: some (.int (nI _)) :: _) _ _ _); refine Rp.inc2N (c := 1) dX3_anyHolds_72 (by first | exact nl2_some rfl | exact nl2_none) (by decide) ?_) | refine Rp.inc2 _ dX3_anyHolds_72 rfl (by first | exact nl2_some rfl | exact nl2_none) (by decide) ?_
          refine Rp.goto (tgt := 11) dX3_anyHolds_75 (by decide) ?_
          exact back
        · skip
          first | (exfalso; omega) | exact absurd c32 (by decide) | exact absurd (by decide) c32
def ltF (fl : Option (List CLE)) (vb : Nat) (w : Nat → Int32) : Option Int := match fl with
  | none => none
  | some LS => ltL vb w LS
def anF (fl : Option (List CLE)) (vb : Nat) (w : Nat → Int32) : Bool := match fl with
  | none => false
  | some LS => LS.any (anS vb w)
theorem t_last (S : ShOK h) (R : RfOK h) {fl : Option (List CLE)} (J : JL h fl) (hw : gI h 43 = w) (hb : ∀ j, j < 9 → -1000000000 ≤ (w j).toInt ∧ (w j).toInt ≤ 1000000000) {vb : Nat} (hvb : vb < 2) : Rp (d + 1) M_X3_lastTold 0 [some (.ref 40), some (.int (nI vb)), none, none, none] [] h (fun r h' => Fr mX h h' ∧ r = some (.int (mAns (ltF fl vb w)))) := by
  match fl, J with
  | none, J =>
    have J : gR h 40 4 = none := J
    refine Rp.aload_n dX3_lastTold_0 rfl rfl ?_
    refine Rp.getRN dX3_lastTold_1 fk_X3_29 rfl (S _ _ rfl) J ?_
    refine Rp.ifnonnullN dX3_lastTold_4 ?_
    refine Rp.ldc dX3_lastTold_7 kc_X3_58 ?_
    refine Rp.ireturn dX3_lastTold_9 rfl ?_
    exact ⟨Fr.rfl', rfl⟩
  | some LS, J =>
    obtain ⟨tx, kh, kc, nh, nc, hl, T⟩ := J
    have hL : LS.length < 13 := by have := T.2.2.2.2.2.1; have := T.2.2.2.2.2.2.1; omega
    have ec := T.2.2.2.2.2.2.2.2.2.1.1
    have em : nI LS.length - nI 1 = (if LS.length = 0 then -1 else nI (LS.length - 1)) := by
      by_cases z : LS.length = 0
      · rw [z]; decide
      · rw [if_neg z, pk_sub (by omega)]
    have k1 := lt20 d S R T hl hw hb hvb LS.length _ h none none (Nat.le_refl _) rfl Fr.rfl'
    rw [List.take_length] at k1
    refine Rp.aload_n dX3_lastTold_0 rfl rfl ?_
    refine Rp.getR dX3_lastTold_1 fk_X3_29 rfl (S _ _ rfl) hl ?_
    refine Rp.ifnonnull (tgt := 10) dX3_lastTold_4 (by decide) ?_
    refine Rp.aload_n dX3_lastTold_10 rfl rfl ?_
    refine Rp.getR dX3_lastTold_11 fk_X3_29 rfl (S _ _ rfl) hl ?_
    refine Rp.getI dX3_lastTold_14 fk_X3_81 rfl T.1 ?_
    rw [ec]
    refine Rp.iconst (nI 1) dX3_lastTold_17 (by decide) ?_
    refine Rp.isub dX3_lastTold_18 ?_
    rw [em]
    refine Rp.ist2 dX3_lastTold_19 (nl2_some rfl) (by decide) ?_
    exact k1
theorem t_any (S : ShOK h) (R : RfOK h) {fl : Option (List CLE)} (J : JL h fl) (hw : gI h 43 = w) (hb : ∀ j, j < 9 → -1000000000 ≤ (w j).toInt ∧ (w j).toInt ≤ 1000000000) {vb : Nat} (hvb : vb < 4) : Rp (d + 1) M_X3_anyHolds 0 [some (.ref 40), some (.int (nI vb)), none, none] [] h (fun r h' => Fr mX h h' ∧ r = some (.int (b2i (anF fl vb w)))) := by
  match fl, J with
  | none, J =>
    have J : gR h 40 4 = none := J
    refine Rp.aload_n dX3_anyHolds_0 rfl rfl ?_
    refine Rp.getRN dX3_anyHolds_1 fk_X3_29 rfl (S _ _ rfl) J ?_
    refine Rp.ifnonnullN dX3_anyHolds_4 ?_
    refine Rp.iconst (nI 0) dX3_anyHolds_7 (by decide) ?_
    refine Rp.zreturn dX3_anyHolds_8 rfl (Or.inl rfl) ?_
    exact ⟨Fr.rfl', rfl⟩
  | some LS, J =>
    obtain ⟨tx, kh, kc, nh, nc, hl, T⟩ := J
    have k1 := an11 d S R T hl hw hb hvb LS.length 0 h none (by omega) Fr.rfl'
    rw [List.drop_zero] at k1
    refine Rp.aload_n dX3_anyHolds_0 rfl rfl ?_
    refine Rp.getR dX3_anyHolds_1 fk_X3_29 rfl (S _ _ rfl) hl ?_
    refine Rp.ifnonnull (tgt := 9) dX3_anyHolds_4 (by decide) ?_
    refine Rp.iconst (nI 0) dX3_anyHolds_9 (by decide) ?_
    refine Rp.ist2 dX3_anyHolds_10 (by first | exact nl2_some rfl | exact nl2_none) (by decide) ?_
    exact k1
end Ja
