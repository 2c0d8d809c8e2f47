/-- the judge's law: its text -/
def JL (h : AH) (fl : Option (List CLE)) : Prop := match fl with
  | none => gR h 40 4 = none
  | some LS => ∃ tx kh kc nh nc, gR h 40 4 = some tx ∧ TXG h tx kh kc nh nc false LS
section Jl
variable (d : Nat) {h : AH} {tx kh kc nh nc : Nat} {LS : List CLE} {w : Nat → Int32}
theorem lt20 (S0 : ShOK h) (R0 : RfOK h) (T0 : TXG h tx kh kc nh nc false LS) (hl0 : gR h 40 4 = some tx) (hw0 : gI h 43 = w) (hb : ∀ j, j < 9 → -1000000000 ≤ (w j).toInt ∧ (w j).toInt ≤ 1000000000) {vb : Nat} (hvb : vb < 2) : ∀ (m : Nat) (x : Int32) (g : AH) (a3 a4 : Option Value), m ≤ LS.length → x = (if m = 0 then -1 else nI (m - 1)) → Fr mX h g → Rp (d + 1) M_X3_lastTold 20 [some (.ref 40), some (.int (nI vb)), some (.int x), a3, a4] [] g (fun r h' => Fr mX h h' ∧ r = some (.int (mAns (ltL vb w (LS.take m))))) := by
  intro m
  induction m with
  | zero =>
    intro x g a3 a4 hm hx F
    rw [if_pos rfl] at hx
    subst hx
    refine Rp.iload_n dX3_lastTold_20 rfl ?_
    refine Rp.if_lt (tgt := 117) dX3_lastTold_21 (by decide) (fun c21 => ?_) (fun c21 => ?_)
    · skip
      refine Rp.ldc dX3_lastTold_117 kc_X3_58 ?_
      refine Rp.ireturn dX3_lastTold_119 rfl ?_
      exact ⟨F, rfl⟩
    · skip
      exact absurd (by decide) c21
  | succ m ih =>
    intro x g a3 a4 hm hx F
    rw [if_neg (by omega), show m + 1 - 1 = m by omega] at hx
    subst hx
    have S := F.S S0
    have R := F.R R0 (by decide)
    have T := T0.fr F (fun k j o => okT_m j o)
    have hl : gR g 40 4 = some tx := (F.Rr 40 4 rfl).trans hl0
    have hw : gI g 43 = w := (funext fun j => F.I 43 j rfl).trans hw0
    have hk : g.1[43]? = some (13, 9) := S _ _ rfl
    obtain ⟨e, he⟩ : ∃ e, LS[m]? = some e := ⟨_, List.getElem?_eq_getElem (by omega)⟩
    obtain ⟨c, v, hC⟩ := T.2.2.2.2.2.2.2.2.2.2.2
    obtain ⟨hv4, hpn, hp1, hp2, hp3⟩ := hC e (List.mem_of_getElem? he)
    have hn0 : ¬ nI m < 0 := by rw [i32_lt, nI_toInt (by have := T.2.2.2.2.2.1; have := T.2.2.2.2.2.2.1; omega)]; exact Int.not_lt.mpr (Int.natCast_nonneg _)
    have hm60 : m < 13 := by have := T.2.2.2.2.2.1; have := T.2.2.2.2.2.2.1; omega
    have em : nI m + Int32.ofInt (-1) = (if m = 0 then -1 else nI (m - 1)) := by
      by_cases z : m = 0
      · subst z; decide
      · rw [if_neg z, show nI m = nI (m - 1 + 1) by rw [show m - 1 + 1 = m by omega]]; exact pk_m1 (m - 1)
    rw [take_snoc he, ltL_snoc]
    have h0 := t_headT d T he (w := 0) (by decide)
    have h2 := t_headT d T he (w := 2) (by decide)
    have h3 := t_headT d T he (w := 3) (by decide)
    have e0 : hdQ e 0 = nI e.2.2.2.2.1 := rfl
    rw [e0] at h0
    by_cases hv : e.2.2.2.2.1 = vb
    · rw [hv] at h0
      -- the second half: the sum
      have fin : ∀ (g1 : AH) (x3 : Option Value), Fr mX h g1 → clH e.2.2.2.2 w = true → nl2 x3 → Rp (d + 1) M_X3_lastTold 75 [some (.ref 40), some (.int (nI vb)), some (.int (nI m)), x3, a4] [] g1 (fun r h' => Fr mX h h' ∧ r = some (.int (mAns (ltS vb w (ltL vb w (LS.take m)) e)))) := by
        intro g1 x3 F1 hH hx3
        have S1 := F1.S S0
        have R1 := F1.R R0 (by decide)
        have T1 := T0.fr F1 (fun k j o => okT_m j o)
        have hl1 : gR g1 40 4 = some tx := (F1.Rr 40 4 rfl).trans hl0
        have hw1 : gI g1 43 = w := (funext fun j => F1.I 43 j rfl).trans hw0
        obtain ⟨x, hx⟩ : ∃ x, e.2.2.2.2.2.2.1 = some x := by
          match hq : e.2.2.2.2.2.2.1 with
          | none =>
            have := hpn.mpr hq
            rw [if_neg (by decide), hv] at this
            omega
          | some x => exact ⟨x, rfl⟩
        obtain ⟨pos, D⟩ := x
        have h31 := t_headT d T1 he (w := 3) (by decide)
        have e3 : hdQ e 3 = nI pos := by show oI (e.2.2.2.2.2.2.1.map Prod.fst) = nI pos; rw [hx]; rfl
        rw [e3] at h31
        have hp1' : PtOK false c v (cdA LS) 7 (some (pos, D)) := by rw [← hx]; exact hp1
        have rn := t_pt d S1 R1 T1 (S1 43 (13, 9) rfl) (by decide) hw1 rfl hb (Or.inr rfl) hp1'
        have bd := mAns_b (fun y hy => Pt_B (ord := false) (w := w) hb (Or.inr rfl) hp1' pos D rfl y hy)
        have eV : clV e.2.2.2.2 w = D w 0 := by unfold clV; rw [show e.2.2.2.2.2.2.1 = some (pos, D) from hx]
        refine Rp.aload_n dX3_lastTold_75 rfl rfl ?_
        refine Rp.getR dX3_lastTold_76 fk_X3_14 rfl (S1 _ _ rfl) (R1 _ _ _ rfl) ?_
        refine Rp.aload_n dX3_lastTold_79 rfl rfl ?_
        refine Rp.getR dX3_lastTold_80 fk_X3_29 rfl (S1 _ _ rfl) hl1 ?_
        refine Rp.aload_n dX3_lastTold_83 rfl rfl ?_
        refine Rp.getR dX3_lastTold_84 fk_X3_29 rfl (S1 _ _ rfl) hl1 ?_
        refine Rp.iload_n dX3_lastTold_87 rfl ?_
        refine Rp.iconst (nI 3) dX3_lastTold_88 (by decide) ?_
        refine Rp.callV2 M_X9_head (ci := 9) dX3_lastTold_89 mo_X9_head lk_X3_87 (by decide) rfl rfl T1.1 (Nat.le_of_ble_eq_true rfl) (Nat.le_of_ble_eq_true rfl) (h31) (fun v1 h1 p1 x1 => ?_)
        rw [p1.1, p1.2]
        try dsimp only [Option.toList, List.cons_append, List.nil_append, List.append]
        refine Rp.aload_n dX3_lastTold_92 rfl rfl ?_
        refine Rp.getR dX3_lastTold_93 fk_X3_18 rfl (S1 _ _ rfl) (R1 _ _ _ rfl) ?_
        refine Rp.callV3 M_X5_run (ci := 5) dX3_lastTold_96 mo_X5_run lk_X3_90 (by decide) rfl rfl (S1 _ _ rfl) (Nat.le_of_ble_eq_true rfl) (Nat.le_of_ble_eq_true rfl) (rn) (fun v1 h1 p1 x1 => ?_)
        obtain ⟨p2, rfl⟩ := p1
        try dsimp only [Option.toList, List.cons_append, List.nil_append, List.append]
        skip
        have F2 := F1.trans p2
        have back := ih (if m = 0 then -1 else nI (m - 1)) h1 x3 (some (.int (mAns (D w 0)))) (by omega) rfl F2
        by_cases hN : D w 0 = none
        · have hr := bd.1.mpr hN
          rw [show ltS vb w (ltL vb w (LS.take m)) e = ltL vb w (LS.take m) by unfold ltS; rw [if_pos ⟨hv, hH⟩, eV, hN]]
          refine Rp.ist4 dX3_lastTold_99 (by first | exact nl2_some rfl | exact nl2_none | assumption) (by decide) ?_
          refine Rp.iload dX3_lastTold_101 rfl ?_
          refine Rp.ldc dX3_lastTold_103 kc_X3_58 ?_
          first | ((with_reducible show Rp _ _ _ _ (.int (nI _) :: .int (nI _) :: _) _ _); refine Rp.icmp_eqN (tgt := 111) dX3_lastTold_105 (by decide) (by omega) (fun c105 => ?_) (fun c105 => ?_)) | refine Rp.icmp_eq (tgt := 111) dX3_lastTold_105 (by decide) (fun c105 => ?_) (fun c105 => ?_)
          · skip
            refine Rp.inc2 _ dX3_lastTold_111 em (by first | exact nl2_some rfl | exact nl2_none) (by decide) ?_
            refine Rp.goto (tgt := 20) dX3_lastTold_114 (by decide) ?_
            exact back
          · skip
            exact absurd hr c105
        · have hr : mAns (D w 0) ≠ -2000000000 := fun z => hN (bd.1.mp z)
          rw [show ltS vb w (ltL vb w (LS.take m)) e = D w 0 by
            unfold ltS; rw [if_pos ⟨hv, hH⟩, eV]
            match hq : D w 0 with
            | none => exact absurd hq hN
            | some y => rfl]
          refine Rp.ist4 dX3_lastTold_99 (by first | exact nl2_some rfl | exact nl2_none | assumption) (by decide) ?_
          refine Rp.iload dX3_lastTold_101 rfl ?_
          refine Rp.ldc dX3_lastTold_103 kc_X3_58 ?_
          first | ((with_reducible show Rp _ _ _ _ (.int (nI _) :: .int (nI _) :: _) _ _); refine Rp.icmp_eqN (tgt := 111) dX3_lastTold_105 (by decide) (by omega) (fun c105 => ?_) (fun c105 => ?_)) | refine Rp.icmp_eq (tgt := 111) dX3_lastTold_105 (by decide) (fun c105 => ?_) (fun c105 => ?_)
          · skip
            exact absurd c105 hr
          · skip
            refine Rp.iload dX3_lastTold_108 rfl ?_
            refine Rp.ireturn dX3_lastTold_110 rfl ?_
            exact ⟨F2, rfl⟩
      match hts : e.2.2.2.2.2.2.2.2 with
      | none =>
        have e2 : hdQ e 2 = -1 := by show oI (e.2.2.2.2.2.2.2.2.map Prod.fst) = -1; rw [hts]; rfl
        rw [e2] at h2
        have hH : clH e.2.2.2.2 w = true := by unfold clH; rw [show e.2.2.2.2.2.2.2.2 = none from hts]
        have k1 := fin g (some (.int (-1))) F hH (nl2_some rfl)
        refine Rp.iload_n dX3_lastTold_20 rfl ?_
        refine Rp.if_lt (tgt := 117) dX3_lastTold_21 (by decide) (fun c21 => ?_) (fun c21 => ?_)
        · skip
          exact absurd c21 hn0
        · skip
          refine Rp.aload_n dX3_lastTold_24 rfl rfl ?_
          refine Rp.getR dX3_lastTold_25 fk_X3_29 rfl (S _ _ rfl) hl ?_
          refine Rp.iload_n dX3_lastTold_28 rfl ?_
          refine Rp.iconst (nI 0) dX3_lastTold_29 (by decide) ?_
          refine Rp.callV2 M_X9_head (ci := 9) dX3_lastTold_30 mo_X9_head lk_X3_87 (by decide) rfl rfl T.1 (Nat.le_of_ble_eq_true rfl) (Nat.le_of_ble_eq_true rfl) (h0) (fun v1 h1 p1 x1 => ?_)
          rw [p1.1, p1.2]
          try dsimp only [Option.toList, List.cons_append, List.nil_append, List.append]
          refine Rp.iload_n dX3_lastTold_33 rfl ?_
          first | ((with_reducible show Rp _ _ _ _ (.int (nI _) :: .int (nI _) :: _) _ _); refine Rp.icmp_eqN (tgt := 40) dX3_lastTold_34 (by decide) (by omega) (fun c34 => ?_) (fun c34 => ?_)) | refine Rp.icmp_eq (tgt := 40) dX3_lastTold_34 (by decide) (fun c34 => ?_) (fun c34 => ?_)
          · skip
            refine Rp.aload_n dX3_lastTold_40 rfl rfl ?_
            refine Rp.getR dX3_lastTold_41 fk_X3_29 rfl (S _ _ rfl) hl ?_
            refine Rp.iload_n dX3_lastTold_44 rfl ?_
            refine Rp.iconst (nI 2) dX3_lastTold_45 (by decide) ?_
            refine Rp.callV2 M_X9_head (ci := 9) dX3_lastTold_46 mo_X9_head lk_X3_87 (by decide) rfl rfl T.1 (Nat.le_of_ble_eq_true rfl) (Nat.le_of_ble_eq_true rfl) (h2) (fun v1 h1 p1 x1 => ?_)
            rw [p1.1, p1.2]
            try dsimp only [Option.toList, List.cons_append, List.nil_append, List.append]
            refine Rp.ist3 dX3_lastTold_49 (by first | exact nl2_some rfl | exact nl2_none) (by decide) ?_
            refine Rp.iload_n dX3_lastTold_50 rfl ?_
            refine Rp.iconst (-1) dX3_lastTold_51 (by decide) ?_
            first | ((with_reducible show Rp _ _ _ _ (.int (nI _) :: .int (nI _) :: _) _ _); refine Rp.icmp_eqN (tgt := 75) dX3_lastTold_52 (by decide) (by omega) (fun c52 => ?_) (fun c52 => ?_)) | refine Rp.icmp_eq (tgt := 75) dX3_lastTold_52 (by decide) (fun c52 => ?_) (fun c52 => ?_)
            · skip
              exact k1
            · skip
              exact absurd rfl c52
          · skip
            first | (exfalso; omega) | exact absurd c34 (by decide) | exact absurd (by decide) c34
      | some (pos, D) =>
        have hp3' : PtOK false c v (cdA LS) 0 (some (pos, D)) := by rw [← hts]; exact hp3
        have e2 : hdQ e 2 = nI pos := by show oI (e.2.2.2.2.2.2.2.2.map Prod.fst) = nI pos; rw [hts]; rfl
        rw [e2] at h2
        have hpos : pos < 436 := by
          obtain ⟨f, i, lv, i', lv', cd, hP, hA⟩ := hp3' pos D rfl
          have := hA cd.length (0, 0) (by rw [List.getElem?_append_right (Nat.le_refl _), Nat.sub_self]; rfl)
          have := (List.getElem?_eq_some_iff.mp this).1
          have := T.2.2.2.2.2.2.2.1
          have := T.2.2.2.2.2.2.2.2.1
          omega
        have om : ¬ nI pos = -1 := fun z => by rw [i32_eq, nI_toInt (by omega)] at z; have : (-1 : Int32).toInt = -1 := rfl; omega
        have rn := t_pt d S R T hk (by decide) hw rfl hb (Or.inl rfl) hp3'
        have bd := mAns_b (fun y hy => Pt_B (ord := false) (w := w) hb (Or.inl rfl) hp3' pos D rfl y hy)
        refine Rp.iload_n dX3_lastTold_20 rfl ?_
        refine Rp.if_lt (tgt := 117) dX3_lastTold_21 (by decide) (fun c21 => ?_) (fun c21 => ?_)
        · exact absurd c21 hn0
        refine Rp.aload_n dX3_lastTold_24 rfl rfl ?_
        refine Rp.getR dX3_lastTold_25 fk_X3_29 rfl (S _ _ rfl) hl ?_
        refine Rp.iload_n dX3_lastTold_28 rfl ?_
        refine Rp.iconst (nI 0) dX3_lastTold_29 (by decide) ?_
        refine Rp.callV2 M_X9_head (ci := 9) dX3_lastTold_30 mo_X9_head lk_X3_87 (by decide) rfl rfl T.1 (Nat.le_of_ble_eq_true rfl) (Nat.le_of_ble_eq_true rfl) (h0) (fun v1 h1 p1 x1 => ?_)
        rw [p1.1, p1.2]
        try dsimp only [Option.toList, List.cons_append, List.nil_append, List.append]
        refine Rp.iload_n dX3_lastTold_33 rfl ?_
        first | ((with_reducible show Rp _ _ _ _ (.int (nI _) :: .int (nI _) :: _) _ _); refine Rp.icmp_eqN (tgt := 40) dX3_lastTold_34 (by decide) (by omega) (fun c34 => ?_) (fun c34 => ?_)) | refine Rp.icmp_eq (tgt := 40) dX3_lastTold_34 (by decide) (fun c34 => ?_) (fun c34 => ?_)
        rotate_left
        · first | (exfalso; omega) | exact absurd c34 (by decide) | exact absurd (by decide) c34
        refine Rp.aload_n dX3_lastTold_40 rfl rfl ?_
        refine Rp.getR dX3_lastTold_41 fk_X3_29 rfl (S _ _ rfl) hl ?_
        refine Rp.iload_n dX3_lastTold_44 rfl ?_
        refine Rp.iconst (nI 2) dX3_lastTold_45 (by decide) ?_
        refine Rp.callV2 M_X9_head (ci := 9) dX3_lastTold_46 mo_X9_head lk_X3_87 (by decide) rfl rfl T.1 (Nat.le_of_ble_eq_true rfl) (Nat.le_of_ble_eq_true rfl) (h2) (fun v1 h1 p1 x1 => ?_)
        rw [p1.1, p1.2]
        try dsimp only [Option.toList, List.cons_append, List.nil_append, List.append]
        refine Rp.ist3 dX3_lastTold_49 (by first | exact nl2_some rfl | exact nl2_none) (by decide) ?_
        refine Rp.iload_n dX3_lastTold_50 rfl ?_
        refine Rp.iconst (-1) dX3_lastTold_51 (by decide) ?_
        first | ((with_reducible show Rp _ _ _ _ (.int (nI _) :: .int (nI _) :: _) _ _); refine Rp.icmp_eqN (tgt := 75) dX3_lastTold_52 (by decide) (by omega) (fun c52 => ?_) (fun c52 => ?_)) | refine Rp.icmp_eq (tgt := 75) dX3_lastTold_52 (by decide) (fun c52 => ?_) (fun c52 => ?_)
        · exact absurd c52 om
        refine Rp.aload_n dX3_lastTold_55 rfl rfl ?_
        refine Rp.getR dX3_lastTold_56 fk_X3_14 rfl (S _ _ rfl) (R _ _ _ rfl) ?_
        refine Rp.aload_n dX3_lastTold_59 rfl rfl ?_
        refine Rp.getR dX3_lastTold_60 fk_X3_29 rfl (S _ _ rfl) hl ?_
        refine Rp.iload_n dX3_lastTold_63 rfl ?_
        refine Rp.aload_n dX3_lastTold_64 rfl rfl ?_
        refine Rp.getR dX3_lastTold_65 fk_X3_18 rfl (S _ _ rfl) (R _ _ _ rfl) ?_
        refine Rp.callV3 M_X5_run (ci := 5) dX3_lastTold_68 mo_X5_run lk_X3_90 (by decide) rfl rfl (S _ _ rfl) (Nat.le_of_ble_eq_true rfl) (Nat.le_of_ble_eq_true rfl) (rn) (fun v1 h1 p1 x1 => ?_)
        obtain ⟨p2, rfl⟩ := p1
        try dsimp only [Option.toList, List.cons_append, List.nil_append, List.append]
        skip
        have F2 := F.trans p2
        by_cases hH : D w 0 = some 1
        · have hr := bd.2.mpr hH
          have k1 := fin h1 (some (.int (nI pos))) F2 (by unfold clH; rw [show e.2.2.2.2.2.2.2.2 = some (pos, D) from hts]; exact decide_eq_true hH) (nl2_some rfl)
          refine Rp.iconst (nI 1) dX3_lastTold_71 (by decide) ?_
          first | ((with_reducible show Rp _ _ _ _ (.int (nI _) :: .int (nI _) :: _) _ _); refine Rp.icmp_neN (tgt := 111) dX3_lastTold_72 (by decide) (by omega) (fun c72 => ?_) (fun c72 => ?_)) | refine Rp.icmp_ne (tgt := 111) dX3_lastTold_72 (by decide) (fun c72 => ?_) (fun c72 => ?_)
          · skip
            exact absurd hr c72
          · skip
            exact k1
        · have hr : mAns (D w 0) ≠ nI 1 := fun z => hH (bd.2.mp z)
          rw [show ltS vb w (ltL vb w (LS.take m)) e = ltL vb w (LS.take m) by
            unfold ltS; rw [if_neg (fun z => by
              have z := z.2
              unfold clH at z
              rw [show e.2.2.2.2.2.2.2.2 = some (pos, D) from hts] at z
              exact hH (of_decide_eq_true z))]]
          have back := ih (if m = 0 then -1 else nI (m - 1)) h1 (some (.int (nI pos))) a4 (by omega) rfl F2
          refine Rp.iconst (nI 1) dX3_lastTold_71 (by decide) ?_
          first | ((with_reducible show Rp _ _ _ _ (.int (nI _) :: .int (nI _) :: _) _ _); refine Rp.icmp_neN (tgt := 111) dX3_lastTold_72 (by decide) (by omega) (fun c72 => ?_) (fun c72 => ?_)) | refine Rp.icmp_ne (tgt := 111) dX3_lastTold_72 (by decide) (fun c72 => ?_) (fun c72 => ?_)
          · skip
            refine Rp.inc2 _ dX3_lastTold_111 em (by first | exact nl2_some rfl | exact nl2_none) (by decide) ?_
            refine Rp.goto (tgt := 20) dX3_lastTold_114 (by decide) ?_
            exact back
          · skip
            exact absurd c72 hr
    · rw [show ltS vb w (ltL vb w (LS.take m)) e = ltL vb w (LS.take m) by unfold ltS; rw [if_neg (fun z => hv z.1)]]
      have back := ih (if m = 0 then -1 else nI (m - 1)) g a3 a4 (by omega) rfl F
      refine Rp.iload_n dX3_lastTold_20 rfl ?_
      refine Rp.if_lt (tgt := 117) dX3_lastTold_21 (by decide) (fun c21 => ?_) (fun c21 => ?_)
      · skip
        exact absurd c21 hn0
      · skip
        refine Rp.aload_n dX3_lastTold_24 rfl rfl ?_
        refine Rp.getR dX3_lastTold_25 fk_X3_29 rfl (S _ _ rfl) hl ?_
        refine Rp.iload_n dX3_lastTold_28 rfl ?_
        refine Rp.iconst (nI 0) dX3_lastTold_29 (by decide) ?_
        refine Rp.callV2 M_X9_head (ci := 9) dX3_lastTold_30 mo_X9_head lk_X3_87 (by decide) rfl rfl T.1 (Nat.le_of_ble_eq_true rfl) (Nat.le_of_ble_eq_true rfl) (h0) (fun v1 h1 p1 x1 => ?_)
        rw [p1.1, p1.2]
        try dsimp only [Option.toList, List.cons_append, List.nil_append, List.append]
        refine Rp.iload_n dX3_lastTold_33 rfl ?_
        first | ((with_reducible show Rp _ _ _ _ (.int (nI _) :: .int (nI _) :: _) _ _); refine Rp.icmp_eqN (tgt := 40) dX3_lastTold_34 (by decide) (by omega) (fun c34 => ?_) (fun c34 => ?_)) | refine Rp.icmp_eq (tgt := 40) dX3_lastTold_34 (by decide) (fun c34 => ?_) (fun c34 => ?_)
        · skip
          first | (exfalso; omega) | exact absurd c34 (by decide) | exact absurd (by decide) c34
        · skip
          refine Rp.goto (tgt := 111) dX3_lastTold_37 (by decide) ?_
          refine Rp.inc2 _ dX3_lastTold_111 em (by first | exact nl2_some rfl | exact nl2_none) (by decide) ?_
          refine Rp.goto (tgt := 20) dX3_lastTold_114 (by decide) ?_
          exact back
end Jl
