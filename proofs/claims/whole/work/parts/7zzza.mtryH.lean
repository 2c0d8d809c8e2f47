def thX (k j : Nat) : Bool := mhX k j || (k == 102 && decide (j < 6))
theorem thX_m {h g : AH} (F : Fr mhX h g) : Fr thX h g := F.weak (fun k j hx => by unfold thX at hx; rw [Bool.or_eq_false_iff] at hx; exact hx.1)
theorem RWy.mh {g g' : AH} {K : Nat → Int32} {np nt : Nat} {W : Nat → Int32} {k U : Nat} (B : RWy g K np nt W k U) (F : Fr mhX g g') : RWy g' K np nt W k U := B.fr F (by decide) (fun j => rfl) (fun j => rfl) (fun j => rfl) rfl
section Th3
variable (d : Nat) {hb : AH} {fl : Option (List CLE)} {np nt nd no : Nat} {wi : Int32}
theorem s_tryH (A0 : MBd hb fl np nt nd) (V0 : VH (gI hb 102) np nt) (hno : gI hb 102 106 = nI no) (VTt : VT (gI hb 102) no) : ∀ (rest pre : List Nat) (W : Nat → Int32) (U : Nat) (s : List (Nat → Int32)) (g : AH), hlR (gI hb 102) np 0 = pre ++ rest → RWy g (gI hb 102) np nt W pre.length U → RMw wi g s → s.length + fc rest.length ≤ 720 → unW np W (tkL (gI hb 102) np nt 0) = rest.length → Rp (d + 80 + rest.length) M_X12_triesHad 0 [some (.ref aM), some (.int (nI pre.length)), some (.int (nI U)), none] [] g (TyQ (gI hb 102) np nt (RMw wi) thX g W pre.length U (twF np (tkL (gI hb 102) np nt 0) (okC9 (gI hb 102) fl true) (hdS (gI hb 102) fl nd np nt no) rest W s)) := by
  have v1 := V0.1
  have v2 := V0.2.1
  have hl6 : (hlR (gI hb 102) np 0).length ≤ 6 := by rw [hlR_len]; exact Nat.le_trans (cntH_le _ _) v1
  have tl := V0.lens
  have h8 : ∀ t ∈ tkL (gI hb 102) np nt 0, t < 8 := fun t ht => by have := tkL_mem nt 0 t ht; omega
  intro rest
  induction rest with
  | nil =>
    intro pre W U s g hp Bg hS hN hU
    rw [List.append_nil] at hp
    obtain ⟨S, R, L, -⟩ := id Bg
    have hN : s.length + 1 ≤ 720 := hN
    have e39 : gI g 100 39 = nI pre.length := by rw [L.1, hp]
    have l6 : pre.length ≤ 6 := by rw [← hp]; exact hl6
    have eK := RWy.leaf (U := U) (by rw [hp]; exact Bg) V0
    have jd := s_countsWay d (K := gI hb 102) (W := W) (wi := wi) (L := s) (A0.mix S R Bg.2.2.2.2.2.2.1 eK) eK Bg.2.2.2.2.2.2.1 hno VTt (by omega) hS
    refine Rp.iload_n dX12_triesHad_0 rfl ?_
    refine Rp.aload_n dX12_triesHad_1 rfl rfl ?_
    refine Rp.getI dX12_triesHad_2 fk_X12_405 rfl (S _ _ rfl) ?_
    first | rw [e39] | skip
    first | ((with_reducible show Rp _ _ _ _ (.int (nI _) :: .int (nI _) :: _) _ _); refine Rp.icmp_neN (tgt := 13) dX12_triesHad_5 (by decide) (by omega) (fun c5 => ?_) (fun c5 => ?_)) | refine Rp.icmp_ne (tgt := 13) dX12_triesHad_5 (by decide) (fun c5 => ?_) (fun c5 => ?_)
    · skip
      first | (exfalso; omega) | exact absurd c5 (by decide) | exact absurd (by decide) c5
    · skip
      refine Rp.aload_n dX12_triesHad_8 rfl rfl ?_
      refine Rp.callV0 M_X12_countsWay (ci := 12) dX12_triesHad_9 mo_X12_countsWay lk_X12_461 (by decide) rfl rfl (S _ _ rfl) (Nat.le_of_ble_eq_true rfl) (Nat.le_of_ble_eq_true rfl) (jd) (fun v1 h1 p1 x1 => ?_)
      obtain ⟨rfl, F1, r1⟩ := p1
      try dsimp only [Option.toList, List.cons_append, List.nil_append, List.append]
      refine Rp.vreturn dX12_triesHad_12 rfl ?_
      exact ⟨rfl, Bg.mh F1, r1, thX_m F1⟩
  | cons p rest ih =>
    intro pre W U s g hp Bg hS hN hU
    have hk : (hlR (gI hb 102) np 0)[pre.length]? = some p := by rw [hp, List.getElem?_append_right (Nat.le_refl _), Nat.sub_self]; rfl
    have ll : (hlR (gI hb 102) np 0).length = pre.length + (rest.length + 1) := by rw [hp, List.length_append, List.length_cons]
    have mp := hlR_mem np 0 p (List.mem_of_getElem? hk)
    have nd2 : (p :: rest).Nodup := by
      have := hlR_nodup (K := gI hb 102) np 0
      rw [hp] at this
      exact (List.nodup_append.mp this).2.1
    rw [List.nodup_cons] at nd2
    have hr : ∀ q ∈ rest, q < np ∧ W q = -1 := fun q hq => by
      obtain ⟨i, hi⟩ := List.mem_iff_getElem?.mp hq
      have hi2 : (hlR (gI hb 102) np 0)[pre.length + (i + 1)]? = some q := by
        rw [hp, List.getElem?_append_right (by omega), show pre.length + (i + 1) - pre.length = i + 1 by omega, List.getElem?_cons_succ]; exact hi
      have mq := hlR_mem np 0 q (List.mem_of_getElem? hi2)
      exact ⟨by omega, Bg.2.2.2.2.2.2.2.2.1 _ q (by omega) hi2⟩
    have lp : ∀ (ts2 ts1 : List Nat) (s : List (Nat → Int32)) (g1 : AH), tkL (gI hb 102) np nt 0 = ts1 ++ ts2 → RWy g1 (gI hb 102) np nt W pre.length U → RMw wi g1 s → s.length + unW np W ts2 * fc rest.length ≤ 720 → Fr thX g g1 → Rp (d + 80 + (rest.length + 1)) M_X12_triesHad 15 [some (.ref aM), some (.int (nI pre.length)), some (.int (nI U)), some (.int (nI ts1.length))] [] g1 (TyQ (gI hb 102) np nt (RMw wi) thX g W pre.length U (ts2.foldl (fun s t => if hOf W (nI t) np ≠ -1 ∨ okC9 (gI hb 102) fl true p t = false then s else twF np (tkL (gI hb 102) np nt 0) (okC9 (gI hb 102) fl true) (hdS (gI hb 102) fl nd np nt no) rest (upK W p (nI t)) s) s)) := by
      intro ts2
      induction ts2 with
      | nil =>
        intro ts1 s g1 ht B1 hS1 hN1 F1
        rw [List.append_nil] at ht
        obtain ⟨S, R, L, -⟩ := id B1
        have e39 : gI g1 100 39 = nI ts1.length := by rw [L.1, ← tl, ht]
        have l6 : ts1.length ≤ 6 := by rw [← ht, tl]; exact hl6
        refine Rp.iload_n dX12_triesHad_15 rfl ?_
        refine Rp.aload_n dX12_triesHad_16 rfl rfl ?_
        refine Rp.getI dX12_triesHad_17 fk_X12_405 rfl (S _ _ rfl) ?_
        first | rw [e39] | skip
        first | ((with_reducible show Rp _ _ _ _ (.int (nI _) :: .int (nI _) :: _) _ _); refine Rp.icmp_geN (tgt := 71) dX12_triesHad_20 (by decide) (by omega) (fun c20 => ?_) (fun c20 => ?_)) | refine Rp.icmp_ge (tgt := 71) dX12_triesHad_20 (by decide) (fun c20 => ?_) (fun c20 => ?_)
        · skip
          refine Rp.vreturn dX12_triesHad_71 rfl ?_
          exact ⟨rfl, B1, hS1, F1⟩
        · skip
          first | (exfalso; omega) | exact absurd c20 (by decide) | exact absurd (by decide) c20
      | cons t ts2 iht =>
        intro ts1 s g1 ht B1 hS1 hN1 F1
        obtain ⟨S, R, L, b1, b2, b3, b4, b5, b6, b7, b8⟩ := id B1
        have hti : (tkL (gI hb 102) np nt 0)[ts1.length]? = some t := by rw [ht, List.getElem?_append_right (Nat.le_refl _), Nat.sub_self]; rfl
        have tll : (tkL (gI hb 102) np nt 0).length = ts1.length + (ts2.length + 1) := by rw [ht, List.length_append, List.length_cons]
        have mt := tkL_mem nt 0 t (List.mem_of_getElem? hti)
        have e39 : gI g1 100 39 = nI (tkL (gI hb 102) np nt 0).length := by rw [L.1, tl]
        have eh : gI g1 119 pre.length = nI p := L.2.1 _ _ hk
        have et : gI g1 120 ts1.length = nI t := L.2.2 _ _ hti
        have tb := b8 _ _ hti
        have bt := bit_tb U b7 ts1.length (by omega)
        rw [tb] at bt
        have isn := s_isIn (d + 80 + rest.length) (h := g1) (nI U) (nI ts1.length)
        rw [show decide ((nI U) >>> (nI ts1.length &&& 31) &&& nI 1 = nI 1) = decide (hOf W (nI t) np ≠ -1) from bt] at isn
        have nx := fun s' g' => iht (ts1 ++ [t]) s' g' (by rw [ht, List.append_assoc]; rfl)
        rw [show (ts1 ++ [t]).length = ts1.length + 1 from List.length_append ..] at nx
        rw [List.foldl_cons]
        rw [unW] at hN1
        by_cases c1 : hOf W (nI t) np = -1
        · rw [show decide (hOf W (nI t) np ≠ -1) = false from decide_eq_false (fun z => z c1)] at isn
          rw [if_pos c1, Nat.add_mul, Nat.one_mul] at hN1
          rw [if_neg (fun z => z.elim (fun z => z c1) (fun z => by cases z))]
          have B3 := B1.put V0 hk hti c1 (by omega)
          have hWp : W p = -1 := b6 pre.length p (Nat.le_refl _) hk
          have hu := hOf_up v1 (show p < np by omega) hWp c1 (show t < 8 by omega)
          have e1 := unW_one (W := W) (W' := upK W p (nI t)) hu.1 c1 _ (tkL_nodup nt 0) (List.mem_of_getElem? hti) (fun x hx hne => hu.2 x (h8 x hx) hne)
          have eU : unW np (upK W p (nI t)) (tkL (gI hb 102) np nt 0) = rest.length := by rw [hU, List.length_cons] at e1; omega
          have F2 : Fr (fun k j => k == 102 && decide (j < 6)) g1 (sI g1 102 p (nI t)) := Fr.rfl'.sI (by rw [decide_eq_true (show p < 6 by omega)]; rfl)
          have rc := ih (pre ++ [p]) (upK W p (nI t)) (U ||| 2 ^ ts1.length) s (sI g1 102 p (nI t)) (by rw [hp, List.append_assoc]; rfl) (by rw [show (pre ++ [p]).length = pre.length + 1 from List.length_append ..]; exact B3) (hS1.fr F2 rfl rfl (fun j => rfl) (fun j => rfl)) (by omega) eU
          have bd := (tw_cap (K := gI hb 102) (fl := fl) (nd := nd) (nt := nt) (no := no) (okp := okC9 (gI hb 102) fl true) v1 (tkL_nodup nt 0) h8 rest (upK W p (nI t)) s nd2.2 (fun q hq => ⟨(hr q hq).1, by unfold upK; rw [if_neg (fun z => nd2.1 (by rw [← z]; exact hq))]; exact (hr q hq).2⟩) eU).1
          rw [show (pre ++ [p]).length = pre.length + 1 from List.length_append .., ← (bit_or U b7 ts1.length (by omega)).1] at rc
          have S3 := B3.1
          refine Rp.iload_n dX12_triesHad_15 rfl ?_
          refine Rp.aload_n dX12_triesHad_16 rfl rfl ?_
          refine Rp.getI dX12_triesHad_17 fk_X12_405 rfl (S _ _ rfl) ?_
          first | rw [e39] | rw [eh] | rw [et] | skip
          first | ((with_reducible show Rp _ _ _ _ (.int (nI _) :: .int (nI _) :: _) _ _); refine Rp.icmp_geN (tgt := 71) dX12_triesHad_20 (by decide) (by omega) (fun c20 => ?_) (fun c20 => ?_)) | refine Rp.icmp_ge (tgt := 71) dX12_triesHad_20 (by decide) (fun c20 => ?_) (fun c20 => ?_)
          · first | (exfalso; omega) | exact absurd c20 (by decide) | exact absurd (by decide) c20
          refine Rp.iload_n dX12_triesHad_23 rfl ?_
          refine Rp.iload_n dX12_triesHad_24 rfl ?_
          refine Rp.callS2 M_X12_isIn dX12_triesHad_25 mo_X12_isIn lk_X12_381 (Nat.le_of_ble_eq_true rfl) (Nat.le_of_ble_eq_true rfl) (isn) (fun v1 h1 p1 x1 => ?_)
          rw [p1.1, p1.2]
          try dsimp only [Option.toList, List.cons_append, List.nil_append, List.append]
          first | ((with_reducible show Rp _ _ _ _ (.int (b2i _) :: _) _ _); refine Rp.if_eqB (tgt := 34) dX12_triesHad_28 (by decide) (fun c28 => ?_) (fun c28 => ?_)) | ((with_reducible show Rp _ _ _ _ (.int (nI _) :: _) _ _); refine Rp.if_eqN (tgt := 34) dX12_triesHad_28 (by decide) (by omega) (fun c28 => ?_) (fun c28 => ?_)) | refine Rp.if_eq (tgt := 34) dX12_triesHad_28 (by decide) (fun c28 => ?_) (fun c28 => ?_)
          rotate_left
          · cases c28
          refine Rp.aload_n dX12_triesHad_34 rfl rfl ?_
          refine Rp.getR dX12_triesHad_35 fk_X12_24 rfl (S _ _ rfl) (R _ _ _ rfl) ?_
          refine Rp.iconst (nI 0) dX12_triesHad_38 (by decide) ?_
          refine Rp.aload_n dX12_triesHad_39 rfl rfl ?_
          refine Rp.getR dX12_triesHad_40 fk_X12_80 rfl (S _ _ rfl) (R _ _ _ rfl) ?_
          refine Rp.iload_n dX12_triesHad_43 rfl ?_
          first | ((with_reducible show Rp _ _ _ _ (.int (nI _) :: _) _ _); refine Rp.ialoadN dX12_triesHad_44 (S _ _ rfl) (by omega) ?_) | refine Rp.iaload dX12_triesHad_44 (S _ _ rfl) (by first | assumption | exact vpb (by decide)) ?_
          first | rw [e39] | rw [eh] | rw [et] | skip
          first | ((with_reducible show Rp _ _ _ _ (.int (nI _) :: .int (nI _) :: _) _ _); refine Rp.iaddN dX12_triesHad_45 ?_) | refine Rp.iadd dX12_triesHad_45 ?_
          refine Rp.aload_n dX12_triesHad_46 rfl rfl ?_
          refine Rp.getR dX12_triesHad_47 fk_X12_83 rfl (S _ _ rfl) (R _ _ _ rfl) ?_
          refine Rp.iload_n dX12_triesHad_50 rfl ?_
          first | ((with_reducible show Rp _ _ _ _ (.int (nI _) :: _) _ _); refine Rp.ialoadN dX12_triesHad_51 (S _ _ rfl) (by omega) ?_) | refine Rp.iaload dX12_triesHad_51 (S _ _ rfl) (by first | assumption | exact vpb (by decide)) ?_
          first | rw [e39] | rw [eh] | rw [et] | skip
          rw [Nat.zero_add]
          first | ((with_reducible show Rp _ _ _ _ (_ :: .int (nI _) :: _) _ _); refine Rp.iastoreN dX12_triesHad_52 (S _ _ rfl) (by omega) ?_) | refine Rp.iastore dX12_triesHad_52 (S _ _ rfl) (by first | assumption | exact vpb (by decide)) ?_
          refine Rp.aload_n dX12_triesHad_53 rfl rfl ?_
          refine Rp.iload_n dX12_triesHad_54 rfl ?_
          refine Rp.iconst (nI 1) dX12_triesHad_55 (by decide) ?_
          first | ((with_reducible show Rp _ _ _ _ (.int (nI _) :: .int (nI _) :: _) _ _); refine Rp.iaddN dX12_triesHad_56 ?_) | refine Rp.iadd dX12_triesHad_56 ?_
          refine Rp.iload_n dX12_triesHad_57 rfl ?_
          refine Rp.iconst (nI 1) dX12_triesHad_58 (by decide) ?_
          refine Rp.iload_n dX12_triesHad_59 rfl ?_
          refine Rp.ishl dX12_triesHad_60 ?_
          refine Rp.ior dX12_triesHad_61 ?_
          refine Rp.callV2 M_X12_triesHad (ci := 12) dX12_triesHad_62 mo_X12_triesHad lk_X12_464 (by decide) rfl rfl (S3 _ _ rfl) (Nat.le_of_ble_eq_true rfl) (Nat.le_of_ble_eq_true rfl) (rc) (fun v1 h1 p1 x1 => ?_)
          obtain ⟨rfl, B4, r4, F4⟩ := p1
          try dsimp only [Option.toList, List.cons_append, List.nil_append, List.append]
          skip
          have B5 := B4.unput b4 b5 b6 b7 b8 hk
          have k1 := nx _ h1 B5 r4 (by omega) ((F1.sI (by unfold thX; rw [decide_eq_true (show p < 6 by omega), Bool.or_eq_true]; exact Or.inr rfl)).trans F4)
          first | ((with_reducible show Rp _ _ _ (_ :: _ :: _ :: some (.int (nI _)) :: _) _ _ _); refine Rp.inc3N (c := 1) dX12_triesHad_65 (by first | exact nl2_some rfl | exact nl2_none) (by decide) ?_) | refine Rp.inc3 _ dX12_triesHad_65 rfl (by first | exact nl2_some rfl | exact nl2_none) (by decide) ?_
          refine Rp.goto (tgt := 15) dX12_triesHad_68 (by decide) ?_
          exact k1
        · rw [if_pos (Or.inl c1)]
          rw [if_neg c1] at hN1
          rw [show decide (hOf W (nI t) np ≠ -1) = true from decide_eq_true c1] at isn
          have k1 := nx s g1 B1 hS1 (by omega) F1
          refine Rp.iload_n dX12_triesHad_15 rfl ?_
          refine Rp.aload_n dX12_triesHad_16 rfl rfl ?_
          refine Rp.getI dX12_triesHad_17 fk_X12_405 rfl (S _ _ rfl) ?_
          first | rw [e39] | skip
          first | ((with_reducible show Rp _ _ _ _ (.int (nI _) :: .int (nI _) :: _) _ _); refine Rp.icmp_geN (tgt := 71) dX12_triesHad_20 (by decide) (by omega) (fun c20 => ?_) (fun c20 => ?_)) | refine Rp.icmp_ge (tgt := 71) dX12_triesHad_20 (by decide) (fun c20 => ?_) (fun c20 => ?_)
          · skip
            first | (exfalso; omega) | exact absurd c20 (by decide) | exact absurd (by decide) c20
          · skip
            refine Rp.iload_n dX12_triesHad_23 rfl ?_
            refine Rp.iload_n dX12_triesHad_24 rfl ?_
            refine Rp.callS2 M_X12_isIn dX12_triesHad_25 mo_X12_isIn lk_X12_381 (Nat.le_of_ble_eq_true rfl) (Nat.le_of_ble_eq_true rfl) (isn) (fun v1 h1 p1 x1 => ?_)
            rw [p1.1, p1.2]
            try dsimp only [Option.toList, List.cons_append, List.nil_append, List.append]
            first | ((with_reducible show Rp _ _ _ _ (.int (b2i _) :: _) _ _); refine Rp.if_eqB (tgt := 34) dX12_triesHad_28 (by decide) (fun c28 => ?_) (fun c28 => ?_)) | ((with_reducible show Rp _ _ _ _ (.int (nI _) :: _) _ _); refine Rp.if_eqN (tgt := 34) dX12_triesHad_28 (by decide) (by omega) (fun c28 => ?_) (fun c28 => ?_)) | refine Rp.if_eq (tgt := 34) dX12_triesHad_28 (by decide) (fun c28 => ?_) (fun c28 => ?_)
            · skip
              cases c28
            · skip
              refine Rp.goto (tgt := 65) dX12_triesHad_31 (by decide) ?_
              first | ((with_reducible show Rp _ _ _ (_ :: _ :: _ :: some (.int (nI _)) :: _) _ _ _); refine Rp.inc3N (c := 1) dX12_triesHad_65 (by first | exact nl2_some rfl | exact nl2_none) (by decide) ?_) | refine Rp.inc3 _ dX12_triesHad_65 rfl (by first | exact nl2_some rfl | exact nl2_none) (by decide) ?_
              refine Rp.goto (tgt := 15) dX12_triesHad_68 (by decide) ?_
              exact k1
    obtain ⟨S, R, L, -⟩ := id Bg
    have e39 : gI g 100 39 = nI (pre.length + (rest.length + 1)) := by rw [L.1, ll]
    have k15 := lp (tkL (gI hb 102) np nt 0) [] s g rfl Bg hS (by rw [hU]; exact hN) Fr.rfl'
    refine Rp.iload_n dX12_triesHad_0 rfl ?_
    refine Rp.aload_n dX12_triesHad_1 rfl rfl ?_
    refine Rp.getI dX12_triesHad_2 fk_X12_405 rfl (S _ _ rfl) ?_
    first | rw [e39] | skip
    first | ((with_reducible show Rp _ _ _ _ (.int (nI _) :: .int (nI _) :: _) _ _); refine Rp.icmp_neN (tgt := 13) dX12_triesHad_5 (by decide) (by omega) (fun c5 => ?_) (fun c5 => ?_)) | refine Rp.icmp_ne (tgt := 13) dX12_triesHad_5 (by decide) (fun c5 => ?_) (fun c5 => ?_)
    · skip
      refine Rp.iconst (nI 0) dX12_triesHad_13 (by decide) ?_
      refine Rp.ist3 dX12_triesHad_14 (by first | exact nl2_some rfl | exact nl2_none) (by decide) ?_
      exact k15
    · skip
      first | (exfalso; omega) | exact absurd c5 (by decide) | exact absurd (by decide) c5
end Th3
def hwX (k j : Nat) : Bool := lhX k j || (thX k j || (k == 105 || ((k == 102 && decide (j < 7)) || (k == 100 && j == 46))))
theorem hwX_l {h g : AH} (F : Fr lhX h g) : Fr hwX h g := F.weak (fun k j hx => by unfold hwX at hx; rw [Bool.or_eq_false_iff] at hx; exact hx.1)
theorem hwX_t {h g : AH} (F : Fr thX h g) : Fr hwX h g := F.weak (fun k j hx => by unfold hwX at hx; rw [Bool.or_eq_false_iff, Bool.or_eq_false_iff] at hx; exact hx.2.1)
theorem hwX_105 (j : Nat) : hwX 105 j = true := by unfold hwX; rw [Bool.or_eq_true, Bool.or_eq_true, Bool.or_eq_true]; exact Or.inr (Or.inr (Or.inl rfl))
theorem hwX_102 {j : Nat} (h : j < 7) : hwX 102 j = true := by unfold hwX; rw [decide_eq_true h, Bool.or_eq_true, Bool.or_eq_true, Bool.or_eq_true, Bool.or_eq_true]; exact Or.inr (Or.inr (Or.inr (Or.inl rfl)))
section Lw
variable (d : Nat) {h : AH} {fl : Option (List CLE)} {np nt nd no : Nat}
theorem ways21 {P : Option Value → AH → Prop} {wi : Int32} (S0 : ShOK h) (R0 : RfOK h) (kk : ∀ g, Fr mwX h g → gI g 100 45 = gI h 100 45 → (∀ j, j < 48 → gI g 125 j = 0) → Rp d M_X12_laysWays 40 [some (.ref aM), some (.int wi), some (.int (nI 48))] [] g P) : ∀ (m i : Nat) (g : AH), i + m = 48 → Fr mwX h g → gI g 100 45 = gI h 100 45 → (∀ j, j < i → gI g 125 j = 0) → Rp d M_X12_laysWays 21 [some (.ref aM), some (.int wi), some (.int (nI i))] [] g P := by
  intro m
  induction m with
  | zero =>
    intro i g hm F e1 e2
    have e : i = 48 := by omega
    subst e
    have k1 := kk g F e1 e2
    refine Rp.iload_n dX12_laysWays_21 rfl ?_
    refine Rp.bipush (nI 48) dX12_laysWays_22 (by decide) ?_
    first | ((with_reducible show Rp _ _ _ _ (.int (nI _) :: .int (nI _) :: _) _ _); refine Rp.icmp_geN (tgt := 40) dX12_laysWays_24 (by decide) (by omega) (fun c24 => ?_) (fun c24 => ?_)) | refine Rp.icmp_ge (tgt := 40) dX12_laysWays_24 (by decide) (fun c24 => ?_) (fun c24 => ?_)
    · skip
      exact k1
    · skip
      first | (exfalso; omega) | exact absurd c24 (by decide) | exact absurd (by decide) c24
  | succ m ih =>
    intro i g hm F e1 e2
    have S := F.S S0
    have R := F.R R0 (by decide)
    have k1 := ih (i + 1) (sI g 125 i (nI 0)) (by omega) (F.sI (by unfold mwX; rw [decide_eq_true (show i < 48 by omega)]; rfl)) e1 (fun j hj => by
      rw [gI_at]
      by_cases z : j = i
      · rw [if_pos z]; rfl
      · rw [if_neg z]; exact e2 j (by omega))
    refine Rp.iload_n dX12_laysWays_21 rfl ?_
    refine Rp.bipush (nI 48) dX12_laysWays_22 (by decide) ?_
    first | ((with_reducible show Rp _ _ _ _ (.int (nI _) :: .int (nI _) :: _) _ _); refine Rp.icmp_geN (tgt := 40) dX12_laysWays_24 (by decide) (by omega) (fun c24 => ?_) (fun c24 => ?_)) | refine Rp.icmp_ge (tgt := 40) dX12_laysWays_24 (by decide) (fun c24 => ?_) (fun c24 => ?_)
    · skip
      first | (exfalso; omega) | exact absurd c24 (by decide) | exact absurd (by decide) c24
    · skip
      refine Rp.aload_n dX12_laysWays_27 rfl rfl ?_
      refine Rp.getR dX12_laysWays_28 fk_X12_98 rfl (S _ _ rfl) (R _ _ _ rfl) ?_
      refine Rp.iload_n dX12_laysWays_31 rfl ?_
      refine Rp.iconst (nI 0) dX12_laysWays_32 (by decide) ?_
      first | ((with_reducible show Rp _ _ _ _ (_ :: .int (nI _) :: _) _ _); refine Rp.iastoreN dX12_laysWays_33 (S _ _ rfl) (by omega) ?_) | refine Rp.iastore dX12_laysWays_33 (S _ _ rfl) (by first | assumption | exact vpb (by decide)) ?_
      first | ((with_reducible show Rp _ _ _ (_ :: _ :: some (.int (nI _)) :: _) _ _ _); refine Rp.inc2N (c := 1) dX12_laysWays_34 (by first | exact nl2_some rfl | exact nl2_none) (by decide) ?_) | refine Rp.inc2 _ dX12_laysWays_34 rfl (by first | exact nl2_some rfl | exact nl2_none) (by decide) ?_
      refine Rp.goto (tgt := 21) dX12_laysWays_37 (by decide) ?_
      exact k1
theorem s_laysWays (A : MBd h fl np nt nd) (hT : gI h 102 104 = nI nt) (hno : gI h 102 106 = nI no) (VTt : VT (gI h 102) no) (wi : Int32) : Rp (d + 87) M_X12_laysWays 0 [some (.ref aM), some (.int wi), none] [] h (fun r h' => r = none ∧ Fr hwX h h' ∧ gI h' 102 = gI h 102 ∧ RMw wi h' (hdR (gI h 102) fl nd np nt no)) := by
  obtain ⟨S, R, hF, B, VDd, hD, VNn, V, hM⟩ := id A
  have v1 := V.1
  have v2 := V.2.1
  have hl6 : (hlR (gI h 102) np 0).length ≤ 6 := by rw [hlR_len]; exact Nat.le_trans (cntH_le _ _) v1
  have hM1 : gI h 102 103 = nI np := hM
  have lh := s_laysHolders (d + 85) S R V hM1 hT
  refine Rp.aload_n dX12_laysWays_0 rfl rfl ?_
  refine Rp.callV0 M_X12_laysHolders (ci := 12) dX12_laysWays_1 mo_X12_laysHolders lk_X12_423 (by decide) rfl rfl (S _ _ rfl) (Nat.le_of_ble_eq_true rfl) (Nat.le_of_ble_eq_true rfl) (lh) (fun v1 h1 p1 x1 => ?_)
  obtain ⟨rfl, F1, L1⟩ := p1
  try dsimp only [Option.toList, List.cons_append, List.nil_append, List.append]
  skip
  have S1 := F1.S S
  have R1 := F1.R R (by decide)
  have K1 : gI h1 102 = gI h 102 := funext fun j => F1.I 102 j rfl
  have la := s_laysAside (d + 86) S1 R1 (k := 0) (by decide)
  have S2 := S1.wr 105 (fun i => 7 * 0 + i) (gI h1 102) 7
  have R2 := R1.wr 105 (fun i => 7 * 0 + i) (gI h1 102) 7
  have F2 : Fr hwX h (wrI h1 105 (fun i => 7 * 0 + i) (gI h1 102) 7) := (hwX_l F1).wr 7 (fun i hi => hwX_105 _)
  have n2 : ∀ k j, k ≠ 105 → gI (wrI h1 105 (fun i => 7 * 0 + i) (gI h1 102) 7) k j = gI h1 k j := fun k j hk => gI_wrI_ne h1 _ _ hk j 7
  have i2 : ∀ i, i < 7 → gI (wrI h1 105 (fun i => 7 * 0 + i) (gI h1 102) 7) 105 (7 * 0 + i) = gI h1 102 i := fun i hi => gI_wrI_in h1 105 (7 * 0) (gI h1 102) 7 hi
  have la : Rp (d + 86) M_X12_laysAside 0 [some (.ref aM), some (.int (nI 0)), none] [] h1 (fun r h' => h' = wrI h1 105 (fun i => 7 * 0 + i) (gI h1 102) 7 ∧ r = none) := la
  generalize wrI h1 105 (fun i => 7 * 0 + i) (gI h1 102) 7 = h2 at S2 R2 F2 n2 i2 la
  have K2 : gI h2 102 = gI h 102 := (funext fun j => n2 102 j (by decide)).trans K1
  have L2 : LH h2 (gI h 102) np nt := ⟨(n2 100 39 (by decide)).trans L1.1, fun i q hi => (n2 119 i (by decide)).trans (L1.2.1 i q hi), fun i q hi => (n2 120 i (by decide)).trans (L1.2.2 i q hi)⟩
  have k40 : ∀ g, Fr mwX (sI (sI h2 100 45 (nI 0)) 100 46 wi) g → gI g 100 45 = gI (sI (sI h2 100 45 (nI 0)) 100 46 wi) 100 45 → (∀ j, j < 48 → gI g 125 j = 0) → Rp (d + 87) M_X12_laysWays 40 [some (.ref aM), some (.int wi), some (.int (nI 48))] [] g (fun r h' => r = none ∧ Fr hwX h h' ∧ gI h' 102 = gI h 102 ∧ RMw wi h' (hdR (gI h 102) fl nd np nt no)) := by
    intro g F3 e45 e125
    have S3 := F3.S (show ShOK (sI (sI h2 100 45 (nI 0)) 100 46 wi) from S2)
    have R3 := F3.R (show RfOK (sI (sI h2 100 45 (nI 0)) 100 46 wi) from R2) (by decide)
    have g102 : gI g 102 = gI h 102 := (funext fun j => F3.I 102 j rfl).trans K2
    have LL : LH g (gI h 102) np nt := ⟨(F3.I 100 39 rfl).trans L2.1, fun i q hi => (F3.I 119 i rfl).trans (L2.2.1 i q hi), fun i q hi => (F3.I 120 i rfl).trans (L2.2.2 i q hi)⟩
    have B3 : RWy g (gI h 102) np nt W0 0 0 := RWy.start S3 R3 LL V g102
    have r3 : RMw wi g [] := ⟨e45.trans ((gI_off _ _ _ (by decide)).trans (gI_hit _ _ _ _)), (F3.I 100 46 rfl).trans (gI_hit _ _ _ _), fun n W hn => by (cases hn), fun p t hp ht => e125 (8 * p + t) (by omega)⟩
    have h8 : ∀ t ∈ tkL (gI h 102) np nt 0, t < 8 := fun t ht => by have := tkL_mem nt 0 t ht; omega
    have ta := s_tryH d (wi := wi) A V hno VTt (hlR (gI h 102) np 0) [] W0 0 [] g rfl B3 r3 (by rw [List.length_nil, Nat.zero_add]; exact fc_le _ hl6) ((unW_W0 _ h8).trans V.lens)
    have ta := Rp.deeper (show d + 80 + (hlR (gI h 102) np 0).length ≤ d + 86 by omega) ta
    refine Rp.aload_n dX12_laysWays_40 rfl rfl ?_
    refine Rp.iconst (nI 0) dX12_laysWays_41 (by decide) ?_
    refine Rp.iconst (nI 0) dX12_laysWays_42 (by decide) ?_
    refine Rp.callV2 M_X12_triesHad (ci := 12) dX12_laysWays_43 mo_X12_triesHad lk_X12_464 (by decide) rfl rfl (S3 _ _ rfl) (Nat.le_of_ble_eq_true rfl) (Nat.le_of_ble_eq_true rfl) (ta) (fun v1 h1 p1 x1 => ?_)
    obtain ⟨rfl, B4, r4, F4⟩ := p1
    try dsimp only [Option.toList, List.cons_append, List.nil_append, List.append]
    skip
    have S4 := B4.1
    have R4 := B4.2.1
    have tb := s_takesBack (d + 86) S4 R4 (k := 0) (by decide)
    have F45 : Fr hwX h h1 := (((F2.sI rfl).sI rfl).trans (hwX_t (thX_m (mhX_w F3)))).trans (hwX_t F4)
    have F5 : Fr hwX h (wrI h1 102 (fun i => i) (fun i => gI h1 105 (7 * 0 + i)) 7) := F45.wr 7 (fun i hi => hwX_102 hi)
    have K5 : gI (wrI h1 102 (fun i => i) (fun i => gI h1 105 (7 * 0 + i)) 7) 102 = gI h 102 := funext fun j => by
      by_cases hj : j < 7
      · rw [gI_wrI_id _ _ _ 7 hj, F4.I 105 _ rfl, F3.I 105 _ rfl]
        exact (show gI (sI (sI h2 100 45 (nI 0)) 100 46 wi) 105 (7 * 0 + j) = gI h2 105 (7 * 0 + j) from rfl).trans ((i2 j hj).trans (F1.I 102 j rfl))
      · rw [gI_wrI_out _ _ _ _ 7 (fun i hi => by omega)]
        exact B4.2.2.2.1 j (by omega)
    have n5 : ∀ k j, k ≠ 102 → gI (wrI h1 102 (fun i => i) (fun i => gI h1 105 (7 * 0 + i)) 7) k j = gI h1 k j := fun k j hk => gI_wrI_ne h1 _ _ hk j 7
    have r5 : RMw wi (wrI h1 102 (fun i => i) (fun i => gI h1 105 (7 * 0 + i)) 7) (hdR (gI h 102) fl nd np nt no) := ⟨(n5 _ _ (by decide)).trans r4.1, (n5 _ _ (by decide)).trans r4.2.1, fun n W hn e p hp => (n5 _ _ (by decide)).trans (r4.2.2.1 n W hn e p hp), fun p t hp ht => (n5 _ _ (by decide)).trans (r4.2.2.2 p t hp ht)⟩
    have tb : Rp (d + 86) M_X12_takesBack 0 [some (.ref aM), some (.int (nI 0)), none] [] h1 (fun r h' => h' = wrI h1 102 (fun i => i) (fun i => gI h1 105 (7 * 0 + i)) 7 ∧ r = none) := tb
    refine Rp.aload_n dX12_laysWays_46 rfl rfl ?_
    refine Rp.iconst (nI 0) dX12_laysWays_47 (by decide) ?_
    refine Rp.callV1 M_X12_takesBack (ci := 12) dX12_laysWays_48 mo_X12_takesBack lk_X12_429 (by decide) rfl rfl (S4 _ _ rfl) (Nat.le_of_ble_eq_true rfl) (Nat.le_of_ble_eq_true rfl) (tb) (fun v1 h1 p1 x1 => ?_)
    rw [p1.1, p1.2]
    try dsimp only [Option.toList, List.cons_append, List.nil_append, List.append]
    refine Rp.vreturn dX12_laysWays_51 rfl ?_
    exact ⟨rfl, F5, K5, r5⟩
  have k21 := ways21 (d + 87) (h := sI (sI h2 100 45 (nI 0)) 100 46 wi) (wi := wi) S2 R2 k40 48 0 _ (by omega) Fr.rfl' rfl (fun j hj => absurd hj (Nat.not_lt_zero _))
  refine Rp.aload_n dX12_laysWays_4 rfl rfl ?_
  refine Rp.iconst (nI 0) dX12_laysWays_5 (by decide) ?_
  refine Rp.callV1 M_X12_laysAside (ci := 12) dX12_laysWays_6 mo_X12_laysAside lk_X12_426 (by decide) rfl rfl (S1 _ _ rfl) (Nat.le_of_ble_eq_true rfl) (Nat.le_of_ble_eq_true rfl) (la) (fun v1 h1 p1 x1 => ?_)
  rw [p1.1, p1.2]
  try dsimp only [Option.toList, List.cons_append, List.nil_append, List.append]
  refine Rp.aload_n dX12_laysWays_9 rfl rfl ?_
  refine Rp.iconst (nI 0) dX12_laysWays_10 (by decide) ?_
  refine Rp.putI dX12_laysWays_11 fk_X12_455w rfl (S2 _ _ rfl) ?_
  refine Rp.aload_n dX12_laysWays_14 rfl rfl ?_
  refine Rp.iload_n dX12_laysWays_15 rfl ?_
  refine Rp.putI dX12_laysWays_16 fk_X12_458w rfl (S2 _ _ rfl) ?_
  refine Rp.iconst (nI 0) dX12_laysWays_19 (by decide) ?_
  refine Rp.ist2 dX12_laysWays_20 (by first | exact nl2_some rfl | exact nl2_none) (by decide) ?_
  exact k21
end Lw
