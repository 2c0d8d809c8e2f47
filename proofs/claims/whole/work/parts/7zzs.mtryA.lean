/-- what trying touches -/
def taX (k j : Nat) : Bool := mjX k j || (k == 102 && decide (j < 6))
theorem taX_m {h g : AH} (F : Fr mjX h g) : Fr taX h g := F.weak (fun k j hx => by unfold taX at hx; rw [Bool.or_eq_false_iff] at hx; exact hx.1)
theorem RWy.mj {g g' : AH} {K : Nat → Int32} {np nt : Nat} {W : Nat → Int32} {k U : Nat} (B : RWy g K np nt W k U) (F : Fr mjX g g') : RWy g' K np nt W k U := B.fr F (by decide) (fun j => rfl) (fun j => rfl) (fun j => rfl) rfl
def TyQ {σ : Type} (K : Nat → Int32) (np nt : Nat) (RS : AH → σ → Prop) (X : Nat → Nat → Bool) (g : AH) (W : Nat → Int32) (k U : Nat) (s : σ) (r : Option Value) (h' : AH) : Prop := r = none ∧ RWy h' K np nt W k U ∧ RS h' s ∧ Fr X g h'
section Ty
variable (d : Nat) {hb : AH} {fl : Option (List CLE)} {np nt nd : Nat}
theorem s_tryA (A0 : MBd hb fl np nt nd) (V0 : VH (gI hb 102) np nt) : ∀ (rest pre : List Nat) (W : Nat → Int32) (U : Nat) (s : AB) (g : AH), hlR (gI hb 102) np 0 = pre ++ rest → RWy g (gI hb 102) np nt W pre.length U → RMab g s → Rp (d + 80 + rest.length) M_X12_triesAbout 0 [some (.ref aM), some (.int (nI pre.length)), some (.int (nI U)), none] [] g (TyQ (gI hb 102) np nt RMab taX g W pre.length U (twF np (tkL (gI hb 102) np nt 0) (okC9 (gI hb 102) fl false) (abS (gI hb 102) fl nd np nt) rest W s)) := by
  have v1 := V0.1
  have v2 := V0.2.1
  have hl6 : (hlR (gI hb 102) np 0).length ≤ 6 := by rw [hlR_len]; exact Nat.le_trans (cntH_le _ _) v1
  have tl := V0.lens
  intro rest
  induction rest with
  | nil =>
    intro pre W U s g hp Bg hS
    rw [List.append_nil] at hp
    obtain ⟨S, R, L, -⟩ := id Bg
    have e39 : gI g 100 39 = nI pre.length := by rw [L.1, hp]
    have l6 : pre.length ≤ 6 := by rw [← hp]; exact hl6
    have eK := RWy.leaf (U := U) (by rw [hp]; exact Bg) V0
    have jd := s_judges d (K := gI hb 102) (W := W) (A0.mix S R Bg.2.2.2.2.2.2.1 eK) eK hS
    refine Rp.iload_n dX12_triesAbout_0 rfl ?_
    refine Rp.aload_n dX12_triesAbout_1 rfl rfl ?_
    refine Rp.getI dX12_triesAbout_2 fk_X12_405 rfl (S _ _ rfl) ?_
    first | rw [e39] | skip
    first | ((with_reducible show Rp _ _ _ _ (.int (nI _) :: .int (nI _) :: _) _ _); refine Rp.icmp_neN (tgt := 13) dX12_triesAbout_5 (by decide) (by omega) (fun c5 => ?_) (fun c5 => ?_)) | refine Rp.icmp_ne (tgt := 13) dX12_triesAbout_5 (by decide) (fun c5 => ?_) (fun c5 => ?_)
    · skip
      first | (exfalso; omega) | exact absurd c5 (by decide) | exact absurd (by decide) c5
    · skip
      refine Rp.aload_n dX12_triesAbout_8 rfl rfl ?_
      refine Rp.callV0 M_X12_judges (ci := 12) dX12_triesAbout_9 mo_X12_judges lk_X12_417 (by decide) rfl rfl (S _ _ rfl) (Nat.le_of_ble_eq_true rfl) (Nat.le_of_ble_eq_true rfl) (jd) (fun v1 h1 p1 x1 => ?_)
      obtain ⟨rfl, F1, r1⟩ := p1
      try dsimp only [Option.toList, List.cons_append, List.nil_append, List.append]
      refine Rp.vreturn dX12_triesAbout_12 rfl ?_
      exact ⟨rfl, Bg.mj F1, r1, taX_m F1⟩
  | cons p rest ih =>
    intro pre W U s g hp Bg hS
    have hk : (hlR (gI hb 102) np 0)[pre.length]? = some p := by rw [hp, List.getElem?_append_right (Nat.le_refl _), Nat.sub_self]; rfl
    have ll : (hlR (gI hb 102) np 0).length = pre.length + (rest.length + 1) := by rw [hp, List.length_append, List.length_cons]
    have mp := hlR_mem np 0 p (List.mem_of_getElem? hk)
    have lp : ∀ (ts2 ts1 : List Nat) (s : AB) (g1 : AH), tkL (gI hb 102) np nt 0 = ts1 ++ ts2 → RWy g1 (gI hb 102) np nt W pre.length U → RMab g1 s → Fr taX g g1 → Rp (d + 80 + (rest.length + 1)) M_X12_triesAbout 15 [some (.ref aM), some (.int (nI pre.length)), some (.int (nI U)), some (.int (nI ts1.length))] [] g1 (TyQ (gI hb 102) np nt RMab taX g W pre.length U (ts2.foldl (fun s t => if hOf W (nI t) np ≠ -1 ∨ okC9 (gI hb 102) fl false p t = false then s else twF np (tkL (gI hb 102) np nt 0) (okC9 (gI hb 102) fl false) (abS (gI hb 102) fl nd np nt) rest (upK W p (nI t)) s) s)) := by
      intro ts2
      induction ts2 with
      | nil =>
        intro ts1 s g1 ht B1 hS1 F1
        rw [List.append_nil] at ht
        obtain ⟨S, R, L, -⟩ := id B1
        have e39 : gI g1 100 39 = nI ts1.length := by rw [L.1, ← tl, ht]
        have l6 : ts1.length ≤ 6 := by rw [← ht, tl]; exact hl6
        refine Rp.iload_n dX12_triesAbout_15 rfl ?_
        refine Rp.aload_n dX12_triesAbout_16 rfl rfl ?_
        refine Rp.getI dX12_triesAbout_17 fk_X12_405 rfl (S _ _ rfl) ?_
        first | rw [e39] | skip
        first | ((with_reducible show Rp _ _ _ _ (.int (nI _) :: .int (nI _) :: _) _ _); refine Rp.icmp_geN (tgt := 90) dX12_triesAbout_20 (by decide) (by omega) (fun c20 => ?_) (fun c20 => ?_)) | refine Rp.icmp_ge (tgt := 90) dX12_triesAbout_20 (by decide) (fun c20 => ?_) (fun c20 => ?_)
        · skip
          refine Rp.vreturn dX12_triesAbout_90 rfl ?_
          exact ⟨rfl, B1, hS1, F1⟩
        · skip
          first | (exfalso; omega) | exact absurd c20 (by decide) | exact absurd (by decide) c20
      | cons t ts2 iht =>
        intro ts1 s g1 ht B1 hS1 F1
        obtain ⟨S, R, L, b1, b2, b3, b4, b5, b6, b7, b8⟩ := id B1
        have hti : (tkL (gI hb 102) np nt 0)[ts1.length]? = some t := by rw [ht, List.getElem?_append_right (Nat.le_refl _), Nat.sub_self]; rfl
        have tll : (tkL (gI hb 102) np nt 0).length = ts1.length + (ts2.length + 1) := by rw [ht, List.length_append, List.length_cons]
        have mt := tkL_mem nt 0 t (List.mem_of_getElem? hti)
        have e39 : gI g1 100 39 = nI (tkL (gI hb 102) np nt 0).length := by rw [L.1, tl]
        have eh : gI g1 119 pre.length = nI p := L.2.1 _ _ hk
        have et : gI g1 120 ts1.length = nI t := L.2.2 _ _ hti
        have tb := b8 _ _ hti
        have bt := bit_tb U b7 ts1.length (by omega)
        rw [tb] at bt
        have isn := s_isIn (d + 80 + rest.length) (h := g1) (nI U) (nI ts1.length)
        rw [show decide ((nI U) >>> (nI ts1.length &&& 31) &&& nI 1 = nI 1) = decide (hOf W (nI t) np ≠ -1) from bt] at isn
        have nx := fun s' g' => iht (ts1 ++ [t]) s' g' (by rw [ht, List.append_assoc]; rfl)
        rw [show (ts1 ++ [t]).length = ts1.length + 1 from List.length_append ..] at nx
        rw [List.foldl_cons]
        by_cases c1 : hOf W (nI t) np = -1
        · rw [show decide (hOf W (nI t) np ≠ -1) = false from decide_eq_false (fun z => z c1)] at isn
          have Kg : ∀ j, 6 ≤ j → gI g1 102 j = gI hb 102 j := b1
          obtain ⟨m6, hm6, e6⟩ := A0.2.2.2.1.2.2.2.2.2.1
          have br := s_isBarred (d + 5 + rest.length) (h := g1) (fl := fl) S R (A0.2.2.1.hi (fun j hj => Kg j (by omega))) (A0.2.2.2.1.hi (fun j hj => Kg j (by omega)) hm6 ((Kg 6 (by decide)).trans e6)) (p := p) (t := t) (by omega) (by omega)
          rw [show oBr (gI g1 am_kept) fl p t = oBr (gI hb 102) fl p t from (ask_congr (K := gI g1 102) (K' := gI hb 102) Kg fl).2.2.1 p t, show d + 5 + rest.length + 75 = d + 80 + rest.length by omega] at br
          refine Rp.iload_n dX12_triesAbout_15 rfl ?_
          refine Rp.aload_n dX12_triesAbout_16 rfl rfl ?_
          refine Rp.getI dX12_triesAbout_17 fk_X12_405 rfl (S _ _ rfl) ?_
          first | rw [e39] | rw [eh] | rw [et] | skip
          first | ((with_reducible show Rp _ _ _ _ (.int (nI _) :: .int (nI _) :: _) _ _); refine Rp.icmp_geN (tgt := 90) dX12_triesAbout_20 (by decide) (by omega) (fun c20 => ?_) (fun c20 => ?_)) | refine Rp.icmp_ge (tgt := 90) dX12_triesAbout_20 (by decide) (fun c20 => ?_) (fun c20 => ?_)
          · first | (exfalso; omega) | exact absurd c20 (by decide) | exact absurd (by decide) c20
          refine Rp.iload_n dX12_triesAbout_23 rfl ?_
          refine Rp.iload_n dX12_triesAbout_24 rfl ?_
          refine Rp.callS2 M_X12_isIn dX12_triesAbout_25 mo_X12_isIn lk_X12_381 (Nat.le_of_ble_eq_true rfl) (Nat.le_of_ble_eq_true rfl) (isn) (fun v1 h1 p1 x1 => ?_)
          rw [p1.1, p1.2]
          try dsimp only [Option.toList, List.cons_append, List.nil_append, List.append]
          first | ((with_reducible show Rp _ _ _ _ (.int (b2i _) :: _) _ _); refine Rp.if_neB (tgt := 84) dX12_triesAbout_28 (by decide) (fun c28 => ?_) (fun c28 => ?_)) | ((with_reducible show Rp _ _ _ _ (.int (nI _) :: _) _ _); refine Rp.if_neN (tgt := 84) dX12_triesAbout_28 (by decide) (by omega) (fun c28 => ?_) (fun c28 => ?_)) | refine Rp.if_ne (tgt := 84) dX12_triesAbout_28 (by decide) (fun c28 => ?_) (fun c28 => ?_)
          · cases c28
          refine Rp.aload_n dX12_triesAbout_31 rfl rfl ?_
          refine Rp.aload_n dX12_triesAbout_32 rfl rfl ?_
          refine Rp.getR dX12_triesAbout_33 fk_X12_80 rfl (S _ _ rfl) (R _ _ _ rfl) ?_
          refine Rp.iload_n dX12_triesAbout_36 rfl ?_
          first | ((with_reducible show Rp _ _ _ _ (.int (nI _) :: _) _ _); refine Rp.ialoadN dX12_triesAbout_37 (S _ _ rfl) (by omega) ?_) | refine Rp.iaload dX12_triesAbout_37 (S _ _ rfl) (by first | assumption | exact vpb (by decide)) ?_
          first | rw [e39] | rw [eh] | rw [et] | skip
          refine Rp.aload_n dX12_triesAbout_38 rfl rfl ?_
          refine Rp.getR dX12_triesAbout_39 fk_X12_83 rfl (S _ _ rfl) (R _ _ _ rfl) ?_
          refine Rp.iload_n dX12_triesAbout_42 rfl ?_
          first | ((with_reducible show Rp _ _ _ _ (.int (nI _) :: _) _ _); refine Rp.ialoadN dX12_triesAbout_43 (S _ _ rfl) (by omega) ?_) | refine Rp.iaload dX12_triesAbout_43 (S _ _ rfl) (by first | assumption | exact vpb (by decide)) ?_
          first | rw [e39] | rw [eh] | rw [et] | skip
          refine Rp.callV2 M_X12_isBarred (ci := 12) dX12_triesAbout_44 mo_X12_isBarred lk_X12_161 (by decide) rfl rfl (S _ _ rfl) (Nat.le_of_ble_eq_true rfl) (Nat.le_of_ble_eq_true rfl) (br) (fun v1 h1 p1 x1 => ?_)
          obtain ⟨F2, rfl⟩ := p1
          try dsimp only [Option.toList, List.cons_append, List.nil_append, List.append]
          skip
          have B2 := B1.mj (mjX_d (mdX_t F2))
          have S2 := B2.1
          have R2 := B2.2.1
          have hS2 : RMab h1 s := hS1.fr F2 rfl rfl (fun j => rfl)
          have FF := F1.trans (taX_m (mjX_d (mdX_t F2)))
          cases c2 : oBr (gI hb 102) fl p t
          · have ok1 : okC9 (gI hb 102) fl false p t = true := by unfold okC9; rw [c2]; rfl
            rw [if_neg (fun z => z.elim (fun z => z c1) (fun z => by rw [ok1] at z; cases z))]
            have B3 := B2.put V0 hk hti c1 (by omega)
            have rc := ih (pre ++ [p]) (upK W p (nI t)) (U ||| 2 ^ ts1.length) s (sI h1 102 p (nI t)) (by rw [hp, List.append_assoc]; rfl) (by rw [show (pre ++ [p]).length = pre.length + 1 from List.length_append ..]; exact B3) (hS2.fr (X := fun k j => k == 102 && decide (j < 6)) (Fr.rfl'.sI (by rw [decide_eq_true (show p < 6 by omega)]; rfl)) rfl rfl (fun j => rfl))
            rw [show (pre ++ [p]).length = pre.length + 1 from List.length_append .., ← (bit_or U b7 ts1.length (by omega)).1] at rc
            have eh1 : gI h1 119 pre.length = nI p := B2.2.2.1.2.1 _ _ hk
            have et1 : gI h1 120 ts1.length = nI t := B2.2.2.1.2.2 _ _ hti
            have S3 := B3.1
            first | ((with_reducible show Rp _ _ _ _ (.int (b2i _) :: _) _ _); refine Rp.if_eqB (tgt := 53) dX12_triesAbout_47 (by decide) (fun c47 => ?_) (fun c47 => ?_)) | ((with_reducible show Rp _ _ _ _ (.int (nI _) :: _) _ _); refine Rp.if_eqN (tgt := 53) dX12_triesAbout_47 (by decide) (by omega) (fun c47 => ?_) (fun c47 => ?_)) | refine Rp.if_eq (tgt := 53) dX12_triesAbout_47 (by decide) (fun c47 => ?_) (fun c47 => ?_)
            rotate_left
            · cases c47
            refine Rp.aload_n dX12_triesAbout_53 rfl rfl ?_
            refine Rp.getR dX12_triesAbout_54 fk_X12_24 rfl (S2 _ _ rfl) (R2 _ _ _ rfl) ?_
            refine Rp.iconst (nI 0) dX12_triesAbout_57 (by decide) ?_
            refine Rp.aload_n dX12_triesAbout_58 rfl rfl ?_
            refine Rp.getR dX12_triesAbout_59 fk_X12_80 rfl (S2 _ _ rfl) (R2 _ _ _ rfl) ?_
            refine Rp.iload_n dX12_triesAbout_62 rfl ?_
            first | ((with_reducible show Rp _ _ _ _ (.int (nI _) :: _) _ _); refine Rp.ialoadN dX12_triesAbout_63 (S2 _ _ rfl) (by omega) ?_) | refine Rp.iaload dX12_triesAbout_63 (S2 _ _ rfl) (by first | assumption | exact vpb (by decide)) ?_
            first | rw [eh1] | rw [et1] | skip
            first | ((with_reducible show Rp _ _ _ _ (.int (nI _) :: .int (nI _) :: _) _ _); refine Rp.iaddN dX12_triesAbout_64 ?_) | refine Rp.iadd dX12_triesAbout_64 ?_
            refine Rp.aload_n dX12_triesAbout_65 rfl rfl ?_
            refine Rp.getR dX12_triesAbout_66 fk_X12_83 rfl (S2 _ _ rfl) (R2 _ _ _ rfl) ?_
            refine Rp.iload_n dX12_triesAbout_69 rfl ?_
            first | ((with_reducible show Rp _ _ _ _ (.int (nI _) :: _) _ _); refine Rp.ialoadN dX12_triesAbout_70 (S2 _ _ rfl) (by omega) ?_) | refine Rp.iaload dX12_triesAbout_70 (S2 _ _ rfl) (by first | assumption | exact vpb (by decide)) ?_
            first | rw [eh1] | rw [et1] | skip
            rw [Nat.zero_add]
            first | ((with_reducible show Rp _ _ _ _ (_ :: .int (nI _) :: _) _ _); refine Rp.iastoreN dX12_triesAbout_71 (S2 _ _ rfl) (by omega) ?_) | refine Rp.iastore dX12_triesAbout_71 (S2 _ _ rfl) (by first | assumption | exact vpb (by decide)) ?_
            refine Rp.aload_n dX12_triesAbout_72 rfl rfl ?_
            refine Rp.iload_n dX12_triesAbout_73 rfl ?_
            refine Rp.iconst (nI 1) dX12_triesAbout_74 (by decide) ?_
            first | ((with_reducible show Rp _ _ _ _ (.int (nI _) :: .int (nI _) :: _) _ _); refine Rp.iaddN dX12_triesAbout_75 ?_) | refine Rp.iadd dX12_triesAbout_75 ?_
            refine Rp.iload_n dX12_triesAbout_76 rfl ?_
            refine Rp.iconst (nI 1) dX12_triesAbout_77 (by decide) ?_
            refine Rp.iload_n dX12_triesAbout_78 rfl ?_
            refine Rp.ishl dX12_triesAbout_79 ?_
            refine Rp.ior dX12_triesAbout_80 ?_
            refine Rp.callV2 M_X12_triesAbout (ci := 12) dX12_triesAbout_81 mo_X12_triesAbout lk_X12_420 (by decide) rfl rfl (S3 _ _ rfl) (Nat.le_of_ble_eq_true rfl) (Nat.le_of_ble_eq_true rfl) (rc) (fun v1 h1 p1 x1 => ?_)
            obtain ⟨rfl, B4, r4, F4⟩ := p1
            try dsimp only [Option.toList, List.cons_append, List.nil_append, List.append]
            skip
            have B5 := B4.unput b4 b5 b6 b7 b8 hk
            have k1 := nx _ h1 B5 r4 ((FF.sI (by unfold taX; rw [decide_eq_true (show p < 6 by omega), Bool.or_eq_true]; exact Or.inr rfl)).trans F4)
            first | ((with_reducible show Rp _ _ _ (_ :: _ :: _ :: some (.int (nI _)) :: _) _ _ _); refine Rp.inc3N (c := 1) dX12_triesAbout_84 (by first | exact nl2_some rfl | exact nl2_none) (by decide) ?_) | refine Rp.inc3 _ dX12_triesAbout_84 rfl (by first | exact nl2_some rfl | exact nl2_none) (by decide) ?_
            refine Rp.goto (tgt := 15) dX12_triesAbout_87 (by decide) ?_
            exact k1
          · have ok1 : okC9 (gI hb 102) fl false p t = false := by unfold okC9; rw [c2]; rfl
            rw [if_pos (Or.inr ok1)]
            have k1 := nx s h1 B2 hS2 FF
            first | ((with_reducible show Rp _ _ _ _ (.int (b2i _) :: _) _ _); refine Rp.if_eqB (tgt := 53) dX12_triesAbout_47 (by decide) (fun c47 => ?_) (fun c47 => ?_)) | ((with_reducible show Rp _ _ _ _ (.int (nI _) :: _) _ _); refine Rp.if_eqN (tgt := 53) dX12_triesAbout_47 (by decide) (by omega) (fun c47 => ?_) (fun c47 => ?_)) | refine Rp.if_eq (tgt := 53) dX12_triesAbout_47 (by decide) (fun c47 => ?_) (fun c47 => ?_)
            · skip
              cases c47
            · skip
              refine Rp.goto (tgt := 84) dX12_triesAbout_50 (by decide) ?_
              first | ((with_reducible show Rp _ _ _ (_ :: _ :: _ :: some (.int (nI _)) :: _) _ _ _); refine Rp.inc3N (c := 1) dX12_triesAbout_84 (by first | exact nl2_some rfl | exact nl2_none) (by decide) ?_) | refine Rp.inc3 _ dX12_triesAbout_84 rfl (by first | exact nl2_some rfl | exact nl2_none) (by decide) ?_
              refine Rp.goto (tgt := 15) dX12_triesAbout_87 (by decide) ?_
              exact k1
        · rw [if_pos (Or.inl c1)]
          rw [show decide (hOf W (nI t) np ≠ -1) = true from decide_eq_true c1] at isn
          have k1 := nx s g1 B1 hS1 F1
          refine Rp.iload_n dX12_triesAbout_15 rfl ?_
          refine Rp.aload_n dX12_triesAbout_16 rfl rfl ?_
          refine Rp.getI dX12_triesAbout_17 fk_X12_405 rfl (S _ _ rfl) ?_
          first | rw [e39] | skip
          first | ((with_reducible show Rp _ _ _ _ (.int (nI _) :: .int (nI _) :: _) _ _); refine Rp.icmp_geN (tgt := 90) dX12_triesAbout_20 (by decide) (by omega) (fun c20 => ?_) (fun c20 => ?_)) | refine Rp.icmp_ge (tgt := 90) dX12_triesAbout_20 (by decide) (fun c20 => ?_) (fun c20 => ?_)
          · skip
            first | (exfalso; omega) | exact absurd c20 (by decide) | exact absurd (by decide) c20
          · skip
            refine Rp.iload_n dX12_triesAbout_23 rfl ?_
            refine Rp.iload_n dX12_triesAbout_24 rfl ?_
            refine Rp.callS2 M_X12_isIn dX12_triesAbout_25 mo_X12_isIn lk_X12_381 (Nat.le_of_ble_eq_true rfl) (Nat.le_of_ble_eq_true rfl) (isn) (fun v1 h1 p1 x1 => ?_)
            rw [p1.1, p1.2]
            try dsimp only [Option.toList, List.cons_append, List.nil_append, List.append]
            first | ((with_reducible show Rp _ _ _ _ (.int (b2i _) :: _) _ _); refine Rp.if_neB (tgt := 84) dX12_triesAbout_28 (by decide) (fun c28 => ?_) (fun c28 => ?_)) | ((with_reducible show Rp _ _ _ _ (.int (nI _) :: _) _ _); refine Rp.if_neN (tgt := 84) dX12_triesAbout_28 (by decide) (by omega) (fun c28 => ?_) (fun c28 => ?_)) | refine Rp.if_ne (tgt := 84) dX12_triesAbout_28 (by decide) (fun c28 => ?_) (fun c28 => ?_)
            · skip
              first | ((with_reducible show Rp _ _ _ (_ :: _ :: _ :: some (.int (nI _)) :: _) _ _ _); refine Rp.inc3N (c := 1) dX12_triesAbout_84 (by first | exact nl2_some rfl | exact nl2_none) (by decide) ?_) | refine Rp.inc3 _ dX12_triesAbout_84 rfl (by first | exact nl2_some rfl | exact nl2_none) (by decide) ?_
              refine Rp.goto (tgt := 15) dX12_triesAbout_87 (by decide) ?_
              exact k1
            · skip
              cases c28
    obtain ⟨S, R, L, -⟩ := id Bg
    have e39 : gI g 100 39 = nI (pre.length + (rest.length + 1)) := by rw [L.1, ll]
    have k15 := lp (tkL (gI hb 102) np nt 0) [] s g rfl Bg hS Fr.rfl'
    refine Rp.iload_n dX12_triesAbout_0 rfl ?_
    refine Rp.aload_n dX12_triesAbout_1 rfl rfl ?_
    refine Rp.getI dX12_triesAbout_2 fk_X12_405 rfl (S _ _ rfl) ?_
    first | rw [e39] | skip
    first | ((with_reducible show Rp _ _ _ _ (.int (nI _) :: .int (nI _) :: _) _ _); refine Rp.icmp_neN (tgt := 13) dX12_triesAbout_5 (by decide) (by omega) (fun c5 => ?_) (fun c5 => ?_)) | refine Rp.icmp_ne (tgt := 13) dX12_triesAbout_5 (by decide) (fun c5 => ?_) (fun c5 => ?_)
    · skip
      refine Rp.iconst (nI 0) dX12_triesAbout_13 (by decide) ?_
      refine Rp.ist3 dX12_triesAbout_14 (by first | exact nl2_some rfl | exact nl2_none) (by decide) ?_
      exact k15
    · skip
      first | (exfalso; omega) | exact absurd c5 (by decide) | exact absurd (by decide) c5
end Ty
