theorem pw_v (ord : Bool) (c : Nat) : pwK (if ord then 0 else 1) c = vbO ord c := by
  by_cases hc : c < 30
  · have h1 := List.all_eq_true.mp pw_all c (List.mem_range.mpr hc)
    simp only [Bool.and_eq_true, decide_eq_true_eq] at h1
    cases ord
    · exact h1.1.1.1.1.1.1.1.1.1.2
    · exact h1.1.1.1.1.1.1.1.1.1.1
  · rw [pw_big (by omega)]
    unfold vbO
    cases ord
    · rw [if_neg (by decide), if_neg (by omega), if_neg (by omega), if_neg (by omega), if_neg (by omega)]
    · rw [if_pos rfl, if_neg (by omega), if_neg (by omega), if_neg (by omega), if_neg (by omega)]
theorem vbO_lt2 {ord : Bool} {c vb : Nat} (h : vbO ord c = some vb) : vb < 4 ∧ c ≠ 0 := by
  unfold vbO at h
  constructor
  · cases ord
    · rw [if_neg (by decide)] at h
      by_cases h1 : c = 1
      · rw [if_pos h1] at h; cases h; decide
      · rw [if_neg h1] at h
        by_cases h2 : c = 2
        · rw [if_pos h2] at h; cases h; decide
        · rw [if_neg h2] at h
          by_cases h3 : c = 3
          · rw [if_pos h3] at h; cases h; decide
          · rw [if_neg h3] at h
            by_cases h4 : c = 4
            · rw [if_pos h4] at h; cases h; decide
            · rw [if_neg h4] at h; cases h
    · rw [if_pos rfl] at h
      by_cases h1 : c = 23
      · rw [if_pos h1] at h; cases h; decide
      · rw [if_neg h1] at h
        by_cases h2 : c = 25
        · rw [if_pos h2] at h; cases h; decide
        · rw [if_neg h2] at h
          by_cases h3 : c = 27
          · rw [if_pos h3] at h; cases h; decide
          · rw [if_neg h3] at h
            by_cases h4 : c = 28
            · rw [if_pos h4] at h; cases h; decide
            · rw [if_neg h4] at h; cases h
  · intro z
    subst z
    cases ord
    · exact nomatch (show (none : Option Nat) = some vb from h)
    · exact nomatch (show (none : Option Nat) = some vb from h)
section Mcr
variable (d : Nat) {h0 h : AH} {ord : Bool} {tb : Nat → Int32} {L : Nat} {TL : List (Nat × Nat)} {n a : Nat} {af : Bool} {i lv : Nat} {cd : List (Nat × Nat)} {f : Nat}
theorem cl66 (B0 : CB h0 ord tb L TL) (hn : n < 12) {vb : Nat} (hvb : vb < 4) {p : PT} (M : MC h0 ord L TL n a af h i lv cd (hdV vb 1 p none none)) (h1i : 1 ≤ i) (hi : i ≤ TL.length) (hl : lv ≤ 50) (ha : a + cd.length ≤ i + 34) (hf : 12 * TL.length + 8 ≤ f) : Rp (d + 36) M_X7_clause 66 [some (.ref 35), some (.int (nI vb))] [] h (fun r h' => r = none ∧ clQ h0 ord L TL n a af (if ord = true ∧ vb < 2 then (if cT tb TL i = (if vb = 0 then 24 else 26) then cl2 ord (cT tb TL) (vT tb TL) f (i + 1) lv a cd vb p else .error i) else clM ord (cT tb TL) (vT tb TL) f i lv a cd vb p none) h') := by
  have B := B0.rc M.1
  have S := B.1.1
  have R := B.1.2.1
  have hT := B.le
  have ho := B.1.2.2.2.2
  cases ord with
  | false =>
    rw [show b2i false = nI 0 from rfl] at ho
    rw [if_neg (fun z => nomatch z.1)]
    have k1 := cl108 d B0 hn M h1i hi hl (by omega) hf (.int (nI vb))
    refine Rp.aload_n dX7_clause_66 rfl rfl ?_
    refine Rp.getI dX7_clause_67 fk_X7_29 rfl (S _ _ rfl) ?_
    first | rw [ho] | skip
    first | ((with_reducible show Rp _ _ _ _ (.int (b2i _) :: _) _ _); refine Rp.if_eqB (tgt := 108) dX7_clause_70 (by decide) (fun c70 => ?_) (fun c70 => ?_)) | ((with_reducible show Rp _ _ _ _ (.int (nI _) :: _) _ _); refine Rp.if_eqN (tgt := 108) dX7_clause_70 (by decide) (by omega) (fun c70 => ?_) (fun c70 => ?_)) | refine Rp.if_eq (tgt := 108) dX7_clause_70 (by decide) (fun c70 => ?_) (fun c70 => ?_)
    · skip
      exact k1
    · skip
      first | (exfalso; omega) | exact absurd c70 (by decide) | exact absurd (by decide) c70
  | true =>
    rw [show b2i true = nI 1 from rfl] at ho
    by_cases hv2 : vb < 2
    · rw [if_pos ⟨rfl, hv2⟩]
      have key : ∀ (k : Nat), 4 ≤ k → k < 11 → cdK k = (if vb = 0 then 24 else 26) → Rp (d + 36) M_X7_clause 90 [some (.ref 35), some (.int (nI vb))] [.retAddr k, .ref 35] h (fun r h' => r = none ∧ clQ h0 true L TL n a af (if cT tb TL i = (if vb = 0 then 24 else 26) then cl2 true (cT tb TL) (vT tb TL) f (i + 1) lv a cd vb p else .error i) h') := by
        intro k hk4 hk ek
        have go := t_goes (d + 30) B.1 B.tl hk4 hk M.2.1.1 M.2.1.2.2.1
        rw [B.2.1, ek] at go
        refine Rp.callV1 M_X7_goesOnWith (ci := 7) dX7_clause_90 mo_X7_goesOnWith lk_X7_76 (by decide) rfl rfl (S _ _ rfl) (Nat.le_of_ble_eq_true rfl) (Nat.le_of_ble_eq_true rfl) (go) (fun v1 h1 p1 x1 => ?_)
        skip
        try dsimp only [Option.toList, List.cons_append, List.nil_append, List.append]
        skip
        rcases p1 with ⟨e, rfl, F, T1⟩ | ⟨e, rfl, rfl⟩
        · rw [if_pos e]
          have hi1 : i + 1 ≤ TL.length := cT_len (tb := tb) (by rw [e]; split <;> decide)
          have M1 := M.av F T1
          have S1 := F.S S
          have R1 := F.R R (by decide)
          have ms := t_markedSum (d + 2) B0 hn M1 (w := 4) (by decide) (by omega) hi1 hl (by omega) hf
          have o1 := Prs_ok (ord := true) (v := vT tb TL) (cT_end tb TL) f 7 0 (i + 1) lv (a + cd.length) (by decide) hi1 hl
          dsimp only [Option.toList, List.cons_append, List.nil_append, List.append]
          first | ((with_reducible show Rp _ _ _ _ (.int (b2i _) :: _) _ _); refine Rp.if_eqB (tgt := 104) dX7_clause_93 (by decide) (fun c93 => ?_) (fun c93 => ?_)) | ((with_reducible show Rp _ _ _ _ (.int (nI _) :: _) _ _); refine Rp.if_eqN (tgt := 104) dX7_clause_93 (by decide) (by omega) (fun c93 => ?_) (fun c93 => ?_)) | refine Rp.if_eq (tgt := 104) dX7_clause_93 (by decide) (fun c93 => ?_) (fun c93 => ?_)
          · first | (exfalso; omega) | exact absurd c93 (by decide) | exact absurd (by decide) c93
          refine Rp.aload_n dX7_clause_96 rfl rfl ?_
          refine Rp.iconst (nI 4) dX7_clause_97 (by decide) ?_
          refine Rp.callV1 M_X7_markedSum (ci := 7) dX7_clause_98 mo_X7_markedSum lk_X7_69 (by decide) rfl rfl (S1 _ _ rfl) (Nat.le_of_ble_eq_true rfl) (Nat.le_of_ble_eq_true rfl) (ms) (fun v1 h1 p1 x1 => ?_)
          obtain ⟨rfl, p1⟩ := p1
          try dsimp only [Option.toList, List.cons_append, List.nil_append, List.append]
          refine Rp.goto (tgt := 108) dX7_clause_101 (by decide) ?_
          skip
          unfold cl2
          generalize Prs true (cT tb TL) (vT tb TL) f 7 0 (i + 1) lv (a + cd.length) = x at p1 o1 ⊢
          match x, o1, p1 with
          | .error e2, o1, E => exact clb108 d B0 E _
          | .ok (i1, lv1, cd1, D), o1, M2 =>
            obtain ⟨g1, g2, g3, g4, g5, g6⟩ := o1
            have g3 := g3 rfl
            have e0 : slM 7 = 0 := rfl
            have M3 := M2.hv (hv' := hdV vb 1 p (some (a + cd.length, D)) none) (fun w hw => by
              match w, hw with
              | 0, _ => rfl
              | 1, _ => rfl
              | 2, _ => rfl
              | 3, _ => rfl
              | 4, _ => rfl)
            exact cl108 d B0 hn M3 (by omega) g2 g4 (by rw [List.length_append, List.length_append, List.length_singleton]; omega) hf _
        · rw [if_neg e]
          have wr := t_wrong (d + 35) S M.2.1.2.2.1
          have W := M.werr (show a + cd.length ≤ 436 by omega)
          have k1 := clb108 d B0 W (.int (nI vb))
          dsimp only [Option.toList, List.cons_append, List.nil_append, List.append]
          first | ((with_reducible show Rp _ _ _ _ (.int (b2i _) :: _) _ _); refine Rp.if_eqB (tgt := 104) dX7_clause_93 (by decide) (fun c93 => ?_) (fun c93 => ?_)) | ((with_reducible show Rp _ _ _ _ (.int (nI _) :: _) _ _); refine Rp.if_eqN (tgt := 104) dX7_clause_93 (by decide) (by omega) (fun c93 => ?_) (fun c93 => ?_)) | refine Rp.if_eq (tgt := 104) dX7_clause_93 (by decide) (fun c93 => ?_) (fun c93 => ?_)
          · skip
            refine Rp.aload_n dX7_clause_104 rfl rfl ?_
            refine Rp.callV0 M_X7_wrong (ci := 7) dX7_clause_105 mo_X7_wrong lk_X7_51 (by decide) rfl rfl (S _ _ rfl) (Nat.le_of_ble_eq_true rfl) (Nat.le_of_ble_eq_true rfl) (wr) (fun v1 h1 p1 x1 => ?_)
            obtain ⟨rfl, rfl⟩ := p1
            try dsimp only [Option.toList, List.cons_append, List.nil_append, List.append]
            exact k1
          · skip
            first | (exfalso; omega) | exact absurd c93 (by decide) | exact absurd (by decide) c93
      by_cases v0 : vb = 0
      · have k1 := key 4 (by decide) (by decide) (by rw [if_pos v0]; rfl)
        refine Rp.aload_n dX7_clause_66 rfl rfl ?_
        refine Rp.getI dX7_clause_67 fk_X7_29 rfl (S _ _ rfl) ?_
        first | rw [ho] | skip
        first | ((with_reducible show Rp _ _ _ _ (.int (b2i _) :: _) _ _); refine Rp.if_eqB (tgt := 108) dX7_clause_70 (by decide) (fun c70 => ?_) (fun c70 => ?_)) | ((with_reducible show Rp _ _ _ _ (.int (nI _) :: _) _ _); refine Rp.if_eqN (tgt := 108) dX7_clause_70 (by decide) (by omega) (fun c70 => ?_) (fun c70 => ?_)) | refine Rp.if_eq (tgt := 108) dX7_clause_70 (by decide) (fun c70 => ?_) (fun c70 => ?_)
        · skip
          first | (exfalso; omega) | exact absurd c70 (by decide) | exact absurd (by decide) c70
        · skip
          refine Rp.iload_n dX7_clause_73 rfl ?_
          refine Rp.iconst (nI 1) dX7_clause_74 (by decide) ?_
          first | ((with_reducible show Rp _ _ _ _ (.int (nI _) :: .int (nI _) :: _) _ _); refine Rp.icmp_gtN (tgt := 108) dX7_clause_75 (by decide) (by omega) (fun c75 => ?_) (fun c75 => ?_)) | refine Rp.icmp_gt (tgt := 108) dX7_clause_75 (by decide) (fun c75 => ?_) (fun c75 => ?_)
          · skip
            first | (exfalso; omega) | exact absurd c75 (by decide) | exact absurd (by decide) c75
          · skip
            refine Rp.aload_n dX7_clause_78 rfl rfl ?_
            refine Rp.iload_n dX7_clause_79 rfl ?_
            first | ((with_reducible show Rp _ _ _ _ (.int (b2i _) :: _) _ _); refine Rp.if_neB (tgt := 88) dX7_clause_80 (by decide) (fun c80 => ?_) (fun c80 => ?_)) | ((with_reducible show Rp _ _ _ _ (.int (nI _) :: _) _ _); refine Rp.if_neN (tgt := 88) dX7_clause_80 (by decide) (by omega) (fun c80 => ?_) (fun c80 => ?_)) | refine Rp.if_ne (tgt := 88) dX7_clause_80 (by decide) (fun c80 => ?_) (fun c80 => ?_)
            · skip
              first | (exfalso; omega) | exact absurd c80 (by decide) | exact absurd (by decide) c80
            · skip
              refine Rp.ldcS (k := 4) dX7_clause_83 (by decide) rfl rfl ?_
              refine Rp.goto (tgt := 90) dX7_clause_85 (by decide) ?_
              exact k1
      · have k1 := key 5 (by decide) (by decide) (by rw [if_neg v0]; rfl)
        refine Rp.aload_n dX7_clause_66 rfl rfl ?_
        refine Rp.getI dX7_clause_67 fk_X7_29 rfl (S _ _ rfl) ?_
        first | rw [ho] | skip
        first | ((with_reducible show Rp _ _ _ _ (.int (b2i _) :: _) _ _); refine Rp.if_eqB (tgt := 108) dX7_clause_70 (by decide) (fun c70 => ?_) (fun c70 => ?_)) | ((with_reducible show Rp _ _ _ _ (.int (nI _) :: _) _ _); refine Rp.if_eqN (tgt := 108) dX7_clause_70 (by decide) (by omega) (fun c70 => ?_) (fun c70 => ?_)) | refine Rp.if_eq (tgt := 108) dX7_clause_70 (by decide) (fun c70 => ?_) (fun c70 => ?_)
        · skip
          first | (exfalso; omega) | exact absurd c70 (by decide) | exact absurd (by decide) c70
        · skip
          refine Rp.iload_n dX7_clause_73 rfl ?_
          refine Rp.iconst (nI 1) dX7_clause_74 (by decide) ?_
          first | ((with_reducible show Rp _ _ _ _ (.int (nI _) :: .int (nI _) :: _) _ _); refine Rp.icmp_gtN (tgt := 108) dX7_clause_75 (by decide) (by omega) (fun c75 => ?_) (fun c75 => ?_)) | refine Rp.icmp_gt (tgt := 108) dX7_clause_75 (by decide) (fun c75 => ?_) (fun c75 => ?_)
          · skip
            first | (exfalso; omega) | exact absurd c75 (by decide) | exact absurd (by decide) c75
          · skip
            refine Rp.aload_n dX7_clause_78 rfl rfl ?_
            refine Rp.iload_n dX7_clause_79 rfl ?_
            first | ((with_reducible show Rp _ _ _ _ (.int (b2i _) :: _) _ _); refine Rp.if_neB (tgt := 88) dX7_clause_80 (by decide) (fun c80 => ?_) (fun c80 => ?_)) | ((with_reducible show Rp _ _ _ _ (.int (nI _) :: _) _ _); refine Rp.if_neN (tgt := 88) dX7_clause_80 (by decide) (by omega) (fun c80 => ?_) (fun c80 => ?_)) | refine Rp.if_ne (tgt := 88) dX7_clause_80 (by decide) (fun c80 => ?_) (fun c80 => ?_)
            · skip
              refine Rp.ldcS (k := 5) dX7_clause_88 (by decide) rfl rfl ?_
              exact k1
            · skip
              first | (exfalso; omega) | exact absurd c80 (by decide) | exact absurd (by decide) c80
    · rw [if_neg (fun z => hv2 z.2)]
      have k1 := cl108 d B0 hn M h1i hi hl (by omega) hf (.int (nI vb))
      refine Rp.aload_n dX7_clause_66 rfl rfl ?_
      refine Rp.getI dX7_clause_67 fk_X7_29 rfl (S _ _ rfl) ?_
      first | rw [ho] | skip
      first | ((with_reducible show Rp _ _ _ _ (.int (b2i _) :: _) _ _); refine Rp.if_eqB (tgt := 108) dX7_clause_70 (by decide) (fun c70 => ?_) (fun c70 => ?_)) | ((with_reducible show Rp _ _ _ _ (.int (nI _) :: _) _ _); refine Rp.if_eqN (tgt := 108) dX7_clause_70 (by decide) (by omega) (fun c70 => ?_) (fun c70 => ?_)) | refine Rp.if_eq (tgt := 108) dX7_clause_70 (by decide) (fun c70 => ?_) (fun c70 => ?_)
      · skip
        first | (exfalso; omega) | exact absurd c70 (by decide) | exact absurd (by decide) c70
      · skip
        refine Rp.iload_n dX7_clause_73 rfl ?_
        refine Rp.iconst (nI 1) dX7_clause_74 (by decide) ?_
        first | ((with_reducible show Rp _ _ _ _ (.int (nI _) :: .int (nI _) :: _) _ _); refine Rp.icmp_gtN (tgt := 108) dX7_clause_75 (by decide) (by omega) (fun c75 => ?_) (fun c75 => ?_)) | refine Rp.icmp_gt (tgt := 108) dX7_clause_75 (by decide) (fun c75 => ?_) (fun c75 => ?_)
        · skip
          exact k1
        · skip
          first | (exfalso; omega) | exact absurd c75 (by decide) | exact absurd (by decide) c75
theorem cl41 (B0 : CB h0 ord tb L TL) (hn : n < 12) {vb : Nat} (hvb : vb < 4) (M : MC h0 ord L TL n a af h i lv [] (hdV vb 1 none none none)) (h1i : 1 ≤ i) (hi : i ≤ TL.length) (hl : lv ≤ 50) (ha : a ≤ i + 33) (hf : 12 * TL.length + 8 ≤ f) : Rp (d + 36) M_X7_clause 41 [some (.ref 35), some (.int (nI vb))] [] h (fun r h' => r = none ∧ clQ h0 ord L TL n a af (if (if ord = true then vb = 3 else 1 < vb) then clM ord (cT tb TL) (vT tb TL) f i lv a [] vb none none else cl1 ord (cT tb TL) (vT tb TL) f i lv a vb) h') := by
  have B := B0.rc M.1
  have S := B.1.1
  have R := B.1.2.1
  have hT := B.le
  have ho := B.1.2.2.2.2
  have fin : Rp (d + 36) M_X7_clause 61 [some (.ref 35), some (.int (nI vb))] [] h (fun r h' => r = none ∧ clQ h0 ord L TL n a af (cl1 ord (cT tb TL) (vT tb TL) f i lv a vb) h') := by
    have ms := t_markedSum (d + 2) B0 hn M (w := 3) (by decide) h1i hi hl (by rw [List.length_nil]; omega) hf
    rw [List.length_nil, Nat.add_zero] at ms
    have o1 := Prs_ok (ord := ord) (v := vT tb TL) (cT_end tb TL) f 7 0 i lv a (by decide) hi hl
    refine Rp.aload_n dX7_clause_61 rfl rfl ?_
    refine Rp.iconst (nI 3) dX7_clause_62 (by decide) ?_
    refine Rp.callV1 M_X7_markedSum (ci := 7) dX7_clause_63 mo_X7_markedSum lk_X7_69 (by decide) rfl rfl (S _ _ rfl) (Nat.le_of_ble_eq_true rfl) (Nat.le_of_ble_eq_true rfl) (ms) (fun v1 h1 p1 x1 => ?_)
    obtain ⟨rfl, p1⟩ := p1
    try dsimp only [Option.toList, List.cons_append, List.nil_append, List.append]
    skip
    unfold cl1
    generalize Prs ord (cT tb TL) (vT tb TL) f 7 0 i lv a = x at p1 o1 ⊢
    match x, o1, p1 with
    | .error e2, o1, E => exact clb66 d B0 hvb E
    | .ok (i1, lv1, cd1, D), o1, M2 =>
      obtain ⟨g1, g2, g3, g4, g5, g6⟩ := o1
      have g3 := g3 rfl
      have e0 : slM 7 = 0 := rfl
      have M3 := M2.hv (hv' := hdV vb 1 (some (a, D)) none none) (fun w hw => by
        match w, hw with
        | 0, _ => rfl
        | 1, _ => rfl
        | 2, _ => rfl
        | 3, _ => rfl
        | 4, _ => rfl)
      rw [List.nil_append] at M3
      exact cl66 d B0 hn hvb M3 (by omega) g2 g4 (by rw [List.length_append, List.length_singleton]; omega) hf
  have nof : (ord = true ∧ vb < 2) = False → Rp (d + 36) M_X7_clause 66 [some (.ref 35), some (.int (nI vb))] [] h (fun r h' => r = none ∧ clQ h0 ord L TL n a af (clM ord (cT tb TL) (vT tb TL) f i lv a [] vb none none) h') := fun z => by
    have q := cl66 d B0 hn hvb M h1i hi hl (by rw [List.length_nil]; omega) hf
    rw [if_neg (fun y => by rw [z] at y; exact y)] at q
    exact q
  cases ord with
  | false =>
    rw [show b2i false = nI 0 from rfl] at ho
    by_cases hv2 : 1 < vb
    · rw [if_pos (show (if false = true then vb = 3 else 1 < vb) from hv2)]
      have k1 := nof (eq_false (fun z => nomatch z.1))
      refine Rp.aload_n dX7_clause_41 rfl rfl ?_
      refine Rp.getI dX7_clause_42 fk_X7_29 rfl (S _ _ rfl) ?_
      first | rw [ho] | skip
      first | ((with_reducible show Rp _ _ _ _ (.int (b2i _) :: _) _ _); refine Rp.if_eqB (tgt := 56) dX7_clause_45 (by decide) (fun c45 => ?_) (fun c45 => ?_)) | ((with_reducible show Rp _ _ _ _ (.int (nI _) :: _) _ _); refine Rp.if_eqN (tgt := 56) dX7_clause_45 (by decide) (by omega) (fun c45 => ?_) (fun c45 => ?_)) | refine Rp.if_eq (tgt := 56) dX7_clause_45 (by decide) (fun c45 => ?_) (fun c45 => ?_)
      · skip
        refine Rp.iload_n dX7_clause_56 rfl ?_
        refine Rp.iconst (nI 1) dX7_clause_57 (by decide) ?_
        first | ((with_reducible show Rp _ _ _ _ (.int (nI _) :: .int (nI _) :: _) _ _); refine Rp.icmp_gtN (tgt := 66) dX7_clause_58 (by decide) (by omega) (fun c58 => ?_) (fun c58 => ?_)) | refine Rp.icmp_gt (tgt := 66) dX7_clause_58 (by decide) (fun c58 => ?_) (fun c58 => ?_)
        · skip
          exact k1
        · skip
          first | (exfalso; omega) | exact absurd c58 (by decide) | exact absurd (by decide) c58
      · skip
        first | (exfalso; omega) | exact absurd c45 (by decide) | exact absurd (by decide) c45
    · rw [if_neg (show ¬ (if false = true then vb = 3 else 1 < vb) from hv2)]
      refine Rp.aload_n dX7_clause_41 rfl rfl ?_
      refine Rp.getI dX7_clause_42 fk_X7_29 rfl (S _ _ rfl) ?_
      first | rw [ho] | skip
      first | ((with_reducible show Rp _ _ _ _ (.int (b2i _) :: _) _ _); refine Rp.if_eqB (tgt := 56) dX7_clause_45 (by decide) (fun c45 => ?_) (fun c45 => ?_)) | ((with_reducible show Rp _ _ _ _ (.int (nI _) :: _) _ _); refine Rp.if_eqN (tgt := 56) dX7_clause_45 (by decide) (by omega) (fun c45 => ?_) (fun c45 => ?_)) | refine Rp.if_eq (tgt := 56) dX7_clause_45 (by decide) (fun c45 => ?_) (fun c45 => ?_)
      · skip
        refine Rp.iload_n dX7_clause_56 rfl ?_
        refine Rp.iconst (nI 1) dX7_clause_57 (by decide) ?_
        first | ((with_reducible show Rp _ _ _ _ (.int (nI _) :: .int (nI _) :: _) _ _); refine Rp.icmp_gtN (tgt := 66) dX7_clause_58 (by decide) (by omega) (fun c58 => ?_) (fun c58 => ?_)) | refine Rp.icmp_gt (tgt := 66) dX7_clause_58 (by decide) (fun c58 => ?_) (fun c58 => ?_)
        · skip
          first | (exfalso; omega) | exact absurd c58 (by decide) | exact absurd (by decide) c58
        · skip
          exact fin
      · skip
        first | (exfalso; omega) | exact absurd c45 (by decide) | exact absurd (by decide) c45
  | true =>
    rw [show b2i true = nI 1 from rfl] at ho
    by_cases hv3 : vb = 3
    · rw [if_pos (show (if true = true then vb = 3 else 1 < vb) from hv3)]
      have k1 := nof (eq_false (fun z => by omega))
      refine Rp.aload_n dX7_clause_41 rfl rfl ?_
      refine Rp.getI dX7_clause_42 fk_X7_29 rfl (S _ _ rfl) ?_
      first | rw [ho] | skip
      first | ((with_reducible show Rp _ _ _ _ (.int (b2i _) :: _) _ _); refine Rp.if_eqB (tgt := 56) dX7_clause_45 (by decide) (fun c45 => ?_) (fun c45 => ?_)) | ((with_reducible show Rp _ _ _ _ (.int (nI _) :: _) _ _); refine Rp.if_eqN (tgt := 56) dX7_clause_45 (by decide) (by omega) (fun c45 => ?_) (fun c45 => ?_)) | refine Rp.if_eq (tgt := 56) dX7_clause_45 (by decide) (fun c45 => ?_) (fun c45 => ?_)
      · skip
        first | (exfalso; omega) | exact absurd c45 (by decide) | exact absurd (by decide) c45
      · skip
        refine Rp.iload_n dX7_clause_48 rfl ?_
        refine Rp.iconst (nI 3) dX7_clause_49 (by decide) ?_
        first | ((with_reducible show Rp _ _ _ _ (.int (nI _) :: .int (nI _) :: _) _ _); refine Rp.icmp_eqN (tgt := 66) dX7_clause_50 (by decide) (by omega) (fun c50 => ?_) (fun c50 => ?_)) | refine Rp.icmp_eq (tgt := 66) dX7_clause_50 (by decide) (fun c50 => ?_) (fun c50 => ?_)
        · skip
          exact k1
        · skip
          first | (exfalso; omega) | exact absurd c50 (by decide) | exact absurd (by decide) c50
    · rw [if_neg (show ¬ (if true = true then vb = 3 else 1 < vb) from hv3)]
      refine Rp.aload_n dX7_clause_41 rfl rfl ?_
      refine Rp.getI dX7_clause_42 fk_X7_29 rfl (S _ _ rfl) ?_
      first | rw [ho] | skip
      first | ((with_reducible show Rp _ _ _ _ (.int (b2i _) :: _) _ _); refine Rp.if_eqB (tgt := 56) dX7_clause_45 (by decide) (fun c45 => ?_) (fun c45 => ?_)) | ((with_reducible show Rp _ _ _ _ (.int (nI _) :: _) _ _); refine Rp.if_eqN (tgt := 56) dX7_clause_45 (by decide) (by omega) (fun c45 => ?_) (fun c45 => ?_)) | refine Rp.if_eq (tgt := 56) dX7_clause_45 (by decide) (fun c45 => ?_) (fun c45 => ?_)
      · skip
        first | (exfalso; omega) | exact absurd c45 (by decide) | exact absurd (by decide) c45
      · skip
        refine Rp.iload_n dX7_clause_48 rfl ?_
        refine Rp.iconst (nI 3) dX7_clause_49 (by decide) ?_
        first | ((with_reducible show Rp _ _ _ _ (.int (nI _) :: .int (nI _) :: _) _ _); refine Rp.icmp_eqN (tgt := 66) dX7_clause_50 (by decide) (by omega) (fun c50 => ?_) (fun c50 => ?_)) | refine Rp.icmp_eq (tgt := 66) dX7_clause_50 (by decide) (fun c50 => ?_) (fun c50 => ?_)
        · skip
          first | (exfalso; omega) | exact absurd c50 (by decide) | exact absurd (by decide) c50
        · skip
          refine Rp.goto (tgt := 61) dX7_clause_53 (by decide) ?_
          exact fin
theorem t_clause (B : CB h ord tb L TL) (hn : n < 12) (hc : gI h 37 2 = nI n) (G : GS h L TL i lv a af) (hi : i ≤ TL.length) (hl : lv ≤ 50) (ha : a ≤ i + 33) (hf : 12 * TL.length + 8 ≤ f) : Rp (d + 36) M_X7_clause 0 [some (.ref 35), none] [] h (fun r h' => r = none ∧ clQ h ord L TL n a af (clR ord (cT tb TL) (vT tb TL) f i lv a) h') := by
  have S := B.1.1
  have R := B.1.2.1
  have hT := B.le
  have ho := B.1.2.2.2.2
  have key : Rp (d + 36) M_X7_clause 15 [some (.ref 35), none] [.retAddr (if ord then 0 else 1), .ref 35] h (fun r h' => r = none ∧ clQ h ord L TL n a af (clR ord (cT tb TL) (vT tb TL) f i lv a) h') := by
    have pl := t_place (d + 31) S R (k := if ord then 0 else 1) (by split <;> decide) B.1.2.2.1 B.tl G.1
    rw [B.2.1, pw_v] at pl
    refine Rp.callV1 M_X7_placeIn (ci := 7) dX7_clause_15 mo_X7_placeIn lk_X7_61 (by decide) rfl rfl (S _ _ rfl) (Nat.le_of_ble_eq_true rfl) (Nat.le_of_ble_eq_true rfl) (pl) (fun v1 h1 p1 x1 => ?_)
    rw [p1.1, p1.2]
    try dsimp only [Option.toList, List.cons_append, List.nil_append, List.append]
    refine Rp.ist1 dX7_clause_18 (by first | exact nl2_some rfl | exact nl2_none) (by decide) ?_
    skip
    unfold clR
    match hvb : vbO ord (cT tb TL i) with
    | none =>
      have wr := t_wrong (d + 35) S G.2.2.1
      have W : ME h L TL i (sI h 35 3 (gI h 35 6)) := ⟨(cQ_err (ord := ord) (show a ≤ 436 by omega) G).1.rc, (cQ_err (ord := ord) (show a ≤ 436 by omega) G).2⟩
      dsimp only [oI]
      refine Rp.iload_n dX7_clause_19 rfl ?_
      refine Rp.iconst (-1) dX7_clause_20 (by decide) ?_
      first | ((with_reducible show Rp _ _ _ _ (.int (nI _) :: .int (nI _) :: _) _ _); refine Rp.icmp_neN (tgt := 29) dX7_clause_21 (by decide) (by omega) (fun c21 => ?_) (fun c21 => ?_)) | refine Rp.icmp_ne (tgt := 29) dX7_clause_21 (by decide) (fun c21 => ?_) (fun c21 => ?_)
      · skip
        exact absurd rfl c21
      · skip
        refine Rp.aload_n dX7_clause_24 rfl rfl ?_
        refine Rp.callV0 M_X7_wrong (ci := 7) dX7_clause_25 mo_X7_wrong lk_X7_51 (by decide) rfl rfl (S _ _ rfl) (Nat.le_of_ble_eq_true rfl) (Nat.le_of_ble_eq_true rfl) (wr) (fun v1 h1 p1 x1 => ?_)
        obtain ⟨rfl, rfl⟩ := p1
        try dsimp only [Option.toList, List.cons_append, List.nil_append, List.append]
        refine Rp.vreturn dX7_clause_28 rfl ?_
        exact ⟨rfl, W⟩
    | some vb =>
      obtain ⟨hv4, hc0⟩ := vbO_lt2 hvb
      have hi1 : i + 1 ≤ TL.length := cT_len hc0
      have om : ¬ nI vb = -1 := nI_ne_m1 (by omega)
      have op := t_open (d + 34) S R (vb := vb) hn hc
      have M := MC_open (ord := ord) (n := n) (vb := vb) G
      have B1 := B.rc M.1
      have nx := t_next (d + 34) B1.1 B1.tl M.2.1.1 hi1
      dsimp only [oI]
      refine Rp.iload_n dX7_clause_19 rfl ?_
      refine Rp.iconst (-1) dX7_clause_20 (by decide) ?_
      first | ((with_reducible show Rp _ _ _ _ (.int (nI _) :: .int (nI _) :: _) _ _); refine Rp.icmp_neN (tgt := 29) dX7_clause_21 (by decide) (by omega) (fun c21 => ?_) (fun c21 => ?_)) | refine Rp.icmp_ne (tgt := 29) dX7_clause_21 (by decide) (fun c21 => ?_) (fun c21 => ?_)
      rotate_left
      · exact absurd c21 om
      refine Rp.aload_n dX7_clause_29 rfl rfl ?_
      refine Rp.getR dX7_clause_30 fk_X7_18 rfl (S _ _ rfl) (R _ _ _ rfl) ?_
      refine Rp.iload_n dX7_clause_33 rfl ?_
      refine Rp.callV1 M_X9_open (ci := 9) dX7_clause_34 mo_X9_open lk_X7_65 (by decide) rfl rfl (S _ _ rfl) (Nat.le_of_ble_eq_true rfl) (Nat.le_of_ble_eq_true rfl) (op) (fun v1 h1 p1 x1 => ?_)
      obtain ⟨rfl, rfl⟩ := p1
      try dsimp only [Option.toList, List.cons_append, List.nil_append, List.append]
      refine Rp.aload_n dX7_clause_37 rfl rfl ?_
      refine Rp.callV0 M_X7_advance (ci := 7) dX7_clause_38 mo_X7_advance lk_X7_42 (by decide) rfl rfl (B1.1.1 _ _ rfl) (Nat.le_of_ble_eq_true rfl) (Nat.le_of_ble_eq_true rfl) (nx) (fun v1 h1 p1 x1 => ?_)
      obtain ⟨rfl, F, T1⟩ := p1
      try dsimp only [Option.toList, List.cons_append, List.nil_append, List.append]
      skip
      have M1 := (M.av F T1).hv (hv' := hdV vb 1 none none none) (fun w hw => by
        match w, hw with
        | 0, _ => rfl
        | 1, _ => rfl
        | 2, _ => rfl
        | 3, _ => rfl
        | 4, _ => rfl)
      exact cl41 d B hn hv4 M1 (by omega) hi1 hl (by omega) hf
  cases ord with
  | false =>
    rw [show b2i false = nI 0 from rfl] at ho
    refine Rp.aload_n dX7_clause_0 rfl rfl ?_
    refine Rp.aload_n dX7_clause_1 rfl rfl ?_
    refine Rp.getI dX7_clause_2 fk_X7_29 rfl (S _ _ rfl) ?_
    first | rw [ho] | skip
    first | ((with_reducible show Rp _ _ _ _ (.int (b2i _) :: _) _ _); refine Rp.if_eqB (tgt := 13) dX7_clause_5 (by decide) (fun c5 => ?_) (fun c5 => ?_)) | ((with_reducible show Rp _ _ _ _ (.int (nI _) :: _) _ _); refine Rp.if_eqN (tgt := 13) dX7_clause_5 (by decide) (by omega) (fun c5 => ?_) (fun c5 => ?_)) | refine Rp.if_eq (tgt := 13) dX7_clause_5 (by decide) (fun c5 => ?_) (fun c5 => ?_)
    · skip
      refine Rp.ldcS (k := 1) dX7_clause_13 (by decide) rfl rfl ?_
      exact key
    · skip
      first | (exfalso; omega) | exact absurd c5 (by decide) | exact absurd (by decide) c5
  | true =>
    rw [show b2i true = nI 1 from rfl] at ho
    refine Rp.aload_n dX7_clause_0 rfl rfl ?_
    refine Rp.aload_n dX7_clause_1 rfl rfl ?_
    refine Rp.getI dX7_clause_2 fk_X7_29 rfl (S _ _ rfl) ?_
    first | rw [ho] | skip
    first | ((with_reducible show Rp _ _ _ _ (.int (b2i _) :: _) _ _); refine Rp.if_eqB (tgt := 13) dX7_clause_5 (by decide) (fun c5 => ?_) (fun c5 => ?_)) | ((with_reducible show Rp _ _ _ _ (.int (nI _) :: _) _ _); refine Rp.if_eqN (tgt := 13) dX7_clause_5 (by decide) (by omega) (fun c5 => ?_) (fun c5 => ?_)) | refine Rp.if_eq (tgt := 13) dX7_clause_5 (by decide) (fun c5 => ?_) (fun c5 => ?_)
    · skip
      first | (exfalso; omega) | exact absurd c5 (by decide) | exact absurd (by decide) c5
    · skip
      refine Rp.ldcS (k := 0) dX7_clause_8 (by decide) rfl rfl ?_
      refine Rp.goto (tgt := 15) dX7_clause_10 (by decide) ?_
      exact key
end Mcr
