section E7
variable {h : AH} {B : Nat} {ord : Bool} {c v : Nat → Nat} {T : Nat} {w : Nat → Int32}
theorem C_7 (S : ShOK h) (R : RfOK h) (K : EK h B c v T) (E : EO h ord w) {f : Nat} (ih : CIH h B ord c v T w f) {d dep i lv a i' lv' : Nat} {cd : List (Nat × Nat)} {D : DN} {live b : Bool} (hd : dep ≤ 8) (hi : i ≤ T) (hl : lv ≤ 50) (hP : Pst ord c v (Prs ord c v f) 7 dep i lv a = .ok (i', lv', cd, D)) : cR h B w live b d 7 dep i i' D := by
  have hT := K.1
  have hc := K.2.1
  obtain ⟨i1, lv1, cd1, D1, cd2, D2, x1, x2, -, rfl⟩ := seqL_inv hP
  have o1 := Prs_ok (ord := ord) (v := v) hc f 9 dep i lv a (by decide) hi hl
  rw [x1] at o1
  have q1 := ih 9 d dep i lv a i1 lv1 cd1 D1 live b (by decide) hd hi hl x1
  have q2 := fun b => ih 8 d dep i1 lv1 _ i' lv' cd2 D2 live b (by decide) hd o1.2.1 o1.2.2.2.1 x2
  show Rp (d + 8 * (8 - dep) + 5) M_X12_sumOf 0 [some (.ref aM), some (.int (b2i live)), none, none, none, none, none] [] (evH h (nI (B + i)) (b2i b)) (evS live b ((D1 w 0).bind (D2 w)) h (B + i'))
  refine Rp.aload_n dX12_sumOf_0 rfl rfl ?_
  refine Rp.iload_n dX12_sumOf_1 rfl ?_
  refine Rp.callV1 M_X12_termOf (ci := 12) dX12_sumOf_2 mo_X12_termOf lk_X12_295 (by decide) rfl rfl (S _ _ rfl) (Nat.le_of_ble_eq_true rfl) (Nat.le_of_ble_eq_true rfl) (q1) (fun v1 h1 p1 x1 => ?_)
  obtain ⟨x, b1, rfl, rfl, p1⟩ := p1
  try dsimp only [Option.toList, List.cons_append, List.nil_append, List.append]
  refine Rp.lst2 dX12_sumOf_5 (by first | exact nl2_some rfl | exact nl2_none) (by decide) ?_
  exact Rp.mono (fun r h2 p => by obtain ⟨t2, b2, r1, r2, r3⟩ := p; exact ⟨t2, b2, r1, r2, evC_bind p1 r3⟩) (q2 b1 x ((D1 w 0).getD 0) none none none (fun z => (evC_full p1 z).2))
end E7
section E8
variable {h : AH} {B : Nat} {ord : Bool} {c v : Nat → Nat} {T : Nat} {w : Nat → Int32}
theorem C_8 (S : ShOK h) (R : RfOK h) (K : EK h B c v T) (E : EO h ord w) {f : Nat} (ih : CIH h B ord c v T w f) {d dep i lv a i' lv' : Nat} {cd : List (Nat × Nat)} {D : DN} {live b : Bool} (hd : dep ≤ 8) (hi : i ≤ T) (hl : lv ≤ 50) (hP : Pst ord c v (Prs ord c v f) 8 dep i lv a = .ok (i', lv', cd, D)) : cR h B w live b d 8 dep i i' D := by
  have hT := K.1
  have hc := K.2.1
  have hP : (if sOp (c i) = 0 then .ok (i, lv, [], fun _ x => some x) else opL (sOp (c i)) (Prs ord c v f 9 dep (i + 1) lv a) a (Prs ord c v f 8 dep)) = .ok (i', lv', cd, D) := hP
  intro x y l4 l5 l6 hx
  have hci := K.lt hi
  show Rp (d + 8 * (8 - dep) + 5) M_X12_sumOf 6 [some (.ref aM), some (.int (b2i live)), some (.long x), none, l4, l5, l6] [] (evH h (nI (B + i)) (b2i b)) (evS live b (D w y) h (B + i'))
  by_cases hop : sOp (c i) = 0
  · rw [if_pos hop] at hP
    cases hP
    have n1 : c i ≠ 143 := fun z => by rw [z] at hop; exact absurd hop (by decide)
    have n2 : c i ≠ 145 := fun z => by rw [z] at hop; exact absurd hop (by decide)
    refine Rp.aload_n dX12_sumOf_6 rfl rfl ?_
    refine Rp.aload_n dX12_sumOf_7 rfl rfl ?_
    refine Rp.getI dX12_sumOf_8 fk_X12_282 rfl (S _ _ rfl) ?_
    first | rw [ev_g] | skip
    refine Rp.callV1 M_X12_codeAt (ci := 12) dX12_sumOf_11 mo_X12_codeAt lk_X12_285 (by decide) rfl rfl (S _ _ rfl) (Nat.le_of_ble_eq_true rfl) (Nat.le_of_ble_eq_true rfl) (s_codeAt (d + 8 * (8 - dep) + 4) S R K hi _ _) (fun v1 h1 p1 x1 => ?_)
    rw [p1.1, p1.2]
    try dsimp only [Option.toList, List.cons_append, List.nil_append, List.append]
    refine Rp.bipush (nI 43) dX12_sumOf_14 (by decide) ?_
    refine Rp.callS1 M_X12_sign dX12_sumOf_16 mo_X12_sign lk_X12_241 (Nat.le_of_ble_eq_true rfl) (Nat.le_of_ble_eq_true rfl) (s_signN (d + 8 * (8 - dep) + 4) 43) (fun v1 h1 p1 x1 => ?_)
    rw [p1.1, p1.2]
    try dsimp only [Option.toList, List.cons_append, List.nil_append, List.append]
    first | ((with_reducible show Rp _ _ _ _ (.int (nI _) :: .int (nI _) :: _) _ _); refine Rp.icmp_eqN (tgt := 38) dX12_sumOf_19 (by decide) (by omega) (fun c19 => ?_) (fun c19 => ?_)) | refine Rp.icmp_eq (tgt := 38) dX12_sumOf_19 (by decide) (fun c19 => ?_) (fun c19 => ?_)
    · skip
      first | (exfalso; omega) | exact absurd c19 (by decide) | exact absurd (by decide) c19
    · skip
      refine Rp.aload_n dX12_sumOf_22 rfl rfl ?_
      refine Rp.aload_n dX12_sumOf_23 rfl rfl ?_
      refine Rp.getI dX12_sumOf_24 fk_X12_282 rfl (S _ _ rfl) ?_
      first | rw [ev_g] | skip
      refine Rp.callV1 M_X12_codeAt (ci := 12) dX12_sumOf_27 mo_X12_codeAt lk_X12_285 (by decide) rfl rfl (S _ _ rfl) (Nat.le_of_ble_eq_true rfl) (Nat.le_of_ble_eq_true rfl) (s_codeAt (d + 8 * (8 - dep) + 4) S R K hi _ _) (fun v1 h1 p1 x1 => ?_)
      rw [p1.1, p1.2]
      try dsimp only [Option.toList, List.cons_append, List.nil_append, List.append]
      refine Rp.bipush (nI 45) dX12_sumOf_30 (by decide) ?_
      refine Rp.callS1 M_X12_sign dX12_sumOf_32 mo_X12_sign lk_X12_241 (Nat.le_of_ble_eq_true rfl) (Nat.le_of_ble_eq_true rfl) (s_signN (d + 8 * (8 - dep) + 4) 45) (fun v1 h1 p1 x1 => ?_)
      rw [p1.1, p1.2]
      try dsimp only [Option.toList, List.cons_append, List.nil_append, List.append]
      first | ((with_reducible show Rp _ _ _ _ (.int (nI _) :: .int (nI _) :: _) _ _); refine Rp.icmp_neN (tgt := 103) dX12_sumOf_35 (by decide) (by omega) (fun c35 => ?_) (fun c35 => ?_)) | refine Rp.icmp_ne (tgt := 103) dX12_sumOf_35 (by decide) (fun c35 => ?_) (fun c35 => ?_)
      · skip
        refine Rp.lload_n dX12_sumOf_103 rfl ?_
        refine Rp.lreturn dX12_sumOf_104 rfl ?_
        exact evS_some hx
      · skip
        first | (exfalso; omega) | exact absurd c35 (by decide) | exact absurd (by decide) c35
  · rw [if_neg hop] at hP
    have hi1 := lt_of_code hc hi (fun z => by rw [z] at hop; exact hop rfl)
    obtain ⟨i1, lv1, cd1, D1, cd2, D2, x1, x2, -, rfl⟩ := opL_inv hP
    have o1 := Prs_ok (ord := ord) (v := v) hc f 9 dep (i + 1) lv a (by decide) hi1 hl
    rw [x1] at o1
    have q1 := ih 9 d dep (i + 1) lv a i1 lv1 cd1 D1 live b (by decide) hd hi1 hl x1
    have q2 := fun b => ih 8 d dep i1 lv1 _ i' lv' cd2 D2 live b (by decide) hd o1.2.1 o1.2.2.2.1 x2
    have k12 : c i = 143 ∨ c i = 145 := by
      by_cases k1 : c i = 143
      · exact Or.inl k1
      · by_cases k2 : c i = 145
        · exact Or.inr k2
        · exact absurd (by unfold sOp; rw [if_neg k1, if_neg k2]) hop
    rcases k12 with k1 | k1
    · rw [k1] at hop hci ⊢
      have hK := fun g b => s_codeAt (d + 8 * (8 - dep) + 4) S R K hi g b
      rw [k1] at hK
      refine Rp.aload_n dX12_sumOf_6 rfl rfl ?_
      refine Rp.aload_n dX12_sumOf_7 rfl rfl ?_
      refine Rp.getI dX12_sumOf_8 fk_X12_282 rfl (S _ _ rfl) ?_
      first | rw [ev_g] | skip
      refine Rp.callV1 M_X12_codeAt (ci := 12) dX12_sumOf_11 mo_X12_codeAt lk_X12_285 (by decide) rfl rfl (S _ _ rfl) (Nat.le_of_ble_eq_true rfl) (Nat.le_of_ble_eq_true rfl) (hK _ _) (fun v1 h1 p1 x1 => ?_)
      rw [p1.1, p1.2]
      try dsimp only [Option.toList, List.cons_append, List.nil_append, List.append]
      refine Rp.bipush (nI 43) dX12_sumOf_14 (by decide) ?_
      refine Rp.callS1 M_X12_sign dX12_sumOf_16 mo_X12_sign lk_X12_241 (Nat.le_of_ble_eq_true rfl) (Nat.le_of_ble_eq_true rfl) (s_signN (d + 8 * (8 - dep) + 4) 43) (fun v1 h1 p1 x1 => ?_)
      rw [p1.1, p1.2]
      try dsimp only [Option.toList, List.cons_append, List.nil_append, List.append]
      first | ((with_reducible show Rp _ _ _ _ (.int (nI _) :: .int (nI _) :: _) _ _); refine Rp.icmp_eqN (tgt := 38) dX12_sumOf_19 (by decide) (by omega) (fun c19 => ?_) (fun c19 => ?_)) | refine Rp.icmp_eq (tgt := 38) dX12_sumOf_19 (by decide) (fun c19 => ?_) (fun c19 => ?_)
      · skip
        refine Rp.aload_n dX12_sumOf_38 rfl rfl ?_
        refine Rp.aload_n dX12_sumOf_39 rfl rfl ?_
        refine Rp.getI dX12_sumOf_40 fk_X12_282 rfl (S _ _ rfl) ?_
        first | rw [ev_g] | skip
        refine Rp.callV1 M_X12_codeAt (ci := 12) dX12_sumOf_43 mo_X12_codeAt lk_X12_285 (by decide) rfl rfl (S _ _ rfl) (Nat.le_of_ble_eq_true rfl) (Nat.le_of_ble_eq_true rfl) (hK _ _) (fun v1 h1 p1 x1 => ?_)
        rw [p1.1, p1.2]
        try dsimp only [Option.toList, List.cons_append, List.nil_append, List.append]
        refine Rp.bipush (nI 43) dX12_sumOf_46 (by decide) ?_
        refine Rp.callS1 M_X12_sign dX12_sumOf_48 mo_X12_sign lk_X12_241 (Nat.le_of_ble_eq_true rfl) (Nat.le_of_ble_eq_true rfl) (s_signN (d + 8 * (8 - dep) + 4) 43) (fun v1 h1 p1 x1 => ?_)
        rw [p1.1, p1.2]
        try dsimp only [Option.toList, List.cons_append, List.nil_append, List.append]
        first | ((with_reducible show Rp _ _ _ _ (.int (nI _) :: .int (nI _) :: _) _ _); refine Rp.icmp_neN (tgt := 58) dX12_sumOf_51 (by decide) (by omega) (fun c51 => ?_) (fun c51 => ?_)) | refine Rp.icmp_ne (tgt := 58) dX12_sumOf_51 (by decide) (fun c51 => ?_) (fun c51 => ?_)
        · skip
          first | (exfalso; omega) | exact absurd c51 (by decide) | exact absurd (by decide) c51
        · skip
          refine Rp.iconst (nI 1) dX12_sumOf_54 (by decide) ?_
          refine Rp.goto (tgt := 59) dX12_sumOf_55 (by decide) ?_
          refine Rp.ist4 dX12_sumOf_59 (by first | exact nl2_some rfl | exact nl2_none) (by decide) ?_
          refine Rp.aload_n dX12_sumOf_61 rfl rfl ?_
          refine Rp.dup dX12_sumOf_62 rfl ?_
          refine Rp.getI dX12_sumOf_63 fk_X12_282 rfl (S _ _ rfl) ?_
          first | rw [ev_g] | skip
          refine Rp.iconst (nI 1) dX12_sumOf_66 (by decide) ?_
          first | ((with_reducible show Rp _ _ _ _ (.int (nI _) :: .int (nI _) :: _) _ _); refine Rp.iaddN dX12_sumOf_67 ?_) | refine Rp.iadd dX12_sumOf_67 ?_
          refine Rp.putI dX12_sumOf_68 fk_X12_282w rfl (S _ _ rfl) ?_
          first | rw [ev_sg] | skip
          refine Rp.aload_n dX12_sumOf_71 rfl rfl ?_
          refine Rp.iload_n dX12_sumOf_72 rfl ?_
          refine Rp.callV1 M_X12_termOf (ci := 12) dX12_sumOf_73 mo_X12_termOf lk_X12_295 (by decide) rfl rfl (S _ _ rfl) (Nat.le_of_ble_eq_true rfl) (Nat.le_of_ble_eq_true rfl) (q1) (fun v1 h1 p1 x1 => ?_)
          obtain ⟨Z, b1, rfl, rfl, p1⟩ := p1
          have p0 := p1
          try dsimp only [Option.toList, List.cons_append, List.nil_append, List.append]
          refine Rp.lst5 dX12_sumOf_76 (by first | exact nl2_some rfl | exact nl2_none) (by decide) ?_
          refine Rp.aload_n dX12_sumOf_78 rfl rfl ?_
          refine Rp.iload dX12_sumOf_79 rfl ?_
          first | ((with_reducible show Rp _ _ _ _ (.int (b2i _) :: _) _ _); refine Rp.if_eqB (tgt := 91) dX12_sumOf_81 (by decide) (fun c81 => ?_) (fun c81 => ?_)) | ((with_reducible show Rp _ _ _ _ (.int (nI _) :: _) _ _); refine Rp.if_eqN (tgt := 91) dX12_sumOf_81 (by decide) (by omega) (fun c81 => ?_) (fun c81 => ?_)) | refine Rp.if_eq (tgt := 91) dX12_sumOf_81 (by decide) (fun c81 => ?_) (fun c81 => ?_)
          · skip
            first | (exfalso; omega) | exact absurd c81 (by decide) | exact absurd (by decide) c81
          · skip
            refine Rp.lload_n dX12_sumOf_84 rfl ?_
            refine Rp.lload dX12_sumOf_85 rfl ?_
            refine Rp.ladd dX12_sumOf_87 ?_
            refine Rp.goto (tgt := 95) dX12_sumOf_88 (by decide) ?_
            refine Rp.iload_n dX12_sumOf_95 rfl ?_
            refine Rp.callV2 M_X12_bounded (ci := 12) dX12_sumOf_96 mo_X12_bounded lk_X12_299 (by decide) rfl rfl (S _ _ rfl) (Nat.le_of_ble_eq_true rfl) (Nat.le_of_ble_eq_true rfl) (s_bound (d + 8 * (8 - dep) + 4) S R live b1 (B + i1) (x + Z) (y + (D1 w 0).getD 0) (fun z => by obtain ⟨e0, e1, e2, e3⟩ := evC_full p0 z; obtain ⟨f1, f2, f3⟩ := hx ⟨z.1, e0⟩; refine ⟨?_, by omega, by omega⟩; rw [f1, e1, Int64.ofInt_add])) (fun v1 h1 p1 x1 => ?_)
            obtain ⟨X, b2, rfl, rfl, p2⟩ := p1
            try dsimp only [Option.toList, List.cons_append, List.nil_append, List.append]
            refine Rp.lst2 dX12_sumOf_99 (by first | exact nl2_some rfl | exact nl2_none) (by decide) ?_
            refine Rp.goto (tgt := 6) dX12_sumOf_100 (by decide) ?_
            exact Rp.mono (fun r h2 p => by obtain ⟨t2, b3, r1, r2, r3⟩ := p; refine ⟨t2, b3, r1, r2, ?_⟩; exact evC_bind (evC_bind (D2 := fun z => arO 9 y z) p0 p2) r3) (q2 b2 X _ _ _ _ (fun z => by have q := evC_full (evC_bind (D2 := fun z => arO 9 y z) p0 p2) z; exact q.2))
      · skip
        first | (exfalso; omega) | exact absurd c19 (by decide) | exact absurd (by decide) c19
    · rw [k1] at hop hci ⊢
      have hK := fun g b => s_codeAt (d + 8 * (8 - dep) + 4) S R K hi g b
      rw [k1] at hK
      refine Rp.aload_n dX12_sumOf_6 rfl rfl ?_
      refine Rp.aload_n dX12_sumOf_7 rfl rfl ?_
      refine Rp.getI dX12_sumOf_8 fk_X12_282 rfl (S _ _ rfl) ?_
      first | rw [ev_g] | skip
      refine Rp.callV1 M_X12_codeAt (ci := 12) dX12_sumOf_11 mo_X12_codeAt lk_X12_285 (by decide) rfl rfl (S _ _ rfl) (Nat.le_of_ble_eq_true rfl) (Nat.le_of_ble_eq_true rfl) (hK _ _) (fun v1 h1 p1 x1 => ?_)
      rw [p1.1, p1.2]
      try dsimp only [Option.toList, List.cons_append, List.nil_append, List.append]
      refine Rp.bipush (nI 43) dX12_sumOf_14 (by decide) ?_
      refine Rp.callS1 M_X12_sign dX12_sumOf_16 mo_X12_sign lk_X12_241 (Nat.le_of_ble_eq_true rfl) (Nat.le_of_ble_eq_true rfl) (s_signN (d + 8 * (8 - dep) + 4) 43) (fun v1 h1 p1 x1 => ?_)
      rw [p1.1, p1.2]
      try dsimp only [Option.toList, List.cons_append, List.nil_append, List.append]
      first | ((with_reducible show Rp _ _ _ _ (.int (nI _) :: .int (nI _) :: _) _ _); refine Rp.icmp_eqN (tgt := 38) dX12_sumOf_19 (by decide) (by omega) (fun c19 => ?_) (fun c19 => ?_)) | refine Rp.icmp_eq (tgt := 38) dX12_sumOf_19 (by decide) (fun c19 => ?_) (fun c19 => ?_)
      · skip
        first | (exfalso; omega) | exact absurd c19 (by decide) | exact absurd (by decide) c19
      · skip
        refine Rp.aload_n dX12_sumOf_22 rfl rfl ?_
        refine Rp.aload_n dX12_sumOf_23 rfl rfl ?_
        refine Rp.getI dX12_sumOf_24 fk_X12_282 rfl (S _ _ rfl) ?_
        first | rw [ev_g] | skip
        refine Rp.callV1 M_X12_codeAt (ci := 12) dX12_sumOf_27 mo_X12_codeAt lk_X12_285 (by decide) rfl rfl (S _ _ rfl) (Nat.le_of_ble_eq_true rfl) (Nat.le_of_ble_eq_true rfl) (hK _ _) (fun v1 h1 p1 x1 => ?_)
        rw [p1.1, p1.2]
        try dsimp only [Option.toList, List.cons_append, List.nil_append, List.append]
        refine Rp.bipush (nI 45) dX12_sumOf_30 (by decide) ?_
        refine Rp.callS1 M_X12_sign dX12_sumOf_32 mo_X12_sign lk_X12_241 (Nat.le_of_ble_eq_true rfl) (Nat.le_of_ble_eq_true rfl) (s_signN (d + 8 * (8 - dep) + 4) 45) (fun v1 h1 p1 x1 => ?_)
        rw [p1.1, p1.2]
        try dsimp only [Option.toList, List.cons_append, List.nil_append, List.append]
        first | ((with_reducible show Rp _ _ _ _ (.int (nI _) :: .int (nI _) :: _) _ _); refine Rp.icmp_neN (tgt := 103) dX12_sumOf_35 (by decide) (by omega) (fun c35 => ?_) (fun c35 => ?_)) | refine Rp.icmp_ne (tgt := 103) dX12_sumOf_35 (by decide) (fun c35 => ?_) (fun c35 => ?_)
        · skip
          first | (exfalso; omega) | exact absurd c35 (by decide) | exact absurd (by decide) c35
        · skip
          refine Rp.aload_n dX12_sumOf_38 rfl rfl ?_
          refine Rp.aload_n dX12_sumOf_39 rfl rfl ?_
          refine Rp.getI dX12_sumOf_40 fk_X12_282 rfl (S _ _ rfl) ?_
          first | rw [ev_g] | skip
          refine Rp.callV1 M_X12_codeAt (ci := 12) dX12_sumOf_43 mo_X12_codeAt lk_X12_285 (by decide) rfl rfl (S _ _ rfl) (Nat.le_of_ble_eq_true rfl) (Nat.le_of_ble_eq_true rfl) (hK _ _) (fun v1 h1 p1 x1 => ?_)
          rw [p1.1, p1.2]
          try dsimp only [Option.toList, List.cons_append, List.nil_append, List.append]
          refine Rp.bipush (nI 43) dX12_sumOf_46 (by decide) ?_
          refine Rp.callS1 M_X12_sign dX12_sumOf_48 mo_X12_sign lk_X12_241 (Nat.le_of_ble_eq_true rfl) (Nat.le_of_ble_eq_true rfl) (s_signN (d + 8 * (8 - dep) + 4) 43) (fun v1 h1 p1 x1 => ?_)
          rw [p1.1, p1.2]
          try dsimp only [Option.toList, List.cons_append, List.nil_append, List.append]
          first | ((with_reducible show Rp _ _ _ _ (.int (nI _) :: .int (nI _) :: _) _ _); refine Rp.icmp_neN (tgt := 58) dX12_sumOf_51 (by decide) (by omega) (fun c51 => ?_) (fun c51 => ?_)) | refine Rp.icmp_ne (tgt := 58) dX12_sumOf_51 (by decide) (fun c51 => ?_) (fun c51 => ?_)
          · skip
            refine Rp.iconst (nI 0) dX12_sumOf_58 (by decide) ?_
            refine Rp.ist4 dX12_sumOf_59 (by first | exact nl2_some rfl | exact nl2_none) (by decide) ?_
            refine Rp.aload_n dX12_sumOf_61 rfl rfl ?_
            refine Rp.dup dX12_sumOf_62 rfl ?_
            refine Rp.getI dX12_sumOf_63 fk_X12_282 rfl (S _ _ rfl) ?_
            first | rw [ev_g] | skip
            refine Rp.iconst (nI 1) dX12_sumOf_66 (by decide) ?_
            first | ((with_reducible show Rp _ _ _ _ (.int (nI _) :: .int (nI _) :: _) _ _); refine Rp.iaddN dX12_sumOf_67 ?_) | refine Rp.iadd dX12_sumOf_67 ?_
            refine Rp.putI dX12_sumOf_68 fk_X12_282w rfl (S _ _ rfl) ?_
            first | rw [ev_sg] | skip
            refine Rp.aload_n dX12_sumOf_71 rfl rfl ?_
            refine Rp.iload_n dX12_sumOf_72 rfl ?_
            refine Rp.callV1 M_X12_termOf (ci := 12) dX12_sumOf_73 mo_X12_termOf lk_X12_295 (by decide) rfl rfl (S _ _ rfl) (Nat.le_of_ble_eq_true rfl) (Nat.le_of_ble_eq_true rfl) (q1) (fun v1 h1 p1 x1 => ?_)
            obtain ⟨Z, b1, rfl, rfl, p1⟩ := p1
            have p0 := p1
            try dsimp only [Option.toList, List.cons_append, List.nil_append, List.append]
            refine Rp.lst5 dX12_sumOf_76 (by first | exact nl2_some rfl | exact nl2_none) (by decide) ?_
            refine Rp.aload_n dX12_sumOf_78 rfl rfl ?_
            refine Rp.iload dX12_sumOf_79 rfl ?_
            first | ((with_reducible show Rp _ _ _ _ (.int (b2i _) :: _) _ _); refine Rp.if_eqB (tgt := 91) dX12_sumOf_81 (by decide) (fun c81 => ?_) (fun c81 => ?_)) | ((with_reducible show Rp _ _ _ _ (.int (nI _) :: _) _ _); refine Rp.if_eqN (tgt := 91) dX12_sumOf_81 (by decide) (by omega) (fun c81 => ?_) (fun c81 => ?_)) | refine Rp.if_eq (tgt := 91) dX12_sumOf_81 (by decide) (fun c81 => ?_) (fun c81 => ?_)
            · skip
              refine Rp.lload_n dX12_sumOf_91 rfl ?_
              refine Rp.lload dX12_sumOf_92 rfl ?_
              refine Rp.lsub dX12_sumOf_94 ?_
              refine Rp.iload_n dX12_sumOf_95 rfl ?_
              refine Rp.callV2 M_X12_bounded (ci := 12) dX12_sumOf_96 mo_X12_bounded lk_X12_299 (by decide) rfl rfl (S _ _ rfl) (Nat.le_of_ble_eq_true rfl) (Nat.le_of_ble_eq_true rfl) (s_bound (d + 8 * (8 - dep) + 4) S R live b1 (B + i1) (x - Z) (y - (D1 w 0).getD 0) (fun z => by obtain ⟨e0, e1, e2, e3⟩ := evC_full p0 z; obtain ⟨f1, f2, f3⟩ := hx ⟨z.1, e0⟩; refine ⟨?_, by omega, by omega⟩; rw [f1, e1, Int64.ofInt_sub])) (fun v1 h1 p1 x1 => ?_)
              obtain ⟨X, b2, rfl, rfl, p2⟩ := p1
              try dsimp only [Option.toList, List.cons_append, List.nil_append, List.append]
              refine Rp.lst2 dX12_sumOf_99 (by first | exact nl2_some rfl | exact nl2_none) (by decide) ?_
              refine Rp.goto (tgt := 6) dX12_sumOf_100 (by decide) ?_
              exact Rp.mono (fun r h2 p => by obtain ⟨t2, b3, r1, r2, r3⟩ := p; refine ⟨t2, b3, r1, r2, ?_⟩; exact evC_bind (evC_bind (D2 := fun z => arO 10 y z) p0 p2) r3) (q2 b2 X _ _ _ _ (fun z => by have q := evC_full (evC_bind (D2 := fun z => arO 10 y z) p0 p2) z; exact q.2))
            · skip
              first | (exfalso; omega) | exact absurd c81 (by decide) | exact absurd (by decide) c81
          · skip
            first | (exfalso; omega) | exact absurd c51 (by decide) | exact absurd (by decide) c51
end E8
section E9
variable {h : AH} {B : Nat} {ord : Bool} {c v : Nat → Nat} {T : Nat} {w : Nat → Int32}
theorem C_9 (S : ShOK h) (R : RfOK h) (K : EK h B c v T) (E : EO h ord w) {f : Nat} (ih : CIH h B ord c v T w f) {d dep i lv a i' lv' : Nat} {cd : List (Nat × Nat)} {D : DN} {live b : Bool} (hd : dep ≤ 8) (hi : i ≤ T) (hl : lv ≤ 50) (hP : Pst ord c v (Prs ord c v f) 9 dep i lv a = .ok (i', lv', cd, D)) : cR h B w live b d 9 dep i i' D := by
  have hT := K.1
  have hc := K.2.1
  obtain ⟨i1, lv1, cd1, D1, cd2, D2, x1, x2, -, rfl⟩ := seqL_inv hP
  have o1 := Prs_ok (ord := ord) (v := v) hc f 11 dep i lv a (by decide) hi hl
  rw [x1] at o1
  have q1 := ih 11 d dep i lv a i1 lv1 cd1 D1 live b (by decide) hd hi hl x1
  have q2 := fun b => ih 10 d dep i1 lv1 _ i' lv' cd2 D2 live b (by decide) hd o1.2.1 o1.2.2.2.1 x2
  show Rp (d + 8 * (8 - dep) + 4) M_X12_termOf 0 [some (.ref aM), some (.int (b2i live)), none, none, none, none, none] [] (evH h (nI (B + i)) (b2i b)) (evS live b ((D1 w 0).bind (D2 w)) h (B + i'))
  refine Rp.aload_n dX12_termOf_0 rfl rfl ?_
  refine Rp.iload_n dX12_termOf_1 rfl ?_
  refine Rp.callV1 M_X12_partOf (ci := 12) dX12_termOf_2 mo_X12_partOf lk_X12_303 (by decide) rfl rfl (S _ _ rfl) (Nat.le_of_ble_eq_true rfl) (Nat.le_of_ble_eq_true rfl) (q1) (fun v1 h1 p1 x1 => ?_)
  obtain ⟨x, b1, rfl, rfl, p1⟩ := p1
  try dsimp only [Option.toList, List.cons_append, List.nil_append, List.append]
  refine Rp.lst2 dX12_termOf_5 (by first | exact nl2_some rfl | exact nl2_none) (by decide) ?_
  exact Rp.mono (fun r h2 p => by obtain ⟨t2, b2, r1, r2, r3⟩ := p; exact ⟨t2, b2, r1, r2, evC_bind p1 r3⟩) (q2 b1 x ((D1 w 0).getD 0) none none none (fun z => (evC_full p1 z).2))
end E9
