section E10
variable {h : AH} {B : Nat} {ord : Bool} {c v : Nat → Nat} {T : Nat} {w : Nat → Int32}
theorem C_10 (S : ShOK h) (R : RfOK h) (K : EK h B c v T) (E : EO h ord w) {f : Nat} (ih : CIH h B ord c v T w f) {d dep i lv a i' lv' : Nat} {cd : List (Nat × Nat)} {D : DN} {live b : Bool} (hd : dep ≤ 8) (hi : i ≤ T) (hl : lv ≤ 50) (hP : Pst ord c v (Prs ord c v f) 10 dep i lv a = .ok (i', lv', cd, D)) : cR h B w live b d 10 dep i i' D := by
  have hT := K.1
  have hc := K.2.1
  have hP : (if tOp (c i) = 0 then .ok (i, lv, [], fun _ x => some x) else opL (tOp (c i)) (Prs ord c v f 11 dep (i + 1) lv a) a (Prs ord c v f 10 dep)) = .ok (i', lv', cd, D) := hP
  intro x y l4 l5 l6 hx
  have hci := K.lt hi
  show Rp (d + 8 * (8 - dep) + 4) M_X12_termOf 6 [some (.ref aM), some (.int (b2i live)), some (.long x), none, l4, l5, l6] [] (evH h (nI (B + i)) (b2i b)) (evS live b (D w y) h (B + i'))
  by_cases hop : tOp (c i) = 0
  · rw [if_pos hop] at hP
    cases hP
    have n1 : c i ≠ 142 := fun z => by rw [z] at hop; exact absurd hop (by decide)
    have n2 : c i ≠ 147 := fun z => by rw [z] at hop; exact absurd hop (by decide)
    have n3 : c i ≠ 137 := fun z => by rw [z] at hop; exact absurd hop (by decide)
    refine Rp.aload_n dX12_termOf_6 rfl rfl ?_
    refine Rp.aload_n dX12_termOf_7 rfl rfl ?_
    refine Rp.getI dX12_termOf_8 fk_X12_282 rfl (S _ _ rfl) ?_
    first | rw [ev_g] | skip
    refine Rp.callV1 M_X12_codeAt (ci := 12) dX12_termOf_11 mo_X12_codeAt lk_X12_285 (by decide) rfl rfl (S _ _ rfl) (Nat.le_of_ble_eq_true rfl) (Nat.le_of_ble_eq_true rfl) (s_codeAt (d + 8 * (8 - dep) + 3) S R K hi _ _) (fun v1 h1 p1 x1 => ?_)
    rw [p1.1, p1.2]
    try dsimp only [Option.toList, List.cons_append, List.nil_append, List.append]
    refine Rp.bipush (nI 42) dX12_termOf_14 (by decide) ?_
    refine Rp.callS1 M_X12_sign dX12_termOf_16 mo_X12_sign lk_X12_241 (Nat.le_of_ble_eq_true rfl) (Nat.le_of_ble_eq_true rfl) (s_signN (d + 8 * (8 - dep) + 3) 42) (fun v1 h1 p1 x1 => ?_)
    rw [p1.1, p1.2]
    try dsimp only [Option.toList, List.cons_append, List.nil_append, List.append]
    first | ((with_reducible show Rp _ _ _ _ (.int (nI _) :: .int (nI _) :: _) _ _); refine Rp.icmp_eqN (tgt := 54) dX12_termOf_19 (by decide) (by omega) (fun c19 => ?_) (fun c19 => ?_)) | refine Rp.icmp_eq (tgt := 54) dX12_termOf_19 (by decide) (fun c19 => ?_) (fun c19 => ?_)
    · skip
      first | (exfalso; omega) | exact absurd c19 (by decide) | exact absurd (by decide) c19
    · skip
      refine Rp.aload_n dX12_termOf_22 rfl rfl ?_
      refine Rp.aload_n dX12_termOf_23 rfl rfl ?_
      refine Rp.getI dX12_termOf_24 fk_X12_282 rfl (S _ _ rfl) ?_
      first | rw [ev_g] | skip
      refine Rp.callV1 M_X12_codeAt (ci := 12) dX12_termOf_27 mo_X12_codeAt lk_X12_285 (by decide) rfl rfl (S _ _ rfl) (Nat.le_of_ble_eq_true rfl) (Nat.le_of_ble_eq_true rfl) (s_codeAt (d + 8 * (8 - dep) + 3) S R K hi _ _) (fun v1 h1 p1 x1 => ?_)
      rw [p1.1, p1.2]
      try dsimp only [Option.toList, List.cons_append, List.nil_append, List.append]
      refine Rp.bipush (nI 47) dX12_termOf_30 (by decide) ?_
      refine Rp.callS1 M_X12_sign dX12_termOf_32 mo_X12_sign lk_X12_241 (Nat.le_of_ble_eq_true rfl) (Nat.le_of_ble_eq_true rfl) (s_signN (d + 8 * (8 - dep) + 3) 47) (fun v1 h1 p1 x1 => ?_)
      rw [p1.1, p1.2]
      try dsimp only [Option.toList, List.cons_append, List.nil_append, List.append]
      first | ((with_reducible show Rp _ _ _ _ (.int (nI _) :: .int (nI _) :: _) _ _); refine Rp.icmp_eqN (tgt := 54) dX12_termOf_35 (by decide) (by omega) (fun c35 => ?_) (fun c35 => ?_)) | refine Rp.icmp_eq (tgt := 54) dX12_termOf_35 (by decide) (fun c35 => ?_) (fun c35 => ?_)
      · skip
        first | (exfalso; omega) | exact absurd c35 (by decide) | exact absurd (by decide) c35
      · skip
        refine Rp.aload_n dX12_termOf_38 rfl rfl ?_
        refine Rp.aload_n dX12_termOf_39 rfl rfl ?_
        refine Rp.getI dX12_termOf_40 fk_X12_282 rfl (S _ _ rfl) ?_
        first | rw [ev_g] | skip
        refine Rp.callV1 M_X12_codeAt (ci := 12) dX12_termOf_43 mo_X12_codeAt lk_X12_285 (by decide) rfl rfl (S _ _ rfl) (Nat.le_of_ble_eq_true rfl) (Nat.le_of_ble_eq_true rfl) (s_codeAt (d + 8 * (8 - dep) + 3) S R K hi _ _) (fun v1 h1 p1 x1 => ?_)
        rw [p1.1, p1.2]
        try dsimp only [Option.toList, List.cons_append, List.nil_append, List.append]
        refine Rp.bipush (nI 37) dX12_termOf_46 (by decide) ?_
        refine Rp.callS1 M_X12_sign dX12_termOf_48 mo_X12_sign lk_X12_241 (Nat.le_of_ble_eq_true rfl) (Nat.le_of_ble_eq_true rfl) (s_signN (d + 8 * (8 - dep) + 3) 37) (fun v1 h1 p1 x1 => ?_)
        rw [p1.1, p1.2]
        try dsimp only [Option.toList, List.cons_append, List.nil_append, List.append]
        first | ((with_reducible show Rp _ _ _ _ (.int (nI _) :: .int (nI _) :: _) _ _); refine Rp.icmp_neN (tgt := 168) dX12_termOf_51 (by decide) (by omega) (fun c51 => ?_) (fun c51 => ?_)) | refine Rp.icmp_ne (tgt := 168) dX12_termOf_51 (by decide) (fun c51 => ?_) (fun c51 => ?_)
        · skip
          refine Rp.lload_n dX12_termOf_168 rfl ?_
          refine Rp.lreturn dX12_termOf_169 rfl ?_
          exact evS_some hx
        · skip
          first | (exfalso; omega) | exact absurd c51 (by decide) | exact absurd (by decide) c51
  · rw [if_neg hop] at hP
    have hi1 := lt_of_code hc hi (fun z => by rw [z] at hop; exact hop rfl)
    obtain ⟨i1, lv1, cd1, D1, cd2, D2, x1, x2, -, rfl⟩ := opL_inv hP
    have o1 := Prs_ok (ord := ord) (v := v) hc f 11 dep (i + 1) lv a (by decide) hi1 hl
    rw [x1] at o1
    have q1 := ih 11 d dep (i + 1) lv a i1 lv1 cd1 D1 live b (by decide) hd hi1 hl x1
    have q2 := fun b => ih 10 d dep i1 lv1 _ i' lv' cd2 D2 live b (by decide) hd o1.2.1 o1.2.2.2.1 x2
    have k12 : c i = 142 ∨ c i = 147 ∨ c i = 137 := by
      by_cases k1 : c i = 142
      · exact Or.inl k1
      · by_cases k2 : c i = 147
        · exact Or.inr (Or.inl k2)
        · by_cases k3 : c i = 137
          · exact Or.inr (Or.inr k3)
          · exact absurd (by unfold tOp; rw [if_neg k1, if_neg k2, if_neg k3]) hop
    rcases k12 with k1 | k1 | k1
    · rw [k1] at hop hci ⊢
      have hK := fun g b => s_codeAt (d + 8 * (8 - dep) + 3) S R K hi g b
      rw [k1] at hK
      refine Rp.aload_n dX12_termOf_6 rfl rfl ?_
      refine Rp.aload_n dX12_termOf_7 rfl rfl ?_
      refine Rp.getI dX12_termOf_8 fk_X12_282 rfl (S _ _ rfl) ?_
      first | rw [ev_g] | skip
      refine Rp.callV1 M_X12_codeAt (ci := 12) dX12_termOf_11 mo_X12_codeAt lk_X12_285 (by decide) rfl rfl (S _ _ rfl) (Nat.le_of_ble_eq_true rfl) (Nat.le_of_ble_eq_true rfl) (hK _ _) (fun v1 h1 p1 x1 => ?_)
      rw [p1.1, p1.2]
      try dsimp only [Option.toList, List.cons_append, List.nil_append, List.append]
      refine Rp.bipush (nI 42) dX12_termOf_14 (by decide) ?_
      refine Rp.callS1 M_X12_sign dX12_termOf_16 mo_X12_sign lk_X12_241 (Nat.le_of_ble_eq_true rfl) (Nat.le_of_ble_eq_true rfl) (s_signN (d + 8 * (8 - dep) + 3) 42) (fun v1 h1 p1 x1 => ?_)
      rw [p1.1, p1.2]
      try dsimp only [Option.toList, List.cons_append, List.nil_append, List.append]
      first | ((with_reducible show Rp _ _ _ _ (.int (nI _) :: .int (nI _) :: _) _ _); refine Rp.icmp_eqN (tgt := 54) dX12_termOf_19 (by decide) (by omega) (fun c19 => ?_) (fun c19 => ?_)) | refine Rp.icmp_eq (tgt := 54) dX12_termOf_19 (by decide) (fun c19 => ?_) (fun c19 => ?_)
      · skip
        refine Rp.aload_n dX12_termOf_54 rfl rfl ?_
        refine Rp.aload_n dX12_termOf_55 rfl rfl ?_
        refine Rp.getI dX12_termOf_56 fk_X12_282 rfl (S _ _ rfl) ?_
        first | rw [ev_g] | skip
        refine Rp.callV1 M_X12_codeAt (ci := 12) dX12_termOf_59 mo_X12_codeAt lk_X12_285 (by decide) rfl rfl (S _ _ rfl) (Nat.le_of_ble_eq_true rfl) (Nat.le_of_ble_eq_true rfl) (hK _ _) (fun v1 h1 p1 x1 => ?_)
        rw [p1.1, p1.2]
        try dsimp only [Option.toList, List.cons_append, List.nil_append, List.append]
        refine Rp.ist4 dX12_termOf_62 (by first | exact nl2_some rfl | exact nl2_none) (by decide) ?_
        refine Rp.aload_n dX12_termOf_64 rfl rfl ?_
        refine Rp.dup dX12_termOf_65 rfl ?_
        refine Rp.getI dX12_termOf_66 fk_X12_282 rfl (S _ _ rfl) ?_
        first | rw [ev_g] | skip
        refine Rp.iconst (nI 1) dX12_termOf_69 (by decide) ?_
        first | ((with_reducible show Rp _ _ _ _ (.int (nI _) :: .int (nI _) :: _) _ _); refine Rp.iaddN dX12_termOf_70 ?_) | refine Rp.iadd dX12_termOf_70 ?_
        refine Rp.putI dX12_termOf_71 fk_X12_282w rfl (S _ _ rfl) ?_
        first | rw [ev_sg] | skip
        refine Rp.aload_n dX12_termOf_74 rfl rfl ?_
        refine Rp.iload_n dX12_termOf_75 rfl ?_
        refine Rp.callV1 M_X12_partOf (ci := 12) dX12_termOf_76 mo_X12_partOf lk_X12_303 (by decide) rfl rfl (S _ _ rfl) (Nat.le_of_ble_eq_true rfl) (Nat.le_of_ble_eq_true rfl) (q1) (fun v1 h1 p1 x1 => ?_)
        obtain ⟨Z, b1, rfl, rfl, p1⟩ := p1
        have p0 := p1
        try dsimp only [Option.toList, List.cons_append, List.nil_append, List.append]
        refine Rp.lst5 dX12_termOf_79 (by first | exact nl2_some rfl | exact nl2_none) (by decide) ?_
        refine Rp.iload dX12_termOf_81 rfl ?_
        refine Rp.bipush (nI 42) dX12_termOf_83 (by decide) ?_
        refine Rp.callS1 M_X12_sign dX12_termOf_85 mo_X12_sign lk_X12_241 (Nat.le_of_ble_eq_true rfl) (Nat.le_of_ble_eq_true rfl) (s_signN (d + 8 * (8 - dep) + 3) 42) (fun v1 h1 p1 x1 => ?_)
        rw [p1.1, p1.2]
        try dsimp only [Option.toList, List.cons_append, List.nil_append, List.append]
        first | ((with_reducible show Rp _ _ _ _ (.int (nI _) :: .int (nI _) :: _) _ _); refine Rp.icmp_eqN (tgt := 121) dX12_termOf_88 (by decide) (by omega) (fun c88 => ?_) (fun c88 => ?_)) | refine Rp.icmp_eq (tgt := 121) dX12_termOf_88 (by decide) (fun c88 => ?_) (fun c88 => ?_)
        · skip
          refine Rp.aload_n dX12_termOf_121 rfl rfl ?_
          refine Rp.iload dX12_termOf_122 rfl ?_
          refine Rp.bipush (nI 42) dX12_termOf_124 (by decide) ?_
          refine Rp.callS1 M_X12_sign dX12_termOf_126 mo_X12_sign lk_X12_241 (Nat.le_of_ble_eq_true rfl) (Nat.le_of_ble_eq_true rfl) (s_signN (d + 8 * (8 - dep) + 3) 42) (fun v1 h1 p1 x1 => ?_)
          rw [p1.1, p1.2]
          try dsimp only [Option.toList, List.cons_append, List.nil_append, List.append]
          first | ((with_reducible show Rp _ _ _ _ (.int (nI _) :: .int (nI _) :: _) _ _); refine Rp.icmp_neN (tgt := 139) dX12_termOf_129 (by decide) (by omega) (fun c129 => ?_) (fun c129 => ?_)) | refine Rp.icmp_ne (tgt := 139) dX12_termOf_129 (by decide) (fun c129 => ?_) (fun c129 => ?_)
          · skip
            first | (exfalso; omega) | exact absurd c129 (by decide) | exact absurd (by decide) c129
          · skip
            refine Rp.lload_n dX12_termOf_132 rfl ?_
            refine Rp.lload dX12_termOf_133 rfl ?_
            refine Rp.lmul dX12_termOf_135 ?_
            refine Rp.goto (tgt := 160) dX12_termOf_136 (by decide) ?_
            refine Rp.iload_n dX12_termOf_160 rfl ?_
            refine Rp.callV2 M_X12_bounded (ci := 12) dX12_termOf_161 mo_X12_bounded lk_X12_299 (by decide) rfl rfl (S _ _ rfl) (Nat.le_of_ble_eq_true rfl) (Nat.le_of_ble_eq_true rfl) (s_bound (d + 8 * (8 - dep) + 3) S R live b1 (B + i1) (x * Z) (y * (D1 w 0).getD 0) (fun z => by obtain ⟨e0, e1, e2, e3⟩ := evC_full p0 z; obtain ⟨f1, f2, f3⟩ := hx ⟨z.1, e0⟩; refine ⟨?_, (mul_bnd f2 f3 e2 e3).1, (mul_bnd f2 f3 e2 e3).2⟩; rw [f1, e1, Int64.ofInt_mul])) (fun v1 h1 p1 x1 => ?_)
            obtain ⟨X, b2, rfl, rfl, p2⟩ := p1
            try dsimp only [Option.toList, List.cons_append, List.nil_append, List.append]
            refine Rp.lst2 dX12_termOf_164 (by first | exact nl2_some rfl | exact nl2_none) (by decide) ?_
            refine Rp.goto (tgt := 6) dX12_termOf_165 (by decide) ?_
            exact Rp.mono (fun r h2 p => by obtain ⟨t2, b3, r1, r2, r3⟩ := p; refine ⟨t2, b3, r1, r2, ?_⟩; exact evC_bind (evC_bind (D2 := fun z => arO 11 y z) p0 p2) r3) (q2 b2 X _ _ _ _ (fun z => by have q := evC_full (evC_bind (D2 := fun z => arO 11 y z) p0 p2) z; exact q.2))
        · skip
          first | (exfalso; omega) | exact absurd c88 (by decide) | exact absurd (by decide) c88
      · skip
        first | (exfalso; omega) | exact absurd c19 (by decide) | exact absurd (by decide) c19
    · rw [k1] at hop hci ⊢
      have hK := fun g b => s_codeAt (d + 8 * (8 - dep) + 3) S R K hi g b
      rw [k1] at hK
      have k121 : ∀ (Z : Int64) (zz : Int) (b1 : Bool) (hz : ¬ Z = 0) (hbb : live = true ∧ b1 = false → b = false ∧ ¬ zz = 0 ∧ Z = Int64.ofInt zz ∧ -1000000000 ≤ zz ∧ zz ≤ 1000000000), Rp (d + 8 * (8 - dep) + 4) M_X12_termOf 121 [some (.ref aM), some (.int (b2i live)), some (.long x), none, some (.int (nI 147)), some (.long Z), none] [] (evH h (nI (B + i1)) (b2i b1)) (evS live b1 ((arO 12 y zz).bind (D2 w)) h (B + i')) := by
        intro Z zz b1 hz hbb
        refine Rp.aload_n dX12_termOf_121 rfl rfl ?_
        refine Rp.iload dX12_termOf_122 rfl ?_
        refine Rp.bipush (nI 42) dX12_termOf_124 (by decide) ?_
        refine Rp.callS1 M_X12_sign dX12_termOf_126 mo_X12_sign lk_X12_241 (Nat.le_of_ble_eq_true rfl) (Nat.le_of_ble_eq_true rfl) (s_signN (d + 8 * (8 - dep) + 3) 42) (fun v1 h1 p1 x1 => ?_)
        rw [p1.1, p1.2]
        try dsimp only [Option.toList, List.cons_append, List.nil_append, List.append]
        first | ((with_reducible show Rp _ _ _ _ (.int (nI _) :: .int (nI _) :: _) _ _); refine Rp.icmp_neN (tgt := 139) dX12_termOf_129 (by decide) (by omega) (fun c129 => ?_) (fun c129 => ?_)) | refine Rp.icmp_ne (tgt := 139) dX12_termOf_129 (by decide) (fun c129 => ?_) (fun c129 => ?_)
        rotate_left
        · first | (exfalso; omega) | exact absurd c129 (by decide) | exact absurd (by decide) c129
        refine Rp.iload dX12_termOf_139 rfl ?_
        refine Rp.bipush (nI 47) dX12_termOf_141 (by decide) ?_
        refine Rp.callS1 M_X12_sign dX12_termOf_143 mo_X12_sign lk_X12_241 (Nat.le_of_ble_eq_true rfl) (Nat.le_of_ble_eq_true rfl) (s_signN (d + 8 * (8 - dep) + 3) 47) (fun v1 h1 p1 x1 => ?_)
        rw [p1.1, p1.2]
        try dsimp only [Option.toList, List.cons_append, List.nil_append, List.append]
        first | ((with_reducible show Rp _ _ _ _ (.int (nI _) :: .int (nI _) :: _) _ _); refine Rp.icmp_neN (tgt := 156) dX12_termOf_146 (by decide) (by omega) (fun c146 => ?_) (fun c146 => ?_)) | refine Rp.icmp_ne (tgt := 156) dX12_termOf_146 (by decide) (fun c146 => ?_) (fun c146 => ?_)
        · first | (exfalso; omega) | exact absurd c146 (by decide) | exact absurd (by decide) c146
        refine Rp.lload_n dX12_termOf_149 rfl ?_
        refine Rp.lload dX12_termOf_150 rfl ?_
        refine Rp.ldiv dX12_termOf_152 hz ?_
        refine Rp.goto (tgt := 160) dX12_termOf_153 (by decide) ?_
        refine Rp.iload_n dX12_termOf_160 rfl ?_
        refine Rp.callV2 M_X12_bounded (ci := 12) dX12_termOf_161 mo_X12_bounded lk_X12_299 (by decide) rfl rfl (S _ _ rfl) (Nat.le_of_ble_eq_true rfl) (Nat.le_of_ble_eq_true rfl) (s_bound (d + 8 * (8 - dep) + 3) S R live b1 (B + i1) (x / Z) (y.tdiv zz) (fun z => by obtain ⟨e0, -, e1, e2, e3⟩ := hbb z; obtain ⟨f1, f2, f3⟩ := hx ⟨z.1, e0⟩; refine ⟨?_, (tdiv_bnd f2 f3).1, (tdiv_bnd f2 f3).2⟩; rw [f1, e1, z64_div f2 f3 e2 e3])) (fun v1 h1 p1 x1 => ?_)
        obtain ⟨X, b2, rfl, rfl, p2⟩ := p1
        try dsimp only [Option.toList, List.cons_append, List.nil_append, List.append]
        refine Rp.lst2 dX12_termOf_164 (by first | exact nl2_some rfl | exact nl2_none) (by decide) ?_
        refine Rp.goto (tgt := 6) dX12_termOf_165 (by decide) ?_
        skip
        have p3 : evC live b1 (arO 12 y zz) b2 X := by
          by_cases hl1 : live = true ∧ b1 = false
          · have e : arO 12 y zz = ck (y.tdiv zz) := by
              show (if zz = 0 then none else ck (y.tdiv zz)) = _
              rw [if_neg (hbb hl1).2.1]
            rw [e]; exact p2
          · unfold evC at p2 ⊢
            rw [if_neg hl1] at p2 ⊢
            exact p2
        exact Rp.mono (fun r h2 p => by obtain ⟨t2, b3, r1, r2, r3⟩ := p; refine ⟨t2, b3, r1, r2, ?_⟩; exact evC_bind p3 r3) (q2 b2 X _ _ _ _ (fun z => (evC_full p3 z).2))
      refine Rp.aload_n dX12_termOf_6 rfl rfl ?_
      refine Rp.aload_n dX12_termOf_7 rfl rfl ?_
      refine Rp.getI dX12_termOf_8 fk_X12_282 rfl (S _ _ rfl) ?_
      first | rw [ev_g] | skip
      refine Rp.callV1 M_X12_codeAt (ci := 12) dX12_termOf_11 mo_X12_codeAt lk_X12_285 (by decide) rfl rfl (S _ _ rfl) (Nat.le_of_ble_eq_true rfl) (Nat.le_of_ble_eq_true rfl) (hK _ _) (fun v1 h1 p1 x1 => ?_)
      rw [p1.1, p1.2]
      try dsimp only [Option.toList, List.cons_append, List.nil_append, List.append]
      refine Rp.bipush (nI 42) dX12_termOf_14 (by decide) ?_
      refine Rp.callS1 M_X12_sign dX12_termOf_16 mo_X12_sign lk_X12_241 (Nat.le_of_ble_eq_true rfl) (Nat.le_of_ble_eq_true rfl) (s_signN (d + 8 * (8 - dep) + 3) 42) (fun v1 h1 p1 x1 => ?_)
      rw [p1.1, p1.2]
      try dsimp only [Option.toList, List.cons_append, List.nil_append, List.append]
      first | ((with_reducible show Rp _ _ _ _ (.int (nI _) :: .int (nI _) :: _) _ _); refine Rp.icmp_eqN (tgt := 54) dX12_termOf_19 (by decide) (by omega) (fun c19 => ?_) (fun c19 => ?_)) | refine Rp.icmp_eq (tgt := 54) dX12_termOf_19 (by decide) (fun c19 => ?_) (fun c19 => ?_)
      · first | (exfalso; omega) | exact absurd c19 (by decide) | exact absurd (by decide) c19
      refine Rp.aload_n dX12_termOf_22 rfl rfl ?_
      refine Rp.aload_n dX12_termOf_23 rfl rfl ?_
      refine Rp.getI dX12_termOf_24 fk_X12_282 rfl (S _ _ rfl) ?_
      first | rw [ev_g] | skip
      refine Rp.callV1 M_X12_codeAt (ci := 12) dX12_termOf_27 mo_X12_codeAt lk_X12_285 (by decide) rfl rfl (S _ _ rfl) (Nat.le_of_ble_eq_true rfl) (Nat.le_of_ble_eq_true rfl) (hK _ _) (fun v1 h1 p1 x1 => ?_)
      rw [p1.1, p1.2]
      try dsimp only [Option.toList, List.cons_append, List.nil_append, List.append]
      refine Rp.bipush (nI 47) dX12_termOf_30 (by decide) ?_
      refine Rp.callS1 M_X12_sign dX12_termOf_32 mo_X12_sign lk_X12_241 (Nat.le_of_ble_eq_true rfl) (Nat.le_of_ble_eq_true rfl) (s_signN (d + 8 * (8 - dep) + 3) 47) (fun v1 h1 p1 x1 => ?_)
      rw [p1.1, p1.2]
      try dsimp only [Option.toList, List.cons_append, List.nil_append, List.append]
      first | ((with_reducible show Rp _ _ _ _ (.int (nI _) :: .int (nI _) :: _) _ _); refine Rp.icmp_eqN (tgt := 54) dX12_termOf_35 (by decide) (by omega) (fun c35 => ?_) (fun c35 => ?_)) | refine Rp.icmp_eq (tgt := 54) dX12_termOf_35 (by decide) (fun c35 => ?_) (fun c35 => ?_)
      rotate_left
      · first | (exfalso; omega) | exact absurd c35 (by decide) | exact absurd (by decide) c35
      refine Rp.aload_n dX12_termOf_54 rfl rfl ?_
      refine Rp.aload_n dX12_termOf_55 rfl rfl ?_
      refine Rp.getI dX12_termOf_56 fk_X12_282 rfl (S _ _ rfl) ?_
      first | rw [ev_g] | skip
      refine Rp.callV1 M_X12_codeAt (ci := 12) dX12_termOf_59 mo_X12_codeAt lk_X12_285 (by decide) rfl rfl (S _ _ rfl) (Nat.le_of_ble_eq_true rfl) (Nat.le_of_ble_eq_true rfl) (hK _ _) (fun v1 h1 p1 x1 => ?_)
      rw [p1.1, p1.2]
      try dsimp only [Option.toList, List.cons_append, List.nil_append, List.append]
      refine Rp.ist4 dX12_termOf_62 (by first | exact nl2_some rfl | exact nl2_none) (by decide) ?_
      refine Rp.aload_n dX12_termOf_64 rfl rfl ?_
      refine Rp.dup dX12_termOf_65 rfl ?_
      refine Rp.getI dX12_termOf_66 fk_X12_282 rfl (S _ _ rfl) ?_
      first | rw [ev_g] | skip
      refine Rp.iconst (nI 1) dX12_termOf_69 (by decide) ?_
      first | ((with_reducible show Rp _ _ _ _ (.int (nI _) :: .int (nI _) :: _) _ _); refine Rp.iaddN dX12_termOf_70 ?_) | refine Rp.iadd dX12_termOf_70 ?_
      refine Rp.putI dX12_termOf_71 fk_X12_282w rfl (S _ _ rfl) ?_
      first | rw [ev_sg] | skip
      refine Rp.aload_n dX12_termOf_74 rfl rfl ?_
      refine Rp.iload_n dX12_termOf_75 rfl ?_
      refine Rp.callV1 M_X12_partOf (ci := 12) dX12_termOf_76 mo_X12_partOf lk_X12_303 (by decide) rfl rfl (S _ _ rfl) (Nat.le_of_ble_eq_true rfl) (Nat.le_of_ble_eq_true rfl) (q1) (fun v1 h1 p1 x1 => ?_)
      obtain ⟨Z, b1, rfl, rfl, p1⟩ := p1
      have p0 := p1
      try dsimp only [Option.toList, List.cons_append, List.nil_append, List.append]
      refine Rp.lst5 dX12_termOf_79 (by first | exact nl2_some rfl | exact nl2_none) (by decide) ?_
      skip
      by_cases hZ : Z = 0
      · have fz : ∀ (r : Option Value) (h2 : AH) (b4 : Bool), (live = true ∧ b1 = false → b4 = true) → (¬ (live = true ∧ b1 = false) → b4 = b1) → evS live b4 ((arO 12 y 0).bind (D2 w)) h (B + i') r h2 → evS live b (((D1 w 0).bind fun z => arO 12 y z).bind (D2 w)) h (B + i') r h2 := by
          intro r h2 b4 u1 u2 p
          obtain ⟨X, b5, r1, r2, r3⟩ := p
          refine ⟨X, b5, r1, r2, ?_⟩
          have n4 : ¬ (live = true ∧ b4 = false) := fun z => by
            by_cases hl1 : live = true ∧ b1 = false
            · rw [u1 hl1] at z; exact absurd z.2 (by decide)
            · rw [u2 hl1] at z; exact hl1 z
          unfold evC at r3
          rw [if_neg n4] at r3
          subst r3
          by_cases hl0 : live = true ∧ b = false
          · unfold evC
            rw [if_pos hl0]
            by_cases hl1 : live = true ∧ b1 = false
            · obtain ⟨-, e1, e2, e3⟩ := evC_full p0 hl1
              have s1 := evC_some p0 hl1
              have e0 : (D1 w 0).getD 0 = 0 := by
                rw [e1] at hZ
                exact (z64_eq (y := 0) (by omega) (by omega) (by omega) (by omega)).mp hZ
              have hn : (((D1 w 0).bind fun z => arO 12 y z).bind (D2 w)) = none := by
                rw [s1, e0]
                show (arO 12 y 0).bind (D2 w) = none
                rw [show arO 12 y 0 = none from rfl]
                rfl
              rw [hn]
              exact u1 hl1
            · have hb1 : b1 = true := by
                cases b1
                · exact absurd ⟨hl0.1, rfl⟩ hl1
                · rfl
              rw [evC_none p0 hl0 hb1, u2 hl1, hb1]
              rfl
          · unfold evC
            rw [if_neg hl0]
            have hb1 : b1 = b := by unfold evC at p0; rw [if_neg hl0] at p0; exact p0
            rw [← hb1]
            exact u2 (fun z => hl0 ⟨z.1, hb1 ▸ z.2⟩)
        subst hZ
        cases b1
        · cases live
          · skip
            refine Rp.iload dX12_termOf_81 rfl ?_
            refine Rp.bipush (nI 42) dX12_termOf_83 (by decide) ?_
            refine Rp.callS1 M_X12_sign dX12_termOf_85 mo_X12_sign lk_X12_241 (Nat.le_of_ble_eq_true rfl) (Nat.le_of_ble_eq_true rfl) (s_signN (d + 8 * (8 - dep) + 3) 42) (fun v1 h1 p1 x1 => ?_)
            rw [p1.1, p1.2]
            try dsimp only [Option.toList, List.cons_append, List.nil_append, List.append]
            first | ((with_reducible show Rp _ _ _ _ (.int (nI _) :: .int (nI _) :: _) _ _); refine Rp.icmp_eqN (tgt := 121) dX12_termOf_88 (by decide) (by omega) (fun c88 => ?_) (fun c88 => ?_)) | refine Rp.icmp_eq (tgt := 121) dX12_termOf_88 (by decide) (fun c88 => ?_) (fun c88 => ?_)
            · skip
              exfalso; omega
            · skip
              refine Rp.lload dX12_termOf_91 rfl ?_
              refine Rp.lconst (0) dX12_termOf_93 (by decide) ?_
              refine Rp.lcmp dX12_termOf_94 ?_
              first | ((with_reducible show Rp _ _ _ _ (.int (b2i _) :: _) _ _); refine Rp.if_neB (tgt := 121) dX12_termOf_95 (by decide) (fun c95 => ?_) (fun c95 => ?_)) | ((with_reducible show Rp _ _ _ _ (.int (nI _) :: _) _ _); refine Rp.if_neN (tgt := 121) dX12_termOf_95 (by decide) (by omega) (fun c95 => ?_) (fun c95 => ?_)) | refine Rp.if_ne (tgt := 121) dX12_termOf_95 (by decide) (fun c95 => ?_) (fun c95 => ?_)
              · skip
                exact absurd c95 (by decide)
              · skip
                refine Rp.aload_n dX12_termOf_98 rfl rfl ?_
                refine Rp.aload_n dX12_termOf_99 rfl rfl ?_
                refine Rp.getI dX12_termOf_100 fk_X12_292 rfl (S _ _ rfl) ?_
                first | rw [ev_b] | skip
                first | ((with_reducible show Rp _ _ _ _ (.int (b2i _) :: _) _ _); refine Rp.if_neB (tgt := 110) dX12_termOf_103 (by decide) (fun c103 => ?_) (fun c103 => ?_)) | ((with_reducible show Rp _ _ _ _ (.int (nI _) :: _) _ _); refine Rp.if_neN (tgt := 110) dX12_termOf_103 (by decide) (by omega) (fun c103 => ?_) (fun c103 => ?_)) | refine Rp.if_ne (tgt := 110) dX12_termOf_103 (by decide) (fun c103 => ?_) (fun c103 => ?_)
                · skip
                  exact absurd c103 (by decide)
                · skip
                  refine Rp.iload_n dX12_termOf_106 rfl ?_
                  first | ((with_reducible show Rp _ _ _ _ (.int (b2i _) :: _) _ _); refine Rp.if_eqB (tgt := 114) dX12_termOf_107 (by decide) (fun c107 => ?_) (fun c107 => ?_)) | ((with_reducible show Rp _ _ _ _ (.int (nI _) :: _) _ _); refine Rp.if_eqN (tgt := 114) dX12_termOf_107 (by decide) (by omega) (fun c107 => ?_) (fun c107 => ?_)) | refine Rp.if_eq (tgt := 114) dX12_termOf_107 (by decide) (fun c107 => ?_) (fun c107 => ?_)
                  · skip
                    refine Rp.iconst (nI 0) dX12_termOf_114 (by decide) ?_
                    refine Rp.putZ dX12_termOf_115 fk_X12_292w rfl (by first | exact Or.inl rfl | exact Or.inr rfl | assumption) (S _ _ rfl) ?_
                    first | rw [ev_sb] | skip
                    refine Rp.lconst (1) dX12_termOf_118 (by decide) ?_
                    refine Rp.lst5 dX12_termOf_119 (by first | exact nl2_some rfl | exact nl2_none) (by decide) ?_
                    exact Rp.mono (fun r h2 p => fz r h2 false (fun z => absurd z.1 (by decide)) (fun _ => rfl) p) (k121 1 0 false (by decide) (fun z => absurd z.1 (by decide)))
                  · skip
                    exact absurd c107 (by decide)
          · skip
            refine Rp.iload dX12_termOf_81 rfl ?_
            refine Rp.bipush (nI 42) dX12_termOf_83 (by decide) ?_
            refine Rp.callS1 M_X12_sign dX12_termOf_85 mo_X12_sign lk_X12_241 (Nat.le_of_ble_eq_true rfl) (Nat.le_of_ble_eq_true rfl) (s_signN (d + 8 * (8 - dep) + 3) 42) (fun v1 h1 p1 x1 => ?_)
            rw [p1.1, p1.2]
            try dsimp only [Option.toList, List.cons_append, List.nil_append, List.append]
            first | ((with_reducible show Rp _ _ _ _ (.int (nI _) :: .int (nI _) :: _) _ _); refine Rp.icmp_eqN (tgt := 121) dX12_termOf_88 (by decide) (by omega) (fun c88 => ?_) (fun c88 => ?_)) | refine Rp.icmp_eq (tgt := 121) dX12_termOf_88 (by decide) (fun c88 => ?_) (fun c88 => ?_)
            · skip
              exfalso; omega
            · skip
              refine Rp.lload dX12_termOf_91 rfl ?_
              refine Rp.lconst (0) dX12_termOf_93 (by decide) ?_
              refine Rp.lcmp dX12_termOf_94 ?_
              first | ((with_reducible show Rp _ _ _ _ (.int (b2i _) :: _) _ _); refine Rp.if_neB (tgt := 121) dX12_termOf_95 (by decide) (fun c95 => ?_) (fun c95 => ?_)) | ((with_reducible show Rp _ _ _ _ (.int (nI _) :: _) _ _); refine Rp.if_neN (tgt := 121) dX12_termOf_95 (by decide) (by omega) (fun c95 => ?_) (fun c95 => ?_)) | refine Rp.if_ne (tgt := 121) dX12_termOf_95 (by decide) (fun c95 => ?_) (fun c95 => ?_)
              · skip
                exact absurd c95 (by decide)
              · skip
                refine Rp.aload_n dX12_termOf_98 rfl rfl ?_
                refine Rp.aload_n dX12_termOf_99 rfl rfl ?_
                refine Rp.getI dX12_termOf_100 fk_X12_292 rfl (S _ _ rfl) ?_
                first | rw [ev_b] | skip
                first | ((with_reducible show Rp _ _ _ _ (.int (b2i _) :: _) _ _); refine Rp.if_neB (tgt := 110) dX12_termOf_103 (by decide) (fun c103 => ?_) (fun c103 => ?_)) | ((with_reducible show Rp _ _ _ _ (.int (nI _) :: _) _ _); refine Rp.if_neN (tgt := 110) dX12_termOf_103 (by decide) (by omega) (fun c103 => ?_) (fun c103 => ?_)) | refine Rp.if_ne (tgt := 110) dX12_termOf_103 (by decide) (fun c103 => ?_) (fun c103 => ?_)
                · skip
                  exact absurd c103 (by decide)
                · skip
                  refine Rp.iload_n dX12_termOf_106 rfl ?_
                  first | ((with_reducible show Rp _ _ _ _ (.int (b2i _) :: _) _ _); refine Rp.if_eqB (tgt := 114) dX12_termOf_107 (by decide) (fun c107 => ?_) (fun c107 => ?_)) | ((with_reducible show Rp _ _ _ _ (.int (nI _) :: _) _ _); refine Rp.if_eqN (tgt := 114) dX12_termOf_107 (by decide) (by omega) (fun c107 => ?_) (fun c107 => ?_)) | refine Rp.if_eq (tgt := 114) dX12_termOf_107 (by decide) (fun c107 => ?_) (fun c107 => ?_)
                  · skip
                    exact absurd c107 (by decide)
                  · skip
                    refine Rp.iconst (nI 1) dX12_termOf_110 (by decide) ?_
                    refine Rp.goto (tgt := 115) dX12_termOf_111 (by decide) ?_
                    refine Rp.putZ dX12_termOf_115 fk_X12_292w rfl (by first | exact Or.inl rfl | exact Or.inr rfl | assumption) (S _ _ rfl) ?_
                    first | rw [ev_sb] | skip
                    refine Rp.lconst (1) dX12_termOf_118 (by decide) ?_
                    refine Rp.lst5 dX12_termOf_119 (by first | exact nl2_some rfl | exact nl2_none) (by decide) ?_
                    exact Rp.mono (fun r h2 p => fz r h2 true (fun _ => rfl) (fun z => absurd ⟨rfl, rfl⟩ z) p) (k121 1 0 true (by decide) (fun z => absurd z.2 (by decide)))
        · skip
          refine Rp.iload dX12_termOf_81 rfl ?_
          refine Rp.bipush (nI 42) dX12_termOf_83 (by decide) ?_
          refine Rp.callS1 M_X12_sign dX12_termOf_85 mo_X12_sign lk_X12_241 (Nat.le_of_ble_eq_true rfl) (Nat.le_of_ble_eq_true rfl) (s_signN (d + 8 * (8 - dep) + 3) 42) (fun v1 h1 p1 x1 => ?_)
          rw [p1.1, p1.2]
          try dsimp only [Option.toList, List.cons_append, List.nil_append, List.append]
          first | ((with_reducible show Rp _ _ _ _ (.int (nI _) :: .int (nI _) :: _) _ _); refine Rp.icmp_eqN (tgt := 121) dX12_termOf_88 (by decide) (by omega) (fun c88 => ?_) (fun c88 => ?_)) | refine Rp.icmp_eq (tgt := 121) dX12_termOf_88 (by decide) (fun c88 => ?_) (fun c88 => ?_)
          · skip
            exfalso; omega
          · skip
            refine Rp.lload dX12_termOf_91 rfl ?_
            refine Rp.lconst (0) dX12_termOf_93 (by decide) ?_
            refine Rp.lcmp dX12_termOf_94 ?_
            first | ((with_reducible show Rp _ _ _ _ (.int (b2i _) :: _) _ _); refine Rp.if_neB (tgt := 121) dX12_termOf_95 (by decide) (fun c95 => ?_) (fun c95 => ?_)) | ((with_reducible show Rp _ _ _ _ (.int (nI _) :: _) _ _); refine Rp.if_neN (tgt := 121) dX12_termOf_95 (by decide) (by omega) (fun c95 => ?_) (fun c95 => ?_)) | refine Rp.if_ne (tgt := 121) dX12_termOf_95 (by decide) (fun c95 => ?_) (fun c95 => ?_)
            · skip
              exact absurd c95 (by decide)
            · skip
              refine Rp.aload_n dX12_termOf_98 rfl rfl ?_
              refine Rp.aload_n dX12_termOf_99 rfl rfl ?_
              refine Rp.getI dX12_termOf_100 fk_X12_292 rfl (S _ _ rfl) ?_
              first | rw [ev_b] | skip
              first | ((with_reducible show Rp _ _ _ _ (.int (b2i _) :: _) _ _); refine Rp.if_neB (tgt := 110) dX12_termOf_103 (by decide) (fun c103 => ?_) (fun c103 => ?_)) | ((with_reducible show Rp _ _ _ _ (.int (nI _) :: _) _ _); refine Rp.if_neN (tgt := 110) dX12_termOf_103 (by decide) (by omega) (fun c103 => ?_) (fun c103 => ?_)) | refine Rp.if_ne (tgt := 110) dX12_termOf_103 (by decide) (fun c103 => ?_) (fun c103 => ?_)
              · skip
                refine Rp.iconst (nI 1) dX12_termOf_110 (by decide) ?_
                refine Rp.goto (tgt := 115) dX12_termOf_111 (by decide) ?_
                refine Rp.putZ dX12_termOf_115 fk_X12_292w rfl (by first | exact Or.inl rfl | exact Or.inr rfl | assumption) (S _ _ rfl) ?_
                first | rw [ev_sb] | skip
                refine Rp.lconst (1) dX12_termOf_118 (by decide) ?_
                refine Rp.lst5 dX12_termOf_119 (by first | exact nl2_some rfl | exact nl2_none) (by decide) ?_
                exact Rp.mono (fun r h2 p => fz r h2 true (fun z => absurd z.2 (by decide)) (fun _ => rfl) p) (k121 1 0 true (by decide) (fun z => absurd z.2 (by decide)))
              · skip
                exact absurd c103 (by decide)
      · have fz : ∀ (r : Option Value) (h2 : AH), evS live b1 ((arO 12 y ((D1 w 0).getD 0)).bind (D2 w)) h (B + i') r h2 → evS live b (((D1 w 0).bind fun z => arO 12 y z).bind (D2 w)) h (B + i') r h2 := by
          intro r h2 p
          obtain ⟨X, b5, r1, r2, r3⟩ := p
          refine ⟨X, b5, r1, r2, ?_⟩
          rw [Option.bind_assoc]
          exact evC_bind p0 r3
        refine Rp.iload dX12_termOf_81 rfl ?_
        refine Rp.bipush (nI 42) dX12_termOf_83 (by decide) ?_
        refine Rp.callS1 M_X12_sign dX12_termOf_85 mo_X12_sign lk_X12_241 (Nat.le_of_ble_eq_true rfl) (Nat.le_of_ble_eq_true rfl) (s_signN (d + 8 * (8 - dep) + 3) 42) (fun v1 h1 p1 x1 => ?_)
        rw [p1.1, p1.2]
        try dsimp only [Option.toList, List.cons_append, List.nil_append, List.append]
        first | ((with_reducible show Rp _ _ _ _ (.int (nI _) :: .int (nI _) :: _) _ _); refine Rp.icmp_eqN (tgt := 121) dX12_termOf_88 (by decide) (by omega) (fun c88 => ?_) (fun c88 => ?_)) | refine Rp.icmp_eq (tgt := 121) dX12_termOf_88 (by decide) (fun c88 => ?_) (fun c88 => ?_)
        · skip
          exfalso; omega
        · skip
          refine Rp.lload dX12_termOf_91 rfl ?_
          refine Rp.lconst (0) dX12_termOf_93 (by decide) ?_
          refine Rp.lcmp dX12_termOf_94 ?_
          first | ((with_reducible show Rp _ _ _ _ (.int (b2i _) :: _) _ _); refine Rp.if_neB (tgt := 121) dX12_termOf_95 (by decide) (fun c95 => ?_) (fun c95 => ?_)) | ((with_reducible show Rp _ _ _ _ (.int (nI _) :: _) _ _); refine Rp.if_neN (tgt := 121) dX12_termOf_95 (by decide) (by omega) (fun c95 => ?_) (fun c95 => ?_)) | refine Rp.if_ne (tgt := 121) dX12_termOf_95 (by decide) (fun c95 => ?_) (fun c95 => ?_)
          · skip
            exact Rp.mono (fun r h2 p => fz r h2 p) (k121 Z _ b1 hZ (fun z => by have q := evC_full p0 z; refine ⟨q.1, ?_, q.2⟩; intro z0; rw [z0] at q; exact hZ q.2.1))
          · skip
            exact absurd ((lcmp_0 _ _).mp c95) hZ
    · rw [k1] at hop hci ⊢
      have hK := fun g b => s_codeAt (d + 8 * (8 - dep) + 3) S R K hi g b
      rw [k1] at hK
      have k121 : ∀ (Z : Int64) (zz : Int) (b1 : Bool) (hz : ¬ Z = 0) (hbb : live = true ∧ b1 = false → b = false ∧ ¬ zz = 0 ∧ Z = Int64.ofInt zz ∧ -1000000000 ≤ zz ∧ zz ≤ 1000000000), Rp (d + 8 * (8 - dep) + 4) M_X12_termOf 121 [some (.ref aM), some (.int (b2i live)), some (.long x), none, some (.int (nI 137)), some (.long Z), none] [] (evH h (nI (B + i1)) (b2i b1)) (evS live b1 ((arO 13 y zz).bind (D2 w)) h (B + i')) := by
        intro Z zz b1 hz hbb
        refine Rp.aload_n dX12_termOf_121 rfl rfl ?_
        refine Rp.iload dX12_termOf_122 rfl ?_
        refine Rp.bipush (nI 42) dX12_termOf_124 (by decide) ?_
        refine Rp.callS1 M_X12_sign dX12_termOf_126 mo_X12_sign lk_X12_241 (Nat.le_of_ble_eq_true rfl) (Nat.le_of_ble_eq_true rfl) (s_signN (d + 8 * (8 - dep) + 3) 42) (fun v1 h1 p1 x1 => ?_)
        rw [p1.1, p1.2]
        try dsimp only [Option.toList, List.cons_append, List.nil_append, List.append]
        first | ((with_reducible show Rp _ _ _ _ (.int (nI _) :: .int (nI _) :: _) _ _); refine Rp.icmp_neN (tgt := 139) dX12_termOf_129 (by decide) (by omega) (fun c129 => ?_) (fun c129 => ?_)) | refine Rp.icmp_ne (tgt := 139) dX12_termOf_129 (by decide) (fun c129 => ?_) (fun c129 => ?_)
        rotate_left
        · first | (exfalso; omega) | exact absurd c129 (by decide) | exact absurd (by decide) c129
        refine Rp.iload dX12_termOf_139 rfl ?_
        refine Rp.bipush (nI 47) dX12_termOf_141 (by decide) ?_
        refine Rp.callS1 M_X12_sign dX12_termOf_143 mo_X12_sign lk_X12_241 (Nat.le_of_ble_eq_true rfl) (Nat.le_of_ble_eq_true rfl) (s_signN (d + 8 * (8 - dep) + 3) 47) (fun v1 h1 p1 x1 => ?_)
        rw [p1.1, p1.2]
        try dsimp only [Option.toList, List.cons_append, List.nil_append, List.append]
        first | ((with_reducible show Rp _ _ _ _ (.int (nI _) :: .int (nI _) :: _) _ _); refine Rp.icmp_neN (tgt := 156) dX12_termOf_146 (by decide) (by omega) (fun c146 => ?_) (fun c146 => ?_)) | refine Rp.icmp_ne (tgt := 156) dX12_termOf_146 (by decide) (fun c146 => ?_) (fun c146 => ?_)
        rotate_left
        · first | (exfalso; omega) | exact absurd c146 (by decide) | exact absurd (by decide) c146
        refine Rp.lload_n dX12_termOf_156 rfl ?_
        refine Rp.lload dX12_termOf_157 rfl ?_
        refine Rp.lrem dX12_termOf_159 hz ?_
        refine Rp.iload_n dX12_termOf_160 rfl ?_
        refine Rp.callV2 M_X12_bounded (ci := 12) dX12_termOf_161 mo_X12_bounded lk_X12_299 (by decide) rfl rfl (S _ _ rfl) (Nat.le_of_ble_eq_true rfl) (Nat.le_of_ble_eq_true rfl) (s_bound (d + 8 * (8 - dep) + 3) S R live b1 (B + i1) (x - x / Z * Z) (y.tmod zz) (fun z => by obtain ⟨e0, -, e1, e2, e3⟩ := hbb z; obtain ⟨f1, f2, f3⟩ := hx ⟨z.1, e0⟩; refine ⟨?_, (tmod_bnd f2 f3).1, (tmod_bnd f2 f3).2⟩; rw [f1, e1, z64_rem f2 f3 e2 e3])) (fun v1 h1 p1 x1 => ?_)
        obtain ⟨X, b2, rfl, rfl, p2⟩ := p1
        try dsimp only [Option.toList, List.cons_append, List.nil_append, List.append]
        refine Rp.lst2 dX12_termOf_164 (by first | exact nl2_some rfl | exact nl2_none) (by decide) ?_
        refine Rp.goto (tgt := 6) dX12_termOf_165 (by decide) ?_
        skip
        have p3 : evC live b1 (arO 13 y zz) b2 X := by
          by_cases hl1 : live = true ∧ b1 = false
          · have e : arO 13 y zz = ck (y.tmod zz) := by
              show (if zz = 0 then none else ck (y.tmod zz)) = _
              rw [if_neg (hbb hl1).2.1]
            rw [e]; exact p2
          · unfold evC at p2 ⊢
            rw [if_neg hl1] at p2 ⊢
            exact p2
        exact Rp.mono (fun r h2 p => by obtain ⟨t2, b3, r1, r2, r3⟩ := p; refine ⟨t2, b3, r1, r2, ?_⟩; exact evC_bind p3 r3) (q2 b2 X _ _ _ _ (fun z => (evC_full p3 z).2))
      refine Rp.aload_n dX12_termOf_6 rfl rfl ?_
      refine Rp.aload_n dX12_termOf_7 rfl rfl ?_
      refine Rp.getI dX12_termOf_8 fk_X12_282 rfl (S _ _ rfl) ?_
      first | rw [ev_g] | skip
      refine Rp.callV1 M_X12_codeAt (ci := 12) dX12_termOf_11 mo_X12_codeAt lk_X12_285 (by decide) rfl rfl (S _ _ rfl) (Nat.le_of_ble_eq_true rfl) (Nat.le_of_ble_eq_true rfl) (hK _ _) (fun v1 h1 p1 x1 => ?_)
      rw [p1.1, p1.2]
      try dsimp only [Option.toList, List.cons_append, List.nil_append, List.append]
      refine Rp.bipush (nI 42) dX12_termOf_14 (by decide) ?_
      refine Rp.callS1 M_X12_sign dX12_termOf_16 mo_X12_sign lk_X12_241 (Nat.le_of_ble_eq_true rfl) (Nat.le_of_ble_eq_true rfl) (s_signN (d + 8 * (8 - dep) + 3) 42) (fun v1 h1 p1 x1 => ?_)
      rw [p1.1, p1.2]
      try dsimp only [Option.toList, List.cons_append, List.nil_append, List.append]
      first | ((with_reducible show Rp _ _ _ _ (.int (nI _) :: .int (nI _) :: _) _ _); refine Rp.icmp_eqN (tgt := 54) dX12_termOf_19 (by decide) (by omega) (fun c19 => ?_) (fun c19 => ?_)) | refine Rp.icmp_eq (tgt := 54) dX12_termOf_19 (by decide) (fun c19 => ?_) (fun c19 => ?_)
      · first | (exfalso; omega) | exact absurd c19 (by decide) | exact absurd (by decide) c19
      refine Rp.aload_n dX12_termOf_22 rfl rfl ?_
      refine Rp.aload_n dX12_termOf_23 rfl rfl ?_
      refine Rp.getI dX12_termOf_24 fk_X12_282 rfl (S _ _ rfl) ?_
      first | rw [ev_g] | skip
      refine Rp.callV1 M_X12_codeAt (ci := 12) dX12_termOf_27 mo_X12_codeAt lk_X12_285 (by decide) rfl rfl (S _ _ rfl) (Nat.le_of_ble_eq_true rfl) (Nat.le_of_ble_eq_true rfl) (hK _ _) (fun v1 h1 p1 x1 => ?_)
      rw [p1.1, p1.2]
      try dsimp only [Option.toList, List.cons_append, List.nil_append, List.append]
      refine Rp.bipush (nI 47) dX12_termOf_30 (by decide) ?_
      refine Rp.callS1 M_X12_sign dX12_termOf_32 mo_X12_sign lk_X12_241 (Nat.le_of_ble_eq_true rfl) (Nat.le_of_ble_eq_true rfl) (s_signN (d + 8 * (8 - dep) + 3) 47) (fun v1 h1 p1 x1 => ?_)
      rw [p1.1, p1.2]
      try dsimp only [Option.toList, List.cons_append, List.nil_append, List.append]
      first | ((with_reducible show Rp _ _ _ _ (.int (nI _) :: .int (nI _) :: _) _ _); refine Rp.icmp_eqN (tgt := 54) dX12_termOf_35 (by decide) (by omega) (fun c35 => ?_) (fun c35 => ?_)) | refine Rp.icmp_eq (tgt := 54) dX12_termOf_35 (by decide) (fun c35 => ?_) (fun c35 => ?_)
      · first | (exfalso; omega) | exact absurd c35 (by decide) | exact absurd (by decide) c35
      refine Rp.aload_n dX12_termOf_38 rfl rfl ?_
      refine Rp.aload_n dX12_termOf_39 rfl rfl ?_
      refine Rp.getI dX12_termOf_40 fk_X12_282 rfl (S _ _ rfl) ?_
      first | rw [ev_g] | skip
      refine Rp.callV1 M_X12_codeAt (ci := 12) dX12_termOf_43 mo_X12_codeAt lk_X12_285 (by decide) rfl rfl (S _ _ rfl) (Nat.le_of_ble_eq_true rfl) (Nat.le_of_ble_eq_true rfl) (hK _ _) (fun v1 h1 p1 x1 => ?_)
      rw [p1.1, p1.2]
      try dsimp only [Option.toList, List.cons_append, List.nil_append, List.append]
      refine Rp.bipush (nI 37) dX12_termOf_46 (by decide) ?_
      refine Rp.callS1 M_X12_sign dX12_termOf_48 mo_X12_sign lk_X12_241 (Nat.le_of_ble_eq_true rfl) (Nat.le_of_ble_eq_true rfl) (s_signN (d + 8 * (8 - dep) + 3) 37) (fun v1 h1 p1 x1 => ?_)
      rw [p1.1, p1.2]
      try dsimp only [Option.toList, List.cons_append, List.nil_append, List.append]
      first | ((with_reducible show Rp _ _ _ _ (.int (nI _) :: .int (nI _) :: _) _ _); refine Rp.icmp_neN (tgt := 168) dX12_termOf_51 (by decide) (by omega) (fun c51 => ?_) (fun c51 => ?_)) | refine Rp.icmp_ne (tgt := 168) dX12_termOf_51 (by decide) (fun c51 => ?_) (fun c51 => ?_)
      · first | (exfalso; omega) | exact absurd c51 (by decide) | exact absurd (by decide) c51
      refine Rp.aload_n dX12_termOf_54 rfl rfl ?_
      refine Rp.aload_n dX12_termOf_55 rfl rfl ?_
      refine Rp.getI dX12_termOf_56 fk_X12_282 rfl (S _ _ rfl) ?_
      first | rw [ev_g] | skip
      refine Rp.callV1 M_X12_codeAt (ci := 12) dX12_termOf_59 mo_X12_codeAt lk_X12_285 (by decide) rfl rfl (S _ _ rfl) (Nat.le_of_ble_eq_true rfl) (Nat.le_of_ble_eq_true rfl) (hK _ _) (fun v1 h1 p1 x1 => ?_)
      rw [p1.1, p1.2]
      try dsimp only [Option.toList, List.cons_append, List.nil_append, List.append]
      refine Rp.ist4 dX12_termOf_62 (by first | exact nl2_some rfl | exact nl2_none) (by decide) ?_
      refine Rp.aload_n dX12_termOf_64 rfl rfl ?_
      refine Rp.dup dX12_termOf_65 rfl ?_
      refine Rp.getI dX12_termOf_66 fk_X12_282 rfl (S _ _ rfl) ?_
      first | rw [ev_g] | skip
      refine Rp.iconst (nI 1) dX12_termOf_69 (by decide) ?_
      first | ((with_reducible show Rp _ _ _ _ (.int (nI _) :: .int (nI _) :: _) _ _); refine Rp.iaddN dX12_termOf_70 ?_) | refine Rp.iadd dX12_termOf_70 ?_
      refine Rp.putI dX12_termOf_71 fk_X12_282w rfl (S _ _ rfl) ?_
      first | rw [ev_sg] | skip
      refine Rp.aload_n dX12_termOf_74 rfl rfl ?_
      refine Rp.iload_n dX12_termOf_75 rfl ?_
      refine Rp.callV1 M_X12_partOf (ci := 12) dX12_termOf_76 mo_X12_partOf lk_X12_303 (by decide) rfl rfl (S _ _ rfl) (Nat.le_of_ble_eq_true rfl) (Nat.le_of_ble_eq_true rfl) (q1) (fun v1 h1 p1 x1 => ?_)
      obtain ⟨Z, b1, rfl, rfl, p1⟩ := p1
      have p0 := p1
      try dsimp only [Option.toList, List.cons_append, List.nil_append, List.append]
      refine Rp.lst5 dX12_termOf_79 (by first | exact nl2_some rfl | exact nl2_none) (by decide) ?_
      skip
      by_cases hZ : Z = 0
      · have fz : ∀ (r : Option Value) (h2 : AH) (b4 : Bool), (live = true ∧ b1 = false → b4 = true) → (¬ (live = true ∧ b1 = false) → b4 = b1) → evS live b4 ((arO 13 y 0).bind (D2 w)) h (B + i') r h2 → evS live b (((D1 w 0).bind fun z => arO 13 y z).bind (D2 w)) h (B + i') r h2 := by
          intro r h2 b4 u1 u2 p
          obtain ⟨X, b5, r1, r2, r3⟩ := p
          refine ⟨X, b5, r1, r2, ?_⟩
          have n4 : ¬ (live = true ∧ b4 = false) := fun z => by
            by_cases hl1 : live = true ∧ b1 = false
            · rw [u1 hl1] at z; exact absurd z.2 (by decide)
            · rw [u2 hl1] at z; exact hl1 z
          unfold evC at r3
          rw [if_neg n4] at r3
          subst r3
          by_cases hl0 : live = true ∧ b = false
          · unfold evC
            rw [if_pos hl0]
            by_cases hl1 : live = true ∧ b1 = false
            · obtain ⟨-, e1, e2, e3⟩ := evC_full p0 hl1
              have s1 := evC_some p0 hl1
              have e0 : (D1 w 0).getD 0 = 0 := by
                rw [e1] at hZ
                exact (z64_eq (y := 0) (by omega) (by omega) (by omega) (by omega)).mp hZ
              have hn : (((D1 w 0).bind fun z => arO 13 y z).bind (D2 w)) = none := by
                rw [s1, e0]
                show (arO 13 y 0).bind (D2 w) = none
                rw [show arO 13 y 0 = none from rfl]
                rfl
              rw [hn]
              exact u1 hl1
            · have hb1 : b1 = true := by
                cases b1
                · exact absurd ⟨hl0.1, rfl⟩ hl1
                · rfl
              rw [evC_none p0 hl0 hb1, u2 hl1, hb1]
              rfl
          · unfold evC
            rw [if_neg hl0]
            have hb1 : b1 = b := by unfold evC at p0; rw [if_neg hl0] at p0; exact p0
            rw [← hb1]
            exact u2 (fun z => hl0 ⟨z.1, hb1 ▸ z.2⟩)
        subst hZ
        cases b1
        · cases live
          · skip
            refine Rp.iload dX12_termOf_81 rfl ?_
            refine Rp.bipush (nI 42) dX12_termOf_83 (by decide) ?_
            refine Rp.callS1 M_X12_sign dX12_termOf_85 mo_X12_sign lk_X12_241 (Nat.le_of_ble_eq_true rfl) (Nat.le_of_ble_eq_true rfl) (s_signN (d + 8 * (8 - dep) + 3) 42) (fun v1 h1 p1 x1 => ?_)
            rw [p1.1, p1.2]
            try dsimp only [Option.toList, List.cons_append, List.nil_append, List.append]
            first | ((with_reducible show Rp _ _ _ _ (.int (nI _) :: .int (nI _) :: _) _ _); refine Rp.icmp_eqN (tgt := 121) dX12_termOf_88 (by decide) (by omega) (fun c88 => ?_) (fun c88 => ?_)) | refine Rp.icmp_eq (tgt := 121) dX12_termOf_88 (by decide) (fun c88 => ?_) (fun c88 => ?_)
            · skip
              exfalso; omega
            · skip
              refine Rp.lload dX12_termOf_91 rfl ?_
              refine Rp.lconst (0) dX12_termOf_93 (by decide) ?_
              refine Rp.lcmp dX12_termOf_94 ?_
              first | ((with_reducible show Rp _ _ _ _ (.int (b2i _) :: _) _ _); refine Rp.if_neB (tgt := 121) dX12_termOf_95 (by decide) (fun c95 => ?_) (fun c95 => ?_)) | ((with_reducible show Rp _ _ _ _ (.int (nI _) :: _) _ _); refine Rp.if_neN (tgt := 121) dX12_termOf_95 (by decide) (by omega) (fun c95 => ?_) (fun c95 => ?_)) | refine Rp.if_ne (tgt := 121) dX12_termOf_95 (by decide) (fun c95 => ?_) (fun c95 => ?_)
              · skip
                exact absurd c95 (by decide)
              · skip
                refine Rp.aload_n dX12_termOf_98 rfl rfl ?_
                refine Rp.aload_n dX12_termOf_99 rfl rfl ?_
                refine Rp.getI dX12_termOf_100 fk_X12_292 rfl (S _ _ rfl) ?_
                first | rw [ev_b] | skip
                first | ((with_reducible show Rp _ _ _ _ (.int (b2i _) :: _) _ _); refine Rp.if_neB (tgt := 110) dX12_termOf_103 (by decide) (fun c103 => ?_) (fun c103 => ?_)) | ((with_reducible show Rp _ _ _ _ (.int (nI _) :: _) _ _); refine Rp.if_neN (tgt := 110) dX12_termOf_103 (by decide) (by omega) (fun c103 => ?_) (fun c103 => ?_)) | refine Rp.if_ne (tgt := 110) dX12_termOf_103 (by decide) (fun c103 => ?_) (fun c103 => ?_)
                · skip
                  exact absurd c103 (by decide)
                · skip
                  refine Rp.iload_n dX12_termOf_106 rfl ?_
                  first | ((with_reducible show Rp _ _ _ _ (.int (b2i _) :: _) _ _); refine Rp.if_eqB (tgt := 114) dX12_termOf_107 (by decide) (fun c107 => ?_) (fun c107 => ?_)) | ((with_reducible show Rp _ _ _ _ (.int (nI _) :: _) _ _); refine Rp.if_eqN (tgt := 114) dX12_termOf_107 (by decide) (by omega) (fun c107 => ?_) (fun c107 => ?_)) | refine Rp.if_eq (tgt := 114) dX12_termOf_107 (by decide) (fun c107 => ?_) (fun c107 => ?_)
                  · skip
                    refine Rp.iconst (nI 0) dX12_termOf_114 (by decide) ?_
                    refine Rp.putZ dX12_termOf_115 fk_X12_292w rfl (by first | exact Or.inl rfl | exact Or.inr rfl | assumption) (S _ _ rfl) ?_
                    first | rw [ev_sb] | skip
                    refine Rp.lconst (1) dX12_termOf_118 (by decide) ?_
                    refine Rp.lst5 dX12_termOf_119 (by first | exact nl2_some rfl | exact nl2_none) (by decide) ?_
                    exact Rp.mono (fun r h2 p => fz r h2 false (fun z => absurd z.1 (by decide)) (fun _ => rfl) p) (k121 1 0 false (by decide) (fun z => absurd z.1 (by decide)))
                  · skip
                    exact absurd c107 (by decide)
          · skip
            refine Rp.iload dX12_termOf_81 rfl ?_
            refine Rp.bipush (nI 42) dX12_termOf_83 (by decide) ?_
            refine Rp.callS1 M_X12_sign dX12_termOf_85 mo_X12_sign lk_X12_241 (Nat.le_of_ble_eq_true rfl) (Nat.le_of_ble_eq_true rfl) (s_signN (d + 8 * (8 - dep) + 3) 42) (fun v1 h1 p1 x1 => ?_)
            rw [p1.1, p1.2]
            try dsimp only [Option.toList, List.cons_append, List.nil_append, List.append]
            first | ((with_reducible show Rp _ _ _ _ (.int (nI _) :: .int (nI _) :: _) _ _); refine Rp.icmp_eqN (tgt := 121) dX12_termOf_88 (by decide) (by omega) (fun c88 => ?_) (fun c88 => ?_)) | refine Rp.icmp_eq (tgt := 121) dX12_termOf_88 (by decide) (fun c88 => ?_) (fun c88 => ?_)
            · skip
              exfalso; omega
            · skip
              refine Rp.lload dX12_termOf_91 rfl ?_
              refine Rp.lconst (0) dX12_termOf_93 (by decide) ?_
              refine Rp.lcmp dX12_termOf_94 ?_
              first | ((with_reducible show Rp _ _ _ _ (.int (b2i _) :: _) _ _); refine Rp.if_neB (tgt := 121) dX12_termOf_95 (by decide) (fun c95 => ?_) (fun c95 => ?_)) | ((with_reducible show Rp _ _ _ _ (.int (nI _) :: _) _ _); refine Rp.if_neN (tgt := 121) dX12_termOf_95 (by decide) (by omega) (fun c95 => ?_) (fun c95 => ?_)) | refine Rp.if_ne (tgt := 121) dX12_termOf_95 (by decide) (fun c95 => ?_) (fun c95 => ?_)
              · skip
                exact absurd c95 (by decide)
              · skip
                refine Rp.aload_n dX12_termOf_98 rfl rfl ?_
                refine Rp.aload_n dX12_termOf_99 rfl rfl ?_
                refine Rp.getI dX12_termOf_100 fk_X12_292 rfl (S _ _ rfl) ?_
                first | rw [ev_b] | skip
                first | ((with_reducible show Rp _ _ _ _ (.int (b2i _) :: _) _ _); refine Rp.if_neB (tgt := 110) dX12_termOf_103 (by decide) (fun c103 => ?_) (fun c103 => ?_)) | ((with_reducible show Rp _ _ _ _ (.int (nI _) :: _) _ _); refine Rp.if_neN (tgt := 110) dX12_termOf_103 (by decide) (by omega) (fun c103 => ?_) (fun c103 => ?_)) | refine Rp.if_ne (tgt := 110) dX12_termOf_103 (by decide) (fun c103 => ?_) (fun c103 => ?_)
                · skip
                  exact absurd c103 (by decide)
                · skip
                  refine Rp.iload_n dX12_termOf_106 rfl ?_
                  first | ((with_reducible show Rp _ _ _ _ (.int (b2i _) :: _) _ _); refine Rp.if_eqB (tgt := 114) dX12_termOf_107 (by decide) (fun c107 => ?_) (fun c107 => ?_)) | ((with_reducible show Rp _ _ _ _ (.int (nI _) :: _) _ _); refine Rp.if_eqN (tgt := 114) dX12_termOf_107 (by decide) (by omega) (fun c107 => ?_) (fun c107 => ?_)) | refine Rp.if_eq (tgt := 114) dX12_termOf_107 (by decide) (fun c107 => ?_) (fun c107 => ?_)
                  · skip
                    exact absurd c107 (by decide)
                  · skip
                    refine Rp.iconst (nI 1) dX12_termOf_110 (by decide) ?_
                    refine Rp.goto (tgt := 115) dX12_termOf_111 (by decide) ?_
                    refine Rp.putZ dX12_termOf_115 fk_X12_292w rfl (by first | exact Or.inl rfl | exact Or.inr rfl | assumption) (S _ _ rfl) ?_
                    first | rw [ev_sb] | skip
                    refine Rp.lconst (1) dX12_termOf_118 (by decide) ?_
                    refine Rp.lst5 dX12_termOf_119 (by first | exact nl2_some rfl | exact nl2_none) (by decide) ?_
                    exact Rp.mono (fun r h2 p => fz r h2 true (fun _ => rfl) (fun z => absurd ⟨rfl, rfl⟩ z) p) (k121 1 0 true (by decide) (fun z => absurd z.2 (by decide)))
        · skip
          refine Rp.iload dX12_termOf_81 rfl ?_
          refine Rp.bipush (nI 42) dX12_termOf_83 (by decide) ?_
          refine Rp.callS1 M_X12_sign dX12_termOf_85 mo_X12_sign lk_X12_241 (Nat.le_of_ble_eq_true rfl) (Nat.le_of_ble_eq_true rfl) (s_signN (d + 8 * (8 - dep) + 3) 42) (fun v1 h1 p1 x1 => ?_)
          rw [p1.1, p1.2]
          try dsimp only [Option.toList, List.cons_append, List.nil_append, List.append]
          first | ((with_reducible show Rp _ _ _ _ (.int (nI _) :: .int (nI _) :: _) _ _); refine Rp.icmp_eqN (tgt := 121) dX12_termOf_88 (by decide) (by omega) (fun c88 => ?_) (fun c88 => ?_)) | refine Rp.icmp_eq (tgt := 121) dX12_termOf_88 (by decide) (fun c88 => ?_) (fun c88 => ?_)
          · skip
            exfalso; omega
          · skip
            refine Rp.lload dX12_termOf_91 rfl ?_
            refine Rp.lconst (0) dX12_termOf_93 (by decide) ?_
            refine Rp.lcmp dX12_termOf_94 ?_
            first | ((with_reducible show Rp _ _ _ _ (.int (b2i _) :: _) _ _); refine Rp.if_neB (tgt := 121) dX12_termOf_95 (by decide) (fun c95 => ?_) (fun c95 => ?_)) | ((with_reducible show Rp _ _ _ _ (.int (nI _) :: _) _ _); refine Rp.if_neN (tgt := 121) dX12_termOf_95 (by decide) (by omega) (fun c95 => ?_) (fun c95 => ?_)) | refine Rp.if_ne (tgt := 121) dX12_termOf_95 (by decide) (fun c95 => ?_) (fun c95 => ?_)
            · skip
              exact absurd c95 (by decide)
            · skip
              refine Rp.aload_n dX12_termOf_98 rfl rfl ?_
              refine Rp.aload_n dX12_termOf_99 rfl rfl ?_
              refine Rp.getI dX12_termOf_100 fk_X12_292 rfl (S _ _ rfl) ?_
              first | rw [ev_b] | skip
              first | ((with_reducible show Rp _ _ _ _ (.int (b2i _) :: _) _ _); refine Rp.if_neB (tgt := 110) dX12_termOf_103 (by decide) (fun c103 => ?_) (fun c103 => ?_)) | ((with_reducible show Rp _ _ _ _ (.int (nI _) :: _) _ _); refine Rp.if_neN (tgt := 110) dX12_termOf_103 (by decide) (by omega) (fun c103 => ?_) (fun c103 => ?_)) | refine Rp.if_ne (tgt := 110) dX12_termOf_103 (by decide) (fun c103 => ?_) (fun c103 => ?_)
              · skip
                refine Rp.iconst (nI 1) dX12_termOf_110 (by decide) ?_
                refine Rp.goto (tgt := 115) dX12_termOf_111 (by decide) ?_
                refine Rp.putZ dX12_termOf_115 fk_X12_292w rfl (by first | exact Or.inl rfl | exact Or.inr rfl | assumption) (S _ _ rfl) ?_
                first | rw [ev_sb] | skip
                refine Rp.lconst (1) dX12_termOf_118 (by decide) ?_
                refine Rp.lst5 dX12_termOf_119 (by first | exact nl2_some rfl | exact nl2_none) (by decide) ?_
                exact Rp.mono (fun r h2 p => fz r h2 true (fun z => absurd z.2 (by decide)) (fun _ => rfl) p) (k121 1 0 true (by decide) (fun z => absurd z.2 (by decide)))
              · skip
                exact absurd c103 (by decide)
      · have fz : ∀ (r : Option Value) (h2 : AH), evS live b1 ((arO 13 y ((D1 w 0).getD 0)).bind (D2 w)) h (B + i') r h2 → evS live b (((D1 w 0).bind fun z => arO 13 y z).bind (D2 w)) h (B + i') r h2 := by
          intro r h2 p
          obtain ⟨X, b5, r1, r2, r3⟩ := p
          refine ⟨X, b5, r1, r2, ?_⟩
          rw [Option.bind_assoc]
          exact evC_bind p0 r3
        refine Rp.iload dX12_termOf_81 rfl ?_
        refine Rp.bipush (nI 42) dX12_termOf_83 (by decide) ?_
        refine Rp.callS1 M_X12_sign dX12_termOf_85 mo_X12_sign lk_X12_241 (Nat.le_of_ble_eq_true rfl) (Nat.le_of_ble_eq_true rfl) (s_signN (d + 8 * (8 - dep) + 3) 42) (fun v1 h1 p1 x1 => ?_)
        rw [p1.1, p1.2]
        try dsimp only [Option.toList, List.cons_append, List.nil_append, List.append]
        first | ((with_reducible show Rp _ _ _ _ (.int (nI _) :: .int (nI _) :: _) _ _); refine Rp.icmp_eqN (tgt := 121) dX12_termOf_88 (by decide) (by omega) (fun c88 => ?_) (fun c88 => ?_)) | refine Rp.icmp_eq (tgt := 121) dX12_termOf_88 (by decide) (fun c88 => ?_) (fun c88 => ?_)
        · skip
          exfalso; omega
        · skip
          refine Rp.lload dX12_termOf_91 rfl ?_
          refine Rp.lconst (0) dX12_termOf_93 (by decide) ?_
          refine Rp.lcmp dX12_termOf_94 ?_
          first | ((with_reducible show Rp _ _ _ _ (.int (b2i _) :: _) _ _); refine Rp.if_neB (tgt := 121) dX12_termOf_95 (by decide) (fun c95 => ?_) (fun c95 => ?_)) | ((with_reducible show Rp _ _ _ _ (.int (nI _) :: _) _ _); refine Rp.if_neN (tgt := 121) dX12_termOf_95 (by decide) (by omega) (fun c95 => ?_) (fun c95 => ?_)) | refine Rp.if_ne (tgt := 121) dX12_termOf_95 (by decide) (fun c95 => ?_) (fun c95 => ?_)
          · skip
            exact Rp.mono (fun r h2 p => fz r h2 p) (k121 Z _ b1 hZ (fun z => by have q := evC_full p0 z; refine ⟨q.1, ?_, q.2⟩; intro z0; rw [z0] at q; exact hZ q.2.1))
          · skip
            exact absurd ((lcmp_0 _ _).mp c95) hZ
end E10
