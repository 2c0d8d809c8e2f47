section E0
variable {h : AH} {B : Nat} {ord : Bool} {c v : Nat → Nat} {T : Nat} {w : Nat → Int32}
theorem C_0 (S : ShOK h) (R : RfOK h) (K : EK h B c v T) (E : EO h ord w) {f : Nat} (ih : CIH h B ord c v T w f) {d dep i lv a i' lv' : Nat} {cd : List (Nat × Nat)} {D : DN} {live b : Bool} (hd : dep ≤ 8) (hi : i ≤ T) (hl : lv ≤ 50) (hP : Pst ord c v (Prs ord c v f) 0 dep i lv a = .ok (i', lv', cd, D)) : cR h B w live b d 0 dep i i' D := by
  have hT := K.1
  have hc := K.2.1
  obtain ⟨i1, lv1, cd1, D1, cd2, D2, x1, x2, -, rfl⟩ := seqL_inv hP
  have o1 := Prs_ok (ord := ord) (v := v) hc f 1 dep i lv a (by decide) hi hl
  rw [x1] at o1
  have q1 := ih 1 d dep i lv a i1 lv1 cd1 D1 live b (by decide) hd hi hl x1
  have q2 := fun b => ih 2 d dep i1 lv1 _ i' lv' cd2 D2 live b (by decide) hd o1.2.1 o1.2.2.2.1 x2
  show Rp (d + 8 * (8 - dep) + 9) M_X12_testOf 0 [some (.ref aM), some (.int (b2i live)), none, none] [] (evH h (nI (B + i)) (b2i b)) (evT live b ((D1 w 0).bind (D2 w)) h (B + i'))
  refine Rp.aload_n dX12_testOf_0 rfl rfl ?_
  refine Rp.iload_n dX12_testOf_1 rfl ?_
  refine Rp.callV1 M_X12_bothOf (ci := 12) dX12_testOf_2 mo_X12_bothOf lk_X12_331 (by decide) rfl rfl (S _ _ rfl) (Nat.le_of_ble_eq_true rfl) (Nat.le_of_ble_eq_true rfl) (q1) (fun v1 h1 p1 x1 => ?_)
  obtain ⟨t, b1, rfl, rfl, p1⟩ := p1
  try dsimp only [Option.toList, List.cons_append, List.nil_append, List.append]
  refine Rp.ist2 dX12_testOf_5 (by first | exact nl2_some rfl | exact nl2_none) (by decide) ?_
  exact Rp.mono (fun r h2 p => by obtain ⟨t2, b2, r1, r2, r3⟩ := p; exact ⟨t2, b2, r1, r2, evCT_bind p1 r3⟩) (q2 b1 t none)
end E0
section E1
variable {h : AH} {B : Nat} {ord : Bool} {c v : Nat → Nat} {T : Nat} {w : Nat → Int32}
theorem C_1 (S : ShOK h) (R : RfOK h) (K : EK h B c v T) (E : EO h ord w) {f : Nat} (ih : CIH h B ord c v T w f) {d dep i lv a i' lv' : Nat} {cd : List (Nat × Nat)} {D : DN} {live b : Bool} (hd : dep ≤ 8) (hi : i ≤ T) (hl : lv ≤ 50) (hP : Pst ord c v (Prs ord c v f) 1 dep i lv a = .ok (i', lv', cd, D)) : cR h B w live b d 1 dep i i' D := by
  have hT := K.1
  have hc := K.2.1
  obtain ⟨i1, lv1, cd1, D1, cd2, D2, x1, x2, -, rfl⟩ := seqL_inv hP
  have o1 := Prs_ok (ord := ord) (v := v) hc f 3 dep i lv a (by decide) hi hl
  rw [x1] at o1
  have q1 := ih 3 d dep i lv a i1 lv1 cd1 D1 live b (by decide) hd hi hl x1
  have q2 := fun b => ih 4 d dep i1 lv1 _ i' lv' cd2 D2 live b (by decide) hd o1.2.1 o1.2.2.2.1 x2
  show Rp (d + 8 * (8 - dep) + 8) M_X12_bothOf 0 [some (.ref aM), some (.int (b2i live)), none, none] [] (evH h (nI (B + i)) (b2i b)) (evT live b ((D1 w 0).bind (D2 w)) h (B + i'))
  refine Rp.aload_n dX12_bothOf_0 rfl rfl ?_
  refine Rp.iload_n dX12_bothOf_1 rfl ?_
  refine Rp.callV1 M_X12_plainOf (ci := 12) dX12_bothOf_2 mo_X12_plainOf lk_X12_334 (by decide) rfl rfl (S _ _ rfl) (Nat.le_of_ble_eq_true rfl) (Nat.le_of_ble_eq_true rfl) (plain0e (nl2_some rfl) q1) (fun v1 h1 p1 x1 => ?_)
  obtain ⟨t, b1, rfl, rfl, p1⟩ := p1
  try dsimp only [Option.toList, List.cons_append, List.nil_append, List.append]
  refine Rp.ist2 dX12_bothOf_5 (by first | exact nl2_some rfl | exact nl2_none) (by decide) ?_
  exact Rp.mono (fun r h2 p => by obtain ⟨t2, b2, r1, r2, r3⟩ := p; exact ⟨t2, b2, r1, r2, evCT_bind p1 r3⟩) (q2 b1 t none)
end E1
section E2
variable {h : AH} {B : Nat} {ord : Bool} {c v : Nat → Nat} {T : Nat} {w : Nat → Int32}
theorem C_2 (S : ShOK h) (R : RfOK h) (K : EK h B c v T) (E : EO h ord w) {f : Nat} (ih : CIH h B ord c v T w f) {d dep i lv a i' lv' : Nat} {cd : List (Nat × Nat)} {D : DN} {live b : Bool} (hd : dep ≤ 8) (hi : i ≤ T) (hl : lv ≤ 50) (hP : Pst ord c v (Prs ord c v f) 2 dep i lv a = .ok (i', lv', cd, D)) : cR h B w live b d 2 dep i i' D := by
  have hT := K.1
  have hc := K.2.1
  have hP : (if c i = 6 then jmpL 4 (Prs ord c v f 1 dep (i + 1) lv (a + 1)) a (Prs ord c v f 2 dep) else .ok (i, lv, [], fun _ x => some x)) = .ok (i', lv', cd, D) := hP
  intro t l3
  show Rp (d + 8 * (8 - dep) + 9) M_X12_testOf 6 [some (.ref aM), some (.int (b2i live)), some (.int (b2i t)), l3] [] (evH h (nI (B + i)) (b2i b)) (evT live b (D w (bZ t)) h (B + i'))
  refine Rp.aload_n dX12_testOf_6 rfl rfl ?_
  refine Rp.bipush (nI 6) dX12_testOf_7 (by decide) ?_
  refine Rp.callV1 M_X12_passes0 (ci := 12) dX12_testOf_9 mo_X12_passes0 lk_X12_306 (by decide) rfl rfl (S _ _ rfl) (Nat.le_of_ble_eq_true rfl) (Nat.le_of_ble_eq_true rfl) (s_passes (d + 8 * (8 - dep) + 7) S R K hi (b2i b) 6 (by decide)) (fun v1 h1 p1 x1 => ?_)
  skip
  try dsimp only [Option.toList, List.cons_append, List.nil_append, List.append]
  skip
  rcases p1 with ⟨e, rfl, rfl⟩ | ⟨e, rfl, rfl⟩
  · dsimp only [Option.toList, List.cons_append, List.nil_append, List.append]
    rw [if_pos e] at hP
    have hi1 := lt_of_code hc hi (by rw [e]; decide)
    obtain ⟨i1, lv1, cd1, D1, cd2, D2, x1, x2, -, rfl⟩ := jmpL_inv hP
    have o1 := Prs_ok (ord := ord) (v := v) hc f 1 dep (i + 1) lv (a + 1) (by decide) hi1 hl
    rw [x1] at o1
    have q1 := fun live => ih 1 d dep (i + 1) lv (a + 1) i1 lv1 cd1 D1 live b (by decide) hd hi1 hl x1
    have q2 := fun b => ih 2 d dep i1 lv1 _ i' lv' cd2 D2 live b (by decide) hd o1.2.1 o1.2.2.2.1 x2
    cases t
    · cases live
      · skip
        first | ((with_reducible show Rp _ _ _ _ (.int (b2i _) :: _) _ _); refine Rp.if_eqB (tgt := 50) dX12_testOf_12 (by decide) (fun c12 => ?_) (fun c12 => ?_)) | ((with_reducible show Rp _ _ _ _ (.int (nI _) :: _) _ _); refine Rp.if_eqN (tgt := 50) dX12_testOf_12 (by decide) (by omega) (fun c12 => ?_) (fun c12 => ?_)) | refine Rp.if_eq (tgt := 50) dX12_testOf_12 (by decide) (fun c12 => ?_) (fun c12 => ?_)
        · first | (exfalso; omega) | exact absurd c12 (by decide) | exact absurd (by decide) c12
        refine Rp.aload_n dX12_testOf_15 rfl rfl ?_
        refine Rp.iload_n dX12_testOf_16 rfl ?_
        first | ((with_reducible show Rp _ _ _ _ (.int (b2i _) :: _) _ _); refine Rp.if_eqB (tgt := 28) dX12_testOf_17 (by decide) (fun c17 => ?_) (fun c17 => ?_)) | ((with_reducible show Rp _ _ _ _ (.int (nI _) :: _) _ _); refine Rp.if_eqN (tgt := 28) dX12_testOf_17 (by decide) (by omega) (fun c17 => ?_) (fun c17 => ?_)) | refine Rp.if_eq (tgt := 28) dX12_testOf_17 (by decide) (fun c17 => ?_) (fun c17 => ?_)
        rotate_left
        · first | (exfalso; omega) | exact absurd c17 (by decide) | exact absurd (by decide) c17
        refine Rp.iconst (nI 0) dX12_testOf_28 (by decide) ?_
        refine Rp.callV1 M_X12_bothOf (ci := 12) dX12_testOf_29 mo_X12_bothOf lk_X12_331 (by decide) rfl rfl (S _ _ rfl) (Nat.le_of_ble_eq_true rfl) (Nat.le_of_ble_eq_true rfl) (q1 false) (fun v1 h1 p1 x1 => ?_)
        obtain ⟨t2, b1, rfl, rfl, p1⟩ := p1
        try dsimp only [Option.toList, List.cons_append, List.nil_append, List.append]
        skip
        cases t2
        · skip
          refine Rp.ist3 dX12_testOf_32 (by first | exact nl2_some rfl | exact nl2_none) (by decide) ?_
          refine Rp.iload_n dX12_testOf_33 rfl ?_
          first | ((with_reducible show Rp _ _ _ _ (.int (b2i _) :: _) _ _); refine Rp.if_neB (tgt := 41) dX12_testOf_34 (by decide) (fun c34 => ?_) (fun c34 => ?_)) | ((with_reducible show Rp _ _ _ _ (.int (nI _) :: _) _ _); refine Rp.if_neN (tgt := 41) dX12_testOf_34 (by decide) (by omega) (fun c34 => ?_) (fun c34 => ?_)) | refine Rp.if_ne (tgt := 41) dX12_testOf_34 (by decide) (fun c34 => ?_) (fun c34 => ?_)
          · skip
            first | (exfalso; omega) | exact absurd c34 (by decide) | exact absurd (by decide) c34
          · skip
            refine Rp.iload_n dX12_testOf_37 rfl ?_
            first | ((with_reducible show Rp _ _ _ _ (.int (b2i _) :: _) _ _); refine Rp.if_eqB (tgt := 45) dX12_testOf_38 (by decide) (fun c38 => ?_) (fun c38 => ?_)) | ((with_reducible show Rp _ _ _ _ (.int (nI _) :: _) _ _); refine Rp.if_eqN (tgt := 45) dX12_testOf_38 (by decide) (by omega) (fun c38 => ?_) (fun c38 => ?_)) | refine Rp.if_eq (tgt := 45) dX12_testOf_38 (by decide) (fun c38 => ?_) (fun c38 => ?_)
            · skip
              refine Rp.iconst (nI 0) dX12_testOf_45 (by decide) ?_
              refine Rp.ist2 dX12_testOf_46 (by first | exact nl2_some rfl | exact nl2_none) (by decide) ?_
              refine Rp.goto (tgt := 6) dX12_testOf_47 (by decide) ?_
              exact Rp.mono (fun r h2 p => by obtain ⟨t3, b3, r1, r2, r3⟩ := p; refine ⟨t3, b3, r1, r2, ?_⟩; exact evCT_bind (D1 := if bZ false = (4 : Int) - 3 then some (bZ false) else D1 w 0) (by rw [if_neg (by decide)]; exact p1) r3) (q2 b1 false (some (.int (b2i false))))
            · skip
              first | (exfalso; omega) | exact absurd c38 (by decide) | exact absurd (by decide) c38
        · skip
          refine Rp.ist3 dX12_testOf_32 (by first | exact nl2_some rfl | exact nl2_none) (by decide) ?_
          refine Rp.iload_n dX12_testOf_33 rfl ?_
          first | ((with_reducible show Rp _ _ _ _ (.int (b2i _) :: _) _ _); refine Rp.if_neB (tgt := 41) dX12_testOf_34 (by decide) (fun c34 => ?_) (fun c34 => ?_)) | ((with_reducible show Rp _ _ _ _ (.int (nI _) :: _) _ _); refine Rp.if_neN (tgt := 41) dX12_testOf_34 (by decide) (by omega) (fun c34 => ?_) (fun c34 => ?_)) | refine Rp.if_ne (tgt := 41) dX12_testOf_34 (by decide) (fun c34 => ?_) (fun c34 => ?_)
          · skip
            first | (exfalso; omega) | exact absurd c34 (by decide) | exact absurd (by decide) c34
          · skip
            refine Rp.iload_n dX12_testOf_37 rfl ?_
            first | ((with_reducible show Rp _ _ _ _ (.int (b2i _) :: _) _ _); refine Rp.if_eqB (tgt := 45) dX12_testOf_38 (by decide) (fun c38 => ?_) (fun c38 => ?_)) | ((with_reducible show Rp _ _ _ _ (.int (nI _) :: _) _ _); refine Rp.if_eqN (tgt := 45) dX12_testOf_38 (by decide) (by omega) (fun c38 => ?_) (fun c38 => ?_)) | refine Rp.if_eq (tgt := 45) dX12_testOf_38 (by decide) (fun c38 => ?_) (fun c38 => ?_)
            · skip
              first | (exfalso; omega) | exact absurd c38 (by decide) | exact absurd (by decide) c38
            · skip
              refine Rp.iconst (nI 1) dX12_testOf_41 (by decide) ?_
              refine Rp.goto (tgt := 46) dX12_testOf_42 (by decide) ?_
              refine Rp.ist2 dX12_testOf_46 (by first | exact nl2_some rfl | exact nl2_none) (by decide) ?_
              refine Rp.goto (tgt := 6) dX12_testOf_47 (by decide) ?_
              exact Rp.mono (fun r h2 p => by obtain ⟨t3, b3, r1, r2, r3⟩ := p; refine ⟨t3, b3, r1, r2, ?_⟩; exact evCT_bind (D1 := if bZ false = (4 : Int) - 3 then some (bZ false) else D1 w 0) (by rw [if_neg (by decide)]; exact p1) r3) (q2 b1 true (some (.int (b2i true))))
      · skip
        first | ((with_reducible show Rp _ _ _ _ (.int (b2i _) :: _) _ _); refine Rp.if_eqB (tgt := 50) dX12_testOf_12 (by decide) (fun c12 => ?_) (fun c12 => ?_)) | ((with_reducible show Rp _ _ _ _ (.int (nI _) :: _) _ _); refine Rp.if_eqN (tgt := 50) dX12_testOf_12 (by decide) (by omega) (fun c12 => ?_) (fun c12 => ?_)) | refine Rp.if_eq (tgt := 50) dX12_testOf_12 (by decide) (fun c12 => ?_) (fun c12 => ?_)
        · first | (exfalso; omega) | exact absurd c12 (by decide) | exact absurd (by decide) c12
        refine Rp.aload_n dX12_testOf_15 rfl rfl ?_
        refine Rp.iload_n dX12_testOf_16 rfl ?_
        first | ((with_reducible show Rp _ _ _ _ (.int (b2i _) :: _) _ _); refine Rp.if_eqB (tgt := 28) dX12_testOf_17 (by decide) (fun c17 => ?_) (fun c17 => ?_)) | ((with_reducible show Rp _ _ _ _ (.int (nI _) :: _) _ _); refine Rp.if_eqN (tgt := 28) dX12_testOf_17 (by decide) (by omega) (fun c17 => ?_) (fun c17 => ?_)) | refine Rp.if_eq (tgt := 28) dX12_testOf_17 (by decide) (fun c17 => ?_) (fun c17 => ?_)
        · first | (exfalso; omega) | exact absurd c17 (by decide) | exact absurd (by decide) c17
        refine Rp.iload_n dX12_testOf_20 rfl ?_
        first | ((with_reducible show Rp _ _ _ _ (.int (b2i _) :: _) _ _); refine Rp.if_neB (tgt := 28) dX12_testOf_21 (by decide) (fun c21 => ?_) (fun c21 => ?_)) | ((with_reducible show Rp _ _ _ _ (.int (nI _) :: _) _ _); refine Rp.if_neN (tgt := 28) dX12_testOf_21 (by decide) (by omega) (fun c21 => ?_) (fun c21 => ?_)) | refine Rp.if_ne (tgt := 28) dX12_testOf_21 (by decide) (fun c21 => ?_) (fun c21 => ?_)
        · first | (exfalso; omega) | exact absurd c21 (by decide) | exact absurd (by decide) c21
        refine Rp.iconst (nI 1) dX12_testOf_24 (by decide) ?_
        refine Rp.goto (tgt := 29) dX12_testOf_25 (by decide) ?_
        refine Rp.callV1 M_X12_bothOf (ci := 12) dX12_testOf_29 mo_X12_bothOf lk_X12_331 (by decide) rfl rfl (S _ _ rfl) (Nat.le_of_ble_eq_true rfl) (Nat.le_of_ble_eq_true rfl) (q1 true) (fun v1 h1 p1 x1 => ?_)
        obtain ⟨t2, b1, rfl, rfl, p1⟩ := p1
        try dsimp only [Option.toList, List.cons_append, List.nil_append, List.append]
        skip
        cases t2
        · skip
          refine Rp.ist3 dX12_testOf_32 (by first | exact nl2_some rfl | exact nl2_none) (by decide) ?_
          refine Rp.iload_n dX12_testOf_33 rfl ?_
          first | ((with_reducible show Rp _ _ _ _ (.int (b2i _) :: _) _ _); refine Rp.if_neB (tgt := 41) dX12_testOf_34 (by decide) (fun c34 => ?_) (fun c34 => ?_)) | ((with_reducible show Rp _ _ _ _ (.int (nI _) :: _) _ _); refine Rp.if_neN (tgt := 41) dX12_testOf_34 (by decide) (by omega) (fun c34 => ?_) (fun c34 => ?_)) | refine Rp.if_ne (tgt := 41) dX12_testOf_34 (by decide) (fun c34 => ?_) (fun c34 => ?_)
          · skip
            first | (exfalso; omega) | exact absurd c34 (by decide) | exact absurd (by decide) c34
          · skip
            refine Rp.iload_n dX12_testOf_37 rfl ?_
            first | ((with_reducible show Rp _ _ _ _ (.int (b2i _) :: _) _ _); refine Rp.if_eqB (tgt := 45) dX12_testOf_38 (by decide) (fun c38 => ?_) (fun c38 => ?_)) | ((with_reducible show Rp _ _ _ _ (.int (nI _) :: _) _ _); refine Rp.if_eqN (tgt := 45) dX12_testOf_38 (by decide) (by omega) (fun c38 => ?_) (fun c38 => ?_)) | refine Rp.if_eq (tgt := 45) dX12_testOf_38 (by decide) (fun c38 => ?_) (fun c38 => ?_)
            · skip
              refine Rp.iconst (nI 0) dX12_testOf_45 (by decide) ?_
              refine Rp.ist2 dX12_testOf_46 (by first | exact nl2_some rfl | exact nl2_none) (by decide) ?_
              refine Rp.goto (tgt := 6) dX12_testOf_47 (by decide) ?_
              exact Rp.mono (fun r h2 p => by obtain ⟨t3, b3, r1, r2, r3⟩ := p; refine ⟨t3, b3, r1, r2, ?_⟩; exact evCT_bind (D1 := if bZ false = (4 : Int) - 3 then some (bZ false) else D1 w 0) (by rw [if_neg (by decide)]; exact p1) r3) (q2 b1 false (some (.int (b2i false))))
            · skip
              first | (exfalso; omega) | exact absurd c38 (by decide) | exact absurd (by decide) c38
        · skip
          refine Rp.ist3 dX12_testOf_32 (by first | exact nl2_some rfl | exact nl2_none) (by decide) ?_
          refine Rp.iload_n dX12_testOf_33 rfl ?_
          first | ((with_reducible show Rp _ _ _ _ (.int (b2i _) :: _) _ _); refine Rp.if_neB (tgt := 41) dX12_testOf_34 (by decide) (fun c34 => ?_) (fun c34 => ?_)) | ((with_reducible show Rp _ _ _ _ (.int (nI _) :: _) _ _); refine Rp.if_neN (tgt := 41) dX12_testOf_34 (by decide) (by omega) (fun c34 => ?_) (fun c34 => ?_)) | refine Rp.if_ne (tgt := 41) dX12_testOf_34 (by decide) (fun c34 => ?_) (fun c34 => ?_)
          · skip
            first | (exfalso; omega) | exact absurd c34 (by decide) | exact absurd (by decide) c34
          · skip
            refine Rp.iload_n dX12_testOf_37 rfl ?_
            first | ((with_reducible show Rp _ _ _ _ (.int (b2i _) :: _) _ _); refine Rp.if_eqB (tgt := 45) dX12_testOf_38 (by decide) (fun c38 => ?_) (fun c38 => ?_)) | ((with_reducible show Rp _ _ _ _ (.int (nI _) :: _) _ _); refine Rp.if_eqN (tgt := 45) dX12_testOf_38 (by decide) (by omega) (fun c38 => ?_) (fun c38 => ?_)) | refine Rp.if_eq (tgt := 45) dX12_testOf_38 (by decide) (fun c38 => ?_) (fun c38 => ?_)
            · skip
              first | (exfalso; omega) | exact absurd c38 (by decide) | exact absurd (by decide) c38
            · skip
              refine Rp.iconst (nI 1) dX12_testOf_41 (by decide) ?_
              refine Rp.goto (tgt := 46) dX12_testOf_42 (by decide) ?_
              refine Rp.ist2 dX12_testOf_46 (by first | exact nl2_some rfl | exact nl2_none) (by decide) ?_
              refine Rp.goto (tgt := 6) dX12_testOf_47 (by decide) ?_
              exact Rp.mono (fun r h2 p => by obtain ⟨t3, b3, r1, r2, r3⟩ := p; refine ⟨t3, b3, r1, r2, ?_⟩; exact evCT_bind (D1 := if bZ false = (4 : Int) - 3 then some (bZ false) else D1 w 0) (by rw [if_neg (by decide)]; exact p1) r3) (q2 b1 true (some (.int (b2i true))))
    · cases live
      · skip
        first | ((with_reducible show Rp _ _ _ _ (.int (b2i _) :: _) _ _); refine Rp.if_eqB (tgt := 50) dX12_testOf_12 (by decide) (fun c12 => ?_) (fun c12 => ?_)) | ((with_reducible show Rp _ _ _ _ (.int (nI _) :: _) _ _); refine Rp.if_eqN (tgt := 50) dX12_testOf_12 (by decide) (by omega) (fun c12 => ?_) (fun c12 => ?_)) | refine Rp.if_eq (tgt := 50) dX12_testOf_12 (by decide) (fun c12 => ?_) (fun c12 => ?_)
        · first | (exfalso; omega) | exact absurd c12 (by decide) | exact absurd (by decide) c12
        refine Rp.aload_n dX12_testOf_15 rfl rfl ?_
        refine Rp.iload_n dX12_testOf_16 rfl ?_
        first | ((with_reducible show Rp _ _ _ _ (.int (b2i _) :: _) _ _); refine Rp.if_eqB (tgt := 28) dX12_testOf_17 (by decide) (fun c17 => ?_) (fun c17 => ?_)) | ((with_reducible show Rp _ _ _ _ (.int (nI _) :: _) _ _); refine Rp.if_eqN (tgt := 28) dX12_testOf_17 (by decide) (by omega) (fun c17 => ?_) (fun c17 => ?_)) | refine Rp.if_eq (tgt := 28) dX12_testOf_17 (by decide) (fun c17 => ?_) (fun c17 => ?_)
        rotate_left
        · first | (exfalso; omega) | exact absurd c17 (by decide) | exact absurd (by decide) c17
        refine Rp.iconst (nI 0) dX12_testOf_28 (by decide) ?_
        refine Rp.callV1 M_X12_bothOf (ci := 12) dX12_testOf_29 mo_X12_bothOf lk_X12_331 (by decide) rfl rfl (S _ _ rfl) (Nat.le_of_ble_eq_true rfl) (Nat.le_of_ble_eq_true rfl) (q1 false) (fun v1 h1 p1 x1 => ?_)
        obtain ⟨t2, b1, rfl, rfl, p1⟩ := p1
        have eb : b = b1 := by unfold evCT at p1; rw [if_neg (fun z => absurd z.1 (by decide))] at p1; exact p1.symm
        subst eb
        try dsimp only [Option.toList, List.cons_append, List.nil_append, List.append]
        skip
        refine Rp.ist3 dX12_testOf_32 (by first | exact nl2_some rfl | exact nl2_none) (by decide) ?_
        refine Rp.iload_n dX12_testOf_33 rfl ?_
        first | ((with_reducible show Rp _ _ _ _ (.int (b2i _) :: _) _ _); refine Rp.if_neB (tgt := 41) dX12_testOf_34 (by decide) (fun c34 => ?_) (fun c34 => ?_)) | ((with_reducible show Rp _ _ _ _ (.int (nI _) :: _) _ _); refine Rp.if_neN (tgt := 41) dX12_testOf_34 (by decide) (by omega) (fun c34 => ?_) (fun c34 => ?_)) | refine Rp.if_ne (tgt := 41) dX12_testOf_34 (by decide) (fun c34 => ?_) (fun c34 => ?_)
        · skip
          refine Rp.iconst (nI 1) dX12_testOf_41 (by decide) ?_
          refine Rp.goto (tgt := 46) dX12_testOf_42 (by decide) ?_
          refine Rp.ist2 dX12_testOf_46 (by first | exact nl2_some rfl | exact nl2_none) (by decide) ?_
          refine Rp.goto (tgt := 6) dX12_testOf_47 (by decide) ?_
          exact Rp.mono (fun r h2 p => by obtain ⟨t2, b3, r1, r2, r3⟩ := p; refine ⟨t2, b3, r1, r2, ?_⟩; exact evCT_bind (D1 := if bZ true = (4 : Int) - 3 then some (bZ true) else D1 w 0) (show evCT false b _ b true by rw [if_pos (by decide)]; obtain ⟨-, -, -, -, z⟩ := evT_some (live := false) (b := b) (t := true) (h := h) (g := 0); exact evCT_one) r3) (q2 b true (some (.int (b2i t2))))
        · skip
          first | (exfalso; omega) | exact absurd c34 (by decide) | exact absurd (by decide) c34
      · skip
        first | ((with_reducible show Rp _ _ _ _ (.int (b2i _) :: _) _ _); refine Rp.if_eqB (tgt := 50) dX12_testOf_12 (by decide) (fun c12 => ?_) (fun c12 => ?_)) | ((with_reducible show Rp _ _ _ _ (.int (nI _) :: _) _ _); refine Rp.if_eqN (tgt := 50) dX12_testOf_12 (by decide) (by omega) (fun c12 => ?_) (fun c12 => ?_)) | refine Rp.if_eq (tgt := 50) dX12_testOf_12 (by decide) (fun c12 => ?_) (fun c12 => ?_)
        · first | (exfalso; omega) | exact absurd c12 (by decide) | exact absurd (by decide) c12
        refine Rp.aload_n dX12_testOf_15 rfl rfl ?_
        refine Rp.iload_n dX12_testOf_16 rfl ?_
        first | ((with_reducible show Rp _ _ _ _ (.int (b2i _) :: _) _ _); refine Rp.if_eqB (tgt := 28) dX12_testOf_17 (by decide) (fun c17 => ?_) (fun c17 => ?_)) | ((with_reducible show Rp _ _ _ _ (.int (nI _) :: _) _ _); refine Rp.if_eqN (tgt := 28) dX12_testOf_17 (by decide) (by omega) (fun c17 => ?_) (fun c17 => ?_)) | refine Rp.if_eq (tgt := 28) dX12_testOf_17 (by decide) (fun c17 => ?_) (fun c17 => ?_)
        · first | (exfalso; omega) | exact absurd c17 (by decide) | exact absurd (by decide) c17
        refine Rp.iload_n dX12_testOf_20 rfl ?_
        first | ((with_reducible show Rp _ _ _ _ (.int (b2i _) :: _) _ _); refine Rp.if_neB (tgt := 28) dX12_testOf_21 (by decide) (fun c21 => ?_) (fun c21 => ?_)) | ((with_reducible show Rp _ _ _ _ (.int (nI _) :: _) _ _); refine Rp.if_neN (tgt := 28) dX12_testOf_21 (by decide) (by omega) (fun c21 => ?_) (fun c21 => ?_)) | refine Rp.if_ne (tgt := 28) dX12_testOf_21 (by decide) (fun c21 => ?_) (fun c21 => ?_)
        rotate_left
        · first | (exfalso; omega) | exact absurd c21 (by decide) | exact absurd (by decide) c21
        refine Rp.iconst (nI 0) dX12_testOf_28 (by decide) ?_
        refine Rp.callV1 M_X12_bothOf (ci := 12) dX12_testOf_29 mo_X12_bothOf lk_X12_331 (by decide) rfl rfl (S _ _ rfl) (Nat.le_of_ble_eq_true rfl) (Nat.le_of_ble_eq_true rfl) (q1 false) (fun v1 h1 p1 x1 => ?_)
        obtain ⟨t2, b1, rfl, rfl, p1⟩ := p1
        have eb : b = b1 := by unfold evCT at p1; rw [if_neg (fun z => absurd z.1 (by decide))] at p1; exact p1.symm
        subst eb
        try dsimp only [Option.toList, List.cons_append, List.nil_append, List.append]
        skip
        refine Rp.ist3 dX12_testOf_32 (by first | exact nl2_some rfl | exact nl2_none) (by decide) ?_
        refine Rp.iload_n dX12_testOf_33 rfl ?_
        first | ((with_reducible show Rp _ _ _ _ (.int (b2i _) :: _) _ _); refine Rp.if_neB (tgt := 41) dX12_testOf_34 (by decide) (fun c34 => ?_) (fun c34 => ?_)) | ((with_reducible show Rp _ _ _ _ (.int (nI _) :: _) _ _); refine Rp.if_neN (tgt := 41) dX12_testOf_34 (by decide) (by omega) (fun c34 => ?_) (fun c34 => ?_)) | refine Rp.if_ne (tgt := 41) dX12_testOf_34 (by decide) (fun c34 => ?_) (fun c34 => ?_)
        · skip
          refine Rp.iconst (nI 1) dX12_testOf_41 (by decide) ?_
          refine Rp.goto (tgt := 46) dX12_testOf_42 (by decide) ?_
          refine Rp.ist2 dX12_testOf_46 (by first | exact nl2_some rfl | exact nl2_none) (by decide) ?_
          refine Rp.goto (tgt := 6) dX12_testOf_47 (by decide) ?_
          exact Rp.mono (fun r h2 p => by obtain ⟨t2, b3, r1, r2, r3⟩ := p; refine ⟨t2, b3, r1, r2, ?_⟩; exact evCT_bind (D1 := if bZ true = (4 : Int) - 3 then some (bZ true) else D1 w 0) (show evCT true b _ b true by rw [if_pos (by decide)]; obtain ⟨-, -, -, -, z⟩ := evT_some (live := true) (b := b) (t := true) (h := h) (g := 0); exact evCT_one) r3) (q2 b true (some (.int (b2i t2))))
        · skip
          first | (exfalso; omega) | exact absurd c34 (by decide) | exact absurd (by decide) c34
  · dsimp only [Option.toList, List.cons_append, List.nil_append, List.append]
    rw [if_neg e] at hP
    cases hP
    first | ((with_reducible show Rp _ _ _ _ (.int (b2i _) :: _) _ _); refine Rp.if_eqB (tgt := 50) dX12_testOf_12 (by decide) (fun c12 => ?_) (fun c12 => ?_)) | ((with_reducible show Rp _ _ _ _ (.int (nI _) :: _) _ _); refine Rp.if_eqN (tgt := 50) dX12_testOf_12 (by decide) (by omega) (fun c12 => ?_) (fun c12 => ?_)) | refine Rp.if_eq (tgt := 50) dX12_testOf_12 (by decide) (fun c12 => ?_) (fun c12 => ?_)
    · skip
      refine Rp.iload_n dX12_testOf_50 rfl ?_
      refine Rp.zreturn dX12_testOf_51 rfl (b2i_01 t) ?_
      exact evT_some
    · skip
      first | (exfalso; omega) | exact absurd c12 (by decide) | exact absurd (by decide) c12
end E2
