section E11
variable {h : AH} {B : Nat} {ord : Bool} {c v : Nat → Nat} {T : Nat} {w : Nat → Int32}
theorem C_11 (S : ShOK h) (R : RfOK h) (K : EK h B c v T) (E : EO h ord w) {f : Nat} (ih : CIH h B ord c v T w f) {d dep i lv a i' lv' : Nat} {cd : List (Nat × Nat)} {D : DN} {live b : Bool} (hd : dep ≤ 8) (hi : i ≤ T) (hl : lv ≤ 50) (hP : Pst ord c v (Prs ord c v f) 11 dep i lv a = .ok (i', lv', cd, D)) : cR h B w live b d 11 dep i i' D := by
  have hT := K.1
  have hc := K.2.1
  have hP : (if c i = 191 then (if dep = 8 then .error i else cloL c 193 (Prs ord c v f 7 (dep + 1) (i + 1) lv a)) else prtL ord c v i lv) = .ok (i', lv', cd, D) := hP
  show Rp (d + 8 * (8 - dep) + 3) M_X12_partOf 0 [some (.ref aM), some (.int (b2i live)), none, none] [] (evH h (nI (B + i)) (b2i b)) (evS live b (D w 0) h (B + i'))
  by_cases e : c i = 191
  · rw [if_pos e] at hP
    have hi1 := lt_of_code hc hi (by rw [e]; decide)
    by_cases h8 : dep = 8
    · rw [if_pos h8] at hP; cases hP
    · rw [if_neg h8] at hP
      obtain ⟨i1, x1, e1, rfl⟩ := cloL_inv hP
      have q1 := ih 7 (d + 5) (dep + 1) (i + 1) lv a i1 lv' cd D live b (by decide) (by omega) hi1 hl x1
      have ed : d + 5 + 8 * (8 - (dep + 1)) + 5 = d + 8 * (8 - dep) + 2 := by omega
      have q1 : Rp (d + 5 + 8 * (8 - (dep + 1)) + 5) M_X12_sumOf 0 [some (.ref aM), some (.int (b2i live)), none, none, none, none, none] [] (evH h (nI (B + i + 1)) (b2i b)) (evS live b (D w 0) h (B + i1)) := q1
      rw [ed] at q1
      refine Rp.aload_n dX12_partOf_0 rfl rfl ?_
      refine Rp.bipush (nI 91) dX12_partOf_1 (by decide) ?_
      refine Rp.callS1 M_X12_sign dX12_partOf_3 mo_X12_sign lk_X12_241 (Nat.le_of_ble_eq_true rfl) (Nat.le_of_ble_eq_true rfl) (s_signN (d + 8 * (8 - dep) + 2) 91) (fun v1 h1 p1 x1 => ?_)
      rw [p1.1, p1.2]
      try dsimp only [Option.toList, List.cons_append, List.nil_append, List.append]
      refine Rp.callV1 M_X12_passes0 (ci := 12) dX12_partOf_6 mo_X12_passes0 lk_X12_306 (by decide) rfl rfl (S _ _ rfl) (Nat.le_of_ble_eq_true rfl) (Nat.le_of_ble_eq_true rfl) (s_passes (d + 8 * (8 - dep) + 1) S R K hi (b2i b) _ (by decide)) (fun v1 h1 p1 x1 => ?_)
      skip
      try dsimp only [Option.toList, List.cons_append, List.nil_append, List.append]
      skip
      rcases p1 with ⟨-, rfl, rfl⟩ | ⟨e0, rfl, rfl⟩
      · dsimp only [Option.toList, List.cons_append, List.nil_append, List.append]
        first | ((with_reducible show Rp _ _ _ _ (.int (b2i _) :: _) _ _); refine Rp.if_eqB (tgt := 30) dX12_partOf_9 (by decide) (fun c9 => ?_) (fun c9 => ?_)) | ((with_reducible show Rp _ _ _ _ (.int (nI _) :: _) _ _); refine Rp.if_eqN (tgt := 30) dX12_partOf_9 (by decide) (by omega) (fun c9 => ?_) (fun c9 => ?_)) | refine Rp.if_eq (tgt := 30) dX12_partOf_9 (by decide) (fun c9 => ?_) (fun c9 => ?_)
        · skip
          first | (exfalso; omega) | exact absurd c9 (by decide) | exact absurd (by decide) c9
        · skip
          refine Rp.aload_n dX12_partOf_12 rfl rfl ?_
          refine Rp.iload_n dX12_partOf_13 rfl ?_
          refine Rp.callV1 M_X12_sumOf (ci := 12) dX12_partOf_14 mo_X12_sumOf lk_X12_309 (by decide) rfl rfl (S _ _ rfl) (Nat.le_of_ble_eq_true rfl) (Nat.le_of_ble_eq_true rfl) (q1) (fun v1 h1 p1 x1 => ?_)
          obtain ⟨x, b1, rfl, rfl, p1⟩ := p1
          try dsimp only [Option.toList, List.cons_append, List.nil_append, List.append]
          refine Rp.lst2 dX12_partOf_17 (by first | exact nl2_some rfl | exact nl2_none) (by decide) ?_
          refine Rp.aload_n dX12_partOf_18 rfl rfl ?_
          refine Rp.dup dX12_partOf_19 rfl ?_
          refine Rp.getI dX12_partOf_20 fk_X12_282 rfl (S _ _ rfl) ?_
          first | rw [ev_g] | skip
          refine Rp.iconst (nI 1) dX12_partOf_23 (by decide) ?_
          first | ((with_reducible show Rp _ _ _ _ (.int (nI _) :: .int (nI _) :: _) _ _); refine Rp.iaddN dX12_partOf_24 ?_) | refine Rp.iadd dX12_partOf_24 ?_
          refine Rp.putI dX12_partOf_25 fk_X12_282w rfl (S _ _ rfl) ?_
          first | rw [ev_sg] | skip
          refine Rp.lload_n dX12_partOf_28 rfl ?_
          refine Rp.lreturn dX12_partOf_29 rfl ?_
          exact ⟨x, b1, rfl, rfl, p1⟩
      · exact absurd e e0
  · rw [if_neg e] at hP
    exact C_part (d + 8 * (8 - dep)) S R K E hi e hP
end E11
