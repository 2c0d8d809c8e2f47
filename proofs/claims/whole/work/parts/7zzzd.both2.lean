section Cb2
variable (d : Nat) {h : AH} {K : Nat → Int32} {np nt nd nl : Nat} {LSs : Nat → List CLE} {E : List Int32}
def bjX (k j : Nat) : Bool := bX k j || jX k j
theorem bjX_b {h g : AH} (F : Fr bX h g) : Fr bjX h g := F.weak (fun k j hx => by unfold bjX at hx; rw [Bool.or_eq_false_iff] at hx; exact hx.1)
theorem bjX_j {h g : AH} (F : Fr jX h g) : Fr bjX h g := F.weak (fun k j hx => by unfold bjX at hx; rw [Bool.or_eq_false_iff] at hx; exact hx.2)
theorem t_both (S : ShOK h) (R : RfOK h) (G : HG h 1 K np nt nd nl LSs E) (V : VH K np nt) (B : KB K) (hz : ∀ j, 9 ≤ j → gI h 43 j = 0) (i : Int32) : Rp (d + 5) M_X11_both 0 [some (.ref 0), some (.int i), none, none, none] [] h (fun r h' => r = some (.int (btA K (flO nl LSs (K 108)) np i)) ∧ Fr bjX h h' ∧ ∀ j, 9 ≤ j → gI h' 43 j = 0) := by
  have v1 := V.1
  unfold btA
  by_cases c : i < -1
  · rw [if_pos c]
    have nc : ¬ i ≥ -1 := by show ¬ -1 ≤ i; rw [i32_le]; rw [i32_lt] at c; omega
    refine Rp.iload_n dX11_both_0 rfl ?_
    refine Rp.iconst (-1) dX11_both_1 (by decide) ?_
    first | ((with_reducible show Rp _ _ _ _ (.int (nI _) :: .int (nI _) :: _) _ _); refine Rp.icmp_geN (tgt := 7) dX11_both_2 (by decide) (by omega) (fun c2 => ?_) (fun c2 => ?_)) | refine Rp.icmp_ge (tgt := 7) dX11_both_2 (by decide) (fun c2 => ?_) (fun c2 => ?_)
    · skip
      exact absurd c2 nc
    · skip
      refine Rp.iconst (-1) dX11_both_5 (by decide) ?_
      refine Rp.ireturn dX11_both_6 rfl ?_
      exact ⟨rfl, Fr.rfl', hz⟩
  · rw [if_neg c]
    have cc : i ≥ -1 := by show -1 ≤ i; rw [i32_le]; rw [i32_lt] at c; omega
    have e18 : gI h 1 18 = K 108 := G.1.2.2.2.2.2.2.1
    have lf := t_lawInForce (d + 2) G.2.1
    rw [e18] at lf
    have k25 : ∀ g, Fr bX h g → JS g 1 K (flO nl LSs (K 108)) → Rp (d + 5) M_X11_both 25 [some (.ref 0), some (.int i), none, none, none] [] g (fun r h' => r = some (.int (btE i (btO K (flO nl LSs (K 108)) np i np 0 0))) ∧ Fr bjX h h' ∧ ∀ j, 9 ≤ j → gI h' 43 j = 0) := by
      intro g F1 J1
      have S1 := F1.S S
      have R1 := F1.R R (by decide)
      have G1 : HG g 1 K np nt nd nl LSs E := G.fr F1 (fun o j ho => bX_b (by decide) ho) (fun k j o => bX_T (ok129 o))
      have k29 := both29 d (h0 := g) (nd := nd) (nl := nl) B V i np 0 0 g none (by omega) (by omega) ⟨S1, R1, J1, G1.1, Fr.rfl'⟩
      have k29 := Rp.mono (Q := fun r h' => r = some (.int (btE i (btO K (flO nl LSs (K 108)) np i np 0 0))) ∧ Fr bjX h h' ∧ ∀ j, 9 ≤ j → gI h' 43 j = 0) (fun r h' z => ⟨z.2, (bjX_b F1).trans (bjX_j z.1.2.2.2.2), z.1.2.2.1.2.2.2.1⟩) k29
      refine Rp.iconst (nI 0) dX11_both_25 (by decide) ?_
      refine Rp.ist2 dX11_both_26 (by first | exact nl2_some rfl | exact nl2_none) (by decide) ?_
      refine Rp.iconst (nI 0) dX11_both_27 (by decide) ?_
      refine Rp.ist3 dX11_both_28 (by first | exact nl2_some rfl | exact nl2_none) (by decide) ?_
      exact k29
    refine Rp.iload_n dX11_both_0 rfl ?_
    refine Rp.iconst (-1) dX11_both_1 (by decide) ?_
    first | ((with_reducible show Rp _ _ _ _ (.int (nI _) :: .int (nI _) :: _) _ _); refine Rp.icmp_geN (tgt := 7) dX11_both_2 (by decide) (by omega) (fun c2 => ?_) (fun c2 => ?_)) | refine Rp.icmp_ge (tgt := 7) dX11_both_2 (by decide) (fun c2 => ?_) (fun c2 => ?_)
    rotate_left
    · exact absurd cc c2
    refine Rp.aload_n dX11_both_7 rfl rfl ?_
    refine Rp.getR dX11_both_8 fk_X11_39 rfl (S _ _ rfl) (R _ _ _ rfl) ?_
    refine Rp.aload_n dX11_both_11 rfl rfl ?_
    refine Rp.getR dX11_both_12 fk_X11_10 rfl (S _ _ rfl) (R _ _ _ rfl) ?_
    refine Rp.aload_n dX11_both_15 rfl rfl ?_
    refine Rp.getR dX11_both_16 fk_X11_10 rfl (S _ _ rfl) (R _ _ _ rfl) ?_
    refine Rp.callV0 M_X2_lawInForce (ci := 2) dX11_both_19 mo_X2_lawInForce lk_X11_138 (by decide) rfl rfl (S _ _ rfl) (Nat.le_of_ble_eq_true rfl) (Nat.le_of_ble_eq_true rfl) (lf) (fun v1 h1 p1 x1 => ?_)
    obtain ⟨rfl, lr, rfl, q⟩ := p1
    try dsimp only [Option.toList, List.cons_append, List.nil_append, List.append]
    skip
    match lr, q with
    | none, q =>
      have bg := t_beginJ (d + 3) S R (G.1.hj (Or.inl rfl)) hz q
      dsimp only [cvR] at bg ⊢
      refine Rp.callV2 M_X3_begin (ci := 3) dX11_both_22 mo_X3_begin lk_X11_142 (by decide) rfl rfl (S _ _ rfl) (Nat.le_of_ble_eq_true rfl) (Nat.le_of_ble_eq_true rfl) (bg) (fun v1 h1 p1 x1 => ?_)
      obtain ⟨rfl, F4, J4⟩ := p1
      try dsimp only [Option.toList, List.cons_append, List.nil_append, List.append]
      exact k25 _ F4 J4
    | some tx, q =>
      have bg := t_beginJ (d + 3) S R (G.1.hj (Or.inl rfl)) hz q
      dsimp only [cvR] at bg ⊢
      refine Rp.callV2 M_X3_begin (ci := 3) dX11_both_22 mo_X3_begin lk_X11_142 (by decide) rfl rfl (S _ _ rfl) (Nat.le_of_ble_eq_true rfl) (Nat.le_of_ble_eq_true rfl) (bg) (fun v1 h1 p1 x1 => ?_)
      obtain ⟨rfl, F4, J4⟩ := p1
      try dsimp only [Option.toList, List.cons_append, List.nil_append, List.append]
      exact k25 _ F4 J4
end Cb2
section Mb2
variable (d : Nat) {h : AH} {fl : Option (List CLE)} {np nt : Nat} {US : List (Nat → Int32)}
theorem MA.tl {g : AH} (A : MA h fl np nt US) (F : Fr tlX h g) : MA g fl np nt US := A.fr F (by decide) (fun j => rfl) (fun j => rfl) rfl
theorem s_wishBoth (A : MA h fl np nt US) {a b : Nat} (ha : a < 6) (hb : b < 6) (hab : a ≠ b) : Rp (d + 77) M_X12_wishBoth 0 [some (.ref aM), some (.int (nI a)), some (.int (nI b)), none, none] [] h (fun r h' => Fr tlX h h' ∧ r = some (.int (b2i (bothB (gI h 102) fl a b)))) := by
  have V := A.2.2.2.2.1
  have v2 := V.2.1
  have S := A.1
  have cs := s_canSwap d A (p := a) (q := b) ha hb
  refine Rp.aload_n dX12_wishBoth_0 rfl rfl ?_
  refine Rp.iload_n dX12_wishBoth_1 rfl ?_
  refine Rp.iload_n dX12_wishBoth_2 rfl ?_
  refine Rp.callV2 M_X12_canSwap (ci := 12) dX12_wishBoth_3 mo_X12_canSwap lk_X12_360 (by decide) rfl rfl (S _ _ rfl) (Nat.le_of_ble_eq_true rfl) (Nat.le_of_ble_eq_true rfl) (cs) (fun v1 h1 p1 x1 => ?_)
  obtain ⟨F1, rfl⟩ := p1
  try dsimp only [Option.toList, List.cons_append, List.nil_append, List.append]
  skip
  have A1 := A.tl F1
  have S1 := A1.1
  have R1 := A1.2.1
  have K1 : gI h1 102 = gI h 102 := funext fun j => F1.I 102 j rfl
  cases cc : canS (gI h am_kept) fl a b
  · have e : bothB (gI h 102) fl a b = false := by
      have cc : canS (gI h 102) fl a b = false := cc
      unfold canS at cc
      rw [decide_eq_true hab, Bool.true_and] at cc
      unfold bothB wnB
      generalize decide (gI h 102 a ≠ -1) = x1 at cc ⊢
      generalize decide (gI h 102 b ≠ -1) = x2 at cc ⊢
      generalize oBr (gI h 102) fl a (ix (gI h 102 b)) = x3 at cc ⊢
      generalize oBr (gI h 102) fl b (ix (gI h 102 a)) = x4 at cc ⊢
      cases x1
      · rfl
      · cases x2
        · rfl
        · cases x3
          · cases x4
            · cases cc
            · rw [show (!true) = false from rfl, Bool.and_false, Bool.and_false]
          · rw [show (!true) = false from rfl, Bool.and_false, Bool.and_false, Bool.false_and]
    rw [e]
    first | ((with_reducible show Rp _ _ _ _ (.int (b2i _) :: _) _ _); refine Rp.if_neB (tgt := 11) dX12_wishBoth_6 (by decide) (fun c6 => ?_) (fun c6 => ?_)) | ((with_reducible show Rp _ _ _ _ (.int (nI _) :: _) _ _); refine Rp.if_neN (tgt := 11) dX12_wishBoth_6 (by decide) (by omega) (fun c6 => ?_) (fun c6 => ?_)) | refine Rp.if_ne (tgt := 11) dX12_wishBoth_6 (by decide) (fun c6 => ?_) (fun c6 => ?_)
    · skip
      cases c6
    · skip
      refine Rp.iconst (nI 0) dX12_wishBoth_9 (by decide) ?_
      refine Rp.zreturn dX12_wishBoth_10 rfl (by first | exact Or.inl rfl | exact Or.inr rfl | assumption) ?_
      exact ⟨F1, rfl⟩
  · have cc : canS (gI h 102) fl a b = true := cc
    unfold canS at cc
    rw [Bool.and_eq_true, Bool.and_eq_true, Bool.and_eq_true, Bool.and_eq_true, decide_eq_true_eq, decide_eq_true_eq, decide_eq_true_eq] at cc
    obtain ⟨x, hx, ex⟩ := ((V.2.2.1 a ha).resolve_left cc.1.1.1.2).2
    obtain ⟨y, hy, ey⟩ := ((V.2.2.1 b hb).resolve_left cc.1.1.2).2
    have ex : gI h 102 a = nI x := ex
    have ey : gI h 102 b = nI y := ey
    have n3 := cc.1.2
    have n4 := cc.2
    rw [ey, ix_nI (by omega)] at n3
    rw [ex, ix_nI (by omega)] at n4
    have eB : bothB (gI h 102) fl a b = (decide (gI h 102 (19 + (8 * a + x)) < gI h 102 (19 + (8 * a + y))) && decide (gI h 102 (19 + (8 * b + y)) < gI h 102 (19 + (8 * b + x)))) := by
      unfold bothB wnB
      rw [decide_eq_true cc.1.1.1.2, decide_eq_true cc.1.1.2, ex, ey, ix_nI (by omega), ix_nI (by omega), n3, n4]
      simp only [Bool.and_true, Bool.true_and]
    have ea1 : gI h1 102 a = nI x := by rw [K1]; exact ex
    have eb1 : gI h1 102 b = nI y := by rw [K1]; exact ey
    have w1 := s_wishOf (d + 76) S1 R1 (q := a) (u := y) ha (by omega)
    have w2 := s_wishOf (d + 76) S1 R1 (q := a) (u := x) ha (by omega)
    have w3 := s_wishOf (d + 76) S1 R1 (q := b) (u := x) hb (by omega)
    have w4 := s_wishOf (d + 76) S1 R1 (q := b) (u := y) hb (by omega)
    rw [show gI h1 am_kept = gI h 102 from K1, Nat.add_assoc] at w1 w2 w3 w4
    rw [eB]
    have k30 : Rp (d + 77) M_X12_wishBoth 30 [some (.ref aM), some (.int (nI a)), some (.int (nI b)), some (.int (nI x)), some (.int (nI y))] [] h1 (fun r h' => Fr tlX h h' ∧ r = some (.int (b2i (decide (gI h 102 (19 + (8 * a + x)) < gI h 102 (19 + (8 * a + y))) && decide (gI h 102 (19 + (8 * b + y)) < gI h 102 (19 + (8 * b + x))))))) := by
      by_cases p1 : gI h 102 (19 + (8 * a + x)) < gI h 102 (19 + (8 * a + y))
      · have np1 : ¬ gI h 102 (19 + (8 * a + y)) ≤ gI h 102 (19 + (8 * a + x)) := by rw [i32_le]; rw [i32_lt] at p1; omega
        rw [decide_eq_true p1, Bool.true_and]
        by_cases p2 : gI h 102 (19 + (8 * b + y)) < gI h 102 (19 + (8 * b + x))
        · have np2 : ¬ gI h 102 (19 + (8 * b + x)) ≤ gI h 102 (19 + (8 * b + y)) := by rw [i32_le]; rw [i32_lt] at p2; omega
          rw [decide_eq_true p2]
          refine Rp.aload_n dX12_wishBoth_30 rfl rfl ?_
          refine Rp.iload_n dX12_wishBoth_31 rfl ?_
          refine Rp.iload dX12_wishBoth_32 rfl ?_
          refine Rp.callV2 M_X12_wishOf (ci := 12) dX12_wishBoth_34 mo_X12_wishOf lk_X12_154 (by decide) rfl rfl (S1 _ _ rfl) (Nat.le_of_ble_eq_true rfl) (Nat.le_of_ble_eq_true rfl) (w1) (fun v1 h1 p1 x1 => ?_)
          rw [p1.1, p1.2]
          try dsimp only [Option.toList, List.cons_append, List.nil_append, List.append]
          refine Rp.aload_n dX12_wishBoth_37 rfl rfl ?_
          refine Rp.iload_n dX12_wishBoth_38 rfl ?_
          refine Rp.iload_n dX12_wishBoth_39 rfl ?_
          refine Rp.callV2 M_X12_wishOf (ci := 12) dX12_wishBoth_40 mo_X12_wishOf lk_X12_154 (by decide) rfl rfl (S1 _ _ rfl) (Nat.le_of_ble_eq_true rfl) (Nat.le_of_ble_eq_true rfl) (w2) (fun v1 h1 p1 x1 => ?_)
          rw [p1.1, p1.2]
          try dsimp only [Option.toList, List.cons_append, List.nil_append, List.append]
          first | ((with_reducible show Rp _ _ _ _ (.int (nI _) :: .int (nI _) :: _) _ _); refine Rp.icmp_leN (tgt := 66) dX12_wishBoth_43 (by decide) (by omega) (fun c43 => ?_) (fun c43 => ?_)) | refine Rp.icmp_le (tgt := 66) dX12_wishBoth_43 (by decide) (fun c43 => ?_) (fun c43 => ?_)
          · skip
            exact absurd c43 np1
          · skip
            refine Rp.aload_n dX12_wishBoth_46 rfl rfl ?_
            refine Rp.iload_n dX12_wishBoth_47 rfl ?_
            refine Rp.iload_n dX12_wishBoth_48 rfl ?_
            refine Rp.callV2 M_X12_wishOf (ci := 12) dX12_wishBoth_49 mo_X12_wishOf lk_X12_154 (by decide) rfl rfl (S1 _ _ rfl) (Nat.le_of_ble_eq_true rfl) (Nat.le_of_ble_eq_true rfl) (w3) (fun v1 h1 p1 x1 => ?_)
            rw [p1.1, p1.2]
            try dsimp only [Option.toList, List.cons_append, List.nil_append, List.append]
            refine Rp.aload_n dX12_wishBoth_52 rfl rfl ?_
            refine Rp.iload_n dX12_wishBoth_53 rfl ?_
            refine Rp.iload dX12_wishBoth_54 rfl ?_
            refine Rp.callV2 M_X12_wishOf (ci := 12) dX12_wishBoth_56 mo_X12_wishOf lk_X12_154 (by decide) rfl rfl (S1 _ _ rfl) (Nat.le_of_ble_eq_true rfl) (Nat.le_of_ble_eq_true rfl) (w4) (fun v1 h1 p1 x1 => ?_)
            rw [p1.1, p1.2]
            try dsimp only [Option.toList, List.cons_append, List.nil_append, List.append]
            first | ((with_reducible show Rp _ _ _ _ (.int (nI _) :: .int (nI _) :: _) _ _); refine Rp.icmp_leN (tgt := 66) dX12_wishBoth_59 (by decide) (by omega) (fun c59 => ?_) (fun c59 => ?_)) | refine Rp.icmp_le (tgt := 66) dX12_wishBoth_59 (by decide) (fun c59 => ?_) (fun c59 => ?_)
            · skip
              exact absurd c59 np2
            · skip
              refine Rp.iconst (nI 1) dX12_wishBoth_62 (by decide) ?_
              refine Rp.goto (tgt := 67) dX12_wishBoth_63 (by decide) ?_
              refine Rp.zreturn dX12_wishBoth_67 rfl (by first | exact Or.inl rfl | exact Or.inr rfl | assumption) ?_
              exact ⟨F1, rfl⟩
        · have lp2 : gI h 102 (19 + (8 * b + x)) ≤ gI h 102 (19 + (8 * b + y)) := by rw [i32_le]; rw [i32_lt] at p2; omega
          rw [decide_eq_false p2]
          refine Rp.aload_n dX12_wishBoth_30 rfl rfl ?_
          refine Rp.iload_n dX12_wishBoth_31 rfl ?_
          refine Rp.iload dX12_wishBoth_32 rfl ?_
          refine Rp.callV2 M_X12_wishOf (ci := 12) dX12_wishBoth_34 mo_X12_wishOf lk_X12_154 (by decide) rfl rfl (S1 _ _ rfl) (Nat.le_of_ble_eq_true rfl) (Nat.le_of_ble_eq_true rfl) (w1) (fun v1 h1 p1 x1 => ?_)
          rw [p1.1, p1.2]
          try dsimp only [Option.toList, List.cons_append, List.nil_append, List.append]
          refine Rp.aload_n dX12_wishBoth_37 rfl rfl ?_
          refine Rp.iload_n dX12_wishBoth_38 rfl ?_
          refine Rp.iload_n dX12_wishBoth_39 rfl ?_
          refine Rp.callV2 M_X12_wishOf (ci := 12) dX12_wishBoth_40 mo_X12_wishOf lk_X12_154 (by decide) rfl rfl (S1 _ _ rfl) (Nat.le_of_ble_eq_true rfl) (Nat.le_of_ble_eq_true rfl) (w2) (fun v1 h1 p1 x1 => ?_)
          rw [p1.1, p1.2]
          try dsimp only [Option.toList, List.cons_append, List.nil_append, List.append]
          first | ((with_reducible show Rp _ _ _ _ (.int (nI _) :: .int (nI _) :: _) _ _); refine Rp.icmp_leN (tgt := 66) dX12_wishBoth_43 (by decide) (by omega) (fun c43 => ?_) (fun c43 => ?_)) | refine Rp.icmp_le (tgt := 66) dX12_wishBoth_43 (by decide) (fun c43 => ?_) (fun c43 => ?_)
          · skip
            exact absurd c43 np1
          · skip
            refine Rp.aload_n dX12_wishBoth_46 rfl rfl ?_
            refine Rp.iload_n dX12_wishBoth_47 rfl ?_
            refine Rp.iload_n dX12_wishBoth_48 rfl ?_
            refine Rp.callV2 M_X12_wishOf (ci := 12) dX12_wishBoth_49 mo_X12_wishOf lk_X12_154 (by decide) rfl rfl (S1 _ _ rfl) (Nat.le_of_ble_eq_true rfl) (Nat.le_of_ble_eq_true rfl) (w3) (fun v1 h1 p1 x1 => ?_)
            rw [p1.1, p1.2]
            try dsimp only [Option.toList, List.cons_append, List.nil_append, List.append]
            refine Rp.aload_n dX12_wishBoth_52 rfl rfl ?_
            refine Rp.iload_n dX12_wishBoth_53 rfl ?_
            refine Rp.iload dX12_wishBoth_54 rfl ?_
            refine Rp.callV2 M_X12_wishOf (ci := 12) dX12_wishBoth_56 mo_X12_wishOf lk_X12_154 (by decide) rfl rfl (S1 _ _ rfl) (Nat.le_of_ble_eq_true rfl) (Nat.le_of_ble_eq_true rfl) (w4) (fun v1 h1 p1 x1 => ?_)
            rw [p1.1, p1.2]
            try dsimp only [Option.toList, List.cons_append, List.nil_append, List.append]
            first | ((with_reducible show Rp _ _ _ _ (.int (nI _) :: .int (nI _) :: _) _ _); refine Rp.icmp_leN (tgt := 66) dX12_wishBoth_59 (by decide) (by omega) (fun c59 => ?_) (fun c59 => ?_)) | refine Rp.icmp_le (tgt := 66) dX12_wishBoth_59 (by decide) (fun c59 => ?_) (fun c59 => ?_)
            · skip
              refine Rp.iconst (nI 0) dX12_wishBoth_66 (by decide) ?_
              refine Rp.zreturn dX12_wishBoth_67 rfl (by first | exact Or.inl rfl | exact Or.inr rfl | assumption) ?_
              exact ⟨F1, rfl⟩
            · skip
              exact absurd lp2 c59
      · have lp1 : gI h 102 (19 + (8 * a + y)) ≤ gI h 102 (19 + (8 * a + x)) := by rw [i32_le]; rw [i32_lt] at p1; omega
        rw [decide_eq_false p1, Bool.false_and]
        refine Rp.aload_n dX12_wishBoth_30 rfl rfl ?_
        refine Rp.iload_n dX12_wishBoth_31 rfl ?_
        refine Rp.iload dX12_wishBoth_32 rfl ?_
        refine Rp.callV2 M_X12_wishOf (ci := 12) dX12_wishBoth_34 mo_X12_wishOf lk_X12_154 (by decide) rfl rfl (S1 _ _ rfl) (Nat.le_of_ble_eq_true rfl) (Nat.le_of_ble_eq_true rfl) (w1) (fun v1 h1 p1 x1 => ?_)
        rw [p1.1, p1.2]
        try dsimp only [Option.toList, List.cons_append, List.nil_append, List.append]
        refine Rp.aload_n dX12_wishBoth_37 rfl rfl ?_
        refine Rp.iload_n dX12_wishBoth_38 rfl ?_
        refine Rp.iload_n dX12_wishBoth_39 rfl ?_
        refine Rp.callV2 M_X12_wishOf (ci := 12) dX12_wishBoth_40 mo_X12_wishOf lk_X12_154 (by decide) rfl rfl (S1 _ _ rfl) (Nat.le_of_ble_eq_true rfl) (Nat.le_of_ble_eq_true rfl) (w2) (fun v1 h1 p1 x1 => ?_)
        rw [p1.1, p1.2]
        try dsimp only [Option.toList, List.cons_append, List.nil_append, List.append]
        first | ((with_reducible show Rp _ _ _ _ (.int (nI _) :: .int (nI _) :: _) _ _); refine Rp.icmp_leN (tgt := 66) dX12_wishBoth_43 (by decide) (by omega) (fun c43 => ?_) (fun c43 => ?_)) | refine Rp.icmp_le (tgt := 66) dX12_wishBoth_43 (by decide) (fun c43 => ?_) (fun c43 => ?_)
        · skip
          refine Rp.iconst (nI 0) dX12_wishBoth_66 (by decide) ?_
          refine Rp.zreturn dX12_wishBoth_67 rfl (by first | exact Or.inl rfl | exact Or.inr rfl | assumption) ?_
          exact ⟨F1, rfl⟩
        · skip
          exact absurd lp1 c43
    first | ((with_reducible show Rp _ _ _ _ (.int (b2i _) :: _) _ _); refine Rp.if_neB (tgt := 11) dX12_wishBoth_6 (by decide) (fun c6 => ?_) (fun c6 => ?_)) | ((with_reducible show Rp _ _ _ _ (.int (nI _) :: _) _ _); refine Rp.if_neN (tgt := 11) dX12_wishBoth_6 (by decide) (by omega) (fun c6 => ?_) (fun c6 => ?_)) | refine Rp.if_ne (tgt := 11) dX12_wishBoth_6 (by decide) (fun c6 => ?_) (fun c6 => ?_)
    · skip
      refine Rp.aload_n dX12_wishBoth_11 rfl rfl ?_
      refine Rp.getR dX12_wishBoth_12 fk_X12_24 rfl (S1 _ _ rfl) (R1 _ _ _ rfl) ?_
      refine Rp.iconst (nI 0) dX12_wishBoth_15 (by decide) ?_
      refine Rp.iload_n dX12_wishBoth_16 rfl ?_
      first | ((with_reducible show Rp _ _ _ _ (.int (nI _) :: .int (nI _) :: _) _ _); refine Rp.iaddN dX12_wishBoth_17 ?_) | refine Rp.iadd dX12_wishBoth_17 ?_
      rw [Nat.zero_add]
      first | ((with_reducible show Rp _ _ _ _ (.int (nI _) :: _) _ _); refine Rp.ialoadN dX12_wishBoth_18 (S1 _ _ rfl) (by omega) ?_) | refine Rp.iaload dX12_wishBoth_18 (S1 _ _ rfl) (by first | assumption | exact vpb (by decide)) ?_
      first | rw [ea1] | rw [eb1] | skip
      refine Rp.ist3 dX12_wishBoth_19 (by first | exact nl2_some rfl | exact nl2_none) (by decide) ?_
      refine Rp.aload_n dX12_wishBoth_20 rfl rfl ?_
      refine Rp.getR dX12_wishBoth_21 fk_X12_24 rfl (S1 _ _ rfl) (R1 _ _ _ rfl) ?_
      refine Rp.iconst (nI 0) dX12_wishBoth_24 (by decide) ?_
      refine Rp.iload_n dX12_wishBoth_25 rfl ?_
      first | ((with_reducible show Rp _ _ _ _ (.int (nI _) :: .int (nI _) :: _) _ _); refine Rp.iaddN dX12_wishBoth_26 ?_) | refine Rp.iadd dX12_wishBoth_26 ?_
      rw [Nat.zero_add]
      first | ((with_reducible show Rp _ _ _ _ (.int (nI _) :: _) _ _); refine Rp.ialoadN dX12_wishBoth_27 (S1 _ _ rfl) (by omega) ?_) | refine Rp.iaload dX12_wishBoth_27 (S1 _ _ rfl) (by first | assumption | exact vpb (by decide)) ?_
      first | rw [ea1] | rw [eb1] | skip
      refine Rp.ist4 dX12_wishBoth_28 (by first | exact nl2_some rfl | exact nl2_none) (by decide) ?_
      exact k30
    · skip
      cases c6
theorem mboth27 {h0 : AH} {K : Nat → Int32} (i : Int32) {a : Nat} (ha : a < np) (h6 : np ≤ 6) (hM : K 103 = nI np) {P : Option Value → AH → Prop} : ∀ (m b n : Nat) (g : AH), b + m = np → a < b → n + m ≤ 100 → MA g fl np nt US → gI g 102 = K → Fr tlX h0 g → (∀ n' g', btI K fl a i m b n = .ok n' → MA g' fl np nt US → gI g' 102 = K → Fr tlX h0 g' → Rp (d + 78) M_X12_both 74 [some (.ref aM), some (.int i), some (.int (nI n')), some (.int (nI a)), some (.int (nI np))] [] g' P) → (∀ x g', btI K fl a i m b n = .error x → gI g' 102 = K → Fr tlX h0 g' → P (some (.int x)) g') → Rp (d + 78) M_X12_both 27 [some (.ref aM), some (.int i), some (.int (nI n)), some (.int (nI a)), some (.int (nI b))] [] g P := by
  intro m
  induction m with
  | zero =>
    intro b n g hm hab hn A hK F kok kerr
    have e : b = np := by omega
    subst e
    have S := A.1
    have R := A.2.1
    have e103 : gI g 102 103 = nI b := by rw [hK]; exact hM
    have k1 := kok n g rfl A hK F
    refine Rp.iload dX12_both_27 rfl ?_
    refine Rp.aload_n dX12_both_29 rfl rfl ?_
    refine Rp.getR dX12_both_30 fk_X12_24 rfl (S _ _ rfl) (R _ _ _ rfl) ?_
    refine Rp.bipush (nI 103) dX12_both_33 (by decide) ?_
    first | ((with_reducible show Rp _ _ _ _ (.int (nI _) :: _) _ _); refine Rp.ialoadN dX12_both_35 (S _ _ rfl) (by omega) ?_) | refine Rp.iaload dX12_both_35 (S _ _ rfl) (by first | assumption | exact vpb (by decide)) ?_
    first | rw [e103] | skip
    first | ((with_reducible show Rp _ _ _ _ (.int (nI _) :: .int (nI _) :: _) _ _); refine Rp.icmp_geN (tgt := 74) dX12_both_36 (by decide) (by omega) (fun c36 => ?_) (fun c36 => ?_)) | refine Rp.icmp_ge (tgt := 74) dX12_both_36 (by decide) (fun c36 => ?_) (fun c36 => ?_)
    · skip
      exact k1
    · skip
      first | (exfalso; omega) | exact absurd c36 (by decide) | exact absurd (by decide) c36
  | succ m ih =>
    intro b n g hm hab hn A hK F kok kerr
    have S := A.1
    have R := A.2.1
    have e103 : gI g 102 103 = nI np := by rw [hK]; exact hM
    have wb := s_wishBoth d A (a := a) (b := b) (by omega) (by omega) (by omega)
    rw [hK] at wb
    rw [btI] at kok kerr
    refine Rp.iload dX12_both_27 rfl ?_
    refine Rp.aload_n dX12_both_29 rfl rfl ?_
    refine Rp.getR dX12_both_30 fk_X12_24 rfl (S _ _ rfl) (R _ _ _ rfl) ?_
    refine Rp.bipush (nI 103) dX12_both_33 (by decide) ?_
    first | ((with_reducible show Rp _ _ _ _ (.int (nI _) :: _) _ _); refine Rp.ialoadN dX12_both_35 (S _ _ rfl) (by omega) ?_) | refine Rp.iaload dX12_both_35 (S _ _ rfl) (by first | assumption | exact vpb (by decide)) ?_
    first | rw [e103] | skip
    first | ((with_reducible show Rp _ _ _ _ (.int (nI _) :: .int (nI _) :: _) _ _); refine Rp.icmp_geN (tgt := 74) dX12_both_36 (by decide) (by omega) (fun c36 => ?_) (fun c36 => ?_)) | refine Rp.icmp_ge (tgt := 74) dX12_both_36 (by decide) (fun c36 => ?_) (fun c36 => ?_)
    · first | (exfalso; omega) | exact absurd c36 (by decide) | exact absurd (by decide) c36
    refine Rp.aload_n dX12_both_39 rfl rfl ?_
    refine Rp.iload_n dX12_both_40 rfl ?_
    refine Rp.iload dX12_both_41 rfl ?_
    refine Rp.callV2 M_X12_wishBoth (ci := 12) dX12_both_43 mo_X12_wishBoth lk_X12_443 (by decide) rfl rfl (S _ _ rfl) (Nat.le_of_ble_eq_true rfl) (Nat.le_of_ble_eq_true rfl) (wb) (fun v1 h1 p1 x1 => ?_)
    obtain ⟨F1, rfl⟩ := p1
    try dsimp only [Option.toList, List.cons_append, List.nil_append, List.append]
    skip
    have A1 := A.tl F1
    have K1 : gI h1 102 = K := (funext fun j => F1.I 102 j rfl).trans hK
    have FF := F.trans F1
    cases cb : bothB K fl a b
    · rw [cb, if_neg (by decide)] at kok kerr
      have k1 := ih (b + 1) n h1 (by omega) (by omega) (by omega) A1 K1 FF kok kerr
      first | ((with_reducible show Rp _ _ _ _ (.int (b2i _) :: _) _ _); refine Rp.if_neB (tgt := 52) dX12_both_46 (by decide) (fun c46 => ?_) (fun c46 => ?_)) | ((with_reducible show Rp _ _ _ _ (.int (nI _) :: _) _ _); refine Rp.if_neN (tgt := 52) dX12_both_46 (by decide) (by omega) (fun c46 => ?_) (fun c46 => ?_)) | refine Rp.if_ne (tgt := 52) dX12_both_46 (by decide) (fun c46 => ?_) (fun c46 => ?_)
      · skip
        cases c46
      · skip
        refine Rp.goto (tgt := 68) dX12_both_49 (by decide) ?_
        first | ((with_reducible show Rp _ _ _ (_ :: _ :: _ :: _ :: some (.int (nI _)) :: _) _ _ _); refine Rp.inc4N (c := 1) dX12_both_68 (by first | exact nl2_some rfl | exact nl2_none) (by decide) ?_) | refine Rp.inc4 _ dX12_both_68 rfl (by first | exact nl2_some rfl | exact nl2_none) (by decide) ?_
        refine Rp.goto (tgt := 27) dX12_both_71 (by decide) ?_
        exact k1
    · rw [cb, if_pos rfl] at kok kerr
      by_cases c : nI n = i
      · rw [if_pos c] at kerr
        have k1 := kerr (nI (a * 10 + b)) h1 rfl K1 FF
        rw [Nat.mul_comm a 10] at k1
        first | ((with_reducible show Rp _ _ _ _ (.int (b2i _) :: _) _ _); refine Rp.if_neB (tgt := 52) dX12_both_46 (by decide) (fun c46 => ?_) (fun c46 => ?_)) | ((with_reducible show Rp _ _ _ _ (.int (nI _) :: _) _ _); refine Rp.if_neN (tgt := 52) dX12_both_46 (by decide) (by omega) (fun c46 => ?_) (fun c46 => ?_)) | refine Rp.if_ne (tgt := 52) dX12_both_46 (by decide) (fun c46 => ?_) (fun c46 => ?_)
        · skip
          refine Rp.iload_n dX12_both_52 rfl ?_
          refine Rp.iload_n dX12_both_53 rfl ?_
          first | ((with_reducible show Rp _ _ _ _ (.int (nI _) :: .int (nI _) :: _) _ _); refine Rp.icmp_neN (tgt := 65) dX12_both_54 (by decide) (by omega) (fun c54 => ?_) (fun c54 => ?_)) | refine Rp.icmp_ne (tgt := 65) dX12_both_54 (by decide) (fun c54 => ?_) (fun c54 => ?_)
          · skip
            exact absurd c c54
          · skip
            refine Rp.bipush (nI 10) dX12_both_57 (by decide) ?_
            refine Rp.iload_n dX12_both_59 rfl ?_
            first | ((with_reducible show Rp _ _ _ _ (.int (nI _) :: .int (nI _) :: _) _ _); refine Rp.imulN dX12_both_60 ?_) | refine Rp.imul dX12_both_60 ?_
            refine Rp.iload dX12_both_61 rfl ?_
            first | ((with_reducible show Rp _ _ _ _ (.int (nI _) :: .int (nI _) :: _) _ _); refine Rp.iaddN dX12_both_63 ?_) | refine Rp.iadd dX12_both_63 ?_
            refine Rp.ireturn dX12_both_64 rfl ?_
            exact k1
        · skip
          cases c46
      · rw [if_neg c] at kok kerr
        have k1 := ih (b + 1) (n + 1) h1 (by omega) (by omega) (by omega) A1 K1 FF kok kerr
        first | ((with_reducible show Rp _ _ _ _ (.int (b2i _) :: _) _ _); refine Rp.if_neB (tgt := 52) dX12_both_46 (by decide) (fun c46 => ?_) (fun c46 => ?_)) | ((with_reducible show Rp _ _ _ _ (.int (nI _) :: _) _ _); refine Rp.if_neN (tgt := 52) dX12_both_46 (by decide) (by omega) (fun c46 => ?_) (fun c46 => ?_)) | refine Rp.if_ne (tgt := 52) dX12_both_46 (by decide) (fun c46 => ?_) (fun c46 => ?_)
        · skip
          refine Rp.iload_n dX12_both_52 rfl ?_
          refine Rp.iload_n dX12_both_53 rfl ?_
          first | ((with_reducible show Rp _ _ _ _ (.int (nI _) :: .int (nI _) :: _) _ _); refine Rp.icmp_neN (tgt := 65) dX12_both_54 (by decide) (by omega) (fun c54 => ?_) (fun c54 => ?_)) | refine Rp.icmp_ne (tgt := 65) dX12_both_54 (by decide) (fun c54 => ?_) (fun c54 => ?_)
          · skip
            first | ((with_reducible show Rp _ _ _ (_ :: _ :: some (.int (nI _)) :: _) _ _ _); refine Rp.inc2N (c := 1) dX12_both_65 (by first | exact nl2_some rfl | exact nl2_none) (by decide) ?_) | refine Rp.inc2 _ dX12_both_65 rfl (by first | exact nl2_some rfl | exact nl2_none) (by decide) ?_
            first | ((with_reducible show Rp _ _ _ (_ :: _ :: _ :: _ :: some (.int (nI _)) :: _) _ _ _); refine Rp.inc4N (c := 1) dX12_both_68 (by first | exact nl2_some rfl | exact nl2_none) (by decide) ?_) | refine Rp.inc4 _ dX12_both_68 rfl (by first | exact nl2_some rfl | exact nl2_none) (by decide) ?_
            refine Rp.goto (tgt := 27) dX12_both_71 (by decide) ?_
            exact k1
          · skip
            exact absurd c54 c
        · skip
          cases c46
theorem mboth74 {P : Option Value → AH → Prop} {g : AH} {i x4 : Int32} {n a : Nat} (k1 : Rp (d + 78) M_X12_both 11 [some (.ref aM), some (.int i), some (.int (nI n)), some (.int (nI (a + 1))), some (.int x4)] [] g P) : Rp (d + 78) M_X12_both 74 [some (.ref aM), some (.int i), some (.int (nI n)), some (.int (nI a)), some (.int x4)] [] g P := by
  first | ((with_reducible show Rp _ _ _ (_ :: _ :: _ :: some (.int (nI _)) :: _) _ _ _); refine Rp.inc3N (c := 1) dX12_both_74 (by first | exact nl2_some rfl | exact nl2_none) (by decide) ?_) | refine Rp.inc3 _ dX12_both_74 rfl (by first | exact nl2_some rfl | exact nl2_none) (by decide) ?_
  refine Rp.goto (tgt := 11) dX12_both_77 (by decide) ?_
  exact k1
theorem mboth11 {h0 : AH} {K : Nat → Int32} (i : Int32) (h6 : np ≤ 6) (hM : K 103 = nI np) : ∀ (m a n : Nat) (g : AH) (a4 : Option Value), a + m = np → n + 6 * m ≤ 60 → MA g fl np nt US → gI g 102 = K → Fr tlX h0 g → Rp (d + 78) M_X12_both 11 [some (.ref aM), some (.int i), some (.int (nI n)), some (.int (nI a)), a4] [] g (fun r h' => r = some (.int (btE i (btO K fl np i m a n))) ∧ Fr tlX h0 h' ∧ gI h' 102 = K) := by
  intro m
  induction m with
  | zero =>
    intro a n g a4 hm hn A hK F
    have e : a = np := by omega
    subst e
    have S := A.1
    have R := A.2.1
    have e103 : gI g 102 103 = nI a := by rw [hK]; exact hM
    show Rp _ _ _ _ _ _ (fun r h' => r = some (.int (if i = -1 then nI n else -1)) ∧ Fr tlX h0 h' ∧ gI h' 102 = K)
    by_cases c : i = -1
    · rw [if_pos c]
      refine Rp.iload_n dX12_both_11 rfl ?_
      refine Rp.aload_n dX12_both_12 rfl rfl ?_
      refine Rp.getR dX12_both_13 fk_X12_24 rfl (S _ _ rfl) (R _ _ _ rfl) ?_
      refine Rp.bipush (nI 103) dX12_both_16 (by decide) ?_
      first | ((with_reducible show Rp _ _ _ _ (.int (nI _) :: _) _ _); refine Rp.ialoadN dX12_both_18 (S _ _ rfl) (by omega) ?_) | refine Rp.iaload dX12_both_18 (S _ _ rfl) (by first | assumption | exact vpb (by decide)) ?_
      first | rw [e103] | skip
      first | ((with_reducible show Rp _ _ _ _ (.int (nI _) :: .int (nI _) :: _) _ _); refine Rp.icmp_geN (tgt := 80) dX12_both_19 (by decide) (by omega) (fun c19 => ?_) (fun c19 => ?_)) | refine Rp.icmp_ge (tgt := 80) dX12_both_19 (by decide) (fun c19 => ?_) (fun c19 => ?_)
      · skip
        refine Rp.iload_n dX12_both_80 rfl ?_
        refine Rp.iconst (-1) dX12_both_81 (by decide) ?_
        first | ((with_reducible show Rp _ _ _ _ (.int (nI _) :: .int (nI _) :: _) _ _); refine Rp.icmp_neN (tgt := 89) dX12_both_82 (by decide) (by omega) (fun c82 => ?_) (fun c82 => ?_)) | refine Rp.icmp_ne (tgt := 89) dX12_both_82 (by decide) (fun c82 => ?_) (fun c82 => ?_)
        · skip
          exact absurd c c82
        · skip
          refine Rp.iload_n dX12_both_85 rfl ?_
          refine Rp.goto (tgt := 90) dX12_both_86 (by decide) ?_
          refine Rp.ireturn dX12_both_90 rfl ?_
          exact ⟨rfl, F, hK⟩
      · skip
        first | (exfalso; omega) | exact absurd c19 (by decide) | exact absurd (by decide) c19
    · rw [if_neg c]
      refine Rp.iload_n dX12_both_11 rfl ?_
      refine Rp.aload_n dX12_both_12 rfl rfl ?_
      refine Rp.getR dX12_both_13 fk_X12_24 rfl (S _ _ rfl) (R _ _ _ rfl) ?_
      refine Rp.bipush (nI 103) dX12_both_16 (by decide) ?_
      first | ((with_reducible show Rp _ _ _ _ (.int (nI _) :: _) _ _); refine Rp.ialoadN dX12_both_18 (S _ _ rfl) (by omega) ?_) | refine Rp.iaload dX12_both_18 (S _ _ rfl) (by first | assumption | exact vpb (by decide)) ?_
      first | rw [e103] | skip
      first | ((with_reducible show Rp _ _ _ _ (.int (nI _) :: .int (nI _) :: _) _ _); refine Rp.icmp_geN (tgt := 80) dX12_both_19 (by decide) (by omega) (fun c19 => ?_) (fun c19 => ?_)) | refine Rp.icmp_ge (tgt := 80) dX12_both_19 (by decide) (fun c19 => ?_) (fun c19 => ?_)
      · skip
        refine Rp.iload_n dX12_both_80 rfl ?_
        refine Rp.iconst (-1) dX12_both_81 (by decide) ?_
        first | ((with_reducible show Rp _ _ _ _ (.int (nI _) :: .int (nI _) :: _) _ _); refine Rp.icmp_neN (tgt := 89) dX12_both_82 (by decide) (by omega) (fun c82 => ?_) (fun c82 => ?_)) | refine Rp.icmp_ne (tgt := 89) dX12_both_82 (by decide) (fun c82 => ?_) (fun c82 => ?_)
        · skip
          refine Rp.iconst (-1) dX12_both_89 (by decide) ?_
          refine Rp.ireturn dX12_both_90 rfl ?_
          exact ⟨rfl, F, hK⟩
        · skip
          exact absurd c82 c
      · skip
        first | (exfalso; omega) | exact absurd c19 (by decide) | exact absurd (by decide) c19
  | succ m ih =>
    intro a n g a4 hm hn A hK F
    have S := A.1
    have R := A.2.1
    have e103 : gI g 102 103 = nI np := by rw [hK]; exact hM
    have k27 := mboth27 d (h0 := h0) (K := K) (a := a) i (by omega) h6 hM (P := fun r h' => r = some (.int (btE i (btO K fl np i (m + 1) a n))) ∧ Fr tlX h0 h' ∧ gI h' 102 = K) (np - (a + 1)) (a + 1) n g (by omega) (by omega) (by omega) A hK F (fun n' g' e A' K' F' => by
      have bl := btI_le _ _ _ _ e
      have k1 := ih (a + 1) n' g' (some (.int (nI np))) (by omega) (by omega) A' K' F'
      have eo : btO K fl np i (m + 1) a n = btO K fl np i m (a + 1) n' := by rw [btO, e]
      rw [eo]
      exact mboth74 d k1) (fun x g' e K' F' => ⟨by rw [btO, e]; rfl, F', K'⟩)
    refine Rp.iload_n dX12_both_11 rfl ?_
    refine Rp.aload_n dX12_both_12 rfl rfl ?_
    refine Rp.getR dX12_both_13 fk_X12_24 rfl (S _ _ rfl) (R _ _ _ rfl) ?_
    refine Rp.bipush (nI 103) dX12_both_16 (by decide) ?_
    first | ((with_reducible show Rp _ _ _ _ (.int (nI _) :: _) _ _); refine Rp.ialoadN dX12_both_18 (S _ _ rfl) (by omega) ?_) | refine Rp.iaload dX12_both_18 (S _ _ rfl) (by first | assumption | exact vpb (by decide)) ?_
    first | rw [e103] | skip
    first | ((with_reducible show Rp _ _ _ _ (.int (nI _) :: .int (nI _) :: _) _ _); refine Rp.icmp_geN (tgt := 80) dX12_both_19 (by decide) (by omega) (fun c19 => ?_) (fun c19 => ?_)) | refine Rp.icmp_ge (tgt := 80) dX12_both_19 (by decide) (fun c19 => ?_) (fun c19 => ?_)
    · skip
      first | (exfalso; omega) | exact absurd c19 (by decide) | exact absurd (by decide) c19
    · skip
      refine Rp.iload_n dX12_both_22 rfl ?_
      refine Rp.iconst (nI 1) dX12_both_23 (by decide) ?_
      first | ((with_reducible show Rp _ _ _ _ (.int (nI _) :: .int (nI _) :: _) _ _); refine Rp.iaddN dX12_both_24 ?_) | refine Rp.iadd dX12_both_24 ?_
      refine Rp.ist4 dX12_both_25 (by first | exact nl2_some rfl | exact nl2_none) (by decide) ?_
      exact k27
theorem s_both (A : MA h fl np nt US) (i : Int32) : Rp (d + 78) M_X12_both 0 [some (.ref aM), some (.int i), none, none, none] [] h (fun r h' => r = some (.int (btA (gI h 102) fl np i)) ∧ Fr tlX h h' ∧ gI h' 102 = gI h 102) := by
  have V := A.2.2.2.2.1
  have v1 := V.1
  unfold btA
  by_cases c : i < -1
  · rw [if_pos c]
    have nc : ¬ i ≥ -1 := by show ¬ -1 ≤ i; rw [i32_le]; rw [i32_lt] at c; omega
    refine Rp.iload_n dX12_both_0 rfl ?_
    refine Rp.iconst (-1) dX12_both_1 (by decide) ?_
    first | ((with_reducible show Rp _ _ _ _ (.int (nI _) :: .int (nI _) :: _) _ _); refine Rp.icmp_geN (tgt := 7) dX12_both_2 (by decide) (by omega) (fun c2 => ?_) (fun c2 => ?_)) | refine Rp.icmp_ge (tgt := 7) dX12_both_2 (by decide) (fun c2 => ?_) (fun c2 => ?_)
    · skip
      exact absurd c2 nc
    · skip
      refine Rp.iconst (-1) dX12_both_5 (by decide) ?_
      refine Rp.ireturn dX12_both_6 rfl ?_
      exact ⟨rfl, Fr.rfl', rfl⟩
  · rw [if_neg c]
    have cc : i ≥ -1 := by show -1 ≤ i; rw [i32_le]; rw [i32_lt] at c; omega
    have k11 := mboth11 d (h0 := h) (K := gI h 102) i v1 A.2.2.2.2.2.1 np 0 0 h none (by omega) (by omega) A rfl Fr.rfl'
    refine Rp.iload_n dX12_both_0 rfl ?_
    refine Rp.iconst (-1) dX12_both_1 (by decide) ?_
    first | ((with_reducible show Rp _ _ _ _ (.int (nI _) :: .int (nI _) :: _) _ _); refine Rp.icmp_geN (tgt := 7) dX12_both_2 (by decide) (by omega) (fun c2 => ?_) (fun c2 => ?_)) | refine Rp.icmp_ge (tgt := 7) dX12_both_2 (by decide) (fun c2 => ?_) (fun c2 => ?_)
    · skip
      refine Rp.iconst (nI 0) dX12_both_7 (by decide) ?_
      refine Rp.ist2 dX12_both_8 (by first | exact nl2_some rfl | exact nl2_none) (by decide) ?_
      refine Rp.iconst (nI 0) dX12_both_9 (by decide) ?_
      refine Rp.ist3 dX12_both_10 (by first | exact nl2_some rfl | exact nl2_none) (by decide) ?_
      exact k11
    · skip
      exact absurd cc c2
end Mb2
