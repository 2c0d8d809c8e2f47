theorem lcmp_0 (x y : Int64) : lg_cmp x y = 0 ↔ x = y := by
  unfold lg_cmp
  by_cases h1 : x > y
  · rw [if_pos h1]
    exact ⟨fun z => absurd z (by decide), fun z => absurd z.symm (lg_lt_ne h1)⟩
  · rw [if_neg h1]
    by_cases h2 : x = y
    · rw [if_pos h2]; exact ⟨fun _ => h2, fun _ => rfl⟩
    · rw [if_neg h2]; exact ⟨fun z => absurd z (by decide), fun z => absurd z h2⟩
theorem evCT_one {live b t : Bool} : evCT live b (some (bZ t)) b t := by
  unfold evCT
  by_cases hl : live = true ∧ b = false
  · rw [if_pos hl]; exact ⟨hl.2, rfl⟩
  · rw [if_neg hl]
theorem evCT_not {live b b1 t : Bool} {D : Option Int} (e : evCT live b D b1 t) : evCT live b (D.map fun y => 1 - y) b1 (!t) := by
  unfold evCT at e ⊢
  by_cases hl : live = true ∧ b = false
  · rw [if_pos hl] at e ⊢
    match D, e with
    | none, e => exact e
    | some y, e =>
      refine ⟨e.1, ?_⟩
      show 1 - y = _
      rw [e.2]
      cases t <;> rfl
  · rw [if_neg hl] at e ⊢
    exact e
theorem plain0e {d : Nat} {h : AH} {a b : Value} {P : Option Value → AH → Prop} (hb : nl2 (some b)) (q : Rp d M_X12_plainOf 2 [some a, some b, some (.int (nI 0))] [] h P) : Rp d M_X12_plainOf 0 [some a, some b, none] [] h P := by
  refine Rp.iconst (nI 0) dX12_plainOf_0 (by decide) ?_
  refine Rp.ist2 dX12_plainOf_1 hb (by decide) ?_
  exact q
def EO (h : AH) (ord : Bool) (w : Nat → Int32) : Prop := gI h aM fm_inOrders = b2i ord ∧ (∀ j, -1000000000 ≤ (w j).toInt ∧ (w j).toInt ≤ 1000000000) ∧ (ord = false → ∀ k, 9 ≤ k → k ≤ 17 → gI h am_asked (k - 9) = w (lwI k)) ∧ (ord = true → ∀ (d : Nat) (g b : Int32), (∀ k, 17 ≤ k → k ≤ 21 → Rp (d + 2) M_X12_orderValue 0 [some (.ref aM), some (.int (nI k)), some (.int (nI 0))] [] (evH h g b) (fun r h' => h' = evH h g b ∧ r = some (.int (w (k - 17))))) ∧ (∀ k, k ≤ 5 → Rp (d + 2) M_X12_orderValue 0 [some (.ref aM), some (.int (nI 22)), some (.int (nI k))] [] (evH h g b) (fun r h' => h' = evH h g b ∧ r = some (.int (w (5 + k))))) ∧ (∀ k, k ≤ 5 → Rp (d + 2) M_X12_orderValue 0 [some (.ref aM), some (.int (nI 16)), some (.int (nI k))] [] (evH h g b) (fun r h' => h' = evH h g b ∧ r = some (.int (w (11 + k))))))
def cR (h : AH) (B : Nat) (w : Nat → Int32) (live b : Bool) (d md dep i i' : Nat) (D : DN) : Prop := match md with
  | 0 => Rp (d + 8 * (8 - dep) + 9) M_X12_testOf 0 [some (.ref aM), some (.int (b2i live)), none, none] [] (evH h (nI (B + i)) (b2i b)) (evT live b (D w 0) h (B + i'))
  | 1 => Rp (d + 8 * (8 - dep) + 8) M_X12_bothOf 0 [some (.ref aM), some (.int (b2i live)), none, none] [] (evH h (nI (B + i)) (b2i b)) (evT live b (D w 0) h (B + i'))
  | 2 => ∀ (t : Bool) (l3 : Option Value), Rp (d + 8 * (8 - dep) + 9) M_X12_testOf 6 [some (.ref aM), some (.int (b2i live)), some (.int (b2i t)), l3] [] (evH h (nI (B + i)) (b2i b)) (evT live b (D w (bZ t)) h (B + i'))
  | 3 => Rp (d + 8 * (8 - dep) + 7) M_X12_plainOf 2 [some (.ref aM), some (.int (b2i live)), some (.int (nI 0))] [] (evH h (nI (B + i)) (b2i b)) (evT live b (D w 0) h (B + i'))
  | 4 => ∀ (t : Bool) (l3 : Option Value), Rp (d + 8 * (8 - dep) + 8) M_X12_bothOf 6 [some (.ref aM), some (.int (b2i live)), some (.int (b2i t)), l3] [] (evH h (nI (B + i)) (b2i b)) (evT live b (D w (bZ t)) h (B + i'))
  | 5 => Rp (d + 8 * (8 - dep) + 7) M_X12_plainOf 2 [some (.ref aM), some (.int (b2i live)), some (.int (nI 1))] [] (evH h (nI (B + i)) (b2i b)) (evT live b (D w 0) h (B + i'))
  | 6 => Rp (d + 8 * (8 - dep) + 6) M_X12_positiveOf 0 [some (.ref aM), some (.int (b2i live)), none, none, none, none, none] [] (evH h (nI (B + i)) (b2i b)) (evT live b (D w 0) h (B + i'))
  | 7 => Rp (d + 8 * (8 - dep) + 5) M_X12_sumOf 0 [some (.ref aM), some (.int (b2i live)), none, none, none, none, none] [] (evH h (nI (B + i)) (b2i b)) (evS live b (D w 0) h (B + i'))
  | 8 => ∀ (x : Int64) (y : Int) (l4 l5 l6 : Option Value), (live = true ∧ b = false → x = Int64.ofInt y ∧ -1000000000 ≤ y ∧ y ≤ 1000000000) → Rp (d + 8 * (8 - dep) + 5) M_X12_sumOf 6 [some (.ref aM), some (.int (b2i live)), some (.long x), none, l4, l5, l6] [] (evH h (nI (B + i)) (b2i b)) (evS live b (D w y) h (B + i'))
  | 9 => Rp (d + 8 * (8 - dep) + 4) M_X12_termOf 0 [some (.ref aM), some (.int (b2i live)), none, none, none, none, none] [] (evH h (nI (B + i)) (b2i b)) (evS live b (D w 0) h (B + i'))
  | 10 => ∀ (x : Int64) (y : Int) (l4 l5 l6 : Option Value), (live = true ∧ b = false → x = Int64.ofInt y ∧ -1000000000 ≤ y ∧ y ≤ 1000000000) → Rp (d + 8 * (8 - dep) + 4) M_X12_termOf 6 [some (.ref aM), some (.int (b2i live)), some (.long x), none, l4, l5, l6] [] (evH h (nI (B + i)) (b2i b)) (evS live b (D w y) h (B + i'))
  | _ => Rp (d + 8 * (8 - dep) + 3) M_X12_partOf 0 [some (.ref aM), some (.int (b2i live)), none, none] [] (evH h (nI (B + i)) (b2i b)) (evS live b (D w 0) h (B + i'))
theorem evC_none {live b b1 : Bool} {x : Int64} {D : Option Int} (e : evC live b D b1 x) (hl : live = true ∧ b = false) (hb : b1 = true) : D = none := by
  unfold evC at e
  rw [if_pos hl] at e
  match D, e with
  | none, e => rfl
  | some y, e => rw [hb] at e; exact absurd e.1 (by decide)
theorem evC_some {live b b1 : Bool} {x : Int64} {D : Option Int} (e : evC live b D b1 x) (hl : live = true ∧ b1 = false) : D = some (D.getD 0) := by
  unfold evC at e
  by_cases h1 : live = true ∧ b = false
  · rw [if_pos h1] at e
    match D, e with
    | none, e => rw [hl.2] at e; cases e
    | some y, e => rfl
  · rw [if_neg h1] at e
    exact absurd ⟨hl.1, e ▸ hl.2⟩ h1
theorem evT_dead {live b : Bool} {D : Option Int} {h : AH} {g : Nat} {t : Bool} (hl : ¬ (live = true ∧ b = false)) : evT live b D h g (some (.int (b2i t))) (evH h (nI g) (b2i b)) := ⟨t, b, rfl, rfl, by unfold evCT; rw [if_neg hl]⟩
theorem evS_dead {live b : Bool} {D : Option Int} {h : AH} {g : Nat} {x : Int64} (hl : ¬ (live = true ∧ b = false)) : evS live b D h g (some (.long x)) (evH h (nI g) (b2i b)) := ⟨x, b, rfl, rfl, by unfold evC; rw [if_neg hl]⟩
theorem evS_some {live b : Bool} {h : AH} {g : Nat} {x : Int64} {y : Int} (hb : live = true ∧ b = false → x = Int64.ofInt y ∧ -1000000000 ≤ y ∧ y ≤ 1000000000) : evS live b (some y) h g (some (.long x)) (evH h (nI g) (b2i b)) := ⟨x, b, rfl, rfl, by
  unfold evC
  by_cases hl : live = true ∧ b = false
  · rw [if_pos hl]; exact ⟨hl.2, hb hl⟩
  · rw [if_neg hl]⟩
theorem evT_some {live b t : Bool} {h : AH} {g : Nat} : evT live b (some (bZ t)) h g (some (.int (b2i t))) (evH h (nI g) (b2i b)) := ⟨t, b, rfl, rfl, by
  unfold evCT
  by_cases hl : live = true ∧ b = false
  · rw [if_pos hl]; exact ⟨hl.2, rfl⟩
  · rw [if_neg hl]⟩
theorem evCT_cmp {live b b1 b2 : Bool} {X Y : Int64} {D1 D2 : Option Int} {k : Int → Int → Int} (p0 : evC live b D1 b1 X) (p2 : evC live b1 D2 b2 Y) (hl2 : ¬ (live = true ∧ b2 = false)) : evCT live b (D1.bind fun y => D2.map fun z => k y z) b2 false := by
  unfold evCT
  by_cases hl : live = true ∧ b = false
  · rw [if_pos hl]
    have hb2 : b2 = true := by
      cases b2
      · exact absurd ⟨hl.1, rfl⟩ hl2
      · rfl
    have hn : (D1.bind fun y => D2.map fun z => k y z) = none := by
      cases hb1 : b1
      · rw [evC_none p2 ⟨hl.1, hb1⟩ hb2]
        cases D1 <;> rfl
      · rw [evC_none p0 hl hb1]; rfl
    rw [hn]; exact hb2
  · rw [if_neg hl]
    unfold evC at p0 p2
    rw [if_neg hl] at p0
    rw [p0, if_neg hl] at p2
    exact p2
section Ep
variable (d : Nat) {h : AH} {B : Nat} {ord : Bool} {c v : Nat → Nat} {T : Nat} {w : Nat → Int32}
theorem i64_of (x : Int32) : x.toInt64 = Int64.ofInt x.toInt := by
  have := x.toInt_lt
  have := x.le_toInt
  rw [← Int64.toInt_inj, Int32.toInt_toInt64, Int64.toInt_ofInt_of_le (by omega) (by omega)]
theorem nI64 {n : Nat} (hn : n < 2147483648) : (nI n).toInt64 = Int64.ofInt (n : Int) := by
  rw [i64_of, nI_toInt hn]
theorem C_part (S : ShOK h) (R : RfOK h) (K : EK h B c v T) (E : EO h ord w) {i lv i' lv' : Nat} {cd : List (Nat × Nat)} {D : DN} {live b : Bool} (hi : i ≤ T) (e : c i ≠ 191) (hP : prtL ord c v i lv = .ok (i', lv', cd, D)) : Rp (d + 3) M_X12_partOf 0 [some (.ref aM), some (.int (b2i live)), none, none] [] (evH h (nI (B + i)) (b2i b)) (evS live b (D w 0) h (B + i')) := by
  have hT := K.1
  have hc := K.2.1
  have hci := K.lt hi
  have eo := E.1
  have dead : ∀ (hl : ¬ (live = true ∧ b = false)) (lc lk : Option Value) (g : Nat), Rp (d + 3) M_X12_partOf 94 [some (.ref aM), some (.int (b2i live)), lc, lk] [] (evH h (nI g) (b2i b)) (evS live b (D w 0) h g) := by
    intro hl lc lk g
    cases live
    · skip
      refine Rp.iload_n dX12_partOf_94 rfl ?_
      first | ((with_reducible show Rp _ _ _ _ (.int (b2i _) :: _) _ _); refine Rp.if_eqB (tgt := 105) dX12_partOf_95 (by decide) (fun c95 => ?_) (fun c95 => ?_)) | ((with_reducible show Rp _ _ _ _ (.int (nI _) :: _) _ _); refine Rp.if_eqN (tgt := 105) dX12_partOf_95 (by decide) (by omega) (fun c95 => ?_) (fun c95 => ?_)) | refine Rp.if_eq (tgt := 105) dX12_partOf_95 (by decide) (fun c95 => ?_) (fun c95 => ?_)
      · skip
        refine Rp.lconst (0) dX12_partOf_105 (by decide) ?_
        refine Rp.lreturn dX12_partOf_106 rfl ?_
        exact evS_dead hl
      · skip
        first | (exfalso; omega) | exact absurd c95 (by decide) | exact absurd (by decide) c95
    · cases b
      · exact absurd ⟨rfl, rfl⟩ hl
      · skip
        refine Rp.iload_n dX12_partOf_94 rfl ?_
        first | ((with_reducible show Rp _ _ _ _ (.int (b2i _) :: _) _ _); refine Rp.if_eqB (tgt := 105) dX12_partOf_95 (by decide) (fun c95 => ?_) (fun c95 => ?_)) | ((with_reducible show Rp _ _ _ _ (.int (nI _) :: _) _ _); refine Rp.if_eqN (tgt := 105) dX12_partOf_95 (by decide) (by omega) (fun c95 => ?_) (fun c95 => ?_)) | refine Rp.if_eq (tgt := 105) dX12_partOf_95 (by decide) (fun c95 => ?_) (fun c95 => ?_)
        · skip
          first | (exfalso; omega) | exact absurd c95 (by decide) | exact absurd (by decide) c95
        · skip
          refine Rp.aload_n dX12_partOf_98 rfl rfl ?_
          refine Rp.getI dX12_partOf_99 fk_X12_292 rfl (S _ _ rfl) ?_
          first | rw [ev_b] | skip
          first | ((with_reducible show Rp _ _ _ _ (.int (b2i _) :: _) _ _); refine Rp.if_eqB (tgt := 107) dX12_partOf_102 (by decide) (fun c102 => ?_) (fun c102 => ?_)) | ((with_reducible show Rp _ _ _ _ (.int (nI _) :: _) _ _); refine Rp.if_eqN (tgt := 107) dX12_partOf_102 (by decide) (by omega) (fun c102 => ?_) (fun c102 => ?_)) | refine Rp.if_eq (tgt := 107) dX12_partOf_102 (by decide) (fun c102 => ?_) (fun c102 => ?_)
          · skip
            first | (exfalso; omega) | exact absurd c102 (by decide) | exact absurd (by decide) c102
          · skip
            refine Rp.lconst (0) dX12_partOf_105 (by decide) ?_
            refine Rp.lreturn dX12_partOf_106 rfl ?_
            exact evS_dead hl
  refine Rp.aload_n dX12_partOf_0 rfl rfl ?_
  refine Rp.bipush (nI 91) dX12_partOf_1 (by decide) ?_
  refine Rp.callS1 M_X12_sign dX12_partOf_3 mo_X12_sign lk_X12_241 (Nat.le_of_ble_eq_true rfl) (Nat.le_of_ble_eq_true rfl) (s_signN (d + 2) 91) (fun v1 h1 p1 x1 => ?_)
  rw [p1.1, p1.2]
  try dsimp only [Option.toList, List.cons_append, List.nil_append, List.append]
  refine Rp.callV1 M_X12_passes0 (ci := 12) dX12_partOf_6 mo_X12_passes0 lk_X12_306 (by decide) rfl rfl (S _ _ rfl) (Nat.le_of_ble_eq_true rfl) (Nat.le_of_ble_eq_true rfl) (s_passes (d + 1) S R K hi (b2i b) _ (by decide)) (fun v1 h1 p1 x1 => ?_)
  skip
  try dsimp only [Option.toList, List.cons_append, List.nil_append, List.append]
  skip
  rcases p1 with ⟨e0, rfl, rfl⟩ | ⟨-, rfl, rfl⟩
  · exact absurd e0 e
  · dsimp only [Option.toList, List.cons_append, List.nil_append, List.append]
    rcases prtL_inv hP with ⟨k1, k2, rfl, -, -, rfl⟩ | ⟨rfl, k1, k2, k3, rfl, -, -, rfl⟩ | ⟨rfl, k1, k2, rfl, -, -, rfl⟩ | ⟨rfl, k1, k2, rfl, -, -, rfl⟩
    · have hiT := lt_of_code hc hi (by rw [k1]; decide)
      obtain ⟨-, e3, -, e4⟩ := K.2.2.2 i hiT
      have fin : Rp (d + 3) M_X12_partOf 94 [some (.ref aM), some (.int (b2i live)), some (.int (nI (c i))), some (.int (nI 0))] [] (evH h (nI (B + i + 1)) (b2i b)) (evS live b (some (v i : Int)) h (B + (i + 1))) := by
        by_cases hl : live = true ∧ b = false
        · obtain ⟨rfl, rfl⟩ := hl
          refine Rp.iload_n dX12_partOf_94 rfl ?_
          first | ((with_reducible show Rp _ _ _ _ (.int (b2i _) :: _) _ _); refine Rp.if_eqB (tgt := 105) dX12_partOf_95 (by decide) (fun c95 => ?_) (fun c95 => ?_)) | ((with_reducible show Rp _ _ _ _ (.int (nI _) :: _) _ _); refine Rp.if_eqN (tgt := 105) dX12_partOf_95 (by decide) (by omega) (fun c95 => ?_) (fun c95 => ?_)) | refine Rp.if_eq (tgt := 105) dX12_partOf_95 (by decide) (fun c95 => ?_) (fun c95 => ?_)
          · skip
            first | (exfalso; omega) | exact absurd c95 (by decide) | exact absurd (by decide) c95
          · skip
            refine Rp.aload_n dX12_partOf_98 rfl rfl ?_
            refine Rp.getI dX12_partOf_99 fk_X12_292 rfl (S _ _ rfl) ?_
            first | rw [ev_b] | rw [ev_g] | rw [show 2916 + (B + i + 1) - 1 = 2916 + (B + i) by omega, ev_k, e3] | skip
            first | ((with_reducible show Rp _ _ _ _ (.int (b2i _) :: _) _ _); refine Rp.if_eqB (tgt := 107) dX12_partOf_102 (by decide) (fun c102 => ?_) (fun c102 => ?_)) | ((with_reducible show Rp _ _ _ _ (.int (nI _) :: _) _ _); refine Rp.if_eqN (tgt := 107) dX12_partOf_102 (by decide) (by omega) (fun c102 => ?_) (fun c102 => ?_)) | refine Rp.if_eq (tgt := 107) dX12_partOf_102 (by decide) (fun c102 => ?_) (fun c102 => ?_)
            · skip
              refine Rp.iload_n dX12_partOf_107 rfl ?_
              refine Rp.bipush (nI 50) dX12_partOf_108 (by decide) ?_
              first | ((with_reducible show Rp _ _ _ _ (.int (nI _) :: .int (nI _) :: _) _ _); refine Rp.icmp_neN (tgt := 130) dX12_partOf_110 (by decide) (by omega) (fun c110 => ?_) (fun c110 => ?_)) | refine Rp.icmp_ne (tgt := 130) dX12_partOf_110 (by decide) (fun c110 => ?_) (fun c110 => ?_)
              · skip
                first | (exfalso; omega) | exact absurd c110 (by decide) | exact absurd (by decide) c110
              · skip
                refine Rp.aload_n dX12_partOf_113 rfl rfl ?_
                refine Rp.getR dX12_partOf_114 fk_X12_24 rfl (S _ _ rfl) (R _ _ _ rfl) ?_
                refine Rp.sipush (nI 2916) dX12_partOf_117 (by decide +kernel) ?_
                refine Rp.aload_n dX12_partOf_120 rfl rfl ?_
                refine Rp.getI dX12_partOf_121 fk_X12_282 rfl (S _ _ rfl) ?_
                first | rw [ev_b] | rw [ev_g] | rw [show 2916 + (B + i + 1) - 1 = 2916 + (B + i) by omega, ev_k, e3] | skip
                first | ((with_reducible show Rp _ _ _ _ (.int (nI _) :: .int (nI _) :: _) _ _); refine Rp.iaddN dX12_partOf_124 ?_) | refine Rp.iadd dX12_partOf_124 ?_
                refine Rp.iconst (nI 1) dX12_partOf_125 (by decide) ?_
                first | ((with_reducible show Rp _ _ _ _ (.int (nI _) :: .int (nI _) :: _) _ _); refine Rp.isubN dX12_partOf_126 (by omega) ?_) | refine Rp.isub dX12_partOf_126 ?_
                first | ((with_reducible show Rp _ _ _ _ (.int (nI _) :: _) _ _); refine Rp.ialoadN dX12_partOf_127 (S _ _ rfl) (by omega) ?_) | refine Rp.iaload dX12_partOf_127 (S _ _ rfl) (by first | assumption | exact vpb (by decide)) ?_
                first | rw [ev_b] | rw [ev_g] | rw [show 2916 + (B + i + 1) - 1 = 2916 + (B + i) by omega, ev_k, e3] | skip
                refine Rp.i2l dX12_partOf_128 ?_
                refine Rp.lreturn dX12_partOf_129 rfl ?_
                refine evS_some (fun _ => ⟨nI64 (by omega), by omega, by omega⟩)
            · skip
              exact absurd c102 (by decide)
        · exact dead hl _ _ _
      cases ord
      · rw [b2i_F] at eo
        first | ((with_reducible show Rp _ _ _ _ (.int (b2i _) :: _) _ _); refine Rp.if_eqB (tgt := 30) dX12_partOf_9 (by decide) (fun c9 => ?_) (fun c9 => ?_)) | ((with_reducible show Rp _ _ _ _ (.int (nI _) :: _) _ _); refine Rp.if_eqN (tgt := 30) dX12_partOf_9 (by decide) (by omega) (fun c9 => ?_) (fun c9 => ?_)) | refine Rp.if_eq (tgt := 30) dX12_partOf_9 (by decide) (fun c9 => ?_) (fun c9 => ?_)
        · skip
          refine Rp.aload_n dX12_partOf_30 rfl rfl ?_
          refine Rp.aload_n dX12_partOf_31 rfl rfl ?_
          refine Rp.getI dX12_partOf_32 fk_X12_282 rfl (S _ _ rfl) ?_
          first | rw [ev_g] | rw [ev_i, eo] | skip
          refine Rp.callV1 M_X12_codeAt (ci := 12) dX12_partOf_35 mo_X12_codeAt lk_X12_285 (by decide) rfl rfl (S _ _ rfl) (Nat.le_of_ble_eq_true rfl) (Nat.le_of_ble_eq_true rfl) (s_codeAt (d + 2) S R K hi _ _) (fun v1 h1 p1 x1 => ?_)
          rw [p1.1, p1.2]
          try dsimp only [Option.toList, List.cons_append, List.nil_append, List.append]
          refine Rp.ist2 dX12_partOf_38 (by first | exact nl2_some rfl | exact nl2_none) (by decide) ?_
          refine Rp.iconst (nI 0) dX12_partOf_39 (by decide) ?_
          refine Rp.ist3 dX12_partOf_40 (by first | exact nl2_some rfl | exact nl2_none) (by decide) ?_
          refine Rp.aload_n dX12_partOf_41 rfl rfl ?_
          refine Rp.dup dX12_partOf_42 rfl ?_
          refine Rp.getI dX12_partOf_43 fk_X12_282 rfl (S _ _ rfl) ?_
          first | rw [ev_g] | rw [ev_i, eo] | skip
          refine Rp.iconst (nI 1) dX12_partOf_46 (by decide) ?_
          first | ((with_reducible show Rp _ _ _ _ (.int (nI _) :: .int (nI _) :: _) _ _); refine Rp.iaddN dX12_partOf_47 ?_) | refine Rp.iadd dX12_partOf_47 ?_
          refine Rp.putI dX12_partOf_48 fk_X12_282w rfl (S _ _ rfl) ?_
          first | rw [ev_sg] | skip
          refine Rp.aload_n dX12_partOf_51 rfl rfl ?_
          refine Rp.getI dX12_partOf_52 fk_X12_312 rfl (S _ _ rfl) ?_
          first | rw [ev_g] | rw [ev_i, eo] | skip
          first | ((with_reducible show Rp _ _ _ _ (.int (b2i _) :: _) _ _); refine Rp.if_eqB (tgt := 94) dX12_partOf_55 (by decide) (fun c55 => ?_) (fun c55 => ?_)) | ((with_reducible show Rp _ _ _ _ (.int (nI _) :: _) _ _); refine Rp.if_eqN (tgt := 94) dX12_partOf_55 (by decide) (by omega) (fun c55 => ?_) (fun c55 => ?_)) | refine Rp.if_eq (tgt := 94) dX12_partOf_55 (by decide) (fun c55 => ?_) (fun c55 => ?_)
          · skip
            exact fin
          · skip
            first | (exfalso; omega) | exact absurd c55 (by decide) | exact absurd (by decide) c55
        · skip
          first | (exfalso; omega) | exact absurd c9 (by decide) | exact absurd (by decide) c9
      · rw [b2i_T] at eo
        first | ((with_reducible show Rp _ _ _ _ (.int (b2i _) :: _) _ _); refine Rp.if_eqB (tgt := 30) dX12_partOf_9 (by decide) (fun c9 => ?_) (fun c9 => ?_)) | ((with_reducible show Rp _ _ _ _ (.int (nI _) :: _) _ _); refine Rp.if_eqN (tgt := 30) dX12_partOf_9 (by decide) (by omega) (fun c9 => ?_) (fun c9 => ?_)) | refine Rp.if_eq (tgt := 30) dX12_partOf_9 (by decide) (fun c9 => ?_) (fun c9 => ?_)
        · skip
          refine Rp.aload_n dX12_partOf_30 rfl rfl ?_
          refine Rp.aload_n dX12_partOf_31 rfl rfl ?_
          refine Rp.getI dX12_partOf_32 fk_X12_282 rfl (S _ _ rfl) ?_
          first | rw [ev_g] | rw [ev_i, eo] | skip
          refine Rp.callV1 M_X12_codeAt (ci := 12) dX12_partOf_35 mo_X12_codeAt lk_X12_285 (by decide) rfl rfl (S _ _ rfl) (Nat.le_of_ble_eq_true rfl) (Nat.le_of_ble_eq_true rfl) (s_codeAt (d + 2) S R K hi _ _) (fun v1 h1 p1 x1 => ?_)
          rw [p1.1, p1.2]
          try dsimp only [Option.toList, List.cons_append, List.nil_append, List.append]
          refine Rp.ist2 dX12_partOf_38 (by first | exact nl2_some rfl | exact nl2_none) (by decide) ?_
          refine Rp.iconst (nI 0) dX12_partOf_39 (by decide) ?_
          refine Rp.ist3 dX12_partOf_40 (by first | exact nl2_some rfl | exact nl2_none) (by decide) ?_
          refine Rp.aload_n dX12_partOf_41 rfl rfl ?_
          refine Rp.dup dX12_partOf_42 rfl ?_
          refine Rp.getI dX12_partOf_43 fk_X12_282 rfl (S _ _ rfl) ?_
          first | rw [ev_g] | rw [ev_i, eo] | skip
          refine Rp.iconst (nI 1) dX12_partOf_46 (by decide) ?_
          first | ((with_reducible show Rp _ _ _ _ (.int (nI _) :: .int (nI _) :: _) _ _); refine Rp.iaddN dX12_partOf_47 ?_) | refine Rp.iadd dX12_partOf_47 ?_
          refine Rp.putI dX12_partOf_48 fk_X12_282w rfl (S _ _ rfl) ?_
          first | rw [ev_sg] | skip
          refine Rp.aload_n dX12_partOf_51 rfl rfl ?_
          refine Rp.getI dX12_partOf_52 fk_X12_312 rfl (S _ _ rfl) ?_
          first | rw [ev_g] | rw [ev_i, eo] | skip
          first | ((with_reducible show Rp _ _ _ _ (.int (b2i _) :: _) _ _); refine Rp.if_eqB (tgt := 94) dX12_partOf_55 (by decide) (fun c55 => ?_) (fun c55 => ?_)) | ((with_reducible show Rp _ _ _ _ (.int (nI _) :: _) _ _); refine Rp.if_eqN (tgt := 94) dX12_partOf_55 (by decide) (by omega) (fun c55 => ?_) (fun c55 => ?_)) | refine Rp.if_eq (tgt := 94) dX12_partOf_55 (by decide) (fun c55 => ?_) (fun c55 => ?_)
          · skip
            first | (exfalso; omega) | exact absurd c55 (by decide) | exact absurd (by decide) c55
          · skip
            refine Rp.iload_n dX12_partOf_58 rfl ?_
            refine Rp.bipush (nI 16) dX12_partOf_59 (by decide) ?_
            first | ((with_reducible show Rp _ _ _ _ (.int (nI _) :: .int (nI _) :: _) _ _); refine Rp.icmp_eqN (tgt := 70) dX12_partOf_61 (by decide) (by omega) (fun c61 => ?_) (fun c61 => ?_)) | refine Rp.icmp_eq (tgt := 70) dX12_partOf_61 (by decide) (fun c61 => ?_) (fun c61 => ?_)
            · skip
              first | (exfalso; omega) | exact absurd c61 (by decide) | exact absurd (by decide) c61
            · skip
              refine Rp.iload_n dX12_partOf_64 rfl ?_
              refine Rp.bipush (nI 22) dX12_partOf_65 (by decide) ?_
              first | ((with_reducible show Rp _ _ _ _ (.int (nI _) :: .int (nI _) :: _) _ _); refine Rp.icmp_neN (tgt := 94) dX12_partOf_67 (by decide) (by omega) (fun c67 => ?_) (fun c67 => ?_)) | refine Rp.icmp_ne (tgt := 94) dX12_partOf_67 (by decide) (fun c67 => ?_) (fun c67 => ?_)
              · skip
                exact fin
              · skip
                first | (exfalso; omega) | exact absurd c67 (by decide) | exact absurd (by decide) c67
        · skip
          first | (exfalso; omega) | exact absurd c9 (by decide) | exact absurd (by decide) c9
    · have hiT := lt_of_code hc hi (by rcases k1 with k1 | k1 <;> (rw [k1]; decide))
      have hiT2 := lt_of_code hc hiT (by show c (i + 1) ≠ 0; rw [k2]; decide)
      obtain ⟨-, e3, -, e4⟩ := K.2.2.2 (i + 1) hiT2
      rw [b2i_T] at eo
      have fin : Rp (d + 3) M_X12_partOf 94 [some (.ref aM), some (.int (b2i live)), some (.int (nI (c i))), some (.int (nI (v (i + 1))))] [] (evH h (nI (B + i + 1 + 1)) (b2i b)) (evS live b (some (w ((if c i = 22 then 5 else 11) + v (i + 1))).toInt) h (B + (i + 2))) := by
        by_cases hl : live = true ∧ b = false
        · obtain ⟨rfl, rfl⟩ := hl
          have hov := E.2.2.2 rfl d (nI (B + i + 1 + 1)) (b2i false)
          have hw := E.2.1
          rcases k1 with k1 | k1
          · rw [k1, if_neg (show ¬ (16 : Nat) = 22 by decide)]
            refine Rp.iload_n dX12_partOf_94 rfl ?_
            first | ((with_reducible show Rp _ _ _ _ (.int (b2i _) :: _) _ _); refine Rp.if_eqB (tgt := 105) dX12_partOf_95 (by decide) (fun c95 => ?_) (fun c95 => ?_)) | ((with_reducible show Rp _ _ _ _ (.int (nI _) :: _) _ _); refine Rp.if_eqN (tgt := 105) dX12_partOf_95 (by decide) (by omega) (fun c95 => ?_) (fun c95 => ?_)) | refine Rp.if_eq (tgt := 105) dX12_partOf_95 (by decide) (fun c95 => ?_) (fun c95 => ?_)
            · skip
              first | (exfalso; omega) | exact absurd c95 (by decide) | exact absurd (by decide) c95
            · skip
              refine Rp.aload_n dX12_partOf_98 rfl rfl ?_
              refine Rp.getI dX12_partOf_99 fk_X12_292 rfl (S _ _ rfl) ?_
              first | rw [ev_b] | rw [ev_g] | rw [ev_i, eo] | skip
              first | ((with_reducible show Rp _ _ _ _ (.int (b2i _) :: _) _ _); refine Rp.if_eqB (tgt := 107) dX12_partOf_102 (by decide) (fun c102 => ?_) (fun c102 => ?_)) | ((with_reducible show Rp _ _ _ _ (.int (nI _) :: _) _ _); refine Rp.if_eqN (tgt := 107) dX12_partOf_102 (by decide) (by omega) (fun c102 => ?_) (fun c102 => ?_)) | refine Rp.if_eq (tgt := 107) dX12_partOf_102 (by decide) (fun c102 => ?_) (fun c102 => ?_)
              · skip
                refine Rp.iload_n dX12_partOf_107 rfl ?_
                refine Rp.bipush (nI 50) dX12_partOf_108 (by decide) ?_
                first | ((with_reducible show Rp _ _ _ _ (.int (nI _) :: .int (nI _) :: _) _ _); refine Rp.icmp_neN (tgt := 130) dX12_partOf_110 (by decide) (by omega) (fun c110 => ?_) (fun c110 => ?_)) | refine Rp.icmp_ne (tgt := 130) dX12_partOf_110 (by decide) (fun c110 => ?_) (fun c110 => ?_)
                · skip
                  refine Rp.aload_n dX12_partOf_130 rfl rfl ?_
                  refine Rp.getI dX12_partOf_131 fk_X12_312 rfl (S _ _ rfl) ?_
                  first | rw [ev_b] | rw [ev_g] | rw [ev_i, eo] | skip
                  first | ((with_reducible show Rp _ _ _ _ (.int (b2i _) :: _) _ _); refine Rp.if_eqB (tgt := 147) dX12_partOf_134 (by decide) (fun c134 => ?_) (fun c134 => ?_)) | ((with_reducible show Rp _ _ _ _ (.int (nI _) :: _) _ _); refine Rp.if_eqN (tgt := 147) dX12_partOf_134 (by decide) (by omega) (fun c134 => ?_) (fun c134 => ?_)) | refine Rp.if_eq (tgt := 147) dX12_partOf_134 (by decide) (fun c134 => ?_) (fun c134 => ?_)
                  · skip
                    first | (exfalso; omega) | exact absurd c134 (by decide) | exact absurd (by decide) c134
                  · skip
                    refine Rp.aload_n dX12_partOf_137 rfl rfl ?_
                    refine Rp.iload_n dX12_partOf_138 rfl ?_
                    refine Rp.iload_n dX12_partOf_139 rfl ?_
                    refine Rp.callV2 M_X12_orderValue (ci := 12) dX12_partOf_140 mo_X12_orderValue lk_X12_315 (by decide) rfl rfl (S _ _ rfl) (Nat.le_of_ble_eq_true rfl) (Nat.le_of_ble_eq_true rfl) (hov.2.2 _ k3) (fun v1 h1 p1 x1 => ?_)
                    rw [p1.1, p1.2]
                    try dsimp only [Option.toList, List.cons_append, List.nil_append, List.append]
                    refine Rp.i2l dX12_partOf_143 ?_
                    refine Rp.goto (tgt := 157) dX12_partOf_144 (by decide) ?_
                    refine Rp.lreturn dX12_partOf_157 rfl ?_
                    exact evS_some (fun _ => ⟨i64_of _, (hw _).1, (hw _).2⟩)
                · skip
                  first | (exfalso; omega) | exact absurd c110 (by decide) | exact absurd (by decide) c110
              · skip
                exact absurd c102 (by decide)
          · rw [k1, if_pos (show (22 : Nat) = 22 by decide)]
            refine Rp.iload_n dX12_partOf_94 rfl ?_
            first | ((with_reducible show Rp _ _ _ _ (.int (b2i _) :: _) _ _); refine Rp.if_eqB (tgt := 105) dX12_partOf_95 (by decide) (fun c95 => ?_) (fun c95 => ?_)) | ((with_reducible show Rp _ _ _ _ (.int (nI _) :: _) _ _); refine Rp.if_eqN (tgt := 105) dX12_partOf_95 (by decide) (by omega) (fun c95 => ?_) (fun c95 => ?_)) | refine Rp.if_eq (tgt := 105) dX12_partOf_95 (by decide) (fun c95 => ?_) (fun c95 => ?_)
            · skip
              first | (exfalso; omega) | exact absurd c95 (by decide) | exact absurd (by decide) c95
            · skip
              refine Rp.aload_n dX12_partOf_98 rfl rfl ?_
              refine Rp.getI dX12_partOf_99 fk_X12_292 rfl (S _ _ rfl) ?_
              first | rw [ev_b] | rw [ev_g] | rw [ev_i, eo] | skip
              first | ((with_reducible show Rp _ _ _ _ (.int (b2i _) :: _) _ _); refine Rp.if_eqB (tgt := 107) dX12_partOf_102 (by decide) (fun c102 => ?_) (fun c102 => ?_)) | ((with_reducible show Rp _ _ _ _ (.int (nI _) :: _) _ _); refine Rp.if_eqN (tgt := 107) dX12_partOf_102 (by decide) (by omega) (fun c102 => ?_) (fun c102 => ?_)) | refine Rp.if_eq (tgt := 107) dX12_partOf_102 (by decide) (fun c102 => ?_) (fun c102 => ?_)
              · skip
                refine Rp.iload_n dX12_partOf_107 rfl ?_
                refine Rp.bipush (nI 50) dX12_partOf_108 (by decide) ?_
                first | ((with_reducible show Rp _ _ _ _ (.int (nI _) :: .int (nI _) :: _) _ _); refine Rp.icmp_neN (tgt := 130) dX12_partOf_110 (by decide) (by omega) (fun c110 => ?_) (fun c110 => ?_)) | refine Rp.icmp_ne (tgt := 130) dX12_partOf_110 (by decide) (fun c110 => ?_) (fun c110 => ?_)
                · skip
                  refine Rp.aload_n dX12_partOf_130 rfl rfl ?_
                  refine Rp.getI dX12_partOf_131 fk_X12_312 rfl (S _ _ rfl) ?_
                  first | rw [ev_b] | rw [ev_g] | rw [ev_i, eo] | skip
                  first | ((with_reducible show Rp _ _ _ _ (.int (b2i _) :: _) _ _); refine Rp.if_eqB (tgt := 147) dX12_partOf_134 (by decide) (fun c134 => ?_) (fun c134 => ?_)) | ((with_reducible show Rp _ _ _ _ (.int (nI _) :: _) _ _); refine Rp.if_eqN (tgt := 147) dX12_partOf_134 (by decide) (by omega) (fun c134 => ?_) (fun c134 => ?_)) | refine Rp.if_eq (tgt := 147) dX12_partOf_134 (by decide) (fun c134 => ?_) (fun c134 => ?_)
                  · skip
                    first | (exfalso; omega) | exact absurd c134 (by decide) | exact absurd (by decide) c134
                  · skip
                    refine Rp.aload_n dX12_partOf_137 rfl rfl ?_
                    refine Rp.iload_n dX12_partOf_138 rfl ?_
                    refine Rp.iload_n dX12_partOf_139 rfl ?_
                    refine Rp.callV2 M_X12_orderValue (ci := 12) dX12_partOf_140 mo_X12_orderValue lk_X12_315 (by decide) rfl rfl (S _ _ rfl) (Nat.le_of_ble_eq_true rfl) (Nat.le_of_ble_eq_true rfl) (hov.2.1 _ k3) (fun v1 h1 p1 x1 => ?_)
                    rw [p1.1, p1.2]
                    try dsimp only [Option.toList, List.cons_append, List.nil_append, List.append]
                    refine Rp.i2l dX12_partOf_143 ?_
                    refine Rp.goto (tgt := 157) dX12_partOf_144 (by decide) ?_
                    refine Rp.lreturn dX12_partOf_157 rfl ?_
                    exact evS_some (fun _ => ⟨i64_of _, (hw _).1, (hw _).2⟩)
                · skip
                  first | (exfalso; omega) | exact absurd c110 (by decide) | exact absurd (by decide) c110
              · skip
                exact absurd c102 (by decide)
        · exact dead hl _ _ _
      have e3 : gI h am_kept (2916 + (B + i + 1)) = nI (v (i + 1)) := e3
      rcases k1 with k1 | k1
      · have fin := fin
        first | ((with_reducible show Rp _ _ _ _ (.int (b2i _) :: _) _ _); refine Rp.if_eqB (tgt := 30) dX12_partOf_9 (by decide) (fun c9 => ?_) (fun c9 => ?_)) | ((with_reducible show Rp _ _ _ _ (.int (nI _) :: _) _ _); refine Rp.if_eqN (tgt := 30) dX12_partOf_9 (by decide) (by omega) (fun c9 => ?_) (fun c9 => ?_)) | refine Rp.if_eq (tgt := 30) dX12_partOf_9 (by decide) (fun c9 => ?_) (fun c9 => ?_)
        · skip
          refine Rp.aload_n dX12_partOf_30 rfl rfl ?_
          refine Rp.aload_n dX12_partOf_31 rfl rfl ?_
          refine Rp.getI dX12_partOf_32 fk_X12_282 rfl (S _ _ rfl) ?_
          first | rw [ev_g] | rw [ev_i, eo] | rw [ev_k, e3] | skip
          refine Rp.callV1 M_X12_codeAt (ci := 12) dX12_partOf_35 mo_X12_codeAt lk_X12_285 (by decide) rfl rfl (S _ _ rfl) (Nat.le_of_ble_eq_true rfl) (Nat.le_of_ble_eq_true rfl) (s_codeAt (d + 2) S R K hi _ _) (fun v1 h1 p1 x1 => ?_)
          rw [p1.1, p1.2]
          try dsimp only [Option.toList, List.cons_append, List.nil_append, List.append]
          refine Rp.ist2 dX12_partOf_38 (by first | exact nl2_some rfl | exact nl2_none) (by decide) ?_
          refine Rp.iconst (nI 0) dX12_partOf_39 (by decide) ?_
          refine Rp.ist3 dX12_partOf_40 (by first | exact nl2_some rfl | exact nl2_none) (by decide) ?_
          refine Rp.aload_n dX12_partOf_41 rfl rfl ?_
          refine Rp.dup dX12_partOf_42 rfl ?_
          refine Rp.getI dX12_partOf_43 fk_X12_282 rfl (S _ _ rfl) ?_
          first | rw [ev_g] | rw [ev_i, eo] | rw [ev_k, e3] | skip
          refine Rp.iconst (nI 1) dX12_partOf_46 (by decide) ?_
          first | ((with_reducible show Rp _ _ _ _ (.int (nI _) :: .int (nI _) :: _) _ _); refine Rp.iaddN dX12_partOf_47 ?_) | refine Rp.iadd dX12_partOf_47 ?_
          refine Rp.putI dX12_partOf_48 fk_X12_282w rfl (S _ _ rfl) ?_
          first | rw [ev_sg] | skip
          refine Rp.aload_n dX12_partOf_51 rfl rfl ?_
          refine Rp.getI dX12_partOf_52 fk_X12_312 rfl (S _ _ rfl) ?_
          first | rw [ev_g] | rw [ev_i, eo] | rw [ev_k, e3] | skip
          first | ((with_reducible show Rp _ _ _ _ (.int (b2i _) :: _) _ _); refine Rp.if_eqB (tgt := 94) dX12_partOf_55 (by decide) (fun c55 => ?_) (fun c55 => ?_)) | ((with_reducible show Rp _ _ _ _ (.int (nI _) :: _) _ _); refine Rp.if_eqN (tgt := 94) dX12_partOf_55 (by decide) (by omega) (fun c55 => ?_) (fun c55 => ?_)) | refine Rp.if_eq (tgt := 94) dX12_partOf_55 (by decide) (fun c55 => ?_) (fun c55 => ?_)
          · skip
            first | (exfalso; omega) | exact absurd c55 (by decide) | exact absurd (by decide) c55
          · skip
            refine Rp.iload_n dX12_partOf_58 rfl ?_
            refine Rp.bipush (nI 16) dX12_partOf_59 (by decide) ?_
            first | ((with_reducible show Rp _ _ _ _ (.int (nI _) :: .int (nI _) :: _) _ _); refine Rp.icmp_eqN (tgt := 70) dX12_partOf_61 (by decide) (by omega) (fun c61 => ?_) (fun c61 => ?_)) | refine Rp.icmp_eq (tgt := 70) dX12_partOf_61 (by decide) (fun c61 => ?_) (fun c61 => ?_)
            · skip
              refine Rp.aload_n dX12_partOf_70 rfl rfl ?_
              refine Rp.getR dX12_partOf_71 fk_X12_24 rfl (S _ _ rfl) (R _ _ _ rfl) ?_
              refine Rp.sipush (nI 2916) dX12_partOf_74 (by decide +kernel) ?_
              refine Rp.aload_n dX12_partOf_77 rfl rfl ?_
              refine Rp.getI dX12_partOf_78 fk_X12_282 rfl (S _ _ rfl) ?_
              first | rw [ev_g] | rw [ev_i, eo] | rw [ev_k, e3] | skip
              first | ((with_reducible show Rp _ _ _ _ (.int (nI _) :: .int (nI _) :: _) _ _); refine Rp.iaddN dX12_partOf_81 ?_) | refine Rp.iadd dX12_partOf_81 ?_
              first | ((with_reducible show Rp _ _ _ _ (.int (nI _) :: _) _ _); refine Rp.ialoadN dX12_partOf_82 (S _ _ rfl) (by omega) ?_) | refine Rp.iaload dX12_partOf_82 (S _ _ rfl) (by first | assumption | exact vpb (by decide)) ?_
              first | rw [ev_g] | rw [ev_i, eo] | rw [ev_k, e3] | skip
              refine Rp.ist3 dX12_partOf_83 (by first | exact nl2_some rfl | exact nl2_none) (by decide) ?_
              refine Rp.aload_n dX12_partOf_84 rfl rfl ?_
              refine Rp.dup dX12_partOf_85 rfl ?_
              refine Rp.getI dX12_partOf_86 fk_X12_282 rfl (S _ _ rfl) ?_
              first | rw [ev_g] | rw [ev_i, eo] | rw [ev_k, e3] | skip
              refine Rp.iconst (nI 1) dX12_partOf_89 (by decide) ?_
              first | ((with_reducible show Rp _ _ _ _ (.int (nI _) :: .int (nI _) :: _) _ _); refine Rp.iaddN dX12_partOf_90 ?_) | refine Rp.iadd dX12_partOf_90 ?_
              refine Rp.putI dX12_partOf_91 fk_X12_282w rfl (S _ _ rfl) ?_
              first | rw [ev_sg] | skip
              exact fin
            · skip
              first | (exfalso; omega) | exact absurd c61 (by decide) | exact absurd (by decide) c61
        · skip
          first | (exfalso; omega) | exact absurd c9 (by decide) | exact absurd (by decide) c9
      · skip
        first | ((with_reducible show Rp _ _ _ _ (.int (b2i _) :: _) _ _); refine Rp.if_eqB (tgt := 30) dX12_partOf_9 (by decide) (fun c9 => ?_) (fun c9 => ?_)) | ((with_reducible show Rp _ _ _ _ (.int (nI _) :: _) _ _); refine Rp.if_eqN (tgt := 30) dX12_partOf_9 (by decide) (by omega) (fun c9 => ?_) (fun c9 => ?_)) | refine Rp.if_eq (tgt := 30) dX12_partOf_9 (by decide) (fun c9 => ?_) (fun c9 => ?_)
        · skip
          refine Rp.aload_n dX12_partOf_30 rfl rfl ?_
          refine Rp.aload_n dX12_partOf_31 rfl rfl ?_
          refine Rp.getI dX12_partOf_32 fk_X12_282 rfl (S _ _ rfl) ?_
          first | rw [ev_g] | rw [ev_i, eo] | rw [ev_k, e3] | skip
          refine Rp.callV1 M_X12_codeAt (ci := 12) dX12_partOf_35 mo_X12_codeAt lk_X12_285 (by decide) rfl rfl (S _ _ rfl) (Nat.le_of_ble_eq_true rfl) (Nat.le_of_ble_eq_true rfl) (s_codeAt (d + 2) S R K hi _ _) (fun v1 h1 p1 x1 => ?_)
          rw [p1.1, p1.2]
          try dsimp only [Option.toList, List.cons_append, List.nil_append, List.append]
          refine Rp.ist2 dX12_partOf_38 (by first | exact nl2_some rfl | exact nl2_none) (by decide) ?_
          refine Rp.iconst (nI 0) dX12_partOf_39 (by decide) ?_
          refine Rp.ist3 dX12_partOf_40 (by first | exact nl2_some rfl | exact nl2_none) (by decide) ?_
          refine Rp.aload_n dX12_partOf_41 rfl rfl ?_
          refine Rp.dup dX12_partOf_42 rfl ?_
          refine Rp.getI dX12_partOf_43 fk_X12_282 rfl (S _ _ rfl) ?_
          first | rw [ev_g] | rw [ev_i, eo] | rw [ev_k, e3] | skip
          refine Rp.iconst (nI 1) dX12_partOf_46 (by decide) ?_
          first | ((with_reducible show Rp _ _ _ _ (.int (nI _) :: .int (nI _) :: _) _ _); refine Rp.iaddN dX12_partOf_47 ?_) | refine Rp.iadd dX12_partOf_47 ?_
          refine Rp.putI dX12_partOf_48 fk_X12_282w rfl (S _ _ rfl) ?_
          first | rw [ev_sg] | skip
          refine Rp.aload_n dX12_partOf_51 rfl rfl ?_
          refine Rp.getI dX12_partOf_52 fk_X12_312 rfl (S _ _ rfl) ?_
          first | rw [ev_g] | rw [ev_i, eo] | rw [ev_k, e3] | skip
          first | ((with_reducible show Rp _ _ _ _ (.int (b2i _) :: _) _ _); refine Rp.if_eqB (tgt := 94) dX12_partOf_55 (by decide) (fun c55 => ?_) (fun c55 => ?_)) | ((with_reducible show Rp _ _ _ _ (.int (nI _) :: _) _ _); refine Rp.if_eqN (tgt := 94) dX12_partOf_55 (by decide) (by omega) (fun c55 => ?_) (fun c55 => ?_)) | refine Rp.if_eq (tgt := 94) dX12_partOf_55 (by decide) (fun c55 => ?_) (fun c55 => ?_)
          · skip
            first | (exfalso; omega) | exact absurd c55 (by decide) | exact absurd (by decide) c55
          · skip
            refine Rp.iload_n dX12_partOf_58 rfl ?_
            refine Rp.bipush (nI 16) dX12_partOf_59 (by decide) ?_
            first | ((with_reducible show Rp _ _ _ _ (.int (nI _) :: .int (nI _) :: _) _ _); refine Rp.icmp_eqN (tgt := 70) dX12_partOf_61 (by decide) (by omega) (fun c61 => ?_) (fun c61 => ?_)) | refine Rp.icmp_eq (tgt := 70) dX12_partOf_61 (by decide) (fun c61 => ?_) (fun c61 => ?_)
            · skip
              first | (exfalso; omega) | exact absurd c61 (by decide) | exact absurd (by decide) c61
            · skip
              refine Rp.iload_n dX12_partOf_64 rfl ?_
              refine Rp.bipush (nI 22) dX12_partOf_65 (by decide) ?_
              first | ((with_reducible show Rp _ _ _ _ (.int (nI _) :: .int (nI _) :: _) _ _); refine Rp.icmp_neN (tgt := 94) dX12_partOf_67 (by decide) (by omega) (fun c67 => ?_) (fun c67 => ?_)) | refine Rp.icmp_ne (tgt := 94) dX12_partOf_67 (by decide) (fun c67 => ?_) (fun c67 => ?_)
              · skip
                first | (exfalso; omega) | exact absurd c67 (by decide) | exact absurd (by decide) c67
              · skip
                refine Rp.aload_n dX12_partOf_70 rfl rfl ?_
                refine Rp.getR dX12_partOf_71 fk_X12_24 rfl (S _ _ rfl) (R _ _ _ rfl) ?_
                refine Rp.sipush (nI 2916) dX12_partOf_74 (by decide +kernel) ?_
                refine Rp.aload_n dX12_partOf_77 rfl rfl ?_
                refine Rp.getI dX12_partOf_78 fk_X12_282 rfl (S _ _ rfl) ?_
                first | rw [ev_g] | rw [ev_i, eo] | rw [ev_k, e3] | skip
                first | ((with_reducible show Rp _ _ _ _ (.int (nI _) :: .int (nI _) :: _) _ _); refine Rp.iaddN dX12_partOf_81 ?_) | refine Rp.iadd dX12_partOf_81 ?_
                first | ((with_reducible show Rp _ _ _ _ (.int (nI _) :: _) _ _); refine Rp.ialoadN dX12_partOf_82 (S _ _ rfl) (by omega) ?_) | refine Rp.iaload dX12_partOf_82 (S _ _ rfl) (by first | assumption | exact vpb (by decide)) ?_
                first | rw [ev_g] | rw [ev_i, eo] | rw [ev_k, e3] | skip
                refine Rp.ist3 dX12_partOf_83 (by first | exact nl2_some rfl | exact nl2_none) (by decide) ?_
                refine Rp.aload_n dX12_partOf_84 rfl rfl ?_
                refine Rp.dup dX12_partOf_85 rfl ?_
                refine Rp.getI dX12_partOf_86 fk_X12_282 rfl (S _ _ rfl) ?_
                first | rw [ev_g] | rw [ev_i, eo] | rw [ev_k, e3] | skip
                refine Rp.iconst (nI 1) dX12_partOf_89 (by decide) ?_
                first | ((with_reducible show Rp _ _ _ _ (.int (nI _) :: .int (nI _) :: _) _ _); refine Rp.iaddN dX12_partOf_90 ?_) | refine Rp.iadd dX12_partOf_90 ?_
                refine Rp.putI dX12_partOf_91 fk_X12_282w rfl (S _ _ rfl) ?_
                first | rw [ev_sg] | skip
                exact fin
        · skip
          first | (exfalso; omega) | exact absurd c9 (by decide) | exact absurd (by decide) c9
    · rw [b2i_T] at eo
      have fin : Rp (d + 3) M_X12_partOf 94 [some (.ref aM), some (.int (b2i live)), some (.int (nI (c i))), some (.int (nI 0))] [] (evH h (nI (B + i + 1)) (b2i b)) (evS live b (some (w (c i - 17)).toInt) h (B + (i + 1))) := by
        by_cases hl : live = true ∧ b = false
        · obtain ⟨rfl, rfl⟩ := hl
          have hov := E.2.2.2 rfl d (nI (B + i + 1)) (b2i false)
          have hw := E.2.1
          refine Rp.iload_n dX12_partOf_94 rfl ?_
          first | ((with_reducible show Rp _ _ _ _ (.int (b2i _) :: _) _ _); refine Rp.if_eqB (tgt := 105) dX12_partOf_95 (by decide) (fun c95 => ?_) (fun c95 => ?_)) | ((with_reducible show Rp _ _ _ _ (.int (nI _) :: _) _ _); refine Rp.if_eqN (tgt := 105) dX12_partOf_95 (by decide) (by omega) (fun c95 => ?_) (fun c95 => ?_)) | refine Rp.if_eq (tgt := 105) dX12_partOf_95 (by decide) (fun c95 => ?_) (fun c95 => ?_)
          · skip
            first | (exfalso; omega) | exact absurd c95 (by decide) | exact absurd (by decide) c95
          · skip
            refine Rp.aload_n dX12_partOf_98 rfl rfl ?_
            refine Rp.getI dX12_partOf_99 fk_X12_292 rfl (S _ _ rfl) ?_
            first | rw [ev_b] | rw [ev_g] | rw [ev_i, eo] | skip
            first | ((with_reducible show Rp _ _ _ _ (.int (b2i _) :: _) _ _); refine Rp.if_eqB (tgt := 107) dX12_partOf_102 (by decide) (fun c102 => ?_) (fun c102 => ?_)) | ((with_reducible show Rp _ _ _ _ (.int (nI _) :: _) _ _); refine Rp.if_eqN (tgt := 107) dX12_partOf_102 (by decide) (by omega) (fun c102 => ?_) (fun c102 => ?_)) | refine Rp.if_eq (tgt := 107) dX12_partOf_102 (by decide) (fun c102 => ?_) (fun c102 => ?_)
            · skip
              refine Rp.iload_n dX12_partOf_107 rfl ?_
              refine Rp.bipush (nI 50) dX12_partOf_108 (by decide) ?_
              first | ((with_reducible show Rp _ _ _ _ (.int (nI _) :: .int (nI _) :: _) _ _); refine Rp.icmp_neN (tgt := 130) dX12_partOf_110 (by decide) (by omega) (fun c110 => ?_) (fun c110 => ?_)) | refine Rp.icmp_ne (tgt := 130) dX12_partOf_110 (by decide) (fun c110 => ?_) (fun c110 => ?_)
              · skip
                refine Rp.aload_n dX12_partOf_130 rfl rfl ?_
                refine Rp.getI dX12_partOf_131 fk_X12_312 rfl (S _ _ rfl) ?_
                first | rw [ev_b] | rw [ev_g] | rw [ev_i, eo] | skip
                first | ((with_reducible show Rp _ _ _ _ (.int (b2i _) :: _) _ _); refine Rp.if_eqB (tgt := 147) dX12_partOf_134 (by decide) (fun c134 => ?_) (fun c134 => ?_)) | ((with_reducible show Rp _ _ _ _ (.int (nI _) :: _) _ _); refine Rp.if_eqN (tgt := 147) dX12_partOf_134 (by decide) (by omega) (fun c134 => ?_) (fun c134 => ?_)) | refine Rp.if_eq (tgt := 147) dX12_partOf_134 (by decide) (fun c134 => ?_) (fun c134 => ?_)
                · skip
                  first | (exfalso; omega) | exact absurd c134 (by decide) | exact absurd (by decide) c134
                · skip
                  refine Rp.aload_n dX12_partOf_137 rfl rfl ?_
                  refine Rp.iload_n dX12_partOf_138 rfl ?_
                  refine Rp.iload_n dX12_partOf_139 rfl ?_
                  refine Rp.callV2 M_X12_orderValue (ci := 12) dX12_partOf_140 mo_X12_orderValue lk_X12_315 (by decide) rfl rfl (S _ _ rfl) (Nat.le_of_ble_eq_true rfl) (Nat.le_of_ble_eq_true rfl) (hov.1 _ k1 k2) (fun v1 h1 p1 x1 => ?_)
                  rw [p1.1, p1.2]
                  try dsimp only [Option.toList, List.cons_append, List.nil_append, List.append]
                  refine Rp.i2l dX12_partOf_143 ?_
                  refine Rp.goto (tgt := 157) dX12_partOf_144 (by decide) ?_
                  refine Rp.lreturn dX12_partOf_157 rfl ?_
                  exact evS_some (fun _ => ⟨i64_of _, (hw _).1, (hw _).2⟩)
              · skip
                first | (exfalso; omega) | exact absurd c110 (by decide) | exact absurd (by decide) c110
            · skip
              exact absurd c102 (by decide)
        · exact dead hl _ _ _
      first | ((with_reducible show Rp _ _ _ _ (.int (b2i _) :: _) _ _); refine Rp.if_eqB (tgt := 30) dX12_partOf_9 (by decide) (fun c9 => ?_) (fun c9 => ?_)) | ((with_reducible show Rp _ _ _ _ (.int (nI _) :: _) _ _); refine Rp.if_eqN (tgt := 30) dX12_partOf_9 (by decide) (by omega) (fun c9 => ?_) (fun c9 => ?_)) | refine Rp.if_eq (tgt := 30) dX12_partOf_9 (by decide) (fun c9 => ?_) (fun c9 => ?_)
      · skip
        refine Rp.aload_n dX12_partOf_30 rfl rfl ?_
        refine Rp.aload_n dX12_partOf_31 rfl rfl ?_
        refine Rp.getI dX12_partOf_32 fk_X12_282 rfl (S _ _ rfl) ?_
        first | rw [ev_g] | rw [ev_i, eo] | skip
        refine Rp.callV1 M_X12_codeAt (ci := 12) dX12_partOf_35 mo_X12_codeAt lk_X12_285 (by decide) rfl rfl (S _ _ rfl) (Nat.le_of_ble_eq_true rfl) (Nat.le_of_ble_eq_true rfl) (s_codeAt (d + 2) S R K hi _ _) (fun v1 h1 p1 x1 => ?_)
        rw [p1.1, p1.2]
        try dsimp only [Option.toList, List.cons_append, List.nil_append, List.append]
        refine Rp.ist2 dX12_partOf_38 (by first | exact nl2_some rfl | exact nl2_none) (by decide) ?_
        refine Rp.iconst (nI 0) dX12_partOf_39 (by decide) ?_
        refine Rp.ist3 dX12_partOf_40 (by first | exact nl2_some rfl | exact nl2_none) (by decide) ?_
        refine Rp.aload_n dX12_partOf_41 rfl rfl ?_
        refine Rp.dup dX12_partOf_42 rfl ?_
        refine Rp.getI dX12_partOf_43 fk_X12_282 rfl (S _ _ rfl) ?_
        first | rw [ev_g] | rw [ev_i, eo] | skip
        refine Rp.iconst (nI 1) dX12_partOf_46 (by decide) ?_
        first | ((with_reducible show Rp _ _ _ _ (.int (nI _) :: .int (nI _) :: _) _ _); refine Rp.iaddN dX12_partOf_47 ?_) | refine Rp.iadd dX12_partOf_47 ?_
        refine Rp.putI dX12_partOf_48 fk_X12_282w rfl (S _ _ rfl) ?_
        first | rw [ev_sg] | skip
        refine Rp.aload_n dX12_partOf_51 rfl rfl ?_
        refine Rp.getI dX12_partOf_52 fk_X12_312 rfl (S _ _ rfl) ?_
        first | rw [ev_g] | rw [ev_i, eo] | skip
        first | ((with_reducible show Rp _ _ _ _ (.int (b2i _) :: _) _ _); refine Rp.if_eqB (tgt := 94) dX12_partOf_55 (by decide) (fun c55 => ?_) (fun c55 => ?_)) | ((with_reducible show Rp _ _ _ _ (.int (nI _) :: _) _ _); refine Rp.if_eqN (tgt := 94) dX12_partOf_55 (by decide) (by omega) (fun c55 => ?_) (fun c55 => ?_)) | refine Rp.if_eq (tgt := 94) dX12_partOf_55 (by decide) (fun c55 => ?_) (fun c55 => ?_)
        · skip
          first | (exfalso; omega) | exact absurd c55 (by decide) | exact absurd (by decide) c55
        · skip
          refine Rp.iload_n dX12_partOf_58 rfl ?_
          refine Rp.bipush (nI 16) dX12_partOf_59 (by decide) ?_
          first | ((with_reducible show Rp _ _ _ _ (.int (nI _) :: .int (nI _) :: _) _ _); refine Rp.icmp_eqN (tgt := 70) dX12_partOf_61 (by decide) (by omega) (fun c61 => ?_) (fun c61 => ?_)) | refine Rp.icmp_eq (tgt := 70) dX12_partOf_61 (by decide) (fun c61 => ?_) (fun c61 => ?_)
          · skip
            first | (exfalso; omega) | exact absurd c61 (by decide) | exact absurd (by decide) c61
          · skip
            refine Rp.iload_n dX12_partOf_64 rfl ?_
            refine Rp.bipush (nI 22) dX12_partOf_65 (by decide) ?_
            first | ((with_reducible show Rp _ _ _ _ (.int (nI _) :: .int (nI _) :: _) _ _); refine Rp.icmp_neN (tgt := 94) dX12_partOf_67 (by decide) (by omega) (fun c67 => ?_) (fun c67 => ?_)) | refine Rp.icmp_ne (tgt := 94) dX12_partOf_67 (by decide) (fun c67 => ?_) (fun c67 => ?_)
            · skip
              exact fin
            · skip
              first | (exfalso; omega) | exact absurd c67 (by decide) | exact absurd (by decide) c67
      · skip
        first | (exfalso; omega) | exact absurd c9 (by decide) | exact absurd (by decide) c9
    · rw [b2i_F] at eo
      have fin : Rp (d + 3) M_X12_partOf 94 [some (.ref aM), some (.int (b2i live)), some (.int (nI (c i))), some (.int (nI 0))] [] (evH h (nI (B + i + 1)) (b2i b)) (evS live b (some (w (lwI (c i))).toInt) h (B + (i + 1))) := by
        by_cases hl : live = true ∧ b = false
        · obtain ⟨rfl, rfl⟩ := hl
          have hov := E.2.2.1 rfl (c i) k1 k2
          have hw := E.2.1
          refine Rp.iload_n dX12_partOf_94 rfl ?_
          first | ((with_reducible show Rp _ _ _ _ (.int (b2i _) :: _) _ _); refine Rp.if_eqB (tgt := 105) dX12_partOf_95 (by decide) (fun c95 => ?_) (fun c95 => ?_)) | ((with_reducible show Rp _ _ _ _ (.int (nI _) :: _) _ _); refine Rp.if_eqN (tgt := 105) dX12_partOf_95 (by decide) (by omega) (fun c95 => ?_) (fun c95 => ?_)) | refine Rp.if_eq (tgt := 105) dX12_partOf_95 (by decide) (fun c95 => ?_) (fun c95 => ?_)
          · skip
            first | (exfalso; omega) | exact absurd c95 (by decide) | exact absurd (by decide) c95
          · skip
            refine Rp.aload_n dX12_partOf_98 rfl rfl ?_
            refine Rp.getI dX12_partOf_99 fk_X12_292 rfl (S _ _ rfl) ?_
            first | rw [ev_b] | rw [ev_g] | rw [ev_i, eo] | rw [ev_a, hov] | skip
            first | ((with_reducible show Rp _ _ _ _ (.int (b2i _) :: _) _ _); refine Rp.if_eqB (tgt := 107) dX12_partOf_102 (by decide) (fun c102 => ?_) (fun c102 => ?_)) | ((with_reducible show Rp _ _ _ _ (.int (nI _) :: _) _ _); refine Rp.if_eqN (tgt := 107) dX12_partOf_102 (by decide) (by omega) (fun c102 => ?_) (fun c102 => ?_)) | refine Rp.if_eq (tgt := 107) dX12_partOf_102 (by decide) (fun c102 => ?_) (fun c102 => ?_)
            · skip
              refine Rp.iload_n dX12_partOf_107 rfl ?_
              refine Rp.bipush (nI 50) dX12_partOf_108 (by decide) ?_
              first | ((with_reducible show Rp _ _ _ _ (.int (nI _) :: .int (nI _) :: _) _ _); refine Rp.icmp_neN (tgt := 130) dX12_partOf_110 (by decide) (by omega) (fun c110 => ?_) (fun c110 => ?_)) | refine Rp.icmp_ne (tgt := 130) dX12_partOf_110 (by decide) (fun c110 => ?_) (fun c110 => ?_)
              · skip
                refine Rp.aload_n dX12_partOf_130 rfl rfl ?_
                refine Rp.getI dX12_partOf_131 fk_X12_312 rfl (S _ _ rfl) ?_
                first | rw [ev_b] | rw [ev_g] | rw [ev_i, eo] | rw [ev_a, hov] | skip
                first | ((with_reducible show Rp _ _ _ _ (.int (b2i _) :: _) _ _); refine Rp.if_eqB (tgt := 147) dX12_partOf_134 (by decide) (fun c134 => ?_) (fun c134 => ?_)) | ((with_reducible show Rp _ _ _ _ (.int (nI _) :: _) _ _); refine Rp.if_eqN (tgt := 147) dX12_partOf_134 (by decide) (by omega) (fun c134 => ?_) (fun c134 => ?_)) | refine Rp.if_eq (tgt := 147) dX12_partOf_134 (by decide) (fun c134 => ?_) (fun c134 => ?_)
                · skip
                  refine Rp.aload_n dX12_partOf_147 rfl rfl ?_
                  refine Rp.getR dX12_partOf_148 fk_X12_59 rfl (S _ _ rfl) (R _ _ _ rfl) ?_
                  refine Rp.iload_n dX12_partOf_151 rfl ?_
                  refine Rp.bipush (nI 9) dX12_partOf_152 (by decide) ?_
                  first | ((with_reducible show Rp _ _ _ _ (.int (nI _) :: .int (nI _) :: _) _ _); refine Rp.isubN dX12_partOf_154 (by omega) ?_) | refine Rp.isub dX12_partOf_154 ?_
                  first | ((with_reducible show Rp _ _ _ _ (.int (nI _) :: _) _ _); refine Rp.ialoadN dX12_partOf_155 (S _ _ rfl) (by omega) ?_) | refine Rp.iaload dX12_partOf_155 (S _ _ rfl) (by first | assumption | exact vpb (by decide)) ?_
                  first | rw [ev_b] | rw [ev_g] | rw [ev_i, eo] | rw [ev_a, hov] | skip
                  refine Rp.i2l dX12_partOf_156 ?_
                  refine Rp.lreturn dX12_partOf_157 rfl ?_
                  exact evS_some (fun _ => ⟨i64_of _, (hw _).1, (hw _).2⟩)
                · skip
                  first | (exfalso; omega) | exact absurd c134 (by decide) | exact absurd (by decide) c134
              · skip
                first | (exfalso; omega) | exact absurd c110 (by decide) | exact absurd (by decide) c110
            · skip
              exact absurd c102 (by decide)
        · exact dead hl _ _ _
      first | ((with_reducible show Rp _ _ _ _ (.int (b2i _) :: _) _ _); refine Rp.if_eqB (tgt := 30) dX12_partOf_9 (by decide) (fun c9 => ?_) (fun c9 => ?_)) | ((with_reducible show Rp _ _ _ _ (.int (nI _) :: _) _ _); refine Rp.if_eqN (tgt := 30) dX12_partOf_9 (by decide) (by omega) (fun c9 => ?_) (fun c9 => ?_)) | refine Rp.if_eq (tgt := 30) dX12_partOf_9 (by decide) (fun c9 => ?_) (fun c9 => ?_)
      · skip
        refine Rp.aload_n dX12_partOf_30 rfl rfl ?_
        refine Rp.aload_n dX12_partOf_31 rfl rfl ?_
        refine Rp.getI dX12_partOf_32 fk_X12_282 rfl (S _ _ rfl) ?_
        first | rw [ev_g] | rw [ev_i, eo] | skip
        refine Rp.callV1 M_X12_codeAt (ci := 12) dX12_partOf_35 mo_X12_codeAt lk_X12_285 (by decide) rfl rfl (S _ _ rfl) (Nat.le_of_ble_eq_true rfl) (Nat.le_of_ble_eq_true rfl) (s_codeAt (d + 2) S R K hi _ _) (fun v1 h1 p1 x1 => ?_)
        rw [p1.1, p1.2]
        try dsimp only [Option.toList, List.cons_append, List.nil_append, List.append]
        refine Rp.ist2 dX12_partOf_38 (by first | exact nl2_some rfl | exact nl2_none) (by decide) ?_
        refine Rp.iconst (nI 0) dX12_partOf_39 (by decide) ?_
        refine Rp.ist3 dX12_partOf_40 (by first | exact nl2_some rfl | exact nl2_none) (by decide) ?_
        refine Rp.aload_n dX12_partOf_41 rfl rfl ?_
        refine Rp.dup dX12_partOf_42 rfl ?_
        refine Rp.getI dX12_partOf_43 fk_X12_282 rfl (S _ _ rfl) ?_
        first | rw [ev_g] | rw [ev_i, eo] | skip
        refine Rp.iconst (nI 1) dX12_partOf_46 (by decide) ?_
        first | ((with_reducible show Rp _ _ _ _ (.int (nI _) :: .int (nI _) :: _) _ _); refine Rp.iaddN dX12_partOf_47 ?_) | refine Rp.iadd dX12_partOf_47 ?_
        refine Rp.putI dX12_partOf_48 fk_X12_282w rfl (S _ _ rfl) ?_
        first | rw [ev_sg] | skip
        refine Rp.aload_n dX12_partOf_51 rfl rfl ?_
        refine Rp.getI dX12_partOf_52 fk_X12_312 rfl (S _ _ rfl) ?_
        first | rw [ev_g] | rw [ev_i, eo] | skip
        first | ((with_reducible show Rp _ _ _ _ (.int (b2i _) :: _) _ _); refine Rp.if_eqB (tgt := 94) dX12_partOf_55 (by decide) (fun c55 => ?_) (fun c55 => ?_)) | ((with_reducible show Rp _ _ _ _ (.int (nI _) :: _) _ _); refine Rp.if_eqN (tgt := 94) dX12_partOf_55 (by decide) (by omega) (fun c55 => ?_) (fun c55 => ?_)) | refine Rp.if_eq (tgt := 94) dX12_partOf_55 (by decide) (fun c55 => ?_) (fun c55 => ?_)
        · skip
          exact fin
        · skip
          first | (exfalso; omega) | exact absurd c55 (by decide) | exact absurd (by decide) c55
      · skip
        first | (exfalso; omega) | exact absurd c9 (by decide) | exact absurd (by decide) c9
end Ep
def CIH (h : AH) (B : Nat) (ord : Bool) (c v : Nat → Nat) (T : Nat) (w : Nat → Int32) (f : Nat) : Prop := ∀ (md d dep i lv a i' lv' : Nat) (cd : List (Nat × Nat)) (D : DN) (live b : Bool), md < 12 → dep ≤ 8 → i ≤ T → lv ≤ 50 → Prs ord c v f md dep i lv a = .ok (i', lv', cd, D) → cR h B w live b d md dep i i' D
