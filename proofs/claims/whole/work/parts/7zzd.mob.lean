def gaX (k j : Nat) : Bool := tlX k j || (gbX k j || (k == 100 && j == 29))
theorem gaX_t {h g : AH} (F : Fr tlX h g) : Fr gaX h g := F.weak (fun k j hx => by unfold gaX at hx; rw [Bool.or_eq_false_iff] at hx; exact hx.1)
theorem gaX_b {h g : AH} (F : Fr gbX h g) : Fr gaX h g := F.weak (fun k j hx => by unfold gaX at hx; rw [Bool.or_eq_false_iff, Bool.or_eq_false_iff] at hx; exact hx.2.1)
/-- the order's tokens stand in kept -/
def OK6 (K : Nat → Int32) (c v : Nat → Nat) (T : Nat) : Prop := T ≤ 400 ∧ c T = 0 ∧ ∀ k, k < T → K (116 + (2400 + k)) = nI (c k) ∧ K (2916 + (2400 + k)) = nI (v k) ∧ c k < 1000 ∧ v k < 20000000
def GaQ (h : AH) (w : Nat → Int32) (live : Bool) (cI tm i' : Nat) (p q ts : PT) (h' : AH) : Prop := Fr gaX h h' ∧ gI h' aM 22 = nI (2400 + i' + 1) ∧ gI h' aM 53 = nI cI ∧ gI h' aM 52 = nI tm ∧ (live = true → gI h' aM 55 = b2i (tsV ts w) ∧ gI h' aM 54 = b2i ((ptV p w).isSome && (ptV q w).isSome) ∧ (∀ pos D x, p = some (pos, D) → D w 0 = some x → gL h' 127 0 = Int64.ofInt x ∧ -1000000000 ≤ x ∧ x ≤ 1000000000) ∧ (∀ pos D x, q = some (pos, D) → D w 0 = some x → gL h' 127 1 = Int64.ofInt x ∧ -1000000000 ≤ x ∧ x ≤ 1000000000))
section Gs
variable (d : Nat) {h : AH} {c v : Nat → Nat} {T : Nat} {fl : Option (List CLE)} {np nt : Nat} {US : List (Nat → Int32)}
theorem s_goesAlong (A : MA h fl np nt US) (K6 : OK6 (gI h 102) c v T) {dn : Nat} {lt : Int32} (h27 : gI h aM 27 = nI dn) (h28 : gI h aM 28 = lt) (hd : dn ≤ 1000) (hlt : lt = -1 ∨ ∃ x, x < 100 ∧ lt = nI x) {f i lv a i' lv' : Nat} {cd : List (Nat × Nat)} {vb tm : Nat} {p q ts : PT} (h51 : gI h aM 51 = nI (2400 + i)) (hcl : clR true c v f i lv a = .ok (i', lv', cd, vb, tm, p, q, ts)) (hi : i ≤ T) (hl : lv ≤ 50) (live : Bool) : Rp (d + 77) M_X12_goesAlong 0 [some (.ref aM), some (.int (nI (2400 + T))), some (.int (b2i live)), none, none] [] h (fun r h' => r = none ∧ GaQ h (wO (gI h 102) np nt dn lt (fitN (gI h 102) fl np)) live (c i) tm i' p q ts h') := by
  obtain ⟨S, R, hF, B, V, hM, hT, L⟩ := A
  obtain ⟨t4, ct, kt⟩ := K6
  have v1 := V.1
  have fle := fitN_le (gI h 102) fl np
  have ft := s_fitMany d S R hF B V hM
  refine Rp.aload_n dX12_goesAlong_0 rfl rfl ?_
  refine Rp.aload_n dX12_goesAlong_1 rfl rfl ?_
  refine Rp.callV0 M_X12_fitMany (ci := 12) dX12_goesAlong_2 mo_X12_fitMany lk_X12_408 (by decide) rfl rfl (S _ _ rfl) (Nat.le_of_ble_eq_true rfl) (Nat.le_of_ble_eq_true rfl) (ft) (fun v1 h1 p1 x1 => ?_)
  obtain ⟨F1, rfl⟩ := p1
  try dsimp only [Option.toList, List.cons_append, List.nil_append, List.append]
  skip
  have S1 := F1.S S
  have R1 := F1.R R (by decide)
  have K1 : gI h1 102 = gI h 102 := funext fun j => F1.I 102 j rfl
  let hb := sI (sI (sI h1 aM 29 (nI (fitN (gI h 102) fl np))) aM 25 (nI 1)) aM 23 (nI (2400 + T))
  have Fb : Fr gaX h1 hb := ((Fr.rfl'.sI rfl).sI rfl).sI rfl
  have G : GB hb c v T (gI h 102) dn lt (fitN (gI h 102) fl np) := ⟨S1, R1, ⟨by omega, ct, gI_hit _ _ _ _, fun k hk => by
      have q := kt k hk
      rw [← K1] at q
      exact q⟩, (gI_off _ _ _ (by decide)).trans (gI_hit _ _ _ _), K1, (show gI hb aM 27 = gI h1 aM 27 from rfl).trans ((F1.I 100 27 rfl).trans h27), (show gI hb aM 28 = gI h1 aM 28 from rfl).trans ((F1.I 100 28 rfl).trans h28), (gI_off _ _ _ (by decide)).trans ((gI_off _ _ _ (by decide)).trans (gI_hit _ _ _ _))⟩
  have w51 : gI hb 100 51 = nI (2400 + i) := (show gI hb 100 51 = gI h1 100 51 from rfl).trans ((F1.I 100 51 rfl).trans h51)
  have k26 := ga26 d G V B hM hT hd (by omega) hlt hcl hi hl live (nI (2400 + T)) (gI hb aM 24)
  have k26 := Rp.mono (Q := fun r h' => r = none ∧ GaQ h (wO (gI h 102) np nt dn lt (fitN (gI h 102) fl np)) live (c i) tm i' p q ts h') (fun r h' z => by
    obtain ⟨z1, hx, bb, rfl, Fx, x53, x52, x5⟩ := z
    have Fe : Fr gaX h (evH hx (nI (2400 + i' + 1)) bb) := ((((gaX_t F1).trans Fb).trans (gaX_b Fx)).sI rfl).sI rfl
    exact ⟨z1, Fe, ev_g _ _ _, (ev_53 _ _ _).trans x53, (ev_q _ _ _ (by decide) (by decide)).trans x52, fun hlv => ⟨(ev_55 _ _ _).trans (x5 hlv).1, (ev_54 _ _ _).trans (x5 hlv).2.1, (x5 hlv).2.2⟩⟩) k26
  refine Rp.putI dX12_goesAlong_5 fk_X12_324w rfl (S1 _ _ rfl) ?_
  refine Rp.aload_n dX12_goesAlong_8 rfl rfl ?_
  refine Rp.iconst (nI 1) dX12_goesAlong_9 (by decide) ?_
  refine Rp.putZ dX12_goesAlong_10 fk_X12_312w rfl (by first | exact Or.inl rfl | exact Or.inr rfl | assumption) (S1 _ _ rfl) ?_
  refine Rp.aload_n dX12_goesAlong_13 rfl rfl ?_
  refine Rp.iload_n dX12_goesAlong_14 rfl ?_
  refine Rp.putI dX12_goesAlong_15 fk_X12_279w rfl (S1 _ _ rfl) ?_
  refine Rp.aload_n dX12_goesAlong_18 rfl rfl ?_
  refine Rp.aload_n dX12_goesAlong_19 rfl rfl ?_
  refine Rp.getI dX12_goesAlong_20 fk_X12_482 rfl (S1 _ _ rfl) ?_
  first | rw [w51] | skip
  refine Rp.putI dX12_goesAlong_23 fk_X12_282w rfl (S1 _ _ rfl) ?_
  rw [ev_mk]
  exact k26
/-- a number as an order's place -/
def smL (x : Int64) : Int32 := if x < 0 ∨ 1000000 < x then -1 else x.toInt32
theorem s_small (x : Int64) : Rp d M_X12_small 0 [some (.long x), none] [] h (fun r h' => h' = h ∧ r = some (.int (smL x))) := by
  unfold smL
  have smE1 : (lg_cmp x 0 < 0) ↔ x < 0 := by
    have := lg_cmp_ge x 0
    rw [i32_le] at this
    rw [i32_lt, Int64.lt_iff_toInt_lt]
    rw [Int64.le_iff_toInt_le] at this
    have z : (0 : Int32).toInt = 0 := rfl
    omega
  have smE3 : ¬ (lg_cmp x 1000000 ≤ 0) ↔ 1000000 < x := by
    rw [lg_cmp_le, Int64.le_iff_toInt_le, Int64.lt_iff_toInt_lt]
    omega
  refine Rp.lload_n dX12_small_0 rfl ?_
  refine Rp.lconst (0) dX12_small_1 (by decide) ?_
  refine Rp.lcmp dX12_small_2 ?_
  refine Rp.if_lt (tgt := 14) dX12_small_3 (by decide) (fun c3 => ?_) (fun c3 => ?_)
  · skip
    refine Rp.iconst (-1) dX12_small_14 (by decide) ?_
    refine Rp.goto (tgt := 20) dX12_small_15 (by decide) ?_
    refine Rp.ireturn dX12_small_20 rfl ?_
    first | (rw [if_pos (Or.inl (smE1.mp c3))]; exact ⟨rfl, rfl⟩) | (rw [if_pos (Or.inr (smE3.mp c11))]; exact ⟨rfl, rfl⟩) | (rw [if_neg (fun z => z.elim (fun z => c3 (smE1.mpr z)) (fun z => (smE3.mpr z) c11))]; exact ⟨rfl, rfl⟩)
  · skip
    refine Rp.lload_n dX12_small_6 rfl ?_
    refine Rp.ldc2 dX12_small_7 kc_X12_500 ?_
    refine Rp.lcmp dX12_small_10 ?_
    refine Rp.if_le (tgt := 18) dX12_small_11 (by decide) (fun c11 => ?_) (fun c11 => ?_)
    · skip
      refine Rp.lload_n dX12_small_18 rfl ?_
      refine Rp.l2i dX12_small_19 ?_
      refine Rp.ireturn dX12_small_20 rfl ?_
      first | (rw [if_pos (Or.inl (smE1.mp c3))]; exact ⟨rfl, rfl⟩) | (rw [if_pos (Or.inr (smE3.mp c11))]; exact ⟨rfl, rfl⟩) | (rw [if_neg (fun z => z.elim (fun z => c3 (smE1.mpr z)) (fun z => (smE3.mpr z) c11))]; exact ⟨rfl, rfl⟩)
    · skip
      refine Rp.iconst (-1) dX12_small_14 (by decide) ?_
      refine Rp.goto (tgt := 20) dX12_small_15 (by decide) ?_
      refine Rp.ireturn dX12_small_20 rfl ?_
      first | (rw [if_pos (Or.inl (smE1.mp c3))]; exact ⟨rfl, rfl⟩) | (rw [if_pos (Or.inr (smE3.mp c11))]; exact ⟨rfl, rfl⟩) | (rw [if_neg (fun z => z.elim (fun z => c3 (smE1.mpr z)) (fun z => (smE3.mpr z) c11))]; exact ⟨rfl, rfl⟩)
end Gs
theorem smL_in {y : Int} (hy : -1000000000 ≤ y ∧ y ≤ 1000000000) {n : Nat} (hn : n ≤ 1000) : inN (smL (Int64.ofInt y)) n = inN (Int32.ofInt y) n ∧ (inN (Int32.ofInt y) n = true → smL (Int64.ofInt y) = Int32.ofInt y) := by
  have t := z64_toInt (y := y) (by omega) (by omega)
  have u := i32_of hy
  by_cases c : y < 0 ∨ 1000000 < y
  · have smE : smL (Int64.ofInt y) = -1 := by
      unfold smL
      rw [if_pos (by
        rcases c with c | c
        · left; rw [Int64.lt_iff_toInt_lt, t]; exact c
        · right; rw [Int64.lt_iff_toInt_lt, t]; exact c)]
    have smF : inN (Int32.ofInt y) n = false := by
      unfold inN
      rw [u]
      exact decide_eq_false (by omega)
    refine ⟨?_, fun z => by rw [smF] at z; cases z⟩
    rw [smE, smF]
    unfold inN
    exact decide_eq_false (fun z => absurd z.1 (by decide))
  · have smE : smL (Int64.ofInt y) = Int32.ofInt y := by
      unfold smL
      rw [if_neg (fun z => c (by
        rcases z with z | z
        · left; rw [Int64.lt_iff_toInt_lt, t] at z; exact z
        · right; rw [Int64.lt_iff_toInt_lt, t] at z; exact z))]
      have : y = ((y.toNat : Nat) : Int) := by omega
      rw [this]
      exact z64_nI (by omega)
    exact ⟨by rw [smE], fun _ => smE⟩
theorem dr_sm {K : Nat → Int32} {fl : Option (List CLE)} {np nt : Nat} {x y : Int} (hp : np ≤ 6) (ht : nt ≤ 8) (hx : -1000000000 ≤ x ∧ x ≤ 1000000000) (hy : -1000000000 ≤ y ∧ y ≤ 1000000000) : drR K fl np nt (smL (Int64.ofInt x)) (smL (Int64.ofInt y)) = drR K fl np nt (Int32.ofInt x) (Int32.ofInt y) := by
  unfold drR
  rw [(smL_in hx (by omega)).1, (smL_in hy (by omega)).1]
  by_cases e : (inN (Int32.ofInt x) nt && inN (Int32.ofInt y) np) = true
  · rw [if_pos e, if_pos e]
    rw [Bool.and_eq_true] at e
    rw [(smL_in hx (by omega)).2 e.1, (smL_in hy (by omega)).2 e.2]
  · rw [if_neg e, if_neg e]
theorem sw_sm {K : Nat → Int32} {fl : Option (List CLE)} {np : Nat} {x y : Int} (hp : np ≤ 6) (hx : -1000000000 ≤ x ∧ x ≤ 1000000000) (hy : -1000000000 ≤ y ∧ y ≤ 1000000000) : swR K fl np (smL (Int64.ofInt x)) (smL (Int64.ofInt y)) = swR K fl np (Int32.ofInt x) (Int32.ofInt y) := by
  unfold swR
  rw [(smL_in hx (by omega)).1, (smL_in hy (by omega)).1]
  by_cases e : (inN (Int32.ofInt x) np && inN (Int32.ofInt y) np) = true
  · rw [if_pos e, if_pos e]
    rw [Bool.and_eq_true] at e
    rw [(smL_in hx (by omega)).2 e.1, (smL_in hy (by omega)).2 e.2]
  · rw [if_neg e, if_neg e]
theorem dp_sm {K : Nat → Int32} {np : Nat} {x : Int} (hp : np ≤ 6) (hx : -1000000000 ≤ x ∧ x ≤ 1000000000) : dpR K np (smL (Int64.ofInt x)) = dpR K np (Int32.ofInt x) := by
  unfold dpR
  rw [(smL_in hx (by omega)).1]
  by_cases e : inN (Int32.ofInt x) np = true
  · rw [if_pos e, if_pos e, (smL_in hx (by omega)).2 e]
  · rw [if_neg e, if_neg e]
def obX (k j : Nat) : Bool := amX k j || (k == 100 && j == 28)
theorem obX_a {h g : AH} (F : Fr amX h g) : Fr obX h g := F.weak (fun k j hx => by unfold obX at hx; rw [Bool.or_eq_false_iff] at hx; exact hx.1)
/-- what an order leaves in the reference -/
def ObQ (h : AH) (US : List (Nat → Int32)) (vb : Nat) (lt : Int32) (q : Int32 × AC) (r : Option Value) (h' : AH) : Prop := r = some (.int q.1) ∧ Fr obX h h' ∧ gI h' 102 = acK (gI h 102) q.2 ∧ LGm h' (acU US (gI h 102) q.2) ∧ gI h' aM 28 = if vb = 0 ∧ ¬ q.1 < 0 then q.1 else lt
section Oy
variable (d : Nat) {h : AH} {fl : Option (List CLE)} {np nt : Nat} {US : List (Nat → Int32)}
theorem s_obeys (A : MA h fl np nt US) {vb cI : Nat} (hv : (vb = 0 ∧ cI = 23) ∨ (vb = 1 ∧ cI = 25) ∨ (vb = 2 ∧ cI = 27) ∨ (vb = 3 ∧ cI = 28)) (h53 : gI h aM 53 = nI cI) {lt : Int32} (h28 : gI h aM 28 = lt) {x y : Int} (hx : vb < 3 → gL h 127 0 = Int64.ofInt x ∧ -1000000000 ≤ x ∧ x ≤ 1000000000) (hy : vb < 2 → gL h 127 1 = Int64.ofInt y ∧ -1000000000 ≤ y ∧ y ≤ 1000000000) : Rp (d + 78) M_X12_obeys 0 [some (.ref aM), none, none] [] h (ObQ h US vb lt (obR (gI h 102) fl np nt vb (Int32.ofInt x) (Int32.ofInt y))) := by
  have S := A.1
  have R := A.2.1
  have V := A.2.2.2.2.1
  have v1 := V.1
  have v2 := V.2.1
  have sm0 := s_small (d + 77) (h := h) (gL h 127 0)
  have sm1 := s_small (d + 77) (h := h) (gL h 127 1)
  have q53 : gI h 100 53 = nI cI := h53
  rcases hv with ⟨rfl, rfl⟩ | ⟨rfl, rfl⟩ | ⟨rfl, rfl⟩ | ⟨rfl, rfl⟩
  · obtain ⟨e1, b1⟩ := hx (by decide)
    obtain ⟨e2, b2⟩ := hy (by decide)
    rw [e1] at sm0
    rw [e2] at sm1
    have a0 := s_drawsKept d A (smL (Int64.ofInt x)) (smL (Int64.ofInt y))
    rw [dr_sm v1 v2 b1 b2] at a0
    show Rp _ _ _ _ _ _ (ObQ h US 0 lt (drR (gI h 102) fl np nt (Int32.ofInt x) (Int32.ofInt y)))
    generalize drR (gI h 102) fl np nt (Int32.ofInt x) (Int32.ofInt y) = q at a0 ⊢
    refine Rp.aload_n dX12_obeys_0 rfl rfl ?_
    refine Rp.getR dX12_obeys_1 fk_X12_108 rfl (S _ _ rfl) (R _ _ _ rfl) ?_
    refine Rp.iconst (nI 0) dX12_obeys_4 (by decide) ?_
    first | ((with_reducible show Rp _ _ _ _ (.int (nI _) :: _) _ _); refine Rp.laloadN dX12_obeys_5 (S _ _ rfl) (by omega) ?_) | refine Rp.laload dX12_obeys_5 (S _ _ rfl) (by first | assumption | exact vpb (by decide)) ?_
    first | rw [q53] | rw [e1] | rw [e2] | skip
    refine Rp.callS1 M_X12_small dX12_obeys_6 mo_X12_small lk_X12_502 (Nat.le_of_ble_eq_true rfl) (Nat.le_of_ble_eq_true rfl) (sm0) (fun v1 h1 p1 x1 => ?_)
    rw [p1.1, p1.2]
    try dsimp only [Option.toList, List.cons_append, List.nil_append, List.append]
    refine Rp.ist1 dX12_obeys_9 (by first | exact nl2_some rfl | exact nl2_none) (by decide) ?_
    refine Rp.aload_n dX12_obeys_10 rfl rfl ?_
    refine Rp.getI dX12_obeys_11 fk_X12_488 rfl (S _ _ rfl) ?_
    first | rw [q53] | rw [e1] | rw [e2] | skip
    refine Rp.tableOut (tgt := 70) dX12_obeys_14 (by decide) (by decide) ?_
    refine Rp.aload_n dX12_obeys_70 rfl rfl ?_
    refine Rp.iload_n dX12_obeys_71 rfl ?_
    refine Rp.aload_n dX12_obeys_72 rfl rfl ?_
    refine Rp.getR dX12_obeys_73 fk_X12_108 rfl (S _ _ rfl) (R _ _ _ rfl) ?_
    refine Rp.iconst (nI 1) dX12_obeys_76 (by decide) ?_
    first | ((with_reducible show Rp _ _ _ _ (.int (nI _) :: _) _ _); refine Rp.laloadN dX12_obeys_77 (S _ _ rfl) (by omega) ?_) | refine Rp.laload dX12_obeys_77 (S _ _ rfl) (by first | assumption | exact vpb (by decide)) ?_
    first | rw [q53] | rw [e1] | rw [e2] | skip
    refine Rp.callS1 M_X12_small dX12_obeys_78 mo_X12_small lk_X12_502 (Nat.le_of_ble_eq_true rfl) (Nat.le_of_ble_eq_true rfl) (sm1) (fun v1 h1 p1 x1 => ?_)
    rw [p1.1, p1.2]
    try dsimp only [Option.toList, List.cons_append, List.nil_append, List.append]
    refine Rp.callV2 M_X12_drawsKept (ci := 12) dX12_obeys_81 mo_X12_drawsKept lk_X12_366 (by decide) rfl rfl (S _ _ rfl) (Nat.le_of_ble_eq_true rfl) (Nat.le_of_ble_eq_true rfl) (a0) (fun v1 h1 p1 x1 => ?_)
    obtain ⟨rfl, F1, e3, L1⟩ := p1
    try dsimp only [Option.toList, List.cons_append, List.nil_append, List.append]
    skip
    have S1 := F1.S S
    have l1 : gI h1 100 28 = lt := (F1.I 100 28 rfl).trans h28
    by_cases c : q.1 < 0
    · skip
      refine Rp.ist2 dX12_obeys_84 (by first | exact nl2_some rfl | exact nl2_none) (by decide) ?_
      refine Rp.aload_n dX12_obeys_85 rfl rfl ?_
      refine Rp.iload_n dX12_obeys_86 rfl ?_
      refine Rp.if_ge (tgt := 97) dX12_obeys_87 (by decide) (fun c87 => ?_) (fun c87 => ?_)
      · skip
        exact absurd c87 (by rw [i32_lt] at c; rw [i32_le]; exact Int.not_le.mpr c)
      · skip
        refine Rp.aload_n dX12_obeys_90 rfl rfl ?_
        refine Rp.getI dX12_obeys_91 fk_X12_321 rfl (S1 _ _ rfl) ?_
        first | rw [l1] | skip
        refine Rp.goto (tgt := 98) dX12_obeys_94 (by decide) ?_
        refine Rp.putI dX12_obeys_98 fk_X12_321w rfl (S1 _ _ rfl) ?_
        refine Rp.iload_n dX12_obeys_101 rfl ?_
        refine Rp.ireturn dX12_obeys_102 rfl ?_
        exact ⟨rfl, (obX_a F1).sI rfl, e3, ⟨L1.1, L1.2.1, L1.2.2⟩, by rw [if_neg (fun z => z.2 c)]; exact gI_hit _ _ _ _⟩
    · skip
      refine Rp.ist2 dX12_obeys_84 (by first | exact nl2_some rfl | exact nl2_none) (by decide) ?_
      refine Rp.aload_n dX12_obeys_85 rfl rfl ?_
      refine Rp.iload_n dX12_obeys_86 rfl ?_
      refine Rp.if_ge (tgt := 97) dX12_obeys_87 (by decide) (fun c87 => ?_) (fun c87 => ?_)
      · skip
        refine Rp.iload_n dX12_obeys_97 rfl ?_
        refine Rp.putI dX12_obeys_98 fk_X12_321w rfl (S1 _ _ rfl) ?_
        refine Rp.iload_n dX12_obeys_101 rfl ?_
        refine Rp.ireturn dX12_obeys_102 rfl ?_
        exact ⟨rfl, (obX_a F1).sI rfl, e3, ⟨L1.1, L1.2.1, L1.2.2⟩, by rw [if_pos ⟨rfl, c⟩]; exact gI_hit _ _ _ _⟩
      · skip
        exact absurd (by rw [i32_lt] at c; rw [i32_le]; exact Int.not_lt.mp c) c87
  · obtain ⟨e1, b1⟩ := hx (by decide)
    obtain ⟨e2, b2⟩ := hy (by decide)
    rw [e1] at sm0
    rw [e2] at sm1
    have a0 := s_swapsKept d A (smL (Int64.ofInt x)) (smL (Int64.ofInt y))
    rw [sw_sm v1 b1 b2] at a0
    show Rp _ _ _ _ _ _ (ObQ h US 1 lt (swR (gI h 102) fl np (Int32.ofInt x) (Int32.ofInt y)))
    generalize swR (gI h 102) fl np (Int32.ofInt x) (Int32.ofInt y) = q at a0 ⊢
    refine Rp.aload_n dX12_obeys_0 rfl rfl ?_
    refine Rp.getR dX12_obeys_1 fk_X12_108 rfl (S _ _ rfl) (R _ _ _ rfl) ?_
    refine Rp.iconst (nI 0) dX12_obeys_4 (by decide) ?_
    first | ((with_reducible show Rp _ _ _ _ (.int (nI _) :: _) _ _); refine Rp.laloadN dX12_obeys_5 (S _ _ rfl) (by omega) ?_) | refine Rp.laload dX12_obeys_5 (S _ _ rfl) (by first | assumption | exact vpb (by decide)) ?_
    first | rw [q53] | rw [e1] | rw [e2] | skip
    refine Rp.callS1 M_X12_small dX12_obeys_6 mo_X12_small lk_X12_502 (Nat.le_of_ble_eq_true rfl) (Nat.le_of_ble_eq_true rfl) (sm0) (fun v1 h1 p1 x1 => ?_)
    rw [p1.1, p1.2]
    try dsimp only [Option.toList, List.cons_append, List.nil_append, List.append]
    refine Rp.ist1 dX12_obeys_9 (by first | exact nl2_some rfl | exact nl2_none) (by decide) ?_
    refine Rp.aload_n dX12_obeys_10 rfl rfl ?_
    refine Rp.getI dX12_obeys_11 fk_X12_488 rfl (S _ _ rfl) ?_
    first | rw [q53] | rw [e1] | rw [e2] | skip
    refine Rp.tableIn (tgt := 44) (off := 30) dX12_obeys_14 (by decide) (by decide) (by decide) (by decide) ?_
    refine Rp.aload_n dX12_obeys_44 rfl rfl ?_
    refine Rp.iload_n dX12_obeys_45 rfl ?_
    refine Rp.aload_n dX12_obeys_46 rfl rfl ?_
    refine Rp.getR dX12_obeys_47 fk_X12_108 rfl (S _ _ rfl) (R _ _ _ rfl) ?_
    refine Rp.iconst (nI 1) dX12_obeys_50 (by decide) ?_
    first | ((with_reducible show Rp _ _ _ _ (.int (nI _) :: _) _ _); refine Rp.laloadN dX12_obeys_51 (S _ _ rfl) (by omega) ?_) | refine Rp.laload dX12_obeys_51 (S _ _ rfl) (by first | assumption | exact vpb (by decide)) ?_
    first | rw [q53] | rw [e1] | rw [e2] | skip
    refine Rp.callS1 M_X12_small dX12_obeys_52 mo_X12_small lk_X12_502 (Nat.le_of_ble_eq_true rfl) (Nat.le_of_ble_eq_true rfl) (sm1) (fun v1 h1 p1 x1 => ?_)
    rw [p1.1, p1.2]
    try dsimp only [Option.toList, List.cons_append, List.nil_append, List.append]
    refine Rp.callV2 M_X12_swapsKept (ci := 12) dX12_obeys_55 mo_X12_swapsKept lk_X12_372 (by decide) rfl rfl (S _ _ rfl) (Nat.le_of_ble_eq_true rfl) (Nat.le_of_ble_eq_true rfl) (a0) (fun v1 h1 p1 x1 => ?_)
    obtain ⟨rfl, F1, e3, L1⟩ := p1
    try dsimp only [Option.toList, List.cons_append, List.nil_append, List.append]
    refine Rp.ireturn dX12_obeys_58 rfl ?_
    exact ⟨rfl, obX_a F1, e3, L1, by rw [if_neg (fun z => absurd z.1 (by decide))]; exact (F1.I 100 28 rfl).trans h28⟩
  · obtain ⟨e1, b1⟩ := hx (by decide)
    rw [e1] at sm0
    have a0 := s_dropsKept d A (smL (Int64.ofInt x))
    rw [dp_sm v1 b1] at a0
    show Rp _ _ _ _ _ _ (ObQ h US 2 lt (dpR (gI h 102) np (Int32.ofInt x)))
    generalize dpR (gI h 102) np (Int32.ofInt x) = q at a0 ⊢
    refine Rp.aload_n dX12_obeys_0 rfl rfl ?_
    refine Rp.getR dX12_obeys_1 fk_X12_108 rfl (S _ _ rfl) (R _ _ _ rfl) ?_
    refine Rp.iconst (nI 0) dX12_obeys_4 (by decide) ?_
    first | ((with_reducible show Rp _ _ _ _ (.int (nI _) :: _) _ _); refine Rp.laloadN dX12_obeys_5 (S _ _ rfl) (by omega) ?_) | refine Rp.laload dX12_obeys_5 (S _ _ rfl) (by first | assumption | exact vpb (by decide)) ?_
    first | rw [q53] | rw [e1] | skip
    refine Rp.callS1 M_X12_small dX12_obeys_6 mo_X12_small lk_X12_502 (Nat.le_of_ble_eq_true rfl) (Nat.le_of_ble_eq_true rfl) (sm0) (fun v1 h1 p1 x1 => ?_)
    rw [p1.1, p1.2]
    try dsimp only [Option.toList, List.cons_append, List.nil_append, List.append]
    refine Rp.ist1 dX12_obeys_9 (by first | exact nl2_some rfl | exact nl2_none) (by decide) ?_
    refine Rp.aload_n dX12_obeys_10 rfl rfl ?_
    refine Rp.getI dX12_obeys_11 fk_X12_488 rfl (S _ _ rfl) ?_
    first | rw [q53] | rw [e1] | skip
    refine Rp.tableIn (tgt := 59) (off := 45) dX12_obeys_14 (by decide) (by decide) (by decide) (by decide) ?_
    refine Rp.aload_n dX12_obeys_59 rfl rfl ?_
    refine Rp.iload_n dX12_obeys_60 rfl ?_
    refine Rp.callV1 M_X12_dropsKept (ci := 12) dX12_obeys_61 mo_X12_dropsKept lk_X12_375 (by decide) rfl rfl (S _ _ rfl) (Nat.le_of_ble_eq_true rfl) (Nat.le_of_ble_eq_true rfl) (a0) (fun v1 h1 p1 x1 => ?_)
    obtain ⟨rfl, F1, e3, L1⟩ := p1
    try dsimp only [Option.toList, List.cons_append, List.nil_append, List.append]
    refine Rp.ireturn dX12_obeys_64 rfl ?_
    exact ⟨rfl, obX_a F1, e3, L1, by rw [if_neg (fun z => absurd z.1 (by decide))]; exact (F1.I 100 28 rfl).trans h28⟩
  · obtain ⟨m, hm, e6⟩ := A.2.2.2.1.2.2.2.2.2.1
    have a0 := s_passesKept d S R A.2.2.2.2.2.2.2 (m := m) (by omega) e6
    show Rp _ _ _ _ _ _ (ObQ h US 3 lt (tkR (gI h 102)))
    have a0 : Rp (d + 77) M_X12_passesKept 0 [some (.ref aM)] [] h (AmQ h US (tkR (gI h 102))) := a0
    generalize tkR (gI h 102) = q at a0 ⊢
    refine Rp.aload_n dX12_obeys_0 rfl rfl ?_
    refine Rp.getR dX12_obeys_1 fk_X12_108 rfl (S _ _ rfl) (R _ _ _ rfl) ?_
    refine Rp.iconst (nI 0) dX12_obeys_4 (by decide) ?_
    first | ((with_reducible show Rp _ _ _ _ (.int (nI _) :: _) _ _); refine Rp.laloadN dX12_obeys_5 (S _ _ rfl) (by omega) ?_) | refine Rp.laload dX12_obeys_5 (S _ _ rfl) (by first | assumption | exact vpb (by decide)) ?_
    first | rw [q53] | skip
    refine Rp.callS1 M_X12_small dX12_obeys_6 mo_X12_small lk_X12_502 (Nat.le_of_ble_eq_true rfl) (Nat.le_of_ble_eq_true rfl) (sm0) (fun v1 h1 p1 x1 => ?_)
    rw [p1.1, p1.2]
    try dsimp only [Option.toList, List.cons_append, List.nil_append, List.append]
    refine Rp.ist1 dX12_obeys_9 (by first | exact nl2_some rfl | exact nl2_none) (by decide) ?_
    refine Rp.aload_n dX12_obeys_10 rfl rfl ?_
    refine Rp.getI dX12_obeys_11 fk_X12_488 rfl (S _ _ rfl) ?_
    first | rw [q53] | skip
    refine Rp.tableIn (tgt := 65) (off := 51) dX12_obeys_14 (by decide) (by decide) (by decide) (by decide) ?_
    refine Rp.aload_n dX12_obeys_65 rfl rfl ?_
    refine Rp.callV0 M_X12_passesKept (ci := 12) dX12_obeys_66 mo_X12_passesKept lk_X12_378 (by decide) rfl rfl (S _ _ rfl) (Nat.le_of_ble_eq_true rfl) (Nat.le_of_ble_eq_true rfl) (a0) (fun v1 h1 p1 x1 => ?_)
    obtain ⟨rfl, F1, e3, L1⟩ := p1
    try dsimp only [Option.toList, List.cons_append, List.nil_append, List.append]
    refine Rp.ireturn dX12_obeys_69 rfl ?_
    exact ⟨rfl, obX_a F1, e3, L1, by rw [if_neg (fun z => absurd z.1 (by decide))]; exact (F1.I 100 28 rfl).trans h28⟩
end Oy
