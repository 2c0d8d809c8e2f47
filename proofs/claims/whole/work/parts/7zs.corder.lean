/-- what an act of orders touches -/
def otX (k j : Nat) : Bool := tkX 1 k j || (k == 63 && j == 4)
theorem otX_t {h g : AH} (F : Fr (tkX 1) h g) : Fr otX h g := F.weak (fun k j hx => by unfold otX at hx; rw [Bool.or_eq_false_iff] at hx; exact hx.1)
theorem otX_a {h g : AH} (F : Fr (aX 1) h g) : Fr otX h g := F.weak (fun k j hx => by unfold otX tkX at hx; rw [Bool.or_eq_false_iff, Bool.or_eq_false_iff, Bool.or_eq_false_iff] at hx; exact hx.1.1.1)
theorem aX1_n {k j : Nat} (hk : k = 0 ∨ 17 ≤ k) (hj : jX k j = false) : aX 1 k j = false := by
  unfold aX hX lX
  rw [hj, show (k == 1 + 3) = false from beq_eq_false_iff_ne.mpr (by omega), show (k == 1 + 7) = false from beq_eq_false_iff_ne.mpr (by omega), show (k == 1 + 14) = false from beq_eq_false_iff_ne.mpr (by omega), show (k == 1 + 15) = false from beq_eq_false_iff_ne.mpr (by omega)]
  rfl
theorem otX_T {k j : Nat} (o : okT k) : otX k j = false := by
  have := okT_33 o
  unfold otX tkX
  rw [aX1_n (by omega) (jX_T o), bX_T o, show (k == 1 + 12) = false from beq_eq_false_iff_ne.mpr (by omega), show (k == 63) = false from beq_eq_false_iff_ne.mpr (okT_ne o (by decide) (by decide) (by decide) (by decide))]
  rfl
/-- what an order leaves in the class -/
def AtQ (h : AH) (K : Nat → Int32) (fl : Option (List CLE)) (np nt vb : Nat) (E : List Int32) (lt : Int32) (q : Int32 × AC) (r : Option Value) (h' : AH) : Prop := r = some (.int q.1) ∧ Fr otX h h' ∧ JS h' 1 (acK K q.2) fl ∧ HM h' 1 (acK K q.2) np nt ∧ LOG h' 1 (acE E q.2) ∧ gI h' 63 4 = if vb = 0 ∧ ¬ q.1 < 0 then q.1 else lt
def xX (k j : Nat) : Bool := k == 63 && j == 4
theorem xX_n {k j : Nat} (h : k ≠ 63) : xX k j = false := by unfold xX; rw [beq_eq_false_iff_ne.mpr h]; rfl
section Oa
variable (d : Nat) {h : AH} {K : Nat → Int32} {fl : Option (List CLE)} {np nt nl : Nat} {E : List Int32} {LSs : Nat → List CLE}
theorem t_act (S : ShOK h) (R : RfOK h) (J : JS h 1 K fl) (B : KB K) (M : HM h 1 K np nt) (L : LOG h 1 E) (H : HLw h 1 nl LSs) (hfl : fl = flO nl LSs (gI h 1 18)) {lt : Int32} (hl : gI h 63 4 = lt) {vb : Nat} (hv : vb < 4) (x y : Int32) : Rp (d + 4) M_X8_act 0 [some (.ref 63), some (.ref 1), some (.int (nI vb)), some (.int x), some (.int y), none] [] h (AtQ h K fl np nt vb E lt (obR K fl np nt vb x y)) := by
  obtain ⟨m, hm, e6⟩ := B.2.2.2.2.2.1
  match vb, hv with
  | 0, _ =>
    show Rp _ _ _ _ _ _ (AtQ h K fl np nt 0 E lt (drR K fl np nt x y))
    have a0 := t_takeUp d S R J B M L x y
    generalize drR K fl np nt x y = q at a0 ⊢
    refine Rp.iload_n dX8_act_0 rfl ?_
    refine Rp.tableIn (tgt := 28) (off := 27) dX8_act_1 (by decide) (by decide) (by decide) (by decide) ?_
    refine Rp.aload_n dX8_act_28 rfl rfl ?_
    refine Rp.getR dX8_act_29 fk_X8_19 rfl (S _ _ rfl) (R _ _ _ rfl) ?_
    refine Rp.aload_n dX8_act_32 rfl rfl ?_
    refine Rp.iload_n dX8_act_33 rfl ?_
    refine Rp.iload dX8_act_34 rfl ?_
    refine Rp.callV3 M_X0_takeUp (ci := 0) dX8_act_36 mo_X0_takeUp lk_X8_68 (by decide) rfl rfl (S _ _ rfl) (Nat.le_of_ble_eq_true rfl) (Nat.le_of_ble_eq_true rfl) (a0) (fun v1 h1 p1 x1 => ?_)
    obtain ⟨rfl, F1, J1, M1, L1⟩ := p1
    try dsimp only [Option.toList, List.cons_append, List.nil_append, List.append]
    skip
    have S1 := F1.S S
    have l1 : gI h1 63 4 = lt := (F1.I 63 4 rfl).trans hl
    by_cases c : q.1 < 0
    · skip
      refine Rp.ist5 dX8_act_39 (by first | exact nl2_some rfl | exact nl2_none) (by decide) ?_
      refine Rp.iload dX8_act_41 rfl ?_
      refine Rp.if_lt (tgt := 52) dX8_act_43 (by decide) (fun c43 => ?_) (fun c43 => ?_)
      · skip
        refine Rp.iload dX8_act_52 rfl ?_
        refine Rp.ireturn dX8_act_54 rfl ?_
        exact ⟨rfl, otX_a F1, J1, M1, L1, by rw [if_neg (fun z => z.2 c)]; exact l1⟩
      · skip
        exact absurd c c43
    · have F2 : Fr xX h1 (sI h1 63 4 q.1) := Fr.rfl'.sI rfl
      have F3 : Fr otX h (sI h1 63 4 q.1) := (otX_a F1).sI rfl
      have J2 := J1.fg F2 (fun j => rfl) (fun j => rfl) (fun j => rfl) (fun k j hk => xX_n (by omega)) (fun k j o => xX_n (okT_ne o (by decide) (by decide) (by decide) (by decide)))
      have M2 : HM (sI h1 63 4 q.1) 1 (acK K q.2) np nt := M1.fr F2 (fun o j ho _ _ => xX_n (by omega)) (fun o j ho e => by rw [xX_n (by omega)] at e; cases e)
      have L2 : LOG (sI h1 63 4 q.1) 1 (acE E q.2) := L1.fr F2 rfl (fun j => rfl)
      refine Rp.ist5 dX8_act_39 (by first | exact nl2_some rfl | exact nl2_none) (by decide) ?_
      refine Rp.iload dX8_act_41 rfl ?_
      refine Rp.if_lt (tgt := 52) dX8_act_43 (by decide) (fun c43 => ?_) (fun c43 => ?_)
      · skip
        exact absurd c43 c
      · skip
        refine Rp.aload_n dX8_act_46 rfl rfl ?_
        refine Rp.iload dX8_act_47 rfl ?_
        refine Rp.putI dX8_act_49 fk_X8_27w rfl (S1 _ _ rfl) ?_
        refine Rp.iload dX8_act_52 rfl ?_
        refine Rp.ireturn dX8_act_54 rfl ?_
        exact ⟨rfl, F3, J2, M2, L2, by rw [if_pos ⟨rfl, c⟩]; exact gI_hit _ _ _ _⟩
  | 1, _ =>
    show Rp _ _ _ _ _ _ (AtQ h K fl np nt 1 E lt (swR K fl np x y))
    have a0 := t_exchange d S R J B M L x y
    generalize swR K fl np x y = q at a0 ⊢
    refine Rp.iload_n dX8_act_0 rfl ?_
    refine Rp.tableIn (tgt := 55) (off := 54) dX8_act_1 (by decide) (by decide) (by decide) (by decide) ?_
    refine Rp.aload_n dX8_act_55 rfl rfl ?_
    refine Rp.getR dX8_act_56 fk_X8_19 rfl (S _ _ rfl) (R _ _ _ rfl) ?_
    refine Rp.aload_n dX8_act_59 rfl rfl ?_
    refine Rp.iload_n dX8_act_60 rfl ?_
    refine Rp.iload dX8_act_61 rfl ?_
    refine Rp.callV3 M_X0_exchange (ci := 0) dX8_act_63 mo_X0_exchange lk_X8_74 (by decide) rfl rfl (S _ _ rfl) (Nat.le_of_ble_eq_true rfl) (Nat.le_of_ble_eq_true rfl) (a0) (fun v1 h1 p1 x1 => ?_)
    obtain ⟨rfl, F1, J1, M1, L1⟩ := p1
    try dsimp only [Option.toList, List.cons_append, List.nil_append, List.append]
    refine Rp.ireturn dX8_act_66 rfl ?_
    exact ⟨rfl, otX_a F1, J1, M1, L1, by rw [if_neg (fun z => absurd z.1 (by decide))]; exact (F1.I 63 4 rfl).trans hl⟩
  | 2, _ =>
    show Rp _ _ _ _ _ _ (AtQ h K fl np nt 2 E lt (dpR K np x))
    have a0 := t_giveUp d J M L x (fl := fl) (nt := nt)
    generalize dpR K np x = q at a0 ⊢
    refine Rp.iload_n dX8_act_0 rfl ?_
    refine Rp.tableIn (tgt := 67) (off := 66) dX8_act_1 (by decide) (by decide) (by decide) (by decide) ?_
    refine Rp.aload_n dX8_act_67 rfl rfl ?_
    refine Rp.getR dX8_act_68 fk_X8_19 rfl (S _ _ rfl) (R _ _ _ rfl) ?_
    refine Rp.aload_n dX8_act_71 rfl rfl ?_
    refine Rp.iload_n dX8_act_72 rfl ?_
    refine Rp.callV2 M_X0_giveUp (ci := 0) dX8_act_73 mo_X0_giveUp lk_X8_77 (by decide) rfl rfl (S _ _ rfl) (Nat.le_of_ble_eq_true rfl) (Nat.le_of_ble_eq_true rfl) (a0) (fun v1 h1 p1 x1 => ?_)
    obtain ⟨rfl, F1, J1, M1, L1⟩ := p1
    try dsimp only [Option.toList, List.cons_append, List.nil_append, List.append]
    refine Rp.ireturn dX8_act_76 rfl ?_
    exact ⟨rfl, otX_a F1, J1, M1, L1, by rw [if_neg (fun z => absurd z.1 (by decide))]; exact (F1.I 63 4 rfl).trans hl⟩
  | 3, _ =>
    show Rp _ _ _ _ _ _ (AtQ h K fl np nt 3 E lt (tkR K))
    have a0 := t_tick d S R J M L H hfl (m := m) (by omega) e6
    generalize tkR K = q at a0 ⊢
    refine Rp.iload_n dX8_act_0 rfl ?_
    refine Rp.tableOut (tgt := 77) dX8_act_1 (by decide) (by decide) ?_
    refine Rp.aload_n dX8_act_77 rfl rfl ?_
    refine Rp.getR dX8_act_78 fk_X8_19 rfl (S _ _ rfl) (R _ _ _ rfl) ?_
    refine Rp.aload_n dX8_act_81 rfl rfl ?_
    refine Rp.callV1 M_X0_tick (ci := 0) dX8_act_82 mo_X0_tick lk_X8_81 (by decide) rfl rfl (S _ _ rfl) (Nat.le_of_ble_eq_true rfl) (Nat.le_of_ble_eq_true rfl) (a0) (fun v1 h1 p1 x1 => ?_)
    obtain ⟨rfl, F1, J1, M1, L1⟩ := p1
    try dsimp only [Option.toList, List.cons_append, List.nil_append, List.append]
    refine Rp.ireturn dX8_act_85 rfl ?_
    exact ⟨rfl, otX_t F1, J1, M1, L1, by rw [if_neg (fun z => absurd z.1 (by decide))]; exact (F1.I 63 4 rfl).trans hl⟩
end Oa
