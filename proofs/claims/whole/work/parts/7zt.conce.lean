/-- what orders touch -/
def orX (k j : Nat) : Bool := otX k j || (loX k j || (k == 63 && j == 3))
theorem orX_t {h g : AH} (F : Fr otX h g) : Fr orX h g := F.weak (fun k j hx => by unfold orX at hx; rw [Bool.or_eq_false_iff] at hx; exact hx.1)
theorem orX_l {h g : AH} (F : Fr loX h g) : Fr orX h g := F.weak (fun k j hx => by unfold orX at hx; rw [Bool.or_eq_false_iff, Bool.or_eq_false_iff] at hx; exact hx.2.1)
theorem loX_m {h g : AH} (F : Fr mX h g) : Fr loX h g := loX_j (jX_m F)
theorem loX_lt {k j : Nat} (h : k < 42) : loX k j = false := by unfold loX; rw [jX_lt h, oX_n (by omega)]; rfl
theorem loX_T {k j : Nat} (o : okT k) : loX k j = false := by unfold loX; rw [jX_T o, oX_T o]; rfl
/-- the class amid orders -/
def OrC (g : AH) (fl : Option (List CLE)) (np nt nl : Nat) (LSs : Nat → List CLE) (fx : Int32) (LS : List CLE) (s : OS) : Prop := ShOK g ∧ RfOK g ∧ JS g 1 s.1 fl ∧ HM g 1 s.1 np nt ∧ LOG g 1 s.2.1 ∧ HLw g 1 nl LSs ∧ gI g 1 18 = fx ∧ TXG g 37 38 39 60 436 true LS ∧ gI g 63 3 = nI s.2.2.2.1 ∧ gI g 63 4 = s.2.2.2.2 ∧ ∀ j, 17 ≤ j → gI g 64 j = 0
theorem OrC.fr {X : Nat → Nat → Bool} {g g' : AH} {fl : Option (List CLE)} {np nt nl : Nat} {LSs : Nat → List CLE} {fx : Int32} {LS : List CLE} {s : OS} (C : OrC g fl np nt nl LSs fx LS s) (F : Fr X g g') (J : JS g' 1 s.1 fl) (hx : xok X = true) (hk : ∀ k j, k < 33 → X k j = false) (hT : ∀ k j, okT k → X k j = false) (h63 : ∀ j, X 63 j = false) (h64 : ∀ j, 17 ≤ j → X 64 j = false) : OrC g' fl np nt nl LSs fx LS s := by
  obtain ⟨S, R, J0, M, L, H, hf, T, e3, e4, hz⟩ := C
  exact ⟨F.S S, F.R R hx, J, M.fr F (fun o j ho _ _ => hk _ _ (by omega)) (fun o j ho e => by rw [hk _ _ (by omega)] at e; cases e), L.fr F (hk _ _ (by decide)) (fun j => hk _ _ (by decide)), H.fr F (fun j => hk _ _ (by decide)) (hk _ _ (by decide)) (fun j => hk _ _ (by decide)) hT, (F.I _ _ (hk _ _ (by decide))).trans hf, T.fr F hT, (F.I _ _ (h63 _)).trans e3, (F.I _ _ (h63 _)).trans e4, fun j hj => (F.I _ _ (h64 j hj)).trans (hz j hj)⟩
theorem OrC.fm {g g' : AH} {fl : Option (List CLE)} {np nt nl : Nat} {LSs : Nat → List CLE} {fx : Int32} {LS : List CLE} {s : OS} (C : OrC g fl np nt nl LSs fx LS s) (F : Fr mX g g') : OrC g' fl np nt nl LSs fx LS s := C.fr F (C.2.2.1.fg F (fun j => rfl) (fun j => rfl) (fun j => rfl) (fun k j hk => beq_eq_false_iff_ne.mpr (by omega)) (fun k j o => okT_m j o)) (by decide) (fun k j hk => beq_eq_false_iff_ne.mpr (by omega)) (fun k j o => okT_m j o) (fun j => rfl) (fun j _ => rfl)
theorem OrC.fl {g g' : AH} {fl : Option (List CLE)} {np nt nl : Nat} {LSs : Nat → List CLE} {fx : Int32} {LS : List CLE} {s : OS} (C : OrC g fl np nt nl LSs fx LS s) (F : Fr loX g g') (J : JS g' 1 s.1 fl) : OrC g' fl np nt nl LSs fx LS s := C.fr F J (by decide) (fun k j hk => loX_lt (by omega)) (fun k j o => loX_T o) (fun j => rfl) (fun j hj => by unfold loX oX; rw [decide_eq_false (show ¬ j < 17 by omega)]; rfl)
/-- what running a clause once leaves -/
def OnQ (h : AH) (fl : Option (List CLE)) (np nt nl : Nat) (LSs : Nat → List CLE) (fx : Int32) (LS : List CLE) (q : Option OS) (r : Option Value) (h' : AH) : Prop := Fr orX h h' ∧ match q with
  | none => r = some (.int (b2i false)) ∧ ShOK h' ∧ RfOK h'
  | some s => r = some (.int (b2i true)) ∧ OrC h' fl np nt nl LSs fx LS s
theorem mAns_0 : mAns (some 0) = nI 0 := rfl
section On
variable (d : Nat) {g : AH} {fl : Option (List CLE)} {np nt nl N : Nat} {LSs : Nat → List CLE} {fx : Int32} {LS : List CLE} {s : OS}
/-- from the sums to the end -/
theorem once120 {h : AH} (C : OrC h fl np nt nl LSs fx LS s) (hF : fl = flO nl LSs fx) (hO : OSK np nt N s) (hN : N ≤ 500) (Fg : Fr orX g h) {m : Nat} {e : CLE} (he : LS[m]? = some e) {x y : Option Int} (bx : ∀ z, x = some z → -1000000000 ≤ z ∧ z ≤ 1000000000) (yb : ∀ z, y = some z → -1000000000 ≤ z ∧ z ≤ 1000000000) (a4 a5 a6 : Option Value) : Rp (d + 5) M_X8_once 120 [some (.ref 63), some (.ref 1), some (.ref 37), some (.int (nI m)), a4, a5, a6, some (.int (mAns x)), some (.int (mAns y))] [] h (OnQ g fl np nt nl LSs fx LS (orX2 fl np nt s e.2.2.2.2.1 x y)) := by
  obtain ⟨S, R, J, M, L, H, hf, T, e3, e4, hz⟩ := id C
  have V := hO.1
  have B := hO.2.1
  obtain ⟨c, v, hC⟩ := T.2.2.2.2.2.2.2.2.2.2.2
  have hv4 := (hC e (List.mem_of_getElem? he)).1
  have m1 := mAns_b bx
  have m2 := mAns_b yb
  have h0 := t_headT (d + 4) T he (w := 0) (by decide)
  have e0 : hdQ e 0 = nI e.2.2.2.2.1 := rfl
  rw [e0] at h0
  match x, m1 with
  | none, m1 =>
    have z := m1.1.mpr rfl
    refine Rp.iload dX8_once_120 rfl ?_
    refine Rp.ldc dX8_once_122 kc_X8_63 ?_
    first | ((with_reducible show Rp _ _ _ _ (.int (nI _) :: .int (nI _) :: _) _ _); refine Rp.icmp_eqN (tgt := 152) dX8_once_124 (by decide) (by omega) (fun c124 => ?_) (fun c124 => ?_)) | refine Rp.icmp_eq (tgt := 152) dX8_once_124 (by decide) (fun c124 => ?_) (fun c124 => ?_)
    · skip
      refine Rp.iconst (nI 0) dX8_once_152 (by decide) ?_
      refine Rp.zreturn dX8_once_153 rfl (by first | exact Or.inl rfl | exact Or.inr rfl | assumption) ?_
      exact ⟨Fg, rfl, S, R⟩
    · skip
      exact absurd z c124
  | some x, m1 =>
    have z1 : ¬ mAns (some x) = -2000000000 := fun q => by cases m1.1.mp q
    match y, m2 with
    | none, m2 =>
      have z := m2.1.mpr rfl
      refine Rp.iload dX8_once_120 rfl ?_
      refine Rp.ldc dX8_once_122 kc_X8_63 ?_
      first | ((with_reducible show Rp _ _ _ _ (.int (nI _) :: .int (nI _) :: _) _ _); refine Rp.icmp_eqN (tgt := 152) dX8_once_124 (by decide) (by omega) (fun c124 => ?_) (fun c124 => ?_)) | refine Rp.icmp_eq (tgt := 152) dX8_once_124 (by decide) (fun c124 => ?_) (fun c124 => ?_)
      · skip
        exact absurd c124 z1
      · skip
        refine Rp.iload dX8_once_127 rfl ?_
        refine Rp.ldc dX8_once_129 kc_X8_63 ?_
        first | ((with_reducible show Rp _ _ _ _ (.int (nI _) :: .int (nI _) :: _) _ _); refine Rp.icmp_eqN (tgt := 152) dX8_once_131 (by decide) (by omega) (fun c131 => ?_) (fun c131 => ?_)) | refine Rp.icmp_eq (tgt := 152) dX8_once_131 (by decide) (fun c131 => ?_) (fun c131 => ?_)
        · skip
          refine Rp.iconst (nI 0) dX8_once_152 (by decide) ?_
          refine Rp.zreturn dX8_once_153 rfl (by first | exact Or.inl rfl | exact Or.inr rfl | assumption) ?_
          exact ⟨Fg, rfl, S, R⟩
        · skip
          exact absurd z c131
    | some y, m2 =>
      have z2 : ¬ mAns (some y) = -2000000000 := fun q => by cases m2.1.mp q
      show Rp _ _ _ _ _ _ (OnQ g fl np nt nl LSs fx LS (orA s e.2.2.2.2.1 (obR s.1 fl np nt e.2.2.2.2.1 (mAns (some x)) (mAns (some y)))))
      have ac := t_act d S R J B M L H (by rw [hf]; exact hF) e4 hv4 (mAns (some x)) (mAns (some y))
      have hs := ob_AcS (fl := fl) V B e.2.2.2.2.1 (mAns (some x)) (mAns (some y))
      generalize e.2.2.2.2.1 = vb at h0 ac hs hv4 ⊢
      generalize hq : obR s.1 fl np nt vb (mAns (some x)) (mAns (some y)) = q at ac hs ⊢
      refine Rp.iload dX8_once_120 rfl ?_
      refine Rp.ldc dX8_once_122 kc_X8_63 ?_
      first | ((with_reducible show Rp _ _ _ _ (.int (nI _) :: .int (nI _) :: _) _ _); refine Rp.icmp_eqN (tgt := 152) dX8_once_124 (by decide) (by omega) (fun c124 => ?_) (fun c124 => ?_)) | refine Rp.icmp_eq (tgt := 152) dX8_once_124 (by decide) (fun c124 => ?_) (fun c124 => ?_)
      · exact absurd c124 z1
      refine Rp.iload dX8_once_127 rfl ?_
      refine Rp.ldc dX8_once_129 kc_X8_63 ?_
      first | ((with_reducible show Rp _ _ _ _ (.int (nI _) :: .int (nI _) :: _) _ _); refine Rp.icmp_eqN (tgt := 152) dX8_once_131 (by decide) (by omega) (fun c131 => ?_) (fun c131 => ?_)) | refine Rp.icmp_eq (tgt := 152) dX8_once_131 (by decide) (fun c131 => ?_) (fun c131 => ?_)
      · exact absurd c131 z2
      refine Rp.aload_n dX8_once_134 rfl rfl ?_
      refine Rp.aload_n dX8_once_135 rfl rfl ?_
      refine Rp.aload_n dX8_once_136 rfl rfl ?_
      refine Rp.iload_n dX8_once_137 rfl ?_
      refine Rp.iconst (nI 0) dX8_once_138 (by decide) ?_
      refine Rp.callV2 M_X9_head (ci := 9) dX8_once_139 mo_X9_head lk_X8_35 (by decide) rfl rfl T.1 (Nat.le_of_ble_eq_true rfl) (Nat.le_of_ble_eq_true rfl) (h0) (fun v1 h1 p1 x1 => ?_)
      rw [p1.1, p1.2]
      try dsimp only [Option.toList, List.cons_append, List.nil_append, List.append]
      refine Rp.iload dX8_once_142 rfl ?_
      refine Rp.iload dX8_once_144 rfl ?_
      refine Rp.callV4 M_X8_act (ci := 8) dX8_once_146 mo_X8_act lk_X8_64 (by decide) rfl rfl (S _ _ rfl) (Nat.le_of_ble_eq_true rfl) (Nat.le_of_ble_eq_true rfl) (ac) (fun v1 h1 p1 x1 => ?_)
      obtain ⟨rfl, F1, J1, M1, L1, l1⟩ := p1
      try dsimp only [Option.toList, List.cons_append, List.nil_append, List.append]
      skip
      have S1 := F1.S S
      have R1 := F1.R R (by decide)
      have F2 := Fg.trans (orX_t F1)
      unfold AcS at hs
      unfold orA
      by_cases c0 : q.1 < 0
      · rw [decide_eq_true c0] at hs
        rw [hs, if_neg (by decide)]
        refine Rp.if_ge (tgt := 154) dX8_once_149 (by decide) (fun c149 => ?_) (fun c149 => ?_)
        · skip
          exact absurd c149 (by rw [i32_lt] at c0; rw [i32_le]; exact Int.not_le.mpr c0)
        · skip
          refine Rp.iconst (nI 0) dX8_once_152 (by decide) ?_
          refine Rp.zreturn dX8_once_153 rfl (by first | exact Or.inl rfl | exact Or.inr rfl | assumption) ?_
          exact ⟨F2, rfl, S1, R1⟩
      · rw [decide_eq_false c0] at hs
        rw [hs, if_pos (by decide)]
        have hd : s.2.2.2.1 ≤ 500 := by have := hO.2.2.2.1; omega
        have e31 : gI h1 63 3 = nI s.2.2.2.1 := (F1.I 63 3 rfl).trans e3
        have F3 : Fr (fun k j => k == 63 && j == 3) h1 (sI h1 63 3 (nI (s.2.2.2.1 + 1))) := Fr.rfl'.sI rfl
        have nx : ∀ k j, k ≠ 63 → ((k == 63 && j == 3) : Bool) = false := fun k j h => by rw [beq_eq_false_iff_ne.mpr h]; rfl
        have F4 : Fr orX g (sI h1 63 3 (nI (s.2.2.2.1 + 1))) := F2.sI rfl
        have J3 : JS (sI h1 63 3 (nI (s.2.2.2.1 + 1))) 1 (acK s.1 q.2) fl := J1.fg F3 (fun j => rfl) (fun j => rfl) (fun j => rfl) (fun k j hk => nx k j (by omega)) (fun k j o => nx k j (okT_ne o (by decide) (by decide) (by decide) (by decide)))
        have M3 : HM (sI h1 63 3 (nI (s.2.2.2.1 + 1))) 1 (acK s.1 q.2) np nt := M1.fr F3 (fun o j ho _ _ => nx _ _ (by omega)) (fun o j ho e => by rw [nx _ _ (by omega)] at e; cases e)
        have L3 : LOG (sI h1 63 3 (nI (s.2.2.2.1 + 1))) 1 (acE s.2.1 q.2) := L1.fr F3 rfl (fun j => rfl)
        have H3 : HLw (sI h1 63 3 (nI (s.2.2.2.1 + 1))) 1 nl LSs := (H.fr F1 (fun j => rfl) rfl (fun j => rfl) (fun k j o => otX_T o)).fr F3 (fun j => rfl) rfl (fun j => rfl) (fun k j o => nx k j (okT_ne o (by decide) (by decide) (by decide) (by decide)))
        have T3 : TXG (sI h1 63 3 (nI (s.2.2.2.1 + 1))) 37 38 39 60 436 true LS := (T.fr F1 (fun k j o => otX_T o)).fr F3 (fun k j o => nx k j (okT_ne o (by decide) (by decide) (by decide) (by decide)))
        have C3 : OrC (sI h1 63 3 (nI (s.2.2.2.1 + 1))) fl np nt nl LSs fx LS (acK s.1 q.2, acE s.2.1 q.2, acU s.2.2.1 s.1 q.2, s.2.2.2.1 + 1, if vb = 0 then q.1 else s.2.2.2.2) := ⟨S1, R1, J3, M3, L3, H3, (F3.I 1 18 rfl).trans ((F1.I 1 18 rfl).trans hf), T3, gI_hit _ _ _ _, by
          show gI (sI h1 63 3 (nI (s.2.2.2.1 + 1))) 63 4 = if vb = 0 then q.1 else s.2.2.2.2
          rw [gI_off _ _ _ (by decide), l1]
          by_cases cv : vb = 0
          · rw [if_pos ⟨cv, c0⟩, if_pos cv]
          · rw [if_neg (fun z => cv z.1), if_neg cv], fun j hj => ((F3.I 64 j rfl).trans (F1.I 64 j rfl)).trans (hz j hj)⟩
        refine Rp.if_ge (tgt := 154) dX8_once_149 (by decide) (fun c149 => ?_) (fun c149 => ?_)
        · skip
          refine Rp.aload_n dX8_once_154 rfl rfl ?_
          refine Rp.dup dX8_once_155 rfl ?_
          refine Rp.getI dX8_once_156 fk_X8_23 rfl (S1 _ _ rfl) ?_
          first | rw [e31] | skip
          refine Rp.iconst (nI 1) dX8_once_159 (by decide) ?_
          first | ((with_reducible show Rp _ _ _ _ (.int (nI _) :: .int (nI _) :: _) _ _); refine Rp.iaddN dX8_once_160 ?_) | refine Rp.iadd dX8_once_160 ?_
          refine Rp.putI dX8_once_161 fk_X8_23w rfl (S1 _ _ rfl) ?_
          refine Rp.iconst (nI 1) dX8_once_164 (by decide) ?_
          refine Rp.zreturn dX8_once_165 rfl (by first | exact Or.inl rfl | exact Or.inr rfl | assumption) ?_
          exact ⟨F4, rfl, C3⟩
        · skip
          exact absurd (by rw [i32_lt] at c0; rw [i32_le]; exact Int.not_lt.mp c0) c149
end On
