section Tx
variable (d : Nat) {h : AH}
/-- a text copied into a new one at a -/
def TxI (h : AH) (a m z : Nat) (f : Bool) (h' : AH) : Prop := ∃ h1 h2, CpA h 38 (m * 5) h1 ∧ CpA (sR h1 a 0 (some (aN h))) 39 z h2 ∧ h' = sI (sI (sI (sR h2 a 1 (some (aN h1))) a 2 (nI m)) a 3 (nI z)) a 4 (b2i f)
theorem t_textI {a m z : Nat} {f : Bool} (hN : 129 ≤ aN h) (sa : h.1[a]? = some (9, clN 9)) (na : a ≠ 37) (s37 : h.1[37]? = some (9, clN 9)) (s38 : h.1[38]? = some (13, 60)) (s39 : h.1[39]? = some (13, 436)) (r0 : gR h 37 0 = some 38) (r1 : gR h 37 1 = some 39) (i2 : gI h 37 2 = nI m) (i3 : gI h 37 3 = nI z) (i4 : gI h 37 4 = b2i f) (hm : m ≤ 12) (hz : z ≤ 436) : Rp (d + 2) M_X9_init_ 0 [some (.ref a), some (.ref 37)] [] h (fun r h' => r = none ∧ TxI h a m z f h') := by
  have cp := t_copyOf d (k := 38) (n := m * 5) s38 (by decide) (by omega)
  refine Rp.aload_n dX9_init__0 rfl rfl ?_
  refine Rp.objI dX9_init__1 lk_X9_3 (Nat.le_of_ble_eq_true rfl) ?_
  refine Rp.aload_n dX9_init__4 rfl rfl ?_
  refine Rp.aload_n dX9_init__5 rfl rfl ?_
  refine Rp.getR dX9_init__6 fk_X9_11 rfl s37 r0 ?_
  refine Rp.aload_n dX9_init__9 rfl rfl ?_
  refine Rp.getI dX9_init__10 fk_X9_18 rfl s37 ?_
  first | rw [i2] | skip
  refine Rp.iconst (nI 5) dX9_init__13 (by decide) ?_
  first | ((with_reducible show Rp _ _ _ _ (.int (nI _) :: .int (nI _) :: _) _ _); refine Rp.imulN dX9_init__14 ?_) | refine Rp.imul dX9_init__14 ?_
  refine Rp.callS2 M_J7_copyOf_59c91 dX9_init__15 mo_J7_copyOf_59c91 lk_X9_22 (Nat.le_of_ble_eq_true rfl) (Nat.le_of_ble_eq_true rfl) (cp) (fun v1 h1 p1 x1 => ?_)
  obtain ⟨rfl, C1⟩ := p1
  rename AH => g1
  try dsimp only [Option.toList, List.cons_append, List.nil_append, List.append]
  skip
  have sa1 := sh_pre x1.2 sa
  have s371 := sh_pre x1.2 s37
  have s391 := sh_pre x1.2 s39
  have q1 : gR (sR g1 a 0 (some (aN h))) 37 1 = some 39 := by
    show (if 37 = a then _ else gR g1 37 1) = _
    rw [if_neg (fun z => na z.symm), C1.2.2.2.2.1 37 1 (by omega)]
    exact r1
  have q2 : gI (sR g1 a 0 (some (aN h))) 37 2 = nI m := (C1.2.2.1 37 2 (by omega)).trans i2
  have q3 : gI (sR g1 a 0 (some (aN h))) 37 3 = nI z := (C1.2.2.1 37 3 (by omega)).trans i3
  have q4 : gI (sR g1 a 0 (some (aN h))) 37 4 = b2i f := (C1.2.2.1 37 4 (by omega)).trans i4
  have cp2 := t_copyOf d (h := sR g1 a 0 (some (aN h))) (k := 39) (n := z) s391 (by decide) hz
  have e1 : aN (sR g1 a 0 (some (aN h))) = aN g1 := rfl
  have e2 : aN g1 = aN h + 1 := by unfold aN; rw [C1.1, List.length_append]; rfl
  refine Rp.putR dX9_init__18 fk_X9_11w (fun _ => rfl) (Or.inr ⟨_, rfl⟩) sa1 ?_
  refine Rp.aload_n dX9_init__21 rfl rfl ?_
  refine Rp.aload_n dX9_init__22 rfl rfl ?_
  refine Rp.getR dX9_init__23 fk_X9_15 rfl s371 q1 ?_
  refine Rp.aload_n dX9_init__26 rfl rfl ?_
  refine Rp.getI dX9_init__27 fk_X9_28 rfl s371 ?_
  first | rw [q3] | skip
  refine Rp.callS2 M_J7_copyOf_59c91 dX9_init__30 mo_J7_copyOf_59c91 lk_X9_22 (Nat.le_of_ble_eq_true rfl) (Nat.le_of_ble_eq_true rfl) (cp2) (fun v1 h1 p1 x1 => ?_)
  obtain ⟨rfl, C2⟩ := p1
  rename AH => g2
  try dsimp only [Option.toList, List.cons_append, List.nil_append, List.append]
  skip
  have sa2 := sh_pre x1.2 sa1
  have s372 := sh_pre x1.2 s371
  have w2 : gI (sR g2 a 1 (some (aN g1))) 37 2 = nI m := (C2.2.2.1 37 2 (by omega)).trans q2
  have w3 : gI (sI (sR g2 a 1 (some (aN g1))) a 2 (nI m)) 37 3 = nI z := (gI_ne _ _ _ _ (fun z => na z.symm)).trans ((C2.2.2.1 37 3 (by omega)).trans q3)
  have w4 : gI (sI (sI (sR g2 a 1 (some (aN g1))) a 2 (nI m)) a 3 (nI z)) 37 4 = b2i f := (gI_ne _ _ _ _ (fun z => na z.symm)).trans ((gI_ne _ _ _ _ (fun z => na z.symm)).trans ((C2.2.2.1 37 4 (by omega)).trans q4))
  rw [e1]
  refine Rp.putR dX9_init__33 fk_X9_15w (fun _ => rfl) (Or.inr ⟨_, rfl⟩) sa2 ?_
  refine Rp.aload_n dX9_init__36 rfl rfl ?_
  refine Rp.aload_n dX9_init__37 rfl rfl ?_
  refine Rp.getI dX9_init__38 fk_X9_18 rfl s372 ?_
  first | rw [w2] | rw [w3] | rw [w4] | skip
  refine Rp.putI dX9_init__41 fk_X9_18w rfl sa2 ?_
  refine Rp.aload_n dX9_init__44 rfl rfl ?_
  refine Rp.aload_n dX9_init__45 rfl rfl ?_
  refine Rp.getI dX9_init__46 fk_X9_28 rfl s372 ?_
  first | rw [w2] | rw [w3] | rw [w4] | skip
  refine Rp.putI dX9_init__49 fk_X9_28w rfl sa2 ?_
  refine Rp.aload_n dX9_init__52 rfl rfl ?_
  refine Rp.aload_n dX9_init__53 rfl rfl ?_
  refine Rp.getI dX9_init__54 fk_X9_31 rfl s372 ?_
  first | rw [w2] | rw [w3] | rw [w4] | skip
  refine Rp.putZ dX9_init__57 fk_X9_31w rfl (b2i_01 _) sa2 ?_
  refine Rp.vreturn dX9_init__60 rfl ?_
  exact ⟨rfl, g1, g2, C1, C2, rfl⟩
end Tx
/-- more cells, the old ones as they were -/
def Gr (h g : AH) : Prop := h.1 <+: g.1 ∧ gS g = gS h ∧ (∀ k j, k < aN h → gI g k j = gI h k j) ∧ (∀ k j, k < aN h → gL g k j = gL h k j) ∧ ∀ k j, k < aN h → gR g k j = gR h k j
/-- a new text and what stands in it -/
def TxN (h : AH) (m z : Nat) (f : Bool) (g : AH) : Prop := g.1 = h.1 ++ [(9, clN 9), (13, m * 5), (13, z)] ∧ Gr h g ∧ gR g (aN h) 0 = some (aN h + 1) ∧ gR g (aN h) 1 = some (aN h + 2) ∧ gI g (aN h) 2 = nI m ∧ gI g (aN h) 3 = nI z ∧ gI g (aN h) 4 = b2i f ∧ (∀ j, j < m * 5 → gI g (aN h + 1) j = gI h 38 j) ∧ ∀ j, j < z → gI g (aN h + 2) j = gI h 39 j
theorem TxI.n {h g : AH} {m z : Nat} {f : Bool} (hN : 129 ≤ aN h) (T : TxI (aNew h 9 (clN 9)) (aN h) m z f g) : TxN h m z f g := by
  obtain ⟨h1, h2, ⟨a1, a2, a3, a4, a5, a6⟩, ⟨b1, b2, b3, b4, b5', b6⟩, e⟩ := T
  have n0 : aN (aNew h 9 (clN 9)) = aN h + 1 := aN_new _ _ _
  have n1 : aN h1 = aN h + 2 := by
    have : aN h1 = aN (aNew h 9 (clN 9)) + 1 := by unfold aN; rw [a1, List.length_append]; rfl
    omega
  have n1' : aN (sR h1 (aN h) 0 (some (aN (aNew h 9 (clN 9))))) = aN h + 2 := n1
  have hsh : g.1 = h.1 ++ [(9, clN 9), (13, m * 5), (13, z)] := by
    rw [e]
    show h2.1 = _
    rw [b1]
    show h1.1 ++ [(13, z)] = _
    rw [a1]
    show (h.1 ++ [(9, clN 9)]) ++ [(13, m * 5)] ++ [(13, z)] = _
    simp
  have oI : ∀ k j, k < aN h + 2 → k ≠ aN h → k ≠ aN h + 1 → gI g k j = gI h k j := fun k j k1 k2 k3 => by
    rw [e, gI_ne _ _ _ _ k2, gI_ne _ _ _ _ k2, gI_ne _ _ _ _ k2]
    show gI h2 k j = _
    rw [b3 k j (by omega)]
    show gI h1 k j = _
    rw [a3 k j (by omega)]
    exact if_neg k2
  refine ⟨hsh, ⟨by rw [hsh]; exact List.prefix_append _ _, ?_, fun k j hk => oI k j (by omega) (by omega) (by omega), fun k j hk => ?_, fun k j hk => ?_⟩, ?_, ?_, ?_, ?_, ?_, fun j hj => ?_, fun j hj => ?_⟩
  · rw [e]
    exact b2.trans a2
  · rw [e]
    show gL h2 k j = _
    rw [b4 k j (by omega)]
    show gL h1 k j = _
    rw [a4 k j (by omega)]
    exact if_neg (by unfold aN at hk; omega)
  · rw [e]
    show (if k = aN h then (if j = 1 then _ else gR h2 k j) else gR h2 k j) = _
    rw [if_neg (by omega), b5' k j (by omega)]
    show (if k = aN h then (if j = 0 then _ else gR h1 k j) else gR h1 k j) = _
    rw [if_neg (by omega), a5 k j (by omega)]
    exact if_neg (by unfold aN at hk; omega)
  · rw [e]
    show (if aN h = aN h then (if (0 : Nat) = 1 then _ else gR h2 (aN h) 0) else _) = _
    rw [if_pos rfl, if_neg (by decide), b5' (aN h) 0 (by omega)]
    show (if aN h = aN h then (if (0 : Nat) = 0 then some (aN (aNew h 9 (clN 9))) else _) else _) = _
    rw [if_pos rfl, if_pos rfl, n0]
  · rw [e]
    show (if aN h = aN h then (if (1 : Nat) = 1 then some (aN h1) else _) else _) = _
    rw [if_pos rfl, if_pos rfl, n1]
  · rw [e, gI_off _ _ _ (by decide), gI_off _ _ _ (by decide), gI_hit]
  · rw [e, gI_off _ _ _ (by decide), gI_hit]
  · rw [e, gI_hit]
  · rw [e, gI_ne _ _ _ _ (by omega), gI_ne _ _ _ _ (by omega), gI_ne _ _ _ _ (by omega)]
    show gI h2 (aN h + 1) j = _
    rw [b3 (aN h + 1) j (by omega)]
    show gI h1 (aN h + 1) j = _
    rw [← n0, a6 j hj]
    exact if_neg (by unfold aN at hN; omega)
  · rw [e, gI_ne _ _ _ _ (by omega), gI_ne _ _ _ _ (by omega), gI_ne _ _ _ _ (by omega)]
    show gI h2 (aN h + 2) j = _
    rw [← n1', b6 j hj]
    show gI h1 39 j = _
    rw [a3 39 j (by omega)]
    exact if_neg (by unfold aN at hN; omega)
