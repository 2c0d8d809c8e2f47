def umX (k j : Nat) : Bool := (k == 102 && decide (j < 7)) || (k == 100 && (j == 32 || j == 0))
section Mu
variable (d : Nat) {h : AH}
theorem un34 (S0 : ShOK h) (R0 : RfOK h) {US : List (Nat → Int32)} {r : Nat → Int32} (L : LGm h (US ++ [r])) : ∀ (m k : Nat) (g : AH), k + m = 7 → Fr umX h g → gI g 100 32 = nI US.length → (∀ j, j < k → gI g 102 j = r j) → (∀ j, k ≤ j → gI g 102 j = gI h 102 j) → Rp (d + 1) M_X12_undo 34 [some (.ref aM), some (.int (nI (8 * US.length))), some (.int (nI k))] [] g (fun v h' => v = some (.int (r 7)) ∧ Fr umX h h' ∧ gI h' 102 = mvK (gI h 102) r ∧ LGm h' US ∧ gI h' 100 0 = nI 0) := by
  have l1 := L.1
  rw [List.length_append, List.length_singleton] at l1
  have lr : ∀ j, j < 8 → gI h 113 (8 * US.length + j) = r j := L.2.2 US.length r (by rw [List.getElem?_append_right (Nat.le_refl _), Nat.sub_self]; rfl)
  intro m
  induction m with
  | zero =>
    intro k g hk F e32 h1 h2
    have e : k = 7 := by omega
    subst e
    have S := F.S S0
    have R := F.R R0 (by decide)
    have e7 : gI g 113 (8 * US.length + 7) = r 7 := (F.I 113 _ rfl).trans (lr 7 (by decide))
    have gd := s_good d S (r 7)
    have fin : (fun (v : Option Value) (h' : AH) => v = some (.int (r 7)) ∧ Fr umX h h' ∧ gI h' 102 = mvK (gI h 102) r ∧ LGm h' US ∧ gI h' 100 0 = nI 0) (some (.int (r 7))) (gdH g) := by
      refine ⟨rfl, F.sI rfl, funext fun j => ?_, ⟨by omega, by unfold gdH; rw [gI_off _ _ _ (by decide)]; exact e32, fun i q hi j hj => ?_⟩, gI_hit _ _ _ _⟩
      · unfold gdH mvK
        rw [gI_ne _ _ _ _ (by decide)]
        by_cases z : j < 7
        · rw [if_pos z]; exact h1 j z
        · rw [if_neg z]; exact h2 j (by omega)
      · unfold gdH
        rw [gI_ne _ _ _ _ (by decide), F.I 113 _ rfl]
        exact L.2.2 i q (by rw [List.getElem?_append_left (List.getElem?_eq_some_iff.mp hi).1]; exact hi) j hj
    refine Rp.iload_n dX12_undo_34 rfl ?_
    refine Rp.bipush (nI 7) dX12_undo_35 (by decide) ?_
    first | ((with_reducible show Rp _ _ _ _ (.int (nI _) :: .int (nI _) :: _) _ _); refine Rp.icmp_geN (tgt := 60) dX12_undo_37 (by decide) (by omega) (fun c37 => ?_) (fun c37 => ?_)) | refine Rp.icmp_ge (tgt := 60) dX12_undo_37 (by decide) (fun c37 => ?_) (fun c37 => ?_)
    · skip
      refine Rp.aload_n dX12_undo_60 rfl rfl ?_
      refine Rp.aload_n dX12_undo_61 rfl rfl ?_
      refine Rp.getR dX12_undo_62 fk_X12_62 rfl (S _ _ rfl) (R _ _ _ rfl) ?_
      refine Rp.iload_n dX12_undo_65 rfl ?_
      refine Rp.bipush (nI 7) dX12_undo_66 (by decide) ?_
      first | ((with_reducible show Rp _ _ _ _ (.int (nI _) :: .int (nI _) :: _) _ _); refine Rp.iaddN dX12_undo_68 ?_) | refine Rp.iadd dX12_undo_68 ?_
      first | ((with_reducible show Rp _ _ _ _ (.int (nI _) :: _) _ _); refine Rp.ialoadN dX12_undo_69 (S _ _ rfl) (by omega) ?_) | refine Rp.iaload dX12_undo_69 (S _ _ rfl) (by first | assumption | exact vpb (by decide)) ?_
      first | rw [e7] | skip
      refine Rp.callV1 M_X12_good (ci := 12) dX12_undo_70 mo_X12_good lk_X12_14 (by decide) rfl rfl (S _ _ rfl) (Nat.le_of_ble_eq_true rfl) (Nat.le_of_ble_eq_true rfl) (gd) (fun v1 h1 p1 x1 => ?_)
      rw [p1.1, p1.2]
      try dsimp only [Option.toList, List.cons_append, List.nil_append, List.append]
      refine Rp.ireturn dX12_undo_73 rfl ?_
      exact fin
    · skip
      first | (exfalso; omega) | exact absurd c37 (by decide) | exact absurd (by decide) c37
  | succ m ih =>
    intro k g hk F e32 h1 h2
    have S := F.S S0
    have R := F.R R0 (by decide)
    have ek : gI g 113 (8 * US.length + k) = r k := (F.I 113 _ rfl).trans (lr k (by omega))
    have k1 := ih (k + 1) (sI g 102 k (r k)) (by omega) (F.sI (by unfold umX; rw [decide_eq_true (show k < 7 by omega)]; rfl)) (by rw [gI_ne _ _ _ _ (by decide)]; exact e32) (fun j hj => by
      by_cases z : j = k
      · rw [z, gI_hit]
      · rw [gI_off _ _ _ z]; exact h1 j (by omega)) (fun j hj => by rw [gI_off _ _ _ (by omega)]; exact h2 j (by omega))
    refine Rp.iload_n dX12_undo_34 rfl ?_
    refine Rp.bipush (nI 7) dX12_undo_35 (by decide) ?_
    first | ((with_reducible show Rp _ _ _ _ (.int (nI _) :: .int (nI _) :: _) _ _); refine Rp.icmp_geN (tgt := 60) dX12_undo_37 (by decide) (by omega) (fun c37 => ?_) (fun c37 => ?_)) | refine Rp.icmp_ge (tgt := 60) dX12_undo_37 (by decide) (fun c37 => ?_) (fun c37 => ?_)
    · skip
      first | (exfalso; omega) | exact absurd c37 (by decide) | exact absurd (by decide) c37
    · skip
      refine Rp.aload_n dX12_undo_40 rfl rfl ?_
      refine Rp.getR dX12_undo_41 fk_X12_24 rfl (S _ _ rfl) (R _ _ _ rfl) ?_
      refine Rp.iload_n dX12_undo_44 rfl ?_
      refine Rp.aload_n dX12_undo_45 rfl rfl ?_
      refine Rp.getR dX12_undo_46 fk_X12_62 rfl (S _ _ rfl) (R _ _ _ rfl) ?_
      refine Rp.iload_n dX12_undo_49 rfl ?_
      refine Rp.iload_n dX12_undo_50 rfl ?_
      first | ((with_reducible show Rp _ _ _ _ (.int (nI _) :: .int (nI _) :: _) _ _); refine Rp.iaddN dX12_undo_51 ?_) | refine Rp.iadd dX12_undo_51 ?_
      first | ((with_reducible show Rp _ _ _ _ (.int (nI _) :: _) _ _); refine Rp.ialoadN dX12_undo_52 (S _ _ rfl) (by omega) ?_) | refine Rp.iaload dX12_undo_52 (S _ _ rfl) (by first | assumption | exact vpb (by decide)) ?_
      first | rw [ek] | skip
      first | ((with_reducible show Rp _ _ _ _ (_ :: .int (nI _) :: _) _ _); refine Rp.iastoreN dX12_undo_53 (S _ _ rfl) (by omega) ?_) | refine Rp.iastore dX12_undo_53 (S _ _ rfl) (by first | assumption | exact vpb (by decide)) ?_
      first | ((with_reducible show Rp _ _ _ (_ :: _ :: some (.int (nI _)) :: _) _ _ _); refine Rp.inc2N (c := 1) dX12_undo_54 (by first | exact nl2_some rfl | exact nl2_none) (by decide) ?_) | refine Rp.inc2 _ dX12_undo_54 rfl (by first | exact nl2_some rfl | exact nl2_none) (by decide) ?_
      refine Rp.goto (tgt := 34) dX12_undo_57 (by decide) ?_
      exact k1
theorem s_undo (S : ShOK h) (R : RfOK h) {US : List (Nat → Int32)} {r : Nat → Int32} (L : LGm h (US ++ [r])) : Rp (d + 1) M_X12_undo 0 [some (.ref aM), none, none] [] h (fun v h' => v = some (.int (r 7)) ∧ Fr umX h h' ∧ gI h' 102 = mvK (gI h 102) r ∧ LGm h' US ∧ gI h' 100 0 = nI 0) := by
  have l1 := L.1
  rw [List.length_append, List.length_singleton] at l1
  have ez : gI h 100 32 = nI (US.length + 1) := by rw [L.2.1, List.length_append, List.length_singleton]
  have ez2 : gI (sI h 100 32 (nI US.length)) 100 32 = nI US.length := gI_hit _ _ _ _
  have k1 := un34 d S R L 7 0 (sI h 100 32 (nI US.length)) (by decide) (Fr.rfl'.sI rfl) (gI_hit _ _ _ _) (fun j hj => absurd hj (Nat.not_lt_zero _)) (fun j _ => gI_ne _ _ _ _ (by decide))
  refine Rp.aload_n dX12_undo_0 rfl rfl ?_
  refine Rp.getI dX12_undo_1 fk_X12_11 rfl (S _ _ rfl) ?_
  first | rw [ez] | rw [ez2] | skip
  first | ((with_reducible show Rp _ _ _ _ (.int (b2i _) :: _) _ _); refine Rp.if_neB (tgt := 14) dX12_undo_4 (by decide) (fun c4 => ?_) (fun c4 => ?_)) | ((with_reducible show Rp _ _ _ _ (.int (nI _) :: _) _ _); refine Rp.if_neN (tgt := 14) dX12_undo_4 (by decide) (by omega) (fun c4 => ?_) (fun c4 => ?_)) | refine Rp.if_ne (tgt := 14) dX12_undo_4 (by decide) (fun c4 => ?_) (fun c4 => ?_)
  · skip
    refine Rp.aload_n dX12_undo_14 rfl rfl ?_
    refine Rp.dup dX12_undo_15 rfl ?_
    refine Rp.getI dX12_undo_16 fk_X12_11 rfl (S _ _ rfl) ?_
    first | rw [ez] | rw [ez2] | skip
    refine Rp.iconst (nI 1) dX12_undo_19 (by decide) ?_
    first | ((with_reducible show Rp _ _ _ _ (.int (nI _) :: .int (nI _) :: _) _ _); refine Rp.isubN dX12_undo_20 (by omega) ?_) | refine Rp.isub dX12_undo_20 ?_
    rw [Nat.add_sub_cancel]
    refine Rp.putI dX12_undo_21 fk_X12_11w rfl (S _ _ rfl) ?_
    refine Rp.bipush (nI 8) dX12_undo_24 (by decide) ?_
    refine Rp.aload_n dX12_undo_26 rfl rfl ?_
    refine Rp.getI dX12_undo_27 fk_X12_11 rfl (S _ _ rfl) ?_
    first | rw [ez] | rw [ez2] | skip
    first | ((with_reducible show Rp _ _ _ _ (.int (nI _) :: .int (nI _) :: _) _ _); refine Rp.imulN dX12_undo_30 ?_) | refine Rp.imul dX12_undo_30 ?_
    refine Rp.ist1 dX12_undo_31 (by first | exact nl2_some rfl | exact nl2_none) (by decide) ?_
    refine Rp.iconst (nI 0) dX12_undo_32 (by decide) ?_
    refine Rp.ist2 dX12_undo_33 (by first | exact nl2_some rfl | exact nl2_none) (by decide) ?_
    exact k1
  · skip
    first | (exfalso; omega) | exact absurd c4 (by decide) | exact absurd (by decide) c4
theorem s_undo0 (S : ShOK h) (R : RfOK h) (L : LGm h []) : Rp (d + 1) M_X12_undo 0 [some (.ref aM), none, none] [] h (fun v h' => v = some (.int (-nI 3)) ∧ h' = rfH h 3) := by
  have ez : gI h 100 32 = nI 0 := L.2.1
  have rf := s_refuses d S R 3 (by decide)
  refine Rp.aload_n dX12_undo_0 rfl rfl ?_
  refine Rp.getI dX12_undo_1 fk_X12_11 rfl (S _ _ rfl) ?_
  first | rw [ez] | skip
  first | ((with_reducible show Rp _ _ _ _ (.int (b2i _) :: _) _ _); refine Rp.if_neB (tgt := 14) dX12_undo_4 (by decide) (fun c4 => ?_) (fun c4 => ?_)) | ((with_reducible show Rp _ _ _ _ (.int (nI _) :: _) _ _); refine Rp.if_neN (tgt := 14) dX12_undo_4 (by decide) (by omega) (fun c4 => ?_) (fun c4 => ?_)) | refine Rp.if_ne (tgt := 14) dX12_undo_4 (by decide) (fun c4 => ?_) (fun c4 => ?_)
  · skip
    first | (exfalso; omega) | exact absurd c4 (by decide) | exact absurd (by decide) c4
  · skip
    refine Rp.aload_n dX12_undo_7 rfl rfl ?_
    refine Rp.bipush (-3) dX12_undo_8 (by decide) ?_
    refine Rp.callV1 M_X12_refuses (ci := 12) dX12_undo_10 mo_X12_refuses lk_X12_121 (by decide) rfl rfl (S _ _ rfl) (Nat.le_of_ble_eq_true rfl) (Nat.le_of_ble_eq_true rfl) (rf) (fun v1 h1 p1 x1 => ?_)
    rw [p1.1, p1.2]
    try dsimp only [Option.toList, List.cons_append, List.nil_append, List.append]
    refine Rp.ireturn dX12_undo_13 rfl ?_
    exact ⟨rfl, rfl⟩
end Mu
