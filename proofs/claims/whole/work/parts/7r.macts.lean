def acU (US : List (Nat → Int32)) (K : Nat → Int32) (a : AC) : List (Nat → Int32) := match a with
  | none => US
  | some (o, _, _) => lgU US (rwF K o)
def amX (k j : Nat) : Bool := tlX k j || kpX k j || (k == 102 && decide (j < 7))
theorem amX_t {h g : AH} (F : Fr tlX h g) : Fr amX h g := F.weak (fun k j hx => by unfold amX at hx; rw [Bool.or_eq_false_iff, Bool.or_eq_false_iff] at hx; exact hx.1.1)
theorem amX_k {h g : AH} (F : Fr kpX h g) : Fr amX h g := F.weak (fun k j hx => by unfold amX at hx; rw [Bool.or_eq_false_iff, Bool.or_eq_false_iff] at hx; exact hx.1.2)
theorem LGm.ft {h g : AH} {US : List (Nat → Int32)} (L : LGm h US) (F : Fr tlX h g) : LGm g US := ⟨L.1, (F.I 100 32 rfl).trans L.2.1, fun i r hi j hj => (F.I 113 _ rfl).trans (L.2.2 i r hi j hj)⟩
/-- what an act leaves in the reference -/
def AmQ (h : AH) (US : List (Nat → Int32)) (q : Int32 × AC) (r : Option Value) (h' : AH) : Prop := r = some (.int q.1) ∧ Fr amX h h' ∧ gI h' 102 = acK (gI h 102) q.2 ∧ LGm h' (acU US (gI h 102) q.2)
/-- what the reference's acts are done over -/
def MA (h : AH) (fl : Option (List CLE)) (np nt : Nat) (US : List (Nat → Int32)) : Prop := ShOK h ∧ RfOK h ∧ FlK (gI h am_kept) fl ∧ KB (gI h am_kept) ∧ VH (gI h am_kept) np nt ∧ gI h am_kept 103 = nI np ∧ gI h am_kept 104 = nI nt ∧ LGm h US
section Ma3
variable (d : Nat) {h : AH} {fl : Option (List CLE)} {np nt : Nat} {US : List (Nat → Int32)}
theorem s_canDraw (A : MA h fl np nt US) {t p : Nat} (ht : t < 8) (hp : p < 6) : Rp (d + 76) M_X12_canDraw 0 [some (.ref aM), some (.int (nI t)), some (.int (nI p))] [] h (fun r h' => Fr tlX h h' ∧ r = some (.int (b2i (canD (gI h am_kept) fl np t p)))) := by
  obtain ⟨S, R, hF, B, V, hM, hT, L⟩ := A
  have ho := s_holds (d + 75) S R (q := p) (by omega)
  have hr := s_holderOf (d + 75) S R (nI t) V.1 hM
  have ib := s_isBarred d S R hF B hp ht
  unfold canD
  by_cases c1 : gI h am_kept p = -1
  · rw [decide_eq_false (fun z => z c1)] at ho
    rw [decide_eq_true c1]
    by_cases c2 : hOf (gI h am_kept) (nI t) np = -1
    · rw [decide_eq_true c2]
      rw [c2] at hr
      refine Rp.aload_n dX12_canDraw_0 rfl rfl ?_
      refine Rp.iload_n dX12_canDraw_1 rfl ?_
      refine Rp.callV1 M_X12_holds (ci := 12) dX12_canDraw_2 mo_X12_holds lk_X12_351 (by decide) rfl rfl (S _ _ rfl) (Nat.le_of_ble_eq_true rfl) (Nat.le_of_ble_eq_true rfl) (ho) (fun v1 h1 p1 x1 => ?_)
      rw [p1.1, p1.2]
      try dsimp only [Option.toList, List.cons_append, List.nil_append, List.append]
      first | ((with_reducible show Rp _ _ _ _ (.int (b2i _) :: _) _ _); refine Rp.if_neB (tgt := 30) dX12_canDraw_5 (by decide) (fun c5 => ?_) (fun c5 => ?_)) | ((with_reducible show Rp _ _ _ _ (.int (nI _) :: _) _ _); refine Rp.if_neN (tgt := 30) dX12_canDraw_5 (by decide) (by omega) (fun c5 => ?_) (fun c5 => ?_)) | refine Rp.if_ne (tgt := 30) dX12_canDraw_5 (by decide) (fun c5 => ?_) (fun c5 => ?_)
      · cases c5
      refine Rp.aload_n dX12_canDraw_8 rfl rfl ?_
      refine Rp.iload_n dX12_canDraw_9 rfl ?_
      refine Rp.callV1 M_X12_holderOf (ci := 12) dX12_canDraw_10 mo_X12_holderOf lk_X12_151 (by decide) rfl rfl (S _ _ rfl) (Nat.le_of_ble_eq_true rfl) (Nat.le_of_ble_eq_true rfl) (hr) (fun v1 h1 p1 x1 => ?_)
      rw [p1.1, p1.2]
      try dsimp only [Option.toList, List.cons_append, List.nil_append, List.append]
      refine Rp.iconst (-1) dX12_canDraw_13 (by decide) ?_
      first | ((with_reducible show Rp _ _ _ _ (.int (nI _) :: .int (nI _) :: _) _ _); refine Rp.icmp_neN (tgt := 30) dX12_canDraw_14 (by decide) (by omega) (fun c14 => ?_) (fun c14 => ?_)) | refine Rp.icmp_ne (tgt := 30) dX12_canDraw_14 (by decide) (fun c14 => ?_) (fun c14 => ?_)
      · exact absurd rfl c14
      refine Rp.aload_n dX12_canDraw_17 rfl rfl ?_
      refine Rp.iload_n dX12_canDraw_18 rfl ?_
      refine Rp.iload_n dX12_canDraw_19 rfl ?_
      refine Rp.callV2 M_X12_isBarred (ci := 12) dX12_canDraw_20 mo_X12_isBarred lk_X12_161 (by decide) rfl rfl (S _ _ rfl) (Nat.le_of_ble_eq_true rfl) (Nat.le_of_ble_eq_true rfl) (ib) (fun v1 h1 p1 x1 => ?_)
      obtain ⟨F1, rfl⟩ := p1
      try dsimp only [Option.toList, List.cons_append, List.nil_append, List.append]
      skip
      cases e : oBr (gI h am_kept) fl p t
      · skip
        first | ((with_reducible show Rp _ _ _ _ (.int (b2i _) :: _) _ _); refine Rp.if_neB (tgt := 30) dX12_canDraw_23 (by decide) (fun c23 => ?_) (fun c23 => ?_)) | ((with_reducible show Rp _ _ _ _ (.int (nI _) :: _) _ _); refine Rp.if_neN (tgt := 30) dX12_canDraw_23 (by decide) (by omega) (fun c23 => ?_) (fun c23 => ?_)) | refine Rp.if_ne (tgt := 30) dX12_canDraw_23 (by decide) (fun c23 => ?_) (fun c23 => ?_)
        · skip
          cases c23
        · skip
          refine Rp.iconst (nI 1) dX12_canDraw_26 (by decide) ?_
          refine Rp.goto (tgt := 31) dX12_canDraw_27 (by decide) ?_
          refine Rp.zreturn dX12_canDraw_31 rfl (Or.inr rfl) ?_
          exact ⟨F1, rfl⟩
      · skip
        first | ((with_reducible show Rp _ _ _ _ (.int (b2i _) :: _) _ _); refine Rp.if_neB (tgt := 30) dX12_canDraw_23 (by decide) (fun c23 => ?_) (fun c23 => ?_)) | ((with_reducible show Rp _ _ _ _ (.int (nI _) :: _) _ _); refine Rp.if_neN (tgt := 30) dX12_canDraw_23 (by decide) (by omega) (fun c23 => ?_) (fun c23 => ?_)) | refine Rp.if_ne (tgt := 30) dX12_canDraw_23 (by decide) (fun c23 => ?_) (fun c23 => ?_)
        · skip
          refine Rp.iconst (nI 0) dX12_canDraw_30 (by decide) ?_
          refine Rp.zreturn dX12_canDraw_31 rfl (Or.inl rfl) ?_
          exact ⟨F1, rfl⟩
        · skip
          cases c23
    · rw [decide_eq_false c2]
      refine Rp.aload_n dX12_canDraw_0 rfl rfl ?_
      refine Rp.iload_n dX12_canDraw_1 rfl ?_
      refine Rp.callV1 M_X12_holds (ci := 12) dX12_canDraw_2 mo_X12_holds lk_X12_351 (by decide) rfl rfl (S _ _ rfl) (Nat.le_of_ble_eq_true rfl) (Nat.le_of_ble_eq_true rfl) (ho) (fun v1 h1 p1 x1 => ?_)
      rw [p1.1, p1.2]
      try dsimp only [Option.toList, List.cons_append, List.nil_append, List.append]
      first | ((with_reducible show Rp _ _ _ _ (.int (b2i _) :: _) _ _); refine Rp.if_neB (tgt := 30) dX12_canDraw_5 (by decide) (fun c5 => ?_) (fun c5 => ?_)) | ((with_reducible show Rp _ _ _ _ (.int (nI _) :: _) _ _); refine Rp.if_neN (tgt := 30) dX12_canDraw_5 (by decide) (by omega) (fun c5 => ?_) (fun c5 => ?_)) | refine Rp.if_ne (tgt := 30) dX12_canDraw_5 (by decide) (fun c5 => ?_) (fun c5 => ?_)
      · skip
        cases c5
      · skip
        refine Rp.aload_n dX12_canDraw_8 rfl rfl ?_
        refine Rp.iload_n dX12_canDraw_9 rfl ?_
        refine Rp.callV1 M_X12_holderOf (ci := 12) dX12_canDraw_10 mo_X12_holderOf lk_X12_151 (by decide) rfl rfl (S _ _ rfl) (Nat.le_of_ble_eq_true rfl) (Nat.le_of_ble_eq_true rfl) (hr) (fun v1 h1 p1 x1 => ?_)
        rw [p1.1, p1.2]
        try dsimp only [Option.toList, List.cons_append, List.nil_append, List.append]
        refine Rp.iconst (-1) dX12_canDraw_13 (by decide) ?_
        first | ((with_reducible show Rp _ _ _ _ (.int (nI _) :: .int (nI _) :: _) _ _); refine Rp.icmp_neN (tgt := 30) dX12_canDraw_14 (by decide) (by omega) (fun c14 => ?_) (fun c14 => ?_)) | refine Rp.icmp_ne (tgt := 30) dX12_canDraw_14 (by decide) (fun c14 => ?_) (fun c14 => ?_)
        · skip
          refine Rp.iconst (nI 0) dX12_canDraw_30 (by decide) ?_
          refine Rp.zreturn dX12_canDraw_31 rfl (Or.inl rfl) ?_
          exact ⟨Fr.rfl', rfl⟩
        · skip
          exact absurd c14 c2
  · rw [decide_eq_true c1] at ho
    rw [decide_eq_false c1]
    refine Rp.aload_n dX12_canDraw_0 rfl rfl ?_
    refine Rp.iload_n dX12_canDraw_1 rfl ?_
    refine Rp.callV1 M_X12_holds (ci := 12) dX12_canDraw_2 mo_X12_holds lk_X12_351 (by decide) rfl rfl (S _ _ rfl) (Nat.le_of_ble_eq_true rfl) (Nat.le_of_ble_eq_true rfl) (ho) (fun v1 h1 p1 x1 => ?_)
    rw [p1.1, p1.2]
    try dsimp only [Option.toList, List.cons_append, List.nil_append, List.append]
    first | ((with_reducible show Rp _ _ _ _ (.int (b2i _) :: _) _ _); refine Rp.if_neB (tgt := 30) dX12_canDraw_5 (by decide) (fun c5 => ?_) (fun c5 => ?_)) | ((with_reducible show Rp _ _ _ _ (.int (nI _) :: _) _ _); refine Rp.if_neN (tgt := 30) dX12_canDraw_5 (by decide) (by omega) (fun c5 => ?_) (fun c5 => ?_)) | refine Rp.if_ne (tgt := 30) dX12_canDraw_5 (by decide) (fun c5 => ?_) (fun c5 => ?_)
    · skip
      refine Rp.iconst (nI 0) dX12_canDraw_30 (by decide) ?_
      refine Rp.zreturn dX12_canDraw_31 rfl (Or.inl rfl) ?_
      exact ⟨Fr.rfl', rfl⟩
    · skip
      cases c5
theorem s_canSwap (A : MA h fl np nt US) {p q : Nat} (hp : p < 6) (hq : q < 6) : Rp (d + 76) M_X12_canSwap 0 [some (.ref aM), some (.int (nI p)), some (.int (nI q))] [] h (fun r h' => Fr tlX h h' ∧ r = some (.int (b2i (canS (gI h am_kept) fl p q)))) := by
  obtain ⟨S, R, hF, B, V, hM, hT, L⟩ := A
  have h1 := s_holds (d + 75) S R (q := p) (by omega)
  have h2 := s_holds (d + 75) S R (q := q) (by omega)
  unfold canS
  by_cases c0 : p = q
  · rw [decide_eq_false (fun z => z c0)]
    refine Rp.iload_n dX12_canSwap_0 rfl ?_
    refine Rp.iload_n dX12_canSwap_1 rfl ?_
    first | ((with_reducible show Rp _ _ _ _ (.int (nI _) :: .int (nI _) :: _) _ _); refine Rp.icmp_eqN (tgt := 57) dX12_canSwap_2 (by decide) (by omega) (fun c2 => ?_) (fun c2 => ?_)) | refine Rp.icmp_eq (tgt := 57) dX12_canSwap_2 (by decide) (fun c2 => ?_) (fun c2 => ?_)
    · skip
      refine Rp.iconst (nI 0) dX12_canSwap_57 (by decide) ?_
      refine Rp.zreturn dX12_canSwap_58 rfl (Or.inl rfl) ?_
      exact ⟨Fr.rfl', rfl⟩
    · skip
      first | (exfalso; omega) | exact absurd c2 (by decide) | exact absurd (by decide) c2
  · rw [decide_eq_true c0]
    by_cases c1 : gI h am_kept p = -1
    · rw [decide_eq_false (fun z => z c1)] at h1 ⊢
      refine Rp.iload_n dX12_canSwap_0 rfl ?_
      refine Rp.iload_n dX12_canSwap_1 rfl ?_
      first | ((with_reducible show Rp _ _ _ _ (.int (nI _) :: .int (nI _) :: _) _ _); refine Rp.icmp_eqN (tgt := 57) dX12_canSwap_2 (by decide) (by omega) (fun c2 => ?_) (fun c2 => ?_)) | refine Rp.icmp_eq (tgt := 57) dX12_canSwap_2 (by decide) (fun c2 => ?_) (fun c2 => ?_)
      · skip
        first | (exfalso; omega) | exact absurd c2 (by decide) | exact absurd (by decide) c2
      · skip
        refine Rp.aload_n dX12_canSwap_5 rfl rfl ?_
        refine Rp.iload_n dX12_canSwap_6 rfl ?_
        refine Rp.callV1 M_X12_holds (ci := 12) dX12_canSwap_7 mo_X12_holds lk_X12_351 (by decide) rfl rfl (S _ _ rfl) (Nat.le_of_ble_eq_true rfl) (Nat.le_of_ble_eq_true rfl) (h1) (fun v1 h1 p1 x1 => ?_)
        rw [p1.1, p1.2]
        try dsimp only [Option.toList, List.cons_append, List.nil_append, List.append]
        first | ((with_reducible show Rp _ _ _ _ (.int (b2i _) :: _) _ _); refine Rp.if_eqB (tgt := 57) dX12_canSwap_10 (by decide) (fun c10 => ?_) (fun c10 => ?_)) | ((with_reducible show Rp _ _ _ _ (.int (nI _) :: _) _ _); refine Rp.if_eqN (tgt := 57) dX12_canSwap_10 (by decide) (by omega) (fun c10 => ?_) (fun c10 => ?_)) | refine Rp.if_eq (tgt := 57) dX12_canSwap_10 (by decide) (fun c10 => ?_) (fun c10 => ?_)
        · skip
          refine Rp.iconst (nI 0) dX12_canSwap_57 (by decide) ?_
          refine Rp.zreturn dX12_canSwap_58 rfl (Or.inl rfl) ?_
          exact ⟨Fr.rfl', rfl⟩
        · skip
          cases c10
    · rw [decide_eq_true c1] at h1 ⊢
      by_cases c2 : gI h am_kept q = -1
      · rw [decide_eq_false (fun z => z c2)] at h2 ⊢
        refine Rp.iload_n dX12_canSwap_0 rfl ?_
        refine Rp.iload_n dX12_canSwap_1 rfl ?_
        first | ((with_reducible show Rp _ _ _ _ (.int (nI _) :: .int (nI _) :: _) _ _); refine Rp.icmp_eqN (tgt := 57) dX12_canSwap_2 (by decide) (by omega) (fun c2 => ?_) (fun c2 => ?_)) | refine Rp.icmp_eq (tgt := 57) dX12_canSwap_2 (by decide) (fun c2 => ?_) (fun c2 => ?_)
        · skip
          first | (exfalso; omega) | exact absurd c2 (by decide) | exact absurd (by decide) c2
        · skip
          refine Rp.aload_n dX12_canSwap_5 rfl rfl ?_
          refine Rp.iload_n dX12_canSwap_6 rfl ?_
          refine Rp.callV1 M_X12_holds (ci := 12) dX12_canSwap_7 mo_X12_holds lk_X12_351 (by decide) rfl rfl (S _ _ rfl) (Nat.le_of_ble_eq_true rfl) (Nat.le_of_ble_eq_true rfl) (h1) (fun v1 h1 p1 x1 => ?_)
          rw [p1.1, p1.2]
          try dsimp only [Option.toList, List.cons_append, List.nil_append, List.append]
          first | ((with_reducible show Rp _ _ _ _ (.int (b2i _) :: _) _ _); refine Rp.if_eqB (tgt := 57) dX12_canSwap_10 (by decide) (fun c10 => ?_) (fun c10 => ?_)) | ((with_reducible show Rp _ _ _ _ (.int (nI _) :: _) _ _); refine Rp.if_eqN (tgt := 57) dX12_canSwap_10 (by decide) (by omega) (fun c10 => ?_) (fun c10 => ?_)) | refine Rp.if_eq (tgt := 57) dX12_canSwap_10 (by decide) (fun c10 => ?_) (fun c10 => ?_)
          · skip
            cases c10
          · skip
            refine Rp.aload_n dX12_canSwap_13 rfl rfl ?_
            refine Rp.iload_n dX12_canSwap_14 rfl ?_
            refine Rp.callV1 M_X12_holds (ci := 12) dX12_canSwap_15 mo_X12_holds lk_X12_351 (by decide) rfl rfl (S _ _ rfl) (Nat.le_of_ble_eq_true rfl) (Nat.le_of_ble_eq_true rfl) (h2) (fun v1 h1 p1 x1 => ?_)
            rw [p1.1, p1.2]
            try dsimp only [Option.toList, List.cons_append, List.nil_append, List.append]
            first | ((with_reducible show Rp _ _ _ _ (.int (b2i _) :: _) _ _); refine Rp.if_eqB (tgt := 57) dX12_canSwap_18 (by decide) (fun c18 => ?_) (fun c18 => ?_)) | ((with_reducible show Rp _ _ _ _ (.int (nI _) :: _) _ _); refine Rp.if_eqN (tgt := 57) dX12_canSwap_18 (by decide) (by omega) (fun c18 => ?_) (fun c18 => ?_)) | refine Rp.if_eq (tgt := 57) dX12_canSwap_18 (by decide) (fun c18 => ?_) (fun c18 => ?_)
            · skip
              refine Rp.iconst (nI 0) dX12_canSwap_57 (by decide) ?_
              refine Rp.zreturn dX12_canSwap_58 rfl (Or.inl rfl) ?_
              exact ⟨Fr.rfl', rfl⟩
            · skip
              cases c18
      · rw [decide_eq_true c2] at h2 ⊢
        obtain ⟨t, ht, et⟩ := ((V.2.2.1 p hp).resolve_left c1).2
        obtain ⟨u, hu, eu⟩ := ((V.2.2.1 q hq).resolve_left c2).2
        have v2 := V.2.1
        rw [et, eu, ix_nI (by omega), ix_nI (by omega)]
        have e0 : gI h am_kept (0 + q) = nI u := by rw [Nat.zero_add]; exact eu
        have ib := s_isBarred d S R hF B (p := p) (t := u) hp (by omega)
        refine Rp.iload_n dX12_canSwap_0 rfl ?_
        refine Rp.iload_n dX12_canSwap_1 rfl ?_
        first | ((with_reducible show Rp _ _ _ _ (.int (nI _) :: .int (nI _) :: _) _ _); refine Rp.icmp_eqN (tgt := 57) dX12_canSwap_2 (by decide) (by omega) (fun c2 => ?_) (fun c2 => ?_)) | refine Rp.icmp_eq (tgt := 57) dX12_canSwap_2 (by decide) (fun c2 => ?_) (fun c2 => ?_)
        · first | (exfalso; omega) | exact absurd c2 (by decide) | exact absurd (by decide) c2
        refine Rp.aload_n dX12_canSwap_5 rfl rfl ?_
        refine Rp.iload_n dX12_canSwap_6 rfl ?_
        refine Rp.callV1 M_X12_holds (ci := 12) dX12_canSwap_7 mo_X12_holds lk_X12_351 (by decide) rfl rfl (S _ _ rfl) (Nat.le_of_ble_eq_true rfl) (Nat.le_of_ble_eq_true rfl) (h1) (fun v1 h1 p1 x1 => ?_)
        rw [p1.1, p1.2]
        try dsimp only [Option.toList, List.cons_append, List.nil_append, List.append]
        first | ((with_reducible show Rp _ _ _ _ (.int (b2i _) :: _) _ _); refine Rp.if_eqB (tgt := 57) dX12_canSwap_10 (by decide) (fun c10 => ?_) (fun c10 => ?_)) | ((with_reducible show Rp _ _ _ _ (.int (nI _) :: _) _ _); refine Rp.if_eqN (tgt := 57) dX12_canSwap_10 (by decide) (by omega) (fun c10 => ?_) (fun c10 => ?_)) | refine Rp.if_eq (tgt := 57) dX12_canSwap_10 (by decide) (fun c10 => ?_) (fun c10 => ?_)
        · cases c10
        refine Rp.aload_n dX12_canSwap_13 rfl rfl ?_
        refine Rp.iload_n dX12_canSwap_14 rfl ?_
        refine Rp.callV1 M_X12_holds (ci := 12) dX12_canSwap_15 mo_X12_holds lk_X12_351 (by decide) rfl rfl (S _ _ rfl) (Nat.le_of_ble_eq_true rfl) (Nat.le_of_ble_eq_true rfl) (h2) (fun v1 h1 p1 x1 => ?_)
        rw [p1.1, p1.2]
        try dsimp only [Option.toList, List.cons_append, List.nil_append, List.append]
        first | ((with_reducible show Rp _ _ _ _ (.int (b2i _) :: _) _ _); refine Rp.if_eqB (tgt := 57) dX12_canSwap_18 (by decide) (fun c18 => ?_) (fun c18 => ?_)) | ((with_reducible show Rp _ _ _ _ (.int (nI _) :: _) _ _); refine Rp.if_eqN (tgt := 57) dX12_canSwap_18 (by decide) (by omega) (fun c18 => ?_) (fun c18 => ?_)) | refine Rp.if_eq (tgt := 57) dX12_canSwap_18 (by decide) (fun c18 => ?_) (fun c18 => ?_)
        · cases c18
        refine Rp.aload_n dX12_canSwap_21 rfl rfl ?_
        refine Rp.iload_n dX12_canSwap_22 rfl ?_
        refine Rp.aload_n dX12_canSwap_23 rfl rfl ?_
        refine Rp.getR dX12_canSwap_24 fk_X12_24 rfl (S _ _ rfl) (R _ _ _ rfl) ?_
        refine Rp.iconst (nI 0) dX12_canSwap_27 (by decide) ?_
        refine Rp.iload_n dX12_canSwap_28 rfl ?_
        first | ((with_reducible show Rp _ _ _ _ (.int (nI _) :: .int (nI _) :: _) _ _); refine Rp.iaddN dX12_canSwap_29 ?_) | refine Rp.iadd dX12_canSwap_29 ?_
        first | ((with_reducible show Rp _ _ _ _ (.int (nI _) :: _) _ _); refine Rp.ialoadN dX12_canSwap_30 (S _ _ rfl) (by omega) ?_) | refine Rp.iaload dX12_canSwap_30 (S _ _ rfl) (by first | assumption | exact vpb (by decide)) ?_
        first | rw [e0] | skip
        refine Rp.callV2 M_X12_isBarred (ci := 12) dX12_canSwap_31 mo_X12_isBarred lk_X12_161 (by decide) rfl rfl (S _ _ rfl) (Nat.le_of_ble_eq_true rfl) (Nat.le_of_ble_eq_true rfl) (ib) (fun v1 h1 p1 x1 => ?_)
        obtain ⟨F1, rfl⟩ := p1
        try dsimp only [Option.toList, List.cons_append, List.nil_append, List.append]
        skip
        cases e : oBr (gI h am_kept) fl p u
        · have S1 := F1.S S
          have R1 := F1.R R (by decide)
          have eK : gI h1 am_kept = gI h am_kept := (mdX_t F1).k102
          have e1 : gI h1 am_kept (0 + p) = nI t := by rw [Nat.zero_add, eK]; exact et
          have ib2 := s_isBarred d (fl := fl) S1 R1 (by rw [eK]; exact hF) (by rw [eK]; exact B) (p := q) (t := t) hq (by omega)
          rw [eK] at ib2
          first | ((with_reducible show Rp _ _ _ _ (.int (b2i _) :: _) _ _); refine Rp.if_neB (tgt := 57) dX12_canSwap_34 (by decide) (fun c34 => ?_) (fun c34 => ?_)) | ((with_reducible show Rp _ _ _ _ (.int (nI _) :: _) _ _); refine Rp.if_neN (tgt := 57) dX12_canSwap_34 (by decide) (by omega) (fun c34 => ?_) (fun c34 => ?_)) | refine Rp.if_ne (tgt := 57) dX12_canSwap_34 (by decide) (fun c34 => ?_) (fun c34 => ?_)
          · cases c34
          refine Rp.aload_n dX12_canSwap_37 rfl rfl ?_
          refine Rp.iload_n dX12_canSwap_38 rfl ?_
          refine Rp.aload_n dX12_canSwap_39 rfl rfl ?_
          refine Rp.getR dX12_canSwap_40 fk_X12_24 rfl (S1 _ _ rfl) (R1 _ _ _ rfl) ?_
          refine Rp.iconst (nI 0) dX12_canSwap_43 (by decide) ?_
          refine Rp.iload_n dX12_canSwap_44 rfl ?_
          first | ((with_reducible show Rp _ _ _ _ (.int (nI _) :: .int (nI _) :: _) _ _); refine Rp.iaddN dX12_canSwap_45 ?_) | refine Rp.iadd dX12_canSwap_45 ?_
          first | ((with_reducible show Rp _ _ _ _ (.int (nI _) :: _) _ _); refine Rp.ialoadN dX12_canSwap_46 (S1 _ _ rfl) (by omega) ?_) | refine Rp.iaload dX12_canSwap_46 (S1 _ _ rfl) (by first | assumption | exact vpb (by decide)) ?_
          first | rw [e1] | skip
          refine Rp.callV2 M_X12_isBarred (ci := 12) dX12_canSwap_47 mo_X12_isBarred lk_X12_161 (by decide) rfl rfl (S1 _ _ rfl) (Nat.le_of_ble_eq_true rfl) (Nat.le_of_ble_eq_true rfl) (ib2) (fun v1 h1 p1 x1 => ?_)
          obtain ⟨F2, rfl⟩ := p1
          try dsimp only [Option.toList, List.cons_append, List.nil_append, List.append]
          skip
          cases e3 : oBr (gI h am_kept) fl q t
          · skip
            first | ((with_reducible show Rp _ _ _ _ (.int (b2i _) :: _) _ _); refine Rp.if_neB (tgt := 57) dX12_canSwap_50 (by decide) (fun c50 => ?_) (fun c50 => ?_)) | ((with_reducible show Rp _ _ _ _ (.int (nI _) :: _) _ _); refine Rp.if_neN (tgt := 57) dX12_canSwap_50 (by decide) (by omega) (fun c50 => ?_) (fun c50 => ?_)) | refine Rp.if_ne (tgt := 57) dX12_canSwap_50 (by decide) (fun c50 => ?_) (fun c50 => ?_)
            · skip
              cases c50
            · skip
              refine Rp.iconst (nI 1) dX12_canSwap_53 (by decide) ?_
              refine Rp.goto (tgt := 58) dX12_canSwap_54 (by decide) ?_
              refine Rp.zreturn dX12_canSwap_58 rfl (Or.inr rfl) ?_
              exact ⟨F1.trans F2, rfl⟩
          · skip
            first | ((with_reducible show Rp _ _ _ _ (.int (b2i _) :: _) _ _); refine Rp.if_neB (tgt := 57) dX12_canSwap_50 (by decide) (fun c50 => ?_) (fun c50 => ?_)) | ((with_reducible show Rp _ _ _ _ (.int (nI _) :: _) _ _); refine Rp.if_neN (tgt := 57) dX12_canSwap_50 (by decide) (by omega) (fun c50 => ?_) (fun c50 => ?_)) | refine Rp.if_ne (tgt := 57) dX12_canSwap_50 (by decide) (fun c50 => ?_) (fun c50 => ?_)
            · skip
              refine Rp.iconst (nI 0) dX12_canSwap_57 (by decide) ?_
              refine Rp.zreturn dX12_canSwap_58 rfl (Or.inl rfl) ?_
              exact ⟨F1.trans F2, rfl⟩
            · skip
              cases c50
        · skip
          first | ((with_reducible show Rp _ _ _ _ (.int (b2i _) :: _) _ _); refine Rp.if_neB (tgt := 57) dX12_canSwap_34 (by decide) (fun c34 => ?_) (fun c34 => ?_)) | ((with_reducible show Rp _ _ _ _ (.int (nI _) :: _) _ _); refine Rp.if_neN (tgt := 57) dX12_canSwap_34 (by decide) (by omega) (fun c34 => ?_) (fun c34 => ?_)) | refine Rp.if_ne (tgt := 57) dX12_canSwap_34 (by decide) (fun c34 => ?_) (fun c34 => ?_)
          · skip
            refine Rp.iconst (nI 0) dX12_canSwap_57 (by decide) ?_
            refine Rp.zreturn dX12_canSwap_58 rfl (Or.inl rfl) ?_
            exact ⟨F1, rfl⟩
          · skip
            cases c34
theorem AmQ_no {x : Int32} {h' : AH} (L : LGm h US) (F : Fr tlX h h') : AmQ h US (x, none) (some (.int x)) h' := ⟨rfl, amX_t F, (mdX_t F).k102, L.ft F⟩
theorem s_drawsKept (A : MA h fl np nt US) (t p : Int32) : Rp (d + 77) M_X12_drawsKept 0 [some (.ref aM), some (.int t), some (.int p)] [] h (AmQ h US (drR (gI h am_kept) fl np nt t p)) := by
  have A0 := A
  obtain ⟨S, R, hF, B, V, hM, hT, L⟩ := A
  have q1 := s_isTicket (d + 75) S R t V.2.1 hT
  have q2 := s_isPerson (d + 75) S R p V.1 hM
  have v1 := V.1
  have v2 := V.2.1
  unfold drR
  by_cases e1 : inN t nt = true
  · rw [e1] at q1
    by_cases e2 : inN p np = true
    · rw [e2] at q2
      rw [if_pos (by rw [e1, e2]; rfl)]
      obtain ⟨u, hu, rfl⟩ := (inN_iff (by omega)).mp e1
      obtain ⟨w, hw, rfl⟩ := (inN_iff (by omega)).mp e2
      rw [ix_nI (by omega), ix_nI (by omega)]
      have cd := s_canDraw d A0 (t := u) (p := w) (by omega) (by omega)
      refine Rp.aload_n dX12_drawsKept_0 rfl rfl ?_
      refine Rp.iload_n dX12_drawsKept_1 rfl ?_
      refine Rp.callV1 M_X12_isTicket (ci := 12) dX12_drawsKept_2 mo_X12_isTicket lk_X12_148 (by decide) rfl rfl (S _ _ rfl) (Nat.le_of_ble_eq_true rfl) (Nat.le_of_ble_eq_true rfl) (q1) (fun v1 h1 p1 x1 => ?_)
      rw [p1.1, p1.2]
      try dsimp only [Option.toList, List.cons_append, List.nil_append, List.append]
      first | ((with_reducible show Rp _ _ _ _ (.int (b2i _) :: _) _ _); refine Rp.if_eqB (tgt := 16) dX12_drawsKept_5 (by decide) (fun c5 => ?_) (fun c5 => ?_)) | ((with_reducible show Rp _ _ _ _ (.int (nI _) :: _) _ _); refine Rp.if_eqN (tgt := 16) dX12_drawsKept_5 (by decide) (by omega) (fun c5 => ?_) (fun c5 => ?_)) | refine Rp.if_eq (tgt := 16) dX12_drawsKept_5 (by decide) (fun c5 => ?_) (fun c5 => ?_)
      · cases c5
      refine Rp.aload_n dX12_drawsKept_8 rfl rfl ?_
      refine Rp.iload_n dX12_drawsKept_9 rfl ?_
      refine Rp.callV1 M_X12_isPerson (ci := 12) dX12_drawsKept_10 mo_X12_isPerson lk_X12_131 (by decide) rfl rfl (S _ _ rfl) (Nat.le_of_ble_eq_true rfl) (Nat.le_of_ble_eq_true rfl) (q2) (fun v1 h1 p1 x1 => ?_)
      rw [p1.1, p1.2]
      try dsimp only [Option.toList, List.cons_append, List.nil_append, List.append]
      first | ((with_reducible show Rp _ _ _ _ (.int (b2i _) :: _) _ _); refine Rp.if_neB (tgt := 19) dX12_drawsKept_13 (by decide) (fun c13 => ?_) (fun c13 => ?_)) | ((with_reducible show Rp _ _ _ _ (.int (nI _) :: _) _ _); refine Rp.if_neN (tgt := 19) dX12_drawsKept_13 (by decide) (by omega) (fun c13 => ?_) (fun c13 => ?_)) | refine Rp.if_ne (tgt := 19) dX12_drawsKept_13 (by decide) (fun c13 => ?_) (fun c13 => ?_)
      rotate_left
      · cases c13
      refine Rp.aload_n dX12_drawsKept_19 rfl rfl ?_
      refine Rp.iload_n dX12_drawsKept_20 rfl ?_
      refine Rp.iload_n dX12_drawsKept_21 rfl ?_
      refine Rp.callV2 M_X12_canDraw (ci := 12) dX12_drawsKept_22 mo_X12_canDraw lk_X12_354 (by decide) rfl rfl (S _ _ rfl) (Nat.le_of_ble_eq_true rfl) (Nat.le_of_ble_eq_true rfl) (cd) (fun v1 h1 p1 x1 => ?_)
      obtain ⟨F1, rfl⟩ := p1
      try dsimp only [Option.toList, List.cons_append, List.nil_append, List.append]
      skip
      have S1 := F1.S S
      have R1 := F1.R R (by decide)
      have eK : gI h1 102 = gI h 102 := (mdX_t F1).k102
      cases e3 : canD (gI h am_kept) fl np u w
      · rw [if_neg (by decide)]
        first | ((with_reducible show Rp _ _ _ _ (.int (b2i _) :: _) _ _); refine Rp.if_neB (tgt := 31) dX12_drawsKept_25 (by decide) (fun c25 => ?_) (fun c25 => ?_)) | ((with_reducible show Rp _ _ _ _ (.int (nI _) :: _) _ _); refine Rp.if_neN (tgt := 31) dX12_drawsKept_25 (by decide) (by omega) (fun c25 => ?_) (fun c25 => ?_)) | refine Rp.if_ne (tgt := 31) dX12_drawsKept_25 (by decide) (fun c25 => ?_) (fun c25 => ?_)
        · skip
          cases c25
        · skip
          refine Rp.bipush (-3) dX12_drawsKept_28 (by decide) ?_
          refine Rp.ireturn dX12_drawsKept_30 rfl ?_
          exact AmQ_no L F1
      · rw [if_pos rfl]
        have kp := s_keeps (d + 76) S1 R1 (L.ft F1) 0
        first | ((with_reducible show Rp _ _ _ _ (.int (b2i _) :: _) _ _); refine Rp.if_neB (tgt := 31) dX12_drawsKept_25 (by decide) (fun c25 => ?_) (fun c25 => ?_)) | ((with_reducible show Rp _ _ _ _ (.int (nI _) :: _) _ _); refine Rp.if_neN (tgt := 31) dX12_drawsKept_25 (by decide) (by omega) (fun c25 => ?_) (fun c25 => ?_)) | refine Rp.if_ne (tgt := 31) dX12_drawsKept_25 (by decide) (fun c25 => ?_) (fun c25 => ?_)
        rotate_left
        · cases c25
        refine Rp.aload_n dX12_drawsKept_31 rfl rfl ?_
        refine Rp.iconst (nI 0) dX12_drawsKept_32 (by decide) ?_
        refine Rp.callV1 M_X12_keeps (ci := 12) dX12_drawsKept_33 mo_X12_keeps lk_X12_357 (by decide) rfl rfl (S1 _ _ rfl) (Nat.le_of_ble_eq_true rfl) (Nat.le_of_ble_eq_true rfl) (kp) (fun v1 h1 p1 x1 => ?_)
        obtain ⟨rfl, F2, L2⟩ := p1
        try dsimp only [Option.toList, List.cons_append, List.nil_append, List.append]
        skip
        have S2 := F2.S S1
        have R2 := F2.R R1 (by decide)
        have eK2 : gI h1 102 = gI h 102 := (funext fun j => F2.I 102 j rfl).trans eK
        rw [eK] at L2
        have en : gI (sI h1 102 (0 + w) (nI u)) 102 (67 + u) = gI h am_kept (67 + u) := by rw [gI_off _ _ _ (by omega), eK2]
        have F3 : Fr amX h (sI h1 102 (0 + w) (nI u)) := ((amX_t F1).trans (amX_k F2)).sI (by unfold amX; rw [decide_eq_true (show 0 + w < 7 by omega)]; simp)
        have K3 : gI (sI h1 102 (0 + w) (nI u)) 102 = upK (gI h 102) w (nI u) := funext fun j => by
          unfold upK
          rw [gI_at, Nat.zero_add, eK2]
        have L3 : LGm (sI h1 102 (0 + w) (nI u)) (lgU US (rwF (gI h 102) 0)) := ⟨L2.1, by rw [gI_ne _ _ _ _ (by decide)]; exact L2.2.1, fun i r hi j hj => by rw [gI_ne _ _ _ _ (by decide)]; exact L2.2.2 i r hi j hj⟩
        refine Rp.aload_n dX12_drawsKept_36 rfl rfl ?_
        refine Rp.getR dX12_drawsKept_37 fk_X12_24 rfl (S2 _ _ rfl) (R2 _ _ _ rfl) ?_
        refine Rp.iconst (nI 0) dX12_drawsKept_40 (by decide) ?_
        refine Rp.iload_n dX12_drawsKept_41 rfl ?_
        first | ((with_reducible show Rp _ _ _ _ (.int (nI _) :: .int (nI _) :: _) _ _); refine Rp.iaddN dX12_drawsKept_42 ?_) | refine Rp.iadd dX12_drawsKept_42 ?_
        refine Rp.iload_n dX12_drawsKept_43 rfl ?_
        first | ((with_reducible show Rp _ _ _ _ (_ :: .int (nI _) :: _) _ _); refine Rp.iastoreN dX12_drawsKept_44 (S2 _ _ rfl) (by omega) ?_) | refine Rp.iastore dX12_drawsKept_44 (S2 _ _ rfl) (by first | assumption | exact vpb (by decide)) ?_
        refine Rp.aload_n dX12_drawsKept_45 rfl rfl ?_
        refine Rp.getR dX12_drawsKept_46 fk_X12_24 rfl (S2 _ _ rfl) (R2 _ _ _ rfl) ?_
        refine Rp.bipush (nI 67) dX12_drawsKept_49 (by decide) ?_
        refine Rp.iload_n dX12_drawsKept_51 rfl ?_
        first | ((with_reducible show Rp _ _ _ _ (.int (nI _) :: .int (nI _) :: _) _ _); refine Rp.iaddN dX12_drawsKept_52 ?_) | refine Rp.iadd dX12_drawsKept_52 ?_
        first | ((with_reducible show Rp _ _ _ _ (.int (nI _) :: _) _ _); refine Rp.ialoadN dX12_drawsKept_53 (S2 _ _ rfl) (by omega) ?_) | refine Rp.iaload dX12_drawsKept_53 (S2 _ _ rfl) (by first | assumption | exact vpb (by decide)) ?_
        first | rw [en] | skip
        refine Rp.ireturn dX12_drawsKept_54 rfl ?_
        exact ⟨rfl, F3, K3, L3⟩
    · have e2 : inN p np = false := Bool.eq_false_iff.mpr e2
      rw [e2] at q2
      rw [if_neg (by rw [e2, Bool.and_false]; decide)]
      refine Rp.aload_n dX12_drawsKept_0 rfl rfl ?_
      refine Rp.iload_n dX12_drawsKept_1 rfl ?_
      refine Rp.callV1 M_X12_isTicket (ci := 12) dX12_drawsKept_2 mo_X12_isTicket lk_X12_148 (by decide) rfl rfl (S _ _ rfl) (Nat.le_of_ble_eq_true rfl) (Nat.le_of_ble_eq_true rfl) (q1) (fun v1 h1 p1 x1 => ?_)
      rw [p1.1, p1.2]
      try dsimp only [Option.toList, List.cons_append, List.nil_append, List.append]
      first | ((with_reducible show Rp _ _ _ _ (.int (b2i _) :: _) _ _); refine Rp.if_eqB (tgt := 16) dX12_drawsKept_5 (by decide) (fun c5 => ?_) (fun c5 => ?_)) | ((with_reducible show Rp _ _ _ _ (.int (nI _) :: _) _ _); refine Rp.if_eqN (tgt := 16) dX12_drawsKept_5 (by decide) (by omega) (fun c5 => ?_) (fun c5 => ?_)) | refine Rp.if_eq (tgt := 16) dX12_drawsKept_5 (by decide) (fun c5 => ?_) (fun c5 => ?_)
      · skip
        cases c5
      · skip
        refine Rp.aload_n dX12_drawsKept_8 rfl rfl ?_
        refine Rp.iload_n dX12_drawsKept_9 rfl ?_
        refine Rp.callV1 M_X12_isPerson (ci := 12) dX12_drawsKept_10 mo_X12_isPerson lk_X12_131 (by decide) rfl rfl (S _ _ rfl) (Nat.le_of_ble_eq_true rfl) (Nat.le_of_ble_eq_true rfl) (q2) (fun v1 h1 p1 x1 => ?_)
        rw [p1.1, p1.2]
        try dsimp only [Option.toList, List.cons_append, List.nil_append, List.append]
        first | ((with_reducible show Rp _ _ _ _ (.int (b2i _) :: _) _ _); refine Rp.if_neB (tgt := 19) dX12_drawsKept_13 (by decide) (fun c13 => ?_) (fun c13 => ?_)) | ((with_reducible show Rp _ _ _ _ (.int (nI _) :: _) _ _); refine Rp.if_neN (tgt := 19) dX12_drawsKept_13 (by decide) (by omega) (fun c13 => ?_) (fun c13 => ?_)) | refine Rp.if_ne (tgt := 19) dX12_drawsKept_13 (by decide) (fun c13 => ?_) (fun c13 => ?_)
        · skip
          cases c13
        · skip
          refine Rp.bipush (-2) dX12_drawsKept_16 (by decide) ?_
          refine Rp.ireturn dX12_drawsKept_18 rfl ?_
          exact AmQ_no L Fr.rfl'
  · have e1 : inN t nt = false := Bool.eq_false_iff.mpr e1
    rw [e1] at q1
    rw [if_neg (by rw [e1, Bool.false_and]; decide)]
    refine Rp.aload_n dX12_drawsKept_0 rfl rfl ?_
    refine Rp.iload_n dX12_drawsKept_1 rfl ?_
    refine Rp.callV1 M_X12_isTicket (ci := 12) dX12_drawsKept_2 mo_X12_isTicket lk_X12_148 (by decide) rfl rfl (S _ _ rfl) (Nat.le_of_ble_eq_true rfl) (Nat.le_of_ble_eq_true rfl) (q1) (fun v1 h1 p1 x1 => ?_)
    rw [p1.1, p1.2]
    try dsimp only [Option.toList, List.cons_append, List.nil_append, List.append]
    first | ((with_reducible show Rp _ _ _ _ (.int (b2i _) :: _) _ _); refine Rp.if_eqB (tgt := 16) dX12_drawsKept_5 (by decide) (fun c5 => ?_) (fun c5 => ?_)) | ((with_reducible show Rp _ _ _ _ (.int (nI _) :: _) _ _); refine Rp.if_eqN (tgt := 16) dX12_drawsKept_5 (by decide) (by omega) (fun c5 => ?_) (fun c5 => ?_)) | refine Rp.if_eq (tgt := 16) dX12_drawsKept_5 (by decide) (fun c5 => ?_) (fun c5 => ?_)
    · skip
      refine Rp.bipush (-2) dX12_drawsKept_16 (by decide) ?_
      refine Rp.ireturn dX12_drawsKept_18 rfl ?_
      exact AmQ_no L Fr.rfl'
    · skip
      cases c5
end Ma3
