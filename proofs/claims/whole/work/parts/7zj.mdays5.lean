section Dk
variable (d : Nat) {h : AH} {fl : Option (List CLE)} {np nt : Nat} {US : List (Nat → Int32)}
theorem s_days_ok (A : MA h fl np nt US) (hp : 0 < np) (ht : 0 < nt) {x N : Nat} (hx : x < 1000001) (hN : N ≤ 60) (hb : dzB (nI x) (nI N) = true) : Rp (d + 78) M_X12_days 0 [some (.ref aM), some (.int (nI x)), some (.int (nI N)), none, none, none, none] [] h (fun r h' => ∃ g, Fr dzX (wrI (sI (sI h 100 59 (nI x)) 100 58 (nI np)) am_aside (fun i => 7 * 0 + i) (gI h 102) 7) g ∧ (∃ y, dyS fl np nt N (gI h 102, x, 0) = (gI g 102, y)) ∧ r = some (.int (nI (dyS fl np nt N (gI h 102, x, 0)).2.2)) ∧ h' = sI (wrI (wrI g 128 (fun i => i) (gI g 102) 7) 102 (fun i => i) (fun i => gI (wrI g 128 (fun i => i) (gI g 102) 7) am_aside (7 * 0 + i)) 7) aM fm_status (nI 0)) := by
  have A0 := A
  obtain ⟨S, R, hF, B, V, hM, hT, L⟩ := A
  obtain ⟨m, hm, e6⟩ := B.2.2.2.2.2.1
  have v1 := V.1
  have v2 := V.2.1
  unfold dzB at hb
  rw [Bool.and_eq_true] at hb
  obtain ⟨e1, e2⟩ := hb
  have F0 : Fr (fun k _ => k == 100) h (sI (sI h 100 59 (nI x)) 100 58 (nI np)) := (Fr.rfl'.sI rfl).sI rfl
  have S1 : ShOK (sI (sI h 100 59 (nI x)) 100 58 (nI np)) := F0.S S
  have R1 : RfOK (sI (sI h 100 59 (nI x)) 100 58 (nI np)) := fun k j r hr => R k j r hr
  have la := s_laysAside (d + 77) S1 R1 (k := 0) (by decide)
  have S2 := S1.wr am_aside (fun i => 7 * 0 + i) (gI h 102) 7
  have R2 := R1.wr am_aside (fun i => 7 * 0 + i) (gI h 102) 7
  have K2 : ∀ j, gI (wrI (sI (sI h 100 59 (nI x)) 100 58 (nI np)) am_aside (fun i => 7 * 0 + i) (gI h 102) 7) 102 j = gI h 102 j := fun j => gI_wrI_ne _ _ _ (by decide) j 7
  have K2' : gI (wrI (sI (sI h 100 59 (nI x)) 100 58 (nI np)) am_aside (fun i => 7 * 0 + i) (gI h 102) 7) 102 = gI h 102 := funext K2
  have A2 : MA (wrI (sI (sI h 100 59 (nI x)) 100 58 (nI np)) am_aside (fun i => 7 * 0 + i) (gI h 102) 7) fl np nt US := ⟨S2, R2, by rw [K2']; exact hF, by rw [K2']; exact B, by rw [K2']; exact V, (K2 _).trans hM, (K2 _).trans hT, L.1, by rw [gI_wrI_ne _ _ _ (by decide)]; exact L.2.1, fun i r hi j hj => by rw [gI_wrI_ne _ _ _ (by decide)]; exact L.2.2 i r hi j hj⟩
  have k1 := mday79 d (h := wrI (sI (sI h 100 59 (nI x)) 100 58 (nI np)) am_aside (fun i => 7 * 0 + i) (gI h 102) 7) (US := US) hp ht (by rw [gI_wrI_ne _ _ _ (by decide)]; exact gI_hit _ _ _ _) (nI x) hN (dyS fl np nt N (gI h 102, x, 0)) (P := fun r h' => ∃ g, Fr dzX (wrI (sI (sI h 100 59 (nI x)) 100 58 (nI np)) am_aside (fun i => 7 * 0 + i) (gI h 102) 7) g ∧ (∃ y, dyS fl np nt N (gI h 102, x, 0) = (gI g 102, y)) ∧ r = some (.int (nI (dyS fl np nt N (gI h 102, x, 0)).2.2)) ∧ h' = sI (wrI (wrI g 128 (fun i => i) (gI g 102) 7) 102 (fun i => i) (fun i => gI (wrI g 128 (fun i => i) (gI g 102) 7) am_aside (7 * 0 + i)) 7) aM fm_status (nI 0)) (fun g y c i a5 a6 Ag Fg eg => Rp.mono (fun r h' z => ⟨g, Fg, ⟨(y, c), eg⟩, by rw [eg]; exact z.1, z.2⟩) (mday162 (d + 77) Ag.1 Ag.2.1 (nI x) (nI N) (nI c) (nI i) a5 a6)) N 0 _ x 0 m none none (by omega) (Nat.le_refl _) A2 Fr.rfl' (by rw [gI_wrI_ne _ _ _ (by decide)]; rfl) (by omega) ((K2 6).trans e6) hm (by rw [K2'])
  refine Rp.iload_n dX12_days_0 rfl ?_
  refine Rp.iconst (nI 0) dX12_days_1 (by decide) ?_
  refine Rp.ldc dX12_days_2 kc_X12_192 ?_
  refine Rp.callS3 M_X12_lies dX12_days_4 mo_X12_lies lk_X12_117 (Nat.le_of_ble_eq_true rfl) (Nat.le_of_ble_eq_true rfl) (s_lies (d + 77) h (nI x) (nI 0) 1000000) (fun v1 h1 p1 x1 => ?_)
  rw [p1.1, p1.2, e1]
  try dsimp only [Option.toList, List.cons_append, List.nil_append, List.append]
  first | ((with_reducible show Rp _ _ _ _ (.int (b2i _) :: _) _ _); refine Rp.if_eqB (tgt := 20) dX12_days_7 (by decide) (fun c7 => ?_) (fun c7 => ?_)) | ((with_reducible show Rp _ _ _ _ (.int (nI _) :: _) _ _); refine Rp.if_eqN (tgt := 20) dX12_days_7 (by decide) (by omega) (fun c7 => ?_) (fun c7 => ?_)) | refine Rp.if_eq (tgt := 20) dX12_days_7 (by decide) (fun c7 => ?_) (fun c7 => ?_)
  · skip
    cases c7
  · skip
    refine Rp.iload_n dX12_days_10 rfl ?_
    refine Rp.iconst (nI 1) dX12_days_11 (by decide) ?_
    refine Rp.bipush (nI 60) dX12_days_12 (by decide) ?_
    refine Rp.callS3 M_X12_lies dX12_days_14 mo_X12_lies lk_X12_117 (Nat.le_of_ble_eq_true rfl) (Nat.le_of_ble_eq_true rfl) (s_lies (d + 77) h (nI N) (nI 1) (nI 60)) (fun v1 h1 p1 x1 => ?_)
    rw [p1.1, p1.2, e2]
    try dsimp only [Option.toList, List.cons_append, List.nil_append, List.append]
    first | ((with_reducible show Rp _ _ _ _ (.int (b2i _) :: _) _ _); refine Rp.if_neB (tgt := 26) dX12_days_17 (by decide) (fun c17 => ?_) (fun c17 => ?_)) | ((with_reducible show Rp _ _ _ _ (.int (nI _) :: _) _ _); refine Rp.if_neN (tgt := 26) dX12_days_17 (by decide) (by omega) (fun c17 => ?_) (fun c17 => ?_)) | refine Rp.if_ne (tgt := 26) dX12_days_17 (by decide) (fun c17 => ?_) (fun c17 => ?_)
    · skip
      refine Rp.aload_n dX12_days_26 rfl rfl ?_
      refine Rp.getR dX12_days_27 fk_X12_24 rfl (S _ _ rfl) (R _ _ _ rfl) ?_
      refine Rp.bipush (nI 103) dX12_days_30 (by decide) ?_
      first | ((with_reducible show Rp _ _ _ _ (.int (nI _) :: _) _ _); refine Rp.ialoadN dX12_days_32 (S _ _ rfl) (by omega) ?_) | refine Rp.iaload dX12_days_32 (S _ _ rfl) (by first | assumption | exact vpb (by decide)) ?_
      first | rw [hM] | rw [hT] | skip
      first | ((with_reducible show Rp _ _ _ _ (.int (b2i _) :: _) _ _); refine Rp.if_eqB (tgt := 46) dX12_days_33 (by decide) (fun c33 => ?_) (fun c33 => ?_)) | ((with_reducible show Rp _ _ _ _ (.int (nI _) :: _) _ _); refine Rp.if_eqN (tgt := 46) dX12_days_33 (by decide) (by omega) (fun c33 => ?_) (fun c33 => ?_)) | refine Rp.if_eq (tgt := 46) dX12_days_33 (by decide) (fun c33 => ?_) (fun c33 => ?_)
      · skip
        first | (exfalso; omega) | exact absurd c33 (by decide) | exact absurd (by decide) c33
      · skip
        refine Rp.aload_n dX12_days_36 rfl rfl ?_
        refine Rp.getR dX12_days_37 fk_X12_24 rfl (S _ _ rfl) (R _ _ _ rfl) ?_
        refine Rp.bipush (nI 104) dX12_days_40 (by decide) ?_
        first | ((with_reducible show Rp _ _ _ _ (.int (nI _) :: _) _ _); refine Rp.ialoadN dX12_days_42 (S _ _ rfl) (by omega) ?_) | refine Rp.iaload dX12_days_42 (S _ _ rfl) (by first | assumption | exact vpb (by decide)) ?_
        first | rw [hM] | rw [hT] | skip
        first | ((with_reducible show Rp _ _ _ _ (.int (b2i _) :: _) _ _); refine Rp.if_neB (tgt := 53) dX12_days_43 (by decide) (fun c43 => ?_) (fun c43 => ?_)) | ((with_reducible show Rp _ _ _ _ (.int (nI _) :: _) _ _); refine Rp.if_neN (tgt := 53) dX12_days_43 (by decide) (by omega) (fun c43 => ?_) (fun c43 => ?_)) | refine Rp.if_ne (tgt := 53) dX12_days_43 (by decide) (fun c43 => ?_) (fun c43 => ?_)
        · skip
          refine Rp.aload_n dX12_days_53 rfl rfl ?_
          refine Rp.iload_n dX12_days_54 rfl ?_
          refine Rp.putI dX12_days_55 fk_X12_515w rfl (S _ _ rfl) ?_
          refine Rp.aload_n dX12_days_58 rfl rfl ?_
          refine Rp.aload_n dX12_days_59 rfl rfl ?_
          refine Rp.getR dX12_days_60 fk_X12_24 rfl (S _ _ rfl) (R _ _ _ rfl) ?_
          refine Rp.bipush (nI 103) dX12_days_63 (by decide) ?_
          first | ((with_reducible show Rp _ _ _ _ (.int (nI _) :: _) _ _); refine Rp.ialoadN dX12_days_65 (S _ _ rfl) (by omega) ?_) | refine Rp.iaload dX12_days_65 (S _ _ rfl) (by first | assumption | exact vpb (by decide)) ?_
          first | rw [hM] | rw [hT] | skip
          rw [show gI (sI h 100 59 (nI x)) 102 103 = nI np from hM]
          refine Rp.putI dX12_days_66 fk_X12_114w rfl (S _ _ rfl) ?_
          refine Rp.aload_n dX12_days_69 rfl rfl ?_
          refine Rp.iconst (nI 0) dX12_days_70 (by decide) ?_
          refine Rp.callV1 M_X12_laysAside (ci := 12) dX12_days_71 mo_X12_laysAside lk_X12_426 (by decide) rfl rfl (S1 _ _ rfl) (Nat.le_of_ble_eq_true rfl) (Nat.le_of_ble_eq_true rfl) (la) (fun v1 h1 p1 x1 => ?_)
          rw [p1.1, p1.2]
          try dsimp only [Option.toList, List.cons_append, List.nil_append, List.append]
          refine Rp.iconst (nI 0) dX12_days_74 (by decide) ?_
          refine Rp.ist3 dX12_days_75 (by first | exact nl2_some rfl | exact nl2_none) (by decide) ?_
          refine Rp.iconst (nI 0) dX12_days_76 (by decide) ?_
          refine Rp.ist4 dX12_days_77 (by first | exact nl2_some rfl | exact nl2_none) (by decide) ?_
          exact k1
        · skip
          first | (exfalso; omega) | exact absurd c43 (by decide) | exact absurd (by decide) c43
    · skip
      cases c17
end Dk
