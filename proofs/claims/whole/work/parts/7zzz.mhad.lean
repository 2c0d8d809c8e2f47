section Mh
variable (d : Nat) {h : AH} {K : Nat → Int32} {fl : Option (List CLE)} {np nt nd no : Nat} {W : Nat → Int32}
theorem allSo12 {s : DS} {n : Nat} (S : ShOK h) (R : RfOK h) (hK : ∀ j, 6 ≤ j → gI h 102 j = K j) (hno : K 106 = nI no) (VTt : VT K no) (Y : ∀ p, p < 6 → gI h 116 p = s.2.2.1 p) : ∀ (m k : Nat), k + m = no → Rp (d + 1) M_X12_isAllSo 12 [some (.ref aM), some (.int (b2i (tdB K s k))), some (.int (nI k))] [] h (fun r h' => h' = h ∧ r = some (.int (b2i (tdB K s no)))) := by
  have n6 := VTt.1
  have e106 : gI h 102 106 = nI no := (hK 106 (by decide)).trans hno
  intro m
  induction m with
  | zero =>
    intro k hm
    have e : k = no := by omega
    subst e
    refine Rp.iload_n dX12_isAllSo_12 rfl ?_
    refine Rp.aload_n dX12_isAllSo_13 rfl rfl ?_
    refine Rp.getR dX12_isAllSo_14 fk_X12_24 rfl (S _ _ rfl) (R _ _ _ rfl) ?_
    refine Rp.bipush (nI 106) dX12_isAllSo_17 (by decide) ?_
    first | ((with_reducible show Rp _ _ _ _ (.int (nI _) :: _) _ _); refine Rp.ialoadN dX12_isAllSo_19 (S _ _ rfl) (by omega) ?_) | refine Rp.iaload dX12_isAllSo_19 (S _ _ rfl) (by first | assumption | exact vpb (by decide)) ?_
    first | rw [e106] | skip
    first | ((with_reducible show Rp _ _ _ _ (.int (nI _) :: .int (nI _) :: _) _ _); refine Rp.icmp_geN (tgt := 71) dX12_isAllSo_20 (by decide) (by omega) (fun c20 => ?_) (fun c20 => ?_)) | refine Rp.icmp_ge (tgt := 71) dX12_isAllSo_20 (by decide) (fun c20 => ?_) (fun c20 => ?_)
    · skip
      refine Rp.iload_n dX12_isAllSo_71 rfl ?_
      refine Rp.zreturn dX12_isAllSo_72 rfl (b2i_01 _) ?_
      exact ⟨rfl, rfl⟩
    · skip
      first | (exfalso; omega) | exact absurd c20 (by decide) | exact absurd (by decide) c20
  | succ m ih =>
    intro k hm
    obtain ⟨q, hq, eq⟩ := VTt.2 k (by omega)
    have ea : gI h 102 (89 + 2 * k) = nI q := (hK _ (by omega)).trans eq
    have eb : gI h 102 (89 + 2 * k + 1) = K (90 + 2 * k) := by rw [hK _ (by omega), show 89 + 2 * k + 1 = 90 + 2 * k by omega]
    have ed : gI h 116 q = s.2.2.1 q := Y q hq
    have k1 := ih (k + 1) (by omega)
    cases ht : tdB K s k
    · rw [show tdB K s (k + 1) = false by rw [tdB, ht]; rfl] at k1
      refine Rp.iload_n dX12_isAllSo_12 rfl ?_
      refine Rp.aload_n dX12_isAllSo_13 rfl rfl ?_
      refine Rp.getR dX12_isAllSo_14 fk_X12_24 rfl (S _ _ rfl) (R _ _ _ rfl) ?_
      refine Rp.bipush (nI 106) dX12_isAllSo_17 (by decide) ?_
      first | ((with_reducible show Rp _ _ _ _ (.int (nI _) :: _) _ _); refine Rp.ialoadN dX12_isAllSo_19 (S _ _ rfl) (by omega) ?_) | refine Rp.iaload dX12_isAllSo_19 (S _ _ rfl) (by first | assumption | exact vpb (by decide)) ?_
      first | rw [e106] | skip
      first | ((with_reducible show Rp _ _ _ _ (.int (nI _) :: .int (nI _) :: _) _ _); refine Rp.icmp_geN (tgt := 71) dX12_isAllSo_20 (by decide) (by omega) (fun c20 => ?_) (fun c20 => ?_)) | refine Rp.icmp_ge (tgt := 71) dX12_isAllSo_20 (by decide) (fun c20 => ?_) (fun c20 => ?_)
      · skip
        first | (exfalso; omega) | exact absurd c20 (by decide) | exact absurd (by decide) c20
      · skip
        refine Rp.iload_n dX12_isAllSo_23 rfl ?_
        first | ((with_reducible show Rp _ _ _ _ (.int (b2i _) :: _) _ _); refine Rp.if_eqB (tgt := 63) dX12_isAllSo_24 (by decide) (fun c24 => ?_) (fun c24 => ?_)) | ((with_reducible show Rp _ _ _ _ (.int (nI _) :: _) _ _); refine Rp.if_eqN (tgt := 63) dX12_isAllSo_24 (by decide) (by omega) (fun c24 => ?_) (fun c24 => ?_)) | refine Rp.if_eq (tgt := 63) dX12_isAllSo_24 (by decide) (fun c24 => ?_) (fun c24 => ?_)
        · skip
          refine Rp.iconst (nI 0) dX12_isAllSo_63 (by decide) ?_
          refine Rp.ist1 dX12_isAllSo_64 (by first | exact nl2_some rfl | exact nl2_none) (by decide) ?_
          first | ((with_reducible show Rp _ _ _ (_ :: _ :: some (.int (nI _)) :: _) _ _ _); refine Rp.inc2N (c := 1) dX12_isAllSo_65 (by first | exact nl2_some rfl | exact nl2_none) (by decide) ?_) | refine Rp.inc2 _ dX12_isAllSo_65 rfl (by first | exact nl2_some rfl | exact nl2_none) (by decide) ?_
          refine Rp.goto (tgt := 12) dX12_isAllSo_68 (by decide) ?_
          exact k1
        · skip
          cases c24
    · have ts : tdB K s (k + 1) = decide (s.2.2.1 q = K (90 + 2 * k)) := by rw [tdB, ht, Bool.true_and, eq, ix_nI (by omega)]
      by_cases c : s.2.2.1 q = K (90 + 2 * k)
      · rw [ts, decide_eq_true c] at k1
        refine Rp.iload_n dX12_isAllSo_12 rfl ?_
        refine Rp.aload_n dX12_isAllSo_13 rfl rfl ?_
        refine Rp.getR dX12_isAllSo_14 fk_X12_24 rfl (S _ _ rfl) (R _ _ _ rfl) ?_
        refine Rp.bipush (nI 106) dX12_isAllSo_17 (by decide) ?_
        first | ((with_reducible show Rp _ _ _ _ (.int (nI _) :: _) _ _); refine Rp.ialoadN dX12_isAllSo_19 (S _ _ rfl) (by omega) ?_) | refine Rp.iaload dX12_isAllSo_19 (S _ _ rfl) (by first | assumption | exact vpb (by decide)) ?_
        first | rw [e106] | rw [ea] | rw [ed] | rw [eb] | skip
        first | ((with_reducible show Rp _ _ _ _ (.int (nI _) :: .int (nI _) :: _) _ _); refine Rp.icmp_geN (tgt := 71) dX12_isAllSo_20 (by decide) (by omega) (fun c20 => ?_) (fun c20 => ?_)) | refine Rp.icmp_ge (tgt := 71) dX12_isAllSo_20 (by decide) (fun c20 => ?_) (fun c20 => ?_)
        · skip
          first | (exfalso; omega) | exact absurd c20 (by decide) | exact absurd (by decide) c20
        · skip
          refine Rp.iload_n dX12_isAllSo_23 rfl ?_
          first | ((with_reducible show Rp _ _ _ _ (.int (b2i _) :: _) _ _); refine Rp.if_eqB (tgt := 63) dX12_isAllSo_24 (by decide) (fun c24 => ?_) (fun c24 => ?_)) | ((with_reducible show Rp _ _ _ _ (.int (nI _) :: _) _ _); refine Rp.if_eqN (tgt := 63) dX12_isAllSo_24 (by decide) (by omega) (fun c24 => ?_) (fun c24 => ?_)) | refine Rp.if_eq (tgt := 63) dX12_isAllSo_24 (by decide) (fun c24 => ?_) (fun c24 => ?_)
          · skip
            cases c24
          · skip
            refine Rp.aload_n dX12_isAllSo_27 rfl rfl ?_
            refine Rp.getR dX12_isAllSo_28 fk_X12_71 rfl (S _ _ rfl) (R _ _ _ rfl) ?_
            refine Rp.aload_n dX12_isAllSo_31 rfl rfl ?_
            refine Rp.getR dX12_isAllSo_32 fk_X12_24 rfl (S _ _ rfl) (R _ _ _ rfl) ?_
            refine Rp.bipush (nI 89) dX12_isAllSo_35 (by decide) ?_
            refine Rp.iconst (nI 2) dX12_isAllSo_37 (by decide) ?_
            refine Rp.iload_n dX12_isAllSo_38 rfl ?_
            first | ((with_reducible show Rp _ _ _ _ (.int (nI _) :: .int (nI _) :: _) _ _); refine Rp.imulN dX12_isAllSo_39 ?_) | refine Rp.imul dX12_isAllSo_39 ?_
            first | ((with_reducible show Rp _ _ _ _ (.int (nI _) :: .int (nI _) :: _) _ _); refine Rp.iaddN dX12_isAllSo_40 ?_) | refine Rp.iadd dX12_isAllSo_40 ?_
            first | ((with_reducible show Rp _ _ _ _ (.int (nI _) :: _) _ _); refine Rp.ialoadN dX12_isAllSo_41 (S _ _ rfl) (by omega) ?_) | refine Rp.iaload dX12_isAllSo_41 (S _ _ rfl) (by first | assumption | exact vpb (by decide)) ?_
            first | rw [e106] | rw [ea] | rw [ed] | rw [eb] | skip
            first | ((with_reducible show Rp _ _ _ _ (.int (nI _) :: _) _ _); refine Rp.ialoadN dX12_isAllSo_42 (S _ _ rfl) (by omega) ?_) | refine Rp.iaload dX12_isAllSo_42 (S _ _ rfl) (by first | assumption | exact vpb (by decide)) ?_
            first | rw [e106] | rw [ea] | rw [ed] | rw [eb] | skip
            refine Rp.aload_n dX12_isAllSo_43 rfl rfl ?_
            refine Rp.getR dX12_isAllSo_44 fk_X12_24 rfl (S _ _ rfl) (R _ _ _ rfl) ?_
            refine Rp.bipush (nI 89) dX12_isAllSo_47 (by decide) ?_
            refine Rp.iconst (nI 2) dX12_isAllSo_49 (by decide) ?_
            refine Rp.iload_n dX12_isAllSo_50 rfl ?_
            first | ((with_reducible show Rp _ _ _ _ (.int (nI _) :: .int (nI _) :: _) _ _); refine Rp.imulN dX12_isAllSo_51 ?_) | refine Rp.imul dX12_isAllSo_51 ?_
            first | ((with_reducible show Rp _ _ _ _ (.int (nI _) :: .int (nI _) :: _) _ _); refine Rp.iaddN dX12_isAllSo_52 ?_) | refine Rp.iadd dX12_isAllSo_52 ?_
            refine Rp.iconst (nI 1) dX12_isAllSo_53 (by decide) ?_
            first | ((with_reducible show Rp _ _ _ _ (.int (nI _) :: .int (nI _) :: _) _ _); refine Rp.iaddN dX12_isAllSo_54 ?_) | refine Rp.iadd dX12_isAllSo_54 ?_
            first | ((with_reducible show Rp _ _ _ _ (.int (nI _) :: _) _ _); refine Rp.ialoadN dX12_isAllSo_55 (S _ _ rfl) (by omega) ?_) | refine Rp.iaload dX12_isAllSo_55 (S _ _ rfl) (by first | assumption | exact vpb (by decide)) ?_
            first | rw [e106] | rw [ea] | rw [ed] | rw [eb] | skip
            first | ((with_reducible show Rp _ _ _ _ (.int (nI _) :: .int (nI _) :: _) _ _); refine Rp.icmp_neN (tgt := 63) dX12_isAllSo_56 (by decide) (by omega) (fun c56 => ?_) (fun c56 => ?_)) | refine Rp.icmp_ne (tgt := 63) dX12_isAllSo_56 (by decide) (fun c56 => ?_) (fun c56 => ?_)
            · skip
              exact absurd c c56
            · skip
              refine Rp.iconst (nI 1) dX12_isAllSo_59 (by decide) ?_
              refine Rp.goto (tgt := 64) dX12_isAllSo_60 (by decide) ?_
              refine Rp.ist1 dX12_isAllSo_64 (by first | exact nl2_some rfl | exact nl2_none) (by decide) ?_
              first | ((with_reducible show Rp _ _ _ (_ :: _ :: some (.int (nI _)) :: _) _ _ _); refine Rp.inc2N (c := 1) dX12_isAllSo_65 (by first | exact nl2_some rfl | exact nl2_none) (by decide) ?_) | refine Rp.inc2 _ dX12_isAllSo_65 rfl (by first | exact nl2_some rfl | exact nl2_none) (by decide) ?_
              refine Rp.goto (tgt := 12) dX12_isAllSo_68 (by decide) ?_
              exact k1
      · rw [ts, decide_eq_false c] at k1
        refine Rp.iload_n dX12_isAllSo_12 rfl ?_
        refine Rp.aload_n dX12_isAllSo_13 rfl rfl ?_
        refine Rp.getR dX12_isAllSo_14 fk_X12_24 rfl (S _ _ rfl) (R _ _ _ rfl) ?_
        refine Rp.bipush (nI 106) dX12_isAllSo_17 (by decide) ?_
        first | ((with_reducible show Rp _ _ _ _ (.int (nI _) :: _) _ _); refine Rp.ialoadN dX12_isAllSo_19 (S _ _ rfl) (by omega) ?_) | refine Rp.iaload dX12_isAllSo_19 (S _ _ rfl) (by first | assumption | exact vpb (by decide)) ?_
        first | rw [e106] | rw [ea] | rw [ed] | rw [eb] | skip
        first | ((with_reducible show Rp _ _ _ _ (.int (nI _) :: .int (nI _) :: _) _ _); refine Rp.icmp_geN (tgt := 71) dX12_isAllSo_20 (by decide) (by omega) (fun c20 => ?_) (fun c20 => ?_)) | refine Rp.icmp_ge (tgt := 71) dX12_isAllSo_20 (by decide) (fun c20 => ?_) (fun c20 => ?_)
        · skip
          first | (exfalso; omega) | exact absurd c20 (by decide) | exact absurd (by decide) c20
        · skip
          refine Rp.iload_n dX12_isAllSo_23 rfl ?_
          first | ((with_reducible show Rp _ _ _ _ (.int (b2i _) :: _) _ _); refine Rp.if_eqB (tgt := 63) dX12_isAllSo_24 (by decide) (fun c24 => ?_) (fun c24 => ?_)) | ((with_reducible show Rp _ _ _ _ (.int (nI _) :: _) _ _); refine Rp.if_eqN (tgt := 63) dX12_isAllSo_24 (by decide) (by omega) (fun c24 => ?_) (fun c24 => ?_)) | refine Rp.if_eq (tgt := 63) dX12_isAllSo_24 (by decide) (fun c24 => ?_) (fun c24 => ?_)
          · skip
            cases c24
          · skip
            refine Rp.aload_n dX12_isAllSo_27 rfl rfl ?_
            refine Rp.getR dX12_isAllSo_28 fk_X12_71 rfl (S _ _ rfl) (R _ _ _ rfl) ?_
            refine Rp.aload_n dX12_isAllSo_31 rfl rfl ?_
            refine Rp.getR dX12_isAllSo_32 fk_X12_24 rfl (S _ _ rfl) (R _ _ _ rfl) ?_
            refine Rp.bipush (nI 89) dX12_isAllSo_35 (by decide) ?_
            refine Rp.iconst (nI 2) dX12_isAllSo_37 (by decide) ?_
            refine Rp.iload_n dX12_isAllSo_38 rfl ?_
            first | ((with_reducible show Rp _ _ _ _ (.int (nI _) :: .int (nI _) :: _) _ _); refine Rp.imulN dX12_isAllSo_39 ?_) | refine Rp.imul dX12_isAllSo_39 ?_
            first | ((with_reducible show Rp _ _ _ _ (.int (nI _) :: .int (nI _) :: _) _ _); refine Rp.iaddN dX12_isAllSo_40 ?_) | refine Rp.iadd dX12_isAllSo_40 ?_
            first | ((with_reducible show Rp _ _ _ _ (.int (nI _) :: _) _ _); refine Rp.ialoadN dX12_isAllSo_41 (S _ _ rfl) (by omega) ?_) | refine Rp.iaload dX12_isAllSo_41 (S _ _ rfl) (by first | assumption | exact vpb (by decide)) ?_
            first | rw [e106] | rw [ea] | rw [ed] | rw [eb] | skip
            first | ((with_reducible show Rp _ _ _ _ (.int (nI _) :: _) _ _); refine Rp.ialoadN dX12_isAllSo_42 (S _ _ rfl) (by omega) ?_) | refine Rp.iaload dX12_isAllSo_42 (S _ _ rfl) (by first | assumption | exact vpb (by decide)) ?_
            first | rw [e106] | rw [ea] | rw [ed] | rw [eb] | skip
            refine Rp.aload_n dX12_isAllSo_43 rfl rfl ?_
            refine Rp.getR dX12_isAllSo_44 fk_X12_24 rfl (S _ _ rfl) (R _ _ _ rfl) ?_
            refine Rp.bipush (nI 89) dX12_isAllSo_47 (by decide) ?_
            refine Rp.iconst (nI 2) dX12_isAllSo_49 (by decide) ?_
            refine Rp.iload_n dX12_isAllSo_50 rfl ?_
            first | ((with_reducible show Rp _ _ _ _ (.int (nI _) :: .int (nI _) :: _) _ _); refine Rp.imulN dX12_isAllSo_51 ?_) | refine Rp.imul dX12_isAllSo_51 ?_
            first | ((with_reducible show Rp _ _ _ _ (.int (nI _) :: .int (nI _) :: _) _ _); refine Rp.iaddN dX12_isAllSo_52 ?_) | refine Rp.iadd dX12_isAllSo_52 ?_
            refine Rp.iconst (nI 1) dX12_isAllSo_53 (by decide) ?_
            first | ((with_reducible show Rp _ _ _ _ (.int (nI _) :: .int (nI _) :: _) _ _); refine Rp.iaddN dX12_isAllSo_54 ?_) | refine Rp.iadd dX12_isAllSo_54 ?_
            first | ((with_reducible show Rp _ _ _ _ (.int (nI _) :: _) _ _); refine Rp.ialoadN dX12_isAllSo_55 (S _ _ rfl) (by omega) ?_) | refine Rp.iaload dX12_isAllSo_55 (S _ _ rfl) (by first | assumption | exact vpb (by decide)) ?_
            first | rw [e106] | rw [ea] | rw [ed] | rw [eb] | skip
            first | ((with_reducible show Rp _ _ _ _ (.int (nI _) :: .int (nI _) :: _) _ _); refine Rp.icmp_neN (tgt := 63) dX12_isAllSo_56 (by decide) (by omega) (fun c56 => ?_) (fun c56 => ?_)) | refine Rp.icmp_ne (tgt := 63) dX12_isAllSo_56 (by decide) (fun c56 => ?_) (fun c56 => ?_)
            · skip
              refine Rp.iconst (nI 0) dX12_isAllSo_63 (by decide) ?_
              refine Rp.ist1 dX12_isAllSo_64 (by first | exact nl2_some rfl | exact nl2_none) (by decide) ?_
              first | ((with_reducible show Rp _ _ _ (_ :: _ :: some (.int (nI _)) :: _) _ _ _); refine Rp.inc2N (c := 1) dX12_isAllSo_65 (by first | exact nl2_some rfl | exact nl2_none) (by decide) ?_) | refine Rp.inc2 _ dX12_isAllSo_65 rfl (by first | exact nl2_some rfl | exact nl2_none) (by decide) ?_
              refine Rp.goto (tgt := 12) dX12_isAllSo_68 (by decide) ?_
              exact k1
            · skip
              exact absurd c56 c
theorem s_isAllSo (A : MBd h fl np nt nd) (hK : gI h 102 = mixK W K) (hno : K 106 = nI no) (VTt : VT K no) : Rp (d + 78) M_X12_isAllSo 0 [some (.ref aM), none, none] [] h (fun r h' => Fr mdX h h' ∧ r = some (.int (b2i (tdW K fl nd np nt no W)))) := by
  obtain ⟨S, R, hF, B, VDd, hD, VNn, V, hM⟩ := id A
  have v1 := V.1
  have hi6 : ∀ j, 6 ≤ j → mixK W K j = K j := fun j hj => mixK_hi hj
  have ad := s_allDesks (d + 77) S R hD
  have ld := s_laysDay d (st := fun _ => true) A (op := adI nd) (adI_b VDd.1)
  rw [show gI h am_kept = mixK W K from hK, dayF_congr (K := mixK W K) (K' := K) hi6 fl nd np nt _ (hs := mixK W K) (hs' := W) (fun p hp => mixK_lo (by omega)) 100] at ld
  refine Rp.aload_n dX12_isAllSo_0 rfl rfl ?_
  refine Rp.aload_n dX12_isAllSo_1 rfl rfl ?_
  refine Rp.callV0 M_X12_allDesks (ci := 12) dX12_isAllSo_2 mo_X12_allDesks lk_X12_393 (by decide) rfl rfl (S _ _ rfl) (Nat.le_of_ble_eq_true rfl) (Nat.le_of_ble_eq_true rfl) (ad) (fun v1 h1 p1 x1 => ?_)
  rw [p1.1, p1.2]
  try dsimp only [Option.toList, List.cons_append, List.nil_append, List.append]
  refine Rp.callV1 M_X12_laysDay (ci := 12) dX12_isAllSo_5 mo_X12_laysDay lk_X12_396 (by decide) rfl rfl (S _ _ rfl) (Nat.le_of_ble_eq_true rfl) (Nat.le_of_ble_eq_true rfl) (ld) (fun v1 h1 p1 x1 => ?_)
  obtain ⟨rfl, F1, Y1⟩ := p1
  try dsimp only [Option.toList, List.cons_append, List.nil_append, List.append]
  skip
  have S1 := F1.S S
  have R1 := F1.R R (by decide)
  have k12 := allSo12 (d + 77) (K := K) (n := 0) S1 R1 (fun j hj => by rw [F1.k102, hK]; exact hi6 j hj) hno VTt Y1.2.2.1 no 0 (by omega)
  have k12 := Rp.mono (Q := fun r h' => Fr mdX h h' ∧ r = some (.int (b2i (tdW K fl nd np nt no W)))) (fun r h' z => ⟨by rw [z.1]; exact F1, z.2⟩) k12
  refine Rp.iconst (nI 1) dX12_isAllSo_8 (by decide) ?_
  refine Rp.ist1 dX12_isAllSo_9 (by first | exact nl2_some rfl | exact nl2_none) (by decide) ?_
  refine Rp.iconst (nI 0) dX12_isAllSo_10 (by decide) ?_
  refine Rp.ist2 dX12_isAllSo_11 (by first | exact nl2_some rfl | exact nl2_none) (by decide) ?_
  exact k12
end Mh
/-- the ways found so far, in the reference -/
def RMw (wi : Int32) (g : AH) (L : List (Nat → Int32)) : Prop := gI g 100 45 = nI L.length ∧ gI g 100 46 = wi ∧ (∀ n W, L[n]? = some W → nI n = wi → ∀ p, p < 6 → gI g 124 p = W p) ∧ ∀ p t, p < 6 → t < 8 → gI g 125 (8 * p + t) = nI (cnW p t L)
theorem RMw.fr {X : Nat → Nat → Bool} {wi : Int32} {g g' : AH} {L : List (Nat → Int32)} (H : RMw wi g L) (F : Fr X g g') (h45 : X 100 45 = false) (h46 : X 100 46 = false) (h124 : ∀ j, X 124 j = false) (h125 : ∀ j, X 125 j = false) : RMw wi g' L := ⟨(F.I _ _ h45).trans H.1, (F.I _ _ h46).trans H.2.1, fun n W hn e p hp => (F.I _ _ (h124 _)).trans (H.2.2.1 n W hn e p hp), fun p t hp ht => (F.I _ _ (h125 _)).trans (H.2.2.2 p t hp ht)⟩
def mwX (k j : Nat) : Bool := (k == 100 && j == 45) || ((k == 124 && decide (j < 6)) || (k == 125 && decide (j < 48)))
def mhX (k j : Nat) : Bool := mdX k j || mwX k j
theorem mhX_d {h g : AH} (F : Fr mdX h g) : Fr mhX h g := F.weak (fun k j hx => by unfold mhX at hx; rw [Bool.or_eq_false_iff] at hx; exact hx.1)
theorem mhX_w {h g : AH} (F : Fr mwX h g) : Fr mhX h g := F.weak (fun k j hx => by unfold mhX at hx; rw [Bool.or_eq_false_iff] at hx; exact hx.2)
section Mc
variable (d : Nat) {h : AH} {K : Nat → Int32} {fl : Option (List CLE)} {np nt nd no : Nat} {W : Nat → Int32} {wi : Int32} {L : List (Nat → Int32)}
/-- halfway through counting a way: those below p are counted -/
def CwI (g : AH) (wi : Int32) (L : List (Nat → Int32)) (W : Nat → Int32) (p : Nat) : Prop := gI g 100 45 = nI L.length ∧ gI g 100 46 = wi ∧ (∀ n W', L[n]? = some W' → nI n = wi → ∀ q, q < 6 → gI g 124 q = W' q) ∧ (nI L.length = wi → ∀ q, q < p → gI g 124 q = W q) ∧ ∀ q t, q < 6 → t < 8 → gI g 125 (8 * q + t) = nI (cnW q t L + if q < p ∧ W q = nI t then 1 else 0)
theorem counts10 (S0 : ShOK h) (R0 : RfOK h) (V : VH W np nt) (hK : ∀ q, q < 6 → gI h 102 q = W q) (hL : L.length < 720) {P : Option Value → AH → Prop} (kk : ∀ g, Fr mwX h g → CwI g wi L W 6 → Rp d M_X12_countsWay 81 [some (.ref aM), some (.int (nI 6))] [] g P) : ∀ (m p : Nat) (g : AH), p + m = 6 → Fr mwX h g → CwI g wi L W p → Rp d M_X12_countsWay 10 [some (.ref aM), some (.int (nI p))] [] g P := by
  have v2 := V.2.1
  intro m
  induction m with
  | zero =>
    intro p g hm F I
    have e : p = 6 := by omega
    subst e
    have k1 := kk g F I
    refine Rp.iload_n dX12_countsWay_10 rfl ?_
    refine Rp.bipush (nI 6) dX12_countsWay_11 (by decide) ?_
    first | ((with_reducible show Rp _ _ _ _ (.int (nI _) :: .int (nI _) :: _) _ _); refine Rp.icmp_geN (tgt := 81) dX12_countsWay_13 (by decide) (by omega) (fun c13 => ?_) (fun c13 => ?_)) | refine Rp.icmp_ge (tgt := 81) dX12_countsWay_13 (by decide) (fun c13 => ?_) (fun c13 => ?_)
    · skip
      exact k1
    · skip
      first | (exfalso; omega) | exact absurd c13 (by decide) | exact absurd (by decide) c13
  | succ m ih =>
    intro p g hm F I
    obtain ⟨i45, i46, i3, i4, i5⟩ := id I
    have ek : ∀ x : AH, Fr mwX h x → gI x 102 p = W p := fun x Fx => (Fx.I 102 p rfl).trans (hK p (by omega))
    -- wayHas done: then given
    have k41 : ∀ g1, Fr mwX h g1 → gI g1 100 45 = nI L.length → gI g1 100 46 = wi → (∀ n W', L[n]? = some W' → nI n = wi → ∀ q, q < 6 → gI g1 124 q = W' q) → (nI L.length = wi → ∀ q, q < p + 1 → gI g1 124 q = W q) → (∀ q t, q < 6 → t < 8 → gI g1 125 (8 * q + t) = nI (cnW q t L + if q < p ∧ W q = nI t then 1 else 0)) → Rp d M_X12_countsWay 41 [some (.ref aM), some (.int (nI p))] [] g1 P := by
      intro g1 F1 j45 j46 j3 j4 j5
      have S1 := F1.S S0
      have R1 := F1.R R0 (by decide)
      have ek1 := ek g1 F1
      rcases V.2.2.1 p (by omega) with e | ⟨-, t, ht, e⟩
      · have k1 := ih (p + 1) g1 (by omega) F1 ⟨j45, j46, j3, j4, fun q u hq hu => by
          rw [j5 q u hq hu]
          by_cases z : q = p
          · rw [if_neg (fun y => by omega), if_neg (fun y => by rw [z, e] at y; exact nI_m1 (by omega) y.2.symm)]
          · by_cases y : q < p ∧ W q = nI u
            · rw [if_pos y, if_pos ⟨by omega, y.2⟩]
            · rw [if_neg y, if_neg (fun x => y ⟨by omega, x.2⟩)]⟩
        refine Rp.aload_n dX12_countsWay_41 rfl rfl ?_
        refine Rp.getR dX12_countsWay_42 fk_X12_24 rfl (S1 _ _ rfl) (R1 _ _ _ rfl) ?_
        refine Rp.iconst (nI 0) dX12_countsWay_45 (by decide) ?_
        refine Rp.iload_n dX12_countsWay_46 rfl ?_
        first | ((with_reducible show Rp _ _ _ _ (.int (nI _) :: .int (nI _) :: _) _ _); refine Rp.iaddN dX12_countsWay_47 ?_) | refine Rp.iadd dX12_countsWay_47 ?_
        rw [Nat.zero_add]
        first | ((with_reducible show Rp _ _ _ _ (.int (nI _) :: _) _ _); refine Rp.ialoadN dX12_countsWay_48 (S1 _ _ rfl) (by omega) ?_) | refine Rp.iaload dX12_countsWay_48 (S1 _ _ rfl) (by first | assumption | exact vpb (by decide)) ?_
        first | rw [ek1] | skip
        refine Rp.iconst (-1) dX12_countsWay_49 (by decide) ?_
        first | ((with_reducible show Rp _ _ _ _ (.int (nI _) :: .int (nI _) :: _) _ _); refine Rp.icmp_eqN (tgt := 75) dX12_countsWay_50 (by decide) (by omega) (fun c50 => ?_) (fun c50 => ?_)) | refine Rp.icmp_eq (tgt := 75) dX12_countsWay_50 (by decide) (fun c50 => ?_) (fun c50 => ?_)
        · skip
          first | ((with_reducible show Rp _ _ _ (_ :: some (.int (nI _)) :: _) _ _ _); refine Rp.inc1N (c := 1) dX12_countsWay_75 (by first | exact nl2_some rfl | exact nl2_none) (by decide) ?_) | refine Rp.inc1 _ dX12_countsWay_75 rfl (by first | exact nl2_some rfl | exact nl2_none) (by decide) ?_
          refine Rp.goto (tgt := 10) dX12_countsWay_78 (by decide) ?_
          exact k1
        · skip
          exact absurd e c50
      · have en : ¬ W p = -1 := fun z => nI_m1 (by omega) (e.symm.trans z)
        have eg : gI g1 125 (8 * p + t) = nI (cnW p t L) := by rw [j5 p t (by omega) (by omega), if_neg (fun y => by omega), Nat.add_zero]
        have F2 : Fr mwX h (sI g1 125 (8 * p + t) (nI (cnW p t L + 1))) := F1.sI (by unfold mwX; rw [decide_eq_true (show 8 * p + t < 48 by omega)]; rfl)
        have k1 := ih (p + 1) (sI g1 125 (8 * p + t) (nI (cnW p t L + 1))) (by omega) F2 ⟨j45, j46, fun n W' a b q hq => j3 n W' a b q hq, fun a q hq => j4 a q hq, fun q u hq hu => by
          rw [gI_at]
          by_cases z : q = p ∧ u = t
          · rw [if_pos (by rw [z.1, z.2]), z.1, z.2, if_pos ⟨by omega, e⟩]
          · rw [if_neg (fun y => z (by omega)), j5 q u hq hu]
            by_cases y : q < p ∧ W q = nI u
            · rw [if_pos y, if_pos ⟨by omega, y.2⟩]
            · rw [if_neg y, if_neg (fun x => by
                by_cases qp : q = p
                · have e2 := x.2
                  rw [qp, e] at e2
                  exact z ⟨qp, (nI_inj (by omega) (by omega) e2).symm⟩
                · exact y ⟨by omega, x.2⟩)]⟩
        refine Rp.aload_n dX12_countsWay_41 rfl rfl ?_
        refine Rp.getR dX12_countsWay_42 fk_X12_24 rfl (S1 _ _ rfl) (R1 _ _ _ rfl) ?_
        refine Rp.iconst (nI 0) dX12_countsWay_45 (by decide) ?_
        refine Rp.iload_n dX12_countsWay_46 rfl ?_
        first | ((with_reducible show Rp _ _ _ _ (.int (nI _) :: .int (nI _) :: _) _ _); refine Rp.iaddN dX12_countsWay_47 ?_) | refine Rp.iadd dX12_countsWay_47 ?_
        rw [Nat.zero_add]
        first | ((with_reducible show Rp _ _ _ _ (.int (nI _) :: _) _ _); refine Rp.ialoadN dX12_countsWay_48 (S1 _ _ rfl) (by omega) ?_) | refine Rp.iaload dX12_countsWay_48 (S1 _ _ rfl) (by first | assumption | exact vpb (by decide)) ?_
        first | rw [ek1] | rw [eg] | skip
        refine Rp.iconst (-1) dX12_countsWay_49 (by decide) ?_
        first | ((with_reducible show Rp _ _ _ _ (.int (nI _) :: .int (nI _) :: _) _ _); refine Rp.icmp_eqN (tgt := 75) dX12_countsWay_50 (by decide) (by omega) (fun c50 => ?_) (fun c50 => ?_)) | refine Rp.icmp_eq (tgt := 75) dX12_countsWay_50 (by decide) (fun c50 => ?_) (fun c50 => ?_)
        · skip
          exact absurd c50 en
        · skip
          refine Rp.aload_n dX12_countsWay_53 rfl rfl ?_
          refine Rp.getR dX12_countsWay_54 fk_X12_98 rfl (S1 _ _ rfl) (R1 _ _ _ rfl) ?_
          refine Rp.bipush (nI 8) dX12_countsWay_57 (by decide) ?_
          refine Rp.iload_n dX12_countsWay_59 rfl ?_
          first | ((with_reducible show Rp _ _ _ _ (.int (nI _) :: .int (nI _) :: _) _ _); refine Rp.imulN dX12_countsWay_60 ?_) | refine Rp.imul dX12_countsWay_60 ?_
          refine Rp.aload_n dX12_countsWay_61 rfl rfl ?_
          refine Rp.getR dX12_countsWay_62 fk_X12_24 rfl (S1 _ _ rfl) (R1 _ _ _ rfl) ?_
          refine Rp.iconst (nI 0) dX12_countsWay_65 (by decide) ?_
          refine Rp.iload_n dX12_countsWay_66 rfl ?_
          first | ((with_reducible show Rp _ _ _ _ (.int (nI _) :: .int (nI _) :: _) _ _); refine Rp.iaddN dX12_countsWay_67 ?_) | refine Rp.iadd dX12_countsWay_67 ?_
          rw [Nat.zero_add]
          first | ((with_reducible show Rp _ _ _ _ (.int (nI _) :: _) _ _); refine Rp.ialoadN dX12_countsWay_68 (S1 _ _ rfl) (by omega) ?_) | refine Rp.iaload dX12_countsWay_68 (S1 _ _ rfl) (by first | assumption | exact vpb (by decide)) ?_
          first | rw [ek1] | rw [eg] | skip
          rw [e]
          first | ((with_reducible show Rp _ _ _ _ (.int (nI _) :: .int (nI _) :: _) _ _); refine Rp.iaddN dX12_countsWay_69 ?_) | refine Rp.iadd dX12_countsWay_69 ?_
          refine Rp.dup2 dX12_countsWay_70 rfl rfl ?_
          first | ((with_reducible show Rp _ _ _ _ (.int (nI _) :: _) _ _); refine Rp.ialoadN dX12_countsWay_71 (S1 _ _ rfl) (by omega) ?_) | refine Rp.iaload dX12_countsWay_71 (S1 _ _ rfl) (by first | assumption | exact vpb (by decide)) ?_
          first | rw [ek1] | rw [eg] | skip
          refine Rp.iconst (nI 1) dX12_countsWay_72 (by decide) ?_
          first | ((with_reducible show Rp _ _ _ _ (.int (nI _) :: .int (nI _) :: _) _ _); refine Rp.iaddN dX12_countsWay_73 ?_) | refine Rp.iadd dX12_countsWay_73 ?_
          first | ((with_reducible show Rp _ _ _ _ (_ :: .int (nI _) :: _) _ _); refine Rp.iastoreN dX12_countsWay_74 (S1 _ _ rfl) (by omega) ?_) | refine Rp.iastore dX12_countsWay_74 (S1 _ _ rfl) (by first | assumption | exact vpb (by decide)) ?_
          first | ((with_reducible show Rp _ _ _ (_ :: some (.int (nI _)) :: _) _ _ _); refine Rp.inc1N (c := 1) dX12_countsWay_75 (by first | exact nl2_some rfl | exact nl2_none) (by decide) ?_) | refine Rp.inc1 _ dX12_countsWay_75 rfl (by first | exact nl2_some rfl | exact nl2_none) (by decide) ?_
          refine Rp.goto (tgt := 10) dX12_countsWay_78 (by decide) ?_
          exact k1
    have S := F.S S0
    have R := F.R R0 (by decide)
    have ek0 := ek g F
    by_cases c : nI L.length = wi
    · have F1 : Fr mwX h (sI g 124 p (W p)) := F.sI (by unfold mwX; rw [decide_eq_true (show p < 6 by omega)]; rfl)
      have k1 := k41 (sI g 124 p (W p)) F1 i45 i46 (fun n W' a b q hq => absurd (nI_inj (by have := (List.getElem?_eq_some_iff.mp a).1; omega) (by omega) (b.trans c.symm)) (by have := (List.getElem?_eq_some_iff.mp a).1; omega)) (fun a q hq => by
        rw [gI_at]
        by_cases z : q = p
        · rw [if_pos z, z]
        · rw [if_neg z]; exact i4 a q (by omega)) (fun q t hq ht => i5 q t hq ht)
      refine Rp.iload_n dX12_countsWay_10 rfl ?_
      refine Rp.bipush (nI 6) dX12_countsWay_11 (by decide) ?_
      first | ((with_reducible show Rp _ _ _ _ (.int (nI _) :: .int (nI _) :: _) _ _); refine Rp.icmp_geN (tgt := 81) dX12_countsWay_13 (by decide) (by omega) (fun c13 => ?_) (fun c13 => ?_)) | refine Rp.icmp_ge (tgt := 81) dX12_countsWay_13 (by decide) (fun c13 => ?_) (fun c13 => ?_)
      · skip
        first | (exfalso; omega) | exact absurd c13 (by decide) | exact absurd (by decide) c13
      · skip
        refine Rp.aload_n dX12_countsWay_16 rfl rfl ?_
        refine Rp.getI dX12_countsWay_17 fk_X12_455 rfl (S _ _ rfl) ?_
        first | rw [i45] | rw [i46] | rw [ek0] | skip
        refine Rp.aload_n dX12_countsWay_20 rfl rfl ?_
        refine Rp.getI dX12_countsWay_21 fk_X12_458 rfl (S _ _ rfl) ?_
        first | rw [i45] | rw [i46] | rw [ek0] | skip
        first | ((with_reducible show Rp _ _ _ _ (.int (nI _) :: .int (nI _) :: _) _ _); refine Rp.icmp_neN (tgt := 41) dX12_countsWay_24 (by decide) (by omega) (fun c24 => ?_) (fun c24 => ?_)) | refine Rp.icmp_ne (tgt := 41) dX12_countsWay_24 (by decide) (fun c24 => ?_) (fun c24 => ?_)
        · skip
          exact absurd c c24
        · skip
          refine Rp.aload_n dX12_countsWay_27 rfl rfl ?_
          refine Rp.getR dX12_countsWay_28 fk_X12_95 rfl (S _ _ rfl) (R _ _ _ rfl) ?_
          refine Rp.iload_n dX12_countsWay_31 rfl ?_
          refine Rp.aload_n dX12_countsWay_32 rfl rfl ?_
          refine Rp.getR dX12_countsWay_33 fk_X12_24 rfl (S _ _ rfl) (R _ _ _ rfl) ?_
          refine Rp.iconst (nI 0) dX12_countsWay_36 (by decide) ?_
          refine Rp.iload_n dX12_countsWay_37 rfl ?_
          first | ((with_reducible show Rp _ _ _ _ (.int (nI _) :: .int (nI _) :: _) _ _); refine Rp.iaddN dX12_countsWay_38 ?_) | refine Rp.iadd dX12_countsWay_38 ?_
          rw [Nat.zero_add]
          first | ((with_reducible show Rp _ _ _ _ (.int (nI _) :: _) _ _); refine Rp.ialoadN dX12_countsWay_39 (S _ _ rfl) (by omega) ?_) | refine Rp.iaload dX12_countsWay_39 (S _ _ rfl) (by first | assumption | exact vpb (by decide)) ?_
          first | rw [i45] | rw [i46] | rw [ek0] | skip
          first | ((with_reducible show Rp _ _ _ _ (_ :: .int (nI _) :: _) _ _); refine Rp.iastoreN dX12_countsWay_40 (S _ _ rfl) (by omega) ?_) | refine Rp.iastore dX12_countsWay_40 (S _ _ rfl) (by first | assumption | exact vpb (by decide)) ?_
          exact k1
    · have k1 := k41 g F i45 i46 i3 (fun a => absurd a c) i5
      refine Rp.iload_n dX12_countsWay_10 rfl ?_
      refine Rp.bipush (nI 6) dX12_countsWay_11 (by decide) ?_
      first | ((with_reducible show Rp _ _ _ _ (.int (nI _) :: .int (nI _) :: _) _ _); refine Rp.icmp_geN (tgt := 81) dX12_countsWay_13 (by decide) (by omega) (fun c13 => ?_) (fun c13 => ?_)) | refine Rp.icmp_ge (tgt := 81) dX12_countsWay_13 (by decide) (fun c13 => ?_) (fun c13 => ?_)
      · skip
        first | (exfalso; omega) | exact absurd c13 (by decide) | exact absurd (by decide) c13
      · skip
        refine Rp.aload_n dX12_countsWay_16 rfl rfl ?_
        refine Rp.getI dX12_countsWay_17 fk_X12_455 rfl (S _ _ rfl) ?_
        first | rw [i45] | rw [i46] | rw [ek0] | skip
        refine Rp.aload_n dX12_countsWay_20 rfl rfl ?_
        refine Rp.getI dX12_countsWay_21 fk_X12_458 rfl (S _ _ rfl) ?_
        first | rw [i45] | rw [i46] | rw [ek0] | skip
        first | ((with_reducible show Rp _ _ _ _ (.int (nI _) :: .int (nI _) :: _) _ _); refine Rp.icmp_neN (tgt := 41) dX12_countsWay_24 (by decide) (by omega) (fun c24 => ?_) (fun c24 => ?_)) | refine Rp.icmp_ne (tgt := 41) dX12_countsWay_24 (by decide) (fun c24 => ?_) (fun c24 => ?_)
        · skip
          exact k1
        · skip
          exact absurd c24 c
theorem counts81 {g : AH} {n : Nat} {P : Option Value → AH → Prop} (S : ShOK g) (e : gI g 100 45 = nI n) (k1 : P none (sI g 100 45 (nI (n + 1)))) : Rp d M_X12_countsWay 81 [some (.ref aM), some (.int (nI 6))] [] g P := by
  refine Rp.aload_n dX12_countsWay_81 rfl rfl ?_
  refine Rp.dup dX12_countsWay_82 rfl ?_
  refine Rp.getI dX12_countsWay_83 fk_X12_455 rfl (S _ _ rfl) ?_
  first | rw [e] | skip
  refine Rp.iconst (nI 1) dX12_countsWay_86 (by decide) ?_
  first | ((with_reducible show Rp _ _ _ _ (.int (nI _) :: .int (nI _) :: _) _ _); refine Rp.iaddN dX12_countsWay_87 ?_) | refine Rp.iadd dX12_countsWay_87 ?_
  refine Rp.putI dX12_countsWay_88 fk_X12_455w rfl (S _ _ rfl) ?_
  refine Rp.vreturn dX12_countsWay_91 rfl ?_
  exact k1
/-- the reference's leaf of had -/
theorem s_countsWay (A : MBd h fl np nt nd) (hK : gI h 102 = mixK W K) (V : VH W np nt) (hno : K 106 = nI no) (VTt : VT K no) (hL : L.length < 720) (H : RMw wi h L) : Rp (d + 79) M_X12_countsWay 0 [some (.ref aM), none] [] h (fun r h' => r = none ∧ Fr mhX h h' ∧ RMw wi h' (hdS K fl nd np nt no W L)) := by
  have al := s_isAllSo d A hK hno VTt
  have S := A.1
  have R := A.2.1
  unfold hdS
  cases ct : tdW K fl nd np nt no W
  · rw [ct] at al
    rw [if_neg (by decide)]
    refine Rp.aload_n dX12_countsWay_0 rfl rfl ?_
    refine Rp.callV0 M_X12_isAllSo (ci := 12) dX12_countsWay_1 mo_X12_isAllSo lk_X12_452 (by decide) rfl rfl (S _ _ rfl) (Nat.le_of_ble_eq_true rfl) (Nat.le_of_ble_eq_true rfl) (al) (fun v1 h1 p1 x1 => ?_)
    obtain ⟨F1, rfl⟩ := p1
    try dsimp only [Option.toList, List.cons_append, List.nil_append, List.append]
    first | ((with_reducible show Rp _ _ _ _ (.int (b2i _) :: _) _ _); refine Rp.if_neB (tgt := 8) dX12_countsWay_4 (by decide) (fun c4 => ?_) (fun c4 => ?_)) | ((with_reducible show Rp _ _ _ _ (.int (nI _) :: _) _ _); refine Rp.if_neN (tgt := 8) dX12_countsWay_4 (by decide) (by omega) (fun c4 => ?_) (fun c4 => ?_)) | refine Rp.if_ne (tgt := 8) dX12_countsWay_4 (by decide) (fun c4 => ?_) (fun c4 => ?_)
    · skip
      cases c4
    · skip
      refine Rp.vreturn dX12_countsWay_7 rfl ?_
      exact ⟨rfl, mhX_d F1, H.fr F1 rfl rfl (fun j => rfl) (fun j => rfl)⟩
  · rw [ct] at al
    rw [if_pos rfl]
    refine Rp.aload_n dX12_countsWay_0 rfl rfl ?_
    refine Rp.callV0 M_X12_isAllSo (ci := 12) dX12_countsWay_1 mo_X12_isAllSo lk_X12_452 (by decide) rfl rfl (S _ _ rfl) (Nat.le_of_ble_eq_true rfl) (Nat.le_of_ble_eq_true rfl) (al) (fun v1 h1 p1 x1 => ?_)
    obtain ⟨F1, rfl⟩ := p1
    try dsimp only [Option.toList, List.cons_append, List.nil_append, List.append]
    first | ((with_reducible show Rp _ _ _ _ (.int (b2i _) :: _) _ _); refine Rp.if_neB (tgt := 8) dX12_countsWay_4 (by decide) (fun c4 => ?_) (fun c4 => ?_)) | ((with_reducible show Rp _ _ _ _ (.int (nI _) :: _) _ _); refine Rp.if_neN (tgt := 8) dX12_countsWay_4 (by decide) (by omega) (fun c4 => ?_) (fun c4 => ?_)) | refine Rp.if_ne (tgt := 8) dX12_countsWay_4 (by decide) (fun c4 => ?_) (fun c4 => ?_)
    rotate_left
    · cases c4
    skip
    have S1 := F1.S S
    have R1 := F1.R R (by decide)
    have H1 := H.fr F1 rfl rfl (fun j => rfl) (fun j => rfl)
    have k10 := counts10 (d + 79) (wi := wi) (L := L) S1 R1 V (fun q hq => by rw [F1.k102, hK]; exact mixK_lo hq) hL (P := fun r h' => r = none ∧ Fr mhX h h' ∧ RMw wi h' (L ++ [W])) (fun g F2 I => by
      obtain ⟨i45, i46, i3, i4, i5⟩ := I
      have F3 : Fr mwX h1 (sI g 100 45 (nI (L.length + 1))) := F2.sI rfl
      refine counts81 (d + 79) (F2.S S1) i45 ⟨rfl, (mhX_d F1).trans (mhX_w F3), by rw [List.length_append]; exact gI_hit _ _ _ _, i46, fun n W' hn e p hp => ?_, fun p t hp ht => ?_⟩
      · show gI g 124 p = W' p
        by_cases z : n = L.length
        · rw [z, List.getElem?_append_right (Nat.le_refl _), Nat.sub_self] at hn
          cases hn
          exact i4 (by rw [← z]; exact e) p hp
        · have := (List.getElem?_eq_some_iff.mp hn).1
          rw [List.length_append] at this
          have : n < L.length + 1 := this
          rw [List.getElem?_append_left (by omega)] at hn
          exact i3 n W' hn e p hp
      · show gI g 125 (8 * p + t) = _
        rw [i5 p t hp ht, cnW_snoc]
        by_cases z : W p = nI t
        · rw [if_pos ⟨hp, z⟩, if_pos z]
        · rw [if_neg (fun y => z y.2), if_neg z]) 6 0 h1 (by omega) Fr.rfl' ⟨H1.1, H1.2.1, H1.2.2.1, fun _ q hq => absurd hq (Nat.not_lt_zero _), fun q t hq ht => by rw [if_neg (fun y => absurd y.1 (Nat.not_lt_zero _)), Nat.add_zero]; exact H1.2.2.2 q t hq ht⟩
    refine Rp.iconst (nI 0) dX12_countsWay_8 (by decide) ?_
    refine Rp.ist1 dX12_countsWay_9 (by first | exact nl2_some rfl | exact nl2_none) (by decide) ?_
    exact k10
end Mc
