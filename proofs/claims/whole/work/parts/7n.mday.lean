/-- the next that is called: o, of the first n, behind the number x -/
def NX (K hs : Nat → Int32) (n x : Nat) (o : Option Nat) : Prop := match o with
  | none => ∀ q, q < n → hs q ≠ -1 → nmb K (ix (hs q)) ≤ x
  | some p => p < n ∧ hs p ≠ -1 ∧ x < nmb K (ix (hs p)) ∧ ∀ q, q < n → hs q ≠ -1 → x < nmb K (ix (hs q)) → nmb K (ix (hs p)) ≤ nmb K (ix (hs q))
theorem NX_skip {K hs : Nat → Int32} {p x : Nat} {o : Option Nat} (hN : NX K hs p x o) (hq : hs p = -1 ∨ nmb K (ix (hs p)) ≤ x) : NX K hs (p + 1) x o := by
  match o, hN with
  | none, hN =>
    intro q h1 h2
    by_cases z : q = p
    · rw [z] at h2 ⊢
      rcases hq with y | y
      · exact absurd y h2
      · exact y
    · exact hN q (by omega) h2
  | some u, hN =>
    refine ⟨by have := hN.1; omega, hN.2.1, hN.2.2.1, fun q h1 h2 h3 => ?_⟩
    by_cases z : q = p
    · rw [z] at h2 h3
      rcases hq with y | y
      · exact absurd y h2
      · omega
    · exact hN.2.2.2 q (by omega) h2 h3
section Md
variable (d : Nat) {h : AH} {np nt nd : Nat}
theorem next4 (S : ShOK h) (R : RfOK h) (V : VN (gI h am_kept) nt) (VHh : VH (gI h am_kept) np nt) (hM : gI h am_kept 103 = nI np) {x : Nat} (hx : x < 1000) : ∀ (m p : Nat) (o : Option Nat), p + m = np → NX (gI h am_kept) (gI h am_kept) p x o → Rp (d + 1) M_X12_nextCalled 4 [some (.ref aM), some (.int (nI x)), some (.int (oI o)), some (.int (nI p))] [] h (fun r h' => h' = h ∧ ∃ o', r = some (.int (oI o')) ∧ NX (gI h am_kept) (gI h am_kept) np x o') := by
  obtain ⟨v1, v2, v3, v4⟩ := VHh
  intro m
  induction m with
  | zero =>
    intro p o hp hN
    have e : p = np := by omega
    subst e
    refine Rp.iload_n dX12_nextCalled_4 rfl ?_
    refine Rp.aload_n dX12_nextCalled_5 rfl rfl ?_
    refine Rp.getR dX12_nextCalled_6 fk_X12_24 rfl (S _ _ rfl) (R _ _ _ rfl) ?_
    refine Rp.bipush (nI 103) dX12_nextCalled_9 (by decide) ?_
    first | ((with_reducible show Rp _ _ _ _ (.int (nI _) :: _) _ _); refine Rp.ialoadN dX12_nextCalled_11 (S _ _ rfl) (by omega) ?_) | refine Rp.iaload dX12_nextCalled_11 (S _ _ rfl) (by first | assumption | exact vpb (by decide)) ?_
    first | rw [hM] | skip
    first | ((with_reducible show Rp _ _ _ _ (.int (nI _) :: .int (nI _) :: _) _ _); refine Rp.icmp_geN (tgt := 94) dX12_nextCalled_12 (by decide) (by omega) (fun c12 => ?_) (fun c12 => ?_)) | refine Rp.icmp_ge (tgt := 94) dX12_nextCalled_12 (by decide) (fun c12 => ?_) (fun c12 => ?_)
    · skip
      refine Rp.iload_n dX12_nextCalled_94 rfl ?_
      refine Rp.ireturn dX12_nextCalled_95 rfl ?_
      exact ⟨rfl, o, rfl, hN⟩
    · skip
      first | (exfalso; omega) | exact absurd c12 (by decide) | exact absurd (by decide) c12
  | succ m ih =>
    intro p o hp hN
    have ho := s_holds d S R (q := p) (by omega)
    by_cases hq : gI h am_kept p = -1
    · rw [decide_eq_false (fun z => z hq)] at ho
      have k1 := ih (p + 1) o (by omega) (NX_skip hN (Or.inl hq))
      refine Rp.iload_n dX12_nextCalled_4 rfl ?_
      refine Rp.aload_n dX12_nextCalled_5 rfl rfl ?_
      refine Rp.getR dX12_nextCalled_6 fk_X12_24 rfl (S _ _ rfl) (R _ _ _ rfl) ?_
      refine Rp.bipush (nI 103) dX12_nextCalled_9 (by decide) ?_
      first | ((with_reducible show Rp _ _ _ _ (.int (nI _) :: _) _ _); refine Rp.ialoadN dX12_nextCalled_11 (S _ _ rfl) (by omega) ?_) | refine Rp.iaload dX12_nextCalled_11 (S _ _ rfl) (by first | assumption | exact vpb (by decide)) ?_
      first | rw [hM] | skip
      first | ((with_reducible show Rp _ _ _ _ (.int (nI _) :: .int (nI _) :: _) _ _); refine Rp.icmp_geN (tgt := 94) dX12_nextCalled_12 (by decide) (by omega) (fun c12 => ?_) (fun c12 => ?_)) | refine Rp.icmp_ge (tgt := 94) dX12_nextCalled_12 (by decide) (fun c12 => ?_) (fun c12 => ?_)
      · skip
        first | (exfalso; omega) | exact absurd c12 (by decide) | exact absurd (by decide) c12
      · skip
        refine Rp.aload_n dX12_nextCalled_15 rfl rfl ?_
        refine Rp.iload_n dX12_nextCalled_16 rfl ?_
        refine Rp.callV1 M_X12_holds (ci := 12) dX12_nextCalled_17 mo_X12_holds lk_X12_351 (by decide) rfl rfl (S _ _ rfl) (Nat.le_of_ble_eq_true rfl) (Nat.le_of_ble_eq_true rfl) (ho) (fun v1 h1 p1 x1 => ?_)
        rw [p1.1, p1.2]
        try dsimp only [Option.toList, List.cons_append, List.nil_append, List.append]
        first | ((with_reducible show Rp _ _ _ _ (.int (b2i _) :: _) _ _); refine Rp.if_eqB (tgt := 88) dX12_nextCalled_20 (by decide) (fun c20 => ?_) (fun c20 => ?_)) | ((with_reducible show Rp _ _ _ _ (.int (nI _) :: _) _ _); refine Rp.if_eqN (tgt := 88) dX12_nextCalled_20 (by decide) (by omega) (fun c20 => ?_) (fun c20 => ?_)) | refine Rp.if_eq (tgt := 88) dX12_nextCalled_20 (by decide) (fun c20 => ?_) (fun c20 => ?_)
        · skip
          first | ((with_reducible show Rp _ _ _ (_ :: _ :: _ :: some (.int (nI _)) :: _) _ _ _); refine Rp.inc3N (c := 1) dX12_nextCalled_88 (by first | exact nl2_some rfl | exact nl2_none) (by decide) ?_) | refine Rp.inc3 _ dX12_nextCalled_88 rfl (by first | exact nl2_some rfl | exact nl2_none) (by decide) ?_
          refine Rp.goto (tgt := 4) dX12_nextCalled_91 (by decide) ?_
          exact k1
        · skip
          cases c20
    · rw [decide_eq_true hq] at ho
      obtain ⟨t, ht, et⟩ := ((v3 p (by omega)).resolve_left hq).2
      have e0 : gI h am_kept (0 + p) = nI t := by rw [Nat.zero_add]; exact et
      have en := (V.n ht).1
      have eb := (V.n ht).2.2
      have ip : ix (gI h am_kept p) = t := by rw [et, ix_nI (by omega)]
      by_cases hxt : x < nmb (gI h am_kept) t
      · match o, hN with
        | none, hN =>
          have k1 := ih (p + 1) (some p) (by omega) ⟨Nat.lt_succ_self p, hq, by rw [ip]; exact hxt, fun q h1 h2 h3 => by
            by_cases z : q = p
            · rw [z]; exact Nat.le_refl _
            · have := hN q (by omega) h2; omega⟩
          dsimp only [oI] at k1 ⊢
          refine Rp.iload_n dX12_nextCalled_4 rfl ?_
          refine Rp.aload_n dX12_nextCalled_5 rfl rfl ?_
          refine Rp.getR dX12_nextCalled_6 fk_X12_24 rfl (S _ _ rfl) (R _ _ _ rfl) ?_
          refine Rp.bipush (nI 103) dX12_nextCalled_9 (by decide) ?_
          first | ((with_reducible show Rp _ _ _ _ (.int (nI _) :: _) _ _); refine Rp.ialoadN dX12_nextCalled_11 (S _ _ rfl) (by omega) ?_) | refine Rp.iaload dX12_nextCalled_11 (S _ _ rfl) (by first | assumption | exact vpb (by decide)) ?_
          first | rw [hM] | rw [e0] | rw [en] | skip
          first | ((with_reducible show Rp _ _ _ _ (.int (nI _) :: .int (nI _) :: _) _ _); refine Rp.icmp_geN (tgt := 94) dX12_nextCalled_12 (by decide) (by omega) (fun c12 => ?_) (fun c12 => ?_)) | refine Rp.icmp_ge (tgt := 94) dX12_nextCalled_12 (by decide) (fun c12 => ?_) (fun c12 => ?_)
          · skip
            first | (exfalso; omega) | exact absurd c12 (by decide) | exact absurd (by decide) c12
          · skip
            refine Rp.aload_n dX12_nextCalled_15 rfl rfl ?_
            refine Rp.iload_n dX12_nextCalled_16 rfl ?_
            refine Rp.callV1 M_X12_holds (ci := 12) dX12_nextCalled_17 mo_X12_holds lk_X12_351 (by decide) rfl rfl (S _ _ rfl) (Nat.le_of_ble_eq_true rfl) (Nat.le_of_ble_eq_true rfl) (ho) (fun v1 h1 p1 x1 => ?_)
            rw [p1.1, p1.2]
            try dsimp only [Option.toList, List.cons_append, List.nil_append, List.append]
            first | ((with_reducible show Rp _ _ _ _ (.int (b2i _) :: _) _ _); refine Rp.if_eqB (tgt := 88) dX12_nextCalled_20 (by decide) (fun c20 => ?_) (fun c20 => ?_)) | ((with_reducible show Rp _ _ _ _ (.int (nI _) :: _) _ _); refine Rp.if_eqN (tgt := 88) dX12_nextCalled_20 (by decide) (by omega) (fun c20 => ?_) (fun c20 => ?_)) | refine Rp.if_eq (tgt := 88) dX12_nextCalled_20 (by decide) (fun c20 => ?_) (fun c20 => ?_)
            · skip
              cases c20
            · skip
              refine Rp.aload_n dX12_nextCalled_23 rfl rfl ?_
              refine Rp.getR dX12_nextCalled_24 fk_X12_24 rfl (S _ _ rfl) (R _ _ _ rfl) ?_
              refine Rp.bipush (nI 67) dX12_nextCalled_27 (by decide) ?_
              refine Rp.aload_n dX12_nextCalled_29 rfl rfl ?_
              refine Rp.getR dX12_nextCalled_30 fk_X12_24 rfl (S _ _ rfl) (R _ _ _ rfl) ?_
              refine Rp.iconst (nI 0) dX12_nextCalled_33 (by decide) ?_
              refine Rp.iload_n dX12_nextCalled_34 rfl ?_
              first | ((with_reducible show Rp _ _ _ _ (.int (nI _) :: .int (nI _) :: _) _ _); refine Rp.iaddN dX12_nextCalled_35 ?_) | refine Rp.iadd dX12_nextCalled_35 ?_
              first | ((with_reducible show Rp _ _ _ _ (.int (nI _) :: _) _ _); refine Rp.ialoadN dX12_nextCalled_36 (S _ _ rfl) (by omega) ?_) | refine Rp.iaload dX12_nextCalled_36 (S _ _ rfl) (by first | assumption | exact vpb (by decide)) ?_
              first | rw [hM] | rw [e0] | rw [en] | skip
              first | ((with_reducible show Rp _ _ _ _ (.int (nI _) :: .int (nI _) :: _) _ _); refine Rp.iaddN dX12_nextCalled_37 ?_) | refine Rp.iadd dX12_nextCalled_37 ?_
              first | ((with_reducible show Rp _ _ _ _ (.int (nI _) :: _) _ _); refine Rp.ialoadN dX12_nextCalled_38 (S _ _ rfl) (by omega) ?_) | refine Rp.iaload dX12_nextCalled_38 (S _ _ rfl) (by first | assumption | exact vpb (by decide)) ?_
              first | rw [hM] | rw [e0] | rw [en] | skip
              refine Rp.iload_n dX12_nextCalled_39 rfl ?_
              first | ((with_reducible show Rp _ _ _ _ (.int (nI _) :: .int (nI _) :: _) _ _); refine Rp.icmp_gtN (tgt := 46) dX12_nextCalled_40 (by decide) (by omega) (fun c40 => ?_) (fun c40 => ?_)) | refine Rp.icmp_gt (tgt := 46) dX12_nextCalled_40 (by decide) (fun c40 => ?_) (fun c40 => ?_)
              · skip
                refine Rp.iload_n dX12_nextCalled_46 rfl ?_
                refine Rp.iconst (-1) dX12_nextCalled_47 (by decide) ?_
                first | ((with_reducible show Rp _ _ _ _ (.int (nI _) :: .int (nI _) :: _) _ _); refine Rp.icmp_eqN (tgt := 86) dX12_nextCalled_48 (by decide) (by omega) (fun c48 => ?_) (fun c48 => ?_)) | refine Rp.icmp_eq (tgt := 86) dX12_nextCalled_48 (by decide) (fun c48 => ?_) (fun c48 => ?_)
                · skip
                  refine Rp.iload_n dX12_nextCalled_86 rfl ?_
                  refine Rp.ist2 dX12_nextCalled_87 (by first | exact nl2_some rfl | exact nl2_none) (by decide) ?_
                  first | ((with_reducible show Rp _ _ _ (_ :: _ :: _ :: some (.int (nI _)) :: _) _ _ _); refine Rp.inc3N (c := 1) dX12_nextCalled_88 (by first | exact nl2_some rfl | exact nl2_none) (by decide) ?_) | refine Rp.inc3 _ dX12_nextCalled_88 rfl (by first | exact nl2_some rfl | exact nl2_none) (by decide) ?_
                  refine Rp.goto (tgt := 4) dX12_nextCalled_91 (by decide) ?_
                  exact k1
                · skip
                  exact absurd rfl c48
              · skip
                first | (exfalso; omega) | exact absurd c40 (by decide) | exact absurd (by decide) c40
        | some u, hN =>
          obtain ⟨hu, hu2, hu3, hu4⟩ := hN
          obtain ⟨w, hw, ew⟩ := ((v3 u (by omega)).resolve_left hu2).2
          have e0u : gI h am_kept (0 + u) = nI w := by rw [Nat.zero_add]; exact ew
          have enw := (V.n hw).1
          have ebw := (V.n hw).2.2
          have iu : ix (gI h am_kept u) = w := by rw [ew, ix_nI (by omega)]
          have om : ¬ nI u = -1 := nI_m1 (by omega)
          rw [iu] at hu3 hu4
          by_cases hl : nmb (gI h am_kept) t < nmb (gI h am_kept) w
          · have k1 := ih (p + 1) (some p) (by omega) ⟨Nat.lt_succ_self p, hq, by rw [ip]; exact hxt, fun q h1 h2 h3 => by
              by_cases z : q = p
              · rw [z]; exact Nat.le_refl _
              · have := hu4 q (by omega) h2 h3; rw [ip]; omega⟩
            dsimp only [oI] at k1 ⊢
            refine Rp.iload_n dX12_nextCalled_4 rfl ?_
            refine Rp.aload_n dX12_nextCalled_5 rfl rfl ?_
            refine Rp.getR dX12_nextCalled_6 fk_X12_24 rfl (S _ _ rfl) (R _ _ _ rfl) ?_
            refine Rp.bipush (nI 103) dX12_nextCalled_9 (by decide) ?_
            first | ((with_reducible show Rp _ _ _ _ (.int (nI _) :: _) _ _); refine Rp.ialoadN dX12_nextCalled_11 (S _ _ rfl) (by omega) ?_) | refine Rp.iaload dX12_nextCalled_11 (S _ _ rfl) (by first | assumption | exact vpb (by decide)) ?_
            first | rw [hM] | rw [e0] | rw [en] | rw [e0u] | rw [enw] | skip
            first | ((with_reducible show Rp _ _ _ _ (.int (nI _) :: .int (nI _) :: _) _ _); refine Rp.icmp_geN (tgt := 94) dX12_nextCalled_12 (by decide) (by omega) (fun c12 => ?_) (fun c12 => ?_)) | refine Rp.icmp_ge (tgt := 94) dX12_nextCalled_12 (by decide) (fun c12 => ?_) (fun c12 => ?_)
            · skip
              first | (exfalso; omega) | exact absurd c12 (by decide) | exact absurd (by decide) c12
            · skip
              refine Rp.aload_n dX12_nextCalled_15 rfl rfl ?_
              refine Rp.iload_n dX12_nextCalled_16 rfl ?_
              refine Rp.callV1 M_X12_holds (ci := 12) dX12_nextCalled_17 mo_X12_holds lk_X12_351 (by decide) rfl rfl (S _ _ rfl) (Nat.le_of_ble_eq_true rfl) (Nat.le_of_ble_eq_true rfl) (ho) (fun v1 h1 p1 x1 => ?_)
              rw [p1.1, p1.2]
              try dsimp only [Option.toList, List.cons_append, List.nil_append, List.append]
              first | ((with_reducible show Rp _ _ _ _ (.int (b2i _) :: _) _ _); refine Rp.if_eqB (tgt := 88) dX12_nextCalled_20 (by decide) (fun c20 => ?_) (fun c20 => ?_)) | ((with_reducible show Rp _ _ _ _ (.int (nI _) :: _) _ _); refine Rp.if_eqN (tgt := 88) dX12_nextCalled_20 (by decide) (by omega) (fun c20 => ?_) (fun c20 => ?_)) | refine Rp.if_eq (tgt := 88) dX12_nextCalled_20 (by decide) (fun c20 => ?_) (fun c20 => ?_)
              · skip
                cases c20
              · skip
                refine Rp.aload_n dX12_nextCalled_23 rfl rfl ?_
                refine Rp.getR dX12_nextCalled_24 fk_X12_24 rfl (S _ _ rfl) (R _ _ _ rfl) ?_
                refine Rp.bipush (nI 67) dX12_nextCalled_27 (by decide) ?_
                refine Rp.aload_n dX12_nextCalled_29 rfl rfl ?_
                refine Rp.getR dX12_nextCalled_30 fk_X12_24 rfl (S _ _ rfl) (R _ _ _ rfl) ?_
                refine Rp.iconst (nI 0) dX12_nextCalled_33 (by decide) ?_
                refine Rp.iload_n dX12_nextCalled_34 rfl ?_
                first | ((with_reducible show Rp _ _ _ _ (.int (nI _) :: .int (nI _) :: _) _ _); refine Rp.iaddN dX12_nextCalled_35 ?_) | refine Rp.iadd dX12_nextCalled_35 ?_
                first | ((with_reducible show Rp _ _ _ _ (.int (nI _) :: _) _ _); refine Rp.ialoadN dX12_nextCalled_36 (S _ _ rfl) (by omega) ?_) | refine Rp.iaload dX12_nextCalled_36 (S _ _ rfl) (by first | assumption | exact vpb (by decide)) ?_
                first | rw [hM] | rw [e0] | rw [en] | rw [e0u] | rw [enw] | skip
                first | ((with_reducible show Rp _ _ _ _ (.int (nI _) :: .int (nI _) :: _) _ _); refine Rp.iaddN dX12_nextCalled_37 ?_) | refine Rp.iadd dX12_nextCalled_37 ?_
                first | ((with_reducible show Rp _ _ _ _ (.int (nI _) :: _) _ _); refine Rp.ialoadN dX12_nextCalled_38 (S _ _ rfl) (by omega) ?_) | refine Rp.iaload dX12_nextCalled_38 (S _ _ rfl) (by first | assumption | exact vpb (by decide)) ?_
                first | rw [hM] | rw [e0] | rw [en] | rw [e0u] | rw [enw] | skip
                refine Rp.iload_n dX12_nextCalled_39 rfl ?_
                first | ((with_reducible show Rp _ _ _ _ (.int (nI _) :: .int (nI _) :: _) _ _); refine Rp.icmp_gtN (tgt := 46) dX12_nextCalled_40 (by decide) (by omega) (fun c40 => ?_) (fun c40 => ?_)) | refine Rp.icmp_gt (tgt := 46) dX12_nextCalled_40 (by decide) (fun c40 => ?_) (fun c40 => ?_)
                · skip
                  refine Rp.iload_n dX12_nextCalled_46 rfl ?_
                  refine Rp.iconst (-1) dX12_nextCalled_47 (by decide) ?_
                  first | ((with_reducible show Rp _ _ _ _ (.int (nI _) :: .int (nI _) :: _) _ _); refine Rp.icmp_eqN (tgt := 86) dX12_nextCalled_48 (by decide) (by omega) (fun c48 => ?_) (fun c48 => ?_)) | refine Rp.icmp_eq (tgt := 86) dX12_nextCalled_48 (by decide) (fun c48 => ?_) (fun c48 => ?_)
                  · skip
                    exact absurd c48 om
                  · skip
                    refine Rp.aload_n dX12_nextCalled_51 rfl rfl ?_
                    refine Rp.getR dX12_nextCalled_52 fk_X12_24 rfl (S _ _ rfl) (R _ _ _ rfl) ?_
                    refine Rp.bipush (nI 67) dX12_nextCalled_55 (by decide) ?_
                    refine Rp.aload_n dX12_nextCalled_57 rfl rfl ?_
                    refine Rp.getR dX12_nextCalled_58 fk_X12_24 rfl (S _ _ rfl) (R _ _ _ rfl) ?_
                    refine Rp.iconst (nI 0) dX12_nextCalled_61 (by decide) ?_
                    refine Rp.iload_n dX12_nextCalled_62 rfl ?_
                    first | ((with_reducible show Rp _ _ _ _ (.int (nI _) :: .int (nI _) :: _) _ _); refine Rp.iaddN dX12_nextCalled_63 ?_) | refine Rp.iadd dX12_nextCalled_63 ?_
                    first | ((with_reducible show Rp _ _ _ _ (.int (nI _) :: _) _ _); refine Rp.ialoadN dX12_nextCalled_64 (S _ _ rfl) (by omega) ?_) | refine Rp.iaload dX12_nextCalled_64 (S _ _ rfl) (by first | assumption | exact vpb (by decide)) ?_
                    first | rw [hM] | rw [e0] | rw [en] | rw [e0u] | rw [enw] | skip
                    first | ((with_reducible show Rp _ _ _ _ (.int (nI _) :: .int (nI _) :: _) _ _); refine Rp.iaddN dX12_nextCalled_65 ?_) | refine Rp.iadd dX12_nextCalled_65 ?_
                    first | ((with_reducible show Rp _ _ _ _ (.int (nI _) :: _) _ _); refine Rp.ialoadN dX12_nextCalled_66 (S _ _ rfl) (by omega) ?_) | refine Rp.iaload dX12_nextCalled_66 (S _ _ rfl) (by first | assumption | exact vpb (by decide)) ?_
                    first | rw [hM] | rw [e0] | rw [en] | rw [e0u] | rw [enw] | skip
                    refine Rp.aload_n dX12_nextCalled_67 rfl rfl ?_
                    refine Rp.getR dX12_nextCalled_68 fk_X12_24 rfl (S _ _ rfl) (R _ _ _ rfl) ?_
                    refine Rp.bipush (nI 67) dX12_nextCalled_71 (by decide) ?_
                    refine Rp.aload_n dX12_nextCalled_73 rfl rfl ?_
                    refine Rp.getR dX12_nextCalled_74 fk_X12_24 rfl (S _ _ rfl) (R _ _ _ rfl) ?_
                    refine Rp.iconst (nI 0) dX12_nextCalled_77 (by decide) ?_
                    refine Rp.iload_n dX12_nextCalled_78 rfl ?_
                    first | ((with_reducible show Rp _ _ _ _ (.int (nI _) :: .int (nI _) :: _) _ _); refine Rp.iaddN dX12_nextCalled_79 ?_) | refine Rp.iadd dX12_nextCalled_79 ?_
                    first | ((with_reducible show Rp _ _ _ _ (.int (nI _) :: _) _ _); refine Rp.ialoadN dX12_nextCalled_80 (S _ _ rfl) (by omega) ?_) | refine Rp.iaload dX12_nextCalled_80 (S _ _ rfl) (by first | assumption | exact vpb (by decide)) ?_
                    first | rw [hM] | rw [e0] | rw [en] | rw [e0u] | rw [enw] | skip
                    first | ((with_reducible show Rp _ _ _ _ (.int (nI _) :: .int (nI _) :: _) _ _); refine Rp.iaddN dX12_nextCalled_81 ?_) | refine Rp.iadd dX12_nextCalled_81 ?_
                    first | ((with_reducible show Rp _ _ _ _ (.int (nI _) :: _) _ _); refine Rp.ialoadN dX12_nextCalled_82 (S _ _ rfl) (by omega) ?_) | refine Rp.iaload dX12_nextCalled_82 (S _ _ rfl) (by first | assumption | exact vpb (by decide)) ?_
                    first | rw [hM] | rw [e0] | rw [en] | rw [e0u] | rw [enw] | skip
                    first | ((with_reducible show Rp _ _ _ _ (.int (nI _) :: .int (nI _) :: _) _ _); refine Rp.icmp_geN (tgt := 88) dX12_nextCalled_83 (by decide) (by omega) (fun c83 => ?_) (fun c83 => ?_)) | refine Rp.icmp_ge (tgt := 88) dX12_nextCalled_83 (by decide) (fun c83 => ?_) (fun c83 => ?_)
                    · skip
                      first | (exfalso; omega) | exact absurd c83 (by decide) | exact absurd (by decide) c83
                    · skip
                      refine Rp.iload_n dX12_nextCalled_86 rfl ?_
                      refine Rp.ist2 dX12_nextCalled_87 (by first | exact nl2_some rfl | exact nl2_none) (by decide) ?_
                      first | ((with_reducible show Rp _ _ _ (_ :: _ :: _ :: some (.int (nI _)) :: _) _ _ _); refine Rp.inc3N (c := 1) dX12_nextCalled_88 (by first | exact nl2_some rfl | exact nl2_none) (by decide) ?_) | refine Rp.inc3 _ dX12_nextCalled_88 rfl (by first | exact nl2_some rfl | exact nl2_none) (by decide) ?_
                      refine Rp.goto (tgt := 4) dX12_nextCalled_91 (by decide) ?_
                      exact k1
                · skip
                  first | (exfalso; omega) | exact absurd c40 (by decide) | exact absurd (by decide) c40
          · have k1 := ih (p + 1) (some u) (by omega) ⟨by omega, hu2, by rw [iu]; exact hu3, fun q h1 h2 h3 => by
              by_cases z : q = p
              · rw [z, iu, ip]; omega
              · rw [iu]; exact hu4 q (by omega) h2 h3⟩
            dsimp only [oI] at k1 ⊢
            refine Rp.iload_n dX12_nextCalled_4 rfl ?_
            refine Rp.aload_n dX12_nextCalled_5 rfl rfl ?_
            refine Rp.getR dX12_nextCalled_6 fk_X12_24 rfl (S _ _ rfl) (R _ _ _ rfl) ?_
            refine Rp.bipush (nI 103) dX12_nextCalled_9 (by decide) ?_
            first | ((with_reducible show Rp _ _ _ _ (.int (nI _) :: _) _ _); refine Rp.ialoadN dX12_nextCalled_11 (S _ _ rfl) (by omega) ?_) | refine Rp.iaload dX12_nextCalled_11 (S _ _ rfl) (by first | assumption | exact vpb (by decide)) ?_
            first | rw [hM] | rw [e0] | rw [en] | rw [e0u] | rw [enw] | skip
            first | ((with_reducible show Rp _ _ _ _ (.int (nI _) :: .int (nI _) :: _) _ _); refine Rp.icmp_geN (tgt := 94) dX12_nextCalled_12 (by decide) (by omega) (fun c12 => ?_) (fun c12 => ?_)) | refine Rp.icmp_ge (tgt := 94) dX12_nextCalled_12 (by decide) (fun c12 => ?_) (fun c12 => ?_)
            · skip
              first | (exfalso; omega) | exact absurd c12 (by decide) | exact absurd (by decide) c12
            · skip
              refine Rp.aload_n dX12_nextCalled_15 rfl rfl ?_
              refine Rp.iload_n dX12_nextCalled_16 rfl ?_
              refine Rp.callV1 M_X12_holds (ci := 12) dX12_nextCalled_17 mo_X12_holds lk_X12_351 (by decide) rfl rfl (S _ _ rfl) (Nat.le_of_ble_eq_true rfl) (Nat.le_of_ble_eq_true rfl) (ho) (fun v1 h1 p1 x1 => ?_)
              rw [p1.1, p1.2]
              try dsimp only [Option.toList, List.cons_append, List.nil_append, List.append]
              first | ((with_reducible show Rp _ _ _ _ (.int (b2i _) :: _) _ _); refine Rp.if_eqB (tgt := 88) dX12_nextCalled_20 (by decide) (fun c20 => ?_) (fun c20 => ?_)) | ((with_reducible show Rp _ _ _ _ (.int (nI _) :: _) _ _); refine Rp.if_eqN (tgt := 88) dX12_nextCalled_20 (by decide) (by omega) (fun c20 => ?_) (fun c20 => ?_)) | refine Rp.if_eq (tgt := 88) dX12_nextCalled_20 (by decide) (fun c20 => ?_) (fun c20 => ?_)
              · skip
                cases c20
              · skip
                refine Rp.aload_n dX12_nextCalled_23 rfl rfl ?_
                refine Rp.getR dX12_nextCalled_24 fk_X12_24 rfl (S _ _ rfl) (R _ _ _ rfl) ?_
                refine Rp.bipush (nI 67) dX12_nextCalled_27 (by decide) ?_
                refine Rp.aload_n dX12_nextCalled_29 rfl rfl ?_
                refine Rp.getR dX12_nextCalled_30 fk_X12_24 rfl (S _ _ rfl) (R _ _ _ rfl) ?_
                refine Rp.iconst (nI 0) dX12_nextCalled_33 (by decide) ?_
                refine Rp.iload_n dX12_nextCalled_34 rfl ?_
                first | ((with_reducible show Rp _ _ _ _ (.int (nI _) :: .int (nI _) :: _) _ _); refine Rp.iaddN dX12_nextCalled_35 ?_) | refine Rp.iadd dX12_nextCalled_35 ?_
                first | ((with_reducible show Rp _ _ _ _ (.int (nI _) :: _) _ _); refine Rp.ialoadN dX12_nextCalled_36 (S _ _ rfl) (by omega) ?_) | refine Rp.iaload dX12_nextCalled_36 (S _ _ rfl) (by first | assumption | exact vpb (by decide)) ?_
                first | rw [hM] | rw [e0] | rw [en] | rw [e0u] | rw [enw] | skip
                first | ((with_reducible show Rp _ _ _ _ (.int (nI _) :: .int (nI _) :: _) _ _); refine Rp.iaddN dX12_nextCalled_37 ?_) | refine Rp.iadd dX12_nextCalled_37 ?_
                first | ((with_reducible show Rp _ _ _ _ (.int (nI _) :: _) _ _); refine Rp.ialoadN dX12_nextCalled_38 (S _ _ rfl) (by omega) ?_) | refine Rp.iaload dX12_nextCalled_38 (S _ _ rfl) (by first | assumption | exact vpb (by decide)) ?_
                first | rw [hM] | rw [e0] | rw [en] | rw [e0u] | rw [enw] | skip
                refine Rp.iload_n dX12_nextCalled_39 rfl ?_
                first | ((with_reducible show Rp _ _ _ _ (.int (nI _) :: .int (nI _) :: _) _ _); refine Rp.icmp_gtN (tgt := 46) dX12_nextCalled_40 (by decide) (by omega) (fun c40 => ?_) (fun c40 => ?_)) | refine Rp.icmp_gt (tgt := 46) dX12_nextCalled_40 (by decide) (fun c40 => ?_) (fun c40 => ?_)
                · skip
                  refine Rp.iload_n dX12_nextCalled_46 rfl ?_
                  refine Rp.iconst (-1) dX12_nextCalled_47 (by decide) ?_
                  first | ((with_reducible show Rp _ _ _ _ (.int (nI _) :: .int (nI _) :: _) _ _); refine Rp.icmp_eqN (tgt := 86) dX12_nextCalled_48 (by decide) (by omega) (fun c48 => ?_) (fun c48 => ?_)) | refine Rp.icmp_eq (tgt := 86) dX12_nextCalled_48 (by decide) (fun c48 => ?_) (fun c48 => ?_)
                  · skip
                    exact absurd c48 om
                  · skip
                    refine Rp.aload_n dX12_nextCalled_51 rfl rfl ?_
                    refine Rp.getR dX12_nextCalled_52 fk_X12_24 rfl (S _ _ rfl) (R _ _ _ rfl) ?_
                    refine Rp.bipush (nI 67) dX12_nextCalled_55 (by decide) ?_
                    refine Rp.aload_n dX12_nextCalled_57 rfl rfl ?_
                    refine Rp.getR dX12_nextCalled_58 fk_X12_24 rfl (S _ _ rfl) (R _ _ _ rfl) ?_
                    refine Rp.iconst (nI 0) dX12_nextCalled_61 (by decide) ?_
                    refine Rp.iload_n dX12_nextCalled_62 rfl ?_
                    first | ((with_reducible show Rp _ _ _ _ (.int (nI _) :: .int (nI _) :: _) _ _); refine Rp.iaddN dX12_nextCalled_63 ?_) | refine Rp.iadd dX12_nextCalled_63 ?_
                    first | ((with_reducible show Rp _ _ _ _ (.int (nI _) :: _) _ _); refine Rp.ialoadN dX12_nextCalled_64 (S _ _ rfl) (by omega) ?_) | refine Rp.iaload dX12_nextCalled_64 (S _ _ rfl) (by first | assumption | exact vpb (by decide)) ?_
                    first | rw [hM] | rw [e0] | rw [en] | rw [e0u] | rw [enw] | skip
                    first | ((with_reducible show Rp _ _ _ _ (.int (nI _) :: .int (nI _) :: _) _ _); refine Rp.iaddN dX12_nextCalled_65 ?_) | refine Rp.iadd dX12_nextCalled_65 ?_
                    first | ((with_reducible show Rp _ _ _ _ (.int (nI _) :: _) _ _); refine Rp.ialoadN dX12_nextCalled_66 (S _ _ rfl) (by omega) ?_) | refine Rp.iaload dX12_nextCalled_66 (S _ _ rfl) (by first | assumption | exact vpb (by decide)) ?_
                    first | rw [hM] | rw [e0] | rw [en] | rw [e0u] | rw [enw] | skip
                    refine Rp.aload_n dX12_nextCalled_67 rfl rfl ?_
                    refine Rp.getR dX12_nextCalled_68 fk_X12_24 rfl (S _ _ rfl) (R _ _ _ rfl) ?_
                    refine Rp.bipush (nI 67) dX12_nextCalled_71 (by decide) ?_
                    refine Rp.aload_n dX12_nextCalled_73 rfl rfl ?_
                    refine Rp.getR dX12_nextCalled_74 fk_X12_24 rfl (S _ _ rfl) (R _ _ _ rfl) ?_
                    refine Rp.iconst (nI 0) dX12_nextCalled_77 (by decide) ?_
                    refine Rp.iload_n dX12_nextCalled_78 rfl ?_
                    first | ((with_reducible show Rp _ _ _ _ (.int (nI _) :: .int (nI _) :: _) _ _); refine Rp.iaddN dX12_nextCalled_79 ?_) | refine Rp.iadd dX12_nextCalled_79 ?_
                    first | ((with_reducible show Rp _ _ _ _ (.int (nI _) :: _) _ _); refine Rp.ialoadN dX12_nextCalled_80 (S _ _ rfl) (by omega) ?_) | refine Rp.iaload dX12_nextCalled_80 (S _ _ rfl) (by first | assumption | exact vpb (by decide)) ?_
                    first | rw [hM] | rw [e0] | rw [en] | rw [e0u] | rw [enw] | skip
                    first | ((with_reducible show Rp _ _ _ _ (.int (nI _) :: .int (nI _) :: _) _ _); refine Rp.iaddN dX12_nextCalled_81 ?_) | refine Rp.iadd dX12_nextCalled_81 ?_
                    first | ((with_reducible show Rp _ _ _ _ (.int (nI _) :: _) _ _); refine Rp.ialoadN dX12_nextCalled_82 (S _ _ rfl) (by omega) ?_) | refine Rp.iaload dX12_nextCalled_82 (S _ _ rfl) (by first | assumption | exact vpb (by decide)) ?_
                    first | rw [hM] | rw [e0] | rw [en] | rw [e0u] | rw [enw] | skip
                    first | ((with_reducible show Rp _ _ _ _ (.int (nI _) :: .int (nI _) :: _) _ _); refine Rp.icmp_geN (tgt := 88) dX12_nextCalled_83 (by decide) (by omega) (fun c83 => ?_) (fun c83 => ?_)) | refine Rp.icmp_ge (tgt := 88) dX12_nextCalled_83 (by decide) (fun c83 => ?_) (fun c83 => ?_)
                    · skip
                      first | ((with_reducible show Rp _ _ _ (_ :: _ :: _ :: some (.int (nI _)) :: _) _ _ _); refine Rp.inc3N (c := 1) dX12_nextCalled_88 (by first | exact nl2_some rfl | exact nl2_none) (by decide) ?_) | refine Rp.inc3 _ dX12_nextCalled_88 rfl (by first | exact nl2_some rfl | exact nl2_none) (by decide) ?_
                      refine Rp.goto (tgt := 4) dX12_nextCalled_91 (by decide) ?_
                      exact k1
                    · skip
                      first | (exfalso; omega) | exact absurd c83 (by decide) | exact absurd (by decide) c83
                · skip
                  first | (exfalso; omega) | exact absurd c40 (by decide) | exact absurd (by decide) c40
      · have k1 := ih (p + 1) o (by omega) (NX_skip hN (Or.inr (by rw [ip]; omega)))
        refine Rp.iload_n dX12_nextCalled_4 rfl ?_
        refine Rp.aload_n dX12_nextCalled_5 rfl rfl ?_
        refine Rp.getR dX12_nextCalled_6 fk_X12_24 rfl (S _ _ rfl) (R _ _ _ rfl) ?_
        refine Rp.bipush (nI 103) dX12_nextCalled_9 (by decide) ?_
        first | ((with_reducible show Rp _ _ _ _ (.int (nI _) :: _) _ _); refine Rp.ialoadN dX12_nextCalled_11 (S _ _ rfl) (by omega) ?_) | refine Rp.iaload dX12_nextCalled_11 (S _ _ rfl) (by first | assumption | exact vpb (by decide)) ?_
        first | rw [hM] | rw [e0] | rw [en] | skip
        first | ((with_reducible show Rp _ _ _ _ (.int (nI _) :: .int (nI _) :: _) _ _); refine Rp.icmp_geN (tgt := 94) dX12_nextCalled_12 (by decide) (by omega) (fun c12 => ?_) (fun c12 => ?_)) | refine Rp.icmp_ge (tgt := 94) dX12_nextCalled_12 (by decide) (fun c12 => ?_) (fun c12 => ?_)
        · skip
          first | (exfalso; omega) | exact absurd c12 (by decide) | exact absurd (by decide) c12
        · skip
          refine Rp.aload_n dX12_nextCalled_15 rfl rfl ?_
          refine Rp.iload_n dX12_nextCalled_16 rfl ?_
          refine Rp.callV1 M_X12_holds (ci := 12) dX12_nextCalled_17 mo_X12_holds lk_X12_351 (by decide) rfl rfl (S _ _ rfl) (Nat.le_of_ble_eq_true rfl) (Nat.le_of_ble_eq_true rfl) (ho) (fun v1 h1 p1 x1 => ?_)
          rw [p1.1, p1.2]
          try dsimp only [Option.toList, List.cons_append, List.nil_append, List.append]
          first | ((with_reducible show Rp _ _ _ _ (.int (b2i _) :: _) _ _); refine Rp.if_eqB (tgt := 88) dX12_nextCalled_20 (by decide) (fun c20 => ?_) (fun c20 => ?_)) | ((with_reducible show Rp _ _ _ _ (.int (nI _) :: _) _ _); refine Rp.if_eqN (tgt := 88) dX12_nextCalled_20 (by decide) (by omega) (fun c20 => ?_) (fun c20 => ?_)) | refine Rp.if_eq (tgt := 88) dX12_nextCalled_20 (by decide) (fun c20 => ?_) (fun c20 => ?_)
          · skip
            cases c20
          · skip
            refine Rp.aload_n dX12_nextCalled_23 rfl rfl ?_
            refine Rp.getR dX12_nextCalled_24 fk_X12_24 rfl (S _ _ rfl) (R _ _ _ rfl) ?_
            refine Rp.bipush (nI 67) dX12_nextCalled_27 (by decide) ?_
            refine Rp.aload_n dX12_nextCalled_29 rfl rfl ?_
            refine Rp.getR dX12_nextCalled_30 fk_X12_24 rfl (S _ _ rfl) (R _ _ _ rfl) ?_
            refine Rp.iconst (nI 0) dX12_nextCalled_33 (by decide) ?_
            refine Rp.iload_n dX12_nextCalled_34 rfl ?_
            first | ((with_reducible show Rp _ _ _ _ (.int (nI _) :: .int (nI _) :: _) _ _); refine Rp.iaddN dX12_nextCalled_35 ?_) | refine Rp.iadd dX12_nextCalled_35 ?_
            first | ((with_reducible show Rp _ _ _ _ (.int (nI _) :: _) _ _); refine Rp.ialoadN dX12_nextCalled_36 (S _ _ rfl) (by omega) ?_) | refine Rp.iaload dX12_nextCalled_36 (S _ _ rfl) (by first | assumption | exact vpb (by decide)) ?_
            first | rw [hM] | rw [e0] | rw [en] | skip
            first | ((with_reducible show Rp _ _ _ _ (.int (nI _) :: .int (nI _) :: _) _ _); refine Rp.iaddN dX12_nextCalled_37 ?_) | refine Rp.iadd dX12_nextCalled_37 ?_
            first | ((with_reducible show Rp _ _ _ _ (.int (nI _) :: _) _ _); refine Rp.ialoadN dX12_nextCalled_38 (S _ _ rfl) (by omega) ?_) | refine Rp.iaload dX12_nextCalled_38 (S _ _ rfl) (by first | assumption | exact vpb (by decide)) ?_
            first | rw [hM] | rw [e0] | rw [en] | skip
            refine Rp.iload_n dX12_nextCalled_39 rfl ?_
            first | ((with_reducible show Rp _ _ _ _ (.int (nI _) :: .int (nI _) :: _) _ _); refine Rp.icmp_gtN (tgt := 46) dX12_nextCalled_40 (by decide) (by omega) (fun c40 => ?_) (fun c40 => ?_)) | refine Rp.icmp_gt (tgt := 46) dX12_nextCalled_40 (by decide) (fun c40 => ?_) (fun c40 => ?_)
            · skip
              first | (exfalso; omega) | exact absurd c40 (by decide) | exact absurd (by decide) c40
            · skip
              refine Rp.goto (tgt := 88) dX12_nextCalled_43 (by decide) ?_
              first | ((with_reducible show Rp _ _ _ (_ :: _ :: _ :: some (.int (nI _)) :: _) _ _ _); refine Rp.inc3N (c := 1) dX12_nextCalled_88 (by first | exact nl2_some rfl | exact nl2_none) (by decide) ?_) | refine Rp.inc3 _ dX12_nextCalled_88 rfl (by first | exact nl2_some rfl | exact nl2_none) (by decide) ?_
              refine Rp.goto (tgt := 4) dX12_nextCalled_91 (by decide) ?_
              exact k1
theorem s_nextCalled (S : ShOK h) (R : RfOK h) (V : VN (gI h am_kept) nt) (VHh : VH (gI h am_kept) np nt) (hM : gI h am_kept 103 = nI np) {x : Nat} (hx : x < 1000) : Rp (d + 1) M_X12_nextCalled 0 [some (.ref aM), some (.int (nI x)), none, none] [] h (fun r h' => h' = h ∧ ∃ o', r = some (.int (oI o')) ∧ NX (gI h am_kept) (gI h am_kept) np x o') := by
  have k1 := next4 d S R V VHh hM hx np 0 none (by omega) (fun q hq => absurd hq (Nat.not_lt_zero _))
  refine Rp.iconst (-1) dX12_nextCalled_0 (by decide) ?_
  refine Rp.ist2 dX12_nextCalled_1 (by first | exact nl2_some rfl | exact nl2_none) (by decide) ?_
  refine Rp.iconst (nI 0) dX12_nextCalled_2 (by decide) ?_
  refine Rp.ist3 dX12_nextCalled_3 (by first | exact nl2_some rfl | exact nl2_none) (by decide) ?_
  exact k1
theorem desk5 (S : ShOK h) (R : RfOK h) (hnd : nd ≤ 3) (hD : gI h am_kept 105 = nI nd) {st : Nat → Bool} {op kd : Int32} (hst : ∀ e, e < nd → st e = bitB op (nI e)) {f : Nat → Nat} (hf : ∀ e, e < 3 → gI h am_freeAt e = nI (f e) ∧ f e < 2147483648) : ∀ (m e : Nat), e + m = nd → Rp (d + 1) M_X12_deskFor 5 [some (.ref aM), some (.int kd), some (.int op), some (.int (oI (dskF (gI h am_kept) st f kd e))), some (.int (nI e))] [] h (fun r h' => h' = h ∧ r = some (.int (oI (dskF (gI h am_kept) st f kd nd)))) := by
  intro m
  induction m with
  | zero =>
    intro e he
    have e1 : e = nd := by omega
    subst e1
    refine Rp.iload dX12_deskFor_5 rfl ?_
    refine Rp.aload_n dX12_deskFor_7 rfl rfl ?_
    refine Rp.getR dX12_deskFor_8 fk_X12_24 rfl (S _ _ rfl) (R _ _ _ rfl) ?_
    refine Rp.bipush (nI 105) dX12_deskFor_11 (by decide) ?_
    first | ((with_reducible show Rp _ _ _ _ (.int (nI _) :: _) _ _); refine Rp.ialoadN dX12_deskFor_13 (S _ _ rfl) (by omega) ?_) | refine Rp.iaload dX12_deskFor_13 (S _ _ rfl) (by first | assumption | exact vpb (by decide)) ?_
    first | rw [hD] | skip
    first | ((with_reducible show Rp _ _ _ _ (.int (nI _) :: .int (nI _) :: _) _ _); refine Rp.icmp_geN (tgt := 76) dX12_deskFor_14 (by decide) (by omega) (fun c14 => ?_) (fun c14 => ?_)) | refine Rp.icmp_ge (tgt := 76) dX12_deskFor_14 (by decide) (fun c14 => ?_) (fun c14 => ?_)
    · skip
      refine Rp.iload_n dX12_deskFor_76 rfl ?_
      refine Rp.ireturn dX12_deskFor_77 rfl ?_
      exact ⟨rfl, rfl⟩
    · skip
      first | (exfalso; omega) | exact absurd c14 (by decide) | exact absurd (by decide) c14
  | succ m ih =>
    intro e he
    have fe := (hf e (by omega)).1
    have fb := (hf e (by omega)).2
    have es := hst e (by omega)
    have i1 := s_isIn d (h := h) op (nI e)
    have i2 := s_isIn d (h := h) (gI h am_kept (83 + e)) kd
    have k1 := ih (e + 1) (by omega)
    rw [dskF] at k1
    by_cases q1 : op >>> (nI e &&& 31) &&& nI 1 = nI 1
    · rw [decide_eq_true q1] at i1
      by_cases q2 : gI h am_kept (83 + e) >>> (kd &&& 31) &&& nI 1 = nI 1
      · rw [decide_eq_true q2] at i2
        rw [if_pos (show (st e && bitB (gI h am_kept (83 + e)) kd) = true by rw [es]; unfold bitB; rw [decide_eq_true q1, decide_eq_true q2]; rfl)] at k1
        match hx : dskF (gI h am_kept) st f kd e with
        | none =>
          rw [hx] at k1
          dsimp only [oI] at k1 ⊢
          refine Rp.iload dX12_deskFor_5 rfl ?_
          refine Rp.aload_n dX12_deskFor_7 rfl rfl ?_
          refine Rp.getR dX12_deskFor_8 fk_X12_24 rfl (S _ _ rfl) (R _ _ _ rfl) ?_
          refine Rp.bipush (nI 105) dX12_deskFor_11 (by decide) ?_
          first | ((with_reducible show Rp _ _ _ _ (.int (nI _) :: _) _ _); refine Rp.ialoadN dX12_deskFor_13 (S _ _ rfl) (by omega) ?_) | refine Rp.iaload dX12_deskFor_13 (S _ _ rfl) (by first | assumption | exact vpb (by decide)) ?_
          first | rw [hD] | skip
          first | ((with_reducible show Rp _ _ _ _ (.int (nI _) :: .int (nI _) :: _) _ _); refine Rp.icmp_geN (tgt := 76) dX12_deskFor_14 (by decide) (by omega) (fun c14 => ?_) (fun c14 => ?_)) | refine Rp.icmp_ge (tgt := 76) dX12_deskFor_14 (by decide) (fun c14 => ?_) (fun c14 => ?_)
          · skip
            first | (exfalso; omega) | exact absurd c14 (by decide) | exact absurd (by decide) c14
          · skip
            refine Rp.iload_n dX12_deskFor_17 rfl ?_
            refine Rp.iload dX12_deskFor_18 rfl ?_
            refine Rp.callS2 M_X12_isIn dX12_deskFor_20 mo_X12_isIn lk_X12_381 (Nat.le_of_ble_eq_true rfl) (Nat.le_of_ble_eq_true rfl) (i1) (fun v1 h1 p1 x1 => ?_)
            rw [p1.1, p1.2]
            try dsimp only [Option.toList, List.cons_append, List.nil_append, List.append]
            first | ((with_reducible show Rp _ _ _ _ (.int (b2i _) :: _) _ _); refine Rp.if_eqB (tgt := 70) dX12_deskFor_23 (by decide) (fun c23 => ?_) (fun c23 => ?_)) | ((with_reducible show Rp _ _ _ _ (.int (nI _) :: _) _ _); refine Rp.if_eqN (tgt := 70) dX12_deskFor_23 (by decide) (by omega) (fun c23 => ?_) (fun c23 => ?_)) | refine Rp.if_eq (tgt := 70) dX12_deskFor_23 (by decide) (fun c23 => ?_) (fun c23 => ?_)
            · skip
              cases c23
            · skip
              refine Rp.aload_n dX12_deskFor_26 rfl rfl ?_
              refine Rp.getR dX12_deskFor_27 fk_X12_24 rfl (S _ _ rfl) (R _ _ _ rfl) ?_
              refine Rp.bipush (nI 83) dX12_deskFor_30 (by decide) ?_
              refine Rp.iload dX12_deskFor_32 rfl ?_
              first | ((with_reducible show Rp _ _ _ _ (.int (nI _) :: .int (nI _) :: _) _ _); refine Rp.iaddN dX12_deskFor_34 ?_) | refine Rp.iadd dX12_deskFor_34 ?_
              first | ((with_reducible show Rp _ _ _ _ (.int (nI _) :: _) _ _); refine Rp.ialoadN dX12_deskFor_35 (S _ _ rfl) (by omega) ?_) | refine Rp.iaload dX12_deskFor_35 (S _ _ rfl) (by first | assumption | exact vpb (by decide)) ?_
              first | rw [hD] | skip
              refine Rp.iload_n dX12_deskFor_36 rfl ?_
              refine Rp.callS2 M_X12_isIn dX12_deskFor_37 mo_X12_isIn lk_X12_381 (Nat.le_of_ble_eq_true rfl) (Nat.le_of_ble_eq_true rfl) (i2) (fun v1 h1 p1 x1 => ?_)
              rw [p1.1, p1.2]
              try dsimp only [Option.toList, List.cons_append, List.nil_append, List.append]
              first | ((with_reducible show Rp _ _ _ _ (.int (b2i _) :: _) _ _); refine Rp.if_neB (tgt := 46) dX12_deskFor_40 (by decide) (fun c40 => ?_) (fun c40 => ?_)) | ((with_reducible show Rp _ _ _ _ (.int (nI _) :: _) _ _); refine Rp.if_neN (tgt := 46) dX12_deskFor_40 (by decide) (by omega) (fun c40 => ?_) (fun c40 => ?_)) | refine Rp.if_ne (tgt := 46) dX12_deskFor_40 (by decide) (fun c40 => ?_) (fun c40 => ?_)
              · skip
                refine Rp.iload_n dX12_deskFor_46 rfl ?_
                refine Rp.iconst (-1) dX12_deskFor_47 (by decide) ?_
                first | ((with_reducible show Rp _ _ _ _ (.int (nI _) :: .int (nI _) :: _) _ _); refine Rp.icmp_eqN (tgt := 67) dX12_deskFor_48 (by decide) (by omega) (fun c48 => ?_) (fun c48 => ?_)) | refine Rp.icmp_eq (tgt := 67) dX12_deskFor_48 (by decide) (fun c48 => ?_) (fun c48 => ?_)
                · skip
                  refine Rp.iload dX12_deskFor_67 rfl ?_
                  refine Rp.ist3 dX12_deskFor_69 (by first | exact nl2_some rfl | exact nl2_none) (by decide) ?_
                  first | ((with_reducible show Rp _ _ _ (_ :: _ :: _ :: _ :: some (.int (nI _)) :: _) _ _ _); refine Rp.inc4N (c := 1) dX12_deskFor_70 (by first | exact nl2_some rfl | exact nl2_none) (by decide) ?_) | refine Rp.inc4 _ dX12_deskFor_70 rfl (by first | exact nl2_some rfl | exact nl2_none) (by decide) ?_
                  refine Rp.goto (tgt := 5) dX12_deskFor_73 (by decide) ?_
                  exact k1
                · skip
                  exact absurd rfl c48
              · skip
                cases c40
        | some u =>
          have hu := dskF_lt e u hx
          have fu := (hf u (by omega)).1
          have fub := (hf u (by omega)).2
          have om : ¬ nI u = -1 := nI_m1 (by omega)
          rw [hx] at k1
          dsimp only at k1
          by_cases z : f e < f u
          · rw [if_pos z] at k1
            dsimp only [oI] at k1 ⊢
            refine Rp.iload dX12_deskFor_5 rfl ?_
            refine Rp.aload_n dX12_deskFor_7 rfl rfl ?_
            refine Rp.getR dX12_deskFor_8 fk_X12_24 rfl (S _ _ rfl) (R _ _ _ rfl) ?_
            refine Rp.bipush (nI 105) dX12_deskFor_11 (by decide) ?_
            first | ((with_reducible show Rp _ _ _ _ (.int (nI _) :: _) _ _); refine Rp.ialoadN dX12_deskFor_13 (S _ _ rfl) (by omega) ?_) | refine Rp.iaload dX12_deskFor_13 (S _ _ rfl) (by first | assumption | exact vpb (by decide)) ?_
            first | rw [hD] | rw [fe] | rw [fu] | skip
            first | ((with_reducible show Rp _ _ _ _ (.int (nI _) :: .int (nI _) :: _) _ _); refine Rp.icmp_geN (tgt := 76) dX12_deskFor_14 (by decide) (by omega) (fun c14 => ?_) (fun c14 => ?_)) | refine Rp.icmp_ge (tgt := 76) dX12_deskFor_14 (by decide) (fun c14 => ?_) (fun c14 => ?_)
            · skip
              first | (exfalso; omega) | exact absurd c14 (by decide) | exact absurd (by decide) c14
            · skip
              refine Rp.iload_n dX12_deskFor_17 rfl ?_
              refine Rp.iload dX12_deskFor_18 rfl ?_
              refine Rp.callS2 M_X12_isIn dX12_deskFor_20 mo_X12_isIn lk_X12_381 (Nat.le_of_ble_eq_true rfl) (Nat.le_of_ble_eq_true rfl) (i1) (fun v1 h1 p1 x1 => ?_)
              rw [p1.1, p1.2]
              try dsimp only [Option.toList, List.cons_append, List.nil_append, List.append]
              first | ((with_reducible show Rp _ _ _ _ (.int (b2i _) :: _) _ _); refine Rp.if_eqB (tgt := 70) dX12_deskFor_23 (by decide) (fun c23 => ?_) (fun c23 => ?_)) | ((with_reducible show Rp _ _ _ _ (.int (nI _) :: _) _ _); refine Rp.if_eqN (tgt := 70) dX12_deskFor_23 (by decide) (by omega) (fun c23 => ?_) (fun c23 => ?_)) | refine Rp.if_eq (tgt := 70) dX12_deskFor_23 (by decide) (fun c23 => ?_) (fun c23 => ?_)
              · skip
                cases c23
              · skip
                refine Rp.aload_n dX12_deskFor_26 rfl rfl ?_
                refine Rp.getR dX12_deskFor_27 fk_X12_24 rfl (S _ _ rfl) (R _ _ _ rfl) ?_
                refine Rp.bipush (nI 83) dX12_deskFor_30 (by decide) ?_
                refine Rp.iload dX12_deskFor_32 rfl ?_
                first | ((with_reducible show Rp _ _ _ _ (.int (nI _) :: .int (nI _) :: _) _ _); refine Rp.iaddN dX12_deskFor_34 ?_) | refine Rp.iadd dX12_deskFor_34 ?_
                first | ((with_reducible show Rp _ _ _ _ (.int (nI _) :: _) _ _); refine Rp.ialoadN dX12_deskFor_35 (S _ _ rfl) (by omega) ?_) | refine Rp.iaload dX12_deskFor_35 (S _ _ rfl) (by first | assumption | exact vpb (by decide)) ?_
                first | rw [hD] | rw [fe] | rw [fu] | skip
                refine Rp.iload_n dX12_deskFor_36 rfl ?_
                refine Rp.callS2 M_X12_isIn dX12_deskFor_37 mo_X12_isIn lk_X12_381 (Nat.le_of_ble_eq_true rfl) (Nat.le_of_ble_eq_true rfl) (i2) (fun v1 h1 p1 x1 => ?_)
                rw [p1.1, p1.2]
                try dsimp only [Option.toList, List.cons_append, List.nil_append, List.append]
                first | ((with_reducible show Rp _ _ _ _ (.int (b2i _) :: _) _ _); refine Rp.if_neB (tgt := 46) dX12_deskFor_40 (by decide) (fun c40 => ?_) (fun c40 => ?_)) | ((with_reducible show Rp _ _ _ _ (.int (nI _) :: _) _ _); refine Rp.if_neN (tgt := 46) dX12_deskFor_40 (by decide) (by omega) (fun c40 => ?_) (fun c40 => ?_)) | refine Rp.if_ne (tgt := 46) dX12_deskFor_40 (by decide) (fun c40 => ?_) (fun c40 => ?_)
                · skip
                  refine Rp.iload_n dX12_deskFor_46 rfl ?_
                  refine Rp.iconst (-1) dX12_deskFor_47 (by decide) ?_
                  first | ((with_reducible show Rp _ _ _ _ (.int (nI _) :: .int (nI _) :: _) _ _); refine Rp.icmp_eqN (tgt := 67) dX12_deskFor_48 (by decide) (by omega) (fun c48 => ?_) (fun c48 => ?_)) | refine Rp.icmp_eq (tgt := 67) dX12_deskFor_48 (by decide) (fun c48 => ?_) (fun c48 => ?_)
                  · skip
                    exact absurd c48 om
                  · skip
                    refine Rp.aload_n dX12_deskFor_51 rfl rfl ?_
                    refine Rp.getR dX12_deskFor_52 fk_X12_77 rfl (S _ _ rfl) (R _ _ _ rfl) ?_
                    refine Rp.iload dX12_deskFor_55 rfl ?_
                    first | ((with_reducible show Rp _ _ _ _ (.int (nI _) :: _) _ _); refine Rp.ialoadN dX12_deskFor_57 (S _ _ rfl) (by omega) ?_) | refine Rp.iaload dX12_deskFor_57 (S _ _ rfl) (by first | assumption | exact vpb (by decide)) ?_
                    first | rw [hD] | rw [fe] | rw [fu] | skip
                    refine Rp.aload_n dX12_deskFor_58 rfl rfl ?_
                    refine Rp.getR dX12_deskFor_59 fk_X12_77 rfl (S _ _ rfl) (R _ _ _ rfl) ?_
                    refine Rp.iload_n dX12_deskFor_62 rfl ?_
                    first | ((with_reducible show Rp _ _ _ _ (.int (nI _) :: _) _ _); refine Rp.ialoadN dX12_deskFor_63 (S _ _ rfl) (by omega) ?_) | refine Rp.iaload dX12_deskFor_63 (S _ _ rfl) (by first | assumption | exact vpb (by decide)) ?_
                    first | rw [hD] | rw [fe] | rw [fu] | skip
                    first | ((with_reducible show Rp _ _ _ _ (.int (nI _) :: .int (nI _) :: _) _ _); refine Rp.icmp_geN (tgt := 70) dX12_deskFor_64 (by decide) (by omega) (fun c64 => ?_) (fun c64 => ?_)) | refine Rp.icmp_ge (tgt := 70) dX12_deskFor_64 (by decide) (fun c64 => ?_) (fun c64 => ?_)
                    · skip
                      first | (exfalso; omega) | exact absurd c64 (by decide) | exact absurd (by decide) c64
                    · skip
                      refine Rp.iload dX12_deskFor_67 rfl ?_
                      refine Rp.ist3 dX12_deskFor_69 (by first | exact nl2_some rfl | exact nl2_none) (by decide) ?_
                      first | ((with_reducible show Rp _ _ _ (_ :: _ :: _ :: _ :: some (.int (nI _)) :: _) _ _ _); refine Rp.inc4N (c := 1) dX12_deskFor_70 (by first | exact nl2_some rfl | exact nl2_none) (by decide) ?_) | refine Rp.inc4 _ dX12_deskFor_70 rfl (by first | exact nl2_some rfl | exact nl2_none) (by decide) ?_
                      refine Rp.goto (tgt := 5) dX12_deskFor_73 (by decide) ?_
                      exact k1
                · skip
                  cases c40
          · rw [if_neg z] at k1
            dsimp only [oI] at k1 ⊢
            refine Rp.iload dX12_deskFor_5 rfl ?_
            refine Rp.aload_n dX12_deskFor_7 rfl rfl ?_
            refine Rp.getR dX12_deskFor_8 fk_X12_24 rfl (S _ _ rfl) (R _ _ _ rfl) ?_
            refine Rp.bipush (nI 105) dX12_deskFor_11 (by decide) ?_
            first | ((with_reducible show Rp _ _ _ _ (.int (nI _) :: _) _ _); refine Rp.ialoadN dX12_deskFor_13 (S _ _ rfl) (by omega) ?_) | refine Rp.iaload dX12_deskFor_13 (S _ _ rfl) (by first | assumption | exact vpb (by decide)) ?_
            first | rw [hD] | rw [fe] | rw [fu] | skip
            first | ((with_reducible show Rp _ _ _ _ (.int (nI _) :: .int (nI _) :: _) _ _); refine Rp.icmp_geN (tgt := 76) dX12_deskFor_14 (by decide) (by omega) (fun c14 => ?_) (fun c14 => ?_)) | refine Rp.icmp_ge (tgt := 76) dX12_deskFor_14 (by decide) (fun c14 => ?_) (fun c14 => ?_)
            · skip
              first | (exfalso; omega) | exact absurd c14 (by decide) | exact absurd (by decide) c14
            · skip
              refine Rp.iload_n dX12_deskFor_17 rfl ?_
              refine Rp.iload dX12_deskFor_18 rfl ?_
              refine Rp.callS2 M_X12_isIn dX12_deskFor_20 mo_X12_isIn lk_X12_381 (Nat.le_of_ble_eq_true rfl) (Nat.le_of_ble_eq_true rfl) (i1) (fun v1 h1 p1 x1 => ?_)
              rw [p1.1, p1.2]
              try dsimp only [Option.toList, List.cons_append, List.nil_append, List.append]
              first | ((with_reducible show Rp _ _ _ _ (.int (b2i _) :: _) _ _); refine Rp.if_eqB (tgt := 70) dX12_deskFor_23 (by decide) (fun c23 => ?_) (fun c23 => ?_)) | ((with_reducible show Rp _ _ _ _ (.int (nI _) :: _) _ _); refine Rp.if_eqN (tgt := 70) dX12_deskFor_23 (by decide) (by omega) (fun c23 => ?_) (fun c23 => ?_)) | refine Rp.if_eq (tgt := 70) dX12_deskFor_23 (by decide) (fun c23 => ?_) (fun c23 => ?_)
              · skip
                cases c23
              · skip
                refine Rp.aload_n dX12_deskFor_26 rfl rfl ?_
                refine Rp.getR dX12_deskFor_27 fk_X12_24 rfl (S _ _ rfl) (R _ _ _ rfl) ?_
                refine Rp.bipush (nI 83) dX12_deskFor_30 (by decide) ?_
                refine Rp.iload dX12_deskFor_32 rfl ?_
                first | ((with_reducible show Rp _ _ _ _ (.int (nI _) :: .int (nI _) :: _) _ _); refine Rp.iaddN dX12_deskFor_34 ?_) | refine Rp.iadd dX12_deskFor_34 ?_
                first | ((with_reducible show Rp _ _ _ _ (.int (nI _) :: _) _ _); refine Rp.ialoadN dX12_deskFor_35 (S _ _ rfl) (by omega) ?_) | refine Rp.iaload dX12_deskFor_35 (S _ _ rfl) (by first | assumption | exact vpb (by decide)) ?_
                first | rw [hD] | rw [fe] | rw [fu] | skip
                refine Rp.iload_n dX12_deskFor_36 rfl ?_
                refine Rp.callS2 M_X12_isIn dX12_deskFor_37 mo_X12_isIn lk_X12_381 (Nat.le_of_ble_eq_true rfl) (Nat.le_of_ble_eq_true rfl) (i2) (fun v1 h1 p1 x1 => ?_)
                rw [p1.1, p1.2]
                try dsimp only [Option.toList, List.cons_append, List.nil_append, List.append]
                first | ((with_reducible show Rp _ _ _ _ (.int (b2i _) :: _) _ _); refine Rp.if_neB (tgt := 46) dX12_deskFor_40 (by decide) (fun c40 => ?_) (fun c40 => ?_)) | ((with_reducible show Rp _ _ _ _ (.int (nI _) :: _) _ _); refine Rp.if_neN (tgt := 46) dX12_deskFor_40 (by decide) (by omega) (fun c40 => ?_) (fun c40 => ?_)) | refine Rp.if_ne (tgt := 46) dX12_deskFor_40 (by decide) (fun c40 => ?_) (fun c40 => ?_)
                · skip
                  refine Rp.iload_n dX12_deskFor_46 rfl ?_
                  refine Rp.iconst (-1) dX12_deskFor_47 (by decide) ?_
                  first | ((with_reducible show Rp _ _ _ _ (.int (nI _) :: .int (nI _) :: _) _ _); refine Rp.icmp_eqN (tgt := 67) dX12_deskFor_48 (by decide) (by omega) (fun c48 => ?_) (fun c48 => ?_)) | refine Rp.icmp_eq (tgt := 67) dX12_deskFor_48 (by decide) (fun c48 => ?_) (fun c48 => ?_)
                  · skip
                    exact absurd c48 om
                  · skip
                    refine Rp.aload_n dX12_deskFor_51 rfl rfl ?_
                    refine Rp.getR dX12_deskFor_52 fk_X12_77 rfl (S _ _ rfl) (R _ _ _ rfl) ?_
                    refine Rp.iload dX12_deskFor_55 rfl ?_
                    first | ((with_reducible show Rp _ _ _ _ (.int (nI _) :: _) _ _); refine Rp.ialoadN dX12_deskFor_57 (S _ _ rfl) (by omega) ?_) | refine Rp.iaload dX12_deskFor_57 (S _ _ rfl) (by first | assumption | exact vpb (by decide)) ?_
                    first | rw [hD] | rw [fe] | rw [fu] | skip
                    refine Rp.aload_n dX12_deskFor_58 rfl rfl ?_
                    refine Rp.getR dX12_deskFor_59 fk_X12_77 rfl (S _ _ rfl) (R _ _ _ rfl) ?_
                    refine Rp.iload_n dX12_deskFor_62 rfl ?_
                    first | ((with_reducible show Rp _ _ _ _ (.int (nI _) :: _) _ _); refine Rp.ialoadN dX12_deskFor_63 (S _ _ rfl) (by omega) ?_) | refine Rp.iaload dX12_deskFor_63 (S _ _ rfl) (by first | assumption | exact vpb (by decide)) ?_
                    first | rw [hD] | rw [fe] | rw [fu] | skip
                    first | ((with_reducible show Rp _ _ _ _ (.int (nI _) :: .int (nI _) :: _) _ _); refine Rp.icmp_geN (tgt := 70) dX12_deskFor_64 (by decide) (by omega) (fun c64 => ?_) (fun c64 => ?_)) | refine Rp.icmp_ge (tgt := 70) dX12_deskFor_64 (by decide) (fun c64 => ?_) (fun c64 => ?_)
                    · skip
                      first | ((with_reducible show Rp _ _ _ (_ :: _ :: _ :: _ :: some (.int (nI _)) :: _) _ _ _); refine Rp.inc4N (c := 1) dX12_deskFor_70 (by first | exact nl2_some rfl | exact nl2_none) (by decide) ?_) | refine Rp.inc4 _ dX12_deskFor_70 rfl (by first | exact nl2_some rfl | exact nl2_none) (by decide) ?_
                      refine Rp.goto (tgt := 5) dX12_deskFor_73 (by decide) ?_
                      exact k1
                    · skip
                      first | (exfalso; omega) | exact absurd c64 (by decide) | exact absurd (by decide) c64
                · skip
                  cases c40
      · rw [decide_eq_false q2] at i2
        rw [if_neg (show ¬ (st e && bitB (gI h am_kept (83 + e)) kd) = true by unfold bitB; rw [decide_eq_false q2, Bool.and_false]; decide)] at k1
        refine Rp.iload dX12_deskFor_5 rfl ?_
        refine Rp.aload_n dX12_deskFor_7 rfl rfl ?_
        refine Rp.getR dX12_deskFor_8 fk_X12_24 rfl (S _ _ rfl) (R _ _ _ rfl) ?_
        refine Rp.bipush (nI 105) dX12_deskFor_11 (by decide) ?_
        first | ((with_reducible show Rp _ _ _ _ (.int (nI _) :: _) _ _); refine Rp.ialoadN dX12_deskFor_13 (S _ _ rfl) (by omega) ?_) | refine Rp.iaload dX12_deskFor_13 (S _ _ rfl) (by first | assumption | exact vpb (by decide)) ?_
        first | rw [hD] | skip
        first | ((with_reducible show Rp _ _ _ _ (.int (nI _) :: .int (nI _) :: _) _ _); refine Rp.icmp_geN (tgt := 76) dX12_deskFor_14 (by decide) (by omega) (fun c14 => ?_) (fun c14 => ?_)) | refine Rp.icmp_ge (tgt := 76) dX12_deskFor_14 (by decide) (fun c14 => ?_) (fun c14 => ?_)
        · skip
          first | (exfalso; omega) | exact absurd c14 (by decide) | exact absurd (by decide) c14
        · skip
          refine Rp.iload_n dX12_deskFor_17 rfl ?_
          refine Rp.iload dX12_deskFor_18 rfl ?_
          refine Rp.callS2 M_X12_isIn dX12_deskFor_20 mo_X12_isIn lk_X12_381 (Nat.le_of_ble_eq_true rfl) (Nat.le_of_ble_eq_true rfl) (i1) (fun v1 h1 p1 x1 => ?_)
          rw [p1.1, p1.2]
          try dsimp only [Option.toList, List.cons_append, List.nil_append, List.append]
          first | ((with_reducible show Rp _ _ _ _ (.int (b2i _) :: _) _ _); refine Rp.if_eqB (tgt := 70) dX12_deskFor_23 (by decide) (fun c23 => ?_) (fun c23 => ?_)) | ((with_reducible show Rp _ _ _ _ (.int (nI _) :: _) _ _); refine Rp.if_eqN (tgt := 70) dX12_deskFor_23 (by decide) (by omega) (fun c23 => ?_) (fun c23 => ?_)) | refine Rp.if_eq (tgt := 70) dX12_deskFor_23 (by decide) (fun c23 => ?_) (fun c23 => ?_)
          · skip
            cases c23
          · skip
            refine Rp.aload_n dX12_deskFor_26 rfl rfl ?_
            refine Rp.getR dX12_deskFor_27 fk_X12_24 rfl (S _ _ rfl) (R _ _ _ rfl) ?_
            refine Rp.bipush (nI 83) dX12_deskFor_30 (by decide) ?_
            refine Rp.iload dX12_deskFor_32 rfl ?_
            first | ((with_reducible show Rp _ _ _ _ (.int (nI _) :: .int (nI _) :: _) _ _); refine Rp.iaddN dX12_deskFor_34 ?_) | refine Rp.iadd dX12_deskFor_34 ?_
            first | ((with_reducible show Rp _ _ _ _ (.int (nI _) :: _) _ _); refine Rp.ialoadN dX12_deskFor_35 (S _ _ rfl) (by omega) ?_) | refine Rp.iaload dX12_deskFor_35 (S _ _ rfl) (by first | assumption | exact vpb (by decide)) ?_
            first | rw [hD] | skip
            refine Rp.iload_n dX12_deskFor_36 rfl ?_
            refine Rp.callS2 M_X12_isIn dX12_deskFor_37 mo_X12_isIn lk_X12_381 (Nat.le_of_ble_eq_true rfl) (Nat.le_of_ble_eq_true rfl) (i2) (fun v1 h1 p1 x1 => ?_)
            rw [p1.1, p1.2]
            try dsimp only [Option.toList, List.cons_append, List.nil_append, List.append]
            first | ((with_reducible show Rp _ _ _ _ (.int (b2i _) :: _) _ _); refine Rp.if_neB (tgt := 46) dX12_deskFor_40 (by decide) (fun c40 => ?_) (fun c40 => ?_)) | ((with_reducible show Rp _ _ _ _ (.int (nI _) :: _) _ _); refine Rp.if_neN (tgt := 46) dX12_deskFor_40 (by decide) (by omega) (fun c40 => ?_) (fun c40 => ?_)) | refine Rp.if_ne (tgt := 46) dX12_deskFor_40 (by decide) (fun c40 => ?_) (fun c40 => ?_)
            · skip
              cases c40
            · skip
              refine Rp.goto (tgt := 70) dX12_deskFor_43 (by decide) ?_
              first | ((with_reducible show Rp _ _ _ (_ :: _ :: _ :: _ :: some (.int (nI _)) :: _) _ _ _); refine Rp.inc4N (c := 1) dX12_deskFor_70 (by first | exact nl2_some rfl | exact nl2_none) (by decide) ?_) | refine Rp.inc4 _ dX12_deskFor_70 rfl (by first | exact nl2_some rfl | exact nl2_none) (by decide) ?_
              refine Rp.goto (tgt := 5) dX12_deskFor_73 (by decide) ?_
              exact k1
    · rw [decide_eq_false q1] at i1
      rw [if_neg (show ¬ (st e && bitB (gI h am_kept (83 + e)) kd) = true by rw [es]; unfold bitB; rw [decide_eq_false q1, Bool.false_and]; decide)] at k1
      refine Rp.iload dX12_deskFor_5 rfl ?_
      refine Rp.aload_n dX12_deskFor_7 rfl rfl ?_
      refine Rp.getR dX12_deskFor_8 fk_X12_24 rfl (S _ _ rfl) (R _ _ _ rfl) ?_
      refine Rp.bipush (nI 105) dX12_deskFor_11 (by decide) ?_
      first | ((with_reducible show Rp _ _ _ _ (.int (nI _) :: _) _ _); refine Rp.ialoadN dX12_deskFor_13 (S _ _ rfl) (by omega) ?_) | refine Rp.iaload dX12_deskFor_13 (S _ _ rfl) (by first | assumption | exact vpb (by decide)) ?_
      first | rw [hD] | skip
      first | ((with_reducible show Rp _ _ _ _ (.int (nI _) :: .int (nI _) :: _) _ _); refine Rp.icmp_geN (tgt := 76) dX12_deskFor_14 (by decide) (by omega) (fun c14 => ?_) (fun c14 => ?_)) | refine Rp.icmp_ge (tgt := 76) dX12_deskFor_14 (by decide) (fun c14 => ?_) (fun c14 => ?_)
      · skip
        first | (exfalso; omega) | exact absurd c14 (by decide) | exact absurd (by decide) c14
      · skip
        refine Rp.iload_n dX12_deskFor_17 rfl ?_
        refine Rp.iload dX12_deskFor_18 rfl ?_
        refine Rp.callS2 M_X12_isIn dX12_deskFor_20 mo_X12_isIn lk_X12_381 (Nat.le_of_ble_eq_true rfl) (Nat.le_of_ble_eq_true rfl) (i1) (fun v1 h1 p1 x1 => ?_)
        rw [p1.1, p1.2]
        try dsimp only [Option.toList, List.cons_append, List.nil_append, List.append]
        first | ((with_reducible show Rp _ _ _ _ (.int (b2i _) :: _) _ _); refine Rp.if_eqB (tgt := 70) dX12_deskFor_23 (by decide) (fun c23 => ?_) (fun c23 => ?_)) | ((with_reducible show Rp _ _ _ _ (.int (nI _) :: _) _ _); refine Rp.if_eqN (tgt := 70) dX12_deskFor_23 (by decide) (by omega) (fun c23 => ?_) (fun c23 => ?_)) | refine Rp.if_eq (tgt := 70) dX12_deskFor_23 (by decide) (fun c23 => ?_) (fun c23 => ?_)
        · skip
          first | ((with_reducible show Rp _ _ _ (_ :: _ :: _ :: _ :: some (.int (nI _)) :: _) _ _ _); refine Rp.inc4N (c := 1) dX12_deskFor_70 (by first | exact nl2_some rfl | exact nl2_none) (by decide) ?_) | refine Rp.inc4 _ dX12_deskFor_70 rfl (by first | exact nl2_some rfl | exact nl2_none) (by decide) ?_
          refine Rp.goto (tgt := 5) dX12_deskFor_73 (by decide) ?_
          exact k1
        · skip
          cases c23
theorem s_deskFor (S : ShOK h) (R : RfOK h) (hnd : nd ≤ 3) (hD : gI h am_kept 105 = nI nd) {st : Nat → Bool} {op kd : Int32} (hst : ∀ e, e < nd → st e = bitB op (nI e)) {f : Nat → Nat} (hf : ∀ e, e < 3 → gI h am_freeAt e = nI (f e) ∧ f e < 2147483648) : Rp (d + 1) M_X12_deskFor 0 [some (.ref aM), some (.int kd), some (.int op), none, none] [] h (fun r h' => h' = h ∧ r = some (.int (oI (dskF (gI h am_kept) st f kd nd)))) := by
  have k1 := desk5 d S R hnd hD hst hf (kd := kd) nd 0 (by omega)
  refine Rp.iconst (-1) dX12_deskFor_0 (by decide) ?_
  refine Rp.ist3 dX12_deskFor_1 (by first | exact nl2_some rfl | exact nl2_none) (by decide) ?_
  refine Rp.iconst (nI 0) dX12_deskFor_2 (by decide) ?_
  refine Rp.ist4 dX12_deskFor_3 (by first | exact nl2_some rfl | exact nl2_none) (by decide) ?_
  exact k1
end Md
