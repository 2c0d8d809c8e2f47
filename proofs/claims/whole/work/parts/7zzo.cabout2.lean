section Ca
variable (d : Nat) {h : AH} {K : Nat → Int32} {np nt nd nl : Nat} {LSs : Nat → List CLE} {E : List Int32}
/-- the class's about -/
theorem t_about (S : ShOK h) (R : RfOK h) (G : HG h 1 K np nt nd nl LSs E) (V : VH K np nt) (B : KB K) (VNn : VN K nt) (VDd : VD K nd) (hz : ∀ j, 9 ≤ j → gI h 43 j = 0) {kn : Bool} (h7 : gI h 52 7 = b2i kn) (hk : kn = true → RSab h (abR K (flO nl LSs (K 108)) nd np nt)) (w : Int32) : Rp (d + 13) M_X11_about 0 [some (.ref 0), some (.int w)] [] h (fun r h' => r = some (.int (abA np (abR K (flO nl LSs (K 108)) nd np nt) w)) ∧ Fr faX h h' ∧ ShOK h' ∧ RfOK h' ∧ (∀ j, 9 ≤ j → gI h' 43 j = 0) ∧ ∃ kn', gI h' 52 7 = b2i kn' ∧ (kn' = true → RSab h' (abR K (flO nl LSs (K 108)) nd np nt))) := by
  have v1 := V.1
  have a0 : gI h 1 0 = nI np := G.1.2.1
  unfold abA
  by_cases e : inN w (np + 2) = true
  · rw [if_pos e]
    obtain ⟨q, hq, rfl⟩ := (inN_iff (by omega)).mp e
    rw [ix_nI (by omega)]
    have fa := t_findAbout d S R G V B VNn VDd hz h7 hk
    generalize abR K (flO nl LSs (K 108)) nd np nt = s at fa
    have n0 : ¬ nI q < 0 := by rw [i32_lt, nI_toInt (by omega)]; exact Int.not_lt.mpr (Int.natCast_nonneg _)
    refine Rp.iload_n dX11_about_0 rfl ?_
    refine Rp.if_lt (tgt := 17) dX11_about_1 (by decide) (fun c1 => ?_) (fun c1 => ?_)
    · exact absurd c1 n0
    refine Rp.iload_n dX11_about_4 rfl ?_
    refine Rp.iconst (nI 2) dX11_about_5 (by decide) ?_
    refine Rp.aload_n dX11_about_6 rfl rfl ?_
    refine Rp.getR dX11_about_7 fk_X11_10 rfl (S _ _ rfl) (R _ _ _ rfl) ?_
    refine Rp.getI dX11_about_10 fk_X11_280 rfl (S _ _ rfl) ?_
    first | rw [a0] | skip
    first | ((with_reducible show Rp _ _ _ _ (.int (nI _) :: .int (nI _) :: _) _ _); refine Rp.iaddN dX11_about_13 ?_) | refine Rp.iadd dX11_about_13 ?_
    first | ((with_reducible show Rp _ _ _ _ (.int (nI _) :: .int (nI _) :: _) _ _); refine Rp.icmp_ltN (tgt := 19) dX11_about_14 (by decide) (by omega) (fun c14 => ?_) (fun c14 => ?_)) | refine Rp.icmp_lt (tgt := 19) dX11_about_14 (by decide) (fun c14 => ?_) (fun c14 => ?_)
    rotate_left
    · first | (exfalso; omega) | exact absurd c14 (by decide) | exact absurd (by decide) c14
    refine Rp.aload_n dX11_about_19 rfl rfl ?_
    refine Rp.getR dX11_about_20 fk_X11_64 rfl (S _ _ rfl) (R _ _ _ rfl) ?_
    refine Rp.aload_n dX11_about_23 rfl rfl ?_
    refine Rp.getR dX11_about_24 fk_X11_10 rfl (S _ _ rfl) (R _ _ _ rfl) ?_
    refine Rp.callV1 M_X6_findAbout (ci := 6) dX11_about_27 mo_X6_findAbout lk_X11_283 (by decide) rfl rfl (S _ _ rfl) (Nat.le_of_ble_eq_true rfl) (Nat.le_of_ble_eq_true rfl) (fa) (fun v1 h1 p1 x1 => ?_)
    obtain ⟨rfl, F1, S1, R1, z1, z7, r1⟩ := p1
    try dsimp only [Option.toList, List.cons_append, List.nil_append, List.append]
    skip
    have ff : ∃ kn', gI h1 52 7 = b2i kn' ∧ (kn' = true → RSab h1 s) := ⟨true, z7, fun _ => r1⟩
    match s, r1, ff with
    | none, r1, ff =>
      have q10 : gI h1 52 10 = -1 := r1
      refine Rp.aload_n dX11_about_30 rfl rfl ?_
      refine Rp.getR dX11_about_31 fk_X11_64 rfl (S1 _ _ rfl) (R1 _ _ _ rfl) ?_
      refine Rp.getI dX11_about_34 fk_X11_286 rfl (S1 _ _ rfl) ?_
      first | rw [q10] | skip
      refine Rp.iconst (-1) dX11_about_37 (by decide) ?_
      first | ((with_reducible show Rp _ _ _ _ (.int (nI _) :: .int (nI _) :: _) _ _); refine Rp.icmp_neN (tgt := 43) dX11_about_38 (by decide) (by omega) (fun c38 => ?_) (fun c38 => ?_)) | refine Rp.icmp_ne (tgt := 43) dX11_about_38 (by decide) (fun c38 => ?_) (fun c38 => ?_)
      · skip
        exact absurd rfl c38
      · skip
        refine Rp.iconst (-1) dX11_about_41 (by decide) ?_
        refine Rp.ireturn dX11_about_42 rfl ?_
        exact ⟨rfl, F1, S1, R1, z1, ff⟩
    | some (f, a, Bf), r1, ff =>
      have q10 : gI h1 52 10 = nI f := r1.1
      have q11 : gI h1 52 11 = nI a := r1.2.1
      have nf : ¬ nI f = -1 := nI_m1 (by have := r1.2.2.2.1; omega)
      dsimp only
      by_cases c0 : q = 0
      · subst c0
        rw [if_pos rfl]
        refine Rp.aload_n dX11_about_30 rfl rfl ?_
        refine Rp.getR dX11_about_31 fk_X11_64 rfl (S1 _ _ rfl) (R1 _ _ _ rfl) ?_
        refine Rp.getI dX11_about_34 fk_X11_286 rfl (S1 _ _ rfl) ?_
        first | rw [q10] | skip
        refine Rp.iconst (-1) dX11_about_37 (by decide) ?_
        first | ((with_reducible show Rp _ _ _ _ (.int (nI _) :: .int (nI _) :: _) _ _); refine Rp.icmp_neN (tgt := 43) dX11_about_38 (by decide) (by omega) (fun c38 => ?_) (fun c38 => ?_)) | refine Rp.icmp_ne (tgt := 43) dX11_about_38 (by decide) (fun c38 => ?_) (fun c38 => ?_)
        · skip
          refine Rp.iload_n dX11_about_43 rfl ?_
          first | ((with_reducible show Rp _ _ _ _ (.int (b2i _) :: _) _ _); refine Rp.if_neB (tgt := 55) dX11_about_44 (by decide) (fun c44 => ?_) (fun c44 => ?_)) | ((with_reducible show Rp _ _ _ _ (.int (nI _) :: _) _ _); refine Rp.if_neN (tgt := 55) dX11_about_44 (by decide) (by omega) (fun c44 => ?_) (fun c44 => ?_)) | refine Rp.if_ne (tgt := 55) dX11_about_44 (by decide) (fun c44 => ?_) (fun c44 => ?_)
          · skip
            first | (exfalso; omega) | exact absurd c44 (by decide) | exact absurd (by decide) c44
          · skip
            refine Rp.aload_n dX11_about_47 rfl rfl ?_
            refine Rp.getR dX11_about_48 fk_X11_64 rfl (S1 _ _ rfl) (R1 _ _ _ rfl) ?_
            refine Rp.getI dX11_about_51 fk_X11_286 rfl (S1 _ _ rfl) ?_
            first | rw [q10] | skip
            refine Rp.ireturn dX11_about_54 rfl ?_
            exact ⟨rfl, F1, S1, R1, z1, ff⟩
        · skip
          exact absurd c38 nf
      · rw [if_neg c0]
        by_cases c1 : q = 1
        · subst c1
          rw [if_pos rfl]
          refine Rp.aload_n dX11_about_30 rfl rfl ?_
          refine Rp.getR dX11_about_31 fk_X11_64 rfl (S1 _ _ rfl) (R1 _ _ _ rfl) ?_
          refine Rp.getI dX11_about_34 fk_X11_286 rfl (S1 _ _ rfl) ?_
          first | rw [q10] | rw [q11] | skip
          refine Rp.iconst (-1) dX11_about_37 (by decide) ?_
          first | ((with_reducible show Rp _ _ _ _ (.int (nI _) :: .int (nI _) :: _) _ _); refine Rp.icmp_neN (tgt := 43) dX11_about_38 (by decide) (by omega) (fun c38 => ?_) (fun c38 => ?_)) | refine Rp.icmp_ne (tgt := 43) dX11_about_38 (by decide) (fun c38 => ?_) (fun c38 => ?_)
          · skip
            refine Rp.iload_n dX11_about_43 rfl ?_
            first | ((with_reducible show Rp _ _ _ _ (.int (b2i _) :: _) _ _); refine Rp.if_neB (tgt := 55) dX11_about_44 (by decide) (fun c44 => ?_) (fun c44 => ?_)) | ((with_reducible show Rp _ _ _ _ (.int (nI _) :: _) _ _); refine Rp.if_neN (tgt := 55) dX11_about_44 (by decide) (by omega) (fun c44 => ?_) (fun c44 => ?_)) | refine Rp.if_ne (tgt := 55) dX11_about_44 (by decide) (fun c44 => ?_) (fun c44 => ?_)
            · skip
              refine Rp.iload_n dX11_about_55 rfl ?_
              refine Rp.iconst (nI 1) dX11_about_56 (by decide) ?_
              first | ((with_reducible show Rp _ _ _ _ (.int (nI _) :: .int (nI _) :: _) _ _); refine Rp.icmp_neN (tgt := 70) dX11_about_57 (by decide) (by omega) (fun c57 => ?_) (fun c57 => ?_)) | refine Rp.icmp_ne (tgt := 70) dX11_about_57 (by decide) (fun c57 => ?_) (fun c57 => ?_)
              · skip
                first | (exfalso; omega) | exact absurd c57 (by decide) | exact absurd (by decide) c57
              · skip
                refine Rp.aload_n dX11_about_60 rfl rfl ?_
                refine Rp.getR dX11_about_61 fk_X11_64 rfl (S1 _ _ rfl) (R1 _ _ _ rfl) ?_
                refine Rp.getI dX11_about_64 fk_X11_289 rfl (S1 _ _ rfl) ?_
                first | rw [q10] | rw [q11] | skip
                refine Rp.goto (tgt := 81) dX11_about_67 (by decide) ?_
                refine Rp.ireturn dX11_about_81 rfl ?_
                exact ⟨rfl, F1, S1, R1, z1, ff⟩
            · skip
              first | (exfalso; omega) | exact absurd c44 (by decide) | exact absurd (by decide) c44
          · skip
            exact absurd c38 nf
        · rw [if_neg c1]
          have q55 : gI h1 55 (q - 2) = Bf (q - 2) := r1.2.2.1 (q - 2) (by omega)
          refine Rp.aload_n dX11_about_30 rfl rfl ?_
          refine Rp.getR dX11_about_31 fk_X11_64 rfl (S1 _ _ rfl) (R1 _ _ _ rfl) ?_
          refine Rp.getI dX11_about_34 fk_X11_286 rfl (S1 _ _ rfl) ?_
          first | rw [q10] | rw [q55] | skip
          refine Rp.iconst (-1) dX11_about_37 (by decide) ?_
          first | ((with_reducible show Rp _ _ _ _ (.int (nI _) :: .int (nI _) :: _) _ _); refine Rp.icmp_neN (tgt := 43) dX11_about_38 (by decide) (by omega) (fun c38 => ?_) (fun c38 => ?_)) | refine Rp.icmp_ne (tgt := 43) dX11_about_38 (by decide) (fun c38 => ?_) (fun c38 => ?_)
          · skip
            refine Rp.iload_n dX11_about_43 rfl ?_
            first | ((with_reducible show Rp _ _ _ _ (.int (b2i _) :: _) _ _); refine Rp.if_neB (tgt := 55) dX11_about_44 (by decide) (fun c44 => ?_) (fun c44 => ?_)) | ((with_reducible show Rp _ _ _ _ (.int (nI _) :: _) _ _); refine Rp.if_neN (tgt := 55) dX11_about_44 (by decide) (by omega) (fun c44 => ?_) (fun c44 => ?_)) | refine Rp.if_ne (tgt := 55) dX11_about_44 (by decide) (fun c44 => ?_) (fun c44 => ?_)
            · skip
              refine Rp.iload_n dX11_about_55 rfl ?_
              refine Rp.iconst (nI 1) dX11_about_56 (by decide) ?_
              first | ((with_reducible show Rp _ _ _ _ (.int (nI _) :: .int (nI _) :: _) _ _); refine Rp.icmp_neN (tgt := 70) dX11_about_57 (by decide) (by omega) (fun c57 => ?_) (fun c57 => ?_)) | refine Rp.icmp_ne (tgt := 70) dX11_about_57 (by decide) (fun c57 => ?_) (fun c57 => ?_)
              · skip
                refine Rp.aload_n dX11_about_70 rfl rfl ?_
                refine Rp.getR dX11_about_71 fk_X11_64 rfl (S1 _ _ rfl) (R1 _ _ _ rfl) ?_
                refine Rp.getR dX11_about_74 fk_X11_292 rfl (S1 _ _ rfl) (R1 _ _ _ rfl) ?_
                refine Rp.iload_n dX11_about_77 rfl ?_
                refine Rp.iconst (nI 2) dX11_about_78 (by decide) ?_
                first | ((with_reducible show Rp _ _ _ _ (.int (nI _) :: .int (nI _) :: _) _ _); refine Rp.isubN dX11_about_79 (by omega) ?_) | refine Rp.isub dX11_about_79 ?_
                first | ((with_reducible show Rp _ _ _ _ (.int (nI _) :: _) _ _); refine Rp.ialoadN dX11_about_80 (S1 _ _ rfl) (by omega) ?_) | refine Rp.iaload dX11_about_80 (S1 _ _ rfl) (by first | assumption | exact vpb (by decide)) ?_
                first | rw [q10] | rw [q55] | skip
                refine Rp.ireturn dX11_about_81 rfl ?_
                exact ⟨rfl, F1, S1, R1, z1, ff⟩
              · skip
                first | (exfalso; omega) | exact absurd c57 (by decide) | exact absurd (by decide) c57
            · skip
              first | (exfalso; omega) | exact absurd c44 (by decide) | exact absurd (by decide) c44
          · skip
            exact absurd c38 nf
  · rw [if_neg e]
    have ff : ∃ kn', gI h 52 7 = b2i kn' ∧ (kn' = true → RSab h (abR K (flO nl LSs (K 108)) nd np nt)) := ⟨kn, h7, hk⟩
    refine Rp.iload_n dX11_about_0 rfl ?_
    refine Rp.if_lt (tgt := 17) dX11_about_1 (by decide) (fun c1 => ?_) (fun c1 => ?_)
    · skip
      refine Rp.iconst (-1) dX11_about_17 (by decide) ?_
      refine Rp.ireturn dX11_about_18 rfl ?_
      exact ⟨rfl, Fr.rfl', S, R, hz, ff⟩
    · skip
      refine Rp.iload_n dX11_about_4 rfl ?_
      refine Rp.iconst (nI 2) dX11_about_5 (by decide) ?_
      refine Rp.aload_n dX11_about_6 rfl rfl ?_
      refine Rp.getR dX11_about_7 fk_X11_10 rfl (S _ _ rfl) (R _ _ _ rfl) ?_
      refine Rp.getI dX11_about_10 fk_X11_280 rfl (S _ _ rfl) ?_
      first | rw [a0] | skip
      first | ((with_reducible show Rp _ _ _ _ (.int (nI _) :: .int (nI _) :: _) _ _); refine Rp.iaddN dX11_about_13 ?_) | refine Rp.iadd dX11_about_13 ?_
      first | ((with_reducible show Rp _ _ _ _ (.int (nI _) :: .int (nI _) :: _) _ _); refine Rp.icmp_ltN (tgt := 19) dX11_about_14 (by decide) (by omega) (fun c14 => ?_) (fun c14 => ?_)) | refine Rp.icmp_lt (tgt := 19) dX11_about_14 (by decide) (fun c14 => ?_) (fun c14 => ?_)
      · skip
        exact absurd (by unfold inN; exact decide_eq_true ⟨by rw [i32_lt] at c1; exact Int.not_lt.mp c1, by rw [i32_lt, nI_toInt (by omega)] at c14; omega⟩) e
      · skip
        refine Rp.iconst (-1) dX11_about_17 (by decide) ?_
        refine Rp.ireturn dX11_about_18 rfl ?_
        exact ⟨rfl, Fr.rfl', S, R, hz, ff⟩
end Ca
