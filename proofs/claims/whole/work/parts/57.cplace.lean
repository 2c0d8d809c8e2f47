def fiO : List (List Int32) → List Int32 → Nat → Option Nat
  | [], _, _ => none
  | x :: r, t, w => if x = t then some w else fiO r t (w + 1)
theorem m400 {s e : Nat} (he : e ≤ 400) (hse : s < e) : nI s + (-400) ≠ nI e := fun z => by
  have z1 := congrArg Int32.toInt z
  rw [show nI s + (-400) = nI s - nI 400 from by rw [Int32.sub_eq_add_neg]; rfl, pk_sub_toInt (by omega) (by omega), nI_toInt (by omega)] at z1
  omega
theorem flW_at1 {x : List Int32} {r : List (List Int32)} {j : Nat} (hj : j < x.length) : (flW (x :: r)).getD j 0 = x.getD j 0 := by
  rw [flW_cons, List.getD_eq_getElem?_getD, List.getD_eq_getElem?_getD, List.getElem?_append_left hj]
theorem flW_at2 {x : List Int32} {r : List (List Int32)} : (flW (x :: r)).getD x.length 0 = 32 := by
  rw [flW_cons, List.getD_eq_getElem?_getD, List.getElem?_append_right (Nat.le_refl _), Nat.sub_self]; rfl
theorem flW_at3 {x : List Int32} {r : List (List Int32)} {j : Nat} : (flW (x :: r)).getD (x.length + 1 + j) 0 = (flW r).getD j 0 := by
  rw [flW_cons, List.getD_eq_getElem?_getD, List.getD_eq_getElem?_getD, List.getElem?_append_right (by omega), show x.length + 1 + j - x.length = j + 1 by omega, List.getElem?_cons_succ]
theorem flW_l {x : List Int32} {r : List (List Int32)} : (flW (x :: r)).length = x.length + 1 + (flW r).length := by
  rw [flW_cons, List.length_append, List.length_cons]; omega
section Pl
variable (d : Nat) {h : AH}
/-- letters of one word -/
theorem place_w {P : Option Value → AH → Prop} (S : ShOK h) (R : RfOK h) {k : Nat} (hk : k < 11) {s e : Nat} (hs : gI h 35 6 = nI s) (he : gI h 35 5 = nI e) (hse : s < e ∧ e ≤ 400) {i0 w : Nat} {x : List Int32} (hi : i0 + x.length ≤ sLn.getD k 0) (hx : ∀ j, j < x.length → sCh k (i0 + j) = x.getD j 0) (hn : ∀ j, j < x.length → x.getD j 0 ≠ 32)
    (kk : ∀ (al : Int32) (a5 : Option Value), ((∀ j, j < x.length → s + j < e ∧ gI h 36 (s + j) = x.getD j 0) ∧ al = nI x.length) ∨ (¬ (∀ j, j < x.length → s + j < e ∧ gI h 36 (s + j) = x.getD j 0) ∧ al = -400) → Rp (d + 4) M_X7_placeIn 18 [some (.ref 35), some (.retAddr k), some (.int (nI w)), some (.int al), some (.int (nI (i0 + x.length))), a5] [] h P) :
    ∀ (m j : Nat) (al : Int32) (a5 : Option Value), j + m = x.length → ((∀ j', j' < j → s + j' < e ∧ gI h 36 (s + j') = x.getD j' 0) ∧ al = nI j) ∨ (¬ (∀ j', j' < j → s + j' < e ∧ gI h 36 (s + j') = x.getD j' 0) ∧ al = -400) → Rp (d + 4) M_X7_placeIn 18 [some (.ref 35), some (.retAddr k), some (.int (nI w)), some (.int al), some (.int (nI (i0 + j))), a5] [] h P := by
  have hl := sLn_lt hk
  intro m
  induction m with
  | zero =>
    intro j al a5 hj hM
    have e1 : j = x.length := by omega
    subst e1
    exact kk al a5 hM
  | succ m ih =>
    intro j al a5 hj hM
    have hc : i0 + j < sLn.getD k 0 := by omega
    have ec := hx j (by omega)
    have en := hn j (by omega)
    rcases hM with ⟨hM, rfl⟩ | ⟨hM, rfl⟩
    · have nx : s + j < e → gI h 36 (s + j) = x.getD j 0 → ∀ j', j' < j + 1 → s + j' < e ∧ gI h 36 (s + j') = x.getD j' 0 := fun q1 q2 j' hj' => by
        by_cases z : j' = j
        · subst z; exact ⟨q1, q2⟩
        · exact hM j' (by omega)
      have hj400 : j < 2147483648 := by omega
      have hn0 : ¬ nI j < 0 := by rw [i32_lt, nI_toInt (by omega)]; exact Int.not_lt.mpr (Int.natCast_nonneg _)
      refine Rp.iload dX7_placeIn_18 rfl ?_
      refine Rp.aload_n dX7_placeIn_20 rfl rfl ?_
      refine Rp.callVs' (Mc := M_J0_length_8abf5) (As := []) hk dX7_placeIn_21 mo_J0_length_8abf5 lk_X7_156 rfl rfl (Nat.le_of_ble_eq_true rfl) (Nat.le_of_ble_eq_true rfl) (j_length hk) (fun v1 h1 p1 => ?_)
      rw [p1.1, p1.2]
      try dsimp only [Option.toList, List.cons_append, List.nil_append, List.append]
      first | ((with_reducible show Rp _ _ _ _ (.int (nI _) :: .int (nI _) :: _) _ _); refine Rp.icmp_gtN (tgt := 128) dX7_placeIn_24 (by decide) (by omega) (fun c24 => ?_) (fun c24 => ?_)) | refine Rp.icmp_gt (tgt := 128) dX7_placeIn_24 (by decide) (fun c24 => ?_) (fun c24 => ?_)
      · skip
        first | (exfalso; omega) | exact absurd c24 (by decide) | exact absurd (by decide) c24
      · skip
        refine Rp.iload dX7_placeIn_27 rfl ?_
        refine Rp.aload_n dX7_placeIn_29 rfl rfl ?_
        refine Rp.callVs' (Mc := M_J0_length_8abf5) (As := []) hk dX7_placeIn_30 mo_J0_length_8abf5 lk_X7_156 rfl rfl (Nat.le_of_ble_eq_true rfl) (Nat.le_of_ble_eq_true rfl) (j_length hk) (fun v1 h1 p1 => ?_)
        rw [p1.1, p1.2]
        try dsimp only [Option.toList, List.cons_append, List.nil_append, List.append]
        first | ((with_reducible show Rp _ _ _ _ (.int (nI _) :: .int (nI _) :: _) _ _); refine Rp.icmp_geN (tgt := 45) dX7_placeIn_33 (by decide) (by omega) (fun c33 => ?_) (fun c33 => ?_)) | refine Rp.icmp_ge (tgt := 45) dX7_placeIn_33 (by decide) (fun c33 => ?_) (fun c33 => ?_)
        · skip
          first | (exfalso; omega) | exact absurd c33 (by decide) | exact absurd (by decide) c33
        · skip
          refine Rp.aload_n dX7_placeIn_36 rfl rfl ?_
          refine Rp.iload dX7_placeIn_37 rfl ?_
          refine Rp.callVs' (Mc := M_J0_charAt_5068e) (As := [.int (nI (i0 + j))]) hk dX7_placeIn_39 mo_J0_charAt_5068e lk_X7_161 rfl rfl (Nat.le_of_ble_eq_true rfl) (Nat.le_of_ble_eq_true rfl) (j_charAt hk hc) (fun v1 h1 p1 => ?_)
          rw [p1.1, p1.2]
          try dsimp only [Option.toList, List.cons_append, List.nil_append, List.append]
          refine Rp.goto (tgt := 47) dX7_placeIn_42 (by decide) ?_
          rw [ec]
          refine Rp.ist5 dX7_placeIn_47 (by first | exact nl2_some rfl | exact nl2_none) (by decide) ?_
          refine Rp.iload dX7_placeIn_49 rfl ?_
          refine Rp.bipush (nI 32) dX7_placeIn_51 (by decide) ?_
          first | ((with_reducible show Rp _ _ _ _ (.int (nI _) :: .int (nI _) :: _) _ _); refine Rp.icmp_neN (tgt := 79) dX7_placeIn_53 (by decide) (by omega) (fun c53 => ?_) (fun c53 => ?_)) | refine Rp.icmp_ne (tgt := 79) dX7_placeIn_53 (by decide) (fun c53 => ?_) (fun c53 => ?_)
          · skip
            refine Rp.iload_n dX7_placeIn_79 rfl ?_
            refine Rp.if_lt (tgt := 118) dX7_placeIn_80 (by decide) (fun c80 => ?_) (fun c80 => ?_)
            · skip
              exact absurd c80 hn0
            · skip
              refine Rp.aload_n dX7_placeIn_83 rfl rfl ?_
              refine Rp.getI dX7_placeIn_84 fk_X7_54 rfl (S _ _ rfl) ?_
              first | rw [hs] | rw [he] | skip
              refine Rp.iload_n dX7_placeIn_87 rfl ?_
              first | ((with_reducible show Rp _ _ _ _ (.int (nI _) :: .int (nI _) :: _) _ _); refine Rp.iaddN dX7_placeIn_88 ?_) | refine Rp.iadd dX7_placeIn_88 ?_
              refine Rp.aload_n dX7_placeIn_89 rfl rfl ?_
              refine Rp.getI dX7_placeIn_90 fk_X7_39 rfl (S _ _ rfl) ?_
              first | rw [hs] | rw [he] | skip
              first | ((with_reducible show Rp _ _ _ _ (.int (nI _) :: .int (nI _) :: _) _ _); refine Rp.icmp_geN (tgt := 118) dX7_placeIn_93 (by decide) (by omega) (fun c93 => ?_) (fun c93 => ?_)) | refine Rp.icmp_ge (tgt := 118) dX7_placeIn_93 (by decide) (fun c93 => ?_) (fun c93 => ?_)
              · skip
                refine Rp.sipush (-400) dX7_placeIn_118 (by decide) ?_
                refine Rp.ist3 dX7_placeIn_121 (by first | exact nl2_some rfl | exact nl2_none) (by decide) ?_
                first | ((with_reducible show Rp _ _ _ (_ :: _ :: _ :: _ :: some (.int (nI _)) :: _) _ _ _); refine Rp.inc4N (c := 1) dX7_placeIn_122 (by first | exact nl2_some rfl | exact nl2_none) (by decide) ?_) | refine Rp.inc4 _ dX7_placeIn_122 rfl (by first | exact nl2_some rfl | exact nl2_none) (by decide) ?_
                refine Rp.goto (tgt := 18) dX7_placeIn_125 (by decide) ?_
                first | exact ih (j + 1) _ _ (by omega) (Or.inl ⟨nx c93 c109, rfl⟩) | exact ih (j + 1) _ _ (by omega) (Or.inr ⟨fun z => c109 (z j (by omega)).2, rfl⟩) | exact ih (j + 1) _ _ (by omega) (Or.inr ⟨fun z => absurd (z j (by omega)).1 (by omega), rfl⟩)
              · skip
                have c93 : s + j < e := by omega
                refine Rp.aload_n dX7_placeIn_96 rfl rfl ?_
                refine Rp.getR dX7_placeIn_97 fk_X7_9 rfl (S _ _ rfl) (R _ _ _ rfl) ?_
                refine Rp.aload_n dX7_placeIn_100 rfl rfl ?_
                refine Rp.getI dX7_placeIn_101 fk_X7_54 rfl (S _ _ rfl) ?_
                first | rw [hs] | rw [he] | skip
                refine Rp.iload_n dX7_placeIn_104 rfl ?_
                first | ((with_reducible show Rp _ _ _ _ (.int (nI _) :: .int (nI _) :: _) _ _); refine Rp.iaddN dX7_placeIn_105 ?_) | refine Rp.iadd dX7_placeIn_105 ?_
                first | ((with_reducible show Rp _ _ _ _ (.int (nI _) :: _) _ _); refine Rp.baloadN dX7_placeIn_106 (S _ _ rfl) (by omega) ?_) | refine Rp.baload dX7_placeIn_106 (S _ _ rfl) (by first | assumption | exact vpb (by decide)) ?_
                first | rw [hs] | rw [he] | skip
                refine Rp.iload dX7_placeIn_107 rfl ?_
                first | ((with_reducible show Rp _ _ _ _ (.int (nI _) :: .int (nI _) :: _) _ _); refine Rp.icmp_neN (tgt := 118) dX7_placeIn_109 (by decide) (by omega) (fun c109 => ?_) (fun c109 => ?_)) | refine Rp.icmp_ne (tgt := 118) dX7_placeIn_109 (by decide) (fun c109 => ?_) (fun c109 => ?_)
                · skip
                  refine Rp.sipush (-400) dX7_placeIn_118 (by decide) ?_
                  refine Rp.ist3 dX7_placeIn_121 (by first | exact nl2_some rfl | exact nl2_none) (by decide) ?_
                  first | ((with_reducible show Rp _ _ _ (_ :: _ :: _ :: _ :: some (.int (nI _)) :: _) _ _ _); refine Rp.inc4N (c := 1) dX7_placeIn_122 (by first | exact nl2_some rfl | exact nl2_none) (by decide) ?_) | refine Rp.inc4 _ dX7_placeIn_122 rfl (by first | exact nl2_some rfl | exact nl2_none) (by decide) ?_
                  refine Rp.goto (tgt := 18) dX7_placeIn_125 (by decide) ?_
                  first | exact ih (j + 1) _ _ (by omega) (Or.inl ⟨nx c93 c109, rfl⟩) | exact ih (j + 1) _ _ (by omega) (Or.inr ⟨fun z => c109 (z j (by omega)).2, rfl⟩) | exact ih (j + 1) _ _ (by omega) (Or.inr ⟨fun z => absurd (z j (by omega)).1 (by omega), rfl⟩)
                · skip
                  first | ((with_reducible show Rp _ _ _ (_ :: _ :: _ :: some (.int (nI _)) :: _) _ _ _); refine Rp.inc3N (c := 1) dX7_placeIn_112 (by first | exact nl2_some rfl | exact nl2_none) (by decide) ?_) | refine Rp.inc3 _ dX7_placeIn_112 rfl (by first | exact nl2_some rfl | exact nl2_none) (by decide) ?_
                  refine Rp.goto (tgt := 122) dX7_placeIn_115 (by decide) ?_
                  first | ((with_reducible show Rp _ _ _ (_ :: _ :: _ :: _ :: some (.int (nI _)) :: _) _ _ _); refine Rp.inc4N (c := 1) dX7_placeIn_122 (by first | exact nl2_some rfl | exact nl2_none) (by decide) ?_) | refine Rp.inc4 _ dX7_placeIn_122 rfl (by first | exact nl2_some rfl | exact nl2_none) (by decide) ?_
                  refine Rp.goto (tgt := 18) dX7_placeIn_125 (by decide) ?_
                  first | exact ih (j + 1) _ _ (by omega) (Or.inl ⟨nx c93 c109, rfl⟩) | exact ih (j + 1) _ _ (by omega) (Or.inr ⟨fun z => c109 (z j (by omega)).2, rfl⟩) | exact ih (j + 1) _ _ (by omega) (Or.inr ⟨fun z => absurd (z j (by omega)).1 (by omega), rfl⟩)
          · skip
            exact absurd c53 en
    · skip
      refine Rp.iload dX7_placeIn_18 rfl ?_
      refine Rp.aload_n dX7_placeIn_20 rfl rfl ?_
      refine Rp.callVs' (Mc := M_J0_length_8abf5) (As := []) hk dX7_placeIn_21 mo_J0_length_8abf5 lk_X7_156 rfl rfl (Nat.le_of_ble_eq_true rfl) (Nat.le_of_ble_eq_true rfl) (j_length hk) (fun v1 h1 p1 => ?_)
      rw [p1.1, p1.2]
      try dsimp only [Option.toList, List.cons_append, List.nil_append, List.append]
      first | ((with_reducible show Rp _ _ _ _ (.int (nI _) :: .int (nI _) :: _) _ _); refine Rp.icmp_gtN (tgt := 128) dX7_placeIn_24 (by decide) (by omega) (fun c24 => ?_) (fun c24 => ?_)) | refine Rp.icmp_gt (tgt := 128) dX7_placeIn_24 (by decide) (fun c24 => ?_) (fun c24 => ?_)
      · skip
        first | (exfalso; omega) | exact absurd c24 (by decide) | exact absurd (by decide) c24
      · skip
        refine Rp.iload dX7_placeIn_27 rfl ?_
        refine Rp.aload_n dX7_placeIn_29 rfl rfl ?_
        refine Rp.callVs' (Mc := M_J0_length_8abf5) (As := []) hk dX7_placeIn_30 mo_J0_length_8abf5 lk_X7_156 rfl rfl (Nat.le_of_ble_eq_true rfl) (Nat.le_of_ble_eq_true rfl) (j_length hk) (fun v1 h1 p1 => ?_)
        rw [p1.1, p1.2]
        try dsimp only [Option.toList, List.cons_append, List.nil_append, List.append]
        first | ((with_reducible show Rp _ _ _ _ (.int (nI _) :: .int (nI _) :: _) _ _); refine Rp.icmp_geN (tgt := 45) dX7_placeIn_33 (by decide) (by omega) (fun c33 => ?_) (fun c33 => ?_)) | refine Rp.icmp_ge (tgt := 45) dX7_placeIn_33 (by decide) (fun c33 => ?_) (fun c33 => ?_)
        · skip
          first | (exfalso; omega) | exact absurd c33 (by decide) | exact absurd (by decide) c33
        · skip
          refine Rp.aload_n dX7_placeIn_36 rfl rfl ?_
          refine Rp.iload dX7_placeIn_37 rfl ?_
          refine Rp.callVs' (Mc := M_J0_charAt_5068e) (As := [.int (nI (i0 + j))]) hk dX7_placeIn_39 mo_J0_charAt_5068e lk_X7_161 rfl rfl (Nat.le_of_ble_eq_true rfl) (Nat.le_of_ble_eq_true rfl) (j_charAt hk hc) (fun v1 h1 p1 => ?_)
          rw [p1.1, p1.2]
          try dsimp only [Option.toList, List.cons_append, List.nil_append, List.append]
          refine Rp.goto (tgt := 47) dX7_placeIn_42 (by decide) ?_
          rw [ec]
          refine Rp.ist5 dX7_placeIn_47 (by first | exact nl2_some rfl | exact nl2_none) (by decide) ?_
          refine Rp.iload dX7_placeIn_49 rfl ?_
          refine Rp.bipush (nI 32) dX7_placeIn_51 (by decide) ?_
          first | ((with_reducible show Rp _ _ _ _ (.int (nI _) :: .int (nI _) :: _) _ _); refine Rp.icmp_neN (tgt := 79) dX7_placeIn_53 (by decide) (by omega) (fun c53 => ?_) (fun c53 => ?_)) | refine Rp.icmp_ne (tgt := 79) dX7_placeIn_53 (by decide) (fun c53 => ?_) (fun c53 => ?_)
          · skip
            refine Rp.iload_n dX7_placeIn_79 rfl ?_
            refine Rp.if_lt (tgt := 118) dX7_placeIn_80 (by decide) (fun c80 => ?_) (fun c80 => ?_)
            · skip
              refine Rp.sipush (-400) dX7_placeIn_118 (by decide) ?_
              refine Rp.ist3 dX7_placeIn_121 (by first | exact nl2_some rfl | exact nl2_none) (by decide) ?_
              first | ((with_reducible show Rp _ _ _ (_ :: _ :: _ :: _ :: some (.int (nI _)) :: _) _ _ _); refine Rp.inc4N (c := 1) dX7_placeIn_122 (by first | exact nl2_some rfl | exact nl2_none) (by decide) ?_) | refine Rp.inc4 _ dX7_placeIn_122 rfl (by first | exact nl2_some rfl | exact nl2_none) (by decide) ?_
              refine Rp.goto (tgt := 18) dX7_placeIn_125 (by decide) ?_
              exact ih (j + 1) _ _ (by omega) (Or.inr ⟨fun z => hM (fun j' hj' => z j' (by omega)), rfl⟩)
            · skip
              exact absurd (by decide) c80
          · skip
            exact absurd c53 en
/-- the end of a word -/
theorem place_e {P : Option Value → AH → Prop} (S : ShOK h) (R : RfOK h) {k : Nat} (hk : k < 11) {s e : Nat} (hs : gI h 35 6 = nI s) (he : gI h 35 5 = nI e) (hse : s < e ∧ e ≤ 400) {i w : Nat} (hi : i ≤ sLn.getD k 0) (hc : i < sLn.getD k 0 → sCh k i = 32) (al : Int32) (a5 : Option Value) (k1 : nI s + al = nI e → P (some (.int (nI w))) h)
    (k2 : nI s + al ≠ nI e → Rp (d + 4) M_X7_placeIn 18 [some (.ref 35), some (.retAddr k), some (.int (nI (w + 1))), some (.int (nI 0)), some (.int (nI (i + 1))), some (.int (nI 32))] [] h P) : Rp (d + 4) M_X7_placeIn 18 [some (.ref 35), some (.retAddr k), some (.int (nI w)), some (.int al), some (.int (nI i)), a5] [] h P := by
  have hl := sLn_lt hk
  have fin : Rp (d + 4) M_X7_placeIn 47 [some (.ref 35), some (.retAddr k), some (.int (nI w)), some (.int al), some (.int (nI i)), a5] [.int (nI 32)] h P := by
    refine Rp.ist5 dX7_placeIn_47 (by first | exact nl2_some rfl | exact nl2_none) (by decide) ?_
    refine Rp.iload dX7_placeIn_49 rfl ?_
    refine Rp.bipush (nI 32) dX7_placeIn_51 (by decide) ?_
    first | ((with_reducible show Rp _ _ _ _ (.int (nI _) :: .int (nI _) :: _) _ _); refine Rp.icmp_neN (tgt := 79) dX7_placeIn_53 (by decide) (by omega) (fun c53 => ?_) (fun c53 => ?_)) | refine Rp.icmp_ne (tgt := 79) dX7_placeIn_53 (by decide) (fun c53 => ?_) (fun c53 => ?_)
    · skip
      first | (exfalso; omega) | exact absurd c53 (by decide) | exact absurd (by decide) c53
    · skip
      refine Rp.aload_n dX7_placeIn_56 rfl rfl ?_
      refine Rp.getI dX7_placeIn_57 fk_X7_54 rfl (S _ _ rfl) ?_
      first | rw [hs] | rw [he] | skip
      refine Rp.iload_n dX7_placeIn_60 rfl ?_
      first | ((with_reducible show Rp _ _ _ _ (.int (nI _) :: .int (nI _) :: _) _ _); refine Rp.iaddN dX7_placeIn_61 ?_) | refine Rp.iadd dX7_placeIn_61 ?_
      refine Rp.aload_n dX7_placeIn_62 rfl rfl ?_
      refine Rp.getI dX7_placeIn_63 fk_X7_39 rfl (S _ _ rfl) ?_
      first | rw [hs] | rw [he] | skip
      first | ((with_reducible show Rp _ _ _ _ (.int (nI _) :: .int (nI _) :: _) _ _); refine Rp.icmp_neN (tgt := 71) dX7_placeIn_66 (by decide) (by omega) (fun c66 => ?_) (fun c66 => ?_)) | refine Rp.icmp_ne (tgt := 71) dX7_placeIn_66 (by decide) (fun c66 => ?_) (fun c66 => ?_)
      · skip
        first | ((with_reducible show Rp _ _ _ (_ :: _ :: some (.int (nI _)) :: _) _ _ _); refine Rp.inc2N (c := 1) dX7_placeIn_71 (by first | exact nl2_some rfl | exact nl2_none) (by decide) ?_) | refine Rp.inc2 _ dX7_placeIn_71 rfl (by first | exact nl2_some rfl | exact nl2_none) (by decide) ?_
        refine Rp.iconst (nI 0) dX7_placeIn_74 (by decide) ?_
        refine Rp.ist3 dX7_placeIn_75 (by first | exact nl2_some rfl | exact nl2_none) (by decide) ?_
        refine Rp.goto (tgt := 122) dX7_placeIn_76 (by decide) ?_
        first | ((with_reducible show Rp _ _ _ (_ :: _ :: _ :: _ :: some (.int (nI _)) :: _) _ _ _); refine Rp.inc4N (c := 1) dX7_placeIn_122 (by first | exact nl2_some rfl | exact nl2_none) (by decide) ?_) | refine Rp.inc4 _ dX7_placeIn_122 rfl (by first | exact nl2_some rfl | exact nl2_none) (by decide) ?_
        refine Rp.goto (tgt := 18) dX7_placeIn_125 (by decide) ?_
        exact k2 c66
      · skip
        refine Rp.iload_n dX7_placeIn_69 rfl ?_
        refine Rp.ireturn dX7_placeIn_70 rfl ?_
        exact k1 c66
  by_cases hq : i < sLn.getD k 0
  · have ec := hc hq
    refine Rp.iload dX7_placeIn_18 rfl ?_
    refine Rp.aload_n dX7_placeIn_20 rfl rfl ?_
    refine Rp.callVs' (Mc := M_J0_length_8abf5) (As := []) hk dX7_placeIn_21 mo_J0_length_8abf5 lk_X7_156 rfl rfl (Nat.le_of_ble_eq_true rfl) (Nat.le_of_ble_eq_true rfl) (j_length hk) (fun v1 h1 p1 => ?_)
    rw [p1.1, p1.2]
    try dsimp only [Option.toList, List.cons_append, List.nil_append, List.append]
    first | ((with_reducible show Rp _ _ _ _ (.int (nI _) :: .int (nI _) :: _) _ _); refine Rp.icmp_gtN (tgt := 128) dX7_placeIn_24 (by decide) (by omega) (fun c24 => ?_) (fun c24 => ?_)) | refine Rp.icmp_gt (tgt := 128) dX7_placeIn_24 (by decide) (fun c24 => ?_) (fun c24 => ?_)
    · skip
      first | (exfalso; omega) | exact absurd c24 (by decide) | exact absurd (by decide) c24
    · skip
      refine Rp.iload dX7_placeIn_27 rfl ?_
      refine Rp.aload_n dX7_placeIn_29 rfl rfl ?_
      refine Rp.callVs' (Mc := M_J0_length_8abf5) (As := []) hk dX7_placeIn_30 mo_J0_length_8abf5 lk_X7_156 rfl rfl (Nat.le_of_ble_eq_true rfl) (Nat.le_of_ble_eq_true rfl) (j_length hk) (fun v1 h1 p1 => ?_)
      rw [p1.1, p1.2]
      try dsimp only [Option.toList, List.cons_append, List.nil_append, List.append]
      first | ((with_reducible show Rp _ _ _ _ (.int (nI _) :: .int (nI _) :: _) _ _); refine Rp.icmp_geN (tgt := 45) dX7_placeIn_33 (by decide) (by omega) (fun c33 => ?_) (fun c33 => ?_)) | refine Rp.icmp_ge (tgt := 45) dX7_placeIn_33 (by decide) (fun c33 => ?_) (fun c33 => ?_)
      · skip
        first | (exfalso; omega) | exact absurd c33 (by decide) | exact absurd (by decide) c33
      · skip
        refine Rp.aload_n dX7_placeIn_36 rfl rfl ?_
        refine Rp.iload dX7_placeIn_37 rfl ?_
        refine Rp.callVs' (Mc := M_J0_charAt_5068e) (As := [.int (nI i)]) hk dX7_placeIn_39 mo_J0_charAt_5068e lk_X7_161 rfl rfl (Nat.le_of_ble_eq_true rfl) (Nat.le_of_ble_eq_true rfl) (j_charAt hk hq) (fun v1 h1 p1 => ?_)
        rw [p1.1, p1.2]
        try dsimp only [Option.toList, List.cons_append, List.nil_append, List.append]
        refine Rp.goto (tgt := 47) dX7_placeIn_42 (by decide) ?_
        rw [ec]
        exact fin
  · skip
    refine Rp.iload dX7_placeIn_18 rfl ?_
    refine Rp.aload_n dX7_placeIn_20 rfl rfl ?_
    refine Rp.callVs' (Mc := M_J0_length_8abf5) (As := []) hk dX7_placeIn_21 mo_J0_length_8abf5 lk_X7_156 rfl rfl (Nat.le_of_ble_eq_true rfl) (Nat.le_of_ble_eq_true rfl) (j_length hk) (fun v1 h1 p1 => ?_)
    rw [p1.1, p1.2]
    try dsimp only [Option.toList, List.cons_append, List.nil_append, List.append]
    first | ((with_reducible show Rp _ _ _ _ (.int (nI _) :: .int (nI _) :: _) _ _); refine Rp.icmp_gtN (tgt := 128) dX7_placeIn_24 (by decide) (by omega) (fun c24 => ?_) (fun c24 => ?_)) | refine Rp.icmp_gt (tgt := 128) dX7_placeIn_24 (by decide) (fun c24 => ?_) (fun c24 => ?_)
    · skip
      first | (exfalso; omega) | exact absurd c24 (by decide) | exact absurd (by decide) c24
    · skip
      refine Rp.iload dX7_placeIn_27 rfl ?_
      refine Rp.aload_n dX7_placeIn_29 rfl rfl ?_
      refine Rp.callVs' (Mc := M_J0_length_8abf5) (As := []) hk dX7_placeIn_30 mo_J0_length_8abf5 lk_X7_156 rfl rfl (Nat.le_of_ble_eq_true rfl) (Nat.le_of_ble_eq_true rfl) (j_length hk) (fun v1 h1 p1 => ?_)
      rw [p1.1, p1.2]
      try dsimp only [Option.toList, List.cons_append, List.nil_append, List.append]
      first | ((with_reducible show Rp _ _ _ _ (.int (nI _) :: .int (nI _) :: _) _ _); refine Rp.icmp_geN (tgt := 45) dX7_placeIn_33 (by decide) (by omega) (fun c33 => ?_) (fun c33 => ?_)) | refine Rp.icmp_ge (tgt := 45) dX7_placeIn_33 (by decide) (fun c33 => ?_) (fun c33 => ?_)
      · skip
        refine Rp.bipush (nI 32) dX7_placeIn_45 (by decide) ?_
        exact fin
      · skip
        first | (exfalso; omega) | exact absurd c33 (by decide) | exact absurd (by decide) c33
theorem place18 (S : ShOK h) (R : RfOK h) {k : Nat} (hk : k < 11) {s e : Nat} (hs : gI h 35 6 = nI s) (he : gI h 35 5 = nI e) (hse : s < e ∧ e ≤ 400) : ∀ (ws : List (List Int32)) (i w : Nat) (a5 : Option Value), i + (flW ws).length = sLn.getD k 0 + 1 → (∀ j, j < (flW ws).length → i + j < sLn.getD k 0 → sCh k (i + j) = (flW ws).getD j 0) → (∀ x ∈ ws, ∀ j, j < x.length → x.getD j 0 ≠ 32) → Rp (d + 4) M_X7_placeIn 18 [some (.ref 35), some (.retAddr k), some (.int (nI w)), some (.int (nI 0)), some (.int (nI i)), a5] [] h (fun r h' => h' = h ∧ r = some (.int (oI (fiO ws (sl (gI h 36) s (e - s)) w)))) := by
  have hl := sLn_lt hk
  intro ws
  induction ws with
  | nil =>
    intro i w a5 hi hc hn
    have hi : i = sLn.getD k 0 + 1 := hi
    refine Rp.iload dX7_placeIn_18 rfl ?_
    refine Rp.aload_n dX7_placeIn_20 rfl rfl ?_
    refine Rp.callVs' (Mc := M_J0_length_8abf5) (As := []) hk dX7_placeIn_21 mo_J0_length_8abf5 lk_X7_156 rfl rfl (Nat.le_of_ble_eq_true rfl) (Nat.le_of_ble_eq_true rfl) (j_length hk) (fun v1 h1 p1 => ?_)
    rw [p1.1, p1.2]
    try dsimp only [Option.toList, List.cons_append, List.nil_append, List.append]
    first | ((with_reducible show Rp _ _ _ _ (.int (nI _) :: .int (nI _) :: _) _ _); refine Rp.icmp_gtN (tgt := 128) dX7_placeIn_24 (by decide) (by omega) (fun c24 => ?_) (fun c24 => ?_)) | refine Rp.icmp_gt (tgt := 128) dX7_placeIn_24 (by decide) (fun c24 => ?_) (fun c24 => ?_)
    · skip
      refine Rp.iconst (-1) dX7_placeIn_128 (by decide) ?_
      refine Rp.ireturn dX7_placeIn_129 rfl ?_
      exact ⟨rfl, rfl⟩
    · skip
      first | (exfalso; omega) | exact absurd c24 (by decide) | exact absurd (by decide) c24
  | cons x r ih =>
    intro i w a5 hi hc hn
    rw [flW_l] at hi
    have hc1 : ∀ j, j < x.length → sCh k (i + j) = x.getD j 0 := fun j hj => by rw [hc j (by rw [flW_l]; omega) (by omega), flW_at1 hj]
    refine place_w d S R hk hs he hse (x := x) (by omega) hc1 (hn x (List.mem_cons_self ..)) (fun al a5 hM => ?_) x.length 0 (nI 0) a5 (by omega) (Or.inl ⟨fun j' hj' => absurd hj' (Nat.not_lt_zero _), rfl⟩)
    have tl := ih (i + x.length + 1) (w + 1) (some (.int (nI 32))) (by omega) (fun j hj hj2 => by rw [show i + x.length + 1 + j = i + (x.length + 1 + j) by omega, hc (x.length + 1 + j) (by rw [flW_l]; omega) (by omega), flW_at3]) (fun y hy => hn y (List.mem_cons_of_mem _ hy))
    refine place_e d S R hk hs he hse (by omega) (fun q => by rw [hc x.length (by rw [flW_l]; omega) q, flW_at2]) al a5 (fun q => ?_) (fun q => ?_)
    · refine ⟨rfl, ?_⟩
      rcases hM with ⟨hM, rfl⟩ | ⟨hM, rfl⟩
      · rw [nI_add, i32_eq, nI_toInt (by omega), nI_toInt (by omega)] at q
        rw [fiO, if_pos (sl_eq.mpr ⟨by omega, fun j hj => ((hM j (by omega)).2).symm⟩)]; rfl
      · exact absurd q (m400 hse.2 hse.1)
    · refine Rp.mono (fun r1 h1 p => ?_) tl
      rw [fiO, if_neg]
      · exact p
      · intro z
        have z1 := sl_eq.mp z
        rcases hM with ⟨hM, rfl⟩ | ⟨hM, rfl⟩
        · exact q (by rw [nI_add, z1.1]; congr 1; omega)
        · exact hM (fun j hj => ⟨by omega, (z1.2 j (by omega)).symm⟩)
/-- the words of the string constants -/
def wsK : List (List (List Int32)) := [[[100, 114, 97, 119], [115, 119, 97, 112], [100, 114, 111, 112], [112, 97, 115, 115]], [[116, 97, 107, 101, 115], [99, 111, 115, 116, 115], [102, 105, 116, 115], [98, 97, 114, 115]], [[109, 105, 110, 117, 116, 101], [100, 111, 110, 101], [108, 97, 116, 101, 115, 116], [102, 105, 116], [102, 114, 101, 101], [104, 97, 115], [112, 97, 116, 105, 101, 110, 99, 101]], [[112, 101, 114, 115, 111, 110], [98, 117, 115, 105, 110, 101, 115, 115], [112, 97, 116, 105, 101, 110, 99, 101], [116, 105, 99, 107, 101, 116], [110, 117, 109, 98, 101, 114], [107, 105, 110, 100], [115, 112, 101, 101, 100], [109, 105, 110, 117, 116, 101], [109, 111, 111, 100]], [[98, 121]], [[119, 105, 116, 104]], [[116, 105, 109, 101, 115]], [[105, 102]], [[110, 111, 116]], [[97, 110, 100]], [[111, 114]]]
theorem wsK_all : ((List.range 11).all fun k => decide ((flW (wsK.getD k [])).length = sLn.getD k 0 + 1) && ((List.range (sLn.getD k 0)).all fun j => decide (sCh k j = (flW (wsK.getD k [])).getD j 0)) && ((wsK.getD k []).all fun x => (List.range x.length).all fun j => decide (x.getD j 0 ≠ 32))) = true := by decide +kernel
theorem wsK_ok {k : Nat} (hk : k < 11) : (flW (wsK.getD k [])).length = sLn.getD k 0 + 1 ∧ (∀ j, j < sLn.getD k 0 → sCh k j = (flW (wsK.getD k [])).getD j 0) ∧ (∀ x ∈ wsK.getD k [], ∀ j, j < x.length → x.getD j 0 ≠ 32) := by
  have h1 := List.all_eq_true.mp wsK_all k (List.mem_range.mpr hk)
  rw [Bool.and_eq_true, Bool.and_eq_true, decide_eq_true_eq] at h1
  obtain ⟨⟨a, b⟩, c⟩ := h1
  refine ⟨a, fun j hj => of_decide_eq_true (List.all_eq_true.mp b j (List.mem_range.mpr hj)), fun x hx j hj => ?_⟩
  exact of_decide_eq_true (List.all_eq_true.mp (List.all_eq_true.mp c x hx) j (List.mem_range.mpr hj))
theorem t_placeN (S : ShOK h) {k : Nat} (hg : gI h 35 7 ≠ -2) : Rp (d + 4) M_X7_placeIn 0 [some (.ref 35), some (.retAddr k), none, none, none, none] [] h (fun r h' => h' = h ∧ r = some (.int (-1))) := by
  refine Rp.aload_n dX7_placeIn_0 rfl rfl ?_
  refine Rp.getI dX7_placeIn_1 fk_X7_48 rfl (S _ _ rfl) ?_
  refine Rp.bipush (-2) dX7_placeIn_4 (by decide) ?_
  first | ((with_reducible show Rp _ _ _ _ (.int (nI _) :: .int (nI _) :: _) _ _); refine Rp.icmp_eqN (tgt := 11) dX7_placeIn_6 (by decide) (by omega) (fun c6 => ?_) (fun c6 => ?_)) | refine Rp.icmp_eq (tgt := 11) dX7_placeIn_6 (by decide) (fun c6 => ?_) (fun c6 => ?_)
  · skip
    exact absurd c6 hg
  · skip
    refine Rp.iconst (-1) dX7_placeIn_9 (by decide) ?_
    refine Rp.ireturn dX7_placeIn_10 rfl ?_
    exact ⟨rfl, rfl⟩
theorem t_placeW (S : ShOK h) (R : RfOK h) {k : Nat} (hk : k < 11) (hg : gI h 35 7 = -2) {s e : Nat} (hs : gI h 35 6 = nI s) (he : gI h 35 5 = nI e) (hse : s < e ∧ e ≤ 400) : Rp (d + 4) M_X7_placeIn 0 [some (.ref 35), some (.retAddr k), none, none, none, none] [] h (fun r h' => h' = h ∧ r = some (.int (oI (fiO (wsK.getD k []) (sl (gI h 36) s (e - s)) 0)))) := by
  obtain ⟨w1, w2, w3⟩ := wsK_ok hk
  refine Rp.aload_n dX7_placeIn_0 rfl rfl ?_
  refine Rp.getI dX7_placeIn_1 fk_X7_48 rfl (S _ _ rfl) ?_
  refine Rp.bipush (-2) dX7_placeIn_4 (by decide) ?_
  first | ((with_reducible show Rp _ _ _ _ (.int (nI _) :: .int (nI _) :: _) _ _); refine Rp.icmp_eqN (tgt := 11) dX7_placeIn_6 (by decide) (by omega) (fun c6 => ?_) (fun c6 => ?_)) | refine Rp.icmp_eq (tgt := 11) dX7_placeIn_6 (by decide) (fun c6 => ?_) (fun c6 => ?_)
  · skip
    refine Rp.iconst (nI 0) dX7_placeIn_11 (by decide) ?_
    refine Rp.ist2 dX7_placeIn_12 (by first | exact nl2_some rfl | exact nl2_none) (by decide) ?_
    refine Rp.iconst (nI 0) dX7_placeIn_13 (by decide) ?_
    refine Rp.ist3 dX7_placeIn_14 (by first | exact nl2_some rfl | exact nl2_none) (by decide) ?_
    refine Rp.iconst (nI 0) dX7_placeIn_15 (by decide) ?_
    refine Rp.ist4 dX7_placeIn_16 (by first | exact nl2_some rfl | exact nl2_none) (by decide) ?_
    exact place18 d S R hk hs he hse (wsK.getD k []) 0 0 none (by omega) (fun j hj hj2 => by rw [Nat.zero_add] at hj2 ⊢; exact w2 j hj2) w3
  · skip
    exact absurd hg c6
end Pl
