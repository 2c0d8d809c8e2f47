section Cas
variable (d : Nat) {h : AH} {K : Nat → Int32} {np nt nd nl : Nat} {LSs : Nat → List CLE} {E : List Int32}
theorem as_neg {w : Int32} (hw : ¬ w ≥ 0) (hn : nd ≤ 3) : inN (w - nI 3) nd = false := by
  rw [Bool.eq_false_iff]
  intro z
  obtain ⟨e, he, q⟩ := (inN_iff (by omega)).mp z
  have q2 : w = nI e + nI 3 := by rw [← q]; exact (Int32.sub_add_cancel w (nI 3)).symm
  rw [nI_add] at q2
  exact hw (by rw [q2]; exact nI_ge0 (by omega))
theorem as_neg0 {w : Int32} (hw : ¬ w ≥ 0) {k : Nat} (hk : k < 100) : ¬ w = nI k := fun z => hw (by rw [z]; exact nI_ge0 (by omega))
theorem as_ge {w : Int32} (hw : w ≥ 0) (h3 : ¬ inN w 3 = true) : ∃ e, e + 3 < 2147483648 ∧ w = nI (e + 3) := by
  have q1 : (0 : Int32).toInt = 0 := rfl
  have hw' : (0 : Int32) ≤ w := hw
  rw [i32_le, q1] at hw'
  unfold inN at h3
  rw [decide_eq_true_eq] at h3
  have hb := w.toInt_lt
  refine ⟨w.toInt.toNat - 3, by omega, ?_⟩
  rw [i32_eq, nI_toInt (by omega)]
  omega
theorem t_asks (S : ShOK h) (R : RfOK h) (G : HG h 1 K np nt nd nl LSs E) (V : VH K np nt) (B : KB K) (hz : ∀ j, 9 ≤ j → gI h 43 j = 0) (VDd : VD K nd) (p t w : Int32) : Rp (d + 5) M_X11_asks 0 [some (.ref 0), some (.int p), some (.int t), some (.int w)] [] h (fun r h' => r = some (.int (asA K (flO nl LSs (K 108)) np nt nd p t w)) ∧ Fr bjX h h') := by
  have v1 := V.1
  have v2 := V.2.1
  have hd3 := VDd.1
  have e18 : gI h 1 18 = K 108 := G.1.2.2.2.2.2.2.1
  have lf := t_lawInForce (d + 2) G.2.1
  rw [e18] at lf
  have ip := t_isPerson (d + 4) (S 1 _ rfl) p v1 G.1.2.1
  have it := t_isTicket (d + 4) (S 1 _ rfl) t v2 G.1.2.2.1
  by_cases c : (inN p np && inN t nt) = true
  · have cc := c
    rw [Bool.and_eq_true] at cc
    rw [cc.1] at ip
    rw [cc.2] at it
    obtain ⟨q, hq, rfl⟩ := (inN_iff (by omega)).mp cc.1
    obtain ⟨u, hu, rfl⟩ := (inN_iff (by omega)).mp cc.2
    have eq := ix_nI (show q < 2147483648 by omega)
    have eu := ix_nI (show u < 2147483648 by omega)
    by_cases cw : w ≥ 0
    · have k46 : ∀ g, Fr bX h g → JS g 1 K (flO nl LSs (K 108)) → Rp (d + 5) M_X11_asks 46 [some (.ref 0), some (.int (nI q)), some (.int (nI u)), some (.int w)] [] g (fun r h' => r = some (.int (asA K (flO nl LSs (K 108)) np nt nd (nI q) (nI u) w)) ∧ Fr bjX h h') := by
        intro g F1 J1
        have S1 := F1.S S
        have R1 := F1.R R (by decide)
        have G1 : HG g 1 K np nt nd nl LSs E := G.fr F1 (fun o j ho => bX_b (by decide) ho) (fun k j o => bX_T (ok129 o))
        have e5 := G1.1.c.cel (k := 5) (j := q * 8 + u) (i := 19 + (8 * q + u)) (Or.inr (Or.inr (Or.inr (Or.inl ⟨rfl, by omega, by omega⟩))))
        have e9 : gI g 1 9 = nI nd := G1.1.2.2.2.1
        have fi := t_isFitJ (d + 2) S1 R1 J1 B (p := q) (t := u) (by omega) (by omega)
        have ba := t_isBarredJ (d + 2) S1 R1 J1 B (p := q) (t := u) (by omega) (by omega)
        have mi : ∀ e, e < nd → Rp (d + 2 + 2) M_X3_minutes 0 [some (.ref 40), some (.int (nI q)), some (.int (nI u)), some (.int (nI e)), none, none, none] [] g (fun r h' => Fr jX g h' ∧ JS h' 1 K (flO nl LSs (K 108)) ∧ r = some (.int (nI (oTk K (flO nl LSs (K 108)) q u e)))) := fun e he => by
          obtain ⟨s, s1, s2, es⟩ := VDd.2 e he
          exact t_minutesJ (d + 2) S1 R1 J1 B (by omega) (by omega) (by omega) es ⟨s1, s2⟩
        by_cases c3 : inN w 3 = true
        · skip
          refine Rp.iload_n dX11_asks_46 rfl ?_
          by_cases hx47 : inN w 3 = true
          · obtain ⟨j47, hj47, rfl⟩ := (inN_iff (by omega)).mp hx47
            match j47, hj47 with
            | 0, _ =>
              refine Rp.tableIn (tgt := 72) (off := 25) dX11_asks_47 (by decide) (by decide) (by decide) (by decide) ?_
              refine Rp.aload_n dX11_asks_72 rfl rfl ?_
              refine Rp.getR dX11_asks_73 fk_X11_10 rfl (S1 _ _ rfl) (R1 _ _ _ rfl) ?_
              refine Rp.getR dX11_asks_76 fk_X11_164 rfl (S1 _ _ rfl) (R1 _ _ _ rfl) ?_
              refine Rp.iload_n dX11_asks_79 rfl ?_
              refine Rp.bipush (nI 8) dX11_asks_80 (by decide) ?_
              first | ((with_reducible show Rp _ _ _ _ (.int (nI _) :: .int (nI _) :: _) _ _); refine Rp.imulN dX11_asks_82 ?_) | refine Rp.imul dX11_asks_82 ?_
              refine Rp.iload_n dX11_asks_83 rfl ?_
              first | ((with_reducible show Rp _ _ _ _ (.int (nI _) :: .int (nI _) :: _) _ _); refine Rp.iaddN dX11_asks_84 ?_) | refine Rp.iadd dX11_asks_84 ?_
              first | ((with_reducible show Rp _ _ _ _ (.int (nI _) :: _) _ _); refine Rp.ialoadN dX11_asks_85 (S1 _ _ rfl) (by omega) ?_) | refine Rp.iaload dX11_asks_85 (S1 _ _ rfl) (by first | assumption | exact vpb (by decide)) ?_
              first | rw [e5] | skip
              refine Rp.ireturn dX11_asks_86 rfl ?_
              exact ⟨by unfold asA; rw [if_pos c, if_pos rfl, eq, eu], bjX_b F1⟩
            | 1, _ =>
              refine Rp.tableIn (tgt := 87) (off := 40) dX11_asks_47 (by decide) (by decide) (by decide) (by decide) ?_
              refine Rp.aload_n dX11_asks_87 rfl rfl ?_
              refine Rp.getR dX11_asks_88 fk_X11_39 rfl (S1 _ _ rfl) (R1 _ _ _ rfl) ?_
              refine Rp.iload_n dX11_asks_91 rfl ?_
              refine Rp.iload_n dX11_asks_92 rfl ?_
              refine Rp.callV2 M_X3_isFit (ci := 3) dX11_asks_93 mo_X3_isFit lk_X11_170 (by decide) rfl rfl (S1 _ _ rfl) (Nat.le_of_ble_eq_true rfl) (Nat.le_of_ble_eq_true rfl) (fi) (fun v1 h1 p1 x1 => ?_)
              obtain ⟨F2, J2, rfl⟩ := p1
              try dsimp only [Option.toList, List.cons_append, List.nil_append, List.append]
              first | ((with_reducible show Rp _ _ _ _ (.int (b2i _) :: _) _ _); refine Rp.if_eqB (tgt := 103) dX11_asks_96 (by decide) (fun c96 => ?_) (fun c96 => ?_)) | ((with_reducible show Rp _ _ _ _ (.int (nI _) :: _) _ _); refine Rp.if_eqN (tgt := 103) dX11_asks_96 (by decide) (by omega) (fun c96 => ?_) (fun c96 => ?_)) | refine Rp.if_eq (tgt := 103) dX11_asks_96 (by decide) (fun c96 => ?_) (fun c96 => ?_)
              · skip
                refine Rp.iconst (nI 0) dX11_asks_103 (by decide) ?_
                refine Rp.ireturn dX11_asks_104 rfl ?_
                refine ⟨?_, (bjX_b F1).trans (bjX_j F2)⟩
                unfold asA
                rw [if_pos c, if_neg (by decide), if_pos rfl, eq, eu, c96]
                rfl
              · skip
                refine Rp.iconst (nI 1) dX11_asks_99 (by decide) ?_
                refine Rp.goto (tgt := 104) dX11_asks_100 (by decide) ?_
                refine Rp.ireturn dX11_asks_104 rfl ?_
                refine ⟨?_, (bjX_b F1).trans (bjX_j F2)⟩
                unfold asA
                rw [if_pos c, if_neg (by decide), if_pos rfl, eq, eu, c96]
                rfl
            | 2, _ =>
              refine Rp.tableIn (tgt := 105) (off := 58) dX11_asks_47 (by decide) (by decide) (by decide) (by decide) ?_
              refine Rp.aload_n dX11_asks_105 rfl rfl ?_
              refine Rp.getR dX11_asks_106 fk_X11_39 rfl (S1 _ _ rfl) (R1 _ _ _ rfl) ?_
              refine Rp.iload_n dX11_asks_109 rfl ?_
              refine Rp.iload_n dX11_asks_110 rfl ?_
              refine Rp.callV2 M_X3_isBarred (ci := 3) dX11_asks_111 mo_X3_isBarred lk_X11_174 (by decide) rfl rfl (S1 _ _ rfl) (Nat.le_of_ble_eq_true rfl) (Nat.le_of_ble_eq_true rfl) (ba) (fun v1 h1 p1 x1 => ?_)
              obtain ⟨F2, J2, rfl⟩ := p1
              try dsimp only [Option.toList, List.cons_append, List.nil_append, List.append]
              first | ((with_reducible show Rp _ _ _ _ (.int (b2i _) :: _) _ _); refine Rp.if_eqB (tgt := 121) dX11_asks_114 (by decide) (fun c114 => ?_) (fun c114 => ?_)) | ((with_reducible show Rp _ _ _ _ (.int (nI _) :: _) _ _); refine Rp.if_eqN (tgt := 121) dX11_asks_114 (by decide) (by omega) (fun c114 => ?_) (fun c114 => ?_)) | refine Rp.if_eq (tgt := 121) dX11_asks_114 (by decide) (fun c114 => ?_) (fun c114 => ?_)
              · skip
                refine Rp.iconst (nI 0) dX11_asks_121 (by decide) ?_
                refine Rp.ireturn dX11_asks_122 rfl ?_
                refine ⟨?_, (bjX_b F1).trans (bjX_j F2)⟩
                unfold asA
                rw [if_pos c, if_neg (by decide), if_neg (by decide), if_pos rfl, eq, eu, c114]
                rfl
              · skip
                refine Rp.iconst (nI 1) dX11_asks_117 (by decide) ?_
                refine Rp.goto (tgt := 122) dX11_asks_118 (by decide) ?_
                refine Rp.ireturn dX11_asks_122 rfl ?_
                refine ⟨?_, (bjX_b F1).trans (bjX_j F2)⟩
                unfold asA
                rw [if_pos c, if_neg (by decide), if_neg (by decide), if_pos rfl, eq, eu, c114]
                rfl
            | k + 3, hk => exact absurd hk (by omega)
          · refine Rp.tableOut (tgt := 123) dX11_asks_47 (by unfold inN at hx47; rw [decide_eq_true_eq] at hx47; omega) (by decide) ?_
            exact absurd c3 hx47
        · obtain ⟨e, he, rfl⟩ := as_ge cw c3
          have ti : (nI (e + 3)).toInt = ((e + 3 : Nat) : Int) := nI_toInt (by omega)
          have es : nI (e + 3) - nI 3 = nI e := by rw [pk_sub (by omega)]; rfl
          have n0 : ¬ nI (e + 3) = nI 0 := nI_ne (by omega) (by omega) (by omega)
          have n1 : ¬ nI (e + 3) = nI 1 := nI_ne (by omega) (by omega) (by omega)
          have n2 : ¬ nI (e + 3) = nI 2 := nI_ne (by omega) (by omega) (by omega)
          by_cases ce : e < nd
          · have mi := mi e ce
            refine Rp.iload_n dX11_asks_46 rfl ?_
            refine Rp.tableOut (tgt := 123) dX11_asks_47 (by omega) (by decide) ?_
            refine Rp.iload_n dX11_asks_123 rfl ?_
            refine Rp.iconst (nI 3) dX11_asks_124 (by decide) ?_
            first | ((with_reducible show Rp _ _ _ _ (.int (nI _) :: .int (nI _) :: _) _ _); refine Rp.isubN dX11_asks_125 (by omega) ?_) | refine Rp.isub dX11_asks_125 ?_
            refine Rp.aload_n dX11_asks_126 rfl rfl ?_
            refine Rp.getR dX11_asks_127 fk_X11_10 rfl (S1 _ _ rfl) (R1 _ _ _ rfl) ?_
            refine Rp.getI dX11_asks_130 fk_X11_177 rfl (S1 _ _ rfl) ?_
            first | rw [e9] | skip
            first | ((with_reducible show Rp _ _ _ _ (.int (nI _) :: .int (nI _) :: _) _ _); refine Rp.icmp_geN (tgt := 151) dX11_asks_133 (by decide) (by omega) (fun c133 => ?_) (fun c133 => ?_)) | refine Rp.icmp_ge (tgt := 151) dX11_asks_133 (by decide) (fun c133 => ?_) (fun c133 => ?_)
            · skip
              first | (exfalso; omega) | exact absurd c133 (by decide) | exact absurd (by decide) c133
            · skip
              refine Rp.aload_n dX11_asks_136 rfl rfl ?_
              refine Rp.getR dX11_asks_137 fk_X11_39 rfl (S1 _ _ rfl) (R1 _ _ _ rfl) ?_
              refine Rp.iload_n dX11_asks_140 rfl ?_
              refine Rp.iload_n dX11_asks_141 rfl ?_
              refine Rp.iload_n dX11_asks_142 rfl ?_
              refine Rp.iconst (nI 3) dX11_asks_143 (by decide) ?_
              first | ((with_reducible show Rp _ _ _ _ (.int (nI _) :: .int (nI _) :: _) _ _); refine Rp.isubN dX11_asks_144 (by omega) ?_) | refine Rp.isub dX11_asks_144 ?_
              refine Rp.callV3 M_X3_minutes (ci := 3) dX11_asks_145 mo_X3_minutes lk_X11_180 (by decide) rfl rfl (S1 _ _ rfl) (Nat.le_of_ble_eq_true rfl) (Nat.le_of_ble_eq_true rfl) (mi) (fun v1 h1 p1 x1 => ?_)
              obtain ⟨F2, J2, rfl⟩ := p1
              try dsimp only [Option.toList, List.cons_append, List.nil_append, List.append]
              refine Rp.goto (tgt := 152) dX11_asks_148 (by decide) ?_
              refine Rp.ireturn dX11_asks_152 rfl ?_
              refine ⟨?_, (bjX_b F1).trans (bjX_j F2)⟩
              unfold asA
              rw [if_pos c, if_neg n0, if_neg n1, if_neg n2, es, if_pos (inN_nI ce (by omega)), eq, eu, ix_nI (by omega)]
          · skip
            refine Rp.iload_n dX11_asks_46 rfl ?_
            refine Rp.tableOut (tgt := 123) dX11_asks_47 (by omega) (by decide) ?_
            refine Rp.iload_n dX11_asks_123 rfl ?_
            refine Rp.iconst (nI 3) dX11_asks_124 (by decide) ?_
            first | ((with_reducible show Rp _ _ _ _ (.int (nI _) :: .int (nI _) :: _) _ _); refine Rp.isubN dX11_asks_125 (by omega) ?_) | refine Rp.isub dX11_asks_125 ?_
            refine Rp.aload_n dX11_asks_126 rfl rfl ?_
            refine Rp.getR dX11_asks_127 fk_X11_10 rfl (S1 _ _ rfl) (R1 _ _ _ rfl) ?_
            refine Rp.getI dX11_asks_130 fk_X11_177 rfl (S1 _ _ rfl) ?_
            first | rw [e9] | skip
            first | ((with_reducible show Rp _ _ _ _ (.int (nI _) :: .int (nI _) :: _) _ _); refine Rp.icmp_geN (tgt := 151) dX11_asks_133 (by decide) (by omega) (fun c133 => ?_) (fun c133 => ?_)) | refine Rp.icmp_ge (tgt := 151) dX11_asks_133 (by decide) (fun c133 => ?_) (fun c133 => ?_)
            · skip
              refine Rp.iconst (-1) dX11_asks_151 (by decide) ?_
              refine Rp.ireturn dX11_asks_152 rfl ?_
              refine ⟨?_, bjX_b F1⟩
              unfold asA
              rw [if_pos c, if_neg n0, if_neg n1, if_neg n2, es, if_neg]
              intro z
              obtain ⟨e2, h2, z2⟩ := (inN_iff (by omega)).mp z
              rw [i32_eq, nI_toInt (by omega), nI_toInt (by omega)] at z2
              omega
            · skip
              first | (exfalso; omega) | exact absurd c133 (by decide) | exact absurd (by decide) c133
      have k43 : ∀ lr, LR0 h lr (flO nl LSs (K 108)) → Rp (d + 5) M_X11_asks 43 [some (.ref 0), some (.int (nI q)), some (.int (nI u)), some (.int w)] [cvR lr, .ref 1, .ref 40] h (fun r h' => r = some (.int (asA K (flO nl LSs (K 108)) np nt nd (nI q) (nI u) w)) ∧ Fr bjX h h') := by
        intro lr q
        match lr, q with
        | none, q =>
          have bg := t_beginJ (d + 3) S R (G.1.hj (Or.inl rfl)) hz q
          dsimp only [cvR] at bg ⊢
          refine Rp.callV2 M_X3_begin (ci := 3) dX11_asks_43 mo_X3_begin lk_X11_142 (by decide) rfl rfl (S _ _ rfl) (Nat.le_of_ble_eq_true rfl) (Nat.le_of_ble_eq_true rfl) (bg) (fun v1 h1 p1 x1 => ?_)
          obtain ⟨rfl, F4, J4⟩ := p1
          try dsimp only [Option.toList, List.cons_append, List.nil_append, List.append]
          exact k46 _ F4 J4
        | some tx, q =>
          have bg := t_beginJ (d + 3) S R (G.1.hj (Or.inl rfl)) hz q
          dsimp only [cvR] at bg ⊢
          refine Rp.callV2 M_X3_begin (ci := 3) dX11_asks_43 mo_X3_begin lk_X11_142 (by decide) rfl rfl (S _ _ rfl) (Nat.le_of_ble_eq_true rfl) (Nat.le_of_ble_eq_true rfl) (bg) (fun v1 h1 p1 x1 => ?_)
          obtain ⟨rfl, F4, J4⟩ := p1
          try dsimp only [Option.toList, List.cons_append, List.nil_append, List.append]
          exact k46 _ F4 J4
      refine Rp.aload_n dX11_asks_0 rfl rfl ?_
      refine Rp.getR dX11_asks_1 fk_X11_10 rfl (S _ _ rfl) (R _ _ _ rfl) ?_
      refine Rp.iload_n dX11_asks_4 rfl ?_
      refine Rp.callV1 M_X2_isPerson (ci := 2) dX11_asks_5 mo_X2_isPerson lk_X11_125 (by decide) rfl rfl (S _ _ rfl) (Nat.le_of_ble_eq_true rfl) (Nat.le_of_ble_eq_true rfl) (ip) (fun v1 h1 p1 x1 => ?_)
      rw [p1.1, p1.2]
      try dsimp only [Option.toList, List.cons_append, List.nil_append, List.append]
      first | ((with_reducible show Rp _ _ _ _ (.int (b2i _) :: _) _ _); refine Rp.if_eqB (tgt := 26) dX11_asks_8 (by decide) (fun c8 => ?_) (fun c8 => ?_)) | ((with_reducible show Rp _ _ _ _ (.int (nI _) :: _) _ _); refine Rp.if_eqN (tgt := 26) dX11_asks_8 (by decide) (by omega) (fun c8 => ?_) (fun c8 => ?_)) | refine Rp.if_eq (tgt := 26) dX11_asks_8 (by decide) (fun c8 => ?_) (fun c8 => ?_)
      · skip
        cases c8
      · skip
        refine Rp.aload_n dX11_asks_11 rfl rfl ?_
        refine Rp.getR dX11_asks_12 fk_X11_10 rfl (S _ _ rfl) (R _ _ _ rfl) ?_
        refine Rp.iload_n dX11_asks_15 rfl ?_
        refine Rp.callV1 M_X2_isTicket (ci := 2) dX11_asks_16 mo_X2_isTicket lk_X11_152 (by decide) rfl rfl (S _ _ rfl) (Nat.le_of_ble_eq_true rfl) (Nat.le_of_ble_eq_true rfl) (it) (fun v1 h1 p1 x1 => ?_)
        rw [p1.1, p1.2]
        try dsimp only [Option.toList, List.cons_append, List.nil_append, List.append]
        first | ((with_reducible show Rp _ _ _ _ (.int (b2i _) :: _) _ _); refine Rp.if_eqB (tgt := 26) dX11_asks_19 (by decide) (fun c19 => ?_) (fun c19 => ?_)) | ((with_reducible show Rp _ _ _ _ (.int (nI _) :: _) _ _); refine Rp.if_eqN (tgt := 26) dX11_asks_19 (by decide) (by omega) (fun c19 => ?_) (fun c19 => ?_)) | refine Rp.if_eq (tgt := 26) dX11_asks_19 (by decide) (fun c19 => ?_) (fun c19 => ?_)
        · skip
          cases c19
        · skip
          refine Rp.iload_n dX11_asks_22 rfl ?_
          refine Rp.if_ge (tgt := 28) dX11_asks_23 (by decide) (fun c23 => ?_) (fun c23 => ?_)
          · skip
            refine Rp.aload_n dX11_asks_28 rfl rfl ?_
            refine Rp.getR dX11_asks_29 fk_X11_39 rfl (S _ _ rfl) (R _ _ _ rfl) ?_
            refine Rp.aload_n dX11_asks_32 rfl rfl ?_
            refine Rp.getR dX11_asks_33 fk_X11_10 rfl (S _ _ rfl) (R _ _ _ rfl) ?_
            refine Rp.aload_n dX11_asks_36 rfl rfl ?_
            refine Rp.getR dX11_asks_37 fk_X11_10 rfl (S _ _ rfl) (R _ _ _ rfl) ?_
            refine Rp.callV0 M_X2_lawInForce (ci := 2) dX11_asks_40 mo_X2_lawInForce lk_X11_138 (by decide) rfl rfl (S _ _ rfl) (Nat.le_of_ble_eq_true rfl) (Nat.le_of_ble_eq_true rfl) (lf) (fun v1 h1 p1 x1 => ?_)
            obtain ⟨rfl, lr, rfl, qq⟩ := p1
            try dsimp only [Option.toList, List.cons_append, List.nil_append, List.append]
            exact k43 lr qq
          · skip
            exact absurd cw c23
    · skip
      refine Rp.aload_n dX11_asks_0 rfl rfl ?_
      refine Rp.getR dX11_asks_1 fk_X11_10 rfl (S _ _ rfl) (R _ _ _ rfl) ?_
      refine Rp.iload_n dX11_asks_4 rfl ?_
      refine Rp.callV1 M_X2_isPerson (ci := 2) dX11_asks_5 mo_X2_isPerson lk_X11_125 (by decide) rfl rfl (S _ _ rfl) (Nat.le_of_ble_eq_true rfl) (Nat.le_of_ble_eq_true rfl) (ip) (fun v1 h1 p1 x1 => ?_)
      rw [p1.1, p1.2]
      try dsimp only [Option.toList, List.cons_append, List.nil_append, List.append]
      first | ((with_reducible show Rp _ _ _ _ (.int (b2i _) :: _) _ _); refine Rp.if_eqB (tgt := 26) dX11_asks_8 (by decide) (fun c8 => ?_) (fun c8 => ?_)) | ((with_reducible show Rp _ _ _ _ (.int (nI _) :: _) _ _); refine Rp.if_eqN (tgt := 26) dX11_asks_8 (by decide) (by omega) (fun c8 => ?_) (fun c8 => ?_)) | refine Rp.if_eq (tgt := 26) dX11_asks_8 (by decide) (fun c8 => ?_) (fun c8 => ?_)
      · skip
        cases c8
      · skip
        refine Rp.aload_n dX11_asks_11 rfl rfl ?_
        refine Rp.getR dX11_asks_12 fk_X11_10 rfl (S _ _ rfl) (R _ _ _ rfl) ?_
        refine Rp.iload_n dX11_asks_15 rfl ?_
        refine Rp.callV1 M_X2_isTicket (ci := 2) dX11_asks_16 mo_X2_isTicket lk_X11_152 (by decide) rfl rfl (S _ _ rfl) (Nat.le_of_ble_eq_true rfl) (Nat.le_of_ble_eq_true rfl) (it) (fun v1 h1 p1 x1 => ?_)
        rw [p1.1, p1.2]
        try dsimp only [Option.toList, List.cons_append, List.nil_append, List.append]
        first | ((with_reducible show Rp _ _ _ _ (.int (b2i _) :: _) _ _); refine Rp.if_eqB (tgt := 26) dX11_asks_19 (by decide) (fun c19 => ?_) (fun c19 => ?_)) | ((with_reducible show Rp _ _ _ _ (.int (nI _) :: _) _ _); refine Rp.if_eqN (tgt := 26) dX11_asks_19 (by decide) (by omega) (fun c19 => ?_) (fun c19 => ?_)) | refine Rp.if_eq (tgt := 26) dX11_asks_19 (by decide) (fun c19 => ?_) (fun c19 => ?_)
        · skip
          cases c19
        · skip
          refine Rp.iload_n dX11_asks_22 rfl ?_
          refine Rp.if_ge (tgt := 28) dX11_asks_23 (by decide) (fun c23 => ?_) (fun c23 => ?_)
          · skip
            exact absurd c23 cw
          · skip
            refine Rp.iconst (-1) dX11_asks_26 (by decide) ?_
            refine Rp.ireturn dX11_asks_27 rfl ?_
            refine ⟨?_, Fr.rfl'⟩
            unfold asA
            rw [if_pos c, if_neg (as_neg0 cw (by decide)), if_neg (as_neg0 cw (by decide)), if_neg (as_neg0 cw (by decide)), as_neg cw hd3]
            rfl
  · have ret : ∀ r, r = some (Value.int (-1)) → r = some (.int (asA K (flO nl LSs (K 108)) np nt nd p t w)) ∧ Fr bjX h h := fun r e => ⟨by rw [e]; unfold asA; rw [if_neg c], Fr.rfl'⟩
    by_cases c1 : inN p np = true
    · have c2 : inN t nt = false := Bool.eq_false_iff.mpr (fun z => c (by rw [c1, z]; rfl))
      rw [c1] at ip
      rw [c2] at it
      refine Rp.aload_n dX11_asks_0 rfl rfl ?_
      refine Rp.getR dX11_asks_1 fk_X11_10 rfl (S _ _ rfl) (R _ _ _ rfl) ?_
      refine Rp.iload_n dX11_asks_4 rfl ?_
      refine Rp.callV1 M_X2_isPerson (ci := 2) dX11_asks_5 mo_X2_isPerson lk_X11_125 (by decide) rfl rfl (S _ _ rfl) (Nat.le_of_ble_eq_true rfl) (Nat.le_of_ble_eq_true rfl) (ip) (fun v1 h1 p1 x1 => ?_)
      rw [p1.1, p1.2]
      try dsimp only [Option.toList, List.cons_append, List.nil_append, List.append]
      first | ((with_reducible show Rp _ _ _ _ (.int (b2i _) :: _) _ _); refine Rp.if_eqB (tgt := 26) dX11_asks_8 (by decide) (fun c8 => ?_) (fun c8 => ?_)) | ((with_reducible show Rp _ _ _ _ (.int (nI _) :: _) _ _); refine Rp.if_eqN (tgt := 26) dX11_asks_8 (by decide) (by omega) (fun c8 => ?_) (fun c8 => ?_)) | refine Rp.if_eq (tgt := 26) dX11_asks_8 (by decide) (fun c8 => ?_) (fun c8 => ?_)
      · skip
        cases c8
      · skip
        refine Rp.aload_n dX11_asks_11 rfl rfl ?_
        refine Rp.getR dX11_asks_12 fk_X11_10 rfl (S _ _ rfl) (R _ _ _ rfl) ?_
        refine Rp.iload_n dX11_asks_15 rfl ?_
        refine Rp.callV1 M_X2_isTicket (ci := 2) dX11_asks_16 mo_X2_isTicket lk_X11_152 (by decide) rfl rfl (S _ _ rfl) (Nat.le_of_ble_eq_true rfl) (Nat.le_of_ble_eq_true rfl) (it) (fun v1 h1 p1 x1 => ?_)
        rw [p1.1, p1.2]
        try dsimp only [Option.toList, List.cons_append, List.nil_append, List.append]
        first | ((with_reducible show Rp _ _ _ _ (.int (b2i _) :: _) _ _); refine Rp.if_eqB (tgt := 26) dX11_asks_19 (by decide) (fun c19 => ?_) (fun c19 => ?_)) | ((with_reducible show Rp _ _ _ _ (.int (nI _) :: _) _ _); refine Rp.if_eqN (tgt := 26) dX11_asks_19 (by decide) (by omega) (fun c19 => ?_) (fun c19 => ?_)) | refine Rp.if_eq (tgt := 26) dX11_asks_19 (by decide) (fun c19 => ?_) (fun c19 => ?_)
        · skip
          refine Rp.iconst (-1) dX11_asks_26 (by decide) ?_
          refine Rp.ireturn dX11_asks_27 rfl ?_
          exact ret _ rfl
        · skip
          cases c19
    · have c1' : inN p np = false := Bool.eq_false_iff.mpr c1
      rw [c1'] at ip
      refine Rp.aload_n dX11_asks_0 rfl rfl ?_
      refine Rp.getR dX11_asks_1 fk_X11_10 rfl (S _ _ rfl) (R _ _ _ rfl) ?_
      refine Rp.iload_n dX11_asks_4 rfl ?_
      refine Rp.callV1 M_X2_isPerson (ci := 2) dX11_asks_5 mo_X2_isPerson lk_X11_125 (by decide) rfl rfl (S _ _ rfl) (Nat.le_of_ble_eq_true rfl) (Nat.le_of_ble_eq_true rfl) (ip) (fun v1 h1 p1 x1 => ?_)
      rw [p1.1, p1.2]
      try dsimp only [Option.toList, List.cons_append, List.nil_append, List.append]
      first | ((with_reducible show Rp _ _ _ _ (.int (b2i _) :: _) _ _); refine Rp.if_eqB (tgt := 26) dX11_asks_8 (by decide) (fun c8 => ?_) (fun c8 => ?_)) | ((with_reducible show Rp _ _ _ _ (.int (nI _) :: _) _ _); refine Rp.if_eqN (tgt := 26) dX11_asks_8 (by decide) (by omega) (fun c8 => ?_) (fun c8 => ?_)) | refine Rp.if_eq (tgt := 26) dX11_asks_8 (by decide) (fun c8 => ?_) (fun c8 => ?_)
      · skip
        refine Rp.iconst (-1) dX11_asks_26 (by decide) ?_
        refine Rp.ireturn dX11_asks_27 rfl ?_
        exact ret _ rfl
      · skip
        cases c8
end Cas
section Mas
variable (d : Nat) {h : AH} {fl : Option (List CLE)} {np nt nd : Nat}
theorem s_asks (A : MBd h fl np nt nd) (k4 : gI h 102 104 = nI nt) (p t w : Int32) : Rp (d + 77) M_X12_asks 0 [some (.ref aM), some (.int p), some (.int t), some (.int w)] [] h (fun r h' => r = some (.int (asA (gI h 102) fl np nt nd p t w)) ∧ Fr tlX h h') := by
  obtain ⟨S, R, hF, B, VDd, k5, VNn, V, k3⟩ := A
  have v1 := V.1
  have v2 := V.2.1
  have hd3 := VDd.1
  have ip := s_isPerson (d + 75) S R p v1 k3
  have it := s_isTicket (d + 75) S R t v2 k4
  by_cases c : (inN p np && inN t nt) = true
  · have cc := c
    rw [Bool.and_eq_true] at cc
    rw [cc.1] at ip
    rw [cc.2] at it
    obtain ⟨q, hq, rfl⟩ := (inN_iff (by omega)).mp cc.1
    obtain ⟨u, hu, rfl⟩ := (inN_iff (by omega)).mp cc.2
    have eq := ix_nI (show q < 2147483648 by omega)
    have eu := ix_nI (show u < 2147483648 by omega)
    have ew := s_wishOf (d + 76) S R (q := q) (u := u) (by omega) (by omega)
    have fi := s_isFit (d + 1) S R hF B (p := q) (t := u) (by omega) (by omega)
    have ba := s_isBarred (d + 1) S R hF B (p := q) (t := u) (by omega) (by omega)
    by_cases c3 : inN w 3 = true
    · skip
      refine Rp.aload_n dX12_asks_0 rfl rfl ?_
      refine Rp.iload_n dX12_asks_1 rfl ?_
      refine Rp.callV1 M_X12_isPerson (ci := 12) dX12_asks_2 mo_X12_isPerson lk_X12_131 (by decide) rfl rfl (S _ _ rfl) (Nat.le_of_ble_eq_true rfl) (Nat.le_of_ble_eq_true rfl) (ip) (fun v1 h1 p1 x1 => ?_)
      rw [p1.1, p1.2]
      try dsimp only [Option.toList, List.cons_append, List.nil_append, List.append]
      first | ((with_reducible show Rp _ _ _ _ (.int (b2i _) :: _) _ _); refine Rp.if_eqB (tgt := 16) dX12_asks_5 (by decide) (fun c5 => ?_) (fun c5 => ?_)) | ((with_reducible show Rp _ _ _ _ (.int (nI _) :: _) _ _); refine Rp.if_eqN (tgt := 16) dX12_asks_5 (by decide) (by omega) (fun c5 => ?_) (fun c5 => ?_)) | refine Rp.if_eq (tgt := 16) dX12_asks_5 (by decide) (fun c5 => ?_) (fun c5 => ?_)
      · skip
        cases c5
      · skip
        refine Rp.aload_n dX12_asks_8 rfl rfl ?_
        refine Rp.iload_n dX12_asks_9 rfl ?_
        refine Rp.callV1 M_X12_isTicket (ci := 12) dX12_asks_10 mo_X12_isTicket lk_X12_148 (by decide) rfl rfl (S _ _ rfl) (Nat.le_of_ble_eq_true rfl) (Nat.le_of_ble_eq_true rfl) (it) (fun v1 h1 p1 x1 => ?_)
        rw [p1.1, p1.2]
        try dsimp only [Option.toList, List.cons_append, List.nil_append, List.append]
        first | ((with_reducible show Rp _ _ _ _ (.int (b2i _) :: _) _ _); refine Rp.if_neB (tgt := 18) dX12_asks_13 (by decide) (fun c13 => ?_) (fun c13 => ?_)) | ((with_reducible show Rp _ _ _ _ (.int (nI _) :: _) _ _); refine Rp.if_neN (tgt := 18) dX12_asks_13 (by decide) (by omega) (fun c13 => ?_) (fun c13 => ?_)) | refine Rp.if_ne (tgt := 18) dX12_asks_13 (by decide) (fun c13 => ?_) (fun c13 => ?_)
        · skip
          refine Rp.iload_n dX12_asks_18 rfl ?_
          by_cases hx19 : inN w 3 = true
          · obtain ⟨j19, hj19, rfl⟩ := (inN_iff (by omega)).mp hx19
            match j19, hj19 with
            | 0, _ =>
              refine Rp.tableIn (tgt := 44) (off := 25) dX12_asks_19 (by decide) (by decide) (by decide) (by decide) ?_
              refine Rp.aload_n dX12_asks_44 rfl rfl ?_
              refine Rp.iload_n dX12_asks_45 rfl ?_
              refine Rp.iload_n dX12_asks_46 rfl ?_
              refine Rp.callV2 M_X12_wishOf (ci := 12) dX12_asks_47 mo_X12_wishOf lk_X12_154 (by decide) rfl rfl (S _ _ rfl) (Nat.le_of_ble_eq_true rfl) (Nat.le_of_ble_eq_true rfl) (ew) (fun v1 h1 p1 x1 => ?_)
              rw [p1.1, p1.2]
              try dsimp only [Option.toList, List.cons_append, List.nil_append, List.append]
              refine Rp.ireturn dX12_asks_50 rfl ?_
              exact ⟨by unfold asA; rw [if_pos c, if_pos rfl, eq, eu, Nat.add_assoc], Fr.rfl'⟩
            | 1, _ =>
              refine Rp.tableIn (tgt := 51) (off := 32) dX12_asks_19 (by decide) (by decide) (by decide) (by decide) ?_
              refine Rp.aload_n dX12_asks_51 rfl rfl ?_
              refine Rp.iload_n dX12_asks_52 rfl ?_
              refine Rp.iload_n dX12_asks_53 rfl ?_
              refine Rp.callV2 M_X12_isFit (ci := 12) dX12_asks_54 mo_X12_isFit lk_X12_158 (by decide) rfl rfl (S _ _ rfl) (Nat.le_of_ble_eq_true rfl) (Nat.le_of_ble_eq_true rfl) (fi) (fun v1 h1 p1 x1 => ?_)
              obtain ⟨F2, rfl⟩ := p1
              try dsimp only [Option.toList, List.cons_append, List.nil_append, List.append]
              first | ((with_reducible show Rp _ _ _ _ (.int (b2i _) :: _) _ _); refine Rp.if_eqB (tgt := 64) dX12_asks_57 (by decide) (fun c57 => ?_) (fun c57 => ?_)) | ((with_reducible show Rp _ _ _ _ (.int (nI _) :: _) _ _); refine Rp.if_eqN (tgt := 64) dX12_asks_57 (by decide) (by omega) (fun c57 => ?_) (fun c57 => ?_)) | refine Rp.if_eq (tgt := 64) dX12_asks_57 (by decide) (fun c57 => ?_) (fun c57 => ?_)
              · skip
                refine Rp.iconst (nI 0) dX12_asks_64 (by decide) ?_
                refine Rp.ireturn dX12_asks_65 rfl ?_
                refine ⟨?_, F2⟩
                unfold asA
                rw [if_pos c, if_neg (by decide), if_pos rfl, eq, eu, show oFt (gI h 102) fl q u = _ from c57]
                rfl
              · skip
                refine Rp.iconst (nI 1) dX12_asks_60 (by decide) ?_
                refine Rp.goto (tgt := 65) dX12_asks_61 (by decide) ?_
                refine Rp.ireturn dX12_asks_65 rfl ?_
                refine ⟨?_, F2⟩
                unfold asA
                rw [if_pos c, if_neg (by decide), if_pos rfl, eq, eu, show oFt (gI h 102) fl q u = _ from c57]
                rfl
            | 2, _ =>
              refine Rp.tableIn (tgt := 66) (off := 47) dX12_asks_19 (by decide) (by decide) (by decide) (by decide) ?_
              refine Rp.aload_n dX12_asks_66 rfl rfl ?_
              refine Rp.iload_n dX12_asks_67 rfl ?_
              refine Rp.iload_n dX12_asks_68 rfl ?_
              refine Rp.callV2 M_X12_isBarred (ci := 12) dX12_asks_69 mo_X12_isBarred lk_X12_161 (by decide) rfl rfl (S _ _ rfl) (Nat.le_of_ble_eq_true rfl) (Nat.le_of_ble_eq_true rfl) (ba) (fun v1 h1 p1 x1 => ?_)
              obtain ⟨F2, rfl⟩ := p1
              try dsimp only [Option.toList, List.cons_append, List.nil_append, List.append]
              first | ((with_reducible show Rp _ _ _ _ (.int (b2i _) :: _) _ _); refine Rp.if_eqB (tgt := 79) dX12_asks_72 (by decide) (fun c72 => ?_) (fun c72 => ?_)) | ((with_reducible show Rp _ _ _ _ (.int (nI _) :: _) _ _); refine Rp.if_eqN (tgt := 79) dX12_asks_72 (by decide) (by omega) (fun c72 => ?_) (fun c72 => ?_)) | refine Rp.if_eq (tgt := 79) dX12_asks_72 (by decide) (fun c72 => ?_) (fun c72 => ?_)
              · skip
                refine Rp.iconst (nI 0) dX12_asks_79 (by decide) ?_
                refine Rp.ireturn dX12_asks_80 rfl ?_
                refine ⟨?_, F2⟩
                unfold asA
                rw [if_pos c, if_neg (by decide), if_neg (by decide), if_pos rfl, eq, eu, show oBr (gI h 102) fl q u = _ from c72]
                rfl
              · skip
                refine Rp.iconst (nI 1) dX12_asks_75 (by decide) ?_
                refine Rp.goto (tgt := 80) dX12_asks_76 (by decide) ?_
                refine Rp.ireturn dX12_asks_80 rfl ?_
                refine ⟨?_, F2⟩
                unfold asA
                rw [if_pos c, if_neg (by decide), if_neg (by decide), if_pos rfl, eq, eu, show oBr (gI h 102) fl q u = _ from c72]
                rfl
            | k + 3, hk => exact absurd hk (by omega)
          · refine Rp.tableOut (tgt := 81) dX12_asks_19 (by unfold inN at hx19; rw [decide_eq_true_eq] at hx19; omega) (by decide) ?_
            exact absurd c3 hx19
        · skip
          cases c13
    · have n0 : ∀ k, k < 3 → ¬ w = nI k := fun k hk z => c3 (by rw [z]; exact inN_nI hk (by omega))
      have li := s_lies (d + 76) (h := h) (w - nI 3) (nI 0) (nI nd - nI 1)
      rw [inN_lies (by omega)] at li
      have k5' : gI h 102 105 = nI nd := k5
      have sw19 : Rp (d + 77) M_X12_asks 81 [some (.ref aM), some (.int (nI q)), some (.int (nI u)), some (.int w)] [] h (fun r h' => r = some (.int (asA (gI h 102) fl np nt nd (nI q) (nI u) w)) ∧ Fr tlX h h') := by
        by_cases ce : inN (w - nI 3) nd = true
        · rw [ce] at li
          obtain ⟨e, he, es⟩ := (inN_iff (by omega)).mp ce
          obtain ⟨s, s1, s2, es2⟩ := VDd.2 e he
          have ta := s_takesAt (d + 1) S R hF B (p := q) (t := u) (e := e) (by omega) (by omega) (by omega) (by rw [es2]; exact nI_ne (by omega) (by omega) (by omega))
          rw [es, pk_sub (show 1 ≤ nd by omega)] at li
          refine Rp.iload_n dX12_asks_81 rfl ?_
          refine Rp.iconst (nI 3) dX12_asks_82 (by decide) ?_
          first | ((with_reducible show Rp _ _ _ _ (.int (nI _) :: .int (nI _) :: _) _ _); refine Rp.isubN dX12_asks_83 (by omega) ?_) | refine Rp.isub dX12_asks_83 ?_
          refine Rp.iconst (nI 0) dX12_asks_84 (by decide) ?_
          refine Rp.aload_n dX12_asks_85 rfl rfl ?_
          refine Rp.getR dX12_asks_86 fk_X12_24 rfl (S _ _ rfl) (R _ _ _ rfl) ?_
          refine Rp.bipush (nI 105) dX12_asks_89 (by decide) ?_
          first | ((with_reducible show Rp _ _ _ _ (.int (nI _) :: _) _ _); refine Rp.ialoadN dX12_asks_91 (S _ _ rfl) (by omega) ?_) | refine Rp.iaload dX12_asks_91 (S _ _ rfl) (by first | assumption | exact vpb (by decide)) ?_
          first | rw [k5'] | skip
          refine Rp.iconst (nI 1) dX12_asks_92 (by decide) ?_
          first | ((with_reducible show Rp _ _ _ _ (.int (nI _) :: .int (nI _) :: _) _ _); refine Rp.isubN dX12_asks_93 (by omega) ?_) | refine Rp.isub dX12_asks_93 ?_
          rw [es]
          refine Rp.callS3 M_X12_lies dX12_asks_94 mo_X12_lies lk_X12_117 (Nat.le_of_ble_eq_true rfl) (Nat.le_of_ble_eq_true rfl) (li) (fun v1 h1 p1 x1 => ?_)
          rw [p1.1, p1.2]
          try dsimp only [Option.toList, List.cons_append, List.nil_append, List.append]
          first | ((with_reducible show Rp _ _ _ _ (.int (b2i _) :: _) _ _); refine Rp.if_eqB (tgt := 112) dX12_asks_97 (by decide) (fun c97 => ?_) (fun c97 => ?_)) | ((with_reducible show Rp _ _ _ _ (.int (nI _) :: _) _ _); refine Rp.if_eqN (tgt := 112) dX12_asks_97 (by decide) (by omega) (fun c97 => ?_) (fun c97 => ?_)) | refine Rp.if_eq (tgt := 112) dX12_asks_97 (by decide) (fun c97 => ?_) (fun c97 => ?_)
          · skip
            cases c97
          · skip
            refine Rp.aload_n dX12_asks_100 rfl rfl ?_
            refine Rp.iload_n dX12_asks_101 rfl ?_
            refine Rp.iload_n dX12_asks_102 rfl ?_
            refine Rp.iload_n dX12_asks_103 rfl ?_
            refine Rp.iconst (nI 3) dX12_asks_104 (by decide) ?_
            first | ((with_reducible show Rp _ _ _ _ (.int (nI _) :: .int (nI _) :: _) _ _); refine Rp.isubN dX12_asks_105 (by omega) ?_) | refine Rp.isub dX12_asks_105 ?_
            rw [es]
            refine Rp.callV3 M_X12_takesAt (ci := 12) dX12_asks_106 mo_X12_takesAt lk_X12_164 (by decide) rfl rfl (S _ _ rfl) (Nat.le_of_ble_eq_true rfl) (Nat.le_of_ble_eq_true rfl) (ta) (fun v1 h1 p1 x1 => ?_)
            obtain ⟨F2, rfl⟩ := p1
            try dsimp only [Option.toList, List.cons_append, List.nil_append, List.append]
            refine Rp.goto (tgt := 113) dX12_asks_109 (by decide) ?_
            refine Rp.ireturn dX12_asks_113 rfl ?_
            refine ⟨?_, F2⟩
            unfold asA
            rw [if_pos c, if_neg (n0 0 (by decide)), if_neg (n0 1 (by decide)), if_neg (n0 2 (by decide)), if_pos ce, eq, eu, es, ix_nI (by omega)]
        · have ce' : inN (w - nI 3) nd = false := Bool.eq_false_iff.mpr ce
          rw [ce'] at li
          refine Rp.iload_n dX12_asks_81 rfl ?_
          refine Rp.iconst (nI 3) dX12_asks_82 (by decide) ?_
          first | ((with_reducible show Rp _ _ _ _ (.int (nI _) :: .int (nI _) :: _) _ _); refine Rp.isubN dX12_asks_83 (by omega) ?_) | refine Rp.isub dX12_asks_83 ?_
          refine Rp.iconst (nI 0) dX12_asks_84 (by decide) ?_
          refine Rp.aload_n dX12_asks_85 rfl rfl ?_
          refine Rp.getR dX12_asks_86 fk_X12_24 rfl (S _ _ rfl) (R _ _ _ rfl) ?_
          refine Rp.bipush (nI 105) dX12_asks_89 (by decide) ?_
          first | ((with_reducible show Rp _ _ _ _ (.int (nI _) :: _) _ _); refine Rp.ialoadN dX12_asks_91 (S _ _ rfl) (by omega) ?_) | refine Rp.iaload dX12_asks_91 (S _ _ rfl) (by first | assumption | exact vpb (by decide)) ?_
          first | rw [k5'] | skip
          refine Rp.iconst (nI 1) dX12_asks_92 (by decide) ?_
          first | ((with_reducible show Rp _ _ _ _ (.int (nI _) :: .int (nI _) :: _) _ _); refine Rp.isubN dX12_asks_93 (by omega) ?_) | refine Rp.isub dX12_asks_93 ?_
          refine Rp.callS3 M_X12_lies dX12_asks_94 mo_X12_lies lk_X12_117 (Nat.le_of_ble_eq_true rfl) (Nat.le_of_ble_eq_true rfl) (li) (fun v1 h1 p1 x1 => ?_)
          rw [p1.1, p1.2]
          try dsimp only [Option.toList, List.cons_append, List.nil_append, List.append]
          first | ((with_reducible show Rp _ _ _ _ (.int (b2i _) :: _) _ _); refine Rp.if_eqB (tgt := 112) dX12_asks_97 (by decide) (fun c97 => ?_) (fun c97 => ?_)) | ((with_reducible show Rp _ _ _ _ (.int (nI _) :: _) _ _); refine Rp.if_eqN (tgt := 112) dX12_asks_97 (by decide) (by omega) (fun c97 => ?_) (fun c97 => ?_)) | refine Rp.if_eq (tgt := 112) dX12_asks_97 (by decide) (fun c97 => ?_) (fun c97 => ?_)
          · skip
            refine Rp.iconst (-1) dX12_asks_112 (by decide) ?_
            refine Rp.ireturn dX12_asks_113 rfl ?_
            refine ⟨?_, Fr.rfl'⟩
            unfold asA
            rw [if_pos c, if_neg (n0 0 (by decide)), if_neg (n0 1 (by decide)), if_neg (n0 2 (by decide)), if_neg ce]
          · skip
            cases c97
      refine Rp.aload_n dX12_asks_0 rfl rfl ?_
      refine Rp.iload_n dX12_asks_1 rfl ?_
      refine Rp.callV1 M_X12_isPerson (ci := 12) dX12_asks_2 mo_X12_isPerson lk_X12_131 (by decide) rfl rfl (S _ _ rfl) (Nat.le_of_ble_eq_true rfl) (Nat.le_of_ble_eq_true rfl) (ip) (fun v1 h1 p1 x1 => ?_)
      rw [p1.1, p1.2]
      try dsimp only [Option.toList, List.cons_append, List.nil_append, List.append]
      first | ((with_reducible show Rp _ _ _ _ (.int (b2i _) :: _) _ _); refine Rp.if_eqB (tgt := 16) dX12_asks_5 (by decide) (fun c5 => ?_) (fun c5 => ?_)) | ((with_reducible show Rp _ _ _ _ (.int (nI _) :: _) _ _); refine Rp.if_eqN (tgt := 16) dX12_asks_5 (by decide) (by omega) (fun c5 => ?_) (fun c5 => ?_)) | refine Rp.if_eq (tgt := 16) dX12_asks_5 (by decide) (fun c5 => ?_) (fun c5 => ?_)
      · cases c5
      refine Rp.aload_n dX12_asks_8 rfl rfl ?_
      refine Rp.iload_n dX12_asks_9 rfl ?_
      refine Rp.callV1 M_X12_isTicket (ci := 12) dX12_asks_10 mo_X12_isTicket lk_X12_148 (by decide) rfl rfl (S _ _ rfl) (Nat.le_of_ble_eq_true rfl) (Nat.le_of_ble_eq_true rfl) (it) (fun v1 h1 p1 x1 => ?_)
      rw [p1.1, p1.2]
      try dsimp only [Option.toList, List.cons_append, List.nil_append, List.append]
      first | ((with_reducible show Rp _ _ _ _ (.int (b2i _) :: _) _ _); refine Rp.if_neB (tgt := 18) dX12_asks_13 (by decide) (fun c13 => ?_) (fun c13 => ?_)) | ((with_reducible show Rp _ _ _ _ (.int (nI _) :: _) _ _); refine Rp.if_neN (tgt := 18) dX12_asks_13 (by decide) (by omega) (fun c13 => ?_) (fun c13 => ?_)) | refine Rp.if_ne (tgt := 18) dX12_asks_13 (by decide) (fun c13 => ?_) (fun c13 => ?_)
      rotate_left
      · cases c13
      skip
      refine Rp.iload_n dX12_asks_18 rfl ?_
      refine Rp.tableOut (tgt := 81) dX12_asks_19 (by unfold inN at c3; rw [decide_eq_true_eq] at c3; omega) (by decide) ?_
      exact sw19
  · have ret : ∀ r, r = some (Value.int (-1)) → r = some (.int (asA (gI h 102) fl np nt nd p t w)) ∧ Fr tlX h h := fun r e => ⟨by rw [e]; unfold asA; rw [if_neg c], Fr.rfl'⟩
    by_cases c1 : inN p np = true
    · have c2 : inN t nt = false := Bool.eq_false_iff.mpr (fun z => c (by rw [c1, z]; rfl))
      rw [c1] at ip
      rw [c2] at it
      refine Rp.aload_n dX12_asks_0 rfl rfl ?_
      refine Rp.iload_n dX12_asks_1 rfl ?_
      refine Rp.callV1 M_X12_isPerson (ci := 12) dX12_asks_2 mo_X12_isPerson lk_X12_131 (by decide) rfl rfl (S _ _ rfl) (Nat.le_of_ble_eq_true rfl) (Nat.le_of_ble_eq_true rfl) (ip) (fun v1 h1 p1 x1 => ?_)
      rw [p1.1, p1.2]
      try dsimp only [Option.toList, List.cons_append, List.nil_append, List.append]
      first | ((with_reducible show Rp _ _ _ _ (.int (b2i _) :: _) _ _); refine Rp.if_eqB (tgt := 16) dX12_asks_5 (by decide) (fun c5 => ?_) (fun c5 => ?_)) | ((with_reducible show Rp _ _ _ _ (.int (nI _) :: _) _ _); refine Rp.if_eqN (tgt := 16) dX12_asks_5 (by decide) (by omega) (fun c5 => ?_) (fun c5 => ?_)) | refine Rp.if_eq (tgt := 16) dX12_asks_5 (by decide) (fun c5 => ?_) (fun c5 => ?_)
      · skip
        cases c5
      · skip
        refine Rp.aload_n dX12_asks_8 rfl rfl ?_
        refine Rp.iload_n dX12_asks_9 rfl ?_
        refine Rp.callV1 M_X12_isTicket (ci := 12) dX12_asks_10 mo_X12_isTicket lk_X12_148 (by decide) rfl rfl (S _ _ rfl) (Nat.le_of_ble_eq_true rfl) (Nat.le_of_ble_eq_true rfl) (it) (fun v1 h1 p1 x1 => ?_)
        rw [p1.1, p1.2]
        try dsimp only [Option.toList, List.cons_append, List.nil_append, List.append]
        first | ((with_reducible show Rp _ _ _ _ (.int (b2i _) :: _) _ _); refine Rp.if_neB (tgt := 18) dX12_asks_13 (by decide) (fun c13 => ?_) (fun c13 => ?_)) | ((with_reducible show Rp _ _ _ _ (.int (nI _) :: _) _ _); refine Rp.if_neN (tgt := 18) dX12_asks_13 (by decide) (by omega) (fun c13 => ?_) (fun c13 => ?_)) | refine Rp.if_ne (tgt := 18) dX12_asks_13 (by decide) (fun c13 => ?_) (fun c13 => ?_)
        · skip
          cases c13
        · skip
          refine Rp.iconst (-1) dX12_asks_16 (by decide) ?_
          refine Rp.ireturn dX12_asks_17 rfl ?_
          exact ret _ rfl
    · have c1' : inN p np = false := Bool.eq_false_iff.mpr c1
      rw [c1'] at ip
      refine Rp.aload_n dX12_asks_0 rfl rfl ?_
      refine Rp.iload_n dX12_asks_1 rfl ?_
      refine Rp.callV1 M_X12_isPerson (ci := 12) dX12_asks_2 mo_X12_isPerson lk_X12_131 (by decide) rfl rfl (S _ _ rfl) (Nat.le_of_ble_eq_true rfl) (Nat.le_of_ble_eq_true rfl) (ip) (fun v1 h1 p1 x1 => ?_)
      rw [p1.1, p1.2]
      try dsimp only [Option.toList, List.cons_append, List.nil_append, List.append]
      first | ((with_reducible show Rp _ _ _ _ (.int (b2i _) :: _) _ _); refine Rp.if_eqB (tgt := 16) dX12_asks_5 (by decide) (fun c5 => ?_) (fun c5 => ?_)) | ((with_reducible show Rp _ _ _ _ (.int (nI _) :: _) _ _); refine Rp.if_eqN (tgt := 16) dX12_asks_5 (by decide) (by omega) (fun c5 => ?_) (fun c5 => ?_)) | refine Rp.if_eq (tgt := 16) dX12_asks_5 (by decide) (fun c5 => ?_) (fun c5 => ?_)
      · skip
        refine Rp.iconst (-1) dX12_asks_16 (by decide) ?_
        refine Rp.ireturn dX12_asks_17 rfl ?_
        exact ret _ rfl
      · skip
        cases c5
end Mas
theorem p_asks {L : Nat} {xs : Nat → Int32} (a1 a2 a3 : Int32) : Pr (Ivt L xs) 103 M_X11_asks M_X12_asks [.int a1, .int a2, .int a3] :=
  pq (fun K np nt nd nl no LSs => asA K (flO nl LSs (K 108)) np nt nd a1 a2 a3) lv_bjX lv_tlX
    (fun h np nt nd nl no LSs E US S R Z C => (t_asks _ S R C.1 C.2.1.1 C.2.1.2.1 Z.1 C.2.1.2.2.2.1 a1 a2 a3).imp (fun r g p => ⟨p.1, p.2, p.2.R R (by decide), p.2.fun (fun _ => rfl)⟩))
    (fun h np nt nd nl no LSs E US S R C => (s_asks _ (C.mb S R) C.2.1.2.2.2.2.2.2.1.2.1 a1 a2 a3).imp (fun r g p => ⟨p.1, p.2, p.2.R R (by decide), p.2.fun (fun _ => rfl)⟩))
