def ofA (K : Nat → Int32) (fl : Option (List CLE)) (np : Nat) (p w : Int32) : Int32 := if inN p np = true then (if w = nI 0 then K (7 + ix p) else if w = nI 1 then K (13 + ix p) else if w = nI 2 then K (ix p) else if w = nI 3 then nI (oCs K fl (ix p)) else -1) else -1
def asA (K : Nat → Int32) (fl : Option (List CLE)) (np nt nd : Nat) (p t w : Int32) : Int32 := if (inN p np && inN t nt) = true then (if w = nI 0 then K (19 + (8 * ix p + ix t)) else if w = nI 1 then b2i (oFt K fl (ix p) (ix t)) else if w = nI 2 then b2i (oBr K fl (ix p) (ix t)) else if inN (w - nI 3) nd = true then nI (oTk K fl (ix p) (ix t) (ix (w - nI 3))) else -1) else -1
section Co
variable (d : Nat) {h : AH} {K : Nat → Int32} {np nt nd nl : Nat} {LSs : Nat → List CLE} {E : List Int32}
theorem t_of (S : ShOK h) (R : RfOK h) (G : HG h 1 K np nt nd nl LSs E) (V : VH K np nt) (B : KB K) (hz : ∀ j, 9 ≤ j → gI h 43 j = 0) (p w : Int32) : Rp (d + 5) M_X11_of 0 [some (.ref 0), some (.int p), some (.int w)] [] h (fun r h' => r = some (.int (ofA K (flO nl LSs (K 108)) np p w)) ∧ Fr bjX h h') := by
  have v1 := V.1
  have e18 : gI h 1 18 = K 108 := G.1.2.2.2.2.2.2.1
  have lf := t_lawInForce (d + 2) G.2.1
  rw [e18] at lf
  have ip := t_isPerson (d + 4) (S 1 _ rfl) p v1 G.1.2.1
  by_cases c : inN p np = true
  · rw [c] at ip
    obtain ⟨q, hq, rfl⟩ := (inN_iff (by omega)).mp c
    have eq := ix_nI (show q < 2147483648 by omega)
    have h1q := G.1.c.cel (k := 2) (j := q) (i := 7 + q) (Or.inl ⟨rfl, by omega, rfl⟩)
    have h2q := G.1.c.cel (k := 3) (j := q) (i := 13 + q) (Or.inr (Or.inl ⟨rfl, by omega, rfl⟩))
    have h3q := G.1.c.cel (k := 4) (j := q) (i := q) (Or.inr (Or.inr (Or.inl ⟨rfl, by omega, rfl⟩)))
    have k92 : ∀ g, Fr bX h g → JS g 1 K (flO nl LSs (K 108)) → Rp (d + 5) M_X11_of 92 [some (.ref 0), some (.int (nI q)), some (.int (nI 3))] [] g (fun r h' => r = some (.int (ofA K (flO nl LSs (K 108)) np (nI q) (nI 3))) ∧ Fr bjX h h') := by
      intro g F1 J1
      have S1 := F1.S S
      have R1 := F1.R R (by decide)
      have cs := t_costJ (d + 2) S1 R1 J1 B (p := q) (by omega)
      refine Rp.aload_n dX11_of_92 rfl rfl ?_
      refine Rp.getR dX11_of_93 fk_X11_39 rfl (S1 _ _ rfl) (R1 _ _ _ rfl) ?_
      refine Rp.iload_n dX11_of_96 rfl ?_
      refine Rp.callV1 M_X3_cost (ci := 3) dX11_of_97 mo_X3_cost lk_X11_146 (by decide) rfl rfl (S1 _ _ rfl) (Nat.le_of_ble_eq_true rfl) (Nat.le_of_ble_eq_true rfl) (cs) (fun v1 h1 p1 x1 => ?_)
      obtain ⟨F2, J2, rfl⟩ := p1
      try dsimp only [Option.toList, List.cons_append, List.nil_append, List.append]
      refine Rp.ireturn dX11_of_100 rfl ?_
      refine ⟨?_, (bjX_b F1).trans (bjX_j F2)⟩
      unfold ofA
      rw [if_pos c, if_neg (by decide), if_neg (by decide), if_neg (by decide), if_pos rfl, eq]
    have k89 : ∀ lr, LR0 h lr (flO nl LSs (K 108)) → Rp (d + 5) M_X11_of 89 [some (.ref 0), some (.int (nI q)), some (.int (nI 3))] [cvR lr, .ref 1, .ref 40] h (fun r h' => r = some (.int (ofA K (flO nl LSs (K 108)) np (nI q) (nI 3))) ∧ Fr bjX h h') := by
      intro lr q
      match lr, q with
      | none, q =>
        have bg := t_beginJ (d + 3) S R (G.1.hj (Or.inl rfl)) hz q
        dsimp only [cvR] at bg ⊢
        refine Rp.callV2 M_X3_begin (ci := 3) dX11_of_89 mo_X3_begin lk_X11_142 (by decide) rfl rfl (S _ _ rfl) (Nat.le_of_ble_eq_true rfl) (Nat.le_of_ble_eq_true rfl) (bg) (fun v1 h1 p1 x1 => ?_)
        obtain ⟨rfl, F4, J4⟩ := p1
        try dsimp only [Option.toList, List.cons_append, List.nil_append, List.append]
        exact k92 _ F4 J4
      | some tx, q =>
        have bg := t_beginJ (d + 3) S R (G.1.hj (Or.inl rfl)) hz q
        dsimp only [cvR] at bg ⊢
        refine Rp.callV2 M_X3_begin (ci := 3) dX11_of_89 mo_X3_begin lk_X11_142 (by decide) rfl rfl (S _ _ rfl) (Nat.le_of_ble_eq_true rfl) (Nat.le_of_ble_eq_true rfl) (bg) (fun v1 h1 p1 x1 => ?_)
        obtain ⟨rfl, F4, J4⟩ := p1
        try dsimp only [Option.toList, List.cons_append, List.nil_append, List.append]
        exact k92 _ F4 J4
    refine Rp.aload_n dX11_of_0 rfl rfl ?_
    refine Rp.getR dX11_of_1 fk_X11_10 rfl (S _ _ rfl) (R _ _ _ rfl) ?_
    refine Rp.iload_n dX11_of_4 rfl ?_
    refine Rp.callV1 M_X2_isPerson (ci := 2) dX11_of_5 mo_X2_isPerson lk_X11_125 (by decide) rfl rfl (S _ _ rfl) (Nat.le_of_ble_eq_true rfl) (Nat.le_of_ble_eq_true rfl) (ip) (fun v1 h1 p1 x1 => ?_)
    rw [p1.1, p1.2]
    try dsimp only [Option.toList, List.cons_append, List.nil_append, List.append]
    first | ((with_reducible show Rp _ _ _ _ (.int (b2i _) :: _) _ _); refine Rp.if_neB (tgt := 13) dX11_of_8 (by decide) (fun c8 => ?_) (fun c8 => ?_)) | ((with_reducible show Rp _ _ _ _ (.int (nI _) :: _) _ _); refine Rp.if_neN (tgt := 13) dX11_of_8 (by decide) (by omega) (fun c8 => ?_) (fun c8 => ?_)) | refine Rp.if_ne (tgt := 13) dX11_of_8 (by decide) (fun c8 => ?_) (fun c8 => ?_)
    · skip
      refine Rp.iload_n dX11_of_13 rfl ?_
      by_cases hx14 : inN w 4 = true
      · obtain ⟨j14, hj14, rfl⟩ := (inN_iff (by omega)).mp hx14
        match j14, hj14 with
        | 0, _ =>
          refine Rp.tableIn (tgt := 44) (off := 30) dX11_of_14 (by decide) (by decide) (by decide) (by decide) ?_
          refine Rp.aload_n dX11_of_44 rfl rfl ?_
          refine Rp.getR dX11_of_45 fk_X11_10 rfl (S _ _ rfl) (R _ _ _ rfl) ?_
          refine Rp.getR dX11_of_48 fk_X11_129 rfl (S _ _ rfl) (R _ _ _ rfl) ?_
          refine Rp.iload_n dX11_of_51 rfl ?_
          first | ((with_reducible show Rp _ _ _ _ (.int (nI _) :: _) _ _); refine Rp.ialoadN dX11_of_52 (S _ _ rfl) (by omega) ?_) | refine Rp.iaload dX11_of_52 (S _ _ rfl) (by first | assumption | exact vpb (by decide)) ?_
          first | rw [h1q] | rw [h2q] | rw [h3q] | skip
          refine Rp.ireturn dX11_of_53 rfl ?_
          exact ⟨by unfold ofA; rw [if_pos c, if_pos rfl, eq], Fr.rfl'⟩
        | 1, _ =>
          refine Rp.tableIn (tgt := 54) (off := 40) dX11_of_14 (by decide) (by decide) (by decide) (by decide) ?_
          refine Rp.aload_n dX11_of_54 rfl rfl ?_
          refine Rp.getR dX11_of_55 fk_X11_10 rfl (S _ _ rfl) (R _ _ _ rfl) ?_
          refine Rp.getR dX11_of_58 fk_X11_132 rfl (S _ _ rfl) (R _ _ _ rfl) ?_
          refine Rp.iload_n dX11_of_61 rfl ?_
          first | ((with_reducible show Rp _ _ _ _ (.int (nI _) :: _) _ _); refine Rp.ialoadN dX11_of_62 (S _ _ rfl) (by omega) ?_) | refine Rp.iaload dX11_of_62 (S _ _ rfl) (by first | assumption | exact vpb (by decide)) ?_
          first | rw [h1q] | rw [h2q] | rw [h3q] | skip
          refine Rp.ireturn dX11_of_63 rfl ?_
          exact ⟨by unfold ofA; rw [if_pos c, if_neg (by decide), if_pos rfl, eq], Fr.rfl'⟩
        | 2, _ =>
          refine Rp.tableIn (tgt := 64) (off := 50) dX11_of_14 (by decide) (by decide) (by decide) (by decide) ?_
          refine Rp.aload_n dX11_of_64 rfl rfl ?_
          refine Rp.getR dX11_of_65 fk_X11_10 rfl (S _ _ rfl) (R _ _ _ rfl) ?_
          refine Rp.getR dX11_of_68 fk_X11_135 rfl (S _ _ rfl) (R _ _ _ rfl) ?_
          refine Rp.iload_n dX11_of_71 rfl ?_
          first | ((with_reducible show Rp _ _ _ _ (.int (nI _) :: _) _ _); refine Rp.ialoadN dX11_of_72 (S _ _ rfl) (by omega) ?_) | refine Rp.iaload dX11_of_72 (S _ _ rfl) (by first | assumption | exact vpb (by decide)) ?_
          first | rw [h1q] | rw [h2q] | rw [h3q] | skip
          refine Rp.ireturn dX11_of_73 rfl ?_
          exact ⟨by unfold ofA; rw [if_pos c, if_neg (by decide), if_neg (by decide), if_pos rfl, eq], Fr.rfl'⟩
        | 3, _ =>
          refine Rp.tableIn (tgt := 74) (off := 60) dX11_of_14 (by decide) (by decide) (by decide) (by decide) ?_
          refine Rp.aload_n dX11_of_74 rfl rfl ?_
          refine Rp.getR dX11_of_75 fk_X11_39 rfl (S _ _ rfl) (R _ _ _ rfl) ?_
          refine Rp.aload_n dX11_of_78 rfl rfl ?_
          refine Rp.getR dX11_of_79 fk_X11_10 rfl (S _ _ rfl) (R _ _ _ rfl) ?_
          refine Rp.aload_n dX11_of_82 rfl rfl ?_
          refine Rp.getR dX11_of_83 fk_X11_10 rfl (S _ _ rfl) (R _ _ _ rfl) ?_
          refine Rp.callV0 M_X2_lawInForce (ci := 2) dX11_of_86 mo_X2_lawInForce lk_X11_138 (by decide) rfl rfl (S _ _ rfl) (Nat.le_of_ble_eq_true rfl) (Nat.le_of_ble_eq_true rfl) (lf) (fun v1 h1 p1 x1 => ?_)
          obtain ⟨rfl, lr, rfl, qq⟩ := p1
          try dsimp only [Option.toList, List.cons_append, List.nil_append, List.append]
          exact k89 lr qq
        | k + 4, hk => exact absurd hk (by omega)
      · refine Rp.tableOut (tgt := 101) dX11_of_14 (by unfold inN at hx14; rw [decide_eq_true_eq] at hx14; omega) (by decide) ?_
        refine Rp.iconst (-1) dX11_of_101 (by decide) ?_
        refine Rp.ireturn dX11_of_102 rfl ?_
        exact ⟨by unfold ofA; rw [if_pos c, if_neg (fun z => hx14 (by rw [z]; rfl)), if_neg (fun z => hx14 (by rw [z]; rfl)), if_neg (fun z => hx14 (by rw [z]; rfl)), if_neg (fun z => hx14 (by rw [z]; rfl))], Fr.rfl'⟩
    · skip
      cases c8
  · have c' : inN p np = false := Bool.eq_false_iff.mpr c
    rw [c'] at ip
    refine Rp.aload_n dX11_of_0 rfl rfl ?_
    refine Rp.getR dX11_of_1 fk_X11_10 rfl (S _ _ rfl) (R _ _ _ rfl) ?_
    refine Rp.iload_n dX11_of_4 rfl ?_
    refine Rp.callV1 M_X2_isPerson (ci := 2) dX11_of_5 mo_X2_isPerson lk_X11_125 (by decide) rfl rfl (S _ _ rfl) (Nat.le_of_ble_eq_true rfl) (Nat.le_of_ble_eq_true rfl) (ip) (fun v1 h1 p1 x1 => ?_)
    rw [p1.1, p1.2]
    try dsimp only [Option.toList, List.cons_append, List.nil_append, List.append]
    first | ((with_reducible show Rp _ _ _ _ (.int (b2i _) :: _) _ _); refine Rp.if_neB (tgt := 13) dX11_of_8 (by decide) (fun c8 => ?_) (fun c8 => ?_)) | ((with_reducible show Rp _ _ _ _ (.int (nI _) :: _) _ _); refine Rp.if_neN (tgt := 13) dX11_of_8 (by decide) (by omega) (fun c8 => ?_) (fun c8 => ?_)) | refine Rp.if_ne (tgt := 13) dX11_of_8 (by decide) (fun c8 => ?_) (fun c8 => ?_)
    · skip
      cases c8
    · skip
      refine Rp.iconst (-1) dX11_of_11 (by decide) ?_
      refine Rp.ireturn dX11_of_12 rfl ?_
      exact ⟨by unfold ofA; rw [if_neg c], Fr.rfl'⟩
end Co
section Mo
variable (d : Nat) {h : AH} {fl : Option (List CLE)} {np nt nd : Nat}
theorem s_of (A : MBd h fl np nt nd) (p w : Int32) : Rp (d + 77) M_X12_of 0 [some (.ref aM), some (.int p), some (.int w)] [] h (fun r h' => r = some (.int (ofA (gI h 102) fl np p w)) ∧ Fr tlX h h') := by
  obtain ⟨S, R, hF, B, VDd, k5, VNn, V, k3⟩ := A
  have v1 := V.1
  have ip := s_isPerson (d + 75) S R p v1 k3
  by_cases c : inN p np = true
  · rw [c] at ip
    obtain ⟨q, hq, rfl⟩ := (inN_iff (by omega)).mp c
    have eq := ix_nI (show q < 2147483648 by omega)
    have cs := s_costOf (d + 1) S R hF B (p := q) (by omega)
    refine Rp.aload_n dX12_of_0 rfl rfl ?_
    refine Rp.iload_n dX12_of_1 rfl ?_
    refine Rp.callV1 M_X12_isPerson (ci := 12) dX12_of_2 mo_X12_isPerson lk_X12_131 (by decide) rfl rfl (S _ _ rfl) (Nat.le_of_ble_eq_true rfl) (Nat.le_of_ble_eq_true rfl) (ip) (fun v1 h1 p1 x1 => ?_)
    rw [p1.1, p1.2]
    try dsimp only [Option.toList, List.cons_append, List.nil_append, List.append]
    first | ((with_reducible show Rp _ _ _ _ (.int (b2i _) :: _) _ _); refine Rp.if_neB (tgt := 10) dX12_of_5 (by decide) (fun c5 => ?_) (fun c5 => ?_)) | ((with_reducible show Rp _ _ _ _ (.int (nI _) :: _) _ _); refine Rp.if_neN (tgt := 10) dX12_of_5 (by decide) (by omega) (fun c5 => ?_) (fun c5 => ?_)) | refine Rp.if_ne (tgt := 10) dX12_of_5 (by decide) (fun c5 => ?_) (fun c5 => ?_)
    · skip
      refine Rp.iload_n dX12_of_10 rfl ?_
      by_cases hx11 : inN w 4 = true
      · obtain ⟨j11, hj11, rfl⟩ := (inN_iff (by omega)).mp hx11
        match j11, hj11 with
        | 0, _ =>
          refine Rp.tableIn (tgt := 40) (off := 29) dX12_of_11 (by decide) (by decide) (by decide) (by decide) ?_
          refine Rp.aload_n dX12_of_40 rfl rfl ?_
          refine Rp.getR dX12_of_41 fk_X12_24 rfl (S _ _ rfl) (R _ _ _ rfl) ?_
          refine Rp.bipush (nI 7) dX12_of_44 (by decide) ?_
          refine Rp.iload_n dX12_of_46 rfl ?_
          first | ((with_reducible show Rp _ _ _ _ (.int (nI _) :: .int (nI _) :: _) _ _); refine Rp.iaddN dX12_of_47 ?_) | refine Rp.iadd dX12_of_47 ?_
          first | ((with_reducible show Rp _ _ _ _ (.int (nI _) :: _) _ _); refine Rp.ialoadN dX12_of_48 (S _ _ rfl) (by omega) ?_) | refine Rp.iaload dX12_of_48 (S _ _ rfl) (by first | assumption | exact vpb (by decide)) ?_
          refine Rp.ireturn dX12_of_49 rfl ?_
          exact ⟨by unfold ofA; rw [if_pos c, if_pos rfl, eq], Fr.rfl'⟩
        | 1, _ =>
          refine Rp.tableIn (tgt := 50) (off := 39) dX12_of_11 (by decide) (by decide) (by decide) (by decide) ?_
          refine Rp.aload_n dX12_of_50 rfl rfl ?_
          refine Rp.getR dX12_of_51 fk_X12_24 rfl (S _ _ rfl) (R _ _ _ rfl) ?_
          refine Rp.bipush (nI 13) dX12_of_54 (by decide) ?_
          refine Rp.iload_n dX12_of_56 rfl ?_
          first | ((with_reducible show Rp _ _ _ _ (.int (nI _) :: .int (nI _) :: _) _ _); refine Rp.iaddN dX12_of_57 ?_) | refine Rp.iadd dX12_of_57 ?_
          first | ((with_reducible show Rp _ _ _ _ (.int (nI _) :: _) _ _); refine Rp.ialoadN dX12_of_58 (S _ _ rfl) (by omega) ?_) | refine Rp.iaload dX12_of_58 (S _ _ rfl) (by first | assumption | exact vpb (by decide)) ?_
          refine Rp.ireturn dX12_of_59 rfl ?_
          exact ⟨by unfold ofA; rw [if_pos c, if_neg (by decide), if_pos rfl, eq], Fr.rfl'⟩
        | 2, _ =>
          refine Rp.tableIn (tgt := 60) (off := 49) dX12_of_11 (by decide) (by decide) (by decide) (by decide) ?_
          refine Rp.aload_n dX12_of_60 rfl rfl ?_
          refine Rp.getR dX12_of_61 fk_X12_24 rfl (S _ _ rfl) (R _ _ _ rfl) ?_
          refine Rp.iconst (nI 0) dX12_of_64 (by decide) ?_
          refine Rp.iload_n dX12_of_65 rfl ?_
          first | ((with_reducible show Rp _ _ _ _ (.int (nI _) :: .int (nI _) :: _) _ _); refine Rp.iaddN dX12_of_66 ?_) | refine Rp.iadd dX12_of_66 ?_
          first | ((with_reducible show Rp _ _ _ _ (.int (nI _) :: _) _ _); refine Rp.ialoadN dX12_of_67 (S _ _ rfl) (by omega) ?_) | refine Rp.iaload dX12_of_67 (S _ _ rfl) (by first | assumption | exact vpb (by decide)) ?_
          refine Rp.ireturn dX12_of_68 rfl ?_
          exact ⟨by unfold ofA; rw [if_pos c, if_neg (by decide), if_neg (by decide), if_pos rfl, eq, Nat.zero_add], Fr.rfl'⟩
        | 3, _ =>
          refine Rp.tableIn (tgt := 69) (off := 58) dX12_of_11 (by decide) (by decide) (by decide) (by decide) ?_
          refine Rp.aload_n dX12_of_69 rfl rfl ?_
          refine Rp.iload_n dX12_of_70 rfl ?_
          refine Rp.callV1 M_X12_costOf (ci := 12) dX12_of_71 mo_X12_costOf lk_X12_134 (by decide) rfl rfl (S _ _ rfl) (Nat.le_of_ble_eq_true rfl) (Nat.le_of_ble_eq_true rfl) (cs) (fun v1 h1 p1 x1 => ?_)
          obtain ⟨F2, rfl⟩ := p1
          try dsimp only [Option.toList, List.cons_append, List.nil_append, List.append]
          refine Rp.ireturn dX12_of_74 rfl ?_
          refine ⟨?_, F2⟩
          unfold ofA
          rw [if_pos c, if_neg (by decide), if_neg (by decide), if_neg (by decide), if_pos rfl, eq]
        | k + 4, hk => exact absurd hk (by omega)
      · refine Rp.tableOut (tgt := 75) dX12_of_11 (by unfold inN at hx11; rw [decide_eq_true_eq] at hx11; omega) (by decide) ?_
        refine Rp.iconst (-1) dX12_of_75 (by decide) ?_
        refine Rp.ireturn dX12_of_76 rfl ?_
        exact ⟨by unfold ofA; rw [if_pos c, if_neg (fun z => hx11 (by rw [z]; rfl)), if_neg (fun z => hx11 (by rw [z]; rfl)), if_neg (fun z => hx11 (by rw [z]; rfl)), if_neg (fun z => hx11 (by rw [z]; rfl))], Fr.rfl'⟩
    · skip
      cases c5
  · have c' : inN p np = false := Bool.eq_false_iff.mpr c
    rw [c'] at ip
    refine Rp.aload_n dX12_of_0 rfl rfl ?_
    refine Rp.iload_n dX12_of_1 rfl ?_
    refine Rp.callV1 M_X12_isPerson (ci := 12) dX12_of_2 mo_X12_isPerson lk_X12_131 (by decide) rfl rfl (S _ _ rfl) (Nat.le_of_ble_eq_true rfl) (Nat.le_of_ble_eq_true rfl) (ip) (fun v1 h1 p1 x1 => ?_)
    rw [p1.1, p1.2]
    try dsimp only [Option.toList, List.cons_append, List.nil_append, List.append]
    first | ((with_reducible show Rp _ _ _ _ (.int (b2i _) :: _) _ _); refine Rp.if_neB (tgt := 10) dX12_of_5 (by decide) (fun c5 => ?_) (fun c5 => ?_)) | ((with_reducible show Rp _ _ _ _ (.int (nI _) :: _) _ _); refine Rp.if_neN (tgt := 10) dX12_of_5 (by decide) (by omega) (fun c5 => ?_) (fun c5 => ?_)) | refine Rp.if_ne (tgt := 10) dX12_of_5 (by decide) (fun c5 => ?_) (fun c5 => ?_)
    · skip
      cases c5
    · skip
      refine Rp.iconst (-1) dX12_of_8 (by decide) ?_
      refine Rp.ireturn dX12_of_9 rfl ?_
      exact ⟨by unfold ofA; rw [if_neg c], Fr.rfl'⟩
end Mo
theorem p_of {L : Nat} {xs : Nat → Int32} (a1 a2 : Int32) : Pr (Ivt L xs) 103 M_X11_of M_X12_of [.int a1, .int a2] :=
  pq (fun K np nt nd nl no LSs => ofA K (flO nl LSs (K 108)) np a1 a2) lv_bjX lv_tlX
    (fun h np nt nd nl no LSs E US S R Z C => (t_of _ S R C.1 C.2.1.1 C.2.1.2.1 Z.1 a1 a2).imp (fun r g p => ⟨p.1, p.2, p.2.R R (by decide), p.2.fun (fun _ => rfl)⟩))
    (fun h np nt nd nl no LSs E US S R C => (s_of _ (C.mb S R) a1 a2).imp (fun r g p => ⟨p.1, p.2, p.2.R R (by decide), p.2.fun (fun _ => rfl)⟩))
