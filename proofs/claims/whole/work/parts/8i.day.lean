section Cd
variable (d : Nat) {h : AH} {K : Nat → Int32} {fl : Option (List CLE)} {np nt nd nl : Nat} {LSs : Nat → List CLE} {E : List Int32}
theorem tzX_q {h g : AH} (F : Fr pX h g) : Fr tzX h g := tzX_a (pdX_q F)
theorem HD.fr1 {X : Nat → Nat → Bool} {h g : AH} {K : Nat → Int32} {nd : Nat} (D : HD h 1 K nd) (F : Fr X h g) (hx : ∀ o j, o < 16 → X (1 + o) j = false) : HD g 1 K nd := ⟨D.1.fr F (fun j => hx 0 j (by omega)) (hx 14 0 (by omega)), D.2.1, (F.I _ _ (hx 0 9 (by omega))).trans D.2.2.1, fun e he => (F.I _ _ (hx 8 e (by omega))).trans (D.2.2.2 e he)⟩
theorem t_playDay0 (S : ShOK h) (R : RfOK h) (Hj : HJ h 1 K) (V : VH K np nt) (M : HM h 1 K np nt) (Hd : HD h 1 K nd) (hn : ∀ t, t < 8 → gI h (1 + 5) t = K (67 + t)) (B : KB K) (hz : ∀ j, 9 ≤ j → gI h 43 j = 0) (VNn : VN K nt) (VDd : VD K nd) {lr : Option Nat} (hl : LR0 h lr fl) : Rp (d + 4) M_X11_playDay 0 [some (.ref 0), some (cvR lr)] [] h (fun r h' => r = none ∧ Fr tzX h h' ∧ JS h' 1 K fl ∧ DY h' (dayF K fl nd np nt (fun _ => true) K 100)) := by
  have v1 := V.1
  have v2 := V.2.1
  have k12 : ∀ (v : Value) g, Fr bX h g → JS g 1 K fl → Rp (d + 4) M_X11_playDay 12 [some (.ref 0), some v] [] g (fun r h' => r = none ∧ Fr tzX h h' ∧ JS h' 1 K fl ∧ DY h' (dayF K fl nd np nt (fun _ => true) K 100)) := by
    intro v g F1 J1
    have S1 := F1.S S
    have R1 := F1.R R (by decide)
    have M1 := M.fb (by decide) F1
    have D1 := Hd.fr1 F1 (fun o j ho => bX_b (by decide) ho)
    have ln := t_line (d + 3) (K := K) S1 R1 (by decide) M1.2.1 VNn M1.2.2.2.1 (fun t ht => (F1.I _ _ (bX_b (by decide) (by decide))).trans (hn t ht))
    refine Rp.aload_n dX11_playDay_12 rfl rfl ?_
    refine Rp.getR dX11_playDay_13 fk_X11_55 rfl (S1 _ _ rfl) (R1 _ _ _ rfl) ?_
    refine Rp.aload_n dX11_playDay_16 rfl rfl ?_
    refine Rp.getR dX11_playDay_17 fk_X11_10 rfl (S1 _ _ rfl) (R1 _ _ _ rfl) ?_
    refine Rp.callV1 M_X1_line (ci := 1) dX11_playDay_20 mo_X1_line lk_X11_308 (by decide) rfl rfl (S1 _ _ rfl) (Nat.le_of_ble_eq_true rfl) (Nat.le_of_ble_eq_true rfl) (ln) (fun v1 h1 p1 x1 => ?_)
    obtain ⟨rfl, F2, L2⟩ := p1
    try dsimp only [Option.toList, List.cons_append, List.nil_append, List.append]
    skip
    have S2 := F2.S S1
    have R2 := F2.R R1 (by decide)
    have J2 : JS h1 1 K fl := J1.fg F2 (fun j => rfl) (fun j => rfl) (fun j => rfl) (fun k j hk => liX_n (by omega)) (fun k j o => liX_n (okT_ne o (by decide) (by decide) (by decide) (by decide)))
    have M2 := M1.fr F2 (fun o j ho _ _ => liX_n (by omega)) (fun o j ho e => by rw [liX_n (by omega)] at e; cases e)
    have DBg : DB h1 1 K np nt nd K 8 := ⟨S2, R2, by decide, B, D1.fr1 F2 (fun o j ho => liX_n (by omega)), VDd, VNn, v1, M2.2.2.2.1, Or.inl rfl, fun t ht => M2.2.2.2.2.2 t (by omega)⟩
    have py := t_play d (st := fun _ => true) (fl := fl) DBg L2 J2 (op := nI 7) (bit7 VDd.1)
    refine Rp.aload_n dX11_playDay_23 rfl rfl ?_
    refine Rp.getR dX11_playDay_24 fk_X11_55 rfl (S2 _ _ rfl) (R2 _ _ _ rfl) ?_
    refine Rp.aload_n dX11_playDay_27 rfl rfl ?_
    refine Rp.getR dX11_playDay_28 fk_X11_39 rfl (S2 _ _ rfl) (R2 _ _ _ rfl) ?_
    refine Rp.aload_n dX11_playDay_31 rfl rfl ?_
    refine Rp.getR dX11_playDay_32 fk_X11_10 rfl (S2 _ _ rfl) (R2 _ _ _ rfl) ?_
    refine Rp.getR dX11_playDay_35 fk_X11_161 rfl (S2 _ _ rfl) (R2 _ _ _ rfl) ?_
    refine Rp.bipush (nI 7) dX11_playDay_38 (by decide) ?_
    refine Rp.callV3 M_X1_play (ci := 1) dX11_playDay_40 mo_X1_play lk_X11_385 (by decide) rfl rfl (S2 _ _ rfl) (Nat.le_of_ble_eq_true rfl) (Nat.le_of_ble_eq_true rfl) (py) (fun v1 h1 p1 x1 => ?_)
    obtain ⟨rfl, F3, J3, Y3⟩ := p1
    try dsimp only [Option.toList, List.cons_append, List.nil_append, List.append]
    refine Rp.vreturn dX11_playDay_43 rfl ?_
    exact ⟨rfl, ((tzX_s (soX_b F1)).trans (tzX_s (soX_l F2))).trans (tzX_q F3), J3, Y3⟩
  match lr, hl with
  | none, hl =>
    have bg := t_beginJ (d + 2) S R Hj hz hl
    dsimp only [cvR] at bg ⊢
    refine Rp.aload_n dX11_playDay_0 rfl rfl ?_
    refine Rp.getR dX11_playDay_1 fk_X11_39 rfl (S _ _ rfl) (R _ _ _ rfl) ?_
    refine Rp.aload_n dX11_playDay_4 rfl rfl ?_
    refine Rp.getR dX11_playDay_5 fk_X11_10 rfl (S _ _ rfl) (R _ _ _ rfl) ?_
    refine Rp.aload_n dX11_playDay_8 rfl rfl ?_
    refine Rp.callV2 M_X3_begin (ci := 3) dX11_playDay_9 mo_X3_begin lk_X11_142 (by decide) rfl rfl (S _ _ rfl) (Nat.le_of_ble_eq_true rfl) (Nat.le_of_ble_eq_true rfl) (bg) (fun v1 h1 p1 x1 => ?_)
    obtain ⟨rfl, F4, J4⟩ := p1
    try dsimp only [Option.toList, List.cons_append, List.nil_append, List.append]
    exact k12 _ _ F4 J4
  | some tx, hl =>
    have bg := t_beginJ (d + 2) S R Hj hz hl
    dsimp only [cvR] at bg ⊢
    refine Rp.aload_n dX11_playDay_0 rfl rfl ?_
    refine Rp.getR dX11_playDay_1 fk_X11_39 rfl (S _ _ rfl) (R _ _ _ rfl) ?_
    refine Rp.aload_n dX11_playDay_4 rfl rfl ?_
    refine Rp.getR dX11_playDay_5 fk_X11_10 rfl (S _ _ rfl) (R _ _ _ rfl) ?_
    refine Rp.aload_n dX11_playDay_8 rfl rfl ?_
    refine Rp.callV2 M_X3_begin (ci := 3) dX11_playDay_9 mo_X3_begin lk_X11_142 (by decide) rfl rfl (S _ _ rfl) (Nat.le_of_ble_eq_true rfl) (Nat.le_of_ble_eq_true rfl) (bg) (fun v1 h1 p1 x1 => ?_)
    obtain ⟨rfl, F4, J4⟩ := p1
    try dsimp only [Option.toList, List.cons_append, List.nil_append, List.append]
    exact k12 _ _ F4 J4
theorem t_playDay (S : ShOK h) (R : RfOK h) (G : HG h 1 K np nt nd nl LSs E) (V : VH K np nt) (B : KB K) (hz : ∀ j, 9 ≤ j → gI h 43 j = 0) (VNn : VN K nt) (VDd : VD K nd) {lr : Option Nat} (hl : LR0 h lr fl) : Rp (d + 4) M_X11_playDay 0 [some (.ref 0), some (cvR lr)] [] h (fun r h' => r = none ∧ Fr tzX h h' ∧ JS h' 1 K fl ∧ DY h' (dayF K fl nd np nt (fun _ => true) K 100)) := t_playDay0 d S R (G.1.hj (Or.inl rfl)) V (G.1.hm V) (G.1.hd VDd.1) G.1.2.2.2.2.2.2.2.2.2.2.2.1 B hz VNn VDd hl
end Cd
def dyA (s : DS) (np : Nat) (p w : Int32) : Int32 := if inN p np = true then (if w = nI 0 then s.2.1 (ix p) else if w = nI 1 then s.2.2.1 (ix p) else if w = nI 2 then s.2.2.2 (ix p) else -1) else -1
section Ce
variable (d : Nat) {h : AH} {K : Nat → Int32} {np nt nd nl : Nat} {LSs : Nat → List CLE} {E : List Int32}
theorem t_day (S : ShOK h) (R : RfOK h) (G : HG h 1 K np nt nd nl LSs E) (V : VH K np nt) (B : KB K) (hz : ∀ j, 9 ≤ j → gI h 43 j = 0) (VNn : VN K nt) (VDd : VD K nd) (p w : Int32) : Rp (d + 5) M_X11_day 0 [some (.ref 0), some (.int p), some (.int w)] [] h (fun r h' => r = some (.int (dyA (dayF K (flO nl LSs (K 108)) nd np nt (fun _ => true) K 100) np p w)) ∧ Fr tzX h h') := by
  have v1 := V.1
  have e18 : gI h 1 18 = K 108 := G.1.2.2.2.2.2.2.1
  have lf := t_lawInForce (d + 2) G.2.1
  rw [e18] at lf
  have ip := t_isPerson (d + 4) (S 1 _ rfl) p v1 G.1.2.1
  by_cases c : inN p np = true
  · rw [c] at ip
    obtain ⟨q, hq, rfl⟩ := (inN_iff (by omega)).mp c
    have eq := ix_nI (show q < 2147483648 by omega)
    by_cases cw : inN w 3 = true
    · obtain ⟨x, hx, rfl⟩ := (inN_iff (by omega)).mp cw
      have k30 : ∀ lr, LR0 h lr (flO nl LSs (K 108)) → Rp (d + 5) M_X11_day 30 [some (.ref 0), some (.int (nI q)), some (.int (nI x))] [cvR lr, .ref 0] h (fun r h' => r = some (.int (dyA (dayF K (flO nl LSs (K 108)) nd np nt (fun _ => true) K 100) np (nI q) (nI x))) ∧ Fr tzX h h') := by
        intro lr hl
        have pd := t_playDay d S R G V B hz VNn VDd hl
        match lr, hl, pd with
        | none, hl, pd =>
          dsimp only [cvR] at pd ⊢
          refine Rp.callV1 M_X11_playDay (ci := 11) dX11_day_30 mo_X11_playDay lk_X11_261 (by decide) rfl rfl (S _ _ rfl) (Nat.le_of_ble_eq_true rfl) (Nat.le_of_ble_eq_true rfl) (pd) (fun v1 h1 p1 x1 => ?_)
          obtain ⟨rfl, F1, J1, Y1⟩ := p1
          try dsimp only [Option.toList, List.cons_append, List.nil_append, List.append]
          skip
          have S1 := F1.S S
          have R1 := F1.R R (by decide)
          have y1 := Y1.2.1 q (by omega)
          have y2 := Y1.2.2.1 q (by omega)
          have y3 := Y1.2.2.2 q (by omega)
          match x, hx with
          | 0, _ =>
            refine Rp.iload_n dX11_day_33 rfl ?_
            first | ((with_reducible show Rp _ _ _ _ (.int (b2i _) :: _) _ _); refine Rp.if_neB (tgt := 47) dX11_day_34 (by decide) (fun c34 => ?_) (fun c34 => ?_)) | ((with_reducible show Rp _ _ _ _ (.int (nI _) :: _) _ _); refine Rp.if_neN (tgt := 47) dX11_day_34 (by decide) (by omega) (fun c34 => ?_) (fun c34 => ?_)) | refine Rp.if_ne (tgt := 47) dX11_day_34 (by decide) (fun c34 => ?_) (fun c34 => ?_)
            · skip
              exact absurd rfl c34
            · skip
              refine Rp.aload_n dX11_day_37 rfl rfl ?_
              refine Rp.getR dX11_day_38 fk_X11_55 rfl (S1 _ _ rfl) (R1 _ _ _ rfl) ?_
              refine Rp.getR dX11_day_41 fk_X11_264 rfl (S1 _ _ rfl) (R1 _ _ _ rfl) ?_
              refine Rp.iload_n dX11_day_44 rfl ?_
              first | ((with_reducible show Rp _ _ _ _ (.int (nI _) :: _) _ _); refine Rp.ialoadN dX11_day_45 (S1 _ _ rfl) (by omega) ?_) | refine Rp.iaload dX11_day_45 (S1 _ _ rfl) (by first | assumption | exact vpb (by decide)) ?_
              first | rw [y1] | rw [y2] | rw [y3] | skip
              refine Rp.ireturn dX11_day_46 rfl ?_
              exact ⟨by unfold dyA; rw [if_pos c, if_pos rfl, eq], F1⟩
          | 1, _ =>
            refine Rp.iload_n dX11_day_33 rfl ?_
            first | ((with_reducible show Rp _ _ _ _ (.int (b2i _) :: _) _ _); refine Rp.if_neB (tgt := 47) dX11_day_34 (by decide) (fun c34 => ?_) (fun c34 => ?_)) | ((with_reducible show Rp _ _ _ _ (.int (nI _) :: _) _ _); refine Rp.if_neN (tgt := 47) dX11_day_34 (by decide) (by omega) (fun c34 => ?_) (fun c34 => ?_)) | refine Rp.if_ne (tgt := 47) dX11_day_34 (by decide) (fun c34 => ?_) (fun c34 => ?_)
            · skip
              refine Rp.iload_n dX11_day_47 rfl ?_
              refine Rp.iconst (nI 1) dX11_day_48 (by decide) ?_
              first | ((with_reducible show Rp _ _ _ _ (.int (nI _) :: .int (nI _) :: _) _ _); refine Rp.icmp_neN (tgt := 64) dX11_day_49 (by decide) (by omega) (fun c49 => ?_) (fun c49 => ?_)) | refine Rp.icmp_ne (tgt := 64) dX11_day_49 (by decide) (fun c49 => ?_) (fun c49 => ?_)
              · skip
                first | (exfalso; omega) | exact absurd c49 (by decide) | exact absurd (by decide) c49
              · skip
                refine Rp.aload_n dX11_day_52 rfl rfl ?_
                refine Rp.getR dX11_day_53 fk_X11_55 rfl (S1 _ _ rfl) (R1 _ _ _ rfl) ?_
                refine Rp.getR dX11_day_56 fk_X11_267 rfl (S1 _ _ rfl) (R1 _ _ _ rfl) ?_
                refine Rp.iload_n dX11_day_59 rfl ?_
                first | ((with_reducible show Rp _ _ _ _ (.int (nI _) :: _) _ _); refine Rp.ialoadN dX11_day_60 (S1 _ _ rfl) (by omega) ?_) | refine Rp.iaload dX11_day_60 (S1 _ _ rfl) (by first | assumption | exact vpb (by decide)) ?_
                first | rw [y1] | rw [y2] | rw [y3] | skip
                refine Rp.goto (tgt := 73) dX11_day_61 (by decide) ?_
                refine Rp.ireturn dX11_day_73 rfl ?_
                exact ⟨by unfold dyA; rw [if_pos c, if_neg (by decide), if_pos rfl, eq], F1⟩
            · skip
              first | (exfalso; omega) | exact absurd c34 (by decide) | exact absurd (by decide) c34
          | 2, _ =>
            refine Rp.iload_n dX11_day_33 rfl ?_
            first | ((with_reducible show Rp _ _ _ _ (.int (b2i _) :: _) _ _); refine Rp.if_neB (tgt := 47) dX11_day_34 (by decide) (fun c34 => ?_) (fun c34 => ?_)) | ((with_reducible show Rp _ _ _ _ (.int (nI _) :: _) _ _); refine Rp.if_neN (tgt := 47) dX11_day_34 (by decide) (by omega) (fun c34 => ?_) (fun c34 => ?_)) | refine Rp.if_ne (tgt := 47) dX11_day_34 (by decide) (fun c34 => ?_) (fun c34 => ?_)
            · skip
              refine Rp.iload_n dX11_day_47 rfl ?_
              refine Rp.iconst (nI 1) dX11_day_48 (by decide) ?_
              first | ((with_reducible show Rp _ _ _ _ (.int (nI _) :: .int (nI _) :: _) _ _); refine Rp.icmp_neN (tgt := 64) dX11_day_49 (by decide) (by omega) (fun c49 => ?_) (fun c49 => ?_)) | refine Rp.icmp_ne (tgt := 64) dX11_day_49 (by decide) (fun c49 => ?_) (fun c49 => ?_)
              · skip
                refine Rp.aload_n dX11_day_64 rfl rfl ?_
                refine Rp.getR dX11_day_65 fk_X11_55 rfl (S1 _ _ rfl) (R1 _ _ _ rfl) ?_
                refine Rp.getR dX11_day_68 fk_X11_269 rfl (S1 _ _ rfl) (R1 _ _ _ rfl) ?_
                refine Rp.iload_n dX11_day_71 rfl ?_
                first | ((with_reducible show Rp _ _ _ _ (.int (nI _) :: _) _ _); refine Rp.ialoadN dX11_day_72 (S1 _ _ rfl) (by omega) ?_) | refine Rp.iaload dX11_day_72 (S1 _ _ rfl) (by first | assumption | exact vpb (by decide)) ?_
                first | rw [y1] | rw [y2] | rw [y3] | skip
                refine Rp.ireturn dX11_day_73 rfl ?_
                exact ⟨by unfold dyA; rw [if_pos c, if_neg (by decide), if_neg (by decide), if_pos rfl, eq], F1⟩
              · skip
                first | (exfalso; omega) | exact absurd c49 (by decide) | exact absurd (by decide) c49
            · skip
              first | (exfalso; omega) | exact absurd c34 (by decide) | exact absurd (by decide) c34
          | x + 3, hx => exact absurd hx (by omega)
        | some tx, hl, pd =>
          dsimp only [cvR] at pd ⊢
          refine Rp.callV1 M_X11_playDay (ci := 11) dX11_day_30 mo_X11_playDay lk_X11_261 (by decide) rfl rfl (S _ _ rfl) (Nat.le_of_ble_eq_true rfl) (Nat.le_of_ble_eq_true rfl) (pd) (fun v1 h1 p1 x1 => ?_)
          obtain ⟨rfl, F1, J1, Y1⟩ := p1
          try dsimp only [Option.toList, List.cons_append, List.nil_append, List.append]
          skip
          have S1 := F1.S S
          have R1 := F1.R R (by decide)
          have y1 := Y1.2.1 q (by omega)
          have y2 := Y1.2.2.1 q (by omega)
          have y3 := Y1.2.2.2 q (by omega)
          match x, hx with
          | 0, _ =>
            refine Rp.iload_n dX11_day_33 rfl ?_
            first | ((with_reducible show Rp _ _ _ _ (.int (b2i _) :: _) _ _); refine Rp.if_neB (tgt := 47) dX11_day_34 (by decide) (fun c34 => ?_) (fun c34 => ?_)) | ((with_reducible show Rp _ _ _ _ (.int (nI _) :: _) _ _); refine Rp.if_neN (tgt := 47) dX11_day_34 (by decide) (by omega) (fun c34 => ?_) (fun c34 => ?_)) | refine Rp.if_ne (tgt := 47) dX11_day_34 (by decide) (fun c34 => ?_) (fun c34 => ?_)
            · skip
              exact absurd rfl c34
            · skip
              refine Rp.aload_n dX11_day_37 rfl rfl ?_
              refine Rp.getR dX11_day_38 fk_X11_55 rfl (S1 _ _ rfl) (R1 _ _ _ rfl) ?_
              refine Rp.getR dX11_day_41 fk_X11_264 rfl (S1 _ _ rfl) (R1 _ _ _ rfl) ?_
              refine Rp.iload_n dX11_day_44 rfl ?_
              first | ((with_reducible show Rp _ _ _ _ (.int (nI _) :: _) _ _); refine Rp.ialoadN dX11_day_45 (S1 _ _ rfl) (by omega) ?_) | refine Rp.iaload dX11_day_45 (S1 _ _ rfl) (by first | assumption | exact vpb (by decide)) ?_
              first | rw [y1] | rw [y2] | rw [y3] | skip
              refine Rp.ireturn dX11_day_46 rfl ?_
              exact ⟨by unfold dyA; rw [if_pos c, if_pos rfl, eq], F1⟩
          | 1, _ =>
            refine Rp.iload_n dX11_day_33 rfl ?_
            first | ((with_reducible show Rp _ _ _ _ (.int (b2i _) :: _) _ _); refine Rp.if_neB (tgt := 47) dX11_day_34 (by decide) (fun c34 => ?_) (fun c34 => ?_)) | ((with_reducible show Rp _ _ _ _ (.int (nI _) :: _) _ _); refine Rp.if_neN (tgt := 47) dX11_day_34 (by decide) (by omega) (fun c34 => ?_) (fun c34 => ?_)) | refine Rp.if_ne (tgt := 47) dX11_day_34 (by decide) (fun c34 => ?_) (fun c34 => ?_)
            · skip
              refine Rp.iload_n dX11_day_47 rfl ?_
              refine Rp.iconst (nI 1) dX11_day_48 (by decide) ?_
              first | ((with_reducible show Rp _ _ _ _ (.int (nI _) :: .int (nI _) :: _) _ _); refine Rp.icmp_neN (tgt := 64) dX11_day_49 (by decide) (by omega) (fun c49 => ?_) (fun c49 => ?_)) | refine Rp.icmp_ne (tgt := 64) dX11_day_49 (by decide) (fun c49 => ?_) (fun c49 => ?_)
              · skip
                first | (exfalso; omega) | exact absurd c49 (by decide) | exact absurd (by decide) c49
              · skip
                refine Rp.aload_n dX11_day_52 rfl rfl ?_
                refine Rp.getR dX11_day_53 fk_X11_55 rfl (S1 _ _ rfl) (R1 _ _ _ rfl) ?_
                refine Rp.getR dX11_day_56 fk_X11_267 rfl (S1 _ _ rfl) (R1 _ _ _ rfl) ?_
                refine Rp.iload_n dX11_day_59 rfl ?_
                first | ((with_reducible show Rp _ _ _ _ (.int (nI _) :: _) _ _); refine Rp.ialoadN dX11_day_60 (S1 _ _ rfl) (by omega) ?_) | refine Rp.iaload dX11_day_60 (S1 _ _ rfl) (by first | assumption | exact vpb (by decide)) ?_
                first | rw [y1] | rw [y2] | rw [y3] | skip
                refine Rp.goto (tgt := 73) dX11_day_61 (by decide) ?_
                refine Rp.ireturn dX11_day_73 rfl ?_
                exact ⟨by unfold dyA; rw [if_pos c, if_neg (by decide), if_pos rfl, eq], F1⟩
            · skip
              first | (exfalso; omega) | exact absurd c34 (by decide) | exact absurd (by decide) c34
          | 2, _ =>
            refine Rp.iload_n dX11_day_33 rfl ?_
            first | ((with_reducible show Rp _ _ _ _ (.int (b2i _) :: _) _ _); refine Rp.if_neB (tgt := 47) dX11_day_34 (by decide) (fun c34 => ?_) (fun c34 => ?_)) | ((with_reducible show Rp _ _ _ _ (.int (nI _) :: _) _ _); refine Rp.if_neN (tgt := 47) dX11_day_34 (by decide) (by omega) (fun c34 => ?_) (fun c34 => ?_)) | refine Rp.if_ne (tgt := 47) dX11_day_34 (by decide) (fun c34 => ?_) (fun c34 => ?_)
            · skip
              refine Rp.iload_n dX11_day_47 rfl ?_
              refine Rp.iconst (nI 1) dX11_day_48 (by decide) ?_
              first | ((with_reducible show Rp _ _ _ _ (.int (nI _) :: .int (nI _) :: _) _ _); refine Rp.icmp_neN (tgt := 64) dX11_day_49 (by decide) (by omega) (fun c49 => ?_) (fun c49 => ?_)) | refine Rp.icmp_ne (tgt := 64) dX11_day_49 (by decide) (fun c49 => ?_) (fun c49 => ?_)
              · skip
                refine Rp.aload_n dX11_day_64 rfl rfl ?_
                refine Rp.getR dX11_day_65 fk_X11_55 rfl (S1 _ _ rfl) (R1 _ _ _ rfl) ?_
                refine Rp.getR dX11_day_68 fk_X11_269 rfl (S1 _ _ rfl) (R1 _ _ _ rfl) ?_
                refine Rp.iload_n dX11_day_71 rfl ?_
                first | ((with_reducible show Rp _ _ _ _ (.int (nI _) :: _) _ _); refine Rp.ialoadN dX11_day_72 (S1 _ _ rfl) (by omega) ?_) | refine Rp.iaload dX11_day_72 (S1 _ _ rfl) (by first | assumption | exact vpb (by decide)) ?_
                first | rw [y1] | rw [y2] | rw [y3] | skip
                refine Rp.ireturn dX11_day_73 rfl ?_
                exact ⟨by unfold dyA; rw [if_pos c, if_neg (by decide), if_neg (by decide), if_pos rfl, eq], F1⟩
              · skip
                first | (exfalso; omega) | exact absurd c49 (by decide) | exact absurd (by decide) c49
            · skip
              first | (exfalso; omega) | exact absurd c34 (by decide) | exact absurd (by decide) c34
          | x + 3, hx => exact absurd hx (by omega)
      refine Rp.aload_n dX11_day_0 rfl rfl ?_
      refine Rp.getR dX11_day_1 fk_X11_10 rfl (S _ _ rfl) (R _ _ _ rfl) ?_
      refine Rp.iload_n dX11_day_4 rfl ?_
      refine Rp.callV1 M_X2_isPerson (ci := 2) dX11_day_5 mo_X2_isPerson lk_X11_125 (by decide) rfl rfl (S _ _ rfl) (Nat.le_of_ble_eq_true rfl) (Nat.le_of_ble_eq_true rfl) (ip) (fun v1 h1 p1 x1 => ?_)
      rw [p1.1, p1.2]
      try dsimp only [Option.toList, List.cons_append, List.nil_append, List.append]
      first | ((with_reducible show Rp _ _ _ _ (.int (b2i _) :: _) _ _); refine Rp.if_eqB (tgt := 20) dX11_day_8 (by decide) (fun c8 => ?_) (fun c8 => ?_)) | ((with_reducible show Rp _ _ _ _ (.int (nI _) :: _) _ _); refine Rp.if_eqN (tgt := 20) dX11_day_8 (by decide) (by omega) (fun c8 => ?_) (fun c8 => ?_)) | refine Rp.if_eq (tgt := 20) dX11_day_8 (by decide) (fun c8 => ?_) (fun c8 => ?_)
      · skip
        cases c8
      · skip
        refine Rp.iload_n dX11_day_11 rfl ?_
        refine Rp.if_lt (tgt := 20) dX11_day_12 (by decide) (fun c12 => ?_) (fun c12 => ?_)
        · skip
          exact absurd c12 (by have := nI_ge0 (x := x) (by omega); rw [i32_lt]; rw [show (nI x ≥ 0) = ((0 : Int32) ≤ nI x) from rfl, i32_le] at this; omega)
        · skip
          refine Rp.iload_n dX11_day_15 rfl ?_
          refine Rp.iconst (nI 2) dX11_day_16 (by decide) ?_
          first | ((with_reducible show Rp _ _ _ _ (.int (nI _) :: .int (nI _) :: _) _ _); refine Rp.icmp_leN (tgt := 22) dX11_day_17 (by decide) (by omega) (fun c17 => ?_) (fun c17 => ?_)) | refine Rp.icmp_le (tgt := 22) dX11_day_17 (by decide) (fun c17 => ?_) (fun c17 => ?_)
          · skip
            refine Rp.aload_n dX11_day_22 rfl rfl ?_
            refine Rp.aload_n dX11_day_23 rfl rfl ?_
            refine Rp.getR dX11_day_24 fk_X11_10 rfl (S _ _ rfl) (R _ _ _ rfl) ?_
            refine Rp.callV0 M_X2_lawInForce (ci := 2) dX11_day_27 mo_X2_lawInForce lk_X11_138 (by decide) rfl rfl (S _ _ rfl) (Nat.le_of_ble_eq_true rfl) (Nat.le_of_ble_eq_true rfl) (lf) (fun v1 h1 p1 x1 => ?_)
            obtain ⟨rfl, lr, rfl, qq⟩ := p1
            try dsimp only [Option.toList, List.cons_append, List.nil_append, List.append]
            exact k30 lr qq
          · skip
            first | (exfalso; omega) | exact absurd c17 (by decide) | exact absurd (by decide) c17
    · have e : dyA (dayF K (flO nl LSs (K 108)) nd np nt (fun _ => true) K 100) np (nI q) w = -1 := by
        unfold dyA
        rw [if_pos c, if_neg (fun z => cw (by rw [z]; rfl)), if_neg (fun z => cw (by rw [z]; rfl)), if_neg (fun z => cw (by rw [z]; rfl))]
      rw [e]
      have n1 : ¬ (¬ w < 0 ∧ w ≤ nI 2) := fun z => cw (inN_tle (n := 2) (by omega) z.1 z.2)
      refine Rp.aload_n dX11_day_0 rfl rfl ?_
      refine Rp.getR dX11_day_1 fk_X11_10 rfl (S _ _ rfl) (R _ _ _ rfl) ?_
      refine Rp.iload_n dX11_day_4 rfl ?_
      refine Rp.callV1 M_X2_isPerson (ci := 2) dX11_day_5 mo_X2_isPerson lk_X11_125 (by decide) rfl rfl (S _ _ rfl) (Nat.le_of_ble_eq_true rfl) (Nat.le_of_ble_eq_true rfl) (ip) (fun v1 h1 p1 x1 => ?_)
      rw [p1.1, p1.2]
      try dsimp only [Option.toList, List.cons_append, List.nil_append, List.append]
      first | ((with_reducible show Rp _ _ _ _ (.int (b2i _) :: _) _ _); refine Rp.if_eqB (tgt := 20) dX11_day_8 (by decide) (fun c8 => ?_) (fun c8 => ?_)) | ((with_reducible show Rp _ _ _ _ (.int (nI _) :: _) _ _); refine Rp.if_eqN (tgt := 20) dX11_day_8 (by decide) (by omega) (fun c8 => ?_) (fun c8 => ?_)) | refine Rp.if_eq (tgt := 20) dX11_day_8 (by decide) (fun c8 => ?_) (fun c8 => ?_)
      · skip
        cases c8
      · skip
        refine Rp.iload_n dX11_day_11 rfl ?_
        refine Rp.if_lt (tgt := 20) dX11_day_12 (by decide) (fun c12 => ?_) (fun c12 => ?_)
        · skip
          refine Rp.iconst (-1) dX11_day_20 (by decide) ?_
          refine Rp.ireturn dX11_day_21 rfl ?_
          exact ⟨rfl, Fr.rfl'⟩
        · skip
          refine Rp.iload_n dX11_day_15 rfl ?_
          refine Rp.iconst (nI 2) dX11_day_16 (by decide) ?_
          first | ((with_reducible show Rp _ _ _ _ (.int (nI _) :: .int (nI _) :: _) _ _); refine Rp.icmp_leN (tgt := 22) dX11_day_17 (by decide) (by omega) (fun c17 => ?_) (fun c17 => ?_)) | refine Rp.icmp_le (tgt := 22) dX11_day_17 (by decide) (fun c17 => ?_) (fun c17 => ?_)
          · skip
            exact absurd ⟨c12, c17⟩ n1
          · skip
            refine Rp.iconst (-1) dX11_day_20 (by decide) ?_
            refine Rp.ireturn dX11_day_21 rfl ?_
            exact ⟨rfl, Fr.rfl'⟩
  · have c' : inN p np = false := Bool.eq_false_iff.mpr c
    rw [c'] at ip
    refine Rp.aload_n dX11_day_0 rfl rfl ?_
    refine Rp.getR dX11_day_1 fk_X11_10 rfl (S _ _ rfl) (R _ _ _ rfl) ?_
    refine Rp.iload_n dX11_day_4 rfl ?_
    refine Rp.callV1 M_X2_isPerson (ci := 2) dX11_day_5 mo_X2_isPerson lk_X11_125 (by decide) rfl rfl (S _ _ rfl) (Nat.le_of_ble_eq_true rfl) (Nat.le_of_ble_eq_true rfl) (ip) (fun v1 h1 p1 x1 => ?_)
    rw [p1.1, p1.2]
    try dsimp only [Option.toList, List.cons_append, List.nil_append, List.append]
    first | ((with_reducible show Rp _ _ _ _ (.int (b2i _) :: _) _ _); refine Rp.if_eqB (tgt := 20) dX11_day_8 (by decide) (fun c8 => ?_) (fun c8 => ?_)) | ((with_reducible show Rp _ _ _ _ (.int (nI _) :: _) _ _); refine Rp.if_eqN (tgt := 20) dX11_day_8 (by decide) (by omega) (fun c8 => ?_) (fun c8 => ?_)) | refine Rp.if_eq (tgt := 20) dX11_day_8 (by decide) (fun c8 => ?_) (fun c8 => ?_)
    · skip
      refine Rp.iconst (-1) dX11_day_20 (by decide) ?_
      refine Rp.ireturn dX11_day_21 rfl ?_
      exact ⟨by unfold dyA; rw [if_neg c], Fr.rfl'⟩
    · skip
      cases c8
end Ce
