/-- the lots' place -/
def sX (k j : Nat) : Bool := k == 45 && j == 1
theorem sX_n {k j : Nat} (hk : k ≠ 45) : sX k j = false := by unfold sX; rw [beq_eq_false_iff_ne.mpr hk]; rfl
theorem sX_T {k j : Nat} (o : okT k) : sX k j = false := sX_n (by unfold okT at o; omega)
theorem JS.fs {h g : AH} {b : Nat} {K : Nat → Int32} {fl : Option (List CLE)} (J : JS h b K fl) (F : Fr sX h g) : JS g b K fl := by
  obtain ⟨J1, J2, J3, J4, k1, k2, k3, k4⟩ := J
  have e44 : ∀ j, gI g 44 j = gI h 44 j := fun j => F.I 44 j (sX_n (by decide))
  exact ⟨(F.Rr _ _ (sX_n (by decide))).trans J1, J2.fr F (fun k j o => sX_T o) (sX_n (by decide)), J3.fr F (fun k j hk => sX_n (by omega)), fun j hj => (F.I 43 j (sX_n (by decide))).trans (J4 j hj), fun p t e h1 h2 h3 => by rw [e44]; exact k1 p t e h1 h2 h3, fun p t h1 h2 => by rw [e44]; exact k2 p t h1 h2, fun p t h1 h2 => by rw [e44]; exact k3 p t h1 h2, fun p h1 => by rw [e44]; exact k4 p h1⟩
theorem HM.fs {h g : AH} {b : Nat} {K : Nat → Int32} {np nt : Nat} (hb : b ≤ 17) (M : HM h b K np nt) (F : Fr sX h g) : HM g b K np nt := M.fr F (fun o j ho _ _ => sX_n (by omega)) (fun o j ho e => by rw [sX_n (by omega)] at e; cases e)
theorem LOG.fs {h g : AH} {b : Nat} {E : List Int32} (hb : b ≤ 17) (L : LOG h b E) (F : Fr sX h g) : LOG g b E := L.fr F (sX_n (by omega)) (fun j => sX_n (by omega))
/-- what a day's lots do -/
def blR (K : Nat → Int32) (fl : Option (List CLE)) (np nt p t w : Nat) : Int32 × AC := if w = 0 then drR K fl np nt (nI t) (nI p) else if w = 1 then swR K fl np (nI p) (hOf K (nI t) np) else dpR K np (nI p)
def lsX (b k j : Nat) : Bool := aX b k j || sX k j
theorem lsX_a {b : Nat} {h g : AH} (F : Fr (aX b) h g) : Fr (lsX b) h g := F.weak (fun k j hx => by unfold lsX at hx; rw [Bool.or_eq_false_iff] at hx; exact hx.1)
theorem lsX_s {b : Nat} {h g : AH} (F : Fr sX h g) : Fr (lsX b) h g := F.weak (fun k j hx => by unfold lsX at hx; rw [Bool.or_eq_false_iff] at hx; exact hx.2)
theorem aX_45 {b j : Nat} (hb : b ≤ 17) : aX b 45 j = false := by
  unfold aX jX hX lX
  rw [show ((45 : Nat) == b + 3) = false from beq_eq_false_iff_ne.mpr (by omega), show ((45 : Nat) == b + 7) = false from beq_eq_false_iff_ne.mpr (by omega), show ((45 : Nat) == b + 14) = false from beq_eq_false_iff_ne.mpr (by omega), show ((45 : Nat) == b + 15) = false from beq_eq_false_iff_ne.mpr (by omega)]
  rfl
def BlQ (h : AH) (b : Nat) (K : Nat → Int32) (fl : Option (List CLE)) (np nt : Nat) (E : List Int32) (x : Nat) (q : Int32 × AC) (r : Option Value) (h' : AH) : Prop := r = some (.int q.1) ∧ Fr (lsX b) h h' ∧ gL h' 45 1 = Int64.ofInt ((x : Nat) : Int) ∧ JS h' b (acK K q.2) fl ∧ HM h' b (acK K q.2) np nt ∧ LOG h' b (acE E q.2)
theorem t_byLot (d : Nat) {h : AH} {b : Nat} {K : Nat → Int32} {fl : Option (List CLE)} {np nt : Nat} {E : List Int32} (S : ShOK h) (R : RfOK h) (J : JS h b K fl) (B : KB K) (M : HM h b K np nt) (L : LOG h b E) (hp : 0 < np) (ht : 0 < nt) {x : Nat} (hx : x < 1000003) (e0 : gL h 45 1 = Int64.ofInt (x : Int)) : Rp (d + 4) M_X0_byLot 0 [some (.ref 45), some (.ref b), none, none, none] [] h (BlQ h b K fl np nt E (lc (lc (lc x))) (blR K fl np nt (lc x % np) (lc (lc x) % nt) (lc (lc (lc x)) % 3))) := by
  obtain ⟨⟨v1, v2, v3, v4⟩, A, m3, m4, m5, m6⟩ := M
  have M : HM h b K np nt := ⟨⟨v1, v2, v3, v4⟩, A, m3, m4, m5, m6⟩
  have hb : b ≤ 17 := by have := J.2.2.1.1; omega
  let g1 := sL h 45 1 (Int64.ofInt ((lc x : Nat) : Int))
  let g2 := sL g1 45 1 (Int64.ofInt ((lc (lc x) : Nat) : Int))
  let g3 := sL g2 45 1 (Int64.ofInt ((lc (lc (lc x)) : Nat) : Int))
  have F : Fr sX h g3 := ((Fr.rfl'.sL rfl).sL rfl).sL rfl
  have S1 : ShOK g1 := (Fr.sL (X := sX) Fr.rfl' rfl).S S
  have S2 : ShOK g2 := (Fr.sL (X := sX) Fr.rfl' rfl).S S1
  have S3 := F.S S
  have R3 := F.R R (by decide)
  have J3 := J.fs F
  have M3 := M.fs hb F
  have L3 := L.fs hb F
  have A3 := M3.2.1
  have w1 := t_lot (d + 3) S hx ⟨hp, by omega⟩ e0
  have w2 := t_lot (d + 3) (h := g1) S1 (n := nt) (lc_lt x) ⟨ht, by omega⟩ (gL_hit _ _ _ _)
  have w3 := t_lot (d + 3) (h := g2) S2 (n := 3) (lc_lt _) ⟨by decide, by decide⟩ (gL_hit _ _ _ _)
  have e3 : gL g3 45 1 = Int64.ofInt ((lc (lc (lc x)) : Nat) : Int) := gL_hit _ _ _ _
  have q0 : lc x % np < np := Nat.mod_lt _ hp
  have q1 : lc (lc x) % nt < nt := Nat.mod_lt _ ht
  have q2 : lc (lc (lc x)) % 3 < 3 := Nat.mod_lt _ (by decide)
  generalize lc x % np = p at w1 q0 ⊢
  generalize lc (lc x) % nt = t at w2 q1 ⊢
  generalize lc (lc (lc x)) % 3 = w at w3 q2 ⊢
  have fin : ∀ q r h', AcQ g3 b K fl np nt E q r h' → BlQ h b K fl np nt E (lc (lc (lc x))) q r h' := fun q r h' z => ⟨z.1, (lsX_s F).trans (lsX_a z.2.1), (z.2.1.L 45 1 (aX_45 hb)).trans e3, z.2.2.1, z.2.2.2.1, z.2.2.2.2⟩
  have a0 := t_takeUp d S3 R3 J3 B M3 L3 (nI t) (nI p)
  have a1 := t_exchange d S3 R3 J3 B M3 L3 (nI p) (hOf K (nI t) np)
  have a2 := t_giveUp d J3 M3 L3 (nI p)
  have eh : gI g3 (b + 7) t = hOf K (nI t) np := M3.2.2.2.2.2 t (by omega)
  have it := t_isTicket (d + 3) (k := b) (A3.1 0 _ rfl) (nI t) v2 M3.2.2.2.1
  have it1 : inN (nI t) nt = true := (inN_iff (by omega)).mpr ⟨t, q1, rfl⟩
  rw [it1] at it
  have k25 : Rp (d + 4) M_X0_byLot 25 [some (.ref 45), some (.ref b), some (.int (nI p)), some (.int (nI t)), some (.int (nI w))] [] g3 (BlQ h b K fl np nt E (lc (lc (lc x))) (blR K fl np nt p t w)) := by
    unfold blR
    by_cases c0 : w = 0
    · subst c0
      rw [if_pos rfl]
      refine Rp.iload dX0_byLot_25 rfl ?_
      first | ((with_reducible show Rp _ _ _ _ (.int (b2i _) :: _) _ _); refine Rp.if_neB (tgt := 38) dX0_byLot_27 (by decide) (fun c27 => ?_) (fun c27 => ?_)) | ((with_reducible show Rp _ _ _ _ (.int (nI _) :: _) _ _); refine Rp.if_neN (tgt := 38) dX0_byLot_27 (by decide) (by omega) (fun c27 => ?_) (fun c27 => ?_)) | refine Rp.if_ne (tgt := 38) dX0_byLot_27 (by decide) (fun c27 => ?_) (fun c27 => ?_)
      · skip
        first | (exfalso; omega) | exact absurd c27 (by decide) | exact absurd (by decide) c27
      · skip
        refine Rp.aload_n dX0_byLot_30 rfl rfl ?_
        refine Rp.aload_n dX0_byLot_31 rfl rfl ?_
        refine Rp.iload_n dX0_byLot_32 rfl ?_
        refine Rp.iload_n dX0_byLot_33 rfl ?_
        refine Rp.callV3 M_X0_takeUp (ci := 0) dX0_byLot_34 mo_X0_takeUp lk_X0_82 (by decide) rfl rfl (S3 _ _ rfl) (Nat.le_of_ble_eq_true rfl) (Nat.le_of_ble_eq_true rfl) (a0) (fun v1 h1 p1 x1 => ?_)
        have pz := p1
        obtain ⟨rfl, -⟩ := p1
        try dsimp only [Option.toList, List.cons_append, List.nil_append, List.append]
        refine Rp.ireturn dX0_byLot_37 rfl ?_
        exact fin _ _ _ pz
    · rw [if_neg c0]
      by_cases c1 : w = 1
      · subst c1
        rw [if_pos rfl]
        refine Rp.iload dX0_byLot_25 rfl ?_
        first | ((with_reducible show Rp _ _ _ _ (.int (b2i _) :: _) _ _); refine Rp.if_neB (tgt := 38) dX0_byLot_27 (by decide) (fun c27 => ?_) (fun c27 => ?_)) | ((with_reducible show Rp _ _ _ _ (.int (nI _) :: _) _ _); refine Rp.if_neN (tgt := 38) dX0_byLot_27 (by decide) (by omega) (fun c27 => ?_) (fun c27 => ?_)) | refine Rp.if_ne (tgt := 38) dX0_byLot_27 (by decide) (fun c27 => ?_) (fun c27 => ?_)
        · skip
          refine Rp.iload dX0_byLot_38 rfl ?_
          refine Rp.iconst (nI 1) dX0_byLot_40 (by decide) ?_
          first | ((with_reducible show Rp _ _ _ _ (.int (nI _) :: .int (nI _) :: _) _ _); refine Rp.icmp_neN (tgt := 70) dX0_byLot_41 (by decide) (by omega) (fun c41 => ?_) (fun c41 => ?_)) | refine Rp.icmp_ne (tgt := 70) dX0_byLot_41 (by decide) (fun c41 => ?_) (fun c41 => ?_)
          · skip
            first | (exfalso; omega) | exact absurd c41 (by decide) | exact absurd (by decide) c41
          · skip
            refine Rp.aload_n dX0_byLot_44 rfl rfl ?_
            refine Rp.iload_n dX0_byLot_45 rfl ?_
            refine Rp.callV1 M_X2_isTicket (ci := 2) dX0_byLot_46 mo_X2_isTicket lk_X0_15 (by decide) rfl rfl (A3.1 0 _ rfl) (Nat.le_of_ble_eq_true rfl) (Nat.le_of_ble_eq_true rfl) (it) (fun v1 h1 p1 x1 => ?_)
            rw [p1.1, p1.2]
            try dsimp only [Option.toList, List.cons_append, List.nil_append, List.append]
            first | ((with_reducible show Rp _ _ _ _ (.int (b2i _) :: _) _ _); refine Rp.if_eqB (tgt := 67) dX0_byLot_49 (by decide) (fun c49 => ?_) (fun c49 => ?_)) | ((with_reducible show Rp _ _ _ _ (.int (nI _) :: _) _ _); refine Rp.if_eqN (tgt := 67) dX0_byLot_49 (by decide) (by omega) (fun c49 => ?_) (fun c49 => ?_)) | refine Rp.if_eq (tgt := 67) dX0_byLot_49 (by decide) (fun c49 => ?_) (fun c49 => ?_)
            · skip
              cases c49
            · skip
              refine Rp.aload_n dX0_byLot_52 rfl rfl ?_
              refine Rp.aload_n dX0_byLot_53 rfl rfl ?_
              refine Rp.iload_n dX0_byLot_54 rfl ?_
              refine Rp.aload_n dX0_byLot_55 rfl rfl ?_
              refine Rp.getR dX0_byLot_56 fk_X0_28 rfl (A3.1 0 _ rfl) (A3.2 0 8 7 rfl) ?_
              refine Rp.iload_n dX0_byLot_59 rfl ?_
              first | ((with_reducible show Rp _ _ _ _ (.int (nI _) :: _) _ _); refine Rp.ialoadN dX0_byLot_60 (A3.1 7 _ rfl) (by omega) ?_) | refine Rp.iaload dX0_byLot_60 (A3.1 7 _ rfl) (by first | assumption | exact vpb (by decide)) ?_
              first | rw [eh] | skip
              refine Rp.callV3 M_X0_exchange (ci := 0) dX0_byLot_61 mo_X0_exchange lk_X0_86 (by decide) rfl rfl (S3 45 _ rfl) (Nat.le_of_ble_eq_true rfl) (Nat.le_of_ble_eq_true rfl) (a1) (fun v1 h1 p1 x1 => ?_)
              have pz := p1
              obtain ⟨rfl, -⟩ := p1
              try dsimp only [Option.toList, List.cons_append, List.nil_append, List.append]
              refine Rp.goto (tgt := 69) dX0_byLot_64 (by decide) ?_
              refine Rp.ireturn dX0_byLot_69 rfl ?_
              exact fin _ _ _ pz
        · skip
          first | (exfalso; omega) | exact absurd c27 (by decide) | exact absurd (by decide) c27
      · rw [if_neg c1]
        refine Rp.iload dX0_byLot_25 rfl ?_
        first | ((with_reducible show Rp _ _ _ _ (.int (b2i _) :: _) _ _); refine Rp.if_neB (tgt := 38) dX0_byLot_27 (by decide) (fun c27 => ?_) (fun c27 => ?_)) | ((with_reducible show Rp _ _ _ _ (.int (nI _) :: _) _ _); refine Rp.if_neN (tgt := 38) dX0_byLot_27 (by decide) (by omega) (fun c27 => ?_) (fun c27 => ?_)) | refine Rp.if_ne (tgt := 38) dX0_byLot_27 (by decide) (fun c27 => ?_) (fun c27 => ?_)
        · skip
          refine Rp.iload dX0_byLot_38 rfl ?_
          refine Rp.iconst (nI 1) dX0_byLot_40 (by decide) ?_
          first | ((with_reducible show Rp _ _ _ _ (.int (nI _) :: .int (nI _) :: _) _ _); refine Rp.icmp_neN (tgt := 70) dX0_byLot_41 (by decide) (by omega) (fun c41 => ?_) (fun c41 => ?_)) | refine Rp.icmp_ne (tgt := 70) dX0_byLot_41 (by decide) (fun c41 => ?_) (fun c41 => ?_)
          · skip
            refine Rp.aload_n dX0_byLot_70 rfl rfl ?_
            refine Rp.aload_n dX0_byLot_71 rfl rfl ?_
            refine Rp.iload_n dX0_byLot_72 rfl ?_
            refine Rp.callV2 M_X0_giveUp (ci := 0) dX0_byLot_73 mo_X0_giveUp lk_X0_89 (by decide) rfl rfl (S3 _ _ rfl) (Nat.le_of_ble_eq_true rfl) (Nat.le_of_ble_eq_true rfl) (a2) (fun v1 h1 p1 x1 => ?_)
            have pz := p1
            obtain ⟨rfl, -⟩ := p1
            try dsimp only [Option.toList, List.cons_append, List.nil_append, List.append]
            refine Rp.ireturn dX0_byLot_76 rfl ?_
            exact fin _ _ _ pz
          · skip
            first | (exfalso; omega) | exact absurd c41 (by decide) | exact absurd (by decide) c41
        · skip
          first | (exfalso; omega) | exact absurd c27 (by decide) | exact absurd (by decide) c27
  have f1 : gI g1 b 5 = nI nt := m4
  refine Rp.aload_n dX0_byLot_0 rfl rfl ?_
  refine Rp.aload_n dX0_byLot_1 rfl rfl ?_
  refine Rp.getI dX0_byLot_2 fk_X0_71 rfl (A.1 0 _ rfl) ?_
  first | rw [m3] | rw [f1] | skip
  refine Rp.callV1 M_X0_lot (ci := 0) dX0_byLot_5 mo_X0_lot lk_X0_75 (by decide) rfl rfl (S 45 _ rfl) (Nat.le_of_ble_eq_true rfl) (Nat.le_of_ble_eq_true rfl) (w1) (fun v1 h1 p1 x1 => ?_)
  rw [p1.1, p1.2]
  try dsimp only [Option.toList, List.cons_append, List.nil_append, List.append]
  refine Rp.ist2 dX0_byLot_8 (by first | exact nl2_some rfl | exact nl2_none) (by decide) ?_
  refine Rp.aload_n dX0_byLot_9 rfl rfl ?_
  refine Rp.aload_n dX0_byLot_10 rfl rfl ?_
  refine Rp.getI dX0_byLot_11 fk_X0_79 rfl (A.1 0 _ rfl) ?_
  first | rw [m3] | rw [f1] | skip
  refine Rp.callV1 M_X0_lot (ci := 0) dX0_byLot_14 mo_X0_lot lk_X0_75 (by decide) rfl rfl (S1 45 _ rfl) (Nat.le_of_ble_eq_true rfl) (Nat.le_of_ble_eq_true rfl) (w2) (fun v1 h1 p1 x1 => ?_)
  rw [p1.1, p1.2]
  try dsimp only [Option.toList, List.cons_append, List.nil_append, List.append]
  refine Rp.ist3 dX0_byLot_17 (by first | exact nl2_some rfl | exact nl2_none) (by decide) ?_
  refine Rp.aload_n dX0_byLot_18 rfl rfl ?_
  refine Rp.iconst (nI 3) dX0_byLot_19 (by decide) ?_
  refine Rp.callV1 M_X0_lot (ci := 0) dX0_byLot_20 mo_X0_lot lk_X0_75 (by decide) rfl rfl (S2 45 _ rfl) (Nat.le_of_ble_eq_true rfl) (Nat.le_of_ble_eq_true rfl) (w3) (fun v1 h1 p1 x1 => ?_)
  rw [p1.1, p1.2]
  try dsimp only [Option.toList, List.cons_append, List.nil_append, List.append]
  refine Rp.ist4 dX0_byLot_23 (by first | exact nl2_some rfl | exact nl2_none) (by decide) ?_
  exact k25
