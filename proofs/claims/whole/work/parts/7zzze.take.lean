/-- when one is done on a day, if at all -/
def dnO (s : DS) (p : Nat) : Option Nat := if s.2.2.1 p = -1 then none else some (s.2.2.1 p).toInt.toNat
theorem dnO_is {s : DS} {nd p : Nat} (hnd : nd ≤ 3) (D : DP s nd 6000 p) : (s.2.2.1 p = -1 ∧ s.2.2.2 p = -1 ∧ dnO s p = none) ∨ ∃ u, u ≤ 6000 ∧ s.2.2.1 p = nI u ∧ s.2.2.2 p ≠ -1 ∧ dnO s p = some u := by
  unfold dnO
  rcases D with h | ⟨v, u, e, h1, h2, h3, h4, h5, h6⟩
  · exact Or.inl ⟨h.2.1, h.2.2, by rw [if_pos h.2.1]⟩
  · refine Or.inr ⟨u, h2, h5, by rw [h6]; exact nI_m1 (by omega), ?_⟩
    rw [if_neg (by rw [h5]; exact nI_m1 (by omega)), h5, nI_toInt (by omega)]; rfl
/-- the day if p had t -/
def tkD (K : Nat → Int32) (fl : Option (List CLE)) (nd np nt p t : Nat) : DS := dayF K fl nd np nt (fun _ => true) (upK K p (nI t)) 100
def tkS (o : Option (Nat × Nat)) (t : Nat) (u : Option Nat) : Option (Nat × Nat) := match u with
  | none => o
  | some u => match o with
    | none => some (t, u)
    | some (b, m) => if u < m then some (t, u) else some (b, m)
/-- the ticket by which one is done first -/
def tkF (K : Nat → Int32) (fl : Option (List CLE)) (nd np nt p : Nat) : Nat → Option (Nat × Nat)
  | 0 => none
  | t + 1 => if canD K fl np t p = true then tkS (tkF K fl nd np nt p t) t (dnO (tkD K fl nd np nt p t) p) else tkF K fl nd np nt p t
def tkA (K : Nat → Int32) (fl : Option (List CLE)) (nd np nt : Nat) (p : Int32) : Int32 := if inN p np = true then (if K (ix p) = -1 then aqI (tkF K fl nd np nt (ix p) nt) else -1) else -1
theorem tkF_b {K : Nat → Int32} {fl : Option (List CLE)} {nd np nt p : Nat} (hnd : nd ≤ 3) : ∀ n b m, tkF K fl nd np nt p n = some (b, m) → b < n ∧ m ≤ 6000
  | 0, b, m, h => nomatch h
  | n + 1, b, m, h => by
    rw [tkF] at h
    by_cases c : canD K fl np n p = true
    · rw [if_pos c] at h
      rcases dnO_is hnd (dayF_DP (K := K) (fl := fl) (nd := nd) (np := np) (nt := nt) (st := fun _ => true) (hs := upK K p (nI n)) 100 p) with ⟨-, -, e⟩ | ⟨u, hu, -, -, e⟩
      · rw [show dnO (tkD K fl nd np nt p n) p = none from e] at h
        have := tkF_b hnd n b m h
        omega
      · rw [show dnO (tkD K fl nd np nt p n) p = some u from e] at h
        match hx : tkF K fl nd np nt p n, h with
        | none, h => cases h; omega
        | some (b1, m1), h =>
          have := tkF_b hnd n b1 m1 hx
          have h : (if u < m1 then some (n, u) else some (b1, m1)) = some (b, m) := h
          split at h
          · cases h; omega
          · cases h; omega
    · rw [if_neg c] at h
      have := tkF_b hnd n b m h
      omega
/-- the class amid earliestDone: holders' copy stands in 54 -/
def pdX (k j : Nat) : Bool := plX k j || dX k j
theorem pdX_p {k j : Nat} (h : pdX k j = false) : plX k j = false := by unfold pdX at h; rw [Bool.or_eq_false_iff] at h; exact h.1
theorem pdX_j {h g : AH} (F : Fr jX h g) : Fr pdX h g := (plX_j F).weak (fun k j hx => pdX_p hx)
theorem pdX_q {h g : AH} (F : Fr pX h g) : Fr pdX h g := F.weak (fun k j hx => by
  unfold pdX plX at hx
  unfold pX
  rw [Bool.or_eq_false_iff, Bool.or_eq_false_iff] at hx
  rw [Bool.or_eq_false_iff]
  exact ⟨hx.1.1, hx.2⟩)
def EdI (h0 g : AH) (K : Nat → Int32) (fl : Option (List CLE)) (np nt nd : Nat) : Prop := ShOK g ∧ RfOK g ∧ JS g 1 K fl ∧ HM g 1 K np nt ∧ HD g 1 K nd ∧ LINE g K nt ∧ (∀ t, t < 8 → gI g 54 t = hOf K (nI t) np) ∧ Fr pdX h0 g
theorem pdX_w {h g : AH} (F : Fr wyX h g) : Fr pdX h g := (plX_w F).weak (fun k j hx => pdX_p hx)
section Te
variable (d : Nat) {K : Nat → Int32} {fl : Option (List CLE)} {np nt nd : Nat} {h0 : AH}
theorem EdI.fr {X : Nat → Nat → Bool} {g g' : AH} (I : EdI h0 g K fl np nt nd) (F : Fr X g g') (Fa : Fr pdX g g') (J : JS g' 1 K fl) (hx : xok X = true) (h33 : ∀ k j, k < 33 → X k j = false) (h47 : ∀ j, X 47 j = false) (e54 : ∀ t, t < 8 → gI g' 54 t = hOf K (nI t) np) : EdI h0 g' K fl np nt nd := by
  obtain ⟨S, R, -, M, D, L, -, FF⟩ := I
  exact ⟨F.S S, F.R R hx, J, M.fr F (fun o j ho _ _ => h33 _ _ (by omega)) (fun o j ho e => by rw [h33 _ _ (by omega)] at e; cases e), ⟨D.1.fr F (fun j => h33 _ _ (by decide)) (h33 _ _ (by decide)), D.2.1, (F.I _ _ (h33 _ _ (by decide))).trans D.2.2.1, fun e he => (F.I _ _ (h33 _ _ (by decide))).trans (D.2.2.2 e he)⟩, fun t ht => (F.I 47 _ (h47 _)).trans (L t ht), e54, FF.trans Fa⟩
/-- the class's two locals -/
def emI (o : Option (Nat × Nat)) : Int32 := match o with
  | none => nI 0
  | some (_, m) => nI m
theorem earl31 (B : KB K) (V : VH K np nt) (VDd : VD K nd) (VNn : VN K nt) {p : Nat} (hp : p < np) (hKp : K p = -1) : ∀ (m t : Nat) (g : AH) (a4 : Int32) (a6 : Option Value), t + m = nt → EdI h0 g K fl np nt nd → (tkF K fl nd np nt p t ≠ none → a4 = emI (tkF K fl nd np nt p t)) → Rp (d + 4) M_X6_earliestDone 31 [some (.ref 52), some (.int (nI p)), some (.ref 1), some (.int (aqI (tkF K fl nd np nt p t))), some (.int a4), some (.int (nI t)), a6] [] g (fun r h' => EdI h0 h' K fl np nt nd ∧ r = some (.int (aqI (tkF K fl nd np nt p nt)))) := by
  have v1 := V.1
  have v2 := V.2.1
  intro m
  induction m with
  | zero =>
    intro t g a4 a6 hm I h4
    have e : t = nt := by omega
    subst e
    obtain ⟨S, R, J, M, D, L, e54, FF⟩ := id I
    have m4 : gI g 1 5 = nI t := M.2.2.2.1
    refine Rp.iload dX6_earliestDone_31 rfl ?_
    refine Rp.aload_n dX6_earliestDone_33 rfl rfl ?_
    refine Rp.getI dX6_earliestDone_34 fk_X6_102 rfl (S _ _ rfl) ?_
    first | rw [m4] | skip
    first | ((with_reducible show Rp _ _ _ _ (.int (nI _) :: .int (nI _) :: _) _ _); refine Rp.icmp_geN (tgt := 142) dX6_earliestDone_37 (by decide) (by omega) (fun c37 => ?_) (fun c37 => ?_)) | refine Rp.icmp_ge (tgt := 142) dX6_earliestDone_37 (by decide) (fun c37 => ?_) (fun c37 => ?_)
    · skip
      refine Rp.iload_n dX6_earliestDone_142 rfl ?_
      refine Rp.ireturn dX6_earliestDone_143 rfl ?_
      exact ⟨I, rfl⟩
    · skip
      first | (exfalso; omega) | exact absurd c37 (by decide) | exact absurd (by decide) c37
  | succ m ih =>
    intro t g a4 a6 hm I h4
    obtain ⟨S, R, J, M, D, L, e54, FF⟩ := id I
    have m4 : gI g 1 5 = nI nt := M.2.2.2.1
    have eh : gI g 8 t = hOf K (nI t) np := M.2.2.2.2.2 t (by omega)
    by_cases c1 : hOf K (nI t) np = -1
    · have br := t_isBarredJ (d + 1) S R J B (p := p) (t := t) (by omega) (by omega)
      refine Rp.iload dX6_earliestDone_31 rfl ?_
      refine Rp.aload_n dX6_earliestDone_33 rfl rfl ?_
      refine Rp.getI dX6_earliestDone_34 fk_X6_102 rfl (S _ _ rfl) ?_
      first | rw [m4] | rw [eh] | skip
      first | ((with_reducible show Rp _ _ _ _ (.int (nI _) :: .int (nI _) :: _) _ _); refine Rp.icmp_geN (tgt := 142) dX6_earliestDone_37 (by decide) (by omega) (fun c37 => ?_) (fun c37 => ?_)) | refine Rp.icmp_ge (tgt := 142) dX6_earliestDone_37 (by decide) (fun c37 => ?_) (fun c37 => ?_)
      · first | (exfalso; omega) | exact absurd c37 (by decide) | exact absurd (by decide) c37
      refine Rp.aload_n dX6_earliestDone_40 rfl rfl ?_
      refine Rp.getR dX6_earliestDone_41 fk_X6_105 rfl (S _ _ rfl) (R _ _ _ rfl) ?_
      refine Rp.iload dX6_earliestDone_44 rfl ?_
      first | ((with_reducible show Rp _ _ _ _ (.int (nI _) :: _) _ _); refine Rp.ialoadN dX6_earliestDone_46 (S _ _ rfl) (by omega) ?_) | refine Rp.iaload dX6_earliestDone_46 (S _ _ rfl) (by first | assumption | exact vpb (by decide)) ?_
      first | rw [m4] | rw [eh] | skip
      refine Rp.iconst (-1) dX6_earliestDone_47 (by decide) ?_
      first | ((with_reducible show Rp _ _ _ _ (.int (nI _) :: .int (nI _) :: _) _ _); refine Rp.icmp_neN (tgt := 136) dX6_earliestDone_48 (by decide) (by omega) (fun c48 => ?_) (fun c48 => ?_)) | refine Rp.icmp_ne (tgt := 136) dX6_earliestDone_48 (by decide) (fun c48 => ?_) (fun c48 => ?_)
      · exact absurd c1 c48
      refine Rp.aload_n dX6_earliestDone_51 rfl rfl ?_
      refine Rp.getR dX6_earliestDone_52 fk_X6_27 rfl (S _ _ rfl) (R _ _ _ rfl) ?_
      refine Rp.iload_n dX6_earliestDone_55 rfl ?_
      refine Rp.iload dX6_earliestDone_56 rfl ?_
      refine Rp.callV2 M_X3_isBarred (ci := 3) dX6_earliestDone_58 mo_X3_isBarred lk_X6_112 (by decide) rfl rfl (S _ _ rfl) (Nat.le_of_ble_eq_true rfl) (Nat.le_of_ble_eq_true rfl) (br) (fun v1 h1 p1 x1 => ?_)
      obtain ⟨F1, J1, rfl⟩ := p1
      try dsimp only [Option.toList, List.cons_append, List.nil_append, List.append]
      skip
      have I1 : EdI h0 h1 K fl np nt nd := I.fr F1 (pdX_j F1) J1 (by decide) (fun k j hk => jX_lt (by omega)) (fun j => rfl) (fun u hu => (F1.I 54 u rfl).trans (e54 u hu))
      cases c2 : oBr K fl p t
      · have cD : canD K fl np t p = true := by unfold canD; rw [decide_eq_true hKp, decide_eq_true c1, c2]; rfl
        obtain ⟨S1, R1, -, M1, D1, L1, e541, FF1⟩ := id I1
        have hu := hOf_up v1 hp hKp c1 (show t < 8 by omega)
        have F2 : Fr wyX h1 (sI h1 54 t (nI p)) := Fr.rfl'.sI (by unfold wyX; rw [decide_eq_true (show t < 8 by omega)]; rfl)
        have h33 : ∀ k j, k < 33 → wyX k j = false := fun k j hk => wyX_n (by omega)
        have S2 : ShOK (sI h1 54 t (nI p)) := S1
        have R2 : RfOK (sI h1 54 t (nI p)) := R1
        have J2 := J1.fw F2
        have e542 : ∀ u, u < nt → gI (sI h1 54 t (nI p)) 54 u = hOf (upK K p (nI t)) (nI u) np := fun u hu8 => by
          rw [gI_at]
          by_cases z : u = t
          · rw [if_pos z, z]
            exact (hOf_one (p := p) (by unfold upK; rw [if_pos rfl]) np hp (fun q hq y => by
              unfold upK at y
              by_cases x : q = p
              · exact x
              · rw [if_neg x] at y
                exact absurd y (hOf_m1 np (by omega) c1 q hq))).symm
          · rw [if_neg z, hu.2 u (by omega) z]; exact e541 u (by omega)
        have M2 : HM (sI h1 54 t (nI p)) 1 K np nt := M1.fr F2 (fun o j ho _ _ => h33 _ _ (by omega)) (fun o j ho e => by rw [h33 _ _ (by omega)] at e; cases e)
        have D2 : HD (sI h1 54 t (nI p)) 1 K nd := ⟨D1.1.fr F2 (fun j => h33 _ _ (by decide)) (h33 _ _ (by decide)), D1.2.1, (F2.I _ _ (h33 _ _ (by decide))).trans D1.2.2.1, fun e he => (F2.I _ _ (h33 _ _ (by decide))).trans (D1.2.2.2 e he)⟩
        have DBg : DB (sI h1 54 t (nI p)) 1 K np nt nd (upK K p (nI t)) 54 := ⟨S2, R2, by decide, B, D2, VDd, VNn, v1, M2.2.2.2.1, Or.inr (Or.inr rfl), e542⟩
        have py := t_play d (st := fun _ => true) (fl := fl) DBg (fun t ht => (F2.I 47 _ rfl).trans (L1 t ht)) J2 (op := nI 7) (bit7 VDd.1)
        first | ((with_reducible show Rp _ _ _ _ (.int (b2i _) :: _) _ _); refine Rp.if_eqB (tgt := 67) dX6_earliestDone_61 (by decide) (fun c61 => ?_) (fun c61 => ?_)) | ((with_reducible show Rp _ _ _ _ (.int (nI _) :: _) _ _); refine Rp.if_eqN (tgt := 67) dX6_earliestDone_61 (by decide) (by omega) (fun c61 => ?_) (fun c61 => ?_)) | refine Rp.if_eq (tgt := 67) dX6_earliestDone_61 (by decide) (fun c61 => ?_) (fun c61 => ?_)
        rotate_left
        · cases c61
        refine Rp.aload_n dX6_earliestDone_67 rfl rfl ?_
        refine Rp.getR dX6_earliestDone_68 fk_X6_15 rfl (S1 _ _ rfl) (R1 _ _ _ rfl) ?_
        refine Rp.iload dX6_earliestDone_71 rfl ?_
        refine Rp.iload_n dX6_earliestDone_73 rfl ?_
        first | ((with_reducible show Rp _ _ _ _ (_ :: .int (nI _) :: _) _ _); refine Rp.iastoreN dX6_earliestDone_74 (S1 _ _ rfl) (by omega) ?_) | refine Rp.iastore dX6_earliestDone_74 (S1 _ _ rfl) (by first | assumption | exact vpb (by decide)) ?_
        refine Rp.aload_n dX6_earliestDone_75 rfl rfl ?_
        refine Rp.getR dX6_earliestDone_76 fk_X6_31 rfl (S2 _ _ rfl) (R2 _ _ _ rfl) ?_
        refine Rp.aload_n dX6_earliestDone_79 rfl rfl ?_
        refine Rp.getR dX6_earliestDone_80 fk_X6_27 rfl (S2 _ _ rfl) (R2 _ _ _ rfl) ?_
        refine Rp.aload_n dX6_earliestDone_83 rfl rfl ?_
        refine Rp.getR dX6_earliestDone_84 fk_X6_15 rfl (S2 _ _ rfl) (R2 _ _ _ rfl) ?_
        refine Rp.bipush (nI 7) dX6_earliestDone_87 (by decide) ?_
        refine Rp.callV3 M_X1_play (ci := 1) dX6_earliestDone_89 mo_X1_play lk_X6_118 (by decide) rfl rfl (S2 _ _ rfl) (Nat.le_of_ble_eq_true rfl) (Nat.le_of_ble_eq_true rfl) (py) (fun v1 h1 p1 x1 => ?_)
        obtain ⟨rfl, F3, J3, Y3⟩ := p1
        try dsimp only [Option.toList, List.cons_append, List.nil_append, List.append]
        skip
        have S3 := F3.S S2
        have R3 := F3.R R2 (by decide)
        have F4 : Fr wyX h1 (sI h1 54 t (-1)) := Fr.rfl'.sI (by unfold wyX; rw [decide_eq_true (show t < 8 by omega)]; rfl)
        have J4 := J3.fw F4
        have S4 : ShOK (sI h1 54 t (-1)) := S3
        have R4 : RfOK (sI h1 54 t (-1)) := R3
        have p33 : ∀ k j, k < 33 → pX k j = false := fun k j hk => by unfold pX; rw [jX_lt (by omega), dX_lt (by omega)]; rfl
        have e544 : ∀ u, u < 8 → gI (sI h1 54 t (-1)) 54 u = hOf K (nI u) np := fun u hu8 => by
          rw [gI_at]
          by_cases z : u = t
          · rw [if_pos z, z, c1]
          · rw [if_neg z, F3.I 54 u rfl, gI_at, if_neg z]; exact e541 u hu8
        have I4 : EdI h0 (sI h1 54 t (-1)) K fl np nt nd := by
          have M3 : HM h1 1 K np nt := M2.fr F3 (fun o j ho _ _ => p33 _ _ (by omega)) (fun o j ho e => by rw [p33 _ _ (by omega)] at e; cases e)
          have D3 : HD h1 1 K nd := ⟨D2.1.fr F3 (fun j => p33 _ _ (by decide)) (p33 _ _ (by decide)), D2.2.1, (F3.I _ _ (p33 _ _ (by decide))).trans D2.2.2.1, fun e he => (F3.I _ _ (p33 _ _ (by decide))).trans (D2.2.2.2 e he)⟩
          exact ⟨S4, R4, J4, M3.fr F4 (fun o j ho _ _ => h33 _ _ (by omega)) (fun o j ho e => by rw [h33 _ _ (by omega)] at e; cases e), ⟨D3.1.fr F4 (fun j => h33 _ _ (by decide)) (h33 _ _ (by decide)), D3.2.1, (F4.I _ _ (h33 _ _ (by decide))).trans D3.2.2.1, fun e he => (F4.I _ _ (h33 _ _ (by decide))).trans (D3.2.2.2 e he)⟩, fun t ht => (F4.I 47 _ rfl).trans ((F3.I 47 _ rfl).trans ((F2.I 47 _ rfl).trans (L1 t ht))), e544, ((FF1.trans (pdX_w F2)).trans (pdX_q F3)).trans (pdX_w F4)⟩
        have ed : gI (sI h1 54 t (-1)) 50 p = (tkD K fl nd np nt p t).2.2.1 p := (F4.I 50 p rfl).trans (Y3.2.2.1 p (by omega))
        have k1 := fun a4 a6 => ih (t + 1) (sI h1 54 t (-1)) a4 a6 (by omega) I4
        rw [tkF, if_pos cD] at k1
        rcases dnO_is VDd.1 (dayF_DP (K := K) (fl := fl) (nd := nd) (np := np) (nt := nt) (st := fun _ => true) (hs := upK K p (nI t)) 100 p) with ⟨e1, -, e3⟩ | ⟨u, hu6, e1, -, e3⟩
        · rw [show dnO (tkD K fl nd np nt p t) p = none from e3] at k1
          have k2 := k1 a4 (some (.int (-1))) h4
          rw [show (tkD K fl nd np nt p t).2.2.1 p = -1 from e1] at ed
          refine Rp.aload_n dX6_earliestDone_92 rfl rfl ?_
          refine Rp.getR dX6_earliestDone_93 fk_X6_15 rfl (S3 _ _ rfl) (R3 _ _ _ rfl) ?_
          refine Rp.iload dX6_earliestDone_96 rfl ?_
          refine Rp.iconst (-1) dX6_earliestDone_98 (by decide) ?_
          first | ((with_reducible show Rp _ _ _ _ (_ :: .int (nI _) :: _) _ _); refine Rp.iastoreN dX6_earliestDone_99 (S3 _ _ rfl) (by omega) ?_) | refine Rp.iastore dX6_earliestDone_99 (S3 _ _ rfl) (by first | assumption | exact vpb (by decide)) ?_
          refine Rp.aload_n dX6_earliestDone_100 rfl rfl ?_
          refine Rp.getR dX6_earliestDone_101 fk_X6_31 rfl (S4 _ _ rfl) (R4 _ _ _ rfl) ?_
          refine Rp.getR dX6_earliestDone_104 fk_X6_135 rfl (S4 _ _ rfl) (R4 _ _ _ rfl) ?_
          refine Rp.iload_n dX6_earliestDone_107 rfl ?_
          first | ((with_reducible show Rp _ _ _ _ (.int (nI _) :: _) _ _); refine Rp.ialoadN dX6_earliestDone_108 (S4 _ _ rfl) (by omega) ?_) | refine Rp.iaload dX6_earliestDone_108 (S4 _ _ rfl) (by first | assumption | exact vpb (by decide)) ?_
          first | rw [ed] | skip
          refine Rp.ist6 dX6_earliestDone_109 (by first | exact nl2_some rfl | exact nl2_none) (by decide) ?_
          refine Rp.iload dX6_earliestDone_111 rfl ?_
          refine Rp.iconst (-1) dX6_earliestDone_113 (by decide) ?_
          first | ((with_reducible show Rp _ _ _ _ (.int (nI _) :: .int (nI _) :: _) _ _); refine Rp.icmp_eqN (tgt := 136) dX6_earliestDone_114 (by decide) (by omega) (fun c114 => ?_) (fun c114 => ?_)) | refine Rp.icmp_eq (tgt := 136) dX6_earliestDone_114 (by decide) (fun c114 => ?_) (fun c114 => ?_)
          · skip
            first | ((with_reducible show Rp _ _ _ (_ :: _ :: _ :: _ :: _ :: some (.int (nI _)) :: _) _ _ _); refine Rp.inc5N (c := 1) dX6_earliestDone_136 (by first | exact nl2_some rfl | exact nl2_none) (by decide) ?_) | refine Rp.inc5 _ dX6_earliestDone_136 rfl (by first | exact nl2_some rfl | exact nl2_none) (by decide) ?_
            refine Rp.goto (tgt := 31) dX6_earliestDone_139 (by decide) ?_
            exact k2
          · skip
            exact absurd rfl c114
        · rw [show dnO (tkD K fl nd np nt p t) p = some u from e3] at k1
          rw [show (tkD K fl nd np nt p t).2.2.1 p = nI u from e1] at ed
          have nu : ¬ nI u = -1 := nI_m1 (by omega)
          match hx : tkF K fl nd np nt p t with
          | none =>
            rw [hx] at k1
            have k2 := k1 (nI u) (some (.int (nI u))) (fun _ => rfl)
            dsimp only [aqI]
            refine Rp.aload_n dX6_earliestDone_92 rfl rfl ?_
            refine Rp.getR dX6_earliestDone_93 fk_X6_15 rfl (S3 _ _ rfl) (R3 _ _ _ rfl) ?_
            refine Rp.iload dX6_earliestDone_96 rfl ?_
            refine Rp.iconst (-1) dX6_earliestDone_98 (by decide) ?_
            first | ((with_reducible show Rp _ _ _ _ (_ :: .int (nI _) :: _) _ _); refine Rp.iastoreN dX6_earliestDone_99 (S3 _ _ rfl) (by omega) ?_) | refine Rp.iastore dX6_earliestDone_99 (S3 _ _ rfl) (by first | assumption | exact vpb (by decide)) ?_
            refine Rp.aload_n dX6_earliestDone_100 rfl rfl ?_
            refine Rp.getR dX6_earliestDone_101 fk_X6_31 rfl (S4 _ _ rfl) (R4 _ _ _ rfl) ?_
            refine Rp.getR dX6_earliestDone_104 fk_X6_135 rfl (S4 _ _ rfl) (R4 _ _ _ rfl) ?_
            refine Rp.iload_n dX6_earliestDone_107 rfl ?_
            first | ((with_reducible show Rp _ _ _ _ (.int (nI _) :: _) _ _); refine Rp.ialoadN dX6_earliestDone_108 (S4 _ _ rfl) (by omega) ?_) | refine Rp.iaload dX6_earliestDone_108 (S4 _ _ rfl) (by first | assumption | exact vpb (by decide)) ?_
            first | rw [ed] | skip
            refine Rp.ist6 dX6_earliestDone_109 (by first | exact nl2_some rfl | exact nl2_none) (by decide) ?_
            refine Rp.iload dX6_earliestDone_111 rfl ?_
            refine Rp.iconst (-1) dX6_earliestDone_113 (by decide) ?_
            first | ((with_reducible show Rp _ _ _ _ (.int (nI _) :: .int (nI _) :: _) _ _); refine Rp.icmp_eqN (tgt := 136) dX6_earliestDone_114 (by decide) (by omega) (fun c114 => ?_) (fun c114 => ?_)) | refine Rp.icmp_eq (tgt := 136) dX6_earliestDone_114 (by decide) (fun c114 => ?_) (fun c114 => ?_)
            · skip
              exact absurd c114 nu
            · skip
              refine Rp.iload_n dX6_earliestDone_117 rfl ?_
              refine Rp.iconst (-1) dX6_earliestDone_118 (by decide) ?_
              first | ((with_reducible show Rp _ _ _ _ (.int (nI _) :: .int (nI _) :: _) _ _); refine Rp.icmp_eqN (tgt := 129) dX6_earliestDone_119 (by decide) (by omega) (fun c119 => ?_) (fun c119 => ?_)) | refine Rp.icmp_eq (tgt := 129) dX6_earliestDone_119 (by decide) (fun c119 => ?_) (fun c119 => ?_)
              · skip
                refine Rp.iload dX6_earliestDone_129 rfl ?_
                refine Rp.ist3 dX6_earliestDone_131 (by first | exact nl2_some rfl | exact nl2_none) (by decide) ?_
                refine Rp.iload dX6_earliestDone_132 rfl ?_
                refine Rp.ist4 dX6_earliestDone_134 (by first | exact nl2_some rfl | exact nl2_none) (by decide) ?_
                first | ((with_reducible show Rp _ _ _ (_ :: _ :: _ :: _ :: _ :: some (.int (nI _)) :: _) _ _ _); refine Rp.inc5N (c := 1) dX6_earliestDone_136 (by first | exact nl2_some rfl | exact nl2_none) (by decide) ?_) | refine Rp.inc5 _ dX6_earliestDone_136 rfl (by first | exact nl2_some rfl | exact nl2_none) (by decide) ?_
                refine Rp.goto (tgt := 31) dX6_earliestDone_139 (by decide) ?_
                exact k2
              · skip
                exact absurd rfl c119
          | some (b, mm) =>
            have bb := tkF_b VDd.1 t b mm hx
            have nb : ¬ nI b = -1 := nI_m1 (by omega)
            rw [hx] at k1 h4
            have h4 : a4 = nI mm := h4 (fun z => nomatch z)
            subst h4
            have es : tkS (some (b, mm)) t (some u) = if u < mm then some (t, u) else some (b, mm) := rfl
            rw [es] at k1
            dsimp only [aqI]
            by_cases c5 : u < mm
            · rw [if_pos c5] at k1
              have k2 := k1 (nI u) (some (.int (nI u))) (fun _ => rfl)
              refine Rp.aload_n dX6_earliestDone_92 rfl rfl ?_
              refine Rp.getR dX6_earliestDone_93 fk_X6_15 rfl (S3 _ _ rfl) (R3 _ _ _ rfl) ?_
              refine Rp.iload dX6_earliestDone_96 rfl ?_
              refine Rp.iconst (-1) dX6_earliestDone_98 (by decide) ?_
              first | ((with_reducible show Rp _ _ _ _ (_ :: .int (nI _) :: _) _ _); refine Rp.iastoreN dX6_earliestDone_99 (S3 _ _ rfl) (by omega) ?_) | refine Rp.iastore dX6_earliestDone_99 (S3 _ _ rfl) (by first | assumption | exact vpb (by decide)) ?_
              refine Rp.aload_n dX6_earliestDone_100 rfl rfl ?_
              refine Rp.getR dX6_earliestDone_101 fk_X6_31 rfl (S4 _ _ rfl) (R4 _ _ _ rfl) ?_
              refine Rp.getR dX6_earliestDone_104 fk_X6_135 rfl (S4 _ _ rfl) (R4 _ _ _ rfl) ?_
              refine Rp.iload_n dX6_earliestDone_107 rfl ?_
              first | ((with_reducible show Rp _ _ _ _ (.int (nI _) :: _) _ _); refine Rp.ialoadN dX6_earliestDone_108 (S4 _ _ rfl) (by omega) ?_) | refine Rp.iaload dX6_earliestDone_108 (S4 _ _ rfl) (by first | assumption | exact vpb (by decide)) ?_
              first | rw [ed] | skip
              refine Rp.ist6 dX6_earliestDone_109 (by first | exact nl2_some rfl | exact nl2_none) (by decide) ?_
              refine Rp.iload dX6_earliestDone_111 rfl ?_
              refine Rp.iconst (-1) dX6_earliestDone_113 (by decide) ?_
              first | ((with_reducible show Rp _ _ _ _ (.int (nI _) :: .int (nI _) :: _) _ _); refine Rp.icmp_eqN (tgt := 136) dX6_earliestDone_114 (by decide) (by omega) (fun c114 => ?_) (fun c114 => ?_)) | refine Rp.icmp_eq (tgt := 136) dX6_earliestDone_114 (by decide) (fun c114 => ?_) (fun c114 => ?_)
              · skip
                exact absurd c114 nu
              · skip
                refine Rp.iload_n dX6_earliestDone_117 rfl ?_
                refine Rp.iconst (-1) dX6_earliestDone_118 (by decide) ?_
                first | ((with_reducible show Rp _ _ _ _ (.int (nI _) :: .int (nI _) :: _) _ _); refine Rp.icmp_eqN (tgt := 129) dX6_earliestDone_119 (by decide) (by omega) (fun c119 => ?_) (fun c119 => ?_)) | refine Rp.icmp_eq (tgt := 129) dX6_earliestDone_119 (by decide) (fun c119 => ?_) (fun c119 => ?_)
                · skip
                  exact absurd c119 nb
                · skip
                  refine Rp.iload dX6_earliestDone_122 rfl ?_
                  refine Rp.iload dX6_earliestDone_124 rfl ?_
                  first | ((with_reducible show Rp _ _ _ _ (.int (nI _) :: .int (nI _) :: _) _ _); refine Rp.icmp_geN (tgt := 136) dX6_earliestDone_126 (by decide) (by omega) (fun c126 => ?_) (fun c126 => ?_)) | refine Rp.icmp_ge (tgt := 136) dX6_earliestDone_126 (by decide) (fun c126 => ?_) (fun c126 => ?_)
                  · skip
                    first | (exfalso; omega) | exact absurd c126 (by decide) | exact absurd (by decide) c126
                  · skip
                    refine Rp.iload dX6_earliestDone_129 rfl ?_
                    refine Rp.ist3 dX6_earliestDone_131 (by first | exact nl2_some rfl | exact nl2_none) (by decide) ?_
                    refine Rp.iload dX6_earliestDone_132 rfl ?_
                    refine Rp.ist4 dX6_earliestDone_134 (by first | exact nl2_some rfl | exact nl2_none) (by decide) ?_
                    first | ((with_reducible show Rp _ _ _ (_ :: _ :: _ :: _ :: _ :: some (.int (nI _)) :: _) _ _ _); refine Rp.inc5N (c := 1) dX6_earliestDone_136 (by first | exact nl2_some rfl | exact nl2_none) (by decide) ?_) | refine Rp.inc5 _ dX6_earliestDone_136 rfl (by first | exact nl2_some rfl | exact nl2_none) (by decide) ?_
                    refine Rp.goto (tgt := 31) dX6_earliestDone_139 (by decide) ?_
                    exact k2
            · rw [if_neg c5] at k1
              have k2 := k1 (nI mm) (some (.int (nI u))) (fun _ => rfl)
              refine Rp.aload_n dX6_earliestDone_92 rfl rfl ?_
              refine Rp.getR dX6_earliestDone_93 fk_X6_15 rfl (S3 _ _ rfl) (R3 _ _ _ rfl) ?_
              refine Rp.iload dX6_earliestDone_96 rfl ?_
              refine Rp.iconst (-1) dX6_earliestDone_98 (by decide) ?_
              first | ((with_reducible show Rp _ _ _ _ (_ :: .int (nI _) :: _) _ _); refine Rp.iastoreN dX6_earliestDone_99 (S3 _ _ rfl) (by omega) ?_) | refine Rp.iastore dX6_earliestDone_99 (S3 _ _ rfl) (by first | assumption | exact vpb (by decide)) ?_
              refine Rp.aload_n dX6_earliestDone_100 rfl rfl ?_
              refine Rp.getR dX6_earliestDone_101 fk_X6_31 rfl (S4 _ _ rfl) (R4 _ _ _ rfl) ?_
              refine Rp.getR dX6_earliestDone_104 fk_X6_135 rfl (S4 _ _ rfl) (R4 _ _ _ rfl) ?_
              refine Rp.iload_n dX6_earliestDone_107 rfl ?_
              first | ((with_reducible show Rp _ _ _ _ (.int (nI _) :: _) _ _); refine Rp.ialoadN dX6_earliestDone_108 (S4 _ _ rfl) (by omega) ?_) | refine Rp.iaload dX6_earliestDone_108 (S4 _ _ rfl) (by first | assumption | exact vpb (by decide)) ?_
              first | rw [ed] | skip
              refine Rp.ist6 dX6_earliestDone_109 (by first | exact nl2_some rfl | exact nl2_none) (by decide) ?_
              refine Rp.iload dX6_earliestDone_111 rfl ?_
              refine Rp.iconst (-1) dX6_earliestDone_113 (by decide) ?_
              first | ((with_reducible show Rp _ _ _ _ (.int (nI _) :: .int (nI _) :: _) _ _); refine Rp.icmp_eqN (tgt := 136) dX6_earliestDone_114 (by decide) (by omega) (fun c114 => ?_) (fun c114 => ?_)) | refine Rp.icmp_eq (tgt := 136) dX6_earliestDone_114 (by decide) (fun c114 => ?_) (fun c114 => ?_)
              · skip
                exact absurd c114 nu
              · skip
                refine Rp.iload_n dX6_earliestDone_117 rfl ?_
                refine Rp.iconst (-1) dX6_earliestDone_118 (by decide) ?_
                first | ((with_reducible show Rp _ _ _ _ (.int (nI _) :: .int (nI _) :: _) _ _); refine Rp.icmp_eqN (tgt := 129) dX6_earliestDone_119 (by decide) (by omega) (fun c119 => ?_) (fun c119 => ?_)) | refine Rp.icmp_eq (tgt := 129) dX6_earliestDone_119 (by decide) (fun c119 => ?_) (fun c119 => ?_)
                · skip
                  exact absurd c119 nb
                · skip
                  refine Rp.iload dX6_earliestDone_122 rfl ?_
                  refine Rp.iload dX6_earliestDone_124 rfl ?_
                  first | ((with_reducible show Rp _ _ _ _ (.int (nI _) :: .int (nI _) :: _) _ _); refine Rp.icmp_geN (tgt := 136) dX6_earliestDone_126 (by decide) (by omega) (fun c126 => ?_) (fun c126 => ?_)) | refine Rp.icmp_ge (tgt := 136) dX6_earliestDone_126 (by decide) (fun c126 => ?_) (fun c126 => ?_)
                  · skip
                    first | ((with_reducible show Rp _ _ _ (_ :: _ :: _ :: _ :: _ :: some (.int (nI _)) :: _) _ _ _); refine Rp.inc5N (c := 1) dX6_earliestDone_136 (by first | exact nl2_some rfl | exact nl2_none) (by decide) ?_) | refine Rp.inc5 _ dX6_earliestDone_136 rfl (by first | exact nl2_some rfl | exact nl2_none) (by decide) ?_
                    refine Rp.goto (tgt := 31) dX6_earliestDone_139 (by decide) ?_
                    exact k2
                  · skip
                    first | (exfalso; omega) | exact absurd c126 (by decide) | exact absurd (by decide) c126
      · have cD : ¬ canD K fl np t p = true := by unfold canD; rw [c2]; intro z; rw [show (!true) = false from rfl, Bool.and_false] at z; cases z
        have k1 := ih (t + 1) h1 a4 a6 (by omega) I1
        rw [tkF, if_neg cD] at k1
        have k2 := k1 h4
        first | ((with_reducible show Rp _ _ _ _ (.int (b2i _) :: _) _ _); refine Rp.if_eqB (tgt := 67) dX6_earliestDone_61 (by decide) (fun c61 => ?_) (fun c61 => ?_)) | ((with_reducible show Rp _ _ _ _ (.int (nI _) :: _) _ _); refine Rp.if_eqN (tgt := 67) dX6_earliestDone_61 (by decide) (by omega) (fun c61 => ?_) (fun c61 => ?_)) | refine Rp.if_eq (tgt := 67) dX6_earliestDone_61 (by decide) (fun c61 => ?_) (fun c61 => ?_)
        · skip
          cases c61
        · skip
          refine Rp.goto (tgt := 136) dX6_earliestDone_64 (by decide) ?_
          first | ((with_reducible show Rp _ _ _ (_ :: _ :: _ :: _ :: _ :: some (.int (nI _)) :: _) _ _ _); refine Rp.inc5N (c := 1) dX6_earliestDone_136 (by first | exact nl2_some rfl | exact nl2_none) (by decide) ?_) | refine Rp.inc5 _ dX6_earliestDone_136 rfl (by first | exact nl2_some rfl | exact nl2_none) (by decide) ?_
          refine Rp.goto (tgt := 31) dX6_earliestDone_139 (by decide) ?_
          exact k2
    · have cD : ¬ canD K fl np t p = true := by unfold canD; rw [decide_eq_false c1]; intro z; rw [Bool.and_false, Bool.false_and] at z; cases z
      have k1 := ih (t + 1) g a4 a6 (by omega) I
      rw [tkF, if_neg cD] at k1
      have k2 := k1 h4
      refine Rp.iload dX6_earliestDone_31 rfl ?_
      refine Rp.aload_n dX6_earliestDone_33 rfl rfl ?_
      refine Rp.getI dX6_earliestDone_34 fk_X6_102 rfl (S _ _ rfl) ?_
      first | rw [m4] | rw [eh] | skip
      first | ((with_reducible show Rp _ _ _ _ (.int (nI _) :: .int (nI _) :: _) _ _); refine Rp.icmp_geN (tgt := 142) dX6_earliestDone_37 (by decide) (by omega) (fun c37 => ?_) (fun c37 => ?_)) | refine Rp.icmp_ge (tgt := 142) dX6_earliestDone_37 (by decide) (fun c37 => ?_) (fun c37 => ?_)
      · skip
        first | (exfalso; omega) | exact absurd c37 (by decide) | exact absurd (by decide) c37
      · skip
        refine Rp.aload_n dX6_earliestDone_40 rfl rfl ?_
        refine Rp.getR dX6_earliestDone_41 fk_X6_105 rfl (S _ _ rfl) (R _ _ _ rfl) ?_
        refine Rp.iload dX6_earliestDone_44 rfl ?_
        first | ((with_reducible show Rp _ _ _ _ (.int (nI _) :: _) _ _); refine Rp.ialoadN dX6_earliestDone_46 (S _ _ rfl) (by omega) ?_) | refine Rp.iaload dX6_earliestDone_46 (S _ _ rfl) (by first | assumption | exact vpb (by decide)) ?_
        first | rw [m4] | rw [eh] | skip
        refine Rp.iconst (-1) dX6_earliestDone_47 (by decide) ?_
        first | ((with_reducible show Rp _ _ _ _ (.int (nI _) :: .int (nI _) :: _) _ _); refine Rp.icmp_neN (tgt := 136) dX6_earliestDone_48 (by decide) (by omega) (fun c48 => ?_) (fun c48 => ?_)) | refine Rp.icmp_ne (tgt := 136) dX6_earliestDone_48 (by decide) (fun c48 => ?_) (fun c48 => ?_)
        · skip
          first | ((with_reducible show Rp _ _ _ (_ :: _ :: _ :: _ :: _ :: some (.int (nI _)) :: _) _ _ _); refine Rp.inc5N (c := 1) dX6_earliestDone_136 (by first | exact nl2_some rfl | exact nl2_none) (by decide) ?_) | refine Rp.inc5 _ dX6_earliestDone_136 rfl (by first | exact nl2_some rfl | exact nl2_none) (by decide) ?_
          refine Rp.goto (tgt := 31) dX6_earliestDone_139 (by decide) ?_
          exact k2
        · skip
          exact absurd c48 c1
end Te
