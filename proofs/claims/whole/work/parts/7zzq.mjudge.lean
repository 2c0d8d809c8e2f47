/-- what about has found so far, in the reference -/
def RMab (g : AH) (s : AB) : Prop := match s with
  | none => gI g 100 40 = -1 ∧ gI g 100 41 = 1000000
  | some (f, a, Bf) => gI g 100 40 = nI f ∧ gI g 100 41 = nI a ∧ (∀ q, q < 6 → gI g 121 q = Bf q) ∧ f ≤ 6 ∧ a ≤ 324000
def mfX (k j : Nat) : Bool := (k == 100 && (j == 40 || j == 41)) || (k == 121 && decide (j < 6))
def mjX (k j : Nat) : Bool := mdX k j || mfX k j
theorem mjX_d {h g : AH} (F : Fr mdX h g) : Fr mjX h g := F.weak (fun k j hx => by unfold mjX at hx; rw [Bool.or_eq_false_iff] at hx; exact hx.1)
theorem mjX_f {h g : AH} (F : Fr mfX h g) : Fr mjX h g := F.weak (fun k j hx => by unfold mjX at hx; rw [Bool.or_eq_false_iff] at hx; exact hx.2)
theorem RMab.fr {X : Nat → Nat → Bool} {g g' : AH} {s : AB} (H : RMab g s) (F : Fr X g g') (h40 : X 100 40 = false) (h41 : X 100 41 = false) (h121 : ∀ j, X 121 j = false) : RMab g' s := by
  match s, H with
  | none, H => exact ⟨(F.I 100 40 h40).trans H.1, (F.I 100 41 h41).trans H.2⟩
  | some (f, a, Bf), H => exact ⟨(F.I 100 40 h40).trans H.1, (F.I 100 41 h41).trans H.2.1, fun q hq => (F.I 121 q (h121 q)).trans (H.2.2.1 q hq), H.2.2.2⟩
section Mj
variable (d : Nat) {h : AH} {K : Nat → Int32} {fl : Option (List CLE)} {np nt nd : Nat} {W : Nat → Int32}
theorem judges48 {P : Option Value → AH → Prop} (S0 : ShOK h) (R0 : RfOK h) (a1 a2 : Int32) (kk : ∀ g, Fr mfX h g → (∀ q, q < 6 → gI g 121 q = gI h 102 q) → gI g 100 40 = gI h 100 40 → gI g 100 41 = gI h 100 41 → P none g) : ∀ (m p : Nat) (g : AH), p + m = 6 → Fr mfX h g → (∀ q, q < p → gI g 121 q = gI h 102 q) → gI g 100 40 = gI h 100 40 → gI g 100 41 = gI h 100 41 → Rp d M_X12_judges 48 [some (.ref aM), some (.int a1), some (.int a2), some (.int (nI p))] [] g P := by
  intro m
  induction m with
  | zero =>
    intro p g hm F e1 e2 e3
    have e : p = 6 := by omega
    subst e
    have k1 := kk g F e1 e2 e3
    refine Rp.iload_n dX12_judges_48 rfl ?_
    refine Rp.bipush (nI 6) dX12_judges_49 (by decide) ?_
    first | ((with_reducible show Rp _ _ _ _ (.int (nI _) :: .int (nI _) :: _) _ _); refine Rp.icmp_geN (tgt := 74) dX12_judges_51 (by decide) (by omega) (fun c51 => ?_) (fun c51 => ?_)) | refine Rp.icmp_ge (tgt := 74) dX12_judges_51 (by decide) (fun c51 => ?_) (fun c51 => ?_)
    · skip
      refine Rp.vreturn dX12_judges_74 rfl ?_
      exact k1
    · skip
      first | (exfalso; omega) | exact absurd c51 (by decide) | exact absurd (by decide) c51
  | succ m ih =>
    intro p g hm F e1 e2 e3
    have S := F.S S0
    have R := F.R R0 (by decide)
    have k1 := ih (p + 1) (sI g 121 p (gI h 102 p)) (by omega) (F.sI (by unfold mfX; rw [decide_eq_true (show p < 6 by omega)]; rfl)) (fun q hq => by
      rw [gI_at]
      by_cases z : q = p
      · rw [if_pos z, z]
      · rw [if_neg z]; exact e1 q (by omega)) e2 e3
    have ek : gI g 102 p = gI h 102 p := F.I 102 p rfl
    refine Rp.iload_n dX12_judges_48 rfl ?_
    refine Rp.bipush (nI 6) dX12_judges_49 (by decide) ?_
    first | ((with_reducible show Rp _ _ _ _ (.int (nI _) :: .int (nI _) :: _) _ _); refine Rp.icmp_geN (tgt := 74) dX12_judges_51 (by decide) (by omega) (fun c51 => ?_) (fun c51 => ?_)) | refine Rp.icmp_ge (tgt := 74) dX12_judges_51 (by decide) (fun c51 => ?_) (fun c51 => ?_)
    · skip
      first | (exfalso; omega) | exact absurd c51 (by decide) | exact absurd (by decide) c51
    · skip
      refine Rp.aload_n dX12_judges_54 rfl rfl ?_
      refine Rp.getR dX12_judges_55 fk_X12_86 rfl (S _ _ rfl) (R _ _ _ rfl) ?_
      refine Rp.iload_n dX12_judges_58 rfl ?_
      refine Rp.aload_n dX12_judges_59 rfl rfl ?_
      refine Rp.getR dX12_judges_60 fk_X12_24 rfl (S _ _ rfl) (R _ _ _ rfl) ?_
      refine Rp.iconst (nI 0) dX12_judges_63 (by decide) ?_
      refine Rp.iload_n dX12_judges_64 rfl ?_
      first | ((with_reducible show Rp _ _ _ _ (.int (nI _) :: .int (nI _) :: _) _ _); refine Rp.iaddN dX12_judges_65 ?_) | refine Rp.iadd dX12_judges_65 ?_
      rw [Nat.zero_add]
      first | ((with_reducible show Rp _ _ _ _ (.int (nI _) :: _) _ _); refine Rp.ialoadN dX12_judges_66 (S _ _ rfl) (by omega) ?_) | refine Rp.iaload dX12_judges_66 (S _ _ rfl) (by first | assumption | exact vpb (by decide)) ?_
      first | rw [ek] | skip
      first | ((with_reducible show Rp _ _ _ _ (_ :: .int (nI _) :: _) _ _); refine Rp.iastoreN dX12_judges_67 (S _ _ rfl) (by omega) ?_) | refine Rp.iastore dX12_judges_67 (S _ _ rfl) (by first | assumption | exact vpb (by decide)) ?_
      first | ((with_reducible show Rp _ _ _ (_ :: _ :: _ :: some (.int (nI _)) :: _) _ _ _); refine Rp.inc3N (c := 1) dX12_judges_68 (by first | exact nl2_some rfl | exact nl2_none) (by decide) ?_) | refine Rp.inc3 _ dX12_judges_68 rfl (by first | exact nl2_some rfl | exact nl2_none) (by decide) ?_
      refine Rp.goto (tgt := 48) dX12_judges_71 (by decide) ?_
      exact k1
/-- the reference's leaf of about -/
theorem s_judges {s : AB} (A : MBd h fl np nt nd) (hK : gI h 102 = mixK W K) (hS : RMab h s) : Rp (d + 79) M_X12_judges 0 [some (.ref aM), none, none, none] [] h (fun r h' => r = none ∧ Fr mjX h h' ∧ RMab h' (abS K fl nd np nt W s)) := by
  obtain ⟨S, R, hF, B, VDd, hD, VNn, V, hM⟩ := id A
  have v1 := V.1
  have hi6 : ∀ j, 6 ≤ j → mixK W K j = K j := fun j hj => mixK_hi hj
  have fm := s_fitMany (d + 2) S R hF B V hM
  have ef : fitN (gI h 102) fl np = lfF K fl np W := by rw [hK]; rfl
  rw [ef] at fm
  have fle : lfF K fl np W ≤ np := fitN_le (mixK W K) fl np
  have ale := lfA_le (K := K) (fl := fl) (nd := nd) (np := np) (nt := nt) (W := W)
  refine Rp.aload_n dX12_judges_0 rfl rfl ?_
  refine Rp.callV0 M_X12_fitMany (ci := 12) dX12_judges_1 mo_X12_fitMany lk_X12_408 (by decide) rfl rfl (S _ _ rfl) (Nat.le_of_ble_eq_true rfl) (Nat.le_of_ble_eq_true rfl) (fm) (fun v1 h1 p1 x1 => ?_)
  obtain ⟨F1, rfl⟩ := p1
  try dsimp only [Option.toList, List.cons_append, List.nil_append, List.append]
  skip
  have A1 : MBd h1 fl np nt nd := A.fr (mdX_t F1)
  have S1 := A1.1
  have R1 := A1.2.1
  have hS1 := hS.fr F1 rfl rfl (fun j => rfl)
  have K1 : gI h1 102 = mixK W K := (funext fun j => F1.I 102 j rfl).trans hK
  have wa := s_waitOfAll d A1
  have ew : wtA (gI h1 am_kept) fl (dayF (gI h1 am_kept) fl nd np nt (fun _ => true) (gI h1 am_kept) 100) (gI h1 am_kept) np = lfA K fl nd np nt W := by
    rw [show gI h1 am_kept = mixK W K from K1, dayF_congr (K := mixK W K) (K' := K) hi6 fl nd np nt _ (hs := mixK W K) (hs' := W) (fun p hp => mixK_lo (by omega)) 100]
    exact wtA_congr hi6 fl _ np (fun p hp => by rw [mixK_lo (by omega)])
  rw [ew] at wa
  -- taking it
  have k36 : ∀ g : AH, ShOK g → RfOK g → Fr mjX h g → gI g 102 = mixK W K → abS K fl nd np nt W s = some (lfF K fl np W, lfA K fl nd np nt W, W) → Rp (d + 79) M_X12_judges 36 [some (.ref aM), some (.int (nI (lfF K fl np W))), some (.int (nI (lfA K fl nd np nt W))), none] [] g (fun r h' => r = none ∧ Fr mjX h h' ∧ RMab h' (abS K fl nd np nt W s)) := by
    intro g Sg Rg Fg Kg e
    rw [e]
    have k48 := judges48 (d + 79) (h := sI (sI g 100 40 (nI (lfF K fl np W))) 100 41 (nI (lfA K fl nd np nt W))) (P := fun r h' => r = none ∧ Fr mjX h h' ∧ RMab h' (some (lfF K fl np W, lfA K fl nd np nt W, W))) Sg Rg (nI (lfF K fl np W)) (nI (lfA K fl nd np nt W)) (fun g2 F2 e1 e2 e3 => ⟨rfl, ((Fg.sI rfl).sI rfl).trans (mjX_f F2), e2.trans ((gI_off _ _ _ (by decide)).trans (gI_hit _ _ _ _)), e3.trans (gI_hit _ _ _ _), fun q hq => (e1 q hq).trans ((show gI (sI (sI g 100 40 (nI (lfF K fl np W))) 100 41 (nI (lfA K fl nd np nt W))) 102 q = gI g 102 q from rfl).trans (by rw [Kg]; exact mixK_lo hq)), by omega, by omega⟩) 6 0 _ (by omega) Fr.rfl' (fun q hq => absurd hq (Nat.not_lt_zero _)) rfl rfl
    refine Rp.aload_n dX12_judges_36 rfl rfl ?_
    refine Rp.iload_n dX12_judges_37 rfl ?_
    refine Rp.putI dX12_judges_38 fk_X12_411w rfl (Sg _ _ rfl) ?_
    refine Rp.aload_n dX12_judges_41 rfl rfl ?_
    refine Rp.iload_n dX12_judges_42 rfl ?_
    refine Rp.putI dX12_judges_43 fk_X12_414w rfl (Sg _ _ rfl) ?_
    refine Rp.iconst (nI 0) dX12_judges_46 (by decide) ?_
    refine Rp.ist3 dX12_judges_47 (by first | exact nl2_some rfl | exact nl2_none) (by decide) ?_
    exact k48
  have k14 : (∀ f a Bf, s = some (f, a, Bf) → ¬ lfF K fl np W < f) → Rp (d + 79) M_X12_judges 14 [some (.ref aM), some (.int (nI (lfF K fl np W))), none, none] [] h1 (fun r h' => r = none ∧ Fr mjX h h' ∧ RMab h' (abS K fl nd np nt W s)) := by
    intro hnl
    refine Rp.aload_n dX12_judges_14 rfl rfl ?_
    refine Rp.callV0 M_X12_waitOfAll (ci := 12) dX12_judges_15 mo_X12_waitOfAll lk_X12_402 (by decide) rfl rfl (S1 _ _ rfl) (Nat.le_of_ble_eq_true rfl) (Nat.le_of_ble_eq_true rfl) (wa) (fun v1 h1 p1 x1 => ?_)
    obtain ⟨F2, -, rfl⟩ := p1
    try dsimp only [Option.toList, List.cons_append, List.nil_append, List.append]
    skip
    have A2 := A1.fr F2
    have S2 := A2.1
    have R2 := A2.2.1
    have hS2 := hS1.fr F2 rfl rfl (fun j => rfl)
    have Fg : Fr mjX h h1 := (mjX_d (mdX_t F1)).trans (mjX_d F2)
    have K2 : gI h1 102 = mixK W K := F2.k102.trans K1
    match s, hS2, hnl, k36 with
    | none, hS2, hnl, k36 =>
      have k1 := k36 h1 S2 R2 Fg K2 rfl
      have q40 : gI h1 100 40 = -1 := hS2.1
      have nf : ¬ nI (lfF K fl np W) = -1 := nI_m1 (by omega)
      refine Rp.ist2 dX12_judges_18 (by first | exact nl2_some rfl | exact nl2_none) (by decide) ?_
      refine Rp.iload_n dX12_judges_19 rfl ?_
      refine Rp.aload_n dX12_judges_20 rfl rfl ?_
      refine Rp.getI dX12_judges_21 fk_X12_411 rfl (S2 _ _ rfl) ?_
      first | rw [q40] | skip
      first | ((with_reducible show Rp _ _ _ _ (.int (nI _) :: .int (nI _) :: _) _ _); refine Rp.icmp_neN (tgt := 36) dX12_judges_24 (by decide) (by omega) (fun c24 => ?_) (fun c24 => ?_)) | refine Rp.icmp_ne (tgt := 36) dX12_judges_24 (by decide) (fun c24 => ?_) (fun c24 => ?_)
      · skip
        exact k1
      · skip
        exact absurd c24 nf
    | some (f, a, Bf), hS2, hnl, k36 =>
      have q40 : gI h1 100 40 = nI f := hS2.1
      have q41 : gI h1 100 41 = nI a := hS2.2.1
      have fb := hS2.2.2.2.1
      have abd := hS2.2.2.2.2
      have nl := hnl f a Bf rfl
      by_cases c1 : lfF K fl np W = f
      · by_cases c2 : a ≤ lfA K fl nd np nt W
        · have ea : abS K fl nd np nt W (some (f, a, Bf)) = some (f, a, Bf) := by show (if lfF K fl np W < f then _ else _) = _; rw [if_neg nl, if_pos ⟨c1, c2⟩]
          rw [ea]
          refine Rp.ist2 dX12_judges_18 (by first | exact nl2_some rfl | exact nl2_none) (by decide) ?_
          refine Rp.iload_n dX12_judges_19 rfl ?_
          refine Rp.aload_n dX12_judges_20 rfl rfl ?_
          refine Rp.getI dX12_judges_21 fk_X12_411 rfl (S2 _ _ rfl) ?_
          first | rw [q40] | rw [q41] | skip
          first | ((with_reducible show Rp _ _ _ _ (.int (nI _) :: .int (nI _) :: _) _ _); refine Rp.icmp_neN (tgt := 36) dX12_judges_24 (by decide) (by omega) (fun c24 => ?_) (fun c24 => ?_)) | refine Rp.icmp_ne (tgt := 36) dX12_judges_24 (by decide) (fun c24 => ?_) (fun c24 => ?_)
          · skip
            first | (exfalso; omega) | exact absurd c24 (by decide) | exact absurd (by decide) c24
          · skip
            refine Rp.iload_n dX12_judges_27 rfl ?_
            refine Rp.aload_n dX12_judges_28 rfl rfl ?_
            refine Rp.getI dX12_judges_29 fk_X12_414 rfl (S2 _ _ rfl) ?_
            first | rw [q40] | rw [q41] | skip
            first | ((with_reducible show Rp _ _ _ _ (.int (nI _) :: .int (nI _) :: _) _ _); refine Rp.icmp_ltN (tgt := 36) dX12_judges_32 (by decide) (by omega) (fun c32 => ?_) (fun c32 => ?_)) | refine Rp.icmp_lt (tgt := 36) dX12_judges_32 (by decide) (fun c32 => ?_) (fun c32 => ?_)
            · skip
              first | (exfalso; omega) | exact absurd c32 (by decide) | exact absurd (by decide) c32
            · skip
              refine Rp.vreturn dX12_judges_35 rfl ?_
              exact ⟨rfl, Fg, hS2⟩
        · have k1 := k36 h1 S2 R2 Fg K2 (by show (if lfF K fl np W < f then _ else _) = _; rw [if_neg nl, if_neg (fun z => c2 z.2)])
          refine Rp.ist2 dX12_judges_18 (by first | exact nl2_some rfl | exact nl2_none) (by decide) ?_
          refine Rp.iload_n dX12_judges_19 rfl ?_
          refine Rp.aload_n dX12_judges_20 rfl rfl ?_
          refine Rp.getI dX12_judges_21 fk_X12_411 rfl (S2 _ _ rfl) ?_
          first | rw [q40] | rw [q41] | skip
          first | ((with_reducible show Rp _ _ _ _ (.int (nI _) :: .int (nI _) :: _) _ _); refine Rp.icmp_neN (tgt := 36) dX12_judges_24 (by decide) (by omega) (fun c24 => ?_) (fun c24 => ?_)) | refine Rp.icmp_ne (tgt := 36) dX12_judges_24 (by decide) (fun c24 => ?_) (fun c24 => ?_)
          · skip
            first | (exfalso; omega) | exact absurd c24 (by decide) | exact absurd (by decide) c24
          · skip
            refine Rp.iload_n dX12_judges_27 rfl ?_
            refine Rp.aload_n dX12_judges_28 rfl rfl ?_
            refine Rp.getI dX12_judges_29 fk_X12_414 rfl (S2 _ _ rfl) ?_
            first | rw [q40] | rw [q41] | skip
            first | ((with_reducible show Rp _ _ _ _ (.int (nI _) :: .int (nI _) :: _) _ _); refine Rp.icmp_ltN (tgt := 36) dX12_judges_32 (by decide) (by omega) (fun c32 => ?_) (fun c32 => ?_)) | refine Rp.icmp_lt (tgt := 36) dX12_judges_32 (by decide) (fun c32 => ?_) (fun c32 => ?_)
            · skip
              exact k1
            · skip
              first | (exfalso; omega) | exact absurd c32 (by decide) | exact absurd (by decide) c32
      · have k1 := k36 h1 S2 R2 Fg K2 (by show (if lfF K fl np W < f then _ else _) = _; rw [if_neg nl, if_neg (fun z => c1 z.1)])
        refine Rp.ist2 dX12_judges_18 (by first | exact nl2_some rfl | exact nl2_none) (by decide) ?_
        refine Rp.iload_n dX12_judges_19 rfl ?_
        refine Rp.aload_n dX12_judges_20 rfl rfl ?_
        refine Rp.getI dX12_judges_21 fk_X12_411 rfl (S2 _ _ rfl) ?_
        first | rw [q40] | rw [q41] | skip
        first | ((with_reducible show Rp _ _ _ _ (.int (nI _) :: .int (nI _) :: _) _ _); refine Rp.icmp_neN (tgt := 36) dX12_judges_24 (by decide) (by omega) (fun c24 => ?_) (fun c24 => ?_)) | refine Rp.icmp_ne (tgt := 36) dX12_judges_24 (by decide) (fun c24 => ?_) (fun c24 => ?_)
        · skip
          exact k1
        · skip
          first | (exfalso; omega) | exact absurd c24 (by decide) | exact absurd (by decide) c24
  match s, hS1, k14 with
  | none, hS1, k14 =>
    have q40 : gI h1 100 40 = -1 := hS1.1
    have ge : nI (lfF K fl np W) ≥ -1 := by
      show (-1 : Int32) ≤ nI (lfF K fl np W)
      rw [i32_le, nI_toInt (by omega)]
      have : (-1 : Int32).toInt = -1 := rfl
      omega
    have k1 := k14 (fun f a Bf z => nomatch z)
    refine Rp.ist1 dX12_judges_4 (by first | exact nl2_some rfl | exact nl2_none) (by decide) ?_
    refine Rp.iload_n dX12_judges_5 rfl ?_
    refine Rp.aload_n dX12_judges_6 rfl rfl ?_
    refine Rp.getI dX12_judges_7 fk_X12_411 rfl (S1 _ _ rfl) ?_
    first | rw [q40] | skip
    first | ((with_reducible show Rp _ _ _ _ (.int (nI _) :: .int (nI _) :: _) _ _); refine Rp.icmp_geN (tgt := 14) dX12_judges_10 (by decide) (by omega) (fun c10 => ?_) (fun c10 => ?_)) | refine Rp.icmp_ge (tgt := 14) dX12_judges_10 (by decide) (fun c10 => ?_) (fun c10 => ?_)
    · skip
      exact k1
    · skip
      exact absurd ge c10
  | some (f, a, Bf), hS1, k14 =>
    have q40 : gI h1 100 40 = nI f := hS1.1
    have fb := hS1.2.2.2.1
    by_cases c1 : lfF K fl np W < f
    · have ea : abS K fl nd np nt W (some (f, a, Bf)) = some (f, a, Bf) := by show (if lfF K fl np W < f then _ else _) = _; rw [if_pos c1]
      rw [ea]
      refine Rp.ist1 dX12_judges_4 (by first | exact nl2_some rfl | exact nl2_none) (by decide) ?_
      refine Rp.iload_n dX12_judges_5 rfl ?_
      refine Rp.aload_n dX12_judges_6 rfl rfl ?_
      refine Rp.getI dX12_judges_7 fk_X12_411 rfl (S1 _ _ rfl) ?_
      first | rw [q40] | skip
      first | ((with_reducible show Rp _ _ _ _ (.int (nI _) :: .int (nI _) :: _) _ _); refine Rp.icmp_geN (tgt := 14) dX12_judges_10 (by decide) (by omega) (fun c10 => ?_) (fun c10 => ?_)) | refine Rp.icmp_ge (tgt := 14) dX12_judges_10 (by decide) (fun c10 => ?_) (fun c10 => ?_)
      · skip
        first | (exfalso; omega) | exact absurd c10 (by decide) | exact absurd (by decide) c10
      · skip
        refine Rp.vreturn dX12_judges_13 rfl ?_
        exact ⟨rfl, mjX_d (mdX_t F1), hS1⟩
    · have k1 := k14 (fun f2 a2 B2 z => by cases z; exact c1)
      refine Rp.ist1 dX12_judges_4 (by first | exact nl2_some rfl | exact nl2_none) (by decide) ?_
      refine Rp.iload_n dX12_judges_5 rfl ?_
      refine Rp.aload_n dX12_judges_6 rfl rfl ?_
      refine Rp.getI dX12_judges_7 fk_X12_411 rfl (S1 _ _ rfl) ?_
      first | rw [q40] | skip
      first | ((with_reducible show Rp _ _ _ _ (.int (nI _) :: .int (nI _) :: _) _ _); refine Rp.icmp_geN (tgt := 14) dX12_judges_10 (by decide) (by omega) (fun c10 => ?_) (fun c10 => ?_)) | refine Rp.icmp_ge (tgt := 14) dX12_judges_10 (by decide) (fun c10 => ?_) (fun c10 => ?_)
      · skip
        exact k1
      · skip
        first | (exfalso; omega) | exact absurd c10 (by decide) | exact absurd (by decide) c10
end Mj
