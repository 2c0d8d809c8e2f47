/-- the cells of trade -/
def t5X (k _j : Nat) : Bool := decide (58 ≤ k) && decide (k ≤ 62)
theorem t5X_n {k j : Nat} (h : k < 58 ∨ 62 < k) : t5X k j = false := by
  unfold t5X
  rcases h with h | h
  · rw [decide_eq_false (by omega)]; rfl
  · rw [decide_eq_false (p := k ≤ 62) (by omega), Bool.and_false]
theorem t5X_y {k j : Nat} (h1 : 58 ≤ k) (h2 : k ≤ 62) : t5X k j = true := by unfold t5X; rw [decide_eq_true h1, decide_eq_true h2]; rfl
def trX (k j : Nat) : Bool := jX k j || t5X k j
theorem trX_j {h g : AH} (F : Fr jX h g) : Fr trX h g := F.weak (fun k j hx => by unfold trX at hx; rw [Bool.or_eq_false_iff] at hx; exact hx.1)
theorem trX_t {h g : AH} (F : Fr t5X h g) : Fr trX h g := F.weak (fun k j hx => by unfold trX at hx; rw [Bool.or_eq_false_iff] at hx; exact hx.2)
/-- the class amid trade: who is left, what was got, how many rings -/
def TrS (h0 g : AH) (K : Nat → Int32) (fl : Option (List CLE)) (np nt nd nl : Nat) (lf : Nat → Bool) (gt : Nat → Int32) (n : Nat) : Prop := ShOK g ∧ RfOK g ∧ JS g 1 K fl ∧ HA g 1 K np nt nd nl ∧ (∀ q, q < 6 → gI g 59 q = b2i (lf q)) ∧ (∀ q, q < 6 → gI g 62 q = gt q) ∧ gI g 58 4 = nI n ∧ Fr trX h0 g
section Ct
variable (d : Nat) {K : Nat → Int32} {fl : Option (List CLE)} {np nt nd nl : Nat} {lf : Nat → Bool} {gt : Nat → Int32} {n : Nat} {h0 : AH}
theorem TrS.ji {g g' : AH} (T : TrS h0 g K fl np nt nd nl lf gt n) (I : TrI g g' K fl np nt nd nl) : TrS h0 g' K fl np nt nd nl lf gt n := by
  obtain ⟨S, R, J, H, a59, a62, a58, F⟩ := T
  obtain ⟨S', R', J', H', F'⟩ := I
  exact ⟨S', R', J', H', fun q hq => (F'.I 59 q rfl).trans (a59 q hq), fun q hq => (F'.I 62 q rfl).trans (a62 q hq), (F'.I 58 4 rfl).trans a58, F.trans (trX_j F')⟩
theorem TrS.put {g : AH} {lf' : Nat → Bool} {gt' : Nat → Int32} {n' : Nat} (T : TrS h0 g K fl np nt nd nl lf gt n) {k j : Nat} {x : Int32} (h1 : 58 ≤ k) (h2 : k ≤ 62) (e59 : ∀ q, q < 6 → gI (sI g k j x) 59 q = b2i (lf' q)) (e62 : ∀ q, q < 6 → gI (sI g k j x) 62 q = gt' q) (e58 : gI (sI g k j x) 58 4 = nI n') : TrS h0 (sI g k j x) K fl np nt nd nl lf' gt' n' := by
  obtain ⟨S, R, J, H, a59, a62, a58, F⟩ := T
  have F1 : Fr t5X g (sI g k j x) := Fr.rfl'.sI (t5X_y h1 h2)
  exact ⟨S, R.put _ _ _, J.fg F1 (fun j => t5X_n (by decide)) (fun j => t5X_n (by decide)) (fun j => t5X_n (by decide)) (fun k j hk => t5X_n (by omega)) (fun k j o => t5X_n (by unfold okT at o; omega)), H.fr F1 (fun o j ho => t5X_n (by omega)) (t5X_n (by decide)), e59, e62, e58, F.trans (trX_t F1)⟩
/-- all who are left point -/
theorem point2 (B : KB K) (V : VH K np nt) (W : KW K) : ∀ (m p : Nat) (g : AH), p + m = np → TrS h0 g K fl np nt nd nl lf gt n → (∀ q, q < p → lf q = true → gI g 61 q = nI (pnt K fl np nt lf q)) → Rp (d + 4) M_X10_pointAll 2 [some (.ref 58), some (.ref 40), some (.int (nI p))] [] g (fun r h' => r = none ∧ TrS h0 h' K fl np nt nd nl lf gt n ∧ ∀ q, q < np → lf q = true → gI h' 61 q = nI (pnt K fl np nt lf q)) := by
  have v1 := V.1
  intro m
  induction m with
  | zero =>
    intro p g hm T hp
    have e : p = np := by omega
    subst e
    obtain ⟨S, R, J, H, a59, a62, a58, F⟩ := id T
    have j40 : gR g 40 3 = some 1 := J.1
    have m3 : gI g 1 0 = nI p := H.2.1
    refine Rp.iload_n dX10_pointAll_2 rfl ?_
    refine Rp.aload_n dX10_pointAll_3 rfl rfl ?_
    refine Rp.getR dX10_pointAll_4 fk_X10_25 rfl (S _ _ rfl) j40 ?_
    refine Rp.getI dX10_pointAll_7 fk_X10_50 rfl (S _ _ rfl) ?_
    first | rw [m3] | skip
    first | ((with_reducible show Rp _ _ _ _ (.int (nI _) :: .int (nI _) :: _) _ _); refine Rp.icmp_geN (tgt := 40) dX10_pointAll_10 (by decide) (by omega) (fun c10 => ?_) (fun c10 => ?_)) | refine Rp.icmp_ge (tgt := 40) dX10_pointAll_10 (by decide) (fun c10 => ?_) (fun c10 => ?_)
    · skip
      refine Rp.vreturn dX10_pointAll_40 rfl ?_
      exact ⟨rfl, T, hp⟩
    · skip
      first | (exfalso; omega) | exact absurd c10 (by decide) | exact absurd (by decide) c10
  | succ m ih =>
    intro p g hm T hp
    obtain ⟨S, R, J, H, a59, a62, a58, F⟩ := id T
    have j40 : gR g 40 3 = some 1 := J.1
    have m3 : gI g 1 0 = nI np := H.2.1
    have el : gI g 59 p = b2i (lf p) := a59 p (by omega)
    cases cl : lf p
    · rw [cl] at el
      have k1 := ih (p + 1) g (by omega) T (fun q hq hl => hp q (by
        have : q ≠ p := fun z => by rw [z, cl] at hl; cases hl
        omega) hl)
      refine Rp.iload_n dX10_pointAll_2 rfl ?_
      refine Rp.aload_n dX10_pointAll_3 rfl rfl ?_
      refine Rp.getR dX10_pointAll_4 fk_X10_25 rfl (S _ _ rfl) j40 ?_
      refine Rp.getI dX10_pointAll_7 fk_X10_50 rfl (S _ _ rfl) ?_
      first | rw [m3] | rw [el] | skip
      first | ((with_reducible show Rp _ _ _ _ (.int (nI _) :: .int (nI _) :: _) _ _); refine Rp.icmp_geN (tgt := 40) dX10_pointAll_10 (by decide) (by omega) (fun c10 => ?_) (fun c10 => ?_)) | refine Rp.icmp_ge (tgt := 40) dX10_pointAll_10 (by decide) (fun c10 => ?_) (fun c10 => ?_)
      · skip
        first | (exfalso; omega) | exact absurd c10 (by decide) | exact absurd (by decide) c10
      · skip
        refine Rp.aload_n dX10_pointAll_13 rfl rfl ?_
        refine Rp.getR dX10_pointAll_14 fk_X10_9 rfl (S _ _ rfl) (R _ _ _ rfl) ?_
        refine Rp.iload_n dX10_pointAll_17 rfl ?_
        first | ((with_reducible show Rp _ _ _ _ (.int (nI _) :: _) _ _); refine Rp.zaloadN dX10_pointAll_18 (S _ _ rfl) (by omega) ?_) | refine Rp.zaload dX10_pointAll_18 (S _ _ rfl) (by first | assumption | exact vpb (by decide)) ?_
        first | rw [m3] | rw [el] | skip
        first | ((with_reducible show Rp _ _ _ _ (.int (b2i _) :: _) _ _); refine Rp.if_eqB (tgt := 34) dX10_pointAll_19 (by decide) (fun c19 => ?_) (fun c19 => ?_)) | ((with_reducible show Rp _ _ _ _ (.int (nI _) :: _) _ _); refine Rp.if_eqN (tgt := 34) dX10_pointAll_19 (by decide) (by omega) (fun c19 => ?_) (fun c19 => ?_)) | refine Rp.if_eq (tgt := 34) dX10_pointAll_19 (by decide) (fun c19 => ?_) (fun c19 => ?_)
        · skip
          first | ((with_reducible show Rp _ _ _ (_ :: _ :: some (.int (nI _)) :: _) _ _ _); refine Rp.inc2N (c := 1) dX10_pointAll_34 (by first | exact nl2_some rfl | exact nl2_none) (by decide) ?_) | refine Rp.inc2 _ dX10_pointAll_34 rfl (by first | exact nl2_some rfl | exact nl2_none) (by decide) ?_
          refine Rp.goto (tgt := 2) dX10_pointAll_37 (by decide) ?_
          exact k1
        · skip
          cases c19
    · rw [cl] at el
      have wh := t_wishedHolder d S R J H B V W a59 (show p < np by omega)
      rw [(fnI_pnt (fl := fl) V (lf := lf) (show p < np by omega)).1] at wh
      refine Rp.iload_n dX10_pointAll_2 rfl ?_
      refine Rp.aload_n dX10_pointAll_3 rfl rfl ?_
      refine Rp.getR dX10_pointAll_4 fk_X10_25 rfl (S _ _ rfl) j40 ?_
      refine Rp.getI dX10_pointAll_7 fk_X10_50 rfl (S _ _ rfl) ?_
      first | rw [m3] | rw [el] | skip
      first | ((with_reducible show Rp _ _ _ _ (.int (nI _) :: .int (nI _) :: _) _ _); refine Rp.icmp_geN (tgt := 40) dX10_pointAll_10 (by decide) (by omega) (fun c10 => ?_) (fun c10 => ?_)) | refine Rp.icmp_ge (tgt := 40) dX10_pointAll_10 (by decide) (fun c10 => ?_) (fun c10 => ?_)
      · first | (exfalso; omega) | exact absurd c10 (by decide) | exact absurd (by decide) c10
      refine Rp.aload_n dX10_pointAll_13 rfl rfl ?_
      refine Rp.getR dX10_pointAll_14 fk_X10_9 rfl (S _ _ rfl) (R _ _ _ rfl) ?_
      refine Rp.iload_n dX10_pointAll_17 rfl ?_
      first | ((with_reducible show Rp _ _ _ _ (.int (nI _) :: _) _ _); refine Rp.zaloadN dX10_pointAll_18 (S _ _ rfl) (by omega) ?_) | refine Rp.zaload dX10_pointAll_18 (S _ _ rfl) (by first | assumption | exact vpb (by decide)) ?_
      first | rw [m3] | rw [el] | skip
      first | ((with_reducible show Rp _ _ _ _ (.int (b2i _) :: _) _ _); refine Rp.if_eqB (tgt := 34) dX10_pointAll_19 (by decide) (fun c19 => ?_) (fun c19 => ?_)) | ((with_reducible show Rp _ _ _ _ (.int (nI _) :: _) _ _); refine Rp.if_eqN (tgt := 34) dX10_pointAll_19 (by decide) (by omega) (fun c19 => ?_) (fun c19 => ?_)) | refine Rp.if_eq (tgt := 34) dX10_pointAll_19 (by decide) (fun c19 => ?_) (fun c19 => ?_)
      · cases c19
      refine Rp.aload_n dX10_pointAll_22 rfl rfl ?_
      refine Rp.getR dX10_pointAll_23 fk_X10_18 rfl (S _ _ rfl) (R _ _ _ rfl) ?_
      refine Rp.iload_n dX10_pointAll_26 rfl ?_
      refine Rp.aload_n dX10_pointAll_27 rfl rfl ?_
      refine Rp.aload_n dX10_pointAll_28 rfl rfl ?_
      refine Rp.iload_n dX10_pointAll_29 rfl ?_
      refine Rp.callV2 M_X10_wishedHolder (ci := 10) dX10_pointAll_30 mo_X10_wishedHolder lk_X10_61 (by decide) rfl rfl (S _ _ rfl) (Nat.le_of_ble_eq_true rfl) (Nat.le_of_ble_eq_true rfl) (wh) (fun v1 h1 p1 x1 => ?_)
      obtain ⟨I1, rfl⟩ := p1
      try dsimp only [Option.toList, List.cons_append, List.nil_append, List.append]
      skip
      have T1 := T.ji I1
      have S1 := T1.1
      have T2 : TrS h0 (sI h1 61 p (nI (pnt K fl np nt lf p))) K fl np nt nd nl lf gt n := T1.put (by decide) (by decide) (fun q hq => (gI_ne _ _ _ _ (by decide)).trans (T1.2.2.2.2.1 q hq)) (fun q hq => (gI_ne _ _ _ _ (by decide)).trans (T1.2.2.2.2.2.1 q hq)) ((gI_ne _ _ _ _ (by decide)).trans T1.2.2.2.2.2.2.1)
      have k1 := ih (p + 1) (sI h1 61 p (nI (pnt K fl np nt lf p))) (by omega) T2 (fun q hq hl => by
        rw [gI_at]
        by_cases z : q = p
        · rw [if_pos z, z]
        · rw [if_neg z, I1.2.2.2.2.I 61 q rfl]; exact hp q (by omega) hl)
      first | ((with_reducible show Rp _ _ _ _ (_ :: .int (nI _) :: _) _ _); refine Rp.iastoreN dX10_pointAll_33 (S1 _ _ rfl) (by omega) ?_) | refine Rp.iastore dX10_pointAll_33 (S1 _ _ rfl) (by first | assumption | exact vpb (by decide)) ?_
      first | ((with_reducible show Rp _ _ _ (_ :: _ :: some (.int (nI _)) :: _) _ _ _); refine Rp.inc2N (c := 1) dX10_pointAll_34 (by first | exact nl2_some rfl | exact nl2_none) (by decide) ?_) | refine Rp.inc2 _ dX10_pointAll_34 rfl (by first | exact nl2_some rfl | exact nl2_none) (by decide) ?_
      refine Rp.goto (tgt := 2) dX10_pointAll_37 (by decide) ?_
      exact k1
theorem t_pointAll {g : AH} (B : KB K) (V : VH K np nt) (W : KW K) (T : TrS h0 g K fl np nt nd nl lf gt n) : Rp (d + 4) M_X10_pointAll 0 [some (.ref 58), some (.ref 40), none] [] g (fun r h' => r = none ∧ TrS h0 h' K fl np nt nd nl lf gt n ∧ ∀ q, q < np → lf q = true → gI h' 61 q = nI (pnt K fl np nt lf q)) := by
  have k2 := point2 d B V W np 0 g (by omega) T (fun q hq => absurd hq (Nat.not_lt_zero _))
  refine Rp.iconst (nI 0) dX10_pointAll_0 (by decide) ?_
  refine Rp.ist2 dX10_pointAll_1 (by first | exact nl2_some rfl | exact nl2_none) (by decide) ?_
  exact k2
end Ct
