abbrev TRS : Type := (Nat → Bool) × (Nat → Int32) × Nat
/-- one round of trade -/
def trN (K : Nat → Int32) (fl : Option (List CLE)) (np nt : Nat) (s : TRS) : TRS := (fun q => s.1 q && !onR (pnt K fl np nt s.1) q, fun q => if s.1 q = true ∧ onR (pnt K fl np nt s.1) q = true then K (pnt K fl np nt s.1 q) else s.2.1 q, s.2.2 + rgN (pnt K fl np nt s.1) s.1 np)
def trT (K : Nat → Int32) (fl : Option (List CLE)) (np nt : Nat) : Nat → TRS → TRS
  | 0, s => s
  | m + 1, s => trT K fl np nt m (trN K fl np nt s)
def tr0 (K : Nat → Int32) (np : Nat) : TRS := (fun q => decide (q < np) && decide (K q ≠ -1), fun _ => -1, 0)
theorem b2i_and1 (b : Bool) : b2i b &&& 1 = b2i b := by cases b <;> decide
/-- those below p who are on a ring have left -/
def lfP (lf : Nat → Bool) (f : Nat → Nat) (p : Nat) : Nat → Bool := fun q => lf q && !(decide (q < p) && onR f q)
def gtP (K gt : Nat → Int32) (lf : Nat → Bool) (f : Nat → Nat) (p : Nat) : Nat → Int32 := fun q => if q < p ∧ lf q = true ∧ onR f q = true then K (f q) else gt q
theorem lfP_0 (lf : Nat → Bool) (f : Nat → Nat) : lfP lf f 0 = lf := funext fun q => by
  unfold lfP
  rw [decide_eq_false (Nat.not_lt_zero _), Bool.false_and]
  show (lf q && true) = lf q
  rw [Bool.and_true]
theorem gtP_0 (K gt : Nat → Int32) (lf : Nat → Bool) (f : Nat → Nat) : gtP K gt lf f 0 = gt := funext fun q => by
  unfold gtP
  rw [if_neg (fun z => absurd z.1 (Nat.not_lt_zero _))]
theorem lfP_end {lf : Nat → Bool} {f : Nat → Nat} {np : Nat} (hln : ∀ q, lf q = true → q < np) : lfP lf f np = fun q => lf q && !onR f q := funext fun q => by
  unfold lfP
  cases cl : lf q
  · rfl
  · rw [decide_eq_true (hln q cl)]
    cases onR f q <;> rfl
theorem gtP_end {K gt : Nat → Int32} {lf : Nat → Bool} {f : Nat → Nat} {np : Nat} (hln : ∀ q, lf q = true → q < np) : gtP K gt lf f np = fun q => if lf q = true ∧ onR f q = true then K (f q) else gt q := funext fun q => by
  unfold gtP
  by_cases c : lf q = true ∧ onR f q = true
  · rw [if_pos ⟨hln q c.1, c⟩, if_pos c]
  · rw [if_neg (fun z => c z.2), if_neg c]
theorem lfP_no {lf : Nat → Bool} {f : Nat → Nat} {p : Nat} (cl : (lf p && onR f p) = false) : lfP lf f (p + 1) = lfP lf f p := funext fun q => by
  unfold lfP
  by_cases z : q = p
  · rw [z, decide_eq_false (show ¬ p < p by omega), decide_eq_true (show p < p + 1 by omega), Bool.false_and, Bool.true_and]
    cases x1 : lf p
    · rfl
    · rw [x1, Bool.true_and] at cl; rw [cl]
  · by_cases y : q < p
    · rw [decide_eq_true y, decide_eq_true (show q < p + 1 by omega)]
    · rw [decide_eq_false y, decide_eq_false (show ¬ q < p + 1 by omega)]
theorem gtP_no {K gt : Nat → Int32} {lf : Nat → Bool} {f : Nat → Nat} {p : Nat} (cl : (lf p && onR f p) = false) : gtP K gt lf f (p + 1) = gtP K gt lf f p := funext fun q => by
  unfold gtP
  by_cases z : q = p
  · rw [if_neg (fun y => by rw [z] at y; rw [y.2.1, y.2.2] at cl; cases cl), if_neg (fun y => by omega)]
  · by_cases y : q < p ∧ lf q = true ∧ onR f q = true
    · rw [if_pos y, if_pos ⟨by omega, y.2⟩]
    · rw [if_neg y, if_neg (fun x => y ⟨by omega, x.2⟩)]
theorem lfP_yes {lf : Nat → Bool} {f : Nat → Nat} {p : Nat} (cl : lf p = true ∧ onR f p = true) : lfP lf f (p + 1) = fun q => if q = p then false else lfP lf f p q := funext fun q => by
  by_cases z : q = p
  · rw [if_pos z]
    unfold lfP
    rw [z, decide_eq_true (show p < p + 1 by omega), cl.1, cl.2]; rfl
  · rw [if_neg z]
    unfold lfP
    by_cases y : q < p
    · rw [decide_eq_true y, decide_eq_true (show q < p + 1 by omega)]
    · rw [decide_eq_false y, decide_eq_false (show ¬ q < p + 1 by omega)]
theorem gtP_yes {K gt : Nat → Int32} {lf : Nat → Bool} {f : Nat → Nat} {p : Nat} (cl : lf p = true ∧ onR f p = true) : gtP K gt lf f (p + 1) = fun q => if q = p then K (f p) else gtP K gt lf f p q := funext fun q => by
  by_cases z : q = p
  · rw [if_pos z]
    unfold gtP
    rw [z, if_pos ⟨by omega, cl⟩]
  · rw [if_neg z]
    unfold gtP
    by_cases y : q < p ∧ lf q = true ∧ onR f q = true
    · rw [if_pos y, if_pos ⟨by omega, y.2⟩]
    · rw [if_neg y, if_neg (fun x => y ⟨by omega, x.2⟩)]
section Ct3
variable (d : Nat) {K : Nat → Int32} {fl : Option (List CLE)} {np nt nd nl : Nat} {lf : Nat → Bool} {gt : Nat → Int32} {n : Nat} {h0 : AH} {f : Nat → Nat}
theorem rings2 (h6 : np ≤ 6) (hln : ∀ q, lf q = true → q < np) (hcl : ∀ q, lf q = true → lf (f q) = true) {P : Option Value → AH → Prop} (kk : ∀ g, TrS h0 g K fl np nt nd nl lf gt (n + rgN f lf np) → (∀ q, q < np → lf q = true → gI g 61 q = nI (f q)) → (∀ q, q < np → gI g 60 q = b2i (lf q && onR f q)) → Rp (d + 3) M_X10_takeRings 44 [some (.ref 58), some (.ref 1), some (.int (nI np))] [] g P) : ∀ (m p : Nat) (g : AH), p + m = np → TrS h0 g K fl np nt nd nl lf gt (n + rgN f lf p) → (∀ q, q < np → lf q = true → gI g 61 q = nI (f q)) → (∀ q, q < p → gI g 60 q = b2i (lf q && onR f q)) → Rp (d + 3) M_X10_takeRings 2 [some (.ref 58), some (.ref 1), some (.int (nI p))] [] g P := by
  intro m
  induction m with
  | zero =>
    intro p g hm T h61 h60
    have e : p = np := by omega
    subst e
    obtain ⟨S, R, J, H, a59, a62, a58, F⟩ := id T
    have m3 : gI g 1 0 = nI p := H.2.1
    have k1 := kk g T h61 h60
    refine Rp.iload_n dX10_takeRings_2 rfl ?_
    refine Rp.aload_n dX10_takeRings_3 rfl rfl ?_
    refine Rp.getI dX10_takeRings_4 fk_X10_50 rfl (S _ _ rfl) ?_
    first | rw [m3] | skip
    first | ((with_reducible show Rp _ _ _ _ (.int (nI _) :: .int (nI _) :: _) _ _); refine Rp.icmp_geN (tgt := 44) dX10_takeRings_7 (by decide) (by omega) (fun c7 => ?_) (fun c7 => ?_)) | refine Rp.icmp_ge (tgt := 44) dX10_takeRings_7 (by decide) (fun c7 => ?_) (fun c7 => ?_)
    · skip
      exact k1
    · skip
      first | (exfalso; omega) | exact absurd c7 (by decide) | exact absurd (by decide) c7
  | succ m ih =>
    intro p g hm T h61 h60
    obtain ⟨S, R, J, H, a59, a62, a58, F⟩ := id T
    have m3 : gI g 1 0 = nI np := H.2.1
    have el : gI g 59 p = b2i (lf p) := a59 p (by omega)
    have nx : ∀ (g1 : AH) (x : Bool), TrS h0 g1 K fl np nt nd nl lf gt (n + rgN f lf (p + 1)) → (∀ q, q < np → lf q = true → gI g1 61 q = nI (f q)) → (∀ q, q < p → gI g1 60 q = b2i (lf q && onR f q)) → x = (lf p && onR f p) → Rp (d + 3) M_X10_takeRings 2 [some (.ref 58), some (.ref 1), some (.int (nI (p + 1)))] [] (sI g1 60 p (b2i x)) P := by
      intro g1 x T1 j61 j60 hx
      refine ih (p + 1) (sI g1 60 p (b2i x)) (by omega) (T1.put (by decide) (by decide) (fun q hq => (gI_ne _ _ _ _ (by decide)).trans (T1.2.2.2.2.1 q hq)) (fun q hq => (gI_ne _ _ _ _ (by decide)).trans (T1.2.2.2.2.2.1 q hq)) ((gI_ne _ _ _ _ (by decide)).trans T1.2.2.2.2.2.2.1)) (fun q hq hl => (gI_ne _ _ _ _ (by decide)).trans (j61 q hq hl)) (fun q hq => ?_)
      rw [gI_at]
      by_cases z : q = p
      · rw [if_pos z, z, hx]
      · rw [if_neg z]; exact j60 q (by omega)
    cases cl : lf p
    · rw [cl] at el
      have k1 := nx g false (by rw [rgN, if_neg (fun z => by rw [cl] at z; cases z.1), Nat.add_zero]; exact T) h61 h60 (by rw [cl]; rfl)
      rw [← b2i_and1 false] at k1
      refine Rp.iload_n dX10_takeRings_2 rfl ?_
      refine Rp.aload_n dX10_takeRings_3 rfl rfl ?_
      refine Rp.getI dX10_takeRings_4 fk_X10_50 rfl (S _ _ rfl) ?_
      first | rw [m3] | rw [el] | skip
      first | ((with_reducible show Rp _ _ _ _ (.int (nI _) :: .int (nI _) :: _) _ _); refine Rp.icmp_geN (tgt := 44) dX10_takeRings_7 (by decide) (by omega) (fun c7 => ?_) (fun c7 => ?_)) | refine Rp.icmp_ge (tgt := 44) dX10_takeRings_7 (by decide) (fun c7 => ?_) (fun c7 => ?_)
      · skip
        first | (exfalso; omega) | exact absurd c7 (by decide) | exact absurd (by decide) c7
      · skip
        refine Rp.aload_n dX10_takeRings_10 rfl rfl ?_
        refine Rp.getR dX10_takeRings_11 fk_X10_15 rfl (S _ _ rfl) (R _ _ _ rfl) ?_
        refine Rp.iload_n dX10_takeRings_14 rfl ?_
        refine Rp.aload_n dX10_takeRings_15 rfl rfl ?_
        refine Rp.getR dX10_takeRings_16 fk_X10_9 rfl (S _ _ rfl) (R _ _ _ rfl) ?_
        refine Rp.iload_n dX10_takeRings_19 rfl ?_
        first | ((with_reducible show Rp _ _ _ _ (.int (nI _) :: _) _ _); refine Rp.zaloadN dX10_takeRings_20 (S _ _ rfl) (by omega) ?_) | refine Rp.zaload dX10_takeRings_20 (S _ _ rfl) (by first | assumption | exact vpb (by decide)) ?_
        first | rw [m3] | rw [el] | skip
        first | ((with_reducible show Rp _ _ _ _ (.int (b2i _) :: _) _ _); refine Rp.if_eqB (tgt := 36) dX10_takeRings_21 (by decide) (fun c21 => ?_) (fun c21 => ?_)) | ((with_reducible show Rp _ _ _ _ (.int (nI _) :: _) _ _); refine Rp.if_eqN (tgt := 36) dX10_takeRings_21 (by decide) (by omega) (fun c21 => ?_) (fun c21 => ?_)) | refine Rp.if_eq (tgt := 36) dX10_takeRings_21 (by decide) (fun c21 => ?_) (fun c21 => ?_)
        · skip
          refine Rp.iconst (nI 0) dX10_takeRings_36 (by decide) ?_
          first | ((with_reducible show Rp _ _ _ _ (_ :: .int (nI _) :: _) _ _); refine Rp.zastoreN dX10_takeRings_37 (S _ _ rfl) (by omega) ?_) | refine Rp.zastore dX10_takeRings_37 (S _ _ rfl) (by first | assumption | exact vpb (by decide)) ?_
          first | ((with_reducible show Rp _ _ _ (_ :: _ :: some (.int (nI _)) :: _) _ _ _); refine Rp.inc2N (c := 1) dX10_takeRings_38 (by first | exact nl2_some rfl | exact nl2_none) (by decide) ?_) | refine Rp.inc2 _ dX10_takeRings_38 rfl (by first | exact nl2_some rfl | exact nl2_none) (by decide) ?_
          refine Rp.goto (tgt := 2) dX10_takeRings_41 (by decide) ?_
          exact k1
        · skip
          cases c21
    · rw [cl] at el
      have ir := t_isInRing (d + 1) (lf := lf) (f := f) (p := p) S R (fun q hq => ⟨by have := hln q hq; omega, hcl q hq, h61 q (hln q hq) hq⟩) cl a58
      refine Rp.iload_n dX10_takeRings_2 rfl ?_
      refine Rp.aload_n dX10_takeRings_3 rfl rfl ?_
      refine Rp.getI dX10_takeRings_4 fk_X10_50 rfl (S _ _ rfl) ?_
      first | rw [m3] | rw [el] | skip
      first | ((with_reducible show Rp _ _ _ _ (.int (nI _) :: .int (nI _) :: _) _ _); refine Rp.icmp_geN (tgt := 44) dX10_takeRings_7 (by decide) (by omega) (fun c7 => ?_) (fun c7 => ?_)) | refine Rp.icmp_ge (tgt := 44) dX10_takeRings_7 (by decide) (fun c7 => ?_) (fun c7 => ?_)
      · first | (exfalso; omega) | exact absurd c7 (by decide) | exact absurd (by decide) c7
      refine Rp.aload_n dX10_takeRings_10 rfl rfl ?_
      refine Rp.getR dX10_takeRings_11 fk_X10_15 rfl (S _ _ rfl) (R _ _ _ rfl) ?_
      refine Rp.iload_n dX10_takeRings_14 rfl ?_
      refine Rp.aload_n dX10_takeRings_15 rfl rfl ?_
      refine Rp.getR dX10_takeRings_16 fk_X10_9 rfl (S _ _ rfl) (R _ _ _ rfl) ?_
      refine Rp.iload_n dX10_takeRings_19 rfl ?_
      first | ((with_reducible show Rp _ _ _ _ (.int (nI _) :: _) _ _); refine Rp.zaloadN dX10_takeRings_20 (S _ _ rfl) (by omega) ?_) | refine Rp.zaload dX10_takeRings_20 (S _ _ rfl) (by first | assumption | exact vpb (by decide)) ?_
      first | rw [m3] | rw [el] | skip
      first | ((with_reducible show Rp _ _ _ _ (.int (b2i _) :: _) _ _); refine Rp.if_eqB (tgt := 36) dX10_takeRings_21 (by decide) (fun c21 => ?_) (fun c21 => ?_)) | ((with_reducible show Rp _ _ _ _ (.int (nI _) :: _) _ _); refine Rp.if_eqN (tgt := 36) dX10_takeRings_21 (by decide) (by omega) (fun c21 => ?_) (fun c21 => ?_)) | refine Rp.if_eq (tgt := 36) dX10_takeRings_21 (by decide) (fun c21 => ?_) (fun c21 => ?_)
      · cases c21
      refine Rp.aload_n dX10_takeRings_24 rfl rfl ?_
      refine Rp.iload_n dX10_takeRings_25 rfl ?_
      refine Rp.callV1 M_X10_isInRing (ci := 10) dX10_takeRings_26 mo_X10_isInRing lk_X10_78 (by decide) rfl rfl (S _ _ rfl) (Nat.le_of_ble_eq_true rfl) (Nat.le_of_ble_eq_true rfl) (ir) (fun v1 h1 p1 x1 => ?_)
      obtain ⟨rfl, e1⟩ := p1
      try dsimp only [Option.toList, List.cons_append, List.nil_append, List.append]
      skip
      have T1 : TrS h0 h1 K fl np nt nd nl lf gt (n + rgN f lf (p + 1)) ∧ (∀ q, gI h1 61 q = gI g 61 q) ∧ (∀ q, gI h1 60 q = gI g 60 q) := by
        rw [e1, rgN]
        by_cases c2 : onR f p = true ∧ loR f p = p
        · rw [if_pos c2, if_pos ⟨cl, c2⟩]
          exact ⟨T.put (by decide) (by decide) (fun q hq => (gI_ne _ _ _ _ (by decide)).trans (a59 q hq)) (fun q hq => (gI_ne _ _ _ _ (by decide)).trans (a62 q hq)) (gI_hit _ _ _ _), fun q => gI_ne _ _ _ _ (by decide), fun q => gI_ne _ _ _ _ (by decide)⟩
        · rw [if_neg c2, if_neg (fun z => c2 z.2), Nat.add_zero]
          exact ⟨T, fun q => rfl, fun q => rfl⟩
      obtain ⟨T1, q61, q60⟩ := T1
      have S1 := T1.1
      have R1 := T1.2.1
      have k0 := fun x hx => nx h1 x T1 (fun q hq hl => (q61 q).trans (h61 q hq hl)) (fun q hq => (q60 q).trans (h60 q hq)) hx
      cases co : onR f p
      · have k1 := k0 false (by rw [cl, co]; rfl)
        rw [← b2i_and1 false] at k1
        first | ((with_reducible show Rp _ _ _ _ (.int (b2i _) :: _) _ _); refine Rp.if_eqB (tgt := 36) dX10_takeRings_29 (by decide) (fun c29 => ?_) (fun c29 => ?_)) | ((with_reducible show Rp _ _ _ _ (.int (nI _) :: _) _ _); refine Rp.if_eqN (tgt := 36) dX10_takeRings_29 (by decide) (by omega) (fun c29 => ?_) (fun c29 => ?_)) | refine Rp.if_eq (tgt := 36) dX10_takeRings_29 (by decide) (fun c29 => ?_) (fun c29 => ?_)
        · skip
          refine Rp.iconst (nI 0) dX10_takeRings_36 (by decide) ?_
          first | ((with_reducible show Rp _ _ _ _ (_ :: .int (nI _) :: _) _ _); refine Rp.zastoreN dX10_takeRings_37 (S1 _ _ rfl) (by omega) ?_) | refine Rp.zastore dX10_takeRings_37 (S1 _ _ rfl) (by first | assumption | exact vpb (by decide)) ?_
          first | ((with_reducible show Rp _ _ _ (_ :: _ :: some (.int (nI _)) :: _) _ _ _); refine Rp.inc2N (c := 1) dX10_takeRings_38 (by first | exact nl2_some rfl | exact nl2_none) (by decide) ?_) | refine Rp.inc2 _ dX10_takeRings_38 rfl (by first | exact nl2_some rfl | exact nl2_none) (by decide) ?_
          refine Rp.goto (tgt := 2) dX10_takeRings_41 (by decide) ?_
          exact k1
        · skip
          cases c29
      · have k1 := k0 true (by rw [cl, co]; rfl)
        rw [← b2i_and1 true] at k1
        first | ((with_reducible show Rp _ _ _ _ (.int (b2i _) :: _) _ _); refine Rp.if_eqB (tgt := 36) dX10_takeRings_29 (by decide) (fun c29 => ?_) (fun c29 => ?_)) | ((with_reducible show Rp _ _ _ _ (.int (nI _) :: _) _ _); refine Rp.if_eqN (tgt := 36) dX10_takeRings_29 (by decide) (by omega) (fun c29 => ?_) (fun c29 => ?_)) | refine Rp.if_eq (tgt := 36) dX10_takeRings_29 (by decide) (fun c29 => ?_) (fun c29 => ?_)
        · skip
          cases c29
        · skip
          refine Rp.iconst (nI 1) dX10_takeRings_32 (by decide) ?_
          refine Rp.goto (tgt := 37) dX10_takeRings_33 (by decide) ?_
          first | ((with_reducible show Rp _ _ _ _ (_ :: .int (nI _) :: _) _ _); refine Rp.zastoreN dX10_takeRings_37 (S1 _ _ rfl) (by omega) ?_) | refine Rp.zastore dX10_takeRings_37 (S1 _ _ rfl) (by first | assumption | exact vpb (by decide)) ?_
          first | ((with_reducible show Rp _ _ _ (_ :: _ :: some (.int (nI _)) :: _) _ _ _); refine Rp.inc2N (c := 1) dX10_takeRings_38 (by first | exact nl2_some rfl | exact nl2_none) (by decide) ?_) | refine Rp.inc2 _ dX10_takeRings_38 rfl (by first | exact nl2_some rfl | exact nl2_none) (by decide) ?_
          refine Rp.goto (tgt := 2) dX10_takeRings_41 (by decide) ?_
          exact k1
theorem rings46 (h6 : np ≤ 6) (hln : ∀ q, lf q = true → q < np) (hcl : ∀ q, lf q = true → lf (f q) = true) {n' : Nat} : ∀ (m p : Nat) (g : AH), p + m = np → TrS h0 g K fl np nt nd nl (lfP lf f p) (gtP K gt lf f p) n' → (∀ q, q < np → lf q = true → gI g 61 q = nI (f q)) → (∀ q, q < np → gI g 60 q = b2i (lf q && onR f q)) → Rp (d + 3) M_X10_takeRings 46 [some (.ref 58), some (.ref 1), some (.int (nI p))] [] g (fun r h' => r = none ∧ TrS h0 h' K fl np nt nd nl (fun q => lf q && !onR f q) (fun q => if lf q = true ∧ onR f q = true then K (f q) else gt q) n') := by
  intro m
  induction m with
  | zero =>
    intro p g hm T h61 h60
    have e : p = np := by omega
    subst e
    have m3 : gI g 1 0 = nI p := T.2.2.2.1.2.1
    have S := T.1
    rw [lfP_end hln, gtP_end hln] at T
    refine Rp.iload_n dX10_takeRings_46 rfl ?_
    refine Rp.aload_n dX10_takeRings_47 rfl rfl ?_
    refine Rp.getI dX10_takeRings_48 fk_X10_50 rfl (S _ _ rfl) ?_
    first | rw [m3] | skip
    first | ((with_reducible show Rp _ _ _ _ (.int (nI _) :: .int (nI _) :: _) _ _); refine Rp.icmp_geN (tgt := 93) dX10_takeRings_51 (by decide) (by omega) (fun c51 => ?_) (fun c51 => ?_)) | refine Rp.icmp_ge (tgt := 93) dX10_takeRings_51 (by decide) (fun c51 => ?_) (fun c51 => ?_)
    · skip
      refine Rp.vreturn dX10_takeRings_93 rfl ?_
      exact ⟨rfl, T⟩
    · skip
      first | (exfalso; omega) | exact absurd c51 (by decide) | exact absurd (by decide) c51
  | succ m ih =>
    intro p g hm T h61 h60
    obtain ⟨S, R, J, H, a59, a62, a58, F⟩ := id T
    have m3 : gI g 1 0 = nI np := H.2.1
    have el : gI g 60 p = b2i (lf p && onR f p) := h60 p (by omega)
    cases cl : (lf p && onR f p)
    · rw [cl] at el
      have k1 := ih (p + 1) g (by omega) (by rw [lfP_no cl, gtP_no cl]; exact T) h61 h60
      refine Rp.iload_n dX10_takeRings_46 rfl ?_
      refine Rp.aload_n dX10_takeRings_47 rfl rfl ?_
      refine Rp.getI dX10_takeRings_48 fk_X10_50 rfl (S _ _ rfl) ?_
      first | rw [m3] | rw [el] | skip
      first | ((with_reducible show Rp _ _ _ _ (.int (nI _) :: .int (nI _) :: _) _ _); refine Rp.icmp_geN (tgt := 93) dX10_takeRings_51 (by decide) (by omega) (fun c51 => ?_) (fun c51 => ?_)) | refine Rp.icmp_ge (tgt := 93) dX10_takeRings_51 (by decide) (fun c51 => ?_) (fun c51 => ?_)
      · skip
        first | (exfalso; omega) | exact absurd c51 (by decide) | exact absurd (by decide) c51
      · skip
        refine Rp.aload_n dX10_takeRings_54 rfl rfl ?_
        refine Rp.getR dX10_takeRings_55 fk_X10_15 rfl (S _ _ rfl) (R _ _ _ rfl) ?_
        refine Rp.iload_n dX10_takeRings_58 rfl ?_
        first | ((with_reducible show Rp _ _ _ _ (.int (nI _) :: _) _ _); refine Rp.zaloadN dX10_takeRings_59 (S _ _ rfl) (by omega) ?_) | refine Rp.zaload dX10_takeRings_59 (S _ _ rfl) (by first | assumption | exact vpb (by decide)) ?_
        first | rw [m3] | rw [el] | skip
        first | ((with_reducible show Rp _ _ _ _ (.int (b2i _) :: _) _ _); refine Rp.if_eqB (tgt := 87) dX10_takeRings_60 (by decide) (fun c60 => ?_) (fun c60 => ?_)) | ((with_reducible show Rp _ _ _ _ (.int (nI _) :: _) _ _); refine Rp.if_eqN (tgt := 87) dX10_takeRings_60 (by decide) (by omega) (fun c60 => ?_) (fun c60 => ?_)) | refine Rp.if_eq (tgt := 87) dX10_takeRings_60 (by decide) (fun c60 => ?_) (fun c60 => ?_)
        · skip
          first | ((with_reducible show Rp _ _ _ (_ :: _ :: some (.int (nI _)) :: _) _ _ _); refine Rp.inc2N (c := 1) dX10_takeRings_87 (by first | exact nl2_some rfl | exact nl2_none) (by decide) ?_) | refine Rp.inc2 _ dX10_takeRings_87 rfl (by first | exact nl2_some rfl | exact nl2_none) (by decide) ?_
          refine Rp.goto (tgt := 46) dX10_takeRings_90 (by decide) ?_
          exact k1
        · skip
          cases c60
    · rw [cl] at el
      have cl2 := cl
      rw [Bool.and_eq_true] at cl2
      have fp := hln _ (hcl p cl2.1)
      have e61 : gI g 61 p = nI (f p) := h61 p (by omega) cl2.1
      have e4 : gI g 4 (f p) = K (f p) := H.2.2.2.2.2.2.2.2.2.1 (f p) (by omega)
      have S1 : ShOK (sI g 62 p (K (f p))) := S
      have R1 : RfOK (sI g 62 p (K (f p))) := R.put _ _ _
      have Ta : TrS h0 (sI g 62 p (K (f p))) K fl np nt nd nl (lfP lf f p) (gtP K gt lf f (p + 1)) n' := T.put (by decide) (by decide) (fun q hq => (gI_ne _ _ _ _ (by decide)).trans (a59 q hq)) (fun q hq => by
        rw [gI_at, gtP_yes cl2]
        show _ = if q = p then K (f p) else gtP K gt lf f p q
        by_cases z : q = p
        · rw [if_pos z, if_pos z]
        · rw [if_neg z, if_neg z]; exact a62 q hq) ((gI_ne _ _ _ _ (by decide)).trans a58)
      have T1 : TrS h0 (sI (sI g 62 p (K (f p))) 59 p (b2i false)) K fl np nt nd nl (lfP lf f (p + 1)) (gtP K gt lf f (p + 1)) n' := Ta.put (by decide) (by decide) (fun q hq => by
        rw [gI_at, lfP_yes cl2]
        show _ = b2i (if q = p then false else lfP lf f p q)
        by_cases z : q = p
        · rw [if_pos z, if_pos z]
        · rw [if_neg z, if_neg z]; exact (gI_ne _ _ _ _ (by decide)).trans (a59 q hq) ) (fun q hq => (gI_ne _ _ _ _ (by decide)).trans (Ta.2.2.2.2.2.1 q hq)) ((gI_ne _ _ _ _ (by decide)).trans Ta.2.2.2.2.2.2.1)
      have k1 := ih (p + 1) _ (by omega) T1 (fun q hq hl => (gI_ne _ _ _ _ (by decide)).trans ((gI_ne _ _ _ _ (by decide)).trans (h61 q hq hl))) (fun q hq => (gI_ne _ _ _ _ (by decide)).trans ((gI_ne _ _ _ _ (by decide)).trans (h60 q hq)))
      rw [← b2i_and1 false] at k1
      refine Rp.iload_n dX10_takeRings_46 rfl ?_
      refine Rp.aload_n dX10_takeRings_47 rfl rfl ?_
      refine Rp.getI dX10_takeRings_48 fk_X10_50 rfl (S _ _ rfl) ?_
      first | rw [m3] | rw [el] | rw [e61] | rw [e4] | skip
      first | ((with_reducible show Rp _ _ _ _ (.int (nI _) :: .int (nI _) :: _) _ _); refine Rp.icmp_geN (tgt := 93) dX10_takeRings_51 (by decide) (by omega) (fun c51 => ?_) (fun c51 => ?_)) | refine Rp.icmp_ge (tgt := 93) dX10_takeRings_51 (by decide) (fun c51 => ?_) (fun c51 => ?_)
      · skip
        first | (exfalso; omega) | exact absurd c51 (by decide) | exact absurd (by decide) c51
      · skip
        refine Rp.aload_n dX10_takeRings_54 rfl rfl ?_
        refine Rp.getR dX10_takeRings_55 fk_X10_15 rfl (S _ _ rfl) (R _ _ _ rfl) ?_
        refine Rp.iload_n dX10_takeRings_58 rfl ?_
        first | ((with_reducible show Rp _ _ _ _ (.int (nI _) :: _) _ _); refine Rp.zaloadN dX10_takeRings_59 (S _ _ rfl) (by omega) ?_) | refine Rp.zaload dX10_takeRings_59 (S _ _ rfl) (by first | assumption | exact vpb (by decide)) ?_
        first | rw [m3] | rw [el] | rw [e61] | rw [e4] | skip
        first | ((with_reducible show Rp _ _ _ _ (.int (b2i _) :: _) _ _); refine Rp.if_eqB (tgt := 87) dX10_takeRings_60 (by decide) (fun c60 => ?_) (fun c60 => ?_)) | ((with_reducible show Rp _ _ _ _ (.int (nI _) :: _) _ _); refine Rp.if_eqN (tgt := 87) dX10_takeRings_60 (by decide) (by omega) (fun c60 => ?_) (fun c60 => ?_)) | refine Rp.if_eq (tgt := 87) dX10_takeRings_60 (by decide) (fun c60 => ?_) (fun c60 => ?_)
        · skip
          cases c60
        · skip
          refine Rp.aload_n dX10_takeRings_63 rfl rfl ?_
          refine Rp.getR dX10_takeRings_64 fk_X10_22 rfl (S _ _ rfl) (R _ _ _ rfl) ?_
          refine Rp.iload_n dX10_takeRings_67 rfl ?_
          refine Rp.aload_n dX10_takeRings_68 rfl rfl ?_
          refine Rp.getR dX10_takeRings_69 fk_X10_47 rfl (S _ _ rfl) (R _ _ _ rfl) ?_
          refine Rp.aload_n dX10_takeRings_72 rfl rfl ?_
          refine Rp.getR dX10_takeRings_73 fk_X10_18 rfl (S _ _ rfl) (R _ _ _ rfl) ?_
          refine Rp.iload_n dX10_takeRings_76 rfl ?_
          first | ((with_reducible show Rp _ _ _ _ (.int (nI _) :: _) _ _); refine Rp.ialoadN dX10_takeRings_77 (S _ _ rfl) (by omega) ?_) | refine Rp.iaload dX10_takeRings_77 (S _ _ rfl) (by first | assumption | exact vpb (by decide)) ?_
          first | rw [m3] | rw [el] | rw [e61] | rw [e4] | skip
          first | ((with_reducible show Rp _ _ _ _ (.int (nI _) :: _) _ _); refine Rp.ialoadN dX10_takeRings_78 (S _ _ rfl) (by omega) ?_) | refine Rp.iaload dX10_takeRings_78 (S _ _ rfl) (by first | assumption | exact vpb (by decide)) ?_
          first | rw [m3] | rw [el] | rw [e61] | rw [e4] | skip
          first | ((with_reducible show Rp _ _ _ _ (_ :: .int (nI _) :: _) _ _); refine Rp.iastoreN dX10_takeRings_79 (S _ _ rfl) (by omega) ?_) | refine Rp.iastore dX10_takeRings_79 (S _ _ rfl) (by first | assumption | exact vpb (by decide)) ?_
          refine Rp.aload_n dX10_takeRings_80 rfl rfl ?_
          refine Rp.getR dX10_takeRings_81 fk_X10_9 rfl (S1 _ _ rfl) (R1 _ _ _ rfl) ?_
          refine Rp.iload_n dX10_takeRings_84 rfl ?_
          refine Rp.iconst (nI 0) dX10_takeRings_85 (by decide) ?_
          first | ((with_reducible show Rp _ _ _ _ (_ :: .int (nI _) :: _) _ _); refine Rp.zastoreN dX10_takeRings_86 (S1 _ _ rfl) (by omega) ?_) | refine Rp.zastore dX10_takeRings_86 (S1 _ _ rfl) (by first | assumption | exact vpb (by decide)) ?_
          first | ((with_reducible show Rp _ _ _ (_ :: _ :: some (.int (nI _)) :: _) _ _ _); refine Rp.inc2N (c := 1) dX10_takeRings_87 (by first | exact nl2_some rfl | exact nl2_none) (by decide) ?_) | refine Rp.inc2 _ dX10_takeRings_87 rfl (by first | exact nl2_some rfl | exact nl2_none) (by decide) ?_
          refine Rp.goto (tgt := 46) dX10_takeRings_90 (by decide) ?_
          exact k1
end Ct3
