section Ct4
variable (d : Nat) {K : Nat → Int32} {fl : Option (List CLE)} {np nt nd nl : Nat} {h0 : AH}
theorem t_takeRings {lf : Nat → Bool} {gt : Nat → Int32} {n : Nat} {f : Nat → Nat} (h6 : np ≤ 6) (hln : ∀ q, lf q = true → q < np) (hcl : ∀ q, lf q = true → lf (f q) = true) {g : AH} (T : TrS h0 g K fl np nt nd nl lf gt n) (h61 : ∀ q, q < np → lf q = true → gI g 61 q = nI (f q)) : Rp (d + 3) M_X10_takeRings 0 [some (.ref 58), some (.ref 1), none] [] g (fun r h' => r = none ∧ TrS h0 h' K fl np nt nd nl (fun q => lf q && !onR f q) (fun q => if lf q = true ∧ onR f q = true then K (f q) else gt q) (n + rgN f lf np)) := by
  have k2 := rings2 d (h0 := h0) (K := K) (fl := fl) (np := np) (nt := nt) (nd := nd) (nl := nl) (lf := lf) (gt := gt) (n := n) (f := f) (P := fun r h' => r = none ∧ TrS h0 h' K fl np nt nd nl (fun q => lf q && !onR f q) (fun q => if lf q = true ∧ onR f q = true then K (f q) else gt q) (n + rgN f lf np)) h6 hln hcl (fun g1 T1 j61 j60 => by
    have k46 := rings46 d (h0 := h0) (K := K) (fl := fl) (np := np) (nt := nt) (nd := nd) (nl := nl) (lf := lf) (gt := gt) (f := f) (n' := n + rgN f lf np) h6 hln hcl np 0 g1 (by omega) (by rw [lfP_0, gtP_0]; exact T1) j61 j60
    refine Rp.iconst (nI 0) dX10_takeRings_44 (by decide) ?_
    refine Rp.ist2 dX10_takeRings_45 (by first | exact nl2_some rfl | exact nl2_none) (by decide) ?_
    exact k46
    ) np 0 g (by omega) T h61 (fun q hq => absurd hq (Nat.not_lt_zero _))
  refine Rp.iconst (nI 0) dX10_takeRings_0 (by decide) ?_
  refine Rp.ist2 dX10_takeRings_1 (by first | exact nl2_some rfl | exact nl2_none) (by decide) ?_
  exact k2
/-- as trade begins: who holds one is left -/
def TrP (h0 g : AH) (K : Nat → Int32) (fl : Option (List CLE)) (np nt nd nl p : Nat) : Prop := ShOK g ∧ RfOK g ∧ JS g 1 K fl ∧ HA g 1 K np nt nd nl ∧ (∀ q, q < p → gI g 59 q = b2i ((tr0 K np).1 q)) ∧ (∀ q, q < 6 → gI g 62 q = -1) ∧ gI g 58 4 = nI 0 ∧ Fr trX h0 g
theorem TrP.put {g : AH} {p p' : Nat} (T : TrP h0 g K fl np nt nd nl p) {k j : Nat} {x : Int32} (h1 : 58 ≤ k) (h2 : k ≤ 62) (e59 : ∀ q, q < p' → gI (sI g k j x) 59 q = b2i ((tr0 K np).1 q)) (e62 : ∀ q, q < 6 → gI (sI g k j x) 62 q = -1) (e58 : gI (sI g k j x) 58 4 = nI 0) : TrP h0 (sI g k j x) K fl np nt nd nl p' := by
  obtain ⟨S, R, J, H, a59, a62, a58, F⟩ := T
  have F1 : Fr t5X g (sI g k j x) := Fr.rfl'.sI (t5X_y h1 h2)
  exact ⟨S, R.put _ _ _, J.fg F1 (fun j => t5X_n (by decide)) (fun j => t5X_n (by decide)) (fun j => t5X_n (by decide)) (fun k j hk => t5X_n (by omega)) (fun k j o => t5X_n (by unfold okT at o; omega)), H.fr F1 (fun o j ho => t5X_n (by omega)) (t5X_n (by decide)), e59, e62, e58, F.trans (trX_t F1)⟩
theorem settle20 (h6 : np ≤ 6) {P : Option Value → AH → Prop} (kk : ∀ g, TrP h0 g K fl np nt nd nl 6 → Rp (d + 5) M_X10_settle 68 [some (.ref 58), some (.ref 40), some (.ref 1), some (.int (nI 6))] [] g P) : ∀ (m p : Nat) (g : AH), p + m = 6 → TrP h0 g K fl np nt nd nl p → Rp (d + 5) M_X10_settle 20 [some (.ref 58), some (.ref 40), some (.ref 1), some (.int (nI p))] [] g P := by
  intro m
  induction m with
  | zero =>
    intro p g hm T
    have e : p = 6 := by omega
    subst e
    have k1 := kk g T
    refine Rp.iload_n dX10_settle_20 rfl ?_
    refine Rp.bipush (nI 6) dX10_settle_21 (by decide) ?_
    first | ((with_reducible show Rp _ _ _ _ (.int (nI _) :: .int (nI _) :: _) _ _); refine Rp.icmp_geN (tgt := 68) dX10_settle_23 (by decide) (by omega) (fun c23 => ?_) (fun c23 => ?_)) | refine Rp.icmp_ge (tgt := 68) dX10_settle_23 (by decide) (fun c23 => ?_) (fun c23 => ?_)
    · skip
      exact k1
    · skip
      first | (exfalso; omega) | exact absurd c23 (by decide) | exact absurd (by decide) c23
  | succ m ih =>
    intro p g hm T
    obtain ⟨S, R, J, H, a59, a62, a58, F⟩ := id T
    have e4 : gI g 4 p = K p := H.2.2.2.2.2.2.2.2.2.1 p (by omega)
    have ip := t_isPerson (d + 4) (k := 1) (S _ _ rfl) (nI p) h6 H.2.1
    have nx : ∀ x : Bool, x = (tr0 K np).1 p → Rp (d + 5) M_X10_settle 20 [some (.ref 58), some (.ref 40), some (.ref 1), some (.int (nI (p + 1)))] [] (sI (sI g 59 p (b2i x)) 60 p (b2i false)) P := by
      intro x hx
      have T1 : TrP h0 (sI g 59 p (b2i x)) K fl np nt nd nl (p + 1) := T.put (by decide) (by decide) (fun q hq => by
        rw [gI_at]
        by_cases z : q = p
        · rw [if_pos z, z, hx]
        · rw [if_neg z]; exact a59 q (by omega)) (fun q hq => (gI_ne _ _ _ _ (by decide)).trans (a62 q hq)) ((gI_ne _ _ _ _ (by decide)).trans a58)
      exact ih (p + 1) _ (by omega) (T1.put (by decide) (by decide) (fun q hq => (gI_ne _ _ _ _ (by decide)).trans (T1.2.2.2.2.1 q hq)) (fun q hq => (gI_ne _ _ _ _ (by decide)).trans (T1.2.2.2.2.2.1 q hq)) ((gI_ne _ _ _ _ (by decide)).trans T1.2.2.2.2.2.2.1))
    have Sx : ∀ x, ShOK (sI g 59 p x) := fun x => S
    have Rx : ∀ x, RfOK (sI g 59 p x) := fun x => R.put _ _ _
    by_cases c : p < np
    · rw [show inN (nI p) np = true from (inN_iff (by omega)).2 ⟨p, c, rfl⟩] at ip
      by_cases c2 : K p = -1
      · have k1 := nx false (by show false = (decide (p < np) && decide (K p ≠ -1)); rw [decide_eq_false (p := K p ≠ -1) (fun z => z c2), Bool.and_false])
        rw [← b2i_and1 false] at k1
        refine Rp.iload_n dX10_settle_20 rfl ?_
        refine Rp.bipush (nI 6) dX10_settle_21 (by decide) ?_
        first | ((with_reducible show Rp _ _ _ _ (.int (nI _) :: .int (nI _) :: _) _ _); refine Rp.icmp_geN (tgt := 68) dX10_settle_23 (by decide) (by omega) (fun c23 => ?_) (fun c23 => ?_)) | refine Rp.icmp_ge (tgt := 68) dX10_settle_23 (by decide) (fun c23 => ?_) (fun c23 => ?_)
        · skip
          first | (exfalso; omega) | exact absurd c23 (by decide) | exact absurd (by decide) c23
        · skip
          refine Rp.aload_n dX10_settle_26 rfl rfl ?_
          refine Rp.getR dX10_settle_27 fk_X10_9 rfl (S _ _ rfl) (R _ _ _ rfl) ?_
          refine Rp.iload_n dX10_settle_30 rfl ?_
          refine Rp.aload_n dX10_settle_31 rfl rfl ?_
          refine Rp.iload_n dX10_settle_32 rfl ?_
          refine Rp.callV1 M_X2_isPerson (ci := 2) dX10_settle_33 mo_X2_isPerson lk_X10_41 (by decide) rfl rfl (S _ _ rfl) (Nat.le_of_ble_eq_true rfl) (Nat.le_of_ble_eq_true rfl) (ip) (fun v1 h1 p1 x1 => ?_)
          rw [p1.1, p1.2]
          try dsimp only [Option.toList, List.cons_append, List.nil_append, List.append]
          first | ((with_reducible show Rp _ _ _ _ (.int (b2i _) :: _) _ _); refine Rp.if_eqB (tgt := 53) dX10_settle_36 (by decide) (fun c36 => ?_) (fun c36 => ?_)) | ((with_reducible show Rp _ _ _ _ (.int (nI _) :: _) _ _); refine Rp.if_eqN (tgt := 53) dX10_settle_36 (by decide) (by omega) (fun c36 => ?_) (fun c36 => ?_)) | refine Rp.if_eq (tgt := 53) dX10_settle_36 (by decide) (fun c36 => ?_) (fun c36 => ?_)
          · skip
            cases c36
          · skip
            refine Rp.aload_n dX10_settle_39 rfl rfl ?_
            refine Rp.getR dX10_settle_40 fk_X10_47 rfl (S _ _ rfl) (R _ _ _ rfl) ?_
            refine Rp.iload_n dX10_settle_43 rfl ?_
            first | ((with_reducible show Rp _ _ _ _ (.int (nI _) :: _) _ _); refine Rp.ialoadN dX10_settle_44 (S _ _ rfl) (by omega) ?_) | refine Rp.iaload dX10_settle_44 (S _ _ rfl) (by first | assumption | exact vpb (by decide)) ?_
            first | rw [e4] | skip
            refine Rp.iconst (-1) dX10_settle_45 (by decide) ?_
            first | ((with_reducible show Rp _ _ _ _ (.int (nI _) :: .int (nI _) :: _) _ _); refine Rp.icmp_eqN (tgt := 53) dX10_settle_46 (by decide) (by omega) (fun c46 => ?_) (fun c46 => ?_)) | refine Rp.icmp_eq (tgt := 53) dX10_settle_46 (by decide) (fun c46 => ?_) (fun c46 => ?_)
            · skip
              refine Rp.iconst (nI 0) dX10_settle_53 (by decide) ?_
              first | ((with_reducible show Rp _ _ _ _ (_ :: .int (nI _) :: _) _ _); refine Rp.zastoreN dX10_settle_54 (S _ _ rfl) (by omega) ?_) | refine Rp.zastore dX10_settle_54 (S _ _ rfl) (by first | assumption | exact vpb (by decide)) ?_
              refine Rp.aload_n dX10_settle_55 rfl rfl ?_
              refine Rp.getR dX10_settle_56 fk_X10_15 rfl (Sx _ _ _ rfl) (Rx _ _ _ _ rfl) ?_
              refine Rp.iload_n dX10_settle_59 rfl ?_
              refine Rp.iconst (nI 0) dX10_settle_60 (by decide) ?_
              first | ((with_reducible show Rp _ _ _ _ (_ :: .int (nI _) :: _) _ _); refine Rp.zastoreN dX10_settle_61 (Sx _ _ _ rfl) (by omega) ?_) | refine Rp.zastore dX10_settle_61 (Sx _ _ _ rfl) (by first | assumption | exact vpb (by decide)) ?_
              first | ((with_reducible show Rp _ _ _ (_ :: _ :: _ :: some (.int (nI _)) :: _) _ _ _); refine Rp.inc3N (c := 1) dX10_settle_62 (by first | exact nl2_some rfl | exact nl2_none) (by decide) ?_) | refine Rp.inc3 _ dX10_settle_62 rfl (by first | exact nl2_some rfl | exact nl2_none) (by decide) ?_
              refine Rp.goto (tgt := 20) dX10_settle_65 (by decide) ?_
              exact k1
            · skip
              exact absurd c2 c46
      · have k1 := nx true (by show true = (decide (p < np) && decide (K p ≠ -1)); rw [decide_eq_true c, decide_eq_true c2]; rfl)
        rw [← b2i_and1 true, ← b2i_and1 false] at k1
        refine Rp.iload_n dX10_settle_20 rfl ?_
        refine Rp.bipush (nI 6) dX10_settle_21 (by decide) ?_
        first | ((with_reducible show Rp _ _ _ _ (.int (nI _) :: .int (nI _) :: _) _ _); refine Rp.icmp_geN (tgt := 68) dX10_settle_23 (by decide) (by omega) (fun c23 => ?_) (fun c23 => ?_)) | refine Rp.icmp_ge (tgt := 68) dX10_settle_23 (by decide) (fun c23 => ?_) (fun c23 => ?_)
        · skip
          first | (exfalso; omega) | exact absurd c23 (by decide) | exact absurd (by decide) c23
        · skip
          refine Rp.aload_n dX10_settle_26 rfl rfl ?_
          refine Rp.getR dX10_settle_27 fk_X10_9 rfl (S _ _ rfl) (R _ _ _ rfl) ?_
          refine Rp.iload_n dX10_settle_30 rfl ?_
          refine Rp.aload_n dX10_settle_31 rfl rfl ?_
          refine Rp.iload_n dX10_settle_32 rfl ?_
          refine Rp.callV1 M_X2_isPerson (ci := 2) dX10_settle_33 mo_X2_isPerson lk_X10_41 (by decide) rfl rfl (S _ _ rfl) (Nat.le_of_ble_eq_true rfl) (Nat.le_of_ble_eq_true rfl) (ip) (fun v1 h1 p1 x1 => ?_)
          rw [p1.1, p1.2]
          try dsimp only [Option.toList, List.cons_append, List.nil_append, List.append]
          first | ((with_reducible show Rp _ _ _ _ (.int (b2i _) :: _) _ _); refine Rp.if_eqB (tgt := 53) dX10_settle_36 (by decide) (fun c36 => ?_) (fun c36 => ?_)) | ((with_reducible show Rp _ _ _ _ (.int (nI _) :: _) _ _); refine Rp.if_eqN (tgt := 53) dX10_settle_36 (by decide) (by omega) (fun c36 => ?_) (fun c36 => ?_)) | refine Rp.if_eq (tgt := 53) dX10_settle_36 (by decide) (fun c36 => ?_) (fun c36 => ?_)
          · skip
            cases c36
          · skip
            refine Rp.aload_n dX10_settle_39 rfl rfl ?_
            refine Rp.getR dX10_settle_40 fk_X10_47 rfl (S _ _ rfl) (R _ _ _ rfl) ?_
            refine Rp.iload_n dX10_settle_43 rfl ?_
            first | ((with_reducible show Rp _ _ _ _ (.int (nI _) :: _) _ _); refine Rp.ialoadN dX10_settle_44 (S _ _ rfl) (by omega) ?_) | refine Rp.iaload dX10_settle_44 (S _ _ rfl) (by first | assumption | exact vpb (by decide)) ?_
            first | rw [e4] | skip
            refine Rp.iconst (-1) dX10_settle_45 (by decide) ?_
            first | ((with_reducible show Rp _ _ _ _ (.int (nI _) :: .int (nI _) :: _) _ _); refine Rp.icmp_eqN (tgt := 53) dX10_settle_46 (by decide) (by omega) (fun c46 => ?_) (fun c46 => ?_)) | refine Rp.icmp_eq (tgt := 53) dX10_settle_46 (by decide) (fun c46 => ?_) (fun c46 => ?_)
            · skip
              exact absurd c46 c2
            · skip
              refine Rp.iconst (nI 1) dX10_settle_49 (by decide) ?_
              refine Rp.goto (tgt := 54) dX10_settle_50 (by decide) ?_
              first | ((with_reducible show Rp _ _ _ _ (_ :: .int (nI _) :: _) _ _); refine Rp.zastoreN dX10_settle_54 (S _ _ rfl) (by omega) ?_) | refine Rp.zastore dX10_settle_54 (S _ _ rfl) (by first | assumption | exact vpb (by decide)) ?_
              refine Rp.aload_n dX10_settle_55 rfl rfl ?_
              refine Rp.getR dX10_settle_56 fk_X10_15 rfl (Sx _ _ _ rfl) (Rx _ _ _ _ rfl) ?_
              refine Rp.iload_n dX10_settle_59 rfl ?_
              refine Rp.iconst (nI 0) dX10_settle_60 (by decide) ?_
              first | ((with_reducible show Rp _ _ _ _ (_ :: .int (nI _) :: _) _ _); refine Rp.zastoreN dX10_settle_61 (Sx _ _ _ rfl) (by omega) ?_) | refine Rp.zastore dX10_settle_61 (Sx _ _ _ rfl) (by first | assumption | exact vpb (by decide)) ?_
              first | ((with_reducible show Rp _ _ _ (_ :: _ :: _ :: some (.int (nI _)) :: _) _ _ _); refine Rp.inc3N (c := 1) dX10_settle_62 (by first | exact nl2_some rfl | exact nl2_none) (by decide) ?_) | refine Rp.inc3 _ dX10_settle_62 rfl (by first | exact nl2_some rfl | exact nl2_none) (by decide) ?_
              refine Rp.goto (tgt := 20) dX10_settle_65 (by decide) ?_
              exact k1
    · rw [show inN (nI p) np = false from Bool.eq_false_iff.2 (fun z => by obtain ⟨q, hq, e⟩ := (inN_iff (by omega)).1 z; have := nI_inj (by omega) (by omega) e; omega)] at ip
      have k1 := nx false (by show false = (decide (p < np) && decide (K p ≠ -1)); rw [decide_eq_false c]; rfl)
      rw [← b2i_and1 false] at k1
      refine Rp.iload_n dX10_settle_20 rfl ?_
      refine Rp.bipush (nI 6) dX10_settle_21 (by decide) ?_
      first | ((with_reducible show Rp _ _ _ _ (.int (nI _) :: .int (nI _) :: _) _ _); refine Rp.icmp_geN (tgt := 68) dX10_settle_23 (by decide) (by omega) (fun c23 => ?_) (fun c23 => ?_)) | refine Rp.icmp_ge (tgt := 68) dX10_settle_23 (by decide) (fun c23 => ?_) (fun c23 => ?_)
      · skip
        first | (exfalso; omega) | exact absurd c23 (by decide) | exact absurd (by decide) c23
      · skip
        refine Rp.aload_n dX10_settle_26 rfl rfl ?_
        refine Rp.getR dX10_settle_27 fk_X10_9 rfl (S _ _ rfl) (R _ _ _ rfl) ?_
        refine Rp.iload_n dX10_settle_30 rfl ?_
        refine Rp.aload_n dX10_settle_31 rfl rfl ?_
        refine Rp.iload_n dX10_settle_32 rfl ?_
        refine Rp.callV1 M_X2_isPerson (ci := 2) dX10_settle_33 mo_X2_isPerson lk_X10_41 (by decide) rfl rfl (S _ _ rfl) (Nat.le_of_ble_eq_true rfl) (Nat.le_of_ble_eq_true rfl) (ip) (fun v1 h1 p1 x1 => ?_)
        rw [p1.1, p1.2]
        try dsimp only [Option.toList, List.cons_append, List.nil_append, List.append]
        first | ((with_reducible show Rp _ _ _ _ (.int (b2i _) :: _) _ _); refine Rp.if_eqB (tgt := 53) dX10_settle_36 (by decide) (fun c36 => ?_) (fun c36 => ?_)) | ((with_reducible show Rp _ _ _ _ (.int (nI _) :: _) _ _); refine Rp.if_eqN (tgt := 53) dX10_settle_36 (by decide) (by omega) (fun c36 => ?_) (fun c36 => ?_)) | refine Rp.if_eq (tgt := 53) dX10_settle_36 (by decide) (fun c36 => ?_) (fun c36 => ?_)
        · skip
          refine Rp.iconst (nI 0) dX10_settle_53 (by decide) ?_
          first | ((with_reducible show Rp _ _ _ _ (_ :: .int (nI _) :: _) _ _); refine Rp.zastoreN dX10_settle_54 (S _ _ rfl) (by omega) ?_) | refine Rp.zastore dX10_settle_54 (S _ _ rfl) (by first | assumption | exact vpb (by decide)) ?_
          refine Rp.aload_n dX10_settle_55 rfl rfl ?_
          refine Rp.getR dX10_settle_56 fk_X10_15 rfl (Sx _ _ _ rfl) (Rx _ _ _ _ rfl) ?_
          refine Rp.iload_n dX10_settle_59 rfl ?_
          refine Rp.iconst (nI 0) dX10_settle_60 (by decide) ?_
          first | ((with_reducible show Rp _ _ _ _ (_ :: .int (nI _) :: _) _ _); refine Rp.zastoreN dX10_settle_61 (Sx _ _ _ rfl) (by omega) ?_) | refine Rp.zastore dX10_settle_61 (Sx _ _ _ rfl) (by first | assumption | exact vpb (by decide)) ?_
          first | ((with_reducible show Rp _ _ _ (_ :: _ :: _ :: some (.int (nI _)) :: _) _ _ _); refine Rp.inc3N (c := 1) dX10_settle_62 (by first | exact nl2_some rfl | exact nl2_none) (by decide) ?_) | refine Rp.inc3 _ dX10_settle_62 rfl (by first | exact nl2_some rfl | exact nl2_none) (by decide) ?_
          refine Rp.goto (tgt := 20) dX10_settle_65 (by decide) ?_
          exact k1
        · skip
          cases c36
theorem settle70 (B : KB K) (V : VH K np nt) (W : KW K) : ∀ (m r : Nat) (s : TRS) (g : AH), r + m = np → (∀ q, s.1 q = true → q < np) → TrS h0 g K fl np nt nd nl s.1 s.2.1 s.2.2 → Rp (d + 5) M_X10_settle 70 [some (.ref 58), some (.ref 40), some (.ref 1), some (.int (nI r))] [] g (fun r h' => r = none ∧ TrS h0 h' K fl np nt nd nl (trT K fl np nt m s).1 (trT K fl np nt m s).2.1 (trT K fl np nt m s).2.2) := by
  have v1 := V.1
  intro m
  induction m with
  | zero =>
    intro r s g hm hs T
    have e : r = np := by omega
    subst e
    have m3 : gI g 1 0 = nI r := T.2.2.2.1.2.1
    have S := T.1
    refine Rp.iload_n dX10_settle_70 rfl ?_
    refine Rp.aload_n dX10_settle_71 rfl rfl ?_
    refine Rp.getI dX10_settle_72 fk_X10_50 rfl (S _ _ rfl) ?_
    first | rw [m3] | skip
    first | ((with_reducible show Rp _ _ _ _ (.int (nI _) :: .int (nI _) :: _) _ _); refine Rp.icmp_geN (tgt := 94) dX10_settle_75 (by decide) (by omega) (fun c75 => ?_) (fun c75 => ?_)) | refine Rp.icmp_ge (tgt := 94) dX10_settle_75 (by decide) (fun c75 => ?_) (fun c75 => ?_)
    · skip
      refine Rp.vreturn dX10_settle_94 rfl ?_
      exact ⟨rfl, T⟩
    · skip
      first | (exfalso; omega) | exact absurd c75 (by decide) | exact absurd (by decide) c75
  | succ m ih =>
    intro r s g hm hs T
    have m3 : gI g 1 0 = nI np := T.2.2.2.1.2.1
    have S := T.1
    have pa := t_pointAll d B V W T
    refine Rp.iload_n dX10_settle_70 rfl ?_
    refine Rp.aload_n dX10_settle_71 rfl rfl ?_
    refine Rp.getI dX10_settle_72 fk_X10_50 rfl (S _ _ rfl) ?_
    first | rw [m3] | skip
    first | ((with_reducible show Rp _ _ _ _ (.int (nI _) :: .int (nI _) :: _) _ _); refine Rp.icmp_geN (tgt := 94) dX10_settle_75 (by decide) (by omega) (fun c75 => ?_) (fun c75 => ?_)) | refine Rp.icmp_ge (tgt := 94) dX10_settle_75 (by decide) (fun c75 => ?_) (fun c75 => ?_)
    · first | (exfalso; omega) | exact absurd c75 (by decide) | exact absurd (by decide) c75
    refine Rp.aload_n dX10_settle_78 rfl rfl ?_
    refine Rp.aload_n dX10_settle_79 rfl rfl ?_
    refine Rp.callV1 M_X10_pointAll (ci := 10) dX10_settle_80 mo_X10_pointAll lk_X10_53 (by decide) rfl rfl (S _ _ rfl) (Nat.le_of_ble_eq_true rfl) (Nat.le_of_ble_eq_true rfl) (pa) (fun v1 h1 p1 x1 => ?_)
    obtain ⟨rfl, T1, j61⟩ := p1
    try dsimp only [Option.toList, List.cons_append, List.nil_append, List.append]
    skip
    have S1 := T1.1
    have tr := t_takeRings (d + 1) v1 hs (fun q hq => (fnI_pnt (fl := fl) V (lf := s.1) (hs q hq)).2.2 hq) T1 j61
    refine Rp.aload_n dX10_settle_83 rfl rfl ?_
    refine Rp.aload_n dX10_settle_84 rfl rfl ?_
    refine Rp.callV1 M_X10_takeRings (ci := 10) dX10_settle_85 mo_X10_takeRings lk_X10_57 (by decide) rfl rfl (S1 _ _ rfl) (Nat.le_of_ble_eq_true rfl) (Nat.le_of_ble_eq_true rfl) (tr) (fun v1 h1 p1 x1 => ?_)
    obtain ⟨rfl, T2⟩ := p1
    try dsimp only [Option.toList, List.cons_append, List.nil_append, List.append]
    skip
    have k1 := ih (r + 1) (trN K fl np nt s) h1 (by omega) (fun q hq => hs q (by
      have hq : (s.1 q && !onR (pnt K fl np nt s.1) q) = true := hq
      rw [Bool.and_eq_true] at hq
      exact hq.1)) T2
    first | ((with_reducible show Rp _ _ _ (_ :: _ :: _ :: some (.int (nI _)) :: _) _ _ _); refine Rp.inc3N (c := 1) dX10_settle_88 (by first | exact nl2_some rfl | exact nl2_none) (by decide) ?_) | refine Rp.inc3 _ dX10_settle_88 rfl (by first | exact nl2_some rfl | exact nl2_none) (by decide) ?_
    refine Rp.goto (tgt := 70) dX10_settle_91 (by decide) ?_
    exact k1
theorem t_settle (B : KB K) (V : VH K np nt) (W : KW K) {g : AH} (S : ShOK g) (R : RfOK g) (J : JS g 1 K fl) (H : HA g 1 K np nt nd nl) : Rp (d + 5) M_X10_settle 0 [some (.ref 58), some (.ref 40), none, none] [] g (fun r h' => r = none ∧ TrS g h' K fl np nt nd nl (trT K fl np nt np (tr0 K np)).1 (trT K fl np nt np (tr0 K np)).2.1 (trT K fl np nt np (tr0 K np)).2.2) := by
  have v1 := V.1
  have j40 : gR g 40 3 = some 1 := J.1
  have F1 : Fr t5X g (fillI (sI g 58 4 (nI 0)) 62 6 (-1)) := (Fr.rfl'.sI (t5X_y (by decide) (by decide))).fill (fun j hj => t5X_y (by decide) (by decide))
  have S1 : ShOK (sI g 58 4 (nI 0)) := S
  have R1 : RfOK (sI g 58 4 (nI 0)) := R.put _ _ _
  have Rf : RfOK (fillI (sI g 58 4 (nI 0)) 62 6 (-1)) := R1
  have P0 : TrP g (fillI (sI g 58 4 (nI 0)) 62 6 (-1)) K fl np nt nd nl 0 := ⟨S, Rf, J.fg F1 (fun j => t5X_n (by decide)) (fun j => t5X_n (by decide)) (fun j => t5X_n (by decide)) (fun k j hk => t5X_n (by omega)) (fun k j o => t5X_n (by unfold okT at o; omega)), H.fr F1 (fun o j ho => t5X_n (by omega)) (t5X_n (by decide)), fun q hq => absurd hq (Nat.not_lt_zero _), fun q hq => by rw [gI_fillI, if_pos rfl, if_pos hq], by rw [gI_fillI, if_neg (by decide)]; exact gI_hit _ _ _ _, trX_t F1⟩
  have k20 := settle20 d (h0 := g) (P := fun r h' => r = none ∧ TrS g h' K fl np nt nd nl (trT K fl np nt np (tr0 K np)).1 (trT K fl np nt np (tr0 K np)).2.1 (trT K fl np nt np (tr0 K np)).2.2) v1 (fun g1 T => by
    have k70 := settle70 d (h0 := g) (nd := nd) (nl := nl) (fl := fl) B V W np 0 (tr0 K np) g1 (by omega) (fun q hq => by
      have hq : (decide (q < np) && decide (K q ≠ -1)) = true := hq
      rw [Bool.and_eq_true, decide_eq_true_eq] at hq
      exact hq.1) T
    refine Rp.iconst (nI 0) dX10_settle_68 (by decide) ?_
    refine Rp.ist3 dX10_settle_69 (by first | exact nl2_some rfl | exact nl2_none) (by decide) ?_
    exact k70
    ) 6 0 _ (by omega) P0
  have fa := c_fill (d + 4) (sI g 58 4 (nI 0)) 62 6 (-1) (S1 _ _ rfl) (by decide)
  refine Rp.aload_n dX10_settle_0 rfl rfl ?_
  refine Rp.getR dX10_settle_1 fk_X10_25 rfl (S _ _ rfl) j40 ?_
  refine Rp.ast2 dX10_settle_4 (by first | exact nl2_some rfl | exact nl2_none) (by decide) ?_
  refine Rp.aload_n dX10_settle_5 rfl rfl ?_
  refine Rp.iconst (nI 0) dX10_settle_6 (by decide) ?_
  refine Rp.putI dX10_settle_7 fk_X10_31w rfl (S _ _ rfl) ?_
  refine Rp.aload_n dX10_settle_10 rfl rfl ?_
  refine Rp.getR dX10_settle_11 fk_X10_22 rfl (S1 _ _ rfl) (R1 _ _ _ rfl) ?_
  refine Rp.iconst (-1) dX10_settle_14 (by decide) ?_
  refine Rp.callS2 M_J7_fill_53178 dX10_settle_15 mo_J7_fill_53178 lk_X10_35 (Nat.le_of_ble_eq_true rfl) (Nat.le_of_ble_eq_true rfl) (fa) (fun v1 h1 p1 x1 => ?_)
  rw [p1.1, p1.2]
  try dsimp only [Option.toList, List.cons_append, List.nil_append, List.append]
  refine Rp.iconst (nI 0) dX10_settle_18 (by decide) ?_
  refine Rp.ist3 dX10_settle_19 (by first | exact nl2_some rfl | exact nl2_none) (by decide) ?_
  exact k20
/-- what trade answers -/
def trA (K : Nat → Int32) (fl : Option (List CLE)) (np nt : Nat) (p : Int32) : Int32 := if p = -1 then nI (trT K fl np nt np (tr0 K np)).2.2 else if inN p np = true then (trT K fl np nt np (tr0 K np)).2.1 (ix p) else -1
/-- the cells of trade as it is called -/
def trZ (k j : Nat) : Bool := bX k j || trX k j
theorem trZ_b {h g : AH} (F : Fr bX h g) : Fr trZ h g := F.weak (fun k j hx => by unfold trZ at hx; rw [Bool.or_eq_false_iff] at hx; exact hx.1)
theorem trZ_t {h g : AH} (F : Fr trX h g) : Fr trZ h g := F.weak (fun k j hx => by unfold trZ at hx; rw [Bool.or_eq_false_iff] at hx; exact hx.2)
theorem t_trade {h : AH} {LSs : Nat → List CLE} {E : List Int32} (S : ShOK h) (R : RfOK h) (G : HG h 1 K np nt nd nl LSs E) (V : VH K np nt) (B : KB K) (W : KW K) (hz : ∀ j, 9 ≤ j → gI h 43 j = 0) (p : Int32) : Rp (d + 6) M_X11_trade 0 [some (.ref 0), some (.int p)] [] h (fun r h' => r = some (.int (trA K (flO nl LSs (K 108)) np nt p)) ∧ Fr trZ h h' ∧ RfOK h' ∧ ∀ j, 9 ≤ j → gI h' 43 j = 0) := by
  have v1 := V.1
  have e18 : gI h 1 18 = K 108 := G.1.2.2.2.2.2.2.1
  have lf := t_lawInForce (d + 3) G.2.1
  rw [e18] at lf
  have ip := t_isPerson (d + 5) (k := 1) (S _ _ rfl) p v1 G.1.2.1
  have k36 : ∀ g, (p = -1 ∨ inN p np = true) → Fr bX h g → JS g 1 K (flO nl LSs (K 108)) → Rp (d + 6) M_X11_trade 36 [some (.ref 0), some (.int p)] [] g (fun r h' => r = some (.int (trA K (flO nl LSs (K 108)) np nt p)) ∧ Fr trZ h h' ∧ RfOK h' ∧ ∀ j, 9 ≤ j → gI h' 43 j = 0) := by
    intro g hp F1 J1
    have S1 := F1.S S
    have R1 := F1.R R (by decide)
    have G1 : HG g 1 K np nt nd nl LSs E := G.fr F1 (fun o j ho => bX_b (by decide) ho) (fun k j o => bX_T (ok129 o))
    have st := t_settle d B V W S1 R1 J1 G1.1
    refine Rp.aload_n dX11_trade_36 rfl rfl ?_
    refine Rp.getR dX11_trade_37 fk_X11_71 rfl (S1 _ _ rfl) (R1 _ _ _ rfl) ?_
    refine Rp.aload_n dX11_trade_40 rfl rfl ?_
    refine Rp.getR dX11_trade_41 fk_X11_39 rfl (S1 _ _ rfl) (R1 _ _ _ rfl) ?_
    refine Rp.callV1 M_X10_settle (ci := 10) dX11_trade_44 mo_X10_settle lk_X11_295 (by decide) rfl rfl (S1 _ _ rfl) (Nat.le_of_ble_eq_true rfl) (Nat.le_of_ble_eq_true rfl) (st) (fun v1 h1 p1 x1 => ?_)
    obtain ⟨rfl, T⟩ := p1
    try dsimp only [Option.toList, List.cons_append, List.nil_append, List.append]
    skip
    obtain ⟨S2, R2, J2, H2, a59, a62, a58, F2⟩ := T
    have z2 := J2.2.2.2.1
    have FF := (trZ_b F1).trans (trZ_t F2)
    unfold trA
    by_cases c : p = -1
    · rw [if_pos c]
      refine Rp.iload_n dX11_trade_47 rfl ?_
      refine Rp.iconst (-1) dX11_trade_48 (by decide) ?_
      first | ((with_reducible show Rp _ _ _ _ (.int (nI _) :: .int (nI _) :: _) _ _); refine Rp.icmp_neN (tgt := 62) dX11_trade_49 (by decide) (by omega) (fun c49 => ?_) (fun c49 => ?_)) | refine Rp.icmp_ne (tgt := 62) dX11_trade_49 (by decide) (fun c49 => ?_) (fun c49 => ?_)
      · skip
        exact absurd c c49
      · skip
        refine Rp.aload_n dX11_trade_52 rfl rfl ?_
        refine Rp.getR dX11_trade_53 fk_X11_71 rfl (S2 _ _ rfl) (R2 _ _ _ rfl) ?_
        refine Rp.getI dX11_trade_56 fk_X11_298 rfl (S2 _ _ rfl) ?_
        first | rw [a58] | skip
        refine Rp.goto (tgt := 71) dX11_trade_59 (by decide) ?_
        refine Rp.ireturn dX11_trade_71 rfl ?_
        exact ⟨rfl, FF, R2, z2⟩
    · have c2 := hp.resolve_left c
      rw [if_neg c, if_pos c2]
      obtain ⟨q, hq, rfl⟩ := (inN_iff (by omega)).1 c2
      have e62 := a62 q (by omega)
      rw [ix_nI (by omega)]
      refine Rp.iload_n dX11_trade_47 rfl ?_
      refine Rp.iconst (-1) dX11_trade_48 (by decide) ?_
      first | ((with_reducible show Rp _ _ _ _ (.int (nI _) :: .int (nI _) :: _) _ _); refine Rp.icmp_neN (tgt := 62) dX11_trade_49 (by decide) (by omega) (fun c49 => ?_) (fun c49 => ?_)) | refine Rp.icmp_ne (tgt := 62) dX11_trade_49 (by decide) (fun c49 => ?_) (fun c49 => ?_)
      · skip
        refine Rp.aload_n dX11_trade_62 rfl rfl ?_
        refine Rp.getR dX11_trade_63 fk_X11_71 rfl (S2 _ _ rfl) (R2 _ _ _ rfl) ?_
        refine Rp.getR dX11_trade_66 fk_X11_301 rfl (S2 _ _ rfl) (R2 _ _ _ rfl) ?_
        refine Rp.iload_n dX11_trade_69 rfl ?_
        first | ((with_reducible show Rp _ _ _ _ (.int (nI _) :: _) _ _); refine Rp.ialoadN dX11_trade_70 (S2 _ _ rfl) (by omega) ?_) | refine Rp.iaload dX11_trade_70 (S2 _ _ rfl) (by first | assumption | exact vpb (by decide)) ?_
        first | rw [e62] | skip
        refine Rp.ireturn dX11_trade_71 rfl ?_
        exact ⟨rfl, FF, R2, z2⟩
      · skip
        exact absurd c49 c
  have k18 : (p = -1 ∨ inN p np = true) → Rp (d + 6) M_X11_trade 18 [some (.ref 0), some (.int p)] [] h (fun r h' => r = some (.int (trA K (flO nl LSs (K 108)) np nt p)) ∧ Fr trZ h h' ∧ RfOK h' ∧ ∀ j, 9 ≤ j → gI h' 43 j = 0) := by
    intro hp
    refine Rp.aload_n dX11_trade_18 rfl rfl ?_
    refine Rp.getR dX11_trade_19 fk_X11_39 rfl (S _ _ rfl) (R _ _ _ rfl) ?_
    refine Rp.aload_n dX11_trade_22 rfl rfl ?_
    refine Rp.getR dX11_trade_23 fk_X11_10 rfl (S _ _ rfl) (R _ _ _ rfl) ?_
    refine Rp.aload_n dX11_trade_26 rfl rfl ?_
    refine Rp.getR dX11_trade_27 fk_X11_10 rfl (S _ _ rfl) (R _ _ _ rfl) ?_
    refine Rp.callV0 M_X2_lawInForce (ci := 2) dX11_trade_30 mo_X2_lawInForce lk_X11_138 (by decide) rfl rfl (S _ _ rfl) (Nat.le_of_ble_eq_true rfl) (Nat.le_of_ble_eq_true rfl) (lf) (fun v1 h1 p1 x1 => ?_)
    obtain ⟨rfl, lr, rfl, q⟩ := p1
    try dsimp only [Option.toList, List.cons_append, List.nil_append, List.append]
    skip
    match lr, q with
    | none, q =>
      have bg := t_beginJ (d + 4) S R (G.1.hj (Or.inl rfl)) hz q
      dsimp only [cvR] at bg ⊢
      refine Rp.callV2 M_X3_begin (ci := 3) dX11_trade_33 mo_X3_begin lk_X11_142 (by decide) rfl rfl (S _ _ rfl) (Nat.le_of_ble_eq_true rfl) (Nat.le_of_ble_eq_true rfl) (bg) (fun v1 h1 p1 x1 => ?_)
      obtain ⟨rfl, F4, J4⟩ := p1
      try dsimp only [Option.toList, List.cons_append, List.nil_append, List.append]
      exact k36 _ hp F4 J4
    | some tx, q =>
      have bg := t_beginJ (d + 4) S R (G.1.hj (Or.inl rfl)) hz q
      dsimp only [cvR] at bg ⊢
      refine Rp.callV2 M_X3_begin (ci := 3) dX11_trade_33 mo_X3_begin lk_X11_142 (by decide) rfl rfl (S _ _ rfl) (Nat.le_of_ble_eq_true rfl) (Nat.le_of_ble_eq_true rfl) (bg) (fun v1 h1 p1 x1 => ?_)
      obtain ⟨rfl, F4, J4⟩ := p1
      try dsimp only [Option.toList, List.cons_append, List.nil_append, List.append]
      exact k36 _ hp F4 J4
  by_cases c : p = -1
  · have k1 := k18 (Or.inl c)
    refine Rp.iload_n dX11_trade_0 rfl ?_
    refine Rp.iconst (-1) dX11_trade_1 (by decide) ?_
    first | ((with_reducible show Rp _ _ _ _ (.int (nI _) :: .int (nI _) :: _) _ _); refine Rp.icmp_eqN (tgt := 18) dX11_trade_2 (by decide) (by omega) (fun c2 => ?_) (fun c2 => ?_)) | refine Rp.icmp_eq (tgt := 18) dX11_trade_2 (by decide) (fun c2 => ?_) (fun c2 => ?_)
    · skip
      exact k1
    · skip
      exact absurd c c2
  · cases ci : inN p np
    · rw [ci] at ip
      have e : trA K (flO nl LSs (K 108)) np nt p = -1 := by unfold trA; rw [if_neg c, ci, if_neg (by decide)]
      rw [e]
      refine Rp.iload_n dX11_trade_0 rfl ?_
      refine Rp.iconst (-1) dX11_trade_1 (by decide) ?_
      first | ((with_reducible show Rp _ _ _ _ (.int (nI _) :: .int (nI _) :: _) _ _); refine Rp.icmp_eqN (tgt := 18) dX11_trade_2 (by decide) (by omega) (fun c2 => ?_) (fun c2 => ?_)) | refine Rp.icmp_eq (tgt := 18) dX11_trade_2 (by decide) (fun c2 => ?_) (fun c2 => ?_)
      · skip
        exact absurd c2 c
      · skip
        refine Rp.aload_n dX11_trade_5 rfl rfl ?_
        refine Rp.getR dX11_trade_6 fk_X11_10 rfl (S _ _ rfl) (R _ _ _ rfl) ?_
        refine Rp.iload_n dX11_trade_9 rfl ?_
        refine Rp.callV1 M_X2_isPerson (ci := 2) dX11_trade_10 mo_X2_isPerson lk_X11_125 (by decide) rfl rfl (S _ _ rfl) (Nat.le_of_ble_eq_true rfl) (Nat.le_of_ble_eq_true rfl) (ip) (fun v1 h1 p1 x1 => ?_)
        rw [p1.1, p1.2]
        try dsimp only [Option.toList, List.cons_append, List.nil_append, List.append]
        first | ((with_reducible show Rp _ _ _ _ (.int (b2i _) :: _) _ _); refine Rp.if_neB (tgt := 18) dX11_trade_13 (by decide) (fun c13 => ?_) (fun c13 => ?_)) | ((with_reducible show Rp _ _ _ _ (.int (nI _) :: _) _ _); refine Rp.if_neN (tgt := 18) dX11_trade_13 (by decide) (by omega) (fun c13 => ?_) (fun c13 => ?_)) | refine Rp.if_ne (tgt := 18) dX11_trade_13 (by decide) (fun c13 => ?_) (fun c13 => ?_)
        · skip
          cases c13
        · skip
          refine Rp.iconst (-1) dX11_trade_16 (by decide) ?_
          refine Rp.ireturn dX11_trade_17 rfl ?_
          exact ⟨rfl, Fr.rfl', R, hz⟩
    · rw [ci] at ip
      have k1 := k18 (Or.inr ci)
      refine Rp.iload_n dX11_trade_0 rfl ?_
      refine Rp.iconst (-1) dX11_trade_1 (by decide) ?_
      first | ((with_reducible show Rp _ _ _ _ (.int (nI _) :: .int (nI _) :: _) _ _); refine Rp.icmp_eqN (tgt := 18) dX11_trade_2 (by decide) (by omega) (fun c2 => ?_) (fun c2 => ?_)) | refine Rp.icmp_eq (tgt := 18) dX11_trade_2 (by decide) (fun c2 => ?_) (fun c2 => ?_)
      · skip
        exact absurd c2 c
      · skip
        refine Rp.aload_n dX11_trade_5 rfl rfl ?_
        refine Rp.getR dX11_trade_6 fk_X11_10 rfl (S _ _ rfl) (R _ _ _ rfl) ?_
        refine Rp.iload_n dX11_trade_9 rfl ?_
        refine Rp.callV1 M_X2_isPerson (ci := 2) dX11_trade_10 mo_X2_isPerson lk_X11_125 (by decide) rfl rfl (S _ _ rfl) (Nat.le_of_ble_eq_true rfl) (Nat.le_of_ble_eq_true rfl) (ip) (fun v1 h1 p1 x1 => ?_)
        rw [p1.1, p1.2]
        try dsimp only [Option.toList, List.cons_append, List.nil_append, List.append]
        first | ((with_reducible show Rp _ _ _ _ (.int (b2i _) :: _) _ _); refine Rp.if_neB (tgt := 18) dX11_trade_13 (by decide) (fun c13 => ?_) (fun c13 => ?_)) | ((with_reducible show Rp _ _ _ _ (.int (nI _) :: _) _ _); refine Rp.if_neN (tgt := 18) dX11_trade_13 (by decide) (by omega) (fun c13 => ?_) (fun c13 => ?_)) | refine Rp.if_ne (tgt := 18) dX11_trade_13 (by decide) (fun c13 => ?_) (fun c13 => ?_)
        · skip
          exact k1
        · skip
          cases c13
end Ct4
