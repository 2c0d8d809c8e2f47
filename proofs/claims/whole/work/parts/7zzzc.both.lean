/-- one wants another's ticket more -/
def wnB (K : Nat → Int32) (fl : Option (List CLE)) (p own wt : Nat) : Bool := decide (K (19 + (8 * p + own)) < K (19 + (8 * p + wt))) && !oBr K fl p wt
def bothB (K : Nat → Int32) (fl : Option (List CLE)) (a b : Nat) : Bool := decide (K a ≠ -1) && decide (K b ≠ -1) && wnB K fl a (ix (K a)) (ix (K b)) && wnB K fl b (ix (K b)) (ix (K a))
/-- pairs of one with those from b on; a pair that is the one wanted ends it -/
def btI (K : Nat → Int32) (fl : Option (List CLE)) (a : Nat) (i : Int32) : Nat → Nat → Nat → Except Int32 Nat
  | 0, _, n => .ok n
  | m + 1, b, n => if bothB K fl a b = true then (if nI n = i then .error (nI (a * 10 + b)) else btI K fl a i m (b + 1) (n + 1)) else btI K fl a i m (b + 1) n
def btO (K : Nat → Int32) (fl : Option (List CLE)) (np : Nat) (i : Int32) : Nat → Nat → Nat → Except Int32 Nat
  | 0, _, n => .ok n
  | m + 1, a, n => match btI K fl a i (np - (a + 1)) (a + 1) n with
    | .error x => .error x
    | .ok n' => btO K fl np i m (a + 1) n'
def btE (i : Int32) (q : Except Int32 Nat) : Int32 := match q with
  | .error x => x
  | .ok n => if i = -1 then nI n else -1
def btA (K : Nat → Int32) (fl : Option (List CLE)) (np : Nat) (i : Int32) : Int32 := if i < -1 then -1 else btE i (btO K fl np i np 0 0)
theorem HA.fj {h g : AH} {b : Nat} {K : Nat → Int32} {np nt nd nl : Nat} (hb : b ≤ 17) (H : HA h b K np nt nd nl) (F : Fr jX h g) : HA g b K np nt nd nl := H.fr F (fun o j ho => jX_lt (by omega)) (jX_lt (by omega))
section Cb
variable (d : Nat) {K : Nat → Int32} {fl : Option (List CLE)} {np nt nd nl : Nat}
theorem t_wantsMore {g : AH} (S : ShOK g) (R : RfOK g) (J : JS g 1 K fl) (B : KB K) (H : HA g 1 K np nt nd nl) {p o w : Nat} (hp : p < 6) (ho : o < 8) (hw : w < 8) : Rp (d + 3) M_X10_wantsMore 0 [some (.ref 40), some (.int (nI p)), some (.int (nI o)), some (.int (nI w)), none] [] g (fun r h' => Fr jX g h' ∧ JS h' 1 K fl ∧ r = some (.int (b2i (wnB K fl p o w)))) := by
  have j40 : gR g 40 3 = some 1 := J.1
  have c4 := H.2.2.2.2.2.2.2.2.2.2.1
  have e1 : gI g 5 (p * 8 + w) = K (19 + (8 * p + w)) := by rw [show p * 8 + w = 8 * p + w by omega]; exact c4 _ (by omega)
  have e2 : gI g 5 (p * 8 + o) = K (19 + (8 * p + o)) := by rw [show p * 8 + o = 8 * p + o by omega]; exact c4 _ (by omega)
  have br := t_isBarredJ d S R J B (p := p) (t := w) hp hw
  unfold wnB
  by_cases c : K (19 + (8 * p + o)) < K (19 + (8 * p + w))
  · have nl : ¬ K (19 + (8 * p + w)) ≤ K (19 + (8 * p + o)) := by rw [i32_le]; rw [i32_lt] at c; omega
    rw [decide_eq_true c, Bool.true_and]
    refine Rp.iload_n dX10_wantsMore_0 rfl ?_
    refine Rp.bipush (nI 8) dX10_wantsMore_1 (by decide) ?_
    first | ((with_reducible show Rp _ _ _ _ (.int (nI _) :: .int (nI _) :: _) _ _); refine Rp.imulN dX10_wantsMore_3 ?_) | refine Rp.imul dX10_wantsMore_3 ?_
    refine Rp.ist4 dX10_wantsMore_4 (by first | exact nl2_some rfl | exact nl2_none) (by decide) ?_
    refine Rp.aload_n dX10_wantsMore_6 rfl rfl ?_
    refine Rp.getR dX10_wantsMore_7 fk_X10_25 rfl (S _ _ rfl) j40 ?_
    refine Rp.getR dX10_wantsMore_10 fk_X10_75 rfl (S _ _ rfl) (R _ _ _ rfl) ?_
    refine Rp.iload dX10_wantsMore_13 rfl ?_
    refine Rp.iload_n dX10_wantsMore_15 rfl ?_
    first | ((with_reducible show Rp _ _ _ _ (.int (nI _) :: .int (nI _) :: _) _ _); refine Rp.iaddN dX10_wantsMore_16 ?_) | refine Rp.iadd dX10_wantsMore_16 ?_
    first | ((with_reducible show Rp _ _ _ _ (.int (nI _) :: _) _ _); refine Rp.ialoadN dX10_wantsMore_17 (S _ _ rfl) (by omega) ?_) | refine Rp.iaload dX10_wantsMore_17 (S _ _ rfl) (by first | assumption | exact vpb (by decide)) ?_
    first | rw [e1] | rw [e2] | skip
    refine Rp.aload_n dX10_wantsMore_18 rfl rfl ?_
    refine Rp.getR dX10_wantsMore_19 fk_X10_25 rfl (S _ _ rfl) j40 ?_
    refine Rp.getR dX10_wantsMore_22 fk_X10_75 rfl (S _ _ rfl) (R _ _ _ rfl) ?_
    refine Rp.iload dX10_wantsMore_25 rfl ?_
    refine Rp.iload_n dX10_wantsMore_27 rfl ?_
    first | ((with_reducible show Rp _ _ _ _ (.int (nI _) :: .int (nI _) :: _) _ _); refine Rp.iaddN dX10_wantsMore_28 ?_) | refine Rp.iadd dX10_wantsMore_28 ?_
    first | ((with_reducible show Rp _ _ _ _ (.int (nI _) :: _) _ _); refine Rp.ialoadN dX10_wantsMore_29 (S _ _ rfl) (by omega) ?_) | refine Rp.iaload dX10_wantsMore_29 (S _ _ rfl) (by first | assumption | exact vpb (by decide)) ?_
    first | rw [e1] | rw [e2] | skip
    first | ((with_reducible show Rp _ _ _ _ (.int (nI _) :: .int (nI _) :: _) _ _); refine Rp.icmp_leN (tgt := 46) dX10_wantsMore_30 (by decide) (by omega) (fun c30 => ?_) (fun c30 => ?_)) | refine Rp.icmp_le (tgt := 46) dX10_wantsMore_30 (by decide) (fun c30 => ?_) (fun c30 => ?_)
    · exact absurd c30 nl
    refine Rp.aload_n dX10_wantsMore_33 rfl rfl ?_
    refine Rp.iload_n dX10_wantsMore_34 rfl ?_
    refine Rp.iload_n dX10_wantsMore_35 rfl ?_
    refine Rp.callV2 M_X3_isBarred (ci := 3) dX10_wantsMore_36 mo_X3_isBarred lk_X10_71 (by decide) rfl rfl (S _ _ rfl) (Nat.le_of_ble_eq_true rfl) (Nat.le_of_ble_eq_true rfl) (br) (fun v1 h1 p1 x1 => ?_)
    obtain ⟨F1, J1, rfl⟩ := p1
    try dsimp only [Option.toList, List.cons_append, List.nil_append, List.append]
    skip
    cases cb : oBr K fl p w
    · skip
      first | ((with_reducible show Rp _ _ _ _ (.int (b2i _) :: _) _ _); refine Rp.if_neB (tgt := 46) dX10_wantsMore_39 (by decide) (fun c39 => ?_) (fun c39 => ?_)) | ((with_reducible show Rp _ _ _ _ (.int (nI _) :: _) _ _); refine Rp.if_neN (tgt := 46) dX10_wantsMore_39 (by decide) (by omega) (fun c39 => ?_) (fun c39 => ?_)) | refine Rp.if_ne (tgt := 46) dX10_wantsMore_39 (by decide) (fun c39 => ?_) (fun c39 => ?_)
      · skip
        cases c39
      · skip
        refine Rp.iconst (nI 1) dX10_wantsMore_42 (by decide) ?_
        refine Rp.goto (tgt := 47) dX10_wantsMore_43 (by decide) ?_
        refine Rp.zreturn dX10_wantsMore_47 rfl (by first | exact Or.inl rfl | exact Or.inr rfl | assumption) ?_
        exact ⟨F1, J1, rfl⟩
    · skip
      first | ((with_reducible show Rp _ _ _ _ (.int (b2i _) :: _) _ _); refine Rp.if_neB (tgt := 46) dX10_wantsMore_39 (by decide) (fun c39 => ?_) (fun c39 => ?_)) | ((with_reducible show Rp _ _ _ _ (.int (nI _) :: _) _ _); refine Rp.if_neN (tgt := 46) dX10_wantsMore_39 (by decide) (by omega) (fun c39 => ?_) (fun c39 => ?_)) | refine Rp.if_ne (tgt := 46) dX10_wantsMore_39 (by decide) (fun c39 => ?_) (fun c39 => ?_)
      · skip
        refine Rp.iconst (nI 0) dX10_wantsMore_46 (by decide) ?_
        refine Rp.zreturn dX10_wantsMore_47 rfl (by first | exact Or.inl rfl | exact Or.inr rfl | assumption) ?_
        exact ⟨F1, J1, rfl⟩
      · skip
        cases c39
  · have le : K (19 + (8 * p + w)) ≤ K (19 + (8 * p + o)) := by rw [i32_le]; rw [i32_lt] at c; omega
    rw [decide_eq_false c, Bool.false_and]
    refine Rp.iload_n dX10_wantsMore_0 rfl ?_
    refine Rp.bipush (nI 8) dX10_wantsMore_1 (by decide) ?_
    first | ((with_reducible show Rp _ _ _ _ (.int (nI _) :: .int (nI _) :: _) _ _); refine Rp.imulN dX10_wantsMore_3 ?_) | refine Rp.imul dX10_wantsMore_3 ?_
    refine Rp.ist4 dX10_wantsMore_4 (by first | exact nl2_some rfl | exact nl2_none) (by decide) ?_
    refine Rp.aload_n dX10_wantsMore_6 rfl rfl ?_
    refine Rp.getR dX10_wantsMore_7 fk_X10_25 rfl (S _ _ rfl) j40 ?_
    refine Rp.getR dX10_wantsMore_10 fk_X10_75 rfl (S _ _ rfl) (R _ _ _ rfl) ?_
    refine Rp.iload dX10_wantsMore_13 rfl ?_
    refine Rp.iload_n dX10_wantsMore_15 rfl ?_
    first | ((with_reducible show Rp _ _ _ _ (.int (nI _) :: .int (nI _) :: _) _ _); refine Rp.iaddN dX10_wantsMore_16 ?_) | refine Rp.iadd dX10_wantsMore_16 ?_
    first | ((with_reducible show Rp _ _ _ _ (.int (nI _) :: _) _ _); refine Rp.ialoadN dX10_wantsMore_17 (S _ _ rfl) (by omega) ?_) | refine Rp.iaload dX10_wantsMore_17 (S _ _ rfl) (by first | assumption | exact vpb (by decide)) ?_
    first | rw [e1] | rw [e2] | skip
    refine Rp.aload_n dX10_wantsMore_18 rfl rfl ?_
    refine Rp.getR dX10_wantsMore_19 fk_X10_25 rfl (S _ _ rfl) j40 ?_
    refine Rp.getR dX10_wantsMore_22 fk_X10_75 rfl (S _ _ rfl) (R _ _ _ rfl) ?_
    refine Rp.iload dX10_wantsMore_25 rfl ?_
    refine Rp.iload_n dX10_wantsMore_27 rfl ?_
    first | ((with_reducible show Rp _ _ _ _ (.int (nI _) :: .int (nI _) :: _) _ _); refine Rp.iaddN dX10_wantsMore_28 ?_) | refine Rp.iadd dX10_wantsMore_28 ?_
    first | ((with_reducible show Rp _ _ _ _ (.int (nI _) :: _) _ _); refine Rp.ialoadN dX10_wantsMore_29 (S _ _ rfl) (by omega) ?_) | refine Rp.iaload dX10_wantsMore_29 (S _ _ rfl) (by first | assumption | exact vpb (by decide)) ?_
    first | rw [e1] | rw [e2] | skip
    first | ((with_reducible show Rp _ _ _ _ (.int (nI _) :: .int (nI _) :: _) _ _); refine Rp.icmp_leN (tgt := 46) dX10_wantsMore_30 (by decide) (by omega) (fun c30 => ?_) (fun c30 => ?_)) | refine Rp.icmp_le (tgt := 46) dX10_wantsMore_30 (by decide) (fun c30 => ?_) (fun c30 => ?_)
    · skip
      refine Rp.iconst (nI 0) dX10_wantsMore_46 (by decide) ?_
      refine Rp.zreturn dX10_wantsMore_47 rfl (by first | exact Or.inl rfl | exact Or.inr rfl | assumption) ?_
      exact ⟨Fr.rfl', J, rfl⟩
    · skip
      exact absurd le c30
theorem t_bothWould {g : AH} (S : ShOK g) (R : RfOK g) (J : JS g 1 K fl) (B : KB K) (V : VH K np nt) (H : HA g 1 K np nt nd nl) {a b : Nat} (ha : a < 6) (hb : b < 6) : Rp (d + 4) M_X10_bothWouldSwap 0 [some (.ref 58), some (.ref 40), some (.int (nI a)), some (.int (nI b)), none, none, none] [] g (fun r h' => Fr jX g h' ∧ JS h' 1 K fl ∧ r = some (.int (b2i (bothB K fl a b)))) := by
  have v2 := V.2.1
  have j40 : gR g 40 3 = some 1 := J.1
  have c3 := H.2.2.2.2.2.2.2.2.2.1
  have ea : gI g 4 a = K a := c3 a ha
  have eb : gI g 4 b = K b := c3 b hb
  unfold bothB
  by_cases ca : K a = -1
  · rw [decide_eq_false (fun z => z ca), Bool.false_and, Bool.false_and, Bool.false_and]
    refine Rp.aload_n dX10_bothWouldSwap_0 rfl rfl ?_
    refine Rp.getR dX10_bothWouldSwap_1 fk_X10_25 rfl (S _ _ rfl) j40 ?_
    refine Rp.ast4 dX10_bothWouldSwap_4 (by first | exact nl2_some rfl | exact nl2_none) (by decide) ?_
    refine Rp.aload dX10_bothWouldSwap_6 rfl rfl ?_
    refine Rp.getR dX10_bothWouldSwap_8 fk_X10_47 rfl (S _ _ rfl) (R _ _ _ rfl) ?_
    refine Rp.iload_n dX10_bothWouldSwap_11 rfl ?_
    first | ((with_reducible show Rp _ _ _ _ (.int (nI _) :: _) _ _); refine Rp.ialoadN dX10_bothWouldSwap_12 (S _ _ rfl) (by omega) ?_) | refine Rp.iaload dX10_bothWouldSwap_12 (S _ _ rfl) (by first | assumption | exact vpb (by decide)) ?_
    first | rw [ea] | rw [eb] | skip
    refine Rp.ist5 dX10_bothWouldSwap_13 (by first | exact nl2_some rfl | exact nl2_none) (by decide) ?_
    refine Rp.aload dX10_bothWouldSwap_15 rfl rfl ?_
    refine Rp.getR dX10_bothWouldSwap_17 fk_X10_47 rfl (S _ _ rfl) (R _ _ _ rfl) ?_
    refine Rp.iload_n dX10_bothWouldSwap_20 rfl ?_
    first | ((with_reducible show Rp _ _ _ _ (.int (nI _) :: _) _ _); refine Rp.ialoadN dX10_bothWouldSwap_21 (S _ _ rfl) (by omega) ?_) | refine Rp.iaload dX10_bothWouldSwap_21 (S _ _ rfl) (by first | assumption | exact vpb (by decide)) ?_
    first | rw [ea] | rw [eb] | skip
    refine Rp.ist6 dX10_bothWouldSwap_22 (by first | exact nl2_some rfl | exact nl2_none) (by decide) ?_
    refine Rp.iload dX10_bothWouldSwap_24 rfl ?_
    refine Rp.iconst (-1) dX10_bothWouldSwap_26 (by decide) ?_
    first | ((with_reducible show Rp _ _ _ _ (.int (nI _) :: .int (nI _) :: _) _ _); refine Rp.icmp_eqN (tgt := 36) dX10_bothWouldSwap_27 (by decide) (by omega) (fun c27 => ?_) (fun c27 => ?_)) | refine Rp.icmp_eq (tgt := 36) dX10_bothWouldSwap_27 (by decide) (fun c27 => ?_) (fun c27 => ?_)
    · skip
      refine Rp.iconst (nI 0) dX10_bothWouldSwap_36 (by decide) ?_
      refine Rp.zreturn dX10_bothWouldSwap_37 rfl (by first | exact Or.inl rfl | exact Or.inr rfl | assumption) ?_
      exact ⟨Fr.rfl', J, rfl⟩
    · skip
      exact absurd ca c27
  · rw [decide_eq_true ca, Bool.true_and]
    by_cases cb : K b = -1
    · rw [decide_eq_false (fun z => z cb), Bool.false_and, Bool.false_and]
      refine Rp.aload_n dX10_bothWouldSwap_0 rfl rfl ?_
      refine Rp.getR dX10_bothWouldSwap_1 fk_X10_25 rfl (S _ _ rfl) j40 ?_
      refine Rp.ast4 dX10_bothWouldSwap_4 (by first | exact nl2_some rfl | exact nl2_none) (by decide) ?_
      refine Rp.aload dX10_bothWouldSwap_6 rfl rfl ?_
      refine Rp.getR dX10_bothWouldSwap_8 fk_X10_47 rfl (S _ _ rfl) (R _ _ _ rfl) ?_
      refine Rp.iload_n dX10_bothWouldSwap_11 rfl ?_
      first | ((with_reducible show Rp _ _ _ _ (.int (nI _) :: _) _ _); refine Rp.ialoadN dX10_bothWouldSwap_12 (S _ _ rfl) (by omega) ?_) | refine Rp.iaload dX10_bothWouldSwap_12 (S _ _ rfl) (by first | assumption | exact vpb (by decide)) ?_
      first | rw [ea] | rw [eb] | skip
      refine Rp.ist5 dX10_bothWouldSwap_13 (by first | exact nl2_some rfl | exact nl2_none) (by decide) ?_
      refine Rp.aload dX10_bothWouldSwap_15 rfl rfl ?_
      refine Rp.getR dX10_bothWouldSwap_17 fk_X10_47 rfl (S _ _ rfl) (R _ _ _ rfl) ?_
      refine Rp.iload_n dX10_bothWouldSwap_20 rfl ?_
      first | ((with_reducible show Rp _ _ _ _ (.int (nI _) :: _) _ _); refine Rp.ialoadN dX10_bothWouldSwap_21 (S _ _ rfl) (by omega) ?_) | refine Rp.iaload dX10_bothWouldSwap_21 (S _ _ rfl) (by first | assumption | exact vpb (by decide)) ?_
      first | rw [ea] | rw [eb] | skip
      refine Rp.ist6 dX10_bothWouldSwap_22 (by first | exact nl2_some rfl | exact nl2_none) (by decide) ?_
      refine Rp.iload dX10_bothWouldSwap_24 rfl ?_
      refine Rp.iconst (-1) dX10_bothWouldSwap_26 (by decide) ?_
      first | ((with_reducible show Rp _ _ _ _ (.int (nI _) :: .int (nI _) :: _) _ _); refine Rp.icmp_eqN (tgt := 36) dX10_bothWouldSwap_27 (by decide) (by omega) (fun c27 => ?_) (fun c27 => ?_)) | refine Rp.icmp_eq (tgt := 36) dX10_bothWouldSwap_27 (by decide) (fun c27 => ?_) (fun c27 => ?_)
      · skip
        exact absurd c27 ca
      · skip
        refine Rp.iload dX10_bothWouldSwap_30 rfl ?_
        refine Rp.iconst (-1) dX10_bothWouldSwap_32 (by decide) ?_
        first | ((with_reducible show Rp _ _ _ _ (.int (nI _) :: .int (nI _) :: _) _ _); refine Rp.icmp_neN (tgt := 38) dX10_bothWouldSwap_33 (by decide) (by omega) (fun c33 => ?_) (fun c33 => ?_)) | refine Rp.icmp_ne (tgt := 38) dX10_bothWouldSwap_33 (by decide) (fun c33 => ?_) (fun c33 => ?_)
        · skip
          exact absurd cb c33
        · skip
          refine Rp.iconst (nI 0) dX10_bothWouldSwap_36 (by decide) ?_
          refine Rp.zreturn dX10_bothWouldSwap_37 rfl (by first | exact Or.inl rfl | exact Or.inr rfl | assumption) ?_
          exact ⟨Fr.rfl', J, rfl⟩
    · rw [decide_eq_true cb, Bool.true_and]
      obtain ⟨x, hx, ex⟩ := ((V.2.2.1 a ha).resolve_left ca).2
      obtain ⟨y, hy, ey⟩ := ((V.2.2.1 b hb).resolve_left cb).2
      rw [ex, ey, ix_nI (by omega), ix_nI (by omega)]
      rw [ex] at ea
      rw [ey] at eb
      have nx : ¬ nI x = -1 := nI_m1 (by omega)
      have ny : ¬ nI y = -1 := nI_m1 (by omega)
      have w1 := t_wantsMore d S R J B H (p := a) (o := x) (w := y) ha (by omega) (by omega)
      refine Rp.aload_n dX10_bothWouldSwap_0 rfl rfl ?_
      refine Rp.getR dX10_bothWouldSwap_1 fk_X10_25 rfl (S _ _ rfl) j40 ?_
      refine Rp.ast4 dX10_bothWouldSwap_4 (by first | exact nl2_some rfl | exact nl2_none) (by decide) ?_
      refine Rp.aload dX10_bothWouldSwap_6 rfl rfl ?_
      refine Rp.getR dX10_bothWouldSwap_8 fk_X10_47 rfl (S _ _ rfl) (R _ _ _ rfl) ?_
      refine Rp.iload_n dX10_bothWouldSwap_11 rfl ?_
      first | ((with_reducible show Rp _ _ _ _ (.int (nI _) :: _) _ _); refine Rp.ialoadN dX10_bothWouldSwap_12 (S _ _ rfl) (by omega) ?_) | refine Rp.iaload dX10_bothWouldSwap_12 (S _ _ rfl) (by first | assumption | exact vpb (by decide)) ?_
      first | rw [ea] | rw [eb] | skip
      refine Rp.ist5 dX10_bothWouldSwap_13 (by first | exact nl2_some rfl | exact nl2_none) (by decide) ?_
      refine Rp.aload dX10_bothWouldSwap_15 rfl rfl ?_
      refine Rp.getR dX10_bothWouldSwap_17 fk_X10_47 rfl (S _ _ rfl) (R _ _ _ rfl) ?_
      refine Rp.iload_n dX10_bothWouldSwap_20 rfl ?_
      first | ((with_reducible show Rp _ _ _ _ (.int (nI _) :: _) _ _); refine Rp.ialoadN dX10_bothWouldSwap_21 (S _ _ rfl) (by omega) ?_) | refine Rp.iaload dX10_bothWouldSwap_21 (S _ _ rfl) (by first | assumption | exact vpb (by decide)) ?_
      first | rw [ea] | rw [eb] | skip
      refine Rp.ist6 dX10_bothWouldSwap_22 (by first | exact nl2_some rfl | exact nl2_none) (by decide) ?_
      refine Rp.iload dX10_bothWouldSwap_24 rfl ?_
      refine Rp.iconst (-1) dX10_bothWouldSwap_26 (by decide) ?_
      first | ((with_reducible show Rp _ _ _ _ (.int (nI _) :: .int (nI _) :: _) _ _); refine Rp.icmp_eqN (tgt := 36) dX10_bothWouldSwap_27 (by decide) (by omega) (fun c27 => ?_) (fun c27 => ?_)) | refine Rp.icmp_eq (tgt := 36) dX10_bothWouldSwap_27 (by decide) (fun c27 => ?_) (fun c27 => ?_)
      · exact absurd c27 nx
      refine Rp.iload dX10_bothWouldSwap_30 rfl ?_
      refine Rp.iconst (-1) dX10_bothWouldSwap_32 (by decide) ?_
      first | ((with_reducible show Rp _ _ _ _ (.int (nI _) :: .int (nI _) :: _) _ _); refine Rp.icmp_neN (tgt := 38) dX10_bothWouldSwap_33 (by decide) (by omega) (fun c33 => ?_) (fun c33 => ?_)) | refine Rp.icmp_ne (tgt := 38) dX10_bothWouldSwap_33 (by decide) (fun c33 => ?_) (fun c33 => ?_)
      rotate_left
      · exact absurd c33 ny
      refine Rp.aload_n dX10_bothWouldSwap_38 rfl rfl ?_
      refine Rp.iload_n dX10_bothWouldSwap_39 rfl ?_
      refine Rp.iload dX10_bothWouldSwap_40 rfl ?_
      refine Rp.iload dX10_bothWouldSwap_42 rfl ?_
      refine Rp.callS4 M_X10_wantsMore dX10_bothWouldSwap_44 mo_X10_wantsMore lk_X10_87 (Nat.le_of_ble_eq_true rfl) (Nat.le_of_ble_eq_true rfl) (w1) (fun v1 h1 p1 x1 => ?_)
      obtain ⟨F1, J1, rfl⟩ := p1
      try dsimp only [Option.toList, List.cons_append, List.nil_append, List.append]
      skip
      cases cw : wnB K fl a x y
      · rw [Bool.false_and]
        first | ((with_reducible show Rp _ _ _ _ (.int (b2i _) :: _) _ _); refine Rp.if_eqB (tgt := 66) dX10_bothWouldSwap_47 (by decide) (fun c47 => ?_) (fun c47 => ?_)) | ((with_reducible show Rp _ _ _ _ (.int (nI _) :: _) _ _); refine Rp.if_eqN (tgt := 66) dX10_bothWouldSwap_47 (by decide) (by omega) (fun c47 => ?_) (fun c47 => ?_)) | refine Rp.if_eq (tgt := 66) dX10_bothWouldSwap_47 (by decide) (fun c47 => ?_) (fun c47 => ?_)
        · skip
          refine Rp.iconst (nI 0) dX10_bothWouldSwap_66 (by decide) ?_
          refine Rp.zreturn dX10_bothWouldSwap_67 rfl (by first | exact Or.inl rfl | exact Or.inr rfl | assumption) ?_
          exact ⟨F1, J1, rfl⟩
        · skip
          cases c47
      · rw [Bool.true_and]
        have w2 := t_wantsMore d (F1.S S) (F1.R R (by decide)) J1 B (H.fj (by decide) F1) (p := b) (o := y) (w := x) hb (by omega) (by omega)
        first | ((with_reducible show Rp _ _ _ _ (.int (b2i _) :: _) _ _); refine Rp.if_eqB (tgt := 66) dX10_bothWouldSwap_47 (by decide) (fun c47 => ?_) (fun c47 => ?_)) | ((with_reducible show Rp _ _ _ _ (.int (nI _) :: _) _ _); refine Rp.if_eqN (tgt := 66) dX10_bothWouldSwap_47 (by decide) (by omega) (fun c47 => ?_) (fun c47 => ?_)) | refine Rp.if_eq (tgt := 66) dX10_bothWouldSwap_47 (by decide) (fun c47 => ?_) (fun c47 => ?_)
        · cases c47
        refine Rp.aload_n dX10_bothWouldSwap_50 rfl rfl ?_
        refine Rp.iload_n dX10_bothWouldSwap_51 rfl ?_
        refine Rp.iload dX10_bothWouldSwap_52 rfl ?_
        refine Rp.iload dX10_bothWouldSwap_54 rfl ?_
        refine Rp.callS4 M_X10_wantsMore dX10_bothWouldSwap_56 mo_X10_wantsMore lk_X10_87 (Nat.le_of_ble_eq_true rfl) (Nat.le_of_ble_eq_true rfl) (w2) (fun v1 h1 p1 x1 => ?_)
        obtain ⟨F2, J2, rfl⟩ := p1
        try dsimp only [Option.toList, List.cons_append, List.nil_append, List.append]
        skip
        cases cw2 : wnB K fl b y x
        · skip
          first | ((with_reducible show Rp _ _ _ _ (.int (b2i _) :: _) _ _); refine Rp.if_eqB (tgt := 66) dX10_bothWouldSwap_59 (by decide) (fun c59 => ?_) (fun c59 => ?_)) | ((with_reducible show Rp _ _ _ _ (.int (nI _) :: _) _ _); refine Rp.if_eqN (tgt := 66) dX10_bothWouldSwap_59 (by decide) (by omega) (fun c59 => ?_) (fun c59 => ?_)) | refine Rp.if_eq (tgt := 66) dX10_bothWouldSwap_59 (by decide) (fun c59 => ?_) (fun c59 => ?_)
          · skip
            refine Rp.iconst (nI 0) dX10_bothWouldSwap_66 (by decide) ?_
            refine Rp.zreturn dX10_bothWouldSwap_67 rfl (by first | exact Or.inl rfl | exact Or.inr rfl | assumption) ?_
            exact ⟨F1.trans F2, J2, rfl⟩
          · skip
            cases c59
        · skip
          first | ((with_reducible show Rp _ _ _ _ (.int (b2i _) :: _) _ _); refine Rp.if_eqB (tgt := 66) dX10_bothWouldSwap_59 (by decide) (fun c59 => ?_) (fun c59 => ?_)) | ((with_reducible show Rp _ _ _ _ (.int (nI _) :: _) _ _); refine Rp.if_eqN (tgt := 66) dX10_bothWouldSwap_59 (by decide) (by omega) (fun c59 => ?_) (fun c59 => ?_)) | refine Rp.if_eq (tgt := 66) dX10_bothWouldSwap_59 (by decide) (fun c59 => ?_) (fun c59 => ?_)
          · skip
            cases c59
          · skip
            refine Rp.iconst (nI 1) dX10_bothWouldSwap_62 (by decide) ?_
            refine Rp.goto (tgt := 67) dX10_bothWouldSwap_63 (by decide) ?_
            refine Rp.zreturn dX10_bothWouldSwap_67 rfl (by first | exact Or.inl rfl | exact Or.inr rfl | assumption) ?_
            exact ⟨F1.trans F2, J2, rfl⟩
/-- what is known all through the class's both -/
def BoI (h0 g : AH) (K : Nat → Int32) (fl : Option (List CLE)) (np nt nd nl : Nat) : Prop := ShOK g ∧ RfOK g ∧ JS g 1 K fl ∧ HA g 1 K np nt nd nl ∧ Fr jX h0 g
theorem both45 {h0 : AH} (B : KB K) (V : VH K np nt) (i : Int32) {a : Nat} (ha : a < np) {P : Option Value → AH → Prop} : ∀ (m b n : Nat) (g : AH), b + m = np → n + m ≤ 100 → BoI h0 g K fl np nt nd nl → (∀ n' g', btI K fl a i m b n = .ok n' → BoI h0 g' K fl np nt nd nl → Rp (d + 5) M_X11_both 96 [some (.ref 0), some (.int i), some (.int (nI n')), some (.int (nI a)), some (.int (nI np))] [] g' P) → (∀ x g', btI K fl a i m b n = .error x → BoI h0 g' K fl np nt nd nl → P (some (.int x)) g') → Rp (d + 5) M_X11_both 45 [some (.ref 0), some (.int i), some (.int (nI n)), some (.int (nI a)), some (.int (nI b))] [] g P := by
  have v1 := V.1
  intro m
  induction m with
  | zero =>
    intro b n g hm hn I kok kerr
    have e : b = np := by omega
    subst e
    obtain ⟨S, R, J, H, F⟩ := id I
    have a0 : gI g 1 0 = nI b := H.2.1
    have k1 := kok n g rfl I
    refine Rp.iload dX11_both_45 rfl ?_
    refine Rp.aload_n dX11_both_47 rfl rfl ?_
    refine Rp.getR dX11_both_48 fk_X11_10 rfl (S _ _ rfl) (R _ _ _ rfl) ?_
    refine Rp.getI dX11_both_51 fk_X11_280 rfl (S _ _ rfl) ?_
    first | rw [a0] | skip
    first | ((with_reducible show Rp _ _ _ _ (.int (nI _) :: .int (nI _) :: _) _ _); refine Rp.icmp_geN (tgt := 96) dX11_both_54 (by decide) (by omega) (fun c54 => ?_) (fun c54 => ?_)) | refine Rp.icmp_ge (tgt := 96) dX11_both_54 (by decide) (fun c54 => ?_) (fun c54 => ?_)
    · skip
      exact k1
    · skip
      first | (exfalso; omega) | exact absurd c54 (by decide) | exact absurd (by decide) c54
  | succ m ih =>
    intro b n g hm hn I kok kerr
    obtain ⟨S, R, J, H, F⟩ := id I
    have a0 : gI g 1 0 = nI np := H.2.1
    have bw := t_bothWould d S R J B V H (a := a) (b := b) (by omega) (by omega)
    rw [btI] at kok kerr
    refine Rp.iload dX11_both_45 rfl ?_
    refine Rp.aload_n dX11_both_47 rfl rfl ?_
    refine Rp.getR dX11_both_48 fk_X11_10 rfl (S _ _ rfl) (R _ _ _ rfl) ?_
    refine Rp.getI dX11_both_51 fk_X11_280 rfl (S _ _ rfl) ?_
    first | rw [a0] | skip
    first | ((with_reducible show Rp _ _ _ _ (.int (nI _) :: .int (nI _) :: _) _ _); refine Rp.icmp_geN (tgt := 96) dX11_both_54 (by decide) (by omega) (fun c54 => ?_) (fun c54 => ?_)) | refine Rp.icmp_ge (tgt := 96) dX11_both_54 (by decide) (fun c54 => ?_) (fun c54 => ?_)
    · first | (exfalso; omega) | exact absurd c54 (by decide) | exact absurd (by decide) c54
    refine Rp.aload_n dX11_both_57 rfl rfl ?_
    refine Rp.getR dX11_both_58 fk_X11_71 rfl (S _ _ rfl) (R _ _ _ rfl) ?_
    refine Rp.aload_n dX11_both_61 rfl rfl ?_
    refine Rp.getR dX11_both_62 fk_X11_39 rfl (S _ _ rfl) (R _ _ _ rfl) ?_
    refine Rp.iload_n dX11_both_65 rfl ?_
    refine Rp.iload dX11_both_66 rfl ?_
    refine Rp.callV3 M_X10_bothWouldSwap (ci := 10) dX11_both_68 mo_X10_bothWouldSwap lk_X11_304 (by decide) rfl rfl (S _ _ rfl) (Nat.le_of_ble_eq_true rfl) (Nat.le_of_ble_eq_true rfl) (bw) (fun v1 h1 p1 x1 => ?_)
    obtain ⟨F1, J1, rfl⟩ := p1
    try dsimp only [Option.toList, List.cons_append, List.nil_append, List.append]
    skip
    have I1 : BoI h0 h1 K fl np nt nd nl := ⟨F1.S S, F1.R R (by decide), J1, H.fj (by decide) F1, F.trans F1⟩
    cases cb : bothB K fl a b
    · rw [cb, if_neg (by decide)] at kok kerr
      have k1 := ih (b + 1) n h1 (by omega) (by omega) I1 kok kerr
      first | ((with_reducible show Rp _ _ _ _ (.int (b2i _) :: _) _ _); refine Rp.if_eqB (tgt := 90) dX11_both_71 (by decide) (fun c71 => ?_) (fun c71 => ?_)) | ((with_reducible show Rp _ _ _ _ (.int (nI _) :: _) _ _); refine Rp.if_eqN (tgt := 90) dX11_both_71 (by decide) (by omega) (fun c71 => ?_) (fun c71 => ?_)) | refine Rp.if_eq (tgt := 90) dX11_both_71 (by decide) (fun c71 => ?_) (fun c71 => ?_)
      · skip
        first | ((with_reducible show Rp _ _ _ (_ :: _ :: _ :: _ :: some (.int (nI _)) :: _) _ _ _); refine Rp.inc4N (c := 1) dX11_both_90 (by first | exact nl2_some rfl | exact nl2_none) (by decide) ?_) | refine Rp.inc4 _ dX11_both_90 rfl (by first | exact nl2_some rfl | exact nl2_none) (by decide) ?_
        refine Rp.goto (tgt := 45) dX11_both_93 (by decide) ?_
        exact k1
      · skip
        cases c71
    · rw [cb, if_pos rfl] at kok kerr
      by_cases c : nI n = i
      · rw [if_pos c] at kerr
        have k1 := kerr (nI (a * 10 + b)) h1 rfl I1
        first | ((with_reducible show Rp _ _ _ _ (.int (b2i _) :: _) _ _); refine Rp.if_eqB (tgt := 90) dX11_both_71 (by decide) (fun c71 => ?_) (fun c71 => ?_)) | ((with_reducible show Rp _ _ _ _ (.int (nI _) :: _) _ _); refine Rp.if_eqN (tgt := 90) dX11_both_71 (by decide) (by omega) (fun c71 => ?_) (fun c71 => ?_)) | refine Rp.if_eq (tgt := 90) dX11_both_71 (by decide) (fun c71 => ?_) (fun c71 => ?_)
        · skip
          cases c71
        · skip
          refine Rp.iload_n dX11_both_74 rfl ?_
          refine Rp.iload_n dX11_both_75 rfl ?_
          first | ((with_reducible show Rp _ _ _ _ (.int (nI _) :: .int (nI _) :: _) _ _); refine Rp.icmp_neN (tgt := 87) dX11_both_76 (by decide) (by omega) (fun c76 => ?_) (fun c76 => ?_)) | refine Rp.icmp_ne (tgt := 87) dX11_both_76 (by decide) (fun c76 => ?_) (fun c76 => ?_)
          · skip
            exact absurd c c76
          · skip
            refine Rp.iload_n dX11_both_79 rfl ?_
            refine Rp.bipush (nI 10) dX11_both_80 (by decide) ?_
            first | ((with_reducible show Rp _ _ _ _ (.int (nI _) :: .int (nI _) :: _) _ _); refine Rp.imulN dX11_both_82 ?_) | refine Rp.imul dX11_both_82 ?_
            refine Rp.iload dX11_both_83 rfl ?_
            first | ((with_reducible show Rp _ _ _ _ (.int (nI _) :: .int (nI _) :: _) _ _); refine Rp.iaddN dX11_both_85 ?_) | refine Rp.iadd dX11_both_85 ?_
            refine Rp.ireturn dX11_both_86 rfl ?_
            exact k1
      · rw [if_neg c] at kok kerr
        have k1 := ih (b + 1) (n + 1) h1 (by omega) (by omega) I1 kok kerr
        first | ((with_reducible show Rp _ _ _ _ (.int (b2i _) :: _) _ _); refine Rp.if_eqB (tgt := 90) dX11_both_71 (by decide) (fun c71 => ?_) (fun c71 => ?_)) | ((with_reducible show Rp _ _ _ _ (.int (nI _) :: _) _ _); refine Rp.if_eqN (tgt := 90) dX11_both_71 (by decide) (by omega) (fun c71 => ?_) (fun c71 => ?_)) | refine Rp.if_eq (tgt := 90) dX11_both_71 (by decide) (fun c71 => ?_) (fun c71 => ?_)
        · skip
          cases c71
        · skip
          refine Rp.iload_n dX11_both_74 rfl ?_
          refine Rp.iload_n dX11_both_75 rfl ?_
          first | ((with_reducible show Rp _ _ _ _ (.int (nI _) :: .int (nI _) :: _) _ _); refine Rp.icmp_neN (tgt := 87) dX11_both_76 (by decide) (by omega) (fun c76 => ?_) (fun c76 => ?_)) | refine Rp.icmp_ne (tgt := 87) dX11_both_76 (by decide) (fun c76 => ?_) (fun c76 => ?_)
          · skip
            first | ((with_reducible show Rp _ _ _ (_ :: _ :: some (.int (nI _)) :: _) _ _ _); refine Rp.inc2N (c := 1) dX11_both_87 (by first | exact nl2_some rfl | exact nl2_none) (by decide) ?_) | refine Rp.inc2 _ dX11_both_87 rfl (by first | exact nl2_some rfl | exact nl2_none) (by decide) ?_
            first | ((with_reducible show Rp _ _ _ (_ :: _ :: _ :: _ :: some (.int (nI _)) :: _) _ _ _); refine Rp.inc4N (c := 1) dX11_both_90 (by first | exact nl2_some rfl | exact nl2_none) (by decide) ?_) | refine Rp.inc4 _ dX11_both_90 rfl (by first | exact nl2_some rfl | exact nl2_none) (by decide) ?_
            refine Rp.goto (tgt := 45) dX11_both_93 (by decide) ?_
            exact k1
          · skip
            exact absurd c76 c
theorem btI_le {a : Nat} {i : Int32} : ∀ (m b n n' : Nat), btI K fl a i m b n = .ok n' → n' ≤ n + m
  | 0, b, n, n', h => by cases h; exact Nat.le_refl _
  | m + 1, b, n, n', h => by
    rw [btI] at h
    split at h
    · split at h
      · cases h
      · have := btI_le m (b + 1) (n + 1) n' h; omega
    · have := btI_le m (b + 1) n n' h; omega
theorem both96 {P : Option Value → AH → Prop} {g : AH} {i x4 : Int32} {n a : Nat} (k1 : Rp (d + 5) M_X11_both 29 [some (.ref 0), some (.int i), some (.int (nI n)), some (.int (nI (a + 1))), some (.int x4)] [] g P) : Rp (d + 5) M_X11_both 96 [some (.ref 0), some (.int i), some (.int (nI n)), some (.int (nI a)), some (.int x4)] [] g P := by
  first | ((with_reducible show Rp _ _ _ (_ :: _ :: _ :: some (.int (nI _)) :: _) _ _ _); refine Rp.inc3N (c := 1) dX11_both_96 (by first | exact nl2_some rfl | exact nl2_none) (by decide) ?_) | refine Rp.inc3 _ dX11_both_96 rfl (by first | exact nl2_some rfl | exact nl2_none) (by decide) ?_
  refine Rp.goto (tgt := 29) dX11_both_99 (by decide) ?_
  exact k1
theorem both29 {h0 : AH} (B : KB K) (V : VH K np nt) (i : Int32) : ∀ (m a n : Nat) (g : AH) (a4 : Option Value), a + m = np → n + 6 * m ≤ 60 → BoI h0 g K fl np nt nd nl → Rp (d + 5) M_X11_both 29 [some (.ref 0), some (.int i), some (.int (nI n)), some (.int (nI a)), a4] [] g (fun r h' => BoI h0 h' K fl np nt nd nl ∧ r = some (.int (btE i (btO K fl np i m a n)))) := by
  have v1 := V.1
  intro m
  induction m with
  | zero =>
    intro a n g a4 hm hn I
    have e : a = np := by omega
    subst e
    obtain ⟨S, R, J, H, F⟩ := id I
    have a0 : gI g 1 0 = nI a := H.2.1
    show Rp _ _ _ _ _ _ (fun r h' => BoI h0 h' K fl a nt nd nl ∧ r = some (.int (if i = -1 then nI n else -1)))
    by_cases c : i = -1
    · rw [if_pos c]
      refine Rp.iload_n dX11_both_29 rfl ?_
      refine Rp.aload_n dX11_both_30 rfl rfl ?_
      refine Rp.getR dX11_both_31 fk_X11_10 rfl (S _ _ rfl) (R _ _ _ rfl) ?_
      refine Rp.getI dX11_both_34 fk_X11_280 rfl (S _ _ rfl) ?_
      first | rw [a0] | skip
      first | ((with_reducible show Rp _ _ _ _ (.int (nI _) :: .int (nI _) :: _) _ _); refine Rp.icmp_geN (tgt := 102) dX11_both_37 (by decide) (by omega) (fun c37 => ?_) (fun c37 => ?_)) | refine Rp.icmp_ge (tgt := 102) dX11_both_37 (by decide) (fun c37 => ?_) (fun c37 => ?_)
      · skip
        refine Rp.iload_n dX11_both_102 rfl ?_
        refine Rp.iconst (-1) dX11_both_103 (by decide) ?_
        first | ((with_reducible show Rp _ _ _ _ (.int (nI _) :: .int (nI _) :: _) _ _); refine Rp.icmp_neN (tgt := 111) dX11_both_104 (by decide) (by omega) (fun c104 => ?_) (fun c104 => ?_)) | refine Rp.icmp_ne (tgt := 111) dX11_both_104 (by decide) (fun c104 => ?_) (fun c104 => ?_)
        · skip
          exact absurd c c104
        · skip
          refine Rp.iload_n dX11_both_107 rfl ?_
          refine Rp.goto (tgt := 112) dX11_both_108 (by decide) ?_
          refine Rp.ireturn dX11_both_112 rfl ?_
          exact ⟨I, rfl⟩
      · skip
        first | (exfalso; omega) | exact absurd c37 (by decide) | exact absurd (by decide) c37
    · rw [if_neg c]
      refine Rp.iload_n dX11_both_29 rfl ?_
      refine Rp.aload_n dX11_both_30 rfl rfl ?_
      refine Rp.getR dX11_both_31 fk_X11_10 rfl (S _ _ rfl) (R _ _ _ rfl) ?_
      refine Rp.getI dX11_both_34 fk_X11_280 rfl (S _ _ rfl) ?_
      first | rw [a0] | skip
      first | ((with_reducible show Rp _ _ _ _ (.int (nI _) :: .int (nI _) :: _) _ _); refine Rp.icmp_geN (tgt := 102) dX11_both_37 (by decide) (by omega) (fun c37 => ?_) (fun c37 => ?_)) | refine Rp.icmp_ge (tgt := 102) dX11_both_37 (by decide) (fun c37 => ?_) (fun c37 => ?_)
      · skip
        refine Rp.iload_n dX11_both_102 rfl ?_
        refine Rp.iconst (-1) dX11_both_103 (by decide) ?_
        first | ((with_reducible show Rp _ _ _ _ (.int (nI _) :: .int (nI _) :: _) _ _); refine Rp.icmp_neN (tgt := 111) dX11_both_104 (by decide) (by omega) (fun c104 => ?_) (fun c104 => ?_)) | refine Rp.icmp_ne (tgt := 111) dX11_both_104 (by decide) (fun c104 => ?_) (fun c104 => ?_)
        · skip
          refine Rp.iconst (-1) dX11_both_111 (by decide) ?_
          refine Rp.ireturn dX11_both_112 rfl ?_
          exact ⟨I, rfl⟩
        · skip
          exact absurd c104 c
      · skip
        first | (exfalso; omega) | exact absurd c37 (by decide) | exact absurd (by decide) c37
  | succ m ih =>
    intro a n g a4 hm hn I
    obtain ⟨S, R, J, H, F⟩ := id I
    have a0 : gI g 1 0 = nI np := H.2.1
    have k45 := both45 d (h0 := h0) (nd := nd) (nl := nl) (a := a) B V i (by omega) (P := fun r h' => BoI h0 h' K fl np nt nd nl ∧ r = some (.int (btE i (btO K fl np i (m + 1) a n)))) (np - (a + 1)) (a + 1) n g (by omega) (by omega) I (fun n' g' e I' => by
      have bl := btI_le _ _ _ _ e
      have k1 := ih (a + 1) n' g' (some (.int (nI np))) (by omega) (by omega) I'
      have eo : btO K fl np i (m + 1) a n = btO K fl np i m (a + 1) n' := by rw [btO, e]
      rw [eo]
      exact both96 d k1) (fun x g' e I' => ⟨I', by rw [btO, e]; rfl⟩)
    refine Rp.iload_n dX11_both_29 rfl ?_
    refine Rp.aload_n dX11_both_30 rfl rfl ?_
    refine Rp.getR dX11_both_31 fk_X11_10 rfl (S _ _ rfl) (R _ _ _ rfl) ?_
    refine Rp.getI dX11_both_34 fk_X11_280 rfl (S _ _ rfl) ?_
    first | rw [a0] | skip
    first | ((with_reducible show Rp _ _ _ _ (.int (nI _) :: .int (nI _) :: _) _ _); refine Rp.icmp_geN (tgt := 102) dX11_both_37 (by decide) (by omega) (fun c37 => ?_) (fun c37 => ?_)) | refine Rp.icmp_ge (tgt := 102) dX11_both_37 (by decide) (fun c37 => ?_) (fun c37 => ?_)
    · skip
      first | (exfalso; omega) | exact absurd c37 (by decide) | exact absurd (by decide) c37
    · skip
      refine Rp.iload_n dX11_both_40 rfl ?_
      refine Rp.iconst (nI 1) dX11_both_41 (by decide) ?_
      first | ((with_reducible show Rp _ _ _ _ (.int (nI _) :: .int (nI _) :: _) _ _); refine Rp.iaddN dX11_both_42 ?_) | refine Rp.iadd dX11_both_42 ?_
      refine Rp.ist4 dX11_both_43 (by first | exact nl2_some rfl | exact nl2_none) (by decide) ?_
      exact k45
end Cb
