section Mt4
variable (d : Nat) {K : Nat → Int32} {fl : Option (List CLE)} {np nt : Nat} {US : List (Nat → Int32)}
theorem tb_all0 {U : Nat} (h : ∀ q, Nat.testBit U q = false) : U = 0 := Nat.eq_of_testBit_eq (fun q => by rw [h q, Nat.zero_testBit])
theorem mtr54 {h0 : AH} (W : KW K) : ∀ (m U n : Nat) (gt : Nat → Int32) (g : AH) (x3 : Int32) (a4 : Option Value), lfN (fun q => Nat.testBit U q) np ≤ m → U < 64 → (∀ q, Nat.testBit U q = true → q < np ∧ K q ≠ -1) → MA g fl np nt US → gI g 102 = K → (∀ q, q < 6 → gI g 122 q = gt q) → Fr mtX h0 g → Rp (d + 77) M_X12_laysTrade 54 [some (.ref aM), some (.int (nI U)), some (.int (nI n)), some (.int x3), a4] [] g (fun r h' => r = some (.int (nI (trT K fl np nt m (fun q => Nat.testBit U q, gt, n)).2.2)) ∧ (∀ q, q < 6 → gI h' 122 q = (trT K fl np nt m (fun q => Nat.testBit U q, gt, n)).2.1 q) ∧ MA h' fl np nt US ∧ gI h' 102 = K ∧ Fr mtX h0 h') := by
  have zz : ∀ (m U n : Nat) (gt : Nat → Int32) (g : AH) (x3 : Int32) (a4 : Option Value), U = 0 → MA g fl np nt US → gI g 102 = K → (∀ q, q < 6 → gI g 122 q = gt q) → Fr mtX h0 g → Rp (d + 77) M_X12_laysTrade 54 [some (.ref aM), some (.int (nI U)), some (.int (nI n)), some (.int x3), a4] [] g (fun r h' => r = some (.int (nI (trT K fl np nt m (fun q => Nat.testBit U q, gt, n)).2.2)) ∧ (∀ q, q < 6 → gI h' 122 q = (trT K fl np nt m (fun q => Nat.testBit U q, gt, n)).2.1 q) ∧ MA h' fl np nt US ∧ gI h' 102 = K ∧ Fr mtX h0 h') := by
    intro m U n gt g x3 a4 e A hK ht F
    subst e
    rw [trT_0 m (fun q => Nat.testBit 0 q, gt, n) (fun q => Nat.zero_testBit q)]
    refine Rp.iload_n dX12_laysTrade_54 rfl ?_
    first | ((with_reducible show Rp _ _ _ _ (.int (b2i _) :: _) _ _); refine Rp.if_eqB (tgt := 161) dX12_laysTrade_55 (by decide) (fun c55 => ?_) (fun c55 => ?_)) | ((with_reducible show Rp _ _ _ _ (.int (nI _) :: _) _ _); refine Rp.if_eqN (tgt := 161) dX12_laysTrade_55 (by decide) (by omega) (fun c55 => ?_) (fun c55 => ?_)) | refine Rp.if_eq (tgt := 161) dX12_laysTrade_55 (by decide) (fun c55 => ?_) (fun c55 => ?_)
    · skip
      refine Rp.iload_n dX12_laysTrade_161 rfl ?_
      refine Rp.ireturn dX12_laysTrade_162 rfl ?_
      exact ⟨rfl, ht, A, hK, F⟩
    · skip
      exact absurd rfl c55
  intro m
  induction m with
  | zero =>
    intro U n gt g x3 a4 hc hU hl A hK ht F
    refine zz 0 U n gt g x3 a4 (tb_all0 (fun q => ?_)) A hK ht F
    cases c : Nat.testBit U q
    · rfl
    · have := lfN_0 (lf := fun q => Nat.testBit U q) np (by omega) q (hl q c).1
      rw [show Nat.testBit U q = false from this] at c; cases c
  | succ m ih =>
    intro U n gt g x3 a4 hc hU hl A hK ht F
    by_cases ce : ∃ q, Nat.testBit U q = true
    · obtain ⟨a, ha⟩ := ce
      have V := A.2.2.2.2.1
      rw [show gI g am_kept = K from hK] at V
      have w1 := V.1
      have u0 : U ≠ 0 := fun z => by rw [z, Nat.zero_testBit] at ha; cases ha
      have hcl : ∀ q, Nat.testBit U q = true → Nat.testBit U (pnt K fl np nt (fun q => Nat.testBit U q) q) = true := fun q hq => (fnI_pnt (fl := fl) V (lf := fun q => Nat.testBit U q) (hl q hq).1).2.2 hq
      have k60 := mtr60 d (h0 := g) (fl := fl) (nt := nt) (US := US) (x2 := nI n) (a4 := a4) (P := fun r h' => r = some (.int (nI (trT K fl np nt (m + 1) (fun q => Nat.testBit U q, gt, n)).2.2)) ∧ (∀ q, q < 6 → gI h' 122 q = (trT K fl np nt (m + 1) (fun q => Nat.testBit U q, gt, n)).2.1 q) ∧ MA h' fl np nt US ∧ gI h' 102 = K ∧ Fr mtX h0 h') W hU hl (fun g1 A1 K1 F1 j123 => by
        have k106 := mtr106 d (h0 := g1) (U := U) (n := n) (f := pnt K fl np nt (fun q => Nat.testBit U q)) (lf := fun q => Nat.testBit U q) (gt := gt) (P := fun r h' => r = some (.int (nI (trT K fl np nt (m + 1) (fun q => Nat.testBit U q, gt, n)).2.2)) ∧ (∀ q, q < 6 → gI h' 122 q = (trT K fl np nt (m + 1) (fun q => Nat.testBit U q, gt, n)).2.1 q) ∧ MA h' fl np nt US ∧ gI h' 102 = K ∧ Fr mtX h0 h') A1.1 A1.2.1 K1 (by have := A1.2.2.2.2.2.1; rw [show gI g1 am_kept = K from K1] at this; exact this) w1 (fun q hq => (hl q hq).1) hcl j123 (fun g2 T hT hb2 ht2 F2 => by
          have A2 : MA g2 fl np nt US := A1.fr F2 (by decide) (fun j => rfl) (fun j => rfl) rfl
          obtain ⟨r, r1, r2⟩ := ring_is (lf := fun q => Nat.testBit U q) hcl (fun q hq => by have := (hl q hq).1; omega) ha
          have lt := lfN_lt (lf := fun q => Nat.testBit U q) (lf' := fun q => Nat.testBit T q) (fun q hq => by
            have hq : Nat.testBit T q = true := hq
            rw [hb2 q, Bool.and_eq_true] at hq
            exact hq.1) r1 (by rw [hb2 r, r2, Bool.not_true, Bool.and_false]) np (hl r r1).1
          have k1 := ih T (n + rgN (pnt K fl np nt (fun q => Nat.testBit U q)) (fun q => Nat.testBit U q) np) _ g2 (nI T) (some (.int (nI np))) (by omega) hT (fun q hq => hl q (by
            rw [hb2 q, Bool.and_eq_true] at hq
            exact hq.1)) A2 ((funext fun j => F2.I 102 j rfl).trans K1) ht2 ((F.trans (mtX_p F1)).trans (mtX_l F2))
          rw [show (fun q => Nat.testBit T q) = _ from funext hb2] at k1
          refine Rp.iload_n dX12_laysTrade_156 rfl ?_
          refine Rp.ist1 dX12_laysTrade_157 (by first | exact nl2_some rfl | exact nl2_none) (by decide) ?_
          refine Rp.goto (tgt := 54) dX12_laysTrade_158 (by decide) ?_
          exact k1
          ) np 0 U g1 (by omega) hU (thP_0 _ _) (fun q hq => by
            unfold tgP
            rw [if_neg (fun z => by have z1 : Nat.testBit U q = true := z.1; have z2 : Nat.testBit U q = false := z.2; rw [z1] at z2; cases z2)]
            exact (F1.I 122 q rfl).trans (ht q hq)) Fr.rfl'
        rw [rgN, Nat.add_zero] at k106
        refine Rp.iload_n dX12_laysTrade_101 rfl ?_
        refine Rp.ist3 dX12_laysTrade_102 (by first | exact nl2_some rfl | exact nl2_none) (by decide) ?_
        refine Rp.iconst (nI 0) dX12_laysTrade_103 (by decide) ?_
        refine Rp.ist4 dX12_laysTrade_104 (by first | exact nl2_some rfl | exact nl2_none) (by decide) ?_
        exact k106
        ) np 0 g (by omega) A hK Fr.rfl' (fun q hq => absurd hq (Nat.not_lt_zero _))
      refine Rp.iload_n dX12_laysTrade_54 rfl ?_
      first | ((with_reducible show Rp _ _ _ _ (.int (b2i _) :: _) _ _); refine Rp.if_eqB (tgt := 161) dX12_laysTrade_55 (by decide) (fun c55 => ?_) (fun c55 => ?_)) | ((with_reducible show Rp _ _ _ _ (.int (nI _) :: _) _ _); refine Rp.if_eqN (tgt := 161) dX12_laysTrade_55 (by decide) (by omega) (fun c55 => ?_) (fun c55 => ?_)) | refine Rp.if_eq (tgt := 161) dX12_laysTrade_55 (by decide) (fun c55 => ?_) (fun c55 => ?_)
      · skip
        exact absurd c55 u0
      · skip
        refine Rp.iconst (nI 0) dX12_laysTrade_58 (by decide) ?_
        refine Rp.ist3 dX12_laysTrade_59 (by first | exact nl2_some rfl | exact nl2_none) (by decide) ?_
        exact k60
    · exact zz (m + 1) U n gt g x3 a4 (tb_all0 (fun q => by
        cases c : Nat.testBit U q
        · rfl
        · exact absurd ⟨q, c⟩ ce)) A hK ht F
theorem s_laysTrade {h : AH} (A : MA h fl np nt US) (hK : gI h 102 = K) (W : KW K) : Rp (d + 77) M_X12_laysTrade 0 [some (.ref aM), none, none, none, none] [] h (fun r h' => r = some (.int (nI (trT K fl np nt np (tr0 K np)).2.2)) ∧ (∀ q, q < 6 → gI h' 122 q = (trT K fl np nt np (tr0 K np)).2.1 q) ∧ MA h' fl np nt US ∧ gI h' 102 = K ∧ Fr mtX h h') := by
  have k6 := mtr6 d (P := fun r h' => r = some (.int (nI (trT K fl np nt np (tr0 K np)).2.2)) ∧ (∀ q, q < 6 → gI h' 122 q = (trT K fl np nt np (tr0 K np)).2.1 q) ∧ MA h' fl np nt US ∧ gI h' 102 = K ∧ Fr mtX h h') A hK (fun g U hU hb ht F => by
    have k54 := mtr54 d (h0 := h) (fl := fl) (np := np) (nt := nt) (US := US) W np U 0 (fun _ => -1) g (nI 6) none (lfN_le _ _) hU (fun q hq => by
      rw [hb q] at hq
      have hq : (decide (q < np) && decide (K q ≠ -1)) = true := hq
      rw [Bool.and_eq_true, decide_eq_true_eq, decide_eq_true_eq] at hq
      exact hq) (A.fr F (by decide) (fun j => rfl) (fun j => rfl) rfl) ((funext fun j => F.I 102 j rfl).trans hK) ht (mtX_l F)
    rw [show (fun q => Nat.testBit U q) = _ from funext hb] at k54
    exact k54) 6 0 0 h (by omega) (by decide) (fun q => ⟨fun z => (by rw [Nat.zero_testBit] at z; cases z), fun z => absurd z.1 (Nat.not_lt_zero _)⟩) (fun q hq => absurd hq (Nat.not_lt_zero _)) Fr.rfl'
  refine Rp.iconst (nI 0) dX12_laysTrade_0 (by decide) ?_
  refine Rp.ist1 dX12_laysTrade_1 (by first | exact nl2_some rfl | exact nl2_none) (by decide) ?_
  refine Rp.iconst (nI 0) dX12_laysTrade_2 (by decide) ?_
  refine Rp.ist2 dX12_laysTrade_3 (by first | exact nl2_some rfl | exact nl2_none) (by decide) ?_
  refine Rp.iconst (nI 0) dX12_laysTrade_4 (by decide) ?_
  refine Rp.ist3 dX12_laysTrade_5 (by first | exact nl2_some rfl | exact nl2_none) (by decide) ?_
  exact k6
theorem s_trade {h : AH} (A : MA h fl np nt US) (W : KW (gI h 102)) (p : Int32) : Rp (d + 78) M_X12_trade 0 [some (.ref aM), some (.int p), none] [] h (fun r h' => r = some (.int (trA (gI h 102) fl np nt p)) ∧ Fr mtX h h') := by
  have w1 := A.2.2.2.2.1.1
  have S := A.1
  have ip := s_isPerson (d + 76) S A.2.1 p w1 A.2.2.2.2.2.1
  have k15 : (p = -1 ∨ inN p np = true) → Rp (d + 78) M_X12_trade 15 [some (.ref aM), some (.int p), none] [] h (fun r h' => r = some (.int (trA (gI h 102) fl np nt p)) ∧ Fr mtX h h') := by
    intro hp
    have la := s_laysTrade d A rfl W
    refine Rp.aload_n dX12_trade_15 rfl rfl ?_
    refine Rp.callV0 M_X12_laysTrade (ci := 12) dX12_trade_16 mo_X12_laysTrade lk_X12_440 (by decide) rfl rfl (S _ _ rfl) (Nat.le_of_ble_eq_true rfl) (Nat.le_of_ble_eq_true rfl) (la) (fun v1 h1 p1 x1 => ?_)
    obtain ⟨rfl, ht, A1, K1, F1⟩ := p1
    try dsimp only [Option.toList, List.cons_append, List.nil_append, List.append]
    skip
    have S1 := A1.1
    have R1 := A1.2.1
    unfold trA
    by_cases c : p = -1
    · rw [if_pos c]
      refine Rp.ist2 dX12_trade_19 (by first | exact nl2_some rfl | exact nl2_none) (by decide) ?_
      refine Rp.iload_n dX12_trade_20 rfl ?_
      refine Rp.iconst (-1) dX12_trade_21 (by decide) ?_
      first | ((with_reducible show Rp _ _ _ _ (.int (nI _) :: .int (nI _) :: _) _ _); refine Rp.icmp_neN (tgt := 29) dX12_trade_22 (by decide) (by omega) (fun c22 => ?_) (fun c22 => ?_)) | refine Rp.icmp_ne (tgt := 29) dX12_trade_22 (by decide) (fun c22 => ?_) (fun c22 => ?_)
      · skip
        exact absurd c c22
      · skip
        refine Rp.iload_n dX12_trade_25 rfl ?_
        refine Rp.goto (tgt := 35) dX12_trade_26 (by decide) ?_
        refine Rp.ireturn dX12_trade_35 rfl ?_
        exact ⟨rfl, F1⟩
    · have c2 := hp.resolve_left c
      rw [if_neg c, if_pos c2]
      obtain ⟨q, hq, rfl⟩ := (inN_iff (by omega)).1 c2
      have e62 := ht q (by omega)
      rw [ix_nI (by omega)]
      refine Rp.ist2 dX12_trade_19 (by first | exact nl2_some rfl | exact nl2_none) (by decide) ?_
      refine Rp.iload_n dX12_trade_20 rfl ?_
      refine Rp.iconst (-1) dX12_trade_21 (by decide) ?_
      first | ((with_reducible show Rp _ _ _ _ (.int (nI _) :: .int (nI _) :: _) _ _); refine Rp.icmp_neN (tgt := 29) dX12_trade_22 (by decide) (by omega) (fun c22 => ?_) (fun c22 => ?_)) | refine Rp.icmp_ne (tgt := 29) dX12_trade_22 (by decide) (fun c22 => ?_) (fun c22 => ?_)
      · skip
        refine Rp.aload_n dX12_trade_29 rfl rfl ?_
        refine Rp.getR dX12_trade_30 fk_X12_89 rfl (S1 _ _ rfl) (R1 _ _ _ rfl) ?_
        refine Rp.iload_n dX12_trade_33 rfl ?_
        first | ((with_reducible show Rp _ _ _ _ (.int (nI _) :: _) _ _); refine Rp.ialoadN dX12_trade_34 (S1 _ _ rfl) (by omega) ?_) | refine Rp.iaload dX12_trade_34 (S1 _ _ rfl) (by first | assumption | exact vpb (by decide)) ?_
        first | rw [e62] | skip
        refine Rp.ireturn dX12_trade_35 rfl ?_
        exact ⟨rfl, F1⟩
      · skip
        exact absurd c22 c
  by_cases c : p = -1
  · have k1 := k15 (Or.inl c)
    refine Rp.iload_n dX12_trade_0 rfl ?_
    refine Rp.iconst (-1) dX12_trade_1 (by decide) ?_
    first | ((with_reducible show Rp _ _ _ _ (.int (nI _) :: .int (nI _) :: _) _ _); refine Rp.icmp_eqN (tgt := 15) dX12_trade_2 (by decide) (by omega) (fun c2 => ?_) (fun c2 => ?_)) | refine Rp.icmp_eq (tgt := 15) dX12_trade_2 (by decide) (fun c2 => ?_) (fun c2 => ?_)
    · skip
      exact k1
    · skip
      exact absurd c c2
  · cases ci : inN p np
    · rw [ci] at ip
      have e : trA (gI h 102) fl np nt p = -1 := by unfold trA; rw [if_neg c, ci, if_neg (by decide)]
      rw [e]
      refine Rp.iload_n dX12_trade_0 rfl ?_
      refine Rp.iconst (-1) dX12_trade_1 (by decide) ?_
      first | ((with_reducible show Rp _ _ _ _ (.int (nI _) :: .int (nI _) :: _) _ _); refine Rp.icmp_eqN (tgt := 15) dX12_trade_2 (by decide) (by omega) (fun c2 => ?_) (fun c2 => ?_)) | refine Rp.icmp_eq (tgt := 15) dX12_trade_2 (by decide) (fun c2 => ?_) (fun c2 => ?_)
      · skip
        exact absurd c2 c
      · skip
        refine Rp.aload_n dX12_trade_5 rfl rfl ?_
        refine Rp.iload_n dX12_trade_6 rfl ?_
        refine Rp.callV1 M_X12_isPerson (ci := 12) dX12_trade_7 mo_X12_isPerson lk_X12_131 (by decide) rfl rfl (S _ _ rfl) (Nat.le_of_ble_eq_true rfl) (Nat.le_of_ble_eq_true rfl) (ip) (fun v1 h1 p1 x1 => ?_)
        rw [p1.1, p1.2]
        try dsimp only [Option.toList, List.cons_append, List.nil_append, List.append]
        first | ((with_reducible show Rp _ _ _ _ (.int (b2i _) :: _) _ _); refine Rp.if_neB (tgt := 15) dX12_trade_10 (by decide) (fun c10 => ?_) (fun c10 => ?_)) | ((with_reducible show Rp _ _ _ _ (.int (nI _) :: _) _ _); refine Rp.if_neN (tgt := 15) dX12_trade_10 (by decide) (by omega) (fun c10 => ?_) (fun c10 => ?_)) | refine Rp.if_ne (tgt := 15) dX12_trade_10 (by decide) (fun c10 => ?_) (fun c10 => ?_)
        · skip
          cases c10
        · skip
          refine Rp.iconst (-1) dX12_trade_13 (by decide) ?_
          refine Rp.ireturn dX12_trade_14 rfl ?_
          exact ⟨rfl, Fr.rfl'⟩
    · rw [ci] at ip
      have k1 := k15 (Or.inr ci)
      refine Rp.iload_n dX12_trade_0 rfl ?_
      refine Rp.iconst (-1) dX12_trade_1 (by decide) ?_
      first | ((with_reducible show Rp _ _ _ _ (.int (nI _) :: .int (nI _) :: _) _ _); refine Rp.icmp_eqN (tgt := 15) dX12_trade_2 (by decide) (by omega) (fun c2 => ?_) (fun c2 => ?_)) | refine Rp.icmp_eq (tgt := 15) dX12_trade_2 (by decide) (fun c2 => ?_) (fun c2 => ?_)
      · skip
        exact absurd c2 c
      · skip
        refine Rp.aload_n dX12_trade_5 rfl rfl ?_
        refine Rp.iload_n dX12_trade_6 rfl ?_
        refine Rp.callV1 M_X12_isPerson (ci := 12) dX12_trade_7 mo_X12_isPerson lk_X12_131 (by decide) rfl rfl (S _ _ rfl) (Nat.le_of_ble_eq_true rfl) (Nat.le_of_ble_eq_true rfl) (ip) (fun v1 h1 p1 x1 => ?_)
        rw [p1.1, p1.2]
        try dsimp only [Option.toList, List.cons_append, List.nil_append, List.append]
        first | ((with_reducible show Rp _ _ _ _ (.int (b2i _) :: _) _ _); refine Rp.if_neB (tgt := 15) dX12_trade_10 (by decide) (fun c10 => ?_) (fun c10 => ?_)) | ((with_reducible show Rp _ _ _ _ (.int (nI _) :: _) _ _); refine Rp.if_neN (tgt := 15) dX12_trade_10 (by decide) (by omega) (fun c10 => ?_) (fun c10 => ?_)) | refine Rp.if_ne (tgt := 15) dX12_trade_10 (by decide) (fun c10 => ?_) (fun c10 => ?_)
        · skip
          exact k1
        · skip
          cases c10
end Mt4
