/-- kept with a text laid at t -/
def lyK (K : Nat → Int32) (c v : Nat → Nat) (t T : Nat) : Nat → Int32 := fun i => if i = 109 + t then nI T else if 116 + 400 * t ≤ i ∧ i < 116 + 400 * t + T then nI (c (i - (116 + 400 * t))) else if 2916 + 400 * t ≤ i ∧ i < 2916 + 400 * t + T then nI (v (i - (2916 + 400 * t))) else K i
theorem lyK_lo {K : Nat → Int32} {c v : Nat → Nat} {t T j : Nat} (hj : j < 109) : lyK K c v t T j = K j := by
  unfold lyK
  rw [if_neg (by omega), if_neg (by omega), if_neg (by omega)]
def moX (k j : Nat) : Bool := rnX k j || (k == 102 || (k == 105 || (k == 113 || (k == 114 || (k == 100 && (j == 32 || j == 50))))))
theorem moX_r {h g : AH} (F : Fr rnX h g) : Fr moX h g := F.weak (fun k j hx => by unfold moX at hx; rw [Bool.or_eq_false_iff] at hx; exact hx.1)
/-- what the reference's orders leave where they were run -/
def MOQ (g1 : AH) (fl : Option (List CLE)) (np nt : Nat) (K1 : Nat → Int32) (US : List (Nat → Int32)) (q : Except Nat OS) (r : Option Value) (h' : AH) : Prop := ∃ g2, Fr moX g1 g2 ∧ ShOK g2 ∧ RfOK g2 ∧ match q with
  | .error n => r = some (.int (-nI 3)) ∧ h' = sI (sI g2 aM fm_status (-nI 3)) am_refused 3 (gI g2 am_refused 3 + nI 1) ∧ gI g2 102 = K1 ∧ LGm g2 US ∧ gI g2 100 50 = nI n
  | .ok s => r = some (.int (nI s.2.2.2.1)) ∧ h' = sI g2 aM fm_status (nI 0) ∧ gI g2 102 = s.1 ∧ LGm g2 s.2.2.1 ∧ gI g2 100 50 = gI g1 100 50
section Mz
variable (d : Nat) {h0 : AH} {fl : Option (List CLE)} {np nt : Nat} {c v : Nat → Nat} {T : Nat}
theorem mord95x {P : Option Value → AH → Prop} {g : AH} {G n : Nat} (S : ShOK g) (ua : Int32) (hG : G + 1 < 2147483648) (e51 : gI g aM 51 = nI (G + 1)) (k1 : Rp (d + 80) M_X12_orders 173 [some (.ref aM), some (.int ua), some (.int (nI G)), some (.int (nI n)), none] [] g P) : Rp (d + 80) M_X12_orders 95 [some (.ref aM), some (.int ua), some (.int (nI G)), some (.int (nI n)), none] [] g P := by
  have q51 : gI g 100 51 = nI (G + 1) := e51
  refine Rp.aload_n dX12_orders_95 rfl rfl ?_
  refine Rp.getI dX12_orders_96 fk_X12_482 rfl (S _ _ rfl) ?_
  first | rw [q51] | skip
  refine Rp.iload_n dX12_orders_99 rfl ?_
  first | ((with_reducible show Rp _ _ _ _ (.int (nI _) :: .int (nI _) :: _) _ _); refine Rp.icmp_geN (tgt := 173) dX12_orders_100 (by decide) (by omega) (fun c100 => ?_) (fun c100 => ?_)) | refine Rp.icmp_ge (tgt := 173) dX12_orders_100 (by decide) (fun c100 => ?_) (fun c100 => ?_)
  · skip
    exact k1
  · skip
    first | (exfalso; omega) | exact absurd c100 (by decide) | exact absurd (by decide) c100
theorem mord95 {P : Option Value → AH → Prop} (hc : c T = 0) (f : Nat) (ua : Int32) (hT4 : T ≤ 400) : ∀ (k i lv a : Nat) (L : List CLE) (n N : Nat) (s : OS) (g : AH), rdL true c v T f k i lv a = .ok L → i ≤ T → lv ≤ 50 → MI g fl np nt c v T s → OSK np nt N s → N + 20 * L.length ≤ 500 → n + L.length ≤ 100 → Fr rnX h0 g → gI g aM 51 = nI (2400 + i) → (∀ s' g' n', orL fl np nt L n s = .ok s' → MI g' fl np nt c v T s' → Fr rnX h0 g' → Rp (d + 80) M_X12_orders 173 [some (.ref aM), some (.int ua), some (.int (nI (2400 + T))), some (.int (nI n')), none] [] g' P) → (∀ m g', orL fl np nt L n s = .error m → Fr rnX h0 g' → ShOK g' → RfOK g' → Rp (d + 80) M_X12_orders 114 [some (.ref aM), some (.int ua), some (.int (nI (2400 + T))), some (.int (nI m)), none] [] g' P) → Rp (d + 80) M_X12_orders 95 [some (.ref aM), some (.int ua), some (.int (nI (2400 + T))), some (.int (nI n)), none] [] g P := by
  intro k
  induction k with
  | zero => intro i lv a L n N s g hL; cases hL
  | succ k ih =>
    intro i lv a L n N s g hL hi hl M hO hN hn F h51 kok kerr
    rw [rdL] at hL
    have oc := okC_R (ord := true) (c := c) (v := v) (f := f) (a := a) hc hi hl
    match hq : clR true c v f i lv a, hL, oc with
    | .error e, hL, oc => cases hL
    | .ok (i', lv', cd, vb, tm, p, q, ts), hL, oc =>
      dsimp only at hL
      obtain ⟨o1, o2, o3, o4, o5, o6, o7⟩ := oc
      obtain ⟨hv, -⟩ := clR_invT hq
      have hvb := vb_code hv
      have hiT := lt_of_code hc hi (by omega)
      have S := M.1.1
      have q51 : gI g 100 51 = nI (2400 + i) := h51
      -- behind the clause
      have mainK : ∀ (L2 : List CLE), L = (i, a, i', cd, vb, tm, p, q, ts) :: L2 → (∀ s1 g1, orT fl np nt (vb, tm, p, q, ts) tm s = some s1 → MI g1 fl np nt c v T s1 → OSK np nt (N + 20) s1 → Fr rnX h0 g1 → gI g1 aM 51 = nI (2400 + i' + 1) → Rp (d + 80) M_X12_orders 95 [some (.ref aM), some (.int ua), some (.int (nI (2400 + T))), some (.int (nI (n + 1))), none] [] g1 P) → Rp (d + 80) M_X12_orders 95 [some (.ref aM), some (.int ua), some (.int (nI (2400 + T))), some (.int (nI n)), none] [] g P := by
        intro L2 eL knext
        have hN2 : N + 20 ≤ 500 := by rw [eL, List.length_cons] at hN; omega
        have rn := s_runs d hq hi hl o7 M hO (by omega) h51
        match hr : orT fl np nt (vb, tm, p, q, ts) tm s with
        | none =>
          rw [hr] at rn
          have eo : orL fl np nt L n s = .error n := by rw [eL, orL]; show (match orT fl np nt (vb, tm, p, q, ts) tm s with | none => _ | some s' => _) = _; rw [hr]
          refine Rp.aload_n dX12_orders_95 rfl rfl ?_
          refine Rp.getI dX12_orders_96 fk_X12_482 rfl (S _ _ rfl) ?_
          first | rw [q51] | skip
          refine Rp.iload_n dX12_orders_99 rfl ?_
          first | ((with_reducible show Rp _ _ _ _ (.int (nI _) :: .int (nI _) :: _) _ _); refine Rp.icmp_geN (tgt := 173) dX12_orders_100 (by decide) (by omega) (fun c100 => ?_) (fun c100 => ?_)) | refine Rp.icmp_ge (tgt := 173) dX12_orders_100 (by decide) (fun c100 => ?_) (fun c100 => ?_)
          · skip
            first | (exfalso; omega) | exact absurd c100 (by decide) | exact absurd (by decide) c100
          · skip
            refine Rp.aload_n dX12_orders_103 rfl rfl ?_
            refine Rp.iload_n dX12_orders_104 rfl ?_
            refine Rp.callV1 M_X12_runs (ci := 12) dX12_orders_105 mo_X12_runs lk_X12_485 (by decide) rfl rfl (S _ _ rfl) (Nat.le_of_ble_eq_true rfl) (Nat.le_of_ble_eq_true rfl) (rn) (fun v1 h1 p1 x1 => ?_)
            obtain ⟨F1, rfl, S1, R1⟩ := p1
            try dsimp only [Option.toList, List.cons_append, List.nil_append, List.append]
            first | ((with_reducible show Rp _ _ _ _ (.int (b2i _) :: _) _ _); refine Rp.if_eqB (tgt := 114) dX12_orders_108 (by decide) (fun c108 => ?_) (fun c108 => ?_)) | ((with_reducible show Rp _ _ _ _ (.int (nI _) :: _) _ _); refine Rp.if_eqN (tgt := 114) dX12_orders_108 (by decide) (by omega) (fun c108 => ?_) (fun c108 => ?_)) | refine Rp.if_eq (tgt := 114) dX12_orders_108 (by decide) (fun c108 => ?_) (fun c108 => ?_)
            · skip
              exact kerr n _ eo (F.trans F1) S1 R1
            · skip
              cases c108
        | some s1 =>
          rw [hr] at rn
          have O1 := (orT_k tm N s s1 hO hr).1.up (show N + tm ≤ N + 20 by omega)
          refine Rp.aload_n dX12_orders_95 rfl rfl ?_
          refine Rp.getI dX12_orders_96 fk_X12_482 rfl (S _ _ rfl) ?_
          first | rw [q51] | skip
          refine Rp.iload_n dX12_orders_99 rfl ?_
          first | ((with_reducible show Rp _ _ _ _ (.int (nI _) :: .int (nI _) :: _) _ _); refine Rp.icmp_geN (tgt := 173) dX12_orders_100 (by decide) (by omega) (fun c100 => ?_) (fun c100 => ?_)) | refine Rp.icmp_ge (tgt := 173) dX12_orders_100 (by decide) (fun c100 => ?_) (fun c100 => ?_)
          · first | (exfalso; omega) | exact absurd c100 (by decide) | exact absurd (by decide) c100
          refine Rp.aload_n dX12_orders_103 rfl rfl ?_
          refine Rp.iload_n dX12_orders_104 rfl ?_
          refine Rp.callV1 M_X12_runs (ci := 12) dX12_orders_105 mo_X12_runs lk_X12_485 (by decide) rfl rfl (S _ _ rfl) (Nat.le_of_ble_eq_true rfl) (Nat.le_of_ble_eq_true rfl) (rn) (fun v1 h1 p1 x1 => ?_)
          obtain ⟨F1, rfl, M1, e51⟩ := p1
          try dsimp only [Option.toList, List.cons_append, List.nil_append, List.append]
          first | ((with_reducible show Rp _ _ _ _ (.int (b2i _) :: _) _ _); refine Rp.if_eqB (tgt := 114) dX12_orders_108 (by decide) (fun c108 => ?_) (fun c108 => ?_)) | ((with_reducible show Rp _ _ _ _ (.int (nI _) :: _) _ _); refine Rp.if_eqN (tgt := 114) dX12_orders_108 (by decide) (by omega) (fun c108 => ?_) (fun c108 => ?_)) | refine Rp.if_eq (tgt := 114) dX12_orders_108 (by decide) (fun c108 => ?_) (fun c108 => ?_)
          · cases c108
          skip
          have k1 := knext s1 h1 hr M1 O1 (F.trans F1) e51
          refine Rp.goto (tgt := 167) dX12_orders_111 (by decide) ?_
          first | ((with_reducible show Rp _ _ _ (_ :: _ :: _ :: some (.int (nI _)) :: _) _ _ _); refine Rp.inc3N (c := 1) dX12_orders_167 (by first | exact nl2_some rfl | exact nl2_none) (by decide) ?_) | refine Rp.inc3 _ dX12_orders_167 rfl (by first | exact nl2_some rfl | exact nl2_none) (by decide) ?_
          refine Rp.goto (tgt := 95) dX12_orders_170 (by decide) ?_
          exact k1
      by_cases h159 : c i' = 159
      · rw [if_pos h159] at hL
        have hi2 := lt_of_code hc o2 (by rw [h159]; decide)
        match hr : rdL true c v T f k (i' + 1) lv' (a + cd.length), hL with
        | .error e, hL => cases hL
        | .ok L2, hL =>
          cases hL
          refine mainK L2 rfl (fun s1 g1 e1 M1 O1 F1 e51 => ?_)
          have eo : orL fl np nt ((i, a, i', cd, vb, tm, p, q, ts) :: L2) n s = orL fl np nt L2 (n + 1) s1 := by rw [orL]; show (match orT fl np nt (vb, tm, p, q, ts) tm s with | none => _ | some s' => _) = _; rw [e1]
          rw [eo] at kok kerr
          rw [List.length_cons] at hN hn
          exact ih (i' + 1) lv' _ L2 (n + 1) (N + 20) s1 g1 hr hi2 o3 M1 O1 (by omega) (by omega) F1 e51 kok kerr
      · rw [if_neg h159] at hL
        by_cases h2 : i' < T
        · rw [if_pos h2] at hL; cases hL
        · rw [if_neg h2] at hL
          cases hL
          have eT : i' = T := by omega
          subst eT
          refine mainK [] rfl (fun s1 g1 e1 M1 O1 F1 e51 => ?_)
          have eo : orL fl np nt [(i, a, i', cd, vb, tm, p, q, ts)] n s = .ok s1 := by rw [orL]; show (match orT fl np nt (vb, tm, p, q, ts) tm s with | none => _ | some s' => _) = _; rw [e1]; rfl
          have k1 := kok s1 g1 (n + 1) eo M1 F1
          exact mord95x d M1.1.1 ua (by omega) e51 k1
/-- the first rows of left0 laid aside -/
theorem mord27 {P : Option Value → AH → Prop} {h : AH} (S0 : ShOK h) (R0 : RfOK h) (kk : Rp d M_X12_orders 52 [some (.ref aM), some (.int (nI 128)), none, none, none] [] (wrI h 114 (fun i => i) (gI h 113) 128) P) : ∀ (m i : Nat), i + m = 128 → Rp d M_X12_orders 27 [some (.ref aM), some (.int (nI i)), none, none, none] [] (wrI h 114 (fun i => i) (gI h 113) i) P := by
  intro m
  induction m with
  | zero =>
    intro i hi
    have e : i = 128 := by omega
    subst e
    refine Rp.iload_n dX12_orders_27 rfl ?_
    refine Rp.sipush (nI 128) dX12_orders_28 (by decide) ?_
    first | ((with_reducible show Rp _ _ _ _ (.int (nI _) :: .int (nI _) :: _) _ _); refine Rp.icmp_geN (tgt := 52) dX12_orders_31 (by decide) (by omega) (fun c31 => ?_) (fun c31 => ?_)) | refine Rp.icmp_ge (tgt := 52) dX12_orders_31 (by decide) (fun c31 => ?_) (fun c31 => ?_)
    · skip
      exact kk
    · skip
      first | (exfalso; omega) | exact absurd c31 (by decide) | exact absurd (by decide) c31
  | succ m ih =>
    intro i hi
    have S := S0.wr 114 (fun i => i) (gI h 113) i
    have R := R0.wr 114 (fun i => i) (gI h 113) i
    refine Rp.iload_n dX12_orders_27 rfl ?_
    refine Rp.sipush (nI 128) dX12_orders_28 (by decide) ?_
    first | ((with_reducible show Rp _ _ _ _ (.int (nI _) :: .int (nI _) :: _) _ _); refine Rp.icmp_geN (tgt := 52) dX12_orders_31 (by decide) (by omega) (fun c31 => ?_) (fun c31 => ?_)) | refine Rp.icmp_ge (tgt := 52) dX12_orders_31 (by decide) (fun c31 => ?_) (fun c31 => ?_)
    · skip
      first | (exfalso; omega) | exact absurd c31 (by decide) | exact absurd (by decide) c31
    · skip
      refine Rp.aload_n dX12_orders_34 rfl rfl ?_
      refine Rp.getR dX12_orders_35 fk_X12_65 rfl (S _ _ rfl) (R _ _ _ rfl) ?_
      refine Rp.iload_n dX12_orders_38 rfl ?_
      refine Rp.aload_n dX12_orders_39 rfl rfl ?_
      refine Rp.getR dX12_orders_40 fk_X12_62 rfl (S _ _ rfl) (R _ _ _ rfl) ?_
      refine Rp.iload_n dX12_orders_43 rfl ?_
      first | ((with_reducible show Rp _ _ _ _ (.int (nI _) :: _) _ _); refine Rp.ialoadN dX12_orders_44 (S _ _ rfl) (by omega) ?_) | refine Rp.iaload dX12_orders_44 (S _ _ rfl) (by first | assumption | exact vpb (by decide)) ?_
      rw [gI_wrI_ne h _ _ (by decide)]
      first | ((with_reducible show Rp _ _ _ _ (_ :: .int (nI _) :: _) _ _); refine Rp.iastoreN dX12_orders_45 (S _ _ rfl) (by omega) ?_) | refine Rp.iastore dX12_orders_45 (S _ _ rfl) (by first | assumption | exact vpb (by decide)) ?_
      first | ((with_reducible show Rp _ _ _ (_ :: some (.int (nI _)) :: _) _ _ _); refine Rp.inc1N (c := 1) dX12_orders_46 (by first | exact nl2_some rfl | exact nl2_none) (by decide) ?_) | refine Rp.inc1 _ dX12_orders_46 rfl (by first | exact nl2_some rfl | exact nl2_none) (by decide) ?_
      refine Rp.goto (tgt := 27) dX12_orders_49 (by decide) ?_
      exact ih (i + 1) (by omega)
theorem mord122 {P : Option Value → AH → Prop} {h : AH} (S0 : ShOK h) (R0 : RfOK h) (a1 a2 a3 : Int32) (kk : Rp d M_X12_orders 150 [some (.ref aM), some (.int a1), some (.int a2), some (.int a3), some (.int (nI 128))] [] (wrI h 113 (fun i => i) (gI h 114) 128) P) : ∀ (m i : Nat), i + m = 128 → Rp d M_X12_orders 122 [some (.ref aM), some (.int a1), some (.int a2), some (.int a3), some (.int (nI i))] [] (wrI h 113 (fun i => i) (gI h 114) i) P := by
  intro m
  induction m with
  | zero =>
    intro i hi
    have e : i = 128 := by omega
    subst e
    refine Rp.iload dX12_orders_122 rfl ?_
    refine Rp.sipush (nI 128) dX12_orders_124 (by decide) ?_
    first | ((with_reducible show Rp _ _ _ _ (.int (nI _) :: .int (nI _) :: _) _ _); refine Rp.icmp_geN (tgt := 150) dX12_orders_127 (by decide) (by omega) (fun c127 => ?_) (fun c127 => ?_)) | refine Rp.icmp_ge (tgt := 150) dX12_orders_127 (by decide) (fun c127 => ?_) (fun c127 => ?_)
    · skip
      exact kk
    · skip
      first | (exfalso; omega) | exact absurd c127 (by decide) | exact absurd (by decide) c127
  | succ m ih =>
    intro i hi
    have S := S0.wr 113 (fun i => i) (gI h 114) i
    have R := R0.wr 113 (fun i => i) (gI h 114) i
    refine Rp.iload dX12_orders_122 rfl ?_
    refine Rp.sipush (nI 128) dX12_orders_124 (by decide) ?_
    first | ((with_reducible show Rp _ _ _ _ (.int (nI _) :: .int (nI _) :: _) _ _); refine Rp.icmp_geN (tgt := 150) dX12_orders_127 (by decide) (by omega) (fun c127 => ?_) (fun c127 => ?_)) | refine Rp.icmp_ge (tgt := 150) dX12_orders_127 (by decide) (fun c127 => ?_) (fun c127 => ?_)
    · skip
      first | (exfalso; omega) | exact absurd c127 (by decide) | exact absurd (by decide) c127
    · skip
      refine Rp.aload_n dX12_orders_130 rfl rfl ?_
      refine Rp.getR dX12_orders_131 fk_X12_62 rfl (S _ _ rfl) (R _ _ _ rfl) ?_
      refine Rp.iload dX12_orders_134 rfl ?_
      refine Rp.aload_n dX12_orders_136 rfl rfl ?_
      refine Rp.getR dX12_orders_137 fk_X12_65 rfl (S _ _ rfl) (R _ _ _ rfl) ?_
      refine Rp.iload dX12_orders_140 rfl ?_
      first | ((with_reducible show Rp _ _ _ _ (.int (nI _) :: _) _ _); refine Rp.ialoadN dX12_orders_142 (S _ _ rfl) (by omega) ?_) | refine Rp.iaload dX12_orders_142 (S _ _ rfl) (by first | assumption | exact vpb (by decide)) ?_
      rw [gI_wrI_ne h _ _ (by decide)]
      first | ((with_reducible show Rp _ _ _ _ (_ :: .int (nI _) :: _) _ _); refine Rp.iastoreN dX12_orders_143 (S _ _ rfl) (by omega) ?_) | refine Rp.iastore dX12_orders_143 (S _ _ rfl) (by first | assumption | exact vpb (by decide)) ?_
      first | ((with_reducible show Rp _ _ _ (_ :: _ :: _ :: _ :: some (.int (nI _)) :: _) _ _ _); refine Rp.inc4N (c := 1) dX12_orders_144 (by first | exact nl2_some rfl | exact nl2_none) (by decide) ?_) | refine Rp.inc4 _ dX12_orders_144 rfl (by first | exact nl2_some rfl | exact nl2_none) (by decide) ?_
      refine Rp.goto (tgt := 122) dX12_orders_147 (by decide) ?_
      exact ih (i + 1) (by omega)
theorem LGm.fr {X : Nat → Nat → Bool} {h g : AH} {US : List (Nat → Int32)} (L : LGm h US) (F : Fr X h g) (h32 : X 100 32 = false) (h113 : ∀ j, X 113 j = false) : LGm g US := ⟨L.1, (F.I 100 32 h32).trans L.2.1, fun i r hi j hj => (F.I 113 _ (h113 _)).trans (L.2.2 i r hi j hj)⟩
end Mz
