section Cp4
variable (d : Nat) {K : Nat → Int32} {fl : Option (List CLE)} {np nt nd : Nat} {σ : Type} {RS : AH → σ → Prop} {Z : Nat → Nat → Bool} {f : (Nat → Int32) → σ → σ} {at9 : Bool}
theorem t_ways (hZ : ∀ k j, Z k j = false → plX k j = false) (hRS : ∀ g g' s, RS g s → Fr plX g g' → RS g' s) (B : KB K) (h6 : np ≤ 6)
    (leafA : at9 = true → ∀ g W s, PB g K fl np nt nd W → gI g 52 9 = b2i at9 → RS g s → (∀ q, (K q = -1 → W q = -1) ∧ (q < np → K q ≠ -1 → W q ≠ -1)) → Rp (d + 4) M_X6_keepIfAsTold 0 [some (.ref 52), none, none, none] [] g (LfQ K fl np nt nd RS Z at9 g W (f W s)))
    (leafB : at9 = false → ∀ g W s, PB g K fl np nt nd W → gI g 52 9 = b2i at9 → RS g s → (∀ q, (K q = -1 → W q = -1) ∧ (q < np → K q ≠ -1 → W q ≠ -1)) → Rp (d + 4) M_X6_keepIfBetter 0 [some (.ref 52), none, none] [] g (LfQ K fl np nt nd RS Z at9 g W (f W s))) :
    ∀ (m p : Nat) (W : Nat → Int32) (s : σ) (g : AH), p + m = np → (∀ q, p ≤ q → W q = -1) → (∀ q, (K q = -1 → W q = -1) ∧ (q < p → K q ≠ -1 → W q ≠ -1)) → PB g K fl np nt nd W → gI g 52 9 = b2i at9 → RS g s → Rp (d + 5 + m) M_X6_place 0 [some (.ref 52), some (.int (nI p)), none, none] [] g (LfQ K fl np nt nd RS Z at9 g W (twF np (tkL K np nt 0) (okC9 K fl at9) f (hlR K m p) W s)) := by
  intro m
  induction m with
  | zero =>
    intro p W s g hm hq hw P h9 hS
    have e : p = np := by omega
    subst e
    obtain ⟨S, R, J, M, D, L, V, e53, e54⟩ := id P
    have m3 : gI g 1 0 = nI p := M.2.2.1
    have j40 : gR g 40 3 = some 1 := J.1
    cases hb : at9
    · have lb := leafB hb g W s P h9 hS hw
      have q9 : gI g 52 9 = b2i false := by rw [h9, hb]
      rw [hb] at lb
      refine Rp.aload_n dX6_place_0 rfl rfl ?_
      refine Rp.getR dX6_place_1 fk_X6_27 rfl (S _ _ rfl) (R _ _ _ rfl) ?_
      refine Rp.getR dX6_place_4 fk_X6_86 rfl (S _ _ rfl) j40 ?_
      refine Rp.ast2 dX6_place_7 (by first | exact nl2_some rfl | exact nl2_none) (by decide) ?_
      refine Rp.iload_n dX6_place_8 rfl ?_
      refine Rp.aload_n dX6_place_9 rfl rfl ?_
      refine Rp.getI dX6_place_10 fk_X6_90 rfl (S _ _ rfl) ?_
      first | rw [m3] | rw [q9] | skip
      first | ((with_reducible show Rp _ _ _ _ (.int (nI _) :: .int (nI _) :: _) _ _); refine Rp.icmp_ltN (tgt := 35) dX6_place_13 (by decide) (by omega) (fun c13 => ?_) (fun c13 => ?_)) | refine Rp.icmp_lt (tgt := 35) dX6_place_13 (by decide) (fun c13 => ?_) (fun c13 => ?_)
      · skip
        first | (exfalso; omega) | exact absurd c13 (by decide) | exact absurd (by decide) c13
      · skip
        refine Rp.aload_n dX6_place_16 rfl rfl ?_
        refine Rp.getI dX6_place_17 fk_X6_49 rfl (S _ _ rfl) ?_
        first | rw [m3] | rw [q9] | skip
        first | ((with_reducible show Rp _ _ _ _ (.int (b2i _) :: _) _ _); refine Rp.if_eqB (tgt := 30) dX6_place_20 (by decide) (fun c20 => ?_) (fun c20 => ?_)) | ((with_reducible show Rp _ _ _ _ (.int (nI _) :: _) _ _); refine Rp.if_eqN (tgt := 30) dX6_place_20 (by decide) (by omega) (fun c20 => ?_) (fun c20 => ?_)) | refine Rp.if_eq (tgt := 30) dX6_place_20 (by decide) (fun c20 => ?_) (fun c20 => ?_)
        · skip
          refine Rp.aload_n dX6_place_30 rfl rfl ?_
          refine Rp.callV0 M_X6_keepIfBetter (ci := 6) dX6_place_31 mo_X6_keepIfBetter lk_X6_96 (by decide) rfl rfl (S _ _ rfl) (Nat.le_of_ble_eq_true rfl) (Nat.le_of_ble_eq_true rfl) (lb) (fun v1 h1 p1 x1 => ?_)
          have pz := p1
          obtain ⟨rfl, -⟩ := p1
          try dsimp only [Option.toList, List.cons_append, List.nil_append, List.append]
          refine Rp.vreturn dX6_place_34 rfl ?_
          exact pz
        · skip
          cases c20
    · have lb := leafA hb g W s P h9 hS hw
      have q9 : gI g 52 9 = b2i true := by rw [h9, hb]
      rw [hb] at lb
      refine Rp.aload_n dX6_place_0 rfl rfl ?_
      refine Rp.getR dX6_place_1 fk_X6_27 rfl (S _ _ rfl) (R _ _ _ rfl) ?_
      refine Rp.getR dX6_place_4 fk_X6_86 rfl (S _ _ rfl) j40 ?_
      refine Rp.ast2 dX6_place_7 (by first | exact nl2_some rfl | exact nl2_none) (by decide) ?_
      refine Rp.iload_n dX6_place_8 rfl ?_
      refine Rp.aload_n dX6_place_9 rfl rfl ?_
      refine Rp.getI dX6_place_10 fk_X6_90 rfl (S _ _ rfl) ?_
      first | rw [m3] | rw [q9] | skip
      first | ((with_reducible show Rp _ _ _ _ (.int (nI _) :: .int (nI _) :: _) _ _); refine Rp.icmp_ltN (tgt := 35) dX6_place_13 (by decide) (by omega) (fun c13 => ?_) (fun c13 => ?_)) | refine Rp.icmp_lt (tgt := 35) dX6_place_13 (by decide) (fun c13 => ?_) (fun c13 => ?_)
      · skip
        first | (exfalso; omega) | exact absurd c13 (by decide) | exact absurd (by decide) c13
      · skip
        refine Rp.aload_n dX6_place_16 rfl rfl ?_
        refine Rp.getI dX6_place_17 fk_X6_49 rfl (S _ _ rfl) ?_
        first | rw [m3] | rw [q9] | skip
        first | ((with_reducible show Rp _ _ _ _ (.int (b2i _) :: _) _ _); refine Rp.if_eqB (tgt := 30) dX6_place_20 (by decide) (fun c20 => ?_) (fun c20 => ?_)) | ((with_reducible show Rp _ _ _ _ (.int (nI _) :: _) _ _); refine Rp.if_eqN (tgt := 30) dX6_place_20 (by decide) (by omega) (fun c20 => ?_) (fun c20 => ?_)) | refine Rp.if_eq (tgt := 30) dX6_place_20 (by decide) (fun c20 => ?_) (fun c20 => ?_)
        · skip
          cases c20
        · skip
          refine Rp.aload_n dX6_place_23 rfl rfl ?_
          refine Rp.callV0 M_X6_keepIfAsTold (ci := 6) dX6_place_24 mo_X6_keepIfAsTold lk_X6_93 (by decide) rfl rfl (S _ _ rfl) (Nat.le_of_ble_eq_true rfl) (Nat.le_of_ble_eq_true rfl) (lb) (fun v1 h1 p1 x1 => ?_)
          have pz := p1
          obtain ⟨rfl, -⟩ := p1
          try dsimp only [Option.toList, List.cons_append, List.nil_append, List.append]
          refine Rp.goto (tgt := 34) dX6_place_27 (by decide) ?_
          refine Rp.vreturn dX6_place_34 rfl ?_
          exact pz
  | succ m ih =>
    intro p W s g hm hq hw P h9 hS
    obtain ⟨S, R, J, M, D, L, V, e53, e54⟩ := id P
    have m3 : gI g 1 0 = nI np := M.2.2.1
    have j40 : gR g 40 3 = some 1 := J.1
    have ek : gI g 4 p = K p := M.2.2.2.2.1 p (by omega)
    rw [hlR]
    by_cases c : K p = -1
    · rw [if_pos c]
      have k1 := ih (p + 1) W s g (by omega) (fun q h => hq q (by omega)) (fun q => ⟨(hw q).1, fun h1 h2 => (hw q).2 (by
        have : q ≠ p := fun z => h2 (by rw [z]; exact c)
        omega) h2⟩) P h9 hS
      refine Rp.aload_n dX6_place_0 rfl rfl ?_
      refine Rp.getR dX6_place_1 fk_X6_27 rfl (S _ _ rfl) (R _ _ _ rfl) ?_
      refine Rp.getR dX6_place_4 fk_X6_86 rfl (S _ _ rfl) j40 ?_
      refine Rp.ast2 dX6_place_7 (by first | exact nl2_some rfl | exact nl2_none) (by decide) ?_
      refine Rp.iload_n dX6_place_8 rfl ?_
      refine Rp.aload_n dX6_place_9 rfl rfl ?_
      refine Rp.getI dX6_place_10 fk_X6_90 rfl (S _ _ rfl) ?_
      first | rw [m3] | rw [ek] | skip
      first | ((with_reducible show Rp _ _ _ _ (.int (nI _) :: .int (nI _) :: _) _ _); refine Rp.icmp_ltN (tgt := 35) dX6_place_13 (by decide) (by omega) (fun c13 => ?_) (fun c13 => ?_)) | refine Rp.icmp_lt (tgt := 35) dX6_place_13 (by decide) (fun c13 => ?_) (fun c13 => ?_)
      · skip
        refine Rp.aload_n dX6_place_35 rfl rfl ?_
        refine Rp.getR dX6_place_36 fk_X6_99 rfl (S _ _ rfl) (R _ _ _ rfl) ?_
        refine Rp.iload_n dX6_place_39 rfl ?_
        first | ((with_reducible show Rp _ _ _ _ (.int (nI _) :: _) _ _); refine Rp.ialoadN dX6_place_40 (S _ _ rfl) (by omega) ?_) | refine Rp.iaload dX6_place_40 (S _ _ rfl) (by first | assumption | exact vpb (by decide)) ?_
        first | rw [m3] | rw [ek] | skip
        refine Rp.iconst (-1) dX6_place_41 (by decide) ?_
        first | ((with_reducible show Rp _ _ _ _ (.int (nI _) :: .int (nI _) :: _) _ _); refine Rp.icmp_neN (tgt := 53) dX6_place_42 (by decide) (by omega) (fun c42 => ?_) (fun c42 => ?_)) | refine Rp.icmp_ne (tgt := 53) dX6_place_42 (by decide) (fun c42 => ?_) (fun c42 => ?_)
        · skip
          exact absurd c c42
        · skip
          refine Rp.aload_n dX6_place_45 rfl rfl ?_
          refine Rp.iload_n dX6_place_46 rfl ?_
          refine Rp.iconst (nI 1) dX6_place_47 (by decide) ?_
          first | ((with_reducible show Rp _ _ _ _ (.int (nI _) :: .int (nI _) :: _) _ _); refine Rp.iaddN dX6_place_48 ?_) | refine Rp.iadd dX6_place_48 ?_
          refine Rp.callV1 M_X6_place (ci := 6) dX6_place_49 mo_X6_place lk_X6_56 (by decide) rfl rfl (S _ _ rfl) (Nat.le_of_ble_eq_true rfl) (Nat.le_of_ble_eq_true rfl) (k1) (fun v1 h1 p1 x1 => ?_)
          have pz := p1
          obtain ⟨rfl, -⟩ := p1
          try dsimp only [Option.toList, List.cons_append, List.nil_append, List.append]
          refine Rp.vreturn dX6_place_52 rfl ?_
          exact pz
      · skip
        first | (exfalso; omega) | exact absurd c13 (by decide) | exact absurd (by decide) c13
    · rw [if_neg c]
      have hWp : W p = -1 := hq p (Nat.le_refl _)
      have k55 := place55 d (at9 := at9) (f := f) (m := m) (g0 := g) (ps := hlR K m (p + 1)) hZ hRS B (show p < np by omega) hWp V (fun t g' s' ht hH P' h9' hS' => ih (p + 1) (upK W p (nI t)) s' g' (by omega) (fun q h => by unfold upK; rw [if_neg (by omega)]; exact hq q (by omega)) (fun q => by
        unfold upK
        by_cases z : q = p
        · rw [if_pos z]
          refine ⟨fun y => absurd (by rw [← z]; exact y) c, fun _ _ => nI_m1 (by have := V.2.1; omega)⟩
        · rw [if_neg z]
          exact ⟨(hw q).1, fun h1 h2 => (hw q).2 (by omega) h2⟩) P' h9' hS') nt 0 s g (by omega) (PBx.of P) h9 hS Fr.rfl'
      refine Rp.aload_n dX6_place_0 rfl rfl ?_
      refine Rp.getR dX6_place_1 fk_X6_27 rfl (S _ _ rfl) (R _ _ _ rfl) ?_
      refine Rp.getR dX6_place_4 fk_X6_86 rfl (S _ _ rfl) j40 ?_
      refine Rp.ast2 dX6_place_7 (by first | exact nl2_some rfl | exact nl2_none) (by decide) ?_
      refine Rp.iload_n dX6_place_8 rfl ?_
      refine Rp.aload_n dX6_place_9 rfl rfl ?_
      refine Rp.getI dX6_place_10 fk_X6_90 rfl (S _ _ rfl) ?_
      first | rw [m3] | rw [ek] | skip
      first | ((with_reducible show Rp _ _ _ _ (.int (nI _) :: .int (nI _) :: _) _ _); refine Rp.icmp_ltN (tgt := 35) dX6_place_13 (by decide) (by omega) (fun c13 => ?_) (fun c13 => ?_)) | refine Rp.icmp_lt (tgt := 35) dX6_place_13 (by decide) (fun c13 => ?_) (fun c13 => ?_)
      · skip
        refine Rp.aload_n dX6_place_35 rfl rfl ?_
        refine Rp.getR dX6_place_36 fk_X6_99 rfl (S _ _ rfl) (R _ _ _ rfl) ?_
        refine Rp.iload_n dX6_place_39 rfl ?_
        first | ((with_reducible show Rp _ _ _ _ (.int (nI _) :: _) _ _); refine Rp.ialoadN dX6_place_40 (S _ _ rfl) (by omega) ?_) | refine Rp.iaload dX6_place_40 (S _ _ rfl) (by first | assumption | exact vpb (by decide)) ?_
        first | rw [m3] | rw [ek] | skip
        refine Rp.iconst (-1) dX6_place_41 (by decide) ?_
        first | ((with_reducible show Rp _ _ _ _ (.int (nI _) :: .int (nI _) :: _) _ _); refine Rp.icmp_neN (tgt := 53) dX6_place_42 (by decide) (by omega) (fun c42 => ?_) (fun c42 => ?_)) | refine Rp.icmp_ne (tgt := 53) dX6_place_42 (by decide) (fun c42 => ?_) (fun c42 => ?_)
        · skip
          refine Rp.iconst (nI 0) dX6_place_53 (by decide) ?_
          refine Rp.ist3 dX6_place_54 (by first | exact nl2_some rfl | exact nl2_none) (by decide) ?_
          exact k55
        · skip
          exact absurd c42 c
      · skip
        first | (exfalso; omega) | exact absurd c13 (by decide) | exact absurd (by decide) c13
end Cp4
