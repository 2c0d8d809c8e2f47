/-- the code of a text, one clause behind the other -/
def cdA (LS : List CLE) : List (Nat × Nat) := LS.flatMap (fun e => e.2.2.2.1)
def hdQ (e : CLE) : Nat → Int32 := hdV e.2.2.2.2.1 e.2.2.2.2.2.1 e.2.2.2.2.2.2.1 e.2.2.2.2.2.2.2.1 e.2.2.2.2.2.2.2.2
/-- a text of the class: tx its cell, kh its heads, kc its code -/
def TXT (h : AH) (tx kh kc : Nat) (ord : Bool) (LS : List CLE) : Prop := gI h tx 2 = nI LS.length ∧ gI h tx 3 = nI (cdA LS).length ∧ gI h tx 4 = b2i (fitC ord (cdA LS)) ∧ (∀ m q, (cdA LS)[m]? = some q → gI h kc m = enc q) ∧ (∀ m e, LS[m]? = some e → ∀ w, w < 5 → gI h kh (5 * m + w) = hdQ e w)
theorem cdA_snoc (LS : List CLE) (e : CLE) : cdA (LS ++ [e]) = cdA LS ++ e.2.2.2.1 := by
  unfold cdA; rw [List.flatMap_append]; simp
def rdX (k j : Nat) : Bool := rcX k j || (k == 35 && (j == 2 || j == 4))
theorem Fr.rd {h h' : AH} (F : Fr rcX h h') : Fr rdX h h' := F.weak (fun k j hx => by
  unfold rdX at hx
  rw [Bool.or_eq_false_iff] at hx
  exact hx.1)
def rdZ (h0 : AH) (ord : Bool) (L : Nat) (TL : List (Nat × Nat)) (Lp : List CLE) (q : Except Nat (List CLE)) (r : Option Value) (h' : AH) : Prop := Fr rdX h0 h' ∧ gI h' 35 2 = nI 0 ∧ match q with
  | .error e => r = some (.int (nI 0)) ∧ gI h' 35 3 = nI (pT L TL e)
  | .ok L' => r = some (.int (nI 1)) ∧ gI h' 35 3 = -1 ∧ TXT h' 37 38 39 ord (Lp ++ L')
/-- behind some clauses -/
def RI (h : AH) (ord : Bool) (L : Nat) (TL : List (Nat × Nat)) (Lp : List CLE) (i lv : Nat) : Prop := GS h L TL i lv (cdA Lp).length (fitC ord (cdA Lp)) ∧ (∀ m q, (cdA Lp)[m]? = some q → gI h 39 m = enc q) ∧ gI h 37 2 = nI Lp.length ∧ (∀ m e, Lp[m]? = some e → ∀ w, w < 5 → gI h 38 (5 * m + w) = hdQ e w)
theorem RI.step {h h' : AH} {ord : Bool} {L : Nat} {TL : List (Nat × Nat)} {Lp : List CLE} {i lv i' lv' : Nat} {i0 a0 i1 : Nat} {cd : List (Nat × Nat)} {vb tm : Nat} {p q ts : PT} (I : RI h ord L TL Lp i lv) (M : MC h ord L TL Lp.length (cdA Lp).length (fitC ord (cdA Lp)) h' i' lv' cd (hdV vb tm p q ts)) : RI h' ord L TL (Lp ++ [(i0, a0, i1, cd, vb, tm, p, q, ts)]) i' lv' := by
  obtain ⟨F, G, m1, m2, m3, m4, m5⟩ := M
  obtain ⟨J1, J2, J3, J4⟩ := I
  unfold RI
  rw [cdA_snoc, List.length_append, List.length_append, fitC_app]
  refine ⟨G, fun m q hq => ?_, m3, fun m e he w hw => ?_⟩
  · by_cases hm : m < (cdA Lp).length
    · rw [List.getElem?_append_left hm] at hq
      rw [m1 m hm]; exact J2 m q hq
    · rw [List.getElem?_append_right (by omega)] at hq
      have := m2 _ q hq
      rw [show (cdA Lp).length + (m - (cdA Lp).length) = m by omega] at this; exact this
  · by_cases hm : m < Lp.length
    · rw [List.getElem?_append_left hm] at he
      rw [m4 _ (by omega)]; exact J4 m e he w hw
    · rw [List.getElem?_append_right (by omega)] at he
      have hz : m = Lp.length := by
        have := (List.getElem?_eq_some_iff.mp he).1
        rw [List.length_singleton] at this; omega
      subst hz
      rw [Nat.sub_self] at he
      cases he
      exact m5 w hw
section Rd
variable (d : Nat) {h0 h : AH} {ord : Bool} {tb : Nat → Int32} {L : Nat} {TL : List (Nat × Nat)} {f : Nat}
theorem read_bad {e n : Nat} (S : ShOK h) (hb : gI h 35 3 ≠ -1) (hn : n < 12) (a1 : Int32) : Rp (d + 37) M_X7_read 80 [some (.ref 35), some (.int a1), some (.int (nI 0)), some (.int (nI n))] [] h (fun r h' => r = some (.int (nI 0)) ∧ h' = sI h 35 2 (nI 0)) := by
  have hb2 : gI (sI h 35 2 (nI 0)) 35 3 ≠ -1 := by rw [gI_off _ _ _ (by decide)]; exact hb
  have w1 := bad_wrong (d + 36) S hb
  have fin : Rp (d + 37) M_X7_read 86 [some (.ref 35), some (.int a1), some (.int (nI 0)), some (.int (nI (n + 1)))] [] h (fun r h' => r = some (.int (nI 0)) ∧ h' = sI h 35 2 (nI 0)) := by
    refine Rp.iload_n dX7_read_86 rfl ?_
    first | ((with_reducible show Rp _ _ _ _ (.int (b2i _) :: _) _ _); refine Rp.if_neB (tgt := 98) dX7_read_87 (by decide) (fun c87 => ?_) (fun c87 => ?_)) | ((with_reducible show Rp _ _ _ _ (.int (nI _) :: _) _ _); refine Rp.if_neN (tgt := 98) dX7_read_87 (by decide) (by omega) (fun c87 => ?_) (fun c87 => ?_)) | refine Rp.if_ne (tgt := 98) dX7_read_87 (by decide) (fun c87 => ?_) (fun c87 => ?_)
    · skip
      first | (exfalso; omega) | exact absurd c87 (by decide) | exact absurd (by decide) c87
    · skip
      refine Rp.aload_n dX7_read_90 rfl rfl ?_
      refine Rp.getI dX7_read_91 fk_X7_48 rfl (S _ _ rfl) ?_
      refine Rp.iconst (-1) dX7_read_94 (by decide) ?_
      first | ((with_reducible show Rp _ _ _ _ (.int (nI _) :: .int (nI _) :: _) _ _); refine Rp.icmp_eqN (tgt := 102) dX7_read_95 (by decide) (by omega) (fun c95 => ?_) (fun c95 => ?_)) | refine Rp.icmp_eq (tgt := 102) dX7_read_95 (by decide) (fun c95 => ?_) (fun c95 => ?_)
      · skip
        refine Rp.aload_n dX7_read_102 rfl rfl ?_
        refine Rp.iconst (nI 0) dX7_read_103 (by decide) ?_
        refine Rp.putI dX7_read_104 fk_X7_26w rfl (S _ _ rfl) ?_
        refine Rp.aload_n dX7_read_107 rfl rfl ?_
        refine Rp.getI dX7_read_108 fk_X7_22 rfl (S _ _ rfl) ?_
        refine Rp.iconst (-1) dX7_read_111 (by decide) ?_
        first | ((with_reducible show Rp _ _ _ _ (.int (nI _) :: .int (nI _) :: _) _ _); refine Rp.icmp_neN (tgt := 119) dX7_read_112 (by decide) (by omega) (fun c112 => ?_) (fun c112 => ?_)) | refine Rp.icmp_ne (tgt := 119) dX7_read_112 (by decide) (fun c112 => ?_) (fun c112 => ?_)
        · skip
          refine Rp.iconst (nI 0) dX7_read_119 (by decide) ?_
          refine Rp.zreturn dX7_read_120 rfl (Or.inl rfl) ?_
          exact ⟨rfl, rfl⟩
        · skip
          exact absurd c112 hb2
      · skip
        refine Rp.aload_n dX7_read_98 rfl rfl ?_
        refine Rp.callV0 M_X7_wrong (ci := 7) dX7_read_99 mo_X7_wrong lk_X7_51 (by decide) rfl rfl (S _ _ rfl) (Nat.le_of_ble_eq_true rfl) (Nat.le_of_ble_eq_true rfl) (w1) (fun v1 h1 p1 x1 => ?_)
        obtain ⟨rfl, rfl⟩ := p1
        try dsimp only [Option.toList, List.cons_append, List.nil_append, List.append]
        refine Rp.aload_n dX7_read_102 rfl rfl ?_
        refine Rp.iconst (nI 0) dX7_read_103 (by decide) ?_
        refine Rp.putI dX7_read_104 fk_X7_26w rfl (S _ _ rfl) ?_
        refine Rp.aload_n dX7_read_107 rfl rfl ?_
        refine Rp.getI dX7_read_108 fk_X7_22 rfl (S _ _ rfl) ?_
        refine Rp.iconst (-1) dX7_read_111 (by decide) ?_
        first | ((with_reducible show Rp _ _ _ _ (.int (nI _) :: .int (nI _) :: _) _ _); refine Rp.icmp_neN (tgt := 119) dX7_read_112 (by decide) (by omega) (fun c112 => ?_) (fun c112 => ?_)) | refine Rp.icmp_ne (tgt := 119) dX7_read_112 (by decide) (fun c112 => ?_) (fun c112 => ?_)
        · skip
          refine Rp.iconst (nI 0) dX7_read_119 (by decide) ?_
          refine Rp.zreturn dX7_read_120 rfl (Or.inl rfl) ?_
          exact ⟨rfl, rfl⟩
        · skip
          exact absurd c112 hb2
  first | ((with_reducible show Rp _ _ _ (_ :: _ :: _ :: some (.int (nI _)) :: _) _ _ _); refine Rp.inc3N (c := 1) dX7_read_80 (by first | exact nl2_some rfl | exact nl2_none) (by decide) ?_) | refine Rp.inc3 _ dX7_read_80 rfl (by first | exact nl2_some rfl | exact nl2_none) (by decide) ?_
  refine Rp.goto (tgt := 35) dX7_read_83 (by decide) ?_
  refine Rp.iload_n dX7_read_35 rfl ?_
  refine Rp.bipush (nI 12) dX7_read_36 (by decide) ?_
  first | ((with_reducible show Rp _ _ _ _ (.int (nI _) :: .int (nI _) :: _) _ _); refine Rp.icmp_geN (tgt := 86) dX7_read_38 (by decide) (by omega) (fun c38 => ?_) (fun c38 => ?_)) | refine Rp.icmp_ge (tgt := 86) dX7_read_38 (by decide) (fun c38 => ?_) (fun c38 => ?_)
  · skip
    exact fin
  · skip
    refine Rp.iload_n dX7_read_41 rfl ?_
    first | ((with_reducible show Rp _ _ _ _ (.int (b2i _) :: _) _ _); refine Rp.if_eqB (tgt := 86) dX7_read_42 (by decide) (fun c42 => ?_) (fun c42 => ?_)) | ((with_reducible show Rp _ _ _ _ (.int (nI _) :: _) _ _); refine Rp.if_eqN (tgt := 86) dX7_read_42 (by decide) (by omega) (fun c42 => ?_) (fun c42 => ?_)) | refine Rp.if_eq (tgt := 86) dX7_read_42 (by decide) (fun c42 => ?_) (fun c42 => ?_)
    · skip
      exact fin
    · skip
      first | (exfalso; omega) | exact absurd c42 (by decide) | exact absurd (by decide) c42
theorem sg_end {i : Nat} (T : TS h L TL i) : gI h 35 7 = -1 ↔ TL[i]? = none := by
  match hq : TL[i]? with
  | none => exact ⟨fun _ => rfl, fun _ => (TS_end T hq).2.2⟩
  | some q =>
    rw [(TS_tok T hq).2.2.1]
    refine ⟨fun z => ?_, fun z => nomatch z⟩
    exfalso
    unfold sgT at z
    by_cases h1 : isSm (gI h 36 q.1) = true
    · rw [if_pos h1] at z; exact absurd z (by decide)
    · rw [if_neg h1] at z
      by_cases h2 : isDg (gI h 36 q.1) = true
      · rw [if_pos h2] at z; exact absurd z (by decide)
      · rw [if_neg h2] at z
        exact nI_ne_m1 (by have := (ub_lt (gI h 36 q.1)).1; omega) z
theorem read_end {i n : Nat} (B : CB h ord tb L TL) (T : TS h L TL i) (hf : gI h 35 3 = -1) (hi : i ≤ TL.length) (hn : n < 12) (a1 : Int32) : Rp (d + 37) M_X7_read 80 [some (.ref 35), some (.int a1), some (.int (nI 0)), some (.int (nI n))] [] h (fun r h' => (i < TL.length ∧ r = some (.int (nI 0)) ∧ Fr rdX h h' ∧ gI h' 35 2 = nI 0 ∧ gI h' 35 3 = nI (pT L TL i)) ∨ (i = TL.length ∧ r = some (.int (nI 1)) ∧ h' = sI h 35 2 (nI 0))) := by
  have S := B.1.1
  have sg := sg_end T
  have w1 := t_wrong (d + 36) S hf
  have hf2 : gI (sI h 35 2 (nI 0)) 35 3 = -1 := by rw [gI_off _ _ _ (by decide)]; exact hf
  have st := TS_start T
  have fin : Rp (d + 37) M_X7_read 86 [some (.ref 35), some (.int a1), some (.int (nI 0)), some (.int (nI (n + 1)))] [] h (fun r h' => (i < TL.length ∧ r = some (.int (nI 0)) ∧ Fr rdX h h' ∧ gI h' 35 2 = nI 0 ∧ gI h' 35 3 = nI (pT L TL i)) ∨ (i = TL.length ∧ r = some (.int (nI 1)) ∧ h' = sI h 35 2 (nI 0))) := by
    by_cases e : i = TL.length
    · have y := sg.mpr (List.getElem?_eq_none (by omega))
      refine Rp.iload_n dX7_read_86 rfl ?_
      first | ((with_reducible show Rp _ _ _ _ (.int (b2i _) :: _) _ _); refine Rp.if_neB (tgt := 98) dX7_read_87 (by decide) (fun c87 => ?_) (fun c87 => ?_)) | ((with_reducible show Rp _ _ _ _ (.int (nI _) :: _) _ _); refine Rp.if_neN (tgt := 98) dX7_read_87 (by decide) (by omega) (fun c87 => ?_) (fun c87 => ?_)) | refine Rp.if_ne (tgt := 98) dX7_read_87 (by decide) (fun c87 => ?_) (fun c87 => ?_)
      · skip
        first | (exfalso; omega) | exact absurd c87 (by decide) | exact absurd (by decide) c87
      · skip
        refine Rp.aload_n dX7_read_90 rfl rfl ?_
        refine Rp.getI dX7_read_91 fk_X7_48 rfl (S _ _ rfl) ?_
        first | rw [hf2] | skip
        refine Rp.iconst (-1) dX7_read_94 (by decide) ?_
        first | ((with_reducible show Rp _ _ _ _ (.int (nI _) :: .int (nI _) :: _) _ _); refine Rp.icmp_eqN (tgt := 102) dX7_read_95 (by decide) (by omega) (fun c95 => ?_) (fun c95 => ?_)) | refine Rp.icmp_eq (tgt := 102) dX7_read_95 (by decide) (fun c95 => ?_) (fun c95 => ?_)
        · skip
          refine Rp.aload_n dX7_read_102 rfl rfl ?_
          refine Rp.iconst (nI 0) dX7_read_103 (by decide) ?_
          refine Rp.putI dX7_read_104 fk_X7_26w rfl (S _ _ rfl) ?_
          refine Rp.aload_n dX7_read_107 rfl rfl ?_
          refine Rp.getI dX7_read_108 fk_X7_22 rfl (S _ _ rfl) ?_
          first | rw [hf2] | skip
          refine Rp.iconst (-1) dX7_read_111 (by decide) ?_
          first | ((with_reducible show Rp _ _ _ _ (.int (nI _) :: .int (nI _) :: _) _ _); refine Rp.icmp_neN (tgt := 119) dX7_read_112 (by decide) (by omega) (fun c112 => ?_) (fun c112 => ?_)) | refine Rp.icmp_ne (tgt := 119) dX7_read_112 (by decide) (fun c112 => ?_) (fun c112 => ?_)
          · skip
            exact absurd rfl c112
          · skip
            refine Rp.iconst (nI 1) dX7_read_115 (by decide) ?_
            refine Rp.goto (tgt := 120) dX7_read_116 (by decide) ?_
            refine Rp.zreturn dX7_read_120 rfl (Or.inr rfl) ?_
            exact Or.inr ⟨e, rfl, rfl⟩
        · skip
          exact absurd y c95
    · have y : ¬ gI h 35 7 = -1 := fun z => by
        have := sg.mp z
        rw [List.getElem?_eq_getElem (by omega)] at this
        exact nomatch this
      have hb2 : gI (sI (sI h 35 3 (gI h 35 6)) 35 2 (nI 0)) 35 3 ≠ -1 := by rw [gI_off _ _ _ (by decide), gI_hit, st]; exact pT_m1 B.1.2.2.1 B.2.2 i
      refine Rp.iload_n dX7_read_86 rfl ?_
      first | ((with_reducible show Rp _ _ _ _ (.int (b2i _) :: _) _ _); refine Rp.if_neB (tgt := 98) dX7_read_87 (by decide) (fun c87 => ?_) (fun c87 => ?_)) | ((with_reducible show Rp _ _ _ _ (.int (nI _) :: _) _ _); refine Rp.if_neN (tgt := 98) dX7_read_87 (by decide) (by omega) (fun c87 => ?_) (fun c87 => ?_)) | refine Rp.if_ne (tgt := 98) dX7_read_87 (by decide) (fun c87 => ?_) (fun c87 => ?_)
      · skip
        first | (exfalso; omega) | exact absurd c87 (by decide) | exact absurd (by decide) c87
      · skip
        refine Rp.aload_n dX7_read_90 rfl rfl ?_
        refine Rp.getI dX7_read_91 fk_X7_48 rfl (S _ _ rfl) ?_
        refine Rp.iconst (-1) dX7_read_94 (by decide) ?_
        first | ((with_reducible show Rp _ _ _ _ (.int (nI _) :: .int (nI _) :: _) _ _); refine Rp.icmp_eqN (tgt := 102) dX7_read_95 (by decide) (by omega) (fun c95 => ?_) (fun c95 => ?_)) | refine Rp.icmp_eq (tgt := 102) dX7_read_95 (by decide) (fun c95 => ?_) (fun c95 => ?_)
        · skip
          exact absurd c95 y
        · skip
          refine Rp.aload_n dX7_read_98 rfl rfl ?_
          refine Rp.callV0 M_X7_wrong (ci := 7) dX7_read_99 mo_X7_wrong lk_X7_51 (by decide) rfl rfl (S _ _ rfl) (Nat.le_of_ble_eq_true rfl) (Nat.le_of_ble_eq_true rfl) (w1) (fun v1 h1 p1 x1 => ?_)
          obtain ⟨rfl, rfl⟩ := p1
          try dsimp only [Option.toList, List.cons_append, List.nil_append, List.append]
          refine Rp.aload_n dX7_read_102 rfl rfl ?_
          refine Rp.iconst (nI 0) dX7_read_103 (by decide) ?_
          refine Rp.putI dX7_read_104 fk_X7_26w rfl (S _ _ rfl) ?_
          refine Rp.aload_n dX7_read_107 rfl rfl ?_
          refine Rp.getI dX7_read_108 fk_X7_22 rfl (S _ _ rfl) ?_
          refine Rp.iconst (-1) dX7_read_111 (by decide) ?_
          first | ((with_reducible show Rp _ _ _ _ (.int (nI _) :: .int (nI _) :: _) _ _); refine Rp.icmp_neN (tgt := 119) dX7_read_112 (by decide) (by omega) (fun c112 => ?_) (fun c112 => ?_)) | refine Rp.icmp_ne (tgt := 119) dX7_read_112 (by decide) (fun c112 => ?_) (fun c112 => ?_)
          · skip
            refine Rp.iconst (nI 0) dX7_read_119 (by decide) ?_
            refine Rp.zreturn dX7_read_120 rfl (Or.inl rfl) ?_
            exact Or.inl ⟨by omega, rfl, (Fr.rfl'.sI rfl).sI rfl, gI_hit _ _ _ _, by rw [gI_off _ _ _ (by decide), gI_hit]; exact st⟩
          · skip
            exact absurd c112 hb2
  first | ((with_reducible show Rp _ _ _ (_ :: _ :: _ :: some (.int (nI _)) :: _) _ _ _); refine Rp.inc3N (c := 1) dX7_read_80 (by first | exact nl2_some rfl | exact nl2_none) (by decide) ?_) | refine Rp.inc3 _ dX7_read_80 rfl (by first | exact nl2_some rfl | exact nl2_none) (by decide) ?_
  refine Rp.goto (tgt := 35) dX7_read_83 (by decide) ?_
  refine Rp.iload_n dX7_read_35 rfl ?_
  refine Rp.bipush (nI 12) dX7_read_36 (by decide) ?_
  first | ((with_reducible show Rp _ _ _ _ (.int (nI _) :: .int (nI _) :: _) _ _); refine Rp.icmp_geN (tgt := 86) dX7_read_38 (by decide) (by omega) (fun c38 => ?_) (fun c38 => ?_)) | refine Rp.icmp_ge (tgt := 86) dX7_read_38 (by decide) (fun c38 => ?_) (fun c38 => ?_)
  · skip
    exact fin
  · skip
    refine Rp.iload_n dX7_read_41 rfl ?_
    first | ((with_reducible show Rp _ _ _ _ (.int (b2i _) :: _) _ _); refine Rp.if_eqB (tgt := 86) dX7_read_42 (by decide) (fun c42 => ?_) (fun c42 => ?_)) | ((with_reducible show Rp _ _ _ _ (.int (nI _) :: _) _ _); refine Rp.if_eqN (tgt := 86) dX7_read_42 (by decide) (by omega) (fun c42 => ?_) (fun c42 => ?_)) | refine Rp.if_eq (tgt := 86) dX7_read_42 (by decide) (fun c42 => ?_) (fun c42 => ?_)
    · skip
      exact fin
    · skip
      first | (exfalso; omega) | exact absurd c42 (by decide) | exact absurd (by decide) c42
theorem read35 (hf : 12 * TL.length + 8 ≤ f) (a1 : Int32) : ∀ (k n i lv : Nat) (Lp : List CLE) (h : AH), n + k = 12 → Lp.length = n → i ≤ TL.length → lv ≤ 50 → (cdA Lp).length ≤ i + 2 * n → CB h ord tb L TL → RI h ord L TL Lp i lv → Rp (d + 37) M_X7_read 35 [some (.ref 35), some (.int a1), some (.int (nI 1)), some (.int (nI n))] [] h (rdZ h ord L TL Lp (rdL ord (cT tb TL) (vT tb TL) TL.length f k i lv (cdA Lp).length)) := by
  intro k
  induction k with
  | zero =>
    intro n i lv Lp h hn hL hi hl ha B I
    have S := B.1.1
    have hT := B.le
    have w1 := t_wrong (d + 36) S I.1.2.2.1
    have st := TS_start I.1.1
    have hb2 : gI (sI (sI h 35 3 (gI h 35 6)) 35 2 (nI 0)) 35 3 ≠ -1 := by rw [gI_off _ _ _ (by decide), gI_hit, st]; exact pT_m1 B.1.2.2.1 B.2.2 i
    refine Rp.iload_n dX7_read_35 rfl ?_
    refine Rp.bipush (nI 12) dX7_read_36 (by decide) ?_
    first | ((with_reducible show Rp _ _ _ _ (.int (nI _) :: .int (nI _) :: _) _ _); refine Rp.icmp_geN (tgt := 86) dX7_read_38 (by decide) (by omega) (fun c38 => ?_) (fun c38 => ?_)) | refine Rp.icmp_ge (tgt := 86) dX7_read_38 (by decide) (fun c38 => ?_) (fun c38 => ?_)
    · skip
      refine Rp.iload_n dX7_read_86 rfl ?_
      first | ((with_reducible show Rp _ _ _ _ (.int (b2i _) :: _) _ _); refine Rp.if_neB (tgt := 98) dX7_read_87 (by decide) (fun c87 => ?_) (fun c87 => ?_)) | ((with_reducible show Rp _ _ _ _ (.int (nI _) :: _) _ _); refine Rp.if_neN (tgt := 98) dX7_read_87 (by decide) (by omega) (fun c87 => ?_) (fun c87 => ?_)) | refine Rp.if_ne (tgt := 98) dX7_read_87 (by decide) (fun c87 => ?_) (fun c87 => ?_)
      · skip
        refine Rp.aload_n dX7_read_98 rfl rfl ?_
        refine Rp.callV0 M_X7_wrong (ci := 7) dX7_read_99 mo_X7_wrong lk_X7_51 (by decide) rfl rfl (S _ _ rfl) (Nat.le_of_ble_eq_true rfl) (Nat.le_of_ble_eq_true rfl) (w1) (fun v1 h1 p1 x1 => ?_)
        obtain ⟨rfl, rfl⟩ := p1
        try dsimp only [Option.toList, List.cons_append, List.nil_append, List.append]
        refine Rp.aload_n dX7_read_102 rfl rfl ?_
        refine Rp.iconst (nI 0) dX7_read_103 (by decide) ?_
        refine Rp.putI dX7_read_104 fk_X7_26w rfl (S _ _ rfl) ?_
        refine Rp.aload_n dX7_read_107 rfl rfl ?_
        refine Rp.getI dX7_read_108 fk_X7_22 rfl (S _ _ rfl) ?_
        refine Rp.iconst (-1) dX7_read_111 (by decide) ?_
        first | ((with_reducible show Rp _ _ _ _ (.int (nI _) :: .int (nI _) :: _) _ _); refine Rp.icmp_neN (tgt := 119) dX7_read_112 (by decide) (by omega) (fun c112 => ?_) (fun c112 => ?_)) | refine Rp.icmp_ne (tgt := 119) dX7_read_112 (by decide) (fun c112 => ?_) (fun c112 => ?_)
        · skip
          refine Rp.iconst (nI 0) dX7_read_119 (by decide) ?_
          refine Rp.zreturn dX7_read_120 rfl (Or.inl rfl) ?_
          exact ⟨(Fr.rfl'.sI rfl).sI rfl, gI_hit _ _ _ _, rfl, by rw [gI_off _ _ _ (by decide), gI_hit]; exact st⟩
        · skip
          exact absurd c112 hb2
      · skip
        first | (exfalso; omega) | exact absurd c87 (by decide) | exact absurd (by decide) c87
    · skip
      first | (exfalso; omega) | exact absurd c38 (by decide) | exact absurd (by decide) c38
  | succ k ih =>
    intro n i lv Lp h hn hL hi hl ha B I
    have S := B.1.1
    have R := B.1.2.1
    have hT := B.le
    have cl := t_clause d B (n := n) (by omega) (by rw [← hL]; exact I.2.2.1) I.1 hi hl (by omega) hf
    have o1 := okC_R (ord := ord) (v := vT tb TL) (f := f) (cT_end tb TL) (a := (cdA Lp).length) hi hl
    refine Rp.iload_n dX7_read_35 rfl ?_
    refine Rp.bipush (nI 12) dX7_read_36 (by decide) ?_
    first | ((with_reducible show Rp _ _ _ _ (.int (nI _) :: .int (nI _) :: _) _ _); refine Rp.icmp_geN (tgt := 86) dX7_read_38 (by decide) (by omega) (fun c38 => ?_) (fun c38 => ?_)) | refine Rp.icmp_ge (tgt := 86) dX7_read_38 (by decide) (fun c38 => ?_) (fun c38 => ?_)
    · first | (exfalso; omega) | exact absurd c38 (by decide) | exact absurd (by decide) c38
    refine Rp.iload_n dX7_read_41 rfl ?_
    first | ((with_reducible show Rp _ _ _ _ (.int (b2i _) :: _) _ _); refine Rp.if_eqB (tgt := 86) dX7_read_42 (by decide) (fun c42 => ?_) (fun c42 => ?_)) | ((with_reducible show Rp _ _ _ _ (.int (nI _) :: _) _ _); refine Rp.if_eqN (tgt := 86) dX7_read_42 (by decide) (by omega) (fun c42 => ?_) (fun c42 => ?_)) | refine Rp.if_eq (tgt := 86) dX7_read_42 (by decide) (fun c42 => ?_) (fun c42 => ?_)
    · first | (exfalso; omega) | exact absurd c42 (by decide) | exact absurd (by decide) c42
    refine Rp.aload_n dX7_read_45 rfl rfl ?_
    refine Rp.callV0 M_X7_clause (ci := 7) dX7_read_46 mo_X7_clause lk_X7_45 (by decide) rfl rfl (S _ _ rfl) (Nat.le_of_ble_eq_true rfl) (Nat.le_of_ble_eq_true rfl) (cl) (fun v1 h1 p1 x1 => ?_)
    obtain ⟨rfl, p1⟩ := p1
    try dsimp only [Option.toList, List.cons_append, List.nil_append, List.append]
    skip
    rw [rdL]
    generalize clR ord (cT tb TL) (vT tb TL) f i lv (cdA Lp).length = x at p1 o1 ⊢
    match x, o1, p1 with
    | .error e, o1, E =>
      have E : ME h L TL e h1 := E
      have S1 := E.1.S S
      have hb : gI h1 35 3 ≠ -1 := by rw [E.2.1]; exact pT_m1 B.1.2.2.1 B.2.2 e
      have k1 := Rp.mono (P := fun r h' => r = some (.int (nI 0)) ∧ h' = sI h1 35 2 (nI 0)) (Q := rdZ h ord L TL Lp (.error e)) (fun r h' p => by
        obtain ⟨rfl, rfl⟩ := p
        exact ⟨E.1.rd.sI rfl, gI_hit _ _ _ _, rfl, by rw [gI_off _ _ _ (by decide)]; exact E.2.1⟩) (read_bad d (e := e) S1 hb (show n < 12 by omega) a1)
      refine Rp.aload_n dX7_read_49 rfl rfl ?_
      refine Rp.getI dX7_read_50 fk_X7_22 rfl (S1 _ _ rfl) ?_
      refine Rp.iconst (-1) dX7_read_53 (by decide) ?_
      first | ((with_reducible show Rp _ _ _ _ (.int (nI _) :: .int (nI _) :: _) _ _); refine Rp.icmp_neN (tgt := 70) dX7_read_54 (by decide) (by omega) (fun c54 => ?_) (fun c54 => ?_)) | refine Rp.icmp_ne (tgt := 70) dX7_read_54 (by decide) (fun c54 => ?_) (fun c54 => ?_)
      · skip
        refine Rp.iconst (nI 0) dX7_read_70 (by decide) ?_
        refine Rp.ist2 dX7_read_71 (by first | exact nl2_some rfl | exact nl2_none) (by decide) ?_
        refine Rp.iload_n dX7_read_72 rfl ?_
        first | ((with_reducible show Rp _ _ _ _ (.int (b2i _) :: _) _ _); refine Rp.if_eqB (tgt := 80) dX7_read_73 (by decide) (fun c73 => ?_) (fun c73 => ?_)) | ((with_reducible show Rp _ _ _ _ (.int (nI _) :: _) _ _); refine Rp.if_eqN (tgt := 80) dX7_read_73 (by decide) (by omega) (fun c73 => ?_) (fun c73 => ?_)) | refine Rp.if_eq (tgt := 80) dX7_read_73 (by decide) (fun c73 => ?_) (fun c73 => ?_)
        · skip
          exact k1
        · skip
          first | (exfalso; omega) | exact absurd c73 (by decide) | exact absurd (by decide) c73
      · skip
        exact absurd c54 hb
    | .ok (i1, lv1, cd, vb, tm, p, q, ts), o1, M =>
      have M : MC h ord L TL n (cdA Lp).length (fitC ord (cdA Lp)) h1 i1 lv1 cd (hdV vb tm p q ts) := M
      rw [← hL] at M
      obtain ⟨g1, g2, g3, g4, g5, g6, g7⟩ := o1
      have I1 := I.step (i0 := i) (a0 := (cdA Lp).length) (i1 := i1) M
      have B1 := B.rc M.1
      have S1 := B1.1.1
      have hf3 := I1.1.2.2.1
      have sg := TS_sign I1.1.1 (s := 59) (by decide) (by decide) (by decide)
      rw [B1.2.1] at sg
      have la : (cdA (Lp ++ [(i, (cdA Lp).length, i1, cd, vb, tm, p, q, ts)])).length = (cdA Lp).length + cd.length := by rw [cdA_snoc, List.length_append]
      dsimp only
      by_cases e : cT tb TL i1 = 159
      · rw [if_pos e]
        have y := sg.mpr e
        have hi1 : i1 + 1 ≤ TL.length := cT_len (tb := tb) (by rw [e]; decide)
        have nx := t_next (d + 35) B1.1 B1.tl I1.1.1 hi1
        refine Rp.aload_n dX7_read_49 rfl rfl ?_
        refine Rp.getI dX7_read_50 fk_X7_22 rfl (S1 _ _ rfl) ?_
        first | rw [hf3] | skip
        refine Rp.iconst (-1) dX7_read_53 (by decide) ?_
        first | ((with_reducible show Rp _ _ _ _ (.int (nI _) :: .int (nI _) :: _) _ _); refine Rp.icmp_neN (tgt := 70) dX7_read_54 (by decide) (by omega) (fun c54 => ?_) (fun c54 => ?_)) | refine Rp.icmp_ne (tgt := 70) dX7_read_54 (by decide) (fun c54 => ?_) (fun c54 => ?_)
        · first | (exfalso; omega) | exact absurd c54 (by decide) | exact absurd (by decide) c54
        refine Rp.aload_n dX7_read_57 rfl rfl ?_
        refine Rp.getI dX7_read_58 fk_X7_48 rfl (S1 _ _ rfl) ?_
        first | rw [hf3] | skip
        refine Rp.bipush (nI 59) dX7_read_61 (by decide) ?_
        first | ((with_reducible show Rp _ _ _ _ (.int (nI _) :: .int (nI _) :: _) _ _); refine Rp.icmp_neN (tgt := 70) dX7_read_63 (by decide) (by omega) (fun c63 => ?_) (fun c63 => ?_)) | refine Rp.icmp_ne (tgt := 70) dX7_read_63 (by decide) (fun c63 => ?_) (fun c63 => ?_)
        · exact absurd y c63
        refine Rp.iconst (nI 1) dX7_read_66 (by decide) ?_
        refine Rp.goto (tgt := 71) dX7_read_67 (by decide) ?_
        refine Rp.ist2 dX7_read_71 (by first | exact nl2_some rfl | exact nl2_none) (by decide) ?_
        refine Rp.iload_n dX7_read_72 rfl ?_
        first | ((with_reducible show Rp _ _ _ _ (.int (b2i _) :: _) _ _); refine Rp.if_eqB (tgt := 80) dX7_read_73 (by decide) (fun c73 => ?_) (fun c73 => ?_)) | ((with_reducible show Rp _ _ _ _ (.int (nI _) :: _) _ _); refine Rp.if_eqN (tgt := 80) dX7_read_73 (by decide) (by omega) (fun c73 => ?_) (fun c73 => ?_)) | refine Rp.if_eq (tgt := 80) dX7_read_73 (by decide) (fun c73 => ?_) (fun c73 => ?_)
        · first | (exfalso; omega) | exact absurd c73 (by decide) | exact absurd (by decide) c73
        refine Rp.aload_n dX7_read_76 rfl rfl ?_
        refine Rp.callV0 M_X7_advance (ci := 7) dX7_read_77 mo_X7_advance lk_X7_42 (by decide) rfl rfl (S1 _ _ rfl) (Nat.le_of_ble_eq_true rfl) (Nat.le_of_ble_eq_true rfl) (nx) (fun v1 h1 p1 x1 => ?_)
        obtain ⟨rfl, F, T1⟩ := p1
        try dsimp only [Option.toList, List.cons_append, List.nil_append, List.append]
        first | ((with_reducible show Rp _ _ _ (_ :: _ :: _ :: some (.int (nI _)) :: _) _ _ _); refine Rp.inc3N (c := 1) dX7_read_80 (by first | exact nl2_some rfl | exact nl2_none) (by decide) ?_) | refine Rp.inc3 _ dX7_read_80 rfl (by first | exact nl2_some rfl | exact nl2_none) (by decide) ?_
        refine Rp.goto (tgt := 35) dX7_read_83 (by decide) ?_
        skip
        have I2 : RI h1 ord L TL (Lp ++ [(i, (cdA Lp).length, i1, cd, vb, tm, p, q, ts)]) (i1 + 1) lv1 := ⟨I1.1.av F T1, fun m q hq => (F.I 39 m rfl).trans (I1.2.1 m q hq), (F.I 37 2 rfl).trans I1.2.2.1, fun m e he w hw => (F.I 38 _ rfl).trans (I1.2.2.2 m e he w hw)⟩
        have nxt := ih (n + 1) (i1 + 1) lv1 (Lp ++ [(i, (cdA Lp).length, i1, cd, vb, tm, p, q, ts)]) h1 (by omega) (by rw [List.length_append, List.length_singleton]; omega) hi1 g3 (by rw [la]; omega) (B1.fr F.av) I2
        rw [la] at nxt
        refine Rp.mono (fun r h' p => ?_) nxt
        generalize rdL ord (cT tb TL) (vT tb TL) TL.length f k (i1 + 1) lv1 ((cdA Lp).length + cd.length) = y at p ⊢
        obtain ⟨z1, z2, z3⟩ := p
        refine ⟨(M.1.trans F.av.rc).rd.trans z1, z2, ?_⟩
        match y, z3 with
        | .error e2, z3 => exact z3
        | .ok L', z3 =>
          dsimp only at z3
          rw [List.append_assoc] at z3
          exact z3
      · rw [if_neg e]
        have y : ¬ gI h1 35 7 = nI 59 := fun z => e (sg.mp z)
        have fin := Rp.mono (Q := rdZ h ord L TL Lp (if i1 < TL.length then .error i1 else .ok [(i, (cdA Lp).length, i1, cd, vb, tm, p, q, ts)])) (fun r h' p => by
          rcases p with ⟨z1, rfl, z3, z4, z5⟩ | ⟨z1, rfl, rfl⟩
          · rw [if_pos z1]; exact ⟨M.1.rd.trans z3, z4, rfl, z5⟩
          · rw [if_neg (by omega)]
            refine ⟨M.1.rd.sI rfl, gI_hit _ _ _ _, rfl, by rw [gI_off _ _ _ (by decide)]; exact hf3, ?_, ?_, ?_, fun m q hq => ?_, fun m e he w hw => ?_⟩
            · rw [gI_ne _ _ _ _ (by decide)]; exact I1.2.2.1
            · rw [gI_ne _ _ _ _ (by decide)]; exact I1.1.2.2.2.1
            · rw [gI_ne _ _ _ _ (by decide)]; exact I1.1.2.2.2.2
            · rw [gI_ne _ _ _ _ (by decide)]; exact I1.2.1 m q hq
            · rw [gI_ne _ _ _ _ (by decide)]; exact I1.2.2.2 m e he w hw) (read_end d B1 I1.1.1 hf3 g2 (show n < 12 by omega) a1)
        refine Rp.aload_n dX7_read_49 rfl rfl ?_
        refine Rp.getI dX7_read_50 fk_X7_22 rfl (S1 _ _ rfl) ?_
        first | rw [hf3] | skip
        refine Rp.iconst (-1) dX7_read_53 (by decide) ?_
        first | ((with_reducible show Rp _ _ _ _ (.int (nI _) :: .int (nI _) :: _) _ _); refine Rp.icmp_neN (tgt := 70) dX7_read_54 (by decide) (by omega) (fun c54 => ?_) (fun c54 => ?_)) | refine Rp.icmp_ne (tgt := 70) dX7_read_54 (by decide) (fun c54 => ?_) (fun c54 => ?_)
        · skip
          first | (exfalso; omega) | exact absurd c54 (by decide) | exact absurd (by decide) c54
        · skip
          refine Rp.aload_n dX7_read_57 rfl rfl ?_
          refine Rp.getI dX7_read_58 fk_X7_48 rfl (S1 _ _ rfl) ?_
          first | rw [hf3] | skip
          refine Rp.bipush (nI 59) dX7_read_61 (by decide) ?_
          first | ((with_reducible show Rp _ _ _ _ (.int (nI _) :: .int (nI _) :: _) _ _); refine Rp.icmp_neN (tgt := 70) dX7_read_63 (by decide) (by omega) (fun c63 => ?_) (fun c63 => ?_)) | refine Rp.icmp_ne (tgt := 70) dX7_read_63 (by decide) (fun c63 => ?_) (fun c63 => ?_)
          · skip
            refine Rp.iconst (nI 0) dX7_read_70 (by decide) ?_
            refine Rp.ist2 dX7_read_71 (by first | exact nl2_some rfl | exact nl2_none) (by decide) ?_
            refine Rp.iload_n dX7_read_72 rfl ?_
            first | ((with_reducible show Rp _ _ _ _ (.int (b2i _) :: _) _ _); refine Rp.if_eqB (tgt := 80) dX7_read_73 (by decide) (fun c73 => ?_) (fun c73 => ?_)) | ((with_reducible show Rp _ _ _ _ (.int (nI _) :: _) _ _); refine Rp.if_eqN (tgt := 80) dX7_read_73 (by decide) (by omega) (fun c73 => ?_) (fun c73 => ?_)) | refine Rp.if_eq (tgt := 80) dX7_read_73 (by decide) (fun c73 => ?_) (fun c73 => ?_)
            · skip
              exact fin
            · skip
              first | (exfalso; omega) | exact absurd c73 (by decide) | exact absurd (by decide) c73
          · skip
            exact absurd c63 y
theorem t_clearT (S : ShOK h) : Rp d M_X9_clear 0 [some (.ref 37)] [] h (fun r h' => h' = sI (sI (sI h 37 2 (nI 0)) 37 3 (nI 0)) 37 4 (nI 0) ∧ r = none) := by
  refine Rp.aload_n dX9_clear_0 rfl rfl ?_
  refine Rp.iconst (nI 0) dX9_clear_1 (by decide) ?_
  refine Rp.putI dX9_clear_2 fk_X9_18w rfl (S _ _ rfl) ?_
  refine Rp.aload_n dX9_clear_5 rfl rfl ?_
  refine Rp.iconst (nI 0) dX9_clear_6 (by decide) ?_
  refine Rp.putI dX9_clear_7 fk_X9_28w rfl (S _ _ rfl) ?_
  refine Rp.aload_n dX9_clear_10 rfl rfl ?_
  refine Rp.iconst (nI 0) dX9_clear_11 (by decide) ?_
  refine Rp.putZ dX9_clear_12 fk_X9_31w rfl (by first | exact Or.inl rfl | exact Or.inr rfl | assumption) (S _ _ rfl) ?_
  refine Rp.vreturn dX9_clear_15 rfl ?_
  exact ⟨rfl, rfl⟩
/-- the class reads its tape -/
def rdY (h : AH) (ord : Bool) (L : Nat) (r : Option Value) (h' : AH) : Prop := rdZ h ord L (TLo (gI h 36) L) [] (RDg ord (gI h 36) L) r h'
theorem t_read (S : ShOK h) (R : RfOK h) {ord : Bool} {L : Nat} (hL : L ≤ 400) (hl : gI h 35 2 = nI L) : Rp (d + 37) M_X7_read 0 [some (.ref 35), some (.int (b2i ord)), none, none] [] h (rdY h ord L) := by
  have cl := t_clearT (d + 36) (h := sI h 35 4 (b2i ord)) S
  have e36 : ∀ g : AH, (∀ i, gI g 36 i = gI h 36 i) → gI g 36 = gI h 36 := fun g e => funext e
  have F0 : Fr rdX h (sI (sI (sI (sI (sI (sI (sI h 35 4 (b2i ord)) 37 2 (nI 0)) 37 3 (nI 0)) 37 4 (nI 0)) 35 9 (nI 0)) 35 3 (-1)) 35 5 (nI 0)) := ((((((Fr.rfl'.sI rfl).sI rfl).sI rfl).sI rfl).sI rfl).sI rfl).sI rfl
  have tp : gI (sI (sI (sI (sI (sI (sI (sI h 35 4 (b2i ord)) 37 2 (nI 0)) 37 3 (nI 0)) 37 4 (nI 0)) 35 9 (nI 0)) 35 3 (-1)) 35 5 (nI 0)) 36 = gI h 36 := by rw [gI36 _ _ _ (by decide), gI36 _ _ _ (by decide), gI36 _ _ _ (by decide), gI36 _ _ _ (by decide), gI36 _ _ _ (by decide), gI36 _ _ _ (by decide), gI36 _ _ _ (by decide)]
  have ad := t_adv (d + 35) (h := sI (sI (sI (sI (sI (sI (sI h 35 4 (b2i ord)) 37 2 (nI 0)) 37 3 (nI 0)) 37 4 (nI 0)) 35 9 (nI 0)) 35 3 (-1)) 35 5 (nI 0)) (L := L) S R hL (by rw [gI_off _ _ _ (by decide), gI_off _ _ _ (by decide), gI_off _ _ _ (by decide), gI_ne _ _ _ _ (by decide), gI_ne _ _ _ _ (by decide), gI_ne _ _ _ _ (by decide), gI_off _ _ _ (by decide)]; exact hl) (TL := TLo (gI h 36) L) (j := 0) (k := 0) (Nat.zero_le _) (gI_hit _ _ _ _) (by rw [tp]; rfl)
  refine Rp.aload_n dX7_read_0 rfl rfl ?_
  refine Rp.iload_n dX7_read_1 rfl ?_
  refine Rp.putZ dX7_read_2 fk_X7_29w rfl (b2i_01 _) (S _ _ rfl) ?_
  refine Rp.aload_n dX7_read_5 rfl rfl ?_
  refine Rp.getR dX7_read_6 fk_X7_18 rfl (S _ _ rfl) (R _ _ _ rfl) ?_
  refine Rp.callV0 M_X9_clear (ci := 9) dX7_read_9 mo_X9_clear lk_X7_33 (by decide) rfl rfl (S _ _ rfl) (Nat.le_of_ble_eq_true rfl) (Nat.le_of_ble_eq_true rfl) (cl) (fun v1 h1 p1 x1 => ?_)
  rw [p1.1, p1.2]
  try dsimp only [Option.toList, List.cons_append, List.nil_append, List.append]
  refine Rp.aload_n dX7_read_12 rfl rfl ?_
  refine Rp.iconst (nI 0) dX7_read_13 (by decide) ?_
  refine Rp.putI dX7_read_14 fk_X7_36w rfl (S _ _ rfl) ?_
  refine Rp.aload_n dX7_read_17 rfl rfl ?_
  refine Rp.iconst (-1) dX7_read_18 (by decide) ?_
  refine Rp.putI dX7_read_19 fk_X7_22w rfl (S _ _ rfl) ?_
  refine Rp.aload_n dX7_read_22 rfl rfl ?_
  refine Rp.iconst (nI 0) dX7_read_23 (by decide) ?_
  refine Rp.putI dX7_read_24 fk_X7_39w rfl (S _ _ rfl) ?_
  refine Rp.aload_n dX7_read_27 rfl rfl ?_
  refine Rp.callV0 M_X7_advance (ci := 7) dX7_read_28 mo_X7_advance lk_X7_42 (by decide) rfl rfl (S _ _ rfl) (Nat.le_of_ble_eq_true rfl) (Nat.le_of_ble_eq_true rfl) (ad) (fun v1 h1 p1 x1 => ?_)
  obtain ⟨rfl, F, T1⟩ := p1
  try dsimp only [Option.toList, List.cons_append, List.nil_append, List.append]
  skip
  have S1 := F.S (F0.S S)
  have R1 := F.R (F0.R R (by decide)) (by decide)
  have tp1 : gI h1 36 = gI h 36 := (funext fun i => F.I 36 i rfl).trans tp
  have B : CB h1 ord (gI h 36) L (TLo (gI h 36) L) := ⟨⟨S1, R1, hL, (F.I 35 2 rfl).trans (by rw [gI_off _ _ _ (by decide), gI_off _ _ _ (by decide), gI_off _ _ _ (by decide), gI_ne _ _ _ _ (by decide), gI_ne _ _ _ _ (by decide), gI_ne _ _ _ _ (by decide), gI_off _ _ _ (by decide)]; exact hl), (F.I 35 4 rfl).trans (by rw [gI_off _ _ _ (by decide), gI_off _ _ _ (by decide), gI_off _ _ _ (by decide), gI_ne _ _ _ _ (by decide), gI_ne _ _ _ _ (by decide), gI_ne _ _ _ _ (by decide), gI_hit])⟩, tp1, rfl⟩
  have I : RI h1 ord L (TLo (gI h 36) L) [] 0 0 := by
    refine ⟨⟨T1, (F.I 35 9 rfl).trans ?_, (F.I 35 3 rfl).trans ?_, (F.I 37 3 rfl).trans ?_, (F.I 37 4 rfl).trans ?_⟩, fun m q hq => (nomatch hq), (F.I 37 2 rfl).trans ?_, fun m e he => (nomatch he)⟩
    · rw [gI_off _ _ _ (by decide), gI_off _ _ _ (by decide), gI_hit]
    · rw [gI_off _ _ _ (by decide), gI_hit]
    · rw [gI_ne _ _ _ _ (by decide), gI_ne _ _ _ _ (by decide), gI_ne _ _ _ _ (by decide), gI_off _ _ _ (by decide), gI_hit]; rfl
    · rw [gI_ne _ _ _ _ (by decide), gI_ne _ _ _ _ (by decide), gI_ne _ _ _ _ (by decide), gI_hit]; cases ord <;> rfl
    · rw [gI_ne _ _ _ _ (by decide), gI_ne _ _ _ _ (by decide), gI_ne _ _ _ _ (by decide), gI_off _ _ _ (by decide), gI_off _ _ _ (by decide), gI_hit]; rfl
  have q := read35 d (f := 12 * (TLo (gI h 36) L).length + 8) (Nat.le_refl _) (b2i ord) 12 0 0 0 [] h1 (by decide) rfl (Nat.zero_le _) (Nat.zero_le _) (Nat.le_refl _) B I
  refine Rp.iconst (nI 1) dX7_read_31 (by decide) ?_
  refine Rp.ist2 dX7_read_32 (by first | exact nl2_some rfl | exact nl2_none) (by decide) ?_
  refine Rp.iconst (nI 0) dX7_read_33 (by decide) ?_
  refine Rp.ist3 dX7_read_34 (by first | exact nl2_some rfl | exact nl2_none) (by decide) ?_
  skip
  refine Rp.mono (fun r h' p => ?_) q
  exact ⟨(F0.trans F.av.rc.rd).trans p.1, p.2⟩
end Rd
