/-- wishes are small -/
def KW (K : Nat → Int32) : Prop := ∀ i, i < 48 → ∃ x, x < 10 ∧ K (19 + i) = nI x
def wsN (K : Nat → Int32) (p t : Nat) : Nat := (K (19 + (8 * p + t))).toInt.toNat
theorem KW.is {K : Nat → Int32} (H : KW K) {p t : Nat} (hp : p < 6) (ht : t < 8) : K (19 + (8 * p + t)) = nI (wsN K p t) ∧ wsN K p t < 10 := by
  obtain ⟨x, hx, e⟩ := H (8 * p + t) (by omega)
  have : wsN K p t = x := by unfold wsN; rw [e, nI_toInt (by omega)]; rfl
  rw [this]; exact ⟨e, hx⟩
/-- whether one may point at a ticket: its holder is left, and it is one's own or not barred -/
def wmB (K : Nat → Int32) (fl : Option (List CLE)) (np : Nat) (lf : Nat → Bool) (p t : Nat) : Bool := decide (hOf K (nI t) np ≠ -1) && lf (ix (hOf K (nI t) np)) && (decide (hOf K (nI t) np = nI p) || !oBr K fl p t)
/-- the ticket wished most, of the first n -/
def wmF (K : Nat → Int32) (fl : Option (List CLE)) (np : Nat) (lf : Nat → Bool) (p : Nat) : Nat → Option Nat
  | 0 => none
  | n + 1 => if wmB K fl np lf p n = true then (match wmF K fl np lf p n with
    | none => some n
    | some b => if wsN K p b < wsN K p n then some n else some b) else wmF K fl np lf p n
theorem wmF_b {K : Nat → Int32} {fl : Option (List CLE)} {np : Nat} {lf : Nat → Bool} {p : Nat} : ∀ n b, wmF K fl np lf p n = some b → b < n ∧ wmB K fl np lf p b = true
  | 0, b, h => nomatch h
  | n + 1, b, h => by
    rw [wmF] at h
    by_cases c : wmB K fl np lf p n = true
    · rw [if_pos c] at h
      match hx : wmF K fl np lf p n, h with
      | none, h => cases h; exact ⟨by omega, c⟩
      | some b1, h =>
        have := wmF_b n b1 hx
        dsimp only at h
        split at h
        · cases h; exact ⟨by omega, c⟩
        · cases h; exact ⟨by omega, this.2⟩
    · rw [if_neg c] at h
      have := wmF_b n b h
      exact ⟨by omega, this.2⟩
/-- at whom one points -/
def pnt (K : Nat → Int32) (fl : Option (List CLE)) (np nt : Nat) (lf : Nat → Bool) (p : Nat) : Nat := match wmF K fl np lf p nt with
  | none => p
  | some b => ix (hOf K (nI b) np)
def fnI (K : Nat → Int32) (np p : Nat) (o : Option Nat) : Int32 := match o with
  | none => nI p
  | some b => hOf K (nI b) np
def moI (K : Nat → Int32) (p : Nat) (o : Option Nat) : Int32 := match o with
  | none => -1
  | some b => nI (wsN K p b)
section Tr
variable (d : Nat) {K : Nat → Int32} {fl : Option (List CLE)} {np nt nd nl : Nat}
/-- the class amid trade -/
def TrI (h0 g : AH) (K : Nat → Int32) (fl : Option (List CLE)) (np nt nd nl : Nat) : Prop := ShOK g ∧ RfOK g ∧ JS g 1 K fl ∧ HA g 1 K np nt nd nl ∧ Fr jX h0 g
theorem wished14 {h0 : AH} (B : KB K) (V : VH K np nt) (W : KW K) {lf : Nat → Bool} (hl : ∀ q, q < 6 → gI h0 59 q = b2i (lf q)) {p : Nat} (hp : p < np) : ∀ (m t : Nat) (g : AH) (a7 a8 : Option Value), t + m = nt → TrI h0 g K fl np nt nd nl → Rp (d + 3) M_X10_wishedHolder 14 [some (.ref 58), some (.ref 40), some (.int (nI p)), some (.ref 1), some (.int (fnI K np p (wmF K fl np lf p t))), some (.int (moI K p (wmF K fl np lf p t))), some (.int (nI t)), a7, a8] [] g (fun r h' => TrI h0 h' K fl np nt nd nl ∧ r = some (.int (fnI K np p (wmF K fl np lf p nt)))) := by
  have v1 := V.1
  have v2 := V.2.1
  intro m
  induction m with
  | zero =>
    intro t g a7 a8 hm I
    have e : t = nt := by omega
    subst e
    obtain ⟨S, R, J, H, F⟩ := id I
    have m4 : gI g 1 5 = nI t := H.2.2.1
    refine Rp.iload dX10_wishedHolder_14 rfl ?_
    refine Rp.aload_n dX10_wishedHolder_16 rfl rfl ?_
    refine Rp.getI dX10_wishedHolder_17 fk_X10_65 rfl (S _ _ rfl) ?_
    first | rw [m4] | skip
    first | ((with_reducible show Rp _ _ _ _ (.int (nI _) :: .int (nI _) :: _) _ _); refine Rp.icmp_geN (tgt := 102) dX10_wishedHolder_20 (by decide) (by omega) (fun c20 => ?_) (fun c20 => ?_)) | refine Rp.icmp_ge (tgt := 102) dX10_wishedHolder_20 (by decide) (fun c20 => ?_) (fun c20 => ?_)
    · skip
      refine Rp.iload dX10_wishedHolder_102 rfl ?_
      refine Rp.ireturn dX10_wishedHolder_104 rfl ?_
      exact ⟨I, rfl⟩
    · skip
      first | (exfalso; omega) | exact absurd c20 (by decide) | exact absurd (by decide) c20
  | succ m ih =>
    intro t g a7 a8 hm I
    obtain ⟨S, R, J, H, F⟩ := id I
    have m4 : gI g 1 5 = nI nt := H.2.2.1
    have eh : gI g 8 t = hOf K (nI t) np := H.2.2.2.2.2.2.2.2.2.2.2.2.2.1 t (by omega)
    have ew : gI g 5 (p * 8 + t) = nI (wsN K p t) := by
      rw [show p * 8 + t = 8 * p + t by omega]
      exact (H.2.2.2.2.2.2.2.2.2.2.1 _ (by omega)).trans (W.is (by omega) (by omega)).1
    have wl := (W.is (p := p) (t := t) (by omega) (by omega)).2
    have k1 := fun g' a7' a8' => ih (t + 1) g' a7' a8' (by omega)
    rw [wmF] at k1
    by_cases c1 : hOf K (nI t) np = -1
    · rw [if_neg (by unfold wmB; rw [decide_eq_false (fun z => z c1), Bool.false_and, Bool.false_and]; decide)] at k1
      have k2 := k1 g (some (.int (-1))) a8 I
      rw [c1] at eh
      refine Rp.iload dX10_wishedHolder_14 rfl ?_
      refine Rp.aload_n dX10_wishedHolder_16 rfl rfl ?_
      refine Rp.getI dX10_wishedHolder_17 fk_X10_65 rfl (S _ _ rfl) ?_
      first | rw [m4] | rw [eh] | skip
      first | ((with_reducible show Rp _ _ _ _ (.int (nI _) :: .int (nI _) :: _) _ _); refine Rp.icmp_geN (tgt := 102) dX10_wishedHolder_20 (by decide) (by omega) (fun c20 => ?_) (fun c20 => ?_)) | refine Rp.icmp_ge (tgt := 102) dX10_wishedHolder_20 (by decide) (fun c20 => ?_) (fun c20 => ?_)
      · skip
        first | (exfalso; omega) | exact absurd c20 (by decide) | exact absurd (by decide) c20
      · skip
        refine Rp.aload_n dX10_wishedHolder_23 rfl rfl ?_
        refine Rp.getR dX10_wishedHolder_24 fk_X10_68 rfl (S _ _ rfl) (R _ _ _ rfl) ?_
        refine Rp.iload dX10_wishedHolder_27 rfl ?_
        first | ((with_reducible show Rp _ _ _ _ (.int (nI _) :: _) _ _); refine Rp.ialoadN dX10_wishedHolder_29 (S _ _ rfl) (by omega) ?_) | refine Rp.iaload dX10_wishedHolder_29 (S _ _ rfl) (by first | assumption | exact vpb (by decide)) ?_
        first | rw [m4] | rw [eh] | skip
        refine Rp.ist7 dX10_wishedHolder_30 (by first | exact nl2_some rfl | exact nl2_none) (by decide) ?_
        refine Rp.iload dX10_wishedHolder_32 rfl ?_
        refine Rp.iconst (-1) dX10_wishedHolder_34 (by decide) ?_
        first | ((with_reducible show Rp _ _ _ _ (.int (nI _) :: .int (nI _) :: _) _ _); refine Rp.icmp_eqN (tgt := 96) dX10_wishedHolder_35 (by decide) (by omega) (fun c35 => ?_) (fun c35 => ?_)) | refine Rp.icmp_eq (tgt := 96) dX10_wishedHolder_35 (by decide) (fun c35 => ?_) (fun c35 => ?_)
        · skip
          first | ((with_reducible show Rp _ _ _ (_ :: _ :: _ :: _ :: _ :: _ :: some (.int (nI _)) :: _) _ _ _); refine Rp.inc6N (c := 1) dX10_wishedHolder_96 (by first | exact nl2_some rfl | exact nl2_none) (by decide) ?_) | refine Rp.inc6 _ dX10_wishedHolder_96 rfl (by first | exact nl2_some rfl | exact nl2_none) (by decide) ?_
          refine Rp.goto (tgt := 14) dX10_wishedHolder_99 (by decide) ?_
          exact k2
        · skip
          exact absurd rfl c35
    · obtain ⟨q, hq, eq, eKq⟩ := hOf_get np c1
      have eh2 : gI g 8 t = nI q := eh.trans eq
      have el : gI g 59 q = b2i (lf q) := (F.I 59 q rfl).trans (hl q (by omega))
      have nq : ¬ nI q = -1 := nI_m1 (by omega)
      have eB : wmB K fl np lf p t = (lf q && (decide (nI q = nI p) || !oBr K fl p t)) := by unfold wmB; rw [eq, decide_eq_true nq, Bool.true_and, ix_nI (by omega)]
      cases cl : lf q
      · rw [eB, cl, Bool.false_and, if_neg (by decide)] at k1
        have k2 := k1 g (some (.int (nI q))) a8 I
        rw [cl] at el
        refine Rp.iload dX10_wishedHolder_14 rfl ?_
        refine Rp.aload_n dX10_wishedHolder_16 rfl rfl ?_
        refine Rp.getI dX10_wishedHolder_17 fk_X10_65 rfl (S _ _ rfl) ?_
        first | rw [m4] | rw [eh2] | rw [el] | skip
        first | ((with_reducible show Rp _ _ _ _ (.int (nI _) :: .int (nI _) :: _) _ _); refine Rp.icmp_geN (tgt := 102) dX10_wishedHolder_20 (by decide) (by omega) (fun c20 => ?_) (fun c20 => ?_)) | refine Rp.icmp_ge (tgt := 102) dX10_wishedHolder_20 (by decide) (fun c20 => ?_) (fun c20 => ?_)
        · skip
          first | (exfalso; omega) | exact absurd c20 (by decide) | exact absurd (by decide) c20
        · skip
          refine Rp.aload_n dX10_wishedHolder_23 rfl rfl ?_
          refine Rp.getR dX10_wishedHolder_24 fk_X10_68 rfl (S _ _ rfl) (R _ _ _ rfl) ?_
          refine Rp.iload dX10_wishedHolder_27 rfl ?_
          first | ((with_reducible show Rp _ _ _ _ (.int (nI _) :: _) _ _); refine Rp.ialoadN dX10_wishedHolder_29 (S _ _ rfl) (by omega) ?_) | refine Rp.iaload dX10_wishedHolder_29 (S _ _ rfl) (by first | assumption | exact vpb (by decide)) ?_
          first | rw [m4] | rw [eh2] | rw [el] | skip
          refine Rp.ist7 dX10_wishedHolder_30 (by first | exact nl2_some rfl | exact nl2_none) (by decide) ?_
          refine Rp.iload dX10_wishedHolder_32 rfl ?_
          refine Rp.iconst (-1) dX10_wishedHolder_34 (by decide) ?_
          first | ((with_reducible show Rp _ _ _ _ (.int (nI _) :: .int (nI _) :: _) _ _); refine Rp.icmp_eqN (tgt := 96) dX10_wishedHolder_35 (by decide) (by omega) (fun c35 => ?_) (fun c35 => ?_)) | refine Rp.icmp_eq (tgt := 96) dX10_wishedHolder_35 (by decide) (fun c35 => ?_) (fun c35 => ?_)
          · skip
            exact absurd c35 nq
          · skip
            refine Rp.aload_n dX10_wishedHolder_38 rfl rfl ?_
            refine Rp.getR dX10_wishedHolder_39 fk_X10_9 rfl (S _ _ rfl) (R _ _ _ rfl) ?_
            refine Rp.iload dX10_wishedHolder_42 rfl ?_
            first | ((with_reducible show Rp _ _ _ _ (.int (nI _) :: _) _ _); refine Rp.zaloadN dX10_wishedHolder_44 (S _ _ rfl) (by omega) ?_) | refine Rp.zaload dX10_wishedHolder_44 (S _ _ rfl) (by first | assumption | exact vpb (by decide)) ?_
            first | rw [m4] | rw [eh2] | rw [el] | skip
            first | ((with_reducible show Rp _ _ _ _ (.int (b2i _) :: _) _ _); refine Rp.if_eqB (tgt := 96) dX10_wishedHolder_45 (by decide) (fun c45 => ?_) (fun c45 => ?_)) | ((with_reducible show Rp _ _ _ _ (.int (nI _) :: _) _ _); refine Rp.if_eqN (tgt := 96) dX10_wishedHolder_45 (by decide) (by omega) (fun c45 => ?_) (fun c45 => ?_)) | refine Rp.if_eq (tgt := 96) dX10_wishedHolder_45 (by decide) (fun c45 => ?_) (fun c45 => ?_)
            · skip
              first | ((with_reducible show Rp _ _ _ (_ :: _ :: _ :: _ :: _ :: _ :: some (.int (nI _)) :: _) _ _ _); refine Rp.inc6N (c := 1) dX10_wishedHolder_96 (by first | exact nl2_some rfl | exact nl2_none) (by decide) ?_) | refine Rp.inc6 _ dX10_wishedHolder_96 rfl (by first | exact nl2_some rfl | exact nl2_none) (by decide) ?_
              refine Rp.goto (tgt := 14) dX10_wishedHolder_99 (by decide) ?_
              exact k2
            · skip
              cases c45
      · rw [cl] at el
        rw [eB, cl, Bool.true_and] at k1
        -- it may be taken
        have take67 : ∀ g1 : AH, TrI h0 g1 K fl np nt nd nl → (decide (nI q = nI p) || !oBr K fl p t) = true → Rp (d + 3) M_X10_wishedHolder 67 [some (.ref 58), some (.ref 40), some (.int (nI p)), some (.ref 1), some (.int (fnI K np p (wmF K fl np lf p t))), some (.int (moI K p (wmF K fl np lf p t))), some (.int (nI t)), some (.int (nI q)), a8] [] g1 (fun r h' => TrI h0 h' K fl np nt nd nl ∧ r = some (.int (fnI K np p (wmF K fl np lf p nt)))) := by
          intro g1 I1 ht
          obtain ⟨S1, R1, J1, H1, F1⟩ := id I1
          have ew1 : gI g1 5 (p * 8 + t) = nI (wsN K p t) := by
            rw [show p * 8 + t = 8 * p + t by omega]
            exact (H1.2.2.2.2.2.2.2.2.2.2.1 _ (by omega)).trans (W.is (by omega) (by omega)).1
          rw [if_pos ht] at k1
          have k2 := k1 g1 (some (.int (nI q))) (some (.int (nI (wsN K p t)))) I1
          match hx : wmF K fl np lf p t with
          | none =>
            rw [hx] at k2
            have gt : ¬ nI (wsN K p t) ≤ -1 := by
              rw [i32_le, nI_toInt (by omega)]
              have : (-1 : Int32).toInt = -1 := rfl
              omega
            dsimp only [fnI, moI] at k2 ⊢
            rw [eq] at k2
            refine Rp.aload_n dX10_wishedHolder_67 rfl rfl ?_
            refine Rp.getR dX10_wishedHolder_68 fk_X10_75 rfl (S1 _ _ rfl) (R1 _ _ _ rfl) ?_
            refine Rp.iload_n dX10_wishedHolder_71 rfl ?_
            refine Rp.bipush (nI 8) dX10_wishedHolder_72 (by decide) ?_
            first | ((with_reducible show Rp _ _ _ _ (.int (nI _) :: .int (nI _) :: _) _ _); refine Rp.imulN dX10_wishedHolder_74 ?_) | refine Rp.imul dX10_wishedHolder_74 ?_
            refine Rp.iload dX10_wishedHolder_75 rfl ?_
            first | ((with_reducible show Rp _ _ _ _ (.int (nI _) :: .int (nI _) :: _) _ _); refine Rp.iaddN dX10_wishedHolder_77 ?_) | refine Rp.iadd dX10_wishedHolder_77 ?_
            first | ((with_reducible show Rp _ _ _ _ (.int (nI _) :: _) _ _); refine Rp.ialoadN dX10_wishedHolder_78 (S1 _ _ rfl) (by omega) ?_) | refine Rp.iaload dX10_wishedHolder_78 (S1 _ _ rfl) (by first | assumption | exact vpb (by decide)) ?_
            first | rw [ew1] | skip
            refine Rp.ist8 dX10_wishedHolder_79 (by first | exact nl2_some rfl | exact nl2_none) (by decide) ?_
            refine Rp.iload dX10_wishedHolder_81 rfl ?_
            refine Rp.iload dX10_wishedHolder_83 rfl ?_
            first | ((with_reducible show Rp _ _ _ _ (.int (nI _) :: .int (nI _) :: _) _ _); refine Rp.icmp_leN (tgt := 96) dX10_wishedHolder_85 (by decide) (by omega) (fun c85 => ?_) (fun c85 => ?_)) | refine Rp.icmp_le (tgt := 96) dX10_wishedHolder_85 (by decide) (fun c85 => ?_) (fun c85 => ?_)
            · skip
              exact absurd c85 gt
            · skip
              refine Rp.iload dX10_wishedHolder_88 rfl ?_
              refine Rp.ist5 dX10_wishedHolder_90 (by first | exact nl2_some rfl | exact nl2_none) (by decide) ?_
              refine Rp.iload dX10_wishedHolder_92 rfl ?_
              refine Rp.ist4 dX10_wishedHolder_94 (by first | exact nl2_some rfl | exact nl2_none) (by decide) ?_
              first | ((with_reducible show Rp _ _ _ (_ :: _ :: _ :: _ :: _ :: _ :: some (.int (nI _)) :: _) _ _ _); refine Rp.inc6N (c := 1) dX10_wishedHolder_96 (by first | exact nl2_some rfl | exact nl2_none) (by decide) ?_) | refine Rp.inc6 _ dX10_wishedHolder_96 rfl (by first | exact nl2_some rfl | exact nl2_none) (by decide) ?_
              refine Rp.goto (tgt := 14) dX10_wishedHolder_99 (by decide) ?_
              exact k2
          | some b =>
            rw [hx] at k2
            have bb := (wmF_b t b hx).1
            have wb := (W.is (p := p) (t := b) (by omega) (by omega)).2
            dsimp only at k2
            by_cases c2 : wsN K p b < wsN K p t
            · rw [if_pos c2] at k2
              dsimp only [fnI, moI] at k2 ⊢
              rw [eq] at k2
              refine Rp.aload_n dX10_wishedHolder_67 rfl rfl ?_
              refine Rp.getR dX10_wishedHolder_68 fk_X10_75 rfl (S1 _ _ rfl) (R1 _ _ _ rfl) ?_
              refine Rp.iload_n dX10_wishedHolder_71 rfl ?_
              refine Rp.bipush (nI 8) dX10_wishedHolder_72 (by decide) ?_
              first | ((with_reducible show Rp _ _ _ _ (.int (nI _) :: .int (nI _) :: _) _ _); refine Rp.imulN dX10_wishedHolder_74 ?_) | refine Rp.imul dX10_wishedHolder_74 ?_
              refine Rp.iload dX10_wishedHolder_75 rfl ?_
              first | ((with_reducible show Rp _ _ _ _ (.int (nI _) :: .int (nI _) :: _) _ _); refine Rp.iaddN dX10_wishedHolder_77 ?_) | refine Rp.iadd dX10_wishedHolder_77 ?_
              first | ((with_reducible show Rp _ _ _ _ (.int (nI _) :: _) _ _); refine Rp.ialoadN dX10_wishedHolder_78 (S1 _ _ rfl) (by omega) ?_) | refine Rp.iaload dX10_wishedHolder_78 (S1 _ _ rfl) (by first | assumption | exact vpb (by decide)) ?_
              first | rw [ew1] | skip
              refine Rp.ist8 dX10_wishedHolder_79 (by first | exact nl2_some rfl | exact nl2_none) (by decide) ?_
              refine Rp.iload dX10_wishedHolder_81 rfl ?_
              refine Rp.iload dX10_wishedHolder_83 rfl ?_
              first | ((with_reducible show Rp _ _ _ _ (.int (nI _) :: .int (nI _) :: _) _ _); refine Rp.icmp_leN (tgt := 96) dX10_wishedHolder_85 (by decide) (by omega) (fun c85 => ?_) (fun c85 => ?_)) | refine Rp.icmp_le (tgt := 96) dX10_wishedHolder_85 (by decide) (fun c85 => ?_) (fun c85 => ?_)
              · skip
                first | (exfalso; omega) | exact absurd c85 (by decide) | exact absurd (by decide) c85
              · skip
                refine Rp.iload dX10_wishedHolder_88 rfl ?_
                refine Rp.ist5 dX10_wishedHolder_90 (by first | exact nl2_some rfl | exact nl2_none) (by decide) ?_
                refine Rp.iload dX10_wishedHolder_92 rfl ?_
                refine Rp.ist4 dX10_wishedHolder_94 (by first | exact nl2_some rfl | exact nl2_none) (by decide) ?_
                first | ((with_reducible show Rp _ _ _ (_ :: _ :: _ :: _ :: _ :: _ :: some (.int (nI _)) :: _) _ _ _); refine Rp.inc6N (c := 1) dX10_wishedHolder_96 (by first | exact nl2_some rfl | exact nl2_none) (by decide) ?_) | refine Rp.inc6 _ dX10_wishedHolder_96 rfl (by first | exact nl2_some rfl | exact nl2_none) (by decide) ?_
                refine Rp.goto (tgt := 14) dX10_wishedHolder_99 (by decide) ?_
                exact k2
            · rw [if_neg c2] at k2
              dsimp only [fnI, moI] at k2 ⊢
              refine Rp.aload_n dX10_wishedHolder_67 rfl rfl ?_
              refine Rp.getR dX10_wishedHolder_68 fk_X10_75 rfl (S1 _ _ rfl) (R1 _ _ _ rfl) ?_
              refine Rp.iload_n dX10_wishedHolder_71 rfl ?_
              refine Rp.bipush (nI 8) dX10_wishedHolder_72 (by decide) ?_
              first | ((with_reducible show Rp _ _ _ _ (.int (nI _) :: .int (nI _) :: _) _ _); refine Rp.imulN dX10_wishedHolder_74 ?_) | refine Rp.imul dX10_wishedHolder_74 ?_
              refine Rp.iload dX10_wishedHolder_75 rfl ?_
              first | ((with_reducible show Rp _ _ _ _ (.int (nI _) :: .int (nI _) :: _) _ _); refine Rp.iaddN dX10_wishedHolder_77 ?_) | refine Rp.iadd dX10_wishedHolder_77 ?_
              first | ((with_reducible show Rp _ _ _ _ (.int (nI _) :: _) _ _); refine Rp.ialoadN dX10_wishedHolder_78 (S1 _ _ rfl) (by omega) ?_) | refine Rp.iaload dX10_wishedHolder_78 (S1 _ _ rfl) (by first | assumption | exact vpb (by decide)) ?_
              first | rw [ew1] | skip
              refine Rp.ist8 dX10_wishedHolder_79 (by first | exact nl2_some rfl | exact nl2_none) (by decide) ?_
              refine Rp.iload dX10_wishedHolder_81 rfl ?_
              refine Rp.iload dX10_wishedHolder_83 rfl ?_
              first | ((with_reducible show Rp _ _ _ _ (.int (nI _) :: .int (nI _) :: _) _ _); refine Rp.icmp_leN (tgt := 96) dX10_wishedHolder_85 (by decide) (by omega) (fun c85 => ?_) (fun c85 => ?_)) | refine Rp.icmp_le (tgt := 96) dX10_wishedHolder_85 (by decide) (fun c85 => ?_) (fun c85 => ?_)
              · skip
                first | ((with_reducible show Rp _ _ _ (_ :: _ :: _ :: _ :: _ :: _ :: some (.int (nI _)) :: _) _ _ _); refine Rp.inc6N (c := 1) dX10_wishedHolder_96 (by first | exact nl2_some rfl | exact nl2_none) (by decide) ?_) | refine Rp.inc6 _ dX10_wishedHolder_96 rfl (by first | exact nl2_some rfl | exact nl2_none) (by decide) ?_
                refine Rp.goto (tgt := 14) dX10_wishedHolder_99 (by decide) ?_
                exact k2
              · skip
                first | (exfalso; omega) | exact absurd c85 (by decide) | exact absurd (by decide) c85
        by_cases c3 : nI q = nI p
        · have k67 := take67 g I (by rw [decide_eq_true c3]; rfl)
          refine Rp.iload dX10_wishedHolder_14 rfl ?_
          refine Rp.aload_n dX10_wishedHolder_16 rfl rfl ?_
          refine Rp.getI dX10_wishedHolder_17 fk_X10_65 rfl (S _ _ rfl) ?_
          first | rw [m4] | rw [eh2] | rw [el] | skip
          first | ((with_reducible show Rp _ _ _ _ (.int (nI _) :: .int (nI _) :: _) _ _); refine Rp.icmp_geN (tgt := 102) dX10_wishedHolder_20 (by decide) (by omega) (fun c20 => ?_) (fun c20 => ?_)) | refine Rp.icmp_ge (tgt := 102) dX10_wishedHolder_20 (by decide) (fun c20 => ?_) (fun c20 => ?_)
          · skip
            first | (exfalso; omega) | exact absurd c20 (by decide) | exact absurd (by decide) c20
          · skip
            refine Rp.aload_n dX10_wishedHolder_23 rfl rfl ?_
            refine Rp.getR dX10_wishedHolder_24 fk_X10_68 rfl (S _ _ rfl) (R _ _ _ rfl) ?_
            refine Rp.iload dX10_wishedHolder_27 rfl ?_
            first | ((with_reducible show Rp _ _ _ _ (.int (nI _) :: _) _ _); refine Rp.ialoadN dX10_wishedHolder_29 (S _ _ rfl) (by omega) ?_) | refine Rp.iaload dX10_wishedHolder_29 (S _ _ rfl) (by first | assumption | exact vpb (by decide)) ?_
            first | rw [m4] | rw [eh2] | rw [el] | skip
            refine Rp.ist7 dX10_wishedHolder_30 (by first | exact nl2_some rfl | exact nl2_none) (by decide) ?_
            refine Rp.iload dX10_wishedHolder_32 rfl ?_
            refine Rp.iconst (-1) dX10_wishedHolder_34 (by decide) ?_
            first | ((with_reducible show Rp _ _ _ _ (.int (nI _) :: .int (nI _) :: _) _ _); refine Rp.icmp_eqN (tgt := 96) dX10_wishedHolder_35 (by decide) (by omega) (fun c35 => ?_) (fun c35 => ?_)) | refine Rp.icmp_eq (tgt := 96) dX10_wishedHolder_35 (by decide) (fun c35 => ?_) (fun c35 => ?_)
            · skip
              exact absurd c35 nq
            · skip
              refine Rp.aload_n dX10_wishedHolder_38 rfl rfl ?_
              refine Rp.getR dX10_wishedHolder_39 fk_X10_9 rfl (S _ _ rfl) (R _ _ _ rfl) ?_
              refine Rp.iload dX10_wishedHolder_42 rfl ?_
              first | ((with_reducible show Rp _ _ _ _ (.int (nI _) :: _) _ _); refine Rp.zaloadN dX10_wishedHolder_44 (S _ _ rfl) (by omega) ?_) | refine Rp.zaload dX10_wishedHolder_44 (S _ _ rfl) (by first | assumption | exact vpb (by decide)) ?_
              first | rw [m4] | rw [eh2] | rw [el] | skip
              first | ((with_reducible show Rp _ _ _ _ (.int (b2i _) :: _) _ _); refine Rp.if_eqB (tgt := 96) dX10_wishedHolder_45 (by decide) (fun c45 => ?_) (fun c45 => ?_)) | ((with_reducible show Rp _ _ _ _ (.int (nI _) :: _) _ _); refine Rp.if_eqN (tgt := 96) dX10_wishedHolder_45 (by decide) (by omega) (fun c45 => ?_) (fun c45 => ?_)) | refine Rp.if_eq (tgt := 96) dX10_wishedHolder_45 (by decide) (fun c45 => ?_) (fun c45 => ?_)
              · skip
                cases c45
              · skip
                refine Rp.iload dX10_wishedHolder_48 rfl ?_
                refine Rp.iload_n dX10_wishedHolder_50 rfl ?_
                first | ((with_reducible show Rp _ _ _ _ (.int (nI _) :: .int (nI _) :: _) _ _); refine Rp.icmp_eqN (tgt := 67) dX10_wishedHolder_51 (by decide) (by omega) (fun c51 => ?_) (fun c51 => ?_)) | refine Rp.icmp_eq (tgt := 67) dX10_wishedHolder_51 (by decide) (fun c51 => ?_) (fun c51 => ?_)
                · skip
                  exact k67
                · skip
                  exact absurd (nI_inj (by omega) (by omega) c3) c51
        · have br := t_isBarredJ d S R J B (p := p) (t := t) (by omega) (by omega)
          have nqp : ¬ q = p := fun z => c3 (by rw [z])
          refine Rp.iload dX10_wishedHolder_14 rfl ?_
          refine Rp.aload_n dX10_wishedHolder_16 rfl rfl ?_
          refine Rp.getI dX10_wishedHolder_17 fk_X10_65 rfl (S _ _ rfl) ?_
          first | rw [m4] | rw [eh2] | rw [el] | skip
          first | ((with_reducible show Rp _ _ _ _ (.int (nI _) :: .int (nI _) :: _) _ _); refine Rp.icmp_geN (tgt := 102) dX10_wishedHolder_20 (by decide) (by omega) (fun c20 => ?_) (fun c20 => ?_)) | refine Rp.icmp_ge (tgt := 102) dX10_wishedHolder_20 (by decide) (fun c20 => ?_) (fun c20 => ?_)
          · first | (exfalso; omega) | exact absurd c20 (by decide) | exact absurd (by decide) c20
          refine Rp.aload_n dX10_wishedHolder_23 rfl rfl ?_
          refine Rp.getR dX10_wishedHolder_24 fk_X10_68 rfl (S _ _ rfl) (R _ _ _ rfl) ?_
          refine Rp.iload dX10_wishedHolder_27 rfl ?_
          first | ((with_reducible show Rp _ _ _ _ (.int (nI _) :: _) _ _); refine Rp.ialoadN dX10_wishedHolder_29 (S _ _ rfl) (by omega) ?_) | refine Rp.iaload dX10_wishedHolder_29 (S _ _ rfl) (by first | assumption | exact vpb (by decide)) ?_
          first | rw [m4] | rw [eh2] | rw [el] | skip
          refine Rp.ist7 dX10_wishedHolder_30 (by first | exact nl2_some rfl | exact nl2_none) (by decide) ?_
          refine Rp.iload dX10_wishedHolder_32 rfl ?_
          refine Rp.iconst (-1) dX10_wishedHolder_34 (by decide) ?_
          first | ((with_reducible show Rp _ _ _ _ (.int (nI _) :: .int (nI _) :: _) _ _); refine Rp.icmp_eqN (tgt := 96) dX10_wishedHolder_35 (by decide) (by omega) (fun c35 => ?_) (fun c35 => ?_)) | refine Rp.icmp_eq (tgt := 96) dX10_wishedHolder_35 (by decide) (fun c35 => ?_) (fun c35 => ?_)
          · exact absurd c35 nq
          refine Rp.aload_n dX10_wishedHolder_38 rfl rfl ?_
          refine Rp.getR dX10_wishedHolder_39 fk_X10_9 rfl (S _ _ rfl) (R _ _ _ rfl) ?_
          refine Rp.iload dX10_wishedHolder_42 rfl ?_
          first | ((with_reducible show Rp _ _ _ _ (.int (nI _) :: _) _ _); refine Rp.zaloadN dX10_wishedHolder_44 (S _ _ rfl) (by omega) ?_) | refine Rp.zaload dX10_wishedHolder_44 (S _ _ rfl) (by first | assumption | exact vpb (by decide)) ?_
          first | rw [m4] | rw [eh2] | rw [el] | skip
          first | ((with_reducible show Rp _ _ _ _ (.int (b2i _) :: _) _ _); refine Rp.if_eqB (tgt := 96) dX10_wishedHolder_45 (by decide) (fun c45 => ?_) (fun c45 => ?_)) | ((with_reducible show Rp _ _ _ _ (.int (nI _) :: _) _ _); refine Rp.if_eqN (tgt := 96) dX10_wishedHolder_45 (by decide) (by omega) (fun c45 => ?_) (fun c45 => ?_)) | refine Rp.if_eq (tgt := 96) dX10_wishedHolder_45 (by decide) (fun c45 => ?_) (fun c45 => ?_)
          · cases c45
          refine Rp.iload dX10_wishedHolder_48 rfl ?_
          refine Rp.iload_n dX10_wishedHolder_50 rfl ?_
          first | ((with_reducible show Rp _ _ _ _ (.int (nI _) :: .int (nI _) :: _) _ _); refine Rp.icmp_eqN (tgt := 67) dX10_wishedHolder_51 (by decide) (by omega) (fun c51 => ?_) (fun c51 => ?_)) | refine Rp.icmp_eq (tgt := 67) dX10_wishedHolder_51 (by decide) (fun c51 => ?_) (fun c51 => ?_)
          · first | (exfalso; omega) | exact absurd c51 (by decide) | exact absurd (by decide) c51
          refine Rp.aload_n dX10_wishedHolder_54 rfl rfl ?_
          refine Rp.iload_n dX10_wishedHolder_55 rfl ?_
          refine Rp.iload dX10_wishedHolder_56 rfl ?_
          refine Rp.callV2 M_X3_isBarred (ci := 3) dX10_wishedHolder_58 mo_X3_isBarred lk_X10_71 (by decide) rfl rfl (S _ _ rfl) (Nat.le_of_ble_eq_true rfl) (Nat.le_of_ble_eq_true rfl) (br) (fun v1 h1 p1 x1 => ?_)
          obtain ⟨F1, J1, rfl⟩ := p1
          try dsimp only [Option.toList, List.cons_append, List.nil_append, List.append]
          skip
          have I1 : TrI h0 h1 K fl np nt nd nl := ⟨F1.S S, F1.R R (by decide), J1, H.fj (by decide) F1, F.trans F1⟩
          cases c4 : oBr K fl p t
          · have k67 := take67 h1 I1 (by rw [c4]; cases decide (nI q = nI p) <;> rfl)
            first | ((with_reducible show Rp _ _ _ _ (.int (b2i _) :: _) _ _); refine Rp.if_eqB (tgt := 67) dX10_wishedHolder_61 (by decide) (fun c61 => ?_) (fun c61 => ?_)) | ((with_reducible show Rp _ _ _ _ (.int (nI _) :: _) _ _); refine Rp.if_eqN (tgt := 67) dX10_wishedHolder_61 (by decide) (by omega) (fun c61 => ?_) (fun c61 => ?_)) | refine Rp.if_eq (tgt := 67) dX10_wishedHolder_61 (by decide) (fun c61 => ?_) (fun c61 => ?_)
            · skip
              exact k67
            · skip
              cases c61
          · rw [c4, decide_eq_false c3, if_neg (by decide)] at k1
            have k2 := k1 h1 (some (.int (nI q))) a8 I1
            first | ((with_reducible show Rp _ _ _ _ (.int (b2i _) :: _) _ _); refine Rp.if_eqB (tgt := 67) dX10_wishedHolder_61 (by decide) (fun c61 => ?_) (fun c61 => ?_)) | ((with_reducible show Rp _ _ _ _ (.int (nI _) :: _) _ _); refine Rp.if_eqN (tgt := 67) dX10_wishedHolder_61 (by decide) (by omega) (fun c61 => ?_) (fun c61 => ?_)) | refine Rp.if_eq (tgt := 67) dX10_wishedHolder_61 (by decide) (fun c61 => ?_) (fun c61 => ?_)
            · skip
              cases c61
            · skip
              refine Rp.goto (tgt := 96) dX10_wishedHolder_64 (by decide) ?_
              first | ((with_reducible show Rp _ _ _ (_ :: _ :: _ :: _ :: _ :: _ :: some (.int (nI _)) :: _) _ _ _); refine Rp.inc6N (c := 1) dX10_wishedHolder_96 (by first | exact nl2_some rfl | exact nl2_none) (by decide) ?_) | refine Rp.inc6 _ dX10_wishedHolder_96 rfl (by first | exact nl2_some rfl | exact nl2_none) (by decide) ?_
              refine Rp.goto (tgt := 14) dX10_wishedHolder_99 (by decide) ?_
              exact k2
theorem t_wishedHolder {g : AH} (S : ShOK g) (R : RfOK g) (J : JS g 1 K fl) (H : HA g 1 K np nt nd nl) (B : KB K) (V : VH K np nt) (W : KW K) {lf : Nat → Bool} (hl : ∀ q, q < 6 → gI g 59 q = b2i (lf q)) {p : Nat} (hp : p < np) : Rp (d + 3) M_X10_wishedHolder 0 [some (.ref 58), some (.ref 40), some (.int (nI p)), none, none, none, none, none, none] [] g (fun r h' => TrI g h' K fl np nt nd nl ∧ r = some (.int (fnI K np p (wmF K fl np lf p nt)))) := by
  have j40 : gR g 40 3 = some 1 := J.1
  have k14 := wished14 d (h0 := g) B V W hl hp nt 0 g none none (by omega) ⟨S, R, J, H, Fr.rfl'⟩
  refine Rp.aload_n dX10_wishedHolder_0 rfl rfl ?_
  refine Rp.getR dX10_wishedHolder_1 fk_X10_25 rfl (S _ _ rfl) j40 ?_
  refine Rp.ast3 dX10_wishedHolder_4 (by first | exact nl2_some rfl | exact nl2_none) (by decide) ?_
  refine Rp.iload_n dX10_wishedHolder_5 rfl ?_
  refine Rp.ist4 dX10_wishedHolder_6 (by first | exact nl2_some rfl | exact nl2_none) (by decide) ?_
  refine Rp.iconst (-1) dX10_wishedHolder_8 (by decide) ?_
  refine Rp.ist5 dX10_wishedHolder_9 (by first | exact nl2_some rfl | exact nl2_none) (by decide) ?_
  refine Rp.iconst (nI 0) dX10_wishedHolder_11 (by decide) ?_
  refine Rp.ist6 dX10_wishedHolder_12 (by first | exact nl2_some rfl | exact nl2_none) (by decide) ?_
  exact k14
/-- at whom one points, as a number -/
theorem fnI_pnt (V : VH K np nt) {lf : Nat → Bool} {p : Nat} (hp : p < np) : fnI K np p (wmF K fl np lf p nt) = nI (pnt K fl np nt lf p) ∧ pnt K fl np nt lf p < np ∧ (lf p = true → lf (pnt K fl np nt lf p) = true) := by
  have v1 := V.1
  unfold pnt
  match hx : wmF K fl np lf p nt with
  | none => exact ⟨rfl, hp, fun h => h⟩
  | some b =>
    have bb := (wmF_b nt b hx).2
    unfold wmB at bb
    rw [Bool.and_eq_true, Bool.and_eq_true, decide_eq_true_eq] at bb
    obtain ⟨q, hq, eq, -⟩ := hOf_get np bb.1.1
    dsimp only [fnI]
    rw [eq, ix_nI (by omega)]
    have := bb.1.2
    rw [eq, ix_nI (by omega)] at this
    exact ⟨rfl, hq, fun _ => this⟩
/-- one who is left may point at one's own ticket -/
theorem wm_own (V : VH K np nt) {lf : Nat → Bool} {p t : Nat} (hp : p < np) (ht : t < nt) (hl : lf p = true) (e : K p = nI t) : wmB K fl np lf p t = true := by
  have v1 := V.1
  have v2 := V.2.1
  have ho : hOf K (nI t) np = nI p := hOf_one e np hp (fun q hq y => V.2.2.2 q p hq hp (y.trans e.symm) (by rw [y]; exact nI_m1 (by omega)))
  unfold wmB
  rw [ho, ix_nI (by omega), hl, decide_eq_true (nI_m1 (by omega)), decide_eq_true rfl]
  rfl
theorem wmF_some {lf : Nat → Bool} {p t : Nat} (h : wmB K fl np lf p t = true) : ∀ n, t < n → wmF K fl np lf p n ≠ none
  | 0, ht => absurd ht (Nat.not_lt_zero _)
  | n + 1, ht => by
    rw [wmF]
    by_cases e : t = n
    · subst e
      rw [if_pos h]
      match wmF K fl np lf p t with
      | none => exact fun z => nomatch z
      | some b => dsimp only; split <;> exact fun z => nomatch z
    · have ih := wmF_some h n (by omega)
      by_cases c : wmB K fl np lf p n = true
      · rw [if_pos c]
        match hx : wmF K fl np lf p n, ih with
        | none, ih => exact absurd rfl ih
        | some b, ih => dsimp only; split <;> exact fun z => nomatch z
      · rw [if_neg c]; exact ih
end Tr
