section Cr
variable (d : Nat) {h : AH} {lf : Nat → Bool}
theorem inR16 {f : Nat → Nat} (S : ShOK h) (R : RfOK h) (hf : ∀ q, lf q = true → q < 6 ∧ lf (f q) = true ∧ gI h 61 q = nI (f q)) {p : Nat} (hp : lf p = true) {P : Option Value → AH → Prop} : ∀ (m i a l : Nat), i + m = 6 → lf a = true → l < 6 → (∀ a' l' i', decide (a' = p) = onL f p m a → l' = loL f p m a l → a' < 6 → l' < 6 → Rp (d + 1) M_X10_isInRing 47 [some (.ref 58), some (.int (nI p)), some (.int (nI a')), some (.int (nI l')), some (.int (nI i'))] [] h P) → Rp (d + 1) M_X10_isInRing 16 [some (.ref 58), some (.int (nI p)), some (.int (nI a)), some (.int (nI l)), some (.int (nI i))] [] h P := by
  have p6 := (hf p hp).1
  intro m
  induction m with
  | zero =>
    intro i a l hm ha hl kk
    have e : i = 6 := by omega
    subst e
    have k1 := kk a l 6 rfl rfl (hf a ha).1 hl
    refine Rp.iload dX10_isInRing_16 rfl ?_
    refine Rp.bipush (nI 6) dX10_isInRing_18 (by decide) ?_
    first | ((with_reducible show Rp _ _ _ _ (.int (nI _) :: .int (nI _) :: _) _ _); refine Rp.icmp_geN (tgt := 47) dX10_isInRing_20 (by decide) (by omega) (fun c20 => ?_) (fun c20 => ?_)) | refine Rp.icmp_ge (tgt := 47) dX10_isInRing_20 (by decide) (fun c20 => ?_) (fun c20 => ?_)
    · skip
      exact k1
    · skip
      first | (exfalso; omega) | exact absurd c20 (by decide) | exact absurd (by decide) c20
  | succ m ih =>
    intro i a l hm ha hl kk
    have a6 := (hf a ha).1
    by_cases c : a = p
    · have k1 := kk a l i (by rw [onL, if_pos c, decide_eq_true c]) (by rw [loL, if_pos c]) a6 hl
      refine Rp.iload dX10_isInRing_16 rfl ?_
      refine Rp.bipush (nI 6) dX10_isInRing_18 (by decide) ?_
      first | ((with_reducible show Rp _ _ _ _ (.int (nI _) :: .int (nI _) :: _) _ _); refine Rp.icmp_geN (tgt := 47) dX10_isInRing_20 (by decide) (by omega) (fun c20 => ?_) (fun c20 => ?_)) | refine Rp.icmp_ge (tgt := 47) dX10_isInRing_20 (by decide) (fun c20 => ?_) (fun c20 => ?_)
      · skip
        first | (exfalso; omega) | exact absurd c20 (by decide) | exact absurd (by decide) c20
      · skip
        refine Rp.iload_n dX10_isInRing_23 rfl ?_
        refine Rp.iload_n dX10_isInRing_24 rfl ?_
        first | ((with_reducible show Rp _ _ _ _ (.int (nI _) :: .int (nI _) :: _) _ _); refine Rp.icmp_eqN (tgt := 47) dX10_isInRing_25 (by decide) (by omega) (fun c25 => ?_) (fun c25 => ?_)) | refine Rp.icmp_eq (tgt := 47) dX10_isInRing_25 (by decide) (fun c25 => ?_) (fun c25 => ?_)
        · skip
          exact k1
        · skip
          first | (exfalso; omega) | exact absurd c25 (by decide) | exact absurd (by decide) c25
    · rw [onL, if_neg c, loL, if_neg c] at kk
      have f6 := (hf (f a) (hf a ha).2.1).1
      have k1 := ih (i + 1) (f a) (min l (f a)) (by omega) (hf a ha).2.1 (by omega) kk
      have ea := (hf a ha).2.2
      have mn := (min_nI (a := l) (b := f a) (by omega) (by omega)).2
      rw [← mn] at k1
      refine Rp.iload dX10_isInRing_16 rfl ?_
      refine Rp.bipush (nI 6) dX10_isInRing_18 (by decide) ?_
      first | ((with_reducible show Rp _ _ _ _ (.int (nI _) :: .int (nI _) :: _) _ _); refine Rp.icmp_geN (tgt := 47) dX10_isInRing_20 (by decide) (by omega) (fun c20 => ?_) (fun c20 => ?_)) | refine Rp.icmp_ge (tgt := 47) dX10_isInRing_20 (by decide) (fun c20 => ?_) (fun c20 => ?_)
      · skip
        first | (exfalso; omega) | exact absurd c20 (by decide) | exact absurd (by decide) c20
      · skip
        refine Rp.iload_n dX10_isInRing_23 rfl ?_
        refine Rp.iload_n dX10_isInRing_24 rfl ?_
        first | ((with_reducible show Rp _ _ _ _ (.int (nI _) :: .int (nI _) :: _) _ _); refine Rp.icmp_eqN (tgt := 47) dX10_isInRing_25 (by decide) (by omega) (fun c25 => ?_) (fun c25 => ?_)) | refine Rp.icmp_eq (tgt := 47) dX10_isInRing_25 (by decide) (fun c25 => ?_) (fun c25 => ?_)
        · skip
          first | (exfalso; omega) | exact absurd c25 (by decide) | exact absurd (by decide) c25
        · skip
          refine Rp.aload_n dX10_isInRing_28 rfl rfl ?_
          refine Rp.getR dX10_isInRing_29 fk_X10_18 rfl (S _ _ rfl) (R _ _ _ rfl) ?_
          refine Rp.iload_n dX10_isInRing_32 rfl ?_
          first | ((with_reducible show Rp _ _ _ _ (.int (nI _) :: _) _ _); refine Rp.ialoadN dX10_isInRing_33 (S _ _ rfl) (by omega) ?_) | refine Rp.iaload dX10_isInRing_33 (S _ _ rfl) (by first | assumption | exact vpb (by decide)) ?_
          first | rw [ea] | skip
          refine Rp.ist2 dX10_isInRing_34 (by first | exact nl2_some rfl | exact nl2_none) (by decide) ?_
          refine Rp.iload_n dX10_isInRing_35 rfl ?_
          refine Rp.iload_n dX10_isInRing_36 rfl ?_
          refine Rp.mmin dX10_isInRing_37 mm_X10_81 (Nat.le_of_ble_eq_true rfl) ?_
          refine Rp.ist3 dX10_isInRing_40 (by first | exact nl2_some rfl | exact nl2_none) (by decide) ?_
          first | ((with_reducible show Rp _ _ _ (_ :: _ :: _ :: _ :: some (.int (nI _)) :: _) _ _ _); refine Rp.inc4N (c := 1) dX10_isInRing_41 (by first | exact nl2_some rfl | exact nl2_none) (by decide) ?_) | refine Rp.inc4 _ dX10_isInRing_41 rfl (by first | exact nl2_some rfl | exact nl2_none) (by decide) ?_
          refine Rp.goto (tgt := 16) dX10_isInRing_44 (by decide) ?_
          exact k1
theorem inR47 {p a l n i : Nat} (S : ShOK h) (hn : gI h 58 4 = nI n) (hp : p < 6) (ha : a < 6) (hl : l < 6) : Rp (d + 1) M_X10_isInRing 47 [some (.ref 58), some (.int (nI p)), some (.int (nI a)), some (.int (nI l)), some (.int (nI i))] [] h (fun r h' => r = some (.int (b2i (decide (a = p)))) ∧ h' = if decide (a = p) = true ∧ l = p then sI h 58 4 (nI (n + 1)) else h) := by
  by_cases c : a = p
  · rw [decide_eq_true c]
    by_cases c2 : l = p
    · rw [if_pos ⟨rfl, c2⟩]
      refine Rp.iload_n dX10_isInRing_47 rfl ?_
      refine Rp.iload_n dX10_isInRing_48 rfl ?_
      first | ((with_reducible show Rp _ _ _ _ (.int (nI _) :: .int (nI _) :: _) _ _); refine Rp.icmp_neN (tgt := 67) dX10_isInRing_49 (by decide) (by omega) (fun c49 => ?_) (fun c49 => ?_)) | refine Rp.icmp_ne (tgt := 67) dX10_isInRing_49 (by decide) (fun c49 => ?_) (fun c49 => ?_)
      · skip
        first | (exfalso; omega) | exact absurd c49 (by decide) | exact absurd (by decide) c49
      · skip
        refine Rp.iload_n dX10_isInRing_52 rfl ?_
        refine Rp.iload_n dX10_isInRing_53 rfl ?_
        first | ((with_reducible show Rp _ _ _ _ (.int (nI _) :: .int (nI _) :: _) _ _); refine Rp.icmp_neN (tgt := 67) dX10_isInRing_54 (by decide) (by omega) (fun c54 => ?_) (fun c54 => ?_)) | refine Rp.icmp_ne (tgt := 67) dX10_isInRing_54 (by decide) (fun c54 => ?_) (fun c54 => ?_)
        · skip
          first | (exfalso; omega) | exact absurd c54 (by decide) | exact absurd (by decide) c54
        · skip
          refine Rp.aload_n dX10_isInRing_57 rfl rfl ?_
          refine Rp.dup dX10_isInRing_58 rfl ?_
          refine Rp.getI dX10_isInRing_59 fk_X10_31 rfl (S _ _ rfl) ?_
          first | rw [hn] | skip
          refine Rp.iconst (nI 1) dX10_isInRing_62 (by decide) ?_
          first | ((with_reducible show Rp _ _ _ _ (.int (nI _) :: .int (nI _) :: _) _ _); refine Rp.iaddN dX10_isInRing_63 ?_) | refine Rp.iadd dX10_isInRing_63 ?_
          refine Rp.putI dX10_isInRing_64 fk_X10_31w rfl (S _ _ rfl) ?_
          refine Rp.iload_n dX10_isInRing_67 rfl ?_
          refine Rp.iload_n dX10_isInRing_68 rfl ?_
          first | ((with_reducible show Rp _ _ _ _ (.int (nI _) :: .int (nI _) :: _) _ _); refine Rp.icmp_neN (tgt := 76) dX10_isInRing_69 (by decide) (by omega) (fun c69 => ?_) (fun c69 => ?_)) | refine Rp.icmp_ne (tgt := 76) dX10_isInRing_69 (by decide) (fun c69 => ?_) (fun c69 => ?_)
          · skip
            first | (exfalso; omega) | exact absurd c69 (by decide) | exact absurd (by decide) c69
          · skip
            refine Rp.iconst (nI 1) dX10_isInRing_72 (by decide) ?_
            refine Rp.goto (tgt := 77) dX10_isInRing_73 (by decide) ?_
            refine Rp.zreturn dX10_isInRing_77 rfl (by first | exact Or.inl rfl | exact Or.inr rfl | assumption) ?_
            exact ⟨rfl, rfl⟩
    · rw [if_neg (fun z => c2 z.2)]
      refine Rp.iload_n dX10_isInRing_47 rfl ?_
      refine Rp.iload_n dX10_isInRing_48 rfl ?_
      first | ((with_reducible show Rp _ _ _ _ (.int (nI _) :: .int (nI _) :: _) _ _); refine Rp.icmp_neN (tgt := 67) dX10_isInRing_49 (by decide) (by omega) (fun c49 => ?_) (fun c49 => ?_)) | refine Rp.icmp_ne (tgt := 67) dX10_isInRing_49 (by decide) (fun c49 => ?_) (fun c49 => ?_)
      · skip
        first | (exfalso; omega) | exact absurd c49 (by decide) | exact absurd (by decide) c49
      · skip
        refine Rp.iload_n dX10_isInRing_52 rfl ?_
        refine Rp.iload_n dX10_isInRing_53 rfl ?_
        first | ((with_reducible show Rp _ _ _ _ (.int (nI _) :: .int (nI _) :: _) _ _); refine Rp.icmp_neN (tgt := 67) dX10_isInRing_54 (by decide) (by omega) (fun c54 => ?_) (fun c54 => ?_)) | refine Rp.icmp_ne (tgt := 67) dX10_isInRing_54 (by decide) (fun c54 => ?_) (fun c54 => ?_)
        · skip
          refine Rp.iload_n dX10_isInRing_67 rfl ?_
          refine Rp.iload_n dX10_isInRing_68 rfl ?_
          first | ((with_reducible show Rp _ _ _ _ (.int (nI _) :: .int (nI _) :: _) _ _); refine Rp.icmp_neN (tgt := 76) dX10_isInRing_69 (by decide) (by omega) (fun c69 => ?_) (fun c69 => ?_)) | refine Rp.icmp_ne (tgt := 76) dX10_isInRing_69 (by decide) (fun c69 => ?_) (fun c69 => ?_)
          · skip
            first | (exfalso; omega) | exact absurd c69 (by decide) | exact absurd (by decide) c69
          · skip
            refine Rp.iconst (nI 1) dX10_isInRing_72 (by decide) ?_
            refine Rp.goto (tgt := 77) dX10_isInRing_73 (by decide) ?_
            refine Rp.zreturn dX10_isInRing_77 rfl (by first | exact Or.inl rfl | exact Or.inr rfl | assumption) ?_
            exact ⟨rfl, rfl⟩
        · skip
          first | (exfalso; omega) | exact absurd c54 (by decide) | exact absurd (by decide) c54
  · rw [decide_eq_false c, if_neg (fun z => by cases z.1)]
    refine Rp.iload_n dX10_isInRing_47 rfl ?_
    refine Rp.iload_n dX10_isInRing_48 rfl ?_
    first | ((with_reducible show Rp _ _ _ _ (.int (nI _) :: .int (nI _) :: _) _ _); refine Rp.icmp_neN (tgt := 67) dX10_isInRing_49 (by decide) (by omega) (fun c49 => ?_) (fun c49 => ?_)) | refine Rp.icmp_ne (tgt := 67) dX10_isInRing_49 (by decide) (fun c49 => ?_) (fun c49 => ?_)
    · skip
      refine Rp.iload_n dX10_isInRing_67 rfl ?_
      refine Rp.iload_n dX10_isInRing_68 rfl ?_
      first | ((with_reducible show Rp _ _ _ _ (.int (nI _) :: .int (nI _) :: _) _ _); refine Rp.icmp_neN (tgt := 76) dX10_isInRing_69 (by decide) (by omega) (fun c69 => ?_) (fun c69 => ?_)) | refine Rp.icmp_ne (tgt := 76) dX10_isInRing_69 (by decide) (fun c69 => ?_) (fun c69 => ?_)
      · skip
        refine Rp.iconst (nI 0) dX10_isInRing_76 (by decide) ?_
        refine Rp.zreturn dX10_isInRing_77 rfl (by first | exact Or.inl rfl | exact Or.inr rfl | assumption) ?_
        exact ⟨rfl, rfl⟩
      · skip
        first | (exfalso; omega) | exact absurd c69 (by decide) | exact absurd (by decide) c69
    · skip
      first | (exfalso; omega) | exact absurd c49 (by decide) | exact absurd (by decide) c49
/-- whether one is on a ring; a ring is counted at its lowest -/
theorem t_isInRing {f : Nat → Nat} (S : ShOK h) (R : RfOK h) (hf : ∀ q, lf q = true → q < 6 ∧ lf (f q) = true ∧ gI h 61 q = nI (f q)) {p n : Nat} (hp : lf p = true) (hn : gI h 58 4 = nI n) : Rp (d + 1) M_X10_isInRing 0 [some (.ref 58), some (.int (nI p)), none, none, none] [] h (fun r h' => r = some (.int (b2i (onR f p))) ∧ h' = if onR f p = true ∧ loR f p = p then sI h 58 4 (nI (n + 1)) else h) := by
  have p6 := (hf p hp).1
  have fp6 := (hf (f p) (hf p hp).2.1).1
  have ea := (hf p hp).2.2
  have mn := (min_nI (a := p) (b := f p) (by omega) (by omega)).2
  have k16 := inR16 d S R hf hp (P := fun r h' => r = some (.int (b2i (onR f p))) ∧ h' = if onR f p = true ∧ loR f p = p then sI h 58 4 (nI (n + 1)) else h) 6 0 (f p) (min p (f p)) (by omega) (hf p hp).2.1 (by omega) (fun a' l' i' e1 e2 h1 h2 => by
    have e1 : decide (a' = p) = onR f p := e1
    have e2 : l' = loR f p := e2
    rw [← e1, ← e2]
    exact inR47 d S hn p6 h1 h2)
  rw [← mn] at k16
  refine Rp.aload_n dX10_isInRing_0 rfl rfl ?_
  refine Rp.getR dX10_isInRing_1 fk_X10_18 rfl (S _ _ rfl) (R _ _ _ rfl) ?_
  refine Rp.iload_n dX10_isInRing_4 rfl ?_
  first | ((with_reducible show Rp _ _ _ _ (.int (nI _) :: _) _ _); refine Rp.ialoadN dX10_isInRing_5 (S _ _ rfl) (by omega) ?_) | refine Rp.iaload dX10_isInRing_5 (S _ _ rfl) (by first | assumption | exact vpb (by decide)) ?_
  first | rw [ea] | skip
  refine Rp.ist2 dX10_isInRing_6 (by first | exact nl2_some rfl | exact nl2_none) (by decide) ?_
  refine Rp.iload_n dX10_isInRing_7 rfl ?_
  refine Rp.iload_n dX10_isInRing_8 rfl ?_
  refine Rp.mmin dX10_isInRing_9 mm_X10_81 (Nat.le_of_ble_eq_true rfl) ?_
  refine Rp.ist3 dX10_isInRing_12 (by first | exact nl2_some rfl | exact nl2_none) (by decide) ?_
  refine Rp.iconst (nI 0) dX10_isInRing_13 (by decide) ?_
  refine Rp.ist4 dX10_isInRing_14 (by first | exact nl2_some rfl | exact nl2_none) (by decide) ?_
  exact k16
/-- how many rings are counted among the first n -/
def rgN (f : Nat → Nat) (lf : Nat → Bool) : Nat → Nat
  | 0 => 0
  | n + 1 => rgN f lf n + if lf n = true ∧ onR f n = true ∧ loR f n = n then 1 else 0
theorem rgN_le (f : Nat → Nat) (lf : Nat → Bool) : ∀ n, rgN f lf n ≤ n
  | 0 => Nat.le_refl _
  | n + 1 => by have := rgN_le f lf n; rw [rgN]; split <;> omega
end Cr
