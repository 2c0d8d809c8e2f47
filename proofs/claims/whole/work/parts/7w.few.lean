/-- the chances, as both count them -/
def fw (c : Int32) : Nat → Nat → Int64
  | 0, j => if j = 0 then 1000000000000 else 0
  | n + 1, 0 => fw c n 0 * (nI 10 - c).toInt64 / 10
  | n + 1, j + 1 => fw c n (j + 1) * (nI 10 - c).toInt64 / 10 + fw c n j * c.toInt64 / 10
def fwS (c : Int32) (n : Nat) : Nat → Int64
  | 0 => 0
  | k + 1 => fwS c n k + fw c n k
theorem gL_hit (h : AH) (k j : Nat) (x : Int64) : gL (sL h k j x) k j = x := by show (if k = k then (if j = j then x else _) else _) = x; rw [if_pos rfl, if_pos rfl]
theorem gL_off (h : AH) (k : Nat) {j b : Nat} (x : Int64) (hb : b ≠ j) : gL (sL h k j x) k b = gL h k b := by show (if k = k then (if b = j then x else gL h k b) else gL h k b) = _; rw [if_pos rfl, if_neg hb]
def fwX (a k _j : Nat) : Bool := k == a
theorem fwX_ok {a : Nat} (ha : a = 67 ∨ a = 126) : xok (fwX a) = true := by rcases ha with rfl | rfl <;> decide
section Fw
variable (d : Nat) {h : AH}
theorem fillL5 (S0 : ShOK h) : ∀ (m i : Nat) (g : AH), i + m = 20 → Fr (fwX 67) h g → (∀ j, j < i → gL g 67 j = 0) → Rp d M_J7_fill_d0a16 6 [some (.ref 67), some (.long 0), none, some (.int (nI i)), some (.int (nI 20))] [] g (fun r h' => r = none ∧ Fr (fwX 67) h h' ∧ ∀ j, j < 20 → gL h' 67 j = 0) := by
  intro m
  induction m with
  | zero =>
    intro i g hi F h0
    have e : i = 20 := by omega
    subst e
    refine Rp.iload_n dJ7_fill_d0a16_6 rfl ?_
    refine Rp.iload dJ7_fill_d0a16_7 rfl ?_
    first | ((with_reducible show Rp _ _ _ _ (.int (nI _) :: .int (nI _) :: _) _ _); refine Rp.icmp_geN (tgt := 22) dJ7_fill_d0a16_9 (by decide) (by omega) (fun c9 => ?_) (fun c9 => ?_)) | refine Rp.icmp_ge (tgt := 22) dJ7_fill_d0a16_9 (by decide) (fun c9 => ?_) (fun c9 => ?_)
    · skip
      refine Rp.vreturn dJ7_fill_d0a16_22 rfl ?_
      exact ⟨rfl, F, h0⟩
    · skip
      first | (exfalso; omega) | exact absurd c9 (by decide) | exact absurd (by decide) c9
  | succ m ih =>
    intro i g hi F h0
    have S := F.S S0
    have k1 := ih (i + 1) (sL g 67 i 0) (by omega) (F.sL rfl) (fun j hj => by
      by_cases z : j = i
      · rw [z, gL_hit]
      · rw [gL_off _ _ _ z]; exact h0 j (by omega))
    refine Rp.iload_n dJ7_fill_d0a16_6 rfl ?_
    refine Rp.iload dJ7_fill_d0a16_7 rfl ?_
    first | ((with_reducible show Rp _ _ _ _ (.int (nI _) :: .int (nI _) :: _) _ _); refine Rp.icmp_geN (tgt := 22) dJ7_fill_d0a16_9 (by decide) (by omega) (fun c9 => ?_) (fun c9 => ?_)) | refine Rp.icmp_ge (tgt := 22) dJ7_fill_d0a16_9 (by decide) (fun c9 => ?_) (fun c9 => ?_)
    · skip
      first | (exfalso; omega) | exact absurd c9 (by decide) | exact absurd (by decide) c9
    · skip
      refine Rp.aload_n dJ7_fill_d0a16_12 rfl rfl ?_
      refine Rp.iload_n dJ7_fill_d0a16_13 rfl ?_
      refine Rp.lload_n dJ7_fill_d0a16_14 rfl ?_
      first | ((with_reducible show Rp _ _ _ _ (_ :: .int (nI _) :: _) _ _); refine Rp.lastoreN dJ7_fill_d0a16_15 (S _ _ rfl) (by omega) ?_) | refine Rp.lastore dJ7_fill_d0a16_15 (S _ _ rfl) (by first | assumption | exact vpb (by decide)) ?_
      first | ((with_reducible show Rp _ _ _ (_ :: _ :: _ :: some (.int (nI _)) :: _) _ _ _); refine Rp.inc3N (c := 1) dJ7_fill_d0a16_16 (by first | exact nl2_some rfl | exact nl2_none) (by decide) ?_) | refine Rp.inc3 _ dJ7_fill_d0a16_16 rfl (by first | exact nl2_some rfl | exact nl2_none) (by decide) ?_
      refine Rp.goto (tgt := 6) dJ7_fill_d0a16_19 (by decide) ?_
      exact k1
theorem t_fillL (S : ShOK h) : Rp d M_J7_fill_d0a16 0 [some (.ref 67), some (.long 0), none, none, none] [] h (fun r h' => r = none ∧ Fr (fwX 67) h h' ∧ ∀ j, j < 20 → gL h' 67 j = 0) := by
  have k1 := fillL5 d S 20 0 h (by decide) Fr.rfl' (fun j hj => absurd hj (Nat.not_lt_zero _))
  refine Rp.iconst (nI 0) dJ7_fill_d0a16_0 (by decide) ?_
  refine Rp.ist3 dJ7_fill_d0a16_1 (by first | exact nl2_some rfl | exact nl2_none) (by decide) ?_
  refine Rp.aload_n dJ7_fill_d0a16_2 rfl rfl ?_
  refine Rp.alen dJ7_fill_d0a16_3 (S _ _ rfl) (by decide) (by decide) ?_
  rw [show Int32.ofNat 20 = nI 20 from rfl]
  refine Rp.ist4 dJ7_fill_d0a16_4 (by first | exact nl2_some rfl | exact nl2_none) (by decide) ?_
  exact k1
/-- one person more, in the class -/
theorem few69 {P : Option Value → AH → Prop} (S0 : ShOK h) (R0 : RfOK h) {k n : Nat} (hk : 1 ≤ k ∧ k ≤ 20) (nn c : Int32) (x4 : Int32) (a6 : Option Value) (kk : ∀ g, Fr (fwX 67) h g → (∀ j, 1 ≤ j → j < k → gL g 67 j = fw c (n + 1) j) → gL g 67 0 = fw c n 0 → Rp d M_X11_few 121 [some (.ref 0), some (.int (nI k)), some (.int nn), some (.int c), some (.int x4), some (.int (nI 0)), a6] [] g P) : ∀ (m : Nat) (g : AH), m < k → Fr (fwX 67) h g → (∀ j, m < j → j < k → gL g 67 j = fw c (n + 1) j) → (∀ j, j ≤ m → gL g 67 j = fw c n j) → Rp d M_X11_few 69 [some (.ref 0), some (.int (nI k)), some (.int nn), some (.int c), some (.int x4), some (.int (nI m)), a6] [] g P := by
  intro m
  induction m with
  | zero =>
    intro g hm F h1 h2
    have k1 := kk g F (fun j a b => h1 j (by omega) b) (h2 0 (Nat.le_refl _))
    refine Rp.iload dX11_few_69 rfl ?_
    refine Rp.if_le (tgt := 121) dX11_few_71 (by decide) (fun c71 => ?_) (fun c71 => ?_)
    · skip
      exact k1
    · skip
      exact absurd (by decide) c71
  | succ m ih =>
    intro g hm F h1 h2
    have S := F.S S0
    have R := F.R R0 (fwX_ok (Or.inl rfl))
    have n0 : ¬ nI (m + 1) ≤ 0 := by rw [i32_le, nI_toInt (by omega)]; show ¬ ((m + 1 : Nat) : Int) ≤ 0; omega
    have e1 := h2 (m + 1) (Nat.le_refl _)
    have e2 : gL g 67 (m + 1 - 1) = fw c n m := by rw [Nat.add_sub_cancel]; exact h2 m (by omega)
    have em : nI (m + 1) + Int32.ofInt (-1) = nI m := pk_m1 m
    have k1 := ih (sL g 67 (m + 1) (fw c n (m + 1) * (nI 10 - c).toInt64 / 10 + fw c n m * c.toInt64 / 10)) (by omega) (F.sL rfl) (fun j a b => by
      by_cases z : j = m + 1
      · rw [z, gL_hit]; rfl
      · rw [gL_off _ _ _ z]; exact h1 j (by omega) b) (fun j a => by rw [gL_off _ _ _ (by omega)]; exact h2 j (by omega))
    refine Rp.iload dX11_few_69 rfl ?_
    refine Rp.if_le (tgt := 121) dX11_few_71 (by decide) (fun c71 => ?_) (fun c71 => ?_)
    · skip
      exact absurd c71 n0
    · skip
      refine Rp.aload_n dX11_few_74 rfl rfl ?_
      refine Rp.getR dX11_few_75 fk_X11_91 rfl (S _ _ rfl) (R _ _ _ rfl) ?_
      refine Rp.iload dX11_few_78 rfl ?_
      refine Rp.aload_n dX11_few_80 rfl rfl ?_
      refine Rp.getR dX11_few_81 fk_X11_91 rfl (S _ _ rfl) (R _ _ _ rfl) ?_
      refine Rp.iload dX11_few_84 rfl ?_
      first | ((with_reducible show Rp _ _ _ _ (.int (nI _) :: _) _ _); refine Rp.laloadN dX11_few_86 (S _ _ rfl) (by omega) ?_) | refine Rp.laload dX11_few_86 (S _ _ rfl) (by first | assumption | exact vpb (by decide)) ?_
      first | rw [e1] | rw [e2] | skip
      refine Rp.bipush (nI 10) dX11_few_87 (by decide) ?_
      refine Rp.iload_n dX11_few_89 rfl ?_
      first | ((with_reducible show Rp _ _ _ _ (.int (nI _) :: .int (nI _) :: _) _ _); refine Rp.isubN dX11_few_90 (by omega) ?_) | refine Rp.isub dX11_few_90 ?_
      refine Rp.i2l dX11_few_91 ?_
      refine Rp.lmul dX11_few_92 ?_
      refine Rp.ldc2 dX11_few_93 kc_X11_353 ?_
      refine Rp.ldiv dX11_few_96 (by decide) ?_
      refine Rp.aload_n dX11_few_97 rfl rfl ?_
      refine Rp.getR dX11_few_98 fk_X11_91 rfl (S _ _ rfl) (R _ _ _ rfl) ?_
      refine Rp.iload dX11_few_101 rfl ?_
      refine Rp.iconst (nI 1) dX11_few_103 (by decide) ?_
      first | ((with_reducible show Rp _ _ _ _ (.int (nI _) :: .int (nI _) :: _) _ _); refine Rp.isubN dX11_few_104 (by omega) ?_) | refine Rp.isub dX11_few_104 ?_
      first | ((with_reducible show Rp _ _ _ _ (.int (nI _) :: _) _ _); refine Rp.laloadN dX11_few_105 (S _ _ rfl) (by omega) ?_) | refine Rp.laload dX11_few_105 (S _ _ rfl) (by first | assumption | exact vpb (by decide)) ?_
      first | rw [e1] | rw [e2] | skip
      refine Rp.iload_n dX11_few_106 rfl ?_
      refine Rp.i2l dX11_few_107 ?_
      refine Rp.lmul dX11_few_108 ?_
      refine Rp.ldc2 dX11_few_109 kc_X11_353 ?_
      refine Rp.ldiv dX11_few_112 (by decide) ?_
      refine Rp.ladd dX11_few_113 ?_
      first | ((with_reducible show Rp _ _ _ _ (_ :: .int (nI _) :: _) _ _); refine Rp.lastoreN dX11_few_114 (S _ _ rfl) (by omega) ?_) | refine Rp.lastore dX11_few_114 (S _ _ rfl) (by first | assumption | exact vpb (by decide)) ?_
      refine Rp.inc5 (nI m) dX11_few_115 em (by first | exact nl2_some rfl | exact nl2_none) (by decide) ?_
      refine Rp.goto (tgt := 69) dX11_few_118 (by decide) ?_
      exact k1
end Fw
