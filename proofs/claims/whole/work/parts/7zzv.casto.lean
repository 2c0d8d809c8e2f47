/-- a way in a number -/
def wv (x : Int32) : Nat := x.toInt.toNat
def rowN (W : Nat → Int32) : Nat → Nat
  | 0 => 0
  | n + 1 => rowN W n + wv (W n) * 2 ^ (3 * n)
theorem rowN_lt {W : Nat → Int32} : ∀ n, (∀ p, p < n → wv (W p) < 8) → rowN W n < 2 ^ (3 * n)
  | 0, _ => by show 0 < 2 ^ 0; decide
  | n + 1, h => by
    have ih := rowN_lt n (fun p hp => h p (by omega))
    have hn := h n (by omega)
    rw [rowN, show 3 * (n + 1) = 3 * n + 3 by omega, Nat.pow_add]
    have : wv (W n) * 2 ^ (3 * n) ≤ 7 * 2 ^ (3 * n) := Nat.mul_le_mul_right _ (by omega)
    omega
theorem rowN_dig {W : Nat → Int32} : ∀ n p, p < n → (∀ q, q < n → wv (W q) < 8) → rowN W n / 2 ^ (3 * p) % 8 = wv (W p)
  | 0, p, hp, _ => absurd hp (Nat.not_lt_zero _)
  | n + 1, p, hp, h => by
    have lt := rowN_lt (W := W) n (fun q hq => h q (by omega))
    rw [rowN]
    by_cases e : p = n
    · subst e
      rw [Nat.add_mul_div_right _ _ (Nat.two_pow_pos _), Nat.div_eq_of_lt lt, Nat.zero_add, Nat.mod_eq_of_lt (h p (by omega))]
    · have ih := rowN_dig (W := W) n p (by omega) (fun q hq => h q (by omega))
      have e3 : 2 ^ (3 * n) = 2 ^ (3 * (n - p - 1)) * 8 * 2 ^ (3 * p) := by
        rw [show (8 : Nat) = 2 ^ 3 from rfl, ← Nat.pow_add, ← Nat.pow_add]
        congr 1; omega
      rw [e3, ← Nat.mul_assoc, Nat.add_mul_div_right _ _ (Nat.two_pow_pos _), ← Nat.mul_assoc, Nat.add_mul_mod_self_right]
      exact ih
theorem sh3 : ∀ p, p < 6 → ((nI (3 * p) &&& 31 : Int32).toBitVec.smod 32).toNat = 3 * p := by decide
theorem wv_of {W : Nat → Int32} {np nt : Nat} (V : VH W np nt) {p : Nat} (hp : p < 6) : wv (W p) < 8 ∧ (if W p < nI 0 then nI 0 else W p) = nI (wv (W p)) ∧ (W p ≠ -1 → nI (wv (W p)) = W p) := by
  have v2 := V.2.1
  rcases V.2.2.1 p hp with e | ⟨-, t, ht, e⟩
  · rw [e]; exact ⟨by decide, by decide, fun z => absurd rfl z⟩
  · have : wv (nI t) = t := by unfold wv; rw [nI_toInt (by omega)]; rfl
    rw [e, this]
    refine ⟨by omega, if_neg ?_, fun _ => rfl⟩
    rw [i32_lt, nI_toInt (by omega), nI_toInt (by omega)]; omega
theorem row_or {a b p : Nat} (hp : p < 6) (ha : a < 2 ^ (3 * p)) (hb : b < 8) : nI a ||| (nI b <<< (nI (3 * p) &&& 31)) = nI (a + b * 2 ^ (3 * p)) := by
  have hp5 : 2 ^ (3 * p) ≤ 2 ^ 15 := Nat.pow_le_pow_right (by decide) (by omega)
  have : b * 2 ^ (3 * p) ≤ 7 * 2 ^ 15 := Nat.mul_le_mul (by omega) hp5
  rw [pk_shlN (nI (3 * p) &&& 31) (3 * p) (sh3 p hp) (by omega), nI_or, Nat.or_comm, Nat.mul_comm b (2 ^ (3 * p)), ← Nat.two_pow_add_eq_or_of_lt ha b, Nat.add_comm]
theorem row_dig {W : Nat → Int32} {np nt : Nat} (V : VH W np nt) {p : Nat} (hp : p < np) : (nI (rowN W np) >>> (nI (3 * p) &&& 31)) &&& nI 7 = nI (wv (W p)) := by
  have v1 := V.1
  have lt := rowN_lt (W := W) np (fun q hq => (wv_of V (by omega)).1)
  have : 2 ^ (3 * np) ≤ 2 ^ 18 := Nat.pow_le_pow_right (by decide) (by omega)
  have dv : rowN W np / 2 ^ (3 * p) ≤ rowN W np := Nat.div_le_self _ _
  rw [pk_shrN (by omega) _ (3 * p) (sh3 p (by omega)), pk_andN (by omega) 3 (by decide)]
  congr 1
  exact rowN_dig np p hp (fun q hq => (wv_of V (by omega)).1)
/-- what was told, in the class -/
def TD (g : AH) (K : Nat → Int32) (no : Nat) : Prop := gI g 1 12 = nI no ∧ (∀ i, i < 6 → gI g 11 i = K (89 + 2 * i)) ∧ ∀ i, i < 6 → gI g 12 i = K (90 + 2 * i)
/-- whom was told of -/
def VT (K : Nat → Int32) (no : Nat) : Prop := no ≤ 6 ∧ ∀ i, i < no → ∃ q, q < 6 ∧ K (89 + 2 * i) = nI q
/-- the ways found so far, in the class -/
def RSw (K : Nat → Int32) (np no : Nat) (g : AH) (L : List (Nat → Int32)) : Prop := TD g K no ∧ gI g 52 12 = nI L.length ∧ L.length ≤ 720 ∧ ∀ i W, L[i]? = some W → gI g 56 i = nI (rowN W np)
theorem RSw.fr {X : Nat → Nat → Bool} {K : Nat → Int32} {np no : Nat} {g g' : AH} {L : List (Nat → Int32)} (H : RSw K np no g L) (F : Fr X g g') (h1 : X 1 12 = false) (h11 : ∀ j, X 11 j = false) (h12 : ∀ j, X 12 j = false) (h52 : X 52 12 = false) (h56 : ∀ j, X 56 j = false) : RSw K np no g' L := ⟨⟨(F.I _ _ h1).trans H.1.1, fun i hi => (F.I _ _ (h11 _)).trans (H.1.2.1 i hi), fun i hi => (F.I _ _ (h12 _)).trans (H.1.2.2 i hi)⟩, (F.I _ _ h52).trans H.2.1, H.2.2.1, fun i W hi => (F.I _ _ (h56 _)).trans (H.2.2.2 i W hi)⟩
def wfX (k j : Nat) : Bool := (k == 52 && j == 12) || (k == 56 && decide (j < 720))
theorem wfX_n {k j : Nat} (h : k ≠ 52 ∧ k ≠ 56) : wfX k j = false := by
  unfold wfX
  rw [beq_eq_false_iff_ne.mpr h.1, beq_eq_false_iff_ne.mpr h.2]; rfl
/-- what finding ways touches -/
def wzX (k j : Nat) : Bool := plX k j || (dX k j || wfX k j)
theorem wzX_p {k j : Nat} (h : wzX k j = false) : plX k j = false := by unfold wzX at h; rw [Bool.or_eq_false_iff] at h; exact h.1
theorem wzX_q {h g : AH} (F : Fr pX h g) : Fr wzX h g := F.weak (fun k j hx => by
  unfold wzX plX at hx
  rw [Bool.or_eq_false_iff, Bool.or_eq_false_iff, Bool.or_eq_false_iff, Bool.or_eq_false_iff] at hx
  unfold pX
  rw [hx.1.1, hx.2.1]; rfl)
theorem wzX_w {h g : AH} (F : Fr wfX h g) : Fr wzX h g := F.weak (fun k j hx => by
  unfold wzX at hx
  rw [Bool.or_eq_false_iff, Bool.or_eq_false_iff] at hx
  exact hx.2.2)
theorem PB.way {h g : AH} {K : Nat → Int32} {fl : Option (List CLE)} {np nt nd : Nat} {W : Nat → Int32} (P : PB h K fl np nt nd W) (F : Fr wfX h g) : PB g K fl np nt nd W := P.fr F (P.2.2.1.fg F (fun j => rfl) (fun j => rfl) (fun j => rfl) (fun k j hk => wfX_n (by omega)) (fun k j o => wfX_n ⟨okT_ne o (by decide) (by decide) (by decide) (by decide), okT_ne o (by decide) (by decide) (by decide) (by decide)⟩)) (by decide) (fun k j hk => wfX_n (by omega)) (fun j => rfl) P.2.2.2.2.2.2.1 (fun q hq => (F.I 53 q rfl).trans (P.2.2.2.2.2.2.2.1 q hq)) (fun t ht => (F.I 54 t rfl).trans (P.2.2.2.2.2.2.2.2 t ht))
theorem tdB_no {K : Nat → Int32} {s : DS} {i : Nat} (h : tdB K s i = false) : ∀ m, tdB K s (i + m) = false
  | 0 => h
  | m + 1 => by rw [← Nat.add_assoc, tdB, tdB_no h m]; rfl
section As2
variable (d : Nat) {K : Nat → Int32} {fl : Option (List CLE)} {np nt nd no : Nat} {W : Nat → Int32} {at9 : Bool}
theorem asTold76 {Q : Option Value → AH → Prop} {g : AH} (P : PB g K fl np nt nd W) (kk : Rp (d + 4) M_X6_keepIfAsTold 107 [some (.ref 52), some (.ref 1), some (.int (nI (rowN W np))), some (.int (nI np))] [] g Q) : ∀ (m p : Nat), p + m = np → Rp (d + 4) M_X6_keepIfAsTold 76 [some (.ref 52), some (.ref 1), some (.int (nI (rowN W p))), some (.int (nI p))] [] g Q := by
  obtain ⟨S, R, J, M, D, L, V, e53, e54⟩ := id P
  have v1 := V.1
  have m3 : gI g 1 0 = nI np := M.2.2.1
  intro m
  induction m with
  | zero =>
    intro p hm
    have e : p = np := by omega
    subst e
    refine Rp.iload_n dX6_keepIfAsTold_76 rfl ?_
    refine Rp.aload_n dX6_keepIfAsTold_77 rfl rfl ?_
    refine Rp.getI dX6_keepIfAsTold_78 fk_X6_90 rfl (S _ _ rfl) ?_
    first | rw [m3] | skip
    first | ((with_reducible show Rp _ _ _ _ (.int (nI _) :: .int (nI _) :: _) _ _); refine Rp.icmp_geN (tgt := 107) dX6_keepIfAsTold_81 (by decide) (by omega) (fun c81 => ?_) (fun c81 => ?_)) | refine Rp.icmp_ge (tgt := 107) dX6_keepIfAsTold_81 (by decide) (fun c81 => ?_) (fun c81 => ?_)
    · skip
      exact kk
    · skip
      first | (exfalso; omega) | exact absurd c81 (by decide) | exact absurd (by decide) c81
  | succ m ih =>
    intro p hm
    have k1 := ih (p + 1) (by omega)
    have ew : gI g 53 p = W p := e53 p (by omega)
    obtain ⟨w1, w2, -⟩ := wv_of V (show p < 6 by omega)
    have lt := rowN_lt (W := W) p (fun q hq => (wv_of V (by omega)).1)
    rw [rowN, ← row_or (by omega) lt w1] at k1
    refine Rp.iload_n dX6_keepIfAsTold_76 rfl ?_
    refine Rp.aload_n dX6_keepIfAsTold_77 rfl rfl ?_
    refine Rp.getI dX6_keepIfAsTold_78 fk_X6_90 rfl (S _ _ rfl) ?_
    first | rw [m3] | rw [ew] | skip
    first | ((with_reducible show Rp _ _ _ _ (.int (nI _) :: .int (nI _) :: _) _ _); refine Rp.icmp_geN (tgt := 107) dX6_keepIfAsTold_81 (by decide) (by omega) (fun c81 => ?_) (fun c81 => ?_)) | refine Rp.icmp_ge (tgt := 107) dX6_keepIfAsTold_81 (by decide) (fun c81 => ?_) (fun c81 => ?_)
    · skip
      first | (exfalso; omega) | exact absurd c81 (by decide) | exact absurd (by decide) c81
    · skip
      refine Rp.iload_n dX6_keepIfAsTold_84 rfl ?_
      refine Rp.aload_n dX6_keepIfAsTold_85 rfl rfl ?_
      refine Rp.getR dX6_keepIfAsTold_86 fk_X6_9 rfl (S _ _ rfl) (R _ _ _ rfl) ?_
      refine Rp.iload_n dX6_keepIfAsTold_89 rfl ?_
      first | ((with_reducible show Rp _ _ _ _ (.int (nI _) :: _) _ _); refine Rp.ialoadN dX6_keepIfAsTold_90 (S _ _ rfl) (by omega) ?_) | refine Rp.iaload dX6_keepIfAsTold_90 (S _ _ rfl) (by first | assumption | exact vpb (by decide)) ?_
      first | rw [m3] | rw [ew] | skip
      refine Rp.iconst (nI 0) dX6_keepIfAsTold_91 (by decide) ?_
      refine Rp.mmax dX6_keepIfAsTold_92 mm_X6_144 (Nat.le_of_ble_eq_true rfl) ?_
      rw [w2]
      refine Rp.iconst (nI 3) dX6_keepIfAsTold_95 (by decide) ?_
      refine Rp.iload_n dX6_keepIfAsTold_96 rfl ?_
      first | ((with_reducible show Rp _ _ _ _ (.int (nI _) :: .int (nI _) :: _) _ _); refine Rp.imulN dX6_keepIfAsTold_97 ?_) | refine Rp.imul dX6_keepIfAsTold_97 ?_
      refine Rp.ishl dX6_keepIfAsTold_98 ?_
      refine Rp.ior dX6_keepIfAsTold_99 ?_
      refine Rp.ist2 dX6_keepIfAsTold_100 (by first | exact nl2_some rfl | exact nl2_none) (by decide) ?_
      first | ((with_reducible show Rp _ _ _ (_ :: _ :: _ :: some (.int (nI _)) :: _) _ _ _); refine Rp.inc3N (c := 1) dX6_keepIfAsTold_101 (by first | exact nl2_some rfl | exact nl2_none) (by decide) ?_) | refine Rp.inc3 _ dX6_keepIfAsTold_101 rfl (by first | exact nl2_some rfl | exact nl2_none) (by decide) ?_
      refine Rp.goto (tgt := 76) dX6_keepIfAsTold_104 (by decide) ?_
      exact k1
theorem t_asTold {h : AH} {L : List (Nat → Int32)} (P : PB h K fl np nt nd W) (B : KB K) (VDd : VD K nd) (VNn : VN K nt) (VTt : VT K no) (h9 : gI h 52 9 = b2i at9) (hS : RSw K np no h L) : Rp (d + 4) M_X6_keepIfAsTold 0 [some (.ref 52), none, none, none] [] h (LfQ K fl np nt nd (RSw K np no) wzX at9 h W (hdC K fl nd np nt no W L)) := by
  have V := P.2.2.2.2.2.2.1
  have v1 := V.1
  have v2 := V.2.1
  -- as told
  have k72 : ∀ g, PB g K fl np nt nd W → Fr pX h g → tdW K fl nd np nt no W = true → Rp (d + 4) M_X6_keepIfAsTold 72 [some (.ref 52), some (.ref 1), some (.int (nI no)), none] [] g (LfQ K fl np nt nd (RSw K np no) wzX at9 h W (hdC K fl nd np nt no W L)) := by
    intro g Pg F ht
    have hSg := hS.fr F rfl (fun j => rfl) (fun j => rfl) rfl (fun j => rfl)
    have h9g : gI g 52 9 = b2i at9 := (F.I 52 9 rfl).trans h9
    obtain ⟨S, R, J, M, D, Ln, -, e53, e54⟩ := id Pg
    have e12 : gI g 52 12 = nI L.length := hSg.2.1
    have l7 := hS.2.2.1
    have k107 : Rp (d + 4) M_X6_keepIfAsTold 107 [some (.ref 52), some (.ref 1), some (.int (nI (rowN W np))), some (.int (nI np))] [] g (LfQ K fl np nt nd (RSw K np no) wzX at9 h W (hdC K fl nd np nt no W L)) := by
      unfold hdC
      rw [if_pos ht]
      by_cases c : L.length < 720
      · rw [if_pos c]
        have F1 : Fr wfX g (sI (sI g 56 L.length (nI (rowN W np))) 52 12 (nI (L.length + 1))) := (Fr.rfl'.sI (by unfold wfX; rw [decide_eq_true c]; rfl)).sI rfl
        have P1 := Pg.way F1
        have r1 : RSw K np no (sI (sI g 56 L.length (nI (rowN W np))) 52 12 (nI (L.length + 1))) (L ++ [W]) := by
          refine ⟨⟨(F1.I _ _ rfl).trans hSg.1.1, fun i hi => (F1.I _ _ rfl).trans (hSg.1.2.1 i hi), fun i hi => (F1.I _ _ rfl).trans (hSg.1.2.2 i hi)⟩, by rw [List.length_append]; exact gI_hit _ _ _ _, by rw [List.length_append]; show L.length + 1 ≤ 720; omega, fun i W' hi => ?_⟩
          rw [gI_ne _ _ _ _ (by decide), gI_at]
          by_cases z : i = L.length
          · rw [if_pos z]
            rw [z, List.getElem?_append_right (Nat.le_refl _), Nat.sub_self] at hi
            cases hi; rfl
          · rw [if_neg z]
            have := (List.getElem?_eq_some_iff.mp hi).1
            rw [List.length_append] at this
            have : i < L.length + 1 := this
            rw [List.getElem?_append_left (by omega)] at hi
            exact hSg.2.2.2 i W' hi
        have e12b : gI (sI g 56 L.length (nI (rowN W np))) 52 12 = nI L.length := e12
        refine Rp.aload_n dX6_keepIfAsTold_107 rfl rfl ?_
        refine Rp.getI dX6_keepIfAsTold_108 fk_X6_60 rfl (S _ _ rfl) ?_
        first | rw [e12] | rw [e12b] | skip
        refine Rp.sipush (nI 720) dX6_keepIfAsTold_111 (by decide +kernel) ?_
        first | ((with_reducible show Rp _ _ _ _ (.int (nI _) :: .int (nI _) :: _) _ _); refine Rp.icmp_geN (tgt := 137) dX6_keepIfAsTold_114 (by decide) (by omega) (fun c114 => ?_) (fun c114 => ?_)) | refine Rp.icmp_ge (tgt := 137) dX6_keepIfAsTold_114 (by decide) (fun c114 => ?_) (fun c114 => ?_)
        · skip
          first | (exfalso; omega) | exact absurd c114 (by decide) | exact absurd (by decide) c114
        · skip
          refine Rp.aload_n dX6_keepIfAsTold_117 rfl rfl ?_
          refine Rp.getR dX6_keepIfAsTold_118 fk_X6_21 rfl (S _ _ rfl) (R _ _ _ rfl) ?_
          refine Rp.aload_n dX6_keepIfAsTold_121 rfl rfl ?_
          refine Rp.getI dX6_keepIfAsTold_122 fk_X6_60 rfl (S _ _ rfl) ?_
          first | rw [e12] | rw [e12b] | skip
          refine Rp.iload_n dX6_keepIfAsTold_125 rfl ?_
          first | ((with_reducible show Rp _ _ _ _ (_ :: .int (nI _) :: _) _ _); refine Rp.iastoreN dX6_keepIfAsTold_126 (S _ _ rfl) (by omega) ?_) | refine Rp.iastore dX6_keepIfAsTold_126 (S _ _ rfl) (by first | assumption | exact vpb (by decide)) ?_
          refine Rp.aload_n dX6_keepIfAsTold_127 rfl rfl ?_
          refine Rp.dup dX6_keepIfAsTold_128 rfl ?_
          refine Rp.getI dX6_keepIfAsTold_129 fk_X6_60 rfl (S _ _ rfl) ?_
          first | rw [e12] | rw [e12b] | skip
          refine Rp.iconst (nI 1) dX6_keepIfAsTold_132 (by decide) ?_
          first | ((with_reducible show Rp _ _ _ _ (.int (nI _) :: .int (nI _) :: _) _ _); refine Rp.iaddN dX6_keepIfAsTold_133 ?_) | refine Rp.iadd dX6_keepIfAsTold_133 ?_
          refine Rp.putI dX6_keepIfAsTold_134 fk_X6_60w rfl (S _ _ rfl) ?_
          refine Rp.vreturn dX6_keepIfAsTold_137 rfl ?_
          exact ⟨rfl, P1, (F1.I 52 9 rfl).trans h9g, r1, (wzX_q F).trans (wzX_w F1)⟩
      · rw [if_neg c]
        refine Rp.aload_n dX6_keepIfAsTold_107 rfl rfl ?_
        refine Rp.getI dX6_keepIfAsTold_108 fk_X6_60 rfl (S _ _ rfl) ?_
        first | rw [e12] | skip
        refine Rp.sipush (nI 720) dX6_keepIfAsTold_111 (by decide +kernel) ?_
        first | ((with_reducible show Rp _ _ _ _ (.int (nI _) :: .int (nI _) :: _) _ _); refine Rp.icmp_geN (tgt := 137) dX6_keepIfAsTold_114 (by decide) (by omega) (fun c114 => ?_) (fun c114 => ?_)) | refine Rp.icmp_ge (tgt := 137) dX6_keepIfAsTold_114 (by decide) (fun c114 => ?_) (fun c114 => ?_)
        · skip
          refine Rp.vreturn dX6_keepIfAsTold_137 rfl ?_
          exact ⟨rfl, Pg, h9g, hSg, wzX_q F⟩
        · skip
          first | (exfalso; omega) | exact absurd c114 (by decide) | exact absurd (by decide) c114
    have k76 := asTold76 d Pg k107 np 0 (by omega)
    refine Rp.iconst (nI 0) dX6_keepIfAsTold_72 (by decide) ?_
    refine Rp.ist2 dX6_keepIfAsTold_73 (by first | exact nl2_some rfl | exact nl2_none) (by decide) ?_
    refine Rp.iconst (nI 0) dX6_keepIfAsTold_74 (by decide) ?_
    refine Rp.ist3 dX6_keepIfAsTold_75 (by first | exact nl2_some rfl | exact nl2_none) (by decide) ?_
    exact k76
  -- what was told, one by one
  have k34 : ∀ g, PB g K fl np nt nd W → Fr pX h g → (0 < no → DY g (dayF K fl nd np nt (fun _ => true) W 100)) → ∀ (m i : Nat), i + m = no → tdB K (dayF K fl nd np nt (fun _ => true) W 100) i = true → Rp (d + 4) M_X6_keepIfAsTold 34 [some (.ref 52), some (.ref 1), some (.int (nI i)), none] [] g (LfQ K fl np nt nd (RSw K np no) wzX at9 h W (hdC K fl nd np nt no W L)) := by
    intro g Pg F hY
    have hSg := hS.fr F rfl (fun j => rfl) (fun j => rfl) rfl (fun j => rfl)
    have h9g : gI g 52 9 = b2i at9 := (F.I 52 9 rfl).trans h9
    obtain ⟨S, R, J, M, D, Ln, -, e53, e54⟩ := id Pg
    have eno : gI g 1 12 = nI no := hSg.1.1
    intro m
    induction m with
    | zero =>
      intro i hm ht
      have e : i = no := by omega
      subst e
      have n6 := VTt.1
      have k1 := k72 g Pg F ht
      refine Rp.iload_n dX6_keepIfAsTold_34 rfl ?_
      refine Rp.aload_n dX6_keepIfAsTold_35 rfl rfl ?_
      refine Rp.getI dX6_keepIfAsTold_36 fk_X6_132 rfl (S _ _ rfl) ?_
      first | rw [eno] | skip
      first | ((with_reducible show Rp _ _ _ _ (.int (nI _) :: .int (nI _) :: _) _ _); refine Rp.icmp_geN (tgt := 72) dX6_keepIfAsTold_39 (by decide) (by omega) (fun c39 => ?_) (fun c39 => ?_)) | refine Rp.icmp_ge (tgt := 72) dX6_keepIfAsTold_39 (by decide) (fun c39 => ?_) (fun c39 => ?_)
      · skip
        exact k1
      · skip
        first | (exfalso; omega) | exact absurd c39 (by decide) | exact absurd (by decide) c39
    | succ m ih =>
      intro i hm ht
      obtain ⟨q, hq, eq⟩ := VTt.2 i (by omega)
      have i6 := VTt.1
      have ea : gI g 11 i = nI q := (hSg.1.2.1 i (by omega)).trans eq
      have eb : gI g 12 i = K (90 + 2 * i) := hSg.1.2.2 i (by omega)
      have ed : gI g 50 q = (dayF K fl nd np nt (fun _ => true) W 100).2.2.1 q := (hY (by omega)).2.2.1 q hq
      have ts : tdB K (dayF K fl nd np nt (fun _ => true) W 100) (i + 1) = decide ((dayF K fl nd np nt (fun _ => true) W 100).2.2.1 q = K (90 + 2 * i)) := by rw [tdB, ht, Bool.true_and, eq, ix_nI (by omega)]
      by_cases c : (dayF K fl nd np nt (fun _ => true) W 100).2.2.1 q = K (90 + 2 * i)
      · have k1 := ih (i + 1) (by omega) (by rw [ts]; exact decide_eq_true c)
        refine Rp.iload_n dX6_keepIfAsTold_34 rfl ?_
        refine Rp.aload_n dX6_keepIfAsTold_35 rfl rfl ?_
        refine Rp.getI dX6_keepIfAsTold_36 fk_X6_132 rfl (S _ _ rfl) ?_
        first | rw [eno] | rw [ea] | rw [eb] | rw [ed] | skip
        first | ((with_reducible show Rp _ _ _ _ (.int (nI _) :: .int (nI _) :: _) _ _); refine Rp.icmp_geN (tgt := 72) dX6_keepIfAsTold_39 (by decide) (by omega) (fun c39 => ?_) (fun c39 => ?_)) | refine Rp.icmp_ge (tgt := 72) dX6_keepIfAsTold_39 (by decide) (fun c39 => ?_) (fun c39 => ?_)
        · skip
          first | (exfalso; omega) | exact absurd c39 (by decide) | exact absurd (by decide) c39
        · skip
          refine Rp.aload_n dX6_keepIfAsTold_42 rfl rfl ?_
          refine Rp.getR dX6_keepIfAsTold_43 fk_X6_31 rfl (S _ _ rfl) (R _ _ _ rfl) ?_
          refine Rp.getR dX6_keepIfAsTold_46 fk_X6_135 rfl (S _ _ rfl) (R _ _ _ rfl) ?_
          refine Rp.aload_n dX6_keepIfAsTold_49 rfl rfl ?_
          refine Rp.getR dX6_keepIfAsTold_50 fk_X6_138 rfl (S _ _ rfl) (R _ _ _ rfl) ?_
          refine Rp.iload_n dX6_keepIfAsTold_53 rfl ?_
          first | ((with_reducible show Rp _ _ _ _ (.int (nI _) :: _) _ _); refine Rp.ialoadN dX6_keepIfAsTold_54 (S _ _ rfl) (by omega) ?_) | refine Rp.iaload dX6_keepIfAsTold_54 (S _ _ rfl) (by first | assumption | exact vpb (by decide)) ?_
          first | rw [eno] | rw [ea] | rw [eb] | rw [ed] | skip
          first | ((with_reducible show Rp _ _ _ _ (.int (nI _) :: _) _ _); refine Rp.ialoadN dX6_keepIfAsTold_55 (S _ _ rfl) (by omega) ?_) | refine Rp.iaload dX6_keepIfAsTold_55 (S _ _ rfl) (by first | assumption | exact vpb (by decide)) ?_
          first | rw [eno] | rw [ea] | rw [eb] | rw [ed] | skip
          refine Rp.aload_n dX6_keepIfAsTold_56 rfl rfl ?_
          refine Rp.getR dX6_keepIfAsTold_57 fk_X6_141 rfl (S _ _ rfl) (R _ _ _ rfl) ?_
          refine Rp.iload_n dX6_keepIfAsTold_60 rfl ?_
          first | ((with_reducible show Rp _ _ _ _ (.int (nI _) :: _) _ _); refine Rp.ialoadN dX6_keepIfAsTold_61 (S _ _ rfl) (by omega) ?_) | refine Rp.iaload dX6_keepIfAsTold_61 (S _ _ rfl) (by first | assumption | exact vpb (by decide)) ?_
          first | rw [eno] | rw [ea] | rw [eb] | rw [ed] | skip
          first | ((with_reducible show Rp _ _ _ _ (.int (nI _) :: .int (nI _) :: _) _ _); refine Rp.icmp_eqN (tgt := 66) dX6_keepIfAsTold_62 (by decide) (by omega) (fun c62 => ?_) (fun c62 => ?_)) | refine Rp.icmp_eq (tgt := 66) dX6_keepIfAsTold_62 (by decide) (fun c62 => ?_) (fun c62 => ?_)
          · skip
            first | ((with_reducible show Rp _ _ _ (_ :: _ :: some (.int (nI _)) :: _) _ _ _); refine Rp.inc2N (c := 1) dX6_keepIfAsTold_66 (by first | exact nl2_some rfl | exact nl2_none) (by decide) ?_) | refine Rp.inc2 _ dX6_keepIfAsTold_66 rfl (by first | exact nl2_some rfl | exact nl2_none) (by decide) ?_
            refine Rp.goto (tgt := 34) dX6_keepIfAsTold_69 (by decide) ?_
            exact k1
          · skip
            exact absurd c c62
      · have no2 := tdB_no (K := K) (s := dayF K fl nd np nt (fun _ => true) W 100) (i := i + 1) (by rw [ts]; exact decide_eq_false c) m
        rw [show i + 1 + m = no by omega] at no2
        have eh : hdC K fl nd np nt no W L = L := by unfold hdC tdW; rw [no2]; rfl
        rw [eh]
        refine Rp.iload_n dX6_keepIfAsTold_34 rfl ?_
        refine Rp.aload_n dX6_keepIfAsTold_35 rfl rfl ?_
        refine Rp.getI dX6_keepIfAsTold_36 fk_X6_132 rfl (S _ _ rfl) ?_
        first | rw [eno] | rw [ea] | rw [eb] | rw [ed] | skip
        first | ((with_reducible show Rp _ _ _ _ (.int (nI _) :: .int (nI _) :: _) _ _); refine Rp.icmp_geN (tgt := 72) dX6_keepIfAsTold_39 (by decide) (by omega) (fun c39 => ?_) (fun c39 => ?_)) | refine Rp.icmp_ge (tgt := 72) dX6_keepIfAsTold_39 (by decide) (fun c39 => ?_) (fun c39 => ?_)
        · skip
          first | (exfalso; omega) | exact absurd c39 (by decide) | exact absurd (by decide) c39
        · skip
          refine Rp.aload_n dX6_keepIfAsTold_42 rfl rfl ?_
          refine Rp.getR dX6_keepIfAsTold_43 fk_X6_31 rfl (S _ _ rfl) (R _ _ _ rfl) ?_
          refine Rp.getR dX6_keepIfAsTold_46 fk_X6_135 rfl (S _ _ rfl) (R _ _ _ rfl) ?_
          refine Rp.aload_n dX6_keepIfAsTold_49 rfl rfl ?_
          refine Rp.getR dX6_keepIfAsTold_50 fk_X6_138 rfl (S _ _ rfl) (R _ _ _ rfl) ?_
          refine Rp.iload_n dX6_keepIfAsTold_53 rfl ?_
          first | ((with_reducible show Rp _ _ _ _ (.int (nI _) :: _) _ _); refine Rp.ialoadN dX6_keepIfAsTold_54 (S _ _ rfl) (by omega) ?_) | refine Rp.iaload dX6_keepIfAsTold_54 (S _ _ rfl) (by first | assumption | exact vpb (by decide)) ?_
          first | rw [eno] | rw [ea] | rw [eb] | rw [ed] | skip
          first | ((with_reducible show Rp _ _ _ _ (.int (nI _) :: _) _ _); refine Rp.ialoadN dX6_keepIfAsTold_55 (S _ _ rfl) (by omega) ?_) | refine Rp.iaload dX6_keepIfAsTold_55 (S _ _ rfl) (by first | assumption | exact vpb (by decide)) ?_
          first | rw [eno] | rw [ea] | rw [eb] | rw [ed] | skip
          refine Rp.aload_n dX6_keepIfAsTold_56 rfl rfl ?_
          refine Rp.getR dX6_keepIfAsTold_57 fk_X6_141 rfl (S _ _ rfl) (R _ _ _ rfl) ?_
          refine Rp.iload_n dX6_keepIfAsTold_60 rfl ?_
          first | ((with_reducible show Rp _ _ _ _ (.int (nI _) :: _) _ _); refine Rp.ialoadN dX6_keepIfAsTold_61 (S _ _ rfl) (by omega) ?_) | refine Rp.iaload dX6_keepIfAsTold_61 (S _ _ rfl) (by first | assumption | exact vpb (by decide)) ?_
          first | rw [eno] | rw [ea] | rw [eb] | rw [ed] | skip
          first | ((with_reducible show Rp _ _ _ _ (.int (nI _) :: .int (nI _) :: _) _ _); refine Rp.icmp_eqN (tgt := 66) dX6_keepIfAsTold_62 (by decide) (by omega) (fun c62 => ?_) (fun c62 => ?_)) | refine Rp.icmp_eq (tgt := 66) dX6_keepIfAsTold_62 (by decide) (fun c62 => ?_) (fun c62 => ?_)
          · skip
            exact absurd c62 c
          · skip
            refine Rp.vreturn dX6_keepIfAsTold_65 rfl ?_
            exact ⟨rfl, Pg, h9g, hSg, wzX_q F⟩
  obtain ⟨S, R, J, M, D, Ln, -, e53, e54⟩ := id P
  have eno : gI h 1 12 = nI no := hS.1.1
  have j40 : gR h 40 3 = some 1 := J.1
  have n6 := VTt.1
  by_cases c : no = 0
  · have k1 := k34 h P Fr.rfl' (fun z => by omega) no 0 (by omega) rfl
    have le0 : nI no ≤ 0 := by rw [c]; decide
    refine Rp.aload_n dX6_keepIfAsTold_0 rfl rfl ?_
    refine Rp.getR dX6_keepIfAsTold_1 fk_X6_27 rfl (S _ _ rfl) (R _ _ _ rfl) ?_
    refine Rp.getR dX6_keepIfAsTold_4 fk_X6_86 rfl (S _ _ rfl) j40 ?_
    refine Rp.ast1 dX6_keepIfAsTold_7 (by first | exact nl2_some rfl | exact nl2_none) (by decide) ?_
    refine Rp.aload_n dX6_keepIfAsTold_8 rfl rfl ?_
    refine Rp.getI dX6_keepIfAsTold_9 fk_X6_132 rfl (S _ _ rfl) ?_
    first | rw [eno] | skip
    refine Rp.if_le (tgt := 32) dX6_keepIfAsTold_12 (by decide) (fun c12 => ?_) (fun c12 => ?_)
    · skip
      refine Rp.iconst (nI 0) dX6_keepIfAsTold_32 (by decide) ?_
      refine Rp.ist2 dX6_keepIfAsTold_33 (by first | exact nl2_some rfl | exact nl2_none) (by decide) ?_
      exact k1
    · skip
      exact absurd le0 c12
  · have DBg : DB h 1 K np nt nd W 54 := ⟨S, R, by decide, B, D, VDd, VNn, v1, M.2.2.2.1, Or.inr (Or.inr rfl), fun t ht => e54 t (by omega)⟩
    have py := t_play d (st := fun _ => true) (fl := fl) DBg Ln J (op := nI 7) (bit7 VDd.1)
    have gt0 : ¬ nI no ≤ 0 := by
      rw [i32_le, nI_toInt (by omega)]
      show ¬ ((no : Int) ≤ 0)
      omega
    refine Rp.aload_n dX6_keepIfAsTold_0 rfl rfl ?_
    refine Rp.getR dX6_keepIfAsTold_1 fk_X6_27 rfl (S _ _ rfl) (R _ _ _ rfl) ?_
    refine Rp.getR dX6_keepIfAsTold_4 fk_X6_86 rfl (S _ _ rfl) j40 ?_
    refine Rp.ast1 dX6_keepIfAsTold_7 (by first | exact nl2_some rfl | exact nl2_none) (by decide) ?_
    refine Rp.aload_n dX6_keepIfAsTold_8 rfl rfl ?_
    refine Rp.getI dX6_keepIfAsTold_9 fk_X6_132 rfl (S _ _ rfl) ?_
    first | rw [eno] | skip
    refine Rp.if_le (tgt := 32) dX6_keepIfAsTold_12 (by decide) (fun c12 => ?_) (fun c12 => ?_)
    · exact absurd c12 gt0
    refine Rp.aload_n dX6_keepIfAsTold_15 rfl rfl ?_
    refine Rp.getR dX6_keepIfAsTold_16 fk_X6_31 rfl (S _ _ rfl) (R _ _ _ rfl) ?_
    refine Rp.aload_n dX6_keepIfAsTold_19 rfl rfl ?_
    refine Rp.getR dX6_keepIfAsTold_20 fk_X6_27 rfl (S _ _ rfl) (R _ _ _ rfl) ?_
    refine Rp.aload_n dX6_keepIfAsTold_23 rfl rfl ?_
    refine Rp.getR dX6_keepIfAsTold_24 fk_X6_15 rfl (S _ _ rfl) (R _ _ _ rfl) ?_
    refine Rp.bipush (nI 7) dX6_keepIfAsTold_27 (by decide) ?_
    refine Rp.callV3 M_X1_play (ci := 1) dX6_keepIfAsTold_29 mo_X1_play lk_X6_118 (by decide) rfl rfl (S _ _ rfl) (Nat.le_of_ble_eq_true rfl) (Nat.le_of_ble_eq_true rfl) (py) (fun v1 h1 p1 x1 => ?_)
    obtain ⟨rfl, F1, J1, Y1⟩ := p1
    try dsimp only [Option.toList, List.cons_append, List.nil_append, List.append]
    skip
    have k1 := k34 h1 (P.day F1 J1) F1 (fun _ => Y1) no 0 (by omega) rfl
    refine Rp.iconst (nI 0) dX6_keepIfAsTold_32 (by decide) ?_
    refine Rp.ist2 dX6_keepIfAsTold_33 (by first | exact nl2_some rfl | exact nl2_none) (by decide) ?_
    exact k1
end As2
