/-- all who hold are done by a minute -/
def arB (K : Nat → Int32) (s : DS) (mi : Int32) : Nat → Bool
  | 0 => true
  | n + 1 => arB K s mi n && (decide (K n = -1) || (decide (s.2.2.1 n ≠ -1) && decide (s.2.2.1 n ≤ mi)))
def dmS (K : Nat → Int32) (fl : Option (List CLE)) (nd np nt u : Nat) : DS := dayF K fl nd np nt (fun e => bitB (nI u) (nI e)) K 100
def dmB (K : Nat → Int32) (fl : Option (List CLE)) (nd np nt : Nat) (mi : Int32) (u : Nat) : Bool := arB K (dmS K fl nd np nt u) mi np
def pc8 (u : Nat) : Nat := [0, 1, 1, 2, 1, 2, 2, 3].getD u 0
/-- the class's way through sets of desks -/
def fdI (D : Nat → Bool) (size : Nat) : Nat → Nat → Option Nat
  | 0, _ => none
  | m + 1, u => if pc8 u = size ∧ D u = true then some u else fdI D size m (u + 1)
def fdO (D : Nat → Bool) (mk : Nat) : Nat → Nat → Option Nat
  | 0, _ => none
  | m + 1, size => match fdI D size mk 0 with
    | some u => some u
    | none => fdO D mk m (size + 1)
/-- the reference's -/
def gdF (D : Nat → Bool) : Nat → Option Nat
  | 0 => none
  | n + 1 => match gdF D n with
    | none => if D n = true then some n else none
    | some b => if pc8 n < pc8 b ∧ D n = true then some n else some b
theorem fd_gd (D : Nat → Bool) : ∀ nd, nd ≤ 3 → fdO D (2 ^ nd) (nd + 1) 0 = gdF D (2 ^ nd) := by
  have key : ∀ b0 b1 b2 b3 b4 b5 b6 b7 : Bool, ∀ nd, nd ≤ 3 → fdO (fun u => [b0, b1, b2, b3, b4, b5, b6, b7].getD u false) (2 ^ nd) (nd + 1) 0 = gdF (fun u => [b0, b1, b2, b3, b4, b5, b6, b7].getD u false) (2 ^ nd) := by decide +kernel
  have c1 : ∀ (D D' : Nat → Bool) (size : Nat), ∀ m u, (∀ x, x < u + m → D x = D' x) → fdI D size m u = fdI D' size m u := by
    intro D D' size m
    induction m with
    | zero => intro u _; rfl
    | succ m ih => intro u h; rw [fdI, fdI, h u (by omega), ih (u + 1) (fun x hx => h x (by omega))]
  have c2 : ∀ (D D' : Nat → Bool) (mk : Nat), (∀ x, x < mk → D x = D' x) → ∀ m size, fdO D mk m size = fdO D' mk m size := by
    intro D D' mk h m
    induction m with
    | zero => intro size; rfl
    | succ m ih => intro size; rw [fdO, fdO, c1 D D' size mk 0 (fun x hx => h x (by omega)), ih]
  have c3 : ∀ (D D' : Nat → Bool), ∀ n, (∀ x, x < n → D x = D' x) → gdF D n = gdF D' n := by
    intro D D' n
    induction n with
    | zero => intro _; rfl
    | succ n ih => intro h; rw [gdF, gdF, ih (fun x hx => h x (by omega)), h n (by omega)]
  intro nd hn
  have h8 : 2 ^ nd ≤ 8 := by
    have : 2 ^ nd ≤ 2 ^ 3 := Nat.pow_le_pow_right (by decide) hn
    exact this
  have e : ∀ x, x < 2 ^ nd → D x = (fun u => [D 0, D 1, D 2, D 3, D 4, D 5, D 6, D 7].getD u false) x := fun x hx => by
    have : x = 0 ∨ x = 1 ∨ x = 2 ∨ x = 3 ∨ x = 4 ∨ x = 5 ∨ x = 6 ∨ x = 7 := by omega
    rcases this with rfl | rfl | rfl | rfl | rfl | rfl | rfl | rfl <;> rfl
  rw [c2 D _ _ e, c3 D _ _ e]
  exact key _ _ _ _ _ _ _ _ nd hn
def dsA (K : Nat → Int32) (fl : Option (List CLE)) (nd np nt : Nat) (mi w : Int32) : Int32 := if (inN mi 1000 && inN w 2) = true then (match gdF (dmB K fl nd np nt mi) (2 ^ nd) with
  | none => -1
  | some u => if ix w = 0 then nI (pc8 u) else nI u) else -1
section Bc
variable (d : Nat) {h : AH}
theorem t_bitC {u : Nat} (hu : u < 8) : Rp d M_J6_bitCount_0f7a4 0 [some (.int (nI u))] [] h (fun r h' => h' = h ∧ r = some (.int (nI (pc8 u)))) := by
  have h8 : u = 0 ∨ u = 1 ∨ u = 2 ∨ u = 3 ∨ u = 4 ∨ u = 5 ∨ u = 6 ∨ u = 7 := by omega
  refine Rp.iload_n dJ6_bitCount_0f7a4_0 rfl ?_
  refine Rp.iload_n dJ6_bitCount_0f7a4_1 rfl ?_
  refine Rp.iconst (nI 1) dJ6_bitCount_0f7a4_2 (by decide) ?_
  refine Rp.iushr dJ6_bitCount_0f7a4_3 ?_
  refine Rp.ldcw dJ6_bitCount_0f7a4_4 kc_J6_265 ?_
  refine Rp.iand dJ6_bitCount_0f7a4_7 ?_
  first | ((with_reducible show Rp _ _ _ _ (.int (nI _) :: .int (nI _) :: _) _ _); refine Rp.isubN dJ6_bitCount_0f7a4_8 (by omega) ?_) | refine Rp.isub dJ6_bitCount_0f7a4_8 ?_
  refine Rp.ist0 dJ6_bitCount_0f7a4_9 (by decide) ?_
  refine Rp.iload_n dJ6_bitCount_0f7a4_10 rfl ?_
  refine Rp.ldcw dJ6_bitCount_0f7a4_11 kc_J6_266 ?_
  refine Rp.iand dJ6_bitCount_0f7a4_14 ?_
  refine Rp.iload_n dJ6_bitCount_0f7a4_15 rfl ?_
  refine Rp.iconst (nI 2) dJ6_bitCount_0f7a4_16 (by decide) ?_
  refine Rp.iushr dJ6_bitCount_0f7a4_17 ?_
  refine Rp.ldcw dJ6_bitCount_0f7a4_18 kc_J6_266 ?_
  refine Rp.iand dJ6_bitCount_0f7a4_21 ?_
  first | ((with_reducible show Rp _ _ _ _ (.int (nI _) :: .int (nI _) :: _) _ _); refine Rp.iaddN dJ6_bitCount_0f7a4_22 ?_) | refine Rp.iadd dJ6_bitCount_0f7a4_22 ?_
  refine Rp.ist0 dJ6_bitCount_0f7a4_23 (by decide) ?_
  refine Rp.iload_n dJ6_bitCount_0f7a4_24 rfl ?_
  refine Rp.iload_n dJ6_bitCount_0f7a4_25 rfl ?_
  refine Rp.iconst (nI 4) dJ6_bitCount_0f7a4_26 (by decide) ?_
  refine Rp.iushr dJ6_bitCount_0f7a4_27 ?_
  first | ((with_reducible show Rp _ _ _ _ (.int (nI _) :: .int (nI _) :: _) _ _); refine Rp.iaddN dJ6_bitCount_0f7a4_28 ?_) | refine Rp.iadd dJ6_bitCount_0f7a4_28 ?_
  refine Rp.ldcw dJ6_bitCount_0f7a4_29 kc_J6_267 ?_
  refine Rp.iand dJ6_bitCount_0f7a4_32 ?_
  refine Rp.ist0 dJ6_bitCount_0f7a4_33 (by decide) ?_
  refine Rp.iload_n dJ6_bitCount_0f7a4_34 rfl ?_
  refine Rp.iload_n dJ6_bitCount_0f7a4_35 rfl ?_
  refine Rp.bipush (nI 8) dJ6_bitCount_0f7a4_36 (by decide) ?_
  refine Rp.iushr dJ6_bitCount_0f7a4_38 ?_
  first | ((with_reducible show Rp _ _ _ _ (.int (nI _) :: .int (nI _) :: _) _ _); refine Rp.iaddN dJ6_bitCount_0f7a4_39 ?_) | refine Rp.iadd dJ6_bitCount_0f7a4_39 ?_
  refine Rp.ist0 dJ6_bitCount_0f7a4_40 (by decide) ?_
  refine Rp.iload_n dJ6_bitCount_0f7a4_41 rfl ?_
  refine Rp.iload_n dJ6_bitCount_0f7a4_42 rfl ?_
  refine Rp.bipush (nI 16) dJ6_bitCount_0f7a4_43 (by decide) ?_
  refine Rp.iushr dJ6_bitCount_0f7a4_45 ?_
  first | ((with_reducible show Rp _ _ _ _ (.int (nI _) :: .int (nI _) :: _) _ _); refine Rp.iaddN dJ6_bitCount_0f7a4_46 ?_) | refine Rp.iadd dJ6_bitCount_0f7a4_46 ?_
  refine Rp.ist0 dJ6_bitCount_0f7a4_47 (by decide) ?_
  refine Rp.iload_n dJ6_bitCount_0f7a4_48 rfl ?_
  refine Rp.bipush (nI 63) dJ6_bitCount_0f7a4_49 (by decide) ?_
  refine Rp.iand dJ6_bitCount_0f7a4_51 ?_
  refine Rp.ireturn dJ6_bitCount_0f7a4_52 rfl ?_
  refine ⟨rfl, congrArg (fun x : Int32 => some (Value.int x)) ?_⟩
  rcases h8 with rfl | rfl | rfl | rfl | rfl | rfl | rfl | rfl <;> decide
def ob8 (u : Nat) : Nat → Nat
  | 0 => 0
  | i + 1 => ob8 u i + if Nat.testBit u i = true then 1 else 0
theorem ob8_pc : ∀ u, u < 8 → ob8 u 8 = pc8 u := by decide
theorem ob8_bit : ∀ u, u < 8 → ∀ i, i < 8 → (nI u >>> (nI i &&& 31)) &&& nI 1 = nI (if Nat.testBit u i = true then 1 else 0) := by decide +kernel
theorem ones4 {u : Nat} (hu : u < 8) : ∀ (m i : Nat), i + m = 8 → Rp d M_X12_ones 4 [some (.int (nI u)), some (.int (nI (ob8 u i))), some (.int (nI i))] [] h (fun r h' => h' = h ∧ r = some (.int (nI (pc8 u)))) := by
  intro m
  induction m with
  | zero =>
    intro i hm
    have e : i = 8 := by omega
    subst e
    refine Rp.iload_n dX12_ones_4 rfl ?_
    refine Rp.bipush (nI 8) dX12_ones_5 (by decide) ?_
    first | ((with_reducible show Rp _ _ _ _ (.int (nI _) :: .int (nI _) :: _) _ _); refine Rp.icmp_geN (tgt := 24) dX12_ones_7 (by decide) (by omega) (fun c7 => ?_) (fun c7 => ?_)) | refine Rp.icmp_ge (tgt := 24) dX12_ones_7 (by decide) (fun c7 => ?_) (fun c7 => ?_)
    · skip
      refine Rp.iload_n dX12_ones_24 rfl ?_
      refine Rp.ireturn dX12_ones_25 rfl ?_
      exact ⟨rfl, by rw [ob8_pc u hu]⟩
    · skip
      first | (exfalso; omega) | exact absurd c7 (by decide) | exact absurd (by decide) c7
  | succ m ih =>
    intro i hm
    have k1 := ih (i + 1) (by omega)
    have eb := ob8_bit u hu i (by omega)
    refine Rp.iload_n dX12_ones_4 rfl ?_
    refine Rp.bipush (nI 8) dX12_ones_5 (by decide) ?_
    first | ((with_reducible show Rp _ _ _ _ (.int (nI _) :: .int (nI _) :: _) _ _); refine Rp.icmp_geN (tgt := 24) dX12_ones_7 (by decide) (by omega) (fun c7 => ?_) (fun c7 => ?_)) | refine Rp.icmp_ge (tgt := 24) dX12_ones_7 (by decide) (fun c7 => ?_) (fun c7 => ?_)
    · skip
      first | (exfalso; omega) | exact absurd c7 (by decide) | exact absurd (by decide) c7
    · skip
      refine Rp.iload_n dX12_ones_10 rfl ?_
      refine Rp.iload_n dX12_ones_11 rfl ?_
      refine Rp.iload_n dX12_ones_12 rfl ?_
      refine Rp.ishr dX12_ones_13 ?_
      refine Rp.iconst (nI 1) dX12_ones_14 (by decide) ?_
      refine Rp.iand dX12_ones_15 ?_
      rw [eb]
      first | ((with_reducible show Rp _ _ _ _ (.int (nI _) :: .int (nI _) :: _) _ _); refine Rp.iaddN dX12_ones_16 ?_) | refine Rp.iadd dX12_ones_16 ?_
      refine Rp.ist1 dX12_ones_17 (by first | exact nl2_some rfl | exact nl2_none) (by decide) ?_
      first | ((with_reducible show Rp _ _ _ (_ :: _ :: some (.int (nI _)) :: _) _ _ _); refine Rp.inc2N (c := 1) dX12_ones_18 (by first | exact nl2_some rfl | exact nl2_none) (by decide) ?_) | refine Rp.inc2 _ dX12_ones_18 rfl (by first | exact nl2_some rfl | exact nl2_none) (by decide) ?_
      refine Rp.goto (tgt := 4) dX12_ones_21 (by decide) ?_
      exact k1
theorem s_ones {u : Nat} (hu : u < 8) : Rp d M_X12_ones 0 [some (.int (nI u)), none, none] [] h (fun r h' => h' = h ∧ r = some (.int (nI (pc8 u)))) := by
  have k1 := ones4 d (h := h) hu 8 0 (by omega)
  refine Rp.iconst (nI 0) dX12_ones_0 (by decide) ?_
  refine Rp.ist1 dX12_ones_1 (by first | exact nl2_some rfl | exact nl2_none) (by decide) ?_
  refine Rp.iconst (nI 0) dX12_ones_2 (by decide) ?_
  refine Rp.ist2 dX12_ones_3 (by first | exact nl2_some rfl | exact nl2_none) (by decide) ?_
  exact k1
end Bc
/-- the class amid desks -/
def DeI (h0 g : AH) (K : Nat → Int32) (fl : Option (List CLE)) (np nt nd : Nat) : Prop := ShOK g ∧ RfOK g ∧ JS g 1 K fl ∧ HM g 1 K np nt ∧ HD g 1 K nd ∧ LINE g K nt ∧ Fr pX h0 g
section De
variable (d : Nat) {K : Nat → Int32} {fl : Option (List CLE)} {np nt nd : Nat} {h0 : AH}
theorem DeI.fr {g g' : AH} (I : DeI h0 g K fl np nt nd) (F : Fr pX g g') (J : JS g' 1 K fl) : DeI h0 g' K fl np nt nd := by
  obtain ⟨S, R, -, M, D, L, FF⟩ := I
  have h33 : ∀ k j, k < 33 → pX k j = false := fun k j hk => by unfold pX; rw [jX_lt (by omega), dX_lt (by omega)]; rfl
  exact ⟨F.S S, F.R R (by decide), J, M.fr F (fun o j ho _ _ => h33 _ _ (by omega)) (fun o j ho e => by rw [h33 _ _ (by omega)] at e; cases e), ⟨D.1.fr F (fun j => h33 _ _ (by decide)) (h33 _ _ (by decide)), D.2.1, (F.I _ _ (h33 _ _ (by decide))).trans D.2.2.1, fun e he => (F.I _ _ (h33 _ _ (by decide))).trans (D.2.2.2 e he)⟩, fun t ht => (F.I 47 _ rfl).trans (L t ht), FF.trans F⟩
theorem arB_no {s : DS} {mi : Int32} {i : Nat} (h : arB K s mi i = false) : ∀ m, arB K s mi (i + m) = false
  | 0 => h
  | m + 1 => by rw [← Nat.add_assoc, arB, arB_no h m]; rfl
theorem areDone27 {s : DS} {g : AH} {u : Nat} (I : DeI h0 g K fl np nt nd) (Y : DY g s) (DPp : ∀ p, DP s nd 6000 p) (hnd : nd ≤ 3) {mi : Nat} (hmi : mi < 1000) : ∀ (m p : Nat), p + m = np → arB K s (nI mi) p = true → Rp (d + 4) M_X6_areDone 27 [some (.ref 52), some (.int (nI u)), some (.int (nI mi)), some (.ref 1), some (.int (nI p))] [] g (fun r h' => h' = g ∧ r = some (.int (b2i (arB K s (nI mi) np)))) := by
  obtain ⟨S, R, J, M, D, L, FF⟩ := id I
  have V := M.1
  have v1 := V.1
  have m3 : gI g 1 0 = nI np := M.2.2.1
  intro m
  induction m with
  | zero =>
    intro p hm ha
    have e : p = np := by omega
    subst e
    rw [ha]
    refine Rp.iload dX6_areDone_27 rfl ?_
    refine Rp.aload_n dX6_areDone_29 rfl rfl ?_
    refine Rp.getI dX6_areDone_30 fk_X6_90 rfl (S _ _ rfl) ?_
    first | rw [m3] | skip
    first | ((with_reducible show Rp _ _ _ _ (.int (nI _) :: .int (nI _) :: _) _ _); refine Rp.icmp_geN (tgt := 83) dX6_areDone_33 (by decide) (by omega) (fun c33 => ?_) (fun c33 => ?_)) | refine Rp.icmp_ge (tgt := 83) dX6_areDone_33 (by decide) (fun c33 => ?_) (fun c33 => ?_)
    · skip
      refine Rp.iconst (nI 1) dX6_areDone_83 (by decide) ?_
      refine Rp.zreturn dX6_areDone_84 rfl (by first | exact Or.inl rfl | exact Or.inr rfl | assumption) ?_
      exact ⟨rfl, rfl⟩
    · skip
      first | (exfalso; omega) | exact absurd c33 (by decide) | exact absurd (by decide) c33
  | succ m ih =>
    intro p hm ha
    have ek : gI g 4 p = K p := M.2.2.2.2.1 p (by omega)
    have ed : gI g 50 p = s.2.2.1 p := Y.2.2.1 p (by omega)
    have st : arB K s (nI mi) (p + 1) = (decide (K p = -1) || (decide (s.2.2.1 p ≠ -1) && decide (s.2.2.1 p ≤ nI mi))) := by rw [arB, ha, Bool.true_and]
    have bad : arB K s (nI mi) (p + 1) = false → arB K s (nI mi) np = false := fun z => by
      have := arB_no (K := K) (s := s) (mi := nI mi) z m
      rw [show p + 1 + m = np by omega] at this
      exact this
    by_cases c1 : K p = -1
    · have k1 := ih (p + 1) (by omega) (by rw [st, decide_eq_true c1]; rfl)
      refine Rp.iload dX6_areDone_27 rfl ?_
      refine Rp.aload_n dX6_areDone_29 rfl rfl ?_
      refine Rp.getI dX6_areDone_30 fk_X6_90 rfl (S _ _ rfl) ?_
      first | rw [m3] | rw [ek] | skip
      first | ((with_reducible show Rp _ _ _ _ (.int (nI _) :: .int (nI _) :: _) _ _); refine Rp.icmp_geN (tgt := 83) dX6_areDone_33 (by decide) (by omega) (fun c33 => ?_) (fun c33 => ?_)) | refine Rp.icmp_ge (tgt := 83) dX6_areDone_33 (by decide) (fun c33 => ?_) (fun c33 => ?_)
      · skip
        first | (exfalso; omega) | exact absurd c33 (by decide) | exact absurd (by decide) c33
      · skip
        refine Rp.aload_n dX6_areDone_36 rfl rfl ?_
        refine Rp.getR dX6_areDone_37 fk_X6_99 rfl (S _ _ rfl) (R _ _ _ rfl) ?_
        refine Rp.iload dX6_areDone_40 rfl ?_
        first | ((with_reducible show Rp _ _ _ _ (.int (nI _) :: _) _ _); refine Rp.ialoadN dX6_areDone_42 (S _ _ rfl) (by omega) ?_) | refine Rp.iaload dX6_areDone_42 (S _ _ rfl) (by first | assumption | exact vpb (by decide)) ?_
        first | rw [m3] | rw [ek] | skip
        refine Rp.iconst (-1) dX6_areDone_43 (by decide) ?_
        first | ((with_reducible show Rp _ _ _ _ (.int (nI _) :: .int (nI _) :: _) _ _); refine Rp.icmp_eqN (tgt := 77) dX6_areDone_44 (by decide) (by omega) (fun c44 => ?_) (fun c44 => ?_)) | refine Rp.icmp_eq (tgt := 77) dX6_areDone_44 (by decide) (fun c44 => ?_) (fun c44 => ?_)
        · skip
          first | ((with_reducible show Rp _ _ _ (_ :: _ :: _ :: _ :: some (.int (nI _)) :: _) _ _ _); refine Rp.inc4N (c := 1) dX6_areDone_77 (by first | exact nl2_some rfl | exact nl2_none) (by decide) ?_) | refine Rp.inc4 _ dX6_areDone_77 rfl (by first | exact nl2_some rfl | exact nl2_none) (by decide) ?_
          refine Rp.goto (tgt := 27) dX6_areDone_80 (by decide) ?_
          exact k1
        · skip
          exact absurd c1 c44
    · rcases dnO_is hnd (DPp p) with ⟨e1, -, -⟩ | ⟨v, hv6, e1, -, -⟩
      · rw [bad (by rw [st, decide_eq_false c1, decide_eq_false (fun z => z e1)]; rfl)]
        rw [e1] at ed
        refine Rp.iload dX6_areDone_27 rfl ?_
        refine Rp.aload_n dX6_areDone_29 rfl rfl ?_
        refine Rp.getI dX6_areDone_30 fk_X6_90 rfl (S _ _ rfl) ?_
        first | rw [m3] | rw [ek] | rw [ed] | skip
        first | ((with_reducible show Rp _ _ _ _ (.int (nI _) :: .int (nI _) :: _) _ _); refine Rp.icmp_geN (tgt := 83) dX6_areDone_33 (by decide) (by omega) (fun c33 => ?_) (fun c33 => ?_)) | refine Rp.icmp_ge (tgt := 83) dX6_areDone_33 (by decide) (fun c33 => ?_) (fun c33 => ?_)
        · skip
          first | (exfalso; omega) | exact absurd c33 (by decide) | exact absurd (by decide) c33
        · skip
          refine Rp.aload_n dX6_areDone_36 rfl rfl ?_
          refine Rp.getR dX6_areDone_37 fk_X6_99 rfl (S _ _ rfl) (R _ _ _ rfl) ?_
          refine Rp.iload dX6_areDone_40 rfl ?_
          first | ((with_reducible show Rp _ _ _ _ (.int (nI _) :: _) _ _); refine Rp.ialoadN dX6_areDone_42 (S _ _ rfl) (by omega) ?_) | refine Rp.iaload dX6_areDone_42 (S _ _ rfl) (by first | assumption | exact vpb (by decide)) ?_
          first | rw [m3] | rw [ek] | rw [ed] | skip
          refine Rp.iconst (-1) dX6_areDone_43 (by decide) ?_
          first | ((with_reducible show Rp _ _ _ _ (.int (nI _) :: .int (nI _) :: _) _ _); refine Rp.icmp_eqN (tgt := 77) dX6_areDone_44 (by decide) (by omega) (fun c44 => ?_) (fun c44 => ?_)) | refine Rp.icmp_eq (tgt := 77) dX6_areDone_44 (by decide) (fun c44 => ?_) (fun c44 => ?_)
          · skip
            exact absurd c44 c1
          · skip
            refine Rp.aload_n dX6_areDone_47 rfl rfl ?_
            refine Rp.getR dX6_areDone_48 fk_X6_31 rfl (S _ _ rfl) (R _ _ _ rfl) ?_
            refine Rp.getR dX6_areDone_51 fk_X6_135 rfl (S _ _ rfl) (R _ _ _ rfl) ?_
            refine Rp.iload dX6_areDone_54 rfl ?_
            first | ((with_reducible show Rp _ _ _ _ (.int (nI _) :: _) _ _); refine Rp.ialoadN dX6_areDone_56 (S _ _ rfl) (by omega) ?_) | refine Rp.iaload dX6_areDone_56 (S _ _ rfl) (by first | assumption | exact vpb (by decide)) ?_
            first | rw [m3] | rw [ek] | rw [ed] | skip
            refine Rp.iconst (-1) dX6_areDone_57 (by decide) ?_
            first | ((with_reducible show Rp _ _ _ _ (.int (nI _) :: .int (nI _) :: _) _ _); refine Rp.icmp_eqN (tgt := 75) dX6_areDone_58 (by decide) (by omega) (fun c58 => ?_) (fun c58 => ?_)) | refine Rp.icmp_eq (tgt := 75) dX6_areDone_58 (by decide) (fun c58 => ?_) (fun c58 => ?_)
            · skip
              refine Rp.iconst (nI 0) dX6_areDone_75 (by decide) ?_
              refine Rp.zreturn dX6_areDone_76 rfl (by first | exact Or.inl rfl | exact Or.inr rfl | assumption) ?_
              exact ⟨rfl, rfl⟩
            · skip
              exact absurd rfl c58
      · rw [e1] at ed
        have nv : ¬ nI v = -1 := nI_m1 (by omega)
        by_cases c2 : v ≤ mi
        · have k1 := ih (p + 1) (by omega) (by rw [st, decide_eq_false c1, e1, decide_eq_true nv, decide_eq_true (show nI v ≤ nI mi by rw [i32_le, nI_toInt (by omega), nI_toInt (by omega)]; omega)]; rfl)
          refine Rp.iload dX6_areDone_27 rfl ?_
          refine Rp.aload_n dX6_areDone_29 rfl rfl ?_
          refine Rp.getI dX6_areDone_30 fk_X6_90 rfl (S _ _ rfl) ?_
          first | rw [m3] | rw [ek] | rw [ed] | skip
          first | ((with_reducible show Rp _ _ _ _ (.int (nI _) :: .int (nI _) :: _) _ _); refine Rp.icmp_geN (tgt := 83) dX6_areDone_33 (by decide) (by omega) (fun c33 => ?_) (fun c33 => ?_)) | refine Rp.icmp_ge (tgt := 83) dX6_areDone_33 (by decide) (fun c33 => ?_) (fun c33 => ?_)
          · skip
            first | (exfalso; omega) | exact absurd c33 (by decide) | exact absurd (by decide) c33
          · skip
            refine Rp.aload_n dX6_areDone_36 rfl rfl ?_
            refine Rp.getR dX6_areDone_37 fk_X6_99 rfl (S _ _ rfl) (R _ _ _ rfl) ?_
            refine Rp.iload dX6_areDone_40 rfl ?_
            first | ((with_reducible show Rp _ _ _ _ (.int (nI _) :: _) _ _); refine Rp.ialoadN dX6_areDone_42 (S _ _ rfl) (by omega) ?_) | refine Rp.iaload dX6_areDone_42 (S _ _ rfl) (by first | assumption | exact vpb (by decide)) ?_
            first | rw [m3] | rw [ek] | rw [ed] | skip
            refine Rp.iconst (-1) dX6_areDone_43 (by decide) ?_
            first | ((with_reducible show Rp _ _ _ _ (.int (nI _) :: .int (nI _) :: _) _ _); refine Rp.icmp_eqN (tgt := 77) dX6_areDone_44 (by decide) (by omega) (fun c44 => ?_) (fun c44 => ?_)) | refine Rp.icmp_eq (tgt := 77) dX6_areDone_44 (by decide) (fun c44 => ?_) (fun c44 => ?_)
            · skip
              exact absurd c44 c1
            · skip
              refine Rp.aload_n dX6_areDone_47 rfl rfl ?_
              refine Rp.getR dX6_areDone_48 fk_X6_31 rfl (S _ _ rfl) (R _ _ _ rfl) ?_
              refine Rp.getR dX6_areDone_51 fk_X6_135 rfl (S _ _ rfl) (R _ _ _ rfl) ?_
              refine Rp.iload dX6_areDone_54 rfl ?_
              first | ((with_reducible show Rp _ _ _ _ (.int (nI _) :: _) _ _); refine Rp.ialoadN dX6_areDone_56 (S _ _ rfl) (by omega) ?_) | refine Rp.iaload dX6_areDone_56 (S _ _ rfl) (by first | assumption | exact vpb (by decide)) ?_
              first | rw [m3] | rw [ek] | rw [ed] | skip
              refine Rp.iconst (-1) dX6_areDone_57 (by decide) ?_
              first | ((with_reducible show Rp _ _ _ _ (.int (nI _) :: .int (nI _) :: _) _ _); refine Rp.icmp_eqN (tgt := 75) dX6_areDone_58 (by decide) (by omega) (fun c58 => ?_) (fun c58 => ?_)) | refine Rp.icmp_eq (tgt := 75) dX6_areDone_58 (by decide) (fun c58 => ?_) (fun c58 => ?_)
              · skip
                exact absurd c58 nv
              · skip
                refine Rp.aload_n dX6_areDone_61 rfl rfl ?_
                refine Rp.getR dX6_areDone_62 fk_X6_31 rfl (S _ _ rfl) (R _ _ _ rfl) ?_
                refine Rp.getR dX6_areDone_65 fk_X6_135 rfl (S _ _ rfl) (R _ _ _ rfl) ?_
                refine Rp.iload dX6_areDone_68 rfl ?_
                first | ((with_reducible show Rp _ _ _ _ (.int (nI _) :: _) _ _); refine Rp.ialoadN dX6_areDone_70 (S _ _ rfl) (by omega) ?_) | refine Rp.iaload dX6_areDone_70 (S _ _ rfl) (by first | assumption | exact vpb (by decide)) ?_
                first | rw [m3] | rw [ek] | rw [ed] | skip
                refine Rp.iload_n dX6_areDone_71 rfl ?_
                first | ((with_reducible show Rp _ _ _ _ (.int (nI _) :: .int (nI _) :: _) _ _); refine Rp.icmp_leN (tgt := 77) dX6_areDone_72 (by decide) (by omega) (fun c72 => ?_) (fun c72 => ?_)) | refine Rp.icmp_le (tgt := 77) dX6_areDone_72 (by decide) (fun c72 => ?_) (fun c72 => ?_)
                · skip
                  first | ((with_reducible show Rp _ _ _ (_ :: _ :: _ :: _ :: some (.int (nI _)) :: _) _ _ _); refine Rp.inc4N (c := 1) dX6_areDone_77 (by first | exact nl2_some rfl | exact nl2_none) (by decide) ?_) | refine Rp.inc4 _ dX6_areDone_77 rfl (by first | exact nl2_some rfl | exact nl2_none) (by decide) ?_
                  refine Rp.goto (tgt := 27) dX6_areDone_80 (by decide) ?_
                  exact k1
                · skip
                  first | (exfalso; omega) | exact absurd c72 (by decide) | exact absurd (by decide) c72
        · rw [bad (by rw [st, decide_eq_false c1, e1, decide_eq_false (show ¬ nI v ≤ nI mi by rw [i32_le, nI_toInt (by omega), nI_toInt (by omega)]; omega), Bool.and_false]; rfl)]
          refine Rp.iload dX6_areDone_27 rfl ?_
          refine Rp.aload_n dX6_areDone_29 rfl rfl ?_
          refine Rp.getI dX6_areDone_30 fk_X6_90 rfl (S _ _ rfl) ?_
          first | rw [m3] | rw [ek] | rw [ed] | skip
          first | ((with_reducible show Rp _ _ _ _ (.int (nI _) :: .int (nI _) :: _) _ _); refine Rp.icmp_geN (tgt := 83) dX6_areDone_33 (by decide) (by omega) (fun c33 => ?_) (fun c33 => ?_)) | refine Rp.icmp_ge (tgt := 83) dX6_areDone_33 (by decide) (fun c33 => ?_) (fun c33 => ?_)
          · skip
            first | (exfalso; omega) | exact absurd c33 (by decide) | exact absurd (by decide) c33
          · skip
            refine Rp.aload_n dX6_areDone_36 rfl rfl ?_
            refine Rp.getR dX6_areDone_37 fk_X6_99 rfl (S _ _ rfl) (R _ _ _ rfl) ?_
            refine Rp.iload dX6_areDone_40 rfl ?_
            first | ((with_reducible show Rp _ _ _ _ (.int (nI _) :: _) _ _); refine Rp.ialoadN dX6_areDone_42 (S _ _ rfl) (by omega) ?_) | refine Rp.iaload dX6_areDone_42 (S _ _ rfl) (by first | assumption | exact vpb (by decide)) ?_
            first | rw [m3] | rw [ek] | rw [ed] | skip
            refine Rp.iconst (-1) dX6_areDone_43 (by decide) ?_
            first | ((with_reducible show Rp _ _ _ _ (.int (nI _) :: .int (nI _) :: _) _ _); refine Rp.icmp_eqN (tgt := 77) dX6_areDone_44 (by decide) (by omega) (fun c44 => ?_) (fun c44 => ?_)) | refine Rp.icmp_eq (tgt := 77) dX6_areDone_44 (by decide) (fun c44 => ?_) (fun c44 => ?_)
            · skip
              exact absurd c44 c1
            · skip
              refine Rp.aload_n dX6_areDone_47 rfl rfl ?_
              refine Rp.getR dX6_areDone_48 fk_X6_31 rfl (S _ _ rfl) (R _ _ _ rfl) ?_
              refine Rp.getR dX6_areDone_51 fk_X6_135 rfl (S _ _ rfl) (R _ _ _ rfl) ?_
              refine Rp.iload dX6_areDone_54 rfl ?_
              first | ((with_reducible show Rp _ _ _ _ (.int (nI _) :: _) _ _); refine Rp.ialoadN dX6_areDone_56 (S _ _ rfl) (by omega) ?_) | refine Rp.iaload dX6_areDone_56 (S _ _ rfl) (by first | assumption | exact vpb (by decide)) ?_
              first | rw [m3] | rw [ek] | rw [ed] | skip
              refine Rp.iconst (-1) dX6_areDone_57 (by decide) ?_
              first | ((with_reducible show Rp _ _ _ _ (.int (nI _) :: .int (nI _) :: _) _ _); refine Rp.icmp_eqN (tgt := 75) dX6_areDone_58 (by decide) (by omega) (fun c58 => ?_) (fun c58 => ?_)) | refine Rp.icmp_eq (tgt := 75) dX6_areDone_58 (by decide) (fun c58 => ?_) (fun c58 => ?_)
              · skip
                exact absurd c58 nv
              · skip
                refine Rp.aload_n dX6_areDone_61 rfl rfl ?_
                refine Rp.getR dX6_areDone_62 fk_X6_31 rfl (S _ _ rfl) (R _ _ _ rfl) ?_
                refine Rp.getR dX6_areDone_65 fk_X6_135 rfl (S _ _ rfl) (R _ _ _ rfl) ?_
                refine Rp.iload dX6_areDone_68 rfl ?_
                first | ((with_reducible show Rp _ _ _ _ (.int (nI _) :: _) _ _); refine Rp.ialoadN dX6_areDone_70 (S _ _ rfl) (by omega) ?_) | refine Rp.iaload dX6_areDone_70 (S _ _ rfl) (by first | assumption | exact vpb (by decide)) ?_
                first | rw [m3] | rw [ek] | rw [ed] | skip
                refine Rp.iload_n dX6_areDone_71 rfl ?_
                first | ((with_reducible show Rp _ _ _ _ (.int (nI _) :: .int (nI _) :: _) _ _); refine Rp.icmp_leN (tgt := 77) dX6_areDone_72 (by decide) (by omega) (fun c72 => ?_) (fun c72 => ?_)) | refine Rp.icmp_le (tgt := 77) dX6_areDone_72 (by decide) (fun c72 => ?_) (fun c72 => ?_)
                · skip
                  first | (exfalso; omega) | exact absurd c72 (by decide) | exact absurd (by decide) c72
                · skip
                  refine Rp.iconst (nI 0) dX6_areDone_75 (by decide) ?_
                  refine Rp.zreturn dX6_areDone_76 rfl (by first | exact Or.inl rfl | exact Or.inr rfl | assumption) ?_
                  exact ⟨rfl, rfl⟩
theorem t_areDone {g : AH} (I : DeI h0 g K fl np nt nd) (B : KB K) (VDd : VD K nd) (VNn : VN K nt) {mi u : Nat} (hmi : mi < 1000) : Rp (d + 4) M_X6_areDone 0 [some (.ref 52), some (.int (nI u)), some (.int (nI mi)), none, none] [] g (fun r h' => DeI h0 h' K fl np nt nd ∧ r = some (.int (b2i (dmB K fl nd np nt (nI mi) u)))) := by
  obtain ⟨S, R, J, M, D, L, FF⟩ := id I
  have v1 := M.1.1
  have v2 := M.1.2.1
  have j40 : gR g 40 3 = some 1 := J.1
  have DBg : DB g 1 K np nt nd K 8 := ⟨S, R, by decide, B, D, VDd, VNn, v1, M.2.2.2.1, Or.inl rfl, fun t ht => M.2.2.2.2.2 t (by omega)⟩
  have py := t_play d (st := fun e => bitB (nI u) (nI e)) (fl := fl) DBg L J (op := nI u) (fun e he => rfl)
  refine Rp.aload_n dX6_areDone_0 rfl rfl ?_
  refine Rp.getR dX6_areDone_1 fk_X6_27 rfl (S _ _ rfl) (R _ _ _ rfl) ?_
  refine Rp.getR dX6_areDone_4 fk_X6_86 rfl (S _ _ rfl) j40 ?_
  refine Rp.ast3 dX6_areDone_7 (by first | exact nl2_some rfl | exact nl2_none) (by decide) ?_
  refine Rp.aload_n dX6_areDone_8 rfl rfl ?_
  refine Rp.getR dX6_areDone_9 fk_X6_31 rfl (S _ _ rfl) (R _ _ _ rfl) ?_
  refine Rp.aload_n dX6_areDone_12 rfl rfl ?_
  refine Rp.getR dX6_areDone_13 fk_X6_27 rfl (S _ _ rfl) (R _ _ _ rfl) ?_
  refine Rp.aload_n dX6_areDone_16 rfl rfl ?_
  refine Rp.getR dX6_areDone_17 fk_X6_105 rfl (S _ _ rfl) (R _ _ _ rfl) ?_
  refine Rp.iload_n dX6_areDone_20 rfl ?_
  refine Rp.callV3 M_X1_play (ci := 1) dX6_areDone_21 mo_X1_play lk_X6_118 (by decide) rfl rfl (S _ _ rfl) (Nat.le_of_ble_eq_true rfl) (Nat.le_of_ble_eq_true rfl) (py) (fun v1 h1 p1 x1 => ?_)
  obtain ⟨rfl, F1, J1, Y1⟩ := p1
  try dsimp only [Option.toList, List.cons_append, List.nil_append, List.append]
  skip
  have I1 := I.fr F1 J1
  have k27 := areDone27 d (u := u) I1 Y1 (fun p => dayF_DP 100 p) VDd.1 hmi np 0 (by omega) rfl
  have k27 := Rp.mono (Q := fun r h' => DeI h0 h' K fl np nt nd ∧ r = some (.int (b2i (dmB K fl nd np nt (nI mi) u)))) (fun r h' z => ⟨by rw [z.1]; exact I1, z.2⟩) k27
  refine Rp.iconst (nI 0) dX6_areDone_24 (by decide) ?_
  refine Rp.ist4 dX6_areDone_25 (by first | exact nl2_some rfl | exact nl2_none) (by decide) ?_
  exact k27
end De
