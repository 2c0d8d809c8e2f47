theorem tlN_lt {vb lo hi wo : Nat} {w : Nat → Int32} : ∀ (L : List CLE) (a1 : Nat) (a2 : Option Int), a1 = (match a2 with | none => wo | some y => clmp lo hi y) → L.foldl (fun a e => tlS (vb + 1) lo hi w a e.2.2.2.2) a1 = (match L.foldl (fun acc e => ltS vb w acc e) a2 with | none => wo | some y => clmp lo hi y)
  | [], a1, a2, h => h
  | e :: L, a1, a2, h => by
    rw [List.foldl_cons, List.foldl_cons]
    refine tlN_lt L _ _ ?_
    unfold tlS ltS
    by_cases q : e.2.2.2.2.1 = vb ∧ clH e.2.2.2.2 w = true
    · rw [if_pos ⟨by omega, q.2⟩, if_pos q]
      match clV e.2.2.2.2 w with
      | none => exact h
      | some y => rfl
    · rw [if_neg (fun z => q ⟨by omega, z.2⟩), if_neg q]; exact h
theorem tlO_lt {fl : Option (List CLE)} {vb lo hi wo : Nat} {w : Nat → Int32} : tlO fl (vb + 1) lo hi w wo = (match ltF fl vb w with | none => wo | some y => clmp lo hi y) := by
  match fl with
  | none => rfl
  | some L => exact tlN_lt L wo none rfl
theorem tlN_an {vb : Nat} {w : Nat → Int32} : ∀ (L : List CLE) (b : Bool), (∀ e ∈ L, e.2.2.2.2.1 = vb → clV e.2.2.2.2 w = some 1) → L.foldl (fun a e => tlS (vb + 1) 0 1 w a e.2.2.2.2) (if b then 1 else 0) = (if b || L.any (anS vb w) then 1 else 0)
  | [], b, _ => by rw [List.any_nil, Bool.or_false]; rfl
  | e :: L, b, h => by
    rw [List.foldl_cons, List.any_cons, ← Bool.or_assoc]
    have ih := tlN_an L (b || anS vb w e) (fun x hx => h x (List.mem_cons_of_mem _ hx))
    rw [← ih]
    congr 1
    unfold tlS anS
    by_cases q : e.2.2.2.2.1 = vb ∧ clH e.2.2.2.2 w = true
    · rw [if_pos ⟨by omega, q.2⟩, h e (List.mem_cons_self ..) q.1, decide_eq_true q.1, q.2]
      cases b <;> rfl
    · rw [if_neg (fun z => q ⟨by omega, z.2⟩)]
      have : (decide (e.2.2.2.2.1 = vb) && clH e.2.2.2.2 w) = false := by
        rw [Bool.and_eq_false_iff]
        by_cases z : e.2.2.2.2.1 = vb
        · exact Or.inr (Bool.eq_false_iff.mpr (fun y => q ⟨z, y⟩))
        · exact Or.inl (decide_eq_false z)
      rw [this, Bool.or_false]
theorem clV_1 {ord : Bool} {c v : Nat → Nat} {A : List (Nat × Nat)} {e : CLE} (h : CeOK false c v A e) {vb : Nat} (hv : 1 < vb) (he : e.2.2.2.2.1 = vb) (w : Nat → Int32) : clV e.2.2.2.2 w = some 1 := by
  have : e.2.2.2.2.2.2.1 = none := h.2.1.mp (by rw [if_neg (by decide), he]; exact hv)
  unfold clV; rw [show e.2.2.2.2.2.2.1 = none from this]
theorem tlO_an {h : AH} {fl : Option (List CLE)} (J : JL h fl) {vb : Nat} (hv : 1 < vb) {w : Nat → Int32} : decide (tlO fl (vb + 1) 0 1 w 0 = 1) = anF fl vb w := by
  match fl, J with
  | none, J => rfl
  | some L, J =>
    obtain ⟨tx, kh, kc, nh, nc, hl, T⟩ := J
    obtain ⟨c, v, hC⟩ := T.2.2.2.2.2.2.2.2.2.2.2
    have q := tlN_an (vb := vb) (w := w) L false (fun e he z => clV_1 (ord := false) (hC e he) hv z w)
    rw [Bool.false_or] at q
    show decide (tlN (vb + 1) 0 1 w 0 L = 1) = L.any (anS vb w)
    rw [show tlN (vb + 1) 0 1 w 0 L = (if L.any (anS vb w) then 1 else 0) from q]
    cases L.any (anS vb w) <;> rfl
theorem clmp_mm {lo hi : Nat} {y : Int} (h1 : lo ≤ hi) (h2 : hi < 1000) (hy : -1000000000 ≤ y ∧ y ≤ 1000000000) : (if nI lo < (if nI hi < Int32.ofInt y then nI hi else Int32.ofInt y) then (if nI hi < Int32.ofInt y then nI hi else Int32.ofInt y) else nI lo) = nI (clmp lo hi y) := by
  have e := i32_of hy
  have q1 : nI hi < Int32.ofInt y ↔ (hi : Int) < y := by rw [i32_lt, nI_toInt (by omega), e]
  have q2 : nI lo < Int32.ofInt y ↔ (lo : Int) < y := by rw [i32_lt, nI_toInt (by omega), e]
  have q3 : nI lo < nI hi ↔ lo < hi := by rw [i32_lt, nI_toInt (by omega), nI_toInt (by omega)]; omega
  unfold clmp
  by_cases a : (hi : Int) < y
  · rw [if_pos (q1.mpr a), if_neg (show ¬ y < (lo : Int) by omega), if_pos a]
    by_cases b : lo < hi
    · rw [if_pos (q3.mpr b)]
    · rw [if_neg (fun z => b (q3.mp z)), show lo = hi by omega]
  · rw [if_neg (fun z => a (q1.mp z)), if_neg a]
    by_cases b : (lo : Int) < y
    · rw [if_pos (q2.mpr b), if_neg (by omega), i32_eq, e, nI_toInt (by omega)]; omega
    · rw [if_neg (fun z => b (q2.mp z))]
      by_cases z : y < (lo : Int)
      · rw [if_pos z]
      · rw [if_neg z, show y.toNat = lo by omega]
def wX (k j : Nat) : Bool := k == 43 && decide (j < 9)
/-- what the judge reads of a hall -/
def HJ (h : AH) (b : Nat) (K : Nat → Int32) : Prop := (b = 1 ∨ b = 17) ∧ HOK h b ∧ (∀ p, p < 6 → gI h (b + 1) p = K (7 + p)) ∧ (∀ p, p < 6 → gI h (b + 2) p = K (13 + p)) ∧ (∀ t, t < 8 → gI h (b + 5) t = K (67 + t)) ∧ (∀ t, t < 8 → gI h (b + 6) t = K (75 + t)) ∧ (∀ e, e < 3 → gI h (b + 9) e = K (86 + e)) ∧ gI h (b + 12) 0 = K 6 ∧ gI h (b + 12) 2 = K 102
theorem HJ.fr {X : Nat → Nat → Bool} {h g : AH} {b : Nat} {K : Nat → Int32} (J : HJ h b K) (F : Fr X h g) (hx : ∀ k j, k < 33 → X k j = false) : HJ g b K := by
  obtain ⟨j0, ⟨a1, a2⟩, j1, j2, j3, j4, j5, j6, j7⟩ := J
  have hb : b ≤ 17 := by omega
  refine ⟨j0, ⟨fun o q hq => by rw [F.1]; exact a1 o q hq, fun o j a ha => ?_⟩, fun p hp => (F.I _ _ (hx _ _ (by omega))).trans (j1 p hp), fun p hp => (F.I _ _ (hx _ _ (by omega))).trans (j2 p hp), fun p hp => (F.I _ _ (hx _ _ (by omega))).trans (j3 p hp), fun p hp => (F.I _ _ (hx _ _ (by omega))).trans (j4 p hp), fun p hp => (F.I _ _ (hx _ _ (by omega))).trans (j5 p hp), (F.I _ _ (hx _ _ (by omega))).trans j6, (F.I _ _ (hx _ _ (by omega))).trans j7⟩
  have ho : o < 16 := by
    by_cases z : o < 16
    · exact z
    · rw [show hrf.getD o [] = [] by rw [List.getD_eq_getElem?_getD, List.getElem?_eq_none (by show hrf.length ≤ o; exact Nat.le_of_not_lt z)]; rfl] at ha
      cases ha
  exact (F.Rr _ _ (hx _ _ (by omega))).trans (a2 o j a ha)
def WsI (h g : AH) (w : Nat → Int32) (n : Nat) : Prop := Fr wX h g ∧ ∀ k, k < n → gI g 43 k = w k
theorem WsI.step {h g : AH} {w : Nat → Int32} {n : Nat} (I : WsI h g w n) (hn : n < 9) {x : Int32} (hx : x = w n) : WsI h (sI g 43 n x) w (n + 1) := ⟨I.1.sI (by unfold wX; simp [hn]), fun k hk => by
  by_cases z : k = n
  · subst z; rw [gI_hit]; exact hx
  · rw [gI_off _ _ _ z]; exact I.2 k (by omega)⟩
theorem wX_lt {k j : Nat} (h : k < 33) : wX k j = false := by
  unfold wX; rw [show (k == 43) = false from beq_eq_false_iff_ne.mpr (by omega)]; rfl
/-- the words that speakOf lays -/
def wS (K : Nat → Int32) (p : Nat) (t : Option Nat) (sp : Int32) : Nat → Int32 := fun j => if j = 6 then sp else wJ K p t none j
section Spk
variable (d : Nat) {h : AH}

theorem spk0 {P : Option Value → AH → Prop} (S0 : ShOK h) (R0 : RfOK h) {b : Nat} {K : Nat → Int32} (J0 : HJ h b K) (hj0 : gR h 40 3 = some b) {p : Nat} (hp : p < 6) {t : Option Nat} (ht : ∀ x, t = some x → x < 8) (sp : Int32) {g : AH} (I : WsI h g (wS K p t sp) 0) (kk : ∀ g', WsI h g' (wS K p t sp) 1 → Rp d M_X3_speakOf 7 [some (.ref 40), some (.int (nI p)), some (.int (oI t)), some (.int sp)] [] g' P) : Rp d M_X3_speakOf 0 [some (.ref 40), some (.int (nI p)), some (.int (oI t)), some (.int sp)] [] g P := by
  have S := I.1.S S0
  have R := I.1.R R0 (by decide)
  have J := J0.fr I.1 (fun k j hk => wX_lt hk)
  have hj : gR g 40 3 = some b := (I.1.Rr 40 3 rfl).trans hj0
  have A := J.2.1
  refine Rp.aload_n dX3_speakOf_0 rfl rfl ?_
  refine Rp.getR dX3_speakOf_1 fk_X3_18 rfl (S _ _ rfl) (R _ _ _ rfl) ?_
  refine Rp.iconst (nI 0) dX3_speakOf_4 (by decide) ?_
  refine Rp.iload_n dX3_speakOf_5 rfl ?_
  first | ((with_reducible show Rp _ _ _ _ (_ :: .int (nI _) :: _) _ _); refine Rp.iastoreN dX3_speakOf_6 (S _ _ rfl) (by omega) ?_) | refine Rp.iastore dX3_speakOf_6 (S _ _ rfl) (by first | assumption | exact vpb (by decide)) ?_
  exact kk _ (I.step (by decide) rfl)

theorem spk1 {P : Option Value → AH → Prop} (S0 : ShOK h) (R0 : RfOK h) {b : Nat} {K : Nat → Int32} (J0 : HJ h b K) (hj0 : gR h 40 3 = some b) {p : Nat} (hp : p < 6) {t : Option Nat} (ht : ∀ x, t = some x → x < 8) (sp : Int32) {g : AH} (I : WsI h g (wS K p t sp) 1) (kk : ∀ g', WsI h g' (wS K p t sp) 2 → Rp d M_X3_speakOf 22 [some (.ref 40), some (.int (nI p)), some (.int (oI t)), some (.int sp)] [] g' P) : Rp d M_X3_speakOf 7 [some (.ref 40), some (.int (nI p)), some (.int (oI t)), some (.int sp)] [] g P := by
  have S := I.1.S S0
  have R := I.1.R R0 (by decide)
  have J := J0.fr I.1 (fun k j hk => wX_lt hk)
  have hj : gR g 40 3 = some b := (I.1.Rr 40 3 rfl).trans hj0
  have A := J.2.1
  have ev := J.2.2.1 p hp
  refine Rp.aload_n dX3_speakOf_7 rfl rfl ?_
  refine Rp.getR dX3_speakOf_8 fk_X3_18 rfl (S _ _ rfl) (R _ _ _ rfl) ?_
  refine Rp.iconst (nI 1) dX3_speakOf_11 (by decide) ?_
  refine Rp.aload_n dX3_speakOf_12 rfl rfl ?_
  refine Rp.getR dX3_speakOf_13 fk_X3_25 rfl (S _ _ rfl) hj ?_
  refine Rp.getR dX3_speakOf_16 fk_X3_65 rfl (A.1 0 _ rfl) (A.2 0 1 1 rfl) ?_
  refine Rp.iload_n dX3_speakOf_19 rfl ?_
  first | ((with_reducible show Rp _ _ _ _ (.int (nI _) :: _) _ _); refine Rp.ialoadN dX3_speakOf_20 (A.1 1 _ rfl) (by omega) ?_) | refine Rp.iaload dX3_speakOf_20 (A.1 1 _ rfl) (by first | assumption | exact vpb (by decide)) ?_
  first | rw [ev] | skip
  first | ((with_reducible show Rp _ _ _ _ (_ :: .int (nI _) :: _) _ _); refine Rp.iastoreN dX3_speakOf_21 (S _ _ rfl) (by omega) ?_) | refine Rp.iastore dX3_speakOf_21 (S _ _ rfl) (by first | assumption | exact vpb (by decide)) ?_
  exact kk _ (I.step (by decide) rfl)

theorem spk2 {P : Option Value → AH → Prop} (S0 : ShOK h) (R0 : RfOK h) {b : Nat} {K : Nat → Int32} (J0 : HJ h b K) (hj0 : gR h 40 3 = some b) {p : Nat} (hp : p < 6) {t : Option Nat} (ht : ∀ x, t = some x → x < 8) (sp : Int32) {g : AH} (I : WsI h g (wS K p t sp) 2) (kk : ∀ g', WsI h g' (wS K p t sp) 3 → Rp d M_X3_speakOf 37 [some (.ref 40), some (.int (nI p)), some (.int (oI t)), some (.int sp)] [] g' P) : Rp d M_X3_speakOf 22 [some (.ref 40), some (.int (nI p)), some (.int (oI t)), some (.int sp)] [] g P := by
  have S := I.1.S S0
  have R := I.1.R R0 (by decide)
  have J := J0.fr I.1 (fun k j hk => wX_lt hk)
  have hj : gR g 40 3 = some b := (I.1.Rr 40 3 rfl).trans hj0
  have A := J.2.1
  have ev := J.2.2.2.1 p hp
  refine Rp.aload_n dX3_speakOf_22 rfl rfl ?_
  refine Rp.getR dX3_speakOf_23 fk_X3_18 rfl (S _ _ rfl) (R _ _ _ rfl) ?_
  refine Rp.iconst (nI 2) dX3_speakOf_26 (by decide) ?_
  refine Rp.aload_n dX3_speakOf_27 rfl rfl ?_
  refine Rp.getR dX3_speakOf_28 fk_X3_25 rfl (S _ _ rfl) hj ?_
  refine Rp.getR dX3_speakOf_31 fk_X3_72 rfl (A.1 0 _ rfl) (A.2 0 2 2 rfl) ?_
  refine Rp.iload_n dX3_speakOf_34 rfl ?_
  first | ((with_reducible show Rp _ _ _ _ (.int (nI _) :: _) _ _); refine Rp.ialoadN dX3_speakOf_35 (A.1 2 _ rfl) (by omega) ?_) | refine Rp.iaload dX3_speakOf_35 (A.1 2 _ rfl) (by first | assumption | exact vpb (by decide)) ?_
  first | rw [ev] | skip
  first | ((with_reducible show Rp _ _ _ _ (_ :: .int (nI _) :: _) _ _); refine Rp.iastoreN dX3_speakOf_36 (S _ _ rfl) (by omega) ?_) | refine Rp.iastore dX3_speakOf_36 (S _ _ rfl) (by first | assumption | exact vpb (by decide)) ?_
  exact kk _ (I.step (by decide) rfl)

theorem spk3 {P : Option Value → AH → Prop} (S0 : ShOK h) (R0 : RfOK h) {b : Nat} {K : Nat → Int32} (J0 : HJ h b K) (hj0 : gR h 40 3 = some b) {p : Nat} (hp : p < 6) {t : Option Nat} (ht : ∀ x, t = some x → x < 8) (sp : Int32) {g : AH} (I : WsI h g (wS K p t sp) 3) (kk : ∀ g', WsI h g' (wS K p t sp) 4 → Rp d M_X3_speakOf 44 [some (.ref 40), some (.int (nI p)), some (.int (oI t)), some (.int sp)] [] g' P) : Rp d M_X3_speakOf 37 [some (.ref 40), some (.int (nI p)), some (.int (oI t)), some (.int sp)] [] g P := by
  have S := I.1.S S0
  have R := I.1.R R0 (by decide)
  have J := J0.fr I.1 (fun k j hk => wX_lt hk)
  have hj : gR g 40 3 = some b := (I.1.Rr 40 3 rfl).trans hj0
  have A := J.2.1
  refine Rp.aload_n dX3_speakOf_37 rfl rfl ?_
  refine Rp.getR dX3_speakOf_38 fk_X3_18 rfl (S _ _ rfl) (R _ _ _ rfl) ?_
  refine Rp.iconst (nI 3) dX3_speakOf_41 (by decide) ?_
  refine Rp.iload_n dX3_speakOf_42 rfl ?_
  first | ((with_reducible show Rp _ _ _ _ (_ :: .int (nI _) :: _) _ _); refine Rp.iastoreN dX3_speakOf_43 (S _ _ rfl) (by omega) ?_) | refine Rp.iastore dX3_speakOf_43 (S _ _ rfl) (by first | assumption | exact vpb (by decide)) ?_
  exact kk _ (I.step (by decide) rfl)

theorem spk4 {P : Option Value → AH → Prop} (S0 : ShOK h) (R0 : RfOK h) {b : Nat} {K : Nat → Int32} (J0 : HJ h b K) (hj0 : gR h 40 3 = some b) {p : Nat} (hp : p < 6) {t : Option Nat} (ht : ∀ x, t = some x → x < 8) (sp : Int32) {g : AH} (I : WsI h g (wS K p t sp) 4) (kk : ∀ g', WsI h g' (wS K p t sp) 5 → Rp d M_X3_speakOf 67 [some (.ref 40), some (.int (nI p)), some (.int (oI t)), some (.int sp)] [] g' P) : Rp d M_X3_speakOf 44 [some (.ref 40), some (.int (nI p)), some (.int (oI t)), some (.int sp)] [] g P := by
  have S := I.1.S S0
  have R := I.1.R R0 (by decide)
  have J := J0.fr I.1 (fun k j hk => wX_lt hk)
  have hj : gR g 40 3 = some b := (I.1.Rr 40 3 rfl).trans hj0
  have A := J.2.1
  match t, ht, I, kk with
  | none, ht, I, kk =>
    dsimp only [oI]
    refine Rp.aload_n dX3_speakOf_44 rfl rfl ?_
    refine Rp.getR dX3_speakOf_45 fk_X3_18 rfl (S _ _ rfl) (R _ _ _ rfl) ?_
    refine Rp.iconst (nI 4) dX3_speakOf_48 (by decide) ?_
    refine Rp.iload_n dX3_speakOf_49 rfl ?_
    refine Rp.if_ge (tgt := 57) dX3_speakOf_50 (by decide) (fun c50 => ?_) (fun c50 => ?_)
    · skip
      exact absurd c50 (by decide)
    · skip
      refine Rp.iconst (-1) dX3_speakOf_53 (by decide) ?_
      refine Rp.goto (tgt := 66) dX3_speakOf_54 (by decide) ?_
      first | ((with_reducible show Rp _ _ _ _ (_ :: .int (nI _) :: _) _ _); refine Rp.iastoreN dX3_speakOf_66 (S _ _ rfl) (by omega) ?_) | refine Rp.iastore dX3_speakOf_66 (S _ _ rfl) (by first | assumption | exact vpb (by decide)) ?_
      exact kk _ (I.step (by decide) rfl)
  | some u, ht, I, kk =>
    have hu := ht u rfl
    have n0 : (0 : Int32) ≤ nI u := by rw [i32_le, nI_toInt (by omega)]; exact Int.natCast_nonneg _
    have ev := J.2.2.2.2.1 u hu
    dsimp only [oI]
    refine Rp.aload_n dX3_speakOf_44 rfl rfl ?_
    refine Rp.getR dX3_speakOf_45 fk_X3_18 rfl (S _ _ rfl) (R _ _ _ rfl) ?_
    refine Rp.iconst (nI 4) dX3_speakOf_48 (by decide) ?_
    refine Rp.iload_n dX3_speakOf_49 rfl ?_
    refine Rp.if_ge (tgt := 57) dX3_speakOf_50 (by decide) (fun c50 => ?_) (fun c50 => ?_)
    · skip
      refine Rp.aload_n dX3_speakOf_57 rfl rfl ?_
      refine Rp.getR dX3_speakOf_58 fk_X3_25 rfl (S _ _ rfl) hj ?_
      refine Rp.getR dX3_speakOf_61 fk_X3_75 rfl (A.1 0 _ rfl) (A.2 0 6 5 rfl) ?_
      refine Rp.iload_n dX3_speakOf_64 rfl ?_
      first | ((with_reducible show Rp _ _ _ _ (.int (nI _) :: _) _ _); refine Rp.ialoadN dX3_speakOf_65 (A.1 5 _ rfl) (by omega) ?_) | refine Rp.iaload dX3_speakOf_65 (A.1 5 _ rfl) (by first | assumption | exact vpb (by decide)) ?_
      first | rw [ev] | skip
      first | ((with_reducible show Rp _ _ _ _ (_ :: .int (nI _) :: _) _ _); refine Rp.iastoreN dX3_speakOf_66 (S _ _ rfl) (by omega) ?_) | refine Rp.iastore dX3_speakOf_66 (S _ _ rfl) (by first | assumption | exact vpb (by decide)) ?_
      exact kk _ (I.step (by decide) rfl)
    · skip
      exact absurd n0 c50

theorem spk5 {P : Option Value → AH → Prop} (S0 : ShOK h) (R0 : RfOK h) {b : Nat} {K : Nat → Int32} (J0 : HJ h b K) (hj0 : gR h 40 3 = some b) {p : Nat} (hp : p < 6) {t : Option Nat} (ht : ∀ x, t = some x → x < 8) (sp : Int32) {g : AH} (I : WsI h g (wS K p t sp) 5) (kk : ∀ g', WsI h g' (wS K p t sp) 6 → Rp d M_X3_speakOf 90 [some (.ref 40), some (.int (nI p)), some (.int (oI t)), some (.int sp)] [] g' P) : Rp d M_X3_speakOf 67 [some (.ref 40), some (.int (nI p)), some (.int (oI t)), some (.int sp)] [] g P := by
  have S := I.1.S S0
  have R := I.1.R R0 (by decide)
  have J := J0.fr I.1 (fun k j hk => wX_lt hk)
  have hj : gR g 40 3 = some b := (I.1.Rr 40 3 rfl).trans hj0
  have A := J.2.1
  match t, ht, I, kk with
  | none, ht, I, kk =>
    dsimp only [oI]
    refine Rp.aload_n dX3_speakOf_67 rfl rfl ?_
    refine Rp.getR dX3_speakOf_68 fk_X3_18 rfl (S _ _ rfl) (R _ _ _ rfl) ?_
    refine Rp.iconst (nI 5) dX3_speakOf_71 (by decide) ?_
    refine Rp.iload_n dX3_speakOf_72 rfl ?_
    refine Rp.if_ge (tgt := 80) dX3_speakOf_73 (by decide) (fun c73 => ?_) (fun c73 => ?_)
    · skip
      exact absurd c73 (by decide)
    · skip
      refine Rp.iconst (-1) dX3_speakOf_76 (by decide) ?_
      refine Rp.goto (tgt := 89) dX3_speakOf_77 (by decide) ?_
      first | ((with_reducible show Rp _ _ _ _ (_ :: .int (nI _) :: _) _ _); refine Rp.iastoreN dX3_speakOf_89 (S _ _ rfl) (by omega) ?_) | refine Rp.iastore dX3_speakOf_89 (S _ _ rfl) (by first | assumption | exact vpb (by decide)) ?_
      exact kk _ (I.step (by decide) rfl)
  | some u, ht, I, kk =>
    have hu := ht u rfl
    have n0 : (0 : Int32) ≤ nI u := by rw [i32_le, nI_toInt (by omega)]; exact Int.natCast_nonneg _
    have ev := J.2.2.2.2.2.1 u hu
    dsimp only [oI]
    refine Rp.aload_n dX3_speakOf_67 rfl rfl ?_
    refine Rp.getR dX3_speakOf_68 fk_X3_18 rfl (S _ _ rfl) (R _ _ _ rfl) ?_
    refine Rp.iconst (nI 5) dX3_speakOf_71 (by decide) ?_
    refine Rp.iload_n dX3_speakOf_72 rfl ?_
    refine Rp.if_ge (tgt := 80) dX3_speakOf_73 (by decide) (fun c73 => ?_) (fun c73 => ?_)
    · skip
      refine Rp.aload_n dX3_speakOf_80 rfl rfl ?_
      refine Rp.getR dX3_speakOf_81 fk_X3_25 rfl (S _ _ rfl) hj ?_
      refine Rp.getR dX3_speakOf_84 fk_X3_62 rfl (A.1 0 _ rfl) (A.2 0 7 6 rfl) ?_
      refine Rp.iload_n dX3_speakOf_87 rfl ?_
      first | ((with_reducible show Rp _ _ _ _ (.int (nI _) :: _) _ _); refine Rp.ialoadN dX3_speakOf_88 (A.1 6 _ rfl) (by omega) ?_) | refine Rp.iaload dX3_speakOf_88 (A.1 6 _ rfl) (by first | assumption | exact vpb (by decide)) ?_
      first | rw [ev] | skip
      first | ((with_reducible show Rp _ _ _ _ (_ :: .int (nI _) :: _) _ _); refine Rp.iastoreN dX3_speakOf_89 (S _ _ rfl) (by omega) ?_) | refine Rp.iastore dX3_speakOf_89 (S _ _ rfl) (by first | assumption | exact vpb (by decide)) ?_
      exact kk _ (I.step (by decide) rfl)
    · skip
      exact absurd n0 c73

theorem spk6 {P : Option Value → AH → Prop} (S0 : ShOK h) (R0 : RfOK h) {b : Nat} {K : Nat → Int32} (J0 : HJ h b K) (hj0 : gR h 40 3 = some b) {p : Nat} (hp : p < 6) {t : Option Nat} (ht : ∀ x, t = some x → x < 8) (sp : Int32) {g : AH} (I : WsI h g (wS K p t sp) 6) (kk : ∀ g', WsI h g' (wS K p t sp) 7 → Rp d M_X3_speakOf 98 [some (.ref 40), some (.int (nI p)), some (.int (oI t)), some (.int sp)] [] g' P) : Rp d M_X3_speakOf 90 [some (.ref 40), some (.int (nI p)), some (.int (oI t)), some (.int sp)] [] g P := by
  have S := I.1.S S0
  have R := I.1.R R0 (by decide)
  have J := J0.fr I.1 (fun k j hk => wX_lt hk)
  have hj : gR g 40 3 = some b := (I.1.Rr 40 3 rfl).trans hj0
  have A := J.2.1
  refine Rp.aload_n dX3_speakOf_90 rfl rfl ?_
  refine Rp.getR dX3_speakOf_91 fk_X3_18 rfl (S _ _ rfl) (R _ _ _ rfl) ?_
  refine Rp.bipush (nI 6) dX3_speakOf_94 (by decide) ?_
  refine Rp.iload_n dX3_speakOf_96 rfl ?_
  first | ((with_reducible show Rp _ _ _ _ (_ :: .int (nI _) :: _) _ _); refine Rp.iastoreN dX3_speakOf_97 (S _ _ rfl) (by omega) ?_) | refine Rp.iastore dX3_speakOf_97 (S _ _ rfl) (by first | assumption | exact vpb (by decide)) ?_
  exact kk _ (I.step (by decide) rfl)

theorem spk7 {P : Option Value → AH → Prop} (S0 : ShOK h) (R0 : RfOK h) {b : Nat} {K : Nat → Int32} (J0 : HJ h b K) (hj0 : gR h 40 3 = some b) {p : Nat} (hp : p < 6) {t : Option Nat} (ht : ∀ x, t = some x → x < 8) (sp : Int32) {g : AH} (I : WsI h g (wS K p t sp) 7) (kk : ∀ g', WsI h g' (wS K p t sp) 8 → Rp d M_X3_speakOf 114 [some (.ref 40), some (.int (nI p)), some (.int (oI t)), some (.int sp)] [] g' P) : Rp d M_X3_speakOf 98 [some (.ref 40), some (.int (nI p)), some (.int (oI t)), some (.int sp)] [] g P := by
  have S := I.1.S S0
  have R := I.1.R R0 (by decide)
  have J := J0.fr I.1 (fun k j hk => wX_lt hk)
  have hj : gR g 40 3 = some b := (I.1.Rr 40 3 rfl).trans hj0
  have A := J.2.1
  have ev := J.2.2.2.2.2.2.2.1
  refine Rp.aload_n dX3_speakOf_98 rfl rfl ?_
  refine Rp.getR dX3_speakOf_99 fk_X3_18 rfl (S _ _ rfl) (R _ _ _ rfl) ?_
  refine Rp.bipush (nI 7) dX3_speakOf_102 (by decide) ?_
  refine Rp.aload_n dX3_speakOf_104 rfl rfl ?_
  refine Rp.getR dX3_speakOf_105 fk_X3_25 rfl (S _ _ rfl) hj ?_
  refine Rp.getR dX3_speakOf_108 fk_X3_78 rfl (A.1 0 _ rfl) (A.2 0 15 12 rfl) ?_
  refine Rp.iconst (nI 0) dX3_speakOf_111 (by decide) ?_
  first | ((with_reducible show Rp _ _ _ _ (.int (nI _) :: _) _ _); refine Rp.ialoadN dX3_speakOf_112 (A.1 12 _ rfl) (by omega) ?_) | refine Rp.iaload dX3_speakOf_112 (A.1 12 _ rfl) (by first | assumption | exact vpb (by decide)) ?_
  first | rw [ev] | skip
  first | ((with_reducible show Rp _ _ _ _ (_ :: .int (nI _) :: _) _ _); refine Rp.iastoreN dX3_speakOf_113 (S _ _ rfl) (by omega) ?_) | refine Rp.iastore dX3_speakOf_113 (S _ _ rfl) (by first | assumption | exact vpb (by decide)) ?_
  exact kk _ (I.step (by decide) rfl)

theorem spk8 {P : Option Value → AH → Prop} (S0 : ShOK h) (R0 : RfOK h) {b : Nat} {K : Nat → Int32} (J0 : HJ h b K) (hj0 : gR h 40 3 = some b) {p : Nat} (hp : p < 6) {t : Option Nat} (ht : ∀ x, t = some x → x < 8) (sp : Int32) {g : AH} (I : WsI h g (wS K p t sp) 8) (kk : ∀ g', WsI h g' (wS K p t sp) 9 → P none g') : Rp d M_X3_speakOf 114 [some (.ref 40), some (.int (nI p)), some (.int (oI t)), some (.int sp)] [] g P := by
  have S := I.1.S S0
  have R := I.1.R R0 (by decide)
  have J := J0.fr I.1 (fun k j hk => wX_lt hk)
  have hj : gR g 40 3 = some b := (I.1.Rr 40 3 rfl).trans hj0
  have A := J.2.1
  have ev := J.2.2.2.2.2.2.2.2
  refine Rp.aload_n dX3_speakOf_114 rfl rfl ?_
  refine Rp.getR dX3_speakOf_115 fk_X3_18 rfl (S _ _ rfl) (R _ _ _ rfl) ?_
  refine Rp.bipush (nI 8) dX3_speakOf_118 (by decide) ?_
  refine Rp.aload_n dX3_speakOf_120 rfl rfl ?_
  refine Rp.getR dX3_speakOf_121 fk_X3_25 rfl (S _ _ rfl) hj ?_
  refine Rp.getR dX3_speakOf_124 fk_X3_78 rfl (A.1 0 _ rfl) (A.2 0 15 12 rfl) ?_
  refine Rp.iconst (nI 2) dX3_speakOf_127 (by decide) ?_
  first | ((with_reducible show Rp _ _ _ _ (.int (nI _) :: _) _ _); refine Rp.ialoadN dX3_speakOf_128 (A.1 12 _ rfl) (by omega) ?_) | refine Rp.iaload dX3_speakOf_128 (A.1 12 _ rfl) (by first | assumption | exact vpb (by decide)) ?_
  first | rw [ev] | skip
  first | ((with_reducible show Rp _ _ _ _ (_ :: .int (nI _) :: _) _ _); refine Rp.iastoreN dX3_speakOf_129 (S _ _ rfl) (by omega) ?_) | refine Rp.iastore dX3_speakOf_129 (S _ _ rfl) (by first | assumption | exact vpb (by decide)) ?_
  refine Rp.vreturn dX3_speakOf_130 rfl ?_
  exact kk _ (I.step (by decide) rfl)

theorem t_speak (S : ShOK h) (R : RfOK h) {b : Nat} {K : Nat → Int32} (J : HJ h b K) (hj : gR h 40 3 = some b) {p : Nat} (hp : p < 6) {t : Option Nat} (ht : ∀ x, t = some x → x < 8) (sp : Int32) (hz : ∀ j, 9 ≤ j → gI h 43 j = 0) : Rp d M_X3_speakOf 0 [some (.ref 40), some (.int (nI p)), some (.int (oI t)), some (.int sp)] [] h (fun r h' => r = none ∧ Fr wX h h' ∧ gI h' 43 = wS K p t sp) := by
  refine spk0 d S R J hj hp ht sp (g := h) ⟨Fr.rfl', fun k hk => absurd hk (Nat.not_lt_zero _)⟩ (fun g I => ?_)
  refine spk1 d S R J hj hp ht sp I (fun g I => ?_)
  refine spk2 d S R J hj hp ht sp I (fun g I => ?_)
  refine spk3 d S R J hj hp ht sp I (fun g I => ?_)
  refine spk4 d S R J hj hp ht sp I (fun g I => ?_)
  refine spk5 d S R J hj hp ht sp I (fun g I => ?_)
  refine spk6 d S R J hj hp ht sp I (fun g I => ?_)
  refine spk7 d S R J hj hp ht sp I (fun g I => ?_)
  refine spk8 d S R J hj hp ht sp I (fun g I => ?_)
  refine ⟨rfl, I.1, funext fun j => ?_⟩
  by_cases z : j < 9
  · exact I.2 j z
  · rw [I.1.I 43 j (by unfold wX; rw [decide_eq_false z]; rfl), hz j (by omega)]
    unfold wS
    rw [if_neg (by omega)]
    match j, z with
    | j + 9, _ => rfl
    | 0, z | 1, z | 2, z | 3, z | 4, z | 5, z | 6, z | 7, z | 8, z => exact absurd (by decide) z
end Spk
