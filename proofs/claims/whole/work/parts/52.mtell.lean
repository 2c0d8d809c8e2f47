theorem Rp.ist13 {d : Nat} {M : MT} {pc : Nat} {r : List (Option Value)} {st : List Value} {h : AH} {P : Option Value → AH → Prop} {a0 a1 a2 a3 a4 a5 a6 a7 a8 a9 a10 a11 a12 a13 : Option Value} {x : Int32} (hd : decode M.2.1 pc = .ok (.istore 13, 2)) (hp : nl2 a12) (hn : 13 < M.2.2.1) (k : Rp d M (pc + 2) (a0 :: a1 :: a2 :: a3 :: a4 :: a5 :: a6 :: a7 :: a8 :: a9 :: a10 :: a11 :: a12 :: some (.int x) :: r) st h P) : Rp d M pc (a0 :: a1 :: a2 :: a3 :: a4 :: a5 :: a6 :: a7 :: a8 :: a9 :: a10 :: a11 :: a12 :: a13 :: r) (.int x :: st) h P := by
  obtain ⟨v, h', k, p⟩ := k
  exact ⟨v, h', Rj.istore hd (fun o _ e => by have e := Option.some.inj e; exact e ▸ hp) hn k, p⟩
theorem Rp.ist14 {d : Nat} {M : MT} {pc : Nat} {r : List (Option Value)} {st : List Value} {h : AH} {P : Option Value → AH → Prop} {a0 a1 a2 a3 a4 a5 a6 a7 a8 a9 a10 a11 a12 a13 a14 : Option Value} {x : Int32} (hd : decode M.2.1 pc = .ok (.istore 14, 2)) (hp : nl2 a13) (hn : 14 < M.2.2.1) (k : Rp d M (pc + 2) (a0 :: a1 :: a2 :: a3 :: a4 :: a5 :: a6 :: a7 :: a8 :: a9 :: a10 :: a11 :: a12 :: a13 :: some (.int x) :: r) st h P) : Rp d M pc (a0 :: a1 :: a2 :: a3 :: a4 :: a5 :: a6 :: a7 :: a8 :: a9 :: a10 :: a11 :: a12 :: a13 :: a14 :: r) (.int x :: st) h P := by
  obtain ⟨v, h', k, p⟩ := k
  exact ⟨v, h', Rj.istore hd (fun o _ e => by have e := Option.some.inj e; exact e ▸ hp) hn k, p⟩
def oI : Option Nat → Int32 := fun t => match t with
  | none => -1
  | some t => nI t
/-- the words of a law, by their places in the class -/
def wJ (K : Nat → Int32) (p : Nat) (t e : Option Nat) : Nat → Int32 := fun j => match j with
  | 0 => nI p
  | 1 => K (7 + p)
  | 2 => K (13 + p)
  | 3 => oI t
  | 4 => (match t with | none => -1 | some t => K (67 + t))
  | 5 => (match t with | none => -1 | some t => K (75 + t))
  | 6 => (match e with | none => -1 | some e => K (86 + e))
  | 7 => K 6
  | 8 => K 102
  | _ => 0
def LawK (K : Nat → Int32) (l : Nat) (cls : List CLE) : Prop := ∃ (T : Nat) (c v : Nat → Nat) (f : Nat), T ≤ 400 ∧ c T = 0 ∧ K (109 + l) = nI T ∧ (∀ k, k < T → K (116 + (400 * l + k)) = nI (c k) ∧ K (2916 + (400 * l + k)) = nI (v k) ∧ c k < 1000 ∧ v k < 20000000) ∧ rdL false c v T f 12 0 0 0 = .ok cls
def clH (q : CLQ) (w : Nat → Int32) : Bool := match q.2.2.2.2 with
  | none => true
  | some x => decide (x.2 w 0 = some 1)
def clV (q : CLQ) (w : Nat → Int32) : Option Int := match q.2.2.1 with
  | none => some 1
  | some x => x.2 w 0
def clmp (lo hi : Nat) (y : Int) : Nat := if y < lo then lo else if (hi : Int) < y then hi else y.toNat
def tlS (hd lo hi : Nat) (w : Nat → Int32) (told : Nat) (q : CLQ) : Nat := if q.1 + 1 = hd ∧ clH q w = true then (match clV q w with
  | some y => clmp lo hi y
  | none => told) else told
def tlN (hd lo hi : Nat) (w : Nat → Int32) (told : Nat) (L : List CLE) : Nat := L.foldl (fun a e => tlS hd lo hi w a e.2.2.2.2) told
def tlO (fl : Option (List CLE)) (hd lo hi : Nat) (w : Nat → Int32) (wo : Nat) : Nat := match fl with
  | none => wo
  | some L => tlN hd lo hi w wo L
theorem clmp_le {lo hi : Nat} (h : lo ≤ hi) (y : Int) : lo ≤ clmp lo hi y ∧ clmp lo hi y ≤ hi := by
  unfold clmp
  split
  · omega
  · split <;> omega
theorem tlS_le {hd lo hi : Nat} {w : Nat → Int32} {told m : Nat} {q : CLQ} (h : lo ≤ hi) (h1 : told ≤ m) (h2 : hi ≤ m) : tlS hd lo hi w told q ≤ m := by
  unfold tlS
  split
  · split
    · rename_i y _
      have := (clmp_le h y).2
      omega
    · exact h1
  · exact h1
theorem clR_invF {c v : Nat → Nat} {f i lv a i' lv' : Nat} {cd : List (Nat × Nat)} {vb tm : Nat} {p q ts : PT} (h : clR false c v f i lv a = .ok (i', lv', cd, vb, tm, p, q, ts)) : c i = vb + 1 ∧ vb < 4 ∧ ∃ i1 lv1 a1, ((vb < 2 ∧ ∃ cd1 D1, Prs false c v f 7 0 (i + 1) lv a = .ok (i1, lv1, cd1, D1) ∧ p = some (a, D1)) ∨ (2 ≤ vb ∧ i1 = i + 1 ∧ lv1 = lv ∧ p = none)) ∧ ((c i1 = 5 ∧ ∃ cd2 D2, Prs false c v f 0 0 (i1 + 1) lv1 a1 = .ok (i', lv', cd2, D2) ∧ ts = some (a1, D2)) ∨ (c i1 ≠ 5 ∧ i' = i1 ∧ lv' = lv1 ∧ ts = none)) := by
  have hT : ∀ {i1 lv1 : Nat} {cd1 : List (Nat × Nat)} {vb1 : Nat} {p1 q1 : PT}, clT false c v f i1 lv1 a cd1 vb1 1 p1 q1 = .ok (i', lv', cd, vb, tm, p, q, ts) → vb1 = vb ∧ p1 = p ∧ ∃ a1, ((c i1 = 5 ∧ ∃ cd2 D2, Prs false c v f 0 0 (i1 + 1) lv1 a1 = .ok (i', lv', cd2, D2) ∧ ts = some (a1, D2)) ∨ (c i1 ≠ 5 ∧ i' = i1 ∧ lv' = lv1 ∧ ts = none)) := by
    intro i1 lv1 cd1 vb1 p1 q1 h
    unfold clT at h
    by_cases h5 : c i1 = 5
    · rw [if_pos h5] at h
      match hq : Prs false c v f 0 0 (i1 + 1) lv1 (a + cd1.length), h with
      | .ok (i2, lv2, cd2, D2), h =>
        cases h
        exact ⟨rfl, rfl, a + cd1.length, Or.inl ⟨h5, cd2, D2, hq, rfl⟩⟩
    · rw [if_neg h5] at h
      cases h
      exact ⟨rfl, rfl, 0, Or.inr ⟨h5, rfl, rfl, rfl⟩⟩
  have h1 : ∀ {vb1 : Nat}, vb1 < 2 → cl1 false c v f (i + 1) lv a vb1 = .ok (i', lv', cd, vb, tm, p, q, ts) → vb1 = vb ∧ ∃ i1 lv1 a1, (∃ cd1 D1, Prs false c v f 7 0 (i + 1) lv a = .ok (i1, lv1, cd1, D1) ∧ p = some (a, D1)) ∧ ((c i1 = 5 ∧ ∃ cd2 D2, Prs false c v f 0 0 (i1 + 1) lv1 a1 = .ok (i', lv', cd2, D2) ∧ ts = some (a1, D2)) ∨ (c i1 ≠ 5 ∧ i' = i1 ∧ lv' = lv1 ∧ ts = none)) := by
    intro vb1 hv h
    unfold cl1 at h
    match hq : Prs false c v f 7 0 (i + 1) lv a, h with
    | .ok (i1, lv1, cd1, D1), h =>
      dsimp only at h
      rw [if_neg (fun z => absurd z.1 (by decide)), clM_false] at h
      obtain ⟨e1, e2, a1, e3⟩ := hT h
      exact ⟨e1, i1, lv1, a1, ⟨cd1, D1, rfl, e2.symm⟩, e3⟩
  unfold clR at h
  by_cases c1 : c i = 1
  · rw [c1] at h
    have h : cl1 false c v f (i + 1) lv a 0 = .ok (i', lv', cd, vb, tm, p, q, ts) := h
    obtain ⟨e, i1, lv1, a1, e2, e3⟩ := h1 (by decide) h
    subst e
    exact ⟨c1, by decide, i1, lv1, a1, Or.inl ⟨by decide, e2⟩, e3⟩
  · by_cases c2 : c i = 2
    · rw [c2] at h
      have h : cl1 false c v f (i + 1) lv a 1 = .ok (i', lv', cd, vb, tm, p, q, ts) := h
      obtain ⟨e, i1, lv1, a1, e2, e3⟩ := h1 (by decide) h
      subst e
      exact ⟨c2, by decide, i1, lv1, a1, Or.inl ⟨by decide, e2⟩, e3⟩
    · by_cases c3 : c i = 3
      · rw [c3] at h
        have h : clM false c v f (i + 1) lv a [] 2 none none = .ok (i', lv', cd, vb, tm, p, q, ts) := h
        rw [clM_false] at h
        obtain ⟨e1, e2, a1, e3⟩ := hT h
        subst e1
        exact ⟨c3, by decide, i + 1, lv, a1, Or.inr ⟨by decide, rfl, rfl, e2.symm⟩, e3⟩
      · by_cases c4 : c i = 4
        · rw [c4] at h
          have h : clM false c v f (i + 1) lv a [] 3 none none = .ok (i', lv', cd, vb, tm, p, q, ts) := h
          rw [clM_false] at h
          obtain ⟨e1, e2, a1, e3⟩ := hT h
          subst e1
          exact ⟨c4, by decide, i + 1, lv, a1, Or.inr ⟨by decide, rfl, rfl, e2.symm⟩, e3⟩
        · have hn : vbO false (c i) = none := by
            show (if c i = 1 then some 0 else if c i = 2 then some 1 else if c i = 3 then some 2 else if c i = 4 then some 3 else none) = none
            rw [if_neg c1, if_neg c2, if_neg c3, if_neg c4]
          rw [hn] at h
          cases h
def tlX (k j : Nat) : Bool := k == 112 || (k == 100 && (j == 22 || j == 23 || j == 24 || j == 25))
/-- the word that is laid at a place of asked -/
def avJ (K : Nat → Int32) (p : Nat) (t e : Option Nat) (k : Nat) : Int32 := wJ K p t e (lwI (k + 9))
def AsI (h g : AH) (w : Nat → Int32) (n : Nat) : Prop := Fr tlX h g ∧ ∀ k, k < n → gI g am_asked k = w k
theorem AsI.step {h g : AH} {w : Nat → Int32} {n : Nat} (I : AsI h g w n) {x : Int32} (hx : x = w n) : AsI h (sI g am_asked n x) w (n + 1) := ⟨I.1.sI rfl, fun k hk => by
  rw [gI_at]
  by_cases e : k = n
  · rw [if_pos e, e, hx]
  · rw [if_neg e]; exact I.2 k (by omega)⟩
section As
variable (d : Nat) {h : AH}

theorem asked0 {P : Option Value → AH → Prop} (S0 : ShOK h) (R0 : RfOK h) {p : Nat} (hp : p < 6) {t e : Option Nat} (ht : ∀ x, t = some x → x < 8) (he : ∀ x, e = some x → x < 3) {g : AH} (I : AsI h g (avJ (gI h am_kept) p t e) 0) (kk : ∀ g', AsI h g' (avJ (gI h am_kept) p t e) 1 → Rp d M_X12_setsAsked 7 [some (.ref aM), some (.int (nI p)), some (.int (oI t)), some (.int (oI e))] [] g' P) : Rp d M_X12_setsAsked 0 [some (.ref aM), some (.int (nI p)), some (.int (oI t)), some (.int (oI e))] [] g P := by
  have S := I.1.S S0
  have R := I.1.R R0 (by decide)
  have ek : ∀ j, gI g am_kept j = gI h am_kept j := fun j => I.1.I 102 j rfl
  refine Rp.aload_n dX12_setsAsked_0 rfl rfl ?_
  refine Rp.getR dX12_setsAsked_1 fk_X12_59 rfl (S _ _ rfl) (R _ _ _ rfl) ?_
  refine Rp.iconst (nI 0) dX12_setsAsked_4 (by decide) ?_
  refine Rp.iload_n dX12_setsAsked_5 rfl ?_
  first | ((with_reducible show Rp _ _ _ _ (_ :: .int (nI _) :: _) _ _); refine Rp.iastoreN dX12_setsAsked_6 (S _ _ rfl) (by omega) ?_) | refine Rp.iastore dX12_setsAsked_6 (S _ _ rfl) (by first | assumption | exact vpb (by decide)) ?_
  exact kk _ (I.step (by first | rfl | (rw [ek]; rfl)))
theorem asked1 {P : Option Value → AH → Prop} (S0 : ShOK h) (R0 : RfOK h) {p : Nat} (hp : p < 6) {t e : Option Nat} (ht : ∀ x, t = some x → x < 8) (he : ∀ x, e = some x → x < 3) {g : AH} (I : AsI h g (avJ (gI h am_kept) p t e) 1) (kk : ∀ g', AsI h g' (avJ (gI h am_kept) p t e) 2 → Rp d M_X12_setsAsked 22 [some (.ref aM), some (.int (nI p)), some (.int (oI t)), some (.int (oI e))] [] g' P) : Rp d M_X12_setsAsked 7 [some (.ref aM), some (.int (nI p)), some (.int (oI t)), some (.int (oI e))] [] g P := by
  have S := I.1.S S0
  have R := I.1.R R0 (by decide)
  have ek : ∀ j, gI g am_kept j = gI h am_kept j := fun j => I.1.I 102 j rfl
  refine Rp.aload_n dX12_setsAsked_7 rfl rfl ?_
  refine Rp.getR dX12_setsAsked_8 fk_X12_59 rfl (S _ _ rfl) (R _ _ _ rfl) ?_
  refine Rp.iconst (nI 1) dX12_setsAsked_11 (by decide) ?_
  refine Rp.aload_n dX12_setsAsked_12 rfl rfl ?_
  refine Rp.getR dX12_setsAsked_13 fk_X12_24 rfl (S _ _ rfl) (R _ _ _ rfl) ?_
  refine Rp.bipush (nI 7) dX12_setsAsked_16 (by decide) ?_
  refine Rp.iload_n dX12_setsAsked_18 rfl ?_
  first | ((with_reducible show Rp _ _ _ _ (.int (nI _) :: .int (nI _) :: _) _ _); refine Rp.iaddN dX12_setsAsked_19 ?_) | refine Rp.iadd dX12_setsAsked_19 ?_
  first | ((with_reducible show Rp _ _ _ _ (.int (nI _) :: _) _ _); refine Rp.ialoadN dX12_setsAsked_20 (S _ _ rfl) (by omega) ?_) | refine Rp.iaload dX12_setsAsked_20 (S _ _ rfl) (by first | assumption | exact vpb (by decide)) ?_
  first | ((with_reducible show Rp _ _ _ _ (_ :: .int (nI _) :: _) _ _); refine Rp.iastoreN dX12_setsAsked_21 (S _ _ rfl) (by omega) ?_) | refine Rp.iastore dX12_setsAsked_21 (S _ _ rfl) (by first | assumption | exact vpb (by decide)) ?_
  exact kk _ (I.step (by first | rfl | (rw [ek]; rfl)))
theorem asked2 {P : Option Value → AH → Prop} (S0 : ShOK h) (R0 : RfOK h) {p : Nat} (hp : p < 6) {t e : Option Nat} (ht : ∀ x, t = some x → x < 8) (he : ∀ x, e = some x → x < 3) {g : AH} (I : AsI h g (avJ (gI h am_kept) p t e) 2) (kk : ∀ g', AsI h g' (avJ (gI h am_kept) p t e) 3 → Rp d M_X12_setsAsked 29 [some (.ref aM), some (.int (nI p)), some (.int (oI t)), some (.int (oI e))] [] g' P) : Rp d M_X12_setsAsked 22 [some (.ref aM), some (.int (nI p)), some (.int (oI t)), some (.int (oI e))] [] g P := by
  have S := I.1.S S0
  have R := I.1.R R0 (by decide)
  have ek : ∀ j, gI g am_kept j = gI h am_kept j := fun j => I.1.I 102 j rfl
  refine Rp.aload_n dX12_setsAsked_22 rfl rfl ?_
  refine Rp.getR dX12_setsAsked_23 fk_X12_59 rfl (S _ _ rfl) (R _ _ _ rfl) ?_
  refine Rp.iconst (nI 2) dX12_setsAsked_26 (by decide) ?_
  refine Rp.iload_n dX12_setsAsked_27 rfl ?_
  first | ((with_reducible show Rp _ _ _ _ (_ :: .int (nI _) :: _) _ _); refine Rp.iastoreN dX12_setsAsked_28 (S _ _ rfl) (by omega) ?_) | refine Rp.iastore dX12_setsAsked_28 (S _ _ rfl) (by first | assumption | exact vpb (by decide)) ?_
  exact kk _ (I.step (by first | rfl | (rw [ek]; rfl)))
theorem asked3 {P : Option Value → AH → Prop} (S0 : ShOK h) (R0 : RfOK h) {p : Nat} (hp : p < 6) {t e : Option Nat} (ht : ∀ x, t = some x → x < 8) (he : ∀ x, e = some x → x < 3) {g : AH} (I : AsI h g (avJ (gI h am_kept) p t e) 3) (kk : ∀ g', AsI h g' (avJ (gI h am_kept) p t e) 4 → Rp d M_X12_setsAsked 53 [some (.ref aM), some (.int (nI p)), some (.int (oI t)), some (.int (oI e))] [] g' P) : Rp d M_X12_setsAsked 29 [some (.ref aM), some (.int (nI p)), some (.int (oI t)), some (.int (oI e))] [] g P := by
  have S := I.1.S S0
  have R := I.1.R R0 (by decide)
  have ek : ∀ j, gI g am_kept j = gI h am_kept j := fun j => I.1.I 102 j rfl
  cases t with
  | none =>
    refine Rp.aload_n dX12_setsAsked_29 rfl rfl ?_
    refine Rp.getR dX12_setsAsked_30 fk_X12_59 rfl (S _ _ rfl) (R _ _ _ rfl) ?_
    refine Rp.iconst (nI 3) dX12_setsAsked_33 (by decide) ?_
    refine Rp.iload_n dX12_setsAsked_34 rfl ?_
    refine Rp.iconst (-1) dX12_setsAsked_35 (by decide) ?_
    first | ((with_reducible show Rp _ _ _ _ (.int (nI _) :: .int (nI _) :: _) _ _); refine Rp.icmp_neN (tgt := 43) dX12_setsAsked_36 (by decide) (by omega) (fun c36 => ?_) (fun c36 => ?_)) | refine Rp.icmp_ne (tgt := 43) dX12_setsAsked_36 (by decide) (fun c36 => ?_) (fun c36 => ?_)
    · skip
      exact absurd rfl c36
    · skip
      refine Rp.iconst (-1) dX12_setsAsked_39 (by decide) ?_
      refine Rp.goto (tgt := 52) dX12_setsAsked_40 (by decide) ?_
      first | ((with_reducible show Rp _ _ _ _ (_ :: .int (nI _) :: _) _ _); refine Rp.iastoreN dX12_setsAsked_52 (S _ _ rfl) (by omega) ?_) | refine Rp.iastore dX12_setsAsked_52 (S _ _ rfl) (by first | assumption | exact vpb (by decide)) ?_
      exact kk _ (I.step (by first | rfl | (rw [ek]; rfl)))
  | some x =>
    have hx := ht x rfl
    have hn : ¬ nI x = -1 := nI_ne_m1 (by omega)
    refine Rp.aload_n dX12_setsAsked_29 rfl rfl ?_
    refine Rp.getR dX12_setsAsked_30 fk_X12_59 rfl (S _ _ rfl) (R _ _ _ rfl) ?_
    refine Rp.iconst (nI 3) dX12_setsAsked_33 (by decide) ?_
    refine Rp.iload_n dX12_setsAsked_34 rfl ?_
    refine Rp.iconst (-1) dX12_setsAsked_35 (by decide) ?_
    first | ((with_reducible show Rp _ _ _ _ (.int (nI _) :: .int (nI _) :: _) _ _); refine Rp.icmp_neN (tgt := 43) dX12_setsAsked_36 (by decide) (by omega) (fun c36 => ?_) (fun c36 => ?_)) | refine Rp.icmp_ne (tgt := 43) dX12_setsAsked_36 (by decide) (fun c36 => ?_) (fun c36 => ?_)
    · skip
      refine Rp.aload_n dX12_setsAsked_43 rfl rfl ?_
      refine Rp.getR dX12_setsAsked_44 fk_X12_24 rfl (S _ _ rfl) (R _ _ _ rfl) ?_
      refine Rp.bipush (nI 67) dX12_setsAsked_47 (by decide) ?_
      refine Rp.iload_n dX12_setsAsked_49 rfl ?_
      rw [show oI (some x) = nI x from rfl]
      first | ((with_reducible show Rp _ _ _ _ (.int (nI _) :: .int (nI _) :: _) _ _); refine Rp.iaddN dX12_setsAsked_50 ?_) | refine Rp.iadd dX12_setsAsked_50 ?_
      first | ((with_reducible show Rp _ _ _ _ (.int (nI _) :: _) _ _); refine Rp.ialoadN dX12_setsAsked_51 (S _ _ rfl) (by omega) ?_) | refine Rp.iaload dX12_setsAsked_51 (S _ _ rfl) (by first | assumption | exact vpb (by decide)) ?_
      first | ((with_reducible show Rp _ _ _ _ (_ :: .int (nI _) :: _) _ _); refine Rp.iastoreN dX12_setsAsked_52 (S _ _ rfl) (by omega) ?_) | refine Rp.iastore dX12_setsAsked_52 (S _ _ rfl) (by first | assumption | exact vpb (by decide)) ?_
      exact kk _ (I.step (by first | rfl | (rw [ek]; rfl)))
    · skip
      exact absurd c36 hn
theorem asked4 {P : Option Value → AH → Prop} (S0 : ShOK h) (R0 : RfOK h) {p : Nat} (hp : p < 6) {t e : Option Nat} (ht : ∀ x, t = some x → x < 8) (he : ∀ x, e = some x → x < 3) {g : AH} (I : AsI h g (avJ (gI h am_kept) p t e) 4) (kk : ∀ g', AsI h g' (avJ (gI h am_kept) p t e) 5 → Rp d M_X12_setsAsked 77 [some (.ref aM), some (.int (nI p)), some (.int (oI t)), some (.int (oI e))] [] g' P) : Rp d M_X12_setsAsked 53 [some (.ref aM), some (.int (nI p)), some (.int (oI t)), some (.int (oI e))] [] g P := by
  have S := I.1.S S0
  have R := I.1.R R0 (by decide)
  have ek : ∀ j, gI g am_kept j = gI h am_kept j := fun j => I.1.I 102 j rfl
  cases t with
  | none =>
    refine Rp.aload_n dX12_setsAsked_53 rfl rfl ?_
    refine Rp.getR dX12_setsAsked_54 fk_X12_59 rfl (S _ _ rfl) (R _ _ _ rfl) ?_
    refine Rp.iconst (nI 4) dX12_setsAsked_57 (by decide) ?_
    refine Rp.iload_n dX12_setsAsked_58 rfl ?_
    refine Rp.iconst (-1) dX12_setsAsked_59 (by decide) ?_
    first | ((with_reducible show Rp _ _ _ _ (.int (nI _) :: .int (nI _) :: _) _ _); refine Rp.icmp_neN (tgt := 67) dX12_setsAsked_60 (by decide) (by omega) (fun c60 => ?_) (fun c60 => ?_)) | refine Rp.icmp_ne (tgt := 67) dX12_setsAsked_60 (by decide) (fun c60 => ?_) (fun c60 => ?_)
    · skip
      exact absurd rfl c60
    · skip
      refine Rp.iconst (-1) dX12_setsAsked_63 (by decide) ?_
      refine Rp.goto (tgt := 76) dX12_setsAsked_64 (by decide) ?_
      first | ((with_reducible show Rp _ _ _ _ (_ :: .int (nI _) :: _) _ _); refine Rp.iastoreN dX12_setsAsked_76 (S _ _ rfl) (by omega) ?_) | refine Rp.iastore dX12_setsAsked_76 (S _ _ rfl) (by first | assumption | exact vpb (by decide)) ?_
      exact kk _ (I.step (by first | rfl | (rw [ek]; rfl)))
  | some x =>
    have hx := ht x rfl
    have hn : ¬ nI x = -1 := nI_ne_m1 (by omega)
    refine Rp.aload_n dX12_setsAsked_53 rfl rfl ?_
    refine Rp.getR dX12_setsAsked_54 fk_X12_59 rfl (S _ _ rfl) (R _ _ _ rfl) ?_
    refine Rp.iconst (nI 4) dX12_setsAsked_57 (by decide) ?_
    refine Rp.iload_n dX12_setsAsked_58 rfl ?_
    refine Rp.iconst (-1) dX12_setsAsked_59 (by decide) ?_
    first | ((with_reducible show Rp _ _ _ _ (.int (nI _) :: .int (nI _) :: _) _ _); refine Rp.icmp_neN (tgt := 67) dX12_setsAsked_60 (by decide) (by omega) (fun c60 => ?_) (fun c60 => ?_)) | refine Rp.icmp_ne (tgt := 67) dX12_setsAsked_60 (by decide) (fun c60 => ?_) (fun c60 => ?_)
    · skip
      refine Rp.aload_n dX12_setsAsked_67 rfl rfl ?_
      refine Rp.getR dX12_setsAsked_68 fk_X12_24 rfl (S _ _ rfl) (R _ _ _ rfl) ?_
      refine Rp.bipush (nI 75) dX12_setsAsked_71 (by decide) ?_
      refine Rp.iload_n dX12_setsAsked_73 rfl ?_
      rw [show oI (some x) = nI x from rfl]
      first | ((with_reducible show Rp _ _ _ _ (.int (nI _) :: .int (nI _) :: _) _ _); refine Rp.iaddN dX12_setsAsked_74 ?_) | refine Rp.iadd dX12_setsAsked_74 ?_
      first | ((with_reducible show Rp _ _ _ _ (.int (nI _) :: _) _ _); refine Rp.ialoadN dX12_setsAsked_75 (S _ _ rfl) (by omega) ?_) | refine Rp.iaload dX12_setsAsked_75 (S _ _ rfl) (by first | assumption | exact vpb (by decide)) ?_
      first | ((with_reducible show Rp _ _ _ _ (_ :: .int (nI _) :: _) _ _); refine Rp.iastoreN dX12_setsAsked_76 (S _ _ rfl) (by omega) ?_) | refine Rp.iastore dX12_setsAsked_76 (S _ _ rfl) (by first | assumption | exact vpb (by decide)) ?_
      exact kk _ (I.step (by first | rfl | (rw [ek]; rfl)))
    · skip
      exact absurd c60 hn
theorem asked5 {P : Option Value → AH → Prop} (S0 : ShOK h) (R0 : RfOK h) {p : Nat} (hp : p < 6) {t e : Option Nat} (ht : ∀ x, t = some x → x < 8) (he : ∀ x, e = some x → x < 3) {g : AH} (I : AsI h g (avJ (gI h am_kept) p t e) 5) (kk : ∀ g', AsI h g' (avJ (gI h am_kept) p t e) 6 → Rp d M_X12_setsAsked 101 [some (.ref aM), some (.int (nI p)), some (.int (oI t)), some (.int (oI e))] [] g' P) : Rp d M_X12_setsAsked 77 [some (.ref aM), some (.int (nI p)), some (.int (oI t)), some (.int (oI e))] [] g P := by
  have S := I.1.S S0
  have R := I.1.R R0 (by decide)
  have ek : ∀ j, gI g am_kept j = gI h am_kept j := fun j => I.1.I 102 j rfl
  cases e with
  | none =>
    refine Rp.aload_n dX12_setsAsked_77 rfl rfl ?_
    refine Rp.getR dX12_setsAsked_78 fk_X12_59 rfl (S _ _ rfl) (R _ _ _ rfl) ?_
    refine Rp.iconst (nI 5) dX12_setsAsked_81 (by decide) ?_
    refine Rp.iload_n dX12_setsAsked_82 rfl ?_
    refine Rp.iconst (-1) dX12_setsAsked_83 (by decide) ?_
    first | ((with_reducible show Rp _ _ _ _ (.int (nI _) :: .int (nI _) :: _) _ _); refine Rp.icmp_neN (tgt := 91) dX12_setsAsked_84 (by decide) (by omega) (fun c84 => ?_) (fun c84 => ?_)) | refine Rp.icmp_ne (tgt := 91) dX12_setsAsked_84 (by decide) (fun c84 => ?_) (fun c84 => ?_)
    · skip
      exact absurd rfl c84
    · skip
      refine Rp.iconst (-1) dX12_setsAsked_87 (by decide) ?_
      refine Rp.goto (tgt := 100) dX12_setsAsked_88 (by decide) ?_
      first | ((with_reducible show Rp _ _ _ _ (_ :: .int (nI _) :: _) _ _); refine Rp.iastoreN dX12_setsAsked_100 (S _ _ rfl) (by omega) ?_) | refine Rp.iastore dX12_setsAsked_100 (S _ _ rfl) (by first | assumption | exact vpb (by decide)) ?_
      exact kk _ (I.step (by first | rfl | (rw [ek]; rfl)))
  | some x =>
    have hx := he x rfl
    have hn : ¬ nI x = -1 := nI_ne_m1 (by omega)
    refine Rp.aload_n dX12_setsAsked_77 rfl rfl ?_
    refine Rp.getR dX12_setsAsked_78 fk_X12_59 rfl (S _ _ rfl) (R _ _ _ rfl) ?_
    refine Rp.iconst (nI 5) dX12_setsAsked_81 (by decide) ?_
    refine Rp.iload_n dX12_setsAsked_82 rfl ?_
    refine Rp.iconst (-1) dX12_setsAsked_83 (by decide) ?_
    first | ((with_reducible show Rp _ _ _ _ (.int (nI _) :: .int (nI _) :: _) _ _); refine Rp.icmp_neN (tgt := 91) dX12_setsAsked_84 (by decide) (by omega) (fun c84 => ?_) (fun c84 => ?_)) | refine Rp.icmp_ne (tgt := 91) dX12_setsAsked_84 (by decide) (fun c84 => ?_) (fun c84 => ?_)
    · skip
      refine Rp.aload_n dX12_setsAsked_91 rfl rfl ?_
      refine Rp.getR dX12_setsAsked_92 fk_X12_24 rfl (S _ _ rfl) (R _ _ _ rfl) ?_
      refine Rp.bipush (nI 86) dX12_setsAsked_95 (by decide) ?_
      refine Rp.iload_n dX12_setsAsked_97 rfl ?_
      rw [show oI (some x) = nI x from rfl]
      first | ((with_reducible show Rp _ _ _ _ (.int (nI _) :: .int (nI _) :: _) _ _); refine Rp.iaddN dX12_setsAsked_98 ?_) | refine Rp.iadd dX12_setsAsked_98 ?_
      first | ((with_reducible show Rp _ _ _ _ (.int (nI _) :: _) _ _); refine Rp.ialoadN dX12_setsAsked_99 (S _ _ rfl) (by omega) ?_) | refine Rp.iaload dX12_setsAsked_99 (S _ _ rfl) (by first | assumption | exact vpb (by decide)) ?_
      first | ((with_reducible show Rp _ _ _ _ (_ :: .int (nI _) :: _) _ _); refine Rp.iastoreN dX12_setsAsked_100 (S _ _ rfl) (by omega) ?_) | refine Rp.iastore dX12_setsAsked_100 (S _ _ rfl) (by first | assumption | exact vpb (by decide)) ?_
      exact kk _ (I.step (by first | rfl | (rw [ek]; rfl)))
    · skip
      exact absurd c84 hn
theorem asked6 {P : Option Value → AH → Prop} (S0 : ShOK h) (R0 : RfOK h) {p : Nat} (hp : p < 6) {t e : Option Nat} (ht : ∀ x, t = some x → x < 8) (he : ∀ x, e = some x → x < 3) {g : AH} (I : AsI h g (avJ (gI h am_kept) p t e) 6) (kk : ∀ g', AsI h g' (avJ (gI h am_kept) p t e) 7 → Rp d M_X12_setsAsked 115 [some (.ref aM), some (.int (nI p)), some (.int (oI t)), some (.int (oI e))] [] g' P) : Rp d M_X12_setsAsked 101 [some (.ref aM), some (.int (nI p)), some (.int (oI t)), some (.int (oI e))] [] g P := by
  have S := I.1.S S0
  have R := I.1.R R0 (by decide)
  have ek : ∀ j, gI g am_kept j = gI h am_kept j := fun j => I.1.I 102 j rfl
  refine Rp.aload_n dX12_setsAsked_101 rfl rfl ?_
  refine Rp.getR dX12_setsAsked_102 fk_X12_59 rfl (S _ _ rfl) (R _ _ _ rfl) ?_
  refine Rp.bipush (nI 6) dX12_setsAsked_105 (by decide) ?_
  refine Rp.aload_n dX12_setsAsked_107 rfl rfl ?_
  refine Rp.getR dX12_setsAsked_108 fk_X12_24 rfl (S _ _ rfl) (R _ _ _ rfl) ?_
  refine Rp.bipush (nI 102) dX12_setsAsked_111 (by decide) ?_
  first | ((with_reducible show Rp _ _ _ _ (.int (nI _) :: _) _ _); refine Rp.ialoadN dX12_setsAsked_113 (S _ _ rfl) (by omega) ?_) | refine Rp.iaload dX12_setsAsked_113 (S _ _ rfl) (by first | assumption | exact vpb (by decide)) ?_
  first | ((with_reducible show Rp _ _ _ _ (_ :: .int (nI _) :: _) _ _); refine Rp.iastoreN dX12_setsAsked_114 (S _ _ rfl) (by omega) ?_) | refine Rp.iastore dX12_setsAsked_114 (S _ _ rfl) (by first | assumption | exact vpb (by decide)) ?_
  exact kk _ (I.step (by first | rfl | (rw [ek]; rfl)))
theorem asked7 {P : Option Value → AH → Prop} (S0 : ShOK h) (R0 : RfOK h) {p : Nat} (hp : p < 6) {t e : Option Nat} (ht : ∀ x, t = some x → x < 8) (he : ∀ x, e = some x → x < 3) {g : AH} (I : AsI h g (avJ (gI h am_kept) p t e) 7) (kk : ∀ g', AsI h g' (avJ (gI h am_kept) p t e) 8 → Rp d M_X12_setsAsked 131 [some (.ref aM), some (.int (nI p)), some (.int (oI t)), some (.int (oI e))] [] g' P) : Rp d M_X12_setsAsked 115 [some (.ref aM), some (.int (nI p)), some (.int (oI t)), some (.int (oI e))] [] g P := by
  have S := I.1.S S0
  have R := I.1.R R0 (by decide)
  have ek : ∀ j, gI g am_kept j = gI h am_kept j := fun j => I.1.I 102 j rfl
  refine Rp.aload_n dX12_setsAsked_115 rfl rfl ?_
  refine Rp.getR dX12_setsAsked_116 fk_X12_59 rfl (S _ _ rfl) (R _ _ _ rfl) ?_
  refine Rp.bipush (nI 7) dX12_setsAsked_119 (by decide) ?_
  refine Rp.aload_n dX12_setsAsked_121 rfl rfl ?_
  refine Rp.getR dX12_setsAsked_122 fk_X12_24 rfl (S _ _ rfl) (R _ _ _ rfl) ?_
  refine Rp.bipush (nI 13) dX12_setsAsked_125 (by decide) ?_
  refine Rp.iload_n dX12_setsAsked_127 rfl ?_
  first | ((with_reducible show Rp _ _ _ _ (.int (nI _) :: .int (nI _) :: _) _ _); refine Rp.iaddN dX12_setsAsked_128 ?_) | refine Rp.iadd dX12_setsAsked_128 ?_
  first | ((with_reducible show Rp _ _ _ _ (.int (nI _) :: _) _ _); refine Rp.ialoadN dX12_setsAsked_129 (S _ _ rfl) (by omega) ?_) | refine Rp.iaload dX12_setsAsked_129 (S _ _ rfl) (by first | assumption | exact vpb (by decide)) ?_
  first | ((with_reducible show Rp _ _ _ _ (_ :: .int (nI _) :: _) _ _); refine Rp.iastoreN dX12_setsAsked_130 (S _ _ rfl) (by omega) ?_) | refine Rp.iastore dX12_setsAsked_130 (S _ _ rfl) (by first | assumption | exact vpb (by decide)) ?_
  exact kk _ (I.step (by first | rfl | (rw [ek]; rfl)))
theorem asked8 {P : Option Value → AH → Prop} (S0 : ShOK h) (R0 : RfOK h) {p : Nat} (hp : p < 6) {t e : Option Nat} (ht : ∀ x, t = some x → x < 8) (he : ∀ x, e = some x → x < 3) {g : AH} (I : AsI h g (avJ (gI h am_kept) p t e) 8) (kk : ∀ g', AsI h g' (avJ (gI h am_kept) p t e) 9 → Rp d M_X12_setsAsked 145 [some (.ref aM), some (.int (nI p)), some (.int (oI t)), some (.int (oI e))] [] g' P) : Rp d M_X12_setsAsked 131 [some (.ref aM), some (.int (nI p)), some (.int (oI t)), some (.int (oI e))] [] g P := by
  have S := I.1.S S0
  have R := I.1.R R0 (by decide)
  have ek : ∀ j, gI g am_kept j = gI h am_kept j := fun j => I.1.I 102 j rfl
  refine Rp.aload_n dX12_setsAsked_131 rfl rfl ?_
  refine Rp.getR dX12_setsAsked_132 fk_X12_59 rfl (S _ _ rfl) (R _ _ _ rfl) ?_
  refine Rp.bipush (nI 8) dX12_setsAsked_135 (by decide) ?_
  refine Rp.aload_n dX12_setsAsked_137 rfl rfl ?_
  refine Rp.getR dX12_setsAsked_138 fk_X12_24 rfl (S _ _ rfl) (R _ _ _ rfl) ?_
  refine Rp.bipush (nI 6) dX12_setsAsked_141 (by decide) ?_
  first | ((with_reducible show Rp _ _ _ _ (.int (nI _) :: _) _ _); refine Rp.ialoadN dX12_setsAsked_143 (S _ _ rfl) (by omega) ?_) | refine Rp.iaload dX12_setsAsked_143 (S _ _ rfl) (by first | assumption | exact vpb (by decide)) ?_
  first | ((with_reducible show Rp _ _ _ _ (_ :: .int (nI _) :: _) _ _); refine Rp.iastoreN dX12_setsAsked_144 (S _ _ rfl) (by omega) ?_) | refine Rp.iastore dX12_setsAsked_144 (S _ _ rfl) (by first | assumption | exact vpb (by decide)) ?_
  exact kk _ (I.step (by first | rfl | (rw [ek]; rfl)))
theorem s_setsAsked (S : ShOK h) (R : RfOK h) {p : Nat} (hp : p < 6) {t e : Option Nat} (ht : ∀ x, t = some x → x < 8) (he : ∀ x, e = some x → x < 3) : Rp d M_X12_setsAsked 0 [some (.ref aM), some (.int (nI p)), some (.int (oI t)), some (.int (oI e))] [] h (fun r h' => r = none ∧ AsI h h' (avJ (gI h am_kept) p t e) 9) := by
  have I0 : AsI h h (avJ (gI h am_kept) p t e) 0 := ⟨Fr.rfl', fun k hk => absurd hk (Nat.not_lt_zero k)⟩
  refine asked0 d S R hp ht he I0 (fun g1 I1 => ?_)
  refine asked1 d S R hp ht he I1 (fun g2 I2 => ?_)
  refine asked2 d S R hp ht he I2 (fun g3 I3 => ?_)
  refine asked3 d S R hp ht he I3 (fun g4 I4 => ?_)
  refine asked4 d S R hp ht he I4 (fun g5 I5 => ?_)
  refine asked5 d S R hp ht he I5 (fun g6 I6 => ?_)
  refine asked6 d S R hp ht he I6 (fun g7 I7 => ?_)
  refine asked7 d S R hp ht he I7 (fun g8 I8 => ?_)
  refine asked8 d S R hp ht he I8 (fun g9 I9 => ?_)
  refine Rp.vreturn dX12_setsAsked_145 rfl ?_
  exact ⟨rfl, I9⟩
end As
section Tl
variable (d : Nat) {h : AH} {B : Nat} {c v : Nat → Nat} {T : Nat} {w : Nat → Int32}
theorem tells221 {P : Option Value → AH → Prop} (S : ShOK h) (R : RfOK h) (g : Nat) (b : Int32) (ls : List (Option Value)) (kk : Rp (d + 74) M_X12_tells 71 (some (.ref aM) :: ls) [] (evH h (nI (g + 1)) b) P) : Rp (d + 74) M_X12_tells 221 (some (.ref aM) :: ls) [] (evH h (nI g) b) P := by
  refine Rp.aload_n dX12_tells_221 rfl rfl ?_
  refine Rp.dup dX12_tells_222 rfl ?_
  refine Rp.getI dX12_tells_223 fk_X12_282 rfl (S _ _ rfl) ?_
  first | rw [ev_g] | skip
  refine Rp.iconst (nI 1) dX12_tells_226 (by decide) ?_
  first | ((with_reducible show Rp _ _ _ _ (.int (nI _) :: .int (nI _) :: _) _ _); refine Rp.iaddN dX12_tells_227 ?_) | refine Rp.iadd dX12_tells_227 ?_
  refine Rp.putI dX12_tells_228 fk_X12_282w rfl (S _ _ rfl) ?_
  first | rw [ev_sg] | skip
  refine Rp.goto (tgt := 71) dX12_tells_231 (by decide) ?_
  exact kk
theorem tells164 {P : Option Value → AH → Prop} (S : ShOK h) (R : RfOK h) {hd lo hi vb told g : Nat} {x : Int64} {y : Int} {b1 b2 t : Bool} (hh : hd < 10 ∧ vb < 4 ∧ lo ≤ hi ∧ hi < 100) (hx : b1 = false → x = Int64.ofInt y ∧ -1000000000 ≤ y ∧ y ≤ 1000000000) (a2 a3 a4 : Option Value) (wo : Int32)
    (kk : ∀ n, n = (if vb + 1 = hd ∧ t = true ∧ b2 = false ∧ b1 = false then clmp lo hi y else told) → Rp (d + 74) M_X12_tells 71 [some (.ref aM), some (.int (nI hd)), a2, a3, a4, some (.int (nI lo)), some (.int (nI hi)), some (.int wo), some (.long (Int64.ofInt (n : Int))), none, some (.int (nI (vb + 1))), some (.long x), none, some (.int (b2i b1)), some (.int (b2i t))] [] (evH h (nI (g + 1)) (b2i b2)) P) : Rp (d + 74) M_X12_tells 164 [some (.ref aM), some (.int (nI hd)), a2, a3, a4, some (.int (nI lo)), some (.int (nI hi)), some (.int wo), some (.long (Int64.ofInt (told : Int))), none, some (.int (nI (vb + 1))), some (.long x), none, some (.int (b2i b1)), some (.int (b2i t))] [] (evH h (nI g) (b2i b2)) P := by
  by_cases hq : vb + 1 = hd ∧ t = true ∧ b2 = false ∧ b1 = false
  · have kk := kk (clmp lo hi y) (by rw [if_pos hq])
    obtain ⟨q1, rfl, rfl, rfl⟩ := hq
    obtain ⟨hx1, hx2, hx3⟩ := hx rfl
    have e1 : (nI lo).toInt64 = Int64.ofInt (lo : Int) := nI64 (by omega)
    have e2 : (nI hi).toInt64 = Int64.ofInt (hi : Int) := nI64 (by omega)
    have g1 : ∀ (a b : Int), -1000000000 ≤ a → a ≤ 1000000000 → -1000000000 ≤ b → b ≤ 1000000000 → ((Int64.ofInt a ≤ Int64.ofInt b) ↔ a ≤ b) := fun a b h1 h2 h3 h4 => by rw [Int64.le_iff_toInt_le, z64_toInt (by omega) (by omega), z64_toInt (by omega) (by omega)]
    rw [hx1] at kk ⊢
    have f1 : y < lo → clmp lo hi y = lo := fun z => if_pos z
    have f2 : ¬ y < lo → (hi : Int) < y → clmp lo hi y = hi := fun z1 z2 => by unfold clmp; rw [if_neg z1, if_pos z2]
    have f3 : ¬ y < lo → ¬ (hi : Int) < y → ((clmp lo hi y : Nat) : Int) = y := fun z1 z2 => by unfold clmp; rw [if_neg z1, if_neg z2]; omega
    have k1 : (0 ≤ lg_cmp (Int64.ofInt y) (Int64.ofInt (lo : Int))) ↔ (lo : Int) ≤ y := by rw [lg_cmp_ge, g1 _ _ (by omega) (by omega) (by omega) (by omega)]
    have k2 : (lg_cmp (Int64.ofInt y) (Int64.ofInt (hi : Int)) ≤ 0) ↔ y ≤ (hi : Int) := by rw [lg_cmp_le, g1 _ _ (by omega) (by omega) (by omega) (by omega)]
    refine Rp.iload dX12_tells_164 rfl ?_
    refine Rp.iload_n dX12_tells_166 rfl ?_
    first | ((with_reducible show Rp _ _ _ _ (.int (nI _) :: .int (nI _) :: _) _ _); refine Rp.icmp_neN (tgt := 221) dX12_tells_167 (by decide) (by omega) (fun c167 => ?_) (fun c167 => ?_)) | refine Rp.icmp_ne (tgt := 221) dX12_tells_167 (by decide) (fun c167 => ?_) (fun c167 => ?_)
    · skip
      first | (exfalso; omega) | exact absurd c167 (by decide) | exact absurd (by decide) c167
    · skip
      refine Rp.iload dX12_tells_170 rfl ?_
      first | ((with_reducible show Rp _ _ _ _ (.int (b2i _) :: _) _ _); refine Rp.if_eqB (tgt := 221) dX12_tells_172 (by decide) (fun c172 => ?_) (fun c172 => ?_)) | ((with_reducible show Rp _ _ _ _ (.int (nI _) :: _) _ _); refine Rp.if_eqN (tgt := 221) dX12_tells_172 (by decide) (by omega) (fun c172 => ?_) (fun c172 => ?_)) | refine Rp.if_eq (tgt := 221) dX12_tells_172 (by decide) (fun c172 => ?_) (fun c172 => ?_)
      · skip
        first | (exfalso; omega) | exact absurd c172 (by decide) | exact absurd (by decide) c172
      · skip
        refine Rp.aload_n dX12_tells_175 rfl rfl ?_
        refine Rp.getI dX12_tells_176 fk_X12_292 rfl (S _ _ rfl) ?_
        first | rw [ev_b] | skip
        first | ((with_reducible show Rp _ _ _ _ (.int (b2i _) :: _) _ _); refine Rp.if_neB (tgt := 221) dX12_tells_179 (by decide) (fun c179 => ?_) (fun c179 => ?_)) | ((with_reducible show Rp _ _ _ _ (.int (nI _) :: _) _ _); refine Rp.if_neN (tgt := 221) dX12_tells_179 (by decide) (by omega) (fun c179 => ?_) (fun c179 => ?_)) | refine Rp.if_ne (tgt := 221) dX12_tells_179 (by decide) (fun c179 => ?_) (fun c179 => ?_)
        · skip
          first | (exfalso; omega) | exact absurd c179 (by decide) | exact absurd (by decide) c179
        · skip
          refine Rp.iload dX12_tells_182 rfl ?_
          first | ((with_reducible show Rp _ _ _ _ (.int (b2i _) :: _) _ _); refine Rp.if_neB (tgt := 221) dX12_tells_184 (by decide) (fun c184 => ?_) (fun c184 => ?_)) | ((with_reducible show Rp _ _ _ _ (.int (nI _) :: _) _ _); refine Rp.if_neN (tgt := 221) dX12_tells_184 (by decide) (by omega) (fun c184 => ?_) (fun c184 => ?_)) | refine Rp.if_ne (tgt := 221) dX12_tells_184 (by decide) (fun c184 => ?_) (fun c184 => ?_)
          · skip
            first | (exfalso; omega) | exact absurd c184 (by decide) | exact absurd (by decide) c184
          · skip
            refine Rp.lload dX12_tells_187 rfl ?_
            refine Rp.iload dX12_tells_189 rfl ?_
            refine Rp.i2l dX12_tells_191 ?_
            rw [e1]
            refine Rp.lcmp dX12_tells_192 ?_
            refine Rp.if_ge (tgt := 202) dX12_tells_193 (by decide) (fun c193 => ?_) (fun c193 => ?_)
            · skip
              refine Rp.lload dX12_tells_202 rfl ?_
              refine Rp.iload dX12_tells_204 rfl ?_
              refine Rp.i2l dX12_tells_206 ?_
              rw [e2]
              refine Rp.lcmp dX12_tells_207 ?_
              refine Rp.if_le (tgt := 217) dX12_tells_208 (by decide) (fun c208 => ?_) (fun c208 => ?_)
              · skip
                refine Rp.lload dX12_tells_217 rfl ?_
                first | rw [e1] | rw [e2] | skip
                refine Rp.lst8 dX12_tells_219 (by first | exact nl2_some rfl | exact nl2_none) (by decide) ?_
                refine tells221 d S R g _ _ ?_
                first | (have z := mt k1.mpr c193; rw [f1 (by omega)] at kk; exact kk) | (have z1 := k1.mp c193; have z2 := mt k2.mpr c208; rw [f2 (by omega) (by omega)] at kk; exact kk) | (have z1 := k1.mp c193; have z2 := k2.mp c208; rw [f3 (by omega) (by omega)] at kk; exact kk)
              · skip
                refine Rp.iload dX12_tells_211 rfl ?_
                refine Rp.i2l dX12_tells_213 ?_
                refine Rp.goto (tgt := 219) dX12_tells_214 (by decide) ?_
                first | rw [e1] | rw [e2] | skip
                refine Rp.lst8 dX12_tells_219 (by first | exact nl2_some rfl | exact nl2_none) (by decide) ?_
                refine tells221 d S R g _ _ ?_
                first | (have z := mt k1.mpr c193; rw [f1 (by omega)] at kk; exact kk) | (have z1 := k1.mp c193; have z2 := mt k2.mpr c208; rw [f2 (by omega) (by omega)] at kk; exact kk) | (have z1 := k1.mp c193; have z2 := k2.mp c208; rw [f3 (by omega) (by omega)] at kk; exact kk)
            · skip
              refine Rp.iload dX12_tells_196 rfl ?_
              refine Rp.i2l dX12_tells_198 ?_
              refine Rp.goto (tgt := 219) dX12_tells_199 (by decide) ?_
              first | rw [e1] | rw [e2] | skip
              refine Rp.lst8 dX12_tells_219 (by first | exact nl2_some rfl | exact nl2_none) (by decide) ?_
              refine tells221 d S R g _ _ ?_
              first | (have z := mt k1.mpr c193; rw [f1 (by omega)] at kk; exact kk) | (have z1 := k1.mp c193; have z2 := mt k2.mpr c208; rw [f2 (by omega) (by omega)] at kk; exact kk) | (have z1 := k1.mp c193; have z2 := k2.mp c208; rw [f3 (by omega) (by omega)] at kk; exact kk)
  · have kk := kk told (by rw [if_neg hq])
    by_cases q1 : vb + 1 = hd
    · cases t
      · skip
        refine Rp.iload dX12_tells_164 rfl ?_
        refine Rp.iload_n dX12_tells_166 rfl ?_
        first | ((with_reducible show Rp _ _ _ _ (.int (nI _) :: .int (nI _) :: _) _ _); refine Rp.icmp_neN (tgt := 221) dX12_tells_167 (by decide) (by omega) (fun c167 => ?_) (fun c167 => ?_)) | refine Rp.icmp_ne (tgt := 221) dX12_tells_167 (by decide) (fun c167 => ?_) (fun c167 => ?_)
        · skip
          first | (exfalso; omega) | exact absurd c167 (by decide) | exact absurd (by decide) c167
        · skip
          refine Rp.iload dX12_tells_170 rfl ?_
          first | ((with_reducible show Rp _ _ _ _ (.int (b2i _) :: _) _ _); refine Rp.if_eqB (tgt := 221) dX12_tells_172 (by decide) (fun c172 => ?_) (fun c172 => ?_)) | ((with_reducible show Rp _ _ _ _ (.int (nI _) :: _) _ _); refine Rp.if_eqN (tgt := 221) dX12_tells_172 (by decide) (by omega) (fun c172 => ?_) (fun c172 => ?_)) | refine Rp.if_eq (tgt := 221) dX12_tells_172 (by decide) (fun c172 => ?_) (fun c172 => ?_)
          · skip
            exact tells221 d S R g _ _ kk
          · skip
            first | (exfalso; omega) | exact absurd c172 (by decide) | exact absurd (by decide) c172
      · cases b2
        · cases b1
          · exact absurd ⟨q1, rfl, rfl, rfl⟩ hq
          · skip
            refine Rp.iload dX12_tells_164 rfl ?_
            refine Rp.iload_n dX12_tells_166 rfl ?_
            first | ((with_reducible show Rp _ _ _ _ (.int (nI _) :: .int (nI _) :: _) _ _); refine Rp.icmp_neN (tgt := 221) dX12_tells_167 (by decide) (by omega) (fun c167 => ?_) (fun c167 => ?_)) | refine Rp.icmp_ne (tgt := 221) dX12_tells_167 (by decide) (fun c167 => ?_) (fun c167 => ?_)
            · skip
              first | (exfalso; omega) | exact absurd c167 (by decide) | exact absurd (by decide) c167
            · skip
              refine Rp.iload dX12_tells_170 rfl ?_
              first | ((with_reducible show Rp _ _ _ _ (.int (b2i _) :: _) _ _); refine Rp.if_eqB (tgt := 221) dX12_tells_172 (by decide) (fun c172 => ?_) (fun c172 => ?_)) | ((with_reducible show Rp _ _ _ _ (.int (nI _) :: _) _ _); refine Rp.if_eqN (tgt := 221) dX12_tells_172 (by decide) (by omega) (fun c172 => ?_) (fun c172 => ?_)) | refine Rp.if_eq (tgt := 221) dX12_tells_172 (by decide) (fun c172 => ?_) (fun c172 => ?_)
              · skip
                first | (exfalso; omega) | exact absurd c172 (by decide) | exact absurd (by decide) c172
              · skip
                refine Rp.aload_n dX12_tells_175 rfl rfl ?_
                refine Rp.getI dX12_tells_176 fk_X12_292 rfl (S _ _ rfl) ?_
                first | rw [ev_b] | skip
                first | ((with_reducible show Rp _ _ _ _ (.int (b2i _) :: _) _ _); refine Rp.if_neB (tgt := 221) dX12_tells_179 (by decide) (fun c179 => ?_) (fun c179 => ?_)) | ((with_reducible show Rp _ _ _ _ (.int (nI _) :: _) _ _); refine Rp.if_neN (tgt := 221) dX12_tells_179 (by decide) (by omega) (fun c179 => ?_) (fun c179 => ?_)) | refine Rp.if_ne (tgt := 221) dX12_tells_179 (by decide) (fun c179 => ?_) (fun c179 => ?_)
                · skip
                  first | (exfalso; omega) | exact absurd c179 (by decide) | exact absurd (by decide) c179
                · skip
                  refine Rp.iload dX12_tells_182 rfl ?_
                  first | ((with_reducible show Rp _ _ _ _ (.int (b2i _) :: _) _ _); refine Rp.if_neB (tgt := 221) dX12_tells_184 (by decide) (fun c184 => ?_) (fun c184 => ?_)) | ((with_reducible show Rp _ _ _ _ (.int (nI _) :: _) _ _); refine Rp.if_neN (tgt := 221) dX12_tells_184 (by decide) (by omega) (fun c184 => ?_) (fun c184 => ?_)) | refine Rp.if_ne (tgt := 221) dX12_tells_184 (by decide) (fun c184 => ?_) (fun c184 => ?_)
                  · skip
                    exact tells221 d S R g _ _ kk
                  · skip
                    first | (exfalso; omega) | exact absurd c184 (by decide) | exact absurd (by decide) c184
        · skip
          refine Rp.iload dX12_tells_164 rfl ?_
          refine Rp.iload_n dX12_tells_166 rfl ?_
          first | ((with_reducible show Rp _ _ _ _ (.int (nI _) :: .int (nI _) :: _) _ _); refine Rp.icmp_neN (tgt := 221) dX12_tells_167 (by decide) (by omega) (fun c167 => ?_) (fun c167 => ?_)) | refine Rp.icmp_ne (tgt := 221) dX12_tells_167 (by decide) (fun c167 => ?_) (fun c167 => ?_)
          · skip
            first | (exfalso; omega) | exact absurd c167 (by decide) | exact absurd (by decide) c167
          · skip
            refine Rp.iload dX12_tells_170 rfl ?_
            first | ((with_reducible show Rp _ _ _ _ (.int (b2i _) :: _) _ _); refine Rp.if_eqB (tgt := 221) dX12_tells_172 (by decide) (fun c172 => ?_) (fun c172 => ?_)) | ((with_reducible show Rp _ _ _ _ (.int (nI _) :: _) _ _); refine Rp.if_eqN (tgt := 221) dX12_tells_172 (by decide) (by omega) (fun c172 => ?_) (fun c172 => ?_)) | refine Rp.if_eq (tgt := 221) dX12_tells_172 (by decide) (fun c172 => ?_) (fun c172 => ?_)
            · skip
              first | (exfalso; omega) | exact absurd c172 (by decide) | exact absurd (by decide) c172
            · skip
              refine Rp.aload_n dX12_tells_175 rfl rfl ?_
              refine Rp.getI dX12_tells_176 fk_X12_292 rfl (S _ _ rfl) ?_
              first | rw [ev_b] | skip
              first | ((with_reducible show Rp _ _ _ _ (.int (b2i _) :: _) _ _); refine Rp.if_neB (tgt := 221) dX12_tells_179 (by decide) (fun c179 => ?_) (fun c179 => ?_)) | ((with_reducible show Rp _ _ _ _ (.int (nI _) :: _) _ _); refine Rp.if_neN (tgt := 221) dX12_tells_179 (by decide) (by omega) (fun c179 => ?_) (fun c179 => ?_)) | refine Rp.if_ne (tgt := 221) dX12_tells_179 (by decide) (fun c179 => ?_) (fun c179 => ?_)
              · skip
                exact tells221 d S R g _ _ kk
              · skip
                first | (exfalso; omega) | exact absurd c179 (by decide) | exact absurd (by decide) c179
    · skip
      refine Rp.iload dX12_tells_164 rfl ?_
      refine Rp.iload_n dX12_tells_166 rfl ?_
      first | ((with_reducible show Rp _ _ _ _ (.int (nI _) :: .int (nI _) :: _) _ _); refine Rp.icmp_neN (tgt := 221) dX12_tells_167 (by decide) (by omega) (fun c167 => ?_) (fun c167 => ?_)) | refine Rp.icmp_ne (tgt := 221) dX12_tells_167 (by decide) (fun c167 => ?_) (fun c167 => ?_)
      · skip
        exact tells221 d S R g _ _ kk
      · skip
        first | (exfalso; omega) | exact absurd c167 (by decide) | exact absurd (by decide) c167
theorem tlS_eq {hd lo hi told : Nat} {q : CLQ} {t b1 b2 : Bool} {y : Int} (hH : clH q w = true ↔ (t = true ∧ b2 = false)) (h1 : b1 = false → clV q w = some y) (h2 : b1 = true → clV q w = none) : (if q.1 + 1 = hd ∧ t = true ∧ b2 = false ∧ b1 = false then clmp lo hi y else told) = tlS hd lo hi w told q := by
  unfold tlS
  by_cases hq : q.1 + 1 = hd ∧ clH q w = true
  · rw [if_pos hq]
    have := hH.mp hq.2
    cases b1
    · rw [if_pos ⟨hq.1, this.1, this.2, rfl⟩, h1 rfl]
    · rw [if_neg (fun z => absurd z.2.2.2 (by decide)), h2 rfl]
  · rw [if_neg hq, if_neg (fun z => hq ⟨z.1, hH.mpr ⟨z.2.1, z.2.2.1⟩⟩)]
theorem z64_nI {n : Nat} (hn : n < 2147483648) : (Int64.ofInt (n : Int)).toInt32 = nI n := by
  rw [← nI64 hn, lg_l2i_i2l]
theorem tells71x (S : ShOK h) (R : RfOK h) {G told : Nat} (hG : G + 1 < 2147483648) (he : gI h aM fm_goEnd = nI G) (ht : told < 100) (b : Int32) (a1 a2 a3 a4 a5 a6 a7 b0 b1 b2 b3 b4 : Option Value) : Rp (d + 74) M_X12_tells 71 [some (.ref aM), a1, a2, a3, a4, a5, a6, a7, some (.long (Int64.ofInt (told : Int))), none, b0, b1, b2, b3, b4] [] (evH h (nI (G + 1)) b) (fun r h' => (∃ g b, h' = evH h g b) ∧ r = some (.int (nI told))) := by
  refine Rp.aload_n dX12_tells_71 rfl rfl ?_
  refine Rp.getI dX12_tells_72 fk_X12_282 rfl (S _ _ rfl) ?_
  first | rw [ev_g] | rw [ev_e, he] | skip
  refine Rp.aload_n dX12_tells_75 rfl rfl ?_
  refine Rp.getI dX12_tells_76 fk_X12_279 rfl (S _ _ rfl) ?_
  first | rw [ev_g] | rw [ev_e, he] | skip
  first | ((with_reducible show Rp _ _ _ _ (.int (nI _) :: .int (nI _) :: _) _ _); refine Rp.icmp_geN (tgt := 234) dX12_tells_79 (by decide) (by omega) (fun c79 => ?_) (fun c79 => ?_)) | refine Rp.icmp_ge (tgt := 234) dX12_tells_79 (by decide) (fun c79 => ?_) (fun c79 => ?_)
  · skip
    refine Rp.lload dX12_tells_234 rfl ?_
    refine Rp.l2i dX12_tells_236 ?_
    rw [z64_nI (by omega)]
    refine Rp.ireturn dX12_tells_237 rfl ?_
    exact ⟨⟨_, _, rfl⟩, rfl⟩
  · skip
    first | (exfalso; omega) | exact absurd c79 (by decide) | exact absurd (by decide) c79
theorem tells71 (S : ShOK h) (R : RfOK h) (K : EK h B c v T) (E : EO h false w) {f hd lo hi : Nat} (hh : hd < 10 ∧ lo ≤ hi ∧ hi < 100) (a2 a3 a4 : Option Value) (wo : Int32) : ∀ (k i lv a told : Nat) (L : List CLE) (b : Int32) (b0 b1 b2 b3 b4 : Option Value), rdL false c v T f k i lv a = .ok L → i ≤ T → lv ≤ 50 → told < 100 → Rp (d + 74) M_X12_tells 71 [some (.ref aM), some (.int (nI hd)), a2, a3, a4, some (.int (nI lo)), some (.int (nI hi)), some (.int wo), some (.long (Int64.ofInt (told : Int))), none, b0, b1, b2, b3, b4] [] (evH h (nI (B + i)) b) (fun r h' => (∃ g b, h' = evH h g b) ∧ r = some (.int (nI (tlN hd lo hi w told L)))) := by
  have hT := K.1
  have hc := K.2.1
  have he := K.2.2.1
  intro k
  induction k with
  | zero => intro i lv a told L b b0 b1 b2 b3 b4 hL hi1 hl ht; cases hL
  | succ k ih =>
    intro i lv a told L b z0 z1 z2 z3 z4 hL hi1 hl ht
    rw [rdL] at hL
    have oc := okC_R (ord := false) (c := c) (v := v) (f := f) (a := a) hc hi1 hl
    match hq : clR false c v f i lv a, hL, oc with
    | .ok (i', lv', cd, vb, tm, p, q, ts), hL, oc =>
      dsimp only at hL
      obtain ⟨ci, hvb, i1, lv1, a1, st1, st2⟩ := clR_invF hq
      obtain ⟨o1, o2, o3, -⟩ := oc
      have hiT := lt_of_code hc hi1 (by rw [ci]; exact Nat.succ_ne_zero _)
      have next : ∀ (n : Nat), n = tlS hd lo hi w told (vb, tm, p, q, ts) → ∀ (b : Int32) (b0 b1 b2 b3 b4 : Option Value), Rp (d + 74) M_X12_tells 71 [some (.ref aM), some (.int (nI hd)), a2, a3, a4, some (.int (nI lo)), some (.int (nI hi)), some (.int wo), some (.long (Int64.ofInt (n : Int))), none, b0, b1, b2, b3, b4] [] (evH h (nI (B + i' + 1)) b) (fun r h' => (∃ g b, h' = evH h g b) ∧ r = some (.int (nI (tlN hd lo hi w told L)))) := by
        intro n hn b b0 b1 b2 b3 b4
        have hn1 : n < 100 := by
          have := tlS_le (hd := hd) (w := w) (told := told) (q := (vb, tm, p, q, ts)) hh.2.1 (show told ≤ 99 by omega) (show hi ≤ 99 by omega)
          omega
        by_cases h159 : c i' = 159
        · rw [if_pos h159] at hL
          have hi2 := lt_of_code hc o2 (by rw [h159]; decide)
          match hr : rdL false c v T f k (i' + 1) lv' (a + cd.length), hL with
          | .ok L2, hL =>
            cases hL
            show Rp _ _ _ _ _ _ (fun r h' => (∃ g b, h' = evH h g b) ∧ r = some (.int (nI (tlN hd lo hi w (tlS hd lo hi w told (vb, tm, p, q, ts)) L2))))
            rw [← hn]
            exact ih (i' + 1) lv' _ n L2 b b0 b1 b2 b3 b4 hr hi2 o3 hn1
        · rw [if_neg h159] at hL
          by_cases h2 : i' < T
          · rw [if_pos h2] at hL; cases hL
          · rw [if_neg h2] at hL
            cases hL
            have e : i' = T := by omega
            subst e
            show Rp _ _ _ _ _ _ (fun r h' => (∃ g b, h' = evH h g b) ∧ r = some (.int (nI (tlS hd lo hi w told (vb, tm, p, q, ts)))))
            rw [← hn]
            exact tells71x d S R (by omega) he hn1 b _ _ _ _ _ _ _ _ _ _ _ _
      have i1T : i1 ≤ T ∧ lv1 ≤ 50 := by
        rcases st1 with ⟨-, cd1, D1, x1, -⟩ | ⟨-, rfl, rfl, -⟩
        · have o := Prs_ok (ord := false) (v := v) hc f 7 0 (i + 1) lv a (by decide) hiT hl
          rw [x1] at o
          exact ⟨o.2.1, o.2.2.2.1⟩
        · exact ⟨hiT, hl⟩
      have c128 : ∀ (x : Int64) (y : Int) (b1 : Bool), (b1 = false → x = Int64.ofInt y ∧ -1000000000 ≤ y ∧ y ≤ 1000000000) → (b1 = false → clV (vb, tm, p, q, ts) w = some y) → (b1 = true → clV (vb, tm, p, q, ts) w = none) → Rp (d + 74) M_X12_tells 128 [some (.ref aM), some (.int (nI hd)), a2, a3, a4, some (.int (nI lo)), some (.int (nI hi)), some (.int wo), some (.long (Int64.ofInt (told : Int))), none, some (.int (nI (vb + 1))), z1, z2, z3, z4] [.long x] (evH h (nI (B + i1)) (b2i b1)) (fun r h' => (∃ g b, h' = evH h g b) ∧ r = some (.int (nI (tlN hd lo hi w told L)))) := by
        intro x y b1 hx hv1 hv2
        have fin : ∀ (t b2 : Bool), (clH (vb, tm, p, q, ts) w = true ↔ (t = true ∧ b2 = false)) → Rp (d + 74) M_X12_tells 164 [some (.ref aM), some (.int (nI hd)), a2, a3, a4, some (.int (nI lo)), some (.int (nI hi)), some (.int wo), some (.long (Int64.ofInt (told : Int))), none, some (.int (nI (vb + 1))), some (.long x), none, some (.int (b2i b1)), some (.int (b2i t))] [] (evH h (nI (B + i')) (b2i b2)) (fun r h' => (∃ g b, h' = evH h g b) ∧ r = some (.int (nI (tlN hd lo hi w told L)))) := by
          intro t b2 hH
          exact tells164 d S R ⟨hh.1, hvb, hh.2⟩ hx a2 a3 a4 wo (fun n hn => next n (hn.trans (tlS_eq (q := (vb, tm, p, q, ts)) hH hv1 hv2)) _ _ _ _ _ _)
        refine Rp.lst11 dX12_tells_128 (by first | exact nl2_some rfl | exact nl2_none) (by decide) ?_
        refine Rp.aload_n dX12_tells_130 rfl rfl ?_
        refine Rp.getI dX12_tells_131 fk_X12_292 rfl (S _ _ rfl) ?_
        first | rw [ev_b] | skip
        refine Rp.ist13 dX12_tells_134 (by first | exact nl2_some rfl | exact nl2_none) (by decide) ?_
        refine Rp.aload_n dX12_tells_136 rfl rfl ?_
        refine Rp.iconst (nI 0) dX12_tells_137 (by decide) ?_
        refine Rp.putZ dX12_tells_138 fk_X12_292w rfl (by first | exact Or.inl rfl | exact Or.inr rfl | assumption) (S _ _ rfl) ?_
        first | rw [ev_sb] | skip
        refine Rp.aload_n dX12_tells_141 rfl rfl ?_
        refine Rp.iconst (nI 5) dX12_tells_142 (by decide) ?_
        refine Rp.callV1 M_X12_passes0 (ci := 12) dX12_tells_143 mo_X12_passes0 lk_X12_306 (by decide) rfl rfl (S _ _ rfl) (Nat.le_of_ble_eq_true rfl) (Nat.le_of_ble_eq_true rfl) (s_passes (d + 72) S R K i1T.1 (nI 0) 5 (by decide)) (fun v1 h1 p1 x1 => ?_)
        skip
        try dsimp only [Option.toList, List.cons_append, List.nil_append, List.append]
        skip
        rcases p1 with ⟨e5, rfl, rfl⟩ | ⟨e5, rfl, rfl⟩
        · dsimp only [Option.toList, List.cons_append, List.nil_append, List.append]
          rcases st2 with ⟨-, cd2, D2, x2, rfl⟩ | ⟨e0, -, -, -⟩
          · have hi1' := lt_of_code hc i1T.1 (by rw [e5]; decide)
            have q1 := C_all S R K E f 0 d 0 (i1 + 1) lv1 a1 i' lv' cd2 D2 true false (by decide) (by decide) hi1' i1T.2 x2
            have q1 : Rp (d + 73) M_X12_testOf 0 [some (.ref aM), some (.int (nI 1)), none, none] [] (evH h (nI (B + i1 + 1)) (nI 0)) (evT true false (D2 w 0) h (B + i')) := q1
            first | ((with_reducible show Rp _ _ _ _ (.int (b2i _) :: _) _ _); refine Rp.if_eqB (tgt := 157) dX12_tells_146 (by decide) (fun c146 => ?_) (fun c146 => ?_)) | ((with_reducible show Rp _ _ _ _ (.int (nI _) :: _) _ _); refine Rp.if_eqN (tgt := 157) dX12_tells_146 (by decide) (by omega) (fun c146 => ?_) (fun c146 => ?_)) | refine Rp.if_eq (tgt := 157) dX12_tells_146 (by decide) (fun c146 => ?_) (fun c146 => ?_)
            · first | (exfalso; omega) | exact absurd c146 (by decide) | exact absurd (by decide) c146
            refine Rp.aload_n dX12_tells_149 rfl rfl ?_
            refine Rp.iconst (nI 1) dX12_tells_150 (by decide) ?_
            refine Rp.callV1 M_X12_testOf (ci := 12) dX12_tells_151 mo_X12_testOf lk_X12_340 (by decide) rfl rfl (S _ _ rfl) (Nat.le_of_ble_eq_true rfl) (Nat.le_of_ble_eq_true rfl) (q1) (fun v1 h1 p1 x1 => ?_)
            obtain ⟨t, b2, rfl, rfl, p1⟩ := p1
            try dsimp only [Option.toList, List.cons_append, List.nil_append, List.append]
            skip
            unfold evCT at p1
            rw [if_pos ⟨rfl, rfl⟩] at p1
            have hH : clH (vb, tm, p, q, some (a1, D2)) w = true ↔ (t = true ∧ b2 = false) := by
              show decide (D2 w 0 = some 1) = true ↔ _
              rw [decide_eq_true_eq]
              match D2 w 0, p1 with
              | none, p1 => rw [p1]; exact ⟨(fun z => nomatch z), fun z => absurd z.2 (by decide)⟩
              | some y2, p1 =>
                obtain ⟨rfl, rfl⟩ := p1
                cases t
                · exact ⟨fun z => absurd z (by decide), fun z => absurd z.1 (by decide)⟩
                · exact ⟨fun z => ⟨rfl, rfl⟩, fun z => rfl⟩
            cases t
            · skip
              first | ((with_reducible show Rp _ _ _ _ (.int (b2i _) :: _) _ _); refine Rp.if_eqB (tgt := 161) dX12_tells_154 (by decide) (fun c154 => ?_) (fun c154 => ?_)) | ((with_reducible show Rp _ _ _ _ (.int (nI _) :: _) _ _); refine Rp.if_eqN (tgt := 161) dX12_tells_154 (by decide) (by omega) (fun c154 => ?_) (fun c154 => ?_)) | refine Rp.if_eq (tgt := 161) dX12_tells_154 (by decide) (fun c154 => ?_) (fun c154 => ?_)
              · skip
                refine Rp.iconst (nI 0) dX12_tells_161 (by decide) ?_
                refine Rp.ist14 dX12_tells_162 (by first | exact nl2_some rfl | exact nl2_none) (by decide) ?_
                exact fin false b2 hH
              · skip
                first | (exfalso; omega) | exact absurd c154 (by decide) | exact absurd (by decide) c154
            · skip
              first | ((with_reducible show Rp _ _ _ _ (.int (b2i _) :: _) _ _); refine Rp.if_eqB (tgt := 161) dX12_tells_154 (by decide) (fun c154 => ?_) (fun c154 => ?_)) | ((with_reducible show Rp _ _ _ _ (.int (nI _) :: _) _ _); refine Rp.if_eqN (tgt := 161) dX12_tells_154 (by decide) (by omega) (fun c154 => ?_) (fun c154 => ?_)) | refine Rp.if_eq (tgt := 161) dX12_tells_154 (by decide) (fun c154 => ?_) (fun c154 => ?_)
              · skip
                first | (exfalso; omega) | exact absurd c154 (by decide) | exact absurd (by decide) c154
              · skip
                refine Rp.iconst (nI 1) dX12_tells_157 (by decide) ?_
                refine Rp.goto (tgt := 162) dX12_tells_158 (by decide) ?_
                refine Rp.ist14 dX12_tells_162 (by first | exact nl2_some rfl | exact nl2_none) (by decide) ?_
                exact fin true b2 hH
          · exact absurd e5 e0
        · dsimp only [Option.toList, List.cons_append, List.nil_append, List.append]
          rcases st2 with ⟨e0, -⟩ | ⟨-, rfl, rfl, rfl⟩
          · exact absurd e0 e5
          · skip
            first | ((with_reducible show Rp _ _ _ _ (.int (b2i _) :: _) _ _); refine Rp.if_eqB (tgt := 157) dX12_tells_146 (by decide) (fun c146 => ?_) (fun c146 => ?_)) | ((with_reducible show Rp _ _ _ _ (.int (nI _) :: _) _ _); refine Rp.if_eqN (tgt := 157) dX12_tells_146 (by decide) (by omega) (fun c146 => ?_) (fun c146 => ?_)) | refine Rp.if_eq (tgt := 157) dX12_tells_146 (by decide) (fun c146 => ?_) (fun c146 => ?_)
            · skip
              refine Rp.iconst (nI 1) dX12_tells_157 (by decide) ?_
              refine Rp.goto (tgt := 162) dX12_tells_158 (by decide) ?_
              refine Rp.ist14 dX12_tells_162 (by first | exact nl2_some rfl | exact nl2_none) (by decide) ?_
              exact fin true false ⟨fun _ => ⟨rfl, rfl⟩, fun _ => rfl⟩
            · skip
              first | (exfalso; omega) | exact absurd c146 (by decide) | exact absurd (by decide) c146
      have hK := fun g b => s_codeAt (d + 73) S R K hi1 g b
      rw [ci] at hK
      rcases st1 with ⟨hv, cd1, D1, x1, rfl⟩ | ⟨hv, rfl, rfl, rfl⟩
      · have q1 := C_all S R K E f 7 (d + 4) 0 (i + 1) lv a i1 lv1 cd1 D1 true false (by decide) (by decide) hiT hl x1
        have q1 : Rp (d + 73) M_X12_sumOf 0 [some (.ref aM), some (.int (nI 1)), none, none, none, none, none] [] (evH h (nI (B + i + 1)) (nI 0)) (evS true false (D1 w 0) h (B + i1)) := q1
        refine Rp.aload_n dX12_tells_71 rfl rfl ?_
        refine Rp.getI dX12_tells_72 fk_X12_282 rfl (S _ _ rfl) ?_
        first | rw [ev_g] | rw [ev_e, he] | skip
        refine Rp.aload_n dX12_tells_75 rfl rfl ?_
        refine Rp.getI dX12_tells_76 fk_X12_279 rfl (S _ _ rfl) ?_
        first | rw [ev_g] | rw [ev_e, he] | skip
        first | ((with_reducible show Rp _ _ _ _ (.int (nI _) :: .int (nI _) :: _) _ _); refine Rp.icmp_geN (tgt := 234) dX12_tells_79 (by decide) (by omega) (fun c79 => ?_) (fun c79 => ?_)) | refine Rp.icmp_ge (tgt := 234) dX12_tells_79 (by decide) (fun c79 => ?_) (fun c79 => ?_)
        · skip
          first | (exfalso; omega) | exact absurd c79 (by decide) | exact absurd (by decide) c79
        · skip
          refine Rp.aload_n dX12_tells_82 rfl rfl ?_
          refine Rp.aload_n dX12_tells_83 rfl rfl ?_
          refine Rp.getI dX12_tells_84 fk_X12_282 rfl (S _ _ rfl) ?_
          first | rw [ev_g] | rw [ev_e, he] | skip
          refine Rp.callV1 M_X12_codeAt (ci := 12) dX12_tells_87 mo_X12_codeAt lk_X12_285 (by decide) rfl rfl (S _ _ rfl) (Nat.le_of_ble_eq_true rfl) (Nat.le_of_ble_eq_true rfl) (hK _ _) (fun v1 h1 p1 x1 => ?_)
          rw [p1.1, p1.2]
          try dsimp only [Option.toList, List.cons_append, List.nil_append, List.append]
          refine Rp.ist10 dX12_tells_90 (by first | exact nl2_some rfl | exact nl2_none) (by decide) ?_
          refine Rp.aload_n dX12_tells_92 rfl rfl ?_
          refine Rp.iconst (nI 0) dX12_tells_93 (by decide) ?_
          refine Rp.putZ dX12_tells_94 fk_X12_292w rfl (by first | exact Or.inl rfl | exact Or.inr rfl | assumption) (S _ _ rfl) ?_
          first | rw [ev_sb] | rw [ev_sg] | skip
          refine Rp.aload_n dX12_tells_97 rfl rfl ?_
          refine Rp.dup dX12_tells_98 rfl ?_
          refine Rp.getI dX12_tells_99 fk_X12_282 rfl (S _ _ rfl) ?_
          first | rw [ev_g] | rw [ev_e, he] | skip
          refine Rp.iconst (nI 1) dX12_tells_102 (by decide) ?_
          first | ((with_reducible show Rp _ _ _ _ (.int (nI _) :: .int (nI _) :: _) _ _); refine Rp.iaddN dX12_tells_103 ?_) | refine Rp.iadd dX12_tells_103 ?_
          refine Rp.putI dX12_tells_104 fk_X12_282w rfl (S _ _ rfl) ?_
          first | rw [ev_sb] | rw [ev_sg] | skip
          refine Rp.iload dX12_tells_107 rfl ?_
          refine Rp.iconst (nI 3) dX12_tells_109 (by decide) ?_
          first | ((with_reducible show Rp _ _ _ _ (.int (nI _) :: .int (nI _) :: _) _ _); refine Rp.icmp_eqN (tgt := 119) dX12_tells_110 (by decide) (by omega) (fun c110 => ?_) (fun c110 => ?_)) | refine Rp.icmp_eq (tgt := 119) dX12_tells_110 (by decide) (fun c110 => ?_) (fun c110 => ?_)
          · skip
            first | (exfalso; omega) | exact absurd c110 (by decide) | exact absurd (by decide) c110
          · skip
            refine Rp.iload dX12_tells_113 rfl ?_
            refine Rp.iconst (nI 4) dX12_tells_115 (by decide) ?_
            first | ((with_reducible show Rp _ _ _ _ (.int (nI _) :: .int (nI _) :: _) _ _); refine Rp.icmp_neN (tgt := 123) dX12_tells_116 (by decide) (by omega) (fun c116 => ?_) (fun c116 => ?_)) | refine Rp.icmp_ne (tgt := 123) dX12_tells_116 (by decide) (fun c116 => ?_) (fun c116 => ?_)
            · skip
              refine Rp.aload_n dX12_tells_123 rfl rfl ?_
              refine Rp.iconst (nI 1) dX12_tells_124 (by decide) ?_
              refine Rp.callV1 M_X12_sumOf (ci := 12) dX12_tells_125 mo_X12_sumOf lk_X12_309 (by decide) rfl rfl (S _ _ rfl) (Nat.le_of_ble_eq_true rfl) (Nat.le_of_ble_eq_true rfl) (q1) (fun v1 h1 p1 x1 => ?_)
              obtain ⟨x, b1, rfl, rfl, p1⟩ := p1
              try dsimp only [Option.toList, List.cons_append, List.nil_append, List.append]
              exact c128 x ((D1 w 0).getD 0) b1 (fun z => (evC_full p1 ⟨rfl, z⟩).2) (fun z => evC_some p1 ⟨rfl, z⟩) (fun z => evC_none p1 ⟨rfl, rfl⟩ z)
            · skip
              first | (exfalso; omega) | exact absurd c116 (by decide) | exact absurd (by decide) c116
      · by_cases h2 : vb = 2
        · skip
          refine Rp.aload_n dX12_tells_71 rfl rfl ?_
          refine Rp.getI dX12_tells_72 fk_X12_282 rfl (S _ _ rfl) ?_
          first | rw [ev_g] | rw [ev_e, he] | skip
          refine Rp.aload_n dX12_tells_75 rfl rfl ?_
          refine Rp.getI dX12_tells_76 fk_X12_279 rfl (S _ _ rfl) ?_
          first | rw [ev_g] | rw [ev_e, he] | skip
          first | ((with_reducible show Rp _ _ _ _ (.int (nI _) :: .int (nI _) :: _) _ _); refine Rp.icmp_geN (tgt := 234) dX12_tells_79 (by decide) (by omega) (fun c79 => ?_) (fun c79 => ?_)) | refine Rp.icmp_ge (tgt := 234) dX12_tells_79 (by decide) (fun c79 => ?_) (fun c79 => ?_)
          · skip
            first | (exfalso; omega) | exact absurd c79 (by decide) | exact absurd (by decide) c79
          · skip
            refine Rp.aload_n dX12_tells_82 rfl rfl ?_
            refine Rp.aload_n dX12_tells_83 rfl rfl ?_
            refine Rp.getI dX12_tells_84 fk_X12_282 rfl (S _ _ rfl) ?_
            first | rw [ev_g] | rw [ev_e, he] | skip
            refine Rp.callV1 M_X12_codeAt (ci := 12) dX12_tells_87 mo_X12_codeAt lk_X12_285 (by decide) rfl rfl (S _ _ rfl) (Nat.le_of_ble_eq_true rfl) (Nat.le_of_ble_eq_true rfl) (hK _ _) (fun v1 h1 p1 x1 => ?_)
            rw [p1.1, p1.2]
            try dsimp only [Option.toList, List.cons_append, List.nil_append, List.append]
            refine Rp.ist10 dX12_tells_90 (by first | exact nl2_some rfl | exact nl2_none) (by decide) ?_
            refine Rp.aload_n dX12_tells_92 rfl rfl ?_
            refine Rp.iconst (nI 0) dX12_tells_93 (by decide) ?_
            refine Rp.putZ dX12_tells_94 fk_X12_292w rfl (by first | exact Or.inl rfl | exact Or.inr rfl | assumption) (S _ _ rfl) ?_
            first | rw [ev_sb] | rw [ev_sg] | skip
            refine Rp.aload_n dX12_tells_97 rfl rfl ?_
            refine Rp.dup dX12_tells_98 rfl ?_
            refine Rp.getI dX12_tells_99 fk_X12_282 rfl (S _ _ rfl) ?_
            first | rw [ev_g] | rw [ev_e, he] | skip
            refine Rp.iconst (nI 1) dX12_tells_102 (by decide) ?_
            first | ((with_reducible show Rp _ _ _ _ (.int (nI _) :: .int (nI _) :: _) _ _); refine Rp.iaddN dX12_tells_103 ?_) | refine Rp.iadd dX12_tells_103 ?_
            refine Rp.putI dX12_tells_104 fk_X12_282w rfl (S _ _ rfl) ?_
            first | rw [ev_sb] | rw [ev_sg] | skip
            refine Rp.iload dX12_tells_107 rfl ?_
            refine Rp.iconst (nI 3) dX12_tells_109 (by decide) ?_
            first | ((with_reducible show Rp _ _ _ _ (.int (nI _) :: .int (nI _) :: _) _ _); refine Rp.icmp_eqN (tgt := 119) dX12_tells_110 (by decide) (by omega) (fun c110 => ?_) (fun c110 => ?_)) | refine Rp.icmp_eq (tgt := 119) dX12_tells_110 (by decide) (fun c110 => ?_) (fun c110 => ?_)
            · skip
              refine Rp.lconst (1) dX12_tells_119 (by decide) ?_
              refine Rp.goto (tgt := 128) dX12_tells_120 (by decide) ?_
              exact c128 1 1 false (fun _ => ⟨rfl, by decide, by decide⟩) (fun _ => rfl) (fun z => by cases z)
            · skip
              first | (exfalso; omega) | exact absurd c110 (by decide) | exact absurd (by decide) c110
        · skip
          refine Rp.aload_n dX12_tells_71 rfl rfl ?_
          refine Rp.getI dX12_tells_72 fk_X12_282 rfl (S _ _ rfl) ?_
          first | rw [ev_g] | rw [ev_e, he] | skip
          refine Rp.aload_n dX12_tells_75 rfl rfl ?_
          refine Rp.getI dX12_tells_76 fk_X12_279 rfl (S _ _ rfl) ?_
          first | rw [ev_g] | rw [ev_e, he] | skip
          first | ((with_reducible show Rp _ _ _ _ (.int (nI _) :: .int (nI _) :: _) _ _); refine Rp.icmp_geN (tgt := 234) dX12_tells_79 (by decide) (by omega) (fun c79 => ?_) (fun c79 => ?_)) | refine Rp.icmp_ge (tgt := 234) dX12_tells_79 (by decide) (fun c79 => ?_) (fun c79 => ?_)
          · skip
            first | (exfalso; omega) | exact absurd c79 (by decide) | exact absurd (by decide) c79
          · skip
            refine Rp.aload_n dX12_tells_82 rfl rfl ?_
            refine Rp.aload_n dX12_tells_83 rfl rfl ?_
            refine Rp.getI dX12_tells_84 fk_X12_282 rfl (S _ _ rfl) ?_
            first | rw [ev_g] | rw [ev_e, he] | skip
            refine Rp.callV1 M_X12_codeAt (ci := 12) dX12_tells_87 mo_X12_codeAt lk_X12_285 (by decide) rfl rfl (S _ _ rfl) (Nat.le_of_ble_eq_true rfl) (Nat.le_of_ble_eq_true rfl) (hK _ _) (fun v1 h1 p1 x1 => ?_)
            rw [p1.1, p1.2]
            try dsimp only [Option.toList, List.cons_append, List.nil_append, List.append]
            refine Rp.ist10 dX12_tells_90 (by first | exact nl2_some rfl | exact nl2_none) (by decide) ?_
            refine Rp.aload_n dX12_tells_92 rfl rfl ?_
            refine Rp.iconst (nI 0) dX12_tells_93 (by decide) ?_
            refine Rp.putZ dX12_tells_94 fk_X12_292w rfl (by first | exact Or.inl rfl | exact Or.inr rfl | assumption) (S _ _ rfl) ?_
            first | rw [ev_sb] | rw [ev_sg] | skip
            refine Rp.aload_n dX12_tells_97 rfl rfl ?_
            refine Rp.dup dX12_tells_98 rfl ?_
            refine Rp.getI dX12_tells_99 fk_X12_282 rfl (S _ _ rfl) ?_
            first | rw [ev_g] | rw [ev_e, he] | skip
            refine Rp.iconst (nI 1) dX12_tells_102 (by decide) ?_
            first | ((with_reducible show Rp _ _ _ _ (.int (nI _) :: .int (nI _) :: _) _ _); refine Rp.iaddN dX12_tells_103 ?_) | refine Rp.iadd dX12_tells_103 ?_
            refine Rp.putI dX12_tells_104 fk_X12_282w rfl (S _ _ rfl) ?_
            first | rw [ev_sb] | rw [ev_sg] | skip
            refine Rp.iload dX12_tells_107 rfl ?_
            refine Rp.iconst (nI 3) dX12_tells_109 (by decide) ?_
            first | ((with_reducible show Rp _ _ _ _ (.int (nI _) :: .int (nI _) :: _) _ _); refine Rp.icmp_eqN (tgt := 119) dX12_tells_110 (by decide) (by omega) (fun c110 => ?_) (fun c110 => ?_)) | refine Rp.icmp_eq (tgt := 119) dX12_tells_110 (by decide) (fun c110 => ?_) (fun c110 => ?_)
            · skip
              first | (exfalso; omega) | exact absurd c110 (by decide) | exact absurd (by decide) c110
            · skip
              refine Rp.iload dX12_tells_113 rfl ?_
              refine Rp.iconst (nI 4) dX12_tells_115 (by decide) ?_
              first | ((with_reducible show Rp _ _ _ _ (.int (nI _) :: .int (nI _) :: _) _ _); refine Rp.icmp_neN (tgt := 123) dX12_tells_116 (by decide) (by omega) (fun c116 => ?_) (fun c116 => ?_)) | refine Rp.icmp_ne (tgt := 123) dX12_tells_116 (by decide) (fun c116 => ?_) (fun c116 => ?_)
              · skip
                first | (exfalso; omega) | exact absurd c116 (by decide) | exact absurd (by decide) c116
              · skip
                refine Rp.lconst (1) dX12_tells_119 (by decide) ?_
                refine Rp.goto (tgt := 128) dX12_tells_120 (by decide) ?_
                exact c128 1 1 false (fun _ => ⟨rfl, by decide, by decide⟩) (fun _ => rfl) (fun z => by cases z)
/-- the law that a kept array has in force -/
def FlK (K : Nat → Int32) (fl : Option (List CLE)) : Prop := match fl with
  | none => K 108 = -1
  | some L => ∃ l, l < 6 ∧ K 108 = nI l ∧ LawK K l L
theorem s_tells (S : ShOK h) (R : RfOK h) {fl : Option (List CLE)} (hF : FlK (gI h am_kept) fl) {p : Nat} (hp : p < 6) {t e : Option Nat} (ht : ∀ x, t = some x → x < 8) (he : ∀ x, e = some x → x < 3) (hB : ∀ j, -1000000000 ≤ (wJ (gI h am_kept) p t e j).toInt ∧ (wJ (gI h am_kept) p t e j).toInt ≤ 1000000000) {hd lo hi wo : Nat} (hh : hd < 10 ∧ lo ≤ hi ∧ hi < 100) (hw : wo < 100) : Rp (d + 74) M_X12_tells 0 [some (.ref aM), some (.int (nI hd)), some (.int (nI p)), some (.int (oI t)), some (.int (oI e)), some (.int (nI lo)), some (.int (nI hi)), some (.int (nI wo)), none, none, none, none, none, none, none] [] h (fun r h' => Fr tlX h h' ∧ r = some (.int (nI (tlO fl hd lo hi (wJ (gI h am_kept) p t e) wo)))) := by
  match fl, hF with
  | none, hF =>
    have hF : gI h am_kept 108 = -1 := hF
    refine Rp.aload_n dX12_tells_0 rfl rfl ?_
    refine Rp.getR dX12_tells_1 fk_X12_24 rfl (S _ _ rfl) (R _ _ _ rfl) ?_
    refine Rp.bipush (nI 108) dX12_tells_4 (by decide) ?_
    first | ((with_reducible show Rp _ _ _ _ (.int (nI _) :: _) _ _); refine Rp.ialoadN dX12_tells_6 (S _ _ rfl) (by omega) ?_) | refine Rp.iaload dX12_tells_6 (S _ _ rfl) (by first | assumption | exact vpb (by decide)) ?_
    refine Rp.iconst (-1) dX12_tells_7 (by decide) ?_
    first | ((with_reducible show Rp _ _ _ _ (.int (nI _) :: .int (nI _) :: _) _ _); refine Rp.icmp_neN (tgt := 14) dX12_tells_8 (by decide) (by omega) (fun c8 => ?_) (fun c8 => ?_)) | refine Rp.icmp_ne (tgt := 14) dX12_tells_8 (by decide) (fun c8 => ?_) (fun c8 => ?_)
    · skip
      exact absurd hF c8
    · skip
      refine Rp.iload dX12_tells_11 rfl ?_
      refine Rp.ireturn dX12_tells_13 rfl ?_
      exact ⟨Fr.rfl', rfl⟩
  | some L, hF =>
    obtain ⟨l, hl, hK, T, c, v, f, hT, hc, hn, htk, hrd⟩ := hF
    have hne : ¬ gI h am_kept 108 = -1 := by rw [hK]; exact nI_ne_m1 (by omega)
    have main : ∀ g : AH, AsI h g (avJ (gI h am_kept) p t e) 9 → Rp (d + 74) M_X12_tells 22 [some (.ref aM), some (.int (nI hd)), some (.int (nI p)), some (.int (oI t)), some (.int (oI e)), some (.int (nI lo)), some (.int (nI hi)), some (.int (nI wo)), none, none, none, none, none, none, none] [] g (fun r h' => Fr tlX h h' ∧ r = some (.int (nI (tlO (some L) hd lo hi (wJ (gI h am_kept) p t e) wo)))) := by
      intro g I
      have S := I.1.S S
      have R := I.1.R R (by decide)
      have k108 : gI g am_kept 108 = nI l := by rw [I.1.I 102 108 rfl]; exact hK
      have k1 : gI (sI g aM fm_inOrders (nI 0)) am_kept 108 = nI l := by rw [gI_ne _ _ _ _ (by decide)]; exact k108
      have kg : gI (sI (sI g aM fm_inOrders (nI 0)) aM fm_go (nI (400 * l))) aM fm_go = nI (400 * l) := gI_hit _ _ _ _
      have k2 : gI (sI (sI g aM fm_inOrders (nI 0)) aM fm_go (nI (400 * l))) am_kept 108 = nI l := by rw [gI_ne _ _ _ _ (by decide)]; exact k1
      have k3 : gI (sI (sI g aM fm_inOrders (nI 0)) aM fm_go (nI (400 * l))) am_kept (109 + l) = nI T := by rw [gI_ne _ _ _ _ (by decide), gI_ne _ _ _ _ (by decide), I.1.I 102 _ rfl]; exact hn
      have ew : (nI wo).toInt64 = Int64.ofInt (wo : Int) := nI64 (by omega)
      have F3 : Fr tlX h (sI (sI (sI g aM fm_inOrders (nI 0)) aM fm_go (nI (400 * l))) aM fm_goEnd (nI (400 * l + T))) := ((I.1.sI rfl).sI rfl).sI rfl
      have EKh : EK (sI (sI (sI g aM fm_inOrders (nI 0)) aM fm_go (nI (400 * l))) aM fm_goEnd (nI (400 * l + T))) (400 * l) c v T := by
        refine ⟨by omega, hc, gI_hit _ _ _ _, fun k hk => ?_⟩
        rw [F3.I 102 _ rfl, F3.I 102 _ rfl]
        exact htk k hk
      have EOh : EO (sI (sI (sI g aM fm_inOrders (nI 0)) aM fm_go (nI (400 * l))) aM fm_goEnd (nI (400 * l + T))) false (wJ (gI h am_kept) p t e) := by
        refine ⟨?_, hB, fun _ k h1 h2 => ?_, fun z => nomatch z⟩
        · rw [gI_off _ _ _ (by decide), gI_off _ _ _ (by decide), gI_hit]; rfl
        · rw [gI_ne _ _ _ _ (by decide), gI_ne _ _ _ _ (by decide), gI_ne _ _ _ _ (by decide), I.2 (k - 9) (by omega)]
          unfold avJ
          rw [show k - 9 + 9 = k by omega]
      have heq : ∀ (x y : AH), x = evH x (gI x aM fm_go) (gI x aM fm_broken) := fun x _ => by
        unfold evH
        refine (ah_ext (h := x) (h' := sI (sI x aM fm_go (gI x aM fm_go)) aM fm_broken (gI x aM fm_broken)) rfl (fun a b => ?_) rfl).symm
        rw [gI_sI, gI_sI]
        by_cases h1 : a = aM
        · rw [if_pos h1, if_pos h1]
          by_cases h2 : b = fm_broken
          · rw [if_pos h2, h1, h2]
          · rw [if_neg h2]
            by_cases h3 : b = fm_go
            · rw [if_pos h3, h1, h3]
            · rw [if_neg h3]
        · rw [if_neg h1, if_neg h1]
      have q := tells71 d (h := sI (sI (sI g aM fm_inOrders (nI 0)) aM fm_go (nI (400 * l))) aM fm_goEnd (nI (400 * l + T))) S R EKh EOh hh (some (.int (nI p))) (some (.int (oI t))) (some (.int (oI e))) (nI wo) 12 0 0 0 wo L (gI (sI (sI (sI g aM fm_inOrders (nI 0)) aM fm_go (nI (400 * l))) aM fm_goEnd (nI (400 * l + T))) aM fm_broken) none none none none none hrd (Nat.zero_le _) (by decide) hw
      have egg : gI (sI (sI (sI g aM fm_inOrders (nI 0)) aM fm_go (nI (400 * l))) aM fm_goEnd (nI (400 * l + T))) aM fm_go = nI (400 * l + 0) := by rw [gI_off _ _ _ (by decide), gI_hit]; rfl
      rw [← egg, ← heq _ h] at q
      have q := Rp.mono (Q := fun r h' => Fr tlX h h' ∧ r = some (.int (nI (tlO (some L) hd lo hi (wJ (gI h am_kept) p t e) wo)))) (fun r h' p => by
        obtain ⟨⟨g1, b1, rfl⟩, p2⟩ := p
        exact ⟨(F3.sI rfl).sI rfl, p2⟩) q
      refine Rp.aload_n dX12_tells_22 rfl rfl ?_
      refine Rp.iconst (nI 0) dX12_tells_23 (by decide) ?_
      refine Rp.putZ dX12_tells_24 fk_X12_312w rfl (by first | exact Or.inl rfl | exact Or.inr rfl | assumption) (S _ _ rfl) ?_
      refine Rp.iload dX12_tells_27 rfl ?_
      refine Rp.i2l dX12_tells_29 ?_
      rw [ew]
      refine Rp.lst8 dX12_tells_30 (by first | exact nl2_some rfl | exact nl2_none) (by decide) ?_
      refine Rp.aload_n dX12_tells_32 rfl rfl ?_
      refine Rp.sipush (nI 400) dX12_tells_33 (by decide) ?_
      refine Rp.aload_n dX12_tells_36 rfl rfl ?_
      refine Rp.getR dX12_tells_37 fk_X12_24 rfl (S _ _ rfl) (R _ _ _ rfl) ?_
      refine Rp.bipush (nI 108) dX12_tells_40 (by decide) ?_
      first | ((with_reducible show Rp _ _ _ _ (.int (nI _) :: _) _ _); refine Rp.ialoadN dX12_tells_42 (S _ _ rfl) (by omega) ?_) | refine Rp.iaload dX12_tells_42 (S _ _ rfl) (by first | assumption | exact vpb (by decide)) ?_
      first | rw [k1] | rw [kg] | rw [k2] | rw [k3] | skip
      first | ((with_reducible show Rp _ _ _ _ (.int (nI _) :: .int (nI _) :: _) _ _); refine Rp.imulN dX12_tells_43 ?_) | refine Rp.imul dX12_tells_43 ?_
      refine Rp.putI dX12_tells_44 fk_X12_282w rfl (S _ _ rfl) ?_
      refine Rp.aload_n dX12_tells_47 rfl rfl ?_
      refine Rp.aload_n dX12_tells_48 rfl rfl ?_
      refine Rp.getI dX12_tells_49 fk_X12_282 rfl (S _ _ rfl) ?_
      first | rw [k1] | rw [kg] | rw [k2] | rw [k3] | skip
      refine Rp.aload_n dX12_tells_52 rfl rfl ?_
      refine Rp.getR dX12_tells_53 fk_X12_24 rfl (S _ _ rfl) (R _ _ _ rfl) ?_
      refine Rp.bipush (nI 109) dX12_tells_56 (by decide) ?_
      refine Rp.aload_n dX12_tells_58 rfl rfl ?_
      refine Rp.getR dX12_tells_59 fk_X12_24 rfl (S _ _ rfl) (R _ _ _ rfl) ?_
      refine Rp.bipush (nI 108) dX12_tells_62 (by decide) ?_
      first | ((with_reducible show Rp _ _ _ _ (.int (nI _) :: _) _ _); refine Rp.ialoadN dX12_tells_64 (S _ _ rfl) (by omega) ?_) | refine Rp.iaload dX12_tells_64 (S _ _ rfl) (by first | assumption | exact vpb (by decide)) ?_
      first | rw [k1] | rw [kg] | rw [k2] | rw [k3] | skip
      first | ((with_reducible show Rp _ _ _ _ (.int (nI _) :: .int (nI _) :: _) _ _); refine Rp.iaddN dX12_tells_65 ?_) | refine Rp.iadd dX12_tells_65 ?_
      first | ((with_reducible show Rp _ _ _ _ (.int (nI _) :: _) _ _); refine Rp.ialoadN dX12_tells_66 (S _ _ rfl) (by omega) ?_) | refine Rp.iaload dX12_tells_66 (S _ _ rfl) (by first | assumption | exact vpb (by decide)) ?_
      first | rw [k1] | rw [kg] | rw [k2] | rw [k3] | skip
      first | ((with_reducible show Rp _ _ _ _ (.int (nI _) :: .int (nI _) :: _) _ _); refine Rp.iaddN dX12_tells_67 ?_) | refine Rp.iadd dX12_tells_67 ?_
      refine Rp.putI dX12_tells_68 fk_X12_279w rfl (S _ _ rfl) ?_
      exact q
    refine Rp.aload_n dX12_tells_0 rfl rfl ?_
    refine Rp.getR dX12_tells_1 fk_X12_24 rfl (S _ _ rfl) (R _ _ _ rfl) ?_
    refine Rp.bipush (nI 108) dX12_tells_4 (by decide) ?_
    first | ((with_reducible show Rp _ _ _ _ (.int (nI _) :: _) _ _); refine Rp.ialoadN dX12_tells_6 (S _ _ rfl) (by omega) ?_) | refine Rp.iaload dX12_tells_6 (S _ _ rfl) (by first | assumption | exact vpb (by decide)) ?_
    refine Rp.iconst (-1) dX12_tells_7 (by decide) ?_
    first | ((with_reducible show Rp _ _ _ _ (.int (nI _) :: .int (nI _) :: _) _ _); refine Rp.icmp_neN (tgt := 14) dX12_tells_8 (by decide) (by omega) (fun c8 => ?_) (fun c8 => ?_)) | refine Rp.icmp_ne (tgt := 14) dX12_tells_8 (by decide) (fun c8 => ?_) (fun c8 => ?_)
    · skip
      refine Rp.aload_n dX12_tells_14 rfl rfl ?_
      refine Rp.iload_n dX12_tells_15 rfl ?_
      refine Rp.iload_n dX12_tells_16 rfl ?_
      refine Rp.iload dX12_tells_17 rfl ?_
      refine Rp.callV3 M_X12_setsAsked (ci := 12) dX12_tells_19 mo_X12_setsAsked lk_X12_343 (by decide) rfl rfl (S _ _ rfl) (Nat.le_of_ble_eq_true rfl) (Nat.le_of_ble_eq_true rfl) (s_setsAsked (d + 73) S R hp ht he) (fun v1 h1 p1 x1 => ?_)
      obtain ⟨rfl, p1⟩ := p1
      try dsimp only [Option.toList, List.cons_append, List.nil_append, List.append]
      exact main _ p1
    · skip
      exact absurd c8 hne

end Tl
