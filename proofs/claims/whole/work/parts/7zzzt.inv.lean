/-- what is known of what is kept -/
def KST (K : Nat → Int32) (np nt nd nl no : Nat) (LSs : Nat → List CLE) : Prop := VH K np nt ∧ KB K ∧ VN K nt ∧ VD K nd ∧ VT K no ∧ KW K ∧ (K 103 = nI np ∧ K 104 = nI nt ∧ K 105 = nI nd ∧ K 106 = nI no ∧ K 107 = nI nl) ∧ nl ≤ 6 ∧ (K 108 = -1 ∨ ∃ l, l < nl ∧ K 108 = nI l) ∧ (∀ l, l < nl → LawK K l (LSs l)) ∧ (∀ p t, p < 6 → t < 8 → (np ≤ p ∨ nt ≤ t) → K (19 + (8 * p + t)) = 0)
def cS (k j : Nat) : Bool := (decide (1 ≤ k) && decide (k < 17)) || (k == 113 || ((k == 100 && j == 32) || decide (129 ≤ k)))
def aS (k j : Nat) : Bool := k == 55 || (k == 52 && (j == 7 || (j == 10 || j == 11)))
def wS2 (k j : Nat) : Bool := k == 56 || (k == 52 && (j == 8 || j == 12))
def iS (k _j : Nat) : Bool := k == 34 || (k == 103 || (k == 104 || ((decide (68 ≤ k) && decide (k < 100)) || decide (129 ≤ k))))
def tS (k j : Nat) : Bool := k == 36 || (k == 106 || (k == 107 || ((k == 35 && (j == 2 || j == 3)) || (k == 100 && (j == 13 || j == 14)))))
def nS (k j : Nat) : Bool := k == 65 || (k == 101 || ((k == 0 && (j == 14 || (j == 15 || j == 16))) || (k == 100 && (j == 0 || (j == 6 || j == 50)))))
def dS (k j : Nat) : Bool := k == 66 || (k == 128 || (k == 100 && j == 58))
def zS (k j : Nat) : Bool := (k == 43 && decide (9 ≤ j)) || (k == 64 && decide (17 ≤ j))
def CORE (h : AH) (np nt nd nl no : Nat) (LSs : Nat → List CLE) (E : List Int32) (US : List (Nat → Int32)) : Prop := HG h 1 (gI h 102) np nt nd nl LSs E ∧ KST (gI h 102) np nt nd nl no LSs ∧ UR np nt (gI h 102) E US ∧ LGm h US
def CAB (h : AH) (K : Nat → Int32) (np nt nd nl : Nat) (LSs : Nat → List CLE) : Prop := ∃ kn, gI h 52 7 = b2i kn ∧ (kn = true → RSab h (abR K (flO nl LSs (K 108)) nd np nt))
def CWY (h : AH) (K : Nat → Int32) (np nt nd nl no : Nat) (LSs : Nat → List CLE) : Prop := ∃ kn, gI h 52 8 = b2i kn ∧ (kn = true → RSw K np no h (hdR K (flO nl LSs (K 108)) nd np nt no))
def KI (h : AH) (k : Nat) : Nat → Int32 := fun i => gI h 103 (5716 * k + i)
def IMG (h : AH) (k : Nat) : Prop := ∃ f, gI h 34 k = b2i f ∧ gI h 104 k = b2i f ∧ (f = true → ∃ np nt nd nl no LSs E, HG h (68 + 16 * k) (KI h k) np nt nd nl LSs E ∧ KST (KI h k) np nt nd nl no LSs)
def TAPE (h : AH) : Prop := ∃ L, L ≤ 400 ∧ gI h 35 2 = nI L ∧ gI h 100 13 = nI L ∧ gI h 107 = gI h 36 ∧ (∀ i, -128 ≤ (gI h 36 i).toInt ∧ (gI h 36 i).toInt ≤ 127) ∧ gI h 35 3 = gI h 100 14 ∧ WD h
def ANSW (h : AH) : Prop := gI h 0 14 = gI h 100 0 ∧ gI h 0 15 = gI h 100 6 ∧ gI h 0 16 = gI h 100 50 ∧ gI h 65 0 = gI h 101 1 ∧ gI h 65 1 = gI h 101 2 ∧ gI h 65 2 = gI h 101 3 ∧ gI h 65 3 = gI h 101 5 ∧ gI h 65 4 = gI h 101 6
def DRWN (h : AH) : Prop := ∃ m, m ≤ 6 ∧ (gI h 100 58 = nI m ∨ (m = 0 ∧ gI h 100 58 = -1)) ∧ ∀ p, p < 6 → gI h 66 p = if p < m then gI h 128 p else -1
def BAS (L : Nat) (xs : Nat → Int32) (n : Nat) (h : AH) : Prop := ShOK h ∧ RfOK h ∧ gS h = (L, xs) ∧ aN h ≤ 129 + 3 * n ∧ aZ h ≤ 40000 + 510 * n
def ZER (h : AH) : Prop := (∀ j, 9 ≤ j → gI h 43 j = 0) ∧ ∀ j, 17 ≤ j → gI h 64 j = 0
def Ivt (L : Nat) (xs : Nat → Int32) (n : Nat) (h : AH) : Prop := BAS L xs n h ∧ ZER h ∧ (∃ np nt nd nl no LSs E US, CORE h np nt nd nl no LSs E US ∧ CAB h (gI h 102) np nt nd nl LSs ∧ CWY h (gI h 102) np nt nd nl no LSs) ∧ (IMG h 0 ∧ IMG h 1) ∧ TAPE h ∧ ANSW h ∧ DRWN h
theorem Fr.fun {X : Nat → Nat → Bool} {h g : AH} (F : Fr X h g) {k : Nat} (hx : ∀ j, X k j = false) : gI g k = gI h k := funext fun j => F.I k j (hx j)
theorem CORE.fr {X : Nat → Nat → Bool} {h g : AH} {np nt nd nl no : Nat} {LSs : Nat → List CLE} {E : List Int32} {US : List (Nat → Int32)} (C : CORE h np nt nd nl no LSs E US) (F : Fr X h g) (e : gI g 102 = gI h 102) (hx : ∀ k j, cS k j = true → X k j = false) : CORE g np nt nd nl no LSs E US := by
  unfold CORE
  rw [e]
  refine ⟨C.1.fr F (fun o j ho => hx _ j ?_) (fun k j hk => hx k j ?_), C.2.1, C.2.2.1, C.2.2.2.fr F (hx 100 32 rfl) (fun j => hx 113 j rfl)⟩
  · simp only [cS, Bool.or_eq_true, Bool.and_eq_true, beq_iff_eq, decide_eq_true_eq]
    omega
  · simp only [cS, Bool.or_eq_true, Bool.and_eq_true, beq_iff_eq, decide_eq_true_eq]
    omega
theorem CAB.fr {X : Nat → Nat → Bool} {h g : AH} {K : Nat → Int32} {np nt nd nl : Nat} {LSs : Nat → List CLE} (C : CAB h K np nt nd nl LSs) (F : Fr X h g) (hx : ∀ k j, aS k j = true → X k j = false) : CAB g K np nt nd nl LSs := by
  obtain ⟨kn, e, w⟩ := C
  exact ⟨kn, (F.I 52 7 (hx 52 7 rfl)).trans e, fun q => (w q).fr F (hx 52 10 rfl) (hx 52 11 rfl) (fun j => hx 55 j rfl)⟩
theorem CWY.fr {X : Nat → Nat → Bool} {h g : AH} {K : Nat → Int32} {np nt nd nl no : Nat} {LSs : Nat → List CLE} (C : CWY h K np nt nd nl no LSs) (F : Fr X h g) (hc : ∀ k j, cS k j = true → X k j = false) (hx : ∀ k j, wS2 k j = true → X k j = false) : CWY g K np nt nd nl no LSs := by
  obtain ⟨kn, e, w⟩ := C
  exact ⟨kn, (F.I 52 8 (hx 52 8 rfl)).trans e, fun q => (w q).fr F (hc 1 12 rfl) (fun j => hc 11 j rfl) (fun j => hc 12 j rfl) (hx 52 12 rfl) (fun j => hx 56 j rfl)⟩
theorem IMG.fr {X : Nat → Nat → Bool} {h g : AH} {k : Nat} (hk : k < 2) (C : IMG h k) (F : Fr X h g) (hx : ∀ k j, iS k j = true → X k j = false) : IMG g k := by
  obtain ⟨f, e1, e2, w⟩ := C
  refine ⟨f, (F.I 34 k (hx 34 k rfl)).trans e1, (F.I 104 k (hx 104 k rfl)).trans e2, fun q => ?_⟩
  obtain ⟨np, nt, nd, nl, no, LSs, E, G, Q⟩ := w q
  have e : KI g k = KI h k := funext fun i => F.I 103 _ (hx 103 _ rfl)
  rw [e]
  refine ⟨np, nt, nd, nl, no, LSs, E, G.fr F (fun o j ho => hx _ j ?_) (fun k j hk => hx k j ?_), Q⟩
  · simp only [iS, Bool.or_eq_true, Bool.and_eq_true, beq_iff_eq, decide_eq_true_eq]
    omega
  · simp only [iS, Bool.or_eq_true, Bool.and_eq_true, beq_iff_eq, decide_eq_true_eq]
    omega
theorem TAPE.fr {X : Nat → Nat → Bool} {h g : AH} (C : TAPE h) (F : Fr X h g) (hx : ∀ k j, tS k j = true → X k j = false) : TAPE g := by
  obtain ⟨L, h1, h2, h3, h4, h5, h6, h7⟩ := C
  have e36 : gI g 36 = gI h 36 := F.fun (fun j => hx 36 j rfl)
  have e107 : gI g 107 = gI h 107 := F.fun (fun j => hx 107 j rfl)
  refine ⟨L, h1, (F.I 35 2 (hx 35 2 rfl)).trans h2, (F.I 100 13 (hx 100 13 rfl)).trans h3, by rw [e36, e107]; exact h4, by rw [e36]; exact h5, ?_, fun i hi => (F.I 106 i (hx 106 i rfl)).trans (h7 i hi)⟩
  rw [F.I 35 3 (hx 35 3 rfl), F.I 100 14 (hx 100 14 rfl)]
  exact h6
theorem ANSW.fr {X : Nat → Nat → Bool} {h g : AH} (C : ANSW h) (F : Fr X h g) (hx : ∀ k j, nS k j = true → X k j = false) : ANSW g := by
  unfold ANSW
  rw [F.I 0 14 (hx 0 14 rfl), F.I 0 15 (hx 0 15 rfl), F.I 0 16 (hx 0 16 rfl), F.I 100 0 (hx 100 0 rfl), F.I 100 6 (hx 100 6 rfl), F.I 100 50 (hx 100 50 rfl), F.fun (k := 65) (fun j => hx 65 j rfl), F.fun (k := 101) (fun j => hx 101 j rfl)]
  exact C
theorem DRWN.fr {X : Nat → Nat → Bool} {h g : AH} (C : DRWN h) (F : Fr X h g) (hx : ∀ k j, dS k j = true → X k j = false) : DRWN g := by
  unfold DRWN
  rw [F.I 100 58 (hx 100 58 rfl), F.fun (k := 66) (fun j => hx 66 j rfl), F.fun (k := 128) (fun j => hx 128 j rfl)]
  exact C
theorem ZER.fr {X : Nat → Nat → Bool} {h g : AH} (C : ZER h) (F : Fr X h g) (hx : ∀ k j, zS k j = true → X k j = false) : ZER g := by
  refine ⟨fun j hj => (F.I 43 j (hx 43 j ?_)).trans (C.1 j hj), fun j hj => (F.I 64 j (hx 64 j ?_)).trans (C.2 j hj)⟩
  · unfold zS
    rw [decide_eq_true hj]
    rfl
  · unfold zS
    rw [decide_eq_true hj]
    rfl
theorem BAS.fr {X : Nat → Nat → Bool} {L n : Nat} {xs : Nat → Int32} {h g : AH} (C : BAS L xs n h) (F : Fr X h g) (R : RfOK g) : BAS L xs n g := by
  refine ⟨F.S C.1, R, F.2.1.trans C.2.2.1, ?_, ?_⟩
  · have := C.2.2.2.1
    unfold aN at this ⊢
    rw [F.1]
    omega
  · have := C.2.2.2.2
    unfold aZ at this ⊢
    rw [F.1]
    omega
def Lv (k j : Nat) : Bool := cS k j || (aS k j || (wS2 k j || (iS k j || (tS k j || (nS k j || (dS k j || zS k j))))))
theorem Ivt.fr {X : Nat → Nat → Bool} {L n : Nat} {xs : Nat → Int32} {h g : AH} (C : Ivt L xs n h) (F : Fr X h g) (R : RfOK g) (e : gI g 102 = gI h 102) (hx : ∀ k j, Lv k j = true → X k j = false) : Ivt L xs n g := by
  obtain ⟨B, Z, ⟨np, nt, nd, nl, no, LSs, E, US, C1, C2, C3⟩, ⟨I0, I1⟩, T, A, D⟩ := C
  have xc : ∀ k j, cS k j = true → X k j = false := fun k j e => hx k j (by unfold Lv; rw [e]; rfl)
  have xa : ∀ k j, aS k j = true → X k j = false := fun k j e => hx k j (by unfold Lv; rw [e]; simp)
  have xw : ∀ k j, wS2 k j = true → X k j = false := fun k j e => hx k j (by unfold Lv; rw [e]; simp)
  have xi : ∀ k j, iS k j = true → X k j = false := fun k j e => hx k j (by unfold Lv; rw [e]; simp)
  have xt : ∀ k j, tS k j = true → X k j = false := fun k j e => hx k j (by unfold Lv; rw [e]; simp)
  have xn : ∀ k j, nS k j = true → X k j = false := fun k j e => hx k j (by unfold Lv; rw [e]; simp)
  have xd : ∀ k j, dS k j = true → X k j = false := fun k j e => hx k j (by unfold Lv; rw [e]; simp)
  have xz : ∀ k j, zS k j = true → X k j = false := fun k j e => hx k j (by unfold Lv; rw [e]; simp)
  exact ⟨B.fr F R, Z.fr F xz, ⟨np, nt, nd, nl, no, LSs, E, US, C1.fr F e xc, by rw [e]; exact C2.fr F xa, by rw [e]; exact C3.fr F xc xw⟩, ⟨I0.fr (by decide) F xi, I1.fr (by decide) F xi⟩, T.fr F xt, A.fr F xn, D.fr F xd⟩
theorem BAS.up {L n : Nat} {xs : Nat → Int32} {h : AH} (C : BAS L xs n h) : BAS L xs (n + 1) h := ⟨C.1, C.2.1, C.2.2.1, by have := C.2.2.2.1; omega, by have := C.2.2.2.2; omega⟩
theorem Ivt.up {L n : Nat} {xs : Nat → Int32} {h : AH} (C : Ivt L xs n h) : Ivt L xs (n + 1) h := ⟨C.1.up, C.2⟩
theorem inN_nI {l n : Nat} (h : l < n) (hn : n < 2147483648) : inN (nI l) n = true := (inN_iff hn).mpr ⟨l, h, rfl⟩
theorem inN_m1 (n : Nat) : inN (-1) n = false := inN_tl (by decide) n
/-- the law in force -/
theorem KST.fl {K : Nat → Int32} {np nt nd nl no : Nat} {LSs : Nat → List CLE} (Q : KST K np nt nd nl no LSs) : FlK K (flO nl LSs (K 108)) := by
  obtain ⟨-, -, -, -, -, -, -, hn, hf, hl, -⟩ := Q
  rcases hf with e | ⟨l, h1, e⟩
  · unfold flO
    rw [e, inN_m1, if_neg (by decide)]
    exact e
  · unfold flO
    rw [e, inN_nI h1 (by omega), if_pos rfl, ix_nI (by omega)]
    exact ⟨l, by omega, e, hl l h1⟩
theorem CORE.ma {h : AH} {np nt nd nl no : Nat} {LSs : Nat → List CLE} {E : List Int32} {US : List (Nat → Int32)} (S : ShOK h) (R : RfOK h) (C : CORE h np nt nd nl no LSs E US) : MA h (flO nl LSs (gI h 102 108)) np nt US := ⟨S, R, C.2.1.fl, C.2.1.2.1, C.2.1.1, C.2.1.2.2.2.2.2.2.1.1, C.2.1.2.2.2.2.2.2.1.2.1, C.2.2.2⟩
theorem CORE.mb {h : AH} {np nt nd nl no : Nat} {LSs : Nat → List CLE} {E : List Int32} {US : List (Nat → Int32)} (S : ShOK h) (R : RfOK h) (C : CORE h np nt nd nl no LSs E US) : MBd h (flO nl LSs (gI h 102 108)) np nt nd := ⟨S, R, C.2.1.fl, C.2.1.2.1, C.2.1.2.2.2.1, C.2.1.2.2.2.2.2.2.1.2.2.1, C.2.1.2.2.1, C.2.1.1, C.2.1.2.2.2.2.2.2.1.1⟩
