theorem u_byte {x : Int32} (h1 : -128 ≤ x.toInt) (h2 : x.toInt ≤ 127) : (0 ≤ x.toInt ∧ x &&& nI 255 = x) ∨ (x.toInt < 0 ∧ 128 ≤ (x &&& nI 255).toInt) := by
  have d : ∀ z : Fin 256, (0 ≤ (Int32.ofInt ((z.1 : Int) - 128)).toInt ∧ Int32.ofInt ((z.1 : Int) - 128) &&& nI 255 = Int32.ofInt ((z.1 : Int) - 128)) ∨ ((Int32.ofInt ((z.1 : Int) - 128)).toInt < 0 ∧ 128 ≤ (Int32.ofInt ((z.1 : Int) - 128) &&& nI 255).toInt) := by decide +kernel
  have e : x = Int32.ofInt ((((x.toInt + 128).toNat : Nat) : Int) - 128) := by
    rw [show (((x.toInt + 128).toNat : Nat) : Int) - 128 = x.toInt by omega]
    exact (Int32.ofInt_toInt x).symm
  have q := d ⟨(x.toInt + 128).toNat, by omega⟩
  rw [← e] at q
  exact q
theorem canU {x k : Int32} (x1 : -128 ≤ x.toInt) (x2 : x.toInt ≤ 127) (k1 : -128 ≤ k.toInt) (k2 : k.toInt ≤ 127) : canT (x &&& nI 255) (k &&& nI 255) = canT x k ∧ (canT x k = true → x &&& nI 255 = x ∧ k &&& nI 255 = k) := by
  have z1 : (nI 1).toInt = 1 := rfl
  have z2 : (nI 99).toInt = 99 := rfl
  rcases u_byte x1 x2 with ⟨a, b⟩ | ⟨a, b⟩
  · rcases u_byte k1 k2 with ⟨c, e⟩ | ⟨c, e⟩
    · rw [b, e]
      exact ⟨rfl, fun _ => ⟨rfl, rfl⟩⟩
    · have f1 : inN k 5 = false := by
        unfold inN
        exact decide_eq_false (by omega)
      have f2 : inN (k &&& nI 255) 5 = false := by
        unfold inN
        exact decide_eq_false (by omega)
      refine ⟨?_, fun z => ?_⟩
      · show (_ && inN (k &&& nI 255) 5) = (_ && inN k 5)
        rw [f1, f2, Bool.and_false, Bool.and_false]
      · rw [show canT x k = (_ && inN k 5) from rfl, f1, Bool.and_false] at z
        cases z
  · have f1 : decide (nI 1 ≤ x ∧ x ≤ nI 99) = false := by
      refine decide_eq_false ?_
      rw [i32_le, i32_le]
      omega
    have f2 : decide (nI 1 ≤ (x &&& nI 255) ∧ (x &&& nI 255) ≤ nI 99) = false := by
      refine decide_eq_false ?_
      rw [i32_le, i32_le]
      omega
    refine ⟨?_, fun z => ?_⟩
    · show (decide (nI 1 ≤ (x &&& nI 255) ∧ (x &&& nI 255) ≤ nI 99) && _) = (decide (nI 1 ≤ x ∧ x ≤ nI 99) && _)
      rw [f1, f2, Bool.false_and, Bool.false_and]
    · rw [show canT x k = (decide (nI 1 ≤ x ∧ x ≤ nI 99) && _) from rfl, f1, Bool.false_and] at z
      cases z
theorem canT_nat {a b : Int32} (c : canT a b = true) : ∃ x k, (1 ≤ x ∧ x ≤ 99) ∧ k < 5 ∧ a = nI x ∧ b = nI k := by
  rw [Bool.and_eq_true] at c
  obtain ⟨k0, hk, e2⟩ := (inN_iff (by omega)).mp c.2
  have q := of_decide_eq_true c.1
  rw [i32_le, i32_le] at q
  have q1 : (nI 1).toInt = 1 := rfl
  have q2 : (nI 99).toInt = 99 := rfl
  refine ⟨a.toInt.toNat, k0, by omega, hk, ?_, e2⟩
  rw [i32_eq, nI_toInt (by omega)]
  omega
/-- is a ticket taken from a row -/
def rwI (K : Nat → Int32) (nt : Nat) (x k : Int32) : Bool := canT x k && (!(nOf (fun i => K (67 + i)) x 0 nt) && decide (nt < 8))
def rwL (f : Nat → Int32) : Nat → Nat → (Nat → Int32) × Nat × Nat → (Nat → Int32) × Nat × Nat
  | 0, _, s => s
  | m + 1, i, (K, nt, c) => if rwI K nt (f i) (f (i + 1)) = true then rwL f m (i + 2) (tikK K nt (f i) (f (i + 1)), nt + 1, c + 1) else rwL f m (i + 2) (K, nt, c)
theorem HAc.tik {f f' : Nat → Nat → Int32} {K : Nat → Int32} {np nt nd nl : Nat} (H : HAc f K np nt nd nl) (hp : np ≤ 6) (hn : nt < 8) {x k : Int32} (e6 : f' 6 nt = x) (e7 : f' 7 nt = k) (e5 : f' 1 5 = nI (nt + 1)) (fo : ∀ a b, 1 ≤ a → a < 14 → ¬ (a = 6 ∧ b = nt) → ¬ (a = 7 ∧ b = nt) → ¬ (a = 1 ∧ b = 5) → f' a b = f a b) : HAc f' (tikK K nt x k) np (nt + 1) nd nl := by
  refine H.gen ((fo 1 0 (by omega) (by omega) (by omega) (by omega) (by omega)).trans H.1) e5 ((fo 1 9 (by omega) (by omega) (by omega) (by omega) (by omega)).trans H.2.2.1) ((fo 1 12 (by omega) (by omega) (by omega) (by omega) (by omega)).trans (H.2.2.2.1.trans (tikK_o (by omega)).symm)) ((fo 1 16 (by omega) (by omega) (by omega) (by omega) (by omega)).trans H.2.2.2.2.1) ((fo 1 18 (by omega) (by omega) (by omega) (by omega) (by omega)).trans (H.2.2.2.2.2.1.trans (tikK_o (by omega)).symm)) (fun t ht => ((fo 8 t (by omega) (by omega) (by omega) (by omega) (by omega)).trans (H.2.2.2.2.2.2.2.2.2.2.2.2.1 t ht)).trans (hOf_eqv np (fun q hq => (tikK_o (by omega)).symm))) (fun a j i r => ?_)
  by_cases c0 : a = 6 ∧ j = nt
  · refine Or.inr ?_
    rw [c0.1, c0.2, e6]
    unfold arK at r
    rw [show i = 67 + nt by omega]
    exact (tikK_n hn).symm
  by_cases c1 : a = 7 ∧ j = nt
  · refine Or.inr ?_
    rw [c1.1, c1.2, e7]
    unfold arK at r
    rw [show i = 75 + nt by omega]
    exact (tikK_k hn).symm
  exact Or.inl ⟨fo a j (by unfold arK at r; omega) (by unfold arK at r; omega) c0 c1 (by unfold arK at r; omega), tikK_o (by unfold arK at r; omega)⟩
def cwX (k j : Nat) : Bool := k == 6 || (k == 7 || ((k == 1 && j == 5) || (k == 0 && j == 15)))
section Rc
variable (d : Nat) {h : AH} {np nd nl no : Nat} {LSs : Nat → List CLE}
theorem t_byteAt (S : ShOK h) (R : RfOK h) {i Lt : Nat} (hL : Lt ≤ 400) (hl : gI h 35 2 = nI Lt) (hi : i < Lt) : Rp d M_X7_byteAt 0 [some (.ref 35), some (.int (nI i))] [] h (fun r h' => h' = h ∧ r = some (.int (gI h 36 i &&& nI 255))) := by
  refine Rp.iload_n dX7_byteAt_0 rfl ?_
  refine Rp.if_lt (tgt := 25) dX7_byteAt_1 (by decide) (fun c1 => ?_) (fun c1 => ?_)
  · skip
    exact absurd c1 (nI_pos (by omega))
  · skip
    refine Rp.iload_n dX7_byteAt_4 rfl ?_
    refine Rp.aload_n dX7_byteAt_5 rfl rfl ?_
    refine Rp.getI dX7_byteAt_6 fk_X7_26 rfl (S _ _ rfl) ?_
    first | rw [hl] | skip
    first | ((with_reducible show Rp _ _ _ _ (.int (nI _) :: .int (nI _) :: _) _ _); refine Rp.icmp_geN (tgt := 25) dX7_byteAt_9 (by decide) (by omega) (fun c9 => ?_) (fun c9 => ?_)) | refine Rp.icmp_ge (tgt := 25) dX7_byteAt_9 (by decide) (fun c9 => ?_) (fun c9 => ?_)
    · skip
      first | (exfalso; omega) | exact absurd c9 (by decide) | exact absurd (by decide) c9
    · skip
      refine Rp.aload_n dX7_byteAt_12 rfl rfl ?_
      refine Rp.getR dX7_byteAt_13 fk_X7_9 rfl (S _ _ rfl) (R _ _ _ rfl) ?_
      refine Rp.iload_n dX7_byteAt_16 rfl ?_
      first | ((with_reducible show Rp _ _ _ _ (.int (nI _) :: _) _ _); refine Rp.baloadN dX7_byteAt_17 (S _ _ rfl) (by omega) ?_) | refine Rp.baload dX7_byteAt_17 (S _ _ rfl) (by first | assumption | exact vpb (by decide)) ?_
      first | rw [hl] | skip
      refine Rp.sipush (nI 255) dX7_byteAt_18 (by decide) ?_
      refine Rp.iand dX7_byteAt_21 ?_
      refine Rp.goto (tgt := 26) dX7_byteAt_22 (by decide) ?_
      refine Rp.ireturn dX7_byteAt_26 rfl ?_
      exact ⟨rfl, rfl⟩
/-- what the class has behind some pairs -/
def CRI (h : AH) (np nd nl no : Nat) (LSs : Nat → List CLE) (K : Nat → Int32) (nt : Nat) (g : AH) : Prop := ShOK g ∧ RfOK g ∧ Fr cwX h g ∧ HAc (gI g) K np nt nd nl ∧ KST K np nt nd nl no LSs
theorem cTik_no {g : AH} {K : Nat → Int32} {nt : Nat} {x k : Int32} (hn : ∀ i, i < nt → gI g 6 i = K (67 + i)) (ht : nt ≤ 8) (c : rwI K nt x k = false) : ∃ z, (z = 1 ∨ z = 3 ∨ z = 5) ∧ cTik g x k nt = (-nI z, g) := by
  have en : numC g x nt = nOf (fun i => K (67 + i)) x 0 nt := nOf_cg nt 0 (fun i _ hi => hn i (by omega))
  unfold cTik
  by_cases c1 : canT x k = true
  · rw [if_pos c1]
    by_cases c2 : numC g x nt = true
    · exact ⟨3, by omega, if_pos c2⟩
    · rw [if_neg c2]
      by_cases c3 : nt = 8
      · exact ⟨5, by omega, if_pos c3⟩
      · exfalso
        unfold rwI at c
        rw [c1, ← en, Bool.eq_false_iff.mpr c2, decide_eq_true (show nt < 8 by omega)] at c
        cases c
  · exact ⟨1, by omega, if_neg c1⟩
theorem cTik_yes {g : AH} {K : Nat → Int32} {nt : Nat} {x k : Int32} (hn : ∀ i, i < nt → gI g 6 i = K (67 + i)) (c : rwI K nt x k = true) : nt < 8 ∧ canT x k = true ∧ nOf (fun i => K (67 + i)) x 0 nt = false ∧ cTik g x k nt = (nI nt, tkH g x k nt) := by
  have en : numC g x nt = nOf (fun i => K (67 + i)) x 0 nt := nOf_cg nt 0 (fun i _ hi => hn i (by omega))
  unfold rwI at c
  rw [Bool.and_eq_true] at c
  obtain ⟨c1, c2⟩ := c
  rw [Bool.and_eq_true, Bool.not_eq_true'] at c2
  have h8 := of_decide_eq_true c2.2
  refine ⟨h8, c1, c2.1, ?_⟩
  unfold cTik
  rw [if_pos c1, if_neg (by rw [en, c2.1]; decide), if_neg (by omega)]
theorem rwI_u {K : Nat → Int32} {nt : Nat} {x k : Int32} (x1 : -128 ≤ x.toInt ∧ x.toInt ≤ 127) (k1 : -128 ≤ k.toInt ∧ k.toInt ≤ 127) : rwI K nt (x &&& nI 255) (k &&& nI 255) = rwI K nt x k ∧ (rwI K nt x k = true → x &&& nI 255 = x ∧ k &&& nI 255 = k) := by
  have q := canU x1.1 x1.2 k1.1 k1.2
  by_cases c : canT x k = true
  · obtain ⟨a, b⟩ := q.2 c
    rw [a, b]
    exact ⟨rfl, fun _ => ⟨rfl, rfl⟩⟩
  · have c' := Bool.eq_false_iff.mpr c
    unfold rwI
    rw [q.1, c', Bool.false_and, Bool.false_and]
    exact ⟨rfl, fun z => by cases z⟩
theorem crow28 {P : Option Value → AH → Prop} {Lt b M : Nat} (hL : Lt ≤ 400) (eL : Lt = 2 * M + b) (hb : b ≤ 1) (l2 : gI h 35 2 = nI Lt) (hby : ∀ i, -128 ≤ (gI h 36 i).toInt ∧ (gI h 36 i).toInt ≤ 127) (Fn : (Nat → Int32) × Nat × Nat) (kk : ∀ g K nt c i, CRI h np nd nl no LSs K nt g → Fn = (K, nt, c) → c ≤ M → gI g 0 15 = nI (M - c + b) → Rp (d + 1) M_X11_row 90 [some (.ref 0), some (.int (nI Lt)), some (.int (nI c)), some (.int (nI i))] [] g P) : ∀ (m q : Nat) (g : AH) (K : Nat → Int32) (nt c : Nat), q + m = M → c ≤ q → CRI h np nd nl no LSs K nt g → gI g 0 15 = nI (q - c) → rwL (gI h 36) m (2 * q) (K, nt, c) = Fn → Rp (d + 1) M_X11_row 28 [some (.ref 0), some (.int (nI Lt)), some (.int (nI c)), some (.int (nI (2 * q)))] [] g P := by
  intro m
  induction m with
  | zero =>
    intro q g K nt c hq hc I es eF
    obtain ⟨S, R, F, H, Q⟩ := id I
    have eq : q = M := by omega
    by_cases b0 : b = 0
    · have k1 := kk g K nt c (2 * q) I eF.symm (by omega) (by rw [es, b0, eq]; rfl)
      refine Rp.iload_n dX11_row_28 rfl ?_
      refine Rp.iload_n dX11_row_29 rfl ?_
      first | ((with_reducible show Rp _ _ _ _ (.int (nI _) :: .int (nI _) :: _) _ _); refine Rp.icmp_geN (tgt := 90) dX11_row_30 (by decide) (by omega) (fun c30 => ?_) (fun c30 => ?_)) | refine Rp.icmp_ge (tgt := 90) dX11_row_30 (by decide) (fun c30 => ?_) (fun c30 => ?_)
      · skip
        exact k1
      · skip
        first | (exfalso; omega) | exact absurd c30 (by decide) | exact absurd (by decide) c30
    · have S2 : ShOK (sI g 0 15 (nI (q - c + 1))) := fun k z hz => S k z hz
      have k1 := kk (sI g 0 15 (nI (q - c + 1))) K nt c (2 * q + 2) ⟨S2, R.put _ _ _, F.sI rfl, H.cg (fun k j h1 h2 => gI_ne _ _ _ _ (by omega)), Q⟩ eF.symm (by omega) (by rw [gI_hit, eq, show b = 1 by omega])
      have k28 : Rp (d + 1) M_X11_row 28 [some (.ref 0), some (.int (nI Lt)), some (.int (nI c)), some (.int (nI (2 * q + 2)))] [] (sI g 0 15 (nI (q - c + 1))) P := by
        refine Rp.iload_n dX11_row_28 rfl ?_
        refine Rp.iload_n dX11_row_29 rfl ?_
        first | ((with_reducible show Rp _ _ _ _ (.int (nI _) :: .int (nI _) :: _) _ _); refine Rp.icmp_geN (tgt := 90) dX11_row_30 (by decide) (by omega) (fun c30 => ?_) (fun c30 => ?_)) | refine Rp.icmp_ge (tgt := 90) dX11_row_30 (by decide) (fun c30 => ?_) (fun c30 => ?_)
        · skip
          exact k1
        · skip
          first | (exfalso; omega) | exact absurd c30 (by decide) | exact absurd (by decide) c30
      refine Rp.iload_n dX11_row_28 rfl ?_
      refine Rp.iload_n dX11_row_29 rfl ?_
      first | ((with_reducible show Rp _ _ _ _ (.int (nI _) :: .int (nI _) :: _) _ _); refine Rp.icmp_geN (tgt := 90) dX11_row_30 (by decide) (by omega) (fun c30 => ?_) (fun c30 => ?_)) | refine Rp.icmp_ge (tgt := 90) dX11_row_30 (by decide) (fun c30 => ?_) (fun c30 => ?_)
      · skip
        first | (exfalso; omega) | exact absurd c30 (by decide) | exact absurd (by decide) c30
      · skip
        refine Rp.iload_n dX11_row_33 rfl ?_
        refine Rp.iconst (nI 1) dX11_row_34 (by decide) ?_
        first | ((with_reducible show Rp _ _ _ _ (.int (nI _) :: .int (nI _) :: _) _ _); refine Rp.iaddN dX11_row_35 ?_) | refine Rp.iadd dX11_row_35 ?_
        refine Rp.iload_n dX11_row_36 rfl ?_
        first | ((with_reducible show Rp _ _ _ _ (.int (nI _) :: .int (nI _) :: _) _ _); refine Rp.icmp_geN (tgt := 74) dX11_row_37 (by decide) (by omega) (fun c37 => ?_) (fun c37 => ?_)) | refine Rp.icmp_ge (tgt := 74) dX11_row_37 (by decide) (fun c37 => ?_) (fun c37 => ?_)
        · skip
          refine Rp.aload_n dX11_row_74 rfl rfl ?_
          refine Rp.dup dX11_row_75 rfl ?_
          refine Rp.getI dX11_row_76 fk_X11_197 rfl (S _ _ rfl) ?_
          first | rw [es] | skip
          refine Rp.iconst (nI 1) dX11_row_79 (by decide) ?_
          first | ((with_reducible show Rp _ _ _ _ (.int (nI _) :: .int (nI _) :: _) _ _); refine Rp.iaddN dX11_row_80 ?_) | refine Rp.iadd dX11_row_80 ?_
          refine Rp.putI dX11_row_81 fk_X11_197w rfl (S _ _ rfl) ?_
          first | ((with_reducible show Rp _ _ _ (_ :: _ :: _ :: some (.int (nI _)) :: _) _ _ _); refine Rp.inc3N (c := 2) dX11_row_84 (by first | exact nl2_some rfl | exact nl2_none) (by decide) ?_) | refine Rp.inc3 _ dX11_row_84 rfl (by first | exact nl2_some rfl | exact nl2_none) (by decide) ?_
          refine Rp.goto (tgt := 28) dX11_row_87 (by decide) ?_
          exact k28
        · skip
          first | (exfalso; omega) | exact absurd c37 (by decide) | exact absurd (by decide) c37
  | succ m ih =>
    intro q g K nt c hq hc I es eF
    obtain ⟨S, R, F, H, Q⟩ := id I
    have g2 : gI g 35 2 = nI Lt := (F.I 35 2 rfl).trans l2
    have g36 : ∀ i, gI g 36 i = gI h 36 i := fun i => F.I 36 i rfl
    have ba := t_byteAt d S R (i := 2 * q) hL g2 (by omega)
    have bb := t_byteAt d S R (i := 2 * q + 1) hL g2 (by omega)
    rw [g36] at ba bb
    have v2 := Q.1.2.1
    have at' := t_addTicket d S R (gI h 36 (2 * q) &&& nI 255) (gI h 36 (2 * q + 1) &&& nI 255) v2 H.2.1
    have hn : ∀ i, i < nt → gI g 6 i = K (67 + i) := fun i hi => H.cel (Or.inr (Or.inr (Or.inr (Or.inr (Or.inl ⟨rfl, by omega, rfl⟩)))))
    have ru := rwI_u (K := K) (nt := nt) (hby (2 * q)) (hby (2 * q + 1))
    rw [rwL] at eF
    by_cases c1 : rwI K nt (gI h 36 (2 * q)) (gI h 36 (2 * q + 1)) = true
    · obtain ⟨u1, u2⟩ := ru.2 c1
      rw [u1, u2] at at' 
      obtain ⟨h8, cT1, nn, ec⟩ := cTik_yes hn c1
      rw [ec] at at'
      rw [if_pos c1] at eF
      have n0 : ¬ nI nt < 0 := nI_pos (by omega)
      obtain ⟨x, k, hx, hk, ex, ek⟩ := canT_nat cT1
      have S2 : ShOK (tkH g (gI h 36 (2 * q)) (gI h 36 (2 * q + 1)) nt) := fun k z hz => S k z hz
      have I2 : CRI h np nd nl no LSs (tikK K nt (gI h 36 (2 * q)) (gI h 36 (2 * q + 1))) (nt + 1) (tkH g (gI h 36 (2 * q)) (gI h 36 (2 * q + 1)) nt) := by
        refine ⟨S2, ((R.put _ _ _).put _ _ _).put _ _ _, ((F.sI rfl).sI rfl).sI rfl, H.tik Q.1.1 h8 ?_ ?_ ?_ (fun a b' _ _ q1 q2 q3 => ?_), ?_⟩
        · show gI (sI (sI (sI g 6 nt _) 7 nt _) 1 5 _) 6 nt = _
          rw [gI_o _ _ (by omega), gI_o _ _ (by omega), gI_hit]
        · show gI (sI (sI (sI g 6 nt _) 7 nt _) 1 5 _) 7 nt = _
          rw [gI_o _ _ (by omega), gI_hit]
        · exact gI_hit _ _ _ _
        · show gI (sI (sI (sI g 6 nt _) 7 nt _) 1 5 _) a b' = _
          rw [gI_o _ _ q3, gI_o _ _ q2, gI_o _ _ q1]
        · rw [ex] at nn ⊢
          rw [ek]
          exact Q.tik h8 hx hk (fun i hi => nOf_no nt 0 nn i (by omega) (by omega))
      have k28 := ih (q + 1) (tkH g (gI h 36 (2 * q)) (gI h 36 (2 * q + 1)) nt) _ _ (c + 1) (by omega) (by omega) I2 (by rw [show q + 1 - (c + 1) = q - c by omega]; exact es) eF
      rw [show 2 * (q + 1) = 2 * q + 2 by omega] at k28
      rw [u1] at ba
      rw [u2] at bb
      refine Rp.iload_n dX11_row_28 rfl ?_
      refine Rp.iload_n dX11_row_29 rfl ?_
      first | ((with_reducible show Rp _ _ _ _ (.int (nI _) :: .int (nI _) :: _) _ _); refine Rp.icmp_geN (tgt := 90) dX11_row_30 (by decide) (by omega) (fun c30 => ?_) (fun c30 => ?_)) | refine Rp.icmp_ge (tgt := 90) dX11_row_30 (by decide) (fun c30 => ?_) (fun c30 => ?_)
      · skip
        first | (exfalso; omega) | exact absurd c30 (by decide) | exact absurd (by decide) c30
      · skip
        refine Rp.iload_n dX11_row_33 rfl ?_
        refine Rp.iconst (nI 1) dX11_row_34 (by decide) ?_
        first | ((with_reducible show Rp _ _ _ _ (.int (nI _) :: .int (nI _) :: _) _ _); refine Rp.iaddN dX11_row_35 ?_) | refine Rp.iadd dX11_row_35 ?_
        refine Rp.iload_n dX11_row_36 rfl ?_
        first | ((with_reducible show Rp _ _ _ _ (.int (nI _) :: .int (nI _) :: _) _ _); refine Rp.icmp_geN (tgt := 74) dX11_row_37 (by decide) (by omega) (fun c37 => ?_) (fun c37 => ?_)) | refine Rp.icmp_ge (tgt := 74) dX11_row_37 (by decide) (fun c37 => ?_) (fun c37 => ?_)
        · skip
          first | (exfalso; omega) | exact absurd c37 (by decide) | exact absurd (by decide) c37
        · skip
          refine Rp.aload_n dX11_row_40 rfl rfl ?_
          refine Rp.getR dX11_row_41 fk_X11_10 rfl (S _ _ rfl) (R _ _ _ rfl) ?_
          refine Rp.aload_n dX11_row_44 rfl rfl ?_
          refine Rp.getR dX11_row_45 fk_X11_30 rfl (S _ _ rfl) (R _ _ _ rfl) ?_
          refine Rp.iload_n dX11_row_48 rfl ?_
          refine Rp.callV1 M_X7_byteAt (ci := 7) dX11_row_49 mo_X7_byteAt lk_X11_200 (by decide) rfl rfl (S _ _ rfl) (Nat.le_of_ble_eq_true rfl) (Nat.le_of_ble_eq_true rfl) (ba) (fun v1 h1 p1 x1 => ?_)
          rw [p1.1, p1.2]
          try dsimp only [Option.toList, List.cons_append, List.nil_append, List.append]
          refine Rp.aload_n dX11_row_52 rfl rfl ?_
          refine Rp.getR dX11_row_53 fk_X11_30 rfl (S _ _ rfl) (R _ _ _ rfl) ?_
          refine Rp.iload_n dX11_row_56 rfl ?_
          refine Rp.iconst (nI 1) dX11_row_57 (by decide) ?_
          first | ((with_reducible show Rp _ _ _ _ (.int (nI _) :: .int (nI _) :: _) _ _); refine Rp.iaddN dX11_row_58 ?_) | refine Rp.iadd dX11_row_58 ?_
          refine Rp.callV1 M_X7_byteAt (ci := 7) dX11_row_59 mo_X7_byteAt lk_X11_200 (by decide) rfl rfl (S _ _ rfl) (Nat.le_of_ble_eq_true rfl) (Nat.le_of_ble_eq_true rfl) (bb) (fun v1 h1 p1 x1 => ?_)
          rw [p1.1, p1.2]
          try dsimp only [Option.toList, List.cons_append, List.nil_append, List.append]
          refine Rp.callV2 M_X2_addTicket (ci := 2) dX11_row_62 mo_X2_addTicket lk_X11_149 (by decide) rfl rfl (S _ _ rfl) (Nat.le_of_ble_eq_true rfl) (Nat.le_of_ble_eq_true rfl) (at') (fun v1 h1 p1 x1 => ?_)
          rw [p1.1, p1.2]
          try dsimp only [Option.toList, List.cons_append, List.nil_append, List.append]
          refine Rp.if_lt (tgt := 74) dX11_row_65 (by decide) (fun c65 => ?_) (fun c65 => ?_)
          · skip
            exact absurd c65 n0
          · skip
            first | ((with_reducible show Rp _ _ _ (_ :: _ :: some (.int (nI _)) :: _) _ _ _); refine Rp.inc2N (c := 1) dX11_row_68 (by first | exact nl2_some rfl | exact nl2_none) (by decide) ?_) | refine Rp.inc2 _ dX11_row_68 rfl (by first | exact nl2_some rfl | exact nl2_none) (by decide) ?_
            refine Rp.goto (tgt := 84) dX11_row_71 (by decide) ?_
            first | ((with_reducible show Rp _ _ _ (_ :: _ :: _ :: some (.int (nI _)) :: _) _ _ _); refine Rp.inc3N (c := 2) dX11_row_84 (by first | exact nl2_some rfl | exact nl2_none) (by decide) ?_) | refine Rp.inc3 _ dX11_row_84 rfl (by first | exact nl2_some rfl | exact nl2_none) (by decide) ?_
            refine Rp.goto (tgt := 28) dX11_row_87 (by decide) ?_
            exact k28
    · have c1' := Bool.eq_false_iff.mpr c1
      obtain ⟨z, hz, ec⟩ := cTik_no (g := g) (x := gI h 36 (2 * q) &&& nI 255) (k := gI h 36 (2 * q + 1) &&& nI 255) hn v2 (ru.1.trans c1')
      rw [ec] at at'
      rw [if_neg c1] at eF
      have n0 : -nI z < 0 := by
        rcases hz with rfl | rfl | rfl <;> decide
      have S2 : ShOK (sI g 0 15 (nI (q - c + 1))) := fun k z hz => S k z hz
      have k28 := ih (q + 1) (sI g 0 15 (nI (q - c + 1))) K nt c (by omega) (by omega) ⟨S2, R.put _ _ _, F.sI rfl, H.cg (fun k j h1 h2 => gI_ne _ _ _ _ (by omega)), Q⟩ (by rw [gI_hit]; congr 1; omega) eF
      rw [show 2 * (q + 1) = 2 * q + 2 by omega] at k28
      refine Rp.iload_n dX11_row_28 rfl ?_
      refine Rp.iload_n dX11_row_29 rfl ?_
      first | ((with_reducible show Rp _ _ _ _ (.int (nI _) :: .int (nI _) :: _) _ _); refine Rp.icmp_geN (tgt := 90) dX11_row_30 (by decide) (by omega) (fun c30 => ?_) (fun c30 => ?_)) | refine Rp.icmp_ge (tgt := 90) dX11_row_30 (by decide) (fun c30 => ?_) (fun c30 => ?_)
      · skip
        first | (exfalso; omega) | exact absurd c30 (by decide) | exact absurd (by decide) c30
      · skip
        refine Rp.iload_n dX11_row_33 rfl ?_
        refine Rp.iconst (nI 1) dX11_row_34 (by decide) ?_
        first | ((with_reducible show Rp _ _ _ _ (.int (nI _) :: .int (nI _) :: _) _ _); refine Rp.iaddN dX11_row_35 ?_) | refine Rp.iadd dX11_row_35 ?_
        refine Rp.iload_n dX11_row_36 rfl ?_
        first | ((with_reducible show Rp _ _ _ _ (.int (nI _) :: .int (nI _) :: _) _ _); refine Rp.icmp_geN (tgt := 74) dX11_row_37 (by decide) (by omega) (fun c37 => ?_) (fun c37 => ?_)) | refine Rp.icmp_ge (tgt := 74) dX11_row_37 (by decide) (fun c37 => ?_) (fun c37 => ?_)
        · skip
          first | (exfalso; omega) | exact absurd c37 (by decide) | exact absurd (by decide) c37
        · skip
          refine Rp.aload_n dX11_row_40 rfl rfl ?_
          refine Rp.getR dX11_row_41 fk_X11_10 rfl (S _ _ rfl) (R _ _ _ rfl) ?_
          refine Rp.aload_n dX11_row_44 rfl rfl ?_
          refine Rp.getR dX11_row_45 fk_X11_30 rfl (S _ _ rfl) (R _ _ _ rfl) ?_
          refine Rp.iload_n dX11_row_48 rfl ?_
          refine Rp.callV1 M_X7_byteAt (ci := 7) dX11_row_49 mo_X7_byteAt lk_X11_200 (by decide) rfl rfl (S _ _ rfl) (Nat.le_of_ble_eq_true rfl) (Nat.le_of_ble_eq_true rfl) (ba) (fun v1 h1 p1 x1 => ?_)
          rw [p1.1, p1.2]
          try dsimp only [Option.toList, List.cons_append, List.nil_append, List.append]
          refine Rp.aload_n dX11_row_52 rfl rfl ?_
          refine Rp.getR dX11_row_53 fk_X11_30 rfl (S _ _ rfl) (R _ _ _ rfl) ?_
          refine Rp.iload_n dX11_row_56 rfl ?_
          refine Rp.iconst (nI 1) dX11_row_57 (by decide) ?_
          first | ((with_reducible show Rp _ _ _ _ (.int (nI _) :: .int (nI _) :: _) _ _); refine Rp.iaddN dX11_row_58 ?_) | refine Rp.iadd dX11_row_58 ?_
          refine Rp.callV1 M_X7_byteAt (ci := 7) dX11_row_59 mo_X7_byteAt lk_X11_200 (by decide) rfl rfl (S _ _ rfl) (Nat.le_of_ble_eq_true rfl) (Nat.le_of_ble_eq_true rfl) (bb) (fun v1 h1 p1 x1 => ?_)
          rw [p1.1, p1.2]
          try dsimp only [Option.toList, List.cons_append, List.nil_append, List.append]
          refine Rp.callV2 M_X2_addTicket (ci := 2) dX11_row_62 mo_X2_addTicket lk_X11_149 (by decide) rfl rfl (S _ _ rfl) (Nat.le_of_ble_eq_true rfl) (Nat.le_of_ble_eq_true rfl) (at') (fun v1 h1 p1 x1 => ?_)
          rw [p1.1, p1.2]
          try dsimp only [Option.toList, List.cons_append, List.nil_append, List.append]
          refine Rp.if_lt (tgt := 74) dX11_row_65 (by decide) (fun c65 => ?_) (fun c65 => ?_)
          · skip
            refine Rp.aload_n dX11_row_74 rfl rfl ?_
            refine Rp.dup dX11_row_75 rfl ?_
            refine Rp.getI dX11_row_76 fk_X11_197 rfl (S _ _ rfl) ?_
            first | rw [es] | skip
            refine Rp.iconst (nI 1) dX11_row_79 (by decide) ?_
            first | ((with_reducible show Rp _ _ _ _ (.int (nI _) :: .int (nI _) :: _) _ _); refine Rp.iaddN dX11_row_80 ?_) | refine Rp.iadd dX11_row_80 ?_
            refine Rp.putI dX11_row_81 fk_X11_197w rfl (S _ _ rfl) ?_
            first | ((with_reducible show Rp _ _ _ (_ :: _ :: _ :: some (.int (nI _)) :: _) _ _ _); refine Rp.inc3N (c := 2) dX11_row_84 (by first | exact nl2_some rfl | exact nl2_none) (by decide) ?_) | refine Rp.inc3 _ dX11_row_84 rfl (by first | exact nl2_some rfl | exact nl2_none) (by decide) ?_
            refine Rp.goto (tgt := 28) dX11_row_87 (by decide) ?_
            exact k28
          · skip
            exact absurd n0 c65
theorem t_row0 (S : ShOK h) (R : RfOK h) (l2 : gI h 35 2 = nI 0) : Rp (d + 1) M_X11_row 0 [some (.ref 0), none, none, none] [] h (fun r h' => h' = rcH h 6 ∧ r = some (.int (-nI 6))) := by
  have rf := t_refused d S R 6 (by decide)
  refine Rp.aload_n dX11_row_0 rfl rfl ?_
  refine Rp.getR dX11_row_1 fk_X11_30 rfl (S _ _ rfl) (R _ _ _ rfl) ?_
  refine Rp.getI dX11_row_4 fk_X11_190 rfl (S _ _ rfl) ?_
  first | rw [l2] | skip
  refine Rp.ist1 dX11_row_7 (by first | exact nl2_some rfl | exact nl2_none) (by decide) ?_
  refine Rp.iload_n dX11_row_8 rfl ?_
  first | ((with_reducible show Rp _ _ _ _ (.int (b2i _) :: _) _ _); refine Rp.if_neB (tgt := 19) dX11_row_9 (by decide) (fun c9 => ?_) (fun c9 => ?_)) | ((with_reducible show Rp _ _ _ _ (.int (nI _) :: _) _ _); refine Rp.if_neN (tgt := 19) dX11_row_9 (by decide) (by omega) (fun c9 => ?_) (fun c9 => ?_)) | refine Rp.if_ne (tgt := 19) dX11_row_9 (by decide) (fun c9 => ?_) (fun c9 => ?_)
  · skip
    first | (exfalso; omega) | exact absurd c9 (by decide) | exact absurd (by decide) c9
  · skip
    refine Rp.aload_n dX11_row_12 rfl rfl ?_
    refine Rp.bipush (-6) dX11_row_13 (by decide) ?_
    refine Rp.callV1 M_X11_refused (ci := 11) dX11_row_15 mo_X11_refused lk_X11_109 (by decide) rfl rfl (S _ _ rfl) (Nat.le_of_ble_eq_true rfl) (Nat.le_of_ble_eq_true rfl) (rf) (fun v1 h1 p1 x1 => ?_)
    rw [p1.1, p1.2]
    try dsimp only [Option.toList, List.cons_append, List.nil_append, List.append]
    refine Rp.ireturn dX11_row_18 rfl ?_
    exact ⟨rfl, rfl⟩
theorem t_row {K : Nat → Int32} {nt : Nat} {Lt b M : Nat} (S : ShOK h) (R : RfOK h) (H : HAc (gI h) K np nt nd nl) (Q : KST K np nt nd nl no LSs) (hL : Lt ≤ 400) (eL : Lt = 2 * M + b) (hb : b ≤ 1) (h0 : 0 < Lt) (l2 : gI h 35 2 = nI Lt) (hby : ∀ i, -128 ≤ (gI h 36 i).toInt ∧ (gI h 36 i).toInt ≤ 127) : Rp (d + 2) M_X11_row 0 [some (.ref 0), none, none, none] [] h (fun r h' => ∃ g K' nt' c, CRI h np nd nl no LSs K' nt' g ∧ rwL (gI h 36) M 0 (K, nt, 0) = (K', nt', c) ∧ c ≤ M ∧ gI g 0 15 = nI (M - c + b) ∧ r = some (.int (nI c)) ∧ h' = acH (sI (sI g 35 2 (nI 0)) 15 1 (nI 0))) := by
  have S1 : ShOK (sI h 0 15 (nI 0)) := fun k z hz => S k z hz
  have k28 := crow28 (d + 1) (h := h) (np := np) (nd := nd) (nl := nl) (no := no) (LSs := LSs) (P := fun r h' => ∃ g K' nt' c, CRI h np nd nl no LSs K' nt' g ∧ rwL (gI h 36) M 0 (K, nt, 0) = (K', nt', c) ∧ c ≤ M ∧ gI g 0 15 = nI (M - c + b) ∧ r = some (.int (nI c)) ∧ h' = acH (sI (sI g 35 2 (nI 0)) 15 1 (nI 0))) hL eL hb l2 hby (rwL (gI h 36) M 0 (K, nt, 0)) (fun g K' nt' c i I eF hc es => by
    obtain ⟨Sg, Rg, Fg, Hg, Qg⟩ := id I
    have cl := t_clear (d + 1) (h := sI g 35 2 (nI 0)) (k := 15) (Sg 15 _ rfl)
    have ac := t_accepted d (h := sI (sI g 35 2 (nI 0)) 15 1 (nI 0)) (fun k z hz => Sg k z hz) ((Rg.put _ _ _).put _ _ _) (nI c)
    refine Rp.aload_n dX11_row_90 rfl rfl ?_
    refine Rp.getR dX11_row_91 fk_X11_30 rfl (Sg _ _ rfl) (Rg _ _ _ rfl) ?_
    refine Rp.iconst (nI 0) dX11_row_94 (by decide) ?_
    refine Rp.putI dX11_row_95 fk_X11_190w rfl (Sg _ _ rfl) ?_
    refine Rp.aload_n dX11_row_98 rfl rfl ?_
    refine Rp.getR dX11_row_99 fk_X11_10 rfl (Sg _ _ rfl) (Rg _ _ _ rfl) ?_
    refine Rp.getR dX11_row_102 fk_X11_113 rfl (Sg _ _ rfl) (Rg _ _ _ rfl) ?_
    refine Rp.callV0 M_X4_clear (ci := 4) dX11_row_105 mo_X4_clear lk_X11_117 (by decide) rfl rfl (Sg _ _ rfl) (Nat.le_of_ble_eq_true rfl) (Nat.le_of_ble_eq_true rfl) (cl) (fun v1 h1 p1 x1 => ?_)
    rw [p1.1, p1.2]
    try dsimp only [Option.toList, List.cons_append, List.nil_append, List.append]
    refine Rp.aload_n dX11_row_108 rfl rfl ?_
    refine Rp.iload_n dX11_row_109 rfl ?_
    refine Rp.callV1 M_X11_accepted (ci := 11) dX11_row_110 mo_X11_accepted lk_X11_122 (by decide) rfl rfl (Sg _ _ rfl) (Nat.le_of_ble_eq_true rfl) (Nat.le_of_ble_eq_true rfl) (ac) (fun v1 h1 p1 x1 => ?_)
    rw [p1.1, p1.2]
    try dsimp only [Option.toList, List.cons_append, List.nil_append, List.append]
    refine Rp.ireturn dX11_row_113 rfl ?_
    exact ⟨g, K', nt', c, I, eF, hc, es, rfl, rfl⟩
    ) M 0 (sI h 0 15 (nI 0)) K nt 0 (by omega) (Nat.le_refl _) ⟨S1, R.put _ _ _, Fr.rfl'.sI rfl, H.cg (fun k j h1 h2 => gI_ne _ _ _ _ (by omega)), Q⟩ (gI_hit _ _ _ _) rfl
  have k28 : Rp (d + 2) M_X11_row 28 [some (.ref 0), some (.int (nI Lt)), some (.int (nI 0)), some (.int (nI 0))] [] (sI h 0 15 (nI 0)) _ := k28
  refine Rp.aload_n dX11_row_0 rfl rfl ?_
  refine Rp.getR dX11_row_1 fk_X11_30 rfl (S _ _ rfl) (R _ _ _ rfl) ?_
  refine Rp.getI dX11_row_4 fk_X11_190 rfl (S _ _ rfl) ?_
  first | rw [l2] | skip
  refine Rp.ist1 dX11_row_7 (by first | exact nl2_some rfl | exact nl2_none) (by decide) ?_
  refine Rp.iload_n dX11_row_8 rfl ?_
  first | ((with_reducible show Rp _ _ _ _ (.int (b2i _) :: _) _ _); refine Rp.if_neB (tgt := 19) dX11_row_9 (by decide) (fun c9 => ?_) (fun c9 => ?_)) | ((with_reducible show Rp _ _ _ _ (.int (nI _) :: _) _ _); refine Rp.if_neN (tgt := 19) dX11_row_9 (by decide) (by omega) (fun c9 => ?_) (fun c9 => ?_)) | refine Rp.if_ne (tgt := 19) dX11_row_9 (by decide) (fun c9 => ?_) (fun c9 => ?_)
  · skip
    refine Rp.iconst (nI 0) dX11_row_19 (by decide) ?_
    refine Rp.ist2 dX11_row_20 (by first | exact nl2_some rfl | exact nl2_none) (by decide) ?_
    refine Rp.aload_n dX11_row_21 rfl rfl ?_
    refine Rp.iconst (nI 0) dX11_row_22 (by decide) ?_
    refine Rp.putI dX11_row_23 fk_X11_197w rfl (S _ _ rfl) ?_
    refine Rp.iconst (nI 0) dX11_row_26 (by decide) ?_
    refine Rp.ist3 dX11_row_27 (by first | exact nl2_some rfl | exact nl2_none) (by decide) ?_
    exact k28
  · skip
    first | (exfalso; omega) | exact absurd c9 (by decide) | exact absurd (by decide) c9
end Rc
