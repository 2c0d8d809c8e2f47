section Pc
variable {L : Nat} {xs : Nat → Int32}
theorem cnt_no {w : Int32} (hw : ¬ inN w 17 = true) (a b : Nat) (hb : b < 17) : ¬ (nI a ≤ w ∧ w ≤ nI b) ∨ 2147483648 ≤ a := by
  by_cases ha : a < 2147483648
  · refine Or.inl fun z => hw ?_
    unfold inN
    rw [decide_eq_true_eq]
    obtain ⟨z1, z2⟩ := z
    rw [i32_le, nI_toInt ha] at z1
    rw [i32_le, nI_toInt (by omega)] at z2
    omega
  · exact Or.inr (by omega)
theorem cnt_ne {w : Int32} (hw : ¬ inN w 17 = true) {k : Nat} (hk : k < 17) : ¬ w = nI k := fun z => hw (z ▸ inN_nI hk (by omega))
theorem cnt_eq {h : AH} {np nt nd nl no : Nat} {LSs : Nat → List CLE} {E : List Int32} {US : List (Nat → Int32)} (C : CORE h np nt nd nl no LSs E US) (T : TAPE h) (N : ANSW h) (w : Int32) : mCountC h w nt = mCount h w np := by
  obtain ⟨Lt, t1, t2, t3, -⟩ := T
  have Q := C.2.1.2.2.2.2.2.2.1
  have H := C.1.1
  have k2 : nI nt - nI (cOf (gI h 8) (-1) nt) = nI (cntH (gI h 102) np) := by
    have V := C.2.1.1
    have f1 := free_cnt V.2.1 np V.1 (fun p hp => (V.2.2.1 p (by have := V.1; omega)).imp id (fun z => z.2)) V.2.2.2
    have f2 : cOf (gI h 8) (-1) nt = cOf (fun t => hOf (gI h 102) (nI t) np) (-1) nt := cOf_congr nt (fun t ht => H.2.2.2.2.2.2.2.2.2.2.2.2.2.1 t (by have := V.2.1; omega))
    rw [f2, pk_sub (by omega)]
    congr 1
    omega
  have k6 : gI h 15 1 = gI h 100 32 := by
    have e := URr_len _ _ _ C.2.2.1
    rw [List.length_reverse, List.length_reverse] at e
    rw [C.1.2.2.2.1.2.1, C.2.2.2.2.1, e]
  by_cases hw : inN w 17 = true
  · obtain ⟨q, hq, rfl⟩ := (inN_iff (by omega)).mp hw
    match q, hq with
    | 0, _ =>
      unfold mCountC mCount
      rw [if_neg (by decide), if_neg (by decide), if_pos rfl, if_pos rfl]
      exact H.2.1.trans Q.1.symm
    | 1, _ =>
      unfold mCountC mCount
      rw [if_neg (by decide), if_neg (by decide), if_neg (by decide), if_pos rfl, if_neg (by decide), if_pos rfl]
      exact Q.2.1.symm
    | 2, _ =>
      unfold mCountC mCount
      rw [if_neg (by decide), if_neg (by decide), if_neg (by decide), if_neg (by decide), if_pos rfl, if_neg (by decide), if_neg (by decide), if_pos rfl]
      exact k2
    | 3, _ =>
      unfold mCountC mCount
      rw [if_neg (by decide), if_neg (by decide), if_neg (by decide), if_neg (by decide), if_neg (by decide), if_pos rfl, if_neg (by decide), if_neg (by decide), if_neg (by decide), if_pos rfl]
      exact H.2.2.2.1.trans Q.2.2.1.symm
    | 4, _ =>
      unfold mCountC mCount
      rw [if_neg (by decide), if_neg (by decide), if_neg (by decide), if_neg (by decide), if_neg (by decide), if_neg (by decide), if_pos rfl, if_neg (by decide), if_neg (by decide), if_neg (by decide), if_neg (by decide), if_pos rfl]
      exact H.2.2.2.2.1
    | 5, _ =>
      unfold mCountC mCount
      rw [if_neg (by decide), if_neg (by decide), if_neg (by decide), if_neg (by decide), if_neg (by decide), if_neg (by decide), if_neg (by decide), if_pos rfl, if_neg (by decide), if_neg (by decide), if_neg (by decide), if_neg (by decide), if_neg (by decide), if_pos rfl]
      exact H.2.2.2.2.2.1.trans Q.2.2.2.2.symm
    | 6, _ =>
      unfold mCountC mCount
      rw [if_neg (by decide), if_neg (by decide), if_neg (by decide), if_neg (by decide), if_neg (by decide), if_neg (by decide), if_neg (by decide), if_neg (by decide), if_pos rfl, if_neg (by decide), if_neg (by decide), if_neg (by decide), if_neg (by decide), if_neg (by decide), if_neg (by decide), if_pos rfl]
      exact k6
    | 7, _ =>
      unfold mCountC mCount
      rw [if_neg (by decide), if_neg (by decide), if_neg (by decide), if_neg (by decide), if_neg (by decide), if_neg (by decide), if_neg (by decide), if_neg (by decide), if_neg (by decide), if_pos rfl, if_neg (by decide), if_neg (by decide), if_neg (by decide), if_neg (by decide), if_neg (by decide), if_neg (by decide), if_neg (by decide), if_pos rfl]
      exact t2.trans t3.symm
    | 8, _ =>
      unfold mCountC mCount
      rw [if_pos (by decide), if_neg (by decide), if_neg (by decide), if_neg (by decide), if_neg (by decide), if_neg (by decide), if_neg (by decide), if_neg (by decide), if_neg (by decide), if_pos rfl]
      exact N.2.2.2.1
    | 9, _ =>
      unfold mCountC mCount
      rw [if_pos (by decide), if_neg (by decide), if_neg (by decide), if_neg (by decide), if_neg (by decide), if_neg (by decide), if_neg (by decide), if_neg (by decide), if_neg (by decide), if_neg (by decide), if_pos rfl]
      exact N.2.2.2.2.1
    | 10, _ =>
      unfold mCountC mCount
      rw [if_pos (by decide), if_neg (by decide), if_neg (by decide), if_neg (by decide), if_neg (by decide), if_neg (by decide), if_neg (by decide), if_neg (by decide), if_neg (by decide), if_neg (by decide), if_neg (by decide), if_pos rfl]
      exact N.2.2.2.2.2.1
    | 11, _ =>
      unfold mCountC mCount
      rw [if_pos (by decide), if_neg (by decide), if_neg (by decide), if_neg (by decide), if_neg (by decide), if_neg (by decide), if_neg (by decide), if_neg (by decide), if_neg (by decide), if_neg (by decide), if_neg (by decide), if_neg (by decide), if_pos rfl]
      exact N.2.2.2.2.2.2.1
    | 12, _ =>
      unfold mCountC mCount
      rw [if_pos (by decide), if_neg (by decide), if_neg (by decide), if_neg (by decide), if_neg (by decide), if_neg (by decide), if_neg (by decide), if_neg (by decide), if_neg (by decide), if_neg (by decide), if_neg (by decide), if_neg (by decide), if_neg (by decide), if_pos rfl]
      exact N.2.2.2.2.2.2.2
    | 13, _ =>
      unfold mCountC mCount
      rw [if_neg (by decide), if_neg (by decide), if_neg (by decide), if_neg (by decide), if_neg (by decide), if_neg (by decide), if_neg (by decide), if_neg (by decide), if_neg (by decide), if_neg (by decide), if_pos rfl, if_neg (by decide), if_neg (by decide), if_neg (by decide), if_neg (by decide), if_neg (by decide), if_neg (by decide), if_neg (by decide), if_neg (by decide), if_neg (by decide), if_neg (by decide), if_neg (by decide), if_neg (by decide), if_neg (by decide), if_pos rfl]
      exact H.2.2.2.2.2.2.1
    | 14, _ =>
      unfold mCountC mCount
      rw [if_neg (by decide), if_pos (by decide), if_neg (by decide), if_neg (by decide), if_neg (by decide), if_neg (by decide), if_neg (by decide), if_neg (by decide), if_neg (by decide), if_neg (by decide), if_neg (by decide), if_neg (by decide), if_neg (by decide), if_neg (by decide), if_neg (by decide), if_neg (by decide), if_pos rfl]
      exact H.2.2.2.2.2.2.2.2.2.2.2.2.2.2.2.2.2.2.1
    | 15, _ =>
      unfold mCountC mCount
      rw [if_neg (by decide), if_pos (by decide), if_neg (by decide), if_neg (by decide), if_neg (by decide), if_neg (by decide), if_neg (by decide), if_neg (by decide), if_neg (by decide), if_neg (by decide), if_neg (by decide), if_neg (by decide), if_neg (by decide), if_neg (by decide), if_neg (by decide), if_neg (by decide), if_neg (by decide), if_pos rfl]
      exact H.2.2.2.2.2.2.2.2.2.2.2.2.2.2.2.2.2.2.2.1
    | 16, _ =>
      unfold mCountC mCount
      rw [if_neg (by decide), if_pos (by decide), if_neg (by decide), if_neg (by decide), if_neg (by decide), if_neg (by decide), if_neg (by decide), if_neg (by decide), if_neg (by decide), if_neg (by decide), if_neg (by decide), if_neg (by decide), if_neg (by decide), if_neg (by decide), if_neg (by decide), if_neg (by decide), if_neg (by decide), if_neg (by decide), if_pos rfl]
      exact H.2.2.2.2.2.2.2.2.2.2.2.2.2.2.2.2.2.2.2.2
    | q + 17, hq => exact absurd hq (by omega)
  · unfold mCountC mCount
    rw [if_neg ((cnt_no hw 8 12 (by decide)).resolve_right (by decide)), if_neg ((cnt_no hw 14 16 (by decide)).resolve_right (by decide)), if_neg (cnt_ne hw (k := 0) (by decide)), if_neg (cnt_ne hw (k := 1) (by decide)), if_neg (cnt_ne hw (k := 2) (by decide)), if_neg (cnt_ne hw (k := 3) (by decide)), if_neg (cnt_ne hw (k := 4) (by decide)), if_neg (cnt_ne hw (k := 5) (by decide)), if_neg (cnt_ne hw (k := 6) (by decide)), if_neg (cnt_ne hw (k := 7) (by decide)), if_neg (cnt_ne hw (k := 13) (by decide)), if_neg (cnt_ne hw (k := 0) (by decide)), if_neg (cnt_ne hw (k := 1) (by decide)), if_neg (cnt_ne hw (k := 2) (by decide)), if_neg (cnt_ne hw (k := 3) (by decide)), if_neg (cnt_ne hw (k := 4) (by decide)), if_neg (cnt_ne hw (k := 5) (by decide)), if_neg (cnt_ne hw (k := 6) (by decide)), if_neg (cnt_ne hw (k := 7) (by decide)), if_neg (cnt_ne hw (k := 8) (by decide)), if_neg (cnt_ne hw (k := 9) (by decide)), if_neg (cnt_ne hw (k := 10) (by decide)), if_neg (cnt_ne hw (k := 11) (by decide)), if_neg (cnt_ne hw (k := 12) (by decide)), if_neg (cnt_ne hw (k := 13) (by decide)), if_neg (cnt_ne hw (k := 14) (by decide)), if_neg (cnt_ne hw (k := 15) (by decide)), if_neg (cnt_ne hw (k := 16) (by decide))]
theorem p_count (a1 : Int32) : Pr (Ivt L xs) 103 M_X11_count M_X12_count [.int a1] := by
  intro n h I
  obtain ⟨np, nt, nd, nl, no, LSs, E, US, C1, C2, C3⟩ := I.2.2.1
  refine (t_count _ I.1.1 I.1.2.1 a1 C1.2.1.1.2.1 C1.1.1.2.2.1).imp (fun r h1 p => ?_)
  obtain ⟨rfl, rfl⟩ := p
  refine ⟨_, rfl, (s_count _ I.1.1 I.1.2.1 a1 C1.2.1.1.1 C1.2.1.2.2.2.2.2.2.1.1).imp (fun r2 h2 q => ?_)⟩
  obtain ⟨rfl, rfl⟩ := q
  exact ⟨congrArg (fun x => some (Value.int x)) (cnt_eq C1 I.2.2.2.2.1 I.2.2.2.2.2.1 a1).symm, I.up⟩
end Pc
theorem g_fa_cS : ∀ k j, cS k j = true → faX k j = false := by
  intro k j e
  rw [Bool.eq_false_iff]
  intro x
  simp only [cS, faX, soX, abX, bX, liX, wyX, plX, dX, afX, jX, Bool.or_eq_true, Bool.and_eq_true, beq_iff_eq, decide_eq_true_eq] at e x
  omega
theorem g_fa_wS2 : ∀ k j, wS2 k j = true → faX k j = false := by
  intro k j e
  rw [Bool.eq_false_iff]
  intro x
  simp only [wS2, faX, soX, abX, bX, liX, wyX, plX, dX, afX, jX, Bool.or_eq_true, Bool.and_eq_true, beq_iff_eq, decide_eq_true_eq] at e x
  omega
theorem g_fa_iS : ∀ k j, iS k j = true → faX k j = false := by
  intro k j e
  rw [Bool.eq_false_iff]
  intro x
  simp only [iS, faX, soX, abX, bX, liX, wyX, plX, dX, afX, jX, Bool.or_eq_true, Bool.and_eq_true, beq_iff_eq, decide_eq_true_eq] at e x
  omega
theorem g_fa_tS : ∀ k j, tS k j = true → faX k j = false := by
  intro k j e
  rw [Bool.eq_false_iff]
  intro x
  simp only [tS, faX, soX, abX, bX, liX, wyX, plX, dX, afX, jX, Bool.or_eq_true, Bool.and_eq_true, beq_iff_eq, decide_eq_true_eq] at e x
  omega
theorem g_fa_nS : ∀ k j, nS k j = true → faX k j = false := by
  intro k j e
  rw [Bool.eq_false_iff]
  intro x
  simp only [nS, faX, soX, abX, bX, liX, wyX, plX, dX, afX, jX, Bool.or_eq_true, Bool.and_eq_true, beq_iff_eq, decide_eq_true_eq] at e x
  omega
theorem g_fa_dS : ∀ k j, dS k j = true → faX k j = false := by
  intro k j e
  rw [Bool.eq_false_iff]
  intro x
  simp only [dS, faX, soX, abX, bX, liX, wyX, plX, dX, afX, jX, Bool.or_eq_true, Bool.and_eq_true, beq_iff_eq, decide_eq_true_eq] at e x
  omega
theorem g_fa_zS : ∀ k j, zS k j = true → faX k j = false := by
  intro k j e
  rw [Bool.eq_false_iff]
  intro x
  simp only [zS, faX, soX, abX, bX, liX, wyX, plX, dX, afX, jX, Bool.or_eq_true, Bool.and_eq_true, beq_iff_eq, decide_eq_true_eq] at e x
  omega
theorem g_fw_cS : ∀ k j, cS k j = true → fwX2 k j = false := by
  intro k j e
  rw [Bool.eq_false_iff]
  intro x
  simp only [cS, fwX2, soX, wzX, bX, liX, wyX, plX, dX, wfX, jX, Bool.or_eq_true, Bool.and_eq_true, beq_iff_eq, decide_eq_true_eq] at e x
  omega
theorem g_fw_aS : ∀ k j, aS k j = true → fwX2 k j = false := by
  intro k j e
  rw [Bool.eq_false_iff]
  intro x
  simp only [aS, fwX2, soX, wzX, bX, liX, wyX, plX, dX, wfX, jX, Bool.or_eq_true, Bool.and_eq_true, beq_iff_eq, decide_eq_true_eq] at e x
  omega
theorem g_fw_iS : ∀ k j, iS k j = true → fwX2 k j = false := by
  intro k j e
  rw [Bool.eq_false_iff]
  intro x
  simp only [iS, fwX2, soX, wzX, bX, liX, wyX, plX, dX, wfX, jX, Bool.or_eq_true, Bool.and_eq_true, beq_iff_eq, decide_eq_true_eq] at e x
  omega
theorem g_fw_tS : ∀ k j, tS k j = true → fwX2 k j = false := by
  intro k j e
  rw [Bool.eq_false_iff]
  intro x
  simp only [tS, fwX2, soX, wzX, bX, liX, wyX, plX, dX, wfX, jX, Bool.or_eq_true, Bool.and_eq_true, beq_iff_eq, decide_eq_true_eq] at e x
  omega
theorem g_fw_nS : ∀ k j, nS k j = true → fwX2 k j = false := by
  intro k j e
  rw [Bool.eq_false_iff]
  intro x
  simp only [nS, fwX2, soX, wzX, bX, liX, wyX, plX, dX, wfX, jX, Bool.or_eq_true, Bool.and_eq_true, beq_iff_eq, decide_eq_true_eq] at e x
  omega
theorem g_fw_dS : ∀ k j, dS k j = true → fwX2 k j = false := by
  intro k j e
  rw [Bool.eq_false_iff]
  intro x
  simp only [dS, fwX2, soX, wzX, bX, liX, wyX, plX, dX, wfX, jX, Bool.or_eq_true, Bool.and_eq_true, beq_iff_eq, decide_eq_true_eq] at e x
  omega
theorem g_fw_zS : ∀ k j, zS k j = true → fwX2 k j = false := by
  intro k j e
  rw [Bool.eq_false_iff]
  intro x
  simp only [zS, fwX2, soX, wzX, bX, liX, wyX, plX, dX, wfX, jX, Bool.or_eq_true, Bool.and_eq_true, beq_iff_eq, decide_eq_true_eq] at e x
  omega
theorem g_ma_cS : ∀ k j, cS k j = true → maX k j = false := by
  intro k j e
  rw [Bool.eq_false_iff]
  intro x
  simp only [cS, maX, lhX, taX, mjX, mfX, mdX, tlX, Bool.or_eq_true, Bool.and_eq_true, beq_iff_eq, decide_eq_true_eq] at e x
  omega
theorem g_ma_aS : ∀ k j, aS k j = true → maX k j = false := by
  intro k j e
  rw [Bool.eq_false_iff]
  intro x
  simp only [aS, maX, lhX, taX, mjX, mfX, mdX, tlX, Bool.or_eq_true, Bool.and_eq_true, beq_iff_eq, decide_eq_true_eq] at e x
  omega
theorem g_ma_wS2 : ∀ k j, wS2 k j = true → maX k j = false := by
  intro k j e
  rw [Bool.eq_false_iff]
  intro x
  simp only [wS2, maX, lhX, taX, mjX, mfX, mdX, tlX, Bool.or_eq_true, Bool.and_eq_true, beq_iff_eq, decide_eq_true_eq] at e x
  omega
theorem g_ma_iS : ∀ k j, iS k j = true → maX k j = false := by
  intro k j e
  rw [Bool.eq_false_iff]
  intro x
  simp only [iS, maX, lhX, taX, mjX, mfX, mdX, tlX, Bool.or_eq_true, Bool.and_eq_true, beq_iff_eq, decide_eq_true_eq] at e x
  omega
theorem g_ma_tS : ∀ k j, tS k j = true → maX k j = false := by
  intro k j e
  rw [Bool.eq_false_iff]
  intro x
  simp only [tS, maX, lhX, taX, mjX, mfX, mdX, tlX, Bool.or_eq_true, Bool.and_eq_true, beq_iff_eq, decide_eq_true_eq] at e x
  omega
theorem g_ma_nS : ∀ k j, nS k j = true → maX k j = false := by
  intro k j e
  rw [Bool.eq_false_iff]
  intro x
  simp only [nS, maX, lhX, taX, mjX, mfX, mdX, tlX, Bool.or_eq_true, Bool.and_eq_true, beq_iff_eq, decide_eq_true_eq] at e x
  omega
theorem g_ma_dS : ∀ k j, dS k j = true → maX k j = false := by
  intro k j e
  rw [Bool.eq_false_iff]
  intro x
  simp only [dS, maX, lhX, taX, mjX, mfX, mdX, tlX, Bool.or_eq_true, Bool.and_eq_true, beq_iff_eq, decide_eq_true_eq] at e x
  omega
theorem g_ma_zS : ∀ k j, zS k j = true → maX k j = false := by
  intro k j e
  rw [Bool.eq_false_iff]
  intro x
  simp only [zS, maX, lhX, taX, mjX, mfX, mdX, tlX, Bool.or_eq_true, Bool.and_eq_true, beq_iff_eq, decide_eq_true_eq] at e x
  omega
theorem g_hw_cS : ∀ k j, cS k j = true → hwX k j = false := by
  intro k j e
  rw [Bool.eq_false_iff]
  intro x
  simp only [cS, hwX, lhX, thX, mhX, mwX, mdX, tlX, Bool.or_eq_true, Bool.and_eq_true, beq_iff_eq, decide_eq_true_eq] at e x
  omega
theorem g_hw_aS : ∀ k j, aS k j = true → hwX k j = false := by
  intro k j e
  rw [Bool.eq_false_iff]
  intro x
  simp only [aS, hwX, lhX, thX, mhX, mwX, mdX, tlX, Bool.or_eq_true, Bool.and_eq_true, beq_iff_eq, decide_eq_true_eq] at e x
  omega
theorem g_hw_wS2 : ∀ k j, wS2 k j = true → hwX k j = false := by
  intro k j e
  rw [Bool.eq_false_iff]
  intro x
  simp only [wS2, hwX, lhX, thX, mhX, mwX, mdX, tlX, Bool.or_eq_true, Bool.and_eq_true, beq_iff_eq, decide_eq_true_eq] at e x
  omega
theorem g_hw_iS : ∀ k j, iS k j = true → hwX k j = false := by
  intro k j e
  rw [Bool.eq_false_iff]
  intro x
  simp only [iS, hwX, lhX, thX, mhX, mwX, mdX, tlX, Bool.or_eq_true, Bool.and_eq_true, beq_iff_eq, decide_eq_true_eq] at e x
  omega
theorem g_hw_tS : ∀ k j, tS k j = true → hwX k j = false := by
  intro k j e
  rw [Bool.eq_false_iff]
  intro x
  simp only [tS, hwX, lhX, thX, mhX, mwX, mdX, tlX, Bool.or_eq_true, Bool.and_eq_true, beq_iff_eq, decide_eq_true_eq] at e x
  omega
theorem g_hw_nS : ∀ k j, nS k j = true → hwX k j = false := by
  intro k j e
  rw [Bool.eq_false_iff]
  intro x
  simp only [nS, hwX, lhX, thX, mhX, mwX, mdX, tlX, Bool.or_eq_true, Bool.and_eq_true, beq_iff_eq, decide_eq_true_eq] at e x
  omega
theorem g_hw_dS : ∀ k j, dS k j = true → hwX k j = false := by
  intro k j e
  rw [Bool.eq_false_iff]
  intro x
  simp only [dS, hwX, lhX, thX, mhX, mwX, mdX, tlX, Bool.or_eq_true, Bool.and_eq_true, beq_iff_eq, decide_eq_true_eq] at e x
  omega
theorem g_hw_zS : ∀ k j, zS k j = true → hwX k j = false := by
  intro k j e
  rw [Bool.eq_false_iff]
  intro x
  simp only [zS, hwX, lhX, thX, mhX, mwX, mdX, tlX, Bool.or_eq_true, Bool.and_eq_true, beq_iff_eq, decide_eq_true_eq] at e x
  omega
theorem g_ty_cS : ∀ k j, cS k j = true → tlyX k j = false := by
  intro k j e
  rw [Bool.eq_false_iff]
  intro x
  simp only [cS, tlyX, Bool.or_eq_true, Bool.and_eq_true, beq_iff_eq, decide_eq_true_eq] at e x
  omega
theorem g_ty_aS : ∀ k j, aS k j = true → tlyX k j = false := by
  intro k j e
  rw [Bool.eq_false_iff]
  intro x
  simp only [aS, tlyX, Bool.or_eq_true, Bool.and_eq_true, beq_iff_eq, decide_eq_true_eq] at e x
  omega
theorem g_ty_wS2 : ∀ k j, wS2 k j = true → tlyX k j = false := by
  intro k j e
  rw [Bool.eq_false_iff]
  intro x
  simp only [wS2, tlyX, Bool.or_eq_true, Bool.and_eq_true, beq_iff_eq, decide_eq_true_eq] at e x
  omega
theorem g_ty_iS : ∀ k j, iS k j = true → tlyX k j = false := by
  intro k j e
  rw [Bool.eq_false_iff]
  intro x
  simp only [iS, tlyX, Bool.or_eq_true, Bool.and_eq_true, beq_iff_eq, decide_eq_true_eq] at e x
  omega
theorem g_ty_tS : ∀ k j, tS k j = true → tlyX k j = false := by
  intro k j e
  rw [Bool.eq_false_iff]
  intro x
  simp only [tS, tlyX, Bool.or_eq_true, Bool.and_eq_true, beq_iff_eq, decide_eq_true_eq] at e x
  omega
theorem g_ty_nS : ∀ k j, nS k j = true → tlyX k j = false := by
  intro k j e
  rw [Bool.eq_false_iff]
  intro x
  simp only [nS, tlyX, Bool.or_eq_true, Bool.and_eq_true, beq_iff_eq, decide_eq_true_eq] at e x
  omega
theorem g_ty_dS : ∀ k j, dS k j = true → tlyX k j = false := by
  intro k j e
  rw [Bool.eq_false_iff]
  intro x
  simp only [dS, tlyX, Bool.or_eq_true, Bool.and_eq_true, beq_iff_eq, decide_eq_true_eq] at e x
  omega
theorem g_ty_zS : ∀ k j, zS k j = true → tlyX k j = false := by
  intro k j e
  rw [Bool.eq_false_iff]
  intro x
  simp only [zS, tlyX, Bool.or_eq_true, Bool.and_eq_true, beq_iff_eq, decide_eq_true_eq] at e x
  omega
section Pd
variable {L : Nat} {xs : Nat → Int32}
theorem lv_maX : ∀ k j, Lv k j = true → maX k j = false := by
  intro k j e
  simp only [Lv, Bool.or_eq_true] at e
  rcases e with e | e | e | e | e | e | e | e
  · exact g_ma_cS k j e
  · exact g_ma_aS k j e
  · exact g_ma_wS2 k j e
  · exact g_ma_iS k j e
  · exact g_ma_tS k j e
  · exact g_ma_nS k j e
  · exact g_ma_dS k j e
  · exact g_ma_zS k j e
theorem lv_hwX : ∀ k j, Lv k j = true → hwX k j = false := by
  intro k j e
  simp only [Lv, Bool.or_eq_true] at e
  rcases e with e | e | e | e | e | e | e | e
  · exact g_hw_cS k j e
  · exact g_hw_aS k j e
  · exact g_hw_wS2 k j e
  · exact g_hw_iS k j e
  · exact g_hw_tS k j e
  · exact g_hw_nS k j e
  · exact g_hw_dS k j e
  · exact g_hw_zS k j e
theorem lv_tlyX : ∀ k j, Lv k j = true → tlyX k j = false := by
  intro k j e
  simp only [Lv, Bool.or_eq_true] at e
  rcases e with e | e | e | e | e | e | e | e
  · exact g_ty_cS k j e
  · exact g_ty_aS k j e
  · exact g_ty_wS2 k j e
  · exact g_ty_iS k j e
  · exact g_ty_tS k j e
  · exact g_ty_nS k j e
  · exact g_ty_dS k j e
  · exact g_ty_zS k j e
theorem p_about (a1 : Int32) : Pr (Ivt L xs) 103 M_X11_about M_X12_about [.int a1] := by
  intro n h I
  obtain ⟨B, Z, ⟨np, nt, nd, nl, no, LSs, E, US, C1, ⟨kn, k7, kk⟩, C3⟩, ⟨I0, I1⟩, T, A, D⟩ := I
  refine (t_about _ B.1 B.2.1 C1.1 C1.2.1.1 C1.2.1.2.1 C1.2.1.2.2.1 C1.2.1.2.2.2.1 Z.1 k7 kk a1).imp (fun r h1 p => ⟨_, p.1, ?_⟩)
  obtain ⟨-, F, S1, R1, z1, C2'⟩ := p
  have e : gI h1 102 = gI h 102 := F.fun (fun _ => rfl)
  have C1' := C1.fr F e g_fa_cS
  have J : Ivt L xs n h1 := ⟨B.fr F R1, Z.fr F g_fa_zS, ⟨np, nt, nd, nl, no, LSs, E, US, C1', by rw [e]; exact C2', by rw [e]; exact C3.fr F g_fa_cS g_fa_wS2⟩, ⟨I0.fr (by decide) F g_fa_iS, I1.fr (by decide) F g_fa_iS⟩, T.fr F g_fa_tS, A.fr F g_fa_nS, D.fr F g_fa_dS⟩
  refine (s_about _ (C1'.mb S1 R1) C1'.2.1.2.2.2.2.2.2.1.2.1 a1).imp (fun r2 h2 q => ⟨?_, (J.fr q.2.1 (q.2.1.R R1 (by decide)) q.2.2 lv_maX).up⟩)
  rw [← e]
  exact q.1
theorem p_had (a1 a2 : Int32) : Pr (Ivt L xs) 103 M_X11_had M_X12_had [.int a1, .int a2] := by
  intro n h I
  obtain ⟨B, Z, ⟨np, nt, nd, nl, no, LSs, E, US, C1, C2, ⟨kn, k8, kk⟩⟩, ⟨I0, I1⟩, T, A, D⟩ := I
  refine (t_had _ B.1 B.2.1 C1.1 C1.2.1.1 C1.2.1.2.1 C1.2.1.2.2.1 C1.2.1.2.2.2.1 C1.2.1.2.2.2.2.1 C1.2.1.2.2.2.2.2.2.1.2.2.2.1 Z.1 k8 kk a1 a2).imp (fun r h1 p => ⟨_, p.1, ?_⟩)
  obtain ⟨-, F, S1, R1, z1, C3'⟩ := p
  have e : gI h1 102 = gI h 102 := F.fun (fun _ => rfl)
  have C1' := C1.fr F e g_fw_cS
  have J : Ivt L xs n h1 := ⟨B.fr F R1, Z.fr F g_fw_zS, ⟨np, nt, nd, nl, no, LSs, E, US, C1', by rw [e]; exact C2.fr F g_fw_aS, by rw [e]; exact C3'⟩, ⟨I0.fr (by decide) F g_fw_iS, I1.fr (by decide) F g_fw_iS⟩, T.fr F g_fw_tS, A.fr F g_fw_nS, D.fr F g_fw_dS⟩
  refine (s_had _ (C1'.mb S1 R1) C1'.2.1.2.2.2.2.2.2.1.2.1 C1'.2.1.2.2.2.2.2.2.1.2.2.2.1 C1'.2.1.2.2.2.2.1 a1 a2).imp (fun r2 h2 q => ⟨?_, (J.fr q.2.1 (q.2.1.R R1 (by decide)) q.2.2 lv_hwX).up⟩)
  rw [← e]
  exact q.1
theorem p_ask (a1 : Int32) : Pr (Ivt L xs) 103 M_X11_ask M_X12_ask [.int a1] := by
  intro n h I
  obtain ⟨B, Z, ⟨np, nt, nd, nl, no, LSs, E, US, C1, C2, ⟨kn, k8, kk⟩⟩, ⟨I0, I1⟩, T, A, D⟩ := I
  refine (t_ask _ B.1 B.2.1 C1.1 C1.2.1.1 C1.2.1.2.1 C1.2.1.2.2.1 C1.2.1.2.2.2.1 C1.2.1.2.2.2.2.1 C1.2.1.2.2.2.2.2.2.1.2.2.2.1 Z.1 k8 kk a1).imp (fun r h1 p => ⟨_, p.1, ?_⟩)
  obtain ⟨-, ⟨g, F, F2⟩, S1, R1, z1, C3'⟩ := p
  have e1 : gI g 102 = gI h 102 := F.fun (fun _ => rfl)
  have e2 : gI h1 102 = gI g 102 := F2.fun (fun _ => rfl)
  have e : gI h1 102 = gI h 102 := e2.trans e1
  have C1' := (C1.fr F e1 g_fw_cS).fr F2 e2 g_ty_cS
  have B1 : BAS L xs n h1 := ⟨S1, R1, (F2.2.1.trans F.2.1).trans B.2.2.1, by have := B.2.2.2.1; unfold aN at this ⊢; rw [F2.1, F.1]; exact this, by have := B.2.2.2.2; unfold aZ at this ⊢; rw [F2.1, F.1]; exact this⟩
  have J : Ivt L xs n h1 := ⟨B1, (Z.fr F g_fw_zS).fr F2 g_ty_zS, ⟨np, nt, nd, nl, no, LSs, E, US, C1', by rw [e]; exact (C2.fr F g_fw_aS).fr F2 g_ty_aS, by rw [e]; exact C3'⟩, ⟨(I0.fr (by decide) F g_fw_iS).fr (by decide) F2 g_ty_iS, (I1.fr (by decide) F g_fw_iS).fr (by decide) F2 g_ty_iS⟩, (T.fr F g_fw_tS).fr F2 g_ty_tS, (A.fr F g_fw_nS).fr F2 g_ty_nS, (D.fr F g_fw_dS).fr F2 g_ty_dS⟩
  refine (s_ask _ (C1'.mb S1 R1) C1'.2.1.2.2.2.2.2.2.1.2.1 C1'.2.1.2.2.2.2.2.2.1.2.2.2.1 C1'.2.1.2.2.2.2.1 a1).imp (fun r2 h2 q => ⟨?_, (J.fr q.2.1 (q.2.1.R R1 (by decide)) q.2.2 lv_hwX).up⟩)
  rw [← e]
  exact q.1
end Pd
