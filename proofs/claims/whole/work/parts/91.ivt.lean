theorem ivz {k n : Nat} (h : (k, n) ∈ [(2, 6), (3, 6), (5, 48), (6, 8), (7, 8), (9, 3), (10, 3), (11, 6), (12, 6), (65, 5), (101, 7)]) {j : Nat} (hj : j < n) : gI HI0 k j = nI 0 := of_decide_eq_true (List.all_eq_true.mp (List.all_eq_true.mp iv_z _ h) _ (List.mem_range.mpr hj))
theorem ivm {k n : Nat} (h : (k, n) ∈ [(4, 6), (8, 8), (66, 6)]) {j : Nat} (hj : j < n) : gI HI0 k j = -1 := of_decide_eq_true (List.all_eq_true.mp (List.all_eq_true.mp iv_m _ h) _ (List.mem_range.mpr hj))
theorem iv0 {k j : Nat} (h : (k, j) ∈ [(1, 0), (1, 5), (1, 9), (1, 12), (1, 16), (15, 1), (13, 0), (13, 2), (52, 7), (52, 8), (34, 0), (34, 1), (104, 0), (104, 1), (35, 2), (100, 13), (100, 32), (0, 14), (100, 0), (0, 15), (100, 6)]) : gI HI0 k j = nI 0 := of_decide_eq_true (List.all_eq_true.mp iv_0 _ h)
theorem iv1 {k j : Nat} (h : (k, j) ∈ [(1, 18), (35, 3), (100, 14), (0, 16), (100, 50), (100, 58)]) : gI HI0 k j = -1 := of_decide_eq_true (List.all_eq_true.mp iv_1 _ h)
theorem ivk {j : Nat} (h : j < 109) : gI HI0 102 j = if j < 6 then -1 else if j = 101 then nI 9 else if j = 108 then -1 else nI 0 := of_decide_eq_true (List.all_eq_true.mp iv_k _ (List.mem_range.mpr h))
theorem ivk0 {j : Nat} (h : j < 109) (h1 : 6 ≤ j) (h2 : j ≠ 101) (h3 : j ≠ 108) : gI HI0 102 j = nI 0 := by rw [ivk h, if_neg (by omega), if_neg h2, if_neg h3]
theorem ivkm {j : Nat} (h : j < 6) : gI HI0 102 j = -1 := by rw [ivk (by omega), if_pos h]
theorem iv_S : ShOK HI0 := fun k q hq => by rw [HI0_sh]; exact hq
theorem iv_R : RfOK HI0 := fun k j a ha => by
  have q := List.all_eq_true.mp iv_rf _ (rfL_of ha)
  exact (of_decide_eq_true q : gR HI0 k j = rf0 k j).trans ha
theorem iv_Q : KST (gI HI0 102) 0 0 0 0 0 (fun _ => []) := by
  refine ⟨⟨by omega, by omega, fun p hp => Or.inl (ivkm hp), fun p q hp => absurd hp (by omega)⟩, ⟨fun p hp => ⟨0, by omega, ivk0 (by omega) (by omega) (by omega) (by omega)⟩, fun p hp => ⟨0, by omega, ivk0 (by omega) (by omega) (by omega) (by omega)⟩, fun p hp => ⟨0, by omega, ivk0 (by omega) (by omega) (by omega) (by omega)⟩, fun p hp => ⟨0, by omega, ivk0 (by omega) (by omega) (by omega) (by omega)⟩, fun p hp => ⟨0, by omega, ivk0 (by omega) (by omega) (by omega) (by omega)⟩, ⟨0, by omega, ivk0 (by omega) (by omega) (by omega) (by omega)⟩, ⟨0, by omega, ivk0 (by omega) (by omega) (by omega) (by omega)⟩⟩, ⟨by omega, fun t ht => absurd ht (by omega), fun t u ht => absurd ht (by omega)⟩, ⟨by omega, fun t ht => absurd ht (by omega)⟩, ⟨by omega, fun t ht => absurd ht (by omega)⟩, fun i hi => ⟨0, by omega, ivk0 (by omega) (by omega) (by omega) (by omega)⟩, ⟨ivk0 (by omega) (by omega) (by omega) (by omega), ivk0 (by omega) (by omega) (by omega) (by omega), ivk0 (by omega) (by omega) (by omega) (by omega), ivk0 (by omega) (by omega) (by omega) (by omega), ivk0 (by omega) (by omega) (by omega) (by omega)⟩, by omega, Or.inl ?_, fun l hl => absurd hl (by omega), fun p t hp ht _ => ivk0 (by omega) (by omega) (by omega) (by omega)⟩
  rw [ivk (by omega), if_neg (by omega), if_neg (by omega), if_pos rfl]
theorem iv_G : HG HI0 1 (gI HI0 102) 0 0 0 0 (fun _ => []) [] := by
  have A : HOK HI0 1 := HOK.of iv_S iv_R (Or.inl rfl)
  have z : ∀ j, j < 109 → 6 ≤ j → j ≠ 101 → j ≠ 108 → nI 0 = gI HI0 102 j := fun j h1 h2 h3 h4 => (ivk0 h1 h2 h3 h4).symm
  refine ⟨⟨A, iv0 (by decide), iv0 (by decide), iv0 (by decide), (iv0 (by decide)).trans (z _ (by omega) (by omega) (by omega) (by omega)), iv0 (by decide), ?_, fun p hp => (ivz (n := 6) (by decide) hp).trans (z _ (by omega) (by omega) (by omega) (by omega)), fun p hp => (ivz (n := 6) (by decide) hp).trans (z _ (by omega) (by omega) (by omega) (by omega)), fun p hp => (ivm (n := 6) (by decide) hp).trans (ivkm hp).symm, fun p hp => (ivz (n := 48) (by decide) hp).trans (z _ (by omega) (by omega) (by omega) (by omega)), fun p hp => (ivz (n := 8) (by decide) hp).trans (z _ (by omega) (by omega) (by omega) (by omega)), fun p hp => (ivz (n := 8) (by decide) hp).trans (z _ (by omega) (by omega) (by omega) (by omega)), fun p hp => ivm (n := 8) (by decide) hp, fun p hp => (ivz (n := 3) (by decide) hp).trans (z _ (by omega) (by omega) (by omega) (by omega)), fun p hp => (ivz (n := 3) (by decide) hp).trans (z _ (by omega) (by omega) (by omega) (by omega)), fun p hp => (ivz (n := 6) (by decide) hp).trans (z _ (by omega) (by omega) (by omega) (by omega)), fun p hp => (ivz (n := 6) (by decide) hp).trans (z _ (by omega) (by omega) (by omega) (by omega)), (iv0 (by decide)).trans (z _ (by omega) (by omega) (by omega) (by omega)), ?_, (iv0 (by decide)).trans (z _ (by omega) (by omega) (by omega) (by omega))⟩, ⟨A, by omega, iv0 (by decide), fun l hl => absurd hl (by omega)⟩, fun i a hi ha => ?_, ⟨by decide, iv0 (by decide), fun j x hj => by cases hj⟩, fun l hl => absurd hl (by omega)⟩
  · rw [ivk (by omega), if_neg (by omega), if_neg (by omega), if_pos rfl]
    exact iv1 (by decide)
  · rw [ivk (by omega), if_neg (by omega), if_pos rfl]
    exact iv_9
  · have q : gR HI0 14 i = none := of_decide_eq_true (List.all_eq_true.mp iv_t _ (List.mem_range.mpr hi))
    rw [show gR HI0 (1 + 13) i = none from q] at ha
    cases ha
theorem iv_C : CORE HI0 0 0 0 0 0 (fun _ => []) [] [] := ⟨iv_G, iv_Q, UR_nil _, by decide, iv0 (by decide), fun i r hi => by cases hi⟩
theorem iv_I {k : Nat} (hk : k < 2) : IMG HI0 k := by
  match k, hk with
  | 0, _ => exact ⟨false, iv0 (by decide), iv0 (by decide), fun z => by cases z⟩
  | 1, _ => exact ⟨false, iv0 (by decide), iv0 (by decide), fun z => by cases z⟩
  | k + 2, hk => exact absurd hk (by omega)
theorem iv_T : TAPE HI0 := ⟨0, by omega, iv0 (by decide), iv0 (by decide), funext fun j => (iv_107 j).trans (iv_36 j).symm, fun i => by
  rw [iv_36]
  decide, (iv1 (by decide)).trans (iv1 (by decide)).symm, fun i hi => of_decide_eq_true (List.all_eq_true.mp iv_w _ (List.mem_range.mpr hi))⟩
theorem iv_A : ANSW HI0 := ⟨(iv0 (by decide)).trans (iv0 (by decide)).symm, (iv0 (by decide)).trans (iv0 (by decide)).symm, (iv1 (by decide)).trans (iv1 (by decide)).symm, (ivz (n := 5) (by decide) (by decide)).trans (ivz (n := 7) (by decide) (by decide)).symm, (ivz (n := 5) (by decide) (by decide)).trans (ivz (n := 7) (by decide) (by decide)).symm, (ivz (n := 5) (by decide) (by decide)).trans (ivz (n := 7) (by decide) (by decide)).symm, (ivz (n := 5) (by decide) (by decide)).trans (ivz (n := 7) (by decide) (by decide)).symm, (ivz (n := 5) (by decide) (by decide)).trans (ivz (n := 7) (by decide) (by decide)).symm⟩
theorem iv_D : DRWN HI0 := ⟨0, by omega, Or.inr ⟨rfl, iv1 (by decide)⟩, fun p hp => by
  rw [if_neg (by omega)]
  exact ivm (n := 6) (by decide) hp⟩
/-- what does not speak of the script -/
def IvS (h : AH) : Prop := ZER h ∧ (∃ np nt nd nl no LSs E US, CORE h np nt nd nl no LSs E US ∧ CAB h (gI h 102) np nt nd nl LSs ∧ CWY h (gI h 102) np nt nd nl no LSs) ∧ (IMG h 0 ∧ IMG h 1) ∧ TAPE h ∧ ANSW h ∧ DRWN h
theorem iv_s : IvS HI0 := ⟨⟨fun j _ => iv_43 j, fun j _ => iv_64 j⟩, ⟨0, 0, 0, 0, 0, fun _ => [], [], [], iv_C, CAB.no (iv0 (by decide)), CWY.no (iv0 (by decide))⟩, ⟨iv_I (by decide), iv_I (by decide)⟩, iv_T, iv_A, iv_D⟩
theorem IvS.set {h : AH} (H : IvS h) (s : Nat × (Nat → Int32)) : IvS (setS h s) := H
theorem iv_bs {h : AH} (S : ShOK h) (R : RfOK h) (L : Nat) (xs : Nat → Int32) (hn : h.1.length ≤ 129) (hz : (h.1.map Prod.snd).sum ≤ 40000) : BAS L xs 0 (setS h (L, xs)) := ⟨S, R, rfl, hn, hz⟩
theorem iv_start (L : Nat) (xs : Nat → Int32) : Ivt L xs 0 (HI L xs) := by
  rw [HI_eq]
  exact ⟨iv_bs iv_S iv_R L xs (by rw [HI0_sh]; exact iv_sz.2) (by rw [HI0_sh]; exact iv_sz.1), iv_s.set (L, xs)⟩
theorem iv_ok (L : Nat) (xs : Nat → Int32) : LwOK L xs (Ivt L xs) := fun n h I => ⟨I.1.1 0 _ rfl, I.1.1 100 _ rfl, I.1.2.2.1, fun hn => ⟨by have := I.1.2.2.2.1; omega, by have := I.1.2.2.2.2; omega⟩, I.up⟩
