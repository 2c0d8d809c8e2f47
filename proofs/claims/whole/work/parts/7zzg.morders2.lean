theorem Fr.wr {X : Nat → Nat → Bool} {h h' : AH} (F : Fr X h h') {a : Nat} {f : Nat → Nat} {v : Nat → Int32} : ∀ n, (∀ i, i < n → X a (f i) = true) → Fr X h (wrI h' a f v n)
  | 0, _ => F
  | n + 1, hx => (Fr.wr F n (fun i hi => hx i (by omega))).sI (hx n (by omega))
theorem KB.lo {K K' : Nat → Int32} (B : KB K) (e : ∀ j, j < 109 → K' j = K j) : KB K' := by
  obtain ⟨b1, b2, b3, b4, b5, b6, b7⟩ := B
  exact ⟨fun p hp => by rw [e _ (by omega)]; exact b1 p hp, fun p hp => by rw [e _ (by omega)]; exact b2 p hp, fun p hp => by rw [e _ (by omega)]; exact b3 p hp, fun p hp => by rw [e _ (by omega)]; exact b4 p hp, fun p hp => by rw [e _ (by omega)]; exact b5 p hp, by rw [e _ (by omega)]; exact b6, by rw [e _ (by omega)]; exact b7⟩
theorem VH.lo {K K' : Nat → Int32} {np nt : Nat} (V : VH K np nt) (e : ∀ j, j < 109 → K' j = K j) : VH K' np nt := by
  have v1 := V.1
  exact ⟨V.1, V.2.1, fun p hp => by rw [e p (by omega)]; exact V.2.2.1 p hp, fun p q hp hq => by rw [e p (by omega), e q (by omega)]; exact V.2.2.2 p q hp hq⟩
theorem UR.lo {K K' : Nat → Int32} {np nt : Nat} {E : List Int32} {US : List (Nat → Int32)} (U : UR np nt K E US) (e : ∀ j, j < 109 → K' j = K j) : UR np nt K' E US := URr_congr (fun j hj => (e j (by omega)).symm) _ _ U
theorem FlK.ly {K : Nat → Int32} {fl : Option (List CLE)} (H : FlK K fl) {c v : Nat → Nat} {T : Nat} (hT : T ≤ 400) : FlK (lyK K c v 6 T) fl := by
  match fl, H with
  | none, H => exact (lyK_lo (by decide)).trans H
  | some L, H =>
    obtain ⟨l, hl, e, T', c', v', f, h1, h2, h3, h4, h5⟩ := H
    refine ⟨l, hl, (lyK_lo (by decide)).trans e, T', c', v', f, h1, h2, ?_, fun k hk => ?_, h5⟩
    · rw [show lyK K c v 6 T (109 + l) = K (109 + l) by unfold lyK; rw [if_neg (by omega), if_neg (by omega), if_neg (by omega)]]; exact h3
    · rw [show lyK K c v 6 T (116 + (400 * l + k)) = K (116 + (400 * l + k)) by unfold lyK; rw [if_neg (by omega), if_neg (by omega), if_neg (by omega)], show lyK K c v 6 T (2916 + (400 * l + k)) = K (2916 + (400 * l + k)) by unfold lyK; rw [if_neg (by omega), if_neg (by omega), if_neg (by omega)]]
      exact h4 k hk
theorem OK6.ly {K : Nat → Int32} {c v : Nat → Nat} {T : Nat} (hT : T ≤ 400) (hc : c T = 0) (hb : ∀ k, k < T → c k < 1000 ∧ v k < 20000000) : OK6 (lyK K c v 6 T) c v T := ⟨hT, hc, fun k hk => by
  refine ⟨?_, ?_, hb k hk⟩
  · unfold lyK
    rw [if_neg (by omega), if_pos (by omega), show 116 + (2400 + k) - (116 + 400 * 6) = k by omega]
  · unfold lyK
    rw [if_neg (by omega), if_neg (by omega), if_pos (by omega), show 2916 + (2400 + k) - (2916 + 400 * 6) = k by omega]⟩
theorem moX_102 (j : Nat) : moX 102 j = true := by unfold moX; rw [Bool.or_eq_true]; exact Or.inr rfl
theorem RfOK.put {h : AH} (R : RfOK h) (k j : Nat) (x : Int32) : RfOK (sI h k j x) := fun a b c e => R a b c e
section Mw
variable (d : Nat) {fl : Option (List CLE)} {np nt : Nat} {c v : Nat → Nat} {T : Nat}
/-- all is put back -/
theorem mord114 {g : AH} (S : ShOK g) (R : RfOK g) (ua e2 : Int32) (n : Nat) : Rp (d + 80) M_X12_orders 114 [some (.ref aM), some (.int ua), some (.int e2), some (.int (nI n)), none] [] g (fun r h' => ∃ g2, g2 = sI (sI (wrI (wrI g 102 (fun i => i) (fun i => gI g 105 (7 * 1 + i)) 7) 113 (fun i => i) (gI (wrI g 102 (fun i => i) (fun i => gI g 105 (7 * 1 + i)) 7) 114) 128) 100 32 ua) 100 50 (nI n) ∧ r = some (.int (-nI 3)) ∧ h' = sI (sI g2 aM fm_status (-nI 3)) am_refused 3 (gI g2 am_refused 3 + nI 1)) := by
  have tb := s_takesBack (d + 79) S R (k := 1) (by decide)
  have Sa := S.wr 102 (fun i => i) (fun i => gI g 105 (7 * 1 + i)) 7
  have Ra := R.wr 102 (fun i => i) (fun i => gI g 105 (7 * 1 + i)) 7
  generalize hA : wrI g 102 (fun i => i) (fun i => gI g 105 (7 * 1 + i)) 7 = ga at Sa Ra ⊢
  have tb : Rp (d + 79) M_X12_takesBack 0 [some (.ref aM), some (.int (nI 1)), none] [] g (fun r h' => h' = ga ∧ r = none) := by rw [← hA]; exact tb
  have Sb := Sa.wr 113 (fun i => i) (gI ga 114) 128
  have Rb := Ra.wr 113 (fun i => i) (gI ga 114) 128
  have k150 : ∀ gb, ShOK gb → RfOK gb → Rp (d + 80) M_X12_orders 150 [some (.ref aM), some (.int ua), some (.int e2), some (.int (nI n)), some (.int (nI 128))] [] gb (fun r h' => ∃ g2, g2 = sI (sI gb 100 32 ua) 100 50 (nI n) ∧ r = some (.int (-nI 3)) ∧ h' = sI (sI g2 aM fm_status (-nI 3)) am_refused 3 (gI g2 am_refused 3 + nI 1)) := by
    intro gb Sg Rg
    have rf := s_refuses (d + 79) (h := sI (sI gb 100 32 ua) 100 50 (nI n)) Sg Rg 3 (by decide)
    refine Rp.aload_n dX12_orders_150 rfl rfl ?_
    refine Rp.iload_n dX12_orders_151 rfl ?_
    refine Rp.putI dX12_orders_152 fk_X12_11w rfl (Sg _ _ rfl) ?_
    refine Rp.aload_n dX12_orders_155 rfl rfl ?_
    refine Rp.iload_n dX12_orders_156 rfl ?_
    refine Rp.putI dX12_orders_157 fk_X12_105w rfl (Sg _ _ rfl) ?_
    refine Rp.aload_n dX12_orders_160 rfl rfl ?_
    refine Rp.bipush (-3) dX12_orders_161 (by decide) ?_
    refine Rp.callV1 M_X12_refuses (ci := 12) dX12_orders_163 mo_X12_refuses lk_X12_121 (by decide) rfl rfl (Sg _ _ rfl) (Nat.le_of_ble_eq_true rfl) (Nat.le_of_ble_eq_true rfl) (rf) (fun v1 h1 p1 x1 => ?_)
    rw [p1.1, p1.2]
    try dsimp only [Option.toList, List.cons_append, List.nil_append, List.append]
    refine Rp.ireturn dX12_orders_166 rfl ?_
    exact ⟨_, rfl, rfl, rfl⟩
  have k122 := mord122 (d + 80) Sa Ra ua e2 (nI n) (k150 _ Sb Rb) 128 0 (by omega)
  refine Rp.aload_n dX12_orders_114 rfl rfl ?_
  refine Rp.iconst (nI 1) dX12_orders_115 (by decide) ?_
  refine Rp.callV1 M_X12_takesBack (ci := 12) dX12_orders_116 mo_X12_takesBack lk_X12_429 (by decide) rfl rfl (S _ _ rfl) (Nat.le_of_ble_eq_true rfl) (Nat.le_of_ble_eq_true rfl) (tb) (fun v1 h1 p1 x1 => ?_)
  rw [p1.1, p1.2]
  try dsimp only [Option.toList, List.cons_append, List.nil_append, List.append]
  refine Rp.iconst (nI 0) dX12_orders_119 (by decide) ?_
  refine Rp.ist4 dX12_orders_120 (by first | exact nl2_some rfl | exact nl2_none) (by decide) ?_
  exact k122
theorem mord173 {P : Option Value → AH → Prop} {g : AH} {x : Nat} (S : ShOK g) (e27 : gI g 100 27 = nI x) (ua e2 n3 : Int32) (fz : P (some (.int (nI x))) (sI g aM fm_status (nI 0))) : Rp (d + 80) M_X12_orders 173 [some (.ref aM), some (.int ua), some (.int e2), some (.int n3), none] [] g P := by
  have gd := s_good (d + 79) S (nI x)
  refine Rp.aload_n dX12_orders_173 rfl rfl ?_
  refine Rp.aload_n dX12_orders_174 rfl rfl ?_
  refine Rp.getI dX12_orders_175 fk_X12_318 rfl (S _ _ rfl) ?_
  first | rw [e27] | skip
  refine Rp.callV1 M_X12_good (ci := 12) dX12_orders_178 mo_X12_good lk_X12_14 (by decide) rfl rfl (S _ _ rfl) (Nat.le_of_ble_eq_true rfl) (Nat.le_of_ble_eq_true rfl) (gd) (fun v1 h1 p1 x1 => ?_)
  rw [p1.1, p1.2]
  try dsimp only [Option.toList, List.cons_append, List.nil_append, List.append]
  refine Rp.ireturn dX12_orders_181 rfl ?_
  exact fz
theorem mord20a {P : Option Value → AH → Prop} {h ha : AH} (S : ShOK h) (la : Rp (d + 79) M_X12_laysAside 0 [some (.ref aM), some (.int (nI 1)), none] [] h (fun r h' => h' = ha ∧ r = none)) (k27 : Rp (d + 80) M_X12_orders 27 [some (.ref aM), some (.int (nI 0)), none, none, none] [] ha P) : Rp (d + 80) M_X12_orders 20 [some (.ref aM), none, none, none, none] [] h P := by
  refine Rp.aload_n dX12_orders_20 rfl rfl ?_
  refine Rp.iconst (nI 1) dX12_orders_21 (by decide) ?_
  refine Rp.callV1 M_X12_laysAside (ci := 12) dX12_orders_22 mo_X12_laysAside lk_X12_426 (by decide) rfl rfl (S _ _ rfl) (Nat.le_of_ble_eq_true rfl) (Nat.le_of_ble_eq_true rfl) (la) (fun v1 h1 p1 x1 => ?_)
  rw [p1.1, p1.2]
  try dsimp only [Option.toList, List.cons_append, List.nil_append, List.append]
  refine Rp.iconst (nI 0) dX12_orders_25 (by decide) ?_
  refine Rp.ist1 dX12_orders_26 (by first | exact nl2_some rfl | exact nl2_none) (by decide) ?_
  exact k27
/-- behind the reading -/
theorem mord20 {h : AH} {US : List (Nat → Int32)} {E : List Int32} {LS : List CLE} {f : Nat} (A : MA h fl np nt US) (U : UR np nt (gI h 102) E US) (hT4 : T ≤ 400) (hc : c T = 0) (hcb : ∀ k, k < T → c k < 1000 ∧ v k < 20000000) (htk : gI h aM fm_tokens = nI T) (hcv : ∀ i, i ≤ T → gI h am_code i = nI (c i) ∧ gI h am_value i = nI (v i)) (hL : rdL true c v T f 12 0 0 0 = .ok LS) : Rp (d + 80) M_X12_orders 20 [some (.ref aM), none, none, none, none] [] h (MOQ h fl np nt (lyK (gI h 102) c v 6 T) US (orL fl np nt LS 0 (lyK (gI h 102) c v 6 T, E, US, 0, -1))) := by
  obtain ⟨S, R, hF, B, V, hM, hTt, L⟩ := A
  obtain ⟨lb1, lb2, lb3⟩ := rdL_bnd hc 12 0 0 0 LS (Nat.zero_le _) (Nat.zero_le _) hL
  have la := s_laysAside (d + 79) S R (k := 1) (by decide)
  have S1 := S.wr 105 (fun i => 7 * 1 + i) (gI h 102) 7
  have R1 := R.wr 105 (fun i => 7 * 1 + i) (gI h 102) 7
  have F1 : Fr moX h (wrI h 105 (fun i => 7 * 1 + i) (gI h 102) 7) := Fr.wr Fr.rfl' 7 (fun i hi => rfl)
  have n1 : ∀ k j, k ≠ 105 → gI (wrI h 105 (fun i => 7 * 1 + i) (gI h 102) 7) k j = gI h k j := fun k j hk => gI_wrI_ne h _ _ hk j 7
  have i1 : ∀ i, i < 7 → gI (wrI h 105 (fun i => 7 * 1 + i) (gI h 102) 7) 105 (7 * 1 + i) = gI h 102 i := fun i hi => gI_wrI_in h 105 (7 * 1) (gI h 102) 7 hi
  have la : Rp (d + 79) M_X12_laysAside 0 [some (.ref aM), some (.int (nI 1)), none] [] h (fun r h' => h' = wrI h 105 (fun i => 7 * 1 + i) (gI h 102) 7 ∧ r = none) := la
  generalize wrI h 105 (fun i => 7 * 1 + i) (gI h 102) 7 = ha at S1 R1 F1 n1 i1 la
  have S2 := S1.wr 114 (fun i => i) (gI ha 113) 128
  have R2 := R1.wr 114 (fun i => i) (gI ha 113) 128
  have F2 : Fr moX ha (wrI ha 114 (fun i => i) (gI ha 113) 128) := Fr.wr Fr.rfl' 128 (fun i hi => rfl)
  have n2 : ∀ k j, k ≠ 114 → gI (wrI ha 114 (fun i => i) (gI ha 113) 128) k j = gI ha k j := fun k j hk => gI_wrI_ne ha _ _ hk j 128
  have i2 : ∀ i, i < 128 → gI (wrI ha 114 (fun i => i) (gI ha 113) 128) 114 i = gI ha 113 i := fun i hi => gI_wrI_id ha 114 (gI ha 113) 128 hi
  have lop := fun P kk => mord27 (d + 80) (P := P) S1 R1 kk 128 0 (by omega)
  generalize wrI ha 114 (fun i => i) (gI ha 113) 128 = hb at S2 R2 F2 n2 i2 lop
  have ly := s_lays (d + 79) (h := hb) (c := c) (v := v) (t := 6) (T := T) S2 R2 (by decide) hT4 ((n2 100 _ (by decide)).trans ((n1 100 _ (by decide)).trans htk)) (fun i hi => ⟨(n2 109 i (by decide)).trans ((n1 109 i (by decide)).trans (hcv i hi).1), (n2 110 i (by decide)).trans ((n1 110 i (by decide)).trans (hcv i hi).2)⟩)
  have e32 : gI hb 100 32 = nI US.length := (n2 100 32 (by decide)).trans ((n1 100 32 (by decide)).trans L.2.1)
  refine mord20a d S la (lop _ ?_)
  refine Rp.aload_n dX12_orders_52 rfl rfl ?_
  refine Rp.getI dX12_orders_53 fk_X12_11 rfl (S2 _ _ rfl) ?_
  first | rw [e32] | skip
  refine Rp.ist1 dX12_orders_56 (by first | exact nl2_some rfl | exact nl2_none) (by decide) ?_
  refine Rp.aload_n dX12_orders_57 rfl rfl ?_
  refine Rp.bipush (nI 6) dX12_orders_58 (by decide) ?_
  refine Rp.callV1 M_X12_lays (ci := 12) dX12_orders_60 mo_X12_lays lk_X12_273 (by decide) rfl rfl (S2 _ _ rfl) (Nat.le_of_ble_eq_true rfl) (Nat.le_of_ble_eq_true rfl) (ly) (fun v1 h1 p1 x1 => ?_)
  obtain ⟨rfl, F3, e3⟩ := p1
  try dsimp only [Option.toList, List.cons_append, List.nil_append, List.append]
  skip
  have S3 := F3.S S2
  have R3 := F3.R R2 (by decide)
  have K3 : gI h1 102 = lyK (gI h 102) c v 6 T := funext fun i => by
    refine (e3 i).trans ?_
    unfold lyK
    rw [show gI hb am_kept i = gI h 102 i from (n2 102 i (by decide)).trans (n1 102 i (by decide))]
  let h4 := sI (sI (sI h1 100 27 (nI 0)) 100 28 (-1)) 100 51 (nI 2400)
  have F4 : Fr moX h1 h4 := ((Fr.rfl'.sI rfl).sI rfl).sI rfl
  have Fm : Fr moX h h4 := ((F1.trans F2).trans (F3.weak (fun k j hx => by
    unfold moX at hx
    rw [Bool.or_eq_false_iff, Bool.or_eq_false_iff] at hx
    exact hx.2.1))).trans F4
  have K4 : gI h4 102 = lyK (gI h 102) c v 6 T := K3
  have lo : ∀ j, j < 109 → lyK (gI h 102) c v 6 T j = gI h 102 j := fun j hj => lyK_lo hj
  have o3 : ∀ k j, k ≠ 102 → k ≠ 105 → k ≠ 114 → gI h1 k j = gI h k j := fun k j z1 z2 z3 => (F3.I k j (beq_eq_false_iff_ne.mpr z1)).trans ((n2 k j z3).trans (n1 k j z2))
  have L4 : LGm h4 US := ⟨L.1, (show gI h4 100 32 = gI h1 100 32 from rfl).trans ((o3 100 32 (by decide) (by decide) (by decide)).trans L.2.1), fun i r hi j hj => (show gI h4 113 (8 * i + j) = gI h1 113 (8 * i + j) from rfl).trans ((o3 113 _ (by decide) (by decide) (by decide)).trans (L.2.2 i r hi j hj))⟩
  have M4 : MI h4 fl np nt c v T (lyK (gI h 102) c v 6 T, E, US, 0, -1) := ⟨⟨S3, R3, by rw [show gI h4 am_kept = lyK (gI h 102) c v 6 T from K4]; exact hF.ly hT4, by rw [show gI h4 am_kept = lyK (gI h 102) c v 6 T from K4]; exact B.lo lo, by rw [show gI h4 am_kept = lyK (gI h 102) c v 6 T from K4]; exact V.lo lo, by rw [show gI h4 am_kept = lyK (gI h 102) c v 6 T from K4, lo 103 (by decide)]; exact hM, by rw [show gI h4 am_kept = lyK (gI h 102) c v 6 T from K4, lo 104 (by decide)]; exact hTt, L4⟩, K4, OK6.ly hT4 hc hcb, (gI_off _ _ _ (by decide)).trans ((gI_off _ _ _ (by decide)).trans (gI_hit _ _ _ _)), (gI_off _ _ _ (by decide)).trans (gI_hit _ _ _ _)⟩
  have e115 : gI h4 102 115 = nI T := by rw [K4]; unfold lyK; rw [if_pos rfl]
  have k95 : Rp (d + 80) M_X12_orders 95 [some (.ref aM), some (.int (nI US.length)), some (.int (nI (2400 + T))), some (.int (nI 0)), none] [] h4 (MOQ h fl np nt (lyK (gI h 102) c v 6 T) US (orL fl np nt LS 0 (lyK (gI h 102) c v 6 T, E, US, 0, -1))) := by
    refine mord95 d (h0 := h4) hc f (nI US.length) hT4 12 0 0 0 LS 0 0 _ h4 hL (Nat.zero_le _) (Nat.zero_le _) M4 ⟨V.lo lo, B.lo lo, U.lo lo, Nat.le_refl _, Or.inl rfl⟩ (by omega) (by omega) Fr.rfl' (gI_hit _ _ _ _) (fun s' g' n' e M' F' => ?_) (fun m g' e F' S' R' => ?_)
    · rw [e]
      have e27 : gI g' 100 27 = nI s'.2.2.2.1 := M'.2.2.2.1
      have Sg := M'.1.1
      have fz : MOQ h fl np nt (lyK (gI h 102) c v 6 T) US (.ok s') (some (.int (nI s'.2.2.2.1))) (sI g' aM fm_status (nI 0)) := ⟨g', Fm.trans (moX_r F'), Sg, M'.1.2.1, rfl, rfl, M'.2.1, M'.1.2.2.2.2.2.2.2, (F'.I 100 50 rfl).trans ((show gI h4 100 50 = gI h1 100 50 from rfl).trans (o3 100 50 (by decide) (by decide) (by decide)))⟩
      exact mord173 d Sg e27 (nI US.length) (nI (2400 + T)) (nI n') fz
    · rw [e]
      refine Rp.mono (fun r h' z => ?_) (mord114 d S' R' (nI US.length) (nI (2400 + T)) m)
      obtain ⟨g2, eg, er, eh⟩ := z
      have a105 : ∀ i, i < 7 → gI g' 105 (7 * 1 + i) = gI h 102 i := fun i hi => (F'.I 105 _ rfl).trans ((show gI h4 105 (7 * 1 + i) = gI h1 105 (7 * 1 + i) from rfl).trans ((F3.I 105 _ rfl).trans ((n2 105 _ (by decide)).trans (i1 i hi))))
      have a114 : ∀ i, i < 128 → gI g' 114 i = gI h 113 i := fun i hi => (F'.I 114 _ rfl).trans ((show gI h4 114 i = gI h1 114 i from rfl).trans ((F3.I 114 _ rfl).trans ((i2 i hi).trans (n1 113 i (by decide)))))
      have Kg : gI g2 102 = lyK (gI h 102) c v 6 T := funext fun j => by
        rw [eg, gI_ne _ _ _ _ (by decide), gI_ne _ _ _ _ (by decide), gI_wrI_ne _ _ _ (by decide)]
        by_cases hj : j < 7
        · rw [gI_wrI_id _ _ _ 7 hj, a105 j hj, lo j (by omega)]
        · rw [gI_wrI_out _ _ _ _ 7 (fun i hi => by omega), F'.I 102 j (by unfold rnX gaX obX amX tlX kpX gbX; rw [decide_eq_false hj]; rfl), K4]
      have Lg : LGm g2 US := ⟨L.1, by rw [eg]; exact (gI_off _ _ _ (by decide)).trans (gI_hit _ _ _ _), fun i r hi j hj => by
        have l16 := L.1
        have il := (List.getElem?_eq_some_iff.mp hi).1
        rw [eg, gI_ne _ _ _ _ (by decide), gI_ne _ _ _ _ (by decide), gI_wrI_id _ _ _ 128 (by omega), gI_wrI_ne _ _ _ (by decide), a114 _ (by omega)]
        exact L.2.2 i r hi j hj⟩
      have Fg : Fr moX h g2 := by
        rw [eg]
        exact (((((Fm.trans (moX_r F')).wr 7 (fun i hi => moX_102 i)).wr 128 (fun i hi => rfl)).sI rfl).sI rfl)
      refine ⟨g2, Fg, Fg.S S, ?_, er, eh, Kg, Lg, by rw [eg]; exact gI_hit _ _ _ _⟩
      rw [eg]
      exact RfOK.put (RfOK.put ((R'.wr 102 (fun i => i) (fun i => gI g' 105 (7 * 1 + i)) 7).wr 113 (fun i => i) _ 128) _ _ _) _ _ _
  have w115 : gI h4 102 115 = nI T := e115
  have w51 : gI h4 100 51 = nI 2400 := gI_hit _ _ _ _
  refine Rp.aload_n dX12_orders_63 rfl rfl ?_
  refine Rp.iconst (nI 0) dX12_orders_64 (by decide) ?_
  refine Rp.putI dX12_orders_65 fk_X12_318w rfl (S3 _ _ rfl) ?_
  refine Rp.aload_n dX12_orders_68 rfl rfl ?_
  refine Rp.iconst (-1) dX12_orders_69 (by decide) ?_
  refine Rp.putI dX12_orders_70 fk_X12_321w rfl (S3 _ _ rfl) ?_
  refine Rp.aload_n dX12_orders_73 rfl rfl ?_
  refine Rp.sipush (nI 2400) dX12_orders_74 (by decide +kernel) ?_
  refine Rp.putI dX12_orders_77 fk_X12_482w rfl (S3 _ _ rfl) ?_
  refine Rp.aload_n dX12_orders_80 rfl rfl ?_
  refine Rp.getI dX12_orders_81 fk_X12_482 rfl (S3 _ _ rfl) ?_
  first | rw [w51] | rw [w115] | skip
  refine Rp.aload_n dX12_orders_84 rfl rfl ?_
  refine Rp.getR dX12_orders_85 fk_X12_24 rfl (S3 _ _ rfl) (R3 _ _ _ rfl) ?_
  refine Rp.bipush (nI 115) dX12_orders_88 (by decide) ?_
  first | ((with_reducible show Rp _ _ _ _ (.int (nI _) :: _) _ _); refine Rp.ialoadN dX12_orders_90 (S3 _ _ rfl) (by omega) ?_) | refine Rp.iaload dX12_orders_90 (S3 _ _ rfl) (by first | assumption | exact vpb (by decide)) ?_
  first | rw [w51] | rw [w115] | skip
  first | ((with_reducible show Rp _ _ _ _ (.int (nI _) :: .int (nI _) :: _) _ _); refine Rp.iaddN dX12_orders_91 ?_) | refine Rp.iadd dX12_orders_91 ?_
  refine Rp.ist2 dX12_orders_92 (by first | exact nl2_some rfl | exact nl2_none) (by decide) ?_
  refine Rp.iconst (nI 0) dX12_orders_93 (by decide) ?_
  refine Rp.ist3 dX12_orders_94 (by first | exact nl2_some rfl | exact nl2_none) (by decide) ?_
  exact k95
end Mw
