section Lc
variable (d : Nat) {h : AH} {K : Nat → Int32} {np nt nd nl : Nat} {LSs : Nat → List CLE} {E : List Int32}
theorem aN129 (S : ShOK h) : 129 ≤ aN h := (List.getElem?_eq_some_iff.mp (S 128 _ rfl)).1
theorem t_addLaw (S : ShOK h) (R : RfOK h) {a : Nat} (sa : h.1[a]? = some (9, clN 9)) (hn : nl < 6) (e16 : gI h 1 16 = nI nl) : Rp d M_X2_addLaw 0 [some (.ref 1), some (.ref a)] [] h (fun r h' => h' = sI (sR h 14 nl (some a)) 1 16 (nI (nl + 1)) ∧ r = some (.int (nI nl))) := by
  have w : gI (sR h 14 nl (some a)) 1 16 = nI nl := e16
  have w2 : gI (sI (sR h 14 nl (some a)) 1 16 (nI (nl + 1))) 1 16 = nI (nl + 1) := gI_hit _ _ _ _
  refine Rp.aload_n dX2_addLaw_0 rfl rfl ?_
  refine Rp.getI dX2_addLaw_1 fk_X2_89 rfl (S _ _ rfl) ?_
  first | rw [e16] | rw [w] | rw [w2] | skip
  refine Rp.bipush (nI 6) dX2_addLaw_4 (by decide) ?_
  first | ((with_reducible show Rp _ _ _ _ (.int (nI _) :: .int (nI _) :: _) _ _); refine Rp.icmp_ltN (tgt := 12) dX2_addLaw_6 (by decide) (by omega) (fun c6 => ?_) (fun c6 => ?_)) | refine Rp.icmp_lt (tgt := 12) dX2_addLaw_6 (by decide) (fun c6 => ?_) (fun c6 => ?_)
  · skip
    refine Rp.aload_n dX2_addLaw_12 rfl rfl ?_
    refine Rp.getR dX2_addLaw_13 fk_X2_50 rfl (S _ _ rfl) (R _ _ _ rfl) ?_
    refine Rp.aload_n dX2_addLaw_16 rfl rfl ?_
    refine Rp.getI dX2_addLaw_17 fk_X2_89 rfl (S _ _ rfl) ?_
    first | rw [e16] | rw [w] | rw [w2] | skip
    refine Rp.aload_n dX2_addLaw_20 rfl rfl ?_
    refine Rp.aastore dX2_addLaw_21 (Or.inl ⟨rfl, rfl⟩) (S _ _ rfl) sa (vp_in_nI (show nl < 6 from hn) (by decide)) ?_
    rw [nI_clamp (show nl < 2 ^ 31 by omega)]
    refine Rp.aload_n dX2_addLaw_22 rfl rfl ?_
    refine Rp.dup dX2_addLaw_23 rfl ?_
    refine Rp.getI dX2_addLaw_24 fk_X2_89 rfl (S _ _ rfl) ?_
    first | rw [e16] | rw [w] | rw [w2] | skip
    refine Rp.iconst (nI 1) dX2_addLaw_27 (by decide) ?_
    first | ((with_reducible show Rp _ _ _ _ (.int (nI _) :: .int (nI _) :: _) _ _); refine Rp.iaddN dX2_addLaw_28 ?_) | refine Rp.iadd dX2_addLaw_28 ?_
    refine Rp.putI dX2_addLaw_29 fk_X2_89w rfl (S _ _ rfl) ?_
    refine Rp.aload_n dX2_addLaw_32 rfl rfl ?_
    refine Rp.getI dX2_addLaw_33 fk_X2_89 rfl (S _ _ rfl) ?_
    first | rw [e16] | rw [w] | rw [w2] | skip
    refine Rp.iconst (nI 1) dX2_addLaw_36 (by decide) ?_
    first | ((with_reducible show Rp _ _ _ _ (.int (nI _) :: .int (nI _) :: _) _ _); refine Rp.isubN dX2_addLaw_37 (by omega) ?_) | refine Rp.isub dX2_addLaw_37 ?_
    refine Rp.ireturn dX2_addLaw_38 rfl ?_
    exact ⟨rfl, by rw [show nl + 1 - 1 = nl by omega]⟩
  · skip
    first | (exfalso; omega) | exact absurd c6 (by decide) | exact absurd (by decide) c6
theorem t_law_full (S : ShOK h) (R : RfOK h) (e16 : gI h 1 16 = nI 6) : Rp (d + 1) M_X11_law 0 [some (.ref 0)] [] h (fun r h' => h' = rcH (sI h 35 2 (nI 0)) 5 ∧ r = some (.int (-nI 5))) := by
  have rf := t_refused d (h := sI h 35 2 (nI 0)) (fun k q hq => S k q hq) (R.put _ _ _) 5 (by decide)
  refine Rp.aload_n dX11_law_0 rfl rfl ?_
  refine Rp.getR dX11_law_1 fk_X11_10 rfl (S _ _ rfl) (R _ _ _ rfl) ?_
  refine Rp.getI dX11_law_4 fk_X11_203 rfl (S _ _ rfl) ?_
  first | rw [e16] | skip
  refine Rp.bipush (nI 6) dX11_law_7 (by decide) ?_
  first | ((with_reducible show Rp _ _ _ _ (.int (nI _) :: .int (nI _) :: _) _ _); refine Rp.icmp_ltN (tgt := 27) dX11_law_9 (by decide) (by omega) (fun c9 => ?_) (fun c9 => ?_)) | refine Rp.icmp_lt (tgt := 27) dX11_law_9 (by decide) (fun c9 => ?_) (fun c9 => ?_)
  · skip
    exact absurd c9 (by decide)
  · skip
    refine Rp.aload_n dX11_law_12 rfl rfl ?_
    refine Rp.getR dX11_law_13 fk_X11_30 rfl (S _ _ rfl) (R _ _ _ rfl) ?_
    refine Rp.iconst (nI 0) dX11_law_16 (by decide) ?_
    refine Rp.putI dX11_law_17 fk_X11_190w rfl (S _ _ rfl) ?_
    refine Rp.aload_n dX11_law_20 rfl rfl ?_
    refine Rp.bipush (-5) dX11_law_21 (by decide) ?_
    refine Rp.callV1 M_X11_refused (ci := 11) dX11_law_23 mo_X11_refused lk_X11_109 (by decide) rfl rfl (S _ _ rfl) (Nat.le_of_ble_eq_true rfl) (Nat.le_of_ble_eq_true rfl) (rf) (fun v1 h1 p1 x1 => ?_)
    rw [p1.1, p1.2]
    try dsimp only [Option.toList, List.cons_append, List.nil_append, List.append]
    refine Rp.ireturn dX11_law_26 rfl ?_
    exact ⟨rfl, rfl⟩
/-- the class's law -/
theorem t_law (S : ShOK h) (R : RfOK h) (hn : nl < 6) (e16 : gI h 1 16 = nI nl) {Lt : Nat} (hL : Lt ≤ 400) (hl : gI h 35 2 = nI Lt) : Rp (d + 38) M_X11_law 0 [some (.ref 0)] [] h (fun r h' => ∃ g1, Fr rdX h g1 ∧ gI g1 35 2 = nI 0 ∧ match RDg false (gI h 36) Lt with
  | .error e => gI g1 35 3 = nI (pT Lt (TLo (gI h 36) Lt) e) ∧ r = some (.int (-nI 6)) ∧ h' = rcH g1 6
  | .ok LS => gI g1 35 3 = -1 ∧ TXG g1 37 38 39 60 436 false LS ∧ ∃ g2, TxN g1 LS.length (cdA LS).length (fitC false (cdA LS)) g2 ∧ r = some (.int (nI nl)) ∧ h' = acH (sI (sR g2 14 nl (some (aN g1))) 1 16 (nI (nl + 1)))) := by
  have rd := t_read d (h := h) (ord := false) S R hL hl
  unfold rdY at rd
  have ne : ¬ nI 6 ≤ nI nl := by
    rw [i32_le, nI_toInt (by omega), nI_toInt (by omega)]
    omega
  match hq : RDg false (gI h 36) Lt with
  | .error e =>
    rw [hq] at rd
    refine Rp.aload_n dX11_law_0 rfl rfl ?_
    refine Rp.getR dX11_law_1 fk_X11_10 rfl (S _ _ rfl) (R _ _ _ rfl) ?_
    refine Rp.getI dX11_law_4 fk_X11_203 rfl (S _ _ rfl) ?_
    first | rw [e16] | skip
    refine Rp.bipush (nI 6) dX11_law_7 (by decide) ?_
    first | ((with_reducible show Rp _ _ _ _ (.int (nI _) :: .int (nI _) :: _) _ _); refine Rp.icmp_ltN (tgt := 27) dX11_law_9 (by decide) (by omega) (fun c9 => ?_) (fun c9 => ?_)) | refine Rp.icmp_lt (tgt := 27) dX11_law_9 (by decide) (fun c9 => ?_) (fun c9 => ?_)
    rotate_left
    · first | (exfalso; omega) | exact absurd c9 (by decide) | exact absurd (by decide) c9
    refine Rp.aload_n dX11_law_27 rfl rfl ?_
    refine Rp.getR dX11_law_28 fk_X11_30 rfl (S _ _ rfl) (R _ _ _ rfl) ?_
    refine Rp.iconst (nI 0) dX11_law_31 (by decide) ?_
    refine Rp.callV1 M_X7_read (ci := 7) dX11_law_32 mo_X7_read lk_X11_206 (by decide) rfl rfl (S _ _ rfl) (Nat.le_of_ble_eq_true rfl) (Nat.le_of_ble_eq_true rfl) (rd) (fun v1 h1 p1 x1 => ?_)
    obtain ⟨F1, z1, rfl, z2⟩ := p1
    try dsimp only [Option.toList, List.cons_append, List.nil_append, List.append]
    skip
    have S1 := F1.S S
    have R1 := F1.R R (by decide)
    have rf := t_refused (d + 37) S1 R1 6 (by decide)
    first | ((with_reducible show Rp _ _ _ _ (.int (b2i _) :: _) _ _); refine Rp.if_neB (tgt := 45) dX11_law_35 (by decide) (fun c35 => ?_) (fun c35 => ?_)) | ((with_reducible show Rp _ _ _ _ (.int (nI _) :: _) _ _); refine Rp.if_neN (tgt := 45) dX11_law_35 (by decide) (by omega) (fun c35 => ?_) (fun c35 => ?_)) | refine Rp.if_ne (tgt := 45) dX11_law_35 (by decide) (fun c35 => ?_) (fun c35 => ?_)
    · skip
      first | (exfalso; omega) | exact absurd c35 (by decide) | exact absurd (by decide) c35
    · skip
      refine Rp.aload_n dX11_law_38 rfl rfl ?_
      refine Rp.bipush (-6) dX11_law_39 (by decide) ?_
      refine Rp.callV1 M_X11_refused (ci := 11) dX11_law_41 mo_X11_refused lk_X11_109 (by decide) rfl rfl (S1 _ _ rfl) (Nat.le_of_ble_eq_true rfl) (Nat.le_of_ble_eq_true rfl) (rf) (fun v1 h1 p1 x1 => ?_)
      rw [p1.1, p1.2]
      try dsimp only [Option.toList, List.cons_append, List.nil_append, List.append]
      refine Rp.ireturn dX11_law_44 rfl ?_
      exact ⟨_, F1, z1, z2, rfl, rfl⟩
  | .ok LS =>
    rw [hq] at rd
    refine Rp.aload_n dX11_law_0 rfl rfl ?_
    refine Rp.getR dX11_law_1 fk_X11_10 rfl (S _ _ rfl) (R _ _ _ rfl) ?_
    refine Rp.getI dX11_law_4 fk_X11_203 rfl (S _ _ rfl) ?_
    first | rw [e16] | skip
    refine Rp.bipush (nI 6) dX11_law_7 (by decide) ?_
    first | ((with_reducible show Rp _ _ _ _ (.int (nI _) :: .int (nI _) :: _) _ _); refine Rp.icmp_ltN (tgt := 27) dX11_law_9 (by decide) (by omega) (fun c9 => ?_) (fun c9 => ?_)) | refine Rp.icmp_lt (tgt := 27) dX11_law_9 (by decide) (fun c9 => ?_) (fun c9 => ?_)
    rotate_left
    · first | (exfalso; omega) | exact absurd c9 (by decide) | exact absurd (by decide) c9
    refine Rp.aload_n dX11_law_27 rfl rfl ?_
    refine Rp.getR dX11_law_28 fk_X11_30 rfl (S _ _ rfl) (R _ _ _ rfl) ?_
    refine Rp.iconst (nI 0) dX11_law_31 (by decide) ?_
    refine Rp.callV1 M_X7_read (ci := 7) dX11_law_32 mo_X7_read lk_X11_206 (by decide) rfl rfl (S _ _ rfl) (Nat.le_of_ble_eq_true rfl) (Nat.le_of_ble_eq_true rfl) (rd) (fun v1 h1 p1 x1 => ?_)
    obtain ⟨F1, z1, rfl, z2, T1⟩ := p1
    rename AH => g1
    try dsimp only [Option.toList, List.cons_append, List.nil_append, List.append]
    skip
    have S1 := F1.S S
    have R1 := F1.R R (by decide)
    have T1 : TXT g1 37 38 39 false LS := T1
    obtain ⟨TG, hTm⟩ := txg_read S1 R1 hL hq T1
    have hN := aN129 S1
    have b16 : gI g1 1 16 = nI nl := (F1.I 1 16 (rdX_n (by decide))).trans e16
    have l12 : LS.length ≤ 12 := by have := TG.2.2.2.2.2.1; omega
    have lz : (cdA LS).length ≤ 436 := by have := TG.2.2.2.2.2.2.2.1; omega
    have Sn : ShOK (aNew g1 9 (clN 9)) := fun k q hq => by
      have h1 := S1 k q hq
      show (g1.1 ++ [(9, clN 9)])[k]? = _
      rw [List.getElem?_append_left (List.getElem?_eq_some_iff.mp h1).1]
      exact h1
    have oR : ∀ k j, k < aN g1 → gR (aNew g1 9 (clN 9)) k j = gR g1 k j := fun k j hk => if_neg (by unfold aN at hk; omega)
    have oI : ∀ k j, k < aN g1 → gI (aNew g1 9 (clN 9)) k j = gI g1 k j := fun k j hk => if_neg (by unfold aN at hk; omega)
    have sa : (aNew g1 9 (clN 9)).1[aN g1]? = some (9, clN 9) := by
      show (g1.1 ++ [(9, clN 9)])[g1.1.length]? = _
      rw [List.getElem?_append_right (Nat.le_refl _)]
      simp
    have rl : ∀ k j a, rf0 k j = some a → k < 129 := fun k j a ha => by
      have q := rfL_of ha
      have hb1 : (rfL.all fun q => decide (q.1 < 129)) = true := by decide +kernel
      exact of_decide_eq_true (List.all_eq_true.mp hb1 _ q)
    have Rn : RfOK (aNew g1 9 (clN 9)) := fun k j a ha => (oR k j (by have := rl k j a ha; omega)).trans (R1 k j a ha)
    have ti := t_textI (d + 35) (h := aNew g1 9 (clN 9)) (a := aN g1) (m := LS.length) (z := (cdA LS).length) (f := fitC false (cdA LS)) (by rw [aN_new]; omega) sa (by omega) (Sn 37 _ rfl) (Sn 38 _ rfl) (Sn 39 _ rfl) (Rn 37 0 38 rfl) (Rn 37 1 39 rfl) ((oI 37 2 (by omega)).trans T1.1) ((oI 37 3 (by omega)).trans T1.2.1) ((oI 37 4 (by omega)).trans T1.2.2.1) l12 lz
    first | ((with_reducible show Rp _ _ _ _ (.int (b2i _) :: _) _ _); refine Rp.if_neB (tgt := 45) dX11_law_35 (by decide) (fun c35 => ?_) (fun c35 => ?_)) | ((with_reducible show Rp _ _ _ _ (.int (nI _) :: _) _ _); refine Rp.if_neN (tgt := 45) dX11_law_35 (by decide) (by omega) (fun c35 => ?_) (fun c35 => ?_)) | refine Rp.if_ne (tgt := 45) dX11_law_35 (by decide) (fun c35 => ?_) (fun c35 => ?_)
    rotate_left
    · first | (exfalso; omega) | exact absurd c35 (by decide) | exact absurd (by decide) c35
    refine Rp.aload_n dX11_law_45 rfl rfl ?_
    refine Rp.aload_n dX11_law_46 rfl rfl ?_
    refine Rp.getR dX11_law_47 fk_X11_10 rfl (S1 _ _ rfl) (R1 _ _ _ rfl) ?_
    skip
    refine Rp.newA (aN g1) rfl dX11_law_50 cl_9 lc_X11_210 df_9 ?_
    refine Rp.dup dX11_law_53 rfl ?_
    refine Rp.aload_n dX11_law_54 rfl rfl ?_
    refine Rp.getR dX11_law_55 fk_X11_30 rfl (Sn _ _ rfl) (Rn _ _ _ rfl) ?_
    refine Rp.getR dX11_law_58 fk_X11_212 rfl (Sn _ _ rfl) (Rn _ _ _ rfl) ?_
    skip
    refine Rp.callI' [.ref 37] dX11_law_61 mo_X9_init_ rfl rfl lk_X11_216 rfl (Nat.le_of_ble_eq_true rfl) (Nat.le_of_ble_eq_true rfl) ti (fun v1 g2 p1 x1 => ?_)
    obtain ⟨rfl, T2⟩ := p1
    have T2 := TxI.n hN T2
    have S2 : ShOK g2 := fun k q hq => sh_pre T2.2.1.1 (S1 k q hq)
    have R2 : RfOK g2 := fun k j a ha => (T2.2.1.2.2.2.2 k j (by have := rl k j a ha; omega)).trans (R1 k j a ha)
    have sa2 : g2.1[aN g1]? = some (9, clN 9) := by
      rw [T2.1]
      show (g1.1 ++ _)[g1.1.length]? = _
      rw [List.getElem?_append_right (Nat.le_refl _)]
      simp
    have c16 : gI g2 1 16 = nI nl := (T2.2.1.2.2.1 1 16 (by omega)).trans b16
    have al := t_addLaw (d + 37) S2 R2 sa2 hn c16
    have S3 : ShOK (sI (sR g2 14 nl (some (aN g1))) 1 16 (nI (nl + 1))) := S2
    have R3 : RfOK (sI (sR g2 14 nl (some (aN g1))) 1 16 (nI (nl + 1))) := fun k j a ha => by
      show (if k = 14 then (if j = nl then _ else gR g2 k j) else gR g2 k j) = _
      have h14 : k ≠ 14 := by
        have q := rfL_of ha
        have hb1 : (rfL.all fun q => decide (q.1 ≠ 14)) = true := by decide +kernel
        exact of_decide_eq_true (List.all_eq_true.mp hb1 _ q)
      rw [if_neg h14]
      exact R2 k j a ha
    have ac := t_accepted (d + 36) (h := sI (sR g2 14 nl (some (aN g1))) 1 16 (nI (nl + 1))) S3 R3 (nI nl)
    try dsimp only [Option.toList, List.cons_append, List.nil_append, List.append]
    refine Rp.callV1 M_X2_addLaw (ci := 2) dX11_law_64 mo_X2_addLaw lk_X11_219 (by decide) rfl rfl (S2 _ _ rfl) (Nat.le_of_ble_eq_true rfl) (Nat.le_of_ble_eq_true rfl) (al) (fun v1 h1 p1 x1 => ?_)
    rw [p1.1, p1.2]
    try dsimp only [Option.toList, List.cons_append, List.nil_append, List.append]
    refine Rp.callV1 M_X11_accepted (ci := 11) dX11_law_67 mo_X11_accepted lk_X11_122 (by decide) rfl rfl (S3 _ _ rfl) (Nat.le_of_ble_eq_true rfl) (Nat.le_of_ble_eq_true rfl) (ac) (fun v1 h1 p1 x1 => ?_)
    rw [p1.1, p1.2]
    try dsimp only [Option.toList, List.cons_append, List.nil_append, List.append]
    refine Rp.ireturn dX11_law_70 rfl ?_
    exact ⟨_, F1, z1, z2, TG, g2, T2, rfl, rfl⟩
end Lc
section Lm
variable (d : Nat) {h : AH}
theorem s_law_full (S : ShOK h) (R : RfOK h) (e7 : gI h 102 107 = nI 6) : Rp (d + 1) M_X12_law 0 [some (.ref aM)] [] h (fun r h' => h' = rfH (sI h 100 13 (nI 0)) 5 ∧ r = some (.int (-nI 5))) := by
  have rf := s_refuses d (h := sI h 100 13 (nI 0)) (fun k q hq => S k q hq) (R.put _ _ _) 5 (by decide)
  refine Rp.aload_n dX12_law_0 rfl rfl ?_
  refine Rp.getR dX12_law_1 fk_X12_24 rfl (S _ _ rfl) (R _ _ _ rfl) ?_
  refine Rp.bipush (nI 107) dX12_law_4 (by decide) ?_
  first | ((with_reducible show Rp _ _ _ _ (.int (nI _) :: _) _ _); refine Rp.ialoadN dX12_law_6 (S _ _ rfl) (by omega) ?_) | refine Rp.iaload dX12_law_6 (S _ _ rfl) (by first | assumption | exact vpb (by decide)) ?_
  first | rw [e7] | skip
  refine Rp.bipush (nI 6) dX12_law_7 (by decide) ?_
  first | ((with_reducible show Rp _ _ _ _ (.int (nI _) :: .int (nI _) :: _) _ _); refine Rp.icmp_neN (tgt := 24) dX12_law_9 (by decide) (by omega) (fun c9 => ?_) (fun c9 => ?_)) | refine Rp.icmp_ne (tgt := 24) dX12_law_9 (by decide) (fun c9 => ?_) (fun c9 => ?_)
  · skip
    exact absurd rfl c9
  · skip
    refine Rp.aload_n dX12_law_12 rfl rfl ?_
    refine Rp.iconst (nI 0) dX12_law_13 (by decide) ?_
    refine Rp.putI dX12_law_14 fk_X12_174w rfl (S _ _ rfl) ?_
    refine Rp.aload_n dX12_law_17 rfl rfl ?_
    refine Rp.bipush (-5) dX12_law_18 (by decide) ?_
    refine Rp.callV1 M_X12_refuses (ci := 12) dX12_law_20 mo_X12_refuses lk_X12_121 (by decide) rfl rfl (S _ _ rfl) (Nat.le_of_ble_eq_true rfl) (Nat.le_of_ble_eq_true rfl) (rf) (fun v1 h1 p1 x1 => ?_)
    rw [p1.1, p1.2]
    try dsimp only [Option.toList, List.cons_append, List.nil_append, List.append]
    refine Rp.ireturn dX12_law_23 rfl ?_
    exact ⟨rfl, rfl⟩
/-- the reference's law -/
theorem s_law (S : ShOK h) (R : RfOK h) (W : WD h) {nl : Nat} (hn : nl < 6) (e7 : gI h 102 107 = nI nl) {Lt : Nat} (hL : Lt ≤ 400) (hb : ∀ i, (gI h am_tape i).toInt ≤ 127) (ht : gI h aM fm_taped = nI Lt) : Rp (d + 61) M_X12_law 0 [some (.ref aM)] [] h (fun r h' => ∃ g1, Fr rsX h g1 ∧ gI g1 aM fm_taped = nI 0 ∧ match RDg false (gI h am_tape) Lt with
  | .error e => gI g1 aM fm_fault = nI (pT Lt (TLo (gI h am_tape) Lt) e) ∧ r = some (.int (-nI 6)) ∧ h' = rfH g1 6
  | .ok LS => gI g1 aM fm_fault = -1 ∧ ∃ g2, LyR g1 (cT (gI h am_tape) (TLo (gI h am_tape) Lt)) (vT (gI h am_tape) (TLo (gI h am_tape) Lt)) nl (TLo (gI h am_tape) Lt).length (TLo (gI h am_tape) Lt).length g2 ∧ r = some (.int (nI nl)) ∧ h' = gdH (sI g2 102 107 (nI (nl + 1)))) := by
  have rd := s_readsAs d S R W false hL hb ht
  have hlen : (TLo (gI h am_tape) Lt).length ≤ Lt - 0 := toks_len (gI h am_tape) Lt Lt 0
  have e7' : gI h am_kept 107 = nI nl := e7
  refine Rp.aload_n dX12_law_0 rfl rfl ?_
  refine Rp.getR dX12_law_1 fk_X12_24 rfl (S _ _ rfl) (R _ _ _ rfl) ?_
  refine Rp.bipush (nI 107) dX12_law_4 (by decide) ?_
  first | ((with_reducible show Rp _ _ _ _ (.int (nI _) :: _) _ _); refine Rp.ialoadN dX12_law_6 (S _ _ rfl) (by omega) ?_) | refine Rp.iaload dX12_law_6 (S _ _ rfl) (by first | assumption | exact vpb (by decide)) ?_
  first | rw [e7'] | skip
  refine Rp.bipush (nI 6) dX12_law_7 (by decide) ?_
  first | ((with_reducible show Rp _ _ _ _ (.int (nI _) :: .int (nI _) :: _) _ _); refine Rp.icmp_neN (tgt := 24) dX12_law_9 (by decide) (by omega) (fun c9 => ?_) (fun c9 => ?_)) | refine Rp.icmp_ne (tgt := 24) dX12_law_9 (by decide) (fun c9 => ?_) (fun c9 => ?_)
  rotate_left
  · first | (exfalso; omega) | exact absurd c9 (by decide) | exact absurd (by decide) c9
  refine Rp.aload_n dX12_law_24 rfl rfl ?_
  refine Rp.iconst (nI 0) dX12_law_25 (by decide) ?_
  refine Rp.callV1 M_X12_readsAs (ci := 12) dX12_law_26 mo_X12_readsAs lk_X12_269 (by decide) rfl rfl (S _ _ rfl) (Nat.le_of_ble_eq_true rfl) (Nat.le_of_ble_eq_true rfl) (rd) (fun v1 h1 p1 x1 => ?_)
  obtain ⟨F1, z1, z2, z3, z4⟩ := p1
  rename AH => g1
  try dsimp only [Option.toList, List.cons_append, List.nil_append, List.append]
  skip
  have S1 := F1.S S
  have R1 := F1.R R (by decide)
  have z4 : match RDg false (gI h am_tape) Lt with
    | .error e => v1 = some (.int (nI 0)) ∧ gI g1 aM fm_fault = nI (pT Lt (TLo (gI h am_tape) Lt) e)
    | .ok _ => v1 = some (.int (nI 1)) ∧ gI g1 aM fm_fault = -1 := z4
  match hq : RDg false (gI h am_tape) Lt, z4 with
  | .error e, z4 =>
    obtain ⟨rfl, z5⟩ := z4
    have rf := s_refuses (d + 60) S1 R1 6 (by decide)
    first | ((with_reducible show Rp _ _ _ _ (.int (b2i _) :: _) _ _); refine Rp.if_neB (tgt := 39) dX12_law_29 (by decide) (fun c29 => ?_) (fun c29 => ?_)) | ((with_reducible show Rp _ _ _ _ (.int (nI _) :: _) _ _); refine Rp.if_neN (tgt := 39) dX12_law_29 (by decide) (by omega) (fun c29 => ?_) (fun c29 => ?_)) | refine Rp.if_ne (tgt := 39) dX12_law_29 (by decide) (fun c29 => ?_) (fun c29 => ?_)
    · skip
      first | (exfalso; omega) | exact absurd c29 (by decide) | exact absurd (by decide) c29
    · skip
      refine Rp.aload_n dX12_law_32 rfl rfl ?_
      refine Rp.bipush (-6) dX12_law_33 (by decide) ?_
      refine Rp.callV1 M_X12_refuses (ci := 12) dX12_law_35 mo_X12_refuses lk_X12_121 (by decide) rfl rfl (S1 _ _ rfl) (Nat.le_of_ble_eq_true rfl) (Nat.le_of_ble_eq_true rfl) (rf) (fun v1 h1 p1 x1 => ?_)
      rw [p1.1, p1.2]
      try dsimp only [Option.toList, List.cons_append, List.nil_append, List.append]
      refine Rp.ireturn dX12_law_38 rfl ?_
      exact ⟨_, F1, z1, z5, rfl, rfl⟩
  | .ok LS, z4 =>
    obtain ⟨rfl, z5⟩ := z4
    have k7 : gI g1 am_kept 107 = nI nl := (F1.I 102 107 rfl).trans e7
    have ly := s_lays (d + 60) S1 R1 (t := nl) (by omega) (T := (TLo (gI h am_tape) Lt).length) (by omega) z2 z3
    first | ((with_reducible show Rp _ _ _ _ (.int (b2i _) :: _) _ _); refine Rp.if_neB (tgt := 39) dX12_law_29 (by decide) (fun c29 => ?_) (fun c29 => ?_)) | ((with_reducible show Rp _ _ _ _ (.int (nI _) :: _) _ _); refine Rp.if_neN (tgt := 39) dX12_law_29 (by decide) (by omega) (fun c29 => ?_) (fun c29 => ?_)) | refine Rp.if_ne (tgt := 39) dX12_law_29 (by decide) (fun c29 => ?_) (fun c29 => ?_)
    rotate_left
    · first | (exfalso; omega) | exact absurd c29 (by decide) | exact absurd (by decide) c29
    refine Rp.aload_n dX12_law_39 rfl rfl ?_
    refine Rp.aload_n dX12_law_40 rfl rfl ?_
    refine Rp.getR dX12_law_41 fk_X12_24 rfl (S1 _ _ rfl) (R1 _ _ _ rfl) ?_
    refine Rp.bipush (nI 107) dX12_law_44 (by decide) ?_
    first | ((with_reducible show Rp _ _ _ _ (.int (nI _) :: _) _ _); refine Rp.ialoadN dX12_law_46 (S1 _ _ rfl) (by omega) ?_) | refine Rp.iaload dX12_law_46 (S1 _ _ rfl) (by first | assumption | exact vpb (by decide)) ?_
    first | rw [k7] | skip
    refine Rp.callV1 M_X12_lays (ci := 12) dX12_law_47 mo_X12_lays lk_X12_273 (by decide) rfl rfl (S1 _ _ rfl) (Nat.le_of_ble_eq_true rfl) (Nat.le_of_ble_eq_true rfl) (ly) (fun v1 h1 p1 x1 => ?_)
    obtain ⟨rfl, Y⟩ := p1
    rename AH => g2
    try dsimp only [Option.toList, List.cons_append, List.nil_append, List.append]
    skip
    have S2 := Y.1.S S1
    have R2 := Y.1.R R1 (by decide)
    have k72 : gI g2 am_kept 107 = nI nl := by
      rw [Y.2 107, if_neg (by omega), if_neg (by omega), if_neg (by omega)]
      exact k7
    have k73 : gI (sI g2 am_kept 107 (nI (nl + 1))) am_kept 107 = nI (nl + 1) := gI_hit _ _ _ _
    have gd := s_good (d + 60) (h := sI g2 am_kept 107 (nI (nl + 1))) (fun k q hq => S2 k q hq) (nI nl)
    refine Rp.aload_n dX12_law_50 rfl rfl ?_
    refine Rp.getR dX12_law_51 fk_X12_24 rfl (S2 _ _ rfl) (R2 _ _ _ rfl) ?_
    refine Rp.bipush (nI 107) dX12_law_54 (by decide) ?_
    refine Rp.dup2 dX12_law_56 rfl rfl ?_
    first | ((with_reducible show Rp _ _ _ _ (.int (nI _) :: _) _ _); refine Rp.ialoadN dX12_law_57 (S2 _ _ rfl) (by omega) ?_) | refine Rp.iaload dX12_law_57 (S2 _ _ rfl) (by first | assumption | exact vpb (by decide)) ?_
    first | rw [k72] | rw [k73] | skip
    refine Rp.iconst (nI 1) dX12_law_58 (by decide) ?_
    first | ((with_reducible show Rp _ _ _ _ (.int (nI _) :: .int (nI _) :: _) _ _); refine Rp.iaddN dX12_law_59 ?_) | refine Rp.iadd dX12_law_59 ?_
    first | ((with_reducible show Rp _ _ _ _ (_ :: .int (nI _) :: _) _ _); refine Rp.iastoreN dX12_law_60 (S2 _ _ rfl) (by omega) ?_) | refine Rp.iastore dX12_law_60 (S2 _ _ rfl) (by first | assumption | exact vpb (by decide)) ?_
    refine Rp.aload_n dX12_law_61 rfl rfl ?_
    refine Rp.aload_n dX12_law_62 rfl rfl ?_
    refine Rp.getR dX12_law_63 fk_X12_24 rfl (S2 _ _ rfl) (R2 _ _ _ rfl) ?_
    refine Rp.bipush (nI 107) dX12_law_66 (by decide) ?_
    first | ((with_reducible show Rp _ _ _ _ (.int (nI _) :: _) _ _); refine Rp.ialoadN dX12_law_68 (S2 _ _ rfl) (by omega) ?_) | refine Rp.iaload dX12_law_68 (S2 _ _ rfl) (by first | assumption | exact vpb (by decide)) ?_
    first | rw [k72] | rw [k73] | skip
    refine Rp.iconst (nI 1) dX12_law_69 (by decide) ?_
    first | ((with_reducible show Rp _ _ _ _ (.int (nI _) :: .int (nI _) :: _) _ _); refine Rp.isubN dX12_law_70 (by omega) ?_) | refine Rp.isub dX12_law_70 ?_
    rw [show nl + 1 - 1 = nl by omega]
    refine Rp.callV1 M_X12_good (ci := 12) dX12_law_71 mo_X12_good lk_X12_14 (by decide) rfl rfl (S2 _ _ rfl) (Nat.le_of_ble_eq_true rfl) (Nat.le_of_ble_eq_true rfl) (gd) (fun v1 h1 p1 x1 => ?_)
    rw [p1.1, p1.2]
    try dsimp only [Option.toList, List.cons_append, List.nil_append, List.append]
    refine Rp.ireturn dX12_law_74 rfl ?_
    exact ⟨_, F1, z1, z5, g2, Y, rfl, rfl⟩
end Lm
