theorem b8_le (x : Int8) : -128 ≤ x.toInt32.toInt ∧ x.toInt32.toInt ≤ 127 := by
  rw [Int8.toInt_toInt32]
  have h1 := Int8.toInt_lt x
  have h2 := Int8.le_toInt x
  omega
theorem b5_8 (a b c e f : Int32) (i : Nat) : (b5 a b c e f i).toInt8.toInt32 = b5 a b c e f i := by
  unfold b5 wB fB
  exact i8_8 _
theorem b5_le (a b c e f : Int32) (i : Nat) : -128 ≤ (b5 a b c e f i).toInt ∧ (b5 a b c e f i).toInt ≤ 127 := by
  unfold b5 wB fB
  exact b8_le _
section Mh
variable (d : Nat) {h : AH}
theorem mfeed55z {a b c e f : Int32} {g : AH} (S : ShOK g) (R : RfOK g) {Lt : Nat} (el : gI g 100 13 = nI Lt) {k : Nat} (hk : k = 20) : Rp d M_X12_feed 55 [some (.ref aM), some (.int a), some (.int b), some (.int c), some (.int e), some (.int f), some (.int (nI k))] [] g (fun r h' => h' = sI g 100 13 (nI (Lt + 20)) ∧ r = some (.int (nI (Lt + 20)))) := by
  have el2 : gI (sI g 100 13 (nI (Lt + 20))) 100 13 = nI (Lt + 20) := gI_hit _ _ _ _
  refine Rp.iload dX12_feed_55 rfl ?_
  refine Rp.bipush (nI 20) dX12_feed_57 (by decide) ?_
  first | ((with_reducible show Rp _ _ _ _ (.int (nI _) :: .int (nI _) :: _) _ _); refine Rp.icmp_geN (tgt := 101) dX12_feed_59 (by decide) (by omega) (fun c59 => ?_) (fun c59 => ?_)) | refine Rp.icmp_ge (tgt := 101) dX12_feed_59 (by decide) (fun c59 => ?_) (fun c59 => ?_)
  · skip
    refine Rp.aload_n dX12_feed_101 rfl rfl ?_
    refine Rp.dup dX12_feed_102 rfl ?_
    refine Rp.getI dX12_feed_103 fk_X12_174 rfl (S _ _ rfl) ?_
    first | rw [el] | rw [el2] | skip
    refine Rp.bipush (nI 20) dX12_feed_106 (by decide) ?_
    first | ((with_reducible show Rp _ _ _ _ (.int (nI _) :: .int (nI _) :: _) _ _); refine Rp.iaddN dX12_feed_108 ?_) | refine Rp.iadd dX12_feed_108 ?_
    refine Rp.putI dX12_feed_109 fk_X12_174w rfl (S _ _ rfl) ?_
    refine Rp.aload_n dX12_feed_112 rfl rfl ?_
    refine Rp.getI dX12_feed_113 fk_X12_174 rfl (S _ _ rfl) ?_
    first | rw [el] | rw [el2] | skip
    refine Rp.ireturn dX12_feed_116 rfl ?_
    exact ⟨rfl, rfl⟩
  · skip
    first | (exfalso; omega) | exact absurd c59 (by decide) | exact absurd (by decide) c59
theorem mfeed55 {a b c e f : Int32} {g : AH} (S0 : ShOK g) (R0 : RfOK g) {Lt : Nat} (hL : Lt + 20 ≤ 400) (hl : gI g 100 13 = nI Lt) (hv : ∀ k, k < 20 → gI g 108 (k / 4) = (if k / 4 = 0 then a else if k / 4 = 1 then b else if k / 4 = 2 then c else if k / 4 = 3 then e else f)) : ∀ (m k : Nat), k + m = 20 → Rp d M_X12_feed 55 [some (.ref aM), some (.int a), some (.int b), some (.int c), some (.int e), some (.int f), some (.int (nI k))] [] (wrI g 107 (fun i => Lt + i) (b5 a b c e f) k) (fun r h' => h' = sI (wrI g 107 (fun i => Lt + i) (b5 a b c e f) 20) 100 13 (nI (Lt + 20)) ∧ r = some (.int (nI (Lt + 20)))) := by
  intro m
  induction m with
  | zero =>
    intro k hk
    have hk : k = 20 := by omega
    have S := S0.wr am_tape (fun i => Lt + i) (b5 a b c e f) k
    have R := R0.wr am_tape (fun i => Lt + i) (b5 a b c e f) k
    have el : gI (wrI g 107 (fun i => Lt + i) (b5 a b c e f) k) 100 13 = nI Lt := (gI_wrI_ne g _ _ (by decide) _ _).trans hl
    refine (mfeed55z d S R el hk).imp (fun r h' p => ?_)
    rw [hk] at p
    exact p
  | succ m ih =>
    intro k hk
    have S := S0.wr am_tape (fun i => Lt + i) (b5 a b c e f) k
    have R := R0.wr am_tape (fun i => Lt + i) (b5 a b c e f) k
    have el : gI (wrI g 107 (fun i => Lt + i) (b5 a b c e f) k) 100 13 = nI Lt := (gI_wrI_ne g _ _ (by decide) _ _).trans hl
    have ev : gI (wrI g 107 (fun i => Lt + i) (b5 a b c e f) k) 108 (k / 4) = (if k / 4 = 0 then a else if k / 4 = 1 then b else if k / 4 = 2 then c else if k / 4 = 3 then e else f) := (gI_wrI_ne g _ _ (by decide) _ _).trans (hv k (by omega))
    have ih2 := ih (k + 1) (by omega)
    have e1 : wrI g 107 (fun i => Lt + i) (b5 a b c e f) (k + 1) = sI (wrI g 107 (fun i => Lt + i) (b5 a b c e f) k) 107 (Lt + k) (b5 a b c e f k) := rfl
    rw [e1] at ih2
    generalize wrI g 107 (fun i => Lt + i) (b5 a b c e f) k = g2 at S R el ev ih2
    have eb : ((if k / 4 = 0 then a else if k / 4 = 1 then b else if k / 4 = 2 then c else if k / 4 = 3 then e else f) >>> (nI (24 - 8 * (k % 4)) &&& 31)).toInt8.toInt32 = b5 a b c e f k := rfl
    refine Rp.iload dX12_feed_55 rfl ?_
    refine Rp.bipush (nI 20) dX12_feed_57 (by decide) ?_
    first | ((with_reducible show Rp _ _ _ _ (.int (nI _) :: .int (nI _) :: _) _ _); refine Rp.icmp_geN (tgt := 101) dX12_feed_59 (by decide) (by omega) (fun c59 => ?_) (fun c59 => ?_)) | refine Rp.icmp_ge (tgt := 101) dX12_feed_59 (by decide) (fun c59 => ?_) (fun c59 => ?_)
    · skip
      first | (exfalso; omega) | exact absurd c59 (by decide) | exact absurd (by decide) c59
    · skip
      refine Rp.aload_n dX12_feed_62 rfl rfl ?_
      refine Rp.getR dX12_feed_63 fk_X12_41 rfl (S _ _ rfl) (R _ _ _ rfl) ?_
      refine Rp.aload_n dX12_feed_66 rfl rfl ?_
      refine Rp.getI dX12_feed_67 fk_X12_174 rfl (S _ _ rfl) ?_
      first | rw [el] | rw [ev] | skip
      refine Rp.iload dX12_feed_70 rfl ?_
      first | ((with_reducible show Rp _ _ _ _ (.int (nI _) :: .int (nI _) :: _) _ _); refine Rp.iaddN dX12_feed_72 ?_) | refine Rp.iadd dX12_feed_72 ?_
      refine Rp.aload_n dX12_feed_73 rfl rfl ?_
      refine Rp.getR dX12_feed_74 fk_X12_44 rfl (S _ _ rfl) (R _ _ _ rfl) ?_
      refine Rp.iload dX12_feed_77 rfl ?_
      refine Rp.iconst (nI 4) dX12_feed_79 (by decide) ?_
      refine Rp.idiv dX12_feed_80 (by decide) ?_
      rw [idiv_nI (by omega) (by decide) (by decide)]
      first | ((with_reducible show Rp _ _ _ _ (.int (nI _) :: _) _ _); refine Rp.ialoadN dX12_feed_81 (S _ _ rfl) (by omega) ?_) | refine Rp.iaload dX12_feed_81 (S _ _ rfl) (by first | assumption | exact vpb (by decide)) ?_
      first | rw [el] | rw [ev] | skip
      refine Rp.bipush (nI 24) dX12_feed_82 (by decide) ?_
      refine Rp.bipush (nI 8) dX12_feed_84 (by decide) ?_
      refine Rp.iload dX12_feed_86 rfl ?_
      refine Rp.iconst (nI 4) dX12_feed_88 (by decide) ?_
      refine Rp.irem dX12_feed_89 (by decide) ?_
      rw [z32_remN (by omega) (by decide) (by decide)]
      first | ((with_reducible show Rp _ _ _ _ (.int (nI _) :: .int (nI _) :: _) _ _); refine Rp.imulN dX12_feed_90 ?_) | refine Rp.imul dX12_feed_90 ?_
      first | ((with_reducible show Rp _ _ _ _ (.int (nI _) :: .int (nI _) :: _) _ _); refine Rp.isubN dX12_feed_91 (by omega) ?_) | refine Rp.isub dX12_feed_91 ?_
      refine Rp.ishr dX12_feed_92 ?_
      refine Rp.i2b dX12_feed_93 ?_
      rw [eb]
      first | ((with_reducible show Rp _ _ _ _ (_ :: .int (nI _) :: _) _ _); refine Rp.bastoreN dX12_feed_94 (S _ _ rfl) (by omega) ?_) | refine Rp.bastore dX12_feed_94 (S _ _ rfl) (by first | assumption | exact vpb (by decide)) ?_
      rw [b5_8]
      first | ((with_reducible show Rp _ _ _ (_ :: _ :: _ :: _ :: _ :: _ :: some (.int (nI _)) :: _) _ _ _); refine Rp.inc6N (c := 1) dX12_feed_95 (by first | exact nl2_some rfl | exact nl2_none) (by decide) ?_) | refine Rp.inc6 _ dX12_feed_95 rfl (by first | exact nl2_some rfl | exact nl2_none) (by decide) ?_
      refine Rp.goto (tgt := 55) dX12_feed_98 (by decide) ?_
      exact ih2
theorem s_feed (S : ShOK h) (R : RfOK h) (a b c e f : Int32) {Lt : Nat} (hL : Lt ≤ 400) (hl : gI h 100 13 = nI Lt) : Rp d M_X12_feed 0 [some (.ref aM), some (.int a), some (.int b), some (.int c), some (.int e), some (.int f), none] [] h (fun r h' => (400 < Lt + 20 → r = some (.int (-1)) ∧ h' = h) ∧ (¬ 400 < Lt + 20 → r = some (.int (nI (Lt + 20))) ∧ h' = sI (wrI (sI (sI (sI (sI (sI h 108 0 a) 108 1 b) 108 2 c) 108 3 e) 108 4 f) 107 (fun i => Lt + i) (b5 a b c e f) 20) 100 13 (nI (Lt + 20)))) := by
  by_cases c4 : 400 < Lt + 20
  · skip
    refine Rp.aload_n dX12_feed_0 rfl rfl ?_
    refine Rp.getI dX12_feed_1 fk_X12_174 rfl (S _ _ rfl) ?_
    first | rw [hl] | skip
    refine Rp.bipush (nI 20) dX12_feed_4 (by decide) ?_
    first | ((with_reducible show Rp _ _ _ _ (.int (nI _) :: .int (nI _) :: _) _ _); refine Rp.iaddN dX12_feed_6 ?_) | refine Rp.iadd dX12_feed_6 ?_
    refine Rp.sipush (nI 400) dX12_feed_7 (by decide) ?_
    first | ((with_reducible show Rp _ _ _ _ (.int (nI _) :: .int (nI _) :: _) _ _); refine Rp.icmp_leN (tgt := 15) dX12_feed_10 (by decide) (by omega) (fun c10 => ?_) (fun c10 => ?_)) | refine Rp.icmp_le (tgt := 15) dX12_feed_10 (by decide) (fun c10 => ?_) (fun c10 => ?_)
    · skip
      first | (exfalso; omega) | exact absurd c10 (by decide) | exact absurd (by decide) c10
    · skip
      refine Rp.iconst (-1) dX12_feed_13 (by decide) ?_
      refine Rp.ireturn dX12_feed_14 rfl ?_
      exact ⟨fun _ => ⟨rfl, rfl⟩, fun z => absurd c4 z⟩
  · have lp := mfeed55 d (a := a) (b := b) (c := c) (e := e) (f := f) (g := sI (sI (sI (sI (sI h 108 0 a) 108 1 b) 108 2 c) 108 3 e) 108 4 f) (fun k q hq => S k q hq) (((((R.put _ _ _).put _ _ _).put _ _ _).put _ _ _).put _ _ _) (Lt := Lt) (by omega) hl (fun k hk => by
      have h5 : k / 4 < 5 := by omega
      generalize k / 4 = q at h5
      match q, h5 with
      | 0, _ => rfl
      | 1, _ => rfl
      | 2, _ => rfl
      | 3, _ => rfl
      | 4, _ => rfl
      | q + 5, h5 => exact absurd h5 (by omega)) 20 0 (by omega)
    have lp := lp.imp (Q := fun r h' => (400 < Lt + 20 → r = some (.int (-1)) ∧ h' = h) ∧ (¬ 400 < Lt + 20 → r = some (.int (nI (Lt + 20))) ∧ h' = sI (wrI (sI (sI (sI (sI (sI h 108 0 a) 108 1 b) 108 2 c) 108 3 e) 108 4 f) 107 (fun i => Lt + i) (b5 a b c e f) 20) 100 13 (nI (Lt + 20)))) (fun r g p => ⟨fun z => absurd z c4, fun _ => ⟨p.2, p.1⟩⟩)
    refine Rp.aload_n dX12_feed_0 rfl rfl ?_
    refine Rp.getI dX12_feed_1 fk_X12_174 rfl (S _ _ rfl) ?_
    first | rw [hl] | skip
    refine Rp.bipush (nI 20) dX12_feed_4 (by decide) ?_
    first | ((with_reducible show Rp _ _ _ _ (.int (nI _) :: .int (nI _) :: _) _ _); refine Rp.iaddN dX12_feed_6 ?_) | refine Rp.iadd dX12_feed_6 ?_
    refine Rp.sipush (nI 400) dX12_feed_7 (by decide) ?_
    first | ((with_reducible show Rp _ _ _ _ (.int (nI _) :: .int (nI _) :: _) _ _); refine Rp.icmp_leN (tgt := 15) dX12_feed_10 (by decide) (by omega) (fun c10 => ?_) (fun c10 => ?_)) | refine Rp.icmp_le (tgt := 15) dX12_feed_10 (by decide) (fun c10 => ?_) (fun c10 => ?_)
    · skip
      refine Rp.aload_n dX12_feed_15 rfl rfl ?_
      refine Rp.getR dX12_feed_16 fk_X12_44 rfl (S _ _ rfl) (R _ _ _ rfl) ?_
      refine Rp.iconst (nI 0) dX12_feed_19 (by decide) ?_
      refine Rp.iload_n dX12_feed_20 rfl ?_
      first | ((with_reducible show Rp _ _ _ _ (_ :: .int (nI _) :: _) _ _); refine Rp.iastoreN dX12_feed_21 (S _ _ rfl) (by omega) ?_) | refine Rp.iastore dX12_feed_21 (S _ _ rfl) (by first | assumption | exact vpb (by decide)) ?_
      refine Rp.aload_n dX12_feed_22 rfl rfl ?_
      refine Rp.getR dX12_feed_23 fk_X12_44 rfl (S _ _ rfl) (R _ _ _ rfl) ?_
      refine Rp.iconst (nI 1) dX12_feed_26 (by decide) ?_
      refine Rp.iload_n dX12_feed_27 rfl ?_
      first | ((with_reducible show Rp _ _ _ _ (_ :: .int (nI _) :: _) _ _); refine Rp.iastoreN dX12_feed_28 (S _ _ rfl) (by omega) ?_) | refine Rp.iastore dX12_feed_28 (S _ _ rfl) (by first | assumption | exact vpb (by decide)) ?_
      refine Rp.aload_n dX12_feed_29 rfl rfl ?_
      refine Rp.getR dX12_feed_30 fk_X12_44 rfl (S _ _ rfl) (R _ _ _ rfl) ?_
      refine Rp.iconst (nI 2) dX12_feed_33 (by decide) ?_
      refine Rp.iload_n dX12_feed_34 rfl ?_
      first | ((with_reducible show Rp _ _ _ _ (_ :: .int (nI _) :: _) _ _); refine Rp.iastoreN dX12_feed_35 (S _ _ rfl) (by omega) ?_) | refine Rp.iastore dX12_feed_35 (S _ _ rfl) (by first | assumption | exact vpb (by decide)) ?_
      refine Rp.aload_n dX12_feed_36 rfl rfl ?_
      refine Rp.getR dX12_feed_37 fk_X12_44 rfl (S _ _ rfl) (R _ _ _ rfl) ?_
      refine Rp.iconst (nI 3) dX12_feed_40 (by decide) ?_
      refine Rp.iload dX12_feed_41 rfl ?_
      first | ((with_reducible show Rp _ _ _ _ (_ :: .int (nI _) :: _) _ _); refine Rp.iastoreN dX12_feed_43 (S _ _ rfl) (by omega) ?_) | refine Rp.iastore dX12_feed_43 (S _ _ rfl) (by first | assumption | exact vpb (by decide)) ?_
      refine Rp.aload_n dX12_feed_44 rfl rfl ?_
      refine Rp.getR dX12_feed_45 fk_X12_44 rfl (S _ _ rfl) (R _ _ _ rfl) ?_
      refine Rp.iconst (nI 4) dX12_feed_48 (by decide) ?_
      refine Rp.iload dX12_feed_49 rfl ?_
      first | ((with_reducible show Rp _ _ _ _ (_ :: .int (nI _) :: _) _ _); refine Rp.iastoreN dX12_feed_51 (S _ _ rfl) (by omega) ?_) | refine Rp.iastore dX12_feed_51 (S _ _ rfl) (by first | assumption | exact vpb (by decide)) ?_
      refine Rp.iconst (nI 0) dX12_feed_52 (by decide) ?_
      refine Rp.ist6 dX12_feed_53 (by first | exact nl2_some rfl | exact nl2_none) (by decide) ?_
      exact lp
    · skip
      first | (exfalso; omega) | exact absurd c10 (by decide) | exact absurd (by decide) c10
end Mh
def fpX (k j : Nat) : Bool := k == 36 || (k == 107 || (k == 108 || ((k == 35 && j == 2) || (k == 100 && j == 13))))
theorem tv_fp : ∀ k j, tvS k j = true → fpX k j = false := by
  intro k j e
  rw [Bool.eq_false_iff]
  intro x
  simp only [tvS, cS, aS, wS2, iS, nS, dS, zS, fpX, Bool.or_eq_true, Bool.and_eq_true, beq_iff_eq, decide_eq_true_eq] at e x
  omega
theorem fpX_f {h g : AH} (F : Fr fdX h g) : Fr fpX h g := F.weak (fun k j hx => by
  rw [Bool.eq_false_iff] at hx ⊢
  intro x
  refine hx ?_
  simp only [fdX, fpX, Bool.or_eq_true, Bool.and_eq_true, beq_iff_eq] at x ⊢
  omega)
section Pf
variable {L : Nat} {xs : Nat → Int32}
theorem p_feed (a1 a2 a3 a4 a5 : Int32) : Pr (Ivt L xs) 103 M_X11_feed M_X12_feed [.int a1, .int a2, .int a3, .int a4, .int a5] := by
  intro n h I
  obtain ⟨Lt, h1, h2, h3, h4, h5, h6, h7⟩ := I.2.2.2.2.1
  refine (t_feed 102 I.1.1 I.1.2.1 a1 a2 a3 a4 a5 h1 h2).imp (fun r g p => ?_)
  by_cases c : 400 < Lt + 20
  · obtain ⟨rfl, rfl⟩ := p.1 c
    refine ⟨_, rfl, (s_feed 103 I.1.1 I.1.2.1 a1 a2 a3 a4 a5 h1 h3).imp (fun r2 g2 q => ?_)⟩
    obtain ⟨rfl, rfl⟩ := q.1 c
    exact ⟨rfl, I.up⟩
  · obtain ⟨rfl, F1, e1, e2⟩ := p.2 c
    have R1 := F1.R I.1.2.1 (by decide)
    have l1 : gI g 100 13 = nI Lt := (F1.I 100 13 rfl).trans h3
    refine ⟨_, rfl, (s_feed 103 (F1.S I.1.1) R1 a1 a2 a3 a4 a5 h1 l1).imp (fun r2 g2 q => ?_)⟩
    obtain ⟨rfl, q2⟩ := q.2 c
    refine ⟨rfl, ?_⟩
    have F5 : Fr (fun k _ => k == 108) g (sI (sI (sI (sI (sI g 108 0 a1) 108 1 a2) 108 2 a3) 108 3 a4) 108 4 a5) := ((((Fr.rfl'.sI rfl).sI rfl).sI rfl).sI rfl).sI rfl
    have R5 : RfOK (sI (sI (sI (sI (sI g 108 0 a1) 108 1 a2) 108 2 a3) 108 3 a4) 108 4 a5) := ((((R1.put _ _ _).put _ _ _).put _ _ _).put _ _ _).put _ _ _
    generalize sI (sI (sI (sI (sI g 108 0 a1) 108 1 a2) 108 2 a3) 108 3 a4) 108 4 a5 = g5 at q2 F5 R5
    have W5 : Fr fpX g g5 := F5.weak (fun k j hx => by
      rw [Bool.eq_false_iff] at hx ⊢
      intro x
      refine hx ?_
      simp only [fpX, Bool.or_eq_true, Bool.and_eq_true, beq_iff_eq] at x ⊢
      omega)
    have F2 : Fr fpX g g2 := by
      rw [q2]
      exact (W5.wr 20 (fun i hi => rfl)).sI rfl
    have R2 : RfOK g2 := by
      rw [q2]
      exact (R5.wr _ _ _ _).put _ _ _
    have F := (fpX_f F1).trans F2
    have z1 : ∀ j, gI g2 36 j = if Lt ≤ j ∧ j < Lt + 20 then b5 a1 a2 a3 a4 a5 (j - Lt) else gI h 36 j := fun j => by
      rw [q2, gI_ne _ _ _ _ (by decide), gI_wrI_ne _ _ _ (by decide), F5.I 36 j rfl]
      exact e2 j
    have z2 : ∀ j, gI g2 107 j = if Lt ≤ j ∧ j < Lt + 20 then b5 a1 a2 a3 a4 a5 (j - Lt) else gI h 36 j := fun j => by
      rw [q2, gI_ne _ _ _ _ (by decide)]
      by_cases c2 : Lt ≤ j ∧ j < Lt + 20
      · rw [if_pos c2]
        obtain ⟨i, rfl⟩ : ∃ i, j = Lt + i := ⟨j - Lt, by omega⟩
        rw [gI_wrI_in g5 107 Lt _ 20 (by omega), show Lt + i - Lt = i by omega]
      · rw [if_neg c2, gI_wrI_out _ _ _ _ _ (fun i hi => by omega), F5.I 107 j rfl, F1.I 107 j rfl]
        exact congrFun h4 j
    have z3 : gI g2 35 2 = nI (Lt + 20) := by
      rw [q2, gI_ne _ _ _ _ (by decide), gI_wrI_ne _ _ _ (by decide), F5.I 35 2 rfl]
      exact e1
    have z4 : gI g2 100 13 = nI (Lt + 20) := by
      rw [q2]
      exact gI_hit _ _ _ _
    have z5 : gI g2 35 3 = gI g2 100 14 := by
      rw [F.I 35 3 rfl, F.I 100 14 rfl]
      exact h6
    exact (I.tape F R2 (F.fun (fun _ => rfl)) tv_fp ⟨Lt + 20, by omega, z3, z4, funext fun j => (z2 j).trans (z1 j).symm, fun j => by
      rw [z1 j]
      by_cases c2 : Lt ≤ j ∧ j < Lt + 20
      · rw [if_pos c2]
        exact b5_le _ _ _ _ _ _
      · rw [if_neg c2]
        exact h5 j, z5, fun i hi => (F.I 106 i rfl).trans (h7 i hi)⟩).up
end Pf
