section Rm
variable (d : Nat) {h : AH} {np nd nl no : Nat} {LSs : Nat → List CLE}
def mr9X (k j : Nat) : Bool := k == 102 || (k == 100 && j == 6)
/-- what the reference has behind some pairs -/
def MRI (h : AH) (np nd nl no : Nat) (LSs : Nat → List CLE) (K : Nat → Int32) (nt : Nat) (g : AH) : Prop := ShOK g ∧ RfOK g ∧ Fr mr9X h g ∧ gI g 102 = K ∧ KST K np nt nd nl no LSs
theorem adT_K {g : AH} {K : Nat → Int32} {nt : Nat} {x k : Int32} (eK : gI g 102 = K) (hn : nt < 8) (zz : ∀ p, p < 6 → K (19 + (8 * p + nt)) = 0) : gI (adT g x k nt) 102 = tikK K nt x k := by
  have e1 : gI (sI (sI g 102 (67 + nt) x) 102 (75 + nt) k) 102 = upK (upK K (67 + nt) x) (75 + nt) k := by rw [gI_s102, gI_s102, eK]
  unfold adT
  rw [show am_kept = 102 from rfl, gI_s102]
  unfold tikK
  rw [← e1]
  congr 1
  refine funext fun j => ?_
  unfold tikH
  refine wrI_same 6 (fun i hi => ?_) 102 j
  rw [show am_kept = 102 from rfl, e1, upK_ne _ (by omega), upK_ne _ (by omega), show 19 + 8 * i + nt = 19 + (8 * i + nt) by omega]
  exact zz i hi
theorem mrow90_0 {P : Option Value → AH → Prop} {g : AH} {L1 c i z : Nat} {a4 : Option Value} (S : ShOK g) (e6 : gI g 100 6 = nI z) (k32 : Rp (d + 3) M_X12_row 32 [some (.ref aM), some (.int (nI L1)), some (.int (nI c)), some (.int (nI (i + 2))), some (.int (nI 0))] [] (sI g 100 6 (nI (z + 1))) P) : Rp (d + 3) M_X12_row 90 [some (.ref aM), some (.int (nI L1)), some (.int (nI c)), some (.int (nI i)), a4] [.int (nI 0)] g P := by
  refine Rp.ist4 dX12_row_90 (by first | exact nl2_some rfl | exact nl2_none) (by decide) ?_
  refine Rp.iload dX12_row_92 rfl ?_
  first | ((with_reducible show Rp _ _ _ _ (.int (b2i _) :: _) _ _); refine Rp.if_eqB (tgt := 115) dX12_row_94 (by decide) (fun c94 => ?_) (fun c94 => ?_)) | ((with_reducible show Rp _ _ _ _ (.int (nI _) :: _) _ _); refine Rp.if_eqN (tgt := 115) dX12_row_94 (by decide) (by omega) (fun c94 => ?_) (fun c94 => ?_)) | refine Rp.if_eq (tgt := 115) dX12_row_94 (by decide) (fun c94 => ?_) (fun c94 => ?_)
  · skip
    refine Rp.iload_n dX12_row_115 rfl ?_
    refine Rp.iload dX12_row_116 rfl ?_
    first | ((with_reducible show Rp _ _ _ _ (.int (b2i _) :: _) _ _); refine Rp.if_eqB (tgt := 125) dX12_row_118 (by decide) (fun c118 => ?_) (fun c118 => ?_)) | ((with_reducible show Rp _ _ _ _ (.int (nI _) :: _) _ _); refine Rp.if_eqN (tgt := 125) dX12_row_118 (by decide) (by omega) (fun c118 => ?_) (fun c118 => ?_)) | refine Rp.if_eq (tgt := 125) dX12_row_118 (by decide) (fun c118 => ?_) (fun c118 => ?_)
    · skip
      refine Rp.iconst (nI 0) dX12_row_125 (by decide) ?_
      first | ((with_reducible show Rp _ _ _ _ (.int (nI _) :: .int (nI _) :: _) _ _); refine Rp.iaddN dX12_row_126 ?_) | refine Rp.iadd dX12_row_126 ?_
      refine Rp.ist2 dX12_row_127 (by first | exact nl2_some rfl | exact nl2_none) (by decide) ?_
      refine Rp.aload_n dX12_row_128 rfl rfl ?_
      refine Rp.dup dX12_row_129 rfl ?_
      refine Rp.getI dX12_row_130 fk_X12_177 rfl (S _ _ rfl) ?_
      first | rw [e6] | skip
      refine Rp.iload dX12_row_133 rfl ?_
      first | ((with_reducible show Rp _ _ _ _ (.int (b2i _) :: _) _ _); refine Rp.if_eqB (tgt := 142) dX12_row_135 (by decide) (fun c135 => ?_) (fun c135 => ?_)) | ((with_reducible show Rp _ _ _ _ (.int (nI _) :: _) _ _); refine Rp.if_eqN (tgt := 142) dX12_row_135 (by decide) (by omega) (fun c135 => ?_) (fun c135 => ?_)) | refine Rp.if_eq (tgt := 142) dX12_row_135 (by decide) (fun c135 => ?_) (fun c135 => ?_)
      · skip
        refine Rp.iconst (nI 1) dX12_row_142 (by decide) ?_
        first | ((with_reducible show Rp _ _ _ _ (.int (nI _) :: .int (nI _) :: _) _ _); refine Rp.iaddN dX12_row_143 ?_) | refine Rp.iadd dX12_row_143 ?_
        refine Rp.putI dX12_row_144 fk_X12_177w rfl (S _ _ rfl) ?_
        first | ((with_reducible show Rp _ _ _ (_ :: _ :: _ :: some (.int (nI _)) :: _) _ _ _); refine Rp.inc3N (c := 2) dX12_row_147 (by first | exact nl2_some rfl | exact nl2_none) (by decide) ?_) | refine Rp.inc3 _ dX12_row_147 rfl (by first | exact nl2_some rfl | exact nl2_none) (by decide) ?_
        refine Rp.goto (tgt := 32) dX12_row_150 (by decide) ?_
        exact k32
      · skip
        first | (exfalso; omega) | exact absurd c135 (by decide) | exact absurd (by decide) c135
    · skip
      first | (exfalso; omega) | exact absurd c118 (by decide) | exact absurd (by decide) c118
  · skip
    first | (exfalso; omega) | exact absurd c94 (by decide) | exact absurd (by decide) c94
theorem mrow32 {P : Option Value → AH → Prop} {Lt b M : Nat} (hL : Lt ≤ 400) (eL : Lt = 2 * M + b) (hb : b ≤ 1) (Fn : (Nat → Int32) × Nat × Nat) (kk : ∀ g K nt c i a4, MRI h np nd nl no LSs K nt g → Fn = (K, nt, c) → c ≤ M → gI g 100 6 = nI (M - c + b) → Rp (d + 3) M_X12_row 153 [some (.ref aM), some (.int (nI Lt)), some (.int (nI c)), some (.int (nI i)), a4] [] g P) : ∀ (m q : Nat) (g : AH) (K : Nat → Int32) (nt c : Nat) (a4 : Option Value), q + m = M → c ≤ q → MRI h np nd nl no LSs K nt g → gI g 100 6 = nI (q - c + b) → rwL (gI h 107) m (2 * q) (K, nt, c) = Fn → Rp (d + 3) M_X12_row 32 [some (.ref aM), some (.int (nI Lt)), some (.int (nI c)), some (.int (nI (2 * q))), a4] [] g P := by
  intro m
  induction m with
  | zero =>
    intro q g K nt c a4 hq hc I es eF
    have eq : q = M := by omega
    have k1 := kk g K nt c (2 * q) a4 I eF.symm (by omega) (by rw [es, eq])
    refine Rp.iload_n dX12_row_32 rfl ?_
    refine Rp.iconst (nI 2) dX12_row_33 (by decide) ?_
    first | ((with_reducible show Rp _ _ _ _ (.int (nI _) :: .int (nI _) :: _) _ _); refine Rp.iaddN dX12_row_34 ?_) | refine Rp.iadd dX12_row_34 ?_
    refine Rp.iload_n dX12_row_35 rfl ?_
    first | ((with_reducible show Rp _ _ _ _ (.int (nI _) :: .int (nI _) :: _) _ _); refine Rp.icmp_gtN (tgt := 153) dX12_row_36 (by decide) (by omega) (fun c36 => ?_) (fun c36 => ?_)) | refine Rp.icmp_gt (tgt := 153) dX12_row_36 (by decide) (fun c36 => ?_) (fun c36 => ?_)
    · skip
      exact k1
    · skip
      first | (exfalso; omega) | exact absurd c36 (by decide) | exact absurd (by decide) c36
  | succ m ih =>
    intro q g K nt c a4 hq hc I es eF
    obtain ⟨S, R, F, eK, Q⟩ := id I
    have g107 : ∀ i, gI g 107 i = gI h 107 i := fun i => F.I 107 i rfl
    have v2 := Q.1.2.1
    have k4 : gI g 102 104 = nI nt := by
      rw [eK]
      exact Q.2.2.2.2.2.2.1.2.1
    have t0 := g107 (2 * q)
    have t1 := g107 (2 * q + 1)
    have ct := s_canTicket d S (gI h 107 (2 * q)) (gI h 107 (2 * q + 1))
    have im := s_isNumbered (d + 2) S R (gI h 107 (2 * q)) v2 k4
    rw [show (fun i => gI g am_kept (67 + i)) = fun i => K (67 + i) from funext fun i => congrFun eK (67 + i)] at im
    rw [rwL] at eF
    have no0 : rwI K nt (gI h 107 (2 * q)) (gI h 107 (2 * q + 1)) = false → Rp (d + 3) M_X12_row 90 [some (.ref aM), some (.int (nI Lt)), some (.int (nI c)), some (.int (nI (2 * q))), a4] [.int (nI 0)] g P := by
      intro c1
      rw [c1, if_neg (by decide)] at eF
      refine mrow90_0 d S es ?_
      have S2 : ShOK (sI g 100 6 (nI (q - c + b + 1))) := fun k z hz => S k z hz
      have k32 := ih (q + 1) (sI g 100 6 (nI (q - c + b + 1))) K nt c (some (.int (nI 0))) (by omega) (by omega) ⟨S2, R.put _ _ _, F.sI rfl, (funext fun j => gI_ne _ _ _ _ (by decide) : gI (sI g 100 6 (nI (q - c + b + 1))) 102 = gI g 102).trans eK, Q⟩ (by rw [gI_hit]; congr 1; omega) eF
      rw [show 2 * (q + 1) = 2 * q + 2 by omega] at k32
      exact k32
    by_cases c8 : nt < 8
    · by_cases ca : canT (gI h 107 (2 * q)) (gI h 107 (2 * q + 1)) = true
      · rw [show (decide (nI 1 ≤ gI h 107 (2 * q) ∧ gI h 107 (2 * q) ≤ nI 99) && inN (gI h 107 (2 * q + 1)) 5) = true from ca] at ct
        by_cases cn : nOf (fun i => K (67 + i)) (gI h 107 (2 * q)) 0 nt = true
        · rw [cn] at im
          have k90 := no0 (by unfold rwI; rw [cn, Bool.not_true, Bool.false_and, Bool.and_false])
          refine Rp.iload_n dX12_row_32 rfl ?_
          refine Rp.iconst (nI 2) dX12_row_33 (by decide) ?_
          first | ((with_reducible show Rp _ _ _ _ (.int (nI _) :: .int (nI _) :: _) _ _); refine Rp.iaddN dX12_row_34 ?_) | refine Rp.iadd dX12_row_34 ?_
          refine Rp.iload_n dX12_row_35 rfl ?_
          first | ((with_reducible show Rp _ _ _ _ (.int (nI _) :: .int (nI _) :: _) _ _); refine Rp.icmp_gtN (tgt := 153) dX12_row_36 (by decide) (by omega) (fun c36 => ?_) (fun c36 => ?_)) | refine Rp.icmp_gt (tgt := 153) dX12_row_36 (by decide) (fun c36 => ?_) (fun c36 => ?_)
          · skip
            first | (exfalso; omega) | exact absurd c36 (by decide) | exact absurd (by decide) c36
          · skip
            refine Rp.aload_n dX12_row_39 rfl rfl ?_
            refine Rp.getR dX12_row_40 fk_X12_24 rfl (S _ _ rfl) (R _ _ _ rfl) ?_
            refine Rp.bipush (nI 104) dX12_row_43 (by decide) ?_
            first | ((with_reducible show Rp _ _ _ _ (.int (nI _) :: _) _ _); refine Rp.ialoadN dX12_row_45 (S _ _ rfl) (by omega) ?_) | refine Rp.iaload dX12_row_45 (S _ _ rfl) (by first | assumption | exact vpb (by decide)) ?_
            first | rw [k4] | rw [t0] | rw [t1] | skip
            refine Rp.bipush (nI 8) dX12_row_46 (by decide) ?_
            first | ((with_reducible show Rp _ _ _ _ (.int (nI _) :: .int (nI _) :: _) _ _); refine Rp.icmp_geN (tgt := 89) dX12_row_48 (by decide) (by omega) (fun c48 => ?_) (fun c48 => ?_)) | refine Rp.icmp_ge (tgt := 89) dX12_row_48 (by decide) (fun c48 => ?_) (fun c48 => ?_)
            · skip
              first | (exfalso; omega) | exact absurd c48 (by decide) | exact absurd (by decide) c48
            · skip
              refine Rp.aload_n dX12_row_51 rfl rfl ?_
              refine Rp.aload_n dX12_row_52 rfl rfl ?_
              refine Rp.getR dX12_row_53 fk_X12_41 rfl (S _ _ rfl) (R _ _ _ rfl) ?_
              refine Rp.iload_n dX12_row_56 rfl ?_
              first | ((with_reducible show Rp _ _ _ _ (.int (nI _) :: _) _ _); refine Rp.baloadN dX12_row_57 (S _ _ rfl) (by omega) ?_) | refine Rp.baload dX12_row_57 (S _ _ rfl) (by first | assumption | exact vpb (by decide)) ?_
              first | rw [k4] | rw [t0] | rw [t1] | skip
              refine Rp.aload_n dX12_row_58 rfl rfl ?_
              refine Rp.getR dX12_row_59 fk_X12_41 rfl (S _ _ rfl) (R _ _ _ rfl) ?_
              refine Rp.iload_n dX12_row_62 rfl ?_
              refine Rp.iconst (nI 1) dX12_row_63 (by decide) ?_
              first | ((with_reducible show Rp _ _ _ _ (.int (nI _) :: .int (nI _) :: _) _ _); refine Rp.iaddN dX12_row_64 ?_) | refine Rp.iadd dX12_row_64 ?_
              first | ((with_reducible show Rp _ _ _ _ (.int (nI _) :: _) _ _); refine Rp.baloadN dX12_row_65 (S _ _ rfl) (by omega) ?_) | refine Rp.baload dX12_row_65 (S _ _ rfl) (by first | assumption | exact vpb (by decide)) ?_
              first | rw [k4] | rw [t0] | rw [t1] | skip
              refine Rp.callV2 M_X12_canTicket (ci := 12) dX12_row_66 mo_X12_canTicket lk_X12_137 (by decide) rfl rfl (S _ _ rfl) (Nat.le_of_ble_eq_true rfl) (Nat.le_of_ble_eq_true rfl) (ct) (fun v1 h1 p1 x1 => ?_)
              rw [p1.1, p1.2]
              try dsimp only [Option.toList, List.cons_append, List.nil_append, List.append]
              first | ((with_reducible show Rp _ _ _ _ (.int (b2i _) :: _) _ _); refine Rp.if_eqB (tgt := 89) dX12_row_69 (by decide) (fun c69 => ?_) (fun c69 => ?_)) | ((with_reducible show Rp _ _ _ _ (.int (nI _) :: _) _ _); refine Rp.if_eqN (tgt := 89) dX12_row_69 (by decide) (by omega) (fun c69 => ?_) (fun c69 => ?_)) | refine Rp.if_eq (tgt := 89) dX12_row_69 (by decide) (fun c69 => ?_) (fun c69 => ?_)
              · skip
                cases c69
              · skip
                refine Rp.aload_n dX12_row_72 rfl rfl ?_
                refine Rp.aload_n dX12_row_73 rfl rfl ?_
                refine Rp.getR dX12_row_74 fk_X12_41 rfl (S _ _ rfl) (R _ _ _ rfl) ?_
                refine Rp.iload_n dX12_row_77 rfl ?_
                first | ((with_reducible show Rp _ _ _ _ (.int (nI _) :: _) _ _); refine Rp.baloadN dX12_row_78 (S _ _ rfl) (by omega) ?_) | refine Rp.baload dX12_row_78 (S _ _ rfl) (by first | assumption | exact vpb (by decide)) ?_
                first | rw [k4] | rw [t0] | rw [t1] | skip
                refine Rp.callV1 M_X12_isNumbered (ci := 12) dX12_row_79 mo_X12_isNumbered lk_X12_141 (by decide) rfl rfl (S _ _ rfl) (Nat.le_of_ble_eq_true rfl) (Nat.le_of_ble_eq_true rfl) (im) (fun v1 h1 p1 x1 => ?_)
                rw [p1.1, p1.2]
                try dsimp only [Option.toList, List.cons_append, List.nil_append, List.append]
                first | ((with_reducible show Rp _ _ _ _ (.int (b2i _) :: _) _ _); refine Rp.if_neB (tgt := 89) dX12_row_82 (by decide) (fun c82 => ?_) (fun c82 => ?_)) | ((with_reducible show Rp _ _ _ _ (.int (nI _) :: _) _ _); refine Rp.if_neN (tgt := 89) dX12_row_82 (by decide) (by omega) (fun c82 => ?_) (fun c82 => ?_)) | refine Rp.if_ne (tgt := 89) dX12_row_82 (by decide) (fun c82 => ?_) (fun c82 => ?_)
                · skip
                  refine Rp.iconst (nI 0) dX12_row_89 (by decide) ?_
                  exact k90
                · skip
                  cases c82
        · have cn' := Bool.eq_false_iff.mpr cn
          rw [cn'] at im
          have c1 : rwI K nt (gI h 107 (2 * q)) (gI h 107 (2 * q + 1)) = true := by
            unfold rwI
            rw [ca, cn', decide_eq_true c8]
            rfl
          rw [if_pos c1] at eF
          obtain ⟨x, k, hx, hk, ex, ek⟩ := canT_nat ca
          have zz := Q.2.2.2.2.2.2.2.2.2.2
          have ad := s_addsTicket (d + 2) S R (gI h 107 (2 * q)) (gI h 107 (2 * q + 1)) c8 k4
          have Fa : Fr mr9X h (adT g (gI h 107 (2 * q)) (gI h 107 (2 * q + 1)) nt) := (((F.sI rfl).sI rfl).wr 6 (fun _ _ => rfl)).sI rfl
          have Ra : RfOK (adT g (gI h 107 (2 * q)) (gI h 107 (2 * q + 1)) nt) := (RfOK.wr ((R.put _ _ _).put _ _ _) _ _ _ _).put _ _ _
          have eA : gI (adT g (gI h 107 (2 * q)) (gI h 107 (2 * q + 1)) nt) 102 = _ := adT_K (x := gI h 107 (2 * q)) (k := gI h 107 (2 * q + 1)) eK c8 (fun p hp => zz p nt hp c8 (Or.inr (Nat.le_refl _)))
          have e6 : gI (adT g (gI h 107 (2 * q)) (gI h 107 (2 * q + 1)) nt) 100 6 = nI (q - c + b) := by
            have z1 : Fr hkX g (adT g (gI h 107 (2 * q)) (gI h 107 (2 * q + 1)) nt) := (((Fr.rfl'.sI rfl).sI rfl).wr 6 (fun _ _ => rfl)).sI rfl
            exact (z1.I 100 6 rfl).trans es
          have Sa : ShOK (adT g (gI h 107 (2 * q)) (gI h 107 (2 * q + 1)) nt) := adT_S S _ _ _
          generalize adT g (gI h 107 (2 * q)) (gI h 107 (2 * q + 1)) nt = ga at ad Fa Ra eA e6 Sa
          have Q2 : KST (tikK K nt (gI h 107 (2 * q)) (gI h 107 (2 * q + 1))) np (nt + 1) nd nl no LSs := by
            rw [ex] at cn' ⊢
            rw [ek]
            exact Q.tik c8 hx hk (fun i hi => nOf_no nt 0 cn' i (by omega) (by omega))
          have k32 : ∀ gz, gz = sI ga 100 6 (nI (q - c + b)) → Rp (d + 3) M_X12_row 32 [some (.ref aM), some (.int (nI Lt)), some (.int (nI (c + 1))), some (.int (nI (2 * (q + 1)))), some (.int (nI 1))] [] gz P := fun gz ez => by
            rw [ez]
            exact ih (q + 1) (sI ga 100 6 (nI (q - c + b))) _ _ (c + 1) (some (.int (nI 1))) (by omega) (by omega) ⟨fun k z hz => Sa k z hz, Ra.put _ _ _, Fa.sI rfl, (funext fun j => gI_ne _ _ _ _ (by decide) : gI (sI ga 100 6 (nI (q - c + b))) 102 = gI ga 102).trans eA, Q2⟩ (by rw [gI_hit]; congr 1; omega) eF
          have k32 := k32 _ rfl
          rw [show 2 * (q + 1) = 2 * q + 2 by omega] at k32
          refine Rp.iload_n dX12_row_32 rfl ?_
          refine Rp.iconst (nI 2) dX12_row_33 (by decide) ?_
          first | ((with_reducible show Rp _ _ _ _ (.int (nI _) :: .int (nI _) :: _) _ _); refine Rp.iaddN dX12_row_34 ?_) | refine Rp.iadd dX12_row_34 ?_
          refine Rp.iload_n dX12_row_35 rfl ?_
          first | ((with_reducible show Rp _ _ _ _ (.int (nI _) :: .int (nI _) :: _) _ _); refine Rp.icmp_gtN (tgt := 153) dX12_row_36 (by decide) (by omega) (fun c36 => ?_) (fun c36 => ?_)) | refine Rp.icmp_gt (tgt := 153) dX12_row_36 (by decide) (fun c36 => ?_) (fun c36 => ?_)
          · skip
            first | (exfalso; omega) | exact absurd c36 (by decide) | exact absurd (by decide) c36
          · skip
            refine Rp.aload_n dX12_row_39 rfl rfl ?_
            refine Rp.getR dX12_row_40 fk_X12_24 rfl (S _ _ rfl) (R _ _ _ rfl) ?_
            refine Rp.bipush (nI 104) dX12_row_43 (by decide) ?_
            first | ((with_reducible show Rp _ _ _ _ (.int (nI _) :: _) _ _); refine Rp.ialoadN dX12_row_45 (S _ _ rfl) (by omega) ?_) | refine Rp.iaload dX12_row_45 (S _ _ rfl) (by first | assumption | exact vpb (by decide)) ?_
            first | rw [k4] | rw [t0] | rw [t1] | rw [e6] | skip
            refine Rp.bipush (nI 8) dX12_row_46 (by decide) ?_
            first | ((with_reducible show Rp _ _ _ _ (.int (nI _) :: .int (nI _) :: _) _ _); refine Rp.icmp_geN (tgt := 89) dX12_row_48 (by decide) (by omega) (fun c48 => ?_) (fun c48 => ?_)) | refine Rp.icmp_ge (tgt := 89) dX12_row_48 (by decide) (fun c48 => ?_) (fun c48 => ?_)
            · skip
              first | (exfalso; omega) | exact absurd c48 (by decide) | exact absurd (by decide) c48
            · skip
              refine Rp.aload_n dX12_row_51 rfl rfl ?_
              refine Rp.aload_n dX12_row_52 rfl rfl ?_
              refine Rp.getR dX12_row_53 fk_X12_41 rfl (S _ _ rfl) (R _ _ _ rfl) ?_
              refine Rp.iload_n dX12_row_56 rfl ?_
              first | ((with_reducible show Rp _ _ _ _ (.int (nI _) :: _) _ _); refine Rp.baloadN dX12_row_57 (S _ _ rfl) (by omega) ?_) | refine Rp.baload dX12_row_57 (S _ _ rfl) (by first | assumption | exact vpb (by decide)) ?_
              first | rw [k4] | rw [t0] | rw [t1] | rw [e6] | skip
              refine Rp.aload_n dX12_row_58 rfl rfl ?_
              refine Rp.getR dX12_row_59 fk_X12_41 rfl (S _ _ rfl) (R _ _ _ rfl) ?_
              refine Rp.iload_n dX12_row_62 rfl ?_
              refine Rp.iconst (nI 1) dX12_row_63 (by decide) ?_
              first | ((with_reducible show Rp _ _ _ _ (.int (nI _) :: .int (nI _) :: _) _ _); refine Rp.iaddN dX12_row_64 ?_) | refine Rp.iadd dX12_row_64 ?_
              first | ((with_reducible show Rp _ _ _ _ (.int (nI _) :: _) _ _); refine Rp.baloadN dX12_row_65 (S _ _ rfl) (by omega) ?_) | refine Rp.baload dX12_row_65 (S _ _ rfl) (by first | assumption | exact vpb (by decide)) ?_
              first | rw [k4] | rw [t0] | rw [t1] | rw [e6] | skip
              refine Rp.callV2 M_X12_canTicket (ci := 12) dX12_row_66 mo_X12_canTicket lk_X12_137 (by decide) rfl rfl (S _ _ rfl) (Nat.le_of_ble_eq_true rfl) (Nat.le_of_ble_eq_true rfl) (ct) (fun v1 h1 p1 x1 => ?_)
              rw [p1.1, p1.2]
              try dsimp only [Option.toList, List.cons_append, List.nil_append, List.append]
              first | ((with_reducible show Rp _ _ _ _ (.int (b2i _) :: _) _ _); refine Rp.if_eqB (tgt := 89) dX12_row_69 (by decide) (fun c69 => ?_) (fun c69 => ?_)) | ((with_reducible show Rp _ _ _ _ (.int (nI _) :: _) _ _); refine Rp.if_eqN (tgt := 89) dX12_row_69 (by decide) (by omega) (fun c69 => ?_) (fun c69 => ?_)) | refine Rp.if_eq (tgt := 89) dX12_row_69 (by decide) (fun c69 => ?_) (fun c69 => ?_)
              · skip
                cases c69
              · skip
                refine Rp.aload_n dX12_row_72 rfl rfl ?_
                refine Rp.aload_n dX12_row_73 rfl rfl ?_
                refine Rp.getR dX12_row_74 fk_X12_41 rfl (S _ _ rfl) (R _ _ _ rfl) ?_
                refine Rp.iload_n dX12_row_77 rfl ?_
                first | ((with_reducible show Rp _ _ _ _ (.int (nI _) :: _) _ _); refine Rp.baloadN dX12_row_78 (S _ _ rfl) (by omega) ?_) | refine Rp.baload dX12_row_78 (S _ _ rfl) (by first | assumption | exact vpb (by decide)) ?_
                first | rw [k4] | rw [t0] | rw [t1] | rw [e6] | skip
                refine Rp.callV1 M_X12_isNumbered (ci := 12) dX12_row_79 mo_X12_isNumbered lk_X12_141 (by decide) rfl rfl (S _ _ rfl) (Nat.le_of_ble_eq_true rfl) (Nat.le_of_ble_eq_true rfl) (im) (fun v1 h1 p1 x1 => ?_)
                rw [p1.1, p1.2]
                try dsimp only [Option.toList, List.cons_append, List.nil_append, List.append]
                first | ((with_reducible show Rp _ _ _ _ (.int (b2i _) :: _) _ _); refine Rp.if_neB (tgt := 89) dX12_row_82 (by decide) (fun c82 => ?_) (fun c82 => ?_)) | ((with_reducible show Rp _ _ _ _ (.int (nI _) :: _) _ _); refine Rp.if_neN (tgt := 89) dX12_row_82 (by decide) (by omega) (fun c82 => ?_) (fun c82 => ?_)) | refine Rp.if_ne (tgt := 89) dX12_row_82 (by decide) (fun c82 => ?_) (fun c82 => ?_)
                · skip
                  cases c82
                · skip
                  refine Rp.iconst (nI 1) dX12_row_85 (by decide) ?_
                  refine Rp.goto (tgt := 90) dX12_row_86 (by decide) ?_
                  refine Rp.ist4 dX12_row_90 (by first | exact nl2_some rfl | exact nl2_none) (by decide) ?_
                  refine Rp.iload dX12_row_92 rfl ?_
                  first | ((with_reducible show Rp _ _ _ _ (.int (b2i _) :: _) _ _); refine Rp.if_eqB (tgt := 115) dX12_row_94 (by decide) (fun c94 => ?_) (fun c94 => ?_)) | ((with_reducible show Rp _ _ _ _ (.int (nI _) :: _) _ _); refine Rp.if_eqN (tgt := 115) dX12_row_94 (by decide) (by omega) (fun c94 => ?_) (fun c94 => ?_)) | refine Rp.if_eq (tgt := 115) dX12_row_94 (by decide) (fun c94 => ?_) (fun c94 => ?_)
                  · skip
                    first | (exfalso; omega) | exact absurd c94 (by decide) | exact absurd (by decide) c94
                  · skip
                    refine Rp.aload_n dX12_row_97 rfl rfl ?_
                    refine Rp.aload_n dX12_row_98 rfl rfl ?_
                    refine Rp.getR dX12_row_99 fk_X12_41 rfl (S _ _ rfl) (R _ _ _ rfl) ?_
                    refine Rp.iload_n dX12_row_102 rfl ?_
                    first | ((with_reducible show Rp _ _ _ _ (.int (nI _) :: _) _ _); refine Rp.baloadN dX12_row_103 (S _ _ rfl) (by omega) ?_) | refine Rp.baload dX12_row_103 (S _ _ rfl) (by first | assumption | exact vpb (by decide)) ?_
                    first | rw [k4] | rw [t0] | rw [t1] | rw [e6] | skip
                    refine Rp.aload_n dX12_row_104 rfl rfl ?_
                    refine Rp.getR dX12_row_105 fk_X12_41 rfl (S _ _ rfl) (R _ _ _ rfl) ?_
                    refine Rp.iload_n dX12_row_108 rfl ?_
                    refine Rp.iconst (nI 1) dX12_row_109 (by decide) ?_
                    first | ((with_reducible show Rp _ _ _ _ (.int (nI _) :: .int (nI _) :: _) _ _); refine Rp.iaddN dX12_row_110 ?_) | refine Rp.iadd dX12_row_110 ?_
                    first | ((with_reducible show Rp _ _ _ _ (.int (nI _) :: _) _ _); refine Rp.baloadN dX12_row_111 (S _ _ rfl) (by omega) ?_) | refine Rp.baload dX12_row_111 (S _ _ rfl) (by first | assumption | exact vpb (by decide)) ?_
                    first | rw [k4] | rw [t0] | rw [t1] | rw [e6] | skip
                    refine Rp.callV2 M_X12_addsTicket (ci := 12) dX12_row_112 mo_X12_addsTicket lk_X12_144 (by decide) rfl rfl (S _ _ rfl) (Nat.le_of_ble_eq_true rfl) (Nat.le_of_ble_eq_true rfl) (ad) (fun v1 h1 p1 x1 => ?_)
                    rw [p1.1, p1.2]
                    try dsimp only [Option.toList, List.cons_append, List.nil_append, List.append]
                    refine Rp.iload_n dX12_row_115 rfl ?_
                    refine Rp.iload dX12_row_116 rfl ?_
                    first | ((with_reducible show Rp _ _ _ _ (.int (b2i _) :: _) _ _); refine Rp.if_eqB (tgt := 125) dX12_row_118 (by decide) (fun c118 => ?_) (fun c118 => ?_)) | ((with_reducible show Rp _ _ _ _ (.int (nI _) :: _) _ _); refine Rp.if_eqN (tgt := 125) dX12_row_118 (by decide) (by omega) (fun c118 => ?_) (fun c118 => ?_)) | refine Rp.if_eq (tgt := 125) dX12_row_118 (by decide) (fun c118 => ?_) (fun c118 => ?_)
                    · skip
                      first | (exfalso; omega) | exact absurd c118 (by decide) | exact absurd (by decide) c118
                    · skip
                      refine Rp.iconst (nI 1) dX12_row_121 (by decide) ?_
                      refine Rp.goto (tgt := 126) dX12_row_122 (by decide) ?_
                      first | ((with_reducible show Rp _ _ _ _ (.int (nI _) :: .int (nI _) :: _) _ _); refine Rp.iaddN dX12_row_126 ?_) | refine Rp.iadd dX12_row_126 ?_
                      refine Rp.ist2 dX12_row_127 (by first | exact nl2_some rfl | exact nl2_none) (by decide) ?_
                      refine Rp.aload_n dX12_row_128 rfl rfl ?_
                      refine Rp.dup dX12_row_129 rfl ?_
                      refine Rp.getI dX12_row_130 fk_X12_177 rfl (Sa _ _ rfl) ?_
                      first | rw [k4] | rw [t0] | rw [t1] | rw [e6] | skip
                      refine Rp.iload dX12_row_133 rfl ?_
                      first | ((with_reducible show Rp _ _ _ _ (.int (b2i _) :: _) _ _); refine Rp.if_eqB (tgt := 142) dX12_row_135 (by decide) (fun c135 => ?_) (fun c135 => ?_)) | ((with_reducible show Rp _ _ _ _ (.int (nI _) :: _) _ _); refine Rp.if_eqN (tgt := 142) dX12_row_135 (by decide) (by omega) (fun c135 => ?_) (fun c135 => ?_)) | refine Rp.if_eq (tgt := 142) dX12_row_135 (by decide) (fun c135 => ?_) (fun c135 => ?_)
                      · skip
                        first | (exfalso; omega) | exact absurd c135 (by decide) | exact absurd (by decide) c135
                      · skip
                        refine Rp.iconst (nI 0) dX12_row_138 (by decide) ?_
                        refine Rp.goto (tgt := 143) dX12_row_139 (by decide) ?_
                        first | ((with_reducible show Rp _ _ _ _ (.int (nI _) :: .int (nI _) :: _) _ _); refine Rp.iaddN dX12_row_143 ?_) | refine Rp.iadd dX12_row_143 ?_
                        refine Rp.putI dX12_row_144 fk_X12_177w rfl (Sa _ _ rfl) ?_
                        first | ((with_reducible show Rp _ _ _ (_ :: _ :: _ :: some (.int (nI _)) :: _) _ _ _); refine Rp.inc3N (c := 2) dX12_row_147 (by first | exact nl2_some rfl | exact nl2_none) (by decide) ?_) | refine Rp.inc3 _ dX12_row_147 rfl (by first | exact nl2_some rfl | exact nl2_none) (by decide) ?_
                        refine Rp.goto (tgt := 32) dX12_row_150 (by decide) ?_
                        exact k32
      · have ca' := Bool.eq_false_iff.mpr ca
        rw [show (decide (nI 1 ≤ gI h 107 (2 * q) ∧ gI h 107 (2 * q) ≤ nI 99) && inN (gI h 107 (2 * q + 1)) 5) = false from ca'] at ct
        have k90 := no0 (by unfold rwI; rw [ca', Bool.false_and])
        refine Rp.iload_n dX12_row_32 rfl ?_
        refine Rp.iconst (nI 2) dX12_row_33 (by decide) ?_
        first | ((with_reducible show Rp _ _ _ _ (.int (nI _) :: .int (nI _) :: _) _ _); refine Rp.iaddN dX12_row_34 ?_) | refine Rp.iadd dX12_row_34 ?_
        refine Rp.iload_n dX12_row_35 rfl ?_
        first | ((with_reducible show Rp _ _ _ _ (.int (nI _) :: .int (nI _) :: _) _ _); refine Rp.icmp_gtN (tgt := 153) dX12_row_36 (by decide) (by omega) (fun c36 => ?_) (fun c36 => ?_)) | refine Rp.icmp_gt (tgt := 153) dX12_row_36 (by decide) (fun c36 => ?_) (fun c36 => ?_)
        · skip
          first | (exfalso; omega) | exact absurd c36 (by decide) | exact absurd (by decide) c36
        · skip
          refine Rp.aload_n dX12_row_39 rfl rfl ?_
          refine Rp.getR dX12_row_40 fk_X12_24 rfl (S _ _ rfl) (R _ _ _ rfl) ?_
          refine Rp.bipush (nI 104) dX12_row_43 (by decide) ?_
          first | ((with_reducible show Rp _ _ _ _ (.int (nI _) :: _) _ _); refine Rp.ialoadN dX12_row_45 (S _ _ rfl) (by omega) ?_) | refine Rp.iaload dX12_row_45 (S _ _ rfl) (by first | assumption | exact vpb (by decide)) ?_
          first | rw [k4] | rw [t0] | rw [t1] | skip
          refine Rp.bipush (nI 8) dX12_row_46 (by decide) ?_
          first | ((with_reducible show Rp _ _ _ _ (.int (nI _) :: .int (nI _) :: _) _ _); refine Rp.icmp_geN (tgt := 89) dX12_row_48 (by decide) (by omega) (fun c48 => ?_) (fun c48 => ?_)) | refine Rp.icmp_ge (tgt := 89) dX12_row_48 (by decide) (fun c48 => ?_) (fun c48 => ?_)
          · skip
            first | (exfalso; omega) | exact absurd c48 (by decide) | exact absurd (by decide) c48
          · skip
            refine Rp.aload_n dX12_row_51 rfl rfl ?_
            refine Rp.aload_n dX12_row_52 rfl rfl ?_
            refine Rp.getR dX12_row_53 fk_X12_41 rfl (S _ _ rfl) (R _ _ _ rfl) ?_
            refine Rp.iload_n dX12_row_56 rfl ?_
            first | ((with_reducible show Rp _ _ _ _ (.int (nI _) :: _) _ _); refine Rp.baloadN dX12_row_57 (S _ _ rfl) (by omega) ?_) | refine Rp.baload dX12_row_57 (S _ _ rfl) (by first | assumption | exact vpb (by decide)) ?_
            first | rw [k4] | rw [t0] | rw [t1] | skip
            refine Rp.aload_n dX12_row_58 rfl rfl ?_
            refine Rp.getR dX12_row_59 fk_X12_41 rfl (S _ _ rfl) (R _ _ _ rfl) ?_
            refine Rp.iload_n dX12_row_62 rfl ?_
            refine Rp.iconst (nI 1) dX12_row_63 (by decide) ?_
            first | ((with_reducible show Rp _ _ _ _ (.int (nI _) :: .int (nI _) :: _) _ _); refine Rp.iaddN dX12_row_64 ?_) | refine Rp.iadd dX12_row_64 ?_
            first | ((with_reducible show Rp _ _ _ _ (.int (nI _) :: _) _ _); refine Rp.baloadN dX12_row_65 (S _ _ rfl) (by omega) ?_) | refine Rp.baload dX12_row_65 (S _ _ rfl) (by first | assumption | exact vpb (by decide)) ?_
            first | rw [k4] | rw [t0] | rw [t1] | skip
            refine Rp.callV2 M_X12_canTicket (ci := 12) dX12_row_66 mo_X12_canTicket lk_X12_137 (by decide) rfl rfl (S _ _ rfl) (Nat.le_of_ble_eq_true rfl) (Nat.le_of_ble_eq_true rfl) (ct) (fun v1 h1 p1 x1 => ?_)
            rw [p1.1, p1.2]
            try dsimp only [Option.toList, List.cons_append, List.nil_append, List.append]
            first | ((with_reducible show Rp _ _ _ _ (.int (b2i _) :: _) _ _); refine Rp.if_eqB (tgt := 89) dX12_row_69 (by decide) (fun c69 => ?_) (fun c69 => ?_)) | ((with_reducible show Rp _ _ _ _ (.int (nI _) :: _) _ _); refine Rp.if_eqN (tgt := 89) dX12_row_69 (by decide) (by omega) (fun c69 => ?_) (fun c69 => ?_)) | refine Rp.if_eq (tgt := 89) dX12_row_69 (by decide) (fun c69 => ?_) (fun c69 => ?_)
            · skip
              refine Rp.iconst (nI 0) dX12_row_89 (by decide) ?_
              exact k90
            · skip
              cases c69
    · have k90 := no0 (by unfold rwI; rw [decide_eq_false c8, Bool.and_false, Bool.and_false])
      refine Rp.iload_n dX12_row_32 rfl ?_
      refine Rp.iconst (nI 2) dX12_row_33 (by decide) ?_
      first | ((with_reducible show Rp _ _ _ _ (.int (nI _) :: .int (nI _) :: _) _ _); refine Rp.iaddN dX12_row_34 ?_) | refine Rp.iadd dX12_row_34 ?_
      refine Rp.iload_n dX12_row_35 rfl ?_
      first | ((with_reducible show Rp _ _ _ _ (.int (nI _) :: .int (nI _) :: _) _ _); refine Rp.icmp_gtN (tgt := 153) dX12_row_36 (by decide) (by omega) (fun c36 => ?_) (fun c36 => ?_)) | refine Rp.icmp_gt (tgt := 153) dX12_row_36 (by decide) (fun c36 => ?_) (fun c36 => ?_)
      · skip
        first | (exfalso; omega) | exact absurd c36 (by decide) | exact absurd (by decide) c36
      · skip
        refine Rp.aload_n dX12_row_39 rfl rfl ?_
        refine Rp.getR dX12_row_40 fk_X12_24 rfl (S _ _ rfl) (R _ _ _ rfl) ?_
        refine Rp.bipush (nI 104) dX12_row_43 (by decide) ?_
        first | ((with_reducible show Rp _ _ _ _ (.int (nI _) :: _) _ _); refine Rp.ialoadN dX12_row_45 (S _ _ rfl) (by omega) ?_) | refine Rp.iaload dX12_row_45 (S _ _ rfl) (by first | assumption | exact vpb (by decide)) ?_
        first | rw [k4] | skip
        refine Rp.bipush (nI 8) dX12_row_46 (by decide) ?_
        first | ((with_reducible show Rp _ _ _ _ (.int (nI _) :: .int (nI _) :: _) _ _); refine Rp.icmp_geN (tgt := 89) dX12_row_48 (by decide) (by omega) (fun c48 => ?_) (fun c48 => ?_)) | refine Rp.icmp_ge (tgt := 89) dX12_row_48 (by decide) (fun c48 => ?_) (fun c48 => ?_)
        · skip
          refine Rp.iconst (nI 0) dX12_row_89 (by decide) ?_
          exact k90
        · skip
          first | (exfalso; omega) | exact absurd c48 (by decide) | exact absurd (by decide) c48
theorem s_row0 (S : ShOK h) (R : RfOK h) (l3 : gI h 100 13 = nI 0) : Rp (d + 1) M_X12_row 0 [some (.ref aM), none, none, none, none] [] h (fun r h' => h' = rfH (sI h 100 13 (nI 0)) 6 ∧ r = some (.int (-nI 6))) := by
  have rf := s_refuses d (h := sI h 100 13 (nI 0)) (fun k q hq => S k q hq) (R.put _ _ _) 6 (by decide)
  refine Rp.aload_n dX12_row_0 rfl rfl ?_
  refine Rp.getI dX12_row_1 fk_X12_174 rfl (S _ _ rfl) ?_
  first | rw [l3] | skip
  refine Rp.ist1 dX12_row_4 (by first | exact nl2_some rfl | exact nl2_none) (by decide) ?_
  refine Rp.aload_n dX12_row_5 rfl rfl ?_
  refine Rp.iconst (nI 0) dX12_row_6 (by decide) ?_
  refine Rp.putI dX12_row_7 fk_X12_174w rfl (S _ _ rfl) ?_
  refine Rp.iload_n dX12_row_10 rfl ?_
  first | ((with_reducible show Rp _ _ _ _ (.int (b2i _) :: _) _ _); refine Rp.if_neB (tgt := 21) dX12_row_11 (by decide) (fun c11 => ?_) (fun c11 => ?_)) | ((with_reducible show Rp _ _ _ _ (.int (nI _) :: _) _ _); refine Rp.if_neN (tgt := 21) dX12_row_11 (by decide) (by omega) (fun c11 => ?_) (fun c11 => ?_)) | refine Rp.if_ne (tgt := 21) dX12_row_11 (by decide) (fun c11 => ?_) (fun c11 => ?_)
  · skip
    first | (exfalso; omega) | exact absurd c11 (by decide) | exact absurd (by decide) c11
  · skip
    refine Rp.aload_n dX12_row_14 rfl rfl ?_
    refine Rp.bipush (-6) dX12_row_15 (by decide) ?_
    refine Rp.callV1 M_X12_refuses (ci := 12) dX12_row_17 mo_X12_refuses lk_X12_121 (by decide) rfl rfl (S _ _ rfl) (Nat.le_of_ble_eq_true rfl) (Nat.le_of_ble_eq_true rfl) (rf) (fun v1 h1 p1 x1 => ?_)
    rw [p1.1, p1.2]
    try dsimp only [Option.toList, List.cons_append, List.nil_append, List.append]
    refine Rp.ireturn dX12_row_20 rfl ?_
    exact ⟨rfl, rfl⟩
theorem s_row {K : Nat → Int32} {nt : Nat} {Lt b M : Nat} (S : ShOK h) (R : RfOK h) (eK : gI h 102 = K) (Q : KST K np nt nd nl no LSs) (hL : Lt ≤ 400) (eL : Lt = 2 * M + b) (hb : b ≤ 1) (h0 : 0 < Lt) (l3 : gI h 100 13 = nI Lt) : Rp (d + 3) M_X12_row 0 [some (.ref aM), none, none, none, none] [] h (fun r h' => ∃ g K' nt' c, MRI (sI h 100 13 (nI 0)) np nd nl no LSs K' nt' g ∧ rwL (gI h 107) M 0 (K, nt, 0) = (K', nt', c) ∧ c ≤ M ∧ gI g 100 6 = nI (M - c + b) ∧ r = some (.int (nI c)) ∧ h' = gaH g) := by
  have S0 : ShOK (sI (sI h 100 13 (nI 0)) 100 6 (nI b)) := fun k z hz => S k z hz
  have k32 := mrow32 d (h := sI h 100 13 (nI 0)) (np := np) (nd := nd) (nl := nl) (no := no) (LSs := LSs) (P := fun r h' => ∃ g K' nt' c, MRI (sI h 100 13 (nI 0)) np nd nl no LSs K' nt' g ∧ rwL (gI h 107) M 0 (K, nt, 0) = (K', nt', c) ∧ c ≤ M ∧ gI g 100 6 = nI (M - c + b) ∧ r = some (.int (nI c)) ∧ h' = gaH g) hL eL hb (rwL (gI h 107) M 0 (K, nt, 0)) (fun g K' nt' c i a4 I eF hc es => by
    obtain ⟨Sg, Rg, Fg, Hg, Qg⟩ := id I
    have ga := s_goodAnew (d + 1) (h := g) Sg (nI c)
    refine Rp.aload_n dX12_row_153 rfl rfl ?_
    refine Rp.iload_n dX12_row_154 rfl ?_
    refine Rp.callV1 M_X12_goodAnew (ci := 12) dX12_row_155 mo_X12_goodAnew lk_X12_124 (by decide) rfl rfl (Sg _ _ rfl) (Nat.le_of_ble_eq_true rfl) (Nat.le_of_ble_eq_true rfl) (ga) (fun v1 h1 p1 x1 => ?_)
    rw [p1.1, p1.2]
    try dsimp only [Option.toList, List.cons_append, List.nil_append, List.append]
    refine Rp.ireturn dX12_row_158 rfl ?_
    exact ⟨g, K', nt', c, I, eF, hc, es, rfl, rfl⟩
    ) M 0 (sI (sI h 100 13 (nI 0)) 100 6 (nI b)) K nt 0 none (by omega) (Nat.le_refl _) ⟨S0, (R.put _ _ _).put _ _ _, Fr.rfl'.sI rfl, (funext fun j => (gI_ne _ _ _ _ (by decide)).trans (gI_ne _ _ _ _ (by decide)) : gI (sI (sI h 100 13 (nI 0)) 100 6 (nI b)) 102 = gI h 102).trans eK, Q⟩ (by rw [gI_hit]; congr 1; omega) rfl
  have em : nI Lt - nI Lt / nI 2 * nI 2 = nI b := by
    rw [z32_remN (by omega) (by decide) (by decide)]
    congr 1
    omega
  have k32 : Rp (d + 3) M_X12_row 32 [some (.ref aM), some (.int (nI Lt)), some (.int (nI 0)), some (.int (nI 0)), none] [] (sI (sI h 100 13 (nI 0)) 100 6 (nI b)) _ := k32
  refine Rp.aload_n dX12_row_0 rfl rfl ?_
  refine Rp.getI dX12_row_1 fk_X12_174 rfl (S _ _ rfl) ?_
  first | rw [l3] | skip
  refine Rp.ist1 dX12_row_4 (by first | exact nl2_some rfl | exact nl2_none) (by decide) ?_
  refine Rp.aload_n dX12_row_5 rfl rfl ?_
  refine Rp.iconst (nI 0) dX12_row_6 (by decide) ?_
  refine Rp.putI dX12_row_7 fk_X12_174w rfl (S _ _ rfl) ?_
  refine Rp.iload_n dX12_row_10 rfl ?_
  first | ((with_reducible show Rp _ _ _ _ (.int (b2i _) :: _) _ _); refine Rp.if_neB (tgt := 21) dX12_row_11 (by decide) (fun c11 => ?_) (fun c11 => ?_)) | ((with_reducible show Rp _ _ _ _ (.int (nI _) :: _) _ _); refine Rp.if_neN (tgt := 21) dX12_row_11 (by decide) (by omega) (fun c11 => ?_) (fun c11 => ?_)) | refine Rp.if_ne (tgt := 21) dX12_row_11 (by decide) (fun c11 => ?_) (fun c11 => ?_)
  · skip
    refine Rp.iconst (nI 0) dX12_row_21 (by decide) ?_
    refine Rp.ist2 dX12_row_22 (by first | exact nl2_some rfl | exact nl2_none) (by decide) ?_
    refine Rp.aload_n dX12_row_23 rfl rfl ?_
    refine Rp.iload_n dX12_row_24 rfl ?_
    refine Rp.iconst (nI 2) dX12_row_25 (by decide) ?_
    refine Rp.irem dX12_row_26 (by decide) ?_
    rw [em]
    refine Rp.putI dX12_row_27 fk_X12_177w rfl (S _ _ rfl) ?_
    refine Rp.iconst (nI 0) dX12_row_30 (by decide) ?_
    refine Rp.ist3 dX12_row_31 (by first | exact nl2_some rfl | exact nl2_none) (by decide) ?_
    exact k32
  · skip
    first | (exfalso; omega) | exact absurd c11 (by decide) | exact absurd (by decide) c11
end Rm
