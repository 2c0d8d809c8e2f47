theorem nI_p1 (m : Nat) : nI m + nI 1 = nI (m + 1) := by rw [nI_add]
section Dm
variable (d : Nat) {h : AH} {fl : Option (List CLE)} {np nt : Nat} {US : List (Nat → Int32)}
theorem mday79 {P : Option Value → AH → Prop} (hp : 0 < np) (ht : 0 < nt) (hD : gI h 100 58 = nI np) (s1 : Int32) {N : Nat} (hN : N ≤ 60) (Fn : (Nat → Int32) × Nat × Nat) (kk : ∀ g x c i a5 a6, MA g fl np nt US → Fr dzX h g → Fn = (gI g 102, x, c) → Rp (d + 78) M_X12_days 162 [some (.ref aM), some (.int s1), some (.int (nI N)), some (.int (nI c)), some (.int (nI i)), a5, a6] [] g P) : ∀ (n i : Nat) (g : AH) (x c m : Nat) (a5 a6 : Option Value), i + n = N → c ≤ i → MA g fl np nt US → Fr dzX h g → gI g 100 59 = nI x → x < 1000003 → gI g 102 6 = nI m → m < 1000 → dyS fl np nt n (gI g 102, x, c) = Fn → Rp (d + 78) M_X12_days 79 [some (.ref aM), some (.int s1), some (.int (nI N)), some (.int (nI c)), some (.int (nI i)), a5, a6] [] g P := by
  intro n
  induction n with
  | zero =>
    intro i g x c m a5 a6 hi hc A F e1 hx e6 hm hF
    have e : i = N := by omega
    subst e
    have k1 := kk g x c i a5 a6 A F hF.symm
    refine Rp.iload dX12_days_79 rfl ?_
    refine Rp.iload_n dX12_days_81 rfl ?_
    first | ((with_reducible show Rp _ _ _ _ (.int (nI _) :: .int (nI _) :: _) _ _); refine Rp.icmp_geN (tgt := 162) dX12_days_82 (by decide) (by omega) (fun c82 => ?_) (fun c82 => ?_)) | refine Rp.icmp_ge (tgt := 162) dX12_days_82 (by decide) (fun c82 => ?_) (fun c82 => ?_)
    · skip
      exact k1
    · skip
      first | (exfalso; omega) | exact absurd c82 (by decide) | exact absurd (by decide) c82
  | succ n ih =>
    intro i g x c m a5 a6 hi hc A F e1 hx e6 hm hF
    have S := A.1
    have R := A.2.1
    have V := A.2.2.2.2.1
    have v1 := V.1
    have v2 := V.2.1
    by_cases q9 : 999 ≤ m
    · have e9 : nI 999 ≤ gI g 102 6 := by rw [e6, i32_le, nI_toInt (by decide), nI_toInt (by omega)]; omega
      rw [dyS, if_pos e9] at hF
      have k1 := kk g x c i a5 a6 A F hF.symm
      refine Rp.iload dX12_days_79 rfl ?_
      refine Rp.iload_n dX12_days_81 rfl ?_
      first | ((with_reducible show Rp _ _ _ _ (.int (nI _) :: .int (nI _) :: _) _ _); refine Rp.icmp_geN (tgt := 162) dX12_days_82 (by decide) (by omega) (fun c82 => ?_) (fun c82 => ?_)) | refine Rp.icmp_ge (tgt := 162) dX12_days_82 (by decide) (fun c82 => ?_) (fun c82 => ?_)
      · skip
        first | (exfalso; omega) | exact absurd c82 (by decide) | exact absurd (by decide) c82
      · skip
        refine Rp.aload_n dX12_days_85 rfl rfl ?_
        refine Rp.getR dX12_days_86 fk_X12_24 rfl (S _ _ rfl) (R _ _ _ rfl) ?_
        refine Rp.bipush (nI 6) dX12_days_89 (by decide) ?_
        first | ((with_reducible show Rp _ _ _ _ (.int (nI _) :: _) _ _); refine Rp.ialoadN dX12_days_91 (S _ _ rfl) (by omega) ?_) | refine Rp.iaload dX12_days_91 (S _ _ rfl) (by first | assumption | exact vpb (by decide)) ?_
        first | rw [e6] | skip
        refine Rp.sipush (nI 999) dX12_days_92 (by decide +kernel) ?_
        first | ((with_reducible show Rp _ _ _ _ (.int (nI _) :: .int (nI _) :: _) _ _); refine Rp.icmp_geN (tgt := 162) dX12_days_95 (by decide) (by omega) (fun c95 => ?_) (fun c95 => ?_)) | refine Rp.icmp_ge (tgt := 162) dX12_days_95 (by decide) (fun c95 => ?_) (fun c95 => ?_)
        · skip
          exact k1
        · skip
          first | (exfalso; omega) | exact absurd c95 (by decide) | exact absurd (by decide) c95
    · have e9 : ¬ nI 999 ≤ gI g 102 6 := by rw [e6, i32_le, nI_toInt (by decide), nI_toInt (by omega)]; omega
      rw [dyS, if_neg e9] at hF
      have eD : gI g 100 58 = nI np := (F.I 100 58 rfl).trans hD
      have eT : gI (sI g 100 59 (nI (lc x))) 102 104 = nI nt := A.2.2.2.2.2.2.1
      have F1 : Fr dzX g (sI g 100 59 (nI (lc x))) := Fr.rfl'.sI rfl
      have F2 : Fr dzX g (sI (sI g 100 59 (nI (lc x))) 100 59 (nI (lc (lc x)))) := F1.sI rfl
      have F3 : Fr dzX g (sI (sI (sI g 100 59 (nI (lc x))) 100 59 (nI (lc (lc x)))) 100 59 (nI (lc (lc (lc x))))) := F2.sI rfl
      have S1 := F1.S S
      have R1 := F1.R R (by decide)
      have S2 := F2.S S
      have S3 := F3.S S
      have w1 := s_draws (d + 77) S hx ⟨hp, by omega⟩ e1
      have w2 := s_draws (d + 77) S1 (n := nt) (lc_lt x) ⟨ht, by omega⟩ (gI_hit _ _ _ _)
      have w3 := s_draws (d + 77) S2 (n := 3) (lc_lt (lc x)) ⟨by decide, by decide⟩ (gI_hit _ _ _ _)
      have q0 : lc x % np < np := Nat.mod_lt _ hp
      have q1 : lc (lc x) % nt < nt := Nat.mod_lt _ ht
      have q2 : lc (lc (lc x)) % 3 < 3 := Nat.mod_lt _ (by decide)
      generalize lc x % np = p at w1 q0 hF
      generalize lc (lc x) % nt = t at w2 q1 hF
      generalize lc (lc (lc x)) % 3 = w at w3 q2 hF
      have A3 := A.dz F3 (V := V) hm e6
      have hap := s_happens d A3 q0 q1 q2
      refine Rp.iload dX12_days_79 rfl ?_
      refine Rp.iload_n dX12_days_81 rfl ?_
      first | ((with_reducible show Rp _ _ _ _ (.int (nI _) :: .int (nI _) :: _) _ _); refine Rp.icmp_geN (tgt := 162) dX12_days_82 (by decide) (by omega) (fun c82 => ?_) (fun c82 => ?_)) | refine Rp.icmp_ge (tgt := 162) dX12_days_82 (by decide) (fun c82 => ?_) (fun c82 => ?_)
      · first | (exfalso; omega) | exact absurd c82 (by decide) | exact absurd (by decide) c82
      refine Rp.aload_n dX12_days_85 rfl rfl ?_
      refine Rp.getR dX12_days_86 fk_X12_24 rfl (S _ _ rfl) (R _ _ _ rfl) ?_
      refine Rp.bipush (nI 6) dX12_days_89 (by decide) ?_
      first | ((with_reducible show Rp _ _ _ _ (.int (nI _) :: _) _ _); refine Rp.ialoadN dX12_days_91 (S _ _ rfl) (by omega) ?_) | refine Rp.iaload dX12_days_91 (S _ _ rfl) (by first | assumption | exact vpb (by decide)) ?_
      first | rw [e6] | rw [eD] | rw [eT] | skip
      refine Rp.sipush (nI 999) dX12_days_92 (by decide +kernel) ?_
      first | ((with_reducible show Rp _ _ _ _ (.int (nI _) :: .int (nI _) :: _) _ _); refine Rp.icmp_geN (tgt := 162) dX12_days_95 (by decide) (by omega) (fun c95 => ?_) (fun c95 => ?_)) | refine Rp.icmp_ge (tgt := 162) dX12_days_95 (by decide) (fun c95 => ?_) (fun c95 => ?_)
      · first | (exfalso; omega) | exact absurd c95 (by decide) | exact absurd (by decide) c95
      refine Rp.aload_n dX12_days_98 rfl rfl ?_
      refine Rp.aload_n dX12_days_99 rfl rfl ?_
      refine Rp.getI dX12_days_100 fk_X12_114 rfl (S _ _ rfl) ?_
      first | rw [e6] | rw [eD] | rw [eT] | skip
      refine Rp.callV1 M_X12_draws (ci := 12) dX12_days_103 mo_X12_draws lk_X12_522 (by decide) rfl rfl (S _ _ rfl) (Nat.le_of_ble_eq_true rfl) (Nat.le_of_ble_eq_true rfl) (w1) (fun v1 h1 p1 x1 => ?_)
      rw [p1.1, p1.2]
      try dsimp only [Option.toList, List.cons_append, List.nil_append, List.append]
      refine Rp.ist5 dX12_days_106 (by first | exact nl2_some rfl | exact nl2_none) (by decide) ?_
      refine Rp.aload_n dX12_days_108 rfl rfl ?_
      refine Rp.aload_n dX12_days_109 rfl rfl ?_
      refine Rp.getR dX12_days_110 fk_X12_24 rfl (S1 _ _ rfl) (R1 _ _ _ rfl) ?_
      refine Rp.bipush (nI 104) dX12_days_113 (by decide) ?_
      first | ((with_reducible show Rp _ _ _ _ (.int (nI _) :: _) _ _); refine Rp.ialoadN dX12_days_115 (S1 _ _ rfl) (by omega) ?_) | refine Rp.iaload dX12_days_115 (S1 _ _ rfl) (by first | assumption | exact vpb (by decide)) ?_
      first | rw [e6] | rw [eD] | rw [eT] | skip
      refine Rp.callV1 M_X12_draws (ci := 12) dX12_days_116 mo_X12_draws lk_X12_522 (by decide) rfl rfl (S1 _ _ rfl) (Nat.le_of_ble_eq_true rfl) (Nat.le_of_ble_eq_true rfl) (w2) (fun v1 h1 p1 x1 => ?_)
      rw [p1.1, p1.2]
      try dsimp only [Option.toList, List.cons_append, List.nil_append, List.append]
      refine Rp.ist6 dX12_days_119 (by first | exact nl2_some rfl | exact nl2_none) (by decide) ?_
      refine Rp.iload_n dX12_days_121 rfl ?_
      refine Rp.aload_n dX12_days_122 rfl rfl ?_
      refine Rp.iload dX12_days_123 rfl ?_
      refine Rp.iload dX12_days_125 rfl ?_
      refine Rp.aload_n dX12_days_127 rfl rfl ?_
      refine Rp.iconst (nI 3) dX12_days_128 (by decide) ?_
      refine Rp.callV1 M_X12_draws (ci := 12) dX12_days_129 mo_X12_draws lk_X12_522 (by decide) rfl rfl (S2 _ _ rfl) (Nat.le_of_ble_eq_true rfl) (Nat.le_of_ble_eq_true rfl) (w3) (fun v1 h1 p1 x1 => ?_)
      rw [p1.1, p1.2]
      try dsimp only [Option.toList, List.cons_append, List.nil_append, List.append]
      refine Rp.callV3 M_X12_happens (ci := 12) dX12_days_132 mo_X12_happens lk_X12_525 (by decide) rfl rfl (S3 _ _ rfl) (Nat.le_of_ble_eq_true rfl) (Nat.le_of_ble_eq_true rfl) (hap) (fun v1 h1 p1 x1 => ?_)
      obtain ⟨rfl, F4, e4⟩ := p1
      try dsimp only [Option.toList, List.cons_append, List.nil_append, List.append]
      skip
      have e4 : gI h1 102 = acK (gI g 102) (blR (gI g 102) fl np nt p t w).2 := e4
      have S4 := F4.S S3
      have R4 := F4.R (F3.R R (by decide)) (by decide)
      have e46 : gI h1 102 6 = nI m := by rw [e4, bl_hi V p t w (by decide)]; exact e6
      have K5 : gI (sI h1 102 6 (nI (m + 1))) 102 = upK (acK (gI g 102) (blR (gI g 102) fl np nt p t w).2) 6 (gI g 102 6 + nI 1) := funext fun j => by
        unfold upK
        rw [gI_at, e4, e6, nI_p1]
      have F5 : Fr dzX g (sI h1 102 6 (nI (m + 1))) := (F3.trans (dzX_h F4)).sI rfl
      have V5 : VH (gI (sI h1 102 6 (nI (m + 1))) 102) np nt := by rw [K5]; exact (V.bl p t w).up6 _
      have A5 := A.dz F5 V5 (m := m + 1) (by omega) (gI_hit _ _ _ _)
      have x5 : gI (sI h1 102 6 (nI (m + 1))) 100 59 = nI (lc (lc (lc x))) := by
        rw [gI_ne _ _ _ _ (by decide)]
        exact (F4.I 100 59 rfl).trans (gI_hit _ _ _ _)
      rw [← K5] at hF
      cases eS : (blR (gI g 102) fl np nt p t w).2.isSome
      · rw [eS, if_neg (by decide)] at hF
        have k1 := ih (i + 1) (sI h1 102 6 (nI (m + 1))) (lc (lc (lc x))) c (m + 1) (some (.int (nI p))) (some (.int (nI t))) (by omega) (by omega) A5 (F.trans F5) x5 (lc_lt _) (gI_hit _ _ _ _) (by omega) hF
        have eS' : (blR (gI (sI (sI (sI g 100 59 (nI (lc x))) 100 59 (nI (lc (lc x)))) 100 59 (nI (lc (lc (lc x))))) am_kept) fl np nt p t w).2.isSome = false := eS
        rw [eS']
        first | ((with_reducible show Rp _ _ _ _ (.int (b2i _) :: _) _ _); refine Rp.if_eqB (tgt := 142) dX12_days_135 (by decide) (fun c135 => ?_) (fun c135 => ?_)) | ((with_reducible show Rp _ _ _ _ (.int (nI _) :: _) _ _); refine Rp.if_eqN (tgt := 142) dX12_days_135 (by decide) (by omega) (fun c135 => ?_) (fun c135 => ?_)) | refine Rp.if_eq (tgt := 142) dX12_days_135 (by decide) (fun c135 => ?_) (fun c135 => ?_)
        · skip
          refine Rp.iconst (nI 0) dX12_days_142 (by decide) ?_
          first | ((with_reducible show Rp _ _ _ _ (.int (nI _) :: .int (nI _) :: _) _ _); refine Rp.iaddN dX12_days_143 ?_) | refine Rp.iadd dX12_days_143 ?_
          refine Rp.ist3 dX12_days_144 (by first | exact nl2_some rfl | exact nl2_none) (by decide) ?_
          refine Rp.aload_n dX12_days_145 rfl rfl ?_
          refine Rp.getR dX12_days_146 fk_X12_24 rfl (S4 _ _ rfl) (R4 _ _ _ rfl) ?_
          refine Rp.bipush (nI 6) dX12_days_149 (by decide) ?_
          refine Rp.dup2 dX12_days_151 rfl rfl ?_
          first | ((with_reducible show Rp _ _ _ _ (.int (nI _) :: _) _ _); refine Rp.ialoadN dX12_days_152 (S4 _ _ rfl) (by omega) ?_) | refine Rp.iaload dX12_days_152 (S4 _ _ rfl) (by first | assumption | exact vpb (by decide)) ?_
          first | rw [e46] | skip
          refine Rp.iconst (nI 1) dX12_days_153 (by decide) ?_
          first | ((with_reducible show Rp _ _ _ _ (.int (nI _) :: .int (nI _) :: _) _ _); refine Rp.iaddN dX12_days_154 ?_) | refine Rp.iadd dX12_days_154 ?_
          first | ((with_reducible show Rp _ _ _ _ (_ :: .int (nI _) :: _) _ _); refine Rp.iastoreN dX12_days_155 (S4 _ _ rfl) (by omega) ?_) | refine Rp.iastore dX12_days_155 (S4 _ _ rfl) (by first | assumption | exact vpb (by decide)) ?_
          first | ((with_reducible show Rp _ _ _ (_ :: _ :: _ :: _ :: some (.int (nI _)) :: _) _ _ _); refine Rp.inc4N (c := 1) dX12_days_156 (by first | exact nl2_some rfl | exact nl2_none) (by decide) ?_) | refine Rp.inc4 _ dX12_days_156 rfl (by first | exact nl2_some rfl | exact nl2_none) (by decide) ?_
          refine Rp.goto (tgt := 79) dX12_days_159 (by decide) ?_
          exact k1
        · skip
          cases c135
      · rw [eS, if_pos rfl] at hF
        have k1 := ih (i + 1) (sI h1 102 6 (nI (m + 1))) (lc (lc (lc x))) (c + 1) (m + 1) (some (.int (nI p))) (some (.int (nI t))) (by omega) (by omega) A5 (F.trans F5) x5 (lc_lt _) (gI_hit _ _ _ _) (by omega) hF
        have eS' : (blR (gI (sI (sI (sI g 100 59 (nI (lc x))) 100 59 (nI (lc (lc x)))) 100 59 (nI (lc (lc (lc x))))) am_kept) fl np nt p t w).2.isSome = true := eS
        rw [eS']
        first | ((with_reducible show Rp _ _ _ _ (.int (b2i _) :: _) _ _); refine Rp.if_eqB (tgt := 142) dX12_days_135 (by decide) (fun c135 => ?_) (fun c135 => ?_)) | ((with_reducible show Rp _ _ _ _ (.int (nI _) :: _) _ _); refine Rp.if_eqN (tgt := 142) dX12_days_135 (by decide) (by omega) (fun c135 => ?_) (fun c135 => ?_)) | refine Rp.if_eq (tgt := 142) dX12_days_135 (by decide) (fun c135 => ?_) (fun c135 => ?_)
        · skip
          cases c135
        · skip
          refine Rp.iconst (nI 1) dX12_days_138 (by decide) ?_
          refine Rp.goto (tgt := 143) dX12_days_139 (by decide) ?_
          first | ((with_reducible show Rp _ _ _ _ (.int (nI _) :: .int (nI _) :: _) _ _); refine Rp.iaddN dX12_days_143 ?_) | refine Rp.iadd dX12_days_143 ?_
          refine Rp.ist3 dX12_days_144 (by first | exact nl2_some rfl | exact nl2_none) (by decide) ?_
          refine Rp.aload_n dX12_days_145 rfl rfl ?_
          refine Rp.getR dX12_days_146 fk_X12_24 rfl (S4 _ _ rfl) (R4 _ _ _ rfl) ?_
          refine Rp.bipush (nI 6) dX12_days_149 (by decide) ?_
          refine Rp.dup2 dX12_days_151 rfl rfl ?_
          first | ((with_reducible show Rp _ _ _ _ (.int (nI _) :: _) _ _); refine Rp.ialoadN dX12_days_152 (S4 _ _ rfl) (by omega) ?_) | refine Rp.iaload dX12_days_152 (S4 _ _ rfl) (by first | assumption | exact vpb (by decide)) ?_
          first | rw [e46] | skip
          refine Rp.iconst (nI 1) dX12_days_153 (by decide) ?_
          first | ((with_reducible show Rp _ _ _ _ (.int (nI _) :: .int (nI _) :: _) _ _); refine Rp.iaddN dX12_days_154 ?_) | refine Rp.iadd dX12_days_154 ?_
          first | ((with_reducible show Rp _ _ _ _ (_ :: .int (nI _) :: _) _ _); refine Rp.iastoreN dX12_days_155 (S4 _ _ rfl) (by omega) ?_) | refine Rp.iastore dX12_days_155 (S4 _ _ rfl) (by first | assumption | exact vpb (by decide)) ?_
          first | ((with_reducible show Rp _ _ _ (_ :: _ :: _ :: _ :: some (.int (nI _)) :: _) _ _ _); refine Rp.inc4N (c := 1) dX12_days_156 (by first | exact nl2_some rfl | exact nl2_none) (by decide) ?_) | refine Rp.inc4 _ dX12_days_156 rfl (by first | exact nl2_some rfl | exact nl2_none) (by decide) ?_
          refine Rp.goto (tgt := 79) dX12_days_159 (by decide) ?_
          exact k1
end Dm
