def dX (k j : Nat) : Bool := (k == 48 && decide (j < 3)) || ((k == 49 || k == 50 || k == 51) && decide (j < 6))
def pX (k j : Nat) : Bool := jX k j || dX k j
/-- the class's day stands as s -/
def DY (h : AH) (s : DS) : Prop := (∀ e, e < 3 → gI h 48 e = nI (s.1 e)) ∧ (∀ p, p < 6 → gI h 49 p = s.2.1 p) ∧ (∀ p, p < 6 → gI h 50 p = s.2.2.1 p) ∧ (∀ p, p < 6 → gI h 51 p = s.2.2.2 p)
theorem dX_lt {k j : Nat} (h : k < 48) : dX k j = false := by
  unfold dX
  rw [show (k == 48) = false from beq_eq_false_iff_ne.mpr (by omega), show (k == 49) = false from beq_eq_false_iff_ne.mpr (by omega), show (k == 50) = false from beq_eq_false_iff_ne.mpr (by omega), show (k == 51) = false from beq_eq_false_iff_ne.mpr (by omega)]; rfl
theorem dX_gt {k j : Nat} (h : 51 < k) : dX k j = false := by
  unfold dX
  rw [show (k == 48) = false from beq_eq_false_iff_ne.mpr (by omega), show (k == 49) = false from beq_eq_false_iff_ne.mpr (by omega), show (k == 50) = false from beq_eq_false_iff_ne.mpr (by omega), show (k == 51) = false from beq_eq_false_iff_ne.mpr (by omega)]; rfl
theorem dX_T {k j : Nat} (o : okT k) : dX k j = false := by
  rcases o with h | h | h | h
  · exact dX_gt (by omega)
  · exact dX_lt (by omega)
  · exact dX_lt (by omega)
  · exact dX_lt (by omega)
theorem pX_j {h g : AH} (F : Fr jX h g) : Fr pX h g := F.weak (fun k j hx => by unfold pX at hx; rw [Bool.or_eq_false_iff] at hx; exact hx.1)
theorem pX_d {h g : AH} (F : Fr dX h g) : Fr pX h g := F.weak (fun k j hx => by unfold pX at hx; rw [Bool.or_eq_false_iff] at hx; exact hx.2)
theorem JS.fd {h g : AH} {b : Nat} {K : Nat → Int32} {fl : Option (List CLE)} (J : JS h b K fl) (F : Fr dX h g) : JS g b K fl := by
  obtain ⟨J1, J2, J3, J4, k1, k2, k3, k4⟩ := J
  have e44 : ∀ j, gI g 44 j = gI h 44 j := fun j => F.I 44 j (dX_lt (by decide))
  exact ⟨(F.Rr _ _ (dX_lt (by decide))).trans J1, J2.fr F (fun k j o => dX_T o) (dX_lt (by decide)), J3.fr F (fun k j hk => dX_lt (by omega)), fun j hj => (F.I 43 j (dX_lt (by decide))).trans (J4 j hj), fun p t e h1 h2 h3 => by rw [e44]; exact k1 p t e h1 h2 h3, fun p t h1 h2 => by rw [e44]; exact k2 p t h1 h2, fun p t h1 h2 => by rw [e44]; exact k3 p t h1 h2, fun p h1 => by rw [e44]; exact k4 p h1⟩
theorem DY.fj {h g : AH} {s : DS} (Y : DY h s) (F : Fr jX h g) : DY g s := by
  have e : ∀ k j, 48 ≤ k → gI g k j = gI h k j := fun k j hk => F.I k j (by
    unfold jX
    rw [show (k == 42) = false from beq_eq_false_iff_ne.mpr (by omega), show (k == 43) = false from beq_eq_false_iff_ne.mpr (by omega), show (k == 44) = false from beq_eq_false_iff_ne.mpr (by omega)]; rfl)
  exact ⟨fun x hx => (e _ _ (by decide)).trans (Y.1 x hx), fun x hx => (e _ _ (by decide)).trans (Y.2.1 x hx), fun x hx => (e _ _ (by decide)).trans (Y.2.2.1 x hx), fun x hx => (e _ _ (by decide)).trans (Y.2.2.2 x hx)⟩
/-- desks that stand have a speed -/
def VD (K : Nat → Int32) (nd : Nat) : Prop := nd ≤ 3 ∧ ∀ e, e < nd → ∃ s, 1 ≤ s ∧ s ≤ 9 ∧ K (86 + e) = nI s
section Py
variable (d : Nat) {h : AH} {b : Nat} {K : Nat → Int32} {fl : Option (List CLE)} {np nt nd : Nat} {st : Nat → Bool} {hs : Nat → Int32}
/-- one that is called -/
theorem play75 {P : Option Value → AH → Prop} {g : AH} (S : ShOK g) (R : RfOK g) (J : JS g b K fl) (B : KB K) (D : HD g b K nd) (VDd : VD K nd) {op : Int32} (hst : ∀ e, e < nd → st e = bitB op (nI e)) {s : DS} (Y : DY g s) (hf : ∀ e, s.1 e ≤ 6000) {p t i kh : Nat} (hp : p < 6) (ht : t < 8) (a8 : Option Value) (hk : kh = 8 ∨ kh = 24 ∨ kh = 54) (kk : ∀ g' a8', Fr pX g g' → JS g' b K fl → DY g' (stp K fl nd st s p t) → Rp (d + 3) M_X1_play 155 [some (.ref 46), some (.ref 40), some (.ref kh), some (.int op), some (.ref b), some (.int (nI i)), some (.int (nI t)), some (.int (nI p)), a8'] [] g' P) : Rp (d + 3) M_X1_play 75 [some (.ref 46), some (.ref 40), some (.ref kh), some (.int op), some (.ref b), some (.int (nI i)), some (.int (nI t)), some (.int (nI p)), a8] [] g P := by
  have A := D.1
  have ek := J.2.2.1.2.2.2.2.2.1 t ht
  have er := early6 (d + 2) S R D (kd := K (75 + t)) hst (f := s.1) (fun e he => ⟨Y.1 e he, by have := hf e; omega⟩) nd 0 none (by omega)
  have er0 : Rp (d + 2) M_X1_earliest 0 [some (.ref 46), some (.ref b), some (.int (K (75 + t))), some (.int op), none, none, none] [] g (fun r h' => h' = g ∧ r = some (.int (oI (dskF K st s.1 (K (75 + t)) nd)))) := by
    refine Rp.iconst (-1) dX1_earliest_0 (by decide) ?_
    refine Rp.ist4 dX1_earliest_1 (by first | exact nl2_some rfl | exact nl2_none) (by decide) ?_
    refine Rp.iconst (nI 0) dX1_earliest_3 (by decide) ?_
    refine Rp.ist5 dX1_earliest_4 (by first | exact nl2_some rfl | exact nl2_none) (by decide) ?_
    exact er
  match hq : dskF K st s.1 (K (75 + t)) nd with
  | none =>
    rw [hq] at er0
    dsimp only [oI] at er0
    have k1 := kk g (some (.int (-1))) Fr.rfl' J (by unfold stp; rw [hq]; exact Y)
    refine Rp.aload_n dX1_play_75 rfl rfl ?_
    refine Rp.aload dX1_play_76 rfl rfl ?_
    refine Rp.aload dX1_play_78 rfl rfl ?_
    refine Rp.getR dX1_play_80 fk_X1_48 rfl (A.1 0 _ rfl) (A.2 0 7 6 rfl) ?_
    refine Rp.iload dX1_play_83 rfl ?_
    first | ((with_reducible show Rp _ _ _ _ (.int (nI _) :: _) _ _); refine Rp.ialoadN dX1_play_85 (A.1 6 _ rfl) (by omega) ?_) | refine Rp.iaload dX1_play_85 (A.1 6 _ rfl) (by first | assumption | exact vpb (by decide)) ?_
    first | rw [ek] | skip
    refine Rp.iload_n dX1_play_86 rfl ?_
    refine Rp.callV3 M_X1_earliest (ci := 1) dX1_play_87 mo_X1_earliest lk_X1_51 (by decide) rfl rfl (S _ _ rfl) (Nat.le_of_ble_eq_true rfl) (Nat.le_of_ble_eq_true rfl) (er0) (fun v1 h1 p1 x1 => ?_)
    rw [p1.1, p1.2]
    try dsimp only [Option.toList, List.cons_append, List.nil_append, List.append]
    refine Rp.ist8 dX1_play_90 (by first | exact nl2_some rfl | exact nl2_none) (by decide) ?_
    refine Rp.iload dX1_play_92 rfl ?_
    refine Rp.iconst (-1) dX1_play_94 (by decide) ?_
    first | ((with_reducible show Rp _ _ _ _ (.int (nI _) :: .int (nI _) :: _) _ _); refine Rp.icmp_eqN (tgt := 155) dX1_play_95 (by decide) (by omega) (fun c95 => ?_) (fun c95 => ?_)) | refine Rp.icmp_eq (tgt := 155) dX1_play_95 (by decide) (fun c95 => ?_) (fun c95 => ?_)
    · skip
      exact k1
    · skip
      exact absurd rfl c95
  | some e =>
    rw [hq] at er0
    dsimp only [oI] at er0
    have he := dskF_lt nd e hq
    have he3 : e < 3 := by have := D.2.1; omega
    obtain ⟨sp, s1, s2, es⟩ := VDd.2 e he
    have fe := Y.1 e he3
    have fb := hf e
    have om : ¬ nI e = -1 := nI_m1 (by omega)
    have F1 : Fr dX g (sI (sI g 51 p (nI e)) 49 p (nI (s.1 e))) := (Fr.rfl'.sI (by unfold dX; rw [decide_eq_true hp]; simp)).sI (by unfold dX; rw [decide_eq_true hp]; simp)
    have J1 := J.fd F1
    have S1 := F1.S S
    have R1 := F1.R R (by decide)
    have mn := t_minutesJ d S1 R1 J1 B (p := p) (t := t) (e := e) hp ht he3 es ⟨s1, s2⟩
    have fe1 : gI (sI (sI g 51 p (nI e)) 49 p (nI (s.1 e))) 48 e = nI (s.1 e) := by rw [gI_ne _ _ _ _ (by decide), gI_ne _ _ _ _ (by decide)]; exact fe
    have fe0 : gI (sI g 51 p (nI e)) 48 e = nI (s.1 e) := by rw [gI_ne _ _ _ _ (by decide)]; exact fe
    refine Rp.aload_n dX1_play_75 rfl rfl ?_
    refine Rp.aload dX1_play_76 rfl rfl ?_
    refine Rp.aload dX1_play_78 rfl rfl ?_
    refine Rp.getR dX1_play_80 fk_X1_48 rfl (A.1 0 _ rfl) (A.2 0 7 6 rfl) ?_
    refine Rp.iload dX1_play_83 rfl ?_
    first | ((with_reducible show Rp _ _ _ _ (.int (nI _) :: _) _ _); refine Rp.ialoadN dX1_play_85 (A.1 6 _ rfl) (by omega) ?_) | refine Rp.iaload dX1_play_85 (A.1 6 _ rfl) (by first | assumption | exact vpb (by decide)) ?_
    first | rw [ek] | rw [fe0] | rw [fe1] | skip
    refine Rp.iload_n dX1_play_86 rfl ?_
    refine Rp.callV3 M_X1_earliest (ci := 1) dX1_play_87 mo_X1_earliest lk_X1_51 (by decide) rfl rfl (S _ _ rfl) (Nat.le_of_ble_eq_true rfl) (Nat.le_of_ble_eq_true rfl) (er0) (fun v1 h1 p1 x1 => ?_)
    rw [p1.1, p1.2]
    try dsimp only [Option.toList, List.cons_append, List.nil_append, List.append]
    refine Rp.ist8 dX1_play_90 (by first | exact nl2_some rfl | exact nl2_none) (by decide) ?_
    refine Rp.iload dX1_play_92 rfl ?_
    refine Rp.iconst (-1) dX1_play_94 (by decide) ?_
    first | ((with_reducible show Rp _ _ _ _ (.int (nI _) :: .int (nI _) :: _) _ _); refine Rp.icmp_eqN (tgt := 155) dX1_play_95 (by decide) (by omega) (fun c95 => ?_) (fun c95 => ?_)) | refine Rp.icmp_eq (tgt := 155) dX1_play_95 (by decide) (fun c95 => ?_) (fun c95 => ?_)
    · exact absurd c95 om
    refine Rp.aload_n dX1_play_98 rfl rfl ?_
    refine Rp.getR dX1_play_99 fk_X1_24 rfl (S _ _ rfl) (R _ _ _ rfl) ?_
    refine Rp.iload dX1_play_102 rfl ?_
    refine Rp.iload dX1_play_104 rfl ?_
    first | ((with_reducible show Rp _ _ _ _ (_ :: .int (nI _) :: _) _ _); refine Rp.iastoreN dX1_play_106 (S _ _ rfl) (by omega) ?_) | refine Rp.iastore dX1_play_106 (S _ _ rfl) (by first | assumption | exact vpb (by decide)) ?_
    refine Rp.aload_n dX1_play_107 rfl rfl ?_
    refine Rp.getR dX1_play_108 fk_X1_18 rfl (S _ _ rfl) (R _ _ _ rfl) ?_
    refine Rp.iload dX1_play_111 rfl ?_
    refine Rp.aload_n dX1_play_113 rfl rfl ?_
    refine Rp.getR dX1_play_114 fk_X1_15 rfl (S _ _ rfl) (R _ _ _ rfl) ?_
    refine Rp.iload dX1_play_117 rfl ?_
    first | ((with_reducible show Rp _ _ _ _ (.int (nI _) :: _) _ _); refine Rp.ialoadN dX1_play_119 (S _ _ rfl) (by omega) ?_) | refine Rp.iaload dX1_play_119 (S _ _ rfl) (by first | assumption | exact vpb (by decide)) ?_
    first | rw [ek] | rw [fe0] | rw [fe1] | skip
    first | ((with_reducible show Rp _ _ _ _ (_ :: .int (nI _) :: _) _ _); refine Rp.iastoreN dX1_play_120 (S _ _ rfl) (by omega) ?_) | refine Rp.iastore dX1_play_120 (S _ _ rfl) (by first | assumption | exact vpb (by decide)) ?_
    refine Rp.aload_n dX1_play_121 rfl rfl ?_
    refine Rp.getR dX1_play_122 fk_X1_15 rfl (S _ _ rfl) (R _ _ _ rfl) ?_
    refine Rp.iload dX1_play_125 rfl ?_
    refine Rp.dup2 dX1_play_127 rfl rfl ?_
    first | ((with_reducible show Rp _ _ _ _ (.int (nI _) :: _) _ _); refine Rp.ialoadN dX1_play_128 (S _ _ rfl) (by omega) ?_) | refine Rp.iaload dX1_play_128 (S _ _ rfl) (by first | assumption | exact vpb (by decide)) ?_
    first | rw [ek] | rw [fe0] | rw [fe1] | skip
    refine Rp.aload_n dX1_play_129 rfl rfl ?_
    refine Rp.iload dX1_play_130 rfl ?_
    refine Rp.iload dX1_play_132 rfl ?_
    refine Rp.iload dX1_play_134 rfl ?_
    refine Rp.callV3 M_X3_minutes (ci := 3) dX1_play_136 mo_X3_minutes lk_X1_55 (by decide) rfl rfl (S _ _ rfl) (Nat.le_of_ble_eq_true rfl) (Nat.le_of_ble_eq_true rfl) (mn) (fun v1 h1 p1 x1 => ?_)
    obtain ⟨F2, J2, rfl⟩ := p1
    try dsimp only [Option.toList, List.cons_append, List.nil_append, List.append]
    skip
    have S2 := F2.S S1
    have R2 := F2.R R1 (by decide)
    have e48 : gI (sI h1 48 e (nI (s.1 e + oTk K fl p t e))) 48 e = nI (s.1 e + oTk K fl p t e) := gI_hit _ _ _ _
    have F3 : Fr dX h1 (sI (sI h1 48 e (nI (s.1 e + oTk K fl p t e))) 50 p (nI (s.1 e + oTk K fl p t e))) := (Fr.rfl'.sI (by unfold dX; rw [decide_eq_true he3]; simp)).sI (by unfold dX; rw [decide_eq_true hp]; simp)
    have J3 := J2.fd F3
    have Y3 : DY (sI (sI h1 48 e (nI (s.1 e + oTk K fl p t e))) 50 p (nI (s.1 e + oTk K fl p t e))) (stp K fl nd st s p t) := by
      have o : ∀ k j, 48 ≤ k → gI h1 k j = gI (sI (sI g 51 p (nI e)) 49 p (nI (s.1 e))) k j := fun k j hk => F2.I k j (by
        unfold jX
        rw [show (k == 42) = false from beq_eq_false_iff_ne.mpr (by omega), show (k == 43) = false from beq_eq_false_iff_ne.mpr (by omega), show (k == 44) = false from beq_eq_false_iff_ne.mpr (by omega)]; rfl)
      unfold stp
      rw [hq]
      refine ⟨fun x hx => ?_, fun x hx => ?_, fun x hx => ?_, fun x hx => ?_⟩
      · dsimp only
        unfold upN
        rw [gI_ne _ _ _ _ (by decide)]
        by_cases z : x = e
        · rw [z, gI_hit, if_pos rfl]
        · rw [gI_off _ _ _ z, if_neg z, o _ _ (by decide), gI_ne _ _ _ _ (by decide), gI_ne _ _ _ _ (by decide)]; exact Y.1 x hx
      · dsimp only
        unfold upK
        rw [gI_ne _ _ _ _ (by decide), gI_ne _ _ _ _ (by decide), o _ _ (by decide)]
        by_cases z : x = p
        · rw [z, gI_hit, if_pos rfl]
        · rw [gI_off _ _ _ z, if_neg z, gI_ne _ _ _ _ (by decide)]; exact Y.2.1 x hx
      · dsimp only
        unfold upK
        by_cases z : x = p
        · rw [z, gI_hit, if_pos rfl]
        · rw [gI_off _ _ _ z, if_neg z, gI_ne _ _ _ _ (by decide), o _ _ (by decide), gI_ne _ _ _ _ (by decide), gI_ne _ _ _ _ (by decide)]; exact Y.2.2.1 x hx
      · dsimp only
        unfold upK
        rw [gI_ne _ _ _ _ (by decide), gI_ne _ _ _ _ (by decide), o _ _ (by decide), gI_ne _ _ _ _ (by decide)]
        by_cases z : x = p
        · rw [z, gI_hit, if_pos rfl]
        · rw [gI_off _ _ _ z, if_neg z]; exact Y.2.2.2 x hx
    have k1 := kk _ (some (.int (nI e))) (((pX_d F1).trans (pX_j F2)).trans (pX_d F3)) J3 Y3
    first | ((with_reducible show Rp _ _ _ _ (.int (nI _) :: .int (nI _) :: _) _ _); refine Rp.iaddN dX1_play_139 ?_) | refine Rp.iadd dX1_play_139 ?_
    first | ((with_reducible show Rp _ _ _ _ (_ :: .int (nI _) :: _) _ _); refine Rp.iastoreN dX1_play_140 (S2 _ _ rfl) (by omega) ?_) | refine Rp.iastore dX1_play_140 (S2 _ _ rfl) (by first | assumption | exact vpb (by decide)) ?_
    refine Rp.aload_n dX1_play_141 rfl rfl ?_
    refine Rp.getR dX1_play_142 fk_X1_21 rfl (S2 _ _ rfl) (R2 _ _ _ rfl) ?_
    refine Rp.iload dX1_play_145 rfl ?_
    refine Rp.aload_n dX1_play_147 rfl rfl ?_
    refine Rp.getR dX1_play_148 fk_X1_15 rfl (S2 _ _ rfl) (R2 _ _ _ rfl) ?_
    refine Rp.iload dX1_play_151 rfl ?_
    first | ((with_reducible show Rp _ _ _ _ (.int (nI _) :: _) _ _); refine Rp.ialoadN dX1_play_153 (S2 _ _ rfl) (by omega) ?_) | refine Rp.iaload dX1_play_153 (S2 _ _ rfl) (by first | assumption | exact vpb (by decide)) ?_
    first | rw [e48] | skip
    first | ((with_reducible show Rp _ _ _ _ (_ :: .int (nI _) :: _) _ _); refine Rp.iastoreN dX1_play_154 (S2 _ _ rfl) (by omega) ?_) | refine Rp.iastore dX1_play_154 (S2 _ _ rfl) (by first | assumption | exact vpb (by decide)) ?_
    exact k1
end Py
