def mdX (k j : Nat) : Bool := tlX k j || ((k == 115 || k == 116 || k == 117) && decide (j < 6)) || (k == 118 && decide (j < 3))
/-- the reference's day stands as s -/
def DYm (h : AH) (s : DS) : Prop := (∀ e, e < 3 → gI h 118 e = nI (s.1 e)) ∧ (∀ p, p < 6 → gI h 115 p = s.2.1 p) ∧ (∀ p, p < 6 → gI h 116 p = s.2.2.1 p) ∧ (∀ p, p < 6 → gI h 117 p = s.2.2.2 p)
theorem mdX_t {h g : AH} (F : Fr tlX h g) : Fr mdX h g := F.weak (fun k j hx => by unfold mdX at hx; rw [Bool.or_eq_false_iff, Bool.or_eq_false_iff] at hx; exact hx.1.1)
theorem Fr.k102 {h g : AH} (F : Fr mdX h g) : gI g 102 = gI h 102 := funext fun j => F.I 102 j rfl
theorem dayF_un {K : Nat → Int32} {fl : Option (List CLE)} {nd np nt : Nat} {st : Nat → Bool} {hs : Nat → Int32} (V : VN K nt) {p t : Nat} (hnp : np ≤ 6) (ht : t < nt) (hp : hs p = nI t) : ∀ x, x ≤ nmb K t → (dayF K fl nd np nt st hs x).2.1 p = -1 ∧ (dayF K fl nd np nt st hs x).2.2.1 p = -1 ∧ (dayF K fl nd np nt st hs x).2.2.2 p = -1
  | 0, _ => ⟨rfl, rfl, rfl⟩
  | x + 1, h => by
    have h8 := V.1
    have ih := dayF_un (fl := fl) (nd := nd) (st := st) V hnp ht hp x (by omega)
    have b9 := (V.n ht).2.2
    by_cases z : ∃ u, u < nt ∧ K (67 + u) = nI x ∧ hOf hs (nI u) np ≠ -1
    · obtain ⟨u, hu, eu, hh⟩ := z
      have nx : nmb K u = x := by unfold nmb; rw [eu, nI_toInt (by omega)]; rfl
      have q := dayF_call (fl := fl) (nd := nd) (np := np) (st := st) (hs := hs) V hu hh
      rw [nx] at q
      rw [q]
      obtain ⟨w, hw, ew, fw⟩ := hOf_get np hh
      have ne : p ≠ w := fun y => by
        rw [← y, hp, i32_eq, nI_toInt (by omega), nI_toInt (by omega)] at fw
        have tn : t = u := by omega
        subst tn
        omega
      unfold stp
      match dskF K st (dayF K fl nd np nt st hs x).1 (K (75 + u)) nd with
      | none => exact ih
      | some e =>
        dsimp only
        rw [ew, ix_nI (by omega)]
        unfold upK
        rw [if_neg ne, if_neg ne, if_neg ne]
        exact ih
    · rw [dayF_skip (fun u hu eu => by
        by_cases y : hOf hs (nI u) np = -1
        · exact y
        · exact absurd ⟨u, hu, eu, y⟩ z)]
      exact ih
section Mc2
variable (d : Nat) {h : AH} {fl : Option (List CLE)} {np nt nd : Nat} {st : Nat → Bool}
theorem s_calls (S : ShOK h) (R : RfOK h) (hF : FlK (gI h am_kept) fl) (B : KB (gI h am_kept)) (VDd : VD (gI h am_kept) nd) (hD : gI h am_kept 105 = nI nd) {op : Int32} (hst : ∀ e, e < nd → st e = bitB op (nI e)) {s : DS} (Y : DYm h s) (hf : ∀ e, s.1 e ≤ 6000) {p t : Nat} (hp : p < 6) (ht : t < 8) (eK : gI h am_kept p = nI t) (hun : s.2.1 p = -1 ∧ s.2.2.1 p = -1 ∧ s.2.2.2 p = -1) : Rp (d + 76) M_X12_calls 0 [some (.ref aM), some (.int (nI p)), some (.int op), none, none] [] h (fun r h' => r = none ∧ Fr mdX h h' ∧ DYm h' (stp (gI h am_kept) fl nd st s p t)) := by
  have hnd := VDd.1
  have e0 : gI h am_kept (0 + p) = nI t := by rw [Nat.zero_add]; exact eK
  have dk := s_deskFor (d + 74) S R hnd hD (kd := gI h am_kept (75 + t)) hst (f := s.1) (fun e he => ⟨Y.1 e he, by have := hf e; omega⟩)
  unfold stp
  match hq : dskF (gI h am_kept) st s.1 (gI h am_kept (75 + t)) nd with
  | none =>
    rw [hq] at dk
    dsimp only [oI] at dk
    have F1 : Fr mdX h (sI (sI (sI h 117 p (-1)) 115 p (-1)) 116 p (-1)) := ((Fr.rfl'.sI (by unfold mdX; rw [decide_eq_true hp]; simp)).sI (by unfold mdX; rw [decide_eq_true hp]; simp)).sI (by unfold mdX; rw [decide_eq_true hp]; simp)
    have Y1 : DYm (sI (sI (sI h 117 p (-1)) 115 p (-1)) 116 p (-1)) s := by
      refine ⟨fun x hx => ?_, fun x hx => ?_, fun x hx => ?_, fun x hx => ?_⟩
      · rw [gI_ne _ _ _ _ (by decide), gI_ne _ _ _ _ (by decide), gI_ne _ _ _ _ (by decide)]; exact Y.1 x hx
      · rw [gI_ne _ _ _ _ (by decide)]
        by_cases z : x = p
        · rw [z, gI_hit, hun.1]
        · rw [gI_off _ _ _ z, gI_ne _ _ _ _ (by decide)]; exact Y.2.1 x hx
      · by_cases z : x = p
        · rw [z, gI_hit, hun.2.1]
        · rw [gI_off _ _ _ z, gI_ne _ _ _ _ (by decide), gI_ne _ _ _ _ (by decide)]; exact Y.2.2.1 x hx
      · rw [gI_ne _ _ _ _ (by decide), gI_ne _ _ _ _ (by decide)]
        by_cases z : x = p
        · rw [z, gI_hit, hun.2.2]
        · rw [gI_off _ _ _ z]; exact Y.2.2.2 x hx
    refine Rp.aload_n dX12_calls_0 rfl rfl ?_
    refine Rp.getR dX12_calls_1 fk_X12_24 rfl (S _ _ rfl) (R _ _ _ rfl) ?_
    refine Rp.iconst (nI 0) dX12_calls_4 (by decide) ?_
    refine Rp.iload_n dX12_calls_5 rfl ?_
    first | ((with_reducible show Rp _ _ _ _ (.int (nI _) :: .int (nI _) :: _) _ _); refine Rp.iaddN dX12_calls_6 ?_) | refine Rp.iadd dX12_calls_6 ?_
    first | ((with_reducible show Rp _ _ _ _ (.int (nI _) :: _) _ _); refine Rp.ialoadN dX12_calls_7 (S _ _ rfl) (by omega) ?_) | refine Rp.iaload dX12_calls_7 (S _ _ rfl) (by first | assumption | exact vpb (by decide)) ?_
    first | rw [e0] | skip
    refine Rp.ist3 dX12_calls_8 (by first | exact nl2_some rfl | exact nl2_none) (by decide) ?_
    refine Rp.aload_n dX12_calls_9 rfl rfl ?_
    refine Rp.aload_n dX12_calls_10 rfl rfl ?_
    refine Rp.getR dX12_calls_11 fk_X12_24 rfl (S _ _ rfl) (R _ _ _ rfl) ?_
    refine Rp.bipush (nI 75) dX12_calls_14 (by decide) ?_
    refine Rp.iload_n dX12_calls_16 rfl ?_
    first | ((with_reducible show Rp _ _ _ _ (.int (nI _) :: .int (nI _) :: _) _ _); refine Rp.iaddN dX12_calls_17 ?_) | refine Rp.iadd dX12_calls_17 ?_
    first | ((with_reducible show Rp _ _ _ _ (.int (nI _) :: _) _ _); refine Rp.ialoadN dX12_calls_18 (S _ _ rfl) (by omega) ?_) | refine Rp.iaload dX12_calls_18 (S _ _ rfl) (by first | assumption | exact vpb (by decide)) ?_
    first | rw [e0] | skip
    refine Rp.iload_n dX12_calls_19 rfl ?_
    refine Rp.callV2 M_X12_deskFor (ci := 12) dX12_calls_20 mo_X12_deskFor lk_X12_384 (by decide) rfl rfl (S _ _ rfl) (Nat.le_of_ble_eq_true rfl) (Nat.le_of_ble_eq_true rfl) (dk) (fun v1 h1 p1 x1 => ?_)
    rw [p1.1, p1.2]
    try dsimp only [Option.toList, List.cons_append, List.nil_append, List.append]
    refine Rp.ist4 dX12_calls_23 (by first | exact nl2_some rfl | exact nl2_none) (by decide) ?_
    refine Rp.aload_n dX12_calls_25 rfl rfl ?_
    refine Rp.getR dX12_calls_26 fk_X12_74 rfl (S _ _ rfl) (R _ _ _ rfl) ?_
    refine Rp.iload_n dX12_calls_29 rfl ?_
    refine Rp.iload dX12_calls_30 rfl ?_
    first | ((with_reducible show Rp _ _ _ _ (_ :: .int (nI _) :: _) _ _); refine Rp.iastoreN dX12_calls_32 (S _ _ rfl) (by omega) ?_) | refine Rp.iastore dX12_calls_32 (S _ _ rfl) (by first | assumption | exact vpb (by decide)) ?_
    refine Rp.aload_n dX12_calls_33 rfl rfl ?_
    refine Rp.getR dX12_calls_34 fk_X12_68 rfl (S _ _ rfl) (R _ _ _ rfl) ?_
    refine Rp.iload_n dX12_calls_37 rfl ?_
    refine Rp.iload dX12_calls_38 rfl ?_
    refine Rp.iconst (-1) dX12_calls_40 (by decide) ?_
    first | ((with_reducible show Rp _ _ _ _ (.int (nI _) :: .int (nI _) :: _) _ _); refine Rp.icmp_neN (tgt := 48) dX12_calls_41 (by decide) (by omega) (fun c41 => ?_) (fun c41 => ?_)) | refine Rp.icmp_ne (tgt := 48) dX12_calls_41 (by decide) (fun c41 => ?_) (fun c41 => ?_)
    · skip
      exact absurd rfl c41
    · skip
      refine Rp.iconst (-1) dX12_calls_44 (by decide) ?_
      refine Rp.goto (tgt := 55) dX12_calls_45 (by decide) ?_
      first | ((with_reducible show Rp _ _ _ _ (_ :: .int (nI _) :: _) _ _); refine Rp.iastoreN dX12_calls_55 (S _ _ rfl) (by omega) ?_) | refine Rp.iastore dX12_calls_55 (S _ _ rfl) (by first | assumption | exact vpb (by decide)) ?_
      refine Rp.aload_n dX12_calls_56 rfl rfl ?_
      refine Rp.getR dX12_calls_57 fk_X12_71 rfl (S _ _ rfl) (R _ _ _ rfl) ?_
      refine Rp.iload_n dX12_calls_60 rfl ?_
      refine Rp.iload dX12_calls_61 rfl ?_
      refine Rp.iconst (-1) dX12_calls_63 (by decide) ?_
      first | ((with_reducible show Rp _ _ _ _ (.int (nI _) :: .int (nI _) :: _) _ _); refine Rp.icmp_neN (tgt := 71) dX12_calls_64 (by decide) (by omega) (fun c64 => ?_) (fun c64 => ?_)) | refine Rp.icmp_ne (tgt := 71) dX12_calls_64 (by decide) (fun c64 => ?_) (fun c64 => ?_)
      · skip
        exact absurd rfl c64
      · skip
        refine Rp.iconst (-1) dX12_calls_67 (by decide) ?_
        refine Rp.goto (tgt := 87) dX12_calls_68 (by decide) ?_
        first | ((with_reducible show Rp _ _ _ _ (_ :: .int (nI _) :: _) _ _); refine Rp.iastoreN dX12_calls_87 (S _ _ rfl) (by omega) ?_) | refine Rp.iastore dX12_calls_87 (S _ _ rfl) (by first | assumption | exact vpb (by decide)) ?_
        refine Rp.iload dX12_calls_88 rfl ?_
        refine Rp.iconst (-1) dX12_calls_90 (by decide) ?_
        first | ((with_reducible show Rp _ _ _ _ (.int (nI _) :: .int (nI _) :: _) _ _); refine Rp.icmp_eqN (tgt := 107) dX12_calls_91 (by decide) (by omega) (fun c91 => ?_) (fun c91 => ?_)) | refine Rp.icmp_eq (tgt := 107) dX12_calls_91 (by decide) (fun c91 => ?_) (fun c91 => ?_)
        · skip
          refine Rp.vreturn dX12_calls_107 rfl ?_
          exact ⟨rfl, F1, Y1⟩
        · skip
          exact absurd rfl c91
  | some e =>
    rw [hq] at dk
    dsimp only [oI] at dk
    have he := dskF_lt nd e hq
    have he3 : e < 3 := by omega
    obtain ⟨sp, s1, s2, es⟩ := VDd.2 e he
    have fe := Y.1 e he3
    have fb := hf e
    have om : ¬ nI e = -1 := nI_m1 (by omega)
    have F1 : Fr mdX h (sI (sI h 117 p (nI e)) 115 p (nI (s.1 e))) := (Fr.rfl'.sI (by unfold mdX; rw [decide_eq_true hp]; simp)).sI (by unfold mdX; rw [decide_eq_true hp]; simp)
    have K1 := F1.k102
    have ta := s_takesAt d (h := sI (sI h 117 p (nI e)) 115 p (nI (s.1 e))) (fl := fl) S R (by rw [show gI (sI (sI h 117 p (nI e)) 115 p (nI (s.1 e))) am_kept = gI h am_kept from K1]; exact hF) (by rw [show gI (sI (sI h 117 p (nI e)) 115 p (nI (s.1 e))) am_kept = gI h am_kept from K1]; exact B) (p := p) (t := t) (e := e) hp ht he3 (by rw [show gI (sI (sI h 117 p (nI e)) 115 p (nI (s.1 e))) am_kept = gI h am_kept from K1, es]; exact nI_ne (by omega) (by decide) (by omega))
    rw [show gI (sI (sI h 117 p (nI e)) 115 p (nI (s.1 e))) am_kept = gI h am_kept from K1] at ta
    have fe0 : gI (sI h 117 p (nI e)) 118 e = nI (s.1 e) := by rw [gI_ne _ _ _ _ (by decide)]; exact fe
    have fe1 : gI (sI (sI h 117 p (nI e)) 115 p (nI (s.1 e))) 118 e = nI (s.1 e) := by rw [gI_ne _ _ _ _ (by decide)]; exact fe0
    refine Rp.aload_n dX12_calls_0 rfl rfl ?_
    refine Rp.getR dX12_calls_1 fk_X12_24 rfl (S _ _ rfl) (R _ _ _ rfl) ?_
    refine Rp.iconst (nI 0) dX12_calls_4 (by decide) ?_
    refine Rp.iload_n dX12_calls_5 rfl ?_
    first | ((with_reducible show Rp _ _ _ _ (.int (nI _) :: .int (nI _) :: _) _ _); refine Rp.iaddN dX12_calls_6 ?_) | refine Rp.iadd dX12_calls_6 ?_
    first | ((with_reducible show Rp _ _ _ _ (.int (nI _) :: _) _ _); refine Rp.ialoadN dX12_calls_7 (S _ _ rfl) (by omega) ?_) | refine Rp.iaload dX12_calls_7 (S _ _ rfl) (by first | assumption | exact vpb (by decide)) ?_
    first | rw [e0] | rw [fe0] | rw [fe1] | skip
    refine Rp.ist3 dX12_calls_8 (by first | exact nl2_some rfl | exact nl2_none) (by decide) ?_
    refine Rp.aload_n dX12_calls_9 rfl rfl ?_
    refine Rp.aload_n dX12_calls_10 rfl rfl ?_
    refine Rp.getR dX12_calls_11 fk_X12_24 rfl (S _ _ rfl) (R _ _ _ rfl) ?_
    refine Rp.bipush (nI 75) dX12_calls_14 (by decide) ?_
    refine Rp.iload_n dX12_calls_16 rfl ?_
    first | ((with_reducible show Rp _ _ _ _ (.int (nI _) :: .int (nI _) :: _) _ _); refine Rp.iaddN dX12_calls_17 ?_) | refine Rp.iadd dX12_calls_17 ?_
    first | ((with_reducible show Rp _ _ _ _ (.int (nI _) :: _) _ _); refine Rp.ialoadN dX12_calls_18 (S _ _ rfl) (by omega) ?_) | refine Rp.iaload dX12_calls_18 (S _ _ rfl) (by first | assumption | exact vpb (by decide)) ?_
    first | rw [e0] | rw [fe0] | rw [fe1] | skip
    refine Rp.iload_n dX12_calls_19 rfl ?_
    refine Rp.callV2 M_X12_deskFor (ci := 12) dX12_calls_20 mo_X12_deskFor lk_X12_384 (by decide) rfl rfl (S _ _ rfl) (Nat.le_of_ble_eq_true rfl) (Nat.le_of_ble_eq_true rfl) (dk) (fun v1 h1 p1 x1 => ?_)
    rw [p1.1, p1.2]
    try dsimp only [Option.toList, List.cons_append, List.nil_append, List.append]
    refine Rp.ist4 dX12_calls_23 (by first | exact nl2_some rfl | exact nl2_none) (by decide) ?_
    refine Rp.aload_n dX12_calls_25 rfl rfl ?_
    refine Rp.getR dX12_calls_26 fk_X12_74 rfl (S _ _ rfl) (R _ _ _ rfl) ?_
    refine Rp.iload_n dX12_calls_29 rfl ?_
    refine Rp.iload dX12_calls_30 rfl ?_
    first | ((with_reducible show Rp _ _ _ _ (_ :: .int (nI _) :: _) _ _); refine Rp.iastoreN dX12_calls_32 (S _ _ rfl) (by omega) ?_) | refine Rp.iastore dX12_calls_32 (S _ _ rfl) (by first | assumption | exact vpb (by decide)) ?_
    refine Rp.aload_n dX12_calls_33 rfl rfl ?_
    refine Rp.getR dX12_calls_34 fk_X12_68 rfl (S _ _ rfl) (R _ _ _ rfl) ?_
    refine Rp.iload_n dX12_calls_37 rfl ?_
    refine Rp.iload dX12_calls_38 rfl ?_
    refine Rp.iconst (-1) dX12_calls_40 (by decide) ?_
    first | ((with_reducible show Rp _ _ _ _ (.int (nI _) :: .int (nI _) :: _) _ _); refine Rp.icmp_neN (tgt := 48) dX12_calls_41 (by decide) (by omega) (fun c41 => ?_) (fun c41 => ?_)) | refine Rp.icmp_ne (tgt := 48) dX12_calls_41 (by decide) (fun c41 => ?_) (fun c41 => ?_)
    rotate_left
    · exact absurd c41 om
    refine Rp.aload_n dX12_calls_48 rfl rfl ?_
    refine Rp.getR dX12_calls_49 fk_X12_77 rfl (S _ _ rfl) (R _ _ _ rfl) ?_
    refine Rp.iload dX12_calls_52 rfl ?_
    first | ((with_reducible show Rp _ _ _ _ (.int (nI _) :: _) _ _); refine Rp.ialoadN dX12_calls_54 (S _ _ rfl) (by omega) ?_) | refine Rp.iaload dX12_calls_54 (S _ _ rfl) (by first | assumption | exact vpb (by decide)) ?_
    first | rw [e0] | rw [fe0] | rw [fe1] | skip
    first | ((with_reducible show Rp _ _ _ _ (_ :: .int (nI _) :: _) _ _); refine Rp.iastoreN dX12_calls_55 (S _ _ rfl) (by omega) ?_) | refine Rp.iastore dX12_calls_55 (S _ _ rfl) (by first | assumption | exact vpb (by decide)) ?_
    refine Rp.aload_n dX12_calls_56 rfl rfl ?_
    refine Rp.getR dX12_calls_57 fk_X12_71 rfl (S _ _ rfl) (R _ _ _ rfl) ?_
    refine Rp.iload_n dX12_calls_60 rfl ?_
    refine Rp.iload dX12_calls_61 rfl ?_
    refine Rp.iconst (-1) dX12_calls_63 (by decide) ?_
    first | ((with_reducible show Rp _ _ _ _ (.int (nI _) :: .int (nI _) :: _) _ _); refine Rp.icmp_neN (tgt := 71) dX12_calls_64 (by decide) (by omega) (fun c64 => ?_) (fun c64 => ?_)) | refine Rp.icmp_ne (tgt := 71) dX12_calls_64 (by decide) (fun c64 => ?_) (fun c64 => ?_)
    rotate_left
    · exact absurd c64 om
    refine Rp.aload_n dX12_calls_71 rfl rfl ?_
    refine Rp.getR dX12_calls_72 fk_X12_77 rfl (S _ _ rfl) (R _ _ _ rfl) ?_
    refine Rp.iload dX12_calls_75 rfl ?_
    first | ((with_reducible show Rp _ _ _ _ (.int (nI _) :: _) _ _); refine Rp.ialoadN dX12_calls_77 (S _ _ rfl) (by omega) ?_) | refine Rp.iaload dX12_calls_77 (S _ _ rfl) (by first | assumption | exact vpb (by decide)) ?_
    first | rw [e0] | rw [fe0] | rw [fe1] | skip
    refine Rp.aload_n dX12_calls_78 rfl rfl ?_
    refine Rp.iload_n dX12_calls_79 rfl ?_
    refine Rp.iload_n dX12_calls_80 rfl ?_
    refine Rp.iload dX12_calls_81 rfl ?_
    refine Rp.callV3 M_X12_takesAt (ci := 12) dX12_calls_83 mo_X12_takesAt lk_X12_164 (by decide) rfl rfl (S _ _ rfl) (Nat.le_of_ble_eq_true rfl) (Nat.le_of_ble_eq_true rfl) (ta) (fun v1 h1 p1 x1 => ?_)
    obtain ⟨F2, rfl⟩ := p1
    try dsimp only [Option.toList, List.cons_append, List.nil_append, List.append]
    skip
    have S2 := F2.S S
    have R2 := F2.R (F1.R R (by decide)) (by decide)
    have e116 : gI (sI h1 116 p (nI (s.1 e + oTk (gI h am_kept) fl p t e))) 116 p = nI (s.1 e + oTk (gI h am_kept) fl p t e) := gI_hit _ _ _ _
    have F3 : Fr mdX h (sI (sI h1 116 p (nI (s.1 e + oTk (gI h am_kept) fl p t e))) 118 e (nI (s.1 e + oTk (gI h am_kept) fl p t e))) := ((F1.trans (mdX_t F2)).sI (by unfold mdX; rw [decide_eq_true hp]; simp)).sI (by unfold mdX; rw [decide_eq_true he3]; simp)
    have Y3 : DYm (sI (sI h1 116 p (nI (s.1 e + oTk (gI h am_kept) fl p t e))) 118 e (nI (s.1 e + oTk (gI h am_kept) fl p t e))) (upN s.1 e (s.1 e + oTk (gI h am_kept) fl p t e), upK s.2.1 p (nI (s.1 e)), upK s.2.2.1 p (nI (s.1 e + oTk (gI h am_kept) fl p t e)), upK s.2.2.2 p (nI e)) := by
      refine ⟨fun x hx => ?_, fun x hx => ?_, fun x hx => ?_, fun x hx => ?_⟩
      · dsimp only
        unfold upN
        by_cases z : x = e
        · rw [z, gI_hit, if_pos rfl]
        · rw [gI_off _ _ _ z, if_neg z, gI_ne _ _ _ _ (by decide), F2.I 118 x rfl, gI_ne _ _ _ _ (by decide), gI_ne _ _ _ _ (by decide)]; exact Y.1 x hx
      · dsimp only
        unfold upK
        rw [gI_ne _ _ _ _ (by decide), gI_ne _ _ _ _ (by decide), F2.I 115 x rfl]
        by_cases z : x = p
        · rw [z, gI_hit, if_pos rfl]
        · rw [gI_off _ _ _ z, if_neg z, gI_ne _ _ _ _ (by decide)]; exact Y.2.1 x hx
      · dsimp only
        unfold upK
        rw [gI_ne _ _ _ _ (by decide)]
        by_cases z : x = p
        · rw [z, gI_hit, if_pos rfl]
        · rw [gI_off _ _ _ z, if_neg z, F2.I 116 x rfl, gI_ne _ _ _ _ (by decide), gI_ne _ _ _ _ (by decide)]; exact Y.2.2.1 x hx
      · dsimp only
        unfold upK
        rw [gI_ne _ _ _ _ (by decide), gI_ne _ _ _ _ (by decide), F2.I 117 x rfl, gI_ne _ _ _ _ (by decide)]
        by_cases z : x = p
        · rw [z, gI_hit, if_pos rfl]
        · rw [gI_off _ _ _ z, if_neg z]; exact Y.2.2.2 x hx
    first | ((with_reducible show Rp _ _ _ _ (.int (nI _) :: .int (nI _) :: _) _ _); refine Rp.iaddN dX12_calls_86 ?_) | refine Rp.iadd dX12_calls_86 ?_
    first | ((with_reducible show Rp _ _ _ _ (_ :: .int (nI _) :: _) _ _); refine Rp.iastoreN dX12_calls_87 (S2 _ _ rfl) (by omega) ?_) | refine Rp.iastore dX12_calls_87 (S2 _ _ rfl) (by first | assumption | exact vpb (by decide)) ?_
    refine Rp.iload dX12_calls_88 rfl ?_
    refine Rp.iconst (-1) dX12_calls_90 (by decide) ?_
    first | ((with_reducible show Rp _ _ _ _ (.int (nI _) :: .int (nI _) :: _) _ _); refine Rp.icmp_eqN (tgt := 107) dX12_calls_91 (by decide) (by omega) (fun c91 => ?_) (fun c91 => ?_)) | refine Rp.icmp_eq (tgt := 107) dX12_calls_91 (by decide) (fun c91 => ?_) (fun c91 => ?_)
    · skip
      exact absurd c91 om
    · skip
      refine Rp.aload_n dX12_calls_94 rfl rfl ?_
      refine Rp.getR dX12_calls_95 fk_X12_77 rfl (S2 _ _ rfl) (R2 _ _ _ rfl) ?_
      refine Rp.iload dX12_calls_98 rfl ?_
      refine Rp.aload_n dX12_calls_100 rfl rfl ?_
      refine Rp.getR dX12_calls_101 fk_X12_71 rfl (S2 _ _ rfl) (R2 _ _ _ rfl) ?_
      refine Rp.iload_n dX12_calls_104 rfl ?_
      first | ((with_reducible show Rp _ _ _ _ (.int (nI _) :: _) _ _); refine Rp.ialoadN dX12_calls_105 (S2 _ _ rfl) (by omega) ?_) | refine Rp.iaload dX12_calls_105 (S2 _ _ rfl) (by first | assumption | exact vpb (by decide)) ?_
      first | rw [e116] | skip
      first | ((with_reducible show Rp _ _ _ _ (_ :: .int (nI _) :: _) _ _); refine Rp.iastoreN dX12_calls_106 (S2 _ _ rfl) (by omega) ?_) | refine Rp.iastore dX12_calls_106 (S2 _ _ rfl) (by first | assumption | exact vpb (by decide)) ?_
      refine Rp.vreturn dX12_calls_107 rfl ?_
      exact ⟨rfl, F3, Y3⟩
/-- what a day of the reference is laid over -/
def MBd (h : AH) (fl : Option (List CLE)) (np nt nd : Nat) : Prop := ShOK h ∧ RfOK h ∧ FlK (gI h am_kept) fl ∧ KB (gI h am_kept) ∧ VD (gI h am_kept) nd ∧ gI h am_kept 105 = nI nd ∧ VN (gI h am_kept) nt ∧ VH (gI h am_kept) np nt ∧ gI h am_kept 103 = nI np
theorem MBd.fr {h g : AH} (B : MBd h fl np nt nd) (F : Fr mdX h g) : MBd g fl np nt nd := by
  have e : gI g am_kept = gI h am_kept := F.k102
  obtain ⟨b1, b2, b3, b4, b5, b6, b7, b8, b9⟩ := B
  exact ⟨F.S b1, F.R b2 (by decide), by rw [e]; exact b3, by rw [e]; exact b4, by rw [e]; exact b5, by rw [e]; exact b6, by rw [e]; exact b7, by rw [e]; exact b8, by rw [e]; exact b9⟩
theorem lay61 (B0 : MBd h fl np nt nd) {op : Int32} (hst : ∀ e, e < nd → st e = bitB op (nI e)) : ∀ (m x : Nat) (o : Option Nat) (g : AH), 100 ≤ x + m → x ≤ 99 → NX (gI h am_kept) (gI h am_kept) np x o → Fr mdX h g → DYm g (dayF (gI h am_kept) fl nd np nt st (gI h am_kept) (x + 1)) → Rp (d + 77) M_X12_laysDay 61 [some (.ref aM), some (.int op), some (.int (oI o))] [] g (fun r h' => r = none ∧ Fr mdX h h' ∧ DYm h' (dayF (gI h am_kept) fl nd np nt st (gI h am_kept) 100)) := by
  intro m
  induction m with
  | zero => intro x o g h1 h2; omega
  | succ m ih =>
    intro x o g h1 h2 hN F Y
    have B := B0.fr F
    have eK : gI g am_kept = gI h am_kept := F.k102
    obtain ⟨S, R, hF, KBk, VDd, hD, V, VHh, hM⟩ := B
    obtain ⟨v1, v2, v3, v4⟩ := VHh
    have V0 := B0.2.2.2.2.2.2.1
    have hold : ∀ u, u < nt → hOf (gI h am_kept) (nI u) np ≠ -1 → ∃ q, q < np ∧ gI h am_kept q = nI u := fun u hu hh => by
      obtain ⟨w, hw, -, fw⟩ := hOf_get np hh
      exact ⟨w, hw, fw⟩
    match o, hN with
    | none, hN =>
      have ed : dayF (gI h am_kept) fl nd np nt st (gI h am_kept) 100 = dayF (gI h am_kept) fl nd np nt st (gI h am_kept) (x + 1) := by
        have := dayF_skips (K := gI h am_kept) (fl := fl) (nd := nd) (np := np) (nt := nt) (st := st) (hs := gI h am_kept) (x := x + 1) (99 - x) (fun u hu y y1 y2 e => by
          by_cases z : hOf (gI h am_kept) (nI u) np = -1
          · exact z
          · obtain ⟨q, hq, eq⟩ := hold u hu z
            have := hN q hq (by rw [eq]; exact nI_m1 (by omega))
            rw [eq, ix_nI (by omega)] at this
            rw [(V0.n hu).1, i32_eq, nI_toInt (by have := (V0.n hu).2.2; omega), nI_toInt (by omega)] at e
            omega)
        rw [show x + 1 + (99 - x) = 100 by omega] at this
        exact this
      rw [ed]
      dsimp only [oI]
      refine Rp.iload_n dX12_laysDay_61 rfl ?_
      refine Rp.iconst (-1) dX12_laysDay_62 (by decide) ?_
      first | ((with_reducible show Rp _ _ _ _ (.int (nI _) :: .int (nI _) :: _) _ _); refine Rp.icmp_eqN (tgt := 96) dX12_laysDay_63 (by decide) (by omega) (fun c63 => ?_) (fun c63 => ?_)) | refine Rp.icmp_eq (tgt := 96) dX12_laysDay_63 (by decide) (fun c63 => ?_) (fun c63 => ?_)
      · skip
        refine Rp.vreturn dX12_laysDay_96 rfl ?_
        exact ⟨rfl, F, Y⟩
      · skip
        exact absurd rfl c63
    | some p, hN =>
      obtain ⟨hp, hp2, hp3, hp4⟩ := hN
      rw [eK] at v3 v4
      obtain ⟨t, ht, et⟩ := ((v3 p (by omega)).resolve_left hp2).2
      rw [et, ix_nI (by omega)] at hp3 hp4
      have nb := (V0.n ht).2
      have hO : hOf (gI h am_kept) (nI t) np = nI p := hOf_one et np hp (fun q hq e => v4 q p hq hp (e.trans et.symm) (by rw [e]; exact nI_m1 (by omega)))
      have om : ¬ nI p = -1 := nI_m1 (by omega)
      have ed : dayF (gI h am_kept) fl nd np nt st (gI h am_kept) (nmb (gI h am_kept) t) = dayF (gI h am_kept) fl nd np nt st (gI h am_kept) (x + 1) := by
        have := dayF_skips (K := gI h am_kept) (fl := fl) (nd := nd) (np := np) (nt := nt) (st := st) (hs := gI h am_kept) (x := x + 1) (nmb (gI h am_kept) t - (x + 1)) (fun u hu y y1 y2 e => by
          by_cases z : hOf (gI h am_kept) (nI u) np = -1
          · exact z
          · obtain ⟨q, hq, eq⟩ := hold u hu z
            rw [(V0.n hu).1, i32_eq, nI_toInt (by have := (V0.n hu).2.2; omega), nI_toInt (by omega)] at e
            have := hp4 q hq (by rw [eq]; exact nI_m1 (by omega)) (by rw [eq, ix_nI (by omega)]; omega)
            rw [eq, ix_nI (by omega)] at this
            omega)
        rw [show x + 1 + (nmb (gI h am_kept) t - (x + 1)) = nmb (gI h am_kept) t by omega] at this
        exact this
      have e2 : dayF (gI h am_kept) fl nd np nt st (gI h am_kept) (nmb (gI h am_kept) t + 1) = stp (gI h am_kept) fl nd st (dayF (gI h am_kept) fl nd np nt st (gI h am_kept) (x + 1)) p t := by
        rw [dayF_call V0 ht (by rw [hO]; exact om), ed, hO, ix_nI (by omega)]
      have un := dayF_un (fl := fl) (nd := nd) (st := st) (hs := gI h am_kept) V0 v1 ht et (x + 1) (by omega)
      have cl := s_calls d S R hF KBk VDd hD hst Y (fun e => by have := dayF_free (K := gI h am_kept) (fl := fl) (nd := nd) (np := np) (nt := nt) (st := st) (hs := gI h am_kept) (x + 1) e; omega) (p := p) (t := t) (by omega) (by omega) (by rw [eK]; exact et) un
      rw [eK, ← e2] at cl
      dsimp only [oI]
      refine Rp.iload_n dX12_laysDay_61 rfl ?_
      refine Rp.iconst (-1) dX12_laysDay_62 (by decide) ?_
      first | ((with_reducible show Rp _ _ _ _ (.int (nI _) :: .int (nI _) :: _) _ _); refine Rp.icmp_eqN (tgt := 96) dX12_laysDay_63 (by decide) (by omega) (fun c63 => ?_) (fun c63 => ?_)) | refine Rp.icmp_eq (tgt := 96) dX12_laysDay_63 (by decide) (fun c63 => ?_) (fun c63 => ?_)
      · exact absurd c63 om
      refine Rp.aload_n dX12_laysDay_66 rfl rfl ?_
      refine Rp.iload_n dX12_laysDay_67 rfl ?_
      refine Rp.iload_n dX12_laysDay_68 rfl ?_
      refine Rp.callV2 M_X12_calls (ci := 12) dX12_laysDay_69 mo_X12_calls lk_X12_390 (by decide) rfl rfl (S _ _ rfl) (Nat.le_of_ble_eq_true rfl) (Nat.le_of_ble_eq_true rfl) (cl) (fun v1 h1 p1 x1 => ?_)
      obtain ⟨rfl, F2, Y2⟩ := p1
      try dsimp only [Option.toList, List.cons_append, List.nil_append, List.append]
      skip
      have F3 := F.trans F2
      have B3 := B0.fr F3
      have eK3 : gI h1 am_kept = gI h am_kept := F3.k102
      obtain ⟨S3, R3, hF3, KB3, VD3, hD3, V3, VH3, hM3⟩ := B3
      have e0 : gI h1 am_kept (0 + p) = nI t := by rw [Nat.zero_add, eK3]; exact et
      have en : gI h1 am_kept (67 + t) = nI (nmb (gI h am_kept) t) := by rw [eK3]; exact (V0.n ht).1
      have nx := s_nextCalled (d + 75) S3 R3 V3 VH3 hM3 (x := nmb (gI h am_kept) t) (by omega)
      rw [eK3] at nx
      refine Rp.aload_n dX12_laysDay_72 rfl rfl ?_
      refine Rp.aload_n dX12_laysDay_73 rfl rfl ?_
      refine Rp.getR dX12_laysDay_74 fk_X12_24 rfl (S3 _ _ rfl) (R3 _ _ _ rfl) ?_
      refine Rp.bipush (nI 67) dX12_laysDay_77 (by decide) ?_
      refine Rp.aload_n dX12_laysDay_79 rfl rfl ?_
      refine Rp.getR dX12_laysDay_80 fk_X12_24 rfl (S3 _ _ rfl) (R3 _ _ _ rfl) ?_
      refine Rp.iconst (nI 0) dX12_laysDay_83 (by decide) ?_
      refine Rp.iload_n dX12_laysDay_84 rfl ?_
      first | ((with_reducible show Rp _ _ _ _ (.int (nI _) :: .int (nI _) :: _) _ _); refine Rp.iaddN dX12_laysDay_85 ?_) | refine Rp.iadd dX12_laysDay_85 ?_
      first | ((with_reducible show Rp _ _ _ _ (.int (nI _) :: _) _ _); refine Rp.ialoadN dX12_laysDay_86 (S3 _ _ rfl) (by omega) ?_) | refine Rp.iaload dX12_laysDay_86 (S3 _ _ rfl) (by first | assumption | exact vpb (by decide)) ?_
      first | rw [e0] | rw [en] | skip
      first | ((with_reducible show Rp _ _ _ _ (.int (nI _) :: .int (nI _) :: _) _ _); refine Rp.iaddN dX12_laysDay_87 ?_) | refine Rp.iadd dX12_laysDay_87 ?_
      first | ((with_reducible show Rp _ _ _ _ (.int (nI _) :: _) _ _); refine Rp.ialoadN dX12_laysDay_88 (S3 _ _ rfl) (by omega) ?_) | refine Rp.iaload dX12_laysDay_88 (S3 _ _ rfl) (by first | assumption | exact vpb (by decide)) ?_
      first | rw [e0] | rw [en] | skip
      refine Rp.callV1 M_X12_nextCalled (ci := 12) dX12_laysDay_89 mo_X12_nextCalled lk_X12_387 (by decide) rfl rfl (S3 _ _ rfl) (Nat.le_of_ble_eq_true rfl) (Nat.le_of_ble_eq_true rfl) (nx) (fun v1 h1 p1 x1 => ?_)
      obtain ⟨rfl, o2, rfl, hN2⟩ := p1
      try dsimp only [Option.toList, List.cons_append, List.nil_append, List.append]
      refine Rp.ist2 dX12_laysDay_92 (by first | exact nl2_some rfl | exact nl2_none) (by decide) ?_
      refine Rp.goto (tgt := 61) dX12_laysDay_93 (by decide) ?_
      exact ih (nmb (gI h am_kept) t) o2 _ (by omega) (by omega) hN2 F3 Y2
end Mc2
