section CTi
variable (d : Nat) {h : AH}
theorem addTicket_loop {P : Option Value → AH → Prop} (S : ShOK h) (R : RfOK h) (x k : Int32) {nt : Nat} (ht : nt ≤ 8) (hM : gI h at_hall fhall_tickets = nI nt) (hk : nOf (fun i => gI h (at_hall + 5) i) x 0 nt = false → Rp d M_X2_addTicket 51 [some (.ref at_hall), some (.int x), some (.int k), some (.int (nI nt))] [] h P) : ∀ (m t : Nat), t + m = nt → nOf (fun i => gI h (at_hall + 5) i) x 0 nt = nOf (fun i => gI h (at_hall + 5) i) x t m → Rp d M_X2_addTicket 24 [some (.ref at_hall), some (.int x), some (.int k), some (.int (nI t))] [] h (fun r h' => (nOf (fun i => gI h (at_hall + 5) i) x 0 nt = true → r = some (.int (-nI 3)) ∧ h' = h) ∧ (nOf (fun i => gI h (at_hall + 5) i) x 0 nt = false → P r h')) := by
  intro m
  induction m with
  | zero =>
    intro t htm hn
    have e : t = nt := by omega
    subst e
    rw [nOf] at hn
    have k2 := hk hn
    refine Rp.iload_n dX2_addTicket_24 rfl ?_
    refine Rp.aload_n dX2_addTicket_25 rfl rfl ?_
    refine Rp.getI dX2_addTicket_26 fk_X2_80 rfl (S _ _ rfl) ?_
    rw [show gI h 1 5 = nI t from hM]
    first | ((with_reducible show Rp _ _ _ _ (.int (nI _) :: .int (nI _) :: _) _ _); refine Rp.icmp_geN (tgt := 51) dX2_addTicket_29 (by decide) (by omega) (fun c29 => ?_) (fun c29 => ?_)) | refine Rp.icmp_ge (tgt := 51) dX2_addTicket_29 (by decide) (fun c29 => ?_) (fun c29 => ?_)
    · skip
      exact Rp.mono (fun r h2 q => ⟨(fun z => by rw [hn] at z; cases z), fun _ => q⟩) k2
    · skip
      exact absurd (Nat.le_refl t) c29
  | succ m ih =>
    intro t htm hn
    refine Rp.iload_n dX2_addTicket_24 rfl ?_
    refine Rp.aload_n dX2_addTicket_25 rfl rfl ?_
    refine Rp.getI dX2_addTicket_26 fk_X2_80 rfl (S _ _ rfl) ?_
    rw [show gI h 1 5 = nI nt from hM]
    first | ((with_reducible show Rp _ _ _ _ (.int (nI _) :: .int (nI _) :: _) _ _); refine Rp.icmp_geN (tgt := 51) dX2_addTicket_29 (by decide) (by omega) (fun c29 => ?_) (fun c29 => ?_)) | refine Rp.icmp_ge (tgt := 51) dX2_addTicket_29 (by decide) (fun c29 => ?_) (fun c29 => ?_)
    · skip
      exact absurd c29 (by omega)
    · skip
      refine Rp.aload_n dX2_addTicket_32 rfl rfl ?_
      refine Rp.getR dX2_addTicket_33 fk_X2_24 rfl (S _ _ rfl) (R _ _ _ rfl) ?_
      refine Rp.iload_n dX2_addTicket_36 rfl ?_
      first | ((with_reducible show Rp _ _ _ _ (.int (nI _) :: _) _ _); refine Rp.ialoadN dX2_addTicket_37 (S _ _ rfl) (by omega) ?_) | refine Rp.iaload dX2_addTicket_37 (S _ _ rfl) (by first | assumption | exact vpb (by decide)) ?_
      refine Rp.iload_n dX2_addTicket_38 rfl ?_
      first | ((with_reducible show Rp _ _ _ _ (.int (nI _) :: .int (nI _) :: _) _ _); refine Rp.icmp_neN (tgt := 45) dX2_addTicket_39 (by decide) (by omega) (fun c39 => ?_) (fun c39 => ?_)) | refine Rp.icmp_ne (tgt := 45) dX2_addTicket_39 (by decide) (fun c39 => ?_) (fun c39 => ?_)
      · skip
        first | ((with_reducible show Rp _ _ _ (_ :: _ :: _ :: some (.int (nI _)) :: _) _ _ _); refine Rp.inc3N (c := 1) dX2_addTicket_45 (by first | exact nl2_some rfl | exact nl2_none) (by decide) ?_) | refine Rp.inc3 _ dX2_addTicket_45 rfl (by first | exact nl2_some rfl | exact nl2_none) (by decide) ?_
        refine Rp.goto (tgt := 24) dX2_addTicket_48 (by decide) ?_
        exact ih (t + 1) (by omega) (by rw [hn, nOf, show decide (gI h (at_hall + 5) t = x) = false from decide_eq_false c39, Bool.false_or])
      · skip
        refine Rp.bipush (-3) dX2_addTicket_42 (by decide) ?_
        refine Rp.ireturn dX2_addTicket_44 rfl ?_
        refine ⟨fun _ => ⟨rfl, rfl⟩, fun z => ?_⟩
        rw [hn, nOf, show decide (gI h (at_hall + 5) t = x) = true from decide_eq_true c39, Bool.true_or] at z
        cases z
abbrev numC (h : AH) (x : Int32) (nt : Nat) : Bool := nOf (fun i => gI h (at_hall + 5) i) x 0 nt
abbrev tkH (h : AH) (x k : Int32) (nt : Nat) : AH := sI (sI (sI h (at_hall + 5) nt x) (at_hall + 6) nt k) at_hall fhall_tickets (nI (nt + 1))
def cTik (h : AH) (x k : Int32) (nt : Nat) : Int32 × AH := if canT x k then (if numC h x nt then (-nI 3, h) else if nt = 8 then (-nI 5, h) else (nI nt, tkH h x k nt)) else (-nI 1, h)
theorem addTicket_end (S : ShOK h) (R : RfOK h) (x k : Int32) {nt : Nat} (ht : nt ≤ 8) (hM : gI h at_hall fhall_tickets = nI nt) : Rp d M_X2_addTicket 51 [some (.ref at_hall), some (.int x), some (.int k), some (.int (nI nt))] [] h (fun r h' => (nt = 8 → r = some (.int (-nI 5)) ∧ h' = h) ∧ (¬ nt = 8 → r = some (.int (nI nt)) ∧ h' = tkH h x k nt)) := by
  refine Rp.aload_n dX2_addTicket_51 rfl rfl ?_
  refine Rp.getI dX2_addTicket_52 fk_X2_80 rfl (S _ _ rfl) ?_
  rw [show gI h 1 5 = nI nt from hM]
  refine Rp.bipush (nI 8) dX2_addTicket_55 (by decide) ?_
  first | ((with_reducible show Rp _ _ _ _ (.int (nI _) :: .int (nI _) :: _) _ _); refine Rp.icmp_ltN (tgt := 63) dX2_addTicket_57 (by decide) (by omega) (fun c57 => ?_) (fun c57 => ?_)) | refine Rp.icmp_lt (tgt := 63) dX2_addTicket_57 (by decide) (fun c57 => ?_) (fun c57 => ?_)
  · skip
    refine Rp.aload_n dX2_addTicket_63 rfl rfl ?_
    refine Rp.getR dX2_addTicket_64 fk_X2_24 rfl (S _ _ rfl) (R _ _ _ rfl) ?_
    refine Rp.aload_n dX2_addTicket_67 rfl rfl ?_
    refine Rp.getI dX2_addTicket_68 fk_X2_80 rfl (S _ _ rfl) ?_
    rw [show gI h 1 5 = nI nt from hM]
    refine Rp.iload_n dX2_addTicket_71 rfl ?_
    first | ((with_reducible show Rp _ _ _ _ (_ :: .int (nI _) :: _) _ _); refine Rp.iastoreN dX2_addTicket_72 (S _ _ rfl) (by omega) ?_) | refine Rp.iastore dX2_addTicket_72 (S _ _ rfl) (by first | assumption | exact vpb (by decide)) ?_
    refine Rp.aload_n dX2_addTicket_73 rfl rfl ?_
    refine Rp.getR dX2_addTicket_74 fk_X2_27 rfl (S _ _ rfl) (R _ _ _ rfl) ?_
    refine Rp.aload_n dX2_addTicket_77 rfl rfl ?_
    refine Rp.getI dX2_addTicket_78 fk_X2_80 rfl (S _ _ rfl) ?_
    rw [show gI (sI h 6 nt x) 1 5 = nI nt from hM]
    refine Rp.iload_n dX2_addTicket_81 rfl ?_
    first | ((with_reducible show Rp _ _ _ _ (_ :: .int (nI _) :: _) _ _); refine Rp.iastoreN dX2_addTicket_82 (S _ _ rfl) (by omega) ?_) | refine Rp.iastore dX2_addTicket_82 (S _ _ rfl) (by first | assumption | exact vpb (by decide)) ?_
    refine Rp.aload_n dX2_addTicket_83 rfl rfl ?_
    refine Rp.dup dX2_addTicket_84 rfl ?_
    refine Rp.getI dX2_addTicket_85 fk_X2_80 rfl (S _ _ rfl) ?_
    rw [show gI (sI (sI h 6 nt x) 7 nt k) 1 5 = nI nt from hM]
    refine Rp.iconst (nI 1) dX2_addTicket_88 (by decide) ?_
    first | ((with_reducible show Rp _ _ _ _ (.int (nI _) :: .int (nI _) :: _) _ _); refine Rp.iaddN dX2_addTicket_89 ?_) | refine Rp.iadd dX2_addTicket_89 ?_
    refine Rp.putI dX2_addTicket_90 fk_X2_80w rfl (S _ _ rfl) ?_
    refine Rp.aload_n dX2_addTicket_93 rfl rfl ?_
    refine Rp.getI dX2_addTicket_94 fk_X2_80 rfl (S _ _ rfl) ?_
    rw [show gI (sI (sI (sI h 6 nt x) 7 nt k) 1 5 (nI (nt + 1))) 1 5 = nI (nt + 1) from rfl]
    refine Rp.iconst (nI 1) dX2_addTicket_97 (by decide) ?_
    first | ((with_reducible show Rp _ _ _ _ (.int (nI _) :: .int (nI _) :: _) _ _); refine Rp.isubN dX2_addTicket_98 (by omega) ?_) | refine Rp.isub dX2_addTicket_98 ?_
    rw [show nt + 1 - 1 = nt by omega]
    refine Rp.ireturn dX2_addTicket_99 rfl ?_
    exact ⟨fun z => absurd z (by omega), fun _ => ⟨rfl, rfl⟩⟩
  · skip
    refine Rp.bipush (-5) dX2_addTicket_60 (by decide) ?_
    refine Rp.ireturn dX2_addTicket_62 rfl ?_
    exact ⟨fun _ => ⟨rfl, rfl⟩, fun z => absurd (show nt = 8 by omega) z⟩
theorem can_l {x : Int32} (k : Int32) (h : x < nI 1) : canT x k = false := by
  unfold canT
  rw [decide_eq_false (fun z => by simp only [i32_lt, i32_le] at *; omega), Bool.false_and]
theorem can_g {x : Int32} (k : Int32) (h : nI 99 < x) : canT x k = false := by
  unfold canT
  rw [decide_eq_false (fun z => by simp only [i32_lt, i32_le] at *; omega), Bool.false_and]
theorem can_t {x k : Int32} (h1 : ¬ x < nI 1) (h2 : ¬ nI 99 < x) : canT x k = inN k 5 := by
  unfold canT
  rw [decide_eq_true ⟨by simp only [i32_lt, i32_le] at *; omega, by simp only [i32_lt, i32_le] at *; omega⟩, Bool.true_and]
theorem t_addTicket (S : ShOK h) (R : RfOK h) (x k : Int32) {nt : Nat} (ht : nt ≤ 8) (hM : gI h at_hall fhall_tickets = nI nt) : Rp d M_X2_addTicket 0 [some (.ref at_hall), some (.int x), some (.int k), none] [] h (fun r h' => h' = (cTik h x k nt).2 ∧ r = some (.int (cTik h x k nt).1)) := by
  refine Rp.iload_n dX2_addTicket_0 rfl ?_
  refine Rp.iconst (nI 1) dX2_addTicket_1 (by decide) ?_
  first | ((with_reducible show Rp _ _ _ _ (.int (nI _) :: .int (nI _) :: _) _ _); refine Rp.icmp_ltN (tgt := 20) dX2_addTicket_2 (by decide) (by omega) (fun c2 => ?_) (fun c2 => ?_)) | refine Rp.icmp_lt (tgt := 20) dX2_addTicket_2 (by decide) (fun c2 => ?_) (fun c2 => ?_)
  · skip
    refine Rp.iconst (-1) dX2_addTicket_20 (by decide) ?_
    refine Rp.ireturn dX2_addTicket_21 rfl ?_
    unfold cTik
    first | (rw [can_l k c2]; exact ⟨rfl, rfl⟩) | (rw [can_g k c8]; exact ⟨rfl, rfl⟩) | (rw [can_t c2 c8, inN_tl c12]; exact ⟨rfl, rfl⟩) | (rw [can_t c2 c8, inN_tnle (by decide) c17]; exact ⟨rfl, rfl⟩)
  · skip
    refine Rp.iload_n dX2_addTicket_5 rfl ?_
    refine Rp.bipush (nI 99) dX2_addTicket_6 (by decide) ?_
    first | ((with_reducible show Rp _ _ _ _ (.int (nI _) :: .int (nI _) :: _) _ _); refine Rp.icmp_gtN (tgt := 20) dX2_addTicket_8 (by decide) (by omega) (fun c8 => ?_) (fun c8 => ?_)) | refine Rp.icmp_gt (tgt := 20) dX2_addTicket_8 (by decide) (fun c8 => ?_) (fun c8 => ?_)
    · skip
      refine Rp.iconst (-1) dX2_addTicket_20 (by decide) ?_
      refine Rp.ireturn dX2_addTicket_21 rfl ?_
      unfold cTik
      first | (rw [can_l k c2]; exact ⟨rfl, rfl⟩) | (rw [can_g k c8]; exact ⟨rfl, rfl⟩) | (rw [can_t c2 c8, inN_tl c12]; exact ⟨rfl, rfl⟩) | (rw [can_t c2 c8, inN_tnle (by decide) c17]; exact ⟨rfl, rfl⟩)
    · skip
      refine Rp.iload_n dX2_addTicket_11 rfl ?_
      refine Rp.if_lt (tgt := 20) dX2_addTicket_12 (by decide) (fun c12 => ?_) (fun c12 => ?_)
      · skip
        refine Rp.iconst (-1) dX2_addTicket_20 (by decide) ?_
        refine Rp.ireturn dX2_addTicket_21 rfl ?_
        unfold cTik
        first | (rw [can_l k c2]; exact ⟨rfl, rfl⟩) | (rw [can_g k c8]; exact ⟨rfl, rfl⟩) | (rw [can_t c2 c8, inN_tl c12]; exact ⟨rfl, rfl⟩) | (rw [can_t c2 c8, inN_tnle (by decide) c17]; exact ⟨rfl, rfl⟩)
      · skip
        refine Rp.iload_n dX2_addTicket_15 rfl ?_
        refine Rp.iconst (nI 4) dX2_addTicket_16 (by decide) ?_
        first | ((with_reducible show Rp _ _ _ _ (.int (nI _) :: .int (nI _) :: _) _ _); refine Rp.icmp_leN (tgt := 22) dX2_addTicket_17 (by decide) (by omega) (fun c17 => ?_) (fun c17 => ?_)) | refine Rp.icmp_le (tgt := 22) dX2_addTicket_17 (by decide) (fun c17 => ?_) (fun c17 => ?_)
        · skip
          refine Rp.iconst (nI 0) dX2_addTicket_22 (by decide) ?_
          refine Rp.ist3 dX2_addTicket_23 (by first | exact nl2_some rfl | exact nl2_none) (by decide) ?_
          have hcan : canT x k = true := by rw [can_t c2 c8]; exact inN_tle (by decide) c12 c17
          refine Rp.mono (fun r h2 q => ?_) (addTicket_loop d S R x k ht hM (fun _ => addTicket_end d S R x k ht hM) nt 0 (by omega) rfl)
          unfold cTik
          rw [hcan]
          by_cases e1 : numC h x nt = true
          · rw [e1]
            exact ⟨(q.1 e1).2, (q.1 e1).1⟩
          · have e2 : numC h x nt = false := by simpa using e1
            have q2 := q.2 e2
            rw [e2]
            by_cases e3 : nt = 8
            · rw [if_pos rfl, if_neg (by decide), if_pos e3]
              exact ⟨(q2.1 e3).2, (q2.1 e3).1⟩
            · rw [if_pos rfl, if_neg (by decide), if_neg e3]
              exact ⟨(q2.2 e3).2, (q2.2 e3).1⟩
        · skip
          refine Rp.iconst (-1) dX2_addTicket_20 (by decide) ?_
          refine Rp.ireturn dX2_addTicket_21 rfl ?_
          unfold cTik
          first | (rw [can_l k c2]; exact ⟨rfl, rfl⟩) | (rw [can_g k c8]; exact ⟨rfl, rfl⟩) | (rw [can_t c2 c8, inN_tl c12]; exact ⟨rfl, rfl⟩) | (rw [can_t c2 c8, inN_tnle (by decide) c17]; exact ⟨rfl, rfl⟩)
theorem t_ticket_r (S : ShOK h) (R : RfOK h) (x k : Int32) {nt : Nat} (ht : nt ≤ 8) (hM : gI h at_hall fhall_tickets = nI nt) {j : Nat} (hk : j = 1 ∨ j = 2 ∨ j = 3 ∨ j = 5 ∨ j = 6) (hc : cTik h x k nt = (-nI j, h)) : Rp (d + 2) M_X11_ticket 0 [some (.ref 0), some (.int x), some (.int k), none] [] h (fun r h' => h' = rcH h j ∧ r = some (.int (-nI j))) := by
  have hn := neg_lt hk
  refine Rp.aload_n dX11_ticket_0 rfl rfl ?_
  refine Rp.getR dX11_ticket_1 fk_X11_10 rfl (S _ _ rfl) (R _ _ _ rfl) ?_
  refine Rp.iload_n dX11_ticket_4 rfl ?_
  refine Rp.iload_n dX11_ticket_5 rfl ?_
  refine Rp.callV2 M_X2_addTicket (ci := 2) dX11_ticket_6 mo_X2_addTicket lk_X11_149 (by decide) rfl rfl (S _ _ rfl) (Nat.le_of_ble_eq_true rfl) (Nat.le_of_ble_eq_true rfl) (t_addTicket (d + 1) S R x k ht hM) (fun v1 h1 p1 x1 => ?_)
  rw [p1.1, p1.2, hc]
  try dsimp only [Option.toList, List.cons_append, List.nil_append, List.append]
  refine Rp.ist3 dX11_ticket_9 (by first | exact nl2_some rfl | exact nl2_none) (by decide) ?_
  refine Rp.iload_n dX11_ticket_10 rfl ?_
  refine Rp.if_ge (tgt := 20) dX11_ticket_11 (by decide) (fun c11 => ?_) (fun c11 => ?_)
  · skip
    exact absurd c11 hn
  · skip
    refine Rp.aload_n dX11_ticket_14 rfl rfl ?_
    refine Rp.iload_n dX11_ticket_15 rfl ?_
    refine Rp.callV1 M_X11_refused (ci := 11) dX11_ticket_16 mo_X11_refused lk_X11_109 (by decide) rfl rfl (S _ _ rfl) (Nat.le_of_ble_eq_true rfl) (Nat.le_of_ble_eq_true rfl) (t_refused (d + 1) S R j hk) (fun v1 h1 p1 x1 => ?_)
    rw [p1.1, p1.2]
    try dsimp only [Option.toList, List.cons_append, List.nil_append, List.append]
    refine Rp.ireturn dX11_ticket_19 rfl ?_
    exact ⟨rfl, rfl⟩
theorem t_ticket_g (S : ShOK h) (R : RfOK h) (x k : Int32) {nt : Nat} (ht : nt ≤ 8) (hM : gI h at_hall fhall_tickets = nI nt) {v : Nat} {H : AH} (hv : v < 8) (hS : ShOK H) (hR : RfOK H) (hc : cTik h x k nt = (nI v, H)) : Rp (d + 2) M_X11_ticket 0 [some (.ref 0), some (.int x), some (.int k), none] [] h (fun r h' => h' = acH (clr H) ∧ r = some (.int (nI v))) := by
  have hn : (0 : Int32) ≤ nI v := by rw [← nI_0]; exact nI_le (Nat.zero_le v) (by omega)
  refine Rp.aload_n dX11_ticket_0 rfl rfl ?_
  refine Rp.getR dX11_ticket_1 fk_X11_10 rfl (S _ _ rfl) (R _ _ _ rfl) ?_
  refine Rp.iload_n dX11_ticket_4 rfl ?_
  refine Rp.iload_n dX11_ticket_5 rfl ?_
  refine Rp.callV2 M_X2_addTicket (ci := 2) dX11_ticket_6 mo_X2_addTicket lk_X11_149 (by decide) rfl rfl (S _ _ rfl) (Nat.le_of_ble_eq_true rfl) (Nat.le_of_ble_eq_true rfl) (t_addTicket (d + 1) S R x k ht hM) (fun v1 h1 p1 x1 => ?_)
  rw [p1.1, p1.2, hc]
  have S := hS
  have R := hR
  try dsimp only [Option.toList, List.cons_append, List.nil_append, List.append]
  refine Rp.ist3 dX11_ticket_9 (by first | exact nl2_some rfl | exact nl2_none) (by decide) ?_
  refine Rp.iload_n dX11_ticket_10 rfl ?_
  refine Rp.if_ge (tgt := 20) dX11_ticket_11 (by decide) (fun c11 => ?_) (fun c11 => ?_)
  · skip
    refine Rp.aload_n dX11_ticket_20 rfl rfl ?_
    refine Rp.getR dX11_ticket_21 fk_X11_10 rfl (S _ _ rfl) (R _ _ _ rfl) ?_
    refine Rp.getR dX11_ticket_24 fk_X11_113 rfl (S _ _ rfl) (R _ _ _ rfl) ?_
    refine Rp.callV0 M_X4_clear (ci := 4) dX11_ticket_27 mo_X4_clear lk_X11_117 (by decide) rfl rfl (S _ _ rfl) (Nat.le_of_ble_eq_true rfl) (Nat.le_of_ble_eq_true rfl) (t_clear (d + 1) (log_S S)) (fun v1 h1 p1 x1 => ?_)
    rw [p1.1, p1.2]
    try dsimp only [Option.toList, List.cons_append, List.nil_append, List.append]
    refine Rp.aload_n dX11_ticket_30 rfl rfl ?_
    refine Rp.iload_n dX11_ticket_31 rfl ?_
    refine Rp.callV1 M_X11_accepted (ci := 11) dX11_ticket_32 mo_X11_accepted lk_X11_122 (by decide) rfl rfl (S _ _ rfl) (Nat.le_of_ble_eq_true rfl) (Nat.le_of_ble_eq_true rfl) (t_accepted d (h := clr H) S R (nI v)) (fun v1 h1 p1 x1 => ?_)
    rw [p1.1, p1.2]
    try dsimp only [Option.toList, List.cons_append, List.nil_append, List.append]
    refine Rp.ireturn dX11_ticket_35 rfl ?_
    exact ⟨rfl, rfl⟩
  · skip
    exact absurd hn c11
def mTicketC (h : AH) (x k : Int32) (nt : Nat) : Int32 × AH := if canT x k then (if numC h x nt then (-nI 3, rcH h 3) else if nt = 8 then (-nI 5, rcH h 5) else (nI nt, acH (clr (tkH h x k nt)))) else (-nI 1, rcH h 1)
theorem t_ticket (S : ShOK h) (R : RfOK h) (x k : Int32) {nt : Nat} (ht : nt ≤ 8) (hM : gI h at_hall fhall_tickets = nI nt) : Rp (d + 2) M_X11_ticket 0 [some (.ref 0), some (.int x), some (.int k), none] [] h (fun r h' => h' = (mTicketC h x k nt).2 ∧ r = some (.int (mTicketC h x k nt).1)) := by
  have e : mTicketC h x k nt = if canT x k then (if numC h x nt then (-nI 3, rcH h 3) else if nt = 8 then (-nI 5, rcH h 5) else (nI nt, acH (clr (tkH h x k nt)))) else (-nI 1, rcH h 1) := rfl
  have f : cTik h x k nt = if canT x k then (if numC h x nt then (-nI 3, h) else if nt = 8 then (-nI 5, h) else (nI nt, tkH h x k nt)) else (-nI 1, h) := rfl
  by_cases c1 : canT x k = true
  · by_cases c2 : numC h x nt = true
    · rw [if_pos c1, if_pos c2] at e f
      rw [e]
      exact t_ticket_r d S R x k ht hM (by decide) f
    · by_cases c3 : nt = 8
      · rw [if_pos c1, if_neg c2, if_pos c3] at e f
        rw [e]
        exact t_ticket_r d S R x k ht hM (by decide) f
      · rw [if_pos c1, if_neg c2, if_neg c3] at e f
        rw [e]
        exact t_ticket_g d S R x k ht hM (show nt < 8 by omega) S R f
  · rw [if_neg c1] at e f
    rw [e]
    exact t_ticket_r d S R x k ht hM (by decide) f
end CTi
