section CDe
variable (d : Nat) {h : AH}
abbrev okS (s : Int32) : Bool := decide (nI 1 ≤ s ∧ s ≤ nI 9)
theorem okS_l {s : Int32} (h : s < nI 1) : okS s = false := decide_eq_false (fun z => by simp only [i32_lt, i32_le] at *; omega)
theorem okS_g {s : Int32} (h : ¬ s ≤ nI 9) : okS s = false := decide_eq_false (fun z => h z.2)
theorem okS_t {s : Int32} (h1 : ¬ s < nI 1) (h : s ≤ nI 9) : okS s = true := decide_eq_true ⟨by simp only [i32_lt, i32_le] at *; omega, h⟩
abbrev dkH (h : AH) (o s : Int32) (nd : Nat) : AH := sI (sI (sI h (at_hall + 8) nd o) (at_hall + 9) nd s) at_hall fhall_desks (nI (nd + 1))
def cDsk (h : AH) (o s : Int32) (nd : Nat) : Int32 × AH := if inN o 32 && okS s then (if nd = 3 then (-nI 5, h) else (nI nd, dkH h o s nd)) else (-nI 1, h)
theorem t_addDesk (S : ShOK h) (R : RfOK h) (o s : Int32) {nd : Nat} (hp : nd ≤ 3) (hM : gI h at_hall fhall_desks = nI nd) : Rp d M_X2_addDesk 0 [some (.ref at_hall), some (.int o), some (.int s)] [] h (fun r h' => h' = (cDsk h o s nd).2 ∧ r = some (.int (cDsk h o s nd).1)) := by
  refine Rp.iload_n dX2_addDesk_0 rfl ?_
  refine Rp.if_lt (tgt := 21) dX2_addDesk_1 (by decide) (fun c1 => ?_) (fun c1 => ?_)
  · skip
    refine Rp.iconst (-1) dX2_addDesk_21 (by decide) ?_
    refine Rp.ireturn dX2_addDesk_22 rfl ?_
    unfold cDsk
    first | (rw [inN_tl c1]; exact ⟨rfl, rfl⟩) | (rw [inN_tg (by decide) c7]; exact ⟨rfl, rfl⟩) | (rw [okS_l c12, Bool.and_false]; exact ⟨rfl, rfl⟩) | (rw [okS_g c18, Bool.and_false]; exact ⟨rfl, rfl⟩)
  · skip
    refine Rp.iload_n dX2_addDesk_4 rfl ?_
    refine Rp.bipush (nI 31) dX2_addDesk_5 (by decide) ?_
    first | ((with_reducible show Rp _ _ _ _ (.int (nI _) :: .int (nI _) :: _) _ _); refine Rp.icmp_gtN (tgt := 21) dX2_addDesk_7 (by decide) (by omega) (fun c7 => ?_) (fun c7 => ?_)) | refine Rp.icmp_gt (tgt := 21) dX2_addDesk_7 (by decide) (fun c7 => ?_) (fun c7 => ?_)
    · skip
      refine Rp.iconst (-1) dX2_addDesk_21 (by decide) ?_
      refine Rp.ireturn dX2_addDesk_22 rfl ?_
      unfold cDsk
      first | (rw [inN_tl c1]; exact ⟨rfl, rfl⟩) | (rw [inN_tg (by decide) c7]; exact ⟨rfl, rfl⟩) | (rw [okS_l c12, Bool.and_false]; exact ⟨rfl, rfl⟩) | (rw [okS_g c18, Bool.and_false]; exact ⟨rfl, rfl⟩)
    · skip
      refine Rp.iload_n dX2_addDesk_10 rfl ?_
      refine Rp.iconst (nI 1) dX2_addDesk_11 (by decide) ?_
      first | ((with_reducible show Rp _ _ _ _ (.int (nI _) :: .int (nI _) :: _) _ _); refine Rp.icmp_ltN (tgt := 21) dX2_addDesk_12 (by decide) (by omega) (fun c12 => ?_) (fun c12 => ?_)) | refine Rp.icmp_lt (tgt := 21) dX2_addDesk_12 (by decide) (fun c12 => ?_) (fun c12 => ?_)
      · skip
        refine Rp.iconst (-1) dX2_addDesk_21 (by decide) ?_
        refine Rp.ireturn dX2_addDesk_22 rfl ?_
        unfold cDsk
        first | (rw [inN_tl c1]; exact ⟨rfl, rfl⟩) | (rw [inN_tg (by decide) c7]; exact ⟨rfl, rfl⟩) | (rw [okS_l c12, Bool.and_false]; exact ⟨rfl, rfl⟩) | (rw [okS_g c18, Bool.and_false]; exact ⟨rfl, rfl⟩)
      · skip
        refine Rp.iload_n dX2_addDesk_15 rfl ?_
        refine Rp.bipush (nI 9) dX2_addDesk_16 (by decide) ?_
        first | ((with_reducible show Rp _ _ _ _ (.int (nI _) :: .int (nI _) :: _) _ _); refine Rp.icmp_leN (tgt := 23) dX2_addDesk_18 (by decide) (by omega) (fun c18 => ?_) (fun c18 => ?_)) | refine Rp.icmp_le (tgt := 23) dX2_addDesk_18 (by decide) (fun c18 => ?_) (fun c18 => ?_)
        · skip
          refine Rp.aload_n dX2_addDesk_23 rfl rfl ?_
          refine Rp.getI dX2_addDesk_24 fk_X2_83 rfl (S _ _ rfl) ?_
          rw [show gI h 1 9 = nI nd from hM]
          refine Rp.iconst (nI 3) dX2_addDesk_27 (by decide) ?_
          first | ((with_reducible show Rp _ _ _ _ (.int (nI _) :: .int (nI _) :: _) _ _); refine Rp.icmp_ltN (tgt := 34) dX2_addDesk_28 (by decide) (by omega) (fun c28 => ?_) (fun c28 => ?_)) | refine Rp.icmp_lt (tgt := 34) dX2_addDesk_28 (by decide) (fun c28 => ?_) (fun c28 => ?_)
          · skip
            refine Rp.aload_n dX2_addDesk_34 rfl rfl ?_
            refine Rp.getR dX2_addDesk_35 fk_X2_33 rfl (S _ _ rfl) (R _ _ _ rfl) ?_
            refine Rp.aload_n dX2_addDesk_38 rfl rfl ?_
            refine Rp.getI dX2_addDesk_39 fk_X2_83 rfl (S _ _ rfl) ?_
            rw [show gI h 1 9 = nI nd from hM]
            refine Rp.iload_n dX2_addDesk_42 rfl ?_
            first | ((with_reducible show Rp _ _ _ _ (_ :: .int (nI _) :: _) _ _); refine Rp.iastoreN dX2_addDesk_43 (S _ _ rfl) (by omega) ?_) | refine Rp.iastore dX2_addDesk_43 (S _ _ rfl) (by first | assumption | exact vpb (by decide)) ?_
            refine Rp.aload_n dX2_addDesk_44 rfl rfl ?_
            refine Rp.getR dX2_addDesk_45 fk_X2_36 rfl (S _ _ rfl) (R _ _ _ rfl) ?_
            refine Rp.aload_n dX2_addDesk_48 rfl rfl ?_
            refine Rp.getI dX2_addDesk_49 fk_X2_83 rfl (S _ _ rfl) ?_
            rw [show gI (sI h 9 nd o) 1 9 = nI nd from hM]
            refine Rp.iload_n dX2_addDesk_52 rfl ?_
            first | ((with_reducible show Rp _ _ _ _ (_ :: .int (nI _) :: _) _ _); refine Rp.iastoreN dX2_addDesk_53 (S _ _ rfl) (by omega) ?_) | refine Rp.iastore dX2_addDesk_53 (S _ _ rfl) (by first | assumption | exact vpb (by decide)) ?_
            refine Rp.aload_n dX2_addDesk_54 rfl rfl ?_
            refine Rp.dup dX2_addDesk_55 rfl ?_
            refine Rp.getI dX2_addDesk_56 fk_X2_83 rfl (S _ _ rfl) ?_
            rw [show gI (sI (sI h 9 nd o) 10 nd s) 1 9 = nI nd from hM]
            refine Rp.iconst (nI 1) dX2_addDesk_59 (by decide) ?_
            first | ((with_reducible show Rp _ _ _ _ (.int (nI _) :: .int (nI _) :: _) _ _); refine Rp.iaddN dX2_addDesk_60 ?_) | refine Rp.iadd dX2_addDesk_60 ?_
            refine Rp.putI dX2_addDesk_61 fk_X2_83w rfl (S _ _ rfl) ?_
            refine Rp.aload_n dX2_addDesk_64 rfl rfl ?_
            refine Rp.getI dX2_addDesk_65 fk_X2_83 rfl (S _ _ rfl) ?_
            rw [show gI (sI (sI (sI h 9 nd o) 10 nd s) 1 9 (nI (nd + 1))) 1 9 = nI (nd + 1) from rfl]
            refine Rp.iconst (nI 1) dX2_addDesk_68 (by decide) ?_
            first | ((with_reducible show Rp _ _ _ _ (.int (nI _) :: .int (nI _) :: _) _ _); refine Rp.isubN dX2_addDesk_69 (by omega) ?_) | refine Rp.isub dX2_addDesk_69 ?_
            rw [show nd + 1 - 1 = nd by omega]
            refine Rp.ireturn dX2_addDesk_70 rfl ?_
            unfold cDsk
            rw [inN_tt (by decide) c1 c7, okS_t c12 c18]
            simp only [Bool.and_self, if_true]
            rw [if_neg (show ¬ nd = 3 by omega)]
            exact ⟨rfl, rfl⟩
          · skip
            refine Rp.bipush (-5) dX2_addDesk_31 (by decide) ?_
            refine Rp.ireturn dX2_addDesk_33 rfl ?_
            unfold cDsk
            rw [inN_tt (by decide) c1 c7, okS_t c12 c18]
            simp only [Bool.and_self, if_true]
            rw [if_pos (show nd = 3 by omega)]
            exact ⟨rfl, rfl⟩
        · skip
          refine Rp.iconst (-1) dX2_addDesk_21 (by decide) ?_
          refine Rp.ireturn dX2_addDesk_22 rfl ?_
          unfold cDsk
          first | (rw [inN_tl c1]; exact ⟨rfl, rfl⟩) | (rw [inN_tg (by decide) c7]; exact ⟨rfl, rfl⟩) | (rw [okS_l c12, Bool.and_false]; exact ⟨rfl, rfl⟩) | (rw [okS_g c18, Bool.and_false]; exact ⟨rfl, rfl⟩)
theorem t_desk_r (S : ShOK h) (R : RfOK h) (o s : Int32) {nd : Nat} (hp : nd ≤ 3) (hM : gI h at_hall fhall_desks = nI nd) {j : Nat} (hk : j = 1 ∨ j = 2 ∨ j = 3 ∨ j = 5 ∨ j = 6) (hc : cDsk h o s nd = (-nI j, h)) : Rp (d + 2) M_X11_desk 0 [some (.ref 0), some (.int o), some (.int s), none] [] h (fun r h' => h' = rcH h j ∧ r = some (.int (-nI j))) := by
  have hn := neg_lt hk
  refine Rp.aload_n dX11_desk_0 rfl rfl ?_
  refine Rp.getR dX11_desk_1 fk_X11_10 rfl (S _ _ rfl) (R _ _ _ rfl) ?_
  refine Rp.iload_n dX11_desk_4 rfl ?_
  refine Rp.iload_n dX11_desk_5 rfl ?_
  refine Rp.callV2 M_X2_addDesk (ci := 2) dX11_desk_6 mo_X2_addDesk lk_X11_167 (by decide) rfl rfl (S _ _ rfl) (Nat.le_of_ble_eq_true rfl) (Nat.le_of_ble_eq_true rfl) (t_addDesk (d + 1) S R o s hp hM) (fun v1 h1 p1 x1 => ?_)
  rw [p1.1, p1.2, hc]
  try dsimp only [Option.toList, List.cons_append, List.nil_append, List.append]
  refine Rp.ist3 dX11_desk_9 (by first | exact nl2_some rfl | exact nl2_none) (by decide) ?_
  refine Rp.iload_n dX11_desk_10 rfl ?_
  refine Rp.if_ge (tgt := 22) dX11_desk_11 (by decide) (fun c11 => ?_) (fun c11 => ?_)
  · skip
    exact absurd c11 hn
  · skip
    refine Rp.aload_n dX11_desk_14 rfl rfl ?_
    refine Rp.iload_n dX11_desk_15 rfl ?_
    refine Rp.callV1 M_X11_refused (ci := 11) dX11_desk_16 mo_X11_refused lk_X11_109 (by decide) rfl rfl (S _ _ rfl) (Nat.le_of_ble_eq_true rfl) (Nat.le_of_ble_eq_true rfl) (t_refused (d + 1) S R j hk) (fun v1 h1 p1 x1 => ?_)
    rw [p1.1, p1.2]
    try dsimp only [Option.toList, List.cons_append, List.nil_append, List.append]
    refine Rp.goto (tgt := 27) dX11_desk_19 (by decide) ?_
    refine Rp.ireturn dX11_desk_27 rfl ?_
    exact ⟨rfl, rfl⟩
theorem t_desk_g (S : ShOK h) (R : RfOK h) (o s : Int32) {nd : Nat} (hp : nd ≤ 3) (hM : gI h at_hall fhall_desks = nI nd) {v : Nat} {H : AH} (hv : v < 8) (hS : ShOK H) (hR : RfOK H) (hc : cDsk h o s nd = (nI v, H)) : Rp (d + 2) M_X11_desk 0 [some (.ref 0), some (.int o), some (.int s), none] [] h (fun r h' => h' = acH H ∧ r = some (.int (nI v))) := by
  have hn : (0 : Int32) ≤ nI v := by rw [← nI_0]; exact nI_le (Nat.zero_le v) (by omega)
  refine Rp.aload_n dX11_desk_0 rfl rfl ?_
  refine Rp.getR dX11_desk_1 fk_X11_10 rfl (S _ _ rfl) (R _ _ _ rfl) ?_
  refine Rp.iload_n dX11_desk_4 rfl ?_
  refine Rp.iload_n dX11_desk_5 rfl ?_
  refine Rp.callV2 M_X2_addDesk (ci := 2) dX11_desk_6 mo_X2_addDesk lk_X11_167 (by decide) rfl rfl (S _ _ rfl) (Nat.le_of_ble_eq_true rfl) (Nat.le_of_ble_eq_true rfl) (t_addDesk (d + 1) S R o s hp hM) (fun v1 h1 p1 x1 => ?_)
  rw [p1.1, p1.2, hc]
  have S := hS
  have R := hR
  try dsimp only [Option.toList, List.cons_append, List.nil_append, List.append]
  refine Rp.ist3 dX11_desk_9 (by first | exact nl2_some rfl | exact nl2_none) (by decide) ?_
  refine Rp.iload_n dX11_desk_10 rfl ?_
  refine Rp.if_ge (tgt := 22) dX11_desk_11 (by decide) (fun c11 => ?_) (fun c11 => ?_)
  · skip
    refine Rp.aload_n dX11_desk_22 rfl rfl ?_
    refine Rp.iload_n dX11_desk_23 rfl ?_
    refine Rp.callV1 M_X11_accepted (ci := 11) dX11_desk_24 mo_X11_accepted lk_X11_122 (by decide) rfl rfl (S _ _ rfl) (Nat.le_of_ble_eq_true rfl) (Nat.le_of_ble_eq_true rfl) (t_accepted d (h := H) S R (nI v)) (fun v1 h1 p1 x1 => ?_)
    rw [p1.1, p1.2]
    try dsimp only [Option.toList, List.cons_append, List.nil_append, List.append]
    refine Rp.ireturn dX11_desk_27 rfl ?_
    exact ⟨rfl, rfl⟩
  · skip
    exact absurd hn c11
def mDeskC (h : AH) (o s : Int32) (nd : Nat) : Int32 × AH := if inN o 32 && okS s then (if nd = 3 then (-nI 5, rcH h 5) else (nI nd, acH (dkH h o s nd))) else (-nI 1, rcH h 1)
theorem t_desk (S : ShOK h) (R : RfOK h) (o s : Int32) {nd : Nat} (hp : nd ≤ 3) (hM : gI h at_hall fhall_desks = nI nd) : Rp (d + 2) M_X11_desk 0 [some (.ref 0), some (.int o), some (.int s), none] [] h (fun r h' => h' = (mDeskC h o s nd).2 ∧ r = some (.int (mDeskC h o s nd).1)) := by
  have e : mDeskC h o s nd = if inN o 32 && okS s then (if nd = 3 then (-nI 5, rcH h 5) else (nI nd, acH (dkH h o s nd))) else (-nI 1, rcH h 1) := rfl
  have f : cDsk h o s nd = if inN o 32 && okS s then (if nd = 3 then (-nI 5, h) else (nI nd, dkH h o s nd)) else (-nI 1, h) := rfl
  by_cases c1 : (inN o 32 && okS s) = true
  · by_cases c2 : nd = 3
    · rw [if_pos c1, if_pos c2] at e f
      rw [e]
      exact t_desk_r d S R o s hp hM (by decide) f
    · rw [if_pos c1, if_neg c2] at e f
      rw [e]
      exact t_desk_g d S R o s hp hM (show nd < 8 by omega) S R f
  · rw [if_neg c1] at e f
    rw [e]
    exact t_desk_r d S R o s hp hM (by decide) f
def mostT (w : Int32) : Nat := if w = 0 then 999 else if w = nI 1 then 10 else 9
theorem mostT_le (w : Int32) : mostT w ≤ 999 := by unfold mostT; split; omega; split <;> omega
def mTermsC (h : AH) (w v : Int32) : Int32 × AH := if inN w 3 && inN v (mostT w + 1) then (gI h (at_hall + 12) (ix w), acH (clr (sI h (at_hall + 12) (ix w) v))) else (-nI 1, rcH h 1)
theorem t_terms (S : ShOK h) (R : RfOK h) (w v : Int32) : Rp (d + 2) M_X11_terms 0 [some (.ref 0), some (.int w), some (.int v), none] [] h (fun r h' => h' = (mTermsC h w v).2 ∧ r = some (.int (mTermsC h w v).1)) := by
  have hm := mostT_le w
  refine Rp.iload_n dX11_terms_0 rfl ?_
  refine Rp.if_lt (tgt := 21) dX11_terms_1 (by decide) (fun c1 => ?_) (fun c1 => ?_)
  · skip
    refine Rp.aload_n dX11_terms_21 rfl rfl ?_
    refine Rp.iconst (-1) dX11_terms_22 (by decide) ?_
    refine Rp.callV1 M_X11_refused (ci := 11) dX11_terms_23 mo_X11_refused lk_X11_109 (by decide) rfl rfl (S _ _ rfl) (Nat.le_of_ble_eq_true rfl) (Nat.le_of_ble_eq_true rfl) (t_refused (d + 1) S R 1 (by decide)) (fun v1 h1 p1 x1 => ?_)
    rw [p1.1, p1.2]
    try dsimp only [Option.toList, List.cons_append, List.nil_append, List.append]
    refine Rp.ireturn dX11_terms_26 rfl ?_
    unfold mTermsC
    first | (rw [inN_tl c1]; exact ⟨rfl, rfl⟩) | (rw [inN_tg (by decide) c6]; exact ⟨rfl, rfl⟩) | (rw [inN_tl c10, Bool.and_false]; exact ⟨rfl, rfl⟩) | (rw [show inN v (mostT w + 1) = false from inN_tnle (by omega) c18, Bool.and_false]; exact ⟨rfl, rfl⟩)
  · skip
    refine Rp.iload_n dX11_terms_4 rfl ?_
    refine Rp.iconst (nI 2) dX11_terms_5 (by decide) ?_
    first | ((with_reducible show Rp _ _ _ _ (.int (nI _) :: .int (nI _) :: _) _ _); refine Rp.icmp_gtN (tgt := 21) dX11_terms_6 (by decide) (by omega) (fun c6 => ?_) (fun c6 => ?_)) | refine Rp.icmp_gt (tgt := 21) dX11_terms_6 (by decide) (fun c6 => ?_) (fun c6 => ?_)
    · skip
      refine Rp.aload_n dX11_terms_21 rfl rfl ?_
      refine Rp.iconst (-1) dX11_terms_22 (by decide) ?_
      refine Rp.callV1 M_X11_refused (ci := 11) dX11_terms_23 mo_X11_refused lk_X11_109 (by decide) rfl rfl (S _ _ rfl) (Nat.le_of_ble_eq_true rfl) (Nat.le_of_ble_eq_true rfl) (t_refused (d + 1) S R 1 (by decide)) (fun v1 h1 p1 x1 => ?_)
      rw [p1.1, p1.2]
      try dsimp only [Option.toList, List.cons_append, List.nil_append, List.append]
      refine Rp.ireturn dX11_terms_26 rfl ?_
      unfold mTermsC
      first | (rw [inN_tl c1]; exact ⟨rfl, rfl⟩) | (rw [inN_tg (by decide) c6]; exact ⟨rfl, rfl⟩) | (rw [inN_tl c10, Bool.and_false]; exact ⟨rfl, rfl⟩) | (rw [show inN v (mostT w + 1) = false from inN_tnle (by omega) c18, Bool.and_false]; exact ⟨rfl, rfl⟩)
    · skip
      refine Rp.iload_n dX11_terms_9 rfl ?_
      refine Rp.if_lt (tgt := 21) dX11_terms_10 (by decide) (fun c10 => ?_) (fun c10 => ?_)
      · skip
        refine Rp.aload_n dX11_terms_21 rfl rfl ?_
        refine Rp.iconst (-1) dX11_terms_22 (by decide) ?_
        refine Rp.callV1 M_X11_refused (ci := 11) dX11_terms_23 mo_X11_refused lk_X11_109 (by decide) rfl rfl (S _ _ rfl) (Nat.le_of_ble_eq_true rfl) (Nat.le_of_ble_eq_true rfl) (t_refused (d + 1) S R 1 (by decide)) (fun v1 h1 p1 x1 => ?_)
        rw [p1.1, p1.2]
        try dsimp only [Option.toList, List.cons_append, List.nil_append, List.append]
        refine Rp.ireturn dX11_terms_26 rfl ?_
        unfold mTermsC
        first | (rw [inN_tl c1]; exact ⟨rfl, rfl⟩) | (rw [inN_tg (by decide) c6]; exact ⟨rfl, rfl⟩) | (rw [inN_tl c10, Bool.and_false]; exact ⟨rfl, rfl⟩) | (rw [show inN v (mostT w + 1) = false from inN_tnle (by omega) c18, Bool.and_false]; exact ⟨rfl, rfl⟩)
      · skip
        refine Rp.iload_n dX11_terms_13 rfl ?_
        refine Rp.iload_n dX11_terms_14 rfl ?_
        refine Rp.callS1 M_X11_mostOfTerm dX11_terms_15 mo_X11_mostOfTerm lk_X11_184 (Nat.le_of_ble_eq_true rfl) (Nat.le_of_ble_eq_true rfl) (t_mostOfTerm (d + 1) w) (fun v1 h1 p1 x1 => ?_)
        rw [p1.1, p1.2]
        try dsimp only [Option.toList, List.cons_append, List.nil_append, List.append]
        first | ((with_reducible show Rp _ _ _ _ (.int (nI _) :: .int (nI _) :: _) _ _); refine Rp.icmp_leN (tgt := 27) dX11_terms_18 (by decide) (by omega) (fun c18 => ?_) (fun c18 => ?_)) | refine Rp.icmp_le (tgt := 27) dX11_terms_18 (by decide) (fun c18 => ?_) (fun c18 => ?_)
        · skip
          have hw := inN_tt (by decide) c1 c6
          have hv : inN v (mostT w + 1) = true := inN_tle (by omega) c10 c18
          obtain ⟨q, hq, rfl⟩ := (inN_iff (by omega)).mp hw
          refine Rp.aload_n dX11_terms_27 rfl rfl ?_
          refine Rp.getR dX11_terms_28 fk_X11_10 rfl (S _ _ rfl) (R _ _ _ rfl) ?_
          refine Rp.getR dX11_terms_31 fk_X11_187 rfl (S _ _ rfl) (R _ _ _ rfl) ?_
          refine Rp.iload_n dX11_terms_34 rfl ?_
          first | ((with_reducible show Rp _ _ _ _ (.int (nI _) :: _) _ _); refine Rp.ialoadN dX11_terms_35 (S _ _ rfl) (by omega) ?_) | refine Rp.iaload dX11_terms_35 (S _ _ rfl) (by first | assumption | exact vpb (by decide)) ?_
          refine Rp.ist3 dX11_terms_36 (by first | exact nl2_some rfl | exact nl2_none) (by decide) ?_
          refine Rp.aload_n dX11_terms_37 rfl rfl ?_
          refine Rp.getR dX11_terms_38 fk_X11_10 rfl (S _ _ rfl) (R _ _ _ rfl) ?_
          refine Rp.getR dX11_terms_41 fk_X11_187 rfl (S _ _ rfl) (R _ _ _ rfl) ?_
          refine Rp.iload_n dX11_terms_44 rfl ?_
          refine Rp.iload_n dX11_terms_45 rfl ?_
          first | ((with_reducible show Rp _ _ _ _ (_ :: .int (nI _) :: _) _ _); refine Rp.iastoreN dX11_terms_46 (S _ _ rfl) (by omega) ?_) | refine Rp.iastore dX11_terms_46 (S _ _ rfl) (by first | assumption | exact vpb (by decide)) ?_
          refine Rp.aload_n dX11_terms_47 rfl rfl ?_
          refine Rp.getR dX11_terms_48 fk_X11_10 rfl (S _ _ rfl) (R _ _ _ rfl) ?_
          refine Rp.getR dX11_terms_51 fk_X11_113 rfl (S _ _ rfl) (R _ _ _ rfl) ?_
          refine Rp.callV0 M_X4_clear (ci := 4) dX11_terms_54 mo_X4_clear lk_X11_117 (by decide) rfl rfl (S _ _ rfl) (Nat.le_of_ble_eq_true rfl) (Nat.le_of_ble_eq_true rfl) (t_clear (d + 1) (h := sI h (at_hall + 12) q v) (log_S (h := sI h (at_hall + 12) q v) S)) (fun v1 h1 p1 x1 => ?_)
          rw [p1.1, p1.2]
          try dsimp only [Option.toList, List.cons_append, List.nil_append, List.append]
          refine Rp.aload_n dX11_terms_57 rfl rfl ?_
          refine Rp.iload_n dX11_terms_58 rfl ?_
          refine Rp.callV1 M_X11_accepted (ci := 11) dX11_terms_59 mo_X11_accepted lk_X11_122 (by decide) rfl rfl (S _ _ rfl) (Nat.le_of_ble_eq_true rfl) (Nat.le_of_ble_eq_true rfl) (t_accepted d (h := clr (sI h (at_hall + 12) q v)) S R _) (fun v1 h1 p1 x1 => ?_)
          rw [p1.1, p1.2]
          try dsimp only [Option.toList, List.cons_append, List.nil_append, List.append]
          refine Rp.ireturn dX11_terms_62 rfl ?_
          unfold mTermsC
          rw [hw, hv, ix_nI (show q < 2147483648 by omega)]
          exact ⟨rfl, rfl⟩
        · skip
          refine Rp.aload_n dX11_terms_21 rfl rfl ?_
          refine Rp.iconst (-1) dX11_terms_22 (by decide) ?_
          refine Rp.callV1 M_X11_refused (ci := 11) dX11_terms_23 mo_X11_refused lk_X11_109 (by decide) rfl rfl (S _ _ rfl) (Nat.le_of_ble_eq_true rfl) (Nat.le_of_ble_eq_true rfl) (t_refused (d + 1) S R 1 (by decide)) (fun v1 h1 p1 x1 => ?_)
          rw [p1.1, p1.2]
          try dsimp only [Option.toList, List.cons_append, List.nil_append, List.append]
          refine Rp.ireturn dX11_terms_26 rfl ?_
          unfold mTermsC
          first | (rw [inN_tl c1]; exact ⟨rfl, rfl⟩) | (rw [inN_tg (by decide) c6]; exact ⟨rfl, rfl⟩) | (rw [inN_tl c10, Bool.and_false]; exact ⟨rfl, rfl⟩) | (rw [show inN v (mostT w + 1) = false from inN_tnle (by omega) c18, Bool.and_false]; exact ⟨rfl, rfl⟩)
def mDrawnC (h : AH) (p : Int32) : Int32 := if inN p 6 then gI h at_drawnTickets (ix p) else -1
theorem t_drawn (S : ShOK h) (R : RfOK h) (p : Int32) : Rp d M_X11_drawn 0 [some (.ref 0), some (.int p)] [] h (fun r h' => h' = h ∧ r = some (.int (mDrawnC h p))) := by
  by_cases hp : inN p 6 = true
  · obtain ⟨q, hq, rfl⟩ := (inN_iff (by omega)).mp hp
    have hn : ¬ nI q < 0 := nI_pos (by omega)
    refine Rp.iload_n dX11_drawn_0 rfl ?_
    refine Rp.if_lt (tgt := 19) dX11_drawn_1 (by decide) (fun c1 => ?_) (fun c1 => ?_)
    · skip
      exact absurd c1 hn
    · skip
      refine Rp.iload_n dX11_drawn_4 rfl ?_
      refine Rp.bipush (nI 6) dX11_drawn_5 (by decide) ?_
      first | ((with_reducible show Rp _ _ _ _ (.int (nI _) :: .int (nI _) :: _) _ _); refine Rp.icmp_geN (tgt := 19) dX11_drawn_7 (by decide) (by omega) (fun c7 => ?_) (fun c7 => ?_)) | refine Rp.icmp_ge (tgt := 19) dX11_drawn_7 (by decide) (fun c7 => ?_) (fun c7 => ?_)
      · skip
        exact absurd c7 (by omega)
      · skip
        refine Rp.aload_n dX11_drawn_10 rfl rfl ?_
        refine Rp.getR dX11_drawn_11 fk_X11_88 rfl (S _ _ rfl) (R _ _ _ rfl) ?_
        refine Rp.iload_n dX11_drawn_14 rfl ?_
        first | ((with_reducible show Rp _ _ _ _ (.int (nI _) :: _) _ _); refine Rp.ialoadN dX11_drawn_15 (S _ _ rfl) (by omega) ?_) | refine Rp.iaload dX11_drawn_15 (S _ _ rfl) (by first | assumption | exact vpb (by decide)) ?_
        refine Rp.goto (tgt := 20) dX11_drawn_16 (by decide) ?_
        refine Rp.ireturn dX11_drawn_20 rfl ?_
        refine ⟨rfl, ?_⟩
        rw [mDrawnC, hp, ix_nI (show q < 2147483648 by omega)]; rfl
  · have hf : inN p 6 = false := by simpa using hp
    refine Rp.iload_n dX11_drawn_0 rfl ?_
    refine Rp.if_lt (tgt := 19) dX11_drawn_1 (by decide) (fun c1 => ?_) (fun c1 => ?_)
    · skip
      refine Rp.iconst (-1) dX11_drawn_19 (by decide) ?_
      refine Rp.ireturn dX11_drawn_20 rfl ?_
      refine ⟨rfl, ?_⟩
      rw [mDrawnC, hf]; rfl
    · skip
      refine Rp.iload_n dX11_drawn_4 rfl ?_
      refine Rp.bipush (nI 6) dX11_drawn_5 (by decide) ?_
      first | ((with_reducible show Rp _ _ _ _ (.int (nI _) :: .int (nI _) :: _) _ _); refine Rp.icmp_geN (tgt := 19) dX11_drawn_7 (by decide) (by omega) (fun c7 => ?_) (fun c7 => ?_)) | refine Rp.icmp_ge (tgt := 19) dX11_drawn_7 (by decide) (fun c7 => ?_) (fun c7 => ?_)
      · skip
        refine Rp.iconst (-1) dX11_drawn_19 (by decide) ?_
        refine Rp.ireturn dX11_drawn_20 rfl ?_
        refine ⟨rfl, ?_⟩
        rw [mDrawnC, hf]; rfl
      · skip
        exact absurd (inN_tt (n := 5) (by decide) c1 (fun z => c7 (by simp only [i32_lt, i32_le] at *; have e1 : (nI 5).toInt = 5 := rfl; have e2 : (nI 6).toInt = 6 := rfl; omega))) hp
def mDrawn (h : AH) (p : Int32) : Int32 := if decide (nI 0 ≤ p ∧ p ≤ gI h aM fm_drawnMany - nI 1) then gI h am_drawnMoved (ix p) else -1
theorem s_drawn (S : ShOK h) (R : RfOK h) (p : Int32) (hb : decide (nI 0 ≤ p ∧ p ≤ gI h aM fm_drawnMany - nI 1) = true → inN p 7 = true) : Rp (d + 1) M_X12_drawn 0 [some (.ref aM), some (.int p)] [] h (fun r h' => h' = h ∧ r = some (.int (mDrawn h p))) := by
  refine Rp.iload_n dX12_drawn_0 rfl ?_
  refine Rp.iconst (nI 0) dX12_drawn_1 (by decide) ?_
  refine Rp.aload_n dX12_drawn_2 rfl rfl ?_
  refine Rp.getI dX12_drawn_3 fk_X12_114 rfl (S _ _ rfl) ?_
  refine Rp.iconst (nI 1) dX12_drawn_6 (by decide) ?_
  first | ((with_reducible show Rp _ _ _ _ (.int (nI _) :: .int (nI _) :: _) _ _); refine Rp.isubN dX12_drawn_7 (by omega) ?_) | refine Rp.isub dX12_drawn_7 ?_
  refine Rp.callS3 M_X12_lies dX12_drawn_8 mo_X12_lies lk_X12_117 (Nat.le_of_ble_eq_true rfl) (Nat.le_of_ble_eq_true rfl) (s_lies d h p (nI 0) (gI h aM fm_drawnMany - nI 1)) (fun v1 h1 p1 x1 => ?_)
  rw [p1.1, p1.2]
  try dsimp only [Option.toList, List.cons_append, List.nil_append, List.append]
  first | ((with_reducible show Rp _ _ _ _ (.int (b2i _) :: _) _ _); refine Rp.if_eqB (tgt := 25) dX12_drawn_11 (by decide) (fun c11 => ?_) (fun c11 => ?_)) | ((with_reducible show Rp _ _ _ _ (.int (nI _) :: _) _ _); refine Rp.if_eqN (tgt := 25) dX12_drawn_11 (by decide) (by omega) (fun c11 => ?_) (fun c11 => ?_)) | refine Rp.if_eq (tgt := 25) dX12_drawn_11 (by decide) (fun c11 => ?_) (fun c11 => ?_)
  · skip
    refine Rp.iconst (-1) dX12_drawn_25 (by decide) ?_
    refine Rp.ireturn dX12_drawn_26 rfl ?_
    refine ⟨rfl, ?_⟩
    unfold mDrawn
    rw [c11]
    first | rfl | (rw [ix_nI (show q < 2147483648 by omega)]; rfl)
  · skip
    obtain ⟨q, hq, rfl⟩ := (inN_iff (by omega)).mp (hb c11)
    refine Rp.aload_n dX12_drawn_14 rfl rfl ?_
    refine Rp.getR dX12_drawn_15 fk_X12_111 rfl (S _ _ rfl) (R _ _ _ rfl) ?_
    refine Rp.iconst (nI 0) dX12_drawn_18 (by decide) ?_
    refine Rp.iload_n dX12_drawn_19 rfl ?_
    first | ((with_reducible show Rp _ _ _ _ (.int (nI _) :: .int (nI _) :: _) _ _); refine Rp.iaddN dX12_drawn_20 ?_) | refine Rp.iadd dX12_drawn_20 ?_
    rw [Nat.zero_add q]
    first | ((with_reducible show Rp _ _ _ _ (.int (nI _) :: _) _ _); refine Rp.ialoadN dX12_drawn_21 (S _ _ rfl) (by omega) ?_) | refine Rp.iaload dX12_drawn_21 (S _ _ rfl) (by first | assumption | exact vpb (by decide)) ?_
    refine Rp.goto (tgt := 26) dX12_drawn_22 (by decide) ?_
    refine Rp.ireturn dX12_drawn_26 rfl ?_
    refine ⟨rfl, ?_⟩
    unfold mDrawn
    rw [c11]
    first | rfl | (rw [ix_nI (show q < 2147483648 by omega)]; rfl)
end CDe
