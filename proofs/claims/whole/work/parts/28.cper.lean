section CPe
variable (d : Nat) {h : AH}
abbrev clr (h : AH) : AH := sI h (at_hall + 14) flog_size (nI 0)
theorem log_S (S : ShOK h) : h.1[at_hall + 14]? = some (4, clN 4) := S _ _ rfl
theorem neg_lt {k : Nat} (hk : k = 1 ∨ k = 2 ∨ k = 3 ∨ k = 5 ∨ k = 6) : ¬ (0 : Int32) ≤ -nI k := by rcases hk with rfl | rfl | rfl | rfl | rfl <;> decide
theorem t_person_r (S : ShOK h) (R : RfOK h) (b p : Int32) {np : Nat} (hp : np ≤ 6) (hM : gI h at_hall fhall_people = nI np) {k : Nat} (hk : k = 1 ∨ k = 2 ∨ k = 3 ∨ k = 5 ∨ k = 6) (hc : cPer h b p np = (-nI k, h)) : Rp (d + 2) M_X11_person 0 [some (.ref 0), some (.int b), some (.int p), none] [] h (fun r h' => h' = rcH h k ∧ r = some (.int (-nI k))) := by
  have hn := neg_lt hk
  refine Rp.aload_n dX11_person_0 rfl rfl ?_
  refine Rp.getR dX11_person_1 fk_X11_10 rfl (S _ _ rfl) (R _ _ _ rfl) ?_
  refine Rp.iload_n dX11_person_4 rfl ?_
  refine Rp.iload_n dX11_person_5 rfl ?_
  refine Rp.callV2 M_X2_addPerson (ci := 2) dX11_person_6 mo_X2_addPerson lk_X11_105 (by decide) rfl rfl (S _ _ rfl) (Nat.le_of_ble_eq_true rfl) (Nat.le_of_ble_eq_true rfl) (t_addPerson (d + 1) S R b p hp hM) (fun v1 h1 p1 x1 => ?_)
  rw [p1.1, p1.2, hc]
  try dsimp only [Option.toList, List.cons_append, List.nil_append, List.append]
  refine Rp.ist3 dX11_person_9 (by first | exact nl2_some rfl | exact nl2_none) (by decide) ?_
  refine Rp.iload_n dX11_person_10 rfl ?_
  refine Rp.if_ge (tgt := 20) dX11_person_11 (by decide) (fun c11 => ?_) (fun c11 => ?_)
  · skip
    exact absurd c11 hn
  · skip
    refine Rp.aload_n dX11_person_14 rfl rfl ?_
    refine Rp.iload_n dX11_person_15 rfl ?_
    refine Rp.callV1 M_X11_refused (ci := 11) dX11_person_16 mo_X11_refused lk_X11_109 (by decide) rfl rfl (S _ _ rfl) (Nat.le_of_ble_eq_true rfl) (Nat.le_of_ble_eq_true rfl) (t_refused (d + 1) S R k hk) (fun v1 h1 p1 x1 => ?_)
    rw [p1.1, p1.2]
    try dsimp only [Option.toList, List.cons_append, List.nil_append, List.append]
    refine Rp.ireturn dX11_person_19 rfl ?_
    exact ⟨rfl, rfl⟩
theorem t_person_g (S : ShOK h) (R : RfOK h) (b p : Int32) {np : Nat} (hp : np ≤ 6) (hM : gI h at_hall fhall_people = nI np) {v : Nat} {H : AH} (hv : v < 6) (hS : ShOK H) (hR : RfOK H) (hc : cPer h b p np = (nI v, H)) : Rp (d + 2) M_X11_person 0 [some (.ref 0), some (.int b), some (.int p), none] [] h (fun r h' => h' = acH (clr H) ∧ r = some (.int (nI v))) := by
  have hn : (0 : Int32) ≤ nI v := by rw [← nI_0]; exact nI_le (Nat.zero_le v) (by omega)
  refine Rp.aload_n dX11_person_0 rfl rfl ?_
  refine Rp.getR dX11_person_1 fk_X11_10 rfl (S _ _ rfl) (R _ _ _ rfl) ?_
  refine Rp.iload_n dX11_person_4 rfl ?_
  refine Rp.iload_n dX11_person_5 rfl ?_
  refine Rp.callV2 M_X2_addPerson (ci := 2) dX11_person_6 mo_X2_addPerson lk_X11_105 (by decide) rfl rfl (S _ _ rfl) (Nat.le_of_ble_eq_true rfl) (Nat.le_of_ble_eq_true rfl) (t_addPerson (d + 1) S R b p hp hM) (fun v1 h1 p1 x1 => ?_)
  rw [p1.1, p1.2, hc]
  have S := hS
  have R := hR
  try dsimp only [Option.toList, List.cons_append, List.nil_append, List.append]
  refine Rp.ist3 dX11_person_9 (by first | exact nl2_some rfl | exact nl2_none) (by decide) ?_
  refine Rp.iload_n dX11_person_10 rfl ?_
  refine Rp.if_ge (tgt := 20) dX11_person_11 (by decide) (fun c11 => ?_) (fun c11 => ?_)
  · skip
    refine Rp.aload_n dX11_person_20 rfl rfl ?_
    refine Rp.getR dX11_person_21 fk_X11_10 rfl (S _ _ rfl) (R _ _ _ rfl) ?_
    refine Rp.getR dX11_person_24 fk_X11_113 rfl (S _ _ rfl) (R _ _ _ rfl) ?_
    refine Rp.callV0 M_X4_clear (ci := 4) dX11_person_27 mo_X4_clear lk_X11_117 (by decide) rfl rfl (S _ _ rfl) (Nat.le_of_ble_eq_true rfl) (Nat.le_of_ble_eq_true rfl) (t_clear (d + 1) (log_S S)) (fun v1 h1 p1 x1 => ?_)
    rw [p1.1, p1.2]
    try dsimp only [Option.toList, List.cons_append, List.nil_append, List.append]
    refine Rp.aload_n dX11_person_30 rfl rfl ?_
    refine Rp.iload_n dX11_person_31 rfl ?_
    refine Rp.callV1 M_X11_accepted (ci := 11) dX11_person_32 mo_X11_accepted lk_X11_122 (by decide) rfl rfl (S _ _ rfl) (Nat.le_of_ble_eq_true rfl) (Nat.le_of_ble_eq_true rfl) (t_accepted d (h := clr H) S R (nI v)) (fun v1 h1 p1 x1 => ?_)
    rw [p1.1, p1.2]
    try dsimp only [Option.toList, List.cons_append, List.nil_append, List.append]
    refine Rp.ireturn dX11_person_35 rfl ?_
    exact ⟨rfl, rfl⟩
  · skip
    exact absurd hn c11
def mPersonC (h : AH) (b p : Int32) (np : Nat) : Int32 × AH := if inN b 5 && inN p 100 then (if np = 6 then (-nI 5, rcH h 5) else (nI np, acH (clr (sI (sI (sI h (at_hall + 1) np b) (at_hall + 2) np p) at_hall fhall_people (nI (np + 1)))))) else (-nI 1, rcH h 1)
theorem t_person (S : ShOK h) (R : RfOK h) (b p : Int32) {np : Nat} (hp : np ≤ 6) (hM : gI h at_hall fhall_people = nI np) : Rp (d + 2) M_X11_person 0 [some (.ref 0), some (.int b), some (.int p), none] [] h (fun r h' => h' = (mPersonC h b p np).2 ∧ r = some (.int (mPersonC h b p np).1)) := by
  by_cases c1 : (inN b 5 && inN p 100) = true
  · by_cases c2 : np = 6
    · have hc : cPer h b p np = (-nI 5, h) := by unfold cPer; rw [if_pos c1, if_pos c2]
      have e : mPersonC h b p np = (-nI 5, rcH h 5) := by unfold mPersonC; rw [if_pos c1, if_pos c2]
      rw [e]
      exact t_person_r d S R b p hp hM (by decide) hc
    · have hc : cPer h b p np = (nI np, sI (sI (sI h (at_hall + 1) np b) (at_hall + 2) np p) at_hall fhall_people (nI (np + 1))) := by unfold cPer; rw [if_pos c1, if_neg c2]
      have e : mPersonC h b p np = (nI np, acH (clr (sI (sI (sI h (at_hall + 1) np b) (at_hall + 2) np p) at_hall fhall_people (nI (np + 1))))) := by unfold mPersonC; rw [if_pos c1, if_neg c2]
      rw [e]
      exact t_person_g d S R b p hp hM (show np < 6 by omega) S R hc
  · have hc : cPer h b p np = (-nI 1, h) := by unfold cPer; rw [if_neg c1]
    have e : mPersonC h b p np = (-nI 1, rcH h 1) := by unfold mPersonC; rw [if_neg c1]
    rw [e]
    exact t_person_r d S R b p hp hM (by decide) hc
end CPe
