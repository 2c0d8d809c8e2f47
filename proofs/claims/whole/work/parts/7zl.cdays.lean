section Cd
variable (d : Nat) {h : AH}
theorem t_days_bad (S : ShOK h) (R : RfOK h) {s n : Int32} (hb : dzB s n = false) : Rp (d + 1) M_X11_days 0 [some (.ref 0), some (.int s), some (.int n), none, none] [] h (fun r h' => h' = rcH h 1 ∧ r = some (.int (-nI 1))) := by
  have nq : ¬ ((nI 0 ≤ s ∧ s ≤ 1000000) ∧ (nI 1 ≤ n ∧ n ≤ nI 60)) := fun z => by
    unfold dzB at hb
    rw [decide_eq_true z.1, decide_eq_true z.2] at hb
    cases hb
  refine Rp.iload_n dX11_days_0 rfl ?_
  refine Rp.if_lt (tgt := 22) dX11_days_1 (by decide) (fun c1 => ?_) (fun c1 => ?_)
  · skip
    refine Rp.aload_n dX11_days_22 rfl rfl ?_
    refine Rp.iconst (-1) dX11_days_23 (by decide) ?_
    refine Rp.callV1 M_X11_refused (ci := 11) dX11_days_24 mo_X11_refused lk_X11_109 (by decide) rfl rfl (S _ _ rfl) (Nat.le_of_ble_eq_true rfl) (Nat.le_of_ble_eq_true rfl) (t_refused d S R 1 (by decide)) (fun v1 h1 p1 x1 => ?_)
    rw [p1.1, p1.2]
    try dsimp only [Option.toList, List.cons_append, List.nil_append, List.append]
    refine Rp.ireturn dX11_days_27 rfl ?_
    exact ⟨rfl, rfl⟩
  · skip
    refine Rp.iload_n dX11_days_4 rfl ?_
    refine Rp.ldcw dX11_days_5 kc_X11_359 ?_
    first | ((with_reducible show Rp _ _ _ _ (.int (nI _) :: .int (nI _) :: _) _ _); refine Rp.icmp_gtN (tgt := 22) dX11_days_8 (by decide) (by omega) (fun c8 => ?_) (fun c8 => ?_)) | refine Rp.icmp_gt (tgt := 22) dX11_days_8 (by decide) (fun c8 => ?_) (fun c8 => ?_)
    · skip
      refine Rp.aload_n dX11_days_22 rfl rfl ?_
      refine Rp.iconst (-1) dX11_days_23 (by decide) ?_
      refine Rp.callV1 M_X11_refused (ci := 11) dX11_days_24 mo_X11_refused lk_X11_109 (by decide) rfl rfl (S _ _ rfl) (Nat.le_of_ble_eq_true rfl) (Nat.le_of_ble_eq_true rfl) (t_refused d S R 1 (by decide)) (fun v1 h1 p1 x1 => ?_)
      rw [p1.1, p1.2]
      try dsimp only [Option.toList, List.cons_append, List.nil_append, List.append]
      refine Rp.ireturn dX11_days_27 rfl ?_
      exact ⟨rfl, rfl⟩
    · skip
      refine Rp.iload_n dX11_days_11 rfl ?_
      refine Rp.iconst (nI 1) dX11_days_12 (by decide) ?_
      first | ((with_reducible show Rp _ _ _ _ (.int (nI _) :: .int (nI _) :: _) _ _); refine Rp.icmp_ltN (tgt := 22) dX11_days_13 (by decide) (by omega) (fun c13 => ?_) (fun c13 => ?_)) | refine Rp.icmp_lt (tgt := 22) dX11_days_13 (by decide) (fun c13 => ?_) (fun c13 => ?_)
      · skip
        refine Rp.aload_n dX11_days_22 rfl rfl ?_
        refine Rp.iconst (-1) dX11_days_23 (by decide) ?_
        refine Rp.callV1 M_X11_refused (ci := 11) dX11_days_24 mo_X11_refused lk_X11_109 (by decide) rfl rfl (S _ _ rfl) (Nat.le_of_ble_eq_true rfl) (Nat.le_of_ble_eq_true rfl) (t_refused d S R 1 (by decide)) (fun v1 h1 p1 x1 => ?_)
        rw [p1.1, p1.2]
        try dsimp only [Option.toList, List.cons_append, List.nil_append, List.append]
        refine Rp.ireturn dX11_days_27 rfl ?_
        exact ⟨rfl, rfl⟩
      · skip
        refine Rp.iload_n dX11_days_16 rfl ?_
        refine Rp.bipush (nI 60) dX11_days_17 (by decide) ?_
        first | ((with_reducible show Rp _ _ _ _ (.int (nI _) :: .int (nI _) :: _) _ _); refine Rp.icmp_leN (tgt := 28) dX11_days_19 (by decide) (by omega) (fun c19 => ?_) (fun c19 => ?_)) | refine Rp.icmp_le (tgt := 28) dX11_days_19 (by decide) (fun c19 => ?_) (fun c19 => ?_)
        · skip
          exact absurd (And.intro (And.intro (by rw [i32_lt] at c1; rw [i32_le]; exact Int.not_lt.mp c1) (by rw [i32_lt] at c8; rw [i32_le]; exact Int.not_lt.mp c8)) (And.intro (by rw [i32_lt] at c13; rw [i32_le]; exact Int.not_lt.mp c13) c19)) nq
        · skip
          refine Rp.aload_n dX11_days_22 rfl rfl ?_
          refine Rp.iconst (-1) dX11_days_23 (by decide) ?_
          refine Rp.callV1 M_X11_refused (ci := 11) dX11_days_24 mo_X11_refused lk_X11_109 (by decide) rfl rfl (S _ _ rfl) (Nat.le_of_ble_eq_true rfl) (Nat.le_of_ble_eq_true rfl) (t_refused d S R 1 (by decide)) (fun v1 h1 p1 x1 => ?_)
          rw [p1.1, p1.2]
          try dsimp only [Option.toList, List.cons_append, List.nil_append, List.append]
          refine Rp.ireturn dX11_days_27 rfl ?_
          exact ⟨rfl, rfl⟩
end Cd
