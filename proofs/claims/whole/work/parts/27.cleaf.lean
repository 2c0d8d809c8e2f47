section CL
variable (d : Nat) {h : AH}
theorem t_isPerson {k : Nat} (hs : h.1[k]? = some (2, clN 2)) (p : Int32) {np : Nat} (hp : np ≤ 6) (hM : gI h k fhall_people = nI np) : Rp d M_X2_isPerson 0 [some (.ref k), some (.int p)] [] h (fun r h' => h' = h ∧ r = some (.int (b2i (inN p np)))) := by
  refine Rp.iload_n dX2_isPerson_0 rfl ?_
  refine Rp.if_lt (tgt := 16) dX2_isPerson_1 (by decide) (fun c1 => ?_) (fun c1 => ?_)
  · skip
    refine Rp.iconst (nI 0) dX2_isPerson_16 (by decide) ?_
    refine Rp.zreturn dX2_isPerson_17 rfl (by first | exact Or.inl rfl | exact Or.inr rfl | assumption) ?_
    refine ⟨rfl, ?_⟩
    unfold inN
    first | rw [b2i_t (by simp only [i32_lt, i32_le, nI_toInt (show np < 2 ^ 31 by omega)] at *; first | omega | (have e : (0 : Int32).toInt = 0 := rfl; omega))] | rw [b2i_f (by simp only [i32_lt, i32_le, nI_toInt (show np < 2 ^ 31 by omega)] at *; first | omega | (have e : (0 : Int32).toInt = 0 := rfl; omega))]
  · skip
    refine Rp.iload_n dX2_isPerson_4 rfl ?_
    refine Rp.aload_n dX2_isPerson_5 rfl rfl ?_
    refine Rp.getI dX2_isPerson_6 fk_X2_71 rfl hs ?_
    rw [show gI h k 0 = nI np from hM]
    first | ((with_reducible show Rp _ _ _ _ (.int (nI _) :: .int (nI _) :: _) _ _); refine Rp.icmp_geN (tgt := 16) dX2_isPerson_9 (by decide) (by omega) (fun c9 => ?_) (fun c9 => ?_)) | refine Rp.icmp_ge (tgt := 16) dX2_isPerson_9 (by decide) (fun c9 => ?_) (fun c9 => ?_)
    · skip
      refine Rp.iconst (nI 0) dX2_isPerson_16 (by decide) ?_
      refine Rp.zreturn dX2_isPerson_17 rfl (by first | exact Or.inl rfl | exact Or.inr rfl | assumption) ?_
      refine ⟨rfl, ?_⟩
      unfold inN
      first | rw [b2i_t (by simp only [i32_lt, i32_le, nI_toInt (show np < 2 ^ 31 by omega)] at *; first | omega | (have e : (0 : Int32).toInt = 0 := rfl; omega))] | rw [b2i_f (by simp only [i32_lt, i32_le, nI_toInt (show np < 2 ^ 31 by omega)] at *; first | omega | (have e : (0 : Int32).toInt = 0 := rfl; omega))]
    · skip
      refine Rp.iconst (nI 1) dX2_isPerson_12 (by decide) ?_
      refine Rp.goto (tgt := 17) dX2_isPerson_13 (by decide) ?_
      refine Rp.zreturn dX2_isPerson_17 rfl (by first | exact Or.inl rfl | exact Or.inr rfl | assumption) ?_
      refine ⟨rfl, ?_⟩
      unfold inN
      first | rw [b2i_t (by simp only [i32_lt, i32_le, nI_toInt (show np < 2 ^ 31 by omega)] at *; first | omega | (have e : (0 : Int32).toInt = 0 := rfl; omega))] | rw [b2i_f (by simp only [i32_lt, i32_le, nI_toInt (show np < 2 ^ 31 by omega)] at *; first | omega | (have e : (0 : Int32).toInt = 0 := rfl; omega))]
theorem t_isTicket {k : Nat} (hs : h.1[k]? = some (2, clN 2)) (p : Int32) {np : Nat} (hp : np ≤ 8) (hM : gI h k fhall_tickets = nI np) : Rp d M_X2_isTicket 0 [some (.ref k), some (.int p)] [] h (fun r h' => h' = h ∧ r = some (.int (b2i (inN p np)))) := by
  refine Rp.iload_n dX2_isTicket_0 rfl ?_
  refine Rp.if_lt (tgt := 16) dX2_isTicket_1 (by decide) (fun c1 => ?_) (fun c1 => ?_)
  · skip
    refine Rp.iconst (nI 0) dX2_isTicket_16 (by decide) ?_
    refine Rp.zreturn dX2_isTicket_17 rfl (by first | exact Or.inl rfl | exact Or.inr rfl | assumption) ?_
    refine ⟨rfl, ?_⟩
    unfold inN
    first | rw [b2i_t (by simp only [i32_lt, i32_le, nI_toInt (show np < 2 ^ 31 by omega)] at *; first | omega | (have e : (0 : Int32).toInt = 0 := rfl; omega))] | rw [b2i_f (by simp only [i32_lt, i32_le, nI_toInt (show np < 2 ^ 31 by omega)] at *; first | omega | (have e : (0 : Int32).toInt = 0 := rfl; omega))]
  · skip
    refine Rp.iload_n dX2_isTicket_4 rfl ?_
    refine Rp.aload_n dX2_isTicket_5 rfl rfl ?_
    refine Rp.getI dX2_isTicket_6 fk_X2_80 rfl hs ?_
    rw [show gI h k 5 = nI np from hM]
    first | ((with_reducible show Rp _ _ _ _ (.int (nI _) :: .int (nI _) :: _) _ _); refine Rp.icmp_geN (tgt := 16) dX2_isTicket_9 (by decide) (by omega) (fun c9 => ?_) (fun c9 => ?_)) | refine Rp.icmp_ge (tgt := 16) dX2_isTicket_9 (by decide) (fun c9 => ?_) (fun c9 => ?_)
    · skip
      refine Rp.iconst (nI 0) dX2_isTicket_16 (by decide) ?_
      refine Rp.zreturn dX2_isTicket_17 rfl (by first | exact Or.inl rfl | exact Or.inr rfl | assumption) ?_
      refine ⟨rfl, ?_⟩
      unfold inN
      first | rw [b2i_t (by simp only [i32_lt, i32_le, nI_toInt (show np < 2 ^ 31 by omega)] at *; first | omega | (have e : (0 : Int32).toInt = 0 := rfl; omega))] | rw [b2i_f (by simp only [i32_lt, i32_le, nI_toInt (show np < 2 ^ 31 by omega)] at *; first | omega | (have e : (0 : Int32).toInt = 0 := rfl; omega))]
    · skip
      refine Rp.iconst (nI 1) dX2_isTicket_12 (by decide) ?_
      refine Rp.goto (tgt := 17) dX2_isTicket_13 (by decide) ?_
      refine Rp.zreturn dX2_isTicket_17 rfl (by first | exact Or.inl rfl | exact Or.inr rfl | assumption) ?_
      refine ⟨rfl, ?_⟩
      unfold inN
      first | rw [b2i_t (by simp only [i32_lt, i32_le, nI_toInt (show np < 2 ^ 31 by omega)] at *; first | omega | (have e : (0 : Int32).toInt = 0 := rfl; omega))] | rw [b2i_f (by simp only [i32_lt, i32_le, nI_toInt (show np < 2 ^ 31 by omega)] at *; first | omega | (have e : (0 : Int32).toInt = 0 := rfl; omega))]
theorem t_isLaw {k : Nat} (hs : h.1[k]? = some (2, clN 2)) (p : Int32) {np : Nat} (hp : np ≤ 6) (hM : gI h k fhall_laws = nI np) : Rp d M_X2_isLaw 0 [some (.ref k), some (.int p)] [] h (fun r h' => h' = h ∧ r = some (.int (b2i (inN p np)))) := by
  refine Rp.iload_n dX2_isLaw_0 rfl ?_
  refine Rp.if_lt (tgt := 16) dX2_isLaw_1 (by decide) (fun c1 => ?_) (fun c1 => ?_)
  · skip
    refine Rp.iconst (nI 0) dX2_isLaw_16 (by decide) ?_
    refine Rp.zreturn dX2_isLaw_17 rfl (by first | exact Or.inl rfl | exact Or.inr rfl | assumption) ?_
    refine ⟨rfl, ?_⟩
    unfold inN
    first | rw [b2i_t (by simp only [i32_lt, i32_le, nI_toInt (show np < 2 ^ 31 by omega)] at *; first | omega | (have e : (0 : Int32).toInt = 0 := rfl; omega))] | rw [b2i_f (by simp only [i32_lt, i32_le, nI_toInt (show np < 2 ^ 31 by omega)] at *; first | omega | (have e : (0 : Int32).toInt = 0 := rfl; omega))]
  · skip
    refine Rp.iload_n dX2_isLaw_4 rfl ?_
    refine Rp.aload_n dX2_isLaw_5 rfl rfl ?_
    refine Rp.getI dX2_isLaw_6 fk_X2_89 rfl hs ?_
    rw [show gI h k 16 = nI np from hM]
    first | ((with_reducible show Rp _ _ _ _ (.int (nI _) :: .int (nI _) :: _) _ _); refine Rp.icmp_geN (tgt := 16) dX2_isLaw_9 (by decide) (by omega) (fun c9 => ?_) (fun c9 => ?_)) | refine Rp.icmp_ge (tgt := 16) dX2_isLaw_9 (by decide) (fun c9 => ?_) (fun c9 => ?_)
    · skip
      refine Rp.iconst (nI 0) dX2_isLaw_16 (by decide) ?_
      refine Rp.zreturn dX2_isLaw_17 rfl (by first | exact Or.inl rfl | exact Or.inr rfl | assumption) ?_
      refine ⟨rfl, ?_⟩
      unfold inN
      first | rw [b2i_t (by simp only [i32_lt, i32_le, nI_toInt (show np < 2 ^ 31 by omega)] at *; first | omega | (have e : (0 : Int32).toInt = 0 := rfl; omega))] | rw [b2i_f (by simp only [i32_lt, i32_le, nI_toInt (show np < 2 ^ 31 by omega)] at *; first | omega | (have e : (0 : Int32).toInt = 0 := rfl; omega))]
    · skip
      refine Rp.iconst (nI 1) dX2_isLaw_12 (by decide) ?_
      refine Rp.goto (tgt := 17) dX2_isLaw_13 (by decide) ?_
      refine Rp.zreturn dX2_isLaw_17 rfl (by first | exact Or.inl rfl | exact Or.inr rfl | assumption) ?_
      refine ⟨rfl, ?_⟩
      unfold inN
      first | rw [b2i_t (by simp only [i32_lt, i32_le, nI_toInt (show np < 2 ^ 31 by omega)] at *; first | omega | (have e : (0 : Int32).toInt = 0 := rfl; omega))] | rw [b2i_f (by simp only [i32_lt, i32_le, nI_toInt (show np < 2 ^ 31 by omega)] at *; first | omega | (have e : (0 : Int32).toInt = 0 := rfl; omega))]
def stH (h : AH) : AH := sI (sI h at_plan fplan_aboutKnown (nI 0)) at_plan fplan_waysKnown (nI 0)
theorem t_markStale (S : ShOK h) : Rp d M_X6_markStale 0 [some (.ref at_plan)] [] h (fun r h' => h' = stH h ∧ r = none) := by
  refine Rp.aload_n dX6_markStale_0 rfl rfl ?_
  refine Rp.iconst (nI 0) dX6_markStale_1 (by decide) ?_
  refine Rp.putZ dX6_markStale_2 fk_X6_35w rfl (by first | exact Or.inl rfl | exact Or.inr rfl | assumption) (S _ _ rfl) ?_
  refine Rp.aload_n dX6_markStale_5 rfl rfl ?_
  refine Rp.iconst (nI 0) dX6_markStale_6 (by decide) ?_
  refine Rp.putZ dX6_markStale_7 fk_X6_39w rfl (by first | exact Or.inl rfl | exact Or.inr rfl | assumption) (S _ _ rfl) ?_
  refine Rp.vreturn dX6_markStale_10 rfl ?_
  exact ⟨rfl, rfl⟩
theorem t_clear {k : Nat} (hs : h.1[k]? = some (4, clN 4)) : Rp d M_X4_clear 0 [some (.ref k)] [] h (fun r h' => h' = sI h k flog_size (nI 0) ∧ r = none) := by
  refine Rp.aload_n dX4_clear_0 rfl rfl ?_
  refine Rp.iconst (nI 0) dX4_clear_1 (by decide) ?_
  refine Rp.putI dX4_clear_2 fk_X4_13w rfl hs ?_
  refine Rp.vreturn dX4_clear_5 rfl ?_
  exact ⟨rfl, rfl⟩
theorem t_status (S : ShOK h) : Rp d M_X11_status 0 [some (.ref 0)] [] h (fun r h' => h' = h ∧ r = some (.int (gI h 0 ft_latestStatus))) := by
  refine Rp.aload_n dX11_status_0 rfl rfl ?_
  refine Rp.getI dX11_status_1 fk_X11_382 rfl (S _ _ rfl) ?_
  refine Rp.ireturn dX11_status_4 rfl ?_
  exact ⟨rfl, rfl⟩
theorem t_scraps (S : ShOK h) : Rp d M_X11_scraps 0 [some (.ref 0)] [] h (fun r h' => h' = h ∧ r = some (.int (gI h 0 ft_latestScraps))) := by
  refine Rp.aload_n dX11_scraps_0 rfl rfl ?_
  refine Rp.getI dX11_scraps_1 fk_X11_197 rfl (S _ _ rfl) ?_
  refine Rp.ireturn dX11_scraps_4 rfl ?_
  exact ⟨rfl, rfl⟩
theorem t_stopped (S : ShOK h) : Rp d M_X11_stopped 0 [some (.ref 0)] [] h (fun r h' => h' = h ∧ r = some (.int (gI h 0 ft_stoppedAt))) := by
  refine Rp.aload_n dX11_stopped_0 rfl rfl ?_
  refine Rp.getI dX11_stopped_1 fk_X11_95 rfl (S _ _ rfl) ?_
  refine Rp.ireturn dX11_stopped_4 rfl ?_
  exact ⟨rfl, rfl⟩
theorem t_fault (S : ShOK h) (R : RfOK h) : Rp d M_X11_fault 0 [some (.ref 0)] [] h (fun r h' => h' = h ∧ r = some (.int (gI h at_reader freader_fault))) := by
  refine Rp.aload_n dX11_fault_0 rfl rfl ?_
  refine Rp.getR dX11_fault_1 fk_X11_30 rfl (S _ _ rfl) (R _ _ _ rfl) ?_
  refine Rp.getI dX11_fault_4 fk_X11_233 rfl (S _ _ rfl) ?_
  refine Rp.ireturn dX11_fault_7 rfl ?_
  exact ⟨rfl, rfl⟩
def acH (h : AH) : AH := stH (sI h 0 ft_latestStatus (nI 0))
theorem t_accepted (S : ShOK h) (R : RfOK h) (v : Int32) : Rp (d + 1) M_X11_accepted 0 [some (.ref 0), some (.int v)] [] h (fun r h' => h' = acH h ∧ r = some (.int v)) := by
  refine Rp.aload_n dX11_accepted_0 rfl rfl ?_
  refine Rp.iconst (nI 0) dX11_accepted_1 (by decide) ?_
  refine Rp.putI dX11_accepted_2 fk_X11_382w rfl (S _ _ rfl) ?_
  refine Rp.aload_n dX11_accepted_5 rfl rfl ?_
  refine Rp.getR dX11_accepted_6 fk_X11_64 rfl (S _ _ rfl) (R _ _ _ rfl) ?_
  refine Rp.callV0 M_X6_markStale (ci := 6) dX11_accepted_9 mo_X6_markStale lk_X11_331 (by decide) rfl rfl (S _ _ rfl) (Nat.le_of_ble_eq_true rfl) (Nat.le_of_ble_eq_true rfl) (t_markStale d (h := sI h 0 ft_latestStatus (nI 0)) S) (fun v1 h1 p1 x1 => ?_)
  rw [p1.1, p1.2]
  try dsimp only [Option.toList, List.cons_append, List.nil_append, List.append]
  refine Rp.iload_n dX11_accepted_12 rfl ?_
  refine Rp.ireturn dX11_accepted_13 rfl ?_
  exact ⟨rfl, rfl⟩
/-- refused(-k): the place of the count of refusals of that kind -/
def rfP (k : Nat) : Nat := if k ≤ 3 then k - 1 else k - 2
def rcH (h : AH) (k : Nat) : AH := sI (sI h 0 ft_latestStatus (-nI k)) at_refusals (rfP k) (gI h at_refusals (rfP k) + nI 1)
theorem t_refused (S : ShOK h) (R : RfOK h) (k : Nat) (hk : k = 1 ∨ k = 2 ∨ k = 3 ∨ k = 5 ∨ k = 6) : Rp d M_X11_refused 0 [some (.ref 0), some (.int (-nI k)), none] [] h (fun r h' => h' = rcH h k ∧ r = some (.int (-nI k))) := by
  rcases hk with rfl | rfl | rfl | rfl | rfl
  · skip
    refine Rp.aload_n dX11_refused_0 rfl rfl ?_
    refine Rp.iload_n dX11_refused_1 rfl ?_
    refine Rp.putI dX11_refused_2 fk_X11_382w rfl (S _ _ rfl) ?_
    refine Rp.iload_n dX11_refused_5 rfl ?_
    refine Rp.bipush (-3) dX11_refused_6 (by decide) ?_
    first | ((with_reducible show Rp _ _ _ _ (.int (nI _) :: .int (nI _) :: _) _ _); refine Rp.icmp_ltN (tgt := 17) dX11_refused_8 (by decide) (by omega) (fun c8 => ?_) (fun c8 => ?_)) | refine Rp.icmp_lt (tgt := 17) dX11_refused_8 (by decide) (fun c8 => ?_) (fun c8 => ?_)
    · skip
      exact absurd c8 (by decide)
    · skip
      refine Rp.iconst (-1) dX11_refused_11 (by decide) ?_
      refine Rp.iload_n dX11_refused_12 rfl ?_
      first | ((with_reducible show Rp _ _ _ _ (.int (nI _) :: .int (nI _) :: _) _ _); refine Rp.isubN dX11_refused_13 (by omega) ?_) | refine Rp.isub dX11_refused_13 ?_
      refine Rp.goto (tgt := 21) dX11_refused_14 (by decide) ?_
      refine Rp.ist2 dX11_refused_21 (by first | exact nl2_some rfl | exact nl2_none) (by decide) ?_
      refine Rp.iload_n dX11_refused_22 rfl ?_
      refine Rp.if_lt (tgt := 45) dX11_refused_23 (by decide) (fun c23 => ?_) (fun c23 => ?_)
      · skip
        exact absurd c23 (by decide)
      · skip
        refine Rp.iload_n dX11_refused_26 rfl ?_
        refine Rp.aload_n dX11_refused_27 rfl rfl ?_
        refine Rp.getR dX11_refused_28 fk_X11_84 rfl (S _ _ rfl) (R _ _ _ rfl) ?_
        refine Rp.alen dX11_refused_31 (S _ _ rfl) (by decide) (by decide) ?_
        first | ((with_reducible show Rp _ _ _ _ (.int (nI _) :: .int (nI _) :: _) _ _); refine Rp.icmp_geN (tgt := 45) dX11_refused_32 (by decide) (by omega) (fun c32 => ?_) (fun c32 => ?_)) | refine Rp.icmp_ge (tgt := 45) dX11_refused_32 (by decide) (fun c32 => ?_) (fun c32 => ?_)
        · skip
          exact absurd c32 (by decide)
        · skip
          refine Rp.aload_n dX11_refused_35 rfl rfl ?_
          refine Rp.getR dX11_refused_36 fk_X11_84 rfl (S _ _ rfl) (R _ _ _ rfl) ?_
          refine Rp.iload_n dX11_refused_39 rfl ?_
          refine Rp.dup2 dX11_refused_40 rfl rfl ?_
          first | ((with_reducible show Rp _ _ _ _ (.int (nI _) :: _) _ _); refine Rp.ialoadN dX11_refused_41 (S _ _ rfl) (by omega) ?_) | refine Rp.iaload dX11_refused_41 (S _ _ rfl) (by first | assumption | exact vpb (by decide)) ?_
          refine Rp.iconst (nI 1) dX11_refused_42 (by decide) ?_
          first | ((with_reducible show Rp _ _ _ _ (.int (nI _) :: .int (nI _) :: _) _ _); refine Rp.iaddN dX11_refused_43 ?_) | refine Rp.iadd dX11_refused_43 ?_
          first | ((with_reducible show Rp _ _ _ _ (_ :: .int (nI _) :: _) _ _); refine Rp.iastoreN dX11_refused_44 (S _ _ rfl) (by omega) ?_) | refine Rp.iastore dX11_refused_44 (S _ _ rfl) (by first | assumption | exact vpb (by decide)) ?_
          refine Rp.iload_n dX11_refused_45 rfl ?_
          refine Rp.ireturn dX11_refused_46 rfl ?_
          exact ⟨rfl, rfl⟩
  · skip
    refine Rp.aload_n dX11_refused_0 rfl rfl ?_
    refine Rp.iload_n dX11_refused_1 rfl ?_
    refine Rp.putI dX11_refused_2 fk_X11_382w rfl (S _ _ rfl) ?_
    refine Rp.iload_n dX11_refused_5 rfl ?_
    refine Rp.bipush (-3) dX11_refused_6 (by decide) ?_
    first | ((with_reducible show Rp _ _ _ _ (.int (nI _) :: .int (nI _) :: _) _ _); refine Rp.icmp_ltN (tgt := 17) dX11_refused_8 (by decide) (by omega) (fun c8 => ?_) (fun c8 => ?_)) | refine Rp.icmp_lt (tgt := 17) dX11_refused_8 (by decide) (fun c8 => ?_) (fun c8 => ?_)
    · skip
      exact absurd c8 (by decide)
    · skip
      refine Rp.iconst (-1) dX11_refused_11 (by decide) ?_
      refine Rp.iload_n dX11_refused_12 rfl ?_
      first | ((with_reducible show Rp _ _ _ _ (.int (nI _) :: .int (nI _) :: _) _ _); refine Rp.isubN dX11_refused_13 (by omega) ?_) | refine Rp.isub dX11_refused_13 ?_
      refine Rp.goto (tgt := 21) dX11_refused_14 (by decide) ?_
      refine Rp.ist2 dX11_refused_21 (by first | exact nl2_some rfl | exact nl2_none) (by decide) ?_
      refine Rp.iload_n dX11_refused_22 rfl ?_
      refine Rp.if_lt (tgt := 45) dX11_refused_23 (by decide) (fun c23 => ?_) (fun c23 => ?_)
      · skip
        exact absurd c23 (by decide)
      · skip
        refine Rp.iload_n dX11_refused_26 rfl ?_
        refine Rp.aload_n dX11_refused_27 rfl rfl ?_
        refine Rp.getR dX11_refused_28 fk_X11_84 rfl (S _ _ rfl) (R _ _ _ rfl) ?_
        refine Rp.alen dX11_refused_31 (S _ _ rfl) (by decide) (by decide) ?_
        first | ((with_reducible show Rp _ _ _ _ (.int (nI _) :: .int (nI _) :: _) _ _); refine Rp.icmp_geN (tgt := 45) dX11_refused_32 (by decide) (by omega) (fun c32 => ?_) (fun c32 => ?_)) | refine Rp.icmp_ge (tgt := 45) dX11_refused_32 (by decide) (fun c32 => ?_) (fun c32 => ?_)
        · skip
          exact absurd c32 (by decide)
        · skip
          refine Rp.aload_n dX11_refused_35 rfl rfl ?_
          refine Rp.getR dX11_refused_36 fk_X11_84 rfl (S _ _ rfl) (R _ _ _ rfl) ?_
          refine Rp.iload_n dX11_refused_39 rfl ?_
          refine Rp.dup2 dX11_refused_40 rfl rfl ?_
          first | ((with_reducible show Rp _ _ _ _ (.int (nI _) :: _) _ _); refine Rp.ialoadN dX11_refused_41 (S _ _ rfl) (by omega) ?_) | refine Rp.iaload dX11_refused_41 (S _ _ rfl) (by first | assumption | exact vpb (by decide)) ?_
          refine Rp.iconst (nI 1) dX11_refused_42 (by decide) ?_
          first | ((with_reducible show Rp _ _ _ _ (.int (nI _) :: .int (nI _) :: _) _ _); refine Rp.iaddN dX11_refused_43 ?_) | refine Rp.iadd dX11_refused_43 ?_
          first | ((with_reducible show Rp _ _ _ _ (_ :: .int (nI _) :: _) _ _); refine Rp.iastoreN dX11_refused_44 (S _ _ rfl) (by omega) ?_) | refine Rp.iastore dX11_refused_44 (S _ _ rfl) (by first | assumption | exact vpb (by decide)) ?_
          refine Rp.iload_n dX11_refused_45 rfl ?_
          refine Rp.ireturn dX11_refused_46 rfl ?_
          exact ⟨rfl, rfl⟩
  · skip
    refine Rp.aload_n dX11_refused_0 rfl rfl ?_
    refine Rp.iload_n dX11_refused_1 rfl ?_
    refine Rp.putI dX11_refused_2 fk_X11_382w rfl (S _ _ rfl) ?_
    refine Rp.iload_n dX11_refused_5 rfl ?_
    refine Rp.bipush (-3) dX11_refused_6 (by decide) ?_
    first | ((with_reducible show Rp _ _ _ _ (.int (nI _) :: .int (nI _) :: _) _ _); refine Rp.icmp_ltN (tgt := 17) dX11_refused_8 (by decide) (by omega) (fun c8 => ?_) (fun c8 => ?_)) | refine Rp.icmp_lt (tgt := 17) dX11_refused_8 (by decide) (fun c8 => ?_) (fun c8 => ?_)
    · skip
      exact absurd c8 (by decide)
    · skip
      refine Rp.iconst (-1) dX11_refused_11 (by decide) ?_
      refine Rp.iload_n dX11_refused_12 rfl ?_
      first | ((with_reducible show Rp _ _ _ _ (.int (nI _) :: .int (nI _) :: _) _ _); refine Rp.isubN dX11_refused_13 (by omega) ?_) | refine Rp.isub dX11_refused_13 ?_
      refine Rp.goto (tgt := 21) dX11_refused_14 (by decide) ?_
      refine Rp.ist2 dX11_refused_21 (by first | exact nl2_some rfl | exact nl2_none) (by decide) ?_
      refine Rp.iload_n dX11_refused_22 rfl ?_
      refine Rp.if_lt (tgt := 45) dX11_refused_23 (by decide) (fun c23 => ?_) (fun c23 => ?_)
      · skip
        exact absurd c23 (by decide)
      · skip
        refine Rp.iload_n dX11_refused_26 rfl ?_
        refine Rp.aload_n dX11_refused_27 rfl rfl ?_
        refine Rp.getR dX11_refused_28 fk_X11_84 rfl (S _ _ rfl) (R _ _ _ rfl) ?_
        refine Rp.alen dX11_refused_31 (S _ _ rfl) (by decide) (by decide) ?_
        first | ((with_reducible show Rp _ _ _ _ (.int (nI _) :: .int (nI _) :: _) _ _); refine Rp.icmp_geN (tgt := 45) dX11_refused_32 (by decide) (by omega) (fun c32 => ?_) (fun c32 => ?_)) | refine Rp.icmp_ge (tgt := 45) dX11_refused_32 (by decide) (fun c32 => ?_) (fun c32 => ?_)
        · skip
          exact absurd c32 (by decide)
        · skip
          refine Rp.aload_n dX11_refused_35 rfl rfl ?_
          refine Rp.getR dX11_refused_36 fk_X11_84 rfl (S _ _ rfl) (R _ _ _ rfl) ?_
          refine Rp.iload_n dX11_refused_39 rfl ?_
          refine Rp.dup2 dX11_refused_40 rfl rfl ?_
          first | ((with_reducible show Rp _ _ _ _ (.int (nI _) :: _) _ _); refine Rp.ialoadN dX11_refused_41 (S _ _ rfl) (by omega) ?_) | refine Rp.iaload dX11_refused_41 (S _ _ rfl) (by first | assumption | exact vpb (by decide)) ?_
          refine Rp.iconst (nI 1) dX11_refused_42 (by decide) ?_
          first | ((with_reducible show Rp _ _ _ _ (.int (nI _) :: .int (nI _) :: _) _ _); refine Rp.iaddN dX11_refused_43 ?_) | refine Rp.iadd dX11_refused_43 ?_
          first | ((with_reducible show Rp _ _ _ _ (_ :: .int (nI _) :: _) _ _); refine Rp.iastoreN dX11_refused_44 (S _ _ rfl) (by omega) ?_) | refine Rp.iastore dX11_refused_44 (S _ _ rfl) (by first | assumption | exact vpb (by decide)) ?_
          refine Rp.iload_n dX11_refused_45 rfl ?_
          refine Rp.ireturn dX11_refused_46 rfl ?_
          exact ⟨rfl, rfl⟩
  · skip
    refine Rp.aload_n dX11_refused_0 rfl rfl ?_
    refine Rp.iload_n dX11_refused_1 rfl ?_
    refine Rp.putI dX11_refused_2 fk_X11_382w rfl (S _ _ rfl) ?_
    refine Rp.iload_n dX11_refused_5 rfl ?_
    refine Rp.bipush (-3) dX11_refused_6 (by decide) ?_
    first | ((with_reducible show Rp _ _ _ _ (.int (nI _) :: .int (nI _) :: _) _ _); refine Rp.icmp_ltN (tgt := 17) dX11_refused_8 (by decide) (by omega) (fun c8 => ?_) (fun c8 => ?_)) | refine Rp.icmp_lt (tgt := 17) dX11_refused_8 (by decide) (fun c8 => ?_) (fun c8 => ?_)
    · skip
      refine Rp.bipush (-2) dX11_refused_17 (by decide) ?_
      refine Rp.iload_n dX11_refused_19 rfl ?_
      first | ((with_reducible show Rp _ _ _ _ (.int (nI _) :: .int (nI _) :: _) _ _); refine Rp.isubN dX11_refused_20 (by omega) ?_) | refine Rp.isub dX11_refused_20 ?_
      refine Rp.ist2 dX11_refused_21 (by first | exact nl2_some rfl | exact nl2_none) (by decide) ?_
      refine Rp.iload_n dX11_refused_22 rfl ?_
      refine Rp.if_lt (tgt := 45) dX11_refused_23 (by decide) (fun c23 => ?_) (fun c23 => ?_)
      · skip
        exact absurd c23 (by decide)
      · skip
        refine Rp.iload_n dX11_refused_26 rfl ?_
        refine Rp.aload_n dX11_refused_27 rfl rfl ?_
        refine Rp.getR dX11_refused_28 fk_X11_84 rfl (S _ _ rfl) (R _ _ _ rfl) ?_
        refine Rp.alen dX11_refused_31 (S _ _ rfl) (by decide) (by decide) ?_
        first | ((with_reducible show Rp _ _ _ _ (.int (nI _) :: .int (nI _) :: _) _ _); refine Rp.icmp_geN (tgt := 45) dX11_refused_32 (by decide) (by omega) (fun c32 => ?_) (fun c32 => ?_)) | refine Rp.icmp_ge (tgt := 45) dX11_refused_32 (by decide) (fun c32 => ?_) (fun c32 => ?_)
        · skip
          exact absurd c32 (by decide)
        · skip
          refine Rp.aload_n dX11_refused_35 rfl rfl ?_
          refine Rp.getR dX11_refused_36 fk_X11_84 rfl (S _ _ rfl) (R _ _ _ rfl) ?_
          refine Rp.iload_n dX11_refused_39 rfl ?_
          refine Rp.dup2 dX11_refused_40 rfl rfl ?_
          first | ((with_reducible show Rp _ _ _ _ (.int (nI _) :: _) _ _); refine Rp.ialoadN dX11_refused_41 (S _ _ rfl) (by omega) ?_) | refine Rp.iaload dX11_refused_41 (S _ _ rfl) (by first | assumption | exact vpb (by decide)) ?_
          refine Rp.iconst (nI 1) dX11_refused_42 (by decide) ?_
          first | ((with_reducible show Rp _ _ _ _ (.int (nI _) :: .int (nI _) :: _) _ _); refine Rp.iaddN dX11_refused_43 ?_) | refine Rp.iadd dX11_refused_43 ?_
          first | ((with_reducible show Rp _ _ _ _ (_ :: .int (nI _) :: _) _ _); refine Rp.iastoreN dX11_refused_44 (S _ _ rfl) (by omega) ?_) | refine Rp.iastore dX11_refused_44 (S _ _ rfl) (by first | assumption | exact vpb (by decide)) ?_
          refine Rp.iload_n dX11_refused_45 rfl ?_
          refine Rp.ireturn dX11_refused_46 rfl ?_
          exact ⟨rfl, rfl⟩
    · skip
      exact absurd (by decide) c8
  · skip
    refine Rp.aload_n dX11_refused_0 rfl rfl ?_
    refine Rp.iload_n dX11_refused_1 rfl ?_
    refine Rp.putI dX11_refused_2 fk_X11_382w rfl (S _ _ rfl) ?_
    refine Rp.iload_n dX11_refused_5 rfl ?_
    refine Rp.bipush (-3) dX11_refused_6 (by decide) ?_
    first | ((with_reducible show Rp _ _ _ _ (.int (nI _) :: .int (nI _) :: _) _ _); refine Rp.icmp_ltN (tgt := 17) dX11_refused_8 (by decide) (by omega) (fun c8 => ?_) (fun c8 => ?_)) | refine Rp.icmp_lt (tgt := 17) dX11_refused_8 (by decide) (fun c8 => ?_) (fun c8 => ?_)
    · skip
      refine Rp.bipush (-2) dX11_refused_17 (by decide) ?_
      refine Rp.iload_n dX11_refused_19 rfl ?_
      first | ((with_reducible show Rp _ _ _ _ (.int (nI _) :: .int (nI _) :: _) _ _); refine Rp.isubN dX11_refused_20 (by omega) ?_) | refine Rp.isub dX11_refused_20 ?_
      refine Rp.ist2 dX11_refused_21 (by first | exact nl2_some rfl | exact nl2_none) (by decide) ?_
      refine Rp.iload_n dX11_refused_22 rfl ?_
      refine Rp.if_lt (tgt := 45) dX11_refused_23 (by decide) (fun c23 => ?_) (fun c23 => ?_)
      · skip
        exact absurd c23 (by decide)
      · skip
        refine Rp.iload_n dX11_refused_26 rfl ?_
        refine Rp.aload_n dX11_refused_27 rfl rfl ?_
        refine Rp.getR dX11_refused_28 fk_X11_84 rfl (S _ _ rfl) (R _ _ _ rfl) ?_
        refine Rp.alen dX11_refused_31 (S _ _ rfl) (by decide) (by decide) ?_
        first | ((with_reducible show Rp _ _ _ _ (.int (nI _) :: .int (nI _) :: _) _ _); refine Rp.icmp_geN (tgt := 45) dX11_refused_32 (by decide) (by omega) (fun c32 => ?_) (fun c32 => ?_)) | refine Rp.icmp_ge (tgt := 45) dX11_refused_32 (by decide) (fun c32 => ?_) (fun c32 => ?_)
        · skip
          exact absurd c32 (by decide)
        · skip
          refine Rp.aload_n dX11_refused_35 rfl rfl ?_
          refine Rp.getR dX11_refused_36 fk_X11_84 rfl (S _ _ rfl) (R _ _ _ rfl) ?_
          refine Rp.iload_n dX11_refused_39 rfl ?_
          refine Rp.dup2 dX11_refused_40 rfl rfl ?_
          first | ((with_reducible show Rp _ _ _ _ (.int (nI _) :: _) _ _); refine Rp.ialoadN dX11_refused_41 (S _ _ rfl) (by omega) ?_) | refine Rp.iaload dX11_refused_41 (S _ _ rfl) (by first | assumption | exact vpb (by decide)) ?_
          refine Rp.iconst (nI 1) dX11_refused_42 (by decide) ?_
          first | ((with_reducible show Rp _ _ _ _ (.int (nI _) :: .int (nI _) :: _) _ _); refine Rp.iaddN dX11_refused_43 ?_) | refine Rp.iadd dX11_refused_43 ?_
          first | ((with_reducible show Rp _ _ _ _ (_ :: .int (nI _) :: _) _ _); refine Rp.iastoreN dX11_refused_44 (S _ _ rfl) (by omega) ?_) | refine Rp.iastore dX11_refused_44 (S _ _ rfl) (by first | assumption | exact vpb (by decide)) ?_
          refine Rp.iload_n dX11_refused_45 rfl ?_
          refine Rp.ireturn dX11_refused_46 rfl ?_
          exact ⟨rfl, rfl⟩
    · skip
      exact absurd (by decide) c8
def mForgetC (h : AH) : Int32 × AH := (gI h at_hall fhall_tolds, stH (sI h at_hall fhall_tolds (nI 0)))
theorem t_forget (S : ShOK h) (R : RfOK h) : Rp (d + 1) M_X11_forget 0 [some (.ref 0), none] [] h (fun r h' => h' = (mForgetC h).2 ∧ r = some (.int (mForgetC h).1)) := by
  refine Rp.aload_n dX11_forget_0 rfl rfl ?_
  refine Rp.getR dX11_forget_1 fk_X11_10 rfl (S _ _ rfl) (R _ _ _ rfl) ?_
  refine Rp.getI dX11_forget_4 fk_X11_322 rfl (S _ _ rfl) ?_
  refine Rp.ist1 dX11_forget_7 (by first | exact nl2_some rfl | exact nl2_none) (by decide) ?_
  refine Rp.aload_n dX11_forget_8 rfl rfl ?_
  refine Rp.getR dX11_forget_9 fk_X11_10 rfl (S _ _ rfl) (R _ _ _ rfl) ?_
  refine Rp.iconst (nI 0) dX11_forget_12 (by decide) ?_
  refine Rp.putI dX11_forget_13 fk_X11_322w rfl (S _ _ rfl) ?_
  refine Rp.aload_n dX11_forget_16 rfl rfl ?_
  refine Rp.getR dX11_forget_17 fk_X11_64 rfl (S _ _ rfl) (R _ _ _ rfl) ?_
  refine Rp.callV0 M_X6_markStale (ci := 6) dX11_forget_20 mo_X6_markStale lk_X11_331 (by decide) rfl rfl (S _ _ rfl) (Nat.le_of_ble_eq_true rfl) (Nat.le_of_ble_eq_true rfl) (t_markStale d (h := sI h at_hall fhall_tolds (nI 0)) S) (fun v1 h1 p1 x1 => ?_)
  rw [p1.1, p1.2]
  try dsimp only [Option.toList, List.cons_append, List.nil_append, List.append]
  refine Rp.iload_n dX11_forget_23 rfl ?_
  refine Rp.ireturn dX11_forget_24 rfl ?_
  exact ⟨rfl, rfl⟩
theorem inN_tl {p : Int32} (h : p < 0) (n : Nat) : inN p n = false := by
  unfold inN
  rw [decide_eq_false_iff_not]
  simp only [i32_lt] at h
  have e : (0 : Int32).toInt = 0 := rfl
  omega
theorem inN_tg {p : Int32} {n : Nat} (hn : n < 1000000) (h : nI n < p) : inN p (n + 1) = false := by
  unfold inN
  rw [decide_eq_false_iff_not]
  simp only [i32_lt, nI_toInt (show n < 2 ^ 31 by omega)] at h
  omega
theorem inN_tt {p : Int32} {n : Nat} (hn : n < 1000000) (h0 : ¬ p < 0) (h : ¬ nI n < p) : inN p (n + 1) = true := by
  unfold inN
  rw [decide_eq_true_eq]
  simp only [i32_lt, nI_toInt (show n < 2 ^ 31 by omega)] at h h0
  have e : (0 : Int32).toInt = 0 := rfl
  omega
theorem inN_tle {p : Int32} {n : Nat} (hn : n < 1000000) (h0 : ¬ p < 0) (h : p ≤ nI n) : inN p (n + 1) = true := by
  refine inN_tt hn h0 (fun z => ?_)
  simp only [i32_lt, i32_le] at h z
  omega
theorem inN_tnle {p : Int32} {n : Nat} (hn : n < 1000000) (h : ¬ p ≤ nI n) : inN p (n + 1) = false := by
  refine inN_tg hn ?_
  simp only [i32_lt, i32_le] at h ⊢
  omega
def cPer (h : AH) (b p : Int32) (np : Nat) : Int32 × AH := if inN b 5 && inN p 100 then (if np = 6 then (-nI 5, h) else (nI np, sI (sI (sI h (at_hall + 1) np b) (at_hall + 2) np p) at_hall fhall_people (nI (np + 1)))) else (-nI 1, h)
theorem t_addPerson (S : ShOK h) (R : RfOK h) (b p : Int32) {np : Nat} (hp : np ≤ 6) (hM : gI h at_hall fhall_people = nI np) : Rp d M_X2_addPerson 0 [some (.ref at_hall), some (.int b), some (.int p)] [] h (fun r h' => h' = (cPer h b p np).2 ∧ r = some (.int (cPer h b p np).1)) := by
  refine Rp.iload_n dX2_addPerson_0 rfl ?_
  refine Rp.if_lt (tgt := 19) dX2_addPerson_1 (by decide) (fun c1 => ?_) (fun c1 => ?_)
  · skip
    refine Rp.iconst (-1) dX2_addPerson_19 (by decide) ?_
    refine Rp.ireturn dX2_addPerson_20 rfl ?_
    unfold cPer
    first | (rw [inN_tl c1]; exact ⟨rfl, rfl⟩) | (rw [inN_tg (by decide) c6]; exact ⟨rfl, rfl⟩) | (rw [inN_tl c10, Bool.and_false]; exact ⟨rfl, rfl⟩) | (rw [inN_tnle (by decide) c16, Bool.and_false]; exact ⟨rfl, rfl⟩)
  · skip
    refine Rp.iload_n dX2_addPerson_4 rfl ?_
    refine Rp.iconst (nI 4) dX2_addPerson_5 (by decide) ?_
    first | ((with_reducible show Rp _ _ _ _ (.int (nI _) :: .int (nI _) :: _) _ _); refine Rp.icmp_gtN (tgt := 19) dX2_addPerson_6 (by decide) (by omega) (fun c6 => ?_) (fun c6 => ?_)) | refine Rp.icmp_gt (tgt := 19) dX2_addPerson_6 (by decide) (fun c6 => ?_) (fun c6 => ?_)
    · skip
      refine Rp.iconst (-1) dX2_addPerson_19 (by decide) ?_
      refine Rp.ireturn dX2_addPerson_20 rfl ?_
      unfold cPer
      first | (rw [inN_tl c1]; exact ⟨rfl, rfl⟩) | (rw [inN_tg (by decide) c6]; exact ⟨rfl, rfl⟩) | (rw [inN_tl c10, Bool.and_false]; exact ⟨rfl, rfl⟩) | (rw [inN_tnle (by decide) c16, Bool.and_false]; exact ⟨rfl, rfl⟩)
    · skip
      refine Rp.iload_n dX2_addPerson_9 rfl ?_
      refine Rp.if_lt (tgt := 19) dX2_addPerson_10 (by decide) (fun c10 => ?_) (fun c10 => ?_)
      · skip
        refine Rp.iconst (-1) dX2_addPerson_19 (by decide) ?_
        refine Rp.ireturn dX2_addPerson_20 rfl ?_
        unfold cPer
        first | (rw [inN_tl c1]; exact ⟨rfl, rfl⟩) | (rw [inN_tg (by decide) c6]; exact ⟨rfl, rfl⟩) | (rw [inN_tl c10, Bool.and_false]; exact ⟨rfl, rfl⟩) | (rw [inN_tnle (by decide) c16, Bool.and_false]; exact ⟨rfl, rfl⟩)
      · skip
        refine Rp.iload_n dX2_addPerson_13 rfl ?_
        refine Rp.bipush (nI 99) dX2_addPerson_14 (by decide) ?_
        first | ((with_reducible show Rp _ _ _ _ (.int (nI _) :: .int (nI _) :: _) _ _); refine Rp.icmp_leN (tgt := 21) dX2_addPerson_16 (by decide) (by omega) (fun c16 => ?_) (fun c16 => ?_)) | refine Rp.icmp_le (tgt := 21) dX2_addPerson_16 (by decide) (fun c16 => ?_) (fun c16 => ?_)
        · skip
          refine Rp.aload_n dX2_addPerson_21 rfl rfl ?_
          refine Rp.getI dX2_addPerson_22 fk_X2_71 rfl (S _ _ rfl) ?_
          rw [show gI h 1 0 = nI np from hM]
          refine Rp.bipush (nI 6) dX2_addPerson_25 (by decide) ?_
          first | ((with_reducible show Rp _ _ _ _ (.int (nI _) :: .int (nI _) :: _) _ _); refine Rp.icmp_ltN (tgt := 33) dX2_addPerson_27 (by decide) (by omega) (fun c27 => ?_) (fun c27 => ?_)) | refine Rp.icmp_lt (tgt := 33) dX2_addPerson_27 (by decide) (fun c27 => ?_) (fun c27 => ?_)
          · skip
            refine Rp.aload_n dX2_addPerson_33 rfl rfl ?_
            refine Rp.getR dX2_addPerson_34 fk_X2_9 rfl (S _ _ rfl) (R _ _ _ rfl) ?_
            refine Rp.aload_n dX2_addPerson_37 rfl rfl ?_
            refine Rp.getI dX2_addPerson_38 fk_X2_71 rfl (S _ _ rfl) ?_
            rw [show gI h 1 0 = nI np from hM]
            refine Rp.iload_n dX2_addPerson_41 rfl ?_
            first | ((with_reducible show Rp _ _ _ _ (_ :: .int (nI _) :: _) _ _); refine Rp.iastoreN dX2_addPerson_42 (S _ _ rfl) (by omega) ?_) | refine Rp.iastore dX2_addPerson_42 (S _ _ rfl) (by first | assumption | exact vpb (by decide)) ?_
            refine Rp.aload_n dX2_addPerson_43 rfl rfl ?_
            refine Rp.getR dX2_addPerson_44 fk_X2_15 rfl (S _ _ rfl) (R _ _ _ rfl) ?_
            refine Rp.aload_n dX2_addPerson_47 rfl rfl ?_
            refine Rp.getI dX2_addPerson_48 fk_X2_71 rfl (S _ _ rfl) ?_
            rw [show gI (sI h 2 np b) 1 0 = nI np from hM]
            refine Rp.iload_n dX2_addPerson_51 rfl ?_
            first | ((with_reducible show Rp _ _ _ _ (_ :: .int (nI _) :: _) _ _); refine Rp.iastoreN dX2_addPerson_52 (S _ _ rfl) (by omega) ?_) | refine Rp.iastore dX2_addPerson_52 (S _ _ rfl) (by first | assumption | exact vpb (by decide)) ?_
            refine Rp.aload_n dX2_addPerson_53 rfl rfl ?_
            refine Rp.dup dX2_addPerson_54 rfl ?_
            refine Rp.getI dX2_addPerson_55 fk_X2_71 rfl (S _ _ rfl) ?_
            rw [show gI (sI (sI h 2 np b) 3 np p) 1 0 = nI np from hM]
            refine Rp.iconst (nI 1) dX2_addPerson_58 (by decide) ?_
            first | ((with_reducible show Rp _ _ _ _ (.int (nI _) :: .int (nI _) :: _) _ _); refine Rp.iaddN dX2_addPerson_59 ?_) | refine Rp.iadd dX2_addPerson_59 ?_
            refine Rp.putI dX2_addPerson_60 fk_X2_71w rfl (S _ _ rfl) ?_
            refine Rp.aload_n dX2_addPerson_63 rfl rfl ?_
            refine Rp.getI dX2_addPerson_64 fk_X2_71 rfl (S _ _ rfl) ?_
            rw [show gI (sI (sI (sI h 2 np b) 3 np p) 1 0 (nI (np + 1))) 1 0 = nI (np + 1) from rfl]
            refine Rp.iconst (nI 1) dX2_addPerson_67 (by decide) ?_
            first | ((with_reducible show Rp _ _ _ _ (.int (nI _) :: .int (nI _) :: _) _ _); refine Rp.isubN dX2_addPerson_68 (by omega) ?_) | refine Rp.isub dX2_addPerson_68 ?_
            rw [show np + 1 - 1 = np by omega]
            refine Rp.ireturn dX2_addPerson_69 rfl ?_
            unfold cPer
            rw [inN_tt (by decide) c1 c6, inN_tle (by decide) c10 c16]
            simp [show ¬ np = 6 by omega]
          · skip
            refine Rp.bipush (-5) dX2_addPerson_30 (by decide) ?_
            refine Rp.ireturn dX2_addPerson_32 rfl ?_
            unfold cPer
            rw [inN_tt (by decide) c1 c6, inN_tle (by decide) c10 c16]
            simp only [Bool.and_self, if_true]
            rw [if_pos (show np = 6 by omega)]
            exact ⟨rfl, rfl⟩
        · skip
          refine Rp.iconst (-1) dX2_addPerson_19 (by decide) ?_
          refine Rp.ireturn dX2_addPerson_20 rfl ?_
          unfold cPer
          first | (rw [inN_tl c1]; exact ⟨rfl, rfl⟩) | (rw [inN_tg (by decide) c6]; exact ⟨rfl, rfl⟩) | (rw [inN_tl c10, Bool.and_false]; exact ⟨rfl, rfl⟩) | (rw [inN_tnle (by decide) c16, Bool.and_false]; exact ⟨rfl, rfl⟩)
end CL
