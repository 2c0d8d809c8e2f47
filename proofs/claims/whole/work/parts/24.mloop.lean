/-- a row of writes into one array -/
def wrI (h : AH) (a : Nat) (f : Nat → Nat) (v : Nat → Int32) : Nat → AH
  | 0 => h
  | n + 1 => sI (wrI h a f v n) a (f n) (v n)
theorem wrI_1 (h : AH) (a : Nat) (f : Nat → Nat) (v : Nat → Int32) : ∀ n, (wrI h a f v n).1 = h.1
  | 0 => rfl
  | n + 1 => wrI_1 h a f v n
theorem gR_wrI (h : AH) (a : Nat) (f : Nat → Nat) (v : Nat → Int32) (k j : Nat) : ∀ n, gR (wrI h a f v n) k j = gR h k j
  | 0 => rfl
  | n + 1 => gR_wrI h a f v k j n
theorem gI_wrI_ne (h : AH) {a : Nat} (f : Nat → Nat) (v : Nat → Int32) {k : Nat} (hk : k ≠ a) (j : Nat) : ∀ n, gI (wrI h a f v n) k j = gI h k j
  | 0 => rfl
  | n + 1 => by rw [wrI, gI_sI, if_neg hk]; exact gI_wrI_ne h f v hk j n
theorem gI_wrI_out (h : AH) {a : Nat} (f : Nat → Nat) (v : Nat → Int32) (j : Nat) : ∀ n, (∀ i, i < n → j ≠ f i) → gI (wrI h a f v n) a j = gI h a j
  | 0, _ => rfl
  | n + 1, hj => by rw [wrI, gI_sI, if_pos rfl, if_neg (hj n (Nat.lt_succ_self n))]; exact gI_wrI_out h f v j n (fun i hi => hj i (Nat.lt_succ_of_lt hi))
theorem ShOK.wr {h : AH} (S : ShOK h) (a : Nat) (f : Nat → Nat) (v : Nat → Int32) (n : Nat) : ShOK (wrI h a f v n) := fun k q hq => by rw [wrI_1]; exact S k q hq
theorem RfOK.wr {h : AH} (R : RfOK h) (a : Nat) (f : Nat → Nat) (v : Nat → Int32) (n : Nat) : RfOK (wrI h a f v n) := fun k j x hx => by rw [gR_wrI]; exact R k j x hx
section MLp
variable (d : Nat) {h : AH}
theorem laysAside_loop (S0 : ShOK h) (R0 : RfOK h) {k : Nat} (hk : k < 2) : ∀ (m i : Nat), i + m = 7 → Rp d M_X12_laysAside 2 [some (.ref aM), some (.int (nI k)), some (.int (nI i))] [] (wrI h am_aside (fun i => 7 * k + i) (gI h am_kept) i) (fun r h' => h' = wrI h am_aside (fun i => 7 * k + i) (gI h am_kept) 7 ∧ r = none) := by
  intro m
  induction m with
  | zero =>
    intro i hi
    have S := S0.wr am_aside (fun i => 7 * k + i) (gI h am_kept) i
    have R := R0.wr am_aside (fun i => 7 * k + i) (gI h am_kept) i
    refine Rp.iload_n dX12_laysAside_2 rfl ?_
    refine Rp.bipush (nI 7) dX12_laysAside_3 (by decide) ?_
    first | ((with_reducible show Rp _ _ _ _ (.int (nI _) :: .int (nI _) :: _) _ _); refine Rp.icmp_geN (tgt := 31) dX12_laysAside_5 (by decide) (by omega) (fun c5 => ?_) (fun c5 => ?_)) | refine Rp.icmp_ge (tgt := 31) dX12_laysAside_5 (by decide) (fun c5 => ?_) (fun c5 => ?_)
    · skip
      refine Rp.vreturn dX12_laysAside_31 rfl ?_
      exact ⟨by rw [show i = 7 by omega], rfl⟩
    · skip
      exact absurd (show 7 ≤ i by omega) c5
  | succ m ih =>
    intro i hi
    have S := S0.wr am_aside (fun i => 7 * k + i) (gI h am_kept) i
    have R := R0.wr am_aside (fun i => 7 * k + i) (gI h am_kept) i
    refine Rp.iload_n dX12_laysAside_2 rfl ?_
    refine Rp.bipush (nI 7) dX12_laysAside_3 (by decide) ?_
    first | ((with_reducible show Rp _ _ _ _ (.int (nI _) :: .int (nI _) :: _) _ _); refine Rp.icmp_geN (tgt := 31) dX12_laysAside_5 (by decide) (by omega) (fun c5 => ?_) (fun c5 => ?_)) | refine Rp.icmp_ge (tgt := 31) dX12_laysAside_5 (by decide) (fun c5 => ?_) (fun c5 => ?_)
    · skip
      exact absurd c5 (by omega)
    · skip
      refine Rp.aload_n dX12_laysAside_8 rfl rfl ?_
      refine Rp.getR dX12_laysAside_9 fk_X12_34 rfl (S _ _ rfl) (R _ _ _ rfl) ?_
      refine Rp.bipush (nI 7) dX12_laysAside_12 (by decide) ?_
      refine Rp.iload_n dX12_laysAside_14 rfl ?_
      first | ((with_reducible show Rp _ _ _ _ (.int (nI _) :: .int (nI _) :: _) _ _); refine Rp.imulN dX12_laysAside_15 ?_) | refine Rp.imul dX12_laysAside_15 ?_
      refine Rp.iload_n dX12_laysAside_16 rfl ?_
      first | ((with_reducible show Rp _ _ _ _ (.int (nI _) :: .int (nI _) :: _) _ _); refine Rp.iaddN dX12_laysAside_17 ?_) | refine Rp.iadd dX12_laysAside_17 ?_
      refine Rp.aload_n dX12_laysAside_18 rfl rfl ?_
      refine Rp.getR dX12_laysAside_19 fk_X12_24 rfl (S _ _ rfl) (R _ _ _ rfl) ?_
      refine Rp.iload_n dX12_laysAside_22 rfl ?_
      first | ((with_reducible show Rp _ _ _ _ (.int (nI _) :: _) _ _); refine Rp.ialoadN dX12_laysAside_23 (S _ _ rfl) (by omega) ?_) | refine Rp.iaload dX12_laysAside_23 (S _ _ rfl) (by first | assumption | exact vpb (by decide)) ?_
      rw [gI_wrI_ne h _ _ (by decide)]
      first | ((with_reducible show Rp _ _ _ _ (_ :: .int (nI _) :: _) _ _); refine Rp.iastoreN dX12_laysAside_24 (S _ _ rfl) (by omega) ?_) | refine Rp.iastore dX12_laysAside_24 (S _ _ rfl) (by first | assumption | exact vpb (by decide)) ?_
      first | ((with_reducible show Rp _ _ _ (_ :: _ :: some (.int (nI _)) :: _) _ _ _); refine Rp.inc2N (c := 1) dX12_laysAside_25 (by first | exact nl2_some rfl | exact nl2_none) (by decide) ?_) | refine Rp.inc2 _ dX12_laysAside_25 rfl (by first | exact nl2_some rfl | exact nl2_none) (by decide) ?_
      refine Rp.goto (tgt := 2) dX12_laysAside_28 (by decide) ?_
      exact ih (i + 1) (by omega)
theorem s_laysAside (S : ShOK h) (R : RfOK h) {k : Nat} (hk : k < 2) : Rp d M_X12_laysAside 0 [some (.ref aM), some (.int (nI k)), none] [] h (fun r h' => h' = wrI h am_aside (fun i => 7 * k + i) (gI h am_kept) 7 ∧ r = none) := by
  refine Rp.iconst (nI 0) dX12_laysAside_0 (by decide) ?_
  refine Rp.ist2 dX12_laysAside_1 (by first | exact nl2_some rfl | exact nl2_none) (by decide) ?_
  exact laysAside_loop d S R hk 7 0 (by omega)
theorem takesBack_loop (S0 : ShOK h) (R0 : RfOK h) {k : Nat} (hk : k < 2) : ∀ (m i : Nat), i + m = 7 → Rp d M_X12_takesBack 2 [some (.ref aM), some (.int (nI k)), some (.int (nI i))] [] (wrI h am_kept (fun i => i) (fun i => gI h am_aside (7 * k + i)) i) (fun r h' => h' = wrI h am_kept (fun i => i) (fun i => gI h am_aside (7 * k + i)) 7 ∧ r = none) := by
  intro m
  induction m with
  | zero =>
    intro i hi
    have S := S0.wr am_kept (fun i => i) (fun i => gI h am_aside (7 * k + i)) i
    have R := R0.wr am_kept (fun i => i) (fun i => gI h am_aside (7 * k + i)) i
    refine Rp.iload_n dX12_takesBack_2 rfl ?_
    refine Rp.bipush (nI 7) dX12_takesBack_3 (by decide) ?_
    first | ((with_reducible show Rp _ _ _ _ (.int (nI _) :: .int (nI _) :: _) _ _); refine Rp.icmp_geN (tgt := 31) dX12_takesBack_5 (by decide) (by omega) (fun c5 => ?_) (fun c5 => ?_)) | refine Rp.icmp_ge (tgt := 31) dX12_takesBack_5 (by decide) (fun c5 => ?_) (fun c5 => ?_)
    · skip
      refine Rp.vreturn dX12_takesBack_31 rfl ?_
      exact ⟨by rw [show i = 7 by omega], rfl⟩
    · skip
      exact absurd (show 7 ≤ i by omega) c5
  | succ m ih =>
    intro i hi
    have S := S0.wr am_kept (fun i => i) (fun i => gI h am_aside (7 * k + i)) i
    have R := R0.wr am_kept (fun i => i) (fun i => gI h am_aside (7 * k + i)) i
    refine Rp.iload_n dX12_takesBack_2 rfl ?_
    refine Rp.bipush (nI 7) dX12_takesBack_3 (by decide) ?_
    first | ((with_reducible show Rp _ _ _ _ (.int (nI _) :: .int (nI _) :: _) _ _); refine Rp.icmp_geN (tgt := 31) dX12_takesBack_5 (by decide) (by omega) (fun c5 => ?_) (fun c5 => ?_)) | refine Rp.icmp_ge (tgt := 31) dX12_takesBack_5 (by decide) (fun c5 => ?_) (fun c5 => ?_)
    · skip
      exact absurd c5 (by omega)
    · skip
      refine Rp.aload_n dX12_takesBack_8 rfl rfl ?_
      refine Rp.getR dX12_takesBack_9 fk_X12_24 rfl (S _ _ rfl) (R _ _ _ rfl) ?_
      refine Rp.iload_n dX12_takesBack_12 rfl ?_
      refine Rp.aload_n dX12_takesBack_13 rfl rfl ?_
      refine Rp.getR dX12_takesBack_14 fk_X12_34 rfl (S _ _ rfl) (R _ _ _ rfl) ?_
      refine Rp.bipush (nI 7) dX12_takesBack_17 (by decide) ?_
      refine Rp.iload_n dX12_takesBack_19 rfl ?_
      first | ((with_reducible show Rp _ _ _ _ (.int (nI _) :: .int (nI _) :: _) _ _); refine Rp.imulN dX12_takesBack_20 ?_) | refine Rp.imul dX12_takesBack_20 ?_
      refine Rp.iload_n dX12_takesBack_21 rfl ?_
      first | ((with_reducible show Rp _ _ _ _ (.int (nI _) :: .int (nI _) :: _) _ _); refine Rp.iaddN dX12_takesBack_22 ?_) | refine Rp.iadd dX12_takesBack_22 ?_
      first | ((with_reducible show Rp _ _ _ _ (.int (nI _) :: _) _ _); refine Rp.ialoadN dX12_takesBack_23 (S _ _ rfl) (by omega) ?_) | refine Rp.iaload dX12_takesBack_23 (S _ _ rfl) (by first | assumption | exact vpb (by decide)) ?_
      rw [gI_wrI_ne h _ _ (by decide)]
      first | ((with_reducible show Rp _ _ _ _ (_ :: .int (nI _) :: _) _ _); refine Rp.iastoreN dX12_takesBack_24 (S _ _ rfl) (by omega) ?_) | refine Rp.iastore dX12_takesBack_24 (S _ _ rfl) (by first | assumption | exact vpb (by decide)) ?_
      first | ((with_reducible show Rp _ _ _ (_ :: _ :: some (.int (nI _)) :: _) _ _ _); refine Rp.inc2N (c := 1) dX12_takesBack_25 (by first | exact nl2_some rfl | exact nl2_none) (by decide) ?_) | refine Rp.inc2 _ dX12_takesBack_25 rfl (by first | exact nl2_some rfl | exact nl2_none) (by decide) ?_
      refine Rp.goto (tgt := 2) dX12_takesBack_28 (by decide) ?_
      exact ih (i + 1) (by omega)
theorem s_takesBack (S : ShOK h) (R : RfOK h) {k : Nat} (hk : k < 2) : Rp d M_X12_takesBack 0 [some (.ref aM), some (.int (nI k)), none] [] h (fun r h' => h' = wrI h am_kept (fun i => i) (fun i => gI h am_aside (7 * k + i)) 7 ∧ r = none) := by
  refine Rp.iconst (nI 0) dX12_takesBack_0 (by decide) ?_
  refine Rp.ist2 dX12_takesBack_1 (by first | exact nl2_some rfl | exact nl2_none) (by decide) ?_
  exact takesBack_loop d S R hk 7 0 (by omega)
end MLp
