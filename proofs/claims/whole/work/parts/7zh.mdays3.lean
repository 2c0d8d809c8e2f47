section De
variable (d : Nat) {h : AH}
theorem mday165 {P : Option Value → AH → Prop} (S0 : ShOK h) (R0 : RfOK h) (s1 n3 c : Int32) (a5 a6 : Option Value) (kk : Rp (d + 1) M_X12_days 192 [some (.ref aM), some (.int s1), some (.int n3), some (.int c), some (.int (nI 7)), a5, a6] [] (wrI h 128 (fun i => i) (gI h 102) 7) P) : ∀ (m i : Nat), i + m = 7 → Rp (d + 1) M_X12_days 165 [some (.ref aM), some (.int s1), some (.int n3), some (.int c), some (.int (nI i)), a5, a6] [] (wrI h 128 (fun i => i) (gI h 102) i) P := by
  intro m
  induction m with
  | zero =>
    intro i hi
    have e : i = 7 := by omega
    subst e
    refine Rp.iload dX12_days_165 rfl ?_
    refine Rp.bipush (nI 7) dX12_days_167 (by decide) ?_
    first | ((with_reducible show Rp _ _ _ _ (.int (nI _) :: .int (nI _) :: _) _ _); refine Rp.icmp_geN (tgt := 192) dX12_days_169 (by decide) (by omega) (fun c169 => ?_) (fun c169 => ?_)) | refine Rp.icmp_ge (tgt := 192) dX12_days_169 (by decide) (fun c169 => ?_) (fun c169 => ?_)
    · skip
      exact kk
    · skip
      first | (exfalso; omega) | exact absurd c169 (by decide) | exact absurd (by decide) c169
  | succ m ih =>
    intro i hi
    have S := S0.wr 128 (fun i => i) (gI h 102) i
    have R := R0.wr 128 (fun i => i) (gI h 102) i
    have k1 := ih (i + 1) (by omega)
    refine Rp.iload dX12_days_165 rfl ?_
    refine Rp.bipush (nI 7) dX12_days_167 (by decide) ?_
    first | ((with_reducible show Rp _ _ _ _ (.int (nI _) :: .int (nI _) :: _) _ _); refine Rp.icmp_geN (tgt := 192) dX12_days_169 (by decide) (by omega) (fun c169 => ?_) (fun c169 => ?_)) | refine Rp.icmp_ge (tgt := 192) dX12_days_169 (by decide) (fun c169 => ?_) (fun c169 => ?_)
    · skip
      first | (exfalso; omega) | exact absurd c169 (by decide) | exact absurd (by decide) c169
    · skip
      refine Rp.aload_n dX12_days_172 rfl rfl ?_
      refine Rp.getR dX12_days_173 fk_X12_111 rfl (S _ _ rfl) (R _ _ _ rfl) ?_
      refine Rp.iload dX12_days_176 rfl ?_
      refine Rp.aload_n dX12_days_178 rfl rfl ?_
      refine Rp.getR dX12_days_179 fk_X12_24 rfl (S _ _ rfl) (R _ _ _ rfl) ?_
      refine Rp.iload dX12_days_182 rfl ?_
      first | ((with_reducible show Rp _ _ _ _ (.int (nI _) :: _) _ _); refine Rp.ialoadN dX12_days_184 (S _ _ rfl) (by omega) ?_) | refine Rp.iaload dX12_days_184 (S _ _ rfl) (by first | assumption | exact vpb (by decide)) ?_
      rw [gI_wrI_ne h _ _ (by decide)]
      first | ((with_reducible show Rp _ _ _ _ (_ :: .int (nI _) :: _) _ _); refine Rp.iastoreN dX12_days_185 (S _ _ rfl) (by omega) ?_) | refine Rp.iastore dX12_days_185 (S _ _ rfl) (by first | assumption | exact vpb (by decide)) ?_
      first | ((with_reducible show Rp _ _ _ (_ :: _ :: _ :: _ :: some (.int (nI _)) :: _) _ _ _); refine Rp.inc4N (c := 1) dX12_days_186 (by first | exact nl2_some rfl | exact nl2_none) (by decide) ?_) | refine Rp.inc4 _ dX12_days_186 rfl (by first | exact nl2_some rfl | exact nl2_none) (by decide) ?_
      refine Rp.goto (tgt := 165) dX12_days_189 (by decide) ?_
      exact k1
/-- the end of the days: what was held is shown, and all is as before -/
theorem mday162 (S : ShOK h) (R : RfOK h) (s1 n3 c : Int32) (i : Int32) (a5 a6 : Option Value) : Rp (d + 1) M_X12_days 162 [some (.ref aM), some (.int s1), some (.int n3), some (.int c), some (.int i), a5, a6] [] h (fun r h' => r = some (.int c) ∧ h' = sI (wrI (wrI h 128 (fun i => i) (gI h 102) 7) 102 (fun i => i) (fun i => gI (wrI h 128 (fun i => i) (gI h 102) 7) am_aside (7 * 0 + i)) 7) aM fm_status (nI 0)) := by
  have S1 := S.wr 128 (fun i => i) (gI h 102) 7
  have R1 := R.wr 128 (fun i => i) (gI h 102) 7
  have S2 := S1.wr 102 (fun i => i) (fun i => gI (wrI h 128 (fun i => i) (gI h 102) 7) am_aside (7 * 0 + i)) 7
  have tb := s_takesBack d S1 R1 (k := 0) (by decide)
  have gd := s_good d S2 c
  have k9 : Rp (d + 1) M_X12_days 192 [some (.ref aM), some (.int s1), some (.int n3), some (.int c), some (.int (nI 7)), a5, a6] [] (wrI h 128 (fun i => i) (gI h 102) 7) (fun r h' => r = some (.int c) ∧ h' = sI (wrI (wrI h 128 (fun i => i) (gI h 102) 7) 102 (fun i => i) (fun i => gI (wrI h 128 (fun i => i) (gI h 102) 7) am_aside (7 * 0 + i)) 7) aM fm_status (nI 0)) := by
    refine Rp.aload_n dX12_days_192 rfl rfl ?_
    refine Rp.iconst (nI 0) dX12_days_193 (by decide) ?_
    refine Rp.callV1 M_X12_takesBack (ci := 12) dX12_days_194 mo_X12_takesBack lk_X12_429 (by decide) rfl rfl (S1 _ _ rfl) (Nat.le_of_ble_eq_true rfl) (Nat.le_of_ble_eq_true rfl) (tb) (fun v1 h1 p1 x1 => ?_)
    rw [p1.1, p1.2]
    try dsimp only [Option.toList, List.cons_append, List.nil_append, List.append]
    refine Rp.aload_n dX12_days_197 rfl rfl ?_
    refine Rp.iload_n dX12_days_198 rfl ?_
    refine Rp.callV1 M_X12_good (ci := 12) dX12_days_199 mo_X12_good lk_X12_14 (by decide) rfl rfl (S2 _ _ rfl) (Nat.le_of_ble_eq_true rfl) (Nat.le_of_ble_eq_true rfl) (gd) (fun v1 h1 p1 x1 => ?_)
    rw [p1.1, p1.2]
    try dsimp only [Option.toList, List.cons_append, List.nil_append, List.append]
    refine Rp.ireturn dX12_days_202 rfl ?_
    exact ⟨rfl, rfl⟩
  have k1 := mday165 d S R s1 n3 c a5 a6 k9 7 0 (by decide)
  refine Rp.iconst (nI 0) dX12_days_162 (by decide) ?_
  refine Rp.ist4 dX12_days_163 (by first | exact nl2_some rfl | exact nl2_none) (by decide) ?_
  exact k1
end De
