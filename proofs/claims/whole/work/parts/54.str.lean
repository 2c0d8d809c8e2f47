theorem fl_J0_9 : Cond.fieldLink RJ0 9 "java/lang/String" "value" "[B" ∈ gw := gt8 227 rfl rfl
theorem fl_J0_15 : Cond.fieldLink RJ0 15 "java/lang/String" "coder" "B" ∈ gw := gt8 228 rfl rfl
theorem fl_J0_38 : Cond.fieldLink RJ0 38 "java/lang/String" "COMPACT_STRINGS" "Z" ∈ gw := gt3 185 rfl rfl
theorem fl_J0_1053 : Cond.fieldLink RJ0 1053 "jdk/internal/util/Preconditions" "SIOOBE_FORMATTER" "Ljava/util/function/BiFunction;" ∈ gw := gt3 201 rfl rfl
theorem tr_ra (E : EV) {k : Nat} (hk : k ≠ 99) : tr E (.retAddr k) = .ref (e_T E k) := if_neg (fun z => hk z.1)
section Js
variable {d : Nat} {M Mc : MT} {pc n idx : Nat} {ls : List (Option Value)} {st : List Value} {h h1 : AH} {v v1 : Option Value} {h' : AH} {As : List Value}
theorem Rj.getVal {k : Nat} (hk : k < 11) (hM : M.1.cls = RJ0) (hd : decode M.2.1 pc = .ok (.getfield 9, 3)) (kk : Rj d M (pc + 3) ls (.retAddr (100 + k) :: st) h v h') : Rj d M pc ls (.retAddr k :: st) h v h' := Rj.pure (fun E p l e R s m args below meth c H locs cells slots Q rl X w L y => by
  obtain ⟨hx, hb, -, -, hown, hts, -, -, hK⟩ := X
  have hE := ((hK.2.2.2.2.2.2).2.1.1 k hk).2.2.1
  obtain ⟨cf, kc, fi, f, cell, h1, h2, h3, h4, h5, h6⟩ := hE.kept (H1 := H) (fun q _ hA => w.2.2 q (Nat.lt_of_not_le hA))
  rw [hM] at hown
  rw [List.map_cons, tr_ra E (by omega)] at y ⊢
  exact W.getf hx hb hown (hts _ fl_J0_9) h1 h2 h3 h4 (v := .ref (e_T E (100 + k))) h5 rfl rfl hd y) kk
theorem Rj.getCod {k : Nat} (hk : k < 11) (hM : M.1.cls = RJ0) (hd : decode M.2.1 pc = .ok (.getfield 15, 3)) (kk : Rj d M (pc + 3) ls (.int 0 :: st) h v h') : Rj d M pc ls (.retAddr k :: st) h v h' := Rj.pure (fun E p l e R s m args below meth c H locs cells slots Q rl X w L y => by
  obtain ⟨hx, hb, -, -, hown, hts, -, -, hK⟩ := X
  have hE := ((hK.2.2.2.2.2.2).2.1.1 k hk).2.1
  obtain ⟨cf, kc, fi, f, cell, h1, h2, h3, h4, h5, h6⟩ := hE.kept (H1 := H) (fun q _ hA => w.2.2 q (Nat.lt_of_not_le hA))
  rw [hM] at hown
  rw [List.map_cons, tr_ra E (by omega)]
  exact W.getf hx hb hown (hts _ fl_J0_15) h1 h2 h3 h4 (v := .int 0) h5 rfl rfl hd y) kk
theorem Rj.getCS (hM : M.1.cls = RJ0) (hd : decode M.2.1 pc = .ok (.getstatic 38, 3)) (kk : Rj d M (pc + 3) ls (.int 1 :: st) h v h') : Rj d M pc ls st h v h' := Rj.pure (fun E p l e R s m args below meth c H locs cells slots Q rl X w L y => by
  obtain ⟨hx, hb, -, -, hown, hts, -, -, hK⟩ := X
  obtain ⟨cf, kf, fi, f, a, cell, h1, h2, h3, h4, h5, h6, h7, h8⟩ := (hK.2.2.2.2.2.2).2.2.1.kept (H1 := H) (fun q _ hA => w.2.2 q (Nat.lt_of_not_le hA))
  rw [hM] at hown
  exact W.gets hx hb hown (hts _ fl_J0_38) h1 h2 h3 h4 h5 (fun e => by rw [e] at h6; cases h6) h7 rfl hd y) kk
theorem Rj.getSF (hM : M.1.cls = RJ0) (hd : decode M.2.1 pc = .ok (.getstatic 1053, 3)) (kk : Rj d M (pc + 3) ls (.retAddr 99 :: st) h v h') : Rj d M pc ls st h v h' := Rj.pure (fun E p l e R s m args below meth c H locs cells slots Q rl X w L y => by
  obtain ⟨hx, hb, -, -, hown, hts, -, -, hK⟩ := X
  obtain ⟨cf, kf, fi, f, a, cell, h1, h2, h3, h4, h5, h6, h7, h8⟩ := (hK.2.2.2.2.2.2).2.2.2.kept (H1 := H) (fun q _ hA => w.2.2 q (Nat.lt_of_not_le hA))
  rw [hM] at hown
  exact W.gets hx hb hown (hts _ fl_J0_1053) h1 h2 h3 h4 h5 (fun e => by rw [e] at h6; cases h6) h7 rfl hd y) kk
theorem Rj.alenS {k : Nat} (hk : k < 11) (hd : decode M.2.1 pc = .ok (.arraylength, 1)) (kk : Rj d M (pc + 1) ls (.int (nI (sLn.getD k 0)) :: st) h v h') : Rj d M pc ls (.retAddr (100 + k) :: st) h v h' := Rj.pure (fun E p l e R s m args below meth c H locs cells slots Q rl X w L y => by
  obtain ⟨hx, hb, -, -, hown, hts, -, -, hK⟩ := X
  obtain ⟨cell, h1, h2, h3, h4, h5, h6, h7⟩ := ((hK.2.2.2.2.2.2).2.1.1 k hk).2.2.2.kept (H1 := H) (fun q _ hA => w.2.2 q (Nat.lt_of_not_le hA))
  rw [List.map_cons, tr_ra E (by omega)]
  exact W.alen (n := nI (sLn.getD k 0)) hx hb h1 h2 h5 rfl rfl hd y) kk
theorem Rj.baloadS {k m0 : Nat} (hk : k < 11) (hm0 : m0 < sLn.getD k 0 ∧ m0 < 2147483648) (hd : decode M.2.1 pc = .ok (.baload, 1)) (kk : Rj d M (pc + 1) ls (.int ((sBy.getD k []).getD m0 0) :: st) h v h') : Rj d M pc ls (.int (nI m0) :: .retAddr (100 + k) :: st) h v h' := Rj.pure (fun E p l e R s m args below meth c H locs cells slots Q rl X w L y => by
  obtain ⟨hx, hb, -, -, hown, hts, -, -, hK⟩ := X
  obtain ⟨cell, h1, h2, h3, h4, h5, h6, h7⟩ := ((hK.2.2.2.2.2.2).2.1.1 k hk).2.2.2.kept (H1 := H) (fun q _ hA => w.2.2 q (Nat.lt_of_not_le hA))
  rw [List.map_cons, List.map_cons, tr_ra E (by omega)]
  have ec : (nI m0).toNatClampNeg = m0 := by
    rw [Int32.toNatClampNeg, nI_toInt (by omega)]; rfl
  refine W.bald (j := nI m0) hx hb h1 h2 h3 (by rw [ec]; rintro (q | q); exact absurd q (by rw [i32_lt, nI_toInt (by omega)]; exact Int.not_lt.mpr (Int.natCast_nonneg _)); omega) (by rw [ec]; exact h6 m0 hm0.1) rfl rfl hd y) kk
theorem Rj.nreturn {x : Int32} {ty : FieldType} (hr : M.2.2.2 = some ty) (hn : narrow ty (.int x) = .int x) (hd : decode M.2.1 pc = .ok (.ireturn, 1)) : Rj d M pc ls [.int x] h (some (.int x)) h := by
  refine ⟨Nat.le_refl _, Nat.le_refl _, ⟨rfl, List.prefix_rfl⟩, fun E p l e R s m args below meth c H locs cells slots mc ms n0 z0 rl hy => ?_⟩
  obtain ⟨X, -, -, h1, h2, h3, h4, -, -, w, hq, -⟩ := hy
  have e1 : mc = cells := by omega
  have e2 : ms = slots := by omega
  subst e1; subst e2
  have hlk := X.2.2.2.2.2.2.1
  exact W.zret X.1 X.2.1 (X.2.2.1.trans hr) hn (fun t ht hW => ⟨rfl, by rw [ht]; exact w.1, fun q hq => by rw [ht]; exact w.2.2 q hq⟩) hq hd
theorem Rj.i2c {x : Int32} (hd : decode M.2.1 pc = .ok (.i2c, 1)) (k : Rj d M (pc + 1) ls (.int (x.toUInt32 % 65536).toInt32 :: st) h v h') : Rj d M pc ls (.int x :: st) h v h' := Rj.pure (fun E p l e R s m args below meth c H locs cells slots Q rl X _ L w => lv_i2c (v := (x.toUInt32 % 65536).toInt32) X.1 X.2.1 hd (Eq.refl _) w) k
theorem Rj.ldcS {i k : Nat} {tx : String} (hk11 : k < 11) (hk : sTx[k]? = some (i, tx)) (hM : M.1.cls = RX7) (hd : decode M.2.1 pc = .ok (.ldc i, 2)) (kk : Rj d M (pc + 2) ls (.retAddr k :: st) h v h') : Rj d M pc ls st h v h' := Rj.pure (fun E p l e R s m args below meth c H locs cells slots Q rl X w L y => by
  obtain ⟨hx, hb, -, -, hown, hts, -, -, hK⟩ := X
  have hR := (hK.2.2.2.2.2.2).1 k _ hk
  rw [hM] at hown
  rw [List.map_cons, tr_ra E (by omega)] at y
  intro T hT Y
  obtain ⟨t, a, b⟩ := y T hT Y
  refine ⟨t, ?_, b⟩
  have hc : (Cond.stringRef RX7 i tx).before args s = true := by
    have h1 := hR.1
    simp only [Cond.before, Cond.holds, Cond.value] at h1 ⊢
    exact h1
  have he : (Term.string RX7 i).eval args s none [] s = some (.ref (e_T E k)) := by
    rw [Term.string_eval_of_vm (args := #[]) (U := s) rfl]; exact hR.2
  rw [← hb] at hd
  exact Stand.ldcString (own := RX7) (text := tx) (index := i) (a := e_T E k) (g := F0 m pc rl (st.map (tr E))) Y hx hown hc he rfl hd t a) kk
theorem Rj.callVs {k : Nat} (hk : k < 11) (hm : mOK Mc n) (hl : Cond.methodLink M.1.cls idx Mc.1 ∈ gw ∧ Cond.instanceMethod Mc.1 ∈ gw ∧ Cond.selects Mc.1.cls Mc.1 Mc.1 ∈ gw) (hC : Mc.1.cls = "java/lang/String") (hd : decode M.2.1 pc = .ok (.invokevirtual idx, 3)) (hn : As.length = n) (hf : ((Value.retAddr k :: As).flatMap sl1).length ≤ Mc.2.2.1) (hst : stOK st) (r : Rj d Mc 0 (entL (.retAddr k :: As) Mc.2.2.1) [] h v1 h1) (kk : Rj (d + 1) M (pc + 3) ls (v1.toList ++ st) h1 v h') : Rj (d + 1) M pc ls (As.reverse ++ .retAddr k :: st) h v h' := Rj.ofRun ⟨r.1, r.2.1, r.2.2.1⟩ (fun E p l e R s m args below meth c H locs cells slots rl X w L f1 f2 f3 f4 => ⟨(Value.ref (e_T E k) :: As.map (tr E)).toArray, by
  have hX := X
  obtain ⟨hx, hb, hr, hml, hown, hts, hlk, hnm, hK⟩ := X
  have h5 := hm.2.2.2.2
  have cb := callB_of (R := R) (Ts := gw) (own := M.1.cls) (index := idx) (rm := rmj d h h1) n hts (wsM_good hm) (rfl : wsM Mc = _) rfl rfl (hts _ hm.2.1) (hts _ hl.1) hm.2.2.1 (show d + 1 ≤ R.frames ∧ 8 + (Mc.2.2.1 + 11) + 40 * d ≤ R.locals from ⟨f1, by omega⟩)
  obtain ⟨cell, q1, q2, q3, -⟩ := ((hK.2.2.2.2.2.2).2.1.1 k hk).1.kept (H1 := H) (fun q _ hA => w.2.2 q (Nat.lt_of_not_le hA))
  have e9 : tr E (.retAddr k) = .ref (e_T E k) := tr_ra E (by omega)
  exact va_runV (C := Mc.1.cls) (b := e_T E k) (As := As.map (tr E)) (rest := st.map (tr E)) ⟨hx, hb, hml, hown, hts⟩ (met_of hm hf r E l) ⟨cb, hts _ hl.2.1, hts _ hl.2.2⟩ ⟨Pj.blind, ⟨cell, q1, q2, by rw [hC]; exact q3⟩, fun U hU hW => ⟨by rw [List.map_cons, e9], by rw [hU]; exact w.1, hK.warm hW w.2.1 (fun q hq => by rw [hU]; exact w.2.2 q hq)⟩⟩ rfl (by rw [List.length_map]; exact hn) L.1 (by simp [e9]) (lv_room (stOK_tr E hst)) hd ⟨f3, f4⟩⟩) kk
end Js
section Jp
variable {d : Nat} {M Mc : MT} {pc idx : Nat} {ls : List (Option Value)} {st : List Value} {h : AH} {P : Option Value → AH → Prop}
theorem Rp.getVal {k : Nat} (hk : k < 11) (hM : M.1.cls = RJ0) (hd : decode M.2.1 pc = .ok (.getfield 9, 3)) (kk : Rp d M (pc + 3) ls (.retAddr (100 + k) :: st) h P) : Rp d M pc ls (.retAddr k :: st) h P := by
  obtain ⟨v, h', r, p⟩ := kk
  exact ⟨v, h', Rj.getVal hk hM hd r, p⟩
theorem Rp.getCod {k : Nat} (hk : k < 11) (hM : M.1.cls = RJ0) (hd : decode M.2.1 pc = .ok (.getfield 15, 3)) (kk : Rp d M (pc + 3) ls (.int 0 :: st) h P) : Rp d M pc ls (.retAddr k :: st) h P := by
  obtain ⟨v, h', r, p⟩ := kk
  exact ⟨v, h', Rj.getCod hk hM hd r, p⟩
theorem Rp.getCS (hM : M.1.cls = RJ0) (hd : decode M.2.1 pc = .ok (.getstatic 38, 3)) (kk : Rp d M (pc + 3) ls (.int 1 :: st) h P) : Rp d M pc ls st h P := by
  obtain ⟨v, h', r, p⟩ := kk
  exact ⟨v, h', Rj.getCS hM hd r, p⟩
theorem Rp.getSF (hM : M.1.cls = RJ0) (hd : decode M.2.1 pc = .ok (.getstatic 1053, 3)) (kk : Rp d M (pc + 3) ls (.retAddr 99 :: st) h P) : Rp d M pc ls st h P := by
  obtain ⟨v, h', r, p⟩ := kk
  exact ⟨v, h', Rj.getSF hM hd r, p⟩
theorem Rp.alenS {k : Nat} (hk : k < 11) (hd : decode M.2.1 pc = .ok (.arraylength, 1)) (kk : Rp d M (pc + 1) ls (.int (nI (sLn.getD k 0)) :: st) h P) : Rp d M pc ls (.retAddr (100 + k) :: st) h P := by
  obtain ⟨v, h', r, p⟩ := kk
  exact ⟨v, h', Rj.alenS hk hd r, p⟩
theorem Rp.baloadS {k m0 : Nat} (hk : k < 11) (hm0 : m0 < sLn.getD k 0 ∧ m0 < 2147483648) (hd : decode M.2.1 pc = .ok (.baload, 1)) (kk : Rp d M (pc + 1) ls (.int ((sBy.getD k []).getD m0 0) :: st) h P) : Rp d M pc ls (.int (nI m0) :: .retAddr (100 + k) :: st) h P := by
  obtain ⟨v, h', r, p⟩ := kk
  exact ⟨v, h', Rj.baloadS hk hm0 hd r, p⟩
theorem Rp.nreturn {x : Int32} {ty : FieldType} (hd : decode M.2.1 pc = .ok (.ireturn, 1)) (hr : M.2.2.2 = some ty) (hn : narrow ty (.int x) = .int x) (p : P (some (.int x)) h) : Rp d M pc ls [.int x] h P := ⟨_, _, Rj.nreturn hr hn hd, p⟩
theorem Rp.i2c {x : Int32} (hd : decode M.2.1 pc = .ok (.i2c, 1)) (kk : Rp d M (pc + 1) ls (.int (x.toUInt32 % 65536).toInt32 :: st) h P) : Rp d M pc ls (.int x :: st) h P := by
  obtain ⟨v, h', r, p⟩ := kk
  exact ⟨v, h', Rj.i2c hd r, p⟩
theorem Rp.ldcS {i k : Nat} {tx : String} (hd : decode M.2.1 pc = .ok (.ldc i, 2)) (hk11 : k < 11) (hk : sTx[k]? = some (i, tx)) (hM : M.1.cls = RX7) (kk : Rp d M (pc + 2) ls (.retAddr k :: st) h P) : Rp d M pc ls st h P := by
  obtain ⟨v, h', r, p⟩ := kk
  exact ⟨v, h', Rj.ldcS hk11 hk hM hd r, p⟩
theorem Rp.callVs' {n k : Nat} {As : List Value} {Pc : Option Value → AH → Prop} (hk : k < 11) (hd : decode M.2.1 pc = .ok (.invokevirtual idx, 3)) (hm : mOK Mc n) (hl : Cond.methodLink M.1.cls idx Mc.1 ∈ gw ∧ Cond.instanceMethod Mc.1 ∈ gw ∧ Cond.selects Mc.1.cls Mc.1 Mc.1 ∈ gw) (hC : Mc.1.cls = "java/lang/String") (hn : As.length = n) (hf : ((Value.retAddr k :: As).flatMap sl1).length ≤ Mc.2.2.1) (hst : stOK st) (c : Rp d Mc 0 (entL (.retAddr k :: As) Mc.2.2.1) [] h Pc) (kk : ∀ v1 h1, Pc v1 h1 → Rp (d + 1) M (pc + 3) ls (v1.toList ++ st) h1 P) : Rp (d + 1) M pc ls (As.reverse ++ .retAddr k :: st) h P := by
  obtain ⟨v1, h1, r1, p1⟩ := c
  obtain ⟨v, h', r, p⟩ := kk v1 h1 p1
  exact ⟨v, h', Rj.callVs hk hm hl hC hd hn hf hst r1 r, p⟩
/-- a character of a constant -/
def sCh (k i : Nat) : Int32 := (sBy.getD k []).getD i 0
theorem sCh_all : ((List.range 11).all fun k => (List.range (sLn.getD k 0)).all fun i => (List.range 128).any fun n => decide (sCh k i = nI n)) = true := by decide +kernel
theorem sCh_n {k i : Nat} (hk : k < 11) (hi : i < sLn.getD k 0) : ∃ n, n < 128 ∧ sCh k i = nI n := by
  have h1 := List.all_eq_true.mp sCh_all k (List.mem_range.mpr hk)
  have h2 := List.all_eq_true.mp h1 i (List.mem_range.mpr hi)
  obtain ⟨n, hn, e⟩ := List.any_eq_true.mp h2
  exact ⟨n, List.mem_range.mp hn, of_decide_eq_true e⟩
theorem ch_all : ((List.range 128).all fun n => decide ((((nI n) &&& nI 255).toUInt32 % 65536).toInt32 = nI n) && decide ((nI n).toUInt32.toUInt16.toUInt32.toInt32 = nI n)) = true := by decide +kernel
theorem ch_n {n : Nat} (hn : n < 128) : (((nI n) &&& nI 255).toUInt32 % 65536).toInt32 = nI n ∧ (nI n).toUInt32.toUInt16.toUInt32.toInt32 = nI n := by
  have h1 := List.all_eq_true.mp ch_all n (List.mem_range.mpr hn)
  rw [Bool.and_eq_true, decide_eq_true_eq, decide_eq_true_eq] at h1
  exact h1
theorem sLn_lt {k : Nat} (hk : k < 11) : sLn.getD k 0 < 100 := by
  have h : ((List.range 11).all fun k => decide (sLn.getD k 0 < 100)) = true := by decide
  exact of_decide_eq_true (List.all_eq_true.mp h k (List.mem_range.mpr hk))
theorem j_coder {k : Nat} (hk : k < 11) : Rp d M_J0_coder_7d493 0 [some (.retAddr k)] [] h (fun r h' => h' = h ∧ r = some (.int (nI 0))) := by
  refine Rp.getCS rfl dJ0_coder_7d493_0 ?_
  refine Rp.if_eq (tgt := 13) dJ0_coder_7d493_3 (by decide) (fun c => absurd c (by decide)) (fun c => ?_)
  refine Rp.aload_n dJ0_coder_7d493_6 rfl rfl ?_
  refine Rp.getCod hk rfl dJ0_coder_7d493_7 ?_
  refine Rp.goto (tgt := 14) dJ0_coder_7d493_10 (by decide) ?_
  exact Rp.nreturn (ty := .byte) dJ0_coder_7d493_14 rfl rfl ⟨rfl, rfl⟩
theorem j_latin {k : Nat} (hk : k < 11) : Rp d M_J0_isLatin1_aae02 0 [some (.retAddr k)] [] h (fun r h' => h' = h ∧ r = some (.int (nI 1))) := by
  refine Rp.getCS rfl dJ0_isLatin1_aae02_0 ?_
  refine Rp.if_eq (tgt := 17) dJ0_isLatin1_aae02_3 (by decide) (fun c => absurd c (by decide)) (fun c => ?_)
  refine Rp.aload_n dJ0_isLatin1_aae02_6 rfl rfl ?_
  refine Rp.getCod hk rfl dJ0_isLatin1_aae02_7 ?_
  refine Rp.if_ne (tgt := 17) dJ0_isLatin1_aae02_10 (by decide) (fun c => absurd rfl c) (fun c => ?_)
  refine Rp.iconst (nI 1) dJ0_isLatin1_aae02_13 (by decide) ?_
  refine Rp.goto (tgt := 18) dJ0_isLatin1_aae02_14 (by decide) ?_
  exact Rp.nreturn (ty := .boolean) dJ0_isLatin1_aae02_18 rfl rfl ⟨rfl, rfl⟩
theorem j_length {k : Nat} (hk : k < 11) : Rp (d + 1) M_J0_length_8abf5 0 [some (.retAddr k)] [] h (fun r h' => h' = h ∧ r = some (.int (nI (sLn.getD k 0)))) := by
  refine Rp.aload_n dJ0_length_8abf5_0 rfl rfl ?_
  refine Rp.getVal hk rfl dJ0_length_8abf5_1 ?_
  refine Rp.alenS hk dJ0_length_8abf5_4 ?_
  refine Rp.aload_n dJ0_length_8abf5_5 rfl rfl ?_
  refine Rp.callVs' (Mc := M_J0_coder_7d493) (As := []) hk dJ0_length_8abf5_6 mo_J0_coder_7d493 lk_J0_335 rfl rfl (Nat.le_of_ble_eq_true rfl) (Nat.le_of_ble_eq_true rfl) (j_coder hk) (fun v1 h1 p1 => ?_)
  rw [p1.1, p1.2]
  refine Rp.ishr dJ0_length_8abf5_9 ?_
  have e : nI (sLn.getD k 0) >>> (nI 0 &&& 31) = nI (sLn.getD k 0) := by
    have h0 : ((List.range 11).all fun k => decide (nI (sLn.getD k 0) >>> (nI 0 &&& 31) = nI (sLn.getD k 0))) = true := by decide +kernel
    exact of_decide_eq_true (List.all_eq_true.mp h0 k (List.mem_range.mpr hk))
  rw [e]
  exact Rp.ireturn dJ0_length_8abf5_10 rfl ⟨rfl, rfl⟩
theorem j_check {i n : Nat} (hi : i < n) (hn : n < 2147483648) : Rp d M_J3_checkIndex_8e157 0 [some (.int (nI i)), some (.int (nI n)), some (.retAddr 99)] [] h (fun r h' => h' = h ∧ r = some (.int (nI i))) := by
  refine Rp.iload_n dJ3_checkIndex_8e157_0 rfl ?_
  refine Rp.if_lt (tgt := 9) dJ3_checkIndex_8e157_1 (by decide) (fun c => absurd c (by rw [i32_lt, nI_toInt (by omega)]; exact Int.not_lt.mpr (Int.natCast_nonneg _))) (fun c => ?_)
  refine Rp.iload_n dJ3_checkIndex_8e157_4 rfl ?_
  refine Rp.iload_n dJ3_checkIndex_8e157_5 rfl ?_
  refine Rp.icmp_ltN (tgt := 16) dJ3_checkIndex_8e157_6 (by decide) (by omega) (fun c => ?_) (fun c => absurd hi c)
  refine Rp.iload_n dJ3_checkIndex_8e157_16 rfl ?_
  exact Rp.ireturn dJ3_checkIndex_8e157_17 rfl ⟨rfl, rfl⟩
theorem j_check0 {i n : Nat} (hi : i < n) (hn : n < 2147483648) : Rp (d + 1) M_J0_checkIndex_df160 0 [some (.int (nI i)), some (.int (nI n))] [] h (fun r h' => h' = h ∧ r = none) := by
  refine Rp.iload_n dJ0_checkIndex_df160_0 rfl ?_
  refine Rp.iload_n dJ0_checkIndex_df160_1 rfl ?_
  refine Rp.getSF rfl dJ0_checkIndex_df160_2 ?_
  refine Rp.callS3 M_J3_checkIndex_8e157 dJ0_checkIndex_df160_5 mo_J3_checkIndex_8e157 lk_J0_1059 (Nat.le_of_ble_eq_true rfl) (Nat.le_of_ble_eq_true rfl) (j_check hi hn) (fun v1 h1 p1 x1 => ?_)
  rw [p1.1, p1.2]
  refine Rp.pop dJ0_checkIndex_df160_8 rfl ?_
  exact Rp.vreturn dJ0_checkIndex_df160_9 rfl ⟨rfl, rfl⟩
theorem j_char1 {k i : Nat} (hk : k < 11) (hi : i < sLn.getD k 0) : Rp (d + 2) M_J1_charAt_3b067 0 [some (.retAddr (100 + k)), some (.int (nI i))] [] h (fun r h' => h' = h ∧ r = some (.int (sCh k i))) := by
  have hl := sLn_lt hk
  obtain ⟨n, hn, e⟩ := sCh_n hk hi
  refine Rp.iload_n dJ1_charAt_3b067_0 rfl ?_
  refine Rp.aload_n dJ1_charAt_3b067_1 rfl rfl ?_
  refine Rp.alenS hk dJ1_charAt_3b067_2 ?_
  refine Rp.callS2 M_J0_checkIndex_df160 dJ1_charAt_3b067_3 mo_J0_checkIndex_df160 lk_J1_9 (Nat.le_of_ble_eq_true rfl) (Nat.le_of_ble_eq_true rfl) (j_check0 hi (by omega)) (fun v1 h1 p1 x1 => ?_)
  rw [p1.1, p1.2]
  refine Rp.aload_n dJ1_charAt_3b067_6 rfl rfl ?_
  refine Rp.iload_n dJ1_charAt_3b067_7 rfl ?_
  refine Rp.baloadS hk ⟨hi, by omega⟩ dJ1_charAt_3b067_8 ?_
  refine Rp.sipush (nI 255) dJ1_charAt_3b067_9 (by decide) ?_
  refine Rp.iand dJ1_charAt_3b067_12 ?_
  refine Rp.i2c dJ1_charAt_3b067_13 ?_
  rw [show (sBy.getD k []).getD i 0 = nI n from e, (ch_n hn).1, e]
  exact Rp.nreturn (ty := .char) dJ1_charAt_3b067_14 rfl (congrArg Value.int (ch_n hn).2) ⟨rfl, rfl⟩
theorem j_charAt {k i : Nat} (hk : k < 11) (hi : i < sLn.getD k 0) : Rp (d + 3) M_J0_charAt_5068e 0 [some (.retAddr k), some (.int (nI i))] [] h (fun r h' => h' = h ∧ r = some (.int (sCh k i))) := by
  obtain ⟨n, hn, e⟩ := sCh_n hk hi
  refine Rp.aload_n dJ0_charAt_5068e_0 rfl rfl ?_
  refine Rp.callVs' (Mc := M_J0_isLatin1_aae02) (As := []) hk dJ0_charAt_5068e_1 mo_J0_isLatin1_aae02 lk_J0_492 rfl rfl (Nat.le_of_ble_eq_true rfl) (Nat.le_of_ble_eq_true rfl) (j_latin hk) (fun v1 h1 p1 => ?_)
  rw [p1.1, p1.2]
  refine Rp.if_eqN (tgt := 16) dJ0_charAt_5068e_4 (by decide) (by decide) (fun c => absurd c (by decide)) (fun c => ?_)
  refine Rp.aload_n dJ0_charAt_5068e_7 rfl rfl ?_
  refine Rp.getVal hk rfl dJ0_charAt_5068e_8 ?_
  refine Rp.iload_n dJ0_charAt_5068e_11 rfl ?_
  refine Rp.callS2 M_J1_charAt_3b067 dJ0_charAt_5068e_12 mo_J1_charAt_3b067 lk_J0_495 (Nat.le_of_ble_eq_true rfl) (Nat.le_of_ble_eq_true rfl) (j_char1 hk hi) (fun v1 h1 p1 x1 => ?_)
  rw [p1.1, p1.2, e]
  exact Rp.nreturn (ty := .char) dJ0_charAt_5068e_15 rfl (congrArg Value.int (ch_n hn).2) ⟨rfl, rfl⟩
end Jp
