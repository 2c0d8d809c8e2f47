section Aq
variable {d : Nat} {M : MT} {pc : Nat} {ls : List (Option Value)} {st : List Value} {h : AH} {v : Option Value} {h' : AH}
theorem Rj.aastoreN {k n : Nat} {i : Int32} (hs : h.1[k]? = some (17, n)) (hin : vp_in i n) (hd : decode M.2.1 pc = .ok (.aastore, 1)) (kk : Rj d M (pc + 1) ls st (sR h k i.toNatClampNeg none) v h') : Rj d M pc ls (.null :: .int i :: .ref k :: st) h v h' := Rj.wr (h2 := sR h k i.toNatClampNeg none) rfl rfl (fun E p l e R s m args below meth c H locs cells slots Q rl X w L y => by
  obtain ⟨hx, hb, -, -, hown, hts, -, -, hK, -⟩ := X
  have h1 := (w.2 k _ hs).2 (show ¬ 17 < 13 by decide)
  refine va_WaastN (C := "TicketHall$Text") hx hb h1 ((hK.2 4 _ (tysE_at E (by decide))).1 n _) (fun z => by cases z) (by rw [arrV_size]; exact hin) rfl rfl hd (fun H1 g1 g2 g3 => y H1 _ (arr_put w hs (show ¬ 17 < 13 by decide) rfl (x := .null) (fun a' kd' j' => ?_) g1 g2 g3) (fun q hq => g3 q (Nat.ne_of_lt (Nat.lt_of_lt_of_le hq (Nat.le_add_right _ _)))) (Nat.le_add_right _ _))
  rw [cval_sR]
  rfl) kk
end Aq
/-- a text or nothing, into an array of texts -/
theorem Rp.aastoreO {d : Nat} {M : MT} {pc : Nat} {ls : List (Option Value)} {st : List Value} {h : AH} {P : Option Value → AH → Prop} {k n i : Nat} {r : Option Nat} (hd : decode M.2.1 pc = .ok (.aastore, 1)) (hs : h.1[k]? = some (17, n)) (hr : ∀ a, r = some a → h.1[a]? = some (9, clN 9)) (hi : i < n ∧ n < 2147483648) (kk : Rp d M (pc + 1) ls st (sR h k i r) P) : Rp d M pc ls (cvR r :: .int (nI i) :: .ref k :: st) h P := by
  obtain ⟨v, h', rr, p⟩ := kk
  have hc : (nI i).toNatClampNeg = i := nI_clamp (show i < 2 ^ 31 by omega)
  cases r with
  | none => exact ⟨v, h', Rj.aastoreN hs (vp_in_nI hi.1 hi.2) hd (by rw [hc]; exact rr), p⟩
  | some a => exact ⟨v, h', Rj.aastore (t := 4) (Or.inl ⟨rfl, rfl⟩) hs (hr a rfl) (vp_in_nI hi.1 hi.2) hd (by rw [hc]; exact rr), p⟩
theorem Rp.aaloadN {d : Nat} {M : MT} {pc : Nat} {ls : List (Option Value)} {st : List Value} {h : AH} {P : Option Value → AH → Prop} {k n i t : Nat} (hd : decode M.2.1 pc = .ok (.aaload, 1)) (ht : t = 4 ∨ t = 5) (hs : h.1[k]? = some (13 + t, n)) (hi : i < n ∧ n < 2147483648) (kk : Rp d M (pc + 1) ls (cvR (gR h k i) :: st) h P) : Rp d M pc ls (.int (nI i) :: .ref k :: st) h P := Rp.aaload hd ht hs (vp_in_nI hi.1 hi.2) (by rw [nI_clamp (show i < 2 ^ 31 by omega)]; exact kk)
/-- a hall's cells, from its own on -/
def hsh : List (Nat × Nat) := [(2, 20), (13, 6), (13, 6), (13, 6), (13, 48), (13, 8), (13, 8), (13, 8), (13, 3), (13, 3), (13, 6), (13, 6), (13, 3), (17, 6), (4, 2), (13, 16)]
def hrf : List (List (Option Nat)) := [[none, some 1, some 2, some 3, some 4, none, some 5, some 6, some 7, none, some 8, some 9, none, some 10, some 11, some 12, none, some 13, none, some 14], [], [], [], [], [], [], [], [], [], [], [], [], [], [some 15], []]
def HOK (h : AH) (b : Nat) : Prop := (∀ o q, hsh[o]? = some q → h.1[b + o]? = some q) ∧ (∀ o j a, ((hrf.getD o []).getD j none) = some a → gR h (b + o) j = some (b + a))
theorem HOK.of {h : AH} (S : ShOK h) (R : RfOK h) {b : Nat} (hb : b = 1 ∨ b = 17 ∨ b = 68 ∨ b = 84) : HOK h b := by
  have k1 : ∀ b, b = 1 ∨ b = 17 ∨ b = 68 ∨ b = 84 → ∀ o, o < 16 → SH0[b + o]? = hsh[o]? := by
    rintro b (rfl | rfl | rfl | rfl) <;> decide
  have k2 : ∀ b, b = 1 ∨ b = 17 ∨ b = 68 ∨ b = 84 → ∀ o, o < 16 → ∀ j, j < 20 → ((hrf.getD o []).getD j none).map (fun a => b + a) = (if o = 13 then none else rf0 (b + o) j) := by
    rintro b (rfl | rfl | rfl | rfl) <;> decide +kernel
  have ho : ∀ o, 16 ≤ o → hrf.getD o [] = [] := fun o ho => by rw [List.getD_eq_getElem?_getD, List.getElem?_eq_none (by show 16 ≤ o; exact ho)]; rfl
  have hl : ∀ l ∈ hrf, l.length ≤ 20 := by decide
  refine ⟨fun o q hq => S _ _ ?_, fun o j a ha => ?_⟩
  · have h16 : o < 16 := (List.getElem?_eq_some_iff.mp hq).1
    rw [k1 b hb o h16, hq]
  · have h16 : o < 16 := by
      by_cases h16 : o < 16
      · exact h16
      · rw [ho o (by omega)] at ha; cases ha
    have h20 : j < 20 := by
      by_cases h20 : j < 20
      · exact h20
      · exfalso
        have hk2 : o < hrf.length := h16
        rw [List.getD_eq_getElem?_getD (l := hrf), List.getElem?_eq_getElem hk2, Option.getD_some, List.getD_eq_getElem?_getD, List.getElem?_eq_none (by have := hl _ (List.getElem_mem hk2); omega)] at ha
        cases ha
    have := k2 b hb o h16 j h20
    rw [ha] at this
    by_cases h13 : o = 13
    · rw [if_pos h13] at this; cases this
    · rw [if_neg h13] at this
      exact R _ _ _ this.symm
theorem HOK.moved {h h' : AH} {b : Nat} (A : HOK h b) (e1 : h'.1 = h.1) (e2 : ∀ k j, gR h' k j = gR h k j) : HOK h' b := ⟨fun o q hq => by rw [e1]; exact A.1 o q hq, fun o j a ha => by rw [e2]; exact A.2 o j a ha⟩
theorem sI_cp (h : AH) (k0 k1 j : Nat) : sI h k1 j (gI h k0 j) = cpH h k0 k1 j j 1 := by
  unfold sI cpH
  congr 2
  funext a b
  unfold upI
  by_cases ha : a = k1
  · rw [if_pos ha, if_pos ha]
    by_cases hb : b = j
    · rw [if_pos hb, if_pos (by omega), hb, Nat.sub_self, Nat.add_zero]
    · rw [if_neg hb, if_neg (by omega)]; rfl
  · rw [if_neg ha, if_neg ha]; rfl
/-- slots of one hall's cells into another's -/
def cpB (b0 b1 : Nat) : List (Nat × Nat × Nat) → AH → AH
  | [], h => h
  | (o, s, n) :: r, h => cpB b0 b1 r (cpH h (b0 + o) (b1 + o) s s n)
theorem cpB_n (b0 b1 : Nat) (h : AH) : cpB b0 b1 [] h = h := rfl
theorem cpB_c (b0 b1 o s n : Nat) (r : List (Nat × Nat × Nat)) (h : AH) : cpB b0 b1 ((o, s, n) :: r) h = cpB b0 b1 r (cpH h (b0 + o) (b1 + o) s s n) := rfl
def cpops : List (Nat × Nat × Nat) := [(0, 0, 1), (1, 0, 6), (2, 0, 6), (3, 0, 6), (4, 0, 48), (0, 5, 1), (5, 0, 8), (6, 0, 8), (7, 0, 8), (0, 9, 1), (8, 0, 3), (9, 0, 3), (0, 12, 1), (10, 0, 6), (11, 0, 6), (12, 0, 3), (0, 16, 1)]
def crT (b0 b1 : Nat) (h : AH) : Nat → AH
  | 0 => h
  | n + 1 => sR (crT b0 b1 h n) (b1 + 13) n (gR h (b0 + 13) n)
def cpops2 : List (Nat × Nat × Nat) := [(0, 18, 1), (15, 0, 16), (14, 1, 1)]
def cpyH (b0 b1 : Nat) (h : AH) : AH := cpB b0 b1 cpops2 (crT b0 b1 (cpB b0 b1 cpops h) 6)
theorem cpB_1 (b0 b1 : Nat) : ∀ (l : List (Nat × Nat × Nat)) (h : AH), (cpB b0 b1 l h).1 = h.1 ∧ gS (cpB b0 b1 l h) = gS h ∧ (∀ k j, gL (cpB b0 b1 l h) k j = gL h k j) ∧ ∀ k j, gR (cpB b0 b1 l h) k j = gR h k j
  | [], h => ⟨rfl, rfl, fun _ _ => rfl, fun _ _ => rfl⟩
  | (o, s, n) :: r, h => cpB_1 b0 b1 r (cpH h (b0 + o) (b1 + o) s s n)
theorem cpB_out (b0 b1 : Nat) : ∀ (l : List (Nat × Nat × Nat)) (h : AH) (k j : Nat), (∀ q ∈ l, ¬ (k = b1 + q.1 ∧ q.2.1 ≤ j ∧ j < q.2.1 + q.2.2)) → gI (cpB b0 b1 l h) k j = gI h k j
  | [], h, k, j, _ => rfl
  | (o, s, n) :: r, h, k, j, hq => by
    rw [cpB, cpB_out b0 b1 r _ k j (fun q hm => hq q (List.mem_cons_of_mem _ hm)), gI_cp]
    have h0 := hq _ (List.mem_cons_self ..)
    by_cases hk : k = b1 + o
    · rw [if_pos hk, if_neg (fun z => h0 ⟨hk, z.1, z.2⟩)]
    · rw [if_neg hk]
/-- apart: no cell of the one is a cell of the other -/
def apart (b0 b1 : Nat) : Prop := b0 + 16 ≤ b1 ∨ b1 + 16 ≤ b0
theorem cpB_in (b0 b1 : Nat) (hab : apart b0 b1) : ∀ (l : List (Nat × Nat × Nat)) (h : AH) (o j : Nat), (∀ q ∈ l, q.1 < 16) → (∃ q ∈ l, o = q.1 ∧ q.2.1 ≤ j ∧ j < q.2.1 + q.2.2) → gI (cpB b0 b1 l h) (b1 + o) j = gI h (b0 + o) j
  | [], h, o, j, _, hq => by obtain ⟨q, hm, -⟩ := hq; cases hm
  | (o', s, n) :: r, h, o, j, hl, hq => by
    have hl' : ∀ q ∈ r, q.1 < 16 := fun q hm => hl q (List.mem_cons_of_mem _ hm)
    have ho' := hl _ (List.mem_cons_self ..)
    obtain ⟨q0, hm0, e0, hj0⟩ := hq
    have ho : o < 16 := by rw [e0]; exact hl q0 hm0
    have hne : ∀ a, a < 16 → b0 + o ≠ b1 + a := fun a ha => by unfold apart at hab; omega
    by_cases hr : ∃ q ∈ r, o = q.1 ∧ q.2.1 ≤ j ∧ j < q.2.1 + q.2.2
    · rw [cpB, cpB_in b0 b1 hab r _ o j hl' hr, gI_cp, if_neg (hne o' ho')]
    · rw [cpB, cpB_out b0 b1 r _ _ j (fun q hm z => hr ⟨q, hm, by omega, z.2⟩), gI_cp]
      rcases List.mem_cons.mp hm0 with rfl | hm
      · rw [if_pos (by rw [e0]), if_pos ⟨hj0.1, by simpa using hj0.2⟩]
        simp only at e0 hj0
        rw [show s + (j - s) = j by omega, e0]
      · exact absurd ⟨q0, hm, e0, hj0⟩ hr
theorem crT_1 (b0 b1 : Nat) (h : AH) : ∀ n, (crT b0 b1 h n).1 = h.1 ∧ gS (crT b0 b1 h n) = gS h ∧ (∀ k j, gL (crT b0 b1 h n) k j = gL h k j) ∧ ∀ k j, gI (crT b0 b1 h n) k j = gI h k j
  | 0 => ⟨rfl, rfl, fun _ _ => rfl, fun _ _ => rfl⟩
  | n + 1 => crT_1 b0 b1 h n
theorem crT_R (b0 b1 : Nat) (h : AH) (k j : Nat) : ∀ n, gR (crT b0 b1 h n) k j = if k = b1 + 13 ∧ j < n then gR h (b0 + 13) j else gR h k j
  | 0 => by rw [if_neg (fun z => absurd z.2 (by omega))]; rfl
  | n + 1 => by
    show (if k = b1 + 13 then (if j = n then gR h (b0 + 13) n else gR (crT b0 b1 h n) k j) else gR (crT b0 b1 h n) k j) = _
    rw [crT_R b0 b1 h k j n]
    by_cases hk : k = b1 + 13
    · by_cases hj : j = n
      · rw [if_pos hk, if_pos hj, if_pos ⟨hk, by omega⟩, hj]
      · rw [if_pos hk, if_neg hj]
        by_cases hl : j < n
        · rw [if_pos ⟨hk, hl⟩, if_pos ⟨hk, by omega⟩]
        · rw [if_neg (fun z => hl z.2), if_neg (fun z => by omega)]
    · rw [if_neg hk, if_neg (fun z => hk z.1), if_neg (fun z => hk z.1)]
section Cp
variable (d : Nat) {h : AH}
theorem t_log_copy {b0 b1 : Nat} (A0 : HOK h b0) (A1 : HOK h b1) : Rp (d + 1) M_X4_copyFrom 0 [some (.ref (b1 + 14)), some (.ref (b0 + 14))] [] h (fun r h' => h' = cpB b0 b1 [(15, 0, 16), (14, 1, 1)] h ∧ r = none) := by
  refine Rp.aload_n dX4_copyFrom_0 rfl rfl ?_
  refine Rp.getR dX4_copyFrom_1 fk_X4_9 rfl (A0.1 14 _ rfl) (A0.2 14 0 15 rfl) ?_
  refine Rp.iconst (nI 0) dX4_copyFrom_4 (by decide) ?_
  refine Rp.aload_n dX4_copyFrom_5 rfl rfl ?_
  refine Rp.getR dX4_copyFrom_6 fk_X4_9 rfl (A1.1 14 _ rfl) (A1.2 14 0 15 rfl) ?_
  refine Rp.iconst (nI 0) dX4_copyFrom_9 (by decide) ?_
  refine Rp.bipush (nI 16) dX4_copyFrom_10 (by decide) ?_
  refine Rp.acopy dX4_copyFrom_12 ac_X4_17 (A0.1 15 _ rfl) (A1.1 15 _ rfl) (by decide) (Nat.le_of_ble_eq_true rfl) ?_
  refine Rp.aload_n dX4_copyFrom_15 rfl rfl ?_
  refine Rp.aload_n dX4_copyFrom_16 rfl rfl ?_
  refine Rp.getI dX4_copyFrom_17 fk_X4_13 rfl (A0.1 14 _ rfl) ?_
  refine Rp.putI dX4_copyFrom_20 fk_X4_13w rfl (A1.1 14 _ rfl) ?_
  rw [sI_cp]
  refine Rp.vreturn dX4_copyFrom_23 rfl ?_
  exact ⟨rfl, rfl⟩
theorem texts_loop {b0 b1 : Nat} {P : Option Value → AH → Prop} (hab : apart b0 b1) (A0 : HOK h b0) (A1 : HOK h b1) (ht : ∀ i a, i < 6 → gR h (b0 + 13) i = some a → h.1[a]? = some (9, clN 9)) (hk : Rp d M_X2_copyFrom 243 [some (.ref b1), some (.ref b0), some (.int (nI 6))] [] (crT b0 b1 h 6) P) : ∀ (m i : Nat), i + m = 6 → Rp d M_X2_copyFrom 219 [some (.ref b1), some (.ref b0), some (.int (nI i))] [] (crT b0 b1 h i) P := by
  intro m
  induction m with
  | zero =>
    intro i hi
    have e : i = 6 := by omega
    subst e
    refine Rp.iload_n dX2_copyFrom_219 rfl ?_
    refine Rp.bipush (nI 6) dX2_copyFrom_220 (by decide) ?_
    first | ((with_reducible show Rp _ _ _ _ (.int (nI _) :: .int (nI _) :: _) _ _); refine Rp.icmp_geN (tgt := 243) dX2_copyFrom_222 (by decide) (by omega) (fun c222 => ?_) (fun c222 => ?_)) | refine Rp.icmp_ge (tgt := 243) dX2_copyFrom_222 (by decide) (fun c222 => ?_) (fun c222 => ?_)
    · skip
      exact hk
    · skip
      first | (exfalso; omega) | exact absurd c222 (by decide) | exact absurd (by decide) c222
  | succ m ih =>
    intro i hi
    have q1 := crT_1 b0 b1 h i
    have s0 : (crT b0 b1 h i).1[b0]? = some (2, clN 2) := by rw [q1.1]; exact A0.1 0 _ rfl
    have s1 : (crT b0 b1 h i).1[b1]? = some (2, clN 2) := by rw [q1.1]; exact A1.1 0 _ rfl
    have s2 : (crT b0 b1 h i).1[b0 + 13]? = some (17, 6) := by rw [q1.1]; exact A0.1 13 _ rfl
    have s3 : (crT b0 b1 h i).1[b1 + 13]? = some (17, 6) := by rw [q1.1]; exact A1.1 13 _ rfl
    have r0 : gR (crT b0 b1 h i) b0 17 = some (b0 + 13) := by rw [crT_R, if_neg (fun z => by unfold apart at hab; omega)]; exact A0.2 0 17 13 rfl
    have r1 : gR (crT b0 b1 h i) b1 17 = some (b1 + 13) := by rw [crT_R, if_neg (fun z => by omega)]; exact A1.2 0 17 13 rfl
    have r2 : gR (crT b0 b1 h i) (b0 + 13) i = gR h (b0 + 13) i := by rw [crT_R, if_neg (fun z => by omega)]
    refine Rp.iload_n dX2_copyFrom_219 rfl ?_
    refine Rp.bipush (nI 6) dX2_copyFrom_220 (by decide) ?_
    refine Rp.icmp_geN (tgt := 243) dX2_copyFrom_222 (by decide) (by omega) (fun c => absurd c (by omega)) (fun c => ?_)
    refine Rp.aload_n dX2_copyFrom_225 rfl rfl ?_
    refine Rp.getR dX2_copyFrom_226 fk_X2_50 rfl s1 r1 ?_
    refine Rp.iload_n dX2_copyFrom_229 rfl ?_
    refine Rp.aload_n dX2_copyFrom_230 rfl rfl ?_
    refine Rp.getR dX2_copyFrom_231 fk_X2_50 rfl s0 r0 ?_
    refine Rp.iload_n dX2_copyFrom_234 rfl ?_
    refine Rp.aaloadN (t := 4) dX2_copyFrom_235 (Or.inl rfl) s2 (by omega) ?_
    rw [r2]
    refine Rp.aastoreO dX2_copyFrom_236 s3 (fun a ha => by rw [q1.1]; exact ht i a (by omega) ha) (by omega) ?_
    first | ((with_reducible show Rp _ _ _ (_ :: _ :: some (.int (nI _)) :: _) _ _ _); refine Rp.inc2N (c := 1) dX2_copyFrom_237 (by first | exact nl2_some rfl | exact nl2_none) (by decide) ?_) | refine Rp.inc2 _ dX2_copyFrom_237 rfl (by first | exact nl2_some rfl | exact nl2_none) (by decide) ?_
    refine Rp.goto (tgt := 219) dX2_copyFrom_240 (by decide) ?_
    exact ih (i + 1) (by omega)
theorem copy_end {b0 b1 : Nat} (A0 : HOK h b0) (A1 : HOK h b1) : Rp (d + 2) M_X2_copyFrom 243 [some (.ref b1), some (.ref b0), some (.int (nI 6))] [] h (fun r h' => h' = cpB b0 b1 cpops2 h ∧ r = none) := by
  have B0 : HOK (cpH h b0 b1 18 18 1) b0 := A0
  have B1 : HOK (cpH h b0 b1 18 18 1) b1 := A1
  refine Rp.aload_n dX2_copyFrom_243 rfl rfl ?_
  refine Rp.aload_n dX2_copyFrom_244 rfl rfl ?_
  refine Rp.getI dX2_copyFrom_245 fk_X2_54 rfl (A0.1 0 _ rfl) ?_
  refine Rp.putI dX2_copyFrom_248 fk_X2_54w rfl (A1.1 0 _ rfl) ?_
  rw [sI_cp]
  refine Rp.aload_n dX2_copyFrom_251 rfl rfl ?_
  refine Rp.getR dX2_copyFrom_252 fk_X2_61 rfl (A1.1 0 _ rfl) (A1.2 0 19 14 rfl) ?_
  refine Rp.aload_n dX2_copyFrom_255 rfl rfl ?_
  refine Rp.getR dX2_copyFrom_256 fk_X2_61 rfl (A0.1 0 _ rfl) (A0.2 0 19 14 rfl) ?_
  refine Rp.callV1 M_X4_copyFrom (ci := 4) dX2_copyFrom_259 mo_X4_copyFrom lk_X2_92 (by decide) rfl rfl (A1.1 14 _ rfl) (Nat.le_of_ble_eq_true rfl) (Nat.le_of_ble_eq_true rfl) (t_log_copy d B0 B1) (fun v1 h1 p1 x1 => ?_)
  rw [p1.1, p1.2]
  try dsimp only [Option.toList, List.cons_append, List.nil_append, List.append]
  refine Rp.vreturn dX2_copyFrom_262 rfl ?_
  exact ⟨rfl, rfl⟩
theorem copy_mid {b0 b1 : Nat} (hab : apart b0 b1) (A0 : HOK h b0) (A1 : HOK h b1) (ht : ∀ i a, i < 6 → gR h (b0 + 13) i = some a → h.1[a]? = some (9, clN 9)) (H : AH) (eH : H = cpB b0 b1 cpops h) : Rp (d + 2) M_X2_copyFrom 219 [some (.ref b1), some (.ref b0), some (.int (nI 0))] [] H (fun r h' => h' = cpyH b0 b1 h ∧ r = none) := by
  have q := cpB_1 b0 b1 cpops h
  have B0 : HOK H b0 := A0.moved (by rw [eH]; exact q.1) (fun k j => by rw [eH]; exact q.2.2.2 k j)
  have B1 : HOK H b1 := A1.moved (by rw [eH]; exact q.1) (fun k j => by rw [eH]; exact q.2.2.2 k j)
  have w := crT_1 b0 b1 H 6
  have C0 : HOK (crT b0 b1 H 6) b0 := ⟨fun o q hq => by rw [w.1]; exact B0.1 o q hq, fun o j a ha => by
    have ho : o < 16 := by
      by_cases ho : o < 16
      · exact ho
      · have : hrf.getD o [] = [] := by rw [List.getD_eq_getElem?_getD, List.getElem?_eq_none (by show 16 ≤ o; omega)]; rfl
        rw [this] at ha; cases ha
    rw [crT_R, if_neg (fun z => by unfold apart at hab; omega)]
    exact B0.2 o j a ha⟩
  have C1 : HOK (crT b0 b1 H 6) b1 := ⟨fun o q hq => by rw [w.1]; exact B1.1 o q hq, fun o j a ha => by
    rw [crT_R, if_neg (fun z => by
      have e : o = 13 := by omega
      subst e
      cases ha)]
    exact B1.2 o j a ha⟩
  refine texts_loop (d + 2) (h := H) hab B0 B1 (fun i a hi ha => by
    rw [eH, q.2.2.2] at ha
    rw [eH, q.1]
    exact ht i a hi ha) ?_ 6 0 (by omega)
  refine Rp.mono (fun r h' z => ⟨?_, z.2⟩) (copy_end d C0 C1)
  rw [z.1, eH]
  rfl
theorem HOK.cp {h : AH} {b : Nat} (A : HOK h b) (k0 k1 sp dp n : Nat) : HOK (cpH h k0 k1 sp dp n) b := A.moved rfl (fun _ _ => rfl)
theorem sI_cp0 (h : AH) (b0 b1 j : Nat) : sI h b1 j (gI h b0 j) = cpH h (b0 + 0) (b1 + 0) j j 1 := sI_cp h b0 b1 j
theorem cpy_0 {b0 b1 : Nat} {P : Option Value → AH → Prop} (A0 : HOK h b0) (A1 : HOK h b1) (k : Rp (d + 2) M_X2_copyFrom 8 [some (.ref b1), some (.ref b0), none] [] (cpH h (b0 + 0) (b1 + 0) 0 0 1) P) : Rp (d + 2) M_X2_copyFrom 0 [some (.ref b1), some (.ref b0), none] [] h P := by
  refine Rp.aload_n dX2_copyFrom_0 rfl rfl ?_
  refine Rp.aload_n dX2_copyFrom_1 rfl rfl ?_
  refine Rp.getI dX2_copyFrom_2 fk_X2_71 rfl (A0.1 0 _ rfl) ?_
  refine Rp.putI dX2_copyFrom_5 fk_X2_71w rfl (A1.1 0 _ rfl) ?_
  rw [sI_cp0]
  exact k
theorem cpy_1 {b0 b1 : Nat} {P : Option Value → AH → Prop} (A0 : HOK h b0) (A1 : HOK h b1) (k : Rp (d + 2) M_X2_copyFrom 23 [some (.ref b1), some (.ref b0), none] [] (cpH h (b0 + 1) (b1 + 1) 0 0 6) P) : Rp (d + 2) M_X2_copyFrom 8 [some (.ref b1), some (.ref b0), none] [] h P := by
  refine Rp.aload_n dX2_copyFrom_8 rfl rfl ?_
  refine Rp.getR dX2_copyFrom_9 fk_X2_9 rfl (A0.1 0 _ rfl) (A0.2 0 1 1 rfl) ?_
  refine Rp.iconst (nI 0) dX2_copyFrom_12 (by decide) ?_
  refine Rp.aload_n dX2_copyFrom_13 rfl rfl ?_
  refine Rp.getR dX2_copyFrom_14 fk_X2_9 rfl (A1.1 0 _ rfl) (A1.2 0 1 1 rfl) ?_
  refine Rp.iconst (nI 0) dX2_copyFrom_17 (by decide) ?_
  refine Rp.bipush (nI 6) dX2_copyFrom_18 (by decide) ?_
  refine Rp.acopy dX2_copyFrom_20 ac_X2_74 (A0.1 1 _ rfl) (A1.1 1 _ rfl) (by decide) (Nat.le_of_ble_eq_true rfl) ?_
  exact k
theorem cpy_2 {b0 b1 : Nat} {P : Option Value → AH → Prop} (A0 : HOK h b0) (A1 : HOK h b1) (k : Rp (d + 2) M_X2_copyFrom 38 [some (.ref b1), some (.ref b0), none] [] (cpH h (b0 + 2) (b1 + 2) 0 0 6) P) : Rp (d + 2) M_X2_copyFrom 23 [some (.ref b1), some (.ref b0), none] [] h P := by
  refine Rp.aload_n dX2_copyFrom_23 rfl rfl ?_
  refine Rp.getR dX2_copyFrom_24 fk_X2_15 rfl (A0.1 0 _ rfl) (A0.2 0 2 2 rfl) ?_
  refine Rp.iconst (nI 0) dX2_copyFrom_27 (by decide) ?_
  refine Rp.aload_n dX2_copyFrom_28 rfl rfl ?_
  refine Rp.getR dX2_copyFrom_29 fk_X2_15 rfl (A1.1 0 _ rfl) (A1.2 0 2 2 rfl) ?_
  refine Rp.iconst (nI 0) dX2_copyFrom_32 (by decide) ?_
  refine Rp.bipush (nI 6) dX2_copyFrom_33 (by decide) ?_
  refine Rp.acopy dX2_copyFrom_35 ac_X2_74 (A0.1 2 _ rfl) (A1.1 2 _ rfl) (by decide) (Nat.le_of_ble_eq_true rfl) ?_
  exact k
theorem cpy_3 {b0 b1 : Nat} {P : Option Value → AH → Prop} (A0 : HOK h b0) (A1 : HOK h b1) (k : Rp (d + 2) M_X2_copyFrom 53 [some (.ref b1), some (.ref b0), none] [] (cpH h (b0 + 3) (b1 + 3) 0 0 6) P) : Rp (d + 2) M_X2_copyFrom 38 [some (.ref b1), some (.ref b0), none] [] h P := by
  refine Rp.aload_n dX2_copyFrom_38 rfl rfl ?_
  refine Rp.getR dX2_copyFrom_39 fk_X2_18 rfl (A0.1 0 _ rfl) (A0.2 0 3 3 rfl) ?_
  refine Rp.iconst (nI 0) dX2_copyFrom_42 (by decide) ?_
  refine Rp.aload_n dX2_copyFrom_43 rfl rfl ?_
  refine Rp.getR dX2_copyFrom_44 fk_X2_18 rfl (A1.1 0 _ rfl) (A1.2 0 3 3 rfl) ?_
  refine Rp.iconst (nI 0) dX2_copyFrom_47 (by decide) ?_
  refine Rp.bipush (nI 6) dX2_copyFrom_48 (by decide) ?_
  refine Rp.acopy dX2_copyFrom_50 ac_X2_74 (A0.1 3 _ rfl) (A1.1 3 _ rfl) (by decide) (Nat.le_of_ble_eq_true rfl) ?_
  exact k
theorem cpy_4 {b0 b1 : Nat} {P : Option Value → AH → Prop} (A0 : HOK h b0) (A1 : HOK h b1) (k : Rp (d + 2) M_X2_copyFrom 68 [some (.ref b1), some (.ref b0), none] [] (cpH h (b0 + 4) (b1 + 4) 0 0 48) P) : Rp (d + 2) M_X2_copyFrom 53 [some (.ref b1), some (.ref b0), none] [] h P := by
  refine Rp.aload_n dX2_copyFrom_53 rfl rfl ?_
  refine Rp.getR dX2_copyFrom_54 fk_X2_21 rfl (A0.1 0 _ rfl) (A0.2 0 4 4 rfl) ?_
  refine Rp.iconst (nI 0) dX2_copyFrom_57 (by decide) ?_
  refine Rp.aload_n dX2_copyFrom_58 rfl rfl ?_
  refine Rp.getR dX2_copyFrom_59 fk_X2_21 rfl (A1.1 0 _ rfl) (A1.2 0 4 4 rfl) ?_
  refine Rp.iconst (nI 0) dX2_copyFrom_62 (by decide) ?_
  refine Rp.bipush (nI 48) dX2_copyFrom_63 (by decide) ?_
  refine Rp.acopy dX2_copyFrom_65 ac_X2_74 (A0.1 4 _ rfl) (A1.1 4 _ rfl) (by decide) (Nat.le_of_ble_eq_true rfl) ?_
  exact k
theorem cpy_5 {b0 b1 : Nat} {P : Option Value → AH → Prop} (A0 : HOK h b0) (A1 : HOK h b1) (k : Rp (d + 2) M_X2_copyFrom 76 [some (.ref b1), some (.ref b0), none] [] (cpH h (b0 + 0) (b1 + 0) 5 5 1) P) : Rp (d + 2) M_X2_copyFrom 68 [some (.ref b1), some (.ref b0), none] [] h P := by
  refine Rp.aload_n dX2_copyFrom_68 rfl rfl ?_
  refine Rp.aload_n dX2_copyFrom_69 rfl rfl ?_
  refine Rp.getI dX2_copyFrom_70 fk_X2_80 rfl (A0.1 0 _ rfl) ?_
  refine Rp.putI dX2_copyFrom_73 fk_X2_80w rfl (A1.1 0 _ rfl) ?_
  rw [sI_cp0]
  exact k
theorem cpy_6 {b0 b1 : Nat} {P : Option Value → AH → Prop} (A0 : HOK h b0) (A1 : HOK h b1) (k : Rp (d + 2) M_X2_copyFrom 91 [some (.ref b1), some (.ref b0), none] [] (cpH h (b0 + 5) (b1 + 5) 0 0 8) P) : Rp (d + 2) M_X2_copyFrom 76 [some (.ref b1), some (.ref b0), none] [] h P := by
  refine Rp.aload_n dX2_copyFrom_76 rfl rfl ?_
  refine Rp.getR dX2_copyFrom_77 fk_X2_24 rfl (A0.1 0 _ rfl) (A0.2 0 6 5 rfl) ?_
  refine Rp.iconst (nI 0) dX2_copyFrom_80 (by decide) ?_
  refine Rp.aload_n dX2_copyFrom_81 rfl rfl ?_
  refine Rp.getR dX2_copyFrom_82 fk_X2_24 rfl (A1.1 0 _ rfl) (A1.2 0 6 5 rfl) ?_
  refine Rp.iconst (nI 0) dX2_copyFrom_85 (by decide) ?_
  refine Rp.bipush (nI 8) dX2_copyFrom_86 (by decide) ?_
  refine Rp.acopy dX2_copyFrom_88 ac_X2_74 (A0.1 5 _ rfl) (A1.1 5 _ rfl) (by decide) (Nat.le_of_ble_eq_true rfl) ?_
  exact k
theorem cpy_7 {b0 b1 : Nat} {P : Option Value → AH → Prop} (A0 : HOK h b0) (A1 : HOK h b1) (k : Rp (d + 2) M_X2_copyFrom 106 [some (.ref b1), some (.ref b0), none] [] (cpH h (b0 + 6) (b1 + 6) 0 0 8) P) : Rp (d + 2) M_X2_copyFrom 91 [some (.ref b1), some (.ref b0), none] [] h P := by
  refine Rp.aload_n dX2_copyFrom_91 rfl rfl ?_
  refine Rp.getR dX2_copyFrom_92 fk_X2_27 rfl (A0.1 0 _ rfl) (A0.2 0 7 6 rfl) ?_
  refine Rp.iconst (nI 0) dX2_copyFrom_95 (by decide) ?_
  refine Rp.aload_n dX2_copyFrom_96 rfl rfl ?_
  refine Rp.getR dX2_copyFrom_97 fk_X2_27 rfl (A1.1 0 _ rfl) (A1.2 0 7 6 rfl) ?_
  refine Rp.iconst (nI 0) dX2_copyFrom_100 (by decide) ?_
  refine Rp.bipush (nI 8) dX2_copyFrom_101 (by decide) ?_
  refine Rp.acopy dX2_copyFrom_103 ac_X2_74 (A0.1 6 _ rfl) (A1.1 6 _ rfl) (by decide) (Nat.le_of_ble_eq_true rfl) ?_
  exact k
theorem cpy_8 {b0 b1 : Nat} {P : Option Value → AH → Prop} (A0 : HOK h b0) (A1 : HOK h b1) (k : Rp (d + 2) M_X2_copyFrom 121 [some (.ref b1), some (.ref b0), none] [] (cpH h (b0 + 7) (b1 + 7) 0 0 8) P) : Rp (d + 2) M_X2_copyFrom 106 [some (.ref b1), some (.ref b0), none] [] h P := by
  refine Rp.aload_n dX2_copyFrom_106 rfl rfl ?_
  refine Rp.getR dX2_copyFrom_107 fk_X2_30 rfl (A0.1 0 _ rfl) (A0.2 0 8 7 rfl) ?_
  refine Rp.iconst (nI 0) dX2_copyFrom_110 (by decide) ?_
  refine Rp.aload_n dX2_copyFrom_111 rfl rfl ?_
  refine Rp.getR dX2_copyFrom_112 fk_X2_30 rfl (A1.1 0 _ rfl) (A1.2 0 8 7 rfl) ?_
  refine Rp.iconst (nI 0) dX2_copyFrom_115 (by decide) ?_
  refine Rp.bipush (nI 8) dX2_copyFrom_116 (by decide) ?_
  refine Rp.acopy dX2_copyFrom_118 ac_X2_74 (A0.1 7 _ rfl) (A1.1 7 _ rfl) (by decide) (Nat.le_of_ble_eq_true rfl) ?_
  exact k
theorem cpy_9 {b0 b1 : Nat} {P : Option Value → AH → Prop} (A0 : HOK h b0) (A1 : HOK h b1) (k : Rp (d + 2) M_X2_copyFrom 129 [some (.ref b1), some (.ref b0), none] [] (cpH h (b0 + 0) (b1 + 0) 9 9 1) P) : Rp (d + 2) M_X2_copyFrom 121 [some (.ref b1), some (.ref b0), none] [] h P := by
  refine Rp.aload_n dX2_copyFrom_121 rfl rfl ?_
  refine Rp.aload_n dX2_copyFrom_122 rfl rfl ?_
  refine Rp.getI dX2_copyFrom_123 fk_X2_83 rfl (A0.1 0 _ rfl) ?_
  refine Rp.putI dX2_copyFrom_126 fk_X2_83w rfl (A1.1 0 _ rfl) ?_
  rw [sI_cp0]
  exact k
theorem cpy_10 {b0 b1 : Nat} {P : Option Value → AH → Prop} (A0 : HOK h b0) (A1 : HOK h b1) (k : Rp (d + 2) M_X2_copyFrom 143 [some (.ref b1), some (.ref b0), none] [] (cpH h (b0 + 8) (b1 + 8) 0 0 3) P) : Rp (d + 2) M_X2_copyFrom 129 [some (.ref b1), some (.ref b0), none] [] h P := by
  refine Rp.aload_n dX2_copyFrom_129 rfl rfl ?_
  refine Rp.getR dX2_copyFrom_130 fk_X2_33 rfl (A0.1 0 _ rfl) (A0.2 0 10 8 rfl) ?_
  refine Rp.iconst (nI 0) dX2_copyFrom_133 (by decide) ?_
  refine Rp.aload_n dX2_copyFrom_134 rfl rfl ?_
  refine Rp.getR dX2_copyFrom_135 fk_X2_33 rfl (A1.1 0 _ rfl) (A1.2 0 10 8 rfl) ?_
  refine Rp.iconst (nI 0) dX2_copyFrom_138 (by decide) ?_
  refine Rp.iconst (nI 3) dX2_copyFrom_139 (by decide) ?_
  refine Rp.acopy dX2_copyFrom_140 ac_X2_74 (A0.1 8 _ rfl) (A1.1 8 _ rfl) (by decide) (Nat.le_of_ble_eq_true rfl) ?_
  exact k
theorem cpy_11 {b0 b1 : Nat} {P : Option Value → AH → Prop} (A0 : HOK h b0) (A1 : HOK h b1) (k : Rp (d + 2) M_X2_copyFrom 157 [some (.ref b1), some (.ref b0), none] [] (cpH h (b0 + 9) (b1 + 9) 0 0 3) P) : Rp (d + 2) M_X2_copyFrom 143 [some (.ref b1), some (.ref b0), none] [] h P := by
  refine Rp.aload_n dX2_copyFrom_143 rfl rfl ?_
  refine Rp.getR dX2_copyFrom_144 fk_X2_36 rfl (A0.1 0 _ rfl) (A0.2 0 11 9 rfl) ?_
  refine Rp.iconst (nI 0) dX2_copyFrom_147 (by decide) ?_
  refine Rp.aload_n dX2_copyFrom_148 rfl rfl ?_
  refine Rp.getR dX2_copyFrom_149 fk_X2_36 rfl (A1.1 0 _ rfl) (A1.2 0 11 9 rfl) ?_
  refine Rp.iconst (nI 0) dX2_copyFrom_152 (by decide) ?_
  refine Rp.iconst (nI 3) dX2_copyFrom_153 (by decide) ?_
  refine Rp.acopy dX2_copyFrom_154 ac_X2_74 (A0.1 9 _ rfl) (A1.1 9 _ rfl) (by decide) (Nat.le_of_ble_eq_true rfl) ?_
  exact k
theorem cpy_12 {b0 b1 : Nat} {P : Option Value → AH → Prop} (A0 : HOK h b0) (A1 : HOK h b1) (k : Rp (d + 2) M_X2_copyFrom 165 [some (.ref b1), some (.ref b0), none] [] (cpH h (b0 + 0) (b1 + 0) 12 12 1) P) : Rp (d + 2) M_X2_copyFrom 157 [some (.ref b1), some (.ref b0), none] [] h P := by
  refine Rp.aload_n dX2_copyFrom_157 rfl rfl ?_
  refine Rp.aload_n dX2_copyFrom_158 rfl rfl ?_
  refine Rp.getI dX2_copyFrom_159 fk_X2_86 rfl (A0.1 0 _ rfl) ?_
  refine Rp.putI dX2_copyFrom_162 fk_X2_86w rfl (A1.1 0 _ rfl) ?_
  rw [sI_cp0]
  exact k
theorem cpy_13 {b0 b1 : Nat} {P : Option Value → AH → Prop} (A0 : HOK h b0) (A1 : HOK h b1) (k : Rp (d + 2) M_X2_copyFrom 180 [some (.ref b1), some (.ref b0), none] [] (cpH h (b0 + 10) (b1 + 10) 0 0 6) P) : Rp (d + 2) M_X2_copyFrom 165 [some (.ref b1), some (.ref b0), none] [] h P := by
  refine Rp.aload_n dX2_copyFrom_165 rfl rfl ?_
  refine Rp.getR dX2_copyFrom_166 fk_X2_39 rfl (A0.1 0 _ rfl) (A0.2 0 13 10 rfl) ?_
  refine Rp.iconst (nI 0) dX2_copyFrom_169 (by decide) ?_
  refine Rp.aload_n dX2_copyFrom_170 rfl rfl ?_
  refine Rp.getR dX2_copyFrom_171 fk_X2_39 rfl (A1.1 0 _ rfl) (A1.2 0 13 10 rfl) ?_
  refine Rp.iconst (nI 0) dX2_copyFrom_174 (by decide) ?_
  refine Rp.bipush (nI 6) dX2_copyFrom_175 (by decide) ?_
  refine Rp.acopy dX2_copyFrom_177 ac_X2_74 (A0.1 10 _ rfl) (A1.1 10 _ rfl) (by decide) (Nat.le_of_ble_eq_true rfl) ?_
  exact k
theorem cpy_14 {b0 b1 : Nat} {P : Option Value → AH → Prop} (A0 : HOK h b0) (A1 : HOK h b1) (k : Rp (d + 2) M_X2_copyFrom 195 [some (.ref b1), some (.ref b0), none] [] (cpH h (b0 + 11) (b1 + 11) 0 0 6) P) : Rp (d + 2) M_X2_copyFrom 180 [some (.ref b1), some (.ref b0), none] [] h P := by
  refine Rp.aload_n dX2_copyFrom_180 rfl rfl ?_
  refine Rp.getR dX2_copyFrom_181 fk_X2_42 rfl (A0.1 0 _ rfl) (A0.2 0 14 11 rfl) ?_
  refine Rp.iconst (nI 0) dX2_copyFrom_184 (by decide) ?_
  refine Rp.aload_n dX2_copyFrom_185 rfl rfl ?_
  refine Rp.getR dX2_copyFrom_186 fk_X2_42 rfl (A1.1 0 _ rfl) (A1.2 0 14 11 rfl) ?_
  refine Rp.iconst (nI 0) dX2_copyFrom_189 (by decide) ?_
  refine Rp.bipush (nI 6) dX2_copyFrom_190 (by decide) ?_
  refine Rp.acopy dX2_copyFrom_192 ac_X2_74 (A0.1 11 _ rfl) (A1.1 11 _ rfl) (by decide) (Nat.le_of_ble_eq_true rfl) ?_
  exact k
theorem cpy_15 {b0 b1 : Nat} {P : Option Value → AH → Prop} (A0 : HOK h b0) (A1 : HOK h b1) (k : Rp (d + 2) M_X2_copyFrom 209 [some (.ref b1), some (.ref b0), none] [] (cpH h (b0 + 12) (b1 + 12) 0 0 3) P) : Rp (d + 2) M_X2_copyFrom 195 [some (.ref b1), some (.ref b0), none] [] h P := by
  refine Rp.aload_n dX2_copyFrom_195 rfl rfl ?_
  refine Rp.getR dX2_copyFrom_196 fk_X2_45 rfl (A0.1 0 _ rfl) (A0.2 0 15 12 rfl) ?_
  refine Rp.iconst (nI 0) dX2_copyFrom_199 (by decide) ?_
  refine Rp.aload_n dX2_copyFrom_200 rfl rfl ?_
  refine Rp.getR dX2_copyFrom_201 fk_X2_45 rfl (A1.1 0 _ rfl) (A1.2 0 15 12 rfl) ?_
  refine Rp.iconst (nI 0) dX2_copyFrom_204 (by decide) ?_
  refine Rp.iconst (nI 3) dX2_copyFrom_205 (by decide) ?_
  refine Rp.acopy dX2_copyFrom_206 ac_X2_74 (A0.1 12 _ rfl) (A1.1 12 _ rfl) (by decide) (Nat.le_of_ble_eq_true rfl) ?_
  exact k
theorem cpy_16 {b0 b1 : Nat} {P : Option Value → AH → Prop} (A0 : HOK h b0) (A1 : HOK h b1) (k : Rp (d + 2) M_X2_copyFrom 217 [some (.ref b1), some (.ref b0), none] [] (cpH h (b0 + 0) (b1 + 0) 16 16 1) P) : Rp (d + 2) M_X2_copyFrom 209 [some (.ref b1), some (.ref b0), none] [] h P := by
  refine Rp.aload_n dX2_copyFrom_209 rfl rfl ?_
  refine Rp.aload_n dX2_copyFrom_210 rfl rfl ?_
  refine Rp.getI dX2_copyFrom_211 fk_X2_89 rfl (A0.1 0 _ rfl) ?_
  refine Rp.putI dX2_copyFrom_214 fk_X2_89w rfl (A1.1 0 _ rfl) ?_
  rw [sI_cp0]
  exact k
theorem cpy_z {b0 b1 : Nat} {P : Option Value → AH → Prop} (k : Rp (d + 2) M_X2_copyFrom 219 [some (.ref b1), some (.ref b0), some (.int (nI 0))] [] h P) : Rp (d + 2) M_X2_copyFrom 217 [some (.ref b1), some (.ref b0), none] [] h P := by
  refine Rp.iconst (nI 0) dX2_copyFrom_217 (by decide) ?_
  refine Rp.ist2 dX2_copyFrom_218 (by first | exact nl2_some rfl | exact nl2_none) (by decide) ?_
  exact k
theorem t_copyFrom {b0 b1 : Nat} (hab : apart b0 b1) (A0 : HOK h b0) (A1 : HOK h b1) (ht : ∀ i a, i < 6 → gR h (b0 + 13) i = some a → h.1[a]? = some (9, clN 9)) : Rp (d + 2) M_X2_copyFrom 0 [some (.ref b1), some (.ref b0), none] [] h (fun r h' => h' = cpyH b0 b1 h ∧ r = none) := by
  obtain ⟨g1, eg1⟩ : ∃ g, g = cpH h (b0 + 0) (b1 + 0) 0 0 1 := ⟨_, rfl⟩
  have A0_1 : HOK g1 b0 := by rw [eg1]; exact A0.cp _ _ _ _ _
  have A1_1 : HOK g1 b1 := by rw [eg1]; exact A1.cp _ _ _ _ _
  refine cpy_0 d A0 A1 ?_
  rw [← eg1]
  obtain ⟨g2, eg2⟩ : ∃ g, g = cpH g1 (b0 + 1) (b1 + 1) 0 0 6 := ⟨_, rfl⟩
  have A0_2 : HOK g2 b0 := by rw [eg2]; exact A0_1.cp _ _ _ _ _
  have A1_2 : HOK g2 b1 := by rw [eg2]; exact A1_1.cp _ _ _ _ _
  refine cpy_1 d A0_1 A1_1 ?_
  rw [← eg2]
  obtain ⟨g3, eg3⟩ : ∃ g, g = cpH g2 (b0 + 2) (b1 + 2) 0 0 6 := ⟨_, rfl⟩
  have A0_3 : HOK g3 b0 := by rw [eg3]; exact A0_2.cp _ _ _ _ _
  have A1_3 : HOK g3 b1 := by rw [eg3]; exact A1_2.cp _ _ _ _ _
  refine cpy_2 d A0_2 A1_2 ?_
  rw [← eg3]
  obtain ⟨g4, eg4⟩ : ∃ g, g = cpH g3 (b0 + 3) (b1 + 3) 0 0 6 := ⟨_, rfl⟩
  have A0_4 : HOK g4 b0 := by rw [eg4]; exact A0_3.cp _ _ _ _ _
  have A1_4 : HOK g4 b1 := by rw [eg4]; exact A1_3.cp _ _ _ _ _
  refine cpy_3 d A0_3 A1_3 ?_
  rw [← eg4]
  obtain ⟨g5, eg5⟩ : ∃ g, g = cpH g4 (b0 + 4) (b1 + 4) 0 0 48 := ⟨_, rfl⟩
  have A0_5 : HOK g5 b0 := by rw [eg5]; exact A0_4.cp _ _ _ _ _
  have A1_5 : HOK g5 b1 := by rw [eg5]; exact A1_4.cp _ _ _ _ _
  refine cpy_4 d A0_4 A1_4 ?_
  rw [← eg5]
  obtain ⟨g6, eg6⟩ : ∃ g, g = cpH g5 (b0 + 0) (b1 + 0) 5 5 1 := ⟨_, rfl⟩
  have A0_6 : HOK g6 b0 := by rw [eg6]; exact A0_5.cp _ _ _ _ _
  have A1_6 : HOK g6 b1 := by rw [eg6]; exact A1_5.cp _ _ _ _ _
  refine cpy_5 d A0_5 A1_5 ?_
  rw [← eg6]
  obtain ⟨g7, eg7⟩ : ∃ g, g = cpH g6 (b0 + 5) (b1 + 5) 0 0 8 := ⟨_, rfl⟩
  have A0_7 : HOK g7 b0 := by rw [eg7]; exact A0_6.cp _ _ _ _ _
  have A1_7 : HOK g7 b1 := by rw [eg7]; exact A1_6.cp _ _ _ _ _
  refine cpy_6 d A0_6 A1_6 ?_
  rw [← eg7]
  obtain ⟨g8, eg8⟩ : ∃ g, g = cpH g7 (b0 + 6) (b1 + 6) 0 0 8 := ⟨_, rfl⟩
  have A0_8 : HOK g8 b0 := by rw [eg8]; exact A0_7.cp _ _ _ _ _
  have A1_8 : HOK g8 b1 := by rw [eg8]; exact A1_7.cp _ _ _ _ _
  refine cpy_7 d A0_7 A1_7 ?_
  rw [← eg8]
  obtain ⟨g9, eg9⟩ : ∃ g, g = cpH g8 (b0 + 7) (b1 + 7) 0 0 8 := ⟨_, rfl⟩
  have A0_9 : HOK g9 b0 := by rw [eg9]; exact A0_8.cp _ _ _ _ _
  have A1_9 : HOK g9 b1 := by rw [eg9]; exact A1_8.cp _ _ _ _ _
  refine cpy_8 d A0_8 A1_8 ?_
  rw [← eg9]
  obtain ⟨g10, eg10⟩ : ∃ g, g = cpH g9 (b0 + 0) (b1 + 0) 9 9 1 := ⟨_, rfl⟩
  have A0_10 : HOK g10 b0 := by rw [eg10]; exact A0_9.cp _ _ _ _ _
  have A1_10 : HOK g10 b1 := by rw [eg10]; exact A1_9.cp _ _ _ _ _
  refine cpy_9 d A0_9 A1_9 ?_
  rw [← eg10]
  obtain ⟨g11, eg11⟩ : ∃ g, g = cpH g10 (b0 + 8) (b1 + 8) 0 0 3 := ⟨_, rfl⟩
  have A0_11 : HOK g11 b0 := by rw [eg11]; exact A0_10.cp _ _ _ _ _
  have A1_11 : HOK g11 b1 := by rw [eg11]; exact A1_10.cp _ _ _ _ _
  refine cpy_10 d A0_10 A1_10 ?_
  rw [← eg11]
  obtain ⟨g12, eg12⟩ : ∃ g, g = cpH g11 (b0 + 9) (b1 + 9) 0 0 3 := ⟨_, rfl⟩
  have A0_12 : HOK g12 b0 := by rw [eg12]; exact A0_11.cp _ _ _ _ _
  have A1_12 : HOK g12 b1 := by rw [eg12]; exact A1_11.cp _ _ _ _ _
  refine cpy_11 d A0_11 A1_11 ?_
  rw [← eg12]
  obtain ⟨g13, eg13⟩ : ∃ g, g = cpH g12 (b0 + 0) (b1 + 0) 12 12 1 := ⟨_, rfl⟩
  have A0_13 : HOK g13 b0 := by rw [eg13]; exact A0_12.cp _ _ _ _ _
  have A1_13 : HOK g13 b1 := by rw [eg13]; exact A1_12.cp _ _ _ _ _
  refine cpy_12 d A0_12 A1_12 ?_
  rw [← eg13]
  obtain ⟨g14, eg14⟩ : ∃ g, g = cpH g13 (b0 + 10) (b1 + 10) 0 0 6 := ⟨_, rfl⟩
  have A0_14 : HOK g14 b0 := by rw [eg14]; exact A0_13.cp _ _ _ _ _
  have A1_14 : HOK g14 b1 := by rw [eg14]; exact A1_13.cp _ _ _ _ _
  refine cpy_13 d A0_13 A1_13 ?_
  rw [← eg14]
  obtain ⟨g15, eg15⟩ : ∃ g, g = cpH g14 (b0 + 11) (b1 + 11) 0 0 6 := ⟨_, rfl⟩
  have A0_15 : HOK g15 b0 := by rw [eg15]; exact A0_14.cp _ _ _ _ _
  have A1_15 : HOK g15 b1 := by rw [eg15]; exact A1_14.cp _ _ _ _ _
  refine cpy_14 d A0_14 A1_14 ?_
  rw [← eg15]
  obtain ⟨g16, eg16⟩ : ∃ g, g = cpH g15 (b0 + 12) (b1 + 12) 0 0 3 := ⟨_, rfl⟩
  have A0_16 : HOK g16 b0 := by rw [eg16]; exact A0_15.cp _ _ _ _ _
  have A1_16 : HOK g16 b1 := by rw [eg16]; exact A1_15.cp _ _ _ _ _
  refine cpy_15 d A0_15 A1_15 ?_
  rw [← eg16]
  obtain ⟨g17, eg17⟩ : ∃ g, g = cpH g16 (b0 + 0) (b1 + 0) 16 16 1 := ⟨_, rfl⟩
  have A0_17 : HOK g17 b0 := by rw [eg17]; exact A0_16.cp _ _ _ _ _
  have A1_17 : HOK g17 b1 := by rw [eg17]; exact A1_16.cp _ _ _ _ _
  refine cpy_16 d A0_16 A1_16 ?_
  rw [← eg17]
  refine cpy_z d ?_
  exact copy_mid d hab A0 A1 ht g17 (by unfold cpops; rw [cpB_c, cpB_c, cpB_c, cpB_c, cpB_c, cpB_c, cpB_c, cpB_c, cpB_c, cpB_c, cpB_c, cpB_c, cpB_c, cpB_c, cpB_c, cpB_c, cpB_c, cpB_n, ← eg1, ← eg2, ← eg3, ← eg4, ← eg5, ← eg6, ← eg7, ← eg8, ← eg9, ← eg10, ← eg11, ← eg12, ← eg13, ← eg14, ← eg15, ← eg16, ← eg17])
end Cp
