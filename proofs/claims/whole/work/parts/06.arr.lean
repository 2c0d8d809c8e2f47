theorem kty_a {kd j : Nat} (h : ¬ kd < 13) : kty kd j = aty (kd - 13) := by simp [kty, h]
theorem tysE_at (E : EV) {t : Nat} (h : t < 6) : (tysE E)[t]? = some (e_A E t, aty t) := by
  match t, h with
  | 0, _ => rfl | 1, _ => rfl | 2, _ => rfl | 3, _ => rfl | 4, _ => rfl | 5, _ => rfl
theorem va_clamp {i : Int32} {n : Nat} (h : vp_in i n) : i.toNatClampNeg < n := Nat.not_le.mp fun q => h (Or.inr q)
section RjI
variable {d : Nat} {M : MT} {pc : Nat} {ls : List (Option Value)} {st : List Value} {h : AH} {v : Option Value} {h' : AH}
theorem Rj.iaload {k n : Nat} {i : Int32} (hs : h.1[k]? = some (13, n)) (hin : vp_in i n) (hd : decode M.2.1 pc = .ok (.iaload, 1)) (kk : Rj d M (pc + 1) ls (.int (gI h k i.toNatClampNeg) :: st) h v h') : Rj d M pc ls (.int i :: .ref k :: st) h v h' := Rj.pure (fun E p l e R s m args below meth c H locs cells slots Q rl X w L y => by
  obtain ⟨hx, hb, -, -, hown, hts, -, -, hK, -⟩ := X
  exact W.iald (v := .int (gI h k i.toNatClampNeg)) hx hb ((w.1.2 k _ hs).2 (show ¬ 13 < 13 by decide)) ((hK.2 0 _ (tysE_at E (by decide))).1 n _) (fun q => by cases q) (by rw [arrV_size]; exact hin) (by rw [arrV_read _ _ (va_clamp hin)]; rfl) rfl rfl hd y) kk
theorem Rj.baload {k n : Nat} {i : Int32} (hs : h.1[k]? = some (14, n)) (hin : vp_in i n) (hd : decode M.2.1 pc = .ok (.baload, 1)) (kk : Rj d M (pc + 1) ls (.int (gI h k i.toNatClampNeg) :: st) h v h') : Rj d M pc ls (.int i :: .ref k :: st) h v h' := Rj.pure (fun E p l e R s m args below meth c H locs cells slots Q rl X w L y => by
  obtain ⟨hx, hb, -, -, hown, hts, -, -, hK, -⟩ := X
  exact W.bald (v := .int (gI h k i.toNatClampNeg)) hx hb ((w.1.2 k _ hs).2 (show ¬ 14 < 13 by decide)) ((hK.2 1 _ (tysE_at E (by decide))).1 n _) (fun q => by cases q) (by rw [arrV_size]; exact hin) (by rw [arrV_read _ _ (va_clamp hin)]; rfl) rfl rfl hd y) kk
theorem Rj.zaload {k n : Nat} {i : Int32} (hs : h.1[k]? = some (15, n)) (hin : vp_in i n) (hd : decode M.2.1 pc = .ok (.baload, 1)) (kk : Rj d M (pc + 1) ls (.int (gI h k i.toNatClampNeg) :: st) h v h') : Rj d M pc ls (.int i :: .ref k :: st) h v h' := Rj.pure (fun E p l e R s m args below meth c H locs cells slots Q rl X w L y => by
  obtain ⟨hx, hb, -, -, hown, hts, -, -, hK, -⟩ := X
  exact W.zald (v := .int (gI h k i.toNatClampNeg)) hx hb ((w.1.2 k _ hs).2 (show ¬ 15 < 13 by decide)) ((hK.2 2 _ (tysE_at E (by decide))).1 n _) (fun q => by cases q) (by rw [arrV_size]; exact hin) (by rw [arrV_read _ _ (va_clamp hin)]; rfl) rfl rfl hd y) kk
theorem Rj.laload {k n : Nat} {i : Int32} (hs : h.1[k]? = some (16, n)) (hin : vp_in i n) (hd : decode M.2.1 pc = .ok (.laload, 1)) (kk : Rj d M (pc + 1) ls (.long (gL h k i.toNatClampNeg) :: st) h v h') : Rj d M pc ls (.int i :: .ref k :: st) h v h' := Rj.pure (fun E p l e R s m args below meth c H locs cells slots Q rl X w L y => by
  obtain ⟨hx, hb, -, -, hown, hts, -, -, hK, -⟩ := X
  exact W.lald (v := .long (gL h k i.toNatClampNeg)) hx hb ((w.1.2 k _ hs).2 (show ¬ 16 < 13 by decide)) ((hK.2 3 _ (tysE_at E (by decide))).1 n _) (fun q => by cases q) (by rw [arrV_size]; exact hin) (by rw [arrV_read _ _ (va_clamp hin)]; rfl) rfl rfl hd y) kk
theorem Rj.aaload {k n t : Nat} {i : Int32} (ht : t = 4 ∨ t = 5) (hs : h.1[k]? = some (13 + t, n)) (hin : vp_in i n) (hd : decode M.2.1 pc = .ok (.aaload, 1)) (kk : Rj d M (pc + 1) ls (cvR (gR h k i.toNatClampNeg) :: st) h v h') : Rj d M pc ls (.int i :: .ref k :: st) h v h' := Rj.pure (fun E p l e R s m args below meth c H locs cells slots Q rl X w L y => by
  obtain ⟨hx, hb, -, -, hown, hts, -, -, hK, -⟩ := X
  have e0 : tr E (cvR (gR h k i.toNatClampNeg)) = arf E (gR h k i.toNatClampNeg) := by cases gR h k i.toNatClampNeg <;> rfl
  rw [List.map_cons, e0] at y
  rcases ht with rfl | rfl
  · exact W.aald (ty := aty 4) (v := arf E (gR h k i.toNatClampNeg)) hx hb ((w.1.2 k _ hs).2 (show ¬ 17 < 13 by decide)) ((hK.2 4 _ (tysE_at E (by decide))).1 n _) rfl (fun q => by cases q) (by rw [arrV_size]; exact hin) (by rw [arrV_read _ _ (va_clamp hin)]; rfl) rfl rfl hd y
  · exact W.aald (ty := aty 5) (v := arf E (gR h k i.toNatClampNeg)) hx hb ((w.1.2 k _ hs).2 (show ¬ 18 < 13 by decide)) ((hK.2 5 _ (tysE_at E (by decide))).1 n _) rfl (fun q => by cases q) (by rw [arrV_size]; exact hin) (by rw [arrV_read _ _ (va_clamp hin)]; rfl) rfl rfl hd y) kk
theorem arr_put {E : EV} {H H1 : Heap} {h2 : AH} {k kd n j : Nat} {x : Value} (w : Rep E h H) (hs : h.1[k]? = some (kd, n)) (hkd : ¬ kd < 13) (e1 : h2.1 = h.1) (hv : ∀ a kd' j', cval E h2 a kd' j' = if a = k ∧ j' = j ∧ tagOf (kty kd' j') = tagOf (aty (kd - 13)) then x else cval E h a kd' j')
    (g1 : H1[e_b E + k]? = some ((arrV (e_A E (kd - 13)) n (fun j => cval E h k kd j)).setSlot j x)) (g2 : H1.size = H.size) (g3 : ∀ q, q ≠ e_b E + k → H1[q]? = H[q]?) : Rep E h2 H1 := by
  refine Rep.wr w hs e1 (fun a ha kd j' => by rw [hv, if_neg (fun z => ha z.1)]) ⟨fun z => absurd z hkd, fun _ => ?_⟩ g2 g3
  rw [g1, arrV_store]
  congr 2
  funext j'
  rw [hv]
  by_cases h5 : j' = j
  · subst h5
    simp [updV, kty_a hkd]
  · simp [updV, h5]
theorem Rj.iastore {k n : Nat} {i x : Int32} (hs : h.1[k]? = some (13, n)) (hin : vp_in i n) (hd : decode M.2.1 pc = .ok (.iastore, 1)) (kk : Rj d M (pc + 1) ls st (sI h k i.toNatClampNeg x) v h') : Rj d M pc ls (.int x :: .int i :: .ref k :: st) h v h' := Rj.wr (h2 := sI h k i.toNatClampNeg x) rfl rfl (fun E p l e R s m args below meth c H locs cells slots Q rl X w L y => by
  obtain ⟨hx, hb, -, -, hown, hts, -, -, hK, -⟩ := X
  exact W.iast hx hb ((w.2 k _ hs).2 (show ¬ 13 < 13 by decide)) ((hK.2 0 _ (tysE_at E (by decide))).1 n _) (fun q => by cases q) (by rw [arrV_size]; exact hin) rfl rfl hd (fun H1 g1 g2 g3 => y H1 _ (arr_put w hs (show ¬ 13 < 13 by decide) rfl (fun a kd' j' => cval_sI E h k _ x a kd' j') g1 g2 g3) (fun q hq => g3 q (Nat.ne_of_lt (Nat.lt_of_lt_of_le hq (Nat.le_add_right _ _)))) (Nat.le_add_right _ _))) kk
theorem Rj.bastore {k n : Nat} {i x : Int32} (hs : h.1[k]? = some (14, n)) (hin : vp_in i n) (hd : decode M.2.1 pc = .ok (.bastore, 1)) (kk : Rj d M (pc + 1) ls st (sI h k i.toNatClampNeg x.toInt8.toInt32) v h') : Rj d M pc ls (.int x :: .int i :: .ref k :: st) h v h' := Rj.wr (h2 := sI h k i.toNatClampNeg x.toInt8.toInt32) rfl rfl (fun E p l e R s m args below meth c H locs cells slots Q rl X w L y => by
  obtain ⟨hx, hb, -, -, hown, hts, -, -, hK, -⟩ := X
  exact W.bast hx hb ((w.2 k _ hs).2 (show ¬ 14 < 13 by decide)) ((hK.2 1 _ (tysE_at E (by decide))).1 n _) (fun q => by cases q) (by rw [arrV_size]; exact hin) rfl rfl hd (fun H1 g1 g2 g3 => y H1 _ (arr_put w hs (show ¬ 14 < 13 by decide) rfl (fun a kd' j' => cval_sI E h k _ x.toInt8.toInt32 a kd' j') g1 g2 g3) (fun q hq => g3 q (Nat.ne_of_lt (Nat.lt_of_lt_of_le hq (Nat.le_add_right _ _)))) (Nat.le_add_right _ _))) kk
theorem Rj.zastore {k n : Nat} {i x : Int32} (hs : h.1[k]? = some (15, n)) (hin : vp_in i n) (hd : decode M.2.1 pc = .ok (.bastore, 1)) (kk : Rj d M (pc + 1) ls st (sI h k i.toNatClampNeg (x &&& 1)) v h') : Rj d M pc ls (.int x :: .int i :: .ref k :: st) h v h' := Rj.wr (h2 := sI h k i.toNatClampNeg (x &&& 1)) rfl rfl (fun E p l e R s m args below meth c H locs cells slots Q rl X w L y => by
  obtain ⟨hx, hb, -, -, hown, hts, -, -, hK, -⟩ := X
  exact W.zast hx hb ((w.2 k _ hs).2 (show ¬ 15 < 13 by decide)) ((hK.2 2 _ (tysE_at E (by decide))).1 n _) (fun q => by cases q) (by rw [arrV_size]; exact hin) rfl rfl hd (fun H1 g1 g2 g3 => y H1 _ (arr_put w hs (show ¬ 15 < 13 by decide) rfl (fun a kd' j' => cval_sI E h k _ (x &&& 1) a kd' j') g1 g2 g3) (fun q hq => g3 q (Nat.ne_of_lt (Nat.lt_of_lt_of_le hq (Nat.le_add_right _ _)))) (Nat.le_add_right _ _))) kk
theorem Rj.lastore {k n : Nat} {i : Int32} {x : Int64} (hs : h.1[k]? = some (16, n)) (hin : vp_in i n) (hd : decode M.2.1 pc = .ok (.lastore, 1)) (kk : Rj d M (pc + 1) ls st (sL h k i.toNatClampNeg x) v h') : Rj d M pc ls (.long x :: .int i :: .ref k :: st) h v h' := Rj.wr (h2 := sL h k i.toNatClampNeg x) rfl rfl (fun E p l e R s m args below meth c H locs cells slots Q rl X w L y => by
  obtain ⟨hx, hb, -, -, hown, hts, -, -, hK, -⟩ := X
  exact W.last hx hb ((w.2 k _ hs).2 (show ¬ 16 < 13 by decide)) ((hK.2 3 _ (tysE_at E (by decide))).1 n _) (fun q => by cases q) (by rw [arrV_size]; exact hin) rfl rfl hd (fun H1 g1 g2 g3 => y H1 _ (arr_put w hs (show ¬ 16 < 13 by decide) rfl (fun a kd' j' => cval_sL E h k _ x a kd' j') g1 g2 g3) (fun q hq => g3 q (Nat.ne_of_lt (Nat.lt_of_lt_of_le hq (Nat.le_add_right _ _)))) (Nat.le_add_right _ _))) kk
/-- a reference of class ci into an array of such; t: 4 Text (class 9), 5 Hall (class 2) -/
theorem Rj.aastore {k n t a ci na : Nat} {i : Int32} (ht : t = 4 ∧ ci = 9 ∨ t = 5 ∧ ci = 2) (hs : h.1[k]? = some (13 + t, n)) (ha : h.1[a]? = some (ci, na)) (hin : vp_in i n) (hd : decode M.2.1 pc = .ok (.aastore, 1)) (kk : Rj d M (pc + 1) ls st (sR h k i.toNatClampNeg (some a)) v h') : Rj d M pc ls (.ref a :: .int i :: .ref k :: st) h v h' := Rj.wr (h2 := sR h k i.toNatClampNeg (some a)) rfl rfl (fun E p l e R s m args below meth c H locs cells slots Q rl X w L y => by
  obtain ⟨hx, hb, -, -, hown, hts, -, -, hK, -⟩ := X
  have key : ∀ (C : String) (T : u_T) (N : Nat), vwCl[ci]? = some (C, T, N) → aty t = .object C → t < 6 → ci < 13 → W p l e R s m args below meth c H locs cells slots Q (F0 m pc rl ((.ref a :: .int i :: .ref k :: st).map (tr E))) := by
    intro C T N hc hty ht6 hci
    have h1 := (w.2 k _ hs).2 (show ¬ 13 + t < 13 by omega)
    rw [show 13 + t - 13 = t by omega] at h1
    obtain ⟨cell, q1, q2, q3, -⟩ := (w.2 a _ ha).1 hci
    obtain ⟨hS, hfc, kC, hkC, hkind⟩ := hK.1 ci _ hc
    have hRA := (hK.2 t _ (tysE_at E ht6)).2
    rw [hty] at hRA
    obtain ⟨kA, comp, r1, r2, r3, r4⟩ := hRA
    cases hfc.symm.trans r3
    have hcat : ClassAt s C ((e_D E).1 ci) := ⟨hfc, kC, hkC, hkind⟩
    refine W.aast hx hb h1 (fun q z => by cases z) (fun z => by cases z) (k := kA) r1 r2 rfl hkC ⟨fun z => hin (Or.inl z), by rw [arrV_size]; exact va_clamp hin⟩ q1 (fun q z => by rw [q3] at z; cases z) (by rw [q2]; exact hkC) (by rw [q2]; exact va_assign hcat) rfl rfl hd (fun H1 g1 g2 g3 => y H1 _ (arr_put w hs (show ¬ 13 + t < 13 by omega) rfl (x := .ref (e_b E + a)) (fun a' kd' j' => ?_) (by rw [show 13 + t - 13 = t by omega]; exact g1) g2 g3) (fun q hq => g3 q (Nat.ne_of_lt (Nat.lt_of_lt_of_le hq (Nat.le_add_right _ _)))) (Nat.le_add_right _ _))
    rw [cval_sR, show 13 + t - 13 = t by omega, hty]
    rfl
  rcases ht with ⟨rfl, rfl⟩ | ⟨rfl, rfl⟩
  · exact key RX9 TX9 5 rfl rfl (by decide) (by decide)
  · exact key RX2 TX2 20 rfl rfl (by decide) (by decide)) kk
theorem Rj.alen {k n kd : Nat} (hs : h.1[k]? = some (kd, n)) (hk : ¬ kd < 13) (hk2 : kd < 19) (hd : decode M.2.1 pc = .ok (.arraylength, 1)) (kk : Rj d M (pc + 1) ls (.int (Int32.ofNat n) :: st) h v h') : Rj d M pc ls (.ref k :: st) h v h' := Rj.pure (fun E p l e R s m args below meth c H locs cells slots Q rl X w L y => by
  obtain ⟨hx, hb, -, -, hown, hts, -, -, hK, -⟩ := X
  exact W.alen (n := Int32.ofNat n) hx hb ((w.1.2 k _ hs).2 hk) ((hK.2 (kd - 13) _ (tysE_at E (by omega))).1 n _) (by rw [arrV_size] <;> rfl) rfl rfl hd y) kk
/-- the script -/
theorem Rj.sload {i : Int32} {b : UInt32} (hin : vp_in i (gS h).1) (hd : decode M.2.1 pc = .ok (.iaload, 1)) (kk : Rj d M (pc + 1) ls (.int ((gS h).2 i.toNatClampNeg) :: st) h v h') : Rj d M pc ls (.int i :: .float b :: st) h v h' := Rj.pure (fun E p l e R s m args below meth c H locs cells slots Q rl X w L y => by
  obtain ⟨hx, hb, -, -, hown, hts, -, -, hK, ⟨scr, h1, h2, h3, h4, h5⟩, hlt, -⟩ := X
  exact W.iald (v := .int ((gS h).2 i.toNatClampNeg)) hx hb (by rw [w.2.2 _ hlt]; exact h1) h2 h3 (by rw [h4]; exact hin) (h5 _ (va_clamp hin)) rfl rfl hd y) kk
theorem Rj.slen {b : UInt32} (hd : decode M.2.1 pc = .ok (.arraylength, 1)) (kk : Rj d M (pc + 1) ls (.int (Int32.ofNat (gS h).1) :: st) h v h') : Rj d M pc ls (.float b :: st) h v h' := Rj.pure (fun E p l e R s m args below meth c H locs cells slots Q rl X w L y => by
  obtain ⟨hx, hb, -, -, hown, hts, -, -, hK, ⟨scr, h1, h2, h3, h4, h5⟩, hlt, -⟩ := X
  exact W.alen (n := Int32.ofNat (gS h).1) hx hb (by rw [w.2.2 _ hlt]; exact h1) h2 (by rw [h4] <;> rfl) rfl rfl hd y) kk
end RjI
