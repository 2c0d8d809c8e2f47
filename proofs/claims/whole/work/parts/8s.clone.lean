def cnH (h : AH) (k n : Nat) : AH := (h.1 ++ [(13, n)], (fun a b => if a = h.1.length then gI h k b else h.2.1 a b), (fun a b => if a = h.1.length then 0 else h.2.2.1 a b), (fun a b => if a = h.1.length then none else h.2.2.2.1 a b), h.2.2.2.2)
theorem aN_cn (h : AH) (k n : Nat) : aN (cnH h k n) = aN h + 1 := by simp [aN, cnH]
theorem aZ_cn (h : AH) (k n : Nat) : aZ (cnH h k n) = aZ h + n := by simp [aZ, cnH]
theorem cval_cn (E : EV) (h : AH) (k n : Nat) {a : Nat} (ha : a ≠ aN h) (kd' j : Nat) : cval E (cnH h k n) a kd' j = cval E h a kd' j := by
  have ha' : ¬ a = h.1.length := ha
  unfold cval
  rcases tag3 (kty kd' j) with q | q | q
  · rw [q]; simp [cnH, gI, ha']
  · rw [q]; simp [cnH, gL, ha']
  · rw [q]; simp [cnH, gR, ha']
theorem cval_cnf (E : EV) (h : AH) (k n j : Nat) : cval E (cnH h k n) (aN h) 13 j = .int (gI h k j) := by
  unfold cval
  rw [show tagOf (kty 13 j) = 0 from rfl]
  simp [cnH, gI, aN]
theorem Rep.newc {E : EV} {h : AH} {H H1 : Heap} {k n : Nat} (w : Rep E h H) (hc : cellOK E (cnH h k n) H1 (aN h) (13, n)) (z : H1.size = H.size + 1) (oq : ∀ q, q < H.size → H1[q]? = H[q]?) : Rep E (cnH h k n) H1 := by
  refine ⟨by rw [z, w.1, aN_cn]; omega, fun a qa ha => ?_⟩
  by_cases hl : a < aN h
  · have ha2 : h.1[a]? = some qa := by
      have h5 : (h.1 ++ [(13, n)])[a]? = some qa := ha
      rw [List.getElem?_append_left hl] at h5
      exact h5
    have h0 := w.2 a qa ha2
    have hq := oq (e_b E + a) (by rw [w.1]; omega)
    have hne : a ≠ aN h := by omega
    refine ⟨fun hlt => ((h0.1 hlt).kept hq).to (fun j _ => (cval_cn E h k n hne qa.1 j).symm), fun hlt => ?_⟩
    rw [hq, h0.2 hlt, show (fun j => cval E (cnH h k n) a qa.1 j) = fun j => cval E h a qa.1 j from funext fun j => cval_cn E h k n hne qa.1 j]
  · have h5 : (h.1 ++ [(13, n)])[a]? = some qa := ha
    have h6 : a < (h.1 ++ [(13, n)]).length := (List.getElem?_eq_some_iff.mp h5).1
    have h7 : a = aN h := by simp at h6; unfold aN at hl ⊢; omega
    subst h7
    have h5 : (h.1 ++ [(13, n)])[h.1.length]? = some qa := h5
    rw [List.getElem?_append_right (Nat.le_refl _)] at h5
    simp at h5
    subst h5
    exact hc
theorem kl_lk : Cond.methodLink RJ7 316 ⟨"[I", "clone", "()Ljava/lang/Object;"⟩ ∈ gw := gt4 74 rfl rfl
theorem kl_sm : Cond.sameMethod "[I" "java/lang/Object" "clone" "()Ljava/lang/Object;" ∈ gw := gt4 75 rfl rfl
theorem kl_nt : Cond.native ⟨"java/lang/Object", "clone", "()Ljava/lang/Object;"⟩ ∈ gw := gt4 76 rfl rfl
theorem kl_im : Cond.instanceMethod ⟨"java/lang/Object", "clone", "()Ljava/lang/Object;"⟩ ∈ gw := gt4 77 rfl rfl
theorem kl_sl : Cond.selects "[I" ⟨"[I", "clone", "()Ljava/lang/Object;"⟩ ⟨"java/lang/Object", "clone", "()Ljava/lang/Object;"⟩ ∈ gw := gt4 78 rfl rfl
theorem kl_cl : Cond.classLink RJ7 317 "[I" ∈ gw := gt4 80 rfl rfl
theorem kl_ca : Cond.castable "[I" "java/lang/Cloneable" ∈ nestW := by simp [nestW]
set_option maxHeartbeats 1000000 in
theorem Rj.cloneI {d : Nat} {M : MT} {pc : Nat} {ls : List (Option Value)} {st : List Value} {h : AH} {v : Option Value} {h' : AH} {k n : Nat} (hM : M.1.cls = RJ7) (hs : h.1[k]? = some (13, n)) (hst : stOK st) (hd : decode M.2.1 pc = .ok (.invokevirtual 316, 3)) (kk : Rj (d + 1) M (pc + 3) ls (.ref (aN h) :: st) (cnH h k n) v h') : Rj (d + 1) M pc ls (.ref k :: st) h v h' := by
  have k1 := kk.1
  have k2 := kk.2.1
  rw [aN_cn] at k1
  rw [aZ_cn] at k2
  refine ⟨by omega, by omega, ⟨kk.2.2.1.1, (List.prefix_append h.1 [(13, n)]).trans kk.2.2.1.2⟩, fun E p l e R s m args below meth c H locs cells slots mc ms n0 z0 rl hy => ?_⟩
  obtain ⟨X, g1, g2, g3, g4, g5, g6, g7, g8, w, hq, Lk⟩ := hy
  have X0 := X
  obtain ⟨hx, hb, hr, hml, hown, hts, hlk, hnm, hK⟩ := X
  have c0 : H[e_b E + k]? = some (arrV (e_A E 0) n (fun j => .int (gI h k j))) := (w.1.2 k _ hs).2 (Nat.lt_irrefl 13)
  have hA := hK.1.2 0 (e_A E 0, aty 0) rfl
  have hfc : s.vm.findClass "[I" = some (e_A E 0) := hA.2
  rw [hM] at hown
  obtain ⟨ca, t0, f1, f2, f3⟩ := Cond.castable_spec (va_Nw.use (A := args) rfl (hK.2.2.2.1 _ kl_ca))
  have e0 := Option.some.inj (hfc.symm.trans f1)
  subst e0
  have hsum := st_sum E hst
  intro T hT XS
  obtain ⟨-, kA, hkA, comp, hkind⟩ := State.isArrayOf_alike XS.warmed.alike (hA.1 0 (fun _ => .null))
  obtain ⟨-, kS, hkS, compS, hkindS⟩ := hA.1 0 (fun _ => .null)
  obtain ⟨vm', X', stp⟩ := XS.cloneArray hx hown (hts _ kl_lk) (hts _ kl_sm) (hts _ kl_nt) (hts _ kl_im) (hts _ kl_sl) (a := e_b E + k) (cell := arrV (e_A E 0) n (fun j => .int (gI h k j))) (by rw [hT]; exact c0) (fun _ h => by cases h) (fun h => by cases h) hfc f2 f3
    (fun i v hv => by
      have hk' : T.vm.classes[e_A E 0]? = some kA := hkA
      have hi : i < n := by
        have := (Array.getElem?_eq_some_iff.mp hv).1
        rw [arrV_size] at this
        exact this
      rw [arrV_read _ _ hi] at hv
      cases hv
      show T.fitsSlot (e_A E 0) .none i _ = true
      simp [State.fitsSlot, State.slotType?, hk', hkind, aty, fits])
    (g := F0 m pc rl (.ref (e_b E + k) :: st.map (tr E))) rfl (by rw [hml]; exact Lk.1) rfl (by rw [hb]; exact hd) (by omega) (by show 2 * 0 + _ + 14 ≤ _; omega) (by omega) (by rw [arrV_size]; omega) (hloader := Vm.clonesLoader_of_array hkS hkindS)
  rw [arrV_size] at X'
  have hz : H.size = e_b E + aN h := w.1.1
  have r1 : Rep E (cnH h k n) (H.push (arrV (e_A E 0) n (fun j => .int (gI h k j)))) := by
    refine Rep.newc w.1 ⟨fun z => absurd z (Nat.lt_irrefl 13), fun _ => ?_⟩ (Array.size_push _) (fun q hq' => by rw [Array.getElem?_push, if_neg (Nat.ne_of_lt hq')])
    rw [← hz, Array.getElem?_push_size]
    show some (arrV (e_A E 0) n _) = some (arrV (e_A E 0) n _)
    rw [show (fun j => cval E (cnH h k n) (aN h) 13 j) = fun j => Value.int (gI h k j) from funext fun j => cval_cnf E h k n j]
  have kw := kk.2.2.2 E p l e R s m args below meth c (H.push (arrV (e_A E 0) n (fun j => .int (gI h k j)))) locs (cells + 1) (slots + n) mc ms n0 z0 rl ⟨X0, g1, g2, by rw [aN_cn]; omega, by rw [aZ_cn]; omega, g5, g6, g7, g8, ⟨r1, w.2.1, fun q hq' => (by rw [Array.getElem?_push, if_neg (by omega)] : (H.push (arrV (e_A E 0) n (fun j => .int (gI h k j))))[q]? = H[q]?).trans (w.2.2 q hq')⟩, hq, Lk⟩
  obtain ⟨t, b1, b2⟩ := kw ((T.setVm vm').pushCell (arrV (e_A E 0) n (fun j => .int (gI h k j)))) (by rw [← hT]; rfl) X'
  refine ⟨t, stp t ?_, b2⟩
  rw [hT, hz]
  exact b1
theorem Rj.castI {d : Nat} {M : MT} {pc : Nat} {ls : List (Option Value)} {st : List Value} {h : AH} {v : Option Value} {h' : AH} {k n : Nat} (hM : M.1.cls = RJ7) (hs : h.1[k]? = some (13, n)) (hd : decode M.2.1 pc = .ok (.checkcast 317, 3)) (kk : Rj d M (pc + 3) ls (.ref k :: st) h v h') : Rj d M pc ls (.ref k :: st) h v h' := Rj.pure (fun E p l e R s m args below meth c H locs cells slots Q rl X w Lk y => by
  obtain ⟨hx, hb, hr, hml, hown, hts, hlk, hnm, hK⟩ := X
  have c0 : H[e_b E + k]? = some (arrV (e_A E 0) n (fun j => .int (gI h k j))) := (w.1.2 k _ hs).2 (Nat.lt_irrefl 13)
  have hA := hK.1.2 0 (e_A E 0, aty 0) rfl
  have hfc : s.vm.findClass "[I" = some (e_A E 0) := hA.2
  rw [hM] at hown
  intro T hT XS
  obtain ⟨vm', X', stp⟩ := XS.checkcastYes hx hown (hts _ kl_cl) (by rw [hT]; exact c0) rfl hfc (va_asg _ _) (g := F0 m pc rl (.ref (e_b E + k) :: st.map (tr E))) rfl rfl (by rw [hb]; exact hd)
  obtain ⟨t, a1, b1⟩ := y (T.setVm vm') hT X'
  exact ⟨t, stp t a1, b1⟩) kk
/-- a row copied into a new one -/
def CpA (h : AH) (k n : Nat) (h' : AH) : Prop := h'.1 = h.1 ++ [(13, n)] ∧ gS h' = gS h ∧ (∀ a j, a ≠ aN h → gI h' a j = gI h a j) ∧ (∀ a j, a ≠ aN h → gL h' a j = gL h a j) ∧ (∀ a j, a ≠ aN h → gR h' a j = gR h a j) ∧ ∀ j, j < n → gI h' (aN h) j = gI h k j
theorem CpA.cn (h : AH) (k n : Nat) : CpA h k n (cnH h k n) := ⟨rfl, rfl, fun a j ha => if_neg ha, fun a j ha => if_neg ha, fun a j ha => if_neg ha, fun j hj => if_pos rfl⟩
theorem CpA.cp {h : AH} {k n : Nat} (hk : k < aN h) : CpA h k n (cpH (aNew h 13 n) k (aN h) 0 0 n) := by
  refine ⟨rfl, rfl, fun a j ha => ?_, fun a j ha => if_neg ha, fun a j ha => if_neg ha, fun j hj => ?_⟩
  · show (if a = aN h then _ else gI (aNew h 13 n) a j) = _
    rw [if_neg ha]
    exact if_neg ha
  · show (if aN h = aN h then (if 0 ≤ j ∧ j < 0 + n then gI (aNew h 13 n) k (0 + (j - 0)) else _) else _) = _
    rw [if_pos rfl, if_pos (by omega), show 0 + (j - 0) = j by omega]
    exact if_neg (by unfold aN at hk; omega)
section Kc
variable (d : Nat) {h : AH}
theorem t_copyOf {k n0 n : Nat} (hs : h.1[k]? = some (13, n0)) (h0 : n0 < 1000000) (hn : n ≤ n0) : Rp (d + 1) M_J7_copyOf_59c91 0 [some (.ref k), some (.int (nI n)), none] [] h (fun r h' => r = some (.ref (aN h)) ∧ CpA h k n h') := by
  have hk : k < aN h := (List.getElem?_eq_some_iff.mp hs).1
  refine Rp.iload_n dJ7_copyOf_59c91_0 rfl ?_
  refine Rp.aload_n dJ7_copyOf_59c91_1 rfl rfl ?_
  refine Rp.alen dJ7_copyOf_59c91_2 hs (by decide) (by decide) ?_
  show Rp _ _ _ _ (.int (nI n0) :: .int (nI n) :: _) _ _
  refine Rp.icmp_neN (tgt := 14) dJ7_copyOf_59c91_3 (by decide) (by omega) (fun c => ?_) (fun c => ?_)
  · refine Rp.iload_n dJ7_copyOf_59c91_14 rfl ?_
    refine Rp.newaA (aN h) 0 n rfl dJ7_copyOf_59c91_15 ⟨rfl, by decide, ac_0⟩ (by omega) ?_
    have hs0 : (aNew h 13 n).1[k]? = some (13, n0) := by
      show (h.1 ++ [(13, n)])[k]? = _
      rw [List.getElem?_append_left hk]
      exact hs
    have hs1 : (aNew h 13 n).1[aN h]? = some (13, n) := by
      show (h.1 ++ [(13, n)])[h.1.length]? = _
      rw [List.getElem?_append_right (Nat.le_refl _)]
      simp
    refine Rp.ast2 dJ7_copyOf_59c91_17 (nl2_some rfl) (by decide) ?_
    refine Rp.aload_n dJ7_copyOf_59c91_18 rfl rfl ?_
    refine Rp.iconst (nI 0) dJ7_copyOf_59c91_19 (by decide) ?_
    refine Rp.aload_n dJ7_copyOf_59c91_20 rfl rfl ?_
    refine Rp.iconst (nI 0) dJ7_copyOf_59c91_21 (by decide) ?_
    refine Rp.aload_n dJ7_copyOf_59c91_22 rfl rfl ?_
    refine Rp.alen dJ7_copyOf_59c91_23 hs0 (by decide) (by decide) ?_
    refine Rp.iload_n dJ7_copyOf_59c91_24 rfl ?_
    show Rp _ _ _ _ (.int (nI n) :: .int (nI n0) :: _) _ _
    refine Rp.mmin dJ7_copyOf_59c91_25 mm_J7_304 (Nat.le_of_ble_eq_true rfl) ?_
    rw [show (if nI n < nI n0 then nI n else nI n0) = nI n by
      rw [if_pos]
      rw [i32_lt, nI_toInt (by omega), nI_toInt (by omega)]
      omega]
    refine Rp.acopy dJ7_copyOf_59c91_28 ac_J7_150 hs0 hs1 (by omega) (Nat.le_of_ble_eq_true rfl) ?_
    refine Rp.aload_n dJ7_copyOf_59c91_31 rfl rfl ?_
    refine Rp.areturn dJ7_copyOf_59c91_32 rfl (Or.inr ⟨_, rfl⟩) rfl ?_
    exact ⟨rfl, CpA.cp hk⟩
  · have e : n = n0 := by omega
    subst e
    refine Rp.aload_n dJ7_copyOf_59c91_6 rfl rfl ?_
    have hc : (cnH h k n).1[aN h]? = some (13, n) := by
      show (h.1 ++ [(13, n)])[h.1.length]? = _
      rw [List.getElem?_append_right (Nat.le_refl _)]
      simp
    exact ⟨_, _, Rj.cloneI (hM := rfl) hs (Nat.le_of_ble_eq_true rfl) dJ7_copyOf_59c91_7 (Rj.castI (hM := rfl) hc dJ7_copyOf_59c91_10 (Rj.areturn rfl (Or.inr ⟨_, rfl⟩) rfl dJ7_copyOf_59c91_13)), rfl, CpA.cn h k n⟩
end Kc
