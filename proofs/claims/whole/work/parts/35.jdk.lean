theorem ac_X2_74 : Cond.methodLink RX2 74 arraycopyName ∈ gw := gt4 97 rfl rfl
theorem ac_X4_17 : Cond.methodLink RX4 17 arraycopyName ∈ gw := gt4 102 rfl rfl
theorem ac_X6_126 : Cond.methodLink RX6 126 arraycopyName ∈ gw := gt5 44 rfl rfl
theorem ac_X11_370 : Cond.methodLink RX11 370 arraycopyName ∈ gw := gt5 179 rfl rfl
theorem ac_J7_150 : Cond.methodLink RJ7 150 arraycopyName ∈ gw := gt4 82 rfl rfl
theorem mm_X3_59 : Cond.methodLink RX3 59 Lib.Math.min.name ∈ gw := gt3 65 rfl rfl
theorem mm_X7_151 : Cond.methodLink RX7 151 Lib.Math.min.name ∈ gw := gt3 166 rfl rfl
theorem mm_X10_81 : Cond.methodLink RX10 81 Lib.Math.min.name ∈ gw := gt5 77 rfl rfl
theorem mm_J7_304 : Cond.methodLink RJ7 304 Lib.Math.min.name ∈ gw := gt4 81 rfl rfl
theorem mm_X3_44 : Cond.methodLink RX3 44 Lib.Math.max.name ∈ gw := gt3 68 rfl rfl
theorem mm_X6_144 : Cond.methodLink RX6 144 Lib.Math.max.name ∈ gw := gt5 37 rfl rfl
theorem ac_nat : Cond.native arraycopyName ∈ gw := gt4 84 rfl rfl
theorem ac_st : Cond.static arraycopyName ∈ gw := gt4 83 rfl rfl
theorem ac_ini : Cond.initialized "java/lang/System" ∈ gw := gt1 20 rfl rfl
theorem mm_ini : Cond.initialized "java/lang/Math" ∈ gw := gt1 15 rfl rfl
theorem mm_smin : Cond.static Lib.Math.min.name ∈ gw := gt3 66 rfl rfl
theorem mm_cmin : Cond.code Lib.Math.min.name Lib.Math.min.code 2 (some .int) ∈ gw := gt3 67 rfl rfl
theorem mm_smax : Cond.static Lib.Math.max.name ∈ gw := gt3 69 rfl rfl
theorem mm_cmax : Cond.code Lib.Math.max.name Lib.Math.max.code 2 (some .int) ∈ gw := gt3 70 rfl rfl
/-- a step that writes one cell at several slots, over a frame of the JDK -/
theorem Rj.wrs {d : Nat} {M : MT} {pc pc' : Nat} {ls : List (Option Value)} {st st' : List Value} {h h2 : AH} {v : Option Value} {h' : AH} (e1 : h2.1 = h.1) (e2 : gS h2 = gS h)
    (hs : ∀ (E : EV) (p : Program) (l : Launch) (e : Env) (R : Room) (s : State) (m : MethodId) (args : Array Value) (below : List Frame) (meth : Method) (c : Code) (H : Heap) (locs : List Loc) (cells slots : Nat) (Q : State → Prop) (rl : Array Slot), d ≤ R.frames → 40 * d ≤ R.locals → cells ≤ R.cells → slots ≤ R.slots → Cx E (gS h) M p s m args meth c → Rep E h H → Lok E M.2.2.1 ls rl →
      (∀ (H1 : Heap) (los : List Loc), Rep E h2 H1 → (∀ q, q < e_b E → H1[q]? = H[q]?) → (∀ lo ∈ los, e_b E ≤ lo.base) → W p l e R s m args below meth c H1 (locs ++ los) cells slots Q (F0 m pc' rl (st'.map (tr E)))) → W p l e R s m args below meth c H locs cells slots Q (F0 m pc rl (st.map (tr E))))
    (k : Rj d M pc' ls st' h2 v h') : Rj d M pc ls st h v h' := by
  have n1 : aN h2 = aN h := by unfold aN; rw [e1]
  have n2 : aZ h2 = aZ h := by unfold aZ; rw [e1]
  refine ⟨by rw [← n1]; exact k.1, by rw [← n2]; exact k.2.1, ⟨k.2.2.1.1.trans e2, by rw [← e1]; exact k.2.2.1.2⟩, fun E p l e R s m args below meth c H locs cells slots mc ms n0 z0 rl hy => ?_⟩
  obtain ⟨X, h1, h2', h3, h4, h5, h6, h7, h8, w, hq, L⟩ := hy
  have hk1 := k.1
  have hk2 := k.2.1
  refine hs E p l e R s m args below meth c H locs cells slots _ rl h1 h2' (by omega) (by omega) X w.1 L (fun H1 los r1 r2 r3 => k.2.2.2 E p l e R s m args below meth c H1 (locs ++ los) cells slots mc ms n0 z0 rl ⟨by rw [e2]; exact X, h1, h2', by rw [n1]; exact h3, by rw [n2]; exact h4, h5, h6, h7, h8, ⟨r1, w.2.1, fun q hq' => (r2 q hq').trans (w.2.2 q hq')⟩, fun q hq' => ?_, L⟩)
  rcases List.mem_append.mp hq' with z | z
  · exact hq q z
  · exact r3 q z
/-- System.arraycopy between arrays of int -/
def cpH (h : AH) (k0 k1 sp dp n : Nat) : AH := (h.1, fun a b => if a = k1 then (if dp ≤ b ∧ b < dp + n then gI h k0 (sp + (b - dp)) else gI h a b) else gI h a b, h.2.2.1, h.2.2.2)
theorem st_sum {st : List Value} (E : EV) (h : stOK st) : ((st.map (tr E)).map fun v => v.category).sum ≤ 8 := stOK_tr E h
set_option maxHeartbeats 1000000 in
theorem Rj.acopy {d : Nat} {M : MT} {pc : Nat} {ls : List (Option Value)} {st : List Value} {h : AH} {v : Option Value} {h' : AH} {idx k0 k1 n0 n1 sp dp n : Nat} (hl : Cond.methodLink M.1.cls idx arraycopyName ∈ gw) (hs0 : h.1[k0]? = some (13, n0)) (hs1 : h.1[k1]? = some (13, n1)) (hb : sp + n ≤ n0 ∧ dp + n ≤ n1 ∧ n0 < 1000000 ∧ n1 < 1000000) (hst : stOK st) (hd : decode M.2.1 pc = .ok (.invokestatic idx, 3))
    (k : Rj (d + 1) M (pc + 3) ls st (cpH h k0 k1 sp dp n) v h') : Rj (d + 1) M pc ls (.int (nI n) :: .int (nI dp) :: .ref k1 :: .int (nI sp) :: .ref k0 :: st) h v h' := Rj.wrs (h2 := cpH h k0 k1 sp dp n) rfl rfl (fun E p l e R s m args below meth c H locs cells slots Q rl f1 f2 f3 f4 X w L y => by
  obtain ⟨hx, hbb, hr, hml, hown, hts, hlk, hnm, hK⟩ := X
  have c0 : H[e_b E + k0]? = some (arrV (e_A E 0) n0 (fun j => .int (gI h k0 j))) := (w.2 k0 _ hs0).2 (Nat.lt_irrefl 13)
  have c1 : H[e_b E + k1]? = some (arrV (e_A E 0) n1 (fun j => .int (gI h k1 j))) := (w.2 k1 _ hs1).2 (Nat.lt_irrefl 13)
  have hK0 := (hK.1.2 0 (e_A E 0, aty 0) rfl).1
  have nz : ∀ z, z < 1000000 → ¬ nI z < 0 := fun z hz => nI_pos (by omega)
  have nc : ∀ z, z < 1000000 → (nI z).toNatClampNeg = z := fun z hz => nI_clamp (show z < 2 ^ 31 by omega)
  have nt : ∀ z, z < 1000000 → (nI z).toInt = (z : Int) := fun z hz => nI_toInt (by omega)
  intro T hT X
  obtain ⟨-, q0, hk0, cm0, hkk0⟩ := hK0 n0 (fun j => .int (gI h k0 j))
  obtain ⟨-, q1, hk1, cm1, hkk1⟩ := hK0 n1 (fun j => .int (gI h k1 j))
  have hsum := st_sum E hst
  obtain ⟨vm', X', step⟩ := X.arraycopy hx hown (hts _ hl) (hts _ ac_nat) (hts _ ac_st) (hts _ ac_ini) (src := e_b E + k0) (dst := e_b E + k1) (cs := arrV (e_A E 0) n0 (fun j => .int (gI h k0 j))) (cd := arrV (e_A E 0) n1 (fun j => .int (gI h k1 j))) (srcPos := nI sp) (destPos := nI dp) (n := nI n) (by rw [hT]; exact c0) (by rw [hT]; exact c1)
    (fun _ h => by cases h) (fun _ h => by cases h) (fun h => by cases h) (fun h => by cases h) hk0 hk1 hkk0 hkk1 (by simp [refKind, aty]) (nz _ (by omega)) (nz _ (by omega)) (nz _ (by omega))
    (by rw [nt _ (by omega), nt _ (by omega), arrV_size]; omega)
    (by rw [nt _ (by omega), nt _ (by omega), arrV_size]; omega)
    (fun vm₁ _ i hi => by
      rw [nc _ (by omega)] at hi
      have e : (arrV (e_A E 0) n0 (fun j => Value.int (gI h k0 j))).slots.getD ((nI sp).toNatClampNeg + i) .null = .int (gI h k0 ((nI sp).toNatClampNeg + i)) := by
        rw [nc _ (by omega), Array.getD_eq_getD_getElem?, arrV_read _ _ (by omega)]
        rfl
      refine ⟨?_, ?_⟩
      · rw [e]; rfl
      · rw [e]; exact trivial)
    (g := F0 m pc rl (.int (nI n) :: .int (nI dp) :: .ref (e_b E + k1) :: .int (nI sp) :: .ref (e_b E + k0) :: st.map (tr E))) rfl (by rw [hml]; exact L.1) (rest := st.map (tr E)) rfl (by rw [hbb]; exact hd) (by omega) (by show 2 * 0 + _ + (5 + 2 + 11) ≤ _; omega)
  have e1 : copied (arrV (e_A E 0) n0 (fun j => .int (gI h k0 j))) (arrV (e_A E 0) n1 (fun j => .int (gI h k1 j))) (nI sp) (nI dp) (nI n) = arrV (e_A E 0) n1 (fun j => .int (va_cpy (gI h k0) (gI h k1) sp dp n j)) := by
    have := va_copied (fun z => Value.int z) (e_A E 0) (e_A E 0) (n0 := n0) (n1 := n1) (sp := sp) (dp := dp) (n := n) (gI h k0) (gI h k1) hb.1
    unfold copied
    rw [nc _ (by omega), nc _ (by omega), nc _ (by omega)]
    exact this
  rw [e1] at X' step
  have hlt : e_b E + k1 < H.size := (Array.getElem?_eq_some_iff.mp c1).1
  have hheap : ((T.setVm vm').setCell (e_b E + k1) (arrV (e_A E 0) n1 (fun j => .int (va_cpy (gI h k0) (gI h k1) sp dp n j)))).heap = H.setIfInBounds (e_b E + k1) (arrV (e_A E 0) n1 (fun j => .int (va_cpy (gI h k0) (gI h k1) sp dp n j))) := by rw [← hT]; rfl
  have oq : ∀ q : Nat, q ≠ e_b E + k1 → (H.setIfInBounds (e_b E + k1) (arrV (e_A E 0) n1 (fun j => Value.int (va_cpy (gI h k0) (gI h k1) sp dp n j))))[q]? = H[q]? := fun q hq => by simp [Array.getElem?_setIfInBounds, Ne.symm hq]
  have hcv : ∀ a kd j, cval E (cpH h k0 k1 sp dp n) a kd j = if a = k1 ∧ tagOf (kty kd j) = 0 then .int (va_cpy (gI h k0) (gI h k1) sp dp n j) else cval E h a kd j := by
    intro a kd j
    unfold cval
    rcases tag3 (kty kd j) with q | q | q
    · rw [q]
      by_cases ha : a = k1
      · rw [if_pos ⟨ha, rfl⟩]
        subst ha
        show Value.int (if a = a then _ else _) = _
        rw [if_pos rfl]
        rfl
      · rw [if_neg (fun z => ha z.1)]
        show Value.int (if a = k1 then _ else _) = _
        rw [if_neg ha]
        rfl
    · rw [q, if_neg (fun z => by cases z.2)]; rfl
    · rw [q, if_neg (fun z => by cases z.2)]; rfl
  obtain ⟨t, a1, b1⟩ := y _ _ (Rep.wr w hs1 rfl (fun a ha kd j => by rw [hcv, if_neg (fun z => ha z.1)]) ⟨fun z => absurd z (Nat.lt_irrefl 13), fun _ => by
      rw [show (H.setIfInBounds (e_b E + k1) (arrV (e_A E 0) n1 (fun j => Value.int (va_cpy (gI h k0) (gI h k1) sp dp n j))))[e_b E + k1]? = some (arrV (e_A E 0) n1 (fun j => Value.int (va_cpy (gI h k0) (gI h k1) sp dp n j))) by simp [Array.getElem?_setIfInBounds, hlt]]
      congr 1
      congr 1
      funext j
      rw [hcv, if_pos ⟨rfl, rfl⟩]⟩ (by simp) oq) (fun q hq => oq q (by omega)) (fun lo hlo => by
      obtain ⟨z, -, hz⟩ := List.mem_map.mp hlo
      rw [← hz]
      exact Nat.le_add_right _ _) _ hheap X'
  exact ⟨t, step t a1, b1⟩) k
theorem Rp.acopy {d : Nat} {M : MT} {pc : Nat} {ls : List (Option Value)} {st : List Value} {h : AH} {P : Option Value → AH → Prop} {idx k0 k1 n0 n1 sp dp n : Nat} (hd : decode M.2.1 pc = .ok (.invokestatic idx, 3)) (hl : Cond.methodLink M.1.cls idx arraycopyName ∈ gw) (hs0 : h.1[k0]? = some (13, n0)) (hs1 : h.1[k1]? = some (13, n1)) (hb : sp + n ≤ n0 ∧ dp + n ≤ n1 ∧ n0 < 1000000 ∧ n1 < 1000000) (hst : stOK st)
    (kk : Rp (d + 1) M (pc + 3) ls st (cpH h k0 k1 sp dp n) P) : Rp (d + 1) M pc ls (.int (nI n) :: .int (nI dp) :: .ref k1 :: .int (nI sp) :: .ref k0 :: st) h P := by
  obtain ⟨v, h', r, p⟩ := kk
  exact ⟨v, h', Rj.acopy hl hs0 hs1 hb hst hd r, p⟩
theorem gI_cp (h : AH) (k0 k1 sp dp n a b : Nat) : gI (cpH h k0 k1 sp dp n) a b = if a = k1 then (if dp ≤ b ∧ b < dp + n then gI h k0 (sp + (b - dp)) else gI h a b) else gI h a b := rfl
theorem Fr.cp {X : Nat → Nat → Bool} {h h' : AH} (a : Fr X h h') {k0 k1 sp dp n : Nat} (hx : ∀ j, dp ≤ j → j < dp + n → X k1 j = true) : Fr X h (cpH h' k0 k1 sp dp n) := ⟨a.1, a.2.1, fun k j x => by
  rw [gI_cp]
  by_cases h1 : k = k1
  · rw [if_pos h1]
    by_cases h2 : dp ≤ j ∧ j < dp + n
    · rw [h1, hx j h2.1 h2.2] at x; cases x
    · rw [if_neg h2]; exact a.2.2.1 k j x
  · rw [if_neg h1]; exact a.2.2.1 k j x, fun k j x => a.2.2.2.1 k j x, fun k j x => a.2.2.2.2 k j x⟩
/-- a step over a frame of the JDK that leaves the heap as it is -/
theorem Rj.jdk {d : Nat} {M : MT} {pc pc' : Nat} {ls : List (Option Value)} {st st' : List Value} {h : AH} {v : Option Value} {h' : AH}
    (hs : ∀ (E : EV) (p : Program) (l : Launch) (e : Env) (R : Room) (s : State) (m : MethodId) (args : Array Value) (below : List Frame) (meth : Method) (c : Code) (H : Heap) (locs : List Loc) (cells slots : Nat) (Q : State → Prop) (rl : Array Slot), d ≤ R.frames → 40 * d ≤ R.locals → cells ≤ R.cells → slots ≤ R.slots → Cx E (gS h) M p s m args meth c → Wld E h s H → Lok E M.2.2.1 ls rl →
      W p l e R s m args below meth c H locs cells slots Q (F0 m pc' rl (st'.map (tr E))) → W p l e R s m args below meth c H locs cells slots Q (F0 m pc rl (st.map (tr E))))
    (k : Rj d M pc' ls st' h v h') : Rj d M pc ls st h v h' :=
  ⟨k.1, k.2.1, k.2.2.1, fun E p l e R s m args below meth c H locs cells slots mc ms n0 z0 rl hy => by
    have hk1 := k.1
    have hk2 := k.2.1
    obtain ⟨X, h1, h2', h3, h4, h5, h6, h7, h8, w, hq, L⟩ := hy
    exact hs E p l e R s m args below meth c H locs cells slots _ rl h1 h2' (by omega) (by omega) X w L (k.2.2.2 E p l e R s m args below meth c H locs cells slots mc ms n0 z0 rl ⟨X, h1, h2', h3, h4, h5, h6, h7, h8, w, hq, L⟩)⟩
theorem Rp.mmax {d : Nat} {M : MT} {pc : Nat} {ls : List (Option Value)} {st : List Value} {h : AH} {P : Option Value → AH → Prop} {idx : Nat} {x y : Int32} (hd : decode M.2.1 pc = .ok (.invokestatic idx, 3)) (hl : Cond.methodLink M.1.cls idx Lib.Math.max.name ∈ gw) (hst : stOK st)
    (kk : Rp (d + 1) M (pc + 3) ls (.int (if x < y then y else x) :: st) h P) : Rp (d + 1) M pc ls (.int y :: .int x :: st) h P := by
  obtain ⟨v, h', r, p⟩ := kk
  refine ⟨v, h', Rj.jdk (fun E p l e R s m args below meth c H locs cells slots Q rl f1 f2 f3 f4 X w L k => ?_) r, p⟩
  obtain ⟨hx, hbb, hr, hml, hown, hts, hlk, hnm, hK⟩ := X
  have hsum := st_sum E hst
  exact va_mmax hx hbb (hml.trans L.1.symm) hown (hts _ hl) (hts _ mm_smax) (hts _ mm_ini) (hts _ mm_cmax) (by omega) (by omega) f3 f4 hd k
theorem Rp.mmin {d : Nat} {M : MT} {pc : Nat} {ls : List (Option Value)} {st : List Value} {h : AH} {P : Option Value → AH → Prop} {idx : Nat} {x y : Int32} (hd : decode M.2.1 pc = .ok (.invokestatic idx, 3)) (hl : Cond.methodLink M.1.cls idx Lib.Math.min.name ∈ gw) (hst : stOK st)
    (kk : Rp (d + 1) M (pc + 3) ls (.int (if y < x then y else x) :: st) h P) : Rp (d + 1) M pc ls (.int y :: .int x :: st) h P := by
  obtain ⟨v, h', r, p⟩ := kk
  refine ⟨v, h', Rj.jdk (fun E p l e R s m args below meth c H locs cells slots Q rl f1 f2 f3 f4 X w L k => ?_) r, p⟩
  obtain ⟨hx, hbb, hr, hml, hown, hts, hlk, hnm, hK⟩ := X
  have hsum := st_sum E hst
  exact va_mmin hx hbb (hml.trans L.1.symm) hown (hts _ hl) (hts _ mm_smin) (hts _ mm_ini) (hts _ mm_cmin) (by omega) (by omega) f3 f4 hd k
