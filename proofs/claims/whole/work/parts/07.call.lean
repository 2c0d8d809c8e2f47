def wsM (M : MT) : List Cond := Cond.code M.1 M.2.1 M.2.2.1 M.2.2.2 :: gw
/-- a method that may be called: its code, its class, how many arguments it takes -/
def mOK (M : MT) (n : Nat) : Prop := Cond.code M.1 M.2.1 M.2.2.1 M.2.2.2 ∈ gw ∧ Cond.initialized M.1.cls ∈ gw ∧ (M.1.cls ≠ "java/lang/invoke/MethodHandle" ∧ M.1.cls ≠ "java/lang/invoke/VarHandle" ∧ (parseMethodDescriptor M.1.desc).map (fun d => d.parameters.length) = some n) ∧ plainName M.1.cls = true ∧ M.2.2.1 ≤ 20
theorem wsM_good {M : MT} {n : Nat} (h : mOK M n) : GoodIn gw (wsM M) := by
  have key : ∀ w ∈ gw, w ∈ gw ∧ ((w.onTables && w.keeps) = true ∨ ∃ ty, w = .arrayClass ty) := fun w hw => ⟨hw, good_of_word (List.mem_filter.mp hw).2⟩
  intro w hw
  rcases List.mem_cons.mp hw with rfl | hw
  · exact key _ h.1
  · exact key w hw
def sl1 (v : Value) : List (Option Value) := if v.category = 2 then [some v, none] else [some v]
def entL (vs : List Value) (n : Nat) : List (Option Value) := vs.flatMap sl1 ++ List.replicate (n - (vs.flatMap sl1).length) none
theorem ent_len (E : EV) : ∀ vs : List Value, (lg_sl (vs.map (tr E))).length = (vs.flatMap sl1).length
  | [] => rfl
  | v :: vs => by
    have ih := ent_len E vs
    unfold lg_sl at ih ⊢
    by_cases h : v.category = 2 <;> simp [sl1, h, tr_cat, ih]
theorem ent_at (E : EV) : ∀ (vs : List Value) (j : Nat) (w : Value), (vs.flatMap sl1)[j]? = some (some w) → (lg_sl (vs.map (tr E)))[j]? = some (.val (tr E w))
  | [], j, w, h => by simp at h
  | v :: vs, j, w, h => by
    have ih := ent_at E vs
    unfold lg_sl at ih ⊢
    by_cases hc : v.category = 2
    · simp only [List.flatMap_cons, List.map_cons, sl1, hc, tr_cat, if_true] at h ⊢
      match j, h with
      | 0, h => simp at h; subst h; rfl
      | 1, h => simp at h
      | j + 2, h => exact ih j w (by simpa using h)
    · simp only [List.flatMap_cons, List.map_cons, sl1, hc, tr_cat, if_false] at h ⊢
      match j, h with
      | 0, h => simp at h; subst h; rfl
      | j + 1, h => exact ih j w (by simpa using h)
theorem ent_lok (E : EV) {vs : List Value} {n : Nat} (hn : (vs.flatMap sl1).length ≤ n) : Lok E n (entL vs n) ((lg_sl (vs.map (tr E)) ++ List.replicate (n - (lg_sl (vs.map (tr E))).length) Slot.unset).toArray) := by
  have h0 := lv_entry (vs.map (tr E)) (n := n) (by rw [ent_len]; exact hn)
  refine ⟨h0.1, h0.2.1, by simp only [entL, List.length_append, List.length_replicate]; omega, fun j w hj => ?_⟩
  by_cases hl : j < (vs.flatMap sl1).length
  · unfold entL at hj
    rw [List.getElem?_append_left hl] at hj
    have h1 := ent_at E vs j w hj
    rw [List.getElem?_toArray, List.getElem?_append_left (by rw [ent_len]; exact hl)]
    exact h1
  · unfold entL at hj
    rw [List.getElem?_append_right (by omega)] at hj
    have := List.mem_of_getElem? hj
    rw [List.mem_replicate] at this
    cases this.2
theorem StrK.warm {E : EV} {s U : State} (hW : s.WarmedH U.vm) (hl : e_b E ≤ s.heap.size) (hh : ∀ q, q < e_b E → U.heap[q]? = s.heap[q]?) (K : StrK E s) : StrK E U := by
  obtain ⟨k1, k2, k3, k4⟩ := K
  have hq : ∀ a : Nat, a < s.heap.size → ¬ e_b E ≤ a → U.heap[a]? = s.heap[a]? := fun a _ h => hh a (by omega)
  exact ⟨fun k q h => (k1 k q h).warm hW, (k2.kept hq).moved hW.alike, (k3.kept hq).moved hW.alike, (k4.kept hq).moved hW.alike⟩
theorem Kst.warm {E : EV} {S : Nat × (Nat → Int32)} {s U : State} (hW : s.WarmedH U.vm) (hl : e_b E ≤ s.heap.size) (hh : ∀ q, q < e_b E → U.heap[q]? = s.heap[q]?) (K : Kst E S s) : Kst E S U := by
  obtain ⟨k1, k2, k3, k4, k5, k6, k7⟩ := K
  refine ⟨va_K.moved hW.alike k1, va_X.moved hW.alike (k2.kept (hh _ k3)), k3, fun w hw => ?_, va_AO.moved hW.alike k5, va_AO.moved hW.alike k6, k7.warm hW hl hh⟩
  have h1 := k4 w hw
  simp only [nestW, List.mem_cons, List.not_mem_nil, or_false] at hw
  rcases hw with rfl | rfl | rfl | rfl | rfl | rfl
  · exact va_Nw.warmM hW h1
  · exact va_Nw.warmM hW h1
  · exact va_Nw.warmM hW h1
  · exact va_Nw.warmM hW h1
  · exact va_Nw.warmM hW h1
  · exact va_Nw.warmC hW h1
/-- a contract out of Rj -/
def Pj (E : EV) (vs : List Value) (h : AH) : Array Value → State → Prop := fun a U => a = (vs.map (tr E)).toArray ∧ Rep E h U.heap ∧ Kst E (gS h) U
theorem Pj.blind {E : EV} {vs : List Value} {h : AH} : FrameBlind (Pj E vs h) := by
  intro a U g mk ⟨h1, h2, k1, k2, k3, k4, k5, k6, k7⟩
  exact ⟨h1, h2, va_K.moved (u := U) (U := U.calling g mk a) (Vm.Alike.refl U.vm) k1, va_X.moved (u := U) (U := U.calling g mk a) (Vm.Alike.refl U.vm) k2, k3, fun w hw => by
    have q := k4 w hw
    simp only [nestW, List.mem_cons, List.not_mem_nil, or_false] at hw
    rcases hw with rfl | rfl | rfl | rfl | rfl | rfl <;> exact va_Nw.same (u := U) rfl rfl q, va_AO.moved (u := U) (U := U.calling g mk a) (Vm.Alike.refl U.vm) k5, va_AO.moved (u := U) (U := U.calling g mk a) (Vm.Alike.refl U.vm) k6, fun k q z => (k7.1 k q z).same rfl, vk_S.moved (u := U) (U := U.calling g mk a) (Vm.Alike.refl U.vm) k7.2.1, va_Z.moved (u := U) (U := U.calling g mk a) (Vm.Alike.refl U.vm) k7.2.2.1, va_Z.moved (u := U) (U := U.calling g mk a) (Vm.Alike.refl U.vm) k7.2.2.2⟩
def rmj (d : Nat) (h h1 : AH) : Room := { frames := d, cells := aN h1 - aN h, slots := aZ h1 - aZ h, locals := 40 * d }
theorem met_of {d n : Nat} {M : MT} {vs : List Value} {h h1 : AH} {v : Option Value} (hm : mOK M n) (hn : (vs.flatMap sl1).length ≤ M.2.2.1) (r : Rj d M 0 (entL vs M.2.2.1) [] h v h1) (E : EV) (l : Launch) : Met l M.1 (wsM M) (rmj d h h1) (Pj E vs h) (Qj E v h1) (aN h1 - aN h) (aZ h1 - aZ h) (fun q => e_b E ≤ q) := by
  refine Met.ofW (cc := M.2.1) (maxL := M.2.2.1) (ret := M.2.2.2) hm.2.2.2.1 rfl ?_
  intro p e s m args below meth c s₁ B hml hv
  obtain ⟨rfl, hrep, hK⟩ := hv
  have hts := atoms_spec (ws := wsM M) B.pre
  have r1 := r.1
  have r2 := r.2.1
  rw [lg_entry_eq]
  exact r.2.2.2 E p l e (rmj d h h1) s m _ below meth c s.heap [] 0 0 _ _ (aN h) (aZ h) _ ⟨⟨B.exec, B.bytes, B.returns, hml, findClass_of_methodNamed B.named, fun w hw => hts w (List.mem_cons_of_mem _ hw), B.notSynchronized, fun z => ((name_of_methodNamed B.named B.method).1).trans z, hK⟩, Nat.le_refl _, Nat.le_refl _, rfl, rfl, by omega, by omega, Nat.le_refl _, Nat.le_refl _, ⟨hrep, by rw [hrep.1]; omega, fun _ _ => rfl⟩, (fun _ z => by cases z), ent_lok E hn⟩
/-- what a call gives -/
theorem Rj.ofRun {d : Nat} {M : MT} {pc : Nat} {ls : List (Option Value)} {st st0 : List Value} {h h1 : AH} {v v1 : Option Value} {h' : AH} (m1 : aN h ≤ aN h1 ∧ aZ h ≤ aZ h1 ∧ (gS h1 = gS h ∧ h.1 <+: h1.1))
    (run : ∀ (E : EV) (p : Program) (l : Launch) (e : Env) (R : Room) (s : State) (m : MethodId) (args : Array Value) (below : List Frame) (meth : Method) (c : Code) (H : Heap) (locs : List Loc) (cells slots : Nat) (rl : Array Slot), Cx E (gS h) M p s m args meth c → Wld E h s H → Lok E M.2.2.1 ls rl → d + 1 ≤ R.frames → 40 * (d + 1) ≤ R.locals → cells + (aN h1 - aN h) ≤ R.cells → slots + (aZ h1 - aZ h) ≤ R.slots →
      ∃ a, va_Run p l e R s m args below meth c H locs cells slots (aN h1 - aN h) (aZ h1 - aZ h) (F0 m pc rl (st0.map (tr E))) (st.map (tr E)) (Qj E v1 h1 a) (fun q => e_b E ≤ q))
    (kk : Rj (d + 1) M (pc + 3) ls (v1.toList ++ st) h1 v h') : Rj (d + 1) M pc ls st0 h v h' := by
  refine ⟨Nat.le_trans m1.1 kk.1, Nat.le_trans m1.2.1 kk.2.1, ⟨kk.2.2.1.1.trans m1.2.2.1, m1.2.2.2.trans kk.2.2.1.2⟩, fun E p l e R s m args below meth c H locs cells slots mc ms n0 z0 rl hy => ?_⟩
  obtain ⟨X, g1, g2, g3, g4, g5, g6, g7, g8, w, hq, L⟩ := hy
  have k1 := kk.1
  have k2 := kk.2.1
  obtain ⟨a, hr⟩ := run E p l e R s m args below meth c H locs cells slots rl X w L g1 g2 (by omega) (by omega)
  intro T hT XT
  obtain ⟨v', st₀, t, T', Lc, h0, X', hL, e1, e2, ⟨hv', hrep, hbel⟩, go⟩ := hr T hT XT
  obtain rfl := Outcome.returned.inj hv'
  have hbel2 : ∀ q, q < e_b E → T'.heap[q]? = s.heap[q]? := fun q hq' => by rw [e1, hbel q hq', h0]; exact w.2.2 q hq'
  obtain ⟨t2, a1, b1⟩ := kk.2.2.2 E p l e R s m args below meth c T'.heap (locs ++ Lc) (cells + (aN h1 - aN h)) (slots + (aZ h1 - aZ h)) mc ms n0 z0 rl ⟨by rw [m1.2.2.1]; exact X, g1, g2, by omega, by omega, g5, g6, g7, g8, ⟨by rw [e1]; exact hrep, w.2.1, hbel2⟩, fun q hq' => by
    rcases List.mem_append.mp hq' with z | z
    · exact hq q z
    · exact hL q z, L⟩ T' rfl X'
  refine ⟨t2, go t2 ?_, b1⟩
  have e3 : (v1.toList ++ st).map (tr E) = (v1.map (tr E)).toList ++ st.map (tr E) := by cases v1 <;> rfl
  rw [e3] at a1
  exact a1
def stOK (st : List Value) : Prop := (st.map fun v => v.category).sum ≤ 8
theorem stOK_tr (E : EV) {st : List Value} (h : stOK st) : ((st.map (tr E)).map fun v => v.category).sum ≤ 8 := by
  rw [List.map_map]
  unfold stOK at h
  rw [show ((fun v => v.category) ∘ tr E : Value → Nat) = fun v => v.category from funext fun v => tr_cat E v]
  exact h
section RjK
variable {d : Nat} {M Mc : MT} {pc n idx : Nat} {ls : List (Option Value)} {st : List Value} {h h1 : AH} {v v1 : Option Value} {h' : AH} {As : List Value}
theorem Rj.callS (hm : mOK Mc n) (hl : Cond.methodLink M.1.cls idx Mc.1 ∈ gw ∧ Cond.static Mc.1 ∈ gw) (hd : decode M.2.1 pc = .ok (.invokestatic idx, 3)) (hn : As.length = n) (hf : (As.flatMap sl1).length ≤ Mc.2.2.1) (hst : stOK st) (r : Rj d Mc 0 (entL As Mc.2.2.1) [] h v1 h1) (kk : Rj (d + 1) M (pc + 3) ls (v1.toList ++ st) h1 v h') : Rj (d + 1) M pc ls (As.reverse ++ st) h v h' := Rj.ofRun ⟨r.1, r.2.1, r.2.2.1⟩ (fun E p l e R s m args below meth c H locs cells slots rl X w L f1 f2 f3 f4 => ⟨((As.map (tr E))).toArray, by
  have hX := X
  obtain ⟨hx, hb, hr, hml, hown, hts, hlk, hnm, hK⟩ := X
  have h5 := hm.2.2.2.2
  have cb := callB_of (R := R) (Ts := gw) (own := M.1.cls) (index := idx) (rm := rmj d h h1) n hts (wsM_good hm) (rfl : wsM Mc = _) rfl rfl (hts _ hm.2.1) (hts _ hl.1) hm.2.2.1 (show d + 1 ≤ R.frames ∧ 8 + (Mc.2.2.1 + 11) + 40 * d ≤ R.locals from ⟨f1, by omega⟩)
  exact va_runS (As := As.map (tr E)) (rest := st.map (tr E)) ⟨hx, hb, hml, hown, hts⟩ (met_of hm hf r E l) ⟨cb, hts _ hl.2⟩ ⟨Pj.blind, fun U hU hW => ⟨rfl, by rw [hU]; exact w.1, hK.warm hW w.2.1 (fun q hq => by rw [hU]; exact w.2.2 q hq)⟩⟩ rfl (by rw [List.length_map]; exact hn) L.1 (by simp) (lv_room (stOK_tr E hst)) hd ⟨f3, f4⟩⟩) kk
theorem Rj.callV {k ci nk : Nat} {C : String} {T : u_T} {N : Nat} (hm : mOK Mc n) (hl : Cond.methodLink M.1.cls idx Mc.1 ∈ gw ∧ Cond.instanceMethod Mc.1 ∈ gw ∧ Cond.selects Mc.1.cls Mc.1 Mc.1 ∈ gw) (hci : ci < 13) (hc : vwCl[ci]? = some (C, T, N)) (hC : C = Mc.1.cls) (hs : h.1[k]? = some (ci, nk)) (hd : decode M.2.1 pc = .ok (.invokevirtual idx, 3)) (hn : As.length = n) (hf : ((Value.ref k :: As).flatMap sl1).length ≤ Mc.2.2.1) (hst : stOK st) (r : Rj d Mc 0 (entL (.ref k :: As) Mc.2.2.1) [] h v1 h1) (kk : Rj (d + 1) M (pc + 3) ls (v1.toList ++ st) h1 v h') : Rj (d + 1) M pc ls (As.reverse ++ .ref k :: st) h v h' := Rj.ofRun ⟨r.1, r.2.1, r.2.2.1⟩ (fun E p l e R s m args below meth c H locs cells slots rl X w L f1 f2 f3 f4 => ⟨((Value.ref k :: As).map (tr E)).toArray, by
  have hX := X
  obtain ⟨hx, hb, hr, hml, hown, hts, hlk, hnm, hK⟩ := X
  have h5 := hm.2.2.2.2
  have cb := callB_of (R := R) (Ts := gw) (own := M.1.cls) (index := idx) (rm := rmj d h h1) n hts (wsM_good hm) (rfl : wsM Mc = _) rfl rfl (hts _ hm.2.1) (hts _ hl.1) hm.2.2.1 (show d + 1 ≤ R.frames ∧ 8 + (Mc.2.2.1 + 11) + 40 * d ≤ R.locals from ⟨f1, by omega⟩)
  obtain ⟨cell, q1, q2, q3, -⟩ := (w.1.2 k _ hs).1 hci
  exact va_runV (C := Mc.1.cls) (b := e_b E + k) (As := As.map (tr E)) (rest := st.map (tr E)) ⟨hx, hb, hml, hown, hts⟩ (met_of hm hf r E l) ⟨cb, hts _ hl.2.1, hts _ hl.2.2⟩ ⟨Pj.blind, ⟨cell, q1, by rw [q3]; rfl, by rw [q2, ← hC]; exact (hK.1.1 ci _ hc).2.1⟩, fun U hU hW => ⟨rfl, by rw [hU]; exact w.1, hK.warm hW w.2.1 (fun q hq => by rw [hU]; exact w.2.2 q hq)⟩⟩ rfl (by rw [List.length_map]; exact hn) L.1 (by simp [tr]) (lv_room (stOK_tr E hst)) hd ⟨f3, f4⟩⟩) kk
theorem Rj.callI {k : Nat} (hm : mOK Mc n) (hnm2 : Mc.1.name = "<init>") (hret : Mc.2.2.2 = none) (hl : Cond.methodLink M.1.cls idx Mc.1 ∈ gw ∧ Cond.instanceMethod Mc.1 ∈ gw) (hd : decode M.2.1 pc = .ok (.invokespecial idx, 3)) (hn : As.length = n) (hf : ((Value.ref k :: As).flatMap sl1).length ≤ Mc.2.2.1) (hst : stOK st) (r : Rj d Mc 0 (entL (.ref k :: As) Mc.2.2.1) [] h v1 h1) (kk : Rj (d + 1) M (pc + 3) ls (v1.toList ++ st) h1 v h') : Rj (d + 1) M pc ls (As.reverse ++ .ref k :: st) h v h' := Rj.ofRun ⟨r.1, r.2.1, r.2.2.1⟩ (fun E p l e R s m args below meth c H locs cells slots rl X w L f1 f2 f3 f4 => ⟨((Value.ref k :: As).map (tr E)).toArray, by
  obtain ⟨hx, hb, hr, hml, hown, hts, hlk, hnm, hK⟩ := X
  have h5 := hm.2.2.2.2
  have cb := callB_of (R := R) (Ts := gw) (own := M.1.cls) (index := idx) (rm := rmj d h h1) n hts (wsM_good hm) (rfl : wsM Mc = _) rfl rfl (hts _ hm.2.1) (hts _ hl.1) hm.2.2.1 (show d + 1 ≤ R.frames ∧ 8 + (Mc.2.2.1 + 11) + 40 * d ≤ R.locals from ⟨f1, by omega⟩)
  rw [hret] at cb
  exact va_runI (b := e_b E + k) (As := As.map (tr E)) (rest := st.map (tr E)) ⟨hx, hb, hml, hown, hts⟩ (met_of hm hf r E l) ⟨cb, hnm2, hts _ hl.2⟩ ⟨Pj.blind, fun U hU hW => ⟨rfl, by rw [hU]; exact w.1, hK.warm hW w.2.1 (fun q hq => by rw [hU]; exact w.2.2 q hq)⟩⟩ rfl (by rw [List.length_map]; exact hn) L.1 (by simp [tr]) (lv_room (stOK_tr E hst)) hd ⟨f3, f4⟩⟩) kk
theorem Rj.callIN {k : Nat} {host : String} (hm : mOK Mc n) (hnm2 : Mc.1.name = "<init>") (hret : Mc.2.2.2 = none) (hl : Cond.methodLinkNest M.1.cls idx Mc.1 host ∈ nestW ∧ Cond.instanceMethod Mc.1 ∈ gw) (hd : decode M.2.1 pc = .ok (.invokespecial idx, 3)) (hn : As.length = n) (hf : ((Value.ref k :: As).flatMap sl1).length ≤ Mc.2.2.1) (hst : stOK st) (r : Rj d Mc 0 (entL (.ref k :: As) Mc.2.2.1) [] h v1 h1) (kk : Rj (d + 1) M (pc + 3) ls (v1.toList ++ st) h1 v h') : Rj (d + 1) M pc ls (As.reverse ++ .ref k :: st) h v h' := Rj.ofRun ⟨r.1, r.2.1, r.2.2.1⟩ (fun E p l e R s m args below meth c H locs cells slots rl X w L f1 f2 f3 f4 => ⟨((Value.ref k :: As).map (tr E)).toArray, by
  obtain ⟨hx, hb, hr, hml, hown, hts, hlk, hnm, hK⟩ := X
  have h5 := hm.2.2.2.2
  have cb := va_cnB (R := R) (Ts := gw) (own := M.1.cls) (index := idx) (host := host) (rm := rmj d h h1) n hts (wsM_good hm) (rfl : wsM Mc = _) rfl rfl (hK.2.2.2.1 _ hl.1) (hts _ hm.2.1) hm.2.2.1 (show d + 1 ≤ R.frames ∧ 8 + (Mc.2.2.1 + 11) + 40 * d ≤ R.locals from ⟨f1, by omega⟩)
  rw [hret] at cb
  exact va_runIN (b := e_b E + k) (As := As.map (tr E)) (rest := st.map (tr E)) ⟨hx, hb, hml, hown, hts⟩ (met_of hm hf r E l) ⟨cb, hnm2, hts _ hl.2⟩ ⟨Pj.blind, fun U hU hW => ⟨rfl, by rw [hU]; exact w.1, hK.warm hW w.2.1 (fun q hq => by rw [hU]; exact w.2.2 q hq)⟩⟩ rfl (by rw [List.length_map]; exact hn) L.1 (by simp [tr]) (lv_room (stOK_tr E hst)) hd ⟨f3, f4⟩⟩) kk
end RjK
