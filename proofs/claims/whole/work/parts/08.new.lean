def dv (t : Nat) : Value := match t with
  | 0 => .int 0
  | 1 => .long 0
  | _ => .null
theorem aN_new (h : AH) (kd n : Nat) : aN (aNew h kd n) = aN h + 1 := by simp [aN, aNew]
theorem aZ_new (h : AH) (kd n : Nat) : aZ (aNew h kd n) = aZ h + n := by simp [aZ, aNew]
theorem cval_old (E : EV) (h : AH) (kd n : Nat) {a : Nat} (ha : a ≠ aN h) (kd' j : Nat) : cval E (aNew h kd n) a kd' j = cval E h a kd' j := by
  have ha' : ¬ a = h.1.length := ha
  unfold cval
  rcases tag3 (kty kd' j) with q | q | q
  · rw [q]; simp [aNew, gI, ha']
  · rw [q]; simp [aNew, gL, ha']
  · rw [q]; simp [aNew, gR, ha']
theorem cval_fresh (E : EV) (h : AH) (kd n kd' j : Nat) : cval E (aNew h kd n) (aN h) kd' j = dv (tagOf (kty kd' j)) := by
  unfold cval
  rcases tag3 (kty kd' j) with q | q | q
  · rw [q]; simp [aNew, gI, aN, dv]
  · rw [q]; simp [aNew, gL, aN, dv]
  · rw [q]; simp [aNew, gR, aN, dv, arf]
theorem Rep.new {E : EV} {h : AH} {H H1 : Heap} {kd n : Nat} (w : Rep E h H) (hc : cellOK E (aNew h kd n) H1 (aN h) (kd, n)) (z : H1.size = H.size + 1) (oq : ∀ q, q < H.size → H1[q]? = H[q]?) : Rep E (aNew h kd n) H1 := by
  refine ⟨by rw [z, w.1, aN_new]; omega, fun a qa ha => ?_⟩
  by_cases hl : a < aN h
  · have ha2 : h.1[a]? = some qa := by
      have h5 : (h.1 ++ [(kd, n)])[a]? = some qa := ha
      rw [List.getElem?_append_left hl] at h5
      exact h5
    have h0 := w.2 a qa ha2
    have hq := oq (e_b E + a) (by rw [w.1]; omega)
    have hne : a ≠ aN h := by omega
    refine ⟨fun hlt => ((h0.1 hlt).kept hq).to (fun j _ => (cval_old E h kd n hne qa.1 j).symm), fun hlt => ?_⟩
    rw [hq, h0.2 hlt, show (fun j => cval E (aNew h kd n) a qa.1 j) = fun j => cval E h a qa.1 j from funext fun j => cval_old E h kd n hne qa.1 j]
  · have h5 : (h.1 ++ [(kd, n)])[a]? = some qa := ha
    have h6 : a < (h.1 ++ [(kd, n)]).length := (List.getElem?_eq_some_iff.mp h5).1
    have h7 : a = aN h := by simp at h6; unfold aN at hl ⊢; omega
    subst h7
    have h5 : (h.1 ++ [(kd, n)])[h.1.length]? = some qa := h5
    rw [List.getElem?_append_right (Nat.le_refl _)] at h5
    simp at h5
    subst h5
    exact hc
/-- an instruction that makes one cell -/
theorem Rj.al {d : Nat} {M : MT} {pc pc' : Nat} {ls : List (Option Value)} {st st' : List Value} {h : AH} {kd n : Nat} {v : Option Value} {h' : AH}
    (hs : ∀ (E : EV) (p : Program) (l : Launch) (e : Env) (R : Room) (s : State) (m : MethodId) (args : Array Value) (below : List Frame) (meth : Method) (c : Code) (H : Heap) (locs : List Loc) (cells slots : Nat) (Q : State → Prop) (rl : Array Slot), Cx E (gS h) M p s m args meth c → Rep E h H → cells + 1 ≤ R.cells → slots + n ≤ R.slots →
      (∀ H1 : Heap, Rep E (aNew h kd n) H1 → (∀ q, q < e_b E → H1[q]? = H[q]?) → W p l e R s m args below meth c H1 locs (cells + 1) (slots + n) Q (F0 m pc' rl (st'.map (tr E)))) → W p l e R s m args below meth c H locs cells slots Q (F0 m pc rl (st.map (tr E))))
    (k : Rj d M pc' ls st' (aNew h kd n) v h') : Rj d M pc ls st h v h' := by
  have k1 := k.1
  have k2 := k.2.1
  rw [aN_new] at k1
  rw [aZ_new] at k2
  refine ⟨by omega, by omega, ⟨k.2.2.1.1, (List.prefix_append h.1 [(kd, n)]).trans k.2.2.1.2⟩, fun E p l e R s m args below meth c H locs cells slots mc ms n0 z0 rl hy => ?_⟩
  obtain ⟨X, g1, g2, g3, g4, g5, g6, g7, g8, w, hq, L⟩ := hy
  exact hs E p l e R s m args below meth c H locs cells slots _ rl X w.1 (by omega) (by omega) (fun H1 r1 r2 => k.2.2.2 E p l e R s m args below meth c H1 locs (cells + 1) (slots + n) mc ms n0 z0 rl ⟨X, g1, g2, by rw [aN_new]; omega, by rw [aZ_new]; omega, g5, g6, g7, g8, ⟨r1, w.2.1, fun q hq' => (r2 q hq').trans (w.2.2 q hq')⟩, hq, L⟩)
section RjN
variable {d : Nat} {M : MT} {pc : Nat} {ls : List (Option Value)} {st : List Value} {h : AH} {v : Option Value} {h' : AH}
theorem Rj.new {idx ci : Nat} {C : String} {T : u_T} {N : Nat} (hc : clOK ci C T N) (hl : Cond.classLink M.1.cls idx C ∈ gw ∧ Cond.instantiable C N ∈ gw ∧ Cond.initialized C ∈ gw) (hdf : ∀ j, j < N → defaultValue (tyC ci j) = dv (tagOf (tyC ci j))) (hd : decode M.2.1 pc = .ok (.new idx, 3)) (kk : Rj d M (pc + 3) ls (.ref (aN h) :: st) (aNew h ci (clN ci)) v h') : Rj d M pc ls st h v h' := Rj.al (fun E p l e R s m args below meth c H locs cells slots Q rl X w f1 f2 y => by
  obtain ⟨c1, c2, c3, c4, c5, c6⟩ := hc
  obtain ⟨hx, hb, -, -, hown, hts, -, -, hK, -⟩ := X
  have hKn := hK.1 ci _ c1
  subst c3
  refine W.newcK hx hb hown (hts _ hl.1) (hts _ hl.2.1) (hts _ hl.2.2) rfl hd f1 f2 hKn.2.1 w.1 fun H1 kC hkC e1 z1 o1 => ?_
  refine y H1 (Rep.new w ⟨fun _ => ?_, fun z => absurd c2 z⟩ (by rw [z1, w.1]) (fun q hq => o1 q (by rw [← w.1]; exact hq))) (fun q hq => o1 q (by omega))
  refine (u_born (tyC ci) hts c4 hKn hkC e1 c5).to (fun j hj => ?_)
  rw [cval_fresh, kty_c c2]
  exact hdf j hj) kk
theorem Rj.newa {t : Nat} {at_ : ArrayType} {n : Int32} (ht : newarray.typeOf at_ = aty t ∧ t < 4 ∧ Cond.arrayClass (aty t) ∈ gw) (hn : ¬ n < 0) (hb2 : n.toNatClampNeg ≤ 60000000) (hd : decode M.2.1 pc = .ok (.newarray at_, 2)) (kk : Rj d M (pc + 2) ls (.ref (aN h) :: st) (aNew h (13 + t) n.toNatClampNeg) v h') : Rj d M pc ls (.int n :: st) h v h' := Rj.al (fun E p l e R s m args below meth c H locs cells slots Q rl X w f1 f2 y => by
  obtain ⟨hx, hb, -, -, hown, hts, -, -, hK, -⟩ := X
  obtain ⟨t1, t2, t3⟩ := ht
  have hbytes : n.toNatClampNeg * componentBytes (newarray.typeOf at_) ≤ 536870912 := by
    have : componentBytes (newarray.typeOf at_) ≤ 8 := by cases at_ <;> decide
    calc n.toNatClampNeg * componentBytes (newarray.typeOf at_) ≤ 60000000 * 8 := Nat.mul_le_mul hb2 this
      _ ≤ 536870912 := by decide
  refine va_newaK hx hb (by rw [t1]; exact hts _ t3) (g := F0 m pc rl (.int n :: st.map (tr E))) rfl hd rfl hn rfl hbytes f1 f2 w.1 fun H1 cA e1 z1 o1 hAr hNm => ?_
  have hcA : cA = e_A E t := by
    have h9 := (hK.2 t _ (tysE_at E (by omega))).2
    rw [t1] at hNm
    have h8 : s.vm.findClass ("[" ++ (aty t).toString) = some (e_A E t) := by
      match t, t2, h9 with
      | 0, _, h9 => exact h9
      | 1, _, h9 => exact h9
      | 2, _, h9 => exact h9
      | 3, _, h9 => exact h9
    exact Option.some.inj (hNm.symm.trans h8)
  subst hcA
  refine y H1 (Rep.new w ⟨fun z => absurd z (by show ¬ 13 + t < 13; omega), fun z => ?_⟩ (by rw [z1, w.1]) (fun q hq => o1 q (by rw [← w.1]; exact hq))) (fun q hq => o1 q (by omega))
  rw [e1]
  show some (arrV (e_A E t) _ _) = some (arrV (e_A E (13 + t - 13)) _ _)
  rw [show 13 + t - 13 = t by omega, t1]
  congr 2
  funext j
  rw [cval_fresh, kty_a (by omega), show 13 + t - 13 = t by omega]
  match t, t2 with
  | 0, _ => rfl
  | 1, _ => rfl
  | 2, _ => rfl
  | 3, _ => rfl) kk
theorem Rj.anew {idx t : Nat} {n : Int32} {C : String} (ht : t = 4 ∧ C = "TicketHall$Text" ∨ t = 5 ∧ C = "TicketHall$Hall") (hl : Cond.classLink M.1.cls idx C ∈ gw) (hn : ¬ n < 0) (hb2 : n.toNatClampNeg ≤ 60000000) (hd : decode M.2.1 pc = .ok (.anewarray idx, 3)) (kk : Rj d M (pc + 3) ls (.ref (aN h) :: st) (aNew h (13 + t) n.toNatClampNeg) v h') : Rj d M pc ls (.int n :: st) h v h' := Rj.al (fun E p l e R s m args below meth c H locs cells slots Q rl X w f1 f2 y => by
  obtain ⟨hx, hb, -, -, hown, hts, -, -, hK, -, -, -, ao1, ao2, -⟩ := X
  have hty : aty t = .object C ∧ t < 6 ∧ va_AO C s := by
    rcases ht with ⟨rfl, rfl⟩ | ⟨rfl, rfl⟩
    · exact ⟨rfl, by decide, ao1⟩
    · exact ⟨rfl, by decide, ao2⟩
  obtain ⟨t1, t2, t3⟩ := hty
  have h9 := (hK.2 t _ (tysE_at E t2)).2
  rw [t1] at h9
  obtain ⟨kA0, comp0, r1, r2, r3, r4⟩ := h9
  refine W.anew hx hb hown (hts _ hl) (va_AO.use t3) (g := F0 m pc rl (.int n :: st.map (tr E))) rfl hd rfl hn (by omega) f1 f2 fun cA kA comp g1 g2 g3 g4 => ?_
  have hcA : cA = e_A E t := Option.some.inj (g1.symm.trans r4)
  subst hcA
  have key := y (H.push { cls := e_A E t, slots := Array.replicate n.toNatClampNeg .null, vm := .none }) (Rep.new w ⟨fun z => absurd z (by show ¬ 13 + t < 13; omega), fun z => ?_⟩ (by simp) (fun q hq => by rw [Array.getElem?_push, if_neg (Nat.ne_of_lt hq)])) (fun q hq => by rw [Array.getElem?_push, if_neg (by rw [w.1]; omega)])
  · have e5 : (List.map (tr E) (.ref (aN h) :: st)) = .ref H.size :: st.map (tr E) := by rw [w.1]; rfl
    rw [e5] at key
    exact key
  · rw [← w.1, arrV_new]
    show (H.push (arrV (e_A E t) _ _))[H.size]? = some (arrV (e_A E (13 + t - 13)) _ _)
    rw [show 13 + t - 13 = t by omega]
    simp only [Array.getElem?_push_size]
    congr 2
    funext j
    rw [cval_fresh, kty_a (by omega), show 13 + t - 13 = t by omega, t1]
    rfl) kk
/-- Object's constructor -/
theorem Rj.objI {idx k : Nat} (hl : Cond.methodLink M.1.cls idx objectInit ∈ gw ∧ Cond.instanceMethod objectInit ∈ gw ∧ Cond.code objectInit ⟨#[0xb1]⟩ 1 none ∈ gw) (hst : stOK st) (hd : decode M.2.1 pc = .ok (.invokespecial idx, 3)) (kk : Rj (d + 1) M (pc + 3) ls st h v h') : Rj (d + 1) M pc ls (.ref k :: st) h v h' := by
  refine ⟨kk.1, kk.2.1, kk.2.2.1, fun E p l e R s m args below meth c H locs cells slots mc ms n0 z0 rl hy => ?_⟩
  have K := kk.2.2.2 E p l e R s m args below meth c H locs cells slots mc ms n0 z0 rl hy
  obtain ⟨X, g1, g2, -, -, -, -, -, -, -, -, L⟩ := hy
  obtain ⟨hx, hb, -, hml, hown, hts, -⟩ := X
  have h8 := stOK_tr E hst
  refine W.objInit hx hb hown (hts _ hl.1) (hts _ hl.2.1) (hts _ hl.2.2) (g := F0 m pc rl (.ref (e_b E + k) :: st.map (tr E))) rfl (by rw [hml]; exact L.1) rfl hd (by omega) (by show 2 * 0 + _ + 12 ≤ _; omega) K
end RjN
