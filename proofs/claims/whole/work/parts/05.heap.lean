def clN : Nat → Nat := fun ci => match ci with
  | 0 => 2 | 1 => 5 | 2 => 20 | 3 => 5 | 4 => 2 | 5 => 1 | 6 => 13 | 7 => 10 | 8 => 5 | 9 => 5 | 10 => 5 | 11 => 17 | 12 => 60 | _ => 0
def clOK (ci : Nat) (C : String) (T : u_T) (N : Nat) : Prop := vwCl[ci]? = some (C, T, N) ∧ ci < 13 ∧ N = clN ci ∧ (∀ w ∈ u_ws C T N, w ∈ gw) ∧ (∀ k, k < N → parseFieldDescriptor (T k).2.2.1 = some (tyC ci k)) ∧ (∀ a, a < N → ∀ b, b < N → a ≠ b → (T a).2.1 ≠ (T b).2.1)
/-- a field link of a class: which field it is -/
def fOK (own : String) (idx ci j : Nat) (fin : Bool) : Prop := ∃ (C : String) (T : u_T) (N : Nat), clOK ci C T N ∧ j < N ∧ Cond.fieldLink own idx (T j).1 (T j).2.1 (T j).2.2.1 ∈ gw ∧ (T j).2.2.2 = fin ∧ (fin = true → (T j).1 = own)
def fOKr (own : String) (idx ci j : Nat) : Prop := ∃ (C : String) (T : u_T) (N : Nat), clOK ci C T N ∧ j < N ∧ Cond.fieldLink own idx (T j).1 (T j).2.1 (T j).2.2.1 ∈ gw
def cvR (r : Option Nat) : Value := match r with
  | none => .null
  | some a => .ref a
def cvA (h : AH) (k kd j : Nat) : Value := match tagOf (kty kd j) with
  | 0 => .int (gI h k j)
  | 1 => .long (gL h k j)
  | _ => cvR (gR h k j)
theorem tag3 (t : FieldType) : tagOf t = 0 ∨ tagOf t = 1 ∨ tagOf t = 2 := by cases t <;> simp [tagOf]
theorem tr_cvA (E : EV) (h : AH) (k kd j : Nat) : tr E (cvA h k kd j) = cval E h k kd j := by
  unfold cvA cval
  rcases tag3 (kty kd j) with q | q | q
  · rw [q]; rfl
  · rw [q]; rfl
  · rw [q]; cases gR h k j <;> rfl
theorem kty_c {ci j : Nat} (h : ci < 13) : kty ci j = tyC ci j := by simp [kty, h]
theorem Rep.wr {E : EV} {h h2 : AH} {H H1 : Heap} {k : Nat} {q : Nat × Nat} (w : Rep E h H) (hk : h.1[k]? = some q) (e1 : h2.1 = h.1) (ho : ∀ a, a ≠ k → ∀ kd j, cval E h2 a kd j = cval E h a kd j) (hc : cellOK E h2 H1 k q) (z : H1.size = H.size) (oq : ∀ x, x ≠ e_b E + k → H1[x]? = H[x]?) : Rep E h2 H1 := by
  refine ⟨by rw [z, w.1]; unfold aN; rw [e1], fun a qa ha => ?_⟩
  rw [e1] at ha
  by_cases hak : a = k
  · subst hak
    cases hk.symm.trans ha
    exact hc
  · have h0 := w.2 a qa ha
    have hq := oq (e_b E + a) (by omega)
    refine ⟨fun hlt => ?_, fun hlt => ?_⟩
    · exact ((h0.1 hlt).kept hq).to (fun j _ => (ho a hak qa.1 j).symm)
    · rw [hq, h0.2 hlt, show (fun j => cval E h2 a qa.1 j) = fun j => cval E h a qa.1 j from funext fun j => ho a hak qa.1 j]
theorem cval_sI (E : EV) (h : AH) (k j : Nat) (x : Int32) (a kd j' : Nat) : cval E (sI h k j x) a kd j' = if a = k ∧ j' = j ∧ tagOf (kty kd j') = 0 then .int x else cval E h a kd j' := by
  unfold cval
  rcases tag3 (kty kd j') with q | q | q
  · by_cases h1 : a = k
    · by_cases h2 : j' = j
      · rw [if_pos ⟨h1, h2, q⟩, q]; simp [sI, gI, upI, h1, h2]
      · rw [if_neg (fun z => h2 z.2.1), q]; simp [sI, gI, upI, h2]
    · rw [if_neg (fun z => h1 z.1), q]; simp [sI, gI, upI, h1]
  · rw [if_neg (fun z => by rw [q] at z; exact absurd z.2.2 (by decide)), q]; rfl
  · rw [if_neg (fun z => by rw [q] at z; exact absurd z.2.2 (by decide)), q]; rfl
theorem cval_sL (E : EV) (h : AH) (k j : Nat) (x : Int64) (a kd j' : Nat) : cval E (sL h k j x) a kd j' = if a = k ∧ j' = j ∧ tagOf (kty kd j') = 1 then .long x else cval E h a kd j' := by
  unfold cval
  rcases tag3 (kty kd j') with q | q | q
  · rw [if_neg (fun z => by rw [q] at z; exact absurd z.2.2 (by decide)), q]; rfl
  · by_cases h1 : a = k
    · by_cases h2 : j' = j
      · rw [if_pos ⟨h1, h2, q⟩, q]; simp [sL, gL, upL, h1, h2]
      · rw [if_neg (fun z => h2 z.2.1), q]; simp [sL, gL, upL, h2]
    · rw [if_neg (fun z => h1 z.1), q]; simp [sL, gL, upL, h1]
  · rw [if_neg (fun z => by rw [q] at z; exact absurd z.2.2 (by decide)), q]; rfl
theorem cval_sR (E : EV) (h : AH) (k j : Nat) (x : Option Nat) (a kd j' : Nat) : cval E (sR h k j x) a kd j' = if a = k ∧ j' = j ∧ tagOf (kty kd j') = 2 then arf E x else cval E h a kd j' := by
  unfold cval
  rcases tag3 (kty kd j') with q | q | q
  · rw [if_neg (fun z => by rw [q] at z; exact absurd z.2.2 (by decide)), q]; rfl
  · rw [if_neg (fun z => by rw [q] at z; exact absurd z.2.2 (by decide)), q]; rfl
  · by_cases h1 : a = k
    · by_cases h2 : j' = j
      · rw [if_pos ⟨h1, h2, q⟩, q]; simp [sR, gR, upR, h1, h2]
      · rw [if_neg (fun z => h2 z.2.1), q]; simp [sR, gR, upR, h2]
    · rw [if_neg (fun z => h1 z.1), q]; simp [sR, gR, upR, h1]
/-- an instruction that writes one cell -/
theorem Rj.wr {d : Nat} {M : MT} {pc pc' : Nat} {ls : List (Option Value)} {st st' : List Value} {h h2 : AH} {v : Option Value} {h' : AH} (e1 : h2.1 = h.1) (e2 : gS h2 = gS h)
    (hs : ∀ (E : EV) (p : Program) (l : Launch) (e : Env) (R : Room) (s : State) (m : MethodId) (args : Array Value) (below : List Frame) (meth : Method) (c : Code) (H : Heap) (locs : List Loc) (cells slots : Nat) (Q : State → Prop) (rl : Array Slot), Cx E (gS h) M p s m args meth c → Rep E h H → Lok E M.2.2.1 ls rl →
      (∀ (H1 : Heap) (lo : Loc), Rep E h2 H1 → (∀ q, q < e_b E → H1[q]? = H[q]?) → e_b E ≤ lo.base → W p l e R s m args below meth c H1 (locs ++ [lo]) cells slots Q (F0 m pc' rl (st'.map (tr E)))) → W p l e R s m args below meth c H locs cells slots Q (F0 m pc rl (st.map (tr E))))
    (k : Rj d M pc' ls st' h2 v h') : Rj d M pc ls st h v h' := by
  have n1 : aN h2 = aN h := by unfold aN; rw [e1]
  have n2 : aZ h2 = aZ h := by unfold aZ; rw [e1]
  refine ⟨by rw [← n1]; exact k.1, by rw [← n2]; exact k.2.1, ⟨k.2.2.1.1.trans e2, by rw [← e1]; exact k.2.2.1.2⟩, fun E p l e R s m args below meth c H locs cells slots mc ms n0 z0 rl hy => ?_⟩
  obtain ⟨X, h1, h2', h3, h4, h5, h6, h7, h8, w, hq, L⟩ := hy
  refine hs E p l e R s m args below meth c H locs cells slots _ rl X w.1 L (fun H1 lo r1 r2 r3 => k.2.2.2 E p l e R s m args below meth c H1 (locs ++ [lo]) cells slots mc ms n0 z0 rl ⟨by rw [e2]; exact X, h1, h2', by rw [n1]; exact h3, by rw [n2]; exact h4, h5, h6, h7, h8, ⟨r1, w.2.1, fun q hq' => (r2 q hq').trans (w.2.2 q hq')⟩, fun q hq' => ?_, L⟩)
  rcases List.mem_append.mp hq' with z | z
  · exact hq q z
  · rw [List.mem_singleton.mp z]; exact r3
section RjH
variable {d : Nat} {M : MT} {pc : Nat} {ls : List (Option Value)} {st : List Value} {h : AH} {v : Option Value} {h' : AH}
theorem Rj.getf {idx ci j k : Nat} (hf : fOKr M.1.cls idx ci j) (hs : h.1[k]? = some (ci, clN ci)) (hd : decode M.2.1 pc = .ok (.getfield idx, 3)) (kk : Rj d M (pc + 3) ls (cvA h k ci j :: st) h v h') : Rj d M pc ls (.ref k :: st) h v h' := Rj.pure (fun E p l e R s m args below meth c H locs cells slots Q rl X w L y => by
  obtain ⟨C, T, N, ⟨c1, c2, c3, c4, c5, c6⟩, hj, hl⟩ := hf
  obtain ⟨hx, hb, -, -, hown, hts, -, -, hK, -⟩ := X
  obtain ⟨cell, q1, q2, q3, q4⟩ := (w.1.2 k _ hs).1 c2
  obtain ⟨hS, hfc, kC, hkC, hkind⟩ := hK.1 ci _ c1
  obtain ⟨cf, kf, fi, f, hi, hsl⟩ := hS j hj
  rw [List.map_cons, tr_cvA] at y
  refine W.getf hx hb hown (hts _ hl) hi (u_facts hfc hkC (u_lays hts c4 hj) hi).1 q1 (by rw [q3]; exact fun h => by cases h) (v := cval E h k ci j) ?_ rfl rfl hd y
  rw [hsl]
  exact q4 j (by rw [← c3]; exact hj)) kk
theorem Rj.getI {idx ci j k : Nat} (hf : fOKr M.1.cls idx ci j) (ht : tagOf (kty ci j) = 0) (hs : h.1[k]? = some (ci, clN ci)) (hd : decode M.2.1 pc = .ok (.getfield idx, 3)) (kk : Rj d M (pc + 3) ls (.int (gI h k j) :: st) h v h') : Rj d M pc ls (.ref k :: st) h v h' := Rj.getf hf hs hd (by unfold cvA; rw [ht]; exact kk)
theorem Rj.getL {idx ci j k : Nat} (hf : fOKr M.1.cls idx ci j) (ht : tagOf (kty ci j) = 1) (hs : h.1[k]? = some (ci, clN ci)) (hd : decode M.2.1 pc = .ok (.getfield idx, 3)) (kk : Rj d M (pc + 3) ls (.long (gL h k j) :: st) h v h') : Rj d M pc ls (.ref k :: st) h v h' := Rj.getf hf hs hd (by unfold cvA; rw [ht]; exact kk)
theorem Rj.getR {idx ci j k a : Nat} (hf : fOKr M.1.cls idx ci j) (ht : tagOf (kty ci j) = 2) (hs : h.1[k]? = some (ci, clN ci)) (hr : gR h k j = some a) (hd : decode M.2.1 pc = .ok (.getfield idx, 3)) (kk : Rj d M (pc + 3) ls (.ref a :: st) h v h') : Rj d M pc ls (.ref k :: st) h v h' := Rj.getf hf hs hd (by unfold cvA; rw [ht, hr]; exact kk)
theorem Rj.getRN {idx ci j k : Nat} (hf : fOKr M.1.cls idx ci j) (ht : tagOf (kty ci j) = 2) (hs : h.1[k]? = some (ci, clN ci)) (hr : gR h k j = none) (hd : decode M.2.1 pc = .ok (.getfield idx, 3)) (kk : Rj d M (pc + 3) ls (.null :: st) h v h') : Rj d M pc ls (.ref k :: st) h v h' := Rj.getf hf hs hd (by unfold cvA; rw [ht, hr]; exact kk)
/-- a field written: h2 is h with the new value there -/
theorem Rj.putf {idx ci j k : Nat} {fin : Bool} {x : Value} {h2 : AH} (hf : fOK M.1.cls idx ci j fin) (hfin : fin = true → M.1.name = "<init>") (hs : h.1[k]? = some (ci, clN ci)) (e1 : h2.1 = h.1) (e2 : gS h2 = gS h)
    (hn : ∀ E, narrow (tyC ci j) (tr E x) = tr E x ∧ fits (tyC ci j) (tr E x) = true) (hv : ∀ E a kd j', cval E h2 a kd j' = if a = k ∧ j' = j ∧ tagOf (kty kd j') = tagOf (tyC ci j) then tr E x else cval E h a kd j')
    (hd : decode M.2.1 pc = .ok (.putfield idx, 3)) (kk : Rj d M (pc + 3) ls st h2 v h') : Rj d M pc ls (x :: .ref k :: st) h v h' := Rj.wr e1 e2 (fun E p l e R s m args below meth c H locs cells slots Q rl X w L y => by
  obtain ⟨C, T, N, ⟨c1, c2, c3, c4, c5, c6⟩, hj, hl, hfi, hown2⟩ := hf
  obtain ⟨hx, hb, -, -, hown, hts, -, hnm, hK, -⟩ := X
  have hap := va_apart (own := C) hts c4 (tyC ci) c5 c6 hK c1
  obtain ⟨cell, q1, q2, q3, q4⟩ := (w.2 k _ hs).1 c2
  obtain ⟨hS, hfc, kC, hkC, hkind⟩ := hK.1 ci _ c1
  obtain ⟨cf, kf, fi, f, hi, hsl⟩ := hS j hj
  have hst := (u_facts hfc hkC (u_lays hts c4 hj) hi).1
  have q4' : ∀ j', j' < N → cell.slots[(e_D E).2 ci j']? = some (cval E h k ci j') := fun j' hj' => q4 j' (by rw [← c3]; exact hj')
  have fin1 : ∀ H' : Heap, H'[e_b E + k]? = some (cell.setSlot f.slot (tr E x)) → H'.size = H.size → (∀ q, q ≠ e_b E + k → H'[q]? = H[q]?) → W p l e R s m args below meth c H' (locs ++ [⟨e_b E + k, f.slot⟩]) cells slots Q (F0 m (pc + 3) rl (st.map (tr E))) := by
    intro H' g1 g2 g3
    refine y H' ⟨e_b E + k, f.slot⟩ (Rep.wr w hs e1 (fun a ha kd j' => by rw [hv, if_neg (fun z => ha z.1)]) ⟨fun _ => ?_, fun z => absurd c2 z⟩ g2 g3) (fun q hq => g3 q (by omega)) (Nat.le_add_right _ _)
    rw [hsl] at g1
    refine t_OB.to (V := updV (fun j' => cval E h k ci j') j (tr E x)) ⟨_, g1, q2, q3, ?_⟩ (fun j' _ => ?_)
    · intro j' hj'
      exact t_set q4' hap hj (tr E x) j' (by rw [c3]; exact hj')
    · rw [hv]
      by_cases h5 : j' = j
      · subst h5
        simp [updV, kty_c c2]
      · simp [updV, h5]
  cases fin with
  | false =>
    have hlay := hts _ (c4 _ (u_in_lay hj))
    unfold u_lay at hlay
    rw [if_neg (by rw [hfi]; decide)] at hlay
    have h6 := u_store hfc hkC hkind hlay hi (c5 j hj) (hn E).1 (hn E).2
    exact W.putK hx hb (f := f) ⟨hown, hts _ hl, ⟨_, _, _, hi⟩, hst⟩ (by rw [q2]; exact h6) q1 q3 (by rw [hsl]; exact k2_hasslot (q4' j hj)) rfl rfl hd fin1
  | true =>
    have hlay := hts _ (c4 _ (u_in_lay hj))
    unfold u_lay at hlay
    rw [if_pos hfi] at hlay
    have hcf : m.cls = cf := by
      obtain ⟨_, _, c', _, _, _, -, -, hf', -, -, -, hown3, -⟩ := Cond.laysFinal_spec hlay
      have e1 : c' = cf := by have := hi.symm.trans hf'; simp at this; exact this.1.symm
      rw [hown2 rfl] at hown3
      rw [← e1]; exact Option.some.inj (hown.symm.trans hown3)
    have h6 := u_fits hfc hkC hkind (Or.inr hlay) hi (c5 j hj) (hn E).1 (hn E).2
    exact W.putFinK hx hb hown (hts _ hl) hi hst hcf (hnm (hfin rfl)) (by rw [q2]; exact h6) q1 q3 (by rw [hsl]; exact k2_hasslot (q4' j hj)) rfl rfl hd fin1) kk
theorem Rj.putI {idx ci j k : Nat} {x : Int32} (hf : fOK M.1.cls idx ci j false) (ht : tyC ci j = .int) (hs : h.1[k]? = some (ci, clN ci)) (hd : decode M.2.1 pc = .ok (.putfield idx, 3)) (kk : Rj d M (pc + 3) ls st (sI h k j x) v h') : Rj d M pc ls (.int x :: .ref k :: st) h v h' :=
  Rj.putf (h2 := sI h k j x) hf (fun z => by cases z) hs rfl rfl (fun E => by rw [ht]; exact ⟨rfl, rfl⟩) (fun E a kd j' => by rw [ht, cval_sI]; rfl) hd kk
theorem Rj.putZ {idx ci j k : Nat} {x : Int32} (hf : fOK M.1.cls idx ci j false) (ht : tyC ci j = .boolean) (hx : x = 0 ∨ x = 1) (hs : h.1[k]? = some (ci, clN ci)) (hd : decode M.2.1 pc = .ok (.putfield idx, 3)) (kk : Rj d M (pc + 3) ls st (sI h k j x) v h') : Rj d M pc ls (.int x :: .ref k :: st) h v h' :=
  Rj.putf (h2 := sI h k j x) hf (fun z => by cases z) hs rfl rfl (fun E => by rw [ht]; rcases hx with rfl | rfl <;> exact ⟨rfl, rfl⟩) (fun E a kd j' => by rw [ht, cval_sI]; rfl) hd kk
theorem Rj.putL {idx ci j k : Nat} {x : Int64} (hf : fOK M.1.cls idx ci j false) (ht : tyC ci j = .long) (hs : h.1[k]? = some (ci, clN ci)) (hd : decode M.2.1 pc = .ok (.putfield idx, 3)) (kk : Rj d M (pc + 3) ls st (sL h k j x) v h') : Rj d M pc ls (.long x :: .ref k :: st) h v h' :=
  Rj.putf (h2 := sL h k j x) hf (fun z => by cases z) hs rfl rfl (fun E => by rw [ht]; exact ⟨rfl, rfl⟩) (fun E a kd j' => by rw [ht, cval_sL]; rfl) hd kk
theorem Rj.putR {idx ci j k a : Nat} {fin : Bool} (hf : fOK M.1.cls idx ci j fin) (hfin : fin = true → M.1.name = "<init>") (ht : (∃ n, tyC ci j = .object n) ∨ ∃ t, tyC ci j = .array t) (hs : h.1[k]? = some (ci, clN ci)) (hd : decode M.2.1 pc = .ok (.putfield idx, 3)) (kk : Rj d M (pc + 3) ls st (sR h k j (some a)) v h') : Rj d M pc ls (.ref a :: .ref k :: st) h v h' :=
  Rj.putf (h2 := sR h k j (some a)) hf hfin hs rfl rfl (fun E => by rcases ht with ⟨n, ht⟩ | ⟨t, ht⟩ <;> rw [ht] <;> exact ⟨rfl, rfl⟩) (fun E a' kd j' => by rcases ht with ⟨n, ht⟩ | ⟨t, ht⟩ <;> rw [ht, cval_sR] <;> rfl) hd kk
theorem Rj.putRN {idx ci j k : Nat} {fin : Bool} (hf : fOK M.1.cls idx ci j fin) (hfin : fin = true → M.1.name = "<init>") (ht : (∃ n, tyC ci j = .object n) ∨ ∃ t, tyC ci j = .array t) (hs : h.1[k]? = some (ci, clN ci)) (hd : decode M.2.1 pc = .ok (.putfield idx, 3)) (kk : Rj d M (pc + 3) ls st (sR h k j none) v h') : Rj d M pc ls (.null :: .ref k :: st) h v h' :=
  Rj.putf (h2 := sR h k j none) hf hfin hs rfl rfl (fun E => by rcases ht with ⟨n, ht⟩ | ⟨t, ht⟩ <;> rw [ht] <;> exact ⟨rfl, rfl⟩) (fun E a' kd j' => by rcases ht with ⟨n, ht⟩ | ⟨t, ht⟩ <;> rw [ht, cval_sR] <;> rfl) hd kk
end RjH
