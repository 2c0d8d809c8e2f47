/-! THE JUDGEMENT Rj: a method, at a place of its code, over a picture of the heap, comes to its end with an answer and a new picture. A picture: the cells' shapes (kind, slots) in the order in which they were made, and their contents: ints, longs, references (places in the picture). -/
abbrev AH : Type := List (Nat × Nat) × (Nat → Nat → Int32) × (Nat → Nat → Int64) × (Nat → Nat → Option Nat) × (Nat × (Nat → Int32))
abbrev MT : Type := MethodName × ByteArray × Nat × Option FieldType
abbrev EV : Type := Nat × va_G × (Nat → ClassId) × (Nat → Nat) × Nat
def e_b (E : EV) : Nat := E.1
def e_D (E : EV) : va_G := E.2.1
def e_A (E : EV) : Nat → ClassId := E.2.2.1
def e_T (E : EV) : Nat → Nat := E.2.2.2.1
def e_sb (E : EV) : Nat := E.2.2.2.2
def aN (h : AH) : Nat := h.1.length
def aZ (h : AH) : Nat := (h.1.map Prod.snd).sum
def upI (f : Nat → Nat → Int32) (k j : Nat) (x : Int32) : Nat → Nat → Int32 := fun a b => if a = k then (if b = j then x else f a b) else f a b
def upL (f : Nat → Nat → Int64) (k j : Nat) (x : Int64) : Nat → Nat → Int64 := fun a b => if a = k then (if b = j then x else f a b) else f a b
def upR (f : Nat → Nat → Option Nat) (k j : Nat) (x : Option Nat) : Nat → Nat → Option Nat := fun a b => if a = k then (if b = j then x else f a b) else f a b
def gI (h : AH) (k j : Nat) : Int32 := h.2.1 k j
def gL (h : AH) (k j : Nat) : Int64 := h.2.2.1 k j
def gR (h : AH) (k j : Nat) : Option Nat := h.2.2.2.1 k j
/-- the script: its length, its ints -/
def gS (h : AH) : Nat × (Nat → Int32) := h.2.2.2.2
def sI (h : AH) (k j : Nat) (x : Int32) : AH := (h.1, upI h.2.1 k j x, h.2.2.1, h.2.2.2)
def sL (h : AH) (k j : Nat) (x : Int64) : AH := (h.1, h.2.1, upL h.2.2.1 k j x, h.2.2.2)
def sR (h : AH) (k j : Nat) (x : Option Nat) : AH := (h.1, h.2.1, h.2.2.1, upR h.2.2.2.1 k j x, h.2.2.2.2)
/-- a new cell -/
def aNew (h : AH) (kd n : Nat) : AH := (h.1 ++ [(kd, n)], (fun a b => if a = h.1.length then 0 else h.2.1 a b), (fun a b => if a = h.1.length then 0 else h.2.2.1 a b), (fun a b => if a = h.1.length then none else h.2.2.2.1 a b), h.2.2.2.2)
def tyC : Nat → Nat → FieldType := fun kd => match kd with
  | 0 => tyX0 | 1 => tyX1 | 2 => tyX2 | 3 => tyX3 | 4 => tyX4 | 5 => tyX5 | 6 => tyX6 | 7 => tyX7 | 8 => tyX8 | 9 => tyX9 | 10 => tyX10 | 11 => tyX11 | _ => tyX12
def aty : Nat → FieldType := fun t => match t with
  | 0 => .int | 1 => .byte | 2 => .boolean | 3 => .long | 4 => .object "TicketHall$Text" | _ => .object "TicketHall$Hall"
def tagOf : FieldType → Nat := fun t => match t with
  | .long => 1 | .object _ => 2 | .array _ => 2 | _ => 0
def kty (kd j : Nat) : FieldType := if kd < 13 then tyC kd j else aty (kd - 13)
def arf (E : EV) : Option Nat → Value := fun r => match r with
  | none => .null
  | some a => .ref (e_b E + a)
def tr (E : EV) : Value → Value := fun v => match v with
  | .ref a => .ref (e_b E + a)
  | .retAddr k => if k = 99 ∧ e_T E 98 = 0 then .null else .ref (e_T E k)
  | .float _ => .ref (e_sb E)
  | .int x => .int x
  | .long x => .long x
  | .double x => .double x
  | .null => .null
def cval (E : EV) (h : AH) (k kd j : Nat) : Value := match tagOf (kty kd j) with
  | 0 => .int (gI h k j)
  | 1 => .long (gL h k j)
  | _ => arf E (gR h k j)
def cellOK (E : EV) (h : AH) (H : Heap) (k : Nat) (q : Nat × Nat) : Prop :=
  (q.1 < 13 → t_OB (e_b E + k) ((e_D E).1 q.1) q.2 ((e_D E).2 q.1) H (fun j => cval E h k q.1 j)) ∧
  (¬ q.1 < 13 → H[e_b E + k]? = some (arrV (e_A E (q.1 - 13)) q.2 (fun j => cval E h k q.1 j)))
def Rep (E : EV) (h : AH) (H : Heap) : Prop := H.size = e_b E + aN h ∧ ∀ (k : Nat) (q : Nat × Nat), h.1[k]? = some q → cellOK E h H k q
def Wld (E : EV) (h : AH) (s : State) (H : Heap) : Prop := Rep E h H ∧ e_b E ≤ s.heap.size ∧ ∀ q : Nat, q < e_b E → H[q]? = s.heap[q]?
def tysE (E : EV) : List (ClassId × FieldType) := [(e_A E 0, aty 0), (e_A E 1, aty 1), (e_A E 2, aty 2), (e_A E 3, aty 3), (e_A E 4, aty 4), (e_A E 5, aty 5)]
def gw : List Cond := lw_tbl.filter goodWord
def nestW : List Cond := [.methodLinkNest RX2 60 yX4_init RX11, .methodLinkNest RX11 29 yX7_init RX11, .methodLinkNest RX3 13 yX5_init RX11, .methodLinkNest RX11 54 yX1_init RX11, .methodLinkNest RX11 70 yX10_init RX11, .castable "[I" "java/lang/Cloneable"]
/-- the string constants: of k the address is e_T k, of its bytes e_T (100 + k); e_T 99: a static of the JDK (null where e_T 98 is 0) -/
def sTx : List (Nat × String) := [(57, "draw swap drop pass"), (59, "takes costs fits bars"), (139, "minute done latest fit free has patience"), (141, "person business patience ticket number kind speed minute mood"), (72, "by"), (74, "with"), (80, "times"), (84, "if"), (121, "not"), (119, "and"), (111, "or")]
def sLn : List Nat := [19, 21, 40, 61, 2, 4, 5, 2, 3, 3, 2]
def sBy : List (List Int32) := [[100, 114, 97, 119, 32, 115, 119, 97, 112, 32, 100, 114, 111, 112, 32, 112, 97, 115, 115], [116, 97, 107, 101, 115, 32, 99, 111, 115, 116, 115, 32, 102, 105, 116, 115, 32, 98, 97, 114, 115], [109, 105, 110, 117, 116, 101, 32, 100, 111, 110, 101, 32, 108, 97, 116, 101, 115, 116, 32, 102, 105, 116, 32, 102, 114, 101, 101, 32, 104, 97, 115, 32, 112, 97, 116, 105, 101, 110, 99, 101], [112, 101, 114, 115, 111, 110, 32, 98, 117, 115, 105, 110, 101, 115, 115, 32, 112, 97, 116, 105, 101, 110, 99, 101, 32, 116, 105, 99, 107, 101, 116, 32, 110, 117, 109, 98, 101, 114, 32, 107, 105, 110, 100, 32, 115, 112, 101, 101, 100, 32, 109, 105, 110, 117, 116, 101, 32, 109, 111, 111, 100], [98, 121], [119, 105, 116, 104], [116, 105, 109, 101, 115], [105, 102], [110, 111, 116], [97, 110, 100], [111, 114]]
def StrK (E : EV) (s : State) : Prop := (∀ (k : Nat) (q : Nat × String), sTx[k]? = some q → vk_R RX7 q.1 q.2 (e_T E k) s) ∧ vk_S 11 sLn sBy (e_T E) (fun k => e_T E (100 + k)) (fun q => e_b E ≤ q) s s.heap ∧ va_Z "java/lang/String" "COMPACT_STRINGS" "Z" (.int 1) (fun q => e_b E ≤ q) s s.heap ∧ va_Z "jdk/internal/util/Preconditions" "SIOOBE_FORMATTER" "Ljava/util/function/BiFunction;" (tr E (.retAddr 99)) (fun q => e_b E ≤ q) s s.heap
def Kst (E : EV) (S : Nat × (Nat → Int32)) (s : State) : Prop := va_K (e_D E) vwCl (tysE E) s ∧ va_X (e_sb E) S.1 S.2 s s.heap ∧ e_sb E < e_b E ∧ (∀ w ∈ nestW, va_Nw w s) ∧ va_AO "TicketHall$Text" s ∧ va_AO "TicketHall$Hall" s ∧ StrK E s
def Cx (E : EV) (S : Nat × (Nat → Int32)) (M : MT) (p : Program) (s : State) (m : MethodId) (args : Array Value) (meth : Method) (c : Code) : Prop :=
  p.tables.exec = Jvm.exec ∧ c.code = M.2.1 ∧ meth.sig.returnType = M.2.2.2 ∧ c.maxLocals = M.2.2.1 ∧ s.vm.findClass M.1.cls = some m.cls ∧ (∀ w ∈ gw, w.before args s = true) ∧ meth.locks = false ∧ (M.1.name = "<init>" → meth.name = "<init>") ∧ Kst E S s
def Lok (E : EV) (n : Nat) (ls : List (Option Value)) (rl : Array Slot) : Prop := rl.size = n ∧ lv_wf rl ∧ ls.length = n ∧ ∀ (j : Nat) (w : Value), ls[j]? = some (some w) → rl[j]? = some (.val (tr E w))
def Qj (E : EV) (v : Option Value) (h' : AH) : Array Value → State → Outcome → State → Prop := fun _ st o t => o = .returned (v.map (tr E)) ∧ Rep E h' t.heap ∧ ∀ q : Nat, q < e_b E → t.heap[q]? = st.heap[q]?
/-- what holds at a place, but for the machine's own data -/
def Hy (d : Nat) (M : MT) (ls : List (Option Value)) (h h' : AH) (E : EV) (p : Program) (R : Room) (s : State) (m : MethodId) (args : Array Value) (meth : Method) (c : Code) (H : Heap) (locs : List Loc) (cells slots mc ms n0 z0 : Nat) (rl : Array Slot) : Prop :=
  Cx E (gS h) M p s m args meth c ∧ d ≤ R.frames ∧ 40 * d ≤ R.locals ∧ n0 + cells = aN h ∧ z0 + slots = aZ h ∧ n0 + mc = aN h' ∧ z0 + ms = aZ h' ∧ mc ≤ R.cells ∧ ms ≤ R.slots ∧ Wld E h s H ∧ (∀ q ∈ locs, e_b E ≤ q.base) ∧ Lok E M.2.2.1 ls rl
def Rj (d : Nat) (M : MT) (pc : Nat) (ls : List (Option Value)) (st : List Value) (h : AH) (v : Option Value) (h' : AH) : Prop :=
  aN h ≤ aN h' ∧ aZ h ≤ aZ h' ∧ (gS h' = gS h ∧ h.1 <+: h'.1) ∧ ∀ (E : EV) (p : Program) (l : Launch) (e : Env) (R : Room) (s : State) (m : MethodId) (args : Array Value) (below : List Frame) (meth : Method) (c : Code) (H : Heap) (locs : List Loc) (cells slots mc ms n0 z0 : Nat) (rl : Array Slot),
    Hy d M ls h h' E p R s m args meth c H locs cells slots mc ms n0 z0 rl →
    W p l e R s m args below meth c H locs cells slots (MQ below (Qj E v h') args s mc ms (fun q => e_b E ≤ q)) (F0 m pc rl (st.map (tr E)))
/-- an instruction that leaves heap and locals as they are -/
theorem Rj.pure {d : Nat} {M : MT} {pc pc' : Nat} {ls : List (Option Value)} {st st' : List Value} {h : AH} {v : Option Value} {h' : AH}
    (hs : ∀ (E : EV) (p : Program) (l : Launch) (e : Env) (R : Room) (s : State) (m : MethodId) (args : Array Value) (below : List Frame) (meth : Method) (c : Code) (H : Heap) (locs : List Loc) (cells slots : Nat) (Q : State → Prop) (rl : Array Slot), Cx E (gS h) M p s m args meth c → Wld E h s H → Lok E M.2.2.1 ls rl →
      W p l e R s m args below meth c H locs cells slots Q (F0 m pc' rl (st'.map (tr E))) → W p l e R s m args below meth c H locs cells slots Q (F0 m pc rl (st.map (tr E))))
    (k : Rj d M pc' ls st' h v h') : Rj d M pc ls st h v h' :=
  ⟨k.1, k.2.1, k.2.2.1, fun E p l e R s m args below meth c H locs cells slots mc ms n0 z0 rl hy => hs E p l e R s m args below meth c H locs cells slots _ rl hy.1 hy.2.2.2.2.2.2.2.2.2.1 hy.2.2.2.2.2.2.2.2.2.2.2 (k.2.2.2 E p l e R s m args below meth c H locs cells slots mc ms n0 z0 rl hy)⟩
/-- a branch -/
theorem Rj.br {d : Nat} {M : MT} {pc p1 p2 : Nat} {ls : List (Option Value)} {st s1 s2 : List Value} {h : AH} {v : Option Value} {h' : AH} {C : Prop} (hc : C ∨ ¬ C)
    (hs : ∀ (E : EV) (p : Program) (l : Launch) (e : Env) (R : Room) (s : State) (m : MethodId) (args : Array Value) (below : List Frame) (meth : Method) (c : Code) (H : Heap) (locs : List Loc) (cells slots : Nat) (Q : State → Prop) (rl : Array Slot), Cx E (gS h) M p s m args meth c →
      (C → W p l e R s m args below meth c H locs cells slots Q (F0 m p1 rl (s1.map (tr E)))) → (¬ C → W p l e R s m args below meth c H locs cells slots Q (F0 m p2 rl (s2.map (tr E)))) → W p l e R s m args below meth c H locs cells slots Q (F0 m pc rl (st.map (tr E))))
    (k1 : C → Rj d M p1 ls s1 h v h') (k2 : ¬ C → Rj d M p2 ls s2 h v h') : Rj d M pc ls st h v h' := by
  have hm : aN h ≤ aN h' ∧ aZ h ≤ aZ h' ∧ (gS h' = gS h ∧ h.1 <+: h'.1) := by
    rcases hc with q | q
    · exact ⟨(k1 q).1, (k1 q).2.1, (k1 q).2.2.1⟩
    · exact ⟨(k2 q).1, (k2 q).2.1, (k2 q).2.2.1⟩
  exact ⟨hm.1, hm.2.1, hm.2.2, fun E p l e R s m args below meth c H locs cells slots mc ms n0 z0 rl hy => hs E p l e R s m args below meth c H locs cells slots _ rl hy.1 (fun q => (k1 q).2.2.2 E p l e R s m args below meth c H locs cells slots mc ms n0 z0 rl hy) (fun q => (k2 q).2.2.2 E p l e R s m args below meth c H locs cells slots mc ms n0 z0 rl hy)⟩
section RjA
variable {d : Nat} {M : MT} {pc : Nat} {ls : List (Option Value)} {st : List Value} {h : AH} {v : Option Value} {h' : AH}
theorem Rj.iconst {n : Int} (hd : decode M.2.1 pc = .ok (.iconst n, 1)) (k : Rj d M (pc + 1) ls (.int (Int32.ofInt n) :: st) h v h') : Rj d M pc ls st h v h' := Rj.pure (fun E p l e R s m args below meth c H locs cells slots Q rl X _ _ w => lv_iconst X.1 X.2.1 hd rfl w) k
theorem Rj.bipush {n : Int} (hd : decode M.2.1 pc = .ok (.bipush n, 2)) (k : Rj d M (pc + 2) ls (.int (Int8.ofInt n).toInt32 :: st) h v h') : Rj d M pc ls st h v h' := Rj.pure (fun E p l e R s m args below meth c H locs cells slots Q rl X _ _ w => lv_bipush X.1 X.2.1 hd rfl w) k
theorem Rj.iadd {x y : Int32} (hd : decode M.2.1 pc = .ok (.iadd, 1)) (k : Rj d M (pc + 1) ls (.int (x + y) :: st) h v h') : Rj d M pc ls (.int y :: .int x :: st) h v h' := Rj.pure (fun E p l e R s m args below meth c H locs cells slots Q rl X _ _ w => lv_iadd X.1 X.2.1 hd w) k
theorem Rj.iload {i : Nat} {x : Int32} (hd : decode M.2.1 pc = .ok (.iload i, 2)) (hl : ls[i]? = some (some (.int x))) (k : Rj d M (pc + 2) ls (.int x :: st) h v h') : Rj d M pc ls st h v h' := Rj.pure (fun E p l e R s m args below meth c H locs cells slots Q rl X _ L w => lv_iload X.1 X.2.1 hd (L.2.2.2 _ _ hl) w) k
theorem Rj.iload_n {n : Fin 4} {x : Int32} (hd : decode M.2.1 pc = .ok (.iload_n n, 1)) (hl : ls[n.val]? = some (some (.int x))) (k : Rj d M (pc + 1) ls (.int x :: st) h v h') : Rj d M pc ls st h v h' := Rj.pure (fun E p l e R s m args below meth c H locs cells slots Q rl X _ L w => lv_iload_n X.1 X.2.1 hd rfl (L.2.2.2 _ _ hl) w) k
theorem Rj.aload_n {n : Fin 4} {x : Nat} (hd : decode M.2.1 pc = .ok (.aload_n n, 1)) (hl : ls[n.val]? = some (some (.ref x))) (k : Rj d M (pc + 1) ls (.ref x :: st) h v h') : Rj d M pc ls st h v h' := Rj.pure (fun E p l e R s m args below meth c H locs cells slots Q rl X _ L w => lv_aload_n X.1 X.2.1 hd rfl (L.2.2.2 _ _ hl) w) k
theorem Rj.icmp_lt {x y : Int32} {off : Int} {tgt : Nat} (hd : decode M.2.1 pc = .ok (.if_icmp .lt off, 3)) (ht : (pc : Int) + off = (tgt : Int)) (k1 : x < y → Rj d M tgt ls st h v h') (k2 : ¬ x < y → Rj d M (pc + 3) ls st h v h') : Rj d M pc ls (.int y :: .int x :: st) h v h' := Rj.br (Classical.em _) (fun E p l e R s m args below meth c H locs cells slots Q rl X w1 w2 => lv_icmp_lt X.1 X.2.1 hd ht w1 w2) k1 k2
theorem Rj.goto {off : Int} {tgt : Nat} (hd : decode M.2.1 pc = .ok (.goto off, 3)) (ht : (pc : Int) + off = (tgt : Int)) (k : Rj d M tgt ls st h v h') : Rj d M pc ls st h v h' := Rj.pure (fun E p l e R s m args below meth c H locs cells slots Q rl X _ _ w => lv_goto X.1 X.2.1 hd ht w) k
theorem Rj.ireturn {x : Int32} (hr : M.2.2.2 = some .int) (hd : decode M.2.1 pc = .ok (.ireturn, 1)) : Rj d M pc ls [.int x] h (some (.int x)) h := by
  refine ⟨Nat.le_refl _, Nat.le_refl _, ⟨rfl, List.prefix_rfl⟩, fun E p l e R s m args below meth c H locs cells slots mc ms n0 z0 rl hy => ?_⟩
  obtain ⟨X, -, -, h1, h2, h3, h4, -, -, w, hq, -⟩ := hy
  have e1 : mc = cells := by omega
  have e2 : ms = slots := by omega
  subst e1; subst e2
  have hlk := X.2.2.2.2.2.2.1
  exact W.iret X.1 X.2.1 (X.2.2.1.trans hr) (fun t ht hW => ⟨rfl, by rw [ht]; exact w.1, fun q hq => by rw [ht]; exact w.2.2 q hq⟩) hq hd
end RjA
