/-- from this place the method ends, with P of answer and heap -/
def Rp (d : Nat) (M : MT) (pc : Nat) (ls : List (Option Value)) (st : List Value) (h : AH) (P : Option Value → AH → Prop) : Prop := ∃ (v : Option Value) (h' : AH), Rj d M pc ls st h v h' ∧ P v h'
theorem Rj.deeper {d d' : Nat} {M : MT} {pc : Nat} {ls : List (Option Value)} {st : List Value} {h : AH} {v : Option Value} {h' : AH} (hd : d ≤ d') (r : Rj d M pc ls st h v h') : Rj d' M pc ls st h v h' :=
  ⟨r.1, r.2.1, r.2.2.1, fun E p l e R s m args below meth c H locs cells slots mc ms n0 z0 rl hy => r.2.2.2 E p l e R s m args below meth c H locs cells slots mc ms n0 z0 rl ⟨hy.1, Nat.le_trans hd hy.2.1, Nat.le_trans (Nat.mul_le_mul_left 40 hd) hy.2.2.1, hy.2.2.2⟩⟩
section RpA
variable {d : Nat} {M Mc : MT} {pc : Nat} {ls : List (Option Value)} {st : List Value} {h : AH} {P : Option Value → AH → Prop}
theorem Rp.mono {Q : Option Value → AH → Prop} (hq : ∀ v h', P v h' → Q v h') (r : Rp d M pc ls st h P) : Rp d M pc ls st h Q := by
  obtain ⟨v, h', r, p⟩ := r
  exact ⟨v, h', r, hq v h' p⟩
theorem Rp.deeper {d' : Nat} (hd : d ≤ d') (r : Rp d M pc ls st h P) : Rp d' M pc ls st h P := by
  obtain ⟨v, h', r, p⟩ := r
  exact ⟨v, h', r.deeper hd, p⟩
theorem Rp.iconst {n : Int} (x : Int32) (hd : decode M.2.1 pc = .ok (.iconst n, 1)) (hx : Int32.ofInt n = x) (kk : Rp d M (pc + 1) ls (.int x :: st) h P) : Rp d M pc ls st h P := by
  obtain ⟨v, h', r, p⟩ := kk
  exact ⟨v, h', Rj.iconst hd (by rw [hx]; exact r), p⟩
theorem Rp.bipush {n : Int} (x : Int32) (hd : decode M.2.1 pc = .ok (.bipush n, 2)) (hx : (Int8.ofInt n).toInt32 = x) (kk : Rp d M (pc + 2) ls (.int x :: st) h P) : Rp d M pc ls st h P := by
  obtain ⟨v, h', r, p⟩ := kk
  exact ⟨v, h', Rj.bipush hd (by rw [hx]; exact r), p⟩
theorem Rp.sipush {n : Int} (x : Int32) (hd : decode M.2.1 pc = .ok (.sipush n, 3)) (hx : (Int16.ofInt n).toInt32 = x) (kk : Rp d M (pc + 3) ls (.int x :: st) h P) : Rp d M pc ls st h P := by
  obtain ⟨v, h', r, p⟩ := kk
  exact ⟨v, h', Rj.sipush hd (by rw [hx]; exact r), p⟩
theorem Rp.lconst {n : Fin 2} (x : Int64) (hd : decode M.2.1 pc = .ok (.lconst n, 1)) (hx : Int64.ofNat (n : Nat) = x) (kk : Rp d M (pc + 1) ls (.long x :: st) h P) : Rp d M pc ls st h P := by
  obtain ⟨v, h', r, p⟩ := kk
  exact ⟨v, h', Rj.lconst hd (by rw [hx]; exact r), p⟩
theorem Rp.iload {i : Nat} {x : Int32} (hd : decode M.2.1 pc = .ok (.iload i, 2)) (hl : ls[i]? = some (some (.int x))) (kk : Rp d M (pc + 2) ls (.int x :: st) h P) : Rp d M pc ls st h P := by
  obtain ⟨v, h', r, p⟩ := kk
  exact ⟨v, h', Rj.iload hd hl r, p⟩
theorem Rp.iload_n {n : Fin 4} {x : Int32} (hd : decode M.2.1 pc = .ok (.iload_n n, 1)) (hl : ls[n.val]? = some (some (.int x))) (kk : Rp d M (pc + 1) ls (.int x :: st) h P) : Rp d M pc ls st h P := by
  obtain ⟨v, h', r, p⟩ := kk
  exact ⟨v, h', Rj.iload_n hd hl r, p⟩
theorem Rp.lload {i : Nat} {x : Int64} (hd : decode M.2.1 pc = .ok (.lload i, 2)) (hl : ls[i]? = some (some (.long x))) (kk : Rp d M (pc + 2) ls (.long x :: st) h P) : Rp d M pc ls st h P := by
  obtain ⟨v, h', r, p⟩ := kk
  exact ⟨v, h', Rj.lload hd hl r, p⟩
theorem Rp.lload_n {n : Fin 4} {x : Int64} (hd : decode M.2.1 pc = .ok (.lload_n n, 1)) (hl : ls[n.val]? = some (some (.long x))) (kk : Rp d M (pc + 1) ls (.long x :: st) h P) : Rp d M pc ls st h P := by
  obtain ⟨v, h', r, p⟩ := kk
  exact ⟨v, h', Rj.lload_n hd hl r, p⟩
theorem Rp.aload {i : Nat} {w : Value} (hd : decode M.2.1 pc = .ok (.aload i, 2)) (hl : ls[i]? = some (some w)) (hw : isR w = true) (kk : Rp d M (pc + 2) ls (w :: st) h P) : Rp d M pc ls st h P := by
  obtain ⟨v, h', r, p⟩ := kk
  exact ⟨v, h', Rj.aload' hd hl hw r, p⟩
theorem Rp.aload_n {n : Fin 4} {w : Value} (hd : decode M.2.1 pc = .ok (.aload_n n, 1)) (hl : ls[n.val]? = some (some w)) (hw : isR w = true) (kk : Rp d M (pc + 1) ls (w :: st) h P) : Rp d M pc ls st h P := by
  obtain ⟨v, h', r, p⟩ := kk
  exact ⟨v, h', Rj.aload_n' hd hl hw r, p⟩
theorem Rp.aconst_null (hd : decode M.2.1 pc = .ok (.aconst_null, 1)) (kk : Rp d M (pc + 1) ls (.null :: st) h P) : Rp d M pc ls st h P := by
  obtain ⟨v, h', r, p⟩ := kk
  exact ⟨v, h', Rj.aconst_null hd r, p⟩
theorem Rp.iadd {x y : Int32} (hd : decode M.2.1 pc = .ok (.iadd, 1)) (kk : Rp d M (pc + 1) ls (.int (x + y) :: st) h P) : Rp d M pc ls (.int y :: .int x :: st) h P := by
  obtain ⟨v, h', r, p⟩ := kk
  exact ⟨v, h', Rj.iadd hd r, p⟩
theorem Rp.isub {x y : Int32} (hd : decode M.2.1 pc = .ok (.isub, 1)) (kk : Rp d M (pc + 1) ls (.int (x - y) :: st) h P) : Rp d M pc ls (.int y :: .int x :: st) h P := by
  obtain ⟨v, h', r, p⟩ := kk
  exact ⟨v, h', Rj.isub hd r, p⟩
theorem Rp.imul {x y : Int32} (hd : decode M.2.1 pc = .ok (.imul, 1)) (kk : Rp d M (pc + 1) ls (.int (x * y) :: st) h P) : Rp d M pc ls (.int y :: .int x :: st) h P := by
  obtain ⟨v, h', r, p⟩ := kk
  exact ⟨v, h', Rj.imul hd r, p⟩
theorem Rp.iand {x y : Int32} (hd : decode M.2.1 pc = .ok (.iand, 1)) (kk : Rp d M (pc + 1) ls (.int (x &&& y) :: st) h P) : Rp d M pc ls (.int y :: .int x :: st) h P := by
  obtain ⟨v, h', r, p⟩ := kk
  exact ⟨v, h', Rj.iand hd r, p⟩
theorem Rp.ior {x y : Int32} (hd : decode M.2.1 pc = .ok (.ior, 1)) (kk : Rp d M (pc + 1) ls (.int (x ||| y) :: st) h P) : Rp d M pc ls (.int y :: .int x :: st) h P := by
  obtain ⟨v, h', r, p⟩ := kk
  exact ⟨v, h', Rj.ior hd r, p⟩
theorem Rp.ixor {x y : Int32} (hd : decode M.2.1 pc = .ok (.ixor, 1)) (kk : Rp d M (pc + 1) ls (.int (x ^^^ y) :: st) h P) : Rp d M pc ls (.int y :: .int x :: st) h P := by
  obtain ⟨v, h', r, p⟩ := kk
  exact ⟨v, h', Rj.ixor hd r, p⟩
theorem Rp.ishl {x y : Int32} (hd : decode M.2.1 pc = .ok (.ishl, 1)) (kk : Rp d M (pc + 1) ls (.int (x <<< (y &&& 31)) :: st) h P) : Rp d M pc ls (.int y :: .int x :: st) h P := by
  obtain ⟨v, h', r, p⟩ := kk
  exact ⟨v, h', Rj.ishl hd r, p⟩
theorem Rp.ishr {x y : Int32} (hd : decode M.2.1 pc = .ok (.ishr, 1)) (kk : Rp d M (pc + 1) ls (.int (x >>> (y &&& 31)) :: st) h P) : Rp d M pc ls (.int y :: .int x :: st) h P := by
  obtain ⟨v, h', r, p⟩ := kk
  exact ⟨v, h', Rj.ishr hd r, p⟩
theorem Rp.iushr {x y : Int32} (hd : decode M.2.1 pc = .ok (.iushr, 1)) (kk : Rp d M (pc + 1) ls (.int ((x.toUInt32 >>> (y.toUInt32 &&& Int32.toUInt32 31)).toInt32) :: st) h P) : Rp d M pc ls (.int y :: .int x :: st) h P := by
  obtain ⟨v, h', r, p⟩ := kk
  exact ⟨v, h', Rj.iushr hd r, p⟩
theorem Rp.ineg {x : Int32} (hd : decode M.2.1 pc = .ok (.ineg, 1)) (kk : Rp d M (pc + 1) ls (.int (-x) :: st) h P) : Rp d M pc ls (.int x :: st) h P := by
  obtain ⟨v, h', r, p⟩ := kk
  exact ⟨v, h', Rj.ineg hd r, p⟩
theorem Rp.idiv {x y : Int32} (hd : decode M.2.1 pc = .ok (.idiv, 1)) (hne : ¬ y = 0) (kk : Rp d M (pc + 1) ls (.int (x / y) :: st) h P) : Rp d M pc ls (.int y :: .int x :: st) h P := by
  obtain ⟨v, h', r, p⟩ := kk
  exact ⟨v, h', Rj.idiv hd hne r, p⟩
theorem Rp.irem {x y : Int32} (hd : decode M.2.1 pc = .ok (.irem, 1)) (hne : ¬ y = 0) (kk : Rp d M (pc + 1) ls (.int (x - x / y * y) :: st) h P) : Rp d M pc ls (.int y :: .int x :: st) h P := by
  obtain ⟨v, h', r, p⟩ := kk
  exact ⟨v, h', Rj.irem hd hne r, p⟩
theorem Rp.ldiv {x y : Int64} (hd : decode M.2.1 pc = .ok (.ldiv, 1)) (hne : ¬ y = 0) (kk : Rp d M (pc + 1) ls (.long (x / y) :: st) h P) : Rp d M pc ls (.long y :: .long x :: st) h P := by
  obtain ⟨v, h', r, p⟩ := kk
  exact ⟨v, h', Rj.ldiv hd hne r, p⟩
theorem Rp.lrem {x y : Int64} (hd : decode M.2.1 pc = .ok (.lrem, 1)) (hne : ¬ y = 0) (kk : Rp d M (pc + 1) ls (.long (x - x / y * y) :: st) h P) : Rp d M pc ls (.long y :: .long x :: st) h P := by
  obtain ⟨v, h', r, p⟩ := kk
  exact ⟨v, h', Rj.lrem hd hne r, p⟩
theorem Rp.ladd {x y : Int64} (hd : decode M.2.1 pc = .ok (.ladd, 1)) (kk : Rp d M (pc + 1) ls (.long (x + y) :: st) h P) : Rp d M pc ls (.long y :: .long x :: st) h P := by
  obtain ⟨v, h', r, p⟩ := kk
  exact ⟨v, h', Rj.ladd hd r, p⟩
theorem Rp.lsub {x y : Int64} (hd : decode M.2.1 pc = .ok (.lsub, 1)) (kk : Rp d M (pc + 1) ls (.long (x - y) :: st) h P) : Rp d M pc ls (.long y :: .long x :: st) h P := by
  obtain ⟨v, h', r, p⟩ := kk
  exact ⟨v, h', Rj.lsub hd r, p⟩
theorem Rp.lmul {x y : Int64} (hd : decode M.2.1 pc = .ok (.lmul, 1)) (kk : Rp d M (pc + 1) ls (.long (x * y) :: st) h P) : Rp d M pc ls (.long y :: .long x :: st) h P := by
  obtain ⟨v, h', r, p⟩ := kk
  exact ⟨v, h', Rj.lmul hd r, p⟩
theorem Rp.i2l {x : Int32} (hd : decode M.2.1 pc = .ok (.i2l, 1)) (kk : Rp d M (pc + 1) ls (.long x.toInt64 :: st) h P) : Rp d M pc ls (.int x :: st) h P := by
  obtain ⟨v, h', r, p⟩ := kk
  exact ⟨v, h', Rj.i2l hd r, p⟩
theorem Rp.l2i {x : Int64} (hd : decode M.2.1 pc = .ok (.l2i, 1)) (kk : Rp d M (pc + 1) ls (.int x.toInt32 :: st) h P) : Rp d M pc ls (.long x :: st) h P := by
  obtain ⟨v, h', r, p⟩ := kk
  exact ⟨v, h', Rj.l2i hd r, p⟩
theorem Rp.i2b {x : Int32} (hd : decode M.2.1 pc = .ok (.i2b, 1)) (kk : Rp d M (pc + 1) ls (.int x.toInt8.toInt32 :: st) h P) : Rp d M pc ls (.int x :: st) h P := by
  obtain ⟨v, h', r, p⟩ := kk
  exact ⟨v, h', Rj.i2b hd r, p⟩
theorem Rp.lcmp {x y : Int64} (hd : decode M.2.1 pc = .ok (.lcmp, 1)) (kk : Rp d M (pc + 1) ls (.int (lg_cmp x y) :: st) h P) : Rp d M pc ls (.long y :: .long x :: st) h P := by
  obtain ⟨v, h', r, p⟩ := kk
  exact ⟨v, h', Rj.lcmp hd r, p⟩
theorem Rp.dup {a : Value} (hd : decode M.2.1 pc = .ok (.dup, 1)) (hc : a.category = 1) (kk : Rp d M (pc + 1) ls (a :: a :: st) h P) : Rp d M pc ls (a :: st) h P := by
  obtain ⟨v, h', r, p⟩ := kk
  exact ⟨v, h', Rj.dup hd hc r, p⟩
theorem Rp.pop {a : Value} (hd : decode M.2.1 pc = .ok (.pop, 1)) (hc : a.category = 1) (kk : Rp d M (pc + 1) ls st h P) : Rp d M pc ls (a :: st) h P := by
  obtain ⟨v, h', r, p⟩ := kk
  exact ⟨v, h', Rj.pop hd hc r, p⟩
theorem Rp.dup_x1 {a b : Value} (hd : decode M.2.1 pc = .ok (.dup_x1, 1)) (hc : a.category = 1) (hc2 : b.category = 1) (kk : Rp d M (pc + 1) ls (a :: b :: a :: st) h P) : Rp d M pc ls (a :: b :: st) h P := by
  obtain ⟨v, h', r, p⟩ := kk
  exact ⟨v, h', Rj.dup_x1 hd hc hc2 r, p⟩
theorem Rp.dup2 {a b : Value} (hd : decode M.2.1 pc = .ok (.dup2, 1)) (hc : a.category = 1) (hc2 : b.category = 1) (kk : Rp d M (pc + 1) ls (a :: b :: a :: b :: st) h P) : Rp d M pc ls (a :: b :: st) h P := by
  obtain ⟨v, h', r, p⟩ := kk
  exact ⟨v, h', Rj.dup2 hd hc hc2 r, p⟩
theorem Rp.icmp_eq {x y : Int32} {off : Int} {tgt : Nat} (hd : decode M.2.1 pc = .ok (.if_icmp .eq off, 3)) (ht : (pc : Int) + off = (tgt : Int)) (k1 : x = y → Rp d M tgt ls st h P) (k2 : ¬ x = y → Rp d M (pc + 3) ls st h P) : Rp d M pc ls (.int y :: .int x :: st) h P := by
  by_cases c0 : x = y
  · obtain ⟨v, h', r, p⟩ := k1 c0
    exact ⟨v, h', Rj.icmp_eq hd ht (fun _ => r) (fun z => absurd c0 z), p⟩
  · obtain ⟨v, h', r, p⟩ := k2 c0
    exact ⟨v, h', Rj.icmp_eq hd ht (fun z => absurd z c0) (fun _ => r), p⟩
theorem Rp.icmp_lt {x y : Int32} {off : Int} {tgt : Nat} (hd : decode M.2.1 pc = .ok (.if_icmp .lt off, 3)) (ht : (pc : Int) + off = (tgt : Int)) (k1 : x < y → Rp d M tgt ls st h P) (k2 : ¬ x < y → Rp d M (pc + 3) ls st h P) : Rp d M pc ls (.int y :: .int x :: st) h P := by
  by_cases c0 : x < y
  · obtain ⟨v, h', r, p⟩ := k1 c0
    exact ⟨v, h', Rj.icmp_lt hd ht (fun _ => r) (fun z => absurd c0 z), p⟩
  · obtain ⟨v, h', r, p⟩ := k2 c0
    exact ⟨v, h', Rj.icmp_lt hd ht (fun z => absurd z c0) (fun _ => r), p⟩
theorem Rp.icmp_ge {x y : Int32} {off : Int} {tgt : Nat} (hd : decode M.2.1 pc = .ok (.if_icmp .ge off, 3)) (ht : (pc : Int) + off = (tgt : Int)) (k1 : y ≤ x → Rp d M tgt ls st h P) (k2 : ¬ y ≤ x → Rp d M (pc + 3) ls st h P) : Rp d M pc ls (.int y :: .int x :: st) h P := by
  by_cases c0 : y ≤ x
  · obtain ⟨v, h', r, p⟩ := k1 c0
    exact ⟨v, h', Rj.icmp_ge hd ht (fun _ => r) (fun z => absurd c0 z), p⟩
  · obtain ⟨v, h', r, p⟩ := k2 c0
    exact ⟨v, h', Rj.icmp_ge hd ht (fun z => absurd z c0) (fun _ => r), p⟩
theorem Rp.icmp_gt {x y : Int32} {off : Int} {tgt : Nat} (hd : decode M.2.1 pc = .ok (.if_icmp .gt off, 3)) (ht : (pc : Int) + off = (tgt : Int)) (k1 : y < x → Rp d M tgt ls st h P) (k2 : ¬ y < x → Rp d M (pc + 3) ls st h P) : Rp d M pc ls (.int y :: .int x :: st) h P := by
  by_cases c0 : y < x
  · obtain ⟨v, h', r, p⟩ := k1 c0
    exact ⟨v, h', Rj.icmp_gt hd ht (fun _ => r) (fun z => absurd c0 z), p⟩
  · obtain ⟨v, h', r, p⟩ := k2 c0
    exact ⟨v, h', Rj.icmp_gt hd ht (fun z => absurd z c0) (fun _ => r), p⟩
theorem Rp.icmp_le {x y : Int32} {off : Int} {tgt : Nat} (hd : decode M.2.1 pc = .ok (.if_icmp .le off, 3)) (ht : (pc : Int) + off = (tgt : Int)) (k1 : x ≤ y → Rp d M tgt ls st h P) (k2 : ¬ x ≤ y → Rp d M (pc + 3) ls st h P) : Rp d M pc ls (.int y :: .int x :: st) h P := by
  by_cases c0 : x ≤ y
  · obtain ⟨v, h', r, p⟩ := k1 c0
    exact ⟨v, h', Rj.icmp_le hd ht (fun _ => r) (fun z => absurd c0 z), p⟩
  · obtain ⟨v, h', r, p⟩ := k2 c0
    exact ⟨v, h', Rj.icmp_le hd ht (fun z => absurd z c0) (fun _ => r), p⟩
theorem Rp.if_eq {x : Int32} {off : Int} {tgt : Nat} (hd : decode M.2.1 pc = .ok (.ifCond .eq off, 3)) (ht : (pc : Int) + off = (tgt : Int)) (k1 : x = 0 → Rp d M tgt ls st h P) (k2 : ¬ x = 0 → Rp d M (pc + 3) ls st h P) : Rp d M pc ls (.int x :: st) h P := by
  by_cases c0 : x = 0
  · obtain ⟨v, h', r, p⟩ := k1 c0
    exact ⟨v, h', Rj.if_eq hd ht (fun _ => r) (fun z => absurd c0 z), p⟩
  · obtain ⟨v, h', r, p⟩ := k2 c0
    exact ⟨v, h', Rj.if_eq hd ht (fun z => absurd z c0) (fun _ => r), p⟩
theorem Rp.if_lt {x : Int32} {off : Int} {tgt : Nat} (hd : decode M.2.1 pc = .ok (.ifCond .lt off, 3)) (ht : (pc : Int) + off = (tgt : Int)) (k1 : x < 0 → Rp d M tgt ls st h P) (k2 : ¬ x < 0 → Rp d M (pc + 3) ls st h P) : Rp d M pc ls (.int x :: st) h P := by
  by_cases c0 : x < 0
  · obtain ⟨v, h', r, p⟩ := k1 c0
    exact ⟨v, h', Rj.if_lt hd ht (fun _ => r) (fun z => absurd c0 z), p⟩
  · obtain ⟨v, h', r, p⟩ := k2 c0
    exact ⟨v, h', Rj.if_lt hd ht (fun z => absurd z c0) (fun _ => r), p⟩
theorem Rp.if_ge {x : Int32} {off : Int} {tgt : Nat} (hd : decode M.2.1 pc = .ok (.ifCond .ge off, 3)) (ht : (pc : Int) + off = (tgt : Int)) (k1 : 0 ≤ x → Rp d M tgt ls st h P) (k2 : ¬ 0 ≤ x → Rp d M (pc + 3) ls st h P) : Rp d M pc ls (.int x :: st) h P := by
  by_cases c0 : 0 ≤ x
  · obtain ⟨v, h', r, p⟩ := k1 c0
    exact ⟨v, h', Rj.if_ge hd ht (fun _ => r) (fun z => absurd c0 z), p⟩
  · obtain ⟨v, h', r, p⟩ := k2 c0
    exact ⟨v, h', Rj.if_ge hd ht (fun z => absurd z c0) (fun _ => r), p⟩
theorem Rp.if_gt {x : Int32} {off : Int} {tgt : Nat} (hd : decode M.2.1 pc = .ok (.ifCond .gt off, 3)) (ht : (pc : Int) + off = (tgt : Int)) (k1 : 0 < x → Rp d M tgt ls st h P) (k2 : ¬ 0 < x → Rp d M (pc + 3) ls st h P) : Rp d M pc ls (.int x :: st) h P := by
  by_cases c0 : 0 < x
  · obtain ⟨v, h', r, p⟩ := k1 c0
    exact ⟨v, h', Rj.if_gt hd ht (fun _ => r) (fun z => absurd c0 z), p⟩
  · obtain ⟨v, h', r, p⟩ := k2 c0
    exact ⟨v, h', Rj.if_gt hd ht (fun z => absurd z c0) (fun _ => r), p⟩
theorem Rp.if_le {x : Int32} {off : Int} {tgt : Nat} (hd : decode M.2.1 pc = .ok (.ifCond .le off, 3)) (ht : (pc : Int) + off = (tgt : Int)) (k1 : x ≤ 0 → Rp d M tgt ls st h P) (k2 : ¬ x ≤ 0 → Rp d M (pc + 3) ls st h P) : Rp d M pc ls (.int x :: st) h P := by
  by_cases c0 : x ≤ 0
  · obtain ⟨v, h', r, p⟩ := k1 c0
    exact ⟨v, h', Rj.if_le hd ht (fun _ => r) (fun z => absurd c0 z), p⟩
  · obtain ⟨v, h', r, p⟩ := k2 c0
    exact ⟨v, h', Rj.if_le hd ht (fun z => absurd z c0) (fun _ => r), p⟩
theorem Rp.icmp_ne {x y : Int32} {off : Int} {tgt : Nat} (hd : decode M.2.1 pc = .ok (.if_icmp .ne off, 3)) (ht : (pc : Int) + off = (tgt : Int)) (k1 : ¬ x = y → Rp d M tgt ls st h P) (k2 : x = y → Rp d M (pc + 3) ls st h P) : Rp d M pc ls (.int y :: .int x :: st) h P := by
  by_cases c0 : x = y
  · obtain ⟨v, h', r, p⟩ := k2 c0
    exact ⟨v, h', Rj.icmp_ne hd ht (fun z => absurd c0 z) (fun _ => r), p⟩
  · obtain ⟨v, h', r, p⟩ := k1 c0
    exact ⟨v, h', Rj.icmp_ne hd ht (fun _ => r) (fun z => absurd z c0), p⟩
theorem Rp.if_ne {x : Int32} {off : Int} {tgt : Nat} (hd : decode M.2.1 pc = .ok (.ifCond .ne off, 3)) (ht : (pc : Int) + off = (tgt : Int)) (k1 : ¬ x = 0 → Rp d M tgt ls st h P) (k2 : x = 0 → Rp d M (pc + 3) ls st h P) : Rp d M pc ls (.int x :: st) h P := by
  by_cases c0 : x = 0
  · obtain ⟨v, h', r, p⟩ := k2 c0
    exact ⟨v, h', Rj.if_ne hd ht (fun z => absurd c0 z) (fun _ => r), p⟩
  · obtain ⟨v, h', r, p⟩ := k1 c0
    exact ⟨v, h', Rj.if_ne hd ht (fun _ => r) (fun z => absurd z c0), p⟩
theorem Rp.goto {off : Int} {tgt : Nat} (hd : decode M.2.1 pc = .ok (.goto off, 3)) (ht : (pc : Int) + off = (tgt : Int)) (kk : Rp d M tgt ls st h P) : Rp d M pc ls st h P := by
  obtain ⟨v, h', r, p⟩ := kk
  exact ⟨v, h', Rj.goto hd ht r, p⟩
theorem Rp.ifnonnull {x : Nat} {off : Int} {tgt : Nat} (hd : decode M.2.1 pc = .ok (.ifnonnull off, 3)) (ht : (pc : Int) + off = (tgt : Int)) (kk : Rp d M tgt ls st h P) : Rp d M pc ls (.ref x :: st) h P := by
  obtain ⟨v, h', r, p⟩ := kk
  exact ⟨v, h', Rj.ifnonnull hd ht r, p⟩
theorem Rp.ifnonnullN {off : Int} (hd : decode M.2.1 pc = .ok (.ifnonnull off, 3)) (kk : Rp d M (pc + 3) ls st h P) : Rp d M pc ls (.null :: st) h P := by
  obtain ⟨v, h', r, p⟩ := kk
  exact ⟨v, h', Rj.ifnonnullN hd r, p⟩
theorem Rp.tableOut {dflt lo hi : Int} {offs : Array Int} {len : Nat} {x : Int32} {tgt : Nat} (hd : decode M.2.1 pc = .ok (.tableswitch dflt lo hi offs, len)) (hx : x.toInt < lo ∨ hi < x.toInt) (ht : (pc : Int) + dflt = (tgt : Int)) (kk : Rp d M tgt ls st h P) : Rp d M pc ls (.int x :: st) h P := by
  obtain ⟨v, h', r, p⟩ := kk
  exact ⟨v, h', Rj.tableOut hd hx ht r, p⟩
theorem Rp.tableIn {dflt lo hi : Int} {offs : Array Int} {len : Nat} {x : Int32} {off : Int} {tgt : Nat} (hd : decode M.2.1 pc = .ok (.tableswitch dflt lo hi offs, len)) (h1 : ¬ x.toInt < lo) (h2 : ¬ hi < x.toInt) (ho : offs[(x.toInt - lo).toNat]? = some off) (ht : (pc : Int) + off = (tgt : Int)) (kk : Rp d M tgt ls st h P) : Rp d M pc ls (.int x :: st) h P := by
  obtain ⟨v, h', r, p⟩ := kk
  exact ⟨v, h', Rj.tableIn hd h1 h2 ho ht r, p⟩
theorem Rp.ldc {i : Nat} {x : Int32} (hd : decode M.2.1 pc = .ok (.ldc i, 2)) (hw : Cond.constant M.1.cls i x ∈ gw) (kk : Rp d M (pc + 2) ls (.int x :: st) h P) : Rp d M pc ls st h P := by
  obtain ⟨v, h', r, p⟩ := kk
  exact ⟨v, h', Rj.ldc hd hw r, p⟩
theorem Rp.ldcw {i : Nat} {x : Int32} (hd : decode M.2.1 pc = .ok (.ldc_w i, 3)) (hw : Cond.constant M.1.cls i x ∈ gw) (kk : Rp d M (pc + 3) ls (.int x :: st) h P) : Rp d M pc ls st h P := by
  obtain ⟨v, h', r, p⟩ := kk
  exact ⟨v, h', Rj.ldcw hd hw r, p⟩
theorem Rp.ldc2 {i : Nat} {x : Int64} (hd : decode M.2.1 pc = .ok (.ldc2_w i, 3)) (hw : Cond.constantLong M.1.cls i x ∈ gw) (kk : Rp d M (pc + 3) ls (.long x :: st) h P) : Rp d M pc ls st h P := by
  obtain ⟨v, h', r, p⟩ := kk
  exact ⟨v, h', Rj.ldc2 hd hw r, p⟩
theorem Rp.ireturn {x : Int32} (hd : decode M.2.1 pc = .ok (.ireturn, 1)) (hr : M.2.2.2 = some .int) (p : P (some (.int x)) h) : Rp d M pc ls [.int x] h P := ⟨_, _, Rj.ireturn hr hd, p⟩
theorem Rp.zreturn {x : Int32} (hd : decode M.2.1 pc = .ok (.ireturn, 1)) (hr : M.2.2.2 = some .boolean) (hx : x = 0 ∨ x = 1) (p : P (some (.int x)) h) : Rp d M pc ls [.int x] h P := ⟨_, _, Rj.zreturn hr hx hd, p⟩
theorem Rp.vreturn (hd : decode M.2.1 pc = .ok (.return_, 1)) (hr : M.2.2.2 = none) (p : P none h) : Rp d M pc ls [] h P := ⟨_, _, Rj.vreturn hr hd, p⟩
theorem Rp.lreturn {x : Int64} (hd : decode M.2.1 pc = .ok (.lreturn, 1)) (hr : M.2.2.2 = some .long) (p : P (some (.long x)) h) : Rp d M pc ls [.long x] h P := ⟨_, _, Rj.lreturn hr hd, p⟩
theorem Rp.areturn {x : Value} {rt : FieldType} (hd : decode M.2.1 pc = .ok (.areturn, 1)) (hr : M.2.2.2 = some rt) (hrt : (∃ n, rt = .object n) ∨ ∃ t, rt = .array t) (hx : isR x = true) (p : P (some x) h) : Rp d M pc ls [x] h P := ⟨_, _, Rj.areturn hr hrt hx hd, p⟩
theorem Rp.getI {idx ci j k : Nat} (hd : decode M.2.1 pc = .ok (.getfield idx, 3)) (hf : fOKr M.1.cls idx ci j) (ht : tagOf (kty ci j) = 0) (hs : h.1[k]? = some (ci, clN ci)) (kk : Rp d M (pc + 3) ls (.int (gI h k j) :: st) h P) : Rp d M pc ls (.ref k :: st) h P := by
  obtain ⟨v, h', r, p⟩ := kk
  exact ⟨v, h', Rj.getI hf ht hs hd r, p⟩
theorem Rp.getL {idx ci j k : Nat} (hd : decode M.2.1 pc = .ok (.getfield idx, 3)) (hf : fOKr M.1.cls idx ci j) (ht : tagOf (kty ci j) = 1) (hs : h.1[k]? = some (ci, clN ci)) (kk : Rp d M (pc + 3) ls (.long (gL h k j) :: st) h P) : Rp d M pc ls (.ref k :: st) h P := by
  obtain ⟨v, h', r, p⟩ := kk
  exact ⟨v, h', Rj.getL hf ht hs hd r, p⟩
theorem Rp.getR {idx ci j k a : Nat} (hd : decode M.2.1 pc = .ok (.getfield idx, 3)) (hf : fOKr M.1.cls idx ci j) (ht : tagOf (kty ci j) = 2) (hs : h.1[k]? = some (ci, clN ci)) (hr : gR h k j = some a) (kk : Rp d M (pc + 3) ls (.ref a :: st) h P) : Rp d M pc ls (.ref k :: st) h P := by
  obtain ⟨v, h', r, p⟩ := kk
  exact ⟨v, h', Rj.getR hf ht hs hr hd r, p⟩
theorem Rp.getRN {idx ci j k : Nat} (hd : decode M.2.1 pc = .ok (.getfield idx, 3)) (hf : fOKr M.1.cls idx ci j) (ht : tagOf (kty ci j) = 2) (hs : h.1[k]? = some (ci, clN ci)) (hr : gR h k j = none) (kk : Rp d M (pc + 3) ls (.null :: st) h P) : Rp d M pc ls (.ref k :: st) h P := by
  obtain ⟨v, h', r, p⟩ := kk
  exact ⟨v, h', Rj.getRN hf ht hs hr hd r, p⟩
theorem Rp.putI {idx ci j k : Nat} {x : Int32} (hd : decode M.2.1 pc = .ok (.putfield idx, 3)) (hf : fOK M.1.cls idx ci j false) (ht : tyC ci j = .int) (hs : h.1[k]? = some (ci, clN ci)) (kk : Rp d M (pc + 3) ls st (sI h k j x) P) : Rp d M pc ls (.int x :: .ref k :: st) h P := by
  obtain ⟨v, h', r, p⟩ := kk
  exact ⟨v, h', Rj.putI hf ht hs hd r, p⟩
theorem Rp.putZ {idx ci j k : Nat} {x : Int32} (hd : decode M.2.1 pc = .ok (.putfield idx, 3)) (hf : fOK M.1.cls idx ci j false) (ht : tyC ci j = .boolean) (hx : x = 0 ∨ x = 1) (hs : h.1[k]? = some (ci, clN ci)) (kk : Rp d M (pc + 3) ls st (sI h k j x) P) : Rp d M pc ls (.int x :: .ref k :: st) h P := by
  obtain ⟨v, h', r, p⟩ := kk
  exact ⟨v, h', Rj.putZ hf ht hx hs hd r, p⟩
theorem Rp.putL {idx ci j k : Nat} {x : Int64} (hd : decode M.2.1 pc = .ok (.putfield idx, 3)) (hf : fOK M.1.cls idx ci j false) (ht : tyC ci j = .long) (hs : h.1[k]? = some (ci, clN ci)) (kk : Rp d M (pc + 3) ls st (sL h k j x) P) : Rp d M pc ls (.long x :: .ref k :: st) h P := by
  obtain ⟨v, h', r, p⟩ := kk
  exact ⟨v, h', Rj.putL hf ht hs hd r, p⟩
theorem Rp.putR {idx ci j k a : Nat} {fin : Bool} (hd : decode M.2.1 pc = .ok (.putfield idx, 3)) (hf : fOK M.1.cls idx ci j fin) (hfin : fin = true → M.1.name = "<init>") (ht : (∃ n, tyC ci j = .object n) ∨ ∃ t, tyC ci j = .array t) (hs : h.1[k]? = some (ci, clN ci)) (kk : Rp d M (pc + 3) ls st (sR h k j (some a)) P) : Rp d M pc ls (.ref a :: .ref k :: st) h P := by
  obtain ⟨v, h', r, p⟩ := kk
  exact ⟨v, h', Rj.putR hf hfin ht hs hd r, p⟩
theorem Rp.putRN {idx ci j k : Nat} {fin : Bool} (hd : decode M.2.1 pc = .ok (.putfield idx, 3)) (hf : fOK M.1.cls idx ci j fin) (hfin : fin = true → M.1.name = "<init>") (ht : (∃ n, tyC ci j = .object n) ∨ ∃ t, tyC ci j = .array t) (hs : h.1[k]? = some (ci, clN ci)) (kk : Rp d M (pc + 3) ls st (sR h k j none) P) : Rp d M pc ls (.null :: .ref k :: st) h P := by
  obtain ⟨v, h', r, p⟩ := kk
  exact ⟨v, h', Rj.putRN hf hfin ht hs hd r, p⟩
theorem Rp.iaload {k n : Nat} {i : Int32} (hd : decode M.2.1 pc = .ok (.iaload, 1)) (hs : h.1[k]? = some (13, n)) (hin : vp_in i n) (kk : Rp d M (pc + 1) ls (.int (gI h k i.toNatClampNeg) :: st) h P) : Rp d M pc ls (.int i :: .ref k :: st) h P := by
  obtain ⟨v, h', r, p⟩ := kk
  exact ⟨v, h', Rj.iaload hs hin hd r, p⟩
theorem Rp.baload {k n : Nat} {i : Int32} (hd : decode M.2.1 pc = .ok (.baload, 1)) (hs : h.1[k]? = some (14, n)) (hin : vp_in i n) (kk : Rp d M (pc + 1) ls (.int (gI h k i.toNatClampNeg) :: st) h P) : Rp d M pc ls (.int i :: .ref k :: st) h P := by
  obtain ⟨v, h', r, p⟩ := kk
  exact ⟨v, h', Rj.baload hs hin hd r, p⟩
theorem Rp.zaload {k n : Nat} {i : Int32} (hd : decode M.2.1 pc = .ok (.baload, 1)) (hs : h.1[k]? = some (15, n)) (hin : vp_in i n) (kk : Rp d M (pc + 1) ls (.int (gI h k i.toNatClampNeg) :: st) h P) : Rp d M pc ls (.int i :: .ref k :: st) h P := by
  obtain ⟨v, h', r, p⟩ := kk
  exact ⟨v, h', Rj.zaload hs hin hd r, p⟩
theorem Rp.laload {k n : Nat} {i : Int32} (hd : decode M.2.1 pc = .ok (.laload, 1)) (hs : h.1[k]? = some (16, n)) (hin : vp_in i n) (kk : Rp d M (pc + 1) ls (.long (gL h k i.toNatClampNeg) :: st) h P) : Rp d M pc ls (.int i :: .ref k :: st) h P := by
  obtain ⟨v, h', r, p⟩ := kk
  exact ⟨v, h', Rj.laload hs hin hd r, p⟩
theorem Rp.aaload {k n t : Nat} {i : Int32} (hd : decode M.2.1 pc = .ok (.aaload, 1)) (ht : t = 4 ∨ t = 5) (hs : h.1[k]? = some (13 + t, n)) (hin : vp_in i n) (kk : Rp d M (pc + 1) ls (cvR (gR h k i.toNatClampNeg) :: st) h P) : Rp d M pc ls (.int i :: .ref k :: st) h P := by
  obtain ⟨v, h', r, p⟩ := kk
  exact ⟨v, h', Rj.aaload ht hs hin hd r, p⟩
theorem Rp.iastore {k n : Nat} {i : Int32} {x : Int32} (hd : decode M.2.1 pc = .ok (.iastore, 1)) (hs : h.1[k]? = some (13, n)) (hin : vp_in i n) (kk : Rp d M (pc + 1) ls st (sI h k i.toNatClampNeg x) P) : Rp d M pc ls (.int x :: .int i :: .ref k :: st) h P := by
  obtain ⟨v, h', r, p⟩ := kk
  exact ⟨v, h', Rj.iastore hs hin hd r, p⟩
theorem Rp.bastore {k n : Nat} {i : Int32} {x : Int32} (hd : decode M.2.1 pc = .ok (.bastore, 1)) (hs : h.1[k]? = some (14, n)) (hin : vp_in i n) (kk : Rp d M (pc + 1) ls st (sI h k i.toNatClampNeg x.toInt8.toInt32) P) : Rp d M pc ls (.int x :: .int i :: .ref k :: st) h P := by
  obtain ⟨v, h', r, p⟩ := kk
  exact ⟨v, h', Rj.bastore hs hin hd r, p⟩
theorem Rp.zastore {k n : Nat} {i : Int32} {x : Int32} (hd : decode M.2.1 pc = .ok (.bastore, 1)) (hs : h.1[k]? = some (15, n)) (hin : vp_in i n) (kk : Rp d M (pc + 1) ls st (sI h k i.toNatClampNeg (x &&& 1)) P) : Rp d M pc ls (.int x :: .int i :: .ref k :: st) h P := by
  obtain ⟨v, h', r, p⟩ := kk
  exact ⟨v, h', Rj.zastore hs hin hd r, p⟩
theorem Rp.lastore {k n : Nat} {i : Int32} {x : Int64} (hd : decode M.2.1 pc = .ok (.lastore, 1)) (hs : h.1[k]? = some (16, n)) (hin : vp_in i n) (kk : Rp d M (pc + 1) ls st (sL h k i.toNatClampNeg x) P) : Rp d M pc ls (.long x :: .int i :: .ref k :: st) h P := by
  obtain ⟨v, h', r, p⟩ := kk
  exact ⟨v, h', Rj.lastore hs hin hd r, p⟩
theorem Rp.aastore {k n t a ci na : Nat} {i : Int32} (hd : decode M.2.1 pc = .ok (.aastore, 1)) (ht : t = 4 ∧ ci = 9 ∨ t = 5 ∧ ci = 2) (hs : h.1[k]? = some (13 + t, n)) (ha : h.1[a]? = some (ci, na)) (hin : vp_in i n) (kk : Rp d M (pc + 1) ls st (sR h k i.toNatClampNeg (some a)) P) : Rp d M pc ls (.ref a :: .int i :: .ref k :: st) h P := by
  obtain ⟨v, h', r, p⟩ := kk
  exact ⟨v, h', Rj.aastore ht hs ha hin hd r, p⟩
theorem Rp.alen {k n kd : Nat} (hd : decode M.2.1 pc = .ok (.arraylength, 1)) (hs : h.1[k]? = some (kd, n)) (hk : ¬ kd < 13) (hk2 : kd < 19) (kk : Rp d M (pc + 1) ls (.int (Int32.ofNat n) :: st) h P) : Rp d M pc ls (.ref k :: st) h P := by
  obtain ⟨v, h', r, p⟩ := kk
  exact ⟨v, h', Rj.alen hs hk hk2 hd r, p⟩
theorem Rp.sload {i : Int32} {b : UInt32} (hd : decode M.2.1 pc = .ok (.iaload, 1)) (hin : vp_in i (gS h).1) (kk : Rp d M (pc + 1) ls (.int ((gS h).2 i.toNatClampNeg) :: st) h P) : Rp d M pc ls (.int i :: .float b :: st) h P := by
  obtain ⟨v, h', r, p⟩ := kk
  exact ⟨v, h', Rj.sload hin hd r, p⟩
theorem Rp.slen {b : UInt32} (hd : decode M.2.1 pc = .ok (.arraylength, 1)) (kk : Rp d M (pc + 1) ls (.int (Int32.ofNat (gS h).1) :: st) h P) : Rp d M pc ls (.float b :: st) h P := by
  obtain ⟨v, h', r, p⟩ := kk
  exact ⟨v, h', Rj.slen hd r, p⟩
theorem Rp.new {idx ci : Nat} {C : String} {T : u_T} {N : Nat} (hd : decode M.2.1 pc = .ok (.new idx, 3)) (hc : clOK ci C T N) (hl : Cond.classLink M.1.cls idx C ∈ gw ∧ Cond.instantiable C N ∈ gw ∧ Cond.initialized C ∈ gw) (hdf : ∀ j, j < N → defaultValue (tyC ci j) = dv (tagOf (tyC ci j))) (kk : Rp d M (pc + 3) ls (.ref (aN h) :: st) (aNew h ci (clN ci)) P) : Rp d M pc ls st h P := by
  obtain ⟨v, h', r, p⟩ := kk
  exact ⟨v, h', Rj.new hc hl hdf hd r, p⟩
theorem Rp.newa (t : Nat) {at_ : ArrayType} {n : Int32} (hd : decode M.2.1 pc = .ok (.newarray at_, 2)) (ht : newarray.typeOf at_ = aty t ∧ t < 4 ∧ Cond.arrayClass (aty t) ∈ gw) (hn : ¬ n < 0) (hb2 : n.toNatClampNeg ≤ 60000000) (kk : Rp d M (pc + 2) ls (.ref (aN h) :: st) (aNew h (13 + t) n.toNatClampNeg) P) : Rp d M pc ls (.int n :: st) h P := by
  obtain ⟨v, h', r, p⟩ := kk
  exact ⟨v, h', Rj.newa ht hn hb2 hd r, p⟩
theorem Rp.anew (t : Nat) {idx : Nat} {n : Int32} {C : String} (hd : decode M.2.1 pc = .ok (.anewarray idx, 3)) (ht : t = 4 ∧ C = "TicketHall$Text" ∨ t = 5 ∧ C = "TicketHall$Hall") (hl : Cond.classLink M.1.cls idx C ∈ gw) (hn : ¬ n < 0) (hb2 : n.toNatClampNeg ≤ 60000000) (kk : Rp d M (pc + 3) ls (.ref (aN h) :: st) (aNew h (13 + t) n.toNatClampNeg) P) : Rp d M pc ls (.int n :: st) h P := by
  obtain ⟨v, h', r, p⟩ := kk
  exact ⟨v, h', Rj.anew ht hl hn hb2 hd r, p⟩
theorem Rp.objI {idx k : Nat} (hd : decode M.2.1 pc = .ok (.invokespecial idx, 3)) (hl : Cond.methodLink M.1.cls idx objectInit ∈ gw ∧ Cond.instanceMethod objectInit ∈ gw ∧ Cond.code objectInit ⟨#[0xb1]⟩ 1 none ∈ gw) (hst : stOK st) (k1 : Rp (d + 1) M (pc + 3) ls st h P) : Rp (d + 1) M pc ls (.ref k :: st) h P := by
  obtain ⟨v, h', r, p⟩ := k1
  exact ⟨v, h', Rj.objI hl hst hd r, p⟩
variable {n idx : Nat} {As : List Value} {Pc : Option Value → AH → Prop}
theorem Rp.callS' (As : List Value) (hd : decode M.2.1 pc = .ok (.invokestatic idx, 3)) (hm : mOK Mc n) (hl : Cond.methodLink M.1.cls idx Mc.1 ∈ gw ∧ Cond.static Mc.1 ∈ gw) (hn : As.length = n) (hf : (As.flatMap sl1).length ≤ Mc.2.2.1) (hst : stOK st) (c : Rp d Mc 0 (entL As Mc.2.2.1) [] h Pc) (k : ∀ v1 h1, Pc v1 h1 → (gS h1 = gS h ∧ h.1 <+: h1.1) → Rp (d + 1) M (pc + 3) ls (v1.toList ++ st) h1 P) : Rp (d + 1) M pc ls (As.reverse ++ st) h P := by
  obtain ⟨v1, h1, r1, p1⟩ := c
  obtain ⟨v, h', r, p⟩ := k v1 h1 p1 r1.2.2.1
  exact ⟨v, h', Rj.callS hm hl hd hn hf hst r1 r, p⟩
theorem Rp.callV' (As : List Value) {k0 ci nk : Nat} {C : String} {T : u_T} {N : Nat} (hd : decode M.2.1 pc = .ok (.invokevirtual idx, 3)) (hm : mOK Mc n) (hl : Cond.methodLink M.1.cls idx Mc.1 ∈ gw ∧ Cond.instanceMethod Mc.1 ∈ gw ∧ Cond.selects Mc.1.cls Mc.1 Mc.1 ∈ gw) (hci : ci < 13) (hc : vwCl[ci]? = some (C, T, N)) (hC : C = Mc.1.cls) (hs : h.1[k0]? = some (ci, nk)) (hn : As.length = n) (hf : ((Value.ref k0 :: As).flatMap sl1).length ≤ Mc.2.2.1) (hst : stOK st) (c : Rp d Mc 0 (entL (.ref k0 :: As) Mc.2.2.1) [] h Pc) (k : ∀ v1 h1, Pc v1 h1 → (gS h1 = gS h ∧ h.1 <+: h1.1) → Rp (d + 1) M (pc + 3) ls (v1.toList ++ st) h1 P) : Rp (d + 1) M pc ls (As.reverse ++ .ref k0 :: st) h P := by
  obtain ⟨v1, h1, r1, p1⟩ := c
  obtain ⟨v, h', r, p⟩ := k v1 h1 p1 r1.2.2.1
  exact ⟨v, h', Rj.callV hm hl hci hc hC hs hd hn hf hst r1 r, p⟩
theorem Rp.callI' (As : List Value) {k0 : Nat} (hd : decode M.2.1 pc = .ok (.invokespecial idx, 3)) (hm : mOK Mc n) (hnm2 : Mc.1.name = "<init>") (hret : Mc.2.2.2 = none) (hl : Cond.methodLink M.1.cls idx Mc.1 ∈ gw ∧ Cond.instanceMethod Mc.1 ∈ gw) (hn : As.length = n) (hf : ((Value.ref k0 :: As).flatMap sl1).length ≤ Mc.2.2.1) (hst : stOK st) (c : Rp d Mc 0 (entL (.ref k0 :: As) Mc.2.2.1) [] h Pc) (k : ∀ v1 h1, Pc v1 h1 → (gS h1 = gS h ∧ h.1 <+: h1.1) → Rp (d + 1) M (pc + 3) ls (v1.toList ++ st) h1 P) : Rp (d + 1) M pc ls (As.reverse ++ .ref k0 :: st) h P := by
  obtain ⟨v1, h1, r1, p1⟩ := c
  obtain ⟨v, h', r, p⟩ := k v1 h1 p1 r1.2.2.1
  exact ⟨v, h', Rj.callI hm hnm2 hret hl hd hn hf hst r1 r, p⟩
theorem Rp.callIN' (As : List Value) {k0 : Nat} {host : String} (hd : decode M.2.1 pc = .ok (.invokespecial idx, 3)) (hm : mOK Mc n) (hnm2 : Mc.1.name = "<init>") (hret : Mc.2.2.2 = none) (hl : Cond.methodLinkNest M.1.cls idx Mc.1 host ∈ nestW ∧ Cond.instanceMethod Mc.1 ∈ gw) (hn : As.length = n) (hf : ((Value.ref k0 :: As).flatMap sl1).length ≤ Mc.2.2.1) (hst : stOK st) (c : Rp d Mc 0 (entL (.ref k0 :: As) Mc.2.2.1) [] h Pc) (k : ∀ v1 h1, Pc v1 h1 → (gS h1 = gS h ∧ h.1 <+: h1.1) → Rp (d + 1) M (pc + 3) ls (v1.toList ++ st) h1 P) : Rp (d + 1) M pc ls (As.reverse ++ .ref k0 :: st) h P := by
  obtain ⟨v1, h1, r1, p1⟩ := c
  obtain ⟨v, h', r, p⟩ := k v1 h1 p1 r1.2.2.1
  exact ⟨v, h', Rj.callIN hm hnm2 hret hl hd hn hf hst r1 r, p⟩
end RpA
theorem Rp.callS0 {d : Nat} {M : MT} (Mc : MT) {pc idx : Nat} {ls : List (Option Value)} {st : List Value} {h : AH} {P Pc : Option Value → AH → Prop} (hd : decode M.2.1 pc = .ok (.invokestatic idx, 3)) (hm : mOK Mc 0) (hl : Cond.methodLink M.1.cls idx Mc.1 ∈ gw ∧ Cond.static Mc.1 ∈ gw) (hf : (([] : List Value).flatMap sl1).length ≤ Mc.2.2.1) (hst : stOK st) (c : Rp d Mc 0 (entL [] Mc.2.2.1) [] h Pc) (k : ∀ v1 h1, Pc v1 h1 → (gS h1 = gS h ∧ h.1 <+: h1.1) → Rp (d + 1) M (pc + 3) ls (v1.toList ++ st) h1 P) : Rp (d + 1) M pc ls (st) h P := Rp.callS' [] hd hm hl rfl hf hst c k
theorem Rp.callS1 {d : Nat} {M : MT} (Mc : MT) {pc idx : Nat} {ls : List (Option Value)} {st : List Value} {h : AH} {P Pc : Option Value → AH → Prop} {a1 : Value} (hd : decode M.2.1 pc = .ok (.invokestatic idx, 3)) (hm : mOK Mc 1) (hl : Cond.methodLink M.1.cls idx Mc.1 ∈ gw ∧ Cond.static Mc.1 ∈ gw) (hf : (([a1] : List Value).flatMap sl1).length ≤ Mc.2.2.1) (hst : stOK st) (c : Rp d Mc 0 (entL [a1] Mc.2.2.1) [] h Pc) (k : ∀ v1 h1, Pc v1 h1 → (gS h1 = gS h ∧ h.1 <+: h1.1) → Rp (d + 1) M (pc + 3) ls (v1.toList ++ st) h1 P) : Rp (d + 1) M pc ls (a1 :: st) h P := Rp.callS' [a1] hd hm hl rfl hf hst c k
theorem Rp.callS2 {d : Nat} {M : MT} (Mc : MT) {pc idx : Nat} {ls : List (Option Value)} {st : List Value} {h : AH} {P Pc : Option Value → AH → Prop} {a1 a2 : Value} (hd : decode M.2.1 pc = .ok (.invokestatic idx, 3)) (hm : mOK Mc 2) (hl : Cond.methodLink M.1.cls idx Mc.1 ∈ gw ∧ Cond.static Mc.1 ∈ gw) (hf : (([a1, a2] : List Value).flatMap sl1).length ≤ Mc.2.2.1) (hst : stOK st) (c : Rp d Mc 0 (entL [a1, a2] Mc.2.2.1) [] h Pc) (k : ∀ v1 h1, Pc v1 h1 → (gS h1 = gS h ∧ h.1 <+: h1.1) → Rp (d + 1) M (pc + 3) ls (v1.toList ++ st) h1 P) : Rp (d + 1) M pc ls (a2 :: a1 :: st) h P := Rp.callS' [a1, a2] hd hm hl rfl hf hst c k
theorem Rp.callS3 {d : Nat} {M : MT} (Mc : MT) {pc idx : Nat} {ls : List (Option Value)} {st : List Value} {h : AH} {P Pc : Option Value → AH → Prop} {a1 a2 a3 : Value} (hd : decode M.2.1 pc = .ok (.invokestatic idx, 3)) (hm : mOK Mc 3) (hl : Cond.methodLink M.1.cls idx Mc.1 ∈ gw ∧ Cond.static Mc.1 ∈ gw) (hf : (([a1, a2, a3] : List Value).flatMap sl1).length ≤ Mc.2.2.1) (hst : stOK st) (c : Rp d Mc 0 (entL [a1, a2, a3] Mc.2.2.1) [] h Pc) (k : ∀ v1 h1, Pc v1 h1 → (gS h1 = gS h ∧ h.1 <+: h1.1) → Rp (d + 1) M (pc + 3) ls (v1.toList ++ st) h1 P) : Rp (d + 1) M pc ls (a3 :: a2 :: a1 :: st) h P := Rp.callS' [a1, a2, a3] hd hm hl rfl hf hst c k
theorem Rp.callS4 {d : Nat} {M : MT} (Mc : MT) {pc idx : Nat} {ls : List (Option Value)} {st : List Value} {h : AH} {P Pc : Option Value → AH → Prop} {a1 a2 a3 a4 : Value} (hd : decode M.2.1 pc = .ok (.invokestatic idx, 3)) (hm : mOK Mc 4) (hl : Cond.methodLink M.1.cls idx Mc.1 ∈ gw ∧ Cond.static Mc.1 ∈ gw) (hf : (([a1, a2, a3, a4] : List Value).flatMap sl1).length ≤ Mc.2.2.1) (hst : stOK st) (c : Rp d Mc 0 (entL [a1, a2, a3, a4] Mc.2.2.1) [] h Pc) (k : ∀ v1 h1, Pc v1 h1 → (gS h1 = gS h ∧ h.1 <+: h1.1) → Rp (d + 1) M (pc + 3) ls (v1.toList ++ st) h1 P) : Rp (d + 1) M pc ls (a4 :: a3 :: a2 :: a1 :: st) h P := Rp.callS' [a1, a2, a3, a4] hd hm hl rfl hf hst c k
theorem Rp.callS5 {d : Nat} {M : MT} (Mc : MT) {pc idx : Nat} {ls : List (Option Value)} {st : List Value} {h : AH} {P Pc : Option Value → AH → Prop} {a1 a2 a3 a4 a5 : Value} (hd : decode M.2.1 pc = .ok (.invokestatic idx, 3)) (hm : mOK Mc 5) (hl : Cond.methodLink M.1.cls idx Mc.1 ∈ gw ∧ Cond.static Mc.1 ∈ gw) (hf : (([a1, a2, a3, a4, a5] : List Value).flatMap sl1).length ≤ Mc.2.2.1) (hst : stOK st) (c : Rp d Mc 0 (entL [a1, a2, a3, a4, a5] Mc.2.2.1) [] h Pc) (k : ∀ v1 h1, Pc v1 h1 → (gS h1 = gS h ∧ h.1 <+: h1.1) → Rp (d + 1) M (pc + 3) ls (v1.toList ++ st) h1 P) : Rp (d + 1) M pc ls (a5 :: a4 :: a3 :: a2 :: a1 :: st) h P := Rp.callS' [a1, a2, a3, a4, a5] hd hm hl rfl hf hst c k
theorem Rp.callS6 {d : Nat} {M : MT} (Mc : MT) {pc idx : Nat} {ls : List (Option Value)} {st : List Value} {h : AH} {P Pc : Option Value → AH → Prop} {a1 a2 a3 a4 a5 a6 : Value} (hd : decode M.2.1 pc = .ok (.invokestatic idx, 3)) (hm : mOK Mc 6) (hl : Cond.methodLink M.1.cls idx Mc.1 ∈ gw ∧ Cond.static Mc.1 ∈ gw) (hf : (([a1, a2, a3, a4, a5, a6] : List Value).flatMap sl1).length ≤ Mc.2.2.1) (hst : stOK st) (c : Rp d Mc 0 (entL [a1, a2, a3, a4, a5, a6] Mc.2.2.1) [] h Pc) (k : ∀ v1 h1, Pc v1 h1 → (gS h1 = gS h ∧ h.1 <+: h1.1) → Rp (d + 1) M (pc + 3) ls (v1.toList ++ st) h1 P) : Rp (d + 1) M pc ls (a6 :: a5 :: a4 :: a3 :: a2 :: a1 :: st) h P := Rp.callS' [a1, a2, a3, a4, a5, a6] hd hm hl rfl hf hst c k
theorem Rp.callS7 {d : Nat} {M : MT} (Mc : MT) {pc idx : Nat} {ls : List (Option Value)} {st : List Value} {h : AH} {P Pc : Option Value → AH → Prop} {a1 a2 a3 a4 a5 a6 a7 : Value} (hd : decode M.2.1 pc = .ok (.invokestatic idx, 3)) (hm : mOK Mc 7) (hl : Cond.methodLink M.1.cls idx Mc.1 ∈ gw ∧ Cond.static Mc.1 ∈ gw) (hf : (([a1, a2, a3, a4, a5, a6, a7] : List Value).flatMap sl1).length ≤ Mc.2.2.1) (hst : stOK st) (c : Rp d Mc 0 (entL [a1, a2, a3, a4, a5, a6, a7] Mc.2.2.1) [] h Pc) (k : ∀ v1 h1, Pc v1 h1 → (gS h1 = gS h ∧ h.1 <+: h1.1) → Rp (d + 1) M (pc + 3) ls (v1.toList ++ st) h1 P) : Rp (d + 1) M pc ls (a7 :: a6 :: a5 :: a4 :: a3 :: a2 :: a1 :: st) h P := Rp.callS' [a1, a2, a3, a4, a5, a6, a7] hd hm hl rfl hf hst c k
theorem Rp.callV0 {d : Nat} {M : MT} (Mc : MT) {pc idx : Nat} {ls : List (Option Value)} {st : List Value} {h : AH} {P Pc : Option Value → AH → Prop} {k0 ci nk : Nat} {C : String} {T : u_T} {N : Nat} (hd : decode M.2.1 pc = .ok (.invokevirtual idx, 3)) (hm : mOK Mc 0) (hl : Cond.methodLink M.1.cls idx Mc.1 ∈ gw ∧ Cond.instanceMethod Mc.1 ∈ gw ∧ Cond.selects Mc.1.cls Mc.1 Mc.1 ∈ gw) (hci : ci < 13) (hc : vwCl[ci]? = some (C, T, N)) (hC : C = Mc.1.cls) (hs : h.1[k0]? = some (ci, nk)) (hf : ((Value.ref k0 :: []).flatMap sl1).length ≤ Mc.2.2.1) (hst : stOK st) (c : Rp d Mc 0 (entL (.ref k0 :: []) Mc.2.2.1) [] h Pc) (k : ∀ v1 h1, Pc v1 h1 → (gS h1 = gS h ∧ h.1 <+: h1.1) → Rp (d + 1) M (pc + 3) ls (v1.toList ++ st) h1 P) : Rp (d + 1) M pc ls (.ref k0 :: st) h P := Rp.callV' [] hd hm hl hci hc hC hs rfl hf hst c k
theorem Rp.callV1 {d : Nat} {M : MT} (Mc : MT) {pc idx : Nat} {ls : List (Option Value)} {st : List Value} {h : AH} {P Pc : Option Value → AH → Prop} {a1 : Value} {k0 ci nk : Nat} {C : String} {T : u_T} {N : Nat} (hd : decode M.2.1 pc = .ok (.invokevirtual idx, 3)) (hm : mOK Mc 1) (hl : Cond.methodLink M.1.cls idx Mc.1 ∈ gw ∧ Cond.instanceMethod Mc.1 ∈ gw ∧ Cond.selects Mc.1.cls Mc.1 Mc.1 ∈ gw) (hci : ci < 13) (hc : vwCl[ci]? = some (C, T, N)) (hC : C = Mc.1.cls) (hs : h.1[k0]? = some (ci, nk)) (hf : ((Value.ref k0 :: [a1]).flatMap sl1).length ≤ Mc.2.2.1) (hst : stOK st) (c : Rp d Mc 0 (entL (.ref k0 :: [a1]) Mc.2.2.1) [] h Pc) (k : ∀ v1 h1, Pc v1 h1 → (gS h1 = gS h ∧ h.1 <+: h1.1) → Rp (d + 1) M (pc + 3) ls (v1.toList ++ st) h1 P) : Rp (d + 1) M pc ls (a1 :: .ref k0 :: st) h P := Rp.callV' [a1] hd hm hl hci hc hC hs rfl hf hst c k
theorem Rp.callV2 {d : Nat} {M : MT} (Mc : MT) {pc idx : Nat} {ls : List (Option Value)} {st : List Value} {h : AH} {P Pc : Option Value → AH → Prop} {a1 a2 : Value} {k0 ci nk : Nat} {C : String} {T : u_T} {N : Nat} (hd : decode M.2.1 pc = .ok (.invokevirtual idx, 3)) (hm : mOK Mc 2) (hl : Cond.methodLink M.1.cls idx Mc.1 ∈ gw ∧ Cond.instanceMethod Mc.1 ∈ gw ∧ Cond.selects Mc.1.cls Mc.1 Mc.1 ∈ gw) (hci : ci < 13) (hc : vwCl[ci]? = some (C, T, N)) (hC : C = Mc.1.cls) (hs : h.1[k0]? = some (ci, nk)) (hf : ((Value.ref k0 :: [a1, a2]).flatMap sl1).length ≤ Mc.2.2.1) (hst : stOK st) (c : Rp d Mc 0 (entL (.ref k0 :: [a1, a2]) Mc.2.2.1) [] h Pc) (k : ∀ v1 h1, Pc v1 h1 → (gS h1 = gS h ∧ h.1 <+: h1.1) → Rp (d + 1) M (pc + 3) ls (v1.toList ++ st) h1 P) : Rp (d + 1) M pc ls (a2 :: a1 :: .ref k0 :: st) h P := Rp.callV' [a1, a2] hd hm hl hci hc hC hs rfl hf hst c k
theorem Rp.callV3 {d : Nat} {M : MT} (Mc : MT) {pc idx : Nat} {ls : List (Option Value)} {st : List Value} {h : AH} {P Pc : Option Value → AH → Prop} {a1 a2 a3 : Value} {k0 ci nk : Nat} {C : String} {T : u_T} {N : Nat} (hd : decode M.2.1 pc = .ok (.invokevirtual idx, 3)) (hm : mOK Mc 3) (hl : Cond.methodLink M.1.cls idx Mc.1 ∈ gw ∧ Cond.instanceMethod Mc.1 ∈ gw ∧ Cond.selects Mc.1.cls Mc.1 Mc.1 ∈ gw) (hci : ci < 13) (hc : vwCl[ci]? = some (C, T, N)) (hC : C = Mc.1.cls) (hs : h.1[k0]? = some (ci, nk)) (hf : ((Value.ref k0 :: [a1, a2, a3]).flatMap sl1).length ≤ Mc.2.2.1) (hst : stOK st) (c : Rp d Mc 0 (entL (.ref k0 :: [a1, a2, a3]) Mc.2.2.1) [] h Pc) (k : ∀ v1 h1, Pc v1 h1 → (gS h1 = gS h ∧ h.1 <+: h1.1) → Rp (d + 1) M (pc + 3) ls (v1.toList ++ st) h1 P) : Rp (d + 1) M pc ls (a3 :: a2 :: a1 :: .ref k0 :: st) h P := Rp.callV' [a1, a2, a3] hd hm hl hci hc hC hs rfl hf hst c k
theorem Rp.callV4 {d : Nat} {M : MT} (Mc : MT) {pc idx : Nat} {ls : List (Option Value)} {st : List Value} {h : AH} {P Pc : Option Value → AH → Prop} {a1 a2 a3 a4 : Value} {k0 ci nk : Nat} {C : String} {T : u_T} {N : Nat} (hd : decode M.2.1 pc = .ok (.invokevirtual idx, 3)) (hm : mOK Mc 4) (hl : Cond.methodLink M.1.cls idx Mc.1 ∈ gw ∧ Cond.instanceMethod Mc.1 ∈ gw ∧ Cond.selects Mc.1.cls Mc.1 Mc.1 ∈ gw) (hci : ci < 13) (hc : vwCl[ci]? = some (C, T, N)) (hC : C = Mc.1.cls) (hs : h.1[k0]? = some (ci, nk)) (hf : ((Value.ref k0 :: [a1, a2, a3, a4]).flatMap sl1).length ≤ Mc.2.2.1) (hst : stOK st) (c : Rp d Mc 0 (entL (.ref k0 :: [a1, a2, a3, a4]) Mc.2.2.1) [] h Pc) (k : ∀ v1 h1, Pc v1 h1 → (gS h1 = gS h ∧ h.1 <+: h1.1) → Rp (d + 1) M (pc + 3) ls (v1.toList ++ st) h1 P) : Rp (d + 1) M pc ls (a4 :: a3 :: a2 :: a1 :: .ref k0 :: st) h P := Rp.callV' [a1, a2, a3, a4] hd hm hl hci hc hC hs rfl hf hst c k
theorem Rp.callV5 {d : Nat} {M : MT} (Mc : MT) {pc idx : Nat} {ls : List (Option Value)} {st : List Value} {h : AH} {P Pc : Option Value → AH → Prop} {a1 a2 a3 a4 a5 : Value} {k0 ci nk : Nat} {C : String} {T : u_T} {N : Nat} (hd : decode M.2.1 pc = .ok (.invokevirtual idx, 3)) (hm : mOK Mc 5) (hl : Cond.methodLink M.1.cls idx Mc.1 ∈ gw ∧ Cond.instanceMethod Mc.1 ∈ gw ∧ Cond.selects Mc.1.cls Mc.1 Mc.1 ∈ gw) (hci : ci < 13) (hc : vwCl[ci]? = some (C, T, N)) (hC : C = Mc.1.cls) (hs : h.1[k0]? = some (ci, nk)) (hf : ((Value.ref k0 :: [a1, a2, a3, a4, a5]).flatMap sl1).length ≤ Mc.2.2.1) (hst : stOK st) (c : Rp d Mc 0 (entL (.ref k0 :: [a1, a2, a3, a4, a5]) Mc.2.2.1) [] h Pc) (k : ∀ v1 h1, Pc v1 h1 → (gS h1 = gS h ∧ h.1 <+: h1.1) → Rp (d + 1) M (pc + 3) ls (v1.toList ++ st) h1 P) : Rp (d + 1) M pc ls (a5 :: a4 :: a3 :: a2 :: a1 :: .ref k0 :: st) h P := Rp.callV' [a1, a2, a3, a4, a5] hd hm hl hci hc hC hs rfl hf hst c k
theorem Rp.callV6 {d : Nat} {M : MT} (Mc : MT) {pc idx : Nat} {ls : List (Option Value)} {st : List Value} {h : AH} {P Pc : Option Value → AH → Prop} {a1 a2 a3 a4 a5 a6 : Value} {k0 ci nk : Nat} {C : String} {T : u_T} {N : Nat} (hd : decode M.2.1 pc = .ok (.invokevirtual idx, 3)) (hm : mOK Mc 6) (hl : Cond.methodLink M.1.cls idx Mc.1 ∈ gw ∧ Cond.instanceMethod Mc.1 ∈ gw ∧ Cond.selects Mc.1.cls Mc.1 Mc.1 ∈ gw) (hci : ci < 13) (hc : vwCl[ci]? = some (C, T, N)) (hC : C = Mc.1.cls) (hs : h.1[k0]? = some (ci, nk)) (hf : ((Value.ref k0 :: [a1, a2, a3, a4, a5, a6]).flatMap sl1).length ≤ Mc.2.2.1) (hst : stOK st) (c : Rp d Mc 0 (entL (.ref k0 :: [a1, a2, a3, a4, a5, a6]) Mc.2.2.1) [] h Pc) (k : ∀ v1 h1, Pc v1 h1 → (gS h1 = gS h ∧ h.1 <+: h1.1) → Rp (d + 1) M (pc + 3) ls (v1.toList ++ st) h1 P) : Rp (d + 1) M pc ls (a6 :: a5 :: a4 :: a3 :: a2 :: a1 :: .ref k0 :: st) h P := Rp.callV' [a1, a2, a3, a4, a5, a6] hd hm hl hci hc hC hs rfl hf hst c k
theorem Rp.callV7 {d : Nat} {M : MT} (Mc : MT) {pc idx : Nat} {ls : List (Option Value)} {st : List Value} {h : AH} {P Pc : Option Value → AH → Prop} {a1 a2 a3 a4 a5 a6 a7 : Value} {k0 ci nk : Nat} {C : String} {T : u_T} {N : Nat} (hd : decode M.2.1 pc = .ok (.invokevirtual idx, 3)) (hm : mOK Mc 7) (hl : Cond.methodLink M.1.cls idx Mc.1 ∈ gw ∧ Cond.instanceMethod Mc.1 ∈ gw ∧ Cond.selects Mc.1.cls Mc.1 Mc.1 ∈ gw) (hci : ci < 13) (hc : vwCl[ci]? = some (C, T, N)) (hC : C = Mc.1.cls) (hs : h.1[k0]? = some (ci, nk)) (hf : ((Value.ref k0 :: [a1, a2, a3, a4, a5, a6, a7]).flatMap sl1).length ≤ Mc.2.2.1) (hst : stOK st) (c : Rp d Mc 0 (entL (.ref k0 :: [a1, a2, a3, a4, a5, a6, a7]) Mc.2.2.1) [] h Pc) (k : ∀ v1 h1, Pc v1 h1 → (gS h1 = gS h ∧ h.1 <+: h1.1) → Rp (d + 1) M (pc + 3) ls (v1.toList ++ st) h1 P) : Rp (d + 1) M pc ls (a7 :: a6 :: a5 :: a4 :: a3 :: a2 :: a1 :: .ref k0 :: st) h P := Rp.callV' [a1, a2, a3, a4, a5, a6, a7] hd hm hl hci hc hC hs rfl hf hst c k
theorem Rp.ist0 {d : Nat} {M : MT} {pc : Nat} {r : List (Option Value)} {st : List Value} {h : AH} {P : Option Value → AH → Prop} {a0 : Option Value} {x : Int32} (hd : decode M.2.1 pc = .ok (.istore_n 0, 1)) (hn : 0 < M.2.2.1) (k : Rp d M (pc + 1) (some (.int x) :: r) st h P) : Rp d M pc (a0 :: r) (.int x :: st) h P := by
  obtain ⟨v, h', r, p⟩ := k
  exact ⟨v, h', Rj.ist0 hd hn r, p⟩
theorem Rp.ast0 {d : Nat} {M : MT} {pc : Nat} {r : List (Option Value)} {st : List Value} {h : AH} {P : Option Value → AH → Prop} {a0 : Option Value} {x : Nat} (hd : decode M.2.1 pc = .ok (.astore_n 0, 1)) (hn : 0 < M.2.2.1) (k : Rp d M (pc + 1) (some (.ref x) :: r) st h P) : Rp d M pc (a0 :: r) (.ref x :: st) h P := by
  obtain ⟨v, h', r, p⟩ := k
  exact ⟨v, h', Rj.ast0 hd hn r, p⟩
theorem Rp.lst0 {d : Nat} {M : MT} {pc : Nat} {r : List (Option Value)} {st : List Value} {h : AH} {P : Option Value → AH → Prop} {a0 a1 : Option Value} {x : Int64} (hd : decode M.2.1 pc = .ok (.lstore_n 0, 1)) (hn : 0 + 1 < M.2.2.1) (k : Rp d M (pc + 1) (some (.long x) :: none :: r) st h P) : Rp d M pc (a0 :: a1 :: r) (.long x :: st) h P := by
  obtain ⟨v, h', r, p⟩ := k
  exact ⟨v, h', Rj.lst0 hd hn r, p⟩
theorem Rp.inc0 {d : Nat} {M : MT} {pc : Nat} {r : List (Option Value)} {st : List Value} {h : AH} {P : Option Value → AH → Prop}  {x : Int32} {n : Int} (y : Int32) (hd : decode M.2.1 pc = .ok (.iinc 0 n, 3)) (hy : x + Int32.ofInt n = y) (hn : 0 < M.2.2.1) (k : Rp d M (pc + 3) (some (.int y) :: r) st h P) : Rp d M pc (some (.int x) :: r) st h P := by
  subst hy
  obtain ⟨v, h', r, p⟩ := k
  exact ⟨v, h', Rj.inc0 hd hn r, p⟩
theorem Rp.ist1 {d : Nat} {M : MT} {pc : Nat} {r : List (Option Value)} {st : List Value} {h : AH} {P : Option Value → AH → Prop} {a0 a1 : Option Value} {x : Int32} (hd : decode M.2.1 pc = .ok (.istore_n 1, 1)) (hp : nl2 a0) (hn : 1 < M.2.2.1) (k : Rp d M (pc + 1) (a0 :: some (.int x) :: r) st h P) : Rp d M pc (a0 :: a1 :: r) (.int x :: st) h P := by
  obtain ⟨v, h', r, p⟩ := k
  exact ⟨v, h', Rj.ist1 hd hp hn r, p⟩
theorem Rp.ast1 {d : Nat} {M : MT} {pc : Nat} {r : List (Option Value)} {st : List Value} {h : AH} {P : Option Value → AH → Prop} {a0 a1 : Option Value} {x : Nat} (hd : decode M.2.1 pc = .ok (.astore_n 1, 1)) (hp : nl2 a0) (hn : 1 < M.2.2.1) (k : Rp d M (pc + 1) (a0 :: some (.ref x) :: r) st h P) : Rp d M pc (a0 :: a1 :: r) (.ref x :: st) h P := by
  obtain ⟨v, h', r, p⟩ := k
  exact ⟨v, h', Rj.ast1 hd hp hn r, p⟩
theorem Rp.lst1 {d : Nat} {M : MT} {pc : Nat} {r : List (Option Value)} {st : List Value} {h : AH} {P : Option Value → AH → Prop} {a0 a1 a2 : Option Value} {x : Int64} (hd : decode M.2.1 pc = .ok (.lstore_n 1, 1)) (hp : nl2 a0) (hn : 1 + 1 < M.2.2.1) (k : Rp d M (pc + 1) (a0 :: some (.long x) :: none :: r) st h P) : Rp d M pc (a0 :: a1 :: a2 :: r) (.long x :: st) h P := by
  obtain ⟨v, h', r, p⟩ := k
  exact ⟨v, h', Rj.lst1 hd hp hn r, p⟩
theorem Rp.inc1 {d : Nat} {M : MT} {pc : Nat} {r : List (Option Value)} {st : List Value} {h : AH} {P : Option Value → AH → Prop} {a0 : Option Value} {x : Int32} {n : Int} (y : Int32) (hd : decode M.2.1 pc = .ok (.iinc 1 n, 3)) (hy : x + Int32.ofInt n = y) (hp : nl2 a0) (hn : 1 < M.2.2.1) (k : Rp d M (pc + 3) (a0 :: some (.int y) :: r) st h P) : Rp d M pc (a0 :: some (.int x) :: r) st h P := by
  subst hy
  obtain ⟨v, h', r, p⟩ := k
  exact ⟨v, h', Rj.inc1 hd hp hn r, p⟩
theorem Rp.ist2 {d : Nat} {M : MT} {pc : Nat} {r : List (Option Value)} {st : List Value} {h : AH} {P : Option Value → AH → Prop} {a0 a1 a2 : Option Value} {x : Int32} (hd : decode M.2.1 pc = .ok (.istore_n 2, 1)) (hp : nl2 a1) (hn : 2 < M.2.2.1) (k : Rp d M (pc + 1) (a0 :: a1 :: some (.int x) :: r) st h P) : Rp d M pc (a0 :: a1 :: a2 :: r) (.int x :: st) h P := by
  obtain ⟨v, h', r, p⟩ := k
  exact ⟨v, h', Rj.ist2 hd hp hn r, p⟩
theorem Rp.ast2 {d : Nat} {M : MT} {pc : Nat} {r : List (Option Value)} {st : List Value} {h : AH} {P : Option Value → AH → Prop} {a0 a1 a2 : Option Value} {x : Nat} (hd : decode M.2.1 pc = .ok (.astore_n 2, 1)) (hp : nl2 a1) (hn : 2 < M.2.2.1) (k : Rp d M (pc + 1) (a0 :: a1 :: some (.ref x) :: r) st h P) : Rp d M pc (a0 :: a1 :: a2 :: r) (.ref x :: st) h P := by
  obtain ⟨v, h', r, p⟩ := k
  exact ⟨v, h', Rj.ast2 hd hp hn r, p⟩
theorem Rp.lst2 {d : Nat} {M : MT} {pc : Nat} {r : List (Option Value)} {st : List Value} {h : AH} {P : Option Value → AH → Prop} {a0 a1 a2 a3 : Option Value} {x : Int64} (hd : decode M.2.1 pc = .ok (.lstore_n 2, 1)) (hp : nl2 a1) (hn : 2 + 1 < M.2.2.1) (k : Rp d M (pc + 1) (a0 :: a1 :: some (.long x) :: none :: r) st h P) : Rp d M pc (a0 :: a1 :: a2 :: a3 :: r) (.long x :: st) h P := by
  obtain ⟨v, h', r, p⟩ := k
  exact ⟨v, h', Rj.lst2 hd hp hn r, p⟩
theorem Rp.inc2 {d : Nat} {M : MT} {pc : Nat} {r : List (Option Value)} {st : List Value} {h : AH} {P : Option Value → AH → Prop} {a0 a1 : Option Value} {x : Int32} {n : Int} (y : Int32) (hd : decode M.2.1 pc = .ok (.iinc 2 n, 3)) (hy : x + Int32.ofInt n = y) (hp : nl2 a1) (hn : 2 < M.2.2.1) (k : Rp d M (pc + 3) (a0 :: a1 :: some (.int y) :: r) st h P) : Rp d M pc (a0 :: a1 :: some (.int x) :: r) st h P := by
  subst hy
  obtain ⟨v, h', r, p⟩ := k
  exact ⟨v, h', Rj.inc2 hd hp hn r, p⟩
theorem Rp.ist3 {d : Nat} {M : MT} {pc : Nat} {r : List (Option Value)} {st : List Value} {h : AH} {P : Option Value → AH → Prop} {a0 a1 a2 a3 : Option Value} {x : Int32} (hd : decode M.2.1 pc = .ok (.istore_n 3, 1)) (hp : nl2 a2) (hn : 3 < M.2.2.1) (k : Rp d M (pc + 1) (a0 :: a1 :: a2 :: some (.int x) :: r) st h P) : Rp d M pc (a0 :: a1 :: a2 :: a3 :: r) (.int x :: st) h P := by
  obtain ⟨v, h', r, p⟩ := k
  exact ⟨v, h', Rj.ist3 hd hp hn r, p⟩
theorem Rp.ast3 {d : Nat} {M : MT} {pc : Nat} {r : List (Option Value)} {st : List Value} {h : AH} {P : Option Value → AH → Prop} {a0 a1 a2 a3 : Option Value} {x : Nat} (hd : decode M.2.1 pc = .ok (.astore_n 3, 1)) (hp : nl2 a2) (hn : 3 < M.2.2.1) (k : Rp d M (pc + 1) (a0 :: a1 :: a2 :: some (.ref x) :: r) st h P) : Rp d M pc (a0 :: a1 :: a2 :: a3 :: r) (.ref x :: st) h P := by
  obtain ⟨v, h', r, p⟩ := k
  exact ⟨v, h', Rj.ast3 hd hp hn r, p⟩
theorem Rp.lst3 {d : Nat} {M : MT} {pc : Nat} {r : List (Option Value)} {st : List Value} {h : AH} {P : Option Value → AH → Prop} {a0 a1 a2 a3 a4 : Option Value} {x : Int64} (hd : decode M.2.1 pc = .ok (.lstore_n 3, 1)) (hp : nl2 a2) (hn : 3 + 1 < M.2.2.1) (k : Rp d M (pc + 1) (a0 :: a1 :: a2 :: some (.long x) :: none :: r) st h P) : Rp d M pc (a0 :: a1 :: a2 :: a3 :: a4 :: r) (.long x :: st) h P := by
  obtain ⟨v, h', r, p⟩ := k
  exact ⟨v, h', Rj.lst3 hd hp hn r, p⟩
theorem Rp.inc3 {d : Nat} {M : MT} {pc : Nat} {r : List (Option Value)} {st : List Value} {h : AH} {P : Option Value → AH → Prop} {a0 a1 a2 : Option Value} {x : Int32} {n : Int} (y : Int32) (hd : decode M.2.1 pc = .ok (.iinc 3 n, 3)) (hy : x + Int32.ofInt n = y) (hp : nl2 a2) (hn : 3 < M.2.2.1) (k : Rp d M (pc + 3) (a0 :: a1 :: a2 :: some (.int y) :: r) st h P) : Rp d M pc (a0 :: a1 :: a2 :: some (.int x) :: r) st h P := by
  subst hy
  obtain ⟨v, h', r, p⟩ := k
  exact ⟨v, h', Rj.inc3 hd hp hn r, p⟩
theorem Rp.ist4 {d : Nat} {M : MT} {pc : Nat} {r : List (Option Value)} {st : List Value} {h : AH} {P : Option Value → AH → Prop} {a0 a1 a2 a3 a4 : Option Value} {x : Int32} (hd : decode M.2.1 pc = .ok (.istore 4, 2)) (hp : nl2 a3) (hn : 4 < M.2.2.1) (k : Rp d M (pc + 2) (a0 :: a1 :: a2 :: a3 :: some (.int x) :: r) st h P) : Rp d M pc (a0 :: a1 :: a2 :: a3 :: a4 :: r) (.int x :: st) h P := by
  obtain ⟨v, h', r, p⟩ := k
  exact ⟨v, h', Rj.ist4 hd hp hn r, p⟩
theorem Rp.ast4 {d : Nat} {M : MT} {pc : Nat} {r : List (Option Value)} {st : List Value} {h : AH} {P : Option Value → AH → Prop} {a0 a1 a2 a3 a4 : Option Value} {x : Nat} (hd : decode M.2.1 pc = .ok (.astore 4, 2)) (hp : nl2 a3) (hn : 4 < M.2.2.1) (k : Rp d M (pc + 2) (a0 :: a1 :: a2 :: a3 :: some (.ref x) :: r) st h P) : Rp d M pc (a0 :: a1 :: a2 :: a3 :: a4 :: r) (.ref x :: st) h P := by
  obtain ⟨v, h', r, p⟩ := k
  exact ⟨v, h', Rj.ast4 hd hp hn r, p⟩
theorem Rp.lst4 {d : Nat} {M : MT} {pc : Nat} {r : List (Option Value)} {st : List Value} {h : AH} {P : Option Value → AH → Prop} {a0 a1 a2 a3 a4 a5 : Option Value} {x : Int64} (hd : decode M.2.1 pc = .ok (.lstore 4, 2)) (hp : nl2 a3) (hn : 4 + 1 < M.2.2.1) (k : Rp d M (pc + 2) (a0 :: a1 :: a2 :: a3 :: some (.long x) :: none :: r) st h P) : Rp d M pc (a0 :: a1 :: a2 :: a3 :: a4 :: a5 :: r) (.long x :: st) h P := by
  obtain ⟨v, h', r, p⟩ := k
  exact ⟨v, h', Rj.lst4 hd hp hn r, p⟩
theorem Rp.inc4 {d : Nat} {M : MT} {pc : Nat} {r : List (Option Value)} {st : List Value} {h : AH} {P : Option Value → AH → Prop} {a0 a1 a2 a3 : Option Value} {x : Int32} {n : Int} (y : Int32) (hd : decode M.2.1 pc = .ok (.iinc 4 n, 3)) (hy : x + Int32.ofInt n = y) (hp : nl2 a3) (hn : 4 < M.2.2.1) (k : Rp d M (pc + 3) (a0 :: a1 :: a2 :: a3 :: some (.int y) :: r) st h P) : Rp d M pc (a0 :: a1 :: a2 :: a3 :: some (.int x) :: r) st h P := by
  subst hy
  obtain ⟨v, h', r, p⟩ := k
  exact ⟨v, h', Rj.inc4 hd hp hn r, p⟩
theorem Rp.ist5 {d : Nat} {M : MT} {pc : Nat} {r : List (Option Value)} {st : List Value} {h : AH} {P : Option Value → AH → Prop} {a0 a1 a2 a3 a4 a5 : Option Value} {x : Int32} (hd : decode M.2.1 pc = .ok (.istore 5, 2)) (hp : nl2 a4) (hn : 5 < M.2.2.1) (k : Rp d M (pc + 2) (a0 :: a1 :: a2 :: a3 :: a4 :: some (.int x) :: r) st h P) : Rp d M pc (a0 :: a1 :: a2 :: a3 :: a4 :: a5 :: r) (.int x :: st) h P := by
  obtain ⟨v, h', r, p⟩ := k
  exact ⟨v, h', Rj.ist5 hd hp hn r, p⟩
theorem Rp.ast5 {d : Nat} {M : MT} {pc : Nat} {r : List (Option Value)} {st : List Value} {h : AH} {P : Option Value → AH → Prop} {a0 a1 a2 a3 a4 a5 : Option Value} {x : Nat} (hd : decode M.2.1 pc = .ok (.astore 5, 2)) (hp : nl2 a4) (hn : 5 < M.2.2.1) (k : Rp d M (pc + 2) (a0 :: a1 :: a2 :: a3 :: a4 :: some (.ref x) :: r) st h P) : Rp d M pc (a0 :: a1 :: a2 :: a3 :: a4 :: a5 :: r) (.ref x :: st) h P := by
  obtain ⟨v, h', r, p⟩ := k
  exact ⟨v, h', Rj.ast5 hd hp hn r, p⟩
theorem Rp.lst5 {d : Nat} {M : MT} {pc : Nat} {r : List (Option Value)} {st : List Value} {h : AH} {P : Option Value → AH → Prop} {a0 a1 a2 a3 a4 a5 a6 : Option Value} {x : Int64} (hd : decode M.2.1 pc = .ok (.lstore 5, 2)) (hp : nl2 a4) (hn : 5 + 1 < M.2.2.1) (k : Rp d M (pc + 2) (a0 :: a1 :: a2 :: a3 :: a4 :: some (.long x) :: none :: r) st h P) : Rp d M pc (a0 :: a1 :: a2 :: a3 :: a4 :: a5 :: a6 :: r) (.long x :: st) h P := by
  obtain ⟨v, h', r, p⟩ := k
  exact ⟨v, h', Rj.lst5 hd hp hn r, p⟩
theorem Rp.inc5 {d : Nat} {M : MT} {pc : Nat} {r : List (Option Value)} {st : List Value} {h : AH} {P : Option Value → AH → Prop} {a0 a1 a2 a3 a4 : Option Value} {x : Int32} {n : Int} (y : Int32) (hd : decode M.2.1 pc = .ok (.iinc 5 n, 3)) (hy : x + Int32.ofInt n = y) (hp : nl2 a4) (hn : 5 < M.2.2.1) (k : Rp d M (pc + 3) (a0 :: a1 :: a2 :: a3 :: a4 :: some (.int y) :: r) st h P) : Rp d M pc (a0 :: a1 :: a2 :: a3 :: a4 :: some (.int x) :: r) st h P := by
  subst hy
  obtain ⟨v, h', r, p⟩ := k
  exact ⟨v, h', Rj.inc5 hd hp hn r, p⟩
theorem Rp.ist6 {d : Nat} {M : MT} {pc : Nat} {r : List (Option Value)} {st : List Value} {h : AH} {P : Option Value → AH → Prop} {a0 a1 a2 a3 a4 a5 a6 : Option Value} {x : Int32} (hd : decode M.2.1 pc = .ok (.istore 6, 2)) (hp : nl2 a5) (hn : 6 < M.2.2.1) (k : Rp d M (pc + 2) (a0 :: a1 :: a2 :: a3 :: a4 :: a5 :: some (.int x) :: r) st h P) : Rp d M pc (a0 :: a1 :: a2 :: a3 :: a4 :: a5 :: a6 :: r) (.int x :: st) h P := by
  obtain ⟨v, h', r, p⟩ := k
  exact ⟨v, h', Rj.ist6 hd hp hn r, p⟩
theorem Rp.ast6 {d : Nat} {M : MT} {pc : Nat} {r : List (Option Value)} {st : List Value} {h : AH} {P : Option Value → AH → Prop} {a0 a1 a2 a3 a4 a5 a6 : Option Value} {x : Nat} (hd : decode M.2.1 pc = .ok (.astore 6, 2)) (hp : nl2 a5) (hn : 6 < M.2.2.1) (k : Rp d M (pc + 2) (a0 :: a1 :: a2 :: a3 :: a4 :: a5 :: some (.ref x) :: r) st h P) : Rp d M pc (a0 :: a1 :: a2 :: a3 :: a4 :: a5 :: a6 :: r) (.ref x :: st) h P := by
  obtain ⟨v, h', r, p⟩ := k
  exact ⟨v, h', Rj.ast6 hd hp hn r, p⟩
theorem Rp.lst6 {d : Nat} {M : MT} {pc : Nat} {r : List (Option Value)} {st : List Value} {h : AH} {P : Option Value → AH → Prop} {a0 a1 a2 a3 a4 a5 a6 a7 : Option Value} {x : Int64} (hd : decode M.2.1 pc = .ok (.lstore 6, 2)) (hp : nl2 a5) (hn : 6 + 1 < M.2.2.1) (k : Rp d M (pc + 2) (a0 :: a1 :: a2 :: a3 :: a4 :: a5 :: some (.long x) :: none :: r) st h P) : Rp d M pc (a0 :: a1 :: a2 :: a3 :: a4 :: a5 :: a6 :: a7 :: r) (.long x :: st) h P := by
  obtain ⟨v, h', r, p⟩ := k
  exact ⟨v, h', Rj.lst6 hd hp hn r, p⟩
theorem Rp.inc6 {d : Nat} {M : MT} {pc : Nat} {r : List (Option Value)} {st : List Value} {h : AH} {P : Option Value → AH → Prop} {a0 a1 a2 a3 a4 a5 : Option Value} {x : Int32} {n : Int} (y : Int32) (hd : decode M.2.1 pc = .ok (.iinc 6 n, 3)) (hy : x + Int32.ofInt n = y) (hp : nl2 a5) (hn : 6 < M.2.2.1) (k : Rp d M (pc + 3) (a0 :: a1 :: a2 :: a3 :: a4 :: a5 :: some (.int y) :: r) st h P) : Rp d M pc (a0 :: a1 :: a2 :: a3 :: a4 :: a5 :: some (.int x) :: r) st h P := by
  subst hy
  obtain ⟨v, h', r, p⟩ := k
  exact ⟨v, h', Rj.inc6 hd hp hn r, p⟩
theorem Rp.ist7 {d : Nat} {M : MT} {pc : Nat} {r : List (Option Value)} {st : List Value} {h : AH} {P : Option Value → AH → Prop} {a0 a1 a2 a3 a4 a5 a6 a7 : Option Value} {x : Int32} (hd : decode M.2.1 pc = .ok (.istore 7, 2)) (hp : nl2 a6) (hn : 7 < M.2.2.1) (k : Rp d M (pc + 2) (a0 :: a1 :: a2 :: a3 :: a4 :: a5 :: a6 :: some (.int x) :: r) st h P) : Rp d M pc (a0 :: a1 :: a2 :: a3 :: a4 :: a5 :: a6 :: a7 :: r) (.int x :: st) h P := by
  obtain ⟨v, h', r, p⟩ := k
  exact ⟨v, h', Rj.ist7 hd hp hn r, p⟩
theorem Rp.ast7 {d : Nat} {M : MT} {pc : Nat} {r : List (Option Value)} {st : List Value} {h : AH} {P : Option Value → AH → Prop} {a0 a1 a2 a3 a4 a5 a6 a7 : Option Value} {x : Nat} (hd : decode M.2.1 pc = .ok (.astore 7, 2)) (hp : nl2 a6) (hn : 7 < M.2.2.1) (k : Rp d M (pc + 2) (a0 :: a1 :: a2 :: a3 :: a4 :: a5 :: a6 :: some (.ref x) :: r) st h P) : Rp d M pc (a0 :: a1 :: a2 :: a3 :: a4 :: a5 :: a6 :: a7 :: r) (.ref x :: st) h P := by
  obtain ⟨v, h', r, p⟩ := k
  exact ⟨v, h', Rj.ast7 hd hp hn r, p⟩
theorem Rp.lst7 {d : Nat} {M : MT} {pc : Nat} {r : List (Option Value)} {st : List Value} {h : AH} {P : Option Value → AH → Prop} {a0 a1 a2 a3 a4 a5 a6 a7 a8 : Option Value} {x : Int64} (hd : decode M.2.1 pc = .ok (.lstore 7, 2)) (hp : nl2 a6) (hn : 7 + 1 < M.2.2.1) (k : Rp d M (pc + 2) (a0 :: a1 :: a2 :: a3 :: a4 :: a5 :: a6 :: some (.long x) :: none :: r) st h P) : Rp d M pc (a0 :: a1 :: a2 :: a3 :: a4 :: a5 :: a6 :: a7 :: a8 :: r) (.long x :: st) h P := by
  obtain ⟨v, h', r, p⟩ := k
  exact ⟨v, h', Rj.lst7 hd hp hn r, p⟩
theorem Rp.inc7 {d : Nat} {M : MT} {pc : Nat} {r : List (Option Value)} {st : List Value} {h : AH} {P : Option Value → AH → Prop} {a0 a1 a2 a3 a4 a5 a6 : Option Value} {x : Int32} {n : Int} (y : Int32) (hd : decode M.2.1 pc = .ok (.iinc 7 n, 3)) (hy : x + Int32.ofInt n = y) (hp : nl2 a6) (hn : 7 < M.2.2.1) (k : Rp d M (pc + 3) (a0 :: a1 :: a2 :: a3 :: a4 :: a5 :: a6 :: some (.int y) :: r) st h P) : Rp d M pc (a0 :: a1 :: a2 :: a3 :: a4 :: a5 :: a6 :: some (.int x) :: r) st h P := by
  subst hy
  obtain ⟨v, h', r, p⟩ := k
  exact ⟨v, h', Rj.inc7 hd hp hn r, p⟩
theorem Rp.ist8 {d : Nat} {M : MT} {pc : Nat} {r : List (Option Value)} {st : List Value} {h : AH} {P : Option Value → AH → Prop} {a0 a1 a2 a3 a4 a5 a6 a7 a8 : Option Value} {x : Int32} (hd : decode M.2.1 pc = .ok (.istore 8, 2)) (hp : nl2 a7) (hn : 8 < M.2.2.1) (k : Rp d M (pc + 2) (a0 :: a1 :: a2 :: a3 :: a4 :: a5 :: a6 :: a7 :: some (.int x) :: r) st h P) : Rp d M pc (a0 :: a1 :: a2 :: a3 :: a4 :: a5 :: a6 :: a7 :: a8 :: r) (.int x :: st) h P := by
  obtain ⟨v, h', r, p⟩ := k
  exact ⟨v, h', Rj.ist8 hd hp hn r, p⟩
theorem Rp.ast8 {d : Nat} {M : MT} {pc : Nat} {r : List (Option Value)} {st : List Value} {h : AH} {P : Option Value → AH → Prop} {a0 a1 a2 a3 a4 a5 a6 a7 a8 : Option Value} {x : Nat} (hd : decode M.2.1 pc = .ok (.astore 8, 2)) (hp : nl2 a7) (hn : 8 < M.2.2.1) (k : Rp d M (pc + 2) (a0 :: a1 :: a2 :: a3 :: a4 :: a5 :: a6 :: a7 :: some (.ref x) :: r) st h P) : Rp d M pc (a0 :: a1 :: a2 :: a3 :: a4 :: a5 :: a6 :: a7 :: a8 :: r) (.ref x :: st) h P := by
  obtain ⟨v, h', r, p⟩ := k
  exact ⟨v, h', Rj.ast8 hd hp hn r, p⟩
theorem Rp.lst8 {d : Nat} {M : MT} {pc : Nat} {r : List (Option Value)} {st : List Value} {h : AH} {P : Option Value → AH → Prop} {a0 a1 a2 a3 a4 a5 a6 a7 a8 a9 : Option Value} {x : Int64} (hd : decode M.2.1 pc = .ok (.lstore 8, 2)) (hp : nl2 a7) (hn : 8 + 1 < M.2.2.1) (k : Rp d M (pc + 2) (a0 :: a1 :: a2 :: a3 :: a4 :: a5 :: a6 :: a7 :: some (.long x) :: none :: r) st h P) : Rp d M pc (a0 :: a1 :: a2 :: a3 :: a4 :: a5 :: a6 :: a7 :: a8 :: a9 :: r) (.long x :: st) h P := by
  obtain ⟨v, h', r, p⟩ := k
  exact ⟨v, h', Rj.lst8 hd hp hn r, p⟩
theorem Rp.inc8 {d : Nat} {M : MT} {pc : Nat} {r : List (Option Value)} {st : List Value} {h : AH} {P : Option Value → AH → Prop} {a0 a1 a2 a3 a4 a5 a6 a7 : Option Value} {x : Int32} {n : Int} (y : Int32) (hd : decode M.2.1 pc = .ok (.iinc 8 n, 3)) (hy : x + Int32.ofInt n = y) (hp : nl2 a7) (hn : 8 < M.2.2.1) (k : Rp d M (pc + 3) (a0 :: a1 :: a2 :: a3 :: a4 :: a5 :: a6 :: a7 :: some (.int y) :: r) st h P) : Rp d M pc (a0 :: a1 :: a2 :: a3 :: a4 :: a5 :: a6 :: a7 :: some (.int x) :: r) st h P := by
  subst hy
  obtain ⟨v, h', r, p⟩ := k
  exact ⟨v, h', Rj.inc8 hd hp hn r, p⟩
theorem Rp.ist9 {d : Nat} {M : MT} {pc : Nat} {r : List (Option Value)} {st : List Value} {h : AH} {P : Option Value → AH → Prop} {a0 a1 a2 a3 a4 a5 a6 a7 a8 a9 : Option Value} {x : Int32} (hd : decode M.2.1 pc = .ok (.istore 9, 2)) (hp : nl2 a8) (hn : 9 < M.2.2.1) (k : Rp d M (pc + 2) (a0 :: a1 :: a2 :: a3 :: a4 :: a5 :: a6 :: a7 :: a8 :: some (.int x) :: r) st h P) : Rp d M pc (a0 :: a1 :: a2 :: a3 :: a4 :: a5 :: a6 :: a7 :: a8 :: a9 :: r) (.int x :: st) h P := by
  obtain ⟨v, h', r, p⟩ := k
  exact ⟨v, h', Rj.ist9 hd hp hn r, p⟩
theorem Rp.ast9 {d : Nat} {M : MT} {pc : Nat} {r : List (Option Value)} {st : List Value} {h : AH} {P : Option Value → AH → Prop} {a0 a1 a2 a3 a4 a5 a6 a7 a8 a9 : Option Value} {x : Nat} (hd : decode M.2.1 pc = .ok (.astore 9, 2)) (hp : nl2 a8) (hn : 9 < M.2.2.1) (k : Rp d M (pc + 2) (a0 :: a1 :: a2 :: a3 :: a4 :: a5 :: a6 :: a7 :: a8 :: some (.ref x) :: r) st h P) : Rp d M pc (a0 :: a1 :: a2 :: a3 :: a4 :: a5 :: a6 :: a7 :: a8 :: a9 :: r) (.ref x :: st) h P := by
  obtain ⟨v, h', r, p⟩ := k
  exact ⟨v, h', Rj.ast9 hd hp hn r, p⟩
theorem Rp.lst9 {d : Nat} {M : MT} {pc : Nat} {r : List (Option Value)} {st : List Value} {h : AH} {P : Option Value → AH → Prop} {a0 a1 a2 a3 a4 a5 a6 a7 a8 a9 a10 : Option Value} {x : Int64} (hd : decode M.2.1 pc = .ok (.lstore 9, 2)) (hp : nl2 a8) (hn : 9 + 1 < M.2.2.1) (k : Rp d M (pc + 2) (a0 :: a1 :: a2 :: a3 :: a4 :: a5 :: a6 :: a7 :: a8 :: some (.long x) :: none :: r) st h P) : Rp d M pc (a0 :: a1 :: a2 :: a3 :: a4 :: a5 :: a6 :: a7 :: a8 :: a9 :: a10 :: r) (.long x :: st) h P := by
  obtain ⟨v, h', r, p⟩ := k
  exact ⟨v, h', Rj.lst9 hd hp hn r, p⟩
theorem Rp.inc9 {d : Nat} {M : MT} {pc : Nat} {r : List (Option Value)} {st : List Value} {h : AH} {P : Option Value → AH → Prop} {a0 a1 a2 a3 a4 a5 a6 a7 a8 : Option Value} {x : Int32} {n : Int} (y : Int32) (hd : decode M.2.1 pc = .ok (.iinc 9 n, 3)) (hy : x + Int32.ofInt n = y) (hp : nl2 a8) (hn : 9 < M.2.2.1) (k : Rp d M (pc + 3) (a0 :: a1 :: a2 :: a3 :: a4 :: a5 :: a6 :: a7 :: a8 :: some (.int y) :: r) st h P) : Rp d M pc (a0 :: a1 :: a2 :: a3 :: a4 :: a5 :: a6 :: a7 :: a8 :: some (.int x) :: r) st h P := by
  subst hy
  obtain ⟨v, h', r, p⟩ := k
  exact ⟨v, h', Rj.inc9 hd hp hn r, p⟩
theorem Rp.ist10 {d : Nat} {M : MT} {pc : Nat} {r : List (Option Value)} {st : List Value} {h : AH} {P : Option Value → AH → Prop} {a0 a1 a2 a3 a4 a5 a6 a7 a8 a9 a10 : Option Value} {x : Int32} (hd : decode M.2.1 pc = .ok (.istore 10, 2)) (hp : nl2 a9) (hn : 10 < M.2.2.1) (k : Rp d M (pc + 2) (a0 :: a1 :: a2 :: a3 :: a4 :: a5 :: a6 :: a7 :: a8 :: a9 :: some (.int x) :: r) st h P) : Rp d M pc (a0 :: a1 :: a2 :: a3 :: a4 :: a5 :: a6 :: a7 :: a8 :: a9 :: a10 :: r) (.int x :: st) h P := by
  obtain ⟨v, h', r, p⟩ := k
  exact ⟨v, h', Rj.ist10 hd hp hn r, p⟩
theorem Rp.ast10 {d : Nat} {M : MT} {pc : Nat} {r : List (Option Value)} {st : List Value} {h : AH} {P : Option Value → AH → Prop} {a0 a1 a2 a3 a4 a5 a6 a7 a8 a9 a10 : Option Value} {x : Nat} (hd : decode M.2.1 pc = .ok (.astore 10, 2)) (hp : nl2 a9) (hn : 10 < M.2.2.1) (k : Rp d M (pc + 2) (a0 :: a1 :: a2 :: a3 :: a4 :: a5 :: a6 :: a7 :: a8 :: a9 :: some (.ref x) :: r) st h P) : Rp d M pc (a0 :: a1 :: a2 :: a3 :: a4 :: a5 :: a6 :: a7 :: a8 :: a9 :: a10 :: r) (.ref x :: st) h P := by
  obtain ⟨v, h', r, p⟩ := k
  exact ⟨v, h', Rj.ast10 hd hp hn r, p⟩
theorem Rp.lst10 {d : Nat} {M : MT} {pc : Nat} {r : List (Option Value)} {st : List Value} {h : AH} {P : Option Value → AH → Prop} {a0 a1 a2 a3 a4 a5 a6 a7 a8 a9 a10 a11 : Option Value} {x : Int64} (hd : decode M.2.1 pc = .ok (.lstore 10, 2)) (hp : nl2 a9) (hn : 10 + 1 < M.2.2.1) (k : Rp d M (pc + 2) (a0 :: a1 :: a2 :: a3 :: a4 :: a5 :: a6 :: a7 :: a8 :: a9 :: some (.long x) :: none :: r) st h P) : Rp d M pc (a0 :: a1 :: a2 :: a3 :: a4 :: a5 :: a6 :: a7 :: a8 :: a9 :: a10 :: a11 :: r) (.long x :: st) h P := by
  obtain ⟨v, h', r, p⟩ := k
  exact ⟨v, h', Rj.lst10 hd hp hn r, p⟩
theorem Rp.inc10 {d : Nat} {M : MT} {pc : Nat} {r : List (Option Value)} {st : List Value} {h : AH} {P : Option Value → AH → Prop} {a0 a1 a2 a3 a4 a5 a6 a7 a8 a9 : Option Value} {x : Int32} {n : Int} (y : Int32) (hd : decode M.2.1 pc = .ok (.iinc 10 n, 3)) (hy : x + Int32.ofInt n = y) (hp : nl2 a9) (hn : 10 < M.2.2.1) (k : Rp d M (pc + 3) (a0 :: a1 :: a2 :: a3 :: a4 :: a5 :: a6 :: a7 :: a8 :: a9 :: some (.int y) :: r) st h P) : Rp d M pc (a0 :: a1 :: a2 :: a3 :: a4 :: a5 :: a6 :: a7 :: a8 :: a9 :: some (.int x) :: r) st h P := by
  subst hy
  obtain ⟨v, h', r, p⟩ := k
  exact ⟨v, h', Rj.inc10 hd hp hn r, p⟩
theorem Rp.ist11 {d : Nat} {M : MT} {pc : Nat} {r : List (Option Value)} {st : List Value} {h : AH} {P : Option Value → AH → Prop} {a0 a1 a2 a3 a4 a5 a6 a7 a8 a9 a10 a11 : Option Value} {x : Int32} (hd : decode M.2.1 pc = .ok (.istore 11, 2)) (hp : nl2 a10) (hn : 11 < M.2.2.1) (k : Rp d M (pc + 2) (a0 :: a1 :: a2 :: a3 :: a4 :: a5 :: a6 :: a7 :: a8 :: a9 :: a10 :: some (.int x) :: r) st h P) : Rp d M pc (a0 :: a1 :: a2 :: a3 :: a4 :: a5 :: a6 :: a7 :: a8 :: a9 :: a10 :: a11 :: r) (.int x :: st) h P := by
  obtain ⟨v, h', r, p⟩ := k
  exact ⟨v, h', Rj.ist11 hd hp hn r, p⟩
theorem Rp.ast11 {d : Nat} {M : MT} {pc : Nat} {r : List (Option Value)} {st : List Value} {h : AH} {P : Option Value → AH → Prop} {a0 a1 a2 a3 a4 a5 a6 a7 a8 a9 a10 a11 : Option Value} {x : Nat} (hd : decode M.2.1 pc = .ok (.astore 11, 2)) (hp : nl2 a10) (hn : 11 < M.2.2.1) (k : Rp d M (pc + 2) (a0 :: a1 :: a2 :: a3 :: a4 :: a5 :: a6 :: a7 :: a8 :: a9 :: a10 :: some (.ref x) :: r) st h P) : Rp d M pc (a0 :: a1 :: a2 :: a3 :: a4 :: a5 :: a6 :: a7 :: a8 :: a9 :: a10 :: a11 :: r) (.ref x :: st) h P := by
  obtain ⟨v, h', r, p⟩ := k
  exact ⟨v, h', Rj.ast11 hd hp hn r, p⟩
theorem Rp.lst11 {d : Nat} {M : MT} {pc : Nat} {r : List (Option Value)} {st : List Value} {h : AH} {P : Option Value → AH → Prop} {a0 a1 a2 a3 a4 a5 a6 a7 a8 a9 a10 a11 a12 : Option Value} {x : Int64} (hd : decode M.2.1 pc = .ok (.lstore 11, 2)) (hp : nl2 a10) (hn : 11 + 1 < M.2.2.1) (k : Rp d M (pc + 2) (a0 :: a1 :: a2 :: a3 :: a4 :: a5 :: a6 :: a7 :: a8 :: a9 :: a10 :: some (.long x) :: none :: r) st h P) : Rp d M pc (a0 :: a1 :: a2 :: a3 :: a4 :: a5 :: a6 :: a7 :: a8 :: a9 :: a10 :: a11 :: a12 :: r) (.long x :: st) h P := by
  obtain ⟨v, h', r, p⟩ := k
  exact ⟨v, h', Rj.lst11 hd hp hn r, p⟩
theorem Rp.inc11 {d : Nat} {M : MT} {pc : Nat} {r : List (Option Value)} {st : List Value} {h : AH} {P : Option Value → AH → Prop} {a0 a1 a2 a3 a4 a5 a6 a7 a8 a9 a10 : Option Value} {x : Int32} {n : Int} (y : Int32) (hd : decode M.2.1 pc = .ok (.iinc 11 n, 3)) (hy : x + Int32.ofInt n = y) (hp : nl2 a10) (hn : 11 < M.2.2.1) (k : Rp d M (pc + 3) (a0 :: a1 :: a2 :: a3 :: a4 :: a5 :: a6 :: a7 :: a8 :: a9 :: a10 :: some (.int y) :: r) st h P) : Rp d M pc (a0 :: a1 :: a2 :: a3 :: a4 :: a5 :: a6 :: a7 :: a8 :: a9 :: a10 :: some (.int x) :: r) st h P := by
  subst hy
  obtain ⟨v, h', r, p⟩ := k
  exact ⟨v, h', Rj.inc11 hd hp hn r, p⟩
theorem Rp.ist12 {d : Nat} {M : MT} {pc : Nat} {r : List (Option Value)} {st : List Value} {h : AH} {P : Option Value → AH → Prop} {a0 a1 a2 a3 a4 a5 a6 a7 a8 a9 a10 a11 a12 : Option Value} {x : Int32} (hd : decode M.2.1 pc = .ok (.istore 12, 2)) (hp : nl2 a11) (hn : 12 < M.2.2.1) (k : Rp d M (pc + 2) (a0 :: a1 :: a2 :: a3 :: a4 :: a5 :: a6 :: a7 :: a8 :: a9 :: a10 :: a11 :: some (.int x) :: r) st h P) : Rp d M pc (a0 :: a1 :: a2 :: a3 :: a4 :: a5 :: a6 :: a7 :: a8 :: a9 :: a10 :: a11 :: a12 :: r) (.int x :: st) h P := by
  obtain ⟨v, h', r, p⟩ := k
  exact ⟨v, h', Rj.ist12 hd hp hn r, p⟩
theorem Rp.ast12 {d : Nat} {M : MT} {pc : Nat} {r : List (Option Value)} {st : List Value} {h : AH} {P : Option Value → AH → Prop} {a0 a1 a2 a3 a4 a5 a6 a7 a8 a9 a10 a11 a12 : Option Value} {x : Nat} (hd : decode M.2.1 pc = .ok (.astore 12, 2)) (hp : nl2 a11) (hn : 12 < M.2.2.1) (k : Rp d M (pc + 2) (a0 :: a1 :: a2 :: a3 :: a4 :: a5 :: a6 :: a7 :: a8 :: a9 :: a10 :: a11 :: some (.ref x) :: r) st h P) : Rp d M pc (a0 :: a1 :: a2 :: a3 :: a4 :: a5 :: a6 :: a7 :: a8 :: a9 :: a10 :: a11 :: a12 :: r) (.ref x :: st) h P := by
  obtain ⟨v, h', r, p⟩ := k
  exact ⟨v, h', Rj.ast12 hd hp hn r, p⟩
theorem Rp.lst12 {d : Nat} {M : MT} {pc : Nat} {r : List (Option Value)} {st : List Value} {h : AH} {P : Option Value → AH → Prop} {a0 a1 a2 a3 a4 a5 a6 a7 a8 a9 a10 a11 a12 a13 : Option Value} {x : Int64} (hd : decode M.2.1 pc = .ok (.lstore 12, 2)) (hp : nl2 a11) (hn : 12 + 1 < M.2.2.1) (k : Rp d M (pc + 2) (a0 :: a1 :: a2 :: a3 :: a4 :: a5 :: a6 :: a7 :: a8 :: a9 :: a10 :: a11 :: some (.long x) :: none :: r) st h P) : Rp d M pc (a0 :: a1 :: a2 :: a3 :: a4 :: a5 :: a6 :: a7 :: a8 :: a9 :: a10 :: a11 :: a12 :: a13 :: r) (.long x :: st) h P := by
  obtain ⟨v, h', r, p⟩ := k
  exact ⟨v, h', Rj.lst12 hd hp hn r, p⟩
theorem Rp.inc12 {d : Nat} {M : MT} {pc : Nat} {r : List (Option Value)} {st : List Value} {h : AH} {P : Option Value → AH → Prop} {a0 a1 a2 a3 a4 a5 a6 a7 a8 a9 a10 a11 : Option Value} {x : Int32} {n : Int} (y : Int32) (hd : decode M.2.1 pc = .ok (.iinc 12 n, 3)) (hy : x + Int32.ofInt n = y) (hp : nl2 a11) (hn : 12 < M.2.2.1) (k : Rp d M (pc + 3) (a0 :: a1 :: a2 :: a3 :: a4 :: a5 :: a6 :: a7 :: a8 :: a9 :: a10 :: a11 :: some (.int y) :: r) st h P) : Rp d M pc (a0 :: a1 :: a2 :: a3 :: a4 :: a5 :: a6 :: a7 :: a8 :: a9 :: a10 :: a11 :: some (.int x) :: r) st h P := by
  subst hy
  obtain ⟨v, h', r, p⟩ := k
  exact ⟨v, h', Rj.inc12 hd hp hn r, p⟩
