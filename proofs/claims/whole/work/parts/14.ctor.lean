theorem sR_1 (h : AH) (k j : Nat) (x : Option Nat) : (sR h k j x).1 = h.1 := rfl
theorem sI_1 (h : AH) (k j : Nat) (x : Int32) : (sI h k j x).1 = h.1 := rfl
theorem sL_1 (h : AH) (k j : Nat) (x : Int64) : (sL h k j x).1 = h.1 := rfl
def fillI (h : AH) (a n : Nat) (x : Int32) : AH := (h.1, (fun k j => if k = a then (if j < n then x else h.2.1 k j) else h.2.1 k j), h.2.2.1, h.2.2.2)
theorem fillI_1 (h : AH) (a n : Nat) (x : Int32) : (fillI h a n x).1 = h.1 := rfl
theorem aN_sR (h : AH) (k j : Nat) (x : Option Nat) : aN (sR h k j x) = aN h := rfl
theorem aN_sI (h : AH) (k j : Nat) (x : Int32) : aN (sI h k j x) = aN h := rfl
theorem aN_fillI (h : AH) (a n : Nat) (x : Int32) : aN (fillI h a n x) = aN h := rfl
theorem sh_old {h : AH} {kd n k : Nat} {q : Nat × Nat} (hk : h.1[k]? = some q) : (aNew h kd n).1[k]? = some q := by
  show (h.1 ++ [(kd, n)])[k]? = some q
  rw [List.getElem?_append_left (List.getElem?_eq_some_iff.mp hk).1]
  exact hk
theorem sh_new {h : AH} {kd n a : Nat} (ha : aN h = a) : (aNew h kd n).1[a]? = some (kd, n) := by
  subst ha
  show (h.1 ++ [(kd, n)])[h.1.length]? = some (kd, n)
  rw [List.getElem?_append_right (Nat.le_refl _)]
  simp
theorem gR_sR (h : AH) (k j : Nat) (x : Option Nat) (a b : Nat) : gR (sR h k j x) a b = if a = k then (if b = j then x else gR h a b) else gR h a b := rfl
theorem gR_sI (h : AH) (k j : Nat) (x : Int32) (a b : Nat) : gR (sI h k j x) a b = gR h a b := rfl
theorem gR_sL (h : AH) (k j : Nat) (x : Int64) (a b : Nat) : gR (sL h k j x) a b = gR h a b := rfl
theorem gR_fillI (h : AH) (k n : Nat) (x : Int32) (a b : Nat) : gR (fillI h k n x) a b = gR h a b := rfl
theorem gR_new (h : AH) (kd n a b : Nat) : gR (aNew h kd n) a b = if a = aN h then none else gR h a b := rfl
theorem gI_sI (h : AH) (k j : Nat) (x : Int32) (a b : Nat) : gI (sI h k j x) a b = if a = k then (if b = j then x else gI h a b) else gI h a b := rfl
theorem gI_sR (h : AH) (k j : Nat) (x : Option Nat) (a b : Nat) : gI (sR h k j x) a b = gI h a b := rfl
theorem gI_sL (h : AH) (k j : Nat) (x : Int64) (a b : Nat) : gI (sL h k j x) a b = gI h a b := rfl
theorem gI_fillI (h : AH) (k n : Nat) (x : Int32) (a b : Nat) : gI (fillI h k n x) a b = if a = k then (if b < n then x else gI h a b) else gI h a b := rfl
theorem gI_new (h : AH) (kd n a b : Nat) : gI (aNew h kd n) a b = if a = aN h then 0 else gI h a b := rfl
theorem gL_sL (h : AH) (k j : Nat) (x : Int64) (a b : Nat) : gL (sL h k j x) a b = if a = k then (if b = j then x else gL h a b) else gL h a b := rfl
theorem gL_sI (h : AH) (k j : Nat) (x : Int32) (a b : Nat) : gL (sI h k j x) a b = gL h a b := rfl
theorem gL_sR (h : AH) (k j : Nat) (x : Option Nat) (a b : Nat) : gL (sR h k j x) a b = gL h a b := rfl
theorem gL_fillI (h : AH) (k n : Nat) (x : Int32) (a b : Nat) : gL (fillI h k n x) a b = gL h a b := rfl
theorem gL_new (h : AH) (kd n a b : Nat) : gL (aNew h kd n) a b = if a = aN h then 0 else gL h a b := rfl
theorem Rp.nm {d : Nat} {M : MT} {pc : Nat} {ls : List (Option Value)} {st : List Value} {h : AH} {P : Option Value → AH → Prop} (k : ∀ h2, h2 = h → Rp d M pc ls st h2 P) : Rp d M pc ls st h P := k h rfl
section RpM
variable {d : Nat} {M : MT} {pc : Nat} {ls : List (Option Value)} {st : List Value} {h : AH} {P : Option Value → AH → Prop}
theorem Rp.newA {idx ci : Nat} {C : String} {T : u_T} {N : Nat} (a : Nat) (ha : aN h = a) (hd : decode M.2.1 pc = .ok (.new idx, 3)) (hc : clOK ci C T N) (hl : Cond.classLink M.1.cls idx C ∈ gw ∧ Cond.instantiable C N ∈ gw ∧ Cond.initialized C ∈ gw) (hdf : ∀ j, j < N → defaultValue (tyC ci j) = dv (tagOf (tyC ci j))) (k : Rp d M (pc + 3) ls (.ref a :: st) (aNew h ci (clN ci)) P) : Rp d M pc ls st h P := by
  subst ha
  exact Rp.new hd hc hl hdf k
theorem Rp.newaA (a t N : Nat) {at_ : ArrayType} (ha : aN h = a) (hd : decode M.2.1 pc = .ok (.newarray at_, 2)) (ht : newarray.typeOf at_ = aty t ∧ t < 4 ∧ Cond.arrayClass (aty t) ∈ gw) (hN : N ≤ 60000000) (k : Rp d M (pc + 2) ls (.ref a :: st) (aNew h (13 + t) N) P) : Rp d M pc ls (.int (nI N) :: st) h P := by
  subst ha
  have e : (nI N).toNatClampNeg = N := nI_clamp (by omega)
  exact Rp.newa t hd ht (nI_pos (by omega)) (by rw [e]; exact hN) (by rw [e]; exact k)
theorem Rp.anewA (a t N : Nat) {idx : Nat} {C : String} (ha : aN h = a) (hd : decode M.2.1 pc = .ok (.anewarray idx, 3)) (ht : t = 4 ∧ C = "TicketHall$Text" ∨ t = 5 ∧ C = "TicketHall$Hall") (hl : Cond.classLink M.1.cls idx C ∈ gw) (hN : N ≤ 60000000) (k : Rp d M (pc + 3) ls (.ref a :: st) (aNew h (13 + t) N) P) : Rp d M pc ls (.int (nI N) :: st) h P := by
  subst ha
  have e : (nI N).toNatClampNeg = N := nI_clamp (by omega)
  exact Rp.anew t hd ht hl (nI_pos (by omega)) (by rw [e]; exact hN) (by rw [e]; exact k)
theorem Rp.aastoreN {k n t a ci na m : Nat} (hd : decode M.2.1 pc = .ok (.aastore, 1)) (ht : t = 4 ∧ ci = 9 ∨ t = 5 ∧ ci = 2) (hs : h.1[k]? = some (13 + t, n)) (ha : h.1[a]? = some (ci, na)) (hm : m < n ∧ n < 2147483648) (kk : Rp d M (pc + 1) ls st (sR h k m (some a)) P) : Rp d M pc ls (.ref a :: .int (nI m) :: .ref k :: st) h P := Rp.aastore hd ht hs ha (vp_in_nI hm.1 hm.2) (by rw [nI_clamp (show m < 2 ^ 31 by omega)]; exact kk)
end RpM
/-- Arrays.fill(int[], int) -/
theorem fillI_s (h : AH) (a i : Nat) (x : Int32) : sI (fillI h a i x) a i x = fillI h a (i + 1) x := by
  unfold sI fillI
  refine Prod.ext rfl (Prod.ext ?_ rfl)
  funext k j
  by_cases hk : k = a
  · by_cases hj : j = i
    · simp [upI, hk, hj]
    · have e : (j < i + 1) = (j < i) := propext ⟨fun q => by omega, fun q => by omega⟩
      simp [upI, hk, hj, e]
  · simp [upI, hk]
theorem fillI_0 (h : AH) (a : Nat) (x : Int32) : fillI h a 0 x = h := by
  unfold fillI
  refine Prod.ext rfl (Prod.ext ?_ rfl)
  funext k j
  simp
theorem fill_loop (d : Nat) (h : AH) (a n : Nat) (x : Int32) (hs : h.1[a]? = some (13, n)) (hn : n < 2147483648) : ∀ (m i : Nat), i + m = n → Rp d M_J7_fill_53178 5 [some (.ref a), some (.int x), some (.int (nI i)), some (.int (nI n))] [] (fillI h a i x) (fun r h' => h' = fillI h a n x ∧ r = none) := by
  intro m
  induction m with
  | zero =>
    intro i hi
    refine Rp.iload_n dJ7_fill_53178_5 rfl ?_
    refine Rp.iload_n dJ7_fill_53178_6 rfl ?_
    refine Rp.icmp_geN (tgt := 20) dJ7_fill_53178_7 (by decide) (by omega) (fun c7 => ?_) (fun c7 => absurd (by omega) c7)
    refine Rp.vreturn dJ7_fill_53178_20 rfl ?_
    exact ⟨by rw [show i = n by omega], rfl⟩
  | succ m ih =>
    intro i hi
    refine Rp.iload_n dJ7_fill_53178_5 rfl ?_
    refine Rp.iload_n dJ7_fill_53178_6 rfl ?_
    refine Rp.icmp_geN (tgt := 20) dJ7_fill_53178_7 (by decide) (by omega) (fun c7 => absurd c7 (by omega)) (fun c7 => ?_)
    refine Rp.aload_n dJ7_fill_53178_10 rfl rfl ?_
    refine Rp.iload_n dJ7_fill_53178_11 rfl ?_
    refine Rp.iload_n dJ7_fill_53178_12 rfl ?_
    refine Rp.iastoreN dJ7_fill_53178_13 hs (by omega) ?_
    rw [fillI_s]
    refine Rp.inc2N (c := 1) dJ7_fill_53178_14 (nl2_some rfl) (by decide) ?_
    refine Rp.goto (tgt := 5) dJ7_fill_53178_17 (by decide) ?_
    exact ih (i + 1) (by omega)
theorem c_fill (d : Nat) (h : AH) (a n : Nat) (x : Int32) (hs : h.1[a]? = some (13, n)) (hn : n < 2147483648) : Rp d M_J7_fill_53178 0 [some (.ref a), some (.int x), none, none] [] h (fun r h' => h' = fillI h a n x ∧ r = none) := by
  refine Rp.iconst (nI 0) dJ7_fill_53178_0 (by decide) ?_
  refine Rp.ist2 dJ7_fill_53178_1 (nl2_some rfl) (by decide) ?_
  refine Rp.aload_n dJ7_fill_53178_2 rfl rfl ?_
  refine Rp.alen dJ7_fill_53178_3 hs (by decide) (by decide) ?_
  refine Rp.ist3 dJ7_fill_53178_4 (nl2_some rfl) (by decide) ?_
  have k := fill_loop d h a n x hs hn n 0 (by omega)
  rw [fillI_0] at k
  exact k
def setS (h : AH) (S : Nat × (Nat → Int32)) : AH := (h.1, h.2.1, h.2.2.1, h.2.2.2.1, S)
theorem setS_new (h : AH) (S : Nat × (Nat → Int32)) (kd n : Nat) : aNew (setS h S) kd n = setS (aNew h kd n) S := rfl
theorem setS_sR (h : AH) (S : Nat × (Nat → Int32)) (k j : Nat) (x : Option Nat) : sR (setS h S) k j x = setS (sR h k j x) S := rfl
theorem setS_sI (h : AH) (S : Nat × (Nat → Int32)) (k j : Nat) (x : Int32) : sI (setS h S) k j x = setS (sI h k j x) S := rfl
theorem setS_fillI (h : AH) (S : Nat × (Nat → Int32)) (k n : Nat) (x : Int32) : fillI (setS h S) k n x = setS (fillI h k n x) S := rfl
theorem aNew_1 (h : AH) (kd n : Nat) : (aNew h kd n).1 = h.1 ++ [(kd, n)] := rfl
theorem gq_new {h : AH} {kd m w j : Nat} {r : Option Nat} (hw : w ≠ aN h) (hr : gR h w j = r) : gR (aNew h kd m) w j = r := by rw [gR_new, if_neg hw]; exact hr
theorem gq_sR {h : AH} {k i w j : Nat} {x r : Option Nat} (hw : w ≠ k) (hr : gR h w j = r) : gR (sR h k i x) w j = r := by rw [gR_sR, if_neg hw]; exact hr
theorem gq_sRj {h : AH} {k i w j : Nat} {x r : Option Nat} (hw : j ≠ i) (hr : gR h w j = r) : gR (sR h k i x) w j = r := by
  rw [gR_sR, if_neg hw]
  split <;> exact hr
theorem ne_k {k n : Nat} (h : k < n) (i : Nat) : k ≠ n + i := Nat.ne_of_lt (Nat.lt_of_lt_of_le h (Nat.le_add_right n i))
theorem ne_k0 {k n : Nat} (h : k < n) : k ≠ n := Nat.ne_of_lt h
theorem ne_nn {n i j : Nat} (h : i ≠ j) : n + i ≠ n + j := fun z => h (Nat.add_left_cancel z)
theorem ne_n0 {n j : Nat} (h : 0 ≠ j) : n ≠ n + j := fun z => h (Nat.add_left_cancel (n := n) z)
theorem ne_0n {n i : Nat} (h : i ≠ 0) : n + i ≠ n := fun z => h (Nat.add_left_cancel (n := n) z)
def ini_X4_init (h : AH) (k n : Nat) : AH := (sR (aNew h (13 + 0) (16)) k 0 (some n))
set_option maxRecDepth 20000 in
set_option maxHeartbeats 4000000 in
theorem c_X4_init (d : Nat) (h : AH) (k n : Nat) (hk0 : h.1[k]? = some (4, clN 4)) (hn0 : aN h = n) : Rp (d + 1) M_X4_init 0 [some (.ref k)] [] h (fun r h' => h' = ini_X4_init h k n ∧ r = none) := by
  have hlt : k < n := by rw [← hn0]; exact (List.getElem?_eq_some_iff.mp hk0).1
  refine Rp.aload_n dX4_init_0 rfl rfl ?_
  refine Rp.objI dX4_init_1 lk_X4_1 (Nat.le_of_ble_eq_true rfl) ?_
  refine Rp.aload_n dX4_init_4 rfl rfl ?_
  refine Rp.bipush (nI 16) dX4_init_5 (by decide) ?_
  refine Rp.newaA n 0 16 hn0 dX4_init_7 ⟨rfl, by decide, ac_0⟩ (by decide) ?_
  refine Rp.nm (fun h1 e1 => ?_)
  have s1_k : h1.1[k]? = some (4, clN 4) := by rw [e1]; exact sh_old hk0
  have hn1 : aN h1 = (n + 1) := by rw [e1, aN_new, hn0]
  refine Rp.putR dX4_init_9 fk_X4_9w (fun _ => rfl) (Or.inr ⟨_, rfl⟩) s1_k ?_
  refine Rp.nm (fun h2 e2 => ?_)
  have s2_k : h2.1[k]? = some (4, clN 4) := by rw [e2]; exact s1_k
  have hn2 : aN h2 = (n + 1) := by rw [e2]; exact hn1
  refine Rp.vreturn dX4_init_12 rfl ?_
  exact ⟨by rw [e2, e1]; rfl, rfl⟩
theorem aN_X4_init (h : AH) (k n : Nat) : aN (ini_X4_init h k n) = aN h + 1 := by simp only [ini_X4_init, aN_new, aN_sR, aN_sI, aN_fillI, Nat.add_zero]
theorem setS_X4_init (h : AH) (S : Nat × (Nat → Int32)) (k n : Nat) : ini_X4_init (setS h S) k n = setS (ini_X4_init h k n) S := by simp only [ini_X4_init, setS_new, setS_sR, setS_sI, setS_fillI]
theorem sl_X4_init (h : AH) (k n : Nat) : ∃ l, (ini_X4_init h k n).1 = h.1 ++ l ∧ l.length = 1 := by
  refine ⟨_, by simp only [ini_X4_init, sR_1, sI_1, fillI_1, aNew_1, List.append_assoc]; first | rfl | exact (List.append_nil _).symm, by simp⟩
theorem sh_X4_init {h : AH} {k n w : Nat} {q : Nat × Nat} (hw : h.1[w]? = some q) : (ini_X4_init h k n).1[w]? = some q := by
  obtain ⟨l, e, -⟩ := sl_X4_init h k n
  rw [e, List.getElem?_append_left (List.getElem?_eq_some_iff.mp hw).1]
  exact hw
theorem gq_X4_init {h : AH} {k n w j : Nat} {r : Option Nat} (hn : aN h = n) (hw : w ≠ k) (hl : w < n) (hr : gR h w j = r) : gR (ini_X4_init h k n) w j = r := by
  simp only [ini_X4_init, gR_sR, gR_sI, gR_fillI, gR_new, aN_new, aN_sR, aN_sI, aN_fillI, hn]
  repeat (first | exact hr | rw [if_neg (by omega)])
def ini_X9_init (h : AH) (k n : Nat) : AH := (sR (aNew (sR (aNew h (13 + 0) (60)) k 0 (some n)) (13 + 0) (436)) k 1 (some (n + 1)))
set_option maxRecDepth 20000 in
set_option maxHeartbeats 4000000 in
theorem c_X9_init (d : Nat) (h : AH) (k n : Nat) (hk0 : h.1[k]? = some (9, clN 9)) (hn0 : aN h = n) : Rp (d + 1) M_X9_init 0 [some (.ref k)] [] h (fun r h' => h' = ini_X9_init h k n ∧ r = none) := by
  have hlt : k < n := by rw [← hn0]; exact (List.getElem?_eq_some_iff.mp hk0).1
  refine Rp.aload_n dX9_init_0 rfl rfl ?_
  refine Rp.objI dX9_init_1 lk_X9_3 (Nat.le_of_ble_eq_true rfl) ?_
  refine Rp.aload_n dX9_init_4 rfl rfl ?_
  refine Rp.bipush (nI 60) dX9_init_5 (by decide) ?_
  refine Rp.newaA n 0 60 hn0 dX9_init_7 ⟨rfl, by decide, ac_0⟩ (by decide) ?_
  refine Rp.nm (fun h1 e1 => ?_)
  have s1_k : h1.1[k]? = some (9, clN 9) := by rw [e1]; exact sh_old hk0
  have hn1 : aN h1 = (n + 1) := by rw [e1, aN_new, hn0]
  refine Rp.putR dX9_init_9 fk_X9_11w (fun _ => rfl) (Or.inr ⟨_, rfl⟩) s1_k ?_
  refine Rp.nm (fun h2 e2 => ?_)
  have s2_k : h2.1[k]? = some (9, clN 9) := by rw [e2]; exact s1_k
  have hn2 : aN h2 = (n + 1) := by rw [e2]; exact hn1
  refine Rp.aload_n dX9_init_12 rfl rfl ?_
  refine Rp.sipush (nI 436) dX9_init_13 (by decide) ?_
  refine Rp.newaA (n + 1) 0 436 hn2 dX9_init_16 ⟨rfl, by decide, ac_0⟩ (by decide) ?_
  refine Rp.nm (fun h3 e3 => ?_)
  have s3_k : h3.1[k]? = some (9, clN 9) := by rw [e3]; exact sh_old s2_k
  have hn3 : aN h3 = (n + 2) := by rw [e3, aN_new, hn2]
  refine Rp.putR dX9_init_18 fk_X9_15w (fun _ => rfl) (Or.inr ⟨_, rfl⟩) s3_k ?_
  refine Rp.nm (fun h4 e4 => ?_)
  have s4_k : h4.1[k]? = some (9, clN 9) := by rw [e4]; exact s3_k
  have hn4 : aN h4 = (n + 2) := by rw [e4]; exact hn3
  refine Rp.vreturn dX9_init_21 rfl ?_
  exact ⟨by rw [e4, e3, e2, e1]; rfl, rfl⟩
theorem aN_X9_init (h : AH) (k n : Nat) : aN (ini_X9_init h k n) = aN h + 2 := by simp only [ini_X9_init, aN_new, aN_sR, aN_sI, aN_fillI, Nat.add_zero, aN_X4_init]
theorem setS_X9_init (h : AH) (S : Nat × (Nat → Int32)) (k n : Nat) : ini_X9_init (setS h S) k n = setS (ini_X9_init h k n) S := by simp only [ini_X9_init, setS_new, setS_sR, setS_sI, setS_fillI, setS_X4_init]
theorem sl_X9_init (h : AH) (k n : Nat) : ∃ l, (ini_X9_init h k n).1 = h.1 ++ l ∧ l.length = 2 := by
  refine ⟨_, by simp only [ini_X9_init, sR_1, sI_1, fillI_1, aNew_1, ini_X4_init, List.append_assoc]; first | rfl | exact (List.append_nil _).symm, by simp⟩
theorem sh_X9_init {h : AH} {k n w : Nat} {q : Nat × Nat} (hw : h.1[w]? = some q) : (ini_X9_init h k n).1[w]? = some q := by
  obtain ⟨l, e, -⟩ := sl_X9_init h k n
  rw [e, List.getElem?_append_left (List.getElem?_eq_some_iff.mp hw).1]
  exact hw
theorem gq_X9_init {h : AH} {k n w j : Nat} {r : Option Nat} (hn : aN h = n) (hw : w ≠ k) (hl : w < n) (hr : gR h w j = r) : gR (ini_X9_init h k n) w j = r := by
  simp only [ini_X9_init, gR_sR, gR_sI, gR_fillI, gR_new, aN_new, aN_sR, aN_sI, aN_fillI, hn, aN_X4_init, ini_X4_init]
  repeat (first | exact hr | rw [if_neg (by omega)])
def ini_X5_init (h : AH) (k n : Nat) : AH := (sR (aNew h (13 + 0) (64)) k 0 (some n))
set_option maxRecDepth 20000 in
set_option maxHeartbeats 4000000 in
theorem c_X5_init (d : Nat) (h : AH) (k n : Nat) (hk0 : h.1[k]? = some (5, clN 5)) (hn0 : aN h = n) : Rp (d + 1) M_X5_init 0 [some (.ref k)] [] h (fun r h' => h' = ini_X5_init h k n ∧ r = none) := by
  have hlt : k < n := by rw [← hn0]; exact (List.getElem?_eq_some_iff.mp hk0).1
  refine Rp.aload_n dX5_init_0 rfl rfl ?_
  refine Rp.objI dX5_init_1 lk_X5_3 (Nat.le_of_ble_eq_true rfl) ?_
  refine Rp.aload_n dX5_init_4 rfl rfl ?_
  refine Rp.bipush (nI 64) dX5_init_5 (by decide) ?_
  refine Rp.newaA n 0 64 hn0 dX5_init_7 ⟨rfl, by decide, ac_0⟩ (by decide) ?_
  refine Rp.nm (fun h1 e1 => ?_)
  have s1_k : h1.1[k]? = some (5, clN 5) := by rw [e1]; exact sh_old hk0
  have hn1 : aN h1 = (n + 1) := by rw [e1, aN_new, hn0]
  refine Rp.putR dX5_init_9 fk_X5_9w (fun _ => rfl) (Or.inr ⟨_, rfl⟩) s1_k ?_
  refine Rp.nm (fun h2 e2 => ?_)
  have s2_k : h2.1[k]? = some (5, clN 5) := by rw [e2]; exact s1_k
  have hn2 : aN h2 = (n + 1) := by rw [e2]; exact hn1
  refine Rp.vreturn dX5_init_12 rfl ?_
  exact ⟨by rw [e2, e1]; rfl, rfl⟩
theorem aN_X5_init (h : AH) (k n : Nat) : aN (ini_X5_init h k n) = aN h + 1 := by simp only [ini_X5_init, aN_new, aN_sR, aN_sI, aN_fillI, Nat.add_zero, aN_X4_init, aN_X9_init]
theorem setS_X5_init (h : AH) (S : Nat × (Nat → Int32)) (k n : Nat) : ini_X5_init (setS h S) k n = setS (ini_X5_init h k n) S := by simp only [ini_X5_init, setS_new, setS_sR, setS_sI, setS_fillI, setS_X4_init, setS_X9_init]
theorem sl_X5_init (h : AH) (k n : Nat) : ∃ l, (ini_X5_init h k n).1 = h.1 ++ l ∧ l.length = 1 := by
  refine ⟨_, by simp only [ini_X5_init, sR_1, sI_1, fillI_1, aNew_1, ini_X4_init, ini_X9_init, List.append_assoc]; first | rfl | exact (List.append_nil _).symm, by simp⟩
theorem sh_X5_init {h : AH} {k n w : Nat} {q : Nat × Nat} (hw : h.1[w]? = some q) : (ini_X5_init h k n).1[w]? = some q := by
  obtain ⟨l, e, -⟩ := sl_X5_init h k n
  rw [e, List.getElem?_append_left (List.getElem?_eq_some_iff.mp hw).1]
  exact hw
theorem gq_X5_init {h : AH} {k n w j : Nat} {r : Option Nat} (hn : aN h = n) (hw : w ≠ k) (hl : w < n) (hr : gR h w j = r) : gR (ini_X5_init h k n) w j = r := by
  simp only [ini_X5_init, gR_sR, gR_sI, gR_fillI, gR_new, aN_new, aN_sR, aN_sI, aN_fillI, hn, aN_X4_init, aN_X9_init, ini_X4_init, ini_X9_init]
  repeat (first | exact hr | rw [if_neg (by omega)])
def ini_X0_init (h : AH) (k n r1 : Nat) : AH := (sR h k 0 (some r1))
set_option maxRecDepth 20000 in
set_option maxHeartbeats 4000000 in
theorem c_X0_init (d : Nat) (h : AH) (k n r1 : Nat) (hk0 : h.1[k]? = some (0, clN 0)) (hn0 : aN h = n) : Rp (d + 1) M_X0_init 0 [some (.ref k), some (.ref r1)] [] h (fun r h' => h' = ini_X0_init h k n r1 ∧ r = none) := by
  have hlt : k < n := by rw [← hn0]; exact (List.getElem?_eq_some_iff.mp hk0).1
  refine Rp.aload_n dX0_init_0 rfl rfl ?_
  refine Rp.objI dX0_init_1 lk_X0_3 (Nat.le_of_ble_eq_true rfl) ?_
  refine Rp.aload_n dX0_init_4 rfl rfl ?_
  refine Rp.aload_n dX0_init_5 rfl rfl ?_
  refine Rp.putR dX0_init_6 fk_X0_9w (fun _ => rfl) (Or.inl ⟨_, rfl⟩) hk0 ?_
  refine Rp.nm (fun h1 e1 => ?_)
  have s1_k : h1.1[k]? = some (0, clN 0) := by rw [e1]; exact hk0
  have hn1 : aN h1 = n := by rw [e1]; exact hn0
  refine Rp.vreturn dX0_init_9 rfl ?_
  exact ⟨by rw [e1]; rfl, rfl⟩
theorem aN_X0_init (h : AH) (k n r1 : Nat) : aN (ini_X0_init h k n r1) = aN h + 0 := by simp only [ini_X0_init, aN_new, aN_sR, aN_sI, aN_fillI, Nat.add_zero, aN_X4_init, aN_X9_init, aN_X5_init]
theorem setS_X0_init (h : AH) (S : Nat × (Nat → Int32)) (k n r1 : Nat) : ini_X0_init (setS h S) k n r1 = setS (ini_X0_init h k n r1) S := by simp only [ini_X0_init, setS_new, setS_sR, setS_sI, setS_fillI, setS_X4_init, setS_X9_init, setS_X5_init]
theorem sl_X0_init (h : AH) (k n r1 : Nat) : ∃ l, (ini_X0_init h k n r1).1 = h.1 ++ l ∧ l.length = 0 := ⟨[], by rw [List.append_nil]; rfl, rfl⟩
theorem sh_X0_init {h : AH} {k n r1 w : Nat} {q : Nat × Nat} (hw : h.1[w]? = some q) : (ini_X0_init h k n r1).1[w]? = some q := by
  obtain ⟨l, e, -⟩ := sl_X0_init h k n r1
  rw [e, List.getElem?_append_left (List.getElem?_eq_some_iff.mp hw).1]
  exact hw
theorem gq_X0_init {h : AH} {k n r1 w j : Nat} {r : Option Nat} (hn : aN h = n) (hw : w ≠ k) (hl : w < n) (hr : gR h w j = r) : gR (ini_X0_init h k n r1) w j = r := by
  simp only [ini_X0_init, gR_sR, gR_sI, gR_fillI, gR_new, aN_new, aN_sR, aN_sI, aN_fillI, hn, aN_X4_init, aN_X9_init, aN_X5_init, ini_X4_init, ini_X9_init, ini_X5_init]
  repeat (first | exact hr | rw [if_neg (by omega)])
def ini_X1_init (h : AH) (k n : Nat) : AH := (sR (aNew (sR (aNew (sR (aNew (sR (aNew (sR (aNew h (13 + 0) (8)) k 0 (some n)) (13 + 0) (3)) k 1 (some (n + 1))) (13 + 0) (6)) k 2 (some (n + 2))) (13 + 0) (6)) k 3 (some (n + 3))) (13 + 0) (6)) k 4 (some (n + 4)))
set_option maxRecDepth 20000 in
set_option maxHeartbeats 4000000 in
theorem c_X1_init (d : Nat) (h : AH) (k n : Nat) (hk0 : h.1[k]? = some (1, clN 1)) (hn0 : aN h = n) : Rp (d + 1) M_X1_init 0 [some (.ref k)] [] h (fun r h' => h' = ini_X1_init h k n ∧ r = none) := by
  have hlt : k < n := by rw [← hn0]; exact (List.getElem?_eq_some_iff.mp hk0).1
  refine Rp.aload_n dX1_init_0 rfl rfl ?_
  refine Rp.objI dX1_init_1 lk_X1_3 (Nat.le_of_ble_eq_true rfl) ?_
  refine Rp.aload_n dX1_init_4 rfl rfl ?_
  refine Rp.bipush (nI 8) dX1_init_5 (by decide) ?_
  refine Rp.newaA n 0 8 hn0 dX1_init_7 ⟨rfl, by decide, ac_0⟩ (by decide) ?_
  refine Rp.nm (fun h1 e1 => ?_)
  have s1_k : h1.1[k]? = some (1, clN 1) := by rw [e1]; exact sh_old hk0
  have hn1 : aN h1 = (n + 1) := by rw [e1, aN_new, hn0]
  refine Rp.putR dX1_init_9 fk_X1_9w (fun _ => rfl) (Or.inr ⟨_, rfl⟩) s1_k ?_
  refine Rp.nm (fun h2 e2 => ?_)
  have s2_k : h2.1[k]? = some (1, clN 1) := by rw [e2]; exact s1_k
  have hn2 : aN h2 = (n + 1) := by rw [e2]; exact hn1
  refine Rp.aload_n dX1_init_12 rfl rfl ?_
  refine Rp.iconst (nI 3) dX1_init_13 (by decide) ?_
  refine Rp.newaA (n + 1) 0 3 hn2 dX1_init_14 ⟨rfl, by decide, ac_0⟩ (by decide) ?_
  refine Rp.nm (fun h3 e3 => ?_)
  have s3_k : h3.1[k]? = some (1, clN 1) := by rw [e3]; exact sh_old s2_k
  have hn3 : aN h3 = (n + 2) := by rw [e3, aN_new, hn2]
  refine Rp.putR dX1_init_16 fk_X1_15w (fun _ => rfl) (Or.inr ⟨_, rfl⟩) s3_k ?_
  refine Rp.nm (fun h4 e4 => ?_)
  have s4_k : h4.1[k]? = some (1, clN 1) := by rw [e4]; exact s3_k
  have hn4 : aN h4 = (n + 2) := by rw [e4]; exact hn3
  refine Rp.aload_n dX1_init_19 rfl rfl ?_
  refine Rp.bipush (nI 6) dX1_init_20 (by decide) ?_
  refine Rp.newaA (n + 2) 0 6 hn4 dX1_init_22 ⟨rfl, by decide, ac_0⟩ (by decide) ?_
  refine Rp.nm (fun h5 e5 => ?_)
  have s5_k : h5.1[k]? = some (1, clN 1) := by rw [e5]; exact sh_old s4_k
  have hn5 : aN h5 = (n + 3) := by rw [e5, aN_new, hn4]
  refine Rp.putR dX1_init_24 fk_X1_18w (fun _ => rfl) (Or.inr ⟨_, rfl⟩) s5_k ?_
  refine Rp.nm (fun h6 e6 => ?_)
  have s6_k : h6.1[k]? = some (1, clN 1) := by rw [e6]; exact s5_k
  have hn6 : aN h6 = (n + 3) := by rw [e6]; exact hn5
  refine Rp.aload_n dX1_init_27 rfl rfl ?_
  refine Rp.bipush (nI 6) dX1_init_28 (by decide) ?_
  refine Rp.newaA (n + 3) 0 6 hn6 dX1_init_30 ⟨rfl, by decide, ac_0⟩ (by decide) ?_
  refine Rp.nm (fun h7 e7 => ?_)
  have s7_k : h7.1[k]? = some (1, clN 1) := by rw [e7]; exact sh_old s6_k
  have hn7 : aN h7 = (n + 4) := by rw [e7, aN_new, hn6]
  refine Rp.putR dX1_init_32 fk_X1_21w (fun _ => rfl) (Or.inr ⟨_, rfl⟩) s7_k ?_
  refine Rp.nm (fun h8 e8 => ?_)
  have s8_k : h8.1[k]? = some (1, clN 1) := by rw [e8]; exact s7_k
  have hn8 : aN h8 = (n + 4) := by rw [e8]; exact hn7
  refine Rp.aload_n dX1_init_35 rfl rfl ?_
  refine Rp.bipush (nI 6) dX1_init_36 (by decide) ?_
  refine Rp.newaA (n + 4) 0 6 hn8 dX1_init_38 ⟨rfl, by decide, ac_0⟩ (by decide) ?_
  refine Rp.nm (fun h9 e9 => ?_)
  have s9_k : h9.1[k]? = some (1, clN 1) := by rw [e9]; exact sh_old s8_k
  have hn9 : aN h9 = (n + 5) := by rw [e9, aN_new, hn8]
  refine Rp.putR dX1_init_40 fk_X1_24w (fun _ => rfl) (Or.inr ⟨_, rfl⟩) s9_k ?_
  refine Rp.nm (fun h10 e10 => ?_)
  have s10_k : h10.1[k]? = some (1, clN 1) := by rw [e10]; exact s9_k
  have hn10 : aN h10 = (n + 5) := by rw [e10]; exact hn9
  refine Rp.vreturn dX1_init_43 rfl ?_
  exact ⟨by rw [e10, e9, e8, e7, e6, e5, e4, e3, e2, e1]; rfl, rfl⟩
theorem aN_X1_init (h : AH) (k n : Nat) : aN (ini_X1_init h k n) = aN h + 5 := by simp only [ini_X1_init, aN_new, aN_sR, aN_sI, aN_fillI, Nat.add_zero, aN_X4_init, aN_X9_init, aN_X5_init, aN_X0_init]
theorem setS_X1_init (h : AH) (S : Nat × (Nat → Int32)) (k n : Nat) : ini_X1_init (setS h S) k n = setS (ini_X1_init h k n) S := by simp only [ini_X1_init, setS_new, setS_sR, setS_sI, setS_fillI, setS_X4_init, setS_X9_init, setS_X5_init, setS_X0_init]
theorem sl_X1_init (h : AH) (k n : Nat) : ∃ l, (ini_X1_init h k n).1 = h.1 ++ l ∧ l.length = 5 := by
  refine ⟨_, by simp only [ini_X1_init, sR_1, sI_1, fillI_1, aNew_1, ini_X4_init, ini_X9_init, ini_X5_init, ini_X0_init, List.append_assoc]; first | rfl | exact (List.append_nil _).symm, by simp⟩
theorem sh_X1_init {h : AH} {k n w : Nat} {q : Nat × Nat} (hw : h.1[w]? = some q) : (ini_X1_init h k n).1[w]? = some q := by
  obtain ⟨l, e, -⟩ := sl_X1_init h k n
  rw [e, List.getElem?_append_left (List.getElem?_eq_some_iff.mp hw).1]
  exact hw
theorem gq_X1_init {h : AH} {k n w j : Nat} {r : Option Nat} (hn : aN h = n) (hw : w ≠ k) (hl : w < n) (hr : gR h w j = r) : gR (ini_X1_init h k n) w j = r := by
  simp only [ini_X1_init, gR_sR, gR_sI, gR_fillI, gR_new, aN_new, aN_sR, aN_sI, aN_fillI, hn, aN_X4_init, aN_X9_init, aN_X5_init, aN_X0_init, ini_X4_init, ini_X9_init, ini_X5_init, ini_X0_init]
  repeat (first | exact hr | rw [if_neg (by omega)])
def ini_X6_init (h : AH) (k n r1 r2 : Nat) : AH := (sR (sR (sR (aNew (sR (aNew (sR (aNew (sR (aNew (sR (aNew h (13 + 0) (6)) k 2 (some n)) (13 + 0) (8)) k 3 (some (n + 1))) (13 + 0) (6)) k 4 (some (n + 2))) (13 + 0) (720)) k 5 (some (n + 3))) (13 + 0) (8)) k 6 (some (n + 4))) k 0 (some r1)) k 1 (some r2))
set_option maxRecDepth 20000 in
set_option maxHeartbeats 4000000 in
theorem c_X6_init (d : Nat) (h : AH) (k n r1 r2 : Nat) (hk0 : h.1[k]? = some (6, clN 6)) (hn0 : aN h = n) : Rp (d + 1) M_X6_init 0 [some (.ref k), some (.ref r1), some (.ref r2)] [] h (fun r h' => h' = ini_X6_init h k n r1 r2 ∧ r = none) := by
  have hlt : k < n := by rw [← hn0]; exact (List.getElem?_eq_some_iff.mp hk0).1
  refine Rp.aload_n dX6_init_0 rfl rfl ?_
  refine Rp.objI dX6_init_1 lk_X6_3 (Nat.le_of_ble_eq_true rfl) ?_
  refine Rp.aload_n dX6_init_4 rfl rfl ?_
  refine Rp.bipush (nI 6) dX6_init_5 (by decide) ?_
  refine Rp.newaA n 0 6 hn0 dX6_init_7 ⟨rfl, by decide, ac_0⟩ (by decide) ?_
  refine Rp.nm (fun h1 e1 => ?_)
  have s1_k : h1.1[k]? = some (6, clN 6) := by rw [e1]; exact sh_old hk0
  have hn1 : aN h1 = (n + 1) := by rw [e1, aN_new, hn0]
  refine Rp.putR dX6_init_9 fk_X6_9w (fun _ => rfl) (Or.inr ⟨_, rfl⟩) s1_k ?_
  refine Rp.nm (fun h2 e2 => ?_)
  have s2_k : h2.1[k]? = some (6, clN 6) := by rw [e2]; exact s1_k
  have hn2 : aN h2 = (n + 1) := by rw [e2]; exact hn1
  refine Rp.aload_n dX6_init_12 rfl rfl ?_
  refine Rp.bipush (nI 8) dX6_init_13 (by decide) ?_
  refine Rp.newaA (n + 1) 0 8 hn2 dX6_init_15 ⟨rfl, by decide, ac_0⟩ (by decide) ?_
  refine Rp.nm (fun h3 e3 => ?_)
  have s3_k : h3.1[k]? = some (6, clN 6) := by rw [e3]; exact sh_old s2_k
  have hn3 : aN h3 = (n + 2) := by rw [e3, aN_new, hn2]
  refine Rp.putR dX6_init_17 fk_X6_15w (fun _ => rfl) (Or.inr ⟨_, rfl⟩) s3_k ?_
  refine Rp.nm (fun h4 e4 => ?_)
  have s4_k : h4.1[k]? = some (6, clN 6) := by rw [e4]; exact s3_k
  have hn4 : aN h4 = (n + 2) := by rw [e4]; exact hn3
  refine Rp.aload_n dX6_init_20 rfl rfl ?_
  refine Rp.bipush (nI 6) dX6_init_21 (by decide) ?_
  refine Rp.newaA (n + 2) 0 6 hn4 dX6_init_23 ⟨rfl, by decide, ac_0⟩ (by decide) ?_
  refine Rp.nm (fun h5 e5 => ?_)
  have s5_k : h5.1[k]? = some (6, clN 6) := by rw [e5]; exact sh_old s4_k
  have hn5 : aN h5 = (n + 3) := by rw [e5, aN_new, hn4]
  refine Rp.putR dX6_init_25 fk_X6_18w (fun _ => rfl) (Or.inr ⟨_, rfl⟩) s5_k ?_
  refine Rp.nm (fun h6 e6 => ?_)
  have s6_k : h6.1[k]? = some (6, clN 6) := by rw [e6]; exact s5_k
  have hn6 : aN h6 = (n + 3) := by rw [e6]; exact hn5
  refine Rp.aload_n dX6_init_28 rfl rfl ?_
  refine Rp.sipush (nI 720) dX6_init_29 (by decide) ?_
  refine Rp.newaA (n + 3) 0 720 hn6 dX6_init_32 ⟨rfl, by decide, ac_0⟩ (by decide) ?_
  refine Rp.nm (fun h7 e7 => ?_)
  have s7_k : h7.1[k]? = some (6, clN 6) := by rw [e7]; exact sh_old s6_k
  have hn7 : aN h7 = (n + 4) := by rw [e7, aN_new, hn6]
  refine Rp.putR dX6_init_34 fk_X6_21w (fun _ => rfl) (Or.inr ⟨_, rfl⟩) s7_k ?_
  refine Rp.nm (fun h8 e8 => ?_)
  have s8_k : h8.1[k]? = some (6, clN 6) := by rw [e8]; exact s7_k
  have hn8 : aN h8 = (n + 4) := by rw [e8]; exact hn7
  refine Rp.aload_n dX6_init_37 rfl rfl ?_
  refine Rp.bipush (nI 8) dX6_init_38 (by decide) ?_
  refine Rp.newaA (n + 4) 0 8 hn8 dX6_init_40 ⟨rfl, by decide, ac_0⟩ (by decide) ?_
  refine Rp.nm (fun h9 e9 => ?_)
  have s9_k : h9.1[k]? = some (6, clN 6) := by rw [e9]; exact sh_old s8_k
  have hn9 : aN h9 = (n + 5) := by rw [e9, aN_new, hn8]
  refine Rp.putR dX6_init_42 fk_X6_24w (fun _ => rfl) (Or.inr ⟨_, rfl⟩) s9_k ?_
  refine Rp.nm (fun h10 e10 => ?_)
  have s10_k : h10.1[k]? = some (6, clN 6) := by rw [e10]; exact s9_k
  have hn10 : aN h10 = (n + 5) := by rw [e10]; exact hn9
  refine Rp.aload_n dX6_init_45 rfl rfl ?_
  refine Rp.aload_n dX6_init_46 rfl rfl ?_
  refine Rp.putR dX6_init_47 fk_X6_27w (fun _ => rfl) (Or.inl ⟨_, rfl⟩) s10_k ?_
  refine Rp.nm (fun h11 e11 => ?_)
  have s11_k : h11.1[k]? = some (6, clN 6) := by rw [e11]; exact s10_k
  have hn11 : aN h11 = (n + 5) := by rw [e11]; exact hn10
  refine Rp.aload_n dX6_init_50 rfl rfl ?_
  refine Rp.aload_n dX6_init_51 rfl rfl ?_
  refine Rp.putR dX6_init_52 fk_X6_31w (fun _ => rfl) (Or.inl ⟨_, rfl⟩) s11_k ?_
  refine Rp.nm (fun h12 e12 => ?_)
  have s12_k : h12.1[k]? = some (6, clN 6) := by rw [e12]; exact s11_k
  have hn12 : aN h12 = (n + 5) := by rw [e12]; exact hn11
  refine Rp.vreturn dX6_init_55 rfl ?_
  exact ⟨by rw [e12, e11, e10, e9, e8, e7, e6, e5, e4, e3, e2, e1]; rfl, rfl⟩
theorem aN_X6_init (h : AH) (k n r1 r2 : Nat) : aN (ini_X6_init h k n r1 r2) = aN h + 5 := by simp only [ini_X6_init, aN_new, aN_sR, aN_sI, aN_fillI, Nat.add_zero, aN_X4_init, aN_X9_init, aN_X5_init, aN_X0_init, aN_X1_init]
theorem setS_X6_init (h : AH) (S : Nat × (Nat → Int32)) (k n r1 r2 : Nat) : ini_X6_init (setS h S) k n r1 r2 = setS (ini_X6_init h k n r1 r2) S := by simp only [ini_X6_init, setS_new, setS_sR, setS_sI, setS_fillI, setS_X4_init, setS_X9_init, setS_X5_init, setS_X0_init, setS_X1_init]
theorem sl_X6_init (h : AH) (k n r1 r2 : Nat) : ∃ l, (ini_X6_init h k n r1 r2).1 = h.1 ++ l ∧ l.length = 5 := by
  refine ⟨_, by simp only [ini_X6_init, sR_1, sI_1, fillI_1, aNew_1, ini_X4_init, ini_X9_init, ini_X5_init, ini_X0_init, ini_X1_init, List.append_assoc]; first | rfl | exact (List.append_nil _).symm, by simp⟩
theorem sh_X6_init {h : AH} {k n r1 r2 w : Nat} {q : Nat × Nat} (hw : h.1[w]? = some q) : (ini_X6_init h k n r1 r2).1[w]? = some q := by
  obtain ⟨l, e, -⟩ := sl_X6_init h k n r1 r2
  rw [e, List.getElem?_append_left (List.getElem?_eq_some_iff.mp hw).1]
  exact hw
theorem gq_X6_init {h : AH} {k n r1 r2 w j : Nat} {r : Option Nat} (hn : aN h = n) (hw : w ≠ k) (hl : w < n) (hr : gR h w j = r) : gR (ini_X6_init h k n r1 r2) w j = r := by
  simp only [ini_X6_init, gR_sR, gR_sI, gR_fillI, gR_new, aN_new, aN_sR, aN_sI, aN_fillI, hn, aN_X4_init, aN_X9_init, aN_X5_init, aN_X0_init, aN_X1_init, ini_X4_init, ini_X9_init, ini_X5_init, ini_X0_init, ini_X1_init]
  repeat (first | exact hr | rw [if_neg (by omega)])
def ini_X10_init (h : AH) (k n : Nat) : AH := (sR (aNew (sR (aNew (sR (aNew (sR (aNew h (13 + 2) (6)) k 0 (some n)) (13 + 2) (6)) k 1 (some (n + 1))) (13 + 0) (6)) k 2 (some (n + 2))) (13 + 0) (6)) k 3 (some (n + 3)))
set_option maxRecDepth 20000 in
set_option maxHeartbeats 4000000 in
theorem c_X10_init (d : Nat) (h : AH) (k n : Nat) (hk0 : h.1[k]? = some (10, clN 10)) (hn0 : aN h = n) : Rp (d + 1) M_X10_init 0 [some (.ref k)] [] h (fun r h' => h' = ini_X10_init h k n ∧ r = none) := by
  have hlt : k < n := by rw [← hn0]; exact (List.getElem?_eq_some_iff.mp hk0).1
  refine Rp.aload_n dX10_init_0 rfl rfl ?_
  refine Rp.objI dX10_init_1 lk_X10_3 (Nat.le_of_ble_eq_true rfl) ?_
  refine Rp.aload_n dX10_init_4 rfl rfl ?_
  refine Rp.bipush (nI 6) dX10_init_5 (by decide) ?_
  refine Rp.newaA n 2 6 hn0 dX10_init_7 ⟨rfl, by decide, ac_2⟩ (by decide) ?_
  refine Rp.nm (fun h1 e1 => ?_)
  have s1_k : h1.1[k]? = some (10, clN 10) := by rw [e1]; exact sh_old hk0
  have hn1 : aN h1 = (n + 1) := by rw [e1, aN_new, hn0]
  refine Rp.putR dX10_init_9 fk_X10_9w (fun _ => rfl) (Or.inr ⟨_, rfl⟩) s1_k ?_
  refine Rp.nm (fun h2 e2 => ?_)
  have s2_k : h2.1[k]? = some (10, clN 10) := by rw [e2]; exact s1_k
  have hn2 : aN h2 = (n + 1) := by rw [e2]; exact hn1
  refine Rp.aload_n dX10_init_12 rfl rfl ?_
  refine Rp.bipush (nI 6) dX10_init_13 (by decide) ?_
  refine Rp.newaA (n + 1) 2 6 hn2 dX10_init_15 ⟨rfl, by decide, ac_2⟩ (by decide) ?_
  refine Rp.nm (fun h3 e3 => ?_)
  have s3_k : h3.1[k]? = some (10, clN 10) := by rw [e3]; exact sh_old s2_k
  have hn3 : aN h3 = (n + 2) := by rw [e3, aN_new, hn2]
  refine Rp.putR dX10_init_17 fk_X10_15w (fun _ => rfl) (Or.inr ⟨_, rfl⟩) s3_k ?_
  refine Rp.nm (fun h4 e4 => ?_)
  have s4_k : h4.1[k]? = some (10, clN 10) := by rw [e4]; exact s3_k
  have hn4 : aN h4 = (n + 2) := by rw [e4]; exact hn3
  refine Rp.aload_n dX10_init_20 rfl rfl ?_
  refine Rp.bipush (nI 6) dX10_init_21 (by decide) ?_
  refine Rp.newaA (n + 2) 0 6 hn4 dX10_init_23 ⟨rfl, by decide, ac_0⟩ (by decide) ?_
  refine Rp.nm (fun h5 e5 => ?_)
  have s5_k : h5.1[k]? = some (10, clN 10) := by rw [e5]; exact sh_old s4_k
  have hn5 : aN h5 = (n + 3) := by rw [e5, aN_new, hn4]
  refine Rp.putR dX10_init_25 fk_X10_18w (fun _ => rfl) (Or.inr ⟨_, rfl⟩) s5_k ?_
  refine Rp.nm (fun h6 e6 => ?_)
  have s6_k : h6.1[k]? = some (10, clN 10) := by rw [e6]; exact s5_k
  have hn6 : aN h6 = (n + 3) := by rw [e6]; exact hn5
  refine Rp.aload_n dX10_init_28 rfl rfl ?_
  refine Rp.bipush (nI 6) dX10_init_29 (by decide) ?_
  refine Rp.newaA (n + 3) 0 6 hn6 dX10_init_31 ⟨rfl, by decide, ac_0⟩ (by decide) ?_
  refine Rp.nm (fun h7 e7 => ?_)
  have s7_k : h7.1[k]? = some (10, clN 10) := by rw [e7]; exact sh_old s6_k
  have hn7 : aN h7 = (n + 4) := by rw [e7, aN_new, hn6]
  refine Rp.putR dX10_init_33 fk_X10_22w (fun _ => rfl) (Or.inr ⟨_, rfl⟩) s7_k ?_
  refine Rp.nm (fun h8 e8 => ?_)
  have s8_k : h8.1[k]? = some (10, clN 10) := by rw [e8]; exact s7_k
  have hn8 : aN h8 = (n + 4) := by rw [e8]; exact hn7
  refine Rp.vreturn dX10_init_36 rfl ?_
  exact ⟨by rw [e8, e7, e6, e5, e4, e3, e2, e1]; rfl, rfl⟩
theorem aN_X10_init (h : AH) (k n : Nat) : aN (ini_X10_init h k n) = aN h + 4 := by simp only [ini_X10_init, aN_new, aN_sR, aN_sI, aN_fillI, Nat.add_zero, aN_X4_init, aN_X9_init, aN_X5_init, aN_X0_init, aN_X1_init, aN_X6_init]
theorem setS_X10_init (h : AH) (S : Nat × (Nat → Int32)) (k n : Nat) : ini_X10_init (setS h S) k n = setS (ini_X10_init h k n) S := by simp only [ini_X10_init, setS_new, setS_sR, setS_sI, setS_fillI, setS_X4_init, setS_X9_init, setS_X5_init, setS_X0_init, setS_X1_init, setS_X6_init]
theorem sl_X10_init (h : AH) (k n : Nat) : ∃ l, (ini_X10_init h k n).1 = h.1 ++ l ∧ l.length = 4 := by
  refine ⟨_, by simp only [ini_X10_init, sR_1, sI_1, fillI_1, aNew_1, ini_X4_init, ini_X9_init, ini_X5_init, ini_X0_init, ini_X1_init, ini_X6_init, List.append_assoc]; first | rfl | exact (List.append_nil _).symm, by simp⟩
theorem sh_X10_init {h : AH} {k n w : Nat} {q : Nat × Nat} (hw : h.1[w]? = some q) : (ini_X10_init h k n).1[w]? = some q := by
  obtain ⟨l, e, -⟩ := sl_X10_init h k n
  rw [e, List.getElem?_append_left (List.getElem?_eq_some_iff.mp hw).1]
  exact hw
theorem gq_X10_init {h : AH} {k n w j : Nat} {r : Option Nat} (hn : aN h = n) (hw : w ≠ k) (hl : w < n) (hr : gR h w j = r) : gR (ini_X10_init h k n) w j = r := by
  simp only [ini_X10_init, gR_sR, gR_sI, gR_fillI, gR_new, aN_new, aN_sR, aN_sI, aN_fillI, hn, aN_X4_init, aN_X9_init, aN_X5_init, aN_X0_init, aN_X1_init, aN_X6_init, ini_X4_init, ini_X9_init, ini_X5_init, ini_X0_init, ini_X1_init, ini_X6_init]
  repeat (first | exact hr | rw [if_neg (by omega)])
def ini_X8_init (h : AH) (k n r1 r2 : Nat) : AH := (sR (sR (sR (aNew h (13 + 0) (17)) k 2 (some n)) k 0 (some r1)) k 1 (some r2))
set_option maxRecDepth 20000 in
set_option maxHeartbeats 4000000 in
theorem c_X8_init (d : Nat) (h : AH) (k n r1 r2 : Nat) (hk0 : h.1[k]? = some (8, clN 8)) (hn0 : aN h = n) : Rp (d + 1) M_X8_init 0 [some (.ref k), some (.ref r1), some (.ref r2)] [] h (fun r h' => h' = ini_X8_init h k n r1 r2 ∧ r = none) := by
  have hlt : k < n := by rw [← hn0]; exact (List.getElem?_eq_some_iff.mp hk0).1
  refine Rp.aload_n dX8_init_0 rfl rfl ?_
  refine Rp.objI dX8_init_1 lk_X8_5 (Nat.le_of_ble_eq_true rfl) ?_
  refine Rp.aload_n dX8_init_4 rfl rfl ?_
  refine Rp.bipush (nI 17) dX8_init_5 (by decide) ?_
  refine Rp.newaA n 0 17 hn0 dX8_init_7 ⟨rfl, by decide, ac_0⟩ (by decide) ?_
  refine Rp.nm (fun h1 e1 => ?_)
  have s1_k : h1.1[k]? = some (8, clN 8) := by rw [e1]; exact sh_old hk0
  have hn1 : aN h1 = (n + 1) := by rw [e1, aN_new, hn0]
  refine Rp.putR dX8_init_9 fk_X8_11w (fun _ => rfl) (Or.inr ⟨_, rfl⟩) s1_k ?_
  refine Rp.nm (fun h2 e2 => ?_)
  have s2_k : h2.1[k]? = some (8, clN 8) := by rw [e2]; exact s1_k
  have hn2 : aN h2 = (n + 1) := by rw [e2]; exact hn1
  refine Rp.aload_n dX8_init_12 rfl rfl ?_
  refine Rp.aload_n dX8_init_13 rfl rfl ?_
  refine Rp.putR dX8_init_14 fk_X8_15w (fun _ => rfl) (Or.inl ⟨_, rfl⟩) s2_k ?_
  refine Rp.nm (fun h3 e3 => ?_)
  have s3_k : h3.1[k]? = some (8, clN 8) := by rw [e3]; exact s2_k
  have hn3 : aN h3 = (n + 1) := by rw [e3]; exact hn2
  refine Rp.aload_n dX8_init_17 rfl rfl ?_
  refine Rp.aload_n dX8_init_18 rfl rfl ?_
  refine Rp.putR dX8_init_19 fk_X8_19w (fun _ => rfl) (Or.inl ⟨_, rfl⟩) s3_k ?_
  refine Rp.nm (fun h4 e4 => ?_)
  have s4_k : h4.1[k]? = some (8, clN 8) := by rw [e4]; exact s3_k
  have hn4 : aN h4 = (n + 1) := by rw [e4]; exact hn3
  refine Rp.vreturn dX8_init_22 rfl ?_
  exact ⟨by rw [e4, e3, e2, e1]; rfl, rfl⟩
theorem aN_X8_init (h : AH) (k n r1 r2 : Nat) : aN (ini_X8_init h k n r1 r2) = aN h + 1 := by simp only [ini_X8_init, aN_new, aN_sR, aN_sI, aN_fillI, Nat.add_zero, aN_X4_init, aN_X9_init, aN_X5_init, aN_X0_init, aN_X1_init, aN_X6_init, aN_X10_init]
theorem setS_X8_init (h : AH) (S : Nat × (Nat → Int32)) (k n r1 r2 : Nat) : ini_X8_init (setS h S) k n r1 r2 = setS (ini_X8_init h k n r1 r2) S := by simp only [ini_X8_init, setS_new, setS_sR, setS_sI, setS_fillI, setS_X4_init, setS_X9_init, setS_X5_init, setS_X0_init, setS_X1_init, setS_X6_init, setS_X10_init]
theorem sl_X8_init (h : AH) (k n r1 r2 : Nat) : ∃ l, (ini_X8_init h k n r1 r2).1 = h.1 ++ l ∧ l.length = 1 := by
  refine ⟨_, by simp only [ini_X8_init, sR_1, sI_1, fillI_1, aNew_1, ini_X4_init, ini_X9_init, ini_X5_init, ini_X0_init, ini_X1_init, ini_X6_init, ini_X10_init, List.append_assoc]; first | rfl | exact (List.append_nil _).symm, by simp⟩
theorem sh_X8_init {h : AH} {k n r1 r2 w : Nat} {q : Nat × Nat} (hw : h.1[w]? = some q) : (ini_X8_init h k n r1 r2).1[w]? = some q := by
  obtain ⟨l, e, -⟩ := sl_X8_init h k n r1 r2
  rw [e, List.getElem?_append_left (List.getElem?_eq_some_iff.mp hw).1]
  exact hw
theorem gq_X8_init {h : AH} {k n r1 r2 w j : Nat} {r : Option Nat} (hn : aN h = n) (hw : w ≠ k) (hl : w < n) (hr : gR h w j = r) : gR (ini_X8_init h k n r1 r2) w j = r := by
  simp only [ini_X8_init, gR_sR, gR_sI, gR_fillI, gR_new, aN_new, aN_sR, aN_sI, aN_fillI, hn, aN_X4_init, aN_X9_init, aN_X5_init, aN_X0_init, aN_X1_init, aN_X6_init, aN_X10_init, ini_X4_init, ini_X9_init, ini_X5_init, ini_X0_init, ini_X1_init, ini_X6_init, ini_X10_init]
  repeat (first | exact hr | rw [if_neg (by omega)])
def ini_X3_init (h : AH) (k n r1 : Nat) : AH := (sR (sR (aNew (sR (aNew (sR (ini_X5_init (aNew h (5) (clN 5)) n (n + 1)) k 0 (some n)) (13 + 0) (9)) k 1 (some (n + 2))) (13 + 0) (246)) k 2 (some (n + 3))) k 3 (some r1))
set_option maxRecDepth 20000 in
set_option maxHeartbeats 4000000 in
theorem c_X3_init (d : Nat) (h : AH) (k n r1 : Nat) (hk0 : h.1[k]? = some (3, clN 3)) (hn0 : aN h = n) : Rp (d + 2) M_X3_init 0 [some (.ref k), some (.ref r1)] [] h (fun r h' => h' = ini_X3_init h k n r1 ∧ r = none) := by
  have hlt : k < n := by rw [← hn0]; exact (List.getElem?_eq_some_iff.mp hk0).1
  refine Rp.aload_n dX3_init_0 rfl rfl ?_
  refine Rp.objI dX3_init_1 lk_X3_5 (Nat.le_of_ble_eq_true rfl) ?_
  refine Rp.aload_n dX3_init_4 rfl rfl ?_
  refine Rp.newA n hn0 dX3_init_5 cl_5 lc_X3_11 df_5 ?_
  refine Rp.nm (fun h1 e1 => ?_)
  have s1_k : h1.1[k]? = some (3, clN 3) := by rw [e1]; exact sh_old hk0
  have hn1 : aN h1 = (n + 1) := by rw [e1, aN_new, hn0]
  have s1_0 : h1.1[n]? = some (5, clN 5) := by rw [e1]; exact sh_new hn0
  refine Rp.dup dX3_init_8 rfl ?_
  refine Rp.callIN' [] dX3_init_9 mo_X5_init rfl rfl lk_X3_13 rfl (Nat.le_of_ble_eq_true rfl) (Nat.le_of_ble_eq_true rfl) (c_X5_init _ _ n (n + 1) s1_0 hn1) (fun v1 hq p1 x1 => ?_)
  obtain ⟨rfl, rfl⟩ := p1
  refine Rp.nm (fun h2 e2 => ?_)
  have s2_k : h2.1[k]? = some (3, clN 3) := by rw [e2]; exact sh_X5_init s1_k
  have s2_0 : h2.1[n]? = some (5, clN 5) := by rw [e2]; exact sh_X5_init s1_0
  have hn2 : aN h2 = (n + 2) := by rw [e2, aN_X5_init, hn1]
  refine Rp.putR dX3_init_12 fk_X3_14w (fun _ => rfl) (Or.inl ⟨_, rfl⟩) s2_k ?_
  refine Rp.nm (fun h3 e3 => ?_)
  have s3_k : h3.1[k]? = some (3, clN 3) := by rw [e3]; exact s2_k
  have s3_0 : h3.1[n]? = some (5, clN 5) := by rw [e3]; exact s2_0
  have hn3 : aN h3 = (n + 2) := by rw [e3]; exact hn2
  refine Rp.aload_n dX3_init_15 rfl rfl ?_
  refine Rp.bipush (nI 9) dX3_init_16 (by decide) ?_
  refine Rp.newaA (n + 2) 0 9 hn3 dX3_init_18 ⟨rfl, by decide, ac_0⟩ (by decide) ?_
  refine Rp.nm (fun h4 e4 => ?_)
  have s4_k : h4.1[k]? = some (3, clN 3) := by rw [e4]; exact sh_old s3_k
  have s4_0 : h4.1[n]? = some (5, clN 5) := by rw [e4]; exact sh_old s3_0
  have hn4 : aN h4 = (n + 3) := by rw [e4, aN_new, hn3]
  refine Rp.putR dX3_init_20 fk_X3_18w (fun _ => rfl) (Or.inr ⟨_, rfl⟩) s4_k ?_
  refine Rp.nm (fun h5 e5 => ?_)
  have s5_k : h5.1[k]? = some (3, clN 3) := by rw [e5]; exact s4_k
  have s5_0 : h5.1[n]? = some (5, clN 5) := by rw [e5]; exact s4_0
  have hn5 : aN h5 = (n + 3) := by rw [e5]; exact hn4
  refine Rp.aload_n dX3_init_23 rfl rfl ?_
  refine Rp.sipush (nI 246) dX3_init_24 (by decide) ?_
  refine Rp.newaA (n + 3) 0 246 hn5 dX3_init_27 ⟨rfl, by decide, ac_0⟩ (by decide) ?_
  refine Rp.nm (fun h6 e6 => ?_)
  have s6_k : h6.1[k]? = some (3, clN 3) := by rw [e6]; exact sh_old s5_k
  have s6_0 : h6.1[n]? = some (5, clN 5) := by rw [e6]; exact sh_old s5_0
  have hn6 : aN h6 = (n + 4) := by rw [e6, aN_new, hn5]
  refine Rp.putR dX3_init_29 fk_X3_22w (fun _ => rfl) (Or.inr ⟨_, rfl⟩) s6_k ?_
  refine Rp.nm (fun h7 e7 => ?_)
  have s7_k : h7.1[k]? = some (3, clN 3) := by rw [e7]; exact s6_k
  have s7_0 : h7.1[n]? = some (5, clN 5) := by rw [e7]; exact s6_0
  have hn7 : aN h7 = (n + 4) := by rw [e7]; exact hn6
  refine Rp.aload_n dX3_init_32 rfl rfl ?_
  refine Rp.aload_n dX3_init_33 rfl rfl ?_
  refine Rp.putR dX3_init_34 fk_X3_25w (fun h => by cases h) (Or.inl ⟨_, rfl⟩) s7_k ?_
  refine Rp.nm (fun h8 e8 => ?_)
  have s8_k : h8.1[k]? = some (3, clN 3) := by rw [e8]; exact s7_k
  have s8_0 : h8.1[n]? = some (5, clN 5) := by rw [e8]; exact s7_0
  have hn8 : aN h8 = (n + 4) := by rw [e8]; exact hn7
  refine Rp.vreturn dX3_init_37 rfl ?_
  exact ⟨by rw [e8, e7, e6, e5, e4, e3, e2, e1]; rfl, rfl⟩
theorem aN_X3_init (h : AH) (k n r1 : Nat) : aN (ini_X3_init h k n r1) = aN h + 4 := by simp only [ini_X3_init, aN_new, aN_sR, aN_sI, aN_fillI, Nat.add_zero, aN_X4_init, aN_X9_init, aN_X5_init, aN_X0_init, aN_X1_init, aN_X6_init, aN_X10_init, aN_X8_init]
theorem setS_X3_init (h : AH) (S : Nat × (Nat → Int32)) (k n r1 : Nat) : ini_X3_init (setS h S) k n r1 = setS (ini_X3_init h k n r1) S := by simp only [ini_X3_init, setS_new, setS_sR, setS_sI, setS_fillI, setS_X4_init, setS_X9_init, setS_X5_init, setS_X0_init, setS_X1_init, setS_X6_init, setS_X10_init, setS_X8_init]
theorem sl_X3_init (h : AH) (k n r1 : Nat) : ∃ l, (ini_X3_init h k n r1).1 = h.1 ++ l ∧ l.length = 4 := by
  refine ⟨_, by simp only [ini_X3_init, sR_1, sI_1, fillI_1, aNew_1, ini_X4_init, ini_X9_init, ini_X5_init, ini_X0_init, ini_X1_init, ini_X6_init, ini_X10_init, ini_X8_init, List.append_assoc]; first | rfl | exact (List.append_nil _).symm, by simp⟩
theorem sh_X3_init {h : AH} {k n r1 w : Nat} {q : Nat × Nat} (hw : h.1[w]? = some q) : (ini_X3_init h k n r1).1[w]? = some q := by
  obtain ⟨l, e, -⟩ := sl_X3_init h k n r1
  rw [e, List.getElem?_append_left (List.getElem?_eq_some_iff.mp hw).1]
  exact hw
theorem gq_X3_init {h : AH} {k n r1 w j : Nat} {r : Option Nat} (hn : aN h = n) (hw : w ≠ k) (hl : w < n) (hr : gR h w j = r) : gR (ini_X3_init h k n r1) w j = r := by
  simp only [ini_X3_init, gR_sR, gR_sI, gR_fillI, gR_new, aN_new, aN_sR, aN_sI, aN_fillI, hn, aN_X4_init, aN_X9_init, aN_X5_init, aN_X0_init, aN_X1_init, aN_X6_init, aN_X10_init, aN_X8_init, ini_X4_init, ini_X9_init, ini_X5_init, ini_X0_init, ini_X1_init, ini_X6_init, ini_X10_init, ini_X8_init]
  repeat (first | exact hr | rw [if_neg (by omega)])
def ini_X7_init (h : AH) (k n : Nat) : AH := (sI (sR (ini_X9_init (aNew (sR (aNew h (13 + 1) (400)) k 0 (some n)) (9) (clN 9)) (n + 1) (n + 2)) k 1 (some (n + 1))) k 3 (-1))
set_option maxRecDepth 20000 in
set_option maxHeartbeats 4000000 in
theorem c_X7_init (d : Nat) (h : AH) (k n : Nat) (hk0 : h.1[k]? = some (7, clN 7)) (hn0 : aN h = n) : Rp (d + 2) M_X7_init 0 [some (.ref k)] [] h (fun r h' => h' = ini_X7_init h k n ∧ r = none) := by
  have hlt : k < n := by rw [← hn0]; exact (List.getElem?_eq_some_iff.mp hk0).1
  refine Rp.aload_n dX7_init_0 rfl rfl ?_
  refine Rp.objI dX7_init_1 lk_X7_3 (Nat.le_of_ble_eq_true rfl) ?_
  refine Rp.aload_n dX7_init_4 rfl rfl ?_
  refine Rp.sipush (nI 400) dX7_init_5 (by decide) ?_
  refine Rp.newaA n 1 400 hn0 dX7_init_8 ⟨rfl, by decide, ac_1⟩ (by decide) ?_
  refine Rp.nm (fun h1 e1 => ?_)
  have s1_k : h1.1[k]? = some (7, clN 7) := by rw [e1]; exact sh_old hk0
  have hn1 : aN h1 = (n + 1) := by rw [e1, aN_new, hn0]
  refine Rp.putR dX7_init_10 fk_X7_9w (fun _ => rfl) (Or.inr ⟨_, rfl⟩) s1_k ?_
  refine Rp.nm (fun h2 e2 => ?_)
  have s2_k : h2.1[k]? = some (7, clN 7) := by rw [e2]; exact s1_k
  have hn2 : aN h2 = (n + 1) := by rw [e2]; exact hn1
  refine Rp.aload_n dX7_init_13 rfl rfl ?_
  refine Rp.newA (n + 1) hn2 dX7_init_14 cl_9 lc_X7_15 df_9 ?_
  refine Rp.nm (fun h3 e3 => ?_)
  have s3_k : h3.1[k]? = some (7, clN 7) := by rw [e3]; exact sh_old s2_k
  have hn3 : aN h3 = (n + 2) := by rw [e3, aN_new, hn2]
  have s3_1 : h3.1[(n + 1)]? = some (9, clN 9) := by rw [e3]; exact sh_new hn2
  refine Rp.dup dX7_init_17 rfl ?_
  refine Rp.callI' [] dX7_init_18 mo_X9_init rfl rfl lk_X7_17 rfl (Nat.le_of_ble_eq_true rfl) (Nat.le_of_ble_eq_true rfl) (c_X9_init _ _ (n + 1) (n + 2) s3_1 hn3) (fun v1 hq p1 x1 => ?_)
  obtain ⟨rfl, rfl⟩ := p1
  refine Rp.nm (fun h4 e4 => ?_)
  have s4_k : h4.1[k]? = some (7, clN 7) := by rw [e4]; exact sh_X9_init s3_k
  have s4_1 : h4.1[(n + 1)]? = some (9, clN 9) := by rw [e4]; exact sh_X9_init s3_1
  have hn4 : aN h4 = (n + 4) := by rw [e4, aN_X9_init, hn3]
  refine Rp.putR dX7_init_21 fk_X7_18w (fun _ => rfl) (Or.inl ⟨_, rfl⟩) s4_k ?_
  refine Rp.nm (fun h5 e5 => ?_)
  have s5_k : h5.1[k]? = some (7, clN 7) := by rw [e5]; exact s4_k
  have s5_1 : h5.1[(n + 1)]? = some (9, clN 9) := by rw [e5]; exact s4_1
  have hn5 : aN h5 = (n + 4) := by rw [e5]; exact hn4
  refine Rp.aload_n dX7_init_24 rfl rfl ?_
  refine Rp.iconst (-1) dX7_init_25 (by decide) ?_
  refine Rp.putI dX7_init_26 fk_X7_22w rfl s5_k ?_
  refine Rp.nm (fun h6 e6 => ?_)
  have s6_k : h6.1[k]? = some (7, clN 7) := by rw [e6]; exact s5_k
  have s6_1 : h6.1[(n + 1)]? = some (9, clN 9) := by rw [e6]; exact s5_1
  have hn6 : aN h6 = (n + 4) := by rw [e6]; exact hn5
  refine Rp.vreturn dX7_init_29 rfl ?_
  exact ⟨by rw [e6, e5, e4, e3, e2, e1]; rfl, rfl⟩
theorem aN_X7_init (h : AH) (k n : Nat) : aN (ini_X7_init h k n) = aN h + 4 := by simp only [ini_X7_init, aN_new, aN_sR, aN_sI, aN_fillI, Nat.add_zero, aN_X4_init, aN_X9_init, aN_X5_init, aN_X0_init, aN_X1_init, aN_X6_init, aN_X10_init, aN_X8_init, aN_X3_init]
theorem setS_X7_init (h : AH) (S : Nat × (Nat → Int32)) (k n : Nat) : ini_X7_init (setS h S) k n = setS (ini_X7_init h k n) S := by simp only [ini_X7_init, setS_new, setS_sR, setS_sI, setS_fillI, setS_X4_init, setS_X9_init, setS_X5_init, setS_X0_init, setS_X1_init, setS_X6_init, setS_X10_init, setS_X8_init, setS_X3_init]
theorem sl_X7_init (h : AH) (k n : Nat) : ∃ l, (ini_X7_init h k n).1 = h.1 ++ l ∧ l.length = 4 := by
  refine ⟨_, by simp only [ini_X7_init, sR_1, sI_1, fillI_1, aNew_1, ini_X4_init, ini_X9_init, ini_X5_init, ini_X0_init, ini_X1_init, ini_X6_init, ini_X10_init, ini_X8_init, ini_X3_init, List.append_assoc]; first | rfl | exact (List.append_nil _).symm, by simp⟩
theorem sh_X7_init {h : AH} {k n w : Nat} {q : Nat × Nat} (hw : h.1[w]? = some q) : (ini_X7_init h k n).1[w]? = some q := by
  obtain ⟨l, e, -⟩ := sl_X7_init h k n
  rw [e, List.getElem?_append_left (List.getElem?_eq_some_iff.mp hw).1]
  exact hw
theorem gq_X7_init {h : AH} {k n w j : Nat} {r : Option Nat} (hn : aN h = n) (hw : w ≠ k) (hl : w < n) (hr : gR h w j = r) : gR (ini_X7_init h k n) w j = r := by
  simp only [ini_X7_init, gR_sR, gR_sI, gR_fillI, gR_new, aN_new, aN_sR, aN_sI, aN_fillI, hn, aN_X4_init, aN_X9_init, aN_X5_init, aN_X0_init, aN_X1_init, aN_X6_init, aN_X10_init, aN_X8_init, aN_X3_init, ini_X4_init, ini_X9_init, ini_X5_init, ini_X0_init, ini_X1_init, ini_X6_init, ini_X10_init, ini_X8_init, ini_X3_init]
  repeat (first | exact hr | rw [if_neg (by omega)])
def ini_X2_init (h : AH) (k n : Nat) : AH := (sI (fillI (fillI (sR (ini_X4_init (aNew (sI (sR (aNew (sR (aNew (sR (aNew (sR (aNew (sR (aNew (sR (aNew (sR (aNew (sR (aNew (sR (aNew (sR (aNew (sR (aNew (sR (aNew (sR (aNew h (13 + 0) (6)) k 1 (some n)) (13 + 0) (6)) k 2 (some (n + 1))) (13 + 0) (6)) k 3 (some (n + 2))) (13 + 0) (48)) k 4 (some (n + 3))) (13 + 0) (8)) k 6 (some (n + 4))) (13 + 0) (8)) k 7 (some (n + 5))) (13 + 0) (8)) k 8 (some (n + 6))) (13 + 0) (3)) k 10 (some (n + 7))) (13 + 0) (3)) k 11 (some (n + 8))) (13 + 0) (6)) k 13 (some (n + 9))) (13 + 0) (6)) k 14 (some (n + 10))) (13 + 0) (3)) k 15 (some (n + 11))) (13 + 4) (6)) k 17 (some (n + 12))) k 18 (-1)) (4) (clN 4)) (n + 13) (n + 14)) k 19 (some (n + 13))) (n + 2) 6 (-1)) (n + 6) 8 (-1)) (n + 11) 1 (nI 9))
set_option maxRecDepth 20000 in
set_option maxHeartbeats 4000000 in
theorem c_X2_init (d : Nat) (h : AH) (k n : Nat) (hk0 : h.1[k]? = some (2, clN 2)) (hn0 : aN h = n) : Rp (d + 2) M_X2_init 0 [some (.ref k)] [] h (fun r h' => h' = ini_X2_init h k n ∧ r = none) := by
  have hlt : k < n := by rw [← hn0]; exact (List.getElem?_eq_some_iff.mp hk0).1
  refine Rp.aload_n dX2_init_0 rfl rfl ?_
  refine Rp.objI dX2_init_1 lk_X2_3 (Nat.le_of_ble_eq_true rfl) ?_
  refine Rp.aload_n dX2_init_4 rfl rfl ?_
  refine Rp.bipush (nI 6) dX2_init_5 (by decide) ?_
  refine Rp.newaA n 0 6 hn0 dX2_init_7 ⟨rfl, by decide, ac_0⟩ (by decide) ?_
  refine Rp.nm (fun h1 e1 => ?_)
  have s1_k : h1.1[k]? = some (2, clN 2) := by rw [e1]; exact sh_old hk0
  have hn1 : aN h1 = (n + 1) := by rw [e1, aN_new, hn0]
  refine Rp.putR dX2_init_9 fk_X2_9w (fun _ => rfl) (Or.inr ⟨_, rfl⟩) s1_k ?_
  refine Rp.nm (fun h2 e2 => ?_)
  have s2_k : h2.1[k]? = some (2, clN 2) := by rw [e2]; exact s1_k
  have hn2 : aN h2 = (n + 1) := by rw [e2]; exact hn1
  refine Rp.aload_n dX2_init_12 rfl rfl ?_
  refine Rp.bipush (nI 6) dX2_init_13 (by decide) ?_
  refine Rp.newaA (n + 1) 0 6 hn2 dX2_init_15 ⟨rfl, by decide, ac_0⟩ (by decide) ?_
  refine Rp.nm (fun h3 e3 => ?_)
  have s3_k : h3.1[k]? = some (2, clN 2) := by rw [e3]; exact sh_old s2_k
  have hn3 : aN h3 = (n + 2) := by rw [e3, aN_new, hn2]
  refine Rp.putR dX2_init_17 fk_X2_15w (fun _ => rfl) (Or.inr ⟨_, rfl⟩) s3_k ?_
  refine Rp.nm (fun h4 e4 => ?_)
  have s4_k : h4.1[k]? = some (2, clN 2) := by rw [e4]; exact s3_k
  have hn4 : aN h4 = (n + 2) := by rw [e4]; exact hn3
  refine Rp.aload_n dX2_init_20 rfl rfl ?_
  refine Rp.bipush (nI 6) dX2_init_21 (by decide) ?_
  refine Rp.newaA (n + 2) 0 6 hn4 dX2_init_23 ⟨rfl, by decide, ac_0⟩ (by decide) ?_
  refine Rp.nm (fun h5 e5 => ?_)
  have s5_k : h5.1[k]? = some (2, clN 2) := by rw [e5]; exact sh_old s4_k
  have hn5 : aN h5 = (n + 3) := by rw [e5, aN_new, hn4]
  have s5_2 : h5.1[(n + 2)]? = some (13, 6) := by rw [e5]; exact sh_new hn4
  refine Rp.putR dX2_init_25 fk_X2_18w (fun _ => rfl) (Or.inr ⟨_, rfl⟩) s5_k ?_
  refine Rp.nm (fun h6 e6 => ?_)
  have s6_k : h6.1[k]? = some (2, clN 2) := by rw [e6]; exact s5_k
  have s6_2 : h6.1[(n + 2)]? = some (13, 6) := by rw [e6]; exact s5_2
  have hn6 : aN h6 = (n + 3) := by rw [e6]; exact hn5
  have g6_k_3 : gR h6 k 3 = some (n + 2) := by rw [e6]; simp [gR_sR]
  refine Rp.aload_n dX2_init_28 rfl rfl ?_
  refine Rp.bipush (nI 48) dX2_init_29 (by decide) ?_
  refine Rp.newaA (n + 3) 0 48 hn6 dX2_init_31 ⟨rfl, by decide, ac_0⟩ (by decide) ?_
  refine Rp.nm (fun h7 e7 => ?_)
  have s7_k : h7.1[k]? = some (2, clN 2) := by rw [e7]; exact sh_old s6_k
  have s7_2 : h7.1[(n + 2)]? = some (13, 6) := by rw [e7]; exact sh_old s6_2
  have hn7 : aN h7 = (n + 4) := by rw [e7, aN_new, hn6]
  have g7_k_3 : gR h7 k 3 = some (n + 2) := by rw [e7]; exact gq_new (by rw [hn6]; exact (ne_k hlt 3)) g6_k_3
  refine Rp.putR dX2_init_33 fk_X2_21w (fun _ => rfl) (Or.inr ⟨_, rfl⟩) s7_k ?_
  refine Rp.nm (fun h8 e8 => ?_)
  have s8_k : h8.1[k]? = some (2, clN 2) := by rw [e8]; exact s7_k
  have s8_2 : h8.1[(n + 2)]? = some (13, 6) := by rw [e8]; exact s7_2
  have hn8 : aN h8 = (n + 4) := by rw [e8]; exact hn7
  have g8_k_3 : gR h8 k 3 = some (n + 2) := by rw [e8]; exact gq_sRj (by decide) g7_k_3
  refine Rp.aload_n dX2_init_36 rfl rfl ?_
  refine Rp.bipush (nI 8) dX2_init_37 (by decide) ?_
  refine Rp.newaA (n + 4) 0 8 hn8 dX2_init_39 ⟨rfl, by decide, ac_0⟩ (by decide) ?_
  refine Rp.nm (fun h9 e9 => ?_)
  have s9_k : h9.1[k]? = some (2, clN 2) := by rw [e9]; exact sh_old s8_k
  have s9_2 : h9.1[(n + 2)]? = some (13, 6) := by rw [e9]; exact sh_old s8_2
  have hn9 : aN h9 = (n + 5) := by rw [e9, aN_new, hn8]
  have g9_k_3 : gR h9 k 3 = some (n + 2) := by rw [e9]; exact gq_new (by rw [hn8]; exact (ne_k hlt 4)) g8_k_3
  refine Rp.putR dX2_init_41 fk_X2_24w (fun _ => rfl) (Or.inr ⟨_, rfl⟩) s9_k ?_
  refine Rp.nm (fun h10 e10 => ?_)
  have s10_k : h10.1[k]? = some (2, clN 2) := by rw [e10]; exact s9_k
  have s10_2 : h10.1[(n + 2)]? = some (13, 6) := by rw [e10]; exact s9_2
  have hn10 : aN h10 = (n + 5) := by rw [e10]; exact hn9
  have g10_k_3 : gR h10 k 3 = some (n + 2) := by rw [e10]; exact gq_sRj (by decide) g9_k_3
  refine Rp.aload_n dX2_init_44 rfl rfl ?_
  refine Rp.bipush (nI 8) dX2_init_45 (by decide) ?_
  refine Rp.newaA (n + 5) 0 8 hn10 dX2_init_47 ⟨rfl, by decide, ac_0⟩ (by decide) ?_
  refine Rp.nm (fun h11 e11 => ?_)
  have s11_k : h11.1[k]? = some (2, clN 2) := by rw [e11]; exact sh_old s10_k
  have s11_2 : h11.1[(n + 2)]? = some (13, 6) := by rw [e11]; exact sh_old s10_2
  have hn11 : aN h11 = (n + 6) := by rw [e11, aN_new, hn10]
  have g11_k_3 : gR h11 k 3 = some (n + 2) := by rw [e11]; exact gq_new (by rw [hn10]; exact (ne_k hlt 5)) g10_k_3
  refine Rp.putR dX2_init_49 fk_X2_27w (fun _ => rfl) (Or.inr ⟨_, rfl⟩) s11_k ?_
  refine Rp.nm (fun h12 e12 => ?_)
  have s12_k : h12.1[k]? = some (2, clN 2) := by rw [e12]; exact s11_k
  have s12_2 : h12.1[(n + 2)]? = some (13, 6) := by rw [e12]; exact s11_2
  have hn12 : aN h12 = (n + 6) := by rw [e12]; exact hn11
  have g12_k_3 : gR h12 k 3 = some (n + 2) := by rw [e12]; exact gq_sRj (by decide) g11_k_3
  refine Rp.aload_n dX2_init_52 rfl rfl ?_
  refine Rp.bipush (nI 8) dX2_init_53 (by decide) ?_
  refine Rp.newaA (n + 6) 0 8 hn12 dX2_init_55 ⟨rfl, by decide, ac_0⟩ (by decide) ?_
  refine Rp.nm (fun h13 e13 => ?_)
  have s13_k : h13.1[k]? = some (2, clN 2) := by rw [e13]; exact sh_old s12_k
  have s13_2 : h13.1[(n + 2)]? = some (13, 6) := by rw [e13]; exact sh_old s12_2
  have hn13 : aN h13 = (n + 7) := by rw [e13, aN_new, hn12]
  have g13_k_3 : gR h13 k 3 = some (n + 2) := by rw [e13]; exact gq_new (by rw [hn12]; exact (ne_k hlt 6)) g12_k_3
  have s13_6 : h13.1[(n + 6)]? = some (13, 8) := by rw [e13]; exact sh_new hn12
  refine Rp.putR dX2_init_57 fk_X2_30w (fun _ => rfl) (Or.inr ⟨_, rfl⟩) s13_k ?_
  refine Rp.nm (fun h14 e14 => ?_)
  have s14_k : h14.1[k]? = some (2, clN 2) := by rw [e14]; exact s13_k
  have s14_2 : h14.1[(n + 2)]? = some (13, 6) := by rw [e14]; exact s13_2
  have s14_6 : h14.1[(n + 6)]? = some (13, 8) := by rw [e14]; exact s13_6
  have hn14 : aN h14 = (n + 7) := by rw [e14]; exact hn13
  have g14_k_3 : gR h14 k 3 = some (n + 2) := by rw [e14]; exact gq_sRj (by decide) g13_k_3
  have g14_k_8 : gR h14 k 8 = some (n + 6) := by rw [e14]; simp [gR_sR]
  refine Rp.aload_n dX2_init_60 rfl rfl ?_
  refine Rp.iconst (nI 3) dX2_init_61 (by decide) ?_
  refine Rp.newaA (n + 7) 0 3 hn14 dX2_init_62 ⟨rfl, by decide, ac_0⟩ (by decide) ?_
  refine Rp.nm (fun h15 e15 => ?_)
  have s15_k : h15.1[k]? = some (2, clN 2) := by rw [e15]; exact sh_old s14_k
  have s15_2 : h15.1[(n + 2)]? = some (13, 6) := by rw [e15]; exact sh_old s14_2
  have s15_6 : h15.1[(n + 6)]? = some (13, 8) := by rw [e15]; exact sh_old s14_6
  have hn15 : aN h15 = (n + 8) := by rw [e15, aN_new, hn14]
  have g15_k_3 : gR h15 k 3 = some (n + 2) := by rw [e15]; exact gq_new (by rw [hn14]; exact (ne_k hlt 7)) g14_k_3
  have g15_k_8 : gR h15 k 8 = some (n + 6) := by rw [e15]; exact gq_new (by rw [hn14]; exact (ne_k hlt 7)) g14_k_8
  refine Rp.putR dX2_init_64 fk_X2_33w (fun _ => rfl) (Or.inr ⟨_, rfl⟩) s15_k ?_
  refine Rp.nm (fun h16 e16 => ?_)
  have s16_k : h16.1[k]? = some (2, clN 2) := by rw [e16]; exact s15_k
  have s16_2 : h16.1[(n + 2)]? = some (13, 6) := by rw [e16]; exact s15_2
  have s16_6 : h16.1[(n + 6)]? = some (13, 8) := by rw [e16]; exact s15_6
  have hn16 : aN h16 = (n + 8) := by rw [e16]; exact hn15
  have g16_k_3 : gR h16 k 3 = some (n + 2) := by rw [e16]; exact gq_sRj (by decide) g15_k_3
  have g16_k_8 : gR h16 k 8 = some (n + 6) := by rw [e16]; exact gq_sRj (by decide) g15_k_8
  refine Rp.aload_n dX2_init_67 rfl rfl ?_
  refine Rp.iconst (nI 3) dX2_init_68 (by decide) ?_
  refine Rp.newaA (n + 8) 0 3 hn16 dX2_init_69 ⟨rfl, by decide, ac_0⟩ (by decide) ?_
  refine Rp.nm (fun h17 e17 => ?_)
  have s17_k : h17.1[k]? = some (2, clN 2) := by rw [e17]; exact sh_old s16_k
  have s17_2 : h17.1[(n + 2)]? = some (13, 6) := by rw [e17]; exact sh_old s16_2
  have s17_6 : h17.1[(n + 6)]? = some (13, 8) := by rw [e17]; exact sh_old s16_6
  have hn17 : aN h17 = (n + 9) := by rw [e17, aN_new, hn16]
  have g17_k_3 : gR h17 k 3 = some (n + 2) := by rw [e17]; exact gq_new (by rw [hn16]; exact (ne_k hlt 8)) g16_k_3
  have g17_k_8 : gR h17 k 8 = some (n + 6) := by rw [e17]; exact gq_new (by rw [hn16]; exact (ne_k hlt 8)) g16_k_8
  refine Rp.putR dX2_init_71 fk_X2_36w (fun _ => rfl) (Or.inr ⟨_, rfl⟩) s17_k ?_
  refine Rp.nm (fun h18 e18 => ?_)
  have s18_k : h18.1[k]? = some (2, clN 2) := by rw [e18]; exact s17_k
  have s18_2 : h18.1[(n + 2)]? = some (13, 6) := by rw [e18]; exact s17_2
  have s18_6 : h18.1[(n + 6)]? = some (13, 8) := by rw [e18]; exact s17_6
  have hn18 : aN h18 = (n + 9) := by rw [e18]; exact hn17
  have g18_k_3 : gR h18 k 3 = some (n + 2) := by rw [e18]; exact gq_sRj (by decide) g17_k_3
  have g18_k_8 : gR h18 k 8 = some (n + 6) := by rw [e18]; exact gq_sRj (by decide) g17_k_8
  refine Rp.aload_n dX2_init_74 rfl rfl ?_
  refine Rp.bipush (nI 6) dX2_init_75 (by decide) ?_
  refine Rp.newaA (n + 9) 0 6 hn18 dX2_init_77 ⟨rfl, by decide, ac_0⟩ (by decide) ?_
  refine Rp.nm (fun h19 e19 => ?_)
  have s19_k : h19.1[k]? = some (2, clN 2) := by rw [e19]; exact sh_old s18_k
  have s19_2 : h19.1[(n + 2)]? = some (13, 6) := by rw [e19]; exact sh_old s18_2
  have s19_6 : h19.1[(n + 6)]? = some (13, 8) := by rw [e19]; exact sh_old s18_6
  have hn19 : aN h19 = (n + 10) := by rw [e19, aN_new, hn18]
  have g19_k_3 : gR h19 k 3 = some (n + 2) := by rw [e19]; exact gq_new (by rw [hn18]; exact (ne_k hlt 9)) g18_k_3
  have g19_k_8 : gR h19 k 8 = some (n + 6) := by rw [e19]; exact gq_new (by rw [hn18]; exact (ne_k hlt 9)) g18_k_8
  refine Rp.putR dX2_init_79 fk_X2_39w (fun _ => rfl) (Or.inr ⟨_, rfl⟩) s19_k ?_
  refine Rp.nm (fun h20 e20 => ?_)
  have s20_k : h20.1[k]? = some (2, clN 2) := by rw [e20]; exact s19_k
  have s20_2 : h20.1[(n + 2)]? = some (13, 6) := by rw [e20]; exact s19_2
  have s20_6 : h20.1[(n + 6)]? = some (13, 8) := by rw [e20]; exact s19_6
  have hn20 : aN h20 = (n + 10) := by rw [e20]; exact hn19
  have g20_k_3 : gR h20 k 3 = some (n + 2) := by rw [e20]; exact gq_sRj (by decide) g19_k_3
  have g20_k_8 : gR h20 k 8 = some (n + 6) := by rw [e20]; exact gq_sRj (by decide) g19_k_8
  refine Rp.aload_n dX2_init_82 rfl rfl ?_
  refine Rp.bipush (nI 6) dX2_init_83 (by decide) ?_
  refine Rp.newaA (n + 10) 0 6 hn20 dX2_init_85 ⟨rfl, by decide, ac_0⟩ (by decide) ?_
  refine Rp.nm (fun h21 e21 => ?_)
  have s21_k : h21.1[k]? = some (2, clN 2) := by rw [e21]; exact sh_old s20_k
  have s21_2 : h21.1[(n + 2)]? = some (13, 6) := by rw [e21]; exact sh_old s20_2
  have s21_6 : h21.1[(n + 6)]? = some (13, 8) := by rw [e21]; exact sh_old s20_6
  have hn21 : aN h21 = (n + 11) := by rw [e21, aN_new, hn20]
  have g21_k_3 : gR h21 k 3 = some (n + 2) := by rw [e21]; exact gq_new (by rw [hn20]; exact (ne_k hlt 10)) g20_k_3
  have g21_k_8 : gR h21 k 8 = some (n + 6) := by rw [e21]; exact gq_new (by rw [hn20]; exact (ne_k hlt 10)) g20_k_8
  refine Rp.putR dX2_init_87 fk_X2_42w (fun _ => rfl) (Or.inr ⟨_, rfl⟩) s21_k ?_
  refine Rp.nm (fun h22 e22 => ?_)
  have s22_k : h22.1[k]? = some (2, clN 2) := by rw [e22]; exact s21_k
  have s22_2 : h22.1[(n + 2)]? = some (13, 6) := by rw [e22]; exact s21_2
  have s22_6 : h22.1[(n + 6)]? = some (13, 8) := by rw [e22]; exact s21_6
  have hn22 : aN h22 = (n + 11) := by rw [e22]; exact hn21
  have g22_k_3 : gR h22 k 3 = some (n + 2) := by rw [e22]; exact gq_sRj (by decide) g21_k_3
  have g22_k_8 : gR h22 k 8 = some (n + 6) := by rw [e22]; exact gq_sRj (by decide) g21_k_8
  refine Rp.aload_n dX2_init_90 rfl rfl ?_
  refine Rp.iconst (nI 3) dX2_init_91 (by decide) ?_
  refine Rp.newaA (n + 11) 0 3 hn22 dX2_init_92 ⟨rfl, by decide, ac_0⟩ (by decide) ?_
  refine Rp.nm (fun h23 e23 => ?_)
  have s23_k : h23.1[k]? = some (2, clN 2) := by rw [e23]; exact sh_old s22_k
  have s23_2 : h23.1[(n + 2)]? = some (13, 6) := by rw [e23]; exact sh_old s22_2
  have s23_6 : h23.1[(n + 6)]? = some (13, 8) := by rw [e23]; exact sh_old s22_6
  have hn23 : aN h23 = (n + 12) := by rw [e23, aN_new, hn22]
  have g23_k_3 : gR h23 k 3 = some (n + 2) := by rw [e23]; exact gq_new (by rw [hn22]; exact (ne_k hlt 11)) g22_k_3
  have g23_k_8 : gR h23 k 8 = some (n + 6) := by rw [e23]; exact gq_new (by rw [hn22]; exact (ne_k hlt 11)) g22_k_8
  have s23_11 : h23.1[(n + 11)]? = some (13, 3) := by rw [e23]; exact sh_new hn22
  refine Rp.putR dX2_init_94 fk_X2_45w (fun _ => rfl) (Or.inr ⟨_, rfl⟩) s23_k ?_
  refine Rp.nm (fun h24 e24 => ?_)
  have s24_k : h24.1[k]? = some (2, clN 2) := by rw [e24]; exact s23_k
  have s24_2 : h24.1[(n + 2)]? = some (13, 6) := by rw [e24]; exact s23_2
  have s24_6 : h24.1[(n + 6)]? = some (13, 8) := by rw [e24]; exact s23_6
  have s24_11 : h24.1[(n + 11)]? = some (13, 3) := by rw [e24]; exact s23_11
  have hn24 : aN h24 = (n + 12) := by rw [e24]; exact hn23
  have g24_k_3 : gR h24 k 3 = some (n + 2) := by rw [e24]; exact gq_sRj (by decide) g23_k_3
  have g24_k_8 : gR h24 k 8 = some (n + 6) := by rw [e24]; exact gq_sRj (by decide) g23_k_8
  have g24_k_15 : gR h24 k 15 = some (n + 11) := by rw [e24]; simp [gR_sR]
  refine Rp.aload_n dX2_init_97 rfl rfl ?_
  refine Rp.bipush (nI 6) dX2_init_98 (by decide) ?_
  refine Rp.anewA (n + 12) 4 6 hn24 dX2_init_100 (Or.inl ⟨rfl, rfl⟩) lc_X2_48.1 (by decide) ?_
  refine Rp.nm (fun h25 e25 => ?_)
  have s25_k : h25.1[k]? = some (2, clN 2) := by rw [e25]; exact sh_old s24_k
  have s25_2 : h25.1[(n + 2)]? = some (13, 6) := by rw [e25]; exact sh_old s24_2
  have s25_6 : h25.1[(n + 6)]? = some (13, 8) := by rw [e25]; exact sh_old s24_6
  have s25_11 : h25.1[(n + 11)]? = some (13, 3) := by rw [e25]; exact sh_old s24_11
  have hn25 : aN h25 = (n + 13) := by rw [e25, aN_new, hn24]
  have g25_k_3 : gR h25 k 3 = some (n + 2) := by rw [e25]; exact gq_new (by rw [hn24]; exact (ne_k hlt 12)) g24_k_3
  have g25_k_8 : gR h25 k 8 = some (n + 6) := by rw [e25]; exact gq_new (by rw [hn24]; exact (ne_k hlt 12)) g24_k_8
  have g25_k_15 : gR h25 k 15 = some (n + 11) := by rw [e25]; exact gq_new (by rw [hn24]; exact (ne_k hlt 12)) g24_k_15
  refine Rp.putR dX2_init_103 fk_X2_50w (fun _ => rfl) (Or.inr ⟨_, rfl⟩) s25_k ?_
  refine Rp.nm (fun h26 e26 => ?_)
  have s26_k : h26.1[k]? = some (2, clN 2) := by rw [e26]; exact s25_k
  have s26_2 : h26.1[(n + 2)]? = some (13, 6) := by rw [e26]; exact s25_2
  have s26_6 : h26.1[(n + 6)]? = some (13, 8) := by rw [e26]; exact s25_6
  have s26_11 : h26.1[(n + 11)]? = some (13, 3) := by rw [e26]; exact s25_11
  have hn26 : aN h26 = (n + 13) := by rw [e26]; exact hn25
  have g26_k_3 : gR h26 k 3 = some (n + 2) := by rw [e26]; exact gq_sRj (by decide) g25_k_3
  have g26_k_8 : gR h26 k 8 = some (n + 6) := by rw [e26]; exact gq_sRj (by decide) g25_k_8
  have g26_k_15 : gR h26 k 15 = some (n + 11) := by rw [e26]; exact gq_sRj (by decide) g25_k_15
  refine Rp.aload_n dX2_init_106 rfl rfl ?_
  refine Rp.iconst (-1) dX2_init_107 (by decide) ?_
  refine Rp.putI dX2_init_108 fk_X2_54w rfl s26_k ?_
  refine Rp.nm (fun h27 e27 => ?_)
  have s27_k : h27.1[k]? = some (2, clN 2) := by rw [e27]; exact s26_k
  have s27_2 : h27.1[(n + 2)]? = some (13, 6) := by rw [e27]; exact s26_2
  have s27_6 : h27.1[(n + 6)]? = some (13, 8) := by rw [e27]; exact s26_6
  have s27_11 : h27.1[(n + 11)]? = some (13, 3) := by rw [e27]; exact s26_11
  have hn27 : aN h27 = (n + 13) := by rw [e27]; exact hn26
  have g27_k_3 : gR h27 k 3 = some (n + 2) := by rw [e27]; exact g26_k_3
  have g27_k_8 : gR h27 k 8 = some (n + 6) := by rw [e27]; exact g26_k_8
  have g27_k_15 : gR h27 k 15 = some (n + 11) := by rw [e27]; exact g26_k_15
  refine Rp.aload_n dX2_init_111 rfl rfl ?_
  refine Rp.newA (n + 13) hn27 dX2_init_112 cl_4 lc_X2_58 df_4 ?_
  refine Rp.nm (fun h28 e28 => ?_)
  have s28_k : h28.1[k]? = some (2, clN 2) := by rw [e28]; exact sh_old s27_k
  have s28_2 : h28.1[(n + 2)]? = some (13, 6) := by rw [e28]; exact sh_old s27_2
  have s28_6 : h28.1[(n + 6)]? = some (13, 8) := by rw [e28]; exact sh_old s27_6
  have s28_11 : h28.1[(n + 11)]? = some (13, 3) := by rw [e28]; exact sh_old s27_11
  have hn28 : aN h28 = (n + 14) := by rw [e28, aN_new, hn27]
  have g28_k_3 : gR h28 k 3 = some (n + 2) := by rw [e28]; exact gq_new (by rw [hn27]; exact (ne_k hlt 13)) g27_k_3
  have g28_k_8 : gR h28 k 8 = some (n + 6) := by rw [e28]; exact gq_new (by rw [hn27]; exact (ne_k hlt 13)) g27_k_8
  have g28_k_15 : gR h28 k 15 = some (n + 11) := by rw [e28]; exact gq_new (by rw [hn27]; exact (ne_k hlt 13)) g27_k_15
  have s28_13 : h28.1[(n + 13)]? = some (4, clN 4) := by rw [e28]; exact sh_new hn27
  refine Rp.dup dX2_init_115 rfl ?_
  refine Rp.callIN' [] dX2_init_116 mo_X4_init rfl rfl lk_X2_60 rfl (Nat.le_of_ble_eq_true rfl) (Nat.le_of_ble_eq_true rfl) (c_X4_init _ _ (n + 13) (n + 14) s28_13 hn28) (fun v1 hq p1 x1 => ?_)
  obtain ⟨rfl, rfl⟩ := p1
  refine Rp.nm (fun h29 e29 => ?_)
  have s29_k : h29.1[k]? = some (2, clN 2) := by rw [e29]; exact sh_X4_init s28_k
  have s29_2 : h29.1[(n + 2)]? = some (13, 6) := by rw [e29]; exact sh_X4_init s28_2
  have s29_6 : h29.1[(n + 6)]? = some (13, 8) := by rw [e29]; exact sh_X4_init s28_6
  have s29_11 : h29.1[(n + 11)]? = some (13, 3) := by rw [e29]; exact sh_X4_init s28_11
  have s29_13 : h29.1[(n + 13)]? = some (4, clN 4) := by rw [e29]; exact sh_X4_init s28_13
  have hn29 : aN h29 = (n + 15) := by rw [e29, aN_X4_init, hn28]
  have g29_k_3 : gR h29 k 3 = some (n + 2) := by rw [e29]; exact gq_X4_init hn28 (ne_k hlt 13) (Nat.lt_of_lt_of_le hlt (Nat.le_add_right _ _)) g28_k_3
  have g29_k_8 : gR h29 k 8 = some (n + 6) := by rw [e29]; exact gq_X4_init hn28 (ne_k hlt 13) (Nat.lt_of_lt_of_le hlt (Nat.le_add_right _ _)) g28_k_8
  have g29_k_15 : gR h29 k 15 = some (n + 11) := by rw [e29]; exact gq_X4_init hn28 (ne_k hlt 13) (Nat.lt_of_lt_of_le hlt (Nat.le_add_right _ _)) g28_k_15
  refine Rp.putR dX2_init_119 fk_X2_61w (fun _ => rfl) (Or.inl ⟨_, rfl⟩) s29_k ?_
  refine Rp.nm (fun h30 e30 => ?_)
  have s30_k : h30.1[k]? = some (2, clN 2) := by rw [e30]; exact s29_k
  have s30_2 : h30.1[(n + 2)]? = some (13, 6) := by rw [e30]; exact s29_2
  have s30_6 : h30.1[(n + 6)]? = some (13, 8) := by rw [e30]; exact s29_6
  have s30_11 : h30.1[(n + 11)]? = some (13, 3) := by rw [e30]; exact s29_11
  have s30_13 : h30.1[(n + 13)]? = some (4, clN 4) := by rw [e30]; exact s29_13
  have hn30 : aN h30 = (n + 15) := by rw [e30]; exact hn29
  have g30_k_3 : gR h30 k 3 = some (n + 2) := by rw [e30]; exact gq_sRj (by decide) g29_k_3
  have g30_k_8 : gR h30 k 8 = some (n + 6) := by rw [e30]; exact gq_sRj (by decide) g29_k_8
  have g30_k_15 : gR h30 k 15 = some (n + 11) := by rw [e30]; exact gq_sRj (by decide) g29_k_15
  refine Rp.aload_n dX2_init_122 rfl rfl ?_
  refine Rp.getR dX2_init_123 fk_X2_18 rfl s30_k g30_k_3 ?_
  refine Rp.iconst (-1) dX2_init_126 (by decide) ?_
  refine Rp.callS2 M_J7_fill_53178 dX2_init_127 mo_J7_fill_53178 lk_X2_65 (Nat.le_of_ble_eq_true rfl) (Nat.le_of_ble_eq_true rfl) (c_fill _ _ (n + 2) 6 (-1) s30_2 (by decide)) (fun v1 hq p1 x1 => ?_)
  obtain ⟨rfl, rfl⟩ := p1
  refine Rp.nm (fun h31 e31 => ?_)
  have s31_k : h31.1[k]? = some (2, clN 2) := by rw [e31]; exact s30_k
  have s31_2 : h31.1[(n + 2)]? = some (13, 6) := by rw [e31]; exact s30_2
  have s31_6 : h31.1[(n + 6)]? = some (13, 8) := by rw [e31]; exact s30_6
  have s31_11 : h31.1[(n + 11)]? = some (13, 3) := by rw [e31]; exact s30_11
  have s31_13 : h31.1[(n + 13)]? = some (4, clN 4) := by rw [e31]; exact s30_13
  have hn31 : aN h31 = (n + 15) := by rw [e31]; exact hn30
  have g31_k_3 : gR h31 k 3 = some (n + 2) := by rw [e31]; exact g30_k_3
  have g31_k_8 : gR h31 k 8 = some (n + 6) := by rw [e31]; exact g30_k_8
  have g31_k_15 : gR h31 k 15 = some (n + 11) := by rw [e31]; exact g30_k_15
  refine Rp.aload_n dX2_init_130 rfl rfl ?_
  refine Rp.getR dX2_init_131 fk_X2_30 rfl s31_k g31_k_8 ?_
  refine Rp.iconst (-1) dX2_init_134 (by decide) ?_
  refine Rp.callS2 M_J7_fill_53178 dX2_init_135 mo_J7_fill_53178 lk_X2_65 (Nat.le_of_ble_eq_true rfl) (Nat.le_of_ble_eq_true rfl) (c_fill _ _ (n + 6) 8 (-1) s31_6 (by decide)) (fun v1 hq p1 x1 => ?_)
  obtain ⟨rfl, rfl⟩ := p1
  refine Rp.nm (fun h32 e32 => ?_)
  have s32_k : h32.1[k]? = some (2, clN 2) := by rw [e32]; exact s31_k
  have s32_2 : h32.1[(n + 2)]? = some (13, 6) := by rw [e32]; exact s31_2
  have s32_6 : h32.1[(n + 6)]? = some (13, 8) := by rw [e32]; exact s31_6
  have s32_11 : h32.1[(n + 11)]? = some (13, 3) := by rw [e32]; exact s31_11
  have s32_13 : h32.1[(n + 13)]? = some (4, clN 4) := by rw [e32]; exact s31_13
  have hn32 : aN h32 = (n + 15) := by rw [e32]; exact hn31
  have g32_k_3 : gR h32 k 3 = some (n + 2) := by rw [e32]; exact g31_k_3
  have g32_k_8 : gR h32 k 8 = some (n + 6) := by rw [e32]; exact g31_k_8
  have g32_k_15 : gR h32 k 15 = some (n + 11) := by rw [e32]; exact g31_k_15
  refine Rp.aload_n dX2_init_138 rfl rfl ?_
  refine Rp.getR dX2_init_139 fk_X2_45 rfl s32_k g32_k_15 ?_
  refine Rp.iconst (nI 1) dX2_init_142 (by decide) ?_
  refine Rp.bipush (nI 9) dX2_init_143 (by decide) ?_
  refine Rp.iastoreN dX2_init_145 s32_11 (by omega) ?_
  refine Rp.nm (fun h33 e33 => ?_)
  have s33_k : h33.1[k]? = some (2, clN 2) := by rw [e33]; exact s32_k
  have s33_2 : h33.1[(n + 2)]? = some (13, 6) := by rw [e33]; exact s32_2
  have s33_6 : h33.1[(n + 6)]? = some (13, 8) := by rw [e33]; exact s32_6
  have s33_11 : h33.1[(n + 11)]? = some (13, 3) := by rw [e33]; exact s32_11
  have s33_13 : h33.1[(n + 13)]? = some (4, clN 4) := by rw [e33]; exact s32_13
  have hn33 : aN h33 = (n + 15) := by rw [e33]; exact hn32
  have g33_k_3 : gR h33 k 3 = some (n + 2) := by rw [e33]; exact g32_k_3
  have g33_k_8 : gR h33 k 8 = some (n + 6) := by rw [e33]; exact g32_k_8
  have g33_k_15 : gR h33 k 15 = some (n + 11) := by rw [e33]; exact g32_k_15
  refine Rp.vreturn dX2_init_146 rfl ?_
  exact ⟨by rw [e33, e32, e31, e30, e29, e28, e27, e26, e25, e24, e23, e22, e21, e20, e19, e18, e17, e16, e15, e14, e13, e12, e11, e10, e9, e8, e7, e6, e5, e4, e3, e2, e1]; rfl, rfl⟩
theorem aN_X2_init (h : AH) (k n : Nat) : aN (ini_X2_init h k n) = aN h + 15 := by simp only [ini_X2_init, aN_new, aN_sR, aN_sI, aN_fillI, Nat.add_zero, aN_X4_init, aN_X9_init, aN_X5_init, aN_X0_init, aN_X1_init, aN_X6_init, aN_X10_init, aN_X8_init, aN_X3_init, aN_X7_init]
theorem setS_X2_init (h : AH) (S : Nat × (Nat → Int32)) (k n : Nat) : ini_X2_init (setS h S) k n = setS (ini_X2_init h k n) S := by simp only [ini_X2_init, setS_new, setS_sR, setS_sI, setS_fillI, setS_X4_init, setS_X9_init, setS_X5_init, setS_X0_init, setS_X1_init, setS_X6_init, setS_X10_init, setS_X8_init, setS_X3_init, setS_X7_init]
theorem sl_X2_init (h : AH) (k n : Nat) : ∃ l, (ini_X2_init h k n).1 = h.1 ++ l ∧ l.length = 15 := by
  refine ⟨_, by simp only [ini_X2_init, sR_1, sI_1, fillI_1, aNew_1, ini_X4_init, ini_X9_init, ini_X5_init, ini_X0_init, ini_X1_init, ini_X6_init, ini_X10_init, ini_X8_init, ini_X3_init, ini_X7_init, List.append_assoc]; first | rfl | exact (List.append_nil _).symm, by simp⟩
theorem sh_X2_init {h : AH} {k n w : Nat} {q : Nat × Nat} (hw : h.1[w]? = some q) : (ini_X2_init h k n).1[w]? = some q := by
  obtain ⟨l, e, -⟩ := sl_X2_init h k n
  rw [e, List.getElem?_append_left (List.getElem?_eq_some_iff.mp hw).1]
  exact hw
theorem gq_X2_init {h : AH} {k n w j : Nat} {r : Option Nat} (hn : aN h = n) (hw : w ≠ k) (hl : w < n) (hr : gR h w j = r) : gR (ini_X2_init h k n) w j = r := by
  simp only [ini_X2_init, gR_sR, gR_sI, gR_fillI, gR_new, aN_new, aN_sR, aN_sI, aN_fillI, hn, aN_X4_init, aN_X9_init, aN_X5_init, aN_X0_init, aN_X1_init, aN_X6_init, aN_X10_init, aN_X8_init, aN_X3_init, aN_X7_init, ini_X4_init, ini_X9_init, ini_X5_init, ini_X0_init, ini_X1_init, ini_X6_init, ini_X10_init, ini_X8_init, ini_X3_init, ini_X7_init]
  repeat (first | exact hr | rw [if_neg (by omega)])
