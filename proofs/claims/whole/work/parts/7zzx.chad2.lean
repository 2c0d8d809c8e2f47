theorem i32_nn {x : Int32} (h : ¬ x < 0) : ∃ n, n < 2147483648 ∧ x = nI n := by
  rw [i32_lt] at h
  have z : (0 : Int32).toInt = 0 := rfl
  have b := Int32.toInt_lt x
  refine ⟨x.toInt.toNat, by omega, ?_⟩
  rw [i32_eq, nI_toInt (by omega)]
  omega
/-- how often one has a ticket -/
def cnW (p t : Nat) (L : List (Nat → Int32)) : Nat := L.foldl (fun n W => n + if W p = nI t then 1 else 0) 0
theorem cnW_snoc (p t : Nat) (L : List (Nat → Int32)) (W : Nat → Int32) : cnW p t (L ++ [W]) = cnW p t L + if W p = nI t then 1 else 0 := by unfold cnW; rw [List.foldl_append]; rfl
theorem cnW_le (p t : Nat) (L : List (Nat → Int32)) : cnW p t L ≤ L.length := by
  have : ∀ (L : List (Nat → Int32)) (n : Nat), L.foldl (fun n W => n + if W p = nI t then 1 else 0) n ≤ n + L.length := by
    intro L
    induction L with
    | nil => intro n; exact Nat.le_refl _
    | cons W L ih =>
      intro n
      rw [List.foldl_cons, List.length_cons]
      have := ih (n + if W p = nI t then 1 else 0)
      have q : (if W p = nI t then 1 else 0) ≤ 1 := by split <;> decide
      omega
  have := this L 0
  rw [Nat.zero_add] at this
  exact this
def mxT (f : Nat → Nat) : Nat → Nat
  | 0 => 0
  | n + 1 => max (mxT f n) (f n)
theorem mxT_le {f : Nat → Nat} {b : Nat} : ∀ n, (∀ t, t < n → f t ≤ b) → mxT f n ≤ b
  | 0, _ => Nat.zero_le _
  | n + 1, h => by rw [mxT]; exact Nat.max_le.mpr ⟨mxT_le n (fun t ht => h t (by omega)), h n (by omega)⟩
theorem mxT_congr {f g : Nat → Nat} : ∀ n, (∀ t, t < n → f t = g t) → mxT f n = mxT g n
  | 0, _ => rfl
  | n + 1, h => by rw [mxT, mxT, mxT_congr n (fun t ht => h t (by omega)), h n (by omega)]
theorem mxT_up {f g : Nat → Nat} {u : Nat} (hu : g u = f u + 1) : ∀ n, u < n → (∀ t, t < n → t ≠ u → g t = f t) → mxT g n = max (mxT f n) (f u + 1)
  | 0, h, _ => absurd h (Nat.not_lt_zero _)
  | n + 1, h, hs => by
    rw [mxT, mxT]
    by_cases e : u = n
    · subst e
      rw [hu, mxT_congr (f := g) (g := f) u (fun t ht => hs t (by omega) (by omega))]
      omega
    · rw [hs n (by omega) (fun z => e z.symm), mxT_up hu n (by omega) (fun t ht hn => hs t (by omega) hn)]
      omega
/-- in how many ways one has what one has in most -/
def mxW (p : Nat) (L : List (Nat → Int32)) : Nat := mxT (fun t => cnW p t L) 8
theorem mxW_le (p : Nat) (L : List (Nat → Int32)) : mxW p L ≤ L.length := mxT_le 8 (fun t _ => cnW_le p t L)
theorem mxW_snoc {p t : Nat} (L : List (Nat → Int32)) {W : Nat → Int32} (ht : t < 8) (e : W p = nI t) : mxW p (L ++ [W]) = max (mxW p L) (cnW p t L + 1) := by
  unfold mxW
  refine mxT_up (u := t) ?_ 8 ht (fun u hu hn => ?_)
  · rw [cnW_snoc, if_pos e]
  · rw [cnW_snoc, if_neg (fun z => hn (nI_inj (by omega) (by omega) (z.symm.trans e))), Nat.add_zero]
def tlyX (k j : Nat) : Bool := k == 57 && decide (j < 8)
section Ch
variable (d : Nat) {h : AH} {K : Nat → Int32} {np nt no : Nat} {L : List (Nat → Int32)}
theorem t_ticketIn (S : ShOK h) (R : RfOK h) (H : RSw K np no h L) {n p : Nat} {W : Nat → Int32} (hn : L[n]? = some W) (V : VH W np nt) (hp : p < np) (hW : W p ≠ -1) : Rp d M_X6_ticketIn 0 [some (.ref 52), some (.int (nI n)), some (.int (nI p))] [] h (fun r h' => h' = h ∧ r = some (.int (W p))) := by
  have nl := (List.getElem?_eq_some_iff.mp hn).1
  have l7 := H.2.2.1
  have e := H.2.2.2 n W hn
  have v1 := V.1
  have q := row_dig V hp
  rw [(wv_of V (show p < 6 by omega)).2.2 hW] at q
  refine Rp.aload_n dX6_ticketIn_0 rfl rfl ?_
  refine Rp.getR dX6_ticketIn_1 fk_X6_21 rfl (S _ _ rfl) (R _ _ _ rfl) ?_
  refine Rp.iload_n dX6_ticketIn_4 rfl ?_
  first | ((with_reducible show Rp _ _ _ _ (.int (nI _) :: _) _ _); refine Rp.ialoadN dX6_ticketIn_5 (S _ _ rfl) (by omega) ?_) | refine Rp.iaload dX6_ticketIn_5 (S _ _ rfl) (by first | assumption | exact vpb (by decide)) ?_
  first | rw [e] | skip
  refine Rp.iconst (nI 3) dX6_ticketIn_6 (by decide) ?_
  refine Rp.iload_n dX6_ticketIn_7 rfl ?_
  first | ((with_reducible show Rp _ _ _ _ (.int (nI _) :: .int (nI _) :: _) _ _); refine Rp.imulN dX6_ticketIn_8 ?_) | refine Rp.imul dX6_ticketIn_8 ?_
  refine Rp.ishr dX6_ticketIn_9 ?_
  refine Rp.bipush (nI 7) dX6_ticketIn_10 (by decide) ?_
  refine Rp.iand dX6_ticketIn_12 ?_
  refine Rp.ireturn dX6_ticketIn_13 rfl ?_
  exact ⟨rfl, by rw [q]⟩
theorem most12 (S0 : ShOK h) (R0 : RfOK h) (H0 : RSw K np no h L) {p : Nat} (hp : p < np) (hV : ∀ W ∈ L, VH W np nt ∧ W p ≠ -1) : ∀ (m i : Nat) (g : AH) (a4 : Option Value), i + m = L.length → Fr tlyX h g → (∀ t, t < 8 → gI g 57 t = nI (cnW p t (L.take i))) → Rp (d + 1) M_X6_mostWaysAlike 12 [some (.ref 52), some (.int (nI p)), some (.int (nI (mxW p (L.take i)))), some (.int (nI i)), a4] [] g (fun r h' => Fr tlyX h h' ∧ r = some (.int (nI (mxW p L)))) := by
  have l7 := H0.2.2.1
  intro m
  induction m with
  | zero =>
    intro i g a4 hm F et
    have e : i = L.length := by omega
    subst e
    have S := F.S S0
    have e12 : gI g 52 12 = nI L.length := (F.I 52 12 rfl).trans H0.2.1
    rw [List.take_length]
    refine Rp.iload_n dX6_mostWaysAlike_12 rfl ?_
    refine Rp.aload_n dX6_mostWaysAlike_13 rfl rfl ?_
    refine Rp.getI dX6_mostWaysAlike_14 fk_X6_60 rfl (S _ _ rfl) ?_
    first | rw [e12] | skip
    first | ((with_reducible show Rp _ _ _ _ (.int (nI _) :: .int (nI _) :: _) _ _); refine Rp.icmp_geN (tgt := 57) dX6_mostWaysAlike_17 (by decide) (by omega) (fun c17 => ?_) (fun c17 => ?_)) | refine Rp.icmp_ge (tgt := 57) dX6_mostWaysAlike_17 (by decide) (fun c17 => ?_) (fun c17 => ?_)
    · skip
      refine Rp.iload_n dX6_mostWaysAlike_57 rfl ?_
      refine Rp.ireturn dX6_mostWaysAlike_58 rfl ?_
      exact ⟨F, rfl⟩
    · skip
      first | (exfalso; omega) | exact absurd c17 (by decide) | exact absurd (by decide) c17
  | succ m ih =>
    intro i g a4 hm F et
    have S := F.S S0
    have R := F.R R0 (by decide)
    have H := H0.fr F rfl (fun j => rfl) (fun j => rfl) rfl (fun j => rfl)
    have e12 : gI g 52 12 = nI L.length := H.2.1
    obtain ⟨W, hW⟩ : ∃ W, L[i]? = some W := ⟨_, List.getElem?_eq_getElem (by omega)⟩
    have hv := hV W (List.mem_of_getElem? hW)
    have v1 := hv.1.1
    have v2 := hv.1.2.1
    have ti := t_ticketIn d S R H hW hv.1 hp hv.2
    obtain ⟨t, ht, eW⟩ := ((hv.1.2.2.1 p (by omega)).resolve_left hv.2).2
    rw [eW] at ti
    have tk := take_snoc hW
    have e57 : gI g 57 t = nI (cnW p t (L.take i)) := et t (by omega)
    have F1 : Fr tlyX h (sI g 57 t (nI (cnW p t (L.take i) + 1))) := F.sI (by unfold tlyX; rw [decide_eq_true (show t < 8 by omega)]; rfl)
    have k1 := ih (i + 1) (sI g 57 t (nI (cnW p t (L.take i) + 1))) (some (.int (nI t))) (by omega) F1 (fun u hu => by
      rw [gI_at, tk, cnW_snoc]
      by_cases z : u = t
      · rw [if_pos z, z, if_pos eW]
      · rw [if_neg z, if_neg (fun y => z (nI_inj (by omega) (by omega) (y.symm.trans eW))), Nat.add_zero]; exact et u hu)
    have c1 := cnW_le p t (L.take i)
    have c2 := mxW_le p (L.take i)
    have c3 : (L.take i).length ≤ i := by rw [List.length_take]; omega
    have em : (if nI (mxW p (L.take i)) < nI (cnW p t (L.take i) + 1) then nI (cnW p t (L.take i) + 1) else nI (mxW p (L.take i))) = nI (mxW p (L.take (i + 1))) := by
      rw [tk, mxW_snoc (L.take i) (show t < 8 by omega) eW]
      by_cases z : mxW p (L.take i) < cnW p t (L.take i) + 1
      · rw [if_pos (by rw [i32_lt, nI_toInt (by omega), nI_toInt (by omega)]; omega), Nat.max_eq_right (by omega)]
      · rw [if_neg (by rw [i32_lt, nI_toInt (by omega), nI_toInt (by omega)]; omega), Nat.max_eq_left (by omega)]
    have S1 : ShOK (sI g 57 t (nI (cnW p t (L.take i) + 1))) := S
    have R1 : RfOK (sI g 57 t (nI (cnW p t (L.take i) + 1))) := R
    have e57b : gI (sI g 57 t (nI (cnW p t (L.take i) + 1))) 57 t = nI (cnW p t (L.take i) + 1) := gI_hit _ _ _ _
    refine Rp.iload_n dX6_mostWaysAlike_12 rfl ?_
    refine Rp.aload_n dX6_mostWaysAlike_13 rfl rfl ?_
    refine Rp.getI dX6_mostWaysAlike_14 fk_X6_60 rfl (S _ _ rfl) ?_
    first | rw [e12] | rw [e57] | rw [e57b] | skip
    first | ((with_reducible show Rp _ _ _ _ (.int (nI _) :: .int (nI _) :: _) _ _); refine Rp.icmp_geN (tgt := 57) dX6_mostWaysAlike_17 (by decide) (by omega) (fun c17 => ?_) (fun c17 => ?_)) | refine Rp.icmp_ge (tgt := 57) dX6_mostWaysAlike_17 (by decide) (fun c17 => ?_) (fun c17 => ?_)
    · skip
      first | (exfalso; omega) | exact absurd c17 (by decide) | exact absurd (by decide) c17
    · skip
      refine Rp.aload_n dX6_mostWaysAlike_20 rfl rfl ?_
      refine Rp.iload_n dX6_mostWaysAlike_21 rfl ?_
      refine Rp.iload_n dX6_mostWaysAlike_22 rfl ?_
      refine Rp.callV2 M_X6_ticketIn (ci := 6) dX6_mostWaysAlike_23 mo_X6_ticketIn lk_X6_150 (by decide) rfl rfl (S _ _ rfl) (Nat.le_of_ble_eq_true rfl) (Nat.le_of_ble_eq_true rfl) (ti) (fun v1 h1 p1 x1 => ?_)
      rw [p1.1, p1.2]
      try dsimp only [Option.toList, List.cons_append, List.nil_append, List.append]
      refine Rp.ist4 dX6_mostWaysAlike_26 (by first | exact nl2_some rfl | exact nl2_none) (by decide) ?_
      refine Rp.aload_n dX6_mostWaysAlike_28 rfl rfl ?_
      refine Rp.getR dX6_mostWaysAlike_29 fk_X6_24 rfl (S _ _ rfl) (R _ _ _ rfl) ?_
      refine Rp.iload dX6_mostWaysAlike_32 rfl ?_
      refine Rp.dup2 dX6_mostWaysAlike_34 rfl rfl ?_
      first | ((with_reducible show Rp _ _ _ _ (.int (nI _) :: _) _ _); refine Rp.ialoadN dX6_mostWaysAlike_35 (S _ _ rfl) (by omega) ?_) | refine Rp.iaload dX6_mostWaysAlike_35 (S _ _ rfl) (by first | assumption | exact vpb (by decide)) ?_
      first | rw [e12] | rw [e57] | rw [e57b] | skip
      refine Rp.iconst (nI 1) dX6_mostWaysAlike_36 (by decide) ?_
      first | ((with_reducible show Rp _ _ _ _ (.int (nI _) :: .int (nI _) :: _) _ _); refine Rp.iaddN dX6_mostWaysAlike_37 ?_) | refine Rp.iadd dX6_mostWaysAlike_37 ?_
      first | ((with_reducible show Rp _ _ _ _ (_ :: .int (nI _) :: _) _ _); refine Rp.iastoreN dX6_mostWaysAlike_38 (S _ _ rfl) (by omega) ?_) | refine Rp.iastore dX6_mostWaysAlike_38 (S _ _ rfl) (by first | assumption | exact vpb (by decide)) ?_
      refine Rp.iload_n dX6_mostWaysAlike_39 rfl ?_
      refine Rp.aload_n dX6_mostWaysAlike_40 rfl rfl ?_
      refine Rp.getR dX6_mostWaysAlike_41 fk_X6_24 rfl (S1 _ _ rfl) (R1 _ _ _ rfl) ?_
      refine Rp.iload dX6_mostWaysAlike_44 rfl ?_
      first | ((with_reducible show Rp _ _ _ _ (.int (nI _) :: _) _ _); refine Rp.ialoadN dX6_mostWaysAlike_46 (S1 _ _ rfl) (by omega) ?_) | refine Rp.iaload dX6_mostWaysAlike_46 (S1 _ _ rfl) (by first | assumption | exact vpb (by decide)) ?_
      first | rw [e12] | rw [e57] | rw [e57b] | skip
      refine Rp.mmax dX6_mostWaysAlike_47 mm_X6_144 (Nat.le_of_ble_eq_true rfl) ?_
      rw [em]
      refine Rp.ist2 dX6_mostWaysAlike_50 (by first | exact nl2_some rfl | exact nl2_none) (by decide) ?_
      first | ((with_reducible show Rp _ _ _ (_ :: _ :: _ :: some (.int (nI _)) :: _) _ _ _); refine Rp.inc3N (c := 1) dX6_mostWaysAlike_51 (by first | exact nl2_some rfl | exact nl2_none) (by decide) ?_) | refine Rp.inc3 _ dX6_mostWaysAlike_51 rfl (by first | exact nl2_some rfl | exact nl2_none) (by decide) ?_
      refine Rp.goto (tgt := 12) dX6_mostWaysAlike_54 (by decide) ?_
      exact k1
theorem t_most (S : ShOK h) (R : RfOK h) (H : RSw K np no h L) {p : Nat} (hp : p < np) (hV : ∀ W ∈ L, VH W np nt ∧ W p ≠ -1) : Rp (d + 1) M_X6_mostWaysAlike 0 [some (.ref 52), some (.int (nI p)), none, none, none] [] h (fun r h' => Fr tlyX h h' ∧ r = some (.int (nI (mxW p L)))) := by
  have fa := c_fill d h 57 8 0 (S _ _ rfl) (by decide)
  have F1 : Fr tlyX h (fillI h 57 8 0) := Fr.rfl'.fill (fun j hj => by unfold tlyX; rw [decide_eq_true hj]; rfl)
  have k12 := most12 d S R H hp hV L.length 0 (fillI h 57 8 0) none (by omega) F1 (fun t ht => by rw [gI_fillI, if_pos rfl, if_pos ht]; rfl)
  have S1 : ShOK (fillI h 57 8 0) := S
  refine Rp.aload_n dX6_mostWaysAlike_0 rfl rfl ?_
  refine Rp.getR dX6_mostWaysAlike_1 fk_X6_24 rfl (S _ _ rfl) (R _ _ _ rfl) ?_
  refine Rp.iconst (nI 0) dX6_mostWaysAlike_4 (by decide) ?_
  refine Rp.callS2 M_J7_fill_53178 dX6_mostWaysAlike_5 mo_J7_fill_53178 lk_X6_80 (Nat.le_of_ble_eq_true rfl) (Nat.le_of_ble_eq_true rfl) (fa) (fun v1 h1 p1 x1 => ?_)
  rw [p1.1, p1.2]
  try dsimp only [Option.toList, List.cons_append, List.nil_append, List.append]
  refine Rp.iconst (nI 0) dX6_mostWaysAlike_8 (by decide) ?_
  refine Rp.ist2 dX6_mostWaysAlike_9 (by first | exact nl2_some rfl | exact nl2_none) (by decide) ?_
  refine Rp.iconst (nI 0) dX6_mostWaysAlike_10 (by decide) ?_
  refine Rp.ist3 dX6_mostWaysAlike_11 (by first | exact nl2_some rfl | exact nl2_none) (by decide) ?_
  exact k12
end Ch
/-- what had answers -/
def pkW (o : Option (Nat → Int32)) (q : Nat) : Int32 := match o with
  | none => -1
  | some W => W q
def hdA (np : Nat) (L : List (Nat → Int32)) (i p : Int32) : Int32 := if i = -1 then nI L.length else if i < 0 then -1 else if inN p np = true then pkW L[ix i]? (ix p) else -1
