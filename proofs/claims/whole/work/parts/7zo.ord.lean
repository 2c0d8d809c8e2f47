/-- how many of the first n hold what fits them -/
def fitN (K : Nat → Int32) (fl : Option (List CLE)) : Nat → Nat
  | 0 => 0
  | n + 1 => fitN K fl n + if K n ≠ -1 ∧ oFt K fl n (ix (K n)) = true then 1 else 0
theorem fitN_le (K : Nat → Int32) (fl : Option (List CLE)) : ∀ n, fitN K fl n ≤ n
  | 0 => Nat.le_refl 0
  | n + 1 => by have := fitN_le K fl n; unfold fitN; split <;> omega
/-- the words of orders -/
def wO (K : Nat → Int32) (np nt dn : Nat) (lt : Int32) (fit : Nat) : Nat → Int32 := fun j => match j with
  | 0 => K 6
  | 1 => nI dn
  | 2 => lt
  | 3 => nI fit
  | 4 => nI (nt - cntH K np)
  | j + 5 => if j < 6 then (if j < np then K j else -1) else if j < 12 then (if j - 6 < np then K (13 + (j - 6)) else -1) else 0
theorem cOf_congr {f g : Nat → Int32} {v : Int32} : ∀ n, (∀ t, t < n → f t = g t) → cOf f v n = cOf g v n
  | 0, _ => rfl
  | n + 1, h => by rw [cOf, cOf, h n (by omega), cOf_congr n (fun t ht => h t (by omega))]
theorem cOf_one {f g : Nat → Int32} {v : Int32} {u : Nat} (hf : f u = v) (hg : g u ≠ v) : ∀ n, u < n → (∀ t, t < n → t ≠ u → f t = g t) → cOf f v n = cOf g v n + 1
  | 0, hu, _ => absurd hu (Nat.not_lt_zero _)
  | n + 1, hu, h => by
    rw [cOf, cOf]
    by_cases e : u = n
    · subst e
      rw [if_pos hf, if_neg hg, cOf_congr u (fun t ht => h t (by omega) (by omega))]
    · have ih := cOf_one hf hg n (by omega) (fun t ht hn => h t (by omega) hn)
      rw [h n (by omega) (fun z => e z.symm), ih]
      split <;> rfl
theorem cOf_all {v : Int32} : ∀ n, cOf (fun _ => v) v n = n
  | 0 => rfl
  | n + 1 => by rw [cOf, if_pos rfl, cOf_all n]
theorem nI_inj {a b : Nat} (ha : a < 1000) (hb : b < 1000) (h : nI a = nI b) : a = b := by
  rw [i32_eq, nI_toInt (by omega), nI_toInt (by omega)] at h
  omega
theorem free_cnt {K : Nat → Int32} {nt : Nat} (ht : nt ≤ 8) : ∀ n, n ≤ 6 → (∀ p, p < n → K p = -1 ∨ ∃ t, t < nt ∧ K p = nI t) → (∀ p q, p < n → q < n → K p = K q → K p ≠ -1 → p = q) → cOf (fun t => hOf K (nI t) n) (-1) nt + cntH K n = nt
  | 0, _, _, _ => by
    show cOf (fun _ => -1) (-1) nt + 0 = nt
    rw [cOf_all]; rfl
  | n + 1, hn, h1, h2 => by
    have ih := free_cnt ht n (by omega) (fun p hp => h1 p (by omega)) (fun p q hp hq => h2 p q (by omega) (by omega))
    rw [cntH]
    rcases h1 n (by omega) with e | ⟨u, hu, e⟩
    · rw [if_pos e, cOf_congr (g := fun t => hOf K (nI t) n) nt (fun t hlt => by
        show (if K n = nI t then nI n else hOf K (nI t) n) = _
        rw [if_neg (fun z => nI_m1 (by omega) (z.symm.trans e))])]
      exact ih
    · have en : ¬ K n = -1 := fun z => nI_m1 (by omega) (e.symm.trans z)
      have q := cOf_one (f := fun t => hOf K (nI t) n) (g := fun t => hOf K (nI t) (n + 1)) (v := -1) (u := u) (hOf_none n (fun q hq z => by
        have := h2 q n (by omega) (by omega) (z.trans e.symm) (fun y => en (e.trans (z.symm.trans y)))
        omega)) (by
        show (if K n = nI u then nI n else hOf K (nI u) n) ≠ -1
        rw [if_pos e]; exact nI_m1 (by omega)) nt hu (fun t hlt hne => by
        show _ = (if K n = nI t then nI n else hOf K (nI t) n)
        rw [if_neg (fun z => hne (nI_inj (by omega) (by omega) (z.symm.trans e)))])
      rw [if_neg en]
      omega
theorem VH.free {K : Nat → Int32} {np nt : Nat} (V : VH K np nt) : cOf (fun t => hOf K (nI t) np) (-1) nt = nt - cntH K np := by
  have := free_cnt V.2.1 np V.1 (fun p hp => by
    have := V.1
    rcases V.2.2.1 p (by omega) with e | ⟨-, e⟩
    · exact Or.inl e
    · exact Or.inr e) V.2.2.2
  omega
theorem JS.fg {X : Nat → Nat → Bool} {h g : AH} {b : Nat} {K : Nat → Int32} {fl : Option (List CLE)} (J : JS h b K fl) (F : Fr X h g) (h40 : ∀ j, X 40 j = false) (h43 : ∀ j, X 43 j = false) (h44 : ∀ j, X 44 j = false) (hk : ∀ k j, k < 33 → X k j = false) (hT : ∀ k j, okT k → X k j = false) : JS g b K fl := by
  obtain ⟨J1, J2, J3, J4, k1, k2, k3, k4⟩ := J
  have e44 : ∀ j, gI g 44 j = gI h 44 j := fun j => F.I 44 j (h44 j)
  exact ⟨(F.Rr _ _ (h40 3)).trans J1, J2.fr F hT (h40 4), J3.fr F hk, fun j hj => (F.I 43 j (h43 j)).trans (J4 j hj), fun p t e h1 h2 h3 => by rw [e44]; exact k1 p t e h1 h2 h3, fun p t h1 h2 => by rw [e44]; exact k2 p t h1 h2, fun p t h1 h2 => by rw [e44]; exact k3 p t h1 h2, fun p h1 => by rw [e44]; exact k4 p h1⟩
def oX (k j : Nat) : Bool := k == 64 && decide (j < 17)
theorem oX_n {k j : Nat} (h : k ≠ 64) : oX k j = false := by unfold oX; rw [beq_eq_false_iff_ne.mpr h]; rfl
theorem oX_y {j : Nat} (h : j < 17) : oX 64 j = true := by unfold oX; rw [decide_eq_true h]; rfl
theorem oX_T {k j : Nat} (o : okT k) : oX k j = false := oX_n (okT_ne o (by decide) (by decide) (by decide) (by decide))
def loX (k j : Nat) : Bool := jX k j || oX k j
theorem loX_j {h g : AH} (F : Fr jX h g) : Fr loX h g := F.weak (fun k j hx => by unfold loX at hx; rw [Bool.or_eq_false_iff] at hx; exact hx.1)
theorem loX_o {h g : AH} (F : Fr oX h g) : Fr loX h g := F.weak (fun k j hx => by unfold loX at hx; rw [Bool.or_eq_false_iff] at hx; exact hx.2)
theorem JS.fo {h g : AH} {b : Nat} {K : Nat → Int32} {fl : Option (List CLE)} (J : JS h b K fl) (F : Fr oX h g) : JS g b K fl := J.fg F (fun j => rfl) (fun j => rfl) (fun j => rfl) (fun k j hk => oX_n (by omega)) (fun k j o => oX_T o)
theorem HM.fo {h g : AH} {b : Nat} {K : Nat → Int32} {np nt : Nat} (hb : b ≤ 17) (M : HM h b K np nt) (F : Fr oX h g) : HM g b K np nt := M.fr F (fun o j ho _ _ => oX_n (by omega)) (fun o j ho e => by rw [oX_n (by omega)] at e; cases e)
section Or1
variable (d : Nat) {h : AH} {K : Nat → Int32} {fl : Option (List CLE)} {np nt : Nat}
theorem fit4 (S0 : ShOK h) (R0 : RfOK h) (B : KB K) (M0 : HM h 1 K np nt) : ∀ (m p : Nat) (g : AH), p + m = np → JS g 1 K fl → Fr jX h g → Rp (d + 3) M_X8_fitOnes 4 [some (.ref 63), some (.ref 1), some (.int (nI (fitN K fl p))), some (.int (nI p))] [] g (fun r h' => Fr jX h h' ∧ JS h' 1 K fl ∧ r = some (.int (nI (fitN K fl np)))) := by
  have V := M0.1
  have v1 := V.1
  have v2 := V.2.1
  intro m
  induction m with
  | zero =>
    intro p g hm J F
    have e : p = np := by omega
    subst e
    have S := F.S S0
    have M := M0.fj (by decide) F
    have m3 : gI g 1 0 = nI p := M.2.2.1
    refine Rp.iload_n dX8_fitOnes_4 rfl ?_
    refine Rp.aload_n dX8_fitOnes_5 rfl rfl ?_
    refine Rp.getI dX8_fitOnes_6 fk_X8_107 rfl (S _ _ rfl) ?_
    first | rw [m3] | skip
    first | ((with_reducible show Rp _ _ _ _ (.int (nI _) :: .int (nI _) :: _) _ _); refine Rp.icmp_geN (tgt := 48) dX8_fitOnes_9 (by decide) (by omega) (fun c9 => ?_) (fun c9 => ?_)) | refine Rp.icmp_ge (tgt := 48) dX8_fitOnes_9 (by decide) (fun c9 => ?_) (fun c9 => ?_)
    · skip
      refine Rp.iload_n dX8_fitOnes_48 rfl ?_
      refine Rp.ireturn dX8_fitOnes_49 rfl ?_
      exact ⟨F, J, rfl⟩
    · skip
      first | (exfalso; omega) | exact absurd c9 (by decide) | exact absurd (by decide) c9
  | succ m ih =>
    intro p g hm J F
    have S := F.S S0
    have R := F.R R0 (by decide)
    have M := M0.fj (by decide) F
    have m3 : gI g 1 0 = nI np := M.2.2.1
    have eh : gI g 4 p = K p := M.2.2.2.2.1 p (by omega)
    have fle := fitN_le K fl p
    rcases V.2.2.1 p (by omega) with e | ⟨-, t, ht, e⟩
    · have k1 := ih (p + 1) g (by omega) J F
      rw [fitN, if_neg (fun z => z.1 e), Nat.add_zero] at k1
      refine Rp.iload_n dX8_fitOnes_4 rfl ?_
      refine Rp.aload_n dX8_fitOnes_5 rfl rfl ?_
      refine Rp.getI dX8_fitOnes_6 fk_X8_107 rfl (S _ _ rfl) ?_
      first | rw [m3] | rw [eh] | skip
      first | ((with_reducible show Rp _ _ _ _ (.int (nI _) :: .int (nI _) :: _) _ _); refine Rp.icmp_geN (tgt := 48) dX8_fitOnes_9 (by decide) (by omega) (fun c9 => ?_) (fun c9 => ?_)) | refine Rp.icmp_ge (tgt := 48) dX8_fitOnes_9 (by decide) (fun c9 => ?_) (fun c9 => ?_)
      · skip
        first | (exfalso; omega) | exact absurd c9 (by decide) | exact absurd (by decide) c9
      · skip
        refine Rp.aload_n dX8_fitOnes_12 rfl rfl ?_
        refine Rp.getR dX8_fitOnes_13 fk_X8_101 rfl (S _ _ rfl) (R _ _ _ rfl) ?_
        refine Rp.iload_n dX8_fitOnes_16 rfl ?_
        first | ((with_reducible show Rp _ _ _ _ (.int (nI _) :: _) _ _); refine Rp.ialoadN dX8_fitOnes_17 (S _ _ rfl) (by omega) ?_) | refine Rp.iaload dX8_fitOnes_17 (S _ _ rfl) (by first | assumption | exact vpb (by decide)) ?_
        first | rw [m3] | rw [eh] | skip
        refine Rp.iconst (-1) dX8_fitOnes_18 (by decide) ?_
        first | ((with_reducible show Rp _ _ _ _ (.int (nI _) :: .int (nI _) :: _) _ _); refine Rp.icmp_eqN (tgt := 42) dX8_fitOnes_19 (by decide) (by omega) (fun c19 => ?_) (fun c19 => ?_)) | refine Rp.icmp_eq (tgt := 42) dX8_fitOnes_19 (by decide) (fun c19 => ?_) (fun c19 => ?_)
        · skip
          first | ((with_reducible show Rp _ _ _ (_ :: _ :: _ :: some (.int (nI _)) :: _) _ _ _); refine Rp.inc3N (c := 1) dX8_fitOnes_42 (by first | exact nl2_some rfl | exact nl2_none) (by decide) ?_) | refine Rp.inc3 _ dX8_fitOnes_42 rfl (by first | exact nl2_some rfl | exact nl2_none) (by decide) ?_
          refine Rp.goto (tgt := 4) dX8_fitOnes_45 (by decide) ?_
          exact k1
        · skip
          exact absurd e c19
    · have en : ¬ K p = -1 := fun z => nI_m1 (by omega) (e.symm.trans z)
      have ft := t_isFitJ d S R J B (p := p) (t := t) (by omega) (by omega)
      refine Rp.iload_n dX8_fitOnes_4 rfl ?_
      refine Rp.aload_n dX8_fitOnes_5 rfl rfl ?_
      refine Rp.getI dX8_fitOnes_6 fk_X8_107 rfl (S _ _ rfl) ?_
      first | rw [m3] | rw [eh] | skip
      first | ((with_reducible show Rp _ _ _ _ (.int (nI _) :: .int (nI _) :: _) _ _); refine Rp.icmp_geN (tgt := 48) dX8_fitOnes_9 (by decide) (by omega) (fun c9 => ?_) (fun c9 => ?_)) | refine Rp.icmp_ge (tgt := 48) dX8_fitOnes_9 (by decide) (fun c9 => ?_) (fun c9 => ?_)
      · first | (exfalso; omega) | exact absurd c9 (by decide) | exact absurd (by decide) c9
      refine Rp.aload_n dX8_fitOnes_12 rfl rfl ?_
      refine Rp.getR dX8_fitOnes_13 fk_X8_101 rfl (S _ _ rfl) (R _ _ _ rfl) ?_
      refine Rp.iload_n dX8_fitOnes_16 rfl ?_
      first | ((with_reducible show Rp _ _ _ _ (.int (nI _) :: _) _ _); refine Rp.ialoadN dX8_fitOnes_17 (S _ _ rfl) (by omega) ?_) | refine Rp.iaload dX8_fitOnes_17 (S _ _ rfl) (by first | assumption | exact vpb (by decide)) ?_
      first | rw [m3] | rw [eh] | skip
      refine Rp.iconst (-1) dX8_fitOnes_18 (by decide) ?_
      first | ((with_reducible show Rp _ _ _ _ (.int (nI _) :: .int (nI _) :: _) _ _); refine Rp.icmp_eqN (tgt := 42) dX8_fitOnes_19 (by decide) (by omega) (fun c19 => ?_) (fun c19 => ?_)) | refine Rp.icmp_eq (tgt := 42) dX8_fitOnes_19 (by decide) (fun c19 => ?_) (fun c19 => ?_)
      · exact absurd c19 en
      refine Rp.aload_n dX8_fitOnes_22 rfl rfl ?_
      refine Rp.getR dX8_fitOnes_23 fk_X8_15 rfl (S _ _ rfl) (R _ _ _ rfl) ?_
      refine Rp.iload_n dX8_fitOnes_26 rfl ?_
      refine Rp.aload_n dX8_fitOnes_27 rfl rfl ?_
      refine Rp.getR dX8_fitOnes_28 fk_X8_101 rfl (S _ _ rfl) (R _ _ _ rfl) ?_
      refine Rp.iload_n dX8_fitOnes_31 rfl ?_
      first | ((with_reducible show Rp _ _ _ _ (.int (nI _) :: _) _ _); refine Rp.ialoadN dX8_fitOnes_32 (S _ _ rfl) (by omega) ?_) | refine Rp.iaload dX8_fitOnes_32 (S _ _ rfl) (by first | assumption | exact vpb (by decide)) ?_
      first | rw [m3] | rw [eh] | skip
      rw [e]
      refine Rp.callV2 M_X3_isFit (ci := 3) dX8_fitOnes_33 mo_X3_isFit lk_X8_110 (by decide) rfl rfl (S _ _ rfl) (Nat.le_of_ble_eq_true rfl) (Nat.le_of_ble_eq_true rfl) (ft) (fun v1 h1 p1 x1 => ?_)
      obtain ⟨F1, J1, rfl⟩ := p1
      try dsimp only [Option.toList, List.cons_append, List.nil_append, List.append]
      skip
      have k1 := ih (p + 1) h1 (by omega) J1 (F.trans F1)
      rw [fitN, e, ix_nI (by omega)] at k1
      cases c : oFt K fl p t
      · rw [if_neg (fun z => by rw [c] at z; exact absurd z.2 (by decide)), Nat.add_zero] at k1
        first | ((with_reducible show Rp _ _ _ _ (.int (b2i _) :: _) _ _); refine Rp.if_eqB (tgt := 42) dX8_fitOnes_36 (by decide) (fun c36 => ?_) (fun c36 => ?_)) | ((with_reducible show Rp _ _ _ _ (.int (nI _) :: _) _ _); refine Rp.if_eqN (tgt := 42) dX8_fitOnes_36 (by decide) (by omega) (fun c36 => ?_) (fun c36 => ?_)) | refine Rp.if_eq (tgt := 42) dX8_fitOnes_36 (by decide) (fun c36 => ?_) (fun c36 => ?_)
        · skip
          first | ((with_reducible show Rp _ _ _ (_ :: _ :: _ :: some (.int (nI _)) :: _) _ _ _); refine Rp.inc3N (c := 1) dX8_fitOnes_42 (by first | exact nl2_some rfl | exact nl2_none) (by decide) ?_) | refine Rp.inc3 _ dX8_fitOnes_42 rfl (by first | exact nl2_some rfl | exact nl2_none) (by decide) ?_
          refine Rp.goto (tgt := 4) dX8_fitOnes_45 (by decide) ?_
          exact k1
        · skip
          cases c36
      · rw [if_pos ⟨nI_m1 (by omega), c⟩] at k1
        first | ((with_reducible show Rp _ _ _ _ (.int (b2i _) :: _) _ _); refine Rp.if_eqB (tgt := 42) dX8_fitOnes_36 (by decide) (fun c36 => ?_) (fun c36 => ?_)) | ((with_reducible show Rp _ _ _ _ (.int (nI _) :: _) _ _); refine Rp.if_eqN (tgt := 42) dX8_fitOnes_36 (by decide) (by omega) (fun c36 => ?_) (fun c36 => ?_)) | refine Rp.if_eq (tgt := 42) dX8_fitOnes_36 (by decide) (fun c36 => ?_) (fun c36 => ?_)
        · skip
          cases c36
        · skip
          first | ((with_reducible show Rp _ _ _ (_ :: _ :: some (.int (nI _)) :: _) _ _ _); refine Rp.inc2N (c := 1) dX8_fitOnes_39 (by first | exact nl2_some rfl | exact nl2_none) (by decide) ?_) | refine Rp.inc2 _ dX8_fitOnes_39 rfl (by first | exact nl2_some rfl | exact nl2_none) (by decide) ?_
          first | ((with_reducible show Rp _ _ _ (_ :: _ :: _ :: some (.int (nI _)) :: _) _ _ _); refine Rp.inc3N (c := 1) dX8_fitOnes_42 (by first | exact nl2_some rfl | exact nl2_none) (by decide) ?_) | refine Rp.inc3 _ dX8_fitOnes_42 rfl (by first | exact nl2_some rfl | exact nl2_none) (by decide) ?_
          refine Rp.goto (tgt := 4) dX8_fitOnes_45 (by decide) ?_
          exact k1
theorem t_fitOnes (S : ShOK h) (R : RfOK h) (J : JS h 1 K fl) (B : KB K) (M : HM h 1 K np nt) : Rp (d + 3) M_X8_fitOnes 0 [some (.ref 63), some (.ref 1), none, none] [] h (fun r h' => Fr jX h h' ∧ JS h' 1 K fl ∧ r = some (.int (nI (fitN K fl np)))) := by
  have k1 := fit4 d S R B M np 0 h (by omega) J Fr.rfl'
  refine Rp.iconst (nI 0) dX8_fitOnes_0 (by decide) ?_
  refine Rp.ist2 dX8_fitOnes_1 (by first | exact nl2_some rfl | exact nl2_none) (by decide) ?_
  refine Rp.iconst (nI 0) dX8_fitOnes_2 (by decide) ?_
  refine Rp.ist3 dX8_fitOnes_3 (by first | exact nl2_some rfl | exact nl2_none) (by decide) ?_
  exact k1
end Or1
