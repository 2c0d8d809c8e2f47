def fwX2 (k j : Nat) : Bool := soX k j || (wzX k j || (k == 52 && (j == 8 || j == 9)))
theorem fwX2_s {h g : AH} (F : Fr soX h g) : Fr fwX2 h g := F.weak (fun k j hx => by unfold fwX2 at hx; rw [Bool.or_eq_false_iff] at hx; exact hx.1)
theorem fwX2_a {h g : AH} (F : Fr wzX h g) : Fr fwX2 h g := F.weak (fun k j hx => by unfold fwX2 at hx; rw [Bool.or_eq_false_iff, Bool.or_eq_false_iff] at hx; exact hx.2.1)
theorem HA.td {h : AH} {K : Nat → Int32} {np nt nd nl no : Nat} (H : HA h 1 K np nt nd nl) (e : K 106 = nI no) : TD h K no := by
  obtain ⟨A, a0, a5, a9, a12, a16, a18, c1, c2, c3, c4, c5, c6, c7, c8, c9, c10, c11, d0, d1, d2⟩ := H
  exact ⟨a12.trans e, c10, c11⟩
section Fw
variable (d : Nat) {h : AH} {K : Nat → Int32} {np nt nd nl no : Nat} {LSs : Nat → List CLE} {E : List Int32}
theorem t_findWays (S : ShOK h) (R : RfOK h) (G : HG h 1 K np nt nd nl LSs E) (V : VH K np nt) (B : KB K) (VNn : VN K nt) (VDd : VD K nd) (VTt : VT K no) (hno : K 106 = nI no) (hz : ∀ j, 9 ≤ j → gI h 43 j = 0) {kn : Bool} (h8 : gI h 52 8 = b2i kn) (hk : kn = true → RSw K np no h (hdR K (flO nl LSs (K 108)) nd np nt no)) : Rp (d + 12) M_X6_findWays 0 [some (.ref 52), some (.ref 1)] [] h (fun r h' => r = none ∧ Fr fwX2 h h' ∧ ShOK h' ∧ RfOK h' ∧ (∀ j, 9 ≤ j → gI h' 43 j = 0) ∧ gI h' 52 8 = nI 1 ∧ RSw K np no h' (hdR K (flO nl LSs (K 108)) nd np nt no)) := by
  have v1 := V.1
  have v2 := V.2.1
  cases kn
  · let h1 := sI (sI h 52 12 (nI 0)) 52 9 (nI 1)
    have F1 : Fr fwX2 h h1 := (Fr.rfl'.sI rfl).sI rfl
    have F1' : Fr (fun k _ => k == 52) h h1 := (Fr.rfl'.sI rfl).sI rfl
    have S1 : ShOK h1 := S
    have R1 : RfOK h1 := R
    have G1 : HG h1 1 K np nt nd nl LSs E := G.fr F1' (fun o j ho => beq_eq_false_iff_ne.mpr (by omega)) (fun k j o => beq_eq_false_iff_ne.mpr (by omega))
    have so := t_startOver (d + 8) S1 R1 G1 V VNn VDd.1 hz
    have s12 : gI h1 52 12 = nI 0 := (gI_off _ _ _ (by decide)).trans (gI_hit _ _ _ _)
    have s9 : gI h1 52 9 = b2i true := gI_hit _ _ _ _
    have r0 : RSw K np no h1 [] := ⟨G1.1.td hno, s12, by decide, fun i W hi => by cases hi⟩
    refine Rp.aload_n dX6_findWays_0 rfl rfl ?_
    refine Rp.getI dX6_findWays_1 fk_X6_39 rfl (S _ _ rfl) ?_
    first | rw [h8] | skip
    first | ((with_reducible show Rp _ _ _ _ (.int (b2i _) :: _) _ _); refine Rp.if_eqB (tgt := 8) dX6_findWays_4 (by decide) (fun c4 => ?_) (fun c4 => ?_)) | ((with_reducible show Rp _ _ _ _ (.int (nI _) :: _) _ _); refine Rp.if_eqN (tgt := 8) dX6_findWays_4 (by decide) (by omega) (fun c4 => ?_) (fun c4 => ?_)) | refine Rp.if_eq (tgt := 8) dX6_findWays_4 (by decide) (fun c4 => ?_) (fun c4 => ?_)
    rotate_left
    · cases c4
    refine Rp.aload_n dX6_findWays_8 rfl rfl ?_
    refine Rp.iconst (nI 0) dX6_findWays_9 (by decide) ?_
    refine Rp.putI dX6_findWays_10 fk_X6_60w rfl (S _ _ rfl) ?_
    refine Rp.aload_n dX6_findWays_13 rfl rfl ?_
    refine Rp.iconst (nI 1) dX6_findWays_14 (by decide) ?_
    refine Rp.putZ dX6_findWays_15 fk_X6_49w rfl (by first | exact Or.inl rfl | exact Or.inr rfl | assumption) (S _ _ rfl) ?_
    refine Rp.aload_n dX6_findWays_18 rfl rfl ?_
    refine Rp.aload_n dX6_findWays_19 rfl rfl ?_
    refine Rp.callV1 M_X6_startOver (ci := 6) dX6_findWays_20 mo_X6_startOver lk_X6_52 (by decide) rfl rfl (S1 _ _ rfl) (Nat.le_of_ble_eq_true rfl) (Nat.le_of_ble_eq_true rfl) (so) (fun v1 h1 p1 x1 => ?_)
    obtain ⟨rfl, F2, P2⟩ := p1
    try dsimp only [Option.toList, List.cons_append, List.nil_append, List.append]
    skip
    have pl := t_ways d (K := K) (fl := flO nl LSs (K 108)) (np := np) (nt := nt) (nd := nd) (RS := RSw K np no) (Z := wzX) (f := hdC K (flO nl LSs (K 108)) nd np nt no) (at9 := true) (fun k j hx => wzX_p hx) (fun g g' s H F => H.fr F rfl (fun j => rfl) (fun j => rfl) rfl (fun j => rfl)) B v1 (fun _ g W s P h9 hS hw => t_asTold d P B VDd VNn VTt h9 hS) (fun z => by cases z) np 0 W0 [] h1 (by omega) (fun q _ => rfl) (fun q => ⟨fun _ => rfl, fun z => absurd z (Nat.not_lt_zero _)⟩) P2 ((F2.I 52 9 rfl).trans s9) (r0.fr F2 rfl (fun j => rfl) (fun j => rfl) rfl (fun j => rfl))
    rw [(hdR_cap V).1] at pl
    have S2 := P2.1
    have pl2 := Rp.deeper (show d + 5 + np ≤ d + 11 by omega) pl
    refine Rp.aload_n dX6_findWays_23 rfl rfl ?_
    refine Rp.iconst (nI 0) dX6_findWays_24 (by decide) ?_
    refine Rp.callV1 M_X6_place (ci := 6) dX6_findWays_25 mo_X6_place lk_X6_56 (by decide) rfl rfl (S2 _ _ rfl) (Nat.le_of_ble_eq_true rfl) (Nat.le_of_ble_eq_true rfl) (pl2) (fun v1 h1 p1 x1 => ?_)
    obtain ⟨rfl, P3, h93, r3, F3⟩ := p1
    try dsimp only [Option.toList, List.cons_append, List.nil_append, List.append]
    skip
    have S3 := P3.1
    have R3 := P3.2.1
    have F4 : Fr (fun k j => k == 52 && j == 8) h1 (sI h1 52 8 (nI 1)) := Fr.rfl'.sI rfl
    have FF : Fr fwX2 h (sI h1 52 8 (nI 1)) := (((F1.trans (fwX2_s F2)).trans (fwX2_a F3))).sI rfl
    refine Rp.aload_n dX6_findWays_28 rfl rfl ?_
    refine Rp.iconst (nI 1) dX6_findWays_29 (by decide) ?_
    refine Rp.putZ dX6_findWays_30 fk_X6_39w rfl (by first | exact Or.inl rfl | exact Or.inr rfl | assumption) (S3 _ _ rfl) ?_
    refine Rp.vreturn dX6_findWays_33 rfl ?_
    exact ⟨rfl, FF, S3, R3, fun j hj => P3.2.2.1.2.2.2.1 j hj, gI_hit _ _ _ _, r3.fr F4 rfl (fun j => rfl) (fun j => rfl) rfl (fun j => rfl)⟩
  · have r := hk rfl
    have q8 : gI h 52 8 = nI 1 := h8
    refine Rp.aload_n dX6_findWays_0 rfl rfl ?_
    refine Rp.getI dX6_findWays_1 fk_X6_39 rfl (S _ _ rfl) ?_
    first | rw [h8] | skip
    first | ((with_reducible show Rp _ _ _ _ (.int (b2i _) :: _) _ _); refine Rp.if_eqB (tgt := 8) dX6_findWays_4 (by decide) (fun c4 => ?_) (fun c4 => ?_)) | ((with_reducible show Rp _ _ _ _ (.int (nI _) :: _) _ _); refine Rp.if_eqN (tgt := 8) dX6_findWays_4 (by decide) (by omega) (fun c4 => ?_) (fun c4 => ?_)) | refine Rp.if_eq (tgt := 8) dX6_findWays_4 (by decide) (fun c4 => ?_) (fun c4 => ?_)
    · skip
      cases c4
    · skip
      refine Rp.vreturn dX6_findWays_7 rfl ?_
      exact ⟨rfl, Fr.rfl', S, R, hz, q8, r⟩
end Fw
/-- each way is in order -/
theorem tw_all {np nt : Nat} {ts : List Nat} {okp : Nat → Nat → Bool} {K : Nat → Int32} {fl : Option (List CLE)} {nd no : Nat} (h8 : ∀ t ∈ ts, t < nt) (Q : (Nat → Int32) → Prop) : ∀ (rest : List Nat) (W : Nat → Int32) (s : List (Nat → Int32)), rest.Nodup → (∀ p ∈ rest, p < np ∧ W p = -1) → VH W np nt → (∀ W', VH W' np nt → (∀ q, q ∉ rest → W' q = W q) → (∀ q ∈ rest, W' q ≠ -1) → Q W') → (∀ x ∈ s, Q x) → ∀ x ∈ twF np ts okp (hdS K fl nd np nt no) rest W s, Q x := by
  intro rest
  induction rest with
  | nil =>
    intro W s _ _ V hQ hs x hx
    have hx : x ∈ hdS K fl nd np nt no W s := hx
    unfold hdS at hx
    split at hx
    · rcases List.mem_append.mp hx with h | h
      · exact hs x h
      · rw [List.mem_singleton] at h
        subst h
        exact hQ _ V (fun q _ => rfl) (fun q hq => by cases hq)
    · exact hs x hx
  | cons p rest ih =>
    intro W s hr hp V hQ hs
    rw [List.nodup_cons] at hr
    have pp := hp p (List.mem_cons_self ..)
    have v2 := V.2.1
    have lp : ∀ (ts2 : List Nat) (s : List (Nat → Int32)), (∀ t ∈ ts2, t ∈ ts) → (∀ x ∈ s, Q x) → ∀ x ∈ ts2.foldl (fun s t => if hOf W (nI t) np ≠ -1 ∨ okp p t = false then s else twF np ts okp (hdS K fl nd np nt no) rest (upK W p (nI t)) s) s, Q x := by
      intro ts2
      induction ts2 with
      | nil => intro s _ hs x hx; exact hs x hx
      | cons t ts2 iht =>
        intro s hm hs
        rw [List.foldl_cons]
        refine iht _ (fun x hx => hm x (List.mem_cons_of_mem _ hx)) ?_
        have ht := h8 t (hm t (List.mem_cons_self ..))
        by_cases c : hOf W (nI t) np ≠ -1 ∨ okp p t = false
        · rw [if_pos c]; exact hs
        · rw [if_neg c]
          have z : hOf W (nI t) np = -1 := Classical.byContradiction fun y => c (Or.inl y)
          refine ih (upK W p (nI t)) s hr.2 (fun q hq => ⟨(hp q (List.mem_cons_of_mem _ hq)).1, ?_⟩) (V.give pp.1 ht z) (fun W' V' h1 h2 => hQ W' V' (fun q hq => ?_) (fun q hq => ?_)) hs
          · unfold upK
            rw [if_neg (fun y => hr.1 (by rw [← y]; exact hq))]
            exact (hp q (List.mem_cons_of_mem _ hq)).2
          · rw [h1 q (fun y => hq (List.mem_cons_of_mem _ y))]
            unfold upK
            rw [if_neg (fun y => hq (by rw [y]; exact List.mem_cons_self ..))]
          · rcases List.mem_cons.mp hq with y | y
            · rw [y, h1 p hr.1]
              unfold upK
              rw [if_pos rfl]
              exact nI_m1 (by omega)
            · exact h2 q y
    exact lp ts s (fun t ht => ht) hs
theorem hdR_all {K : Nat → Int32} {fl : Option (List CLE)} {nd np nt no : Nat} (V : VH K np nt) : ∀ W ∈ hdR K fl nd np nt no, VH W np nt ∧ ∀ q, q < 6 → (W q = -1 ↔ K q = -1) := by
  have v1 := V.1
  refine tw_all (fun t ht => by have := tkL_mem nt 0 t ht; omega) _ (hlR K np 0) W0 [] (hlR_nodup np 0) (fun p hp => ⟨by have := hlR_mem np 0 p hp; omega, rfl⟩) (VH_W0 V.1 V.2.1) (fun W' V' h1 h2 => ⟨V', fun q hq => ?_⟩) (fun x hx => by cases hx)
  by_cases c : K q = -1
  · exact ⟨fun _ => c, fun _ => (h1 q (fun y => (hlR_mem np 0 q y).2.2 c)).trans rfl⟩
  · have qn : q < np := by
      rcases V.2.2.1 q hq with z | z
      · exact absurd z c
      · exact z.1
    exact ⟨fun z => absurd z (h2 q (hlR_in np 0 q (Nat.zero_le _) (by omega) c)), fun z => absurd z c⟩
