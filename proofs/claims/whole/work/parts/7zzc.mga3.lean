section Ga3
variable (d : Nat) {h : AH} {c v : Nat → Nat} {T : Nat} {K : Nat → Int32} {np nt dn fit : Nat} {lt : Int32}
/-- times, the test, the end -/
theorem ga151 {P : Option Value → AH → Prop} (G : GB h c v T K dn lt fit) (V : VH K np nt) (B : KB K) (hM : K 103 = nI np) (hT : K 104 = nI nt) (hd : dn ≤ 1000) (hf : fit ≤ 1000) (hlt : lt = -1 ∨ ∃ x, x < 100 ∧ lt = nI x) {f i1 i2 lv1 i' lv' tm : Nat} {ts : PT} (hi : i1 ≤ T) (hl : lv1 ≤ 50) (st : (c i1 = 29 ∧ c (i1 + 1) = 50 ∧ 1 ≤ v (i1 + 1) ∧ v (i1 + 1) ≤ 20 ∧ i2 = i1 + 2 ∧ tm = v (i1 + 1)) ∨ (c i1 ≠ 29 ∧ i2 = i1 ∧ tm = 1)) (st2 : (c i2 = 5 ∧ ∃ a3 cd3 D3, Prs true c v f 0 0 (i2 + 1) lv1 a3 = .ok (i', lv', cd3, D3) ∧ ts = some (a3, D3)) ∨ (c i2 ≠ 5 ∧ i' = i2 ∧ lv' = lv1 ∧ ts = none)) (live : Bool) (en a3 a4 bq : Int32) (kk : ∀ hb bb tt, Fr gbX h hb → gI hb aM 54 = gI h aM 54 → gI hb aM 53 = gI h aM 53 → gI hb aM 52 = nI tm → (∀ k, gL hb 127 k = gL h 127 k) → gI hb aM 55 = b2i tt → (live = true → tt = tsV ts (wO K np nt dn lt fit)) → P none (evH hb (nI (2400 + i' + 1)) bb)) : Rp (d + 77) M_X12_goesAlong 151 [some (.ref aM), some (.int en), some (.int (b2i live)), some (.int a3), some (.int a4)] [] (evH h (nI (2400 + i1)) bq) P := by
  have F1 : Fr gbX h (sI h aM 52 (nI 1)) := Fr.rfl'.sI rfl
  have G1 := G.fr F1
  have K1 := G1.2.2.1
  have hc := K1.2.1
  have hB := K1.1
  have S1 := G1.1
  have R1 := G1.2.1
  have ps := s_passes (d + 75) S1 R1 K1 hi bq 29 (by decide)
  refine Rp.aload_n dX12_goesAlong_151 rfl rfl ?_
  refine Rp.iconst (nI 1) dX12_goesAlong_152 (by decide) ?_
  refine Rp.putI dX12_goesAlong_153 fk_X12_494w rfl (G.1 _ _ rfl) ?_
  first | rw [ev_s52] | skip
  refine Rp.aload_n dX12_goesAlong_156 rfl rfl ?_
  refine Rp.bipush (nI 29) dX12_goesAlong_157 (by decide) ?_
  refine Rp.callV1 M_X12_passes0 (ci := 12) dX12_goesAlong_159 mo_X12_passes0 lk_X12_306 (by decide) rfl rfl (S1 _ _ rfl) (Nat.le_of_ble_eq_true rfl) (Nat.le_of_ble_eq_true rfl) (ps) (fun v1 h1 p1 x1 => ?_)
  skip
  try dsimp only [Option.toList, List.cons_append, List.nil_append, List.append]
  skip
  rcases p1 with ⟨e9, rfl, rfl⟩ | ⟨e9, rfl, rfl⟩
  · dsimp only [Option.toList, List.cons_append, List.nil_append, List.append]
    rcases st with ⟨-, e50, v1, v20, rfl, rfl⟩ | ⟨e0, -, -⟩
    · have hi1 := lt_of_code hc hi (by rw [e9]; decide)
      have hi2 := lt_of_code hc (show i1 + 1 ≤ T by omega) (by rw [e50]; decide)
      have ev : gI (sI h aM 52 (nI 1)) 102 (2916 + (2400 + i1 + 1)) = nI (v (i1 + 1)) := (K1.2.2.2 (i1 + 1) (by omega)).2.1
      have F2 : Fr gbX h (sI (sI h aM 52 (nI 1)) aM 52 (nI (v (i1 + 1)))) := F1.sI rfl
      have G2 := G.fr F2
      have k1 := ga192 d G2.1 G2.2.1 G2.2.2.1 (G2.eo V B hM hT hd hf hlt) (show i1 + 2 ≤ T by omega) hl st2 live en a3 a4 bq (fun hb bb tt Fb z1 z2 z3 z4 z5 z6 => kk hb bb tt (F2.trans Fb) (z1.trans rfl) (z2.trans rfl) (z3.trans (gI_hit _ _ _ _)) (fun k => (z4 k).trans rfl) z5 z6)
      first | ((with_reducible show Rp _ _ _ _ (.int (b2i _) :: _) _ _); refine Rp.if_eqB (tgt := 192) dX12_goesAlong_162 (by decide) (fun c162 => ?_) (fun c162 => ?_)) | ((with_reducible show Rp _ _ _ _ (.int (nI _) :: _) _ _); refine Rp.if_eqN (tgt := 192) dX12_goesAlong_162 (by decide) (by omega) (fun c162 => ?_) (fun c162 => ?_)) | refine Rp.if_eq (tgt := 192) dX12_goesAlong_162 (by decide) (fun c162 => ?_) (fun c162 => ?_)
      · skip
        first | (exfalso; omega) | exact absurd c162 (by decide) | exact absurd (by decide) c162
      · skip
        refine Rp.aload_n dX12_goesAlong_165 rfl rfl ?_
        refine Rp.aload_n dX12_goesAlong_166 rfl rfl ?_
        refine Rp.getR dX12_goesAlong_167 fk_X12_24 rfl (S1 _ _ rfl) (R1 _ _ _ rfl) ?_
        refine Rp.sipush (nI 2916) dX12_goesAlong_170 (by decide +kernel) ?_
        refine Rp.aload_n dX12_goesAlong_173 rfl rfl ?_
        refine Rp.getI dX12_goesAlong_174 fk_X12_282 rfl (S1 _ _ rfl) ?_
        first | rw [ev_g] | rw [ev_k, ev] | skip
        first | ((with_reducible show Rp _ _ _ _ (.int (nI _) :: .int (nI _) :: _) _ _); refine Rp.iaddN dX12_goesAlong_177 ?_) | refine Rp.iadd dX12_goesAlong_177 ?_
        first | ((with_reducible show Rp _ _ _ _ (.int (nI _) :: _) _ _); refine Rp.ialoadN dX12_goesAlong_178 (S1 _ _ rfl) (by omega) ?_) | refine Rp.iaload dX12_goesAlong_178 (S1 _ _ rfl) (by first | assumption | exact vpb (by decide)) ?_
        first | rw [ev_g] | rw [ev_k, ev] | skip
        refine Rp.putI dX12_goesAlong_179 fk_X12_494w rfl (S1 _ _ rfl) ?_
        first | rw [ev_s52] | rw [ev_sg] | skip
        refine Rp.aload_n dX12_goesAlong_182 rfl rfl ?_
        refine Rp.dup dX12_goesAlong_183 rfl ?_
        refine Rp.getI dX12_goesAlong_184 fk_X12_282 rfl (S1 _ _ rfl) ?_
        first | rw [ev_g] | rw [ev_k, ev] | skip
        refine Rp.iconst (nI 1) dX12_goesAlong_187 (by decide) ?_
        first | ((with_reducible show Rp _ _ _ _ (.int (nI _) :: .int (nI _) :: _) _ _); refine Rp.iaddN dX12_goesAlong_188 ?_) | refine Rp.iadd dX12_goesAlong_188 ?_
        refine Rp.putI dX12_goesAlong_189 fk_X12_282w rfl (S1 _ _ rfl) ?_
        first | rw [ev_s52] | rw [ev_sg] | skip
        exact k1
    · exact absurd e9 e0
  · dsimp only [Option.toList, List.cons_append, List.nil_append, List.append]
    rcases st with ⟨e0, -⟩ | ⟨-, rfl, rfl⟩
    · exact absurd e0 e9
    · have k1 := ga192 d S1 R1 K1 (G1.eo V B hM hT hd hf hlt) hi hl st2 live en a3 a4 bq (fun hb bb tt Fb z1 z2 z3 z4 z5 z6 => kk hb bb tt (F1.trans Fb) (z1.trans rfl) (z2.trans rfl) (z3.trans (gI_hit _ _ _ _)) (fun k => (z4 k).trans rfl) z5 z6)
      first | ((with_reducible show Rp _ _ _ _ (.int (b2i _) :: _) _ _); refine Rp.if_eqB (tgt := 192) dX12_goesAlong_162 (by decide) (fun c162 => ?_) (fun c162 => ?_)) | ((with_reducible show Rp _ _ _ _ (.int (nI _) :: _) _ _); refine Rp.if_eqN (tgt := 192) dX12_goesAlong_162 (by decide) (by omega) (fun c162 => ?_) (fun c162 => ?_)) | refine Rp.if_eq (tgt := 192) dX12_goesAlong_162 (by decide) (fun c162 => ?_) (fun c162 => ?_)
      · skip
        exact k1
      · skip
        first | (exfalso; omega) | exact absurd c162 (by decide) | exact absurd (by decide) c162
/-- what going along an order leaves -/
def GaE (h : AH) (w : Nat → Int32) (live : Bool) (cI tm i' : Nat) (p q ts : PT) (h' : AH) : Prop := ∃ hb bb, h' = evH hb (nI (2400 + i' + 1)) bb ∧ Fr gbX h hb ∧ gI hb aM 53 = nI cI ∧ gI hb aM 52 = nI tm ∧ (live = true → gI hb aM 55 = b2i (tsV ts w) ∧ gI hb aM 54 = b2i ((ptV p w).isSome && (ptV q w).isSome) ∧ (∀ pos D x, p = some (pos, D) → D w 0 = some x → gL hb 127 0 = Int64.ofInt x ∧ -1000000000 ≤ x ∧ x ≤ 1000000000) ∧ (∀ pos D x, q = some (pos, D) → D w 0 = some x → gL hb 127 1 = Int64.ofInt x ∧ -1000000000 ≤ x ∧ x ≤ 1000000000))
theorem evC_is {b1 : Bool} {x : Int64} {D : Option Int} (e : evC true false D b1 x) : (!b1) = D.isSome ∧ ∀ y, D = some y → x = Int64.ofInt y ∧ -1000000000 ≤ y ∧ y ≤ 1000000000 := by
  unfold evC at e
  rw [if_pos ⟨rfl, rfl⟩] at e
  match D, e with
  | none, e => exact ⟨by rw [e]; rfl, fun y hy => nomatch hy⟩
  | some z, e => exact ⟨by rw [e.1]; rfl, fun y hy => by cases hy; exact e.2⟩
theorem vb_code {c : Nat → Nat} {i vb : Nat} (h : vbO true (c i) = some vb) : (vb = 0 ∧ c i = 23) ∨ (vb = 1 ∧ c i = 25) ∨ (vb = 2 ∧ c i = 27) ∨ (vb = 3 ∧ c i = 28) := by
  have h : (if c i = 23 then some 0 else if c i = 25 then some 1 else if c i = 27 then some 2 else if c i = 28 then some 3 else none) = some vb := h
  by_cases c1 : c i = 23
  · rw [if_pos c1] at h; cases h; exact Or.inl ⟨rfl, c1⟩
  · rw [if_neg c1] at h
    by_cases c2 : c i = 25
    · rw [if_pos c2] at h; cases h; exact Or.inr (Or.inl ⟨rfl, c2⟩)
    · rw [if_neg c2] at h
      by_cases c3 : c i = 27
      · rw [if_pos c3] at h; cases h; exact Or.inr (Or.inr (Or.inl ⟨rfl, c3⟩))
      · rw [if_neg c3] at h
        by_cases c4 : c i = 28
        · rw [if_pos c4] at h; cases h; exact Or.inr (Or.inr (Or.inr ⟨rfl, c4⟩))
        · rw [if_neg c4] at h; cases h
theorem ga84b {P : Option Value → AH → Prop} (S : ShOK h) (en : Int32) (live : Bool) (g : Nat) (b : Int32) (k2 : Rp (d + 77) M_X12_goesAlong 105 [some (.ref aM), some (.int en), some (.int (b2i live)), some (.int (nI 2)), some (.int (nI 1))] [] (evH h (nI (g + 1)) b) P) : Rp (d + 77) M_X12_goesAlong 84 [some (.ref aM), some (.int en), some (.int (b2i live)), some (.int (nI 2)), some (.int (nI 1))] [] (evH h (nI g) b) P := by
  refine Rp.iload dX12_goesAlong_84 rfl ?_
  refine Rp.iload_n dX12_goesAlong_86 rfl ?_
  first | ((with_reducible show Rp _ _ _ _ (.int (nI _) :: .int (nI _) :: _) _ _); refine Rp.icmp_geN (tgt := 151) dX12_goesAlong_87 (by decide) (by omega) (fun c87 => ?_) (fun c87 => ?_)) | refine Rp.icmp_ge (tgt := 151) dX12_goesAlong_87 (by decide) (fun c87 => ?_) (fun c87 => ?_)
  · skip
    first | (exfalso; omega) | exact absurd c87 (by decide) | exact absurd (by decide) c87
  · skip
    refine Rp.iload dX12_goesAlong_90 rfl ?_
    refine Rp.if_le (tgt := 105) dX12_goesAlong_92 (by decide) (fun c92 => ?_) (fun c92 => ?_)
    · skip
      first | (exfalso; omega) | exact absurd c92 (by decide) | exact absurd (by decide) c92
    · skip
      refine Rp.aload_n dX12_goesAlong_95 rfl rfl ?_
      refine Rp.dup dX12_goesAlong_96 rfl ?_
      refine Rp.getI dX12_goesAlong_97 fk_X12_282 rfl (S _ _ rfl) ?_
      first | rw [ev_g] | skip
      refine Rp.iconst (nI 1) dX12_goesAlong_100 (by decide) ?_
      first | ((with_reducible show Rp _ _ _ _ (.int (nI _) :: .int (nI _) :: _) _ _); refine Rp.iaddN dX12_goesAlong_101 ?_) | refine Rp.iadd dX12_goesAlong_101 ?_
      refine Rp.putI dX12_goesAlong_102 fk_X12_282w rfl (S _ _ rfl) ?_
      first | rw [ev_sg] | skip
      exact k2
/-- from the head on -/
theorem ga26 (G : GB h c v T K dn lt fit) (V : VH K np nt) (B : KB K) (hM : K 103 = nI np) (hT : K 104 = nI nt) (hd : dn ≤ 1000) (hf : fit ≤ 1000) (hlt : lt = -1 ∨ ∃ x, x < 100 ∧ lt = nI x) {f i lv a i' lv' : Nat} {cd : List (Nat × Nat)} {vb tm : Nat} {p q ts : PT} (hcl : clR true c v f i lv a = .ok (i', lv', cd, vb, tm, p, q, ts)) (hi : i ≤ T) (hl : lv ≤ 50) (live : Bool) (en bq : Int32) : Rp (d + 77) M_X12_goesAlong 26 [some (.ref aM), some (.int en), some (.int (b2i live)), none, none] [] (evH h (nI (2400 + i)) bq) (fun r h' => r = none ∧ GaE h (wO K np nt dn lt fit) live (c i) tm i' p q ts h') := by
  obtain ⟨hv, i1, lv1, st, i2, st1, st2⟩ := clR_invT hcl
  have K0 := G.2.2.1
  have hc := K0.2.1
  have hB := K0.1
  have hvb := vb_code hv
  have ci0 : c i ≠ 0 := by omega
  have hi1 := lt_of_code hc hi ci0
  have ca := s_codeAt (d + 76) G.1 G.2.1 K0 hi (nI (2400 + i)) bq
  let h2 := sI (sI h aM 53 (nI (c i))) aM 54 (nI 1)
  have F2 : Fr gbX h h2 := (Fr.rfl'.sI rfl).sI rfl
  have G2 : GB h2 c v T K dn lt fit := G.fr F2
  have S2 := G2.1
  have R2 := G2.2.1
  have K2 := G2.2.2.1
  have E2 := G2.eo V B hM hT hd hf hlt
  have hh : gI h2 aM 53 = nI (c i) := (gI_off _ _ _ (by decide)).trans (gI_hit _ _ _ _)
  have h54 : gI h2 aM 54 = b2i true := gI_hit _ _ _ _
  have Pk : ∀ (f md i lv a : Nat) {i1 lv1 : Nat} {cd : List (Nat × Nat)} {D : DN}, md < 12 → i ≤ T → lv ≤ 50 → Prs true c v f md 0 i lv a = .ok (i1, lv1, cd, D) → i1 ≤ T ∧ lv1 ≤ 50 := fun f md i lv a i1 lv1 cd D hm hi hl hP => by
    have o := Prs_ok (ord := true) (v := v) hc f md 0 i lv a hm hi hl
    rw [hP] at o
    exact ⟨o.2.1, o.2.2.2.1⟩
  -- with all sums done
  have fin9 : ∀ (hx : AH) (bx : Int32) (n k : Nat), Fr gbX h2 hx → gI hx aM 53 = nI (c i) → n ≤ k → k ≤ 2 → i1 ≤ T → lv1 ≤ 50 → (live = true → gI hx aM 54 = b2i ((ptV p (wO K np nt dn lt fit)).isSome && (ptV q (wO K np nt dn lt fit)).isSome) ∧ (∀ pos D x, p = some (pos, D) → D (wO K np nt dn lt fit) 0 = some x → gL hx 127 0 = Int64.ofInt x ∧ -1000000000 ≤ x ∧ x ≤ 1000000000) ∧ (∀ pos D x, q = some (pos, D) → D (wO K np nt dn lt fit) 0 = some x → gL hx 127 1 = Int64.ofInt x ∧ -1000000000 ≤ x ∧ x ≤ 1000000000)) → Rp (d + 77) M_X12_goesAlong 84 [some (.ref aM), some (.int en), some (.int (b2i live)), some (.int (nI n)), some (.int (nI k))] [] (evH hx (nI (2400 + i1)) bx) (fun r h' => r = none ∧ GaE h (wO K np nt dn lt fit) live (c i) tm i' p q ts h') := by
    intro hx bx n k Fx hhx hnk hk2 hi1T hl1 hs
    have k1 := ga151 d (P := fun r h' => r = none ∧ GaE h (wO K np nt dn lt fit) live (c i) tm i' p q ts h') (G2.fr Fx) V B hM hT hd hf hlt hi1T hl1 st1 st2 live en (nI n) (nI k) bx (fun hb bb tt Fb z1 z2 z3 z4 z5 z6 => ⟨rfl, hb, bb, rfl, F2.trans (Fx.trans Fb), z2.trans hhx, z3, fun hlv => ⟨by rw [z5, z6 hlv], z1.trans (hs hlv).1, fun pos D x e1 e2 => by rw [z4]; exact (hs hlv).2.1 pos D x e1 e2, fun pos D x e1 e2 => by rw [z4]; exact (hs hlv).2.2 pos D x e1 e2⟩⟩)
    refine Rp.iload dX12_goesAlong_84 rfl ?_
    refine Rp.iload_n dX12_goesAlong_86 rfl ?_
    first | ((with_reducible show Rp _ _ _ _ (.int (nI _) :: .int (nI _) :: _) _ _); refine Rp.icmp_geN (tgt := 151) dX12_goesAlong_87 (by decide) (by omega) (fun c87 => ?_) (fun c87 => ?_)) | refine Rp.icmp_ge (tgt := 151) dX12_goesAlong_87 (by decide) (fun c87 => ?_) (fun c87 => ?_)
    · skip
      exact k1
    · skip
      first | (exfalso; omega) | exact absurd c87 (by decide) | exact absurd (by decide) c87
  have hh9 : gI h2 100 53 = nI (c i) := hh
  have k53 : Rp (d + 77) M_X12_goesAlong 53 [some (.ref aM), some (.int en), some (.int (b2i live)), none, none] [] (evH h2 (nI (2400 + i + 1)) bq) (fun r h' => r = none ∧ GaE h (wO K np nt dn lt fit) live (c i) tm i' p q ts h') := by
    rcases st with ⟨h2b, j1, l1, cd1, D1, a2, cd2, D2, x1, x2, cj, rfl, rfl⟩ | ⟨h2b, cd1, D1, x1, rfl, rfl⟩ | ⟨h3b, rfl, rfl, rfl, rfl⟩
    · have p1 := Pk f 7 (i + 1) lv a (by decide) hi1 hl x1
      have hj1 := lt_of_code hc p1.1 (by rw [cj]; split <;> decide)
      have p2 := Pk f 7 (j1 + 1) l1 a2 (by decide) hj1 p1.2 x2
      have k105 := ga105 d S2 R2 K2 E2 hi1 hl x1 live true h54 (k := 0) (n := 2) (by decide) en bq (P := fun r h' => r = none ∧ GaE h (wO K np nt dn lt fit) live (c i) tm i' (some (a, D1)) (some (a2, D2)) ts h') (fun x b1 ex => by
        have F3 : Fr gbX h2 (sI (sL h2 127 0 x) aM 54 (b2i (true && !b1))) := (Fr.rfl'.sL rfl).sI rfl
        have G3 := G2.fr F3
        have k2 := ga105 d G3.1 G3.2.1 G3.2.2.1 (G3.eo V B hM hT hd hf hlt) hj1 p1.2 x2 live (true && !b1) (gI_hit _ _ _ _) (k := 1) (n := 2) (by decide) en (b2i b1) (P := fun r h' => r = none ∧ GaE h (wO K np nt dn lt fit) live (c i) tm i' (some (a, D1)) (some (a2, D2)) ts h') (fun y b2 ey => fin9 _ _ 2 2 ((F3.sL rfl).sI rfl) (by exact hh) (Nat.le_refl _) (Nat.le_refl _) p2.1 p2.2 (fun hlv => by
          subst hlv
          have q1 := evC_is ex
          have q2 := evC_is ey
          refine ⟨(gI_hit _ _ _ _).trans ?_, fun pos D z e1 e2 => ?_, fun pos D z e1 e2 => ?_⟩
          · rw [Bool.true_and, q1.1, q2.1]; rfl
          · cases e1
            exact ⟨(show gL (sI (sL (sI (sL h2 127 0 x) aM 54 (b2i (true && !b1))) 127 1 y) aM 54 (b2i (true && !b1 && !b2))) 127 0 = x from rfl).trans (q1.2 z e2).1, (q1.2 z e2).2⟩
          · cases e1
            exact ⟨(show gL (sI (sL (sI (sL h2 127 0 x) aM 54 (b2i (true && !b1))) 127 1 y) aM 54 (b2i (true && !b1 && !b2))) 127 1 = y from rfl).trans (q2.2 z e2).1, (q2.2 z e2).2⟩))
        exact ga84b d G3.1 en live (2400 + j1) (b2i b1) k2)
      have c5 : c i = 23 ∨ c i = 25 := by omega
      rcases c5 with c5 | c5
      · have hh5 : gI h2 100 53 = nI 23 := by rw [hh9, c5]
        refine Rp.aload_n dX12_goesAlong_53 rfl rfl ?_
        refine Rp.getI dX12_goesAlong_54 fk_X12_488 rfl (S2 _ _ rfl) ?_
        first | rw [ev_53, hh5] | skip
        refine Rp.bipush (nI 28) dX12_goesAlong_57 (by decide) ?_
        first | ((with_reducible show Rp _ _ _ _ (.int (nI _) :: .int (nI _) :: _) _ _); refine Rp.icmp_neN (tgt := 66) dX12_goesAlong_59 (by decide) (by omega) (fun c59 => ?_) (fun c59 => ?_)) | refine Rp.icmp_ne (tgt := 66) dX12_goesAlong_59 (by decide) (fun c59 => ?_) (fun c59 => ?_)
        · skip
          refine Rp.aload_n dX12_goesAlong_66 rfl rfl ?_
          refine Rp.getI dX12_goesAlong_67 fk_X12_488 rfl (S2 _ _ rfl) ?_
          first | rw [ev_53, hh5] | skip
          refine Rp.bipush (nI 27) dX12_goesAlong_70 (by decide) ?_
          first | ((with_reducible show Rp _ _ _ _ (.int (nI _) :: .int (nI _) :: _) _ _); refine Rp.icmp_neN (tgt := 79) dX12_goesAlong_72 (by decide) (by omega) (fun c72 => ?_) (fun c72 => ?_)) | refine Rp.icmp_ne (tgt := 79) dX12_goesAlong_72 (by decide) (fun c72 => ?_) (fun c72 => ?_)
          · skip
            refine Rp.iconst (nI 2) dX12_goesAlong_79 (by decide) ?_
            refine Rp.ist3 dX12_goesAlong_80 (by first | exact nl2_some rfl | exact nl2_none) (by decide) ?_
            refine Rp.iconst (nI 0) dX12_goesAlong_81 (by decide) ?_
            refine Rp.ist4 dX12_goesAlong_82 (by first | exact nl2_some rfl | exact nl2_none) (by decide) ?_
            refine Rp.iload dX12_goesAlong_84 rfl ?_
            refine Rp.iload_n dX12_goesAlong_86 rfl ?_
            first | ((with_reducible show Rp _ _ _ _ (.int (nI _) :: .int (nI _) :: _) _ _); refine Rp.icmp_geN (tgt := 151) dX12_goesAlong_87 (by decide) (by omega) (fun c87 => ?_) (fun c87 => ?_)) | refine Rp.icmp_ge (tgt := 151) dX12_goesAlong_87 (by decide) (fun c87 => ?_) (fun c87 => ?_)
            · skip
              first | (exfalso; omega) | exact absurd c87 (by decide) | exact absurd (by decide) c87
            · skip
              refine Rp.iload dX12_goesAlong_90 rfl ?_
              refine Rp.if_le (tgt := 105) dX12_goesAlong_92 (by decide) (fun c92 => ?_) (fun c92 => ?_)
              · skip
                exact k105
              · skip
                first | (exfalso; omega) | exact absurd c92 (by decide) | exact absurd (by decide) c92
          · skip
            first | (exfalso; omega) | exact absurd c72 (by decide) | exact absurd (by decide) c72
        · skip
          first | (exfalso; omega) | exact absurd c59 (by decide) | exact absurd (by decide) c59
      · have hh5 : gI h2 100 53 = nI 25 := by rw [hh9, c5]
        refine Rp.aload_n dX12_goesAlong_53 rfl rfl ?_
        refine Rp.getI dX12_goesAlong_54 fk_X12_488 rfl (S2 _ _ rfl) ?_
        first | rw [ev_53, hh5] | skip
        refine Rp.bipush (nI 28) dX12_goesAlong_57 (by decide) ?_
        first | ((with_reducible show Rp _ _ _ _ (.int (nI _) :: .int (nI _) :: _) _ _); refine Rp.icmp_neN (tgt := 66) dX12_goesAlong_59 (by decide) (by omega) (fun c59 => ?_) (fun c59 => ?_)) | refine Rp.icmp_ne (tgt := 66) dX12_goesAlong_59 (by decide) (fun c59 => ?_) (fun c59 => ?_)
        · skip
          refine Rp.aload_n dX12_goesAlong_66 rfl rfl ?_
          refine Rp.getI dX12_goesAlong_67 fk_X12_488 rfl (S2 _ _ rfl) ?_
          first | rw [ev_53, hh5] | skip
          refine Rp.bipush (nI 27) dX12_goesAlong_70 (by decide) ?_
          first | ((with_reducible show Rp _ _ _ _ (.int (nI _) :: .int (nI _) :: _) _ _); refine Rp.icmp_neN (tgt := 79) dX12_goesAlong_72 (by decide) (by omega) (fun c72 => ?_) (fun c72 => ?_)) | refine Rp.icmp_ne (tgt := 79) dX12_goesAlong_72 (by decide) (fun c72 => ?_) (fun c72 => ?_)
          · skip
            refine Rp.iconst (nI 2) dX12_goesAlong_79 (by decide) ?_
            refine Rp.ist3 dX12_goesAlong_80 (by first | exact nl2_some rfl | exact nl2_none) (by decide) ?_
            refine Rp.iconst (nI 0) dX12_goesAlong_81 (by decide) ?_
            refine Rp.ist4 dX12_goesAlong_82 (by first | exact nl2_some rfl | exact nl2_none) (by decide) ?_
            refine Rp.iload dX12_goesAlong_84 rfl ?_
            refine Rp.iload_n dX12_goesAlong_86 rfl ?_
            first | ((with_reducible show Rp _ _ _ _ (.int (nI _) :: .int (nI _) :: _) _ _); refine Rp.icmp_geN (tgt := 151) dX12_goesAlong_87 (by decide) (by omega) (fun c87 => ?_) (fun c87 => ?_)) | refine Rp.icmp_ge (tgt := 151) dX12_goesAlong_87 (by decide) (fun c87 => ?_) (fun c87 => ?_)
            · skip
              first | (exfalso; omega) | exact absurd c87 (by decide) | exact absurd (by decide) c87
            · skip
              refine Rp.iload dX12_goesAlong_90 rfl ?_
              refine Rp.if_le (tgt := 105) dX12_goesAlong_92 (by decide) (fun c92 => ?_) (fun c92 => ?_)
              · skip
                exact k105
              · skip
                first | (exfalso; omega) | exact absurd c92 (by decide) | exact absurd (by decide) c92
          · skip
            first | (exfalso; omega) | exact absurd c72 (by decide) | exact absurd (by decide) c72
        · skip
          first | (exfalso; omega) | exact absurd c59 (by decide) | exact absurd (by decide) c59
    · have p1 := Pk f 7 (i + 1) lv a (by decide) hi1 hl x1
      have k105 := ga105 d S2 R2 K2 E2 hi1 hl x1 live true h54 (k := 0) (n := 1) (by decide) en bq (P := fun r h' => r = none ∧ GaE h (wO K np nt dn lt fit) live (c i) tm i' (some (a, D1)) none ts h') (fun x b1 ex => fin9 _ _ 1 1 ((Fr.rfl'.sL rfl).sI rfl) (by exact hh) (Nat.le_refl _) (by decide) p1.1 p1.2 (fun hlv => by
        subst hlv
        have q1 := evC_is ex
        refine ⟨(gI_hit _ _ _ _).trans ?_, fun pos D z e1 e2 => ?_, fun pos D z e1 e2 => nomatch e1⟩
        · rw [Bool.true_and, q1.1]
          show b2i (D1 _ 0).isSome = b2i ((D1 _ 0).isSome && true)
          rw [Bool.and_true]
        · cases e1
          exact ⟨(show gL (sI (sL h2 127 0 x) aM 54 (b2i (true && !b1))) 127 0 = x from rfl).trans (q1.2 z e2).1, (q1.2 z e2).2⟩))
      have c27 : c i = 27 := by omega
      have hh27 : gI h2 100 53 = nI 27 := by rw [hh9, c27]
      refine Rp.aload_n dX12_goesAlong_53 rfl rfl ?_
      refine Rp.getI dX12_goesAlong_54 fk_X12_488 rfl (S2 _ _ rfl) ?_
      first | rw [ev_53, hh27] | skip
      refine Rp.bipush (nI 28) dX12_goesAlong_57 (by decide) ?_
      first | ((with_reducible show Rp _ _ _ _ (.int (nI _) :: .int (nI _) :: _) _ _); refine Rp.icmp_neN (tgt := 66) dX12_goesAlong_59 (by decide) (by omega) (fun c59 => ?_) (fun c59 => ?_)) | refine Rp.icmp_ne (tgt := 66) dX12_goesAlong_59 (by decide) (fun c59 => ?_) (fun c59 => ?_)
      · skip
        refine Rp.aload_n dX12_goesAlong_66 rfl rfl ?_
        refine Rp.getI dX12_goesAlong_67 fk_X12_488 rfl (S2 _ _ rfl) ?_
        first | rw [ev_53, hh27] | skip
        refine Rp.bipush (nI 27) dX12_goesAlong_70 (by decide) ?_
        first | ((with_reducible show Rp _ _ _ _ (.int (nI _) :: .int (nI _) :: _) _ _); refine Rp.icmp_neN (tgt := 79) dX12_goesAlong_72 (by decide) (by omega) (fun c72 => ?_) (fun c72 => ?_)) | refine Rp.icmp_ne (tgt := 79) dX12_goesAlong_72 (by decide) (fun c72 => ?_) (fun c72 => ?_)
        · skip
          first | (exfalso; omega) | exact absurd c72 (by decide) | exact absurd (by decide) c72
        · skip
          refine Rp.iconst (nI 1) dX12_goesAlong_75 (by decide) ?_
          refine Rp.goto (tgt := 80) dX12_goesAlong_76 (by decide) ?_
          refine Rp.ist3 dX12_goesAlong_80 (by first | exact nl2_some rfl | exact nl2_none) (by decide) ?_
          refine Rp.iconst (nI 0) dX12_goesAlong_81 (by decide) ?_
          refine Rp.ist4 dX12_goesAlong_82 (by first | exact nl2_some rfl | exact nl2_none) (by decide) ?_
          refine Rp.iload dX12_goesAlong_84 rfl ?_
          refine Rp.iload_n dX12_goesAlong_86 rfl ?_
          first | ((with_reducible show Rp _ _ _ _ (.int (nI _) :: .int (nI _) :: _) _ _); refine Rp.icmp_geN (tgt := 151) dX12_goesAlong_87 (by decide) (by omega) (fun c87 => ?_) (fun c87 => ?_)) | refine Rp.icmp_ge (tgt := 151) dX12_goesAlong_87 (by decide) (fun c87 => ?_) (fun c87 => ?_)
          · skip
            first | (exfalso; omega) | exact absurd c87 (by decide) | exact absurd (by decide) c87
          · skip
            refine Rp.iload dX12_goesAlong_90 rfl ?_
            refine Rp.if_le (tgt := 105) dX12_goesAlong_92 (by decide) (fun c92 => ?_) (fun c92 => ?_)
            · skip
              exact k105
            · skip
              first | (exfalso; omega) | exact absurd c92 (by decide) | exact absurd (by decide) c92
      · skip
        first | (exfalso; omega) | exact absurd c59 (by decide) | exact absurd (by decide) c59
    · have c28 : c i = 28 := by omega
      have hh28 : gI h2 100 53 = nI 28 := by rw [hh9, c28]
      have k84 := fin9 h2 bq 0 0 Fr.rfl' hh (Nat.le_refl _) (by decide) hi1 hl (fun hlv => ⟨h54, fun pos D z e1 e2 => (nomatch e1), fun pos D z e1 e2 => (nomatch e1)⟩)
      refine Rp.aload_n dX12_goesAlong_53 rfl rfl ?_
      refine Rp.getI dX12_goesAlong_54 fk_X12_488 rfl (S2 _ _ rfl) ?_
      first | rw [ev_53, hh28] | skip
      refine Rp.bipush (nI 28) dX12_goesAlong_57 (by decide) ?_
      first | ((with_reducible show Rp _ _ _ _ (.int (nI _) :: .int (nI _) :: _) _ _); refine Rp.icmp_neN (tgt := 66) dX12_goesAlong_59 (by decide) (by omega) (fun c59 => ?_) (fun c59 => ?_)) | refine Rp.icmp_ne (tgt := 66) dX12_goesAlong_59 (by decide) (fun c59 => ?_) (fun c59 => ?_)
      · skip
        first | (exfalso; omega) | exact absurd c59 (by decide) | exact absurd (by decide) c59
      · skip
        refine Rp.iconst (nI 0) dX12_goesAlong_62 (by decide) ?_
        refine Rp.goto (tgt := 80) dX12_goesAlong_63 (by decide) ?_
        refine Rp.ist3 dX12_goesAlong_80 (by first | exact nl2_some rfl | exact nl2_none) (by decide) ?_
        refine Rp.iconst (nI 0) dX12_goesAlong_81 (by decide) ?_
        refine Rp.ist4 dX12_goesAlong_82 (by first | exact nl2_some rfl | exact nl2_none) (by decide) ?_
        exact k84
  refine Rp.aload_n dX12_goesAlong_26 rfl rfl ?_
  refine Rp.aload_n dX12_goesAlong_27 rfl rfl ?_
  refine Rp.aload_n dX12_goesAlong_28 rfl rfl ?_
  refine Rp.getI dX12_goesAlong_29 fk_X12_282 rfl (G.1 _ _ rfl) ?_
  first | rw [ev_g] | skip
  refine Rp.callV1 M_X12_codeAt (ci := 12) dX12_goesAlong_32 mo_X12_codeAt lk_X12_285 (by decide) rfl rfl (G.1 _ _ rfl) (Nat.le_of_ble_eq_true rfl) (Nat.le_of_ble_eq_true rfl) (ca) (fun v1 h1 p1 x1 => ?_)
  rw [p1.1, p1.2]
  try dsimp only [Option.toList, List.cons_append, List.nil_append, List.append]
  refine Rp.putI dX12_goesAlong_35 fk_X12_488w rfl (G.1 _ _ rfl) ?_
  first | rw [ev_s53] | rw [ev_sg] | rw [ev_s54] | skip
  refine Rp.aload_n dX12_goesAlong_38 rfl rfl ?_
  refine Rp.dup dX12_goesAlong_39 rfl ?_
  refine Rp.getI dX12_goesAlong_40 fk_X12_282 rfl (G.1 _ _ rfl) ?_
  first | rw [ev_g] | skip
  refine Rp.iconst (nI 1) dX12_goesAlong_43 (by decide) ?_
  first | ((with_reducible show Rp _ _ _ _ (.int (nI _) :: .int (nI _) :: _) _ _); refine Rp.iaddN dX12_goesAlong_44 ?_) | refine Rp.iadd dX12_goesAlong_44 ?_
  refine Rp.putI dX12_goesAlong_45 fk_X12_282w rfl (G.1 _ _ rfl) ?_
  first | rw [ev_s53] | rw [ev_sg] | rw [ev_s54] | skip
  refine Rp.aload_n dX12_goesAlong_48 rfl rfl ?_
  refine Rp.iconst (nI 1) dX12_goesAlong_49 (by decide) ?_
  refine Rp.putZ dX12_goesAlong_50 fk_X12_491w rfl (by first | exact Or.inl rfl | exact Or.inr rfl | assumption) (G.1 _ _ rfl) ?_
  first | rw [ev_s53] | rw [ev_sg] | rw [ev_s54] | skip
  exact k53
end Ga3
