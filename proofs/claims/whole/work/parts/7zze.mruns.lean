/-- the reference amid orders -/
def MI (g : AH) (fl : Option (List CLE)) (np nt : Nat) (c v : Nat → Nat) (T : Nat) (s : OS) : Prop := MA g fl np nt s.2.2.1 ∧ gI g 102 = s.1 ∧ OK6 s.1 c v T ∧ gI g aM 27 = nI s.2.2.2.1 ∧ gI g aM 28 = s.2.2.2.2
theorem MI.fr {X : Nat → Nat → Bool} {g h : AH} {fl : Option (List CLE)} {np nt : Nat} {c v : Nat → Nat} {T : Nat} {s : OS} (M : MI g fl np nt c v T s) (F : Fr X g h) (hx : xok X = true) (h102 : ∀ j, X 102 j = false) (h113 : ∀ j, X 113 j = false) (h32 : X 100 32 = false) (x27 : X 100 27 = false) (x28 : X 100 28 = false) : MI h fl np nt c v T s := by
  obtain ⟨⟨S, R, hF, B, V, hM, hT, L⟩, hK, K6, h27, h28⟩ := M
  have e : gI h 102 = gI g 102 := funext fun j => F.I 102 j (h102 j)
  exact ⟨⟨F.S S, F.R R hx, by rw [show gI h am_kept = gI g 102 from e]; exact hF, by rw [show gI h am_kept = gI g 102 from e]; exact B, by rw [show gI h am_kept = gI g 102 from e]; exact V, by rw [show gI h am_kept = gI g 102 from e]; exact hM, by rw [show gI h am_kept = gI g 102 from e]; exact hT, L.1, (F.I 100 32 h32).trans L.2.1, fun i r hi j hj => (F.I 113 _ (h113 _)).trans (L.2.2 i r hi j hj)⟩, e.trans hK, K6, (F.I 100 27 x27).trans h27, (F.I 100 28 x28).trans h28⟩
theorem MI.ga {g h : AH} {fl : Option (List CLE)} {np nt : Nat} {c v : Nat → Nat} {T : Nat} {s : OS} (M : MI g fl np nt c v T s) (F : Fr gaX g h) : MI h fl np nt c v T s := M.fr F (by decide) (fun j => rfl) (fun j => rfl) rfl rfl rfl
def rnX (k j : Nat) : Bool := gaX k j || (obX k j || (k == 100 && (j == 27 || j == 51)))
theorem rnX_g {h g : AH} (F : Fr gaX h g) : Fr rnX h g := F.weak (fun k j hx => by unfold rnX at hx; rw [Bool.or_eq_false_iff] at hx; exact hx.1)
theorem rnX_o {h g : AH} (F : Fr obX h g) : Fr rnX h g := F.weak (fun k j hx => by unfold rnX at hx; rw [Bool.or_eq_false_iff, Bool.or_eq_false_iff] at hx; exact hx.2.1)
def RnQ (h0 : AH) (fl : Option (List CLE)) (np nt : Nat) (c v : Nat → Nat) (T i' : Nat) (q : Option OS) (r : Option Value) (h' : AH) : Prop := Fr rnX h0 h' ∧ match q with
  | none => r = some (.int (b2i false)) ∧ ShOK h' ∧ RfOK h'
  | some s => r = some (.int (b2i true)) ∧ MI h' fl np nt c v T s ∧ gI h' aM 51 = nI (2400 + i' + 1)
section Rn
variable (d : Nat) {h0 : AH} {fl : Option (List CLE)} {np nt : Nat} {c v : Nat → Nat} {T : Nat}
theorem runs67 {Q : Option Value → AH → Prop} {g : AH} {a1 tm be : Int32} {k : Nat} (k1 : Rp (d + 79) M_X12_runs 19 [some (.ref aM), some (.int a1), some (.int tm), some (.int be), some (.int (nI (k + 1)))] [] g Q) : Rp (d + 79) M_X12_runs 67 [some (.ref aM), some (.int a1), some (.int tm), some (.int be), some (.int (nI k))] [] g Q := by
  first | ((with_reducible show Rp _ _ _ (_ :: _ :: _ :: _ :: some (.int (nI _)) :: _) _ _ _); refine Rp.inc4N (c := 1) dX12_runs_67 (by first | exact nl2_some rfl | exact nl2_none) (by decide) ?_) | refine Rp.inc4 _ dX12_runs_67 rfl (by first | exact nl2_some rfl | exact nl2_none) (by decide) ?_
  refine Rp.goto (tgt := 19) dX12_runs_70 (by decide) ?_
  exact k1
/-- one obeying -/
theorem runs41 {h1 : AH} {s : OS} {N : Nat} (M : MI h1 fl np nt c v T s) (hO : OSK np nt N s) (hN : N ≤ 500) (Fg : Fr rnX h0 h1) {vb cI tm i i' k : Nat} {p q : PT} (hv : (vb = 0 ∧ cI = 23) ∨ (vb = 1 ∧ cI = 25) ∨ (vb = 2 ∧ cI = 27) ∨ (vb = 3 ∧ cI = 28)) (hp : vb < 3 → ∃ pos D, p = some (pos, D)) (hq : vb < 2 → ∃ pos D, q = some (pos, D)) (h53 : gI h1 aM 53 = nI cI) (h51 : gI h1 aM 51 = nI (2400 + i)) (h54 : gI h1 aM 54 = b2i ((ptV p (orW fl np nt s)).isSome && (ptV q (orW fl np nt s)).isSome)) (h0p : ∀ pos D x, p = some (pos, D) → D (orW fl np nt s) 0 = some x → gL h1 127 0 = Int64.ofInt x ∧ -1000000000 ≤ x ∧ x ≤ 1000000000) (h1p : ∀ pos D x, q = some (pos, D) → D (orW fl np nt s) 0 = some x → gL h1 127 1 = Int64.ofInt x ∧ -1000000000 ≤ x ∧ x ≤ 1000000000) {Q : Option Value → AH → Prop} (hQ1 : orX2 fl np nt s vb (ptV p (orW fl np nt s)) (ptV q (orW fl np nt s)) = none → ∀ g, Fr rnX h0 g → ShOK g → RfOK g → Q (some (.int (b2i false))) g) (hQ2 : ∀ s', orX2 fl np nt s vb (ptV p (orW fl np nt s)) (ptV q (orW fl np nt s)) = some s' → ∀ g, MI g fl np nt c v T s' → OSK np nt (N + 1) s' → Fr rnX h0 g → gI g aM 51 = nI (2400 + i) → Rp (d + 79) M_X12_runs 67 [some (.ref aM), some (.int (nI (2400 + T))), some (.int (nI tm)), some (.int (nI (2400 + i' + 1))), some (.int (nI k))] [] g Q) : Rp (d + 79) M_X12_runs 41 [some (.ref aM), some (.int (nI (2400 + T))), some (.int (nI tm)), some (.int (nI (2400 + i' + 1))), some (.int (nI k))] [] h1 Q := by
  obtain ⟨A, hK, K6, h27, h28⟩ := id M
  have S := A.1
  have R := A.2.1
  have V := hO.1
  have B := hO.2.1
  have q54 : gI h1 100 54 = b2i ((ptV p (orW fl np nt s)).isSome && (ptV q (orW fl np nt s)).isSome) := h54
  match hx : ptV p (orW fl np nt s) with
  | none =>
    rw [hx] at q54 hQ1
    have q54 : gI h1 100 54 = b2i false := q54
    refine Rp.aload_n dX12_runs_41 rfl rfl ?_
    refine Rp.getI dX12_runs_42 fk_X12_491 rfl (S _ _ rfl) ?_
    first | rw [q54] | skip
    first | ((with_reducible show Rp _ _ _ _ (.int (b2i _) :: _) _ _); refine Rp.if_eqB (tgt := 55) dX12_runs_45 (by decide) (fun c45 => ?_) (fun c45 => ?_)) | ((with_reducible show Rp _ _ _ _ (.int (nI _) :: _) _ _); refine Rp.if_eqN (tgt := 55) dX12_runs_45 (by decide) (by omega) (fun c45 => ?_) (fun c45 => ?_)) | refine Rp.if_eq (tgt := 55) dX12_runs_45 (by decide) (fun c45 => ?_) (fun c45 => ?_)
    · skip
      refine Rp.iconst (nI 0) dX12_runs_55 (by decide) ?_
      refine Rp.zreturn dX12_runs_56 rfl (by first | exact Or.inl rfl | exact Or.inr rfl | assumption) ?_
      exact hQ1 rfl _ Fg S R
    · skip
      cases c45
  | some x =>
    match hy : ptV q (orW fl np nt s) with
    | none =>
      rw [hx, hy] at q54 hQ1
      have q54 : gI h1 100 54 = b2i false := q54
      refine Rp.aload_n dX12_runs_41 rfl rfl ?_
      refine Rp.getI dX12_runs_42 fk_X12_491 rfl (S _ _ rfl) ?_
      first | rw [q54] | skip
      first | ((with_reducible show Rp _ _ _ _ (.int (b2i _) :: _) _ _); refine Rp.if_eqB (tgt := 55) dX12_runs_45 (by decide) (fun c45 => ?_) (fun c45 => ?_)) | ((with_reducible show Rp _ _ _ _ (.int (nI _) :: _) _ _); refine Rp.if_eqN (tgt := 55) dX12_runs_45 (by decide) (by omega) (fun c45 => ?_) (fun c45 => ?_)) | refine Rp.if_eq (tgt := 55) dX12_runs_45 (by decide) (fun c45 => ?_) (fun c45 => ?_)
      · skip
        refine Rp.iconst (nI 0) dX12_runs_55 (by decide) ?_
        refine Rp.zreturn dX12_runs_56 rfl (by first | exact Or.inl rfl | exact Or.inr rfl | assumption) ?_
        exact hQ1 rfl _ Fg S R
      · skip
        cases c45
    | some y =>
      rw [hx, hy] at q54 hQ1 hQ2
      have q54 : gI h1 100 54 = b2i true := q54
      have hQ1 : orA s vb (obR s.1 fl np nt vb (Int32.ofInt x) (Int32.ofInt y)) = none → ∀ g, Fr rnX h0 g → ShOK g → RfOK g → Q (some (.int (b2i false))) g := hQ1
      have hQ2 : ∀ s', orA s vb (obR s.1 fl np nt vb (Int32.ofInt x) (Int32.ofInt y)) = some s' → ∀ g, MI g fl np nt c v T s' → OSK np nt (N + 1) s' → Fr rnX h0 g → gI g aM 51 = nI (2400 + i) → Rp (d + 79) M_X12_runs 67 [some (.ref aM), some (.int (nI (2400 + T))), some (.int (nI tm)), some (.int (nI (2400 + i' + 1))), some (.int (nI k))] [] g Q := hQ2
      have ob := s_obeys d A hv h53 h28 (x := x) (y := y) (fun hlt => by
        obtain ⟨pos, D, e⟩ := hp hlt
        rw [e] at hx
        exact h0p pos D x e hx) (fun hlt => by
        obtain ⟨pos, D, e⟩ := hq hlt
        rw [e] at hy
        exact h1p pos D y e hy)
      rw [hK] at ob
      have hs := ob_AcS (fl := fl) V B vb (Int32.ofInt x) (Int32.ofInt y)
      have ok := fun s' e => orA_k (fl := fl) (s' := s') hO (vb := vb) (x := Int32.ofInt x) (y := Int32.ofInt y) e
      generalize obR s.1 fl np nt vb (Int32.ofInt x) (Int32.ofInt y) = z at ob hs hQ1 hQ2 ok
      refine Rp.aload_n dX12_runs_41 rfl rfl ?_
      refine Rp.getI dX12_runs_42 fk_X12_491 rfl (S _ _ rfl) ?_
      first | rw [q54] | skip
      first | ((with_reducible show Rp _ _ _ _ (.int (b2i _) :: _) _ _); refine Rp.if_eqB (tgt := 55) dX12_runs_45 (by decide) (fun c45 => ?_) (fun c45 => ?_)) | ((with_reducible show Rp _ _ _ _ (.int (nI _) :: _) _ _); refine Rp.if_eqN (tgt := 55) dX12_runs_45 (by decide) (by omega) (fun c45 => ?_) (fun c45 => ?_)) | refine Rp.if_eq (tgt := 55) dX12_runs_45 (by decide) (fun c45 => ?_) (fun c45 => ?_)
      · cases c45
      refine Rp.aload_n dX12_runs_48 rfl rfl ?_
      refine Rp.callV0 M_X12_obeys (ci := 12) dX12_runs_49 mo_X12_obeys lk_X12_510 (by decide) rfl rfl (S _ _ rfl) (Nat.le_of_ble_eq_true rfl) (Nat.le_of_ble_eq_true rfl) (ob) (fun v1 h1 p1 x1 => ?_)
      obtain ⟨rfl, F1, e3, L1, l1⟩ := p1
      try dsimp only [Option.toList, List.cons_append, List.nil_append, List.append]
      skip
      rw [hK] at e3 L1
      have S2 := F1.S S
      have R2 := F1.R R (by decide)
      unfold AcS at hs
      unfold orA at hQ1 hQ2 ok
      by_cases c0 : z.1 < 0
      · rw [decide_eq_true c0] at hs
        rw [hs, if_neg (by decide)] at hQ1
        refine Rp.if_ge (tgt := 57) dX12_runs_52 (by decide) (fun c52 => ?_) (fun c52 => ?_)
        · skip
          exact absurd c52 (by rw [i32_lt] at c0; rw [i32_le]; exact Int.not_le.mpr c0)
        · skip
          refine Rp.iconst (nI 0) dX12_runs_55 (by decide) ?_
          refine Rp.zreturn dX12_runs_56 rfl (by first | exact Or.inl rfl | exact Or.inr rfl | assumption) ?_
          exact hQ1 rfl _ (Fg.trans (rnX_o F1)) S2 R2
      · rw [decide_eq_false c0] at hs
        rw [hs, if_pos (by decide)] at hQ2 ok
        obtain ⟨O1, hi7⟩ := ok _ rfl
        have hi7 : ∀ j, 7 ≤ j → acK s.1 z.2 j = s.1 j := hi7
        have hdn : s.2.2.2.1 ≤ 500 := by have := hO.2.2.2.1; omega
        have e27 : gI h1 100 27 = nI s.2.2.2.1 := (F1.I 100 27 rfl).trans h27
        have Fo : Fr rnX h0 (sI h1 100 27 (nI (s.2.2.2.1 + 1))) := (Fg.trans (rnX_o F1)).sI rfl
        have e31 : gI (sI h1 100 27 (nI (s.2.2.2.1 + 1))) 102 = acK s.1 z.2 := e3
        have hF1 : FlK (acK s.1 z.2) fl := FlK.hi (by rw [← hK]; exact A.2.2.1) hi7
        have M2 : MI (sI h1 100 27 (nI (s.2.2.2.1 + 1))) fl np nt c v T (acK s.1 z.2, acE s.2.1 z.2, acU s.2.2.1 s.1 z.2, s.2.2.2.1 + 1, if vb = 0 then z.1 else s.2.2.2.2) := ⟨⟨S2, R2, by rw [show gI (sI h1 100 27 (nI (s.2.2.2.1 + 1))) am_kept = acK s.1 z.2 from e31]; exact hF1, by rw [show gI (sI h1 100 27 (nI (s.2.2.2.1 + 1))) am_kept = acK s.1 z.2 from e31]; exact O1.2.1, by rw [show gI (sI h1 100 27 (nI (s.2.2.2.1 + 1))) am_kept = acK s.1 z.2 from e31]; exact O1.1, by rw [show gI (sI h1 100 27 (nI (s.2.2.2.1 + 1))) am_kept = acK s.1 z.2 from e31, hi7 103 (by decide), ← hK]; exact A.2.2.2.2.2.1, by rw [show gI (sI h1 100 27 (nI (s.2.2.2.1 + 1))) am_kept = acK s.1 z.2 from e31, hi7 104 (by decide), ← hK]; exact A.2.2.2.2.2.2.1, ⟨L1.1, L1.2.1, L1.2.2⟩⟩, e31, ⟨K6.1, K6.2.1, fun k hk => by rw [show (acK s.1 z.2, acE s.2.1 z.2, acU s.2.2.1 s.1 z.2, s.2.2.2.1 + 1, if vb = 0 then z.1 else s.2.2.2.2).1 = acK s.1 z.2 from rfl, hi7 _ (by omega), hi7 _ (by omega)]; exact K6.2.2 k hk⟩, gI_hit _ _ _ _, by
          show gI (sI h1 100 27 (nI (s.2.2.2.1 + 1))) 100 28 = if vb = 0 then z.1 else s.2.2.2.2
          rw [gI_off _ _ _ (by decide)]
          refine l1.trans ?_
          by_cases cv : vb = 0
          · rw [if_pos ⟨cv, c0⟩, if_pos cv]
          · rw [if_neg (fun y => cv y.1), if_neg cv]⟩
        have k1 := hQ2 _ rfl _ M2 O1 Fo ((show gI (sI h1 100 27 (nI (s.2.2.2.1 + 1))) aM 51 = gI h1 100 51 from rfl).trans ((F1.I 100 51 rfl).trans h51))
        refine Rp.if_ge (tgt := 57) dX12_runs_52 (by decide) (fun c52 => ?_) (fun c52 => ?_)
        · skip
          refine Rp.aload_n dX12_runs_57 rfl rfl ?_
          refine Rp.dup dX12_runs_58 rfl ?_
          refine Rp.getI dX12_runs_59 fk_X12_318 rfl (S2 _ _ rfl) ?_
          first | rw [e27] | skip
          refine Rp.iconst (nI 1) dX12_runs_62 (by decide) ?_
          first | ((with_reducible show Rp _ _ _ _ (.int (nI _) :: .int (nI _) :: _) _ _); refine Rp.iaddN dX12_runs_63 ?_) | refine Rp.iadd dX12_runs_63 ?_
          refine Rp.putI dX12_runs_64 fk_X12_318w rfl (S2 _ _ rfl) ?_
          exact k1
        · skip
          exact absurd (by rw [i32_lt] at c0; rw [i32_le]; exact Int.not_lt.mp c0) c52
theorem runs19 {f i lv a i' lv' : Nat} {cd : List (Nat × Nat)} {vb tm : Nat} {p q ts : PT} (hcl : clR true c v f i lv a = .ok (i', lv', cd, vb, tm, p, q, ts)) (hi : i ≤ T) (hl : lv ≤ 50) (htm : tm ≤ 20) : ∀ (n k N : Nat) (s : OS) (g : AH), k + n = tm → MI g fl np nt c v T s → OSK np nt N s → N + n ≤ 500 → Fr rnX h0 g → gI g aM 51 = nI (2400 + i) → Rp (d + 79) M_X12_runs 19 [some (.ref aM), some (.int (nI (2400 + T))), some (.int (nI tm)), some (.int (nI (2400 + i' + 1))), some (.int (nI k))] [] g (RnQ h0 fl np nt c v T i' (orT fl np nt (vb, tm, p, q, ts) n s)) := by
  obtain ⟨hv, i1, lv1, st, -⟩ := clR_invT hcl
  have hvb := vb_code hv
  have hp : vb < 3 → ∃ pos D, p = some (pos, D) := fun z => by
    rcases st with ⟨-, j1, l1, cd1, D1, a2, cd2, D2, x1, x2, cj, e1, e2⟩ | ⟨-, cd1, D1, x1, e1, e2⟩ | ⟨h3, -⟩
    · exact ⟨_, _, e1⟩
    · exact ⟨_, _, e1⟩
    · omega
  have hq : vb < 2 → ∃ pos D, q = some (pos, D) := fun z => by
    rcases st with ⟨-, j1, l1, cd1, D1, a2, cd2, D2, x1, x2, cj, e1, e2⟩ | ⟨h2, -⟩ | ⟨h3, -⟩
    · exact ⟨_, _, e2⟩
    · omega
    · omega
  intro n
  induction n with
  | zero =>
    intro k N s g hk M hO hN F h51
    have e : k = tm := by omega
    subst e
    have S := M.1.1
    have F1 : Fr (fun a b => a == 100 && b == 51) g (sI g 100 51 (nI (2400 + i' + 1))) := Fr.rfl'.sI rfl
    have M1 := M.fr F1 (by decide) (fun j => rfl) (fun j => rfl) rfl rfl rfl
    refine Rp.iload dX12_runs_19 rfl ?_
    refine Rp.iload_n dX12_runs_21 rfl ?_
    first | ((with_reducible show Rp _ _ _ _ (.int (nI _) :: .int (nI _) :: _) _ _); refine Rp.icmp_geN (tgt := 73) dX12_runs_22 (by decide) (by omega) (fun c22 => ?_) (fun c22 => ?_)) | refine Rp.icmp_ge (tgt := 73) dX12_runs_22 (by decide) (fun c22 => ?_) (fun c22 => ?_)
    · skip
      refine Rp.aload_n dX12_runs_73 rfl rfl ?_
      refine Rp.iload_n dX12_runs_74 rfl ?_
      refine Rp.putI dX12_runs_75 fk_X12_482w rfl (S _ _ rfl) ?_
      refine Rp.iconst (nI 1) dX12_runs_78 (by decide) ?_
      refine Rp.zreturn dX12_runs_79 rfl (by first | exact Or.inl rfl | exact Or.inr rfl | assumption) ?_
      exact ⟨F.sI rfl, rfl, M1, gI_hit _ _ _ _⟩
    · skip
      first | (exfalso; omega) | exact absurd c22 (by decide) | exact absurd (by decide) c22
  | succ n ih =>
    intro k N s g hk M hO hN F h51
    obtain ⟨A, hK, K6, h27, h28⟩ := id M
    have S := A.1
    have ga := s_goesAlong (d + 1) A (by rw [hK]; exact K6) h27 h28 (by have := hO.2.2.2.1; omega) hO.2.2.2.2 h51 hcl hi hl true
    rw [hK] at ga
    refine Rp.iload dX12_runs_19 rfl ?_
    refine Rp.iload_n dX12_runs_21 rfl ?_
    first | ((with_reducible show Rp _ _ _ _ (.int (nI _) :: .int (nI _) :: _) _ _); refine Rp.icmp_geN (tgt := 73) dX12_runs_22 (by decide) (by omega) (fun c22 => ?_) (fun c22 => ?_)) | refine Rp.icmp_ge (tgt := 73) dX12_runs_22 (by decide) (fun c22 => ?_) (fun c22 => ?_)
    · first | (exfalso; omega) | exact absurd c22 (by decide) | exact absurd (by decide) c22
    refine Rp.aload_n dX12_runs_25 rfl rfl ?_
    refine Rp.iload_n dX12_runs_26 rfl ?_
    refine Rp.iconst (nI 1) dX12_runs_27 (by decide) ?_
    refine Rp.callV2 M_X12_goesAlong (ci := 12) dX12_runs_28 mo_X12_goesAlong lk_X12_506 (by decide) rfl rfl (S _ _ rfl) (Nat.le_of_ble_eq_true rfl) (Nat.le_of_ble_eq_true rfl) (ga) (fun v1 h1 p1 x1 => ?_)
    obtain ⟨rfl, F1, h22, h53, h52, h5⟩ := p1
    try dsimp only [Option.toList, List.cons_append, List.nil_append, List.append]
    skip
    obtain ⟨h55, h54, hs0, hs1⟩ := h5 rfl
    have M1 := M.ga F1
    have S1 := M1.1.1
    have h511 : gI h1 aM 51 = nI (2400 + i) := (F1.I 100 51 rfl).trans h51
    have Fg := F.trans (rnX_g F1)
    have q55 : gI h1 100 55 = b2i (tsV ts (orW fl np nt s)) := h55
    cases ct : tsV ts (orW fl np nt s)
    · rw [ct] at q55
      have eo : orT fl np nt (vb, tm, p, q, ts) (n + 1) s = orT fl np nt (vb, tm, p, q, ts) n s := by
        have : orS fl np nt (vb, tm, p, q, ts) s = some s := by
          unfold orS
          rw [if_neg (fun z => by
            have z : tsV ts (orW fl np nt s) = true := z
            rw [ct] at z; cases z)]
        rw [orT, this]
      rw [eo]
      have k1 := ih (k + 1) (N + 1) s h1 (by omega) M1 (hO.up (by omega)) (by omega) Fg h511
      refine Rp.aload_n dX12_runs_31 rfl rfl ?_
      refine Rp.getI dX12_runs_32 fk_X12_497 rfl (S1 _ _ rfl) ?_
      first | rw [q55] | skip
      first | ((with_reducible show Rp _ _ _ _ (.int (b2i _) :: _) _ _); refine Rp.if_neB (tgt := 41) dX12_runs_35 (by decide) (fun c35 => ?_) (fun c35 => ?_)) | ((with_reducible show Rp _ _ _ _ (.int (nI _) :: _) _ _); refine Rp.if_neN (tgt := 41) dX12_runs_35 (by decide) (by omega) (fun c35 => ?_) (fun c35 => ?_)) | refine Rp.if_ne (tgt := 41) dX12_runs_35 (by decide) (fun c35 => ?_) (fun c35 => ?_)
      · skip
        cases c35
      · skip
        refine Rp.goto (tgt := 67) dX12_runs_38 (by decide) ?_
        first | ((with_reducible show Rp _ _ _ (_ :: _ :: _ :: _ :: some (.int (nI _)) :: _) _ _ _); refine Rp.inc4N (c := 1) dX12_runs_67 (by first | exact nl2_some rfl | exact nl2_none) (by decide) ?_) | refine Rp.inc4 _ dX12_runs_67 rfl (by first | exact nl2_some rfl | exact nl2_none) (by decide) ?_
        refine Rp.goto (tgt := 19) dX12_runs_70 (by decide) ?_
        exact k1
    · rw [ct] at q55
      have es : orS fl np nt (vb, tm, p, q, ts) s = orX2 fl np nt s vb (ptV p (orW fl np nt s)) (ptV q (orW fl np nt s)) := by
        unfold orS
        rw [if_pos (show clH (vb, tm, p, q, ts) (orW fl np nt s) = true from ct)]
      have k41 := runs41 d (h0 := h0) (tm := tm) (i' := i') (k := k) M1 hO (by omega) Fg hvb hp hq h53 h511 h54 hs0 hs1 (Q := RnQ h0 fl np nt c v T i' (orT fl np nt (vb, tm, p, q, ts) (n + 1) s)) (fun e g Fg' Sg Rg => by
        rw [orT, es, e]
        exact ⟨Fg', rfl, Sg, Rg⟩) (fun s' e g Mg Og Fg' h51' => by
        rw [orT, es, e]
        have k1 := ih (k + 1) (N + 1) s' g (by omega) Mg Og (by omega) Fg' h51'
        exact runs67 d k1)
      refine Rp.aload_n dX12_runs_31 rfl rfl ?_
      refine Rp.getI dX12_runs_32 fk_X12_497 rfl (S1 _ _ rfl) ?_
      first | rw [q55] | skip
      first | ((with_reducible show Rp _ _ _ _ (.int (b2i _) :: _) _ _); refine Rp.if_neB (tgt := 41) dX12_runs_35 (by decide) (fun c35 => ?_) (fun c35 => ?_)) | ((with_reducible show Rp _ _ _ _ (.int (nI _) :: _) _ _); refine Rp.if_neN (tgt := 41) dX12_runs_35 (by decide) (by omega) (fun c35 => ?_) (fun c35 => ?_)) | refine Rp.if_ne (tgt := 41) dX12_runs_35 (by decide) (fun c35 => ?_) (fun c35 => ?_)
      · skip
        exact k41
      · skip
        cases c35
theorem s_runs {f i lv a i' lv' : Nat} {cd : List (Nat × Nat)} {vb tm : Nat} {p q ts : PT} (hcl : clR true c v f i lv a = .ok (i', lv', cd, vb, tm, p, q, ts)) (hi : i ≤ T) (hl : lv ≤ 50) (htm : tm ≤ 20) {N : Nat} {s : OS} {g : AH} (M : MI g fl np nt c v T s) (hO : OSK np nt N s) (hN : N + tm ≤ 500) (h51 : gI g aM 51 = nI (2400 + i)) : Rp (d + 79) M_X12_runs 0 [some (.ref aM), some (.int (nI (2400 + T))), none, none, none] [] g (RnQ g fl np nt c v T i' (orT fl np nt (vb, tm, p, q, ts) tm s)) := by
  obtain ⟨A, hK, K6, h27, h28⟩ := id M
  have S := A.1
  have ga := s_goesAlong (d + 1) A (by rw [hK]; exact K6) h27 h28 (by have := hO.2.2.2.1; omega) hO.2.2.2.2 h51 hcl hi hl false
  refine Rp.aload_n dX12_runs_0 rfl rfl ?_
  refine Rp.iload_n dX12_runs_1 rfl ?_
  refine Rp.iconst (nI 0) dX12_runs_2 (by decide) ?_
  refine Rp.callV2 M_X12_goesAlong (ci := 12) dX12_runs_3 mo_X12_goesAlong lk_X12_506 (by decide) rfl rfl (S _ _ rfl) (Nat.le_of_ble_eq_true rfl) (Nat.le_of_ble_eq_true rfl) (ga) (fun v1 h1 p1 x1 => ?_)
  obtain ⟨rfl, F1, h22, h53, h52, -⟩ := p1
  try dsimp only [Option.toList, List.cons_append, List.nil_append, List.append]
  skip
  have M1 := M.ga F1
  have S1 := M1.1.1
  have q52 : gI h1 100 52 = nI tm := h52
  have q22 : gI h1 100 22 = nI (2400 + i' + 1) := h22
  have k19 := runs19 d (h0 := g) hcl hi hl htm tm 0 N s h1 (by omega) M1 hO hN (rnX_g F1) ((F1.I 100 51 rfl).trans h51)
  refine Rp.aload_n dX12_runs_6 rfl rfl ?_
  refine Rp.getI dX12_runs_7 fk_X12_494 rfl (S1 _ _ rfl) ?_
  first | rw [q52] | rw [q22] | skip
  refine Rp.ist2 dX12_runs_10 (by first | exact nl2_some rfl | exact nl2_none) (by decide) ?_
  refine Rp.aload_n dX12_runs_11 rfl rfl ?_
  refine Rp.getI dX12_runs_12 fk_X12_282 rfl (S1 _ _ rfl) ?_
  first | rw [q52] | rw [q22] | skip
  refine Rp.ist3 dX12_runs_15 (by first | exact nl2_some rfl | exact nl2_none) (by decide) ?_
  refine Rp.iconst (nI 0) dX12_runs_16 (by decide) ?_
  refine Rp.ist4 dX12_runs_17 (by first | exact nl2_some rfl | exact nl2_none) (by decide) ?_
  exact k19
end Rn
