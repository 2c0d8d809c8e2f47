def vbM (md : Nat) (y : Int) : Prop := if md ≤ 6 then (y = 0 ∨ y = 1) else (-1000000000 ≤ y ∧ y ≤ 1000000000)
def tbM (md dep : Nat) : Nat := 2 * dep + (if md ≤ 6 then 0 else if md ≤ 8 then 1 else if md ≤ 10 then 2 else 3)
theorem i32_of {y : Int} (h : -1000000000 ≤ y ∧ y ≤ 1000000000) : (Int32.ofInt y).toInt = y := Int32.toInt_ofInt_of_le (by omega) (by omega)
theorem vbM_b {md : Nat} {y : Int} (h : vbM md y) : -1000000000 ≤ y ∧ y ≤ 1000000000 := by
  unfold vbM at h
  split at h
  · omega
  · exact h
/-- running the code of a piece: D tells what comes onto the stack at t -/
def XQ (h : AH) (d tx kc kw sz : Nat) (w : Nat → Int32) (md dep a : Nat) (cd : List (Nat × Nat)) (D : DN) : Prop := ∀ (P : Option Value → AH → Prop) (fr : Int32) (g : AH) (t sk : Nat) (x : Int), Fr mX h g → (∀ n q, cd[n]? = some q → gI h kc (a + n) = enc q) → a + cd.length < sz → sk ≤ a → t ≤ tbM md dep → (isHd md = false → gI g 42 t = Int32.ofInt x ∧ vbM md x) → (∀ g', Fr mX h g' → D w x = none → P (some (.int (-2000000000))) g') → (∀ g' y sk', Fr mX h g' → D w x = some y → vbM md y → (∀ j, j < t → gI g' 42 j = gI g 42 j) → gI g' 42 t = Int32.ofInt y → sk' ≤ a + cd.length → mS d tx kw fr P g' (a + cd.length) (t + 1) sk') → mS d tx kw fr P g a (if isHd md = true then t else t + 1) sk
theorem m_skips {d tx kc kw nc nw sz : Nat} {fr : Int32} {P : Option Value → AH → Prop} {g : AH} (B : MB g tx kc kw nc nw sz) {top sk : Nat} (hk : sk ≤ 1000) : ∀ (m i : Nat), i + m ≤ sk → i + m ≤ sz → mS d tx kw fr P g (i + m) top sk → mS d tx kw fr P g i top sk := by
  intro m
  induction m with
  | zero => intro i _ _ k; exact k
  | succ m ih =>
    intro i h1 h2 k
    exact m_skip B (by omega) (by omega) hk (ih (i + 1) (by omega) (by omega) (by rw [show i + 1 + m = i + (m + 1) by omega]; exact k))
section Xe
variable {h : AH} {d tx kc kw nc nw sz : Nat} {w : Nat → Int32}
theorem cd_l {cd1 cd2 : List (Nat × Nat)} {a : Nat} (hc : ∀ n q, (cd1 ++ cd2)[n]? = some q → gI h kc (a + n) = enc q) : (∀ n q, cd1[n]? = some q → gI h kc (a + n) = enc q) ∧ (∀ n q, cd2[n]? = some q → gI h kc (a + cd1.length + n) = enc q) := by
  refine ⟨fun n q hq => hc n q ?_, fun n q hq => ?_⟩
  · rw [List.getElem?_append_left (List.getElem?_eq_some_iff.mp hq).1]; exact hq
  · have := hc (cd1.length + n) q (by rw [List.getElem?_append_right (by omega), show cd1.length + n - cd1.length = n by omega]; exact hq)
    rw [← Nat.add_assoc] at this; exact this
theorem X_seq {md m1 m2 dep a : Nat} {cd1 cd2 : List (Nat × Nat)} {D1 D2 : DN} (hh : isHd md = true) (h1 : isHd m1 = true) (h2 : isHd m2 = false) (t1 : tbM md dep ≤ tbM m1 dep) (t2 : tbM md dep ≤ tbM m2 dep) (v1 : ∀ y, vbM m1 y → vbM m2 y) (v2 : ∀ y, vbM m2 y → vbM md y) (X1 : XQ h d tx kc kw sz w m1 dep a cd1 D1) (X2 : XQ h d tx kc kw sz w m2 dep (a + cd1.length) cd2 D2) : XQ h d tx kc kw sz w md dep a (cd1 ++ cd2) (fun w x => (D1 w x).bind (D2 w)) := by
  intro P fr g t sk x F hc hz hs ht hx k0 k1
  rw [List.length_append] at hz k1
  obtain ⟨c1, c2⟩ := cd_l hc
  have q := X1 P fr g t sk x F c1 (by omega) hs (by omega) (fun z => absurd h1 (by rw [z]; decide)) (fun g' F' e => k0 g' F' (by dsimp only; rw [e]; rfl)) (fun g' y sk' F' e vy pj py hs' => ?_)
  · rw [if_pos hh]; rw [if_pos h1] at q; exact q
  · have q2 := X2 P fr g' t sk' y F' c2 (by omega) hs' (by omega) (fun _ => ⟨py, v1 y vy⟩) (fun g2 F2 e2 => k0 g2 F2 (by dsimp only; rw [e]; exact e2)) (fun g2 y2 sk2 F2 e2 vy2 pj2 py2 hs2 => by
      have q3 := k1 g2 y2 sk2 F2 (by dsimp only; rw [e]; exact e2) (v2 y2 vy2) (fun j hj => (pj2 j hj).trans (pj j hj)) py2 (by omega)
      rw [← Nat.add_assoc] at q3; exact q3)
    rw [h2, if_neg (by decide)] at q2
    exact q2
theorem X_nil {md dep a : Nat} (hh : isHd md = false) : XQ h d tx kc kw sz w md dep a [] (fun _ x => some x) := by
  intro P fr g t sk x F hc hz hs ht hx k0 k1
  rw [hh, if_neg (by decide)]
  obtain ⟨e, v⟩ := hx hh
  exact k1 g x sk F rfl v (fun _ _ => rfl) e hs
theorem X_jmp (B : MB h tx kc kw nc nw sz) {md m1 dep a o : Nat} {cd1 cd2 : List (Nat × Nat)} {D1 D2 : DN} (ho : o = 3 ∨ o = 4) (hm : md ≤ 6) (hh : isHd md = false) (h1 : isHd m1 = true) (hd : dep ≤ 8) (hm1 : m1 ≤ 6) (X1 : XQ h d tx kc kw sz w m1 dep (a + 1) cd1 D1) (X2 : XQ h d tx kc kw sz w md dep (a + 1 + cd1.length) cd2 D2) : XQ h d tx kc kw sz w md dep a ((o, a + 1 + cd1.length) :: (cd1 ++ cd2)) (fun w x => (if x = (o : Int) - 3 then some x else D1 w 0).bind (D2 w)) := by
  intro P fr g t sk x F hc hz hs ht hx k0 k1
  rw [List.length_cons, List.length_append] at hz k1
  have hsz := B.2.2.2.2.2.2.1
  have hnc := B.2.2.2.2.2.2.2.1
  have hc0 := hc 0 _ rfl
  rw [Nat.add_zero] at hc0
  obtain ⟨c1, c2⟩ := cd_l (h := h) (kc := kc) (a := a + 1) (fun n q hq => by
    have := hc (n + 1) q (by rw [List.getElem?_cons_succ]; exact hq)
    rw [show a + (n + 1) = a + 1 + n by omega] at this; exact this)
  obtain ⟨e, v⟩ := hx hh
  have tt : tbM md dep = 2 * dep := by unfold tbM; rw [if_pos hm]; rfl
  have tt1 : tbM m1 dep = 2 * dep := by unfold tbM; rw [if_pos hm1]; rfl
  have vx : x = 0 ∨ x = 1 := by unfold vbM at v; rw [if_pos hm] at v; exact v
  have vm : ∀ y, vbM m1 y → vbM md y := fun y vy => by unfold vbM at vy ⊢; rw [if_pos hm1] at vy; rw [if_pos hm]; exact vy
  rw [hh, if_neg (by decide)]
  have Bg := B.fr F
  have cmp : gI g 42 t = nI (o - 3) ↔ x = (o : Int) - 3 := by
    rw [e, i32_eq, i32_of (by omega), nI_toInt (by omega)]; omega
  have tail : ∀ (g1 : AH) (y : Int) (sk1 : Nat), Fr mX h g1 → (if x = (o : Int) - 3 then some x else D1 w 0) = some y → vbM md y → (∀ j, j < t → gI g1 42 j = gI g 42 j) → gI g1 42 t = Int32.ofInt y → sk1 ≤ a + 1 + cd1.length → mS d tx kw fr P g1 (a + 1 + cd1.length) (t + 1) sk1 := fun g1 y sk1 F1 ey vy pj py hs1 => by
    have q2 := X2 P fr g1 t sk1 y F1 c2 (by omega) hs1 ht (fun _ => ⟨py, vy⟩) (fun g2 F2 e2 => k0 g2 F2 (by dsimp only; rw [ey]; exact e2)) (fun g2 y2 sk2 F2 e2 vy2 pj2 py2 hs2 => by
      have q3 := k1 g2 y2 sk2 F2 (by dsimp only; rw [ey]; exact e2) vy2 (fun j hj => (pj2 j hj).trans (pj j hj)) py2 (by omega)
      rw [show a + (cd1.length + cd2.length + 1) = a + 1 + cd1.length + cd2.length by omega] at q3; exact q3)
    rw [hh, if_neg (by decide)] at q2
    exact q2
  refine m_jmp Bg (v := a + 1 + cd1.length) (by omega) hs (by omega) (by omega) ho ((F.I kc a (beq_eq_false_iff_ne.mpr B.2.2.2.2.2.2.2.2.2.2.2.1)).trans hc0) (fun z => ?_) (fun z => ?_)
  · have zx := cmp.mp z
    exact m_skips Bg (by omega) cd1.length (a + 1) (by omega) (by omega) (tail g x _ F (if_pos zx) v (fun _ _ => rfl) e (Nat.le_refl _))
  · have zx : ¬ x = (o : Int) - 3 := fun y => z (cmp.mpr y)
    have q1 := X1 P fr g t sk 0 F c1 (by omega) (by omega) (by omega) (fun y => absurd h1 (by rw [y]; decide)) (fun g1 F1 e1 => k0 g1 F1 (by dsimp only; rw [if_neg zx, e1]; rfl)) (fun g1 y1 sk1 F1 e1 vy1 pj1 py1 hs1 => tail g1 y1 sk1 F1 (by rw [if_neg zx]; exact e1) (vm y1 vy1) pj1 py1 hs1)
    rw [if_pos h1] at q1
    exact q1
theorem arO_b {o : Nat} {x y z : Int} (h : arO o x y = some z) : -1000000000 ≤ z ∧ z ≤ 1000000000 := by
  have k : ∀ u : Int, ck u = some z → -1000000000 ≤ z ∧ z ≤ 1000000000 := fun u hu => by
    unfold ck at hu
    split at hu
    · cases hu
    · cases hu; omega
  unfold arO at h
  split at h
  · exact k _ h
  · split at h
    · exact k _ h
    · split at h
      · exact k _ h
      · split at h
        · split at h
          · cases h
          · exact k _ h
        · split at h
          · cases h
          · exact k _ h
theorem X_op (B : MB h tx kc kw nc nw sz) {md m1 dep a o : Nat} {cd1 cd2 : List (Nat × Nat)} {D1 D2 : DN} (ho : 9 ≤ o ∧ o ≤ 13) (hm : 7 ≤ md) (hm1 : 7 ≤ m1) (hh : isHd md = false) (h1 : isHd m1 = true) (hd : dep ≤ 8) (ht1 : tbM md dep + 1 ≤ tbM m1 dep) (X1 : XQ h d tx kc kw sz w m1 dep a cd1 D1) (X2 : XQ h d tx kc kw sz w md dep (a + cd1.length + 1) cd2 D2) : XQ h d tx kc kw sz w md dep a (cd1 ++ (o, 0) :: cd2) (fun w x => ((D1 w 0).bind fun y => arO o x y).bind (D2 w)) := by
  intro P fr g t sk x F hc hz hs ht hx k0 k1
  rw [List.length_append, List.length_cons] at hz k1
  have hsz := B.2.2.2.2.2.2.1
  have hnc := B.2.2.2.2.2.2.2.1
  obtain ⟨c1, c2⟩ := cd_l hc
  obtain ⟨e, v⟩ := hx hh
  have bx := vbM_b v
  have tle : tbM md dep ≤ 19 := by unfold tbM; split <;> (try split) <;> (try split) <;> omega
  rw [hh, if_neg (by decide)]
  have q1 := X1 P fr g (t + 1) sk 0 F c1 (by omega) hs (by omega) (fun y => absurd h1 (by rw [y]; decide)) (fun g1 F1 e1 => k0 g1 F1 (by dsimp only; rw [e1]; rfl)) (fun g1 y1 sk1 F1 e1 vy1 pj1 py1 hs1 => ?_)
  · rw [if_pos h1] at q1; exact q1
  · have B1 := B.fr F1
    have ex : gI g1 42 t = Int32.ofInt x := (pj1 t (by omega)).trans e
    have by1 := vbM_b vy1
    have bo : binO o x y1 = arO o x y1 := by unfold binO; rw [if_neg (by omega)]
    have hc0 := c2 0 _ rfl
    rw [Nat.add_zero] at hc0
    refine m_bin B1 (x := x) (y := y1) (v := 0) (by omega) hs1 (by decide) (by omega) (by omega) ((F1.I kc _ (beq_eq_false_iff_ne.mpr B.2.2.2.2.2.2.2.2.2.2.2.1)).trans hc0) (by rw [ex, i32_of bx]) (by rw [py1, i32_of by1]) bx by1 (fun z => ?_) (fun z hz1 z1 z2 => ?_)
    · rw [bo] at z
      exact k0 g1 F1 (by dsimp only; rw [e1, Option.bind_some, z]; rfl)
    · rw [bo] at hz1
      have F2 : Fr mX h (sI g1 42 t (Int32.ofInt z)) := F1.sI rfl
      have vz : vbM md z := by unfold vbM; rw [if_neg (by omega)]; exact ⟨z1, z2⟩
      have q2 := X2 P fr (sI g1 42 t (Int32.ofInt z)) t sk1 z F2 (fun n q hq => by
        have := c2 (n + 1) q (by rw [List.getElem?_cons_succ]; exact hq)
        rw [show a + cd1.length + (n + 1) = a + cd1.length + 1 + n by omega] at this; exact this) (by omega) (by omega) ht (fun _ => ⟨gI_hit _ _ _ _, vz⟩) (fun g2 F2 e2 => k0 g2 F2 (by dsimp only; rw [e1, Option.bind_some, hz1]; exact e2)) (fun g2 y2 sk2 F2 e2 vy2 pj2 py2 hs2 => by
        have q3 := k1 g2 y2 sk2 F2 (by dsimp only; rw [e1, Option.bind_some, hz1]; exact e2) vy2 (fun j hj => (pj2 j hj).trans ((gI_off _ _ _ (by omega)).trans (pj1 j (by omega)))) py2 (by omega)
        rw [show a + (cd1.length + (cd2.length + 1)) = a + cd1.length + 1 + cd2.length by omega] at q3; exact q3)
      rw [hh, if_neg (by decide)] at q2
      exact q2
theorem cmO_01 (o : Nat) (x y : Int) : cmO o x y = 0 ∨ cmO o x y = 1 := by
  have b : ∀ t : Bool, bZ t = 0 ∨ bZ t = 1 := fun t => by cases t; exact Or.inl rfl; exact Or.inr rfl
  unfold cmO
  split
  · exact b _
  · split
    · exact b _
    · exact b _
theorem X_cmp (B : MB h tx kc kw nc nw sz) {dep a o : Nat} {cd1 cd2 : List (Nat × Nat)} {D1 D2 : DN} (ho : 6 ≤ o ∧ o ≤ 8) (hd : dep ≤ 8) (X1 : XQ h d tx kc kw sz w 7 dep a cd1 D1) (X2 : XQ h d tx kc kw sz w 7 dep (a + cd1.length) cd2 D2) : XQ h d tx kc kw sz w 6 dep a (cd1 ++ (cd2 ++ [(o, 0)])) (fun w x => (D1 w x).bind fun y => (D2 w 0).map fun z => cmO o y z) := by
  intro P fr g t sk x F hc hz hs ht hx k0 k1
  rw [List.length_append, List.length_append, List.length_singleton] at hz k1
  have hsz := B.2.2.2.2.2.2.1
  have hnc := B.2.2.2.2.2.2.2.1
  obtain ⟨c1, c2⟩ := cd_l hc
  obtain ⟨c2, c3⟩ := cd_l c2
  have ht : t ≤ 2 * dep := ht
  have q1 := X1 P fr g t sk x F c1 (by omega) hs (show t ≤ 2 * dep + 1 by omega) (fun y => nomatch y) (fun g1 F1 e1 => k0 g1 F1 (by dsimp only; rw [e1]; rfl)) (fun g1 y1 sk1 F1 e1 vy1 pj1 py1 hs1 => ?_)
  · exact q1
  · have q2 := X2 P fr g1 (t + 1) sk1 0 F1 c2 (by omega) hs1 (show t + 1 ≤ 2 * dep + 1 by omega) (fun y => nomatch y) (fun g2 F2 e2 => k0 g2 F2 (by dsimp only; rw [e1, Option.bind_some, e2]; rfl)) (fun g2 y2 sk2 F2 e2 vy2 pj2 py2 hs2 => ?_)
    · exact q2
    · have B2 := B.fr F2
      have ex : gI g2 42 t = Int32.ofInt y1 := (pj2 t (by omega)).trans py1
      have bx := vbM_b vy1
      have by1 := vbM_b vy2
      have bo : binO o y1 y2 = some (cmO o y1 y2) := by unfold binO; rw [if_pos (by omega)]
      have hc0 := c3 0 _ rfl
      rw [Nat.add_zero] at hc0
      refine m_bin B2 (x := y1) (y := y2) (v := 0) (by omega) hs2 (by decide) (by omega) (by omega) ((F2.I kc _ (beq_eq_false_iff_ne.mpr B.2.2.2.2.2.2.2.2.2.2.2.1)).trans hc0) (by rw [ex, i32_of bx]) (by rw [py2, i32_of by1]) bx by1 (fun z => by rw [bo] at z; cases z) (fun z hz1 z1 z2 => ?_)
      rw [bo] at hz1
      have q3 := k1 (sI g2 42 t (Int32.ofInt z)) z sk2 (F2.sI rfl) (by dsimp only; rw [e1, Option.bind_some, e2]; exact hz1) (by cases hz1; exact cmO_01 o y1 y2) (fun j hj => (gI_off _ _ _ (by omega)).trans ((pj2 j (by omega)).trans (pj1 j hj))) (gI_hit _ _ _ _) (by omega)
      rw [show a + (cd1.length + (cd2.length + 1)) = a + cd1.length + cd2.length + 1 by omega] at q3
      exact q3
theorem X_not (B : MB h tx kc kw nc nw sz) {dep a : Nat} {cd : List (Nat × Nat)} {D : DN} (hd : dep ≤ 8) (X1 : XQ h d tx kc kw sz w 6 dep a cd D) : XQ h d tx kc kw sz w 5 dep a (cd ++ [(5, 0)]) (fun w x => (D w x).map fun y => 1 - y) := by
  intro P fr g t sk x F hc hz hs ht hx k0 k1
  rw [List.length_append, List.length_singleton] at hz k1
  obtain ⟨c1, c2⟩ := cd_l hc
  have ht : t ≤ 2 * dep := ht
  have q1 := X1 P fr g t sk x F c1 (by omega) hs ht (fun y => nomatch y) (fun g1 F1 e1 => k0 g1 F1 (by dsimp only; rw [e1]; rfl)) (fun g1 y1 sk1 F1 e1 vy1 pj1 py1 hs1 => ?_)
  · exact q1
  · have hc0 := c2 0 _ rfl
    rw [Nat.add_zero] at hc0
    have v1 : y1 = 0 ∨ y1 = 1 := vy1
    have e2 : nI 1 - gI g1 42 t = Int32.ofInt (1 - y1) := by rw [py1]; rcases v1 with rfl | rfl <;> decide
    have q2 := k1 (sI g1 42 t (Int32.ofInt (1 - y1))) (1 - y1) sk1 (F1.sI rfl) (by dsimp only; rw [e1]; rfl) (show 1 - y1 = 0 ∨ 1 - y1 = 1 by omega) (fun j hj => (gI_off _ _ _ (by omega)).trans (pj1 j hj)) (gI_hit _ _ _ _) (by omega)
    rw [← e2, ← Nat.add_assoc] at q2
    exact m_not (B.fr F1) (v := 0) (by omega) hs1 (by decide) (by omega) ((F1.I kc _ (beq_eq_false_iff_ne.mpr B.2.2.2.2.2.2.2.2.2.2.2.1)).trans hc0) q2
end Xe
