/-- what placing touches: the judge's cells, way, wayHolder -/
def plX (k j : Nat) : Bool := jX k j || ((k == 53 && decide (j < 6)) || (k == 54 && decide (j < 8)))
theorem plX_j {h g : AH} (F : Fr jX h g) : Fr plX h g := F.weak (fun k j hx => by unfold plX at hx; rw [Bool.or_eq_false_iff] at hx; exact hx.1)
def wyX (k j : Nat) : Bool := (k == 53 && decide (j < 6)) || (k == 54 && decide (j < 8))
theorem plX_w {h g : AH} (F : Fr wyX h g) : Fr plX h g := F.weak (fun k j hx => by unfold plX at hx; rw [Bool.or_eq_false_iff] at hx; exact hx.2)
theorem wyX_n {k j : Nat} (h : k ≠ 53 ∧ k ≠ 54) : wyX k j = false := by
  unfold wyX
  rw [beq_eq_false_iff_ne.mpr h.1, beq_eq_false_iff_ne.mpr h.2]; rfl
/-- the class amid the ways: the way stands in 53 and 54 -/
def PB (g : AH) (K : Nat → Int32) (fl : Option (List CLE)) (np nt nd : Nat) (W : Nat → Int32) : Prop := ShOK g ∧ RfOK g ∧ JS g 1 K fl ∧ HM g 1 K np nt ∧ HD g 1 K nd ∧ LINE g K nt ∧ VH W np nt ∧ (∀ q, q < 6 → gI g 53 q = W q) ∧ (∀ t, t < 8 → gI g 54 t = hOf W (nI t) np)
theorem PB.fr {X : Nat → Nat → Bool} {h g : AH} {K : Nat → Int32} {fl : Option (List CLE)} {np nt nd : Nat} {W W' : Nat → Int32} (P : PB h K fl np nt nd W) (F : Fr X h g) (J : JS g 1 K fl) (hx : xok X = true) (h33 : ∀ k j, k < 33 → X k j = false) (h47 : ∀ j, X 47 j = false) (V : VH W' np nt) (e53 : ∀ q, q < 6 → gI g 53 q = W' q) (e54 : ∀ t, t < 8 → gI g 54 t = hOf W' (nI t) np) : PB g K fl np nt nd W' := by
  obtain ⟨S, R, -, M, D, L, -⟩ := P
  exact ⟨F.S S, F.R R hx, J, M.fr F (fun o j ho _ _ => h33 _ _ (by omega)) (fun o j ho e => by rw [h33 _ _ (by omega)] at e; cases e), ⟨D.1.fr F (fun j => h33 _ _ (by decide)) (h33 _ _ (by decide)), D.2.1, (F.I _ _ (h33 _ _ (by decide))).trans D.2.2.1, fun e he => (F.I _ _ (h33 _ _ (by decide))).trans (D.2.2.2 e he)⟩, fun t ht => (F.I 47 _ (h47 _)).trans (L t ht), V, e53, e54⟩
theorem PB.fj {h g : AH} {K : Nat → Int32} {fl : Option (List CLE)} {np nt nd : Nat} {W : Nat → Int32} (P : PB h K fl np nt nd W) (F : Fr jX h g) (J : JS g 1 K fl) : PB g K fl np nt nd W := P.fr F J (by decide) (fun k j hk => jX_lt (by omega)) (fun j => rfl) P.2.2.2.2.2.2.1 (fun q hq => (F.I 53 q rfl).trans (P.2.2.2.2.2.2.2.1 q hq)) (fun t ht => (F.I 54 t rfl).trans (P.2.2.2.2.2.2.2.2 t ht))
theorem JS.fw {h g : AH} {b : Nat} {K : Nat → Int32} {fl : Option (List CLE)} (J : JS h b K fl) (F : Fr wyX h g) : JS g b K fl := J.fg F (fun j => rfl) (fun j => rfl) (fun j => rfl) (fun k j hk => wyX_n (by omega)) (fun k j o => wyX_n ⟨okT_ne o (by decide) (by decide) (by decide) (by decide), okT_ne o (by decide) (by decide) (by decide) (by decide)⟩)
section Cpl
variable (d : Nat) {K : Nat → Int32} {fl : Option (List CLE)} {np nt nd : Nat}
theorem t_mayHave {g : AH} {W : Nat → Int32} (P : PB g K fl np nt nd W) (B : KB K) {at9 : Bool} (h9 : gI g 52 9 = b2i at9) {p t : Nat} (hp : p < 6) (ht : t < 8) : Rp (d + 3) M_X6_mayHave 0 [some (.ref 52), some (.int (nI p)), some (.int (nI t))] [] g (fun r h' => Fr jX g h' ∧ JS h' 1 K fl ∧ r = some (.int (b2i (at9 || !oBr K fl p t)))) := by
  obtain ⟨S, R, J, -⟩ := P
  have br := t_isBarredJ d S R J B hp ht
  cases at9
  · skip
    refine Rp.aload_n dX6_mayHave_0 rfl rfl ?_
    refine Rp.getI dX6_mayHave_1 fk_X6_49 rfl (S _ _ rfl) ?_
    first | rw [h9] | skip
    first | ((with_reducible show Rp _ _ _ _ (.int (b2i _) :: _) _ _); refine Rp.if_neB (tgt := 19) dX6_mayHave_4 (by decide) (fun c4 => ?_) (fun c4 => ?_)) | ((with_reducible show Rp _ _ _ _ (.int (nI _) :: _) _ _); refine Rp.if_neN (tgt := 19) dX6_mayHave_4 (by decide) (by omega) (fun c4 => ?_) (fun c4 => ?_)) | refine Rp.if_ne (tgt := 19) dX6_mayHave_4 (by decide) (fun c4 => ?_) (fun c4 => ?_)
    · cases c4
    refine Rp.aload_n dX6_mayHave_7 rfl rfl ?_
    refine Rp.getR dX6_mayHave_8 fk_X6_27 rfl (S _ _ rfl) (R _ _ _ rfl) ?_
    refine Rp.iload_n dX6_mayHave_11 rfl ?_
    refine Rp.iload_n dX6_mayHave_12 rfl ?_
    refine Rp.callV2 M_X3_isBarred (ci := 3) dX6_mayHave_13 mo_X3_isBarred lk_X6_112 (by decide) rfl rfl (S _ _ rfl) (Nat.le_of_ble_eq_true rfl) (Nat.le_of_ble_eq_true rfl) (br) (fun v1 h1 p1 x1 => ?_)
    obtain ⟨F1, J1, rfl⟩ := p1
    try dsimp only [Option.toList, List.cons_append, List.nil_append, List.append]
    skip
    cases c : oBr K fl p t
    · skip
      first | ((with_reducible show Rp _ _ _ _ (.int (b2i _) :: _) _ _); refine Rp.if_neB (tgt := 23) dX6_mayHave_16 (by decide) (fun c16 => ?_) (fun c16 => ?_)) | ((with_reducible show Rp _ _ _ _ (.int (nI _) :: _) _ _); refine Rp.if_neN (tgt := 23) dX6_mayHave_16 (by decide) (by omega) (fun c16 => ?_) (fun c16 => ?_)) | refine Rp.if_ne (tgt := 23) dX6_mayHave_16 (by decide) (fun c16 => ?_) (fun c16 => ?_)
      · skip
        cases c16
      · skip
        refine Rp.iconst (nI 1) dX6_mayHave_19 (by decide) ?_
        refine Rp.goto (tgt := 24) dX6_mayHave_20 (by decide) ?_
        refine Rp.zreturn dX6_mayHave_24 rfl (by first | exact Or.inl rfl | exact Or.inr rfl | assumption) ?_
        exact ⟨F1, J1, rfl⟩
    · skip
      first | ((with_reducible show Rp _ _ _ _ (.int (b2i _) :: _) _ _); refine Rp.if_neB (tgt := 23) dX6_mayHave_16 (by decide) (fun c16 => ?_) (fun c16 => ?_)) | ((with_reducible show Rp _ _ _ _ (.int (nI _) :: _) _ _); refine Rp.if_neN (tgt := 23) dX6_mayHave_16 (by decide) (by omega) (fun c16 => ?_) (fun c16 => ?_)) | refine Rp.if_ne (tgt := 23) dX6_mayHave_16 (by decide) (fun c16 => ?_) (fun c16 => ?_)
      · skip
        refine Rp.iconst (nI 0) dX6_mayHave_23 (by decide) ?_
        refine Rp.zreturn dX6_mayHave_24 rfl (by first | exact Or.inl rfl | exact Or.inr rfl | assumption) ?_
        exact ⟨F1, J1, rfl⟩
      · skip
        cases c16
  · skip
    refine Rp.aload_n dX6_mayHave_0 rfl rfl ?_
    refine Rp.getI dX6_mayHave_1 fk_X6_49 rfl (S _ _ rfl) ?_
    first | rw [h9] | skip
    first | ((with_reducible show Rp _ _ _ _ (.int (b2i _) :: _) _ _); refine Rp.if_neB (tgt := 19) dX6_mayHave_4 (by decide) (fun c4 => ?_) (fun c4 => ?_)) | ((with_reducible show Rp _ _ _ _ (.int (nI _) :: _) _ _); refine Rp.if_neN (tgt := 19) dX6_mayHave_4 (by decide) (by omega) (fun c4 => ?_) (fun c4 => ?_)) | refine Rp.if_ne (tgt := 19) dX6_mayHave_4 (by decide) (fun c4 => ?_) (fun c4 => ?_)
    · skip
      refine Rp.iconst (nI 1) dX6_mayHave_19 (by decide) ?_
      refine Rp.goto (tgt := 24) dX6_mayHave_20 (by decide) ?_
      refine Rp.zreturn dX6_mayHave_24 rfl (by first | exact Or.inl rfl | exact Or.inr rfl | assumption) ?_
      exact ⟨Fr.rfl', J, rfl⟩
    · skip
      cases c4
/-- the way with one more, and back -/
theorem PB.put {g : AH} {W : Nat → Int32} (P : PB g K fl np nt nd W) {p t : Nat} (hp : p < np) (ht : t < nt) (hW : W p = -1) (hH : hOf W (nI t) np = -1) : PB (sI (sI g 53 p (nI t)) 54 t (nI p)) K fl np nt nd (upK W p (nI t)) := by
  have V := P.2.2.2.2.2.2.1
  have v1 := V.1
  have v2 := V.2.1
  have F : Fr wyX g (sI (sI g 53 p (nI t)) 54 t (nI p)) := (Fr.rfl'.sI (by unfold wyX; rw [decide_eq_true (show p < 6 by omega)]; rfl)).sI (by unfold wyX; rw [decide_eq_true (show t < 8 by omega)]; rfl)
  have VV := V.give hp ht hH
  refine P.fr F (P.2.2.1.fw F) (by decide) (fun k j hk => wyX_n (by omega)) (fun j => rfl) VV (fun q hq => ?_) (fun u hu => ?_)
  · rw [gI_ne _ _ _ _ (by decide), gI_at]
    unfold upK
    by_cases e : q = p
    · rw [if_pos e, if_pos e]
    · rw [if_neg e, if_neg e]; exact P.2.2.2.2.2.2.2.1 q hq
  · rw [gI_at]
    by_cases e : u = t
    · subst e
      rw [if_pos rfl]
      exact (hOf_one (p := p) (by unfold upK; rw [if_pos rfl]) np hp (fun q hq e => by
        unfold upK at e
        by_cases z : q = p
        · exact z
        · rw [if_neg z] at e
          exact absurd e (hOf_m1 np (by omega) hH q hq))).symm
    · rw [if_neg e, gI_ne _ _ _ _ (by decide), P.2.2.2.2.2.2.2.2 u hu]
      exact hOf_congr np (fun q hq => by
        unfold upK
        by_cases z : q = p
        · rw [if_pos z, z, hW]
          exact ⟨fun y => absurd y.symm (nI_m1 (by omega)), fun y => absurd (nI_inj (by omega) (by omega) y).symm e⟩
        · rw [if_neg z])
theorem upK_back {W : Nat → Int32} {p : Nat} {x : Int32} (hW : W p = -1) : upK (upK W p x) p (-1) = W := funext fun j => by
  unfold upK
  by_cases e : j = p
  · rw [if_pos e, e, hW]
  · rw [if_neg e, if_neg e]
/-- wayHolder given back; way stays until the next -/
theorem hOf_back {W : Nat → Int32} {p t : Nat} (hp : p < np) (h6 : np ≤ 6) (hH : hOf W (nI t) np = -1) (u : Nat) (hu : u < 8) (ht8 : t < 8) (hW : W p = -1) : (if u = t then (-1 : Int32) else hOf (upK W p (nI t)) (nI u) np) = hOf W (nI u) np := by
  by_cases e : u = t
  · rw [if_pos e, e, hH]
  · rw [if_neg e]
    exact hOf_congr np (fun q hq => by
      unfold upK
      by_cases z : q = p
      · rw [if_pos z, z, hW]
        exact ⟨fun y => absurd (nI_inj (by omega) (by omega) y).symm e, fun y => absurd y.symm (nI_m1 (by omega))⟩
      · rw [if_neg z])
end Cpl
