def PBx (g : AH) (K : Nat → Int32) (fl : Option (List CLE)) (np nt nd : Nat) (W : Nat → Int32) (p : Nat) : Prop := ShOK g ∧ RfOK g ∧ JS g 1 K fl ∧ HM g 1 K np nt ∧ HD g 1 K nd ∧ LINE g K nt ∧ VH W np nt ∧ (∀ q, q < 6 → q ≠ p → gI g 53 q = W q) ∧ (∀ t, t < 8 → gI g 54 t = hOf W (nI t) np)
section Cp2
variable {K : Nat → Int32} {fl : Option (List CLE)} {np nt nd : Nat}
theorem PBx.of {g : AH} {W : Nat → Int32} {p : Nat} (P : PB g K fl np nt nd W) : PBx g K fl np nt nd W p := ⟨P.1, P.2.1, P.2.2.1, P.2.2.2.1, P.2.2.2.2.1, P.2.2.2.2.2.1, P.2.2.2.2.2.2.1, fun q hq _ => P.2.2.2.2.2.2.2.1 q hq, P.2.2.2.2.2.2.2.2⟩
/-- the rest of PBx over a step that touches way and wayHolder alone -/
theorem PBx.fr {h g : AH} {W W' : Nat → Int32} {p : Nat} (P : PBx h K fl np nt nd W p) (F : Fr wyX h g) : ShOK g ∧ RfOK g ∧ JS g 1 K fl ∧ HM g 1 K np nt ∧ HD g 1 K nd ∧ LINE g K nt := by
  obtain ⟨S, R, J, M, D, L, -⟩ := P
  have h33 : ∀ k j, k < 33 → wyX k j = false := fun k j hk => wyX_n (by omega)
  exact ⟨F.S S, F.R R (by decide), J.fw F, M.fr F (fun o j ho _ _ => h33 _ _ (by omega)) (fun o j ho e => by rw [h33 _ _ (by omega)] at e; cases e), ⟨D.1.fr F (fun j => h33 _ _ (by decide)) (h33 _ _ (by decide)), D.2.1, (F.I _ _ (h33 _ _ (by decide))).trans D.2.2.1, fun e he => (F.I _ _ (h33 _ _ (by decide))).trans (D.2.2.2 e he)⟩, fun t ht => (F.I 47 _ rfl).trans (L t ht)⟩
theorem PBx.fj {h g : AH} {W : Nat → Int32} {p : Nat} (P : PBx h K fl np nt nd W p) (F : Fr jX h g) (J : JS g 1 K fl) : PBx g K fl np nt nd W p := by
  obtain ⟨S, R, -, M, D, L, V, e53, e54⟩ := P
  have h33 : ∀ k j, k < 33 → jX k j = false := fun k j hk => jX_lt (by omega)
  exact ⟨F.S S, F.R R (by decide), J, M.fj (by decide) F, ⟨D.1.fr F (fun j => h33 _ _ (by decide)) (h33 _ _ (by decide)), D.2.1, (F.I _ _ (h33 _ _ (by decide))).trans D.2.2.1, fun e he => (F.I _ _ (h33 _ _ (by decide))).trans (D.2.2.2 e he)⟩, fun t ht => (F.I 47 _ rfl).trans (L t ht), V, fun q hq hn => (F.I 53 q rfl).trans (e53 q hq hn), fun t ht => (F.I 54 t rfl).trans (e54 t ht)⟩
theorem PBx.put {g : AH} {W : Nat → Int32} {p t : Nat} (P : PBx g K fl np nt nd W p) (hp : p < np) (ht : t < nt) (hW : W p = -1) (hH : hOf W (nI t) np = -1) : PB (sI (sI g 53 p (nI t)) 54 t (nI p)) K fl np nt nd (upK W p (nI t)) := by
  have V := P.2.2.2.2.2.2.1
  have v1 := V.1
  have v2 := V.2.1
  have F : Fr wyX g (sI (sI g 53 p (nI t)) 54 t (nI p)) := (Fr.rfl'.sI (by unfold wyX; rw [decide_eq_true (show p < 6 by omega)]; rfl)).sI (by unfold wyX; rw [decide_eq_true (show t < 8 by omega)]; rfl)
  obtain ⟨z1, z2, z3, z4, z5, z6⟩ := P.fr (W' := W) F
  refine ⟨z1, z2, z3, z4, z5, z6, V.give hp ht hH, fun q hq => ?_, fun u hu => ?_⟩
  · rw [gI_ne _ _ _ _ (by decide), gI_at]
    unfold upK
    by_cases e : q = p
    · rw [if_pos e, if_pos e]
    · rw [if_neg e, if_neg e]; exact P.2.2.2.2.2.2.2.1 q hq e
  · rw [gI_at]
    by_cases e : u = t
    · subst e
      rw [if_pos rfl]
      exact (hOf_one (p := p) (by unfold upK; rw [if_pos rfl]) np hp (fun q hq e => by
        unfold upK at e
        by_cases z : q = p
        · exact z
        · rw [if_neg z] at e
          exact absurd e (hOf_m1 np (by omega) hH q hq))).symm
    · rw [if_neg e, gI_ne _ _ _ _ (by decide), P.2.2.2.2.2.2.2.2 u hu]
      exact hOf_congr np (fun q hq => by
        unfold upK
        by_cases z : q = p
        · rw [if_pos z, z, hW]
          exact ⟨fun y => absurd y.symm (nI_m1 (by omega)), fun y => absurd (nI_inj (by omega) (by omega) y).symm e⟩
        · rw [if_neg z])
theorem PB.unput {g : AH} {W : Nat → Int32} {p t : Nat} (P : PB g K fl np nt nd (upK W p (nI t))) (V : VH W np nt) (hp : p < np) (ht : t < nt) (hW : W p = -1) (hH : hOf W (nI t) np = -1) : PBx (sI g 54 t (-1)) K fl np nt nd W p := by
  have v1 := V.1
  have v2 := V.2.1
  have F : Fr wyX g (sI g 54 t (-1)) := Fr.rfl'.sI (by unfold wyX; rw [decide_eq_true (show t < 8 by omega)]; rfl)
  obtain ⟨z1, z2, z3, z4, z5, z6⟩ := (PBx.of (p := p) P).fr (W' := W) F
  refine ⟨z1, z2, z3, z4, z5, z6, V, fun q hq hn => ?_, fun u hu => ?_⟩
  · rw [gI_ne _ _ _ _ (by decide), P.2.2.2.2.2.2.2.1 q hq]
    unfold upK; rw [if_neg hn]
  · rw [gI_at, P.2.2.2.2.2.2.2.2 u hu]
    exact hOf_back hp v1 hH u hu (by omega) hW
theorem PBx.clear {g : AH} {W : Nat → Int32} {p : Nat} (P : PBx g K fl np nt nd W p) (hp : p < np) (hW : W p = -1) : PB (sI g 53 p (-1)) K fl np nt nd W := by
  have V := P.2.2.2.2.2.2.1
  have v1 := V.1
  have F : Fr wyX g (sI g 53 p (-1)) := Fr.rfl'.sI (by unfold wyX; rw [decide_eq_true (show p < 6 by omega)]; rfl)
  obtain ⟨z1, z2, z3, z4, z5, z6⟩ := P.fr (W' := W) F
  refine ⟨z1, z2, z3, z4, z5, z6, V, fun q hq => ?_, fun u hu => ?_⟩
  · rw [gI_at]
    by_cases e : q = p
    · rw [if_pos e, e, hW]
    · rw [if_neg e]; exact P.2.2.2.2.2.2.2.1 q hq e
  · rw [gI_ne _ _ _ _ (by decide)]; exact P.2.2.2.2.2.2.2.2 u hu
end Cp2
section Cp3
variable (d : Nat) {K : Nat → Int32} {fl : Option (List CLE)} {np nt nd : Nat} {σ : Type} {RS : AH → σ → Prop} {Z : Nat → Nat → Bool} {f : (Nat → Int32) → σ → σ} {at9 : Bool}
/-- what a piece of the search leaves -/
def LfQ (K : Nat → Int32) (fl : Option (List CLE)) (np nt nd : Nat) (RS : AH → σ → Prop) (Z : Nat → Nat → Bool) (at9 : Bool) (g : AH) (W : Nat → Int32) (s : σ) (r : Option Value) (h' : AH) : Prop := r = none ∧ PB h' K fl np nt nd W ∧ gI h' 52 9 = b2i at9 ∧ RS h' s ∧ Fr Z g h'
def okC9 (K : Nat → Int32) (fl : Option (List CLE)) (at9 : Bool) (p t : Nat) : Bool := at9 || !oBr K fl p t
theorem t_mayHaveX {g : AH} {W : Nat → Int32} {x : Nat} (P : PBx g K fl np nt nd W x) (B : KB K) (h9 : gI g 52 9 = b2i at9) {p t : Nat} (hp : p < 6) (ht : t < 8) : Rp (d + 3) M_X6_mayHave 0 [some (.ref 52), some (.int (nI p)), some (.int (nI t))] [] g (fun r h' => Fr jX g h' ∧ JS h' 1 K fl ∧ r = some (.int (b2i (at9 || !oBr K fl p t)))) := by
  obtain ⟨S, R, J, -⟩ := P
  have br := t_isBarredJ d S R J B hp ht
  cases at9
  · skip
    refine Rp.aload_n dX6_mayHave_0 rfl rfl ?_
    refine Rp.getI dX6_mayHave_1 fk_X6_49 rfl (S _ _ rfl) ?_
    first | rw [h9] | skip
    first | ((with_reducible show Rp _ _ _ _ (.int (b2i _) :: _) _ _); refine Rp.if_neB (tgt := 19) dX6_mayHave_4 (by decide) (fun c4 => ?_) (fun c4 => ?_)) | ((with_reducible show Rp _ _ _ _ (.int (nI _) :: _) _ _); refine Rp.if_neN (tgt := 19) dX6_mayHave_4 (by decide) (by omega) (fun c4 => ?_) (fun c4 => ?_)) | refine Rp.if_ne (tgt := 19) dX6_mayHave_4 (by decide) (fun c4 => ?_) (fun c4 => ?_)
    · cases c4
    refine Rp.aload_n dX6_mayHave_7 rfl rfl ?_
    refine Rp.getR dX6_mayHave_8 fk_X6_27 rfl (S _ _ rfl) (R _ _ _ rfl) ?_
    refine Rp.iload_n dX6_mayHave_11 rfl ?_
    refine Rp.iload_n dX6_mayHave_12 rfl ?_
    refine Rp.callV2 M_X3_isBarred (ci := 3) dX6_mayHave_13 mo_X3_isBarred lk_X6_112 (by decide) rfl rfl (S _ _ rfl) (Nat.le_of_ble_eq_true rfl) (Nat.le_of_ble_eq_true rfl) (br) (fun v1 h1 p1 x1 => ?_)
    obtain ⟨F1, J1, rfl⟩ := p1
    try dsimp only [Option.toList, List.cons_append, List.nil_append, List.append]
    skip
    cases c : oBr K fl p t
    · skip
      first | ((with_reducible show Rp _ _ _ _ (.int (b2i _) :: _) _ _); refine Rp.if_neB (tgt := 23) dX6_mayHave_16 (by decide) (fun c16 => ?_) (fun c16 => ?_)) | ((with_reducible show Rp _ _ _ _ (.int (nI _) :: _) _ _); refine Rp.if_neN (tgt := 23) dX6_mayHave_16 (by decide) (by omega) (fun c16 => ?_) (fun c16 => ?_)) | refine Rp.if_ne (tgt := 23) dX6_mayHave_16 (by decide) (fun c16 => ?_) (fun c16 => ?_)
      · skip
        cases c16
      · skip
        refine Rp.iconst (nI 1) dX6_mayHave_19 (by decide) ?_
        refine Rp.goto (tgt := 24) dX6_mayHave_20 (by decide) ?_
        refine Rp.zreturn dX6_mayHave_24 rfl (by first | exact Or.inl rfl | exact Or.inr rfl | assumption) ?_
        exact ⟨F1, J1, rfl⟩
    · skip
      first | ((with_reducible show Rp _ _ _ _ (.int (b2i _) :: _) _ _); refine Rp.if_neB (tgt := 23) dX6_mayHave_16 (by decide) (fun c16 => ?_) (fun c16 => ?_)) | ((with_reducible show Rp _ _ _ _ (.int (nI _) :: _) _ _); refine Rp.if_neN (tgt := 23) dX6_mayHave_16 (by decide) (by omega) (fun c16 => ?_) (fun c16 => ?_)) | refine Rp.if_ne (tgt := 23) dX6_mayHave_16 (by decide) (fun c16 => ?_) (fun c16 => ?_)
      · skip
        refine Rp.iconst (nI 0) dX6_mayHave_23 (by decide) ?_
        refine Rp.zreturn dX6_mayHave_24 rfl (by first | exact Or.inl rfl | exact Or.inr rfl | assumption) ?_
        exact ⟨F1, J1, rfl⟩
      · skip
        cases c16
  · skip
    refine Rp.aload_n dX6_mayHave_0 rfl rfl ?_
    refine Rp.getI dX6_mayHave_1 fk_X6_49 rfl (S _ _ rfl) ?_
    first | rw [h9] | skip
    first | ((with_reducible show Rp _ _ _ _ (.int (b2i _) :: _) _ _); refine Rp.if_neB (tgt := 19) dX6_mayHave_4 (by decide) (fun c4 => ?_) (fun c4 => ?_)) | ((with_reducible show Rp _ _ _ _ (.int (nI _) :: _) _ _); refine Rp.if_neN (tgt := 19) dX6_mayHave_4 (by decide) (by omega) (fun c4 => ?_) (fun c4 => ?_)) | refine Rp.if_ne (tgt := 19) dX6_mayHave_4 (by decide) (fun c4 => ?_) (fun c4 => ?_)
    · skip
      refine Rp.iconst (nI 1) dX6_mayHave_19 (by decide) ?_
      refine Rp.goto (tgt := 24) dX6_mayHave_20 (by decide) ?_
      refine Rp.zreturn dX6_mayHave_24 rfl (by first | exact Or.inl rfl | exact Or.inr rfl | assumption) ?_
      exact ⟨Fr.rfl', J, rfl⟩
    · skip
      cases c4
theorem place55 (hZ : ∀ k j, Z k j = false → plX k j = false) (hRS : ∀ g g' s, RS g s → Fr plX g g' → RS g' s) (B : KB K) {m p : Nat} {W : Nat → Int32} {g0 : AH} (hp : p < np) (hW : W p = -1) (V : VH W np nt) {ps : List Nat}
    (rec : ∀ t g s, t < nt → hOf W (nI t) np = -1 → PB g K fl np nt nd (upK W p (nI t)) → gI g 52 9 = b2i at9 → RS g s → Rp (d + 5 + m) M_X6_place 0 [some (.ref 52), some (.int (nI (p + 1))), none, none] [] g (LfQ K fl np nt nd RS Z at9 g (upK W p (nI t)) (twF np (tkL K np nt 0) (okC9 K fl at9) f ps (upK W p (nI t)) s))) :
    ∀ (mt t : Nat) (s : σ) (g : AH), t + mt = nt → PBx g K fl np nt nd W p → gI g 52 9 = b2i at9 → RS g s → Fr Z g0 g → Rp (d + 5 + (m + 1)) M_X6_place 55 [some (.ref 52), some (.int (nI p)), some (.ref 1), some (.int (nI t))] [] g (LfQ K fl np nt nd RS Z at9 g0 W ((tkL K np mt t).foldl (fun s t => if hOf W (nI t) np ≠ -1 ∨ okC9 K fl at9 p t = false then s else twF np (tkL K np nt 0) (okC9 K fl at9) f ps (upK W p (nI t)) s) s)) := by
  have v1 := V.1
  have v2 := V.2.1
  intro mt
  induction mt with
  | zero =>
    intro t s g hm P h9 hS F
    have e : t = nt := by omega
    subst e
    obtain ⟨S, R, J, M, D, L, -⟩ := id P
    have m4 : gI g 1 5 = nI t := M.2.2.2.1
    have F1 : Fr wyX g (sI g 53 p (-1)) := Fr.rfl'.sI (by unfold wyX; rw [decide_eq_true (show p < 6 by omega)]; rfl)
    have k1 : LfQ K fl np t nd RS Z at9 g0 W s none (sI g 53 p (-1)) := ⟨rfl, P.clear hp hW, (F1.I 52 9 rfl).trans h9, hRS _ _ _ hS (plX_w F1), F.trans ((plX_w F1).weak hZ)⟩
    refine Rp.iload_n dX6_place_55 rfl ?_
    refine Rp.aload_n dX6_place_56 rfl rfl ?_
    refine Rp.getI dX6_place_57 fk_X6_102 rfl (S _ _ rfl) ?_
    first | rw [m4] | skip
    first | ((with_reducible show Rp _ _ _ _ (.int (nI _) :: .int (nI _) :: _) _ _); refine Rp.icmp_geN (tgt := 126) dX6_place_60 (by decide) (by omega) (fun c60 => ?_) (fun c60 => ?_)) | refine Rp.icmp_ge (tgt := 126) dX6_place_60 (by decide) (fun c60 => ?_) (fun c60 => ?_)
    · skip
      refine Rp.aload_n dX6_place_126 rfl rfl ?_
      refine Rp.getR dX6_place_127 fk_X6_9 rfl (S _ _ rfl) (R _ _ _ rfl) ?_
      refine Rp.iload_n dX6_place_130 rfl ?_
      refine Rp.iconst (-1) dX6_place_131 (by decide) ?_
      first | ((with_reducible show Rp _ _ _ _ (_ :: .int (nI _) :: _) _ _); refine Rp.iastoreN dX6_place_132 (S _ _ rfl) (by omega) ?_) | refine Rp.iastore dX6_place_132 (S _ _ rfl) (by first | assumption | exact vpb (by decide)) ?_
      refine Rp.vreturn dX6_place_133 rfl ?_
      exact k1
    · skip
      first | (exfalso; omega) | exact absurd c60 (by decide) | exact absurd (by decide) c60
  | succ mt ih =>
    intro t s g hm P h9 hS F
    obtain ⟨S, R, J, M, D, L, -, e53, e54⟩ := id P
    have m4 : gI g 1 5 = nI nt := M.2.2.2.1
    have eh : gI g 8 t = hOf K (nI t) np := M.2.2.2.2.2 t (by omega)
    have ew : gI g 54 t = hOf W (nI t) np := e54 t (by omega)
    rw [tkL]
    by_cases c1 : hOf K (nI t) np = -1
    · rw [if_pos c1]
      have k1 := ih (t + 1) s g (by omega) P h9 hS F
      refine Rp.iload_n dX6_place_55 rfl ?_
      refine Rp.aload_n dX6_place_56 rfl rfl ?_
      refine Rp.getI dX6_place_57 fk_X6_102 rfl (S _ _ rfl) ?_
      first | rw [m4] | rw [eh] | skip
      first | ((with_reducible show Rp _ _ _ _ (.int (nI _) :: .int (nI _) :: _) _ _); refine Rp.icmp_geN (tgt := 126) dX6_place_60 (by decide) (by omega) (fun c60 => ?_) (fun c60 => ?_)) | refine Rp.icmp_ge (tgt := 126) dX6_place_60 (by decide) (fun c60 => ?_) (fun c60 => ?_)
      · skip
        first | (exfalso; omega) | exact absurd c60 (by decide) | exact absurd (by decide) c60
      · skip
        refine Rp.aload_n dX6_place_63 rfl rfl ?_
        refine Rp.getR dX6_place_64 fk_X6_105 rfl (S _ _ rfl) (R _ _ _ rfl) ?_
        refine Rp.iload_n dX6_place_67 rfl ?_
        first | ((with_reducible show Rp _ _ _ _ (.int (nI _) :: _) _ _); refine Rp.ialoadN dX6_place_68 (S _ _ rfl) (by omega) ?_) | refine Rp.iaload dX6_place_68 (S _ _ rfl) (by first | assumption | exact vpb (by decide)) ?_
        first | rw [m4] | rw [eh] | skip
        refine Rp.iconst (-1) dX6_place_69 (by decide) ?_
        first | ((with_reducible show Rp _ _ _ _ (.int (nI _) :: .int (nI _) :: _) _ _); refine Rp.icmp_eqN (tgt := 120) dX6_place_70 (by decide) (by omega) (fun c70 => ?_) (fun c70 => ?_)) | refine Rp.icmp_eq (tgt := 120) dX6_place_70 (by decide) (fun c70 => ?_) (fun c70 => ?_)
        · skip
          first | ((with_reducible show Rp _ _ _ (_ :: _ :: _ :: some (.int (nI _)) :: _) _ _ _); refine Rp.inc3N (c := 1) dX6_place_120 (by first | exact nl2_some rfl | exact nl2_none) (by decide) ?_) | refine Rp.inc3 _ dX6_place_120 rfl (by first | exact nl2_some rfl | exact nl2_none) (by decide) ?_
          refine Rp.goto (tgt := 55) dX6_place_123 (by decide) ?_
          exact k1
        · skip
          exact absurd c1 c70
    · rw [if_neg c1, List.foldl_cons]
      by_cases c2 : hOf W (nI t) np = -1
      · have mh := t_mayHaveX (d + 2 + m) P B h9 (p := p) (t := t) (by omega) (by omega)
        rw [show d + 2 + m + 3 = d + 5 + m by omega] at mh
        refine Rp.iload_n dX6_place_55 rfl ?_
        refine Rp.aload_n dX6_place_56 rfl rfl ?_
        refine Rp.getI dX6_place_57 fk_X6_102 rfl (S _ _ rfl) ?_
        first | rw [m4] | rw [eh] | rw [ew] | skip
        first | ((with_reducible show Rp _ _ _ _ (.int (nI _) :: .int (nI _) :: _) _ _); refine Rp.icmp_geN (tgt := 126) dX6_place_60 (by decide) (by omega) (fun c60 => ?_) (fun c60 => ?_)) | refine Rp.icmp_ge (tgt := 126) dX6_place_60 (by decide) (fun c60 => ?_) (fun c60 => ?_)
        · first | (exfalso; omega) | exact absurd c60 (by decide) | exact absurd (by decide) c60
        refine Rp.aload_n dX6_place_63 rfl rfl ?_
        refine Rp.getR dX6_place_64 fk_X6_105 rfl (S _ _ rfl) (R _ _ _ rfl) ?_
        refine Rp.iload_n dX6_place_67 rfl ?_
        first | ((with_reducible show Rp _ _ _ _ (.int (nI _) :: _) _ _); refine Rp.ialoadN dX6_place_68 (S _ _ rfl) (by omega) ?_) | refine Rp.iaload dX6_place_68 (S _ _ rfl) (by first | assumption | exact vpb (by decide)) ?_
        first | rw [m4] | rw [eh] | rw [ew] | skip
        refine Rp.iconst (-1) dX6_place_69 (by decide) ?_
        first | ((with_reducible show Rp _ _ _ _ (.int (nI _) :: .int (nI _) :: _) _ _); refine Rp.icmp_eqN (tgt := 120) dX6_place_70 (by decide) (by omega) (fun c70 => ?_) (fun c70 => ?_)) | refine Rp.icmp_eq (tgt := 120) dX6_place_70 (by decide) (fun c70 => ?_) (fun c70 => ?_)
        · exact absurd c70 c1
        refine Rp.aload_n dX6_place_73 rfl rfl ?_
        refine Rp.getR dX6_place_74 fk_X6_15 rfl (S _ _ rfl) (R _ _ _ rfl) ?_
        refine Rp.iload_n dX6_place_77 rfl ?_
        first | ((with_reducible show Rp _ _ _ _ (.int (nI _) :: _) _ _); refine Rp.ialoadN dX6_place_78 (S _ _ rfl) (by omega) ?_) | refine Rp.iaload dX6_place_78 (S _ _ rfl) (by first | assumption | exact vpb (by decide)) ?_
        first | rw [m4] | rw [eh] | rw [ew] | skip
        refine Rp.iconst (-1) dX6_place_79 (by decide) ?_
        first | ((with_reducible show Rp _ _ _ _ (.int (nI _) :: .int (nI _) :: _) _ _); refine Rp.icmp_neN (tgt := 120) dX6_place_80 (by decide) (by omega) (fun c80 => ?_) (fun c80 => ?_)) | refine Rp.icmp_ne (tgt := 120) dX6_place_80 (by decide) (fun c80 => ?_) (fun c80 => ?_)
        · exact absurd c2 c80
        refine Rp.aload_n dX6_place_83 rfl rfl ?_
        refine Rp.iload_n dX6_place_84 rfl ?_
        refine Rp.iload_n dX6_place_85 rfl ?_
        refine Rp.callV2 M_X6_mayHave (ci := 6) dX6_place_86 mo_X6_mayHave lk_X6_108 (by decide) rfl rfl (S _ _ rfl) (Nat.le_of_ble_eq_true rfl) (Nat.le_of_ble_eq_true rfl) (mh) (fun v1 h1 p1 x1 => ?_)
        obtain ⟨F1, J1, rfl⟩ := p1
        try dsimp only [Option.toList, List.cons_append, List.nil_append, List.append]
        skip
        have P1 := P.fj F1 J1
        have S1 := P1.1
        have R1 := P1.2.1
        have h91 : gI h1 52 9 = b2i at9 := (F1.I 52 9 rfl).trans h9
        have hS1 := hRS _ _ _ hS (plX_j F1)
        have FF := F.trans ((plX_j F1).weak hZ)
        cases c3 : okC9 K fl at9 p t
        · rw [if_pos (Or.inr rfl)]
          have k1 := ih (t + 1) s h1 (by omega) P1 h91 hS1 FF
          rw [show (at9 || !oBr K fl p t) = false from c3]
          first | ((with_reducible show Rp _ _ _ _ (.int (b2i _) :: _) _ _); refine Rp.if_eqB (tgt := 120) dX6_place_89 (by decide) (fun c89 => ?_) (fun c89 => ?_)) | ((with_reducible show Rp _ _ _ _ (.int (nI _) :: _) _ _); refine Rp.if_eqN (tgt := 120) dX6_place_89 (by decide) (by omega) (fun c89 => ?_) (fun c89 => ?_)) | refine Rp.if_eq (tgt := 120) dX6_place_89 (by decide) (fun c89 => ?_) (fun c89 => ?_)
          · skip
            first | ((with_reducible show Rp _ _ _ (_ :: _ :: _ :: some (.int (nI _)) :: _) _ _ _); refine Rp.inc3N (c := 1) dX6_place_120 (by first | exact nl2_some rfl | exact nl2_none) (by decide) ?_) | refine Rp.inc3 _ dX6_place_120 rfl (by first | exact nl2_some rfl | exact nl2_none) (by decide) ?_
            refine Rp.goto (tgt := 55) dX6_place_123 (by decide) ?_
            exact k1
          · skip
            cases c89
        · rw [if_neg (fun z => z.elim (fun z => z c2) (fun z => by cases z))]
          rw [show (at9 || !oBr K fl p t) = true from c3]
          have P2 := P1.put (t := t) hp (by omega) hW c2
          have Fw : Fr wyX h1 (sI (sI h1 53 p (nI t)) 54 t (nI p)) := (Fr.rfl'.sI (by unfold wyX; rw [decide_eq_true (show p < 6 by omega)]; rfl)).sI (by unfold wyX; rw [decide_eq_true (show t < 8 by omega)]; rfl)
          have rc := rec t (sI (sI h1 53 p (nI t)) 54 t (nI p)) s (by omega) c2 P2 ((Fw.I 52 9 rfl).trans h91) (hRS _ _ _ hS1 (plX_w Fw))
          have S2 := P2.1
          have Sa : ShOK (sI h1 53 p (nI t)) := S1
          have Ra : RfOK (sI h1 53 p (nI t)) := R1
          first | ((with_reducible show Rp _ _ _ _ (.int (b2i _) :: _) _ _); refine Rp.if_eqB (tgt := 120) dX6_place_89 (by decide) (fun c89 => ?_) (fun c89 => ?_)) | ((with_reducible show Rp _ _ _ _ (.int (nI _) :: _) _ _); refine Rp.if_eqN (tgt := 120) dX6_place_89 (by decide) (by omega) (fun c89 => ?_) (fun c89 => ?_)) | refine Rp.if_eq (tgt := 120) dX6_place_89 (by decide) (fun c89 => ?_) (fun c89 => ?_)
          · cases c89
          refine Rp.aload_n dX6_place_92 rfl rfl ?_
          refine Rp.getR dX6_place_93 fk_X6_9 rfl (S1 _ _ rfl) (R1 _ _ _ rfl) ?_
          refine Rp.iload_n dX6_place_96 rfl ?_
          refine Rp.iload_n dX6_place_97 rfl ?_
          first | ((with_reducible show Rp _ _ _ _ (_ :: .int (nI _) :: _) _ _); refine Rp.iastoreN dX6_place_98 (S1 _ _ rfl) (by omega) ?_) | refine Rp.iastore dX6_place_98 (S1 _ _ rfl) (by first | assumption | exact vpb (by decide)) ?_
          refine Rp.aload_n dX6_place_99 rfl rfl ?_
          refine Rp.getR dX6_place_100 fk_X6_15 rfl (Sa _ _ rfl) (Ra _ _ _ rfl) ?_
          refine Rp.iload_n dX6_place_103 rfl ?_
          refine Rp.iload_n dX6_place_104 rfl ?_
          first | ((with_reducible show Rp _ _ _ _ (_ :: .int (nI _) :: _) _ _); refine Rp.iastoreN dX6_place_105 (Sa _ _ rfl) (by omega) ?_) | refine Rp.iastore dX6_place_105 (Sa _ _ rfl) (by first | assumption | exact vpb (by decide)) ?_
          refine Rp.aload_n dX6_place_106 rfl rfl ?_
          refine Rp.iload_n dX6_place_107 rfl ?_
          refine Rp.iconst (nI 1) dX6_place_108 (by decide) ?_
          first | ((with_reducible show Rp _ _ _ _ (.int (nI _) :: .int (nI _) :: _) _ _); refine Rp.iaddN dX6_place_109 ?_) | refine Rp.iadd dX6_place_109 ?_
          refine Rp.callV1 M_X6_place (ci := 6) dX6_place_110 mo_X6_place lk_X6_56 (by decide) rfl rfl (S2 _ _ rfl) (Nat.le_of_ble_eq_true rfl) (Nat.le_of_ble_eq_true rfl) (rc) (fun v1 h1 p1 x1 => ?_)
          obtain ⟨rfl, P3, h93, hS3, F3⟩ := p1
          try dsimp only [Option.toList, List.cons_append, List.nil_append, List.append]
          skip
          have S3 := P3.1
          have R3 := P3.2.1
          have P4 := P3.unput V hp (show t < nt by omega) hW c2
          have F4 : Fr wyX h1 (sI h1 54 t (-1)) := Fr.rfl'.sI (by unfold wyX; rw [decide_eq_true (show t < 8 by omega)]; rfl)
          have k1 := ih (t + 1) _ (sI h1 54 t (-1)) (by omega) P4 ((F4.I 52 9 rfl).trans h93) (hRS _ _ _ hS3 (plX_w F4)) (((FF.trans ((plX_w Fw).weak hZ)).trans F3).trans ((plX_w F4).weak hZ))
          refine Rp.aload_n dX6_place_113 rfl rfl ?_
          refine Rp.getR dX6_place_114 fk_X6_15 rfl (S3 _ _ rfl) (R3 _ _ _ rfl) ?_
          refine Rp.iload_n dX6_place_117 rfl ?_
          refine Rp.iconst (-1) dX6_place_118 (by decide) ?_
          first | ((with_reducible show Rp _ _ _ _ (_ :: .int (nI _) :: _) _ _); refine Rp.iastoreN dX6_place_119 (S3 _ _ rfl) (by omega) ?_) | refine Rp.iastore dX6_place_119 (S3 _ _ rfl) (by first | assumption | exact vpb (by decide)) ?_
          first | ((with_reducible show Rp _ _ _ (_ :: _ :: _ :: some (.int (nI _)) :: _) _ _ _); refine Rp.inc3N (c := 1) dX6_place_120 (by first | exact nl2_some rfl | exact nl2_none) (by decide) ?_) | refine Rp.inc3 _ dX6_place_120 rfl (by first | exact nl2_some rfl | exact nl2_none) (by decide) ?_
          refine Rp.goto (tgt := 55) dX6_place_123 (by decide) ?_
          exact k1
      · rw [if_pos (Or.inl c2)]
        have k1 := ih (t + 1) s g (by omega) P h9 hS F
        refine Rp.iload_n dX6_place_55 rfl ?_
        refine Rp.aload_n dX6_place_56 rfl rfl ?_
        refine Rp.getI dX6_place_57 fk_X6_102 rfl (S _ _ rfl) ?_
        first | rw [m4] | rw [eh] | rw [ew] | skip
        first | ((with_reducible show Rp _ _ _ _ (.int (nI _) :: .int (nI _) :: _) _ _); refine Rp.icmp_geN (tgt := 126) dX6_place_60 (by decide) (by omega) (fun c60 => ?_) (fun c60 => ?_)) | refine Rp.icmp_ge (tgt := 126) dX6_place_60 (by decide) (fun c60 => ?_) (fun c60 => ?_)
        · skip
          first | (exfalso; omega) | exact absurd c60 (by decide) | exact absurd (by decide) c60
        · skip
          refine Rp.aload_n dX6_place_63 rfl rfl ?_
          refine Rp.getR dX6_place_64 fk_X6_105 rfl (S _ _ rfl) (R _ _ _ rfl) ?_
          refine Rp.iload_n dX6_place_67 rfl ?_
          first | ((with_reducible show Rp _ _ _ _ (.int (nI _) :: _) _ _); refine Rp.ialoadN dX6_place_68 (S _ _ rfl) (by omega) ?_) | refine Rp.iaload dX6_place_68 (S _ _ rfl) (by first | assumption | exact vpb (by decide)) ?_
          first | rw [m4] | rw [eh] | rw [ew] | skip
          refine Rp.iconst (-1) dX6_place_69 (by decide) ?_
          first | ((with_reducible show Rp _ _ _ _ (.int (nI _) :: .int (nI _) :: _) _ _); refine Rp.icmp_eqN (tgt := 120) dX6_place_70 (by decide) (by omega) (fun c70 => ?_) (fun c70 => ?_)) | refine Rp.icmp_eq (tgt := 120) dX6_place_70 (by decide) (fun c70 => ?_) (fun c70 => ?_)
          · skip
            exact absurd c70 c1
          · skip
            refine Rp.aload_n dX6_place_73 rfl rfl ?_
            refine Rp.getR dX6_place_74 fk_X6_15 rfl (S _ _ rfl) (R _ _ _ rfl) ?_
            refine Rp.iload_n dX6_place_77 rfl ?_
            first | ((with_reducible show Rp _ _ _ _ (.int (nI _) :: _) _ _); refine Rp.ialoadN dX6_place_78 (S _ _ rfl) (by omega) ?_) | refine Rp.iaload dX6_place_78 (S _ _ rfl) (by first | assumption | exact vpb (by decide)) ?_
            first | rw [m4] | rw [eh] | rw [ew] | skip
            refine Rp.iconst (-1) dX6_place_79 (by decide) ?_
            first | ((with_reducible show Rp _ _ _ _ (.int (nI _) :: .int (nI _) :: _) _ _); refine Rp.icmp_neN (tgt := 120) dX6_place_80 (by decide) (by omega) (fun c80 => ?_) (fun c80 => ?_)) | refine Rp.icmp_ne (tgt := 120) dX6_place_80 (by decide) (fun c80 => ?_) (fun c80 => ?_)
            · skip
              first | ((with_reducible show Rp _ _ _ (_ :: _ :: _ :: some (.int (nI _)) :: _) _ _ _); refine Rp.inc3N (c := 1) dX6_place_120 (by first | exact nl2_some rfl | exact nl2_none) (by decide) ?_) | refine Rp.inc3 _ dX6_place_120 rfl (by first | exact nl2_some rfl | exact nl2_none) (by decide) ?_
              refine Rp.goto (tgt := 55) dX6_place_123 (by decide) ?_
              exact k1
            · skip
              exact absurd c80 c2
end Cp3
