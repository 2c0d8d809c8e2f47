/-- the words below p of has and of patience stand -/
def LkI (h g : AH) (w : Nat → Int32) (p : Nat) : Prop := Fr oX h g ∧ (∀ k, k < 5 → gI g 64 k = w k) ∧ (∀ k, k < p → gI g 64 (5 + k) = w (5 + k)) ∧ ∀ k, k < p → gI g 64 (11 + k) = w (11 + k)
theorem LkI.step {h g : AH} {w : Nat → Int32} {p : Nat} (I : LkI h g w p) (hp : p < 6) {x y : Int32} (hx : x = w (5 + p)) (hy : y = w (11 + p)) : LkI h (sI (sI g 64 (5 + p) x) 64 (11 + p) y) w (p + 1) := by
  obtain ⟨F, i1, i2, i3⟩ := I
  refine ⟨(F.sI (oX_y (by omega))).sI (oX_y (by omega)), fun k hk => ?_, fun k hk => ?_, fun k hk => ?_⟩
  · rw [gI_at, if_neg (by omega), gI_at, if_neg (by omega)]; exact i1 k hk
  · rw [gI_at, if_neg (by omega), gI_at]
    by_cases e : k = p
    · rw [if_pos (by omega), e, hx]
    · rw [if_neg (by omega)]; exact i2 k (by omega)
  · rw [gI_at]
    by_cases e : k = p
    · rw [if_pos (by omega), e, hy]
    · rw [if_neg (by omega), gI_at, if_neg (by omega)]; exact i3 k (by omega)
theorem wO_has {K : Nat → Int32} {np nt dn : Nat} {lt : Int32} {fit p : Nat} (hp : p < 6) : wO K np nt dn lt fit (5 + p) = if p < np then K p else -1 := by
  rw [Nat.add_comm 5 p]
  show (if p < 6 then (if p < np then K p else -1) else _) = _
  rw [if_pos hp]
theorem wO_pat {K : Nat → Int32} {np nt dn : Nat} {lt : Int32} {fit p : Nat} (hp : p < 6) : wO K np nt dn lt fit (11 + p) = if p < np then K (13 + p) else -1 := by
  rw [show 11 + p = (p + 6) + 5 by omega]
  show (if p + 6 < 6 then (if p + 6 < np then K (p + 6) else -1) else if p + 6 < 12 then (if p + 6 - 6 < np then K (13 + (p + 6 - 6)) else -1) else 0) = _
  rw [if_neg (by omega), if_pos (by omega), Nat.add_sub_cancel]
section Lk
variable (d : Nat) {h : AH} {K : Nat → Int32} {fl : Option (List CLE)} {np nt : Nat}
theorem look63 {w : Nat → Int32} (S0 : ShOK h) (R0 : RfOK h) (J0 : HJ h 1 K) (M0 : HM h 1 K np nt) (h5 : ∀ p, p < 6 → w (5 + p) = if p < np then K p else -1) (h11 : ∀ p, p < 6 → w (11 + p) = if p < np then K (13 + p) else -1) (a2 : Int32) : ∀ (m p : Nat) (g : AH), p + m = 6 → LkI h g w p → Rp (d + 1) M_X8_lookAt 63 [some (.ref 63), some (.ref 1), some (.int a2), some (.int (nI p))] [] g (fun r h' => r = none ∧ LkI h h' w 6) := by
  have V := M0.1
  have v1 := V.1
  intro m
  induction m with
  | zero =>
    intro p g hm I
    have e : p = 6 := by omega
    subst e
    refine Rp.iload_n dX8_lookAt_63 rfl ?_
    refine Rp.bipush (nI 6) dX8_lookAt_64 (by decide) ?_
    first | ((with_reducible show Rp _ _ _ _ (.int (nI _) :: .int (nI _) :: _) _ _); refine Rp.icmp_geN (tgt := 128) dX8_lookAt_66 (by decide) (by omega) (fun c66 => ?_) (fun c66 => ?_)) | refine Rp.icmp_ge (tgt := 128) dX8_lookAt_66 (by decide) (fun c66 => ?_) (fun c66 => ?_)
    · skip
      refine Rp.vreturn dX8_lookAt_128 rfl ?_
      exact ⟨rfl, I⟩
    · skip
      first | (exfalso; omega) | exact absurd c66 (by decide) | exact absurd (by decide) c66
  | succ m ih =>
    intro p g hm I
    have F := I.1
    have S := F.S S0
    have R := F.R R0 (by decide)
    have M := M0.fo (by decide) F
    have m3 : gI g 1 0 = nI np := M.2.2.1
    have S1 : ∀ x, ShOK (sI g 64 (5 + p) x) := fun x => S
    have R1 : ∀ x, RfOK (sI g 64 (5 + p) x) := fun x => R
    have p1 := t_isPerson d (h := g) (k := 1) (S _ _ rfl) (nI p) v1 m3
    by_cases c : p < np
    · rw [show inN (nI p) np = true from (inN_iff (by omega)).mpr ⟨p, c, rfl⟩] at p1
      have eh : gI g 4 p = K p := M.2.2.2.2.1 p (by omega)
      have ep : gI (sI g 64 (5 + p) (K p)) 3 p = K (13 + p) := by rw [gI_ne _ _ _ _ (by decide), F.I 3 p (oX_n (by decide))]; exact J0.2.2.2.1 p (by omega)
      have p2 := t_isPerson d (h := sI g 64 (5 + p) (K p)) (k := 1) (S _ _ rfl) (nI p) v1 m3
      rw [show inN (nI p) np = true from (inN_iff (by omega)).mpr ⟨p, c, rfl⟩] at p2
      have k1 := ih (p + 1) _ (by omega) (I.step (by omega) (x := K p) (y := K (13 + p)) (by rw [h5 p (by omega), if_pos c]) (by rw [h11 p (by omega), if_pos c]))
      refine Rp.iload_n dX8_lookAt_63 rfl ?_
      refine Rp.bipush (nI 6) dX8_lookAt_64 (by decide) ?_
      first | ((with_reducible show Rp _ _ _ _ (.int (nI _) :: .int (nI _) :: _) _ _); refine Rp.icmp_geN (tgt := 128) dX8_lookAt_66 (by decide) (by omega) (fun c66 => ?_) (fun c66 => ?_)) | refine Rp.icmp_ge (tgt := 128) dX8_lookAt_66 (by decide) (fun c66 => ?_) (fun c66 => ?_)
      · skip
        first | (exfalso; omega) | exact absurd c66 (by decide) | exact absurd (by decide) c66
      · skip
        refine Rp.aload_n dX8_lookAt_69 rfl rfl ?_
        refine Rp.getR dX8_lookAt_70 fk_X8_11 rfl (S _ _ rfl) (R _ _ _ rfl) ?_
        refine Rp.iconst (nI 5) dX8_lookAt_73 (by decide) ?_
        refine Rp.iload_n dX8_lookAt_74 rfl ?_
        first | ((with_reducible show Rp _ _ _ _ (.int (nI _) :: .int (nI _) :: _) _ _); refine Rp.iaddN dX8_lookAt_75 ?_) | refine Rp.iadd dX8_lookAt_75 ?_
        refine Rp.aload_n dX8_lookAt_76 rfl rfl ?_
        refine Rp.iload_n dX8_lookAt_77 rfl ?_
        refine Rp.callV1 M_X2_isPerson (ci := 2) dX8_lookAt_78 mo_X2_isPerson lk_X8_97 (by decide) rfl rfl (S _ _ rfl) (Nat.le_of_ble_eq_true rfl) (Nat.le_of_ble_eq_true rfl) (p1) (fun v1 h1 p1 x1 => ?_)
        rw [p1.1, p1.2]
        try dsimp only [Option.toList, List.cons_append, List.nil_append, List.append]
        first | ((with_reducible show Rp _ _ _ _ (.int (b2i _) :: _) _ _); refine Rp.if_eqB (tgt := 93) dX8_lookAt_81 (by decide) (fun c81 => ?_) (fun c81 => ?_)) | ((with_reducible show Rp _ _ _ _ (.int (nI _) :: _) _ _); refine Rp.if_eqN (tgt := 93) dX8_lookAt_81 (by decide) (by omega) (fun c81 => ?_) (fun c81 => ?_)) | refine Rp.if_eq (tgt := 93) dX8_lookAt_81 (by decide) (fun c81 => ?_) (fun c81 => ?_)
        · skip
          cases c81
        · skip
          refine Rp.aload_n dX8_lookAt_84 rfl rfl ?_
          refine Rp.getR dX8_lookAt_85 fk_X8_101 rfl (S _ _ rfl) (R _ _ _ rfl) ?_
          refine Rp.iload_n dX8_lookAt_88 rfl ?_
          first | ((with_reducible show Rp _ _ _ _ (.int (nI _) :: _) _ _); refine Rp.ialoadN dX8_lookAt_89 (S _ _ rfl) (by omega) ?_) | refine Rp.iaload dX8_lookAt_89 (S _ _ rfl) (by first | assumption | exact vpb (by decide)) ?_
          first | rw [eh] | rw [ep] | skip
          refine Rp.goto (tgt := 94) dX8_lookAt_90 (by decide) ?_
          first | ((with_reducible show Rp _ _ _ _ (_ :: .int (nI _) :: _) _ _); refine Rp.iastoreN dX8_lookAt_94 (S _ _ rfl) (by omega) ?_) | refine Rp.iastore dX8_lookAt_94 (S _ _ rfl) (by first | assumption | exact vpb (by decide)) ?_
          refine Rp.aload_n dX8_lookAt_95 rfl rfl ?_
          refine Rp.getR dX8_lookAt_96 fk_X8_11 rfl (S1 _ _ _ rfl) (R1 _ _ _ _ rfl) ?_
          refine Rp.bipush (nI 11) dX8_lookAt_99 (by decide) ?_
          refine Rp.iload_n dX8_lookAt_101 rfl ?_
          first | ((with_reducible show Rp _ _ _ _ (.int (nI _) :: .int (nI _) :: _) _ _); refine Rp.iaddN dX8_lookAt_102 ?_) | refine Rp.iadd dX8_lookAt_102 ?_
          refine Rp.aload_n dX8_lookAt_103 rfl rfl ?_
          refine Rp.iload_n dX8_lookAt_104 rfl ?_
          refine Rp.callV1 M_X2_isPerson (ci := 2) dX8_lookAt_105 mo_X2_isPerson lk_X8_97 (by decide) rfl rfl (S1 _ _ _ rfl) (Nat.le_of_ble_eq_true rfl) (Nat.le_of_ble_eq_true rfl) (p2) (fun v1 h1 p1 x1 => ?_)
          rw [p1.1, p1.2]
          try dsimp only [Option.toList, List.cons_append, List.nil_append, List.append]
          first | ((with_reducible show Rp _ _ _ _ (.int (b2i _) :: _) _ _); refine Rp.if_eqB (tgt := 120) dX8_lookAt_108 (by decide) (fun c108 => ?_) (fun c108 => ?_)) | ((with_reducible show Rp _ _ _ _ (.int (nI _) :: _) _ _); refine Rp.if_eqN (tgt := 120) dX8_lookAt_108 (by decide) (by omega) (fun c108 => ?_) (fun c108 => ?_)) | refine Rp.if_eq (tgt := 120) dX8_lookAt_108 (by decide) (fun c108 => ?_) (fun c108 => ?_)
          · skip
            cases c108
          · skip
            refine Rp.aload_n dX8_lookAt_111 rfl rfl ?_
            refine Rp.getR dX8_lookAt_112 fk_X8_104 rfl (S1 _ _ _ rfl) (R1 _ _ _ _ rfl) ?_
            refine Rp.iload_n dX8_lookAt_115 rfl ?_
            first | ((with_reducible show Rp _ _ _ _ (.int (nI _) :: _) _ _); refine Rp.ialoadN dX8_lookAt_116 (S1 _ _ _ rfl) (by omega) ?_) | refine Rp.iaload dX8_lookAt_116 (S1 _ _ _ rfl) (by first | assumption | exact vpb (by decide)) ?_
            first | rw [eh] | rw [ep] | skip
            refine Rp.goto (tgt := 121) dX8_lookAt_117 (by decide) ?_
            first | ((with_reducible show Rp _ _ _ _ (_ :: .int (nI _) :: _) _ _); refine Rp.iastoreN dX8_lookAt_121 (S1 _ _ _ rfl) (by omega) ?_) | refine Rp.iastore dX8_lookAt_121 (S1 _ _ _ rfl) (by first | assumption | exact vpb (by decide)) ?_
            first | ((with_reducible show Rp _ _ _ (_ :: _ :: _ :: some (.int (nI _)) :: _) _ _ _); refine Rp.inc3N (c := 1) dX8_lookAt_122 (by first | exact nl2_some rfl | exact nl2_none) (by decide) ?_) | refine Rp.inc3 _ dX8_lookAt_122 rfl (by first | exact nl2_some rfl | exact nl2_none) (by decide) ?_
            refine Rp.goto (tgt := 63) dX8_lookAt_125 (by decide) ?_
            exact k1
    · have hf : inN (nI p) np = false := Bool.eq_false_iff.mpr (fun z => by
        obtain ⟨q, hq, e⟩ := (inN_iff (by omega)).mp z
        exact c (by rw [nI_inj (by omega) (by omega) e]; exact hq))
      rw [hf] at p1
      have p2 := t_isPerson d (h := sI g 64 (5 + p) (-1)) (k := 1) (S _ _ rfl) (nI p) v1 m3
      rw [hf] at p2
      have k1 := ih (p + 1) _ (by omega) (I.step (by omega) (x := -1) (y := -1) (by rw [h5 p (by omega), if_neg c]) (by rw [h11 p (by omega), if_neg c]))
      refine Rp.iload_n dX8_lookAt_63 rfl ?_
      refine Rp.bipush (nI 6) dX8_lookAt_64 (by decide) ?_
      first | ((with_reducible show Rp _ _ _ _ (.int (nI _) :: .int (nI _) :: _) _ _); refine Rp.icmp_geN (tgt := 128) dX8_lookAt_66 (by decide) (by omega) (fun c66 => ?_) (fun c66 => ?_)) | refine Rp.icmp_ge (tgt := 128) dX8_lookAt_66 (by decide) (fun c66 => ?_) (fun c66 => ?_)
      · skip
        first | (exfalso; omega) | exact absurd c66 (by decide) | exact absurd (by decide) c66
      · skip
        refine Rp.aload_n dX8_lookAt_69 rfl rfl ?_
        refine Rp.getR dX8_lookAt_70 fk_X8_11 rfl (S _ _ rfl) (R _ _ _ rfl) ?_
        refine Rp.iconst (nI 5) dX8_lookAt_73 (by decide) ?_
        refine Rp.iload_n dX8_lookAt_74 rfl ?_
        first | ((with_reducible show Rp _ _ _ _ (.int (nI _) :: .int (nI _) :: _) _ _); refine Rp.iaddN dX8_lookAt_75 ?_) | refine Rp.iadd dX8_lookAt_75 ?_
        refine Rp.aload_n dX8_lookAt_76 rfl rfl ?_
        refine Rp.iload_n dX8_lookAt_77 rfl ?_
        refine Rp.callV1 M_X2_isPerson (ci := 2) dX8_lookAt_78 mo_X2_isPerson lk_X8_97 (by decide) rfl rfl (S _ _ rfl) (Nat.le_of_ble_eq_true rfl) (Nat.le_of_ble_eq_true rfl) (p1) (fun v1 h1 p1 x1 => ?_)
        rw [p1.1, p1.2]
        try dsimp only [Option.toList, List.cons_append, List.nil_append, List.append]
        first | ((with_reducible show Rp _ _ _ _ (.int (b2i _) :: _) _ _); refine Rp.if_eqB (tgt := 93) dX8_lookAt_81 (by decide) (fun c81 => ?_) (fun c81 => ?_)) | ((with_reducible show Rp _ _ _ _ (.int (nI _) :: _) _ _); refine Rp.if_eqN (tgt := 93) dX8_lookAt_81 (by decide) (by omega) (fun c81 => ?_) (fun c81 => ?_)) | refine Rp.if_eq (tgt := 93) dX8_lookAt_81 (by decide) (fun c81 => ?_) (fun c81 => ?_)
        · skip
          refine Rp.iconst (-1) dX8_lookAt_93 (by decide) ?_
          first | ((with_reducible show Rp _ _ _ _ (_ :: .int (nI _) :: _) _ _); refine Rp.iastoreN dX8_lookAt_94 (S _ _ rfl) (by omega) ?_) | refine Rp.iastore dX8_lookAt_94 (S _ _ rfl) (by first | assumption | exact vpb (by decide)) ?_
          refine Rp.aload_n dX8_lookAt_95 rfl rfl ?_
          refine Rp.getR dX8_lookAt_96 fk_X8_11 rfl (S1 _ _ _ rfl) (R1 _ _ _ _ rfl) ?_
          refine Rp.bipush (nI 11) dX8_lookAt_99 (by decide) ?_
          refine Rp.iload_n dX8_lookAt_101 rfl ?_
          first | ((with_reducible show Rp _ _ _ _ (.int (nI _) :: .int (nI _) :: _) _ _); refine Rp.iaddN dX8_lookAt_102 ?_) | refine Rp.iadd dX8_lookAt_102 ?_
          refine Rp.aload_n dX8_lookAt_103 rfl rfl ?_
          refine Rp.iload_n dX8_lookAt_104 rfl ?_
          refine Rp.callV1 M_X2_isPerson (ci := 2) dX8_lookAt_105 mo_X2_isPerson lk_X8_97 (by decide) rfl rfl (S1 _ _ _ rfl) (Nat.le_of_ble_eq_true rfl) (Nat.le_of_ble_eq_true rfl) (p2) (fun v1 h1 p1 x1 => ?_)
          rw [p1.1, p1.2]
          try dsimp only [Option.toList, List.cons_append, List.nil_append, List.append]
          first | ((with_reducible show Rp _ _ _ _ (.int (b2i _) :: _) _ _); refine Rp.if_eqB (tgt := 120) dX8_lookAt_108 (by decide) (fun c108 => ?_) (fun c108 => ?_)) | ((with_reducible show Rp _ _ _ _ (.int (nI _) :: _) _ _); refine Rp.if_eqN (tgt := 120) dX8_lookAt_108 (by decide) (by omega) (fun c108 => ?_) (fun c108 => ?_)) | refine Rp.if_eq (tgt := 120) dX8_lookAt_108 (by decide) (fun c108 => ?_) (fun c108 => ?_)
          · skip
            refine Rp.iconst (-1) dX8_lookAt_120 (by decide) ?_
            first | ((with_reducible show Rp _ _ _ _ (_ :: .int (nI _) :: _) _ _); refine Rp.iastoreN dX8_lookAt_121 (S1 _ _ _ rfl) (by omega) ?_) | refine Rp.iastore dX8_lookAt_121 (S1 _ _ _ rfl) (by first | assumption | exact vpb (by decide)) ?_
            first | ((with_reducible show Rp _ _ _ (_ :: _ :: _ :: some (.int (nI _)) :: _) _ _ _); refine Rp.inc3N (c := 1) dX8_lookAt_122 (by first | exact nl2_some rfl | exact nl2_none) (by decide) ?_) | refine Rp.inc3 _ dX8_lookAt_122 rfl (by first | exact nl2_some rfl | exact nl2_none) (by decide) ?_
            refine Rp.goto (tgt := 63) dX8_lookAt_125 (by decide) ?_
            exact k1
          · skip
            cases c108
        · skip
          cases c81
theorem t_lookAt (S : ShOK h) (R : RfOK h) (J : JS h 1 K fl) (B : KB K) (M : HM h 1 K np nt) {dn : Nat} {lt : Int32} (hd : gI h 63 3 = nI dn) (hl : gI h 63 4 = lt) (fb : Bool) : Rp (d + 4) M_X8_lookAt 0 [some (.ref 63), some (.ref 1), some (.int (b2i fb)), none] [] h (fun r h' => r = none ∧ Fr loX h h' ∧ JS h' 1 K fl ∧ ∀ j, j < 17 → gI h' 64 j = wO K np nt dn lt (if fb = true then fitN K fl np else 0) j) := by
  have V := M.1
  have v1 := V.1
  have v2 := V.2.1
  have e6 : gI h 13 0 = K 6 := J.2.2.1.2.2.2.2.2.2.2.1
  let h3 := sI (sI (sI h 64 0 (K 6)) 64 1 (nI dn)) 64 2 lt
  have F3 : Fr oX h h3 := ((Fr.rfl'.sI rfl).sI rfl).sI rfl
  have S3 : ShOK h3 := S
  have R3 : RfOK h3 := R
  have J3 := J.fo F3
  have M3 := M.fo (by decide) F3
  have k50 : ∀ (g : AH) (ft : Nat), Fr jX h3 g → JS g 1 K fl → ft = (if fb = true then fitN K fl np else 0) → Rp (d + 4) M_X8_lookAt 50 [some (.ref 63), some (.ref 1), some (.int (b2i fb)), none] [.int (nI ft), .int (nI 3), .ref 64] g (fun r h' => r = none ∧ Fr loX h h' ∧ JS h' 1 K fl ∧ ∀ j, j < 17 → gI h' 64 j = wO K np nt dn lt (if fb = true then fitN K fl np else 0) j) := by
    intro g ft F4 J4 ef
    have S4 := F4.S S3
    have R4 := F4.R R3 (by decide)
    have F5 : Fr oX g (sI g 64 3 (nI ft)) := Fr.rfl'.sI rfl
    have M5 := (M3.fj (by decide) F4).fo (by decide) F5
    have S5 := F5.S S4
    have R5 := F5.R R4 (by decide)
    have a5 : gI (sI g 64 3 (nI ft)) 1 5 = nI nt := M5.2.2.2.1
    have fr := t_free (d + 3) (h := sI g 64 3 (nI ft)) (k := 1) (S5 _ _ rfl) (R5 _ _ _ rfl) (S5 _ _ rfl) v2 a5
    rw [show cOf (gI (sI g 64 3 (nI ft)) (1 + 7)) (-1) nt = nt - cntH K np from (cOf_congr nt (fun t ht => M5.2.2.2.2.2 t (by omega))).trans V.free] at fr
    have F6 : Fr oX g (sI (sI g 64 3 (nI ft)) 64 4 (nI (nt - cntH K np))) := F5.sI rfl
    have J6 := J4.fo F6
    have M6 := (M3.fj (by decide) F4).fo (by decide) F6
    have q : ∀ j, gI g 64 j = gI h3 64 j := fun j => F4.I 64 j rfl
    have I0 : LkI g (sI (sI g 64 3 (nI ft)) 64 4 (nI (nt - cntH K np))) (wO K np nt dn lt ft) 0 := by
      refine ⟨F6, fun k hk => ?_, fun k hk => absurd hk (Nat.not_lt_zero _), fun k hk => absurd hk (Nat.not_lt_zero _)⟩
      match k, hk with
      | 0, _ => rw [gI_at, if_neg (by decide), gI_at, if_neg (by decide), q]; rfl
      | 1, _ => rw [gI_at, if_neg (by decide), gI_at, if_neg (by decide), q]; rfl
      | 2, _ => rw [gI_at, if_neg (by decide), gI_at, if_neg (by decide), q]; rfl
      | 3, _ => rw [gI_at, if_neg (by decide), gI_at, if_pos rfl]; rfl
      | 4, _ => rw [gI_at, if_pos rfl]; rfl
    have k63 := look63 (d + 3) S4 R4 J4.2.2.1 (M3.fj (by decide) F4) (w := wO K np nt dn lt ft) (fun p hp => wO_has hp) (fun p hp => wO_pat hp) (b2i fb) 6 0 _ (by omega) I0
    have k63 := Rp.mono (Q := fun r h' => r = none ∧ Fr loX h h' ∧ JS h' 1 K fl ∧ ∀ j, j < 17 → gI h' 64 j = wO K np nt dn lt (if fb = true then fitN K fl np else 0) j) (fun r h' z => by
      obtain ⟨z1, F7, i1, i2, i3⟩ := z
      refine ⟨z1, (loX_o F3).trans ((loX_j F4).trans (loX_o F7)), J4.fo F7, fun j hj => ?_⟩
      rw [← ef]
      by_cases c1 : j < 5
      · exact i1 j c1
      · by_cases c2 : j < 11
        · have := i2 (j - 5) (by omega)
          rw [show 5 + (j - 5) = j by omega] at this
          exact this
        · have := i3 (j - 11) (by omega)
          rw [show 11 + (j - 11) = j by omega] at this
          exact this) k63
    first | ((with_reducible show Rp _ _ _ _ (_ :: .int (nI _) :: _) _ _); refine Rp.iastoreN dX8_lookAt_50 (S4 _ _ rfl) (by omega) ?_) | refine Rp.iastore dX8_lookAt_50 (S4 _ _ rfl) (by first | assumption | exact vpb (by decide)) ?_
    refine Rp.aload_n dX8_lookAt_51 rfl rfl ?_
    refine Rp.getR dX8_lookAt_52 fk_X8_11 rfl (S5 _ _ rfl) (R5 _ _ _ rfl) ?_
    refine Rp.iconst (nI 4) dX8_lookAt_55 (by decide) ?_
    refine Rp.aload_n dX8_lookAt_56 rfl rfl ?_
    refine Rp.callV0 M_X2_free (ci := 2) dX8_lookAt_57 mo_X2_free lk_X8_93 (by decide) rfl rfl (S5 _ _ rfl) (Nat.le_of_ble_eq_true rfl) (Nat.le_of_ble_eq_true rfl) (fr) (fun v1 h1 p1 x1 => ?_)
    rw [p1.1, p1.2]
    try dsimp only [Option.toList, List.cons_append, List.nil_append, List.append]
    first | ((with_reducible show Rp _ _ _ _ (_ :: .int (nI _) :: _) _ _); refine Rp.iastoreN dX8_lookAt_60 (S5 _ _ rfl) (by omega) ?_) | refine Rp.iastore dX8_lookAt_60 (S5 _ _ rfl) (by first | assumption | exact vpb (by decide)) ?_
    refine Rp.iconst (nI 0) dX8_lookAt_61 (by decide) ?_
    refine Rp.ist3 dX8_lookAt_62 (by first | exact nl2_some rfl | exact nl2_none) (by decide) ?_
    exact k63
  have ft := t_fitOnes d S3 R3 J3 B M3
  have hd1 : gI (sI h 64 0 (K 6)) 63 3 = nI dn := hd
  have hl1 : gI (sI (sI h 64 0 (K 6)) 64 1 (nI dn)) 63 4 = lt := hl
  cases fb
  · have k1 := k50 h3 0 Fr.rfl' J3 rfl
    refine Rp.aload_n dX8_lookAt_0 rfl rfl ?_
    refine Rp.getR dX8_lookAt_1 fk_X8_11 rfl (S _ _ rfl) (R _ _ _ rfl) ?_
    refine Rp.iconst (nI 0) dX8_lookAt_4 (by decide) ?_
    refine Rp.aload_n dX8_lookAt_5 rfl rfl ?_
    refine Rp.getR dX8_lookAt_6 fk_X8_85 rfl (S _ _ rfl) (R _ _ _ rfl) ?_
    refine Rp.iconst (nI 0) dX8_lookAt_9 (by decide) ?_
    first | ((with_reducible show Rp _ _ _ _ (.int (nI _) :: _) _ _); refine Rp.ialoadN dX8_lookAt_10 (S _ _ rfl) (by omega) ?_) | refine Rp.iaload dX8_lookAt_10 (S _ _ rfl) (by first | assumption | exact vpb (by decide)) ?_
    first | rw [e6] | rw [hd1] | rw [hl1] | skip
    first | ((with_reducible show Rp _ _ _ _ (_ :: .int (nI _) :: _) _ _); refine Rp.iastoreN dX8_lookAt_11 (S _ _ rfl) (by omega) ?_) | refine Rp.iastore dX8_lookAt_11 (S _ _ rfl) (by first | assumption | exact vpb (by decide)) ?_
    refine Rp.aload_n dX8_lookAt_12 rfl rfl ?_
    refine Rp.getR dX8_lookAt_13 fk_X8_11 rfl (S _ _ rfl) (R _ _ _ rfl) ?_
    refine Rp.iconst (nI 1) dX8_lookAt_16 (by decide) ?_
    refine Rp.aload_n dX8_lookAt_17 rfl rfl ?_
    refine Rp.getI dX8_lookAt_18 fk_X8_23 rfl (S _ _ rfl) ?_
    first | rw [e6] | rw [hd1] | rw [hl1] | skip
    first | ((with_reducible show Rp _ _ _ _ (_ :: .int (nI _) :: _) _ _); refine Rp.iastoreN dX8_lookAt_21 (S _ _ rfl) (by omega) ?_) | refine Rp.iastore dX8_lookAt_21 (S _ _ rfl) (by first | assumption | exact vpb (by decide)) ?_
    refine Rp.aload_n dX8_lookAt_22 rfl rfl ?_
    refine Rp.getR dX8_lookAt_23 fk_X8_11 rfl (S _ _ rfl) (R _ _ _ rfl) ?_
    refine Rp.iconst (nI 2) dX8_lookAt_26 (by decide) ?_
    refine Rp.aload_n dX8_lookAt_27 rfl rfl ?_
    refine Rp.getI dX8_lookAt_28 fk_X8_27 rfl (S _ _ rfl) ?_
    first | rw [e6] | rw [hd1] | rw [hl1] | skip
    first | ((with_reducible show Rp _ _ _ _ (_ :: .int (nI _) :: _) _ _); refine Rp.iastoreN dX8_lookAt_31 (S _ _ rfl) (by omega) ?_) | refine Rp.iastore dX8_lookAt_31 (S _ _ rfl) (by first | assumption | exact vpb (by decide)) ?_
    refine Rp.aload_n dX8_lookAt_32 rfl rfl ?_
    refine Rp.getR dX8_lookAt_33 fk_X8_11 rfl (S _ _ rfl) (R _ _ _ rfl) ?_
    refine Rp.iconst (nI 3) dX8_lookAt_36 (by decide) ?_
    refine Rp.iload_n dX8_lookAt_37 rfl ?_
    first | ((with_reducible show Rp _ _ _ _ (.int (b2i _) :: _) _ _); refine Rp.if_eqB (tgt := 49) dX8_lookAt_38 (by decide) (fun c38 => ?_) (fun c38 => ?_)) | ((with_reducible show Rp _ _ _ _ (.int (nI _) :: _) _ _); refine Rp.if_eqN (tgt := 49) dX8_lookAt_38 (by decide) (by omega) (fun c38 => ?_) (fun c38 => ?_)) | refine Rp.if_eq (tgt := 49) dX8_lookAt_38 (by decide) (fun c38 => ?_) (fun c38 => ?_)
    · skip
      refine Rp.iconst (nI 0) dX8_lookAt_49 (by decide) ?_
      exact k1
    · skip
      cases c38
  · skip
    refine Rp.aload_n dX8_lookAt_0 rfl rfl ?_
    refine Rp.getR dX8_lookAt_1 fk_X8_11 rfl (S _ _ rfl) (R _ _ _ rfl) ?_
    refine Rp.iconst (nI 0) dX8_lookAt_4 (by decide) ?_
    refine Rp.aload_n dX8_lookAt_5 rfl rfl ?_
    refine Rp.getR dX8_lookAt_6 fk_X8_85 rfl (S _ _ rfl) (R _ _ _ rfl) ?_
    refine Rp.iconst (nI 0) dX8_lookAt_9 (by decide) ?_
    first | ((with_reducible show Rp _ _ _ _ (.int (nI _) :: _) _ _); refine Rp.ialoadN dX8_lookAt_10 (S _ _ rfl) (by omega) ?_) | refine Rp.iaload dX8_lookAt_10 (S _ _ rfl) (by first | assumption | exact vpb (by decide)) ?_
    first | rw [e6] | rw [hd1] | rw [hl1] | skip
    first | ((with_reducible show Rp _ _ _ _ (_ :: .int (nI _) :: _) _ _); refine Rp.iastoreN dX8_lookAt_11 (S _ _ rfl) (by omega) ?_) | refine Rp.iastore dX8_lookAt_11 (S _ _ rfl) (by first | assumption | exact vpb (by decide)) ?_
    refine Rp.aload_n dX8_lookAt_12 rfl rfl ?_
    refine Rp.getR dX8_lookAt_13 fk_X8_11 rfl (S _ _ rfl) (R _ _ _ rfl) ?_
    refine Rp.iconst (nI 1) dX8_lookAt_16 (by decide) ?_
    refine Rp.aload_n dX8_lookAt_17 rfl rfl ?_
    refine Rp.getI dX8_lookAt_18 fk_X8_23 rfl (S _ _ rfl) ?_
    first | rw [e6] | rw [hd1] | rw [hl1] | skip
    first | ((with_reducible show Rp _ _ _ _ (_ :: .int (nI _) :: _) _ _); refine Rp.iastoreN dX8_lookAt_21 (S _ _ rfl) (by omega) ?_) | refine Rp.iastore dX8_lookAt_21 (S _ _ rfl) (by first | assumption | exact vpb (by decide)) ?_
    refine Rp.aload_n dX8_lookAt_22 rfl rfl ?_
    refine Rp.getR dX8_lookAt_23 fk_X8_11 rfl (S _ _ rfl) (R _ _ _ rfl) ?_
    refine Rp.iconst (nI 2) dX8_lookAt_26 (by decide) ?_
    refine Rp.aload_n dX8_lookAt_27 rfl rfl ?_
    refine Rp.getI dX8_lookAt_28 fk_X8_27 rfl (S _ _ rfl) ?_
    first | rw [e6] | rw [hd1] | rw [hl1] | skip
    first | ((with_reducible show Rp _ _ _ _ (_ :: .int (nI _) :: _) _ _); refine Rp.iastoreN dX8_lookAt_31 (S _ _ rfl) (by omega) ?_) | refine Rp.iastore dX8_lookAt_31 (S _ _ rfl) (by first | assumption | exact vpb (by decide)) ?_
    refine Rp.aload_n dX8_lookAt_32 rfl rfl ?_
    refine Rp.getR dX8_lookAt_33 fk_X8_11 rfl (S _ _ rfl) (R _ _ _ rfl) ?_
    refine Rp.iconst (nI 3) dX8_lookAt_36 (by decide) ?_
    refine Rp.iload_n dX8_lookAt_37 rfl ?_
    first | ((with_reducible show Rp _ _ _ _ (.int (b2i _) :: _) _ _); refine Rp.if_eqB (tgt := 49) dX8_lookAt_38 (by decide) (fun c38 => ?_) (fun c38 => ?_)) | ((with_reducible show Rp _ _ _ _ (.int (nI _) :: _) _ _); refine Rp.if_eqN (tgt := 49) dX8_lookAt_38 (by decide) (by omega) (fun c38 => ?_) (fun c38 => ?_)) | refine Rp.if_eq (tgt := 49) dX8_lookAt_38 (by decide) (fun c38 => ?_) (fun c38 => ?_)
    · skip
      cases c38
    · skip
      refine Rp.aload_n dX8_lookAt_41 rfl rfl ?_
      refine Rp.aload_n dX8_lookAt_42 rfl rfl ?_
      refine Rp.callV1 M_X8_fitOnes (ci := 8) dX8_lookAt_43 mo_X8_fitOnes lk_X8_90 (by decide) rfl rfl (S3 _ _ rfl) (Nat.le_of_ble_eq_true rfl) (Nat.le_of_ble_eq_true rfl) (ft) (fun v1 h1 p1 x1 => ?_)
      obtain ⟨F4, J4, rfl⟩ := p1
      try dsimp only [Option.toList, List.cons_append, List.nil_append, List.append]
      refine Rp.goto (tgt := 50) dX8_lookAt_46 (by decide) ?_
      exact k50 _ _ F4 J4 rfl
end Lk
