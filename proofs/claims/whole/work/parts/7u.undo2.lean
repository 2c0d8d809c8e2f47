def mvK (K r : Nat → Int32) : Nat → Int32 := fun j => if j < 7 then r j else K j
theorem mv_0 {K r : Nat → Int32} {f s : Nat} (hs : s < 7) (h : r s = -1) (e : ∀ j, j < 7 → K j = acK r (some (0, f, s)) j) : mvK K r = upK K s (-1) := by
  funext j
  unfold mvK upK
  by_cases z : j < 7
  · rw [if_pos z]
    by_cases y : j = s
    · rw [if_pos y, y, h]
    · rw [if_neg y, e j z]
      show r j = upK r s (nI f) j
      unfold upK; rw [if_neg y]
  · rw [if_neg z, if_neg (by omega)]
theorem mv_1 {K r : Nat → Int32} {f s : Nat} (hf : f < 7) (hs : s < 7) (hfs : f ≠ s) (e : ∀ j, j < 7 → K j = acK r (some (1, f, s)) j) : mvK K r = swK K f s := by
  have ef : K f = r s := by rw [e f hf]; show swK r f s f = r s; unfold swK upK; rw [if_neg hfs, if_pos rfl]
  have es : K s = r f := by rw [e s hs]; show swK r f s s = r f; unfold swK upK; rw [if_pos rfl]
  funext j
  unfold mvK swK upK
  by_cases z : j < 7
  · rw [if_pos z]
    by_cases y : j = s
    · rw [if_pos y, y, ef]
    · rw [if_neg y]
      by_cases x : j = f
      · rw [if_pos x, x, es]
      · rw [if_neg x, e j z]
        show r j = swK r f s j
        unfold swK upK; rw [if_neg y, if_neg x]
  · rw [if_neg z, if_neg (by omega), if_neg (by omega)]
theorem mv_2 {K r : Nat → Int32} {f s : Nat} (hs : s < 7) (h : r s = nI f) (e : ∀ j, j < 7 → K j = acK r (some (2, f, s)) j) : mvK K r = upK K s (nI f) := by
  funext j
  unfold mvK upK
  by_cases z : j < 7
  · rw [if_pos z]
    by_cases y : j = s
    · rw [if_pos y, y, h]
    · rw [if_neg y, e j z]
      show r j = upK r s (-1) j
      unfold upK; rw [if_neg y]
  · rw [if_neg z, if_neg (by omega)]
theorem mv_3 {K r : Nat → Int32} {m f s : Nat} (h : r 6 = nI m) (e : ∀ j, j < 7 → K j = acK r (some (3, f, s)) j) : mvK K r = upK K 6 (nI m) := by
  funext j
  unfold mvK upK
  by_cases z : j < 7
  · rw [if_pos z]
    by_cases y : j = 6
    · rw [if_pos y, y, h]
    · rw [if_neg y, e j z]
      show r j = upK r 6 (r 6 + nI 1) j
      unfold upK; rw [if_neg y]
  · rw [if_neg z, if_neg (by omega)]
theorem lgE_d {o f s : Nat} (ho : o < 4) (hf : f < 16) (hs : s < 16) : (lgE o f s >>> (nI 4 &&& 31)) &&& nI 15 = nI f ∧ lgE o f s &&& nI 15 = nI s ∧ lgE o f s >>> (nI 8 &&& 31) = nI o := by
  unfold lgE
  refine ⟨?_, ?_, ?_⟩
  · rw [pk_shrN (by omega) _ 4 (by decide), pk_andN (by omega) 4 (by decide)]; congr 1; omega
  · rw [pk_andN (by omega) 4 (by decide)]; congr 1; omega
  · rw [pk_shrN (by omega) _ 8 (by decide)]; congr 1; omega
def ukX (b k j : Nat) : Bool := hX b k j || (k == b + 12 && j == 0)
section Tb
variable (d : Nat) {h : AH} {b : Nat} {K : Nat → Int32} {np nt : Nat}
theorem t_latest (A : HOK h b) {E : List Int32} {x : Int32} (L : LOG h b (E ++ [x])) : Rp d M_X4_latest 0 [some (.ref (b + 14))] [] h (fun r h' => h' = h ∧ r = some (.int x)) := by
  have l1 := L.1
  rw [List.length_append, List.length_singleton] at l1
  have ez : gI h (b + 14) 1 = nI (E.length + 1) := by rw [L.2.1, List.length_append, List.length_singleton]
  have ex : gI h (b + 15) (E.length + 1 - 1) = x := by
    rw [Nat.add_sub_cancel]
    exact L.2.2 _ x (by rw [List.getElem?_append_right (Nat.le_refl _), Nat.sub_self]; rfl)
  have n0 : ¬ nI (E.length + 1) ≤ 0 := by rw [i32_le, nI_toInt (by omega)]; show ¬ ((E.length + 1 : Nat) : Int) ≤ 0; omega
  refine Rp.aload_n dX4_latest_0 rfl rfl ?_
  refine Rp.getI dX4_latest_1 fk_X4_13 rfl (A.1 14 _ rfl) ?_
  first | rw [ez] | rw [ex] | skip
  refine Rp.if_le (tgt := 21) dX4_latest_4 (by decide) (fun c4 => ?_) (fun c4 => ?_)
  · skip
    exact absurd c4 n0
  · skip
    refine Rp.aload_n dX4_latest_7 rfl rfl ?_
    refine Rp.getR dX4_latest_8 fk_X4_9 rfl (A.1 14 _ rfl) (A.2 14 0 15 rfl) ?_
    refine Rp.aload_n dX4_latest_11 rfl rfl ?_
    refine Rp.getI dX4_latest_12 fk_X4_13 rfl (A.1 14 _ rfl) ?_
    first | rw [ez] | rw [ex] | skip
    refine Rp.iconst (nI 1) dX4_latest_15 (by decide) ?_
    first | ((with_reducible show Rp _ _ _ _ (.int (nI _) :: .int (nI _) :: _) _ _); refine Rp.isubN dX4_latest_16 (by omega) ?_) | refine Rp.isub dX4_latest_16 ?_
    first | ((with_reducible show Rp _ _ _ _ (.int (nI _) :: _) _ _); refine Rp.ialoadN dX4_latest_17 (A.1 15 _ rfl) (by omega) ?_) | refine Rp.iaload dX4_latest_17 (A.1 15 _ rfl) (by first | assumption | exact vpb (by decide)) ?_
    first | rw [ez] | rw [ex] | skip
    refine Rp.goto (tgt := 22) dX4_latest_18 (by decide) ?_
    refine Rp.ireturn dX4_latest_22 rfl ?_
    exact ⟨rfl, rfl⟩
theorem LOG.pop {h : AH} {b : Nat} {E : List Int32} {x : Int32} (L : LOG h b (E ++ [x])) : LOG (sI h (b + 14) 1 (nI E.length)) b E := by
  have l1 := L.1
  rw [List.length_append, List.length_singleton] at l1
  refine ⟨by omega, gI_hit _ _ _ _, fun j y hj => ?_⟩
  rw [gI_ne _ _ _ _ (by omega)]
  exact L.2.2 j y (by rw [List.getElem?_append_left (List.getElem?_eq_some_iff.mp hj).1]; exact hj)
theorem tb0 (A : HOK h b) (L : LOG h b []) : Rp (d + 2) M_X2_takeBack 0 [some (.ref b), none, none, none, none] [] h (fun r h' => h' = h ∧ r = some (.int (-nI 3))) := by
  have ez : gI h (b + 14) 1 = nI 0 := L.2.1
  refine Rp.aload_n dX2_takeBack_0 rfl rfl ?_
  refine Rp.getR dX2_takeBack_1 fk_X2_61 rfl (A.1 0 _ rfl) (A.2 0 19 14 rfl) ?_
  refine Rp.getI dX2_takeBack_4 fk_X2_108 rfl (A.1 14 _ rfl) ?_
  first | rw [ez] | skip
  first | ((with_reducible show Rp _ _ _ _ (.int (b2i _) :: _) _ _); refine Rp.if_neB (tgt := 13) dX2_takeBack_7 (by decide) (fun c7 => ?_) (fun c7 => ?_)) | ((with_reducible show Rp _ _ _ _ (.int (nI _) :: _) _ _); refine Rp.if_neN (tgt := 13) dX2_takeBack_7 (by decide) (by omega) (fun c7 => ?_) (fun c7 => ?_)) | refine Rp.if_ne (tgt := 13) dX2_takeBack_7 (by decide) (fun c7 => ?_) (fun c7 => ?_)
  · skip
    first | (exfalso; omega) | exact absurd c7 (by decide) | exact absurd (by decide) c7
  · skip
    refine Rp.bipush (-3) dX2_takeBack_10 (by decide) ?_
    refine Rp.ireturn dX2_takeBack_12 rfl ?_
    exact ⟨rfl, rfl⟩
theorem t_takeBack (M : HM h b K np nt) (e12 : gI h (b + 12) 0 = K 6) {E : List Int32} {r : Nat → Int32} {o f s : Nat} (L : LOG h b (E ++ [lgE o f s])) (U : UOK np nt r o f s) (eK : ∀ j, j < 7 → K j = acK r (some (o, f, s)) j) : Rp (d + 2) M_X2_takeBack 0 [some (.ref b), none, none, none, none] [] h (fun v h' => v = some (.int (nI o)) ∧ Fr (ukX b) h h' ∧ HM h' b (mvK K r) np nt ∧ gI h' (b + 12) 0 = mvK K r 6 ∧ LOG h' b E) := by
  obtain ⟨⟨v1, v2, v3, v4⟩, A, m3, m4, m5, m6⟩ := M
  have M : HM h b K np nt := ⟨⟨v1, v2, v3, v4⟩, A, m3, m4, m5, m6⟩
  have l1 := L.1
  rw [List.length_append, List.length_singleton] at l1
  have ez : gI h (b + 14) 1 = nI (E.length + 1) := by rw [L.2.1, List.length_append, List.length_singleton]
  have bd : o < 4 ∧ f < 16 ∧ s < 16 := by
    rcases U with ⟨h0, h1, h2, h3⟩ | ⟨h0, h1, h2, h3, h4, h5⟩ | ⟨h0, h1, h2, h3, h4⟩ | ⟨h0, h1, h2, m, h3, h4⟩
    · omega
    · omega
    · omega
    · omega
  obtain ⟨d1, d2, d3⟩ := lgE_d bd.1 bd.2.1 bd.2.2
  have la := t_latest (d + 1) A L
  have fin : ∀ (g : AH) (K' : Nat → Int32), Fr (ukX b) h g → HM g b K' np nt → gI g (b + 12) 0 = K' 6 → LOG g b (E ++ [lgE o f s]) → mvK K r = K' → Rp (d + 2) M_X2_takeBack 105 [some (.ref b), some (.int (lgE o f s)), some (.int (nI f)), some (.int (nI s)), some (.int (nI o))] [] g (fun v h' => v = some (.int (nI o)) ∧ Fr (ukX b) h h' ∧ HM h' b (mvK K r) np nt ∧ gI h' (b + 12) 0 = mvK K r 6 ∧ LOG h' b E) := by
    intro g K' F1 M1 e1 L1 eM
    rw [eM]
    have A1 := M1.2.1
    have ez1 : gI g (b + 14) 1 = nI (E.length + 1) := by rw [L1.2.1, List.length_append, List.length_singleton]
    have F2 : Fr (ukX b) h (sI g (b + 14) 1 (nI (E.length + 1 - 1))) := F1.sI (by unfold ukX hX lX; simp)
    have M2 : HM (sI g (b + 14) 1 (nI (E.length + 1 - 1))) b K' np nt := M1.fl (Fr.rfl'.sI (by unfold lX; simp))
    have L2 := L1.pop
    rw [Nat.add_sub_cancel] at F2 M2
    refine Rp.aload_n dX2_takeBack_105 rfl rfl ?_
    refine Rp.getR dX2_takeBack_106 fk_X2_61 rfl (A1.1 0 _ rfl) (A1.2 0 19 14 rfl) ?_
    refine Rp.dup dX2_takeBack_109 rfl ?_
    refine Rp.getI dX2_takeBack_110 fk_X2_108 rfl (A1.1 14 _ rfl) ?_
    first | rw [ez1] | skip
    refine Rp.iconst (nI 1) dX2_takeBack_113 (by decide) ?_
    first | ((with_reducible show Rp _ _ _ _ (.int (nI _) :: .int (nI _) :: _) _ _); refine Rp.isubN dX2_takeBack_114 (by omega) ?_) | refine Rp.isub dX2_takeBack_114 ?_
    rw [Nat.add_sub_cancel]
    refine Rp.putI dX2_takeBack_115 fk_X2_108w rfl (A1.1 14 _ rfl) ?_
    refine Rp.iload dX2_takeBack_118 rfl ?_
    refine Rp.ireturn dX2_takeBack_120 rfl ?_
    exact ⟨rfl, F2, M2, by rw [gI_ne _ _ _ _ (by omega)]; exact e1, L2⟩
  have pre : Rp (d + 2) M_X2_takeBack 39 [some (.ref b), some (.int (lgE o f s)), some (.int (nI f)), some (.int (nI s)), some (.int (nI o))] [] h (fun v h' => v = some (.int (nI o)) ∧ Fr (ukX b) h h' ∧ HM h' b (mvK K r) np nt ∧ gI h' (b + 12) 0 = mvK K r 6 ∧ LOG h' b E) → Rp (d + 2) M_X2_takeBack 0 [some (.ref b), none, none, none, none] [] h (fun v h' => v = some (.int (nI o)) ∧ Fr (ukX b) h h' ∧ HM h' b (mvK K r) np nt ∧ gI h' (b + 12) 0 = mvK K r 6 ∧ LOG h' b E) := by
    intro k1
    refine Rp.aload_n dX2_takeBack_0 rfl rfl ?_
    refine Rp.getR dX2_takeBack_1 fk_X2_61 rfl (A.1 0 _ rfl) (A.2 0 19 14 rfl) ?_
    refine Rp.getI dX2_takeBack_4 fk_X2_108 rfl (A.1 14 _ rfl) ?_
    first | rw [ez] | skip
    first | ((with_reducible show Rp _ _ _ _ (.int (b2i _) :: _) _ _); refine Rp.if_neB (tgt := 13) dX2_takeBack_7 (by decide) (fun c7 => ?_) (fun c7 => ?_)) | ((with_reducible show Rp _ _ _ _ (.int (nI _) :: _) _ _); refine Rp.if_neN (tgt := 13) dX2_takeBack_7 (by decide) (by omega) (fun c7 => ?_) (fun c7 => ?_)) | refine Rp.if_ne (tgt := 13) dX2_takeBack_7 (by decide) (fun c7 => ?_) (fun c7 => ?_)
    · skip
      refine Rp.aload_n dX2_takeBack_13 rfl rfl ?_
      refine Rp.getR dX2_takeBack_14 fk_X2_61 rfl (A.1 0 _ rfl) (A.2 0 19 14 rfl) ?_
      refine Rp.callV0 M_X4_latest (ci := 4) dX2_takeBack_17 mo_X4_latest lk_X2_111 (by decide) rfl rfl (A.1 14 _ rfl) (Nat.le_of_ble_eq_true rfl) (Nat.le_of_ble_eq_true rfl) (la) (fun v1 h1 p1 x1 => ?_)
      rw [p1.1, p1.2]
      try dsimp only [Option.toList, List.cons_append, List.nil_append, List.append]
      refine Rp.ist1 dX2_takeBack_20 (by first | exact nl2_some rfl | exact nl2_none) (by decide) ?_
      refine Rp.iload_n dX2_takeBack_21 rfl ?_
      refine Rp.iconst (nI 4) dX2_takeBack_22 (by decide) ?_
      refine Rp.ishr dX2_takeBack_23 ?_
      refine Rp.bipush (nI 15) dX2_takeBack_24 (by decide) ?_
      refine Rp.iand dX2_takeBack_26 ?_
      rw [d1]
      refine Rp.ist2 dX2_takeBack_27 (by first | exact nl2_some rfl | exact nl2_none) (by decide) ?_
      refine Rp.iload_n dX2_takeBack_28 rfl ?_
      refine Rp.bipush (nI 15) dX2_takeBack_29 (by decide) ?_
      refine Rp.iand dX2_takeBack_31 ?_
      rw [d2]
      refine Rp.ist3 dX2_takeBack_32 (by first | exact nl2_some rfl | exact nl2_none) (by decide) ?_
      refine Rp.iload_n dX2_takeBack_33 rfl ?_
      refine Rp.bipush (nI 8) dX2_takeBack_34 (by decide) ?_
      refine Rp.ishr dX2_takeBack_36 ?_
      rw [d3]
      refine Rp.ist4 dX2_takeBack_37 (by first | exact nl2_some rfl | exact nl2_none) (by decide) ?_
      exact k1
    · skip
      first | (exfalso; omega) | exact absurd c7 (by decide) | exact absurd (by decide) c7
  refine pre ?_
  have lg2 : ∀ k1 j1 x1 k2 j2 x2, k1 ≠ b + 14 → k1 ≠ b + 15 → k2 ≠ b + 14 → k2 ≠ b + 15 → LOG (sI (sI h k1 j1 x1) k2 j2 x2) b (E ++ [lgE o f s]) := fun k1 j1 x1 k2 j2 x2 a1 a2 a3 a4 => ⟨L.1, by rw [gI_ne _ _ _ _ (Ne.symm a3), gI_ne _ _ _ _ (Ne.symm a1)]; exact L.2.1, fun j x hj => by rw [gI_ne _ _ _ _ (Ne.symm a4), gI_ne _ _ _ _ (Ne.symm a2)]; exact L.2.2 j x hj⟩
  rcases U with ⟨rfl, h1, h2, h3⟩ | ⟨rfl, h1, h2, h3, h4, h5⟩ | ⟨rfl, h1, h2, h3, h4⟩ | ⟨rfl, rfl, rfl, m, h3, h4⟩
  · have ks : K s = nI f := by rw [eK s (by omega)]; show upK r s (nI f) s = nI f; unfold upK; rw [if_pos rfl]
    have gv := t_ungive (d + 1) A (t := f) (p := s) (by omega) (by omega)
    have k1 := fin _ (upK K s (-1)) ((Fr.rfl'.sI (by unfold ukX hX; simp)).sI (by unfold ukX hX; simp)) (M.ungive h2 h1 ks) (by rw [gI_ne _ _ _ _ (by omega), gI_ne _ _ _ _ (by omega), e12]; unfold upK; rw [if_neg (by omega)]) (lg2 _ _ _ _ _ _ (by omega) (by omega) (by omega) (by omega)) (mv_0 (by omega) h3 eK)
    refine Rp.iload dX2_takeBack_39 rfl ?_
    refine Rp.tableIn (tgt := 68) (off := 27) dX2_takeBack_41 (by decide) (by decide) (by decide) (by decide) ?_
    refine Rp.aload_n dX2_takeBack_68 rfl rfl ?_
    refine Rp.iload_n dX2_takeBack_69 rfl ?_
    refine Rp.iload_n dX2_takeBack_70 rfl ?_
    refine Rp.callV2 M_X2_ungive (ci := 2) dX2_takeBack_71 mo_X2_ungive lk_X2_115 (by decide) rfl rfl (A.1 0 _ rfl) (Nat.le_of_ble_eq_true rfl) (Nat.le_of_ble_eq_true rfl) (gv) (fun v1 h1 p1 x1 => ?_)
    rw [p1.1, p1.2]
    try dsimp only [Option.toList, List.cons_append, List.nil_append, List.append]
    refine Rp.goto (tgt := 105) dX2_takeBack_74 (by decide) ?_
    exact k1
  · have kf : K f = r s := by rw [eK f (by omega)]; show swK r f s f = r s; unfold swK upK; rw [if_neg h3, if_pos rfl]
    have ks : K s = r f := by rw [eK s (by omega)]; show swK r f s s = r f; unfold swK upK; rw [if_pos rfl]
    obtain ⟨t, ht, et⟩ := ((v3 f (by omega)).resolve_left (by rw [kf]; exact h5)).2
    obtain ⟨u, hu, eu⟩ := ((v3 s (by omega)).resolve_left (by rw [ks]; exact h4)).2
    have cr := t_cross d A (p := f) (q := s) (t := t) (u := u) (by omega) (by omega) (by omega) (by omega) ((m5 f (by omega)).trans et) ((m5 s (by omega)).trans eu)
    have L4 : LOG (sI (sI (sI (sI h (b + 7) u (nI f)) (b + 3) f (nI u)) (b + 7) t (nI s)) (b + 3) s (nI t)) b (E ++ [lgE 1 f s]) := by
      have q := lg2 (b + 7) u (nI f) (b + 3) f (nI u) (by omega) (by omega) (by omega) (by omega)
      exact ⟨q.1, by rw [gI_ne _ _ _ _ (by omega), gI_ne _ _ _ _ (by omega)]; exact q.2.1, fun j x hj => by rw [gI_ne _ _ _ _ (by omega), gI_ne _ _ _ _ (by omega)]; exact q.2.2 j x hj⟩
    have k1 := fin _ (swK K f s) ((((Fr.rfl'.sI (by unfold ukX hX; simp)).sI (by unfold ukX hX; simp)).sI (by unfold ukX hX; simp)).sI (by unfold ukX hX; simp)) (M.cross h1 h2 h3 ht hu et eu) (by rw [gI_ne _ _ _ _ (by omega), gI_ne _ _ _ _ (by omega), gI_ne _ _ _ _ (by omega), gI_ne _ _ _ _ (by omega), e12]; unfold swK upK; rw [if_neg (by omega), if_neg (by omega)]) L4 (mv_1 (by omega) (by omega) h3 eK)
    refine Rp.iload dX2_takeBack_39 rfl ?_
    refine Rp.tableIn (tgt := 77) (off := 36) dX2_takeBack_41 (by decide) (by decide) (by decide) (by decide) ?_
    refine Rp.aload_n dX2_takeBack_77 rfl rfl ?_
    refine Rp.iload_n dX2_takeBack_78 rfl ?_
    refine Rp.iload_n dX2_takeBack_79 rfl ?_
    refine Rp.callV2 M_X2_cross (ci := 2) dX2_takeBack_80 mo_X2_cross lk_X2_118 (by decide) rfl rfl (A.1 0 _ rfl) (Nat.le_of_ble_eq_true rfl) (Nat.le_of_ble_eq_true rfl) (cr) (fun v1 h1 p1 x1 => ?_)
    rw [p1.1, p1.2]
    try dsimp only [Option.toList, List.cons_append, List.nil_append, List.append]
    refine Rp.goto (tgt := 105) dX2_takeBack_83 (by decide) ?_
    exact k1
  · have ks : K s = -1 := by rw [eK s (by omega)]; show upK r s (-1) s = -1; unfold upK; rw [if_pos rfl]
    have hn : hOf K (nI f) np = -1 := hOf_none np (fun q hq e => by
      by_cases z : q = s
      · rw [z, ks] at e; exact nI_m1 (by omega) e.symm
      · rw [eK q (by omega)] at e
        have e : upK r s (-1) q = nI f := e
        unfold upK at e
        rw [if_neg z] at e
        exact h4 q hq z e)
    have gv := t_give (d + 1) A (t := f) (p := s) (by omega) (by omega)
    have k1 := fin _ (upK K s (nI f)) ((Fr.rfl'.sI (by unfold ukX hX; simp)).sI (by unfold ukX hX; simp)) (M.give h2 h1 ks hn) (by rw [gI_ne _ _ _ _ (by omega), gI_ne _ _ _ _ (by omega), e12]; unfold upK; rw [if_neg (by omega)]) (lg2 _ _ _ _ _ _ (by omega) (by omega) (by omega) (by omega)) (mv_2 (by omega) h3 eK)
    refine Rp.iload dX2_takeBack_39 rfl ?_
    refine Rp.tableIn (tgt := 86) (off := 45) dX2_takeBack_41 (by decide) (by decide) (by decide) (by decide) ?_
    refine Rp.aload_n dX2_takeBack_86 rfl rfl ?_
    refine Rp.iload_n dX2_takeBack_87 rfl ?_
    refine Rp.iload_n dX2_takeBack_88 rfl ?_
    refine Rp.callV2 M_X2_give (ci := 2) dX2_takeBack_89 mo_X2_give lk_X2_104 (by decide) rfl rfl (A.1 0 _ rfl) (Nat.le_of_ble_eq_true rfl) (Nat.le_of_ble_eq_true rfl) (gv) (fun v1 h1 p1 x1 => ?_)
    rw [p1.1, p1.2]
    try dsimp only [Option.toList, List.cons_append, List.nil_append, List.append]
    refine Rp.goto (tgt := 105) dX2_takeBack_92 (by decide) ?_
    exact k1
  · have k6 : K 6 = nI (m + 1) := by rw [eK 6 (by decide)]; show upK r 6 (r 6 + nI 1) 6 = _; unfold upK; rw [if_pos rfl, h4, nI_add]
    have em : gI h (b + 12) 0 = nI (m + 1) := e12.trans k6
    have L3 : LOG (sI h (b + 12) 0 (nI (m + 1 - 1))) b (E ++ [lgE 3 0 0]) := ⟨L.1, by rw [gI_ne _ _ _ _ (by omega)]; exact L.2.1, fun j x hj => by rw [gI_ne _ _ _ _ (by omega)]; exact L.2.2 j x hj⟩
    have k1 := fin (sI h (b + 12) 0 (nI (m + 1 - 1))) (upK K 6 (nI m)) (Fr.rfl'.sI (by unfold ukX; simp)) (M.min (nI m)) (by rw [gI_hit]; unfold upK; rw [if_pos rfl]; rfl) L3 (mv_3 h4 eK)
    refine Rp.iload dX2_takeBack_39 rfl ?_
    refine Rp.tableOut (tgt := 95) dX2_takeBack_41 (by decide) (by decide) ?_
    refine Rp.aload_n dX2_takeBack_95 rfl rfl ?_
    refine Rp.getR dX2_takeBack_96 fk_X2_45 rfl (A.1 0 _ rfl) (A.2 0 15 12 rfl) ?_
    refine Rp.iconst (nI 0) dX2_takeBack_99 (by decide) ?_
    refine Rp.dup2 dX2_takeBack_100 rfl rfl ?_
    first | ((with_reducible show Rp _ _ _ _ (.int (nI _) :: _) _ _); refine Rp.ialoadN dX2_takeBack_101 (A.1 12 _ rfl) (by omega) ?_) | refine Rp.iaload dX2_takeBack_101 (A.1 12 _ rfl) (by first | assumption | exact vpb (by decide)) ?_
    first | rw [em] | skip
    refine Rp.iconst (nI 1) dX2_takeBack_102 (by decide) ?_
    first | ((with_reducible show Rp _ _ _ _ (.int (nI _) :: .int (nI _) :: _) _ _); refine Rp.isubN dX2_takeBack_103 (by omega) ?_) | refine Rp.isub dX2_takeBack_103 ?_
    first | ((with_reducible show Rp _ _ _ _ (_ :: .int (nI _) :: _) _ _); refine Rp.iastoreN dX2_takeBack_104 (A.1 12 _ rfl) (by omega) ?_) | refine Rp.iastore dX2_takeBack_104 (A.1 12 _ rfl) (by first | assumption | exact vpb (by decide)) ?_
    exact k1
end Tb
