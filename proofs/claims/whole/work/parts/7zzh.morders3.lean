theorem MA.fr {X : Nat → Nat → Bool} {h g : AH} {fl : Option (List CLE)} {np nt : Nat} {US : List (Nat → Int32)} (A : MA h fl np nt US) (F : Fr X h g) (hx : xok X = true) (h102 : ∀ j, X 102 j = false) (h113 : ∀ j, X 113 j = false) (h32 : X 100 32 = false) : MA g fl np nt US := by
  obtain ⟨S, R, hF, B, V, hM, hT, L⟩ := A
  have e : gI g am_kept = gI h am_kept := funext fun j => F.I 102 j (h102 j)
  exact ⟨F.S S, F.R R hx, by rw [e]; exact hF, by rw [e]; exact B, by rw [e]; exact V, by rw [e]; exact hM, by rw [e]; exact hT, L.fr F h32 h113⟩
section Mx
variable (d : Nat) {h : AH} {fl : Option (List CLE)} {np nt : Nat} {US : List (Nat → Int32)} {E : List Int32}
/-- the reference's orders -/
theorem s_orders (A : MA h fl np nt US) (U : UR np nt (gI h 102) E US) (W : WD h) {L : Nat} (hL : L ≤ 400) (hb : ∀ i, (gI h am_tape i).toInt ≤ 127) (ht : gI h aM fm_taped = nI L) : Rp (d + 80) M_X12_orders 0 [some (.ref aM), none, none, none, none] [] h (fun r h' => ∃ g1, Fr rsX (sI h 100 50 (-1)) g1 ∧ gI g1 aM fm_taped = nI 0 ∧ match RDg true (gI h am_tape) L with
  | .error e => gI g1 aM fm_fault = nI (pT L (TLo (gI h am_tape) L) e) ∧ r = some (.int (-nI 6)) ∧ h' = sI (sI g1 aM fm_status (-nI 6)) am_refused 6 (gI g1 am_refused 6 + nI 1)
  | .ok LS => gI g1 aM fm_fault = -1 ∧ MOQ g1 fl np nt (lyK (gI h 102) (cT (gI h am_tape) (TLo (gI h am_tape) L)) (vT (gI h am_tape) (TLo (gI h am_tape) L)) 6 (TLo (gI h am_tape) L).length) US (orL fl np nt LS 0 (lyK (gI h 102) (cT (gI h am_tape) (TLo (gI h am_tape) L)) (vT (gI h am_tape) (TLo (gI h am_tape) L)) 6 (TLo (gI h am_tape) L).length, E, US, 0, -1)) r h') := by
  have S := A.1
  have R := A.2.1
  have F0 : Fr (fun k j => k == 100 && j == 50) h (sI h 100 50 (-1)) := Fr.rfl'.sI rfl
  have A0 : MA (sI h 100 50 (-1)) fl np nt US := A.fr F0 (by decide) (fun j => rfl) (fun j => rfl) rfl
  have W0 : WD (sI h 100 50 (-1)) := W
  have rd := s_readsAs (d + 19) (h := sI h 100 50 (-1)) S R W0 true hL hb ht
  have hlen : (TLo (gI h am_tape) L).length ≤ L - 0 := toks_len (gI h am_tape) L L 0
  refine Rp.aload_n dX12_orders_0 rfl rfl ?_
  refine Rp.iconst (-1) dX12_orders_1 (by decide) ?_
  refine Rp.putI dX12_orders_2 fk_X12_105w rfl (S _ _ rfl) ?_
  refine Rp.aload_n dX12_orders_5 rfl rfl ?_
  refine Rp.iconst (nI 1) dX12_orders_6 (by decide) ?_
  refine Rp.callV1 M_X12_readsAs (ci := 12) dX12_orders_7 mo_X12_readsAs lk_X12_269 (by decide) rfl rfl (S _ _ rfl) (Nat.le_of_ble_eq_true rfl) (Nat.le_of_ble_eq_true rfl) (rd) (fun v1 h1 p1 x1 => ?_)
  obtain ⟨F1, z1, z2, z3, z4⟩ := p1
  try dsimp only [Option.toList, List.cons_append, List.nil_append, List.append]
  skip
  have A1 : MA h1 fl np nt US := A0.fr F1 (by decide) (fun j => rfl) (fun j => rfl) rfl
  have S1 := A1.1
  have R1 := A1.2.1
  have z4 : match RDg true (gI h am_tape) L with
    | .error e => v1 = some (.int (nI 0)) ∧ gI h1 aM fm_fault = nI (pT L (TLo (gI h am_tape) L) e)
    | .ok _ => v1 = some (.int (nI 1)) ∧ gI h1 aM fm_fault = -1 := z4
  match hq : RDg true (gI h am_tape) L, z4 with
  | .error e, z4 =>
    obtain ⟨rfl, z5⟩ := z4
    have rf := s_refuses (d + 79) S1 R1 6 (by decide)
    first | ((with_reducible show Rp _ _ _ _ (.int (b2i _) :: _) _ _); refine Rp.if_neB (tgt := 20) dX12_orders_10 (by decide) (fun c10 => ?_) (fun c10 => ?_)) | ((with_reducible show Rp _ _ _ _ (.int (nI _) :: _) _ _); refine Rp.if_neN (tgt := 20) dX12_orders_10 (by decide) (by omega) (fun c10 => ?_) (fun c10 => ?_)) | refine Rp.if_ne (tgt := 20) dX12_orders_10 (by decide) (fun c10 => ?_) (fun c10 => ?_)
    · skip
      first | (exfalso; omega) | exact absurd c10 (by decide) | exact absurd (by decide) c10
    · skip
      refine Rp.aload_n dX12_orders_13 rfl rfl ?_
      refine Rp.bipush (-6) dX12_orders_14 (by decide) ?_
      refine Rp.callV1 M_X12_refuses (ci := 12) dX12_orders_16 mo_X12_refuses lk_X12_121 (by decide) rfl rfl (S1 _ _ rfl) (Nat.le_of_ble_eq_true rfl) (Nat.le_of_ble_eq_true rfl) (rf) (fun v1 h1 p1 x1 => ?_)
      rw [p1.1, p1.2]
      try dsimp only [Option.toList, List.cons_append, List.nil_append, List.append]
      refine Rp.ireturn dX12_orders_19 rfl ?_
      exact ⟨_, F1, z1, z5, rfl, rfl⟩
  | .ok LS, z4 =>
    obtain ⟨rfl, z5⟩ := z4
    have K1 : gI h1 102 = gI h 102 := (funext fun j => F1.I 102 j rfl).trans rfl
    have k20 := mord20 d (h := h1) (E := E) (c := cT (gI h am_tape) (TLo (gI h am_tape) L)) (v := vT (gI h am_tape) (TLo (gI h am_tape) L)) (T := (TLo (gI h am_tape) L).length) A1 (by rw [K1]; exact U) (by omega) (cT_end _ _) (fun k hk => ⟨cT_lt _ _ _, vT_lt _ hb _ _⟩) z2 z3 hq
    rw [K1] at k20
    have k20 := Rp.mono (fun r h' z => (⟨h1, F1, z1, z5, z⟩ : ∃ g1, Fr rsX (sI h 100 50 (-1)) g1 ∧ gI g1 aM fm_taped = nI 0 ∧ gI g1 aM fm_fault = -1 ∧ MOQ g1 fl np nt (lyK (gI h 102) (cT (gI h am_tape) (TLo (gI h am_tape) L)) (vT (gI h am_tape) (TLo (gI h am_tape) L)) 6 (TLo (gI h am_tape) L).length) US (orL fl np nt LS 0 (lyK (gI h 102) (cT (gI h am_tape) (TLo (gI h am_tape) L)) (vT (gI h am_tape) (TLo (gI h am_tape) L)) 6 (TLo (gI h am_tape) L).length, E, US, 0, -1)) r h')) k20
    first | ((with_reducible show Rp _ _ _ _ (.int (b2i _) :: _) _ _); refine Rp.if_neB (tgt := 20) dX12_orders_10 (by decide) (fun c10 => ?_) (fun c10 => ?_)) | ((with_reducible show Rp _ _ _ _ (.int (nI _) :: _) _ _); refine Rp.if_neN (tgt := 20) dX12_orders_10 (by decide) (by omega) (fun c10 => ?_) (fun c10 => ?_)) | refine Rp.if_ne (tgt := 20) dX12_orders_10 (by decide) (fun c10 => ?_) (fun c10 => ?_)
    · skip
      exact k20
    · skip
      first | (exfalso; omega) | exact absurd c10 (by decide) | exact absurd (by decide) c10
end Mx
