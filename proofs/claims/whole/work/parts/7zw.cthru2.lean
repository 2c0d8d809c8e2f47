section Th2
variable (d : Nat) {h0 : AH} {fl : Option (List CLE)} {np nt nl : Nat} {LSs : Nat → List CLE} {fx : Int32} {LS : List CLE}
theorem thru12 (hF : fl = flO nl LSs fx) (hTm : ∀ e ∈ LS, e.2.2.2.2.2.1 ≤ 20) : ∀ (L pre : List CLE) (s : OS) (g : AH) (a4 a5 : Option Value), LS = pre ++ L → OrC g fl np nt nl LSs fx LS s → OSK np nt (20 * pre.length) s → Fr orX h0 g → Rp (d + 6) M_X8_through 12 [some (.ref 63), some (.ref 1), some (.ref 37), some (.int (nI pre.length)), a4, a5] [] g (ThQ h0 fl np nt nl LSs fx LS (orL fl np nt L pre.length s)) := by
  intro L
  induction L with
  | nil =>
    intro pre s g a4 a5 hL C hO F
    obtain ⟨S, R, J, M, Lg, H, hf, T, e3, e4, hz⟩ := id C
    have l12 : LS.length ≤ 12 := by have := T.2.2.2.2.2.1; omega
    have el : gI g 37 2 = nI pre.length := by rw [T.2.2.2.2.2.2.2.2.2.1.1, hL, List.append_nil]
    rw [hL, List.append_nil] at l12
    refine Rp.iload_n dX8_through_12 rfl ?_
    refine Rp.aload_n dX8_through_13 rfl rfl ?_
    refine Rp.getI dX8_through_14 fk_X8_30 rfl T.1 ?_
    first | rw [el] | skip
    first | ((with_reducible show Rp _ _ _ _ (.int (nI _) :: .int (nI _) :: _) _ _); refine Rp.icmp_geN (tgt := 62) dX8_through_17 (by decide) (by omega) (fun c17 => ?_) (fun c17 => ?_)) | refine Rp.icmp_ge (tgt := 62) dX8_through_17 (by decide) (fun c17 => ?_) (fun c17 => ?_)
    · skip
      refine Rp.iconst (-1) dX8_through_62 (by decide) ?_
      refine Rp.ireturn dX8_through_63 rfl ?_
      exact ⟨F, rfl, C⟩
    · skip
      first | (exfalso; omega) | exact absurd c17 (by decide) | exact absurd (by decide) c17
  | cons e L ih =>
    intro pre s g a4 a5 hL C hO F
    obtain ⟨S, R, J, M, Lg, H, hf, T, e3, e4, hz⟩ := id C
    have l12 : LS.length ≤ 12 := by have := T.2.2.2.2.2.1; omega
    have el : gI g 37 2 = nI LS.length := T.2.2.2.2.2.2.2.2.2.1.1
    have ll : LS.length = pre.length + (L.length + 1) := by rw [hL, List.length_append, List.length_cons]
    have he : LS[pre.length]? = some e := by rw [hL, List.getElem?_append_right (Nat.le_refl _), Nat.sub_self]; rfl
    have tm := hTm e (List.mem_of_getElem? he)
    have h1 := t_headT (d + 5) T he (w := 1) (by decide)
    have q1 : hdQ e 1 = nI e.2.2.2.2.2.1 := rfl
    rw [q1] at h1
    have k31 : Rp (d + 6) M_X8_through 31 [some (.ref 63), some (.ref 1), some (.ref 37), some (.int (nI pre.length)), some (.int (nI e.2.2.2.2.2.1)), some (.int (nI 0))] [] g (ThQ h0 fl np nt nl LSs fx LS (orL fl np nt (e :: L) pre.length s)) := by
      refine thru31 d hF he tm (by omega) e.2.2.2.2.2.1 0 (20 * pre.length) s g (by omega) C hO (by omega) F (fun s' g' e1 C' O' F' => ?_) (fun e1 g' i F' S' R' => ?_)
      · have eo : orL fl np nt (e :: L) pre.length s = orL fl np nt L (pre.length + 1) s' := by rw [orL, e1]
        rw [eo]
        have k1 := ih (pre ++ [e]) s' g' (some (.int (nI e.2.2.2.2.2.1))) (some (.int (nI e.2.2.2.2.2.1))) (by rw [hL, List.append_assoc]; rfl) C' ⟨O'.1, O'.2.1, O'.2.2.1, by have := O'.2.2.2.1; rw [List.length_append]; show _ ≤ 20 * (pre.length + 1); omega, O'.2.2.2.2⟩ F'
        rw [show (pre ++ [e]).length = pre.length + 1 from List.length_append ..] at k1
        first | ((with_reducible show Rp _ _ _ (_ :: _ :: _ :: some (.int (nI _)) :: _) _ _ _); refine Rp.inc3N (c := 1) dX8_through_56 (by first | exact nl2_some rfl | exact nl2_none) (by decide) ?_) | refine Rp.inc3 _ dX8_through_56 rfl (by first | exact nl2_some rfl | exact nl2_none) (by decide) ?_
        refine Rp.goto (tgt := 12) dX8_through_59 (by decide) ?_
        exact k1
      · have eo : orL fl np nt (e :: L) pre.length s = .error pre.length := by rw [orL, e1]
        rw [eo]
        refine Rp.iload_n dX8_through_48 rfl ?_
        refine Rp.ireturn dX8_through_49 rfl ?_
        exact ⟨F', rfl, S', R'⟩
    refine Rp.iload_n dX8_through_12 rfl ?_
    refine Rp.aload_n dX8_through_13 rfl rfl ?_
    refine Rp.getI dX8_through_14 fk_X8_30 rfl T.1 ?_
    first | rw [el] | skip
    first | ((with_reducible show Rp _ _ _ _ (.int (nI _) :: .int (nI _) :: _) _ _); refine Rp.icmp_geN (tgt := 62) dX8_through_17 (by decide) (by omega) (fun c17 => ?_) (fun c17 => ?_)) | refine Rp.icmp_ge (tgt := 62) dX8_through_17 (by decide) (fun c17 => ?_) (fun c17 => ?_)
    · skip
      first | (exfalso; omega) | exact absurd c17 (by decide) | exact absurd (by decide) c17
    · skip
      refine Rp.aload_n dX8_through_20 rfl rfl ?_
      refine Rp.iload_n dX8_through_21 rfl ?_
      refine Rp.iconst (nI 1) dX8_through_22 (by decide) ?_
      refine Rp.callV2 M_X9_head (ci := 9) dX8_through_23 mo_X9_head lk_X8_35 (by decide) rfl rfl T.1 (Nat.le_of_ble_eq_true rfl) (Nat.le_of_ble_eq_true rfl) (h1) (fun v1 h1 p1 x1 => ?_)
      rw [p1.1, p1.2]
      try dsimp only [Option.toList, List.cons_append, List.nil_append, List.append]
      refine Rp.ist4 dX8_through_26 (by first | exact nl2_some rfl | exact nl2_none) (by decide) ?_
      refine Rp.iconst (nI 0) dX8_through_28 (by decide) ?_
      refine Rp.ist5 dX8_through_29 (by first | exact nl2_some rfl | exact nl2_none) (by decide) ?_
      exact k31
def x63 (k j : Nat) : Bool := k == 63 && (j == 3 || j == 4)
theorem x63_n {k j : Nat} (h : k ≠ 63) : x63 k j = false := by unfold x63; rw [beq_eq_false_iff_ne.mpr h]; rfl
theorem t_through {h : AH} {K : Nat → Int32} {E : List Int32} {US : List (Nat → Int32)} (hF : fl = flO nl LSs fx) (hTm : ∀ e ∈ LS, e.2.2.2.2.2.1 ≤ 20) (S : ShOK h) (R : RfOK h) (J : JS h 1 K fl) (B : KB K) (M : HM h 1 K np nt) (L : LOG h 1 E) (H : HLw h 1 nl LSs) (hf : gI h 1 18 = fx) (T : TXG h 37 38 39 60 436 true LS) (hz : ∀ j, 17 ≤ j → gI h 64 j = 0) (U : UR np nt K E US) : Rp (d + 6) M_X8_through 0 [some (.ref 63), some (.ref 1), some (.ref 37), none, none, none] [] h (ThQ h fl np nt nl LSs fx LS (orL fl np nt LS 0 (K, E, US, 0, -1))) := by
  let h2 := sI (sI h 63 3 (nI 0)) 63 4 (-1)
  have F2 : Fr x63 h h2 := (Fr.rfl'.sI rfl).sI rfl
  have F3 : Fr orX h h2 := (Fr.rfl'.sI rfl).sI rfl
  have nT : ∀ k j, okT k → x63 k j = false := fun k j o => x63_n (okT_ne o (by decide) (by decide) (by decide) (by decide))
  have C : OrC h2 fl np nt nl LSs fx LS (K, E, US, 0, -1) := ⟨S, R, J.fg F2 (fun j => rfl) (fun j => rfl) (fun j => rfl) (fun k j hk => x63_n (by omega)) nT, M.fr F2 (fun o j ho _ _ => x63_n (by omega)) (fun o j ho e => by rw [x63_n (by omega)] at e; cases e), L.fr F2 rfl (fun j => rfl), H.fr F2 (fun j => rfl) rfl (fun j => rfl) nT, hf, T.fr F2 nT, (gI_off _ _ _ (by decide)).trans (gI_hit _ _ _ _), gI_hit _ _ _ _, fun j hj => (F2.I 64 j rfl).trans (hz j hj)⟩
  have k12 := thru12 d (h0 := h) hF hTm LS [] (K, E, US, 0, -1) h2 none none rfl C ⟨M.1, B, U, Nat.le_refl _, Or.inl rfl⟩ F3
  refine Rp.aload_n dX8_through_0 rfl rfl ?_
  refine Rp.iconst (nI 0) dX8_through_1 (by decide) ?_
  refine Rp.putI dX8_through_2 fk_X8_23w rfl (S _ _ rfl) ?_
  refine Rp.aload_n dX8_through_5 rfl rfl ?_
  refine Rp.iconst (-1) dX8_through_6 (by decide) ?_
  refine Rp.putI dX8_through_7 fk_X8_27w rfl (S _ _ rfl) ?_
  refine Rp.iconst (nI 0) dX8_through_10 (by decide) ?_
  refine Rp.ist3 dX8_through_11 (by first | exact nl2_some rfl | exact nl2_none) (by decide) ?_
  exact k12
end Th2
