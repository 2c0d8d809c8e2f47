/-- the class's log: its entries, the oldest first -/
def LOG (h : AH) (b : Nat) (E : List Int32) : Prop := E.length ≤ 16 ∧ gI h (b + 14) 1 = nI E.length ∧ ∀ j x, E[j]? = some x → gI h (b + 15) j = x
def lgA (E : List Int32) (x : Int32) : List Int32 := if E.length = 16 then E.tail ++ [x] else E ++ [x]
def lgE (o f s : Nat) : Int32 := nI (o * 256 + f * 16 + s)
def lX (b k j : Nat) : Bool := (k == b + 14 && j == 1) || k == b + 15
theorem lgE_or {o f s : Nat} (ho : o < 4) (hf : f < 16) (hs : s < 16) : (nI o <<< (nI 8 &&& 31) ||| nI f <<< (nI 4 &&& 31)) ||| nI s = lgE o f s := by
  rw [pk_shlN (nI 8 &&& 31) 8 (by decide) (by omega), pk_shlN (nI 4 &&& 31) 4 (by decide) (by omega), nI_or, nI_or]
  unfold lgE
  congr 1
  have e1 : o * 2 ^ 8 ||| f * 2 ^ 4 = o * 256 + f * 16 := by
    rw [Nat.mul_comm o (2 ^ 8), ← Nat.two_pow_add_eq_or_of_lt (show f * 2 ^ 4 < 2 ^ 8 by omega) o]
  rw [e1]
  have e2 : o * 256 + f * 16 = 2 ^ 4 * (o * 16 + f) := by omega
  rw [e2, ← Nat.two_pow_add_eq_or_of_lt (show s < 2 ^ 4 by omega) (o * 16 + f)]
theorem LOG.put {h : AH} {b : Nat} {E : List Int32} (L : LOG h b E) (hE : E.length < 16) (x : Int32) : LOG (sI (sI h (b + 15) E.length x) (b + 14) 1 (nI (E.length + 1))) b (E ++ [x]) := by
  refine ⟨by rw [List.length_append, List.length_singleton]; omega, by rw [gI_hit, List.length_append, List.length_singleton], fun j y hj => ?_⟩
  rw [gI_ne _ _ _ _ (by omega)]
  by_cases z : j < E.length
  · rw [List.getElem?_append_left z] at hj
    rw [gI_off _ _ _ (by omega)]; exact L.2.2 j y hj
  · rw [List.getElem?_append_right (by omega)] at hj
    have : j = E.length := by
      have := (List.getElem?_eq_some_iff.mp hj).1
      rw [List.length_singleton] at this; omega
    subst this
    rw [Nat.sub_self] at hj
    cases hj
    exact gI_hit _ _ _ _
theorem Fr.cpL {X : Nat → Nat → Bool} {h : AH} {k0 k1 sp dp n : Nat} (hx : ∀ j, (dp ≤ j ∧ j < dp + n) → X k1 j = true) : Fr X h (cpH h k0 k1 sp dp n) := ⟨rfl, rfl, fun k j q => by
  rw [gI_cp]
  by_cases z : k = k1
  · rw [if_pos z]
    by_cases y : dp ≤ j ∧ j < dp + n
    · rw [z, hx j y] at q; cases q
    · rw [if_neg y]
  · rw [if_neg z], fun k j q => rfl, fun k j q => rfl⟩
section Lg
variable (d : Nat) {h : AH} {b : Nat}
theorem t_addL (A : HOK h b) {E : List Int32} (L : LOG h b E) {o f s : Nat} (ho : o < 4) (hf : f < 16) (hs : s < 16) : Rp (d + 1) M_X4_add 0 [some (.ref (b + 14)), some (.int (nI o)), some (.int (nI f)), some (.int (nI s))] [] h (fun r h' => r = none ∧ Fr (lX b) h h' ∧ LOG h' b (lgA E (lgE o f s))) := by
  have fin : ∀ (g : AH) (E1 : List Int32), HOK g b → LOG g b E1 → E1.length < 16 → Fr (lX b) h g → Rp (d + 1) M_X4_add 30 [some (.ref (b + 14)), some (.int (nI o)), some (.int (nI f)), some (.int (nI s))] [] g (fun r h' => r = none ∧ Fr (lX b) h h' ∧ LOG h' b (E1 ++ [lgE o f s])) := by
    intro g E1 A1 L1 h16 F
    have ez := L1.2.1
    have ez2 : ∀ x, gI (sI g (b + 15) E1.length x) (b + 14) 1 = nI E1.length := fun x => by rw [gI_ne _ _ _ _ (by omega)]; exact ez
    have L2 := L1.put h16 (lgE o f s)
    have F2 : Fr (lX b) h (sI (sI g (b + 15) E1.length (lgE o f s)) (b + 14) 1 (nI (E1.length + 1))) := (F.sI (by unfold lX; simp)).sI (by unfold lX; simp)
    refine Rp.aload_n dX4_add_30 rfl rfl ?_
    refine Rp.getR dX4_add_31 fk_X4_9 rfl (A1.1 14 _ rfl) (A1.2 14 0 15 rfl) ?_
    refine Rp.aload_n dX4_add_34 rfl rfl ?_
    refine Rp.getI dX4_add_35 fk_X4_13 rfl (A1.1 14 _ rfl) ?_
    first | rw [ez] | rw [ez2] | skip
    refine Rp.iload_n dX4_add_38 rfl ?_
    refine Rp.bipush (nI 8) dX4_add_39 (by decide) ?_
    refine Rp.ishl dX4_add_41 ?_
    refine Rp.iload_n dX4_add_42 rfl ?_
    refine Rp.iconst (nI 4) dX4_add_43 (by decide) ?_
    refine Rp.ishl dX4_add_44 ?_
    refine Rp.ior dX4_add_45 ?_
    refine Rp.iload_n dX4_add_46 rfl ?_
    refine Rp.ior dX4_add_47 ?_
    rw [lgE_or ho hf hs]
    first | ((with_reducible show Rp _ _ _ _ (_ :: .int (nI _) :: _) _ _); refine Rp.iastoreN dX4_add_48 (A1.1 15 _ rfl) (by omega) ?_) | refine Rp.iastore dX4_add_48 (A1.1 15 _ rfl) (by first | assumption | exact vpb (by decide)) ?_
    refine Rp.aload_n dX4_add_49 rfl rfl ?_
    refine Rp.dup dX4_add_50 rfl ?_
    refine Rp.getI dX4_add_51 fk_X4_13 rfl (A1.1 14 _ rfl) ?_
    first | rw [ez] | rw [ez2] | skip
    refine Rp.iconst (nI 1) dX4_add_54 (by decide) ?_
    first | ((with_reducible show Rp _ _ _ _ (.int (nI _) :: .int (nI _) :: _) _ _); refine Rp.iaddN dX4_add_55 ?_) | refine Rp.iadd dX4_add_55 ?_
    refine Rp.putI dX4_add_56 fk_X4_13w rfl (A1.1 14 _ rfl) ?_
    refine Rp.vreturn dX4_add_59 rfl ?_
    exact ⟨rfl, F2, L2⟩
  have ez := L.2.1
  by_cases hq : E.length = 16
  · have ez : gI h (b + 14) 1 = nI 16 := by rw [ez, hq]
    have A2 : HOK (sI (cpH h (b + 15) (b + 15) 1 0 15) (b + 14) 1 (nI 15)) b := A.moved rfl (fun _ _ => rfl)
    have L2 : LOG (sI (cpH h (b + 15) (b + 15) 1 0 15) (b + 14) 1 (nI 15)) b E.tail := by
      refine ⟨by rw [List.length_tail]; omega, by rw [gI_hit, List.length_tail, hq], fun j y hj => ?_⟩
      have hj2 := (List.getElem?_eq_some_iff.mp hj).1
      rw [List.length_tail] at hj2
      rw [List.getElem?_tail] at hj
      rw [gI_ne _ _ _ _ (by omega), gI_cp, if_pos rfl, if_pos ⟨by omega, by omega⟩, show 1 + (j - 0) = j + 1 by omega]
      exact L.2.2 (j + 1) y hj
    have F2 : Fr (lX b) h (sI (cpH h (b + 15) (b + 15) 1 0 15) (b + 14) 1 (nI 15)) := Fr.sI (Fr.cpL (fun j _ => by unfold lX; simp)) (by unfold lX; simp)
    have k1 := fin _ E.tail A2 L2 (by rw [List.length_tail]; omega) F2
    unfold lgA
    rw [if_pos hq]
    refine Rp.aload_n dX4_add_0 rfl rfl ?_
    refine Rp.getI dX4_add_1 fk_X4_13 rfl (A.1 14 _ rfl) ?_
    first | rw [ez] | skip
    refine Rp.bipush (nI 16) dX4_add_4 (by decide) ?_
    first | ((with_reducible show Rp _ _ _ _ (.int (nI _) :: .int (nI _) :: _) _ _); refine Rp.icmp_ltN (tgt := 30) dX4_add_6 (by decide) (by omega) (fun c6 => ?_) (fun c6 => ?_)) | refine Rp.icmp_lt (tgt := 30) dX4_add_6 (by decide) (fun c6 => ?_) (fun c6 => ?_)
    · skip
      first | (exfalso; omega) | exact absurd c6 (by decide) | exact absurd (by decide) c6
    · skip
      refine Rp.aload_n dX4_add_9 rfl rfl ?_
      refine Rp.getR dX4_add_10 fk_X4_9 rfl (A.1 14 _ rfl) (A.2 14 0 15 rfl) ?_
      refine Rp.iconst (nI 1) dX4_add_13 (by decide) ?_
      refine Rp.aload_n dX4_add_14 rfl rfl ?_
      refine Rp.getR dX4_add_15 fk_X4_9 rfl (A.1 14 _ rfl) (A.2 14 0 15 rfl) ?_
      refine Rp.iconst (nI 0) dX4_add_18 (by decide) ?_
      refine Rp.bipush (nI 15) dX4_add_19 (by decide) ?_
      refine Rp.acopy dX4_add_21 ac_X4_17 (A.1 15 _ rfl) (A.1 15 _ rfl) (by decide) (Nat.le_of_ble_eq_true rfl) ?_
      refine Rp.aload_n dX4_add_24 rfl rfl ?_
      refine Rp.bipush (nI 15) dX4_add_25 (by decide) ?_
      refine Rp.putI dX4_add_27 fk_X4_13w rfl (A.1 14 _ rfl) ?_
      exact k1
  · have h16 : E.length < 16 := by have := L.1; omega
    have k1 := fin h E A L h16 Fr.rfl'
    unfold lgA
    rw [if_neg hq]
    refine Rp.aload_n dX4_add_0 rfl rfl ?_
    refine Rp.getI dX4_add_1 fk_X4_13 rfl (A.1 14 _ rfl) ?_
    first | rw [ez] | skip
    refine Rp.bipush (nI 16) dX4_add_4 (by decide) ?_
    first | ((with_reducible show Rp _ _ _ _ (.int (nI _) :: .int (nI _) :: _) _ _); refine Rp.icmp_ltN (tgt := 30) dX4_add_6 (by decide) (by omega) (fun c6 => ?_) (fun c6 => ?_)) | refine Rp.icmp_lt (tgt := 30) dX4_add_6 (by decide) (fun c6 => ?_) (fun c6 => ?_)
    · skip
      exact k1
    · skip
      first | (exfalso; omega) | exact absurd c6 (by decide) | exact absurd (by decide) c6
end Lg
