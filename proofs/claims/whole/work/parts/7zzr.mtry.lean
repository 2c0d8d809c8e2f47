theorem bit_tb : ∀ U, U < 64 → ∀ i, i < 6 → bitB (nI U) (nI i) = Nat.testBit U i := by decide +kernel
theorem bit_or : ∀ U, U < 64 → ∀ i, i < 6 → (nI U ||| (nI 1 <<< (nI i &&& 31))) = nI (U ||| 2 ^ i) ∧ U ||| 2 ^ i < 64 := by decide +kernel
theorem tb_or : ∀ U, U < 64 → ∀ i, i < 6 → ∀ j, j < 6 → Nat.testBit (U ||| 2 ^ i) j = (Nat.testBit U j || decide (i = j)) := by decide +kernel
/-- the reference amid the ways, k of its holders placed -/
def RWy (g : AH) (K : Nat → Int32) (np nt : Nat) (W : Nat → Int32) (k U : Nat) : Prop := ShOK g ∧ RfOK g ∧ LH g K np nt ∧ (∀ j, 6 ≤ j → gI g 102 j = K j) ∧ (∀ q, q < 6 → K q = -1 → gI g 102 q = -1) ∧ (∀ i q, i < k → (hlR K np 0)[i]? = some q → gI g 102 q = W q) ∧ VH W np nt ∧ (∀ q, K q = -1 → W q = -1) ∧ (∀ i q, k ≤ i → (hlR K np 0)[i]? = some q → W q = -1) ∧ U < 64 ∧ (∀ i t, (tkL K np nt 0)[i]? = some t → Nat.testBit U i = decide (hOf W (nI t) np ≠ -1))
theorem RWy.fr {X : Nat → Nat → Bool} {g g' : AH} {K : Nat → Int32} {np nt : Nat} {W : Nat → Int32} {k U : Nat} (B : RWy g K np nt W k U) (F : Fr X g g') (hx : xok X = true) (h102 : ∀ j, X 102 j = false) (h119 : ∀ j, X 119 j = false) (h120 : ∀ j, X 120 j = false) (h39 : X 100 39 = false) : RWy g' K np nt W k U := by
  obtain ⟨S, R, L, b1, b2, b3, b4⟩ := B
  exact ⟨F.S S, F.R R hx, ⟨(F.I _ _ h39).trans L.1, fun i q hi => (F.I _ _ (h119 _)).trans (L.2.1 i q hi), fun i q hi => (F.I _ _ (h120 _)).trans (L.2.2 i q hi)⟩, fun j hj => (F.I _ _ (h102 _)).trans (b1 j hj), fun q hq e => (F.I _ _ (h102 _)).trans (b2 q hq e), fun i q hi e => (F.I _ _ (h102 _)).trans (b3 i q hi e), b4⟩
section Rb
variable {g : AH} {K : Nat → Int32} {np nt : Nat} {W : Nat → Int32} {k U : Nat}
/-- one more is placed -/
theorem RWy.put (B : RWy g K np nt W k U) (V : VH K np nt) {p i t : Nat} (hp : (hlR K np 0)[k]? = some p) (ht : (tkL K np nt 0)[i]? = some t) (hu : hOf W (nI t) np = -1) (hi : i < 6) : RWy (sI g 102 p (nI t)) K np nt (upK W p (nI t)) (k + 1) (U ||| 2 ^ i) := by
  obtain ⟨S, R, L, b1, b2, b3, b4, b5, b6, b7, b8⟩ := B
  have mp := hlR_mem np 0 p (List.mem_of_getElem? hp)
  have mt := tkL_mem nt 0 t (List.mem_of_getElem? ht)
  have v1 := V.1
  have v2 := V.2.1
  have tl6 : (tkL K np nt 0).length ≤ 6 := by rw [V.lens, hlR_len]; exact Nat.le_trans (cntH_le _ _) v1
  have hWp : W p = -1 := b6 k p (Nat.le_refl _) hp
  refine ⟨S, R, ⟨L.1, fun i q h => (gI_ne _ _ _ _ (by decide)).trans (L.2.1 i q h), fun i q h => (gI_ne _ _ _ _ (by decide)).trans (L.2.2 i q h)⟩, fun j hj => ?_, fun q hq e => ?_, fun i' q hi' e => ?_, b4.give (by omega) (by omega) hu, fun q e => ?_, fun i' q hi' e => ?_, (bit_or U b7 i hi).2, fun i' t' e => ?_⟩
  · rw [gI_at, if_neg (by omega)]; exact b1 j hj
  · rw [gI_at, if_neg (fun z => mp.2.2 (by rw [← z]; exact e))]; exact b2 q hq e
  · unfold upK
    rw [gI_at]
    by_cases z : q = p
    · rw [if_pos z, if_pos z]
    · rw [if_neg z, if_neg z]
      exact b3 i' q (by
        have : i' ≠ k := fun y => z (by rw [y, hp] at e; cases e; rfl)
        omega) e
  · unfold upK
    rw [if_neg (fun z => mp.2.2 (by rw [← z]; exact e))]; exact b5 q e
  · unfold upK
    rw [if_neg (fun z => by
      rw [z] at e
      have := hlR_inj hp e
      omega)]
    exact b6 i' q (by omega) e
  · have il := (List.getElem?_eq_some_iff.mp e).1
    rw [tb_or U b7 i hi i' (by omega), b8 i' t' e]
    by_cases z : i = i'
    · subst z
      rw [ht] at e
      cases e
      rw [decide_eq_true (rfl : i = i), Bool.or_true]
      refine (decide_eq_true ?_).symm
      rw [hOf_one (p := p) (by unfold upK; rw [if_pos rfl]) np (by omega) (fun q hq y => by
        unfold upK at y
        by_cases x : q = p
        · exact x
        · rw [if_neg x] at y
          exact absurd y (hOf_m1 np (by omega) hu q hq))]
      exact nI_m1 (by omega)
    · rw [decide_eq_false z, Bool.or_false]
      have ne : t ≠ t' := fun y => z (tkL_inj ht (by rw [y]; exact e))
      have mt' := tkL_mem nt 0 t' (List.mem_of_getElem? e)
      rw [hOf_congr (f := upK W p (nI t)) (g := W) np (fun q hq => by
        unfold upK
        by_cases x : q = p
        · rw [if_pos x, x, hWp]
          exact ⟨fun y => absurd (nI_inj (by omega) (by omega) y) ne, fun y => absurd y.symm (nI_m1 (by omega))⟩
        · rw [if_neg x])]
/-- and taken again -/
theorem RWy.unput {p t U' : Nat} (B : RWy g K np nt (upK W p (nI t)) (k + 1) U') (V : VH W np nt) (h5 : ∀ q, K q = -1 → W q = -1) (h6 : ∀ i q, k ≤ i → (hlR K np 0)[i]? = some q → W q = -1) (h7 : U < 64) (h8 : ∀ i t, (tkL K np nt 0)[i]? = some t → Nat.testBit U i = decide (hOf W (nI t) np ≠ -1)) (hp : (hlR K np 0)[k]? = some p) : RWy g K np nt W k U := by
  obtain ⟨S, R, L, b1, b2, b3, -⟩ := B
  refine ⟨S, R, L, b1, b2, fun i q hi e => ?_, V, h5, h6, h7, h8⟩
  rw [b3 i q (by omega) e]
  unfold upK
  rw [if_neg (fun z => by
    rw [z] at e
    have := hlR_inj hp e
    omega)]
/-- all are placed -/
theorem RWy.leaf (B : RWy g K np nt W (hlR K np 0).length U) (V : VH K np nt) : gI g 102 = mixK W K := funext fun j => by
  obtain ⟨S, R, L, b1, b2, b3, b4, b5, b6, b7, b8⟩ := B
  by_cases h6 : j < 6
  · rw [mixK_lo h6]
    by_cases e : K j = -1
    · rw [b2 j h6 e, b5 j e]
    · have hj : j < np := by
        rcases V.2.2.1 j h6 with z | z
        · exact absurd z e
        · exact z.1
      obtain ⟨i, hi⟩ := List.mem_iff_getElem?.mp (hlR_in np 0 j (Nat.zero_le _) (by omega) e)
      exact b3 i j (List.getElem?_eq_some_iff.mp hi).1 hi
  · rw [mixK_hi (by omega)]; exact b1 j (by omega)
end Rb
/-- the reference's day over a way -/
theorem MBd.mix {g h : AH} {fl : Option (List CLE)} {np nt nd : Nat} {W : Nat → Int32} (A : MBd h fl np nt nd) (S : ShOK g) (R : RfOK g) (V : VH W np nt) (e : gI g 102 = mixK W (gI h 102)) : MBd g fl np nt nd := by
  obtain ⟨-, -, hF, B, VDd, hD, VNn, V0, hM⟩ := A
  have hi : ∀ j, 6 ≤ j → mixK W (gI h 102) j = gI h 102 j := fun j hj => mixK_hi hj
  obtain ⟨m, hm, e6⟩ := B.2.2.2.2.2.1
  have e : gI g am_kept = mixK W (gI h 102) := e
  refine ⟨S, R, ?_, ?_, ?_, ?_, ?_, ?_, ?_⟩
  · rw [e]; exact hF.hi (fun j hj => hi j (by omega))
  · rw [e]; exact B.hi (fun j hj => hi j (by omega)) hm ((hi 6 (by decide)).trans e6)
  · rw [e]; exact ⟨VDd.1, fun x hx => by rw [hi _ (by omega)]; exact VDd.2 x hx⟩
  · rw [e, hi _ (by decide)]; exact hD
  · rw [e]; exact ⟨VNn.1, fun x hx => by rw [hi _ (by omega)]; exact VNn.2.1 x hx, fun x y hx hy => by rw [hi _ (by omega), hi _ (by omega)]; exact VNn.2.2 x y hx hy⟩
  · rw [e]
    exact ⟨V.1, V.2.1, fun p hp => by rw [mixK_lo hp]; exact V.2.2.1 p hp, fun p q hp hq => by
      have := V.1
      rw [mixK_lo (by omega), mixK_lo (by omega)]; exact V.2.2.2 p q hp hq⟩
  · rw [e, hi _ (by decide)]; exact hM
