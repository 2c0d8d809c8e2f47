def isSm (b : Int32) : Bool := decide (nI 97 ≤ b ∧ b ≤ nI 122)
def isDg (b : Int32) : Bool := decide (nI 48 ≤ b ∧ b ≤ nI 57)
/-- n bytes of a tape -/
def sl (tb : Nat → Int32) (s n : Nat) : List Int32 := (List.range n).map fun i => tb (s + i)
def W29 : List (List Int32) := [[116, 97, 107, 101, 115], [99, 111, 115, 116, 115], [102, 105, 116, 115], [98, 97, 114, 115], [105, 102], [111, 114], [97, 110, 100], [110, 111, 116], [112, 101, 114, 115, 111, 110], [98, 117, 115, 105, 110, 101, 115, 115], [116, 105, 99, 107, 101, 116], [110, 117, 109, 98, 101, 114], [107, 105, 110, 100], [115, 112, 101, 101, 100], [109, 111, 111, 100], [112, 97, 116, 105, 101, 110, 99, 101], [109, 105, 110, 117, 116, 101], [100, 111, 110, 101], [108, 97, 116, 101, 115, 116], [102, 105, 116], [102, 114, 101, 101], [104, 97, 115], [100, 114, 97, 119], [98, 121], [115, 119, 97, 112], [119, 105, 116, 104], [100, 114, 111, 112], [112, 97, 115, 115], [116, 105, 109, 101, 115]]
def flW (ws : List (List Int32)) : List Int32 := ws.flatMap fun x => x ++ [32]
def fiW : List (List Int32) → List Int32 → Nat → Nat
  | [], _, _ => 0
  | x :: r, t, w => if x = t then w else fiW r t (w + 1)
def runE (p : Int32 → Bool) (tb : Nat → Int32) (L : Nat) : Nat → Nat → Nat
  | 0, k => k
  | m + 1, k => if k < L ∧ p (tb k) = true then runE p tb L m (k + 1) else k
def tokE (tb : Nat → Int32) (L k : Nat) : Nat := if isSm (tb k) = true then runE isSm tb L (L - (k + 1)) (k + 1) else if isDg (tb k) = true then runE isDg tb L (L - (k + 1)) (k + 1) else k + 1
def toks (tb : Nat → Int32) (L : Nat) : Nat → Nat → List (Nat × Nat)
  | 0, _ => []
  | m + 1, k => if k < L then (if tb k = 32 then toks tb L m (k + 1) else (k, tokE tb L k) :: toks tb L m (tokE tb L k)) else []
def ub (x : Int32) : Nat := (x &&& nI 255).toInt.toNat
def vSt (acc : Nat) (x : Int32) : Nat := if 1000000 < acc then acc else 10 * acc + (x.toInt - 48).toNat
def vF (tb : Nat → Int32) (k : Nat) : Nat → Nat
  | 0 => 0
  | n + 1 => vSt (vF tb k n) (tb (k + n))
def tkC (tb : Nat → Int32) (q : Nat × Nat) : Nat := if isSm (tb q.1) = true then fiW W29 (sl tb q.1 (q.2 - q.1)) 1 else if isDg (tb q.1) = true then 50 else 100 + ub (tb q.1)
def tkV (tb : Nat → Int32) (q : Nat × Nat) : Nat := if isDg (tb q.1) = true then vF tb q.1 (q.2 - q.1) else 0
def cT (tb : Nat → Int32) (TL : List (Nat × Nat)) (j : Nat) : Nat := match TL[j]? with
  | some q => tkC tb q
  | none => 0
def vT (tb : Nat → Int32) (TL : List (Nat × Nat)) (j : Nat) : Nat := match TL[j]? with
  | some q => tkV tb q
  | none => 0
def pT (L : Nat) (TL : List (Nat × Nat)) (j : Nat) : Nat := match TL[j]? with
  | some q => q.1
  | none => L
theorem runE_bnd (p : Int32 → Bool) (tb : Nat → Int32) (L : Nat) : ∀ m k, k ≤ L → k ≤ runE p tb L m k ∧ runE p tb L m k ≤ L
  | 0, k, h => ⟨Nat.le_refl _, h⟩
  | m + 1, k, h => by
    rw [runE]
    by_cases hq : k < L ∧ p (tb k) = true
    · rw [if_pos hq]
      have := runE_bnd p tb L m (k + 1) hq.1
      omega
    · rw [if_neg hq]; exact ⟨Nat.le_refl _, h⟩
theorem tokE_bnd (tb : Nat → Int32) (L k : Nat) (h : k < L) : k < tokE tb L k ∧ tokE tb L k ≤ L := by
  unfold tokE
  by_cases h1 : isSm (tb k) = true
  · rw [if_pos h1]
    have := runE_bnd isSm tb L (L - (k + 1)) (k + 1) h
    omega
  · rw [if_neg h1]
    by_cases h2 : isDg (tb k) = true
    · rw [if_pos h2]
      have := runE_bnd isDg tb L (L - (k + 1)) (k + 1) h
      omega
    · rw [if_neg h2]; omega
theorem fiW_le : ∀ (ws : List (List Int32)) (t : List Int32) (w : Nat), fiW ws t w ≤ w + ws.length
  | [], _, _ => Nat.zero_le _
  | x :: r, t, w => by
    rw [fiW]
    have := fiW_le r t (w + 1)
    rw [List.length_cons]
    split <;> omega
theorem ub_lt (x : Int32) : ub x < 256 ∧ x &&& nI 255 = nI (ub x) := by
  have e : (x &&& nI 255).toBitVec = x.toBitVec &&& (nI 255).toBitVec := Int32.toBitVec_and ..
  have e2 : ((x &&& nI 255).toBitVec).toNat < 256 := by
    rw [e, BitVec.toNat_and]
    exact Nat.lt_of_le_of_lt Nat.and_le_right (by decide)
  have e3 : (x &&& nI 255).toInt = (((x &&& nI 255).toBitVec).toNat : Int) := by
    rw [← Int32.toInt_toBitVec, BitVec.toInt_eq_toNat_of_lt (by omega)]
  have e4 : ub x = ((x &&& nI 255).toBitVec).toNat := by
    unfold ub
    rw [e3]; rfl
  refine ⟨by omega, ?_⟩
  rw [i32_eq, nI_toInt (by omega), e3, e4]
theorem vF_lt (tb : Nat → Int32) (hb : ∀ i, (tb i).toInt ≤ 127) (k : Nat) : ∀ n, vF tb k n < 20000000
  | 0 => by show (0 : Nat) < 20000000; decide
  | n + 1 => by
    rw [vF]
    unfold vSt
    have h1 := vF_lt tb hb k n
    have h2 := hb (k + n)
    split <;> omega
theorem tkC_lt (tb : Nat → Int32) (q : Nat × Nat) : tkC tb q < 1000 := by
  unfold tkC
  split
  · have := fiW_le W29 (sl tb q.1 (q.2 - q.1)) 1
    have e : W29.length = 29 := by decide
    omega
  · split
    · decide
    · have := (ub_lt (tb q.1)).1
      omega
theorem flW_cons (x : List Int32) (r : List (List Int32)) : flW (x :: r) = x ++ 32 :: flW r := by
  unfold flW
  rw [List.flatMap_cons, List.append_assoc]
  rfl
theorem sI_sI (h : AH) (k j : Nat) (x y : Int32) : sI (sI h k j x) k j y = sI h k j y := by
  refine ah_ext rfl (fun a b => ?_) rfl
  rw [gI_sI, gI_sI, gI_sI]
  by_cases h1 : a = k
  · rw [if_pos h1, if_pos h1, if_pos h1]
    by_cases h2 : b = j
    · rw [if_pos h2, if_pos h2]
    · rw [if_neg h2, if_neg h2, if_neg h2]
  · rw [if_neg h1, if_neg h1, if_neg h1]
theorem sI_comm (h : AH) {k k' : Nat} (hk : k ≠ k') (j j' : Nat) (x y : Int32) : sI (sI h k j x) k' j' y = sI (sI h k' j' y) k j x := by
  refine ah_ext rfl (fun a b => ?_) rfl
  rw [gI_sI, gI_sI, gI_sI, gI_sI]
  by_cases h1 : a = k
  · have h2 : a ≠ k' := fun z => hk (h1.symm.trans z)
    rw [if_neg h2, if_neg h2, if_pos h1]
  · rw [if_neg h1, if_neg h1]
theorem sl_eq {tb : Nat → Int32} {s n : Nat} {x : List Int32} : x = sl tb s n ↔ x.length = n ∧ ∀ i, i < n → x.getD i 0 = tb (s + i) := by
  have hl : (sl tb s n).length = n := by unfold sl; rw [List.length_map, List.length_range]
  constructor
  · rintro rfl
    refine ⟨hl, fun i hi => ?_⟩
    unfold sl
    rw [List.getD_eq_getElem?_getD, List.getElem?_map, List.getElem?_range hi]
    rfl
  · rintro ⟨h1, h2⟩
    apply List.ext_getElem?
    intro i
    by_cases hi : i < n
    · have h5 := h2 i hi
      rw [List.getD_eq_getElem?_getD, List.getElem?_eq_getElem (by omega)] at h5
      rw [List.getElem?_eq_getElem (by omega)]
      unfold sl
      rw [List.getElem?_map, List.getElem?_range hi]
      exact congrArg some h5
    · rw [List.getElem?_eq_none (by omega), List.getElem?_eq_none (by omega)]
