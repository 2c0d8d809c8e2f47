/-- the next lot -/
def lc (x : Nat) : Nat := (x * 1103 + 12345) % 1000003
theorem lc_lt (x : Nat) : lc x < 1000003 := Nat.mod_lt _ (by decide)
theorem z64_remN {a b : Nat} (ha : a < 4000000000) (hb : 0 < b) (hb2 : b < 4000000000) : Int64.ofInt (a : Int) - Int64.ofInt (a : Int) / Int64.ofInt (b : Int) * Int64.ofInt (b : Int) = Int64.ofInt ((a % b : Nat) : Int) := by
  have m1 : Int64.minValue.toInt = -9223372036854775808 := rfl
  have m2 : Int64.maxValue.toInt = 9223372036854775807 := rfl
  rw [← Int64.ofInt_tdiv (by omega) (by omega) (by omega) (by omega), ← Int64.ofInt_mul, ← Int64.ofInt_sub]
  refine congrArg Int64.ofInt ?_
  have q1 : ((a : Int).tdiv (b : Int)) = ((a / b : Nat) : Int) := (Int.ofNat_tdiv a b).symm
  have q2 : ((a / b : Nat) : Int) * (b : Int) = ((a / b * b : Nat) : Int) := (Int.natCast_mul _ _).symm
  have q3 : a / b * b + a % b = a := Nat.div_add_mod' a b
  rw [q1, q2]
  omega
theorem z32_remN {a b : Nat} (ha : a < 2147483648) (hb : 0 < b) (hb2 : b < 2147483648) : nI a - nI a / nI b * nI b = nI (a % b) := by
  have nf : ∀ {n : Nat}, n < 2147483648 → nI n = Int32.ofInt (n : Int) := fun {n} hn => by rw [i32_eq, nI_toInt hn, Int32.toInt_ofInt_of_le (by omega) (by omega)]
  have m1 : Int32.minValue.toInt = -2147483648 := rfl
  have m2 : Int32.maxValue.toInt = 2147483647 := rfl
  have q0 : a % b < 2147483648 := Nat.lt_of_le_of_lt (Nat.mod_le _ _) ha
  rw [nf ha, nf hb2, nf q0, ← Int32.ofInt_tdiv (by omega) (by omega) (by omega) (by omega), ← Int32.ofInt_mul, ← Int32.ofInt_sub]
  refine congrArg Int32.ofInt ?_
  have q1 : ((a : Int).tdiv (b : Int)) = ((a / b : Nat) : Int) := (Int.ofNat_tdiv a b).symm
  have q2 : ((a / b : Nat) : Int) * (b : Int) = ((a / b * b : Nat) : Int) := (Int.natCast_mul _ _).symm
  have q3 : a / b * b + a % b = a := Nat.div_add_mod' a b
  rw [q1, q2]
  omega
theorem lcJ {x : Nat} (hx : x < 1000003) : Int64.ofInt (x : Int) * 1103 + 12345 - (Int64.ofInt (x : Int) * 1103 + 12345) / 1000003 * 1000003 = Int64.ofInt ((lc x : Nat) : Int) := by
  have e1 : Int64.ofInt (x : Int) * 1103 + 12345 = Int64.ofInt ((x * 1103 + 12345 : Nat) : Int) := by
    rw [show (1103 : Int64) = Int64.ofInt 1103 from rfl, show (12345 : Int64) = Int64.ofInt 12345 from rfl, ← Int64.ofInt_mul, ← Int64.ofInt_add]
    refine congrArg Int64.ofInt ?_
    omega
  have e2 : (1000003 : Int64) = Int64.ofInt ((1000003 : Nat) : Int) := rfl
  rw [e1, e2]
  exact z64_remN (by omega) (by decide) (by decide)
section Lt
variable (d : Nat) {h : AH}
theorem t_lot (S : ShOK h) {x n : Nat} (hx : x < 1000003) (hn : 0 < n ∧ n < 100) (e : gL h 45 1 = Int64.ofInt (x : Int)) : Rp d M_X0_lot 0 [some (.ref 45), some (.int (nI n))] [] h (fun r h' => h' = sL h 45 1 (Int64.ofInt ((lc x : Nat) : Int)) ∧ r = some (.int (nI (lc x % n)))) := by
  have L := lc_lt x
  have n0 : ¬ nI n ≤ 0 := by rw [i32_le, nI_toInt (by omega)]; show ¬ ((n : Nat) : Int) ≤ 0; omega
  have e64 : (nI n).toInt64 = Int64.ofInt (n : Int) := nI64 (by omega)
  have nz : ¬ Int64.ofInt (n : Int) = 0 := fun z => by
    have := congrArg Int64.toInt z
    rw [Int64.toInt_ofInt_of_le (by omega) (by omega)] at this
    have t0 : (0 : Int64).toInt = 0 := rfl
    omega
  have q0 : lc x % n < n := Nat.mod_lt _ hn.1
  refine Rp.aload_n dX0_lot_0 rfl rfl ?_
  refine Rp.aload_n dX0_lot_1 rfl rfl ?_
  refine Rp.getL dX0_lot_2 fk_X0_93 rfl (S _ _ rfl) ?_
  first | rw [e] | rw [gL_hit] | skip
  refine Rp.ldc2 dX0_lot_5 kc_X0_97 ?_
  refine Rp.lmul dX0_lot_8 ?_
  refine Rp.ldc2 dX0_lot_9 kc_X0_99 ?_
  refine Rp.ladd dX0_lot_12 ?_
  refine Rp.ldc2 dX0_lot_13 kc_X0_101 ?_
  refine Rp.lrem dX0_lot_16 (by decide) ?_
  rw [lcJ hx]
  refine Rp.putL dX0_lot_17 fk_X0_93w rfl (S _ _ rfl) ?_
  refine Rp.iload_n dX0_lot_20 rfl ?_
  refine Rp.if_le (tgt := 35) dX0_lot_21 (by decide) (fun c21 => ?_) (fun c21 => ?_)
  · skip
    exact absurd c21 n0
  · skip
    refine Rp.aload_n dX0_lot_24 rfl rfl ?_
    refine Rp.getL dX0_lot_25 fk_X0_93 rfl (S _ _ rfl) ?_
    first | rw [e] | rw [gL_hit] | skip
    refine Rp.iload_n dX0_lot_28 rfl ?_
    refine Rp.i2l dX0_lot_29 ?_
    rw [e64]
    refine Rp.lrem dX0_lot_30 nz ?_
    rw [z64_remN (by omega) hn.1 (by omega)]
    refine Rp.l2i dX0_lot_31 ?_
    rw [z64_nI (by omega)]
    refine Rp.goto (tgt := 36) dX0_lot_32 (by decide) ?_
    refine Rp.ireturn dX0_lot_36 rfl ?_
    exact ⟨rfl, rfl⟩
theorem s_draws (S : ShOK h) {x n : Nat} (hx : x < 1000003) (hn : 0 < n ∧ n < 100) (e : gI h aM 59 = nI x) : Rp d M_X12_draws 0 [some (.ref aM), some (.int (nI n))] [] h (fun r h' => h' = sI h aM 59 (nI (lc x)) ∧ r = some (.int (nI (lc x % n)))) := by
  have L := lc_lt x
  have e64 : (nI x).toInt64 = Int64.ofInt (x : Int) := nI64 (by omega)
  have nz : ¬ nI n = 0 := fun z => by
    have := congrArg Int32.toInt z
    rw [nI_toInt (by omega)] at this
    have t0 : (0 : Int32).toInt = 0 := rfl
    omega
  have ec : (1103 : Int64) * Int64.ofInt (x : Int) = Int64.ofInt (x : Int) * 1103 := Int64.mul_comm _ _
  refine Rp.aload_n dX12_draws_0 rfl rfl ?_
  refine Rp.ldc2 dX12_draws_1 kc_X12_513 ?_
  refine Rp.aload_n dX12_draws_4 rfl rfl ?_
  refine Rp.getI dX12_draws_5 fk_X12_515 rfl (S _ _ rfl) ?_
  first | rw [e] | rw [gI_hit] | skip
  refine Rp.i2l dX12_draws_8 ?_
  rw [e64]
  refine Rp.lmul dX12_draws_9 ?_
  rw [ec]
  refine Rp.ldc2 dX12_draws_10 kc_X12_518 ?_
  refine Rp.ladd dX12_draws_13 ?_
  refine Rp.ldc2 dX12_draws_14 kc_X12_520 ?_
  refine Rp.lrem dX12_draws_17 (by decide) ?_
  rw [lcJ hx]
  refine Rp.l2i dX12_draws_18 ?_
  rw [z64_nI (by omega)]
  refine Rp.putI dX12_draws_19 fk_X12_515w rfl (S _ _ rfl) ?_
  refine Rp.aload_n dX12_draws_22 rfl rfl ?_
  refine Rp.getI dX12_draws_23 fk_X12_515 rfl (S _ _ rfl) ?_
  first | rw [e] | rw [gI_hit] | skip
  refine Rp.iload_n dX12_draws_26 rfl ?_
  refine Rp.irem dX12_draws_27 nz ?_
  rw [z32_remN (by omega) hn.1 (by omega)]
  refine Rp.ireturn dX12_draws_28 rfl ?_
  exact ⟨rfl, rfl⟩
end Lt
