theorem iv_rf : rfL.all (fun q => decide (gR HI0 q.1 q.2 = rf0 q.1 q.2)) = true := by decide +kernel
theorem iv_k : (List.range 109).all (fun j => decide (gI HI0 102 j = if j < 6 then -1 else if j = 101 then nI 9 else if j = 108 then -1 else nI 0)) = true := by decide +kernel
theorem iv_0 : [(1, 0), (1, 5), (1, 9), (1, 12), (1, 16), (15, 1), (13, 0), (13, 2), (52, 7), (52, 8), (34, 0), (34, 1), (104, 0), (104, 1), (35, 2), (100, 13), (100, 32), (0, 14), (100, 0), (0, 15), (100, 6)].all (fun (q : Nat × Nat) => decide (gI HI0 q.1 q.2 = nI 0)) = true := by decide +kernel
theorem iv_1 : [(1, 18), (35, 3), (100, 14), (0, 16), (100, 50), (100, 58)].all (fun (q : Nat × Nat) => decide (gI HI0 q.1 q.2 = -1)) = true := by decide +kernel
theorem iv_9 : gI HI0 13 1 = nI 9 := by decide +kernel
theorem iv_z : [(2, 6), (3, 6), (5, 48), (6, 8), (7, 8), (9, 3), (10, 3), (11, 6), (12, 6), (65, 5), (101, 7)].all (fun (q : Nat × Nat) => (List.range q.2).all (fun j => decide (gI HI0 q.1 j = nI 0))) = true := by decide +kernel
theorem iv_m : [(4, 6), (8, 8), (66, 6)].all (fun (q : Nat × Nat) => (List.range q.2).all (fun j => decide (gI HI0 q.1 j = -1))) = true := by decide +kernel
theorem iv_w : (List.range 157).all (fun i => decide (gI HI0 106 i = (flW W29).getD i 0)) = true := by decide +kernel
theorem iv_t : (List.range 6).all (fun i => decide (gR HI0 14 i = none)) = true := by decide +kernel
theorem iv_sz : (SH0.map Prod.snd).sum ≤ 40000 ∧ SH0.length ≤ 129 := by decide +kernel
set_option maxRecDepth 200000 in
theorem iv_43 (j : Nat) : gI HI0 43 j = 0 := rfl
set_option maxRecDepth 200000 in
theorem iv_64 (j : Nat) : gI HI0 64 j = 0 := rfl
set_option maxRecDepth 200000 in
theorem iv_36 (j : Nat) : gI HI0 36 j = 0 := rfl
set_option maxRecDepth 200000 in
theorem iv_107 (j : Nat) : gI HI0 107 j = 0 := rfl
