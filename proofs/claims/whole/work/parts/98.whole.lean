theorem law_Rp (L : Nat) (xs : Nat → Int32) (hL : L ≤ 3072) : ∃ D : Nat, D ≤ 2048 ∧ Rp D M_L_law 0 [some (.float 0), none, none, none] [] (h0L L xs) (fun r h' => r = some (.int (nI 1)) ∧ aN h' ≤ 600000 ∧ aZ h' ≤ 7302250) := sorry
theorem whole_start {p : Program} {e : Env} {s : State} {m : MethodId} {below : List Frame} {meth : Method} {c : Code} (l : Launch) {b L : Nat} {xs : Nat → Int32} (hL : L ≤ 3072) (C0 : lw_At p s m meth c b L xs) : W p l e room_1 s m #[Value.ref b] below meth c s.heap [] 0 0 (lw_Z below #[Value.ref b] s) (entryFrame m ([Value.ref b] : List Value).toArray 4) := by
  obtain ⟨D, hD, v, h', r, rfl, hN, hZ⟩ := law_Rp L xs hL
  exact law_glue l C0 r hD hN hZ
