/-- the law's walk out of its judgement -/
theorem law_glue {p : Program} {e : Env} {s : State} {m : MethodId} {below : List Frame} {meth : Method} {c : Code} (l : Launch) {b L : Nat} {xs : Nat → Int32} (C0 : lw_At p s m meth c b L xs) {d : Nat} {h' : AH} (r : Rj d M_L_law 0 [some (.float 0), none, none, none] [] (h0L L xs) (some (.int (nI 1))) h') (hd : d ≤ 2048) (hN : aN h' ≤ 600000) (hZ : aZ h' ≤ 7302250) : W p l e room_1 s m #[Value.ref b] below meth c s.heap [] 0 0 (lw_Z below #[Value.ref b] s) (entryFrame m ([Value.ref b] : List Value).toArray 4) := by
  obtain ⟨hx, hb, hr, hml, hown, hts, hX, hbl, hlocks, hgv⟩ := C0
  obtain ⟨T, hT⟩ := Str_ex hgv hts
  have htg : ∀ w ∈ gw, w.before #[Value.ref b] s = true := fun w hw => hts w (gw_in hw)
  have ao1 : va_AO "TicketHall$Text" s := va_AO.of (in_tb hts (tb1 37 rfl))
  have ao2 : va_AO "TicketHall$Hall" s := va_AO.of (in_tb hts (tb1 172 rfl))
  obtain ⟨D, aC, hK⟩ := K_ex htg ao1 ao2
  have hKst : Kst (s.heap.size, D, aC, T, b) (L, xs) s := by
    refine ⟨hK, hX, hbl, fun w hw => ?_, ao1, ao2, hT _ rfl rfl⟩
    simp only [nestW, List.mem_cons, List.not_mem_nil, or_false] at hw
    rcases hw with rfl | rfl | rfl | rfl | rfl | rfl
    · exact va_Nw.of rfl (in_tb hts (tb1 40 rfl))
    · exact va_Nw.of rfl (in_tb hts (tb1 175 rfl))
    · exact va_Nw.of rfl (in_tb hts (tb2 12 rfl))
    · exact va_Nw.of rfl (in_tb hts (tb2 56 rfl))
    · exact va_Nw.of rfl (in_tb hts (tb2 132 rfl))
    · exact va_Nw.of rfl (in_tb hts (tb4 79 rfl))
  have r1 := r.1
  have w := r.2.2.2 (s.heap.size, D, aC, T, b) p l e room_1 s m #[Value.ref b] below meth c s.heap [] 0 0 (aN h') (aZ h') 0 0 _ ⟨⟨hx, hb, hr, hml, hown, htg, hlocks, (fun z => absurd z (by decide)), hKst⟩, hd, (show 40 * d ≤ 84000 by omega), rfl, rfl, Nat.zero_add _, Nat.zero_add _, hN, hZ, ⟨⟨rfl, fun k q hq => by simp [h0L] at hq⟩, Nat.le_refl _, fun _ _ => rfl⟩, (fun _ z => by cases z), ent_lok (s.heap.size, D, aC, T, b) (vs := [.float 0]) (n := 4) (by decide)⟩
  rw [lg_entry_eq]
  refine W.weak ?_ w
  rintro t ⟨o, h1, h2, ⟨h3, -, -⟩, L', ⟨h4, h5, h6⟩, h7⟩
  exact ⟨o, h1, h2, h3, h4, h5, same_forget h6 h7 hN hZ⟩
