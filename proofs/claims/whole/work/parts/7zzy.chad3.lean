theorem fwX2_lo {k j : Nat} (h : 1 ≤ k ∧ k < 33) : fwX2 k j = false := by
  unfold fwX2 soX wzX plX
  rw [bX_lt (by omega), liX_n (by omega), wyX_n (by omega), jX_lt (by omega), dX_lt (by omega), wfX_n (by omega), show (k == 53) = false from beq_eq_false_iff_ne.mpr (by omega), show (k == 54) = false from beq_eq_false_iff_ne.mpr (by omega), show (k == 52) = false from beq_eq_false_iff_ne.mpr (by omega)]
  rfl
theorem fwX2_hi {k j : Nat} (h : 129 ≤ k) : fwX2 k j = false := by
  unfold fwX2 soX wzX plX
  rw [bX_T (ok129 h), liX_n (by omega), wyX_n (by omega), jX_T (ok129 h), dX_T (ok129 h), wfX_n (by omega), show (k == 53) = false from beq_eq_false_iff_ne.mpr (by omega), show (k == 54) = false from beq_eq_false_iff_ne.mpr (by omega), show (k == 52) = false from beq_eq_false_iff_ne.mpr (by omega)]
  rfl
/-- whom to ask: the one of whom it is least known -/
def askF (K : Nat → Int32) (L : List (Nat → Int32)) : Nat → Option (Nat × Nat)
  | 0 => none
  | n + 1 => if K n = -1 then askF K L n else match askF K L n with
    | none => some (n, mxW n L)
    | some (q, m) => if mxW n L < m then some (n, mxW n L) else some (q, m)
def askA (K : Nat → Int32) (np : Nat) (L : List (Nat → Int32)) (w : Int32) : Int32 := if inN w 2 = true then (if L.length = 0 then -1 else match askF K L np with
  | none => -1
  | some (q, m) => if ix w = 0 then nI q else nI m) else -1
theorem askF_b {K : Nat → Int32} {L : List (Nat → Int32)} : ∀ n q m, askF K L n = some (q, m) → q < n ∧ m ≤ L.length
  | 0, q, m, h => nomatch h
  | n + 1, q, m, h => by
    rw [askF] at h
    have b := mxW_le n L
    by_cases c : K n = -1
    · rw [if_pos c] at h
      have := askF_b n q m h
      omega
    · rw [if_neg c] at h
      match hx : askF K L n, h with
      | none, h => cases h; omega
      | some (q1, m1), h =>
        have := askF_b n q1 m1 hx
        dsimp only at h
        split at h
        · cases h; omega
        · cases h; omega
/-- how a finding stands in the class's two locals -/
def aqI (o : Option (Nat × Nat)) : Int32 := match o with
  | none => -1
  | some (q, _) => nI q
def amI (o : Option (Nat × Nat)) : Int32 := match o with
  | none => -1
  | some (_, m) => nI m
section Ch3
variable (d : Nat) {h : AH} {K : Nat → Int32} {np nt nd nl no : Nat} {LSs : Nat → List CLE} {E : List Int32}
theorem t_had (S : ShOK h) (R : RfOK h) (G : HG h 1 K np nt nd nl LSs E) (V : VH K np nt) (B : KB K) (VNn : VN K nt) (VDd : VD K nd) (VTt : VT K no) (hno : K 106 = nI no) (hz : ∀ j, 9 ≤ j → gI h 43 j = 0) {kn : Bool} (h8 : gI h 52 8 = b2i kn) (hk : kn = true → RSw K np no h (hdR K (flO nl LSs (K 108)) nd np nt no)) (i p : Int32) : Rp (d + 13) M_X11_had 0 [some (.ref 0), some (.int i), some (.int p)] [] h (fun r h' => r = some (.int (hdA np (hdR K (flO nl LSs (K 108)) nd np nt no) i p)) ∧ Fr fwX2 h h' ∧ ShOK h' ∧ RfOK h' ∧ (∀ j, 9 ≤ j → gI h' 43 j = 0) ∧ ∃ kn', gI h' 52 8 = b2i kn' ∧ (kn' = true → RSw K np no h' (hdR K (flO nl LSs (K 108)) nd np nt no))) := by
  have v1 := V.1
  have fw := t_findWays d S R G V B VNn VDd VTt hno hz h8 hk
  have hall := hdR_all (fl := flO nl LSs (K 108)) (nd := nd) (no := no) V
  have l7 := (hdR_cap (fl := flO nl LSs (K 108)) (nd := nd) (no := no) V).2
  have f0 : ∃ kn', gI h 52 8 = b2i kn' ∧ (kn' = true → RSw K np no h (hdR K (flO nl LSs (K 108)) nd np nt no)) := ⟨kn, h8, hk⟩
  generalize hdR K (flO nl LSs (K 108)) nd np nt no = L at fw hall l7 f0
  have ip := t_isPerson (d + 12) (k := 1) (S _ _ rfl) p v1 G.1.2.1
  unfold hdA
  by_cases d1 : i = -1
  · subst d1
    rw [if_pos rfl]
    refine Rp.iload_n dX11_had_0 rfl ?_
    refine Rp.iconst (-1) dX11_had_1 (by decide) ?_
    first | ((with_reducible show Rp _ _ _ _ (.int (nI _) :: .int (nI _) :: _) _ _); refine Rp.icmp_eqN (tgt := 35) dX11_had_2 (by decide) (by omega) (fun c2 => ?_) (fun c2 => ?_)) | refine Rp.icmp_eq (tgt := 35) dX11_had_2 (by decide) (fun c2 => ?_) (fun c2 => ?_)
    rotate_left
    · exact absurd rfl c2
    refine Rp.aload_n dX11_had_35 rfl rfl ?_
    refine Rp.getR dX11_had_36 fk_X11_64 rfl (S _ _ rfl) (R _ _ _ rfl) ?_
    refine Rp.aload_n dX11_had_39 rfl rfl ?_
    refine Rp.getR dX11_had_40 fk_X11_10 rfl (S _ _ rfl) (R _ _ _ rfl) ?_
    refine Rp.callV1 M_X6_findWays (ci := 6) dX11_had_43 mo_X6_findWays lk_X11_334 (by decide) rfl rfl (S _ _ rfl) (Nat.le_of_ble_eq_true rfl) (Nat.le_of_ble_eq_true rfl) (fw) (fun v1 h1 p1 x1 => ?_)
    obtain ⟨rfl, F1, S1, R1, z1, z8, r1⟩ := p1
    try dsimp only [Option.toList, List.cons_append, List.nil_append, List.append]
    skip
    have e12 : gI h1 52 12 = nI L.length := r1.2.1
    refine Rp.iload_n dX11_had_46 rfl ?_
    refine Rp.iconst (-1) dX11_had_47 (by decide) ?_
    first | ((with_reducible show Rp _ _ _ _ (.int (nI _) :: .int (nI _) :: _) _ _); refine Rp.icmp_neN (tgt := 59) dX11_had_48 (by decide) (by omega) (fun c48 => ?_) (fun c48 => ?_)) | refine Rp.icmp_ne (tgt := 59) dX11_had_48 (by decide) (fun c48 => ?_) (fun c48 => ?_)
    · skip
      exact absurd rfl c48
    · skip
      refine Rp.aload_n dX11_had_51 rfl rfl ?_
      refine Rp.getR dX11_had_52 fk_X11_64 rfl (S1 _ _ rfl) (R1 _ _ _ rfl) ?_
      refine Rp.getI dX11_had_55 fk_X11_337 rfl (S1 _ _ rfl) ?_
      first | rw [e12] | skip
      refine Rp.ireturn dX11_had_58 rfl ?_
      exact ⟨rfl, F1, S1, R1, z1, true, z8, fun _ => r1⟩
  · rw [if_neg d1]
    by_cases d2 : i < 0
    · rw [if_pos d2]
      refine Rp.iload_n dX11_had_0 rfl ?_
      refine Rp.iconst (-1) dX11_had_1 (by decide) ?_
      first | ((with_reducible show Rp _ _ _ _ (.int (nI _) :: .int (nI _) :: _) _ _); refine Rp.icmp_eqN (tgt := 35) dX11_had_2 (by decide) (by omega) (fun c2 => ?_) (fun c2 => ?_)) | refine Rp.icmp_eq (tgt := 35) dX11_had_2 (by decide) (fun c2 => ?_) (fun c2 => ?_)
      · skip
        exact absurd c2 d1
      · skip
        refine Rp.iload_n dX11_had_5 rfl ?_
        refine Rp.if_lt (tgt := 33) dX11_had_6 (by decide) (fun c6 => ?_) (fun c6 => ?_)
        · skip
          refine Rp.iconst (-1) dX11_had_33 (by decide) ?_
          refine Rp.ireturn dX11_had_34 rfl ?_
          exact ⟨rfl, Fr.rfl', S, R, hz, f0⟩
        · skip
          exact absurd d2 c6
    · rw [if_neg d2]
      obtain ⟨n, hn, rfl⟩ := i32_nn d2
      by_cases c3 : inN p np = true
      · rw [if_pos c3]
        rw [c3] at ip
        obtain ⟨q, hq, rfl⟩ := (inN_iff (by omega)).mp c3
        rw [ix_nI hn, ix_nI (by omega)]
        have ek : gI h 4 q = K q := G.1.2.2.2.2.2.2.2.2.2.1 q (by omega)
        by_cases c4 : K q = -1
        · have ea : pkW L[n]? q = -1 := by
            match hL : L[n]? with
            | none => rfl
            | some W => exact (((hall W (List.mem_of_getElem? hL)).2 q (by omega)).mpr c4)
          rw [ea]
          refine Rp.iload_n dX11_had_0 rfl ?_
          refine Rp.iconst (-1) dX11_had_1 (by decide) ?_
          first | ((with_reducible show Rp _ _ _ _ (.int (nI _) :: .int (nI _) :: _) _ _); refine Rp.icmp_eqN (tgt := 35) dX11_had_2 (by decide) (by omega) (fun c2 => ?_) (fun c2 => ?_)) | refine Rp.icmp_eq (tgt := 35) dX11_had_2 (by decide) (fun c2 => ?_) (fun c2 => ?_)
          · skip
            exact absurd c2 d1
          · skip
            refine Rp.iload_n dX11_had_5 rfl ?_
            refine Rp.if_lt (tgt := 33) dX11_had_6 (by decide) (fun c6 => ?_) (fun c6 => ?_)
            · skip
              exact absurd c6 d2
            · skip
              refine Rp.aload_n dX11_had_9 rfl rfl ?_
              refine Rp.getR dX11_had_10 fk_X11_10 rfl (S _ _ rfl) (R _ _ _ rfl) ?_
              refine Rp.iload_n dX11_had_13 rfl ?_
              refine Rp.callV1 M_X2_isPerson (ci := 2) dX11_had_14 mo_X2_isPerson lk_X11_125 (by decide) rfl rfl (S _ _ rfl) (Nat.le_of_ble_eq_true rfl) (Nat.le_of_ble_eq_true rfl) (ip) (fun v1 h1 p1 x1 => ?_)
              rw [p1.1, p1.2]
              try dsimp only [Option.toList, List.cons_append, List.nil_append, List.append]
              first | ((with_reducible show Rp _ _ _ _ (.int (b2i _) :: _) _ _); refine Rp.if_eqB (tgt := 33) dX11_had_17 (by decide) (fun c17 => ?_) (fun c17 => ?_)) | ((with_reducible show Rp _ _ _ _ (.int (nI _) :: _) _ _); refine Rp.if_eqN (tgt := 33) dX11_had_17 (by decide) (by omega) (fun c17 => ?_) (fun c17 => ?_)) | refine Rp.if_eq (tgt := 33) dX11_had_17 (by decide) (fun c17 => ?_) (fun c17 => ?_)
              · skip
                cases c17
              · skip
                refine Rp.aload_n dX11_had_20 rfl rfl ?_
                refine Rp.getR dX11_had_21 fk_X11_10 rfl (S _ _ rfl) (R _ _ _ rfl) ?_
                refine Rp.getR dX11_had_24 fk_X11_135 rfl (S _ _ rfl) (R _ _ _ rfl) ?_
                refine Rp.iload_n dX11_had_27 rfl ?_
                first | ((with_reducible show Rp _ _ _ _ (.int (nI _) :: _) _ _); refine Rp.ialoadN dX11_had_28 (S _ _ rfl) (by omega) ?_) | refine Rp.iaload dX11_had_28 (S _ _ rfl) (by first | assumption | exact vpb (by decide)) ?_
                first | rw [ek] | skip
                refine Rp.iconst (-1) dX11_had_29 (by decide) ?_
                first | ((with_reducible show Rp _ _ _ _ (.int (nI _) :: .int (nI _) :: _) _ _); refine Rp.icmp_neN (tgt := 35) dX11_had_30 (by decide) (by omega) (fun c30 => ?_) (fun c30 => ?_)) | refine Rp.icmp_ne (tgt := 35) dX11_had_30 (by decide) (fun c30 => ?_) (fun c30 => ?_)
                · skip
                  exact absurd c4 c30
                · skip
                  refine Rp.iconst (-1) dX11_had_33 (by decide) ?_
                  refine Rp.ireturn dX11_had_34 rfl ?_
                  exact ⟨rfl, Fr.rfl', S, R, hz, f0⟩
        · skip
          refine Rp.iload_n dX11_had_0 rfl ?_
          refine Rp.iconst (-1) dX11_had_1 (by decide) ?_
          first | ((with_reducible show Rp _ _ _ _ (.int (nI _) :: .int (nI _) :: _) _ _); refine Rp.icmp_eqN (tgt := 35) dX11_had_2 (by decide) (by omega) (fun c2 => ?_) (fun c2 => ?_)) | refine Rp.icmp_eq (tgt := 35) dX11_had_2 (by decide) (fun c2 => ?_) (fun c2 => ?_)
          · exact absurd c2 d1
          refine Rp.iload_n dX11_had_5 rfl ?_
          refine Rp.if_lt (tgt := 33) dX11_had_6 (by decide) (fun c6 => ?_) (fun c6 => ?_)
          · exact absurd c6 d2
          refine Rp.aload_n dX11_had_9 rfl rfl ?_
          refine Rp.getR dX11_had_10 fk_X11_10 rfl (S _ _ rfl) (R _ _ _ rfl) ?_
          refine Rp.iload_n dX11_had_13 rfl ?_
          refine Rp.callV1 M_X2_isPerson (ci := 2) dX11_had_14 mo_X2_isPerson lk_X11_125 (by decide) rfl rfl (S _ _ rfl) (Nat.le_of_ble_eq_true rfl) (Nat.le_of_ble_eq_true rfl) (ip) (fun v1 h1 p1 x1 => ?_)
          rw [p1.1, p1.2]
          try dsimp only [Option.toList, List.cons_append, List.nil_append, List.append]
          first | ((with_reducible show Rp _ _ _ _ (.int (b2i _) :: _) _ _); refine Rp.if_eqB (tgt := 33) dX11_had_17 (by decide) (fun c17 => ?_) (fun c17 => ?_)) | ((with_reducible show Rp _ _ _ _ (.int (nI _) :: _) _ _); refine Rp.if_eqN (tgt := 33) dX11_had_17 (by decide) (by omega) (fun c17 => ?_) (fun c17 => ?_)) | refine Rp.if_eq (tgt := 33) dX11_had_17 (by decide) (fun c17 => ?_) (fun c17 => ?_)
          · cases c17
          refine Rp.aload_n dX11_had_20 rfl rfl ?_
          refine Rp.getR dX11_had_21 fk_X11_10 rfl (S _ _ rfl) (R _ _ _ rfl) ?_
          refine Rp.getR dX11_had_24 fk_X11_135 rfl (S _ _ rfl) (R _ _ _ rfl) ?_
          refine Rp.iload_n dX11_had_27 rfl ?_
          first | ((with_reducible show Rp _ _ _ _ (.int (nI _) :: _) _ _); refine Rp.ialoadN dX11_had_28 (S _ _ rfl) (by omega) ?_) | refine Rp.iaload dX11_had_28 (S _ _ rfl) (by first | assumption | exact vpb (by decide)) ?_
          first | rw [ek] | skip
          refine Rp.iconst (-1) dX11_had_29 (by decide) ?_
          first | ((with_reducible show Rp _ _ _ _ (.int (nI _) :: .int (nI _) :: _) _ _); refine Rp.icmp_neN (tgt := 35) dX11_had_30 (by decide) (by omega) (fun c30 => ?_) (fun c30 => ?_)) | refine Rp.icmp_ne (tgt := 35) dX11_had_30 (by decide) (fun c30 => ?_) (fun c30 => ?_)
          rotate_left
          · exact absurd c30 c4
          refine Rp.aload_n dX11_had_35 rfl rfl ?_
          refine Rp.getR dX11_had_36 fk_X11_64 rfl (S _ _ rfl) (R _ _ _ rfl) ?_
          refine Rp.aload_n dX11_had_39 rfl rfl ?_
          refine Rp.getR dX11_had_40 fk_X11_10 rfl (S _ _ rfl) (R _ _ _ rfl) ?_
          refine Rp.callV1 M_X6_findWays (ci := 6) dX11_had_43 mo_X6_findWays lk_X11_334 (by decide) rfl rfl (S _ _ rfl) (Nat.le_of_ble_eq_true rfl) (Nat.le_of_ble_eq_true rfl) (fw) (fun v1 h1 p1 x1 => ?_)
          obtain ⟨rfl, F1, S1, R1, z1, z8, r1⟩ := p1
          try dsimp only [Option.toList, List.cons_append, List.nil_append, List.append]
          skip
          have e12 : gI h1 52 12 = nI L.length := r1.2.1
          match hL : L[n]? with
          | none =>
            have ln : L.length ≤ n := List.getElem?_eq_none_iff.mp hL
            refine Rp.iload_n dX11_had_46 rfl ?_
            refine Rp.iconst (-1) dX11_had_47 (by decide) ?_
            first | ((with_reducible show Rp _ _ _ _ (.int (nI _) :: .int (nI _) :: _) _ _); refine Rp.icmp_neN (tgt := 59) dX11_had_48 (by decide) (by omega) (fun c48 => ?_) (fun c48 => ?_)) | refine Rp.icmp_ne (tgt := 59) dX11_had_48 (by decide) (fun c48 => ?_) (fun c48 => ?_)
            · skip
              refine Rp.iload_n dX11_had_59 rfl ?_
              refine Rp.aload_n dX11_had_60 rfl rfl ?_
              refine Rp.getR dX11_had_61 fk_X11_64 rfl (S1 _ _ rfl) (R1 _ _ _ rfl) ?_
              refine Rp.getI dX11_had_64 fk_X11_337 rfl (S1 _ _ rfl) ?_
              first | rw [e12] | skip
              first | ((with_reducible show Rp _ _ _ _ (.int (nI _) :: .int (nI _) :: _) _ _); refine Rp.icmp_geN (tgt := 82) dX11_had_67 (by decide) (by omega) (fun c67 => ?_) (fun c67 => ?_)) | refine Rp.icmp_ge (tgt := 82) dX11_had_67 (by decide) (fun c67 => ?_) (fun c67 => ?_)
              · skip
                refine Rp.iconst (-1) dX11_had_82 (by decide) ?_
                refine Rp.ireturn dX11_had_83 rfl ?_
                exact ⟨rfl, F1, S1, R1, z1, true, z8, fun _ => r1⟩
              · skip
                first | (exfalso; omega) | exact absurd c67 (by decide) | exact absurd (by decide) c67
            · skip
              exact absurd c48 d1
          | some W =>
            have ln := (List.getElem?_eq_some_iff.mp hL).1
            have hw := hall W (List.mem_of_getElem? hL)
            have ti := t_ticketIn (d + 12) S1 R1 r1 hL hw.1 hq (fun z => c4 ((hw.2 q (by omega)).mp z))
            refine Rp.iload_n dX11_had_46 rfl ?_
            refine Rp.iconst (-1) dX11_had_47 (by decide) ?_
            first | ((with_reducible show Rp _ _ _ _ (.int (nI _) :: .int (nI _) :: _) _ _); refine Rp.icmp_neN (tgt := 59) dX11_had_48 (by decide) (by omega) (fun c48 => ?_) (fun c48 => ?_)) | refine Rp.icmp_ne (tgt := 59) dX11_had_48 (by decide) (fun c48 => ?_) (fun c48 => ?_)
            · skip
              refine Rp.iload_n dX11_had_59 rfl ?_
              refine Rp.aload_n dX11_had_60 rfl rfl ?_
              refine Rp.getR dX11_had_61 fk_X11_64 rfl (S1 _ _ rfl) (R1 _ _ _ rfl) ?_
              refine Rp.getI dX11_had_64 fk_X11_337 rfl (S1 _ _ rfl) ?_
              first | rw [e12] | skip
              first | ((with_reducible show Rp _ _ _ _ (.int (nI _) :: .int (nI _) :: _) _ _); refine Rp.icmp_geN (tgt := 82) dX11_had_67 (by decide) (by omega) (fun c67 => ?_) (fun c67 => ?_)) | refine Rp.icmp_ge (tgt := 82) dX11_had_67 (by decide) (fun c67 => ?_) (fun c67 => ?_)
              · skip
                first | (exfalso; omega) | exact absurd c67 (by decide) | exact absurd (by decide) c67
              · skip
                refine Rp.aload_n dX11_had_70 rfl rfl ?_
                refine Rp.getR dX11_had_71 fk_X11_64 rfl (S1 _ _ rfl) (R1 _ _ _ rfl) ?_
                refine Rp.iload_n dX11_had_74 rfl ?_
                refine Rp.iload_n dX11_had_75 rfl ?_
                refine Rp.callV2 M_X6_ticketIn (ci := 6) dX11_had_76 mo_X6_ticketIn lk_X11_340 (by decide) rfl rfl (S1 _ _ rfl) (Nat.le_of_ble_eq_true rfl) (Nat.le_of_ble_eq_true rfl) (ti) (fun v1 h1 p1 x1 => ?_)
                rw [p1.1, p1.2]
                try dsimp only [Option.toList, List.cons_append, List.nil_append, List.append]
                refine Rp.goto (tgt := 83) dX11_had_79 (by decide) ?_
                refine Rp.ireturn dX11_had_83 rfl ?_
                exact ⟨rfl, F1, S1, R1, z1, true, z8, fun _ => r1⟩
            · skip
              exact absurd c48 d1
      · rw [if_neg c3]
        rw [Bool.eq_false_iff.mpr c3] at ip
        refine Rp.iload_n dX11_had_0 rfl ?_
        refine Rp.iconst (-1) dX11_had_1 (by decide) ?_
        first | ((with_reducible show Rp _ _ _ _ (.int (nI _) :: .int (nI _) :: _) _ _); refine Rp.icmp_eqN (tgt := 35) dX11_had_2 (by decide) (by omega) (fun c2 => ?_) (fun c2 => ?_)) | refine Rp.icmp_eq (tgt := 35) dX11_had_2 (by decide) (fun c2 => ?_) (fun c2 => ?_)
        · skip
          exact absurd c2 d1
        · skip
          refine Rp.iload_n dX11_had_5 rfl ?_
          refine Rp.if_lt (tgt := 33) dX11_had_6 (by decide) (fun c6 => ?_) (fun c6 => ?_)
          · skip
            exact absurd c6 d2
          · skip
            refine Rp.aload_n dX11_had_9 rfl rfl ?_
            refine Rp.getR dX11_had_10 fk_X11_10 rfl (S _ _ rfl) (R _ _ _ rfl) ?_
            refine Rp.iload_n dX11_had_13 rfl ?_
            refine Rp.callV1 M_X2_isPerson (ci := 2) dX11_had_14 mo_X2_isPerson lk_X11_125 (by decide) rfl rfl (S _ _ rfl) (Nat.le_of_ble_eq_true rfl) (Nat.le_of_ble_eq_true rfl) (ip) (fun v1 h1 p1 x1 => ?_)
            rw [p1.1, p1.2]
            try dsimp only [Option.toList, List.cons_append, List.nil_append, List.append]
            first | ((with_reducible show Rp _ _ _ _ (.int (b2i _) :: _) _ _); refine Rp.if_eqB (tgt := 33) dX11_had_17 (by decide) (fun c17 => ?_) (fun c17 => ?_)) | ((with_reducible show Rp _ _ _ _ (.int (nI _) :: _) _ _); refine Rp.if_eqN (tgt := 33) dX11_had_17 (by decide) (by omega) (fun c17 => ?_) (fun c17 => ?_)) | refine Rp.if_eq (tgt := 33) dX11_had_17 (by decide) (fun c17 => ?_) (fun c17 => ?_)
            · skip
              refine Rp.iconst (-1) dX11_had_33 (by decide) ?_
              refine Rp.ireturn dX11_had_34 rfl ?_
              exact ⟨rfl, Fr.rfl', S, R, hz, f0⟩
            · skip
              cases c17
/-- the class's search for whom to ask -/
theorem ask41 {g0 : AH} {L : List (Nat → Int32)} (G : HG g0 1 K np nt nd nl LSs E) (S0 : ShOK g0) (R0 : RfOK g0) (H0 : RSw K np no g0 L) (V : VH K np nt) (hV : ∀ W ∈ L, VH W np nt ∧ ∀ q, q < 6 → (W q = -1 ↔ K q = -1)) (hL : L.length ≤ 720) {w : Nat} (hw : w < 2) : ∀ (m p : Nat) (g : AH) (a5 : Option Value), p + m = np → Fr tlyX g0 g → Rp (d + 13) M_X11_ask 41 [some (.ref 0), some (.int (nI w)), some (.int (aqI (askF K L p))), some (.int (amI (askF K L p))), some (.int (nI p)), a5] [] g (fun r h' => Fr tlyX g0 h' ∧ r = some (.int (if w = 0 then aqI (askF K L np) else amI (askF K L np)))) := by
  have v1 := V.1
  intro m
  induction m with
  | zero =>
    intro p g a5 hm F
    have e : p = np := by omega
    subst e
    have S := F.S S0
    have R := F.R R0 (by decide)
    have a0 : gI g 1 0 = nI p := (F.I 1 0 rfl).trans G.1.2.1
    by_cases c : w = 0
    · subst c
      rw [if_pos rfl]
      refine Rp.iload dX11_ask_41 rfl ?_
      refine Rp.aload_n dX11_ask_43 rfl rfl ?_
      refine Rp.getR dX11_ask_44 fk_X11_10 rfl (S _ _ rfl) (R _ _ _ rfl) ?_
      refine Rp.getI dX11_ask_47 fk_X11_280 rfl (S _ _ rfl) ?_
      first | rw [a0] | skip
      first | ((with_reducible show Rp _ _ _ _ (.int (nI _) :: .int (nI _) :: _) _ _); refine Rp.icmp_geN (tgt := 111) dX11_ask_50 (by decide) (by omega) (fun c50 => ?_) (fun c50 => ?_)) | refine Rp.icmp_ge (tgt := 111) dX11_ask_50 (by decide) (fun c50 => ?_) (fun c50 => ?_)
      · skip
        refine Rp.iload_n dX11_ask_111 rfl ?_
        first | ((with_reducible show Rp _ _ _ _ (.int (b2i _) :: _) _ _); refine Rp.if_neB (tgt := 119) dX11_ask_112 (by decide) (fun c112 => ?_) (fun c112 => ?_)) | ((with_reducible show Rp _ _ _ _ (.int (nI _) :: _) _ _); refine Rp.if_neN (tgt := 119) dX11_ask_112 (by decide) (by omega) (fun c112 => ?_) (fun c112 => ?_)) | refine Rp.if_ne (tgt := 119) dX11_ask_112 (by decide) (fun c112 => ?_) (fun c112 => ?_)
        · skip
          first | (exfalso; omega) | exact absurd c112 (by decide) | exact absurd (by decide) c112
        · skip
          refine Rp.iload_n dX11_ask_115 rfl ?_
          refine Rp.goto (tgt := 120) dX11_ask_116 (by decide) ?_
          refine Rp.ireturn dX11_ask_120 rfl ?_
          exact ⟨F, rfl⟩
      · skip
        first | (exfalso; omega) | exact absurd c50 (by decide) | exact absurd (by decide) c50
    · rw [if_neg c]
      refine Rp.iload dX11_ask_41 rfl ?_
      refine Rp.aload_n dX11_ask_43 rfl rfl ?_
      refine Rp.getR dX11_ask_44 fk_X11_10 rfl (S _ _ rfl) (R _ _ _ rfl) ?_
      refine Rp.getI dX11_ask_47 fk_X11_280 rfl (S _ _ rfl) ?_
      first | rw [a0] | skip
      first | ((with_reducible show Rp _ _ _ _ (.int (nI _) :: .int (nI _) :: _) _ _); refine Rp.icmp_geN (tgt := 111) dX11_ask_50 (by decide) (by omega) (fun c50 => ?_) (fun c50 => ?_)) | refine Rp.icmp_ge (tgt := 111) dX11_ask_50 (by decide) (fun c50 => ?_) (fun c50 => ?_)
      · skip
        refine Rp.iload_n dX11_ask_111 rfl ?_
        first | ((with_reducible show Rp _ _ _ _ (.int (b2i _) :: _) _ _); refine Rp.if_neB (tgt := 119) dX11_ask_112 (by decide) (fun c112 => ?_) (fun c112 => ?_)) | ((with_reducible show Rp _ _ _ _ (.int (nI _) :: _) _ _); refine Rp.if_neN (tgt := 119) dX11_ask_112 (by decide) (by omega) (fun c112 => ?_) (fun c112 => ?_)) | refine Rp.if_ne (tgt := 119) dX11_ask_112 (by decide) (fun c112 => ?_) (fun c112 => ?_)
        · skip
          refine Rp.iload_n dX11_ask_119 rfl ?_
          refine Rp.ireturn dX11_ask_120 rfl ?_
          exact ⟨F, rfl⟩
        · skip
          first | (exfalso; omega) | exact absurd c112 (by decide) | exact absurd (by decide) c112
      · skip
        first | (exfalso; omega) | exact absurd c50 (by decide) | exact absurd (by decide) c50
  | succ m ih =>
    intro p g a5 hm F
    have S := F.S S0
    have R := F.R R0 (by decide)
    have a0 : gI g 1 0 = nI np := (F.I 1 0 rfl).trans G.1.2.1
    have ek : gI g 4 p = K p := (F.I 4 p rfl).trans (G.1.2.2.2.2.2.2.2.2.2.1 p (by omega))
    by_cases c : K p = -1
    · have k1 := ih (p + 1) g (some (.int (-1))) (by omega) F
      rw [askF, if_pos c] at k1
      refine Rp.iload dX11_ask_41 rfl ?_
      refine Rp.aload_n dX11_ask_43 rfl rfl ?_
      refine Rp.getR dX11_ask_44 fk_X11_10 rfl (S _ _ rfl) (R _ _ _ rfl) ?_
      refine Rp.getI dX11_ask_47 fk_X11_280 rfl (S _ _ rfl) ?_
      first | rw [a0] | rw [ek] | skip
      first | ((with_reducible show Rp _ _ _ _ (.int (nI _) :: .int (nI _) :: _) _ _); refine Rp.icmp_geN (tgt := 111) dX11_ask_50 (by decide) (by omega) (fun c50 => ?_) (fun c50 => ?_)) | refine Rp.icmp_ge (tgt := 111) dX11_ask_50 (by decide) (fun c50 => ?_) (fun c50 => ?_)
      · skip
        first | (exfalso; omega) | exact absurd c50 (by decide) | exact absurd (by decide) c50
      · skip
        refine Rp.aload_n dX11_ask_53 rfl rfl ?_
        refine Rp.getR dX11_ask_54 fk_X11_10 rfl (S _ _ rfl) (R _ _ _ rfl) ?_
        refine Rp.getR dX11_ask_57 fk_X11_135 rfl (S _ _ rfl) (R _ _ _ rfl) ?_
        refine Rp.iload dX11_ask_60 rfl ?_
        first | ((with_reducible show Rp _ _ _ _ (.int (nI _) :: _) _ _); refine Rp.ialoadN dX11_ask_62 (S _ _ rfl) (by omega) ?_) | refine Rp.iaload dX11_ask_62 (S _ _ rfl) (by first | assumption | exact vpb (by decide)) ?_
        first | rw [a0] | rw [ek] | skip
        refine Rp.iconst (-1) dX11_ask_63 (by decide) ?_
        first | ((with_reducible show Rp _ _ _ _ (.int (nI _) :: .int (nI _) :: _) _ _); refine Rp.icmp_neN (tgt := 71) dX11_ask_64 (by decide) (by omega) (fun c64 => ?_) (fun c64 => ?_)) | refine Rp.icmp_ne (tgt := 71) dX11_ask_64 (by decide) (fun c64 => ?_) (fun c64 => ?_)
        · skip
          exact absurd c c64
        · skip
          refine Rp.iconst (-1) dX11_ask_67 (by decide) ?_
          refine Rp.goto (tgt := 80) dX11_ask_68 (by decide) ?_
          refine Rp.ist5 dX11_ask_80 (by first | exact nl2_some rfl | exact nl2_none) (by decide) ?_
          refine Rp.iload dX11_ask_82 rfl ?_
          refine Rp.iconst (-1) dX11_ask_84 (by decide) ?_
          first | ((with_reducible show Rp _ _ _ _ (.int (nI _) :: .int (nI _) :: _) _ _); refine Rp.icmp_eqN (tgt := 105) dX11_ask_85 (by decide) (by omega) (fun c85 => ?_) (fun c85 => ?_)) | refine Rp.icmp_eq (tgt := 105) dX11_ask_85 (by decide) (fun c85 => ?_) (fun c85 => ?_)
          · skip
            first | ((with_reducible show Rp _ _ _ (_ :: _ :: _ :: _ :: some (.int (nI _)) :: _) _ _ _); refine Rp.inc4N (c := 1) dX11_ask_105 (by first | exact nl2_some rfl | exact nl2_none) (by decide) ?_) | refine Rp.inc4 _ dX11_ask_105 rfl (by first | exact nl2_some rfl | exact nl2_none) (by decide) ?_
            refine Rp.goto (tgt := 41) dX11_ask_108 (by decide) ?_
            exact k1
          · skip
            exact absurd rfl c85
    · have mo := t_most (d + 11) (nt := nt) S R (H0.fr F rfl (fun j => rfl) (fun j => rfl) rfl (fun j => rfl)) (p := p) (by omega) (fun W hW => ⟨(hV W hW).1, fun z => c (((hV W hW).2 p (by omega)).mp z)⟩)
      have b := mxW_le p L
      have nm : ¬ nI (mxW p L) = -1 := nI_m1 (by omega)
      refine Rp.iload dX11_ask_41 rfl ?_
      refine Rp.aload_n dX11_ask_43 rfl rfl ?_
      refine Rp.getR dX11_ask_44 fk_X11_10 rfl (S _ _ rfl) (R _ _ _ rfl) ?_
      refine Rp.getI dX11_ask_47 fk_X11_280 rfl (S _ _ rfl) ?_
      first | rw [a0] | rw [ek] | skip
      first | ((with_reducible show Rp _ _ _ _ (.int (nI _) :: .int (nI _) :: _) _ _); refine Rp.icmp_geN (tgt := 111) dX11_ask_50 (by decide) (by omega) (fun c50 => ?_) (fun c50 => ?_)) | refine Rp.icmp_ge (tgt := 111) dX11_ask_50 (by decide) (fun c50 => ?_) (fun c50 => ?_)
      · first | (exfalso; omega) | exact absurd c50 (by decide) | exact absurd (by decide) c50
      refine Rp.aload_n dX11_ask_53 rfl rfl ?_
      refine Rp.getR dX11_ask_54 fk_X11_10 rfl (S _ _ rfl) (R _ _ _ rfl) ?_
      refine Rp.getR dX11_ask_57 fk_X11_135 rfl (S _ _ rfl) (R _ _ _ rfl) ?_
      refine Rp.iload dX11_ask_60 rfl ?_
      first | ((with_reducible show Rp _ _ _ _ (.int (nI _) :: _) _ _); refine Rp.ialoadN dX11_ask_62 (S _ _ rfl) (by omega) ?_) | refine Rp.iaload dX11_ask_62 (S _ _ rfl) (by first | assumption | exact vpb (by decide)) ?_
      first | rw [a0] | rw [ek] | skip
      refine Rp.iconst (-1) dX11_ask_63 (by decide) ?_
      first | ((with_reducible show Rp _ _ _ _ (.int (nI _) :: .int (nI _) :: _) _ _); refine Rp.icmp_neN (tgt := 71) dX11_ask_64 (by decide) (by omega) (fun c64 => ?_) (fun c64 => ?_)) | refine Rp.icmp_ne (tgt := 71) dX11_ask_64 (by decide) (fun c64 => ?_) (fun c64 => ?_)
      rotate_left
      · exact absurd c64 c
      refine Rp.aload_n dX11_ask_71 rfl rfl ?_
      refine Rp.getR dX11_ask_72 fk_X11_64 rfl (S _ _ rfl) (R _ _ _ rfl) ?_
      refine Rp.iload dX11_ask_75 rfl ?_
      refine Rp.callV1 M_X6_mostWaysAlike (ci := 6) dX11_ask_77 mo_X6_mostWaysAlike lk_X11_343 (by decide) rfl rfl (S _ _ rfl) (Nat.le_of_ble_eq_true rfl) (Nat.le_of_ble_eq_true rfl) (mo) (fun v1 h1 p1 x1 => ?_)
      obtain ⟨F1, rfl⟩ := p1
      try dsimp only [Option.toList, List.cons_append, List.nil_append, List.append]
      skip
      have k1 := ih (p + 1) h1 (some (.int (nI (mxW p L)))) (by omega) (F.trans F1)
      rw [askF, if_neg c] at k1
      match hx : askF K L p with
      | none =>
        rw [hx] at k1
        refine Rp.ist5 dX11_ask_80 (by first | exact nl2_some rfl | exact nl2_none) (by decide) ?_
        refine Rp.iload dX11_ask_82 rfl ?_
        refine Rp.iconst (-1) dX11_ask_84 (by decide) ?_
        first | ((with_reducible show Rp _ _ _ _ (.int (nI _) :: .int (nI _) :: _) _ _); refine Rp.icmp_eqN (tgt := 105) dX11_ask_85 (by decide) (by omega) (fun c85 => ?_) (fun c85 => ?_)) | refine Rp.icmp_eq (tgt := 105) dX11_ask_85 (by decide) (fun c85 => ?_) (fun c85 => ?_)
        · skip
          exact absurd c85 nm
        · skip
          refine Rp.iload_n dX11_ask_88 rfl ?_
          refine Rp.iconst (-1) dX11_ask_89 (by decide) ?_
          first | ((with_reducible show Rp _ _ _ _ (.int (nI _) :: .int (nI _) :: _) _ _); refine Rp.icmp_eqN (tgt := 99) dX11_ask_90 (by decide) (by omega) (fun c90 => ?_) (fun c90 => ?_)) | refine Rp.icmp_eq (tgt := 99) dX11_ask_90 (by decide) (fun c90 => ?_) (fun c90 => ?_)
          · skip
            refine Rp.iload dX11_ask_99 rfl ?_
            refine Rp.ist3 dX11_ask_101 (by first | exact nl2_some rfl | exact nl2_none) (by decide) ?_
            refine Rp.iload dX11_ask_102 rfl ?_
            refine Rp.ist2 dX11_ask_104 (by first | exact nl2_some rfl | exact nl2_none) (by decide) ?_
            first | ((with_reducible show Rp _ _ _ (_ :: _ :: _ :: _ :: some (.int (nI _)) :: _) _ _ _); refine Rp.inc4N (c := 1) dX11_ask_105 (by first | exact nl2_some rfl | exact nl2_none) (by decide) ?_) | refine Rp.inc4 _ dX11_ask_105 rfl (by first | exact nl2_some rfl | exact nl2_none) (by decide) ?_
            refine Rp.goto (tgt := 41) dX11_ask_108 (by decide) ?_
            exact k1
          · skip
            exact absurd rfl c90
      | some (q, mm) =>
        rw [hx] at k1
        have bb := askF_b p q mm hx
        have nq : ¬ nI mm = -1 := nI_m1 (by omega)
        dsimp only at k1
        by_cases c2 : mxW p L < mm
        · rw [if_pos c2] at k1
          have c2' : ¬ nI (mxW p L) ≥ nI mm := by show ¬ nI mm ≤ nI (mxW p L); rw [i32_le, nI_toInt (by omega), nI_toInt (by omega)]; omega
          dsimp only [aqI, amI]
          refine Rp.ist5 dX11_ask_80 (by first | exact nl2_some rfl | exact nl2_none) (by decide) ?_
          refine Rp.iload dX11_ask_82 rfl ?_
          refine Rp.iconst (-1) dX11_ask_84 (by decide) ?_
          first | ((with_reducible show Rp _ _ _ _ (.int (nI _) :: .int (nI _) :: _) _ _); refine Rp.icmp_eqN (tgt := 105) dX11_ask_85 (by decide) (by omega) (fun c85 => ?_) (fun c85 => ?_)) | refine Rp.icmp_eq (tgt := 105) dX11_ask_85 (by decide) (fun c85 => ?_) (fun c85 => ?_)
          · skip
            exact absurd c85 nm
          · skip
            refine Rp.iload_n dX11_ask_88 rfl ?_
            refine Rp.iconst (-1) dX11_ask_89 (by decide) ?_
            first | ((with_reducible show Rp _ _ _ _ (.int (nI _) :: .int (nI _) :: _) _ _); refine Rp.icmp_eqN (tgt := 99) dX11_ask_90 (by decide) (by omega) (fun c90 => ?_) (fun c90 => ?_)) | refine Rp.icmp_eq (tgt := 99) dX11_ask_90 (by decide) (fun c90 => ?_) (fun c90 => ?_)
            · skip
              exact absurd c90 nq
            · skip
              refine Rp.iload dX11_ask_93 rfl ?_
              refine Rp.iload_n dX11_ask_95 rfl ?_
              first | ((with_reducible show Rp _ _ _ _ (.int (nI _) :: .int (nI _) :: _) _ _); refine Rp.icmp_geN (tgt := 105) dX11_ask_96 (by decide) (by omega) (fun c96 => ?_) (fun c96 => ?_)) | refine Rp.icmp_ge (tgt := 105) dX11_ask_96 (by decide) (fun c96 => ?_) (fun c96 => ?_)
              · skip
                first | (exfalso; omega) | exact absurd c96 (by decide) | exact absurd (by decide) c96
              · skip
                refine Rp.iload dX11_ask_99 rfl ?_
                refine Rp.ist3 dX11_ask_101 (by first | exact nl2_some rfl | exact nl2_none) (by decide) ?_
                refine Rp.iload dX11_ask_102 rfl ?_
                refine Rp.ist2 dX11_ask_104 (by first | exact nl2_some rfl | exact nl2_none) (by decide) ?_
                first | ((with_reducible show Rp _ _ _ (_ :: _ :: _ :: _ :: some (.int (nI _)) :: _) _ _ _); refine Rp.inc4N (c := 1) dX11_ask_105 (by first | exact nl2_some rfl | exact nl2_none) (by decide) ?_) | refine Rp.inc4 _ dX11_ask_105 rfl (by first | exact nl2_some rfl | exact nl2_none) (by decide) ?_
                refine Rp.goto (tgt := 41) dX11_ask_108 (by decide) ?_
                exact k1
        · rw [if_neg c2] at k1
          dsimp only [aqI, amI]
          refine Rp.ist5 dX11_ask_80 (by first | exact nl2_some rfl | exact nl2_none) (by decide) ?_
          refine Rp.iload dX11_ask_82 rfl ?_
          refine Rp.iconst (-1) dX11_ask_84 (by decide) ?_
          first | ((with_reducible show Rp _ _ _ _ (.int (nI _) :: .int (nI _) :: _) _ _); refine Rp.icmp_eqN (tgt := 105) dX11_ask_85 (by decide) (by omega) (fun c85 => ?_) (fun c85 => ?_)) | refine Rp.icmp_eq (tgt := 105) dX11_ask_85 (by decide) (fun c85 => ?_) (fun c85 => ?_)
          · skip
            exact absurd c85 nm
          · skip
            refine Rp.iload_n dX11_ask_88 rfl ?_
            refine Rp.iconst (-1) dX11_ask_89 (by decide) ?_
            first | ((with_reducible show Rp _ _ _ _ (.int (nI _) :: .int (nI _) :: _) _ _); refine Rp.icmp_eqN (tgt := 99) dX11_ask_90 (by decide) (by omega) (fun c90 => ?_) (fun c90 => ?_)) | refine Rp.icmp_eq (tgt := 99) dX11_ask_90 (by decide) (fun c90 => ?_) (fun c90 => ?_)
            · skip
              exact absurd c90 nq
            · skip
              refine Rp.iload dX11_ask_93 rfl ?_
              refine Rp.iload_n dX11_ask_95 rfl ?_
              first | ((with_reducible show Rp _ _ _ _ (.int (nI _) :: .int (nI _) :: _) _ _); refine Rp.icmp_geN (tgt := 105) dX11_ask_96 (by decide) (by omega) (fun c96 => ?_) (fun c96 => ?_)) | refine Rp.icmp_ge (tgt := 105) dX11_ask_96 (by decide) (fun c96 => ?_) (fun c96 => ?_)
              · skip
                first | ((with_reducible show Rp _ _ _ (_ :: _ :: _ :: _ :: some (.int (nI _)) :: _) _ _ _); refine Rp.inc4N (c := 1) dX11_ask_105 (by first | exact nl2_some rfl | exact nl2_none) (by decide) ?_) | refine Rp.inc4 _ dX11_ask_105 rfl (by first | exact nl2_some rfl | exact nl2_none) (by decide) ?_
                refine Rp.goto (tgt := 41) dX11_ask_108 (by decide) ?_
                exact k1
              · skip
                first | (exfalso; omega) | exact absurd c96 (by decide) | exact absurd (by decide) c96
theorem t_ask (S : ShOK h) (R : RfOK h) (G : HG h 1 K np nt nd nl LSs E) (V : VH K np nt) (B : KB K) (VNn : VN K nt) (VDd : VD K nd) (VTt : VT K no) (hno : K 106 = nI no) (hz : ∀ j, 9 ≤ j → gI h 43 j = 0) {kn : Bool} (h8 : gI h 52 8 = b2i kn) (hk : kn = true → RSw K np no h (hdR K (flO nl LSs (K 108)) nd np nt no)) (w : Int32) : Rp (d + 13) M_X11_ask 0 [some (.ref 0), some (.int w), none, none, none, none] [] h (fun r h' => r = some (.int (askA K np (hdR K (flO nl LSs (K 108)) nd np nt no) w)) ∧ (∃ g, Fr fwX2 h g ∧ Fr tlyX g h') ∧ ShOK h' ∧ RfOK h' ∧ (∀ j, 9 ≤ j → gI h' 43 j = 0) ∧ ∃ kn', gI h' 52 8 = b2i kn' ∧ (kn' = true → RSw K np no h' (hdR K (flO nl LSs (K 108)) nd np nt no))) := by
  have fw := t_findWays d S R G V B VNn VDd VTt hno hz h8 hk
  have hall := hdR_all (fl := flO nl LSs (K 108)) (nd := nd) (no := no) V
  have l7 := (hdR_cap (fl := flO nl LSs (K 108)) (nd := nd) (no := no) V).2
  have f0 : ∃ kn', gI h 52 8 = b2i kn' ∧ (kn' = true → RSw K np no h (hdR K (flO nl LSs (K 108)) nd np nt no)) := ⟨kn, h8, hk⟩
  generalize hdR K (flO nl LSs (K 108)) nd np nt no = L at fw hall l7 f0
  unfold askA
  by_cases cw : inN w 2 = true
  · rw [if_pos cw]
    obtain ⟨q, hq, rfl⟩ := (inN_iff (by decide)).mp cw
    rw [ix_nI (by omega)]
    have n0 : ¬ nI q < 0 := by rw [i32_lt, nI_toInt (by omega)]; exact Int.not_lt.mpr (Int.natCast_nonneg _)
    refine Rp.iload_n dX11_ask_0 rfl ?_
    refine Rp.if_lt (tgt := 9) dX11_ask_1 (by decide) (fun c1 => ?_) (fun c1 => ?_)
    · exact absurd c1 n0
    refine Rp.iload_n dX11_ask_4 rfl ?_
    refine Rp.iconst (nI 1) dX11_ask_5 (by decide) ?_
    first | ((with_reducible show Rp _ _ _ _ (.int (nI _) :: .int (nI _) :: _) _ _); refine Rp.icmp_leN (tgt := 11) dX11_ask_6 (by decide) (by omega) (fun c6 => ?_) (fun c6 => ?_)) | refine Rp.icmp_le (tgt := 11) dX11_ask_6 (by decide) (fun c6 => ?_) (fun c6 => ?_)
    rotate_left
    · first | (exfalso; omega) | exact absurd c6 (by decide) | exact absurd (by decide) c6
    refine Rp.aload_n dX11_ask_11 rfl rfl ?_
    refine Rp.getR dX11_ask_12 fk_X11_64 rfl (S _ _ rfl) (R _ _ _ rfl) ?_
    refine Rp.aload_n dX11_ask_15 rfl rfl ?_
    refine Rp.getR dX11_ask_16 fk_X11_10 rfl (S _ _ rfl) (R _ _ _ rfl) ?_
    refine Rp.callV1 M_X6_findWays (ci := 6) dX11_ask_19 mo_X6_findWays lk_X11_334 (by decide) rfl rfl (S _ _ rfl) (Nat.le_of_ble_eq_true rfl) (Nat.le_of_ble_eq_true rfl) (fw) (fun v1 h1 p1 x1 => ?_)
    obtain ⟨rfl, F1, S1, R1, z1, z8, r1⟩ := p1
    try dsimp only [Option.toList, List.cons_append, List.nil_append, List.append]
    skip
    have e12 : gI h1 52 12 = nI L.length := r1.2.1
    by_cases c2 : L.length = 0
    · rw [if_pos c2]
      rw [c2] at e12
      refine Rp.aload_n dX11_ask_22 rfl rfl ?_
      refine Rp.getR dX11_ask_23 fk_X11_64 rfl (S1 _ _ rfl) (R1 _ _ _ rfl) ?_
      refine Rp.getI dX11_ask_26 fk_X11_337 rfl (S1 _ _ rfl) ?_
      first | rw [e12] | skip
      first | ((with_reducible show Rp _ _ _ _ (.int (b2i _) :: _) _ _); refine Rp.if_neB (tgt := 34) dX11_ask_29 (by decide) (fun c29 => ?_) (fun c29 => ?_)) | ((with_reducible show Rp _ _ _ _ (.int (nI _) :: _) _ _); refine Rp.if_neN (tgt := 34) dX11_ask_29 (by decide) (by omega) (fun c29 => ?_) (fun c29 => ?_)) | refine Rp.if_ne (tgt := 34) dX11_ask_29 (by decide) (fun c29 => ?_) (fun c29 => ?_)
      · skip
        first | (exfalso; omega) | exact absurd c29 (by decide) | exact absurd (by decide) c29
      · skip
        refine Rp.iconst (-1) dX11_ask_32 (by decide) ?_
        refine Rp.ireturn dX11_ask_33 rfl ?_
        exact ⟨rfl, ⟨_, F1, Fr.rfl'⟩, S1, R1, z1, true, z8, fun _ => r1⟩
    · rw [if_neg c2]
      have G1 : HG h1 1 K np nt nd nl LSs E := G.fr F1 (fun o j ho => fwX2_lo (by omega)) (fun k j o => fwX2_hi (by omega))
      have k41 := ask41 d G1 S1 R1 r1 V hall l7 hq np 0 h1 none (by omega) Fr.rfl'
      have k41 := Rp.mono (Q := fun r h' => r = some (.int (match askF K L np with
        | none => -1
        | some (q', m) => if q = 0 then nI q' else nI m)) ∧ (∃ g, Fr fwX2 h g ∧ Fr tlyX g h') ∧ ShOK h' ∧ RfOK h' ∧ (∀ j, 9 ≤ j → gI h' 43 j = 0) ∧ ∃ kn', gI h' 52 8 = b2i kn' ∧ (kn' = true → RSw K np no h' L)) (fun r h' z => by
        obtain ⟨F2, z2⟩ := z
        refine ⟨?_, ⟨_, F1, F2⟩, F2.S S1, F2.R R1 (by decide), fun j hj => (F2.I 43 j rfl).trans (z1 j hj), true, (F2.I 52 8 rfl).trans z8, fun _ => r1.fr F2 rfl (fun j => rfl) (fun j => rfl) rfl (fun j => rfl)⟩
        rw [z2]
        match askF K L np with
        | none => dsimp only [aqI, amI]; split <;> rfl
        | some (q', m) => rfl) k41
      have nz : ¬ nI L.length = 0 := fun z => c2 (by
        have z : nI L.length = nI 0 := z
        exact nI_inj (by omega) (by decide) z)
      refine Rp.aload_n dX11_ask_22 rfl rfl ?_
      refine Rp.getR dX11_ask_23 fk_X11_64 rfl (S1 _ _ rfl) (R1 _ _ _ rfl) ?_
      refine Rp.getI dX11_ask_26 fk_X11_337 rfl (S1 _ _ rfl) ?_
      first | rw [e12] | skip
      first | ((with_reducible show Rp _ _ _ _ (.int (b2i _) :: _) _ _); refine Rp.if_neB (tgt := 34) dX11_ask_29 (by decide) (fun c29 => ?_) (fun c29 => ?_)) | ((with_reducible show Rp _ _ _ _ (.int (nI _) :: _) _ _); refine Rp.if_neN (tgt := 34) dX11_ask_29 (by decide) (by omega) (fun c29 => ?_) (fun c29 => ?_)) | refine Rp.if_ne (tgt := 34) dX11_ask_29 (by decide) (fun c29 => ?_) (fun c29 => ?_)
      · skip
        refine Rp.iconst (-1) dX11_ask_34 (by decide) ?_
        refine Rp.ist2 dX11_ask_35 (by first | exact nl2_some rfl | exact nl2_none) (by decide) ?_
        refine Rp.iconst (-1) dX11_ask_36 (by decide) ?_
        refine Rp.ist3 dX11_ask_37 (by first | exact nl2_some rfl | exact nl2_none) (by decide) ?_
        refine Rp.iconst (nI 0) dX11_ask_38 (by decide) ?_
        refine Rp.ist4 dX11_ask_39 (by first | exact nl2_some rfl | exact nl2_none) (by decide) ?_
        exact k41
      · skip
        exact absurd c29 c2
  · rw [if_neg cw]
    refine Rp.iload_n dX11_ask_0 rfl ?_
    refine Rp.if_lt (tgt := 9) dX11_ask_1 (by decide) (fun c1 => ?_) (fun c1 => ?_)
    · skip
      refine Rp.iconst (-1) dX11_ask_9 (by decide) ?_
      refine Rp.ireturn dX11_ask_10 rfl ?_
      exact ⟨rfl, ⟨_, Fr.rfl', Fr.rfl'⟩, S, R, hz, f0⟩
    · skip
      refine Rp.iload_n dX11_ask_4 rfl ?_
      refine Rp.iconst (nI 1) dX11_ask_5 (by decide) ?_
      first | ((with_reducible show Rp _ _ _ _ (.int (nI _) :: .int (nI _) :: _) _ _); refine Rp.icmp_leN (tgt := 11) dX11_ask_6 (by decide) (by omega) (fun c6 => ?_) (fun c6 => ?_)) | refine Rp.icmp_le (tgt := 11) dX11_ask_6 (by decide) (fun c6 => ?_) (fun c6 => ?_)
      · skip
        exact absurd (by unfold inN; exact decide_eq_true ⟨by rw [i32_lt] at c1; exact Int.not_lt.mp c1, by rw [i32_le, nI_toInt (by decide)] at c6; omega⟩) cw
      · skip
        refine Rp.iconst (-1) dX11_ask_9 (by decide) ?_
        refine Rp.ireturn dX11_ask_10 rfl ?_
        exact ⟨rfl, ⟨_, Fr.rfl', Fr.rfl'⟩, S, R, hz, f0⟩
end Ch3
