section Cn
variable (d : Nat) {h : AH}
/-- how many of the first n are v -/
def cOf (f : Nat → Int32) (v : Int32) : Nat → Nat
  | 0 => 0
  | n + 1 => if f n = v then cOf f v n + 1 else cOf f v n
theorem cOf_le (f : Nat → Int32) (v : Int32) : ∀ n, cOf f v n ≤ n
  | 0 => Nat.le_refl 0
  | n + 1 => by
    rw [cOf]
    have := cOf_le f v n
    split <;> omega
theorem free_loop {k : Nat} (hs : h.1[k]? = some (2, clN 2)) (hr : gR h k fhall_holder = some (k + 7)) (ha : h.1[k + 7]? = some (13, 8)) {nt : Nat} (ht : nt ≤ 8) (hT : gI h k fhall_tickets = nI nt) : ∀ (m t : Nat), t + m = nt → Rp d M_X2_free 4 [some (.ref k), some (.int (nI (cOf (gI h (k + 7)) (-1) t))), some (.int (nI t))] [] h (fun r h' => h' = h ∧ r = some (.int (nI (cOf (gI h (k + 7)) (-1) nt)))) := by
  intro m
  induction m with
  | zero =>
    intro t hm
    have e : t = nt := by omega
    subst e
    refine Rp.iload_n dX2_free_4 rfl ?_
    refine Rp.aload_n dX2_free_5 rfl rfl ?_
    refine Rp.getI dX2_free_6 fk_X2_80 rfl hs ?_
    first | rw [hT] | skip
    first | ((with_reducible show Rp _ _ _ _ (.int (nI _) :: .int (nI _) :: _) _ _); refine Rp.icmp_geN (tgt := 31) dX2_free_9 (by decide) (by omega) (fun c9 => ?_) (fun c9 => ?_)) | refine Rp.icmp_ge (tgt := 31) dX2_free_9 (by decide) (fun c9 => ?_) (fun c9 => ?_)
    · skip
      refine Rp.iload_n dX2_free_31 rfl ?_
      refine Rp.ireturn dX2_free_32 rfl ?_
      exact ⟨rfl, rfl⟩
    · skip
      first | (exfalso; omega) | exact absurd c9 (by decide) | exact absurd (by decide) c9
  | succ m ih =>
    intro t hm
    have hc := cOf_le (gI h (k + 7)) (-1) t
    refine Rp.iload_n dX2_free_4 rfl ?_
    refine Rp.aload_n dX2_free_5 rfl rfl ?_
    refine Rp.getI dX2_free_6 fk_X2_80 rfl hs ?_
    first | rw [hT] | skip
    first | ((with_reducible show Rp _ _ _ _ (.int (nI _) :: .int (nI _) :: _) _ _); refine Rp.icmp_geN (tgt := 31) dX2_free_9 (by decide) (by omega) (fun c9 => ?_) (fun c9 => ?_)) | refine Rp.icmp_ge (tgt := 31) dX2_free_9 (by decide) (fun c9 => ?_) (fun c9 => ?_)
    · skip
      first | (exfalso; omega) | exact absurd c9 (by decide) | exact absurd (by decide) c9
    · skip
      refine Rp.aload_n dX2_free_12 rfl rfl ?_
      refine Rp.getR dX2_free_13 fk_X2_30 rfl hs hr ?_
      refine Rp.iload_n dX2_free_16 rfl ?_
      first | ((with_reducible show Rp _ _ _ _ (.int (nI _) :: _) _ _); refine Rp.ialoadN dX2_free_17 ha (by omega) ?_) | refine Rp.iaload dX2_free_17 ha (by first | assumption | exact vpb (by decide)) ?_
      first | rw [hT] | skip
      refine Rp.iconst (-1) dX2_free_18 (by decide) ?_
      first | ((with_reducible show Rp _ _ _ _ (.int (nI _) :: .int (nI _) :: _) _ _); refine Rp.icmp_neN (tgt := 25) dX2_free_19 (by decide) (by omega) (fun c19 => ?_) (fun c19 => ?_)) | refine Rp.icmp_ne (tgt := 25) dX2_free_19 (by decide) (fun c19 => ?_) (fun c19 => ?_)
      · skip
        first | ((with_reducible show Rp _ _ _ (_ :: _ :: some (.int (nI _)) :: _) _ _ _); refine Rp.inc2N (c := 1) dX2_free_25 (by first | exact nl2_some rfl | exact nl2_none) (by decide) ?_) | refine Rp.inc2 _ dX2_free_25 rfl (by first | exact nl2_some rfl | exact nl2_none) (by decide) ?_
        refine Rp.goto (tgt := 4) dX2_free_28 (by decide) ?_
        have q := ih (t + 1) (by omega)
        rw [cOf] at q
        first | (rw [if_pos (by assumption)] at q; exact q) | (rw [if_neg (by assumption)] at q; exact q)
      · skip
        first | ((with_reducible show Rp _ _ _ (_ :: some (.int (nI _)) :: _) _ _ _); refine Rp.inc1N (c := 1) dX2_free_22 (by first | exact nl2_some rfl | exact nl2_none) (by decide) ?_) | refine Rp.inc1 _ dX2_free_22 rfl (by first | exact nl2_some rfl | exact nl2_none) (by decide) ?_
        first | ((with_reducible show Rp _ _ _ (_ :: _ :: some (.int (nI _)) :: _) _ _ _); refine Rp.inc2N (c := 1) dX2_free_25 (by first | exact nl2_some rfl | exact nl2_none) (by decide) ?_) | refine Rp.inc2 _ dX2_free_25 rfl (by first | exact nl2_some rfl | exact nl2_none) (by decide) ?_
        refine Rp.goto (tgt := 4) dX2_free_28 (by decide) ?_
        have q := ih (t + 1) (by omega)
        rw [cOf] at q
        first | (rw [if_pos (by assumption)] at q; exact q) | (rw [if_neg (by assumption)] at q; exact q)
theorem t_free {k : Nat} (hs : h.1[k]? = some (2, clN 2)) (hr : gR h k fhall_holder = some (k + 7)) (ha : h.1[k + 7]? = some (13, 8)) {nt : Nat} (ht : nt ≤ 8) (hT : gI h k fhall_tickets = nI nt) : Rp d M_X2_free 0 [some (.ref k), none, none] [] h (fun r h' => h' = h ∧ r = some (.int (nI (cOf (gI h (k + 7)) (-1) nt)))) := by
  refine Rp.iconst (nI 0) dX2_free_0 (by decide) ?_
  refine Rp.ist1 dX2_free_1 (by first | exact nl2_some rfl | exact nl2_none) (by decide) ?_
  refine Rp.iconst (nI 0) dX2_free_2 (by decide) ?_
  refine Rp.ist2 dX2_free_3 (by first | exact nl2_some rfl | exact nl2_none) (by decide) ?_
  exact free_loop d hs hr ha ht hT nt 0 (by omega)
def mCountC (h : AH) (w : Int32) (nt : Nat) : Int32 :=
  if nI 8 ≤ w ∧ w ≤ nI 12 then gI h at_refusals (ix (w - nI 8)) else if nI 14 ≤ w ∧ w ≤ nI 16 then gI h (at_hall + 12) (ix (w - nI 14)) else
  if w = nI 0 then gI h at_hall fhall_people else if w = nI 1 then nI nt else if w = nI 2 then nI nt - nI (cOf (gI h (at_hall + 7)) (-1) nt) else if w = nI 3 then gI h at_hall fhall_desks else if w = nI 4 then gI h at_hall fhall_tolds else if w = nI 5 then gI h at_hall fhall_laws else if w = nI 6 then gI h 15 flog_size else if w = nI 7 then gI h at_reader freader_length else if w = nI 13 then gI h at_hall fhall_force else -1
theorem t_count (S : ShOK h) (R : RfOK h) (w : Int32) {nt : Nat} (ht : nt ≤ 8) (hT : gI h at_hall fhall_tickets = nI nt) : Rp (d + 1) M_X11_count 0 [some (.ref 0), some (.int w)] [] h (fun r h' => h' = h ∧ r = some (.int (mCountC h w nt))) := by
  by_cases hw : inN w 17 = true
  · obtain ⟨q, hq, rfl⟩ := (inN_iff (by omega)).mp hw
    match q, hq with
    | 0, _ =>
      refine Rp.iload_n dX11_count_0 rfl ?_
      refine Rp.bipush (nI 8) dX11_count_1 (by decide) ?_
      first | ((with_reducible show Rp _ _ _ _ (.int (nI _) :: .int (nI _) :: _) _ _); refine Rp.icmp_ltN (tgt := 22) dX11_count_3 (by decide) (by omega) (fun c3 => ?_) (fun c3 => ?_)) | refine Rp.icmp_lt (tgt := 22) dX11_count_3 (by decide) (fun c3 => ?_) (fun c3 => ?_)
      · skip
        refine Rp.iload_n dX11_count_22 rfl ?_
        refine Rp.bipush (nI 14) dX11_count_23 (by decide) ?_
        first | ((with_reducible show Rp _ _ _ _ (.int (nI _) :: .int (nI _) :: _) _ _); refine Rp.icmp_ltN (tgt := 47) dX11_count_25 (by decide) (by omega) (fun c25 => ?_) (fun c25 => ?_)) | refine Rp.icmp_lt (tgt := 47) dX11_count_25 (by decide) (fun c25 => ?_) (fun c25 => ?_)
        · skip
          refine Rp.iload_n dX11_count_47 rfl ?_
          refine Rp.tableIn (tgt := 120) (off := 72) dX11_count_48 (by decide) (by decide) (by decide) (by decide) ?_
          refine Rp.aload_n dX11_count_120 rfl rfl ?_
          refine Rp.getR dX11_count_121 fk_X11_10 rfl (S _ _ rfl) (R _ _ _ rfl) ?_
          refine Rp.getI dX11_count_124 fk_X11_280 rfl (S _ _ rfl) ?_
          first | rw [hT] | skip
          refine Rp.ireturn dX11_count_127 rfl ?_
          exact ⟨rfl, rfl⟩
        · skip
          first | (exfalso; omega) | exact absurd c25 (by decide) | exact absurd (by decide) c25
      · skip
        first | (exfalso; omega) | exact absurd c3 (by decide) | exact absurd (by decide) c3
    | 1, _ =>
      refine Rp.iload_n dX11_count_0 rfl ?_
      refine Rp.bipush (nI 8) dX11_count_1 (by decide) ?_
      first | ((with_reducible show Rp _ _ _ _ (.int (nI _) :: .int (nI _) :: _) _ _); refine Rp.icmp_ltN (tgt := 22) dX11_count_3 (by decide) (by omega) (fun c3 => ?_) (fun c3 => ?_)) | refine Rp.icmp_lt (tgt := 22) dX11_count_3 (by decide) (fun c3 => ?_) (fun c3 => ?_)
      · skip
        refine Rp.iload_n dX11_count_22 rfl ?_
        refine Rp.bipush (nI 14) dX11_count_23 (by decide) ?_
        first | ((with_reducible show Rp _ _ _ _ (.int (nI _) :: .int (nI _) :: _) _ _); refine Rp.icmp_ltN (tgt := 47) dX11_count_25 (by decide) (by omega) (fun c25 => ?_) (fun c25 => ?_)) | refine Rp.icmp_lt (tgt := 47) dX11_count_25 (by decide) (fun c25 => ?_) (fun c25 => ?_)
        · skip
          refine Rp.iload_n dX11_count_47 rfl ?_
          refine Rp.tableIn (tgt := 128) (off := 80) dX11_count_48 (by decide) (by decide) (by decide) (by decide) ?_
          refine Rp.aload_n dX11_count_128 rfl rfl ?_
          refine Rp.getR dX11_count_129 fk_X11_10 rfl (S _ _ rfl) (R _ _ _ rfl) ?_
          refine Rp.getI dX11_count_132 fk_X11_360 rfl (S _ _ rfl) ?_
          first | rw [hT] | skip
          refine Rp.ireturn dX11_count_135 rfl ?_
          exact ⟨rfl, rfl⟩
        · skip
          first | (exfalso; omega) | exact absurd c25 (by decide) | exact absurd (by decide) c25
      · skip
        first | (exfalso; omega) | exact absurd c3 (by decide) | exact absurd (by decide) c3
    | 2, _ =>
      refine Rp.iload_n dX11_count_0 rfl ?_
      refine Rp.bipush (nI 8) dX11_count_1 (by decide) ?_
      first | ((with_reducible show Rp _ _ _ _ (.int (nI _) :: .int (nI _) :: _) _ _); refine Rp.icmp_ltN (tgt := 22) dX11_count_3 (by decide) (by omega) (fun c3 => ?_) (fun c3 => ?_)) | refine Rp.icmp_lt (tgt := 22) dX11_count_3 (by decide) (fun c3 => ?_) (fun c3 => ?_)
      · skip
        refine Rp.iload_n dX11_count_22 rfl ?_
        refine Rp.bipush (nI 14) dX11_count_23 (by decide) ?_
        first | ((with_reducible show Rp _ _ _ _ (.int (nI _) :: .int (nI _) :: _) _ _); refine Rp.icmp_ltN (tgt := 47) dX11_count_25 (by decide) (by omega) (fun c25 => ?_) (fun c25 => ?_)) | refine Rp.icmp_lt (tgt := 47) dX11_count_25 (by decide) (fun c25 => ?_) (fun c25 => ?_)
        · skip
          refine Rp.iload_n dX11_count_47 rfl ?_
          refine Rp.tableIn (tgt := 136) (off := 88) dX11_count_48 (by decide) (by decide) (by decide) (by decide) ?_
          refine Rp.aload_n dX11_count_136 rfl rfl ?_
          refine Rp.getR dX11_count_137 fk_X11_10 rfl (S _ _ rfl) (R _ _ _ rfl) ?_
          refine Rp.getI dX11_count_140 fk_X11_360 rfl (S _ _ rfl) ?_
          first | rw [hT] | skip
          refine Rp.aload_n dX11_count_143 rfl rfl ?_
          refine Rp.getR dX11_count_144 fk_X11_10 rfl (S _ _ rfl) (R _ _ _ rfl) ?_
          refine Rp.callV0 M_X2_free (ci := 2) dX11_count_147 mo_X2_free lk_X11_376 (by decide) rfl rfl (S _ _ rfl) (Nat.le_of_ble_eq_true rfl) (Nat.le_of_ble_eq_true rfl) (t_free d (S _ _ rfl) (R _ _ _ rfl) (S _ _ rfl) ht hT) (fun v1 h1 p1 x1 => ?_)
          rw [p1.1, p1.2]
          try dsimp only [Option.toList, List.cons_append, List.nil_append, List.append]
          first | ((with_reducible show Rp _ _ _ _ (.int (nI _) :: .int (nI _) :: _) _ _); refine Rp.isubN dX11_count_150 (by omega) ?_) | refine Rp.isub dX11_count_150 ?_
          refine Rp.ireturn dX11_count_151 rfl ?_
          exact ⟨rfl, rfl⟩
        · skip
          first | (exfalso; omega) | exact absurd c25 (by decide) | exact absurd (by decide) c25
      · skip
        first | (exfalso; omega) | exact absurd c3 (by decide) | exact absurd (by decide) c3
    | 3, _ =>
      refine Rp.iload_n dX11_count_0 rfl ?_
      refine Rp.bipush (nI 8) dX11_count_1 (by decide) ?_
      first | ((with_reducible show Rp _ _ _ _ (.int (nI _) :: .int (nI _) :: _) _ _); refine Rp.icmp_ltN (tgt := 22) dX11_count_3 (by decide) (by omega) (fun c3 => ?_) (fun c3 => ?_)) | refine Rp.icmp_lt (tgt := 22) dX11_count_3 (by decide) (fun c3 => ?_) (fun c3 => ?_)
      · skip
        refine Rp.iload_n dX11_count_22 rfl ?_
        refine Rp.bipush (nI 14) dX11_count_23 (by decide) ?_
        first | ((with_reducible show Rp _ _ _ _ (.int (nI _) :: .int (nI _) :: _) _ _); refine Rp.icmp_ltN (tgt := 47) dX11_count_25 (by decide) (by omega) (fun c25 => ?_) (fun c25 => ?_)) | refine Rp.icmp_lt (tgt := 47) dX11_count_25 (by decide) (fun c25 => ?_) (fun c25 => ?_)
        · skip
          refine Rp.iload_n dX11_count_47 rfl ?_
          refine Rp.tableIn (tgt := 152) (off := 104) dX11_count_48 (by decide) (by decide) (by decide) (by decide) ?_
          refine Rp.aload_n dX11_count_152 rfl rfl ?_
          refine Rp.getR dX11_count_153 fk_X11_10 rfl (S _ _ rfl) (R _ _ _ rfl) ?_
          refine Rp.getI dX11_count_156 fk_X11_177 rfl (S _ _ rfl) ?_
          first | rw [hT] | skip
          refine Rp.ireturn dX11_count_159 rfl ?_
          exact ⟨rfl, rfl⟩
        · skip
          first | (exfalso; omega) | exact absurd c25 (by decide) | exact absurd (by decide) c25
      · skip
        first | (exfalso; omega) | exact absurd c3 (by decide) | exact absurd (by decide) c3
    | 4, _ =>
      refine Rp.iload_n dX11_count_0 rfl ?_
      refine Rp.bipush (nI 8) dX11_count_1 (by decide) ?_
      first | ((with_reducible show Rp _ _ _ _ (.int (nI _) :: .int (nI _) :: _) _ _); refine Rp.icmp_ltN (tgt := 22) dX11_count_3 (by decide) (by omega) (fun c3 => ?_) (fun c3 => ?_)) | refine Rp.icmp_lt (tgt := 22) dX11_count_3 (by decide) (fun c3 => ?_) (fun c3 => ?_)
      · skip
        refine Rp.iload_n dX11_count_22 rfl ?_
        refine Rp.bipush (nI 14) dX11_count_23 (by decide) ?_
        first | ((with_reducible show Rp _ _ _ _ (.int (nI _) :: .int (nI _) :: _) _ _); refine Rp.icmp_ltN (tgt := 47) dX11_count_25 (by decide) (by omega) (fun c25 => ?_) (fun c25 => ?_)) | refine Rp.icmp_lt (tgt := 47) dX11_count_25 (by decide) (fun c25 => ?_) (fun c25 => ?_)
        · skip
          refine Rp.iload_n dX11_count_47 rfl ?_
          refine Rp.tableIn (tgt := 160) (off := 112) dX11_count_48 (by decide) (by decide) (by decide) (by decide) ?_
          refine Rp.aload_n dX11_count_160 rfl rfl ?_
          refine Rp.getR dX11_count_161 fk_X11_10 rfl (S _ _ rfl) (R _ _ _ rfl) ?_
          refine Rp.getI dX11_count_164 fk_X11_322 rfl (S _ _ rfl) ?_
          first | rw [hT] | skip
          refine Rp.ireturn dX11_count_167 rfl ?_
          exact ⟨rfl, rfl⟩
        · skip
          first | (exfalso; omega) | exact absurd c25 (by decide) | exact absurd (by decide) c25
      · skip
        first | (exfalso; omega) | exact absurd c3 (by decide) | exact absurd (by decide) c3
    | 5, _ =>
      refine Rp.iload_n dX11_count_0 rfl ?_
      refine Rp.bipush (nI 8) dX11_count_1 (by decide) ?_
      first | ((with_reducible show Rp _ _ _ _ (.int (nI _) :: .int (nI _) :: _) _ _); refine Rp.icmp_ltN (tgt := 22) dX11_count_3 (by decide) (by omega) (fun c3 => ?_) (fun c3 => ?_)) | refine Rp.icmp_lt (tgt := 22) dX11_count_3 (by decide) (fun c3 => ?_) (fun c3 => ?_)
      · skip
        refine Rp.iload_n dX11_count_22 rfl ?_
        refine Rp.bipush (nI 14) dX11_count_23 (by decide) ?_
        first | ((with_reducible show Rp _ _ _ _ (.int (nI _) :: .int (nI _) :: _) _ _); refine Rp.icmp_ltN (tgt := 47) dX11_count_25 (by decide) (by omega) (fun c25 => ?_) (fun c25 => ?_)) | refine Rp.icmp_lt (tgt := 47) dX11_count_25 (by decide) (fun c25 => ?_) (fun c25 => ?_)
        · skip
          refine Rp.iload_n dX11_count_47 rfl ?_
          refine Rp.tableIn (tgt := 168) (off := 120) dX11_count_48 (by decide) (by decide) (by decide) (by decide) ?_
          refine Rp.aload_n dX11_count_168 rfl rfl ?_
          refine Rp.getR dX11_count_169 fk_X11_10 rfl (S _ _ rfl) (R _ _ _ rfl) ?_
          refine Rp.getI dX11_count_172 fk_X11_203 rfl (S _ _ rfl) ?_
          first | rw [hT] | skip
          refine Rp.ireturn dX11_count_175 rfl ?_
          exact ⟨rfl, rfl⟩
        · skip
          first | (exfalso; omega) | exact absurd c25 (by decide) | exact absurd (by decide) c25
      · skip
        first | (exfalso; omega) | exact absurd c3 (by decide) | exact absurd (by decide) c3
    | 6, _ =>
      refine Rp.iload_n dX11_count_0 rfl ?_
      refine Rp.bipush (nI 8) dX11_count_1 (by decide) ?_
      first | ((with_reducible show Rp _ _ _ _ (.int (nI _) :: .int (nI _) :: _) _ _); refine Rp.icmp_ltN (tgt := 22) dX11_count_3 (by decide) (by omega) (fun c3 => ?_) (fun c3 => ?_)) | refine Rp.icmp_lt (tgt := 22) dX11_count_3 (by decide) (fun c3 => ?_) (fun c3 => ?_)
      · skip
        refine Rp.iload_n dX11_count_22 rfl ?_
        refine Rp.bipush (nI 14) dX11_count_23 (by decide) ?_
        first | ((with_reducible show Rp _ _ _ _ (.int (nI _) :: .int (nI _) :: _) _ _); refine Rp.icmp_ltN (tgt := 47) dX11_count_25 (by decide) (by omega) (fun c25 => ?_) (fun c25 => ?_)) | refine Rp.icmp_lt (tgt := 47) dX11_count_25 (by decide) (fun c25 => ?_) (fun c25 => ?_)
        · skip
          refine Rp.iload_n dX11_count_47 rfl ?_
          refine Rp.tableIn (tgt := 176) (off := 128) dX11_count_48 (by decide) (by decide) (by decide) (by decide) ?_
          refine Rp.aload_n dX11_count_176 rfl rfl ?_
          refine Rp.getR dX11_count_177 fk_X11_10 rfl (S _ _ rfl) (R _ _ _ rfl) ?_
          refine Rp.getR dX11_count_180 fk_X11_113 rfl (S _ _ rfl) (R _ _ _ rfl) ?_
          refine Rp.getI dX11_count_183 fk_X11_379 rfl (S _ _ rfl) ?_
          first | rw [hT] | skip
          refine Rp.ireturn dX11_count_186 rfl ?_
          exact ⟨rfl, rfl⟩
        · skip
          first | (exfalso; omega) | exact absurd c25 (by decide) | exact absurd (by decide) c25
      · skip
        first | (exfalso; omega) | exact absurd c3 (by decide) | exact absurd (by decide) c3
    | 7, _ =>
      refine Rp.iload_n dX11_count_0 rfl ?_
      refine Rp.bipush (nI 8) dX11_count_1 (by decide) ?_
      first | ((with_reducible show Rp _ _ _ _ (.int (nI _) :: .int (nI _) :: _) _ _); refine Rp.icmp_ltN (tgt := 22) dX11_count_3 (by decide) (by omega) (fun c3 => ?_) (fun c3 => ?_)) | refine Rp.icmp_lt (tgt := 22) dX11_count_3 (by decide) (fun c3 => ?_) (fun c3 => ?_)
      · skip
        refine Rp.iload_n dX11_count_22 rfl ?_
        refine Rp.bipush (nI 14) dX11_count_23 (by decide) ?_
        first | ((with_reducible show Rp _ _ _ _ (.int (nI _) :: .int (nI _) :: _) _ _); refine Rp.icmp_ltN (tgt := 47) dX11_count_25 (by decide) (by omega) (fun c25 => ?_) (fun c25 => ?_)) | refine Rp.icmp_lt (tgt := 47) dX11_count_25 (by decide) (fun c25 => ?_) (fun c25 => ?_)
        · skip
          refine Rp.iload_n dX11_count_47 rfl ?_
          refine Rp.tableIn (tgt := 187) (off := 139) dX11_count_48 (by decide) (by decide) (by decide) (by decide) ?_
          refine Rp.aload_n dX11_count_187 rfl rfl ?_
          refine Rp.getR dX11_count_188 fk_X11_30 rfl (S _ _ rfl) (R _ _ _ rfl) ?_
          refine Rp.getI dX11_count_191 fk_X11_190 rfl (S _ _ rfl) ?_
          first | rw [hT] | skip
          refine Rp.ireturn dX11_count_194 rfl ?_
          exact ⟨rfl, rfl⟩
        · skip
          first | (exfalso; omega) | exact absurd c25 (by decide) | exact absurd (by decide) c25
      · skip
        first | (exfalso; omega) | exact absurd c3 (by decide) | exact absurd (by decide) c3
    | 8, _ =>
      refine Rp.iload_n dX11_count_0 rfl ?_
      refine Rp.bipush (nI 8) dX11_count_1 (by decide) ?_
      first | ((with_reducible show Rp _ _ _ _ (.int (nI _) :: .int (nI _) :: _) _ _); refine Rp.icmp_ltN (tgt := 22) dX11_count_3 (by decide) (by omega) (fun c3 => ?_) (fun c3 => ?_)) | refine Rp.icmp_lt (tgt := 22) dX11_count_3 (by decide) (fun c3 => ?_) (fun c3 => ?_)
      · skip
        first | (exfalso; omega) | exact absurd c3 (by decide) | exact absurd (by decide) c3
      · skip
        refine Rp.iload_n dX11_count_6 rfl ?_
        refine Rp.bipush (nI 12) dX11_count_7 (by decide) ?_
        first | ((with_reducible show Rp _ _ _ _ (.int (nI _) :: .int (nI _) :: _) _ _); refine Rp.icmp_gtN (tgt := 22) dX11_count_9 (by decide) (by omega) (fun c9 => ?_) (fun c9 => ?_)) | refine Rp.icmp_gt (tgt := 22) dX11_count_9 (by decide) (fun c9 => ?_) (fun c9 => ?_)
        · skip
          first | (exfalso; omega) | exact absurd c9 (by decide) | exact absurd (by decide) c9
        · skip
          refine Rp.aload_n dX11_count_12 rfl rfl ?_
          refine Rp.getR dX11_count_13 fk_X11_84 rfl (S _ _ rfl) (R _ _ _ rfl) ?_
          refine Rp.iload_n dX11_count_16 rfl ?_
          refine Rp.bipush (nI 8) dX11_count_17 (by decide) ?_
          first | ((with_reducible show Rp _ _ _ _ (.int (nI _) :: .int (nI _) :: _) _ _); refine Rp.isubN dX11_count_19 (by omega) ?_) | refine Rp.isub dX11_count_19 ?_
          first | ((with_reducible show Rp _ _ _ _ (.int (nI _) :: _) _ _); refine Rp.ialoadN dX11_count_20 (S _ _ rfl) (by omega) ?_) | refine Rp.iaload dX11_count_20 (S _ _ rfl) (by first | assumption | exact vpb (by decide)) ?_
          first | rw [hT] | skip
          refine Rp.ireturn dX11_count_21 rfl ?_
          exact ⟨rfl, rfl⟩
    | 9, _ =>
      refine Rp.iload_n dX11_count_0 rfl ?_
      refine Rp.bipush (nI 8) dX11_count_1 (by decide) ?_
      first | ((with_reducible show Rp _ _ _ _ (.int (nI _) :: .int (nI _) :: _) _ _); refine Rp.icmp_ltN (tgt := 22) dX11_count_3 (by decide) (by omega) (fun c3 => ?_) (fun c3 => ?_)) | refine Rp.icmp_lt (tgt := 22) dX11_count_3 (by decide) (fun c3 => ?_) (fun c3 => ?_)
      · skip
        first | (exfalso; omega) | exact absurd c3 (by decide) | exact absurd (by decide) c3
      · skip
        refine Rp.iload_n dX11_count_6 rfl ?_
        refine Rp.bipush (nI 12) dX11_count_7 (by decide) ?_
        first | ((with_reducible show Rp _ _ _ _ (.int (nI _) :: .int (nI _) :: _) _ _); refine Rp.icmp_gtN (tgt := 22) dX11_count_9 (by decide) (by omega) (fun c9 => ?_) (fun c9 => ?_)) | refine Rp.icmp_gt (tgt := 22) dX11_count_9 (by decide) (fun c9 => ?_) (fun c9 => ?_)
        · skip
          first | (exfalso; omega) | exact absurd c9 (by decide) | exact absurd (by decide) c9
        · skip
          refine Rp.aload_n dX11_count_12 rfl rfl ?_
          refine Rp.getR dX11_count_13 fk_X11_84 rfl (S _ _ rfl) (R _ _ _ rfl) ?_
          refine Rp.iload_n dX11_count_16 rfl ?_
          refine Rp.bipush (nI 8) dX11_count_17 (by decide) ?_
          first | ((with_reducible show Rp _ _ _ _ (.int (nI _) :: .int (nI _) :: _) _ _); refine Rp.isubN dX11_count_19 (by omega) ?_) | refine Rp.isub dX11_count_19 ?_
          first | ((with_reducible show Rp _ _ _ _ (.int (nI _) :: _) _ _); refine Rp.ialoadN dX11_count_20 (S _ _ rfl) (by omega) ?_) | refine Rp.iaload dX11_count_20 (S _ _ rfl) (by first | assumption | exact vpb (by decide)) ?_
          first | rw [hT] | skip
          refine Rp.ireturn dX11_count_21 rfl ?_
          exact ⟨rfl, rfl⟩
    | 10, _ =>
      refine Rp.iload_n dX11_count_0 rfl ?_
      refine Rp.bipush (nI 8) dX11_count_1 (by decide) ?_
      first | ((with_reducible show Rp _ _ _ _ (.int (nI _) :: .int (nI _) :: _) _ _); refine Rp.icmp_ltN (tgt := 22) dX11_count_3 (by decide) (by omega) (fun c3 => ?_) (fun c3 => ?_)) | refine Rp.icmp_lt (tgt := 22) dX11_count_3 (by decide) (fun c3 => ?_) (fun c3 => ?_)
      · skip
        first | (exfalso; omega) | exact absurd c3 (by decide) | exact absurd (by decide) c3
      · skip
        refine Rp.iload_n dX11_count_6 rfl ?_
        refine Rp.bipush (nI 12) dX11_count_7 (by decide) ?_
        first | ((with_reducible show Rp _ _ _ _ (.int (nI _) :: .int (nI _) :: _) _ _); refine Rp.icmp_gtN (tgt := 22) dX11_count_9 (by decide) (by omega) (fun c9 => ?_) (fun c9 => ?_)) | refine Rp.icmp_gt (tgt := 22) dX11_count_9 (by decide) (fun c9 => ?_) (fun c9 => ?_)
        · skip
          first | (exfalso; omega) | exact absurd c9 (by decide) | exact absurd (by decide) c9
        · skip
          refine Rp.aload_n dX11_count_12 rfl rfl ?_
          refine Rp.getR dX11_count_13 fk_X11_84 rfl (S _ _ rfl) (R _ _ _ rfl) ?_
          refine Rp.iload_n dX11_count_16 rfl ?_
          refine Rp.bipush (nI 8) dX11_count_17 (by decide) ?_
          first | ((with_reducible show Rp _ _ _ _ (.int (nI _) :: .int (nI _) :: _) _ _); refine Rp.isubN dX11_count_19 (by omega) ?_) | refine Rp.isub dX11_count_19 ?_
          first | ((with_reducible show Rp _ _ _ _ (.int (nI _) :: _) _ _); refine Rp.ialoadN dX11_count_20 (S _ _ rfl) (by omega) ?_) | refine Rp.iaload dX11_count_20 (S _ _ rfl) (by first | assumption | exact vpb (by decide)) ?_
          first | rw [hT] | skip
          refine Rp.ireturn dX11_count_21 rfl ?_
          exact ⟨rfl, rfl⟩
    | 11, _ =>
      refine Rp.iload_n dX11_count_0 rfl ?_
      refine Rp.bipush (nI 8) dX11_count_1 (by decide) ?_
      first | ((with_reducible show Rp _ _ _ _ (.int (nI _) :: .int (nI _) :: _) _ _); refine Rp.icmp_ltN (tgt := 22) dX11_count_3 (by decide) (by omega) (fun c3 => ?_) (fun c3 => ?_)) | refine Rp.icmp_lt (tgt := 22) dX11_count_3 (by decide) (fun c3 => ?_) (fun c3 => ?_)
      · skip
        first | (exfalso; omega) | exact absurd c3 (by decide) | exact absurd (by decide) c3
      · skip
        refine Rp.iload_n dX11_count_6 rfl ?_
        refine Rp.bipush (nI 12) dX11_count_7 (by decide) ?_
        first | ((with_reducible show Rp _ _ _ _ (.int (nI _) :: .int (nI _) :: _) _ _); refine Rp.icmp_gtN (tgt := 22) dX11_count_9 (by decide) (by omega) (fun c9 => ?_) (fun c9 => ?_)) | refine Rp.icmp_gt (tgt := 22) dX11_count_9 (by decide) (fun c9 => ?_) (fun c9 => ?_)
        · skip
          first | (exfalso; omega) | exact absurd c9 (by decide) | exact absurd (by decide) c9
        · skip
          refine Rp.aload_n dX11_count_12 rfl rfl ?_
          refine Rp.getR dX11_count_13 fk_X11_84 rfl (S _ _ rfl) (R _ _ _ rfl) ?_
          refine Rp.iload_n dX11_count_16 rfl ?_
          refine Rp.bipush (nI 8) dX11_count_17 (by decide) ?_
          first | ((with_reducible show Rp _ _ _ _ (.int (nI _) :: .int (nI _) :: _) _ _); refine Rp.isubN dX11_count_19 (by omega) ?_) | refine Rp.isub dX11_count_19 ?_
          first | ((with_reducible show Rp _ _ _ _ (.int (nI _) :: _) _ _); refine Rp.ialoadN dX11_count_20 (S _ _ rfl) (by omega) ?_) | refine Rp.iaload dX11_count_20 (S _ _ rfl) (by first | assumption | exact vpb (by decide)) ?_
          first | rw [hT] | skip
          refine Rp.ireturn dX11_count_21 rfl ?_
          exact ⟨rfl, rfl⟩
    | 12, _ =>
      refine Rp.iload_n dX11_count_0 rfl ?_
      refine Rp.bipush (nI 8) dX11_count_1 (by decide) ?_
      first | ((with_reducible show Rp _ _ _ _ (.int (nI _) :: .int (nI _) :: _) _ _); refine Rp.icmp_ltN (tgt := 22) dX11_count_3 (by decide) (by omega) (fun c3 => ?_) (fun c3 => ?_)) | refine Rp.icmp_lt (tgt := 22) dX11_count_3 (by decide) (fun c3 => ?_) (fun c3 => ?_)
      · skip
        first | (exfalso; omega) | exact absurd c3 (by decide) | exact absurd (by decide) c3
      · skip
        refine Rp.iload_n dX11_count_6 rfl ?_
        refine Rp.bipush (nI 12) dX11_count_7 (by decide) ?_
        first | ((with_reducible show Rp _ _ _ _ (.int (nI _) :: .int (nI _) :: _) _ _); refine Rp.icmp_gtN (tgt := 22) dX11_count_9 (by decide) (by omega) (fun c9 => ?_) (fun c9 => ?_)) | refine Rp.icmp_gt (tgt := 22) dX11_count_9 (by decide) (fun c9 => ?_) (fun c9 => ?_)
        · skip
          first | (exfalso; omega) | exact absurd c9 (by decide) | exact absurd (by decide) c9
        · skip
          refine Rp.aload_n dX11_count_12 rfl rfl ?_
          refine Rp.getR dX11_count_13 fk_X11_84 rfl (S _ _ rfl) (R _ _ _ rfl) ?_
          refine Rp.iload_n dX11_count_16 rfl ?_
          refine Rp.bipush (nI 8) dX11_count_17 (by decide) ?_
          first | ((with_reducible show Rp _ _ _ _ (.int (nI _) :: .int (nI _) :: _) _ _); refine Rp.isubN dX11_count_19 (by omega) ?_) | refine Rp.isub dX11_count_19 ?_
          first | ((with_reducible show Rp _ _ _ _ (.int (nI _) :: _) _ _); refine Rp.ialoadN dX11_count_20 (S _ _ rfl) (by omega) ?_) | refine Rp.iaload dX11_count_20 (S _ _ rfl) (by first | assumption | exact vpb (by decide)) ?_
          first | rw [hT] | skip
          refine Rp.ireturn dX11_count_21 rfl ?_
          exact ⟨rfl, rfl⟩
    | 13, _ =>
      refine Rp.iload_n dX11_count_0 rfl ?_
      refine Rp.bipush (nI 8) dX11_count_1 (by decide) ?_
      first | ((with_reducible show Rp _ _ _ _ (.int (nI _) :: .int (nI _) :: _) _ _); refine Rp.icmp_ltN (tgt := 22) dX11_count_3 (by decide) (by omega) (fun c3 => ?_) (fun c3 => ?_)) | refine Rp.icmp_lt (tgt := 22) dX11_count_3 (by decide) (fun c3 => ?_) (fun c3 => ?_)
      · skip
        first | (exfalso; omega) | exact absurd c3 (by decide) | exact absurd (by decide) c3
      · skip
        refine Rp.iload_n dX11_count_6 rfl ?_
        refine Rp.bipush (nI 12) dX11_count_7 (by decide) ?_
        first | ((with_reducible show Rp _ _ _ _ (.int (nI _) :: .int (nI _) :: _) _ _); refine Rp.icmp_gtN (tgt := 22) dX11_count_9 (by decide) (by omega) (fun c9 => ?_) (fun c9 => ?_)) | refine Rp.icmp_gt (tgt := 22) dX11_count_9 (by decide) (fun c9 => ?_) (fun c9 => ?_)
        · skip
          refine Rp.iload_n dX11_count_22 rfl ?_
          refine Rp.bipush (nI 14) dX11_count_23 (by decide) ?_
          first | ((with_reducible show Rp _ _ _ _ (.int (nI _) :: .int (nI _) :: _) _ _); refine Rp.icmp_ltN (tgt := 47) dX11_count_25 (by decide) (by omega) (fun c25 => ?_) (fun c25 => ?_)) | refine Rp.icmp_lt (tgt := 47) dX11_count_25 (by decide) (fun c25 => ?_) (fun c25 => ?_)
          · skip
            refine Rp.iload_n dX11_count_47 rfl ?_
            refine Rp.tableIn (tgt := 195) (off := 147) dX11_count_48 (by decide) (by decide) (by decide) (by decide) ?_
            refine Rp.aload_n dX11_count_195 rfl rfl ?_
            refine Rp.getR dX11_count_196 fk_X11_10 rfl (S _ _ rfl) (R _ _ _ rfl) ?_
            refine Rp.getI dX11_count_199 fk_X11_239 rfl (S _ _ rfl) ?_
            first | rw [hT] | skip
            refine Rp.ireturn dX11_count_202 rfl ?_
            exact ⟨rfl, rfl⟩
          · skip
            first | (exfalso; omega) | exact absurd c25 (by decide) | exact absurd (by decide) c25
        · skip
          first | (exfalso; omega) | exact absurd c9 (by decide) | exact absurd (by decide) c9
    | 14, _ =>
      refine Rp.iload_n dX11_count_0 rfl ?_
      refine Rp.bipush (nI 8) dX11_count_1 (by decide) ?_
      first | ((with_reducible show Rp _ _ _ _ (.int (nI _) :: .int (nI _) :: _) _ _); refine Rp.icmp_ltN (tgt := 22) dX11_count_3 (by decide) (by omega) (fun c3 => ?_) (fun c3 => ?_)) | refine Rp.icmp_lt (tgt := 22) dX11_count_3 (by decide) (fun c3 => ?_) (fun c3 => ?_)
      · skip
        first | (exfalso; omega) | exact absurd c3 (by decide) | exact absurd (by decide) c3
      · skip
        refine Rp.iload_n dX11_count_6 rfl ?_
        refine Rp.bipush (nI 12) dX11_count_7 (by decide) ?_
        first | ((with_reducible show Rp _ _ _ _ (.int (nI _) :: .int (nI _) :: _) _ _); refine Rp.icmp_gtN (tgt := 22) dX11_count_9 (by decide) (by omega) (fun c9 => ?_) (fun c9 => ?_)) | refine Rp.icmp_gt (tgt := 22) dX11_count_9 (by decide) (fun c9 => ?_) (fun c9 => ?_)
        · skip
          refine Rp.iload_n dX11_count_22 rfl ?_
          refine Rp.bipush (nI 14) dX11_count_23 (by decide) ?_
          first | ((with_reducible show Rp _ _ _ _ (.int (nI _) :: .int (nI _) :: _) _ _); refine Rp.icmp_ltN (tgt := 47) dX11_count_25 (by decide) (by omega) (fun c25 => ?_) (fun c25 => ?_)) | refine Rp.icmp_lt (tgt := 47) dX11_count_25 (by decide) (fun c25 => ?_) (fun c25 => ?_)
          · skip
            first | (exfalso; omega) | exact absurd c25 (by decide) | exact absurd (by decide) c25
          · skip
            refine Rp.iload_n dX11_count_28 rfl ?_
            refine Rp.bipush (nI 16) dX11_count_29 (by decide) ?_
            first | ((with_reducible show Rp _ _ _ _ (.int (nI _) :: .int (nI _) :: _) _ _); refine Rp.icmp_gtN (tgt := 47) dX11_count_31 (by decide) (by omega) (fun c31 => ?_) (fun c31 => ?_)) | refine Rp.icmp_gt (tgt := 47) dX11_count_31 (by decide) (fun c31 => ?_) (fun c31 => ?_)
            · skip
              first | (exfalso; omega) | exact absurd c31 (by decide) | exact absurd (by decide) c31
            · skip
              refine Rp.aload_n dX11_count_34 rfl rfl ?_
              refine Rp.getR dX11_count_35 fk_X11_10 rfl (S _ _ rfl) (R _ _ _ rfl) ?_
              refine Rp.getR dX11_count_38 fk_X11_187 rfl (S _ _ rfl) (R _ _ _ rfl) ?_
              refine Rp.iload_n dX11_count_41 rfl ?_
              refine Rp.bipush (nI 14) dX11_count_42 (by decide) ?_
              first | ((with_reducible show Rp _ _ _ _ (.int (nI _) :: .int (nI _) :: _) _ _); refine Rp.isubN dX11_count_44 (by omega) ?_) | refine Rp.isub dX11_count_44 ?_
              first | ((with_reducible show Rp _ _ _ _ (.int (nI _) :: _) _ _); refine Rp.ialoadN dX11_count_45 (S _ _ rfl) (by omega) ?_) | refine Rp.iaload dX11_count_45 (S _ _ rfl) (by first | assumption | exact vpb (by decide)) ?_
              first | rw [hT] | skip
              refine Rp.ireturn dX11_count_46 rfl ?_
              exact ⟨rfl, rfl⟩
        · skip
          first | (exfalso; omega) | exact absurd c9 (by decide) | exact absurd (by decide) c9
    | 15, _ =>
      refine Rp.iload_n dX11_count_0 rfl ?_
      refine Rp.bipush (nI 8) dX11_count_1 (by decide) ?_
      first | ((with_reducible show Rp _ _ _ _ (.int (nI _) :: .int (nI _) :: _) _ _); refine Rp.icmp_ltN (tgt := 22) dX11_count_3 (by decide) (by omega) (fun c3 => ?_) (fun c3 => ?_)) | refine Rp.icmp_lt (tgt := 22) dX11_count_3 (by decide) (fun c3 => ?_) (fun c3 => ?_)
      · skip
        first | (exfalso; omega) | exact absurd c3 (by decide) | exact absurd (by decide) c3
      · skip
        refine Rp.iload_n dX11_count_6 rfl ?_
        refine Rp.bipush (nI 12) dX11_count_7 (by decide) ?_
        first | ((with_reducible show Rp _ _ _ _ (.int (nI _) :: .int (nI _) :: _) _ _); refine Rp.icmp_gtN (tgt := 22) dX11_count_9 (by decide) (by omega) (fun c9 => ?_) (fun c9 => ?_)) | refine Rp.icmp_gt (tgt := 22) dX11_count_9 (by decide) (fun c9 => ?_) (fun c9 => ?_)
        · skip
          refine Rp.iload_n dX11_count_22 rfl ?_
          refine Rp.bipush (nI 14) dX11_count_23 (by decide) ?_
          first | ((with_reducible show Rp _ _ _ _ (.int (nI _) :: .int (nI _) :: _) _ _); refine Rp.icmp_ltN (tgt := 47) dX11_count_25 (by decide) (by omega) (fun c25 => ?_) (fun c25 => ?_)) | refine Rp.icmp_lt (tgt := 47) dX11_count_25 (by decide) (fun c25 => ?_) (fun c25 => ?_)
          · skip
            first | (exfalso; omega) | exact absurd c25 (by decide) | exact absurd (by decide) c25
          · skip
            refine Rp.iload_n dX11_count_28 rfl ?_
            refine Rp.bipush (nI 16) dX11_count_29 (by decide) ?_
            first | ((with_reducible show Rp _ _ _ _ (.int (nI _) :: .int (nI _) :: _) _ _); refine Rp.icmp_gtN (tgt := 47) dX11_count_31 (by decide) (by omega) (fun c31 => ?_) (fun c31 => ?_)) | refine Rp.icmp_gt (tgt := 47) dX11_count_31 (by decide) (fun c31 => ?_) (fun c31 => ?_)
            · skip
              first | (exfalso; omega) | exact absurd c31 (by decide) | exact absurd (by decide) c31
            · skip
              refine Rp.aload_n dX11_count_34 rfl rfl ?_
              refine Rp.getR dX11_count_35 fk_X11_10 rfl (S _ _ rfl) (R _ _ _ rfl) ?_
              refine Rp.getR dX11_count_38 fk_X11_187 rfl (S _ _ rfl) (R _ _ _ rfl) ?_
              refine Rp.iload_n dX11_count_41 rfl ?_
              refine Rp.bipush (nI 14) dX11_count_42 (by decide) ?_
              first | ((with_reducible show Rp _ _ _ _ (.int (nI _) :: .int (nI _) :: _) _ _); refine Rp.isubN dX11_count_44 (by omega) ?_) | refine Rp.isub dX11_count_44 ?_
              first | ((with_reducible show Rp _ _ _ _ (.int (nI _) :: _) _ _); refine Rp.ialoadN dX11_count_45 (S _ _ rfl) (by omega) ?_) | refine Rp.iaload dX11_count_45 (S _ _ rfl) (by first | assumption | exact vpb (by decide)) ?_
              first | rw [hT] | skip
              refine Rp.ireturn dX11_count_46 rfl ?_
              exact ⟨rfl, rfl⟩
        · skip
          first | (exfalso; omega) | exact absurd c9 (by decide) | exact absurd (by decide) c9
    | 16, _ =>
      refine Rp.iload_n dX11_count_0 rfl ?_
      refine Rp.bipush (nI 8) dX11_count_1 (by decide) ?_
      first | ((with_reducible show Rp _ _ _ _ (.int (nI _) :: .int (nI _) :: _) _ _); refine Rp.icmp_ltN (tgt := 22) dX11_count_3 (by decide) (by omega) (fun c3 => ?_) (fun c3 => ?_)) | refine Rp.icmp_lt (tgt := 22) dX11_count_3 (by decide) (fun c3 => ?_) (fun c3 => ?_)
      · skip
        first | (exfalso; omega) | exact absurd c3 (by decide) | exact absurd (by decide) c3
      · skip
        refine Rp.iload_n dX11_count_6 rfl ?_
        refine Rp.bipush (nI 12) dX11_count_7 (by decide) ?_
        first | ((with_reducible show Rp _ _ _ _ (.int (nI _) :: .int (nI _) :: _) _ _); refine Rp.icmp_gtN (tgt := 22) dX11_count_9 (by decide) (by omega) (fun c9 => ?_) (fun c9 => ?_)) | refine Rp.icmp_gt (tgt := 22) dX11_count_9 (by decide) (fun c9 => ?_) (fun c9 => ?_)
        · skip
          refine Rp.iload_n dX11_count_22 rfl ?_
          refine Rp.bipush (nI 14) dX11_count_23 (by decide) ?_
          first | ((with_reducible show Rp _ _ _ _ (.int (nI _) :: .int (nI _) :: _) _ _); refine Rp.icmp_ltN (tgt := 47) dX11_count_25 (by decide) (by omega) (fun c25 => ?_) (fun c25 => ?_)) | refine Rp.icmp_lt (tgt := 47) dX11_count_25 (by decide) (fun c25 => ?_) (fun c25 => ?_)
          · skip
            first | (exfalso; omega) | exact absurd c25 (by decide) | exact absurd (by decide) c25
          · skip
            refine Rp.iload_n dX11_count_28 rfl ?_
            refine Rp.bipush (nI 16) dX11_count_29 (by decide) ?_
            first | ((with_reducible show Rp _ _ _ _ (.int (nI _) :: .int (nI _) :: _) _ _); refine Rp.icmp_gtN (tgt := 47) dX11_count_31 (by decide) (by omega) (fun c31 => ?_) (fun c31 => ?_)) | refine Rp.icmp_gt (tgt := 47) dX11_count_31 (by decide) (fun c31 => ?_) (fun c31 => ?_)
            · skip
              first | (exfalso; omega) | exact absurd c31 (by decide) | exact absurd (by decide) c31
            · skip
              refine Rp.aload_n dX11_count_34 rfl rfl ?_
              refine Rp.getR dX11_count_35 fk_X11_10 rfl (S _ _ rfl) (R _ _ _ rfl) ?_
              refine Rp.getR dX11_count_38 fk_X11_187 rfl (S _ _ rfl) (R _ _ _ rfl) ?_
              refine Rp.iload_n dX11_count_41 rfl ?_
              refine Rp.bipush (nI 14) dX11_count_42 (by decide) ?_
              first | ((with_reducible show Rp _ _ _ _ (.int (nI _) :: .int (nI _) :: _) _ _); refine Rp.isubN dX11_count_44 (by omega) ?_) | refine Rp.isub dX11_count_44 ?_
              first | ((with_reducible show Rp _ _ _ _ (.int (nI _) :: _) _ _); refine Rp.ialoadN dX11_count_45 (S _ _ rfl) (by omega) ?_) | refine Rp.iaload dX11_count_45 (S _ _ rfl) (by first | assumption | exact vpb (by decide)) ?_
              first | rw [hT] | skip
              refine Rp.ireturn dX11_count_46 rfl ?_
              exact ⟨rfl, rfl⟩
        · skip
          first | (exfalso; omega) | exact absurd c9 (by decide) | exact absurd (by decide) c9
    | k + 17, hk => exact absurd hk (by omega)
  · have hn : w < 0 ∨ nI 16 < w := by
      simp only [inN, decide_eq_true_eq] at hw
      simp only [i32_lt]
      have e1 : (nI 16).toInt = 16 := rfl
      have e2 : (0 : Int32).toInt = 0 := rfl
      omega
    have hv : mCountC h w nt = -1 := by
      have k1 : ∀ i, i < 17 → ¬ w = nI i := fun i hi z => by
        subst z
        exact hw ((inN_iff (by omega)).mpr ⟨i, hi, rfl⟩)
      have k2 : ¬ (nI 8 ≤ w ∧ w ≤ nI 12) := fun z => by
        simp only [i32_lt, i32_le] at *
        have e1 : (nI 16).toInt = 16 := rfl
        have e2 : (0 : Int32).toInt = 0 := rfl
        have e3 : (nI 8).toInt = 8 := rfl
        have e4 : (nI 12).toInt = 12 := rfl
        omega
      have k3 : ¬ (nI 14 ≤ w ∧ w ≤ nI 16) := fun z => by
        simp only [i32_lt, i32_le] at *
        have e1 : (nI 16).toInt = 16 := rfl
        have e2 : (0 : Int32).toInt = 0 := rfl
        have e3 : (nI 14).toInt = 14 := rfl
        omega
      unfold mCountC
      rw [if_neg k2, if_neg k3, if_neg (k1 0 (by decide)), if_neg (k1 1 (by decide)), if_neg (k1 2 (by decide)), if_neg (k1 3 (by decide)), if_neg (k1 4 (by decide)), if_neg (k1 5 (by decide)), if_neg (k1 6 (by decide)), if_neg (k1 7 (by decide)), if_neg (k1 13 (by decide))]
    have hx48 : ¬ (0 ≤ w.toInt ∧ w.toInt ≤ 13) := fun z => by
      simp only [i32_lt] at *
      have e1 : (nI 16).toInt = 16 := rfl
      have e2 : (0 : Int32).toInt = 0 := rfl
      omega
    have j1 : nI 8 ≤ w → ¬ w ≤ nI 12 := fun a b => by
      simp only [i32_lt, i32_le] at *
      have e1 : (nI 16).toInt = 16 := rfl
      have e2 : (0 : Int32).toInt = 0 := rfl
      have e3 : (nI 8).toInt = 8 := rfl
      have e4 : (nI 12).toInt = 12 := rfl
      omega
    have j2 : nI 14 ≤ w → ¬ w ≤ nI 16 := fun a b => by
      simp only [i32_lt, i32_le] at *
      have e1 : (nI 16).toInt = 16 := rfl
      have e2 : (0 : Int32).toInt = 0 := rfl
      have e3 : (nI 14).toInt = 14 := rfl
      omega
    refine Rp.iload_n dX11_count_0 rfl ?_
    refine Rp.bipush (nI 8) dX11_count_1 (by decide) ?_
    first | ((with_reducible show Rp _ _ _ _ (.int (nI _) :: .int (nI _) :: _) _ _); refine Rp.icmp_ltN (tgt := 22) dX11_count_3 (by decide) (by omega) (fun c3 => ?_) (fun c3 => ?_)) | refine Rp.icmp_lt (tgt := 22) dX11_count_3 (by decide) (fun c3 => ?_) (fun c3 => ?_)
    · skip
      refine Rp.iload_n dX11_count_22 rfl ?_
      refine Rp.bipush (nI 14) dX11_count_23 (by decide) ?_
      first | ((with_reducible show Rp _ _ _ _ (.int (nI _) :: .int (nI _) :: _) _ _); refine Rp.icmp_ltN (tgt := 47) dX11_count_25 (by decide) (by omega) (fun c25 => ?_) (fun c25 => ?_)) | refine Rp.icmp_lt (tgt := 47) dX11_count_25 (by decide) (fun c25 => ?_) (fun c25 => ?_)
      · skip
        refine Rp.iload_n dX11_count_47 rfl ?_
        refine Rp.tableOut (tgt := 203) dX11_count_48 (by omega) (by decide) ?_
        refine Rp.iconst (-1) dX11_count_203 (by decide) ?_
        refine Rp.ireturn dX11_count_204 rfl ?_
        exact ⟨rfl, by rw [hv]⟩
      · skip
        refine Rp.iload_n dX11_count_28 rfl ?_
        refine Rp.bipush (nI 16) dX11_count_29 (by decide) ?_
        first | ((with_reducible show Rp _ _ _ _ (.int (nI _) :: .int (nI _) :: _) _ _); refine Rp.icmp_gtN (tgt := 47) dX11_count_31 (by decide) (by omega) (fun c31 => ?_) (fun c31 => ?_)) | refine Rp.icmp_gt (tgt := 47) dX11_count_31 (by decide) (fun c31 => ?_) (fun c31 => ?_)
        · skip
          refine Rp.iload_n dX11_count_47 rfl ?_
          refine Rp.tableOut (tgt := 203) dX11_count_48 (by omega) (by decide) ?_
          refine Rp.iconst (-1) dX11_count_203 (by decide) ?_
          refine Rp.ireturn dX11_count_204 rfl ?_
          exact ⟨rfl, by rw [hv]⟩
        · skip
          exact absurd c31 (by simp only [i32_lt, i32_le] at *; omega)
    · skip
      refine Rp.iload_n dX11_count_6 rfl ?_
      refine Rp.bipush (nI 12) dX11_count_7 (by decide) ?_
      first | ((with_reducible show Rp _ _ _ _ (.int (nI _) :: .int (nI _) :: _) _ _); refine Rp.icmp_gtN (tgt := 22) dX11_count_9 (by decide) (by omega) (fun c9 => ?_) (fun c9 => ?_)) | refine Rp.icmp_gt (tgt := 22) dX11_count_9 (by decide) (fun c9 => ?_) (fun c9 => ?_)
      · skip
        refine Rp.iload_n dX11_count_22 rfl ?_
        refine Rp.bipush (nI 14) dX11_count_23 (by decide) ?_
        first | ((with_reducible show Rp _ _ _ _ (.int (nI _) :: .int (nI _) :: _) _ _); refine Rp.icmp_ltN (tgt := 47) dX11_count_25 (by decide) (by omega) (fun c25 => ?_) (fun c25 => ?_)) | refine Rp.icmp_lt (tgt := 47) dX11_count_25 (by decide) (fun c25 => ?_) (fun c25 => ?_)
        · skip
          refine Rp.iload_n dX11_count_47 rfl ?_
          refine Rp.tableOut (tgt := 203) dX11_count_48 (by omega) (by decide) ?_
          refine Rp.iconst (-1) dX11_count_203 (by decide) ?_
          refine Rp.ireturn dX11_count_204 rfl ?_
          exact ⟨rfl, by rw [hv]⟩
        · skip
          refine Rp.iload_n dX11_count_28 rfl ?_
          refine Rp.bipush (nI 16) dX11_count_29 (by decide) ?_
          first | ((with_reducible show Rp _ _ _ _ (.int (nI _) :: .int (nI _) :: _) _ _); refine Rp.icmp_gtN (tgt := 47) dX11_count_31 (by decide) (by omega) (fun c31 => ?_) (fun c31 => ?_)) | refine Rp.icmp_gt (tgt := 47) dX11_count_31 (by decide) (fun c31 => ?_) (fun c31 => ?_)
          · skip
            refine Rp.iload_n dX11_count_47 rfl ?_
            refine Rp.tableOut (tgt := 203) dX11_count_48 (by omega) (by decide) ?_
            refine Rp.iconst (-1) dX11_count_203 (by decide) ?_
            refine Rp.ireturn dX11_count_204 rfl ?_
            exact ⟨rfl, by rw [hv]⟩
          · skip
            exact absurd c31 (by simp only [i32_lt, i32_le] at *; omega)
      · skip
        exact absurd c9 (by simp only [i32_lt, i32_le] at *; omega)
end Cn
