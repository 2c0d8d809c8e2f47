def inN (p : Int32) (n : Nat) : Bool := decide (0 ≤ p.toInt ∧ p.toInt < n)
theorem inN_iff {p : Int32} {n : Nat} (hn : n < 2147483648) : inN p n = true ↔ ∃ q, q < n ∧ p = nI q := by
  unfold inN
  rw [decide_eq_true_eq]
  constructor
  · intro ⟨h1, h2⟩
    obtain ⟨j, hj, e⟩ := vp_in_of (vp_in_iff.mpr ⟨h1, h2⟩) hn
    exact ⟨j, hj, e⟩
  · rintro ⟨q, hq, rfl⟩
    rw [nI_toInt (by omega)]
    omega
theorem inN_lies {p : Int32} {n : Nat} (hn : n < 1000000) : decide (nI 0 ≤ p ∧ p ≤ nI n - nI 1) = inN p n := by
  unfold inN
  congr 1
  rw [i32_le, i32_le, pk_sub_toInt (by omega) (by omega), nI_toInt (by omega)]
  exact propext ⟨fun ⟨a, b⟩ => ⟨by omega, by omega⟩, fun ⟨a, b⟩ => ⟨by omega, by omega⟩⟩
theorem inN_lies' {p : Int32} {n : Nat} (hn : n < 1000000) : decide (nI 0 ≤ p ∧ p ≤ nI n) = inN p (n + 1) := by
  unfold inN
  congr 1
  rw [i32_le, i32_le, nI_toInt (by omega), nI_toInt (by omega)]
  exact propext ⟨fun ⟨a, b⟩ => ⟨by omega, by omega⟩, fun ⟨a, b⟩ => ⟨by omega, by omega⟩⟩
section MB
variable (d : Nat) {h : AH}
theorem s_isPerson (S : ShOK h) (R : RfOK h) (p : Int32) {np : Nat} (hp : np ≤ 6) (hM : gI h am_kept 103 = nI np) : Rp (d + 1) M_X12_isPerson 0 [some (.ref aM), some (.int p)] [] h (fun r h' => h' = h ∧ r = some (.int (b2i (inN p np)))) := by
  refine Rp.iload_n dX12_isPerson_0 rfl ?_
  refine Rp.iconst (nI 0) dX12_isPerson_1 (by decide) ?_
  refine Rp.aload_n dX12_isPerson_2 rfl rfl ?_
  refine Rp.getR dX12_isPerson_3 fk_X12_24 rfl (S _ _ rfl) (R _ _ _ rfl) ?_
  refine Rp.bipush (nI 103) dX12_isPerson_6 (by decide) ?_
  first | ((with_reducible show Rp _ _ _ _ (.int (nI _) :: _) _ _); refine Rp.ialoadN dX12_isPerson_8 (S _ _ rfl) (by omega) ?_) | refine Rp.iaload dX12_isPerson_8 (S _ _ rfl) (by first | assumption | exact vpb (by decide)) ?_
  rw [show gI h 102 103 = nI np from hM]
  refine Rp.iconst (nI 1) dX12_isPerson_9 (by decide) ?_
  skip
  first | ((with_reducible show Rp _ _ _ _ (.int (nI _) :: .int (nI _) :: _) _ _); refine Rp.isubN dX12_isPerson_10 (by omega) ?_) | refine Rp.isub dX12_isPerson_10 ?_
  refine Rp.callS3 M_X12_lies dX12_isPerson_11 mo_X12_lies lk_X12_117 (Nat.le_of_ble_eq_true rfl) (Nat.le_of_ble_eq_true rfl) (s_lies d h p (nI 0) (nI np - nI 1)) (fun v1 h1 p1 x1 => ?_)
  rw [p1.1, p1.2, inN_lies (by omega)]
  try dsimp only [Option.toList, List.cons_append, List.nil_append, List.append]
  refine Rp.zreturn dX12_isPerson_14 rfl (b2i_01 _) ?_
  exact ⟨rfl, rfl⟩
theorem s_isTicket (S : ShOK h) (R : RfOK h) (p : Int32) {nt : Nat} (hp : nt ≤ 8) (hM : gI h am_kept 104 = nI nt) : Rp (d + 1) M_X12_isTicket 0 [some (.ref aM), some (.int p)] [] h (fun r h' => h' = h ∧ r = some (.int (b2i (inN p nt)))) := by
  refine Rp.iload_n dX12_isTicket_0 rfl ?_
  refine Rp.iconst (nI 0) dX12_isTicket_1 (by decide) ?_
  refine Rp.aload_n dX12_isTicket_2 rfl rfl ?_
  refine Rp.getR dX12_isTicket_3 fk_X12_24 rfl (S _ _ rfl) (R _ _ _ rfl) ?_
  refine Rp.bipush (nI 104) dX12_isTicket_6 (by decide) ?_
  first | ((with_reducible show Rp _ _ _ _ (.int (nI _) :: _) _ _); refine Rp.ialoadN dX12_isTicket_8 (S _ _ rfl) (by omega) ?_) | refine Rp.iaload dX12_isTicket_8 (S _ _ rfl) (by first | assumption | exact vpb (by decide)) ?_
  rw [show gI h 102 104 = nI nt from hM]
  refine Rp.iconst (nI 1) dX12_isTicket_9 (by decide) ?_
  first | ((with_reducible show Rp _ _ _ _ (.int (nI _) :: .int (nI _) :: _) _ _); refine Rp.isubN dX12_isTicket_10 (by omega) ?_) | refine Rp.isub dX12_isTicket_10 ?_
  refine Rp.callS3 M_X12_lies dX12_isTicket_11 mo_X12_lies lk_X12_117 (Nat.le_of_ble_eq_true rfl) (Nat.le_of_ble_eq_true rfl) (s_lies d h p (nI 0) (nI nt - nI 1)) (fun v1 h1 p1 x1 => ?_)
  rw [p1.1, p1.2, inN_lies (by omega)]
  try dsimp only [Option.toList, List.cons_append, List.nil_append, List.append]
  refine Rp.zreturn dX12_isTicket_14 rfl (b2i_01 _) ?_
  exact ⟨rfl, rfl⟩
theorem s_isKind (p : Int32) : Rp (d + 1) M_X12_isKind 0 [some (.int p)] [] h (fun r h' => h' = h ∧ r = some (.int (b2i (inN p 5)))) := by
  refine Rp.iload_n dX12_isKind_0 rfl ?_
  refine Rp.iconst (nI 0) dX12_isKind_1 (by decide) ?_
  refine Rp.iconst (nI 4) dX12_isKind_2 (by decide) ?_
  refine Rp.callS3 M_X12_lies dX12_isKind_3 mo_X12_lies lk_X12_117 (Nat.le_of_ble_eq_true rfl) (Nat.le_of_ble_eq_true rfl) (s_lies d h p (nI 0) (nI 4)) (fun v1 h1 p1 x1 => ?_)
  rw [p1.1, p1.2, inN_lies' (by omega)]
  try dsimp only [Option.toList, List.cons_append, List.nil_append, List.append]
  refine Rp.zreturn dX12_isKind_6 rfl (b2i_01 _) ?_
  exact ⟨rfl, rfl⟩
theorem s_holds (S : ShOK h) (R : RfOK h) {q : Nat} (hq : q < 5716) : Rp d M_X12_holds 0 [some (.ref aM), some (.int (nI q))] [] h (fun r h' => h' = h ∧ r = some (.int (b2i (decide (gI h am_kept q ≠ -1))))) := by
  refine Rp.aload_n dX12_holds_0 rfl rfl ?_
  refine Rp.getR dX12_holds_1 fk_X12_24 rfl (S _ _ rfl) (R _ _ _ rfl) ?_
  refine Rp.iconst (nI 0) dX12_holds_4 (by decide) ?_
  refine Rp.iload_n dX12_holds_5 rfl ?_
  first | ((with_reducible show Rp _ _ _ _ (.int (nI _) :: .int (nI _) :: _) _ _); refine Rp.iaddN dX12_holds_6 ?_) | refine Rp.iadd dX12_holds_6 ?_
  rw [Nat.zero_add q]
  first | ((with_reducible show Rp _ _ _ _ (.int (nI _) :: _) _ _); refine Rp.ialoadN dX12_holds_7 (S _ _ rfl) (by omega) ?_) | refine Rp.iaload dX12_holds_7 (S _ _ rfl) (by first | assumption | exact vpb (by decide)) ?_
  refine Rp.iconst (-1) dX12_holds_8 (by decide) ?_
  first | ((with_reducible show Rp _ _ _ _ (.int (nI _) :: .int (nI _) :: _) _ _); refine Rp.icmp_eqN (tgt := 16) dX12_holds_9 (by decide) (by omega) (fun c9 => ?_) (fun c9 => ?_)) | refine Rp.icmp_eq (tgt := 16) dX12_holds_9 (by decide) (fun c9 => ?_) (fun c9 => ?_)
  · skip
    refine Rp.iconst (nI 0) dX12_holds_16 (by decide) ?_
    refine Rp.zreturn dX12_holds_17 rfl (by first | exact Or.inl rfl | exact Or.inr rfl | assumption) ?_
    refine ⟨rfl, ?_⟩
    first | rw [b2i_t (by assumption)] | rw [b2i_f (fun z => z (by assumption))]
  · skip
    refine Rp.iconst (nI 1) dX12_holds_12 (by decide) ?_
    refine Rp.goto (tgt := 17) dX12_holds_13 (by decide) ?_
    refine Rp.zreturn dX12_holds_17 rfl (by first | exact Or.inl rfl | exact Or.inr rfl | assumption) ?_
    refine ⟨rfl, ?_⟩
    first | rw [b2i_t (by assumption)] | rw [b2i_f (fun z => z (by assumption))]
/-- the last of the first n that holds t -/
def hOf (f : Nat → Int32) (t : Int32) : Nat → Int32
  | 0 => -1
  | n + 1 => if f n = t then nI n else hOf f t n
theorem holderOf_loop (S : ShOK h) (R : RfOK h) (t : Int32) {np : Nat} (hp : np ≤ 6) (hM : gI h am_kept 103 = nI np) : ∀ (m p : Nat), p + m = np → Rp d M_X12_holderOf 4 [some (.ref aM), some (.int t), some (.int (hOf (gI h am_kept) t p)), some (.int (nI p))] [] h (fun r h' => h' = h ∧ r = some (.int (hOf (gI h am_kept) t np))) := by
  intro m
  induction m with
  | zero =>
    intro p hpm
    refine Rp.iload_n dX12_holderOf_4 rfl ?_
    refine Rp.aload_n dX12_holderOf_5 rfl rfl ?_
    refine Rp.getR dX12_holderOf_6 fk_X12_24 rfl (S _ _ rfl) (R _ _ _ rfl) ?_
    refine Rp.bipush (nI 103) dX12_holderOf_9 (by decide) ?_
    first | ((with_reducible show Rp _ _ _ _ (.int (nI _) :: _) _ _); refine Rp.ialoadN dX12_holderOf_11 (S _ _ rfl) (by omega) ?_) | refine Rp.iaload dX12_holderOf_11 (S _ _ rfl) (by first | assumption | exact vpb (by decide)) ?_
    rw [show gI h 102 103 = nI np from hM]
    first | ((with_reducible show Rp _ _ _ _ (.int (nI _) :: .int (nI _) :: _) _ _); refine Rp.icmp_geN (tgt := 39) dX12_holderOf_12 (by decide) (by omega) (fun c12 => ?_) (fun c12 => ?_)) | refine Rp.icmp_ge (tgt := 39) dX12_holderOf_12 (by decide) (fun c12 => ?_) (fun c12 => ?_)
    · skip
      refine Rp.iload_n dX12_holderOf_39 rfl ?_
      refine Rp.ireturn dX12_holderOf_40 rfl ?_
      exact ⟨rfl, by rw [show p = np by omega]⟩
    · skip
      exact absurd (show np ≤ p by omega) c12
  | succ m ih =>
    intro p hpm
    refine Rp.iload_n dX12_holderOf_4 rfl ?_
    refine Rp.aload_n dX12_holderOf_5 rfl rfl ?_
    refine Rp.getR dX12_holderOf_6 fk_X12_24 rfl (S _ _ rfl) (R _ _ _ rfl) ?_
    refine Rp.bipush (nI 103) dX12_holderOf_9 (by decide) ?_
    first | ((with_reducible show Rp _ _ _ _ (.int (nI _) :: _) _ _); refine Rp.ialoadN dX12_holderOf_11 (S _ _ rfl) (by omega) ?_) | refine Rp.iaload dX12_holderOf_11 (S _ _ rfl) (by first | assumption | exact vpb (by decide)) ?_
    rw [show gI h 102 103 = nI np from hM]
    first | ((with_reducible show Rp _ _ _ _ (.int (nI _) :: .int (nI _) :: _) _ _); refine Rp.icmp_geN (tgt := 39) dX12_holderOf_12 (by decide) (by omega) (fun c12 => ?_) (fun c12 => ?_)) | refine Rp.icmp_ge (tgt := 39) dX12_holderOf_12 (by decide) (fun c12 => ?_) (fun c12 => ?_)
    · skip
      exact absurd c12 (by omega)
    · skip
      refine Rp.aload_n dX12_holderOf_15 rfl rfl ?_
      refine Rp.getR dX12_holderOf_16 fk_X12_24 rfl (S _ _ rfl) (R _ _ _ rfl) ?_
      refine Rp.iconst (nI 0) dX12_holderOf_19 (by decide) ?_
      refine Rp.iload_n dX12_holderOf_20 rfl ?_
      first | ((with_reducible show Rp _ _ _ _ (.int (nI _) :: .int (nI _) :: _) _ _); refine Rp.iaddN dX12_holderOf_21 ?_) | refine Rp.iadd dX12_holderOf_21 ?_
      rw [Nat.zero_add p]
      first | ((with_reducible show Rp _ _ _ _ (.int (nI _) :: _) _ _); refine Rp.ialoadN dX12_holderOf_22 (S _ _ rfl) (by omega) ?_) | refine Rp.iaload dX12_holderOf_22 (S _ _ rfl) (by first | assumption | exact vpb (by decide)) ?_
      refine Rp.iload_n dX12_holderOf_23 rfl ?_
      first | ((with_reducible show Rp _ _ _ _ (.int (nI _) :: .int (nI _) :: _) _ _); refine Rp.icmp_neN (tgt := 31) dX12_holderOf_24 (by decide) (by omega) (fun c24 => ?_) (fun c24 => ?_)) | refine Rp.icmp_ne (tgt := 31) dX12_holderOf_24 (by decide) (fun c24 => ?_) (fun c24 => ?_)
      · skip
        refine Rp.iload_n dX12_holderOf_31 rfl ?_
        refine Rp.ist2 dX12_holderOf_32 (by first | exact nl2_some rfl | exact nl2_none) (by decide) ?_
        first | ((with_reducible show Rp _ _ _ (_ :: _ :: _ :: some (.int (nI _)) :: _) _ _ _); refine Rp.inc3N (c := 1) dX12_holderOf_33 (by first | exact nl2_some rfl | exact nl2_none) (by decide) ?_) | refine Rp.inc3 _ dX12_holderOf_33 rfl (by first | exact nl2_some rfl | exact nl2_none) (by decide) ?_
        refine Rp.goto (tgt := 4) dX12_holderOf_36 (by decide) ?_
        have k := ih (p + 1) (by omega)
        rw [hOf] at k
        first | (rw [if_pos (by assumption)] at k; exact k) | (rw [if_neg (by assumption)] at k; exact k)
      · skip
        refine Rp.iload_n dX12_holderOf_27 rfl ?_
        refine Rp.goto (tgt := 32) dX12_holderOf_28 (by decide) ?_
        refine Rp.ist2 dX12_holderOf_32 (by first | exact nl2_some rfl | exact nl2_none) (by decide) ?_
        first | ((with_reducible show Rp _ _ _ (_ :: _ :: _ :: some (.int (nI _)) :: _) _ _ _); refine Rp.inc3N (c := 1) dX12_holderOf_33 (by first | exact nl2_some rfl | exact nl2_none) (by decide) ?_) | refine Rp.inc3 _ dX12_holderOf_33 rfl (by first | exact nl2_some rfl | exact nl2_none) (by decide) ?_
        refine Rp.goto (tgt := 4) dX12_holderOf_36 (by decide) ?_
        have k := ih (p + 1) (by omega)
        rw [hOf] at k
        first | (rw [if_pos (by assumption)] at k; exact k) | (rw [if_neg (by assumption)] at k; exact k)
theorem s_holderOf (S : ShOK h) (R : RfOK h) (t : Int32) {np : Nat} (hp : np ≤ 6) (hM : gI h am_kept 103 = nI np) : Rp d M_X12_holderOf 0 [some (.ref aM), some (.int t), none, none] [] h (fun r h' => h' = h ∧ r = some (.int (hOf (gI h am_kept) t np))) := by
  refine Rp.iconst (-1) dX12_holderOf_0 (by decide) ?_
  refine Rp.ist2 dX12_holderOf_1 (by first | exact nl2_some rfl | exact nl2_none) (by decide) ?_
  refine Rp.iconst (nI 0) dX12_holderOf_2 (by decide) ?_
  refine Rp.ist3 dX12_holderOf_3 (by first | exact nl2_some rfl | exact nl2_none) (by decide) ?_
  exact holderOf_loop d S R t hp hM np 0 (by omega)
theorem s_canTicket (S : ShOK h) (number kind : Int32) : Rp (d + 2) M_X12_canTicket 0 [some (.ref aM), some (.int number), some (.int kind)] [] h (fun r h' => h' = h ∧ r = some (.int (b2i (decide (nI 1 ≤ number ∧ number ≤ nI 99) && inN kind 5)))) := by
  refine Rp.iload_n dX12_canTicket_0 rfl ?_
  refine Rp.iconst (nI 1) dX12_canTicket_1 (by decide) ?_
  refine Rp.bipush (nI 99) dX12_canTicket_2 (by decide) ?_
  refine Rp.callS3 M_X12_lies dX12_canTicket_4 mo_X12_lies lk_X12_117 (Nat.le_of_ble_eq_true rfl) (Nat.le_of_ble_eq_true rfl) (s_lies (d + 1) h number (nI 1) (nI 99)) (fun v1 h1 p1 x1 => ?_)
  rw [p1.1, p1.2]
  try dsimp only [Option.toList, List.cons_append, List.nil_append, List.append]
  first | ((with_reducible show Rp _ _ _ _ (.int (b2i _) :: _) _ _); refine Rp.if_eqB (tgt := 21) dX12_canTicket_7 (by decide) (fun c7 => ?_) (fun c7 => ?_)) | ((with_reducible show Rp _ _ _ _ (.int (nI _) :: _) _ _); refine Rp.if_eqN (tgt := 21) dX12_canTicket_7 (by decide) (by omega) (fun c7 => ?_) (fun c7 => ?_)) | refine Rp.if_eq (tgt := 21) dX12_canTicket_7 (by decide) (fun c7 => ?_) (fun c7 => ?_)
  · skip
    refine Rp.iconst (nI 0) dX12_canTicket_21 (by decide) ?_
    refine Rp.zreturn dX12_canTicket_22 rfl (by first | exact Or.inl rfl | exact Or.inr rfl | assumption) ?_
    refine ⟨rfl, ?_⟩
    simp only [c7]
    try simp only [c14]
    rfl
  · skip
    refine Rp.iload_n dX12_canTicket_10 rfl ?_
    refine Rp.callS1 M_X12_isKind dX12_canTicket_11 mo_X12_isKind lk_X12_127 (Nat.le_of_ble_eq_true rfl) (Nat.le_of_ble_eq_true rfl) (s_isKind d kind) (fun v1 h1 p1 x1 => ?_)
    rw [p1.1, p1.2]
    try dsimp only [Option.toList, List.cons_append, List.nil_append, List.append]
    first | ((with_reducible show Rp _ _ _ _ (.int (b2i _) :: _) _ _); refine Rp.if_eqB (tgt := 21) dX12_canTicket_14 (by decide) (fun c14 => ?_) (fun c14 => ?_)) | ((with_reducible show Rp _ _ _ _ (.int (nI _) :: _) _ _); refine Rp.if_eqN (tgt := 21) dX12_canTicket_14 (by decide) (by omega) (fun c14 => ?_) (fun c14 => ?_)) | refine Rp.if_eq (tgt := 21) dX12_canTicket_14 (by decide) (fun c14 => ?_) (fun c14 => ?_)
    · skip
      refine Rp.iconst (nI 0) dX12_canTicket_21 (by decide) ?_
      refine Rp.zreturn dX12_canTicket_22 rfl (by first | exact Or.inl rfl | exact Or.inr rfl | assumption) ?_
      refine ⟨rfl, ?_⟩
      simp only [c7]
      try simp only [c14]
      rfl
    · skip
      refine Rp.iconst (nI 1) dX12_canTicket_17 (by decide) ?_
      refine Rp.goto (tgt := 22) dX12_canTicket_18 (by decide) ?_
      refine Rp.zreturn dX12_canTicket_22 rfl (by first | exact Or.inl rfl | exact Or.inr rfl | assumption) ?_
      refine ⟨rfl, ?_⟩
      simp only [c7]
      try simp only [c14]
      rfl
end MB
