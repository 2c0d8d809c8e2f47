theorem Rp.lst13 {d : Nat} {M : MT} {pc : Nat} {r : List (Option Value)} {st : List Value} {h : AH} {P : Option Value → AH → Prop} {a0 a1 a2 a3 a4 a5 a6 a7 a8 a9 a10 a11 a12 a13 a14 : Option Value} {x : Int64} (hd : decode M.2.1 pc = .ok (.lstore 13, 2)) (hp : nl2 a12) (hn : 13 + 1 < M.2.2.1) (k : Rp d M (pc + 2) (a0 :: a1 :: a2 :: a3 :: a4 :: a5 :: a6 :: a7 :: a8 :: a9 :: a10 :: a11 :: a12 :: some (.long x) :: none :: r) st h P) : Rp d M pc (a0 :: a1 :: a2 :: a3 :: a4 :: a5 :: a6 :: a7 :: a8 :: a9 :: a10 :: a11 :: a12 :: a13 :: a14 :: r) (.long x :: st) h P := by
  obtain ⟨v, h', k, p⟩ := k
  exact ⟨v, h', Rj.lstore hd (fun o _ e => by have e := Option.some.inj e; exact e ▸ hp) hn k, p⟩
theorem enc_and {o v : Nat} (ho : o < 16) (hv : v < 100000) : enc (o, v) &&& nI 15 = nI o := by
  unfold enc
  dsimp only
  rw [pk_andN (by omega) 4 (by decide)]
  congr 1; omega
theorem enc_shr {o v : Nat} (ho : o < 16) (hv : v < 100000) : enc (o, v) >>> (nI 4 &&& 31) = nI v := by
  unfold enc
  dsimp only
  rw [pk_shrN (by omega) _ 4 (by decide)]
  congr 1; omega
def mX (k _j : Nat) : Bool := k == 42
/-- a text and a row of words that the machine may read -/
def MB (h : AH) (tx kc kw nc nw sz : Nat) : Prop := ShOK h ∧ RfOK h ∧ h.1[tx]? = some (9, clN 9) ∧ gR h tx 1 = some kc ∧ h.1[kc]? = some (13, nc) ∧ gI h tx 3 = nI sz ∧ sz ≤ nc ∧ nc ≤ 436 ∧ h.1[kw]? = some (13, nw) ∧ nw ≤ 100 ∧ tx ≠ 42 ∧ kc ≠ 42 ∧ kw ≠ 42
theorem MB.fr {h g : AH} {tx kc kw nc nw sz : Nat} (B : MB h tx kc kw nc nw sz) (F : Fr mX h g) : MB g tx kc kw nc nw sz := by
  obtain ⟨b1, b2, b3, b4, b5, b6, b7, b8, b9, b10, b11, b12, b13⟩ := B
  exact ⟨F.S b1, F.R b2 (by decide), by rw [F.1]; exact b3, (F.Rr tx 1 (beq_eq_false_iff_ne.mpr b11)).trans b4, by rw [F.1]; exact b5, (F.I tx 3 (beq_eq_false_iff_ne.mpr b11)).trans b6, b7, b8, by rw [F.1]; exact b9, b10, b11, b12, b13⟩
def mL (tx kw : Nat) (fr : Int32) (i top sk : Nat) (a7 a8 a9 a10 a11 a12 a13 a14 : Option Value) : List (Option Value) := [some (.ref 41), some (.ref tx), some (.int fr), some (.ref kw), some (.int (nI top)), some (.int (nI sk)), some (.int (nI i)), a7, a8, a9, a10, a11, a12, a13, a14]
def mS (d tx kw : Nat) (fr : Int32) (P : Option Value → AH → Prop) (g : AH) (i top sk : Nat) : Prop := ∀ a7 a8 a9 a10 a11 a12 a13 a14, Rp d M_X5_run 16 (mL tx kw fr i top sk a7 a8 a9 a10 a11 a12 a13 a14) [] g P
section Ma
variable {d tx kc kw nc nw sz : Nat} {fr : Int32} {P : Option Value → AH → Prop} {g : AH}
theorem m_dec (B : MB g tx kc kw nc nw sz) {i top sk o v : Nat} (hi : i < sz) (hs : sk ≤ i) (ho : o < 16) (hv : v < 100000) (hc : gI g kc i = enc (o, v)) (kk : ∀ a9 a10 a11 a12 a13 a14, Rp d M_X5_run 58 (mL tx kw fr i top sk (some (.int (nI o))) (some (.int (nI v))) a9 a10 a11 a12 a13 a14) [] g P) : mS d tx kw fr P g i top sk := by
  obtain ⟨b1, b2, b3, b4, b5, b6, b7, b8, b9, b10, b11, b12, b13⟩ := B
  intro a7 a8 a9 a10 a11 a12 a13 a14
  have k1 := kk a9 a10 a11 a12 a13 a14
  unfold mL at k1 ⊢
  refine Rp.iload dX5_run_16 rfl ?_
  refine Rp.aload_n dX5_run_18 rfl rfl ?_
  refine Rp.getI dX5_run_19 fk_X5_16 rfl b3 ?_
  first | rw [b6] | rw [hc] | skip
  first | ((with_reducible show Rp _ _ _ _ (.int (nI _) :: .int (nI _) :: _) _ _); refine Rp.icmp_geN (tgt := 446) dX5_run_22 (by decide) (by omega) (fun c22 => ?_) (fun c22 => ?_)) | refine Rp.icmp_ge (tgt := 446) dX5_run_22 (by decide) (fun c22 => ?_) (fun c22 => ?_)
  · skip
    first | (exfalso; omega) | exact absurd c22 (by decide) | exact absurd (by decide) c22
  · skip
    refine Rp.iload dX5_run_25 rfl ?_
    refine Rp.iload dX5_run_27 rfl ?_
    first | ((with_reducible show Rp _ _ _ _ (.int (nI _) :: .int (nI _) :: _) _ _); refine Rp.icmp_geN (tgt := 35) dX5_run_29 (by decide) (by omega) (fun c29 => ?_) (fun c29 => ?_)) | refine Rp.icmp_ge (tgt := 35) dX5_run_29 (by decide) (fun c29 => ?_) (fun c29 => ?_)
    · skip
      refine Rp.aload_n dX5_run_35 rfl rfl ?_
      refine Rp.getR dX5_run_36 fk_X5_22 rfl b3 b4 ?_
      refine Rp.iload dX5_run_39 rfl ?_
      first | ((with_reducible show Rp _ _ _ _ (.int (nI _) :: _) _ _); refine Rp.ialoadN dX5_run_41 b5 (by omega) ?_) | refine Rp.iaload dX5_run_41 b5 (by first | assumption | exact vpb (by decide)) ?_
      first | rw [b6] | rw [hc] | skip
      refine Rp.bipush (nI 15) dX5_run_42 (by decide) ?_
      refine Rp.iand dX5_run_44 ?_
      rw [enc_and ho hv]
      refine Rp.ist7 dX5_run_45 (by first | exact nl2_some rfl | exact nl2_none) (by decide) ?_
      refine Rp.aload_n dX5_run_47 rfl rfl ?_
      refine Rp.getR dX5_run_48 fk_X5_22 rfl b3 b4 ?_
      refine Rp.iload dX5_run_51 rfl ?_
      first | ((with_reducible show Rp _ _ _ _ (.int (nI _) :: _) _ _); refine Rp.ialoadN dX5_run_53 b5 (by omega) ?_) | refine Rp.iaload dX5_run_53 b5 (by first | assumption | exact vpb (by decide)) ?_
      first | rw [b6] | rw [hc] | skip
      refine Rp.iconst (nI 4) dX5_run_54 (by decide) ?_
      refine Rp.ishr dX5_run_55 ?_
      rw [enc_shr ho hv]
      refine Rp.ist8 dX5_run_56 (by first | exact nl2_some rfl | exact nl2_none) (by decide) ?_
      exact k1
    · skip
      first | (exfalso; omega) | exact absurd c29 (by decide) | exact absurd (by decide) c29
theorem m_skip (B : MB g tx kc kw nc nw sz) {i top sk : Nat} (hi : i < sz) (hs : i < sk) (hk : sk ≤ 1000) (kk : mS d tx kw fr P g (i + 1) top sk) : mS d tx kw fr P g i top sk := by
  obtain ⟨b1, b2, b3, b4, b5, b6, b7, b8, b9, b10, b11, b12, b13⟩ := B
  intro a7 a8 a9 a10 a11 a12 a13 a14
  have k1 := kk a7 a8 a9 a10 a11 a12 a13 a14
  unfold mL at k1 ⊢
  refine Rp.iload dX5_run_16 rfl ?_
  refine Rp.aload_n dX5_run_18 rfl rfl ?_
  refine Rp.getI dX5_run_19 fk_X5_16 rfl b3 ?_
  first | rw [b6] | skip
  first | ((with_reducible show Rp _ _ _ _ (.int (nI _) :: .int (nI _) :: _) _ _); refine Rp.icmp_geN (tgt := 446) dX5_run_22 (by decide) (by omega) (fun c22 => ?_) (fun c22 => ?_)) | refine Rp.icmp_ge (tgt := 446) dX5_run_22 (by decide) (fun c22 => ?_) (fun c22 => ?_)
  · skip
    first | (exfalso; omega) | exact absurd c22 (by decide) | exact absurd (by decide) c22
  · skip
    refine Rp.iload dX5_run_25 rfl ?_
    refine Rp.iload dX5_run_27 rfl ?_
    first | ((with_reducible show Rp _ _ _ _ (.int (nI _) :: .int (nI _) :: _) _ _); refine Rp.icmp_geN (tgt := 35) dX5_run_29 (by decide) (by omega) (fun c29 => ?_) (fun c29 => ?_)) | refine Rp.icmp_ge (tgt := 35) dX5_run_29 (by decide) (fun c29 => ?_) (fun c29 => ?_)
    · skip
      first | (exfalso; omega) | exact absurd c29 (by decide) | exact absurd (by decide) c29
    · skip
      refine Rp.goto (tgt := 440) dX5_run_32 (by decide) ?_
      first | ((with_reducible show Rp _ _ _ (_ :: _ :: _ :: _ :: _ :: _ :: some (.int (nI _)) :: _) _ _ _); refine Rp.inc6N (c := 1) dX5_run_440 (by first | exact nl2_some rfl | exact nl2_none) (by decide) ?_) | refine Rp.inc6 _ dX5_run_440 rfl (by first | exact nl2_some rfl | exact nl2_none) (by decide) ?_
      refine Rp.goto (tgt := 16) dX5_run_443 (by decide) ?_
      exact k1
theorem m_num (B : MB g tx kc kw nc nw sz) {i top sk v : Nat} (hi : i < sz) (hs : sk ≤ i) (hv : v < 100000) (ht : top < 64) (hc : gI g kc i = enc (1, v)) (kk : mS d tx kw fr P (sI g 42 top (nI v)) (i + 1) (top + 1) sk) : mS d tx kw fr P g i top sk := by
  refine m_dec B hi hs (by decide) hv hc (fun a9 a10 a11 a12 a13 a14 => ?_)
  obtain ⟨S, R, b3, b4, b5, b6, b7, b8, b9, b10, b11, b12, b13⟩ := B
  have k1 := kk (some (.int (nI 1))) (some (.int (nI v))) a9 a10 a11 a12 a13 a14
  unfold mL at k1 ⊢
  refine Rp.iload dX5_run_58 rfl ?_
  first | ((with_reducible show Rp _ _ _ _ (.int (b2i _) :: _) _ _); refine Rp.if_neB (tgt := 66) dX5_run_60 (by decide) (fun c60 => ?_) (fun c60 => ?_)) | ((with_reducible show Rp _ _ _ _ (.int (nI _) :: _) _ _); refine Rp.if_neN (tgt := 66) dX5_run_60 (by decide) (by omega) (fun c60 => ?_) (fun c60 => ?_)) | refine Rp.if_ne (tgt := 66) dX5_run_60 (by decide) (fun c60 => ?_) (fun c60 => ?_)
  · skip
    refine Rp.iload dX5_run_66 rfl ?_
    refine Rp.iconst (nI 2) dX5_run_68 (by decide) ?_
    first | ((with_reducible show Rp _ _ _ _ (.int (nI _) :: .int (nI _) :: _) _ _); refine Rp.icmp_gtN (tgt := 126) dX5_run_69 (by decide) (by omega) (fun c69 => ?_) (fun c69 => ?_)) | refine Rp.icmp_gt (tgt := 126) dX5_run_69 (by decide) (fun c69 => ?_) (fun c69 => ?_)
    · skip
      first | (exfalso; omega) | exact absurd c69 (by decide) | exact absurd (by decide) c69
    · skip
      refine Rp.iload dX5_run_72 rfl ?_
      refine Rp.aload_n dX5_run_74 rfl rfl ?_
      refine Rp.getR dX5_run_75 fk_X5_9 rfl (S _ _ rfl) (R _ _ _ rfl) ?_
      refine Rp.alen dX5_run_78 (S _ _ rfl) (by decide) (by decide) ?_
      rw [show Int32.ofNat 64 = nI 64 from rfl]
      first | ((with_reducible show Rp _ _ _ _ (.int (nI _) :: .int (nI _) :: _) _ _); refine Rp.icmp_geN (tgt := 95) dX5_run_79 (by decide) (by omega) (fun c79 => ?_) (fun c79 => ?_)) | refine Rp.icmp_ge (tgt := 95) dX5_run_79 (by decide) (fun c79 => ?_) (fun c79 => ?_)
      · skip
        first | (exfalso; omega) | exact absurd c79 (by decide) | exact absurd (by decide) c79
      · skip
        refine Rp.iload dX5_run_82 rfl ?_
        refine Rp.iconst (nI 2) dX5_run_84 (by decide) ?_
        first | ((with_reducible show Rp _ _ _ _ (.int (nI _) :: .int (nI _) :: _) _ _); refine Rp.icmp_neN (tgt := 98) dX5_run_85 (by decide) (by omega) (fun c85 => ?_) (fun c85 => ?_)) | refine Rp.icmp_ne (tgt := 98) dX5_run_85 (by decide) (fun c85 => ?_) (fun c85 => ?_)
        · skip
          refine Rp.aload_n dX5_run_98 rfl rfl ?_
          refine Rp.getR dX5_run_99 fk_X5_9 rfl (S _ _ rfl) (R _ _ _ rfl) ?_
          refine Rp.iload dX5_run_102 rfl ?_
          refine Rp.iload dX5_run_104 rfl ?_
          refine Rp.iconst (nI 1) dX5_run_106 (by decide) ?_
          first | ((with_reducible show Rp _ _ _ _ (.int (nI _) :: .int (nI _) :: _) _ _); refine Rp.icmp_neN (tgt := 115) dX5_run_107 (by decide) (by omega) (fun c107 => ?_) (fun c107 => ?_)) | refine Rp.icmp_ne (tgt := 115) dX5_run_107 (by decide) (fun c107 => ?_) (fun c107 => ?_)
          · skip
            first | (exfalso; omega) | exact absurd c107 (by decide) | exact absurd (by decide) c107
          · skip
            refine Rp.iload dX5_run_110 rfl ?_
            refine Rp.goto (tgt := 119) dX5_run_112 (by decide) ?_
            first | ((with_reducible show Rp _ _ _ _ (_ :: .int (nI _) :: _) _ _); refine Rp.iastoreN dX5_run_119 (S _ _ rfl) (by omega) ?_) | refine Rp.iastore dX5_run_119 (S _ _ rfl) (by first | assumption | exact vpb (by decide)) ?_
            first | ((with_reducible show Rp _ _ _ (_ :: _ :: _ :: _ :: some (.int (nI _)) :: _) _ _ _); refine Rp.inc4N (c := 1) dX5_run_120 (by first | exact nl2_some rfl | exact nl2_none) (by decide) ?_) | refine Rp.inc4 _ dX5_run_120 rfl (by first | exact nl2_some rfl | exact nl2_none) (by decide) ?_
            refine Rp.goto (tgt := 440) dX5_run_123 (by decide) ?_
            first | ((with_reducible show Rp _ _ _ (_ :: _ :: _ :: _ :: _ :: _ :: some (.int (nI _)) :: _) _ _ _); refine Rp.inc6N (c := 1) dX5_run_440 (by first | exact nl2_some rfl | exact nl2_none) (by decide) ?_) | refine Rp.inc6 _ dX5_run_440 rfl (by first | exact nl2_some rfl | exact nl2_none) (by decide) ?_
            refine Rp.goto (tgt := 16) dX5_run_443 (by decide) ?_
            exact k1
        · skip
          first | (exfalso; omega) | exact absurd c85 (by decide) | exact absurd (by decide) c85
  · skip
    first | (exfalso; omega) | exact absurd c60 (by decide) | exact absurd (by decide) c60
theorem m_word (B : MB g tx kc kw nc nw sz) {i top sk v : Nat} (hi : i < sz) (hs : sk ≤ i) (hv : v < nw) (ht : top < 64) (hc : gI g kc i = enc (2, v)) (kk : mS d tx kw fr P (sI g 42 top (gI g kw v)) (i + 1) (top + 1) sk) : mS d tx kw fr P g i top sk := by
  have B0 := B
  obtain ⟨S, R, b3, b4, b5, b6, b7, b8, b9, b10, b11, b12, b13⟩ := B
  refine m_dec B0 hi hs (by decide) (by omega) hc (fun a9 a10 a11 a12 a13 a14 => ?_)
  have k1 := kk (some (.int (nI 2))) (some (.int (nI v))) a9 a10 a11 a12 a13 a14
  unfold mL at k1 ⊢
  refine Rp.iload dX5_run_58 rfl ?_
  first | ((with_reducible show Rp _ _ _ _ (.int (b2i _) :: _) _ _); refine Rp.if_neB (tgt := 66) dX5_run_60 (by decide) (fun c60 => ?_) (fun c60 => ?_)) | ((with_reducible show Rp _ _ _ _ (.int (nI _) :: _) _ _); refine Rp.if_neN (tgt := 66) dX5_run_60 (by decide) (by omega) (fun c60 => ?_) (fun c60 => ?_)) | refine Rp.if_ne (tgt := 66) dX5_run_60 (by decide) (fun c60 => ?_) (fun c60 => ?_)
  · skip
    refine Rp.iload dX5_run_66 rfl ?_
    refine Rp.iconst (nI 2) dX5_run_68 (by decide) ?_
    first | ((with_reducible show Rp _ _ _ _ (.int (nI _) :: .int (nI _) :: _) _ _); refine Rp.icmp_gtN (tgt := 126) dX5_run_69 (by decide) (by omega) (fun c69 => ?_) (fun c69 => ?_)) | refine Rp.icmp_gt (tgt := 126) dX5_run_69 (by decide) (fun c69 => ?_) (fun c69 => ?_)
    · skip
      first | (exfalso; omega) | exact absurd c69 (by decide) | exact absurd (by decide) c69
    · skip
      refine Rp.iload dX5_run_72 rfl ?_
      refine Rp.aload_n dX5_run_74 rfl rfl ?_
      refine Rp.getR dX5_run_75 fk_X5_9 rfl (S _ _ rfl) (R _ _ _ rfl) ?_
      refine Rp.alen dX5_run_78 (S _ _ rfl) (by decide) (by decide) ?_
      rw [show Int32.ofNat 64 = nI 64 from rfl]
      first | ((with_reducible show Rp _ _ _ _ (.int (nI _) :: .int (nI _) :: _) _ _); refine Rp.icmp_geN (tgt := 95) dX5_run_79 (by decide) (by omega) (fun c79 => ?_) (fun c79 => ?_)) | refine Rp.icmp_ge (tgt := 95) dX5_run_79 (by decide) (fun c79 => ?_) (fun c79 => ?_)
      · skip
        first | (exfalso; omega) | exact absurd c79 (by decide) | exact absurd (by decide) c79
      · skip
        refine Rp.iload dX5_run_82 rfl ?_
        refine Rp.iconst (nI 2) dX5_run_84 (by decide) ?_
        first | ((with_reducible show Rp _ _ _ _ (.int (nI _) :: .int (nI _) :: _) _ _); refine Rp.icmp_neN (tgt := 98) dX5_run_85 (by decide) (by omega) (fun c85 => ?_) (fun c85 => ?_)) | refine Rp.icmp_ne (tgt := 98) dX5_run_85 (by decide) (fun c85 => ?_) (fun c85 => ?_)
        · skip
          first | (exfalso; omega) | exact absurd c85 (by decide) | exact absurd (by decide) c85
        · skip
          refine Rp.iload dX5_run_88 rfl ?_
          refine Rp.aload_n dX5_run_90 rfl rfl ?_
          refine Rp.alen dX5_run_91 b9 (by decide) (by decide) ?_
          rw [show Int32.ofNat nw = nI nw from rfl]
          first | ((with_reducible show Rp _ _ _ _ (.int (nI _) :: .int (nI _) :: _) _ _); refine Rp.icmp_ltN (tgt := 98) dX5_run_92 (by decide) (by omega) (fun c92 => ?_) (fun c92 => ?_)) | refine Rp.icmp_lt (tgt := 98) dX5_run_92 (by decide) (fun c92 => ?_) (fun c92 => ?_)
          · skip
            refine Rp.aload_n dX5_run_98 rfl rfl ?_
            refine Rp.getR dX5_run_99 fk_X5_9 rfl (S _ _ rfl) (R _ _ _ rfl) ?_
            refine Rp.iload dX5_run_102 rfl ?_
            refine Rp.iload dX5_run_104 rfl ?_
            refine Rp.iconst (nI 1) dX5_run_106 (by decide) ?_
            first | ((with_reducible show Rp _ _ _ _ (.int (nI _) :: .int (nI _) :: _) _ _); refine Rp.icmp_neN (tgt := 115) dX5_run_107 (by decide) (by omega) (fun c107 => ?_) (fun c107 => ?_)) | refine Rp.icmp_ne (tgt := 115) dX5_run_107 (by decide) (fun c107 => ?_) (fun c107 => ?_)
            · skip
              refine Rp.aload_n dX5_run_115 rfl rfl ?_
              refine Rp.iload dX5_run_116 rfl ?_
              first | ((with_reducible show Rp _ _ _ _ (.int (nI _) :: _) _ _); refine Rp.ialoadN dX5_run_118 b9 (by omega) ?_) | refine Rp.iaload dX5_run_118 b9 (by first | assumption | exact vpb (by decide)) ?_
              first | ((with_reducible show Rp _ _ _ _ (_ :: .int (nI _) :: _) _ _); refine Rp.iastoreN dX5_run_119 (S _ _ rfl) (by omega) ?_) | refine Rp.iastore dX5_run_119 (S _ _ rfl) (by first | assumption | exact vpb (by decide)) ?_
              first | ((with_reducible show Rp _ _ _ (_ :: _ :: _ :: _ :: some (.int (nI _)) :: _) _ _ _); refine Rp.inc4N (c := 1) dX5_run_120 (by first | exact nl2_some rfl | exact nl2_none) (by decide) ?_) | refine Rp.inc4 _ dX5_run_120 rfl (by first | exact nl2_some rfl | exact nl2_none) (by decide) ?_
              refine Rp.goto (tgt := 440) dX5_run_123 (by decide) ?_
              first | ((with_reducible show Rp _ _ _ (_ :: _ :: _ :: _ :: _ :: _ :: some (.int (nI _)) :: _) _ _ _); refine Rp.inc6N (c := 1) dX5_run_440 (by first | exact nl2_some rfl | exact nl2_none) (by decide) ?_) | refine Rp.inc6 _ dX5_run_440 rfl (by first | exact nl2_some rfl | exact nl2_none) (by decide) ?_
              refine Rp.goto (tgt := 16) dX5_run_443 (by decide) ?_
              exact k1
            · skip
              first | (exfalso; omega) | exact absurd c107 (by decide) | exact absurd (by decide) c107
          · skip
            first | (exfalso; omega) | exact absurd c92 (by decide) | exact absurd (by decide) c92
  · skip
    first | (exfalso; omega) | exact absurd c60 (by decide) | exact absurd (by decide) c60
theorem m_not (B : MB g tx kc kw nc nw sz) {i t sk v : Nat} (hi : i < sz) (hs : sk ≤ i) (hv : v < 100000) (ht : t < 64) (hc : gI g kc i = enc (5, v)) (kk : mS d tx kw fr P (sI g 42 t (nI 1 - gI g 42 t)) (i + 1) (t + 1) sk) : mS d tx kw fr P g i (t + 1) sk := by
  refine m_dec B hi hs (by decide) hv hc (fun a9 a10 a11 a12 a13 a14 => ?_)
  obtain ⟨S, R, b3, b4, b5, b6, b7, b8, b9, b10, b11, b12, b13⟩ := B
  have k1 := kk (some (.int (nI 5))) (some (.int (nI v))) a9 a10 a11 a12 a13 a14
  unfold mL at k1 ⊢
  refine Rp.iload dX5_run_58 rfl ?_
  first | ((with_reducible show Rp _ _ _ _ (.int (b2i _) :: _) _ _); refine Rp.if_neB (tgt := 66) dX5_run_60 (by decide) (fun c60 => ?_) (fun c60 => ?_)) | ((with_reducible show Rp _ _ _ _ (.int (nI _) :: _) _ _); refine Rp.if_neN (tgt := 66) dX5_run_60 (by decide) (by omega) (fun c60 => ?_) (fun c60 => ?_)) | refine Rp.if_ne (tgt := 66) dX5_run_60 (by decide) (fun c60 => ?_) (fun c60 => ?_)
  · skip
    refine Rp.iload dX5_run_66 rfl ?_
    refine Rp.iconst (nI 2) dX5_run_68 (by decide) ?_
    first | ((with_reducible show Rp _ _ _ _ (.int (nI _) :: .int (nI _) :: _) _ _); refine Rp.icmp_gtN (tgt := 126) dX5_run_69 (by decide) (by omega) (fun c69 => ?_) (fun c69 => ?_)) | refine Rp.icmp_gt (tgt := 126) dX5_run_69 (by decide) (fun c69 => ?_) (fun c69 => ?_)
    · skip
      refine Rp.iload dX5_run_126 rfl ?_
      refine Rp.iload dX5_run_128 rfl ?_
      refine Rp.iconst (nI 5) dX5_run_130 (by decide) ?_
      first | ((with_reducible show Rp _ _ _ _ (.int (nI _) :: .int (nI _) :: _) _ _); refine Rp.icmp_gtN (tgt := 138) dX5_run_131 (by decide) (by omega) (fun c131 => ?_) (fun c131 => ?_)) | refine Rp.icmp_gt (tgt := 138) dX5_run_131 (by decide) (fun c131 => ?_) (fun c131 => ?_)
      · skip
        first | (exfalso; omega) | exact absurd c131 (by decide) | exact absurd (by decide) c131
      · skip
        refine Rp.iconst (nI 1) dX5_run_134 (by decide) ?_
        refine Rp.goto (tgt := 139) dX5_run_135 (by decide) ?_
        first | ((with_reducible show Rp _ _ _ _ (.int (nI _) :: .int (nI _) :: _) _ _); refine Rp.icmp_geN (tgt := 145) dX5_run_139 (by decide) (by omega) (fun c139 => ?_) (fun c139 => ?_)) | refine Rp.icmp_ge (tgt := 145) dX5_run_139 (by decide) (fun c139 => ?_) (fun c139 => ?_)
        · skip
          refine Rp.iload dX5_run_145 rfl ?_
          refine Rp.iconst (nI 5) dX5_run_147 (by decide) ?_
          first | ((with_reducible show Rp _ _ _ _ (.int (nI _) :: .int (nI _) :: _) _ _); refine Rp.icmp_neN (tgt := 174) dX5_run_148 (by decide) (by omega) (fun c148 => ?_) (fun c148 => ?_)) | refine Rp.icmp_ne (tgt := 174) dX5_run_148 (by decide) (fun c148 => ?_) (fun c148 => ?_)
          · skip
            first | (exfalso; omega) | exact absurd c148 (by decide) | exact absurd (by decide) c148
          · skip
            refine Rp.aload_n dX5_run_151 rfl rfl ?_
            refine Rp.getR dX5_run_152 fk_X5_9 rfl (S _ _ rfl) (R _ _ _ rfl) ?_
            refine Rp.iload dX5_run_155 rfl ?_
            refine Rp.iconst (nI 1) dX5_run_157 (by decide) ?_
            first | ((with_reducible show Rp _ _ _ _ (.int (nI _) :: .int (nI _) :: _) _ _); refine Rp.isubN dX5_run_158 (by omega) ?_) | refine Rp.isub dX5_run_158 ?_
            rw [Nat.add_sub_cancel]
            refine Rp.iconst (nI 1) dX5_run_159 (by decide) ?_
            refine Rp.aload_n dX5_run_160 rfl rfl ?_
            refine Rp.getR dX5_run_161 fk_X5_9 rfl (S _ _ rfl) (R _ _ _ rfl) ?_
            refine Rp.iload dX5_run_164 rfl ?_
            refine Rp.iconst (nI 1) dX5_run_166 (by decide) ?_
            first | ((with_reducible show Rp _ _ _ _ (.int (nI _) :: .int (nI _) :: _) _ _); refine Rp.isubN dX5_run_167 (by omega) ?_) | refine Rp.isub dX5_run_167 ?_
            rw [Nat.add_sub_cancel]
            first | ((with_reducible show Rp _ _ _ _ (.int (nI _) :: _) _ _); refine Rp.ialoadN dX5_run_168 (S _ _ rfl) (by omega) ?_) | refine Rp.iaload dX5_run_168 (S _ _ rfl) (by first | assumption | exact vpb (by decide)) ?_
            first | ((with_reducible show Rp _ _ _ _ (.int (nI _) :: .int (nI _) :: _) _ _); refine Rp.isubN dX5_run_169 (by omega) ?_) | refine Rp.isub dX5_run_169 ?_
            first | ((with_reducible show Rp _ _ _ _ (_ :: .int (nI _) :: _) _ _); refine Rp.iastoreN dX5_run_170 (S _ _ rfl) (by omega) ?_) | refine Rp.iastore dX5_run_170 (S _ _ rfl) (by first | assumption | exact vpb (by decide)) ?_
            refine Rp.goto (tgt := 440) dX5_run_171 (by decide) ?_
            first | ((with_reducible show Rp _ _ _ (_ :: _ :: _ :: _ :: _ :: _ :: some (.int (nI _)) :: _) _ _ _); refine Rp.inc6N (c := 1) dX5_run_440 (by first | exact nl2_some rfl | exact nl2_none) (by decide) ?_) | refine Rp.inc6 _ dX5_run_440 rfl (by first | exact nl2_some rfl | exact nl2_none) (by decide) ?_
            refine Rp.goto (tgt := 16) dX5_run_443 (by decide) ?_
            exact k1
        · skip
          first | (exfalso; omega) | exact absurd c139 (by decide) | exact absurd (by decide) c139
    · skip
      first | (exfalso; omega) | exact absurd c69 (by decide) | exact absurd (by decide) c69
  · skip
    first | (exfalso; omega) | exact absurd c60 (by decide) | exact absurd (by decide) c60
theorem m_jmp (B : MB g tx kc kw nc nw sz) {i t sk v o : Nat} (hi : i < sz) (hs : sk ≤ i) (hv : v < 100000) (ht : t < 64) (ho : o = 3 ∨ o = 4) (hc : gI g kc i = enc (o, v)) (k1 : gI g 42 t = nI (o - 3) → mS d tx kw fr P g (i + 1) (t + 1) v) (k2 : gI g 42 t ≠ nI (o - 3) → mS d tx kw fr P g (i + 1) t sk) : mS d tx kw fr P g i (t + 1) sk := by
  refine m_dec B hi hs (by omega) hv hc (fun a9 a10 a11 a12 a13 a14 => ?_)
  obtain ⟨S, R, b3, b4, b5, b6, b7, b8, b9, b10, b11, b12, b13⟩ := B
  by_cases e : gI g 42 t = nI (o - 3)
  · have k1 := k1 e (some (.int (nI o))) (some (.int (nI v))) a9 a10 a11 a12 a13 a14
    unfold mL at k1 ⊢
    refine Rp.iload dX5_run_58 rfl ?_
    first | ((with_reducible show Rp _ _ _ _ (.int (b2i _) :: _) _ _); refine Rp.if_neB (tgt := 66) dX5_run_60 (by decide) (fun c60 => ?_) (fun c60 => ?_)) | ((with_reducible show Rp _ _ _ _ (.int (nI _) :: _) _ _); refine Rp.if_neN (tgt := 66) dX5_run_60 (by decide) (by omega) (fun c60 => ?_) (fun c60 => ?_)) | refine Rp.if_ne (tgt := 66) dX5_run_60 (by decide) (fun c60 => ?_) (fun c60 => ?_)
    · skip
      refine Rp.iload dX5_run_66 rfl ?_
      refine Rp.iconst (nI 2) dX5_run_68 (by decide) ?_
      first | ((with_reducible show Rp _ _ _ _ (.int (nI _) :: .int (nI _) :: _) _ _); refine Rp.icmp_gtN (tgt := 126) dX5_run_69 (by decide) (by omega) (fun c69 => ?_) (fun c69 => ?_)) | refine Rp.icmp_gt (tgt := 126) dX5_run_69 (by decide) (fun c69 => ?_) (fun c69 => ?_)
      · skip
        refine Rp.iload dX5_run_126 rfl ?_
        refine Rp.iload dX5_run_128 rfl ?_
        refine Rp.iconst (nI 5) dX5_run_130 (by decide) ?_
        first | ((with_reducible show Rp _ _ _ _ (.int (nI _) :: .int (nI _) :: _) _ _); refine Rp.icmp_gtN (tgt := 138) dX5_run_131 (by decide) (by omega) (fun c131 => ?_) (fun c131 => ?_)) | refine Rp.icmp_gt (tgt := 138) dX5_run_131 (by decide) (fun c131 => ?_) (fun c131 => ?_)
        · skip
          first | (exfalso; omega) | exact absurd c131 (by decide) | exact absurd (by decide) c131
        · skip
          refine Rp.iconst (nI 1) dX5_run_134 (by decide) ?_
          refine Rp.goto (tgt := 139) dX5_run_135 (by decide) ?_
          first | ((with_reducible show Rp _ _ _ _ (.int (nI _) :: .int (nI _) :: _) _ _); refine Rp.icmp_geN (tgt := 145) dX5_run_139 (by decide) (by omega) (fun c139 => ?_) (fun c139 => ?_)) | refine Rp.icmp_ge (tgt := 145) dX5_run_139 (by decide) (fun c139 => ?_) (fun c139 => ?_)
          · skip
            refine Rp.iload dX5_run_145 rfl ?_
            refine Rp.iconst (nI 5) dX5_run_147 (by decide) ?_
            first | ((with_reducible show Rp _ _ _ _ (.int (nI _) :: .int (nI _) :: _) _ _); refine Rp.icmp_neN (tgt := 174) dX5_run_148 (by decide) (by omega) (fun c148 => ?_) (fun c148 => ?_)) | refine Rp.icmp_ne (tgt := 174) dX5_run_148 (by decide) (fun c148 => ?_) (fun c148 => ?_)
            · skip
              refine Rp.iload dX5_run_174 rfl ?_
              refine Rp.iconst (nI 4) dX5_run_176 (by decide) ?_
              first | ((with_reducible show Rp _ _ _ _ (.int (nI _) :: .int (nI _) :: _) _ _); refine Rp.icmp_gtN (tgt := 209) dX5_run_177 (by decide) (by omega) (fun c177 => ?_) (fun c177 => ?_)) | refine Rp.icmp_gt (tgt := 209) dX5_run_177 (by decide) (fun c177 => ?_) (fun c177 => ?_)
              · skip
                first | (exfalso; omega) | exact absurd c177 (by decide) | exact absurd (by decide) c177
              · skip
                refine Rp.aload_n dX5_run_180 rfl rfl ?_
                refine Rp.getR dX5_run_181 fk_X5_9 rfl (S _ _ rfl) (R _ _ _ rfl) ?_
                refine Rp.iload dX5_run_184 rfl ?_
                refine Rp.iconst (nI 1) dX5_run_186 (by decide) ?_
                first | ((with_reducible show Rp _ _ _ _ (.int (nI _) :: .int (nI _) :: _) _ _); refine Rp.isubN dX5_run_187 (by omega) ?_) | refine Rp.isub dX5_run_187 ?_
                rw [Nat.add_sub_cancel]
                first | ((with_reducible show Rp _ _ _ _ (.int (nI _) :: _) _ _); refine Rp.ialoadN dX5_run_188 (S _ _ rfl) (by omega) ?_) | refine Rp.iaload dX5_run_188 (S _ _ rfl) (by first | assumption | exact vpb (by decide)) ?_
                refine Rp.iload dX5_run_189 rfl ?_
                refine Rp.iconst (nI 3) dX5_run_191 (by decide) ?_
                first | ((with_reducible show Rp _ _ _ _ (.int (nI _) :: .int (nI _) :: _) _ _); refine Rp.isubN dX5_run_192 (by omega) ?_) | refine Rp.isub dX5_run_192 ?_
                first | ((with_reducible show Rp _ _ _ _ (.int (nI _) :: .int (nI _) :: _) _ _); refine Rp.icmp_neN (tgt := 203) dX5_run_193 (by decide) (by omega) (fun c193 => ?_) (fun c193 => ?_)) | refine Rp.icmp_ne (tgt := 203) dX5_run_193 (by decide) (fun c193 => ?_) (fun c193 => ?_)
                · skip
                  exact absurd e c193
                · skip
                  refine Rp.iload dX5_run_196 rfl ?_
                  refine Rp.ist5 dX5_run_198 (by first | exact nl2_some rfl | exact nl2_none) (by decide) ?_
                  refine Rp.goto (tgt := 440) dX5_run_200 (by decide) ?_
                  first | ((with_reducible show Rp _ _ _ (_ :: _ :: _ :: _ :: _ :: _ :: some (.int (nI _)) :: _) _ _ _); refine Rp.inc6N (c := 1) dX5_run_440 (by first | exact nl2_some rfl | exact nl2_none) (by decide) ?_) | refine Rp.inc6 _ dX5_run_440 rfl (by first | exact nl2_some rfl | exact nl2_none) (by decide) ?_
                  refine Rp.goto (tgt := 16) dX5_run_443 (by decide) ?_
                  exact k1
            · skip
              first | (exfalso; omega) | exact absurd c148 (by decide) | exact absurd (by decide) c148
          · skip
            first | (exfalso; omega) | exact absurd c139 (by decide) | exact absurd (by decide) c139
      · skip
        first | (exfalso; omega) | exact absurd c69 (by decide) | exact absurd (by decide) c69
    · skip
      first | (exfalso; omega) | exact absurd c60 (by decide) | exact absurd (by decide) c60
  · have k1 := k2 e (some (.int (nI o))) (some (.int (nI v))) a9 a10 a11 a12 a13 a14
    unfold mL at k1 ⊢
    have em : nI (t + 1) + Int32.ofInt (-1) = nI t := pk_m1 t
    refine Rp.iload dX5_run_58 rfl ?_
    first | ((with_reducible show Rp _ _ _ _ (.int (b2i _) :: _) _ _); refine Rp.if_neB (tgt := 66) dX5_run_60 (by decide) (fun c60 => ?_) (fun c60 => ?_)) | ((with_reducible show Rp _ _ _ _ (.int (nI _) :: _) _ _); refine Rp.if_neN (tgt := 66) dX5_run_60 (by decide) (by omega) (fun c60 => ?_) (fun c60 => ?_)) | refine Rp.if_ne (tgt := 66) dX5_run_60 (by decide) (fun c60 => ?_) (fun c60 => ?_)
    · skip
      refine Rp.iload dX5_run_66 rfl ?_
      refine Rp.iconst (nI 2) dX5_run_68 (by decide) ?_
      first | ((with_reducible show Rp _ _ _ _ (.int (nI _) :: .int (nI _) :: _) _ _); refine Rp.icmp_gtN (tgt := 126) dX5_run_69 (by decide) (by omega) (fun c69 => ?_) (fun c69 => ?_)) | refine Rp.icmp_gt (tgt := 126) dX5_run_69 (by decide) (fun c69 => ?_) (fun c69 => ?_)
      · skip
        refine Rp.iload dX5_run_126 rfl ?_
        refine Rp.iload dX5_run_128 rfl ?_
        refine Rp.iconst (nI 5) dX5_run_130 (by decide) ?_
        first | ((with_reducible show Rp _ _ _ _ (.int (nI _) :: .int (nI _) :: _) _ _); refine Rp.icmp_gtN (tgt := 138) dX5_run_131 (by decide) (by omega) (fun c131 => ?_) (fun c131 => ?_)) | refine Rp.icmp_gt (tgt := 138) dX5_run_131 (by decide) (fun c131 => ?_) (fun c131 => ?_)
        · skip
          first | (exfalso; omega) | exact absurd c131 (by decide) | exact absurd (by decide) c131
        · skip
          refine Rp.iconst (nI 1) dX5_run_134 (by decide) ?_
          refine Rp.goto (tgt := 139) dX5_run_135 (by decide) ?_
          first | ((with_reducible show Rp _ _ _ _ (.int (nI _) :: .int (nI _) :: _) _ _); refine Rp.icmp_geN (tgt := 145) dX5_run_139 (by decide) (by omega) (fun c139 => ?_) (fun c139 => ?_)) | refine Rp.icmp_ge (tgt := 145) dX5_run_139 (by decide) (fun c139 => ?_) (fun c139 => ?_)
          · skip
            refine Rp.iload dX5_run_145 rfl ?_
            refine Rp.iconst (nI 5) dX5_run_147 (by decide) ?_
            first | ((with_reducible show Rp _ _ _ _ (.int (nI _) :: .int (nI _) :: _) _ _); refine Rp.icmp_neN (tgt := 174) dX5_run_148 (by decide) (by omega) (fun c148 => ?_) (fun c148 => ?_)) | refine Rp.icmp_ne (tgt := 174) dX5_run_148 (by decide) (fun c148 => ?_) (fun c148 => ?_)
            · skip
              refine Rp.iload dX5_run_174 rfl ?_
              refine Rp.iconst (nI 4) dX5_run_176 (by decide) ?_
              first | ((with_reducible show Rp _ _ _ _ (.int (nI _) :: .int (nI _) :: _) _ _); refine Rp.icmp_gtN (tgt := 209) dX5_run_177 (by decide) (by omega) (fun c177 => ?_) (fun c177 => ?_)) | refine Rp.icmp_gt (tgt := 209) dX5_run_177 (by decide) (fun c177 => ?_) (fun c177 => ?_)
              · skip
                first | (exfalso; omega) | exact absurd c177 (by decide) | exact absurd (by decide) c177
              · skip
                refine Rp.aload_n dX5_run_180 rfl rfl ?_
                refine Rp.getR dX5_run_181 fk_X5_9 rfl (S _ _ rfl) (R _ _ _ rfl) ?_
                refine Rp.iload dX5_run_184 rfl ?_
                refine Rp.iconst (nI 1) dX5_run_186 (by decide) ?_
                first | ((with_reducible show Rp _ _ _ _ (.int (nI _) :: .int (nI _) :: _) _ _); refine Rp.isubN dX5_run_187 (by omega) ?_) | refine Rp.isub dX5_run_187 ?_
                rw [Nat.add_sub_cancel]
                first | ((with_reducible show Rp _ _ _ _ (.int (nI _) :: _) _ _); refine Rp.ialoadN dX5_run_188 (S _ _ rfl) (by omega) ?_) | refine Rp.iaload dX5_run_188 (S _ _ rfl) (by first | assumption | exact vpb (by decide)) ?_
                refine Rp.iload dX5_run_189 rfl ?_
                refine Rp.iconst (nI 3) dX5_run_191 (by decide) ?_
                first | ((with_reducible show Rp _ _ _ _ (.int (nI _) :: .int (nI _) :: _) _ _); refine Rp.isubN dX5_run_192 (by omega) ?_) | refine Rp.isub dX5_run_192 ?_
                first | ((with_reducible show Rp _ _ _ _ (.int (nI _) :: .int (nI _) :: _) _ _); refine Rp.icmp_neN (tgt := 203) dX5_run_193 (by decide) (by omega) (fun c193 => ?_) (fun c193 => ?_)) | refine Rp.icmp_ne (tgt := 203) dX5_run_193 (by decide) (fun c193 => ?_) (fun c193 => ?_)
                · skip
                  refine Rp.inc4 (nI t) dX5_run_203 em (by first | exact nl2_some rfl | exact nl2_none) (by decide) ?_
                  refine Rp.goto (tgt := 440) dX5_run_206 (by decide) ?_
                  first | ((with_reducible show Rp _ _ _ (_ :: _ :: _ :: _ :: _ :: _ :: some (.int (nI _)) :: _) _ _ _); refine Rp.inc6N (c := 1) dX5_run_440 (by first | exact nl2_some rfl | exact nl2_none) (by decide) ?_) | refine Rp.inc6 _ dX5_run_440 rfl (by first | exact nl2_some rfl | exact nl2_none) (by decide) ?_
                  refine Rp.goto (tgt := 16) dX5_run_443 (by decide) ?_
                  exact k1
                · skip
                  exact absurd c193 e
            · skip
              first | (exfalso; omega) | exact absurd c148 (by decide) | exact absurd (by decide) c148
          · skip
            first | (exfalso; omega) | exact absurd c139 (by decide) | exact absurd (by decide) c139
      · skip
        first | (exfalso; omega) | exact absurd c69 (by decide) | exact absurd (by decide) c69
    · skip
      first | (exfalso; omega) | exact absurd c60 (by decide) | exact absurd (by decide) c60
theorem m_stop (B : MB g tx kc kw nc nw sz) {i sk v : Nat} (hi : i < sz) (hs : sk ≤ i) (hv : v < 100000) (hc : gI g kc i = enc (0, v)) (p : P (some (.int (gI g 42 0))) g) : mS d tx kw fr P g i 1 sk := by
  refine m_dec B hi hs (by decide) hv hc (fun a9 a10 a11 a12 a13 a14 => ?_)
  obtain ⟨S, R, b3, b4, b5, b6, b7, b8, b9, b10, b11, b12, b13⟩ := B
  unfold mL
  refine Rp.iload dX5_run_58 rfl ?_
  first | ((with_reducible show Rp _ _ _ _ (.int (b2i _) :: _) _ _); refine Rp.if_neB (tgt := 66) dX5_run_60 (by decide) (fun c60 => ?_) (fun c60 => ?_)) | ((with_reducible show Rp _ _ _ _ (.int (nI _) :: _) _ _); refine Rp.if_neN (tgt := 66) dX5_run_60 (by decide) (by omega) (fun c60 => ?_) (fun c60 => ?_)) | refine Rp.if_ne (tgt := 66) dX5_run_60 (by decide) (fun c60 => ?_) (fun c60 => ?_)
  · skip
    first | (exfalso; omega) | exact absurd c60 (by decide) | exact absurd (by decide) c60
  · skip
    refine Rp.goto (tgt := 446) dX5_run_63 (by decide) ?_
    refine Rp.iload dX5_run_446 rfl ?_
    refine Rp.iconst (nI 1) dX5_run_448 (by decide) ?_
    first | ((with_reducible show Rp _ _ _ _ (.int (nI _) :: .int (nI _) :: _) _ _); refine Rp.icmp_neN (tgt := 461) dX5_run_449 (by decide) (by omega) (fun c449 => ?_) (fun c449 => ?_)) | refine Rp.icmp_ne (tgt := 461) dX5_run_449 (by decide) (fun c449 => ?_) (fun c449 => ?_)
    · skip
      first | (exfalso; omega) | exact absurd c449 (by decide) | exact absurd (by decide) c449
    · skip
      refine Rp.aload_n dX5_run_452 rfl rfl ?_
      refine Rp.getR dX5_run_453 fk_X5_9 rfl (S _ _ rfl) (R _ _ _ rfl) ?_
      refine Rp.iconst (nI 0) dX5_run_456 (by decide) ?_
      first | ((with_reducible show Rp _ _ _ _ (.int (nI _) :: _) _ _); refine Rp.ialoadN dX5_run_457 (S _ _ rfl) (by omega) ?_) | refine Rp.iaload dX5_run_457 (S _ _ rfl) (by first | assumption | exact vpb (by decide)) ?_
      refine Rp.goto (tgt := 463) dX5_run_458 (by decide) ?_
      refine Rp.ireturn dX5_run_463 rfl ?_
      exact p
end Ma
