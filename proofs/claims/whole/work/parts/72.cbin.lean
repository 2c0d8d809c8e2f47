def binO (o : Nat) (x y : Int) : Option Int := if o ≤ 8 then some (cmO o x y) else arO o x y
section Mb
variable {d tx kc kw nc nw sz : Nat} {fr : Int32} {P : Option Value → AH → Prop} {g : AH}
theorem m_fin (S : ShOK g) (R : RfOK g) {i t sk : Nat} {z : Int} (hz : -4000000000000000000 ≤ z ∧ z ≤ 4000000000000000000) (ht : t < 64) (a7 a8 a9 a10 a11 a12 : Option Value) (k0 : ck z = none → P (some (.int (-2000000000))) g) (k1 : ck z = some z → mS d tx kw fr P (sI g 42 t (Int32.ofInt z)) (i + 1) (t + 1) sk) : Rp d M_X5_run 407 (mL tx kw fr i (t + 1) sk a7 a8 a9 a10 a11 a12 (some (.long (Int64.ofInt z))) none) [] g P := by
  have q1 : (1000000000 : Int64) < Int64.ofInt z ↔ 1000000000 < z := by rw [show (1000000000 : Int64) = Int64.ofInt 1000000000 from rfl, z64_lt (by omega) (by omega) (by omega) (by omega)]
  have q3 : (-1000000000 : Int64) ≤ Int64.ofInt z ↔ -1000000000 ≤ z := by rw [show (-1000000000 : Int64) = Int64.ofInt (-1000000000) from rfl, Int64.le_iff_toInt_le, z64_toInt (by omega) (by omega), z64_toInt (by omega) (by omega)]
  have e32 : (Int64.ofInt z).toInt32 = Int32.ofInt z := Int64.toInt32_ofInt
  by_cases hb : z > 1000000000 ∨ z < -1000000000
  · have p := k0 (by unfold ck; rw [if_pos hb])
    unfold mL
    refine Rp.lload dX5_run_407 rfl ?_
    refine Rp.ldc2 dX5_run_409 kc_X5_27 ?_
    refine Rp.lcmp dX5_run_412 ?_
    refine Rp.if_gt (tgt := 425) dX5_run_413 (by decide) (fun c413 => ?_) (fun c413 => ?_)
    · skip
      refine Rp.ldc dX5_run_425 kc_X5_15 ?_
      refine Rp.ireturn dX5_run_427 rfl ?_
      exact p
    · skip
      refine Rp.lload dX5_run_416 rfl ?_
      refine Rp.ldc2 dX5_run_418 kc_X5_29 ?_
      refine Rp.lcmp dX5_run_421 ?_
      refine Rp.if_ge (tgt := 428) dX5_run_422 (by decide) (fun c422 => ?_) (fun c422 => ?_)
      · skip
        exact absurd (q3.mp ((lg_cmp_ge _ _).mp c422)) (by have := mt (fun w => (lg_cmp_gt _ _).mpr (q1.mpr w)) c413; omega)
      · skip
        refine Rp.ldc dX5_run_425 kc_X5_15 ?_
        refine Rp.ireturn dX5_run_427 rfl ?_
        exact p
  · have k2 := k1 (by unfold ck; rw [if_neg hb]) a7 a8 a9 a10 a11 a12 (some (.long (Int64.ofInt z))) none
    unfold mL at k2 ⊢
    refine Rp.lload dX5_run_407 rfl ?_
    refine Rp.ldc2 dX5_run_409 kc_X5_27 ?_
    refine Rp.lcmp dX5_run_412 ?_
    refine Rp.if_gt (tgt := 425) dX5_run_413 (by decide) (fun c413 => ?_) (fun c413 => ?_)
    · skip
      exact absurd (q1.mp ((lg_cmp_gt _ _).mp c413)) (by omega)
    · skip
      refine Rp.lload dX5_run_416 rfl ?_
      refine Rp.ldc2 dX5_run_418 kc_X5_29 ?_
      refine Rp.lcmp dX5_run_421 ?_
      refine Rp.if_ge (tgt := 428) dX5_run_422 (by decide) (fun c422 => ?_) (fun c422 => ?_)
      · skip
        refine Rp.aload_n dX5_run_428 rfl rfl ?_
        refine Rp.getR dX5_run_429 fk_X5_9 rfl (S _ _ rfl) (R _ _ _ rfl) ?_
        refine Rp.iload dX5_run_432 rfl ?_
        refine Rp.iconst (nI 1) dX5_run_434 (by decide) ?_
        first | ((with_reducible show Rp _ _ _ _ (.int (nI _) :: .int (nI _) :: _) _ _); refine Rp.isubN dX5_run_435 (by omega) ?_) | refine Rp.isub dX5_run_435 ?_
        rw [Nat.add_sub_cancel]
        refine Rp.lload dX5_run_436 rfl ?_
        refine Rp.l2i dX5_run_438 ?_
        rw [e32]
        first | ((with_reducible show Rp _ _ _ _ (_ :: .int (nI _) :: _) _ _); refine Rp.iastoreN dX5_run_439 (S _ _ rfl) (by omega) ?_) | refine Rp.iastore dX5_run_439 (S _ _ rfl) (by first | assumption | exact vpb (by decide)) ?_
        first | ((with_reducible show Rp _ _ _ (_ :: _ :: _ :: _ :: _ :: _ :: some (.int (nI _)) :: _) _ _ _); refine Rp.inc6N (c := 1) dX5_run_440 (by first | exact nl2_some rfl | exact nl2_none) (by decide) ?_) | refine Rp.inc6 _ dX5_run_440 rfl (by first | exact nl2_some rfl | exact nl2_none) (by decide) ?_
        refine Rp.goto (tgt := 16) dX5_run_443 (by decide) ?_
        exact k2
      · skip
        exact absurd ((lg_cmp_ge _ _).mpr (q3.mpr (by omega))) c422
theorem m_two (B : MB g tx kc kw nc nw sz) {i t sk v o : Nat} (hi : i < sz) (hs : sk ≤ i) (hv : v < 100000) (ht : t + 1 < 64) (ho : 6 ≤ o ∧ o ≤ 13) (hc : gI g kc i = enc (o, v)) (kk : ∀ a13 a14, Rp d M_X5_run 234 (mL tx kw fr i (t + 1) sk (some (.int (nI o))) (some (.int (nI v))) (some (.long (Int64.ofInt (gI g 42 t).toInt))) none (some (.long (Int64.ofInt (gI g 42 (t + 1)).toInt))) none a13 a14) [] g P) : mS d tx kw fr P g i (t + 2) sk := by
  refine m_dec B hi hs (by omega) hv hc (fun a9 a10 a11 a12 a13 a14 => ?_)
  obtain ⟨S, R, b3, b4, b5, b6, b7, b8, b9, b10, b11, b12, b13⟩ := B
  have k1 := kk a13 a14
  unfold mL at k1 ⊢
  have em : nI (t + 2) + Int32.ofInt (-1) = nI (t + 1) := pk_m1 (t + 1)
  refine Rp.iload dX5_run_58 rfl ?_
  first | ((with_reducible show Rp _ _ _ _ (.int (b2i _) :: _) _ _); refine Rp.if_neB (tgt := 66) dX5_run_60 (by decide) (fun c60 => ?_) (fun c60 => ?_)) | ((with_reducible show Rp _ _ _ _ (.int (nI _) :: _) _ _); refine Rp.if_neN (tgt := 66) dX5_run_60 (by decide) (by omega) (fun c60 => ?_) (fun c60 => ?_)) | refine Rp.if_ne (tgt := 66) dX5_run_60 (by decide) (fun c60 => ?_) (fun c60 => ?_)
  · skip
    refine Rp.iload dX5_run_66 rfl ?_
    refine Rp.iconst (nI 2) dX5_run_68 (by decide) ?_
    first | ((with_reducible show Rp _ _ _ _ (.int (nI _) :: .int (nI _) :: _) _ _); refine Rp.icmp_gtN (tgt := 126) dX5_run_69 (by decide) (by omega) (fun c69 => ?_) (fun c69 => ?_)) | refine Rp.icmp_gt (tgt := 126) dX5_run_69 (by decide) (fun c69 => ?_) (fun c69 => ?_)
    · skip
      refine Rp.iload dX5_run_126 rfl ?_
      refine Rp.iload dX5_run_128 rfl ?_
      refine Rp.iconst (nI 5) dX5_run_130 (by decide) ?_
      first | ((with_reducible show Rp _ _ _ _ (.int (nI _) :: .int (nI _) :: _) _ _); refine Rp.icmp_gtN (tgt := 138) dX5_run_131 (by decide) (by omega) (fun c131 => ?_) (fun c131 => ?_)) | refine Rp.icmp_gt (tgt := 138) dX5_run_131 (by decide) (fun c131 => ?_) (fun c131 => ?_)
      · skip
        refine Rp.iconst (nI 2) dX5_run_138 (by decide) ?_
        first | ((with_reducible show Rp _ _ _ _ (.int (nI _) :: .int (nI _) :: _) _ _); refine Rp.icmp_geN (tgt := 145) dX5_run_139 (by decide) (by omega) (fun c139 => ?_) (fun c139 => ?_)) | refine Rp.icmp_ge (tgt := 145) dX5_run_139 (by decide) (fun c139 => ?_) (fun c139 => ?_)
        · skip
          refine Rp.iload dX5_run_145 rfl ?_
          refine Rp.iconst (nI 5) dX5_run_147 (by decide) ?_
          first | ((with_reducible show Rp _ _ _ _ (.int (nI _) :: .int (nI _) :: _) _ _); refine Rp.icmp_neN (tgt := 174) dX5_run_148 (by decide) (by omega) (fun c148 => ?_) (fun c148 => ?_)) | refine Rp.icmp_ne (tgt := 174) dX5_run_148 (by decide) (fun c148 => ?_) (fun c148 => ?_)
          · skip
            refine Rp.iload dX5_run_174 rfl ?_
            refine Rp.iconst (nI 4) dX5_run_176 (by decide) ?_
            first | ((with_reducible show Rp _ _ _ _ (.int (nI _) :: .int (nI _) :: _) _ _); refine Rp.icmp_gtN (tgt := 209) dX5_run_177 (by decide) (by omega) (fun c177 => ?_) (fun c177 => ?_)) | refine Rp.icmp_gt (tgt := 209) dX5_run_177 (by decide) (fun c177 => ?_) (fun c177 => ?_)
            · skip
              refine Rp.inc4 (nI (t + 1)) dX5_run_209 em (by first | exact nl2_some rfl | exact nl2_none) (by decide) ?_
              refine Rp.aload_n dX5_run_212 rfl rfl ?_
              refine Rp.getR dX5_run_213 fk_X5_9 rfl (S _ _ rfl) (R _ _ _ rfl) ?_
              refine Rp.iload dX5_run_216 rfl ?_
              refine Rp.iconst (nI 1) dX5_run_218 (by decide) ?_
              first | ((with_reducible show Rp _ _ _ _ (.int (nI _) :: .int (nI _) :: _) _ _); refine Rp.isubN dX5_run_219 (by omega) ?_) | refine Rp.isub dX5_run_219 ?_
              rw [Nat.add_sub_cancel]
              first | ((with_reducible show Rp _ _ _ _ (.int (nI _) :: _) _ _); refine Rp.ialoadN dX5_run_220 (S _ _ rfl) (by omega) ?_) | refine Rp.iaload dX5_run_220 (S _ _ rfl) (by first | assumption | exact vpb (by decide)) ?_
              refine Rp.i2l dX5_run_221 ?_
              rw [i64_of]
              refine Rp.lst9 dX5_run_222 (by first | exact nl2_some rfl | exact nl2_none) (by decide) ?_
              refine Rp.aload_n dX5_run_224 rfl rfl ?_
              refine Rp.getR dX5_run_225 fk_X5_9 rfl (S _ _ rfl) (R _ _ _ rfl) ?_
              refine Rp.iload dX5_run_228 rfl ?_
              first | ((with_reducible show Rp _ _ _ _ (.int (nI _) :: _) _ _); refine Rp.ialoadN dX5_run_230 (S _ _ rfl) (by omega) ?_) | refine Rp.iaload dX5_run_230 (S _ _ rfl) (by first | assumption | exact vpb (by decide)) ?_
              refine Rp.i2l dX5_run_231 ?_
              rw [i64_of]
              refine Rp.lst11 dX5_run_232 (by first | exact nl2_some rfl | exact nl2_none) (by decide) ?_
              exact k1
            · skip
              first | (exfalso; omega) | exact absurd c177 (by decide) | exact absurd (by decide) c177
          · skip
            first | (exfalso; omega) | exact absurd c148 (by decide) | exact absurd (by decide) c148
        · skip
          first | (exfalso; omega) | exact absurd c139 (by decide) | exact absurd (by decide) c139
      · skip
        first | (exfalso; omega) | exact absurd c131 (by decide) | exact absurd (by decide) c131
    · skip
      first | (exfalso; omega) | exact absurd c69 (by decide) | exact absurd (by decide) c69
  · skip
    first | (exfalso; omega) | exact absurd c60 (by decide) | exact absurd (by decide) c60
theorem m_bin (B : MB g tx kc kw nc nw sz) {i t sk v o : Nat} {x y : Int} (hi : i < sz) (hs : sk ≤ i) (hv : v < 100000) (ht : t + 1 < 64) (ho : 6 ≤ o ∧ o ≤ 13) (hc : gI g kc i = enc (o, v)) (hx : (gI g 42 t).toInt = x) (hy : (gI g 42 (t + 1)).toInt = y) (bx : -1000000000 ≤ x ∧ x ≤ 1000000000) (yb : -1000000000 ≤ y ∧ y ≤ 1000000000) (k0 : binO o x y = none → P (some (.int (-2000000000))) g) (k1 : ∀ z, binO o x y = some z → -1000000000 ≤ z → z ≤ 1000000000 → mS d tx kw fr P (sI g 42 t (Int32.ofInt z)) (i + 1) (t + 1) sk) : mS d tx kw fr P g i (t + 2) sk := by
  refine m_two B hi hs hv ht ho hc (fun a13 a14 => ?_)
  obtain ⟨S, R, b3, b4, b5, b6, b7, b8, b9, b10, b11, b12, b13⟩ := B
  rw [hx, hy]
  have fin : ∀ (z : Int) (a9 a10 a11 a12 : Option Value), binO o x y = ck z → -4000000000000000000 ≤ z → z ≤ 4000000000000000000 → Rp d M_X5_run 407 (mL tx kw fr i (t + 1) sk (some (.int (nI o))) (some (.int (nI v))) a9 a10 a11 a12 (some (.long (Int64.ofInt z))) none) [] g P := fun z a9 a10 a11 a12 e z1 z2 => m_fin S R ⟨z1, z2⟩ (by omega) _ _ _ _ _ _ (fun q => k0 (e.trans q)) (fun q => k1 z (e.trans q) (by unfold ck at q; split at q; cases q; omega) (by unfold ck at q; split at q; cases q; omega))
  have lt := z64_lt (x := x) (y := y) (by omega) (by omega) (by omega) (by omega)
  have gt := z64_lt (x := y) (y := x) (by omega) (by omega) (by omega) (by omega)
  have eq := z64_eq (x := x) (y := y) (by omega) (by omega) (by omega) (by omega)
  have y0 := z64_eq (x := y) (y := 0) (by omega) (by omega) (by omega) (by omega)
  have le : Int64.ofInt y ≤ Int64.ofInt x ↔ y ≤ x := by rw [Int64.le_iff_toInt_le, z64_toInt (by omega) (by omega), z64_toInt (by omega) (by omega)]
  have le2 : Int64.ofInt x ≤ Int64.ofInt y ↔ x ≤ y := by rw [Int64.le_iff_toInt_le, z64_toInt (by omega) (by omega), z64_toInt (by omega) (by omega)]
  obtain ⟨o1, o2⟩ := ho
  match o, o1, o2, fin with
  | 6, _, _, fin =>
    by_cases e : x < y
    · have f1 := fin 1 (some (.long (Int64.ofInt x))) none (some (.long (Int64.ofInt y))) none (by unfold binO cmO bZ ck; simp [e]) (by decide) (by decide)
      unfold mL at f1 ⊢
      refine Rp.iload dX5_run_234 rfl ?_
      refine Rp.tableIn (tgt := 280) (off := 44) dX5_run_236 (by decide) (by decide) (by decide) (by decide) ?_
      refine Rp.lload dX5_run_280 rfl ?_
      refine Rp.lload dX5_run_282 rfl ?_
      refine Rp.lcmp dX5_run_284 ?_
      refine Rp.if_ge (tgt := 292) dX5_run_285 (by decide) (fun c285 => ?_) (fun c285 => ?_)
      · skip
        exact absurd (le.mp ((lg_cmp_ge _ _).mp c285)) (by omega)
      · skip
        refine Rp.lconst (1) dX5_run_288 (by decide) ?_
        refine Rp.goto (tgt := 293) dX5_run_289 (by decide) ?_
        refine Rp.lst13 dX5_run_293 (by first | exact nl2_some rfl | exact nl2_none) (by decide) ?_
        refine Rp.goto (tgt := 407) dX5_run_295 (by decide) ?_
        exact f1
    · have f1 := fin 0 (some (.long (Int64.ofInt x))) none (some (.long (Int64.ofInt y))) none (by unfold binO cmO bZ ck; simp [e]) (by decide) (by decide)
      unfold mL at f1 ⊢
      refine Rp.iload dX5_run_234 rfl ?_
      refine Rp.tableIn (tgt := 280) (off := 44) dX5_run_236 (by decide) (by decide) (by decide) (by decide) ?_
      refine Rp.lload dX5_run_280 rfl ?_
      refine Rp.lload dX5_run_282 rfl ?_
      refine Rp.lcmp dX5_run_284 ?_
      refine Rp.if_ge (tgt := 292) dX5_run_285 (by decide) (fun c285 => ?_) (fun c285 => ?_)
      · skip
        refine Rp.lconst (0) dX5_run_292 (by decide) ?_
        refine Rp.lst13 dX5_run_293 (by first | exact nl2_some rfl | exact nl2_none) (by decide) ?_
        refine Rp.goto (tgt := 407) dX5_run_295 (by decide) ?_
        exact f1
      · skip
        exact absurd ((lg_cmp_ge _ _).mpr (le.mpr (by omega))) c285
  | 7, _, _, fin =>
    by_cases e : y < x
    · have f1 := fin 1 (some (.long (Int64.ofInt x))) none (some (.long (Int64.ofInt y))) none (by unfold binO cmO bZ ck; simp [e]) (by decide) (by decide)
      unfold mL at f1 ⊢
      refine Rp.iload dX5_run_234 rfl ?_
      refine Rp.tableIn (tgt := 298) (off := 62) dX5_run_236 (by decide) (by decide) (by decide) (by decide) ?_
      refine Rp.lload dX5_run_298 rfl ?_
      refine Rp.lload dX5_run_300 rfl ?_
      refine Rp.lcmp dX5_run_302 ?_
      refine Rp.if_le (tgt := 310) dX5_run_303 (by decide) (fun c303 => ?_) (fun c303 => ?_)
      · skip
        exact absurd (le2.mp ((lg_cmp_le _ _).mp c303)) (by omega)
      · skip
        refine Rp.lconst (1) dX5_run_306 (by decide) ?_
        refine Rp.goto (tgt := 311) dX5_run_307 (by decide) ?_
        refine Rp.lst13 dX5_run_311 (by first | exact nl2_some rfl | exact nl2_none) (by decide) ?_
        refine Rp.goto (tgt := 407) dX5_run_313 (by decide) ?_
        exact f1
    · have f1 := fin 0 (some (.long (Int64.ofInt x))) none (some (.long (Int64.ofInt y))) none (by unfold binO cmO bZ ck; simp [e]) (by decide) (by decide)
      unfold mL at f1 ⊢
      refine Rp.iload dX5_run_234 rfl ?_
      refine Rp.tableIn (tgt := 298) (off := 62) dX5_run_236 (by decide) (by decide) (by decide) (by decide) ?_
      refine Rp.lload dX5_run_298 rfl ?_
      refine Rp.lload dX5_run_300 rfl ?_
      refine Rp.lcmp dX5_run_302 ?_
      refine Rp.if_le (tgt := 310) dX5_run_303 (by decide) (fun c303 => ?_) (fun c303 => ?_)
      · skip
        refine Rp.lconst (0) dX5_run_310 (by decide) ?_
        refine Rp.lst13 dX5_run_311 (by first | exact nl2_some rfl | exact nl2_none) (by decide) ?_
        refine Rp.goto (tgt := 407) dX5_run_313 (by decide) ?_
        exact f1
      · skip
        exact absurd ((lg_cmp_le _ _).mpr (le2.mpr (by omega))) c303
  | 8, _, _, fin =>
    by_cases e : x = y
    · have f1 := fin 1 (some (.long (Int64.ofInt x))) none (some (.long (Int64.ofInt y))) none (by unfold binO cmO bZ ck; simp [e]) (by decide) (by decide)
      unfold mL at f1 ⊢
      refine Rp.iload dX5_run_234 rfl ?_
      refine Rp.tableIn (tgt := 316) (off := 80) dX5_run_236 (by decide) (by decide) (by decide) (by decide) ?_
      refine Rp.lload dX5_run_316 rfl ?_
      refine Rp.lload dX5_run_318 rfl ?_
      refine Rp.lcmp dX5_run_320 ?_
      first | ((with_reducible show Rp _ _ _ _ (.int (b2i _) :: _) _ _); refine Rp.if_neB (tgt := 328) dX5_run_321 (by decide) (fun c321 => ?_) (fun c321 => ?_)) | ((with_reducible show Rp _ _ _ _ (.int (nI _) :: _) _ _); refine Rp.if_neN (tgt := 328) dX5_run_321 (by decide) (by omega) (fun c321 => ?_) (fun c321 => ?_)) | refine Rp.if_ne (tgt := 328) dX5_run_321 (by decide) (fun c321 => ?_) (fun c321 => ?_)
      · skip
        exact absurd ((lcmp_0 _ _).mpr (eq.mpr e)) c321
      · skip
        refine Rp.lconst (1) dX5_run_324 (by decide) ?_
        refine Rp.goto (tgt := 329) dX5_run_325 (by decide) ?_
        refine Rp.lst13 dX5_run_329 (by first | exact nl2_some rfl | exact nl2_none) (by decide) ?_
        refine Rp.goto (tgt := 407) dX5_run_331 (by decide) ?_
        exact f1
    · have f1 := fin 0 (some (.long (Int64.ofInt x))) none (some (.long (Int64.ofInt y))) none (by unfold binO cmO bZ ck; simp [e]) (by decide) (by decide)
      unfold mL at f1 ⊢
      refine Rp.iload dX5_run_234 rfl ?_
      refine Rp.tableIn (tgt := 316) (off := 80) dX5_run_236 (by decide) (by decide) (by decide) (by decide) ?_
      refine Rp.lload dX5_run_316 rfl ?_
      refine Rp.lload dX5_run_318 rfl ?_
      refine Rp.lcmp dX5_run_320 ?_
      first | ((with_reducible show Rp _ _ _ _ (.int (b2i _) :: _) _ _); refine Rp.if_neB (tgt := 328) dX5_run_321 (by decide) (fun c321 => ?_) (fun c321 => ?_)) | ((with_reducible show Rp _ _ _ _ (.int (nI _) :: _) _ _); refine Rp.if_neN (tgt := 328) dX5_run_321 (by decide) (by omega) (fun c321 => ?_) (fun c321 => ?_)) | refine Rp.if_ne (tgt := 328) dX5_run_321 (by decide) (fun c321 => ?_) (fun c321 => ?_)
      · skip
        refine Rp.lconst (0) dX5_run_328 (by decide) ?_
        refine Rp.lst13 dX5_run_329 (by first | exact nl2_some rfl | exact nl2_none) (by decide) ?_
        refine Rp.goto (tgt := 407) dX5_run_331 (by decide) ?_
        exact f1
      · skip
        exact absurd (eq.mp ((lcmp_0 _ _).mp c321)) e
  | 9, _, _, fin =>
    have f1 := fin (x + y) (some (.long (Int64.ofInt x))) none (some (.long (Int64.ofInt y))) none rfl (by omega) (by omega)
    unfold mL at f1 ⊢
    refine Rp.iload dX5_run_234 rfl ?_
    refine Rp.tableIn (tgt := 334) (off := 98) dX5_run_236 (by decide) (by decide) (by decide) (by decide) ?_
    refine Rp.lload dX5_run_334 rfl ?_
    refine Rp.lload dX5_run_336 rfl ?_
    refine Rp.ladd dX5_run_338 ?_
    rw [← Int64.ofInt_add]
    refine Rp.lst13 dX5_run_339 (by first | exact nl2_some rfl | exact nl2_none) (by decide) ?_
    refine Rp.goto (tgt := 407) dX5_run_341 (by decide) ?_
    exact f1
  | 10, _, _, fin =>
    have f1 := fin (x - y) (some (.long (Int64.ofInt x))) none (some (.long (Int64.ofInt y))) none rfl (by omega) (by omega)
    unfold mL at f1 ⊢
    refine Rp.iload dX5_run_234 rfl ?_
    refine Rp.tableIn (tgt := 344) (off := 108) dX5_run_236 (by decide) (by decide) (by decide) (by decide) ?_
    refine Rp.lload dX5_run_344 rfl ?_
    refine Rp.lload dX5_run_346 rfl ?_
    refine Rp.lsub dX5_run_348 ?_
    rw [← Int64.ofInt_sub]
    refine Rp.lst13 dX5_run_349 (by first | exact nl2_some rfl | exact nl2_none) (by decide) ?_
    refine Rp.goto (tgt := 407) dX5_run_351 (by decide) ?_
    exact f1
  | 11, _, _, fin =>
    have bm := mul_bnd bx.1 bx.2 yb.1 yb.2
    have f1 := fin (x * y) (some (.long (Int64.ofInt x))) none (some (.long (Int64.ofInt y))) none rfl bm.1 bm.2
    unfold mL at f1 ⊢
    refine Rp.iload dX5_run_234 rfl ?_
    refine Rp.tableIn (tgt := 354) (off := 118) dX5_run_236 (by decide) (by decide) (by decide) (by decide) ?_
    refine Rp.lload dX5_run_354 rfl ?_
    refine Rp.lload dX5_run_356 rfl ?_
    refine Rp.lmul dX5_run_358 ?_
    rw [← Int64.ofInt_mul]
    refine Rp.lst13 dX5_run_359 (by first | exact nl2_some rfl | exact nl2_none) (by decide) ?_
    refine Rp.goto (tgt := 407) dX5_run_361 (by decide) ?_
    exact f1
  | 12, _, _, fin =>
    by_cases e : y = 0
    · have f1 := fin (-2000000000) (some (.long (Int64.ofInt x))) none (some (.long (Int64.ofInt y))) none (by unfold binO arO; simp [e, ck]) (by decide) (by decide)
      unfold mL at f1 ⊢
      refine Rp.iload dX5_run_234 rfl ?_
      refine Rp.tableIn (tgt := 364) (off := 128) dX5_run_236 (by decide) (by decide) (by decide) (by decide) ?_
      refine Rp.lload dX5_run_364 rfl ?_
      refine Rp.lconst (0) dX5_run_366 (by decide) ?_
      refine Rp.lcmp dX5_run_367 ?_
      first | ((with_reducible show Rp _ _ _ _ (.int (b2i _) :: _) _ _); refine Rp.if_neB (tgt := 377) dX5_run_368 (by decide) (fun c368 => ?_) (fun c368 => ?_)) | ((with_reducible show Rp _ _ _ _ (.int (nI _) :: _) _ _); refine Rp.if_neN (tgt := 377) dX5_run_368 (by decide) (by omega) (fun c368 => ?_) (fun c368 => ?_)) | refine Rp.if_ne (tgt := 377) dX5_run_368 (by decide) (fun c368 => ?_) (fun c368 => ?_)
      · skip
        exact absurd ((lcmp_0 _ _).mpr (y0.mpr e)) c368
      · skip
        refine Rp.ldc2 dX5_run_371 kc_X5_25 ?_
        refine Rp.goto (tgt := 382) dX5_run_374 (by decide) ?_
        refine Rp.lst13 dX5_run_382 (by first | exact nl2_some rfl | exact nl2_none) (by decide) ?_
        refine Rp.goto (tgt := 407) dX5_run_384 (by decide) ?_
        exact f1
    · have bm := tdiv_bnd (y := y) bx.1 bx.2
      have f1 := fin (x.tdiv y) (some (.long (Int64.ofInt x))) none (some (.long (Int64.ofInt y))) none (by unfold binO arO; simp [e]) bm.1 bm.2
      have ne : ¬ Int64.ofInt y = 0 := fun z => e (y0.mp z)
      unfold mL at f1 ⊢
      refine Rp.iload dX5_run_234 rfl ?_
      refine Rp.tableIn (tgt := 364) (off := 128) dX5_run_236 (by decide) (by decide) (by decide) (by decide) ?_
      refine Rp.lload dX5_run_364 rfl ?_
      refine Rp.lconst (0) dX5_run_366 (by decide) ?_
      refine Rp.lcmp dX5_run_367 ?_
      first | ((with_reducible show Rp _ _ _ _ (.int (b2i _) :: _) _ _); refine Rp.if_neB (tgt := 377) dX5_run_368 (by decide) (fun c368 => ?_) (fun c368 => ?_)) | ((with_reducible show Rp _ _ _ _ (.int (nI _) :: _) _ _); refine Rp.if_neN (tgt := 377) dX5_run_368 (by decide) (by omega) (fun c368 => ?_) (fun c368 => ?_)) | refine Rp.if_ne (tgt := 377) dX5_run_368 (by decide) (fun c368 => ?_) (fun c368 => ?_)
      · skip
        refine Rp.lload dX5_run_377 rfl ?_
        refine Rp.lload dX5_run_379 rfl ?_
        refine Rp.ldiv dX5_run_381 ne ?_
        rw [z64_div bx.1 bx.2 yb.1 yb.2]
        refine Rp.lst13 dX5_run_382 (by first | exact nl2_some rfl | exact nl2_none) (by decide) ?_
        refine Rp.goto (tgt := 407) dX5_run_384 (by decide) ?_
        exact f1
      · skip
        exact absurd (y0.mp ((lcmp_0 _ _).mp c368)) e
  | 13, _, _, fin =>
    by_cases e : y = 0
    · have f1 := fin (-2000000000) (some (.long (Int64.ofInt x))) none (some (.long (Int64.ofInt y))) none (by unfold binO arO; simp [e, ck]) (by decide) (by decide)
      unfold mL at f1 ⊢
      refine Rp.iload dX5_run_234 rfl ?_
      refine Rp.tableOut (tgt := 387) dX5_run_236 (by decide) (by decide) ?_
      refine Rp.lload dX5_run_387 rfl ?_
      refine Rp.lconst (0) dX5_run_389 (by decide) ?_
      refine Rp.lcmp dX5_run_390 ?_
      first | ((with_reducible show Rp _ _ _ _ (.int (b2i _) :: _) _ _); refine Rp.if_neB (tgt := 400) dX5_run_391 (by decide) (fun c391 => ?_) (fun c391 => ?_)) | ((with_reducible show Rp _ _ _ _ (.int (nI _) :: _) _ _); refine Rp.if_neN (tgt := 400) dX5_run_391 (by decide) (by omega) (fun c391 => ?_) (fun c391 => ?_)) | refine Rp.if_ne (tgt := 400) dX5_run_391 (by decide) (fun c391 => ?_) (fun c391 => ?_)
      · skip
        exact absurd ((lcmp_0 _ _).mpr (y0.mpr e)) c391
      · skip
        refine Rp.ldc2 dX5_run_394 kc_X5_25 ?_
        refine Rp.goto (tgt := 405) dX5_run_397 (by decide) ?_
        refine Rp.lst13 dX5_run_405 (by first | exact nl2_some rfl | exact nl2_none) (by decide) ?_
        exact f1
    · have bm := tmod_bnd (y := y) bx.1 bx.2
      have f1 := fin (x.tmod y) (some (.long (Int64.ofInt x))) none (some (.long (Int64.ofInt y))) none (by unfold binO arO; simp [e]) bm.1 bm.2
      have ne : ¬ Int64.ofInt y = 0 := fun z => e (y0.mp z)
      unfold mL at f1 ⊢
      refine Rp.iload dX5_run_234 rfl ?_
      refine Rp.tableOut (tgt := 387) dX5_run_236 (by decide) (by decide) ?_
      refine Rp.lload dX5_run_387 rfl ?_
      refine Rp.lconst (0) dX5_run_389 (by decide) ?_
      refine Rp.lcmp dX5_run_390 ?_
      first | ((with_reducible show Rp _ _ _ _ (.int (b2i _) :: _) _ _); refine Rp.if_neB (tgt := 400) dX5_run_391 (by decide) (fun c391 => ?_) (fun c391 => ?_)) | ((with_reducible show Rp _ _ _ _ (.int (nI _) :: _) _ _); refine Rp.if_neN (tgt := 400) dX5_run_391 (by decide) (by omega) (fun c391 => ?_) (fun c391 => ?_)) | refine Rp.if_ne (tgt := 400) dX5_run_391 (by decide) (fun c391 => ?_) (fun c391 => ?_)
      · skip
        refine Rp.lload dX5_run_400 rfl ?_
        refine Rp.lload dX5_run_402 rfl ?_
        refine Rp.lrem dX5_run_404 ne ?_
        rw [z64_rem bx.1 bx.2 yb.1 yb.2]
        refine Rp.lst13 dX5_run_405 (by first | exact nl2_some rfl | exact nl2_none) (by decide) ?_
        exact f1
      · skip
        exact absurd (y0.mp ((lcmp_0 _ _).mp c391)) e
end Mb
