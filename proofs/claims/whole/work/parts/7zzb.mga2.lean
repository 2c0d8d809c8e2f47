/-- what going along an order touches -/
def gbX (k j : Nat) : Bool := k == 127 || (k == 100 && (j == 52 || j == 53 || j == 54 || j == 55))
theorem GB.fr {h g : AH} {c v : Nat → Nat} {T : Nat} {K : Nat → Int32} {dn : Nat} {lt : Int32} {fit : Nat} (G : GB h c v T K dn lt fit) (F : Fr gbX h g) : GB g c v T K dn lt fit := by
  obtain ⟨S, R, ⟨k1, k2, k3, k4⟩, h25, hK, h27, h28, h29⟩ := G
  have e : ∀ j, gI g 102 j = gI h 102 j := fun j => F.I 102 j rfl
  exact ⟨F.S S, F.R R (by decide), ⟨k1, k2, (F.I 100 23 rfl).trans k3, fun k hk => by rw [show gI g am_kept (116 + (2400 + k)) = gI h am_kept (116 + (2400 + k)) from e _, show gI g am_kept (2916 + (2400 + k)) = gI h am_kept (2916 + (2400 + k)) from e _]; exact k4 k hk⟩, (F.I 100 25 rfl).trans h25, (funext e).trans hK, (F.I 100 27 rfl).trans h27, (F.I 100 28 rfl).trans h28, (F.I 100 29 rfl).trans h29⟩
def tsV (ts : PT) (w : Nat → Int32) : Bool := match ts with
  | none => true
  | some x => decide (x.2 w 0 = some 1)
section Ga
variable (d : Nat) {h : AH} {c v : Nat → Nat} {T : Nat} {w : Nat → Int32}
/-- one sum of an order -/
theorem ga105 {P : Option Value → AH → Prop} (S : ShOK h) (R : RfOK h) (K : EK h 2400 c v T) (E : EO h true w) {f i lv a i1 lv1 : Nat} {cd : List (Nat × Nat)} {D : DN} (hi : i ≤ T) (hl : lv ≤ 50) (hP : Prs true c v f 7 0 i lv a = .ok (i1, lv1, cd, D)) (live s : Bool) (hs : gI h aM 54 = b2i s) {k n : Nat} (hk : k < 2) (en bq : Int32) (kk : ∀ x b1, evC live false (D w 0) b1 x → Rp (d + 77) M_X12_goesAlong 84 [some (.ref aM), some (.int en), some (.int (b2i live)), some (.int (nI n)), some (.int (nI (k + 1)))] [] (evH (sI (sL h 127 k x) aM 54 (b2i (s && !b1))) (nI (2400 + i1)) (b2i b1)) P) : Rp (d + 77) M_X12_goesAlong 105 [some (.ref aM), some (.int en), some (.int (b2i live)), some (.int (nI n)), some (.int (nI k))] [] (evH h (nI (2400 + i)) bq) P := by
  have q1 := C_all S R K E f 7 (d + 7) 0 i lv a i1 lv1 cd D live false (by decide) (by decide) hi hl hP
  have q1 : Rp (d + 76) M_X12_sumOf 0 [some (.ref aM), some (.int (b2i live)), none, none, none, none, none] [] (evH h (nI (2400 + i)) (nI 0)) (evS live false (D w 0) h (2400 + i1)) := q1
  refine Rp.aload_n dX12_goesAlong_105 rfl rfl ?_
  refine Rp.iconst (nI 0) dX12_goesAlong_106 (by decide) ?_
  refine Rp.putZ dX12_goesAlong_107 fk_X12_292w rfl (by first | exact Or.inl rfl | exact Or.inr rfl | assumption) (S _ _ rfl) ?_
  first | rw [ev_sb] | skip
  refine Rp.aload_n dX12_goesAlong_110 rfl rfl ?_
  refine Rp.getR dX12_goesAlong_111 fk_X12_108 rfl (S _ _ rfl) (R _ _ _ rfl) ?_
  refine Rp.iload dX12_goesAlong_114 rfl ?_
  refine Rp.aload_n dX12_goesAlong_116 rfl rfl ?_
  refine Rp.iload_n dX12_goesAlong_117 rfl ?_
  refine Rp.callV1 M_X12_sumOf (ci := 12) dX12_goesAlong_118 mo_X12_sumOf lk_X12_309 (by decide) rfl rfl (S _ _ rfl) (Nat.le_of_ble_eq_true rfl) (Nat.le_of_ble_eq_true rfl) (q1) (fun v1 h1 p1 x1 => ?_)
  obtain ⟨x, b1, rfl, rfl, p1⟩ := p1
  try dsimp only [Option.toList, List.cons_append, List.nil_append, List.append]
  skip
  have k1 := kk x b1 p1
  have hs1 : gI (sL h 127 k x) aM 54 = b2i s := hs
  cases s
  · skip
    first | ((with_reducible show Rp _ _ _ _ (_ :: .int (nI _) :: _) _ _); refine Rp.lastoreN dX12_goesAlong_121 (S _ _ rfl) (by omega) ?_) | refine Rp.lastore dX12_goesAlong_121 (S _ _ rfl) (by first | assumption | exact vpb (by decide)) ?_
    first | rw [ev_sL] | rw [ev_s54] | skip
    refine Rp.aload_n dX12_goesAlong_122 rfl rfl ?_
    refine Rp.aload_n dX12_goesAlong_123 rfl rfl ?_
    refine Rp.getI dX12_goesAlong_124 fk_X12_491 rfl (S _ _ rfl) ?_
    first | rw [ev_54, hs1] | skip
    first | ((with_reducible show Rp _ _ _ _ (.int (b2i _) :: _) _ _); refine Rp.if_eqB (tgt := 141) dX12_goesAlong_127 (by decide) (fun c127 => ?_) (fun c127 => ?_)) | ((with_reducible show Rp _ _ _ _ (.int (nI _) :: _) _ _); refine Rp.if_eqN (tgt := 141) dX12_goesAlong_127 (by decide) (by omega) (fun c127 => ?_) (fun c127 => ?_)) | refine Rp.if_eq (tgt := 141) dX12_goesAlong_127 (by decide) (fun c127 => ?_) (fun c127 => ?_)
    · skip
      refine Rp.iconst (nI 0) dX12_goesAlong_141 (by decide) ?_
      refine Rp.putZ dX12_goesAlong_142 fk_X12_491w rfl (by first | exact Or.inl rfl | exact Or.inr rfl | assumption) (S _ _ rfl) ?_
      first | rw [ev_sL] | rw [ev_s54] | skip
      first | ((with_reducible show Rp _ _ _ (_ :: _ :: _ :: _ :: some (.int (nI _)) :: _) _ _ _); refine Rp.inc4N (c := 1) dX12_goesAlong_145 (by first | exact nl2_some rfl | exact nl2_none) (by decide) ?_) | refine Rp.inc4 _ dX12_goesAlong_145 rfl (by first | exact nl2_some rfl | exact nl2_none) (by decide) ?_
      refine Rp.goto (tgt := 84) dX12_goesAlong_148 (by decide) ?_
      exact k1
    · skip
      cases c127
  · cases b1
    · skip
      first | ((with_reducible show Rp _ _ _ _ (_ :: .int (nI _) :: _) _ _); refine Rp.lastoreN dX12_goesAlong_121 (S _ _ rfl) (by omega) ?_) | refine Rp.lastore dX12_goesAlong_121 (S _ _ rfl) (by first | assumption | exact vpb (by decide)) ?_
      first | rw [ev_sL] | rw [ev_s54] | skip
      refine Rp.aload_n dX12_goesAlong_122 rfl rfl ?_
      refine Rp.aload_n dX12_goesAlong_123 rfl rfl ?_
      refine Rp.getI dX12_goesAlong_124 fk_X12_491 rfl (S _ _ rfl) ?_
      first | rw [ev_54, hs1] | rw [ev_b] | skip
      first | ((with_reducible show Rp _ _ _ _ (.int (b2i _) :: _) _ _); refine Rp.if_eqB (tgt := 141) dX12_goesAlong_127 (by decide) (fun c127 => ?_) (fun c127 => ?_)) | ((with_reducible show Rp _ _ _ _ (.int (nI _) :: _) _ _); refine Rp.if_eqN (tgt := 141) dX12_goesAlong_127 (by decide) (by omega) (fun c127 => ?_) (fun c127 => ?_)) | refine Rp.if_eq (tgt := 141) dX12_goesAlong_127 (by decide) (fun c127 => ?_) (fun c127 => ?_)
      · skip
        cases c127
      · skip
        refine Rp.aload_n dX12_goesAlong_130 rfl rfl ?_
        refine Rp.getI dX12_goesAlong_131 fk_X12_292 rfl (S _ _ rfl) ?_
        first | rw [ev_54, hs1] | rw [ev_b] | skip
        first | ((with_reducible show Rp _ _ _ _ (.int (b2i _) :: _) _ _); refine Rp.if_neB (tgt := 141) dX12_goesAlong_134 (by decide) (fun c134 => ?_) (fun c134 => ?_)) | ((with_reducible show Rp _ _ _ _ (.int (nI _) :: _) _ _); refine Rp.if_neN (tgt := 141) dX12_goesAlong_134 (by decide) (by omega) (fun c134 => ?_) (fun c134 => ?_)) | refine Rp.if_ne (tgt := 141) dX12_goesAlong_134 (by decide) (fun c134 => ?_) (fun c134 => ?_)
        · skip
          cases c134
        · skip
          refine Rp.iconst (nI 1) dX12_goesAlong_137 (by decide) ?_
          refine Rp.goto (tgt := 142) dX12_goesAlong_138 (by decide) ?_
          refine Rp.putZ dX12_goesAlong_142 fk_X12_491w rfl (by first | exact Or.inl rfl | exact Or.inr rfl | assumption) (S _ _ rfl) ?_
          first | rw [ev_sL] | rw [ev_s54] | skip
          first | ((with_reducible show Rp _ _ _ (_ :: _ :: _ :: _ :: some (.int (nI _)) :: _) _ _ _); refine Rp.inc4N (c := 1) dX12_goesAlong_145 (by first | exact nl2_some rfl | exact nl2_none) (by decide) ?_) | refine Rp.inc4 _ dX12_goesAlong_145 rfl (by first | exact nl2_some rfl | exact nl2_none) (by decide) ?_
          refine Rp.goto (tgt := 84) dX12_goesAlong_148 (by decide) ?_
          exact k1
    · skip
      first | ((with_reducible show Rp _ _ _ _ (_ :: .int (nI _) :: _) _ _); refine Rp.lastoreN dX12_goesAlong_121 (S _ _ rfl) (by omega) ?_) | refine Rp.lastore dX12_goesAlong_121 (S _ _ rfl) (by first | assumption | exact vpb (by decide)) ?_
      first | rw [ev_sL] | rw [ev_s54] | skip
      refine Rp.aload_n dX12_goesAlong_122 rfl rfl ?_
      refine Rp.aload_n dX12_goesAlong_123 rfl rfl ?_
      refine Rp.getI dX12_goesAlong_124 fk_X12_491 rfl (S _ _ rfl) ?_
      first | rw [ev_54, hs1] | rw [ev_b] | skip
      first | ((with_reducible show Rp _ _ _ _ (.int (b2i _) :: _) _ _); refine Rp.if_eqB (tgt := 141) dX12_goesAlong_127 (by decide) (fun c127 => ?_) (fun c127 => ?_)) | ((with_reducible show Rp _ _ _ _ (.int (nI _) :: _) _ _); refine Rp.if_eqN (tgt := 141) dX12_goesAlong_127 (by decide) (by omega) (fun c127 => ?_) (fun c127 => ?_)) | refine Rp.if_eq (tgt := 141) dX12_goesAlong_127 (by decide) (fun c127 => ?_) (fun c127 => ?_)
      · skip
        cases c127
      · skip
        refine Rp.aload_n dX12_goesAlong_130 rfl rfl ?_
        refine Rp.getI dX12_goesAlong_131 fk_X12_292 rfl (S _ _ rfl) ?_
        first | rw [ev_54, hs1] | rw [ev_b] | skip
        first | ((with_reducible show Rp _ _ _ _ (.int (b2i _) :: _) _ _); refine Rp.if_neB (tgt := 141) dX12_goesAlong_134 (by decide) (fun c134 => ?_) (fun c134 => ?_)) | ((with_reducible show Rp _ _ _ _ (.int (nI _) :: _) _ _); refine Rp.if_neN (tgt := 141) dX12_goesAlong_134 (by decide) (by omega) (fun c134 => ?_) (fun c134 => ?_)) | refine Rp.if_ne (tgt := 141) dX12_goesAlong_134 (by decide) (fun c134 => ?_) (fun c134 => ?_)
        · skip
          refine Rp.iconst (nI 0) dX12_goesAlong_141 (by decide) ?_
          refine Rp.putZ dX12_goesAlong_142 fk_X12_491w rfl (by first | exact Or.inl rfl | exact Or.inr rfl | assumption) (S _ _ rfl) ?_
          first | rw [ev_sL] | rw [ev_s54] | skip
          first | ((with_reducible show Rp _ _ _ (_ :: _ :: _ :: _ :: some (.int (nI _)) :: _) _ _ _); refine Rp.inc4N (c := 1) dX12_goesAlong_145 (by first | exact nl2_some rfl | exact nl2_none) (by decide) ?_) | refine Rp.inc4 _ dX12_goesAlong_145 rfl (by first | exact nl2_some rfl | exact nl2_none) (by decide) ?_
          refine Rp.goto (tgt := 84) dX12_goesAlong_148 (by decide) ?_
          exact k1
        · skip
          cases c134
/-- the test of an order, and the end -/
theorem ga192 {P : Option Value → AH → Prop} (S : ShOK h) (R : RfOK h) (K : EK h 2400 c v T) (E : EO h true w) {f i2 lv1 i' lv' : Nat} {ts : PT} (hi : i2 ≤ T) (hl : lv1 ≤ 50) (st : (c i2 = 5 ∧ ∃ a3 cd3 D3, Prs true c v f 0 0 (i2 + 1) lv1 a3 = .ok (i', lv', cd3, D3) ∧ ts = some (a3, D3)) ∨ (c i2 ≠ 5 ∧ i' = i2 ∧ lv' = lv1 ∧ ts = none)) (live : Bool) (en a3 a4 bq : Int32) (kk : ∀ hb bb tt, Fr gbX h hb → gI hb aM 54 = gI h aM 54 → gI hb aM 53 = gI h aM 53 → gI hb aM 52 = gI h aM 52 → (∀ k, gL hb 127 k = gL h 127 k) → gI hb aM 55 = b2i tt → (live = true → tt = tsV ts w) → P none (evH hb (nI (2400 + i' + 1)) bb)) : Rp (d + 77) M_X12_goesAlong 192 [some (.ref aM), some (.int en), some (.int (b2i live)), some (.int a3), some (.int a4)] [] (evH h (nI (2400 + i2)) bq) P := by
  have hc := K.2.1
  have hB := K.1
  have kend : ∀ (t b2 : Bool), (live = true → (t && !b2) = tsV ts w) → Rp (d + 77) M_X12_goesAlong 222 [some (.ref aM), some (.int en), some (.int (b2i live)), some (.int a3), some (.int a4)] [] (evH (sI h aM 55 (b2i t)) (nI (2400 + i')) (b2i b2)) P := by
    intro t b2 ht
    have S1 : ShOK (sI h aM 55 (b2i t)) := S
    have h55 : gI (sI h aM 55 (b2i t)) aM 55 = b2i t := gI_hit _ _ _ _
    have k1 := fun bb => kk (sI (sI h aM 55 (b2i t)) aM 55 (b2i (t && !b2))) bb (t && !b2) ((Fr.rfl'.sI rfl).sI rfl) rfl rfl rfl (fun k => rfl) (gI_hit _ _ _ _) ht
    cases t
    · skip
      refine Rp.aload_n dX12_goesAlong_222 rfl rfl ?_
      refine Rp.aload_n dX12_goesAlong_223 rfl rfl ?_
      refine Rp.getI dX12_goesAlong_224 fk_X12_497 rfl (S1 _ _ rfl) ?_
      first | rw [ev_55, h55] | rw [ev_g] | skip
      first | ((with_reducible show Rp _ _ _ _ (.int (b2i _) :: _) _ _); refine Rp.if_eqB (tgt := 241) dX12_goesAlong_227 (by decide) (fun c227 => ?_) (fun c227 => ?_)) | ((with_reducible show Rp _ _ _ _ (.int (nI _) :: _) _ _); refine Rp.if_eqN (tgt := 241) dX12_goesAlong_227 (by decide) (by omega) (fun c227 => ?_) (fun c227 => ?_)) | refine Rp.if_eq (tgt := 241) dX12_goesAlong_227 (by decide) (fun c227 => ?_) (fun c227 => ?_)
      · skip
        refine Rp.iconst (nI 0) dX12_goesAlong_241 (by decide) ?_
        refine Rp.putZ dX12_goesAlong_242 fk_X12_497w rfl (by first | exact Or.inl rfl | exact Or.inr rfl | assumption) (S1 _ _ rfl) ?_
        first | rw [ev_s55] | rw [ev_sg] | skip
        refine Rp.aload_n dX12_goesAlong_245 rfl rfl ?_
        refine Rp.dup dX12_goesAlong_246 rfl ?_
        refine Rp.getI dX12_goesAlong_247 fk_X12_282 rfl (S1 _ _ rfl) ?_
        first | rw [ev_55, h55] | rw [ev_g] | skip
        refine Rp.iconst (nI 1) dX12_goesAlong_250 (by decide) ?_
        first | ((with_reducible show Rp _ _ _ _ (.int (nI _) :: .int (nI _) :: _) _ _); refine Rp.iaddN dX12_goesAlong_251 ?_) | refine Rp.iadd dX12_goesAlong_251 ?_
        refine Rp.putI dX12_goesAlong_252 fk_X12_282w rfl (S1 _ _ rfl) ?_
        first | rw [ev_s55] | rw [ev_sg] | skip
        refine Rp.vreturn dX12_goesAlong_255 rfl ?_
        exact k1 _
      · skip
        cases c227
    · cases b2
      · skip
        refine Rp.aload_n dX12_goesAlong_222 rfl rfl ?_
        refine Rp.aload_n dX12_goesAlong_223 rfl rfl ?_
        refine Rp.getI dX12_goesAlong_224 fk_X12_497 rfl (S1 _ _ rfl) ?_
        first | rw [ev_55, h55] | rw [ev_g] | rw [ev_b] | skip
        first | ((with_reducible show Rp _ _ _ _ (.int (b2i _) :: _) _ _); refine Rp.if_eqB (tgt := 241) dX12_goesAlong_227 (by decide) (fun c227 => ?_) (fun c227 => ?_)) | ((with_reducible show Rp _ _ _ _ (.int (nI _) :: _) _ _); refine Rp.if_eqN (tgt := 241) dX12_goesAlong_227 (by decide) (by omega) (fun c227 => ?_) (fun c227 => ?_)) | refine Rp.if_eq (tgt := 241) dX12_goesAlong_227 (by decide) (fun c227 => ?_) (fun c227 => ?_)
        · skip
          cases c227
        · skip
          refine Rp.aload_n dX12_goesAlong_230 rfl rfl ?_
          refine Rp.getI dX12_goesAlong_231 fk_X12_292 rfl (S1 _ _ rfl) ?_
          first | rw [ev_55, h55] | rw [ev_g] | rw [ev_b] | skip
          first | ((with_reducible show Rp _ _ _ _ (.int (b2i _) :: _) _ _); refine Rp.if_neB (tgt := 241) dX12_goesAlong_234 (by decide) (fun c234 => ?_) (fun c234 => ?_)) | ((with_reducible show Rp _ _ _ _ (.int (nI _) :: _) _ _); refine Rp.if_neN (tgt := 241) dX12_goesAlong_234 (by decide) (by omega) (fun c234 => ?_) (fun c234 => ?_)) | refine Rp.if_ne (tgt := 241) dX12_goesAlong_234 (by decide) (fun c234 => ?_) (fun c234 => ?_)
          · skip
            cases c234
          · skip
            refine Rp.iconst (nI 1) dX12_goesAlong_237 (by decide) ?_
            refine Rp.goto (tgt := 242) dX12_goesAlong_238 (by decide) ?_
            refine Rp.putZ dX12_goesAlong_242 fk_X12_497w rfl (by first | exact Or.inl rfl | exact Or.inr rfl | assumption) (S1 _ _ rfl) ?_
            first | rw [ev_s55] | rw [ev_sg] | skip
            refine Rp.aload_n dX12_goesAlong_245 rfl rfl ?_
            refine Rp.dup dX12_goesAlong_246 rfl ?_
            refine Rp.getI dX12_goesAlong_247 fk_X12_282 rfl (S1 _ _ rfl) ?_
            first | rw [ev_55, h55] | rw [ev_g] | rw [ev_b] | skip
            refine Rp.iconst (nI 1) dX12_goesAlong_250 (by decide) ?_
            first | ((with_reducible show Rp _ _ _ _ (.int (nI _) :: .int (nI _) :: _) _ _); refine Rp.iaddN dX12_goesAlong_251 ?_) | refine Rp.iadd dX12_goesAlong_251 ?_
            refine Rp.putI dX12_goesAlong_252 fk_X12_282w rfl (S1 _ _ rfl) ?_
            first | rw [ev_s55] | rw [ev_sg] | skip
            refine Rp.vreturn dX12_goesAlong_255 rfl ?_
            exact k1 _
      · skip
        refine Rp.aload_n dX12_goesAlong_222 rfl rfl ?_
        refine Rp.aload_n dX12_goesAlong_223 rfl rfl ?_
        refine Rp.getI dX12_goesAlong_224 fk_X12_497 rfl (S1 _ _ rfl) ?_
        first | rw [ev_55, h55] | rw [ev_g] | rw [ev_b] | skip
        first | ((with_reducible show Rp _ _ _ _ (.int (b2i _) :: _) _ _); refine Rp.if_eqB (tgt := 241) dX12_goesAlong_227 (by decide) (fun c227 => ?_) (fun c227 => ?_)) | ((with_reducible show Rp _ _ _ _ (.int (nI _) :: _) _ _); refine Rp.if_eqN (tgt := 241) dX12_goesAlong_227 (by decide) (by omega) (fun c227 => ?_) (fun c227 => ?_)) | refine Rp.if_eq (tgt := 241) dX12_goesAlong_227 (by decide) (fun c227 => ?_) (fun c227 => ?_)
        · skip
          cases c227
        · skip
          refine Rp.aload_n dX12_goesAlong_230 rfl rfl ?_
          refine Rp.getI dX12_goesAlong_231 fk_X12_292 rfl (S1 _ _ rfl) ?_
          first | rw [ev_55, h55] | rw [ev_g] | rw [ev_b] | skip
          first | ((with_reducible show Rp _ _ _ _ (.int (b2i _) :: _) _ _); refine Rp.if_neB (tgt := 241) dX12_goesAlong_234 (by decide) (fun c234 => ?_) (fun c234 => ?_)) | ((with_reducible show Rp _ _ _ _ (.int (nI _) :: _) _ _); refine Rp.if_neN (tgt := 241) dX12_goesAlong_234 (by decide) (by omega) (fun c234 => ?_) (fun c234 => ?_)) | refine Rp.if_ne (tgt := 241) dX12_goesAlong_234 (by decide) (fun c234 => ?_) (fun c234 => ?_)
          · skip
            refine Rp.iconst (nI 0) dX12_goesAlong_241 (by decide) ?_
            refine Rp.putZ dX12_goesAlong_242 fk_X12_497w rfl (by first | exact Or.inl rfl | exact Or.inr rfl | assumption) (S1 _ _ rfl) ?_
            first | rw [ev_s55] | rw [ev_sg] | skip
            refine Rp.aload_n dX12_goesAlong_245 rfl rfl ?_
            refine Rp.dup dX12_goesAlong_246 rfl ?_
            refine Rp.getI dX12_goesAlong_247 fk_X12_282 rfl (S1 _ _ rfl) ?_
            first | rw [ev_55, h55] | rw [ev_g] | rw [ev_b] | skip
            refine Rp.iconst (nI 1) dX12_goesAlong_250 (by decide) ?_
            first | ((with_reducible show Rp _ _ _ _ (.int (nI _) :: .int (nI _) :: _) _ _); refine Rp.iaddN dX12_goesAlong_251 ?_) | refine Rp.iadd dX12_goesAlong_251 ?_
            refine Rp.putI dX12_goesAlong_252 fk_X12_282w rfl (S1 _ _ rfl) ?_
            first | rw [ev_s55] | rw [ev_sg] | skip
            refine Rp.vreturn dX12_goesAlong_255 rfl ?_
            exact k1 _
          · skip
            cases c234
  have ps := s_passes (d + 75) S R K hi (nI 0) 5 (by decide)
  refine Rp.aload_n dX12_goesAlong_192 rfl rfl ?_
  refine Rp.iconst (nI 0) dX12_goesAlong_193 (by decide) ?_
  refine Rp.putZ dX12_goesAlong_194 fk_X12_292w rfl (by first | exact Or.inl rfl | exact Or.inr rfl | assumption) (S _ _ rfl) ?_
  first | rw [ev_sb] | skip
  refine Rp.aload_n dX12_goesAlong_197 rfl rfl ?_
  refine Rp.aload_n dX12_goesAlong_198 rfl rfl ?_
  refine Rp.iconst (nI 5) dX12_goesAlong_199 (by decide) ?_
  refine Rp.callV1 M_X12_passes0 (ci := 12) dX12_goesAlong_200 mo_X12_passes0 lk_X12_306 (by decide) rfl rfl (S _ _ rfl) (Nat.le_of_ble_eq_true rfl) (Nat.le_of_ble_eq_true rfl) (ps) (fun v1 h1 p1 x1 => ?_)
  skip
  try dsimp only [Option.toList, List.cons_append, List.nil_append, List.append]
  skip
  rcases p1 with ⟨e5, rfl, rfl⟩ | ⟨e5, rfl, rfl⟩
  · dsimp only [Option.toList, List.cons_append, List.nil_append, List.append]
    rcases st with ⟨-, b3, cd3, D3, x2, rfl⟩ | ⟨e0, -, -, -⟩
    · have hi1 := lt_of_code hc hi (by rw [e5]; decide)
      have q1 := C_all S R K E f 0 (d + 3) 0 (i2 + 1) lv1 b3 i' lv' cd3 D3 live false (by decide) (by decide) hi1 hl x2
      have q1 : Rp (d + 76) M_X12_testOf 0 [some (.ref aM), some (.int (b2i live)), none, none] [] (evH h (nI (2400 + i2 + 1)) (nI 0)) (evT live false (D3 w 0) h (2400 + i')) := q1
      first | ((with_reducible show Rp _ _ _ _ (.int (b2i _) :: _) _ _); refine Rp.if_eqB (tgt := 214) dX12_goesAlong_203 (by decide) (fun c203 => ?_) (fun c203 => ?_)) | ((with_reducible show Rp _ _ _ _ (.int (nI _) :: _) _ _); refine Rp.if_eqN (tgt := 214) dX12_goesAlong_203 (by decide) (by omega) (fun c203 => ?_) (fun c203 => ?_)) | refine Rp.if_eq (tgt := 214) dX12_goesAlong_203 (by decide) (fun c203 => ?_) (fun c203 => ?_)
      · first | (exfalso; omega) | exact absurd c203 (by decide) | exact absurd (by decide) c203
      refine Rp.aload_n dX12_goesAlong_206 rfl rfl ?_
      refine Rp.iload_n dX12_goesAlong_207 rfl ?_
      refine Rp.callV1 M_X12_testOf (ci := 12) dX12_goesAlong_208 mo_X12_testOf lk_X12_340 (by decide) rfl rfl (S _ _ rfl) (Nat.le_of_ble_eq_true rfl) (Nat.le_of_ble_eq_true rfl) (q1) (fun v1 h1 p1 x1 => ?_)
      obtain ⟨t, b2, rfl, rfl, p1⟩ := p1
      try dsimp only [Option.toList, List.cons_append, List.nil_append, List.append]
      skip
      have ht : live = true → (t && !b2) = decide (D3 w 0 = some 1) := fun hlv => by
        unfold evCT at p1
        rw [if_pos ⟨hlv, rfl⟩] at p1
        match hD : D3 w 0, p1 with
        | none, p1 => rw [p1]; cases t <;> rfl
        | some y2, p1 =>
          obtain ⟨rfl, rfl⟩ := p1
          cases t <;> rfl
      have k1 := kend t b2 ht
      cases t
      · skip
        first | ((with_reducible show Rp _ _ _ _ (.int (b2i _) :: _) _ _); refine Rp.if_eqB (tgt := 218) dX12_goesAlong_211 (by decide) (fun c211 => ?_) (fun c211 => ?_)) | ((with_reducible show Rp _ _ _ _ (.int (nI _) :: _) _ _); refine Rp.if_eqN (tgt := 218) dX12_goesAlong_211 (by decide) (by omega) (fun c211 => ?_) (fun c211 => ?_)) | refine Rp.if_eq (tgt := 218) dX12_goesAlong_211 (by decide) (fun c211 => ?_) (fun c211 => ?_)
        · skip
          refine Rp.iconst (nI 0) dX12_goesAlong_218 (by decide) ?_
          refine Rp.putZ dX12_goesAlong_219 fk_X12_497w rfl (by first | exact Or.inl rfl | exact Or.inr rfl | assumption) (S _ _ rfl) ?_
          first | rw [ev_s55] | skip
          exact k1
        · skip
          cases c211
      · skip
        first | ((with_reducible show Rp _ _ _ _ (.int (b2i _) :: _) _ _); refine Rp.if_eqB (tgt := 218) dX12_goesAlong_211 (by decide) (fun c211 => ?_) (fun c211 => ?_)) | ((with_reducible show Rp _ _ _ _ (.int (nI _) :: _) _ _); refine Rp.if_eqN (tgt := 218) dX12_goesAlong_211 (by decide) (by omega) (fun c211 => ?_) (fun c211 => ?_)) | refine Rp.if_eq (tgt := 218) dX12_goesAlong_211 (by decide) (fun c211 => ?_) (fun c211 => ?_)
        · skip
          cases c211
        · skip
          refine Rp.iconst (nI 1) dX12_goesAlong_214 (by decide) ?_
          refine Rp.goto (tgt := 219) dX12_goesAlong_215 (by decide) ?_
          refine Rp.putZ dX12_goesAlong_219 fk_X12_497w rfl (by first | exact Or.inl rfl | exact Or.inr rfl | assumption) (S _ _ rfl) ?_
          first | rw [ev_s55] | skip
          exact k1
    · exact absurd e5 e0
  · dsimp only [Option.toList, List.cons_append, List.nil_append, List.append]
    rcases st with ⟨e0, -⟩ | ⟨-, rfl, rfl, rfl⟩
    · exact absurd e0 e5
    · have k1 := kend true false (fun _ => rfl)
      first | ((with_reducible show Rp _ _ _ _ (.int (b2i _) :: _) _ _); refine Rp.if_eqB (tgt := 214) dX12_goesAlong_203 (by decide) (fun c203 => ?_) (fun c203 => ?_)) | ((with_reducible show Rp _ _ _ _ (.int (nI _) :: _) _ _); refine Rp.if_eqN (tgt := 214) dX12_goesAlong_203 (by decide) (by omega) (fun c203 => ?_) (fun c203 => ?_)) | refine Rp.if_eq (tgt := 214) dX12_goesAlong_203 (by decide) (fun c203 => ?_) (fun c203 => ?_)
      · skip
        refine Rp.iconst (nI 1) dX12_goesAlong_214 (by decide) ?_
        refine Rp.goto (tgt := 219) dX12_goesAlong_215 (by decide) ?_
        refine Rp.putZ dX12_goesAlong_219 fk_X12_497w rfl (by first | exact Or.inl rfl | exact Or.inr rfl | assumption) (S _ _ rfl) ?_
        first | rw [ev_s55] | skip
        exact k1
      · skip
        first | (exfalso; omega) | exact absurd c203 (by decide) | exact absurd (by decide) c203
end Ga
