section On2
variable (d : Nat) {g : AH} {fl : Option (List CLE)} {np nt nl N : Nat} {LSs : Nat → List CLE} {fx : Int32} {LS : List CLE} {s : OS}
/-- the machine at a part of an order -/
theorem t_ptO {h : AH} (C : OrC h fl np nt nl LSs fx LS s) (hO : OSK np nt N s) (hN : N ≤ 500) (hw : gI h 64 = wO s.1 np nt s.2.2.2.1 s.2.2.2.2 (if fitC true (cdA LS) = true then fitN s.1 fl np else 0)) {c v : Nat → Nat} {md pos : Nat} {D : DN} (hm : md = 0 ∨ md = 7) (hp : PtOK true c v (cdA LS) md (some (pos, D))) : Rp d M_X5_run 0 [some (.ref 41), some (.ref 37), some (.int (nI pos)), some (.ref 64), none, none, none, none, none, none, none, none, none, none, none] [] h (fun r h' => Fr mX h h' ∧ r = some (.int (mAns (D (orW fl np nt s) 0)))) ∧ (∀ z, D (orW fl np nt s) 0 = some z → -1000000000 ≤ z ∧ z ≤ 1000000000) ∧ pos < 436 := by
  obtain ⟨S, R, J, M, L, H, hf, T, e3, e4, hz⟩ := C
  have V := hO.1
  have v1 := V.1
  have fle := fitN_le s.1 fl np
  have hb := wO_b (dn := s.2.2.2.1) (fit := if fitC true (cdA LS) = true then fitN s.1 fl np else 0) V hO.2.1 (by have := hO.2.2.2.1; omega) (by split <;> omega) hO.2.2.2.2
  have q1 := t_pt d S R T (S 64 (13, 17) rfl) (by decide) hw rfl (fun j _ => hb j) hm hp
  have e := pt_ag (by omega) hp s.1 np nt s.2.2.2.1 s.2.2.2.2 (fitN s.1 fl np)
  rw [e] at q1
  have hb2 := wO_b (dn := s.2.2.2.1) (fit := fitN s.1 fl np) V hO.2.1 (by have := hO.2.2.2.1; omega) (by omega) hO.2.2.2.2
  refine ⟨q1, fun z hz => Pt_B (ord := true) (w := orW fl np nt s) (fun j _ => hb2 j) hm hp pos D rfl z hz, ?_⟩
  obtain ⟨f, i, lv, i', lv', cd, hP, hA⟩ := hp pos D rfl
  have := hA cd.length (0, 0) (by rw [List.getElem?_append_right (Nat.le_refl _), Nat.sub_self]; rfl)
  have := (List.getElem?_eq_some_iff.mp this).1
  have := T.2.2.2.2.2.2.2.1
  omega
theorem pt_hd {pt : PT} : oI (pt.map Prod.fst) = match pt with
  | none => -1
  | some x => nI x.1 := by cases pt <;> rfl
/-- behind the test -/
theorem once46 {h : AH} (C : OrC h fl np nt nl LSs fx LS s) (hF : fl = flO nl LSs fx) (hO : OSK np nt N s) (hN : N ≤ 500) (Fg : Fr orX g h) (hw : gI h 64 = wO s.1 np nt s.2.2.2.1 s.2.2.2.2 (if fitC true (cdA LS) = true then fitN s.1 fl np else 0)) {m : Nat} {e : CLE} (he : LS[m]? = some e) (a4 : Int32) : Rp (d + 5) M_X8_once 46 [some (.ref 63), some (.ref 1), some (.ref 37), some (.int (nI m)), some (.int a4), none, none, none, none] [] h (OnQ g fl np nt nl LSs fx LS (orX2 fl np nt s e.2.2.2.2.1 (ptV e.2.2.2.2.2.2.1 (orW fl np nt s)) (ptV e.2.2.2.2.2.2.2.1 (orW fl np nt s)))) := by
  obtain ⟨S, R, J, M, L, H, hf, T, e3, e4, hz⟩ := id C
  obtain ⟨c, v, hC⟩ := T.2.2.2.2.2.2.2.2.2.2.2
  obtain ⟨-, -, hp1, hp2, -⟩ := hC e (List.mem_of_getElem? he)
  have h3 := t_headT (d + 4) T he (w := 3) (by decide)
  have h4 := t_headT (d + 4) T he (w := 4) (by decide)
  have q3 : hdQ e 3 = oI (e.2.2.2.2.2.2.1.map Prod.fst) := rfl
  have q4 : hdQ e 4 = oI (e.2.2.2.2.2.2.2.1.map Prod.fst) := rfl
  rw [q3] at h3
  rw [q4] at h4
  have k91 : ∀ (h1 : AH) (x : Option Int) (a5 : Int32), Fr mX h h1 → (∀ z, x = some z → -1000000000 ≤ z ∧ z ≤ 1000000000) → Rp (d + 5) M_X8_once 91 [some (.ref 63), some (.ref 1), some (.ref 37), some (.int (nI m)), some (.int a4), some (.int a5), some (.int (oI (e.2.2.2.2.2.2.2.1.map Prod.fst))), some (.int (mAns x)), none] [] h1 (OnQ g fl np nt nl LSs fx LS (orX2 fl np nt s e.2.2.2.2.1 x (ptV e.2.2.2.2.2.2.2.1 (orW fl np nt s)))) := by
    intro h1 x a5 F1 bx
    have C1 := C.fm F1
    have S1 := C1.1
    have R1 := C1.2.1
    have Fg1 := Fg.trans (orX_l (loX_m F1))
    match hq : e.2.2.2.2.2.2.2.1 with
    | none =>
      have k1 := once120 d C1 hF hO hN Fg1 he bx (y := some 0) (fun z hz => by cases hz; decide) (some (.int a4)) (some (.int a5)) (some (.int (-1)))
      rw [mAns_0] at k1
      refine Rp.iload dX8_once_91 rfl ?_
      refine Rp.iconst (-1) dX8_once_93 (by decide) ?_
      first | ((with_reducible show Rp _ _ _ _ (.int (nI _) :: .int (nI _) :: _) _ _); refine Rp.icmp_neN (tgt := 101) dX8_once_94 (by decide) (by omega) (fun c94 => ?_) (fun c94 => ?_)) | refine Rp.icmp_ne (tgt := 101) dX8_once_94 (by decide) (fun c94 => ?_) (fun c94 => ?_)
      · skip
        exact absurd rfl c94
      · skip
        refine Rp.iconst (nI 0) dX8_once_97 (by decide) ?_
        refine Rp.goto (tgt := 118) dX8_once_98 (by decide) ?_
        refine Rp.ist8 dX8_once_118 (by first | exact nl2_some rfl | exact nl2_none) (by decide) ?_
        exact k1
    | some (pos, D) =>
      have hp2' : PtOK true c v (cdA LS) 7 (some (pos, D)) := by rw [← hq]; exact hp2
      obtain ⟨r1, r2, r3⟩ := t_ptO (d + 4) C1 hO hN (by rw [show gI h1 64 = gI h 64 from funext fun j => F1.I 64 j rfl]; exact hw) (Or.inr rfl) hp2'
      have om : ¬ nI pos = -1 := nI_m1 (by omega)
      rw [show oI (Option.map Prod.fst (some (pos, D))) = nI pos from rfl]
      refine Rp.iload dX8_once_91 rfl ?_
      refine Rp.iconst (-1) dX8_once_93 (by decide) ?_
      first | ((with_reducible show Rp _ _ _ _ (.int (nI _) :: .int (nI _) :: _) _ _); refine Rp.icmp_neN (tgt := 101) dX8_once_94 (by decide) (by omega) (fun c94 => ?_) (fun c94 => ?_)) | refine Rp.icmp_ne (tgt := 101) dX8_once_94 (by decide) (fun c94 => ?_) (fun c94 => ?_)
      rotate_left
      · exact absurd c94 om
      refine Rp.aload_n dX8_once_101 rfl rfl ?_
      refine Rp.getR dX8_once_102 fk_X8_15 rfl (S1 _ _ rfl) (R1 _ _ _ rfl) ?_
      refine Rp.getR dX8_once_105 fk_X8_51 rfl (S1 _ _ rfl) (R1 _ _ _ rfl) ?_
      refine Rp.aload_n dX8_once_108 rfl rfl ?_
      refine Rp.iload dX8_once_109 rfl ?_
      refine Rp.aload_n dX8_once_111 rfl rfl ?_
      refine Rp.getR dX8_once_112 fk_X8_11 rfl (S1 _ _ rfl) (R1 _ _ _ rfl) ?_
      refine Rp.callV3 M_X5_run (ci := 5) dX8_once_115 mo_X5_run lk_X8_57 (by decide) rfl rfl (S1 _ _ rfl) (Nat.le_of_ble_eq_true rfl) (Nat.le_of_ble_eq_true rfl) (r1) (fun v1 h1 p1 x1 => ?_)
      obtain ⟨p2, rfl⟩ := p1
      try dsimp only [Option.toList, List.cons_append, List.nil_append, List.append]
      skip
      have k1 := once120 d (C1.fm p2) hF hO hN (Fg1.trans (orX_l (loX_m p2))) he bx r2 (some (.int a4)) (some (.int a5)) (some (.int (nI pos)))
      refine Rp.ist8 dX8_once_118 (by first | exact nl2_some rfl | exact nl2_none) (by decide) ?_
      exact k1
  have k62 : Rp (d + 5) M_X8_once 62 [some (.ref 63), some (.ref 1), some (.ref 37), some (.int (nI m)), some (.int a4), some (.int (oI (e.2.2.2.2.2.2.1.map Prod.fst))), some (.int (oI (e.2.2.2.2.2.2.2.1.map Prod.fst))), none, none] [] h (OnQ g fl np nt nl LSs fx LS (orX2 fl np nt s e.2.2.2.2.1 (ptV e.2.2.2.2.2.2.1 (orW fl np nt s)) (ptV e.2.2.2.2.2.2.2.1 (orW fl np nt s)))) := by
    generalize oI (e.2.2.2.2.2.2.2.1.map Prod.fst) = a6 at k91
    match hq : e.2.2.2.2.2.2.1 with
    | none =>
      have k1 := k91 h (some 0) (-1) Fr.rfl' (fun z hz => by cases hz; decide)
      rw [mAns_0] at k1
      refine Rp.iload dX8_once_62 rfl ?_
      refine Rp.iconst (-1) dX8_once_64 (by decide) ?_
      first | ((with_reducible show Rp _ _ _ _ (.int (nI _) :: .int (nI _) :: _) _ _); refine Rp.icmp_neN (tgt := 72) dX8_once_65 (by decide) (by omega) (fun c65 => ?_) (fun c65 => ?_)) | refine Rp.icmp_ne (tgt := 72) dX8_once_65 (by decide) (fun c65 => ?_) (fun c65 => ?_)
      · skip
        exact absurd rfl c65
      · skip
        refine Rp.iconst (nI 0) dX8_once_68 (by decide) ?_
        refine Rp.goto (tgt := 89) dX8_once_69 (by decide) ?_
        refine Rp.ist7 dX8_once_89 (by first | exact nl2_some rfl | exact nl2_none) (by decide) ?_
        exact k1
    | some (pos, D) =>
      have hp1' : PtOK true c v (cdA LS) 7 (some (pos, D)) := by rw [← hq]; exact hp1
      obtain ⟨r1, r2, r3⟩ := t_ptO (d + 4) C hO hN hw (Or.inr rfl) hp1'
      have om : ¬ nI pos = -1 := nI_m1 (by omega)
      rw [show oI (Option.map Prod.fst (some (pos, D))) = nI pos from rfl]
      refine Rp.iload dX8_once_62 rfl ?_
      refine Rp.iconst (-1) dX8_once_64 (by decide) ?_
      first | ((with_reducible show Rp _ _ _ _ (.int (nI _) :: .int (nI _) :: _) _ _); refine Rp.icmp_neN (tgt := 72) dX8_once_65 (by decide) (by omega) (fun c65 => ?_) (fun c65 => ?_)) | refine Rp.icmp_ne (tgt := 72) dX8_once_65 (by decide) (fun c65 => ?_) (fun c65 => ?_)
      rotate_left
      · exact absurd c65 om
      refine Rp.aload_n dX8_once_72 rfl rfl ?_
      refine Rp.getR dX8_once_73 fk_X8_15 rfl (S _ _ rfl) (R _ _ _ rfl) ?_
      refine Rp.getR dX8_once_76 fk_X8_51 rfl (S _ _ rfl) (R _ _ _ rfl) ?_
      refine Rp.aload_n dX8_once_79 rfl rfl ?_
      refine Rp.iload dX8_once_80 rfl ?_
      refine Rp.aload_n dX8_once_82 rfl rfl ?_
      refine Rp.getR dX8_once_83 fk_X8_11 rfl (S _ _ rfl) (R _ _ _ rfl) ?_
      refine Rp.callV3 M_X5_run (ci := 5) dX8_once_86 mo_X5_run lk_X8_57 (by decide) rfl rfl (S _ _ rfl) (Nat.le_of_ble_eq_true rfl) (Nat.le_of_ble_eq_true rfl) (r1) (fun v1 h1 p1 x1 => ?_)
      obtain ⟨p2, rfl⟩ := p1
      try dsimp only [Option.toList, List.cons_append, List.nil_append, List.append]
      skip
      have k1 := k91 h1 (D (orW fl np nt s) 0) (nI pos) p2 r2
      refine Rp.ist7 dX8_once_89 (by first | exact nl2_some rfl | exact nl2_none) (by decide) ?_
      exact k1
  refine Rp.aload_n dX8_once_46 rfl rfl ?_
  refine Rp.iload_n dX8_once_47 rfl ?_
  refine Rp.iconst (nI 3) dX8_once_48 (by decide) ?_
  refine Rp.callV2 M_X9_head (ci := 9) dX8_once_49 mo_X9_head lk_X8_35 (by decide) rfl rfl T.1 (Nat.le_of_ble_eq_true rfl) (Nat.le_of_ble_eq_true rfl) (h3) (fun v1 h1 p1 x1 => ?_)
  rw [p1.1, p1.2]
  try dsimp only [Option.toList, List.cons_append, List.nil_append, List.append]
  refine Rp.ist5 dX8_once_52 (by first | exact nl2_some rfl | exact nl2_none) (by decide) ?_
  refine Rp.aload_n dX8_once_54 rfl rfl ?_
  refine Rp.iload_n dX8_once_55 rfl ?_
  refine Rp.iconst (nI 4) dX8_once_56 (by decide) ?_
  refine Rp.callV2 M_X9_head (ci := 9) dX8_once_57 mo_X9_head lk_X8_35 (by decide) rfl rfl T.1 (Nat.le_of_ble_eq_true rfl) (Nat.le_of_ble_eq_true rfl) (h4) (fun v1 h1 p1 x1 => ?_)
  rw [p1.1, p1.2]
  try dsimp only [Option.toList, List.cons_append, List.nil_append, List.append]
  refine Rp.ist6 dX8_once_60 (by first | exact nl2_some rfl | exact nl2_none) (by decide) ?_
  exact k62
theorem wO_17 {K : Nat → Int32} {np nt dn : Nat} {lt : Int32} {fit j : Nat} (hj : 17 ≤ j) : wO K np nt dn lt fit j = 0 := by
  rw [show j = (j - 5) + 5 by omega]
  show (if j - 5 < 6 then (if j - 5 < np then K (j - 5) else -1) else if j - 5 < 12 then (if j - 5 - 6 < np then K (13 + (j - 5 - 6)) else -1) else 0) = 0
  rw [if_neg (by omega), if_neg (by omega)]
theorem t_once (C : OrC g fl np nt nl LSs fx LS s) (hF : fl = flO nl LSs fx) (hO : OSK np nt N s) (hN : N ≤ 500) {m : Nat} {e : CLE} (he : LS[m]? = some e) : Rp (d + 5) M_X8_once 0 [some (.ref 63), some (.ref 1), some (.ref 37), some (.int (nI m)), none, none, none, none, none] [] g (OnQ g fl np nt nl LSs fx LS (orS fl np nt e.2.2.2.2 s)) := by
  obtain ⟨S, R, J, M, L, H, hf, T, e3, e4, hz⟩ := id C
  have fb : gI g 37 4 = b2i (fitC true (cdA LS)) := T.2.2.2.2.2.2.2.2.2.1.2.2.1
  have lk := t_lookAt d S R J hO.2.1 M e3 e4 (fitC true (cdA LS))
  refine Rp.aload_n dX8_once_0 rfl rfl ?_
  refine Rp.aload_n dX8_once_1 rfl rfl ?_
  refine Rp.aload_n dX8_once_2 rfl rfl ?_
  refine Rp.getI dX8_once_3 fk_X8_43 rfl T.1 ?_
  first | rw [fb] | skip
  refine Rp.callV2 M_X8_lookAt (ci := 8) dX8_once_6 mo_X8_lookAt lk_X8_47 (by decide) rfl rfl (S _ _ rfl) (Nat.le_of_ble_eq_true rfl) (Nat.le_of_ble_eq_true rfl) (lk) (fun v1 h1 p1 x1 => ?_)
  obtain ⟨rfl, F1, J1, w1⟩ := p1
  try dsimp only [Option.toList, List.cons_append, List.nil_append, List.append]
  skip
  have C1 := C.fl F1 J1
  have hw : gI h1 64 = wO s.1 np nt s.2.2.2.1 s.2.2.2.2 (if fitC true (cdA LS) = true then fitN s.1 fl np else 0) := funext fun j => by
    by_cases c : j < 17
    · exact w1 j c
    · rw [wO_17 (by omega)]; exact C1.2.2.2.2.2.2.2.2.2.2 j (by omega)
  obtain ⟨S1, R1, -, -, -, -, -, T1, -⟩ := id C1
  obtain ⟨c, v, hC⟩ := T1.2.2.2.2.2.2.2.2.2.2.2
  obtain ⟨-, -, -, -, hp3⟩ := hC e (List.mem_of_getElem? he)
  have h2 := t_headT (d + 4) T1 he (w := 2) (by decide)
  have q2 : hdQ e 2 = oI (e.2.2.2.2.2.2.2.2.map Prod.fst) := rfl
  rw [q2] at h2
  have Fg := orX_l F1
  have yes : clH e.2.2.2.2 (orW fl np nt s) = true → orS fl np nt e.2.2.2.2 s = orX2 fl np nt s e.2.2.2.2.1 (ptV e.2.2.2.2.2.2.1 (orW fl np nt s)) (ptV e.2.2.2.2.2.2.2.1 (orW fl np nt s)) := fun z => by unfold orS; rw [if_pos z]
  match hq : e.2.2.2.2.2.2.2.2 with
  | none =>
    rw [hq] at h2
    have hH : clH e.2.2.2.2 (orW fl np nt s) = true := by unfold clH; rw [show e.2.2.2.2.2.2.2.2 = none from hq]
    rw [yes hH]
    have k1 := once46 d C1 hF hO hN Fg hw he (-1)
    refine Rp.aload_n dX8_once_9 rfl rfl ?_
    refine Rp.iload_n dX8_once_10 rfl ?_
    refine Rp.iconst (nI 2) dX8_once_11 (by decide) ?_
    refine Rp.callV2 M_X9_head (ci := 9) dX8_once_12 mo_X9_head lk_X8_35 (by decide) rfl rfl T1.1 (Nat.le_of_ble_eq_true rfl) (Nat.le_of_ble_eq_true rfl) (h2) (fun v1 h1 p1 x1 => ?_)
    rw [p1.1, p1.2]
    try dsimp only [Option.toList, List.cons_append, List.nil_append, List.append]
    refine Rp.ist4 dX8_once_15 (by first | exact nl2_some rfl | exact nl2_none) (by decide) ?_
    refine Rp.iload dX8_once_17 rfl ?_
    refine Rp.iconst (-1) dX8_once_19 (by decide) ?_
    first | ((with_reducible show Rp _ _ _ _ (.int (nI _) :: .int (nI _) :: _) _ _); refine Rp.icmp_eqN (tgt := 46) dX8_once_20 (by decide) (by omega) (fun c20 => ?_) (fun c20 => ?_)) | refine Rp.icmp_eq (tgt := 46) dX8_once_20 (by decide) (fun c20 => ?_) (fun c20 => ?_)
    · skip
      exact k1
    · skip
      exact absurd rfl c20
  | some (pos, D) =>
    rw [hq] at h2
    have h2 : Rp (d + 4) M_X9_head 0 [some (.ref 37), some (.int (nI m)), some (.int (nI 2))] [] h1 (fun r h' => h' = h1 ∧ r = some (.int (nI pos))) := h2
    have hp3' : PtOK true c v (cdA LS) 0 (some (pos, D)) := by rw [← hq]; exact hp3
    obtain ⟨r1, r2, r3⟩ := t_ptO (d + 4) C1 hO hN hw (Or.inl rfl) hp3'
    have om : ¬ nI pos = -1 := nI_m1 (by omega)
    have bd := mAns_b r2
    refine Rp.aload_n dX8_once_9 rfl rfl ?_
    refine Rp.iload_n dX8_once_10 rfl ?_
    refine Rp.iconst (nI 2) dX8_once_11 (by decide) ?_
    refine Rp.callV2 M_X9_head (ci := 9) dX8_once_12 mo_X9_head lk_X8_35 (by decide) rfl rfl T1.1 (Nat.le_of_ble_eq_true rfl) (Nat.le_of_ble_eq_true rfl) (h2) (fun v1 h1 p1 x1 => ?_)
    rw [p1.1, p1.2]
    try dsimp only [Option.toList, List.cons_append, List.nil_append, List.append]
    refine Rp.ist4 dX8_once_15 (by first | exact nl2_some rfl | exact nl2_none) (by decide) ?_
    refine Rp.iload dX8_once_17 rfl ?_
    refine Rp.iconst (-1) dX8_once_19 (by decide) ?_
    first | ((with_reducible show Rp _ _ _ _ (.int (nI _) :: .int (nI _) :: _) _ _); refine Rp.icmp_eqN (tgt := 46) dX8_once_20 (by decide) (by omega) (fun c20 => ?_) (fun c20 => ?_)) | refine Rp.icmp_eq (tgt := 46) dX8_once_20 (by decide) (fun c20 => ?_) (fun c20 => ?_)
    · exact absurd c20 om
    refine Rp.aload_n dX8_once_23 rfl rfl ?_
    refine Rp.getR dX8_once_24 fk_X8_15 rfl (S1 _ _ rfl) (R1 _ _ _ rfl) ?_
    refine Rp.getR dX8_once_27 fk_X8_51 rfl (S1 _ _ rfl) (R1 _ _ _ rfl) ?_
    refine Rp.aload_n dX8_once_30 rfl rfl ?_
    refine Rp.iload dX8_once_31 rfl ?_
    refine Rp.aload_n dX8_once_33 rfl rfl ?_
    refine Rp.getR dX8_once_34 fk_X8_11 rfl (S1 _ _ rfl) (R1 _ _ _ rfl) ?_
    refine Rp.callV3 M_X5_run (ci := 5) dX8_once_37 mo_X5_run lk_X8_57 (by decide) rfl rfl (S1 _ _ rfl) (Nat.le_of_ble_eq_true rfl) (Nat.le_of_ble_eq_true rfl) (r1) (fun v1 h1 p1 x1 => ?_)
    obtain ⟨p2, rfl⟩ := p1
    try dsimp only [Option.toList, List.cons_append, List.nil_append, List.append]
    skip
    have C2 := C1.fm p2
    have Fg2 := Fg.trans (orX_l (loX_m p2))
    by_cases hH : D (orW fl np nt s) 0 = some 1
    · have hr := bd.2.mpr hH
      have hc : clH e.2.2.2.2 (orW fl np nt s) = true := by unfold clH; rw [show e.2.2.2.2.2.2.2.2 = some (pos, D) from hq]; exact decide_eq_true hH
      rw [yes hc]
      have k1 := once46 d C2 hF hO hN Fg2 ((funext fun j => p2.I 64 j rfl).trans hw) he (nI pos)
      refine Rp.iconst (nI 1) dX8_once_40 (by decide) ?_
      first | ((with_reducible show Rp _ _ _ _ (.int (nI _) :: .int (nI _) :: _) _ _); refine Rp.icmp_eqN (tgt := 46) dX8_once_41 (by decide) (by omega) (fun c41 => ?_) (fun c41 => ?_)) | refine Rp.icmp_eq (tgt := 46) dX8_once_41 (by decide) (fun c41 => ?_) (fun c41 => ?_)
      · skip
        exact k1
      · skip
        exact absurd hr c41
    · have hr : mAns (D (orW fl np nt s) 0) ≠ nI 1 := fun z => hH (bd.2.mp z)
      have hn : orS fl np nt e.2.2.2.2 s = some s := by
        unfold orS
        rw [if_neg (fun z => by
          unfold clH at z
          rw [show e.2.2.2.2.2.2.2.2 = some (pos, D) from hq] at z
          exact hH (of_decide_eq_true z))]
      rw [hn]
      refine Rp.iconst (nI 1) dX8_once_40 (by decide) ?_
      first | ((with_reducible show Rp _ _ _ _ (.int (nI _) :: .int (nI _) :: _) _ _); refine Rp.icmp_eqN (tgt := 46) dX8_once_41 (by decide) (by omega) (fun c41 => ?_) (fun c41 => ?_)) | refine Rp.icmp_eq (tgt := 46) dX8_once_41 (by decide) (fun c41 => ?_) (fun c41 => ?_)
      · skip
        exact absurd c41 hr
      · skip
        refine Rp.iconst (nI 1) dX8_once_44 (by decide) ?_
        refine Rp.zreturn dX8_once_45 rfl (by first | exact Or.inl rfl | exact Or.inr rfl | assumption) ?_
        exact ⟨Fg2, rfl, C2⟩
end On2
