theorem X12_loop (d : Nat) (h : AH) (k kp : Nat) (hs : h.1[k]? = some (12, clN 12)) (hr : gR h k 2 = some kp) (hp : h.1[kp]? = some (13, 5716)) : ∀ m i : Nat, i + m = 6 → Rp d M_X12_init 1232 [some (.ref k), some (.int (nI i))] [] (fillI h kp i (-1)) (fun r h' => h' = fillI h kp 6 (-1) ∧ r = none) := by
  intro m
  induction m with
  | zero =>
    intro i hi
    refine Rp.iload_n dX12_init_1232 rfl ?_
    refine Rp.bipush (nI 6) dX12_init_1233 (by decide) ?_
    refine Rp.icmp_geN (tgt := 1253) dX12_init_1235 (by decide) (by omega) (fun c => ?_) (fun c => absurd (by omega) c)
    refine Rp.vreturn dX12_init_1253 rfl ?_
    exact ⟨by rw [show i = 6 by omega], rfl⟩
  | succ m ih =>
    intro i hi
    refine Rp.iload_n dX12_init_1232 rfl ?_
    refine Rp.bipush (nI 6) dX12_init_1233 (by decide) ?_
    refine Rp.icmp_geN (tgt := 1253) dX12_init_1235 (by decide) (by omega) (fun c => absurd c (by omega)) (fun c => ?_)
    refine Rp.aload_n dX12_init_1238 rfl rfl ?_
    refine Rp.getR dX12_init_1239 fk_X12_24 rfl hs hr ?_
    refine Rp.iconst (nI 0) dX12_init_1242 (by decide) ?_
    refine Rp.iload_n dX12_init_1243 rfl ?_
    refine Rp.iaddN dX12_init_1244 ?_
    rw [Nat.zero_add]
    refine Rp.iconst (-1) dX12_init_1245 (by decide) ?_
    refine Rp.iastoreN dX12_init_1246 hp (by omega) ?_
    rw [fillI_s]
    refine Rp.inc1N (c := 1) dX12_init_1247 (nl2_some rfl) (by decide) ?_
    refine Rp.goto (tgt := 1232) dX12_init_1250 (by decide) ?_
    exact ih (i + 1) (by omega)
def ini_X11_init (h : AH) (k n : Nat) : AH := (fillI (sR (ini_X2_init (aNew (sR (ini_X2_init (aNew (sI (sR (aNew (sR (aNew (sR (aNew (sR (ini_X8_init (aNew (sR (ini_X10_init (aNew (sR (ini_X6_init (aNew (sR (ini_X1_init (aNew (sR (ini_X0_init (aNew (sR (ini_X3_init (aNew (sR (ini_X7_init (aNew (sR (aNew (sR (aNew (sR (ini_X2_init (aNew (sR (ini_X2_init (aNew h (2) (clN 2)) n (n + 1)) k 0 (some n)) (2) (clN 2)) (n + 16) (n + 17)) k 1 (some (n + 16))) (13 + 5) (2)) k 2 (some (n + 32))) (13 + 2) (2)) k 3 (some (n + 33))) (7) (clN 7)) (n + 34) (n + 35)) k 4 (some (n + 34))) (3) (clN 3)) (n + 39) (n + 40) n) k 5 (some (n + 39))) (0) (clN 0)) (n + 44) (n + 45) (n + 39)) k 6 (some (n + 44))) (1) (clN 1)) (n + 45) (n + 46)) k 7 (some (n + 45))) (6) (clN 6)) (n + 51) (n + 52) (n + 39) (n + 45)) k 8 (some (n + 51))) (10) (clN 10)) (n + 57) (n + 58)) k 9 (some (n + 57))) (8) (clN 8)) (n + 62) (n + 63) (n + 39) (n + 44)) k 10 (some (n + 62))) (13 + 0) (5)) k 11 (some (n + 64))) (13 + 0) (6)) k 12 (some (n + 65))) (13 + 3) (20)) k 13 (some (n + 66))) k 16 (-1)) (2) (clN 2)) (n + 67) (n + 68)) (n + 32) 0 (some (n + 67))) (2) (clN 2)) (n + 83) (n + 84)) (n + 32) 1 (some (n + 83))) (n + 65) 6 (-1))
set_option maxRecDepth 20000 in
set_option maxHeartbeats 4000000 in
theorem c_X11_init (d : Nat) (h : AH) (k n : Nat) (hk0 : h.1[k]? = some (11, clN 11)) (hn0 : aN h = n) : Rp (d + 3) M_X11_init 0 [some (.ref k)] [] h (fun r h' => h' = ini_X11_init h k n ∧ r = none) := by
  have hlt : k < n := by rw [← hn0]; exact (List.getElem?_eq_some_iff.mp hk0).1
  refine Rp.aload_n dX11_init_0 rfl rfl ?_
  refine Rp.objI dX11_init_1 lk_X11_1 (Nat.le_of_ble_eq_true rfl) ?_
  refine Rp.aload_n dX11_init_4 rfl rfl ?_
  refine Rp.newA n hn0 dX11_init_5 cl_2 lc_X11_7 df_2 ?_
  refine Rp.nm (fun h1 e1 => ?_)
  have s1_k : h1.1[k]? = some (11, clN 11) := by rw [e1]; exact sh_old hk0
  have hn1 : aN h1 = (n + 1) := by rw [e1, aN_new, hn0]
  have s1_0 : h1.1[n]? = some (2, clN 2) := by rw [e1]; exact sh_new hn0
  refine Rp.dup dX11_init_8 rfl ?_
  refine Rp.callI' [] dX11_init_9 mo_X2_init rfl rfl lk_X11_9 rfl (Nat.le_of_ble_eq_true rfl) (Nat.le_of_ble_eq_true rfl) (c_X2_init _ _ n (n + 1) s1_0 hn1) (fun v1 hq p1 x1 => ?_)
  obtain ⟨rfl, rfl⟩ := p1
  refine Rp.nm (fun h2 e2 => ?_)
  have s2_k : h2.1[k]? = some (11, clN 11) := by rw [e2]; exact sh_X2_init s1_k
  have s2_0 : h2.1[n]? = some (2, clN 2) := by rw [e2]; exact sh_X2_init s1_0
  have hn2 : aN h2 = (n + 16) := by rw [e2, aN_X2_init, hn1]
  refine Rp.putR dX11_init_12 fk_X11_10w (fun _ => rfl) (Or.inl ⟨_, rfl⟩) s2_k ?_
  refine Rp.nm (fun h3 e3 => ?_)
  have s3_k : h3.1[k]? = some (11, clN 11) := by rw [e3]; exact s2_k
  have s3_0 : h3.1[n]? = some (2, clN 2) := by rw [e3]; exact s2_0
  have hn3 : aN h3 = (n + 16) := by rw [e3]; exact hn2
  have g3_k_0 : gR h3 k 0 = some n := by rw [e3]; simp [gR_sR]
  refine Rp.aload_n dX11_init_15 rfl rfl ?_
  refine Rp.newA (n + 16) hn3 dX11_init_16 cl_2 lc_X11_7 df_2 ?_
  refine Rp.nm (fun h4 e4 => ?_)
  have s4_k : h4.1[k]? = some (11, clN 11) := by rw [e4]; exact sh_old s3_k
  have s4_0 : h4.1[n]? = some (2, clN 2) := by rw [e4]; exact sh_old s3_0
  have hn4 : aN h4 = (n + 17) := by rw [e4, aN_new, hn3]
  have g4_k_0 : gR h4 k 0 = some n := by rw [e4]; exact gq_new (by rw [hn3]; exact (ne_k hlt 16)) g3_k_0
  have s4_16 : h4.1[(n + 16)]? = some (2, clN 2) := by rw [e4]; exact sh_new hn3
  refine Rp.dup dX11_init_19 rfl ?_
  refine Rp.callI' [] dX11_init_20 mo_X2_init rfl rfl lk_X11_9 rfl (Nat.le_of_ble_eq_true rfl) (Nat.le_of_ble_eq_true rfl) (c_X2_init _ _ (n + 16) (n + 17) s4_16 hn4) (fun v1 hq p1 x1 => ?_)
  obtain ⟨rfl, rfl⟩ := p1
  refine Rp.nm (fun h5 e5 => ?_)
  have s5_k : h5.1[k]? = some (11, clN 11) := by rw [e5]; exact sh_X2_init s4_k
  have s5_0 : h5.1[n]? = some (2, clN 2) := by rw [e5]; exact sh_X2_init s4_0
  have s5_16 : h5.1[(n + 16)]? = some (2, clN 2) := by rw [e5]; exact sh_X2_init s4_16
  have hn5 : aN h5 = (n + 32) := by rw [e5, aN_X2_init, hn4]
  have g5_k_0 : gR h5 k 0 = some n := by rw [e5]; exact gq_X2_init hn4 (ne_k hlt 16) (Nat.lt_of_lt_of_le hlt (Nat.le_add_right _ _)) g4_k_0
  refine Rp.putR dX11_init_23 fk_X11_16w (fun _ => rfl) (Or.inl ⟨_, rfl⟩) s5_k ?_
  refine Rp.nm (fun h6 e6 => ?_)
  have s6_k : h6.1[k]? = some (11, clN 11) := by rw [e6]; exact s5_k
  have s6_0 : h6.1[n]? = some (2, clN 2) := by rw [e6]; exact s5_0
  have s6_16 : h6.1[(n + 16)]? = some (2, clN 2) := by rw [e6]; exact s5_16
  have hn6 : aN h6 = (n + 32) := by rw [e6]; exact hn5
  have g6_k_0 : gR h6 k 0 = some n := by rw [e6]; exact gq_sRj (by decide) g5_k_0
  refine Rp.aload_n dX11_init_26 rfl rfl ?_
  refine Rp.iconst (nI 2) dX11_init_27 (by decide) ?_
  refine Rp.anewA (n + 32) 5 2 hn6 dX11_init_28 (Or.inr ⟨rfl, rfl⟩) lc_X11_7.1 (by decide) ?_
  refine Rp.nm (fun h7 e7 => ?_)
  have s7_k : h7.1[k]? = some (11, clN 11) := by rw [e7]; exact sh_old s6_k
  have s7_0 : h7.1[n]? = some (2, clN 2) := by rw [e7]; exact sh_old s6_0
  have s7_16 : h7.1[(n + 16)]? = some (2, clN 2) := by rw [e7]; exact sh_old s6_16
  have hn7 : aN h7 = (n + 33) := by rw [e7, aN_new, hn6]
  have g7_k_0 : gR h7 k 0 = some n := by rw [e7]; exact gq_new (by rw [hn6]; exact (ne_k hlt 32)) g6_k_0
  have s7_32 : h7.1[(n + 32)]? = some (18, 2) := by rw [e7]; exact sh_new hn6
  refine Rp.putR dX11_init_31 fk_X11_19w (fun _ => rfl) (Or.inr ⟨_, rfl⟩) s7_k ?_
  refine Rp.nm (fun h8 e8 => ?_)
  have s8_k : h8.1[k]? = some (11, clN 11) := by rw [e8]; exact s7_k
  have s8_0 : h8.1[n]? = some (2, clN 2) := by rw [e8]; exact s7_0
  have s8_16 : h8.1[(n + 16)]? = some (2, clN 2) := by rw [e8]; exact s7_16
  have s8_32 : h8.1[(n + 32)]? = some (18, 2) := by rw [e8]; exact s7_32
  have hn8 : aN h8 = (n + 33) := by rw [e8]; exact hn7
  have g8_k_0 : gR h8 k 0 = some n := by rw [e8]; exact gq_sRj (by decide) g7_k_0
  have g8_k_2 : gR h8 k 2 = some (n + 32) := by rw [e8]; simp [gR_sR]
  refine Rp.aload_n dX11_init_34 rfl rfl ?_
  refine Rp.iconst (nI 2) dX11_init_35 (by decide) ?_
  refine Rp.newaA (n + 33) 2 2 hn8 dX11_init_36 ⟨rfl, by decide, ac_2⟩ (by decide) ?_
  refine Rp.nm (fun h9 e9 => ?_)
  have s9_k : h9.1[k]? = some (11, clN 11) := by rw [e9]; exact sh_old s8_k
  have s9_0 : h9.1[n]? = some (2, clN 2) := by rw [e9]; exact sh_old s8_0
  have s9_16 : h9.1[(n + 16)]? = some (2, clN 2) := by rw [e9]; exact sh_old s8_16
  have s9_32 : h9.1[(n + 32)]? = some (18, 2) := by rw [e9]; exact sh_old s8_32
  have hn9 : aN h9 = (n + 34) := by rw [e9, aN_new, hn8]
  have g9_k_0 : gR h9 k 0 = some n := by rw [e9]; exact gq_new (by rw [hn8]; exact (ne_k hlt 33)) g8_k_0
  have g9_k_2 : gR h9 k 2 = some (n + 32) := by rw [e9]; exact gq_new (by rw [hn8]; exact (ne_k hlt 33)) g8_k_2
  refine Rp.putR dX11_init_38 fk_X11_23w (fun _ => rfl) (Or.inr ⟨_, rfl⟩) s9_k ?_
  refine Rp.nm (fun h10 e10 => ?_)
  have s10_k : h10.1[k]? = some (11, clN 11) := by rw [e10]; exact s9_k
  have s10_0 : h10.1[n]? = some (2, clN 2) := by rw [e10]; exact s9_0
  have s10_16 : h10.1[(n + 16)]? = some (2, clN 2) := by rw [e10]; exact s9_16
  have s10_32 : h10.1[(n + 32)]? = some (18, 2) := by rw [e10]; exact s9_32
  have hn10 : aN h10 = (n + 34) := by rw [e10]; exact hn9
  have g10_k_0 : gR h10 k 0 = some n := by rw [e10]; exact gq_sRj (by decide) g9_k_0
  have g10_k_2 : gR h10 k 2 = some (n + 32) := by rw [e10]; exact gq_sRj (by decide) g9_k_2
  refine Rp.aload_n dX11_init_41 rfl rfl ?_
  refine Rp.newA (n + 34) hn10 dX11_init_42 cl_7 lc_X11_27 df_7 ?_
  refine Rp.nm (fun h11 e11 => ?_)
  have s11_k : h11.1[k]? = some (11, clN 11) := by rw [e11]; exact sh_old s10_k
  have s11_0 : h11.1[n]? = some (2, clN 2) := by rw [e11]; exact sh_old s10_0
  have s11_16 : h11.1[(n + 16)]? = some (2, clN 2) := by rw [e11]; exact sh_old s10_16
  have s11_32 : h11.1[(n + 32)]? = some (18, 2) := by rw [e11]; exact sh_old s10_32
  have hn11 : aN h11 = (n + 35) := by rw [e11, aN_new, hn10]
  have g11_k_0 : gR h11 k 0 = some n := by rw [e11]; exact gq_new (by rw [hn10]; exact (ne_k hlt 34)) g10_k_0
  have g11_k_2 : gR h11 k 2 = some (n + 32) := by rw [e11]; exact gq_new (by rw [hn10]; exact (ne_k hlt 34)) g10_k_2
  have s11_34 : h11.1[(n + 34)]? = some (7, clN 7) := by rw [e11]; exact sh_new hn10
  refine Rp.dup dX11_init_45 rfl ?_
  refine Rp.callIN' [] dX11_init_46 mo_X7_init rfl rfl lk_X11_29 rfl (Nat.le_of_ble_eq_true rfl) (Nat.le_of_ble_eq_true rfl) (c_X7_init _ _ (n + 34) (n + 35) s11_34 hn11) (fun v1 hq p1 x1 => ?_)
  obtain ⟨rfl, rfl⟩ := p1
  refine Rp.nm (fun h12 e12 => ?_)
  have s12_k : h12.1[k]? = some (11, clN 11) := by rw [e12]; exact sh_X7_init s11_k
  have s12_0 : h12.1[n]? = some (2, clN 2) := by rw [e12]; exact sh_X7_init s11_0
  have s12_16 : h12.1[(n + 16)]? = some (2, clN 2) := by rw [e12]; exact sh_X7_init s11_16
  have s12_32 : h12.1[(n + 32)]? = some (18, 2) := by rw [e12]; exact sh_X7_init s11_32
  have s12_34 : h12.1[(n + 34)]? = some (7, clN 7) := by rw [e12]; exact sh_X7_init s11_34
  have hn12 : aN h12 = (n + 39) := by rw [e12, aN_X7_init, hn11]
  have g12_k_0 : gR h12 k 0 = some n := by rw [e12]; exact gq_X7_init hn11 (ne_k hlt 34) (Nat.lt_of_lt_of_le hlt (Nat.le_add_right _ _)) g11_k_0
  have g12_k_2 : gR h12 k 2 = some (n + 32) := by rw [e12]; exact gq_X7_init hn11 (ne_k hlt 34) (Nat.lt_of_lt_of_le hlt (Nat.le_add_right _ _)) g11_k_2
  refine Rp.putR dX11_init_49 fk_X11_30w (fun _ => rfl) (Or.inl ⟨_, rfl⟩) s12_k ?_
  refine Rp.nm (fun h13 e13 => ?_)
  have s13_k : h13.1[k]? = some (11, clN 11) := by rw [e13]; exact s12_k
  have s13_0 : h13.1[n]? = some (2, clN 2) := by rw [e13]; exact s12_0
  have s13_16 : h13.1[(n + 16)]? = some (2, clN 2) := by rw [e13]; exact s12_16
  have s13_32 : h13.1[(n + 32)]? = some (18, 2) := by rw [e13]; exact s12_32
  have s13_34 : h13.1[(n + 34)]? = some (7, clN 7) := by rw [e13]; exact s12_34
  have hn13 : aN h13 = (n + 39) := by rw [e13]; exact hn12
  have g13_k_0 : gR h13 k 0 = some n := by rw [e13]; exact gq_sRj (by decide) g12_k_0
  have g13_k_2 : gR h13 k 2 = some (n + 32) := by rw [e13]; exact gq_sRj (by decide) g12_k_2
  refine Rp.aload_n dX11_init_52 rfl rfl ?_
  refine Rp.newA (n + 39) hn13 dX11_init_53 cl_3 lc_X11_34 df_3 ?_
  refine Rp.nm (fun h14 e14 => ?_)
  have s14_k : h14.1[k]? = some (11, clN 11) := by rw [e14]; exact sh_old s13_k
  have s14_0 : h14.1[n]? = some (2, clN 2) := by rw [e14]; exact sh_old s13_0
  have s14_16 : h14.1[(n + 16)]? = some (2, clN 2) := by rw [e14]; exact sh_old s13_16
  have s14_32 : h14.1[(n + 32)]? = some (18, 2) := by rw [e14]; exact sh_old s13_32
  have s14_34 : h14.1[(n + 34)]? = some (7, clN 7) := by rw [e14]; exact sh_old s13_34
  have hn14 : aN h14 = (n + 40) := by rw [e14, aN_new, hn13]
  have g14_k_0 : gR h14 k 0 = some n := by rw [e14]; exact gq_new (by rw [hn13]; exact (ne_k hlt 39)) g13_k_0
  have g14_k_2 : gR h14 k 2 = some (n + 32) := by rw [e14]; exact gq_new (by rw [hn13]; exact (ne_k hlt 39)) g13_k_2
  have s14_39 : h14.1[(n + 39)]? = some (3, clN 3) := by rw [e14]; exact sh_new hn13
  refine Rp.dup dX11_init_56 rfl ?_
  refine Rp.aload_n dX11_init_57 rfl rfl ?_
  refine Rp.getR dX11_init_58 fk_X11_10 rfl s14_k g14_k_0 ?_
  refine Rp.callI' [.ref n] dX11_init_61 mo_X3_init rfl rfl lk_X11_36 rfl (Nat.le_of_ble_eq_true rfl) (Nat.le_of_ble_eq_true rfl) (c_X3_init _ _ (n + 39) (n + 40) n s14_39 hn14) (fun v1 hq p1 x1 => ?_)
  obtain ⟨rfl, rfl⟩ := p1
  refine Rp.nm (fun h15 e15 => ?_)
  have s15_k : h15.1[k]? = some (11, clN 11) := by rw [e15]; exact sh_X3_init s14_k
  have s15_0 : h15.1[n]? = some (2, clN 2) := by rw [e15]; exact sh_X3_init s14_0
  have s15_16 : h15.1[(n + 16)]? = some (2, clN 2) := by rw [e15]; exact sh_X3_init s14_16
  have s15_32 : h15.1[(n + 32)]? = some (18, 2) := by rw [e15]; exact sh_X3_init s14_32
  have s15_34 : h15.1[(n + 34)]? = some (7, clN 7) := by rw [e15]; exact sh_X3_init s14_34
  have s15_39 : h15.1[(n + 39)]? = some (3, clN 3) := by rw [e15]; exact sh_X3_init s14_39
  have hn15 : aN h15 = (n + 44) := by rw [e15, aN_X3_init, hn14]
  have g15_k_0 : gR h15 k 0 = some n := by rw [e15]; exact gq_X3_init hn14 (ne_k hlt 39) (Nat.lt_of_lt_of_le hlt (Nat.le_add_right _ _)) g14_k_0
  have g15_k_2 : gR h15 k 2 = some (n + 32) := by rw [e15]; exact gq_X3_init hn14 (ne_k hlt 39) (Nat.lt_of_lt_of_le hlt (Nat.le_add_right _ _)) g14_k_2
  refine Rp.putR dX11_init_64 fk_X11_39w (fun _ => rfl) (Or.inl ⟨_, rfl⟩) s15_k ?_
  refine Rp.nm (fun h16 e16 => ?_)
  have s16_k : h16.1[k]? = some (11, clN 11) := by rw [e16]; exact s15_k
  have s16_0 : h16.1[n]? = some (2, clN 2) := by rw [e16]; exact s15_0
  have s16_16 : h16.1[(n + 16)]? = some (2, clN 2) := by rw [e16]; exact s15_16
  have s16_32 : h16.1[(n + 32)]? = some (18, 2) := by rw [e16]; exact s15_32
  have s16_34 : h16.1[(n + 34)]? = some (7, clN 7) := by rw [e16]; exact s15_34
  have s16_39 : h16.1[(n + 39)]? = some (3, clN 3) := by rw [e16]; exact s15_39
  have hn16 : aN h16 = (n + 44) := by rw [e16]; exact hn15
  have g16_k_0 : gR h16 k 0 = some n := by rw [e16]; exact gq_sRj (by decide) g15_k_0
  have g16_k_2 : gR h16 k 2 = some (n + 32) := by rw [e16]; exact gq_sRj (by decide) g15_k_2
  have g16_k_5 : gR h16 k 5 = some (n + 39) := by rw [e16]; simp [gR_sR]
  refine Rp.aload_n dX11_init_67 rfl rfl ?_
  refine Rp.newA (n + 44) hn16 dX11_init_68 cl_0 lc_X11_43 df_0 ?_
  refine Rp.nm (fun h17 e17 => ?_)
  have s17_k : h17.1[k]? = some (11, clN 11) := by rw [e17]; exact sh_old s16_k
  have s17_0 : h17.1[n]? = some (2, clN 2) := by rw [e17]; exact sh_old s16_0
  have s17_16 : h17.1[(n + 16)]? = some (2, clN 2) := by rw [e17]; exact sh_old s16_16
  have s17_32 : h17.1[(n + 32)]? = some (18, 2) := by rw [e17]; exact sh_old s16_32
  have s17_34 : h17.1[(n + 34)]? = some (7, clN 7) := by rw [e17]; exact sh_old s16_34
  have s17_39 : h17.1[(n + 39)]? = some (3, clN 3) := by rw [e17]; exact sh_old s16_39
  have hn17 : aN h17 = (n + 45) := by rw [e17, aN_new, hn16]
  have g17_k_0 : gR h17 k 0 = some n := by rw [e17]; exact gq_new (by rw [hn16]; exact (ne_k hlt 44)) g16_k_0
  have g17_k_2 : gR h17 k 2 = some (n + 32) := by rw [e17]; exact gq_new (by rw [hn16]; exact (ne_k hlt 44)) g16_k_2
  have g17_k_5 : gR h17 k 5 = some (n + 39) := by rw [e17]; exact gq_new (by rw [hn16]; exact (ne_k hlt 44)) g16_k_5
  have s17_44 : h17.1[(n + 44)]? = some (0, clN 0) := by rw [e17]; exact sh_new hn16
  refine Rp.dup dX11_init_71 rfl ?_
  refine Rp.aload_n dX11_init_72 rfl rfl ?_
  refine Rp.getR dX11_init_73 fk_X11_39 rfl s17_k g17_k_5 ?_
  refine Rp.callI' [.ref (n + 39)] dX11_init_76 mo_X0_init rfl rfl lk_X11_45 rfl (Nat.le_of_ble_eq_true rfl) (Nat.le_of_ble_eq_true rfl) (c_X0_init _ _ (n + 44) (n + 45) (n + 39) s17_44 hn17) (fun v1 hq p1 x1 => ?_)
  obtain ⟨rfl, rfl⟩ := p1
  refine Rp.nm (fun h18 e18 => ?_)
  have s18_k : h18.1[k]? = some (11, clN 11) := by rw [e18]; exact sh_X0_init s17_k
  have s18_0 : h18.1[n]? = some (2, clN 2) := by rw [e18]; exact sh_X0_init s17_0
  have s18_16 : h18.1[(n + 16)]? = some (2, clN 2) := by rw [e18]; exact sh_X0_init s17_16
  have s18_32 : h18.1[(n + 32)]? = some (18, 2) := by rw [e18]; exact sh_X0_init s17_32
  have s18_34 : h18.1[(n + 34)]? = some (7, clN 7) := by rw [e18]; exact sh_X0_init s17_34
  have s18_39 : h18.1[(n + 39)]? = some (3, clN 3) := by rw [e18]; exact sh_X0_init s17_39
  have s18_44 : h18.1[(n + 44)]? = some (0, clN 0) := by rw [e18]; exact sh_X0_init s17_44
  have hn18 : aN h18 = (n + 45) := by rw [e18, aN_X0_init, hn17]
  have g18_k_0 : gR h18 k 0 = some n := by rw [e18]; exact gq_X0_init hn17 (ne_k hlt 44) (Nat.lt_of_lt_of_le hlt (Nat.le_add_right _ _)) g17_k_0
  have g18_k_2 : gR h18 k 2 = some (n + 32) := by rw [e18]; exact gq_X0_init hn17 (ne_k hlt 44) (Nat.lt_of_lt_of_le hlt (Nat.le_add_right _ _)) g17_k_2
  have g18_k_5 : gR h18 k 5 = some (n + 39) := by rw [e18]; exact gq_X0_init hn17 (ne_k hlt 44) (Nat.lt_of_lt_of_le hlt (Nat.le_add_right _ _)) g17_k_5
  refine Rp.putR dX11_init_79 fk_X11_48w (fun _ => rfl) (Or.inl ⟨_, rfl⟩) s18_k ?_
  refine Rp.nm (fun h19 e19 => ?_)
  have s19_k : h19.1[k]? = some (11, clN 11) := by rw [e19]; exact s18_k
  have s19_0 : h19.1[n]? = some (2, clN 2) := by rw [e19]; exact s18_0
  have s19_16 : h19.1[(n + 16)]? = some (2, clN 2) := by rw [e19]; exact s18_16
  have s19_32 : h19.1[(n + 32)]? = some (18, 2) := by rw [e19]; exact s18_32
  have s19_34 : h19.1[(n + 34)]? = some (7, clN 7) := by rw [e19]; exact s18_34
  have s19_39 : h19.1[(n + 39)]? = some (3, clN 3) := by rw [e19]; exact s18_39
  have s19_44 : h19.1[(n + 44)]? = some (0, clN 0) := by rw [e19]; exact s18_44
  have hn19 : aN h19 = (n + 45) := by rw [e19]; exact hn18
  have g19_k_0 : gR h19 k 0 = some n := by rw [e19]; exact gq_sRj (by decide) g18_k_0
  have g19_k_2 : gR h19 k 2 = some (n + 32) := by rw [e19]; exact gq_sRj (by decide) g18_k_2
  have g19_k_5 : gR h19 k 5 = some (n + 39) := by rw [e19]; exact gq_sRj (by decide) g18_k_5
  have g19_k_6 : gR h19 k 6 = some (n + 44) := by rw [e19]; simp [gR_sR]
  refine Rp.aload_n dX11_init_82 rfl rfl ?_
  refine Rp.newA (n + 45) hn19 dX11_init_83 cl_1 lc_X11_52 df_1 ?_
  refine Rp.nm (fun h20 e20 => ?_)
  have s20_k : h20.1[k]? = some (11, clN 11) := by rw [e20]; exact sh_old s19_k
  have s20_0 : h20.1[n]? = some (2, clN 2) := by rw [e20]; exact sh_old s19_0
  have s20_16 : h20.1[(n + 16)]? = some (2, clN 2) := by rw [e20]; exact sh_old s19_16
  have s20_32 : h20.1[(n + 32)]? = some (18, 2) := by rw [e20]; exact sh_old s19_32
  have s20_34 : h20.1[(n + 34)]? = some (7, clN 7) := by rw [e20]; exact sh_old s19_34
  have s20_39 : h20.1[(n + 39)]? = some (3, clN 3) := by rw [e20]; exact sh_old s19_39
  have s20_44 : h20.1[(n + 44)]? = some (0, clN 0) := by rw [e20]; exact sh_old s19_44
  have hn20 : aN h20 = (n + 46) := by rw [e20, aN_new, hn19]
  have g20_k_0 : gR h20 k 0 = some n := by rw [e20]; exact gq_new (by rw [hn19]; exact (ne_k hlt 45)) g19_k_0
  have g20_k_2 : gR h20 k 2 = some (n + 32) := by rw [e20]; exact gq_new (by rw [hn19]; exact (ne_k hlt 45)) g19_k_2
  have g20_k_5 : gR h20 k 5 = some (n + 39) := by rw [e20]; exact gq_new (by rw [hn19]; exact (ne_k hlt 45)) g19_k_5
  have g20_k_6 : gR h20 k 6 = some (n + 44) := by rw [e20]; exact gq_new (by rw [hn19]; exact (ne_k hlt 45)) g19_k_6
  have s20_45 : h20.1[(n + 45)]? = some (1, clN 1) := by rw [e20]; exact sh_new hn19
  refine Rp.dup dX11_init_86 rfl ?_
  refine Rp.callIN' [] dX11_init_87 mo_X1_init rfl rfl lk_X11_54 rfl (Nat.le_of_ble_eq_true rfl) (Nat.le_of_ble_eq_true rfl) (c_X1_init _ _ (n + 45) (n + 46) s20_45 hn20) (fun v1 hq p1 x1 => ?_)
  obtain ⟨rfl, rfl⟩ := p1
  refine Rp.nm (fun h21 e21 => ?_)
  have s21_k : h21.1[k]? = some (11, clN 11) := by rw [e21]; exact sh_X1_init s20_k
  have s21_0 : h21.1[n]? = some (2, clN 2) := by rw [e21]; exact sh_X1_init s20_0
  have s21_16 : h21.1[(n + 16)]? = some (2, clN 2) := by rw [e21]; exact sh_X1_init s20_16
  have s21_32 : h21.1[(n + 32)]? = some (18, 2) := by rw [e21]; exact sh_X1_init s20_32
  have s21_34 : h21.1[(n + 34)]? = some (7, clN 7) := by rw [e21]; exact sh_X1_init s20_34
  have s21_39 : h21.1[(n + 39)]? = some (3, clN 3) := by rw [e21]; exact sh_X1_init s20_39
  have s21_44 : h21.1[(n + 44)]? = some (0, clN 0) := by rw [e21]; exact sh_X1_init s20_44
  have s21_45 : h21.1[(n + 45)]? = some (1, clN 1) := by rw [e21]; exact sh_X1_init s20_45
  have hn21 : aN h21 = (n + 51) := by rw [e21, aN_X1_init, hn20]
  have g21_k_0 : gR h21 k 0 = some n := by rw [e21]; exact gq_X1_init hn20 (ne_k hlt 45) (Nat.lt_of_lt_of_le hlt (Nat.le_add_right _ _)) g20_k_0
  have g21_k_2 : gR h21 k 2 = some (n + 32) := by rw [e21]; exact gq_X1_init hn20 (ne_k hlt 45) (Nat.lt_of_lt_of_le hlt (Nat.le_add_right _ _)) g20_k_2
  have g21_k_5 : gR h21 k 5 = some (n + 39) := by rw [e21]; exact gq_X1_init hn20 (ne_k hlt 45) (Nat.lt_of_lt_of_le hlt (Nat.le_add_right _ _)) g20_k_5
  have g21_k_6 : gR h21 k 6 = some (n + 44) := by rw [e21]; exact gq_X1_init hn20 (ne_k hlt 45) (Nat.lt_of_lt_of_le hlt (Nat.le_add_right _ _)) g20_k_6
  refine Rp.putR dX11_init_90 fk_X11_55w (fun _ => rfl) (Or.inl ⟨_, rfl⟩) s21_k ?_
  refine Rp.nm (fun h22 e22 => ?_)
  have s22_k : h22.1[k]? = some (11, clN 11) := by rw [e22]; exact s21_k
  have s22_0 : h22.1[n]? = some (2, clN 2) := by rw [e22]; exact s21_0
  have s22_16 : h22.1[(n + 16)]? = some (2, clN 2) := by rw [e22]; exact s21_16
  have s22_32 : h22.1[(n + 32)]? = some (18, 2) := by rw [e22]; exact s21_32
  have s22_34 : h22.1[(n + 34)]? = some (7, clN 7) := by rw [e22]; exact s21_34
  have s22_39 : h22.1[(n + 39)]? = some (3, clN 3) := by rw [e22]; exact s21_39
  have s22_44 : h22.1[(n + 44)]? = some (0, clN 0) := by rw [e22]; exact s21_44
  have s22_45 : h22.1[(n + 45)]? = some (1, clN 1) := by rw [e22]; exact s21_45
  have hn22 : aN h22 = (n + 51) := by rw [e22]; exact hn21
  have g22_k_0 : gR h22 k 0 = some n := by rw [e22]; exact gq_sRj (by decide) g21_k_0
  have g22_k_2 : gR h22 k 2 = some (n + 32) := by rw [e22]; exact gq_sRj (by decide) g21_k_2
  have g22_k_5 : gR h22 k 5 = some (n + 39) := by rw [e22]; exact gq_sRj (by decide) g21_k_5
  have g22_k_6 : gR h22 k 6 = some (n + 44) := by rw [e22]; exact gq_sRj (by decide) g21_k_6
  have g22_k_7 : gR h22 k 7 = some (n + 45) := by rw [e22]; simp [gR_sR]
  refine Rp.aload_n dX11_init_93 rfl rfl ?_
  refine Rp.newA (n + 51) hn22 dX11_init_94 cl_6 lc_X11_59 df_6 ?_
  refine Rp.nm (fun h23 e23 => ?_)
  have s23_k : h23.1[k]? = some (11, clN 11) := by rw [e23]; exact sh_old s22_k
  have s23_0 : h23.1[n]? = some (2, clN 2) := by rw [e23]; exact sh_old s22_0
  have s23_16 : h23.1[(n + 16)]? = some (2, clN 2) := by rw [e23]; exact sh_old s22_16
  have s23_32 : h23.1[(n + 32)]? = some (18, 2) := by rw [e23]; exact sh_old s22_32
  have s23_34 : h23.1[(n + 34)]? = some (7, clN 7) := by rw [e23]; exact sh_old s22_34
  have s23_39 : h23.1[(n + 39)]? = some (3, clN 3) := by rw [e23]; exact sh_old s22_39
  have s23_44 : h23.1[(n + 44)]? = some (0, clN 0) := by rw [e23]; exact sh_old s22_44
  have s23_45 : h23.1[(n + 45)]? = some (1, clN 1) := by rw [e23]; exact sh_old s22_45
  have hn23 : aN h23 = (n + 52) := by rw [e23, aN_new, hn22]
  have g23_k_0 : gR h23 k 0 = some n := by rw [e23]; exact gq_new (by rw [hn22]; exact (ne_k hlt 51)) g22_k_0
  have g23_k_2 : gR h23 k 2 = some (n + 32) := by rw [e23]; exact gq_new (by rw [hn22]; exact (ne_k hlt 51)) g22_k_2
  have g23_k_5 : gR h23 k 5 = some (n + 39) := by rw [e23]; exact gq_new (by rw [hn22]; exact (ne_k hlt 51)) g22_k_5
  have g23_k_6 : gR h23 k 6 = some (n + 44) := by rw [e23]; exact gq_new (by rw [hn22]; exact (ne_k hlt 51)) g22_k_6
  have g23_k_7 : gR h23 k 7 = some (n + 45) := by rw [e23]; exact gq_new (by rw [hn22]; exact (ne_k hlt 51)) g22_k_7
  have s23_51 : h23.1[(n + 51)]? = some (6, clN 6) := by rw [e23]; exact sh_new hn22
  refine Rp.dup dX11_init_97 rfl ?_
  refine Rp.aload_n dX11_init_98 rfl rfl ?_
  refine Rp.getR dX11_init_99 fk_X11_39 rfl s23_k g23_k_5 ?_
  refine Rp.aload_n dX11_init_102 rfl rfl ?_
  refine Rp.getR dX11_init_103 fk_X11_55 rfl s23_k g23_k_7 ?_
  refine Rp.callI' [.ref (n + 39), .ref (n + 45)] dX11_init_106 mo_X6_init rfl rfl lk_X11_61 rfl (Nat.le_of_ble_eq_true rfl) (Nat.le_of_ble_eq_true rfl) (c_X6_init _ _ (n + 51) (n + 52) (n + 39) (n + 45) s23_51 hn23) (fun v1 hq p1 x1 => ?_)
  obtain ⟨rfl, rfl⟩ := p1
  refine Rp.nm (fun h24 e24 => ?_)
  have s24_k : h24.1[k]? = some (11, clN 11) := by rw [e24]; exact sh_X6_init s23_k
  have s24_0 : h24.1[n]? = some (2, clN 2) := by rw [e24]; exact sh_X6_init s23_0
  have s24_16 : h24.1[(n + 16)]? = some (2, clN 2) := by rw [e24]; exact sh_X6_init s23_16
  have s24_32 : h24.1[(n + 32)]? = some (18, 2) := by rw [e24]; exact sh_X6_init s23_32
  have s24_34 : h24.1[(n + 34)]? = some (7, clN 7) := by rw [e24]; exact sh_X6_init s23_34
  have s24_39 : h24.1[(n + 39)]? = some (3, clN 3) := by rw [e24]; exact sh_X6_init s23_39
  have s24_44 : h24.1[(n + 44)]? = some (0, clN 0) := by rw [e24]; exact sh_X6_init s23_44
  have s24_45 : h24.1[(n + 45)]? = some (1, clN 1) := by rw [e24]; exact sh_X6_init s23_45
  have s24_51 : h24.1[(n + 51)]? = some (6, clN 6) := by rw [e24]; exact sh_X6_init s23_51
  have hn24 : aN h24 = (n + 57) := by rw [e24, aN_X6_init, hn23]
  have g24_k_0 : gR h24 k 0 = some n := by rw [e24]; exact gq_X6_init hn23 (ne_k hlt 51) (Nat.lt_of_lt_of_le hlt (Nat.le_add_right _ _)) g23_k_0
  have g24_k_2 : gR h24 k 2 = some (n + 32) := by rw [e24]; exact gq_X6_init hn23 (ne_k hlt 51) (Nat.lt_of_lt_of_le hlt (Nat.le_add_right _ _)) g23_k_2
  have g24_k_5 : gR h24 k 5 = some (n + 39) := by rw [e24]; exact gq_X6_init hn23 (ne_k hlt 51) (Nat.lt_of_lt_of_le hlt (Nat.le_add_right _ _)) g23_k_5
  have g24_k_6 : gR h24 k 6 = some (n + 44) := by rw [e24]; exact gq_X6_init hn23 (ne_k hlt 51) (Nat.lt_of_lt_of_le hlt (Nat.le_add_right _ _)) g23_k_6
  have g24_k_7 : gR h24 k 7 = some (n + 45) := by rw [e24]; exact gq_X6_init hn23 (ne_k hlt 51) (Nat.lt_of_lt_of_le hlt (Nat.le_add_right _ _)) g23_k_7
  refine Rp.putR dX11_init_109 fk_X11_64w (fun _ => rfl) (Or.inl ⟨_, rfl⟩) s24_k ?_
  refine Rp.nm (fun h25 e25 => ?_)
  have s25_k : h25.1[k]? = some (11, clN 11) := by rw [e25]; exact s24_k
  have s25_0 : h25.1[n]? = some (2, clN 2) := by rw [e25]; exact s24_0
  have s25_16 : h25.1[(n + 16)]? = some (2, clN 2) := by rw [e25]; exact s24_16
  have s25_32 : h25.1[(n + 32)]? = some (18, 2) := by rw [e25]; exact s24_32
  have s25_34 : h25.1[(n + 34)]? = some (7, clN 7) := by rw [e25]; exact s24_34
  have s25_39 : h25.1[(n + 39)]? = some (3, clN 3) := by rw [e25]; exact s24_39
  have s25_44 : h25.1[(n + 44)]? = some (0, clN 0) := by rw [e25]; exact s24_44
  have s25_45 : h25.1[(n + 45)]? = some (1, clN 1) := by rw [e25]; exact s24_45
  have s25_51 : h25.1[(n + 51)]? = some (6, clN 6) := by rw [e25]; exact s24_51
  have hn25 : aN h25 = (n + 57) := by rw [e25]; exact hn24
  have g25_k_0 : gR h25 k 0 = some n := by rw [e25]; exact gq_sRj (by decide) g24_k_0
  have g25_k_2 : gR h25 k 2 = some (n + 32) := by rw [e25]; exact gq_sRj (by decide) g24_k_2
  have g25_k_5 : gR h25 k 5 = some (n + 39) := by rw [e25]; exact gq_sRj (by decide) g24_k_5
  have g25_k_6 : gR h25 k 6 = some (n + 44) := by rw [e25]; exact gq_sRj (by decide) g24_k_6
  have g25_k_7 : gR h25 k 7 = some (n + 45) := by rw [e25]; exact gq_sRj (by decide) g24_k_7
  refine Rp.aload_n dX11_init_112 rfl rfl ?_
  refine Rp.newA (n + 57) hn25 dX11_init_113 cl_10 lc_X11_68 df_10 ?_
  refine Rp.nm (fun h26 e26 => ?_)
  have s26_k : h26.1[k]? = some (11, clN 11) := by rw [e26]; exact sh_old s25_k
  have s26_0 : h26.1[n]? = some (2, clN 2) := by rw [e26]; exact sh_old s25_0
  have s26_16 : h26.1[(n + 16)]? = some (2, clN 2) := by rw [e26]; exact sh_old s25_16
  have s26_32 : h26.1[(n + 32)]? = some (18, 2) := by rw [e26]; exact sh_old s25_32
  have s26_34 : h26.1[(n + 34)]? = some (7, clN 7) := by rw [e26]; exact sh_old s25_34
  have s26_39 : h26.1[(n + 39)]? = some (3, clN 3) := by rw [e26]; exact sh_old s25_39
  have s26_44 : h26.1[(n + 44)]? = some (0, clN 0) := by rw [e26]; exact sh_old s25_44
  have s26_45 : h26.1[(n + 45)]? = some (1, clN 1) := by rw [e26]; exact sh_old s25_45
  have s26_51 : h26.1[(n + 51)]? = some (6, clN 6) := by rw [e26]; exact sh_old s25_51
  have hn26 : aN h26 = (n + 58) := by rw [e26, aN_new, hn25]
  have g26_k_0 : gR h26 k 0 = some n := by rw [e26]; exact gq_new (by rw [hn25]; exact (ne_k hlt 57)) g25_k_0
  have g26_k_2 : gR h26 k 2 = some (n + 32) := by rw [e26]; exact gq_new (by rw [hn25]; exact (ne_k hlt 57)) g25_k_2
  have g26_k_5 : gR h26 k 5 = some (n + 39) := by rw [e26]; exact gq_new (by rw [hn25]; exact (ne_k hlt 57)) g25_k_5
  have g26_k_6 : gR h26 k 6 = some (n + 44) := by rw [e26]; exact gq_new (by rw [hn25]; exact (ne_k hlt 57)) g25_k_6
  have g26_k_7 : gR h26 k 7 = some (n + 45) := by rw [e26]; exact gq_new (by rw [hn25]; exact (ne_k hlt 57)) g25_k_7
  have s26_57 : h26.1[(n + 57)]? = some (10, clN 10) := by rw [e26]; exact sh_new hn25
  refine Rp.dup dX11_init_116 rfl ?_
  refine Rp.callIN' [] dX11_init_117 mo_X10_init rfl rfl lk_X11_70 rfl (Nat.le_of_ble_eq_true rfl) (Nat.le_of_ble_eq_true rfl) (c_X10_init _ _ (n + 57) (n + 58) s26_57 hn26) (fun v1 hq p1 x1 => ?_)
  obtain ⟨rfl, rfl⟩ := p1
  refine Rp.nm (fun h27 e27 => ?_)
  have s27_k : h27.1[k]? = some (11, clN 11) := by rw [e27]; exact sh_X10_init s26_k
  have s27_0 : h27.1[n]? = some (2, clN 2) := by rw [e27]; exact sh_X10_init s26_0
  have s27_16 : h27.1[(n + 16)]? = some (2, clN 2) := by rw [e27]; exact sh_X10_init s26_16
  have s27_32 : h27.1[(n + 32)]? = some (18, 2) := by rw [e27]; exact sh_X10_init s26_32
  have s27_34 : h27.1[(n + 34)]? = some (7, clN 7) := by rw [e27]; exact sh_X10_init s26_34
  have s27_39 : h27.1[(n + 39)]? = some (3, clN 3) := by rw [e27]; exact sh_X10_init s26_39
  have s27_44 : h27.1[(n + 44)]? = some (0, clN 0) := by rw [e27]; exact sh_X10_init s26_44
  have s27_45 : h27.1[(n + 45)]? = some (1, clN 1) := by rw [e27]; exact sh_X10_init s26_45
  have s27_51 : h27.1[(n + 51)]? = some (6, clN 6) := by rw [e27]; exact sh_X10_init s26_51
  have s27_57 : h27.1[(n + 57)]? = some (10, clN 10) := by rw [e27]; exact sh_X10_init s26_57
  have hn27 : aN h27 = (n + 62) := by rw [e27, aN_X10_init, hn26]
  have g27_k_0 : gR h27 k 0 = some n := by rw [e27]; exact gq_X10_init hn26 (ne_k hlt 57) (Nat.lt_of_lt_of_le hlt (Nat.le_add_right _ _)) g26_k_0
  have g27_k_2 : gR h27 k 2 = some (n + 32) := by rw [e27]; exact gq_X10_init hn26 (ne_k hlt 57) (Nat.lt_of_lt_of_le hlt (Nat.le_add_right _ _)) g26_k_2
  have g27_k_5 : gR h27 k 5 = some (n + 39) := by rw [e27]; exact gq_X10_init hn26 (ne_k hlt 57) (Nat.lt_of_lt_of_le hlt (Nat.le_add_right _ _)) g26_k_5
  have g27_k_6 : gR h27 k 6 = some (n + 44) := by rw [e27]; exact gq_X10_init hn26 (ne_k hlt 57) (Nat.lt_of_lt_of_le hlt (Nat.le_add_right _ _)) g26_k_6
  have g27_k_7 : gR h27 k 7 = some (n + 45) := by rw [e27]; exact gq_X10_init hn26 (ne_k hlt 57) (Nat.lt_of_lt_of_le hlt (Nat.le_add_right _ _)) g26_k_7
  refine Rp.putR dX11_init_120 fk_X11_71w (fun _ => rfl) (Or.inl ⟨_, rfl⟩) s27_k ?_
  refine Rp.nm (fun h28 e28 => ?_)
  have s28_k : h28.1[k]? = some (11, clN 11) := by rw [e28]; exact s27_k
  have s28_0 : h28.1[n]? = some (2, clN 2) := by rw [e28]; exact s27_0
  have s28_16 : h28.1[(n + 16)]? = some (2, clN 2) := by rw [e28]; exact s27_16
  have s28_32 : h28.1[(n + 32)]? = some (18, 2) := by rw [e28]; exact s27_32
  have s28_34 : h28.1[(n + 34)]? = some (7, clN 7) := by rw [e28]; exact s27_34
  have s28_39 : h28.1[(n + 39)]? = some (3, clN 3) := by rw [e28]; exact s27_39
  have s28_44 : h28.1[(n + 44)]? = some (0, clN 0) := by rw [e28]; exact s27_44
  have s28_45 : h28.1[(n + 45)]? = some (1, clN 1) := by rw [e28]; exact s27_45
  have s28_51 : h28.1[(n + 51)]? = some (6, clN 6) := by rw [e28]; exact s27_51
  have s28_57 : h28.1[(n + 57)]? = some (10, clN 10) := by rw [e28]; exact s27_57
  have hn28 : aN h28 = (n + 62) := by rw [e28]; exact hn27
  have g28_k_0 : gR h28 k 0 = some n := by rw [e28]; exact gq_sRj (by decide) g27_k_0
  have g28_k_2 : gR h28 k 2 = some (n + 32) := by rw [e28]; exact gq_sRj (by decide) g27_k_2
  have g28_k_5 : gR h28 k 5 = some (n + 39) := by rw [e28]; exact gq_sRj (by decide) g27_k_5
  have g28_k_6 : gR h28 k 6 = some (n + 44) := by rw [e28]; exact gq_sRj (by decide) g27_k_6
  have g28_k_7 : gR h28 k 7 = some (n + 45) := by rw [e28]; exact gq_sRj (by decide) g27_k_7
  refine Rp.aload_n dX11_init_123 rfl rfl ?_
  refine Rp.newA (n + 62) hn28 dX11_init_124 cl_8 lc_X11_75 df_8 ?_
  refine Rp.nm (fun h29 e29 => ?_)
  have s29_k : h29.1[k]? = some (11, clN 11) := by rw [e29]; exact sh_old s28_k
  have s29_0 : h29.1[n]? = some (2, clN 2) := by rw [e29]; exact sh_old s28_0
  have s29_16 : h29.1[(n + 16)]? = some (2, clN 2) := by rw [e29]; exact sh_old s28_16
  have s29_32 : h29.1[(n + 32)]? = some (18, 2) := by rw [e29]; exact sh_old s28_32
  have s29_34 : h29.1[(n + 34)]? = some (7, clN 7) := by rw [e29]; exact sh_old s28_34
  have s29_39 : h29.1[(n + 39)]? = some (3, clN 3) := by rw [e29]; exact sh_old s28_39
  have s29_44 : h29.1[(n + 44)]? = some (0, clN 0) := by rw [e29]; exact sh_old s28_44
  have s29_45 : h29.1[(n + 45)]? = some (1, clN 1) := by rw [e29]; exact sh_old s28_45
  have s29_51 : h29.1[(n + 51)]? = some (6, clN 6) := by rw [e29]; exact sh_old s28_51
  have s29_57 : h29.1[(n + 57)]? = some (10, clN 10) := by rw [e29]; exact sh_old s28_57
  have hn29 : aN h29 = (n + 63) := by rw [e29, aN_new, hn28]
  have g29_k_0 : gR h29 k 0 = some n := by rw [e29]; exact gq_new (by rw [hn28]; exact (ne_k hlt 62)) g28_k_0
  have g29_k_2 : gR h29 k 2 = some (n + 32) := by rw [e29]; exact gq_new (by rw [hn28]; exact (ne_k hlt 62)) g28_k_2
  have g29_k_5 : gR h29 k 5 = some (n + 39) := by rw [e29]; exact gq_new (by rw [hn28]; exact (ne_k hlt 62)) g28_k_5
  have g29_k_6 : gR h29 k 6 = some (n + 44) := by rw [e29]; exact gq_new (by rw [hn28]; exact (ne_k hlt 62)) g28_k_6
  have g29_k_7 : gR h29 k 7 = some (n + 45) := by rw [e29]; exact gq_new (by rw [hn28]; exact (ne_k hlt 62)) g28_k_7
  have s29_62 : h29.1[(n + 62)]? = some (8, clN 8) := by rw [e29]; exact sh_new hn28
  refine Rp.dup dX11_init_127 rfl ?_
  refine Rp.aload_n dX11_init_128 rfl rfl ?_
  refine Rp.getR dX11_init_129 fk_X11_39 rfl s29_k g29_k_5 ?_
  refine Rp.aload_n dX11_init_132 rfl rfl ?_
  refine Rp.getR dX11_init_133 fk_X11_48 rfl s29_k g29_k_6 ?_
  refine Rp.callI' [.ref (n + 39), .ref (n + 44)] dX11_init_136 mo_X8_init rfl rfl lk_X11_77 rfl (Nat.le_of_ble_eq_true rfl) (Nat.le_of_ble_eq_true rfl) (c_X8_init _ _ (n + 62) (n + 63) (n + 39) (n + 44) s29_62 hn29) (fun v1 hq p1 x1 => ?_)
  obtain ⟨rfl, rfl⟩ := p1
  refine Rp.nm (fun h30 e30 => ?_)
  have s30_k : h30.1[k]? = some (11, clN 11) := by rw [e30]; exact sh_X8_init s29_k
  have s30_0 : h30.1[n]? = some (2, clN 2) := by rw [e30]; exact sh_X8_init s29_0
  have s30_16 : h30.1[(n + 16)]? = some (2, clN 2) := by rw [e30]; exact sh_X8_init s29_16
  have s30_32 : h30.1[(n + 32)]? = some (18, 2) := by rw [e30]; exact sh_X8_init s29_32
  have s30_34 : h30.1[(n + 34)]? = some (7, clN 7) := by rw [e30]; exact sh_X8_init s29_34
  have s30_39 : h30.1[(n + 39)]? = some (3, clN 3) := by rw [e30]; exact sh_X8_init s29_39
  have s30_44 : h30.1[(n + 44)]? = some (0, clN 0) := by rw [e30]; exact sh_X8_init s29_44
  have s30_45 : h30.1[(n + 45)]? = some (1, clN 1) := by rw [e30]; exact sh_X8_init s29_45
  have s30_51 : h30.1[(n + 51)]? = some (6, clN 6) := by rw [e30]; exact sh_X8_init s29_51
  have s30_57 : h30.1[(n + 57)]? = some (10, clN 10) := by rw [e30]; exact sh_X8_init s29_57
  have s30_62 : h30.1[(n + 62)]? = some (8, clN 8) := by rw [e30]; exact sh_X8_init s29_62
  have hn30 : aN h30 = (n + 64) := by rw [e30, aN_X8_init, hn29]
  have g30_k_0 : gR h30 k 0 = some n := by rw [e30]; exact gq_X8_init hn29 (ne_k hlt 62) (Nat.lt_of_lt_of_le hlt (Nat.le_add_right _ _)) g29_k_0
  have g30_k_2 : gR h30 k 2 = some (n + 32) := by rw [e30]; exact gq_X8_init hn29 (ne_k hlt 62) (Nat.lt_of_lt_of_le hlt (Nat.le_add_right _ _)) g29_k_2
  have g30_k_5 : gR h30 k 5 = some (n + 39) := by rw [e30]; exact gq_X8_init hn29 (ne_k hlt 62) (Nat.lt_of_lt_of_le hlt (Nat.le_add_right _ _)) g29_k_5
  have g30_k_6 : gR h30 k 6 = some (n + 44) := by rw [e30]; exact gq_X8_init hn29 (ne_k hlt 62) (Nat.lt_of_lt_of_le hlt (Nat.le_add_right _ _)) g29_k_6
  have g30_k_7 : gR h30 k 7 = some (n + 45) := by rw [e30]; exact gq_X8_init hn29 (ne_k hlt 62) (Nat.lt_of_lt_of_le hlt (Nat.le_add_right _ _)) g29_k_7
  refine Rp.putR dX11_init_139 fk_X11_80w (fun _ => rfl) (Or.inl ⟨_, rfl⟩) s30_k ?_
  refine Rp.nm (fun h31 e31 => ?_)
  have s31_k : h31.1[k]? = some (11, clN 11) := by rw [e31]; exact s30_k
  have s31_0 : h31.1[n]? = some (2, clN 2) := by rw [e31]; exact s30_0
  have s31_16 : h31.1[(n + 16)]? = some (2, clN 2) := by rw [e31]; exact s30_16
  have s31_32 : h31.1[(n + 32)]? = some (18, 2) := by rw [e31]; exact s30_32
  have s31_34 : h31.1[(n + 34)]? = some (7, clN 7) := by rw [e31]; exact s30_34
  have s31_39 : h31.1[(n + 39)]? = some (3, clN 3) := by rw [e31]; exact s30_39
  have s31_44 : h31.1[(n + 44)]? = some (0, clN 0) := by rw [e31]; exact s30_44
  have s31_45 : h31.1[(n + 45)]? = some (1, clN 1) := by rw [e31]; exact s30_45
  have s31_51 : h31.1[(n + 51)]? = some (6, clN 6) := by rw [e31]; exact s30_51
  have s31_57 : h31.1[(n + 57)]? = some (10, clN 10) := by rw [e31]; exact s30_57
  have s31_62 : h31.1[(n + 62)]? = some (8, clN 8) := by rw [e31]; exact s30_62
  have hn31 : aN h31 = (n + 64) := by rw [e31]; exact hn30
  have g31_k_0 : gR h31 k 0 = some n := by rw [e31]; exact gq_sRj (by decide) g30_k_0
  have g31_k_2 : gR h31 k 2 = some (n + 32) := by rw [e31]; exact gq_sRj (by decide) g30_k_2
  have g31_k_5 : gR h31 k 5 = some (n + 39) := by rw [e31]; exact gq_sRj (by decide) g30_k_5
  have g31_k_6 : gR h31 k 6 = some (n + 44) := by rw [e31]; exact gq_sRj (by decide) g30_k_6
  have g31_k_7 : gR h31 k 7 = some (n + 45) := by rw [e31]; exact gq_sRj (by decide) g30_k_7
  refine Rp.aload_n dX11_init_142 rfl rfl ?_
  refine Rp.iconst (nI 5) dX11_init_143 (by decide) ?_
  refine Rp.newaA (n + 64) 0 5 hn31 dX11_init_144 ⟨rfl, by decide, ac_0⟩ (by decide) ?_
  refine Rp.nm (fun h32 e32 => ?_)
  have s32_k : h32.1[k]? = some (11, clN 11) := by rw [e32]; exact sh_old s31_k
  have s32_0 : h32.1[n]? = some (2, clN 2) := by rw [e32]; exact sh_old s31_0
  have s32_16 : h32.1[(n + 16)]? = some (2, clN 2) := by rw [e32]; exact sh_old s31_16
  have s32_32 : h32.1[(n + 32)]? = some (18, 2) := by rw [e32]; exact sh_old s31_32
  have s32_34 : h32.1[(n + 34)]? = some (7, clN 7) := by rw [e32]; exact sh_old s31_34
  have s32_39 : h32.1[(n + 39)]? = some (3, clN 3) := by rw [e32]; exact sh_old s31_39
  have s32_44 : h32.1[(n + 44)]? = some (0, clN 0) := by rw [e32]; exact sh_old s31_44
  have s32_45 : h32.1[(n + 45)]? = some (1, clN 1) := by rw [e32]; exact sh_old s31_45
  have s32_51 : h32.1[(n + 51)]? = some (6, clN 6) := by rw [e32]; exact sh_old s31_51
  have s32_57 : h32.1[(n + 57)]? = some (10, clN 10) := by rw [e32]; exact sh_old s31_57
  have s32_62 : h32.1[(n + 62)]? = some (8, clN 8) := by rw [e32]; exact sh_old s31_62
  have hn32 : aN h32 = (n + 65) := by rw [e32, aN_new, hn31]
  have g32_k_0 : gR h32 k 0 = some n := by rw [e32]; exact gq_new (by rw [hn31]; exact (ne_k hlt 64)) g31_k_0
  have g32_k_2 : gR h32 k 2 = some (n + 32) := by rw [e32]; exact gq_new (by rw [hn31]; exact (ne_k hlt 64)) g31_k_2
  have g32_k_5 : gR h32 k 5 = some (n + 39) := by rw [e32]; exact gq_new (by rw [hn31]; exact (ne_k hlt 64)) g31_k_5
  have g32_k_6 : gR h32 k 6 = some (n + 44) := by rw [e32]; exact gq_new (by rw [hn31]; exact (ne_k hlt 64)) g31_k_6
  have g32_k_7 : gR h32 k 7 = some (n + 45) := by rw [e32]; exact gq_new (by rw [hn31]; exact (ne_k hlt 64)) g31_k_7
  refine Rp.putR dX11_init_146 fk_X11_84w (fun _ => rfl) (Or.inr ⟨_, rfl⟩) s32_k ?_
  refine Rp.nm (fun h33 e33 => ?_)
  have s33_k : h33.1[k]? = some (11, clN 11) := by rw [e33]; exact s32_k
  have s33_0 : h33.1[n]? = some (2, clN 2) := by rw [e33]; exact s32_0
  have s33_16 : h33.1[(n + 16)]? = some (2, clN 2) := by rw [e33]; exact s32_16
  have s33_32 : h33.1[(n + 32)]? = some (18, 2) := by rw [e33]; exact s32_32
  have s33_34 : h33.1[(n + 34)]? = some (7, clN 7) := by rw [e33]; exact s32_34
  have s33_39 : h33.1[(n + 39)]? = some (3, clN 3) := by rw [e33]; exact s32_39
  have s33_44 : h33.1[(n + 44)]? = some (0, clN 0) := by rw [e33]; exact s32_44
  have s33_45 : h33.1[(n + 45)]? = some (1, clN 1) := by rw [e33]; exact s32_45
  have s33_51 : h33.1[(n + 51)]? = some (6, clN 6) := by rw [e33]; exact s32_51
  have s33_57 : h33.1[(n + 57)]? = some (10, clN 10) := by rw [e33]; exact s32_57
  have s33_62 : h33.1[(n + 62)]? = some (8, clN 8) := by rw [e33]; exact s32_62
  have hn33 : aN h33 = (n + 65) := by rw [e33]; exact hn32
  have g33_k_0 : gR h33 k 0 = some n := by rw [e33]; exact gq_sRj (by decide) g32_k_0
  have g33_k_2 : gR h33 k 2 = some (n + 32) := by rw [e33]; exact gq_sRj (by decide) g32_k_2
  have g33_k_5 : gR h33 k 5 = some (n + 39) := by rw [e33]; exact gq_sRj (by decide) g32_k_5
  have g33_k_6 : gR h33 k 6 = some (n + 44) := by rw [e33]; exact gq_sRj (by decide) g32_k_6
  have g33_k_7 : gR h33 k 7 = some (n + 45) := by rw [e33]; exact gq_sRj (by decide) g32_k_7
  refine Rp.aload_n dX11_init_149 rfl rfl ?_
  refine Rp.bipush (nI 6) dX11_init_150 (by decide) ?_
  refine Rp.newaA (n + 65) 0 6 hn33 dX11_init_152 ⟨rfl, by decide, ac_0⟩ (by decide) ?_
  refine Rp.nm (fun h34 e34 => ?_)
  have s34_k : h34.1[k]? = some (11, clN 11) := by rw [e34]; exact sh_old s33_k
  have s34_0 : h34.1[n]? = some (2, clN 2) := by rw [e34]; exact sh_old s33_0
  have s34_16 : h34.1[(n + 16)]? = some (2, clN 2) := by rw [e34]; exact sh_old s33_16
  have s34_32 : h34.1[(n + 32)]? = some (18, 2) := by rw [e34]; exact sh_old s33_32
  have s34_34 : h34.1[(n + 34)]? = some (7, clN 7) := by rw [e34]; exact sh_old s33_34
  have s34_39 : h34.1[(n + 39)]? = some (3, clN 3) := by rw [e34]; exact sh_old s33_39
  have s34_44 : h34.1[(n + 44)]? = some (0, clN 0) := by rw [e34]; exact sh_old s33_44
  have s34_45 : h34.1[(n + 45)]? = some (1, clN 1) := by rw [e34]; exact sh_old s33_45
  have s34_51 : h34.1[(n + 51)]? = some (6, clN 6) := by rw [e34]; exact sh_old s33_51
  have s34_57 : h34.1[(n + 57)]? = some (10, clN 10) := by rw [e34]; exact sh_old s33_57
  have s34_62 : h34.1[(n + 62)]? = some (8, clN 8) := by rw [e34]; exact sh_old s33_62
  have hn34 : aN h34 = (n + 66) := by rw [e34, aN_new, hn33]
  have g34_k_0 : gR h34 k 0 = some n := by rw [e34]; exact gq_new (by rw [hn33]; exact (ne_k hlt 65)) g33_k_0
  have g34_k_2 : gR h34 k 2 = some (n + 32) := by rw [e34]; exact gq_new (by rw [hn33]; exact (ne_k hlt 65)) g33_k_2
  have g34_k_5 : gR h34 k 5 = some (n + 39) := by rw [e34]; exact gq_new (by rw [hn33]; exact (ne_k hlt 65)) g33_k_5
  have g34_k_6 : gR h34 k 6 = some (n + 44) := by rw [e34]; exact gq_new (by rw [hn33]; exact (ne_k hlt 65)) g33_k_6
  have g34_k_7 : gR h34 k 7 = some (n + 45) := by rw [e34]; exact gq_new (by rw [hn33]; exact (ne_k hlt 65)) g33_k_7
  have s34_65 : h34.1[(n + 65)]? = some (13, 6) := by rw [e34]; exact sh_new hn33
  refine Rp.putR dX11_init_154 fk_X11_88w (fun _ => rfl) (Or.inr ⟨_, rfl⟩) s34_k ?_
  refine Rp.nm (fun h35 e35 => ?_)
  have s35_k : h35.1[k]? = some (11, clN 11) := by rw [e35]; exact s34_k
  have s35_0 : h35.1[n]? = some (2, clN 2) := by rw [e35]; exact s34_0
  have s35_16 : h35.1[(n + 16)]? = some (2, clN 2) := by rw [e35]; exact s34_16
  have s35_32 : h35.1[(n + 32)]? = some (18, 2) := by rw [e35]; exact s34_32
  have s35_34 : h35.1[(n + 34)]? = some (7, clN 7) := by rw [e35]; exact s34_34
  have s35_39 : h35.1[(n + 39)]? = some (3, clN 3) := by rw [e35]; exact s34_39
  have s35_44 : h35.1[(n + 44)]? = some (0, clN 0) := by rw [e35]; exact s34_44
  have s35_45 : h35.1[(n + 45)]? = some (1, clN 1) := by rw [e35]; exact s34_45
  have s35_51 : h35.1[(n + 51)]? = some (6, clN 6) := by rw [e35]; exact s34_51
  have s35_57 : h35.1[(n + 57)]? = some (10, clN 10) := by rw [e35]; exact s34_57
  have s35_62 : h35.1[(n + 62)]? = some (8, clN 8) := by rw [e35]; exact s34_62
  have s35_65 : h35.1[(n + 65)]? = some (13, 6) := by rw [e35]; exact s34_65
  have hn35 : aN h35 = (n + 66) := by rw [e35]; exact hn34
  have g35_k_0 : gR h35 k 0 = some n := by rw [e35]; exact gq_sRj (by decide) g34_k_0
  have g35_k_2 : gR h35 k 2 = some (n + 32) := by rw [e35]; exact gq_sRj (by decide) g34_k_2
  have g35_k_5 : gR h35 k 5 = some (n + 39) := by rw [e35]; exact gq_sRj (by decide) g34_k_5
  have g35_k_6 : gR h35 k 6 = some (n + 44) := by rw [e35]; exact gq_sRj (by decide) g34_k_6
  have g35_k_7 : gR h35 k 7 = some (n + 45) := by rw [e35]; exact gq_sRj (by decide) g34_k_7
  have g35_k_12 : gR h35 k 12 = some (n + 65) := by rw [e35]; simp [gR_sR]
  refine Rp.aload_n dX11_init_157 rfl rfl ?_
  refine Rp.bipush (nI 20) dX11_init_158 (by decide) ?_
  refine Rp.newaA (n + 66) 3 20 hn35 dX11_init_160 ⟨rfl, by decide, ac_3⟩ (by decide) ?_
  refine Rp.nm (fun h36 e36 => ?_)
  have s36_k : h36.1[k]? = some (11, clN 11) := by rw [e36]; exact sh_old s35_k
  have s36_0 : h36.1[n]? = some (2, clN 2) := by rw [e36]; exact sh_old s35_0
  have s36_16 : h36.1[(n + 16)]? = some (2, clN 2) := by rw [e36]; exact sh_old s35_16
  have s36_32 : h36.1[(n + 32)]? = some (18, 2) := by rw [e36]; exact sh_old s35_32
  have s36_34 : h36.1[(n + 34)]? = some (7, clN 7) := by rw [e36]; exact sh_old s35_34
  have s36_39 : h36.1[(n + 39)]? = some (3, clN 3) := by rw [e36]; exact sh_old s35_39
  have s36_44 : h36.1[(n + 44)]? = some (0, clN 0) := by rw [e36]; exact sh_old s35_44
  have s36_45 : h36.1[(n + 45)]? = some (1, clN 1) := by rw [e36]; exact sh_old s35_45
  have s36_51 : h36.1[(n + 51)]? = some (6, clN 6) := by rw [e36]; exact sh_old s35_51
  have s36_57 : h36.1[(n + 57)]? = some (10, clN 10) := by rw [e36]; exact sh_old s35_57
  have s36_62 : h36.1[(n + 62)]? = some (8, clN 8) := by rw [e36]; exact sh_old s35_62
  have s36_65 : h36.1[(n + 65)]? = some (13, 6) := by rw [e36]; exact sh_old s35_65
  have hn36 : aN h36 = (n + 67) := by rw [e36, aN_new, hn35]
  have g36_k_0 : gR h36 k 0 = some n := by rw [e36]; exact gq_new (by rw [hn35]; exact (ne_k hlt 66)) g35_k_0
  have g36_k_2 : gR h36 k 2 = some (n + 32) := by rw [e36]; exact gq_new (by rw [hn35]; exact (ne_k hlt 66)) g35_k_2
  have g36_k_5 : gR h36 k 5 = some (n + 39) := by rw [e36]; exact gq_new (by rw [hn35]; exact (ne_k hlt 66)) g35_k_5
  have g36_k_6 : gR h36 k 6 = some (n + 44) := by rw [e36]; exact gq_new (by rw [hn35]; exact (ne_k hlt 66)) g35_k_6
  have g36_k_7 : gR h36 k 7 = some (n + 45) := by rw [e36]; exact gq_new (by rw [hn35]; exact (ne_k hlt 66)) g35_k_7
  have g36_k_12 : gR h36 k 12 = some (n + 65) := by rw [e36]; exact gq_new (by rw [hn35]; exact (ne_k hlt 66)) g35_k_12
  refine Rp.putR dX11_init_162 fk_X11_91w (fun _ => rfl) (Or.inr ⟨_, rfl⟩) s36_k ?_
  refine Rp.nm (fun h37 e37 => ?_)
  have s37_k : h37.1[k]? = some (11, clN 11) := by rw [e37]; exact s36_k
  have s37_0 : h37.1[n]? = some (2, clN 2) := by rw [e37]; exact s36_0
  have s37_16 : h37.1[(n + 16)]? = some (2, clN 2) := by rw [e37]; exact s36_16
  have s37_32 : h37.1[(n + 32)]? = some (18, 2) := by rw [e37]; exact s36_32
  have s37_34 : h37.1[(n + 34)]? = some (7, clN 7) := by rw [e37]; exact s36_34
  have s37_39 : h37.1[(n + 39)]? = some (3, clN 3) := by rw [e37]; exact s36_39
  have s37_44 : h37.1[(n + 44)]? = some (0, clN 0) := by rw [e37]; exact s36_44
  have s37_45 : h37.1[(n + 45)]? = some (1, clN 1) := by rw [e37]; exact s36_45
  have s37_51 : h37.1[(n + 51)]? = some (6, clN 6) := by rw [e37]; exact s36_51
  have s37_57 : h37.1[(n + 57)]? = some (10, clN 10) := by rw [e37]; exact s36_57
  have s37_62 : h37.1[(n + 62)]? = some (8, clN 8) := by rw [e37]; exact s36_62
  have s37_65 : h37.1[(n + 65)]? = some (13, 6) := by rw [e37]; exact s36_65
  have hn37 : aN h37 = (n + 67) := by rw [e37]; exact hn36
  have g37_k_0 : gR h37 k 0 = some n := by rw [e37]; exact gq_sRj (by decide) g36_k_0
  have g37_k_2 : gR h37 k 2 = some (n + 32) := by rw [e37]; exact gq_sRj (by decide) g36_k_2
  have g37_k_5 : gR h37 k 5 = some (n + 39) := by rw [e37]; exact gq_sRj (by decide) g36_k_5
  have g37_k_6 : gR h37 k 6 = some (n + 44) := by rw [e37]; exact gq_sRj (by decide) g36_k_6
  have g37_k_7 : gR h37 k 7 = some (n + 45) := by rw [e37]; exact gq_sRj (by decide) g36_k_7
  have g37_k_12 : gR h37 k 12 = some (n + 65) := by rw [e37]; exact gq_sRj (by decide) g36_k_12
  refine Rp.aload_n dX11_init_165 rfl rfl ?_
  refine Rp.iconst (-1) dX11_init_166 (by decide) ?_
  refine Rp.putI dX11_init_167 fk_X11_95w rfl s37_k ?_
  refine Rp.nm (fun h38 e38 => ?_)
  have s38_k : h38.1[k]? = some (11, clN 11) := by rw [e38]; exact s37_k
  have s38_0 : h38.1[n]? = some (2, clN 2) := by rw [e38]; exact s37_0
  have s38_16 : h38.1[(n + 16)]? = some (2, clN 2) := by rw [e38]; exact s37_16
  have s38_32 : h38.1[(n + 32)]? = some (18, 2) := by rw [e38]; exact s37_32
  have s38_34 : h38.1[(n + 34)]? = some (7, clN 7) := by rw [e38]; exact s37_34
  have s38_39 : h38.1[(n + 39)]? = some (3, clN 3) := by rw [e38]; exact s37_39
  have s38_44 : h38.1[(n + 44)]? = some (0, clN 0) := by rw [e38]; exact s37_44
  have s38_45 : h38.1[(n + 45)]? = some (1, clN 1) := by rw [e38]; exact s37_45
  have s38_51 : h38.1[(n + 51)]? = some (6, clN 6) := by rw [e38]; exact s37_51
  have s38_57 : h38.1[(n + 57)]? = some (10, clN 10) := by rw [e38]; exact s37_57
  have s38_62 : h38.1[(n + 62)]? = some (8, clN 8) := by rw [e38]; exact s37_62
  have s38_65 : h38.1[(n + 65)]? = some (13, 6) := by rw [e38]; exact s37_65
  have hn38 : aN h38 = (n + 67) := by rw [e38]; exact hn37
  have g38_k_0 : gR h38 k 0 = some n := by rw [e38]; exact g37_k_0
  have g38_k_2 : gR h38 k 2 = some (n + 32) := by rw [e38]; exact g37_k_2
  have g38_k_5 : gR h38 k 5 = some (n + 39) := by rw [e38]; exact g37_k_5
  have g38_k_6 : gR h38 k 6 = some (n + 44) := by rw [e38]; exact g37_k_6
  have g38_k_7 : gR h38 k 7 = some (n + 45) := by rw [e38]; exact g37_k_7
  have g38_k_12 : gR h38 k 12 = some (n + 65) := by rw [e38]; exact g37_k_12
  refine Rp.aload_n dX11_init_170 rfl rfl ?_
  refine Rp.getR dX11_init_171 fk_X11_19 rfl s38_k g38_k_2 ?_
  refine Rp.iconst (nI 0) dX11_init_174 (by decide) ?_
  refine Rp.newA (n + 67) hn38 dX11_init_175 cl_2 lc_X11_7 df_2 ?_
  refine Rp.nm (fun h39 e39 => ?_)
  have s39_k : h39.1[k]? = some (11, clN 11) := by rw [e39]; exact sh_old s38_k
  have s39_0 : h39.1[n]? = some (2, clN 2) := by rw [e39]; exact sh_old s38_0
  have s39_16 : h39.1[(n + 16)]? = some (2, clN 2) := by rw [e39]; exact sh_old s38_16
  have s39_32 : h39.1[(n + 32)]? = some (18, 2) := by rw [e39]; exact sh_old s38_32
  have s39_34 : h39.1[(n + 34)]? = some (7, clN 7) := by rw [e39]; exact sh_old s38_34
  have s39_39 : h39.1[(n + 39)]? = some (3, clN 3) := by rw [e39]; exact sh_old s38_39
  have s39_44 : h39.1[(n + 44)]? = some (0, clN 0) := by rw [e39]; exact sh_old s38_44
  have s39_45 : h39.1[(n + 45)]? = some (1, clN 1) := by rw [e39]; exact sh_old s38_45
  have s39_51 : h39.1[(n + 51)]? = some (6, clN 6) := by rw [e39]; exact sh_old s38_51
  have s39_57 : h39.1[(n + 57)]? = some (10, clN 10) := by rw [e39]; exact sh_old s38_57
  have s39_62 : h39.1[(n + 62)]? = some (8, clN 8) := by rw [e39]; exact sh_old s38_62
  have s39_65 : h39.1[(n + 65)]? = some (13, 6) := by rw [e39]; exact sh_old s38_65
  have hn39 : aN h39 = (n + 68) := by rw [e39, aN_new, hn38]
  have g39_k_0 : gR h39 k 0 = some n := by rw [e39]; exact gq_new (by rw [hn38]; exact (ne_k hlt 67)) g38_k_0
  have g39_k_2 : gR h39 k 2 = some (n + 32) := by rw [e39]; exact gq_new (by rw [hn38]; exact (ne_k hlt 67)) g38_k_2
  have g39_k_5 : gR h39 k 5 = some (n + 39) := by rw [e39]; exact gq_new (by rw [hn38]; exact (ne_k hlt 67)) g38_k_5
  have g39_k_6 : gR h39 k 6 = some (n + 44) := by rw [e39]; exact gq_new (by rw [hn38]; exact (ne_k hlt 67)) g38_k_6
  have g39_k_7 : gR h39 k 7 = some (n + 45) := by rw [e39]; exact gq_new (by rw [hn38]; exact (ne_k hlt 67)) g38_k_7
  have g39_k_12 : gR h39 k 12 = some (n + 65) := by rw [e39]; exact gq_new (by rw [hn38]; exact (ne_k hlt 67)) g38_k_12
  have s39_67 : h39.1[(n + 67)]? = some (2, clN 2) := by rw [e39]; exact sh_new hn38
  refine Rp.dup dX11_init_178 rfl ?_
  refine Rp.callI' [] dX11_init_179 mo_X2_init rfl rfl lk_X11_9 rfl (Nat.le_of_ble_eq_true rfl) (Nat.le_of_ble_eq_true rfl) (c_X2_init _ _ (n + 67) (n + 68) s39_67 hn39) (fun v1 hq p1 x1 => ?_)
  obtain ⟨rfl, rfl⟩ := p1
  refine Rp.nm (fun h40 e40 => ?_)
  have s40_k : h40.1[k]? = some (11, clN 11) := by rw [e40]; exact sh_X2_init s39_k
  have s40_0 : h40.1[n]? = some (2, clN 2) := by rw [e40]; exact sh_X2_init s39_0
  have s40_16 : h40.1[(n + 16)]? = some (2, clN 2) := by rw [e40]; exact sh_X2_init s39_16
  have s40_32 : h40.1[(n + 32)]? = some (18, 2) := by rw [e40]; exact sh_X2_init s39_32
  have s40_34 : h40.1[(n + 34)]? = some (7, clN 7) := by rw [e40]; exact sh_X2_init s39_34
  have s40_39 : h40.1[(n + 39)]? = some (3, clN 3) := by rw [e40]; exact sh_X2_init s39_39
  have s40_44 : h40.1[(n + 44)]? = some (0, clN 0) := by rw [e40]; exact sh_X2_init s39_44
  have s40_45 : h40.1[(n + 45)]? = some (1, clN 1) := by rw [e40]; exact sh_X2_init s39_45
  have s40_51 : h40.1[(n + 51)]? = some (6, clN 6) := by rw [e40]; exact sh_X2_init s39_51
  have s40_57 : h40.1[(n + 57)]? = some (10, clN 10) := by rw [e40]; exact sh_X2_init s39_57
  have s40_62 : h40.1[(n + 62)]? = some (8, clN 8) := by rw [e40]; exact sh_X2_init s39_62
  have s40_65 : h40.1[(n + 65)]? = some (13, 6) := by rw [e40]; exact sh_X2_init s39_65
  have s40_67 : h40.1[(n + 67)]? = some (2, clN 2) := by rw [e40]; exact sh_X2_init s39_67
  have hn40 : aN h40 = (n + 83) := by rw [e40, aN_X2_init, hn39]
  have g40_k_0 : gR h40 k 0 = some n := by rw [e40]; exact gq_X2_init hn39 (ne_k hlt 67) (Nat.lt_of_lt_of_le hlt (Nat.le_add_right _ _)) g39_k_0
  have g40_k_2 : gR h40 k 2 = some (n + 32) := by rw [e40]; exact gq_X2_init hn39 (ne_k hlt 67) (Nat.lt_of_lt_of_le hlt (Nat.le_add_right _ _)) g39_k_2
  have g40_k_5 : gR h40 k 5 = some (n + 39) := by rw [e40]; exact gq_X2_init hn39 (ne_k hlt 67) (Nat.lt_of_lt_of_le hlt (Nat.le_add_right _ _)) g39_k_5
  have g40_k_6 : gR h40 k 6 = some (n + 44) := by rw [e40]; exact gq_X2_init hn39 (ne_k hlt 67) (Nat.lt_of_lt_of_le hlt (Nat.le_add_right _ _)) g39_k_6
  have g40_k_7 : gR h40 k 7 = some (n + 45) := by rw [e40]; exact gq_X2_init hn39 (ne_k hlt 67) (Nat.lt_of_lt_of_le hlt (Nat.le_add_right _ _)) g39_k_7
  have g40_k_12 : gR h40 k 12 = some (n + 65) := by rw [e40]; exact gq_X2_init hn39 (ne_k hlt 67) (Nat.lt_of_lt_of_le hlt (Nat.le_add_right _ _)) g39_k_12
  refine Rp.aastoreN dX11_init_182 (Or.inr ⟨rfl, rfl⟩) s40_32 s40_67 (by omega) ?_
  refine Rp.nm (fun h41 e41 => ?_)
  have s41_k : h41.1[k]? = some (11, clN 11) := by rw [e41]; exact s40_k
  have s41_0 : h41.1[n]? = some (2, clN 2) := by rw [e41]; exact s40_0
  have s41_16 : h41.1[(n + 16)]? = some (2, clN 2) := by rw [e41]; exact s40_16
  have s41_32 : h41.1[(n + 32)]? = some (18, 2) := by rw [e41]; exact s40_32
  have s41_34 : h41.1[(n + 34)]? = some (7, clN 7) := by rw [e41]; exact s40_34
  have s41_39 : h41.1[(n + 39)]? = some (3, clN 3) := by rw [e41]; exact s40_39
  have s41_44 : h41.1[(n + 44)]? = some (0, clN 0) := by rw [e41]; exact s40_44
  have s41_45 : h41.1[(n + 45)]? = some (1, clN 1) := by rw [e41]; exact s40_45
  have s41_51 : h41.1[(n + 51)]? = some (6, clN 6) := by rw [e41]; exact s40_51
  have s41_57 : h41.1[(n + 57)]? = some (10, clN 10) := by rw [e41]; exact s40_57
  have s41_62 : h41.1[(n + 62)]? = some (8, clN 8) := by rw [e41]; exact s40_62
  have s41_65 : h41.1[(n + 65)]? = some (13, 6) := by rw [e41]; exact s40_65
  have s41_67 : h41.1[(n + 67)]? = some (2, clN 2) := by rw [e41]; exact s40_67
  have hn41 : aN h41 = (n + 83) := by rw [e41]; exact hn40
  have g41_k_0 : gR h41 k 0 = some n := by rw [e41]; exact gq_sR (ne_k hlt 32) g40_k_0
  have g41_k_2 : gR h41 k 2 = some (n + 32) := by rw [e41]; exact gq_sR (ne_k hlt 32) g40_k_2
  have g41_k_5 : gR h41 k 5 = some (n + 39) := by rw [e41]; exact gq_sR (ne_k hlt 32) g40_k_5
  have g41_k_6 : gR h41 k 6 = some (n + 44) := by rw [e41]; exact gq_sR (ne_k hlt 32) g40_k_6
  have g41_k_7 : gR h41 k 7 = some (n + 45) := by rw [e41]; exact gq_sR (ne_k hlt 32) g40_k_7
  have g41_k_12 : gR h41 k 12 = some (n + 65) := by rw [e41]; exact gq_sR (ne_k hlt 32) g40_k_12
  refine Rp.aload_n dX11_init_183 rfl rfl ?_
  refine Rp.getR dX11_init_184 fk_X11_19 rfl s41_k g41_k_2 ?_
  refine Rp.iconst (nI 1) dX11_init_187 (by decide) ?_
  refine Rp.newA (n + 83) hn41 dX11_init_188 cl_2 lc_X11_7 df_2 ?_
  refine Rp.nm (fun h42 e42 => ?_)
  have s42_k : h42.1[k]? = some (11, clN 11) := by rw [e42]; exact sh_old s41_k
  have s42_0 : h42.1[n]? = some (2, clN 2) := by rw [e42]; exact sh_old s41_0
  have s42_16 : h42.1[(n + 16)]? = some (2, clN 2) := by rw [e42]; exact sh_old s41_16
  have s42_32 : h42.1[(n + 32)]? = some (18, 2) := by rw [e42]; exact sh_old s41_32
  have s42_34 : h42.1[(n + 34)]? = some (7, clN 7) := by rw [e42]; exact sh_old s41_34
  have s42_39 : h42.1[(n + 39)]? = some (3, clN 3) := by rw [e42]; exact sh_old s41_39
  have s42_44 : h42.1[(n + 44)]? = some (0, clN 0) := by rw [e42]; exact sh_old s41_44
  have s42_45 : h42.1[(n + 45)]? = some (1, clN 1) := by rw [e42]; exact sh_old s41_45
  have s42_51 : h42.1[(n + 51)]? = some (6, clN 6) := by rw [e42]; exact sh_old s41_51
  have s42_57 : h42.1[(n + 57)]? = some (10, clN 10) := by rw [e42]; exact sh_old s41_57
  have s42_62 : h42.1[(n + 62)]? = some (8, clN 8) := by rw [e42]; exact sh_old s41_62
  have s42_65 : h42.1[(n + 65)]? = some (13, 6) := by rw [e42]; exact sh_old s41_65
  have s42_67 : h42.1[(n + 67)]? = some (2, clN 2) := by rw [e42]; exact sh_old s41_67
  have hn42 : aN h42 = (n + 84) := by rw [e42, aN_new, hn41]
  have g42_k_0 : gR h42 k 0 = some n := by rw [e42]; exact gq_new (by rw [hn41]; exact (ne_k hlt 83)) g41_k_0
  have g42_k_2 : gR h42 k 2 = some (n + 32) := by rw [e42]; exact gq_new (by rw [hn41]; exact (ne_k hlt 83)) g41_k_2
  have g42_k_5 : gR h42 k 5 = some (n + 39) := by rw [e42]; exact gq_new (by rw [hn41]; exact (ne_k hlt 83)) g41_k_5
  have g42_k_6 : gR h42 k 6 = some (n + 44) := by rw [e42]; exact gq_new (by rw [hn41]; exact (ne_k hlt 83)) g41_k_6
  have g42_k_7 : gR h42 k 7 = some (n + 45) := by rw [e42]; exact gq_new (by rw [hn41]; exact (ne_k hlt 83)) g41_k_7
  have g42_k_12 : gR h42 k 12 = some (n + 65) := by rw [e42]; exact gq_new (by rw [hn41]; exact (ne_k hlt 83)) g41_k_12
  have s42_83 : h42.1[(n + 83)]? = some (2, clN 2) := by rw [e42]; exact sh_new hn41
  refine Rp.dup dX11_init_191 rfl ?_
  refine Rp.callI' [] dX11_init_192 mo_X2_init rfl rfl lk_X11_9 rfl (Nat.le_of_ble_eq_true rfl) (Nat.le_of_ble_eq_true rfl) (c_X2_init _ _ (n + 83) (n + 84) s42_83 hn42) (fun v1 hq p1 x1 => ?_)
  obtain ⟨rfl, rfl⟩ := p1
  refine Rp.nm (fun h43 e43 => ?_)
  have s43_k : h43.1[k]? = some (11, clN 11) := by rw [e43]; exact sh_X2_init s42_k
  have s43_0 : h43.1[n]? = some (2, clN 2) := by rw [e43]; exact sh_X2_init s42_0
  have s43_16 : h43.1[(n + 16)]? = some (2, clN 2) := by rw [e43]; exact sh_X2_init s42_16
  have s43_32 : h43.1[(n + 32)]? = some (18, 2) := by rw [e43]; exact sh_X2_init s42_32
  have s43_34 : h43.1[(n + 34)]? = some (7, clN 7) := by rw [e43]; exact sh_X2_init s42_34
  have s43_39 : h43.1[(n + 39)]? = some (3, clN 3) := by rw [e43]; exact sh_X2_init s42_39
  have s43_44 : h43.1[(n + 44)]? = some (0, clN 0) := by rw [e43]; exact sh_X2_init s42_44
  have s43_45 : h43.1[(n + 45)]? = some (1, clN 1) := by rw [e43]; exact sh_X2_init s42_45
  have s43_51 : h43.1[(n + 51)]? = some (6, clN 6) := by rw [e43]; exact sh_X2_init s42_51
  have s43_57 : h43.1[(n + 57)]? = some (10, clN 10) := by rw [e43]; exact sh_X2_init s42_57
  have s43_62 : h43.1[(n + 62)]? = some (8, clN 8) := by rw [e43]; exact sh_X2_init s42_62
  have s43_65 : h43.1[(n + 65)]? = some (13, 6) := by rw [e43]; exact sh_X2_init s42_65
  have s43_67 : h43.1[(n + 67)]? = some (2, clN 2) := by rw [e43]; exact sh_X2_init s42_67
  have s43_83 : h43.1[(n + 83)]? = some (2, clN 2) := by rw [e43]; exact sh_X2_init s42_83
  have hn43 : aN h43 = (n + 99) := by rw [e43, aN_X2_init, hn42]
  have g43_k_0 : gR h43 k 0 = some n := by rw [e43]; exact gq_X2_init hn42 (ne_k hlt 83) (Nat.lt_of_lt_of_le hlt (Nat.le_add_right _ _)) g42_k_0
  have g43_k_2 : gR h43 k 2 = some (n + 32) := by rw [e43]; exact gq_X2_init hn42 (ne_k hlt 83) (Nat.lt_of_lt_of_le hlt (Nat.le_add_right _ _)) g42_k_2
  have g43_k_5 : gR h43 k 5 = some (n + 39) := by rw [e43]; exact gq_X2_init hn42 (ne_k hlt 83) (Nat.lt_of_lt_of_le hlt (Nat.le_add_right _ _)) g42_k_5
  have g43_k_6 : gR h43 k 6 = some (n + 44) := by rw [e43]; exact gq_X2_init hn42 (ne_k hlt 83) (Nat.lt_of_lt_of_le hlt (Nat.le_add_right _ _)) g42_k_6
  have g43_k_7 : gR h43 k 7 = some (n + 45) := by rw [e43]; exact gq_X2_init hn42 (ne_k hlt 83) (Nat.lt_of_lt_of_le hlt (Nat.le_add_right _ _)) g42_k_7
  have g43_k_12 : gR h43 k 12 = some (n + 65) := by rw [e43]; exact gq_X2_init hn42 (ne_k hlt 83) (Nat.lt_of_lt_of_le hlt (Nat.le_add_right _ _)) g42_k_12
  refine Rp.aastoreN dX11_init_195 (Or.inr ⟨rfl, rfl⟩) s43_32 s43_83 (by omega) ?_
  refine Rp.nm (fun h44 e44 => ?_)
  have s44_k : h44.1[k]? = some (11, clN 11) := by rw [e44]; exact s43_k
  have s44_0 : h44.1[n]? = some (2, clN 2) := by rw [e44]; exact s43_0
  have s44_16 : h44.1[(n + 16)]? = some (2, clN 2) := by rw [e44]; exact s43_16
  have s44_32 : h44.1[(n + 32)]? = some (18, 2) := by rw [e44]; exact s43_32
  have s44_34 : h44.1[(n + 34)]? = some (7, clN 7) := by rw [e44]; exact s43_34
  have s44_39 : h44.1[(n + 39)]? = some (3, clN 3) := by rw [e44]; exact s43_39
  have s44_44 : h44.1[(n + 44)]? = some (0, clN 0) := by rw [e44]; exact s43_44
  have s44_45 : h44.1[(n + 45)]? = some (1, clN 1) := by rw [e44]; exact s43_45
  have s44_51 : h44.1[(n + 51)]? = some (6, clN 6) := by rw [e44]; exact s43_51
  have s44_57 : h44.1[(n + 57)]? = some (10, clN 10) := by rw [e44]; exact s43_57
  have s44_62 : h44.1[(n + 62)]? = some (8, clN 8) := by rw [e44]; exact s43_62
  have s44_65 : h44.1[(n + 65)]? = some (13, 6) := by rw [e44]; exact s43_65
  have s44_67 : h44.1[(n + 67)]? = some (2, clN 2) := by rw [e44]; exact s43_67
  have s44_83 : h44.1[(n + 83)]? = some (2, clN 2) := by rw [e44]; exact s43_83
  have hn44 : aN h44 = (n + 99) := by rw [e44]; exact hn43
  have g44_k_0 : gR h44 k 0 = some n := by rw [e44]; exact gq_sR (ne_k hlt 32) g43_k_0
  have g44_k_2 : gR h44 k 2 = some (n + 32) := by rw [e44]; exact gq_sR (ne_k hlt 32) g43_k_2
  have g44_k_5 : gR h44 k 5 = some (n + 39) := by rw [e44]; exact gq_sR (ne_k hlt 32) g43_k_5
  have g44_k_6 : gR h44 k 6 = some (n + 44) := by rw [e44]; exact gq_sR (ne_k hlt 32) g43_k_6
  have g44_k_7 : gR h44 k 7 = some (n + 45) := by rw [e44]; exact gq_sR (ne_k hlt 32) g43_k_7
  have g44_k_12 : gR h44 k 12 = some (n + 65) := by rw [e44]; exact gq_sR (ne_k hlt 32) g43_k_12
  refine Rp.aload_n dX11_init_196 rfl rfl ?_
  refine Rp.getR dX11_init_197 fk_X11_88 rfl s44_k g44_k_12 ?_
  refine Rp.iconst (-1) dX11_init_200 (by decide) ?_
  refine Rp.callS2 M_J7_fill_53178 dX11_init_201 mo_J7_fill_53178 lk_X11_99 (Nat.le_of_ble_eq_true rfl) (Nat.le_of_ble_eq_true rfl) (c_fill _ _ (n + 65) 6 (-1) s44_65 (by decide)) (fun v1 hq p1 x1 => ?_)
  obtain ⟨rfl, rfl⟩ := p1
  refine Rp.nm (fun h45 e45 => ?_)
  have s45_k : h45.1[k]? = some (11, clN 11) := by rw [e45]; exact s44_k
  have s45_0 : h45.1[n]? = some (2, clN 2) := by rw [e45]; exact s44_0
  have s45_16 : h45.1[(n + 16)]? = some (2, clN 2) := by rw [e45]; exact s44_16
  have s45_32 : h45.1[(n + 32)]? = some (18, 2) := by rw [e45]; exact s44_32
  have s45_34 : h45.1[(n + 34)]? = some (7, clN 7) := by rw [e45]; exact s44_34
  have s45_39 : h45.1[(n + 39)]? = some (3, clN 3) := by rw [e45]; exact s44_39
  have s45_44 : h45.1[(n + 44)]? = some (0, clN 0) := by rw [e45]; exact s44_44
  have s45_45 : h45.1[(n + 45)]? = some (1, clN 1) := by rw [e45]; exact s44_45
  have s45_51 : h45.1[(n + 51)]? = some (6, clN 6) := by rw [e45]; exact s44_51
  have s45_57 : h45.1[(n + 57)]? = some (10, clN 10) := by rw [e45]; exact s44_57
  have s45_62 : h45.1[(n + 62)]? = some (8, clN 8) := by rw [e45]; exact s44_62
  have s45_65 : h45.1[(n + 65)]? = some (13, 6) := by rw [e45]; exact s44_65
  have s45_67 : h45.1[(n + 67)]? = some (2, clN 2) := by rw [e45]; exact s44_67
  have s45_83 : h45.1[(n + 83)]? = some (2, clN 2) := by rw [e45]; exact s44_83
  have hn45 : aN h45 = (n + 99) := by rw [e45]; exact hn44
  have g45_k_0 : gR h45 k 0 = some n := by rw [e45]; exact g44_k_0
  have g45_k_2 : gR h45 k 2 = some (n + 32) := by rw [e45]; exact g44_k_2
  have g45_k_5 : gR h45 k 5 = some (n + 39) := by rw [e45]; exact g44_k_5
  have g45_k_6 : gR h45 k 6 = some (n + 44) := by rw [e45]; exact g44_k_6
  have g45_k_7 : gR h45 k 7 = some (n + 45) := by rw [e45]; exact g44_k_7
  have g45_k_12 : gR h45 k 12 = some (n + 65) := by rw [e45]; exact g44_k_12
  refine Rp.vreturn dX11_init_204 rfl ?_
  exact ⟨by rw [e45, e44, e43, e42, e41, e40, e39, e38, e37, e36, e35, e34, e33, e32, e31, e30, e29, e28, e27, e26, e25, e24, e23, e22, e21, e20, e19, e18, e17, e16, e15, e14, e13, e12, e11, e10, e9, e8, e7, e6, e5, e4, e3, e2, e1]; rfl, rfl⟩
theorem aN_X11_init (h : AH) (k n : Nat) : aN (ini_X11_init h k n) = aN h + 99 := by simp only [ini_X11_init, aN_new, aN_sR, aN_sI, aN_fillI, Nat.add_zero, aN_X4_init, aN_X9_init, aN_X5_init, aN_X0_init, aN_X1_init, aN_X6_init, aN_X10_init, aN_X8_init, aN_X3_init, aN_X7_init, aN_X2_init]
set_option maxRecDepth 20000 in
theorem setS_X11_init (h : AH) (S : Nat × (Nat → Int32)) (k n : Nat) : ini_X11_init (setS h S) k n = setS (ini_X11_init h k n) S := by simp only [ini_X11_init, setS_new, setS_sR, setS_sI, setS_fillI, setS_X4_init, setS_X9_init, setS_X5_init, setS_X0_init, setS_X1_init, setS_X6_init, setS_X10_init, setS_X8_init, setS_X3_init, setS_X7_init, setS_X2_init]
def ini_X12_init (h : AH) (k n : Nat) : AH := (fillI (sI (sI (sI (sR (aNew (sR (aNew (sI (sR (aNew (sR (aNew (sR (aNew (sR (aNew (sR (aNew (sR (aNew (sR (aNew (sR (aNew (sR (aNew (sR (aNew (sR (aNew (sR (aNew (sR (aNew (sR (aNew (sR (aNew (sR (aNew (sR (aNew (sR (aNew (sI (sR (aNew (sR (aNew (sR (sI (sI (sI (sI (sI (sI (sI (sI (sI (sI (sI (sI (sI (sI (sI (sI (sI (sI (sI (sI (sI (sI (sI (sI (sI (sI (sI (sI (sI (sI (sI (sI (sI (sI (sI (sI (sI (sI (sI (sI (sI (sI (sI (sI (sI (sI (sI (sI (sI (sI (sI (sI (sI (sI (sI (sI (sI (sI (sI (sI (sI (sI (sI (sI (sI (sI (sI (sI (sI (sI (sI (sI (sI (sI (sI (sI (sI (sI (sI (sI (sI (sI (sI (sI (sI (sI (sI (sI (sI (sI (sI (sI (sI (sI (sI (sI (sI (sI (sI (sI (sI (sI (sI (sI (sI (sI (sI (sI (sI (sI (sI (sI (sI (sI (sI (sI (sI (sI (sI (sI (sI (sI (sI (sI (sI (sI (sI (sI (sI (sI (sI (sI (sI (sI (sI (sI (sI (sI (sI (sI (sI (sI (sI (sI (sI (sI (sI (sI (sI (sI (sI (sI (sI (sI (sI (sI (sI (aNew (sR (aNew (sR (aNew (sR (aNew (sR (aNew (sR (aNew h (13 + 0) (7)) k 1 (some n)) (13 + 0) (5716)) k 2 (some (n + 1))) (13 + 0) (11432)) k 3 (some (n + 2))) (13 + 2) (2)) k 4 (some (n + 3))) (13 + 0) (14)) k 5 (some (n + 4))) (13 + 1) (157)) (n + 5) 0 (nI 116).toInt8.toInt32) (n + 5) 1 (nI 97).toInt8.toInt32) (n + 5) 2 (nI 107).toInt8.toInt32) (n + 5) 3 (nI 101).toInt8.toInt32) (n + 5) 4 (nI 115).toInt8.toInt32) (n + 5) 5 (nI 32).toInt8.toInt32) (n + 5) 6 (nI 99).toInt8.toInt32) (n + 5) 7 (nI 111).toInt8.toInt32) (n + 5) 8 (nI 115).toInt8.toInt32) (n + 5) 9 (nI 116).toInt8.toInt32) (n + 5) 10 (nI 115).toInt8.toInt32) (n + 5) 11 (nI 32).toInt8.toInt32) (n + 5) 12 (nI 102).toInt8.toInt32) (n + 5) 13 (nI 105).toInt8.toInt32) (n + 5) 14 (nI 116).toInt8.toInt32) (n + 5) 15 (nI 115).toInt8.toInt32) (n + 5) 16 (nI 32).toInt8.toInt32) (n + 5) 17 (nI 98).toInt8.toInt32) (n + 5) 18 (nI 97).toInt8.toInt32) (n + 5) 19 (nI 114).toInt8.toInt32) (n + 5) 20 (nI 115).toInt8.toInt32) (n + 5) 21 (nI 32).toInt8.toInt32) (n + 5) 22 (nI 105).toInt8.toInt32) (n + 5) 23 (nI 102).toInt8.toInt32) (n + 5) 24 (nI 32).toInt8.toInt32) (n + 5) 25 (nI 111).toInt8.toInt32) (n + 5) 26 (nI 114).toInt8.toInt32) (n + 5) 27 (nI 32).toInt8.toInt32) (n + 5) 28 (nI 97).toInt8.toInt32) (n + 5) 29 (nI 110).toInt8.toInt32) (n + 5) 30 (nI 100).toInt8.toInt32) (n + 5) 31 (nI 32).toInt8.toInt32) (n + 5) 32 (nI 110).toInt8.toInt32) (n + 5) 33 (nI 111).toInt8.toInt32) (n + 5) 34 (nI 116).toInt8.toInt32) (n + 5) 35 (nI 32).toInt8.toInt32) (n + 5) 36 (nI 112).toInt8.toInt32) (n + 5) 37 (nI 101).toInt8.toInt32) (n + 5) 38 (nI 114).toInt8.toInt32) (n + 5) 39 (nI 115).toInt8.toInt32) (n + 5) 40 (nI 111).toInt8.toInt32) (n + 5) 41 (nI 110).toInt8.toInt32) (n + 5) 42 (nI 32).toInt8.toInt32) (n + 5) 43 (nI 98).toInt8.toInt32) (n + 5) 44 (nI 117).toInt8.toInt32) (n + 5) 45 (nI 115).toInt8.toInt32) (n + 5) 46 (nI 105).toInt8.toInt32) (n + 5) 47 (nI 110).toInt8.toInt32) (n + 5) 48 (nI 101).toInt8.toInt32) (n + 5) 49 (nI 115).toInt8.toInt32) (n + 5) 50 (nI 115).toInt8.toInt32) (n + 5) 51 (nI 32).toInt8.toInt32) (n + 5) 52 (nI 116).toInt8.toInt32) (n + 5) 53 (nI 105).toInt8.toInt32) (n + 5) 54 (nI 99).toInt8.toInt32) (n + 5) 55 (nI 107).toInt8.toInt32) (n + 5) 56 (nI 101).toInt8.toInt32) (n + 5) 57 (nI 116).toInt8.toInt32) (n + 5) 58 (nI 32).toInt8.toInt32) (n + 5) 59 (nI 110).toInt8.toInt32) (n + 5) 60 (nI 117).toInt8.toInt32) (n + 5) 61 (nI 109).toInt8.toInt32) (n + 5) 62 (nI 98).toInt8.toInt32) (n + 5) 63 (nI 101).toInt8.toInt32) (n + 5) 64 (nI 114).toInt8.toInt32) (n + 5) 65 (nI 32).toInt8.toInt32) (n + 5) 66 (nI 107).toInt8.toInt32) (n + 5) 67 (nI 105).toInt8.toInt32) (n + 5) 68 (nI 110).toInt8.toInt32) (n + 5) 69 (nI 100).toInt8.toInt32) (n + 5) 70 (nI 32).toInt8.toInt32) (n + 5) 71 (nI 115).toInt8.toInt32) (n + 5) 72 (nI 112).toInt8.toInt32) (n + 5) 73 (nI 101).toInt8.toInt32) (n + 5) 74 (nI 101).toInt8.toInt32) (n + 5) 75 (nI 100).toInt8.toInt32) (n + 5) 76 (nI 32).toInt8.toInt32) (n + 5) 77 (nI 109).toInt8.toInt32) (n + 5) 78 (nI 111).toInt8.toInt32) (n + 5) 79 (nI 111).toInt8.toInt32) (n + 5) 80 (nI 100).toInt8.toInt32) (n + 5) 81 (nI 32).toInt8.toInt32) (n + 5) 82 (nI 112).toInt8.toInt32) (n + 5) 83 (nI 97).toInt8.toInt32) (n + 5) 84 (nI 116).toInt8.toInt32) (n + 5) 85 (nI 105).toInt8.toInt32) (n + 5) 86 (nI 101).toInt8.toInt32) (n + 5) 87 (nI 110).toInt8.toInt32) (n + 5) 88 (nI 99).toInt8.toInt32) (n + 5) 89 (nI 101).toInt8.toInt32) (n + 5) 90 (nI 32).toInt8.toInt32) (n + 5) 91 (nI 109).toInt8.toInt32) (n + 5) 92 (nI 105).toInt8.toInt32) (n + 5) 93 (nI 110).toInt8.toInt32) (n + 5) 94 (nI 117).toInt8.toInt32) (n + 5) 95 (nI 116).toInt8.toInt32) (n + 5) 96 (nI 101).toInt8.toInt32) (n + 5) 97 (nI 32).toInt8.toInt32) (n + 5) 98 (nI 100).toInt8.toInt32) (n + 5) 99 (nI 111).toInt8.toInt32) (n + 5) 100 (nI 110).toInt8.toInt32) (n + 5) 101 (nI 101).toInt8.toInt32) (n + 5) 102 (nI 32).toInt8.toInt32) (n + 5) 103 (nI 108).toInt8.toInt32) (n + 5) 104 (nI 97).toInt8.toInt32) (n + 5) 105 (nI 116).toInt8.toInt32) (n + 5) 106 (nI 101).toInt8.toInt32) (n + 5) 107 (nI 115).toInt8.toInt32) (n + 5) 108 (nI 116).toInt8.toInt32) (n + 5) 109 (nI 32).toInt8.toInt32) (n + 5) 110 (nI 102).toInt8.toInt32) (n + 5) 111 (nI 105).toInt8.toInt32) (n + 5) 112 (nI 116).toInt8.toInt32) (n + 5) 113 (nI 32).toInt8.toInt32) (n + 5) 114 (nI 102).toInt8.toInt32) (n + 5) 115 (nI 114).toInt8.toInt32) (n + 5) 116 (nI 101).toInt8.toInt32) (n + 5) 117 (nI 101).toInt8.toInt32) (n + 5) 118 (nI 32).toInt8.toInt32) (n + 5) 119 (nI 104).toInt8.toInt32) (n + 5) 120 (nI 97).toInt8.toInt32) (n + 5) 121 (nI 115).toInt8.toInt32) (n + 5) 122 (nI 32).toInt8.toInt32) (n + 5) 123 (nI 100).toInt8.toInt32) (n + 5) 124 (nI 114).toInt8.toInt32) (n + 5) 125 (nI 97).toInt8.toInt32) (n + 5) 126 (nI 119).toInt8.toInt32) (n + 5) 127 (nI 32).toInt8.toInt32) (n + 5) 128 (nI 98).toInt8.toInt32) (n + 5) 129 (nI 121).toInt8.toInt32) (n + 5) 130 (nI 32).toInt8.toInt32) (n + 5) 131 (nI 115).toInt8.toInt32) (n + 5) 132 (nI 119).toInt8.toInt32) (n + 5) 133 (nI 97).toInt8.toInt32) (n + 5) 134 (nI 112).toInt8.toInt32) (n + 5) 135 (nI 32).toInt8.toInt32) (n + 5) 136 (nI 119).toInt8.toInt32) (n + 5) 137 (nI 105).toInt8.toInt32) (n + 5) 138 (nI 116).toInt8.toInt32) (n + 5) 139 (nI 104).toInt8.toInt32) (n + 5) 140 (nI 32).toInt8.toInt32) (n + 5) 141 (nI 100).toInt8.toInt32) (n + 5) 142 (nI 114).toInt8.toInt32) (n + 5) 143 (nI 111).toInt8.toInt32) (n + 5) 144 (nI 112).toInt8.toInt32) (n + 5) 145 (nI 32).toInt8.toInt32) (n + 5) 146 (nI 112).toInt8.toInt32) (n + 5) 147 (nI 97).toInt8.toInt32) (n + 5) 148 (nI 115).toInt8.toInt32) (n + 5) 149 (nI 115).toInt8.toInt32) (n + 5) 150 (nI 32).toInt8.toInt32) (n + 5) 151 (nI 116).toInt8.toInt32) (n + 5) 152 (nI 105).toInt8.toInt32) (n + 5) 153 (nI 109).toInt8.toInt32) (n + 5) 154 (nI 101).toInt8.toInt32) (n + 5) 155 (nI 115).toInt8.toInt32) (n + 5) 156 (nI 32).toInt8.toInt32) k 7 (some (n + 5))) (13 + 1) (400)) k 11 (some (n + 6))) (13 + 0) (5)) k 12 (some (n + 7))) k 14 (-1)) (13 + 0) (401)) k 15 (some (n + 8))) (13 + 0) (401)) k 16 (some (n + 9))) (13 + 0) (401)) k 17 (some (n + 10))) (13 + 0) (9)) k 26 (some (n + 11))) (13 + 0) (128)) k 30 (some (n + 12))) (13 + 0) (128)) k 31 (some (n + 13))) (13 + 0) (6)) k 33 (some (n + 14))) (13 + 0) (6)) k 34 (some (n + 15))) (13 + 0) (6)) k 35 (some (n + 16))) (13 + 0) (3)) k 36 (some (n + 17))) (13 + 0) (6)) k 37 (some (n + 18))) (13 + 0) (6)) k 38 (some (n + 19))) (13 + 0) (6)) k 42 (some (n + 20))) (13 + 0) (6)) k 43 (some (n + 21))) (13 + 0) (6)) k 44 (some (n + 22))) (13 + 0) (6)) k 47 (some (n + 23))) (13 + 0) (48)) k 48 (some (n + 24))) (13 + 3) (21)) k 49 (some (n + 25))) k 50 (-1)) (13 + 3) (2)) k 56 (some (n + 26))) (13 + 0) (7)) k 57 (some (n + 27))) k 58 (-1)) (n + 1) 101 (nI 9)) (n + 1) 108 (-1)) (n + 1) 6 (-1))
set_option maxRecDepth 20000 in
set_option maxHeartbeats 4000000 in
theorem c_X12_init (d : Nat) (h : AH) (k n : Nat) (hk0 : h.1[k]? = some (12, clN 12)) (hn0 : aN h = n) : Rp (d + 1) M_X12_init 0 [some (.ref k), none] [] h (fun r h' => h' = ini_X12_init h k n ∧ r = none) := by
  have hlt : k < n := by rw [← hn0]; exact (List.getElem?_eq_some_iff.mp hk0).1
  refine Rp.aload_n dX12_init_0 rfl rfl ?_
  refine Rp.objI dX12_init_1 lk_X12_18 (Nat.le_of_ble_eq_true rfl) ?_
  refine Rp.aload_n dX12_init_4 rfl rfl ?_
  refine Rp.bipush (nI 7) dX12_init_5 (by decide) ?_
  refine Rp.newaA n 0 7 hn0 dX12_init_7 ⟨rfl, by decide, ac_0⟩ (by decide) ?_
  refine Rp.nm (fun h1 e1 => ?_)
  have s1_k : h1.1[k]? = some (12, clN 12) := by rw [e1]; exact sh_old hk0
  have hn1 : aN h1 = (n + 1) := by rw [e1, aN_new, hn0]
  refine Rp.putR dX12_init_9 fk_X12_7w (fun _ => rfl) (Or.inr ⟨_, rfl⟩) s1_k ?_
  refine Rp.nm (fun h2 e2 => ?_)
  have s2_k : h2.1[k]? = some (12, clN 12) := by rw [e2]; exact s1_k
  have hn2 : aN h2 = (n + 1) := by rw [e2]; exact hn1
  refine Rp.aload_n dX12_init_12 rfl rfl ?_
  refine Rp.sipush (nI 5716) dX12_init_13 (by decide) ?_
  refine Rp.newaA (n + 1) 0 5716 hn2 dX12_init_16 ⟨rfl, by decide, ac_0⟩ (by decide) ?_
  refine Rp.nm (fun h3 e3 => ?_)
  have s3_k : h3.1[k]? = some (12, clN 12) := by rw [e3]; exact sh_old s2_k
  have hn3 : aN h3 = (n + 2) := by rw [e3, aN_new, hn2]
  have s3_1 : h3.1[(n + 1)]? = some (13, 5716) := by rw [e3]; exact sh_new hn2
  refine Rp.putR dX12_init_18 fk_X12_24w (fun _ => rfl) (Or.inr ⟨_, rfl⟩) s3_k ?_
  refine Rp.nm (fun h4 e4 => ?_)
  have s4_k : h4.1[k]? = some (12, clN 12) := by rw [e4]; exact s3_k
  have s4_1 : h4.1[(n + 1)]? = some (13, 5716) := by rw [e4]; exact s3_1
  have hn4 : aN h4 = (n + 2) := by rw [e4]; exact hn3
  have g4_k_2 : gR h4 k 2 = some (n + 1) := by rw [e4]; simp [gR_sR]
  refine Rp.aload_n dX12_init_21 rfl rfl ?_
  refine Rp.sipush (nI 11432) dX12_init_22 (by decide) ?_
  refine Rp.newaA (n + 2) 0 11432 hn4 dX12_init_25 ⟨rfl, by decide, ac_0⟩ (by decide) ?_
  refine Rp.nm (fun h5 e5 => ?_)
  have s5_k : h5.1[k]? = some (12, clN 12) := by rw [e5]; exact sh_old s4_k
  have s5_1 : h5.1[(n + 1)]? = some (13, 5716) := by rw [e5]; exact sh_old s4_1
  have hn5 : aN h5 = (n + 3) := by rw [e5, aN_new, hn4]
  have g5_k_2 : gR h5 k 2 = some (n + 1) := by rw [e5]; exact gq_new (by rw [hn4]; exact (ne_k hlt 2)) g4_k_2
  refine Rp.putR dX12_init_27 fk_X12_27w (fun _ => rfl) (Or.inr ⟨_, rfl⟩) s5_k ?_
  refine Rp.nm (fun h6 e6 => ?_)
  have s6_k : h6.1[k]? = some (12, clN 12) := by rw [e6]; exact s5_k
  have s6_1 : h6.1[(n + 1)]? = some (13, 5716) := by rw [e6]; exact s5_1
  have hn6 : aN h6 = (n + 3) := by rw [e6]; exact hn5
  have g6_k_2 : gR h6 k 2 = some (n + 1) := by rw [e6]; exact gq_sRj (by decide) g5_k_2
  refine Rp.aload_n dX12_init_30 rfl rfl ?_
  refine Rp.iconst (nI 2) dX12_init_31 (by decide) ?_
  refine Rp.newaA (n + 3) 2 2 hn6 dX12_init_32 ⟨rfl, by decide, ac_2⟩ (by decide) ?_
  refine Rp.nm (fun h7 e7 => ?_)
  have s7_k : h7.1[k]? = some (12, clN 12) := by rw [e7]; exact sh_old s6_k
  have s7_1 : h7.1[(n + 1)]? = some (13, 5716) := by rw [e7]; exact sh_old s6_1
  have hn7 : aN h7 = (n + 4) := by rw [e7, aN_new, hn6]
  have g7_k_2 : gR h7 k 2 = some (n + 1) := by rw [e7]; exact gq_new (by rw [hn6]; exact (ne_k hlt 3)) g6_k_2
  refine Rp.putR dX12_init_34 fk_X12_30w (fun _ => rfl) (Or.inr ⟨_, rfl⟩) s7_k ?_
  refine Rp.nm (fun h8 e8 => ?_)
  have s8_k : h8.1[k]? = some (12, clN 12) := by rw [e8]; exact s7_k
  have s8_1 : h8.1[(n + 1)]? = some (13, 5716) := by rw [e8]; exact s7_1
  have hn8 : aN h8 = (n + 4) := by rw [e8]; exact hn7
  have g8_k_2 : gR h8 k 2 = some (n + 1) := by rw [e8]; exact gq_sRj (by decide) g7_k_2
  refine Rp.aload_n dX12_init_37 rfl rfl ?_
  refine Rp.bipush (nI 14) dX12_init_38 (by decide) ?_
  refine Rp.newaA (n + 4) 0 14 hn8 dX12_init_40 ⟨rfl, by decide, ac_0⟩ (by decide) ?_
  refine Rp.nm (fun h9 e9 => ?_)
  have s9_k : h9.1[k]? = some (12, clN 12) := by rw [e9]; exact sh_old s8_k
  have s9_1 : h9.1[(n + 1)]? = some (13, 5716) := by rw [e9]; exact sh_old s8_1
  have hn9 : aN h9 = (n + 5) := by rw [e9, aN_new, hn8]
  have g9_k_2 : gR h9 k 2 = some (n + 1) := by rw [e9]; exact gq_new (by rw [hn8]; exact (ne_k hlt 4)) g8_k_2
  refine Rp.putR dX12_init_42 fk_X12_34w (fun _ => rfl) (Or.inr ⟨_, rfl⟩) s9_k ?_
  refine Rp.nm (fun h10 e10 => ?_)
  have s10_k : h10.1[k]? = some (12, clN 12) := by rw [e10]; exact s9_k
  have s10_1 : h10.1[(n + 1)]? = some (13, 5716) := by rw [e10]; exact s9_1
  have hn10 : aN h10 = (n + 5) := by rw [e10]; exact hn9
  have g10_k_2 : gR h10 k 2 = some (n + 1) := by rw [e10]; exact gq_sRj (by decide) g9_k_2
  refine Rp.aload_n dX12_init_45 rfl rfl ?_
  refine Rp.sipush (nI 157) dX12_init_46 (by decide) ?_
  refine Rp.newaA (n + 5) 1 157 hn10 dX12_init_49 ⟨rfl, by decide, ac_1⟩ (by decide) ?_
  refine Rp.nm (fun h11 e11 => ?_)
  have s11_k : h11.1[k]? = some (12, clN 12) := by rw [e11]; exact sh_old s10_k
  have s11_1 : h11.1[(n + 1)]? = some (13, 5716) := by rw [e11]; exact sh_old s10_1
  have hn11 : aN h11 = (n + 6) := by rw [e11, aN_new, hn10]
  have g11_k_2 : gR h11 k 2 = some (n + 1) := by rw [e11]; exact gq_new (by rw [hn10]; exact (ne_k hlt 5)) g10_k_2
  have s11_5 : h11.1[(n + 5)]? = some (14, 157) := by rw [e11]; exact sh_new hn10
  refine Rp.dup dX12_init_51 rfl ?_
  refine Rp.iconst (nI 0) dX12_init_52 (by decide) ?_
  refine Rp.bipush (nI 116) dX12_init_53 (by decide) ?_
  refine Rp.bastoreN dX12_init_55 s11_5 (by omega) ?_
  refine Rp.nm (fun h12 e12 => ?_)
  have s12_k : h12.1[k]? = some (12, clN 12) := by rw [e12]; exact s11_k
  have s12_1 : h12.1[(n + 1)]? = some (13, 5716) := by rw [e12]; exact s11_1
  have s12_5 : h12.1[(n + 5)]? = some (14, 157) := by rw [e12]; exact s11_5
  have hn12 : aN h12 = (n + 6) := by rw [e12]; exact hn11
  have g12_k_2 : gR h12 k 2 = some (n + 1) := by rw [e12]; exact g11_k_2
  refine Rp.dup dX12_init_56 rfl ?_
  refine Rp.iconst (nI 1) dX12_init_57 (by decide) ?_
  refine Rp.bipush (nI 97) dX12_init_58 (by decide) ?_
  refine Rp.bastoreN dX12_init_60 s12_5 (by omega) ?_
  refine Rp.nm (fun h13 e13 => ?_)
  have s13_k : h13.1[k]? = some (12, clN 12) := by rw [e13]; exact s12_k
  have s13_1 : h13.1[(n + 1)]? = some (13, 5716) := by rw [e13]; exact s12_1
  have s13_5 : h13.1[(n + 5)]? = some (14, 157) := by rw [e13]; exact s12_5
  have hn13 : aN h13 = (n + 6) := by rw [e13]; exact hn12
  have g13_k_2 : gR h13 k 2 = some (n + 1) := by rw [e13]; exact g12_k_2
  refine Rp.dup dX12_init_61 rfl ?_
  refine Rp.iconst (nI 2) dX12_init_62 (by decide) ?_
  refine Rp.bipush (nI 107) dX12_init_63 (by decide) ?_
  refine Rp.bastoreN dX12_init_65 s13_5 (by omega) ?_
  refine Rp.nm (fun h14 e14 => ?_)
  have s14_k : h14.1[k]? = some (12, clN 12) := by rw [e14]; exact s13_k
  have s14_1 : h14.1[(n + 1)]? = some (13, 5716) := by rw [e14]; exact s13_1
  have s14_5 : h14.1[(n + 5)]? = some (14, 157) := by rw [e14]; exact s13_5
  have hn14 : aN h14 = (n + 6) := by rw [e14]; exact hn13
  have g14_k_2 : gR h14 k 2 = some (n + 1) := by rw [e14]; exact g13_k_2
  refine Rp.dup dX12_init_66 rfl ?_
  refine Rp.iconst (nI 3) dX12_init_67 (by decide) ?_
  refine Rp.bipush (nI 101) dX12_init_68 (by decide) ?_
  refine Rp.bastoreN dX12_init_70 s14_5 (by omega) ?_
  refine Rp.nm (fun h15 e15 => ?_)
  have s15_k : h15.1[k]? = some (12, clN 12) := by rw [e15]; exact s14_k
  have s15_1 : h15.1[(n + 1)]? = some (13, 5716) := by rw [e15]; exact s14_1
  have s15_5 : h15.1[(n + 5)]? = some (14, 157) := by rw [e15]; exact s14_5
  have hn15 : aN h15 = (n + 6) := by rw [e15]; exact hn14
  have g15_k_2 : gR h15 k 2 = some (n + 1) := by rw [e15]; exact g14_k_2
  refine Rp.dup dX12_init_71 rfl ?_
  refine Rp.iconst (nI 4) dX12_init_72 (by decide) ?_
  refine Rp.bipush (nI 115) dX12_init_73 (by decide) ?_
  refine Rp.bastoreN dX12_init_75 s15_5 (by omega) ?_
  refine Rp.nm (fun h16 e16 => ?_)
  have s16_k : h16.1[k]? = some (12, clN 12) := by rw [e16]; exact s15_k
  have s16_1 : h16.1[(n + 1)]? = some (13, 5716) := by rw [e16]; exact s15_1
  have s16_5 : h16.1[(n + 5)]? = some (14, 157) := by rw [e16]; exact s15_5
  have hn16 : aN h16 = (n + 6) := by rw [e16]; exact hn15
  have g16_k_2 : gR h16 k 2 = some (n + 1) := by rw [e16]; exact g15_k_2
  refine Rp.dup dX12_init_76 rfl ?_
  refine Rp.iconst (nI 5) dX12_init_77 (by decide) ?_
  refine Rp.bipush (nI 32) dX12_init_78 (by decide) ?_
  refine Rp.bastoreN dX12_init_80 s16_5 (by omega) ?_
  refine Rp.nm (fun h17 e17 => ?_)
  have s17_k : h17.1[k]? = some (12, clN 12) := by rw [e17]; exact s16_k
  have s17_1 : h17.1[(n + 1)]? = some (13, 5716) := by rw [e17]; exact s16_1
  have s17_5 : h17.1[(n + 5)]? = some (14, 157) := by rw [e17]; exact s16_5
  have hn17 : aN h17 = (n + 6) := by rw [e17]; exact hn16
  have g17_k_2 : gR h17 k 2 = some (n + 1) := by rw [e17]; exact g16_k_2
  refine Rp.dup dX12_init_81 rfl ?_
  refine Rp.bipush (nI 6) dX12_init_82 (by decide) ?_
  refine Rp.bipush (nI 99) dX12_init_84 (by decide) ?_
  refine Rp.bastoreN dX12_init_86 s17_5 (by omega) ?_
  refine Rp.nm (fun h18 e18 => ?_)
  have s18_k : h18.1[k]? = some (12, clN 12) := by rw [e18]; exact s17_k
  have s18_1 : h18.1[(n + 1)]? = some (13, 5716) := by rw [e18]; exact s17_1
  have s18_5 : h18.1[(n + 5)]? = some (14, 157) := by rw [e18]; exact s17_5
  have hn18 : aN h18 = (n + 6) := by rw [e18]; exact hn17
  have g18_k_2 : gR h18 k 2 = some (n + 1) := by rw [e18]; exact g17_k_2
  refine Rp.dup dX12_init_87 rfl ?_
  refine Rp.bipush (nI 7) dX12_init_88 (by decide) ?_
  refine Rp.bipush (nI 111) dX12_init_90 (by decide) ?_
  refine Rp.bastoreN dX12_init_92 s18_5 (by omega) ?_
  refine Rp.nm (fun h19 e19 => ?_)
  have s19_k : h19.1[k]? = some (12, clN 12) := by rw [e19]; exact s18_k
  have s19_1 : h19.1[(n + 1)]? = some (13, 5716) := by rw [e19]; exact s18_1
  have s19_5 : h19.1[(n + 5)]? = some (14, 157) := by rw [e19]; exact s18_5
  have hn19 : aN h19 = (n + 6) := by rw [e19]; exact hn18
  have g19_k_2 : gR h19 k 2 = some (n + 1) := by rw [e19]; exact g18_k_2
  refine Rp.dup dX12_init_93 rfl ?_
  refine Rp.bipush (nI 8) dX12_init_94 (by decide) ?_
  refine Rp.bipush (nI 115) dX12_init_96 (by decide) ?_
  refine Rp.bastoreN dX12_init_98 s19_5 (by omega) ?_
  refine Rp.nm (fun h20 e20 => ?_)
  have s20_k : h20.1[k]? = some (12, clN 12) := by rw [e20]; exact s19_k
  have s20_1 : h20.1[(n + 1)]? = some (13, 5716) := by rw [e20]; exact s19_1
  have s20_5 : h20.1[(n + 5)]? = some (14, 157) := by rw [e20]; exact s19_5
  have hn20 : aN h20 = (n + 6) := by rw [e20]; exact hn19
  have g20_k_2 : gR h20 k 2 = some (n + 1) := by rw [e20]; exact g19_k_2
  refine Rp.dup dX12_init_99 rfl ?_
  refine Rp.bipush (nI 9) dX12_init_100 (by decide) ?_
  refine Rp.bipush (nI 116) dX12_init_102 (by decide) ?_
  refine Rp.bastoreN dX12_init_104 s20_5 (by omega) ?_
  refine Rp.nm (fun h21 e21 => ?_)
  have s21_k : h21.1[k]? = some (12, clN 12) := by rw [e21]; exact s20_k
  have s21_1 : h21.1[(n + 1)]? = some (13, 5716) := by rw [e21]; exact s20_1
  have s21_5 : h21.1[(n + 5)]? = some (14, 157) := by rw [e21]; exact s20_5
  have hn21 : aN h21 = (n + 6) := by rw [e21]; exact hn20
  have g21_k_2 : gR h21 k 2 = some (n + 1) := by rw [e21]; exact g20_k_2
  refine Rp.dup dX12_init_105 rfl ?_
  refine Rp.bipush (nI 10) dX12_init_106 (by decide) ?_
  refine Rp.bipush (nI 115) dX12_init_108 (by decide) ?_
  refine Rp.bastoreN dX12_init_110 s21_5 (by omega) ?_
  refine Rp.nm (fun h22 e22 => ?_)
  have s22_k : h22.1[k]? = some (12, clN 12) := by rw [e22]; exact s21_k
  have s22_1 : h22.1[(n + 1)]? = some (13, 5716) := by rw [e22]; exact s21_1
  have s22_5 : h22.1[(n + 5)]? = some (14, 157) := by rw [e22]; exact s21_5
  have hn22 : aN h22 = (n + 6) := by rw [e22]; exact hn21
  have g22_k_2 : gR h22 k 2 = some (n + 1) := by rw [e22]; exact g21_k_2
  refine Rp.dup dX12_init_111 rfl ?_
  refine Rp.bipush (nI 11) dX12_init_112 (by decide) ?_
  refine Rp.bipush (nI 32) dX12_init_114 (by decide) ?_
  refine Rp.bastoreN dX12_init_116 s22_5 (by omega) ?_
  refine Rp.nm (fun h23 e23 => ?_)
  have s23_k : h23.1[k]? = some (12, clN 12) := by rw [e23]; exact s22_k
  have s23_1 : h23.1[(n + 1)]? = some (13, 5716) := by rw [e23]; exact s22_1
  have s23_5 : h23.1[(n + 5)]? = some (14, 157) := by rw [e23]; exact s22_5
  have hn23 : aN h23 = (n + 6) := by rw [e23]; exact hn22
  have g23_k_2 : gR h23 k 2 = some (n + 1) := by rw [e23]; exact g22_k_2
  refine Rp.dup dX12_init_117 rfl ?_
  refine Rp.bipush (nI 12) dX12_init_118 (by decide) ?_
  refine Rp.bipush (nI 102) dX12_init_120 (by decide) ?_
  refine Rp.bastoreN dX12_init_122 s23_5 (by omega) ?_
  refine Rp.nm (fun h24 e24 => ?_)
  have s24_k : h24.1[k]? = some (12, clN 12) := by rw [e24]; exact s23_k
  have s24_1 : h24.1[(n + 1)]? = some (13, 5716) := by rw [e24]; exact s23_1
  have s24_5 : h24.1[(n + 5)]? = some (14, 157) := by rw [e24]; exact s23_5
  have hn24 : aN h24 = (n + 6) := by rw [e24]; exact hn23
  have g24_k_2 : gR h24 k 2 = some (n + 1) := by rw [e24]; exact g23_k_2
  refine Rp.dup dX12_init_123 rfl ?_
  refine Rp.bipush (nI 13) dX12_init_124 (by decide) ?_
  refine Rp.bipush (nI 105) dX12_init_126 (by decide) ?_
  refine Rp.bastoreN dX12_init_128 s24_5 (by omega) ?_
  refine Rp.nm (fun h25 e25 => ?_)
  have s25_k : h25.1[k]? = some (12, clN 12) := by rw [e25]; exact s24_k
  have s25_1 : h25.1[(n + 1)]? = some (13, 5716) := by rw [e25]; exact s24_1
  have s25_5 : h25.1[(n + 5)]? = some (14, 157) := by rw [e25]; exact s24_5
  have hn25 : aN h25 = (n + 6) := by rw [e25]; exact hn24
  have g25_k_2 : gR h25 k 2 = some (n + 1) := by rw [e25]; exact g24_k_2
  refine Rp.dup dX12_init_129 rfl ?_
  refine Rp.bipush (nI 14) dX12_init_130 (by decide) ?_
  refine Rp.bipush (nI 116) dX12_init_132 (by decide) ?_
  refine Rp.bastoreN dX12_init_134 s25_5 (by omega) ?_
  refine Rp.nm (fun h26 e26 => ?_)
  have s26_k : h26.1[k]? = some (12, clN 12) := by rw [e26]; exact s25_k
  have s26_1 : h26.1[(n + 1)]? = some (13, 5716) := by rw [e26]; exact s25_1
  have s26_5 : h26.1[(n + 5)]? = some (14, 157) := by rw [e26]; exact s25_5
  have hn26 : aN h26 = (n + 6) := by rw [e26]; exact hn25
  have g26_k_2 : gR h26 k 2 = some (n + 1) := by rw [e26]; exact g25_k_2
  refine Rp.dup dX12_init_135 rfl ?_
  refine Rp.bipush (nI 15) dX12_init_136 (by decide) ?_
  refine Rp.bipush (nI 115) dX12_init_138 (by decide) ?_
  refine Rp.bastoreN dX12_init_140 s26_5 (by omega) ?_
  refine Rp.nm (fun h27 e27 => ?_)
  have s27_k : h27.1[k]? = some (12, clN 12) := by rw [e27]; exact s26_k
  have s27_1 : h27.1[(n + 1)]? = some (13, 5716) := by rw [e27]; exact s26_1
  have s27_5 : h27.1[(n + 5)]? = some (14, 157) := by rw [e27]; exact s26_5
  have hn27 : aN h27 = (n + 6) := by rw [e27]; exact hn26
  have g27_k_2 : gR h27 k 2 = some (n + 1) := by rw [e27]; exact g26_k_2
  refine Rp.dup dX12_init_141 rfl ?_
  refine Rp.bipush (nI 16) dX12_init_142 (by decide) ?_
  refine Rp.bipush (nI 32) dX12_init_144 (by decide) ?_
  refine Rp.bastoreN dX12_init_146 s27_5 (by omega) ?_
  refine Rp.nm (fun h28 e28 => ?_)
  have s28_k : h28.1[k]? = some (12, clN 12) := by rw [e28]; exact s27_k
  have s28_1 : h28.1[(n + 1)]? = some (13, 5716) := by rw [e28]; exact s27_1
  have s28_5 : h28.1[(n + 5)]? = some (14, 157) := by rw [e28]; exact s27_5
  have hn28 : aN h28 = (n + 6) := by rw [e28]; exact hn27
  have g28_k_2 : gR h28 k 2 = some (n + 1) := by rw [e28]; exact g27_k_2
  refine Rp.dup dX12_init_147 rfl ?_
  refine Rp.bipush (nI 17) dX12_init_148 (by decide) ?_
  refine Rp.bipush (nI 98) dX12_init_150 (by decide) ?_
  refine Rp.bastoreN dX12_init_152 s28_5 (by omega) ?_
  refine Rp.nm (fun h29 e29 => ?_)
  have s29_k : h29.1[k]? = some (12, clN 12) := by rw [e29]; exact s28_k
  have s29_1 : h29.1[(n + 1)]? = some (13, 5716) := by rw [e29]; exact s28_1
  have s29_5 : h29.1[(n + 5)]? = some (14, 157) := by rw [e29]; exact s28_5
  have hn29 : aN h29 = (n + 6) := by rw [e29]; exact hn28
  have g29_k_2 : gR h29 k 2 = some (n + 1) := by rw [e29]; exact g28_k_2
  refine Rp.dup dX12_init_153 rfl ?_
  refine Rp.bipush (nI 18) dX12_init_154 (by decide) ?_
  refine Rp.bipush (nI 97) dX12_init_156 (by decide) ?_
  refine Rp.bastoreN dX12_init_158 s29_5 (by omega) ?_
  refine Rp.nm (fun h30 e30 => ?_)
  have s30_k : h30.1[k]? = some (12, clN 12) := by rw [e30]; exact s29_k
  have s30_1 : h30.1[(n + 1)]? = some (13, 5716) := by rw [e30]; exact s29_1
  have s30_5 : h30.1[(n + 5)]? = some (14, 157) := by rw [e30]; exact s29_5
  have hn30 : aN h30 = (n + 6) := by rw [e30]; exact hn29
  have g30_k_2 : gR h30 k 2 = some (n + 1) := by rw [e30]; exact g29_k_2
  refine Rp.dup dX12_init_159 rfl ?_
  refine Rp.bipush (nI 19) dX12_init_160 (by decide) ?_
  refine Rp.bipush (nI 114) dX12_init_162 (by decide) ?_
  refine Rp.bastoreN dX12_init_164 s30_5 (by omega) ?_
  refine Rp.nm (fun h31 e31 => ?_)
  have s31_k : h31.1[k]? = some (12, clN 12) := by rw [e31]; exact s30_k
  have s31_1 : h31.1[(n + 1)]? = some (13, 5716) := by rw [e31]; exact s30_1
  have s31_5 : h31.1[(n + 5)]? = some (14, 157) := by rw [e31]; exact s30_5
  have hn31 : aN h31 = (n + 6) := by rw [e31]; exact hn30
  have g31_k_2 : gR h31 k 2 = some (n + 1) := by rw [e31]; exact g30_k_2
  refine Rp.dup dX12_init_165 rfl ?_
  refine Rp.bipush (nI 20) dX12_init_166 (by decide) ?_
  refine Rp.bipush (nI 115) dX12_init_168 (by decide) ?_
  refine Rp.bastoreN dX12_init_170 s31_5 (by omega) ?_
  refine Rp.nm (fun h32 e32 => ?_)
  have s32_k : h32.1[k]? = some (12, clN 12) := by rw [e32]; exact s31_k
  have s32_1 : h32.1[(n + 1)]? = some (13, 5716) := by rw [e32]; exact s31_1
  have s32_5 : h32.1[(n + 5)]? = some (14, 157) := by rw [e32]; exact s31_5
  have hn32 : aN h32 = (n + 6) := by rw [e32]; exact hn31
  have g32_k_2 : gR h32 k 2 = some (n + 1) := by rw [e32]; exact g31_k_2
  refine Rp.dup dX12_init_171 rfl ?_
  refine Rp.bipush (nI 21) dX12_init_172 (by decide) ?_
  refine Rp.bipush (nI 32) dX12_init_174 (by decide) ?_
  refine Rp.bastoreN dX12_init_176 s32_5 (by omega) ?_
  refine Rp.nm (fun h33 e33 => ?_)
  have s33_k : h33.1[k]? = some (12, clN 12) := by rw [e33]; exact s32_k
  have s33_1 : h33.1[(n + 1)]? = some (13, 5716) := by rw [e33]; exact s32_1
  have s33_5 : h33.1[(n + 5)]? = some (14, 157) := by rw [e33]; exact s32_5
  have hn33 : aN h33 = (n + 6) := by rw [e33]; exact hn32
  have g33_k_2 : gR h33 k 2 = some (n + 1) := by rw [e33]; exact g32_k_2
  refine Rp.dup dX12_init_177 rfl ?_
  refine Rp.bipush (nI 22) dX12_init_178 (by decide) ?_
  refine Rp.bipush (nI 105) dX12_init_180 (by decide) ?_
  refine Rp.bastoreN dX12_init_182 s33_5 (by omega) ?_
  refine Rp.nm (fun h34 e34 => ?_)
  have s34_k : h34.1[k]? = some (12, clN 12) := by rw [e34]; exact s33_k
  have s34_1 : h34.1[(n + 1)]? = some (13, 5716) := by rw [e34]; exact s33_1
  have s34_5 : h34.1[(n + 5)]? = some (14, 157) := by rw [e34]; exact s33_5
  have hn34 : aN h34 = (n + 6) := by rw [e34]; exact hn33
  have g34_k_2 : gR h34 k 2 = some (n + 1) := by rw [e34]; exact g33_k_2
  refine Rp.dup dX12_init_183 rfl ?_
  refine Rp.bipush (nI 23) dX12_init_184 (by decide) ?_
  refine Rp.bipush (nI 102) dX12_init_186 (by decide) ?_
  refine Rp.bastoreN dX12_init_188 s34_5 (by omega) ?_
  refine Rp.nm (fun h35 e35 => ?_)
  have s35_k : h35.1[k]? = some (12, clN 12) := by rw [e35]; exact s34_k
  have s35_1 : h35.1[(n + 1)]? = some (13, 5716) := by rw [e35]; exact s34_1
  have s35_5 : h35.1[(n + 5)]? = some (14, 157) := by rw [e35]; exact s34_5
  have hn35 : aN h35 = (n + 6) := by rw [e35]; exact hn34
  have g35_k_2 : gR h35 k 2 = some (n + 1) := by rw [e35]; exact g34_k_2
  refine Rp.dup dX12_init_189 rfl ?_
  refine Rp.bipush (nI 24) dX12_init_190 (by decide) ?_
  refine Rp.bipush (nI 32) dX12_init_192 (by decide) ?_
  refine Rp.bastoreN dX12_init_194 s35_5 (by omega) ?_
  refine Rp.nm (fun h36 e36 => ?_)
  have s36_k : h36.1[k]? = some (12, clN 12) := by rw [e36]; exact s35_k
  have s36_1 : h36.1[(n + 1)]? = some (13, 5716) := by rw [e36]; exact s35_1
  have s36_5 : h36.1[(n + 5)]? = some (14, 157) := by rw [e36]; exact s35_5
  have hn36 : aN h36 = (n + 6) := by rw [e36]; exact hn35
  have g36_k_2 : gR h36 k 2 = some (n + 1) := by rw [e36]; exact g35_k_2
  refine Rp.dup dX12_init_195 rfl ?_
  refine Rp.bipush (nI 25) dX12_init_196 (by decide) ?_
  refine Rp.bipush (nI 111) dX12_init_198 (by decide) ?_
  refine Rp.bastoreN dX12_init_200 s36_5 (by omega) ?_
  refine Rp.nm (fun h37 e37 => ?_)
  have s37_k : h37.1[k]? = some (12, clN 12) := by rw [e37]; exact s36_k
  have s37_1 : h37.1[(n + 1)]? = some (13, 5716) := by rw [e37]; exact s36_1
  have s37_5 : h37.1[(n + 5)]? = some (14, 157) := by rw [e37]; exact s36_5
  have hn37 : aN h37 = (n + 6) := by rw [e37]; exact hn36
  have g37_k_2 : gR h37 k 2 = some (n + 1) := by rw [e37]; exact g36_k_2
  refine Rp.dup dX12_init_201 rfl ?_
  refine Rp.bipush (nI 26) dX12_init_202 (by decide) ?_
  refine Rp.bipush (nI 114) dX12_init_204 (by decide) ?_
  refine Rp.bastoreN dX12_init_206 s37_5 (by omega) ?_
  refine Rp.nm (fun h38 e38 => ?_)
  have s38_k : h38.1[k]? = some (12, clN 12) := by rw [e38]; exact s37_k
  have s38_1 : h38.1[(n + 1)]? = some (13, 5716) := by rw [e38]; exact s37_1
  have s38_5 : h38.1[(n + 5)]? = some (14, 157) := by rw [e38]; exact s37_5
  have hn38 : aN h38 = (n + 6) := by rw [e38]; exact hn37
  have g38_k_2 : gR h38 k 2 = some (n + 1) := by rw [e38]; exact g37_k_2
  refine Rp.dup dX12_init_207 rfl ?_
  refine Rp.bipush (nI 27) dX12_init_208 (by decide) ?_
  refine Rp.bipush (nI 32) dX12_init_210 (by decide) ?_
  refine Rp.bastoreN dX12_init_212 s38_5 (by omega) ?_
  refine Rp.nm (fun h39 e39 => ?_)
  have s39_k : h39.1[k]? = some (12, clN 12) := by rw [e39]; exact s38_k
  have s39_1 : h39.1[(n + 1)]? = some (13, 5716) := by rw [e39]; exact s38_1
  have s39_5 : h39.1[(n + 5)]? = some (14, 157) := by rw [e39]; exact s38_5
  have hn39 : aN h39 = (n + 6) := by rw [e39]; exact hn38
  have g39_k_2 : gR h39 k 2 = some (n + 1) := by rw [e39]; exact g38_k_2
  refine Rp.dup dX12_init_213 rfl ?_
  refine Rp.bipush (nI 28) dX12_init_214 (by decide) ?_
  refine Rp.bipush (nI 97) dX12_init_216 (by decide) ?_
  refine Rp.bastoreN dX12_init_218 s39_5 (by omega) ?_
  refine Rp.nm (fun h40 e40 => ?_)
  have s40_k : h40.1[k]? = some (12, clN 12) := by rw [e40]; exact s39_k
  have s40_1 : h40.1[(n + 1)]? = some (13, 5716) := by rw [e40]; exact s39_1
  have s40_5 : h40.1[(n + 5)]? = some (14, 157) := by rw [e40]; exact s39_5
  have hn40 : aN h40 = (n + 6) := by rw [e40]; exact hn39
  have g40_k_2 : gR h40 k 2 = some (n + 1) := by rw [e40]; exact g39_k_2
  refine Rp.dup dX12_init_219 rfl ?_
  refine Rp.bipush (nI 29) dX12_init_220 (by decide) ?_
  refine Rp.bipush (nI 110) dX12_init_222 (by decide) ?_
  refine Rp.bastoreN dX12_init_224 s40_5 (by omega) ?_
  refine Rp.nm (fun h41 e41 => ?_)
  have s41_k : h41.1[k]? = some (12, clN 12) := by rw [e41]; exact s40_k
  have s41_1 : h41.1[(n + 1)]? = some (13, 5716) := by rw [e41]; exact s40_1
  have s41_5 : h41.1[(n + 5)]? = some (14, 157) := by rw [e41]; exact s40_5
  have hn41 : aN h41 = (n + 6) := by rw [e41]; exact hn40
  have g41_k_2 : gR h41 k 2 = some (n + 1) := by rw [e41]; exact g40_k_2
  refine Rp.dup dX12_init_225 rfl ?_
  refine Rp.bipush (nI 30) dX12_init_226 (by decide) ?_
  refine Rp.bipush (nI 100) dX12_init_228 (by decide) ?_
  refine Rp.bastoreN dX12_init_230 s41_5 (by omega) ?_
  refine Rp.nm (fun h42 e42 => ?_)
  have s42_k : h42.1[k]? = some (12, clN 12) := by rw [e42]; exact s41_k
  have s42_1 : h42.1[(n + 1)]? = some (13, 5716) := by rw [e42]; exact s41_1
  have s42_5 : h42.1[(n + 5)]? = some (14, 157) := by rw [e42]; exact s41_5
  have hn42 : aN h42 = (n + 6) := by rw [e42]; exact hn41
  have g42_k_2 : gR h42 k 2 = some (n + 1) := by rw [e42]; exact g41_k_2
  refine Rp.dup dX12_init_231 rfl ?_
  refine Rp.bipush (nI 31) dX12_init_232 (by decide) ?_
  refine Rp.bipush (nI 32) dX12_init_234 (by decide) ?_
  refine Rp.bastoreN dX12_init_236 s42_5 (by omega) ?_
  refine Rp.nm (fun h43 e43 => ?_)
  have s43_k : h43.1[k]? = some (12, clN 12) := by rw [e43]; exact s42_k
  have s43_1 : h43.1[(n + 1)]? = some (13, 5716) := by rw [e43]; exact s42_1
  have s43_5 : h43.1[(n + 5)]? = some (14, 157) := by rw [e43]; exact s42_5
  have hn43 : aN h43 = (n + 6) := by rw [e43]; exact hn42
  have g43_k_2 : gR h43 k 2 = some (n + 1) := by rw [e43]; exact g42_k_2
  refine Rp.dup dX12_init_237 rfl ?_
  refine Rp.bipush (nI 32) dX12_init_238 (by decide) ?_
  refine Rp.bipush (nI 110) dX12_init_240 (by decide) ?_
  refine Rp.bastoreN dX12_init_242 s43_5 (by omega) ?_
  refine Rp.nm (fun h44 e44 => ?_)
  have s44_k : h44.1[k]? = some (12, clN 12) := by rw [e44]; exact s43_k
  have s44_1 : h44.1[(n + 1)]? = some (13, 5716) := by rw [e44]; exact s43_1
  have s44_5 : h44.1[(n + 5)]? = some (14, 157) := by rw [e44]; exact s43_5
  have hn44 : aN h44 = (n + 6) := by rw [e44]; exact hn43
  have g44_k_2 : gR h44 k 2 = some (n + 1) := by rw [e44]; exact g43_k_2
  refine Rp.dup dX12_init_243 rfl ?_
  refine Rp.bipush (nI 33) dX12_init_244 (by decide) ?_
  refine Rp.bipush (nI 111) dX12_init_246 (by decide) ?_
  refine Rp.bastoreN dX12_init_248 s44_5 (by omega) ?_
  refine Rp.nm (fun h45 e45 => ?_)
  have s45_k : h45.1[k]? = some (12, clN 12) := by rw [e45]; exact s44_k
  have s45_1 : h45.1[(n + 1)]? = some (13, 5716) := by rw [e45]; exact s44_1
  have s45_5 : h45.1[(n + 5)]? = some (14, 157) := by rw [e45]; exact s44_5
  have hn45 : aN h45 = (n + 6) := by rw [e45]; exact hn44
  have g45_k_2 : gR h45 k 2 = some (n + 1) := by rw [e45]; exact g44_k_2
  refine Rp.dup dX12_init_249 rfl ?_
  refine Rp.bipush (nI 34) dX12_init_250 (by decide) ?_
  refine Rp.bipush (nI 116) dX12_init_252 (by decide) ?_
  refine Rp.bastoreN dX12_init_254 s45_5 (by omega) ?_
  refine Rp.nm (fun h46 e46 => ?_)
  have s46_k : h46.1[k]? = some (12, clN 12) := by rw [e46]; exact s45_k
  have s46_1 : h46.1[(n + 1)]? = some (13, 5716) := by rw [e46]; exact s45_1
  have s46_5 : h46.1[(n + 5)]? = some (14, 157) := by rw [e46]; exact s45_5
  have hn46 : aN h46 = (n + 6) := by rw [e46]; exact hn45
  have g46_k_2 : gR h46 k 2 = some (n + 1) := by rw [e46]; exact g45_k_2
  refine Rp.dup dX12_init_255 rfl ?_
  refine Rp.bipush (nI 35) dX12_init_256 (by decide) ?_
  refine Rp.bipush (nI 32) dX12_init_258 (by decide) ?_
  refine Rp.bastoreN dX12_init_260 s46_5 (by omega) ?_
  refine Rp.nm (fun h47 e47 => ?_)
  have s47_k : h47.1[k]? = some (12, clN 12) := by rw [e47]; exact s46_k
  have s47_1 : h47.1[(n + 1)]? = some (13, 5716) := by rw [e47]; exact s46_1
  have s47_5 : h47.1[(n + 5)]? = some (14, 157) := by rw [e47]; exact s46_5
  have hn47 : aN h47 = (n + 6) := by rw [e47]; exact hn46
  have g47_k_2 : gR h47 k 2 = some (n + 1) := by rw [e47]; exact g46_k_2
  refine Rp.dup dX12_init_261 rfl ?_
  refine Rp.bipush (nI 36) dX12_init_262 (by decide) ?_
  refine Rp.bipush (nI 112) dX12_init_264 (by decide) ?_
  refine Rp.bastoreN dX12_init_266 s47_5 (by omega) ?_
  refine Rp.nm (fun h48 e48 => ?_)
  have s48_k : h48.1[k]? = some (12, clN 12) := by rw [e48]; exact s47_k
  have s48_1 : h48.1[(n + 1)]? = some (13, 5716) := by rw [e48]; exact s47_1
  have s48_5 : h48.1[(n + 5)]? = some (14, 157) := by rw [e48]; exact s47_5
  have hn48 : aN h48 = (n + 6) := by rw [e48]; exact hn47
  have g48_k_2 : gR h48 k 2 = some (n + 1) := by rw [e48]; exact g47_k_2
  refine Rp.dup dX12_init_267 rfl ?_
  refine Rp.bipush (nI 37) dX12_init_268 (by decide) ?_
  refine Rp.bipush (nI 101) dX12_init_270 (by decide) ?_
  refine Rp.bastoreN dX12_init_272 s48_5 (by omega) ?_
  refine Rp.nm (fun h49 e49 => ?_)
  have s49_k : h49.1[k]? = some (12, clN 12) := by rw [e49]; exact s48_k
  have s49_1 : h49.1[(n + 1)]? = some (13, 5716) := by rw [e49]; exact s48_1
  have s49_5 : h49.1[(n + 5)]? = some (14, 157) := by rw [e49]; exact s48_5
  have hn49 : aN h49 = (n + 6) := by rw [e49]; exact hn48
  have g49_k_2 : gR h49 k 2 = some (n + 1) := by rw [e49]; exact g48_k_2
  refine Rp.dup dX12_init_273 rfl ?_
  refine Rp.bipush (nI 38) dX12_init_274 (by decide) ?_
  refine Rp.bipush (nI 114) dX12_init_276 (by decide) ?_
  refine Rp.bastoreN dX12_init_278 s49_5 (by omega) ?_
  refine Rp.nm (fun h50 e50 => ?_)
  have s50_k : h50.1[k]? = some (12, clN 12) := by rw [e50]; exact s49_k
  have s50_1 : h50.1[(n + 1)]? = some (13, 5716) := by rw [e50]; exact s49_1
  have s50_5 : h50.1[(n + 5)]? = some (14, 157) := by rw [e50]; exact s49_5
  have hn50 : aN h50 = (n + 6) := by rw [e50]; exact hn49
  have g50_k_2 : gR h50 k 2 = some (n + 1) := by rw [e50]; exact g49_k_2
  refine Rp.dup dX12_init_279 rfl ?_
  refine Rp.bipush (nI 39) dX12_init_280 (by decide) ?_
  refine Rp.bipush (nI 115) dX12_init_282 (by decide) ?_
  refine Rp.bastoreN dX12_init_284 s50_5 (by omega) ?_
  refine Rp.nm (fun h51 e51 => ?_)
  have s51_k : h51.1[k]? = some (12, clN 12) := by rw [e51]; exact s50_k
  have s51_1 : h51.1[(n + 1)]? = some (13, 5716) := by rw [e51]; exact s50_1
  have s51_5 : h51.1[(n + 5)]? = some (14, 157) := by rw [e51]; exact s50_5
  have hn51 : aN h51 = (n + 6) := by rw [e51]; exact hn50
  have g51_k_2 : gR h51 k 2 = some (n + 1) := by rw [e51]; exact g50_k_2
  refine Rp.dup dX12_init_285 rfl ?_
  refine Rp.bipush (nI 40) dX12_init_286 (by decide) ?_
  refine Rp.bipush (nI 111) dX12_init_288 (by decide) ?_
  refine Rp.bastoreN dX12_init_290 s51_5 (by omega) ?_
  refine Rp.nm (fun h52 e52 => ?_)
  have s52_k : h52.1[k]? = some (12, clN 12) := by rw [e52]; exact s51_k
  have s52_1 : h52.1[(n + 1)]? = some (13, 5716) := by rw [e52]; exact s51_1
  have s52_5 : h52.1[(n + 5)]? = some (14, 157) := by rw [e52]; exact s51_5
  have hn52 : aN h52 = (n + 6) := by rw [e52]; exact hn51
  have g52_k_2 : gR h52 k 2 = some (n + 1) := by rw [e52]; exact g51_k_2
  refine Rp.dup dX12_init_291 rfl ?_
  refine Rp.bipush (nI 41) dX12_init_292 (by decide) ?_
  refine Rp.bipush (nI 110) dX12_init_294 (by decide) ?_
  refine Rp.bastoreN dX12_init_296 s52_5 (by omega) ?_
  refine Rp.nm (fun h53 e53 => ?_)
  have s53_k : h53.1[k]? = some (12, clN 12) := by rw [e53]; exact s52_k
  have s53_1 : h53.1[(n + 1)]? = some (13, 5716) := by rw [e53]; exact s52_1
  have s53_5 : h53.1[(n + 5)]? = some (14, 157) := by rw [e53]; exact s52_5
  have hn53 : aN h53 = (n + 6) := by rw [e53]; exact hn52
  have g53_k_2 : gR h53 k 2 = some (n + 1) := by rw [e53]; exact g52_k_2
  refine Rp.dup dX12_init_297 rfl ?_
  refine Rp.bipush (nI 42) dX12_init_298 (by decide) ?_
  refine Rp.bipush (nI 32) dX12_init_300 (by decide) ?_
  refine Rp.bastoreN dX12_init_302 s53_5 (by omega) ?_
  refine Rp.nm (fun h54 e54 => ?_)
  have s54_k : h54.1[k]? = some (12, clN 12) := by rw [e54]; exact s53_k
  have s54_1 : h54.1[(n + 1)]? = some (13, 5716) := by rw [e54]; exact s53_1
  have s54_5 : h54.1[(n + 5)]? = some (14, 157) := by rw [e54]; exact s53_5
  have hn54 : aN h54 = (n + 6) := by rw [e54]; exact hn53
  have g54_k_2 : gR h54 k 2 = some (n + 1) := by rw [e54]; exact g53_k_2
  refine Rp.dup dX12_init_303 rfl ?_
  refine Rp.bipush (nI 43) dX12_init_304 (by decide) ?_
  refine Rp.bipush (nI 98) dX12_init_306 (by decide) ?_
  refine Rp.bastoreN dX12_init_308 s54_5 (by omega) ?_
  refine Rp.nm (fun h55 e55 => ?_)
  have s55_k : h55.1[k]? = some (12, clN 12) := by rw [e55]; exact s54_k
  have s55_1 : h55.1[(n + 1)]? = some (13, 5716) := by rw [e55]; exact s54_1
  have s55_5 : h55.1[(n + 5)]? = some (14, 157) := by rw [e55]; exact s54_5
  have hn55 : aN h55 = (n + 6) := by rw [e55]; exact hn54
  have g55_k_2 : gR h55 k 2 = some (n + 1) := by rw [e55]; exact g54_k_2
  refine Rp.dup dX12_init_309 rfl ?_
  refine Rp.bipush (nI 44) dX12_init_310 (by decide) ?_
  refine Rp.bipush (nI 117) dX12_init_312 (by decide) ?_
  refine Rp.bastoreN dX12_init_314 s55_5 (by omega) ?_
  refine Rp.nm (fun h56 e56 => ?_)
  have s56_k : h56.1[k]? = some (12, clN 12) := by rw [e56]; exact s55_k
  have s56_1 : h56.1[(n + 1)]? = some (13, 5716) := by rw [e56]; exact s55_1
  have s56_5 : h56.1[(n + 5)]? = some (14, 157) := by rw [e56]; exact s55_5
  have hn56 : aN h56 = (n + 6) := by rw [e56]; exact hn55
  have g56_k_2 : gR h56 k 2 = some (n + 1) := by rw [e56]; exact g55_k_2
  refine Rp.dup dX12_init_315 rfl ?_
  refine Rp.bipush (nI 45) dX12_init_316 (by decide) ?_
  refine Rp.bipush (nI 115) dX12_init_318 (by decide) ?_
  refine Rp.bastoreN dX12_init_320 s56_5 (by omega) ?_
  refine Rp.nm (fun h57 e57 => ?_)
  have s57_k : h57.1[k]? = some (12, clN 12) := by rw [e57]; exact s56_k
  have s57_1 : h57.1[(n + 1)]? = some (13, 5716) := by rw [e57]; exact s56_1
  have s57_5 : h57.1[(n + 5)]? = some (14, 157) := by rw [e57]; exact s56_5
  have hn57 : aN h57 = (n + 6) := by rw [e57]; exact hn56
  have g57_k_2 : gR h57 k 2 = some (n + 1) := by rw [e57]; exact g56_k_2
  refine Rp.dup dX12_init_321 rfl ?_
  refine Rp.bipush (nI 46) dX12_init_322 (by decide) ?_
  refine Rp.bipush (nI 105) dX12_init_324 (by decide) ?_
  refine Rp.bastoreN dX12_init_326 s57_5 (by omega) ?_
  refine Rp.nm (fun h58 e58 => ?_)
  have s58_k : h58.1[k]? = some (12, clN 12) := by rw [e58]; exact s57_k
  have s58_1 : h58.1[(n + 1)]? = some (13, 5716) := by rw [e58]; exact s57_1
  have s58_5 : h58.1[(n + 5)]? = some (14, 157) := by rw [e58]; exact s57_5
  have hn58 : aN h58 = (n + 6) := by rw [e58]; exact hn57
  have g58_k_2 : gR h58 k 2 = some (n + 1) := by rw [e58]; exact g57_k_2
  refine Rp.dup dX12_init_327 rfl ?_
  refine Rp.bipush (nI 47) dX12_init_328 (by decide) ?_
  refine Rp.bipush (nI 110) dX12_init_330 (by decide) ?_
  refine Rp.bastoreN dX12_init_332 s58_5 (by omega) ?_
  refine Rp.nm (fun h59 e59 => ?_)
  have s59_k : h59.1[k]? = some (12, clN 12) := by rw [e59]; exact s58_k
  have s59_1 : h59.1[(n + 1)]? = some (13, 5716) := by rw [e59]; exact s58_1
  have s59_5 : h59.1[(n + 5)]? = some (14, 157) := by rw [e59]; exact s58_5
  have hn59 : aN h59 = (n + 6) := by rw [e59]; exact hn58
  have g59_k_2 : gR h59 k 2 = some (n + 1) := by rw [e59]; exact g58_k_2
  refine Rp.dup dX12_init_333 rfl ?_
  refine Rp.bipush (nI 48) dX12_init_334 (by decide) ?_
  refine Rp.bipush (nI 101) dX12_init_336 (by decide) ?_
  refine Rp.bastoreN dX12_init_338 s59_5 (by omega) ?_
  refine Rp.nm (fun h60 e60 => ?_)
  have s60_k : h60.1[k]? = some (12, clN 12) := by rw [e60]; exact s59_k
  have s60_1 : h60.1[(n + 1)]? = some (13, 5716) := by rw [e60]; exact s59_1
  have s60_5 : h60.1[(n + 5)]? = some (14, 157) := by rw [e60]; exact s59_5
  have hn60 : aN h60 = (n + 6) := by rw [e60]; exact hn59
  have g60_k_2 : gR h60 k 2 = some (n + 1) := by rw [e60]; exact g59_k_2
  refine Rp.dup dX12_init_339 rfl ?_
  refine Rp.bipush (nI 49) dX12_init_340 (by decide) ?_
  refine Rp.bipush (nI 115) dX12_init_342 (by decide) ?_
  refine Rp.bastoreN dX12_init_344 s60_5 (by omega) ?_
  refine Rp.nm (fun h61 e61 => ?_)
  have s61_k : h61.1[k]? = some (12, clN 12) := by rw [e61]; exact s60_k
  have s61_1 : h61.1[(n + 1)]? = some (13, 5716) := by rw [e61]; exact s60_1
  have s61_5 : h61.1[(n + 5)]? = some (14, 157) := by rw [e61]; exact s60_5
  have hn61 : aN h61 = (n + 6) := by rw [e61]; exact hn60
  have g61_k_2 : gR h61 k 2 = some (n + 1) := by rw [e61]; exact g60_k_2
  refine Rp.dup dX12_init_345 rfl ?_
  refine Rp.bipush (nI 50) dX12_init_346 (by decide) ?_
  refine Rp.bipush (nI 115) dX12_init_348 (by decide) ?_
  refine Rp.bastoreN dX12_init_350 s61_5 (by omega) ?_
  refine Rp.nm (fun h62 e62 => ?_)
  have s62_k : h62.1[k]? = some (12, clN 12) := by rw [e62]; exact s61_k
  have s62_1 : h62.1[(n + 1)]? = some (13, 5716) := by rw [e62]; exact s61_1
  have s62_5 : h62.1[(n + 5)]? = some (14, 157) := by rw [e62]; exact s61_5
  have hn62 : aN h62 = (n + 6) := by rw [e62]; exact hn61
  have g62_k_2 : gR h62 k 2 = some (n + 1) := by rw [e62]; exact g61_k_2
  refine Rp.dup dX12_init_351 rfl ?_
  refine Rp.bipush (nI 51) dX12_init_352 (by decide) ?_
  refine Rp.bipush (nI 32) dX12_init_354 (by decide) ?_
  refine Rp.bastoreN dX12_init_356 s62_5 (by omega) ?_
  refine Rp.nm (fun h63 e63 => ?_)
  have s63_k : h63.1[k]? = some (12, clN 12) := by rw [e63]; exact s62_k
  have s63_1 : h63.1[(n + 1)]? = some (13, 5716) := by rw [e63]; exact s62_1
  have s63_5 : h63.1[(n + 5)]? = some (14, 157) := by rw [e63]; exact s62_5
  have hn63 : aN h63 = (n + 6) := by rw [e63]; exact hn62
  have g63_k_2 : gR h63 k 2 = some (n + 1) := by rw [e63]; exact g62_k_2
  refine Rp.dup dX12_init_357 rfl ?_
  refine Rp.bipush (nI 52) dX12_init_358 (by decide) ?_
  refine Rp.bipush (nI 116) dX12_init_360 (by decide) ?_
  refine Rp.bastoreN dX12_init_362 s63_5 (by omega) ?_
  refine Rp.nm (fun h64 e64 => ?_)
  have s64_k : h64.1[k]? = some (12, clN 12) := by rw [e64]; exact s63_k
  have s64_1 : h64.1[(n + 1)]? = some (13, 5716) := by rw [e64]; exact s63_1
  have s64_5 : h64.1[(n + 5)]? = some (14, 157) := by rw [e64]; exact s63_5
  have hn64 : aN h64 = (n + 6) := by rw [e64]; exact hn63
  have g64_k_2 : gR h64 k 2 = some (n + 1) := by rw [e64]; exact g63_k_2
  refine Rp.dup dX12_init_363 rfl ?_
  refine Rp.bipush (nI 53) dX12_init_364 (by decide) ?_
  refine Rp.bipush (nI 105) dX12_init_366 (by decide) ?_
  refine Rp.bastoreN dX12_init_368 s64_5 (by omega) ?_
  refine Rp.nm (fun h65 e65 => ?_)
  have s65_k : h65.1[k]? = some (12, clN 12) := by rw [e65]; exact s64_k
  have s65_1 : h65.1[(n + 1)]? = some (13, 5716) := by rw [e65]; exact s64_1
  have s65_5 : h65.1[(n + 5)]? = some (14, 157) := by rw [e65]; exact s64_5
  have hn65 : aN h65 = (n + 6) := by rw [e65]; exact hn64
  have g65_k_2 : gR h65 k 2 = some (n + 1) := by rw [e65]; exact g64_k_2
  refine Rp.dup dX12_init_369 rfl ?_
  refine Rp.bipush (nI 54) dX12_init_370 (by decide) ?_
  refine Rp.bipush (nI 99) dX12_init_372 (by decide) ?_
  refine Rp.bastoreN dX12_init_374 s65_5 (by omega) ?_
  refine Rp.nm (fun h66 e66 => ?_)
  have s66_k : h66.1[k]? = some (12, clN 12) := by rw [e66]; exact s65_k
  have s66_1 : h66.1[(n + 1)]? = some (13, 5716) := by rw [e66]; exact s65_1
  have s66_5 : h66.1[(n + 5)]? = some (14, 157) := by rw [e66]; exact s65_5
  have hn66 : aN h66 = (n + 6) := by rw [e66]; exact hn65
  have g66_k_2 : gR h66 k 2 = some (n + 1) := by rw [e66]; exact g65_k_2
  refine Rp.dup dX12_init_375 rfl ?_
  refine Rp.bipush (nI 55) dX12_init_376 (by decide) ?_
  refine Rp.bipush (nI 107) dX12_init_378 (by decide) ?_
  refine Rp.bastoreN dX12_init_380 s66_5 (by omega) ?_
  refine Rp.nm (fun h67 e67 => ?_)
  have s67_k : h67.1[k]? = some (12, clN 12) := by rw [e67]; exact s66_k
  have s67_1 : h67.1[(n + 1)]? = some (13, 5716) := by rw [e67]; exact s66_1
  have s67_5 : h67.1[(n + 5)]? = some (14, 157) := by rw [e67]; exact s66_5
  have hn67 : aN h67 = (n + 6) := by rw [e67]; exact hn66
  have g67_k_2 : gR h67 k 2 = some (n + 1) := by rw [e67]; exact g66_k_2
  refine Rp.dup dX12_init_381 rfl ?_
  refine Rp.bipush (nI 56) dX12_init_382 (by decide) ?_
  refine Rp.bipush (nI 101) dX12_init_384 (by decide) ?_
  refine Rp.bastoreN dX12_init_386 s67_5 (by omega) ?_
  refine Rp.nm (fun h68 e68 => ?_)
  have s68_k : h68.1[k]? = some (12, clN 12) := by rw [e68]; exact s67_k
  have s68_1 : h68.1[(n + 1)]? = some (13, 5716) := by rw [e68]; exact s67_1
  have s68_5 : h68.1[(n + 5)]? = some (14, 157) := by rw [e68]; exact s67_5
  have hn68 : aN h68 = (n + 6) := by rw [e68]; exact hn67
  have g68_k_2 : gR h68 k 2 = some (n + 1) := by rw [e68]; exact g67_k_2
  refine Rp.dup dX12_init_387 rfl ?_
  refine Rp.bipush (nI 57) dX12_init_388 (by decide) ?_
  refine Rp.bipush (nI 116) dX12_init_390 (by decide) ?_
  refine Rp.bastoreN dX12_init_392 s68_5 (by omega) ?_
  refine Rp.nm (fun h69 e69 => ?_)
  have s69_k : h69.1[k]? = some (12, clN 12) := by rw [e69]; exact s68_k
  have s69_1 : h69.1[(n + 1)]? = some (13, 5716) := by rw [e69]; exact s68_1
  have s69_5 : h69.1[(n + 5)]? = some (14, 157) := by rw [e69]; exact s68_5
  have hn69 : aN h69 = (n + 6) := by rw [e69]; exact hn68
  have g69_k_2 : gR h69 k 2 = some (n + 1) := by rw [e69]; exact g68_k_2
  refine Rp.dup dX12_init_393 rfl ?_
  refine Rp.bipush (nI 58) dX12_init_394 (by decide) ?_
  refine Rp.bipush (nI 32) dX12_init_396 (by decide) ?_
  refine Rp.bastoreN dX12_init_398 s69_5 (by omega) ?_
  refine Rp.nm (fun h70 e70 => ?_)
  have s70_k : h70.1[k]? = some (12, clN 12) := by rw [e70]; exact s69_k
  have s70_1 : h70.1[(n + 1)]? = some (13, 5716) := by rw [e70]; exact s69_1
  have s70_5 : h70.1[(n + 5)]? = some (14, 157) := by rw [e70]; exact s69_5
  have hn70 : aN h70 = (n + 6) := by rw [e70]; exact hn69
  have g70_k_2 : gR h70 k 2 = some (n + 1) := by rw [e70]; exact g69_k_2
  refine Rp.dup dX12_init_399 rfl ?_
  refine Rp.bipush (nI 59) dX12_init_400 (by decide) ?_
  refine Rp.bipush (nI 110) dX12_init_402 (by decide) ?_
  refine Rp.bastoreN dX12_init_404 s70_5 (by omega) ?_
  refine Rp.nm (fun h71 e71 => ?_)
  have s71_k : h71.1[k]? = some (12, clN 12) := by rw [e71]; exact s70_k
  have s71_1 : h71.1[(n + 1)]? = some (13, 5716) := by rw [e71]; exact s70_1
  have s71_5 : h71.1[(n + 5)]? = some (14, 157) := by rw [e71]; exact s70_5
  have hn71 : aN h71 = (n + 6) := by rw [e71]; exact hn70
  have g71_k_2 : gR h71 k 2 = some (n + 1) := by rw [e71]; exact g70_k_2
  refine Rp.dup dX12_init_405 rfl ?_
  refine Rp.bipush (nI 60) dX12_init_406 (by decide) ?_
  refine Rp.bipush (nI 117) dX12_init_408 (by decide) ?_
  refine Rp.bastoreN dX12_init_410 s71_5 (by omega) ?_
  refine Rp.nm (fun h72 e72 => ?_)
  have s72_k : h72.1[k]? = some (12, clN 12) := by rw [e72]; exact s71_k
  have s72_1 : h72.1[(n + 1)]? = some (13, 5716) := by rw [e72]; exact s71_1
  have s72_5 : h72.1[(n + 5)]? = some (14, 157) := by rw [e72]; exact s71_5
  have hn72 : aN h72 = (n + 6) := by rw [e72]; exact hn71
  have g72_k_2 : gR h72 k 2 = some (n + 1) := by rw [e72]; exact g71_k_2
  refine Rp.dup dX12_init_411 rfl ?_
  refine Rp.bipush (nI 61) dX12_init_412 (by decide) ?_
  refine Rp.bipush (nI 109) dX12_init_414 (by decide) ?_
  refine Rp.bastoreN dX12_init_416 s72_5 (by omega) ?_
  refine Rp.nm (fun h73 e73 => ?_)
  have s73_k : h73.1[k]? = some (12, clN 12) := by rw [e73]; exact s72_k
  have s73_1 : h73.1[(n + 1)]? = some (13, 5716) := by rw [e73]; exact s72_1
  have s73_5 : h73.1[(n + 5)]? = some (14, 157) := by rw [e73]; exact s72_5
  have hn73 : aN h73 = (n + 6) := by rw [e73]; exact hn72
  have g73_k_2 : gR h73 k 2 = some (n + 1) := by rw [e73]; exact g72_k_2
  refine Rp.dup dX12_init_417 rfl ?_
  refine Rp.bipush (nI 62) dX12_init_418 (by decide) ?_
  refine Rp.bipush (nI 98) dX12_init_420 (by decide) ?_
  refine Rp.bastoreN dX12_init_422 s73_5 (by omega) ?_
  refine Rp.nm (fun h74 e74 => ?_)
  have s74_k : h74.1[k]? = some (12, clN 12) := by rw [e74]; exact s73_k
  have s74_1 : h74.1[(n + 1)]? = some (13, 5716) := by rw [e74]; exact s73_1
  have s74_5 : h74.1[(n + 5)]? = some (14, 157) := by rw [e74]; exact s73_5
  have hn74 : aN h74 = (n + 6) := by rw [e74]; exact hn73
  have g74_k_2 : gR h74 k 2 = some (n + 1) := by rw [e74]; exact g73_k_2
  refine Rp.dup dX12_init_423 rfl ?_
  refine Rp.bipush (nI 63) dX12_init_424 (by decide) ?_
  refine Rp.bipush (nI 101) dX12_init_426 (by decide) ?_
  refine Rp.bastoreN dX12_init_428 s74_5 (by omega) ?_
  refine Rp.nm (fun h75 e75 => ?_)
  have s75_k : h75.1[k]? = some (12, clN 12) := by rw [e75]; exact s74_k
  have s75_1 : h75.1[(n + 1)]? = some (13, 5716) := by rw [e75]; exact s74_1
  have s75_5 : h75.1[(n + 5)]? = some (14, 157) := by rw [e75]; exact s74_5
  have hn75 : aN h75 = (n + 6) := by rw [e75]; exact hn74
  have g75_k_2 : gR h75 k 2 = some (n + 1) := by rw [e75]; exact g74_k_2
  refine Rp.dup dX12_init_429 rfl ?_
  refine Rp.bipush (nI 64) dX12_init_430 (by decide) ?_
  refine Rp.bipush (nI 114) dX12_init_432 (by decide) ?_
  refine Rp.bastoreN dX12_init_434 s75_5 (by omega) ?_
  refine Rp.nm (fun h76 e76 => ?_)
  have s76_k : h76.1[k]? = some (12, clN 12) := by rw [e76]; exact s75_k
  have s76_1 : h76.1[(n + 1)]? = some (13, 5716) := by rw [e76]; exact s75_1
  have s76_5 : h76.1[(n + 5)]? = some (14, 157) := by rw [e76]; exact s75_5
  have hn76 : aN h76 = (n + 6) := by rw [e76]; exact hn75
  have g76_k_2 : gR h76 k 2 = some (n + 1) := by rw [e76]; exact g75_k_2
  refine Rp.dup dX12_init_435 rfl ?_
  refine Rp.bipush (nI 65) dX12_init_436 (by decide) ?_
  refine Rp.bipush (nI 32) dX12_init_438 (by decide) ?_
  refine Rp.bastoreN dX12_init_440 s76_5 (by omega) ?_
  refine Rp.nm (fun h77 e77 => ?_)
  have s77_k : h77.1[k]? = some (12, clN 12) := by rw [e77]; exact s76_k
  have s77_1 : h77.1[(n + 1)]? = some (13, 5716) := by rw [e77]; exact s76_1
  have s77_5 : h77.1[(n + 5)]? = some (14, 157) := by rw [e77]; exact s76_5
  have hn77 : aN h77 = (n + 6) := by rw [e77]; exact hn76
  have g77_k_2 : gR h77 k 2 = some (n + 1) := by rw [e77]; exact g76_k_2
  refine Rp.dup dX12_init_441 rfl ?_
  refine Rp.bipush (nI 66) dX12_init_442 (by decide) ?_
  refine Rp.bipush (nI 107) dX12_init_444 (by decide) ?_
  refine Rp.bastoreN dX12_init_446 s77_5 (by omega) ?_
  refine Rp.nm (fun h78 e78 => ?_)
  have s78_k : h78.1[k]? = some (12, clN 12) := by rw [e78]; exact s77_k
  have s78_1 : h78.1[(n + 1)]? = some (13, 5716) := by rw [e78]; exact s77_1
  have s78_5 : h78.1[(n + 5)]? = some (14, 157) := by rw [e78]; exact s77_5
  have hn78 : aN h78 = (n + 6) := by rw [e78]; exact hn77
  have g78_k_2 : gR h78 k 2 = some (n + 1) := by rw [e78]; exact g77_k_2
  refine Rp.dup dX12_init_447 rfl ?_
  refine Rp.bipush (nI 67) dX12_init_448 (by decide) ?_
  refine Rp.bipush (nI 105) dX12_init_450 (by decide) ?_
  refine Rp.bastoreN dX12_init_452 s78_5 (by omega) ?_
  refine Rp.nm (fun h79 e79 => ?_)
  have s79_k : h79.1[k]? = some (12, clN 12) := by rw [e79]; exact s78_k
  have s79_1 : h79.1[(n + 1)]? = some (13, 5716) := by rw [e79]; exact s78_1
  have s79_5 : h79.1[(n + 5)]? = some (14, 157) := by rw [e79]; exact s78_5
  have hn79 : aN h79 = (n + 6) := by rw [e79]; exact hn78
  have g79_k_2 : gR h79 k 2 = some (n + 1) := by rw [e79]; exact g78_k_2
  refine Rp.dup dX12_init_453 rfl ?_
  refine Rp.bipush (nI 68) dX12_init_454 (by decide) ?_
  refine Rp.bipush (nI 110) dX12_init_456 (by decide) ?_
  refine Rp.bastoreN dX12_init_458 s79_5 (by omega) ?_
  refine Rp.nm (fun h80 e80 => ?_)
  have s80_k : h80.1[k]? = some (12, clN 12) := by rw [e80]; exact s79_k
  have s80_1 : h80.1[(n + 1)]? = some (13, 5716) := by rw [e80]; exact s79_1
  have s80_5 : h80.1[(n + 5)]? = some (14, 157) := by rw [e80]; exact s79_5
  have hn80 : aN h80 = (n + 6) := by rw [e80]; exact hn79
  have g80_k_2 : gR h80 k 2 = some (n + 1) := by rw [e80]; exact g79_k_2
  refine Rp.dup dX12_init_459 rfl ?_
  refine Rp.bipush (nI 69) dX12_init_460 (by decide) ?_
  refine Rp.bipush (nI 100) dX12_init_462 (by decide) ?_
  refine Rp.bastoreN dX12_init_464 s80_5 (by omega) ?_
  refine Rp.nm (fun h81 e81 => ?_)
  have s81_k : h81.1[k]? = some (12, clN 12) := by rw [e81]; exact s80_k
  have s81_1 : h81.1[(n + 1)]? = some (13, 5716) := by rw [e81]; exact s80_1
  have s81_5 : h81.1[(n + 5)]? = some (14, 157) := by rw [e81]; exact s80_5
  have hn81 : aN h81 = (n + 6) := by rw [e81]; exact hn80
  have g81_k_2 : gR h81 k 2 = some (n + 1) := by rw [e81]; exact g80_k_2
  refine Rp.dup dX12_init_465 rfl ?_
  refine Rp.bipush (nI 70) dX12_init_466 (by decide) ?_
  refine Rp.bipush (nI 32) dX12_init_468 (by decide) ?_
  refine Rp.bastoreN dX12_init_470 s81_5 (by omega) ?_
  refine Rp.nm (fun h82 e82 => ?_)
  have s82_k : h82.1[k]? = some (12, clN 12) := by rw [e82]; exact s81_k
  have s82_1 : h82.1[(n + 1)]? = some (13, 5716) := by rw [e82]; exact s81_1
  have s82_5 : h82.1[(n + 5)]? = some (14, 157) := by rw [e82]; exact s81_5
  have hn82 : aN h82 = (n + 6) := by rw [e82]; exact hn81
  have g82_k_2 : gR h82 k 2 = some (n + 1) := by rw [e82]; exact g81_k_2
  refine Rp.dup dX12_init_471 rfl ?_
  refine Rp.bipush (nI 71) dX12_init_472 (by decide) ?_
  refine Rp.bipush (nI 115) dX12_init_474 (by decide) ?_
  refine Rp.bastoreN dX12_init_476 s82_5 (by omega) ?_
  refine Rp.nm (fun h83 e83 => ?_)
  have s83_k : h83.1[k]? = some (12, clN 12) := by rw [e83]; exact s82_k
  have s83_1 : h83.1[(n + 1)]? = some (13, 5716) := by rw [e83]; exact s82_1
  have s83_5 : h83.1[(n + 5)]? = some (14, 157) := by rw [e83]; exact s82_5
  have hn83 : aN h83 = (n + 6) := by rw [e83]; exact hn82
  have g83_k_2 : gR h83 k 2 = some (n + 1) := by rw [e83]; exact g82_k_2
  refine Rp.dup dX12_init_477 rfl ?_
  refine Rp.bipush (nI 72) dX12_init_478 (by decide) ?_
  refine Rp.bipush (nI 112) dX12_init_480 (by decide) ?_
  refine Rp.bastoreN dX12_init_482 s83_5 (by omega) ?_
  refine Rp.nm (fun h84 e84 => ?_)
  have s84_k : h84.1[k]? = some (12, clN 12) := by rw [e84]; exact s83_k
  have s84_1 : h84.1[(n + 1)]? = some (13, 5716) := by rw [e84]; exact s83_1
  have s84_5 : h84.1[(n + 5)]? = some (14, 157) := by rw [e84]; exact s83_5
  have hn84 : aN h84 = (n + 6) := by rw [e84]; exact hn83
  have g84_k_2 : gR h84 k 2 = some (n + 1) := by rw [e84]; exact g83_k_2
  refine Rp.dup dX12_init_483 rfl ?_
  refine Rp.bipush (nI 73) dX12_init_484 (by decide) ?_
  refine Rp.bipush (nI 101) dX12_init_486 (by decide) ?_
  refine Rp.bastoreN dX12_init_488 s84_5 (by omega) ?_
  refine Rp.nm (fun h85 e85 => ?_)
  have s85_k : h85.1[k]? = some (12, clN 12) := by rw [e85]; exact s84_k
  have s85_1 : h85.1[(n + 1)]? = some (13, 5716) := by rw [e85]; exact s84_1
  have s85_5 : h85.1[(n + 5)]? = some (14, 157) := by rw [e85]; exact s84_5
  have hn85 : aN h85 = (n + 6) := by rw [e85]; exact hn84
  have g85_k_2 : gR h85 k 2 = some (n + 1) := by rw [e85]; exact g84_k_2
  refine Rp.dup dX12_init_489 rfl ?_
  refine Rp.bipush (nI 74) dX12_init_490 (by decide) ?_
  refine Rp.bipush (nI 101) dX12_init_492 (by decide) ?_
  refine Rp.bastoreN dX12_init_494 s85_5 (by omega) ?_
  refine Rp.nm (fun h86 e86 => ?_)
  have s86_k : h86.1[k]? = some (12, clN 12) := by rw [e86]; exact s85_k
  have s86_1 : h86.1[(n + 1)]? = some (13, 5716) := by rw [e86]; exact s85_1
  have s86_5 : h86.1[(n + 5)]? = some (14, 157) := by rw [e86]; exact s85_5
  have hn86 : aN h86 = (n + 6) := by rw [e86]; exact hn85
  have g86_k_2 : gR h86 k 2 = some (n + 1) := by rw [e86]; exact g85_k_2
  refine Rp.dup dX12_init_495 rfl ?_
  refine Rp.bipush (nI 75) dX12_init_496 (by decide) ?_
  refine Rp.bipush (nI 100) dX12_init_498 (by decide) ?_
  refine Rp.bastoreN dX12_init_500 s86_5 (by omega) ?_
  refine Rp.nm (fun h87 e87 => ?_)
  have s87_k : h87.1[k]? = some (12, clN 12) := by rw [e87]; exact s86_k
  have s87_1 : h87.1[(n + 1)]? = some (13, 5716) := by rw [e87]; exact s86_1
  have s87_5 : h87.1[(n + 5)]? = some (14, 157) := by rw [e87]; exact s86_5
  have hn87 : aN h87 = (n + 6) := by rw [e87]; exact hn86
  have g87_k_2 : gR h87 k 2 = some (n + 1) := by rw [e87]; exact g86_k_2
  refine Rp.dup dX12_init_501 rfl ?_
  refine Rp.bipush (nI 76) dX12_init_502 (by decide) ?_
  refine Rp.bipush (nI 32) dX12_init_504 (by decide) ?_
  refine Rp.bastoreN dX12_init_506 s87_5 (by omega) ?_
  refine Rp.nm (fun h88 e88 => ?_)
  have s88_k : h88.1[k]? = some (12, clN 12) := by rw [e88]; exact s87_k
  have s88_1 : h88.1[(n + 1)]? = some (13, 5716) := by rw [e88]; exact s87_1
  have s88_5 : h88.1[(n + 5)]? = some (14, 157) := by rw [e88]; exact s87_5
  have hn88 : aN h88 = (n + 6) := by rw [e88]; exact hn87
  have g88_k_2 : gR h88 k 2 = some (n + 1) := by rw [e88]; exact g87_k_2
  refine Rp.dup dX12_init_507 rfl ?_
  refine Rp.bipush (nI 77) dX12_init_508 (by decide) ?_
  refine Rp.bipush (nI 109) dX12_init_510 (by decide) ?_
  refine Rp.bastoreN dX12_init_512 s88_5 (by omega) ?_
  refine Rp.nm (fun h89 e89 => ?_)
  have s89_k : h89.1[k]? = some (12, clN 12) := by rw [e89]; exact s88_k
  have s89_1 : h89.1[(n + 1)]? = some (13, 5716) := by rw [e89]; exact s88_1
  have s89_5 : h89.1[(n + 5)]? = some (14, 157) := by rw [e89]; exact s88_5
  have hn89 : aN h89 = (n + 6) := by rw [e89]; exact hn88
  have g89_k_2 : gR h89 k 2 = some (n + 1) := by rw [e89]; exact g88_k_2
  refine Rp.dup dX12_init_513 rfl ?_
  refine Rp.bipush (nI 78) dX12_init_514 (by decide) ?_
  refine Rp.bipush (nI 111) dX12_init_516 (by decide) ?_
  refine Rp.bastoreN dX12_init_518 s89_5 (by omega) ?_
  refine Rp.nm (fun h90 e90 => ?_)
  have s90_k : h90.1[k]? = some (12, clN 12) := by rw [e90]; exact s89_k
  have s90_1 : h90.1[(n + 1)]? = some (13, 5716) := by rw [e90]; exact s89_1
  have s90_5 : h90.1[(n + 5)]? = some (14, 157) := by rw [e90]; exact s89_5
  have hn90 : aN h90 = (n + 6) := by rw [e90]; exact hn89
  have g90_k_2 : gR h90 k 2 = some (n + 1) := by rw [e90]; exact g89_k_2
  refine Rp.dup dX12_init_519 rfl ?_
  refine Rp.bipush (nI 79) dX12_init_520 (by decide) ?_
  refine Rp.bipush (nI 111) dX12_init_522 (by decide) ?_
  refine Rp.bastoreN dX12_init_524 s90_5 (by omega) ?_
  refine Rp.nm (fun h91 e91 => ?_)
  have s91_k : h91.1[k]? = some (12, clN 12) := by rw [e91]; exact s90_k
  have s91_1 : h91.1[(n + 1)]? = some (13, 5716) := by rw [e91]; exact s90_1
  have s91_5 : h91.1[(n + 5)]? = some (14, 157) := by rw [e91]; exact s90_5
  have hn91 : aN h91 = (n + 6) := by rw [e91]; exact hn90
  have g91_k_2 : gR h91 k 2 = some (n + 1) := by rw [e91]; exact g90_k_2
  refine Rp.dup dX12_init_525 rfl ?_
  refine Rp.bipush (nI 80) dX12_init_526 (by decide) ?_
  refine Rp.bipush (nI 100) dX12_init_528 (by decide) ?_
  refine Rp.bastoreN dX12_init_530 s91_5 (by omega) ?_
  refine Rp.nm (fun h92 e92 => ?_)
  have s92_k : h92.1[k]? = some (12, clN 12) := by rw [e92]; exact s91_k
  have s92_1 : h92.1[(n + 1)]? = some (13, 5716) := by rw [e92]; exact s91_1
  have s92_5 : h92.1[(n + 5)]? = some (14, 157) := by rw [e92]; exact s91_5
  have hn92 : aN h92 = (n + 6) := by rw [e92]; exact hn91
  have g92_k_2 : gR h92 k 2 = some (n + 1) := by rw [e92]; exact g91_k_2
  refine Rp.dup dX12_init_531 rfl ?_
  refine Rp.bipush (nI 81) dX12_init_532 (by decide) ?_
  refine Rp.bipush (nI 32) dX12_init_534 (by decide) ?_
  refine Rp.bastoreN dX12_init_536 s92_5 (by omega) ?_
  refine Rp.nm (fun h93 e93 => ?_)
  have s93_k : h93.1[k]? = some (12, clN 12) := by rw [e93]; exact s92_k
  have s93_1 : h93.1[(n + 1)]? = some (13, 5716) := by rw [e93]; exact s92_1
  have s93_5 : h93.1[(n + 5)]? = some (14, 157) := by rw [e93]; exact s92_5
  have hn93 : aN h93 = (n + 6) := by rw [e93]; exact hn92
  have g93_k_2 : gR h93 k 2 = some (n + 1) := by rw [e93]; exact g92_k_2
  refine Rp.dup dX12_init_537 rfl ?_
  refine Rp.bipush (nI 82) dX12_init_538 (by decide) ?_
  refine Rp.bipush (nI 112) dX12_init_540 (by decide) ?_
  refine Rp.bastoreN dX12_init_542 s93_5 (by omega) ?_
  refine Rp.nm (fun h94 e94 => ?_)
  have s94_k : h94.1[k]? = some (12, clN 12) := by rw [e94]; exact s93_k
  have s94_1 : h94.1[(n + 1)]? = some (13, 5716) := by rw [e94]; exact s93_1
  have s94_5 : h94.1[(n + 5)]? = some (14, 157) := by rw [e94]; exact s93_5
  have hn94 : aN h94 = (n + 6) := by rw [e94]; exact hn93
  have g94_k_2 : gR h94 k 2 = some (n + 1) := by rw [e94]; exact g93_k_2
  refine Rp.dup dX12_init_543 rfl ?_
  refine Rp.bipush (nI 83) dX12_init_544 (by decide) ?_
  refine Rp.bipush (nI 97) dX12_init_546 (by decide) ?_
  refine Rp.bastoreN dX12_init_548 s94_5 (by omega) ?_
  refine Rp.nm (fun h95 e95 => ?_)
  have s95_k : h95.1[k]? = some (12, clN 12) := by rw [e95]; exact s94_k
  have s95_1 : h95.1[(n + 1)]? = some (13, 5716) := by rw [e95]; exact s94_1
  have s95_5 : h95.1[(n + 5)]? = some (14, 157) := by rw [e95]; exact s94_5
  have hn95 : aN h95 = (n + 6) := by rw [e95]; exact hn94
  have g95_k_2 : gR h95 k 2 = some (n + 1) := by rw [e95]; exact g94_k_2
  refine Rp.dup dX12_init_549 rfl ?_
  refine Rp.bipush (nI 84) dX12_init_550 (by decide) ?_
  refine Rp.bipush (nI 116) dX12_init_552 (by decide) ?_
  refine Rp.bastoreN dX12_init_554 s95_5 (by omega) ?_
  refine Rp.nm (fun h96 e96 => ?_)
  have s96_k : h96.1[k]? = some (12, clN 12) := by rw [e96]; exact s95_k
  have s96_1 : h96.1[(n + 1)]? = some (13, 5716) := by rw [e96]; exact s95_1
  have s96_5 : h96.1[(n + 5)]? = some (14, 157) := by rw [e96]; exact s95_5
  have hn96 : aN h96 = (n + 6) := by rw [e96]; exact hn95
  have g96_k_2 : gR h96 k 2 = some (n + 1) := by rw [e96]; exact g95_k_2
  refine Rp.dup dX12_init_555 rfl ?_
  refine Rp.bipush (nI 85) dX12_init_556 (by decide) ?_
  refine Rp.bipush (nI 105) dX12_init_558 (by decide) ?_
  refine Rp.bastoreN dX12_init_560 s96_5 (by omega) ?_
  refine Rp.nm (fun h97 e97 => ?_)
  have s97_k : h97.1[k]? = some (12, clN 12) := by rw [e97]; exact s96_k
  have s97_1 : h97.1[(n + 1)]? = some (13, 5716) := by rw [e97]; exact s96_1
  have s97_5 : h97.1[(n + 5)]? = some (14, 157) := by rw [e97]; exact s96_5
  have hn97 : aN h97 = (n + 6) := by rw [e97]; exact hn96
  have g97_k_2 : gR h97 k 2 = some (n + 1) := by rw [e97]; exact g96_k_2
  refine Rp.dup dX12_init_561 rfl ?_
  refine Rp.bipush (nI 86) dX12_init_562 (by decide) ?_
  refine Rp.bipush (nI 101) dX12_init_564 (by decide) ?_
  refine Rp.bastoreN dX12_init_566 s97_5 (by omega) ?_
  refine Rp.nm (fun h98 e98 => ?_)
  have s98_k : h98.1[k]? = some (12, clN 12) := by rw [e98]; exact s97_k
  have s98_1 : h98.1[(n + 1)]? = some (13, 5716) := by rw [e98]; exact s97_1
  have s98_5 : h98.1[(n + 5)]? = some (14, 157) := by rw [e98]; exact s97_5
  have hn98 : aN h98 = (n + 6) := by rw [e98]; exact hn97
  have g98_k_2 : gR h98 k 2 = some (n + 1) := by rw [e98]; exact g97_k_2
  refine Rp.dup dX12_init_567 rfl ?_
  refine Rp.bipush (nI 87) dX12_init_568 (by decide) ?_
  refine Rp.bipush (nI 110) dX12_init_570 (by decide) ?_
  refine Rp.bastoreN dX12_init_572 s98_5 (by omega) ?_
  refine Rp.nm (fun h99 e99 => ?_)
  have s99_k : h99.1[k]? = some (12, clN 12) := by rw [e99]; exact s98_k
  have s99_1 : h99.1[(n + 1)]? = some (13, 5716) := by rw [e99]; exact s98_1
  have s99_5 : h99.1[(n + 5)]? = some (14, 157) := by rw [e99]; exact s98_5
  have hn99 : aN h99 = (n + 6) := by rw [e99]; exact hn98
  have g99_k_2 : gR h99 k 2 = some (n + 1) := by rw [e99]; exact g98_k_2
  refine Rp.dup dX12_init_573 rfl ?_
  refine Rp.bipush (nI 88) dX12_init_574 (by decide) ?_
  refine Rp.bipush (nI 99) dX12_init_576 (by decide) ?_
  refine Rp.bastoreN dX12_init_578 s99_5 (by omega) ?_
  refine Rp.nm (fun h100 e100 => ?_)
  have s100_k : h100.1[k]? = some (12, clN 12) := by rw [e100]; exact s99_k
  have s100_1 : h100.1[(n + 1)]? = some (13, 5716) := by rw [e100]; exact s99_1
  have s100_5 : h100.1[(n + 5)]? = some (14, 157) := by rw [e100]; exact s99_5
  have hn100 : aN h100 = (n + 6) := by rw [e100]; exact hn99
  have g100_k_2 : gR h100 k 2 = some (n + 1) := by rw [e100]; exact g99_k_2
  refine Rp.dup dX12_init_579 rfl ?_
  refine Rp.bipush (nI 89) dX12_init_580 (by decide) ?_
  refine Rp.bipush (nI 101) dX12_init_582 (by decide) ?_
  refine Rp.bastoreN dX12_init_584 s100_5 (by omega) ?_
  refine Rp.nm (fun h101 e101 => ?_)
  have s101_k : h101.1[k]? = some (12, clN 12) := by rw [e101]; exact s100_k
  have s101_1 : h101.1[(n + 1)]? = some (13, 5716) := by rw [e101]; exact s100_1
  have s101_5 : h101.1[(n + 5)]? = some (14, 157) := by rw [e101]; exact s100_5
  have hn101 : aN h101 = (n + 6) := by rw [e101]; exact hn100
  have g101_k_2 : gR h101 k 2 = some (n + 1) := by rw [e101]; exact g100_k_2
  refine Rp.dup dX12_init_585 rfl ?_
  refine Rp.bipush (nI 90) dX12_init_586 (by decide) ?_
  refine Rp.bipush (nI 32) dX12_init_588 (by decide) ?_
  refine Rp.bastoreN dX12_init_590 s101_5 (by omega) ?_
  refine Rp.nm (fun h102 e102 => ?_)
  have s102_k : h102.1[k]? = some (12, clN 12) := by rw [e102]; exact s101_k
  have s102_1 : h102.1[(n + 1)]? = some (13, 5716) := by rw [e102]; exact s101_1
  have s102_5 : h102.1[(n + 5)]? = some (14, 157) := by rw [e102]; exact s101_5
  have hn102 : aN h102 = (n + 6) := by rw [e102]; exact hn101
  have g102_k_2 : gR h102 k 2 = some (n + 1) := by rw [e102]; exact g101_k_2
  refine Rp.dup dX12_init_591 rfl ?_
  refine Rp.bipush (nI 91) dX12_init_592 (by decide) ?_
  refine Rp.bipush (nI 109) dX12_init_594 (by decide) ?_
  refine Rp.bastoreN dX12_init_596 s102_5 (by omega) ?_
  refine Rp.nm (fun h103 e103 => ?_)
  have s103_k : h103.1[k]? = some (12, clN 12) := by rw [e103]; exact s102_k
  have s103_1 : h103.1[(n + 1)]? = some (13, 5716) := by rw [e103]; exact s102_1
  have s103_5 : h103.1[(n + 5)]? = some (14, 157) := by rw [e103]; exact s102_5
  have hn103 : aN h103 = (n + 6) := by rw [e103]; exact hn102
  have g103_k_2 : gR h103 k 2 = some (n + 1) := by rw [e103]; exact g102_k_2
  refine Rp.dup dX12_init_597 rfl ?_
  refine Rp.bipush (nI 92) dX12_init_598 (by decide) ?_
  refine Rp.bipush (nI 105) dX12_init_600 (by decide) ?_
  refine Rp.bastoreN dX12_init_602 s103_5 (by omega) ?_
  refine Rp.nm (fun h104 e104 => ?_)
  have s104_k : h104.1[k]? = some (12, clN 12) := by rw [e104]; exact s103_k
  have s104_1 : h104.1[(n + 1)]? = some (13, 5716) := by rw [e104]; exact s103_1
  have s104_5 : h104.1[(n + 5)]? = some (14, 157) := by rw [e104]; exact s103_5
  have hn104 : aN h104 = (n + 6) := by rw [e104]; exact hn103
  have g104_k_2 : gR h104 k 2 = some (n + 1) := by rw [e104]; exact g103_k_2
  refine Rp.dup dX12_init_603 rfl ?_
  refine Rp.bipush (nI 93) dX12_init_604 (by decide) ?_
  refine Rp.bipush (nI 110) dX12_init_606 (by decide) ?_
  refine Rp.bastoreN dX12_init_608 s104_5 (by omega) ?_
  refine Rp.nm (fun h105 e105 => ?_)
  have s105_k : h105.1[k]? = some (12, clN 12) := by rw [e105]; exact s104_k
  have s105_1 : h105.1[(n + 1)]? = some (13, 5716) := by rw [e105]; exact s104_1
  have s105_5 : h105.1[(n + 5)]? = some (14, 157) := by rw [e105]; exact s104_5
  have hn105 : aN h105 = (n + 6) := by rw [e105]; exact hn104
  have g105_k_2 : gR h105 k 2 = some (n + 1) := by rw [e105]; exact g104_k_2
  refine Rp.dup dX12_init_609 rfl ?_
  refine Rp.bipush (nI 94) dX12_init_610 (by decide) ?_
  refine Rp.bipush (nI 117) dX12_init_612 (by decide) ?_
  refine Rp.bastoreN dX12_init_614 s105_5 (by omega) ?_
  refine Rp.nm (fun h106 e106 => ?_)
  have s106_k : h106.1[k]? = some (12, clN 12) := by rw [e106]; exact s105_k
  have s106_1 : h106.1[(n + 1)]? = some (13, 5716) := by rw [e106]; exact s105_1
  have s106_5 : h106.1[(n + 5)]? = some (14, 157) := by rw [e106]; exact s105_5
  have hn106 : aN h106 = (n + 6) := by rw [e106]; exact hn105
  have g106_k_2 : gR h106 k 2 = some (n + 1) := by rw [e106]; exact g105_k_2
  refine Rp.dup dX12_init_615 rfl ?_
  refine Rp.bipush (nI 95) dX12_init_616 (by decide) ?_
  refine Rp.bipush (nI 116) dX12_init_618 (by decide) ?_
  refine Rp.bastoreN dX12_init_620 s106_5 (by omega) ?_
  refine Rp.nm (fun h107 e107 => ?_)
  have s107_k : h107.1[k]? = some (12, clN 12) := by rw [e107]; exact s106_k
  have s107_1 : h107.1[(n + 1)]? = some (13, 5716) := by rw [e107]; exact s106_1
  have s107_5 : h107.1[(n + 5)]? = some (14, 157) := by rw [e107]; exact s106_5
  have hn107 : aN h107 = (n + 6) := by rw [e107]; exact hn106
  have g107_k_2 : gR h107 k 2 = some (n + 1) := by rw [e107]; exact g106_k_2
  refine Rp.dup dX12_init_621 rfl ?_
  refine Rp.bipush (nI 96) dX12_init_622 (by decide) ?_
  refine Rp.bipush (nI 101) dX12_init_624 (by decide) ?_
  refine Rp.bastoreN dX12_init_626 s107_5 (by omega) ?_
  refine Rp.nm (fun h108 e108 => ?_)
  have s108_k : h108.1[k]? = some (12, clN 12) := by rw [e108]; exact s107_k
  have s108_1 : h108.1[(n + 1)]? = some (13, 5716) := by rw [e108]; exact s107_1
  have s108_5 : h108.1[(n + 5)]? = some (14, 157) := by rw [e108]; exact s107_5
  have hn108 : aN h108 = (n + 6) := by rw [e108]; exact hn107
  have g108_k_2 : gR h108 k 2 = some (n + 1) := by rw [e108]; exact g107_k_2
  refine Rp.dup dX12_init_627 rfl ?_
  refine Rp.bipush (nI 97) dX12_init_628 (by decide) ?_
  refine Rp.bipush (nI 32) dX12_init_630 (by decide) ?_
  refine Rp.bastoreN dX12_init_632 s108_5 (by omega) ?_
  refine Rp.nm (fun h109 e109 => ?_)
  have s109_k : h109.1[k]? = some (12, clN 12) := by rw [e109]; exact s108_k
  have s109_1 : h109.1[(n + 1)]? = some (13, 5716) := by rw [e109]; exact s108_1
  have s109_5 : h109.1[(n + 5)]? = some (14, 157) := by rw [e109]; exact s108_5
  have hn109 : aN h109 = (n + 6) := by rw [e109]; exact hn108
  have g109_k_2 : gR h109 k 2 = some (n + 1) := by rw [e109]; exact g108_k_2
  refine Rp.dup dX12_init_633 rfl ?_
  refine Rp.bipush (nI 98) dX12_init_634 (by decide) ?_
  refine Rp.bipush (nI 100) dX12_init_636 (by decide) ?_
  refine Rp.bastoreN dX12_init_638 s109_5 (by omega) ?_
  refine Rp.nm (fun h110 e110 => ?_)
  have s110_k : h110.1[k]? = some (12, clN 12) := by rw [e110]; exact s109_k
  have s110_1 : h110.1[(n + 1)]? = some (13, 5716) := by rw [e110]; exact s109_1
  have s110_5 : h110.1[(n + 5)]? = some (14, 157) := by rw [e110]; exact s109_5
  have hn110 : aN h110 = (n + 6) := by rw [e110]; exact hn109
  have g110_k_2 : gR h110 k 2 = some (n + 1) := by rw [e110]; exact g109_k_2
  refine Rp.dup dX12_init_639 rfl ?_
  refine Rp.bipush (nI 99) dX12_init_640 (by decide) ?_
  refine Rp.bipush (nI 111) dX12_init_642 (by decide) ?_
  refine Rp.bastoreN dX12_init_644 s110_5 (by omega) ?_
  refine Rp.nm (fun h111 e111 => ?_)
  have s111_k : h111.1[k]? = some (12, clN 12) := by rw [e111]; exact s110_k
  have s111_1 : h111.1[(n + 1)]? = some (13, 5716) := by rw [e111]; exact s110_1
  have s111_5 : h111.1[(n + 5)]? = some (14, 157) := by rw [e111]; exact s110_5
  have hn111 : aN h111 = (n + 6) := by rw [e111]; exact hn110
  have g111_k_2 : gR h111 k 2 = some (n + 1) := by rw [e111]; exact g110_k_2
  refine Rp.dup dX12_init_645 rfl ?_
  refine Rp.bipush (nI 100) dX12_init_646 (by decide) ?_
  refine Rp.bipush (nI 110) dX12_init_648 (by decide) ?_
  refine Rp.bastoreN dX12_init_650 s111_5 (by omega) ?_
  refine Rp.nm (fun h112 e112 => ?_)
  have s112_k : h112.1[k]? = some (12, clN 12) := by rw [e112]; exact s111_k
  have s112_1 : h112.1[(n + 1)]? = some (13, 5716) := by rw [e112]; exact s111_1
  have s112_5 : h112.1[(n + 5)]? = some (14, 157) := by rw [e112]; exact s111_5
  have hn112 : aN h112 = (n + 6) := by rw [e112]; exact hn111
  have g112_k_2 : gR h112 k 2 = some (n + 1) := by rw [e112]; exact g111_k_2
  refine Rp.dup dX12_init_651 rfl ?_
  refine Rp.bipush (nI 101) dX12_init_652 (by decide) ?_
  refine Rp.bipush (nI 101) dX12_init_654 (by decide) ?_
  refine Rp.bastoreN dX12_init_656 s112_5 (by omega) ?_
  refine Rp.nm (fun h113 e113 => ?_)
  have s113_k : h113.1[k]? = some (12, clN 12) := by rw [e113]; exact s112_k
  have s113_1 : h113.1[(n + 1)]? = some (13, 5716) := by rw [e113]; exact s112_1
  have s113_5 : h113.1[(n + 5)]? = some (14, 157) := by rw [e113]; exact s112_5
  have hn113 : aN h113 = (n + 6) := by rw [e113]; exact hn112
  have g113_k_2 : gR h113 k 2 = some (n + 1) := by rw [e113]; exact g112_k_2
  refine Rp.dup dX12_init_657 rfl ?_
  refine Rp.bipush (nI 102) dX12_init_658 (by decide) ?_
  refine Rp.bipush (nI 32) dX12_init_660 (by decide) ?_
  refine Rp.bastoreN dX12_init_662 s113_5 (by omega) ?_
  refine Rp.nm (fun h114 e114 => ?_)
  have s114_k : h114.1[k]? = some (12, clN 12) := by rw [e114]; exact s113_k
  have s114_1 : h114.1[(n + 1)]? = some (13, 5716) := by rw [e114]; exact s113_1
  have s114_5 : h114.1[(n + 5)]? = some (14, 157) := by rw [e114]; exact s113_5
  have hn114 : aN h114 = (n + 6) := by rw [e114]; exact hn113
  have g114_k_2 : gR h114 k 2 = some (n + 1) := by rw [e114]; exact g113_k_2
  refine Rp.dup dX12_init_663 rfl ?_
  refine Rp.bipush (nI 103) dX12_init_664 (by decide) ?_
  refine Rp.bipush (nI 108) dX12_init_666 (by decide) ?_
  refine Rp.bastoreN dX12_init_668 s114_5 (by omega) ?_
  refine Rp.nm (fun h115 e115 => ?_)
  have s115_k : h115.1[k]? = some (12, clN 12) := by rw [e115]; exact s114_k
  have s115_1 : h115.1[(n + 1)]? = some (13, 5716) := by rw [e115]; exact s114_1
  have s115_5 : h115.1[(n + 5)]? = some (14, 157) := by rw [e115]; exact s114_5
  have hn115 : aN h115 = (n + 6) := by rw [e115]; exact hn114
  have g115_k_2 : gR h115 k 2 = some (n + 1) := by rw [e115]; exact g114_k_2
  refine Rp.dup dX12_init_669 rfl ?_
  refine Rp.bipush (nI 104) dX12_init_670 (by decide) ?_
  refine Rp.bipush (nI 97) dX12_init_672 (by decide) ?_
  refine Rp.bastoreN dX12_init_674 s115_5 (by omega) ?_
  refine Rp.nm (fun h116 e116 => ?_)
  have s116_k : h116.1[k]? = some (12, clN 12) := by rw [e116]; exact s115_k
  have s116_1 : h116.1[(n + 1)]? = some (13, 5716) := by rw [e116]; exact s115_1
  have s116_5 : h116.1[(n + 5)]? = some (14, 157) := by rw [e116]; exact s115_5
  have hn116 : aN h116 = (n + 6) := by rw [e116]; exact hn115
  have g116_k_2 : gR h116 k 2 = some (n + 1) := by rw [e116]; exact g115_k_2
  refine Rp.dup dX12_init_675 rfl ?_
  refine Rp.bipush (nI 105) dX12_init_676 (by decide) ?_
  refine Rp.bipush (nI 116) dX12_init_678 (by decide) ?_
  refine Rp.bastoreN dX12_init_680 s116_5 (by omega) ?_
  refine Rp.nm (fun h117 e117 => ?_)
  have s117_k : h117.1[k]? = some (12, clN 12) := by rw [e117]; exact s116_k
  have s117_1 : h117.1[(n + 1)]? = some (13, 5716) := by rw [e117]; exact s116_1
  have s117_5 : h117.1[(n + 5)]? = some (14, 157) := by rw [e117]; exact s116_5
  have hn117 : aN h117 = (n + 6) := by rw [e117]; exact hn116
  have g117_k_2 : gR h117 k 2 = some (n + 1) := by rw [e117]; exact g116_k_2
  refine Rp.dup dX12_init_681 rfl ?_
  refine Rp.bipush (nI 106) dX12_init_682 (by decide) ?_
  refine Rp.bipush (nI 101) dX12_init_684 (by decide) ?_
  refine Rp.bastoreN dX12_init_686 s117_5 (by omega) ?_
  refine Rp.nm (fun h118 e118 => ?_)
  have s118_k : h118.1[k]? = some (12, clN 12) := by rw [e118]; exact s117_k
  have s118_1 : h118.1[(n + 1)]? = some (13, 5716) := by rw [e118]; exact s117_1
  have s118_5 : h118.1[(n + 5)]? = some (14, 157) := by rw [e118]; exact s117_5
  have hn118 : aN h118 = (n + 6) := by rw [e118]; exact hn117
  have g118_k_2 : gR h118 k 2 = some (n + 1) := by rw [e118]; exact g117_k_2
  refine Rp.dup dX12_init_687 rfl ?_
  refine Rp.bipush (nI 107) dX12_init_688 (by decide) ?_
  refine Rp.bipush (nI 115) dX12_init_690 (by decide) ?_
  refine Rp.bastoreN dX12_init_692 s118_5 (by omega) ?_
  refine Rp.nm (fun h119 e119 => ?_)
  have s119_k : h119.1[k]? = some (12, clN 12) := by rw [e119]; exact s118_k
  have s119_1 : h119.1[(n + 1)]? = some (13, 5716) := by rw [e119]; exact s118_1
  have s119_5 : h119.1[(n + 5)]? = some (14, 157) := by rw [e119]; exact s118_5
  have hn119 : aN h119 = (n + 6) := by rw [e119]; exact hn118
  have g119_k_2 : gR h119 k 2 = some (n + 1) := by rw [e119]; exact g118_k_2
  refine Rp.dup dX12_init_693 rfl ?_
  refine Rp.bipush (nI 108) dX12_init_694 (by decide) ?_
  refine Rp.bipush (nI 116) dX12_init_696 (by decide) ?_
  refine Rp.bastoreN dX12_init_698 s119_5 (by omega) ?_
  refine Rp.nm (fun h120 e120 => ?_)
  have s120_k : h120.1[k]? = some (12, clN 12) := by rw [e120]; exact s119_k
  have s120_1 : h120.1[(n + 1)]? = some (13, 5716) := by rw [e120]; exact s119_1
  have s120_5 : h120.1[(n + 5)]? = some (14, 157) := by rw [e120]; exact s119_5
  have hn120 : aN h120 = (n + 6) := by rw [e120]; exact hn119
  have g120_k_2 : gR h120 k 2 = some (n + 1) := by rw [e120]; exact g119_k_2
  refine Rp.dup dX12_init_699 rfl ?_
  refine Rp.bipush (nI 109) dX12_init_700 (by decide) ?_
  refine Rp.bipush (nI 32) dX12_init_702 (by decide) ?_
  refine Rp.bastoreN dX12_init_704 s120_5 (by omega) ?_
  refine Rp.nm (fun h121 e121 => ?_)
  have s121_k : h121.1[k]? = some (12, clN 12) := by rw [e121]; exact s120_k
  have s121_1 : h121.1[(n + 1)]? = some (13, 5716) := by rw [e121]; exact s120_1
  have s121_5 : h121.1[(n + 5)]? = some (14, 157) := by rw [e121]; exact s120_5
  have hn121 : aN h121 = (n + 6) := by rw [e121]; exact hn120
  have g121_k_2 : gR h121 k 2 = some (n + 1) := by rw [e121]; exact g120_k_2
  refine Rp.dup dX12_init_705 rfl ?_
  refine Rp.bipush (nI 110) dX12_init_706 (by decide) ?_
  refine Rp.bipush (nI 102) dX12_init_708 (by decide) ?_
  refine Rp.bastoreN dX12_init_710 s121_5 (by omega) ?_
  refine Rp.nm (fun h122 e122 => ?_)
  have s122_k : h122.1[k]? = some (12, clN 12) := by rw [e122]; exact s121_k
  have s122_1 : h122.1[(n + 1)]? = some (13, 5716) := by rw [e122]; exact s121_1
  have s122_5 : h122.1[(n + 5)]? = some (14, 157) := by rw [e122]; exact s121_5
  have hn122 : aN h122 = (n + 6) := by rw [e122]; exact hn121
  have g122_k_2 : gR h122 k 2 = some (n + 1) := by rw [e122]; exact g121_k_2
  refine Rp.dup dX12_init_711 rfl ?_
  refine Rp.bipush (nI 111) dX12_init_712 (by decide) ?_
  refine Rp.bipush (nI 105) dX12_init_714 (by decide) ?_
  refine Rp.bastoreN dX12_init_716 s122_5 (by omega) ?_
  refine Rp.nm (fun h123 e123 => ?_)
  have s123_k : h123.1[k]? = some (12, clN 12) := by rw [e123]; exact s122_k
  have s123_1 : h123.1[(n + 1)]? = some (13, 5716) := by rw [e123]; exact s122_1
  have s123_5 : h123.1[(n + 5)]? = some (14, 157) := by rw [e123]; exact s122_5
  have hn123 : aN h123 = (n + 6) := by rw [e123]; exact hn122
  have g123_k_2 : gR h123 k 2 = some (n + 1) := by rw [e123]; exact g122_k_2
  refine Rp.dup dX12_init_717 rfl ?_
  refine Rp.bipush (nI 112) dX12_init_718 (by decide) ?_
  refine Rp.bipush (nI 116) dX12_init_720 (by decide) ?_
  refine Rp.bastoreN dX12_init_722 s123_5 (by omega) ?_
  refine Rp.nm (fun h124 e124 => ?_)
  have s124_k : h124.1[k]? = some (12, clN 12) := by rw [e124]; exact s123_k
  have s124_1 : h124.1[(n + 1)]? = some (13, 5716) := by rw [e124]; exact s123_1
  have s124_5 : h124.1[(n + 5)]? = some (14, 157) := by rw [e124]; exact s123_5
  have hn124 : aN h124 = (n + 6) := by rw [e124]; exact hn123
  have g124_k_2 : gR h124 k 2 = some (n + 1) := by rw [e124]; exact g123_k_2
  refine Rp.dup dX12_init_723 rfl ?_
  refine Rp.bipush (nI 113) dX12_init_724 (by decide) ?_
  refine Rp.bipush (nI 32) dX12_init_726 (by decide) ?_
  refine Rp.bastoreN dX12_init_728 s124_5 (by omega) ?_
  refine Rp.nm (fun h125 e125 => ?_)
  have s125_k : h125.1[k]? = some (12, clN 12) := by rw [e125]; exact s124_k
  have s125_1 : h125.1[(n + 1)]? = some (13, 5716) := by rw [e125]; exact s124_1
  have s125_5 : h125.1[(n + 5)]? = some (14, 157) := by rw [e125]; exact s124_5
  have hn125 : aN h125 = (n + 6) := by rw [e125]; exact hn124
  have g125_k_2 : gR h125 k 2 = some (n + 1) := by rw [e125]; exact g124_k_2
  refine Rp.dup dX12_init_729 rfl ?_
  refine Rp.bipush (nI 114) dX12_init_730 (by decide) ?_
  refine Rp.bipush (nI 102) dX12_init_732 (by decide) ?_
  refine Rp.bastoreN dX12_init_734 s125_5 (by omega) ?_
  refine Rp.nm (fun h126 e126 => ?_)
  have s126_k : h126.1[k]? = some (12, clN 12) := by rw [e126]; exact s125_k
  have s126_1 : h126.1[(n + 1)]? = some (13, 5716) := by rw [e126]; exact s125_1
  have s126_5 : h126.1[(n + 5)]? = some (14, 157) := by rw [e126]; exact s125_5
  have hn126 : aN h126 = (n + 6) := by rw [e126]; exact hn125
  have g126_k_2 : gR h126 k 2 = some (n + 1) := by rw [e126]; exact g125_k_2
  refine Rp.dup dX12_init_735 rfl ?_
  refine Rp.bipush (nI 115) dX12_init_736 (by decide) ?_
  refine Rp.bipush (nI 114) dX12_init_738 (by decide) ?_
  refine Rp.bastoreN dX12_init_740 s126_5 (by omega) ?_
  refine Rp.nm (fun h127 e127 => ?_)
  have s127_k : h127.1[k]? = some (12, clN 12) := by rw [e127]; exact s126_k
  have s127_1 : h127.1[(n + 1)]? = some (13, 5716) := by rw [e127]; exact s126_1
  have s127_5 : h127.1[(n + 5)]? = some (14, 157) := by rw [e127]; exact s126_5
  have hn127 : aN h127 = (n + 6) := by rw [e127]; exact hn126
  have g127_k_2 : gR h127 k 2 = some (n + 1) := by rw [e127]; exact g126_k_2
  refine Rp.dup dX12_init_741 rfl ?_
  refine Rp.bipush (nI 116) dX12_init_742 (by decide) ?_
  refine Rp.bipush (nI 101) dX12_init_744 (by decide) ?_
  refine Rp.bastoreN dX12_init_746 s127_5 (by omega) ?_
  refine Rp.nm (fun h128 e128 => ?_)
  have s128_k : h128.1[k]? = some (12, clN 12) := by rw [e128]; exact s127_k
  have s128_1 : h128.1[(n + 1)]? = some (13, 5716) := by rw [e128]; exact s127_1
  have s128_5 : h128.1[(n + 5)]? = some (14, 157) := by rw [e128]; exact s127_5
  have hn128 : aN h128 = (n + 6) := by rw [e128]; exact hn127
  have g128_k_2 : gR h128 k 2 = some (n + 1) := by rw [e128]; exact g127_k_2
  refine Rp.dup dX12_init_747 rfl ?_
  refine Rp.bipush (nI 117) dX12_init_748 (by decide) ?_
  refine Rp.bipush (nI 101) dX12_init_750 (by decide) ?_
  refine Rp.bastoreN dX12_init_752 s128_5 (by omega) ?_
  refine Rp.nm (fun h129 e129 => ?_)
  have s129_k : h129.1[k]? = some (12, clN 12) := by rw [e129]; exact s128_k
  have s129_1 : h129.1[(n + 1)]? = some (13, 5716) := by rw [e129]; exact s128_1
  have s129_5 : h129.1[(n + 5)]? = some (14, 157) := by rw [e129]; exact s128_5
  have hn129 : aN h129 = (n + 6) := by rw [e129]; exact hn128
  have g129_k_2 : gR h129 k 2 = some (n + 1) := by rw [e129]; exact g128_k_2
  refine Rp.dup dX12_init_753 rfl ?_
  refine Rp.bipush (nI 118) dX12_init_754 (by decide) ?_
  refine Rp.bipush (nI 32) dX12_init_756 (by decide) ?_
  refine Rp.bastoreN dX12_init_758 s129_5 (by omega) ?_
  refine Rp.nm (fun h130 e130 => ?_)
  have s130_k : h130.1[k]? = some (12, clN 12) := by rw [e130]; exact s129_k
  have s130_1 : h130.1[(n + 1)]? = some (13, 5716) := by rw [e130]; exact s129_1
  have s130_5 : h130.1[(n + 5)]? = some (14, 157) := by rw [e130]; exact s129_5
  have hn130 : aN h130 = (n + 6) := by rw [e130]; exact hn129
  have g130_k_2 : gR h130 k 2 = some (n + 1) := by rw [e130]; exact g129_k_2
  refine Rp.dup dX12_init_759 rfl ?_
  refine Rp.bipush (nI 119) dX12_init_760 (by decide) ?_
  refine Rp.bipush (nI 104) dX12_init_762 (by decide) ?_
  refine Rp.bastoreN dX12_init_764 s130_5 (by omega) ?_
  refine Rp.nm (fun h131 e131 => ?_)
  have s131_k : h131.1[k]? = some (12, clN 12) := by rw [e131]; exact s130_k
  have s131_1 : h131.1[(n + 1)]? = some (13, 5716) := by rw [e131]; exact s130_1
  have s131_5 : h131.1[(n + 5)]? = some (14, 157) := by rw [e131]; exact s130_5
  have hn131 : aN h131 = (n + 6) := by rw [e131]; exact hn130
  have g131_k_2 : gR h131 k 2 = some (n + 1) := by rw [e131]; exact g130_k_2
  refine Rp.dup dX12_init_765 rfl ?_
  refine Rp.bipush (nI 120) dX12_init_766 (by decide) ?_
  refine Rp.bipush (nI 97) dX12_init_768 (by decide) ?_
  refine Rp.bastoreN dX12_init_770 s131_5 (by omega) ?_
  refine Rp.nm (fun h132 e132 => ?_)
  have s132_k : h132.1[k]? = some (12, clN 12) := by rw [e132]; exact s131_k
  have s132_1 : h132.1[(n + 1)]? = some (13, 5716) := by rw [e132]; exact s131_1
  have s132_5 : h132.1[(n + 5)]? = some (14, 157) := by rw [e132]; exact s131_5
  have hn132 : aN h132 = (n + 6) := by rw [e132]; exact hn131
  have g132_k_2 : gR h132 k 2 = some (n + 1) := by rw [e132]; exact g131_k_2
  refine Rp.dup dX12_init_771 rfl ?_
  refine Rp.bipush (nI 121) dX12_init_772 (by decide) ?_
  refine Rp.bipush (nI 115) dX12_init_774 (by decide) ?_
  refine Rp.bastoreN dX12_init_776 s132_5 (by omega) ?_
  refine Rp.nm (fun h133 e133 => ?_)
  have s133_k : h133.1[k]? = some (12, clN 12) := by rw [e133]; exact s132_k
  have s133_1 : h133.1[(n + 1)]? = some (13, 5716) := by rw [e133]; exact s132_1
  have s133_5 : h133.1[(n + 5)]? = some (14, 157) := by rw [e133]; exact s132_5
  have hn133 : aN h133 = (n + 6) := by rw [e133]; exact hn132
  have g133_k_2 : gR h133 k 2 = some (n + 1) := by rw [e133]; exact g132_k_2
  refine Rp.dup dX12_init_777 rfl ?_
  refine Rp.bipush (nI 122) dX12_init_778 (by decide) ?_
  refine Rp.bipush (nI 32) dX12_init_780 (by decide) ?_
  refine Rp.bastoreN dX12_init_782 s133_5 (by omega) ?_
  refine Rp.nm (fun h134 e134 => ?_)
  have s134_k : h134.1[k]? = some (12, clN 12) := by rw [e134]; exact s133_k
  have s134_1 : h134.1[(n + 1)]? = some (13, 5716) := by rw [e134]; exact s133_1
  have s134_5 : h134.1[(n + 5)]? = some (14, 157) := by rw [e134]; exact s133_5
  have hn134 : aN h134 = (n + 6) := by rw [e134]; exact hn133
  have g134_k_2 : gR h134 k 2 = some (n + 1) := by rw [e134]; exact g133_k_2
  refine Rp.dup dX12_init_783 rfl ?_
  refine Rp.bipush (nI 123) dX12_init_784 (by decide) ?_
  refine Rp.bipush (nI 100) dX12_init_786 (by decide) ?_
  refine Rp.bastoreN dX12_init_788 s134_5 (by omega) ?_
  refine Rp.nm (fun h135 e135 => ?_)
  have s135_k : h135.1[k]? = some (12, clN 12) := by rw [e135]; exact s134_k
  have s135_1 : h135.1[(n + 1)]? = some (13, 5716) := by rw [e135]; exact s134_1
  have s135_5 : h135.1[(n + 5)]? = some (14, 157) := by rw [e135]; exact s134_5
  have hn135 : aN h135 = (n + 6) := by rw [e135]; exact hn134
  have g135_k_2 : gR h135 k 2 = some (n + 1) := by rw [e135]; exact g134_k_2
  refine Rp.dup dX12_init_789 rfl ?_
  refine Rp.bipush (nI 124) dX12_init_790 (by decide) ?_
  refine Rp.bipush (nI 114) dX12_init_792 (by decide) ?_
  refine Rp.bastoreN dX12_init_794 s135_5 (by omega) ?_
  refine Rp.nm (fun h136 e136 => ?_)
  have s136_k : h136.1[k]? = some (12, clN 12) := by rw [e136]; exact s135_k
  have s136_1 : h136.1[(n + 1)]? = some (13, 5716) := by rw [e136]; exact s135_1
  have s136_5 : h136.1[(n + 5)]? = some (14, 157) := by rw [e136]; exact s135_5
  have hn136 : aN h136 = (n + 6) := by rw [e136]; exact hn135
  have g136_k_2 : gR h136 k 2 = some (n + 1) := by rw [e136]; exact g135_k_2
  refine Rp.dup dX12_init_795 rfl ?_
  refine Rp.bipush (nI 125) dX12_init_796 (by decide) ?_
  refine Rp.bipush (nI 97) dX12_init_798 (by decide) ?_
  refine Rp.bastoreN dX12_init_800 s136_5 (by omega) ?_
  refine Rp.nm (fun h137 e137 => ?_)
  have s137_k : h137.1[k]? = some (12, clN 12) := by rw [e137]; exact s136_k
  have s137_1 : h137.1[(n + 1)]? = some (13, 5716) := by rw [e137]; exact s136_1
  have s137_5 : h137.1[(n + 5)]? = some (14, 157) := by rw [e137]; exact s136_5
  have hn137 : aN h137 = (n + 6) := by rw [e137]; exact hn136
  have g137_k_2 : gR h137 k 2 = some (n + 1) := by rw [e137]; exact g136_k_2
  refine Rp.dup dX12_init_801 rfl ?_
  refine Rp.bipush (nI 126) dX12_init_802 (by decide) ?_
  refine Rp.bipush (nI 119) dX12_init_804 (by decide) ?_
  refine Rp.bastoreN dX12_init_806 s137_5 (by omega) ?_
  refine Rp.nm (fun h138 e138 => ?_)
  have s138_k : h138.1[k]? = some (12, clN 12) := by rw [e138]; exact s137_k
  have s138_1 : h138.1[(n + 1)]? = some (13, 5716) := by rw [e138]; exact s137_1
  have s138_5 : h138.1[(n + 5)]? = some (14, 157) := by rw [e138]; exact s137_5
  have hn138 : aN h138 = (n + 6) := by rw [e138]; exact hn137
  have g138_k_2 : gR h138 k 2 = some (n + 1) := by rw [e138]; exact g137_k_2
  refine Rp.dup dX12_init_807 rfl ?_
  refine Rp.bipush (nI 127) dX12_init_808 (by decide) ?_
  refine Rp.bipush (nI 32) dX12_init_810 (by decide) ?_
  refine Rp.bastoreN dX12_init_812 s138_5 (by omega) ?_
  refine Rp.nm (fun h139 e139 => ?_)
  have s139_k : h139.1[k]? = some (12, clN 12) := by rw [e139]; exact s138_k
  have s139_1 : h139.1[(n + 1)]? = some (13, 5716) := by rw [e139]; exact s138_1
  have s139_5 : h139.1[(n + 5)]? = some (14, 157) := by rw [e139]; exact s138_5
  have hn139 : aN h139 = (n + 6) := by rw [e139]; exact hn138
  have g139_k_2 : gR h139 k 2 = some (n + 1) := by rw [e139]; exact g138_k_2
  refine Rp.dup dX12_init_813 rfl ?_
  refine Rp.sipush (nI 128) dX12_init_814 (by decide) ?_
  refine Rp.bipush (nI 98) dX12_init_817 (by decide) ?_
  refine Rp.bastoreN dX12_init_819 s139_5 (by omega) ?_
  refine Rp.nm (fun h140 e140 => ?_)
  have s140_k : h140.1[k]? = some (12, clN 12) := by rw [e140]; exact s139_k
  have s140_1 : h140.1[(n + 1)]? = some (13, 5716) := by rw [e140]; exact s139_1
  have s140_5 : h140.1[(n + 5)]? = some (14, 157) := by rw [e140]; exact s139_5
  have hn140 : aN h140 = (n + 6) := by rw [e140]; exact hn139
  have g140_k_2 : gR h140 k 2 = some (n + 1) := by rw [e140]; exact g139_k_2
  refine Rp.dup dX12_init_820 rfl ?_
  refine Rp.sipush (nI 129) dX12_init_821 (by decide) ?_
  refine Rp.bipush (nI 121) dX12_init_824 (by decide) ?_
  refine Rp.bastoreN dX12_init_826 s140_5 (by omega) ?_
  refine Rp.nm (fun h141 e141 => ?_)
  have s141_k : h141.1[k]? = some (12, clN 12) := by rw [e141]; exact s140_k
  have s141_1 : h141.1[(n + 1)]? = some (13, 5716) := by rw [e141]; exact s140_1
  have s141_5 : h141.1[(n + 5)]? = some (14, 157) := by rw [e141]; exact s140_5
  have hn141 : aN h141 = (n + 6) := by rw [e141]; exact hn140
  have g141_k_2 : gR h141 k 2 = some (n + 1) := by rw [e141]; exact g140_k_2
  refine Rp.dup dX12_init_827 rfl ?_
  refine Rp.sipush (nI 130) dX12_init_828 (by decide) ?_
  refine Rp.bipush (nI 32) dX12_init_831 (by decide) ?_
  refine Rp.bastoreN dX12_init_833 s141_5 (by omega) ?_
  refine Rp.nm (fun h142 e142 => ?_)
  have s142_k : h142.1[k]? = some (12, clN 12) := by rw [e142]; exact s141_k
  have s142_1 : h142.1[(n + 1)]? = some (13, 5716) := by rw [e142]; exact s141_1
  have s142_5 : h142.1[(n + 5)]? = some (14, 157) := by rw [e142]; exact s141_5
  have hn142 : aN h142 = (n + 6) := by rw [e142]; exact hn141
  have g142_k_2 : gR h142 k 2 = some (n + 1) := by rw [e142]; exact g141_k_2
  refine Rp.dup dX12_init_834 rfl ?_
  refine Rp.sipush (nI 131) dX12_init_835 (by decide) ?_
  refine Rp.bipush (nI 115) dX12_init_838 (by decide) ?_
  refine Rp.bastoreN dX12_init_840 s142_5 (by omega) ?_
  refine Rp.nm (fun h143 e143 => ?_)
  have s143_k : h143.1[k]? = some (12, clN 12) := by rw [e143]; exact s142_k
  have s143_1 : h143.1[(n + 1)]? = some (13, 5716) := by rw [e143]; exact s142_1
  have s143_5 : h143.1[(n + 5)]? = some (14, 157) := by rw [e143]; exact s142_5
  have hn143 : aN h143 = (n + 6) := by rw [e143]; exact hn142
  have g143_k_2 : gR h143 k 2 = some (n + 1) := by rw [e143]; exact g142_k_2
  refine Rp.dup dX12_init_841 rfl ?_
  refine Rp.sipush (nI 132) dX12_init_842 (by decide) ?_
  refine Rp.bipush (nI 119) dX12_init_845 (by decide) ?_
  refine Rp.bastoreN dX12_init_847 s143_5 (by omega) ?_
  refine Rp.nm (fun h144 e144 => ?_)
  have s144_k : h144.1[k]? = some (12, clN 12) := by rw [e144]; exact s143_k
  have s144_1 : h144.1[(n + 1)]? = some (13, 5716) := by rw [e144]; exact s143_1
  have s144_5 : h144.1[(n + 5)]? = some (14, 157) := by rw [e144]; exact s143_5
  have hn144 : aN h144 = (n + 6) := by rw [e144]; exact hn143
  have g144_k_2 : gR h144 k 2 = some (n + 1) := by rw [e144]; exact g143_k_2
  refine Rp.dup dX12_init_848 rfl ?_
  refine Rp.sipush (nI 133) dX12_init_849 (by decide) ?_
  refine Rp.bipush (nI 97) dX12_init_852 (by decide) ?_
  refine Rp.bastoreN dX12_init_854 s144_5 (by omega) ?_
  refine Rp.nm (fun h145 e145 => ?_)
  have s145_k : h145.1[k]? = some (12, clN 12) := by rw [e145]; exact s144_k
  have s145_1 : h145.1[(n + 1)]? = some (13, 5716) := by rw [e145]; exact s144_1
  have s145_5 : h145.1[(n + 5)]? = some (14, 157) := by rw [e145]; exact s144_5
  have hn145 : aN h145 = (n + 6) := by rw [e145]; exact hn144
  have g145_k_2 : gR h145 k 2 = some (n + 1) := by rw [e145]; exact g144_k_2
  refine Rp.dup dX12_init_855 rfl ?_
  refine Rp.sipush (nI 134) dX12_init_856 (by decide) ?_
  refine Rp.bipush (nI 112) dX12_init_859 (by decide) ?_
  refine Rp.bastoreN dX12_init_861 s145_5 (by omega) ?_
  refine Rp.nm (fun h146 e146 => ?_)
  have s146_k : h146.1[k]? = some (12, clN 12) := by rw [e146]; exact s145_k
  have s146_1 : h146.1[(n + 1)]? = some (13, 5716) := by rw [e146]; exact s145_1
  have s146_5 : h146.1[(n + 5)]? = some (14, 157) := by rw [e146]; exact s145_5
  have hn146 : aN h146 = (n + 6) := by rw [e146]; exact hn145
  have g146_k_2 : gR h146 k 2 = some (n + 1) := by rw [e146]; exact g145_k_2
  refine Rp.dup dX12_init_862 rfl ?_
  refine Rp.sipush (nI 135) dX12_init_863 (by decide) ?_
  refine Rp.bipush (nI 32) dX12_init_866 (by decide) ?_
  refine Rp.bastoreN dX12_init_868 s146_5 (by omega) ?_
  refine Rp.nm (fun h147 e147 => ?_)
  have s147_k : h147.1[k]? = some (12, clN 12) := by rw [e147]; exact s146_k
  have s147_1 : h147.1[(n + 1)]? = some (13, 5716) := by rw [e147]; exact s146_1
  have s147_5 : h147.1[(n + 5)]? = some (14, 157) := by rw [e147]; exact s146_5
  have hn147 : aN h147 = (n + 6) := by rw [e147]; exact hn146
  have g147_k_2 : gR h147 k 2 = some (n + 1) := by rw [e147]; exact g146_k_2
  refine Rp.dup dX12_init_869 rfl ?_
  refine Rp.sipush (nI 136) dX12_init_870 (by decide) ?_
  refine Rp.bipush (nI 119) dX12_init_873 (by decide) ?_
  refine Rp.bastoreN dX12_init_875 s147_5 (by omega) ?_
  refine Rp.nm (fun h148 e148 => ?_)
  have s148_k : h148.1[k]? = some (12, clN 12) := by rw [e148]; exact s147_k
  have s148_1 : h148.1[(n + 1)]? = some (13, 5716) := by rw [e148]; exact s147_1
  have s148_5 : h148.1[(n + 5)]? = some (14, 157) := by rw [e148]; exact s147_5
  have hn148 : aN h148 = (n + 6) := by rw [e148]; exact hn147
  have g148_k_2 : gR h148 k 2 = some (n + 1) := by rw [e148]; exact g147_k_2
  refine Rp.dup dX12_init_876 rfl ?_
  refine Rp.sipush (nI 137) dX12_init_877 (by decide) ?_
  refine Rp.bipush (nI 105) dX12_init_880 (by decide) ?_
  refine Rp.bastoreN dX12_init_882 s148_5 (by omega) ?_
  refine Rp.nm (fun h149 e149 => ?_)
  have s149_k : h149.1[k]? = some (12, clN 12) := by rw [e149]; exact s148_k
  have s149_1 : h149.1[(n + 1)]? = some (13, 5716) := by rw [e149]; exact s148_1
  have s149_5 : h149.1[(n + 5)]? = some (14, 157) := by rw [e149]; exact s148_5
  have hn149 : aN h149 = (n + 6) := by rw [e149]; exact hn148
  have g149_k_2 : gR h149 k 2 = some (n + 1) := by rw [e149]; exact g148_k_2
  refine Rp.dup dX12_init_883 rfl ?_
  refine Rp.sipush (nI 138) dX12_init_884 (by decide) ?_
  refine Rp.bipush (nI 116) dX12_init_887 (by decide) ?_
  refine Rp.bastoreN dX12_init_889 s149_5 (by omega) ?_
  refine Rp.nm (fun h150 e150 => ?_)
  have s150_k : h150.1[k]? = some (12, clN 12) := by rw [e150]; exact s149_k
  have s150_1 : h150.1[(n + 1)]? = some (13, 5716) := by rw [e150]; exact s149_1
  have s150_5 : h150.1[(n + 5)]? = some (14, 157) := by rw [e150]; exact s149_5
  have hn150 : aN h150 = (n + 6) := by rw [e150]; exact hn149
  have g150_k_2 : gR h150 k 2 = some (n + 1) := by rw [e150]; exact g149_k_2
  refine Rp.dup dX12_init_890 rfl ?_
  refine Rp.sipush (nI 139) dX12_init_891 (by decide) ?_
  refine Rp.bipush (nI 104) dX12_init_894 (by decide) ?_
  refine Rp.bastoreN dX12_init_896 s150_5 (by omega) ?_
  refine Rp.nm (fun h151 e151 => ?_)
  have s151_k : h151.1[k]? = some (12, clN 12) := by rw [e151]; exact s150_k
  have s151_1 : h151.1[(n + 1)]? = some (13, 5716) := by rw [e151]; exact s150_1
  have s151_5 : h151.1[(n + 5)]? = some (14, 157) := by rw [e151]; exact s150_5
  have hn151 : aN h151 = (n + 6) := by rw [e151]; exact hn150
  have g151_k_2 : gR h151 k 2 = some (n + 1) := by rw [e151]; exact g150_k_2
  refine Rp.dup dX12_init_897 rfl ?_
  refine Rp.sipush (nI 140) dX12_init_898 (by decide) ?_
  refine Rp.bipush (nI 32) dX12_init_901 (by decide) ?_
  refine Rp.bastoreN dX12_init_903 s151_5 (by omega) ?_
  refine Rp.nm (fun h152 e152 => ?_)
  have s152_k : h152.1[k]? = some (12, clN 12) := by rw [e152]; exact s151_k
  have s152_1 : h152.1[(n + 1)]? = some (13, 5716) := by rw [e152]; exact s151_1
  have s152_5 : h152.1[(n + 5)]? = some (14, 157) := by rw [e152]; exact s151_5
  have hn152 : aN h152 = (n + 6) := by rw [e152]; exact hn151
  have g152_k_2 : gR h152 k 2 = some (n + 1) := by rw [e152]; exact g151_k_2
  refine Rp.dup dX12_init_904 rfl ?_
  refine Rp.sipush (nI 141) dX12_init_905 (by decide) ?_
  refine Rp.bipush (nI 100) dX12_init_908 (by decide) ?_
  refine Rp.bastoreN dX12_init_910 s152_5 (by omega) ?_
  refine Rp.nm (fun h153 e153 => ?_)
  have s153_k : h153.1[k]? = some (12, clN 12) := by rw [e153]; exact s152_k
  have s153_1 : h153.1[(n + 1)]? = some (13, 5716) := by rw [e153]; exact s152_1
  have s153_5 : h153.1[(n + 5)]? = some (14, 157) := by rw [e153]; exact s152_5
  have hn153 : aN h153 = (n + 6) := by rw [e153]; exact hn152
  have g153_k_2 : gR h153 k 2 = some (n + 1) := by rw [e153]; exact g152_k_2
  refine Rp.dup dX12_init_911 rfl ?_
  refine Rp.sipush (nI 142) dX12_init_912 (by decide) ?_
  refine Rp.bipush (nI 114) dX12_init_915 (by decide) ?_
  refine Rp.bastoreN dX12_init_917 s153_5 (by omega) ?_
  refine Rp.nm (fun h154 e154 => ?_)
  have s154_k : h154.1[k]? = some (12, clN 12) := by rw [e154]; exact s153_k
  have s154_1 : h154.1[(n + 1)]? = some (13, 5716) := by rw [e154]; exact s153_1
  have s154_5 : h154.1[(n + 5)]? = some (14, 157) := by rw [e154]; exact s153_5
  have hn154 : aN h154 = (n + 6) := by rw [e154]; exact hn153
  have g154_k_2 : gR h154 k 2 = some (n + 1) := by rw [e154]; exact g153_k_2
  refine Rp.dup dX12_init_918 rfl ?_
  refine Rp.sipush (nI 143) dX12_init_919 (by decide) ?_
  refine Rp.bipush (nI 111) dX12_init_922 (by decide) ?_
  refine Rp.bastoreN dX12_init_924 s154_5 (by omega) ?_
  refine Rp.nm (fun h155 e155 => ?_)
  have s155_k : h155.1[k]? = some (12, clN 12) := by rw [e155]; exact s154_k
  have s155_1 : h155.1[(n + 1)]? = some (13, 5716) := by rw [e155]; exact s154_1
  have s155_5 : h155.1[(n + 5)]? = some (14, 157) := by rw [e155]; exact s154_5
  have hn155 : aN h155 = (n + 6) := by rw [e155]; exact hn154
  have g155_k_2 : gR h155 k 2 = some (n + 1) := by rw [e155]; exact g154_k_2
  refine Rp.dup dX12_init_925 rfl ?_
  refine Rp.sipush (nI 144) dX12_init_926 (by decide) ?_
  refine Rp.bipush (nI 112) dX12_init_929 (by decide) ?_
  refine Rp.bastoreN dX12_init_931 s155_5 (by omega) ?_
  refine Rp.nm (fun h156 e156 => ?_)
  have s156_k : h156.1[k]? = some (12, clN 12) := by rw [e156]; exact s155_k
  have s156_1 : h156.1[(n + 1)]? = some (13, 5716) := by rw [e156]; exact s155_1
  have s156_5 : h156.1[(n + 5)]? = some (14, 157) := by rw [e156]; exact s155_5
  have hn156 : aN h156 = (n + 6) := by rw [e156]; exact hn155
  have g156_k_2 : gR h156 k 2 = some (n + 1) := by rw [e156]; exact g155_k_2
  refine Rp.dup dX12_init_932 rfl ?_
  refine Rp.sipush (nI 145) dX12_init_933 (by decide) ?_
  refine Rp.bipush (nI 32) dX12_init_936 (by decide) ?_
  refine Rp.bastoreN dX12_init_938 s156_5 (by omega) ?_
  refine Rp.nm (fun h157 e157 => ?_)
  have s157_k : h157.1[k]? = some (12, clN 12) := by rw [e157]; exact s156_k
  have s157_1 : h157.1[(n + 1)]? = some (13, 5716) := by rw [e157]; exact s156_1
  have s157_5 : h157.1[(n + 5)]? = some (14, 157) := by rw [e157]; exact s156_5
  have hn157 : aN h157 = (n + 6) := by rw [e157]; exact hn156
  have g157_k_2 : gR h157 k 2 = some (n + 1) := by rw [e157]; exact g156_k_2
  refine Rp.dup dX12_init_939 rfl ?_
  refine Rp.sipush (nI 146) dX12_init_940 (by decide) ?_
  refine Rp.bipush (nI 112) dX12_init_943 (by decide) ?_
  refine Rp.bastoreN dX12_init_945 s157_5 (by omega) ?_
  refine Rp.nm (fun h158 e158 => ?_)
  have s158_k : h158.1[k]? = some (12, clN 12) := by rw [e158]; exact s157_k
  have s158_1 : h158.1[(n + 1)]? = some (13, 5716) := by rw [e158]; exact s157_1
  have s158_5 : h158.1[(n + 5)]? = some (14, 157) := by rw [e158]; exact s157_5
  have hn158 : aN h158 = (n + 6) := by rw [e158]; exact hn157
  have g158_k_2 : gR h158 k 2 = some (n + 1) := by rw [e158]; exact g157_k_2
  refine Rp.dup dX12_init_946 rfl ?_
  refine Rp.sipush (nI 147) dX12_init_947 (by decide) ?_
  refine Rp.bipush (nI 97) dX12_init_950 (by decide) ?_
  refine Rp.bastoreN dX12_init_952 s158_5 (by omega) ?_
  refine Rp.nm (fun h159 e159 => ?_)
  have s159_k : h159.1[k]? = some (12, clN 12) := by rw [e159]; exact s158_k
  have s159_1 : h159.1[(n + 1)]? = some (13, 5716) := by rw [e159]; exact s158_1
  have s159_5 : h159.1[(n + 5)]? = some (14, 157) := by rw [e159]; exact s158_5
  have hn159 : aN h159 = (n + 6) := by rw [e159]; exact hn158
  have g159_k_2 : gR h159 k 2 = some (n + 1) := by rw [e159]; exact g158_k_2
  refine Rp.dup dX12_init_953 rfl ?_
  refine Rp.sipush (nI 148) dX12_init_954 (by decide) ?_
  refine Rp.bipush (nI 115) dX12_init_957 (by decide) ?_
  refine Rp.bastoreN dX12_init_959 s159_5 (by omega) ?_
  refine Rp.nm (fun h160 e160 => ?_)
  have s160_k : h160.1[k]? = some (12, clN 12) := by rw [e160]; exact s159_k
  have s160_1 : h160.1[(n + 1)]? = some (13, 5716) := by rw [e160]; exact s159_1
  have s160_5 : h160.1[(n + 5)]? = some (14, 157) := by rw [e160]; exact s159_5
  have hn160 : aN h160 = (n + 6) := by rw [e160]; exact hn159
  have g160_k_2 : gR h160 k 2 = some (n + 1) := by rw [e160]; exact g159_k_2
  refine Rp.dup dX12_init_960 rfl ?_
  refine Rp.sipush (nI 149) dX12_init_961 (by decide) ?_
  refine Rp.bipush (nI 115) dX12_init_964 (by decide) ?_
  refine Rp.bastoreN dX12_init_966 s160_5 (by omega) ?_
  refine Rp.nm (fun h161 e161 => ?_)
  have s161_k : h161.1[k]? = some (12, clN 12) := by rw [e161]; exact s160_k
  have s161_1 : h161.1[(n + 1)]? = some (13, 5716) := by rw [e161]; exact s160_1
  have s161_5 : h161.1[(n + 5)]? = some (14, 157) := by rw [e161]; exact s160_5
  have hn161 : aN h161 = (n + 6) := by rw [e161]; exact hn160
  have g161_k_2 : gR h161 k 2 = some (n + 1) := by rw [e161]; exact g160_k_2
  refine Rp.dup dX12_init_967 rfl ?_
  refine Rp.sipush (nI 150) dX12_init_968 (by decide) ?_
  refine Rp.bipush (nI 32) dX12_init_971 (by decide) ?_
  refine Rp.bastoreN dX12_init_973 s161_5 (by omega) ?_
  refine Rp.nm (fun h162 e162 => ?_)
  have s162_k : h162.1[k]? = some (12, clN 12) := by rw [e162]; exact s161_k
  have s162_1 : h162.1[(n + 1)]? = some (13, 5716) := by rw [e162]; exact s161_1
  have s162_5 : h162.1[(n + 5)]? = some (14, 157) := by rw [e162]; exact s161_5
  have hn162 : aN h162 = (n + 6) := by rw [e162]; exact hn161
  have g162_k_2 : gR h162 k 2 = some (n + 1) := by rw [e162]; exact g161_k_2
  refine Rp.dup dX12_init_974 rfl ?_
  refine Rp.sipush (nI 151) dX12_init_975 (by decide) ?_
  refine Rp.bipush (nI 116) dX12_init_978 (by decide) ?_
  refine Rp.bastoreN dX12_init_980 s162_5 (by omega) ?_
  refine Rp.nm (fun h163 e163 => ?_)
  have s163_k : h163.1[k]? = some (12, clN 12) := by rw [e163]; exact s162_k
  have s163_1 : h163.1[(n + 1)]? = some (13, 5716) := by rw [e163]; exact s162_1
  have s163_5 : h163.1[(n + 5)]? = some (14, 157) := by rw [e163]; exact s162_5
  have hn163 : aN h163 = (n + 6) := by rw [e163]; exact hn162
  have g163_k_2 : gR h163 k 2 = some (n + 1) := by rw [e163]; exact g162_k_2
  refine Rp.dup dX12_init_981 rfl ?_
  refine Rp.sipush (nI 152) dX12_init_982 (by decide) ?_
  refine Rp.bipush (nI 105) dX12_init_985 (by decide) ?_
  refine Rp.bastoreN dX12_init_987 s163_5 (by omega) ?_
  refine Rp.nm (fun h164 e164 => ?_)
  have s164_k : h164.1[k]? = some (12, clN 12) := by rw [e164]; exact s163_k
  have s164_1 : h164.1[(n + 1)]? = some (13, 5716) := by rw [e164]; exact s163_1
  have s164_5 : h164.1[(n + 5)]? = some (14, 157) := by rw [e164]; exact s163_5
  have hn164 : aN h164 = (n + 6) := by rw [e164]; exact hn163
  have g164_k_2 : gR h164 k 2 = some (n + 1) := by rw [e164]; exact g163_k_2
  refine Rp.dup dX12_init_988 rfl ?_
  refine Rp.sipush (nI 153) dX12_init_989 (by decide) ?_
  refine Rp.bipush (nI 109) dX12_init_992 (by decide) ?_
  refine Rp.bastoreN dX12_init_994 s164_5 (by omega) ?_
  refine Rp.nm (fun h165 e165 => ?_)
  have s165_k : h165.1[k]? = some (12, clN 12) := by rw [e165]; exact s164_k
  have s165_1 : h165.1[(n + 1)]? = some (13, 5716) := by rw [e165]; exact s164_1
  have s165_5 : h165.1[(n + 5)]? = some (14, 157) := by rw [e165]; exact s164_5
  have hn165 : aN h165 = (n + 6) := by rw [e165]; exact hn164
  have g165_k_2 : gR h165 k 2 = some (n + 1) := by rw [e165]; exact g164_k_2
  refine Rp.dup dX12_init_995 rfl ?_
  refine Rp.sipush (nI 154) dX12_init_996 (by decide) ?_
  refine Rp.bipush (nI 101) dX12_init_999 (by decide) ?_
  refine Rp.bastoreN dX12_init_1001 s165_5 (by omega) ?_
  refine Rp.nm (fun h166 e166 => ?_)
  have s166_k : h166.1[k]? = some (12, clN 12) := by rw [e166]; exact s165_k
  have s166_1 : h166.1[(n + 1)]? = some (13, 5716) := by rw [e166]; exact s165_1
  have s166_5 : h166.1[(n + 5)]? = some (14, 157) := by rw [e166]; exact s165_5
  have hn166 : aN h166 = (n + 6) := by rw [e166]; exact hn165
  have g166_k_2 : gR h166 k 2 = some (n + 1) := by rw [e166]; exact g165_k_2
  refine Rp.dup dX12_init_1002 rfl ?_
  refine Rp.sipush (nI 155) dX12_init_1003 (by decide) ?_
  refine Rp.bipush (nI 115) dX12_init_1006 (by decide) ?_
  refine Rp.bastoreN dX12_init_1008 s166_5 (by omega) ?_
  refine Rp.nm (fun h167 e167 => ?_)
  have s167_k : h167.1[k]? = some (12, clN 12) := by rw [e167]; exact s166_k
  have s167_1 : h167.1[(n + 1)]? = some (13, 5716) := by rw [e167]; exact s166_1
  have s167_5 : h167.1[(n + 5)]? = some (14, 157) := by rw [e167]; exact s166_5
  have hn167 : aN h167 = (n + 6) := by rw [e167]; exact hn166
  have g167_k_2 : gR h167 k 2 = some (n + 1) := by rw [e167]; exact g166_k_2
  refine Rp.dup dX12_init_1009 rfl ?_
  refine Rp.sipush (nI 156) dX12_init_1010 (by decide) ?_
  refine Rp.bipush (nI 32) dX12_init_1013 (by decide) ?_
  refine Rp.bastoreN dX12_init_1015 s167_5 (by omega) ?_
  refine Rp.nm (fun h168 e168 => ?_)
  have s168_k : h168.1[k]? = some (12, clN 12) := by rw [e168]; exact s167_k
  have s168_1 : h168.1[(n + 1)]? = some (13, 5716) := by rw [e168]; exact s167_1
  have s168_5 : h168.1[(n + 5)]? = some (14, 157) := by rw [e168]; exact s167_5
  have hn168 : aN h168 = (n + 6) := by rw [e168]; exact hn167
  have g168_k_2 : gR h168 k 2 = some (n + 1) := by rw [e168]; exact g167_k_2
  refine Rp.putR dX12_init_1016 fk_X12_37w (fun _ => rfl) (Or.inr ⟨_, rfl⟩) s168_k ?_
  refine Rp.nm (fun h169 e169 => ?_)
  have s169_k : h169.1[k]? = some (12, clN 12) := by rw [e169]; exact s168_k
  have s169_1 : h169.1[(n + 1)]? = some (13, 5716) := by rw [e169]; exact s168_1
  have s169_5 : h169.1[(n + 5)]? = some (14, 157) := by rw [e169]; exact s168_5
  have hn169 : aN h169 = (n + 6) := by rw [e169]; exact hn168
  have g169_k_2 : gR h169 k 2 = some (n + 1) := by rw [e169]; exact gq_sRj (by decide) g168_k_2
  refine Rp.aload_n dX12_init_1019 rfl rfl ?_
  refine Rp.sipush (nI 400) dX12_init_1020 (by decide) ?_
  refine Rp.newaA (n + 6) 1 400 hn169 dX12_init_1023 ⟨rfl, by decide, ac_1⟩ (by decide) ?_
  refine Rp.nm (fun h170 e170 => ?_)
  have s170_k : h170.1[k]? = some (12, clN 12) := by rw [e170]; exact sh_old s169_k
  have s170_1 : h170.1[(n + 1)]? = some (13, 5716) := by rw [e170]; exact sh_old s169_1
  have s170_5 : h170.1[(n + 5)]? = some (14, 157) := by rw [e170]; exact sh_old s169_5
  have hn170 : aN h170 = (n + 7) := by rw [e170, aN_new, hn169]
  have g170_k_2 : gR h170 k 2 = some (n + 1) := by rw [e170]; exact gq_new (by rw [hn169]; exact (ne_k hlt 6)) g169_k_2
  refine Rp.putR dX12_init_1025 fk_X12_41w (fun _ => rfl) (Or.inr ⟨_, rfl⟩) s170_k ?_
  refine Rp.nm (fun h171 e171 => ?_)
  have s171_k : h171.1[k]? = some (12, clN 12) := by rw [e171]; exact s170_k
  have s171_1 : h171.1[(n + 1)]? = some (13, 5716) := by rw [e171]; exact s170_1
  have s171_5 : h171.1[(n + 5)]? = some (14, 157) := by rw [e171]; exact s170_5
  have hn171 : aN h171 = (n + 7) := by rw [e171]; exact hn170
  have g171_k_2 : gR h171 k 2 = some (n + 1) := by rw [e171]; exact gq_sRj (by decide) g170_k_2
  refine Rp.aload_n dX12_init_1028 rfl rfl ?_
  refine Rp.iconst (nI 5) dX12_init_1029 (by decide) ?_
  refine Rp.newaA (n + 7) 0 5 hn171 dX12_init_1030 ⟨rfl, by decide, ac_0⟩ (by decide) ?_
  refine Rp.nm (fun h172 e172 => ?_)
  have s172_k : h172.1[k]? = some (12, clN 12) := by rw [e172]; exact sh_old s171_k
  have s172_1 : h172.1[(n + 1)]? = some (13, 5716) := by rw [e172]; exact sh_old s171_1
  have s172_5 : h172.1[(n + 5)]? = some (14, 157) := by rw [e172]; exact sh_old s171_5
  have hn172 : aN h172 = (n + 8) := by rw [e172, aN_new, hn171]
  have g172_k_2 : gR h172 k 2 = some (n + 1) := by rw [e172]; exact gq_new (by rw [hn171]; exact (ne_k hlt 7)) g171_k_2
  refine Rp.putR dX12_init_1032 fk_X12_44w (fun _ => rfl) (Or.inr ⟨_, rfl⟩) s172_k ?_
  refine Rp.nm (fun h173 e173 => ?_)
  have s173_k : h173.1[k]? = some (12, clN 12) := by rw [e173]; exact s172_k
  have s173_1 : h173.1[(n + 1)]? = some (13, 5716) := by rw [e173]; exact s172_1
  have s173_5 : h173.1[(n + 5)]? = some (14, 157) := by rw [e173]; exact s172_5
  have hn173 : aN h173 = (n + 8) := by rw [e173]; exact hn172
  have g173_k_2 : gR h173 k 2 = some (n + 1) := by rw [e173]; exact gq_sRj (by decide) g172_k_2
  refine Rp.aload_n dX12_init_1035 rfl rfl ?_
  refine Rp.iconst (-1) dX12_init_1036 (by decide) ?_
  refine Rp.putI dX12_init_1037 fk_X12_47w rfl s173_k ?_
  refine Rp.nm (fun h174 e174 => ?_)
  have s174_k : h174.1[k]? = some (12, clN 12) := by rw [e174]; exact s173_k
  have s174_1 : h174.1[(n + 1)]? = some (13, 5716) := by rw [e174]; exact s173_1
  have s174_5 : h174.1[(n + 5)]? = some (14, 157) := by rw [e174]; exact s173_5
  have hn174 : aN h174 = (n + 8) := by rw [e174]; exact hn173
  have g174_k_2 : gR h174 k 2 = some (n + 1) := by rw [e174]; exact g173_k_2
  refine Rp.aload_n dX12_init_1040 rfl rfl ?_
  refine Rp.sipush (nI 401) dX12_init_1041 (by decide) ?_
  refine Rp.newaA (n + 8) 0 401 hn174 dX12_init_1044 ⟨rfl, by decide, ac_0⟩ (by decide) ?_
  refine Rp.nm (fun h175 e175 => ?_)
  have s175_k : h175.1[k]? = some (12, clN 12) := by rw [e175]; exact sh_old s174_k
  have s175_1 : h175.1[(n + 1)]? = some (13, 5716) := by rw [e175]; exact sh_old s174_1
  have s175_5 : h175.1[(n + 5)]? = some (14, 157) := by rw [e175]; exact sh_old s174_5
  have hn175 : aN h175 = (n + 9) := by rw [e175, aN_new, hn174]
  have g175_k_2 : gR h175 k 2 = some (n + 1) := by rw [e175]; exact gq_new (by rw [hn174]; exact (ne_k hlt 8)) g174_k_2
  refine Rp.putR dX12_init_1046 fk_X12_50w (fun _ => rfl) (Or.inr ⟨_, rfl⟩) s175_k ?_
  refine Rp.nm (fun h176 e176 => ?_)
  have s176_k : h176.1[k]? = some (12, clN 12) := by rw [e176]; exact s175_k
  have s176_1 : h176.1[(n + 1)]? = some (13, 5716) := by rw [e176]; exact s175_1
  have s176_5 : h176.1[(n + 5)]? = some (14, 157) := by rw [e176]; exact s175_5
  have hn176 : aN h176 = (n + 9) := by rw [e176]; exact hn175
  have g176_k_2 : gR h176 k 2 = some (n + 1) := by rw [e176]; exact gq_sRj (by decide) g175_k_2
  refine Rp.aload_n dX12_init_1049 rfl rfl ?_
  refine Rp.sipush (nI 401) dX12_init_1050 (by decide) ?_
  refine Rp.newaA (n + 9) 0 401 hn176 dX12_init_1053 ⟨rfl, by decide, ac_0⟩ (by decide) ?_
  refine Rp.nm (fun h177 e177 => ?_)
  have s177_k : h177.1[k]? = some (12, clN 12) := by rw [e177]; exact sh_old s176_k
  have s177_1 : h177.1[(n + 1)]? = some (13, 5716) := by rw [e177]; exact sh_old s176_1
  have s177_5 : h177.1[(n + 5)]? = some (14, 157) := by rw [e177]; exact sh_old s176_5
  have hn177 : aN h177 = (n + 10) := by rw [e177, aN_new, hn176]
  have g177_k_2 : gR h177 k 2 = some (n + 1) := by rw [e177]; exact gq_new (by rw [hn176]; exact (ne_k hlt 9)) g176_k_2
  refine Rp.putR dX12_init_1055 fk_X12_53w (fun _ => rfl) (Or.inr ⟨_, rfl⟩) s177_k ?_
  refine Rp.nm (fun h178 e178 => ?_)
  have s178_k : h178.1[k]? = some (12, clN 12) := by rw [e178]; exact s177_k
  have s178_1 : h178.1[(n + 1)]? = some (13, 5716) := by rw [e178]; exact s177_1
  have s178_5 : h178.1[(n + 5)]? = some (14, 157) := by rw [e178]; exact s177_5
  have hn178 : aN h178 = (n + 10) := by rw [e178]; exact hn177
  have g178_k_2 : gR h178 k 2 = some (n + 1) := by rw [e178]; exact gq_sRj (by decide) g177_k_2
  refine Rp.aload_n dX12_init_1058 rfl rfl ?_
  refine Rp.sipush (nI 401) dX12_init_1059 (by decide) ?_
  refine Rp.newaA (n + 10) 0 401 hn178 dX12_init_1062 ⟨rfl, by decide, ac_0⟩ (by decide) ?_
  refine Rp.nm (fun h179 e179 => ?_)
  have s179_k : h179.1[k]? = some (12, clN 12) := by rw [e179]; exact sh_old s178_k
  have s179_1 : h179.1[(n + 1)]? = some (13, 5716) := by rw [e179]; exact sh_old s178_1
  have s179_5 : h179.1[(n + 5)]? = some (14, 157) := by rw [e179]; exact sh_old s178_5
  have hn179 : aN h179 = (n + 11) := by rw [e179, aN_new, hn178]
  have g179_k_2 : gR h179 k 2 = some (n + 1) := by rw [e179]; exact gq_new (by rw [hn178]; exact (ne_k hlt 10)) g178_k_2
  refine Rp.putR dX12_init_1064 fk_X12_56w (fun _ => rfl) (Or.inr ⟨_, rfl⟩) s179_k ?_
  refine Rp.nm (fun h180 e180 => ?_)
  have s180_k : h180.1[k]? = some (12, clN 12) := by rw [e180]; exact s179_k
  have s180_1 : h180.1[(n + 1)]? = some (13, 5716) := by rw [e180]; exact s179_1
  have s180_5 : h180.1[(n + 5)]? = some (14, 157) := by rw [e180]; exact s179_5
  have hn180 : aN h180 = (n + 11) := by rw [e180]; exact hn179
  have g180_k_2 : gR h180 k 2 = some (n + 1) := by rw [e180]; exact gq_sRj (by decide) g179_k_2
  refine Rp.aload_n dX12_init_1067 rfl rfl ?_
  refine Rp.bipush (nI 9) dX12_init_1068 (by decide) ?_
  refine Rp.newaA (n + 11) 0 9 hn180 dX12_init_1070 ⟨rfl, by decide, ac_0⟩ (by decide) ?_
  refine Rp.nm (fun h181 e181 => ?_)
  have s181_k : h181.1[k]? = some (12, clN 12) := by rw [e181]; exact sh_old s180_k
  have s181_1 : h181.1[(n + 1)]? = some (13, 5716) := by rw [e181]; exact sh_old s180_1
  have s181_5 : h181.1[(n + 5)]? = some (14, 157) := by rw [e181]; exact sh_old s180_5
  have hn181 : aN h181 = (n + 12) := by rw [e181, aN_new, hn180]
  have g181_k_2 : gR h181 k 2 = some (n + 1) := by rw [e181]; exact gq_new (by rw [hn180]; exact (ne_k hlt 11)) g180_k_2
  refine Rp.putR dX12_init_1072 fk_X12_59w (fun _ => rfl) (Or.inr ⟨_, rfl⟩) s181_k ?_
  refine Rp.nm (fun h182 e182 => ?_)
  have s182_k : h182.1[k]? = some (12, clN 12) := by rw [e182]; exact s181_k
  have s182_1 : h182.1[(n + 1)]? = some (13, 5716) := by rw [e182]; exact s181_1
  have s182_5 : h182.1[(n + 5)]? = some (14, 157) := by rw [e182]; exact s181_5
  have hn182 : aN h182 = (n + 12) := by rw [e182]; exact hn181
  have g182_k_2 : gR h182 k 2 = some (n + 1) := by rw [e182]; exact gq_sRj (by decide) g181_k_2
  refine Rp.aload_n dX12_init_1075 rfl rfl ?_
  refine Rp.sipush (nI 128) dX12_init_1076 (by decide) ?_
  refine Rp.newaA (n + 12) 0 128 hn182 dX12_init_1079 ⟨rfl, by decide, ac_0⟩ (by decide) ?_
  refine Rp.nm (fun h183 e183 => ?_)
  have s183_k : h183.1[k]? = some (12, clN 12) := by rw [e183]; exact sh_old s182_k
  have s183_1 : h183.1[(n + 1)]? = some (13, 5716) := by rw [e183]; exact sh_old s182_1
  have s183_5 : h183.1[(n + 5)]? = some (14, 157) := by rw [e183]; exact sh_old s182_5
  have hn183 : aN h183 = (n + 13) := by rw [e183, aN_new, hn182]
  have g183_k_2 : gR h183 k 2 = some (n + 1) := by rw [e183]; exact gq_new (by rw [hn182]; exact (ne_k hlt 12)) g182_k_2
  refine Rp.putR dX12_init_1081 fk_X12_62w (fun _ => rfl) (Or.inr ⟨_, rfl⟩) s183_k ?_
  refine Rp.nm (fun h184 e184 => ?_)
  have s184_k : h184.1[k]? = some (12, clN 12) := by rw [e184]; exact s183_k
  have s184_1 : h184.1[(n + 1)]? = some (13, 5716) := by rw [e184]; exact s183_1
  have s184_5 : h184.1[(n + 5)]? = some (14, 157) := by rw [e184]; exact s183_5
  have hn184 : aN h184 = (n + 13) := by rw [e184]; exact hn183
  have g184_k_2 : gR h184 k 2 = some (n + 1) := by rw [e184]; exact gq_sRj (by decide) g183_k_2
  refine Rp.aload_n dX12_init_1084 rfl rfl ?_
  refine Rp.sipush (nI 128) dX12_init_1085 (by decide) ?_
  refine Rp.newaA (n + 13) 0 128 hn184 dX12_init_1088 ⟨rfl, by decide, ac_0⟩ (by decide) ?_
  refine Rp.nm (fun h185 e185 => ?_)
  have s185_k : h185.1[k]? = some (12, clN 12) := by rw [e185]; exact sh_old s184_k
  have s185_1 : h185.1[(n + 1)]? = some (13, 5716) := by rw [e185]; exact sh_old s184_1
  have s185_5 : h185.1[(n + 5)]? = some (14, 157) := by rw [e185]; exact sh_old s184_5
  have hn185 : aN h185 = (n + 14) := by rw [e185, aN_new, hn184]
  have g185_k_2 : gR h185 k 2 = some (n + 1) := by rw [e185]; exact gq_new (by rw [hn184]; exact (ne_k hlt 13)) g184_k_2
  refine Rp.putR dX12_init_1090 fk_X12_65w (fun _ => rfl) (Or.inr ⟨_, rfl⟩) s185_k ?_
  refine Rp.nm (fun h186 e186 => ?_)
  have s186_k : h186.1[k]? = some (12, clN 12) := by rw [e186]; exact s185_k
  have s186_1 : h186.1[(n + 1)]? = some (13, 5716) := by rw [e186]; exact s185_1
  have s186_5 : h186.1[(n + 5)]? = some (14, 157) := by rw [e186]; exact s185_5
  have hn186 : aN h186 = (n + 14) := by rw [e186]; exact hn185
  have g186_k_2 : gR h186 k 2 = some (n + 1) := by rw [e186]; exact gq_sRj (by decide) g185_k_2
  refine Rp.aload_n dX12_init_1093 rfl rfl ?_
  refine Rp.bipush (nI 6) dX12_init_1094 (by decide) ?_
  refine Rp.newaA (n + 14) 0 6 hn186 dX12_init_1096 ⟨rfl, by decide, ac_0⟩ (by decide) ?_
  refine Rp.nm (fun h187 e187 => ?_)
  have s187_k : h187.1[k]? = some (12, clN 12) := by rw [e187]; exact sh_old s186_k
  have s187_1 : h187.1[(n + 1)]? = some (13, 5716) := by rw [e187]; exact sh_old s186_1
  have s187_5 : h187.1[(n + 5)]? = some (14, 157) := by rw [e187]; exact sh_old s186_5
  have hn187 : aN h187 = (n + 15) := by rw [e187, aN_new, hn186]
  have g187_k_2 : gR h187 k 2 = some (n + 1) := by rw [e187]; exact gq_new (by rw [hn186]; exact (ne_k hlt 14)) g186_k_2
  refine Rp.putR dX12_init_1098 fk_X12_68w (fun _ => rfl) (Or.inr ⟨_, rfl⟩) s187_k ?_
  refine Rp.nm (fun h188 e188 => ?_)
  have s188_k : h188.1[k]? = some (12, clN 12) := by rw [e188]; exact s187_k
  have s188_1 : h188.1[(n + 1)]? = some (13, 5716) := by rw [e188]; exact s187_1
  have s188_5 : h188.1[(n + 5)]? = some (14, 157) := by rw [e188]; exact s187_5
  have hn188 : aN h188 = (n + 15) := by rw [e188]; exact hn187
  have g188_k_2 : gR h188 k 2 = some (n + 1) := by rw [e188]; exact gq_sRj (by decide) g187_k_2
  refine Rp.aload_n dX12_init_1101 rfl rfl ?_
  refine Rp.bipush (nI 6) dX12_init_1102 (by decide) ?_
  refine Rp.newaA (n + 15) 0 6 hn188 dX12_init_1104 ⟨rfl, by decide, ac_0⟩ (by decide) ?_
  refine Rp.nm (fun h189 e189 => ?_)
  have s189_k : h189.1[k]? = some (12, clN 12) := by rw [e189]; exact sh_old s188_k
  have s189_1 : h189.1[(n + 1)]? = some (13, 5716) := by rw [e189]; exact sh_old s188_1
  have s189_5 : h189.1[(n + 5)]? = some (14, 157) := by rw [e189]; exact sh_old s188_5
  have hn189 : aN h189 = (n + 16) := by rw [e189, aN_new, hn188]
  have g189_k_2 : gR h189 k 2 = some (n + 1) := by rw [e189]; exact gq_new (by rw [hn188]; exact (ne_k hlt 15)) g188_k_2
  refine Rp.putR dX12_init_1106 fk_X12_71w (fun _ => rfl) (Or.inr ⟨_, rfl⟩) s189_k ?_
  refine Rp.nm (fun h190 e190 => ?_)
  have s190_k : h190.1[k]? = some (12, clN 12) := by rw [e190]; exact s189_k
  have s190_1 : h190.1[(n + 1)]? = some (13, 5716) := by rw [e190]; exact s189_1
  have s190_5 : h190.1[(n + 5)]? = some (14, 157) := by rw [e190]; exact s189_5
  have hn190 : aN h190 = (n + 16) := by rw [e190]; exact hn189
  have g190_k_2 : gR h190 k 2 = some (n + 1) := by rw [e190]; exact gq_sRj (by decide) g189_k_2
  refine Rp.aload_n dX12_init_1109 rfl rfl ?_
  refine Rp.bipush (nI 6) dX12_init_1110 (by decide) ?_
  refine Rp.newaA (n + 16) 0 6 hn190 dX12_init_1112 ⟨rfl, by decide, ac_0⟩ (by decide) ?_
  refine Rp.nm (fun h191 e191 => ?_)
  have s191_k : h191.1[k]? = some (12, clN 12) := by rw [e191]; exact sh_old s190_k
  have s191_1 : h191.1[(n + 1)]? = some (13, 5716) := by rw [e191]; exact sh_old s190_1
  have s191_5 : h191.1[(n + 5)]? = some (14, 157) := by rw [e191]; exact sh_old s190_5
  have hn191 : aN h191 = (n + 17) := by rw [e191, aN_new, hn190]
  have g191_k_2 : gR h191 k 2 = some (n + 1) := by rw [e191]; exact gq_new (by rw [hn190]; exact (ne_k hlt 16)) g190_k_2
  refine Rp.putR dX12_init_1114 fk_X12_74w (fun _ => rfl) (Or.inr ⟨_, rfl⟩) s191_k ?_
  refine Rp.nm (fun h192 e192 => ?_)
  have s192_k : h192.1[k]? = some (12, clN 12) := by rw [e192]; exact s191_k
  have s192_1 : h192.1[(n + 1)]? = some (13, 5716) := by rw [e192]; exact s191_1
  have s192_5 : h192.1[(n + 5)]? = some (14, 157) := by rw [e192]; exact s191_5
  have hn192 : aN h192 = (n + 17) := by rw [e192]; exact hn191
  have g192_k_2 : gR h192 k 2 = some (n + 1) := by rw [e192]; exact gq_sRj (by decide) g191_k_2
  refine Rp.aload_n dX12_init_1117 rfl rfl ?_
  refine Rp.iconst (nI 3) dX12_init_1118 (by decide) ?_
  refine Rp.newaA (n + 17) 0 3 hn192 dX12_init_1119 ⟨rfl, by decide, ac_0⟩ (by decide) ?_
  refine Rp.nm (fun h193 e193 => ?_)
  have s193_k : h193.1[k]? = some (12, clN 12) := by rw [e193]; exact sh_old s192_k
  have s193_1 : h193.1[(n + 1)]? = some (13, 5716) := by rw [e193]; exact sh_old s192_1
  have s193_5 : h193.1[(n + 5)]? = some (14, 157) := by rw [e193]; exact sh_old s192_5
  have hn193 : aN h193 = (n + 18) := by rw [e193, aN_new, hn192]
  have g193_k_2 : gR h193 k 2 = some (n + 1) := by rw [e193]; exact gq_new (by rw [hn192]; exact (ne_k hlt 17)) g192_k_2
  refine Rp.putR dX12_init_1121 fk_X12_77w (fun _ => rfl) (Or.inr ⟨_, rfl⟩) s193_k ?_
  refine Rp.nm (fun h194 e194 => ?_)
  have s194_k : h194.1[k]? = some (12, clN 12) := by rw [e194]; exact s193_k
  have s194_1 : h194.1[(n + 1)]? = some (13, 5716) := by rw [e194]; exact s193_1
  have s194_5 : h194.1[(n + 5)]? = some (14, 157) := by rw [e194]; exact s193_5
  have hn194 : aN h194 = (n + 18) := by rw [e194]; exact hn193
  have g194_k_2 : gR h194 k 2 = some (n + 1) := by rw [e194]; exact gq_sRj (by decide) g193_k_2
  refine Rp.aload_n dX12_init_1124 rfl rfl ?_
  refine Rp.bipush (nI 6) dX12_init_1125 (by decide) ?_
  refine Rp.newaA (n + 18) 0 6 hn194 dX12_init_1127 ⟨rfl, by decide, ac_0⟩ (by decide) ?_
  refine Rp.nm (fun h195 e195 => ?_)
  have s195_k : h195.1[k]? = some (12, clN 12) := by rw [e195]; exact sh_old s194_k
  have s195_1 : h195.1[(n + 1)]? = some (13, 5716) := by rw [e195]; exact sh_old s194_1
  have s195_5 : h195.1[(n + 5)]? = some (14, 157) := by rw [e195]; exact sh_old s194_5
  have hn195 : aN h195 = (n + 19) := by rw [e195, aN_new, hn194]
  have g195_k_2 : gR h195 k 2 = some (n + 1) := by rw [e195]; exact gq_new (by rw [hn194]; exact (ne_k hlt 18)) g194_k_2
  refine Rp.putR dX12_init_1129 fk_X12_80w (fun _ => rfl) (Or.inr ⟨_, rfl⟩) s195_k ?_
  refine Rp.nm (fun h196 e196 => ?_)
  have s196_k : h196.1[k]? = some (12, clN 12) := by rw [e196]; exact s195_k
  have s196_1 : h196.1[(n + 1)]? = some (13, 5716) := by rw [e196]; exact s195_1
  have s196_5 : h196.1[(n + 5)]? = some (14, 157) := by rw [e196]; exact s195_5
  have hn196 : aN h196 = (n + 19) := by rw [e196]; exact hn195
  have g196_k_2 : gR h196 k 2 = some (n + 1) := by rw [e196]; exact gq_sRj (by decide) g195_k_2
  refine Rp.aload_n dX12_init_1132 rfl rfl ?_
  refine Rp.bipush (nI 6) dX12_init_1133 (by decide) ?_
  refine Rp.newaA (n + 19) 0 6 hn196 dX12_init_1135 ⟨rfl, by decide, ac_0⟩ (by decide) ?_
  refine Rp.nm (fun h197 e197 => ?_)
  have s197_k : h197.1[k]? = some (12, clN 12) := by rw [e197]; exact sh_old s196_k
  have s197_1 : h197.1[(n + 1)]? = some (13, 5716) := by rw [e197]; exact sh_old s196_1
  have s197_5 : h197.1[(n + 5)]? = some (14, 157) := by rw [e197]; exact sh_old s196_5
  have hn197 : aN h197 = (n + 20) := by rw [e197, aN_new, hn196]
  have g197_k_2 : gR h197 k 2 = some (n + 1) := by rw [e197]; exact gq_new (by rw [hn196]; exact (ne_k hlt 19)) g196_k_2
  refine Rp.putR dX12_init_1137 fk_X12_83w (fun _ => rfl) (Or.inr ⟨_, rfl⟩) s197_k ?_
  refine Rp.nm (fun h198 e198 => ?_)
  have s198_k : h198.1[k]? = some (12, clN 12) := by rw [e198]; exact s197_k
  have s198_1 : h198.1[(n + 1)]? = some (13, 5716) := by rw [e198]; exact s197_1
  have s198_5 : h198.1[(n + 5)]? = some (14, 157) := by rw [e198]; exact s197_5
  have hn198 : aN h198 = (n + 20) := by rw [e198]; exact hn197
  have g198_k_2 : gR h198 k 2 = some (n + 1) := by rw [e198]; exact gq_sRj (by decide) g197_k_2
  refine Rp.aload_n dX12_init_1140 rfl rfl ?_
  refine Rp.bipush (nI 6) dX12_init_1141 (by decide) ?_
  refine Rp.newaA (n + 20) 0 6 hn198 dX12_init_1143 ⟨rfl, by decide, ac_0⟩ (by decide) ?_
  refine Rp.nm (fun h199 e199 => ?_)
  have s199_k : h199.1[k]? = some (12, clN 12) := by rw [e199]; exact sh_old s198_k
  have s199_1 : h199.1[(n + 1)]? = some (13, 5716) := by rw [e199]; exact sh_old s198_1
  have s199_5 : h199.1[(n + 5)]? = some (14, 157) := by rw [e199]; exact sh_old s198_5
  have hn199 : aN h199 = (n + 21) := by rw [e199, aN_new, hn198]
  have g199_k_2 : gR h199 k 2 = some (n + 1) := by rw [e199]; exact gq_new (by rw [hn198]; exact (ne_k hlt 20)) g198_k_2
  refine Rp.putR dX12_init_1145 fk_X12_86w (fun _ => rfl) (Or.inr ⟨_, rfl⟩) s199_k ?_
  refine Rp.nm (fun h200 e200 => ?_)
  have s200_k : h200.1[k]? = some (12, clN 12) := by rw [e200]; exact s199_k
  have s200_1 : h200.1[(n + 1)]? = some (13, 5716) := by rw [e200]; exact s199_1
  have s200_5 : h200.1[(n + 5)]? = some (14, 157) := by rw [e200]; exact s199_5
  have hn200 : aN h200 = (n + 21) := by rw [e200]; exact hn199
  have g200_k_2 : gR h200 k 2 = some (n + 1) := by rw [e200]; exact gq_sRj (by decide) g199_k_2
  refine Rp.aload_n dX12_init_1148 rfl rfl ?_
  refine Rp.bipush (nI 6) dX12_init_1149 (by decide) ?_
  refine Rp.newaA (n + 21) 0 6 hn200 dX12_init_1151 ⟨rfl, by decide, ac_0⟩ (by decide) ?_
  refine Rp.nm (fun h201 e201 => ?_)
  have s201_k : h201.1[k]? = some (12, clN 12) := by rw [e201]; exact sh_old s200_k
  have s201_1 : h201.1[(n + 1)]? = some (13, 5716) := by rw [e201]; exact sh_old s200_1
  have s201_5 : h201.1[(n + 5)]? = some (14, 157) := by rw [e201]; exact sh_old s200_5
  have hn201 : aN h201 = (n + 22) := by rw [e201, aN_new, hn200]
  have g201_k_2 : gR h201 k 2 = some (n + 1) := by rw [e201]; exact gq_new (by rw [hn200]; exact (ne_k hlt 21)) g200_k_2
  refine Rp.putR dX12_init_1153 fk_X12_89w (fun _ => rfl) (Or.inr ⟨_, rfl⟩) s201_k ?_
  refine Rp.nm (fun h202 e202 => ?_)
  have s202_k : h202.1[k]? = some (12, clN 12) := by rw [e202]; exact s201_k
  have s202_1 : h202.1[(n + 1)]? = some (13, 5716) := by rw [e202]; exact s201_1
  have s202_5 : h202.1[(n + 5)]? = some (14, 157) := by rw [e202]; exact s201_5
  have hn202 : aN h202 = (n + 22) := by rw [e202]; exact hn201
  have g202_k_2 : gR h202 k 2 = some (n + 1) := by rw [e202]; exact gq_sRj (by decide) g201_k_2
  refine Rp.aload_n dX12_init_1156 rfl rfl ?_
  refine Rp.bipush (nI 6) dX12_init_1157 (by decide) ?_
  refine Rp.newaA (n + 22) 0 6 hn202 dX12_init_1159 ⟨rfl, by decide, ac_0⟩ (by decide) ?_
  refine Rp.nm (fun h203 e203 => ?_)
  have s203_k : h203.1[k]? = some (12, clN 12) := by rw [e203]; exact sh_old s202_k
  have s203_1 : h203.1[(n + 1)]? = some (13, 5716) := by rw [e203]; exact sh_old s202_1
  have s203_5 : h203.1[(n + 5)]? = some (14, 157) := by rw [e203]; exact sh_old s202_5
  have hn203 : aN h203 = (n + 23) := by rw [e203, aN_new, hn202]
  have g203_k_2 : gR h203 k 2 = some (n + 1) := by rw [e203]; exact gq_new (by rw [hn202]; exact (ne_k hlt 22)) g202_k_2
  refine Rp.putR dX12_init_1161 fk_X12_92w (fun _ => rfl) (Or.inr ⟨_, rfl⟩) s203_k ?_
  refine Rp.nm (fun h204 e204 => ?_)
  have s204_k : h204.1[k]? = some (12, clN 12) := by rw [e204]; exact s203_k
  have s204_1 : h204.1[(n + 1)]? = some (13, 5716) := by rw [e204]; exact s203_1
  have s204_5 : h204.1[(n + 5)]? = some (14, 157) := by rw [e204]; exact s203_5
  have hn204 : aN h204 = (n + 23) := by rw [e204]; exact hn203
  have g204_k_2 : gR h204 k 2 = some (n + 1) := by rw [e204]; exact gq_sRj (by decide) g203_k_2
  refine Rp.aload_n dX12_init_1164 rfl rfl ?_
  refine Rp.bipush (nI 6) dX12_init_1165 (by decide) ?_
  refine Rp.newaA (n + 23) 0 6 hn204 dX12_init_1167 ⟨rfl, by decide, ac_0⟩ (by decide) ?_
  refine Rp.nm (fun h205 e205 => ?_)
  have s205_k : h205.1[k]? = some (12, clN 12) := by rw [e205]; exact sh_old s204_k
  have s205_1 : h205.1[(n + 1)]? = some (13, 5716) := by rw [e205]; exact sh_old s204_1
  have s205_5 : h205.1[(n + 5)]? = some (14, 157) := by rw [e205]; exact sh_old s204_5
  have hn205 : aN h205 = (n + 24) := by rw [e205, aN_new, hn204]
  have g205_k_2 : gR h205 k 2 = some (n + 1) := by rw [e205]; exact gq_new (by rw [hn204]; exact (ne_k hlt 23)) g204_k_2
  refine Rp.putR dX12_init_1169 fk_X12_95w (fun _ => rfl) (Or.inr ⟨_, rfl⟩) s205_k ?_
  refine Rp.nm (fun h206 e206 => ?_)
  have s206_k : h206.1[k]? = some (12, clN 12) := by rw [e206]; exact s205_k
  have s206_1 : h206.1[(n + 1)]? = some (13, 5716) := by rw [e206]; exact s205_1
  have s206_5 : h206.1[(n + 5)]? = some (14, 157) := by rw [e206]; exact s205_5
  have hn206 : aN h206 = (n + 24) := by rw [e206]; exact hn205
  have g206_k_2 : gR h206 k 2 = some (n + 1) := by rw [e206]; exact gq_sRj (by decide) g205_k_2
  refine Rp.aload_n dX12_init_1172 rfl rfl ?_
  refine Rp.bipush (nI 48) dX12_init_1173 (by decide) ?_
  refine Rp.newaA (n + 24) 0 48 hn206 dX12_init_1175 ⟨rfl, by decide, ac_0⟩ (by decide) ?_
  refine Rp.nm (fun h207 e207 => ?_)
  have s207_k : h207.1[k]? = some (12, clN 12) := by rw [e207]; exact sh_old s206_k
  have s207_1 : h207.1[(n + 1)]? = some (13, 5716) := by rw [e207]; exact sh_old s206_1
  have s207_5 : h207.1[(n + 5)]? = some (14, 157) := by rw [e207]; exact sh_old s206_5
  have hn207 : aN h207 = (n + 25) := by rw [e207, aN_new, hn206]
  have g207_k_2 : gR h207 k 2 = some (n + 1) := by rw [e207]; exact gq_new (by rw [hn206]; exact (ne_k hlt 24)) g206_k_2
  refine Rp.putR dX12_init_1177 fk_X12_98w (fun _ => rfl) (Or.inr ⟨_, rfl⟩) s207_k ?_
  refine Rp.nm (fun h208 e208 => ?_)
  have s208_k : h208.1[k]? = some (12, clN 12) := by rw [e208]; exact s207_k
  have s208_1 : h208.1[(n + 1)]? = some (13, 5716) := by rw [e208]; exact s207_1
  have s208_5 : h208.1[(n + 5)]? = some (14, 157) := by rw [e208]; exact s207_5
  have hn208 : aN h208 = (n + 25) := by rw [e208]; exact hn207
  have g208_k_2 : gR h208 k 2 = some (n + 1) := by rw [e208]; exact gq_sRj (by decide) g207_k_2
  refine Rp.aload_n dX12_init_1180 rfl rfl ?_
  refine Rp.bipush (nI 21) dX12_init_1181 (by decide) ?_
  refine Rp.newaA (n + 25) 3 21 hn208 dX12_init_1183 ⟨rfl, by decide, ac_3⟩ (by decide) ?_
  refine Rp.nm (fun h209 e209 => ?_)
  have s209_k : h209.1[k]? = some (12, clN 12) := by rw [e209]; exact sh_old s208_k
  have s209_1 : h209.1[(n + 1)]? = some (13, 5716) := by rw [e209]; exact sh_old s208_1
  have s209_5 : h209.1[(n + 5)]? = some (14, 157) := by rw [e209]; exact sh_old s208_5
  have hn209 : aN h209 = (n + 26) := by rw [e209, aN_new, hn208]
  have g209_k_2 : gR h209 k 2 = some (n + 1) := by rw [e209]; exact gq_new (by rw [hn208]; exact (ne_k hlt 25)) g208_k_2
  refine Rp.putR dX12_init_1185 fk_X12_101w (fun _ => rfl) (Or.inr ⟨_, rfl⟩) s209_k ?_
  refine Rp.nm (fun h210 e210 => ?_)
  have s210_k : h210.1[k]? = some (12, clN 12) := by rw [e210]; exact s209_k
  have s210_1 : h210.1[(n + 1)]? = some (13, 5716) := by rw [e210]; exact s209_1
  have s210_5 : h210.1[(n + 5)]? = some (14, 157) := by rw [e210]; exact s209_5
  have hn210 : aN h210 = (n + 26) := by rw [e210]; exact hn209
  have g210_k_2 : gR h210 k 2 = some (n + 1) := by rw [e210]; exact gq_sRj (by decide) g209_k_2
  refine Rp.aload_n dX12_init_1188 rfl rfl ?_
  refine Rp.iconst (-1) dX12_init_1189 (by decide) ?_
  refine Rp.putI dX12_init_1190 fk_X12_105w rfl s210_k ?_
  refine Rp.nm (fun h211 e211 => ?_)
  have s211_k : h211.1[k]? = some (12, clN 12) := by rw [e211]; exact s210_k
  have s211_1 : h211.1[(n + 1)]? = some (13, 5716) := by rw [e211]; exact s210_1
  have s211_5 : h211.1[(n + 5)]? = some (14, 157) := by rw [e211]; exact s210_5
  have hn211 : aN h211 = (n + 26) := by rw [e211]; exact hn210
  have g211_k_2 : gR h211 k 2 = some (n + 1) := by rw [e211]; exact g210_k_2
  refine Rp.aload_n dX12_init_1193 rfl rfl ?_
  refine Rp.iconst (nI 2) dX12_init_1194 (by decide) ?_
  refine Rp.newaA (n + 26) 3 2 hn211 dX12_init_1195 ⟨rfl, by decide, ac_3⟩ (by decide) ?_
  refine Rp.nm (fun h212 e212 => ?_)
  have s212_k : h212.1[k]? = some (12, clN 12) := by rw [e212]; exact sh_old s211_k
  have s212_1 : h212.1[(n + 1)]? = some (13, 5716) := by rw [e212]; exact sh_old s211_1
  have s212_5 : h212.1[(n + 5)]? = some (14, 157) := by rw [e212]; exact sh_old s211_5
  have hn212 : aN h212 = (n + 27) := by rw [e212, aN_new, hn211]
  have g212_k_2 : gR h212 k 2 = some (n + 1) := by rw [e212]; exact gq_new (by rw [hn211]; exact (ne_k hlt 26)) g211_k_2
  refine Rp.putR dX12_init_1197 fk_X12_108w (fun _ => rfl) (Or.inr ⟨_, rfl⟩) s212_k ?_
  refine Rp.nm (fun h213 e213 => ?_)
  have s213_k : h213.1[k]? = some (12, clN 12) := by rw [e213]; exact s212_k
  have s213_1 : h213.1[(n + 1)]? = some (13, 5716) := by rw [e213]; exact s212_1
  have s213_5 : h213.1[(n + 5)]? = some (14, 157) := by rw [e213]; exact s212_5
  have hn213 : aN h213 = (n + 27) := by rw [e213]; exact hn212
  have g213_k_2 : gR h213 k 2 = some (n + 1) := by rw [e213]; exact gq_sRj (by decide) g212_k_2
  refine Rp.aload_n dX12_init_1200 rfl rfl ?_
  refine Rp.bipush (nI 7) dX12_init_1201 (by decide) ?_
  refine Rp.newaA (n + 27) 0 7 hn213 dX12_init_1203 ⟨rfl, by decide, ac_0⟩ (by decide) ?_
  refine Rp.nm (fun h214 e214 => ?_)
  have s214_k : h214.1[k]? = some (12, clN 12) := by rw [e214]; exact sh_old s213_k
  have s214_1 : h214.1[(n + 1)]? = some (13, 5716) := by rw [e214]; exact sh_old s213_1
  have s214_5 : h214.1[(n + 5)]? = some (14, 157) := by rw [e214]; exact sh_old s213_5
  have hn214 : aN h214 = (n + 28) := by rw [e214, aN_new, hn213]
  have g214_k_2 : gR h214 k 2 = some (n + 1) := by rw [e214]; exact gq_new (by rw [hn213]; exact (ne_k hlt 27)) g213_k_2
  refine Rp.putR dX12_init_1205 fk_X12_111w (fun _ => rfl) (Or.inr ⟨_, rfl⟩) s214_k ?_
  refine Rp.nm (fun h215 e215 => ?_)
  have s215_k : h215.1[k]? = some (12, clN 12) := by rw [e215]; exact s214_k
  have s215_1 : h215.1[(n + 1)]? = some (13, 5716) := by rw [e215]; exact s214_1
  have s215_5 : h215.1[(n + 5)]? = some (14, 157) := by rw [e215]; exact s214_5
  have hn215 : aN h215 = (n + 28) := by rw [e215]; exact hn214
  have g215_k_2 : gR h215 k 2 = some (n + 1) := by rw [e215]; exact gq_sRj (by decide) g214_k_2
  refine Rp.aload_n dX12_init_1208 rfl rfl ?_
  refine Rp.iconst (-1) dX12_init_1209 (by decide) ?_
  refine Rp.putI dX12_init_1210 fk_X12_114w rfl s215_k ?_
  refine Rp.nm (fun h216 e216 => ?_)
  have s216_k : h216.1[k]? = some (12, clN 12) := by rw [e216]; exact s215_k
  have s216_1 : h216.1[(n + 1)]? = some (13, 5716) := by rw [e216]; exact s215_1
  have s216_5 : h216.1[(n + 5)]? = some (14, 157) := by rw [e216]; exact s215_5
  have hn216 : aN h216 = (n + 28) := by rw [e216]; exact hn215
  have g216_k_2 : gR h216 k 2 = some (n + 1) := by rw [e216]; exact g215_k_2
  refine Rp.aload_n dX12_init_1213 rfl rfl ?_
  refine Rp.getR dX12_init_1214 fk_X12_24 rfl s216_k g216_k_2 ?_
  refine Rp.bipush (nI 101) dX12_init_1217 (by decide) ?_
  refine Rp.bipush (nI 9) dX12_init_1219 (by decide) ?_
  refine Rp.iastoreN dX12_init_1221 s216_1 (by omega) ?_
  refine Rp.nm (fun h217 e217 => ?_)
  have s217_k : h217.1[k]? = some (12, clN 12) := by rw [e217]; exact s216_k
  have s217_1 : h217.1[(n + 1)]? = some (13, 5716) := by rw [e217]; exact s216_1
  have s217_5 : h217.1[(n + 5)]? = some (14, 157) := by rw [e217]; exact s216_5
  have hn217 : aN h217 = (n + 28) := by rw [e217]; exact hn216
  have g217_k_2 : gR h217 k 2 = some (n + 1) := by rw [e217]; exact g216_k_2
  refine Rp.aload_n dX12_init_1222 rfl rfl ?_
  refine Rp.getR dX12_init_1223 fk_X12_24 rfl s217_k g217_k_2 ?_
  refine Rp.bipush (nI 108) dX12_init_1226 (by decide) ?_
  refine Rp.iconst (-1) dX12_init_1228 (by decide) ?_
  refine Rp.iastoreN dX12_init_1229 s217_1 (by omega) ?_
  refine Rp.nm (fun h218 e218 => ?_)
  have s218_k : h218.1[k]? = some (12, clN 12) := by rw [e218]; exact s217_k
  have s218_1 : h218.1[(n + 1)]? = some (13, 5716) := by rw [e218]; exact s217_1
  have s218_5 : h218.1[(n + 5)]? = some (14, 157) := by rw [e218]; exact s217_5
  have hn218 : aN h218 = (n + 28) := by rw [e218]; exact hn217
  have g218_k_2 : gR h218 k 2 = some (n + 1) := by rw [e218]; exact g217_k_2
  refine Rp.iconst (nI 0) dX12_init_1230 (by decide) ?_
  refine Rp.ist1 dX12_init_1231 (nl2_some rfl) (by decide) ?_
  have kl := X12_loop (d + 1) h218 k (n + 1) s218_k g218_k_2 s218_1 6 0 (by decide)
  rw [fillI_0] at kl
  exact Rp.mono (fun r hq p1 => ⟨by rw [p1.1, e218, e217, e216, e215, e214, e213, e212, e211, e210, e209, e208, e207, e206, e205, e204, e203, e202, e201, e200, e199, e198, e197, e196, e195, e194, e193, e192, e191, e190, e189, e188, e187, e186, e185, e184, e183, e182, e181, e180, e179, e178, e177, e176, e175, e174, e173, e172, e171, e170, e169, e168, e167, e166, e165, e164, e163, e162, e161, e160, e159, e158, e157, e156, e155, e154, e153, e152, e151, e150, e149, e148, e147, e146, e145, e144, e143, e142, e141, e140, e139, e138, e137, e136, e135, e134, e133, e132, e131, e130, e129, e128, e127, e126, e125, e124, e123, e122, e121, e120, e119, e118, e117, e116, e115, e114, e113, e112, e111, e110, e109, e108, e107, e106, e105, e104, e103, e102, e101, e100, e99, e98, e97, e96, e95, e94, e93, e92, e91, e90, e89, e88, e87, e86, e85, e84, e83, e82, e81, e80, e79, e78, e77, e76, e75, e74, e73, e72, e71, e70, e69, e68, e67, e66, e65, e64, e63, e62, e61, e60, e59, e58, e57, e56, e55, e54, e53, e52, e51, e50, e49, e48, e47, e46, e45, e44, e43, e42, e41, e40, e39, e38, e37, e36, e35, e34, e33, e32, e31, e30, e29, e28, e27, e26, e25, e24, e23, e22, e21, e20, e19, e18, e17, e16, e15, e14, e13, e12, e11, e10, e9, e8, e7, e6, e5, e4, e3, e2, e1]; rfl, p1.2⟩) kl
theorem aN_X12_init (h : AH) (k n : Nat) : aN (ini_X12_init h k n) = aN h + 28 := by simp only [ini_X12_init, aN_new, aN_sR, aN_sI, aN_fillI, Nat.add_zero, aN_X4_init, aN_X9_init, aN_X5_init, aN_X0_init, aN_X1_init, aN_X6_init, aN_X10_init, aN_X8_init, aN_X3_init, aN_X7_init, aN_X2_init, aN_X11_init]
set_option maxRecDepth 20000 in
theorem setS_X12_init (h : AH) (S : Nat × (Nat → Int32)) (k n : Nat) : ini_X12_init (setS h S) k n = setS (ini_X12_init h k n) S := by simp only [ini_X12_init, setS_new, setS_sR, setS_sI, setS_fillI, setS_X4_init, setS_X9_init, setS_X5_init, setS_X0_init, setS_X1_init, setS_X6_init, setS_X10_init, setS_X8_init, setS_X3_init, setS_X7_init, setS_X2_init, setS_X11_init]
