/-- two calls that answer alike and keep the invariant -/
def Pr (Inv : Nat → AH → Prop) (D : Nat) (Mx Mm : MT) (args : List Value) : Prop := ∀ n h, Inv n h → Rp D Mx 0 (entL (.ref 0 :: args) Mx.2.2.1) [] h (fun r h1 => ∃ v : Int32, r = some (.int v) ∧ Rp D Mm 0 (entL (.ref 100 :: args) Mm.2.2.1) [] h1 (fun r2 h2 => r2 = some (.int v) ∧ Inv (n + 1) h2))
def PrL (Inv : Nat → AH → Prop) (D : Nat) (Mx Mm : MT) (args : List Value) : Prop := ∀ n h, Inv n h → Rp D Mx 0 (entL (.ref 0 :: args) Mx.2.2.1) [] h (fun r h1 => ∃ v : Int64, r = some (.long v) ∧ Rp D Mm 0 (entL (.ref 100 :: args) Mm.2.2.1) [] h1 (fun r2 h2 => r2 = some (.long v) ∧ Inv (n + 1) h2))
theorem sh_pre {h h1 : AH} {k : Nat} {q : Nat × Nat} (p : h.1 <+: h1.1) (hk : h.1[k]? = some q) : h1.1[k]? = some q := by
  obtain ⟨l, e⟩ := p
  rw [← e, List.getElem?_append_left (List.getElem?_eq_some_iff.mp hk).1]
  exact hk
theorem Rp.sloadN {d : Nat} {M : MT} {pc : Nat} {ls : List (Option Value)} {st : List Value} {h : AH} {P : Option Value → AH → Prop} {m L : Nat} {xs : Nat → Int32} {b : UInt32} (hd : decode M.2.1 pc = .ok (.iaload, 1)) (hS : gS h = (L, xs)) (hm : m < L ∧ L < 2147483648) (k : Rp d M (pc + 1) ls (.int (xs m) :: st) h P) : Rp d M pc ls (.int (nI m) :: .float b :: st) h P := Rp.sload hd (by rw [hS]; exact vp_in_nI hm.1 hm.2) (by rw [hS, nI_clamp (show m < 2 ^ 31 by omega)]; exact k)
theorem Rp.slenN {d : Nat} {M : MT} {pc : Nat} {ls : List (Option Value)} {st : List Value} {h : AH} {P : Option Value → AH → Prop} {L : Nat} {xs : Nat → Int32} {b : UInt32} (hd : decode M.2.1 pc = .ok (.arraylength, 1)) (hS : gS h = (L, xs)) (k : Rp d M (pc + 1) ls (.int (nI L) :: st) h P) : Rp d M pc ls (.float b :: st) h P := Rp.slen hd (by rw [hS]; exact k)
theorem lw_end {L i : Nat} (hL : L ≤ 3072) (hi : i ≤ 3072) : nI L - nI 6 < nI i ↔ L < i + 6 := by
  rw [i32_lt, pk_sub_toInt (by omega) (by omega), nI_toInt (by omega)]
  omega
def LwOK (L : Nat) (xs : Nat → Int32) (Inv : Nat → AH → Prop) : Prop := ∀ n h, Inv n h → h.1[0]? = some (11, 17) ∧ h.1[100]? = some (12, 60) ∧ gS h = (L, xs) ∧ (n ≤ 512 → aN h ≤ 600000 ∧ aZ h ≤ 7302250) ∧ Inv (n + 1) h
set_option maxHeartbeats 8000000 in
theorem law_loop {L : Nat} {xs : Nat → Int32} (hL : L ≤ 3072) {Inv : Nat → AH → Prop} {D : Nat} (hOK : LwOK L xs Inv)
    (P_person : ∀ a1 a2 : Int32, Pr Inv D M_X11_person M_X12_person [.int a1, .int a2])
    (P_of : ∀ a1 a2 : Int32, Pr Inv D M_X11_of M_X12_of [.int a1, .int a2])
    (P_ticket : ∀ a1 a2 : Int32, Pr Inv D M_X11_ticket M_X12_ticket [.int a1, .int a2])
    (P_at : ∀ a1 a2 : Int32, Pr Inv D M_X11_at M_X12_at [.int a1, .int a2])
    (P_wish : ∀ a1 a2 a3 : Int32, Pr Inv D M_X11_wish M_X12_wish [.int a1, .int a2, .int a3])
    (P_desk : ∀ a1 a2 : Int32, Pr Inv D M_X11_desk M_X12_desk [.int a1, .int a2])
    (P_asks : ∀ a1 a2 a3 : Int32, Pr Inv D M_X11_asks M_X12_asks [.int a1, .int a2, .int a3])
    (P_terms : ∀ a1 a2 : Int32, Pr Inv D M_X11_terms M_X12_terms [.int a1, .int a2])
    (P_feed : ∀ a1 a2 a3 a4 a5 : Int32, Pr Inv D M_X11_feed M_X12_feed [.int a1, .int a2, .int a3, .int a4, .int a5])
    (P_end : ∀ a1 : Int32, Pr Inv D M_X11_end M_X12_end [.int a1])
    (P_row : Pr Inv D M_X11_row M_X12_row [])
    (P_scraps : Pr Inv D M_X11_scraps M_X12_scraps [])
    (P_law : Pr Inv D M_X11_law M_X12_law [])
    (P_orders : Pr Inv D M_X11_orders M_X12_orders [])
    (P_fault : Pr Inv D M_X11_fault M_X12_fault [])
    (P_stopped : Pr Inv D M_X11_stopped M_X12_stopped [])
    (P_force : ∀ a1 : Int32, Pr Inv D M_X11_force M_X12_force [.int a1])
    (P_draw : ∀ a1 a2 : Int32, Pr Inv D M_X11_draw M_X12_draw [.int a1, .int a2])
    (P_swap : ∀ a1 a2 : Int32, Pr Inv D M_X11_swap M_X12_swap [.int a1, .int a2])
    (P_drop : ∀ a1 : Int32, Pr Inv D M_X11_drop M_X12_drop [.int a1])
    (P_pass : Pr Inv D M_X11_pass M_X12_pass [])
    (P_undo : Pr Inv D M_X11_undo M_X12_undo [])
    (P_day : ∀ a1 a2 : Int32, Pr Inv D M_X11_day M_X12_day [.int a1, .int a2])
    (P_waiting : ∀ a1 : Int32, Pr Inv D M_X11_waiting M_X12_waiting [.int a1])
    (P_about : ∀ a1 : Int32, Pr Inv D M_X11_about M_X12_about [.int a1])
    (P_trade : ∀ a1 : Int32, Pr Inv D M_X11_trade M_X12_trade [.int a1])
    (P_both : ∀ a1 : Int32, Pr Inv D M_X11_both M_X12_both [.int a1])
    (P_take : ∀ a1 : Int32, Pr Inv D M_X11_take M_X12_take [.int a1])
    (P_desks : ∀ a1 a2 : Int32, Pr Inv D M_X11_desks M_X12_desks [.int a1, .int a2])
    (P_told : ∀ a1 a2 : Int32, Pr Inv D M_X11_told M_X12_told [.int a1, .int a2])
    (P_forget : Pr Inv D M_X11_forget M_X12_forget [])
    (P_had : ∀ a1 a2 : Int32, Pr Inv D M_X11_had M_X12_had [.int a1, .int a2])
    (P_ask : ∀ a1 : Int32, Pr Inv D M_X11_ask M_X12_ask [.int a1])
    (P_few : ∀ a1 a2 : Int32, PrL Inv D M_X11_few M_X12_few [.int a1, .int a2])
    (P_compare : ∀ a1 : Int32, Pr Inv D M_X11_compare M_X12_compare [.int a1])
    (P_days : ∀ a1 a2 : Int32, Pr Inv D M_X11_days M_X12_days [.int a1, .int a2])
    (P_drawn : ∀ a1 : Int32, Pr Inv D M_X11_drawn M_X12_drawn [.int a1])
    (P_image : ∀ a1 : Int32, Pr Inv D M_X11_image M_X12_image [.int a1])
    (P_back : ∀ a1 : Int32, Pr Inv D M_X11_back M_X12_back [.int a1])
    (P_count : ∀ a1 : Int32, Pr Inv D M_X11_count M_X12_count [.int a1])
    (P_status : Pr Inv D M_X11_status M_X12_status []) :
    ∀ (m n : Nat) (h : AH), 512 ≤ m + n → 6 * n ≤ 3072 → Inv n h → Rp (D + 1) M_L_law 18 [some (.float 0), some (.ref 0), some (.ref 100), some (.int (nI (6 * n)))] [] h (fun r h' => r = some (.int (nI 1)) ∧ aN h' ≤ 600000 ∧ aZ h' ≤ 7302250) := by
  intro m
  induction m with
  | zero =>
    intro n h hm hn hI
    obtain ⟨i1, i2, i3, i4, i5⟩ := hOK n h hI
    refine Rp.iload_n dL_law_18 rfl ?_
    refine Rp.aload_n dL_law_19 rfl rfl ?_
    refine Rp.slenN dL_law_20 i3 ?_
    refine Rp.bipush (nI 6) dL_law_21 (by decide) ?_
    refine Rp.isub dL_law_23 ?_
    refine Rp.icmp_gt (tgt := 1282) dL_law_24 (by decide) (fun c => ?_) (fun c => absurd ((lw_end hL hn).mpr (by omega)) c)
    refine Rp.iconst (nI 1) dL_law_1282 (by decide) ?_
    refine Rp.zreturn dL_law_1283 rfl (Or.inr rfl) ?_
    exact ⟨rfl, i4 (by omega)⟩
  | succ m ih =>
    intro n h hm hn hI
    obtain ⟨i1, i2, i3, i4, i5⟩ := hOK n h hI
    refine Rp.iload_n dL_law_18 rfl ?_
    refine Rp.aload_n dL_law_19 rfl rfl ?_
    refine Rp.slenN dL_law_20 i3 ?_
    refine Rp.bipush (nI 6) dL_law_21 (by decide) ?_
    refine Rp.isub dL_law_23 ?_
    refine Rp.icmp_gt (tgt := 1282) dL_law_24 (by decide) (fun c => ?_) (fun c => ?_)
    · refine Rp.iconst (nI 1) dL_law_1282 (by decide) ?_
      refine Rp.zreturn dL_law_1283 rfl (Or.inr rfl) ?_
      exact ⟨rfl, i4 (by omega)⟩
    have hlt : 6 * n + 6 ≤ L := by
      rw [lw_end hL hn] at c
      omega
    have nx : ∀ h2, Inv (n + 1) h2 → Rp (D + 1) M_L_law 1276 [some (.float 0), some (.ref 0), some (.ref 100), some (.int (nI (6 * n)))] [] h2 (fun r h' => r = some (.int (nI 1)) ∧ aN h' ≤ 600000 ∧ aZ h' ≤ 7302250) := by
      intro h2 hI2
      refine Rp.inc3N (c := 6) dL_law_1276 (nl2_some rfl) (by decide) ?_
      refine Rp.goto (tgt := 18) dL_law_1279 (by decide) ?_
      exact ih (n + 1) h2 (by omega) (by omega) hI2
    refine Rp.aload_n dL_law_27 rfl rfl ?_
    refine Rp.iload_n dL_law_28 rfl ?_
    refine Rp.sloadN dL_law_29 i3 (by omega) ?_
    refine Rp.bipush (nI 63) dL_law_30 (by decide) ?_
    refine Rp.iand dL_law_32 ?_
    obtain ⟨o, ho, eo⟩ := pk_andE (xs (6 * n)) (m := nI 63) 6 (by decide)
    rw [eo]
    match o, ho with
    | 0, _ =>
      refine Rp.tableIn (tgt := 212) (off := 179) dL_law_33 (by decide) (by decide) (by decide) (by decide) ?_
      refine Rp.aload_n dL_law_212 rfl rfl ?_
      refine Rp.aload_n dL_law_213 rfl rfl ?_
      refine Rp.iload_n dL_law_214 rfl ?_
      refine Rp.iconst (nI 1) dL_law_215 (by decide) ?_
      refine Rp.iaddN dL_law_216 ?_
      refine Rp.sloadN dL_law_217 i3 (by omega) ?_
      refine Rp.aload_n dL_law_218 rfl rfl ?_
      refine Rp.iload_n dL_law_219 rfl ?_
      refine Rp.iconst (nI 2) dL_law_220 (by decide) ?_
      refine Rp.iaddN dL_law_221 ?_
      refine Rp.sloadN dL_law_222 i3 (by omega) ?_
      refine Rp.callV2 M_X11_person (ci := 11) dL_law_223 mo_X11_person lk_L_13 (by decide) rfl rfl i1 (Nat.le_of_ble_eq_true rfl) (Nat.le_of_ble_eq_true rfl) (P_person (xs (6 * n + 1)) (xs (6 * n + 2)) n h hI) (fun v1 h1 p1 x1 => ?_)
      obtain ⟨v, rfl, p2⟩ := p1
      have j2 := sh_pre x1.2 i2
      have j3 : gS h1 = (L, xs) := x1.1.trans i3
      refine Rp.aload_n dL_law_226 rfl rfl ?_
      refine Rp.aload_n dL_law_227 rfl rfl ?_
      refine Rp.iload_n dL_law_228 rfl ?_
      refine Rp.iconst (nI 1) dL_law_229 (by decide) ?_
      refine Rp.iaddN dL_law_230 ?_
      refine Rp.sloadN dL_law_231 j3 (by omega) ?_
      refine Rp.aload_n dL_law_232 rfl rfl ?_
      refine Rp.iload_n dL_law_233 rfl ?_
      refine Rp.iconst (nI 2) dL_law_234 (by decide) ?_
      refine Rp.iaddN dL_law_235 ?_
      refine Rp.sloadN dL_law_236 j3 (by omega) ?_
      refine Rp.callV2 M_X12_person (ci := 12) dL_law_237 mo_X12_person lk_L_17 (by decide) rfl rfl j2 (Nat.le_of_ble_eq_true rfl) (Nat.le_of_ble_eq_true rfl) p2 (fun v2 h2 p3 x2 => ?_)
      obtain ⟨rfl, hI2⟩ := p3
      refine Rp.icmp_eq (tgt := 1276) dL_law_240 (by decide) (fun _ => ?_) (fun c => absurd rfl c)
      exact nx h2 hI2
    | 1, _ =>
      refine Rp.tableIn (tgt := 245) (off := 212) dL_law_33 (by decide) (by decide) (by decide) (by decide) ?_
      refine Rp.aload_n dL_law_245 rfl rfl ?_
      refine Rp.aload_n dL_law_246 rfl rfl ?_
      refine Rp.iload_n dL_law_247 rfl ?_
      refine Rp.iconst (nI 1) dL_law_248 (by decide) ?_
      refine Rp.iaddN dL_law_249 ?_
      refine Rp.sloadN dL_law_250 i3 (by omega) ?_
      refine Rp.aload_n dL_law_251 rfl rfl ?_
      refine Rp.iload_n dL_law_252 rfl ?_
      refine Rp.iconst (nI 2) dL_law_253 (by decide) ?_
      refine Rp.iaddN dL_law_254 ?_
      refine Rp.sloadN dL_law_255 i3 (by omega) ?_
      refine Rp.callV2 M_X11_of (ci := 11) dL_law_256 mo_X11_of lk_L_18 (by decide) rfl rfl i1 (Nat.le_of_ble_eq_true rfl) (Nat.le_of_ble_eq_true rfl) (P_of (xs (6 * n + 1)) (xs (6 * n + 2)) n h hI) (fun v1 h1 p1 x1 => ?_)
      obtain ⟨v, rfl, p2⟩ := p1
      have j2 := sh_pre x1.2 i2
      have j3 : gS h1 = (L, xs) := x1.1.trans i3
      refine Rp.aload_n dL_law_259 rfl rfl ?_
      refine Rp.aload_n dL_law_260 rfl rfl ?_
      refine Rp.iload_n dL_law_261 rfl ?_
      refine Rp.iconst (nI 1) dL_law_262 (by decide) ?_
      refine Rp.iaddN dL_law_263 ?_
      refine Rp.sloadN dL_law_264 j3 (by omega) ?_
      refine Rp.aload_n dL_law_265 rfl rfl ?_
      refine Rp.iload_n dL_law_266 rfl ?_
      refine Rp.iconst (nI 2) dL_law_267 (by decide) ?_
      refine Rp.iaddN dL_law_268 ?_
      refine Rp.sloadN dL_law_269 j3 (by omega) ?_
      refine Rp.callV2 M_X12_of (ci := 12) dL_law_270 mo_X12_of lk_L_21 (by decide) rfl rfl j2 (Nat.le_of_ble_eq_true rfl) (Nat.le_of_ble_eq_true rfl) p2 (fun v2 h2 p3 x2 => ?_)
      obtain ⟨rfl, hI2⟩ := p3
      refine Rp.icmp_eq (tgt := 1276) dL_law_273 (by decide) (fun _ => ?_) (fun c => absurd rfl c)
      exact nx h2 hI2
    | 2, _ =>
      refine Rp.tableIn (tgt := 278) (off := 245) dL_law_33 (by decide) (by decide) (by decide) (by decide) ?_
      refine Rp.aload_n dL_law_278 rfl rfl ?_
      refine Rp.aload_n dL_law_279 rfl rfl ?_
      refine Rp.iload_n dL_law_280 rfl ?_
      refine Rp.iconst (nI 1) dL_law_281 (by decide) ?_
      refine Rp.iaddN dL_law_282 ?_
      refine Rp.sloadN dL_law_283 i3 (by omega) ?_
      refine Rp.aload_n dL_law_284 rfl rfl ?_
      refine Rp.iload_n dL_law_285 rfl ?_
      refine Rp.iconst (nI 2) dL_law_286 (by decide) ?_
      refine Rp.iaddN dL_law_287 ?_
      refine Rp.sloadN dL_law_288 i3 (by omega) ?_
      refine Rp.callV2 M_X11_ticket (ci := 11) dL_law_289 mo_X11_ticket lk_L_22 (by decide) rfl rfl i1 (Nat.le_of_ble_eq_true rfl) (Nat.le_of_ble_eq_true rfl) (P_ticket (xs (6 * n + 1)) (xs (6 * n + 2)) n h hI) (fun v1 h1 p1 x1 => ?_)
      obtain ⟨v, rfl, p2⟩ := p1
      have j2 := sh_pre x1.2 i2
      have j3 : gS h1 = (L, xs) := x1.1.trans i3
      refine Rp.aload_n dL_law_292 rfl rfl ?_
      refine Rp.aload_n dL_law_293 rfl rfl ?_
      refine Rp.iload_n dL_law_294 rfl ?_
      refine Rp.iconst (nI 1) dL_law_295 (by decide) ?_
      refine Rp.iaddN dL_law_296 ?_
      refine Rp.sloadN dL_law_297 j3 (by omega) ?_
      refine Rp.aload_n dL_law_298 rfl rfl ?_
      refine Rp.iload_n dL_law_299 rfl ?_
      refine Rp.iconst (nI 2) dL_law_300 (by decide) ?_
      refine Rp.iaddN dL_law_301 ?_
      refine Rp.sloadN dL_law_302 j3 (by omega) ?_
      refine Rp.callV2 M_X12_ticket (ci := 12) dL_law_303 mo_X12_ticket lk_L_25 (by decide) rfl rfl j2 (Nat.le_of_ble_eq_true rfl) (Nat.le_of_ble_eq_true rfl) p2 (fun v2 h2 p3 x2 => ?_)
      obtain ⟨rfl, hI2⟩ := p3
      refine Rp.icmp_eq (tgt := 1276) dL_law_306 (by decide) (fun _ => ?_) (fun c => absurd rfl c)
      exact nx h2 hI2
    | 3, _ =>
      refine Rp.tableIn (tgt := 311) (off := 278) dL_law_33 (by decide) (by decide) (by decide) (by decide) ?_
      refine Rp.aload_n dL_law_311 rfl rfl ?_
      refine Rp.aload_n dL_law_312 rfl rfl ?_
      refine Rp.iload_n dL_law_313 rfl ?_
      refine Rp.iconst (nI 1) dL_law_314 (by decide) ?_
      refine Rp.iaddN dL_law_315 ?_
      refine Rp.sloadN dL_law_316 i3 (by omega) ?_
      refine Rp.aload_n dL_law_317 rfl rfl ?_
      refine Rp.iload_n dL_law_318 rfl ?_
      refine Rp.iconst (nI 2) dL_law_319 (by decide) ?_
      refine Rp.iaddN dL_law_320 ?_
      refine Rp.sloadN dL_law_321 i3 (by omega) ?_
      refine Rp.callV2 M_X11_at (ci := 11) dL_law_322 mo_X11_at lk_L_26 (by decide) rfl rfl i1 (Nat.le_of_ble_eq_true rfl) (Nat.le_of_ble_eq_true rfl) (P_at (xs (6 * n + 1)) (xs (6 * n + 2)) n h hI) (fun v1 h1 p1 x1 => ?_)
      obtain ⟨v, rfl, p2⟩ := p1
      have j2 := sh_pre x1.2 i2
      have j3 : gS h1 = (L, xs) := x1.1.trans i3
      refine Rp.aload_n dL_law_325 rfl rfl ?_
      refine Rp.aload_n dL_law_326 rfl rfl ?_
      refine Rp.iload_n dL_law_327 rfl ?_
      refine Rp.iconst (nI 1) dL_law_328 (by decide) ?_
      refine Rp.iaddN dL_law_329 ?_
      refine Rp.sloadN dL_law_330 j3 (by omega) ?_
      refine Rp.aload_n dL_law_331 rfl rfl ?_
      refine Rp.iload_n dL_law_332 rfl ?_
      refine Rp.iconst (nI 2) dL_law_333 (by decide) ?_
      refine Rp.iaddN dL_law_334 ?_
      refine Rp.sloadN dL_law_335 j3 (by omega) ?_
      refine Rp.callV2 M_X12_at (ci := 12) dL_law_336 mo_X12_at lk_L_29 (by decide) rfl rfl j2 (Nat.le_of_ble_eq_true rfl) (Nat.le_of_ble_eq_true rfl) p2 (fun v2 h2 p3 x2 => ?_)
      obtain ⟨rfl, hI2⟩ := p3
      refine Rp.icmp_eq (tgt := 1276) dL_law_339 (by decide) (fun _ => ?_) (fun c => absurd rfl c)
      exact nx h2 hI2
    | 4, _ =>
      refine Rp.tableIn (tgt := 344) (off := 311) dL_law_33 (by decide) (by decide) (by decide) (by decide) ?_
      refine Rp.aload_n dL_law_344 rfl rfl ?_
      refine Rp.aload_n dL_law_345 rfl rfl ?_
      refine Rp.iload_n dL_law_346 rfl ?_
      refine Rp.iconst (nI 1) dL_law_347 (by decide) ?_
      refine Rp.iaddN dL_law_348 ?_
      refine Rp.sloadN dL_law_349 i3 (by omega) ?_
      refine Rp.aload_n dL_law_350 rfl rfl ?_
      refine Rp.iload_n dL_law_351 rfl ?_
      refine Rp.iconst (nI 2) dL_law_352 (by decide) ?_
      refine Rp.iaddN dL_law_353 ?_
      refine Rp.sloadN dL_law_354 i3 (by omega) ?_
      refine Rp.aload_n dL_law_355 rfl rfl ?_
      refine Rp.iload_n dL_law_356 rfl ?_
      refine Rp.iconst (nI 3) dL_law_357 (by decide) ?_
      refine Rp.iaddN dL_law_358 ?_
      refine Rp.sloadN dL_law_359 i3 (by omega) ?_
      refine Rp.callV3 M_X11_wish (ci := 11) dL_law_360 mo_X11_wish lk_L_30 (by decide) rfl rfl i1 (Nat.le_of_ble_eq_true rfl) (Nat.le_of_ble_eq_true rfl) (P_wish (xs (6 * n + 1)) (xs (6 * n + 2)) (xs (6 * n + 3)) n h hI) (fun v1 h1 p1 x1 => ?_)
      obtain ⟨v, rfl, p2⟩ := p1
      have j2 := sh_pre x1.2 i2
      have j3 : gS h1 = (L, xs) := x1.1.trans i3
      refine Rp.aload_n dL_law_363 rfl rfl ?_
      refine Rp.aload_n dL_law_364 rfl rfl ?_
      refine Rp.iload_n dL_law_365 rfl ?_
      refine Rp.iconst (nI 1) dL_law_366 (by decide) ?_
      refine Rp.iaddN dL_law_367 ?_
      refine Rp.sloadN dL_law_368 j3 (by omega) ?_
      refine Rp.aload_n dL_law_369 rfl rfl ?_
      refine Rp.iload_n dL_law_370 rfl ?_
      refine Rp.iconst (nI 2) dL_law_371 (by decide) ?_
      refine Rp.iaddN dL_law_372 ?_
      refine Rp.sloadN dL_law_373 j3 (by omega) ?_
      refine Rp.aload_n dL_law_374 rfl rfl ?_
      refine Rp.iload_n dL_law_375 rfl ?_
      refine Rp.iconst (nI 3) dL_law_376 (by decide) ?_
      refine Rp.iaddN dL_law_377 ?_
      refine Rp.sloadN dL_law_378 j3 (by omega) ?_
      refine Rp.callV3 M_X12_wish (ci := 12) dL_law_379 mo_X12_wish lk_L_34 (by decide) rfl rfl j2 (Nat.le_of_ble_eq_true rfl) (Nat.le_of_ble_eq_true rfl) p2 (fun v2 h2 p3 x2 => ?_)
      obtain ⟨rfl, hI2⟩ := p3
      refine Rp.icmp_eq (tgt := 1276) dL_law_382 (by decide) (fun _ => ?_) (fun c => absurd rfl c)
      exact nx h2 hI2
    | 5, _ =>
      refine Rp.tableIn (tgt := 387) (off := 354) dL_law_33 (by decide) (by decide) (by decide) (by decide) ?_
      refine Rp.aload_n dL_law_387 rfl rfl ?_
      refine Rp.aload_n dL_law_388 rfl rfl ?_
      refine Rp.iload_n dL_law_389 rfl ?_
      refine Rp.iconst (nI 1) dL_law_390 (by decide) ?_
      refine Rp.iaddN dL_law_391 ?_
      refine Rp.sloadN dL_law_392 i3 (by omega) ?_
      refine Rp.aload_n dL_law_393 rfl rfl ?_
      refine Rp.iload_n dL_law_394 rfl ?_
      refine Rp.iconst (nI 2) dL_law_395 (by decide) ?_
      refine Rp.iaddN dL_law_396 ?_
      refine Rp.sloadN dL_law_397 i3 (by omega) ?_
      refine Rp.callV2 M_X11_desk (ci := 11) dL_law_398 mo_X11_desk lk_L_35 (by decide) rfl rfl i1 (Nat.le_of_ble_eq_true rfl) (Nat.le_of_ble_eq_true rfl) (P_desk (xs (6 * n + 1)) (xs (6 * n + 2)) n h hI) (fun v1 h1 p1 x1 => ?_)
      obtain ⟨v, rfl, p2⟩ := p1
      have j2 := sh_pre x1.2 i2
      have j3 : gS h1 = (L, xs) := x1.1.trans i3
      refine Rp.aload_n dL_law_401 rfl rfl ?_
      refine Rp.aload_n dL_law_402 rfl rfl ?_
      refine Rp.iload_n dL_law_403 rfl ?_
      refine Rp.iconst (nI 1) dL_law_404 (by decide) ?_
      refine Rp.iaddN dL_law_405 ?_
      refine Rp.sloadN dL_law_406 j3 (by omega) ?_
      refine Rp.aload_n dL_law_407 rfl rfl ?_
      refine Rp.iload_n dL_law_408 rfl ?_
      refine Rp.iconst (nI 2) dL_law_409 (by decide) ?_
      refine Rp.iaddN dL_law_410 ?_
      refine Rp.sloadN dL_law_411 j3 (by omega) ?_
      refine Rp.callV2 M_X12_desk (ci := 12) dL_law_412 mo_X12_desk lk_L_38 (by decide) rfl rfl j2 (Nat.le_of_ble_eq_true rfl) (Nat.le_of_ble_eq_true rfl) p2 (fun v2 h2 p3 x2 => ?_)
      obtain ⟨rfl, hI2⟩ := p3
      refine Rp.icmp_eq (tgt := 1276) dL_law_415 (by decide) (fun _ => ?_) (fun c => absurd rfl c)
      exact nx h2 hI2
    | 6, _ =>
      refine Rp.tableIn (tgt := 420) (off := 387) dL_law_33 (by decide) (by decide) (by decide) (by decide) ?_
      refine Rp.aload_n dL_law_420 rfl rfl ?_
      refine Rp.aload_n dL_law_421 rfl rfl ?_
      refine Rp.iload_n dL_law_422 rfl ?_
      refine Rp.iconst (nI 1) dL_law_423 (by decide) ?_
      refine Rp.iaddN dL_law_424 ?_
      refine Rp.sloadN dL_law_425 i3 (by omega) ?_
      refine Rp.aload_n dL_law_426 rfl rfl ?_
      refine Rp.iload_n dL_law_427 rfl ?_
      refine Rp.iconst (nI 2) dL_law_428 (by decide) ?_
      refine Rp.iaddN dL_law_429 ?_
      refine Rp.sloadN dL_law_430 i3 (by omega) ?_
      refine Rp.aload_n dL_law_431 rfl rfl ?_
      refine Rp.iload_n dL_law_432 rfl ?_
      refine Rp.iconst (nI 3) dL_law_433 (by decide) ?_
      refine Rp.iaddN dL_law_434 ?_
      refine Rp.sloadN dL_law_435 i3 (by omega) ?_
      refine Rp.callV3 M_X11_asks (ci := 11) dL_law_436 mo_X11_asks lk_L_39 (by decide) rfl rfl i1 (Nat.le_of_ble_eq_true rfl) (Nat.le_of_ble_eq_true rfl) (P_asks (xs (6 * n + 1)) (xs (6 * n + 2)) (xs (6 * n + 3)) n h hI) (fun v1 h1 p1 x1 => ?_)
      obtain ⟨v, rfl, p2⟩ := p1
      have j2 := sh_pre x1.2 i2
      have j3 : gS h1 = (L, xs) := x1.1.trans i3
      refine Rp.aload_n dL_law_439 rfl rfl ?_
      refine Rp.aload_n dL_law_440 rfl rfl ?_
      refine Rp.iload_n dL_law_441 rfl ?_
      refine Rp.iconst (nI 1) dL_law_442 (by decide) ?_
      refine Rp.iaddN dL_law_443 ?_
      refine Rp.sloadN dL_law_444 j3 (by omega) ?_
      refine Rp.aload_n dL_law_445 rfl rfl ?_
      refine Rp.iload_n dL_law_446 rfl ?_
      refine Rp.iconst (nI 2) dL_law_447 (by decide) ?_
      refine Rp.iaddN dL_law_448 ?_
      refine Rp.sloadN dL_law_449 j3 (by omega) ?_
      refine Rp.aload_n dL_law_450 rfl rfl ?_
      refine Rp.iload_n dL_law_451 rfl ?_
      refine Rp.iconst (nI 3) dL_law_452 (by decide) ?_
      refine Rp.iaddN dL_law_453 ?_
      refine Rp.sloadN dL_law_454 j3 (by omega) ?_
      refine Rp.callV3 M_X12_asks (ci := 12) dL_law_455 mo_X12_asks lk_L_42 (by decide) rfl rfl j2 (Nat.le_of_ble_eq_true rfl) (Nat.le_of_ble_eq_true rfl) p2 (fun v2 h2 p3 x2 => ?_)
      obtain ⟨rfl, hI2⟩ := p3
      refine Rp.icmp_eq (tgt := 1276) dL_law_458 (by decide) (fun _ => ?_) (fun c => absurd rfl c)
      exact nx h2 hI2
    | 7, _ =>
      refine Rp.tableIn (tgt := 463) (off := 430) dL_law_33 (by decide) (by decide) (by decide) (by decide) ?_
      refine Rp.aload_n dL_law_463 rfl rfl ?_
      refine Rp.aload_n dL_law_464 rfl rfl ?_
      refine Rp.iload_n dL_law_465 rfl ?_
      refine Rp.iconst (nI 1) dL_law_466 (by decide) ?_
      refine Rp.iaddN dL_law_467 ?_
      refine Rp.sloadN dL_law_468 i3 (by omega) ?_
      refine Rp.aload_n dL_law_469 rfl rfl ?_
      refine Rp.iload_n dL_law_470 rfl ?_
      refine Rp.iconst (nI 2) dL_law_471 (by decide) ?_
      refine Rp.iaddN dL_law_472 ?_
      refine Rp.sloadN dL_law_473 i3 (by omega) ?_
      refine Rp.callV2 M_X11_terms (ci := 11) dL_law_474 mo_X11_terms lk_L_43 (by decide) rfl rfl i1 (Nat.le_of_ble_eq_true rfl) (Nat.le_of_ble_eq_true rfl) (P_terms (xs (6 * n + 1)) (xs (6 * n + 2)) n h hI) (fun v1 h1 p1 x1 => ?_)
      obtain ⟨v, rfl, p2⟩ := p1
      have j2 := sh_pre x1.2 i2
      have j3 : gS h1 = (L, xs) := x1.1.trans i3
      refine Rp.aload_n dL_law_477 rfl rfl ?_
      refine Rp.aload_n dL_law_478 rfl rfl ?_
      refine Rp.iload_n dL_law_479 rfl ?_
      refine Rp.iconst (nI 1) dL_law_480 (by decide) ?_
      refine Rp.iaddN dL_law_481 ?_
      refine Rp.sloadN dL_law_482 j3 (by omega) ?_
      refine Rp.aload_n dL_law_483 rfl rfl ?_
      refine Rp.iload_n dL_law_484 rfl ?_
      refine Rp.iconst (nI 2) dL_law_485 (by decide) ?_
      refine Rp.iaddN dL_law_486 ?_
      refine Rp.sloadN dL_law_487 j3 (by omega) ?_
      refine Rp.callV2 M_X12_terms (ci := 12) dL_law_488 mo_X12_terms lk_L_46 (by decide) rfl rfl j2 (Nat.le_of_ble_eq_true rfl) (Nat.le_of_ble_eq_true rfl) p2 (fun v2 h2 p3 x2 => ?_)
      obtain ⟨rfl, hI2⟩ := p3
      refine Rp.icmp_eq (tgt := 1276) dL_law_491 (by decide) (fun _ => ?_) (fun c => absurd rfl c)
      exact nx h2 hI2
    | 8, _ =>
      refine Rp.tableIn (tgt := 496) (off := 463) dL_law_33 (by decide) (by decide) (by decide) (by decide) ?_
      refine Rp.aload_n dL_law_496 rfl rfl ?_
      refine Rp.aload_n dL_law_497 rfl rfl ?_
      refine Rp.iload_n dL_law_498 rfl ?_
      refine Rp.iconst (nI 1) dL_law_499 (by decide) ?_
      refine Rp.iaddN dL_law_500 ?_
      refine Rp.sloadN dL_law_501 i3 (by omega) ?_
      refine Rp.aload_n dL_law_502 rfl rfl ?_
      refine Rp.iload_n dL_law_503 rfl ?_
      refine Rp.iconst (nI 2) dL_law_504 (by decide) ?_
      refine Rp.iaddN dL_law_505 ?_
      refine Rp.sloadN dL_law_506 i3 (by omega) ?_
      refine Rp.aload_n dL_law_507 rfl rfl ?_
      refine Rp.iload_n dL_law_508 rfl ?_
      refine Rp.iconst (nI 3) dL_law_509 (by decide) ?_
      refine Rp.iaddN dL_law_510 ?_
      refine Rp.sloadN dL_law_511 i3 (by omega) ?_
      refine Rp.aload_n dL_law_512 rfl rfl ?_
      refine Rp.iload_n dL_law_513 rfl ?_
      refine Rp.iconst (nI 4) dL_law_514 (by decide) ?_
      refine Rp.iaddN dL_law_515 ?_
      refine Rp.sloadN dL_law_516 i3 (by omega) ?_
      refine Rp.aload_n dL_law_517 rfl rfl ?_
      refine Rp.iload_n dL_law_518 rfl ?_
      refine Rp.iconst (nI 5) dL_law_519 (by decide) ?_
      refine Rp.iaddN dL_law_520 ?_
      refine Rp.sloadN dL_law_521 i3 (by omega) ?_
      refine Rp.callV5 M_X11_feed (ci := 11) dL_law_522 mo_X11_feed lk_L_47 (by decide) rfl rfl i1 (Nat.le_of_ble_eq_true rfl) (Nat.le_of_ble_eq_true rfl) (P_feed (xs (6 * n + 1)) (xs (6 * n + 2)) (xs (6 * n + 3)) (xs (6 * n + 4)) (xs (6 * n + 5)) n h hI) (fun v1 h1 p1 x1 => ?_)
      obtain ⟨v, rfl, p2⟩ := p1
      have j2 := sh_pre x1.2 i2
      have j3 : gS h1 = (L, xs) := x1.1.trans i3
      refine Rp.aload_n dL_law_525 rfl rfl ?_
      refine Rp.aload_n dL_law_526 rfl rfl ?_
      refine Rp.iload_n dL_law_527 rfl ?_
      refine Rp.iconst (nI 1) dL_law_528 (by decide) ?_
      refine Rp.iaddN dL_law_529 ?_
      refine Rp.sloadN dL_law_530 j3 (by omega) ?_
      refine Rp.aload_n dL_law_531 rfl rfl ?_
      refine Rp.iload_n dL_law_532 rfl ?_
      refine Rp.iconst (nI 2) dL_law_533 (by decide) ?_
      refine Rp.iaddN dL_law_534 ?_
      refine Rp.sloadN dL_law_535 j3 (by omega) ?_
      refine Rp.aload_n dL_law_536 rfl rfl ?_
      refine Rp.iload_n dL_law_537 rfl ?_
      refine Rp.iconst (nI 3) dL_law_538 (by decide) ?_
      refine Rp.iaddN dL_law_539 ?_
      refine Rp.sloadN dL_law_540 j3 (by omega) ?_
      refine Rp.aload_n dL_law_541 rfl rfl ?_
      refine Rp.iload_n dL_law_542 rfl ?_
      refine Rp.iconst (nI 4) dL_law_543 (by decide) ?_
      refine Rp.iaddN dL_law_544 ?_
      refine Rp.sloadN dL_law_545 j3 (by omega) ?_
      refine Rp.aload_n dL_law_546 rfl rfl ?_
      refine Rp.iload_n dL_law_547 rfl ?_
      refine Rp.iconst (nI 5) dL_law_548 (by decide) ?_
      refine Rp.iaddN dL_law_549 ?_
      refine Rp.sloadN dL_law_550 j3 (by omega) ?_
      refine Rp.callV5 M_X12_feed (ci := 12) dL_law_551 mo_X12_feed lk_L_51 (by decide) rfl rfl j2 (Nat.le_of_ble_eq_true rfl) (Nat.le_of_ble_eq_true rfl) p2 (fun v2 h2 p3 x2 => ?_)
      obtain ⟨rfl, hI2⟩ := p3
      refine Rp.icmp_eq (tgt := 1276) dL_law_554 (by decide) (fun _ => ?_) (fun c => absurd rfl c)
      exact nx h2 hI2
    | 9, _ =>
      refine Rp.tableIn (tgt := 559) (off := 526) dL_law_33 (by decide) (by decide) (by decide) (by decide) ?_
      refine Rp.aload_n dL_law_559 rfl rfl ?_
      refine Rp.aload_n dL_law_560 rfl rfl ?_
      refine Rp.iload_n dL_law_561 rfl ?_
      refine Rp.iconst (nI 1) dL_law_562 (by decide) ?_
      refine Rp.iaddN dL_law_563 ?_
      refine Rp.sloadN dL_law_564 i3 (by omega) ?_
      refine Rp.callV1 M_X11_end (ci := 11) dL_law_565 mo_X11_end lk_L_52 (by decide) rfl rfl i1 (Nat.le_of_ble_eq_true rfl) (Nat.le_of_ble_eq_true rfl) (P_end (xs (6 * n + 1)) n h hI) (fun v1 h1 p1 x1 => ?_)
      obtain ⟨v, rfl, p2⟩ := p1
      have j2 := sh_pre x1.2 i2
      have j3 : gS h1 = (L, xs) := x1.1.trans i3
      refine Rp.aload_n dL_law_568 rfl rfl ?_
      refine Rp.aload_n dL_law_569 rfl rfl ?_
      refine Rp.iload_n dL_law_570 rfl ?_
      refine Rp.iconst (nI 1) dL_law_571 (by decide) ?_
      refine Rp.iaddN dL_law_572 ?_
      refine Rp.sloadN dL_law_573 j3 (by omega) ?_
      refine Rp.callV1 M_X12_end (ci := 12) dL_law_574 mo_X12_end lk_L_56 (by decide) rfl rfl j2 (Nat.le_of_ble_eq_true rfl) (Nat.le_of_ble_eq_true rfl) p2 (fun v2 h2 p3 x2 => ?_)
      obtain ⟨rfl, hI2⟩ := p3
      refine Rp.icmp_eq (tgt := 1276) dL_law_577 (by decide) (fun _ => ?_) (fun c => absurd rfl c)
      exact nx h2 hI2
    | 10, _ =>
      refine Rp.tableIn (tgt := 582) (off := 549) dL_law_33 (by decide) (by decide) (by decide) (by decide) ?_
      refine Rp.aload_n dL_law_582 rfl rfl ?_
      refine Rp.callV0 M_X11_row (ci := 11) dL_law_583 mo_X11_row lk_L_57 (by decide) rfl rfl i1 (Nat.le_of_ble_eq_true rfl) (Nat.le_of_ble_eq_true rfl) (P_row n h hI) (fun v1 h1 p1 x1 => ?_)
      obtain ⟨v, rfl, p2⟩ := p1
      have j2 := sh_pre x1.2 i2
      have j3 : gS h1 = (L, xs) := x1.1.trans i3
      refine Rp.aload_n dL_law_586 rfl rfl ?_
      refine Rp.callV0 M_X12_row (ci := 12) dL_law_587 mo_X12_row lk_L_61 (by decide) rfl rfl j2 (Nat.le_of_ble_eq_true rfl) (Nat.le_of_ble_eq_true rfl) p2 (fun v2 h2 p3 x2 => ?_)
      obtain ⟨rfl, hI2⟩ := p3
      refine Rp.icmp_eq (tgt := 1276) dL_law_590 (by decide) (fun _ => ?_) (fun c => absurd rfl c)
      exact nx h2 hI2
    | 11, _ =>
      refine Rp.tableIn (tgt := 595) (off := 562) dL_law_33 (by decide) (by decide) (by decide) (by decide) ?_
      refine Rp.aload_n dL_law_595 rfl rfl ?_
      refine Rp.callV0 M_X11_scraps (ci := 11) dL_law_596 mo_X11_scraps lk_L_62 (by decide) rfl rfl i1 (Nat.le_of_ble_eq_true rfl) (Nat.le_of_ble_eq_true rfl) (P_scraps n h hI) (fun v1 h1 p1 x1 => ?_)
      obtain ⟨v, rfl, p2⟩ := p1
      have j2 := sh_pre x1.2 i2
      have j3 : gS h1 = (L, xs) := x1.1.trans i3
      refine Rp.aload_n dL_law_599 rfl rfl ?_
      refine Rp.callV0 M_X12_scraps (ci := 12) dL_law_600 mo_X12_scraps lk_L_65 (by decide) rfl rfl j2 (Nat.le_of_ble_eq_true rfl) (Nat.le_of_ble_eq_true rfl) p2 (fun v2 h2 p3 x2 => ?_)
      obtain ⟨rfl, hI2⟩ := p3
      refine Rp.icmp_eq (tgt := 1276) dL_law_603 (by decide) (fun _ => ?_) (fun c => absurd rfl c)
      exact nx h2 hI2
    | 12, _ =>
      refine Rp.tableIn (tgt := 608) (off := 575) dL_law_33 (by decide) (by decide) (by decide) (by decide) ?_
      refine Rp.aload_n dL_law_608 rfl rfl ?_
      refine Rp.callV0 M_X11_law (ci := 11) dL_law_609 mo_X11_law lk_L_66 (by decide) rfl rfl i1 (Nat.le_of_ble_eq_true rfl) (Nat.le_of_ble_eq_true rfl) (P_law n h hI) (fun v1 h1 p1 x1 => ?_)
      obtain ⟨v, rfl, p2⟩ := p1
      have j2 := sh_pre x1.2 i2
      have j3 : gS h1 = (L, xs) := x1.1.trans i3
      refine Rp.aload_n dL_law_612 rfl rfl ?_
      refine Rp.callV0 M_X12_law (ci := 12) dL_law_613 mo_X12_law lk_L_69 (by decide) rfl rfl j2 (Nat.le_of_ble_eq_true rfl) (Nat.le_of_ble_eq_true rfl) p2 (fun v2 h2 p3 x2 => ?_)
      obtain ⟨rfl, hI2⟩ := p3
      refine Rp.icmp_eq (tgt := 1276) dL_law_616 (by decide) (fun _ => ?_) (fun c => absurd rfl c)
      exact nx h2 hI2
    | 13, _ =>
      refine Rp.tableIn (tgt := 621) (off := 588) dL_law_33 (by decide) (by decide) (by decide) (by decide) ?_
      refine Rp.aload_n dL_law_621 rfl rfl ?_
      refine Rp.callV0 M_X11_orders (ci := 11) dL_law_622 mo_X11_orders lk_L_70 (by decide) rfl rfl i1 (Nat.le_of_ble_eq_true rfl) (Nat.le_of_ble_eq_true rfl) (P_orders n h hI) (fun v1 h1 p1 x1 => ?_)
      obtain ⟨v, rfl, p2⟩ := p1
      have j2 := sh_pre x1.2 i2
      have j3 : gS h1 = (L, xs) := x1.1.trans i3
      refine Rp.aload_n dL_law_625 rfl rfl ?_
      refine Rp.callV0 M_X12_orders (ci := 12) dL_law_626 mo_X12_orders lk_L_73 (by decide) rfl rfl j2 (Nat.le_of_ble_eq_true rfl) (Nat.le_of_ble_eq_true rfl) p2 (fun v2 h2 p3 x2 => ?_)
      obtain ⟨rfl, hI2⟩ := p3
      refine Rp.icmp_eq (tgt := 1276) dL_law_629 (by decide) (fun _ => ?_) (fun c => absurd rfl c)
      exact nx h2 hI2
    | 14, _ =>
      refine Rp.tableIn (tgt := 634) (off := 601) dL_law_33 (by decide) (by decide) (by decide) (by decide) ?_
      refine Rp.aload_n dL_law_634 rfl rfl ?_
      refine Rp.callV0 M_X11_fault (ci := 11) dL_law_635 mo_X11_fault lk_L_74 (by decide) rfl rfl i1 (Nat.le_of_ble_eq_true rfl) (Nat.le_of_ble_eq_true rfl) (P_fault n h hI) (fun v1 h1 p1 x1 => ?_)
      obtain ⟨v, rfl, p2⟩ := p1
      have j2 := sh_pre x1.2 i2
      have j3 : gS h1 = (L, xs) := x1.1.trans i3
      refine Rp.aload_n dL_law_638 rfl rfl ?_
      refine Rp.callV0 M_X12_fault (ci := 12) dL_law_639 mo_X12_fault lk_L_77 (by decide) rfl rfl j2 (Nat.le_of_ble_eq_true rfl) (Nat.le_of_ble_eq_true rfl) p2 (fun v2 h2 p3 x2 => ?_)
      obtain ⟨rfl, hI2⟩ := p3
      refine Rp.icmp_eq (tgt := 1276) dL_law_642 (by decide) (fun _ => ?_) (fun c => absurd rfl c)
      exact nx h2 hI2
    | 15, _ =>
      refine Rp.tableIn (tgt := 647) (off := 614) dL_law_33 (by decide) (by decide) (by decide) (by decide) ?_
      refine Rp.aload_n dL_law_647 rfl rfl ?_
      refine Rp.callV0 M_X11_stopped (ci := 11) dL_law_648 mo_X11_stopped lk_L_78 (by decide) rfl rfl i1 (Nat.le_of_ble_eq_true rfl) (Nat.le_of_ble_eq_true rfl) (P_stopped n h hI) (fun v1 h1 p1 x1 => ?_)
      obtain ⟨v, rfl, p2⟩ := p1
      have j2 := sh_pre x1.2 i2
      have j3 : gS h1 = (L, xs) := x1.1.trans i3
      refine Rp.aload_n dL_law_651 rfl rfl ?_
      refine Rp.callV0 M_X12_stopped (ci := 12) dL_law_652 mo_X12_stopped lk_L_81 (by decide) rfl rfl j2 (Nat.le_of_ble_eq_true rfl) (Nat.le_of_ble_eq_true rfl) p2 (fun v2 h2 p3 x2 => ?_)
      obtain ⟨rfl, hI2⟩ := p3
      refine Rp.icmp_eq (tgt := 1276) dL_law_655 (by decide) (fun _ => ?_) (fun c => absurd rfl c)
      exact nx h2 hI2
    | 16, _ =>
      refine Rp.tableIn (tgt := 660) (off := 627) dL_law_33 (by decide) (by decide) (by decide) (by decide) ?_
      refine Rp.aload_n dL_law_660 rfl rfl ?_
      refine Rp.aload_n dL_law_661 rfl rfl ?_
      refine Rp.iload_n dL_law_662 rfl ?_
      refine Rp.iconst (nI 1) dL_law_663 (by decide) ?_
      refine Rp.iaddN dL_law_664 ?_
      refine Rp.sloadN dL_law_665 i3 (by omega) ?_
      refine Rp.callV1 M_X11_force (ci := 11) dL_law_666 mo_X11_force lk_L_82 (by decide) rfl rfl i1 (Nat.le_of_ble_eq_true rfl) (Nat.le_of_ble_eq_true rfl) (P_force (xs (6 * n + 1)) n h hI) (fun v1 h1 p1 x1 => ?_)
      obtain ⟨v, rfl, p2⟩ := p1
      have j2 := sh_pre x1.2 i2
      have j3 : gS h1 = (L, xs) := x1.1.trans i3
      refine Rp.aload_n dL_law_669 rfl rfl ?_
      refine Rp.aload_n dL_law_670 rfl rfl ?_
      refine Rp.iload_n dL_law_671 rfl ?_
      refine Rp.iconst (nI 1) dL_law_672 (by decide) ?_
      refine Rp.iaddN dL_law_673 ?_
      refine Rp.sloadN dL_law_674 j3 (by omega) ?_
      refine Rp.callV1 M_X12_force (ci := 12) dL_law_675 mo_X12_force lk_L_85 (by decide) rfl rfl j2 (Nat.le_of_ble_eq_true rfl) (Nat.le_of_ble_eq_true rfl) p2 (fun v2 h2 p3 x2 => ?_)
      obtain ⟨rfl, hI2⟩ := p3
      refine Rp.icmp_eq (tgt := 1276) dL_law_678 (by decide) (fun _ => ?_) (fun c => absurd rfl c)
      exact nx h2 hI2
    | 17, _ =>
      refine Rp.tableIn (tgt := 683) (off := 650) dL_law_33 (by decide) (by decide) (by decide) (by decide) ?_
      refine Rp.aload_n dL_law_683 rfl rfl ?_
      refine Rp.aload_n dL_law_684 rfl rfl ?_
      refine Rp.iload_n dL_law_685 rfl ?_
      refine Rp.iconst (nI 1) dL_law_686 (by decide) ?_
      refine Rp.iaddN dL_law_687 ?_
      refine Rp.sloadN dL_law_688 i3 (by omega) ?_
      refine Rp.aload_n dL_law_689 rfl rfl ?_
      refine Rp.iload_n dL_law_690 rfl ?_
      refine Rp.iconst (nI 2) dL_law_691 (by decide) ?_
      refine Rp.iaddN dL_law_692 ?_
      refine Rp.sloadN dL_law_693 i3 (by omega) ?_
      refine Rp.callV2 M_X11_draw (ci := 11) dL_law_694 mo_X11_draw lk_L_86 (by decide) rfl rfl i1 (Nat.le_of_ble_eq_true rfl) (Nat.le_of_ble_eq_true rfl) (P_draw (xs (6 * n + 1)) (xs (6 * n + 2)) n h hI) (fun v1 h1 p1 x1 => ?_)
      obtain ⟨v, rfl, p2⟩ := p1
      have j2 := sh_pre x1.2 i2
      have j3 : gS h1 = (L, xs) := x1.1.trans i3
      refine Rp.aload_n dL_law_697 rfl rfl ?_
      refine Rp.aload_n dL_law_698 rfl rfl ?_
      refine Rp.iload_n dL_law_699 rfl ?_
      refine Rp.iconst (nI 1) dL_law_700 (by decide) ?_
      refine Rp.iaddN dL_law_701 ?_
      refine Rp.sloadN dL_law_702 j3 (by omega) ?_
      refine Rp.aload_n dL_law_703 rfl rfl ?_
      refine Rp.iload_n dL_law_704 rfl ?_
      refine Rp.iconst (nI 2) dL_law_705 (by decide) ?_
      refine Rp.iaddN dL_law_706 ?_
      refine Rp.sloadN dL_law_707 j3 (by omega) ?_
      refine Rp.callV2 M_X12_draw (ci := 12) dL_law_708 mo_X12_draw lk_L_89 (by decide) rfl rfl j2 (Nat.le_of_ble_eq_true rfl) (Nat.le_of_ble_eq_true rfl) p2 (fun v2 h2 p3 x2 => ?_)
      obtain ⟨rfl, hI2⟩ := p3
      refine Rp.icmp_eq (tgt := 1276) dL_law_711 (by decide) (fun _ => ?_) (fun c => absurd rfl c)
      exact nx h2 hI2
    | 18, _ =>
      refine Rp.tableIn (tgt := 716) (off := 683) dL_law_33 (by decide) (by decide) (by decide) (by decide) ?_
      refine Rp.aload_n dL_law_716 rfl rfl ?_
      refine Rp.aload_n dL_law_717 rfl rfl ?_
      refine Rp.iload_n dL_law_718 rfl ?_
      refine Rp.iconst (nI 1) dL_law_719 (by decide) ?_
      refine Rp.iaddN dL_law_720 ?_
      refine Rp.sloadN dL_law_721 i3 (by omega) ?_
      refine Rp.aload_n dL_law_722 rfl rfl ?_
      refine Rp.iload_n dL_law_723 rfl ?_
      refine Rp.iconst (nI 2) dL_law_724 (by decide) ?_
      refine Rp.iaddN dL_law_725 ?_
      refine Rp.sloadN dL_law_726 i3 (by omega) ?_
      refine Rp.callV2 M_X11_swap (ci := 11) dL_law_727 mo_X11_swap lk_L_90 (by decide) rfl rfl i1 (Nat.le_of_ble_eq_true rfl) (Nat.le_of_ble_eq_true rfl) (P_swap (xs (6 * n + 1)) (xs (6 * n + 2)) n h hI) (fun v1 h1 p1 x1 => ?_)
      obtain ⟨v, rfl, p2⟩ := p1
      have j2 := sh_pre x1.2 i2
      have j3 : gS h1 = (L, xs) := x1.1.trans i3
      refine Rp.aload_n dL_law_730 rfl rfl ?_
      refine Rp.aload_n dL_law_731 rfl rfl ?_
      refine Rp.iload_n dL_law_732 rfl ?_
      refine Rp.iconst (nI 1) dL_law_733 (by decide) ?_
      refine Rp.iaddN dL_law_734 ?_
      refine Rp.sloadN dL_law_735 j3 (by omega) ?_
      refine Rp.aload_n dL_law_736 rfl rfl ?_
      refine Rp.iload_n dL_law_737 rfl ?_
      refine Rp.iconst (nI 2) dL_law_738 (by decide) ?_
      refine Rp.iaddN dL_law_739 ?_
      refine Rp.sloadN dL_law_740 j3 (by omega) ?_
      refine Rp.callV2 M_X12_swap (ci := 12) dL_law_741 mo_X12_swap lk_L_93 (by decide) rfl rfl j2 (Nat.le_of_ble_eq_true rfl) (Nat.le_of_ble_eq_true rfl) p2 (fun v2 h2 p3 x2 => ?_)
      obtain ⟨rfl, hI2⟩ := p3
      refine Rp.icmp_eq (tgt := 1276) dL_law_744 (by decide) (fun _ => ?_) (fun c => absurd rfl c)
      exact nx h2 hI2
    | 19, _ =>
      refine Rp.tableIn (tgt := 749) (off := 716) dL_law_33 (by decide) (by decide) (by decide) (by decide) ?_
      refine Rp.aload_n dL_law_749 rfl rfl ?_
      refine Rp.aload_n dL_law_750 rfl rfl ?_
      refine Rp.iload_n dL_law_751 rfl ?_
      refine Rp.iconst (nI 1) dL_law_752 (by decide) ?_
      refine Rp.iaddN dL_law_753 ?_
      refine Rp.sloadN dL_law_754 i3 (by omega) ?_
      refine Rp.callV1 M_X11_drop (ci := 11) dL_law_755 mo_X11_drop lk_L_94 (by decide) rfl rfl i1 (Nat.le_of_ble_eq_true rfl) (Nat.le_of_ble_eq_true rfl) (P_drop (xs (6 * n + 1)) n h hI) (fun v1 h1 p1 x1 => ?_)
      obtain ⟨v, rfl, p2⟩ := p1
      have j2 := sh_pre x1.2 i2
      have j3 : gS h1 = (L, xs) := x1.1.trans i3
      refine Rp.aload_n dL_law_758 rfl rfl ?_
      refine Rp.aload_n dL_law_759 rfl rfl ?_
      refine Rp.iload_n dL_law_760 rfl ?_
      refine Rp.iconst (nI 1) dL_law_761 (by decide) ?_
      refine Rp.iaddN dL_law_762 ?_
      refine Rp.sloadN dL_law_763 j3 (by omega) ?_
      refine Rp.callV1 M_X12_drop (ci := 12) dL_law_764 mo_X12_drop lk_L_97 (by decide) rfl rfl j2 (Nat.le_of_ble_eq_true rfl) (Nat.le_of_ble_eq_true rfl) p2 (fun v2 h2 p3 x2 => ?_)
      obtain ⟨rfl, hI2⟩ := p3
      refine Rp.icmp_eq (tgt := 1276) dL_law_767 (by decide) (fun _ => ?_) (fun c => absurd rfl c)
      exact nx h2 hI2
    | 20, _ =>
      refine Rp.tableIn (tgt := 772) (off := 739) dL_law_33 (by decide) (by decide) (by decide) (by decide) ?_
      refine Rp.aload_n dL_law_772 rfl rfl ?_
      refine Rp.callV0 M_X11_pass (ci := 11) dL_law_773 mo_X11_pass lk_L_98 (by decide) rfl rfl i1 (Nat.le_of_ble_eq_true rfl) (Nat.le_of_ble_eq_true rfl) (P_pass n h hI) (fun v1 h1 p1 x1 => ?_)
      obtain ⟨v, rfl, p2⟩ := p1
      have j2 := sh_pre x1.2 i2
      have j3 : gS h1 = (L, xs) := x1.1.trans i3
      refine Rp.aload_n dL_law_776 rfl rfl ?_
      refine Rp.callV0 M_X12_pass (ci := 12) dL_law_777 mo_X12_pass lk_L_101 (by decide) rfl rfl j2 (Nat.le_of_ble_eq_true rfl) (Nat.le_of_ble_eq_true rfl) p2 (fun v2 h2 p3 x2 => ?_)
      obtain ⟨rfl, hI2⟩ := p3
      refine Rp.icmp_eq (tgt := 1276) dL_law_780 (by decide) (fun _ => ?_) (fun c => absurd rfl c)
      exact nx h2 hI2
    | 21, _ =>
      refine Rp.tableIn (tgt := 785) (off := 752) dL_law_33 (by decide) (by decide) (by decide) (by decide) ?_
      refine Rp.aload_n dL_law_785 rfl rfl ?_
      refine Rp.callV0 M_X11_undo (ci := 11) dL_law_786 mo_X11_undo lk_L_102 (by decide) rfl rfl i1 (Nat.le_of_ble_eq_true rfl) (Nat.le_of_ble_eq_true rfl) (P_undo n h hI) (fun v1 h1 p1 x1 => ?_)
      obtain ⟨v, rfl, p2⟩ := p1
      have j2 := sh_pre x1.2 i2
      have j3 : gS h1 = (L, xs) := x1.1.trans i3
      refine Rp.aload_n dL_law_789 rfl rfl ?_
      refine Rp.callV0 M_X12_undo (ci := 12) dL_law_790 mo_X12_undo lk_L_105 (by decide) rfl rfl j2 (Nat.le_of_ble_eq_true rfl) (Nat.le_of_ble_eq_true rfl) p2 (fun v2 h2 p3 x2 => ?_)
      obtain ⟨rfl, hI2⟩ := p3
      refine Rp.icmp_eq (tgt := 1276) dL_law_793 (by decide) (fun _ => ?_) (fun c => absurd rfl c)
      exact nx h2 hI2
    | 22, _ =>
      refine Rp.tableIn (tgt := 798) (off := 765) dL_law_33 (by decide) (by decide) (by decide) (by decide) ?_
      refine Rp.aload_n dL_law_798 rfl rfl ?_
      refine Rp.aload_n dL_law_799 rfl rfl ?_
      refine Rp.iload_n dL_law_800 rfl ?_
      refine Rp.iconst (nI 1) dL_law_801 (by decide) ?_
      refine Rp.iaddN dL_law_802 ?_
      refine Rp.sloadN dL_law_803 i3 (by omega) ?_
      refine Rp.aload_n dL_law_804 rfl rfl ?_
      refine Rp.iload_n dL_law_805 rfl ?_
      refine Rp.iconst (nI 2) dL_law_806 (by decide) ?_
      refine Rp.iaddN dL_law_807 ?_
      refine Rp.sloadN dL_law_808 i3 (by omega) ?_
      refine Rp.callV2 M_X11_day (ci := 11) dL_law_809 mo_X11_day lk_L_106 (by decide) rfl rfl i1 (Nat.le_of_ble_eq_true rfl) (Nat.le_of_ble_eq_true rfl) (P_day (xs (6 * n + 1)) (xs (6 * n + 2)) n h hI) (fun v1 h1 p1 x1 => ?_)
      obtain ⟨v, rfl, p2⟩ := p1
      have j2 := sh_pre x1.2 i2
      have j3 : gS h1 = (L, xs) := x1.1.trans i3
      refine Rp.aload_n dL_law_812 rfl rfl ?_
      refine Rp.aload_n dL_law_813 rfl rfl ?_
      refine Rp.iload_n dL_law_814 rfl ?_
      refine Rp.iconst (nI 1) dL_law_815 (by decide) ?_
      refine Rp.iaddN dL_law_816 ?_
      refine Rp.sloadN dL_law_817 j3 (by omega) ?_
      refine Rp.aload_n dL_law_818 rfl rfl ?_
      refine Rp.iload_n dL_law_819 rfl ?_
      refine Rp.iconst (nI 2) dL_law_820 (by decide) ?_
      refine Rp.iaddN dL_law_821 ?_
      refine Rp.sloadN dL_law_822 j3 (by omega) ?_
      refine Rp.callV2 M_X12_day (ci := 12) dL_law_823 mo_X12_day lk_L_109 (by decide) rfl rfl j2 (Nat.le_of_ble_eq_true rfl) (Nat.le_of_ble_eq_true rfl) p2 (fun v2 h2 p3 x2 => ?_)
      obtain ⟨rfl, hI2⟩ := p3
      refine Rp.icmp_eq (tgt := 1276) dL_law_826 (by decide) (fun _ => ?_) (fun c => absurd rfl c)
      exact nx h2 hI2
    | 23, _ =>
      refine Rp.tableIn (tgt := 831) (off := 798) dL_law_33 (by decide) (by decide) (by decide) (by decide) ?_
      refine Rp.aload_n dL_law_831 rfl rfl ?_
      refine Rp.aload_n dL_law_832 rfl rfl ?_
      refine Rp.iload_n dL_law_833 rfl ?_
      refine Rp.iconst (nI 1) dL_law_834 (by decide) ?_
      refine Rp.iaddN dL_law_835 ?_
      refine Rp.sloadN dL_law_836 i3 (by omega) ?_
      refine Rp.callV1 M_X11_waiting (ci := 11) dL_law_837 mo_X11_waiting lk_L_110 (by decide) rfl rfl i1 (Nat.le_of_ble_eq_true rfl) (Nat.le_of_ble_eq_true rfl) (P_waiting (xs (6 * n + 1)) n h hI) (fun v1 h1 p1 x1 => ?_)
      obtain ⟨v, rfl, p2⟩ := p1
      have j2 := sh_pre x1.2 i2
      have j3 : gS h1 = (L, xs) := x1.1.trans i3
      refine Rp.aload_n dL_law_840 rfl rfl ?_
      refine Rp.aload_n dL_law_841 rfl rfl ?_
      refine Rp.iload_n dL_law_842 rfl ?_
      refine Rp.iconst (nI 1) dL_law_843 (by decide) ?_
      refine Rp.iaddN dL_law_844 ?_
      refine Rp.sloadN dL_law_845 j3 (by omega) ?_
      refine Rp.callV1 M_X12_waiting (ci := 12) dL_law_846 mo_X12_waiting lk_L_113 (by decide) rfl rfl j2 (Nat.le_of_ble_eq_true rfl) (Nat.le_of_ble_eq_true rfl) p2 (fun v2 h2 p3 x2 => ?_)
      obtain ⟨rfl, hI2⟩ := p3
      refine Rp.icmp_eq (tgt := 1276) dL_law_849 (by decide) (fun _ => ?_) (fun c => absurd rfl c)
      exact nx h2 hI2
    | 24, _ =>
      refine Rp.tableIn (tgt := 854) (off := 821) dL_law_33 (by decide) (by decide) (by decide) (by decide) ?_
      refine Rp.aload_n dL_law_854 rfl rfl ?_
      refine Rp.aload_n dL_law_855 rfl rfl ?_
      refine Rp.iload_n dL_law_856 rfl ?_
      refine Rp.iconst (nI 1) dL_law_857 (by decide) ?_
      refine Rp.iaddN dL_law_858 ?_
      refine Rp.sloadN dL_law_859 i3 (by omega) ?_
      refine Rp.callV1 M_X11_about (ci := 11) dL_law_860 mo_X11_about lk_L_114 (by decide) rfl rfl i1 (Nat.le_of_ble_eq_true rfl) (Nat.le_of_ble_eq_true rfl) (P_about (xs (6 * n + 1)) n h hI) (fun v1 h1 p1 x1 => ?_)
      obtain ⟨v, rfl, p2⟩ := p1
      have j2 := sh_pre x1.2 i2
      have j3 : gS h1 = (L, xs) := x1.1.trans i3
      refine Rp.aload_n dL_law_863 rfl rfl ?_
      refine Rp.aload_n dL_law_864 rfl rfl ?_
      refine Rp.iload_n dL_law_865 rfl ?_
      refine Rp.iconst (nI 1) dL_law_866 (by decide) ?_
      refine Rp.iaddN dL_law_867 ?_
      refine Rp.sloadN dL_law_868 j3 (by omega) ?_
      refine Rp.callV1 M_X12_about (ci := 12) dL_law_869 mo_X12_about lk_L_117 (by decide) rfl rfl j2 (Nat.le_of_ble_eq_true rfl) (Nat.le_of_ble_eq_true rfl) p2 (fun v2 h2 p3 x2 => ?_)
      obtain ⟨rfl, hI2⟩ := p3
      refine Rp.icmp_eq (tgt := 1276) dL_law_872 (by decide) (fun _ => ?_) (fun c => absurd rfl c)
      exact nx h2 hI2
    | 25, _ =>
      refine Rp.tableIn (tgt := 877) (off := 844) dL_law_33 (by decide) (by decide) (by decide) (by decide) ?_
      refine Rp.aload_n dL_law_877 rfl rfl ?_
      refine Rp.aload_n dL_law_878 rfl rfl ?_
      refine Rp.iload_n dL_law_879 rfl ?_
      refine Rp.iconst (nI 1) dL_law_880 (by decide) ?_
      refine Rp.iaddN dL_law_881 ?_
      refine Rp.sloadN dL_law_882 i3 (by omega) ?_
      refine Rp.callV1 M_X11_trade (ci := 11) dL_law_883 mo_X11_trade lk_L_118 (by decide) rfl rfl i1 (Nat.le_of_ble_eq_true rfl) (Nat.le_of_ble_eq_true rfl) (P_trade (xs (6 * n + 1)) n h hI) (fun v1 h1 p1 x1 => ?_)
      obtain ⟨v, rfl, p2⟩ := p1
      have j2 := sh_pre x1.2 i2
      have j3 : gS h1 = (L, xs) := x1.1.trans i3
      refine Rp.aload_n dL_law_886 rfl rfl ?_
      refine Rp.aload_n dL_law_887 rfl rfl ?_
      refine Rp.iload_n dL_law_888 rfl ?_
      refine Rp.iconst (nI 1) dL_law_889 (by decide) ?_
      refine Rp.iaddN dL_law_890 ?_
      refine Rp.sloadN dL_law_891 j3 (by omega) ?_
      refine Rp.callV1 M_X12_trade (ci := 12) dL_law_892 mo_X12_trade lk_L_121 (by decide) rfl rfl j2 (Nat.le_of_ble_eq_true rfl) (Nat.le_of_ble_eq_true rfl) p2 (fun v2 h2 p3 x2 => ?_)
      obtain ⟨rfl, hI2⟩ := p3
      refine Rp.icmp_eq (tgt := 1276) dL_law_895 (by decide) (fun _ => ?_) (fun c => absurd rfl c)
      exact nx h2 hI2
    | 26, _ =>
      refine Rp.tableIn (tgt := 900) (off := 867) dL_law_33 (by decide) (by decide) (by decide) (by decide) ?_
      refine Rp.aload_n dL_law_900 rfl rfl ?_
      refine Rp.aload_n dL_law_901 rfl rfl ?_
      refine Rp.iload_n dL_law_902 rfl ?_
      refine Rp.iconst (nI 1) dL_law_903 (by decide) ?_
      refine Rp.iaddN dL_law_904 ?_
      refine Rp.sloadN dL_law_905 i3 (by omega) ?_
      refine Rp.callV1 M_X11_both (ci := 11) dL_law_906 mo_X11_both lk_L_122 (by decide) rfl rfl i1 (Nat.le_of_ble_eq_true rfl) (Nat.le_of_ble_eq_true rfl) (P_both (xs (6 * n + 1)) n h hI) (fun v1 h1 p1 x1 => ?_)
      obtain ⟨v, rfl, p2⟩ := p1
      have j2 := sh_pre x1.2 i2
      have j3 : gS h1 = (L, xs) := x1.1.trans i3
      refine Rp.aload_n dL_law_909 rfl rfl ?_
      refine Rp.aload_n dL_law_910 rfl rfl ?_
      refine Rp.iload_n dL_law_911 rfl ?_
      refine Rp.iconst (nI 1) dL_law_912 (by decide) ?_
      refine Rp.iaddN dL_law_913 ?_
      refine Rp.sloadN dL_law_914 j3 (by omega) ?_
      refine Rp.callV1 M_X12_both (ci := 12) dL_law_915 mo_X12_both lk_L_125 (by decide) rfl rfl j2 (Nat.le_of_ble_eq_true rfl) (Nat.le_of_ble_eq_true rfl) p2 (fun v2 h2 p3 x2 => ?_)
      obtain ⟨rfl, hI2⟩ := p3
      refine Rp.icmp_eq (tgt := 1276) dL_law_918 (by decide) (fun _ => ?_) (fun c => absurd rfl c)
      exact nx h2 hI2
    | 27, _ =>
      refine Rp.tableIn (tgt := 923) (off := 890) dL_law_33 (by decide) (by decide) (by decide) (by decide) ?_
      refine Rp.aload_n dL_law_923 rfl rfl ?_
      refine Rp.aload_n dL_law_924 rfl rfl ?_
      refine Rp.iload_n dL_law_925 rfl ?_
      refine Rp.iconst (nI 1) dL_law_926 (by decide) ?_
      refine Rp.iaddN dL_law_927 ?_
      refine Rp.sloadN dL_law_928 i3 (by omega) ?_
      refine Rp.callV1 M_X11_take (ci := 11) dL_law_929 mo_X11_take lk_L_126 (by decide) rfl rfl i1 (Nat.le_of_ble_eq_true rfl) (Nat.le_of_ble_eq_true rfl) (P_take (xs (6 * n + 1)) n h hI) (fun v1 h1 p1 x1 => ?_)
      obtain ⟨v, rfl, p2⟩ := p1
      have j2 := sh_pre x1.2 i2
      have j3 : gS h1 = (L, xs) := x1.1.trans i3
      refine Rp.aload_n dL_law_932 rfl rfl ?_
      refine Rp.aload_n dL_law_933 rfl rfl ?_
      refine Rp.iload_n dL_law_934 rfl ?_
      refine Rp.iconst (nI 1) dL_law_935 (by decide) ?_
      refine Rp.iaddN dL_law_936 ?_
      refine Rp.sloadN dL_law_937 j3 (by omega) ?_
      refine Rp.callV1 M_X12_take (ci := 12) dL_law_938 mo_X12_take lk_L_129 (by decide) rfl rfl j2 (Nat.le_of_ble_eq_true rfl) (Nat.le_of_ble_eq_true rfl) p2 (fun v2 h2 p3 x2 => ?_)
      obtain ⟨rfl, hI2⟩ := p3
      refine Rp.icmp_eq (tgt := 1276) dL_law_941 (by decide) (fun _ => ?_) (fun c => absurd rfl c)
      exact nx h2 hI2
    | 28, _ =>
      refine Rp.tableIn (tgt := 946) (off := 913) dL_law_33 (by decide) (by decide) (by decide) (by decide) ?_
      refine Rp.aload_n dL_law_946 rfl rfl ?_
      refine Rp.aload_n dL_law_947 rfl rfl ?_
      refine Rp.iload_n dL_law_948 rfl ?_
      refine Rp.iconst (nI 1) dL_law_949 (by decide) ?_
      refine Rp.iaddN dL_law_950 ?_
      refine Rp.sloadN dL_law_951 i3 (by omega) ?_
      refine Rp.aload_n dL_law_952 rfl rfl ?_
      refine Rp.iload_n dL_law_953 rfl ?_
      refine Rp.iconst (nI 2) dL_law_954 (by decide) ?_
      refine Rp.iaddN dL_law_955 ?_
      refine Rp.sloadN dL_law_956 i3 (by omega) ?_
      refine Rp.callV2 M_X11_desks (ci := 11) dL_law_957 mo_X11_desks lk_L_130 (by decide) rfl rfl i1 (Nat.le_of_ble_eq_true rfl) (Nat.le_of_ble_eq_true rfl) (P_desks (xs (6 * n + 1)) (xs (6 * n + 2)) n h hI) (fun v1 h1 p1 x1 => ?_)
      obtain ⟨v, rfl, p2⟩ := p1
      have j2 := sh_pre x1.2 i2
      have j3 : gS h1 = (L, xs) := x1.1.trans i3
      refine Rp.aload_n dL_law_960 rfl rfl ?_
      refine Rp.aload_n dL_law_961 rfl rfl ?_
      refine Rp.iload_n dL_law_962 rfl ?_
      refine Rp.iconst (nI 1) dL_law_963 (by decide) ?_
      refine Rp.iaddN dL_law_964 ?_
      refine Rp.sloadN dL_law_965 j3 (by omega) ?_
      refine Rp.aload_n dL_law_966 rfl rfl ?_
      refine Rp.iload_n dL_law_967 rfl ?_
      refine Rp.iconst (nI 2) dL_law_968 (by decide) ?_
      refine Rp.iaddN dL_law_969 ?_
      refine Rp.sloadN dL_law_970 j3 (by omega) ?_
      refine Rp.callV2 M_X12_desks (ci := 12) dL_law_971 mo_X12_desks lk_L_133 (by decide) rfl rfl j2 (Nat.le_of_ble_eq_true rfl) (Nat.le_of_ble_eq_true rfl) p2 (fun v2 h2 p3 x2 => ?_)
      obtain ⟨rfl, hI2⟩ := p3
      refine Rp.icmp_eq (tgt := 1276) dL_law_974 (by decide) (fun _ => ?_) (fun c => absurd rfl c)
      exact nx h2 hI2
    | 29, _ =>
      refine Rp.tableIn (tgt := 979) (off := 946) dL_law_33 (by decide) (by decide) (by decide) (by decide) ?_
      refine Rp.aload_n dL_law_979 rfl rfl ?_
      refine Rp.aload_n dL_law_980 rfl rfl ?_
      refine Rp.iload_n dL_law_981 rfl ?_
      refine Rp.iconst (nI 1) dL_law_982 (by decide) ?_
      refine Rp.iaddN dL_law_983 ?_
      refine Rp.sloadN dL_law_984 i3 (by omega) ?_
      refine Rp.aload_n dL_law_985 rfl rfl ?_
      refine Rp.iload_n dL_law_986 rfl ?_
      refine Rp.iconst (nI 2) dL_law_987 (by decide) ?_
      refine Rp.iaddN dL_law_988 ?_
      refine Rp.sloadN dL_law_989 i3 (by omega) ?_
      refine Rp.callV2 M_X11_told (ci := 11) dL_law_990 mo_X11_told lk_L_134 (by decide) rfl rfl i1 (Nat.le_of_ble_eq_true rfl) (Nat.le_of_ble_eq_true rfl) (P_told (xs (6 * n + 1)) (xs (6 * n + 2)) n h hI) (fun v1 h1 p1 x1 => ?_)
      obtain ⟨v, rfl, p2⟩ := p1
      have j2 := sh_pre x1.2 i2
      have j3 : gS h1 = (L, xs) := x1.1.trans i3
      refine Rp.aload_n dL_law_993 rfl rfl ?_
      refine Rp.aload_n dL_law_994 rfl rfl ?_
      refine Rp.iload_n dL_law_995 rfl ?_
      refine Rp.iconst (nI 1) dL_law_996 (by decide) ?_
      refine Rp.iaddN dL_law_997 ?_
      refine Rp.sloadN dL_law_998 j3 (by omega) ?_
      refine Rp.aload_n dL_law_999 rfl rfl ?_
      refine Rp.iload_n dL_law_1000 rfl ?_
      refine Rp.iconst (nI 2) dL_law_1001 (by decide) ?_
      refine Rp.iaddN dL_law_1002 ?_
      refine Rp.sloadN dL_law_1003 j3 (by omega) ?_
      refine Rp.callV2 M_X12_told (ci := 12) dL_law_1004 mo_X12_told lk_L_137 (by decide) rfl rfl j2 (Nat.le_of_ble_eq_true rfl) (Nat.le_of_ble_eq_true rfl) p2 (fun v2 h2 p3 x2 => ?_)
      obtain ⟨rfl, hI2⟩ := p3
      refine Rp.icmp_eq (tgt := 1276) dL_law_1007 (by decide) (fun _ => ?_) (fun c => absurd rfl c)
      exact nx h2 hI2
    | 30, _ =>
      refine Rp.tableIn (tgt := 1012) (off := 979) dL_law_33 (by decide) (by decide) (by decide) (by decide) ?_
      refine Rp.aload_n dL_law_1012 rfl rfl ?_
      refine Rp.callV0 M_X11_forget (ci := 11) dL_law_1013 mo_X11_forget lk_L_138 (by decide) rfl rfl i1 (Nat.le_of_ble_eq_true rfl) (Nat.le_of_ble_eq_true rfl) (P_forget n h hI) (fun v1 h1 p1 x1 => ?_)
      obtain ⟨v, rfl, p2⟩ := p1
      have j2 := sh_pre x1.2 i2
      have j3 : gS h1 = (L, xs) := x1.1.trans i3
      refine Rp.aload_n dL_law_1016 rfl rfl ?_
      refine Rp.callV0 M_X12_forget (ci := 12) dL_law_1017 mo_X12_forget lk_L_141 (by decide) rfl rfl j2 (Nat.le_of_ble_eq_true rfl) (Nat.le_of_ble_eq_true rfl) p2 (fun v2 h2 p3 x2 => ?_)
      obtain ⟨rfl, hI2⟩ := p3
      refine Rp.icmp_eq (tgt := 1276) dL_law_1020 (by decide) (fun _ => ?_) (fun c => absurd rfl c)
      exact nx h2 hI2
    | 31, _ =>
      refine Rp.tableIn (tgt := 1025) (off := 992) dL_law_33 (by decide) (by decide) (by decide) (by decide) ?_
      refine Rp.aload_n dL_law_1025 rfl rfl ?_
      refine Rp.aload_n dL_law_1026 rfl rfl ?_
      refine Rp.iload_n dL_law_1027 rfl ?_
      refine Rp.iconst (nI 1) dL_law_1028 (by decide) ?_
      refine Rp.iaddN dL_law_1029 ?_
      refine Rp.sloadN dL_law_1030 i3 (by omega) ?_
      refine Rp.aload_n dL_law_1031 rfl rfl ?_
      refine Rp.iload_n dL_law_1032 rfl ?_
      refine Rp.iconst (nI 2) dL_law_1033 (by decide) ?_
      refine Rp.iaddN dL_law_1034 ?_
      refine Rp.sloadN dL_law_1035 i3 (by omega) ?_
      refine Rp.callV2 M_X11_had (ci := 11) dL_law_1036 mo_X11_had lk_L_142 (by decide) rfl rfl i1 (Nat.le_of_ble_eq_true rfl) (Nat.le_of_ble_eq_true rfl) (P_had (xs (6 * n + 1)) (xs (6 * n + 2)) n h hI) (fun v1 h1 p1 x1 => ?_)
      obtain ⟨v, rfl, p2⟩ := p1
      have j2 := sh_pre x1.2 i2
      have j3 : gS h1 = (L, xs) := x1.1.trans i3
      refine Rp.aload_n dL_law_1039 rfl rfl ?_
      refine Rp.aload_n dL_law_1040 rfl rfl ?_
      refine Rp.iload_n dL_law_1041 rfl ?_
      refine Rp.iconst (nI 1) dL_law_1042 (by decide) ?_
      refine Rp.iaddN dL_law_1043 ?_
      refine Rp.sloadN dL_law_1044 j3 (by omega) ?_
      refine Rp.aload_n dL_law_1045 rfl rfl ?_
      refine Rp.iload_n dL_law_1046 rfl ?_
      refine Rp.iconst (nI 2) dL_law_1047 (by decide) ?_
      refine Rp.iaddN dL_law_1048 ?_
      refine Rp.sloadN dL_law_1049 j3 (by omega) ?_
      refine Rp.callV2 M_X12_had (ci := 12) dL_law_1050 mo_X12_had lk_L_145 (by decide) rfl rfl j2 (Nat.le_of_ble_eq_true rfl) (Nat.le_of_ble_eq_true rfl) p2 (fun v2 h2 p3 x2 => ?_)
      obtain ⟨rfl, hI2⟩ := p3
      refine Rp.icmp_eq (tgt := 1276) dL_law_1053 (by decide) (fun _ => ?_) (fun c => absurd rfl c)
      exact nx h2 hI2
    | 32, _ =>
      refine Rp.tableIn (tgt := 1058) (off := 1025) dL_law_33 (by decide) (by decide) (by decide) (by decide) ?_
      refine Rp.aload_n dL_law_1058 rfl rfl ?_
      refine Rp.aload_n dL_law_1059 rfl rfl ?_
      refine Rp.iload_n dL_law_1060 rfl ?_
      refine Rp.iconst (nI 1) dL_law_1061 (by decide) ?_
      refine Rp.iaddN dL_law_1062 ?_
      refine Rp.sloadN dL_law_1063 i3 (by omega) ?_
      refine Rp.callV1 M_X11_ask (ci := 11) dL_law_1064 mo_X11_ask lk_L_146 (by decide) rfl rfl i1 (Nat.le_of_ble_eq_true rfl) (Nat.le_of_ble_eq_true rfl) (P_ask (xs (6 * n + 1)) n h hI) (fun v1 h1 p1 x1 => ?_)
      obtain ⟨v, rfl, p2⟩ := p1
      have j2 := sh_pre x1.2 i2
      have j3 : gS h1 = (L, xs) := x1.1.trans i3
      refine Rp.aload_n dL_law_1067 rfl rfl ?_
      refine Rp.aload_n dL_law_1068 rfl rfl ?_
      refine Rp.iload_n dL_law_1069 rfl ?_
      refine Rp.iconst (nI 1) dL_law_1070 (by decide) ?_
      refine Rp.iaddN dL_law_1071 ?_
      refine Rp.sloadN dL_law_1072 j3 (by omega) ?_
      refine Rp.callV1 M_X12_ask (ci := 12) dL_law_1073 mo_X12_ask lk_L_149 (by decide) rfl rfl j2 (Nat.le_of_ble_eq_true rfl) (Nat.le_of_ble_eq_true rfl) p2 (fun v2 h2 p3 x2 => ?_)
      obtain ⟨rfl, hI2⟩ := p3
      refine Rp.icmp_eq (tgt := 1276) dL_law_1076 (by decide) (fun _ => ?_) (fun c => absurd rfl c)
      exact nx h2 hI2
    | 33, _ =>
      refine Rp.tableIn (tgt := 1081) (off := 1048) dL_law_33 (by decide) (by decide) (by decide) (by decide) ?_
      refine Rp.aload_n dL_law_1081 rfl rfl ?_
      refine Rp.aload_n dL_law_1082 rfl rfl ?_
      refine Rp.iload_n dL_law_1083 rfl ?_
      refine Rp.iconst (nI 1) dL_law_1084 (by decide) ?_
      refine Rp.iaddN dL_law_1085 ?_
      refine Rp.sloadN dL_law_1086 i3 (by omega) ?_
      refine Rp.aload_n dL_law_1087 rfl rfl ?_
      refine Rp.iload_n dL_law_1088 rfl ?_
      refine Rp.iconst (nI 2) dL_law_1089 (by decide) ?_
      refine Rp.iaddN dL_law_1090 ?_
      refine Rp.sloadN dL_law_1091 i3 (by omega) ?_
      refine Rp.callV2 M_X11_few (ci := 11) dL_law_1092 mo_X11_few lk_L_150 (by decide) rfl rfl i1 (Nat.le_of_ble_eq_true rfl) (Nat.le_of_ble_eq_true rfl) (P_few (xs (6 * n + 1)) (xs (6 * n + 2)) n h hI) (fun v1 h1 p1 x1 => ?_)
      obtain ⟨v, rfl, p2⟩ := p1
      have j2 := sh_pre x1.2 i2
      have j3 : gS h1 = (L, xs) := x1.1.trans i3
      refine Rp.aload_n dL_law_1095 rfl rfl ?_
      refine Rp.aload_n dL_law_1096 rfl rfl ?_
      refine Rp.iload_n dL_law_1097 rfl ?_
      refine Rp.iconst (nI 1) dL_law_1098 (by decide) ?_
      refine Rp.iaddN dL_law_1099 ?_
      refine Rp.sloadN dL_law_1100 j3 (by omega) ?_
      refine Rp.aload_n dL_law_1101 rfl rfl ?_
      refine Rp.iload_n dL_law_1102 rfl ?_
      refine Rp.iconst (nI 2) dL_law_1103 (by decide) ?_
      refine Rp.iaddN dL_law_1104 ?_
      refine Rp.sloadN dL_law_1105 j3 (by omega) ?_
      refine Rp.callV2 M_X12_few (ci := 12) dL_law_1106 mo_X12_few lk_L_154 (by decide) rfl rfl j2 (Nat.le_of_ble_eq_true rfl) (Nat.le_of_ble_eq_true rfl) p2 (fun v2 h2 p3 x2 => ?_)
      obtain ⟨rfl, hI2⟩ := p3
      refine Rp.lcmp dL_law_1109 ?_
      refine Rp.if_eq (tgt := 1276) dL_law_1110 (by decide) (fun _ => ?_) (fun c => absurd (by simp [lg_cmp]) c)
      exact nx h2 hI2
    | 34, _ =>
      refine Rp.tableIn (tgt := 1115) (off := 1082) dL_law_33 (by decide) (by decide) (by decide) (by decide) ?_
      refine Rp.aload_n dL_law_1115 rfl rfl ?_
      refine Rp.aload_n dL_law_1116 rfl rfl ?_
      refine Rp.iload_n dL_law_1117 rfl ?_
      refine Rp.iconst (nI 1) dL_law_1118 (by decide) ?_
      refine Rp.iaddN dL_law_1119 ?_
      refine Rp.sloadN dL_law_1120 i3 (by omega) ?_
      refine Rp.callV1 M_X11_compare (ci := 11) dL_law_1121 mo_X11_compare lk_L_155 (by decide) rfl rfl i1 (Nat.le_of_ble_eq_true rfl) (Nat.le_of_ble_eq_true rfl) (P_compare (xs (6 * n + 1)) n h hI) (fun v1 h1 p1 x1 => ?_)
      obtain ⟨v, rfl, p2⟩ := p1
      have j2 := sh_pre x1.2 i2
      have j3 : gS h1 = (L, xs) := x1.1.trans i3
      refine Rp.aload_n dL_law_1124 rfl rfl ?_
      refine Rp.aload_n dL_law_1125 rfl rfl ?_
      refine Rp.iload_n dL_law_1126 rfl ?_
      refine Rp.iconst (nI 1) dL_law_1127 (by decide) ?_
      refine Rp.iaddN dL_law_1128 ?_
      refine Rp.sloadN dL_law_1129 j3 (by omega) ?_
      refine Rp.callV1 M_X12_compare (ci := 12) dL_law_1130 mo_X12_compare lk_L_158 (by decide) rfl rfl j2 (Nat.le_of_ble_eq_true rfl) (Nat.le_of_ble_eq_true rfl) p2 (fun v2 h2 p3 x2 => ?_)
      obtain ⟨rfl, hI2⟩ := p3
      refine Rp.icmp_eq (tgt := 1276) dL_law_1133 (by decide) (fun _ => ?_) (fun c => absurd rfl c)
      exact nx h2 hI2
    | 35, _ =>
      refine Rp.tableIn (tgt := 1138) (off := 1105) dL_law_33 (by decide) (by decide) (by decide) (by decide) ?_
      refine Rp.aload_n dL_law_1138 rfl rfl ?_
      refine Rp.aload_n dL_law_1139 rfl rfl ?_
      refine Rp.iload_n dL_law_1140 rfl ?_
      refine Rp.iconst (nI 1) dL_law_1141 (by decide) ?_
      refine Rp.iaddN dL_law_1142 ?_
      refine Rp.sloadN dL_law_1143 i3 (by omega) ?_
      refine Rp.aload_n dL_law_1144 rfl rfl ?_
      refine Rp.iload_n dL_law_1145 rfl ?_
      refine Rp.iconst (nI 2) dL_law_1146 (by decide) ?_
      refine Rp.iaddN dL_law_1147 ?_
      refine Rp.sloadN dL_law_1148 i3 (by omega) ?_
      refine Rp.callV2 M_X11_days (ci := 11) dL_law_1149 mo_X11_days lk_L_159 (by decide) rfl rfl i1 (Nat.le_of_ble_eq_true rfl) (Nat.le_of_ble_eq_true rfl) (P_days (xs (6 * n + 1)) (xs (6 * n + 2)) n h hI) (fun v1 h1 p1 x1 => ?_)
      obtain ⟨v, rfl, p2⟩ := p1
      have j2 := sh_pre x1.2 i2
      have j3 : gS h1 = (L, xs) := x1.1.trans i3
      refine Rp.aload_n dL_law_1152 rfl rfl ?_
      refine Rp.aload_n dL_law_1153 rfl rfl ?_
      refine Rp.iload_n dL_law_1154 rfl ?_
      refine Rp.iconst (nI 1) dL_law_1155 (by decide) ?_
      refine Rp.iaddN dL_law_1156 ?_
      refine Rp.sloadN dL_law_1157 j3 (by omega) ?_
      refine Rp.aload_n dL_law_1158 rfl rfl ?_
      refine Rp.iload_n dL_law_1159 rfl ?_
      refine Rp.iconst (nI 2) dL_law_1160 (by decide) ?_
      refine Rp.iaddN dL_law_1161 ?_
      refine Rp.sloadN dL_law_1162 j3 (by omega) ?_
      refine Rp.callV2 M_X12_days (ci := 12) dL_law_1163 mo_X12_days lk_L_162 (by decide) rfl rfl j2 (Nat.le_of_ble_eq_true rfl) (Nat.le_of_ble_eq_true rfl) p2 (fun v2 h2 p3 x2 => ?_)
      obtain ⟨rfl, hI2⟩ := p3
      refine Rp.icmp_eq (tgt := 1276) dL_law_1166 (by decide) (fun _ => ?_) (fun c => absurd rfl c)
      exact nx h2 hI2
    | 36, _ =>
      refine Rp.tableIn (tgt := 1171) (off := 1138) dL_law_33 (by decide) (by decide) (by decide) (by decide) ?_
      refine Rp.aload_n dL_law_1171 rfl rfl ?_
      refine Rp.aload_n dL_law_1172 rfl rfl ?_
      refine Rp.iload_n dL_law_1173 rfl ?_
      refine Rp.iconst (nI 1) dL_law_1174 (by decide) ?_
      refine Rp.iaddN dL_law_1175 ?_
      refine Rp.sloadN dL_law_1176 i3 (by omega) ?_
      refine Rp.callV1 M_X11_drawn (ci := 11) dL_law_1177 mo_X11_drawn lk_L_163 (by decide) rfl rfl i1 (Nat.le_of_ble_eq_true rfl) (Nat.le_of_ble_eq_true rfl) (P_drawn (xs (6 * n + 1)) n h hI) (fun v1 h1 p1 x1 => ?_)
      obtain ⟨v, rfl, p2⟩ := p1
      have j2 := sh_pre x1.2 i2
      have j3 : gS h1 = (L, xs) := x1.1.trans i3
      refine Rp.aload_n dL_law_1180 rfl rfl ?_
      refine Rp.aload_n dL_law_1181 rfl rfl ?_
      refine Rp.iload_n dL_law_1182 rfl ?_
      refine Rp.iconst (nI 1) dL_law_1183 (by decide) ?_
      refine Rp.iaddN dL_law_1184 ?_
      refine Rp.sloadN dL_law_1185 j3 (by omega) ?_
      refine Rp.callV1 M_X12_drawn (ci := 12) dL_law_1186 mo_X12_drawn lk_L_166 (by decide) rfl rfl j2 (Nat.le_of_ble_eq_true rfl) (Nat.le_of_ble_eq_true rfl) p2 (fun v2 h2 p3 x2 => ?_)
      obtain ⟨rfl, hI2⟩ := p3
      refine Rp.icmp_eq (tgt := 1276) dL_law_1189 (by decide) (fun _ => ?_) (fun c => absurd rfl c)
      exact nx h2 hI2
    | 37, _ =>
      refine Rp.tableIn (tgt := 1194) (off := 1161) dL_law_33 (by decide) (by decide) (by decide) (by decide) ?_
      refine Rp.aload_n dL_law_1194 rfl rfl ?_
      refine Rp.aload_n dL_law_1195 rfl rfl ?_
      refine Rp.iload_n dL_law_1196 rfl ?_
      refine Rp.iconst (nI 1) dL_law_1197 (by decide) ?_
      refine Rp.iaddN dL_law_1198 ?_
      refine Rp.sloadN dL_law_1199 i3 (by omega) ?_
      refine Rp.callV1 M_X11_image (ci := 11) dL_law_1200 mo_X11_image lk_L_167 (by decide) rfl rfl i1 (Nat.le_of_ble_eq_true rfl) (Nat.le_of_ble_eq_true rfl) (P_image (xs (6 * n + 1)) n h hI) (fun v1 h1 p1 x1 => ?_)
      obtain ⟨v, rfl, p2⟩ := p1
      have j2 := sh_pre x1.2 i2
      have j3 : gS h1 = (L, xs) := x1.1.trans i3
      refine Rp.aload_n dL_law_1203 rfl rfl ?_
      refine Rp.aload_n dL_law_1204 rfl rfl ?_
      refine Rp.iload_n dL_law_1205 rfl ?_
      refine Rp.iconst (nI 1) dL_law_1206 (by decide) ?_
      refine Rp.iaddN dL_law_1207 ?_
      refine Rp.sloadN dL_law_1208 j3 (by omega) ?_
      refine Rp.callV1 M_X12_image (ci := 12) dL_law_1209 mo_X12_image lk_L_170 (by decide) rfl rfl j2 (Nat.le_of_ble_eq_true rfl) (Nat.le_of_ble_eq_true rfl) p2 (fun v2 h2 p3 x2 => ?_)
      obtain ⟨rfl, hI2⟩ := p3
      refine Rp.icmp_eq (tgt := 1276) dL_law_1212 (by decide) (fun _ => ?_) (fun c => absurd rfl c)
      exact nx h2 hI2
    | 38, _ =>
      refine Rp.tableIn (tgt := 1217) (off := 1184) dL_law_33 (by decide) (by decide) (by decide) (by decide) ?_
      refine Rp.aload_n dL_law_1217 rfl rfl ?_
      refine Rp.aload_n dL_law_1218 rfl rfl ?_
      refine Rp.iload_n dL_law_1219 rfl ?_
      refine Rp.iconst (nI 1) dL_law_1220 (by decide) ?_
      refine Rp.iaddN dL_law_1221 ?_
      refine Rp.sloadN dL_law_1222 i3 (by omega) ?_
      refine Rp.callV1 M_X11_back (ci := 11) dL_law_1223 mo_X11_back lk_L_171 (by decide) rfl rfl i1 (Nat.le_of_ble_eq_true rfl) (Nat.le_of_ble_eq_true rfl) (P_back (xs (6 * n + 1)) n h hI) (fun v1 h1 p1 x1 => ?_)
      obtain ⟨v, rfl, p2⟩ := p1
      have j2 := sh_pre x1.2 i2
      have j3 : gS h1 = (L, xs) := x1.1.trans i3
      refine Rp.aload_n dL_law_1226 rfl rfl ?_
      refine Rp.aload_n dL_law_1227 rfl rfl ?_
      refine Rp.iload_n dL_law_1228 rfl ?_
      refine Rp.iconst (nI 1) dL_law_1229 (by decide) ?_
      refine Rp.iaddN dL_law_1230 ?_
      refine Rp.sloadN dL_law_1231 j3 (by omega) ?_
      refine Rp.callV1 M_X12_back (ci := 12) dL_law_1232 mo_X12_back lk_L_174 (by decide) rfl rfl j2 (Nat.le_of_ble_eq_true rfl) (Nat.le_of_ble_eq_true rfl) p2 (fun v2 h2 p3 x2 => ?_)
      obtain ⟨rfl, hI2⟩ := p3
      refine Rp.icmp_eq (tgt := 1276) dL_law_1235 (by decide) (fun _ => ?_) (fun c => absurd rfl c)
      exact nx h2 hI2
    | 39, _ =>
      refine Rp.tableIn (tgt := 1240) (off := 1207) dL_law_33 (by decide) (by decide) (by decide) (by decide) ?_
      refine Rp.aload_n dL_law_1240 rfl rfl ?_
      refine Rp.aload_n dL_law_1241 rfl rfl ?_
      refine Rp.iload_n dL_law_1242 rfl ?_
      refine Rp.iconst (nI 1) dL_law_1243 (by decide) ?_
      refine Rp.iaddN dL_law_1244 ?_
      refine Rp.sloadN dL_law_1245 i3 (by omega) ?_
      refine Rp.callV1 M_X11_count (ci := 11) dL_law_1246 mo_X11_count lk_L_175 (by decide) rfl rfl i1 (Nat.le_of_ble_eq_true rfl) (Nat.le_of_ble_eq_true rfl) (P_count (xs (6 * n + 1)) n h hI) (fun v1 h1 p1 x1 => ?_)
      obtain ⟨v, rfl, p2⟩ := p1
      have j2 := sh_pre x1.2 i2
      have j3 : gS h1 = (L, xs) := x1.1.trans i3
      refine Rp.aload_n dL_law_1249 rfl rfl ?_
      refine Rp.aload_n dL_law_1250 rfl rfl ?_
      refine Rp.iload_n dL_law_1251 rfl ?_
      refine Rp.iconst (nI 1) dL_law_1252 (by decide) ?_
      refine Rp.iaddN dL_law_1253 ?_
      refine Rp.sloadN dL_law_1254 j3 (by omega) ?_
      refine Rp.callV1 M_X12_count (ci := 12) dL_law_1255 mo_X12_count lk_L_178 (by decide) rfl rfl j2 (Nat.le_of_ble_eq_true rfl) (Nat.le_of_ble_eq_true rfl) p2 (fun v2 h2 p3 x2 => ?_)
      obtain ⟨rfl, hI2⟩ := p3
      refine Rp.icmp_eq (tgt := 1276) dL_law_1258 (by decide) (fun _ => ?_) (fun c => absurd rfl c)
      exact nx h2 hI2
    | 40, _ =>
      refine Rp.tableIn (tgt := 1263) (off := 1230) dL_law_33 (by decide) (by decide) (by decide) (by decide) ?_
      refine Rp.aload_n dL_law_1263 rfl rfl ?_
      refine Rp.callV0 M_X11_status (ci := 11) dL_law_1264 mo_X11_status lk_L_179 (by decide) rfl rfl i1 (Nat.le_of_ble_eq_true rfl) (Nat.le_of_ble_eq_true rfl) (P_status n h hI) (fun v1 h1 p1 x1 => ?_)
      obtain ⟨v, rfl, p2⟩ := p1
      have j2 := sh_pre x1.2 i2
      have j3 : gS h1 = (L, xs) := x1.1.trans i3
      refine Rp.aload_n dL_law_1267 rfl rfl ?_
      refine Rp.callV0 M_X12_status (ci := 12) dL_law_1268 mo_X12_status lk_L_182 (by decide) rfl rfl j2 (Nat.le_of_ble_eq_true rfl) (Nat.le_of_ble_eq_true rfl) p2 (fun v2 h2 p3 x2 => ?_)
      obtain ⟨rfl, hI2⟩ := p3
      refine Rp.icmp_eq (tgt := 1276) dL_law_1271 (by decide) (fun _ => ?_) (fun c => absurd rfl c)
      exact nx h2 hI2
    | o + 41, ho =>
      refine Rp.tableOut (tgt := 1276) dL_law_33 (Or.inr (by rw [nI_toInt (by omega)]; omega)) (by decide) ?_
      exact nx h i5
