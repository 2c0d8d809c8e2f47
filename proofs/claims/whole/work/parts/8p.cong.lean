section Cb
variable {K K' : Nat → Int32}
theorem wJ_cb (e : ∀ j, j < 109 → K j = K' j) {p : Nat} (hp : p < 6) {t x : Option Nat} (ht : ∀ a, t = some a → a < 8) (hx : ∀ a, x = some a → a < 3) : wJ K p t x = wJ K' p t x := by
  funext j
  match j with
  | 0 => rfl
  | 1 => exact e _ (by omega)
  | 2 => exact e _ (by omega)
  | 3 => rfl
  | 4 => cases t with
    | none => rfl
    | some t => exact e _ (by have := ht t rfl; omega)
  | 5 => cases t with
    | none => rfl
    | some t => exact e _ (by have := ht t rfl; omega)
  | 6 => cases x with
    | none => rfl
    | some x => exact e _ (by have := hx x rfl; omega)
  | 7 => exact e _ (by omega)
  | 8 => exact e _ (by omega)
  | j + 9 => rfl
theorem ask_cb (e : ∀ j, j < 109 → K j = K' j) (fl : Option (List CLE)) : (∀ p t x, p < 6 → t < 8 → x < 3 → oTk K fl p t x = oTk K' fl p t x) ∧ (∀ p t, p < 6 → t < 8 → oFt K fl p t = oFt K' fl p t) ∧ (∀ p t, p < 6 → t < 8 → oBr K fl p t = oBr K' fl p t) ∧ (∀ p, p < 6 → oCs K fl p = oCs K' fl p) := by
  refine ⟨fun p t x hp ht hx => ?_, fun p t hp ht => ?_, fun p t hp ht => ?_, fun p hp => ?_⟩
  · unfold oTk spE; rw [wJ_cb e hp (sm8 ht) (sm3 hx), e (86 + x) (by omega)]
  · unfold oFt; rw [wJ_cb e hp (sm8 ht) sn, e (75 + t) (by omega), e (7 + p) (by omega)]
  · unfold oBr; rw [wJ_cb e hp (sm8 ht) sn]
  · unfold oCs; rw [wJ_cb e hp sn sn]
theorem dskF_cb (e : ∀ j, j < 109 → K j = K' j) (st : Nat → Bool) (f : Nat → Nat) (kd : Int32) : ∀ n, n ≤ 3 → dskF K st f kd n = dskF K' st f kd n
  | 0, _ => rfl
  | n + 1, hn => by rw [dskF, dskF, e _ (by omega), dskF_cb e st f kd n (by omega)]
theorem fT_cb (e : ∀ j, j < 109 → K j = K' j) (x : Nat) : ∀ n, n ≤ 8 → fT K x n = fT K' x n
  | 0, _ => rfl
  | n + 1, hn => by rw [fT, fT, e _ (by omega), fT_cb e x n (by omega)]
theorem fT_lt (x : Nat) : ∀ n t, fT K x n = some t → t < n
  | 0, t, h => nomatch h
  | n + 1, t, h => by
    rw [fT] at h
    by_cases c : K (67 + n) = nI x
    · rw [if_pos c] at h
      cases h
      omega
    · rw [if_neg c] at h
      have := fT_lt x n t h
      omega
theorem stp_cb (e : ∀ j, j < 109 → K j = K' j) (fl : Option (List CLE)) {nd : Nat} (hd : nd ≤ 3) (st : Nat → Bool) (s : DS) {p t : Nat} (hp : p < 6) (ht : t < 8) : stp K fl nd st s p t = stp K' fl nd st s p t := by
  have a := (ask_cb e fl).1
  unfold stp
  rw [e _ (by omega), dskF_cb e st _ _ nd hd]
  match hm : dskF K' st s.1 (K' (75 + t)) nd with
  | none => rfl
  | some x =>
    have := dskF_lt _ _ hm
    dsimp only
    rw [a p t x hp ht (by omega)]
theorem dayF_cb (e : ∀ j, j < 109 → K j = K' j) (fl : Option (List CLE)) {nd np nt : Nat} (hd : nd ≤ 3) (hp : np ≤ 6) (ht : nt ≤ 8) (st : Nat → Bool) (hs : Nat → Int32) : ∀ n, dayF K fl nd np nt st hs n = dayF K' fl nd np nt st hs n
  | 0 => rfl
  | n + 1 => by
    rw [dayF, dayF, fT_cb e n nt ht, dayF_cb e fl hd hp ht st hs n]
    match hm : fT K' n nt with
    | none => rfl
    | some t =>
      have h1 := fT_lt (K := K') n nt t hm
      dsimp only
      by_cases c : hOf hs (nI t) np = -1
      · rw [if_pos c, if_pos c]
      · obtain ⟨q, h2, h3, -⟩ := hOf_get np c
        rw [if_neg c, if_neg c, h3, ix_nI (by omega), stp_cb e fl hd st _ (by omega) (by omega)]
theorem wtA_cb (e : ∀ j, j < 109 → K j = K' j) (fl : Option (List CLE)) (s : DS) (hs : Nat → Int32) : ∀ n, n ≤ 6 → wtA K fl s hs n = wtA K' fl s hs n
  | 0, _ => rfl
  | n + 1, hn => by
    have a := (ask_cb e fl).2.2.2
    rw [wtA, wtA, wtA_cb e fl s hs n (by omega), show wtN K fl s n = wtN K' fl s n by unfold wtN; rw [a n (by omega)]]
def WB (W : Nat → Int32) : Prop := ∀ q, W q = -1 ∨ ∃ t, t < 8 ∧ W q = nI t
theorem fitN_cb (e : ∀ j, j < 109 → K j = K' j) (fl : Option (List CLE)) {W : Nat → Int32} (hW : WB W) : ∀ n, n ≤ 6 → fitN (mixK W K) fl n = fitN (mixK W K') fl n
  | 0, _ => rfl
  | n + 1, hn => by
    have e2 : ∀ j, j < 109 → mixK W K j = mixK W K' j := fun j hj => by
      unfold mixK
      by_cases c : j < 6
      · rw [if_pos c, if_pos c]
      · rw [if_neg c, if_neg c, e j hj]
    have a := (ask_cb e2 fl).2.1
    rw [fitN, fitN, fitN_cb e fl hW n (by omega), e2 n (by omega)]
    have en : mixK W K' n = W n := mixK_lo (by omega)
    rw [en]
    rcases hW n with z | ⟨t, ht, z⟩
    · rw [if_neg (fun y => y.1 z), if_neg (fun y => y.1 z)]
    · rw [z, ix_nI (by omega), a n t (by omega) ht]
theorem tdB_cb (e : ∀ j, j < 109 → K j = K' j) (s : DS) : ∀ n, n ≤ 6 → tdB K s n = tdB K' s n
  | 0, _ => rfl
  | n + 1, hn => by rw [tdB, tdB, tdB_cb e s n (by omega), e _ (by omega), e _ (by omega)]
theorem hlR_cb (e : ∀ j, j < 109 → K j = K' j) : ∀ m p, p + m ≤ 6 → hlR K m p = hlR K' m p
  | 0, _, _ => rfl
  | m + 1, p, h => by rw [hlR, hlR, hlR_cb e m (p + 1) (by omega), e p (by omega)]
theorem tkL_cb (e : ∀ j, j < 109 → K j = K' j) {np : Nat} (hp : np ≤ 6) : ∀ m t, tkL K np m t = tkL K' np m t
  | 0, _ => rfl
  | m + 1, t => by rw [tkL, tkL, tkL_cb e hp m (t + 1), hOf_eqv np (fun q hq => e q (by omega))]
theorem foldl_cb {α β : Type} {f g : β → α → β} : ∀ (l : List α) (s : β), (∀ s t, t ∈ l → f s t = g s t) → l.foldl f s = l.foldl g s
  | [], _, _ => rfl
  | t :: l, s, h => by
    rw [List.foldl_cons, List.foldl_cons, h s t (List.mem_cons_self), foldl_cb l _ (fun s u hu => h s u (List.mem_cons_of_mem _ hu))]
theorem twF_cb {σ : Type} {np : Nat} {ts : List Nat} {okp okq : Nat → Nat → Bool} {f g : (Nat → Int32) → σ → σ} (hts : ∀ t, t ∈ ts → t < 8) (hf : ∀ W s, WB W → f W s = g W s) : ∀ (ps : List Nat) (W : Nat → Int32) (s : σ), (∀ p t, p ∈ ps → t ∈ ts → okp p t = okq p t) → WB W → twF np ts okp f ps W s = twF np ts okq g ps W s
  | [], W, s, _, hW => hf W s hW
  | p :: ps, W, s, ho, hW => by
    rw [twF, twF]
    refine foldl_cb ts s (fun s t ht => ?_)
    rw [ho p t (List.mem_cons_self) ht]
    by_cases c : hOf W (nI t) np ≠ -1 ∨ okq p t = false
    · rw [if_pos c, if_pos c]
    · rw [if_neg c, if_neg c]
      refine twF_cb hts hf ps _ s (fun p t hp ht => ho p t (List.mem_cons_of_mem _ hp) ht) (fun q => ?_)
      unfold upK
      by_cases cq : q = p
      · rw [if_pos cq]
        exact Or.inr ⟨t, hts t ht, rfl⟩
      · rw [if_neg cq]
        exact hW q
theorem WB_0 : WB W0 := fun _ => Or.inl rfl
theorem abR_cb (e : ∀ j, j < 109 → K j = K' j) (fl : Option (List CLE)) {nd np nt : Nat} (hd : nd ≤ 3) (hp : np ≤ 6) (ht : nt ≤ 8) : abR K fl nd np nt = abR K' fl nd np nt := by
  unfold abR
  rw [hlR_cb e np 0 (by omega), tkL_cb e hp]
  refine twF_cb (fun t h => by have := tkL_mem nt 0 t h; omega) (fun W s hW => ?_) _ _ _ (fun p t h1 h2 => ?_) WB_0
  · have a : lfF K fl np W = lfF K' fl np W := fitN_cb e fl hW np hp
    have b : lfA K fl nd np nt W = lfA K' fl nd np nt W := by
      unfold lfA
      rw [dayF_cb e fl hd hp ht, wtA_cb e fl _ _ np hp]
    unfold abS
    rw [a, b]
  · have q1 := hlR_mem np 0 p h1
    have q2 := tkL_mem nt 0 t h2
    unfold okC9
    rw [(ask_cb e fl).2.2.1 p t (by omega) (by omega)]
theorem hdR_cb (e : ∀ j, j < 109 → K j = K' j) (fl : Option (List CLE)) {nd np nt no : Nat} (hd : nd ≤ 3) (hp : np ≤ 6) (ht : nt ≤ 8) (hn : no ≤ 6) : hdR K fl nd np nt no = hdR K' fl nd np nt no := by
  unfold hdR
  rw [hlR_cb e np 0 (by omega), tkL_cb e hp]
  refine twF_cb (fun t h => by have := tkL_mem nt 0 t h; omega) (fun W s hW => ?_) _ _ _ (fun p t h1 h2 => rfl) WB_0
  unfold hdS tdW
  rw [dayF_cb e fl hd hp ht, tdB_cb e _ no hn]
end Cb
theorem CAB.lo {h : AH} {K K' : Nat → Int32} {np nt nd nl : Nat} {LSs : Nat → List CLE} (C : CAB h K np nt nd nl LSs) (e : ∀ j, j < 109 → K' j = K j) (hd : nd ≤ 3) (hp : np ≤ 6) (ht : nt ≤ 8) : CAB h K' np nt nd nl LSs := by
  obtain ⟨kn, e1, w⟩ := C
  refine ⟨kn, e1, fun q => ?_⟩
  rw [e 108 (by omega), abR_cb e _ hd hp ht]
  exact w q
theorem CWY.lo {h : AH} {K K' : Nat → Int32} {np nt nd nl no : Nat} {LSs : Nat → List CLE} (C : CWY h K np nt nd nl no LSs) (e : ∀ j, j < 109 → K' j = K j) (hd : nd ≤ 3) (hp : np ≤ 6) (ht : nt ≤ 8) (hn : no ≤ 6) : CWY h K' np nt nd nl no LSs := by
  obtain ⟨kn, e1, w⟩ := C
  refine ⟨kn, e1, fun q => ?_⟩
  rw [e 108 (by omega), hdR_cb e _ hd hp ht hn]
  obtain ⟨⟨t1, t2, t3⟩, w2⟩ := w q
  exact ⟨⟨t1, fun i hi => (t2 i hi).trans (e _ (by omega)).symm, fun i hi => (t3 i hi).trans (e _ (by omega)).symm⟩, w2⟩
theorem ANSW.mk' {h h2 : AH} (N : ANSW h) (a : gI h2 0 14 = gI h2 100 0) (b : gI h2 0 15 = gI h2 100 6) (c : gI h2 0 16 = gI h2 100 50) (d : ∀ j, gI h2 65 j = gI h 65 j) (e : ∀ j, gI h2 101 j = gI h 101 j) : ANSW h2 := by
  obtain ⟨-, -, -, n4, n5, n6, n7, n8⟩ := N
  exact ⟨a, b, c, by rw [d, e]; exact n4, by rw [d, e]; exact n5, by rw [d, e]; exact n6, by rw [d, e]; exact n7, by rw [d, e]; exact n8⟩
