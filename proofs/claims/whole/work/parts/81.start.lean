/-- the law from its entry, over an invariant that the constructors' heap meets -/
theorem law_entry {L : Nat} {xs : Nat → Int32} (hL : L ≤ 3072) {Inv : Nat → AH → Prop} {D : Nat} (hOK : LwOK L xs Inv) (hI0 : Inv 0 (HI L xs))
    (P_person : ∀ a1 a2 : Int32, Pr Inv (D + 3) M_X11_person M_X12_person [.int a1, .int a2])
    (P_of : ∀ a1 a2 : Int32, Pr Inv (D + 3) M_X11_of M_X12_of [.int a1, .int a2])
    (P_ticket : ∀ a1 a2 : Int32, Pr Inv (D + 3) M_X11_ticket M_X12_ticket [.int a1, .int a2])
    (P_at : ∀ a1 a2 : Int32, Pr Inv (D + 3) M_X11_at M_X12_at [.int a1, .int a2])
    (P_wish : ∀ a1 a2 a3 : Int32, Pr Inv (D + 3) M_X11_wish M_X12_wish [.int a1, .int a2, .int a3])
    (P_desk : ∀ a1 a2 : Int32, Pr Inv (D + 3) M_X11_desk M_X12_desk [.int a1, .int a2])
    (P_asks : ∀ a1 a2 a3 : Int32, Pr Inv (D + 3) M_X11_asks M_X12_asks [.int a1, .int a2, .int a3])
    (P_terms : ∀ a1 a2 : Int32, Pr Inv (D + 3) M_X11_terms M_X12_terms [.int a1, .int a2])
    (P_feed : ∀ a1 a2 a3 a4 a5 : Int32, Pr Inv (D + 3) M_X11_feed M_X12_feed [.int a1, .int a2, .int a3, .int a4, .int a5])
    (P_end : ∀ a1 : Int32, Pr Inv (D + 3) M_X11_end M_X12_end [.int a1])
    (P_row : Pr Inv (D + 3) M_X11_row M_X12_row [])
    (P_scraps : Pr Inv (D + 3) M_X11_scraps M_X12_scraps [])
    (P_law : Pr Inv (D + 3) M_X11_law M_X12_law [])
    (P_orders : Pr Inv (D + 3) M_X11_orders M_X12_orders [])
    (P_fault : Pr Inv (D + 3) M_X11_fault M_X12_fault [])
    (P_stopped : Pr Inv (D + 3) M_X11_stopped M_X12_stopped [])
    (P_force : ∀ a1 : Int32, Pr Inv (D + 3) M_X11_force M_X12_force [.int a1])
    (P_draw : ∀ a1 a2 : Int32, Pr Inv (D + 3) M_X11_draw M_X12_draw [.int a1, .int a2])
    (P_swap : ∀ a1 a2 : Int32, Pr Inv (D + 3) M_X11_swap M_X12_swap [.int a1, .int a2])
    (P_drop : ∀ a1 : Int32, Pr Inv (D + 3) M_X11_drop M_X12_drop [.int a1])
    (P_pass : Pr Inv (D + 3) M_X11_pass M_X12_pass [])
    (P_undo : Pr Inv (D + 3) M_X11_undo M_X12_undo [])
    (P_day : ∀ a1 a2 : Int32, Pr Inv (D + 3) M_X11_day M_X12_day [.int a1, .int a2])
    (P_waiting : ∀ a1 : Int32, Pr Inv (D + 3) M_X11_waiting M_X12_waiting [.int a1])
    (P_about : ∀ a1 : Int32, Pr Inv (D + 3) M_X11_about M_X12_about [.int a1])
    (P_trade : ∀ a1 : Int32, Pr Inv (D + 3) M_X11_trade M_X12_trade [.int a1])
    (P_both : ∀ a1 : Int32, Pr Inv (D + 3) M_X11_both M_X12_both [.int a1])
    (P_take : ∀ a1 : Int32, Pr Inv (D + 3) M_X11_take M_X12_take [.int a1])
    (P_desks : ∀ a1 a2 : Int32, Pr Inv (D + 3) M_X11_desks M_X12_desks [.int a1, .int a2])
    (P_told : ∀ a1 a2 : Int32, Pr Inv (D + 3) M_X11_told M_X12_told [.int a1, .int a2])
    (P_forget : Pr Inv (D + 3) M_X11_forget M_X12_forget [])
    (P_had : ∀ a1 a2 : Int32, Pr Inv (D + 3) M_X11_had M_X12_had [.int a1, .int a2])
    (P_ask : ∀ a1 : Int32, Pr Inv (D + 3) M_X11_ask M_X12_ask [.int a1])
    (P_few : ∀ a1 a2 : Int32, PrL Inv (D + 3) M_X11_few M_X12_few [.int a1, .int a2])
    (P_compare : ∀ a1 : Int32, Pr Inv (D + 3) M_X11_compare M_X12_compare [.int a1])
    (P_days : ∀ a1 a2 : Int32, Pr Inv (D + 3) M_X11_days M_X12_days [.int a1, .int a2])
    (P_drawn : ∀ a1 : Int32, Pr Inv (D + 3) M_X11_drawn M_X12_drawn [.int a1])
    (P_image : ∀ a1 : Int32, Pr Inv (D + 3) M_X11_image M_X12_image [.int a1])
    (P_back : ∀ a1 : Int32, Pr Inv (D + 3) M_X11_back M_X12_back [.int a1])
    (P_count : ∀ a1 : Int32, Pr Inv (D + 3) M_X11_count M_X12_count [.int a1])
    (P_status : Pr Inv (D + 3) M_X11_status M_X12_status []) :
    Rp (D + 4) M_L_law 0 [some (.float 0), none, none, none] [] (h0L L xs) (fun r h' => r = some (.int (nI 1)) ∧ aN h' ≤ 600000 ∧ aZ h' ≤ 7302250) := by
  have n0 : aN (h0L L xs) = 0 := rfl
  refine Rp.newA 0 n0 dL_law_0 cl_11 lc_L_7 df_11 ?_
  refine Rp.dup dL_law_3 rfl ?_
  have n1 : aN (aNew (h0L L xs) 11 (clN 11)) = 1 := by rw [aN_new, n0]
  refine Rp.callI' [] dL_law_4 mo_X11_init rfl rfl lk_L_9 rfl (Nat.le_of_ble_eq_true rfl) (Nat.le_of_ble_eq_true rfl) (c_X11_init D _ 0 1 (sh_new n0) n1) (fun v1 hq p1 x1 => ?_)
  obtain ⟨rfl, rfl⟩ := p1
  refine Rp.ast1 dL_law_7 (nl2_some rfl) (by decide) ?_
  have n2 : aN (ini_X11_init (aNew (h0L L xs) 11 (clN 11)) 0 1) = 100 := by rw [aN_X11_init, n1]
  refine Rp.newA 100 n2 dL_law_8 cl_12 lc_L_10 df_12 ?_
  refine Rp.dup dL_law_11 rfl ?_
  have n3 : aN (aNew (ini_X11_init (aNew (h0L L xs) 11 (clN 11)) 0 1) 12 (clN 12)) = 101 := by rw [aN_new, n2]
  refine Rp.callI' [] dL_law_12 mo_X12_init rfl rfl lk_L_12 rfl (Nat.le_of_ble_eq_true rfl) (Nat.le_of_ble_eq_true rfl) (c_X12_init (D + 2) _ 100 101 (sh_new n2) n3) (fun v1 hq p1 x2 => ?_)
  obtain ⟨rfl, rfl⟩ := p1
  refine Rp.ast2 dL_law_15 (nl2_some rfl) (by decide) ?_
  refine Rp.iconst (nI 0) dL_law_16 (by decide) ?_
  refine Rp.ist3 dL_law_17 (nl2_some rfl) (by decide) ?_
  exact law_loop hL hOK P_person P_of P_ticket P_at P_wish P_desk P_asks P_terms P_feed P_end P_row P_scraps P_law P_orders P_fault P_stopped P_force P_draw P_swap P_drop P_pass P_undo P_day P_waiting P_about P_trade P_both P_take P_desks P_told P_forget P_had P_ask P_few P_compare P_days P_drawn P_image P_back P_count P_status 512 0 (HI L xs) (by omega) (by omega) hI0
