/-- the cells behind the two constructors: shapes -/
def SH0 : List (Nat × Nat) := [(11, 17), (2, 20), (13, 6), (13, 6), (13, 6), (13, 48), (13, 8), (13, 8), (13, 8), (13, 3), (13, 3), (13, 6), (13, 6), (13, 3), (17, 6), (4, 2), (13, 16), (2, 20), (13, 6), (13, 6), (13, 6), (13, 48), (13, 8), (13, 8), (13, 8), (13, 3), (13, 3), (13, 6), (13, 6), (13, 3), (17, 6), (4, 2), (13, 16), (18, 2), (15, 2), (7, 10), (14, 400), (9, 5), (13, 60), (13, 436), (3, 5), (5, 1), (13, 64), (13, 9), (13, 246), (0, 2), (1, 5), (13, 8), (13, 3), (13, 6), (13, 6), (13, 6), (6, 13), (13, 6), (13, 8), (13, 6), (13, 720), (13, 8), (10, 5), (15, 6), (15, 6), (13, 6), (13, 6), (8, 5), (13, 17), (13, 5), (13, 6), (16, 20), (2, 20), (13, 6), (13, 6), (13, 6), (13, 48), (13, 8), (13, 8), (13, 8), (13, 3), (13, 3), (13, 6), (13, 6), (13, 3), (17, 6), (4, 2), (13, 16), (2, 20), (13, 6), (13, 6), (13, 6), (13, 48), (13, 8), (13, 8), (13, 8), (13, 3), (13, 3), (13, 6), (13, 6), (13, 3), (17, 6), (4, 2), (13, 16), (12, 60), (13, 7), (13, 5716), (13, 11432), (15, 2), (13, 14), (14, 157), (14, 400), (13, 5), (13, 401), (13, 401), (13, 401), (13, 9), (13, 128), (13, 128), (13, 6), (13, 6), (13, 6), (13, 3), (13, 6), (13, 6), (13, 6), (13, 6), (13, 6), (13, 6), (13, 48), (16, 21), (16, 2), (13, 7)]
def RF0 : List (List (Option Nat)) := [[some 1, some 17, some 33, some 34, some 35, some 40, some 45, some 46, some 52, some 58, some 63, some 65, some 66, some 67], [none, some 2, some 3, some 4, some 5, none, some 6, some 7, some 8, none, some 9, some 10, none, some 11, some 12, some 13, none, some 14, none, some 15], [], [], [], [], [], [], [], [], [], [], [], [], [], [some 16], [], [none, some 18, some 19, some 20, some 21, none, some 22, some 23, some 24, none, some 25, some 26, none, some 27, some 28, some 29, none, some 30, none, some 31], [], [], [], [], [], [], [], [], [], [], [], [], [], [some 32], [], [some 68, some 84], [], [some 36, some 37], [], [some 38, some 39], [], [], [some 41, some 43, some 44], [some 42], [], [], [], [some 40], [some 47, some 48, some 49, some 50, some 51], [], [], [], [], [], [some 40, some 46, some 53, some 54, some 55, some 56, some 57], [], [], [], [], [], [some 59, some 60, some 61, some 62], [], [], [], [], [some 40, some 45, some 64], [], [], [], [], [none, some 69, some 70, some 71, some 72, none, some 73, some 74, some 75, none, some 76, some 77, none, some 78, some 79, some 80, none, some 81, none, some 82], [], [], [], [], [], [], [], [], [], [], [], [], [], [some 83], [], [none, some 85, some 86, some 87, some 88, none, some 89, some 90, some 91, none, some 92, some 93, none, some 94, some 95, some 96, none, some 97, none, some 98], [], [], [], [], [], [], [], [], [], [], [], [], [], [some 99], [], [none, some 101, some 102, some 103, some 104, some 105, none, some 106, none, none, none, some 107, some 108, none, none, some 109, some 110, some 111, none, none, none, none, none, none, none, none, some 112, none, none, none, some 113, some 114, none, some 115, some 116, some 117, some 118, some 119, some 120, none, none, none, some 121, some 122, some 123, none, none, some 124, some 125, some 126, none, none, none, none, none, none, some 127, some 128], [], [], [], [], [], [], [], [], [], [], [], [], [], [], [], [], [], [], [], [], [], [], [], [], [], [], [], []]
def rf0 (k j : Nat) : Option Nat := ((RF0.getD k []).getD j none)
def rfL : List (Nat × Nat) := [(0, 0), (0, 1), (0, 2), (0, 3), (0, 4), (0, 5), (0, 6), (0, 7), (0, 8), (0, 9), (0, 10), (0, 11), (0, 12), (0, 13), (1, 1), (1, 2), (1, 3), (1, 4), (1, 6), (1, 7), (1, 8), (1, 10), (1, 11), (1, 13), (1, 14), (1, 15), (1, 17), (1, 19), (15, 0), (17, 1), (17, 2), (17, 3), (17, 4), (17, 6), (17, 7), (17, 8), (17, 10), (17, 11), (17, 13), (17, 14), (17, 15), (17, 17), (17, 19), (31, 0), (33, 0), (33, 1), (35, 0), (35, 1), (37, 0), (37, 1), (40, 0), (40, 1), (40, 2), (41, 0), (45, 0), (46, 0), (46, 1), (46, 2), (46, 3), (46, 4), (52, 0), (52, 1), (52, 2), (52, 3), (52, 4), (52, 5), (52, 6), (58, 0), (58, 1), (58, 2), (58, 3), (63, 0), (63, 1), (63, 2), (68, 1), (68, 2), (68, 3), (68, 4), (68, 6), (68, 7), (68, 8), (68, 10), (68, 11), (68, 13), (68, 14), (68, 15), (68, 17), (68, 19), (82, 0), (84, 1), (84, 2), (84, 3), (84, 4), (84, 6), (84, 7), (84, 8), (84, 10), (84, 11), (84, 13), (84, 14), (84, 15), (84, 17), (84, 19), (98, 0), (100, 1), (100, 2), (100, 3), (100, 4), (100, 5), (100, 7), (100, 11), (100, 12), (100, 15), (100, 16), (100, 17), (100, 26), (100, 30), (100, 31), (100, 33), (100, 34), (100, 35), (100, 36), (100, 37), (100, 38), (100, 42), (100, 43), (100, 44), (100, 47), (100, 48), (100, 49), (100, 56), (100, 57)]
theorem rfL_of {k j a : Nat} (h : rf0 k j = some a) : (k, j) ∈ rfL := by
  have hb : ∀ k, k < 129 → ∀ j, j < 60 → (rf0 k j).isSome = true → rfL.contains (k, j) = true := by decide +kernel
  have hn : ∀ k, 129 ≤ k → RF0.getD k [] = [] := fun k hk => by rw [List.getD_eq_getElem?_getD, List.getElem?_eq_none (by show RF0.length ≤ k; exact hk)]; rfl
  have hl : ∀ l ∈ RF0, l.length ≤ 60 := by decide +kernel
  by_cases hk : k < 129
  · by_cases hj : j < 60
    · exact List.contains_iff_mem.mp (hb k hk j hj (by rw [h]; rfl))
    · exfalso
      unfold rf0 at h
      have hk2 : k < RF0.length := hk
      rw [List.getD_eq_getElem?_getD (l := RF0), List.getElem?_eq_getElem hk2, Option.getD_some, List.getD_eq_getElem?_getD, List.getElem?_eq_none (by have := hl _ (List.getElem_mem hk2); omega)] at h
      cases h
  · exfalso
    unfold rf0 at h
    rw [hn k (by omega)] at h
    cases h
def ShOK (h : AH) : Prop := ∀ (k : Nat) (q : Nat × Nat), SH0[k]? = some q → h.1[k]? = some q
def RfOK (h : AH) : Prop := ∀ (k j a : Nat), rf0 k j = some a → gR h k j = some a
abbrev aM : Nat := 100
abbrev fm_status : Nat := 0
abbrev am_refused : Nat := 101
abbrev fm_refused : Nat := 1
abbrev am_kept : Nat := 102
abbrev fm_kept : Nat := 2
abbrev am_images : Nat := 103
abbrev fm_images : Nat := 3
abbrev am_hasImage : Nat := 104
abbrev fm_hasImage : Nat := 4
abbrev am_aside : Nat := 105
abbrev fm_aside : Nat := 5
abbrev fm_scraps0 : Nat := 6
abbrev am_words : Nat := 106
abbrev fm_words : Nat := 7
abbrev fm_firstWord : Nat := 8
abbrev fm_lastWord : Nat := 9
abbrev fm_isOrders : Nat := 10
abbrev am_tape : Nat := 107
abbrev fm_tape : Nat := 11
abbrev am_five : Nat := 108
abbrev fm_five : Nat := 12
abbrev fm_taped : Nat := 13
abbrev fm_fault : Nat := 14
abbrev am_code : Nat := 109
abbrev fm_code : Nat := 15
abbrev am_value : Nat := 110
abbrev fm_value : Nat := 16
abbrev am_placed : Nat := 111
abbrev fm_placed : Nat := 17
abbrev fm_tokens : Nat := 18
abbrev fm_token : Nat := 19
abbrev fm_leaves : Nat := 20
abbrev fm_bad : Nat := 21
abbrev fm_go : Nat := 22
abbrev fm_goEnd : Nat := 23
abbrev fm_broken : Nat := 24
abbrev fm_inOrders : Nat := 25
abbrev am_asked : Nat := 112
abbrev fm_asked : Nat := 26
abbrev fm_orderDone : Nat := 27
abbrev fm_orderLatest : Nat := 28
abbrev fm_fitNow : Nat := 29
abbrev am_left0 : Nat := 113
abbrev fm_left0 : Nat := 30
abbrev am_leftAhead : Nat := 114
abbrev fm_leftAhead : Nat := 31
abbrev fm_undoMany : Nat := 32
abbrev am_begun : Nat := 115
abbrev fm_begun : Nat := 33
abbrev am_ended : Nat := 116
abbrev fm_ended : Nat := 34
abbrev am_deskOf : Nat := 117
abbrev fm_deskOf : Nat := 35
abbrev am_freeAt : Nat := 118
abbrev fm_freeAt : Nat := 36
abbrev am_holders : Nat := 119
abbrev fm_holders : Nat := 37
abbrev am_held : Nat := 120
abbrev fm_held : Nat := 38
abbrev fm_holderMany : Nat := 39
abbrev fm_bestFit : Nat := 40
abbrev fm_bestAll : Nat := 41
abbrev am_bestHas : Nat := 121
abbrev fm_bestHas : Nat := 42
abbrev am_traded : Nat := 122
abbrev fm_traded : Nat := 43
abbrev am_pointsAt : Nat := 123
abbrev fm_pointsAt : Nat := 44
abbrev fm_wayMany : Nat := 45
abbrev fm_wanted : Nat := 46
abbrev am_wayHas : Nat := 124
abbrev fm_wayHas : Nat := 47
abbrev am_given : Nat := 125
abbrev fm_given : Nat := 48
abbrev am_parts : Nat := 126
abbrev fm_parts : Nat := 49
abbrev fm_stopped0 : Nat := 50
abbrev fm_orderAt : Nat := 51
abbrev fm_timesOf : Nat := 52
abbrev fm_head : Nat := 53
abbrev fm_sumsAre : Nat := 54
abbrev fm_testIs : Nat := 55
abbrev am_sums : Nat := 127
abbrev fm_sums : Nat := 56
abbrev am_drawnMoved : Nat := 128
abbrev fm_drawnMoved : Nat := 57
abbrev fm_drawnMany : Nat := 58
abbrev fm_latest : Nat := 59
abbrev at_hall : Nat := 1
abbrev ft_hall : Nat := 0
abbrev at_paper : Nat := 17
abbrev ft_paper : Nat := 1
abbrev at_images : Nat := 33
abbrev ft_images : Nat := 2
abbrev at_kept : Nat := 34
abbrev ft_kept : Nat := 3
abbrev at_reader : Nat := 35
abbrev ft_reader : Nat := 4
abbrev at_judge : Nat := 40
abbrev ft_judge : Nat := 5
abbrev at_acts : Nat := 45
abbrev ft_acts : Nat := 6
abbrev at_day : Nat := 46
abbrev ft_day : Nat := 7
abbrev at_plan : Nat := 52
abbrev ft_plan : Nat := 8
abbrev at_trades : Nat := 58
abbrev ft_trades : Nat := 9
abbrev at_run : Nat := 63
abbrev ft_run : Nat := 10
abbrev at_refusals : Nat := 65
abbrev ft_refusals : Nat := 11
abbrev at_drawnTickets : Nat := 66
abbrev ft_drawnTickets : Nat := 12
abbrev at_chances : Nat := 67
abbrev ft_chances : Nat := 13
abbrev ft_latestStatus : Nat := 14
abbrev ft_latestScraps : Nat := 15
abbrev ft_stoppedAt : Nat := 16
abbrev facts_judge : Nat := 0
abbrev facts_seed : Nat := 1
abbrev fday_order : Nat := 0
abbrev fday_free : Nat := 1
abbrev fday_begun : Nat := 2
abbrev fday_done : Nat := 3
abbrev fday_desk : Nat := 4
abbrev fhall_people : Nat := 0
abbrev fhall_business : Nat := 1
abbrev fhall_patience : Nat := 2
abbrev fhall_holds : Nat := 3
abbrev fhall_wishes : Nat := 4
abbrev fhall_tickets : Nat := 5
abbrev fhall_number : Nat := 6
abbrev fhall_kind : Nat := 7
abbrev fhall_holder : Nat := 8
abbrev fhall_desks : Nat := 9
abbrev fhall_opens : Nat := 10
abbrev fhall_speed : Nat := 11
abbrev fhall_tolds : Nat := 12
abbrev fhall_toldPerson : Nat := 13
abbrev fhall_toldMinute : Nat := 14
abbrev fhall_terms : Nat := 15
abbrev fhall_laws : Nat := 16
abbrev fhall_texts : Nat := 17
abbrev fhall_force : Nat := 18
abbrev fhall_log : Nat := 19
abbrev fjudge_machine : Nat := 0
abbrev fjudge_words : Nat := 1
abbrev fjudge_known : Nat := 2
abbrev fjudge_hall : Nat := 3
abbrev fjudge_law : Nat := 4
abbrev flog_entries : Nat := 0
abbrev flog_size : Nat := 1
abbrev fmachine_stack : Nat := 0
abbrev fplan_judge : Nat := 0
abbrev fplan_day : Nat := 1
abbrev fplan_way : Nat := 2
abbrev fplan_wayHolder : Nat := 3
abbrev fplan_best : Nat := 4
abbrev fplan_rows : Nat := 5
abbrev fplan_tally : Nat := 6
abbrev fplan_aboutKnown : Nat := 7
abbrev fplan_waysKnown : Nat := 8
abbrev fplan_asTold : Nat := 9
abbrev fplan_mostFit : Nat := 10
abbrev fplan_leastWait : Nat := 11
abbrev fplan_ways : Nat := 12
abbrev freader_tape : Nat := 0
abbrev freader_text : Nat := 1
abbrev freader_length : Nat := 2
abbrev freader_fault : Nat := 3
abbrev freader_inOrders : Nat := 4
abbrev freader_at : Nat := 5
abbrev freader_start : Nat := 6
abbrev freader_sign : Nat := 7
abbrev freader_number : Nat := 8
abbrev freader_parts : Nat := 9
abbrev frun_judge : Nat := 0
abbrev frun_acts : Nat := 1
abbrev frun_words : Nat := 2
abbrev frun_done : Nat := 3
abbrev frun_latest : Nat := 4
abbrev ftext_heads : Nat := 0
abbrev ftext_code : Nat := 1
abbrev ftext_clauses : Nat := 2
abbrev ftext_size : Nat := 3
abbrev ftext_asksFit : Nat := 4
abbrev ftrade_left : Nat := 0
abbrev ftrade_leaves : Nat := 1
abbrev ftrade_points : Nat := 2
abbrev ftrade_gets : Nat := 3
abbrev ftrade_rings : Nat := 4
def vpbB (i : Int32) (n : Nat) : Bool := decide (0 ≤ i.toInt) && decide (i.toInt < n)
theorem vpb {i : Int32} {n : Nat} (h : vpbB i n = true) : vp_in i n := by
  unfold vpbB at h
  rw [Bool.and_eq_true, decide_eq_true_eq, decide_eq_true_eq] at h
  exact vp_in_iff.mpr h
def b2i (b : Bool) : Int32 := if b then nI 1 else nI 0
theorem b2i_01 (b : Bool) : b2i b = 0 ∨ b2i b = 1 := by cases b; exact Or.inl rfl; exact Or.inr rfl
theorem b2i_0 {b : Bool} : b2i b = 0 ↔ b = false := by cases b <;> decide
theorem b2i_n0 {b : Bool} : ¬ b2i b = 0 ↔ b = true := by cases b <;> decide
