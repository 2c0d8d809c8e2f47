theorem gt1 {w : Cond} (i : Nat) (h : tables_1_1[i]? = some w) (hg : goodWord w = true) : w ∈ gw := List.mem_filter.mpr ⟨List.mem_append_right _ (List.mem_append_left _ (List.mem_of_getElem? h)), hg⟩
theorem gt2 {w : Cond} (i : Nat) (h : tables_1_2[i]? = some w) (hg : goodWord w = true) : w ∈ gw := List.mem_filter.mpr ⟨List.mem_append_right _ (List.mem_append_right _ (List.mem_append_left _ (List.mem_of_getElem? h))), hg⟩
theorem gt3 {w : Cond} (i : Nat) (h : tables_1_3[i]? = some w) (hg : goodWord w = true) : w ∈ gw := List.mem_filter.mpr ⟨List.mem_append_right _ (List.mem_append_right _ (List.mem_append_right _ (List.mem_append_left _ (List.mem_of_getElem? h)))), hg⟩
theorem gt4 {w : Cond} (i : Nat) (h : tables_1_4[i]? = some w) (hg : goodWord w = true) : w ∈ gw := List.mem_filter.mpr ⟨List.mem_append_right _ (List.mem_append_right _ (List.mem_append_right _ (List.mem_append_right _ (List.mem_append_left _ (List.mem_of_getElem? h))))), hg⟩
theorem gt5 {w : Cond} (i : Nat) (h : tables_1_5[i]? = some w) (hg : goodWord w = true) : w ∈ gw := List.mem_filter.mpr ⟨List.mem_append_right _ (List.mem_append_right _ (List.mem_append_right _ (List.mem_append_right _ (List.mem_append_right _ (List.mem_append_left _ (List.mem_of_getElem? h)))))), hg⟩
theorem gt6 {w : Cond} (i : Nat) (h : tables_1_6[i]? = some w) (hg : goodWord w = true) : w ∈ gw := List.mem_filter.mpr ⟨List.mem_append_right _ (List.mem_append_right _ (List.mem_append_right _ (List.mem_append_right _ (List.mem_append_right _ (List.mem_append_right _ (List.mem_append_left _ (List.mem_of_getElem? h))))))), hg⟩
theorem gt7 {w : Cond} (i : Nat) (h : tables_1_7[i]? = some w) (hg : goodWord w = true) : w ∈ gw := List.mem_filter.mpr ⟨List.mem_append_right _ (List.mem_append_right _ (List.mem_append_right _ (List.mem_append_right _ (List.mem_append_right _ (List.mem_append_right _ (List.mem_append_right _ (List.mem_append_left _ (List.mem_of_getElem? h)))))))), hg⟩
theorem gt8 {w : Cond} (i : Nat) (h : tables_1_8[i]? = some w) (hg : goodWord w = true) : w ∈ gw := List.mem_filter.mpr ⟨List.mem_append_right _ (List.mem_append_right _ (List.mem_append_right _ (List.mem_append_right _ (List.mem_append_right _ (List.mem_append_right _ (List.mem_append_right _ (List.mem_append_right _ ((List.mem_of_getElem? h))))))))), hg⟩
theorem gsel {q : MethodName × Nat} (i : Nat) (h : lw_privs[i]? = some q) : Cond.selects q.1.cls q.1 q.1 ∈ gw := List.mem_filter.mpr ⟨List.mem_append_left _ (List.mem_map.mpr ⟨q, List.mem_of_getElem? h, rfl⟩), rfl⟩
set_option maxRecDepth 20000 in
theorem cl_0 : clOK 0 RX0 TX0 2 := ⟨rfl, by decide, rfl, (fun w hw => by
  obtain ⟨k, hk, rfl⟩ := List.mem_map.mp hw
  have hk := List.mem_range.mp hk
  match k, hk with
  | 0, _ => exact gt2 49 rfl rfl
  | 1, _ => exact gt2 51 rfl rfl
  | k + 2, hk => exact absurd hk (by omega)), tyX0_ok, nmX0⟩
theorem df_0 : ∀ j, j < 2 → defaultValue (tyC 0 j) = dv (tagOf (tyC 0 j)) := by decide +kernel
set_option maxRecDepth 20000 in
theorem cl_1 : clOK 1 RX1 TX1 5 := ⟨rfl, by decide, rfl, (fun w hw => by
  obtain ⟨k, hk, rfl⟩ := List.mem_map.mp hw
  have hk := List.mem_range.mp hk
  match k, hk with
  | 0, _ => exact gt2 69 rfl rfl
  | 1, _ => exact gt2 71 rfl rfl
  | 2, _ => exact gt2 73 rfl rfl
  | 3, _ => exact gt2 75 rfl rfl
  | 4, _ => exact gt2 77 rfl rfl
  | k + 5, hk => exact absurd hk (by omega)), tyX1_ok, nmX1⟩
theorem df_1 : ∀ j, j < 5 → defaultValue (tyC 1 j) = dv (tagOf (tyC 1 j)) := by decide +kernel
set_option maxRecDepth 20000 in
theorem cl_2 : clOK 2 RX2 TX2 20 := ⟨rfl, by decide, rfl, (fun w hw => by
  obtain ⟨k, hk, rfl⟩ := List.mem_map.mp hw
  have hk := List.mem_range.mp hk
  match k, hk with
  | 0, _ => exact gt1 131 rfl rfl
  | 1, _ => exact gt1 133 rfl rfl
  | 2, _ => exact gt1 135 rfl rfl
  | 3, _ => exact gt1 137 rfl rfl
  | 4, _ => exact gt1 139 rfl rfl
  | 5, _ => exact gt1 141 rfl rfl
  | 6, _ => exact gt1 143 rfl rfl
  | 7, _ => exact gt1 145 rfl rfl
  | 8, _ => exact gt1 147 rfl rfl
  | 9, _ => exact gt1 149 rfl rfl
  | 10, _ => exact gt1 151 rfl rfl
  | 11, _ => exact gt1 153 rfl rfl
  | 12, _ => exact gt1 155 rfl rfl
  | 13, _ => exact gt1 157 rfl rfl
  | 14, _ => exact gt1 159 rfl rfl
  | 15, _ => exact gt1 161 rfl rfl
  | 16, _ => exact gt1 163 rfl rfl
  | 17, _ => exact gt1 165 rfl rfl
  | 18, _ => exact gt1 167 rfl rfl
  | 19, _ => exact gt1 169 rfl rfl
  | k + 20, hk => exact absurd hk (by omega)), tyX2_ok, nmX2⟩
theorem df_2 : ∀ j, j < 20 → defaultValue (tyC 2 j) = dv (tagOf (tyC 2 j)) := by decide +kernel
set_option maxRecDepth 20000 in
theorem cl_3 : clOK 3 RX3 TX3 5 := ⟨rfl, by decide, rfl, (fun w hw => by
  obtain ⟨k, hk, rfl⟩ := List.mem_map.mp hw
  have hk := List.mem_range.mp hk
  match k, hk with
  | 0, _ => exact gt2 29 rfl rfl
  | 1, _ => exact gt2 31 rfl rfl
  | 2, _ => exact gt2 33 rfl rfl
  | 3, _ => exact gt2 35 rfl rfl
  | 4, _ => exact gt2 37 rfl rfl
  | k + 5, hk => exact absurd hk (by omega)), tyX3_ok, nmX3⟩
theorem df_3 : ∀ j, j < 5 → defaultValue (tyC 3 j) = dv (tagOf (tyC 3 j)) := by decide +kernel
set_option maxRecDepth 20000 in
theorem cl_4 : clOK 4 RX4 TX4 2 := ⟨rfl, by decide, rfl, (fun w hw => by
  obtain ⟨k, hk, rfl⟩ := List.mem_map.mp hw
  have hk := List.mem_range.mp hk
  match k, hk with
  | 0, _ => exact gt1 48 rfl rfl
  | 1, _ => exact gt1 50 rfl rfl
  | k + 2, hk => exact absurd hk (by omega)), tyX4_ok, nmX4⟩
theorem df_4 : ∀ j, j < 2 → defaultValue (tyC 4 j) = dv (tagOf (tyC 4 j)) := by decide +kernel
set_option maxRecDepth 20000 in
theorem cl_5 : clOK 5 RX5 TX5 1 := ⟨rfl, by decide, rfl, (fun w hw => by
  obtain ⟨k, hk, rfl⟩ := List.mem_map.mp hw
  have hk := List.mem_range.mp hk
  match k, hk with
  | 0, _ => exact gt2 17 rfl rfl
  | k + 1, hk => exact absurd hk (by omega)), tyX5_ok, nmX5⟩
theorem df_5 : ∀ j, j < 1 → defaultValue (tyC 5 j) = dv (tagOf (tyC 5 j)) := by decide +kernel
set_option maxRecDepth 20000 in
theorem cl_6 : clOK 6 RX6 TX6 13 := ⟨rfl, by decide, rfl, (fun w hw => by
  obtain ⟨k, hk, rfl⟩ := List.mem_map.mp hw
  have hk := List.mem_range.mp hk
  match k, hk with
  | 0, _ => exact gt2 103 rfl rfl
  | 1, _ => exact gt2 105 rfl rfl
  | 2, _ => exact gt2 107 rfl rfl
  | 3, _ => exact gt2 109 rfl rfl
  | 4, _ => exact gt2 111 rfl rfl
  | 5, _ => exact gt2 113 rfl rfl
  | 6, _ => exact gt2 115 rfl rfl
  | 7, _ => exact gt2 117 rfl rfl
  | 8, _ => exact gt2 119 rfl rfl
  | 9, _ => exact gt2 121 rfl rfl
  | 10, _ => exact gt2 123 rfl rfl
  | 11, _ => exact gt2 125 rfl rfl
  | 12, _ => exact gt2 127 rfl rfl
  | k + 13, hk => exact absurd hk (by omega)), tyX6_ok, nmX6⟩
theorem df_6 : ∀ j, j < 13 → defaultValue (tyC 6 j) = dv (tagOf (tyC 6 j)) := by decide +kernel
set_option maxRecDepth 20000 in
theorem cl_7 : clOK 7 RX7 TX7 10 := ⟨rfl, by decide, rfl, (fun w hw => by
  obtain ⟨k, hk, rfl⟩ := List.mem_map.mp hw
  have hk := List.mem_range.mp hk
  match k, hk with
  | 0, _ => exact gt1 223 rfl rfl
  | 1, _ => exact gt1 225 rfl rfl
  | 2, _ => exact gt1 227 rfl rfl
  | 3, _ => exact gt1 229 rfl rfl
  | 4, _ => exact gt1 231 rfl rfl
  | 5, _ => exact gt1 233 rfl rfl
  | 6, _ => exact gt1 235 rfl rfl
  | 7, _ => exact gt1 237 rfl rfl
  | 8, _ => exact gt1 239 rfl rfl
  | 9, _ => exact gt2 1 rfl rfl
  | k + 10, hk => exact absurd hk (by omega)), tyX7_ok, nmX7⟩
theorem df_7 : ∀ j, j < 10 → defaultValue (tyC 7 j) = dv (tagOf (tyC 7 j)) := by decide +kernel
set_option maxRecDepth 20000 in
theorem cl_8 : clOK 8 RX8 TX8 5 := ⟨rfl, by decide, rfl, (fun w hw => by
  obtain ⟨k, hk, rfl⟩ := List.mem_map.mp hw
  have hk := List.mem_range.mp hk
  match k, hk with
  | 0, _ => exact gt2 166 rfl rfl
  | 1, _ => exact gt2 168 rfl rfl
  | 2, _ => exact gt2 170 rfl rfl
  | 3, _ => exact gt2 172 rfl rfl
  | 4, _ => exact gt2 174 rfl rfl
  | k + 5, hk => exact absurd hk (by omega)), tyX8_ok, nmX8⟩
theorem df_8 : ∀ j, j < 5 → defaultValue (tyC 8 j) = dv (tagOf (tyC 8 j)) := by decide +kernel
set_option maxRecDepth 20000 in
theorem cl_9 : clOK 9 RX9 TX9 5 := ⟨rfl, by decide, rfl, (fun w hw => by
  obtain ⟨k, hk, rfl⟩ := List.mem_map.mp hw
  have hk := List.mem_range.mp hk
  match k, hk with
  | 0, _ => exact gt1 197 rfl rfl
  | 1, _ => exact gt1 199 rfl rfl
  | 2, _ => exact gt1 201 rfl rfl
  | 3, _ => exact gt1 203 rfl rfl
  | 4, _ => exact gt1 205 rfl rfl
  | k + 5, hk => exact absurd hk (by omega)), tyX9_ok, nmX9⟩
theorem df_9 : ∀ j, j < 5 → defaultValue (tyC 9 j) = dv (tagOf (tyC 9 j)) := by decide +kernel
set_option maxRecDepth 20000 in
theorem cl_10 : clOK 10 RX10 TX10 5 := ⟨rfl, by decide, rfl, (fun w hw => by
  obtain ⟨k, hk, rfl⟩ := List.mem_map.mp hw
  have hk := List.mem_range.mp hk
  match k, hk with
  | 0, _ => exact gt2 143 rfl rfl
  | 1, _ => exact gt2 145 rfl rfl
  | 2, _ => exact gt2 147 rfl rfl
  | 3, _ => exact gt2 149 rfl rfl
  | 4, _ => exact gt2 151 rfl rfl
  | k + 5, hk => exact absurd hk (by omega)), tyX10_ok, nmX10⟩
theorem df_10 : ∀ j, j < 5 → defaultValue (tyC 10 j) = dv (tagOf (tyC 10 j)) := by decide +kernel
set_option maxRecDepth 20000 in
theorem cl_11 : clOK 11 RX11 TX11 17 := ⟨rfl, by decide, rfl, (fun w hw => by
  obtain ⟨k, hk, rfl⟩ := List.mem_map.mp hw
  have hk := List.mem_range.mp hk
  match k, hk with
  | 0, _ => exact gt2 195 rfl rfl
  | 1, _ => exact gt2 197 rfl rfl
  | 2, _ => exact gt2 199 rfl rfl
  | 3, _ => exact gt2 201 rfl rfl
  | 4, _ => exact gt2 203 rfl rfl
  | 5, _ => exact gt2 205 rfl rfl
  | 6, _ => exact gt2 207 rfl rfl
  | 7, _ => exact gt2 209 rfl rfl
  | 8, _ => exact gt2 211 rfl rfl
  | 9, _ => exact gt2 213 rfl rfl
  | 10, _ => exact gt2 215 rfl rfl
  | 11, _ => exact gt2 217 rfl rfl
  | 12, _ => exact gt2 219 rfl rfl
  | 13, _ => exact gt2 221 rfl rfl
  | 14, _ => exact gt2 223 rfl rfl
  | 15, _ => exact gt2 225 rfl rfl
  | 16, _ => exact gt2 227 rfl rfl
  | k + 17, hk => exact absurd hk (by omega)), tyX11_ok, nmX11⟩
theorem df_11 : ∀ j, j < 17 → defaultValue (tyC 11 j) = dv (tagOf (tyC 11 j)) := by decide +kernel
set_option maxRecDepth 20000 in
theorem cl_12 : clOK 12 RX12 TX12 60 := ⟨rfl, by decide, rfl, (fun w hw => by
  obtain ⟨k, hk, rfl⟩ := List.mem_map.mp hw
  have hk := List.mem_range.mp hk
  match k, hk with
  | 0, _ => exact gt6 27 rfl rfl
  | 1, _ => exact gt6 29 rfl rfl
  | 2, _ => exact gt6 31 rfl rfl
  | 3, _ => exact gt6 33 rfl rfl
  | 4, _ => exact gt6 35 rfl rfl
  | 5, _ => exact gt6 37 rfl rfl
  | 6, _ => exact gt6 39 rfl rfl
  | 7, _ => exact gt6 41 rfl rfl
  | 8, _ => exact gt6 43 rfl rfl
  | 9, _ => exact gt6 45 rfl rfl
  | 10, _ => exact gt6 47 rfl rfl
  | 11, _ => exact gt6 49 rfl rfl
  | 12, _ => exact gt6 51 rfl rfl
  | 13, _ => exact gt6 53 rfl rfl
  | 14, _ => exact gt6 55 rfl rfl
  | 15, _ => exact gt6 57 rfl rfl
  | 16, _ => exact gt6 59 rfl rfl
  | 17, _ => exact gt6 61 rfl rfl
  | 18, _ => exact gt6 63 rfl rfl
  | 19, _ => exact gt6 65 rfl rfl
  | 20, _ => exact gt6 67 rfl rfl
  | 21, _ => exact gt6 69 rfl rfl
  | 22, _ => exact gt6 71 rfl rfl
  | 23, _ => exact gt6 73 rfl rfl
  | 24, _ => exact gt6 75 rfl rfl
  | 25, _ => exact gt6 77 rfl rfl
  | 26, _ => exact gt6 79 rfl rfl
  | 27, _ => exact gt6 81 rfl rfl
  | 28, _ => exact gt6 83 rfl rfl
  | 29, _ => exact gt6 85 rfl rfl
  | 30, _ => exact gt6 87 rfl rfl
  | 31, _ => exact gt6 89 rfl rfl
  | 32, _ => exact gt6 91 rfl rfl
  | 33, _ => exact gt6 93 rfl rfl
  | 34, _ => exact gt6 95 rfl rfl
  | 35, _ => exact gt6 97 rfl rfl
  | 36, _ => exact gt6 99 rfl rfl
  | 37, _ => exact gt6 101 rfl rfl
  | 38, _ => exact gt6 103 rfl rfl
  | 39, _ => exact gt6 105 rfl rfl
  | 40, _ => exact gt6 107 rfl rfl
  | 41, _ => exact gt6 109 rfl rfl
  | 42, _ => exact gt6 111 rfl rfl
  | 43, _ => exact gt6 113 rfl rfl
  | 44, _ => exact gt6 115 rfl rfl
  | 45, _ => exact gt6 117 rfl rfl
  | 46, _ => exact gt6 119 rfl rfl
  | 47, _ => exact gt6 121 rfl rfl
  | 48, _ => exact gt6 123 rfl rfl
  | 49, _ => exact gt6 125 rfl rfl
  | 50, _ => exact gt6 127 rfl rfl
  | 51, _ => exact gt6 129 rfl rfl
  | 52, _ => exact gt6 131 rfl rfl
  | 53, _ => exact gt6 133 rfl rfl
  | 54, _ => exact gt6 135 rfl rfl
  | 55, _ => exact gt6 137 rfl rfl
  | 56, _ => exact gt6 139 rfl rfl
  | 57, _ => exact gt6 141 rfl rfl
  | 58, _ => exact gt6 143 rfl rfl
  | 59, _ => exact gt6 145 rfl rfl
  | k + 60, hk => exact absurd hk (by omega)), tyX12_ok, nmX12⟩
theorem df_12 : ∀ j, j < 60 → defaultValue (tyC 12 j) = dv (tagOf (tyC 12 j)) := by decide +kernel
theorem fk_X4_9w : fOK RX4 9 4 0 true := ⟨RX4, TX4, 2, cl_4, by decide, gt1 44 rfl rfl, rfl, fun _ => rfl⟩
theorem fk_X4_9 : fOKr RX4 9 4 0 := ⟨RX4, TX4, 2, cl_4, by decide, gt1 44 rfl rfl⟩
theorem fk_X4_13w : fOK RX4 13 4 1 false := ⟨RX4, TX4, 2, cl_4, by decide, gt1 45 rfl rfl, rfl, fun h => by cases h⟩
theorem fk_X4_13 : fOKr RX4 13 4 1 := ⟨RX4, TX4, 2, cl_4, by decide, gt1 45 rfl rfl⟩
theorem fk_X2_108w : fOK RX2 108 4 1 false := ⟨RX4, TX4, 2, cl_4, by decide, gt1 46 rfl rfl, rfl, fun h => by cases h⟩
theorem fk_X2_108 : fOKr RX2 108 4 1 := ⟨RX4, TX4, 2, cl_4, by decide, gt1 46 rfl rfl⟩
theorem fk_X11_379w : fOK RX11 379 4 1 false := ⟨RX4, TX4, 2, cl_4, by decide, gt1 47 rfl rfl, rfl, fun h => by cases h⟩
theorem fk_X11_379 : fOKr RX11 379 4 1 := ⟨RX4, TX4, 2, cl_4, by decide, gt1 47 rfl rfl⟩
theorem fk_X2_71w : fOK RX2 71 2 0 false := ⟨RX2, TX2, 20, cl_2, by decide, gt1 57 rfl rfl, rfl, fun h => by cases h⟩
theorem fk_X2_71 : fOKr RX2 71 2 0 := ⟨RX2, TX2, 20, cl_2, by decide, gt1 57 rfl rfl⟩
theorem fk_X10_50w : fOK RX10 50 2 0 false := ⟨RX2, TX2, 20, cl_2, by decide, gt1 58 rfl rfl, rfl, fun h => by cases h⟩
theorem fk_X10_50 : fOKr RX10 50 2 0 := ⟨RX2, TX2, 20, cl_2, by decide, gt1 58 rfl rfl⟩
theorem fk_X0_71w : fOK RX0 71 2 0 false := ⟨RX2, TX2, 20, cl_2, by decide, gt1 59 rfl rfl, rfl, fun h => by cases h⟩
theorem fk_X0_71 : fOKr RX0 71 2 0 := ⟨RX2, TX2, 20, cl_2, by decide, gt1 59 rfl rfl⟩
theorem fk_X8_107w : fOK RX8 107 2 0 false := ⟨RX2, TX2, 20, cl_2, by decide, gt1 60 rfl rfl, rfl, fun h => by cases h⟩
theorem fk_X8_107 : fOKr RX8 107 2 0 := ⟨RX2, TX2, 20, cl_2, by decide, gt1 60 rfl rfl⟩
theorem fk_X1_69w : fOK RX1 69 2 0 false := ⟨RX2, TX2, 20, cl_2, by decide, gt1 61 rfl rfl, rfl, fun h => by cases h⟩
theorem fk_X1_69 : fOKr RX1 69 2 0 := ⟨RX2, TX2, 20, cl_2, by decide, gt1 61 rfl rfl⟩
theorem fk_X6_90w : fOK RX6 90 2 0 false := ⟨RX2, TX2, 20, cl_2, by decide, gt1 62 rfl rfl, rfl, fun h => by cases h⟩
theorem fk_X6_90 : fOKr RX6 90 2 0 := ⟨RX2, TX2, 20, cl_2, by decide, gt1 62 rfl rfl⟩
theorem fk_X11_280w : fOK RX11 280 2 0 false := ⟨RX2, TX2, 20, cl_2, by decide, gt1 63 rfl rfl, rfl, fun h => by cases h⟩
theorem fk_X11_280 : fOKr RX11 280 2 0 := ⟨RX2, TX2, 20, cl_2, by decide, gt1 63 rfl rfl⟩
theorem fk_X2_9w : fOK RX2 9 2 1 true := ⟨RX2, TX2, 20, cl_2, by decide, gt1 64 rfl rfl, rfl, fun _ => rfl⟩
theorem fk_X2_9 : fOKr RX2 9 2 1 := ⟨RX2, TX2, 20, cl_2, by decide, gt1 64 rfl rfl⟩
theorem fk_X11_129 : fOKr RX11 129 2 1 := ⟨RX2, TX2, 20, cl_2, by decide, gt1 65 rfl rfl⟩
theorem fk_X3_65 : fOKr RX3 65 2 1 := ⟨RX2, TX2, 20, cl_2, by decide, gt1 66 rfl rfl⟩
theorem fk_X2_15w : fOK RX2 15 2 2 true := ⟨RX2, TX2, 20, cl_2, by decide, gt1 67 rfl rfl, rfl, fun _ => rfl⟩
theorem fk_X2_15 : fOKr RX2 15 2 2 := ⟨RX2, TX2, 20, cl_2, by decide, gt1 67 rfl rfl⟩
theorem fk_X11_132 : fOKr RX11 132 2 2 := ⟨RX2, TX2, 20, cl_2, by decide, gt1 68 rfl rfl⟩
theorem fk_X8_104 : fOKr RX8 104 2 2 := ⟨RX2, TX2, 20, cl_2, by decide, gt1 69 rfl rfl⟩
theorem fk_X3_72 : fOKr RX3 72 2 2 := ⟨RX2, TX2, 20, cl_2, by decide, gt1 70 rfl rfl⟩
theorem fk_X2_18w : fOK RX2 18 2 3 true := ⟨RX2, TX2, 20, cl_2, by decide, gt1 71 rfl rfl, rfl, fun _ => rfl⟩
theorem fk_X2_18 : fOKr RX2 18 2 3 := ⟨RX2, TX2, 20, cl_2, by decide, gt1 71 rfl rfl⟩
theorem fk_X0_24 : fOKr RX0 24 2 3 := ⟨RX2, TX2, 20, cl_2, by decide, gt1 72 rfl rfl⟩
theorem fk_X10_47 : fOKr RX10 47 2 3 := ⟨RX2, TX2, 20, cl_2, by decide, gt1 73 rfl rfl⟩
theorem fk_X11_135 : fOKr RX11 135 2 3 := ⟨RX2, TX2, 20, cl_2, by decide, gt1 74 rfl rfl⟩
theorem fk_X8_101 : fOKr RX8 101 2 3 := ⟨RX2, TX2, 20, cl_2, by decide, gt1 75 rfl rfl⟩
theorem fk_X1_72 : fOKr RX1 72 2 3 := ⟨RX2, TX2, 20, cl_2, by decide, gt1 76 rfl rfl⟩
theorem fk_X6_99 : fOKr RX6 99 2 3 := ⟨RX2, TX2, 20, cl_2, by decide, gt1 77 rfl rfl⟩
theorem fk_X2_21w : fOK RX2 21 2 4 true := ⟨RX2, TX2, 20, cl_2, by decide, gt1 78 rfl rfl, rfl, fun _ => rfl⟩
theorem fk_X2_21 : fOKr RX2 21 2 4 := ⟨RX2, TX2, 20, cl_2, by decide, gt1 78 rfl rfl⟩
theorem fk_X10_75 : fOKr RX10 75 2 4 := ⟨RX2, TX2, 20, cl_2, by decide, gt1 79 rfl rfl⟩
theorem fk_X11_164 : fOKr RX11 164 2 4 := ⟨RX2, TX2, 20, cl_2, by decide, gt1 80 rfl rfl⟩
theorem fk_X1_27w : fOK RX1 27 2 5 false := ⟨RX2, TX2, 20, cl_2, by decide, gt1 81 rfl rfl, rfl, fun h => by cases h⟩
theorem fk_X1_27 : fOKr RX1 27 2 5 := ⟨RX2, TX2, 20, cl_2, by decide, gt1 81 rfl rfl⟩
theorem fk_X2_80w : fOK RX2 80 2 5 false := ⟨RX2, TX2, 20, cl_2, by decide, gt1 82 rfl rfl, rfl, fun h => by cases h⟩
theorem fk_X2_80 : fOKr RX2 80 2 5 := ⟨RX2, TX2, 20, cl_2, by decide, gt1 82 rfl rfl⟩
theorem fk_X10_65w : fOK RX10 65 2 5 false := ⟨RX2, TX2, 20, cl_2, by decide, gt1 83 rfl rfl, rfl, fun h => by cases h⟩
theorem fk_X10_65 : fOKr RX10 65 2 5 := ⟨RX2, TX2, 20, cl_2, by decide, gt1 83 rfl rfl⟩
theorem fk_X0_79w : fOK RX0 79 2 5 false := ⟨RX2, TX2, 20, cl_2, by decide, gt1 84 rfl rfl, rfl, fun h => by cases h⟩
theorem fk_X0_79 : fOKr RX0 79 2 5 := ⟨RX2, TX2, 20, cl_2, by decide, gt1 84 rfl rfl⟩
theorem fk_X6_102w : fOK RX6 102 2 5 false := ⟨RX2, TX2, 20, cl_2, by decide, gt1 85 rfl rfl, rfl, fun h => by cases h⟩
theorem fk_X6_102 : fOKr RX6 102 2 5 := ⟨RX2, TX2, 20, cl_2, by decide, gt1 85 rfl rfl⟩
theorem fk_X11_360w : fOK RX11 360 2 5 false := ⟨RX2, TX2, 20, cl_2, by decide, gt1 86 rfl rfl, rfl, fun h => by cases h⟩
theorem fk_X11_360 : fOKr RX11 360 2 5 := ⟨RX2, TX2, 20, cl_2, by decide, gt1 86 rfl rfl⟩
theorem fk_X2_24w : fOK RX2 24 2 6 true := ⟨RX2, TX2, 20, cl_2, by decide, gt1 87 rfl rfl, rfl, fun _ => rfl⟩
theorem fk_X2_24 : fOKr RX2 24 2 6 := ⟨RX2, TX2, 20, cl_2, by decide, gt1 87 rfl rfl⟩
theorem fk_X1_33 : fOKr RX1 33 2 6 := ⟨RX2, TX2, 20, cl_2, by decide, gt1 88 rfl rfl⟩
theorem fk_X0_51 : fOKr RX0 51 2 6 := ⟨RX2, TX2, 20, cl_2, by decide, gt1 89 rfl rfl⟩
theorem fk_X11_155 : fOKr RX11 155 2 6 := ⟨RX2, TX2, 20, cl_2, by decide, gt1 90 rfl rfl⟩
theorem fk_X3_75 : fOKr RX3 75 2 6 := ⟨RX2, TX2, 20, cl_2, by decide, gt1 91 rfl rfl⟩
theorem fk_X2_27w : fOK RX2 27 2 7 true := ⟨RX2, TX2, 20, cl_2, by decide, gt1 92 rfl rfl, rfl, fun _ => rfl⟩
theorem fk_X2_27 : fOKr RX2 27 2 7 := ⟨RX2, TX2, 20, cl_2, by decide, gt1 92 rfl rfl⟩
theorem fk_X1_48 : fOKr RX1 48 2 7 := ⟨RX2, TX2, 20, cl_2, by decide, gt1 93 rfl rfl⟩
theorem fk_X3_62 : fOKr RX3 62 2 7 := ⟨RX2, TX2, 20, cl_2, by decide, gt1 94 rfl rfl⟩
theorem fk_X11_158 : fOKr RX11 158 2 7 := ⟨RX2, TX2, 20, cl_2, by decide, gt1 95 rfl rfl⟩
theorem fk_X2_30w : fOK RX2 30 2 8 true := ⟨RX2, TX2, 20, cl_2, by decide, gt1 96 rfl rfl, rfl, fun _ => rfl⟩
theorem fk_X2_30 : fOKr RX2 30 2 8 := ⟨RX2, TX2, 20, cl_2, by decide, gt1 96 rfl rfl⟩
theorem fk_X0_28 : fOKr RX0 28 2 8 := ⟨RX2, TX2, 20, cl_2, by decide, gt1 97 rfl rfl⟩
theorem fk_X10_68 : fOKr RX10 68 2 8 := ⟨RX2, TX2, 20, cl_2, by decide, gt1 98 rfl rfl⟩
theorem fk_X11_161 : fOKr RX11 161 2 8 := ⟨RX2, TX2, 20, cl_2, by decide, gt1 99 rfl rfl⟩
theorem fk_X6_105 : fOKr RX6 105 2 8 := ⟨RX2, TX2, 20, cl_2, by decide, gt1 100 rfl rfl⟩
theorem fk_X2_83w : fOK RX2 83 2 9 false := ⟨RX2, TX2, 20, cl_2, by decide, gt1 101 rfl rfl, rfl, fun h => by cases h⟩
theorem fk_X2_83 : fOKr RX2 83 2 9 := ⟨RX2, TX2, 20, cl_2, by decide, gt1 101 rfl rfl⟩
theorem fk_X1_59w : fOK RX1 59 2 9 false := ⟨RX2, TX2, 20, cl_2, by decide, gt1 102 rfl rfl, rfl, fun h => by cases h⟩
theorem fk_X1_59 : fOKr RX1 59 2 9 := ⟨RX2, TX2, 20, cl_2, by decide, gt1 102 rfl rfl⟩
theorem fk_X11_177w : fOK RX11 177 2 9 false := ⟨RX2, TX2, 20, cl_2, by decide, gt1 103 rfl rfl, rfl, fun h => by cases h⟩
theorem fk_X11_177 : fOKr RX11 177 2 9 := ⟨RX2, TX2, 20, cl_2, by decide, gt1 103 rfl rfl⟩
theorem fk_X6_153w : fOK RX6 153 2 9 false := ⟨RX2, TX2, 20, cl_2, by decide, gt1 104 rfl rfl, rfl, fun h => by cases h⟩
theorem fk_X6_153 : fOKr RX6 153 2 9 := ⟨RX2, TX2, 20, cl_2, by decide, gt1 104 rfl rfl⟩
theorem fk_X2_33w : fOK RX2 33 2 10 true := ⟨RX2, TX2, 20, cl_2, by decide, gt1 105 rfl rfl, rfl, fun _ => rfl⟩
theorem fk_X2_33 : fOKr RX2 33 2 10 := ⟨RX2, TX2, 20, cl_2, by decide, gt1 105 rfl rfl⟩
theorem fk_X1_62 : fOKr RX1 62 2 10 := ⟨RX2, TX2, 20, cl_2, by decide, gt1 106 rfl rfl⟩
theorem fk_X2_36w : fOK RX2 36 2 11 true := ⟨RX2, TX2, 20, cl_2, by decide, gt1 107 rfl rfl, rfl, fun _ => rfl⟩
theorem fk_X2_36 : fOKr RX2 36 2 11 := ⟨RX2, TX2, 20, cl_2, by decide, gt1 107 rfl rfl⟩
theorem fk_X3_39 : fOKr RX3 39 2 11 := ⟨RX2, TX2, 20, cl_2, by decide, gt1 108 rfl rfl⟩
theorem fk_X2_86w : fOK RX2 86 2 12 false := ⟨RX2, TX2, 20, cl_2, by decide, gt1 109 rfl rfl, rfl, fun h => by cases h⟩
theorem fk_X2_86 : fOKr RX2 86 2 12 := ⟨RX2, TX2, 20, cl_2, by decide, gt1 109 rfl rfl⟩
theorem fk_X6_132w : fOK RX6 132 2 12 false := ⟨RX2, TX2, 20, cl_2, by decide, gt1 110 rfl rfl, rfl, fun h => by cases h⟩
theorem fk_X6_132 : fOKr RX6 132 2 12 := ⟨RX2, TX2, 20, cl_2, by decide, gt1 110 rfl rfl⟩
theorem fk_X11_322w : fOK RX11 322 2 12 false := ⟨RX2, TX2, 20, cl_2, by decide, gt1 111 rfl rfl, rfl, fun h => by cases h⟩
theorem fk_X11_322 : fOKr RX11 322 2 12 := ⟨RX2, TX2, 20, cl_2, by decide, gt1 111 rfl rfl⟩
theorem fk_X2_39w : fOK RX2 39 2 13 true := ⟨RX2, TX2, 20, cl_2, by decide, gt1 112 rfl rfl, rfl, fun _ => rfl⟩
theorem fk_X2_39 : fOKr RX2 39 2 13 := ⟨RX2, TX2, 20, cl_2, by decide, gt1 112 rfl rfl⟩
theorem fk_X6_138 : fOKr RX6 138 2 13 := ⟨RX2, TX2, 20, cl_2, by decide, gt1 113 rfl rfl⟩
theorem fk_X11_325 : fOKr RX11 325 2 13 := ⟨RX2, TX2, 20, cl_2, by decide, gt1 114 rfl rfl⟩
theorem fk_X2_42w : fOK RX2 42 2 14 true := ⟨RX2, TX2, 20, cl_2, by decide, gt1 115 rfl rfl, rfl, fun _ => rfl⟩
theorem fk_X2_42 : fOKr RX2 42 2 14 := ⟨RX2, TX2, 20, cl_2, by decide, gt1 115 rfl rfl⟩
theorem fk_X6_141 : fOKr RX6 141 2 14 := ⟨RX2, TX2, 20, cl_2, by decide, gt1 116 rfl rfl⟩
theorem fk_X11_328 : fOKr RX11 328 2 14 := ⟨RX2, TX2, 20, cl_2, by decide, gt1 117 rfl rfl⟩
theorem fk_X2_45w : fOK RX2 45 2 15 true := ⟨RX2, TX2, 20, cl_2, by decide, gt1 118 rfl rfl, rfl, fun _ => rfl⟩
theorem fk_X2_45 : fOKr RX2 45 2 15 := ⟨RX2, TX2, 20, cl_2, by decide, gt1 118 rfl rfl⟩
theorem fk_X0_60 : fOKr RX0 60 2 15 := ⟨RX2, TX2, 20, cl_2, by decide, gt1 119 rfl rfl⟩
theorem fk_X8_85 : fOKr RX8 85 2 15 := ⟨RX2, TX2, 20, cl_2, by decide, gt1 120 rfl rfl⟩
theorem fk_X3_78 : fOKr RX3 78 2 15 := ⟨RX2, TX2, 20, cl_2, by decide, gt1 121 rfl rfl⟩
theorem fk_X11_187 : fOKr RX11 187 2 15 := ⟨RX2, TX2, 20, cl_2, by decide, gt1 122 rfl rfl⟩
theorem fk_X2_89w : fOK RX2 89 2 16 false := ⟨RX2, TX2, 20, cl_2, by decide, gt1 123 rfl rfl, rfl, fun h => by cases h⟩
theorem fk_X2_89 : fOKr RX2 89 2 16 := ⟨RX2, TX2, 20, cl_2, by decide, gt1 123 rfl rfl⟩
theorem fk_X11_203w : fOK RX11 203 2 16 false := ⟨RX2, TX2, 20, cl_2, by decide, gt1 124 rfl rfl, rfl, fun h => by cases h⟩
theorem fk_X11_203 : fOKr RX11 203 2 16 := ⟨RX2, TX2, 20, cl_2, by decide, gt1 124 rfl rfl⟩
theorem fk_X2_50w : fOK RX2 50 2 17 true := ⟨RX2, TX2, 20, cl_2, by decide, gt1 125 rfl rfl, rfl, fun _ => rfl⟩
theorem fk_X2_50 : fOKr RX2 50 2 17 := ⟨RX2, TX2, 20, cl_2, by decide, gt1 125 rfl rfl⟩
theorem fk_X2_54w : fOK RX2 54 2 18 false := ⟨RX2, TX2, 20, cl_2, by decide, gt1 126 rfl rfl, rfl, fun h => by cases h⟩
theorem fk_X2_54 : fOKr RX2 54 2 18 := ⟨RX2, TX2, 20, cl_2, by decide, gt1 126 rfl rfl⟩
theorem fk_X11_239w : fOK RX11 239 2 18 false := ⟨RX2, TX2, 20, cl_2, by decide, gt1 127 rfl rfl, rfl, fun h => by cases h⟩
theorem fk_X11_239 : fOKr RX11 239 2 18 := ⟨RX2, TX2, 20, cl_2, by decide, gt1 127 rfl rfl⟩
theorem fk_X2_61w : fOK RX2 61 2 19 true := ⟨RX2, TX2, 20, cl_2, by decide, gt1 128 rfl rfl, rfl, fun _ => rfl⟩
theorem fk_X2_61 : fOKr RX2 61 2 19 := ⟨RX2, TX2, 20, cl_2, by decide, gt1 128 rfl rfl⟩
theorem fk_X11_113 : fOKr RX11 113 2 19 := ⟨RX2, TX2, 20, cl_2, by decide, gt1 129 rfl rfl⟩
theorem fk_X0_41 : fOKr RX0 41 2 19 := ⟨RX2, TX2, 20, cl_2, by decide, gt1 130 rfl rfl⟩
theorem fk_X9_11w : fOK RX9 11 9 0 true := ⟨RX9, TX9, 5, cl_9, by decide, gt1 185 rfl rfl, rfl, fun _ => rfl⟩
theorem fk_X9_11 : fOKr RX9 11 9 0 := ⟨RX9, TX9, 5, cl_9, by decide, gt1 185 rfl rfl⟩
theorem fk_X9_15w : fOK RX9 15 9 1 true := ⟨RX9, TX9, 5, cl_9, by decide, gt1 186 rfl rfl, rfl, fun _ => rfl⟩
theorem fk_X9_15 : fOKr RX9 15 9 1 := ⟨RX9, TX9, 5, cl_9, by decide, gt1 186 rfl rfl⟩
theorem fk_X5_22 : fOKr RX5 22 9 1 := ⟨RX9, TX9, 5, cl_9, by decide, gt1 187 rfl rfl⟩
theorem fk_X9_18w : fOK RX9 18 9 2 false := ⟨RX9, TX9, 5, cl_9, by decide, gt1 188 rfl rfl, rfl, fun h => by cases h⟩
theorem fk_X9_18 : fOKr RX9 18 9 2 := ⟨RX9, TX9, 5, cl_9, by decide, gt1 188 rfl rfl⟩
theorem fk_X8_30w : fOK RX8 30 9 2 false := ⟨RX9, TX9, 5, cl_9, by decide, gt1 189 rfl rfl, rfl, fun h => by cases h⟩
theorem fk_X8_30 : fOKr RX8 30 9 2 := ⟨RX9, TX9, 5, cl_9, by decide, gt1 189 rfl rfl⟩
theorem fk_X3_81w : fOK RX3 81 9 2 false := ⟨RX9, TX9, 5, cl_9, by decide, gt1 190 rfl rfl, rfl, fun h => by cases h⟩
theorem fk_X3_81 : fOKr RX3 81 9 2 := ⟨RX9, TX9, 5, cl_9, by decide, gt1 190 rfl rfl⟩
theorem fk_X5_16w : fOK RX5 16 9 3 false := ⟨RX9, TX9, 5, cl_9, by decide, gt1 191 rfl rfl, rfl, fun h => by cases h⟩
theorem fk_X5_16 : fOKr RX5 16 9 3 := ⟨RX9, TX9, 5, cl_9, by decide, gt1 191 rfl rfl⟩
theorem fk_X9_28w : fOK RX9 28 9 3 false := ⟨RX9, TX9, 5, cl_9, by decide, gt1 192 rfl rfl, rfl, fun h => by cases h⟩
theorem fk_X9_28 : fOKr RX9 28 9 3 := ⟨RX9, TX9, 5, cl_9, by decide, gt1 192 rfl rfl⟩
theorem fk_X7_86w : fOK RX7 86 9 3 false := ⟨RX9, TX9, 5, cl_9, by decide, gt1 193 rfl rfl, rfl, fun h => by cases h⟩
theorem fk_X7_86 : fOKr RX7 86 9 3 := ⟨RX9, TX9, 5, cl_9, by decide, gt1 193 rfl rfl⟩
theorem fk_X9_31w : fOK RX9 31 9 4 false := ⟨RX9, TX9, 5, cl_9, by decide, gt1 194 rfl rfl, rfl, fun h => by cases h⟩
theorem fk_X9_31 : fOKr RX9 31 9 4 := ⟨RX9, TX9, 5, cl_9, by decide, gt1 194 rfl rfl⟩
theorem fk_X8_43w : fOK RX8 43 9 4 false := ⟨RX9, TX9, 5, cl_9, by decide, gt1 195 rfl rfl, rfl, fun h => by cases h⟩
theorem fk_X8_43 : fOKr RX8 43 9 4 := ⟨RX9, TX9, 5, cl_9, by decide, gt1 195 rfl rfl⟩
theorem fk_X7_148w : fOK RX7 148 9 4 false := ⟨RX9, TX9, 5, cl_9, by decide, gt1 196 rfl rfl, rfl, fun h => by cases h⟩
theorem fk_X7_148 : fOKr RX7 148 9 4 := ⟨RX9, TX9, 5, cl_9, by decide, gt1 196 rfl rfl⟩
theorem fk_X7_9w : fOK RX7 9 7 0 true := ⟨RX7, TX7, 10, cl_7, by decide, gt1 210 rfl rfl, rfl, fun _ => rfl⟩
theorem fk_X7_9 : fOKr RX7 9 7 0 := ⟨RX7, TX7, 10, cl_7, by decide, gt1 210 rfl rfl⟩
theorem fk_X7_18w : fOK RX7 18 7 1 true := ⟨RX7, TX7, 10, cl_7, by decide, gt1 211 rfl rfl, rfl, fun _ => rfl⟩
theorem fk_X7_18 : fOKr RX7 18 7 1 := ⟨RX7, TX7, 10, cl_7, by decide, gt1 211 rfl rfl⟩
theorem fk_X11_212 : fOKr RX11 212 7 1 := ⟨RX7, TX7, 10, cl_7, by decide, gt1 212 rfl rfl⟩
theorem fk_X7_26w : fOK RX7 26 7 2 false := ⟨RX7, TX7, 10, cl_7, by decide, gt1 213 rfl rfl, rfl, fun h => by cases h⟩
theorem fk_X7_26 : fOKr RX7 26 7 2 := ⟨RX7, TX7, 10, cl_7, by decide, gt1 213 rfl rfl⟩
theorem fk_X11_190w : fOK RX11 190 7 2 false := ⟨RX7, TX7, 10, cl_7, by decide, gt1 214 rfl rfl, rfl, fun h => by cases h⟩
theorem fk_X11_190 : fOKr RX11 190 7 2 := ⟨RX7, TX7, 10, cl_7, by decide, gt1 214 rfl rfl⟩
theorem fk_X7_22w : fOK RX7 22 7 3 false := ⟨RX7, TX7, 10, cl_7, by decide, gt1 215 rfl rfl, rfl, fun h => by cases h⟩
theorem fk_X7_22 : fOKr RX7 22 7 3 := ⟨RX7, TX7, 10, cl_7, by decide, gt1 215 rfl rfl⟩
theorem fk_X11_233w : fOK RX11 233 7 3 false := ⟨RX7, TX7, 10, cl_7, by decide, gt1 216 rfl rfl, rfl, fun h => by cases h⟩
theorem fk_X11_233 : fOKr RX11 233 7 3 := ⟨RX7, TX7, 10, cl_7, by decide, gt1 216 rfl rfl⟩
theorem fk_X7_29w : fOK RX7 29 7 4 false := ⟨RX7, TX7, 10, cl_7, by decide, gt1 217 rfl rfl, rfl, fun h => by cases h⟩
theorem fk_X7_29 : fOKr RX7 29 7 4 := ⟨RX7, TX7, 10, cl_7, by decide, gt1 217 rfl rfl⟩
theorem fk_X7_39w : fOK RX7 39 7 5 false := ⟨RX7, TX7, 10, cl_7, by decide, gt1 218 rfl rfl, rfl, fun h => by cases h⟩
theorem fk_X7_39 : fOKr RX7 39 7 5 := ⟨RX7, TX7, 10, cl_7, by decide, gt1 218 rfl rfl⟩
theorem fk_X7_54w : fOK RX7 54 7 6 false := ⟨RX7, TX7, 10, cl_7, by decide, gt1 219 rfl rfl, rfl, fun h => by cases h⟩
theorem fk_X7_54 : fOKr RX7 54 7 6 := ⟨RX7, TX7, 10, cl_7, by decide, gt1 219 rfl rfl⟩
theorem fk_X7_48w : fOK RX7 48 7 7 false := ⟨RX7, TX7, 10, cl_7, by decide, gt1 220 rfl rfl, rfl, fun h => by cases h⟩
theorem fk_X7_48 : fOKr RX7 48 7 7 := ⟨RX7, TX7, 10, cl_7, by decide, gt1 220 rfl rfl⟩
theorem fk_X7_102w : fOK RX7 102 7 8 false := ⟨RX7, TX7, 10, cl_7, by decide, gt1 221 rfl rfl, rfl, fun h => by cases h⟩
theorem fk_X7_102 : fOKr RX7 102 7 8 := ⟨RX7, TX7, 10, cl_7, by decide, gt1 221 rfl rfl⟩
theorem fk_X7_36w : fOK RX7 36 7 9 false := ⟨RX7, TX7, 10, cl_7, by decide, gt1 222 rfl rfl, rfl, fun h => by cases h⟩
theorem fk_X7_36 : fOKr RX7 36 7 9 := ⟨RX7, TX7, 10, cl_7, by decide, gt1 222 rfl rfl⟩
theorem fk_X5_9w : fOK RX5 9 5 0 true := ⟨RX5, TX5, 1, cl_5, by decide, gt2 16 rfl rfl, rfl, fun _ => rfl⟩
theorem fk_X5_9 : fOKr RX5 9 5 0 := ⟨RX5, TX5, 1, cl_5, by decide, gt2 16 rfl rfl⟩
theorem fk_X3_14w : fOK RX3 14 3 0 true := ⟨RX3, TX3, 5, cl_3, by decide, gt2 20 rfl rfl, rfl, fun _ => rfl⟩
theorem fk_X3_14 : fOKr RX3 14 3 0 := ⟨RX3, TX3, 5, cl_3, by decide, gt2 20 rfl rfl⟩
theorem fk_X8_51 : fOKr RX8 51 3 0 := ⟨RX3, TX3, 5, cl_3, by decide, gt2 21 rfl rfl⟩
theorem fk_X3_18w : fOK RX3 18 3 1 true := ⟨RX3, TX3, 5, cl_3, by decide, gt2 22 rfl rfl, rfl, fun _ => rfl⟩
theorem fk_X3_18 : fOKr RX3 18 3 1 := ⟨RX3, TX3, 5, cl_3, by decide, gt2 22 rfl rfl⟩
theorem fk_X3_22w : fOK RX3 22 3 2 true := ⟨RX3, TX3, 5, cl_3, by decide, gt2 23 rfl rfl, rfl, fun _ => rfl⟩
theorem fk_X3_22 : fOKr RX3 22 3 2 := ⟨RX3, TX3, 5, cl_3, by decide, gt2 23 rfl rfl⟩
theorem fk_X3_25w : fOK RX3 25 3 3 false := ⟨RX3, TX3, 5, cl_3, by decide, gt2 24 rfl rfl, rfl, fun h => by cases h⟩
theorem fk_X3_25 : fOKr RX3 25 3 3 := ⟨RX3, TX3, 5, cl_3, by decide, gt2 24 rfl rfl⟩
theorem fk_X10_25w : fOK RX10 25 3 3 false := ⟨RX3, TX3, 5, cl_3, by decide, gt2 25 rfl rfl, rfl, fun h => by cases h⟩
theorem fk_X10_25 : fOKr RX10 25 3 3 := ⟨RX3, TX3, 5, cl_3, by decide, gt2 25 rfl rfl⟩
theorem fk_X1_36w : fOK RX1 36 3 3 false := ⟨RX3, TX3, 5, cl_3, by decide, gt2 26 rfl rfl, rfl, fun h => by cases h⟩
theorem fk_X1_36 : fOKr RX1 36 3 3 := ⟨RX3, TX3, 5, cl_3, by decide, gt2 26 rfl rfl⟩
theorem fk_X6_86w : fOK RX6 86 3 3 false := ⟨RX3, TX3, 5, cl_3, by decide, gt2 27 rfl rfl, rfl, fun h => by cases h⟩
theorem fk_X6_86 : fOKr RX6 86 3 3 := ⟨RX3, TX3, 5, cl_3, by decide, gt2 27 rfl rfl⟩
theorem fk_X3_29w : fOK RX3 29 3 4 false := ⟨RX3, TX3, 5, cl_3, by decide, gt2 28 rfl rfl, rfl, fun h => by cases h⟩
theorem fk_X3_29 : fOKr RX3 29 3 4 := ⟨RX3, TX3, 5, cl_3, by decide, gt2 28 rfl rfl⟩
theorem fk_X0_9w : fOK RX0 9 0 0 true := ⟨RX0, TX0, 2, cl_0, by decide, gt2 46 rfl rfl, rfl, fun _ => rfl⟩
theorem fk_X0_9 : fOKr RX0 9 0 0 := ⟨RX0, TX0, 2, cl_0, by decide, gt2 46 rfl rfl⟩
theorem fk_X0_93w : fOK RX0 93 0 1 false := ⟨RX0, TX0, 2, cl_0, by decide, gt2 47 rfl rfl, rfl, fun h => by cases h⟩
theorem fk_X0_93 : fOKr RX0 93 0 1 := ⟨RX0, TX0, 2, cl_0, by decide, gt2 47 rfl rfl⟩
theorem fk_X11_363w : fOK RX11 363 0 1 false := ⟨RX0, TX0, 2, cl_0, by decide, gt2 48 rfl rfl, rfl, fun h => by cases h⟩
theorem fk_X11_363 : fOKr RX11 363 0 1 := ⟨RX0, TX0, 2, cl_0, by decide, gt2 48 rfl rfl⟩
theorem fk_X1_9w : fOK RX1 9 1 0 true := ⟨RX1, TX1, 5, cl_1, by decide, gt2 60 rfl rfl, rfl, fun _ => rfl⟩
theorem fk_X1_9 : fOKr RX1 9 1 0 := ⟨RX1, TX1, 5, cl_1, by decide, gt2 60 rfl rfl⟩
theorem fk_X1_15w : fOK RX1 15 1 1 true := ⟨RX1, TX1, 5, cl_1, by decide, gt2 61 rfl rfl, rfl, fun _ => rfl⟩
theorem fk_X1_15 : fOKr RX1 15 1 1 := ⟨RX1, TX1, 5, cl_1, by decide, gt2 61 rfl rfl⟩
theorem fk_X1_18w : fOK RX1 18 1 2 true := ⟨RX1, TX1, 5, cl_1, by decide, gt2 62 rfl rfl, rfl, fun _ => rfl⟩
theorem fk_X1_18 : fOKr RX1 18 1 2 := ⟨RX1, TX1, 5, cl_1, by decide, gt2 62 rfl rfl⟩
theorem fk_X11_264 : fOKr RX11 264 1 2 := ⟨RX1, TX1, 5, cl_1, by decide, gt2 63 rfl rfl⟩
theorem fk_X1_21w : fOK RX1 21 1 3 true := ⟨RX1, TX1, 5, cl_1, by decide, gt2 64 rfl rfl, rfl, fun _ => rfl⟩
theorem fk_X1_21 : fOKr RX1 21 1 3 := ⟨RX1, TX1, 5, cl_1, by decide, gt2 64 rfl rfl⟩
theorem fk_X6_135 : fOKr RX6 135 1 3 := ⟨RX1, TX1, 5, cl_1, by decide, gt2 65 rfl rfl⟩
theorem fk_X11_267 : fOKr RX11 267 1 3 := ⟨RX1, TX1, 5, cl_1, by decide, gt2 66 rfl rfl⟩
theorem fk_X1_24w : fOK RX1 24 1 4 true := ⟨RX1, TX1, 5, cl_1, by decide, gt2 67 rfl rfl, rfl, fun _ => rfl⟩
theorem fk_X1_24 : fOKr RX1 24 1 4 := ⟨RX1, TX1, 5, cl_1, by decide, gt2 67 rfl rfl⟩
theorem fk_X11_269 : fOKr RX11 269 1 4 := ⟨RX1, TX1, 5, cl_1, by decide, gt2 68 rfl rfl⟩
theorem fk_X6_27w : fOK RX6 27 6 0 true := ⟨RX6, TX6, 13, cl_6, by decide, gt2 86 rfl rfl, rfl, fun _ => rfl⟩
theorem fk_X6_27 : fOKr RX6 27 6 0 := ⟨RX6, TX6, 13, cl_6, by decide, gt2 86 rfl rfl⟩
theorem fk_X6_31w : fOK RX6 31 6 1 true := ⟨RX6, TX6, 13, cl_6, by decide, gt2 87 rfl rfl, rfl, fun _ => rfl⟩
theorem fk_X6_31 : fOKr RX6 31 6 1 := ⟨RX6, TX6, 13, cl_6, by decide, gt2 87 rfl rfl⟩
theorem fk_X6_9w : fOK RX6 9 6 2 true := ⟨RX6, TX6, 13, cl_6, by decide, gt2 88 rfl rfl, rfl, fun _ => rfl⟩
theorem fk_X6_9 : fOKr RX6 9 6 2 := ⟨RX6, TX6, 13, cl_6, by decide, gt2 88 rfl rfl⟩
theorem fk_X6_15w : fOK RX6 15 6 3 true := ⟨RX6, TX6, 13, cl_6, by decide, gt2 89 rfl rfl, rfl, fun _ => rfl⟩
theorem fk_X6_15 : fOKr RX6 15 6 3 := ⟨RX6, TX6, 13, cl_6, by decide, gt2 89 rfl rfl⟩
theorem fk_X6_18w : fOK RX6 18 6 4 true := ⟨RX6, TX6, 13, cl_6, by decide, gt2 90 rfl rfl, rfl, fun _ => rfl⟩
theorem fk_X6_18 : fOKr RX6 18 6 4 := ⟨RX6, TX6, 13, cl_6, by decide, gt2 90 rfl rfl⟩
theorem fk_X11_292 : fOKr RX11 292 6 4 := ⟨RX6, TX6, 13, cl_6, by decide, gt2 91 rfl rfl⟩
theorem fk_X6_21w : fOK RX6 21 6 5 true := ⟨RX6, TX6, 13, cl_6, by decide, gt2 92 rfl rfl, rfl, fun _ => rfl⟩
theorem fk_X6_21 : fOKr RX6 21 6 5 := ⟨RX6, TX6, 13, cl_6, by decide, gt2 92 rfl rfl⟩
theorem fk_X6_24w : fOK RX6 24 6 6 true := ⟨RX6, TX6, 13, cl_6, by decide, gt2 93 rfl rfl, rfl, fun _ => rfl⟩
theorem fk_X6_24 : fOKr RX6 24 6 6 := ⟨RX6, TX6, 13, cl_6, by decide, gt2 93 rfl rfl⟩
theorem fk_X6_35w : fOK RX6 35 6 7 false := ⟨RX6, TX6, 13, cl_6, by decide, gt2 94 rfl rfl, rfl, fun h => by cases h⟩
theorem fk_X6_35 : fOKr RX6 35 6 7 := ⟨RX6, TX6, 13, cl_6, by decide, gt2 94 rfl rfl⟩
theorem fk_X6_39w : fOK RX6 39 6 8 false := ⟨RX6, TX6, 13, cl_6, by decide, gt2 95 rfl rfl, rfl, fun h => by cases h⟩
theorem fk_X6_39 : fOKr RX6 39 6 8 := ⟨RX6, TX6, 13, cl_6, by decide, gt2 95 rfl rfl⟩
theorem fk_X6_49w : fOK RX6 49 6 9 false := ⟨RX6, TX6, 13, cl_6, by decide, gt2 96 rfl rfl, rfl, fun h => by cases h⟩
theorem fk_X6_49 : fOKr RX6 49 6 9 := ⟨RX6, TX6, 13, cl_6, by decide, gt2 96 rfl rfl⟩
theorem fk_X6_42w : fOK RX6 42 6 10 false := ⟨RX6, TX6, 13, cl_6, by decide, gt2 97 rfl rfl, rfl, fun h => by cases h⟩
theorem fk_X6_42 : fOKr RX6 42 6 10 := ⟨RX6, TX6, 13, cl_6, by decide, gt2 97 rfl rfl⟩
theorem fk_X11_286w : fOK RX11 286 6 10 false := ⟨RX6, TX6, 13, cl_6, by decide, gt2 98 rfl rfl, rfl, fun h => by cases h⟩
theorem fk_X11_286 : fOKr RX11 286 6 10 := ⟨RX6, TX6, 13, cl_6, by decide, gt2 98 rfl rfl⟩
theorem fk_X6_46w : fOK RX6 46 6 11 false := ⟨RX6, TX6, 13, cl_6, by decide, gt2 99 rfl rfl, rfl, fun h => by cases h⟩
theorem fk_X6_46 : fOKr RX6 46 6 11 := ⟨RX6, TX6, 13, cl_6, by decide, gt2 99 rfl rfl⟩
theorem fk_X11_289w : fOK RX11 289 6 11 false := ⟨RX6, TX6, 13, cl_6, by decide, gt2 100 rfl rfl, rfl, fun h => by cases h⟩
theorem fk_X11_289 : fOKr RX11 289 6 11 := ⟨RX6, TX6, 13, cl_6, by decide, gt2 100 rfl rfl⟩
theorem fk_X6_60w : fOK RX6 60 6 12 false := ⟨RX6, TX6, 13, cl_6, by decide, gt2 101 rfl rfl, rfl, fun h => by cases h⟩
theorem fk_X6_60 : fOKr RX6 60 6 12 := ⟨RX6, TX6, 13, cl_6, by decide, gt2 101 rfl rfl⟩
theorem fk_X11_337w : fOK RX11 337 6 12 false := ⟨RX6, TX6, 13, cl_6, by decide, gt2 102 rfl rfl, rfl, fun h => by cases h⟩
theorem fk_X11_337 : fOKr RX11 337 6 12 := ⟨RX6, TX6, 13, cl_6, by decide, gt2 102 rfl rfl⟩
theorem fk_X10_9w : fOK RX10 9 10 0 true := ⟨RX10, TX10, 5, cl_10, by decide, gt2 136 rfl rfl, rfl, fun _ => rfl⟩
theorem fk_X10_9 : fOKr RX10 9 10 0 := ⟨RX10, TX10, 5, cl_10, by decide, gt2 136 rfl rfl⟩
theorem fk_X10_15w : fOK RX10 15 10 1 true := ⟨RX10, TX10, 5, cl_10, by decide, gt2 137 rfl rfl, rfl, fun _ => rfl⟩
theorem fk_X10_15 : fOKr RX10 15 10 1 := ⟨RX10, TX10, 5, cl_10, by decide, gt2 137 rfl rfl⟩
theorem fk_X10_18w : fOK RX10 18 10 2 true := ⟨RX10, TX10, 5, cl_10, by decide, gt2 138 rfl rfl, rfl, fun _ => rfl⟩
theorem fk_X10_18 : fOKr RX10 18 10 2 := ⟨RX10, TX10, 5, cl_10, by decide, gt2 138 rfl rfl⟩
theorem fk_X10_22w : fOK RX10 22 10 3 true := ⟨RX10, TX10, 5, cl_10, by decide, gt2 139 rfl rfl, rfl, fun _ => rfl⟩
theorem fk_X10_22 : fOKr RX10 22 10 3 := ⟨RX10, TX10, 5, cl_10, by decide, gt2 139 rfl rfl⟩
theorem fk_X11_301 : fOKr RX11 301 10 3 := ⟨RX10, TX10, 5, cl_10, by decide, gt2 140 rfl rfl⟩
theorem fk_X10_31w : fOK RX10 31 10 4 false := ⟨RX10, TX10, 5, cl_10, by decide, gt2 141 rfl rfl, rfl, fun h => by cases h⟩
theorem fk_X10_31 : fOKr RX10 31 10 4 := ⟨RX10, TX10, 5, cl_10, by decide, gt2 141 rfl rfl⟩
theorem fk_X11_298w : fOK RX11 298 10 4 false := ⟨RX10, TX10, 5, cl_10, by decide, gt2 142 rfl rfl, rfl, fun h => by cases h⟩
theorem fk_X11_298 : fOKr RX11 298 10 4 := ⟨RX10, TX10, 5, cl_10, by decide, gt2 142 rfl rfl⟩
theorem fk_X8_15w : fOK RX8 15 8 0 true := ⟨RX8, TX8, 5, cl_8, by decide, gt2 160 rfl rfl, rfl, fun _ => rfl⟩
theorem fk_X8_15 : fOKr RX8 15 8 0 := ⟨RX8, TX8, 5, cl_8, by decide, gt2 160 rfl rfl⟩
theorem fk_X8_19w : fOK RX8 19 8 1 true := ⟨RX8, TX8, 5, cl_8, by decide, gt2 161 rfl rfl, rfl, fun _ => rfl⟩
theorem fk_X8_19 : fOKr RX8 19 8 1 := ⟨RX8, TX8, 5, cl_8, by decide, gt2 161 rfl rfl⟩
theorem fk_X8_11w : fOK RX8 11 8 2 true := ⟨RX8, TX8, 5, cl_8, by decide, gt2 162 rfl rfl, rfl, fun _ => rfl⟩
theorem fk_X8_11 : fOKr RX8 11 8 2 := ⟨RX8, TX8, 5, cl_8, by decide, gt2 162 rfl rfl⟩
theorem fk_X8_23w : fOK RX8 23 8 3 false := ⟨RX8, TX8, 5, cl_8, by decide, gt2 163 rfl rfl, rfl, fun h => by cases h⟩
theorem fk_X8_23 : fOKr RX8 23 8 3 := ⟨RX8, TX8, 5, cl_8, by decide, gt2 163 rfl rfl⟩
theorem fk_X11_230w : fOK RX11 230 8 3 false := ⟨RX8, TX8, 5, cl_8, by decide, gt2 164 rfl rfl, rfl, fun h => by cases h⟩
theorem fk_X11_230 : fOKr RX11 230 8 3 := ⟨RX8, TX8, 5, cl_8, by decide, gt2 164 rfl rfl⟩
theorem fk_X8_27w : fOK RX8 27 8 4 false := ⟨RX8, TX8, 5, cl_8, by decide, gt2 165 rfl rfl, rfl, fun h => by cases h⟩
theorem fk_X8_27 : fOKr RX8 27 8 4 := ⟨RX8, TX8, 5, cl_8, by decide, gt2 165 rfl rfl⟩
theorem fk_X11_10w : fOK RX11 10 11 0 true := ⟨RX11, TX11, 17, cl_11, by decide, gt2 178 rfl rfl, rfl, fun _ => rfl⟩
theorem fk_X11_10 : fOKr RX11 10 11 0 := ⟨RX11, TX11, 17, cl_11, by decide, gt2 178 rfl rfl⟩
theorem fk_X11_16w : fOK RX11 16 11 1 true := ⟨RX11, TX11, 17, cl_11, by decide, gt2 179 rfl rfl, rfl, fun _ => rfl⟩
theorem fk_X11_16 : fOKr RX11 16 11 1 := ⟨RX11, TX11, 17, cl_11, by decide, gt2 179 rfl rfl⟩
theorem fk_X11_19w : fOK RX11 19 11 2 true := ⟨RX11, TX11, 17, cl_11, by decide, gt2 180 rfl rfl, rfl, fun _ => rfl⟩
theorem fk_X11_19 : fOKr RX11 19 11 2 := ⟨RX11, TX11, 17, cl_11, by decide, gt2 180 rfl rfl⟩
theorem fk_X11_23w : fOK RX11 23 11 3 true := ⟨RX11, TX11, 17, cl_11, by decide, gt2 181 rfl rfl, rfl, fun _ => rfl⟩
theorem fk_X11_23 : fOKr RX11 23 11 3 := ⟨RX11, TX11, 17, cl_11, by decide, gt2 181 rfl rfl⟩
theorem fk_X11_30w : fOK RX11 30 11 4 true := ⟨RX11, TX11, 17, cl_11, by decide, gt2 182 rfl rfl, rfl, fun _ => rfl⟩
theorem fk_X11_30 : fOKr RX11 30 11 4 := ⟨RX11, TX11, 17, cl_11, by decide, gt2 182 rfl rfl⟩
theorem fk_X11_39w : fOK RX11 39 11 5 true := ⟨RX11, TX11, 17, cl_11, by decide, gt2 183 rfl rfl, rfl, fun _ => rfl⟩
theorem fk_X11_39 : fOKr RX11 39 11 5 := ⟨RX11, TX11, 17, cl_11, by decide, gt2 183 rfl rfl⟩
theorem fk_X11_48w : fOK RX11 48 11 6 true := ⟨RX11, TX11, 17, cl_11, by decide, gt2 184 rfl rfl, rfl, fun _ => rfl⟩
theorem fk_X11_48 : fOKr RX11 48 11 6 := ⟨RX11, TX11, 17, cl_11, by decide, gt2 184 rfl rfl⟩
theorem fk_X11_55w : fOK RX11 55 11 7 true := ⟨RX11, TX11, 17, cl_11, by decide, gt2 185 rfl rfl, rfl, fun _ => rfl⟩
theorem fk_X11_55 : fOKr RX11 55 11 7 := ⟨RX11, TX11, 17, cl_11, by decide, gt2 185 rfl rfl⟩
theorem fk_X11_64w : fOK RX11 64 11 8 true := ⟨RX11, TX11, 17, cl_11, by decide, gt2 186 rfl rfl, rfl, fun _ => rfl⟩
theorem fk_X11_64 : fOKr RX11 64 11 8 := ⟨RX11, TX11, 17, cl_11, by decide, gt2 186 rfl rfl⟩
theorem fk_X11_71w : fOK RX11 71 11 9 true := ⟨RX11, TX11, 17, cl_11, by decide, gt2 187 rfl rfl, rfl, fun _ => rfl⟩
theorem fk_X11_71 : fOKr RX11 71 11 9 := ⟨RX11, TX11, 17, cl_11, by decide, gt2 187 rfl rfl⟩
theorem fk_X11_80w : fOK RX11 80 11 10 true := ⟨RX11, TX11, 17, cl_11, by decide, gt2 188 rfl rfl, rfl, fun _ => rfl⟩
theorem fk_X11_80 : fOKr RX11 80 11 10 := ⟨RX11, TX11, 17, cl_11, by decide, gt2 188 rfl rfl⟩
theorem fk_X11_84w : fOK RX11 84 11 11 true := ⟨RX11, TX11, 17, cl_11, by decide, gt2 189 rfl rfl, rfl, fun _ => rfl⟩
theorem fk_X11_84 : fOKr RX11 84 11 11 := ⟨RX11, TX11, 17, cl_11, by decide, gt2 189 rfl rfl⟩
theorem fk_X11_88w : fOK RX11 88 11 12 true := ⟨RX11, TX11, 17, cl_11, by decide, gt2 190 rfl rfl, rfl, fun _ => rfl⟩
theorem fk_X11_88 : fOKr RX11 88 11 12 := ⟨RX11, TX11, 17, cl_11, by decide, gt2 190 rfl rfl⟩
theorem fk_X11_91w : fOK RX11 91 11 13 true := ⟨RX11, TX11, 17, cl_11, by decide, gt2 191 rfl rfl, rfl, fun _ => rfl⟩
theorem fk_X11_91 : fOKr RX11 91 11 13 := ⟨RX11, TX11, 17, cl_11, by decide, gt2 191 rfl rfl⟩
theorem fk_X11_382w : fOK RX11 382 11 14 false := ⟨RX11, TX11, 17, cl_11, by decide, gt2 192 rfl rfl, rfl, fun h => by cases h⟩
theorem fk_X11_382 : fOKr RX11 382 11 14 := ⟨RX11, TX11, 17, cl_11, by decide, gt2 192 rfl rfl⟩
theorem fk_X11_197w : fOK RX11 197 11 15 false := ⟨RX11, TX11, 17, cl_11, by decide, gt2 193 rfl rfl, rfl, fun h => by cases h⟩
theorem fk_X11_197 : fOKr RX11 197 11 15 := ⟨RX11, TX11, 17, cl_11, by decide, gt2 193 rfl rfl⟩
theorem fk_X11_95w : fOK RX11 95 11 16 false := ⟨RX11, TX11, 17, cl_11, by decide, gt2 194 rfl rfl, rfl, fun h => by cases h⟩
theorem fk_X11_95 : fOKr RX11 95 11 16 := ⟨RX11, TX11, 17, cl_11, by decide, gt2 194 rfl rfl⟩
theorem fk_X12_3w : fOK RX12 3 12 0 false := ⟨RX12, TX12, 60, cl_12, by decide, gt5 207 rfl rfl, rfl, fun h => by cases h⟩
theorem fk_X12_3 : fOKr RX12 3 12 0 := ⟨RX12, TX12, 60, cl_12, by decide, gt5 207 rfl rfl⟩
theorem fk_X12_7w : fOK RX12 7 12 1 true := ⟨RX12, TX12, 60, cl_12, by decide, gt5 208 rfl rfl, rfl, fun _ => rfl⟩
theorem fk_X12_7 : fOKr RX12 7 12 1 := ⟨RX12, TX12, 60, cl_12, by decide, gt5 208 rfl rfl⟩
theorem fk_X12_24w : fOK RX12 24 12 2 true := ⟨RX12, TX12, 60, cl_12, by decide, gt5 209 rfl rfl, rfl, fun _ => rfl⟩
theorem fk_X12_24 : fOKr RX12 24 12 2 := ⟨RX12, TX12, 60, cl_12, by decide, gt5 209 rfl rfl⟩
theorem fk_X12_27w : fOK RX12 27 12 3 true := ⟨RX12, TX12, 60, cl_12, by decide, gt5 210 rfl rfl, rfl, fun _ => rfl⟩
theorem fk_X12_27 : fOKr RX12 27 12 3 := ⟨RX12, TX12, 60, cl_12, by decide, gt5 210 rfl rfl⟩
theorem fk_X12_30w : fOK RX12 30 12 4 true := ⟨RX12, TX12, 60, cl_12, by decide, gt5 211 rfl rfl, rfl, fun _ => rfl⟩
theorem fk_X12_30 : fOKr RX12 30 12 4 := ⟨RX12, TX12, 60, cl_12, by decide, gt5 211 rfl rfl⟩
theorem fk_X12_34w : fOK RX12 34 12 5 true := ⟨RX12, TX12, 60, cl_12, by decide, gt5 212 rfl rfl, rfl, fun _ => rfl⟩
theorem fk_X12_34 : fOKr RX12 34 12 5 := ⟨RX12, TX12, 60, cl_12, by decide, gt5 212 rfl rfl⟩
theorem fk_X12_177w : fOK RX12 177 12 6 false := ⟨RX12, TX12, 60, cl_12, by decide, gt5 213 rfl rfl, rfl, fun h => by cases h⟩
theorem fk_X12_177 : fOKr RX12 177 12 6 := ⟨RX12, TX12, 60, cl_12, by decide, gt5 213 rfl rfl⟩
theorem fk_X12_37w : fOK RX12 37 12 7 true := ⟨RX12, TX12, 60, cl_12, by decide, gt5 214 rfl rfl, rfl, fun _ => rfl⟩
theorem fk_X12_37 : fOKr RX12 37 12 7 := ⟨RX12, TX12, 60, cl_12, by decide, gt5 214 rfl rfl⟩
theorem fk_X12_251w : fOK RX12 251 12 8 false := ⟨RX12, TX12, 60, cl_12, by decide, gt5 215 rfl rfl, rfl, fun h => by cases h⟩
theorem fk_X12_251 : fOKr RX12 251 12 8 := ⟨RX12, TX12, 60, cl_12, by decide, gt5 215 rfl rfl⟩
theorem fk_X12_254w : fOK RX12 254 12 9 false := ⟨RX12, TX12, 60, cl_12, by decide, gt5 216 rfl rfl, rfl, fun h => by cases h⟩
theorem fk_X12_254 : fOKr RX12 254 12 9 := ⟨RX12, TX12, 60, cl_12, by decide, gt5 216 rfl rfl⟩
theorem fk_X12_225w : fOK RX12 225 12 10 false := ⟨RX12, TX12, 60, cl_12, by decide, gt5 217 rfl rfl, rfl, fun h => by cases h⟩
theorem fk_X12_225 : fOKr RX12 225 12 10 := ⟨RX12, TX12, 60, cl_12, by decide, gt5 217 rfl rfl⟩
theorem fk_X12_41w : fOK RX12 41 12 11 true := ⟨RX12, TX12, 60, cl_12, by decide, gt5 218 rfl rfl, rfl, fun _ => rfl⟩
theorem fk_X12_41 : fOKr RX12 41 12 11 := ⟨RX12, TX12, 60, cl_12, by decide, gt5 218 rfl rfl⟩
theorem fk_X12_44w : fOK RX12 44 12 12 true := ⟨RX12, TX12, 60, cl_12, by decide, gt5 219 rfl rfl, rfl, fun _ => rfl⟩
theorem fk_X12_44 : fOKr RX12 44 12 12 := ⟨RX12, TX12, 60, cl_12, by decide, gt5 219 rfl rfl⟩
theorem fk_X12_174w : fOK RX12 174 12 13 false := ⟨RX12, TX12, 60, cl_12, by decide, gt5 220 rfl rfl, rfl, fun h => by cases h⟩
theorem fk_X12_174 : fOKr RX12 174 12 13 := ⟨RX12, TX12, 60, cl_12, by decide, gt5 220 rfl rfl⟩
theorem fk_X12_47w : fOK RX12 47 12 14 false := ⟨RX12, TX12, 60, cl_12, by decide, gt5 221 rfl rfl, rfl, fun h => by cases h⟩
theorem fk_X12_47 : fOKr RX12 47 12 14 := ⟨RX12, TX12, 60, cl_12, by decide, gt5 221 rfl rfl⟩
theorem fk_X12_50w : fOK RX12 50 12 15 true := ⟨RX12, TX12, 60, cl_12, by decide, gt5 222 rfl rfl, rfl, fun _ => rfl⟩
theorem fk_X12_50 : fOKr RX12 50 12 15 := ⟨RX12, TX12, 60, cl_12, by decide, gt5 222 rfl rfl⟩
theorem fk_X12_53w : fOK RX12 53 12 16 true := ⟨RX12, TX12, 60, cl_12, by decide, gt5 223 rfl rfl, rfl, fun _ => rfl⟩
theorem fk_X12_53 : fOKr RX12 53 12 16 := ⟨RX12, TX12, 60, cl_12, by decide, gt5 223 rfl rfl⟩
theorem fk_X12_56w : fOK RX12 56 12 17 true := ⟨RX12, TX12, 60, cl_12, by decide, gt5 224 rfl rfl, rfl, fun _ => rfl⟩
theorem fk_X12_56 : fOKr RX12 56 12 17 := ⟨RX12, TX12, 60, cl_12, by decide, gt5 224 rfl rfl⟩
theorem fk_X12_180w : fOK RX12 180 12 18 false := ⟨RX12, TX12, 60, cl_12, by decide, gt5 225 rfl rfl, rfl, fun h => by cases h⟩
theorem fk_X12_180 : fOKr RX12 180 12 18 := ⟨RX12, TX12, 60, cl_12, by decide, gt5 225 rfl rfl⟩
theorem fk_X12_200w : fOK RX12 200 12 19 false := ⟨RX12, TX12, 60, cl_12, by decide, gt5 226 rfl rfl, rfl, fun h => by cases h⟩
theorem fk_X12_200 : fOKr RX12 200 12 19 := ⟨RX12, TX12, 60, cl_12, by decide, gt5 226 rfl rfl⟩
theorem fk_X12_209w : fOK RX12 209 12 20 false := ⟨RX12, TX12, 60, cl_12, by decide, gt5 227 rfl rfl, rfl, fun h => by cases h⟩
theorem fk_X12_209 : fOKr RX12 209 12 20 := ⟨RX12, TX12, 60, cl_12, by decide, gt5 227 rfl rfl⟩
theorem fk_X12_193w : fOK RX12 193 12 21 false := ⟨RX12, TX12, 60, cl_12, by decide, gt5 228 rfl rfl, rfl, fun h => by cases h⟩
theorem fk_X12_193 : fOKr RX12 193 12 21 := ⟨RX12, TX12, 60, cl_12, by decide, gt5 228 rfl rfl⟩
theorem fk_X12_282w : fOK RX12 282 12 22 false := ⟨RX12, TX12, 60, cl_12, by decide, gt5 229 rfl rfl, rfl, fun h => by cases h⟩
theorem fk_X12_282 : fOKr RX12 282 12 22 := ⟨RX12, TX12, 60, cl_12, by decide, gt5 229 rfl rfl⟩
theorem fk_X12_279w : fOK RX12 279 12 23 false := ⟨RX12, TX12, 60, cl_12, by decide, gt5 230 rfl rfl, rfl, fun h => by cases h⟩
theorem fk_X12_279 : fOKr RX12 279 12 23 := ⟨RX12, TX12, 60, cl_12, by decide, gt5 230 rfl rfl⟩
theorem fk_X12_292w : fOK RX12 292 12 24 false := ⟨RX12, TX12, 60, cl_12, by decide, gt5 231 rfl rfl, rfl, fun h => by cases h⟩
theorem fk_X12_292 : fOKr RX12 292 12 24 := ⟨RX12, TX12, 60, cl_12, by decide, gt5 231 rfl rfl⟩
theorem fk_X12_312w : fOK RX12 312 12 25 false := ⟨RX12, TX12, 60, cl_12, by decide, gt5 232 rfl rfl, rfl, fun h => by cases h⟩
theorem fk_X12_312 : fOKr RX12 312 12 25 := ⟨RX12, TX12, 60, cl_12, by decide, gt5 232 rfl rfl⟩
theorem fk_X12_59w : fOK RX12 59 12 26 true := ⟨RX12, TX12, 60, cl_12, by decide, gt5 233 rfl rfl, rfl, fun _ => rfl⟩
theorem fk_X12_59 : fOKr RX12 59 12 26 := ⟨RX12, TX12, 60, cl_12, by decide, gt5 233 rfl rfl⟩
theorem fk_X12_318w : fOK RX12 318 12 27 false := ⟨RX12, TX12, 60, cl_12, by decide, gt5 234 rfl rfl, rfl, fun h => by cases h⟩
theorem fk_X12_318 : fOKr RX12 318 12 27 := ⟨RX12, TX12, 60, cl_12, by decide, gt5 234 rfl rfl⟩
theorem fk_X12_321w : fOK RX12 321 12 28 false := ⟨RX12, TX12, 60, cl_12, by decide, gt5 235 rfl rfl, rfl, fun h => by cases h⟩
theorem fk_X12_321 : fOKr RX12 321 12 28 := ⟨RX12, TX12, 60, cl_12, by decide, gt5 235 rfl rfl⟩
theorem fk_X12_324w : fOK RX12 324 12 29 false := ⟨RX12, TX12, 60, cl_12, by decide, gt5 236 rfl rfl, rfl, fun h => by cases h⟩
theorem fk_X12_324 : fOKr RX12 324 12 29 := ⟨RX12, TX12, 60, cl_12, by decide, gt5 236 rfl rfl⟩
theorem fk_X12_62w : fOK RX12 62 12 30 true := ⟨RX12, TX12, 60, cl_12, by decide, gt5 237 rfl rfl, rfl, fun _ => rfl⟩
theorem fk_X12_62 : fOKr RX12 62 12 30 := ⟨RX12, TX12, 60, cl_12, by decide, gt5 237 rfl rfl⟩
theorem fk_X12_65w : fOK RX12 65 12 31 true := ⟨RX12, TX12, 60, cl_12, by decide, gt5 238 rfl rfl, rfl, fun _ => rfl⟩
theorem fk_X12_65 : fOKr RX12 65 12 31 := ⟨RX12, TX12, 60, cl_12, by decide, gt5 238 rfl rfl⟩
theorem fk_X12_11w : fOK RX12 11 12 32 false := ⟨RX12, TX12, 60, cl_12, by decide, gt5 239 rfl rfl, rfl, fun h => by cases h⟩
theorem fk_X12_11 : fOKr RX12 11 12 32 := ⟨RX12, TX12, 60, cl_12, by decide, gt5 239 rfl rfl⟩
theorem fk_X12_68w : fOK RX12 68 12 33 true := ⟨RX12, TX12, 60, cl_12, by decide, gt6 0 rfl rfl, rfl, fun _ => rfl⟩
theorem fk_X12_68 : fOKr RX12 68 12 33 := ⟨RX12, TX12, 60, cl_12, by decide, gt6 0 rfl rfl⟩
theorem fk_X12_71w : fOK RX12 71 12 34 true := ⟨RX12, TX12, 60, cl_12, by decide, gt6 1 rfl rfl, rfl, fun _ => rfl⟩
theorem fk_X12_71 : fOKr RX12 71 12 34 := ⟨RX12, TX12, 60, cl_12, by decide, gt6 1 rfl rfl⟩
theorem fk_X12_74w : fOK RX12 74 12 35 true := ⟨RX12, TX12, 60, cl_12, by decide, gt6 2 rfl rfl, rfl, fun _ => rfl⟩
theorem fk_X12_74 : fOKr RX12 74 12 35 := ⟨RX12, TX12, 60, cl_12, by decide, gt6 2 rfl rfl⟩
theorem fk_X12_77w : fOK RX12 77 12 36 true := ⟨RX12, TX12, 60, cl_12, by decide, gt6 3 rfl rfl, rfl, fun _ => rfl⟩
theorem fk_X12_77 : fOKr RX12 77 12 36 := ⟨RX12, TX12, 60, cl_12, by decide, gt6 3 rfl rfl⟩
theorem fk_X12_80w : fOK RX12 80 12 37 true := ⟨RX12, TX12, 60, cl_12, by decide, gt6 4 rfl rfl, rfl, fun _ => rfl⟩
theorem fk_X12_80 : fOKr RX12 80 12 37 := ⟨RX12, TX12, 60, cl_12, by decide, gt6 4 rfl rfl⟩
theorem fk_X12_83w : fOK RX12 83 12 38 true := ⟨RX12, TX12, 60, cl_12, by decide, gt6 5 rfl rfl, rfl, fun _ => rfl⟩
theorem fk_X12_83 : fOKr RX12 83 12 38 := ⟨RX12, TX12, 60, cl_12, by decide, gt6 5 rfl rfl⟩
theorem fk_X12_405w : fOK RX12 405 12 39 false := ⟨RX12, TX12, 60, cl_12, by decide, gt6 6 rfl rfl, rfl, fun h => by cases h⟩
theorem fk_X12_405 : fOKr RX12 405 12 39 := ⟨RX12, TX12, 60, cl_12, by decide, gt6 6 rfl rfl⟩
theorem fk_X12_411w : fOK RX12 411 12 40 false := ⟨RX12, TX12, 60, cl_12, by decide, gt6 7 rfl rfl, rfl, fun h => by cases h⟩
theorem fk_X12_411 : fOKr RX12 411 12 40 := ⟨RX12, TX12, 60, cl_12, by decide, gt6 7 rfl rfl⟩
theorem fk_X12_414w : fOK RX12 414 12 41 false := ⟨RX12, TX12, 60, cl_12, by decide, gt6 8 rfl rfl, rfl, fun h => by cases h⟩
theorem fk_X12_414 : fOKr RX12 414 12 41 := ⟨RX12, TX12, 60, cl_12, by decide, gt6 8 rfl rfl⟩
theorem fk_X12_86w : fOK RX12 86 12 42 true := ⟨RX12, TX12, 60, cl_12, by decide, gt6 9 rfl rfl, rfl, fun _ => rfl⟩
theorem fk_X12_86 : fOKr RX12 86 12 42 := ⟨RX12, TX12, 60, cl_12, by decide, gt6 9 rfl rfl⟩
theorem fk_X12_89w : fOK RX12 89 12 43 true := ⟨RX12, TX12, 60, cl_12, by decide, gt6 10 rfl rfl, rfl, fun _ => rfl⟩
theorem fk_X12_89 : fOKr RX12 89 12 43 := ⟨RX12, TX12, 60, cl_12, by decide, gt6 10 rfl rfl⟩
theorem fk_X12_92w : fOK RX12 92 12 44 true := ⟨RX12, TX12, 60, cl_12, by decide, gt6 11 rfl rfl, rfl, fun _ => rfl⟩
theorem fk_X12_92 : fOKr RX12 92 12 44 := ⟨RX12, TX12, 60, cl_12, by decide, gt6 11 rfl rfl⟩
theorem fk_X12_455w : fOK RX12 455 12 45 false := ⟨RX12, TX12, 60, cl_12, by decide, gt6 12 rfl rfl, rfl, fun h => by cases h⟩
theorem fk_X12_455 : fOKr RX12 455 12 45 := ⟨RX12, TX12, 60, cl_12, by decide, gt6 12 rfl rfl⟩
theorem fk_X12_458w : fOK RX12 458 12 46 false := ⟨RX12, TX12, 60, cl_12, by decide, gt6 13 rfl rfl, rfl, fun h => by cases h⟩
theorem fk_X12_458 : fOKr RX12 458 12 46 := ⟨RX12, TX12, 60, cl_12, by decide, gt6 13 rfl rfl⟩
theorem fk_X12_95w : fOK RX12 95 12 47 true := ⟨RX12, TX12, 60, cl_12, by decide, gt6 14 rfl rfl, rfl, fun _ => rfl⟩
theorem fk_X12_95 : fOKr RX12 95 12 47 := ⟨RX12, TX12, 60, cl_12, by decide, gt6 14 rfl rfl⟩
theorem fk_X12_98w : fOK RX12 98 12 48 true := ⟨RX12, TX12, 60, cl_12, by decide, gt6 15 rfl rfl, rfl, fun _ => rfl⟩
theorem fk_X12_98 : fOKr RX12 98 12 48 := ⟨RX12, TX12, 60, cl_12, by decide, gt6 15 rfl rfl⟩
theorem fk_X12_101w : fOK RX12 101 12 49 true := ⟨RX12, TX12, 60, cl_12, by decide, gt6 16 rfl rfl, rfl, fun _ => rfl⟩
theorem fk_X12_101 : fOKr RX12 101 12 49 := ⟨RX12, TX12, 60, cl_12, by decide, gt6 16 rfl rfl⟩
theorem fk_X12_105w : fOK RX12 105 12 50 false := ⟨RX12, TX12, 60, cl_12, by decide, gt6 17 rfl rfl, rfl, fun h => by cases h⟩
theorem fk_X12_105 : fOKr RX12 105 12 50 := ⟨RX12, TX12, 60, cl_12, by decide, gt6 17 rfl rfl⟩
theorem fk_X12_482w : fOK RX12 482 12 51 false := ⟨RX12, TX12, 60, cl_12, by decide, gt6 18 rfl rfl, rfl, fun h => by cases h⟩
theorem fk_X12_482 : fOKr RX12 482 12 51 := ⟨RX12, TX12, 60, cl_12, by decide, gt6 18 rfl rfl⟩
theorem fk_X12_494w : fOK RX12 494 12 52 false := ⟨RX12, TX12, 60, cl_12, by decide, gt6 19 rfl rfl, rfl, fun h => by cases h⟩
theorem fk_X12_494 : fOKr RX12 494 12 52 := ⟨RX12, TX12, 60, cl_12, by decide, gt6 19 rfl rfl⟩
theorem fk_X12_488w : fOK RX12 488 12 53 false := ⟨RX12, TX12, 60, cl_12, by decide, gt6 20 rfl rfl, rfl, fun h => by cases h⟩
theorem fk_X12_488 : fOKr RX12 488 12 53 := ⟨RX12, TX12, 60, cl_12, by decide, gt6 20 rfl rfl⟩
theorem fk_X12_491w : fOK RX12 491 12 54 false := ⟨RX12, TX12, 60, cl_12, by decide, gt6 21 rfl rfl, rfl, fun h => by cases h⟩
theorem fk_X12_491 : fOKr RX12 491 12 54 := ⟨RX12, TX12, 60, cl_12, by decide, gt6 21 rfl rfl⟩
theorem fk_X12_497w : fOK RX12 497 12 55 false := ⟨RX12, TX12, 60, cl_12, by decide, gt6 22 rfl rfl, rfl, fun h => by cases h⟩
theorem fk_X12_497 : fOKr RX12 497 12 55 := ⟨RX12, TX12, 60, cl_12, by decide, gt6 22 rfl rfl⟩
theorem fk_X12_108w : fOK RX12 108 12 56 true := ⟨RX12, TX12, 60, cl_12, by decide, gt6 23 rfl rfl, rfl, fun _ => rfl⟩
theorem fk_X12_108 : fOKr RX12 108 12 56 := ⟨RX12, TX12, 60, cl_12, by decide, gt6 23 rfl rfl⟩
theorem fk_X12_111w : fOK RX12 111 12 57 true := ⟨RX12, TX12, 60, cl_12, by decide, gt6 24 rfl rfl, rfl, fun _ => rfl⟩
theorem fk_X12_111 : fOKr RX12 111 12 57 := ⟨RX12, TX12, 60, cl_12, by decide, gt6 24 rfl rfl⟩
theorem fk_X12_114w : fOK RX12 114 12 58 false := ⟨RX12, TX12, 60, cl_12, by decide, gt6 25 rfl rfl, rfl, fun h => by cases h⟩
theorem fk_X12_114 : fOKr RX12 114 12 58 := ⟨RX12, TX12, 60, cl_12, by decide, gt6 25 rfl rfl⟩
theorem fk_X12_515w : fOK RX12 515 12 59 false := ⟨RX12, TX12, 60, cl_12, by decide, gt6 26 rfl rfl, rfl, fun h => by cases h⟩
theorem fk_X12_515 : fOKr RX12 515 12 59 := ⟨RX12, TX12, 60, cl_12, by decide, gt6 26 rfl rfl⟩
abbrev M_X11_init : MT := (yX11_init, cX11_init, 1, none)
theorem mo_X11_init : mOK M_X11_init 0 := ⟨gt1 26 rfl rfl, gt1 1 rfl rfl, ⟨by decide +kernel, by decide +kernel, by decide +kernel⟩, by decide +kernel, by decide⟩
abbrev M_X2_init : MT := (yX2_init, cX2_init, 1, none)
theorem mo_X2_init : mOK M_X2_init 0 := ⟨gt1 34 rfl rfl, gt1 2 rfl rfl, ⟨by decide +kernel, by decide +kernel, by decide +kernel⟩, by decide +kernel, by decide⟩
abbrev M_X4_init : MT := (yX4_init, cX4_init, 1, none)
theorem mo_X4_init : mOK M_X4_init 0 := ⟨gt1 42 rfl rfl, gt1 3 rfl rfl, ⟨by decide +kernel, by decide +kernel, by decide +kernel⟩, by decide +kernel, by decide⟩
abbrev M_J7_fill_53178 : MT := (yJ7_fill_53178, cJ7_fill_53178, 4, none)
theorem mo_J7_fill_53178 : mOK M_J7_fill_53178 2 := ⟨gt1 56 rfl rfl, gt1 4 rfl rfl, ⟨by decide +kernel, by decide +kernel, by decide +kernel⟩, by decide +kernel, by decide⟩
abbrev M_X7_init : MT := (yX7_init, cX7_init, 1, none)
theorem mo_X7_init : mOK M_X7_init 0 := ⟨gt1 177 rfl rfl, gt1 5 rfl rfl, ⟨by decide +kernel, by decide +kernel, by decide +kernel⟩, by decide +kernel, by decide⟩
abbrev M_X9_init : MT := (yX9_init, cX9_init, 1, none)
theorem mo_X9_init : mOK M_X9_init 0 := ⟨gt1 183 rfl rfl, gt1 6 rfl rfl, ⟨by decide +kernel, by decide +kernel, by decide +kernel⟩, by decide +kernel, by decide⟩
abbrev M_X3_init : MT := (yX3_init, cX3_init, 2, none)
theorem mo_X3_init : mOK M_X3_init 1 := ⟨gt2 8 rfl rfl, gt1 7 rfl rfl, ⟨by decide +kernel, by decide +kernel, by decide +kernel⟩, by decide +kernel, by decide⟩
abbrev M_X5_init : MT := (yX5_init, cX5_init, 1, none)
theorem mo_X5_init : mOK M_X5_init 0 := ⟨gt2 14 rfl rfl, gt1 8 rfl rfl, ⟨by decide +kernel, by decide +kernel, by decide +kernel⟩, by decide +kernel, by decide⟩
abbrev M_X0_init : MT := (yX0_init, cX0_init, 2, none)
theorem mo_X0_init : mOK M_X0_init 1 := ⟨gt2 44 rfl rfl, gt1 9 rfl rfl, ⟨by decide +kernel, by decide +kernel, by decide +kernel⟩, by decide +kernel, by decide⟩
abbrev M_X1_init : MT := (yX1_init, cX1_init, 1, none)
theorem mo_X1_init : mOK M_X1_init 0 := ⟨gt2 58 rfl rfl, gt1 10 rfl rfl, ⟨by decide +kernel, by decide +kernel, by decide +kernel⟩, by decide +kernel, by decide⟩
abbrev M_X6_init : MT := (yX6_init, cX6_init, 3, none)
theorem mo_X6_init : mOK M_X6_init 2 := ⟨gt2 84 rfl rfl, gt1 11 rfl rfl, ⟨by decide +kernel, by decide +kernel, by decide +kernel⟩, by decide +kernel, by decide⟩
abbrev M_X10_init : MT := (yX10_init, cX10_init, 1, none)
theorem mo_X10_init : mOK M_X10_init 0 := ⟨gt2 134 rfl rfl, gt1 12 rfl rfl, ⟨by decide +kernel, by decide +kernel, by decide +kernel⟩, by decide +kernel, by decide⟩
abbrev M_X8_init : MT := (yX8_init, cX8_init, 3, none)
theorem mo_X8_init : mOK M_X8_init 2 := ⟨gt2 158 rfl rfl, gt1 13 rfl rfl, ⟨by decide +kernel, by decide +kernel, by decide +kernel⟩, by decide +kernel, by decide⟩
abbrev M_X11_person : MT := (yX11_person, cX11_person, 4, (some .int))
theorem mo_X11_person : mOK M_X11_person 2 := ⟨gt2 234 rfl rfl, gt1 1 rfl rfl, ⟨by decide +kernel, by decide +kernel, by decide +kernel⟩, by decide +kernel, by decide⟩
abbrev M_X2_addPerson : MT := (yX2_addPerson, cX2_addPerson, 3, (some .int))
theorem mo_X2_addPerson : mOK M_X2_addPerson 2 := ⟨gt2 238 rfl rfl, gt1 2 rfl rfl, ⟨by decide +kernel, by decide +kernel, by decide +kernel⟩, by decide +kernel, by decide⟩
abbrev M_X11_refused : MT := (yX11_refused, cX11_refused, 3, (some .int))
theorem mo_X11_refused : mOK M_X11_refused 1 := ⟨gt3 2 rfl rfl, gt1 1 rfl rfl, ⟨by decide +kernel, by decide +kernel, by decide +kernel⟩, by decide +kernel, by decide⟩
abbrev M_X4_clear : MT := (yX4_clear, cX4_clear, 1, none)
theorem mo_X4_clear : mOK M_X4_clear 0 := ⟨gt3 6 rfl rfl, gt1 3 rfl rfl, ⟨by decide +kernel, by decide +kernel, by decide +kernel⟩, by decide +kernel, by decide⟩
abbrev M_X11_accepted : MT := (yX11_accepted, cX11_accepted, 2, (some .int))
theorem mo_X11_accepted : mOK M_X11_accepted 1 := ⟨gt3 10 rfl rfl, gt1 1 rfl rfl, ⟨by decide +kernel, by decide +kernel, by decide +kernel⟩, by decide +kernel, by decide⟩
abbrev M_X6_markStale : MT := (yX6_markStale, cX6_markStale, 1, none)
theorem mo_X6_markStale : mOK M_X6_markStale 0 := ⟨gt3 14 rfl rfl, gt1 11 rfl rfl, ⟨by decide +kernel, by decide +kernel, by decide +kernel⟩, by decide +kernel, by decide⟩
abbrev M_X11_of : MT := (yX11_of, cX11_of, 3, (some .int))
theorem mo_X11_of : mOK M_X11_of 2 := ⟨gt3 18 rfl rfl, gt1 1 rfl rfl, ⟨by decide +kernel, by decide +kernel, by decide +kernel⟩, by decide +kernel, by decide⟩
abbrev M_X2_isPerson : MT := (yX2_isPerson, cX2_isPerson, 2, (some .boolean))
theorem mo_X2_isPerson : mOK M_X2_isPerson 1 := ⟨gt3 22 rfl rfl, gt1 2 rfl rfl, ⟨by decide +kernel, by decide +kernel, by decide +kernel⟩, by decide +kernel, by decide⟩
abbrev M_X2_lawInForce : MT := (yX2_lawInForce, cX2_lawInForce, 1, (some (.object "TicketHall$Text")))
theorem mo_X2_lawInForce : mOK M_X2_lawInForce 0 := ⟨gt3 26 rfl rfl, gt1 2 rfl rfl, ⟨by decide +kernel, by decide +kernel, by decide +kernel⟩, by decide +kernel, by decide⟩
abbrev M_X2_lawOf : MT := (yX2_lawOf, cX2_lawOf, 2, (some (.object "TicketHall$Text")))
theorem mo_X2_lawOf : mOK M_X2_lawOf 1 := ⟨gt3 30 rfl rfl, gt1 2 rfl rfl, ⟨by decide +kernel, by decide +kernel, by decide +kernel⟩, by decide +kernel, by decide⟩
abbrev M_X2_isLaw : MT := (yX2_isLaw, cX2_isLaw, 2, (some .boolean))
theorem mo_X2_isLaw : mOK M_X2_isLaw 1 := ⟨gt3 34 rfl rfl, gt1 2 rfl rfl, ⟨by decide +kernel, by decide +kernel, by decide +kernel⟩, by decide +kernel, by decide⟩
abbrev M_X3_begin : MT := (yX3_begin, cX3_begin, 3, none)
theorem mo_X3_begin : mOK M_X3_begin 2 := ⟨gt3 38 rfl rfl, gt1 7 rfl rfl, ⟨by decide +kernel, by decide +kernel, by decide +kernel⟩, by decide +kernel, by decide⟩
abbrev M_X3_cost : MT := (yX3_cost, cX3_cost, 4, (some .int))
theorem mo_X3_cost : mOK M_X3_cost 1 := ⟨gt3 43 rfl rfl, gt1 7 rfl rfl, ⟨by decide +kernel, by decide +kernel, by decide +kernel⟩, by decide +kernel, by decide⟩
abbrev M_X3_speakOf : MT := (yX3_speakOf, cX3_speakOf, 4, none)
theorem mo_X3_speakOf : mOK M_X3_speakOf 3 := ⟨gt3 47 rfl rfl, gt1 7 rfl rfl, ⟨by decide +kernel, by decide +kernel, by decide +kernel⟩, by decide +kernel, by decide⟩
abbrev M_X3_lastTold : MT := (yX3_lastTold, cX3_lastTold, 5, (some .int))
theorem mo_X3_lastTold : mOK M_X3_lastTold 1 := ⟨gt3 51 rfl rfl, gt1 7 rfl rfl, ⟨by decide +kernel, by decide +kernel, by decide +kernel⟩, by decide +kernel, by decide⟩
abbrev M_X9_head : MT := (yX9_head, cX9_head, 3, (some .int))
theorem mo_X9_head : mOK M_X9_head 2 := ⟨gt3 56 rfl rfl, gt1 6 rfl rfl, ⟨by decide +kernel, by decide +kernel, by decide +kernel⟩, by decide +kernel, by decide⟩
abbrev M_X5_run : MT := (yX5_run, cX5_run, 15, (some .int))
theorem mo_X5_run : mOK M_X5_run 3 := ⟨gt3 60 rfl rfl, gt1 8 rfl rfl, ⟨by decide +kernel, by decide +kernel, by decide +kernel⟩, by decide +kernel, by decide⟩
abbrev M_J9_min_7cf53 : MT := (yJ9_min_7cf53, cJ9_min_7cf53, 2, (some .int))
abbrev M_J9_max_7cf53 : MT := (yJ9_max_7cf53, cJ9_max_7cf53, 2, (some .int))
abbrev M_X11_ticket : MT := (yX11_ticket, cX11_ticket, 4, (some .int))
theorem mo_X11_ticket : mOK M_X11_ticket 2 := ⟨gt3 74 rfl rfl, gt1 1 rfl rfl, ⟨by decide +kernel, by decide +kernel, by decide +kernel⟩, by decide +kernel, by decide⟩
abbrev M_X2_addTicket : MT := (yX2_addTicket, cX2_addTicket, 4, (some .int))
theorem mo_X2_addTicket : mOK M_X2_addTicket 2 := ⟨gt3 78 rfl rfl, gt1 2 rfl rfl, ⟨by decide +kernel, by decide +kernel, by decide +kernel⟩, by decide +kernel, by decide⟩
abbrev M_X11_at : MT := (yX11_at, cX11_at, 3, (some .int))
theorem mo_X11_at : mOK M_X11_at 2 := ⟨gt3 82 rfl rfl, gt1 1 rfl rfl, ⟨by decide +kernel, by decide +kernel, by decide +kernel⟩, by decide +kernel, by decide⟩
abbrev M_X2_isTicket : MT := (yX2_isTicket, cX2_isTicket, 2, (some .boolean))
theorem mo_X2_isTicket : mOK M_X2_isTicket 1 := ⟨gt3 86 rfl rfl, gt1 2 rfl rfl, ⟨by decide +kernel, by decide +kernel, by decide +kernel⟩, by decide +kernel, by decide⟩
abbrev M_X11_wish : MT := (yX11_wish, cX11_wish, 6, (some .int))
theorem mo_X11_wish : mOK M_X11_wish 3 := ⟨gt3 90 rfl rfl, gt1 1 rfl rfl, ⟨by decide +kernel, by decide +kernel, by decide +kernel⟩, by decide +kernel, by decide⟩
abbrev M_X11_desk : MT := (yX11_desk, cX11_desk, 4, (some .int))
theorem mo_X11_desk : mOK M_X11_desk 2 := ⟨gt3 94 rfl rfl, gt1 1 rfl rfl, ⟨by decide +kernel, by decide +kernel, by decide +kernel⟩, by decide +kernel, by decide⟩
abbrev M_X2_addDesk : MT := (yX2_addDesk, cX2_addDesk, 3, (some .int))
theorem mo_X2_addDesk : mOK M_X2_addDesk 2 := ⟨gt3 98 rfl rfl, gt1 2 rfl rfl, ⟨by decide +kernel, by decide +kernel, by decide +kernel⟩, by decide +kernel, by decide⟩
abbrev M_X11_asks : MT := (yX11_asks, cX11_asks, 4, (some .int))
theorem mo_X11_asks : mOK M_X11_asks 3 := ⟨gt3 102 rfl rfl, gt1 1 rfl rfl, ⟨by decide +kernel, by decide +kernel, by decide +kernel⟩, by decide +kernel, by decide⟩
abbrev M_X3_isFit : MT := (yX3_isFit, cX3_isFit, 4, (some .boolean))
theorem mo_X3_isFit : mOK M_X3_isFit 2 := ⟨gt3 106 rfl rfl, gt1 7 rfl rfl, ⟨by decide +kernel, by decide +kernel, by decide +kernel⟩, by decide +kernel, by decide⟩
abbrev M_X3_anyHolds : MT := (yX3_anyHolds, cX3_anyHolds, 4, (some .boolean))
theorem mo_X3_anyHolds : mOK M_X3_anyHolds 1 := ⟨gt3 110 rfl rfl, gt1 7 rfl rfl, ⟨by decide +kernel, by decide +kernel, by decide +kernel⟩, by decide +kernel, by decide⟩
abbrev M_X3_isBarred : MT := (yX3_isBarred, cX3_isBarred, 4, (some .boolean))
theorem mo_X3_isBarred : mOK M_X3_isBarred 2 := ⟨gt3 114 rfl rfl, gt1 7 rfl rfl, ⟨by decide +kernel, by decide +kernel, by decide +kernel⟩, by decide +kernel, by decide⟩
abbrev M_X3_minutes : MT := (yX3_minutes, cX3_minutes, 7, (some .int))
theorem mo_X3_minutes : mOK M_X3_minutes 3 := ⟨gt3 118 rfl rfl, gt1 7 rfl rfl, ⟨by decide +kernel, by decide +kernel, by decide +kernel⟩, by decide +kernel, by decide⟩
abbrev M_X11_terms : MT := (yX11_terms, cX11_terms, 4, (some .int))
theorem mo_X11_terms : mOK M_X11_terms 2 := ⟨gt3 122 rfl rfl, gt1 1 rfl rfl, ⟨by decide +kernel, by decide +kernel, by decide +kernel⟩, by decide +kernel, by decide⟩
abbrev M_X11_mostOfTerm : MT := (yX11_mostOfTerm, cX11_mostOfTerm, 1, (some .int))
theorem mo_X11_mostOfTerm : mOK M_X11_mostOfTerm 1 := ⟨gt3 125 rfl rfl, gt1 1 rfl rfl, ⟨by decide +kernel, by decide +kernel, by decide +kernel⟩, by decide +kernel, by decide⟩
abbrev M_X11_feed : MT := (yX11_feed, cX11_feed, 6, (some .int))
theorem mo_X11_feed : mOK M_X11_feed 5 := ⟨gt3 129 rfl rfl, gt1 1 rfl rfl, ⟨by decide +kernel, by decide +kernel, by decide +kernel⟩, by decide +kernel, by decide⟩
abbrev M_X7_write : MT := (yX7_write, cX7_write, 3, none)
theorem mo_X7_write : mOK M_X7_write 1 := ⟨gt3 133 rfl rfl, gt1 5 rfl rfl, ⟨by decide +kernel, by decide +kernel, by decide +kernel⟩, by decide +kernel, by decide⟩
abbrev M_X11_end : MT := (yX11_end, cX11_end, 2, (some .int))
theorem mo_X11_end : mOK M_X11_end 1 := ⟨gt3 137 rfl rfl, gt1 1 rfl rfl, ⟨by decide +kernel, by decide +kernel, by decide +kernel⟩, by decide +kernel, by decide⟩
abbrev M_X11_row : MT := (yX11_row, cX11_row, 4, (some .int))
theorem mo_X11_row : mOK M_X11_row 0 := ⟨gt3 141 rfl rfl, gt1 1 rfl rfl, ⟨by decide +kernel, by decide +kernel, by decide +kernel⟩, by decide +kernel, by decide⟩
abbrev M_X7_byteAt : MT := (yX7_byteAt, cX7_byteAt, 2, (some .int))
theorem mo_X7_byteAt : mOK M_X7_byteAt 1 := ⟨gt3 145 rfl rfl, gt1 5 rfl rfl, ⟨by decide +kernel, by decide +kernel, by decide +kernel⟩, by decide +kernel, by decide⟩
abbrev M_X11_scraps : MT := (yX11_scraps, cX11_scraps, 1, (some .int))
theorem mo_X11_scraps : mOK M_X11_scraps 0 := ⟨gt3 149 rfl rfl, gt1 1 rfl rfl, ⟨by decide +kernel, by decide +kernel, by decide +kernel⟩, by decide +kernel, by decide⟩
abbrev M_X11_law : MT := (yX11_law, cX11_law, 1, (some .int))
theorem mo_X11_law : mOK M_X11_law 0 := ⟨gt3 153 rfl rfl, gt1 1 rfl rfl, ⟨by decide +kernel, by decide +kernel, by decide +kernel⟩, by decide +kernel, by decide⟩
abbrev M_X7_read : MT := (yX7_read, cX7_read, 4, (some .boolean))
theorem mo_X7_read : mOK M_X7_read 1 := ⟨gt3 157 rfl rfl, gt1 5 rfl rfl, ⟨by decide +kernel, by decide +kernel, by decide +kernel⟩, by decide +kernel, by decide⟩
abbrev M_X9_clear : MT := (yX9_clear, cX9_clear, 1, none)
theorem mo_X9_clear : mOK M_X9_clear 0 := ⟨gt3 161 rfl rfl, gt1 6 rfl rfl, ⟨by decide +kernel, by decide +kernel, by decide +kernel⟩, by decide +kernel, by decide⟩
abbrev M_X7_advance : MT := (yX7_advance, cX7_advance, 2, none)
theorem mo_X7_advance : mOK M_X7_advance 0 := ⟨gt3 165 rfl rfl, gt1 5 rfl rfl, ⟨by decide +kernel, by decide +kernel, by decide +kernel⟩, by decide +kernel, by decide⟩
abbrev M_X7_clause : MT := (yX7_clause, cX7_clause, 2, none)
theorem mo_X7_clause : mOK M_X7_clause 0 := ⟨gt3 170 rfl rfl, gt1 5 rfl rfl, ⟨by decide +kernel, by decide +kernel, by decide +kernel⟩, by decide +kernel, by decide⟩
abbrev M_X7_placeIn : MT := (yX7_placeIn, cX7_placeIn, 6, (some .int))
theorem mo_X7_placeIn : mOK M_X7_placeIn 1 := ⟨gt3 176 rfl rfl, gt1 5 rfl rfl, ⟨by decide +kernel, by decide +kernel, by decide +kernel⟩, by decide +kernel, by decide⟩
abbrev M_J0_length_8abf5 : MT := (yJ0_length_8abf5, cJ0_length_8abf5, 1, (some .int))
theorem mo_J0_length_8abf5 : mOK M_J0_length_8abf5 0 := ⟨gt3 180 rfl rfl, gt1 16 rfl rfl, ⟨by decide +kernel, by decide +kernel, by decide +kernel⟩, by decide +kernel, by decide⟩
abbrev M_J0_coder_7d493 : MT := (yJ0_coder_7d493, cJ0_coder_7d493, 1, (some .byte))
theorem mo_J0_coder_7d493 : mOK M_J0_coder_7d493 0 := ⟨gt3 184 rfl rfl, gt1 16 rfl rfl, ⟨by decide +kernel, by decide +kernel, by decide +kernel⟩, by decide +kernel, by decide⟩
abbrev M_J0_charAt_5068e : MT := (yJ0_charAt_5068e, cJ0_charAt_5068e, 2, (some .char))
theorem mo_J0_charAt_5068e : mOK M_J0_charAt_5068e 1 := ⟨gt3 190 rfl rfl, gt1 16 rfl rfl, ⟨by decide +kernel, by decide +kernel, by decide +kernel⟩, by decide +kernel, by decide⟩
abbrev M_J0_isLatin1_aae02 : MT := (yJ0_isLatin1_aae02, cJ0_isLatin1_aae02, 1, (some .boolean))
theorem mo_J0_isLatin1_aae02 : mOK M_J0_isLatin1_aae02 0 := ⟨gt3 194 rfl rfl, gt1 16 rfl rfl, ⟨by decide +kernel, by decide +kernel, by decide +kernel⟩, by decide +kernel, by decide⟩
abbrev M_J1_charAt_3b067 : MT := (yJ1_charAt_3b067, cJ1_charAt_3b067, 2, (some .char))
theorem mo_J1_charAt_3b067 : mOK M_J1_charAt_3b067 2 := ⟨gt3 197 rfl rfl, gt1 17 rfl rfl, ⟨by decide +kernel, by decide +kernel, by decide +kernel⟩, by decide +kernel, by decide⟩
abbrev M_J0_checkIndex_df160 : MT := (yJ0_checkIndex_df160, cJ0_checkIndex_df160, 2, none)
theorem mo_J0_checkIndex_df160 : mOK M_J0_checkIndex_df160 2 := ⟨gt3 200 rfl rfl, gt1 16 rfl rfl, ⟨by decide +kernel, by decide +kernel, by decide +kernel⟩, by decide +kernel, by decide⟩
abbrev M_J3_checkIndex_8e157 : MT := (yJ3_checkIndex_8e157, cJ3_checkIndex_8e157, 3, (some .int))
theorem mo_J3_checkIndex_8e157 : mOK M_J3_checkIndex_8e157 3 := ⟨gt3 205 rfl rfl, gt1 18 rfl rfl, ⟨by decide +kernel, by decide +kernel, by decide +kernel⟩, by decide +kernel, by decide⟩
abbrev M_J2_charAt_3b067 : MT := (yJ2_charAt_3b067, cJ2_charAt_3b067, 2, (some .char))
theorem mo_J2_charAt_3b067 : mOK M_J2_charAt_3b067 2 := ⟨gt3 208 rfl rfl, gt1 19 rfl rfl, ⟨by decide +kernel, by decide +kernel, by decide +kernel⟩, by decide +kernel, by decide⟩
abbrev M_J2_checkIndex_2214a : MT := (yJ2_checkIndex_2214a, cJ2_checkIndex_2214a, 2, none)
theorem mo_J2_checkIndex_2214a : mOK M_J2_checkIndex_2214a 2 := ⟨gt3 211 rfl rfl, gt1 19 rfl rfl, ⟨by decide +kernel, by decide +kernel, by decide +kernel⟩, by decide +kernel, by decide⟩
abbrev M_J2_length_9d52b : MT := (yJ2_length_9d52b, cJ2_length_9d52b, 1, (some .int))
theorem mo_J2_length_9d52b : mOK M_J2_length_9d52b 1 := ⟨gt3 214 rfl rfl, gt1 19 rfl rfl, ⟨by decide +kernel, by decide +kernel, by decide +kernel⟩, by decide +kernel, by decide⟩
abbrev M_J2_getChar_3b067 : MT := (yJ2_getChar_3b067, cJ2_getChar_3b067, 2, (some .char))
theorem mo_J2_getChar_3b067 : mOK M_J2_getChar_3b067 2 := ⟨gt3 218 rfl rfl, gt1 19 rfl rfl, ⟨by decide +kernel, by decide +kernel, by decide +kernel⟩, by decide +kernel, by decide⟩
abbrev M_X7_wrong : MT := (yX7_wrong, cX7_wrong, 1, none)
theorem mo_X7_wrong : mOK M_X7_wrong 0 := ⟨gt3 228 rfl rfl, gt1 5 rfl rfl, ⟨by decide +kernel, by decide +kernel, by decide +kernel⟩, by decide +kernel, by decide⟩
abbrev M_X9_open : MT := (yX9_open, cX9_open, 2, none)
theorem mo_X9_open : mOK M_X9_open 1 := ⟨gt3 232 rfl rfl, gt1 6 rfl rfl, ⟨by decide +kernel, by decide +kernel, by decide +kernel⟩, by decide +kernel, by decide⟩
abbrev M_X9_mark : MT := (yX9_mark, cX9_mark, 3, none)
theorem mo_X9_mark : mOK M_X9_mark 2 := ⟨gt3 236 rfl rfl, gt1 6 rfl rfl, ⟨by decide +kernel, by decide +kernel, by decide +kernel⟩, by decide +kernel, by decide⟩
abbrev M_X7_markedSum : MT := (yX7_markedSum, cX7_markedSum, 2, none)
theorem mo_X7_markedSum : mOK M_X7_markedSum 1 := ⟨gt4 0 rfl rfl, gt1 5 rfl rfl, ⟨by decide +kernel, by decide +kernel, by decide +kernel⟩, by decide +kernel, by decide⟩
abbrev M_X7_sum : MT := (yX7_sum, cX7_sum, 4, none)
theorem mo_X7_sum : mOK M_X7_sum 1 := ⟨gt4 5 rfl rfl, gt1 5 rfl rfl, ⟨by decide +kernel, by decide +kernel, by decide +kernel⟩, by decide +kernel, by decide⟩
abbrev M_X7_term : MT := (yX7_term, cX7_term, 4, none)
theorem mo_X7_term : mOK M_X7_term 1 := ⟨gt4 9 rfl rfl, gt1 5 rfl rfl, ⟨by decide +kernel, by decide +kernel, by decide +kernel⟩, by decide +kernel, by decide⟩
abbrev M_X7_part : MT := (yX7_part, cX7_part, 4, none)
theorem mo_X7_part : mOK M_X7_part 1 := ⟨gt4 13 rfl rfl, gt1 5 rfl rfl, ⟨by decide +kernel, by decide +kernel, by decide +kernel⟩, by decide +kernel, by decide⟩
abbrev M_X7_opens : MT := (yX7_opens, cX7_opens, 2, (some .boolean))
theorem mo_X7_opens : mOK M_X7_opens 1 := ⟨gt4 17 rfl rfl, gt1 5 rfl rfl, ⟨by decide +kernel, by decide +kernel, by decide +kernel⟩, by decide +kernel, by decide⟩
abbrev M_X7_close : MT := (yX7_close, cX7_close, 2, none)
theorem mo_X7_close : mOK M_X7_close 1 := ⟨gt4 21 rfl rfl, gt1 5 rfl rfl, ⟨by decide +kernel, by decide +kernel, by decide +kernel⟩, by decide +kernel, by decide⟩
abbrev M_X9_emit : MT := (yX9_emit, cX9_emit, 3, (some .int))
theorem mo_X9_emit : mOK M_X9_emit 2 := ⟨gt4 27 rfl rfl, gt1 6 rfl rfl, ⟨by decide +kernel, by decide +kernel, by decide +kernel⟩, by decide +kernel, by decide⟩
abbrev M_X7_word : MT := (yX7_word, cX7_word, 3, none)
theorem mo_X7_word : mOK M_X7_word 1 := ⟨gt4 31 rfl rfl, gt1 5 rfl rfl, ⟨by decide +kernel, by decide +kernel, by decide +kernel⟩, by decide +kernel, by decide⟩
abbrev M_X7_goesOnWith : MT := (yX7_goesOnWith, cX7_goesOnWith, 3, (some .boolean))
theorem mo_X7_goesOnWith : mOK M_X7_goesOnWith 1 := ⟨gt4 37 rfl rfl, gt1 5 rfl rfl, ⟨by decide +kernel, by decide +kernel, by decide +kernel⟩, by decide +kernel, by decide⟩
abbrev M_X7_times : MT := (yX7_times, cX7_times, 1, none)
theorem mo_X7_times : mOK M_X7_times 0 := ⟨gt4 42 rfl rfl, gt1 5 rfl rfl, ⟨by decide +kernel, by decide +kernel, by decide +kernel⟩, by decide +kernel, by decide⟩
abbrev M_X7_anyOf : MT := (yX7_anyOf, cX7_anyOf, 4, none)
theorem mo_X7_anyOf : mOK M_X7_anyOf 1 := ⟨gt4 47 rfl rfl, gt1 5 rfl rfl, ⟨by decide +kernel, by decide +kernel, by decide +kernel⟩, by decide +kernel, by decide⟩
abbrev M_X7_allOf : MT := (yX7_allOf, cX7_allOf, 4, none)
theorem mo_X7_allOf : mOK M_X7_allOf 1 := ⟨gt4 51 rfl rfl, gt1 5 rfl rfl, ⟨by decide +kernel, by decide +kernel, by decide +kernel⟩, by decide +kernel, by decide⟩
abbrev M_X7_plain : MT := (yX7_plain, cX7_plain, 4, none)
theorem mo_X7_plain : mOK M_X7_plain 1 := ⟨gt4 55 rfl rfl, gt1 5 rfl rfl, ⟨by decide +kernel, by decide +kernel, by decide +kernel⟩, by decide +kernel, by decide⟩
abbrev M_X7_comparison : MT := (yX7_comparison, cX7_comparison, 3, none)
theorem mo_X7_comparison : mOK M_X7_comparison 1 := ⟨gt4 60 rfl rfl, gt1 5 rfl rfl, ⟨by decide +kernel, by decide +kernel, by decide +kernel⟩, by decide +kernel, by decide⟩
abbrev M_X9_aimHere : MT := (yX9_aimHere, cX9_aimHere, 2, none)
theorem mo_X9_aimHere : mOK M_X9_aimHere 1 := ⟨gt4 65 rfl rfl, gt1 6 rfl rfl, ⟨by decide +kernel, by decide +kernel, by decide +kernel⟩, by decide +kernel, by decide⟩
abbrev M_X9_init_ : MT := (yX9_init_, cX9_init_, 2, none)
theorem mo_X9_init_ : mOK M_X9_init_ 1 := ⟨gt4 70 rfl rfl, gt1 6 rfl rfl, ⟨by decide +kernel, by decide +kernel, by decide +kernel⟩, by decide +kernel, by decide⟩
abbrev M_J7_copyOf_59c91 : MT := (yJ7_copyOf_59c91, cJ7_copyOf_59c91, 3, (some (.array .int)))
theorem mo_J7_copyOf_59c91 : mOK M_J7_copyOf_59c91 2 := ⟨gt4 73 rfl rfl, gt1 4 rfl rfl, ⟨by decide +kernel, by decide +kernel, by decide +kernel⟩, by decide +kernel, by decide⟩
abbrev M_X2_addLaw : MT := (yX2_addLaw, cX2_addLaw, 2, (some .int))
theorem mo_X2_addLaw : mOK M_X2_addLaw 1 := ⟨gt4 88 rfl rfl, gt1 2 rfl rfl, ⟨by decide +kernel, by decide +kernel, by decide +kernel⟩, by decide +kernel, by decide⟩
abbrev M_X11_orders : MT := (yX11_orders, cX11_orders, 1, (some .int))
theorem mo_X11_orders : mOK M_X11_orders 0 := ⟨gt4 92 rfl rfl, gt1 1 rfl rfl, ⟨by decide +kernel, by decide +kernel, by decide +kernel⟩, by decide +kernel, by decide⟩
abbrev M_X2_copyFrom : MT := (yX2_copyFrom, cX2_copyFrom, 3, none)
theorem mo_X2_copyFrom : mOK M_X2_copyFrom 1 := ⟨gt4 96 rfl rfl, gt1 2 rfl rfl, ⟨by decide +kernel, by decide +kernel, by decide +kernel⟩, by decide +kernel, by decide⟩
abbrev M_X4_copyFrom : MT := (yX4_copyFrom, cX4_copyFrom, 2, none)
theorem mo_X4_copyFrom : mOK M_X4_copyFrom 1 := ⟨gt4 101 rfl rfl, gt1 3 rfl rfl, ⟨by decide +kernel, by decide +kernel, by decide +kernel⟩, by decide +kernel, by decide⟩
abbrev M_X8_through : MT := (yX8_through, cX8_through, 6, (some .int))
theorem mo_X8_through : mOK M_X8_through 2 := ⟨gt4 106 rfl rfl, gt1 13 rfl rfl, ⟨by decide +kernel, by decide +kernel, by decide +kernel⟩, by decide +kernel, by decide⟩
abbrev M_X8_once : MT := (yX8_once, cX8_once, 9, (some .boolean))
theorem mo_X8_once : mOK M_X8_once 3 := ⟨gt4 111 rfl rfl, gt1 13 rfl rfl, ⟨by decide +kernel, by decide +kernel, by decide +kernel⟩, by decide +kernel, by decide⟩
abbrev M_X8_lookAt : MT := (yX8_lookAt, cX8_lookAt, 4, none)
theorem mo_X8_lookAt : mOK M_X8_lookAt 2 := ⟨gt4 115 rfl rfl, gt1 13 rfl rfl, ⟨by decide +kernel, by decide +kernel, by decide +kernel⟩, by decide +kernel, by decide⟩
abbrev M_X8_fitOnes : MT := (yX8_fitOnes, cX8_fitOnes, 4, (some .int))
theorem mo_X8_fitOnes : mOK M_X8_fitOnes 1 := ⟨gt4 119 rfl rfl, gt1 13 rfl rfl, ⟨by decide +kernel, by decide +kernel, by decide +kernel⟩, by decide +kernel, by decide⟩
abbrev M_X2_free : MT := (yX2_free, cX2_free, 3, (some .int))
theorem mo_X2_free : mOK M_X2_free 0 := ⟨gt4 124 rfl rfl, gt1 2 rfl rfl, ⟨by decide +kernel, by decide +kernel, by decide +kernel⟩, by decide +kernel, by decide⟩
abbrev M_X8_act : MT := (yX8_act, cX8_act, 6, (some .int))
theorem mo_X8_act : mOK M_X8_act 4 := ⟨gt4 131 rfl rfl, gt1 13 rfl rfl, ⟨by decide +kernel, by decide +kernel, by decide +kernel⟩, by decide +kernel, by decide⟩
abbrev M_X0_takeUp : MT := (yX0_takeUp, cX0_takeUp, 4, (some .int))
theorem mo_X0_takeUp : mOK M_X0_takeUp 3 := ⟨gt4 135 rfl rfl, gt1 9 rfl rfl, ⟨by decide +kernel, by decide +kernel, by decide +kernel⟩, by decide +kernel, by decide⟩
abbrev M_X2_give : MT := (yX2_give, cX2_give, 3, none)
theorem mo_X2_give : mOK M_X2_give 2 := ⟨gt4 142 rfl rfl, gt1 2 rfl rfl, ⟨by decide +kernel, by decide +kernel, by decide +kernel⟩, by decide +kernel, by decide⟩
abbrev M_X4_add : MT := (yX4_add, cX4_add, 4, none)
theorem mo_X4_add : mOK M_X4_add 3 := ⟨gt4 146 rfl rfl, gt1 3 rfl rfl, ⟨by decide +kernel, by decide +kernel, by decide +kernel⟩, by decide +kernel, by decide⟩
abbrev M_X0_exchange : MT := (yX0_exchange, cX0_exchange, 6, (some .int))
theorem mo_X0_exchange : mOK M_X0_exchange 3 := ⟨gt4 150 rfl rfl, gt1 9 rfl rfl, ⟨by decide +kernel, by decide +kernel, by decide +kernel⟩, by decide +kernel, by decide⟩
abbrev M_X2_cross : MT := (yX2_cross, cX2_cross, 4, none)
theorem mo_X2_cross : mOK M_X2_cross 2 := ⟨gt4 154 rfl rfl, gt1 2 rfl rfl, ⟨by decide +kernel, by decide +kernel, by decide +kernel⟩, by decide +kernel, by decide⟩
abbrev M_X0_giveUp : MT := (yX0_giveUp, cX0_giveUp, 4, (some .int))
theorem mo_X0_giveUp : mOK M_X0_giveUp 2 := ⟨gt4 159 rfl rfl, gt1 9 rfl rfl, ⟨by decide +kernel, by decide +kernel, by decide +kernel⟩, by decide +kernel, by decide⟩
abbrev M_X2_ungive : MT := (yX2_ungive, cX2_ungive, 3, none)
theorem mo_X2_ungive : mOK M_X2_ungive 2 := ⟨gt4 163 rfl rfl, gt1 2 rfl rfl, ⟨by decide +kernel, by decide +kernel, by decide +kernel⟩, by decide +kernel, by decide⟩
abbrev M_X0_tick : MT := (yX0_tick, cX0_tick, 2, (some .int))
theorem mo_X0_tick : mOK M_X0_tick 1 := ⟨gt4 167 rfl rfl, gt1 9 rfl rfl, ⟨by decide +kernel, by decide +kernel, by decide +kernel⟩, by decide +kernel, by decide⟩
abbrev M_X11_fault : MT := (yX11_fault, cX11_fault, 1, (some .int))
theorem mo_X11_fault : mOK M_X11_fault 0 := ⟨gt4 173 rfl rfl, gt1 1 rfl rfl, ⟨by decide +kernel, by decide +kernel, by decide +kernel⟩, by decide +kernel, by decide⟩
abbrev M_X11_stopped : MT := (yX11_stopped, cX11_stopped, 1, (some .int))
theorem mo_X11_stopped : mOK M_X11_stopped 0 := ⟨gt4 177 rfl rfl, gt1 1 rfl rfl, ⟨by decide +kernel, by decide +kernel, by decide +kernel⟩, by decide +kernel, by decide⟩
abbrev M_X11_force : MT := (yX11_force, cX11_force, 3, (some .int))
theorem mo_X11_force : mOK M_X11_force 1 := ⟨gt4 181 rfl rfl, gt1 1 rfl rfl, ⟨by decide +kernel, by decide +kernel, by decide +kernel⟩, by decide +kernel, by decide⟩
abbrev M_X11_draw : MT := (yX11_draw, cX11_draw, 4, (some .int))
theorem mo_X11_draw : mOK M_X11_draw 2 := ⟨gt4 186 rfl rfl, gt1 1 rfl rfl, ⟨by decide +kernel, by decide +kernel, by decide +kernel⟩, by decide +kernel, by decide⟩
abbrev M_X11_swap : MT := (yX11_swap, cX11_swap, 4, (some .int))
theorem mo_X11_swap : mOK M_X11_swap 2 := ⟨gt4 191 rfl rfl, gt1 1 rfl rfl, ⟨by decide +kernel, by decide +kernel, by decide +kernel⟩, by decide +kernel, by decide⟩
abbrev M_X11_drop : MT := (yX11_drop, cX11_drop, 3, (some .int))
theorem mo_X11_drop : mOK M_X11_drop 1 := ⟨gt4 196 rfl rfl, gt1 1 rfl rfl, ⟨by decide +kernel, by decide +kernel, by decide +kernel⟩, by decide +kernel, by decide⟩
abbrev M_X11_pass : MT := (yX11_pass, cX11_pass, 2, (some .int))
theorem mo_X11_pass : mOK M_X11_pass 0 := ⟨gt4 201 rfl rfl, gt1 1 rfl rfl, ⟨by decide +kernel, by decide +kernel, by decide +kernel⟩, by decide +kernel, by decide⟩
abbrev M_X11_undo : MT := (yX11_undo, cX11_undo, 2, (some .int))
theorem mo_X11_undo : mOK M_X11_undo 0 := ⟨gt4 206 rfl rfl, gt1 1 rfl rfl, ⟨by decide +kernel, by decide +kernel, by decide +kernel⟩, by decide +kernel, by decide⟩
abbrev M_X2_takeBack : MT := (yX2_takeBack, cX2_takeBack, 5, (some .int))
theorem mo_X2_takeBack : mOK M_X2_takeBack 0 := ⟨gt4 210 rfl rfl, gt1 2 rfl rfl, ⟨by decide +kernel, by decide +kernel, by decide +kernel⟩, by decide +kernel, by decide⟩
abbrev M_X4_latest : MT := (yX4_latest, cX4_latest, 1, (some .int))
theorem mo_X4_latest : mOK M_X4_latest 0 := ⟨gt4 214 rfl rfl, gt1 3 rfl rfl, ⟨by decide +kernel, by decide +kernel, by decide +kernel⟩, by decide +kernel, by decide⟩
abbrev M_X11_day : MT := (yX11_day, cX11_day, 3, (some .int))
theorem mo_X11_day : mOK M_X11_day 2 := ⟨gt4 220 rfl rfl, gt1 1 rfl rfl, ⟨by decide +kernel, by decide +kernel, by decide +kernel⟩, by decide +kernel, by decide⟩
abbrev M_X11_playDay : MT := (yX11_playDay, cX11_playDay, 2, none)
theorem mo_X11_playDay : mOK M_X11_playDay 1 := ⟨gt4 224 rfl rfl, gt1 1 rfl rfl, ⟨by decide +kernel, by decide +kernel, by decide +kernel⟩, by decide +kernel, by decide⟩
abbrev M_X1_line : MT := (yX1_line, cX1_line, 5, none)
theorem mo_X1_line : mOK M_X1_line 1 := ⟨gt4 228 rfl rfl, gt1 10 rfl rfl, ⟨by decide +kernel, by decide +kernel, by decide +kernel⟩, by decide +kernel, by decide⟩
abbrev M_X1_play : MT := (yX1_play, cX1_play, 9, none)
theorem mo_X1_play : mOK M_X1_play 3 := ⟨gt4 232 rfl rfl, gt1 10 rfl rfl, ⟨by decide +kernel, by decide +kernel, by decide +kernel⟩, by decide +kernel, by decide⟩
abbrev M_X1_earliest : MT := (yX1_earliest, cX1_earliest, 7, (some .int))
theorem mo_X1_earliest : mOK M_X1_earliest 3 := ⟨gt4 237 rfl rfl, gt1 10 rfl rfl, ⟨by decide +kernel, by decide +kernel, by decide +kernel⟩, by decide +kernel, by decide⟩
abbrev M_X11_waiting : MT := (yX11_waiting, cX11_waiting, 2, (some .int))
theorem mo_X11_waiting : mOK M_X11_waiting 1 := ⟨gt5 2 rfl rfl, gt1 1 rfl rfl, ⟨by decide +kernel, by decide +kernel, by decide +kernel⟩, by decide +kernel, by decide⟩
abbrev M_X1_waitOfAll : MT := (yX1_waitOfAll, cX1_waitOfAll, 4, (some .int))
theorem mo_X1_waitOfAll : mOK M_X1_waitOfAll 1 := ⟨gt5 6 rfl rfl, gt1 10 rfl rfl, ⟨by decide +kernel, by decide +kernel, by decide +kernel⟩, by decide +kernel, by decide⟩
abbrev M_X1_waitOf : MT := (yX1_waitOf, cX1_waitOf, 3, (some .int))
theorem mo_X1_waitOf : mOK M_X1_waitOf 2 := ⟨gt5 11 rfl rfl, gt1 10 rfl rfl, ⟨by decide +kernel, by decide +kernel, by decide +kernel⟩, by decide +kernel, by decide⟩
abbrev M_X11_about : MT := (yX11_about, cX11_about, 2, (some .int))
theorem mo_X11_about : mOK M_X11_about 1 := ⟨gt5 15 rfl rfl, gt1 1 rfl rfl, ⟨by decide +kernel, by decide +kernel, by decide +kernel⟩, by decide +kernel, by decide⟩
abbrev M_X6_findAbout : MT := (yX6_findAbout, cX6_findAbout, 2, none)
theorem mo_X6_findAbout : mOK M_X6_findAbout 1 := ⟨gt5 19 rfl rfl, gt1 11 rfl rfl, ⟨by decide +kernel, by decide +kernel, by decide +kernel⟩, by decide +kernel, by decide⟩
abbrev M_X6_startOver : MT := (yX6_startOver, cX6_startOver, 2, none)
theorem mo_X6_startOver : mOK M_X6_startOver 1 := ⟨gt5 23 rfl rfl, gt1 11 rfl rfl, ⟨by decide +kernel, by decide +kernel, by decide +kernel⟩, by decide +kernel, by decide⟩
abbrev M_X6_place : MT := (yX6_place, cX6_place, 4, none)
theorem mo_X6_place : mOK M_X6_place 1 := ⟨gt5 31 rfl rfl, gt1 11 rfl rfl, ⟨by decide +kernel, by decide +kernel, by decide +kernel⟩, by decide +kernel, by decide⟩
abbrev M_X6_keepIfAsTold : MT := (yX6_keepIfAsTold, cX6_keepIfAsTold, 4, none)
theorem mo_X6_keepIfAsTold : mOK M_X6_keepIfAsTold 0 := ⟨gt5 35 rfl rfl, gt1 11 rfl rfl, ⟨by decide +kernel, by decide +kernel, by decide +kernel⟩, by decide +kernel, by decide⟩
abbrev M_X6_keepIfBetter : MT := (yX6_keepIfBetter, cX6_keepIfBetter, 3, none)
theorem mo_X6_keepIfBetter : mOK M_X6_keepIfBetter 0 := ⟨gt5 41 rfl rfl, gt1 11 rfl rfl, ⟨by decide +kernel, by decide +kernel, by decide +kernel⟩, by decide +kernel, by decide⟩
abbrev M_X6_mayHave : MT := (yX6_mayHave, cX6_mayHave, 3, (some .boolean))
theorem mo_X6_mayHave : mOK M_X6_mayHave 2 := ⟨gt5 48 rfl rfl, gt1 11 rfl rfl, ⟨by decide +kernel, by decide +kernel, by decide +kernel⟩, by decide +kernel, by decide⟩
abbrev M_X11_trade : MT := (yX11_trade, cX11_trade, 2, (some .int))
theorem mo_X11_trade : mOK M_X11_trade 1 := ⟨gt5 53 rfl rfl, gt1 1 rfl rfl, ⟨by decide +kernel, by decide +kernel, by decide +kernel⟩, by decide +kernel, by decide⟩
abbrev M_X10_settle : MT := (yX10_settle, cX10_settle, 4, none)
theorem mo_X10_settle : mOK M_X10_settle 1 := ⟨gt5 57 rfl rfl, gt1 12 rfl rfl, ⟨by decide +kernel, by decide +kernel, by decide +kernel⟩, by decide +kernel, by decide⟩
abbrev M_X10_pointAll : MT := (yX10_pointAll, cX10_pointAll, 3, none)
theorem mo_X10_pointAll : mOK M_X10_pointAll 1 := ⟨gt5 63 rfl rfl, gt1 12 rfl rfl, ⟨by decide +kernel, by decide +kernel, by decide +kernel⟩, by decide +kernel, by decide⟩
abbrev M_X10_wishedHolder : MT := (yX10_wishedHolder, cX10_wishedHolder, 9, (some .int))
theorem mo_X10_wishedHolder : mOK M_X10_wishedHolder 2 := ⟨gt5 67 rfl rfl, gt1 12 rfl rfl, ⟨by decide +kernel, by decide +kernel, by decide +kernel⟩, by decide +kernel, by decide⟩
abbrev M_X10_takeRings : MT := (yX10_takeRings, cX10_takeRings, 3, none)
theorem mo_X10_takeRings : mOK M_X10_takeRings 1 := ⟨gt5 72 rfl rfl, gt1 12 rfl rfl, ⟨by decide +kernel, by decide +kernel, by decide +kernel⟩, by decide +kernel, by decide⟩
abbrev M_X10_isInRing : MT := (yX10_isInRing, cX10_isInRing, 5, (some .boolean))
theorem mo_X10_isInRing : mOK M_X10_isInRing 1 := ⟨gt5 76 rfl rfl, gt1 12 rfl rfl, ⟨by decide +kernel, by decide +kernel, by decide +kernel⟩, by decide +kernel, by decide⟩
abbrev M_X11_both : MT := (yX11_both, cX11_both, 5, (some .int))
theorem mo_X11_both : mOK M_X11_both 1 := ⟨gt5 81 rfl rfl, gt1 1 rfl rfl, ⟨by decide +kernel, by decide +kernel, by decide +kernel⟩, by decide +kernel, by decide⟩
abbrev M_X10_bothWouldSwap : MT := (yX10_bothWouldSwap, cX10_bothWouldSwap, 7, (some .boolean))
theorem mo_X10_bothWouldSwap : mOK M_X10_bothWouldSwap 3 := ⟨gt5 85 rfl rfl, gt1 12 rfl rfl, ⟨by decide +kernel, by decide +kernel, by decide +kernel⟩, by decide +kernel, by decide⟩
abbrev M_X10_wantsMore : MT := (yX10_wantsMore, cX10_wantsMore, 5, (some .boolean))
theorem mo_X10_wantsMore : mOK M_X10_wantsMore 4 := ⟨gt5 88 rfl rfl, gt1 12 rfl rfl, ⟨by decide +kernel, by decide +kernel, by decide +kernel⟩, by decide +kernel, by decide⟩
abbrev M_X11_take : MT := (yX11_take, cX11_take, 2, (some .int))
theorem mo_X11_take : mOK M_X11_take 1 := ⟨gt5 92 rfl rfl, gt1 1 rfl rfl, ⟨by decide +kernel, by decide +kernel, by decide +kernel⟩, by decide +kernel, by decide⟩
abbrev M_X6_earliestDone : MT := (yX6_earliestDone, cX6_earliestDone, 7, (some .int))
theorem mo_X6_earliestDone : mOK M_X6_earliestDone 1 := ⟨gt5 96 rfl rfl, gt1 11 rfl rfl, ⟨by decide +kernel, by decide +kernel, by decide +kernel⟩, by decide +kernel, by decide⟩
abbrev M_X11_desks : MT := (yX11_desks, cX11_desks, 4, (some .int))
theorem mo_X11_desks : mOK M_X11_desks 2 := ⟨gt5 100 rfl rfl, gt1 1 rfl rfl, ⟨by decide +kernel, by decide +kernel, by decide +kernel⟩, by decide +kernel, by decide⟩
abbrev M_X6_fewestDesks : MT := (yX6_fewestDesks, cX6_fewestDesks, 5, (some .int))
theorem mo_X6_fewestDesks : mOK M_X6_fewestDesks 1 := ⟨gt5 104 rfl rfl, gt1 11 rfl rfl, ⟨by decide +kernel, by decide +kernel, by decide +kernel⟩, by decide +kernel, by decide⟩
abbrev M_J6_bitCount_0f7a4 : MT := (yJ6_bitCount_0f7a4, cJ6_bitCount_0f7a4, 1, (some .int))
theorem mo_J6_bitCount_0f7a4 : mOK M_J6_bitCount_0f7a4 1 := ⟨gt5 107 rfl rfl, gt1 21 rfl rfl, ⟨by decide +kernel, by decide +kernel, by decide +kernel⟩, by decide +kernel, by decide⟩
abbrev M_X6_areDone : MT := (yX6_areDone, cX6_areDone, 5, (some .boolean))
theorem mo_X6_areDone : mOK M_X6_areDone 2 := ⟨gt5 114 rfl rfl, gt1 11 rfl rfl, ⟨by decide +kernel, by decide +kernel, by decide +kernel⟩, by decide +kernel, by decide⟩
abbrev M_X11_told : MT := (yX11_told, cX11_told, 3, (some .int))
theorem mo_X11_told : mOK M_X11_told 2 := ⟨gt5 119 rfl rfl, gt1 1 rfl rfl, ⟨by decide +kernel, by decide +kernel, by decide +kernel⟩, by decide +kernel, by decide⟩
abbrev M_X11_forget : MT := (yX11_forget, cX11_forget, 2, (some .int))
theorem mo_X11_forget : mOK M_X11_forget 0 := ⟨gt5 123 rfl rfl, gt1 1 rfl rfl, ⟨by decide +kernel, by decide +kernel, by decide +kernel⟩, by decide +kernel, by decide⟩
abbrev M_X11_had : MT := (yX11_had, cX11_had, 3, (some .int))
theorem mo_X11_had : mOK M_X11_had 2 := ⟨gt5 127 rfl rfl, gt1 1 rfl rfl, ⟨by decide +kernel, by decide +kernel, by decide +kernel⟩, by decide +kernel, by decide⟩
abbrev M_X6_findWays : MT := (yX6_findWays, cX6_findWays, 2, none)
theorem mo_X6_findWays : mOK M_X6_findWays 1 := ⟨gt5 131 rfl rfl, gt1 11 rfl rfl, ⟨by decide +kernel, by decide +kernel, by decide +kernel⟩, by decide +kernel, by decide⟩
abbrev M_X6_ticketIn : MT := (yX6_ticketIn, cX6_ticketIn, 3, (some .int))
theorem mo_X6_ticketIn : mOK M_X6_ticketIn 2 := ⟨gt5 135 rfl rfl, gt1 11 rfl rfl, ⟨by decide +kernel, by decide +kernel, by decide +kernel⟩, by decide +kernel, by decide⟩
abbrev M_X11_ask : MT := (yX11_ask, cX11_ask, 6, (some .int))
theorem mo_X11_ask : mOK M_X11_ask 1 := ⟨gt5 139 rfl rfl, gt1 1 rfl rfl, ⟨by decide +kernel, by decide +kernel, by decide +kernel⟩, by decide +kernel, by decide⟩
abbrev M_X6_mostWaysAlike : MT := (yX6_mostWaysAlike, cX6_mostWaysAlike, 5, (some .int))
theorem mo_X6_mostWaysAlike : mOK M_X6_mostWaysAlike 1 := ⟨gt5 143 rfl rfl, gt1 11 rfl rfl, ⟨by decide +kernel, by decide +kernel, by decide +kernel⟩, by decide +kernel, by decide⟩
abbrev M_X11_few : MT := (yX11_few, cX11_few, 7, (some .long))
theorem mo_X11_few : mOK M_X11_few 2 := ⟨gt5 148 rfl rfl, gt1 1 rfl rfl, ⟨by decide +kernel, by decide +kernel, by decide +kernel⟩, by decide +kernel, by decide⟩
abbrev M_J7_fill_d0a16 : MT := (yJ7_fill_d0a16, cJ7_fill_d0a16, 5, none)
theorem mo_J7_fill_d0a16 : mOK M_J7_fill_d0a16 2 := ⟨gt5 152 rfl rfl, gt1 4 rfl rfl, ⟨by decide +kernel, by decide +kernel, by decide +kernel⟩, by decide +kernel, by decide⟩
abbrev M_X11_compare : MT := (yX11_compare, cX11_compare, 2, (some .int))
theorem mo_X11_compare : mOK M_X11_compare 1 := ⟨gt5 158 rfl rfl, gt1 1 rfl rfl, ⟨by decide +kernel, by decide +kernel, by decide +kernel⟩, by decide +kernel, by decide⟩
abbrev M_X11_days : MT := (yX11_days, cX11_days, 5, (some .int))
theorem mo_X11_days : mOK M_X11_days 2 := ⟨gt5 163 rfl rfl, gt1 1 rfl rfl, ⟨by decide +kernel, by decide +kernel, by decide +kernel⟩, by decide +kernel, by decide⟩
abbrev M_X0_byLot : MT := (yX0_byLot, cX0_byLot, 5, (some .int))
theorem mo_X0_byLot : mOK M_X0_byLot 1 := ⟨gt5 168 rfl rfl, gt1 9 rfl rfl, ⟨by decide +kernel, by decide +kernel, by decide +kernel⟩, by decide +kernel, by decide⟩
abbrev M_X0_lot : MT := (yX0_lot, cX0_lot, 2, (some .int))
theorem mo_X0_lot : mOK M_X0_lot 1 := ⟨gt5 172 rfl rfl, gt1 9 rfl rfl, ⟨by decide +kernel, by decide +kernel, by decide +kernel⟩, by decide +kernel, by decide⟩
abbrev M_X11_drawn : MT := (yX11_drawn, cX11_drawn, 2, (some .int))
theorem mo_X11_drawn : mOK M_X11_drawn 1 := ⟨gt5 183 rfl rfl, gt1 1 rfl rfl, ⟨by decide +kernel, by decide +kernel, by decide +kernel⟩, by decide +kernel, by decide⟩
abbrev M_X11_image : MT := (yX11_image, cX11_image, 2, (some .int))
theorem mo_X11_image : mOK M_X11_image 1 := ⟨gt5 187 rfl rfl, gt1 1 rfl rfl, ⟨by decide +kernel, by decide +kernel, by decide +kernel⟩, by decide +kernel, by decide⟩
abbrev M_X11_back : MT := (yX11_back, cX11_back, 2, (some .int))
theorem mo_X11_back : mOK M_X11_back 1 := ⟨gt5 191 rfl rfl, gt1 1 rfl rfl, ⟨by decide +kernel, by decide +kernel, by decide +kernel⟩, by decide +kernel, by decide⟩
abbrev M_X11_count : MT := (yX11_count, cX11_count, 2, (some .int))
theorem mo_X11_count : mOK M_X11_count 1 := ⟨gt5 195 rfl rfl, gt1 1 rfl rfl, ⟨by decide +kernel, by decide +kernel, by decide +kernel⟩, by decide +kernel, by decide⟩
abbrev M_X11_status : MT := (yX11_status, cX11_status, 1, (some .int))
theorem mo_X11_status : mOK M_X11_status 0 := ⟨gt5 200 rfl rfl, gt1 1 rfl rfl, ⟨by decide +kernel, by decide +kernel, by decide +kernel⟩, by decide +kernel, by decide⟩
abbrev M_X12_init : MT := (yX12_init, cX12_init, 2, none)
theorem mo_X12_init : mOK M_X12_init 0 := ⟨gt5 205 rfl rfl, gt1 14 rfl rfl, ⟨by decide +kernel, by decide +kernel, by decide +kernel⟩, by decide +kernel, by decide⟩
abbrev M_X12_image : MT := (yX12_image, cX12_image, 3, (some .int))
theorem mo_X12_image : mOK M_X12_image 1 := ⟨gt6 151 rfl rfl, gt1 14 rfl rfl, ⟨by decide +kernel, by decide +kernel, by decide +kernel⟩, by decide +kernel, by decide⟩
abbrev M_X12_lies : MT := (yX12_lies, cX12_lies, 3, (some .boolean))
theorem mo_X12_lies : mOK M_X12_lies 3 := ⟨gt6 154 rfl rfl, gt1 14 rfl rfl, ⟨by decide +kernel, by decide +kernel, by decide +kernel⟩, by decide +kernel, by decide⟩
abbrev M_X12_refuses : MT := (yX12_refuses, cX12_refuses, 2, (some .int))
theorem mo_X12_refuses : mOK M_X12_refuses 1 := ⟨gt6 158 rfl rfl, gt1 14 rfl rfl, ⟨by decide +kernel, by decide +kernel, by decide +kernel⟩, by decide +kernel, by decide⟩
abbrev M_X12_good : MT := (yX12_good, cX12_good, 2, (some .int))
theorem mo_X12_good : mOK M_X12_good 1 := ⟨gt6 162 rfl rfl, gt1 14 rfl rfl, ⟨by decide +kernel, by decide +kernel, by decide +kernel⟩, by decide +kernel, by decide⟩
abbrev M_X12_back : MT := (yX12_back, cX12_back, 3, (some .int))
theorem mo_X12_back : mOK M_X12_back 1 := ⟨gt6 166 rfl rfl, gt1 14 rfl rfl, ⟨by decide +kernel, by decide +kernel, by decide +kernel⟩, by decide +kernel, by decide⟩
abbrev M_X12_goodAnew : MT := (yX12_goodAnew, cX12_goodAnew, 2, (some .int))
theorem mo_X12_goodAnew : mOK M_X12_goodAnew 1 := ⟨gt6 170 rfl rfl, gt1 14 rfl rfl, ⟨by decide +kernel, by decide +kernel, by decide +kernel⟩, by decide +kernel, by decide⟩
abbrev M_X12_person : MT := (yX12_person, cX12_person, 5, (some .int))
theorem mo_X12_person : mOK M_X12_person 2 := ⟨gt6 174 rfl rfl, gt1 14 rfl rfl, ⟨by decide +kernel, by decide +kernel, by decide +kernel⟩, by decide +kernel, by decide⟩
abbrev M_X12_isKind : MT := (yX12_isKind, cX12_isKind, 1, (some .boolean))
theorem mo_X12_isKind : mOK M_X12_isKind 1 := ⟨gt6 177 rfl rfl, gt1 14 rfl rfl, ⟨by decide +kernel, by decide +kernel, by decide +kernel⟩, by decide +kernel, by decide⟩
abbrev M_X12_of : MT := (yX12_of, cX12_of, 3, (some .int))
theorem mo_X12_of : mOK M_X12_of 2 := ⟨gt6 181 rfl rfl, gt1 14 rfl rfl, ⟨by decide +kernel, by decide +kernel, by decide +kernel⟩, by decide +kernel, by decide⟩
abbrev M_X12_isPerson : MT := (yX12_isPerson, cX12_isPerson, 2, (some .boolean))
theorem mo_X12_isPerson : mOK M_X12_isPerson 1 := ⟨gt6 185 rfl rfl, gt1 14 rfl rfl, ⟨by decide +kernel, by decide +kernel, by decide +kernel⟩, by decide +kernel, by decide⟩
abbrev M_X12_costOf : MT := (yX12_costOf, cX12_costOf, 2, (some .int))
theorem mo_X12_costOf : mOK M_X12_costOf 1 := ⟨gt6 189 rfl rfl, gt1 14 rfl rfl, ⟨by decide +kernel, by decide +kernel, by decide +kernel⟩, by decide +kernel, by decide⟩
abbrev M_X12_tells : MT := (yX12_tells, cX12_tells, 15, (some .int))
theorem mo_X12_tells : mOK M_X12_tells 7 := ⟨gt6 193 rfl rfl, gt1 14 rfl rfl, ⟨by decide +kernel, by decide +kernel, by decide +kernel⟩, by decide +kernel, by decide⟩
abbrev M_X12_setsAsked : MT := (yX12_setsAsked, cX12_setsAsked, 4, none)
theorem mo_X12_setsAsked : mOK M_X12_setsAsked 3 := ⟨gt6 197 rfl rfl, gt1 14 rfl rfl, ⟨by decide +kernel, by decide +kernel, by decide +kernel⟩, by decide +kernel, by decide⟩
abbrev M_X12_codeAt : MT := (yX12_codeAt, cX12_codeAt, 2, (some .int))
theorem mo_X12_codeAt : mOK M_X12_codeAt 1 := ⟨gt6 201 rfl rfl, gt1 14 rfl rfl, ⟨by decide +kernel, by decide +kernel, by decide +kernel⟩, by decide +kernel, by decide⟩
abbrev M_X12_sumOf : MT := (yX12_sumOf, cX12_sumOf, 7, (some .long))
theorem mo_X12_sumOf : mOK M_X12_sumOf 1 := ⟨gt6 205 rfl rfl, gt1 14 rfl rfl, ⟨by decide +kernel, by decide +kernel, by decide +kernel⟩, by decide +kernel, by decide⟩
abbrev M_X12_termOf : MT := (yX12_termOf, cX12_termOf, 7, (some .long))
theorem mo_X12_termOf : mOK M_X12_termOf 1 := ⟨gt6 209 rfl rfl, gt1 14 rfl rfl, ⟨by decide +kernel, by decide +kernel, by decide +kernel⟩, by decide +kernel, by decide⟩
abbrev M_X12_partOf : MT := (yX12_partOf, cX12_partOf, 4, (some .long))
theorem mo_X12_partOf : mOK M_X12_partOf 1 := ⟨gt6 213 rfl rfl, gt1 14 rfl rfl, ⟨by decide +kernel, by decide +kernel, by decide +kernel⟩, by decide +kernel, by decide⟩
abbrev M_X12_sign : MT := (yX12_sign, cX12_sign, 1, (some .int))
theorem mo_X12_sign : mOK M_X12_sign 1 := ⟨gt6 216 rfl rfl, gt1 14 rfl rfl, ⟨by decide +kernel, by decide +kernel, by decide +kernel⟩, by decide +kernel, by decide⟩
abbrev M_X12_passes0 : MT := (yX12_passes0, cX12_passes0, 3, (some .boolean))
theorem mo_X12_passes0 : mOK M_X12_passes0 1 := ⟨gt6 220 rfl rfl, gt1 14 rfl rfl, ⟨by decide +kernel, by decide +kernel, by decide +kernel⟩, by decide +kernel, by decide⟩
abbrev M_X12_orderValue : MT := (yX12_orderValue, cX12_orderValue, 3, (some .int))
theorem mo_X12_orderValue : mOK M_X12_orderValue 2 := ⟨gt6 224 rfl rfl, gt1 14 rfl rfl, ⟨by decide +kernel, by decide +kernel, by decide +kernel⟩, by decide +kernel, by decide⟩
abbrev M_X12_heldMany : MT := (yX12_heldMany, cX12_heldMany, 3, (some .int))
theorem mo_X12_heldMany : mOK M_X12_heldMany 0 := ⟨gt6 228 rfl rfl, gt1 14 rfl rfl, ⟨by decide +kernel, by decide +kernel, by decide +kernel⟩, by decide +kernel, by decide⟩
abbrev M_X12_holds : MT := (yX12_holds, cX12_holds, 2, (some .boolean))
theorem mo_X12_holds : mOK M_X12_holds 1 := ⟨gt6 232 rfl rfl, gt1 14 rfl rfl, ⟨by decide +kernel, by decide +kernel, by decide +kernel⟩, by decide +kernel, by decide⟩
abbrev M_X12_bounded : MT := (yX12_bounded, cX12_bounded, 4, (some .long))
theorem mo_X12_bounded : mOK M_X12_bounded 2 := ⟨gt6 236 rfl rfl, gt1 14 rfl rfl, ⟨by decide +kernel, by decide +kernel, by decide +kernel⟩, by decide +kernel, by decide⟩
abbrev M_X12_testOf : MT := (yX12_testOf, cX12_testOf, 4, (some .boolean))
theorem mo_X12_testOf : mOK M_X12_testOf 1 := ⟨gt7 2 rfl rfl, gt1 14 rfl rfl, ⟨by decide +kernel, by decide +kernel, by decide +kernel⟩, by decide +kernel, by decide⟩
abbrev M_X12_bothOf : MT := (yX12_bothOf, cX12_bothOf, 4, (some .boolean))
theorem mo_X12_bothOf : mOK M_X12_bothOf 1 := ⟨gt7 6 rfl rfl, gt1 14 rfl rfl, ⟨by decide +kernel, by decide +kernel, by decide +kernel⟩, by decide +kernel, by decide⟩
abbrev M_X12_plainOf : MT := (yX12_plainOf, cX12_plainOf, 3, (some .boolean))
theorem mo_X12_plainOf : mOK M_X12_plainOf 1 := ⟨gt7 10 rfl rfl, gt1 14 rfl rfl, ⟨by decide +kernel, by decide +kernel, by decide +kernel⟩, by decide +kernel, by decide⟩
abbrev M_X12_positiveOf : MT := (yX12_positiveOf, cX12_positiveOf, 7, (some .boolean))
theorem mo_X12_positiveOf : mOK M_X12_positiveOf 1 := ⟨gt7 14 rfl rfl, gt1 14 rfl rfl, ⟨by decide +kernel, by decide +kernel, by decide +kernel⟩, by decide +kernel, by decide⟩
abbrev M_X12_ticket : MT := (yX12_ticket, cX12_ticket, 3, (some .int))
theorem mo_X12_ticket : mOK M_X12_ticket 2 := ⟨gt7 18 rfl rfl, gt1 14 rfl rfl, ⟨by decide +kernel, by decide +kernel, by decide +kernel⟩, by decide +kernel, by decide⟩
abbrev M_X12_canTicket : MT := (yX12_canTicket, cX12_canTicket, 3, (some .boolean))
theorem mo_X12_canTicket : mOK M_X12_canTicket 2 := ⟨gt7 22 rfl rfl, gt1 14 rfl rfl, ⟨by decide +kernel, by decide +kernel, by decide +kernel⟩, by decide +kernel, by decide⟩
abbrev M_X12_isNumbered : MT := (yX12_isNumbered, cX12_isNumbered, 4, (some .boolean))
theorem mo_X12_isNumbered : mOK M_X12_isNumbered 1 := ⟨gt7 26 rfl rfl, gt1 14 rfl rfl, ⟨by decide +kernel, by decide +kernel, by decide +kernel⟩, by decide +kernel, by decide⟩
abbrev M_X12_addsTicket : MT := (yX12_addsTicket, cX12_addsTicket, 5, none)
theorem mo_X12_addsTicket : mOK M_X12_addsTicket 2 := ⟨gt7 30 rfl rfl, gt1 14 rfl rfl, ⟨by decide +kernel, by decide +kernel, by decide +kernel⟩, by decide +kernel, by decide⟩
abbrev M_X12_at : MT := (yX12_at, cX12_at, 3, (some .int))
theorem mo_X12_at : mOK M_X12_at 2 := ⟨gt7 34 rfl rfl, gt1 14 rfl rfl, ⟨by decide +kernel, by decide +kernel, by decide +kernel⟩, by decide +kernel, by decide⟩
abbrev M_X12_isTicket : MT := (yX12_isTicket, cX12_isTicket, 2, (some .boolean))
theorem mo_X12_isTicket : mOK M_X12_isTicket 1 := ⟨gt7 38 rfl rfl, gt1 14 rfl rfl, ⟨by decide +kernel, by decide +kernel, by decide +kernel⟩, by decide +kernel, by decide⟩
abbrev M_X12_holderOf : MT := (yX12_holderOf, cX12_holderOf, 4, (some .int))
theorem mo_X12_holderOf : mOK M_X12_holderOf 1 := ⟨gt7 42 rfl rfl, gt1 14 rfl rfl, ⟨by decide +kernel, by decide +kernel, by decide +kernel⟩, by decide +kernel, by decide⟩
abbrev M_X12_wish : MT := (yX12_wish, cX12_wish, 5, (some .int))
theorem mo_X12_wish : mOK M_X12_wish 3 := ⟨gt7 46 rfl rfl, gt1 14 rfl rfl, ⟨by decide +kernel, by decide +kernel, by decide +kernel⟩, by decide +kernel, by decide⟩
abbrev M_X12_wishOf : MT := (yX12_wishOf, cX12_wishOf, 3, (some .int))
theorem mo_X12_wishOf : mOK M_X12_wishOf 2 := ⟨gt7 50 rfl rfl, gt1 14 rfl rfl, ⟨by decide +kernel, by decide +kernel, by decide +kernel⟩, by decide +kernel, by decide⟩
abbrev M_X12_desk : MT := (yX12_desk, cX12_desk, 4, (some .int))
theorem mo_X12_desk : mOK M_X12_desk 2 := ⟨gt7 54 rfl rfl, gt1 14 rfl rfl, ⟨by decide +kernel, by decide +kernel, by decide +kernel⟩, by decide +kernel, by decide⟩
abbrev M_X12_asks : MT := (yX12_asks, cX12_asks, 4, (some .int))
theorem mo_X12_asks : mOK M_X12_asks 3 := ⟨gt7 58 rfl rfl, gt1 14 rfl rfl, ⟨by decide +kernel, by decide +kernel, by decide +kernel⟩, by decide +kernel, by decide⟩
abbrev M_X12_isFit : MT := (yX12_isFit, cX12_isFit, 3, (some .boolean))
theorem mo_X12_isFit : mOK M_X12_isFit 2 := ⟨gt7 62 rfl rfl, gt1 14 rfl rfl, ⟨by decide +kernel, by decide +kernel, by decide +kernel⟩, by decide +kernel, by decide⟩
abbrev M_X12_isBarred : MT := (yX12_isBarred, cX12_isBarred, 3, (some .boolean))
theorem mo_X12_isBarred : mOK M_X12_isBarred 2 := ⟨gt7 66 rfl rfl, gt1 14 rfl rfl, ⟨by decide +kernel, by decide +kernel, by decide +kernel⟩, by decide +kernel, by decide⟩
abbrev M_X12_takesAt : MT := (yX12_takesAt, cX12_takesAt, 4, (some .int))
theorem mo_X12_takesAt : mOK M_X12_takesAt 3 := ⟨gt7 70 rfl rfl, gt1 14 rfl rfl, ⟨by decide +kernel, by decide +kernel, by decide +kernel⟩, by decide +kernel, by decide⟩
abbrev M_X12_terms : MT := (yX12_terms, cX12_terms, 4, (some .int))
theorem mo_X12_terms : mOK M_X12_terms 2 := ⟨gt7 74 rfl rfl, gt1 14 rfl rfl, ⟨by decide +kernel, by decide +kernel, by decide +kernel⟩, by decide +kernel, by decide⟩
abbrev M_X12_isTerm : MT := (yX12_isTerm, cX12_isTerm, 2, (some .boolean))
theorem mo_X12_isTerm : mOK M_X12_isTerm 2 := ⟨gt7 77 rfl rfl, gt1 14 rfl rfl, ⟨by decide +kernel, by decide +kernel, by decide +kernel⟩, by decide +kernel, by decide⟩
abbrev M_X12_termAt : MT := (yX12_termAt, cX12_termAt, 1, (some .int))
theorem mo_X12_termAt : mOK M_X12_termAt 1 := ⟨gt7 80 rfl rfl, gt1 14 rfl rfl, ⟨by decide +kernel, by decide +kernel, by decide +kernel⟩, by decide +kernel, by decide⟩
abbrev M_X12_row : MT := (yX12_row, cX12_row, 5, (some .int))
theorem mo_X12_row : mOK M_X12_row 0 := ⟨gt7 84 rfl rfl, gt1 14 rfl rfl, ⟨by decide +kernel, by decide +kernel, by decide +kernel⟩, by decide +kernel, by decide⟩
abbrev M_X12_scraps : MT := (yX12_scraps, cX12_scraps, 1, (some .int))
theorem mo_X12_scraps : mOK M_X12_scraps 0 := ⟨gt7 88 rfl rfl, gt1 14 rfl rfl, ⟨by decide +kernel, by decide +kernel, by decide +kernel⟩, by decide +kernel, by decide⟩
abbrev M_X12_feed : MT := (yX12_feed, cX12_feed, 7, (some .int))
theorem mo_X12_feed : mOK M_X12_feed 5 := ⟨gt7 92 rfl rfl, gt1 14 rfl rfl, ⟨by decide +kernel, by decide +kernel, by decide +kernel⟩, by decide +kernel, by decide⟩
abbrev M_X12_end : MT := (yX12_end, cX12_end, 2, (some .int))
theorem mo_X12_end : mOK M_X12_end 1 := ⟨gt7 96 rfl rfl, gt1 14 rfl rfl, ⟨by decide +kernel, by decide +kernel, by decide +kernel⟩, by decide +kernel, by decide⟩
abbrev M_X12_law : MT := (yX12_law, cX12_law, 1, (some .int))
theorem mo_X12_law : mOK M_X12_law 0 := ⟨gt7 100 rfl rfl, gt1 14 rfl rfl, ⟨by decide +kernel, by decide +kernel, by decide +kernel⟩, by decide +kernel, by decide⟩
abbrev M_X12_readsAs : MT := (yX12_readsAs, cX12_readsAs, 2, (some .boolean))
theorem mo_X12_readsAs : mOK M_X12_readsAs 1 := ⟨gt7 104 rfl rfl, gt1 14 rfl rfl, ⟨by decide +kernel, by decide +kernel, by decide +kernel⟩, by decide +kernel, by decide⟩
abbrev M_X12_reads : MT := (yX12_reads, cX12_reads, 2, (some .boolean))
theorem mo_X12_reads : mOK M_X12_reads 0 := ⟨gt7 108 rfl rfl, gt1 14 rfl rfl, ⟨by decide +kernel, by decide +kernel, by decide +kernel⟩, by decide +kernel, by decide⟩
abbrev M_X12_splits : MT := (yX12_splits, cX12_splits, 6, none)
theorem mo_X12_splits : mOK M_X12_splits 1 := ⟨gt7 112 rfl rfl, gt1 14 rfl rfl, ⟨by decide +kernel, by decide +kernel, by decide +kernel⟩, by decide +kernel, by decide⟩
abbrev M_X12_isSmall : MT := (yX12_isSmall, cX12_isSmall, 1, (some .boolean))
theorem mo_X12_isSmall : mOK M_X12_isSmall 1 := ⟨gt7 115 rfl rfl, gt1 14 rfl rfl, ⟨by decide +kernel, by decide +kernel, by decide +kernel⟩, by decide +kernel, by decide⟩
abbrev M_X12_isDigit : MT := (yX12_isDigit, cX12_isDigit, 1, (some .boolean))
theorem mo_X12_isDigit : mOK M_X12_isDigit 1 := ⟨gt7 118 rfl rfl, gt1 14 rfl rfl, ⟨by decide +kernel, by decide +kernel, by decide +kernel⟩, by decide +kernel, by decide⟩
abbrev M_X12_wordOf : MT := (yX12_wordOf, cX12_wordOf, 8, (some .int))
theorem mo_X12_wordOf : mOK M_X12_wordOf 2 := ⟨gt7 122 rfl rfl, gt1 14 rfl rfl, ⟨by decide +kernel, by decide +kernel, by decide +kernel⟩, by decide +kernel, by decide⟩
abbrev M_X12_readOne : MT := (yX12_readOne, cX12_readOne, 1, none)
theorem mo_X12_readOne : mOK M_X12_readOne 0 := ⟨gt7 127 rfl rfl, gt1 14 rfl rfl, ⟨by decide +kernel, by decide +kernel, by decide +kernel⟩, by decide +kernel, by decide⟩
abbrev M_X12_readOrder : MT := (yX12_readOrder, cX12_readOrder, 1, none)
theorem mo_X12_readOrder : mOK M_X12_readOrder 0 := ⟨gt7 131 rfl rfl, gt1 14 rfl rfl, ⟨by decide +kernel, by decide +kernel, by decide +kernel⟩, by decide +kernel, by decide⟩
abbrev M_X12_takes0 : MT := (yX12_takes0, cX12_takes0, 3, (some .boolean))
theorem mo_X12_takes0 : mOK M_X12_takes0 1 := ⟨gt7 135 rfl rfl, gt1 14 rfl rfl, ⟨by decide +kernel, by decide +kernel, by decide +kernel⟩, by decide +kernel, by decide⟩
abbrev M_X12_fine : MT := (yX12_fine, cX12_fine, 1, (some .boolean))
theorem mo_X12_fine : mOK M_X12_fine 0 := ⟨gt7 139 rfl rfl, gt1 14 rfl rfl, ⟨by decide +kernel, by decide +kernel, by decide +kernel⟩, by decide +kernel, by decide⟩
abbrev M_X12_readSum : MT := (yX12_readSum, cX12_readSum, 2, none)
theorem mo_X12_readSum : mOK M_X12_readSum 1 := ⟨gt7 143 rfl rfl, gt1 14 rfl rfl, ⟨by decide +kernel, by decide +kernel, by decide +kernel⟩, by decide +kernel, by decide⟩
abbrev M_X12_readTerm : MT := (yX12_readTerm, cX12_readTerm, 2, none)
theorem mo_X12_readTerm : mOK M_X12_readTerm 1 := ⟨gt7 147 rfl rfl, gt1 14 rfl rfl, ⟨by decide +kernel, by decide +kernel, by decide +kernel⟩, by decide +kernel, by decide⟩
abbrev M_X12_readPart : MT := (yX12_readPart, cX12_readPart, 3, none)
theorem mo_X12_readPart : mOK M_X12_readPart 1 := ⟨gt7 151 rfl rfl, gt1 14 rfl rfl, ⟨by decide +kernel, by decide +kernel, by decide +kernel⟩, by decide +kernel, by decide⟩
abbrev M_X12_faults : MT := (yX12_faults, cX12_faults, 1, none)
theorem mo_X12_faults : mOK M_X12_faults 0 := ⟨gt7 155 rfl rfl, gt1 14 rfl rfl, ⟨by decide +kernel, by decide +kernel, by decide +kernel⟩, by decide +kernel, by decide⟩
abbrev M_X12_must : MT := (yX12_must, cX12_must, 2, none)
theorem mo_X12_must : mOK M_X12_must 1 := ⟨gt7 159 rfl rfl, gt1 14 rfl rfl, ⟨by decide +kernel, by decide +kernel, by decide +kernel⟩, by decide +kernel, by decide⟩
abbrev M_X12_leaf : MT := (yX12_leaf, cX12_leaf, 1, none)
theorem mo_X12_leaf : mOK M_X12_leaf 0 := ⟨gt7 163 rfl rfl, gt1 14 rfl rfl, ⟨by decide +kernel, by decide +kernel, by decide +kernel⟩, by decide +kernel, by decide⟩
abbrev M_X12_mustNumber : MT := (yX12_mustNumber, cX12_mustNumber, 3, none)
theorem mo_X12_mustNumber : mOK M_X12_mustNumber 2 := ⟨gt7 167 rfl rfl, gt1 14 rfl rfl, ⟨by decide +kernel, by decide +kernel, by decide +kernel⟩, by decide +kernel, by decide⟩
abbrev M_X12_readTest : MT := (yX12_readTest, cX12_readTest, 2, none)
theorem mo_X12_readTest : mOK M_X12_readTest 1 := ⟨gt7 171 rfl rfl, gt1 14 rfl rfl, ⟨by decide +kernel, by decide +kernel, by decide +kernel⟩, by decide +kernel, by decide⟩
abbrev M_X12_readBoth : MT := (yX12_readBoth, cX12_readBoth, 2, none)
theorem mo_X12_readBoth : mOK M_X12_readBoth 1 := ⟨gt7 175 rfl rfl, gt1 14 rfl rfl, ⟨by decide +kernel, by decide +kernel, by decide +kernel⟩, by decide +kernel, by decide⟩
abbrev M_X12_readPlain : MT := (yX12_readPlain, cX12_readPlain, 4, none)
theorem mo_X12_readPlain : mOK M_X12_readPlain 1 := ⟨gt7 179 rfl rfl, gt1 14 rfl rfl, ⟨by decide +kernel, by decide +kernel, by decide +kernel⟩, by decide +kernel, by decide⟩
abbrev M_X12_readClause : MT := (yX12_readClause, cX12_readClause, 1, none)
theorem mo_X12_readClause : mOK M_X12_readClause 0 := ⟨gt7 183 rfl rfl, gt1 14 rfl rfl, ⟨by decide +kernel, by decide +kernel, by decide +kernel⟩, by decide +kernel, by decide⟩
abbrev M_X12_lays : MT := (yX12_lays, cX12_lays, 3, none)
theorem mo_X12_lays : mOK M_X12_lays 1 := ⟨gt7 187 rfl rfl, gt1 14 rfl rfl, ⟨by decide +kernel, by decide +kernel, by decide +kernel⟩, by decide +kernel, by decide⟩
abbrev M_X12_fault : MT := (yX12_fault, cX12_fault, 1, (some .int))
theorem mo_X12_fault : mOK M_X12_fault 0 := ⟨gt7 191 rfl rfl, gt1 14 rfl rfl, ⟨by decide +kernel, by decide +kernel, by decide +kernel⟩, by decide +kernel, by decide⟩
abbrev M_X12_force : MT := (yX12_force, cX12_force, 3, (some .int))
theorem mo_X12_force : mOK M_X12_force 1 := ⟨gt7 195 rfl rfl, gt1 14 rfl rfl, ⟨by decide +kernel, by decide +kernel, by decide +kernel⟩, by decide +kernel, by decide⟩
abbrev M_X12_isLaw : MT := (yX12_isLaw, cX12_isLaw, 2, (some .boolean))
theorem mo_X12_isLaw : mOK M_X12_isLaw 1 := ⟨gt7 199 rfl rfl, gt1 14 rfl rfl, ⟨by decide +kernel, by decide +kernel, by decide +kernel⟩, by decide +kernel, by decide⟩
abbrev M_X12_undo : MT := (yX12_undo, cX12_undo, 3, (some .int))
theorem mo_X12_undo : mOK M_X12_undo 0 := ⟨gt7 203 rfl rfl, gt1 14 rfl rfl, ⟨by decide +kernel, by decide +kernel, by decide +kernel⟩, by decide +kernel, by decide⟩
abbrev M_X12_draw : MT := (yX12_draw, cX12_draw, 3, (some .int))
theorem mo_X12_draw : mOK M_X12_draw 2 := ⟨gt7 207 rfl rfl, gt1 14 rfl rfl, ⟨by decide +kernel, by decide +kernel, by decide +kernel⟩, by decide +kernel, by decide⟩
abbrev M_X12_drawsKept : MT := (yX12_drawsKept, cX12_drawsKept, 3, (some .int))
theorem mo_X12_drawsKept : mOK M_X12_drawsKept 2 := ⟨gt7 211 rfl rfl, gt1 14 rfl rfl, ⟨by decide +kernel, by decide +kernel, by decide +kernel⟩, by decide +kernel, by decide⟩
abbrev M_X12_canDraw : MT := (yX12_canDraw, cX12_canDraw, 3, (some .boolean))
theorem mo_X12_canDraw : mOK M_X12_canDraw 2 := ⟨gt7 215 rfl rfl, gt1 14 rfl rfl, ⟨by decide +kernel, by decide +kernel, by decide +kernel⟩, by decide +kernel, by decide⟩
abbrev M_X12_keeps : MT := (yX12_keeps, cX12_keeps, 4, none)
theorem mo_X12_keeps : mOK M_X12_keeps 1 := ⟨gt7 219 rfl rfl, gt1 14 rfl rfl, ⟨by decide +kernel, by decide +kernel, by decide +kernel⟩, by decide +kernel, by decide⟩
abbrev M_X12_goodOr : MT := (yX12_goodOr, cX12_goodOr, 2, (some .int))
theorem mo_X12_goodOr : mOK M_X12_goodOr 1 := ⟨gt7 223 rfl rfl, gt1 14 rfl rfl, ⟨by decide +kernel, by decide +kernel, by decide +kernel⟩, by decide +kernel, by decide⟩
abbrev M_X12_swap : MT := (yX12_swap, cX12_swap, 3, (some .int))
theorem mo_X12_swap : mOK M_X12_swap 2 := ⟨gt7 227 rfl rfl, gt1 14 rfl rfl, ⟨by decide +kernel, by decide +kernel, by decide +kernel⟩, by decide +kernel, by decide⟩
abbrev M_X12_swapsKept : MT := (yX12_swapsKept, cX12_swapsKept, 3, (some .int))
theorem mo_X12_swapsKept : mOK M_X12_swapsKept 2 := ⟨gt7 231 rfl rfl, gt1 14 rfl rfl, ⟨by decide +kernel, by decide +kernel, by decide +kernel⟩, by decide +kernel, by decide⟩
abbrev M_X12_canSwap : MT := (yX12_canSwap, cX12_canSwap, 3, (some .boolean))
theorem mo_X12_canSwap : mOK M_X12_canSwap 2 := ⟨gt7 235 rfl rfl, gt1 14 rfl rfl, ⟨by decide +kernel, by decide +kernel, by decide +kernel⟩, by decide +kernel, by decide⟩
abbrev M_X12_swapsNow : MT := (yX12_swapsNow, cX12_swapsNow, 4, none)
theorem mo_X12_swapsNow : mOK M_X12_swapsNow 2 := ⟨gt7 239 rfl rfl, gt1 14 rfl rfl, ⟨by decide +kernel, by decide +kernel, by decide +kernel⟩, by decide +kernel, by decide⟩
abbrev M_X12_drop : MT := (yX12_drop, cX12_drop, 2, (some .int))
theorem mo_X12_drop : mOK M_X12_drop 1 := ⟨gt8 3 rfl rfl, gt1 14 rfl rfl, ⟨by decide +kernel, by decide +kernel, by decide +kernel⟩, by decide +kernel, by decide⟩
abbrev M_X12_dropsKept : MT := (yX12_dropsKept, cX12_dropsKept, 3, (some .int))
theorem mo_X12_dropsKept : mOK M_X12_dropsKept 1 := ⟨gt8 7 rfl rfl, gt1 14 rfl rfl, ⟨by decide +kernel, by decide +kernel, by decide +kernel⟩, by decide +kernel, by decide⟩
abbrev M_X12_pass : MT := (yX12_pass, cX12_pass, 1, (some .int))
theorem mo_X12_pass : mOK M_X12_pass 0 := ⟨gt8 11 rfl rfl, gt1 14 rfl rfl, ⟨by decide +kernel, by decide +kernel, by decide +kernel⟩, by decide +kernel, by decide⟩
abbrev M_X12_passesKept : MT := (yX12_passesKept, cX12_passesKept, 1, (some .int))
theorem mo_X12_passesKept : mOK M_X12_passesKept 0 := ⟨gt8 15 rfl rfl, gt1 14 rfl rfl, ⟨by decide +kernel, by decide +kernel, by decide +kernel⟩, by decide +kernel, by decide⟩
abbrev M_X12_day : MT := (yX12_day, cX12_day, 3, (some .int))
theorem mo_X12_day : mOK M_X12_day 2 := ⟨gt8 19 rfl rfl, gt1 14 rfl rfl, ⟨by decide +kernel, by decide +kernel, by decide +kernel⟩, by decide +kernel, by decide⟩
abbrev M_X12_allDesks : MT := (yX12_allDesks, cX12_allDesks, 1, (some .int))
theorem mo_X12_allDesks : mOK M_X12_allDesks 0 := ⟨gt8 23 rfl rfl, gt1 14 rfl rfl, ⟨by decide +kernel, by decide +kernel, by decide +kernel⟩, by decide +kernel, by decide⟩
abbrev M_X12_laysDay : MT := (yX12_laysDay, cX12_laysDay, 3, none)
theorem mo_X12_laysDay : mOK M_X12_laysDay 1 := ⟨gt8 27 rfl rfl, gt1 14 rfl rfl, ⟨by decide +kernel, by decide +kernel, by decide +kernel⟩, by decide +kernel, by decide⟩
abbrev M_X12_nextCalled : MT := (yX12_nextCalled, cX12_nextCalled, 4, (some .int))
theorem mo_X12_nextCalled : mOK M_X12_nextCalled 1 := ⟨gt8 31 rfl rfl, gt1 14 rfl rfl, ⟨by decide +kernel, by decide +kernel, by decide +kernel⟩, by decide +kernel, by decide⟩
abbrev M_X12_calls : MT := (yX12_calls, cX12_calls, 5, none)
theorem mo_X12_calls : mOK M_X12_calls 2 := ⟨gt8 35 rfl rfl, gt1 14 rfl rfl, ⟨by decide +kernel, by decide +kernel, by decide +kernel⟩, by decide +kernel, by decide⟩
abbrev M_X12_deskFor : MT := (yX12_deskFor, cX12_deskFor, 5, (some .int))
theorem mo_X12_deskFor : mOK M_X12_deskFor 2 := ⟨gt8 39 rfl rfl, gt1 14 rfl rfl, ⟨by decide +kernel, by decide +kernel, by decide +kernel⟩, by decide +kernel, by decide⟩
abbrev M_X12_isIn : MT := (yX12_isIn, cX12_isIn, 2, (some .boolean))
theorem mo_X12_isIn : mOK M_X12_isIn 2 := ⟨gt8 42 rfl rfl, gt1 14 rfl rfl, ⟨by decide +kernel, by decide +kernel, by decide +kernel⟩, by decide +kernel, by decide⟩
abbrev M_X12_waiting : MT := (yX12_waiting, cX12_waiting, 2, (some .int))
theorem mo_X12_waiting : mOK M_X12_waiting 1 := ⟨gt8 46 rfl rfl, gt1 14 rfl rfl, ⟨by decide +kernel, by decide +kernel, by decide +kernel⟩, by decide +kernel, by decide⟩
abbrev M_X12_waitOfAll : MT := (yX12_waitOfAll, cX12_waitOfAll, 3, (some .int))
theorem mo_X12_waitOfAll : mOK M_X12_waitOfAll 0 := ⟨gt8 50 rfl rfl, gt1 14 rfl rfl, ⟨by decide +kernel, by decide +kernel, by decide +kernel⟩, by decide +kernel, by decide⟩
abbrev M_X12_waitOf : MT := (yX12_waitOf, cX12_waitOf, 2, (some .int))
theorem mo_X12_waitOf : mOK M_X12_waitOf 1 := ⟨gt8 54 rfl rfl, gt1 14 rfl rfl, ⟨by decide +kernel, by decide +kernel, by decide +kernel⟩, by decide +kernel, by decide⟩
abbrev M_X12_compare : MT := (yX12_compare, cX12_compare, 4, (some .int))
theorem mo_X12_compare : mOK M_X12_compare 1 := ⟨gt8 58 rfl rfl, gt1 14 rfl rfl, ⟨by decide +kernel, by decide +kernel, by decide +kernel⟩, by decide +kernel, by decide⟩
abbrev M_X12_about : MT := (yX12_about, cX12_about, 2, (some .int))
theorem mo_X12_about : mOK M_X12_about 1 := ⟨gt8 62 rfl rfl, gt1 14 rfl rfl, ⟨by decide +kernel, by decide +kernel, by decide +kernel⟩, by decide +kernel, by decide⟩
abbrev M_X12_laysHolders : MT := (yX12_laysHolders, cX12_laysHolders, 3, none)
theorem mo_X12_laysHolders : mOK M_X12_laysHolders 0 := ⟨gt8 66 rfl rfl, gt1 14 rfl rfl, ⟨by decide +kernel, by decide +kernel, by decide +kernel⟩, by decide +kernel, by decide⟩
abbrev M_X12_laysAside : MT := (yX12_laysAside, cX12_laysAside, 3, none)
theorem mo_X12_laysAside : mOK M_X12_laysAside 1 := ⟨gt8 70 rfl rfl, gt1 14 rfl rfl, ⟨by decide +kernel, by decide +kernel, by decide +kernel⟩, by decide +kernel, by decide⟩
abbrev M_X12_triesAbout : MT := (yX12_triesAbout, cX12_triesAbout, 4, none)
theorem mo_X12_triesAbout : mOK M_X12_triesAbout 2 := ⟨gt8 74 rfl rfl, gt1 14 rfl rfl, ⟨by decide +kernel, by decide +kernel, by decide +kernel⟩, by decide +kernel, by decide⟩
abbrev M_X12_judges : MT := (yX12_judges, cX12_judges, 4, none)
theorem mo_X12_judges : mOK M_X12_judges 0 := ⟨gt8 78 rfl rfl, gt1 14 rfl rfl, ⟨by decide +kernel, by decide +kernel, by decide +kernel⟩, by decide +kernel, by decide⟩
abbrev M_X12_fitMany : MT := (yX12_fitMany, cX12_fitMany, 3, (some .int))
theorem mo_X12_fitMany : mOK M_X12_fitMany 0 := ⟨gt8 82 rfl rfl, gt1 14 rfl rfl, ⟨by decide +kernel, by decide +kernel, by decide +kernel⟩, by decide +kernel, by decide⟩
abbrev M_X12_takesBack : MT := (yX12_takesBack, cX12_takesBack, 3, none)
theorem mo_X12_takesBack : mOK M_X12_takesBack 1 := ⟨gt8 86 rfl rfl, gt1 14 rfl rfl, ⟨by decide +kernel, by decide +kernel, by decide +kernel⟩, by decide +kernel, by decide⟩
abbrev M_X12_trade : MT := (yX12_trade, cX12_trade, 3, (some .int))
theorem mo_X12_trade : mOK M_X12_trade 1 := ⟨gt8 90 rfl rfl, gt1 14 rfl rfl, ⟨by decide +kernel, by decide +kernel, by decide +kernel⟩, by decide +kernel, by decide⟩
abbrev M_X12_laysTrade : MT := (yX12_laysTrade, cX12_laysTrade, 5, (some .int))
theorem mo_X12_laysTrade : mOK M_X12_laysTrade 0 := ⟨gt8 94 rfl rfl, gt1 14 rfl rfl, ⟨by decide +kernel, by decide +kernel, by decide +kernel⟩, by decide +kernel, by decide⟩
abbrev M_X12_wishedMost : MT := (yX12_wishedMost, cX12_wishedMost, 6, (some .int))
theorem mo_X12_wishedMost : mOK M_X12_wishedMost 2 := ⟨gt8 98 rfl rfl, gt1 14 rfl rfl, ⟨by decide +kernel, by decide +kernel, by decide +kernel⟩, by decide +kernel, by decide⟩
abbrev M_X12_isOnRing : MT := (yX12_isOnRing, cX12_isOnRing, 4, (some .boolean))
theorem mo_X12_isOnRing : mOK M_X12_isOnRing 1 := ⟨gt8 102 rfl rfl, gt1 14 rfl rfl, ⟨by decide +kernel, by decide +kernel, by decide +kernel⟩, by decide +kernel, by decide⟩
abbrev M_X12_leaves : MT := (yX12_leaves, cX12_leaves, 5, (some .int))
theorem mo_X12_leaves : mOK M_X12_leaves 2 := ⟨gt8 106 rfl rfl, gt1 14 rfl rfl, ⟨by decide +kernel, by decide +kernel, by decide +kernel⟩, by decide +kernel, by decide⟩
abbrev M_X12_both : MT := (yX12_both, cX12_both, 5, (some .int))
theorem mo_X12_both : mOK M_X12_both 1 := ⟨gt8 110 rfl rfl, gt1 14 rfl rfl, ⟨by decide +kernel, by decide +kernel, by decide +kernel⟩, by decide +kernel, by decide⟩
abbrev M_X12_wishBoth : MT := (yX12_wishBoth, cX12_wishBoth, 5, (some .boolean))
theorem mo_X12_wishBoth : mOK M_X12_wishBoth 2 := ⟨gt8 114 rfl rfl, gt1 14 rfl rfl, ⟨by decide +kernel, by decide +kernel, by decide +kernel⟩, by decide +kernel, by decide⟩
abbrev M_X12_take : MT := (yX12_take, cX12_take, 5, (some .int))
theorem mo_X12_take : mOK M_X12_take 1 := ⟨gt8 118 rfl rfl, gt1 14 rfl rfl, ⟨by decide +kernel, by decide +kernel, by decide +kernel⟩, by decide +kernel, by decide⟩
abbrev M_X12_desks : MT := (yX12_desks, cX12_desks, 5, (some .int))
theorem mo_X12_desks : mOK M_X12_desks 2 := ⟨gt8 122 rfl rfl, gt1 14 rfl rfl, ⟨by decide +kernel, by decide +kernel, by decide +kernel⟩, by decide +kernel, by decide⟩
abbrev M_X12_ones : MT := (yX12_ones, cX12_ones, 3, (some .int))
theorem mo_X12_ones : mOK M_X12_ones 1 := ⟨gt8 125 rfl rfl, gt1 14 rfl rfl, ⟨by decide +kernel, by decide +kernel, by decide +kernel⟩, by decide +kernel, by decide⟩
abbrev M_X12_areDone : MT := (yX12_areDone, cX12_areDone, 5, (some .boolean))
theorem mo_X12_areDone : mOK M_X12_areDone 2 := ⟨gt8 129 rfl rfl, gt1 14 rfl rfl, ⟨by decide +kernel, by decide +kernel, by decide +kernel⟩, by decide +kernel, by decide⟩
abbrev M_X12_told : MT := (yX12_told, cX12_told, 4, (some .int))
theorem mo_X12_told : mOK M_X12_told 2 := ⟨gt8 133 rfl rfl, gt1 14 rfl rfl, ⟨by decide +kernel, by decide +kernel, by decide +kernel⟩, by decide +kernel, by decide⟩
abbrev M_X12_forget : MT := (yX12_forget, cX12_forget, 2, (some .int))
theorem mo_X12_forget : mOK M_X12_forget 0 := ⟨gt8 137 rfl rfl, gt1 14 rfl rfl, ⟨by decide +kernel, by decide +kernel, by decide +kernel⟩, by decide +kernel, by decide⟩
abbrev M_X12_had : MT := (yX12_had, cX12_had, 3, (some .int))
theorem mo_X12_had : mOK M_X12_had 2 := ⟨gt8 141 rfl rfl, gt1 14 rfl rfl, ⟨by decide +kernel, by decide +kernel, by decide +kernel⟩, by decide +kernel, by decide⟩
abbrev M_X12_laysWays : MT := (yX12_laysWays, cX12_laysWays, 3, none)
theorem mo_X12_laysWays : mOK M_X12_laysWays 1 := ⟨gt8 145 rfl rfl, gt1 14 rfl rfl, ⟨by decide +kernel, by decide +kernel, by decide +kernel⟩, by decide +kernel, by decide⟩
abbrev M_X12_triesHad : MT := (yX12_triesHad, cX12_triesHad, 4, none)
theorem mo_X12_triesHad : mOK M_X12_triesHad 2 := ⟨gt8 149 rfl rfl, gt1 14 rfl rfl, ⟨by decide +kernel, by decide +kernel, by decide +kernel⟩, by decide +kernel, by decide⟩
abbrev M_X12_countsWay : MT := (yX12_countsWay, cX12_countsWay, 2, none)
theorem mo_X12_countsWay : mOK M_X12_countsWay 0 := ⟨gt8 153 rfl rfl, gt1 14 rfl rfl, ⟨by decide +kernel, by decide +kernel, by decide +kernel⟩, by decide +kernel, by decide⟩
abbrev M_X12_isAllSo : MT := (yX12_isAllSo, cX12_isAllSo, 3, (some .boolean))
theorem mo_X12_isAllSo : mOK M_X12_isAllSo 0 := ⟨gt8 157 rfl rfl, gt1 14 rfl rfl, ⟨by decide +kernel, by decide +kernel, by decide +kernel⟩, by decide +kernel, by decide⟩
abbrev M_X12_ask : MT := (yX12_ask, cX12_ask, 5, (some .int))
theorem mo_X12_ask : mOK M_X12_ask 1 := ⟨gt8 161 rfl rfl, gt1 14 rfl rfl, ⟨by decide +kernel, by decide +kernel, by decide +kernel⟩, by decide +kernel, by decide⟩
abbrev M_X12_mostGiven : MT := (yX12_mostGiven, cX12_mostGiven, 4, (some .int))
theorem mo_X12_mostGiven : mOK M_X12_mostGiven 1 := ⟨gt8 165 rfl rfl, gt1 14 rfl rfl, ⟨by decide +kernel, by decide +kernel, by decide +kernel⟩, by decide +kernel, by decide⟩
abbrev M_X12_greater : MT := (yX12_greater, cX12_greater, 2, (some .int))
theorem mo_X12_greater : mOK M_X12_greater 2 := ⟨gt8 168 rfl rfl, gt1 14 rfl rfl, ⟨by decide +kernel, by decide +kernel, by decide +kernel⟩, by decide +kernel, by decide⟩
abbrev M_X12_few : MT := (yX12_few, cX12_few, 6, (some .long))
theorem mo_X12_few : mOK M_X12_few 2 := ⟨gt8 172 rfl rfl, gt1 14 rfl rfl, ⟨by decide +kernel, by decide +kernel, by decide +kernel⟩, by decide +kernel, by decide⟩
abbrev M_X12_stopped : MT := (yX12_stopped, cX12_stopped, 1, (some .int))
theorem mo_X12_stopped : mOK M_X12_stopped 0 := ⟨gt8 179 rfl rfl, gt1 14 rfl rfl, ⟨by decide +kernel, by decide +kernel, by decide +kernel⟩, by decide +kernel, by decide⟩
abbrev M_X12_orders : MT := (yX12_orders, cX12_orders, 5, (some .int))
theorem mo_X12_orders : mOK M_X12_orders 0 := ⟨gt8 183 rfl rfl, gt1 14 rfl rfl, ⟨by decide +kernel, by decide +kernel, by decide +kernel⟩, by decide +kernel, by decide⟩
abbrev M_X12_runs : MT := (yX12_runs, cX12_runs, 5, (some .boolean))
theorem mo_X12_runs : mOK M_X12_runs 1 := ⟨gt8 187 rfl rfl, gt1 14 rfl rfl, ⟨by decide +kernel, by decide +kernel, by decide +kernel⟩, by decide +kernel, by decide⟩
abbrev M_X12_goesAlong : MT := (yX12_goesAlong, cX12_goesAlong, 5, none)
theorem mo_X12_goesAlong : mOK M_X12_goesAlong 2 := ⟨gt8 191 rfl rfl, gt1 14 rfl rfl, ⟨by decide +kernel, by decide +kernel, by decide +kernel⟩, by decide +kernel, by decide⟩
abbrev M_X12_obeys : MT := (yX12_obeys, cX12_obeys, 3, (some .int))
theorem mo_X12_obeys : mOK M_X12_obeys 0 := ⟨gt8 195 rfl rfl, gt1 14 rfl rfl, ⟨by decide +kernel, by decide +kernel, by decide +kernel⟩, by decide +kernel, by decide⟩
abbrev M_X12_small : MT := (yX12_small, cX12_small, 2, (some .int))
theorem mo_X12_small : mOK M_X12_small 1 := ⟨gt8 198 rfl rfl, gt1 14 rfl rfl, ⟨by decide +kernel, by decide +kernel, by decide +kernel⟩, by decide +kernel, by decide⟩
abbrev M_X12_days : MT := (yX12_days, cX12_days, 7, (some .int))
theorem mo_X12_days : mOK M_X12_days 2 := ⟨gt8 203 rfl rfl, gt1 14 rfl rfl, ⟨by decide +kernel, by decide +kernel, by decide +kernel⟩, by decide +kernel, by decide⟩
abbrev M_X12_draws : MT := (yX12_draws, cX12_draws, 2, (some .int))
theorem mo_X12_draws : mOK M_X12_draws 1 := ⟨gt8 207 rfl rfl, gt1 14 rfl rfl, ⟨by decide +kernel, by decide +kernel, by decide +kernel⟩, by decide +kernel, by decide⟩
abbrev M_X12_happens : MT := (yX12_happens, cX12_happens, 6, (some .boolean))
theorem mo_X12_happens : mOK M_X12_happens 3 := ⟨gt8 214 rfl rfl, gt1 14 rfl rfl, ⟨by decide +kernel, by decide +kernel, by decide +kernel⟩, by decide +kernel, by decide⟩
abbrev M_X12_drawn : MT := (yX12_drawn, cX12_drawn, 2, (some .int))
theorem mo_X12_drawn : mOK M_X12_drawn 1 := ⟨gt8 218 rfl rfl, gt1 14 rfl rfl, ⟨by decide +kernel, by decide +kernel, by decide +kernel⟩, by decide +kernel, by decide⟩
abbrev M_X12_count : MT := (yX12_count, cX12_count, 2, (some .int))
theorem mo_X12_count : mOK M_X12_count 1 := ⟨gt8 222 rfl rfl, gt1 14 rfl rfl, ⟨by decide +kernel, by decide +kernel, by decide +kernel⟩, by decide +kernel, by decide⟩
abbrev M_X12_status : MT := (yX12_status, cX12_status, 1, (some .int))
theorem mo_X12_status : mOK M_X12_status 0 := ⟨gt8 226 rfl rfl, gt1 14 rfl rfl, ⟨by decide +kernel, by decide +kernel, by decide +kernel⟩, by decide +kernel, by decide⟩
theorem lk_L_9 : Cond.methodLink RL 9 yX11_init ∈ gw ∧ Cond.instanceMethod yX11_init ∈ gw := ⟨gt1 24 rfl rfl, gt1 25 rfl rfl⟩
theorem lk_X11_1 : Cond.methodLink RX11 1 objectInit ∈ gw ∧ Cond.instanceMethod objectInit ∈ gw ∧ Cond.code objectInit ⟨#[0xb1]⟩ 1 none ∈ gw := ⟨gt1 27 rfl rfl, gt1 28 rfl rfl, gt1 29 rfl rfl⟩
theorem lk_X11_9 : Cond.methodLink RX11 9 yX2_init ∈ gw ∧ Cond.instanceMethod yX2_init ∈ gw := ⟨gt1 32 rfl rfl, gt1 33 rfl rfl⟩
theorem lk_X2_3 : Cond.methodLink RX2 3 objectInit ∈ gw ∧ Cond.instanceMethod objectInit ∈ gw ∧ Cond.code objectInit ⟨#[0xb1]⟩ 1 none ∈ gw := ⟨gt1 35 rfl rfl, gt1 28 rfl rfl, gt1 29 rfl rfl⟩
theorem lk_X4_1 : Cond.methodLink RX4 1 objectInit ∈ gw ∧ Cond.instanceMethod objectInit ∈ gw ∧ Cond.code objectInit ⟨#[0xb1]⟩ 1 none ∈ gw := ⟨gt1 43 rfl rfl, gt1 28 rfl rfl, gt1 29 rfl rfl⟩
theorem lk_X2_65 : Cond.methodLink RX2 65 yJ7_fill_53178 ∈ gw ∧ Cond.static yJ7_fill_53178 ∈ gw := ⟨gt1 54 rfl rfl, gt1 55 rfl rfl⟩
theorem lk_X7_3 : Cond.methodLink RX7 3 objectInit ∈ gw ∧ Cond.instanceMethod objectInit ∈ gw ∧ Cond.code objectInit ⟨#[0xb1]⟩ 1 none ∈ gw := ⟨gt1 178 rfl rfl, gt1 28 rfl rfl, gt1 29 rfl rfl⟩
theorem lk_X7_17 : Cond.methodLink RX7 17 yX9_init ∈ gw ∧ Cond.instanceMethod yX9_init ∈ gw := ⟨gt1 181 rfl rfl, gt1 182 rfl rfl⟩
theorem lk_X9_3 : Cond.methodLink RX9 3 objectInit ∈ gw ∧ Cond.instanceMethod objectInit ∈ gw ∧ Cond.code objectInit ⟨#[0xb1]⟩ 1 none ∈ gw := ⟨gt1 184 rfl rfl, gt1 28 rfl rfl, gt1 29 rfl rfl⟩
theorem lk_X11_36 : Cond.methodLink RX11 36 yX3_init ∈ gw ∧ Cond.instanceMethod yX3_init ∈ gw := ⟨gt2 6 rfl rfl, gt2 7 rfl rfl⟩
theorem lk_X3_5 : Cond.methodLink RX3 5 objectInit ∈ gw ∧ Cond.instanceMethod objectInit ∈ gw ∧ Cond.code objectInit ⟨#[0xb1]⟩ 1 none ∈ gw := ⟨gt2 9 rfl rfl, gt1 28 rfl rfl, gt1 29 rfl rfl⟩
theorem lk_X5_3 : Cond.methodLink RX5 3 objectInit ∈ gw ∧ Cond.instanceMethod objectInit ∈ gw ∧ Cond.code objectInit ⟨#[0xb1]⟩ 1 none ∈ gw := ⟨gt2 15 rfl rfl, gt1 28 rfl rfl, gt1 29 rfl rfl⟩
theorem lk_X11_45 : Cond.methodLink RX11 45 yX0_init ∈ gw ∧ Cond.instanceMethod yX0_init ∈ gw := ⟨gt2 42 rfl rfl, gt2 43 rfl rfl⟩
theorem lk_X0_3 : Cond.methodLink RX0 3 objectInit ∈ gw ∧ Cond.instanceMethod objectInit ∈ gw ∧ Cond.code objectInit ⟨#[0xb1]⟩ 1 none ∈ gw := ⟨gt2 45 rfl rfl, gt1 28 rfl rfl, gt1 29 rfl rfl⟩
theorem lk_X1_3 : Cond.methodLink RX1 3 objectInit ∈ gw ∧ Cond.instanceMethod objectInit ∈ gw ∧ Cond.code objectInit ⟨#[0xb1]⟩ 1 none ∈ gw := ⟨gt2 59 rfl rfl, gt1 28 rfl rfl, gt1 29 rfl rfl⟩
theorem lk_X11_61 : Cond.methodLink RX11 61 yX6_init ∈ gw ∧ Cond.instanceMethod yX6_init ∈ gw := ⟨gt2 82 rfl rfl, gt2 83 rfl rfl⟩
theorem lk_X6_3 : Cond.methodLink RX6 3 objectInit ∈ gw ∧ Cond.instanceMethod objectInit ∈ gw ∧ Cond.code objectInit ⟨#[0xb1]⟩ 1 none ∈ gw := ⟨gt2 85 rfl rfl, gt1 28 rfl rfl, gt1 29 rfl rfl⟩
theorem lk_X10_3 : Cond.methodLink RX10 3 objectInit ∈ gw ∧ Cond.instanceMethod objectInit ∈ gw ∧ Cond.code objectInit ⟨#[0xb1]⟩ 1 none ∈ gw := ⟨gt2 135 rfl rfl, gt1 28 rfl rfl, gt1 29 rfl rfl⟩
theorem lk_X11_77 : Cond.methodLink RX11 77 yX8_init ∈ gw ∧ Cond.instanceMethod yX8_init ∈ gw := ⟨gt2 156 rfl rfl, gt2 157 rfl rfl⟩
theorem lk_X8_5 : Cond.methodLink RX8 5 objectInit ∈ gw ∧ Cond.instanceMethod objectInit ∈ gw ∧ Cond.code objectInit ⟨#[0xb1]⟩ 1 none ∈ gw := ⟨gt2 159 rfl rfl, gt1 28 rfl rfl, gt1 29 rfl rfl⟩
theorem lk_X11_99 : Cond.methodLink RX11 99 yJ7_fill_53178 ∈ gw ∧ Cond.static yJ7_fill_53178 ∈ gw := ⟨gt2 177 rfl rfl, gt1 55 rfl rfl⟩
theorem lk_L_13 : Cond.methodLink RL 13 yX11_person ∈ gw ∧ Cond.instanceMethod yX11_person ∈ gw ∧ Cond.selects yX11_person.cls yX11_person yX11_person ∈ gw := ⟨gt2 231 rfl rfl, gt2 232 rfl rfl, gt2 233 rfl rfl⟩
theorem lk_X11_105 : Cond.methodLink RX11 105 yX2_addPerson ∈ gw ∧ Cond.instanceMethod yX2_addPerson ∈ gw ∧ Cond.selects yX2_addPerson.cls yX2_addPerson yX2_addPerson ∈ gw := ⟨gt2 235 rfl rfl, gt2 236 rfl rfl, gt2 237 rfl rfl⟩
theorem lk_X11_109 : Cond.methodLink RX11 109 yX11_refused ∈ gw ∧ Cond.instanceMethod yX11_refused ∈ gw ∧ Cond.selects yX11_refused.cls yX11_refused yX11_refused ∈ gw := ⟨gt2 239 rfl rfl, gt3 1 rfl rfl, gsel (q := (⟨"TicketHall", "refused", "(I)I"⟩, 17)) 0 rfl⟩
theorem lk_X11_117 : Cond.methodLink RX11 117 yX4_clear ∈ gw ∧ Cond.instanceMethod yX4_clear ∈ gw ∧ Cond.selects yX4_clear.cls yX4_clear yX4_clear ∈ gw := ⟨gt3 3 rfl rfl, gt3 4 rfl rfl, gt3 5 rfl rfl⟩
theorem lk_X11_122 : Cond.methodLink RX11 122 yX11_accepted ∈ gw ∧ Cond.instanceMethod yX11_accepted ∈ gw ∧ Cond.selects yX11_accepted.cls yX11_accepted yX11_accepted ∈ gw := ⟨gt3 7 rfl rfl, gt3 9 rfl rfl, gsel (q := (⟨"TicketHall", "accepted", "(I)I"⟩, 17)) 1 rfl⟩
theorem lk_X11_331 : Cond.methodLink RX11 331 yX6_markStale ∈ gw ∧ Cond.instanceMethod yX6_markStale ∈ gw ∧ Cond.selects yX6_markStale.cls yX6_markStale yX6_markStale ∈ gw := ⟨gt3 11 rfl rfl, gt3 12 rfl rfl, gt3 13 rfl rfl⟩
theorem lk_L_18 : Cond.methodLink RL 18 yX11_of ∈ gw ∧ Cond.instanceMethod yX11_of ∈ gw ∧ Cond.selects yX11_of.cls yX11_of yX11_of ∈ gw := ⟨gt3 15 rfl rfl, gt3 16 rfl rfl, gt3 17 rfl rfl⟩
theorem lk_X11_125 : Cond.methodLink RX11 125 yX2_isPerson ∈ gw ∧ Cond.instanceMethod yX2_isPerson ∈ gw ∧ Cond.selects yX2_isPerson.cls yX2_isPerson yX2_isPerson ∈ gw := ⟨gt3 19 rfl rfl, gt3 20 rfl rfl, gt3 21 rfl rfl⟩
theorem lk_X11_138 : Cond.methodLink RX11 138 yX2_lawInForce ∈ gw ∧ Cond.instanceMethod yX2_lawInForce ∈ gw ∧ Cond.selects yX2_lawInForce.cls yX2_lawInForce yX2_lawInForce ∈ gw := ⟨gt3 23 rfl rfl, gt3 24 rfl rfl, gt3 25 rfl rfl⟩
theorem lk_X2_100 : Cond.methodLink RX2 100 yX2_lawOf ∈ gw ∧ Cond.instanceMethod yX2_lawOf ∈ gw ∧ Cond.selects yX2_lawOf.cls yX2_lawOf yX2_lawOf ∈ gw := ⟨gt3 27 rfl rfl, gt3 28 rfl rfl, gt3 29 rfl rfl⟩
theorem lk_X2_96 : Cond.methodLink RX2 96 yX2_isLaw ∈ gw ∧ Cond.instanceMethod yX2_isLaw ∈ gw ∧ Cond.selects yX2_isLaw.cls yX2_isLaw yX2_isLaw ∈ gw := ⟨gt3 31 rfl rfl, gt3 32 rfl rfl, gt3 33 rfl rfl⟩
theorem lk_X11_142 : Cond.methodLink RX11 142 yX3_begin ∈ gw ∧ Cond.instanceMethod yX3_begin ∈ gw ∧ Cond.selects yX3_begin.cls yX3_begin yX3_begin ∈ gw := ⟨gt3 35 rfl rfl, gt3 36 rfl rfl, gt3 37 rfl rfl⟩
theorem lk_X3_33 : Cond.methodLink RX3 33 yJ7_fill_53178 ∈ gw ∧ Cond.static yJ7_fill_53178 ∈ gw := ⟨gt3 39 rfl rfl, gt1 55 rfl rfl⟩
theorem lk_X11_146 : Cond.methodLink RX11 146 yX3_cost ∈ gw ∧ Cond.instanceMethod yX3_cost ∈ gw ∧ Cond.selects yX3_cost.cls yX3_cost yX3_cost ∈ gw := ⟨gt3 40 rfl rfl, gt3 41 rfl rfl, gt3 42 rfl rfl⟩
theorem lk_X3_50 : Cond.methodLink RX3 50 yX3_speakOf ∈ gw ∧ Cond.instanceMethod yX3_speakOf ∈ gw ∧ Cond.selects yX3_speakOf.cls yX3_speakOf yX3_speakOf ∈ gw := ⟨gt3 44 rfl rfl, gt3 46 rfl rfl, gsel (q := (⟨"TicketHall$Judge", "speakOf", "(III)V"⟩, 5)) 2 rfl⟩
theorem lk_X3_54 : Cond.methodLink RX3 54 yX3_lastTold ∈ gw ∧ Cond.instanceMethod yX3_lastTold ∈ gw ∧ Cond.selects yX3_lastTold.cls yX3_lastTold yX3_lastTold ∈ gw := ⟨gt3 48 rfl rfl, gt3 50 rfl rfl, gsel (q := (⟨"TicketHall$Judge", "lastTold", "(I)I"⟩, 5)) 3 rfl⟩
theorem lk_X3_87 : Cond.methodLink RX3 87 yX9_head ∈ gw ∧ Cond.instanceMethod yX9_head ∈ gw ∧ Cond.selects yX9_head.cls yX9_head yX9_head ∈ gw := ⟨gt3 53 rfl rfl, gt3 54 rfl rfl, gt3 55 rfl rfl⟩
theorem lk_X3_90 : Cond.methodLink RX3 90 yX5_run ∈ gw ∧ Cond.instanceMethod yX5_run ∈ gw ∧ Cond.selects yX5_run.cls yX5_run yX5_run ∈ gw := ⟨gt3 57 rfl rfl, gt3 58 rfl rfl, gt3 59 rfl rfl⟩
theorem lk_X3_59 : Cond.methodLink RX3 59 yJ9_min_7cf53 ∈ gw ∧ Cond.static yJ9_min_7cf53 ∈ gw := ⟨gt3 65 rfl rfl, gt3 66 rfl rfl⟩
theorem lk_X3_44 : Cond.methodLink RX3 44 yJ9_max_7cf53 ∈ gw ∧ Cond.static yJ9_max_7cf53 ∈ gw := ⟨gt3 68 rfl rfl, gt3 69 rfl rfl⟩
theorem lk_L_22 : Cond.methodLink RL 22 yX11_ticket ∈ gw ∧ Cond.instanceMethod yX11_ticket ∈ gw ∧ Cond.selects yX11_ticket.cls yX11_ticket yX11_ticket ∈ gw := ⟨gt3 71 rfl rfl, gt3 72 rfl rfl, gt3 73 rfl rfl⟩
theorem lk_X11_149 : Cond.methodLink RX11 149 yX2_addTicket ∈ gw ∧ Cond.instanceMethod yX2_addTicket ∈ gw ∧ Cond.selects yX2_addTicket.cls yX2_addTicket yX2_addTicket ∈ gw := ⟨gt3 75 rfl rfl, gt3 76 rfl rfl, gt3 77 rfl rfl⟩
theorem lk_L_26 : Cond.methodLink RL 26 yX11_at ∈ gw ∧ Cond.instanceMethod yX11_at ∈ gw ∧ Cond.selects yX11_at.cls yX11_at yX11_at ∈ gw := ⟨gt3 79 rfl rfl, gt3 80 rfl rfl, gt3 81 rfl rfl⟩
theorem lk_X11_152 : Cond.methodLink RX11 152 yX2_isTicket ∈ gw ∧ Cond.instanceMethod yX2_isTicket ∈ gw ∧ Cond.selects yX2_isTicket.cls yX2_isTicket yX2_isTicket ∈ gw := ⟨gt3 83 rfl rfl, gt3 84 rfl rfl, gt3 85 rfl rfl⟩
theorem lk_L_30 : Cond.methodLink RL 30 yX11_wish ∈ gw ∧ Cond.instanceMethod yX11_wish ∈ gw ∧ Cond.selects yX11_wish.cls yX11_wish yX11_wish ∈ gw := ⟨gt3 87 rfl rfl, gt3 88 rfl rfl, gt3 89 rfl rfl⟩
theorem lk_L_35 : Cond.methodLink RL 35 yX11_desk ∈ gw ∧ Cond.instanceMethod yX11_desk ∈ gw ∧ Cond.selects yX11_desk.cls yX11_desk yX11_desk ∈ gw := ⟨gt3 91 rfl rfl, gt3 92 rfl rfl, gt3 93 rfl rfl⟩
theorem lk_X11_167 : Cond.methodLink RX11 167 yX2_addDesk ∈ gw ∧ Cond.instanceMethod yX2_addDesk ∈ gw ∧ Cond.selects yX2_addDesk.cls yX2_addDesk yX2_addDesk ∈ gw := ⟨gt3 95 rfl rfl, gt3 96 rfl rfl, gt3 97 rfl rfl⟩
theorem lk_L_39 : Cond.methodLink RL 39 yX11_asks ∈ gw ∧ Cond.instanceMethod yX11_asks ∈ gw ∧ Cond.selects yX11_asks.cls yX11_asks yX11_asks ∈ gw := ⟨gt3 99 rfl rfl, gt3 100 rfl rfl, gt3 101 rfl rfl⟩
theorem lk_X11_170 : Cond.methodLink RX11 170 yX3_isFit ∈ gw ∧ Cond.instanceMethod yX3_isFit ∈ gw ∧ Cond.selects yX3_isFit.cls yX3_isFit yX3_isFit ∈ gw := ⟨gt3 103 rfl rfl, gt3 104 rfl rfl, gt3 105 rfl rfl⟩
theorem lk_X3_68 : Cond.methodLink RX3 68 yX3_anyHolds ∈ gw ∧ Cond.instanceMethod yX3_anyHolds ∈ gw ∧ Cond.selects yX3_anyHolds.cls yX3_anyHolds yX3_anyHolds ∈ gw := ⟨gt3 107 rfl rfl, gt3 109 rfl rfl, gsel (q := (⟨"TicketHall$Judge", "anyHolds", "(I)Z"⟩, 5)) 4 rfl⟩
theorem lk_X11_174 : Cond.methodLink RX11 174 yX3_isBarred ∈ gw ∧ Cond.instanceMethod yX3_isBarred ∈ gw ∧ Cond.selects yX3_isBarred.cls yX3_isBarred yX3_isBarred ∈ gw := ⟨gt3 111 rfl rfl, gt3 112 rfl rfl, gt3 113 rfl rfl⟩
theorem lk_X11_180 : Cond.methodLink RX11 180 yX3_minutes ∈ gw ∧ Cond.instanceMethod yX3_minutes ∈ gw ∧ Cond.selects yX3_minutes.cls yX3_minutes yX3_minutes ∈ gw := ⟨gt3 115 rfl rfl, gt3 116 rfl rfl, gt3 117 rfl rfl⟩
theorem lk_L_43 : Cond.methodLink RL 43 yX11_terms ∈ gw ∧ Cond.instanceMethod yX11_terms ∈ gw ∧ Cond.selects yX11_terms.cls yX11_terms yX11_terms ∈ gw := ⟨gt3 119 rfl rfl, gt3 120 rfl rfl, gt3 121 rfl rfl⟩
theorem lk_X11_184 : Cond.methodLink RX11 184 yX11_mostOfTerm ∈ gw ∧ Cond.static yX11_mostOfTerm ∈ gw := ⟨gt3 123 rfl rfl, gt3 124 rfl rfl⟩
theorem lk_L_47 : Cond.methodLink RL 47 yX11_feed ∈ gw ∧ Cond.instanceMethod yX11_feed ∈ gw ∧ Cond.selects yX11_feed.cls yX11_feed yX11_feed ∈ gw := ⟨gt3 126 rfl rfl, gt3 127 rfl rfl, gt3 128 rfl rfl⟩
theorem lk_X11_193 : Cond.methodLink RX11 193 yX7_write ∈ gw ∧ Cond.instanceMethod yX7_write ∈ gw ∧ Cond.selects yX7_write.cls yX7_write yX7_write ∈ gw := ⟨gt3 130 rfl rfl, gt3 131 rfl rfl, gt3 132 rfl rfl⟩
theorem lk_L_52 : Cond.methodLink RL 52 yX11_end ∈ gw ∧ Cond.instanceMethod yX11_end ∈ gw ∧ Cond.selects yX11_end.cls yX11_end yX11_end ∈ gw := ⟨gt3 134 rfl rfl, gt3 135 rfl rfl, gt3 136 rfl rfl⟩
theorem lk_L_57 : Cond.methodLink RL 57 yX11_row ∈ gw ∧ Cond.instanceMethod yX11_row ∈ gw ∧ Cond.selects yX11_row.cls yX11_row yX11_row ∈ gw := ⟨gt3 138 rfl rfl, gt3 139 rfl rfl, gt3 140 rfl rfl⟩
theorem lk_X11_200 : Cond.methodLink RX11 200 yX7_byteAt ∈ gw ∧ Cond.instanceMethod yX7_byteAt ∈ gw ∧ Cond.selects yX7_byteAt.cls yX7_byteAt yX7_byteAt ∈ gw := ⟨gt3 142 rfl rfl, gt3 143 rfl rfl, gt3 144 rfl rfl⟩
theorem lk_L_62 : Cond.methodLink RL 62 yX11_scraps ∈ gw ∧ Cond.instanceMethod yX11_scraps ∈ gw ∧ Cond.selects yX11_scraps.cls yX11_scraps yX11_scraps ∈ gw := ⟨gt3 146 rfl rfl, gt3 147 rfl rfl, gt3 148 rfl rfl⟩
theorem lk_L_66 : Cond.methodLink RL 66 yX11_law ∈ gw ∧ Cond.instanceMethod yX11_law ∈ gw ∧ Cond.selects yX11_law.cls yX11_law yX11_law ∈ gw := ⟨gt3 150 rfl rfl, gt3 151 rfl rfl, gt3 152 rfl rfl⟩
theorem lk_X11_206 : Cond.methodLink RX11 206 yX7_read ∈ gw ∧ Cond.instanceMethod yX7_read ∈ gw ∧ Cond.selects yX7_read.cls yX7_read yX7_read ∈ gw := ⟨gt3 154 rfl rfl, gt3 155 rfl rfl, gt3 156 rfl rfl⟩
theorem lk_X7_33 : Cond.methodLink RX7 33 yX9_clear ∈ gw ∧ Cond.instanceMethod yX9_clear ∈ gw ∧ Cond.selects yX9_clear.cls yX9_clear yX9_clear ∈ gw := ⟨gt3 158 rfl rfl, gt3 159 rfl rfl, gt3 160 rfl rfl⟩
theorem lk_X7_42 : Cond.methodLink RX7 42 yX7_advance ∈ gw ∧ Cond.instanceMethod yX7_advance ∈ gw ∧ Cond.selects yX7_advance.cls yX7_advance yX7_advance ∈ gw := ⟨gt3 162 rfl rfl, gt3 164 rfl rfl, gsel (q := (⟨"TicketHall$Reader", "advance", "()V"⟩, 10)) 5 rfl⟩
theorem lk_X7_151 : Cond.methodLink RX7 151 yJ9_min_7cf53 ∈ gw ∧ Cond.static yJ9_min_7cf53 ∈ gw := ⟨gt3 166 rfl rfl, gt3 66 rfl rfl⟩
theorem lk_X7_45 : Cond.methodLink RX7 45 yX7_clause ∈ gw ∧ Cond.instanceMethod yX7_clause ∈ gw ∧ Cond.selects yX7_clause.cls yX7_clause yX7_clause ∈ gw := ⟨gt3 167 rfl rfl, gt3 169 rfl rfl, gsel (q := (⟨"TicketHall$Reader", "clause", "()V"⟩, 10)) 6 rfl⟩
theorem lk_X7_61 : Cond.methodLink RX7 61 yX7_placeIn ∈ gw ∧ Cond.instanceMethod yX7_placeIn ∈ gw ∧ Cond.selects yX7_placeIn.cls yX7_placeIn yX7_placeIn ∈ gw := ⟨gt3 173 rfl rfl, gt3 175 rfl rfl, gsel (q := (⟨"TicketHall$Reader", "placeIn", "(Ljava/lang/String;)I"⟩, 10)) 7 rfl⟩
theorem lk_X7_156 : Cond.methodLink RX7 156 yJ0_length_8abf5 ∈ gw ∧ Cond.instanceMethod yJ0_length_8abf5 ∈ gw ∧ Cond.selects yJ0_length_8abf5.cls yJ0_length_8abf5 yJ0_length_8abf5 ∈ gw := ⟨gt3 177 rfl rfl, gt3 178 rfl rfl, gt3 179 rfl rfl⟩
theorem lk_J0_335 : Cond.methodLink RJ0 335 yJ0_coder_7d493 ∈ gw ∧ Cond.instanceMethod yJ0_coder_7d493 ∈ gw ∧ Cond.selects yJ0_coder_7d493.cls yJ0_coder_7d493 yJ0_coder_7d493 ∈ gw := ⟨gt3 181 rfl rfl, gt3 182 rfl rfl, gt3 183 rfl rfl⟩
theorem lk_X7_161 : Cond.methodLink RX7 161 yJ0_charAt_5068e ∈ gw ∧ Cond.instanceMethod yJ0_charAt_5068e ∈ gw ∧ Cond.selects yJ0_charAt_5068e.cls yJ0_charAt_5068e yJ0_charAt_5068e ∈ gw := ⟨gt3 187 rfl rfl, gt3 188 rfl rfl, gt3 189 rfl rfl⟩
theorem lk_J0_492 : Cond.methodLink RJ0 492 yJ0_isLatin1_aae02 ∈ gw ∧ Cond.instanceMethod yJ0_isLatin1_aae02 ∈ gw ∧ Cond.selects yJ0_isLatin1_aae02.cls yJ0_isLatin1_aae02 yJ0_isLatin1_aae02 ∈ gw := ⟨gt3 191 rfl rfl, gt3 192 rfl rfl, gt3 193 rfl rfl⟩
theorem lk_J0_495 : Cond.methodLink RJ0 495 yJ1_charAt_3b067 ∈ gw ∧ Cond.static yJ1_charAt_3b067 ∈ gw := ⟨gt3 195 rfl rfl, gt3 196 rfl rfl⟩
theorem lk_J1_9 : Cond.methodLink RJ1 9 yJ0_checkIndex_df160 ∈ gw ∧ Cond.static yJ0_checkIndex_df160 ∈ gw := ⟨gt3 198 rfl rfl, gt3 199 rfl rfl⟩
theorem lk_J0_1059 : Cond.methodLink RJ0 1059 yJ3_checkIndex_8e157 ∈ gw ∧ Cond.static yJ3_checkIndex_8e157 ∈ gw := ⟨gt3 203 rfl rfl, gt3 204 rfl rfl⟩
theorem lk_J0_498 : Cond.methodLink RJ0 498 yJ2_charAt_3b067 ∈ gw ∧ Cond.static yJ2_charAt_3b067 ∈ gw := ⟨gt3 206 rfl rfl, gt3 207 rfl rfl⟩
theorem lk_J2_67 : Cond.methodLink RJ2 67 yJ2_checkIndex_2214a ∈ gw ∧ Cond.static yJ2_checkIndex_2214a ∈ gw := ⟨gt3 209 rfl rfl, gt3 210 rfl rfl⟩
theorem lk_J2_48 : Cond.methodLink RJ2 48 yJ2_length_9d52b ∈ gw ∧ Cond.static yJ2_length_9d52b ∈ gw := ⟨gt3 212 rfl rfl, gt3 213 rfl rfl⟩
theorem lk_J2_414 : Cond.methodLink RJ2 414 yJ0_checkIndex_df160 ∈ gw ∧ Cond.static yJ0_checkIndex_df160 ∈ gw := ⟨gt3 215 rfl rfl, gt3 199 rfl rfl⟩
theorem lk_J2_71 : Cond.methodLink RJ2 71 yJ2_getChar_3b067 ∈ gw ∧ Cond.static yJ2_getChar_3b067 ∈ gw := ⟨gt3 216 rfl rfl, gt3 217 rfl rfl⟩
theorem lk_X7_51 : Cond.methodLink RX7 51 yX7_wrong ∈ gw ∧ Cond.instanceMethod yX7_wrong ∈ gw ∧ Cond.selects yX7_wrong.cls yX7_wrong yX7_wrong ∈ gw := ⟨gt3 225 rfl rfl, gt3 227 rfl rfl, gsel (q := (⟨"TicketHall$Reader", "wrong", "()V"⟩, 10)) 8 rfl⟩
theorem lk_X7_65 : Cond.methodLink RX7 65 yX9_open ∈ gw ∧ Cond.instanceMethod yX9_open ∈ gw ∧ Cond.selects yX9_open.cls yX9_open yX9_open ∈ gw := ⟨gt3 229 rfl rfl, gt3 230 rfl rfl, gt3 231 rfl rfl⟩
theorem lk_X9_35 : Cond.methodLink RX9 35 yX9_mark ∈ gw ∧ Cond.instanceMethod yX9_mark ∈ gw ∧ Cond.selects yX9_mark.cls yX9_mark yX9_mark ∈ gw := ⟨gt3 233 rfl rfl, gt3 234 rfl rfl, gt3 235 rfl rfl⟩
theorem lk_X7_69 : Cond.methodLink RX7 69 yX7_markedSum ∈ gw ∧ Cond.instanceMethod yX7_markedSum ∈ gw ∧ Cond.selects yX7_markedSum.cls yX7_markedSum yX7_markedSum ∈ gw := ⟨gt3 237 rfl rfl, gt3 239 rfl rfl, gsel (q := (⟨"TicketHall$Reader", "markedSum", "(I)V"⟩, 10)) 9 rfl⟩
theorem lk_X7_89 : Cond.methodLink RX7 89 yX9_mark ∈ gw ∧ Cond.instanceMethod yX9_mark ∈ gw ∧ Cond.selects yX9_mark.cls yX9_mark yX9_mark ∈ gw := ⟨gt4 1 rfl rfl, gt3 234 rfl rfl, gt3 235 rfl rfl⟩
theorem lk_X7_105 : Cond.methodLink RX7 105 yX7_sum ∈ gw ∧ Cond.instanceMethod yX7_sum ∈ gw ∧ Cond.selects yX7_sum.cls yX7_sum yX7_sum ∈ gw := ⟨gt4 2 rfl rfl, gt4 4 rfl rfl, gsel (q := (⟨"TicketHall$Reader", "sum", "(I)V"⟩, 10)) 10 rfl⟩
theorem lk_X7_133 : Cond.methodLink RX7 133 yX7_term ∈ gw ∧ Cond.instanceMethod yX7_term ∈ gw ∧ Cond.selects yX7_term.cls yX7_term yX7_term ∈ gw := ⟨gt4 6 rfl rfl, gt4 8 rfl rfl, gsel (q := (⟨"TicketHall$Reader", "term", "(I)V"⟩, 10)) 11 rfl⟩
theorem lk_X7_136 : Cond.methodLink RX7 136 yX7_part ∈ gw ∧ Cond.instanceMethod yX7_part ∈ gw ∧ Cond.selects yX7_part.cls yX7_part yX7_part ∈ gw := ⟨gt4 10 rfl rfl, gt4 12 rfl rfl, gsel (q := (⟨"TicketHall$Reader", "part", "(I)V"⟩, 10)) 12 rfl⟩
theorem lk_X7_123 : Cond.methodLink RX7 123 yX7_opens ∈ gw ∧ Cond.instanceMethod yX7_opens ∈ gw ∧ Cond.selects yX7_opens.cls yX7_opens yX7_opens ∈ gw := ⟨gt4 14 rfl rfl, gt4 16 rfl rfl, gsel (q := (⟨"TicketHall$Reader", "opens", "(I)Z"⟩, 10)) 13 rfl⟩
theorem lk_X7_127 : Cond.methodLink RX7 127 yX7_close ∈ gw ∧ Cond.instanceMethod yX7_close ∈ gw ∧ Cond.selects yX7_close.cls yX7_close yX7_close ∈ gw := ⟨gt4 18 rfl rfl, gt4 20 rfl rfl, gsel (q := (⟨"TicketHall$Reader", "close", "(I)V"⟩, 10)) 14 rfl⟩
theorem lk_X7_98 : Cond.methodLink RX7 98 yX9_emit ∈ gw ∧ Cond.instanceMethod yX9_emit ∈ gw ∧ Cond.selects yX9_emit.cls yX9_emit yX9_emit ∈ gw := ⟨gt4 24 rfl rfl, gt4 25 rfl rfl, gt4 26 rfl rfl⟩
theorem lk_X7_143 : Cond.methodLink RX7 143 yX7_word ∈ gw ∧ Cond.instanceMethod yX7_word ∈ gw ∧ Cond.selects yX7_word.cls yX7_word yX7_word ∈ gw := ⟨gt4 28 rfl rfl, gt4 30 rfl rfl, gsel (q := (⟨"TicketHall$Reader", "word", "(I)V"⟩, 10)) 15 rfl⟩
theorem lk_X7_76 : Cond.methodLink RX7 76 yX7_goesOnWith ∈ gw ∧ Cond.instanceMethod yX7_goesOnWith ∈ gw ∧ Cond.selects yX7_goesOnWith.cls yX7_goesOnWith yX7_goesOnWith ∈ gw := ⟨gt4 34 rfl rfl, gt4 36 rfl rfl, gsel (q := (⟨"TicketHall$Reader", "goesOnWith", "(Ljava/lang/String;)Z"⟩, 10)) 16 rfl⟩
theorem lk_X7_82 : Cond.methodLink RX7 82 yX7_times ∈ gw ∧ Cond.instanceMethod yX7_times ∈ gw ∧ Cond.selects yX7_times.cls yX7_times yX7_times ∈ gw := ⟨gt4 39 rfl rfl, gt4 41 rfl rfl, gsel (q := (⟨"TicketHall$Reader", "times", "()V"⟩, 10)) 17 rfl⟩
theorem lk_X7_93 : Cond.methodLink RX7 93 yX7_anyOf ∈ gw ∧ Cond.instanceMethod yX7_anyOf ∈ gw ∧ Cond.selects yX7_anyOf.cls yX7_anyOf yX7_anyOf ∈ gw := ⟨gt4 44 rfl rfl, gt4 46 rfl rfl, gsel (q := (⟨"TicketHall$Reader", "anyOf", "(I)V"⟩, 10)) 18 rfl⟩
theorem lk_X7_108 : Cond.methodLink RX7 108 yX7_allOf ∈ gw ∧ Cond.instanceMethod yX7_allOf ∈ gw ∧ Cond.selects yX7_allOf.cls yX7_allOf yX7_allOf ∈ gw := ⟨gt4 48 rfl rfl, gt4 50 rfl rfl, gsel (q := (⟨"TicketHall$Reader", "allOf", "(I)V"⟩, 10)) 19 rfl⟩
theorem lk_X7_116 : Cond.methodLink RX7 116 yX7_plain ∈ gw ∧ Cond.instanceMethod yX7_plain ∈ gw ∧ Cond.selects yX7_plain.cls yX7_plain yX7_plain ∈ gw := ⟨gt4 52 rfl rfl, gt4 54 rfl rfl, gsel (q := (⟨"TicketHall$Reader", "plain", "(I)V"⟩, 10)) 20 rfl⟩
theorem lk_X7_130 : Cond.methodLink RX7 130 yX7_comparison ∈ gw ∧ Cond.instanceMethod yX7_comparison ∈ gw ∧ Cond.selects yX7_comparison.cls yX7_comparison yX7_comparison ∈ gw := ⟨gt4 57 rfl rfl, gt4 59 rfl rfl, gsel (q := (⟨"TicketHall$Reader", "comparison", "(I)V"⟩, 10)) 21 rfl⟩
theorem lk_X7_113 : Cond.methodLink RX7 113 yX9_aimHere ∈ gw ∧ Cond.instanceMethod yX9_aimHere ∈ gw ∧ Cond.selects yX9_aimHere.cls yX9_aimHere yX9_aimHere ∈ gw := ⟨gt4 62 rfl rfl, gt4 63 rfl rfl, gt4 64 rfl rfl⟩
theorem lk_X11_216 : Cond.methodLink RX11 216 yX9_init_ ∈ gw ∧ Cond.instanceMethod yX9_init_ ∈ gw := ⟨gt4 68 rfl rfl, gt4 69 rfl rfl⟩
theorem lk_X9_22 : Cond.methodLink RX9 22 yJ7_copyOf_59c91 ∈ gw ∧ Cond.static yJ7_copyOf_59c91 ∈ gw := ⟨gt4 71 rfl rfl, gt4 72 rfl rfl⟩
theorem lk_J7_304 : Cond.methodLink RJ7 304 yJ9_min_7cf53 ∈ gw ∧ Cond.static yJ9_min_7cf53 ∈ gw := ⟨gt4 81 rfl rfl, gt3 66 rfl rfl⟩
theorem lk_X11_219 : Cond.methodLink RX11 219 yX2_addLaw ∈ gw ∧ Cond.instanceMethod yX2_addLaw ∈ gw ∧ Cond.selects yX2_addLaw.cls yX2_addLaw yX2_addLaw ∈ gw := ⟨gt4 85 rfl rfl, gt4 86 rfl rfl, gt4 87 rfl rfl⟩
theorem lk_L_70 : Cond.methodLink RL 70 yX11_orders ∈ gw ∧ Cond.instanceMethod yX11_orders ∈ gw ∧ Cond.selects yX11_orders.cls yX11_orders yX11_orders ∈ gw := ⟨gt4 89 rfl rfl, gt4 90 rfl rfl, gt4 91 rfl rfl⟩
theorem lk_X11_223 : Cond.methodLink RX11 223 yX2_copyFrom ∈ gw ∧ Cond.instanceMethod yX2_copyFrom ∈ gw ∧ Cond.selects yX2_copyFrom.cls yX2_copyFrom yX2_copyFrom ∈ gw := ⟨gt4 93 rfl rfl, gt4 94 rfl rfl, gt4 95 rfl rfl⟩
theorem lk_X2_92 : Cond.methodLink RX2 92 yX4_copyFrom ∈ gw ∧ Cond.instanceMethod yX4_copyFrom ∈ gw ∧ Cond.selects yX4_copyFrom.cls yX4_copyFrom yX4_copyFrom ∈ gw := ⟨gt4 98 rfl rfl, gt4 99 rfl rfl, gt4 100 rfl rfl⟩
theorem lk_X11_226 : Cond.methodLink RX11 226 yX8_through ∈ gw ∧ Cond.instanceMethod yX8_through ∈ gw ∧ Cond.selects yX8_through.cls yX8_through yX8_through ∈ gw := ⟨gt4 103 rfl rfl, gt4 104 rfl rfl, gt4 105 rfl rfl⟩
theorem lk_X8_35 : Cond.methodLink RX8 35 yX9_head ∈ gw ∧ Cond.instanceMethod yX9_head ∈ gw ∧ Cond.selects yX9_head.cls yX9_head yX9_head ∈ gw := ⟨gt4 107 rfl rfl, gt3 54 rfl rfl, gt3 55 rfl rfl⟩
theorem lk_X8_39 : Cond.methodLink RX8 39 yX8_once ∈ gw ∧ Cond.instanceMethod yX8_once ∈ gw ∧ Cond.selects yX8_once.cls yX8_once yX8_once ∈ gw := ⟨gt4 108 rfl rfl, gt4 110 rfl rfl, gsel (q := (⟨"TicketHall$Run", "once", "(LTicketHall$Hall;LTicketHall$Text;I)Z"⟩, 5)) 22 rfl⟩
theorem lk_X8_47 : Cond.methodLink RX8 47 yX8_lookAt ∈ gw ∧ Cond.instanceMethod yX8_lookAt ∈ gw ∧ Cond.selects yX8_lookAt.cls yX8_lookAt yX8_lookAt ∈ gw := ⟨gt4 112 rfl rfl, gt4 114 rfl rfl, gsel (q := (⟨"TicketHall$Run", "lookAt", "(LTicketHall$Hall;Z)V"⟩, 5)) 23 rfl⟩
theorem lk_X8_90 : Cond.methodLink RX8 90 yX8_fitOnes ∈ gw ∧ Cond.instanceMethod yX8_fitOnes ∈ gw ∧ Cond.selects yX8_fitOnes.cls yX8_fitOnes yX8_fitOnes ∈ gw := ⟨gt4 116 rfl rfl, gt4 118 rfl rfl, gsel (q := (⟨"TicketHall$Run", "fitOnes", "(LTicketHall$Hall;)I"⟩, 5)) 24 rfl⟩
theorem lk_X8_110 : Cond.methodLink RX8 110 yX3_isFit ∈ gw ∧ Cond.instanceMethod yX3_isFit ∈ gw ∧ Cond.selects yX3_isFit.cls yX3_isFit yX3_isFit ∈ gw := ⟨gt4 120 rfl rfl, gt3 104 rfl rfl, gt3 105 rfl rfl⟩
theorem lk_X8_93 : Cond.methodLink RX8 93 yX2_free ∈ gw ∧ Cond.instanceMethod yX2_free ∈ gw ∧ Cond.selects yX2_free.cls yX2_free yX2_free ∈ gw := ⟨gt4 121 rfl rfl, gt4 122 rfl rfl, gt4 123 rfl rfl⟩
theorem lk_X8_97 : Cond.methodLink RX8 97 yX2_isPerson ∈ gw ∧ Cond.instanceMethod yX2_isPerson ∈ gw ∧ Cond.selects yX2_isPerson.cls yX2_isPerson yX2_isPerson ∈ gw := ⟨gt4 125 rfl rfl, gt3 20 rfl rfl, gt3 21 rfl rfl⟩
theorem lk_X8_57 : Cond.methodLink RX8 57 yX5_run ∈ gw ∧ Cond.instanceMethod yX5_run ∈ gw ∧ Cond.selects yX5_run.cls yX5_run yX5_run ∈ gw := ⟨gt4 126 rfl rfl, gt3 58 rfl rfl, gt3 59 rfl rfl⟩
theorem lk_X8_64 : Cond.methodLink RX8 64 yX8_act ∈ gw ∧ Cond.instanceMethod yX8_act ∈ gw ∧ Cond.selects yX8_act.cls yX8_act yX8_act ∈ gw := ⟨gt4 128 rfl rfl, gt4 130 rfl rfl, gsel (q := (⟨"TicketHall$Run", "act", "(LTicketHall$Hall;III)I"⟩, 5)) 25 rfl⟩
theorem lk_X8_68 : Cond.methodLink RX8 68 yX0_takeUp ∈ gw ∧ Cond.instanceMethod yX0_takeUp ∈ gw ∧ Cond.selects yX0_takeUp.cls yX0_takeUp yX0_takeUp ∈ gw := ⟨gt4 132 rfl rfl, gt4 133 rfl rfl, gt4 134 rfl rfl⟩
theorem lk_X0_15 : Cond.methodLink RX0 15 yX2_isTicket ∈ gw ∧ Cond.instanceMethod yX2_isTicket ∈ gw ∧ Cond.selects yX2_isTicket.cls yX2_isTicket yX2_isTicket ∈ gw := ⟨gt4 136 rfl rfl, gt3 84 rfl rfl, gt3 85 rfl rfl⟩
theorem lk_X0_21 : Cond.methodLink RX0 21 yX2_isPerson ∈ gw ∧ Cond.instanceMethod yX2_isPerson ∈ gw ∧ Cond.selects yX2_isPerson.cls yX2_isPerson yX2_isPerson ∈ gw := ⟨gt4 137 rfl rfl, gt3 20 rfl rfl, gt3 21 rfl rfl⟩
theorem lk_X0_31 : Cond.methodLink RX0 31 yX3_isBarred ∈ gw ∧ Cond.instanceMethod yX3_isBarred ∈ gw ∧ Cond.selects yX3_isBarred.cls yX3_isBarred yX3_isBarred ∈ gw := ⟨gt4 138 rfl rfl, gt3 112 rfl rfl, gt3 113 rfl rfl⟩
theorem lk_X0_37 : Cond.methodLink RX0 37 yX2_give ∈ gw ∧ Cond.instanceMethod yX2_give ∈ gw ∧ Cond.selects yX2_give.cls yX2_give yX2_give ∈ gw := ⟨gt4 139 rfl rfl, gt4 140 rfl rfl, gt4 141 rfl rfl⟩
theorem lk_X0_45 : Cond.methodLink RX0 45 yX4_add ∈ gw ∧ Cond.instanceMethod yX4_add ∈ gw ∧ Cond.selects yX4_add.cls yX4_add yX4_add ∈ gw := ⟨gt4 143 rfl rfl, gt4 144 rfl rfl, gt4 145 rfl rfl⟩
theorem lk_X8_74 : Cond.methodLink RX8 74 yX0_exchange ∈ gw ∧ Cond.instanceMethod yX0_exchange ∈ gw ∧ Cond.selects yX0_exchange.cls yX0_exchange yX0_exchange ∈ gw := ⟨gt4 147 rfl rfl, gt4 148 rfl rfl, gt4 149 rfl rfl⟩
theorem lk_X0_54 : Cond.methodLink RX0 54 yX2_cross ∈ gw ∧ Cond.instanceMethod yX2_cross ∈ gw ∧ Cond.selects yX2_cross.cls yX2_cross yX2_cross ∈ gw := ⟨gt4 151 rfl rfl, gt4 152 rfl rfl, gt4 153 rfl rfl⟩
theorem lk_X2_104 : Cond.methodLink RX2 104 yX2_give ∈ gw ∧ Cond.instanceMethod yX2_give ∈ gw ∧ Cond.selects yX2_give.cls yX2_give yX2_give ∈ gw := ⟨gt4 155 rfl rfl, gt4 140 rfl rfl, gt4 141 rfl rfl⟩
theorem lk_X8_77 : Cond.methodLink RX8 77 yX0_giveUp ∈ gw ∧ Cond.instanceMethod yX0_giveUp ∈ gw ∧ Cond.selects yX0_giveUp.cls yX0_giveUp yX0_giveUp ∈ gw := ⟨gt4 156 rfl rfl, gt4 157 rfl rfl, gt4 158 rfl rfl⟩
theorem lk_X0_57 : Cond.methodLink RX0 57 yX2_ungive ∈ gw ∧ Cond.instanceMethod yX2_ungive ∈ gw ∧ Cond.selects yX2_ungive.cls yX2_ungive yX2_ungive ∈ gw := ⟨gt4 160 rfl rfl, gt4 161 rfl rfl, gt4 162 rfl rfl⟩
theorem lk_X8_81 : Cond.methodLink RX8 81 yX0_tick ∈ gw ∧ Cond.instanceMethod yX0_tick ∈ gw ∧ Cond.selects yX0_tick.cls yX0_tick yX0_tick ∈ gw := ⟨gt4 164 rfl rfl, gt4 165 rfl rfl, gt4 166 rfl rfl⟩
theorem lk_X0_63 : Cond.methodLink RX0 63 yX2_lawInForce ∈ gw ∧ Cond.instanceMethod yX2_lawInForce ∈ gw ∧ Cond.selects yX2_lawInForce.cls yX2_lawInForce yX2_lawInForce ∈ gw := ⟨gt4 168 rfl rfl, gt3 24 rfl rfl, gt3 25 rfl rfl⟩
theorem lk_X0_67 : Cond.methodLink RX0 67 yX3_begin ∈ gw ∧ Cond.instanceMethod yX3_begin ∈ gw ∧ Cond.selects yX3_begin.cls yX3_begin yX3_begin ∈ gw := ⟨gt4 169 rfl rfl, gt3 36 rfl rfl, gt3 37 rfl rfl⟩
theorem lk_L_74 : Cond.methodLink RL 74 yX11_fault ∈ gw ∧ Cond.instanceMethod yX11_fault ∈ gw ∧ Cond.selects yX11_fault.cls yX11_fault yX11_fault ∈ gw := ⟨gt4 170 rfl rfl, gt4 171 rfl rfl, gt4 172 rfl rfl⟩
theorem lk_L_78 : Cond.methodLink RL 78 yX11_stopped ∈ gw ∧ Cond.instanceMethod yX11_stopped ∈ gw ∧ Cond.selects yX11_stopped.cls yX11_stopped yX11_stopped ∈ gw := ⟨gt4 174 rfl rfl, gt4 175 rfl rfl, gt4 176 rfl rfl⟩
theorem lk_L_82 : Cond.methodLink RL 82 yX11_force ∈ gw ∧ Cond.instanceMethod yX11_force ∈ gw ∧ Cond.selects yX11_force.cls yX11_force yX11_force ∈ gw := ⟨gt4 178 rfl rfl, gt4 179 rfl rfl, gt4 180 rfl rfl⟩
theorem lk_X11_236 : Cond.methodLink RX11 236 yX2_isLaw ∈ gw ∧ Cond.instanceMethod yX2_isLaw ∈ gw ∧ Cond.selects yX2_isLaw.cls yX2_isLaw yX2_isLaw ∈ gw := ⟨gt4 182 rfl rfl, gt3 32 rfl rfl, gt3 33 rfl rfl⟩
theorem lk_L_86 : Cond.methodLink RL 86 yX11_draw ∈ gw ∧ Cond.instanceMethod yX11_draw ∈ gw ∧ Cond.selects yX11_draw.cls yX11_draw yX11_draw ∈ gw := ⟨gt4 183 rfl rfl, gt4 184 rfl rfl, gt4 185 rfl rfl⟩
theorem lk_X11_242 : Cond.methodLink RX11 242 yX0_takeUp ∈ gw ∧ Cond.instanceMethod yX0_takeUp ∈ gw ∧ Cond.selects yX0_takeUp.cls yX0_takeUp yX0_takeUp ∈ gw := ⟨gt4 187 rfl rfl, gt4 133 rfl rfl, gt4 134 rfl rfl⟩
theorem lk_L_90 : Cond.methodLink RL 90 yX11_swap ∈ gw ∧ Cond.instanceMethod yX11_swap ∈ gw ∧ Cond.selects yX11_swap.cls yX11_swap yX11_swap ∈ gw := ⟨gt4 188 rfl rfl, gt4 189 rfl rfl, gt4 190 rfl rfl⟩
theorem lk_X11_246 : Cond.methodLink RX11 246 yX0_exchange ∈ gw ∧ Cond.instanceMethod yX0_exchange ∈ gw ∧ Cond.selects yX0_exchange.cls yX0_exchange yX0_exchange ∈ gw := ⟨gt4 192 rfl rfl, gt4 148 rfl rfl, gt4 149 rfl rfl⟩
theorem lk_L_94 : Cond.methodLink RL 94 yX11_drop ∈ gw ∧ Cond.instanceMethod yX11_drop ∈ gw ∧ Cond.selects yX11_drop.cls yX11_drop yX11_drop ∈ gw := ⟨gt4 193 rfl rfl, gt4 194 rfl rfl, gt4 195 rfl rfl⟩
theorem lk_X11_249 : Cond.methodLink RX11 249 yX0_giveUp ∈ gw ∧ Cond.instanceMethod yX0_giveUp ∈ gw ∧ Cond.selects yX0_giveUp.cls yX0_giveUp yX0_giveUp ∈ gw := ⟨gt4 197 rfl rfl, gt4 157 rfl rfl, gt4 158 rfl rfl⟩
theorem lk_L_98 : Cond.methodLink RL 98 yX11_pass ∈ gw ∧ Cond.instanceMethod yX11_pass ∈ gw ∧ Cond.selects yX11_pass.cls yX11_pass yX11_pass ∈ gw := ⟨gt4 198 rfl rfl, gt4 199 rfl rfl, gt4 200 rfl rfl⟩
theorem lk_X11_253 : Cond.methodLink RX11 253 yX0_tick ∈ gw ∧ Cond.instanceMethod yX0_tick ∈ gw ∧ Cond.selects yX0_tick.cls yX0_tick yX0_tick ∈ gw := ⟨gt4 202 rfl rfl, gt4 165 rfl rfl, gt4 166 rfl rfl⟩
theorem lk_L_102 : Cond.methodLink RL 102 yX11_undo ∈ gw ∧ Cond.instanceMethod yX11_undo ∈ gw ∧ Cond.selects yX11_undo.cls yX11_undo yX11_undo ∈ gw := ⟨gt4 203 rfl rfl, gt4 204 rfl rfl, gt4 205 rfl rfl⟩
theorem lk_X11_257 : Cond.methodLink RX11 257 yX2_takeBack ∈ gw ∧ Cond.instanceMethod yX2_takeBack ∈ gw ∧ Cond.selects yX2_takeBack.cls yX2_takeBack yX2_takeBack ∈ gw := ⟨gt4 207 rfl rfl, gt4 208 rfl rfl, gt4 209 rfl rfl⟩
theorem lk_X2_111 : Cond.methodLink RX2 111 yX4_latest ∈ gw ∧ Cond.instanceMethod yX4_latest ∈ gw ∧ Cond.selects yX4_latest.cls yX4_latest yX4_latest ∈ gw := ⟨gt4 211 rfl rfl, gt4 212 rfl rfl, gt4 213 rfl rfl⟩
theorem lk_X2_115 : Cond.methodLink RX2 115 yX2_ungive ∈ gw ∧ Cond.instanceMethod yX2_ungive ∈ gw ∧ Cond.selects yX2_ungive.cls yX2_ungive yX2_ungive ∈ gw := ⟨gt4 215 rfl rfl, gt4 161 rfl rfl, gt4 162 rfl rfl⟩
theorem lk_X2_118 : Cond.methodLink RX2 118 yX2_cross ∈ gw ∧ Cond.instanceMethod yX2_cross ∈ gw ∧ Cond.selects yX2_cross.cls yX2_cross yX2_cross ∈ gw := ⟨gt4 216 rfl rfl, gt4 152 rfl rfl, gt4 153 rfl rfl⟩
theorem lk_L_106 : Cond.methodLink RL 106 yX11_day ∈ gw ∧ Cond.instanceMethod yX11_day ∈ gw ∧ Cond.selects yX11_day.cls yX11_day yX11_day ∈ gw := ⟨gt4 217 rfl rfl, gt4 218 rfl rfl, gt4 219 rfl rfl⟩
theorem lk_X11_261 : Cond.methodLink RX11 261 yX11_playDay ∈ gw ∧ Cond.instanceMethod yX11_playDay ∈ gw ∧ Cond.selects yX11_playDay.cls yX11_playDay yX11_playDay ∈ gw := ⟨gt4 221 rfl rfl, gt4 223 rfl rfl, gsel (q := (⟨"TicketHall", "playDay", "(LTicketHall$Text;)V"⟩, 17)) 26 rfl⟩
theorem lk_X11_308 : Cond.methodLink RX11 308 yX1_line ∈ gw ∧ Cond.instanceMethod yX1_line ∈ gw ∧ Cond.selects yX1_line.cls yX1_line yX1_line ∈ gw := ⟨gt4 225 rfl rfl, gt4 226 rfl rfl, gt4 227 rfl rfl⟩
theorem lk_X11_385 : Cond.methodLink RX11 385 yX1_play ∈ gw ∧ Cond.instanceMethod yX1_play ∈ gw ∧ Cond.selects yX1_play.cls yX1_play yX1_play ∈ gw := ⟨gt4 229 rfl rfl, gt4 230 rfl rfl, gt4 231 rfl rfl⟩
theorem lk_X1_42 : Cond.methodLink RX1 42 yJ7_fill_53178 ∈ gw ∧ Cond.static yJ7_fill_53178 ∈ gw := ⟨gt4 233 rfl rfl, gt1 55 rfl rfl⟩
theorem lk_X1_51 : Cond.methodLink RX1 51 yX1_earliest ∈ gw ∧ Cond.instanceMethod yX1_earliest ∈ gw ∧ Cond.selects yX1_earliest.cls yX1_earliest yX1_earliest ∈ gw := ⟨gt4 234 rfl rfl, gt4 236 rfl rfl, gsel (q := (⟨"TicketHall$Day", "earliest", "(LTicketHall$Hall;II)I"⟩, 5)) 27 rfl⟩
theorem lk_X1_55 : Cond.methodLink RX1 55 yX3_minutes ∈ gw ∧ Cond.instanceMethod yX3_minutes ∈ gw ∧ Cond.selects yX3_minutes.cls yX3_minutes yX3_minutes ∈ gw := ⟨gt4 238 rfl rfl, gt3 116 rfl rfl, gt3 117 rfl rfl⟩
theorem lk_L_110 : Cond.methodLink RL 110 yX11_waiting ∈ gw ∧ Cond.instanceMethod yX11_waiting ∈ gw ∧ Cond.selects yX11_waiting.cls yX11_waiting yX11_waiting ∈ gw := ⟨gt4 239 rfl rfl, gt5 0 rfl rfl, gt5 1 rfl rfl⟩
theorem lk_X11_272 : Cond.methodLink RX11 272 yX1_waitOfAll ∈ gw ∧ Cond.instanceMethod yX1_waitOfAll ∈ gw ∧ Cond.selects yX1_waitOfAll.cls yX1_waitOfAll yX1_waitOfAll ∈ gw := ⟨gt5 3 rfl rfl, gt5 4 rfl rfl, gt5 5 rfl rfl⟩
theorem lk_X1_65 : Cond.methodLink RX1 65 yX3_cost ∈ gw ∧ Cond.instanceMethod yX3_cost ∈ gw ∧ Cond.selects yX3_cost.cls yX3_cost yX3_cost ∈ gw := ⟨gt5 7 rfl rfl, gt3 41 rfl rfl, gt3 42 rfl rfl⟩
theorem lk_X11_276 : Cond.methodLink RX11 276 yX1_waitOf ∈ gw ∧ Cond.instanceMethod yX1_waitOf ∈ gw ∧ Cond.selects yX1_waitOf.cls yX1_waitOf yX1_waitOf ∈ gw := ⟨gt5 8 rfl rfl, gt5 9 rfl rfl, gt5 10 rfl rfl⟩
theorem lk_L_114 : Cond.methodLink RL 114 yX11_about ∈ gw ∧ Cond.instanceMethod yX11_about ∈ gw ∧ Cond.selects yX11_about.cls yX11_about yX11_about ∈ gw := ⟨gt5 12 rfl rfl, gt5 13 rfl rfl, gt5 14 rfl rfl⟩
theorem lk_X11_283 : Cond.methodLink RX11 283 yX6_findAbout ∈ gw ∧ Cond.instanceMethod yX6_findAbout ∈ gw ∧ Cond.selects yX6_findAbout.cls yX6_findAbout yX6_findAbout ∈ gw := ⟨gt5 16 rfl rfl, gt5 17 rfl rfl, gt5 18 rfl rfl⟩
theorem lk_X6_52 : Cond.methodLink RX6 52 yX6_startOver ∈ gw ∧ Cond.instanceMethod yX6_startOver ∈ gw ∧ Cond.selects yX6_startOver.cls yX6_startOver yX6_startOver ∈ gw := ⟨gt5 20 rfl rfl, gt5 22 rfl rfl, gsel (q := (⟨"TicketHall$Plan", "startOver", "(LTicketHall$Hall;)V"⟩, 13)) 28 rfl⟩
theorem lk_X6_63 : Cond.methodLink RX6 63 yX2_lawInForce ∈ gw ∧ Cond.instanceMethod yX2_lawInForce ∈ gw ∧ Cond.selects yX2_lawInForce.cls yX2_lawInForce yX2_lawInForce ∈ gw := ⟨gt5 24 rfl rfl, gt3 24 rfl rfl, gt3 25 rfl rfl⟩
theorem lk_X6_69 : Cond.methodLink RX6 69 yX3_begin ∈ gw ∧ Cond.instanceMethod yX3_begin ∈ gw ∧ Cond.selects yX3_begin.cls yX3_begin yX3_begin ∈ gw := ⟨gt5 25 rfl rfl, gt3 36 rfl rfl, gt3 37 rfl rfl⟩
theorem lk_X6_75 : Cond.methodLink RX6 75 yX1_line ∈ gw ∧ Cond.instanceMethod yX1_line ∈ gw ∧ Cond.selects yX1_line.cls yX1_line yX1_line ∈ gw := ⟨gt5 26 rfl rfl, gt4 226 rfl rfl, gt4 227 rfl rfl⟩
theorem lk_X6_80 : Cond.methodLink RX6 80 yJ7_fill_53178 ∈ gw ∧ Cond.static yJ7_fill_53178 ∈ gw := ⟨gt5 27 rfl rfl, gt1 55 rfl rfl⟩
theorem lk_X6_56 : Cond.methodLink RX6 56 yX6_place ∈ gw ∧ Cond.instanceMethod yX6_place ∈ gw ∧ Cond.selects yX6_place.cls yX6_place yX6_place ∈ gw := ⟨gt5 28 rfl rfl, gt5 30 rfl rfl, gsel (q := (⟨"TicketHall$Plan", "place", "(I)V"⟩, 13)) 29 rfl⟩
theorem lk_X6_93 : Cond.methodLink RX6 93 yX6_keepIfAsTold ∈ gw ∧ Cond.instanceMethod yX6_keepIfAsTold ∈ gw ∧ Cond.selects yX6_keepIfAsTold.cls yX6_keepIfAsTold yX6_keepIfAsTold ∈ gw := ⟨gt5 32 rfl rfl, gt5 34 rfl rfl, gsel (q := (⟨"TicketHall$Plan", "keepIfAsTold", "()V"⟩, 13)) 30 rfl⟩
theorem lk_X6_118 : Cond.methodLink RX6 118 yX1_play ∈ gw ∧ Cond.instanceMethod yX1_play ∈ gw ∧ Cond.selects yX1_play.cls yX1_play yX1_play ∈ gw := ⟨gt5 36 rfl rfl, gt4 230 rfl rfl, gt4 231 rfl rfl⟩
theorem lk_X6_144 : Cond.methodLink RX6 144 yJ9_max_7cf53 ∈ gw ∧ Cond.static yJ9_max_7cf53 ∈ gw := ⟨gt5 37 rfl rfl, gt3 69 rfl rfl⟩
theorem lk_X6_96 : Cond.methodLink RX6 96 yX6_keepIfBetter ∈ gw ∧ Cond.instanceMethod yX6_keepIfBetter ∈ gw ∧ Cond.selects yX6_keepIfBetter.cls yX6_keepIfBetter yX6_keepIfBetter ∈ gw := ⟨gt5 38 rfl rfl, gt5 40 rfl rfl, gsel (q := (⟨"TicketHall$Plan", "keepIfBetter", "()V"⟩, 13)) 31 rfl⟩
theorem lk_X6_115 : Cond.methodLink RX6 115 yX3_isFit ∈ gw ∧ Cond.instanceMethod yX3_isFit ∈ gw ∧ Cond.selects yX3_isFit.cls yX3_isFit yX3_isFit ∈ gw := ⟨gt5 42 rfl rfl, gt3 104 rfl rfl, gt3 105 rfl rfl⟩
theorem lk_X6_122 : Cond.methodLink RX6 122 yX1_waitOfAll ∈ gw ∧ Cond.instanceMethod yX1_waitOfAll ∈ gw ∧ Cond.selects yX1_waitOfAll.cls yX1_waitOfAll yX1_waitOfAll ∈ gw := ⟨gt5 43 rfl rfl, gt5 4 rfl rfl, gt5 5 rfl rfl⟩
theorem lk_X6_108 : Cond.methodLink RX6 108 yX6_mayHave ∈ gw ∧ Cond.instanceMethod yX6_mayHave ∈ gw ∧ Cond.selects yX6_mayHave.cls yX6_mayHave yX6_mayHave ∈ gw := ⟨gt5 45 rfl rfl, gt5 47 rfl rfl, gsel (q := (⟨"TicketHall$Plan", "mayHave", "(II)Z"⟩, 13)) 32 rfl⟩
theorem lk_X6_112 : Cond.methodLink RX6 112 yX3_isBarred ∈ gw ∧ Cond.instanceMethod yX3_isBarred ∈ gw ∧ Cond.selects yX3_isBarred.cls yX3_isBarred yX3_isBarred ∈ gw := ⟨gt5 49 rfl rfl, gt3 112 rfl rfl, gt3 113 rfl rfl⟩
theorem lk_L_118 : Cond.methodLink RL 118 yX11_trade ∈ gw ∧ Cond.instanceMethod yX11_trade ∈ gw ∧ Cond.selects yX11_trade.cls yX11_trade yX11_trade ∈ gw := ⟨gt5 50 rfl rfl, gt5 51 rfl rfl, gt5 52 rfl rfl⟩
theorem lk_X11_295 : Cond.methodLink RX11 295 yX10_settle ∈ gw ∧ Cond.instanceMethod yX10_settle ∈ gw ∧ Cond.selects yX10_settle.cls yX10_settle yX10_settle ∈ gw := ⟨gt5 54 rfl rfl, gt5 55 rfl rfl, gt5 56 rfl rfl⟩
theorem lk_X10_35 : Cond.methodLink RX10 35 yJ7_fill_53178 ∈ gw ∧ Cond.static yJ7_fill_53178 ∈ gw := ⟨gt5 58 rfl rfl, gt1 55 rfl rfl⟩
theorem lk_X10_41 : Cond.methodLink RX10 41 yX2_isPerson ∈ gw ∧ Cond.instanceMethod yX2_isPerson ∈ gw ∧ Cond.selects yX2_isPerson.cls yX2_isPerson yX2_isPerson ∈ gw := ⟨gt5 59 rfl rfl, gt3 20 rfl rfl, gt3 21 rfl rfl⟩
theorem lk_X10_53 : Cond.methodLink RX10 53 yX10_pointAll ∈ gw ∧ Cond.instanceMethod yX10_pointAll ∈ gw ∧ Cond.selects yX10_pointAll.cls yX10_pointAll yX10_pointAll ∈ gw := ⟨gt5 60 rfl rfl, gt5 62 rfl rfl, gsel (q := (⟨"TicketHall$Trade", "pointAll", "(LTicketHall$Judge;)V"⟩, 5)) 33 rfl⟩
theorem lk_X10_61 : Cond.methodLink RX10 61 yX10_wishedHolder ∈ gw ∧ Cond.instanceMethod yX10_wishedHolder ∈ gw ∧ Cond.selects yX10_wishedHolder.cls yX10_wishedHolder yX10_wishedHolder ∈ gw := ⟨gt5 64 rfl rfl, gt5 66 rfl rfl, gsel (q := (⟨"TicketHall$Trade", "wishedHolder", "(LTicketHall$Judge;I)I"⟩, 5)) 34 rfl⟩
theorem lk_X10_71 : Cond.methodLink RX10 71 yX3_isBarred ∈ gw ∧ Cond.instanceMethod yX3_isBarred ∈ gw ∧ Cond.selects yX3_isBarred.cls yX3_isBarred yX3_isBarred ∈ gw := ⟨gt5 68 rfl rfl, gt3 112 rfl rfl, gt3 113 rfl rfl⟩
theorem lk_X10_57 : Cond.methodLink RX10 57 yX10_takeRings ∈ gw ∧ Cond.instanceMethod yX10_takeRings ∈ gw ∧ Cond.selects yX10_takeRings.cls yX10_takeRings yX10_takeRings ∈ gw := ⟨gt5 69 rfl rfl, gt5 71 rfl rfl, gsel (q := (⟨"TicketHall$Trade", "takeRings", "(LTicketHall$Hall;)V"⟩, 5)) 35 rfl⟩
theorem lk_X10_78 : Cond.methodLink RX10 78 yX10_isInRing ∈ gw ∧ Cond.instanceMethod yX10_isInRing ∈ gw ∧ Cond.selects yX10_isInRing.cls yX10_isInRing yX10_isInRing ∈ gw := ⟨gt5 73 rfl rfl, gt5 75 rfl rfl, gsel (q := (⟨"TicketHall$Trade", "isInRing", "(I)Z"⟩, 5)) 36 rfl⟩
theorem lk_X10_81 : Cond.methodLink RX10 81 yJ9_min_7cf53 ∈ gw ∧ Cond.static yJ9_min_7cf53 ∈ gw := ⟨gt5 77 rfl rfl, gt3 66 rfl rfl⟩
theorem lk_L_122 : Cond.methodLink RL 122 yX11_both ∈ gw ∧ Cond.instanceMethod yX11_both ∈ gw ∧ Cond.selects yX11_both.cls yX11_both yX11_both ∈ gw := ⟨gt5 78 rfl rfl, gt5 79 rfl rfl, gt5 80 rfl rfl⟩
theorem lk_X11_304 : Cond.methodLink RX11 304 yX10_bothWouldSwap ∈ gw ∧ Cond.instanceMethod yX10_bothWouldSwap ∈ gw ∧ Cond.selects yX10_bothWouldSwap.cls yX10_bothWouldSwap yX10_bothWouldSwap ∈ gw := ⟨gt5 82 rfl rfl, gt5 83 rfl rfl, gt5 84 rfl rfl⟩
theorem lk_X10_87 : Cond.methodLink RX10 87 yX10_wantsMore ∈ gw ∧ Cond.static yX10_wantsMore ∈ gw := ⟨gt5 86 rfl rfl, gt5 87 rfl rfl⟩
theorem lk_L_126 : Cond.methodLink RL 126 yX11_take ∈ gw ∧ Cond.instanceMethod yX11_take ∈ gw ∧ Cond.selects yX11_take.cls yX11_take yX11_take ∈ gw := ⟨gt5 89 rfl rfl, gt5 90 rfl rfl, gt5 91 rfl rfl⟩
theorem lk_X11_311 : Cond.methodLink RX11 311 yX6_earliestDone ∈ gw ∧ Cond.instanceMethod yX6_earliestDone ∈ gw ∧ Cond.selects yX6_earliestDone.cls yX6_earliestDone yX6_earliestDone ∈ gw := ⟨gt5 93 rfl rfl, gt5 94 rfl rfl, gt5 95 rfl rfl⟩
theorem lk_L_130 : Cond.methodLink RL 130 yX11_desks ∈ gw ∧ Cond.instanceMethod yX11_desks ∈ gw ∧ Cond.selects yX11_desks.cls yX11_desks yX11_desks ∈ gw := ⟨gt5 97 rfl rfl, gt5 98 rfl rfl, gt5 99 rfl rfl⟩
theorem lk_X11_314 : Cond.methodLink RX11 314 yX6_fewestDesks ∈ gw ∧ Cond.instanceMethod yX6_fewestDesks ∈ gw ∧ Cond.selects yX6_fewestDesks.cls yX6_fewestDesks yX6_fewestDesks ∈ gw := ⟨gt5 101 rfl rfl, gt5 102 rfl rfl, gt5 103 rfl rfl⟩
theorem lk_X6_156 : Cond.methodLink RX6 156 yJ6_bitCount_0f7a4 ∈ gw ∧ Cond.static yJ6_bitCount_0f7a4 ∈ gw := ⟨gt5 105 rfl rfl, gt5 106 rfl rfl⟩
theorem lk_X6_162 : Cond.methodLink RX6 162 yX6_areDone ∈ gw ∧ Cond.instanceMethod yX6_areDone ∈ gw ∧ Cond.selects yX6_areDone.cls yX6_areDone yX6_areDone ∈ gw := ⟨gt5 111 rfl rfl, gt5 113 rfl rfl, gsel (q := (⟨"TicketHall$Plan", "areDone", "(II)Z"⟩, 13)) 37 rfl⟩
theorem lk_X11_317 : Cond.methodLink RX11 317 yJ6_bitCount_0f7a4 ∈ gw ∧ Cond.static yJ6_bitCount_0f7a4 ∈ gw := ⟨gt5 115 rfl rfl, gt5 106 rfl rfl⟩
theorem lk_L_134 : Cond.methodLink RL 134 yX11_told ∈ gw ∧ Cond.instanceMethod yX11_told ∈ gw ∧ Cond.selects yX11_told.cls yX11_told yX11_told ∈ gw := ⟨gt5 116 rfl rfl, gt5 117 rfl rfl, gt5 118 rfl rfl⟩
theorem lk_L_138 : Cond.methodLink RL 138 yX11_forget ∈ gw ∧ Cond.instanceMethod yX11_forget ∈ gw ∧ Cond.selects yX11_forget.cls yX11_forget yX11_forget ∈ gw := ⟨gt5 120 rfl rfl, gt5 121 rfl rfl, gt5 122 rfl rfl⟩
theorem lk_L_142 : Cond.methodLink RL 142 yX11_had ∈ gw ∧ Cond.instanceMethod yX11_had ∈ gw ∧ Cond.selects yX11_had.cls yX11_had yX11_had ∈ gw := ⟨gt5 124 rfl rfl, gt5 125 rfl rfl, gt5 126 rfl rfl⟩
theorem lk_X11_334 : Cond.methodLink RX11 334 yX6_findWays ∈ gw ∧ Cond.instanceMethod yX6_findWays ∈ gw ∧ Cond.selects yX6_findWays.cls yX6_findWays yX6_findWays ∈ gw := ⟨gt5 128 rfl rfl, gt5 129 rfl rfl, gt5 130 rfl rfl⟩
theorem lk_X11_340 : Cond.methodLink RX11 340 yX6_ticketIn ∈ gw ∧ Cond.instanceMethod yX6_ticketIn ∈ gw ∧ Cond.selects yX6_ticketIn.cls yX6_ticketIn yX6_ticketIn ∈ gw := ⟨gt5 132 rfl rfl, gt5 133 rfl rfl, gt5 134 rfl rfl⟩
theorem lk_L_146 : Cond.methodLink RL 146 yX11_ask ∈ gw ∧ Cond.instanceMethod yX11_ask ∈ gw ∧ Cond.selects yX11_ask.cls yX11_ask yX11_ask ∈ gw := ⟨gt5 136 rfl rfl, gt5 137 rfl rfl, gt5 138 rfl rfl⟩
theorem lk_X11_343 : Cond.methodLink RX11 343 yX6_mostWaysAlike ∈ gw ∧ Cond.instanceMethod yX6_mostWaysAlike ∈ gw ∧ Cond.selects yX6_mostWaysAlike.cls yX6_mostWaysAlike yX6_mostWaysAlike ∈ gw := ⟨gt5 140 rfl rfl, gt5 141 rfl rfl, gt5 142 rfl rfl⟩
theorem lk_X6_150 : Cond.methodLink RX6 150 yX6_ticketIn ∈ gw ∧ Cond.instanceMethod yX6_ticketIn ∈ gw ∧ Cond.selects yX6_ticketIn.cls yX6_ticketIn yX6_ticketIn ∈ gw := ⟨gt5 144 rfl rfl, gt5 133 rfl rfl, gt5 134 rfl rfl⟩
theorem lk_L_150 : Cond.methodLink RL 150 yX11_few ∈ gw ∧ Cond.instanceMethod yX11_few ∈ gw ∧ Cond.selects yX11_few.cls yX11_few yX11_few ∈ gw := ⟨gt5 145 rfl rfl, gt5 146 rfl rfl, gt5 147 rfl rfl⟩
theorem lk_X11_348 : Cond.methodLink RX11 348 yJ7_fill_d0a16 ∈ gw ∧ Cond.static yJ7_fill_d0a16 ∈ gw := ⟨gt5 150 rfl rfl, gt5 151 rfl rfl⟩
theorem lk_L_155 : Cond.methodLink RL 155 yX11_compare ∈ gw ∧ Cond.instanceMethod yX11_compare ∈ gw ∧ Cond.selects yX11_compare.cls yX11_compare yX11_compare ∈ gw := ⟨gt5 155 rfl rfl, gt5 156 rfl rfl, gt5 157 rfl rfl⟩
theorem lk_X11_355 : Cond.methodLink RX11 355 yX2_lawOf ∈ gw ∧ Cond.instanceMethod yX2_lawOf ∈ gw ∧ Cond.selects yX2_lawOf.cls yX2_lawOf yX2_lawOf ∈ gw := ⟨gt5 159 rfl rfl, gt3 28 rfl rfl, gt3 29 rfl rfl⟩
theorem lk_L_159 : Cond.methodLink RL 159 yX11_days ∈ gw ∧ Cond.instanceMethod yX11_days ∈ gw ∧ Cond.selects yX11_days.cls yX11_days yX11_days ∈ gw := ⟨gt5 160 rfl rfl, gt5 161 rfl rfl, gt5 162 rfl rfl⟩
theorem lk_X11_367 : Cond.methodLink RX11 367 yX0_byLot ∈ gw ∧ Cond.instanceMethod yX0_byLot ∈ gw ∧ Cond.selects yX0_byLot.cls yX0_byLot yX0_byLot ∈ gw := ⟨gt5 165 rfl rfl, gt5 166 rfl rfl, gt5 167 rfl rfl⟩
theorem lk_X0_75 : Cond.methodLink RX0 75 yX0_lot ∈ gw ∧ Cond.instanceMethod yX0_lot ∈ gw ∧ Cond.selects yX0_lot.cls yX0_lot yX0_lot ∈ gw := ⟨gt5 169 rfl rfl, gt5 171 rfl rfl, gsel (q := (⟨"TicketHall$Acts", "lot", "(I)I"⟩, 2)) 38 rfl⟩
theorem lk_X0_82 : Cond.methodLink RX0 82 yX0_takeUp ∈ gw ∧ Cond.instanceMethod yX0_takeUp ∈ gw ∧ Cond.selects yX0_takeUp.cls yX0_takeUp yX0_takeUp ∈ gw := ⟨gt5 176 rfl rfl, gt4 133 rfl rfl, gt4 134 rfl rfl⟩
theorem lk_X0_86 : Cond.methodLink RX0 86 yX0_exchange ∈ gw ∧ Cond.instanceMethod yX0_exchange ∈ gw ∧ Cond.selects yX0_exchange.cls yX0_exchange yX0_exchange ∈ gw := ⟨gt5 177 rfl rfl, gt4 148 rfl rfl, gt4 149 rfl rfl⟩
theorem lk_X0_89 : Cond.methodLink RX0 89 yX0_giveUp ∈ gw ∧ Cond.instanceMethod yX0_giveUp ∈ gw ∧ Cond.selects yX0_giveUp.cls yX0_giveUp yX0_giveUp ∈ gw := ⟨gt5 178 rfl rfl, gt4 157 rfl rfl, gt4 158 rfl rfl⟩
theorem lk_L_163 : Cond.methodLink RL 163 yX11_drawn ∈ gw ∧ Cond.instanceMethod yX11_drawn ∈ gw ∧ Cond.selects yX11_drawn.cls yX11_drawn yX11_drawn ∈ gw := ⟨gt5 180 rfl rfl, gt5 181 rfl rfl, gt5 182 rfl rfl⟩
theorem lk_L_167 : Cond.methodLink RL 167 yX11_image ∈ gw ∧ Cond.instanceMethod yX11_image ∈ gw ∧ Cond.selects yX11_image.cls yX11_image yX11_image ∈ gw := ⟨gt5 184 rfl rfl, gt5 185 rfl rfl, gt5 186 rfl rfl⟩
theorem lk_L_171 : Cond.methodLink RL 171 yX11_back ∈ gw ∧ Cond.instanceMethod yX11_back ∈ gw ∧ Cond.selects yX11_back.cls yX11_back yX11_back ∈ gw := ⟨gt5 188 rfl rfl, gt5 189 rfl rfl, gt5 190 rfl rfl⟩
theorem lk_L_175 : Cond.methodLink RL 175 yX11_count ∈ gw ∧ Cond.instanceMethod yX11_count ∈ gw ∧ Cond.selects yX11_count.cls yX11_count yX11_count ∈ gw := ⟨gt5 192 rfl rfl, gt5 193 rfl rfl, gt5 194 rfl rfl⟩
theorem lk_X11_376 : Cond.methodLink RX11 376 yX2_free ∈ gw ∧ Cond.instanceMethod yX2_free ∈ gw ∧ Cond.selects yX2_free.cls yX2_free yX2_free ∈ gw := ⟨gt5 196 rfl rfl, gt4 122 rfl rfl, gt4 123 rfl rfl⟩
theorem lk_L_179 : Cond.methodLink RL 179 yX11_status ∈ gw ∧ Cond.instanceMethod yX11_status ∈ gw ∧ Cond.selects yX11_status.cls yX11_status yX11_status ∈ gw := ⟨gt5 197 rfl rfl, gt5 198 rfl rfl, gt5 199 rfl rfl⟩
theorem lk_L_12 : Cond.methodLink RL 12 yX12_init ∈ gw ∧ Cond.instanceMethod yX12_init ∈ gw := ⟨gt5 203 rfl rfl, gt5 204 rfl rfl⟩
theorem lk_X12_18 : Cond.methodLink RX12 18 objectInit ∈ gw ∧ Cond.instanceMethod objectInit ∈ gw ∧ Cond.code objectInit ⟨#[0xb1]⟩ 1 none ∈ gw := ⟨gt5 206 rfl rfl, gt1 28 rfl rfl, gt1 29 rfl rfl⟩
theorem lk_L_170 : Cond.methodLink RL 170 yX12_image ∈ gw ∧ Cond.instanceMethod yX12_image ∈ gw ∧ Cond.selects yX12_image.cls yX12_image yX12_image ∈ gw := ⟨gt6 148 rfl rfl, gt6 149 rfl rfl, gt6 150 rfl rfl⟩
theorem lk_X12_117 : Cond.methodLink RX12 117 yX12_lies ∈ gw ∧ Cond.static yX12_lies ∈ gw := ⟨gt6 152 rfl rfl, gt6 153 rfl rfl⟩
theorem lk_X12_121 : Cond.methodLink RX12 121 yX12_refuses ∈ gw ∧ Cond.instanceMethod yX12_refuses ∈ gw ∧ Cond.selects yX12_refuses.cls yX12_refuses yX12_refuses ∈ gw := ⟨gt6 155 rfl rfl, gt6 157 rfl rfl, gsel (q := (⟨"TicketHallModel", "refuses", "(I)I"⟩, 60)) 39 rfl⟩
theorem lk_X12_14 : Cond.methodLink RX12 14 yX12_good ∈ gw ∧ Cond.instanceMethod yX12_good ∈ gw ∧ Cond.selects yX12_good.cls yX12_good yX12_good ∈ gw := ⟨gt6 159 rfl rfl, gt6 161 rfl rfl, gsel (q := (⟨"TicketHallModel", "good", "(I)I"⟩, 60)) 40 rfl⟩
theorem lk_L_174 : Cond.methodLink RL 174 yX12_back ∈ gw ∧ Cond.instanceMethod yX12_back ∈ gw ∧ Cond.selects yX12_back.cls yX12_back yX12_back ∈ gw := ⟨gt6 163 rfl rfl, gt6 164 rfl rfl, gt6 165 rfl rfl⟩
theorem lk_X12_124 : Cond.methodLink RX12 124 yX12_goodAnew ∈ gw ∧ Cond.instanceMethod yX12_goodAnew ∈ gw ∧ Cond.selects yX12_goodAnew.cls yX12_goodAnew yX12_goodAnew ∈ gw := ⟨gt6 167 rfl rfl, gt6 169 rfl rfl, gsel (q := (⟨"TicketHallModel", "goodAnew", "(I)I"⟩, 60)) 41 rfl⟩
theorem lk_L_17 : Cond.methodLink RL 17 yX12_person ∈ gw ∧ Cond.instanceMethod yX12_person ∈ gw ∧ Cond.selects yX12_person.cls yX12_person yX12_person ∈ gw := ⟨gt6 171 rfl rfl, gt6 172 rfl rfl, gt6 173 rfl rfl⟩
theorem lk_X12_127 : Cond.methodLink RX12 127 yX12_isKind ∈ gw ∧ Cond.static yX12_isKind ∈ gw := ⟨gt6 175 rfl rfl, gt6 176 rfl rfl⟩
theorem lk_L_21 : Cond.methodLink RL 21 yX12_of ∈ gw ∧ Cond.instanceMethod yX12_of ∈ gw ∧ Cond.selects yX12_of.cls yX12_of yX12_of ∈ gw := ⟨gt6 178 rfl rfl, gt6 179 rfl rfl, gt6 180 rfl rfl⟩
theorem lk_X12_131 : Cond.methodLink RX12 131 yX12_isPerson ∈ gw ∧ Cond.instanceMethod yX12_isPerson ∈ gw ∧ Cond.selects yX12_isPerson.cls yX12_isPerson yX12_isPerson ∈ gw := ⟨gt6 182 rfl rfl, gt6 184 rfl rfl, gsel (q := (⟨"TicketHallModel", "isPerson", "(I)Z"⟩, 60)) 42 rfl⟩
theorem lk_X12_134 : Cond.methodLink RX12 134 yX12_costOf ∈ gw ∧ Cond.instanceMethod yX12_costOf ∈ gw ∧ Cond.selects yX12_costOf.cls yX12_costOf yX12_costOf ∈ gw := ⟨gt6 186 rfl rfl, gt6 188 rfl rfl, gsel (q := (⟨"TicketHallModel", "costOf", "(I)I"⟩, 60)) 43 rfl⟩
theorem lk_X12_347 : Cond.methodLink RX12 347 yX12_tells ∈ gw ∧ Cond.instanceMethod yX12_tells ∈ gw ∧ Cond.selects yX12_tells.cls yX12_tells yX12_tells ∈ gw := ⟨gt6 190 rfl rfl, gt6 192 rfl rfl, gsel (q := (⟨"TicketHallModel", "tells", "(IIIIIII)I"⟩, 60)) 44 rfl⟩
theorem lk_X12_343 : Cond.methodLink RX12 343 yX12_setsAsked ∈ gw ∧ Cond.instanceMethod yX12_setsAsked ∈ gw ∧ Cond.selects yX12_setsAsked.cls yX12_setsAsked yX12_setsAsked ∈ gw := ⟨gt6 194 rfl rfl, gt6 196 rfl rfl, gsel (q := (⟨"TicketHallModel", "setsAsked", "(III)V"⟩, 60)) 45 rfl⟩
theorem lk_X12_285 : Cond.methodLink RX12 285 yX12_codeAt ∈ gw ∧ Cond.instanceMethod yX12_codeAt ∈ gw ∧ Cond.selects yX12_codeAt.cls yX12_codeAt yX12_codeAt ∈ gw := ⟨gt6 198 rfl rfl, gt6 200 rfl rfl, gsel (q := (⟨"TicketHallModel", "codeAt", "(I)I"⟩, 60)) 46 rfl⟩
theorem lk_X12_309 : Cond.methodLink RX12 309 yX12_sumOf ∈ gw ∧ Cond.instanceMethod yX12_sumOf ∈ gw ∧ Cond.selects yX12_sumOf.cls yX12_sumOf yX12_sumOf ∈ gw := ⟨gt6 202 rfl rfl, gt6 204 rfl rfl, gsel (q := (⟨"TicketHallModel", "sumOf", "(Z)J"⟩, 60)) 47 rfl⟩
theorem lk_X12_295 : Cond.methodLink RX12 295 yX12_termOf ∈ gw ∧ Cond.instanceMethod yX12_termOf ∈ gw ∧ Cond.selects yX12_termOf.cls yX12_termOf yX12_termOf ∈ gw := ⟨gt6 206 rfl rfl, gt6 208 rfl rfl, gsel (q := (⟨"TicketHallModel", "termOf", "(Z)J"⟩, 60)) 48 rfl⟩
theorem lk_X12_303 : Cond.methodLink RX12 303 yX12_partOf ∈ gw ∧ Cond.instanceMethod yX12_partOf ∈ gw ∧ Cond.selects yX12_partOf.cls yX12_partOf yX12_partOf ∈ gw := ⟨gt6 210 rfl rfl, gt6 212 rfl rfl, gsel (q := (⟨"TicketHallModel", "partOf", "(Z)J"⟩, 60)) 49 rfl⟩
theorem lk_X12_241 : Cond.methodLink RX12 241 yX12_sign ∈ gw ∧ Cond.static yX12_sign ∈ gw := ⟨gt6 214 rfl rfl, gt6 215 rfl rfl⟩
theorem lk_X12_306 : Cond.methodLink RX12 306 yX12_passes0 ∈ gw ∧ Cond.instanceMethod yX12_passes0 ∈ gw ∧ Cond.selects yX12_passes0.cls yX12_passes0 yX12_passes0 ∈ gw := ⟨gt6 217 rfl rfl, gt6 219 rfl rfl, gsel (q := (⟨"TicketHallModel", "passes0", "(I)Z"⟩, 60)) 50 rfl⟩
theorem lk_X12_315 : Cond.methodLink RX12 315 yX12_orderValue ∈ gw ∧ Cond.instanceMethod yX12_orderValue ∈ gw ∧ Cond.selects yX12_orderValue.cls yX12_orderValue yX12_orderValue ∈ gw := ⟨gt6 221 rfl rfl, gt6 223 rfl rfl, gsel (q := (⟨"TicketHallModel", "orderValue", "(II)I"⟩, 60)) 51 rfl⟩
theorem lk_X12_327 : Cond.methodLink RX12 327 yX12_heldMany ∈ gw ∧ Cond.instanceMethod yX12_heldMany ∈ gw ∧ Cond.selects yX12_heldMany.cls yX12_heldMany yX12_heldMany ∈ gw := ⟨gt6 225 rfl rfl, gt6 227 rfl rfl, gsel (q := (⟨"TicketHallModel", "heldMany", "()I"⟩, 60)) 52 rfl⟩
theorem lk_X12_351 : Cond.methodLink RX12 351 yX12_holds ∈ gw ∧ Cond.instanceMethod yX12_holds ∈ gw ∧ Cond.selects yX12_holds.cls yX12_holds yX12_holds ∈ gw := ⟨gt6 229 rfl rfl, gt6 231 rfl rfl, gsel (q := (⟨"TicketHallModel", "holds", "(I)Z"⟩, 60)) 53 rfl⟩
theorem lk_X12_299 : Cond.methodLink RX12 299 yX12_bounded ∈ gw ∧ Cond.instanceMethod yX12_bounded ∈ gw ∧ Cond.selects yX12_bounded.cls yX12_bounded yX12_bounded ∈ gw := ⟨gt6 233 rfl rfl, gt6 235 rfl rfl, gsel (q := (⟨"TicketHallModel", "bounded", "(JZ)J"⟩, 60)) 54 rfl⟩
theorem lk_X12_340 : Cond.methodLink RX12 340 yX12_testOf ∈ gw ∧ Cond.instanceMethod yX12_testOf ∈ gw ∧ Cond.selects yX12_testOf.cls yX12_testOf yX12_testOf ∈ gw := ⟨gt6 239 rfl rfl, gt7 1 rfl rfl, gsel (q := (⟨"TicketHallModel", "testOf", "(Z)Z"⟩, 60)) 55 rfl⟩
theorem lk_X12_331 : Cond.methodLink RX12 331 yX12_bothOf ∈ gw ∧ Cond.instanceMethod yX12_bothOf ∈ gw ∧ Cond.selects yX12_bothOf.cls yX12_bothOf yX12_bothOf ∈ gw := ⟨gt7 3 rfl rfl, gt7 5 rfl rfl, gsel (q := (⟨"TicketHallModel", "bothOf", "(Z)Z"⟩, 60)) 56 rfl⟩
theorem lk_X12_334 : Cond.methodLink RX12 334 yX12_plainOf ∈ gw ∧ Cond.instanceMethod yX12_plainOf ∈ gw ∧ Cond.selects yX12_plainOf.cls yX12_plainOf yX12_plainOf ∈ gw := ⟨gt7 7 rfl rfl, gt7 9 rfl rfl, gsel (q := (⟨"TicketHallModel", "plainOf", "(Z)Z"⟩, 60)) 57 rfl⟩
theorem lk_X12_337 : Cond.methodLink RX12 337 yX12_positiveOf ∈ gw ∧ Cond.instanceMethod yX12_positiveOf ∈ gw ∧ Cond.selects yX12_positiveOf.cls yX12_positiveOf yX12_positiveOf ∈ gw := ⟨gt7 11 rfl rfl, gt7 13 rfl rfl, gsel (q := (⟨"TicketHallModel", "positiveOf", "(Z)Z"⟩, 60)) 58 rfl⟩
theorem lk_L_25 : Cond.methodLink RL 25 yX12_ticket ∈ gw ∧ Cond.instanceMethod yX12_ticket ∈ gw ∧ Cond.selects yX12_ticket.cls yX12_ticket yX12_ticket ∈ gw := ⟨gt7 15 rfl rfl, gt7 16 rfl rfl, gt7 17 rfl rfl⟩
theorem lk_X12_137 : Cond.methodLink RX12 137 yX12_canTicket ∈ gw ∧ Cond.instanceMethod yX12_canTicket ∈ gw ∧ Cond.selects yX12_canTicket.cls yX12_canTicket yX12_canTicket ∈ gw := ⟨gt7 19 rfl rfl, gt7 21 rfl rfl, gsel (q := (⟨"TicketHallModel", "canTicket", "(II)Z"⟩, 60)) 59 rfl⟩
theorem lk_X12_141 : Cond.methodLink RX12 141 yX12_isNumbered ∈ gw ∧ Cond.instanceMethod yX12_isNumbered ∈ gw ∧ Cond.selects yX12_isNumbered.cls yX12_isNumbered yX12_isNumbered ∈ gw := ⟨gt7 23 rfl rfl, gt7 25 rfl rfl, gsel (q := (⟨"TicketHallModel", "isNumbered", "(I)Z"⟩, 60)) 60 rfl⟩
theorem lk_X12_144 : Cond.methodLink RX12 144 yX12_addsTicket ∈ gw ∧ Cond.instanceMethod yX12_addsTicket ∈ gw ∧ Cond.selects yX12_addsTicket.cls yX12_addsTicket yX12_addsTicket ∈ gw := ⟨gt7 27 rfl rfl, gt7 29 rfl rfl, gsel (q := (⟨"TicketHallModel", "addsTicket", "(II)V"⟩, 60)) 61 rfl⟩
theorem lk_L_29 : Cond.methodLink RL 29 yX12_at ∈ gw ∧ Cond.instanceMethod yX12_at ∈ gw ∧ Cond.selects yX12_at.cls yX12_at yX12_at ∈ gw := ⟨gt7 31 rfl rfl, gt7 32 rfl rfl, gt7 33 rfl rfl⟩
theorem lk_X12_148 : Cond.methodLink RX12 148 yX12_isTicket ∈ gw ∧ Cond.instanceMethod yX12_isTicket ∈ gw ∧ Cond.selects yX12_isTicket.cls yX12_isTicket yX12_isTicket ∈ gw := ⟨gt7 35 rfl rfl, gt7 37 rfl rfl, gsel (q := (⟨"TicketHallModel", "isTicket", "(I)Z"⟩, 60)) 62 rfl⟩
theorem lk_X12_151 : Cond.methodLink RX12 151 yX12_holderOf ∈ gw ∧ Cond.instanceMethod yX12_holderOf ∈ gw ∧ Cond.selects yX12_holderOf.cls yX12_holderOf yX12_holderOf ∈ gw := ⟨gt7 39 rfl rfl, gt7 41 rfl rfl, gsel (q := (⟨"TicketHallModel", "holderOf", "(I)I"⟩, 60)) 63 rfl⟩
theorem lk_L_34 : Cond.methodLink RL 34 yX12_wish ∈ gw ∧ Cond.instanceMethod yX12_wish ∈ gw ∧ Cond.selects yX12_wish.cls yX12_wish yX12_wish ∈ gw := ⟨gt7 43 rfl rfl, gt7 44 rfl rfl, gt7 45 rfl rfl⟩
theorem lk_X12_154 : Cond.methodLink RX12 154 yX12_wishOf ∈ gw ∧ Cond.instanceMethod yX12_wishOf ∈ gw ∧ Cond.selects yX12_wishOf.cls yX12_wishOf yX12_wishOf ∈ gw := ⟨gt7 47 rfl rfl, gt7 49 rfl rfl, gsel (q := (⟨"TicketHallModel", "wishOf", "(II)I"⟩, 60)) 64 rfl⟩
theorem lk_L_38 : Cond.methodLink RL 38 yX12_desk ∈ gw ∧ Cond.instanceMethod yX12_desk ∈ gw ∧ Cond.selects yX12_desk.cls yX12_desk yX12_desk ∈ gw := ⟨gt7 51 rfl rfl, gt7 52 rfl rfl, gt7 53 rfl rfl⟩
theorem lk_L_42 : Cond.methodLink RL 42 yX12_asks ∈ gw ∧ Cond.instanceMethod yX12_asks ∈ gw ∧ Cond.selects yX12_asks.cls yX12_asks yX12_asks ∈ gw := ⟨gt7 55 rfl rfl, gt7 56 rfl rfl, gt7 57 rfl rfl⟩
theorem lk_X12_158 : Cond.methodLink RX12 158 yX12_isFit ∈ gw ∧ Cond.instanceMethod yX12_isFit ∈ gw ∧ Cond.selects yX12_isFit.cls yX12_isFit yX12_isFit ∈ gw := ⟨gt7 59 rfl rfl, gt7 61 rfl rfl, gsel (q := (⟨"TicketHallModel", "isFit", "(II)Z"⟩, 60)) 65 rfl⟩
theorem lk_X12_161 : Cond.methodLink RX12 161 yX12_isBarred ∈ gw ∧ Cond.instanceMethod yX12_isBarred ∈ gw ∧ Cond.selects yX12_isBarred.cls yX12_isBarred yX12_isBarred ∈ gw := ⟨gt7 63 rfl rfl, gt7 65 rfl rfl, gsel (q := (⟨"TicketHallModel", "isBarred", "(II)Z"⟩, 60)) 66 rfl⟩
theorem lk_X12_164 : Cond.methodLink RX12 164 yX12_takesAt ∈ gw ∧ Cond.instanceMethod yX12_takesAt ∈ gw ∧ Cond.selects yX12_takesAt.cls yX12_takesAt yX12_takesAt ∈ gw := ⟨gt7 67 rfl rfl, gt7 69 rfl rfl, gsel (q := (⟨"TicketHallModel", "takesAt", "(III)I"⟩, 60)) 67 rfl⟩
theorem lk_L_46 : Cond.methodLink RL 46 yX12_terms ∈ gw ∧ Cond.instanceMethod yX12_terms ∈ gw ∧ Cond.selects yX12_terms.cls yX12_terms yX12_terms ∈ gw := ⟨gt7 71 rfl rfl, gt7 72 rfl rfl, gt7 73 rfl rfl⟩
theorem lk_X12_168 : Cond.methodLink RX12 168 yX12_isTerm ∈ gw ∧ Cond.static yX12_isTerm ∈ gw := ⟨gt7 75 rfl rfl, gt7 76 rfl rfl⟩
theorem lk_X12_171 : Cond.methodLink RX12 171 yX12_termAt ∈ gw ∧ Cond.static yX12_termAt ∈ gw := ⟨gt7 78 rfl rfl, gt7 79 rfl rfl⟩
theorem lk_L_61 : Cond.methodLink RL 61 yX12_row ∈ gw ∧ Cond.instanceMethod yX12_row ∈ gw ∧ Cond.selects yX12_row.cls yX12_row yX12_row ∈ gw := ⟨gt7 81 rfl rfl, gt7 82 rfl rfl, gt7 83 rfl rfl⟩
theorem lk_L_65 : Cond.methodLink RL 65 yX12_scraps ∈ gw ∧ Cond.instanceMethod yX12_scraps ∈ gw ∧ Cond.selects yX12_scraps.cls yX12_scraps yX12_scraps ∈ gw := ⟨gt7 85 rfl rfl, gt7 86 rfl rfl, gt7 87 rfl rfl⟩
theorem lk_L_51 : Cond.methodLink RL 51 yX12_feed ∈ gw ∧ Cond.instanceMethod yX12_feed ∈ gw ∧ Cond.selects yX12_feed.cls yX12_feed yX12_feed ∈ gw := ⟨gt7 89 rfl rfl, gt7 90 rfl rfl, gt7 91 rfl rfl⟩
theorem lk_L_56 : Cond.methodLink RL 56 yX12_end ∈ gw ∧ Cond.instanceMethod yX12_end ∈ gw ∧ Cond.selects yX12_end.cls yX12_end yX12_end ∈ gw := ⟨gt7 93 rfl rfl, gt7 94 rfl rfl, gt7 95 rfl rfl⟩
theorem lk_L_69 : Cond.methodLink RL 69 yX12_law ∈ gw ∧ Cond.instanceMethod yX12_law ∈ gw ∧ Cond.selects yX12_law.cls yX12_law yX12_law ∈ gw := ⟨gt7 97 rfl rfl, gt7 98 rfl rfl, gt7 99 rfl rfl⟩
theorem lk_X12_269 : Cond.methodLink RX12 269 yX12_readsAs ∈ gw ∧ Cond.instanceMethod yX12_readsAs ∈ gw ∧ Cond.selects yX12_readsAs.cls yX12_readsAs yX12_readsAs ∈ gw := ⟨gt7 101 rfl rfl, gt7 103 rfl rfl, gsel (q := (⟨"TicketHallModel", "readsAs", "(Z)Z"⟩, 60)) 68 rfl⟩
theorem lk_X12_266 : Cond.methodLink RX12 266 yX12_reads ∈ gw ∧ Cond.instanceMethod yX12_reads ∈ gw ∧ Cond.selects yX12_reads.cls yX12_reads yX12_reads ∈ gw := ⟨gt7 105 rfl rfl, gt7 107 rfl rfl, gsel (q := (⟨"TicketHallModel", "reads", "()Z"⟩, 60)) 69 rfl⟩
theorem lk_X12_260 : Cond.methodLink RX12 260 yX12_splits ∈ gw ∧ Cond.instanceMethod yX12_splits ∈ gw ∧ Cond.selects yX12_splits.cls yX12_splits yX12_splits ∈ gw := ⟨gt7 109 rfl rfl, gt7 111 rfl rfl, gsel (q := (⟨"TicketHallModel", "splits", "(I)V"⟩, 60)) 70 rfl⟩
theorem lk_X12_183 : Cond.methodLink RX12 183 yX12_isSmall ∈ gw ∧ Cond.static yX12_isSmall ∈ gw := ⟨gt7 113 rfl rfl, gt7 114 rfl rfl⟩
theorem lk_X12_186 : Cond.methodLink RX12 186 yX12_isDigit ∈ gw ∧ Cond.static yX12_isDigit ∈ gw := ⟨gt7 116 rfl rfl, gt7 117 rfl rfl⟩
theorem lk_X12_189 : Cond.methodLink RX12 189 yX12_wordOf ∈ gw ∧ Cond.instanceMethod yX12_wordOf ∈ gw ∧ Cond.selects yX12_wordOf.cls yX12_wordOf yX12_wordOf ∈ gw := ⟨gt7 119 rfl rfl, gt7 121 rfl rfl, gsel (q := (⟨"TicketHallModel", "wordOf", "(II)I"⟩, 60)) 71 rfl⟩
theorem lk_X12_263 : Cond.methodLink RX12 263 yX12_readOne ∈ gw ∧ Cond.instanceMethod yX12_readOne ∈ gw ∧ Cond.selects yX12_readOne.cls yX12_readOne yX12_readOne ∈ gw := ⟨gt7 124 rfl rfl, gt7 126 rfl rfl, gsel (q := (⟨"TicketHallModel", "readOne", "()V"⟩, 60)) 72 rfl⟩
theorem lk_X12_229 : Cond.methodLink RX12 229 yX12_readOrder ∈ gw ∧ Cond.instanceMethod yX12_readOrder ∈ gw ∧ Cond.selects yX12_readOrder.cls yX12_readOrder yX12_readOrder ∈ gw := ⟨gt7 128 rfl rfl, gt7 130 rfl rfl, gsel (q := (⟨"TicketHallModel", "readOrder", "()V"⟩, 60)) 73 rfl⟩
theorem lk_X12_203 : Cond.methodLink RX12 203 yX12_takes0 ∈ gw ∧ Cond.instanceMethod yX12_takes0 ∈ gw ∧ Cond.selects yX12_takes0.cls yX12_takes0 yX12_takes0 ∈ gw := ⟨gt7 132 rfl rfl, gt7 134 rfl rfl, gsel (q := (⟨"TicketHallModel", "takes0", "(I)Z"⟩, 60)) 74 rfl⟩
theorem lk_X12_196 : Cond.methodLink RX12 196 yX12_fine ∈ gw ∧ Cond.instanceMethod yX12_fine ∈ gw ∧ Cond.selects yX12_fine.cls yX12_fine yX12_fine ∈ gw := ⟨gt7 136 rfl rfl, gt7 138 rfl rfl, gsel (q := (⟨"TicketHallModel", "fine", "()Z"⟩, 60)) 75 rfl⟩
theorem lk_X12_212 : Cond.methodLink RX12 212 yX12_readSum ∈ gw ∧ Cond.instanceMethod yX12_readSum ∈ gw ∧ Cond.selects yX12_readSum.cls yX12_readSum yX12_readSum ∈ gw := ⟨gt7 140 rfl rfl, gt7 142 rfl rfl, gsel (q := (⟨"TicketHallModel", "readSum", "(I)V"⟩, 60)) 76 rfl⟩
theorem lk_X12_245 : Cond.methodLink RX12 245 yX12_readTerm ∈ gw ∧ Cond.instanceMethod yX12_readTerm ∈ gw ∧ Cond.selects yX12_readTerm.cls yX12_readTerm yX12_readTerm ∈ gw := ⟨gt7 144 rfl rfl, gt7 146 rfl rfl, gsel (q := (⟨"TicketHallModel", "readTerm", "(I)V"⟩, 60)) 77 rfl⟩
theorem lk_X12_248 : Cond.methodLink RX12 248 yX12_readPart ∈ gw ∧ Cond.instanceMethod yX12_readPart ∈ gw ∧ Cond.selects yX12_readPart.cls yX12_readPart yX12_readPart ∈ gw := ⟨gt7 148 rfl rfl, gt7 150 rfl rfl, gsel (q := (⟨"TicketHallModel", "readPart", "(I)V"⟩, 60)) 78 rfl⟩
theorem lk_X12_206 : Cond.methodLink RX12 206 yX12_faults ∈ gw ∧ Cond.instanceMethod yX12_faults ∈ gw ∧ Cond.selects yX12_faults.cls yX12_faults yX12_faults ∈ gw := ⟨gt7 152 rfl rfl, gt7 154 rfl rfl, gsel (q := (⟨"TicketHallModel", "faults", "()V"⟩, 60)) 79 rfl⟩
theorem lk_X12_216 : Cond.methodLink RX12 216 yX12_must ∈ gw ∧ Cond.instanceMethod yX12_must ∈ gw ∧ Cond.selects yX12_must.cls yX12_must yX12_must ∈ gw := ⟨gt7 156 rfl rfl, gt7 158 rfl rfl, gsel (q := (⟨"TicketHallModel", "must", "(I)V"⟩, 60)) 80 rfl⟩
theorem lk_X12_257 : Cond.methodLink RX12 257 yX12_leaf ∈ gw ∧ Cond.instanceMethod yX12_leaf ∈ gw ∧ Cond.selects yX12_leaf.cls yX12_leaf yX12_leaf ∈ gw := ⟨gt7 160 rfl rfl, gt7 162 rfl rfl, gsel (q := (⟨"TicketHallModel", "leaf", "()V"⟩, 60)) 81 rfl⟩
theorem lk_X12_222 : Cond.methodLink RX12 222 yX12_mustNumber ∈ gw ∧ Cond.instanceMethod yX12_mustNumber ∈ gw ∧ Cond.selects yX12_mustNumber.cls yX12_mustNumber yX12_mustNumber ∈ gw := ⟨gt7 164 rfl rfl, gt7 166 rfl rfl, gsel (q := (⟨"TicketHallModel", "mustNumber", "(II)V"⟩, 60)) 82 rfl⟩
theorem lk_X12_219 : Cond.methodLink RX12 219 yX12_readTest ∈ gw ∧ Cond.instanceMethod yX12_readTest ∈ gw ∧ Cond.selects yX12_readTest.cls yX12_readTest yX12_readTest ∈ gw := ⟨gt7 168 rfl rfl, gt7 170 rfl rfl, gsel (q := (⟨"TicketHallModel", "readTest", "(I)V"⟩, 60)) 83 rfl⟩
theorem lk_X12_235 : Cond.methodLink RX12 235 yX12_readBoth ∈ gw ∧ Cond.instanceMethod yX12_readBoth ∈ gw ∧ Cond.selects yX12_readBoth.cls yX12_readBoth yX12_readBoth ∈ gw := ⟨gt7 172 rfl rfl, gt7 174 rfl rfl, gsel (q := (⟨"TicketHallModel", "readBoth", "(I)V"⟩, 60)) 84 rfl⟩
theorem lk_X12_238 : Cond.methodLink RX12 238 yX12_readPlain ∈ gw ∧ Cond.instanceMethod yX12_readPlain ∈ gw ∧ Cond.selects yX12_readPlain.cls yX12_readPlain yX12_readPlain ∈ gw := ⟨gt7 176 rfl rfl, gt7 178 rfl rfl, gsel (q := (⟨"TicketHallModel", "readPlain", "(I)V"⟩, 60)) 85 rfl⟩
theorem lk_X12_232 : Cond.methodLink RX12 232 yX12_readClause ∈ gw ∧ Cond.instanceMethod yX12_readClause ∈ gw ∧ Cond.selects yX12_readClause.cls yX12_readClause yX12_readClause ∈ gw := ⟨gt7 180 rfl rfl, gt7 182 rfl rfl, gsel (q := (⟨"TicketHallModel", "readClause", "()V"⟩, 60)) 86 rfl⟩
theorem lk_X12_273 : Cond.methodLink RX12 273 yX12_lays ∈ gw ∧ Cond.instanceMethod yX12_lays ∈ gw ∧ Cond.selects yX12_lays.cls yX12_lays yX12_lays ∈ gw := ⟨gt7 184 rfl rfl, gt7 186 rfl rfl, gsel (q := (⟨"TicketHallModel", "lays", "(I)V"⟩, 60)) 87 rfl⟩
theorem lk_L_77 : Cond.methodLink RL 77 yX12_fault ∈ gw ∧ Cond.instanceMethod yX12_fault ∈ gw ∧ Cond.selects yX12_fault.cls yX12_fault yX12_fault ∈ gw := ⟨gt7 188 rfl rfl, gt7 189 rfl rfl, gt7 190 rfl rfl⟩
theorem lk_L_85 : Cond.methodLink RL 85 yX12_force ∈ gw ∧ Cond.instanceMethod yX12_force ∈ gw ∧ Cond.selects yX12_force.cls yX12_force yX12_force ∈ gw := ⟨gt7 192 rfl rfl, gt7 193 rfl rfl, gt7 194 rfl rfl⟩
theorem lk_X12_276 : Cond.methodLink RX12 276 yX12_isLaw ∈ gw ∧ Cond.instanceMethod yX12_isLaw ∈ gw ∧ Cond.selects yX12_isLaw.cls yX12_isLaw yX12_isLaw ∈ gw := ⟨gt7 196 rfl rfl, gt7 198 rfl rfl, gsel (q := (⟨"TicketHallModel", "isLaw", "(I)Z"⟩, 60)) 88 rfl⟩
theorem lk_L_105 : Cond.methodLink RL 105 yX12_undo ∈ gw ∧ Cond.instanceMethod yX12_undo ∈ gw ∧ Cond.selects yX12_undo.cls yX12_undo yX12_undo ∈ gw := ⟨gt7 200 rfl rfl, gt7 201 rfl rfl, gt7 202 rfl rfl⟩
theorem lk_L_89 : Cond.methodLink RL 89 yX12_draw ∈ gw ∧ Cond.instanceMethod yX12_draw ∈ gw ∧ Cond.selects yX12_draw.cls yX12_draw yX12_draw ∈ gw := ⟨gt7 204 rfl rfl, gt7 205 rfl rfl, gt7 206 rfl rfl⟩
theorem lk_X12_366 : Cond.methodLink RX12 366 yX12_drawsKept ∈ gw ∧ Cond.instanceMethod yX12_drawsKept ∈ gw ∧ Cond.selects yX12_drawsKept.cls yX12_drawsKept yX12_drawsKept ∈ gw := ⟨gt7 208 rfl rfl, gt7 210 rfl rfl, gsel (q := (⟨"TicketHallModel", "drawsKept", "(II)I"⟩, 60)) 89 rfl⟩
theorem lk_X12_354 : Cond.methodLink RX12 354 yX12_canDraw ∈ gw ∧ Cond.instanceMethod yX12_canDraw ∈ gw ∧ Cond.selects yX12_canDraw.cls yX12_canDraw yX12_canDraw ∈ gw := ⟨gt7 212 rfl rfl, gt7 214 rfl rfl, gsel (q := (⟨"TicketHallModel", "canDraw", "(II)Z"⟩, 60)) 90 rfl⟩
theorem lk_X12_357 : Cond.methodLink RX12 357 yX12_keeps ∈ gw ∧ Cond.instanceMethod yX12_keeps ∈ gw ∧ Cond.selects yX12_keeps.cls yX12_keeps yX12_keeps ∈ gw := ⟨gt7 216 rfl rfl, gt7 218 rfl rfl, gsel (q := (⟨"TicketHallModel", "keeps", "(I)V"⟩, 60)) 91 rfl⟩
theorem lk_X12_369 : Cond.methodLink RX12 369 yX12_goodOr ∈ gw ∧ Cond.instanceMethod yX12_goodOr ∈ gw ∧ Cond.selects yX12_goodOr.cls yX12_goodOr yX12_goodOr ∈ gw := ⟨gt7 220 rfl rfl, gt7 222 rfl rfl, gsel (q := (⟨"TicketHallModel", "goodOr", "(I)I"⟩, 60)) 92 rfl⟩
theorem lk_L_93 : Cond.methodLink RL 93 yX12_swap ∈ gw ∧ Cond.instanceMethod yX12_swap ∈ gw ∧ Cond.selects yX12_swap.cls yX12_swap yX12_swap ∈ gw := ⟨gt7 224 rfl rfl, gt7 225 rfl rfl, gt7 226 rfl rfl⟩
theorem lk_X12_372 : Cond.methodLink RX12 372 yX12_swapsKept ∈ gw ∧ Cond.instanceMethod yX12_swapsKept ∈ gw ∧ Cond.selects yX12_swapsKept.cls yX12_swapsKept yX12_swapsKept ∈ gw := ⟨gt7 228 rfl rfl, gt7 230 rfl rfl, gsel (q := (⟨"TicketHallModel", "swapsKept", "(II)I"⟩, 60)) 93 rfl⟩
theorem lk_X12_360 : Cond.methodLink RX12 360 yX12_canSwap ∈ gw ∧ Cond.instanceMethod yX12_canSwap ∈ gw ∧ Cond.selects yX12_canSwap.cls yX12_canSwap yX12_canSwap ∈ gw := ⟨gt7 232 rfl rfl, gt7 234 rfl rfl, gsel (q := (⟨"TicketHallModel", "canSwap", "(II)Z"⟩, 60)) 94 rfl⟩
theorem lk_X12_363 : Cond.methodLink RX12 363 yX12_swapsNow ∈ gw ∧ Cond.instanceMethod yX12_swapsNow ∈ gw ∧ Cond.selects yX12_swapsNow.cls yX12_swapsNow yX12_swapsNow ∈ gw := ⟨gt7 236 rfl rfl, gt7 238 rfl rfl, gsel (q := (⟨"TicketHallModel", "swapsNow", "(II)V"⟩, 60)) 95 rfl⟩
theorem lk_L_97 : Cond.methodLink RL 97 yX12_drop ∈ gw ∧ Cond.instanceMethod yX12_drop ∈ gw ∧ Cond.selects yX12_drop.cls yX12_drop yX12_drop ∈ gw := ⟨gt8 0 rfl rfl, gt8 1 rfl rfl, gt8 2 rfl rfl⟩
theorem lk_X12_375 : Cond.methodLink RX12 375 yX12_dropsKept ∈ gw ∧ Cond.instanceMethod yX12_dropsKept ∈ gw ∧ Cond.selects yX12_dropsKept.cls yX12_dropsKept yX12_dropsKept ∈ gw := ⟨gt8 4 rfl rfl, gt8 6 rfl rfl, gsel (q := (⟨"TicketHallModel", "dropsKept", "(I)I"⟩, 60)) 96 rfl⟩
theorem lk_L_101 : Cond.methodLink RL 101 yX12_pass ∈ gw ∧ Cond.instanceMethod yX12_pass ∈ gw ∧ Cond.selects yX12_pass.cls yX12_pass yX12_pass ∈ gw := ⟨gt8 8 rfl rfl, gt8 9 rfl rfl, gt8 10 rfl rfl⟩
theorem lk_X12_378 : Cond.methodLink RX12 378 yX12_passesKept ∈ gw ∧ Cond.instanceMethod yX12_passesKept ∈ gw ∧ Cond.selects yX12_passesKept.cls yX12_passesKept yX12_passesKept ∈ gw := ⟨gt8 12 rfl rfl, gt8 14 rfl rfl, gsel (q := (⟨"TicketHallModel", "passesKept", "()I"⟩, 60)) 97 rfl⟩
theorem lk_L_109 : Cond.methodLink RL 109 yX12_day ∈ gw ∧ Cond.instanceMethod yX12_day ∈ gw ∧ Cond.selects yX12_day.cls yX12_day yX12_day ∈ gw := ⟨gt8 16 rfl rfl, gt8 17 rfl rfl, gt8 18 rfl rfl⟩
theorem lk_X12_393 : Cond.methodLink RX12 393 yX12_allDesks ∈ gw ∧ Cond.instanceMethod yX12_allDesks ∈ gw ∧ Cond.selects yX12_allDesks.cls yX12_allDesks yX12_allDesks ∈ gw := ⟨gt8 20 rfl rfl, gt8 22 rfl rfl, gsel (q := (⟨"TicketHallModel", "allDesks", "()I"⟩, 60)) 98 rfl⟩
theorem lk_X12_396 : Cond.methodLink RX12 396 yX12_laysDay ∈ gw ∧ Cond.instanceMethod yX12_laysDay ∈ gw ∧ Cond.selects yX12_laysDay.cls yX12_laysDay yX12_laysDay ∈ gw := ⟨gt8 24 rfl rfl, gt8 26 rfl rfl, gsel (q := (⟨"TicketHallModel", "laysDay", "(I)V"⟩, 60)) 99 rfl⟩
theorem lk_X12_387 : Cond.methodLink RX12 387 yX12_nextCalled ∈ gw ∧ Cond.instanceMethod yX12_nextCalled ∈ gw ∧ Cond.selects yX12_nextCalled.cls yX12_nextCalled yX12_nextCalled ∈ gw := ⟨gt8 28 rfl rfl, gt8 30 rfl rfl, gsel (q := (⟨"TicketHallModel", "nextCalled", "(I)I"⟩, 60)) 100 rfl⟩
theorem lk_X12_390 : Cond.methodLink RX12 390 yX12_calls ∈ gw ∧ Cond.instanceMethod yX12_calls ∈ gw ∧ Cond.selects yX12_calls.cls yX12_calls yX12_calls ∈ gw := ⟨gt8 32 rfl rfl, gt8 34 rfl rfl, gsel (q := (⟨"TicketHallModel", "calls", "(II)V"⟩, 60)) 101 rfl⟩
theorem lk_X12_384 : Cond.methodLink RX12 384 yX12_deskFor ∈ gw ∧ Cond.instanceMethod yX12_deskFor ∈ gw ∧ Cond.selects yX12_deskFor.cls yX12_deskFor yX12_deskFor ∈ gw := ⟨gt8 36 rfl rfl, gt8 38 rfl rfl, gsel (q := (⟨"TicketHallModel", "deskFor", "(II)I"⟩, 60)) 102 rfl⟩
theorem lk_X12_381 : Cond.methodLink RX12 381 yX12_isIn ∈ gw ∧ Cond.static yX12_isIn ∈ gw := ⟨gt8 40 rfl rfl, gt8 41 rfl rfl⟩
theorem lk_L_113 : Cond.methodLink RL 113 yX12_waiting ∈ gw ∧ Cond.instanceMethod yX12_waiting ∈ gw ∧ Cond.selects yX12_waiting.cls yX12_waiting yX12_waiting ∈ gw := ⟨gt8 43 rfl rfl, gt8 44 rfl rfl, gt8 45 rfl rfl⟩
theorem lk_X12_402 : Cond.methodLink RX12 402 yX12_waitOfAll ∈ gw ∧ Cond.instanceMethod yX12_waitOfAll ∈ gw ∧ Cond.selects yX12_waitOfAll.cls yX12_waitOfAll yX12_waitOfAll ∈ gw := ⟨gt8 47 rfl rfl, gt8 49 rfl rfl, gsel (q := (⟨"TicketHallModel", "waitOfAll", "()I"⟩, 60)) 103 rfl⟩
theorem lk_X12_399 : Cond.methodLink RX12 399 yX12_waitOf ∈ gw ∧ Cond.instanceMethod yX12_waitOf ∈ gw ∧ Cond.selects yX12_waitOf.cls yX12_waitOf yX12_waitOf ∈ gw := ⟨gt8 51 rfl rfl, gt8 53 rfl rfl, gsel (q := (⟨"TicketHallModel", "waitOf", "(I)I"⟩, 60)) 104 rfl⟩
theorem lk_L_158 : Cond.methodLink RL 158 yX12_compare ∈ gw ∧ Cond.instanceMethod yX12_compare ∈ gw ∧ Cond.selects yX12_compare.cls yX12_compare yX12_compare ∈ gw := ⟨gt8 55 rfl rfl, gt8 56 rfl rfl, gt8 57 rfl rfl⟩
theorem lk_L_117 : Cond.methodLink RL 117 yX12_about ∈ gw ∧ Cond.instanceMethod yX12_about ∈ gw ∧ Cond.selects yX12_about.cls yX12_about yX12_about ∈ gw := ⟨gt8 59 rfl rfl, gt8 60 rfl rfl, gt8 61 rfl rfl⟩
theorem lk_X12_423 : Cond.methodLink RX12 423 yX12_laysHolders ∈ gw ∧ Cond.instanceMethod yX12_laysHolders ∈ gw ∧ Cond.selects yX12_laysHolders.cls yX12_laysHolders yX12_laysHolders ∈ gw := ⟨gt8 63 rfl rfl, gt8 65 rfl rfl, gsel (q := (⟨"TicketHallModel", "laysHolders", "()V"⟩, 60)) 105 rfl⟩
theorem lk_X12_426 : Cond.methodLink RX12 426 yX12_laysAside ∈ gw ∧ Cond.instanceMethod yX12_laysAside ∈ gw ∧ Cond.selects yX12_laysAside.cls yX12_laysAside yX12_laysAside ∈ gw := ⟨gt8 67 rfl rfl, gt8 69 rfl rfl, gsel (q := (⟨"TicketHallModel", "laysAside", "(I)V"⟩, 60)) 106 rfl⟩
theorem lk_X12_420 : Cond.methodLink RX12 420 yX12_triesAbout ∈ gw ∧ Cond.instanceMethod yX12_triesAbout ∈ gw ∧ Cond.selects yX12_triesAbout.cls yX12_triesAbout yX12_triesAbout ∈ gw := ⟨gt8 71 rfl rfl, gt8 73 rfl rfl, gsel (q := (⟨"TicketHallModel", "triesAbout", "(II)V"⟩, 60)) 107 rfl⟩
theorem lk_X12_417 : Cond.methodLink RX12 417 yX12_judges ∈ gw ∧ Cond.instanceMethod yX12_judges ∈ gw ∧ Cond.selects yX12_judges.cls yX12_judges yX12_judges ∈ gw := ⟨gt8 75 rfl rfl, gt8 77 rfl rfl, gsel (q := (⟨"TicketHallModel", "judges", "()V"⟩, 60)) 108 rfl⟩
theorem lk_X12_408 : Cond.methodLink RX12 408 yX12_fitMany ∈ gw ∧ Cond.instanceMethod yX12_fitMany ∈ gw ∧ Cond.selects yX12_fitMany.cls yX12_fitMany yX12_fitMany ∈ gw := ⟨gt8 79 rfl rfl, gt8 81 rfl rfl, gsel (q := (⟨"TicketHallModel", "fitMany", "()I"⟩, 60)) 109 rfl⟩
theorem lk_X12_429 : Cond.methodLink RX12 429 yX12_takesBack ∈ gw ∧ Cond.instanceMethod yX12_takesBack ∈ gw ∧ Cond.selects yX12_takesBack.cls yX12_takesBack yX12_takesBack ∈ gw := ⟨gt8 83 rfl rfl, gt8 85 rfl rfl, gsel (q := (⟨"TicketHallModel", "takesBack", "(I)V"⟩, 60)) 110 rfl⟩
theorem lk_L_121 : Cond.methodLink RL 121 yX12_trade ∈ gw ∧ Cond.instanceMethod yX12_trade ∈ gw ∧ Cond.selects yX12_trade.cls yX12_trade yX12_trade ∈ gw := ⟨gt8 87 rfl rfl, gt8 88 rfl rfl, gt8 89 rfl rfl⟩
theorem lk_X12_440 : Cond.methodLink RX12 440 yX12_laysTrade ∈ gw ∧ Cond.instanceMethod yX12_laysTrade ∈ gw ∧ Cond.selects yX12_laysTrade.cls yX12_laysTrade yX12_laysTrade ∈ gw := ⟨gt8 91 rfl rfl, gt8 93 rfl rfl, gsel (q := (⟨"TicketHallModel", "laysTrade", "()I"⟩, 60)) 111 rfl⟩
theorem lk_X12_432 : Cond.methodLink RX12 432 yX12_wishedMost ∈ gw ∧ Cond.instanceMethod yX12_wishedMost ∈ gw ∧ Cond.selects yX12_wishedMost.cls yX12_wishedMost yX12_wishedMost ∈ gw := ⟨gt8 95 rfl rfl, gt8 97 rfl rfl, gsel (q := (⟨"TicketHallModel", "wishedMost", "(II)I"⟩, 60)) 112 rfl⟩
theorem lk_X12_435 : Cond.methodLink RX12 435 yX12_isOnRing ∈ gw ∧ Cond.instanceMethod yX12_isOnRing ∈ gw ∧ Cond.selects yX12_isOnRing.cls yX12_isOnRing yX12_isOnRing ∈ gw := ⟨gt8 99 rfl rfl, gt8 101 rfl rfl, gsel (q := (⟨"TicketHallModel", "isOnRing", "(I)Z"⟩, 60)) 113 rfl⟩
theorem lk_X12_438 : Cond.methodLink RX12 438 yX12_leaves ∈ gw ∧ Cond.instanceMethod yX12_leaves ∈ gw ∧ Cond.selects yX12_leaves.cls yX12_leaves yX12_leaves ∈ gw := ⟨gt8 103 rfl rfl, gt8 105 rfl rfl, gsel (q := (⟨"TicketHallModel", "leaves", "(II)I"⟩, 60)) 114 rfl⟩
theorem lk_L_125 : Cond.methodLink RL 125 yX12_both ∈ gw ∧ Cond.instanceMethod yX12_both ∈ gw ∧ Cond.selects yX12_both.cls yX12_both yX12_both ∈ gw := ⟨gt8 107 rfl rfl, gt8 108 rfl rfl, gt8 109 rfl rfl⟩
theorem lk_X12_443 : Cond.methodLink RX12 443 yX12_wishBoth ∈ gw ∧ Cond.instanceMethod yX12_wishBoth ∈ gw ∧ Cond.selects yX12_wishBoth.cls yX12_wishBoth yX12_wishBoth ∈ gw := ⟨gt8 111 rfl rfl, gt8 113 rfl rfl, gsel (q := (⟨"TicketHallModel", "wishBoth", "(II)Z"⟩, 60)) 115 rfl⟩
theorem lk_L_129 : Cond.methodLink RL 129 yX12_take ∈ gw ∧ Cond.instanceMethod yX12_take ∈ gw ∧ Cond.selects yX12_take.cls yX12_take yX12_take ∈ gw := ⟨gt8 115 rfl rfl, gt8 116 rfl rfl, gt8 117 rfl rfl⟩
theorem lk_L_133 : Cond.methodLink RL 133 yX12_desks ∈ gw ∧ Cond.instanceMethod yX12_desks ∈ gw ∧ Cond.selects yX12_desks.cls yX12_desks yX12_desks ∈ gw := ⟨gt8 119 rfl rfl, gt8 120 rfl rfl, gt8 121 rfl rfl⟩
theorem lk_X12_446 : Cond.methodLink RX12 446 yX12_ones ∈ gw ∧ Cond.static yX12_ones ∈ gw := ⟨gt8 123 rfl rfl, gt8 124 rfl rfl⟩
theorem lk_X12_449 : Cond.methodLink RX12 449 yX12_areDone ∈ gw ∧ Cond.instanceMethod yX12_areDone ∈ gw ∧ Cond.selects yX12_areDone.cls yX12_areDone yX12_areDone ∈ gw := ⟨gt8 126 rfl rfl, gt8 128 rfl rfl, gsel (q := (⟨"TicketHallModel", "areDone", "(II)Z"⟩, 60)) 116 rfl⟩
theorem lk_L_137 : Cond.methodLink RL 137 yX12_told ∈ gw ∧ Cond.instanceMethod yX12_told ∈ gw ∧ Cond.selects yX12_told.cls yX12_told yX12_told ∈ gw := ⟨gt8 130 rfl rfl, gt8 131 rfl rfl, gt8 132 rfl rfl⟩
theorem lk_L_141 : Cond.methodLink RL 141 yX12_forget ∈ gw ∧ Cond.instanceMethod yX12_forget ∈ gw ∧ Cond.selects yX12_forget.cls yX12_forget yX12_forget ∈ gw := ⟨gt8 134 rfl rfl, gt8 135 rfl rfl, gt8 136 rfl rfl⟩
theorem lk_L_145 : Cond.methodLink RL 145 yX12_had ∈ gw ∧ Cond.instanceMethod yX12_had ∈ gw ∧ Cond.selects yX12_had.cls yX12_had yX12_had ∈ gw := ⟨gt8 138 rfl rfl, gt8 139 rfl rfl, gt8 140 rfl rfl⟩
theorem lk_X12_467 : Cond.methodLink RX12 467 yX12_laysWays ∈ gw ∧ Cond.instanceMethod yX12_laysWays ∈ gw ∧ Cond.selects yX12_laysWays.cls yX12_laysWays yX12_laysWays ∈ gw := ⟨gt8 142 rfl rfl, gt8 144 rfl rfl, gsel (q := (⟨"TicketHallModel", "laysWays", "(I)V"⟩, 60)) 117 rfl⟩
theorem lk_X12_464 : Cond.methodLink RX12 464 yX12_triesHad ∈ gw ∧ Cond.instanceMethod yX12_triesHad ∈ gw ∧ Cond.selects yX12_triesHad.cls yX12_triesHad yX12_triesHad ∈ gw := ⟨gt8 146 rfl rfl, gt8 148 rfl rfl, gsel (q := (⟨"TicketHallModel", "triesHad", "(II)V"⟩, 60)) 118 rfl⟩
theorem lk_X12_461 : Cond.methodLink RX12 461 yX12_countsWay ∈ gw ∧ Cond.instanceMethod yX12_countsWay ∈ gw ∧ Cond.selects yX12_countsWay.cls yX12_countsWay yX12_countsWay ∈ gw := ⟨gt8 150 rfl rfl, gt8 152 rfl rfl, gsel (q := (⟨"TicketHallModel", "countsWay", "()V"⟩, 60)) 119 rfl⟩
theorem lk_X12_452 : Cond.methodLink RX12 452 yX12_isAllSo ∈ gw ∧ Cond.instanceMethod yX12_isAllSo ∈ gw ∧ Cond.selects yX12_isAllSo.cls yX12_isAllSo yX12_isAllSo ∈ gw := ⟨gt8 154 rfl rfl, gt8 156 rfl rfl, gsel (q := (⟨"TicketHallModel", "isAllSo", "()Z"⟩, 60)) 120 rfl⟩
theorem lk_L_149 : Cond.methodLink RL 149 yX12_ask ∈ gw ∧ Cond.instanceMethod yX12_ask ∈ gw ∧ Cond.selects yX12_ask.cls yX12_ask yX12_ask ∈ gw := ⟨gt8 158 rfl rfl, gt8 159 rfl rfl, gt8 160 rfl rfl⟩
theorem lk_X12_473 : Cond.methodLink RX12 473 yX12_mostGiven ∈ gw ∧ Cond.instanceMethod yX12_mostGiven ∈ gw ∧ Cond.selects yX12_mostGiven.cls yX12_mostGiven yX12_mostGiven ∈ gw := ⟨gt8 162 rfl rfl, gt8 164 rfl rfl, gsel (q := (⟨"TicketHallModel", "mostGiven", "(I)I"⟩, 60)) 121 rfl⟩
theorem lk_X12_470 : Cond.methodLink RX12 470 yX12_greater ∈ gw ∧ Cond.static yX12_greater ∈ gw := ⟨gt8 166 rfl rfl, gt8 167 rfl rfl⟩
theorem lk_L_154 : Cond.methodLink RL 154 yX12_few ∈ gw ∧ Cond.instanceMethod yX12_few ∈ gw ∧ Cond.selects yX12_few.cls yX12_few yX12_few ∈ gw := ⟨gt8 169 rfl rfl, gt8 170 rfl rfl, gt8 171 rfl rfl⟩
theorem lk_L_81 : Cond.methodLink RL 81 yX12_stopped ∈ gw ∧ Cond.instanceMethod yX12_stopped ∈ gw ∧ Cond.selects yX12_stopped.cls yX12_stopped yX12_stopped ∈ gw := ⟨gt8 176 rfl rfl, gt8 177 rfl rfl, gt8 178 rfl rfl⟩
theorem lk_L_73 : Cond.methodLink RL 73 yX12_orders ∈ gw ∧ Cond.instanceMethod yX12_orders ∈ gw ∧ Cond.selects yX12_orders.cls yX12_orders yX12_orders ∈ gw := ⟨gt8 180 rfl rfl, gt8 181 rfl rfl, gt8 182 rfl rfl⟩
theorem lk_X12_485 : Cond.methodLink RX12 485 yX12_runs ∈ gw ∧ Cond.instanceMethod yX12_runs ∈ gw ∧ Cond.selects yX12_runs.cls yX12_runs yX12_runs ∈ gw := ⟨gt8 184 rfl rfl, gt8 186 rfl rfl, gsel (q := (⟨"TicketHallModel", "runs", "(I)Z"⟩, 60)) 122 rfl⟩
theorem lk_X12_506 : Cond.methodLink RX12 506 yX12_goesAlong ∈ gw ∧ Cond.instanceMethod yX12_goesAlong ∈ gw ∧ Cond.selects yX12_goesAlong.cls yX12_goesAlong yX12_goesAlong ∈ gw := ⟨gt8 188 rfl rfl, gt8 190 rfl rfl, gsel (q := (⟨"TicketHallModel", "goesAlong", "(IZ)V"⟩, 60)) 123 rfl⟩
theorem lk_X12_510 : Cond.methodLink RX12 510 yX12_obeys ∈ gw ∧ Cond.instanceMethod yX12_obeys ∈ gw ∧ Cond.selects yX12_obeys.cls yX12_obeys yX12_obeys ∈ gw := ⟨gt8 192 rfl rfl, gt8 194 rfl rfl, gsel (q := (⟨"TicketHallModel", "obeys", "()I"⟩, 60)) 124 rfl⟩
theorem lk_X12_502 : Cond.methodLink RX12 502 yX12_small ∈ gw ∧ Cond.static yX12_small ∈ gw := ⟨gt8 196 rfl rfl, gt8 197 rfl rfl⟩
theorem lk_L_162 : Cond.methodLink RL 162 yX12_days ∈ gw ∧ Cond.instanceMethod yX12_days ∈ gw ∧ Cond.selects yX12_days.cls yX12_days yX12_days ∈ gw := ⟨gt8 200 rfl rfl, gt8 201 rfl rfl, gt8 202 rfl rfl⟩
theorem lk_X12_522 : Cond.methodLink RX12 522 yX12_draws ∈ gw ∧ Cond.instanceMethod yX12_draws ∈ gw ∧ Cond.selects yX12_draws.cls yX12_draws yX12_draws ∈ gw := ⟨gt8 204 rfl rfl, gt8 206 rfl rfl, gsel (q := (⟨"TicketHallModel", "draws", "(I)I"⟩, 60)) 125 rfl⟩
theorem lk_X12_525 : Cond.methodLink RX12 525 yX12_happens ∈ gw ∧ Cond.instanceMethod yX12_happens ∈ gw ∧ Cond.selects yX12_happens.cls yX12_happens yX12_happens ∈ gw := ⟨gt8 211 rfl rfl, gt8 213 rfl rfl, gsel (q := (⟨"TicketHallModel", "happens", "(III)Z"⟩, 60)) 126 rfl⟩
theorem lk_L_166 : Cond.methodLink RL 166 yX12_drawn ∈ gw ∧ Cond.instanceMethod yX12_drawn ∈ gw ∧ Cond.selects yX12_drawn.cls yX12_drawn yX12_drawn ∈ gw := ⟨gt8 215 rfl rfl, gt8 216 rfl rfl, gt8 217 rfl rfl⟩
theorem lk_L_178 : Cond.methodLink RL 178 yX12_count ∈ gw ∧ Cond.instanceMethod yX12_count ∈ gw ∧ Cond.selects yX12_count.cls yX12_count yX12_count ∈ gw := ⟨gt8 219 rfl rfl, gt8 220 rfl rfl, gt8 221 rfl rfl⟩
theorem lk_L_182 : Cond.methodLink RL 182 yX12_status ∈ gw ∧ Cond.instanceMethod yX12_status ∈ gw ∧ Cond.selects yX12_status.cls yX12_status yX12_status ∈ gw := ⟨gt8 223 rfl rfl, gt8 224 rfl rfl, gt8 225 rfl rfl⟩
theorem lc_L_7 : Cond.classLink RL 7 RX11 ∈ gw ∧ Cond.instantiable RX11 17 ∈ gw ∧ Cond.initialized RX11 ∈ gw := ⟨gt1 22 rfl rfl, gt1 23 rfl rfl, gt1 1 rfl rfl⟩
theorem lc_X11_7 : Cond.classLink RX11 7 RX2 ∈ gw ∧ Cond.instantiable RX2 20 ∈ gw ∧ Cond.initialized RX2 ∈ gw := ⟨gt1 30 rfl rfl, gt1 31 rfl rfl, gt1 2 rfl rfl⟩
theorem lc_X2_48 : Cond.classLink RX2 48 RX9 ∈ gw ∧ Cond.instantiable RX9 5 ∈ gw ∧ Cond.initialized RX9 ∈ gw := ⟨gt1 36 rfl rfl, gt1 180 rfl rfl, gt1 6 rfl rfl⟩
theorem lc_X2_58 : Cond.classLink RX2 58 RX4 ∈ gw ∧ Cond.instantiable RX4 2 ∈ gw ∧ Cond.initialized RX4 ∈ gw := ⟨gt1 38 rfl rfl, gt1 39 rfl rfl, gt1 3 rfl rfl⟩
theorem lk_X2_60 : Cond.methodLinkNest RX2 60 yX4_init RX11 ∈ nestW ∧ Cond.instanceMethod yX4_init ∈ gw := ⟨by simp [nestW], gt1 41 rfl rfl⟩
theorem lc_X11_27 : Cond.classLink RX11 27 RX7 ∈ gw ∧ Cond.instantiable RX7 10 ∈ gw ∧ Cond.initialized RX7 ∈ gw := ⟨gt1 173 rfl rfl, gt1 174 rfl rfl, gt1 5 rfl rfl⟩
theorem lk_X11_29 : Cond.methodLinkNest RX11 29 yX7_init RX11 ∈ nestW ∧ Cond.instanceMethod yX7_init ∈ gw := ⟨by simp [nestW], gt1 176 rfl rfl⟩
theorem lc_X7_15 : Cond.classLink RX7 15 RX9 ∈ gw ∧ Cond.instantiable RX9 5 ∈ gw ∧ Cond.initialized RX9 ∈ gw := ⟨gt1 179 rfl rfl, gt1 180 rfl rfl, gt1 6 rfl rfl⟩
theorem lc_X11_34 : Cond.classLink RX11 34 RX3 ∈ gw ∧ Cond.instantiable RX3 5 ∈ gw ∧ Cond.initialized RX3 ∈ gw := ⟨gt2 4 rfl rfl, gt2 5 rfl rfl, gt1 7 rfl rfl⟩
theorem lc_X3_11 : Cond.classLink RX3 11 RX5 ∈ gw ∧ Cond.instantiable RX5 1 ∈ gw ∧ Cond.initialized RX5 ∈ gw := ⟨gt2 10 rfl rfl, gt2 11 rfl rfl, gt1 8 rfl rfl⟩
theorem lk_X3_13 : Cond.methodLinkNest RX3 13 yX5_init RX11 ∈ nestW ∧ Cond.instanceMethod yX5_init ∈ gw := ⟨by simp [nestW], gt2 13 rfl rfl⟩
theorem lc_X11_43 : Cond.classLink RX11 43 RX0 ∈ gw ∧ Cond.instantiable RX0 2 ∈ gw ∧ Cond.initialized RX0 ∈ gw := ⟨gt2 40 rfl rfl, gt2 41 rfl rfl, gt1 9 rfl rfl⟩
theorem lc_X11_52 : Cond.classLink RX11 52 RX1 ∈ gw ∧ Cond.instantiable RX1 5 ∈ gw ∧ Cond.initialized RX1 ∈ gw := ⟨gt2 54 rfl rfl, gt2 55 rfl rfl, gt1 10 rfl rfl⟩
theorem lk_X11_54 : Cond.methodLinkNest RX11 54 yX1_init RX11 ∈ nestW ∧ Cond.instanceMethod yX1_init ∈ gw := ⟨by simp [nestW], gt2 57 rfl rfl⟩
theorem lc_X11_59 : Cond.classLink RX11 59 RX6 ∈ gw ∧ Cond.instantiable RX6 13 ∈ gw ∧ Cond.initialized RX6 ∈ gw := ⟨gt2 80 rfl rfl, gt2 81 rfl rfl, gt1 11 rfl rfl⟩
theorem lc_X11_68 : Cond.classLink RX11 68 RX10 ∈ gw ∧ Cond.instantiable RX10 5 ∈ gw ∧ Cond.initialized RX10 ∈ gw := ⟨gt2 130 rfl rfl, gt2 131 rfl rfl, gt1 12 rfl rfl⟩
theorem lk_X11_70 : Cond.methodLinkNest RX11 70 yX10_init RX11 ∈ nestW ∧ Cond.instanceMethod yX10_init ∈ gw := ⟨by simp [nestW], gt2 133 rfl rfl⟩
theorem lc_X11_75 : Cond.classLink RX11 75 RX8 ∈ gw ∧ Cond.instantiable RX8 5 ∈ gw ∧ Cond.initialized RX8 ∈ gw := ⟨gt2 154 rfl rfl, gt2 155 rfl rfl, gt1 13 rfl rfl⟩
theorem kc_X3_58 : Cond.constant RX3 58 (-2000000000) ∈ gw := gt3 52 rfl rfl
theorem kc_X5_15 : Cond.constant RX5 15 (-2000000000) ∈ gw := gt3 61 rfl rfl
theorem kc_X5_25 : Cond.constantLong RX5 25 (-2000000000) ∈ gw := gt3 62 rfl rfl
theorem kc_X5_27 : Cond.constantLong RX5 27 (1000000000) ∈ gw := gt3 63 rfl rfl
theorem kc_X5_29 : Cond.constantLong RX5 29 (-1000000000) ∈ gw := gt3 64 rfl rfl
theorem lc_X11_210 : Cond.classLink RX11 210 RX9 ∈ gw ∧ Cond.instantiable RX9 5 ∈ gw ∧ Cond.initialized RX9 ∈ gw := ⟨gt4 67 rfl rfl, gt1 180 rfl rfl, gt1 6 rfl rfl⟩
theorem kc_X8_63 : Cond.constant RX8 63 (-2000000000) ∈ gw := gt4 127 rfl rfl
theorem kc_J6_265 : Cond.constant RJ6 265 (1431655765) ∈ gw := gt5 108 rfl rfl
theorem kc_J6_266 : Cond.constant RJ6 266 (858993459) ∈ gw := gt5 109 rfl rfl
theorem kc_J6_267 : Cond.constant RJ6 267 (252645135) ∈ gw := gt5 110 rfl rfl
theorem kc_X11_346 : Cond.constantLong RX11 346 (-1) ∈ gw := gt5 149 rfl rfl
theorem kc_X11_351 : Cond.constantLong RX11 351 (1000000000000) ∈ gw := gt5 153 rfl rfl
theorem kc_X11_353 : Cond.constantLong RX11 353 (10) ∈ gw := gt5 154 rfl rfl
theorem kc_X11_359 : Cond.constant RX11 359 (1000000) ∈ gw := gt5 164 rfl rfl
theorem kc_X0_97 : Cond.constantLong RX0 97 (1103) ∈ gw := gt5 173 rfl rfl
theorem kc_X0_99 : Cond.constantLong RX0 99 (12345) ∈ gw := gt5 174 rfl rfl
theorem kc_X0_101 : Cond.constantLong RX0 101 (1000003) ∈ gw := gt5 175 rfl rfl
theorem lc_L_10 : Cond.classLink RL 10 RX12 ∈ gw ∧ Cond.instantiable RX12 60 ∈ gw ∧ Cond.initialized RX12 ∈ gw := ⟨gt5 201 rfl rfl, gt5 202 rfl rfl, gt1 14 rfl rfl⟩
theorem kc_X12_288 : Cond.constantLong RX12 288 (1000000000) ∈ gw := gt6 237 rfl rfl
theorem kc_X12_290 : Cond.constantLong RX12 290 (-1000000000) ∈ gw := gt6 238 rfl rfl
theorem kc_X12_192 : Cond.constant RX12 192 (1000000) ∈ gw := gt7 123 rfl rfl
theorem kc_X12_476 : Cond.constantLong RX12 476 (-1) ∈ gw := gt8 173 rfl rfl
theorem kc_X12_478 : Cond.constantLong RX12 478 (1000000000000) ∈ gw := gt8 174 rfl rfl
theorem kc_X12_480 : Cond.constantLong RX12 480 (10) ∈ gw := gt8 175 rfl rfl
theorem kc_X12_500 : Cond.constantLong RX12 500 (1000000) ∈ gw := gt8 199 rfl rfl
theorem kc_X12_513 : Cond.constantLong RX12 513 (1103) ∈ gw := gt8 208 rfl rfl
theorem kc_X12_518 : Cond.constantLong RX12 518 (12345) ∈ gw := gt8 209 rfl rfl
theorem kc_X12_520 : Cond.constantLong RX12 520 (1000003) ∈ gw := gt8 210 rfl rfl
theorem ac_0 : Cond.arrayClass (aty 0) ∈ gw := gt1 53 rfl rfl
theorem ac_1 : Cond.arrayClass (aty 1) ∈ gw := gt1 209 rfl rfl
theorem ac_2 : Cond.arrayClass (aty 2) ∈ gw := gt1 208 rfl rfl
theorem ac_3 : Cond.arrayClass (aty 3) ∈ gw := gt2 230 rfl rfl
