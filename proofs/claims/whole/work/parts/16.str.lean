theorem in_tb {w : Cond} {args : Array Value} {s : State} (hts : ∀ w ∈ lw_tbl, w.before args s = true) (h : w ∈ tables_1) : w.before args s = true := hts w (List.mem_append_right _ h)
theorem tb1 {w : Cond} (i : Nat) (h : tables_1_1[i]? = some w) : w ∈ tables_1 := List.mem_append_left _ (List.mem_of_getElem? h)
theorem tb2 {w : Cond} (i : Nat) (h : tables_1_2[i]? = some w) : w ∈ tables_1 := List.mem_append_right _ (List.mem_append_left _ (List.mem_of_getElem? h))
theorem tb3 {w : Cond} (i : Nat) (h : tables_1_3[i]? = some w) : w ∈ tables_1 := List.mem_append_right _ (List.mem_append_right _ (List.mem_append_left _ (List.mem_of_getElem? h)))
theorem tb4 {w : Cond} (i : Nat) (h : tables_1_4[i]? = some w) : w ∈ tables_1 := List.mem_append_right _ (List.mem_append_right _ (List.mem_append_right _ (List.mem_append_left _ (List.mem_of_getElem? h))))
theorem tb5 {w : Cond} (i : Nat) (h : tables_1_5[i]? = some w) : w ∈ tables_1 := List.mem_append_right _ (List.mem_append_right _ (List.mem_append_right _ (List.mem_append_right _ (List.mem_append_left _ (List.mem_of_getElem? h)))))
theorem tb6 {w : Cond} (i : Nat) (h : tables_1_6[i]? = some w) : w ∈ tables_1 := List.mem_append_right _ (List.mem_append_right _ (List.mem_append_right _ (List.mem_append_right _ (List.mem_append_right _ (List.mem_append_left _ (List.mem_of_getElem? h))))))
theorem tb7 {w : Cond} (i : Nat) (h : tables_1_7[i]? = some w) : w ∈ tables_1 := List.mem_append_right _ (List.mem_append_right _ (List.mem_append_right _ (List.mem_append_right _ (List.mem_append_right _ (List.mem_append_right _ (List.mem_append_left _ (List.mem_of_getElem? h)))))))
theorem tb8 {w : Cond} (i : Nat) (h : tables_1_8[i]? = some w) : w ∈ tables_1 := List.mem_append_right _ (List.mem_append_right _ (List.mem_append_right _ (List.mem_append_right _ (List.mem_append_right _ (List.mem_append_right _ (List.mem_append_right _ ((List.mem_of_getElem? h))))))))
def sTm (i : Nat) : Term := .string RX7 ((sTx.getD i (0, "")).1)
theorem st_ex {args : Array Value} {s : State} (hF : ∀ (k : Nat) (w : Cond), (flatC (Jvm.Cond.and given_1 narrow_1))[k]? = some w → w.before args s = true) : ∀ i : Nat, i < 11 → (Cond.exactly (sTm i) "java/lang/String").before args s = true := by
  intro i hi
  match i, hi with
  | 0, _ => exact hF 35 _ rfl
  | 1, _ => exact hF 58 _ rfl
  | 2, _ => exact hF 84 _ rfl
  | 3, _ => exact hF 130 _ rfl
  | 4, _ => exact hF 198 _ rfl
  | 5, _ => exact hF 208 _ rfl
  | 6, _ => exact hF 221 _ rfl
  | 7, _ => exact hF 236 _ rfl
  | 8, _ => exact hF 249 _ rfl
  | 9, _ => exact hF 264 _ rfl
  | 10, _ => exact hF 280 _ rfl
  | k + 11, hi => exact absurd hi (by omega)
theorem st_co {args : Array Value} {s : State} (hF : ∀ (k : Nat) (w : Cond), (flatC (Jvm.Cond.and given_1 narrow_1))[k]? = some w → w.before args s = true) : ∀ i : Nat, i < 11 → (Cond.eq (.field (sTm i) "java/lang/String" "coder" "B") (.int 0)).before args s = true := by
  intro i hi
  match i, hi with
  | 0, _ => exact hF 36 _ rfl
  | 1, _ => exact hF 59 _ rfl
  | 2, _ => exact hF 85 _ rfl
  | 3, _ => exact hF 131 _ rfl
  | 4, _ => exact hF 199 _ rfl
  | 5, _ => exact hF 209 _ rfl
  | 6, _ => exact hF 222 _ rfl
  | 7, _ => exact hF 237 _ rfl
  | 8, _ => exact hF 250 _ rfl
  | 9, _ => exact hF 265 _ rfl
  | 10, _ => exact hF 281 _ rfl
  | k + 11, hi => exact absurd hi (by omega)
theorem st_ar {args : Array Value} {s : State} (hF : ∀ (k : Nat) (w : Cond), (flatC (Jvm.Cond.and given_1 narrow_1))[k]? = some w → w.before args s = true) : ∀ i : Nat, i < 11 → (Cond.arrayOf (.field (sTm i) "java/lang/String" "value" "[B") .byte).before args s = true := by
  intro i hi
  match i, hi with
  | 0, _ => exact hF 37 _ rfl
  | 1, _ => exact hF 60 _ rfl
  | 2, _ => exact hF 86 _ rfl
  | 3, _ => exact hF 132 _ rfl
  | 4, _ => exact hF 200 _ rfl
  | 5, _ => exact hF 210 _ rfl
  | 6, _ => exact hF 223 _ rfl
  | 7, _ => exact hF 238 _ rfl
  | 8, _ => exact hF 251 _ rfl
  | 9, _ => exact hF 266 _ rfl
  | 10, _ => exact hF 282 _ rfl
  | k + 11, hi => exact absurd hi (by omega)
theorem st_le {args : Array Value} {s : State} (hF : ∀ (k : Nat) (w : Cond), (flatC (Jvm.Cond.and given_1 narrow_1))[k]? = some w → w.before args s = true) : ∀ i : Nat, i < 11 → (Cond.eq (.length (.field (sTm i) "java/lang/String" "value" "[B")) (.int (Int32.ofNat (sLn.getD i 0)))).before args s = true := by
  intro i hi
  match i, hi with
  | 0, _ => exact hF 38 _ rfl
  | 1, _ => exact hF 61 _ rfl
  | 2, _ => exact hF 87 _ rfl
  | 3, _ => exact hF 133 _ rfl
  | 4, _ => exact hF 201 _ rfl
  | 5, _ => exact hF 211 _ rfl
  | 6, _ => exact hF 224 _ rfl
  | 7, _ => exact hF 239 _ rfl
  | 8, _ => exact hF 252 _ rfl
  | 9, _ => exact hF 267 _ rfl
  | 10, _ => exact hF 283 _ rfl
  | k + 11, hi => exact absurd hi (by omega)
theorem st_el0 {args : Array Value} {s : State} (hF : ∀ (k : Nat) (w : Cond), (flatC (Jvm.Cond.and given_1 narrow_1))[k]? = some w → w.before args s = true) : ∀ j : Nat, j < 19 → (Cond.eq (.elem (.field (sTm 0) "java/lang/String" "value" "[B") (.int (Int32.ofNat j))) (.int ((sBy.getD 0 []).getD j 0))).before args s = true := by
  intro j hj
  match j, hj with
  | 0, _ => exact hF 39 _ rfl
  | 1, _ => exact hF 40 _ rfl
  | 2, _ => exact hF 41 _ rfl
  | 3, _ => exact hF 42 _ rfl
  | 4, _ => exact hF 43 _ rfl
  | 5, _ => exact hF 44 _ rfl
  | 6, _ => exact hF 45 _ rfl
  | 7, _ => exact hF 46 _ rfl
  | 8, _ => exact hF 47 _ rfl
  | 9, _ => exact hF 48 _ rfl
  | 10, _ => exact hF 49 _ rfl
  | 11, _ => exact hF 50 _ rfl
  | 12, _ => exact hF 51 _ rfl
  | 13, _ => exact hF 52 _ rfl
  | 14, _ => exact hF 53 _ rfl
  | 15, _ => exact hF 54 _ rfl
  | 16, _ => exact hF 55 _ rfl
  | 17, _ => exact hF 56 _ rfl
  | 18, _ => exact hF 57 _ rfl
  | k + 19, hj => exact absurd hj (by omega)
theorem st_el1 {args : Array Value} {s : State} (hF : ∀ (k : Nat) (w : Cond), (flatC (Jvm.Cond.and given_1 narrow_1))[k]? = some w → w.before args s = true) : ∀ j : Nat, j < 21 → (Cond.eq (.elem (.field (sTm 1) "java/lang/String" "value" "[B") (.int (Int32.ofNat j))) (.int ((sBy.getD 1 []).getD j 0))).before args s = true := by
  intro j hj
  match j, hj with
  | 0, _ => exact hF 62 _ rfl
  | 1, _ => exact hF 63 _ rfl
  | 2, _ => exact hF 64 _ rfl
  | 3, _ => exact hF 65 _ rfl
  | 4, _ => exact hF 66 _ rfl
  | 5, _ => exact hF 67 _ rfl
  | 6, _ => exact hF 68 _ rfl
  | 7, _ => exact hF 69 _ rfl
  | 8, _ => exact hF 70 _ rfl
  | 9, _ => exact hF 71 _ rfl
  | 10, _ => exact hF 72 _ rfl
  | 11, _ => exact hF 73 _ rfl
  | 12, _ => exact hF 74 _ rfl
  | 13, _ => exact hF 75 _ rfl
  | 14, _ => exact hF 76 _ rfl
  | 15, _ => exact hF 77 _ rfl
  | 16, _ => exact hF 78 _ rfl
  | 17, _ => exact hF 79 _ rfl
  | 18, _ => exact hF 80 _ rfl
  | 19, _ => exact hF 81 _ rfl
  | 20, _ => exact hF 82 _ rfl
  | k + 21, hj => exact absurd hj (by omega)
theorem st_el2 {args : Array Value} {s : State} (hF : ∀ (k : Nat) (w : Cond), (flatC (Jvm.Cond.and given_1 narrow_1))[k]? = some w → w.before args s = true) : ∀ j : Nat, j < 40 → (Cond.eq (.elem (.field (sTm 2) "java/lang/String" "value" "[B") (.int (Int32.ofNat j))) (.int ((sBy.getD 2 []).getD j 0))).before args s = true := by
  intro j hj
  match j, hj with
  | 0, _ => exact hF 88 _ rfl
  | 1, _ => exact hF 89 _ rfl
  | 2, _ => exact hF 90 _ rfl
  | 3, _ => exact hF 91 _ rfl
  | 4, _ => exact hF 92 _ rfl
  | 5, _ => exact hF 93 _ rfl
  | 6, _ => exact hF 94 _ rfl
  | 7, _ => exact hF 95 _ rfl
  | 8, _ => exact hF 96 _ rfl
  | 9, _ => exact hF 97 _ rfl
  | 10, _ => exact hF 98 _ rfl
  | 11, _ => exact hF 99 _ rfl
  | 12, _ => exact hF 100 _ rfl
  | 13, _ => exact hF 101 _ rfl
  | 14, _ => exact hF 102 _ rfl
  | 15, _ => exact hF 103 _ rfl
  | 16, _ => exact hF 104 _ rfl
  | 17, _ => exact hF 105 _ rfl
  | 18, _ => exact hF 106 _ rfl
  | 19, _ => exact hF 107 _ rfl
  | 20, _ => exact hF 108 _ rfl
  | 21, _ => exact hF 109 _ rfl
  | 22, _ => exact hF 110 _ rfl
  | 23, _ => exact hF 111 _ rfl
  | 24, _ => exact hF 112 _ rfl
  | 25, _ => exact hF 113 _ rfl
  | 26, _ => exact hF 114 _ rfl
  | 27, _ => exact hF 115 _ rfl
  | 28, _ => exact hF 116 _ rfl
  | 29, _ => exact hF 117 _ rfl
  | 30, _ => exact hF 118 _ rfl
  | 31, _ => exact hF 119 _ rfl
  | 32, _ => exact hF 120 _ rfl
  | 33, _ => exact hF 121 _ rfl
  | 34, _ => exact hF 122 _ rfl
  | 35, _ => exact hF 123 _ rfl
  | 36, _ => exact hF 124 _ rfl
  | 37, _ => exact hF 125 _ rfl
  | 38, _ => exact hF 126 _ rfl
  | 39, _ => exact hF 127 _ rfl
  | k + 40, hj => exact absurd hj (by omega)
theorem st_el3 {args : Array Value} {s : State} (hF : ∀ (k : Nat) (w : Cond), (flatC (Jvm.Cond.and given_1 narrow_1))[k]? = some w → w.before args s = true) : ∀ j : Nat, j < 61 → (Cond.eq (.elem (.field (sTm 3) "java/lang/String" "value" "[B") (.int (Int32.ofNat j))) (.int ((sBy.getD 3 []).getD j 0))).before args s = true := by
  intro j hj
  match j, hj with
  | 0, _ => exact hF 134 _ rfl
  | 1, _ => exact hF 135 _ rfl
  | 2, _ => exact hF 136 _ rfl
  | 3, _ => exact hF 137 _ rfl
  | 4, _ => exact hF 138 _ rfl
  | 5, _ => exact hF 139 _ rfl
  | 6, _ => exact hF 140 _ rfl
  | 7, _ => exact hF 141 _ rfl
  | 8, _ => exact hF 142 _ rfl
  | 9, _ => exact hF 143 _ rfl
  | 10, _ => exact hF 144 _ rfl
  | 11, _ => exact hF 145 _ rfl
  | 12, _ => exact hF 146 _ rfl
  | 13, _ => exact hF 147 _ rfl
  | 14, _ => exact hF 148 _ rfl
  | 15, _ => exact hF 149 _ rfl
  | 16, _ => exact hF 150 _ rfl
  | 17, _ => exact hF 151 _ rfl
  | 18, _ => exact hF 152 _ rfl
  | 19, _ => exact hF 153 _ rfl
  | 20, _ => exact hF 154 _ rfl
  | 21, _ => exact hF 155 _ rfl
  | 22, _ => exact hF 156 _ rfl
  | 23, _ => exact hF 157 _ rfl
  | 24, _ => exact hF 158 _ rfl
  | 25, _ => exact hF 159 _ rfl
  | 26, _ => exact hF 160 _ rfl
  | 27, _ => exact hF 161 _ rfl
  | 28, _ => exact hF 162 _ rfl
  | 29, _ => exact hF 163 _ rfl
  | 30, _ => exact hF 164 _ rfl
  | 31, _ => exact hF 165 _ rfl
  | 32, _ => exact hF 166 _ rfl
  | 33, _ => exact hF 167 _ rfl
  | 34, _ => exact hF 168 _ rfl
  | 35, _ => exact hF 169 _ rfl
  | 36, _ => exact hF 170 _ rfl
  | 37, _ => exact hF 171 _ rfl
  | 38, _ => exact hF 172 _ rfl
  | 39, _ => exact hF 173 _ rfl
  | 40, _ => exact hF 174 _ rfl
  | 41, _ => exact hF 175 _ rfl
  | 42, _ => exact hF 176 _ rfl
  | 43, _ => exact hF 177 _ rfl
  | 44, _ => exact hF 178 _ rfl
  | 45, _ => exact hF 179 _ rfl
  | 46, _ => exact hF 180 _ rfl
  | 47, _ => exact hF 181 _ rfl
  | 48, _ => exact hF 182 _ rfl
  | 49, _ => exact hF 183 _ rfl
  | 50, _ => exact hF 184 _ rfl
  | 51, _ => exact hF 185 _ rfl
  | 52, _ => exact hF 186 _ rfl
  | 53, _ => exact hF 187 _ rfl
  | 54, _ => exact hF 188 _ rfl
  | 55, _ => exact hF 189 _ rfl
  | 56, _ => exact hF 190 _ rfl
  | 57, _ => exact hF 191 _ rfl
  | 58, _ => exact hF 192 _ rfl
  | 59, _ => exact hF 193 _ rfl
  | 60, _ => exact hF 194 _ rfl
  | k + 61, hj => exact absurd hj (by omega)
theorem st_el4 {args : Array Value} {s : State} (hF : ∀ (k : Nat) (w : Cond), (flatC (Jvm.Cond.and given_1 narrow_1))[k]? = some w → w.before args s = true) : ∀ j : Nat, j < 2 → (Cond.eq (.elem (.field (sTm 4) "java/lang/String" "value" "[B") (.int (Int32.ofNat j))) (.int ((sBy.getD 4 []).getD j 0))).before args s = true := by
  intro j hj
  match j, hj with
  | 0, _ => exact hF 202 _ rfl
  | 1, _ => exact hF 203 _ rfl
  | k + 2, hj => exact absurd hj (by omega)
theorem st_el5 {args : Array Value} {s : State} (hF : ∀ (k : Nat) (w : Cond), (flatC (Jvm.Cond.and given_1 narrow_1))[k]? = some w → w.before args s = true) : ∀ j : Nat, j < 4 → (Cond.eq (.elem (.field (sTm 5) "java/lang/String" "value" "[B") (.int (Int32.ofNat j))) (.int ((sBy.getD 5 []).getD j 0))).before args s = true := by
  intro j hj
  match j, hj with
  | 0, _ => exact hF 212 _ rfl
  | 1, _ => exact hF 213 _ rfl
  | 2, _ => exact hF 214 _ rfl
  | 3, _ => exact hF 215 _ rfl
  | k + 4, hj => exact absurd hj (by omega)
theorem st_el6 {args : Array Value} {s : State} (hF : ∀ (k : Nat) (w : Cond), (flatC (Jvm.Cond.and given_1 narrow_1))[k]? = some w → w.before args s = true) : ∀ j : Nat, j < 5 → (Cond.eq (.elem (.field (sTm 6) "java/lang/String" "value" "[B") (.int (Int32.ofNat j))) (.int ((sBy.getD 6 []).getD j 0))).before args s = true := by
  intro j hj
  match j, hj with
  | 0, _ => exact hF 225 _ rfl
  | 1, _ => exact hF 226 _ rfl
  | 2, _ => exact hF 227 _ rfl
  | 3, _ => exact hF 228 _ rfl
  | 4, _ => exact hF 229 _ rfl
  | k + 5, hj => exact absurd hj (by omega)
theorem st_el7 {args : Array Value} {s : State} (hF : ∀ (k : Nat) (w : Cond), (flatC (Jvm.Cond.and given_1 narrow_1))[k]? = some w → w.before args s = true) : ∀ j : Nat, j < 2 → (Cond.eq (.elem (.field (sTm 7) "java/lang/String" "value" "[B") (.int (Int32.ofNat j))) (.int ((sBy.getD 7 []).getD j 0))).before args s = true := by
  intro j hj
  match j, hj with
  | 0, _ => exact hF 240 _ rfl
  | 1, _ => exact hF 241 _ rfl
  | k + 2, hj => exact absurd hj (by omega)
theorem st_el8 {args : Array Value} {s : State} (hF : ∀ (k : Nat) (w : Cond), (flatC (Jvm.Cond.and given_1 narrow_1))[k]? = some w → w.before args s = true) : ∀ j : Nat, j < 3 → (Cond.eq (.elem (.field (sTm 8) "java/lang/String" "value" "[B") (.int (Int32.ofNat j))) (.int ((sBy.getD 8 []).getD j 0))).before args s = true := by
  intro j hj
  match j, hj with
  | 0, _ => exact hF 253 _ rfl
  | 1, _ => exact hF 254 _ rfl
  | 2, _ => exact hF 255 _ rfl
  | k + 3, hj => exact absurd hj (by omega)
theorem st_el9 {args : Array Value} {s : State} (hF : ∀ (k : Nat) (w : Cond), (flatC (Jvm.Cond.and given_1 narrow_1))[k]? = some w → w.before args s = true) : ∀ j : Nat, j < 3 → (Cond.eq (.elem (.field (sTm 9) "java/lang/String" "value" "[B") (.int (Int32.ofNat j))) (.int ((sBy.getD 9 []).getD j 0))).before args s = true := by
  intro j hj
  match j, hj with
  | 0, _ => exact hF 268 _ rfl
  | 1, _ => exact hF 269 _ rfl
  | 2, _ => exact hF 270 _ rfl
  | k + 3, hj => exact absurd hj (by omega)
theorem st_el10 {args : Array Value} {s : State} (hF : ∀ (k : Nat) (w : Cond), (flatC (Jvm.Cond.and given_1 narrow_1))[k]? = some w → w.before args s = true) : ∀ j : Nat, j < 2 → (Cond.eq (.elem (.field (sTm 10) "java/lang/String" "value" "[B") (.int (Int32.ofNat j))) (.int ((sBy.getD 10 []).getD j 0))).before args s = true := by
  intro j hj
  match j, hj with
  | 0, _ => exact hF 284 _ rfl
  | 1, _ => exact hF 285 _ rfl
  | k + 2, hj => exact absurd hj (by omega)
theorem st_el {args : Array Value} {s : State} (hF : ∀ (k : Nat) (w : Cond), (flatC (Jvm.Cond.and given_1 narrow_1))[k]? = some w → w.before args s = true) : ∀ i : Nat, i < 11 → ∀ j : Nat, j < sLn.getD i 0 → (Cond.eq (.elem (.field (sTm i) "java/lang/String" "value" "[B") (.int (Int32.ofNat j))) (.int ((sBy.getD i []).getD j 0))).before args s = true := by
  intro i hi
  match i, hi with
  | 0, _ => exact st_el0 hF
  | 1, _ => exact st_el1 hF
  | 2, _ => exact st_el2 hF
  | 3, _ => exact st_el3 hF
  | 4, _ => exact st_el4 hF
  | 5, _ => exact st_el5 hF
  | 6, _ => exact st_el6 hF
  | 7, _ => exact st_el7 hF
  | 8, _ => exact st_el8 hF
  | 9, _ => exact st_el9 hF
  | 10, _ => exact st_el10 hF
  | k + 11, hi => exact absurd hi (by omega)
theorem st_ne {args : Array Value} {s : State} (hF : ∀ (k : Nat) (w : Cond), (flatC (Jvm.Cond.and given_1 narrow_1))[k]? = some w → w.before args s = true) : ∀ i j : Nat, i < 11 → j < 11 → i ≠ j → (Cond.not (Cond.eq (sTm i) (sTm j))).before args s = true ∨ (Cond.not (Cond.eq (sTm j) (sTm i))).before args s = true := by
  intro i j hi hj hij
  match i, j, hi, hj, hij with
  | 0, 0, _, _, h => exact absurd rfl h
  | 0, 1, _, _, _ => exact Or.inl (hF 83 _ rfl)
  | 0, 2, _, _, _ => exact Or.inl (hF 128 _ rfl)
  | 0, 3, _, _, _ => exact Or.inl (hF 195 _ rfl)
  | 0, 4, _, _, _ => exact Or.inl (hF 204 _ rfl)
  | 0, 5, _, _, _ => exact Or.inl (hF 216 _ rfl)
  | 0, 6, _, _, _ => exact Or.inl (hF 230 _ rfl)
  | 0, 7, _, _, _ => exact Or.inl (hF 242 _ rfl)
  | 0, 8, _, _, _ => exact Or.inl (hF 256 _ rfl)
  | 0, 9, _, _, _ => exact Or.inl (hF 271 _ rfl)
  | 0, 10, _, _, _ => exact Or.inl (hF 286 _ rfl)
  | 1, 0, _, _, _ => exact Or.inr (hF 83 _ rfl)
  | 1, 1, _, _, h => exact absurd rfl h
  | 1, 2, _, _, _ => exact Or.inl (hF 129 _ rfl)
  | 1, 3, _, _, _ => exact Or.inl (hF 196 _ rfl)
  | 1, 4, _, _, _ => exact Or.inl (hF 205 _ rfl)
  | 1, 5, _, _, _ => exact Or.inl (hF 217 _ rfl)
  | 1, 6, _, _, _ => exact Or.inl (hF 231 _ rfl)
  | 1, 7, _, _, _ => exact Or.inl (hF 243 _ rfl)
  | 1, 8, _, _, _ => exact Or.inl (hF 257 _ rfl)
  | 1, 9, _, _, _ => exact Or.inl (hF 272 _ rfl)
  | 1, 10, _, _, _ => exact Or.inl (hF 287 _ rfl)
  | 2, 0, _, _, _ => exact Or.inr (hF 128 _ rfl)
  | 2, 1, _, _, _ => exact Or.inr (hF 129 _ rfl)
  | 2, 2, _, _, h => exact absurd rfl h
  | 2, 3, _, _, _ => exact Or.inl (hF 197 _ rfl)
  | 2, 4, _, _, _ => exact Or.inl (hF 206 _ rfl)
  | 2, 5, _, _, _ => exact Or.inl (hF 218 _ rfl)
  | 2, 6, _, _, _ => exact Or.inl (hF 232 _ rfl)
  | 2, 7, _, _, _ => exact Or.inl (hF 244 _ rfl)
  | 2, 8, _, _, _ => exact Or.inl (hF 258 _ rfl)
  | 2, 9, _, _, _ => exact Or.inl (hF 273 _ rfl)
  | 2, 10, _, _, _ => exact Or.inl (hF 288 _ rfl)
  | 3, 0, _, _, _ => exact Or.inr (hF 195 _ rfl)
  | 3, 1, _, _, _ => exact Or.inr (hF 196 _ rfl)
  | 3, 2, _, _, _ => exact Or.inr (hF 197 _ rfl)
  | 3, 3, _, _, h => exact absurd rfl h
  | 3, 4, _, _, _ => exact Or.inl (hF 207 _ rfl)
  | 3, 5, _, _, _ => exact Or.inl (hF 219 _ rfl)
  | 3, 6, _, _, _ => exact Or.inl (hF 233 _ rfl)
  | 3, 7, _, _, _ => exact Or.inl (hF 245 _ rfl)
  | 3, 8, _, _, _ => exact Or.inl (hF 259 _ rfl)
  | 3, 9, _, _, _ => exact Or.inl (hF 274 _ rfl)
  | 3, 10, _, _, _ => exact Or.inl (hF 289 _ rfl)
  | 4, 0, _, _, _ => exact Or.inr (hF 204 _ rfl)
  | 4, 1, _, _, _ => exact Or.inr (hF 205 _ rfl)
  | 4, 2, _, _, _ => exact Or.inr (hF 206 _ rfl)
  | 4, 3, _, _, _ => exact Or.inr (hF 207 _ rfl)
  | 4, 4, _, _, h => exact absurd rfl h
  | 4, 5, _, _, _ => exact Or.inl (hF 220 _ rfl)
  | 4, 6, _, _, _ => exact Or.inl (hF 234 _ rfl)
  | 4, 7, _, _, _ => exact Or.inl (hF 246 _ rfl)
  | 4, 8, _, _, _ => exact Or.inl (hF 260 _ rfl)
  | 4, 9, _, _, _ => exact Or.inl (hF 275 _ rfl)
  | 4, 10, _, _, _ => exact Or.inl (hF 290 _ rfl)
  | 5, 0, _, _, _ => exact Or.inr (hF 216 _ rfl)
  | 5, 1, _, _, _ => exact Or.inr (hF 217 _ rfl)
  | 5, 2, _, _, _ => exact Or.inr (hF 218 _ rfl)
  | 5, 3, _, _, _ => exact Or.inr (hF 219 _ rfl)
  | 5, 4, _, _, _ => exact Or.inr (hF 220 _ rfl)
  | 5, 5, _, _, h => exact absurd rfl h
  | 5, 6, _, _, _ => exact Or.inl (hF 235 _ rfl)
  | 5, 7, _, _, _ => exact Or.inl (hF 247 _ rfl)
  | 5, 8, _, _, _ => exact Or.inl (hF 261 _ rfl)
  | 5, 9, _, _, _ => exact Or.inl (hF 276 _ rfl)
  | 5, 10, _, _, _ => exact Or.inl (hF 291 _ rfl)
  | 6, 0, _, _, _ => exact Or.inr (hF 230 _ rfl)
  | 6, 1, _, _, _ => exact Or.inr (hF 231 _ rfl)
  | 6, 2, _, _, _ => exact Or.inr (hF 232 _ rfl)
  | 6, 3, _, _, _ => exact Or.inr (hF 233 _ rfl)
  | 6, 4, _, _, _ => exact Or.inr (hF 234 _ rfl)
  | 6, 5, _, _, _ => exact Or.inr (hF 235 _ rfl)
  | 6, 6, _, _, h => exact absurd rfl h
  | 6, 7, _, _, _ => exact Or.inl (hF 248 _ rfl)
  | 6, 8, _, _, _ => exact Or.inl (hF 262 _ rfl)
  | 6, 9, _, _, _ => exact Or.inl (hF 277 _ rfl)
  | 6, 10, _, _, _ => exact Or.inl (hF 292 _ rfl)
  | 7, 0, _, _, _ => exact Or.inr (hF 242 _ rfl)
  | 7, 1, _, _, _ => exact Or.inr (hF 243 _ rfl)
  | 7, 2, _, _, _ => exact Or.inr (hF 244 _ rfl)
  | 7, 3, _, _, _ => exact Or.inr (hF 245 _ rfl)
  | 7, 4, _, _, _ => exact Or.inr (hF 246 _ rfl)
  | 7, 5, _, _, _ => exact Or.inr (hF 247 _ rfl)
  | 7, 6, _, _, _ => exact Or.inr (hF 248 _ rfl)
  | 7, 7, _, _, h => exact absurd rfl h
  | 7, 8, _, _, _ => exact Or.inl (hF 263 _ rfl)
  | 7, 9, _, _, _ => exact Or.inl (hF 278 _ rfl)
  | 7, 10, _, _, _ => exact Or.inl (hF 293 _ rfl)
  | 8, 0, _, _, _ => exact Or.inr (hF 256 _ rfl)
  | 8, 1, _, _, _ => exact Or.inr (hF 257 _ rfl)
  | 8, 2, _, _, _ => exact Or.inr (hF 258 _ rfl)
  | 8, 3, _, _, _ => exact Or.inr (hF 259 _ rfl)
  | 8, 4, _, _, _ => exact Or.inr (hF 260 _ rfl)
  | 8, 5, _, _, _ => exact Or.inr (hF 261 _ rfl)
  | 8, 6, _, _, _ => exact Or.inr (hF 262 _ rfl)
  | 8, 7, _, _, _ => exact Or.inr (hF 263 _ rfl)
  | 8, 8, _, _, h => exact absurd rfl h
  | 8, 9, _, _, _ => exact Or.inl (hF 279 _ rfl)
  | 8, 10, _, _, _ => exact Or.inl (hF 294 _ rfl)
  | 9, 0, _, _, _ => exact Or.inr (hF 271 _ rfl)
  | 9, 1, _, _, _ => exact Or.inr (hF 272 _ rfl)
  | 9, 2, _, _, _ => exact Or.inr (hF 273 _ rfl)
  | 9, 3, _, _, _ => exact Or.inr (hF 274 _ rfl)
  | 9, 4, _, _, _ => exact Or.inr (hF 275 _ rfl)
  | 9, 5, _, _, _ => exact Or.inr (hF 276 _ rfl)
  | 9, 6, _, _, _ => exact Or.inr (hF 277 _ rfl)
  | 9, 7, _, _, _ => exact Or.inr (hF 278 _ rfl)
  | 9, 8, _, _, _ => exact Or.inr (hF 279 _ rfl)
  | 9, 9, _, _, h => exact absurd rfl h
  | 9, 10, _, _, _ => exact Or.inl (hF 295 _ rfl)
  | 10, 0, _, _, _ => exact Or.inr (hF 286 _ rfl)
  | 10, 1, _, _, _ => exact Or.inr (hF 287 _ rfl)
  | 10, 2, _, _, _ => exact Or.inr (hF 288 _ rfl)
  | 10, 3, _, _, _ => exact Or.inr (hF 289 _ rfl)
  | 10, 4, _, _, _ => exact Or.inr (hF 290 _ rfl)
  | 10, 5, _, _, _ => exact Or.inr (hF 291 _ rfl)
  | 10, 6, _, _, _ => exact Or.inr (hF 292 _ rfl)
  | 10, 7, _, _, _ => exact Or.inr (hF 293 _ rfl)
  | 10, 8, _, _, _ => exact Or.inr (hF 294 _ rfl)
  | 10, 9, _, _, _ => exact Or.inr (hF 295 _ rfl)
  | 10, 10, _, _, h => exact absurd rfl h
  | k + 11, _, hi, _, _ => exact absurd hi (by omega)
  | _, k + 11, _, hj, _ => exact absurd hj (by omega)
theorem Str_ex {args : Array Value} {s : State} (hn : (Jvm.Cond.and given_1 narrow_1).before args s = true) (hts : ∀ w ∈ lw_tbl, w.before args s = true) : ∃ T : Nat → Nat, ∀ E : EV, e_b E = s.heap.size → e_T E = T → StrK E s := by
  have hF : ∀ (k : Nat) (w : Cond), (flatC (Jvm.Cond.and given_1 narrow_1))[k]? = some w → w.before args s = true := fun k w h => flat_of_before _ hn w (List.mem_of_getElem? h)
  have hA : ∀ a : Nat, a < s.heap.size → ¬ s.heap.size ≤ a := fun a h => by omega
  obtain ⟨adK, adV, hS, hK⟩ := vk_Sof (args := args) (s := s) (N := 11) (tm := sTm) (len := sLn) (byt := sBy) (A := fun q => s.heap.size ≤ q) (by decide) (st_ex hF) (st_co hF) (st_ar hF) (st_le hF) (st_el hF) (st_ne hF) hA
  have hcs := va_Zof (A := fun q => s.heap.size ≤ q) (in_tb hts (tb3 186 rfl)) (in_tb hts (tb1 16 rfl)) (va_eqt (hF 4 _ rfl)) hA
  obtain ⟨fv, hfv, hfa⟩ : ∃ v, (v = .null ∨ ∃ a, v = .ref a) ∧ (Term.static "jdk/internal/util/Preconditions" "SIOOBE_FORMATTER" "Ljava/util/function/BiFunction;").eval args s none [] s = some v := by
    have h1 := hF 5 _ rfl
    cases hv : (Term.static "jdk/internal/util/Preconditions" "SIOOBE_FORMATTER" "Ljava/util/function/BiFunction;").eval args s none [] s with
    | none => simp [Cond.before, Cond.holds, Cond.value, hv] at h1
    | some v => cases v <;> first | exact ⟨_, Or.inr ⟨_, rfl⟩, rfl⟩ | exact ⟨_, Or.inl rfl, rfl⟩ | (exfalso; simp [Cond.before, Cond.holds, Cond.value, hv, Value.isRef] at h1; done)
  obtain ⟨fl, fa, hfe⟩ : ∃ fl fa : Nat, fv = if fl = 0 then .null else .ref fa := by
    rcases hfv with h | ⟨a, h⟩
    · exact ⟨0, 0, by rw [h]; rfl⟩
    · exact ⟨1, a, by rw [h]; rfl⟩
  have hsf := va_Zof (A := fun q => s.heap.size ≤ q) (in_tb hts (tb3 202 rfl)) (in_tb hts (tb1 18 rfl)) hfa hA
  refine ⟨fun k => if k < 98 then adK k else if k = 98 then fl else if k = 99 then fa else adV (k - 100), fun E e1 e2 => ⟨fun k q hq => ?_, ?_, ?_, ?_⟩⟩
  · rw [e2]
    have key : ∀ i, i < 11 → ∀ q : Nat × String, sTx[i]? = some q → (Cond.stringRef RX7 q.1 q.2).before args s = true → vk_R RX7 q.1 q.2 (adK i) s := by
      intro i hi q hq h1
      have h2 := hK i hi
      have h3 : sTm i = .string RX7 q.1 := by unfold sTm; rw [List.getD_eq_getElem?_getD, hq]; rfl
      rw [h3] at h2
      exact vk_R.of h1 h2
    match k, hq with
    | 0, hq => cases hq; exact key 0 (by decide) _ rfl (in_tb hts (tb3 171 rfl))
    | 1, hq => cases hq; exact key 1 (by decide) _ rfl (in_tb hts (tb3 172 rfl))
    | 2, hq => cases hq; exact key 2 (by decide) _ rfl (in_tb hts (tb4 22 rfl))
    | 3, hq => cases hq; exact key 3 (by decide) _ rfl (in_tb hts (tb4 23 rfl))
    | 4, hq => cases hq; exact key 4 (by decide) _ rfl (in_tb hts (tb4 32 rfl))
    | 5, hq => cases hq; exact key 5 (by decide) _ rfl (in_tb hts (tb4 33 rfl))
    | 6, hq => cases hq; exact key 6 (by decide) _ rfl (in_tb hts (tb4 38 rfl))
    | 7, hq => cases hq; exact key 7 (by decide) _ rfl (in_tb hts (tb4 43 rfl))
    | 8, hq => cases hq; exact key 8 (by decide) _ rfl (in_tb hts (tb4 56 rfl))
    | 9, hq => cases hq; exact key 9 (by decide) _ rfl (in_tb hts (tb4 61 rfl))
    | 10, hq => cases hq; exact key 10 (by decide) _ rfl (in_tb hts (tb4 66 rfl))
    | k + 11, hq => simp [sTx] at hq
  · have e3 : (fun q => e_b E ≤ q) = fun q => s.heap.size ≤ q := by rw [e1]
    rw [e3]
    refine ⟨fun i hi => ?_, fun i j hi hj hij => ?_⟩
    · have h4 := hS.1 i hi
      have e4 : e_T E i = adK i := by rw [e2]; simp [show i < 98 by omega]
      have e5 : (fun k => e_T E (100 + k)) i = adV i := by rw [e2]; simp [show ¬ 100 + i < 98 by omega, show ¬ 100 + i = 98 by omega, show ¬ 100 + i = 99 by omega]
      rw [e4, e5]
      exact h4
    · have e4 : ∀ i, i < 11 → e_T E i = adK i := fun i hi => by rw [e2]; simp [show i < 98 by omega]
      rw [e4 i hi, e4 j hj] at hij
      exact hS.2 i j hi hj hij
  · rw [show (fun q => e_b E ≤ q) = fun q => s.heap.size ≤ q by rw [e1]]
    exact hcs
  · rw [show (fun q => e_b E ≤ q) = fun q => s.heap.size ≤ q by rw [e1], show tr E (.retAddr 99) = fv by rw [hfe]; unfold tr; rw [e2]; simp]
    exact hsf
