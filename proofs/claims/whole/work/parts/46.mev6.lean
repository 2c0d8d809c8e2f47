theorem C_all {h : AH} {B : Nat} {ord : Bool} {c v : Nat → Nat} {T : Nat} {w : Nat → Int32} (S : ShOK h) (R : RfOK h) (K : EK h B c v T) (E : EO h ord w) : ∀ f, CIH h B ord c v T w f := by
  intro f
  induction f with
  | zero =>
    intro md d dep i lv a i' lv' cd D live b hm hd hi hl hP
    cases hP
  | succ f ih =>
    intro md d dep i lv a i' lv' cd D live b hm hd hi hl hP
    match md, hm, hP with
    | 0, _, hP => exact C_0 S R K E ih hd hi hl hP
    | 1, _, hP => exact C_1 S R K E ih hd hi hl hP
    | 2, _, hP => exact C_2 S R K E ih hd hi hl hP
    | 3, _, hP => exact C_3 S R K E ih hd hi hl hP
    | 4, _, hP => exact C_4 S R K E ih hd hi hl hP
    | 5, _, hP => exact C_5 S R K E ih hd hi hl hP
    | 6, _, hP => exact C_6 S R K E ih hd hi hl hP
    | 7, _, hP => exact C_7 S R K E ih hd hi hl hP
    | 8, _, hP => exact C_8 S R K E ih hd hi hl hP
    | 9, _, hP => exact C_9 S R K E ih hd hi hl hP
    | 10, _, hP => exact C_10 S R K E ih hd hi hl hP
    | 11, _, hP => exact C_11 S R K E ih hd hi hl hP
