/-- the heap behind the two constructors -/
def HI0 : AH := ini_X12_init (aNew (ini_X11_init (aNew (h0L 0 (fun _ => 0)) 11 17) 0 1) 12 60) 100 101
def HI (L : Nat) (xs : Nat → Int32) : AH := ini_X12_init (aNew (ini_X11_init (aNew (h0L L xs) 11 17) 0 1) 12 60) 100 101
theorem HI_eq (L : Nat) (xs : Nat → Int32) : HI L xs = setS HI0 (L, xs) := by
  have e0 : h0L L xs = setS (h0L 0 (fun _ => 0)) (L, xs) := rfl
  have e1 : ∀ (h : AH) (S : Nat × (Nat → Int32)) (kd n : Nat), aNew (setS h S) kd n = setS (aNew h kd n) S := fun _ _ _ _ => rfl
  unfold HI HI0
  rw [e0, e1, setS_X11_init, e1, setS_X12_init]
theorem HI0_sh : HI0.1 = SH0 := by decide +kernel
def RFL : List (Nat × Nat × Nat) := (List.range 129).flatMap (fun k => (List.range ((RF0.getD k []).length)).filterMap (fun j => (rf0 k j).map (fun a => (k, j, a))))
theorem HI0_rf : RFL.all (fun q => decide (gR HI0 q.1 q.2.1 = some q.2.2)) = true := by decide +kernel
