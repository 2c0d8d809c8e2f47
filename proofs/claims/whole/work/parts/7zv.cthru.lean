/-- what running all leaves -/
def ThQ (h : AH) (fl : Option (List CLE)) (np nt nl : Nat) (LSs : Nat → List CLE) (fx : Int32) (LS : List CLE) (q : Except Nat OS) (r : Option Value) (h' : AH) : Prop := Fr orX h h' ∧ match q with
  | .error n => r = some (.int (nI n)) ∧ ShOK h' ∧ RfOK h'
  | .ok s => r = some (.int (-1)) ∧ OrC h' fl np nt nl LSs fx LS s
section Th
variable (d : Nat) {h0 : AH} {fl : Option (List CLE)} {np nt nl : Nat} {LSs : Nat → List CLE} {fx : Int32} {LS : List CLE}
/-- one clause, some times -/
theorem thru31 {P : Option Value → AH → Prop} (hF : fl = flO nl LSs fx) {m : Nat} {e : CLE} (he : LS[m]? = some e) {tm : Nat} (htm : tm ≤ 20) (hm : m < 13) : ∀ (n i N : Nat) (s : OS) (g : AH), i + n = tm → OrC g fl np nt nl LSs fx LS s → OSK np nt N s → N + n ≤ 500 → Fr orX h0 g → (∀ s' g', orT fl np nt e.2.2.2.2 n s = some s' → OrC g' fl np nt nl LSs fx LS s' → OSK np nt (N + n) s' → Fr orX h0 g' → Rp (d + 6) M_X8_through 56 [some (.ref 63), some (.ref 1), some (.ref 37), some (.int (nI m)), some (.int (nI tm)), some (.int (nI tm))] [] g' P) → (orT fl np nt e.2.2.2.2 n s = none → ∀ g i, Fr orX h0 g → ShOK g → RfOK g → Rp (d + 6) M_X8_through 48 [some (.ref 63), some (.ref 1), some (.ref 37), some (.int (nI m)), some (.int (nI tm)), some (.int (nI i))] [] g P) → Rp (d + 6) M_X8_through 31 [some (.ref 63), some (.ref 1), some (.ref 37), some (.int (nI m)), some (.int (nI tm)), some (.int (nI i))] [] g P := by
  intro n
  induction n with
  | zero =>
    intro i N s g hi C hO hN F kk kb
    have e : i = tm := by omega
    subst e
    have k1 := kk s g rfl C hO F
    refine Rp.iload dX8_through_31 rfl ?_
    refine Rp.iload dX8_through_33 rfl ?_
    first | ((with_reducible show Rp _ _ _ _ (.int (nI _) :: .int (nI _) :: _) _ _); refine Rp.icmp_geN (tgt := 56) dX8_through_35 (by decide) (by omega) (fun c35 => ?_) (fun c35 => ?_)) | refine Rp.icmp_ge (tgt := 56) dX8_through_35 (by decide) (fun c35 => ?_) (fun c35 => ?_)
    · skip
      exact k1
    · skip
      first | (exfalso; omega) | exact absurd c35 (by decide) | exact absurd (by decide) c35
  | succ n ih =>
    intro i N s g hi C hO hN F kk kb
    have S := C.1
    have on := t_once d C hF hO (by omega) he
    match hq : orS fl np nt e.2.2.2.2 s with
    | none =>
      rw [hq] at on
      have hT : orT fl np nt e.2.2.2.2 (n + 1) s = none := by rw [orT, hq]
      refine Rp.iload dX8_through_31 rfl ?_
      refine Rp.iload dX8_through_33 rfl ?_
      first | ((with_reducible show Rp _ _ _ _ (.int (nI _) :: .int (nI _) :: _) _ _); refine Rp.icmp_geN (tgt := 56) dX8_through_35 (by decide) (by omega) (fun c35 => ?_) (fun c35 => ?_)) | refine Rp.icmp_ge (tgt := 56) dX8_through_35 (by decide) (fun c35 => ?_) (fun c35 => ?_)
      · skip
        first | (exfalso; omega) | exact absurd c35 (by decide) | exact absurd (by decide) c35
      · skip
        refine Rp.aload_n dX8_through_38 rfl rfl ?_
        refine Rp.aload_n dX8_through_39 rfl rfl ?_
        refine Rp.aload_n dX8_through_40 rfl rfl ?_
        refine Rp.iload_n dX8_through_41 rfl ?_
        refine Rp.callV3 M_X8_once (ci := 8) dX8_through_42 mo_X8_once lk_X8_39 (by decide) rfl rfl (S _ _ rfl) (Nat.le_of_ble_eq_true rfl) (Nat.le_of_ble_eq_true rfl) (on) (fun v1 h1 p1 x1 => ?_)
        obtain ⟨F1, rfl, S1, R1⟩ := p1
        try dsimp only [Option.toList, List.cons_append, List.nil_append, List.append]
        first | ((with_reducible show Rp _ _ _ _ (.int (b2i _) :: _) _ _); refine Rp.if_neB (tgt := 50) dX8_through_45 (by decide) (fun c45 => ?_) (fun c45 => ?_)) | ((with_reducible show Rp _ _ _ _ (.int (nI _) :: _) _ _); refine Rp.if_neN (tgt := 50) dX8_through_45 (by decide) (by omega) (fun c45 => ?_) (fun c45 => ?_)) | refine Rp.if_ne (tgt := 50) dX8_through_45 (by decide) (fun c45 => ?_) (fun c45 => ?_)
        · skip
          cases c45
        · skip
          exact kb hT _ i (F.trans F1) S1 R1
    | some s1 =>
      rw [hq] at on
      have hT : orT fl np nt e.2.2.2.2 (n + 1) s = orT fl np nt e.2.2.2.2 n s1 := by rw [orT, hq]
      rw [hT] at kk kb
      have hO1 := (orS_k hO hq).1
      refine Rp.iload dX8_through_31 rfl ?_
      refine Rp.iload dX8_through_33 rfl ?_
      first | ((with_reducible show Rp _ _ _ _ (.int (nI _) :: .int (nI _) :: _) _ _); refine Rp.icmp_geN (tgt := 56) dX8_through_35 (by decide) (by omega) (fun c35 => ?_) (fun c35 => ?_)) | refine Rp.icmp_ge (tgt := 56) dX8_through_35 (by decide) (fun c35 => ?_) (fun c35 => ?_)
      · first | (exfalso; omega) | exact absurd c35 (by decide) | exact absurd (by decide) c35
      refine Rp.aload_n dX8_through_38 rfl rfl ?_
      refine Rp.aload_n dX8_through_39 rfl rfl ?_
      refine Rp.aload_n dX8_through_40 rfl rfl ?_
      refine Rp.iload_n dX8_through_41 rfl ?_
      refine Rp.callV3 M_X8_once (ci := 8) dX8_through_42 mo_X8_once lk_X8_39 (by decide) rfl rfl (S _ _ rfl) (Nat.le_of_ble_eq_true rfl) (Nat.le_of_ble_eq_true rfl) (on) (fun v1 h1 p1 x1 => ?_)
      obtain ⟨F1, rfl, C1⟩ := p1
      try dsimp only [Option.toList, List.cons_append, List.nil_append, List.append]
      first | ((with_reducible show Rp _ _ _ _ (.int (b2i _) :: _) _ _); refine Rp.if_neB (tgt := 50) dX8_through_45 (by decide) (fun c45 => ?_) (fun c45 => ?_)) | ((with_reducible show Rp _ _ _ _ (.int (nI _) :: _) _ _); refine Rp.if_neN (tgt := 50) dX8_through_45 (by decide) (by omega) (fun c45 => ?_) (fun c45 => ?_)) | refine Rp.if_ne (tgt := 50) dX8_through_45 (by decide) (fun c45 => ?_) (fun c45 => ?_)
      rotate_left
      · cases c45
      skip
      have k1 := ih (i + 1) (N + 1) s1 h1 (by omega) C1 hO1 (by omega) (F.trans F1) (fun s' g' e1 C' O' F' => kk s' g' e1 C' (by rw [show N + (n + 1) = N + 1 + n by omega]; exact O') F') kb
      first | ((with_reducible show Rp _ _ _ (_ :: _ :: _ :: _ :: _ :: some (.int (nI _)) :: _) _ _ _); refine Rp.inc5N (c := 1) dX8_through_50 (by first | exact nl2_some rfl | exact nl2_none) (by decide) ?_) | refine Rp.inc5 _ dX8_through_50 rfl (by first | exact nl2_some rfl | exact nl2_none) (by decide) ?_
      refine Rp.goto (tgt := 31) dX8_through_53 (by decide) ?_
      exact k1
end Th
