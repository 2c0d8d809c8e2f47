theorem gw_in {w : Cond} (h : w ∈ gw) : w ∈ lw_tbl := (List.mem_filter.mp h).1
/-- the classes and arrays that the tables name -/
theorem K_ex {s : State} {args : Array Value} (hts : ∀ w ∈ gw, w.before args s = true) (ho1 : va_AO "TicketHall$Text" s) (ho2 : va_AO "TicketHall$Hall" s) : ∃ (D : va_G) (aC : Nat → ClassId), va_K D vwCl [(aC 0, aty 0), (aC 1, aty 1), (aC 2, aty 2), (aC 3, aty 3), (aC 4, aty 4), (aC 5, aty 5)] s := by
  have hc : ∀ k : Nat, ∃ q : ClassId × (Nat → Nat), ∀ r : vw_C, vwCl[k]? = some r → u_Kn s r.1 r.2.1 r.2.2 q.1 q.2 := by
    have key : ∀ (C : String) (T : u_T) (N : Nat), (∀ w ∈ u_ws C T N, w ∈ gw) → Cond.instantiable C N ∈ gw → ∃ q : ClassId × (Nat → Nat), u_Kn s C T N q.1 q.2 := by
      intro C T N h1 h2
      obtain ⟨c, i, h⟩ := u_known (C := C) (T := T) (N := N) hts h1 (hts _ h2)
      exact ⟨(c, i), h⟩
    intro k
    match k with
    | 0 => obtain ⟨q, h⟩ := key _ _ _ cl_0.2.2.2.1 lc_X11_43.2.1; exact ⟨q, fun r hr => by cases hr; exact h⟩
    | 1 => obtain ⟨q, h⟩ := key _ _ _ cl_1.2.2.2.1 lc_X11_52.2.1; exact ⟨q, fun r hr => by cases hr; exact h⟩
    | 2 => obtain ⟨q, h⟩ := key _ _ _ cl_2.2.2.2.1 lc_X11_7.2.1; exact ⟨q, fun r hr => by cases hr; exact h⟩
    | 3 => obtain ⟨q, h⟩ := key _ _ _ cl_3.2.2.2.1 lc_X11_34.2.1; exact ⟨q, fun r hr => by cases hr; exact h⟩
    | 4 => obtain ⟨q, h⟩ := key _ _ _ cl_4.2.2.2.1 lc_X2_58.2.1; exact ⟨q, fun r hr => by cases hr; exact h⟩
    | 5 => obtain ⟨q, h⟩ := key _ _ _ cl_5.2.2.2.1 lc_X3_11.2.1; exact ⟨q, fun r hr => by cases hr; exact h⟩
    | 6 => obtain ⟨q, h⟩ := key _ _ _ cl_6.2.2.2.1 lc_X11_59.2.1; exact ⟨q, fun r hr => by cases hr; exact h⟩
    | 7 => obtain ⟨q, h⟩ := key _ _ _ cl_7.2.2.2.1 lc_X11_27.2.1; exact ⟨q, fun r hr => by cases hr; exact h⟩
    | 8 => obtain ⟨q, h⟩ := key _ _ _ cl_8.2.2.2.1 lc_X11_75.2.1; exact ⟨q, fun r hr => by cases hr; exact h⟩
    | 9 => obtain ⟨q, h⟩ := key _ _ _ cl_9.2.2.2.1 lc_X7_15.2.1; exact ⟨q, fun r hr => by cases hr; exact h⟩
    | 10 => obtain ⟨q, h⟩ := key _ _ _ cl_10.2.2.2.1 lc_X11_68.2.1; exact ⟨q, fun r hr => by cases hr; exact h⟩
    | 11 => obtain ⟨q, h⟩ := key _ _ _ cl_11.2.2.2.1 lc_L_7.2.1; exact ⟨q, fun r hr => by cases hr; exact h⟩
    | 12 => obtain ⟨q, h⟩ := key _ _ _ cl_12.2.2.2.1 lc_L_10.2.1; exact ⟨q, fun r hr => by cases hr; exact h⟩
    | k + 13 => exact ⟨(0, fun _ => 0), fun r hr => by simp [vwCl] at hr⟩
  obtain ⟨cf, hcf⟩ := Classical.axiomOfChoice hc
  have ha : ∀ t : Nat, ∃ cA : ClassId, t < 6 → ArrOfT s cA (aty t) ∧ va_RA s cA (aty t) := by
    have prim : ∀ ty : FieldType, Cond.arrayClass ty ∈ gw → (∀ C, ty ≠ .object C) → ∃ cA : ClassId, ArrOfT s cA ty ∧ va_RA s cA ty := by
      intro ty h1 h2
      obtain ⟨cA, kA, comp, g1, g2, g3⟩ := Cond.arrayClass_spec (hts _ h1)
      refine ⟨cA, fun n z => ⟨(fun k h => by cases h), kA, g2, comp, g3⟩, ?_⟩
      cases ty <;> first | exact g1 | exact absurd rfl (h2 _)
    have obj : ∀ C : String, va_AO C s → ∃ cA : ClassId, ArrOfT s cA (.object C) ∧ va_RA s cA (.object C) := by
      intro C h1
      obtain ⟨comp, cA, kA, g1, -, g2, g3, g4⟩ := Cond.arrayOver_spec h1
      exact ⟨cA, fun n z => ⟨(fun k h => by cases h), kA, g2, comp, g3⟩, kA, comp, g2, g3, g1, g4⟩
    intro t
    match t with
    | 0 => obtain ⟨c, h⟩ := prim _ ac_0 (fun _ h => by cases h); exact ⟨c, fun _ => h⟩
    | 1 => obtain ⟨c, h⟩ := prim _ ac_1 (fun _ h => by cases h); exact ⟨c, fun _ => h⟩
    | 2 => obtain ⟨c, h⟩ := prim _ ac_2 (fun _ h => by cases h); exact ⟨c, fun _ => h⟩
    | 3 => obtain ⟨c, h⟩ := prim _ ac_3 (fun _ h => by cases h); exact ⟨c, fun _ => h⟩
    | 4 => obtain ⟨c, h⟩ := obj _ ho1; exact ⟨c, fun _ => h⟩
    | 5 => obtain ⟨c, h⟩ := obj _ ho2; exact ⟨c, fun _ => h⟩
    | t + 6 => exact ⟨0, fun h => absurd h (by omega)⟩
  obtain ⟨af, haf⟩ := Classical.axiomOfChoice ha
  refine ⟨(fun k => (cf k).1, fun k => (cf k).2), af, fun c q hq => hcf c q hq, fun k q hq => ?_⟩
  match k, hq with
  | 0, hq => cases hq; exact haf 0 (by decide)
  | 1, hq => cases hq; exact haf 1 (by decide)
  | 2, hq => cases hq; exact haf 2 (by decide)
  | 3, hq => cases hq; exact haf 3 (by decide)
  | 4, hq => cases hq; exact haf 4 (by decide)
  | 5, hq => cases hq; exact haf 5 (by decide)
  | k + 6, hq => simp at hq
theorem W.weak {p : Program} {l : Launch} {e : Env} {R : Room} {s : State} {m : MethodId} {args : Array Value} {below : List Frame} {meth : Method} {c : Code} {H : Heap} {locs : List Loc} {cells slots : Nat} {Q Q' : State → Prop} {g : JFrame} (hq : ∀ t, Q t → Q' t) (w : W p l e R s m args below meth c H locs cells slots Q g) : W p l e R s m args below meth c H locs cells slots Q' g := by
  intro T hT X
  obtain ⟨t, a, b⟩ := w T hT X
  exact ⟨t, a, hq t b⟩
theorem same_forget {s t : State} {L : List Loc} {k n k' n' : Nat} (h : s.sameButNew t L k n) (hL : ∀ q ∈ L, s.heap.size ≤ q.base) (hk : k ≤ k') (hn : n ≤ n') : s.sameButNew t [] k' n' := by
  obtain ⟨h1, h2, h3, h4, h5, h6⟩ := h
  refine ⟨h1, h2, by omega, h4, by omega, fun a c hc => ?_⟩
  obtain ⟨c', g1, g2, g3, g4⟩ := h6 a c hc
  refine ⟨c', g1, g2, g3, fun i _ => g4 i (fun z => ?_)⟩
  have h7 := hL _ z
  have h8 : a < s.heap.size := (Array.getElem?_eq_some_iff.mp hc).1
  exact absurd h8 (Nat.not_lt.mpr h7)
def h0L (L : Nat) (xs : Nat → Int32) : AH := ([], (fun _ _ => 0), (fun _ _ => 0), (fun _ _ => none), (L, xs))
abbrev M_L_law : MT := (yL_law, cL_law, 4, ret)
