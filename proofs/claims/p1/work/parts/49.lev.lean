/-! WHAT STANDS AT THE START: the classes. -/
section LEV
theorem lev_D {args : Array Value} {s : State} (hts : ∀ w ∈ TG, w.before args s = true) : ∃ D : va_G, ∀ (c : Nat) (q : vw_C), kCl[c]? = some q → u_Kn s q.1 q.2.1 q.2.2 (D.1 c) (D.2 c) := by
  have h : ∀ c : Nat, ∃ x : ClassId × (Nat → Nat), ∀ q : vw_C, kCl[c]? = some q → u_Kn s q.1 q.2.1 q.2.2 x.1 x.2 := by
    intro c
    match c with
    | 0 => obtain ⟨cC, iS, hk⟩ := u_known hts kOk_1.1 (hts _ ibButtonReef_CommandText); exact ⟨(cC, iS), fun q hq => by cases hq; exact hk⟩
    | 1 => obtain ⟨cC, iS, hk⟩ := u_known hts kOk_2.1 (hts _ ibButtonReef_History); exact ⟨(cC, iS), fun q hq => by cases hq; exact hk⟩
    | 2 => obtain ⟨cC, iS, hk⟩ := u_known hts kOk_3.1 (hts _ ibButtonReef_Islands); exact ⟨(cC, iS), fun q hq => by cases hq; exact hk⟩
    | 3 => obtain ⟨cC, iS, hk⟩ := u_known hts kOk_4.1 (hts _ ibButtonReef_Output); exact ⟨(cC, iS), fun q hq => by cases hq; exact hk⟩
    | 4 => obtain ⟨cC, iS, hk⟩ := u_known hts kOk_7.1 (hts _ ibButtonReef_Sea); exact ⟨(cC, iS), fun q hq => by cases hq; exact hk⟩
    | 5 => obtain ⟨cC, iS, hk⟩ := u_known hts kOk_8.1 (hts _ ibButtonReef_State); exact ⟨(cC, iS), fun q hq => by cases hq; exact hk⟩
    | 6 => obtain ⟨cC, iS, hk⟩ := u_known hts kOk_10.1 (hts _ ibButtonReef); exact ⟨(cC, iS), fun q hq => by cases hq; exact hk⟩
    | 7 => obtain ⟨cC, iS, hk⟩ := u_known hts kOk_11.1 (hts _ ibButtonReefModel); exact ⟨(cC, iS), fun q hq => by cases hq; exact hk⟩
    | n + 8 => obtain ⟨cC, iS, hk⟩ := u_known hts kOk_11.1 (hts _ ibButtonReefModel); exact ⟨(cC, iS), fun q hq => by cases hq⟩
  exact ⟨(fun c => (h c).choose.1, fun c => (h c).choose.2), fun c q hq => (h c).choose_spec q hq⟩
theorem lev_p {args : Array Value} {s : State} {ty : FieldType} (h : (Cond.arrayClass ty).before args s = true) : ∃ c : ClassId, ArrOfT s c ty ∧ s.vm.findClass ("[" ++ ty.toString) = some c := by
  obtain ⟨c, k, comp, h1, h2, h3⟩ := Cond.arrayClass_spec h
  exact ⟨c, fun n z => ⟨fun k h => (by cases h), k, h2, comp, h3⟩, h1⟩
theorem lev_T {args : Array Value} {s : State} (hts : ∀ w ∈ TG, w.before args s = true) (ho : (Cond.arrayOver (.object "ButtonReef$State")).before args s = true) : ∃ C : Nat → ClassId, ∀ (k : Nat) (q : ClassId × FieldType), [(C 0, FieldType.int), (C 1, FieldType.char), (C 2, FieldType.long), (C 3, FieldType.double), (C 4, FieldType.object "ButtonReef$State")][k]? = some q → ArrOfT s q.1 q.2 ∧ va_RA s q.1 q.2 := by
  obtain ⟨c0, a0, b0⟩ := lev_p (hts _ ac_int)
  obtain ⟨c1, a1, b1⟩ := lev_p (hts _ ac_char)
  obtain ⟨c2, a2, b2⟩ := lev_p (hts _ ac_long)
  obtain ⟨c3, a3, b3⟩ := lev_p (hts _ ac_double)
  obtain ⟨comp, c4, k4, d1, -, d2, d3, d4⟩ := Cond.arrayOver_spec ho
  refine ⟨fun k => match k with | 0 => c0 | 1 => c1 | 2 => c2 | 3 => c3 | _ => c4, fun k q hq => ?_⟩
  match k, hq with
  | 0, hq => cases hq; exact ⟨a0, b0⟩
  | 1, hq => cases hq; exact ⟨a1, b1⟩
  | 2, hq => cases hq; exact ⟨a2, b2⟩
  | 3, hq => cases hq; exact ⟨a3, b3⟩
  | 4, hq => cases hq; exact ⟨fun n z => ⟨fun k h => (by cases h), k4, d2, comp, d3⟩, k4, comp, d2, d3, d1, d4⟩
  | n + 5, hq => cases hq
theorem lm_Nm : ∀ q ∈ cNm, Cond.methodLinkNest q.1 q.2.1 q.2.2.1 q.2.2.2 ∈ lw_tbl := by decide +kernel
theorem lm_Nf : ∀ q ∈ cNf, Cond.fieldLinkNest q.1 q.2.1 q.2.2.1 q.2.2.2.1 q.2.2.2.2.1 q.2.2.2.2.2 ∈ lw_tbl := by decide +kernel
theorem lm_Nc : ∀ q ∈ cNc, Cond.castable q.1 q.2 ∈ lw_tbl := by decide +kernel
theorem lm_Nd : ∀ q ∈ cNd, Cond.declares q ∈ lw_tbl := by decide +kernel
theorem lm_ao : Cond.arrayOver (.object "ButtonReef$State") ∈ lw_tbl := by decide +kernel
theorem lm_tg : ∀ w ∈ TG, w ∈ lw_tbl := fun w h => (List.mem_filter.mp h).1
end LEV
