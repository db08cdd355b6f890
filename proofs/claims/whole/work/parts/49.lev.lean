/-! WHAT STANDS AT THE START: the classes. -/
section LEV
theorem lev_D {args : Array Value} {s : State} (hts : ∀ w ∈ TG, w.before args s = true) : ∃ D : va_G, ∀ (c : Nat) (q : vw_C), kCl[c]? = some q → u_Kn s q.1 q.2.1 q.2.2 (D.1 c) (D.2 c) := by
  have h : ∀ c : Nat, ∃ x : ClassId × (Nat → Nat), ∀ q : vw_C, kCl[c]? = some q → u_Kn s q.1 q.2.1 q.2.2 x.1 x.2 := by
    intro c
    match c with
    | 0 => obtain ⟨cC, iS, hk⟩ := u_known hts kOk_1.1 (hts _ ibButtonReef_CommandText); exact ⟨(cC, iS), fun q hq => by cases hq; exact hk⟩
    | 1 => obtain ⟨cC, iS, hk⟩ := u_known hts kOk_2.1 (hts _ ibButtonReef_History); exact ⟨(cC, iS), fun q hq => by cases hq; exact hk⟩
    | 2 => obtain ⟨cC, iS, hk⟩ := u_known hts kOk_3.1 (hts _ ibButtonReef_Islands); exact ⟨(cC, iS), fun q hq => by cases hq; exact hk⟩
    | 3 => obtain ⟨cC, iS, hk⟩ := u_known hts kOk_4.1 (hts _ ibButtonReef_Output); exact ⟨(cC, iS), fun q hq => by cases hq; exact hk⟩
    | 4 => obtain ⟨cC, iS, hk⟩ := u_known hts kOk_7.1 (hts _ ibButtonReef_Sea); exact ⟨(cC, iS), fun q hq => by cases hq; exact hk⟩
    | 5 => obtain ⟨cC, iS, hk⟩ := u_known hts kOk_8.1 (hts _ ibButtonReef_State); exact ⟨(cC, iS), fun q hq => by cases hq; exact hk⟩
    | 6 => obtain ⟨cC, iS, hk⟩ := u_known hts kOk_10.1 (hts _ ibButtonReef); exact ⟨(cC, iS), fun q hq => by cases hq; exact hk⟩
    | 7 => obtain ⟨cC, iS, hk⟩ := u_known hts kOk_11.1 (hts _ ibButtonReefModel); exact ⟨(cC, iS), fun q hq => by cases hq; exact hk⟩
    | n + 8 => obtain ⟨cC, iS, hk⟩ := u_known hts kOk_11.1 (hts _ ibButtonReefModel); exact ⟨(cC, iS), fun q hq => by cases hq⟩
  exact ⟨(fun c => (h c).choose.1, fun c => (h c).choose.2), fun c q hq => (h c).choose_spec q hq⟩
end LEV
