/-! BALANCED TOTALS: what keeps them. -/
section BAL
theorem nbt_up {C : Nat → Nat} {k v : Nat} (hk : k < 64) : nbt (up C k v) + (if C k = 0 then 0 else 1) = nbt C + (if v = 0 then 0 else 1) := by
  have h : ∀ n, k < n → sm (fun j => if up C k v j = 0 then 0 else 1) n + (if C k = 0 then 0 else 1) = sm (fun j => if C j = 0 then 0 else 1) n + (if v = 0 then 0 else 1) := by
    intro n
    induction n with
    | zero => intro h; omega
    | succ n ih =>
      intro h
      show sm _ n + (if up C k v n = 0 then 0 else 1) + _ = sm _ n + (if C n = 0 then 0 else 1) + _
      by_cases e : k = n
      · subst e
        rw [show up C k v k = v from if_pos rfl, sm_congr (f := fun j => if up C k v j = 0 then 0 else 1) (g := fun j => if C j = 0 then 0 else 1) k fun j hj => by show (if up C k v j = 0 then 0 else 1) = _; rw [show up C k v j = C j from if_neg (by omega)]]
        omega
      · have h1 := ih (by omega)
        rw [show up C k v n = C n from if_neg (fun q => e q.symm)]
        omega
  exact h 64 hk
theorem i32_a (a b c d n : Int32) (h : a + b - c - d = n) : (a + 1) + b - c - d = n + 1 := by grind
theorem i32_b (a b c d n : Int32) (h : a + b - c - d = n) : a + (b + 1) - c - d = n + 1 := by grind
theorem i32_c (a b c d n : Int32) (h : a + b - c - d = n + 1) : a + b - (c + 1) - d = n := by grind
theorem i32_d (a b c d n : Int32) (h : a + b - c - d = n + 1) : a + b - c - (d + 1) = n := by grind
theorem Bal.placed {s : St} {k v : Nat} (h : Bal s) (hk : k < 64) (h0 : s.1 k = 0) (hv : v ≠ 0) : Bal (sCnt (sPut s k v) 1 (nI 1)) := by
  have e := nbt_up (C := s.1) (v := v) hk
  rw [if_pos h0, if_neg hv] at e
  show bump s.2.2 1 (nI 1) 1 + bump s.2.2 1 (nI 1) 3 - bump s.2.2 1 (nI 1) 2 - bump s.2.2 1 (nI 1) 5 = nI (nbt (up s.1 k v))
  rw [show nbt (up s.1 k v) = nbt s.1 + 1 by omega, ← nI_add, show nI 1 = 1 from rfl]
  exact i32_a _ _ _ _ _ h
theorem Bal.born {s : St} {k v : Nat} (h : Bal s) (hk : k < 64) (h0 : s.1 k = 0) (hv : v ≠ 0) : Bal (sCnt (sPut s k v) 3 (nI 1)) := by
  have e := nbt_up (C := s.1) (v := v) hk
  rw [if_pos h0, if_neg hv] at e
  show bump s.2.2 3 (nI 1) 1 + bump s.2.2 3 (nI 1) 3 - bump s.2.2 3 (nI 1) 2 - bump s.2.2 3 (nI 1) 5 = nI (nbt (up s.1 k v))
  rw [show nbt (up s.1 k v) = nbt s.1 + 1 by omega, ← nI_add, show nI 1 = 1 from rfl]
  exact i32_b _ _ _ _ _ h
theorem Bal.removed {s : St} {k : Nat} (h : Bal s) (hk : k < 64) (h0 : s.1 k ≠ 0) : Bal (sCnt (sPut s k 0) 2 (nI 1)) := by
  have e := nbt_up (C := s.1) (v := 0) hk
  rw [if_neg h0, if_pos rfl] at e
  show bump s.2.2 2 (nI 1) 1 + bump s.2.2 2 (nI 1) 3 - bump s.2.2 2 (nI 1) 2 - bump s.2.2 2 (nI 1) 5 = nI (nbt (up s.1 k 0))
  have h2 : s.2.2 1 + s.2.2 3 - s.2.2 2 - s.2.2 5 = nI (nbt s.1) := h
  rw [show nbt s.1 = nbt (up s.1 k 0) + 1 by omega, ← nI_add, show nI 1 = 1 from rfl] at h2
  exact i32_c _ _ _ _ _ h2
theorem Bal.washed {s : St} {k : Nat} (h : Bal s) (hk : k < 64) (h0 : s.1 k ≠ 0) : Bal (sCnt (sPut s k 0) 5 (nI 1)) := by
  have e := nbt_up (C := s.1) (v := 0) hk
  rw [if_neg h0, if_pos rfl] at e
  show bump s.2.2 5 (nI 1) 1 + bump s.2.2 5 (nI 1) 3 - bump s.2.2 5 (nI 1) 2 - bump s.2.2 5 (nI 1) 5 = nI (nbt (up s.1 k 0))
  have h2 : s.2.2 1 + s.2.2 3 - s.2.2 2 - s.2.2 5 = nI (nbt s.1) := h
  rw [show nbt s.1 = nbt (up s.1 k 0) + 1 by omega, ← nI_add, show nI 1 = 1 from rfl] at h2
  exact i32_d _ _ _ _ _ h2
theorem Bal.same {s : St} {k v : Nat} (h : Bal s) (hk : k < 64) (h0 : s.1 k ≠ 0) (hv : v ≠ 0) : Bal (sPut s k v) := by
  have e := nbt_up (C := s.1) (v := v) hk
  rw [if_neg h0, if_neg hv] at e
  show s.2.2 1 + s.2.2 3 - s.2.2 2 - s.2.2 5 = nI (nbt (up s.1 k v))
  rw [show nbt (up s.1 k v) = nbt s.1 by omega]
  exact h
theorem Bal.cnt0 {s : St} {n : Int32} {j : Nat} (h : Bal s) (hj : j = 0 ∨ j = 4) : Bal (sCnt s j n) := by
  rcases hj with rfl | rfl <;> exact h
theorem Bal.pale {s : St} {k : Nat} (h : Bal s) (hk : k < 64) (h0 : s.1 k ≠ 0) : Bal (sCnt (sPut s k 1) 4 (nI 1)) := (h.same hk h0 (by decide)).cnt0 (Or.inr rfl)
theorem tidP_step {s : St} {i : Nat} (hi : i < 64) (hok : ∀ k, k < 64 → okc (s.1 k)) (h : Bal (tidP s i)) : Bal (tidP s (i + 1)) := by
  have h0 := hok i hi
  have ha := @tid_at s i
  unfold okc at h0
  by_cases hc : chg s i = true
  · rcases h0 with h0 | h0 | h0
    · rw [← tid_born h0 hc]
      have := most_ok hi hok (chg_born h0 hc)
      exact h.born hi (by rw [ha]; exact h0) (by omega)
    · rw [← tid_wash (by omega) hc]
      exact h.washed hi (by rw [ha]; omega)
    · rw [← tid_pale h0.1 hc]
      exact h.pale hi (by rw [ha]; omega)
  · rcases h0 with h0 | h0 | h0
    · rw [← tid_none (Or.inl h0) hc]; exact h
    · rw [← tid_none (Or.inr h0) hc]; exact h
    · rw [← tid_old h0.1 hc]
      refine h.same hi (by rw [ha]; omega) ?_
      rw [ha]
      unfold older
      split <;> omega
theorem Bal.tide {s : St} (h : Bal s) (hok : ∀ k, k < 64 → okc (s.1 k)) : Bal (tide s) := by
  have : ∀ i, i ≤ 64 → Bal (tidP s i) := by
    intro i
    induction i with
    | zero => intro _; rw [tidP_0]; exact h
    | succ i ih => intro hi; exact tidP_step (by omega) hok (ih (by omega))
  exact (this 64 (by omega)).cnt0 (Or.inl rfl)
theorem nextc_ok {s : St} {k : Nat} (hk : k < 64) (hok : ∀ k, k < 64 → okc (s.1 k)) : okc (nextc s k) := by
  have h0 := hok k hk
  unfold nextc
  split
  · next h =>
    split
    · next hc => have := most_ok hk hok (chg_born h hc); unfold okc; omega
    · exact Or.inl rfl
  · split
    · split
      · exact Or.inl rfl
      · exact Or.inr (Or.inl rfl)
    · next h h2 =>
      split
      · exact Or.inr (Or.inl rfl)
      · exact (older_ok h0 (by unfold okc at h0; omega)).1
theorem tide_ok {s : St} (hok : ∀ k, k < 64 → okc (s.1 k)) : ∀ k, k < 64 → okc ((tide s).1 k) := fun k hk => by
  show okc (if k < 64 then nextc s k else s.1 k)
  rw [if_pos hk]; exact nextc_ok hk hok
theorem tideN_ok {s : St} (hok : ∀ k, k < 64 → okc (s.1 k)) : ∀ n, ∀ k, k < 64 → okc ((tideN s n).1 k) := by
  intro n
  induction n with
  | zero => exact hok
  | succ n ih => exact tide_ok ih
theorem Bal.tideN {s : St} (h : Bal s) (hok : ∀ k, k < 64 → okc (s.1 k)) : ∀ n, Bal (tideN s n) := by
  intro n
  induction n with
  | zero => exact h
  | succ n ih => exact ih.tide (tideN_ok hok n)
/-- a pattern's cells ascend -/
theorem pdg_asc {p : Nat} (hp : p < 4) : ∀ i j, j < psz p → i < j → (pdg p (2 * i) < pdg p (2 * j) ∨ (pdg p (2 * i) = pdg p (2 * j) ∧ pdg p (2 * i + 1) < pdg p (2 * j + 1))) := fun i j h1 h2 =>
  pt_cases (P := fun p => ∀ j, j < psz p → ∀ i, i < j → (pdg p (2 * i) < pdg p (2 * j) ∨ (pdg p (2 * i) = pdg p (2 * j) ∧ pdg p (2 * i + 1) < pdg p (2 * j + 1)))) (by decide +kernel) (by decide +kernel) (by decide +kernel) (by decide +kernel) hp j h1 i h2
theorem pcl_asc {p r c i j : Nat} (hp : p < 4) (hin : ∀ k, k < psz p → pin p r c k = true) (hj : j < psz p) (hij : i < j) : pcl p r c i < pcl p r c j := by
  have h1 := pdg_asc hp i j hj hij
  have h2 := of_decide_eq_true (hin i (by omega))
  have h3 := of_decide_eq_true (hin j hj)
  unfold pcl
  omega
theorem plt_at {s : St} {p r c q : Nat} (hp : p < 4) (hin : ∀ k, k < psz p → pin p r c k = true) : ∀ i, ∀ j, i ≤ j → j < psz p → (plt s p r c q i).1 (pcl p r c j) = s.1 (pcl p r c j) := by
  intro i
  induction i with
  | zero => intro j _ _; rfl
  | succ i ih =>
    intro j h1 h2
    show up (plt s p r c q i).1 (pcl p r c i) _ (pcl p r c j) = _
    have := pcl_asc hp hin h2 (show i < j by omega)
    rw [show up (plt s p r c q i).1 (pcl p r c i) (10 + 10 * (q - 97) + 0) (pcl p r c j) = (plt s p r c q i).1 (pcl p r c j) from if_neg (by omega)]
    exact ih j (by omega) h2
theorem fti_all {C : Nat → Nat} {p r c : Nat} : ∀ i, ftk C p r c i = none → ∀ k, k < i → C (pcl p r c k) = 0 := by
  intro i
  induction i with
  | zero => intro _ k hk; omega
  | succ i ih =>
    intro h k hk
    cases e : ftk C p r c i with
    | some x => rw [ftk_mono e 1] at h; cases h
    | none =>
      by_cases hc : C (pcl p r c i) = 0
      · by_cases z : k = i
        · rw [z]; exact hc
        · exact ih e k (by omega)
      · rw [ftk_new e hc] at h; cases h
theorem fti_neg {C : Nat → Nat} {p r c : Nat} (h : fti C p r c < 0) : ∀ k, k < psz p → C (pcl p r c k) = 0 := by
  refine fti_all (psz p) ?_
  cases e : ftk C p r c (psz p) with
  | none => rfl
  | some x =>
    unfold fti at h
    rw [e] at h
    have h2 : (x : Int) < 0 := h
    omega
theorem Bal.plt {s : St} {p r c q : Nat} (h : Bal s) (hp : p < 4) (hin : ∀ k, k < psz p → pin p r c k = true) (h0 : ∀ k, k < psz p → s.1 (pcl p r c k) = 0) : ∀ i, i ≤ psz p → Bal (plt s p r c q i) := by
  intro i
  induction i with
  | zero => intro _; exact h
  | succ i ih =>
    intro hi
    exact (ih (by omega)).placed (pci_in (hin i (by omega))).2 (by rw [plt_at hp hin i i (Nat.le_refl i) (by omega)]; exact h0 i (by omega)) (by omega)
/-- the buttons by kinds -/
theorem nbt_kinds {C : Nat → Nat} (hok : ∀ k, k < 64 → okc (C k)) : nbt C = cnt C 35 + cnt C 97 + cnt C 98 + cnt C 99 + cnt C 100 := by
  unfold nbt cnt
  rw [← sm_add, ← sm_add, ← sm_add, ← sm_add]
  refine sm_congr 64 fun k hk8 => ?_
  have h := hok k hk8
  have h1 := kc_live h
  have h2 := kc_pale h
  have h3 := kc_none h
  have h4 := @kc_vals (C k)
  unfold okc at h
  unfold hk
  by_cases e0 : C k = 0
  · have e1 : kc (C k) = 0 := h3.mpr e0
    simp [e0, e1]
    simp [e0] at e1
    simp [e1]
  · rw [if_neg e0]
    by_cases e1 : C k = 1
    · have e2 : kc (C k) = 35 := h2.mpr e1
      simp [e2]
    · have e2 := h1.mpr (by omega)
      have e3 : kc (C k) = 97 ∨ kc (C k) = 98 ∨ kc (C k) = 99 ∨ kc (C k) = 100 := by omega
      rcases e3 with e3 | e3 | e3 | e3 <;> simp [e3]
end BAL
