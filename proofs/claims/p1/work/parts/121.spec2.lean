/-! WHAT CHANGES A STATE: a cell put, a counter raised, the rule's tables, a tide. -/
section SPEC2
def up (C : Nat → Nat) (k v : Nat) : Nat → Nat := fun j => if j = k then v else C j
def bump (t : Nat → Int32) (j : Nat) (n : Int32) : Nat → Int32 := fun i => if i = j then t i + n else t i
def sPut (s : St) (k v : Nat) : St := (up s.1 k v, s.2)
def sCnt (s : St) (j : Nat) (n : Int32) : St := (s.1, s.2.1, bump s.2.2 j n)
def InSt (a b : Nat) : Prop := a ≤ b ∧ b ≤ a + 2
abbrev FrS (a : Nat) : Wd → Wd → Prop := Fr (InSt a)
theorem Repr.put {w : Wd} {a k v : Nat} {s : St} (hR : Repr w a s) (hk : k < 64) (hv : okc v) : Repr (pI (pI w (a + 1) k (nI (kc v))) (a + 2) k (nI (ag v))) a (sPut s k v) := by
  refine ⟨hR.1, fun j hj => ?_, fun j hj => ?_, fun j hj => ?_, hR.2.2.2.2.1, ?_, fun j hj => ?_⟩
  · show okc (up s.1 k v j)
    unfold up
    split
    · exact hv
    · exact hR.2.1 j hj
  · show _ = nI (kc (up s.1 k v j))
    rw [gI_pI, if_neg (by omega), gI_pI]
    unfold up
    by_cases e : j = k
    · rw [if_pos ⟨rfl, e⟩, if_pos e]
    · rw [if_neg (fun q => e q.2), if_neg e]; exact hR.2.2.1 j hj
  · show _ = nI (ag (up s.1 k v j))
    rw [gI_pI]
    unfold up
    by_cases e : j = k
    · rw [if_pos ⟨rfl, e⟩, if_pos e]
    · rw [if_neg (fun q => e q.2), if_neg e, gI_pI, if_neg (by omega)]; exact hR.2.2.2.1 j hj
  · rw [gR_pI, gR_pI]; exact hR.2.2.2.2.2.1
  · rw [gI_pI, if_neg (by omega), gI_pI, if_neg (by omega)]; exact hR.2.2.2.2.2.2 j hj
theorem Repr.kind {w : Wd} {a k v : Nat} {s : St} {x : Int32} (hR : Repr w a s) (hk : k < 64) (hv : okc v) (hx : x = nI (kc v)) (hg : ag v = ag (s.1 k)) : Repr (pI w (a + 1) k x) a (sPut s k v) := by
  subst hx
  refine ⟨hR.1, fun j hj => ?_, fun j hj => ?_, fun j hj => ?_, hR.2.2.2.2.1, ?_, fun j hj => ?_⟩
  · show okc (up s.1 k v j)
    unfold up
    split
    · exact hv
    · exact hR.2.1 j hj
  · show _ = nI (kc (up s.1 k v j))
    rw [gI_pI]
    unfold up
    by_cases e : j = k
    · rw [if_pos ⟨rfl, e⟩, if_pos e]
    · rw [if_neg (fun q => e q.2), if_neg e]; exact hR.2.2.1 j hj
  · show _ = nI (ag (up s.1 k v j))
    rw [gI_pI, if_neg (by omega)]
    unfold up
    by_cases e : j = k
    · rw [if_pos e, hg, ← e]; exact hR.2.2.2.1 j hj
    · rw [if_neg e]; exact hR.2.2.2.1 j hj
  · rw [gR_pI]; exact hR.2.2.2.2.2.1
  · rw [gI_pI, if_neg (by omega)]; exact hR.2.2.2.2.2.2 j hj
theorem Repr.age {w : Wd} {a k v : Nat} {s : St} {x : Int32} (hR : Repr w a s) (hk : k < 64) (hv : okc v) (hx : x = nI (ag v)) (hg : kc v = kc (s.1 k)) : Repr (pI w (a + 2) k x) a (sPut s k v) := by
  subst hx
  refine ⟨hR.1, fun j hj => ?_, fun j hj => ?_, fun j hj => ?_, hR.2.2.2.2.1, ?_, fun j hj => ?_⟩
  · show okc (up s.1 k v j)
    unfold up
    split
    · exact hv
    · exact hR.2.1 j hj
  · show _ = nI (kc (up s.1 k v j))
    rw [gI_pI, if_neg (by omega)]
    unfold up
    by_cases e : j = k
    · rw [if_pos e, hg, ← e]; exact hR.2.2.1 j hj
    · rw [if_neg e]; exact hR.2.2.1 j hj
  · show _ = nI (ag (up s.1 k v j))
    rw [gI_pI]
    unfold up
    by_cases e : j = k
    · rw [if_pos ⟨rfl, e⟩, if_pos e]
    · rw [if_neg (fun q => e q.2), if_neg e]; exact hR.2.2.2.1 j hj
  · rw [gR_pI]; exact hR.2.2.2.2.2.1
  · rw [gI_pI, if_neg (by omega)]; exact hR.2.2.2.2.2.2 j hj
theorem Repr.cnt {w : Wd} {a j : Nat} {s : St} {n x : Int32} (hR : Repr w a s) (hj : j < 6) (hx : x = s.2.2 j + n) : Repr (pI w a (3 + j) x) a (sCnt s j n) := by
  subst hx
  refine ⟨hR.1, hR.2.1, fun i hi => ?_, fun i hi => ?_, hR.2.2.2.2.1, ?_, fun i hi => ?_⟩
  · rw [gI_pI, if_neg (by omega)]; exact hR.2.2.1 i hi
  · rw [gI_pI, if_neg (by omega)]; exact hR.2.2.2.1 i hi
  · rw [gR_pI]; exact hR.2.2.2.2.2.1
  · show _ = bump s.2.2 j n i
    rw [gI_pI]
    unfold bump
    by_cases e : i = j
    · rw [if_pos ⟨rfl, by omega⟩, if_pos e, e]
    · rw [if_neg (by omega), if_neg e]; exact hR.2.2.2.2.2.2 i hi
theorem Repr.rule {w : Wd} {a r : Nat} {s : St} (hR : Repr w a s) (hr : r < 3) : Repr (pR w a 2 (some (1000 + r))) a (s.1, r, s.2.2) := by
  refine ⟨hR.1, hR.2.1, fun i hi => ?_, fun i hi => ?_, hr, ?_, fun i hi => ?_⟩
  · rw [gI_pR]; exact hR.2.2.1 i hi
  · rw [gI_pR]; exact hR.2.2.2.1 i hi
  · rw [gR_pR, if_pos ⟨rfl, rfl⟩]
  · rw [gI_pR]; exact hR.2.2.2.2.2.2 i hi
/-- a State whose cells nothing changed -/
theorem Repr.keep {w w1 : Wd} {a : Nat} {s : St} {P : Nat → Prop} (hR : Repr w a s) (hF : Fr P w w1) (h0 : ¬ P a) (h1 : ¬ P (a + 1)) (h2 : ¬ P (a + 2)) : Repr w1 a s :=
  ⟨hR.1, hR.2.1, fun k hk => by rw [hF.gi h1]; exact hR.2.2.1 k hk, fun k hk => by rw [hF.gi h2]; exact hR.2.2.2.1 k hk, hR.2.2.2.2.1, by rw [hF.gr h0]; exact hR.2.2.2.2.2.1, fun j hj => by rw [hF.gi h0]; exact hR.2.2.2.2.2.2 j hj⟩
theorem st_far : ∀ {a b : Nat}, IsSt a → IsSt b → a ≠ b → (a + 3 ≤ b ∨ b + 3 ≤ a) := fun {a b} ha hb h => (by decide +kernel : ∀ a ∈ stL, ∀ b ∈ stL, a ≠ b → (a + 3 ≤ b ∨ b + 3 ≤ a)) a ha b hb h
theorem Repr.keepS {w w1 : Wd} {a b : Nat} {s : St} (hR : Repr w a s) (hb : IsSt b) (hne : a ≠ b) (hF : FrS b w w1) : Repr w1 a s := by
  have h := st_far hR.1 hb hne
  exact hR.keep hF (by unfold InSt; omega) (by unfold InSt; omega) (by unfold InSt; omega)
theorem kc_mk {q g : Nat} (hq : 97 ≤ q) (hg : g < 10) : kc (10 + 10 * (q - 97) + g) = q := by
  unfold kc
  rw [if_neg (by omega), if_neg (by omega)]
  omega
theorem ag_mk {q g : Nat} (hg : g < 10) : ag (10 + 10 * (q - 97) + g) = g := by
  unfold ag
  rw [if_neg (by omega)]
  omega
theorem okc_mk {q g : Nat} (hq : 97 ≤ q ∧ q ≤ 100) (hg : g < 10) : okc (10 + 10 * (q - 97) + g) := by unfold okc; omega
theorem ag_0 {v : Nat} (h : v < 10) : ag v = 0 := by unfold ag; rw [if_pos h]
def older (v : Nat) : Nat := if ag v < 9 then v + 1 else v
theorem older_ok {v : Nat} (h : okc v) (h1 : 10 ≤ v) : okc (older v) ∧ kc (older v) = kc v ∧ ag (older v) = min (ag v + 1) 9 := by
  unfold older
  by_cases e : ag v < 9
  · rw [if_pos e]
    unfold ag at e ⊢
    unfold kc okc at *
    rw [if_neg (by omega)] at e
    refine ⟨by omega, ?_, ?_⟩
    · rw [if_neg (by omega), if_neg (by omega), if_neg (by omega), if_neg (by omega)]; omega
    · rw [if_neg (by omega), if_neg (by omega), Nat.min_eq_left (by omega)]; omega
  · rw [if_neg e]
    have := @ag_lt v
    refine ⟨h, rfl, ?_⟩
    rw [Nat.min_eq_right (by omega)]; omega
/-- the rules -/
def bears (r n : Nat) : Bool := n == 3 || (r == 1 && n == 6)
def keeps (r n : Nat) : Bool := if r = 2 then decide (1 ≤ n ∧ n ≤ 5) else decide (n = 2 ∨ n = 3)
def brB (r : Nat) : Nat := if r = 1 then 72 else 8
def brS (r : Nat) : Nat := if r = 2 then 62 else 12
def rlW (r : Nat) : Nat := 1100 + r
def rlL (r : Nat) : Nat := if r = 0 then 99 else if r = 1 then 98 else 115
theorem brB_bit {r n : Nat} (hr : r < 3) (hn : n < 32) : (nI (brB r) >>> (nI n &&& 31)) &&& nI 1 = nI (if bears r n = true then 1 else 0) :=
  (by decide +kernel : ∀ r < 3, ∀ n < 32, (nI (brB r) >>> (nI n &&& 31)) &&& nI 1 = nI (if bears r n = true then 1 else 0)) r hr n hn
theorem brS_bit {r n : Nat} (hr : r < 3) (hn : n < 32) : (nI (brS r) >>> (nI n &&& 31)) &&& nI 1 = nI (if keeps r n = true then 1 else 0) :=
  (by decide +kernel : ∀ r < 3, ∀ n < 32, (nI (brS r) >>> (nI n &&& 31)) &&& nI 1 = nI (if keeps r n = true then 1 else 0)) r hr n hn
theorem rl_cases {P : Nat → Prop} (h0 : P 0) (h1 : P 1) (h2 : P 2) {r : Nat} (hr : r < 3) : P r := by
  match r, hr with
  | 0, _ => exact h0
  | 1, _ => exact h1
  | 2, _ => exact h2
theorem rl_O {r : Nat} (hr : r < 3) : (RX6, 1000 + r) ∈ cO := rl_cases (P := fun r => (RX6, 1000 + r) ∈ cO) (List.mem_of_getElem? (i := 0) rfl) (List.mem_of_getElem? (i := 1) rfl) (List.mem_of_getElem? (i := 2) rfl) hr
theorem rl_E {r : Nat} (hr : r < 3) : 1000 + r ∈ cE := rl_cases (P := fun r => 1000 + r ∈ cE) (by decide) (by decide) (by decide) hr
theorem rl_letter {r : Nat} (hr : r < 3) : (RX6, "letter", "I", .int (nI (rlL r)), 1000 + r) ∈ cF := rl_cases (P := fun r => (RX6, "letter", "I", .int (nI (rlL r)), 1000 + r) ∈ cF) (List.mem_of_getElem? (i := 1) rfl) (List.mem_of_getElem? (i := 6) rfl) (List.mem_of_getElem? (i := 11) rfl) hr
theorem rl_word {r : Nat} (hr : r < 3) : (RX6, "word", "Ljava/lang/String;", .ref (rlW r), 1000 + r) ∈ cF := rl_cases (P := fun r => (RX6, "word", "Ljava/lang/String;", .ref (rlW r), 1000 + r) ∈ cF) (List.mem_of_getElem? (i := 2) rfl) (List.mem_of_getElem? (i := 7) rfl) (List.mem_of_getElem? (i := 12) rfl) hr
theorem rl_births {r : Nat} (hr : r < 3) : (RX6, "births", "I", .int (nI (brB r)), 1000 + r) ∈ cF := rl_cases (P := fun r => (RX6, "births", "I", .int (nI (brB r)), 1000 + r) ∈ cF) (List.mem_of_getElem? (i := 3) rfl) (List.mem_of_getElem? (i := 8) rfl) (List.mem_of_getElem? (i := 13) rfl) hr
theorem rl_survivals {r : Nat} (hr : r < 3) : (RX6, "survivals", "I", .int (nI (brS r)), 1000 + r) ∈ cF := rl_cases (P := fun r => (RX6, "survivals", "I", .int (nI (brS r)), 1000 + r) ∈ cF) (List.mem_of_getElem? (i := 4) rfl) (List.mem_of_getElem? (i := 9) rfl) (List.mem_of_getElem? (i := 14) rfl) hr
/-- whether a tide changes a cell -/
def chg (s : St) (k : Nat) : Bool := if s.1 k = 0 then bears s.2.1 (near s.1 k 0) else if s.1 k < 10 then decide (near s.1 k 0 = 0) else !keeps s.2.1 (near s.1 k 0)
/-- the most and the best of the first i colours about a cell -/
def mostN (C : Nat → Nat) (k : Nat) : Nat → Nat × Nat
  | 0 => (0, 0)
  | i + 1 => if (mostN C k i).1 < near C k (97 + i) then (near C k (97 + i), 97 + i) else mostN C k i
def most (C : Nat → Nat) (k : Nat) : Nat := (mostN C k 4).2
def nextc (s : St) (k : Nat) : Nat := if s.1 k = 0 then (if chg s k = true then 10 + 10 * (most s.1 k - 97) else 0) else if s.1 k < 10 then (if chg s k = true then 0 else 1) else if chg s k = true then 1 else older (s.1 k)
def tBorn (s : St) (k : Nat) : Nat := if s.1 k = 0 ∧ chg s k = true then 1 else 0
def tPale (s : St) (k : Nat) : Nat := if 10 ≤ s.1 k ∧ chg s k = true then 1 else 0
def tWash (s : St) (k : Nat) : Nat := if (s.1 k ≠ 0 ∧ s.1 k < 10) ∧ chg s k = true then 1 else 0
/-- a tide that has come to the cell i -/
def tidP (s : St) (i : Nat) : St := (fun k => if k < i then nextc s k else s.1 k, s.2.1, fun j => if j = 3 then s.2.2 j + nI (sm (tBorn s) i) else if j = 4 then s.2.2 j + nI (sm (tPale s) i) else if j = 5 then s.2.2 j + nI (sm (tWash s) i) else s.2.2 j)
def tide (s : St) : St := sCnt (tidP s 64) 0 (nI 1)
def tideN (s : St) : Nat → St
  | 0 => s
  | n + 1 => tide (tideN s n)
/-- the reasons against a change -/
def rsP (v : Nat) : Nat := if v = 0 then 0 else 1
def rsR (v : Nat) : Nat := if v = 0 then 2 else 0
def rsA (v : Nat) : Nat := if v = 0 then 2 else if v < 10 then 3 else 0
theorem rsP_lt {v : Nat} : rsP v < 4 := by unfold rsP; split <;> omega
theorem rsR_lt {v : Nat} : rsR v < 4 := by unfold rsR; split <;> omega
theorem rsA_lt {v : Nat} : rsA v < 4 := by unfold rsA; split <;> (try split) <;> omega
def sumA (C : Nat → Nat) : Nat := sm (fun k => ag (C k)) 64
end SPEC2
