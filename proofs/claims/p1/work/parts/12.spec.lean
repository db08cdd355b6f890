/-! WHAT A STATE IS: cells by number (0 empty, 1 bleached, 10 + 10 colour + age), the rule, six counters; what a State's cells hold of it. -/
section SPEC
def stL : List Nat := [1, 4, 7, 12, 15, 18, 21, 24, 27, 30, 33, 37]
def IsSt (a : Nat) : Prop := a ∈ stL
theorem IsSt.sh {a : Nat} (h : IsSt a) : shp 1 a = (0, 5, [a + 1 + 2, a + 2 + 2, 1, 0, 0, 0, 0, 0, 0]) ∧ shp 1 (a + 1) = (2, 64, []) ∧ shp 1 (a + 2) = (1, 64, []) ∧ a + 2 < 67 := (by decide +kernel : ∀ a ∈ stL, shp 1 a = (0, 5, [a + 1 + 2, a + 2 + 2, 1, 0, 0, 0, 0, 0, 0]) ∧ shp 1 (a + 1) = (2, 64, []) ∧ shp 1 (a + 2) = (1, 64, []) ∧ a + 2 < 67) a h
theorem IsSt.mk0 {w : Wd} {a : Nat} (h : IsSt a) : Mk 1 w a := Or.inr ⟨rfl, by have := h.sh.2.2.2; omega⟩
theorem IsSt.mk1 {w : Wd} {a : Nat} (h : IsSt a) : Mk 1 w (a + 1) := Or.inr ⟨rfl, by have := h.sh.2.2.2; omega⟩
theorem IsSt.mk2 {w : Wd} {a : Nat} (h : IsSt a) : Mk 1 w (a + 2) := Or.inr ⟨rfl, by have := h.sh.2.2.2; omega⟩
theorem st_1 : IsSt 1 := (by decide : 1 ∈ stL)
theorem st_4 : IsSt 4 := (by decide : 4 ∈ stL)
theorem st_7 : IsSt 7 := (by decide : 7 ∈ stL)
theorem st_37 : IsSt 37 := (by decide : 37 ∈ stL)
abbrev St : Type := (Nat → Nat) × Nat × (Nat → Int32)
def kc (v : Nat) : Nat := if v = 0 then 0 else if v < 10 then 35 else 97 + (v - 10) / 10
def ag (v : Nat) : Nat := if v < 10 then 0 else (v - 10) % 10
def okc (v : Nat) : Prop := v = 0 ∨ v = 1 ∨ (10 ≤ v ∧ v < 50)
theorem kc_lt {v : Nat} (h : okc v) : kc v < 101 := by unfold kc okc at *; split <;> (try split) <;> omega
theorem ag_lt {v : Nat} : ag v < 10 := by unfold ag; split <;> omega
theorem kc_live {v : Nat} (h : okc v) : (97 ≤ kc v ∧ kc v ≤ 100) ↔ 10 ≤ v := by unfold kc okc at *; split <;> (try split) <;> omega
theorem kc_pale {v : Nat} (h : okc v) : kc v = 35 ↔ v = 1 := by unfold kc okc at *; split <;> (try split) <;> omega
theorem kc_none {v : Nat} (h : okc v) : kc v = 0 ↔ v = 0 := by unfold kc okc at *; split <;> (try split) <;> omega
/-- the State at a holds s -/
def Repr (w : Wd) (a : Nat) (s : St) : Prop := IsSt a ∧ (∀ k, k < 64 → okc (s.1 k)) ∧ (∀ k, k < 64 → gI w (a + 1) k = nI (kc (s.1 k))) ∧ (∀ k, k < 64 → gI w (a + 2) k = nI (ag (s.1 k))) ∧ s.2.1 < 3 ∧ gR w a 2 = some (1000 + s.2.1) ∧ ∀ j, j < 6 → gI w a (3 + j) = s.2.2 j
/-- sums over the places below n -/
def sm (f : Nat → Nat) : Nat → Nat
  | 0 => 0
  | n + 1 => sm f n + f n
theorem sm_le {f : Nat → Nat} {c : Nat} (h : ∀ k, f k ≤ c) : ∀ n, sm f n ≤ c * n := by
  intro n
  induction n with
  | zero => exact Nat.zero_le _
  | succ n ih => have := h n; show sm f n + f n ≤ c * (n + 1); rw [Nat.mul_succ]; omega
theorem sm_congr {f g : Nat → Nat} : ∀ n, (∀ k, k < n → f k = g k) → sm f n = sm g n := by
  intro n
  induction n with
  | zero => intro _; rfl
  | succ n ih => intro h; show sm f n + f n = sm g n + g n; rw [ih (fun k hk => h k (by omega)), h n (by omega)]
/-- what a question for a kind asks: 42 any living, 35 bleached, a colour's letter -/
def hk (v q : Nat) : Bool := if q = 42 then decide (10 ≤ v) else decide (kc v = q)
def cnt (C : Nat → Nat) (q : Nat) : Nat := sm (fun k => if hk (C k) q then 1 else 0) 64
def cntR (C : Nat → Nat) (r q : Nat) : Nat := sm (fun k => if hk (C (8 * r + k)) q then 1 else 0) 8
/-- the sign of a cell in a written row -/
def sgn (v : Nat) : Nat := if v = 0 then 46 else if v < 10 then 35 else if 5 ≤ ag v then kc v - 32 else kc v
/-- the neighbours: the place (i - 1, j - 1) about the cell k counts, for a colour q, or for any (0) -/
def nb (C : Nat → Nat) (k q i j : Nat) : Nat := if 1 ≤ k / 8 + i ∧ k / 8 + i ≤ 8 ∧ 1 ≤ k % 8 + j ∧ k % 8 + j ≤ 8 ∧ ¬ (i = 1 ∧ j = 1) ∧ 10 ≤ C (8 * (k / 8 + i - 1) + (k % 8 + j - 1)) ∧ (q = 0 ∨ kc (C (8 * (k / 8 + i - 1) + (k % 8 + j - 1))) = q) then 1 else 0
def nr (C : Nat → Nat) (k q i : Nat) : Nat := sm (nb C k q i) 3
def near (C : Nat → Nat) (k q : Nat) : Nat := sm (nr C k q) 3
end SPEC
