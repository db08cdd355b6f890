/-! THE COMMANDS' TEXT: what a reading finds. -/
section PARSE
/-- the sign at a place, 0 behind the end -/
def sg (l : List Nat) (p : Nat) : Nat := if p < l.length then l.getD p 0 else 0
/-- how many signs of a word stand at a place, of its first n -/
def mtc (l : List Nat) (p : Nat) (t : List Nat) : Nat → Nat
  | 0 => 0
  | n + 1 => if mtc l p t n = n ∧ sg l (p + n) = t.getD n 0 then n + 1 else mtc l p t n
def lk (l : List Nat) (p t : Nat) : Nat := mtc l p (tx t) (tx t).length
def lkM (l : List Nat) (p b : Nat) : Nat → Nat
  | 0 => 0
  | n + 1 => max (lkM l p b n) (lk l p (b + n))
def lkF (l : List Nat) (p b : Nat) : Nat → Option Nat
  | 0 => none
  | n + 1 => if lk l p (b + n) = (tx (b + n)).length then some n else lkF l p b n
theorem mtc_le {l : List Nat} {p : Nat} {t : List Nat} : ∀ n, mtc l p t n ≤ n := by
  intro n
  induction n with
  | zero => exact Nat.le_refl 0
  | succ n ih =>
    show (if mtc l p t n = n ∧ sg l (p + n) = t.getD n 0 then n + 1 else mtc l p t n) ≤ n + 1
    split <;> omega
theorem mtc_s {l : List Nat} {p n : Nat} {t : List Nat} : mtc l p t (n + 1) = if mtc l p t n = n ∧ sg l (p + n) = t.getD n 0 then n + 1 else mtc l p t n := rfl
/-- once it failed it stays -/
theorem mtc_stop {l : List Nat} {p n : Nat} {t : List Nat} (h : mtc l p t n = n) (hc : ¬ sg l (p + n) = t.getD n 0) : ∀ j, mtc l p t (n + 1 + j) = n := by
  intro j
  induction j with
  | zero => rw [Nat.add_zero, mtc_s, if_neg (fun q => hc q.2), h]
  | succ j ih => rw [← Nat.add_assoc, mtc_s, ih, if_neg (by omega)]
theorem lk_le {l : List Nat} {p t : Nat} : lk l p t ≤ (tx t).length := mtc_le _
theorem lk_stop {l : List Nat} {p t n : Nat} (hn : n < (tx t).length) (h : mtc l p (tx t) n = n) (hc : ¬ sg l (p + n) = (tx t).getD n 0) : lk l p t = n := by
  have := mtc_stop h hc ((tx t).length - (n + 1))
  rw [show n + 1 + ((tx t).length - (n + 1)) = (tx t).length by omega] at this
  exact this
/-- what matched stands there -/
theorem mtc_sg {l : List Nat} {p : Nat} {t : List Nat} : ∀ n, ∀ i, i < mtc l p t n → sg l (p + i) = t.getD i 0 := by
  intro n
  induction n with
  | zero => intro i hi; cases hi
  | succ n ih =>
    intro i hi
    rw [mtc_s] at hi
    by_cases h : mtc l p t n = n ∧ sg l (p + n) = t.getD n 0
    · rw [if_pos h] at hi
      by_cases e : i = n
      · rw [e]; exact h.2
      · exact ih i (by omega)
    · rw [if_neg h] at hi; exact ih i hi
theorem sg_pos {l : List Nat} {p : Nat} (h : sg l p ≠ 0) : p < l.length := by
  unfold sg at h
  exact Decidable.by_contra fun q => h (if_neg q)
theorem lkM_le {l : List Nat} {p b m : Nat} : ∀ n, (∀ k, k < n → lk l p (b + k) ≤ m) → lkM l p b n ≤ m := by
  intro n
  induction n with
  | zero => intro _; exact Nat.zero_le _
  | succ n ih =>
    intro h
    show max (lkM l p b n) (lk l p (b + n)) ≤ m
    have h1 := ih fun k hk => h k (by omega)
    have h2 := h n (by omega)
    omega
theorem lkM_ge {l : List Nat} {p b k : Nat} : ∀ n, k < n → lk l p (b + k) ≤ lkM l p b n := by
  intro n
  induction n with
  | zero => intro h; omega
  | succ n ih =>
    intro h
    show _ ≤ max (lkM l p b n) (lk l p (b + n))
    by_cases e : k = n
    · subst e; omega
    · have := ih (by omega); omega
theorem lkF_some {l : List Nat} {p b k : Nat} : ∀ n, lkF l p b n = some k → k < n ∧ lk l p (b + k) = (tx (b + k)).length := by
  intro n
  induction n with
  | zero => intro h; cases h
  | succ n ih =>
    intro h
    have e : lkF l p b (n + 1) = if lk l p (b + n) = (tx (b + n)).length then some n else lkF l p b n := rfl
    rw [e] at h
    by_cases q : lk l p (b + n) = (tx (b + n)).length
    · rw [if_pos q] at h; cases h; exact ⟨by omega, q⟩
    · rw [if_neg q] at h; have := ih h; exact ⟨by omega, this.2⟩
theorem lkF_none {l : List Nat} {p b : Nat} : ∀ n, lkF l p b n = none → ∀ k, k < n → lk l p (b + k) ≠ (tx (b + k)).length := by
  intro n
  induction n with
  | zero => intro _ k hk; omega
  | succ n ih =>
    intro h k hk
    have e : lkF l p b (n + 1) = if lk l p (b + n) = (tx (b + n)).length then some n else lkF l p b n := rfl
    rw [e] at h
    by_cases q : lk l p (b + n) = (tx (b + n)).length
    · rw [if_pos q] at h; cases h
    · rw [if_neg q] at h
      by_cases z : k = n
      · rw [z]; exact q
      · exact ih h k (by omega)
/-- a digit; a colour -/
def isD (x : Nat) : Bool := decide (48 ≤ x ∧ x ≤ 57)
def isC (x : Nat) : Bool := decide (97 ≤ x ∧ x ≤ 100)
def isP (x : Nat) : Bool := decide (x = 113 ∨ x = 108 ∨ x = 120 ∨ x = 103)
def ptN (x : Nat) : Nat := if x = 113 then 0 else if x = 108 then 1 else if x = 120 then 2 else 3
theorem ptN_ok {x : Nat} (h : isP x = true) : ptN x < 4 ∧ ptL (ptN x) = x := by
  have := of_decide_eq_true h
  unfold ptN ptL
  rcases this with rfl | rfl | rfl | rfl <;> decide
theorem ptL_isP {p : Nat} (hp : p < 4) : isP (ptL p) = true ∧ ptN (ptL p) = p := pt_cases (P := fun p => isP (ptL p) = true ∧ ptN (ptL p) = p) (by decide) (by decide) (by decide) (by decide) hp
abbrev Cmd : Type := Nat × Nat × Nat × Nat
/-- the arguments of the verb v from p on: whether they stand there, where the reading ends, what they say -/
def agO (l : List Nat) (v p : Nat) : Bool :=
  if v = 5 then (lkF l p 1100 3).isSome
  else if v = 6 then isD (sg l p)
  else isD (sg l p) && isD (sg l (p + 1)) && (v == 1 || v == 2 || (sg l (p + 2) == 32 && (if v = 4 then isP (sg l (p + 3)) && isC (sg l (p + 4)) else isC (sg l (p + 3)))))
def agP (l : List Nat) (v p : Nat) : Nat :=
  if v = 5 then p + lkM l p 1100 3
  else if v = 6 then (if isD (sg l p) = true then (if isD (sg l (p + 1)) = true then p + 2 else p + 1) else p)
  else if isD (sg l p) = false then p else if isD (sg l (p + 1)) = false then p + 1
  else if v = 1 ∨ v = 2 then p + 2 else if sg l (p + 2) ≠ 32 then p + 2
  else if v = 4 then (if isP (sg l (p + 3)) = false then p + 3 else if isC (sg l (p + 4)) = false then p + 4 else p + 5)
  else if isC (sg l (p + 3)) = false then p + 3 else p + 4
def agC (l : List Nat) (v p : Nat) : Cmd :=
  if v = 5 then (rlL ((lkF l p 1100 3).getD 0), 0, 0, 0)
  else if v = 6 then (if isD (sg l (p + 1)) = true then 10 * (sg l p - 48) + (sg l (p + 1) - 48) else sg l p - 48, 0, 0, 0)
  else (sg l p - 48, sg l (p + 1) - 48, sg l (p + 3), sg l (p + 4))
/-- a command from p on -/
def vbF (l : List Nat) (p : Nat) : Option Nat := lkF l p 1120 7
def vbP (l : List Nat) (p : Nat) : Nat := p + lkM l p 1120 7
def cmO (l : List Nat) (p : Nat) : Bool := match vbF l p with
  | some v => agO l v (vbP l p)
  | none => false
def cmP (l : List Nat) (p : Nat) : Nat := match vbF l p with
  | some v => agP l v (vbP l p)
  | none => vbP l p
/-- behind a command: the end, or a semicolon -/
def cmL (l : List Nat) (p : Nat) : Bool := decide (l.length ≤ cmP l p)
def cmG (l : List Nat) (p : Nat) : Bool := cmO l p && (cmL l p || sg l (cmP l p) == 59)
/-- where the reading of a command and of what is behind it ends -/
def cmE (l : List Nat) (p : Nat) : Nat := if cmO l p = true ∧ ¬ cmL l p = true ∧ sg l (cmP l p) = 59 then cmP l p + 1 else cmP l p
/-- where the n-th command begins -/
def cmB (l : List Nat) : Nat → Nat
  | 0 => 0
  | n + 1 => cmE l (cmB l n)
end PARSE
