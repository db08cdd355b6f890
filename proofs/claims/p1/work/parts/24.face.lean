/-! THE WHOLE SYSTEM: what every call answers and leaves. -/
section FACE
/-- the state, the ring (next, kept, slots), the snapshot (is there one, which), the line, the input, the offset of the syntax error, the latest rejection -/
abbrev Sys : Type := St × (Nat × Nat × (Nat → St)) × (Nat × St) × List Nat × List Nat × Int × (Nat × Int32 × Nat)
/-- an answer: 0 or the number of what is thrown; the value; what is left -/
abbrev Res : Type := Nat × Int32 × Sys
def sSt (S : Sys) : St := S.1
def kpH (H : Nat × Nat × (Nat → St)) (s : St) : Nat × Nat × (Nat → St) := (if H.1 < 7 then H.1 + 1 else 0, min (H.2.1 + 1) 8, fun j => if j = H.1 then s else H.2.2 j)
def kp (S : Sys) (s : St) : Sys := (s, kpH S.2.1 S.1, S.2.2)
def rj (S : Sys) (why : Nat) (about : Int32) (cs : Nat) : Sys := (S.1, S.2.1, S.2.2.1, S.2.2.2.1, S.2.2.2.2.1, S.2.2.2.2.2.1, why, about, cs)
def ins (r c : Int) : Bool := decide (0 ≤ r ∧ r < 8 ∧ 0 ≤ c ∧ c < 8)
def cl (r c : Int) : Nat := 8 * r.toNat + c.toNat
def b2 (b : Bool) : Int32 := nI (if b = true then 1 else 0)
def q2 (S : Sys) (v : Int32) : Res := (0, v, S)
def fPlace (S : Sys) (r c : Int) (q : Nat) : Res := if ins r c = false then (1, 0, S) else if isC q = false then (2, 0, S) else if S.1.1 (cl r c) ≠ 0 then (3, 0, rj S 1 (nI (cl r c)) 0) else (0, nI (cnt (sCnt (sPut S.1 (cl r c) (10 + 10 * (q - 97) + 0)) 1 (nI 1)).1 42), kp S (sCnt (sPut S.1 (cl r c) (10 + 10 * (q - 97) + 0)) 1 (nI 1)))
def fRemove (S : Sys) (r c : Int) : Res := if ins r c = false then (1, 0, S) else if S.1.1 (cl r c) = 0 then (2, 0, rj S 2 (nI (cl r c)) 0) else (0, nI (cnt (sCnt (sPut S.1 (cl r c) 0) 2 (nI 1)).1 42), kp S (sCnt (sPut S.1 (cl r c) 0) 2 (nI 1)))
def fBleach (S : Sys) (r c : Int) : Res := if ins r c = false then (1, 0, S) else if S.1.1 (cl r c) = 0 then (2, 0, rj S 2 (nI (cl r c)) 0) else if S.1.1 (cl r c) < 10 then (2, 0, rj S 3 (nI (cnt S.1.1 35)) 0) else (0, nI (ag (S.1.1 (cl r c))), kp S (sCnt (sPut S.1 (cl r c) 1) 4 (nI 1)))
def fRecolour (S : Sys) (r c : Int) (q : Nat) : Res := if ins r c = false then (1, 0, S) else if isC q = false then (2, 0, S) else if S.1.1 (cl r c) = 0 then (3, 0, rj S 2 (nI (cl r c)) 0) else if S.1.1 (cl r c) < 10 then (3, 0, rj S 3 (nI (cnt S.1.1 35)) 0) else (0, nI (kc (S.1.1 (cl r c))), kp S (sPut S.1 (cl r c) (10 + 10 * (q - 97) + ag (S.1.1 (cl r c)))))
def fPlant (S : Sys) (r c : Int) (pt q : Nat) : Res := if ins r c = false then (1, 0, S) else if isP pt = false then (2, 0, S) else if isC q = false then (2, 0, S) else if allin (ptN pt) r.toNat c.toNat = false then (3, 0, rj S 4 (nI (psz (ptN pt))) 0) else if 0 ≤ fti S.1.1 (ptN pt) r.toNat c.toNat then (3, 0, rj S 1 (zI (fti S.1.1 (ptN pt) r.toNat c.toNat)) 0) else (0, nI (psz (ptN pt)), kp S (plt S.1 (ptN pt) r.toNat c.toNat q (psz (ptN pt))))
def isR (x : Nat) : Bool := decide (x = 99 ∨ x = 98 ∨ x = 115)
def rlN (x : Nat) : Nat := if x = 99 then 0 else if x = 98 then 1 else 2
def fSetRule (S : Sys) (x : Nat) : Res := if isR x = false then (1, 0, S) else if S.1.2.1 = rlN x then (2, 0, rj S 5 (S.1.2.2 0) 0) else (0, nI (rlL S.1.2.1), kp S (S.1.1, rlN x, S.1.2.2))
/-- what asks for a cell -/
def fCell (S : Sys) (r c : Int) (f : Nat → Int32) : Res := if ins r c = false then (1, 0, S) else (0, f (cl r c), S)
/-- .. for a living button -/
def fLive (S : Sys) (r c : Int) (f : Nat → Int32) : Res := if ins r c = false then (1, 0, S) else if S.1.1 (cl r c) < 10 then (2, 0, S) else (0, f (cl r c), S)
def fIsEmpty (S : Sys) (r c : Int) : Res := fCell S r c fun k => b2 (decide (S.1.1 k = 0))
def fIsLiving (S : Sys) (r c : Int) : Res := fCell S r c fun k => b2 (decide (10 ≤ S.1.1 k))
def fIsBleached (S : Sys) (r c : Int) : Res := fCell S r c fun k => b2 (decide (S.1.1 k = 1))
def fColourAt (S : Sys) (r c : Int) : Res := fLive S r c fun k => nI (kc (S.1.1 k))
def fAgeAt (S : Sys) (r c : Int) : Res := fLive S r c fun k => nI (ag (S.1.1 k))
def fNeighbours (S : Sys) (r c : Int) : Res := fCell S r c fun k => nI (near S.1.1 k 0)
def fNeighboursOf (S : Sys) (r c : Int) (q : Nat) : Res := if ins r c = false then (1, 0, S) else if isC q = false then (2, 0, S) else (0, nI (near S.1.1 (cl r c) q), S)
def fBirthColour (S : Sys) (r c : Int) : Res := if ins r c = false then (1, 0, S) else if near S.1.1 (cl r c) 0 = 0 then (2, 0, S) else (0, nI (most S.1.1 (cl r c)), S)
def fLivingCount (S : Sys) : Res := q2 S (nI (cnt S.1.1 42))
def fBleachedCount (S : Sys) : Res := q2 S (nI (cnt S.1.1 35))
def fCountOf (S : Sys) (q : Nat) : Res := if isC q = false then (1, 0, S) else (0, nI (cnt S.1.1 q), S)
def H0 (S : Sys) : Nat → Bool := Hq S.1 42
noncomputable def szi (H : Nat → Bool) (m : Nat) : Nat := sm (mkd (fmi H 64) m) 64
noncomputable def fIslandCount (S : Sys) : Res := q2 S (nI (ns (H0 S) 64))
noncomputable def fIslandSize (S : Sys) (r c : Int) : Res := fLive S r c fun k => nI (szi (H0 S) (fmi (H0 S) 64 k))
noncomputable def lgi (H : Nat → Bool) : Nat → Nat
  | 0 => 0
  | n + 1 => max (lgi H n) (szi H (n + 1))
noncomputable def fLargestIsland (S : Sys) : Res := q2 S (nI (lgi (H0 S) (ns (H0 S) 64)))
noncomputable def fIslandsOf (S : Sys) (q : Nat) : Res := if isC q = false then (1, 0, S) else (0, nI (ns (Hq S.1 q) 64), S)
noncomputable def fIsJoined (S : Sys) (r c r2 c2 : Int) : Res := if ins r c = false then (1, 0, S) else if ins r2 c2 = false then (1, 0, S) else (0, b2 (decide (fmi (H0 S) 64 (cl r c) ≠ 0 ∧ fmi (H0 S) 64 (cl r c) = fmi (H0 S) 64 (cl r2 c2))), S)
def fPassTides (S : Sys) (t : Int) : Res := if 1 ≤ t ∧ t ≤ 20 then (0, (tideN S.1 t.toNat).2.2 3 - S.1.2.2 3, kp S (tideN S.1 t.toNat)) else (1, 0, S)
def fWouldLive (S : Sys) (r c : Int) : Res := fCell S r c fun k => b2 (decide (10 ≤ nextc S.1 k))
def fLivingAfter (S : Sys) (t : Int) : Res := if 0 ≤ t ∧ t ≤ 20 then (0, nI (cnt (tideN S.1 t.toNat).1 42), S) else (1, 0, S)
def fIsStill (S : Sys) : Res := q2 S (b2 (stl S.1))
/-- the first of n tides at which nothing changes any more, n if there is none -/
def tus (s : St) : Nat → Nat
  | 0 => 0
  | n + 1 => if tus s n < n then tus s n else if stl (tideN s n) = true then n else n + 1
def fTidesUntilStill (S : Sys) : Res := if tus S.1 41 < 41 then (0, nI (tus S.1 41), S) else (1, 0, S)
def fRule (S : Sys) : Res := q2 S (nI (rlL S.1.2.1))
def fIsBirth (S : Sys) (n : Int) : Res := if 0 ≤ n ∧ n ≤ 8 then (0, b2 (bears S.1.2.1 n.toNat), S) else (1, 0, S)
def fIsSurvival (S : Sys) (n : Int) : Res := if 0 ≤ n ∧ n ≤ 8 then (0, b2 (keeps S.1.2.1 n.toNat), S) else (1, 0, S)
def fTotal (S : Sys) (j : Nat) : Res := q2 S (S.1.2.2 j)
/-- rows and colours in order -/
def rwA (C : Nat → Nat) (r o : Nat) : Bool := if cntR C r 42 ≠ cntR C o 42 then decide (cntR C o 42 < cntR C r 42) else if cntR C r 35 ≠ cntR C o 35 then decide (cntR C o 35 < cntR C r 35) else decide (r < o)
def rkR (C : Nat → Nat) (r : Nat) : Nat := sm (fun o => if o ≠ r ∧ rwA C o r = true then 1 else 0) 8
def coA (C : Nat → Nat) (i k : Nat) : Bool := decide (cnt C (97 + k) < cnt C (97 + i) ∨ (cnt C (97 + i) = cnt C (97 + k) ∧ i < k))
def rkC (C : Nat → Nat) (k : Nat) : Nat := sm (fun i => if coA C i k = true then 1 else 0) 4
/-- the last of the first n whose rank is asked -/
def fnd (f : Nat → Nat) (x : Int) : Nat → Option Nat
  | 0 => none
  | n + 1 => if (f n : Int) = x then some n else fnd f x n
def fRowByLiving (S : Sys) (x : Int) : Res := match fnd (rkR S.1.1) x 8 with
  | some k => (0, nI k, S)
  | none => (1, 0, S)
def fColourByCount (S : Sys) (x : Int) : Res := match fnd (rkC S.1.1) x 4 with
  | some k => (0, nI (97 + k), S)
  | none => (1, 0, S)
def fIsConsistent (S : Sys) : Res := q2 S (b2 true)
def wOut (S : Sys) (o : List Nat) : Sys := (S.1, S.2.1, S.2.2.1, o, S.2.2.2.2)
def wInp (S : Sys) (l : List Nat) : Sys := (S.1, S.2.1, S.2.2.1, S.2.2.2.1, l, S.2.2.2.2.2)
/-- the first n signs of a row -/
def rowL (C : Nat → Nat) (r : Nat) : Nat → List Nat
  | 0 => []
  | n + 1 => rowL C r n ++ [sgn (C (8 * r + n))]
def fWriteRow (S : Sys) (r : Int) : Res := if 0 ≤ r ∧ r < 8 then (0, nI 8, wOut S (rowL S.1.1 r.toNat 8)) else (1, 0, S)
def ruleL (r : Nat) : List Nat := tx (1100 + r) ++ tx 1130 ++ nums (bears r) 9 ++ tx 1131 ++ nums (keeps r) 9
def fWriteRule (S : Sys) : Res := (0, nI (ruleL S.1.2.1).length, wOut S (ruleL S.1.2.1))
def fOutputAt (S : Sys) (i : Int) : Res := if 0 ≤ i ∧ i < S.2.2.2.1.length then (0, nI (S.2.2.2.1.getD i.toNat 0), S) else (1, 0, S)
def fAppendInput (S : Sys) (q : Nat) : Res := if 32 ≤ q ∧ q ≤ 126 then (if S.2.2.2.2.1.length < 60 then (0, nI (S.2.2.2.2.1.length + 1), wInp S (S.2.2.2.2.1 ++ [q])) else (2, 0, S)) else (1, 0, S)
def fSyntaxErrorOffset (S : Sys) : Res := if S.2.2.2.2.2.1 < 0 then (1, 0, S) else (0, zI S.2.2.2.2.2.1, S)
def fRejectionReason (S : Sys) : Res := if S.2.2.2.2.2.2.1 = 0 then (1, 0, S) else (0, nI S.2.2.2.2.2.2.1, S)
def fRejectionDetail (S : Sys) : Res := if S.2.2.2.2.2.2.1 = 0 then (1, 0, S) else (0, S.2.2.2.2.2.2.2.1, S)
def fCauseReason (S : Sys) : Res := if S.2.2.2.2.2.2.1 ≠ 6 then (1, 0, S) else (0, nI S.2.2.2.2.2.2.2.2, S)
def bkN (n : Nat) : Nat := if 0 < n then n - 1 else 7
def fUndo (S : Sys) : Res := if S.2.1.2.1 = 0 then (1, 0, S) else (0, nI (S.2.1.2.1 - 1), (S.2.1.2.2 (bkN S.2.1.1), (bkN S.2.1.1, S.2.1.2.1 - 1, S.2.1.2.2), S.2.2))
def fSaveSnapshot (S : Sys) : Res := (0, nI (cnt S.1.1 42), (S.1, S.2.1, (1, S.1), S.2.2.2))
def fRestoreSnapshot (S : Sys) : Res := if S.2.2.1.1 = 0 then (1, 0, S) else (0, nI (cnt S.2.2.1.2.1 42), (S.2.2.1.2, (S.2.1.1, 0, S.2.1.2.2), S.2.2))
/-! the commands: the reason against one, what it leaves -/
def cmR (s : St) (v : Nat) (c : Cmd) : Nat :=
  if v = 0 then rsP (s.1 (8 * c.1 + c.2.1)) else if v = 1 then rsR (s.1 (8 * c.1 + c.2.1)) else if v = 2 ∨ v = 3 then rsA (s.1 (8 * c.1 + c.2.1))
  else if v = 4 then rsL s (ptN c.2.2.1) c.1 c.2.1 else if v = 5 then (if s.2.1 = rlN c.1 then 5 else 0) else 0
/-- whether the methods would take its cell or number -/
def cmA (v : Nat) (c : Cmd) : Bool := if v = 6 then decide (1 ≤ c.1 ∧ c.1 ≤ 20) else if v < 5 then decide (c.1 < 8 ∧ c.2.1 < 8) else true
def cmD (s : St) (v : Nat) (c : Cmd) : St :=
  if v = 0 then sCnt (sPut s (8 * c.1 + c.2.1) (10 + 10 * (c.2.2.1 - 97) + 0)) 1 (nI 1) else if v = 1 then sCnt (sPut s (8 * c.1 + c.2.1) 0) 2 (nI 1) else if v = 2 then sCnt (sPut s (8 * c.1 + c.2.1) 1) 4 (nI 1)
  else if v = 3 then sPut s (8 * c.1 + c.2.1) (10 + 10 * (c.2.2.1 - 97) + ag (s.1 (8 * c.1 + c.2.1))) else if v = 4 then plt s (ptN c.2.2.1) c.1 c.2.1 c.2.2.2 (psz (ptN c.2.2.1))
  else if v = 5 then (s.1, rlN c.1, s.2.2) else tideN s c.1
/-- the verb and the arguments of the n-th command -/
def cmV (l : List Nat) (n : Nat) : Nat := (vbF l (cmB l n)).getD 0
def cmX (l : List Nat) (n : Nat) : Cmd := agC l (cmV l n) (vbP l (cmB l n))
/-- the state behind the first n commands -/
def cmS (l : List Nat) (s : St) : Nat → St
  | 0 => s
  | n + 1 => cmD (cmS l s n) (cmV l n) (cmX l n)
/-- the n-th command can be carried out behind those ahead -/
def cmK (l : List Nat) (s : St) (n : Nat) : Bool := cmA (cmV l n) (cmX l n) && decide (cmR (cmS l s n) (cmV l n) (cmX l n) = 0)
/-- what an execution may answer -/
def ExR (S : Sys) (R : Res) : Prop :=
  (∃ e, NF S.2.2.2.2.1 e ∧ R = (1, 0, (S.1, S.2.1, S.2.2.1, S.2.2.2.1, [], (e : Int), S.2.2.2.2.2.2))) ∨
  (∃ n, NC S.2.2.2.2.1 n ∧ (∀ i, i < n → cmK S.2.2.2.2.1 S.1 i = true) ∧ R = (0, nI n, (cmS S.2.2.2.2.1 S.1 n, kpH S.2.1 S.1, S.2.2.1, S.2.2.2.1, [], S.2.2.2.2.2))) ∨
  (∃ n, NC S.2.2.2.2.1 n ∧ ∃ i, i < n ∧ (∀ j, j < i → cmK S.2.2.2.2.1 S.1 j = true) ∧ cmA (cmV S.2.2.2.2.1 i) (cmX S.2.2.2.2.1 i) = false ∧ R = (2, 0, (S.1, S.2.1, S.2.2.1, S.2.2.2.1, [], S.2.2.2.2.2))) ∨
  (∃ n, NC S.2.2.2.2.1 n ∧ ∃ i, i < n ∧ (∀ j, j < i → cmK S.2.2.2.2.1 S.1 j = true) ∧ cmA (cmV S.2.2.2.2.1 i) (cmX S.2.2.2.2.1 i) = true ∧ cmR (cmS S.2.2.2.2.1 S.1 i) (cmV S.2.2.2.2.1 i) (cmX S.2.2.2.2.1 i) ≠ 0 ∧ R = (3, 0, (S.1, S.2.1, S.2.2.1, S.2.2.2.1, [], S.2.2.2.2.2.1, 6, nI i, cmR (cmS S.2.2.2.2.1 S.1 i) (cmV S.2.2.2.2.1 i) (cmX S.2.2.2.2.1 i))))
end FACE
