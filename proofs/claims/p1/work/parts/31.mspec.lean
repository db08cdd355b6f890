/-! THE PLAIN FORM: what its cells hold of the system; frames by places. -/
section MSPEC
abbrev InMo (b : Nat) : Prop := 47 ≤ b ∧ b < 65
def Fz (P : Nat → Nat → Prop) (w w1 : Wd) : Prop := Fr InMo w w1 ∧ ∀ b j, ¬ P b j → gI w1 b j = gI w b j
section FZ
variable {P Q : Nat → Nat → Prop} {w w1 w2 : Wd}
theorem Fz.nil : Fz P w w := ⟨Fr.nil, fun _ _ _ => rfl⟩
theorem Fz.trans (h : Fz P w w1) (k : Fz P w1 w2) : Fz P w w2 := ⟨h.1.trans k.1, fun b j n => (k.2 b j n).trans (h.2 b j n)⟩
theorem Fz.mono (h : Fz P w w1) (hs : ∀ b j, P b j → Q b j) : Fz Q w w1 := ⟨h.1, fun b j n => h.2 b j fun q => n (hs b j q)⟩
theorem Fz.i1 {a k : Nat} {v : Int32} (h : Fz P w w1) (ha : 47 ≤ a ∧ a < 65) (hp : P a k) : Fz P w (pI w1 a k v) := ⟨h.1.i1 ha, fun b j n => pI_ne (fun q => n (by rw [q.1, q.2]; exact hp)) (h.2 b j n)⟩
theorem Fz.gi {b j : Nat} (h : Fz P w w1) (n : ¬ P b j) : gI w1 b j = gI w b j := h.2 b j n
end FZ
def OkS (s : St) : Prop := (∀ k, k < 64 → okc (s.1 k)) ∧ s.2.1 < 3
/-- the 71 numbers of a state -/
def bk (s : St) (k : Nat) : Int32 := if k = 0 then nI s.2.1 else if k < 7 then s.2.2 (k - 1) else nI (s.1 (k - 7))
def Bk (w : Wd) (a o : Nat) (s : St) : Prop := OkS s ∧ ∀ k, k < 71 → gI w a (o + k) = bk s k
section BK
variable {w w1 : Wd} {a b o k v j : Nat} {s : St} {x : Int32}
theorem Bk.at0 (h : Bk w a 0 s) (hk : k < 64) : gI w a (7 + k) = nI (s.1 k) := by
  have e := h.2 (7 + k) (by omega)
  rw [Nat.zero_add] at e
  rw [e]
  unfold bk
  rw [if_neg (by omega), if_neg (by omega), show 7 + k - 7 = k by omega]
theorem Bk.rule0 (h : Bk w a 0 s) : gI w a 0 = nI s.2.1 := by
  have e := h.2 0 (by omega)
  rw [Nat.zero_add] at e
  exact e
theorem Bk.cnt0 (h : Bk w a 0 s) (hj : j < 6) : gI w a (j + 1) = s.2.2 j := by
  have e := h.2 (j + 1) (by omega)
  rw [Nat.zero_add] at e
  rw [e]
  unfold bk
  rw [if_neg (by omega), if_pos (by omega)]
  rfl
theorem Bk.all0 (h : Bk w a 0 s) (hk : k < 71) : gI w a k = bk s k := by
  have e := h.2 k hk
  rw [Nat.zero_add] at e
  exact e
theorem Bk.wr (h : Bk w a o s) (hne : ¬ a = b) : Bk (pI w b k x) a o s := ⟨h.1, fun i hi => pI_ne (fun q => hne q.1) (h.2 i hi)⟩
theorem Bk.keep {P : Nat → Nat → Prop} (h : Bk w a o s) (hF : Fz P w w1) (n : ∀ k, k < 71 → ¬ P a (o + k)) : Bk w1 a o s := ⟨h.1, fun i hi => (hF.gi (n i hi)).trans (h.2 i hi)⟩
theorem Bk.put (h : Bk w a 0 s) (hk : k < 64) (hv : okc v) (hx : x = nI v) : Bk (pI w a (7 + k) x) a 0 (sPut s k v) := by
  subst hx
  refine ⟨⟨fun i hi => ?_, h.1.2⟩, fun i hi => ?_⟩
  · show okc (up s.1 k v i)
    unfold up
    split
    · exact hv
    · exact h.1.1 i hi
  · rw [Nat.zero_add]
    by_cases e : i = 7 + k
    · rw [e, pI_at]
      show _ = bk (up s.1 k v, s.2) (7 + k)
      unfold bk up
      rw [if_neg (by omega), if_neg (by omega)]
      show nI v = nI (if 7 + k - 7 = k then v else s.1 (7 + k - 7))
      rw [if_pos (by omega)]
    · rw [pI_ne (fun q => e q.2) (h.all0 hi)]
      show _ = bk (up s.1 k v, s.2) i
      unfold bk up
      by_cases e2 : i < 7
      · rw [if_pos e2, if_pos e2]
      · rw [if_neg (by omega), if_neg e2, if_neg (by omega), if_neg e2]
        show nI (s.1 (i - 7)) = nI (if i - 7 = k then v else s.1 (i - 7))
        rw [if_neg (by omega)]
theorem Bk.cntP {n : Int32} (h : Bk w a 0 s) (hj : j < 6) (hx : x = s.2.2 j + n) : Bk (pI w a (j + 1) x) a 0 (sCnt s j n) := by
  subst hx
  refine ⟨h.1, fun i hi => ?_⟩
  rw [Nat.zero_add]
  by_cases e : i = j + 1
  · rw [e, pI_at]
    show _ = bk (s.1, s.2.1, bump s.2.2 j n) (j + 1)
    unfold bk bump
    rw [if_neg (by omega), if_pos (by omega)]
    show s.2.2 j + n = if j + 1 - 1 = j then s.2.2 (j + 1 - 1) + n else s.2.2 (j + 1 - 1)
    rw [if_pos (by omega)]
    rfl
  · rw [pI_ne (fun q => e q.2) (h.all0 hi)]
    show _ = bk (s.1, s.2.1, bump s.2.2 j n) i
    unfold bk bump
    by_cases e2 : i = 0
    · rw [if_pos e2, if_pos e2]
    · by_cases e3 : i < 7
      · rw [if_neg e2, if_pos e3, if_neg e2, if_pos e3]
        show s.2.2 (i - 1) = if i - 1 = j then s.2.2 (i - 1) + n else s.2.2 (i - 1)
        rw [if_neg (by omega)]
      · rw [if_neg e2, if_neg e3, if_neg e2, if_neg e3]
theorem Bk.ruleP {r : Nat} (h : Bk w a 0 s) (hr : r < 3) (hx : x = nI r) : Bk (pI w a 0 x) a 0 (s.1, r, s.2.2) := by
  subst hx
  refine ⟨⟨h.1.1, hr⟩, fun i hi => ?_⟩
  rw [Nat.zero_add]
  by_cases e : i = 0
  · rw [e, pI_at]; rfl
  · rw [pI_ne (fun q => e q.2) (h.all0 hi)]
    unfold bk
    rw [if_neg e, if_neg e]
/-- a block copied place by place -/
theorem cp_go {f : Nat → Int32} {i : Nat} (h : ∀ k, k < i → gI w a (o + k) = f k) (hx : x = f i) : ∀ k, k < i + 1 → gI (pI w a (o + i) x) a (o + k) = f k := by
  intro k hk
  by_cases e : k = i
  · rw [e, pI_at, hx]
  · exact pI_ne (by omega) (h k (by omega))
end BK
/-- the fixed rows -/
def shT : List Nat := [0, 1, 10, 11, 0, 1, 2, 1, 10, 11, 12, 21, 1, 12, 20, 21, 22]
def sbT : List Nat := [0, 4, 7, 12, 17]
def wdT : List Nat := [99, 97, 108, 109, 98, 117, 115, 121, 115, 108, 111, 119]
def leT : List Nat := [112, 108, 97, 99, 101, 32, 114, 101, 109, 111, 118, 101, 32, 98, 108, 101, 97, 99, 104, 32, 99, 111, 108, 111, 117, 114, 32, 112, 108, 97, 110, 116, 32, 114, 117, 108, 101, 32, 116, 105, 100, 101, 32]
def bgT : List Nat := [0, 6, 13, 20, 27, 33, 38, 43]
abbrev isTb (b : Nat) : Prop := b = 55 ∨ b = 56 ∨ b = 61 ∨ b = 62 ∨ b = 63
def Tb (w : Wd) : Prop := (∀ k, k < 17 → gI w 55 k = nI (shT.getD k 0)) ∧ (∀ k, k < 5 → gI w 56 k = nI (sbT.getD k 0)) ∧ (∀ k, k < 12 → gI w 61 k = nI (wdT.getD k 0)) ∧ (∀ k, k < 43 → gI w 62 k = nI (leT.getD k 0)) ∧ (∀ k, k < 8 → gI w 63 k = nI (bgT.getD k 0))
theorem Tb.wr {w : Wd} {b k : Nat} {x : Int32} (h : Tb w) (hne : ¬ isTb b) : Tb (pI w b k x) :=
  ⟨fun i hi => pI_ne (by omega) (h.1 i hi), fun i hi => pI_ne (by omega) (h.2.1 i hi), fun i hi => pI_ne (by omega) (h.2.2.1 i hi), fun i hi => pI_ne (by omega) (h.2.2.2.1 i hi), fun i hi => pI_ne (by omega) (h.2.2.2.2 i hi)⟩
theorem Tb.keep {P : Nat → Nat → Prop} {w w1 : Wd} (h : Tb w) (hF : Fz P w w1) (n : ∀ b j, isTb b → ¬ P b j) : Tb w1 :=
  ⟨fun i hi => (hF.gi (n _ _ (by omega))).trans (h.1 i hi), fun i hi => (hF.gi (n _ _ (by omega))).trans (h.2.1 i hi), fun i hi => (hF.gi (n _ _ (by omega))).trans (h.2.2.1 i hi), fun i hi => (hF.gi (n _ _ (by omega))).trans (h.2.2.2.1 i hi), fun i hi => (hF.gi (n _ _ (by omega))).trans (h.2.2.2.2 i hi)⟩
/-- the changes that can be undone: the block i of the past -/
def PaI (w : Wd) (H : Nat × Nat × (Nat → St)) : Prop := (gI w 47 7 = nI H.2.1 ∧ H.2.1 ≤ 8) ∧ H.1 < 8 ∧ ∀ i, i < H.2.1 → Bk w 53 (71 * i) (H.2.2 ((H.1 + 8 - H.2.1 + i) % 8))
abbrev isPa (b j : Nat) : Prop := (b = 47 ∧ j = 7) ∨ b = 53
theorem PaI.keep {P : Nat → Nat → Prop} {w w1 : Wd} {H : Nat × Nat × (Nat → St)} (h : PaI w H) (hF : Fz P w w1) (n : ∀ b j, isPa b j → ¬ P b j) : PaI w1 H :=
  ⟨⟨(hF.gi (n _ _ (by omega))).trans h.1.1, h.1.2⟩, h.2.1, fun i hi => (h.2.2 i hi).keep hF fun k _ => n _ _ (by omega)⟩
def SaI (w : Wd) (N : Nat × St) : Prop := (gI w 47 5 = nI N.1 ∧ N.1 < 2) ∧ Bk w 51 0 N.2
abbrev isSa (b j : Nat) : Prop := (b = 47 ∧ j = 5) ∨ b = 51
theorem SaI.keep {P : Nat → Nat → Prop} {w w1 : Wd} {N : Nat × St} (h : SaI w N) (hF : Fz P w w1) (n : ∀ b j, isSa b j → ¬ P b j) : SaI w1 N :=
  ⟨⟨(hF.gi (n _ _ (by omega))).trans h.1.1, h.1.2⟩, h.2.keep hF fun k _ => n _ _ (by omega)⟩
def LiI (w : Wd) (l : List Nat) : Prop := OutI w 47 23 60 l ∧ l.length ≤ 32 ∧ ∀ i, i < l.length → l.getD i 0 < 128
abbrev isLi (b j : Nat) : Prop := (b = 47 ∧ j = 23) ∨ b = 60
theorem LiI.keep {P : Nat → Nat → Prop} {w w1 : Wd} {l : List Nat} (h : LiI w l) (hF : Fz P w w1) (n : ∀ b j, isLi b j → ¬ P b j) : LiI w1 l :=
  ⟨⟨(hF.gi (n _ _ (by omega))).trans h.1.1, fun i hi => (hF.gi (n _ _ (by omega))).trans (h.1.2 i hi)⟩, h.2⟩
def InpI (w : Wd) (l : List Nat) : Prop := OutI w 47 11 54 l ∧ l.length ≤ 60 ∧ ∀ i, i < l.length → 32 ≤ l.getD i 0 ∧ l.getD i 0 ≤ 126
abbrev isInp (b j : Nat) : Prop := (b = 47 ∧ j = 11) ∨ b = 54
theorem InpI.keep {P : Nat → Nat → Prop} {w w1 : Wd} {l : List Nat} (h : InpI w l) (hF : Fz P w w1) (n : ∀ b j, isInp b j → ¬ P b j) : InpI w1 l :=
  ⟨⟨(hF.gi (n _ _ (by omega))).trans h.1.1, fun i hi => (hF.gi (n _ _ (by omega))).trans (h.1.2 i hi)⟩, h.2⟩
def ReI (w : Wd) (sy : Int) (rj : Nat × Int32 × Nat) : Prop := (gI w 47 8 = zI sy ∧ -1 ≤ sy ∧ sy ≤ 60) ∧ (gI w 47 12 = nI rj.1 ∧ rj.1 ≤ 6) ∧ gI w 47 13 = rj.2.1 ∧ (gI w 47 14 = nI rj.2.2 ∧ rj.2.2 ≤ 5) ∧ (rj.1 = 6 ↔ rj.2.2 ≠ 0)
abbrev isRe (b j : Nat) : Prop := b = 47 ∧ (j = 8 ∨ j = 12 ∨ j = 13 ∨ j = 14)
theorem ReI.keep {P : Nat → Nat → Prop} {w w1 : Wd} {sy : Int} {rj : Nat × Int32 × Nat} (h : ReI w sy rj) (hF : Fz P w w1) (n : ∀ b j, isRe b j → ¬ P b j) : ReI w1 sy rj :=
  ⟨⟨(hF.gi (n _ _ (by omega))).trans h.1.1, h.1.2⟩, ⟨(hF.gi (n _ _ (by omega))).trans h.2.1.1, h.2.1.2⟩, (hF.gi (n _ _ (by omega))).trans h.2.2.1, ⟨(hF.gi (n _ _ (by omega))).trans h.2.2.2.1.1, h.2.2.2.1.2⟩, h.2.2.2.2⟩
/-- the plain form holds the system S -/
def MI (w : Wd) (S : Sys) : Prop := Bk w 48 0 S.1 ∧ PaI w S.2.1 ∧ SaI w S.2.2.1 ∧ LiI w S.2.2.2.1 ∧ InpI w S.2.2.2.2.1 ∧ ReI w S.2.2.2.2.2.1 S.2.2.2.2.2.2 ∧ Tb w
/-- what an answer may change beside: notes of one call -/
abbrev PScr (b j : Nat) : Prop := (b = 47 ∧ (j = 9 ∨ j = 15 ∨ j = 16 ∨ 28 ≤ j)) ∨ b = 49 ∨ b = 50 ∨ b = 52 ∨ b = 57 ∨ b = 58 ∨ b = 59 ∨ b = 64
theorem MI.scr {w w1 : Wd} {S : Sys} (h : MI w S) (hF : Fz PScr w w1) : MI w1 S :=
  ⟨h.1.keep hF (fun k _ => by omega), h.2.1.keep hF (fun b j q => by omega), h.2.2.1.keep hF (fun b j q => by omega), h.2.2.2.1.keep hF (fun b j q => by omega), h.2.2.2.2.1.keep hF (fun b j q => by omega), h.2.2.2.2.2.1.keep hF (fun b j q => by omega), h.2.2.2.2.2.2.keep hF (fun b j q => by omega)⟩
abbrev PMut (b j : Nat) : Prop := b = 48 ∨ PScr b j
theorem MI.mut {w w1 : Wd} {S : Sys} {s : St} (h : MI w S) (hF : Fz PMut w w1) (hB : Bk w1 48 0 s) : MI w1 (s, S.2) :=
  ⟨hB, h.2.1.keep hF (fun b j q => by omega), h.2.2.1.keep hF (fun b j q => by omega), h.2.2.2.1.keep hF (fun b j q => by omega), h.2.2.2.2.1.keep hF (fun b j q => by omega), h.2.2.2.2.2.1.keep hF (fun b j q => by omega), h.2.2.2.2.2.2.keep hF (fun b j q => by omega)⟩
/-- how a call on the plain form ends -/
def PoM (R : Res) (w : Wd) : Out → Wd → Prop := fun o w1 => (∃ x, o = Sum.inl (some (.int x)) ∧ (R.1 = 0 → x = R.2.1)) ∧ MI w1 R.2.2 ∧ gI w1 47 9 = nI R.1 ∧ Fr InMo w w1
/-- frames of the helpers -/
abbrev PTh (b j : Nat) : Prop := b = 47 ∧ j = 9
abbrev PRj (b j : Nat) : Prop := b = 47 ∧ (j = 9 ∨ j = 15 ∨ j = 16)
abbrev PSt (b j : Nat) : Prop := (b = 47 ∧ (j = 9 ∨ j = 15)) ∨ b = 49
abbrev PPa (b j : Nat) : Prop := b = 48 ∨ (b = 52 ∧ j = j)
abbrev PIt (b j : Nat) : Prop := b = 48 ∨ b = 52 ∨ (b = 47 ∧ (j = 9 ∨ j = 15 ∨ j = 16))
abbrev PIs (b j : Nat) : Prop := b = 57 ∨ b = 58 ∨ (b = 59 ∧ j = j)
abbrev PTho (b j : Nat) : Prop := b = 50 ∧ j = j
abbrev PMm (b j : Nat) : Prop := b = 48 ∧ j = j
end MSPEC
