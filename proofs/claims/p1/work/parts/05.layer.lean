/-! THE LAYER: one world for the whole system, read by places; a judgement V over it. -/
section LAYER
abbrev kM : Type := MethodName × ByteArray × Nat × Option FieldType × List (Nat × Nat × Nat × Nat)
abbrev mY (M : kM) : MethodName := M.1
abbrev mC (M : kM) : ByteArray := M.2.1
abbrev mN (M : kM) : Nat := M.2.2.1
abbrev mR (M : kM) : Option FieldType := M.2.2.2.1
abbrev mH (M : kM) : List (Nat × Nat × Nat × Nat) := M.2.2.2.2
def wM (M : kM) : Cond := match mH M with
  | [] => Cond.code (mY M) (mC M) (mN M) (mR M)
  | h :: t => Cond.codeWith (mY M) (mC M) (mN M) (mR M) (h :: t)
def TG : List Cond := lw_tbl.filter goodWord
theorem tg_of {w : Cond} (i : Nat) (h : lw_tbl[i]? = some w) (hg : goodWord w = true) : w ∈ TG := List.mem_filter.mpr ⟨List.mem_of_getElem? h, hg⟩
theorem tg_good : ∀ w ∈ TG, goodWord w = true := fun _ h => (List.mem_filter.mp h).2
def okM (My : kM) (n : Nat) : Prop := mH My = [] ∧ wM My ∈ TG ∧ Cond.initialized (mY My).cls ∈ TG ∧ (mY My).cls ≠ "java/lang/invoke/MethodHandle" ∧ (mY My).cls ≠ "java/lang/invoke/VarHandle" ∧ (parseMethodDescriptor (mY My).desc).map (fun d => d.parameters.length) = some n
def okV (My : kM) (n : Nat) : Prop := okM My n ∧ Cond.instanceMethod (mY My) ∈ TG ∧ Cond.selects (mY My).cls (mY My) (mY My) ∈ TG
def okS (My : kM) (n : Nat) : Prop := okM My n ∧ Cond.static (mY My) ∈ TG
def okI (My : kM) (n : Nat) : Prop := okM My n ∧ Cond.instanceMethod (mY My) ∈ TG ∧ (mY My).name = "<init>" ∧ mR My = none
/-- the classes whose objects the world holds -/
abbrev kCl : List vw_C := [(RX1, TX1, 11), (RX2, TX2, 3), (RX3, TX3, 3), (RX4, TX4, 2), (RX7, TX7, 1), (RX8, TX8, 9), (RX10, TX10, 13), (RX11, TX11, 32)]
/-- what the cells hold: how many there are; ints, references, longs, doubles by cell and place -/
abbrev Wd : Type := Nat × (Nat → Nat → Int32) × (Nat → Nat → Option Nat) × (Nat → Nat → Int64) × (Nat → Nat → UInt64)
def wn (w : Wd) : Nat := w.1
def gI (w : Wd) (a k : Nat) : Int32 := w.2.1 a k
def gR (w : Wd) (a k : Nat) : Option Nat := w.2.2.1 a k
def gL (w : Wd) (a k : Nat) : Int64 := w.2.2.2.1 a k
def gF (w : Wd) (a k : Nat) : UInt64 := w.2.2.2.2 a k
def up2 {α : Type} (f : Nat → Nat → α) (a k : Nat) (v : α) : Nat → Nat → α := fun b j => if b = a ∧ j = k then v else f b j
def pI (w : Wd) (a k : Nat) (v : Int32) : Wd := (w.1, up2 w.2.1 a k v, w.2.2)
def pR (w : Wd) (a k : Nat) (v : Option Nat) : Wd := (w.1, w.2.1, up2 w.2.2.1 a k v, w.2.2.2)
def pL (w : Wd) (a k : Nat) (v : Int64) : Wd := (w.1, w.2.1, w.2.2.1, up2 w.2.2.2.1 a k v, w.2.2.2.2)
def pF (w : Wd) (a k : Nat) (v : UInt64) : Wd := (w.1, w.2.1, w.2.2.1, w.2.2.2.1, up2 w.2.2.2.2 a k v)
/-- the shape of a cell: (0, class, kinds of the slots: 0 int, 1 reference, k + 2 always the cell k); (1 int, 2 char, 3 long, 4 double, 5 State; length) -/
abbrev Shp : Type := Nat × Nat × List Nat
/-- the bundle that a run fixes: numbers of classes, slots, array classes; where a place lies; the first of the new cells -/
abbrev kG : Type := (Nat → ClassId) × (Nat → Nat → Nat) × (Nat → ClassId) × (Nat → Nat) × Nat
def gD (G : kG) : va_G := (G.1, G.2.1)
def gC (G : kG) : Nat → ClassId := G.2.2.1
def gA (G : kG) : Nat → Nat := G.2.2.2.1
def gB (G : kG) : Nat := G.2.2.2.2
def AG (G : kG) : Nat → Prop := fun q => gB G ≤ q
def rv (G : kG) (v : Value) : Value := match v with
  | .ref k => .ref (gA G k)
  | v => v
def slotV (G : kG) (w : Wd) (a j kind : Nat) : Value := match kind with
  | 0 => .int (gI w a j)
  | 1 => va_rf ((gR w a j).map (gA G))
  | k + 2 => .ref (gA G k)
def cellOf (G : kG) (w : Wd) (a : Nat) (s : Shp) : va_E := match s.1 with
  | 0 => .inr (s.2.1, (List.range s.2.2.length).map fun j => slotV G w a j (s.2.2.getD j 0))
  | 1 => .inl (gC G 0, s.2.1, .inl (gI w a))
  | 2 => .inl (gC G 1, s.2.1, .inl (gI w a))
  | 3 => .inl (gC G 2, s.2.1, .inr (.inl (gL w a)))
  | 4 => .inl (gC G 3, s.2.1, .inr (.inr (.inr (.inl (gF w a)))))
  | _ => .inl (gC G 4, s.2.1, .inr (.inr (.inr (.inr fun j => (gR w a j).map (gA G)))))
abbrev kTys (G : kG) : List (ClassId × FieldType) := [(gC G 0, .int), (gC G 1, .char), (gC G 2, .long), (gC G 3, .double), (gC G 4, .object "ButtonReef$State")]
def stK : Shp := (0, 5, [])
/-- the shapes of the cells in the order in which they are made; phase 0: while they are made, phase 1: behind that -/
def shp0 : List Shp := []
def wl (G : kG) (sh : Nat → Shp) (w : Wd) : va_W := (List.range (wn w)).map fun a => (gA G a, cellOf G w a (sh a))
def Gok (G : kG) : Prop := ∀ k, k < 1000 → gA G k = gB G + k
theorem wl_at {G : kG} {sh : Nat → Shp} {w : Wd} {a : Nat} (h : a < wn w) : (wl G sh w)[a]? = some (gA G a, cellOf G w a (sh a)) := by
  unfold wl; simp [h]
theorem wl_of {G : kG} {sh : Nat → Shp} {w : Wd} {a : Nat} {q : Nat × va_E} (h : (wl G sh w)[a]? = some q) : a < wn w ∧ q = (gA G a, cellOf G w a (sh a)) := by
  unfold wl at h
  by_cases ha : a < wn w
  · refine ⟨ha, ?_⟩
    simp [ha] at h
    exact h.symm
  · simp [ha] at h
theorem wl_D {G : kG} {sh : Nat → Shp} {w : Wd} (hG : Gok G) (hw : wn w < 1000) : va_D (AG G) (wl G sh w) := by
  refine ⟨fun i j p q hi hj e => ?_, fun k q hk => ?_⟩
  · obtain ⟨h1, rfl⟩ := wl_of hi
    obtain ⟨h2, rfl⟩ := wl_of hj
    have e1 : gA G i = gA G j := e
    rw [hG i (by omega), hG j (by omega)] at e1
    omega
  · obtain ⟨h1, rfl⟩ := wl_of hk
    show gB G ≤ gA G k
    rw [hG k (by omega)]
    omega
theorem wl_ext {G : kG} {sh : Nat → Shp} {w w' : Wd} {a : Nat} (hn : wn w' = wn w) (ha : a < wn w) (ho : ∀ b, b < wn w → b ≠ a → cellOf G w' b (sh b) = cellOf G w b (sh b)) : wl G sh w' = (wl G sh w).set a (gA G a, cellOf G w' a (sh a)) := by
  refine List.ext_getElem? fun i => ?_
  by_cases hi : i < wn w
  · rw [wl_at (by rw [hn]; exact hi)]
    by_cases hia : i = a
    · subst hia
      rw [List.getElem?_set_self (by unfold wl; simpa using hi)]
    · rw [List.getElem?_set_ne (Ne.symm hia), wl_at hi, ho i hi hia]
  · have h1 : (wl G sh w').length = wn w' := by unfold wl; simp
    have h2 : ((wl G sh w).set a (gA G a, cellOf G w' a (sh a))).length = wn w := by unfold wl; simp
    rw [List.getElem?_eq_none (by omega), List.getElem?_eq_none (by omega)]
theorem gI_pI (w : Wd) (a k b j : Nat) (v : Int32) : gI (pI w a k v) b j = if b = a ∧ j = k then v else gI w b j := rfl
theorem gR_pR (w : Wd) (a k b j : Nat) (v : Option Nat) : gR (pR w a k v) b j = if b = a ∧ j = k then v else gR w b j := rfl
theorem gL_pL (w : Wd) (a k b j : Nat) (v : Int64) : gL (pL w a k v) b j = if b = a ∧ j = k then v else gL w b j := rfl
theorem gF_pF (w : Wd) (a k b j : Nat) (v : UInt64) : gF (pF w a k v) b j = if b = a ∧ j = k then v else gF w b j := rfl
theorem gI_pR (w : Wd) (a k b j : Nat) (v : Option Nat) : gI (pR w a k v) b j = gI w b j := rfl
theorem gI_pL (w : Wd) (a k b j : Nat) (v : Int64) : gI (pL w a k v) b j = gI w b j := rfl
theorem gI_pF (w : Wd) (a k b j : Nat) (v : UInt64) : gI (pF w a k v) b j = gI w b j := rfl
theorem gR_pI (w : Wd) (a k b j : Nat) (v : Int32) : gR (pI w a k v) b j = gR w b j := rfl
theorem gR_pL (w : Wd) (a k b j : Nat) (v : Int64) : gR (pL w a k v) b j = gR w b j := rfl
theorem gR_pF (w : Wd) (a k b j : Nat) (v : UInt64) : gR (pF w a k v) b j = gR w b j := rfl
theorem gL_pI (w : Wd) (a k b j : Nat) (v : Int32) : gL (pI w a k v) b j = gL w b j := rfl
theorem gL_pR (w : Wd) (a k b j : Nat) (v : Option Nat) : gL (pR w a k v) b j = gL w b j := rfl
theorem gL_pF (w : Wd) (a k b j : Nat) (v : UInt64) : gL (pF w a k v) b j = gL w b j := rfl
theorem gF_pI (w : Wd) (a k b j : Nat) (v : Int32) : gF (pI w a k v) b j = gF w b j := rfl
theorem gF_pR (w : Wd) (a k b j : Nat) (v : Option Nat) : gF (pR w a k v) b j = gF w b j := rfl
theorem gF_pL (w : Wd) (a k b j : Nat) (v : Int64) : gF (pL w a k v) b j = gF w b j := rfl
theorem cell_pI_ne {G : kG} {w : Wd} {a k b : Nat} {v : Int32} {s : Shp} (h : b ≠ a) : cellOf G (pI w a k v) b s = cellOf G w b s := by
  have e : gI (pI w a k v) b = gI w b := by funext j; rw [gI_pI, if_neg (fun q => h q.1)]
  unfold cellOf
  split <;> first | rfl | (simp only [slotV, e, gR_pI, gL_pI, gF_pI]; try rfl) | skip
theorem cell_pR_ne {G : kG} {w : Wd} {a k b : Nat} {v : Option Nat} {s : Shp} (h : b ≠ a) : cellOf G (pR w a k v) b s = cellOf G w b s := by
  have e : gR (pR w a k v) b = gR w b := by funext j; rw [gR_pR, if_neg (fun q => h q.1)]
  unfold cellOf
  split <;> first | rfl | (simp only [slotV, e, gI_pR, gL_pR, gF_pR]; try rfl) | skip
theorem cell_pL_ne {G : kG} {w : Wd} {a k b : Nat} {v : Int64} {s : Shp} (h : b ≠ a) : cellOf G (pL w a k v) b s = cellOf G w b s := by
  have e : gL (pL w a k v) b = gL w b := by funext j; rw [gL_pL, if_neg (fun q => h q.1)]
  unfold cellOf
  split <;> first | rfl | (simp only [slotV, e, gI_pL, gR_pL, gF_pL]; try rfl) | skip
theorem cell_pF_ne {G : kG} {w : Wd} {a k b : Nat} {v : UInt64} {s : Shp} (h : b ≠ a) : cellOf G (pF w a k v) b s = cellOf G w b s := by
  have e : gF (pF w a k v) b = gF w b := by funext j; rw [gF_pF, if_neg (fun q => h q.1)]
  unfold cellOf
  split <;> first | rfl | (simp only [slotV, e, gI_pF, gR_pF, gL_pF]; try rfl) | skip
end LAYER
