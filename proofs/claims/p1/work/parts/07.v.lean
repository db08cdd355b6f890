/-! THE JUDGEMENT: shapes of the cells, the relation to a heap, contracts, rows. Printed by wip/whole/gen/mk07.py. -/
section VLAYER
def shL0 : List Shp := [(0, 6, [1, 1, 1, 1, 1, 1, 1, 1, 0, 0, 0, 0, 0]), (0, 5, [1, 1, 1, 0, 0, 0, 0, 0, 0]), (2, 64, []), (1, 64, []), (0, 5, [1, 1, 1, 0, 0, 0, 0, 0, 0]), (2, 64, []), (1, 64, []), (0, 5, [1, 1, 1, 0, 0, 0, 0, 0, 0]), (2, 64, []), (1, 64, []), (0, 1, [1, 0, 0]), (5, 8, []), (0, 5, [1, 1, 1, 0, 0, 0, 0, 0, 0]), (2, 64, []), (1, 64, []), (0, 5, [1, 1, 1, 0, 0, 0, 0, 0, 0]), (2, 64, []), (1, 64, []), (0, 5, [1, 1, 1, 0, 0, 0, 0, 0, 0]), (2, 64, []), (1, 64, []), (0, 5, [1, 1, 1, 0, 0, 0, 0, 0, 0]), (2, 64, []), (1, 64, []), (0, 5, [1, 1, 1, 0, 0, 0, 0, 0, 0]), (2, 64, []), (1, 64, []), (0, 5, [1, 1, 1, 0, 0, 0, 0, 0, 0]), (2, 64, []), (1, 64, []), (0, 5, [1, 1, 1, 0, 0, 0, 0, 0, 0]), (2, 64, []), (1, 64, []), (0, 5, [1, 1, 1, 0, 0, 0, 0, 0, 0]), (2, 64, []), (1, 64, []), (0, 4, [1]), (0, 5, [1, 1, 1, 0, 0, 0, 0, 0, 0]), (2, 64, []), (1, 64, []), (0, 2, [1, 1, 0]), (1, 64, []), (1, 64, []), (0, 3, [1, 0]), (2, 32, []), (0, 0, [1, 0, 0, 1, 0, 0, 0, 0, 0, 1, 1]), (2, 60, []), (0, 7, [1, 1, 1, 1, 1, 0, 1, 0, 0, 0, 1, 0, 0, 0, 0, 0, 0, 1, 1, 1, 1, 1, 1, 0, 1, 1, 1, 1, 0, 0, 0, 0]), (1, 71, []), (1, 71, []), (1, 71, []), (1, 71, []), (1, 64, []), (1, 568, []), (1, 60, []), (1, 17, []), (1, 5, []), (1, 64, []), (1, 64, []), (1, 65, []), (1, 32, []), (2, 12, []), (2, 43, []), (1, 8, []), (1, 305, []), (3, 1, []), (4, 1, [])]
def shL1 : List Shp := [(0, 6, [3, 6, 9, 12, 38, 42, 45, 47, 0, 0, 0, 0, 0]), (0, 5, [4, 5, 1, 0, 0, 0, 0, 0, 0]), (2, 64, []), (1, 64, []), (0, 5, [7, 8, 1, 0, 0, 0, 0, 0, 0]), (2, 64, []), (1, 64, []), (0, 5, [10, 11, 1, 0, 0, 0, 0, 0, 0]), (2, 64, []), (1, 64, []), (0, 1, [13, 0, 0]), (5, 8, []), (0, 5, [15, 16, 1, 0, 0, 0, 0, 0, 0]), (2, 64, []), (1, 64, []), (0, 5, [18, 19, 1, 0, 0, 0, 0, 0, 0]), (2, 64, []), (1, 64, []), (0, 5, [21, 22, 1, 0, 0, 0, 0, 0, 0]), (2, 64, []), (1, 64, []), (0, 5, [24, 25, 1, 0, 0, 0, 0, 0, 0]), (2, 64, []), (1, 64, []), (0, 5, [27, 28, 1, 0, 0, 0, 0, 0, 0]), (2, 64, []), (1, 64, []), (0, 5, [30, 31, 1, 0, 0, 0, 0, 0, 0]), (2, 64, []), (1, 64, []), (0, 5, [33, 34, 1, 0, 0, 0, 0, 0, 0]), (2, 64, []), (1, 64, []), (0, 5, [36, 37, 1, 0, 0, 0, 0, 0, 0]), (2, 64, []), (1, 64, []), (0, 4, [39]), (0, 5, [40, 41, 1, 0, 0, 0, 0, 0, 0]), (2, 64, []), (1, 64, []), (0, 2, [43, 44, 0]), (1, 64, []), (1, 64, []), (0, 3, [46, 0]), (2, 32, []), (0, 0, [48, 0, 0, 1, 0, 0, 0, 0, 0, 1, 1]), (2, 60, []), (0, 7, [50, 51, 52, 53, 54, 0, 55, 0, 0, 0, 56, 0, 0, 0, 0, 0, 0, 57, 58, 59, 60, 61, 62, 0, 63, 64, 65, 66, 0, 0, 0, 0]), (1, 71, []), (1, 71, []), (1, 71, []), (1, 71, []), (1, 64, []), (1, 568, []), (1, 60, []), (1, 17, []), (1, 5, []), (1, 64, []), (1, 64, []), (1, 65, []), (1, 32, []), (2, 12, []), (2, 43, []), (1, 8, []), (1, 305, []), (3, 1, []), (4, 1, [])]
def shp (ph a : Nat) : Shp := match ph with
  | 0 => shL0.getD a (9, 0, [])
  | _ => shL1.getD a (9, 0, [])
def Rl (G : kG) (ph : Nat) (w : Wd) (H : Heap) : Prop := va_P (gD G) kCl (wl G (shp ph) w) H ∧ wn w ≤ 67 ∧ gB G + wn w ≤ H.size ∧ (ph = 0 → H.size = gB G + wn w) ∧ (ph = 1 → wn w = 67)
abbrev Out : Type := Option Value ⊕ String
def wsM (M : kM) : List Cond := wM M :: TG
abbrev rmD (d mc ms : Nat) : Room := { frames := d, cells := mc, slots := ms, locals := 200 * d }
def QcP (G : kG) (ph : Nat) (Po : Out → Wd → Prop) : Array Value → State → Outcome → State → Prop := fun _ st o t => (∃ (v : Option Value) (w' : Wd), o = .returned (v.map (rv G)) ∧ Po (.inl v) w' ∧ Rl G ph w' t.heap) ∧ va_F (AG G) st t
def XCP (G : kG) (ph : Nat) (Po : Out → Wd → Prop) : String → State → State → Prop := fun E st t => (∃ w' : Wd, Po (.inr E) w' ∧ Rl G ph w' t.heap) ∧ va_F (AG G) st t
/-- a method's contract: from the world w, called with av, at depth d, with mc new cells of ms slots, it ends as Po says -/
def Ct (ph : Nat) (M : kM) (d mc ms : Nat) (av : List Value) (w : Wd) (Po : Out → Wd → Prop) : Prop :=
  ∀ (l : Launch) (G : kG), l.stackTraces = false → vx_Met l (mY M) (wsM M) (rmD d mc ms) (va_Pc (av.map (rv G)) (fun U => Rl G ph w U.heap ∧ Ev G U U.heap)) (QcP G ph Po) (XCP G ph Po) mc ms (AG G)
/-- what stays the same on a method's way -/
def Fx (M : kM) (d mc ms : Nat) (X : kG → State → Prop) (p : Program) (l : Launch) (R : Room) (s : State) (m : MethodId) (args : Array Value) (meth : Method) (c : Code) (G : kG) : Prop :=
  p.tables.exec = Jvm.exec ∧ c.code = mC M ∧ c.maxLocals = mN M ∧ s.vm.findClass (mY M).cls = some m.cls ∧ (∀ w ∈ TG, w.before args s = true) ∧ meth.locks = false ∧ meth.sig.returnType = mR M ∧ meth.name = (mY M).name ∧ c.exceptionTable.toList = tableOf (mH M) ∧ l.stackTraces = false ∧ (d ≤ R.frames ∧ 200 * d ≤ R.locals ∧ mc ≤ R.cells ∧ ms ≤ R.slots) ∧ Ev G s s.heap ∧ X G s
/-- the values in the locals, by their places -/
def lvl (G : kG) (L : List (Option Value)) : List (Nat × Value) := (List.range L.length).filterMap fun i => match L[i]? with
  | some (some v) => some (i, rv G v)
  | _ => none
theorem lvl_mem {G : kG} {L : List (Option Value)} {i : Nat} {v : Value} (h : L[i]? = some (some v)) : (i, rv G v) ∈ lvl G L := by
  refine List.mem_filterMap.mpr ⟨i, List.mem_range.mpr (List.getElem?_eq_some_iff.mp h).1, ?_⟩
  rw [h]
theorem lvl_of {G : kG} {L : List (Option Value)} {q : Nat × Value} (h : q ∈ lvl G L) : ∃ v, L[q.1]? = some (some v) ∧ q.2 = rv G v := by
  obtain ⟨i, hi, he⟩ := List.mem_filterMap.mp h
  split at he
  · next v hv => cases he; exact ⟨v, hv, rfl⟩
  · cases he
theorem lv_mono {ls : Array Slot} {n : Nat} {l l' : List (Nat × Value)} (h : lv_has ls n l) (hs : ∀ q ∈ l', q ∈ l) : lv_has ls n l' := ⟨h.1, h.2.1, fun q hq => h.2.2 q (hs q hq)⟩
/-- the value ahead of a place is none of two words -/
def nod (L : List (Option Value)) (i : Nat) : Bool := i == 0 || (match L[i - 1]? with
  | some (some v) => v.category == 1
  | _ => true)
/-- the judgement: from here, with kc cells and ks slots left to make, the method ends as Po says -/
def V (ph : Nat) (M : kM) (d mc ms : Nat) (Po : Out → Wd → Prop) (X : kG → State → Prop) (kc ks pc : Nat) (L : List (Option Value)) (st : List Value) (w : Wd) : Prop :=
  ∀ (p : Program) (l : Launch) (e : Env) (R : Room) (s : State) (m : MethodId) (args : Array Value) (below : List Frame) (meth : Method) (c : Code) (G : kG), Fx M d mc ms X p l R s m args meth c G →
  ∀ (H : Heap) (locs : List Loc) (ls : Array Slot) (cells slots : Nat), Rl G ph w H → va_S (AG G) s.heap H locs → lv_has ls (mN M) (lvl G L) → cells + kc ≤ mc → slots + ks ≤ ms →
  W p l e R s m args below meth c H locs cells slots (vx_MQ below (QcP G ph Po) (XCP G ph Po) args s mc ms (AG G)) (F0 m pc ls (st.map (rv G)))
section ROWS
variable {ph : Nat} {M : kM} {d mc ms : Nat} {Po : Out → Wd → Prop} {X : kG → State → Prop} {kc ks pc : Nat} {L : List (Option Value)} {st : List Value} {w : Wd}
theorem lv_get {G : kG} {ls : Array Slot} {n : Nat} {L : List (Option Value)} {i : Nat} {v : Value} (hl : lv_has ls n (lvl G L)) (h : L[i]? = some (some v)) : ls[i]? = some (.val (rv G v)) := hl.2.2 _ (lvl_mem h)
theorem lv_put1 {G : kG} {L : List (Option Value)} {i : Nat} {v : Value} (hi : i < L.length) (hn : nod L i = true) : ∀ q ∈ lvl G (L.set i (some v)), q ∈ (i, rv G v) :: (lvl G L).filter (fun q => !(q.1 == i) && !(q.1 + 1 == i && q.2.category == 2)) := by
  intro q hq
  obtain ⟨x, h1, h2⟩ := lvl_of hq
  by_cases e : q.1 = i
  · rw [e, List.getElem?_set_self hi] at h1
    cases h1
    exact List.mem_cons.mpr (Or.inl (by rw [← e, ← h2]))
  · rw [List.getElem?_set_ne (fun z => e z.symm)] at h1
    refine List.mem_cons_of_mem _ (List.mem_filter.mpr ⟨?_, ?_⟩)
    · have h9 := lvl_mem (G := G) h1
      rw [← h2] at h9
      exact h9
    · have ha : (q.1 == i) = false := beq_false_of_ne e
      rw [ha]
      by_cases e2 : q.1 + 1 = i
      · have e3 : i - 1 = q.1 := by omega
        unfold nod at hn
        rw [e3, h1] at hn
        have hi0 : (i == 0) = false := beq_false_of_ne (by omega)
        rw [hi0] at hn
        have hc : x.category = 1 := by simpa using hn
        have hc2 : q.2.category = 1 := by rw [h2]; cases x <;> first | exact hc | rfl
        simp [hc2]
      · have hb : (q.1 + 1 == i) = false := beq_false_of_ne e2
        rw [hb]; rfl
theorem lv_put2 {G : kG} {L : List (Option Value)} {i : Nat} {v : Value} (hi : i < L.length) (hn : nod L i = true) : ∀ q ∈ lvl G ((L.set (i + 1) none).set i (some v)), q ∈ (i, rv G v) :: (lvl G L).filter (fun q => !(q.1 == i) && (!(q.1 == i + 1) && !(q.1 + 1 == i && q.2.category == 2))) := by
  intro q hq
  obtain ⟨x, h1, h2⟩ := lvl_of hq
  by_cases e : q.1 = i
  · rw [e, List.getElem?_set_self (by simpa using hi)] at h1
    cases h1
    exact List.mem_cons.mpr (Or.inl (by rw [← e, ← h2]))
  · rw [List.getElem?_set_ne (fun z => e z.symm)] at h1
    have e9 : q.1 ≠ i + 1 := by
      intro z
      rw [z] at h1
      by_cases hl : i + 1 < L.length
      · rw [List.getElem?_set_self hl] at h1; cases h1
      · rw [List.getElem?_eq_none (by simpa using hl)] at h1; cases h1
    rw [List.getElem?_set_ne (fun z => e9 z.symm)] at h1
    refine List.mem_cons_of_mem _ (List.mem_filter.mpr ⟨?_, ?_⟩)
    · have h9 := lvl_mem (G := G) h1
      rw [← h2] at h9
      exact h9
    · have ha : (q.1 == i) = false := beq_false_of_ne e
      have hb : (q.1 == i + 1) = false := beq_false_of_ne e9
      rw [ha, hb]
      by_cases e2 : q.1 + 1 = i
      · have e3 : i - 1 = q.1 := by omega
        unfold nod at hn
        rw [e3, h1] at hn
        have hi0 : (i == 0) = false := beq_false_of_ne (by omega)
        rw [hi0] at hn
        have hc : x.category = 1 := by simpa using hn
        have hc2 : q.2.category = 1 := by rw [h2]; cases x <;> first | exact hc | rfl
        simp [hc2]
      · have hb : (q.1 + 1 == i) = false := beq_false_of_ne e2
        rw [hb]; rfl
theorem V_iconst {n : Int} {v : Int32} (hd : decode (mC M) pc = .ok (.iconst n, 1)) (hv : Int32.ofInt n = v) (k : V ph M d mc ms Po X kc ks (pc + 1) L (.int v :: st) w) : V ph M d mc ms Po X kc ks pc L st w :=
  fun p l e R s m args below meth c G F H locs ls cells slots hR hS hl h1 h2 => lv_iconst F.1 F.2.1 hd hv (k p l e R s m args below meth c G F H locs ls cells slots hR hS hl h1 h2)
theorem V_bipush {n : Int} {v : Int32} (hd : decode (mC M) pc = .ok (.bipush n, 2)) (hv : (Int8.ofInt n).toInt32 = v) (k : V ph M d mc ms Po X kc ks (pc + 2) L (.int v :: st) w) : V ph M d mc ms Po X kc ks pc L st w :=
  fun p l e R s m args below meth c G F H locs ls cells slots hR hS hl h1 h2 => lv_bipush F.1 F.2.1 hd hv (k p l e R s m args below meth c G F H locs ls cells slots hR hS hl h1 h2)
theorem V_sipush {n : Int} {v : Int32} (hd : decode (mC M) pc = .ok (.sipush n, 3)) (hv : (Int16.ofInt n).toInt32 = v) (k : V ph M d mc ms Po X kc ks (pc + 3) L (.int v :: st) w) : V ph M d mc ms Po X kc ks pc L st w :=
  fun p l e R s m args below meth c G F H locs ls cells slots hR hS hl h1 h2 => lv_sipush F.1 F.2.1 hd hv (k p l e R s m args below meth c G F H locs ls cells slots hR hS hl h1 h2)
theorem V_lconst {n : Fin 2} {v : Int64} (hd : decode (mC M) pc = .ok (.lconst n, 1)) (hv : Int64.ofNat (n : Nat) = v) (k : V ph M d mc ms Po X kc ks (pc + 1) L (.long v :: st) w) : V ph M d mc ms Po X kc ks pc L st w :=
  fun p l e R s m args below meth c G F H locs ls cells slots hR hS hl h1 h2 => lv_lconst F.1 F.2.1 hd hv (k p l e R s m args below meth c G F H locs ls cells slots hR hS hl h1 h2)
theorem V_iload_n {j : Fin 4} {i : Nat} {x : Int32} (hd : decode (mC M) pc = .ok (.iload_n j, 1)) (hi : (j : Nat) = i) (hL : L[i]? = some (some (.int x))) (k : V ph M d mc ms Po X kc ks (pc + 1) L (.int x :: st) w) : V ph M d mc ms Po X kc ks pc L st w :=
  fun p l e R s m args below meth c G F H locs ls cells slots hR hS hl h1 h2 => lv_iload_n F.1 F.2.1 hd hi (lv_get hl hL) (k p l e R s m args below meth c G F H locs ls cells slots hR hS hl h1 h2)
theorem V_iload {i : Nat} {x : Int32} (hd : decode (mC M) pc = .ok (.iload i, 2)) (hL : L[i]? = some (some (.int x))) (k : V ph M d mc ms Po X kc ks (pc + 2) L (.int x :: st) w) : V ph M d mc ms Po X kc ks pc L st w :=
  fun p l e R s m args below meth c G F H locs ls cells slots hR hS hl h1 h2 => lv_iload F.1 F.2.1 hd (lv_get hl hL) (k p l e R s m args below meth c G F H locs ls cells slots hR hS hl h1 h2)
theorem V_lload_n {j : Fin 4} {i : Nat} {x : Int64} (hd : decode (mC M) pc = .ok (.lload_n j, 1)) (hi : (j : Nat) = i) (hL : L[i]? = some (some (.long x))) (k : V ph M d mc ms Po X kc ks (pc + 1) L (.long x :: st) w) : V ph M d mc ms Po X kc ks pc L st w :=
  fun p l e R s m args below meth c G F H locs ls cells slots hR hS hl h1 h2 => lv_lload_n F.1 F.2.1 hd hi (lv_get hl hL) (k p l e R s m args below meth c G F H locs ls cells slots hR hS hl h1 h2)
theorem V_lload {i : Nat} {x : Int64} (hd : decode (mC M) pc = .ok (.lload i, 2)) (hL : L[i]? = some (some (.long x))) (k : V ph M d mc ms Po X kc ks (pc + 2) L (.long x :: st) w) : V ph M d mc ms Po X kc ks pc L st w :=
  fun p l e R s m args below meth c G F H locs ls cells slots hR hS hl h1 h2 => lv_lload F.1 F.2.1 hd (lv_get hl hL) (k p l e R s m args below meth c G F H locs ls cells slots hR hS hl h1 h2)
theorem V_fload_n {j : Fin 4} {i : Nat} {x : UInt32} (hd : decode (mC M) pc = .ok (.fload_n j, 1)) (hi : (j : Nat) = i) (hL : L[i]? = some (some (.float x))) (k : V ph M d mc ms Po X kc ks (pc + 1) L (.float x :: st) w) : V ph M d mc ms Po X kc ks pc L st w :=
  fun p l e R s m args below meth c G F H locs ls cells slots hR hS hl h1 h2 => lv_fload_n F.1 F.2.1 hd hi (lv_get hl hL) (k p l e R s m args below meth c G F H locs ls cells slots hR hS hl h1 h2)
theorem V_fload {i : Nat} {x : UInt32} (hd : decode (mC M) pc = .ok (.fload i, 2)) (hL : L[i]? = some (some (.float x))) (k : V ph M d mc ms Po X kc ks (pc + 2) L (.float x :: st) w) : V ph M d mc ms Po X kc ks pc L st w :=
  fun p l e R s m args below meth c G F H locs ls cells slots hR hS hl h1 h2 => lv_fload F.1 F.2.1 hd (lv_get hl hL) (k p l e R s m args below meth c G F H locs ls cells slots hR hS hl h1 h2)
theorem V_dload_n {j : Fin 4} {i : Nat} {x : UInt64} (hd : decode (mC M) pc = .ok (.dload_n j, 1)) (hi : (j : Nat) = i) (hL : L[i]? = some (some (.double x))) (k : V ph M d mc ms Po X kc ks (pc + 1) L (.double x :: st) w) : V ph M d mc ms Po X kc ks pc L st w :=
  fun p l e R s m args below meth c G F H locs ls cells slots hR hS hl h1 h2 => lv_dload_n F.1 F.2.1 hd hi (lv_get hl hL) (k p l e R s m args below meth c G F H locs ls cells slots hR hS hl h1 h2)
theorem V_dload {i : Nat} {x : UInt64} (hd : decode (mC M) pc = .ok (.dload i, 2)) (hL : L[i]? = some (some (.double x))) (k : V ph M d mc ms Po X kc ks (pc + 2) L (.double x :: st) w) : V ph M d mc ms Po X kc ks pc L st w :=
  fun p l e R s m args below meth c G F H locs ls cells slots hR hS hl h1 h2 => lv_dload F.1 F.2.1 hd (lv_get hl hL) (k p l e R s m args below meth c G F H locs ls cells slots hR hS hl h1 h2)
theorem V_aload_n {j : Fin 4} {i : Nat} {x : Nat} (hd : decode (mC M) pc = .ok (.aload_n j, 1)) (hi : (j : Nat) = i) (hL : L[i]? = some (some (.ref x))) (k : V ph M d mc ms Po X kc ks (pc + 1) L (.ref x :: st) w) : V ph M d mc ms Po X kc ks pc L st w :=
  fun p l e R s m args below meth c G F H locs ls cells slots hR hS hl h1 h2 => lv_aload_n F.1 F.2.1 hd hi (lv_get hl hL) (k p l e R s m args below meth c G F H locs ls cells slots hR hS hl h1 h2)
theorem V_aload_nN {j : Fin 4} {i : Nat} (hd : decode (mC M) pc = .ok (.aload_n j, 1)) (hi : (j : Nat) = i) (hL : L[i]? = some (some .null)) (k : V ph M d mc ms Po X kc ks (pc + 1) L (.null :: st) w) : V ph M d mc ms Po X kc ks pc L st w :=
  fun p l e R s m args below meth c G F H locs ls cells slots hR hS hl h1 h2 => lv_aload_nN F.1 F.2.1 hd hi (lv_get hl hL) (k p l e R s m args below meth c G F H locs ls cells slots hR hS hl h1 h2)
theorem V_aload {i : Nat} {x : Nat} (hd : decode (mC M) pc = .ok (.aload i, 2)) (hL : L[i]? = some (some (.ref x))) (k : V ph M d mc ms Po X kc ks (pc + 2) L (.ref x :: st) w) : V ph M d mc ms Po X kc ks pc L st w :=
  fun p l e R s m args below meth c G F H locs ls cells slots hR hS hl h1 h2 => lv_aload F.1 F.2.1 hd (lv_get hl hL) (k p l e R s m args below meth c G F H locs ls cells slots hR hS hl h1 h2)
theorem V_aloadN {i : Nat} (hd : decode (mC M) pc = .ok (.aload i, 2)) (hL : L[i]? = some (some .null)) (k : V ph M d mc ms Po X kc ks (pc + 2) L (.null :: st) w) : V ph M d mc ms Po X kc ks pc L st w :=
  fun p l e R s m args below meth c G F H locs ls cells slots hR hS hl h1 h2 => lv_aloadN F.1 F.2.1 hd (lv_get hl hL) (k p l e R s m args below meth c G F H locs ls cells slots hR hS hl h1 h2)
theorem V_istore_n {j : Fin 4} {i : Nat} {x : Int32} (hd : decode (mC M) pc = .ok (.istore_n j, 1)) (hi : (j : Nat) = i) (hi9 : i < L.length) (hn : nod L i = true) (hlen : L.length = mN M) (k : V ph M d mc ms Po X kc ks (pc + 1) (L.set i (some (.int x))) st w) : V ph M d mc ms Po X kc ks pc L (.int x :: st) w :=
  fun p l e R s m args below meth c G F H locs ls cells slots hR hS hl h1 h2 => lv_istore_n F.1 F.2.1 hd hi hl (by rw [← hlen]; exact hi9) rfl (fun ls2 h8 => have h9 := lv_mono h8 (lv_put1 (v := .int x) hi9 hn); k p l e R s m args below meth c G F H locs ls2 cells slots hR hS h9 h1 h2)
theorem V_fstore_n {j : Fin 4} {i : Nat} {x : UInt32} (hd : decode (mC M) pc = .ok (.fstore_n j, 1)) (hi : (j : Nat) = i) (hi9 : i < L.length) (hn : nod L i = true) (hlen : L.length = mN M) (k : V ph M d mc ms Po X kc ks (pc + 1) (L.set i (some (.float x))) st w) : V ph M d mc ms Po X kc ks pc L (.float x :: st) w :=
  fun p l e R s m args below meth c G F H locs ls cells slots hR hS hl h1 h2 => lv_fstore_n F.1 F.2.1 hd hi hl (by rw [← hlen]; exact hi9) rfl (fun ls2 h8 => have h9 := lv_mono h8 (lv_put1 (v := .float x) hi9 hn); k p l e R s m args below meth c G F H locs ls2 cells slots hR hS h9 h1 h2)
theorem V_astore_n {j : Fin 4} {i : Nat} {x : Nat} (hd : decode (mC M) pc = .ok (.astore_n j, 1)) (hi : (j : Nat) = i) (hi9 : i < L.length) (hn : nod L i = true) (hlen : L.length = mN M) (k : V ph M d mc ms Po X kc ks (pc + 1) (L.set i (some (.ref x))) st w) : V ph M d mc ms Po X kc ks pc L (.ref x :: st) w :=
  fun p l e R s m args below meth c G F H locs ls cells slots hR hS hl h1 h2 => lv_astore_n F.1 F.2.1 hd hi hl (by rw [← hlen]; exact hi9) rfl (fun ls2 h8 => have h9 := lv_mono h8 (lv_put1 (v := .ref x) hi9 hn); k p l e R s m args below meth c G F H locs ls2 cells slots hR hS h9 h1 h2)
theorem V_astore_nN {j : Fin 4} {i : Nat} (hd : decode (mC M) pc = .ok (.astore_n j, 1)) (hi : (j : Nat) = i) (hi9 : i < L.length) (hn : nod L i = true) (hlen : L.length = mN M) (k : V ph M d mc ms Po X kc ks (pc + 1) (L.set i (some .null)) st w) : V ph M d mc ms Po X kc ks pc L (.null :: st) w :=
  fun p l e R s m args below meth c G F H locs ls cells slots hR hS hl h1 h2 => lv_astore_nN F.1 F.2.1 hd hi hl (by rw [← hlen]; exact hi9) rfl (fun ls2 h8 => have h9 := lv_mono h8 (lv_put1 (v := .null) hi9 hn); k p l e R s m args below meth c G F H locs ls2 cells slots hR hS h9 h1 h2)
theorem V_lstore_n {j : Fin 4} {i : Nat} {x : Int64} (hd : decode (mC M) pc = .ok (.lstore_n j, 1)) (hi : (j : Nat) = i) (hi9 : i + 1 < L.length) (hn : nod L i = true) (hlen : L.length = mN M) (k : V ph M d mc ms Po X kc ks (pc + 1) ((L.set (i + 1) none).set i (some (.long x))) st w) : V ph M d mc ms Po X kc ks pc L (.long x :: st) w :=
  fun p l e R s m args below meth c G F H locs ls cells slots hR hS hl h1 h2 => lv_lstore_n F.1 F.2.1 hd hi hl (by rw [← hlen]; exact hi9) rfl (fun ls2 h8 => have h9 := lv_mono h8 (lv_put2 (v := .long x) (by omega) hn); k p l e R s m args below meth c G F H locs ls2 cells slots hR hS h9 h1 h2)
theorem V_dstore_n {j : Fin 4} {i : Nat} {x : UInt64} (hd : decode (mC M) pc = .ok (.dstore_n j, 1)) (hi : (j : Nat) = i) (hi9 : i + 1 < L.length) (hn : nod L i = true) (hlen : L.length = mN M) (k : V ph M d mc ms Po X kc ks (pc + 1) ((L.set (i + 1) none).set i (some (.double x))) st w) : V ph M d mc ms Po X kc ks pc L (.double x :: st) w :=
  fun p l e R s m args below meth c G F H locs ls cells slots hR hS hl h1 h2 => lv_dstore_n F.1 F.2.1 hd hi hl (by rw [← hlen]; exact hi9) rfl (fun ls2 h8 => have h9 := lv_mono h8 (lv_put2 (v := .double x) (by omega) hn); k p l e R s m args below meth c G F H locs ls2 cells slots hR hS h9 h1 h2)
theorem V_istore {i : Nat} {x : Int32} (hd : decode (mC M) pc = .ok (.istore i, 2)) (hi9 : i < L.length) (hn : nod L i = true) (hlen : L.length = mN M) (k : V ph M d mc ms Po X kc ks (pc + 2) (L.set i (some (.int x))) st w) : V ph M d mc ms Po X kc ks pc L (.int x :: st) w :=
  fun p l e R s m args below meth c G F H locs ls cells slots hR hS hl h1 h2 => lv_istore F.1 F.2.1 hd hl (by rw [← hlen]; exact hi9) rfl (fun ls2 h8 => have h9 := lv_mono h8 (lv_put1 (v := .int x) hi9 hn); k p l e R s m args below meth c G F H locs ls2 cells slots hR hS h9 h1 h2)
theorem V_fstore {i : Nat} {x : UInt32} (hd : decode (mC M) pc = .ok (.fstore i, 2)) (hi9 : i < L.length) (hn : nod L i = true) (hlen : L.length = mN M) (k : V ph M d mc ms Po X kc ks (pc + 2) (L.set i (some (.float x))) st w) : V ph M d mc ms Po X kc ks pc L (.float x :: st) w :=
  fun p l e R s m args below meth c G F H locs ls cells slots hR hS hl h1 h2 => lv_fstore F.1 F.2.1 hd hl (by rw [← hlen]; exact hi9) rfl (fun ls2 h8 => have h9 := lv_mono h8 (lv_put1 (v := .float x) hi9 hn); k p l e R s m args below meth c G F H locs ls2 cells slots hR hS h9 h1 h2)
theorem V_astore {i : Nat} {x : Nat} (hd : decode (mC M) pc = .ok (.astore i, 2)) (hi9 : i < L.length) (hn : nod L i = true) (hlen : L.length = mN M) (k : V ph M d mc ms Po X kc ks (pc + 2) (L.set i (some (.ref x))) st w) : V ph M d mc ms Po X kc ks pc L (.ref x :: st) w :=
  fun p l e R s m args below meth c G F H locs ls cells slots hR hS hl h1 h2 => lv_astore F.1 F.2.1 hd hl (by rw [← hlen]; exact hi9) rfl (fun ls2 h8 => have h9 := lv_mono h8 (lv_put1 (v := .ref x) hi9 hn); k p l e R s m args below meth c G F H locs ls2 cells slots hR hS h9 h1 h2)
theorem V_astoreN {i : Nat} (hd : decode (mC M) pc = .ok (.astore i, 2)) (hi9 : i < L.length) (hn : nod L i = true) (hlen : L.length = mN M) (k : V ph M d mc ms Po X kc ks (pc + 2) (L.set i (some .null)) st w) : V ph M d mc ms Po X kc ks pc L (.null :: st) w :=
  fun p l e R s m args below meth c G F H locs ls cells slots hR hS hl h1 h2 => lv_astoreN F.1 F.2.1 hd hl (by rw [← hlen]; exact hi9) rfl (fun ls2 h8 => have h9 := lv_mono h8 (lv_put1 (v := .null) hi9 hn); k p l e R s m args below meth c G F H locs ls2 cells slots hR hS h9 h1 h2)
theorem V_lstore {i : Nat} {x : Int64} (hd : decode (mC M) pc = .ok (.lstore i, 2)) (hi9 : i + 1 < L.length) (hn : nod L i = true) (hlen : L.length = mN M) (k : V ph M d mc ms Po X kc ks (pc + 2) ((L.set (i + 1) none).set i (some (.long x))) st w) : V ph M d mc ms Po X kc ks pc L (.long x :: st) w :=
  fun p l e R s m args below meth c G F H locs ls cells slots hR hS hl h1 h2 => lv_lstore F.1 F.2.1 hd hl (by rw [← hlen]; exact hi9) rfl (fun ls2 h8 => have h9 := lv_mono h8 (lv_put2 (v := .long x) (by omega) hn); k p l e R s m args below meth c G F H locs ls2 cells slots hR hS h9 h1 h2)
theorem V_dstore {i : Nat} {x : UInt64} (hd : decode (mC M) pc = .ok (.dstore i, 2)) (hi9 : i + 1 < L.length) (hn : nod L i = true) (hlen : L.length = mN M) (k : V ph M d mc ms Po X kc ks (pc + 2) ((L.set (i + 1) none).set i (some (.double x))) st w) : V ph M d mc ms Po X kc ks pc L (.double x :: st) w :=
  fun p l e R s m args below meth c G F H locs ls cells slots hR hS hl h1 h2 => lv_dstore F.1 F.2.1 hd hl (by rw [← hlen]; exact hi9) rfl (fun ls2 h8 => have h9 := lv_mono h8 (lv_put2 (v := .double x) (by omega) hn); k p l e R s m args below meth c G F H locs ls2 cells slots hR hS h9 h1 h2)
theorem lvl_at {G : kG} {L : List (Option Value)} {i : Nat} {v : Value} (h : L[i]? = some (some v)) : ∃ k : Nat, (lvl G L)[k]? = some (i, rv G v) := List.getElem?_of_mem (lvl_mem h)
theorem V_iinc {i : Nat} {n : Int} {x v : Int32} (hd : decode (mC M) pc = .ok (.iinc i n, 3)) (hL : L[i]? = some (some (.int x))) (hv : x + Int32.ofInt n = v) (hn : nod L i = true) (hlen : L.length = mN M) (k : V ph M d mc ms Po X kc ks (pc + 3) (L.set i (some (.int v))) st w) : V ph M d mc ms Po X kc ks pc L st w :=
  fun p l e R s m args below meth c G F H locs ls cells slots hR hS hl h1 h2 => by
    have hi9 : i < L.length := (List.getElem?_eq_some_iff.mp hL).1
    obtain ⟨j, hj⟩ := lvl_at (G := G) hL
    exact lv_iinc F.1 F.2.1 hd hl hj hv (by rw [← hlen]; exact hi9) rfl (fun ls2 h8 => have h9 := lv_mono h8 (lv_put1 (v := .int v) hi9 hn); k p l e R s m args below meth c G F H locs ls2 cells slots hR hS h9 h1 h2)
theorem V_iadd {x y : Int32} (hd : decode (mC M) pc = .ok (.iadd, 1)) (k : V ph M d mc ms Po X kc ks (pc + 1) L (.int (x + y) :: st) w) : V ph M d mc ms Po X kc ks pc L (.int y :: .int x :: st) w :=
  fun p l e R s m args below meth c G F H locs ls cells slots hR hS hl h1 h2 => lv_iadd F.1 F.2.1 hd  (k p l e R s m args below meth c G F H locs ls cells slots hR hS hl h1 h2)
theorem V_isub {x y : Int32} (hd : decode (mC M) pc = .ok (.isub, 1)) (k : V ph M d mc ms Po X kc ks (pc + 1) L (.int (x - y) :: st) w) : V ph M d mc ms Po X kc ks pc L (.int y :: .int x :: st) w :=
  fun p l e R s m args below meth c G F H locs ls cells slots hR hS hl h1 h2 => lv_isub F.1 F.2.1 hd  (k p l e R s m args below meth c G F H locs ls cells slots hR hS hl h1 h2)
theorem V_imul {x y : Int32} (hd : decode (mC M) pc = .ok (.imul, 1)) (k : V ph M d mc ms Po X kc ks (pc + 1) L (.int (x * y) :: st) w) : V ph M d mc ms Po X kc ks pc L (.int y :: .int x :: st) w :=
  fun p l e R s m args below meth c G F H locs ls cells slots hR hS hl h1 h2 => lv_imul F.1 F.2.1 hd  (k p l e R s m args below meth c G F H locs ls cells slots hR hS hl h1 h2)
theorem V_iand {x y : Int32} (hd : decode (mC M) pc = .ok (.iand, 1)) (k : V ph M d mc ms Po X kc ks (pc + 1) L (.int (x &&& y) :: st) w) : V ph M d mc ms Po X kc ks pc L (.int y :: .int x :: st) w :=
  fun p l e R s m args below meth c G F H locs ls cells slots hR hS hl h1 h2 => lv_iand F.1 F.2.1 hd  (k p l e R s m args below meth c G F H locs ls cells slots hR hS hl h1 h2)
theorem V_ior {x y : Int32} (hd : decode (mC M) pc = .ok (.ior, 1)) (k : V ph M d mc ms Po X kc ks (pc + 1) L (.int (x ||| y) :: st) w) : V ph M d mc ms Po X kc ks pc L (.int y :: .int x :: st) w :=
  fun p l e R s m args below meth c G F H locs ls cells slots hR hS hl h1 h2 => lv_ior F.1 F.2.1 hd  (k p l e R s m args below meth c G F H locs ls cells slots hR hS hl h1 h2)
theorem V_ixor {x y : Int32} (hd : decode (mC M) pc = .ok (.ixor, 1)) (k : V ph M d mc ms Po X kc ks (pc + 1) L (.int (x ^^^ y) :: st) w) : V ph M d mc ms Po X kc ks pc L (.int y :: .int x :: st) w :=
  fun p l e R s m args below meth c G F H locs ls cells slots hR hS hl h1 h2 => lv_ixor F.1 F.2.1 hd  (k p l e R s m args below meth c G F H locs ls cells slots hR hS hl h1 h2)
theorem V_ladd {x y : Int64} (hd : decode (mC M) pc = .ok (.ladd, 1)) (k : V ph M d mc ms Po X kc ks (pc + 1) L (.long (x + y) :: st) w) : V ph M d mc ms Po X kc ks pc L (.long y :: .long x :: st) w :=
  fun p l e R s m args below meth c G F H locs ls cells slots hR hS hl h1 h2 => lv_ladd F.1 F.2.1 hd  (k p l e R s m args below meth c G F H locs ls cells slots hR hS hl h1 h2)
theorem V_lsub {x y : Int64} (hd : decode (mC M) pc = .ok (.lsub, 1)) (k : V ph M d mc ms Po X kc ks (pc + 1) L (.long (x - y) :: st) w) : V ph M d mc ms Po X kc ks pc L (.long y :: .long x :: st) w :=
  fun p l e R s m args below meth c G F H locs ls cells slots hR hS hl h1 h2 => lv_lsub F.1 F.2.1 hd  (k p l e R s m args below meth c G F H locs ls cells slots hR hS hl h1 h2)
theorem V_if_eq {x : Int32} {off : Int} {tgt : Nat} (hd : decode (mC M) pc = .ok (.ifCond .eq off, 3)) (ht : (pc : Int) + off = (tgt : Int)) (kt : x = 0 → V ph M d mc ms Po X kc ks tgt L st w) (kf : ¬ x = 0 → V ph M d mc ms Po X kc ks (pc + 3) L st w) : V ph M d mc ms Po X kc ks pc L (.int x :: st) w :=
  fun p l e R s m args below meth c G F H locs ls cells slots hR hS hl h1 h2 => lv_if_eq F.1 F.2.1 hd ht (fun q => kt q p l e R s m args below meth c G F H locs ls cells slots hR hS hl h1 h2) (fun q => kf q p l e R s m args below meth c G F H locs ls cells slots hR hS hl h1 h2)
theorem V_if_ne {x : Int32} {off : Int} {tgt : Nat} (hd : decode (mC M) pc = .ok (.ifCond .ne off, 3)) (ht : (pc : Int) + off = (tgt : Int)) (kt : ¬ x = 0 → V ph M d mc ms Po X kc ks tgt L st w) (kf : x = 0 → V ph M d mc ms Po X kc ks (pc + 3) L st w) : V ph M d mc ms Po X kc ks pc L (.int x :: st) w :=
  fun p l e R s m args below meth c G F H locs ls cells slots hR hS hl h1 h2 => lv_if_ne F.1 F.2.1 hd ht (fun q => kt q p l e R s m args below meth c G F H locs ls cells slots hR hS hl h1 h2) (fun q => kf q p l e R s m args below meth c G F H locs ls cells slots hR hS hl h1 h2)
theorem V_if_lt {x : Int32} {off : Int} {tgt : Nat} (hd : decode (mC M) pc = .ok (.ifCond .lt off, 3)) (ht : (pc : Int) + off = (tgt : Int)) (kt : x < 0 → V ph M d mc ms Po X kc ks tgt L st w) (kf : ¬ x < 0 → V ph M d mc ms Po X kc ks (pc + 3) L st w) : V ph M d mc ms Po X kc ks pc L (.int x :: st) w :=
  fun p l e R s m args below meth c G F H locs ls cells slots hR hS hl h1 h2 => lv_if_lt F.1 F.2.1 hd ht (fun q => kt q p l e R s m args below meth c G F H locs ls cells slots hR hS hl h1 h2) (fun q => kf q p l e R s m args below meth c G F H locs ls cells slots hR hS hl h1 h2)
theorem V_if_ge {x : Int32} {off : Int} {tgt : Nat} (hd : decode (mC M) pc = .ok (.ifCond .ge off, 3)) (ht : (pc : Int) + off = (tgt : Int)) (kt : 0 ≤ x → V ph M d mc ms Po X kc ks tgt L st w) (kf : ¬ 0 ≤ x → V ph M d mc ms Po X kc ks (pc + 3) L st w) : V ph M d mc ms Po X kc ks pc L (.int x :: st) w :=
  fun p l e R s m args below meth c G F H locs ls cells slots hR hS hl h1 h2 => lv_if_ge F.1 F.2.1 hd ht (fun q => kt q p l e R s m args below meth c G F H locs ls cells slots hR hS hl h1 h2) (fun q => kf q p l e R s m args below meth c G F H locs ls cells slots hR hS hl h1 h2)
theorem V_if_gt {x : Int32} {off : Int} {tgt : Nat} (hd : decode (mC M) pc = .ok (.ifCond .gt off, 3)) (ht : (pc : Int) + off = (tgt : Int)) (kt : 0 < x → V ph M d mc ms Po X kc ks tgt L st w) (kf : ¬ 0 < x → V ph M d mc ms Po X kc ks (pc + 3) L st w) : V ph M d mc ms Po X kc ks pc L (.int x :: st) w :=
  fun p l e R s m args below meth c G F H locs ls cells slots hR hS hl h1 h2 => lv_if_gt F.1 F.2.1 hd ht (fun q => kt q p l e R s m args below meth c G F H locs ls cells slots hR hS hl h1 h2) (fun q => kf q p l e R s m args below meth c G F H locs ls cells slots hR hS hl h1 h2)
theorem V_if_le {x : Int32} {off : Int} {tgt : Nat} (hd : decode (mC M) pc = .ok (.ifCond .le off, 3)) (ht : (pc : Int) + off = (tgt : Int)) (kt : x ≤ 0 → V ph M d mc ms Po X kc ks tgt L st w) (kf : ¬ x ≤ 0 → V ph M d mc ms Po X kc ks (pc + 3) L st w) : V ph M d mc ms Po X kc ks pc L (.int x :: st) w :=
  fun p l e R s m args below meth c G F H locs ls cells slots hR hS hl h1 h2 => lv_if_le F.1 F.2.1 hd ht (fun q => kt q p l e R s m args below meth c G F H locs ls cells slots hR hS hl h1 h2) (fun q => kf q p l e R s m args below meth c G F H locs ls cells slots hR hS hl h1 h2)
theorem V_icmp_eq {x y : Int32} {off : Int} {tgt : Nat} (hd : decode (mC M) pc = .ok (.if_icmp .eq off, 3)) (ht : (pc : Int) + off = (tgt : Int)) (kt : x = y → V ph M d mc ms Po X kc ks tgt L st w) (kf : ¬ x = y → V ph M d mc ms Po X kc ks (pc + 3) L st w) : V ph M d mc ms Po X kc ks pc L (.int y :: .int x :: st) w :=
  fun p l e R s m args below meth c G F H locs ls cells slots hR hS hl h1 h2 => lv_icmp_eq F.1 F.2.1 hd ht (fun q => kt q p l e R s m args below meth c G F H locs ls cells slots hR hS hl h1 h2) (fun q => kf q p l e R s m args below meth c G F H locs ls cells slots hR hS hl h1 h2)
theorem V_icmp_ne {x y : Int32} {off : Int} {tgt : Nat} (hd : decode (mC M) pc = .ok (.if_icmp .ne off, 3)) (ht : (pc : Int) + off = (tgt : Int)) (kt : ¬ x = y → V ph M d mc ms Po X kc ks tgt L st w) (kf : x = y → V ph M d mc ms Po X kc ks (pc + 3) L st w) : V ph M d mc ms Po X kc ks pc L (.int y :: .int x :: st) w :=
  fun p l e R s m args below meth c G F H locs ls cells slots hR hS hl h1 h2 => lv_icmp_ne F.1 F.2.1 hd ht (fun q => kt q p l e R s m args below meth c G F H locs ls cells slots hR hS hl h1 h2) (fun q => kf q p l e R s m args below meth c G F H locs ls cells slots hR hS hl h1 h2)
theorem V_icmp_lt {x y : Int32} {off : Int} {tgt : Nat} (hd : decode (mC M) pc = .ok (.if_icmp .lt off, 3)) (ht : (pc : Int) + off = (tgt : Int)) (kt : x < y → V ph M d mc ms Po X kc ks tgt L st w) (kf : ¬ x < y → V ph M d mc ms Po X kc ks (pc + 3) L st w) : V ph M d mc ms Po X kc ks pc L (.int y :: .int x :: st) w :=
  fun p l e R s m args below meth c G F H locs ls cells slots hR hS hl h1 h2 => lv_icmp_lt F.1 F.2.1 hd ht (fun q => kt q p l e R s m args below meth c G F H locs ls cells slots hR hS hl h1 h2) (fun q => kf q p l e R s m args below meth c G F H locs ls cells slots hR hS hl h1 h2)
theorem V_icmp_ge {x y : Int32} {off : Int} {tgt : Nat} (hd : decode (mC M) pc = .ok (.if_icmp .ge off, 3)) (ht : (pc : Int) + off = (tgt : Int)) (kt : y ≤ x → V ph M d mc ms Po X kc ks tgt L st w) (kf : ¬ y ≤ x → V ph M d mc ms Po X kc ks (pc + 3) L st w) : V ph M d mc ms Po X kc ks pc L (.int y :: .int x :: st) w :=
  fun p l e R s m args below meth c G F H locs ls cells slots hR hS hl h1 h2 => lv_icmp_ge F.1 F.2.1 hd ht (fun q => kt q p l e R s m args below meth c G F H locs ls cells slots hR hS hl h1 h2) (fun q => kf q p l e R s m args below meth c G F H locs ls cells slots hR hS hl h1 h2)
theorem V_icmp_gt {x y : Int32} {off : Int} {tgt : Nat} (hd : decode (mC M) pc = .ok (.if_icmp .gt off, 3)) (ht : (pc : Int) + off = (tgt : Int)) (kt : y < x → V ph M d mc ms Po X kc ks tgt L st w) (kf : ¬ y < x → V ph M d mc ms Po X kc ks (pc + 3) L st w) : V ph M d mc ms Po X kc ks pc L (.int y :: .int x :: st) w :=
  fun p l e R s m args below meth c G F H locs ls cells slots hR hS hl h1 h2 => lv_icmp_gt F.1 F.2.1 hd ht (fun q => kt q p l e R s m args below meth c G F H locs ls cells slots hR hS hl h1 h2) (fun q => kf q p l e R s m args below meth c G F H locs ls cells slots hR hS hl h1 h2)
theorem V_icmp_le {x y : Int32} {off : Int} {tgt : Nat} (hd : decode (mC M) pc = .ok (.if_icmp .le off, 3)) (ht : (pc : Int) + off = (tgt : Int)) (kt : x ≤ y → V ph M d mc ms Po X kc ks tgt L st w) (kf : ¬ x ≤ y → V ph M d mc ms Po X kc ks (pc + 3) L st w) : V ph M d mc ms Po X kc ks pc L (.int y :: .int x :: st) w :=
  fun p l e R s m args below meth c G F H locs ls cells slots hR hS hl h1 h2 => lv_icmp_le F.1 F.2.1 hd ht (fun q => kt q p l e R s m args below meth c G F H locs ls cells slots hR hS hl h1 h2) (fun q => kf q p l e R s m args below meth c G F H locs ls cells slots hR hS hl h1 h2)
theorem V_goto {off : Int} {tgt : Nat} (hd : decode (mC M) pc = .ok (.goto off, 3)) (ht : (pc : Int) + off = (tgt : Int)) (k : V ph M d mc ms Po X kc ks tgt L st w) : V ph M d mc ms Po X kc ks pc L st w :=
  fun p l e R s m args below meth c G F H locs ls cells slots hR hS hl h1 h2 => lv_goto F.1 F.2.1 hd ht (k p l e R s m args below meth c G F H locs ls cells slots hR hS hl h1 h2)
theorem V_ifnull {x : Nat} {off : Int} (hd : decode (mC M) pc = .ok (.ifnull off, 3)) (k : V ph M d mc ms Po X kc ks (pc + 3) L st w) : V ph M d mc ms Po X kc ks pc L (.ref x :: st) w :=
  fun p l e R s m args below meth c G F H locs ls cells slots hR hS hl h1 h2 => lv_ifnull F.1 F.2.1 hd (k p l e R s m args below meth c G F H locs ls cells slots hR hS hl h1 h2)
theorem V_ifnonnull {x : Nat} {off : Int} {tgt : Nat} (hd : decode (mC M) pc = .ok (.ifnonnull off, 3)) (ht : (pc : Int) + off = (tgt : Int)) (k : V ph M d mc ms Po X kc ks tgt L st w) : V ph M d mc ms Po X kc ks pc L (.ref x :: st) w :=
  fun p l e R s m args below meth c G F H locs ls cells slots hR hS hl h1 h2 => lv_ifnonnull F.1 F.2.1 hd ht (k p l e R s m args below meth c G F H locs ls cells slots hR hS hl h1 h2)
theorem V_ifnullN  {off : Int} {tgt : Nat} (hd : decode (mC M) pc = .ok (.ifnull off, 3)) (ht : (pc : Int) + off = (tgt : Int)) (k : V ph M d mc ms Po X kc ks tgt L st w) : V ph M d mc ms Po X kc ks pc L (.null :: st) w :=
  fun p l e R s m args below meth c G F H locs ls cells slots hR hS hl h1 h2 => lv_ifnullN F.1 F.2.1 hd ht (k p l e R s m args below meth c G F H locs ls cells slots hR hS hl h1 h2)
theorem V_ifnonnullN  {off : Int} (hd : decode (mC M) pc = .ok (.ifnonnull off, 3)) (k : V ph M d mc ms Po X kc ks (pc + 3) L st w) : V ph M d mc ms Po X kc ks pc L (.null :: st) w :=
  fun p l e R s m args below meth c G F H locs ls cells slots hR hS hl h1 h2 => lv_ifnonnullN F.1 F.2.1 hd (k p l e R s m args below meth c G F H locs ls cells slots hR hS hl h1 h2)

theorem V_w {kc2 ks2 : Nat} (hc : kc2 ≤ kc) (hs : ks2 ≤ ks) (k : V ph M d mc ms Po X kc2 ks2 pc L st w) : V ph M d mc ms Po X kc ks pc L st w :=
  fun p l e R s m args below meth c G F H locs ls cells slots hR hS hl h1 h2 => k p l e R s m args below meth c G F H locs ls cells slots hR hS hl (by omega) (by omega)
theorem V_iret {x : Int32} {ty : FieldType} (hd : decode (mC M) pc = .ok (.ireturn, 1)) (hr : mR M = some ty) (hn : narrow ty (.int x) = .int x) (k : Po (.inl (some (.int x))) w) : V ph M d mc ms Po X kc ks pc L [.int x] w := by
  intro p l e R s m args below meth c G F H locs ls cells slots hR hS hl h1 h2
  obtain ⟨hx, hb, -, -, -, hlk, hrt, -⟩ := F
  exact W.widen (k := mc) (n := ms) (by omega) (by omega) (vx_ret (W.zret hx hb (hrt.trans hr) hn (fun t ht hW => ⟨⟨some (.int x), w, rfl, k, by rw [ht]; exact hR⟩, hS.F ht⟩) hS.2.2 hd hlk))
theorem V_vret (hd : decode (mC M) pc = .ok (.return_, 1)) (hr : mR M = none) (k : Po (.inl none) w) : V ph M d mc ms Po X kc ks pc L [] w := by
  intro p l e R s m args below meth c G F H locs ls cells slots hR hS hl h1 h2
  obtain ⟨hx, hb, -, -, -, hlk, hrt, -⟩ := F
  exact W.widen (k := mc) (n := ms) (by omega) (by omega) (vx_ret (W.vret hx hb (hrt.trans hr) (fun t ht hW => ⟨⟨none, w, rfl, k, by rw [ht]; exact hR⟩, hS.F ht⟩) hS.2.2 hd hlk))
theorem V_aret {x : Nat} {n : String} (hd : decode (mC M) pc = .ok (.areturn, 1)) (hr : mR M = some (.object n)) (k : Po (.inl (some (.ref x))) w) : V ph M d mc ms Po X kc ks pc L [.ref x] w := by
  intro p l e R s m args below meth c G F H locs ls cells slots hR hS hl h1 h2
  obtain ⟨hx, hb, -, -, -, hlk, hrt, -⟩ := F
  exact W.widen (k := mc) (n := ms) (by omega) (by omega) (vx_ret (W.aret hx hb (hrt.trans hr) (Or.inl ⟨_, rfl⟩) (Or.inr ⟨_, rfl⟩) (fun t ht hW => ⟨⟨some (.ref x), w, rfl, k, by rw [ht]; exact hR⟩, hS.F ht⟩) hS.2.2 hd hlk))
theorem V_aretN {n : String} (hd : decode (mC M) pc = .ok (.areturn, 1)) (hr : mR M = some (.object n)) (k : Po (.inl (some .null)) w) : V ph M d mc ms Po X kc ks pc L [.null] w := by
  intro p l e R s m args below meth c G F H locs ls cells slots hR hS hl h1 h2
  obtain ⟨hx, hb, -, -, -, hlk, hrt, -⟩ := F
  exact W.widen (k := mc) (n := ms) (by omega) (by omega) (vx_ret (W.aret hx hb (hrt.trans hr) (Or.inl ⟨_, rfl⟩) (Or.inl rfl) (fun t ht hW => ⟨⟨some .null, w, rfl, k, by rw [ht]; exact hR⟩, hS.F ht⟩) hS.2.2 hd hlk))

end ROWS
end VLAYER
