/-! ROWS THAT READ AND WRITE THE WORLD. Printed by wip/whole/gen/mk08.py. -/
section HEAPROWS
def kOkP (q : vw_C) : Prop := (∀ w ∈ u_ws q.1 q.2.1 q.2.2, w ∈ TG) ∧ (∀ a, a < q.2.2 → ∀ b, b < q.2.2 → a ≠ b → (q.2.1 a).2.1 ≠ (q.2.1 b).2.1) ∧ ∃ ty : Nat → FieldType, ∀ k, k < q.2.2 → parseFieldDescriptor (q.2.1 k).2.2.1 = some (ty k)
theorem tg_all {l : List Cond} (h : l.all (fun w => goodWord w && lw_tbl.contains w) = true) : ∀ w ∈ l, w ∈ TG := by
  intro w hw
  have h1 := List.all_eq_true.mp h w hw
  rw [Bool.and_eq_true] at h1
  exact List.mem_filter.mpr ⟨by simpa using h1.2, h1.1⟩
theorem kOk_1 : kOkP (RX1, TX1, 11) := ⟨tg_all (by decide +kernel), nmX1, tyX1, tyX1_ok⟩
theorem kOk_2 : kOkP (RX2, TX2, 3) := ⟨tg_all (by decide +kernel), nmX2, tyX2, tyX2_ok⟩
theorem kOk_3 : kOkP (RX3, TX3, 3) := ⟨tg_all (by decide +kernel), nmX3, tyX3, tyX3_ok⟩
theorem kOk_4 : kOkP (RX4, TX4, 2) := ⟨tg_all (by decide +kernel), nmX4, tyX4, tyX4_ok⟩
theorem kOk_7 : kOkP (RX7, TX7, 1) := ⟨tg_all (by decide +kernel), nmX7, tyX7, tyX7_ok⟩
theorem kOk_8 : kOkP (RX8, TX8, 9) := ⟨tg_all (by decide +kernel), nmX8, tyX8, tyX8_ok⟩
theorem kOk_10 : kOkP (RX10, TX10, 13) := ⟨tg_all (by decide +kernel), nmX10, tyX10, tyX10_ok⟩
theorem kOk_11 : kOkP (RX11, TX11, 32) := ⟨tg_all (by decide +kernel), nmX11, tyX11, tyX11_ok⟩
theorem kOk {ci : Nat} {q : vw_C} (h : kCl[ci]? = some q) : kOkP q := by
  match ci, h with
  | 0, h => cases h; exact kOk_1
  | 1, h => cases h; exact kOk_2
  | 2, h => cases h; exact kOk_3
  | 3, h => cases h; exact kOk_4
  | 4, h => cases h; exact kOk_7
  | 5, h => cases h; exact kOk_8
  | 6, h => cases h; exact kOk_10
  | 7, h => cases h; exact kOk_11
  | n + 8, h => cases h
section ROWS2
variable {ph : Nat} {M : kM} {d mc ms : Nat} {Po : Out → Wd → Prop} {X : kG → State → Prop} {kc ks pc : Nat} {L : List (Option Value)} {st : List Value} {w : Wd}
/-- the cell is made -/
def Mk (ph : Nat) (w : Wd) (a : Nat) : Prop := a < wn w ∨ (ph = 1 ∧ a < 67)
theorem Mk.lt {G : kG} {H : Heap} {a : Nat} (h : Mk ph w a) (hR : Rl G ph w H) : a < wn w := by
  rcases h with h | ⟨h1, h2⟩
  · exact h
  · rw [hR.2.2.2.2 h1]; exact h2
theorem fs_get {G : kG} {a k x : Nat} {kl : List Nat} (h : kl[k]? = some x) : ((List.range kl.length).map fun j => slotV G w a j (kl.getD j 0))[k]? = some (slotV G w a k x) := by
  obtain ⟨hk, he⟩ := List.getElem?_eq_some_iff.mp h
  simp [hk, he]
theorem Rl.D {G : kG} {H : Heap} (hG : Gok G) (hR : Rl G ph w H) : va_D (AG G) (wl G (shp ph) w) := wl_D hG (by have := hR.2.1; omega)
theorem V_getX {a ci k x idx : Nat} {C : String} {T : u_T} {N : Nat} {kl : List Nat} {v : Value} (hd : decode (mC M) pc = .ok (.getfield idx, 3)) (ha : Mk ph w a) (hs : shp ph a = (0, ci, kl)) (hc : kCl[ci]? = some (C, T, N)) (hk : kl[k]? = some x) (hkN : k < N) (hw : Cond.fieldLink (mY M).cls idx (T k).1 (T k).2.1 (T k).2.2.1 ∈ TG) (hv : ∀ G, slotV G w a k x = rv G v)
    (kk : V ph M d mc ms Po X kc ks (pc + 3) L (v :: st) w) : V ph M d mc ms Po X kc ks pc L (.ref a :: st) w := by
  intro p l e R s m args below meth c G F H locs ls cells slots hR hS hl h1 h2
  have hlt := ha.lt hR
  have he := wl_at (G := G) (sh := shp ph) hlt
  rw [hs] at he
  have F0 := F
  obtain ⟨hx, hb, -, hown, hts, -, -, -, -, -, -, hE, -⟩ := F0
  refine va_get (D := gD G) (tys := kTys G) hx hb hts (kOk hc).1 hown hE.1 hR.1 a (fs := (List.range kl.length).map fun j => slotV G w a j (kl.getD j 0)) he hc k hkN (hts _ hw) (fun _ h9 => h9) (v := rv G v) (by rw [fs_get hk, hv G]) hd ?_
  exact kk p l e R s m args below meth c G F H locs ls cells slots hR hS hl h1 h2
theorem V_getI {a ci k idx : Nat} {C : String} {T : u_T} {N : Nat} {kl : List Nat} (hd : decode (mC M) pc = .ok (.getfield idx, 3)) (ha : Mk ph w a) (hs : shp ph a = (0, ci, kl)) (hc : kCl[ci]? = some (C, T, N)) (hk : kl[k]? = some 0) (hkN : k < N) (hw : Cond.fieldLink (mY M).cls idx (T k).1 (T k).2.1 (T k).2.2.1 ∈ TG)
    (kk : V ph M d mc ms Po X kc ks (pc + 3) L (.int (gI w a k) :: st) w) : V ph M d mc ms Po X kc ks pc L (.ref a :: st) w := V_getX hd ha hs hc hk hkN hw (fun _ => rfl) kk
theorem V_getC {a ci k idx q : Nat} {C : String} {T : u_T} {N : Nat} {kl : List Nat} (hd : decode (mC M) pc = .ok (.getfield idx, 3)) (ha : Mk ph w a) (hs : shp ph a = (0, ci, kl)) (hc : kCl[ci]? = some (C, T, N)) (hk : kl[k]? = some (q + 2)) (hkN : k < N) (hw : Cond.fieldLink (mY M).cls idx (T k).1 (T k).2.1 (T k).2.2.1 ∈ TG)
    (kk : V ph M d mc ms Po X kc ks (pc + 3) L (.ref q :: st) w) : V ph M d mc ms Po X kc ks pc L (.ref a :: st) w := V_getX hd ha hs hc hk hkN hw (fun _ => rfl) kk
theorem V_getR {a ci k idx q : Nat} {C : String} {T : u_T} {N : Nat} {kl : List Nat} (hd : decode (mC M) pc = .ok (.getfield idx, 3)) (ha : Mk ph w a) (hs : shp ph a = (0, ci, kl)) (hc : kCl[ci]? = some (C, T, N)) (hk : kl[k]? = some 1) (hkN : k < N) (hw : Cond.fieldLink (mY M).cls idx (T k).1 (T k).2.1 (T k).2.2.1 ∈ TG) (hq : gR w a k = some q)
    (kk : V ph M d mc ms Po X kc ks (pc + 3) L (.ref q :: st) w) : V ph M d mc ms Po X kc ks pc L (.ref a :: st) w := V_getX hd ha hs hc hk hkN hw (fun G => by show va_rf ((gR w a k).map (gA G)) = _; rw [hq]; rfl) kk
/-- a list of values, one changed -/
theorem lst_set {α : Type} {n k : Nat} {f f' : Nat → α} {v : α} (hv : f' k = v) (hj : ∀ j, j ≠ k → f' j = f j) : ((List.range n).map f).set k v = (List.range n).map f' := by
  refine List.ext_getElem? fun i => ?_
  by_cases hi : i < n
  · by_cases e : i = k
    · subst e
      rw [List.getElem?_set_self (by simpa using hi)]
      simp [hi, hv]
    · rw [List.getElem?_set_ne (Ne.symm e)]
      simp [hi, hj i e]
  · rw [List.getElem?_eq_none (by simpa using hi), List.getElem?_eq_none (by simpa using hi)]
/-- one cell is written -/
theorem Rl.put {G : kG} {H H1 : Heap} {a : Nat} {w' : Wd} (hR : Rl G ph w H) (hG : Gok G) (ha : a < wn w) (hn : wn w' = wn w) (ho : ∀ b, b ≠ a → cellOf G w' b (shp ph b) = cellOf G w b (shp ph b)) (hat : va_at (gD G) kCl (gA G a, cellOf G w' a (shp ph a)) H1) (z : H1.size = H.size) (oq : ∀ q, q ≠ gA G a → H1[q]? = H[q]?) : Rl G ph w' H1 := by
  have hP := hR.1.set (hR.D hG) (wl_at (G := G) (sh := shp ph) ha) hat oq
  rw [← wl_ext hn ha (fun b _ hb => ho b hb)] at hP
  obtain ⟨-, h2, h3, h4, h5⟩ := hR
  exact ⟨hP, by rw [hn]; exact h2, by rw [hn, z]; exact h3, fun h => by rw [hn, z]; exact h4 h, fun h => by rw [hn]; exact h5 h⟩
theorem AG_at {G : kG} {a : Nat} (hG : Gok G) (h : a < 1000) : AG G (gA G a) := by
  show gB G ≤ gA G a
  rw [hG a h]; omega
theorem V_putX {a ci k x idx : Nat} {C : String} {T : u_T} {N : Nat} {kl : List Nat} {v : Value} {ty : FieldType} {w' : Wd} (hd : decode (mC M) pc = .ok (.putfield idx, 3)) (ha : Mk ph w a) (hs : shp ph a = (0, ci, kl)) (hc : kCl[ci]? = some (C, T, N)) (hk : kl[k]? = some x) (hkN : k < N) (hw : Cond.fieldLink (mY M).cls idx (T k).1 (T k).2.1 (T k).2.2.1 ∈ TG)
    (hfin : (T k).2.2.2 = false ∨ ((T k).2.2.2 = true ∧ (mY M).name = "<init>" ∧ (T k).1 = (mY M).cls)) (hty : parseFieldDescriptor (T k).2.2.1 = some ty) (hn : ∀ G, narrow ty (rv G v) = rv G v) (hf : ∀ G, fits ty (rv G v) = true) (hwn : wn w' = wn w) (ho : ∀ G b, b ≠ a → cellOf G w' b (shp ph b) = cellOf G w b (shp ph b)) (hv : ∀ G, slotV G w' a k x = rv G v) (hj : ∀ G j, j ≠ k → slotV G w' a j (kl.getD j 0) = slotV G w a j (kl.getD j 0))
    (kk : V ph M d mc ms Po X kc ks (pc + 3) L st w') : V ph M d mc ms Po X kc ks pc L (v :: .ref a :: st) w := by
  intro p l e R s m args below meth c G F H locs ls cells slots hR hS hl h1 h2
  have hlt := ha.lt hR
  have he := wl_at (G := G) (sh := shp ph) hlt
  rw [hs] at he
  have F0 := F
  obtain ⟨hx, hb, -, hown, hts, -, -, hnm, -, -, -, hE, -⟩ := F0
  have hG := hE.2.2.2.2
  obtain ⟨hin, hap0, ty0, hty0⟩ := kOk hc
  have hap := va_apart (own := C) hts hin ty0 hty0 hap0 hE.1 hc
  obtain ⟨r, g1, cell, q1, q2, q3, q4⟩ := hR.1 a _ he
  have hr : r = (C, T, N) := Option.some.inj (g1.symm.trans hc)
  subst hr
  obtain ⟨hS9, hfc, kC, hkC, hkind⟩ := hE.1.1 ci _ hc
  obtain ⟨cf, kf, fi, f, hi, hsl⟩ := hS9 k hkN
  have hst := (u_facts hfc hkC (u_lays hts hin hkN) hi).1
  have hkl : k < kl.length := (List.getElem?_eq_some_iff.mp hk).1
  have hslot : f.slot < cell.slots.size := by rw [hsl]; exact k2_hasslot (q4 k hkN)
  have fin : ∀ H' : Heap, H'[gA G a]? = some (cell.setSlot f.slot (rv G v)) → H'.size = H.size → (∀ q, q ≠ gA G a → H'[q]? = H[q]?) → W p l e R s m args below meth c H' (locs ++ [⟨gA G a, f.slot⟩]) cells slots (vx_MQ below (QcP G ph Po) (XCP G ph Po) args s mc ms (AG G)) (F0 m (pc + 3) ls (st.map (rv G))) := by
    intro H' e1 e2 e3
    refine kk p l e R s m args below meth c G F H' _ ls cells slots (hR.put hG hlt hwn (ho G) ?_ e2 e3) (hS.put e2 e3 (AG_at hG (by have := hR.2.1; omega))) hl h1 h2
    rw [hs]
    refine ⟨_, hc, t_OB.to (V := updV (vp_V ((List.range kl.length).map fun j => slotV G w a j (kl.getD j 0))) k (rv G v)) ⟨_, e1, q2, q3, ?_⟩ (fun j _ => ?_)⟩
    · rw [hsl]; exact t_set q4 hap hkN (rv G v)
    · rw [vp_updV_set (by simpa using hkl), lst_set (f' := fun j => slotV G w' a j (kl.getD j 0)) (by show slotV G w' a k (kl.getD k 0) = _; rw [List.getD, hk]; exact hv G) (hj G)]
  rcases hfin with hfin | ⟨hfin, hini, hdecl⟩
  · have hlay := hts _ (hin _ (u_in_lay hkN))
    unfold u_lay at hlay
    rw [if_neg (by show ¬ (T k).2.2.2 = true; rw [hfin]; decide)] at hlay
    have h6 := u_store hfc hkC hkind hlay hi hty (hn G) (hf G)
    exact W.putK hx hb (f := f) ⟨hown, hts _ hw, ⟨_, _, _, hi⟩, hst⟩ (by rw [q2]; exact h6) q1 q3 hslot rfl rfl hd fin
  · have hlay := hts _ (hin _ (u_in_lay hkN))
    unfold u_lay at hlay
    rw [if_pos hfin] at hlay
    have hcf : m.cls = cf := by
      obtain ⟨_, _, c', _, _, _, -, -, hf', -, -, -, hown2, -⟩ := Cond.laysFinal_spec hlay
      have e1 : c' = cf := by have := hi.symm.trans hf'; simp at this; exact this.1.symm
      rw [hdecl] at hown2
      rw [← e1]; exact Option.some.inj (hown.symm.trans hown2)
    have h6 := u_fits hfc hkC hkind (Or.inr hlay) hi hty (hn G) (hf G)
    exact W.putFinK hx hb hown (hts _ hw) hi hst hcf (hnm.trans hini) (by rw [q2]; exact h6) q1 q3 hslot rfl rfl hd fin
theorem V_putI {a ci k idx : Nat} {C : String} {T : u_T} {N : Nat} {kl : List Nat} {z : Int32} {ty : FieldType} (hd : decode (mC M) pc = .ok (.putfield idx, 3)) (ha : Mk ph w a) (hs : shp ph a = (0, ci, kl)) (hc : kCl[ci]? = some (C, T, N)) (hk : kl[k]? = some 0) (hkN : k < N) (hw : Cond.fieldLink (mY M).cls idx (T k).1 (T k).2.1 (T k).2.2.1 ∈ TG)
    (hfin : (T k).2.2.2 = false) (hty : parseFieldDescriptor (T k).2.2.1 = some ty) (hn : narrow ty (.int z) = .int z) (hf : fits ty (.int z) = true)
    (kk : V ph M d mc ms Po X kc ks (pc + 3) L st (pI w a k z)) : V ph M d mc ms Po X kc ks pc L (.int z :: .ref a :: st) w :=
  V_putX (v := .int z) (w' := pI w a k z) hd ha hs hc hk hkN hw (Or.inl hfin) hty (fun _ => hn) (fun _ => hf) rfl (fun _ _ h => cell_pI_ne h) (fun G => by show Value.int (gI (pI w a k z) a k) = _; rw [gI_pI, if_pos ⟨rfl, rfl⟩]; rfl) (fun G j h => by unfold slotV; split <;> first | rfl | (rw [gI_pI, if_neg (fun q => h q.2)])) kk
theorem V_putR {a ci k idx z : Nat} {C : String} {T : u_T} {N : Nat} {kl : List Nat} {ty : FieldType} (hd : decode (mC M) pc = .ok (.putfield idx, 3)) (ha : Mk ph w a) (hs : shp ph a = (0, ci, kl)) (hc : kCl[ci]? = some (C, T, N)) (hk : kl[k]? = some 1) (hkN : k < N) (hw : Cond.fieldLink (mY M).cls idx (T k).1 (T k).2.1 (T k).2.2.1 ∈ TG)
    (hfin : (T k).2.2.2 = false ∨ ((T k).2.2.2 = true ∧ (mY M).name = "<init>" ∧ (T k).1 = (mY M).cls)) (hty : parseFieldDescriptor (T k).2.2.1 = some ty) (hn : ∀ q, narrow ty (.ref q) = .ref q) (hf : ∀ q, fits ty (.ref q) = true)
    (kk : V ph M d mc ms Po X kc ks (pc + 3) L st (pR w a k (some z))) : V ph M d mc ms Po X kc ks pc L (.ref z :: .ref a :: st) w :=
  V_putX (v := .ref z) (w' := pR w a k (some z)) hd ha hs hc hk hkN hw hfin hty (fun _ => hn _) (fun _ => hf _) rfl (fun _ _ h => cell_pR_ne h) (fun G => by show va_rf ((gR (pR w a k (some z)) a k).map (gA G)) = _; rw [gR_pR, if_pos ⟨rfl, rfl⟩]; rfl) (fun G j h => by unfold slotV; split <;> first | rfl | (rw [gR_pR, if_neg (fun q => h q.2)])) kk
/-! arrays -/
theorem V_iald {a n : Nat} {kl : List Nat} {i : Int32} (hd : decode (mC M) pc = .ok (.iaload, 1)) (ha : Mk ph w a) (hs : shp ph a = (1, n, kl)) (hi : vp_in i n)
    (kk : V ph M d mc ms Po X kc ks (pc + 1) L (.int (gI w a i.toNatClampNeg) :: st) w) : V ph M d mc ms Po X kc ks pc L (.int i :: .ref a :: st) w := by
  intro p l e R s m args below meth c G F H locs ls cells slots hR hS hl h1 h2
  have he := wl_at (G := G) (sh := shp ph) (ha.lt hR)
  rw [hs] at he
  obtain ⟨hx, hb, -, -, -, -, -, -, -, -, -, hE, -⟩ := id F
  exact va_iald hx hb hE.1 hR.1 a 0 he rfl hi hd (kk p l e R s m args below meth c G F H locs ls cells slots hR hS hl h1 h2)
theorem V_cald {a n : Nat} {kl : List Nat} {i : Int32} (hd : decode (mC M) pc = .ok (.caload, 1)) (ha : Mk ph w a) (hs : shp ph a = (2, n, kl)) (hi : vp_in i n)
    (kk : V ph M d mc ms Po X kc ks (pc + 1) L (.int (gI w a i.toNatClampNeg) :: st) w) : V ph M d mc ms Po X kc ks pc L (.int i :: .ref a :: st) w := by
  intro p l e R s m args below meth c G F H locs ls cells slots hR hS hl h1 h2
  have he := wl_at (G := G) (sh := shp ph) (ha.lt hR)
  rw [hs] at he
  obtain ⟨hx, hb, -, -, -, -, -, -, -, -, -, hE, -⟩ := id F
  exact va_cald hx hb hE.1 hR.1 a 1 he rfl hi hd (kk p l e R s m args below meth c G F H locs ls cells slots hR hS hl h1 h2)
theorem V_lald {a n : Nat} {kl : List Nat} {i : Int32} (hd : decode (mC M) pc = .ok (.laload, 1)) (ha : Mk ph w a) (hs : shp ph a = (3, n, kl)) (hi : vp_in i n)
    (kk : V ph M d mc ms Po X kc ks (pc + 1) L (.long (gL w a i.toNatClampNeg) :: st) w) : V ph M d mc ms Po X kc ks pc L (.int i :: .ref a :: st) w := by
  intro p l e R s m args below meth c G F H locs ls cells slots hR hS hl h1 h2
  have he := wl_at (G := G) (sh := shp ph) (ha.lt hR)
  rw [hs] at he
  obtain ⟨hx, hb, -, -, -, -, -, -, -, -, -, hE, -⟩ := id F
  exact va_lald hx hb hE.1 hR.1 a 2 he rfl hi hd (kk p l e R s m args below meth c G F H locs ls cells slots hR hS hl h1 h2)
theorem V_dald {a n : Nat} {kl : List Nat} {i : Int32} (hd : decode (mC M) pc = .ok (.daload, 1)) (ha : Mk ph w a) (hs : shp ph a = (4, n, kl)) (hi : vp_in i n)
    (kk : V ph M d mc ms Po X kc ks (pc + 1) L (.double (gF w a i.toNatClampNeg) :: st) w) : V ph M d mc ms Po X kc ks pc L (.int i :: .ref a :: st) w := by
  intro p l e R s m args below meth c G F H locs ls cells slots hR hS hl h1 h2
  have he := wl_at (G := G) (sh := shp ph) (ha.lt hR)
  rw [hs] at he
  obtain ⟨hx, hb, -, -, -, -, -, -, -, -, -, hE, -⟩ := id F
  exact va_dald hx hb hE.1 hR.1 a 3 he rfl hi hd (kk p l e R s m args below meth c G F H locs ls cells slots hR hS hl h1 h2)
theorem V_iast {a n : Nat} {kl : List Nat} {i z : Int32} (hd : decode (mC M) pc = .ok (.iastore, 1)) (ha : Mk ph w a) (hs : shp ph a = (1, n, kl)) (hi : vp_in i n)
    (kk : V ph M d mc ms Po X kc ks (pc + 1) L st (pI w a i.toNatClampNeg z)) : V ph M d mc ms Po X kc ks pc L (.int z :: .int i :: .ref a :: st) w := by
  intro p l e R s m args below meth c G F H locs ls cells slots hR hS hl h1 h2
  have hlt := ha.lt hR
  have he := wl_at (G := G) (sh := shp ph) hlt
  rw [hs] at he
  obtain ⟨hx, hb, -, -, -, -, -, -, -, -, -, hE, -⟩ := id F
  have hG := hE.2.2.2.2
  refine W.iast hx hb (hR.1 a _ he) ((hE.1.2 0 _ rfl).1 n (fun j => .int (gI w a j))) (fun q => by cases q) (by show ¬ (i < 0 ∨ (arrV _ _ _).slots.size ≤ _); rw [arrV_size]; exact hi) rfl rfl hd fun H1 e1 e2 e3 => ?_
  refine kk p l e R s m args below meth c G F H1 _ ls cells slots (hR.put hG hlt rfl (fun b h => cell_pI_ne h) ?_ e2 e3) (hS.put e2 e3 (AG_at hG (by have := hR.2.1; omega))) hl h1 h2
  rw [hs]
  show H1[gA G a]? = some (arrV (gC G 0) n (fun j => Value.int (gI (pI w a i.toNatClampNeg z) a j)))
  rw [e1]
  show some ((arrV (gC G 0) n (fun j => Value.int (gI w a j))).setSlot i.toNatClampNeg (.int z)) = _
  rw [arrV_store]
  congr 2
  funext q
  show updV (fun j => Value.int (gI w a j)) _ _ q = Value.int (gI (pI w a i.toNatClampNeg z) a q)
  rw [gI_pI]
  by_cases hq : q = i.toNatClampNeg <;> simp [updV, hq]
theorem V_cast {a n : Nat} {kl : List Nat} {i z : Int32} (hd : decode (mC M) pc = .ok (.castore, 1)) (ha : Mk ph w a) (hs : shp ph a = (2, n, kl)) (hi : vp_in i n) (hz : narrow .char (.int z) = .int z)
    (kk : V ph M d mc ms Po X kc ks (pc + 1) L st (pI w a i.toNatClampNeg z)) : V ph M d mc ms Po X kc ks pc L (.int z :: .int i :: .ref a :: st) w := by
  intro p l e R s m args below meth c G F H locs ls cells slots hR hS hl h1 h2
  have hlt := ha.lt hR
  have he := wl_at (G := G) (sh := shp ph) hlt
  rw [hs] at he
  obtain ⟨hx, hb, -, -, -, -, -, -, -, -, -, hE, -⟩ := id F
  have hG := hE.2.2.2.2
  refine W.cast hx hb (hR.1 a _ he) ((hE.1.2 1 _ rfl).1 n (fun j => .int (gI w a j))) (fun q => by cases q) (by show ¬ (i < 0 ∨ (arrV _ _ _).slots.size ≤ _); rw [arrV_size]; exact hi) rfl rfl hd fun H1 e1 e2 e3 => ?_
  refine kk p l e R s m args below meth c G F H1 _ ls cells slots (hR.put hG hlt rfl (fun b h => cell_pI_ne h) ?_ e2 e3) (hS.put e2 e3 (AG_at hG (by have := hR.2.1; omega))) hl h1 h2
  rw [hs]
  show H1[gA G a]? = some (arrV (gC G 1) n (fun j => Value.int (gI (pI w a i.toNatClampNeg z) a j)))
  rw [e1, hz]
  show some ((arrV (gC G 1) n (fun j => Value.int (gI w a j))).setSlot i.toNatClampNeg (.int z)) = _
  rw [arrV_store]
  congr 2
  funext q
  show updV (fun j => Value.int (gI w a j)) _ _ q = Value.int (gI (pI w a i.toNatClampNeg z) a q)
  rw [gI_pI]
  by_cases hq : q = i.toNatClampNeg <;> simp [updV, hq]
theorem V_last {a n : Nat} {kl : List Nat} {i : Int32} {z : Int64} (hd : decode (mC M) pc = .ok (.lastore, 1)) (ha : Mk ph w a) (hs : shp ph a = (3, n, kl)) (hi : vp_in i n)
    (kk : V ph M d mc ms Po X kc ks (pc + 1) L st (pL w a i.toNatClampNeg z)) : V ph M d mc ms Po X kc ks pc L (.long z :: .int i :: .ref a :: st) w := by
  intro p l e R s m args below meth c G F H locs ls cells slots hR hS hl h1 h2
  have hlt := ha.lt hR
  have he := wl_at (G := G) (sh := shp ph) hlt
  rw [hs] at he
  obtain ⟨hx, hb, -, -, -, -, -, -, -, -, -, hE, -⟩ := id F
  have hG := hE.2.2.2.2
  refine W.last hx hb (hR.1 a _ he) ((hE.1.2 2 _ rfl).1 n (fun j => .long (gL w a j))) (fun q => by cases q) (by show ¬ (i < 0 ∨ (arrV _ _ _).slots.size ≤ _); rw [arrV_size]; exact hi) rfl rfl hd fun H1 e1 e2 e3 => ?_
  refine kk p l e R s m args below meth c G F H1 _ ls cells slots (hR.put hG hlt rfl (fun b h => cell_pL_ne h) ?_ e2 e3) (hS.put e2 e3 (AG_at hG (by have := hR.2.1; omega))) hl h1 h2
  rw [hs]
  show H1[gA G a]? = some (arrV (gC G 2) n (fun j => Value.long (gL (pL w a i.toNatClampNeg z) a j)))
  rw [e1]
  show some ((arrV (gC G 2) n (fun j => Value.long (gL w a j))).setSlot i.toNatClampNeg (.long z)) = _
  rw [arrV_store]
  congr 2
  funext q
  show updV (fun j => Value.long (gL w a j)) _ _ q = Value.long (gL (pL w a i.toNatClampNeg z) a q)
  rw [gL_pL]
  by_cases hq : q = i.toNatClampNeg <;> simp [updV, hq]
theorem V_dast {a n : Nat} {kl : List Nat} {i : Int32} {z : UInt64} (hd : decode (mC M) pc = .ok (.dastore, 1)) (ha : Mk ph w a) (hs : shp ph a = (4, n, kl)) (hi : vp_in i n)
    (kk : V ph M d mc ms Po X kc ks (pc + 1) L st (pF w a i.toNatClampNeg z)) : V ph M d mc ms Po X kc ks pc L (.double z :: .int i :: .ref a :: st) w := by
  intro p l e R s m args below meth c G F H locs ls cells slots hR hS hl h1 h2
  have hlt := ha.lt hR
  have he := wl_at (G := G) (sh := shp ph) hlt
  rw [hs] at he
  obtain ⟨hx, hb, -, -, -, -, -, -, -, -, -, hE, -⟩ := id F
  have hG := hE.2.2.2.2
  refine W.dast hx hb (hR.1 a _ he) ((hE.1.2 3 _ rfl).1 n (fun j => .double (gF w a j))) (fun q => by cases q) (by show ¬ (i < 0 ∨ (arrV _ _ _).slots.size ≤ _); rw [arrV_size]; exact hi) rfl rfl hd fun H1 e1 e2 e3 => ?_
  refine kk p l e R s m args below meth c G F H1 _ ls cells slots (hR.put hG hlt rfl (fun b h => cell_pF_ne h) ?_ e2 e3) (hS.put e2 e3 (AG_at hG (by have := hR.2.1; omega))) hl h1 h2
  rw [hs]
  show H1[gA G a]? = some (arrV (gC G 3) n (fun j => Value.double (gF (pF w a i.toNatClampNeg z) a j)))
  rw [e1]
  show some ((arrV (gC G 3) n (fun j => Value.double (gF w a j))).setSlot i.toNatClampNeg (.double z)) = _
  rw [arrV_store]
  congr 2
  funext q
  show updV (fun j => Value.double (gF w a j)) _ _ q = Value.double (gF (pF w a i.toNatClampNeg z) a q)
  rw [gF_pF]
  by_cases hq : q = i.toNatClampNeg <;> simp [updV, hq]
end ROWS2
end HEAPROWS
