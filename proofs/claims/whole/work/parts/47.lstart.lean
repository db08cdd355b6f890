/-! THE LAW: its start. Printed by wip/whole/gen/mk47.py. -/
section LSTART
/-- V with any end -/
def VG (ph : Nat) (M : kM) (d mc ms : Nat) (Q : List Frame → Array Value → State → kG → State → Prop) (X : kG → State → Prop) (kc ks pc : Nat) (L : List (Option Value)) (st : List Value) (w : Wd) : Prop :=
  ∀ (p : Program) (l : Launch) (e : Env) (R : Room) (s : State) (m : MethodId) (args : Array Value) (below : List Frame) (meth : Method) (c : Code) (G : kG), Fx M d mc ms X p l R s m args meth c G →
  ∀ (H : Heap) (locs : List Loc) (ls : Array Slot) (cells slots : Nat), Rl G ph w H → va_S (AG G) s.heap H locs → lv_has ls (mN M) (lvl G L) → cells + kc ≤ mc → slots + ks ≤ ms →
  W p l e R s m args below meth c H locs cells slots (Q below args s G) (F0 m pc ls (st.map (rv G)))
theorem VG_of {ph : Nat} {M : kM} {d mc ms : Nat} {Po : Out → Wd → Prop} {X : kG → State → Prop} {kc ks pc : Nat} {L : List (Option Value)} {st : List Value} {w : Wd} (k : V ph M d mc ms Po X kc ks pc L st w) : VG ph M d mc ms (fun below args s G => vx_MQ below (QcP G ph Po) (XCP G ph Po) args s mc ms (AG G)) X kc ks pc L st w := k
section
variable {ph : Nat} {M : kM} {d mc ms : Nat} {Q : List Frame → Array Value → State → kG → State → Prop} {X : kG → State → Prop} {kc ks pc : Nat} {L : List (Option Value)} {st : List Value} {w : Wd}
theorem VG_iconst {n : Int} {v : Int32} (hd : decode (mC M) pc = .ok (.iconst n, 1)) (hv : Int32.ofInt n = v) (k : VG ph M d mc ms Q X kc ks (pc + 1) L (.int v :: st) w) : VG ph M d mc ms Q X kc ks pc L st w :=
  fun p l e R s m args below meth c G F H locs ls cells slots hR hS hl h1 h2 => lv_iconst F.1 F.2.1 hd hv (k p l e R s m args below meth c G F H locs ls cells slots hR hS hl h1 h2)
theorem VG_astore_n {j : Fin 4} {i : Nat} {x : Nat} (hd : decode (mC M) pc = .ok (.astore_n j, 1)) (hi : (j : Nat) = i) (hi9 : i < L.length) (hn : nod L i = true) (hlen : L.length = mN M) (k : VG ph M d mc ms Q X kc ks (pc + 1) (L.set i (some (.ref x))) st w) : VG ph M d mc ms Q X kc ks pc L (.ref x :: st) w :=
  fun p l e R s m args below meth c G F H locs ls cells slots hR hS hl h1 h2 => lv_astore_n F.1 F.2.1 hd hi hl (by rw [← hlen]; exact hi9) rfl (fun ls2 h8 => have h9 := lv_mono h8 (lv_put1 (v := .ref x) hi9 hn); k p l e R s m args below meth c G F H locs ls2 cells slots hR hS h9 h1 h2)
theorem VG_astore {i : Nat} {x : Nat} (hd : decode (mC M) pc = .ok (.astore i, 2)) (hi9 : i < L.length) (hn : nod L i = true) (hlen : L.length = mN M) (k : VG ph M d mc ms Q X kc ks (pc + 2) (L.set i (some (.ref x))) st w) : VG ph M d mc ms Q X kc ks pc L (.ref x :: st) w :=
  fun p l e R s m args below meth c G F H locs ls cells slots hR hS hl h1 h2 => lv_astore F.1 F.2.1 hd hl (by rw [← hlen]; exact hi9) rfl (fun ls2 h8 => have h9 := lv_mono h8 (lv_put1 (v := .ref x) hi9 hn); k p l e R s m args below meth c G F H locs ls2 cells slots hR hS h9 h1 h2)
theorem VG_istore {i : Nat} {x : Int32} (hd : decode (mC M) pc = .ok (.istore i, 2)) (hi9 : i < L.length) (hn : nod L i = true) (hlen : L.length = mN M) (k : VG ph M d mc ms Q X kc ks (pc + 2) (L.set i (some (.int x))) st w) : VG ph M d mc ms Q X kc ks pc L (.int x :: st) w :=
  fun p l e R s m args below meth c G F H locs ls cells slots hR hS hl h1 h2 => lv_istore F.1 F.2.1 hd hl (by rw [← hlen]; exact hi9) rfl (fun ls2 h8 => have h9 := lv_mono h8 (lv_put1 (v := .int x) hi9 hn); k p l e R s m args below meth c G F H locs ls2 cells slots hR hS h9 h1 h2)
theorem VG_dup {v : Value} (hd : decode (mC M) pc = .ok (.dup, 1)) (hv : v.category = 1) (k : VG ph M d mc ms Q X kc ks (pc + 1) L (v :: v :: st) w) : VG ph M d mc ms Q X kc ks pc L (v :: st) w :=
  fun p l e R s m args below meth c G F H locs ls cells slots hR hS hl h1 h2 => lv_dup F.1 F.2.1 hd (by rw [rv_cat]; exact hv) (k p l e R s m args below meth c G F H locs ls cells slots hR hS hl h1 h2)
theorem VG_iconst_n {n : Int} {v : Nat} (hd : decode (mC M) pc = .ok (.iconst n, 1)) (hv : Int32.ofInt n = nI v) (k : VG ph M d mc ms Q X kc ks (pc + 1) L (.int (nI v) :: st) w) : VG ph M d mc ms Q X kc ks pc L st w := VG_iconst hd hv k
theorem VG_new {idx a ci N : Nat} {C : String} {T : u_T} {kl : List Nat} {ty : Nat → FieldType} (hd : decode (mC M) pc = .ok (.new idx, 3)) (hn : wn w = a) (ha : a < 67) (hs : shp 0 a = (0, ci, kl)) (hc : kCl[ci]? = some (C, T, N)) (hw : Cond.classLink (mY M).cls idx C ∈ TG) (hi : Cond.instantiable C N ∈ TG) (hini : Cond.initialized C ∈ TG)
    (hty : ∀ j, j < N → parseFieldDescriptor (T j).2.2.1 = some (ty j)) (hkl : kl.length = N) (hk1 : ∀ j, j < N → kl.getD j 0 ≤ 1) (hdf : ∀ j, j < N → defaultValue (ty j) = dfl (kl.getD j 0)) (hb : 1 ≤ kc ∧ N ≤ ks)
    (k : VG 0 M d mc ms Q X (kc - 1) (ks - N) (pc + 3) L (.ref a :: st) (mkC a w)) : VG 0 M d mc ms Q X kc ks pc L st w := by
  intro p l e R s m args below meth c G F H locs ls cells slots hR hS hl h1 h2
  obtain ⟨hx, hbb, -, hown, hts, -, -, -, -, -, ⟨-, -, hd3, hd4⟩, hE, -⟩ := id F
  have hG := hE.2.2.2.2
  obtain ⟨hin, -, -, -⟩ := kOk hc
  have hKn := hE.1.1 ci _ hc
  have hz : H.size = gA G a := by rw [hR.2.2.2.1 rfl, hn, hG a (by omega)]
  refine W.newcK hx hbb hown (hts _ hw) (hts _ hi) (hts _ hini) rfl hd (by omega) (by omega) hKn.2.1 hz fun H1 kC hkC e1 z1 o1 => ?_
  refine k p l e R s m args below meth c G F H1 locs ls (cells + 1) (slots + N) (hR.more hG hn ha ?_ (by rw [z1, hz]) (fun q hq => o1 q (by omega))) (sS_grow hS (by rw [z1, hz]) (fun q hq => o1 q (by omega))) hl (by omega) (by omega)
  rw [hs]
  refine ⟨_, hc, (u_born ty hts hin hKn hkC e1 hty).to fun j hj => ?_⟩
  rw [hdf j hj, ← slot_mk (G := G) (a := a) (j := j) (w := w) (hk1 j hj)]
  show _ = vp_V ((List.range kl.length).map fun j => slotV G (mkC a w) a j (kl.getD j 0)) j
  simp [vp_V, hkl, hj]
theorem VG_newL {a n : Nat} {kl : List Nat} (hd : decode (mC M) pc = .ok (.newarray .long, 2)) (hn : wn w = a) (ha : a < 67) (hs : shp 0 a = (3, n, kl)) (hw : Cond.arrayClass .long ∈ TG) (hsz : n ≤ 1000) (hb : 1 ≤ kc ∧ n ≤ ks)
    (k : VG 0 M d mc ms Q X (kc - 1) (ks - n) (pc + 2) L (.ref a :: st) (mkC a w)) : VG 0 M d mc ms Q X kc ks pc L (.int (nI n) :: st) w := by
  intro p l e R s m args below meth c G F H locs ls cells slots hR hS hl h1 h2
  obtain ⟨hx, hbb, -, hown, hts, -, -, -, -, -, ⟨-, -, hd3, hd4⟩, hE, -⟩ := id F
  have hG := hE.2.2.2.2
  have hz : H.size = gA G a := by rw [hR.2.2.2.1 rfl, hn, hG a (by omega)]
  refine va_newaK (atype := .long) (n := nI n) (N := n) hx hbb (hts _ hw) rfl hd rfl (nI_nn9 (by omega)) (nI_clamp (by omega)) (by show n * 8 ≤ _; omega) (by omega) (by omega) hz fun H1 cA e1 z1 o1 hAr hNm => ?_
  have hcA : cA = gC G 2 := Option.some.inj (hNm.symm.trans (hE.1.2 2 _ rfl).2)
  subst hcA
  refine k p l e R s m args below meth c G F H1 locs ls (cells + 1) (slots + n) (hR.more hG hn ha ?_ (by rw [z1, hz]) (fun q hq => o1 q (by omega))) (sS_grow hS (by rw [z1, hz]) (fun q hq => o1 q (by omega))) hl (by omega) (by omega)
  rw [hs]
  show H1[gA G a]? = some (arrV (gC G 2) n (fun j => Value.long (gL (mkC a w) a j)))
  rw [show (fun j => Value.long (gL (mkC a w) a j)) = fun _ => defaultValue .long from funext fun j => by rw [gL_mk]; rfl]
  exact e1
theorem VG_newD {a n : Nat} {kl : List Nat} (hd : decode (mC M) pc = .ok (.newarray .double, 2)) (hn : wn w = a) (ha : a < 67) (hs : shp 0 a = (4, n, kl)) (hw : Cond.arrayClass .double ∈ TG) (hsz : n ≤ 1000) (hb : 1 ≤ kc ∧ n ≤ ks)
    (k : VG 0 M d mc ms Q X (kc - 1) (ks - n) (pc + 2) L (.ref a :: st) (mkC a w)) : VG 0 M d mc ms Q X kc ks pc L (.int (nI n) :: st) w := by
  intro p l e R s m args below meth c G F H locs ls cells slots hR hS hl h1 h2
  obtain ⟨hx, hbb, -, hown, hts, -, -, -, -, -, ⟨-, -, hd3, hd4⟩, hE, -⟩ := id F
  have hG := hE.2.2.2.2
  have hz : H.size = gA G a := by rw [hR.2.2.2.1 rfl, hn, hG a (by omega)]
  refine va_newaK (atype := .double) (n := nI n) (N := n) hx hbb (hts _ hw) rfl hd rfl (nI_nn9 (by omega)) (nI_clamp (by omega)) (by show n * 8 ≤ _; omega) (by omega) (by omega) hz fun H1 cA e1 z1 o1 hAr hNm => ?_
  have hcA : cA = gC G 3 := Option.some.inj (hNm.symm.trans (hE.1.2 3 _ rfl).2)
  subst hcA
  refine k p l e R s m args below meth c G F H1 locs ls (cells + 1) (slots + n) (hR.more hG hn ha ?_ (by rw [z1, hz]) (fun q hq => o1 q (by omega))) (sS_grow hS (by rw [z1, hz]) (fun q hq => o1 q (by omega))) hl (by omega) (by omega)
  rw [hs]
  show H1[gA G a]? = some (arrV (gC G 3) n (fun j => Value.double (gF (mkC a w) a j)))
  rw [show (fun j => Value.double (gF (mkC a w) a j)) = fun _ => defaultValue .double from funext fun j => by rw [gF_mk]; rfl]
  exact e1
theorem VG_core {mcy msy : Nat} {PoY : Out → Wd → Prop} {rest : List Value} (hbud : mcy ≤ kc ∧ msy ≤ ks)
    (kr : ∀ (v : Option Value) (w' : Wd), PoY (.inl v) w' → VG ph M d mc ms Q X (kc - mcy) (ks - msy) (pc + 3) L (v.toList ++ rest) w') (kx : ∀ (E : String) (w' : Wd), ¬ PoY (.inr E) w')
    {p : Program} {l : Launch} {e : Env} {R : Room} {s : State} {m : MethodId} {args : Array Value} {below : List Frame} {meth : Method} {c : Code} {G : kG} (F : Fx M d mc ms X p l R s m args meth c G)
    {H : Heap} {locs : List Loc} {ls : Array Slot} {cells slots : Nat} {st0 : List Value} {a' : Array Value} (hS : va_S (AG G) s.heap H locs) (hl : lv_has ls (mN M) (lvl G L)) (h1 : cells + kc ≤ mc) (h2 : slots + ks ≤ ms)
    (hr : vx_Run p l e R s m args below meth c H locs cells slots mcy msy (F0 m pc ls st0) (rest.map (rv G)) (QcP G ph PoY a') (XCP G ph PoY) (AG G)) : W p l e R s m args below meth c H locs cells slots (Q below args s G) (F0 m pc ls st0) := by
  refine run_end hr hS (fun v w' H1 locs1 hp hR1 hS1 => ?_) (fun E w' H1 locs1 q ce hp hR1 hS1 hce hcv hcl => absurd hp (kx E w'))
  have k := kr v w' hp p l e R s m args below meth c G F H1 locs1 ls (cells + mcy) (slots + msy) hR1 hS1 hl (by omega) (by omega)
  cases v <;> exact k
theorem VG_callI {idx b dy mcy msy : Nat} {My : kM} {w1 : Wd} (hd : decode (mC M) pc = .ok (.invokespecial idx, 3)) (hC : CtX My dy mcy msy [.ref b] w (Rt none w1)) (ok : okI My 0) (hw : Cond.methodLink (mY M).cls idx (mY My) ∈ TG) (hX : ∀ G s, X G s → XA s) (hcat : (st.map fun v => v.category).sum ≤ 8) (hdd : dy + 1 ≤ d ∧ 8 + (mN My + 11) + 200 * dy ≤ 200 * d) (hh : mH M = []) (hbud : mcy ≤ kc ∧ msy ≤ ks)
    (kr : VG 0 M d mc ms Q X (kc - mcy) (ks - msy) (pc + 3) L st w1) : VG 0 M d mc ms Q X kc ks pc L (.ref b :: st) w := by
  intro p l e R s m args below meth c G F H locs ls cells slots hR hS hl h1 h2
  obtain ⟨hx, hb, hml, hown, hts, -, -, -, -, hls, ⟨hd1, hd2, hd3, hd4⟩, hE, hXX⟩ := id F
  obtain ⟨⟨hhy, hcode, hini, hy1, hy2, hy3⟩, hin, hnm, hrt⟩ := ok
  have e9 : wM My = Cond.code (mY My) (mC My) (mN My) none := by rw [wM_nil hhy, hrt]
  refine VG_core hbud (PoY := Rt none w1) (fun v w' q => by obtain ⟨q1, q2⟩ := q; cases q1; subst q2; exact kr) (fun E w' q => by obtain ⟨q1, -⟩ := q; cases q1) F hS hl h1 h2 (st0 := (Value.ref b :: st).map (rv G)) (a' := #[Value.ref (gA G b)]) ?_
  refine vx_runI (bytes := mC My) (maxL := mN My) (n := 0) (As := []) (b := gA G b) (Ts := TG) (own := (mY M).cls) ⟨hx, hb, hml, hown, hts⟩ (hC l G hls) ⟨⟨rfl, rfl, by show dy + 1 ≤ R.frames; omega, by show 8 + (mN My + 11) + 200 * dy ≤ R.locals; omega, ws_warm hts hcode, by rw [← e9]; exact List.mem_cons_self, by rw [← e9]; exact hts _ hcode, hts _ hini, ⟨hy1, hy2⟩, fun sig h => ?_, hts _ hw⟩, hnm, hts _ hin⟩ ⟨preX_blind, preX_at hR hE (hX G s hXX) hS⟩ rfl rfl hl.1 rfl (lv_room (cats_le hcat)) hd ⟨by omega, by omega⟩
  rw [h] at hy3
  exact (Option.some.inj hy3).symm
/-- the slots that keep their cells -/
def okSl (w : Wd) (a j x0 x1 : Nat) : Bool := x1 == x0 || (x0 == 1 && (decide (2 ≤ x1) && (gR w a j == some (x1 - 2))))
def chkP (w : Wd) : Bool := (List.range 67).all fun a => (shp 0 a).1 == (shp 1 a).1 && ((shp 0 a).2.1 == (shp 1 a).2.1 && ((shp 0 a).2.2.length == (shp 1 a).2.2.length && (List.range (shp 0 a).2.2.length).all fun j => okSl w a j ((shp 0 a).2.2.getD j 0) ((shp 1 a).2.2.getD j 0)))
theorem slot_ph {G : kG} {w : Wd} {a j x0 x1 : Nat} (h : okSl w a j x0 x1 = true) : slotV G w a j x1 = slotV G w a j x0 := by
  unfold okSl at h
  simp only [Bool.or_eq_true, Bool.and_eq_true, beq_iff_eq, decide_eq_true_eq] at h
  rcases h with h | ⟨h1, h2, h3⟩
  · rw [h]
  · subst h1
    obtain ⟨q, rfl⟩ : ∃ q, x1 = q + 2 := ⟨x1 - 2, by omega⟩
    rw [Nat.add_sub_cancel] at h3
    show Value.ref (gA G q) = va_rf ((gR w a j).map (gA G))
    rw [h3]; rfl
theorem cell_ph {G : kG} {w : Wd} {a : Nat} (hc : chkP w = true) (ha : a < 67) : cellOf G w a (shp 1 a) = cellOf G w a (shp 0 a) := by
  have h := List.all_eq_true.mp hc a (List.mem_range.mpr ha)
  generalize shp 0 a = s0 at h ⊢
  generalize shp 1 a = s1 at h ⊢
  obtain ⟨x0, y0, l0⟩ := s0
  obtain ⟨x1, y1, l1⟩ := s1
  simp only [Bool.and_eq_true, beq_iff_eq] at h
  obtain ⟨e1, e2, e3, e4⟩ := h
  subst e1; subst e2
  match x0 with
  | 0 =>
    show Sum.inr (y0, (List.range l1.length).map fun j => slotV G w a j (l1.getD j 0)) = Sum.inr (y0, (List.range l0.length).map fun j => slotV G w a j (l0.getD j 0))
    rw [← e3]
    congr 2
    exact List.map_congr_left fun j hj => slot_ph (List.all_eq_true.mp e4 j hj)
  | 1 => rfl
  | 2 => rfl
  | 3 => rfl
  | 4 => rfl
  | n + 5 => rfl
theorem VG_phase (hn : wn w = 67) (hc : chkP w = true) (k : VG 1 M d mc ms Q X kc ks pc L st w) : VG 0 M d mc ms Q X kc ks pc L st w := by
  intro p l e R s m args below meth c G F H locs ls cells slots hR hS hl h1 h2
  refine k p l e R s m args below meth c G F H locs ls cells slots ⟨?_, hR.2.1, hR.2.2.1, (fun h => by cases h), fun _ => hn⟩ hS hl h1 h2
  have e9 : wl G (shp 1) w = wl G (shp 0) w := by
    unfold wl
    exact List.map_congr_left fun a ha => by rw [cell_ph hc (by have := List.mem_range.mp ha; omega)]
  rw [e9]
  exact hR.1
end
def w00 : Wd := (0, (fun _ _ => 0), (fun _ _ => none), (fun _ _ => 0), fun _ _ => 0)
def nL : Wd := (mkC 66 (mkC 65 (nX11 (mkC 47 (nX10 (mkC 0 w00))))))
def s00 : St := (fun _ => 0, 0, fun _ => 0)
def S00 : Sys := (s00, (0, 0, fun _ => s00), (0, s00), [], [], -1, (0, 0, 0))
theorem nL_n : wn nL = 67 := rfl
theorem nL_c : chkP nL = true := by decide +kernel
theorem rep0 {a : Nat} (h : a ∈ stL ∧ (∀ k, k < 64 → gI nL (a + 1) k = nI (kc (s00.1 k))) ∧ (∀ k, k < 64 → gI nL (a + 2) k = nI (ag (s00.1 k))) ∧ gR nL a 2 = some (1000 + s00.2.1) ∧ ∀ j, j < 6 → gI nL a (3 + j) = s00.2.2 j) : Repr nL a s00 := ⟨h.1, fun k _ => Or.inl rfl, h.2.1, h.2.2.1, by decide, h.2.2.2⟩
theorem bal0 : Bal s00 := by unfold Bal; decide +kernel
theorem bk0 {a o : Nat} (h : ∀ k, k < 71 → gI nL a (o + k) = bk s00 k) : Bk nL a o s00 := ⟨⟨fun k _ => Or.inl rfl, by decide⟩, h⟩
theorem ci_0 : CI nL S00 := by
  refine ⟨⟨rep0 (by decide +kernel), bal0⟩, ⟨⟨by decide, by decide, by decide +kernel, by decide +kernel, by decide +kernel, ?_⟩, fun j _ => bal0⟩, ⟨rep0 (by decide +kernel), bal0⟩, ⟨⟨by decide +kernel, fun i hi => absurd hi (Nat.not_lt_zero i)⟩, by decide, fun i hi => absurd hi (Nat.not_lt_zero i)⟩, ⟨0, 6, 0, 0, 0, 0, 97, 0, 0, ⟨by decide +kernel, fun i hi => absurd hi (Nat.not_lt_zero i)⟩, ⟨by decide, fun i hi => absurd hi (Nat.not_lt_zero i)⟩, by decide +kernel⟩, by unfold ci0; decide +kernel⟩
  intro j hj
  match j, hj with
  | 0, _ => exact rep0 (by decide +kernel)
  | 1, _ => exact rep0 (by decide +kernel)
  | 2, _ => exact rep0 (by decide +kernel)
  | 3, _ => exact rep0 (by decide +kernel)
  | 4, _ => exact rep0 (by decide +kernel)
  | 5, _ => exact rep0 (by decide +kernel)
  | 6, _ => exact rep0 (by decide +kernel)
  | 7, _ => exact rep0 (by decide +kernel)
theorem mi_0 : MI nL S00 := by
  refine ⟨bk0 (by decide +kernel), ⟨by decide +kernel, by decide, fun i hi => absurd hi (Nat.not_lt_zero i)⟩, ⟨by decide +kernel, bk0 (by decide +kernel)⟩, ⟨⟨by decide +kernel, fun i hi => absurd hi (Nat.not_lt_zero i)⟩, by decide, fun i hi => absurd hi (Nat.not_lt_zero i)⟩, ⟨⟨by decide +kernel, fun i hi => absurd hi (Nat.not_lt_zero i)⟩, by decide, fun i hi => absurd hi (Nat.not_lt_zero i)⟩, by unfold ReI; decide +kernel, by unfold Tb; decide +kernel⟩
set_option maxRecDepth 100000 in
set_option maxHeartbeats 2000000 in
theorem law_start {b n : Nat} {xs : Nat → Int32} (hn : n ≤ 2560) : VG 0 ML_law 20 3000 30000 (fun below args s G => vx_MQ below (QcP G 1 LPo) (XCP G 1 LPo) args s 3000 30000 (AG G)) (XL b n xs) 3000 30000 0 [some (.ref 1999), none, none, none, none, none, none, none, none] [] w00 := by
  refine VG_new (a := 0) dL_law_0 rfl (by decide) rfl rfl clRL_8 ibButtonReef inButtonReef tyX10_ok rfl (by decide) (by decide) ⟨by omega, by omega⟩ ?_
  refine VG_dup dL_law_3 rfl ?_
  refine VG_callI dL_law_4 (k_X10 rfl) okX10_init lkRL_150 (fun _ _ h => h.2.2.2.2) (Nat.le_of_ble_eq_true rfl) ⟨(Nat.le_of_ble_eq_true rfl), (Nat.le_of_ble_eq_true rfl)⟩ rfl ⟨by omega, by omega⟩ ?_
  refine VG_astore_n (i := 1) dL_law_7 rfl (Nat.le_of_ble_eq_true rfl) rfl rfl ?_
  refine VG_new (a := 47) dL_law_8 rfl (by decide) rfl rfl clRL_151 ibButtonReefModel inButtonReefModel tyX11_ok rfl (by decide) (by decide) ⟨by omega, by omega⟩ ?_
  refine VG_dup dL_law_11 rfl ?_
  refine VG_callI dL_law_12 (k_X11 rfl) okX11_init lkRL_153 (fun _ _ h => h.2.2.2.2) (Nat.le_of_ble_eq_true rfl) ⟨(Nat.le_of_ble_eq_true rfl), (Nat.le_of_ble_eq_true rfl)⟩ rfl ⟨by omega, by omega⟩ ?_
  refine VG_astore_n (i := 2) dL_law_15 rfl (Nat.le_of_ble_eq_true rfl) rfl rfl ?_
  refine VG_iconst_n (v := 1) dL_law_16 (by decide) ?_
  refine VG_newL (a := 65) dL_law_17 rfl (by decide) rfl ac_long (by decide) ⟨by omega, by omega⟩ ?_
  refine VG_astore_n (i := 3) dL_law_19 rfl (Nat.le_of_ble_eq_true rfl) rfl rfl ?_
  refine VG_iconst_n (v := 1) dL_law_20 (by decide) ?_
  refine VG_newD (a := 66) dL_law_21 rfl (by decide) rfl ac_double (by decide) ⟨by omega, by omega⟩ ?_
  refine VG_astore (i := 4) dL_law_23 (Nat.le_of_ble_eq_true rfl) rfl rfl ?_
  refine VG_iconst_n (v := 0) dL_law_25 (by decide) ?_
  refine VG_istore (i := 5) dL_law_26 (Nat.le_of_ble_eq_true rfl) rfl rfl ?_
  refine VG_phase (w := nL) nL_n nL_c ?_
  exact VG_of (law_loop hn 513 0 _ _ S00 nL rfl ci_0 mi_0 (by decide) (by decide))
end LSTART
