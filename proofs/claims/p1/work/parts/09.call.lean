/-! CONTRACTS OUT OF WALKS, AND CALLS. -/
section CALLROWS
theorem lv_args_mem (vs : List Value) : ∀ (i j : Nat) (v : Value), (∀ x ∈ vs, x.category = 1) → vs[j]? = some v → (i + j, v) ∈ lv_args i vs := by
  induction vs with
  | nil => intro i j v _ h; simp at h
  | cons a vs ih =>
    intro i j v hc h
    have ha : ¬ a.category = 2 := by rw [hc a List.mem_cons_self]; decide
    unfold lv_args
    rw [if_neg ha]
    match j, h with
    | 0, h => cases h; exact List.mem_cons_self
    | j + 1, h =>
      have h1 := ih (i + 1) j v (fun x hx => hc x (List.mem_cons_of_mem _ hx)) (by simpa using h)
      have e : i + (j + 1) = i + 1 + j := by omega
      rw [e]
      exact List.mem_cons_of_mem _ h1
theorem lg_sl_len (vs : List Value) (hc : ∀ x ∈ vs, x.category = 1) : (lg_sl vs).length = vs.length := by
  induction vs with
  | nil => rfl
  | cons a vs ih =>
    have ha : ¬ a.category = 2 := by rw [hc a List.mem_cons_self]; decide
    have h1 := ih (fun x hx => hc x (List.mem_cons_of_mem _ hx))
    show ((a :: vs).flatMap _).length = _
    rw [List.flatMap_cons, List.length_append, if_neg ha]
    show 1 + (lg_sl vs).length = vs.length + 1
    omega
theorem rv_cat (G : kG) (v : Value) : (rv G v).category = v.category := by cases v <;> rfl
theorem rv_cats {G : kG} {av : List Value} (h : ∀ x ∈ av, x.category = 1) : ∀ x ∈ av.map (rv G), x.category = 1 := by
  intro x hx
  obtain ⟨y, hy, rfl⟩ := List.mem_map.mp hx
  rw [rv_cat]; exact h y hy
/-- the locals at a method's start -/
def L0 (n : Nat) (av : List Value) : List (Option Value) := av.map some ++ List.replicate (n - av.length) none
theorem L0_mem {G : kG} {n : Nat} {av : List Value} (hc : ∀ x ∈ av, x.category = 1) : ∀ q ∈ lvl G (L0 n av), q ∈ lv_args 0 (av.map (rv G)) := by
  intro q hq
  obtain ⟨v, h1, h2⟩ := lvl_of hq
  unfold L0 at h1
  by_cases hl : q.1 < av.length
  · rw [List.getElem?_append_left (by simpa using hl)] at h1
    have h3 : av[q.1]? = some v := by
      simp only [List.getElem?_map] at h1
      cases h9 : av[q.1]? with
      | none => rw [h9] at h1; cases h1
      | some z => rw [h9] at h1; cases h1; rfl
    have h4 := lv_args_mem (av.map (rv G)) 0 q.1 (rv G v) (rv_cats hc) (by rw [List.getElem?_map, h3]; rfl)
    rw [← h2, Nat.zero_add] at h4
    exact h4
  · rw [List.getElem?_append_right (by simpa using Nat.le_of_not_lt hl)] at h1
    have h9 := List.getElem?_eq_some_iff.mp h1
    obtain ⟨h9, h10⟩ := h9
    simp at h10
theorem Ct_of {ph : Nat} {M : kM} {d mc ms : Nat} {av : List Value} {w : Wd} {Po : Out → Wd → Prop} (hp : plainName (mY M).cls = true) (hh : mH M = []) (hn : av.length ≤ mN M) (hc0 : (av.all fun v => v.category == 1) = true)
    (k : V ph M d mc ms Po (fun _ _ => True) mc ms 0 (L0 (mN M) av) [] w) : Ct ph M d mc ms av w Po := by
  have hc : ∀ x ∈ av, x.category = 1 := fun x hx => by have := List.all_eq_true.mp hc0 x hx; simpa using this
  intro l G hls
  have hws : wsM M = Cond.code (mY M) (mC M) (mN M) (mR M) :: TG := by unfold wsM wM; rw [hh]
  refine vx_ofW (cc := mC M) (maxL := mN M) (ret := mR M) (ws' := TG) hp hws ?_
  intro p e s m args below meth c s₁ B hml ht hv
  obtain ⟨rfl, hR, hE⟩ := hv
  have hts := atoms_spec (ws := wsM M) B.pre
  have htab : c.exceptionTable.toList = tableOf (mH M) := by
    rw [hh]
    cases h9 : c.exceptionTable.toList with
    | nil => rfl
    | cons x xs => rw [h9] at ht; exact absurd (ht x List.mem_cons_self) id
  have hl := lv_entry (av.map (rv G)) (n := mN M) (by rw [lg_sl_len _ (rv_cats hc), List.length_map]; exact hn)
  rw [lg_entry_eq]
  exact k p l e _ s m _ below meth c G ⟨B.exec, B.bytes, hml, findClass_of_methodNamed B.named, fun w hw => hts w (List.mem_cons_of_mem _ hw), B.notSynchronized, B.returns, (name_of_methodNamed B.named B.method).1, htab, hls, ⟨Nat.le_refl _, Nat.le_refl _, Nat.le_refl _, Nat.le_refl _⟩, hE, trivial⟩ s.heap [] _ 0 0 hR va_S.rf (lv_mono hl (L0_mem hc)) (by omega) (by omega)
theorem wM_nil {My : kM} (hh : mH My = []) : wM My = Cond.code (mY My) (mC My) (mN My) (mR My) := by unfold wM; rw [hh]
theorem ws_warm {s : State} {args : Array Value} (hts : ∀ w ∈ TG, w.before args s = true) {My : kM} (h : wM My ∈ TG) : ∀ w ∈ wsM My, ∀ (a' : Array Value) (U : State), s.WarmedH U.vm → w.before a' U = true := by
  intro w hw a' U hW
  have h1 : w ∈ TG := by
    rcases List.mem_cons.mp hw with e | e
    · rw [e]; exact h
    · exact e
  exact word_at hW (good_of_word (tg_good w h1)) (hts w h1)
theorem pre_blind {G : kG} {ph : Nat} {av : List Value} {w : Wd} : FrameBlind (va_Pc av (fun U => Rl G ph w U.heap ∧ Ev G U U.heap)) := by
  intro a U g mk q
  exact ⟨q.1, q.2.1, Ev.to (s := U) (U := U.calling g mk a) (State.WarmedH.refl U) q.2.2 (fun _ _ _ => rfl)⟩
theorem pre_at {G : kG} {ph : Nat} {av : List Value} {w : Wd} {s : State} {H : Heap} {locs : List Loc} (hR : Rl G ph w H) (hE : Ev G s s.heap) (hS : va_S (AG G) s.heap H locs) : ∀ U : State, U.heap = H → s.WarmedH U.vm → va_Pc av (fun U => Rl G ph w U.heap ∧ Ev G U U.heap) av.toArray U := by
  intro U hU hW
  exact ⟨rfl, by rw [hU]; exact hR, Ev.to hW hE (fun a h1 h2 => by rw [hU]; exact hS.2.1 a h1 h2)⟩
section ROWS3
variable {ph : Nat} {M : kM} {d mc ms : Nat} {Po : Out → Wd → Prop} {X : kG → State → Prop} {kc ks pc : Nat} {L : List (Option Value)} {st : List Value} {w : Wd}
theorem run_end {p : Program} {l : Launch} {e : Env} {R : Room} {s : State} {m : MethodId} {args : Array Value} {below : List Frame} {meth : Method} {c : Code} {G : kG} {H : Heap} {locs : List Loc} {ls : Array Slot} {cells slots mcy msy : Nat} {st0 rest : List Value} {a' : Array Value} {PoY : Out → Wd → Prop} {Q : State → Prop}
    (hr : vx_Run p l e R s m args below meth c H locs cells slots mcy msy (F0 m pc ls st0) rest (QcP G ph PoY a') (XCP G ph PoY) (AG G)) (hS : va_S (AG G) s.heap H locs)
    (kr : ∀ (v : Option Value) (w' : Wd) (H1 : Heap) (locs1 : List Loc), PoY (.inl v) w' → Rl G ph w' H1 → va_S (AG G) s.heap H1 locs1 → W p l e R s m args below meth c H1 locs1 (cells + mcy) (slots + msy) Q (F0 m (pc + 3) ls ((v.map (rv G)).toList ++ rest)))
    (kx : ∀ (E : String) (w' : Wd) (H1 : Heap) (locs1 : List Loc) (q : Addr) (ce : Cell), PoY (.inr E) w' → Rl G ph w' H1 → va_S (AG G) s.heap H1 locs1 → H1[q]? = some ce → ce.vm = .none → s.vm.findClass E = some ce.cls → vx_W p l e R s m args below meth c H1 locs1 (cells + mcy) (slots + msy) Q (F0 m pc ls rest) q) : W p l e R s m args below meth c H locs cells slots Q (F0 m pc ls st0) := by
  intro T hT X9
  rcases hr T hT X9 with ⟨v, st₀, t, T', L, h0, X', hL, e1, e2, ⟨⟨v', w', hv, hp, hb⟩, hF⟩, st⟩ | ⟨q, st₀, t, T', L, E, ce, h0, X', hL, e1, e2, ⟨⟨w', hp, hb⟩, hF⟩, hce, hcv, hcl, st⟩
  · cases hv
    obtain ⟨k1, k2, k3⟩ := vx_keep h0 e1 hS (fun _ _ h => h) (fun _ h => h) hL hF
    obtain ⟨t2, a1, b1⟩ := kr v' w' T'.heap (locs ++ L) hp (by rw [e1]; exact hb) k3 T' rfl X'
    exact ⟨t2, st t2 a1, b1⟩
  · obtain ⟨k1, k2, k3⟩ := vx_keep h0 e1 hS (fun _ _ h => h) (fun _ h => h) hL hF
    obtain ⟨t2, a1, b1⟩ := kx E w' T'.heap (locs ++ L) q ce hp (by rw [e1]; exact hb) k3 (by rw [e1]; exact hce) hcv hcl T' rfl X'
    exact ⟨t2, st.trans a1, b1⟩
/-- what a call leaves to show: the callee's answers, its exceptions -/
theorem V_core {dy mcy msy : Nat} {PoY : Out → Wd → Prop} {As2 rest : List Value} (hh : mH M = []) (hbud : mcy ≤ kc ∧ msy ≤ ks)
    (kr : ∀ (v : Option Value) (w' : Wd), PoY (.inl v) w' → V ph M d mc ms Po X (kc - mcy) (ks - msy) (pc + 3) L (v.toList ++ rest) w') (kx : ∀ (E : String) (w' : Wd), PoY (.inr E) w' → Po (.inr E) w')
    {p : Program} {l : Launch} {e : Env} {R : Room} {s : State} {m : MethodId} {args : Array Value} {below : List Frame} {meth : Method} {c : Code} {G : kG} (F : Fx M d mc ms X p l R s m args meth c G)
    {H : Heap} {locs : List Loc} {ls : Array Slot} {cells slots : Nat} {st0 : List Value} {a' : Array Value} (hS : va_S (AG G) s.heap H locs) (hl : lv_has ls (mN M) (lvl G L)) (h1 : cells + kc ≤ mc) (h2 : slots + ks ≤ ms)
    (hr : vx_Run p l e R s m args below meth c H locs cells slots mcy msy (F0 m pc ls st0) (rest.map (rv G)) (QcP G ph PoY a') (XCP G ph PoY) (AG G)) : W p l e R s m args below meth c H locs cells slots (vx_MQ below (QcP G ph Po) (XCP G ph Po) args s mc ms (AG G)) (F0 m pc ls st0) := by
  refine run_end hr hS (fun v w' H1 locs1 hp hR1 hS1 => ?_) (fun E w' H1 locs1 q ce hp hR1 hS1 hce hcv hcl => ?_)
  · have k := kr v w' hp p l e R s m args below meth c G F H1 locs1 ls (cells + mcy) (slots + msy) hR1 hS1 hl (by omega) (by omega)
    cases v <;> exact k
  · obtain ⟨-, -, -, -, -, hlk, -, -, htab, -⟩ := F
    refine vx_out ?_ hlk hce hcv hcl (fun t ht _ => ⟨⟨w', kx E w' hp, by rw [ht]; exact hR1⟩, hS1.F ht⟩) hS1.2.2 (by omega) (by omega)
    intro x hx
    rw [htab, hh] at hx
    cases hx
theorem cats_le {G : kG} {rest : List Value} (h : (rest.map fun v => v.category).sum ≤ 8) : ((rest.map (rv G)).map fun v => v.category).sum ≤ 8 := by
  have e : (rest.map (rv G)).map (fun v => v.category) = rest.map (fun v => v.category) := by
    rw [List.map_map]
    exact List.map_congr_left fun v _ => rv_cat G v
  rw [e]; exact h
theorem V_callV {idx b ci n dy mcy msy N : Nat} {My : kM} {As rest : List Value} {T : u_T} {kl : List Nat} {PoY : Out → Wd → Prop} (hd : decode (mC M) pc = .ok (.invokevirtual idx, 3)) (hC : Ct ph My dy mcy msy (.ref b :: As) w PoY) (ok : okV My n) (hw : Cond.methodLink (mY M).cls idx (mY My) ∈ TG) (hb9 : Mk ph w b) (hs : shp ph b = (0, ci, kl)) (hc : kCl[ci]? = some ((mY My).cls, T, N)) (hn : As.length = n) (hst : st = As.reverse ++ .ref b :: rest) (hcat : (rest.map fun v => v.category).sum ≤ 8) (hdd : dy + 1 ≤ d ∧ 8 + (mN My + 11) + 200 * dy ≤ 200 * d) (hh : mH M = []) (hbud : mcy ≤ kc ∧ msy ≤ ks)
    (kr : ∀ (v : Option Value) (w' : Wd), PoY (.inl v) w' → V ph M d mc ms Po X (kc - mcy) (ks - msy) (pc + 3) L (v.toList ++ rest) w') (kx : ∀ (E : String) (w' : Wd), PoY (.inr E) w' → Po (.inr E) w') : V ph M d mc ms Po X kc ks pc L st w := by
  subst hst
  intro p l e R s m args below meth c G F H locs ls cells slots hR hS hl h1 h2
  have he := wl_at (G := G) (sh := shp ph) (hb9.lt hR)
  rw [hs] at he
  obtain ⟨hx, hb, hml, hown, hts, -, -, -, -, hls, ⟨hd1, hd2, hd3, hd4⟩, hE, -⟩ := id F
  obtain ⟨⟨hhy, hcode, hini, hy1, hy2, hy3⟩, hin, hsel⟩ := ok
  refine V_core (dy := dy) (As2 := As) hh hbud kr kx F hS hl h1 h2 (st0 := (As.reverse ++ .ref b :: rest).map (rv G)) (a' := (Value.ref (gA G b) :: As.map (rv G)).toArray) ?_
  refine vx_runV (C := (mY My).cls) (bytes := mC My) (maxL := mN My) (ret := mR My) (n := n) (As := As.map (rv G)) (b := gA G b) (Ts := TG) (own := (mY M).cls) ⟨hx, hb, hml, hown, hts⟩ (hC l G hls) ⟨⟨rfl, rfl, by show dy + 1 ≤ R.frames; omega, by show 8 + (mN My + 11) + 200 * dy ≤ R.locals; omega, ws_warm hts hcode, by rw [← wM_nil hhy]; exact List.mem_cons_self, by rw [← wM_nil hhy]; exact hts _ hcode, hts _ hini, ⟨hy1, hy2⟩, fun sig h => ?_, hts _ hw⟩, hts _ hin, hts _ hsel⟩ ⟨pre_blind, va_recv hE.1 hR.1 hc he, pre_at hR hE hS⟩ rfl (by rw [List.length_map]; exact hn) hl.1 (by simp [rv]) (lv_room (cats_le hcat)) hd ⟨by omega, by omega⟩
  rw [h] at hy3
  exact (Option.some.inj hy3).symm
theorem V_callS {idx n dy mcy msy : Nat} {My : kM} {As rest : List Value} {PoY : Out → Wd → Prop} (hd : decode (mC M) pc = .ok (.invokestatic idx, 3)) (hC : Ct ph My dy mcy msy As w PoY) (ok : okS My n) (hw : Cond.methodLink (mY M).cls idx (mY My) ∈ TG) (hn : As.length = n) (hst : st = As.reverse ++ rest) (hcat : (rest.map fun v => v.category).sum ≤ 8) (hdd : dy + 1 ≤ d ∧ 8 + (mN My + 11) + 200 * dy ≤ 200 * d) (hh : mH M = []) (hbud : mcy ≤ kc ∧ msy ≤ ks)
    (kr : ∀ (v : Option Value) (w' : Wd), PoY (.inl v) w' → V ph M d mc ms Po X (kc - mcy) (ks - msy) (pc + 3) L (v.toList ++ rest) w') (kx : ∀ (E : String) (w' : Wd), PoY (.inr E) w' → Po (.inr E) w') : V ph M d mc ms Po X kc ks pc L st w := by
  subst hst
  intro p l e R s m args below meth c G F H locs ls cells slots hR hS hl h1 h2
  obtain ⟨hx, hb, hml, hown, hts, -, -, -, -, hls, ⟨hd1, hd2, hd3, hd4⟩, hE, -⟩ := id F
  obtain ⟨⟨hhy, hcode, hini, hy1, hy2, hy3⟩, hstt⟩ := ok
  refine V_core (dy := dy) (As2 := As) hh hbud kr kx F hS hl h1 h2 (st0 := (As.reverse ++ rest).map (rv G)) (a' := (As.map (rv G)).toArray) ?_
  refine vx_runS (bytes := mC My) (maxL := mN My) (ret := mR My) (n := n) (As := As.map (rv G)) (Ts := TG) (own := (mY M).cls) ⟨hx, hb, hml, hown, hts⟩ (hC l G hls) ⟨⟨rfl, rfl, by show dy + 1 ≤ R.frames; omega, by show 8 + (mN My + 11) + 200 * dy ≤ R.locals; omega, ws_warm hts hcode, by rw [← wM_nil hhy]; exact List.mem_cons_self, by rw [← wM_nil hhy]; exact hts _ hcode, hts _ hini, ⟨hy1, hy2⟩, fun sig h => ?_, hts _ hw⟩, hts _ hstt⟩ ⟨pre_blind, pre_at hR hE hS⟩ rfl (by rw [List.length_map]; exact hn) hl.1 (by simp) (lv_room (cats_le hcat)) hd ⟨by omega, by omega⟩
  rw [h] at hy3
  exact (Option.some.inj hy3).symm
theorem V_callSN {idx n dy mcy msy : Nat} {host : String} {My : kM} {As rest : List Value} {PoY : Out → Wd → Prop} (hd : decode (mC M) pc = .ok (.invokestatic idx, 3)) (hC : Ct ph My dy mcy msy As w PoY) (ok : okS My n) (hw : ((mY M).cls, idx, mY My, host) ∈ cNm) (hn : As.length = n) (hst : st = As.reverse ++ rest) (hcat : (rest.map fun v => v.category).sum ≤ 8) (hdd : dy + 1 ≤ d ∧ 8 + (mN My + 11) + 200 * dy ≤ 200 * d) (hh : mH M = []) (hbud : mcy ≤ kc ∧ msy ≤ ks)
    (kr : ∀ (v : Option Value) (w' : Wd), PoY (.inl v) w' → V ph M d mc ms Po X (kc - mcy) (ks - msy) (pc + 3) L (v.toList ++ rest) w') (kx : ∀ (E : String) (w' : Wd), PoY (.inr E) w' → Po (.inr E) w') : V ph M d mc ms Po X kc ks pc L st w := by
  subst hst
  intro p l e R s m args below meth c G F H locs ls cells slots hR hS hl h1 h2
  obtain ⟨hx, hb, hml, hown, hts, -, -, -, -, hls, ⟨hd1, hd2, hd3, hd4⟩, hE, -⟩ := id F
  obtain ⟨⟨hhy, hcode, hini, hy1, hy2, hy3⟩, hstt⟩ := ok
  refine V_core (dy := dy) (As2 := As) hh hbud kr kx F hS hl h1 h2 (st0 := (As.reverse ++ rest).map (rv G)) (a' := (As.map (rv G)).toArray) ?_
  refine vx_runSN (host := host) (bytes := mC My) (maxL := mN My) (ret := mR My) (n := n) (As := As.map (rv G)) (Ts := TG) (own := (mY M).cls) ⟨hx, hb, hml, hown, hts⟩ (hC l G hls) ⟨⟨⟨rfl, rfl, by show dy + 1 ≤ R.frames; omega, by show 8 + (mN My + 11) + 200 * dy ≤ R.locals; omega, ws_warm hts hcode, by rw [← wM_nil hhy]; exact List.mem_cons_self⟩, by rw [← wM_nil hhy]; exact hts _ hcode, hts _ hini, ⟨hy1, hy2⟩, fun sig h => ?_, va_Nw.use rfl (hE.2.1.1 _ hw)⟩, hts _ hstt, trivial⟩ ⟨pre_blind, pre_at hR hE hS⟩ rfl (by rw [List.length_map]; exact hn) hl.1 (by simp) (lv_room (cats_le hcat)) hd ⟨by omega, by omega⟩
  rw [h] at hy3
  exact (Option.some.inj hy3).symm
/-- a contract that says one end -/
def Rt (v : Option Value) (w1 : Wd) : Out → Wd → Prop := fun o w' => o = .inl v ∧ w' = w1
def Tx (E : String) (w1 : Wd) : Out → Wd → Prop := fun o w' => o = .inr E ∧ w' = w1
theorem V_top {x y : Int32} (h : x = y) (k : V ph M d mc ms Po X kc ks pc L (.int y :: st) w) : V ph M d mc ms Po X kc ks pc L (.int x :: st) w := by rw [h]; exact k
theorem V_callVF {idx b ci n dy N : Nat} {My : kM} {As rest : List Value} {T : u_T} {kl : List Nat} {v : Option Value} {w1 : Wd} (hd : decode (mC M) pc = .ok (.invokevirtual idx, 3)) (hC : Ct ph My dy 0 0 (.ref b :: As) w (Rt v w1)) (ok : okV My n) (hw : Cond.methodLink (mY M).cls idx (mY My) ∈ TG) (hb9 : Mk ph w b) (hs : shp ph b = (0, ci, kl)) (hc : kCl[ci]? = some ((mY My).cls, T, N)) (hn : As.length = n) (hst : st = As.reverse ++ .ref b :: rest) (hcat : (rest.map fun v => v.category).sum ≤ 8) (hdd : dy + 1 ≤ d ∧ 8 + (mN My + 11) + 200 * dy ≤ 200 * d) (hh : mH M = [])
    (kr : V ph M d mc ms Po X kc ks (pc + 3) L (v.toList ++ rest) w1) : V ph M d mc ms Po X kc ks pc L st w :=
  V_callV hd hC ok hw hb9 hs hc hn hst hcat hdd hh ⟨Nat.zero_le _, Nat.zero_le _⟩ (fun v w' h => by obtain ⟨h1, h2⟩ := h; cases h1; subst h2; exact kr) (fun E w' h => by cases h.1)
theorem V_callSF {idx n dy : Nat} {My : kM} {As rest : List Value} {v : Option Value} {w1 : Wd} (hd : decode (mC M) pc = .ok (.invokestatic idx, 3)) (hC : Ct ph My dy 0 0 As w (Rt v w1)) (ok : okS My n) (hw : Cond.methodLink (mY M).cls idx (mY My) ∈ TG) (hn : As.length = n) (hst : st = As.reverse ++ rest) (hcat : (rest.map fun v => v.category).sum ≤ 8) (hdd : dy + 1 ≤ d ∧ 8 + (mN My + 11) + 200 * dy ≤ 200 * d) (hh : mH M = [])
    (kr : V ph M d mc ms Po X kc ks (pc + 3) L (v.toList ++ rest) w1) : V ph M d mc ms Po X kc ks pc L st w :=
  V_callS hd hC ok hw hn hst hcat hdd hh ⟨Nat.zero_le _, Nat.zero_le _⟩ (fun v w' h => by obtain ⟨h1, h2⟩ := h; cases h1; subst h2; exact kr) (fun E w' h => by cases h.1)
theorem V_callSNF {idx n dy : Nat} {host : String} {My : kM} {As rest : List Value} {v : Option Value} {w1 : Wd} (hd : decode (mC M) pc = .ok (.invokestatic idx, 3)) (hC : Ct ph My dy 0 0 As w (Rt v w1)) (ok : okS My n) (hw : ((mY M).cls, idx, mY My, host) ∈ cNm) (hn : As.length = n) (hst : st = As.reverse ++ rest) (hcat : (rest.map fun v => v.category).sum ≤ 8) (hdd : dy + 1 ≤ d ∧ 8 + (mN My + 11) + 200 * dy ≤ 200 * d) (hh : mH M = [])
    (kr : V ph M d mc ms Po X kc ks (pc + 3) L (v.toList ++ rest) w1) : V ph M d mc ms Po X kc ks pc L st w :=
  V_callSN hd hC ok hw hn hst hcat hdd hh ⟨Nat.zero_le _, Nat.zero_le _⟩ (fun v w' h => by obtain ⟨h1, h2⟩ := h; cases h1; subst h2; exact kr) (fun E w' h => by cases h.1)
end ROWS3
end CALLROWS
