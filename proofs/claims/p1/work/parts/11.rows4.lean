/-! ROWS OVER THE CONSTANTS, THROWS, COPIES. -/
section ROWS4
variable {ph : Nat} {M : kM} {d mc ms : Nat} {Po : Out → Wd → Prop} {X : kG → State → Prop} {kc ks pc : Nat} {L : List (Option Value)} {st : List Value} {w : Wd}
/-- a field of a constant -/
theorem V_getK {idx k : Nat} {o n dsc : String} {v : Value} (hd : decode (mC M) pc = .ok (.getfield idx, 3)) (hm : (o, n, dsc, v, k) ∈ cF) (hw : Cond.fieldLink (mY M).cls idx o n dsc ∈ TG)
    (kk : V ph M d mc ms Po X kc ks (pc + 3) L (v :: st) w) : V ph M d mc ms Po X kc ks pc L (.ref k :: st) w := by
  intro p l e R s m args below meth c G F H locs ls cells slots hR hS hl h1 h2
  obtain ⟨hx, hb, -, hown, hts, -, -, -, -, -, -, hE, -⟩ := id F
  obtain ⟨cf, kf, i, f, cell, g1, g2, g3, g4, g5, g6⟩ := (hE.2.2.1.2.2.1 _ hm).kept hS.2.1
  exact W.getf hx hb hown (hts _ hw) g1 g2 g3 g4 (v := rv G v) g5 rfl rfl hd (kk p l e R s m args below meth c G F H locs ls cells slots hR hS hl h1 h2)
theorem V_gets {idx : Nat} {C n dsc : String} {v : Value} (hd : decode (mC M) pc = .ok (.getstatic idx, 3)) (hm : (C, n, dsc, v) ∈ cZ) (hw : Cond.fieldLink (mY M).cls idx C n dsc ∈ TG)
    (kk : V ph M d mc ms Po X kc ks (pc + 3) L (v :: st) w) : V ph M d mc ms Po X kc ks pc L st w := by
  intro p l e R s m args below meth c G F H locs ls cells slots hR hS hl h1 h2
  obtain ⟨hx, hb, -, hown, hts, -, -, -, -, -, -, hE, -⟩ := id F
  exact va_gets hx hb (hE.2.2.1.1 _ hm) hS hown (hts _ hw) (fun _ h => h) hd (kk p l e R s m args below meth c G F H locs ls cells slots hR hS hl h1 h2)
theorem V_getsN {idx : Nat} {C n dsc host : String} {v : Value} (hd : decode (mC M) pc = .ok (.getstatic idx, 3)) (hm : (C, n, dsc, v) ∈ cZ) (hw : ((mY M).cls, idx, C, n, dsc, host) ∈ cNf)
    (kk : V ph M d mc ms Po X kc ks (pc + 3) L (v :: st) w) : V ph M d mc ms Po X kc ks pc L st w := by
  intro p l e R s m args below meth c G F H locs ls cells slots hR hS hl h1 h2
  obtain ⟨hx, hb, -, hown, hts, -, -, -, -, -, -, hE, -⟩ := id F
  exact va_getsN hx hb (hE.2.2.1.1 _ hm) hS hown (va_Nw.use rfl (hE.2.1.2.1 _ hw)) (fun _ h => h) hd (kk p l e R s m args below meth c G F H locs ls cells slots hR hS hl h1 h2)
theorem V_tlen {ty : FieldType} {t N : Nat} {f : Nat → Value} {v : Int32} (hd : decode (mC M) pc = .ok (.arraylength, 1)) (hm : (ty, t, N, f) ∈ cT) (hv : Int32.ofNat N = v)
    (kk : V ph M d mc ms Po X kc ks (pc + 1) L (.int v :: st) w) : V ph M d mc ms Po X kc ks pc L (.ref t :: st) w := by
  intro p l e R s m args below meth c G F H locs ls cells slots hR hS hl h1 h2
  obtain ⟨hx, hb, -, hown, hts, -, -, -, -, -, -, hE, -⟩ := id F
  exact va_tlen hx hb (hE.2.2.1.2.2.2.1 _ hm) hS hv hd (kk p l e R s m args below meth c G F H locs ls cells slots hR hS hl h1 h2)
theorem V_tiald {t N : Nat} {f : Nat → Value} {i v : Int32} (hd : decode (mC M) pc = .ok (.iaload, 1)) (hm : (.int, t, N, f) ∈ cT) (hi : vp_in i N) (hv : f i.toNatClampNeg = .int v)
    (kk : V ph M d mc ms Po X kc ks (pc + 1) L (.int v :: st) w) : V ph M d mc ms Po X kc ks pc L (.int i :: .ref t :: st) w := by
  intro p l e R s m args below meth c G F H locs ls cells slots hR hS hl h1 h2
  obtain ⟨hx, hb, -, hown, hts, -, -, -, -, -, -, hE, -⟩ := id F
  exact va_ti hx hb (hE.2.2.1.2.2.2.1 _ hm) hS hi (v := .int v) (by show rv G (f i.toNatClampNeg) = _; rw [hv]; rfl) hd (kk p l e R s m args below meth c G F H locs ls cells slots hR hS hl h1 h2)
theorem V_tbald {t N : Nat} {f : Nat → Value} {i v : Int32} (hd : decode (mC M) pc = .ok (.baload, 1)) (hm : (.byte, t, N, f) ∈ cT) (hi : vp_in i N) (hv : f i.toNatClampNeg = .int v)
    (kk : V ph M d mc ms Po X kc ks (pc + 1) L (.int v :: st) w) : V ph M d mc ms Po X kc ks pc L (.int i :: .ref t :: st) w := by
  intro p l e R s m args below meth c G F H locs ls cells slots hR hS hl h1 h2
  obtain ⟨hx, hb, -, hown, hts, -, -, -, -, -, -, hE, -⟩ := id F
  exact va_tb hx hb (hE.2.2.1.2.2.2.1 _ hm) hS hi (v := .int v) (by show rv G (f i.toNatClampNeg) = _; rw [hv]; rfl) hd (kk p l e R s m args below meth c G F H locs ls cells slots hR hS hl h1 h2)
theorem V_taald {E : String} {t N q : Nat} {f : Nat → Value} {i : Int32} (hd : decode (mC M) pc = .ok (.aaload, 1)) (hm : (.object E, t, N, f) ∈ cT) (hi : vp_in i N) (hv : f i.toNatClampNeg = .ref q)
    (kk : V ph M d mc ms Po X kc ks (pc + 1) L (.ref q :: st) w) : V ph M d mc ms Po X kc ks pc L (.int i :: .ref t :: st) w := by
  intro p l e R s m args below meth c G F H locs ls cells slots hR hS hl h1 h2
  obtain ⟨hx, hb, -, hown, hts, -, -, -, -, -, -, hE, -⟩ := id F
  obtain ⟨cell, g1, g2, g3, g4, g5, g6, g7⟩ := hE.2.2.1.2.2.2.1 _ hm
  have hlt : i.toNatClampNeg < N := Nat.not_le.mp fun q => hi (Or.inr q)
  have hin' : ¬ (i < 0 ∨ cell.slots.size ≤ i.toNatClampNeg) := by
    intro q
    rcases q with q | q
    · exact hi (Or.inl q)
    · exact absurd (Nat.le_trans (show N ≤ cell.slots.size from g4) q) (by omega)
  exact W.aald (v := .ref (gA G q)) (ty := .object E) hx hb (by rw [hS.2.1 (gA G t) (Array.getElem?_eq_some_iff.mp g1).1 g7]; exact g1) g2 rfl g3 hin' (by rw [g6 _ hlt]; show some (rv G (f i.toNatClampNeg)) = _; rw [hv]; rfl) rfl rfl hd (kk p l e R s m args below meth c G F H locs ls cells slots hR hS hl h1 h2)
theorem V_acmp_ne {x y : Nat} {off : Int} {tgt : Nat} (hd : decode (mC M) pc = .ok (.if_acmp .ne off, 3)) (ht : (pc : Int) + off = (tgt : Int)) (hx9 : x ∈ cE) (hy9 : y ∈ cE) (kt : ¬ x = y → V ph M d mc ms Po X kc ks tgt L st w) (kf : x = y → V ph M d mc ms Po X kc ks (pc + 3) L st w) : V ph M d mc ms Po X kc ks pc L (.ref y :: .ref x :: st) w := by
  intro p l e R s m args below meth c G F H locs ls cells slots hR hS hl h1 h2
  obtain ⟨hx, hb, -, hown, hts, -, -, -, -, -, -, hE, -⟩ := id F
  refine lv_acmp_ne (rx := some (gA G x)) (ry := some (gA G y)) hx hb hd ht (fun q => ?_) (fun q => ?_)
  · exact kt (fun e9 => q (by rw [e9])) p l e R s m args below meth c G F H locs ls cells slots hR hS hl h1 h2
  · exact kf (hE.2.2.2.1 x y hx9 hy9 (Option.some.inj q)) p l e R s m args below meth c G F H locs ls cells slots hR hS hl h1 h2
/-- a call on a constant -/
theorem V_callVO {idx b n dy mcy msy : Nat} {My : kM} {As rest : List Value} {PoY : Out → Wd → Prop} (hd : decode (mC M) pc = .ok (.invokevirtual idx, 3)) (hC : Ct ph My dy mcy msy (.ref b :: As) w PoY) (ok : okV My n) (hw : Cond.methodLink (mY M).cls idx (mY My) ∈ TG) (hb9 : ((mY My).cls, b) ∈ cO) (hn : As.length = n) (hst : st = As.reverse ++ .ref b :: rest) (hcat : (rest.map fun v => v.category).sum ≤ 8) (hdd : dy + 1 ≤ d ∧ 8 + (mN My + 11) + 200 * dy ≤ 200 * d) (hh : mH M = []) (hbud : mcy ≤ kc ∧ msy ≤ ks)
    (kr : ∀ (v : Option Value) (w' : Wd), PoY (.inl v) w' → V ph M d mc ms Po X (kc - mcy) (ks - msy) (pc + 3) L (v.toList ++ rest) w') (kx : ∀ (E : String) (w' : Wd), PoY (.inr E) w' → Po (.inr E) w') : V ph M d mc ms Po X kc ks pc L st w := by
  subst hst
  intro p l e R s m args below meth c G F H locs ls cells slots hR hS hl h1 h2
  obtain ⟨hx, hb, hml, hown, hts, -, -, -, -, hls, ⟨hd1, hd2, hd3, hd4⟩, hE, -⟩ := id F
  obtain ⟨⟨hhy, hcode, hini, hy1, hy2, hy3⟩, hin, hsel⟩ := ok
  obtain ⟨cell, g1, g2, g3, -⟩ := (hE.2.2.1.2.1 _ hb9).kept hS.2.1
  refine V_core (dy := dy) (As2 := As) hh hbud kr kx F hS hl h1 h2 (st0 := (As.reverse ++ .ref b :: rest).map (rv G)) (a' := (Value.ref (gA G b) :: As.map (rv G)).toArray) ?_
  refine vx_runV (C := (mY My).cls) (bytes := mC My) (maxL := mN My) (ret := mR My) (n := n) (As := As.map (rv G)) (b := gA G b) (Ts := TG) (own := (mY M).cls) ⟨hx, hb, hml, hown, hts⟩ (hC l G hls) ⟨⟨rfl, rfl, by show dy + 1 ≤ R.frames; omega, by show 8 + (mN My + 11) + 200 * dy ≤ R.locals; omega, ws_warm hts hcode, by rw [← wM_nil hhy]; exact List.mem_cons_self, by rw [← wM_nil hhy]; exact hts _ hcode, hts _ hini, ⟨hy1, hy2⟩, fun sig h => ?_, hts _ hw⟩, hts _ hin, hts _ hsel⟩ ⟨pre_blind, ⟨cell, g1, g2, g3⟩, pre_at hR hE hS⟩ rfl (by rw [List.length_map]; exact hn) hl.1 (by simp [rv]) (lv_room (cats_le hcat)) hd ⟨by omega, by omega⟩
  rw [h] at hy3
  exact (Option.some.inj hy3).symm
theorem V_callVOF {idx b n dy : Nat} {My : kM} {As rest : List Value} {v : Option Value} {w1 : Wd} (hd : decode (mC M) pc = .ok (.invokevirtual idx, 3)) (hC : Ct ph My dy 0 0 (.ref b :: As) w (Rt v w1)) (ok : okV My n) (hw : Cond.methodLink (mY M).cls idx (mY My) ∈ TG) (hb9 : ((mY My).cls, b) ∈ cO) (hn : As.length = n) (hst : st = As.reverse ++ .ref b :: rest) (hcat : (rest.map fun v => v.category).sum ≤ 8) (hdd : dy + 1 ≤ d ∧ 8 + (mN My + 11) + 200 * dy ≤ 200 * d) (hh : mH M = [])
    (kr : V ph M d mc ms Po X kc ks (pc + 3) L (v.toList ++ rest) w1) : V ph M d mc ms Po X kc ks pc L st w :=
  V_callVO hd hC ok hw hb9 hn hst hcat hdd hh ⟨Nat.zero_le _, Nat.zero_le _⟩ (fun v w' h => by obtain ⟨h1, h2⟩ := h; cases h1; subst h2; exact kr) (fun E w' h => by cases h.1)
def thrL (own : String) (ik ic : Nat) (cls : String) (names : List String) : List Cond := Cond.classLink own ik cls :: Cond.initialized cls :: vx_atS own ic cls names
def thrOk (own : String) (ik ic : Nat) (cls : String) (names : List String) : Prop := ((thrL own ik ic cls names).all fun w => (goodWord w && lw_tbl.contains w) || (decide (w = Cond.castable cls cls) || (cNd.map Cond.declares).contains w)) = true ∧ (cls, cls) ∈ cNc ∧ Bundle.fit cls = true ∧ ∀ n ∈ names, Bundle.fit n = true
theorem thrOk.at {own cls : String} {ik ic : Nat} {names : List String} (h : thrOk own ik ic cls names) {G : kG} {s : State} {args : Array Value} (hts : ∀ w ∈ TG, w.before args s = true) (hE : CsV G s) : ∀ w ∈ thrL own ik ic cls names, w.before args s = true ∧ vx_ot w = true := by
  intro w hw
  have h1 := List.all_eq_true.mp h.1 w hw
  rw [Bool.or_eq_true] at h1
  rcases h1 with h1 | h1
  · rw [Bool.and_eq_true] at h1
    refine ⟨hts w (List.mem_filter.mpr ⟨by simpa using h1.2, h1.1⟩), ?_⟩
    simp only [vx_ot, Bool.or_eq_true]
    exact Or.inr h1.1
  · rw [Bool.or_eq_true] at h1
    rcases h1 with h1 | h1
    · have e := of_decide_eq_true h1
      subst e
      exact ⟨va_Nw.use rfl (hE.2.2.1 _ h.2.1), rfl⟩
    · have h2 : w ∈ cNd.map Cond.declares := by simpa using h1
      obtain ⟨y, hy, rfl⟩ := List.mem_map.mp h2
      exact ⟨va_Nw.use rfl (hE.2.2.2.2.2 _ hy), rfl⟩
/-- a heap that only grew -/
theorem Rl.grow {G : kG} {H H1 : Heap} (hR : Rl G 1 w H) (hz : H.size ≤ H1.size) (hk : ∀ q : Nat, q < H.size → H1[q]? = H[q]?) : Rl G 1 w H1 :=
  ⟨hR.1.kept (fun k q h => hk q.1 ((hR.1 k q h).lt)), hR.2.1, (by have := hR.2.2.1; omega), (fun h => by cases h), hR.2.2.2.2⟩
theorem V_throw {cls text : String} {names : List String} {ik is ic sa : Nat} (d0 : decode (mC M) pc = .ok (.new ik, 3)) (d3 : decode (mC M) (pc + 3) = .ok (.dup, 1)) (d4 : decode (mC M) (pc + 4) = .ok (.ldc is, 2)) (d6 : decode (mC M) (pc + 6) = .ok (.invokespecial ic, 3)) (d9 : decode (mC M) (pc + 9) = .ok (.athrow, 1))
    (hT : thrOk (mY M).cls ik ic cls names) (hstr : ((mY M).cls, is, text, sa) ∈ cS) (hh : mH M = []) (hcat : (st.map fun v => v.category).sum ≤ 8) (hdd : names.length + 3 < d ∧ 8 + (13 * (names.length + 1) + 43) ≤ 200 * d) (hbud : 1 ≤ kc ∧ 6 ≤ ks) (k : Po (.inr cls) w) : V 1 M d mc ms Po X kc ks pc L st w := by
  intro p l e R s m args below meth c G F H locs ls cells slots hR hS hl h1 h2
  obtain ⟨hx, hb, hml, hown, hts, hlk, -, -, htab, hls, ⟨hd1, hd2, hd3, hd4⟩, hE, -⟩ := id F
  have hat := hT.at hts hE.2.1
  refine vx_throwS (A := AG G) (names := names) (sa := gA G sa) (text := text) hx hb hls hown hT.2.2.1 hT.2.2.2 (hat _ List.mem_cons_self).1 (hat _ (List.mem_cons_of_mem _ List.mem_cons_self)).1 (hE.2.1.2.2.2.2.1 _ hstr) (fun w hw => (hat _ (List.mem_cons_of_mem _ (List.mem_cons_of_mem _ hw))).1) (fun w hw => (hat w hw).2) hE.2.2.1.2.2.2.2.2.1 hE.2.2.1.2.2.2.2.2.2 hS (by rw [hl.1, hml]) d0 d3 d4 d6 d9 ?_ (by omega) (by have := cats_le (G := G) hcat; omega) (by omega) (by omega) hlk (fun t hA hz hq => ?_) hS.2.2 (by omega) (by omega)
  · intro x hx9
    rw [htab, hh] at hx9
    cases hx9
  · exact ⟨⟨w, k, hR.grow hz hq⟩, Nat.le_trans hS.1 hz, fun q g1 g2 => by rw [hq q (Nat.lt_of_lt_of_le g1 hS.1)]; exact hS.2.1 q g1 g2⟩
theorem V_throwW {cls text : String} {names : List String} {ik is ic sa : Nat} (d0 : decode (mC M) pc = .ok (.new ik, 3)) (d3 : decode (mC M) (pc + 3) = .ok (.dup, 1)) (d4 : decode (mC M) (pc + 4) = .ok (.ldc_w is, 3)) (d7 : decode (mC M) (pc + 7) = .ok (.invokespecial ic, 3)) (d10 : decode (mC M) (pc + 10) = .ok (.athrow, 1))
    (hT : thrOk (mY M).cls ik ic cls names) (hstr : ((mY M).cls, is, text, sa) ∈ cS) (hh : mH M = []) (hcat : (st.map fun v => v.category).sum ≤ 8) (hdd : names.length + 3 < d ∧ 8 + (13 * (names.length + 1) + 43) ≤ 200 * d) (hbud : 1 ≤ kc ∧ 6 ≤ ks) (k : Po (.inr cls) w) : V 1 M d mc ms Po X kc ks pc L st w := by
  intro p l e R s m args below meth c G F H locs ls cells slots hR hS hl h1 h2
  obtain ⟨hx, hb, hml, hown, hts, hlk, -, -, htab, hls, ⟨hd1, hd2, hd3, hd4⟩, hE, -⟩ := id F
  have hat := hT.at hts hE.2.1
  refine vx_throwSW (A := AG G) (names := names) (sa := gA G sa) (text := text) hx hb hls hown hT.2.2.1 hT.2.2.2 (hat _ List.mem_cons_self).1 (hat _ (List.mem_cons_of_mem _ List.mem_cons_self)).1 (hE.2.1.2.2.2.2.1 _ hstr) (fun w hw => (hat _ (List.mem_cons_of_mem _ (List.mem_cons_of_mem _ hw))).1) (fun w hw => (hat w hw).2) hE.2.2.1.2.2.2.2.2.1 hE.2.2.1.2.2.2.2.2.2 hS (by rw [hl.1, hml]) d0 d3 d4 d7 d10 ?_ (by omega) (by have := cats_le (G := G) hcat; omega) (by omega) (by omega) hlk (fun t hA hz hq => ?_) hS.2.2 (by omega) (by omega)
  · intro x hx9
    rw [htab, hh] at hx9
    cases hx9
  · exact ⟨⟨w, k, hR.grow hz hq⟩, Nat.le_trans hS.1 hz, fun q g1 g2 => by rw [hq q (Nat.lt_of_lt_of_le g1 hS.1)]; exact hS.2.1 q g1 g2⟩
theorem thr_IOOBE : thrOk RX10 294 298 "java/lang/IndexOutOfBoundsException" ["java/lang/RuntimeException", "java/lang/Exception"] := ⟨by decide +kernel, by decide +kernel, by decide +kernel, by decide +kernel⟩
theorem thr_IAE : thrOk RX10 132 136 "java/lang/IllegalArgumentException" ["java/lang/RuntimeException", "java/lang/Exception"] := ⟨by decide +kernel, by decide +kernel, by decide +kernel, by decide +kernel⟩
theorem thr_UOE : thrOk RX10 371 375 "java/lang/UnsupportedOperationException" ["java/lang/RuntimeException", "java/lang/Exception"] := ⟨by decide +kernel, by decide +kernel, by decide +kernel, by decide +kernel⟩
theorem thr_AE : thrOk RX10 278 282 "java/lang/ArithmeticException" ["java/lang/RuntimeException", "java/lang/Exception"] := ⟨by decide +kernel, by decide +kernel, by decide +kernel, by decide +kernel⟩
theorem thr_ISE : thrOk RX10 339 343 "java/lang/IllegalStateException" ["java/lang/RuntimeException", "java/lang/Exception"] := ⟨by decide +kernel, by decide +kernel, by decide +kernel, by decide +kernel⟩
end ROWS4
