/-! SWITCHES, ordinal. Printed by wip/whole/gen/mk285.py. -/
section SWITCH
variable {M : kM} {d mc ms : Nat} {Po : Out → Wd → Prop} {X : kG → State → Prop} {kc ks pc : Nat} {L : List (Option Value)} {st : List Value} {w : Wd}
theorem V_tsIn {dflt lo hi : Int} {offs : Array Int} {len tgt : Nat} {x : Int32} {off : Int} (hd : decode (mC M) pc = .ok (.tableswitch dflt lo hi offs, len)) (h1 : ¬ x.toInt < lo) (h2 : ¬ hi < x.toInt) (ho : offs[(x.toInt - lo).toNat]? = some off) (ht : (pc : Int) + off = (tgt : Int)) (k : V 1 M d mc ms Po X kc ks tgt L st w) : V 1 M d mc ms Po X kc ks pc L (.int x :: st) w :=
  fun p l e R s m args below meth c G F H locs ls cells slots hR hS hl h1' h2' => lv_tableIn F.1 F.2.1 hd h1 h2 ho ht (k p l e R s m args below meth c G F H locs ls cells slots hR hS hl h1' h2')
theorem V_tsOut {dflt lo hi : Int} {offs : Array Int} {len tgt : Nat} {x : Int32} (hd : decode (mC M) pc = .ok (.tableswitch dflt lo hi offs, len)) (h : x.toInt < lo ∨ hi < x.toInt) (ht : (pc : Int) + dflt = (tgt : Int)) (k : V 1 M d mc ms Po X kc ks tgt L st w) : V 1 M d mc ms Po X kc ks pc L (.int x :: st) w :=
  fun p l e R s m args below meth c G F H locs ls cells slots hR hS hl h1' h2' => lv_tableOut F.1 F.2.1 hd h ht (k p l e R s m args below meth c G F H locs ls cells slots hR hS hl h1' h2')
theorem od_link : Cond.methodLink RX10 451 ⟨RX9, "ordinal", "()I"⟩ ∈ TG := tg_of 1248 (by decide +kernel) (by decide +kernel)
theorem od_same : Cond.sameMethod RX9 "java/lang/Enum" "ordinal" "()I" ∈ TG := tg_of 1249 (by decide +kernel) (by decide +kernel)
theorem od_sel : Cond.selects RX9 ⟨RX9, "ordinal", "()I"⟩ yJx29ce0_ordinal_8abf5 ∈ TG := tg_of 1251 (by decide +kernel) (by decide +kernel)
theorem od_inst : Cond.instanceMethod yJx29ce0_ordinal_8abf5 ∈ TG := tg_of 1252 (by decide +kernel) (by decide +kernel)
theorem od_code : Cond.code yJx29ce0_ordinal_8abf5 cJx29ce0_ordinal_8abf5 1 (some FieldType.int) ∈ TG := tg_of 1253 (by decide +kernel) (by decide +kernel)
theorem od_init : Cond.initialized "java/lang/Enum" ∈ TG := tg_of 77 (by decide +kernel) (by decide +kernel)
theorem vb_O {v : Nat} (hv : v < 7) : (RX9, 1020 + v) ∈ cO := vb_cases (P := fun v => (RX9, 1020 + v) ∈ cO) (List.mem_of_getElem? (i := 7) rfl) (List.mem_of_getElem? (i := 8) rfl) (List.mem_of_getElem? (i := 9) rfl) (List.mem_of_getElem? (i := 10) rfl) (List.mem_of_getElem? (i := 11) rfl) (List.mem_of_getElem? (i := 12) rfl) (List.mem_of_getElem? (i := 13) rfl) hv
theorem vb_ord {v : Nat} (hv : v < 7) : ("java/lang/Enum", "ordinal", "I", .int (nI v), 1020 + v) ∈ cF := vb_cases (P := fun v => ("java/lang/Enum", "ordinal", "I", .int (nI v), 1020 + v) ∈ cF) (List.mem_of_getElem? (i := 27) rfl) (List.mem_of_getElem? (i := 31) rfl) (List.mem_of_getElem? (i := 35) rfl) (List.mem_of_getElem? (i := 39) rfl) (List.mem_of_getElem? (i := 43) rfl) (List.mem_of_getElem? (i := 47) rfl) (List.mem_of_getElem? (i := 51) rfl) hv
set_option maxRecDepth 100000 in
set_option maxHeartbeats 1000000 in
theorem c_ordinal {v : Nat} {w : Wd} (hv : v < 7) : Ct 1 MJx29ce0_ordinal_8abf5 1 0 0 [.ref (1020 + v)] w (Rt (some (.int (nI v))) w) := by
  refine Ct_of (by decide +kernel) rfl (Nat.le_of_ble_eq_true rfl) rfl ?_
  refine V_aload_n (i := 0) dJx29ce0_ordinal_8abf5_0 rfl rfl ?_
  refine V_getK dJx29ce0_ordinal_8abf5_1 (vb_ord hv) flRJx29ce0_7 ?_
  refine V_iret dJx29ce0_ordinal_8abf5_4 rfl rfl ?_
  exact ⟨rfl, rfl⟩
theorem V_ordinal {v dy : Nat} (hd : decode (mC M) pc = .ok (.invokevirtual 451, 3)) (hM : (mY M).cls = RX10) (hv : v < 7) (hcat : (st.map fun v => v.category).sum ≤ 8) (hdd : 2 ≤ d) (hh : mH M = [])
    (kr : V 1 M d mc ms Po X kc ks (pc + 3) L (.int (nI v) :: st) w) : V 1 M d mc ms Po X kc ks pc L (.ref (1020 + v) :: st) w := by
  intro p l e R s m args below meth c G F H locs ls cells slots hR hS hl h1 h2
  obtain ⟨hx, hb, hml, hown, hts, -, -, -, -, hls, ⟨hd1, hd2, hd3, hd4⟩, hE, -⟩ := id F
  obtain ⟨cell, g1, g2, g3, -⟩ := (hE.2.2.1.2.1 _ (vb_O hv)).kept hS.2.1
  have kr1 : ∀ (v9 : Option Value) (w1 : Wd), Rt (some (.int (nI v))) w (.inl v9) w1 → V 1 M d mc ms Po X (kc - 0) (ks - 0) (pc + 3) L (v9.toList ++ st) w1 := fun v9 w1 h => by
    obtain ⟨e1, e2⟩ := h
    cases e1
    subst e2
    exact kr
  have kx1 : ∀ (E : String) (w1 : Wd), Rt (some (.int (nI v))) w (.inr E) w1 → Po (.inr E) w1 := fun E w1 h => by cases h.1
  refine V_core (dy := 1) (As2 := []) (rest := st) hh ⟨Nat.zero_le _, Nat.zero_le _⟩ kr1 kx1 F hS hl h1 h2 (st0 := (([] : List Value).reverse ++ .ref (1020 + v) :: st).map (rv G)) (a' := (Value.ref (gA G (1020 + v)) :: [].map (rv G)).toArray) ?_
  have hcw : va_CU R s args (mY M).cls RX9 "java/lang/Enum" 451 ⟨RX9, "ordinal", "()I"⟩ yJx29ce0_ordinal_8abf5 cJx29ce0_ordinal_8abf5 1 (some FieldType.int) (wsM MJx29ce0_ordinal_8abf5) (rmD 1 0 0) 0 0 0 := by
    refine ⟨⟨rfl, rfl, by show 1 + 1 ≤ R.frames; omega, by show 8 + (1 + 11) + 200 * 1 ≤ R.locals; omega, ws_warm hts od_code, by rw [show wsM MJx29ce0_ordinal_8abf5 = Cond.code yJx29ce0_ordinal_8abf5 cJx29ce0_ordinal_8abf5 1 (some FieldType.int) :: TG from rfl]; exact List.mem_cons_self⟩, hts _ od_code, hts _ od_init, ⟨by decide, by decide⟩, fun sig h => ?_, by rw [hM]; exact hts _ od_link, hts _ od_same, va_Decl.of (b := cJx29ce0_ordinal_8abf5) (m := 1) (ret := some FieldType.int) (hts _ od_inst) (hts _ od_code), hts _ od_sel, hts _ od_inst⟩
    have e : (parseMethodDescriptor "()I").map (fun d => d.parameters.length) = some 0 := by decide +kernel
    have h' : parseMethodDescriptor "()I" = some sig := h
    rw [h'] at e
    exact (Option.some.inj e).symm
  exact vx_runU (C := RX9) (owner := "java/lang/Enum") (x := ⟨RX9, "ordinal", "()I"⟩) (y := yJx29ce0_ordinal_8abf5) (bytes := cJx29ce0_ordinal_8abf5) (maxL := 1) (ret := some FieldType.int) (n := 0) (As := []) (b := gA G (1020 + v)) (Ts := TG) (own := (mY M).cls) ⟨hx, hb, hml, hown, hts⟩ (c_ordinal (w := w) hv l G hls) hcw ⟨pre_blind, ⟨cell, g1, g2, g3⟩, pre_at hR hE hS⟩ rfl rfl hl.1 (by simp [rv]) (lv_room (cats_le hcat)) hd ⟨by omega, by omega⟩
/-- the switch's numbers -/
def swm (v : Nat) : Nat := [1, 2, 3, 4, 5, 6, 0].getD v 0
theorem sw_get {v : Nat} (hv : v < 7) : (fun j => Value.int (([1, 2, 3, 4, 5, 6, 0] : List Int32).getD j 0)) (nI v).toNatClampNeg = .int (nI (swm v)) := by
  show Value.int (([1, 2, 3, 4, 5, 6, 0] : List Int32).getD (nI v).toNatClampNeg 0) = _
  rw [nI_clamp (by omega)]
  exact vb_cases (P := fun v => Value.int (([1, 2, 3, 4, 5, 6, 0] : List Int32).getD v 0) = .int (nI (swm v))) rfl rfl rfl rfl rfl rfl rfl hv
end SWITCH
