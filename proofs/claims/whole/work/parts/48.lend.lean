/-! THE LAW: from the entry to its end, over any constants G that stand. -/
section LEND
theorem law_end {G : kG} {s t : State} {below : List Frame} {a : Array Value} (hB : gB G = s.heap.size) (h : vx_MQ below (QcP G 1 LPo) (XCP G 1 LPo) a s 3000 30000 (AG G) t) :
    ∃ o, t.status = .running ∧ Ended t below o ∧ o = .returned (some (.int 1)) ∧ (∃ v, o = .returned v) ∧ s.WarmedH t.vm ∧ s.sameButNew ({ t with vm := s.vm } : State) [] 603072 7198826 := by
  obtain ⟨o, h1, h2, h3⟩ := h
  rcases h3 with ⟨hq, L, hfe, hL⟩ | ⟨q, he, hx⟩
  · obtain ⟨⟨v, w', ho, hp, -⟩, -⟩ := hq
    have hv : v = some (.int (nI 1)) := Sum.inl.inj hp
    subst hv
    refine ⟨o, h1, h2, ho, hfe.1, hfe.2.1, ?_⟩
    exact (State.sameButNew.drop_fresh (L := []) (J := L) hfe.2.2 (fun x hx => by have h9 : gB G ≤ x.base := hL x hx; rw [hB] at h9; exact h9)).mono (by decide) (by decide)
  · exfalso
    obtain ⟨E, ce, L, ⟨⟨w', hw, -⟩, -⟩, -⟩ := hx
    cases hw
set_option maxRecDepth 100000 in
set_option maxHeartbeats 1000000 in
theorem law_run {p : Program} {e : Env} {s : State} {m : MethodId} {below : List Frame} {meth : Method} {c : Code} (l : Launch) (hls : l.stackTraces = false) {G : kG} {b n : Nat} {xs : Nat → Int32} (hn : n ≤ 2560) (hx : p.tables.exec = Jvm.exec) (hb : c.code = cL_law) (hml : c.maxLocals = 9) (hown : s.vm.findClass (mY ML_law).cls = some m.cls) (hts : ∀ w ∈ TG, w.before #[Value.ref b] s = true) (hlk : meth.locks = false) (hr : meth.sig.returnType = some FieldType.boolean) (hnm : meth.name = (mY ML_law).name) (htab : c.exceptionTable.toList = tableOf (mH ML_law)) (hE : Ev G s s.heap) (hX : XL b n xs G s) (hB : gB G = s.heap.size) :
    W p l e room_1 s m #[Value.ref b] below meth c s.heap [] 0 0 (fun t => ∃ o, t.status = .running ∧ Ended t below o ∧ o = .returned (some (.int 1)) ∧ (∃ v, o = .returned v) ∧ s.WarmedH t.vm ∧ s.sameButNew ({ t with vm := s.vm } : State) [] 603072 7198826) (entryFrame m ([Value.ref b] : List Value).toArray 9) := by
  have hR : Rl G 0 w00 s.heap := by
    refine ⟨?_, by decide, ?_, fun _ => ?_, fun h => by cases h⟩
    · intro k x hk
      rw [show wl G (shp 0) w00 = [] from rfl] at hk
      simp at hk
    · show gB G + 0 ≤ s.heap.size; omega
    · show s.heap.size = gB G + 0; omega
  have hl := lv_entry (([Value.ref 1999] : List Value).map (rv G)) (n := 9) (Nat.le_of_ble_eq_true rfl)
  have e1 : ([Value.ref 1999] : List Value).map (rv G) = [Value.ref b] := by show [Value.ref (gA G 1999)] = _; rw [hX.1]
  rw [e1] at hl
  rw [lg_entry_eq]
  have hl2 := lv_mono (l' := lvl G [some (.ref 1999), none, none, none, none, none, none, none, none]) hl (by
    have h9 := L0_mem (G := G) (n := 9) (av := [Value.ref 1999]) (fun x hx => by rcases List.mem_singleton.mp hx with rfl; rfl)
    rw [e1] at h9
    exact h9)
  have k := law_start (b := b) (n := n) (xs := xs) hn p l e room_1 s m #[Value.ref b] below meth c G ⟨hx, hb, hml, hown, hts, hlk, hr, hnm, htab, hls, by decide, hE, hX⟩ s.heap [] _ 0 0 hR va_S.rf hl2 (by decide) (by decide)
  intro T hT X
  obtain ⟨t, h1, h2⟩ := k T hT X
  exact ⟨t, h1, law_end hB h2⟩
end LEND
