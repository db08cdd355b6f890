/-! THE LAW: calls in a try, the wrappers. Printed by wip/whole/gen/mk41.py. -/
section LWRAP
def okSH (My : kM) (n : Nat) : Prop := (wM My = Cond.codeWith (mY My) (mC My) (mN My) (mR My) (mH My)) ∧ wM My ∈ TG ∧ Cond.initialized (mY My).cls ∈ TG ∧ (mY My).cls ≠ "java/lang/invoke/MethodHandle" ∧ (mY My).cls ≠ "java/lang/invoke/VarHandle" ∧ (parseMethodDescriptor (mY My).desc).map (fun d => d.parameters.length) = some n ∧ Cond.static (mY My) ∈ TG
theorem lv_putD {G : kG} {L : List (Option Value)} {i : Nat} {v : Value} (hi : i < L.length) (hn : nod L i = true) : ∀ q ∈ lvl G (L.set i none), q ∈ (i, v) :: (lvl G L).filter (fun q => !(q.1 == i) && !(q.1 + 1 == i && q.2.category == 2)) := by
  intro q hq
  obtain ⟨x, h1, h2⟩ := lvl_of hq
  by_cases e : q.1 = i
  · rw [e, List.getElem?_set_self hi] at h1
    cases h1
  · rw [List.getElem?_set_ne (fun z => e z.symm)] at h1
    refine List.mem_cons_of_mem _ (List.mem_filter.mpr ⟨?_, ?_⟩)
    · have h9 := lvl_mem (G := G) h1
      rw [← h2] at h9
      exact h9
    · have ha : (q.1 == i) = false := beq_false_of_ne e
      rw [ha]
      by_cases e2 : q.1 + 1 = i
      · have e3 : i - 1 = q.1 := by omega
        unfold nod at hn
        rw [e3, h1] at hn
        have hi0 : (i == 0) = false := beq_false_of_ne (by omega)
        rw [hi0] at hn
        have hc : x.category = 1 := by simpa using hn
        have hc2 : q.2.category = 1 := by rw [h2]; cases x <;> first | exact hc | rfl
        simp [hc2]
      · have hb : (q.1 + 1 == i) = false := beq_false_of_ne e2
        rw [hb]; rfl
theorem Ct_ofH {M : kM} {d mc ms : Nat} {av : List Value} {w : Wd} {Po : Out → Wd → Prop} (hp : plainName (mY M).cls = true) (hw : wM M = Cond.codeWith (mY M) (mC M) (mN M) (mR M) (mH M)) (hn : av.length ≤ mN M) (hc0 : (av.all fun v => v.category == 1) = true)
    (k : V 1 M d mc ms Po (fun _ _ => True) mc ms 0 (L0 (mN M) av) [] w) : Ct 1 M d mc ms av w Po := by
  have hc : ∀ x ∈ av, x.category = 1 := fun x hx => by have := List.all_eq_true.mp hc0 x hx; simpa using this
  intro l G hls
  have hws : wsM M = Cond.codeWith (mY M) (mC M) (mN M) (mR M) (mH M) :: TG := by unfold wsM; rw [hw]
  refine vx_ofWH (cc := mC M) (maxL := mN M) (ret := mR M) (ws' := TG) hp hws ?_
  intro p e s m args below meth c s₁ B hml hv
  obtain ⟨rfl, hR, hE⟩ := hv
  have hts := atoms_spec (ws := wsM M) B.pre
  have htab : c.exceptionTable.toList = tableOf (mH M) := vx_table (x := mY M) B (hts _ (by rw [hws]; exact List.mem_cons_self))
  have hl := lv_entry (av.map (rv G)) (n := mN M) (by rw [lg_sl_len _ (rv_cats hc), List.length_map]; exact hn)
  rw [lg_entry_eq]
  exact k p l e _ s m _ below meth c G ⟨B.exec, B.bytes, hml, findClass_of_methodNamed B.named, fun w hw => hts w (List.mem_cons_of_mem _ hw), B.notSynchronized, B.returns, (name_of_methodNamed B.named B.method).1, htab, hls, ⟨Nat.le_refl _, Nat.le_refl _, Nat.le_refl _, Nat.le_refl _⟩, hE, trivial⟩ s.heap [] _ 0 0 hR va_S.rf (lv_mono hl (L0_mem hc)) (by omega) (by omega)
variable {M : kM} {d mc ms : Nat} {Po : Out → Wd → Prop} {X : kG → State → Prop} {kc ks pc : Nat} {L : List (Option Value)} {st : List Value} {w : Wd}
/-- a handler of the method for E at pc; what it stores away -/
def Hnd (M : kM) (pc : Nat) (L : List (Option Value)) (E : String) (pc2 : Nat) (L2 : List (Option Value)) : Prop :=
  ∃ (pre suf : List (Nat × Nat × Nat × Nat)) (x : Nat × Nat × Nat × Nat) (name : String) (i : Nat), mH M = pre ++ x :: suf ∧ (∀ z ∈ pre, z.2.2.2 ≠ 0 ∧ ∃ nm : String, Cond.classLink (mY M).cls z.2.2.2 nm ∈ TG ∧ (E, nm) ∈ cX) ∧ (x.1 ≤ pc ∧ pc < x.2.1) ∧ x.2.2.2 ≠ 0 ∧ Cond.classLink (mY M).cls x.2.2.2 name ∈ TG ∧ (E, name) ∈ cNc ∧ i < L.length ∧ nod L i = true ∧ L.length = mN M ∧ L2 = L.set i none ∧
    ((decode (mC M) x.2.2.1 = .ok (.astore i, 2) ∧ pc2 = x.2.2.1 + 2) ∨ ∃ j : Fin 4, (j : Nat) = i ∧ decode (mC M) x.2.2.1 = .ok (.astore_n j, 1) ∧ pc2 = x.2.2.1 + 1)
theorem V_callVH {idx b ci n dy mcy msy N : Nat} {My : kM} {As rest : List Value} {T : u_T} {kl : List Nat} {PoY : Out → Wd → Prop} (hd : decode (mC M) pc = .ok (.invokevirtual idx, 3)) (hC : Ct 1 My dy mcy msy (.ref b :: As) w PoY) (ok : okV My n) (hw : Cond.methodLink (mY M).cls idx (mY My) ∈ TG) (hb9 : Mk 1 w b) (hs : shp 1 b = (0, ci, kl)) (hc : kCl[ci]? = some ((mY My).cls, T, N)) (hn : As.length = n) (hst : st = As.reverse ++ .ref b :: rest) (hcat : (rest.map fun v => v.category).sum ≤ 8) (hdd : dy + 1 ≤ d ∧ 8 + (mN My + 11) + 200 * dy ≤ 200 * d) (hbud : mcy ≤ kc ∧ msy ≤ ks)
    (kr : ∀ (v : Option Value) (w' : Wd), PoY (.inl v) w' → V 1 M d mc ms Po X (kc - mcy) (ks - msy) (pc + 3) L (v.toList ++ rest) w')
    (kx : ∀ (E : String) (w' : Wd), PoY (.inr E) w' → ∃ (pc2 : Nat) (L2 : List (Option Value)), Hnd M pc L E pc2 L2 ∧ V 1 M d mc ms Po X (kc - mcy) (ks - msy) pc2 L2 [] w') : V 1 M d mc ms Po X kc ks pc L st w := by
  subst hst
  intro p l e R s m args below meth c G F H locs ls cells slots hR hS hl h1 h2
  have he := wl_at (G := G) (sh := shp 1) (hb9.lt hR)
  rw [hs] at he
  obtain ⟨hx, hb, hml, hown, hts, -, -, -, htab, hls, ⟨hd1, hd2, hd3, hd4⟩, hE, -⟩ := id F
  obtain ⟨⟨hhy, hcode, hini, hy1, hy2, hy3⟩, hin, hsel⟩ := ok
  have hr : vx_Run p l e R s m args below meth c H locs cells slots mcy msy (F0 m pc ls ((As.reverse ++ .ref b :: rest).map (rv G))) (rest.map (rv G)) (QcP G 1 PoY (Value.ref (gA G b) :: As.map (rv G)).toArray) (XCP G 1 PoY) (AG G) := by
    refine vx_runV (C := (mY My).cls) (bytes := mC My) (maxL := mN My) (ret := mR My) (n := n) (As := As.map (rv G)) (b := gA G b) (Ts := TG) (own := (mY M).cls) ⟨hx, hb, hml, hown, hts⟩ (hC l G hls) ⟨⟨rfl, rfl, by show dy + 1 ≤ R.frames; omega, by show 8 + (mN My + 11) + 200 * dy ≤ R.locals; omega, ws_warm hts hcode, by rw [← wM_nil hhy]; exact List.mem_cons_self, by rw [← wM_nil hhy]; exact hts _ hcode, hts _ hini, ⟨hy1, hy2⟩, fun sig h => ?_, hts _ hw⟩, hts _ hin, hts _ hsel⟩ ⟨pre_blind, va_recv hE.1 hR.1 hc he, pre_at hR hE hS⟩ rfl (by rw [List.length_map]; exact hn) hl.1 (by simp [rv]) (lv_room (cats_le hcat)) hd ⟨by omega, by omega⟩
    rw [h] at hy3
    exact (Option.some.inj hy3).symm
  refine run_end hr hS (fun v w' H1 locs1 hp hR1 hS1 => ?_) (fun E w' H1 locs1 q ce hp hR1 hS1 hce hcv hcl => ?_)
  · have k := kr v w' hp p l e R s m args below meth c G F H1 locs1 ls (cells + mcy) (slots + msy) hR1 hS1 hl (by omega) (by omega)
    cases v <;> exact k
  · obtain ⟨pc2, L2, ⟨pre, suf, x, name, i, e1, e2, e3, e4, e5, e6, e7, e8, e9, e10, e11⟩, kV⟩ := kx E w' hp
    subst e10
    have hcast : (Cond.castable E name).before args s = true := hE.2.1.2.2.1 _ e6
    refine vx_catch hown (tableOf pre) ⟨x.1, x.2.1, x.2.2.1, x.2.2.2⟩ (tableOf suf) (by rw [htab, e1]; simp [tableOf]) (fun z hz => ?_) (by show (decide (x.1 ≤ pc) && decide (pc < x.2.1)) = true; rw [decide_eq_true e3.1, decide_eq_true e3.2]; rfl) e4 (hts _ e5) hcast hce hcv hcl ?_
    · obtain ⟨z0, hz0, rfl⟩ := List.mem_map.mp hz
      obtain ⟨g1, nm, g2, g3⟩ := e2 z0 hz0
      exact Or.inr ⟨g1, nm, hts _ g2, hE.2.1.2.2.2.1 _ g3⟩
    · rcases e11 with ⟨d1, rfl⟩ | ⟨j, hj, d1, rfl⟩
      · exact lv_astore hx hb d1 hl (by rw [← e9]; exact e7) rfl (fun ls2 h8 => kV p l e R s m args below meth c G F H1 locs1 ls2 (cells + mcy) (slots + msy) hR1 hS1 (lv_mono h8 (lv_putD e7 e8)) (by omega) (by omega))
      · exact lv_astore_n hx hb d1 hj hl (by rw [← e9]; exact e7) rfl (fun ls2 h8 => kV p l e R s m args below meth c G F H1 locs1 ls2 (cells + mcy) (slots + msy) hR1 hS1 (lv_mono h8 (lv_putD e7 e8)) (by omega) (by omega))
theorem V_callSH {idx n dy mcy msy : Nat} {My : kM} {As rest : List Value} {PoY : Out → Wd → Prop} (hd : decode (mC M) pc = .ok (.invokestatic idx, 3)) (hC : Ct 1 My dy mcy msy As w PoY) (ok : okSH My n) (hw : Cond.methodLink (mY M).cls idx (mY My) ∈ TG) (hn : As.length = n) (hst : st = As.reverse ++ rest) (hcat : (rest.map fun v => v.category).sum ≤ 8) (hdd : dy + 1 ≤ d ∧ 8 + (mN My + 11) + 200 * dy ≤ 200 * d) (hh : mH M = []) (hbud : mcy ≤ kc ∧ msy ≤ ks)
    (kr : ∀ (v : Option Value) (w' : Wd), PoY (.inl v) w' → V 1 M d mc ms Po X (kc - mcy) (ks - msy) (pc + 3) L (v.toList ++ rest) w') (kx : ∀ (E : String) (w' : Wd), PoY (.inr E) w' → Po (.inr E) w') : V 1 M d mc ms Po X kc ks pc L st w := by
  subst hst
  intro p l e R s m args below meth c G F H locs ls cells slots hR hS hl h1 h2
  obtain ⟨hx, hb, hml, hown, hts, -, -, -, -, hls, ⟨hd1, hd2, hd3, hd4⟩, hE, -⟩ := id F
  obtain ⟨hwm, hcode, hini, hy1, hy2, hy3, hstt⟩ := ok
  refine V_core (dy := dy) (As2 := As) hh hbud kr kx F hS hl h1 h2 (st0 := (As.reverse ++ rest).map (rv G)) (a' := (As.map (rv G)).toArray) ?_
  refine vx_runSX (hh := mH My) (bytes := mC My) (maxL := mN My) (ret := mR My) (n := n) (As := As.map (rv G)) (Ts := TG) (own := (mY M).cls) ⟨hx, hb, hml, hown, hts⟩ (hC l G hls) ⟨⟨rfl, rfl, by show dy + 1 ≤ R.frames; omega, by show 8 + (mN My + 11) + 200 * dy ≤ R.locals; omega, ws_warm hts hcode, by rw [← hwm]; exact List.mem_cons_self⟩, by rw [← hwm]; exact hts _ hcode, hts _ hini, ⟨hy1, hy2⟩, fun sig h => ?_, hts _ hw, hts _ hstt⟩ ⟨pre_blind, pre_at hR hE hS⟩ rfl (by rw [List.length_map]; exact hn) hl.1 (by simp) (lv_room (cats_le hcat)) hd ⟨by omega, by omega⟩
  rw [h] at hy3
  exact (Option.some.inj hy3).symm
/-- the two sides over a frame -/
theorem CI.keepF {P : Nat → Prop} {w w1 : Wd} {S : Sys} (h : CI w S) (hF : Fr P w w1) (n : ∀ b, b < 47 → ¬ P b) : CI w1 S :=
  ⟨h.1.keep hF (fun b hb => n b (by omega)), h.2.1.keep hF (fun b hb => n b (by omega)), h.2.2.1.keep hF (fun b hb => n b (by omega)), h.2.2.2.1.keep hF (fun b hb => n b (by omega)), h.2.2.2.2.1.keep hF (fun b hb => n b (by omega)), h.2.2.2.2.2.keep hF (fun b hb => n b (by omega))⟩
theorem MI.keepF {P : Nat → Prop} {w w1 : Wd} {S : Sys} (h : MI w S) (hF : Fr P w w1) (n : ∀ b, 47 ≤ b → b < 65 → ¬ P b) : MI w1 S := by
  have g : ∀ b j, 47 ≤ b → b < 65 → gI w1 b j = gI w b j := fun b j h1 h2 => hF.gi (n b h1 h2) j
  have gb : ∀ {a k : Nat} {s : St}, 47 ≤ a → a < 65 → Bk w a k s → Bk w1 a k s := fun h1 h2 hB => ⟨hB.1, fun i hi => (g _ _ h1 h2).trans (hB.2 i hi)⟩
  exact ⟨gb (by omega) (by omega) h.1, ⟨⟨(g _ _ (by omega) (by omega)).trans h.2.1.1.1, h.2.1.1.2⟩, h.2.1.2.1, fun i hi => gb (by omega) (by omega) (h.2.1.2.2 i hi)⟩, ⟨⟨(g _ _ (by omega) (by omega)).trans h.2.2.1.1.1, h.2.2.1.1.2⟩, gb (by omega) (by omega) h.2.2.1.2⟩,
    ⟨⟨(g _ _ (by omega) (by omega)).trans h.2.2.2.1.1.1, fun i hi => (g _ _ (by omega) (by omega)).trans (h.2.2.2.1.1.2 i hi)⟩, h.2.2.2.1.2⟩, ⟨⟨(g _ _ (by omega) (by omega)).trans h.2.2.2.2.1.1.1, fun i hi => (g _ _ (by omega) (by omega)).trans (h.2.2.2.2.1.1.2 i hi)⟩, h.2.2.2.2.1.2⟩,
    ⟨⟨(g _ _ (by omega) (by omega)).trans h.2.2.2.2.2.1.1.1, h.2.2.2.2.2.1.1.2⟩, ⟨(g _ _ (by omega) (by omega)).trans h.2.2.2.2.2.1.2.1.1, h.2.2.2.2.2.1.2.1.2⟩, (g _ _ (by omega) (by omega)).trans h.2.2.2.2.2.1.2.2.1, ⟨(g _ _ (by omega) (by omega)).trans h.2.2.2.2.2.1.2.2.2.1.1, h.2.2.2.2.2.1.2.2.2.1.2⟩, h.2.2.2.2.2.1.2.2.2.2⟩,
    ⟨fun k hk => (g _ _ (by omega) (by omega)).trans (h.2.2.2.2.2.2.1 k hk), fun k hk => (g _ _ (by omega) (by omega)).trans (h.2.2.2.2.2.2.2.1 k hk), fun k hk => (g _ _ (by omega) (by omega)).trans (h.2.2.2.2.2.2.2.2.1 k hk), fun k hk => (g _ _ (by omega) (by omega)).trans (h.2.2.2.2.2.2.2.2.2.1 k hk), fun k hk => (g _ _ (by omega) (by omega)).trans (h.2.2.2.2.2.2.2.2.2.2 k hk)⟩⟩
abbrev InL (b : Nat) : Prop := b < 47 ∨ b = 65 ∨ b = 66
/-- how a wrapper ends: what was thrown, by number; the answer as a long -/
def LwP (R : Res) (w : Wd) : Out → Wd → Prop := fun o w1 => o = Sum.inl (some (.int (nI R.1))) ∧ (R.1 = 0 → gL w1 65 0 = R.2.1.toInt64) ∧ CI w1 R.2.2 ∧ Fr InL w w1
def ML_place : kM := (yL_place, cL_place, 6, (some FieldType.int), [((0), (12), (15), (13)), ((0), (12), (19), (15)), ((0), (12), (23), (17))])
theorem okL_place : okSH ML_place 5 := ⟨rfl, tg_of 540 (by decide +kernel) (by decide +kernel), tg_of 74 (by decide +kernel) (by decide +kernel), (by decide +kernel), (by decide +kernel), (by decide +kernel), tg_of 539 (by decide +kernel) (by decide +kernel)⟩
def ML_remove : kM := (yL_remove, cL_remove, 5, (some FieldType.int), [((0), (10), (13), (13)), ((0), (10), (17), (17))])
theorem okL_remove : okSH ML_remove 4 := ⟨rfl, tg_of 714 (by decide +kernel) (by decide +kernel), tg_of 74 (by decide +kernel) (by decide +kernel), (by decide +kernel), (by decide +kernel), (by decide +kernel), tg_of 713 (by decide +kernel) (by decide +kernel)⟩
def ML_bleach : kM := (yL_bleach, cL_bleach, 5, (some FieldType.int), [((0), (10), (13), (13)), ((0), (10), (17), (17))])
theorem okL_bleach : okSH ML_bleach 4 := ⟨rfl, tg_of 729 (by decide +kernel) (by decide +kernel), tg_of 74 (by decide +kernel) (by decide +kernel), (by decide +kernel), (by decide +kernel), (by decide +kernel), tg_of 728 (by decide +kernel) (by decide +kernel)⟩
def ML_recolour : kM := (yL_recolour, cL_recolour, 6, (some FieldType.int), [((0), (12), (15), (13)), ((0), (12), (19), (15)), ((0), (12), (23), (17))])
theorem okL_recolour : okSH ML_recolour 5 := ⟨rfl, tg_of 752 (by decide +kernel) (by decide +kernel), tg_of 74 (by decide +kernel) (by decide +kernel), (by decide +kernel), (by decide +kernel), (by decide +kernel), tg_of 751 (by decide +kernel) (by decide +kernel)⟩
def ML_plant : kM := (yL_plant, cL_plant, 7, (some FieldType.int), [((0), (14), (17), (13)), ((0), (14), (21), (15)), ((0), (14), (25), (17))])
theorem okL_plant : okSH ML_plant 6 := ⟨rfl, tg_of 764 (by decide +kernel) (by decide +kernel), tg_of 74 (by decide +kernel) (by decide +kernel), (by decide +kernel), (by decide +kernel), (by decide +kernel), tg_of 763 (by decide +kernel) (by decide +kernel)⟩
def ML_setRule : kM := (yL_setRule, cL_setRule, 4, (some FieldType.int), [((0), (9), (12), (15)), ((0), (9), (15), (17))])
theorem okL_setRule : okSH ML_setRule 3 := ⟨rfl, tg_of 809 (by decide +kernel) (by decide +kernel), tg_of 74 (by decide +kernel) (by decide +kernel), (by decide +kernel), (by decide +kernel), (by decide +kernel), tg_of 808 (by decide +kernel) (by decide +kernel)⟩
def ML_isEmpty : kM := (yL_isEmpty, cL_isEmpty, 5, (some FieldType.int), [((0), (17), (20), (13))])
theorem okL_isEmpty : okSH ML_isEmpty 4 := ⟨rfl, tg_of 827 (by decide +kernel) (by decide +kernel), tg_of 74 (by decide +kernel) (by decide +kernel), (by decide +kernel), (by decide +kernel), (by decide +kernel), tg_of 826 (by decide +kernel) (by decide +kernel)⟩
def ML_isLiving : kM := (yL_isLiving, cL_isLiving, 5, (some FieldType.int), [((0), (17), (20), (13))])
theorem okL_isLiving : okSH ML_isLiving 4 := ⟨rfl, tg_of 834 (by decide +kernel) (by decide +kernel), tg_of 74 (by decide +kernel) (by decide +kernel), (by decide +kernel), (by decide +kernel), (by decide +kernel), tg_of 833 (by decide +kernel) (by decide +kernel)⟩
def ML_isBleached : kM := (yL_isBleached, cL_isBleached, 5, (some FieldType.int), [((0), (17), (20), (13))])
theorem okL_isBleached : okSH ML_isBleached 4 := ⟨rfl, tg_of 841 (by decide +kernel) (by decide +kernel), tg_of 74 (by decide +kernel) (by decide +kernel), (by decide +kernel), (by decide +kernel), (by decide +kernel), tg_of 840 (by decide +kernel) (by decide +kernel)⟩
def ML_colourAt : kM := (yL_colourAt, cL_colourAt, 5, (some FieldType.int), [((0), (10), (13), (13)), ((0), (10), (17), (52))])
theorem okL_colourAt : okSH ML_colourAt 4 := ⟨rfl, tg_of 848 (by decide +kernel) (by decide +kernel), tg_of 74 (by decide +kernel) (by decide +kernel), (by decide +kernel), (by decide +kernel), (by decide +kernel), tg_of 847 (by decide +kernel) (by decide +kernel)⟩
def ML_ageAt : kM := (yL_ageAt, cL_ageAt, 5, (some FieldType.int), [((0), (10), (13), (13)), ((0), (10), (17), (52))])
theorem okL_ageAt : okSH ML_ageAt 4 := ⟨rfl, tg_of 876 (by decide +kernel) (by decide +kernel), tg_of 74 (by decide +kernel) (by decide +kernel), (by decide +kernel), (by decide +kernel), (by decide +kernel), tg_of 875 (by decide +kernel) (by decide +kernel)⟩
def ML_neighbours : kM := (yL_neighbours, cL_neighbours, 5, (some FieldType.int), [((0), (10), (13), (13))])
theorem okL_neighbours : okSH ML_neighbours 4 := ⟨rfl, tg_of 883 (by decide +kernel) (by decide +kernel), tg_of 74 (by decide +kernel) (by decide +kernel), (by decide +kernel), (by decide +kernel), (by decide +kernel), tg_of 882 (by decide +kernel) (by decide +kernel)⟩
def ML_neighboursOf : kM := (yL_neighboursOf, cL_neighboursOf, 6, (some FieldType.int), [((0), (12), (15), (13)), ((0), (12), (19), (15))])
theorem okL_neighboursOf : okSH ML_neighboursOf 5 := ⟨rfl, tg_of 891 (by decide +kernel) (by decide +kernel), tg_of 74 (by decide +kernel) (by decide +kernel), (by decide +kernel), (by decide +kernel), (by decide +kernel), tg_of 890 (by decide +kernel) (by decide +kernel)⟩
def ML_birthColour : kM := (yL_birthColour, cL_birthColour, 5, (some FieldType.int), [((0), (10), (13), (13)), ((0), (10), (17), (52))])
theorem okL_birthColour : okSH ML_birthColour 4 := ⟨rfl, tg_of 898 (by decide +kernel) (by decide +kernel), tg_of 74 (by decide +kernel) (by decide +kernel), (by decide +kernel), (by decide +kernel), (by decide +kernel), tg_of 897 (by decide +kernel) (by decide +kernel)⟩
def ML_countOf : kM := (yL_countOf, cL_countOf, 4, (some FieldType.int), [((0), (9), (12), (15))])
theorem okL_countOf : okSH ML_countOf 3 := ⟨rfl, tg_of 910 (by decide +kernel) (by decide +kernel), tg_of 74 (by decide +kernel) (by decide +kernel), (by decide +kernel), (by decide +kernel), (by decide +kernel), tg_of 909 (by decide +kernel) (by decide +kernel)⟩
def ML_islandSize : kM := (yL_islandSize, cL_islandSize, 5, (some FieldType.int), [((0), (10), (13), (13)), ((0), (10), (17), (52))])
theorem okL_islandSize : okSH ML_islandSize 4 := ⟨rfl, tg_of 917 (by decide +kernel) (by decide +kernel), tg_of 74 (by decide +kernel) (by decide +kernel), (by decide +kernel), (by decide +kernel), (by decide +kernel), tg_of 916 (by decide +kernel) (by decide +kernel)⟩
def ML_islandsOf : kM := (yL_islandsOf, cL_islandsOf, 4, (some FieldType.int), [((0), (9), (12), (15))])
theorem okL_islandsOf : okSH ML_islandsOf 3 := ⟨rfl, tg_of 925 (by decide +kernel) (by decide +kernel), tg_of 74 (by decide +kernel) (by decide +kernel), (by decide +kernel), (by decide +kernel), (by decide +kernel), tg_of 924 (by decide +kernel) (by decide +kernel)⟩
def ML_isJoined : kM := (yL_isJoined, cL_isJoined, 7, (some FieldType.int), [((0), (21), (24), (13))])
theorem okL_isJoined : okSH ML_isJoined 6 := ⟨rfl, tg_of 932 (by decide +kernel) (by decide +kernel), tg_of 74 (by decide +kernel) (by decide +kernel), (by decide +kernel), (by decide +kernel), (by decide +kernel), tg_of 931 (by decide +kernel) (by decide +kernel)⟩
def ML_passTides : kM := (yL_passTides, cL_passTides, 4, (some FieldType.int), [((0), (9), (12), (15))])
theorem okL_passTides : okSH ML_passTides 3 := ⟨rfl, tg_of 939 (by decide +kernel) (by decide +kernel), tg_of 74 (by decide +kernel) (by decide +kernel), (by decide +kernel), (by decide +kernel), (by decide +kernel), tg_of 938 (by decide +kernel) (by decide +kernel)⟩
def ML_wouldLive : kM := (yL_wouldLive, cL_wouldLive, 5, (some FieldType.int), [((0), (17), (20), (13))])
theorem okL_wouldLive : okSH ML_wouldLive 4 := ⟨rfl, tg_of 974 (by decide +kernel) (by decide +kernel), tg_of 74 (by decide +kernel) (by decide +kernel), (by decide +kernel), (by decide +kernel), (by decide +kernel), tg_of 973 (by decide +kernel) (by decide +kernel)⟩
def ML_livingAfter : kM := (yL_livingAfter, cL_livingAfter, 4, (some FieldType.int), [((0), (9), (12), (15))])
theorem okL_livingAfter : okSH ML_livingAfter 3 := ⟨rfl, tg_of 985 (by decide +kernel) (by decide +kernel), tg_of 74 (by decide +kernel) (by decide +kernel), (by decide +kernel), (by decide +kernel), (by decide +kernel), tg_of 984 (by decide +kernel) (by decide +kernel)⟩
def ML_tidesUntilStill : kM := (yL_tidesUntilStill, cL_tidesUntilStill, 3, (some FieldType.int), [((0), (8), (11), (52))])
theorem okL_tidesUntilStill : okSH ML_tidesUntilStill 2 := ⟨rfl, tg_of 993 (by decide +kernel) (by decide +kernel), tg_of 74 (by decide +kernel) (by decide +kernel), (by decide +kernel), (by decide +kernel), (by decide +kernel), tg_of 992 (by decide +kernel) (by decide +kernel)⟩
def ML_isBirth : kM := (yL_isBirth, cL_isBirth, 4, (some FieldType.int), [((0), (16), (19), (15))])
theorem okL_isBirth : okSH ML_isBirth 3 := ⟨rfl, tg_of 1006 (by decide +kernel) (by decide +kernel), tg_of 74 (by decide +kernel) (by decide +kernel), (by decide +kernel), (by decide +kernel), (by decide +kernel), tg_of 1005 (by decide +kernel) (by decide +kernel)⟩
def ML_isSurvival : kM := (yL_isSurvival, cL_isSurvival, 4, (some FieldType.int), [((0), (16), (19), (15))])
theorem okL_isSurvival : okSH ML_isSurvival 3 := ⟨rfl, tg_of 1018 (by decide +kernel) (by decide +kernel), tg_of 74 (by decide +kernel) (by decide +kernel), (by decide +kernel), (by decide +kernel), (by decide +kernel), tg_of 1017 (by decide +kernel) (by decide +kernel)⟩
def ML_rowByLiving : kM := (yL_rowByLiving, cL_rowByLiving, 4, (some FieldType.int), [((0), (9), (12), (52))])
theorem okL_rowByLiving : okSH ML_rowByLiving 3 := ⟨rfl, tg_of 1026 (by decide +kernel) (by decide +kernel), tg_of 74 (by decide +kernel) (by decide +kernel), (by decide +kernel), (by decide +kernel), (by decide +kernel), tg_of 1025 (by decide +kernel) (by decide +kernel)⟩
def ML_colourByCount : kM := (yL_colourByCount, cL_colourByCount, 4, (some FieldType.int), [((0), (9), (12), (52))])
theorem okL_colourByCount : okSH ML_colourByCount 3 := ⟨rfl, tg_of 1046 (by decide +kernel) (by decide +kernel), tg_of 74 (by decide +kernel) (by decide +kernel), (by decide +kernel), (by decide +kernel), (by decide +kernel), tg_of 1045 (by decide +kernel) (by decide +kernel)⟩
def ML_meanAge : kM := (yL_meanAge, cL_meanAge, 3, (some FieldType.int), [((0), (7), (10), (112))])
theorem okL_meanAge : okSH ML_meanAge 2 := ⟨rfl, tg_of 1058 (by decide +kernel) (by decide +kernel), tg_of 74 (by decide +kernel) (by decide +kernel), (by decide +kernel), (by decide +kernel), (by decide +kernel), tg_of 1057 (by decide +kernel) (by decide +kernel)⟩
def ML_livingShare : kM := (yL_livingShare, cL_livingShare, 3, (some FieldType.int), [((0), (8), (11), (112))])
theorem okL_livingShare : okSH ML_livingShare 2 := ⟨rfl, tg_of 1086 (by decide +kernel) (by decide +kernel), tg_of 74 (by decide +kernel) (by decide +kernel), (by decide +kernel), (by decide +kernel), (by decide +kernel), tg_of 1085 (by decide +kernel) (by decide +kernel)⟩
def ML_writeRow : kM := (yL_writeRow, cL_writeRow, 4, (some FieldType.int), [((0), (9), (12), (13))])
theorem okL_writeRow : okSH ML_writeRow 3 := ⟨rfl, tg_of 1094 (by decide +kernel) (by decide +kernel), tg_of 74 (by decide +kernel) (by decide +kernel), (by decide +kernel), (by decide +kernel), (by decide +kernel), tg_of 1093 (by decide +kernel) (by decide +kernel)⟩
def ML_outputAt : kM := (yL_outputAt, cL_outputAt, 4, (some FieldType.int), [((0), (9), (12), (13))])
theorem okL_outputAt : okSH ML_outputAt 3 := ⟨rfl, tg_of 1108 (by decide +kernel) (by decide +kernel), tg_of 74 (by decide +kernel) (by decide +kernel), (by decide +kernel), (by decide +kernel), (by decide +kernel), tg_of 1107 (by decide +kernel) (by decide +kernel)⟩
def ML_appendInput : kM := (yL_appendInput, cL_appendInput, 4, (some FieldType.int), [((0), (9), (12), (15)), ((0), (9), (15), (127))])
theorem okL_appendInput : okSH ML_appendInput 3 := ⟨rfl, tg_of 1120 (by decide +kernel) (by decide +kernel), tg_of 74 (by decide +kernel) (by decide +kernel), (by decide +kernel), (by decide +kernel), (by decide +kernel), tg_of 1119 (by decide +kernel) (by decide +kernel)⟩
def ML_execute : kM := (yL_execute, cL_execute, 3, (some FieldType.int), [((0), (8), (11), (15)), ((0), (8), (14), (127)), ((0), (8), (17), (17))])
theorem okL_execute : okSH ML_execute 2 := ⟨rfl, tg_of 1149 (by decide +kernel) (by decide +kernel), tg_of 74 (by decide +kernel) (by decide +kernel), (by decide +kernel), (by decide +kernel), (by decide +kernel), tg_of 1148 (by decide +kernel) (by decide +kernel)⟩
def ML_syntaxErrorOffset : kM := (yL_syntaxErrorOffset, cL_syntaxErrorOffset, 3, (some FieldType.int), [((0), (8), (11), (52))])
theorem okL_syntaxErrorOffset : okSH ML_syntaxErrorOffset 2 := ⟨rfl, tg_of 1262 (by decide +kernel) (by decide +kernel), tg_of 74 (by decide +kernel) (by decide +kernel), (by decide +kernel), (by decide +kernel), (by decide +kernel), tg_of 1261 (by decide +kernel) (by decide +kernel)⟩
def ML_rejectionReason : kM := (yL_rejectionReason, cL_rejectionReason, 3, (some FieldType.int), [((0), (8), (11), (52))])
theorem okL_rejectionReason : okSH ML_rejectionReason 2 := ⟨rfl, tg_of 1270 (by decide +kernel) (by decide +kernel), tg_of 74 (by decide +kernel) (by decide +kernel), (by decide +kernel), (by decide +kernel), (by decide +kernel), tg_of 1269 (by decide +kernel) (by decide +kernel)⟩
def ML_rejectionDetail : kM := (yL_rejectionDetail, cL_rejectionDetail, 3, (some FieldType.int), [((0), (8), (11), (52))])
theorem okL_rejectionDetail : okSH ML_rejectionDetail 2 := ⟨rfl, tg_of 1278 (by decide +kernel) (by decide +kernel), tg_of 74 (by decide +kernel) (by decide +kernel), (by decide +kernel), (by decide +kernel), (by decide +kernel), tg_of 1277 (by decide +kernel) (by decide +kernel)⟩
def ML_causeReason : kM := (yL_causeReason, cL_causeReason, 3, (some FieldType.int), [((0), (8), (11), (52))])
theorem okL_causeReason : okSH ML_causeReason 2 := ⟨rfl, tg_of 1285 (by decide +kernel) (by decide +kernel), tg_of 74 (by decide +kernel) (by decide +kernel), (by decide +kernel), (by decide +kernel), (by decide +kernel), tg_of 1284 (by decide +kernel) (by decide +kernel)⟩
def ML_undo : kM := (yL_undo, cL_undo, 3, (some FieldType.int), [((0), (8), (11), (127))])
theorem okL_undo : okSH ML_undo 2 := ⟨rfl, tg_of 1293 (by decide +kernel) (by decide +kernel), tg_of 74 (by decide +kernel) (by decide +kernel), (by decide +kernel), (by decide +kernel), (by decide +kernel), tg_of 1292 (by decide +kernel) (by decide +kernel)⟩
def ML_restoreSnapshot : kM := (yL_restoreSnapshot, cL_restoreSnapshot, 3, (some FieldType.int), [((0), (8), (11), (127))])
theorem okL_restoreSnapshot : okSH ML_restoreSnapshot 2 := ⟨rfl, tg_of 1306 (by decide +kernel) (by decide +kernel), tg_of 74 (by decide +kernel) (by decide +kernel), (by decide +kernel), (by decide +kernel), (by decide +kernel), tg_of 1305 (by decide +kernel) (by decide +kernel)⟩
theorem lkRL_154 : Cond.methodLink RL 154 yL_place ∈ TG := tg_of 538 (by decide +kernel) (by decide +kernel)
theorem lkRL_163 : Cond.methodLink RL 163 yL_remove ∈ TG := tg_of 712 (by decide +kernel) (by decide +kernel)
theorem lkRL_167 : Cond.methodLink RL 167 yL_bleach ∈ TG := tg_of 727 (by decide +kernel) (by decide +kernel)
theorem lkRL_170 : Cond.methodLink RL 170 yL_recolour ∈ TG := tg_of 750 (by decide +kernel) (by decide +kernel)
theorem lkRL_173 : Cond.methodLink RL 173 yL_plant ∈ TG := tg_of 762 (by decide +kernel) (by decide +kernel)
theorem lkRL_177 : Cond.methodLink RL 177 yL_setRule ∈ TG := tg_of 807 (by decide +kernel) (by decide +kernel)
theorem lkRL_181 : Cond.methodLink RL 181 yL_isEmpty ∈ TG := tg_of 825 (by decide +kernel) (by decide +kernel)
theorem lkRL_184 : Cond.methodLink RL 184 yL_isLiving ∈ TG := tg_of 832 (by decide +kernel) (by decide +kernel)
theorem lkRL_187 : Cond.methodLink RL 187 yL_isBleached ∈ TG := tg_of 839 (by decide +kernel) (by decide +kernel)
theorem lkRL_190 : Cond.methodLink RL 190 yL_colourAt ∈ TG := tg_of 846 (by decide +kernel) (by decide +kernel)
theorem lkRL_193 : Cond.methodLink RL 193 yL_ageAt ∈ TG := tg_of 874 (by decide +kernel) (by decide +kernel)
theorem lkRL_196 : Cond.methodLink RL 196 yL_neighbours ∈ TG := tg_of 881 (by decide +kernel) (by decide +kernel)
theorem lkRL_199 : Cond.methodLink RL 199 yL_neighboursOf ∈ TG := tg_of 889 (by decide +kernel) (by decide +kernel)
theorem lkRL_202 : Cond.methodLink RL 202 yL_birthColour ∈ TG := tg_of 896 (by decide +kernel) (by decide +kernel)
theorem lkRL_213 : Cond.methodLink RL 213 yL_countOf ∈ TG := tg_of 908 (by decide +kernel) (by decide +kernel)
theorem lkRL_224 : Cond.methodLink RL 224 yL_islandSize ∈ TG := tg_of 915 (by decide +kernel) (by decide +kernel)
theorem lkRL_231 : Cond.methodLink RL 231 yL_islandsOf ∈ TG := tg_of 923 (by decide +kernel) (by decide +kernel)
theorem lkRL_234 : Cond.methodLink RL 234 yL_isJoined ∈ TG := tg_of 930 (by decide +kernel) (by decide +kernel)
theorem lkRL_238 : Cond.methodLink RL 238 yL_passTides ∈ TG := tg_of 937 (by decide +kernel) (by decide +kernel)
theorem lkRL_242 : Cond.methodLink RL 242 yL_wouldLive ∈ TG := tg_of 972 (by decide +kernel) (by decide +kernel)
theorem lkRL_245 : Cond.methodLink RL 245 yL_livingAfter ∈ TG := tg_of 983 (by decide +kernel) (by decide +kernel)
theorem lkRL_253 : Cond.methodLink RL 253 yL_tidesUntilStill ∈ TG := tg_of 991 (by decide +kernel) (by decide +kernel)
theorem lkRL_262 : Cond.methodLink RL 262 yL_isBirth ∈ TG := tg_of 1004 (by decide +kernel) (by decide +kernel)
theorem lkRL_265 : Cond.methodLink RL 265 yL_isSurvival ∈ TG := tg_of 1016 (by decide +kernel) (by decide +kernel)
theorem lkRL_292 : Cond.methodLink RL 292 yL_rowByLiving ∈ TG := tg_of 1024 (by decide +kernel) (by decide +kernel)
theorem lkRL_295 : Cond.methodLink RL 295 yL_colourByCount ∈ TG := tg_of 1044 (by decide +kernel) (by decide +kernel)
theorem lkRL_298 : Cond.methodLink RL 298 yL_meanAge ∈ TG := tg_of 1056 (by decide +kernel) (by decide +kernel)
theorem lkRL_302 : Cond.methodLink RL 302 yL_livingShare ∈ TG := tg_of 1084 (by decide +kernel) (by decide +kernel)
theorem lkRL_309 : Cond.methodLink RL 309 yL_writeRow ∈ TG := tg_of 1092 (by decide +kernel) (by decide +kernel)
theorem lkRL_316 : Cond.methodLink RL 316 yL_outputAt ∈ TG := tg_of 1106 (by decide +kernel) (by decide +kernel)
theorem lkRL_319 : Cond.methodLink RL 319 yL_appendInput ∈ TG := tg_of 1118 (by decide +kernel) (by decide +kernel)
theorem lkRL_322 : Cond.methodLink RL 322 yL_execute ∈ TG := tg_of 1147 (by decide +kernel) (by decide +kernel)
theorem lkRL_325 : Cond.methodLink RL 325 yL_syntaxErrorOffset ∈ TG := tg_of 1260 (by decide +kernel) (by decide +kernel)
theorem lkRL_328 : Cond.methodLink RL 328 yL_rejectionReason ∈ TG := tg_of 1268 (by decide +kernel) (by decide +kernel)
theorem lkRL_331 : Cond.methodLink RL 331 yL_rejectionDetail ∈ TG := tg_of 1276 (by decide +kernel) (by decide +kernel)
theorem lkRL_334 : Cond.methodLink RL 334 yL_causeReason ∈ TG := tg_of 1283 (by decide +kernel) (by decide +kernel)
theorem lkRL_337 : Cond.methodLink RL 337 yL_undo ∈ TG := tg_of 1291 (by decide +kernel) (by decide +kernel)
theorem lkRL_344 : Cond.methodLink RL 344 yL_restoreSnapshot ∈ TG := tg_of 1304 (by decide +kernel) (by decide +kernel)
end LWRAP
