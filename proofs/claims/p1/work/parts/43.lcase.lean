/-! THE LAW: one call held against the other. Printed by wip/whole/gen/mk43.py. -/
section LCASE
def ML_law : kM := (yL_law, cL_law, 9, some FieldType.boolean, [])
/-- the script lies at 1999 -/
def XL (b n : Nat) (xs : Nat → Int32) (G : kG) (s : State) : Prop := gA G 1999 = b ∧ va_X b n xs s s.heap ∧ b < s.heap.size ∧ (¬ AG G b) ∧ va_AO "ButtonReef$State" s
theorem zb1 (x : Int32) : -2147483648 ≤ x.toInt := Int32.le_toInt x
theorem zb2 (x : Int32) : x.toInt < 2147483648 := Int32.toInt_lt x
section
variable {M : kM} {d mc ms b n : Nat} {xs : Nat → Int32} {Po : Out → Wd → Prop} {kc ks pc : Nat} {L : List (Option Value)} {st : List Value} {w : Wd}
theorem V_sld {i : Nat} (hd : decode (mC M) pc = .ok (.iaload, 1)) (hi : i < n) (hn : n < 2 ^ 31) (k : V 1 M d mc ms Po (XL b n xs) kc ks (pc + 1) L (.int (xs i) :: st) w) : V 1 M d mc ms Po (XL b n xs) kc ks pc L (.int (nI i) :: .ref 1999 :: st) w := by
  intro p l e R s m args below meth c G F H locs ls cells slots hR hS hl h1 h2
  obtain ⟨hx, hb, -, -, -, -, -, -, -, -, -, -, hX⟩ := id F
  have k9 := k p l e R s m args below meth c G F H locs ls cells slots hR hS hl h1 h2
  show W p l e R s m args below meth c H locs cells slots _ (F0 m pc ls (.int (nI i) :: .ref (gA G 1999) :: st.map (rv G)))
  rw [hX.1]
  refine va_sld hx hb hX.2.1 hX.2.2.1 hX.2.2.2.1 hS (in_n hi hn) hd ?_
  rw [nI_clamp (by omega)]
  exact k9
theorem V_slen (hd : decode (mC M) pc = .ok (.arraylength, 1)) (k : V 1 M d mc ms Po (XL b n xs) kc ks (pc + 1) L (.int (nI n) :: st) w) : V 1 M d mc ms Po (XL b n xs) kc ks pc L (.ref 1999 :: st) w := by
  intro p l e R s m args below meth c G F H locs ls cells slots hR hS hl h1 h2
  obtain ⟨hx, hb, -, -, -, -, -, -, -, -, -, -, hX⟩ := id F
  have k9 := k p l e R s m args below meth c G F H locs ls cells slots hR hS hl h1 h2
  show W p l e R s m args below meth c H locs cells slots _ (F0 m pc ls (.ref (gA G 1999) :: st.map (rv G)))
  rw [hX.1]
  exact va_slen hx hb hX.2.1 hX.2.2.1 hX.2.2.2.1 hS hd k9
theorem V_topD {X : kG → State → Prop} {x y : UInt64} (h : x = y) (k : V 1 M d mc ms Po X kc ks pc L (.double y :: st) w) : V 1 M d mc ms Po X kc ks pc L (.double x :: st) w := by rw [h]; exact k
theorem V_topF {X : kG → State → Prop} {x y : UInt32} (h : x = y) (k : V 1 M d mc ms Po X kc ks pc L (.float y :: st) w) : V 1 M d mc ms Po X kc ks pc L (.float x :: st) w := by rw [h]; exact k
end
theorem cmp_self (a : Int64) : lg_cmp a a = nI 0 := by
  have h1 : ¬ lg_cmp a a < 0 := fun q => absurd ((lg_cmp_lt _ _).mp q) (Int64.lt_irrefl)
  have h2 : ¬ 0 < lg_cmp a a := fun q => absurd ((lg_cmp_gt _ _).mp q) (Int64.lt_irrefl)
  have h3 : (lg_cmp a a).toInt = 0 := by
    rw [Int32.lt_iff_toInt_lt] at h1 h2
    have e : (0 : Int32).toInt = 0 := rfl
    omega
  exact Int32.toInt_inj.mp (by rw [h3]; rfl)
theorem gl0 {P : Nat → Prop} {w w1 : Wd} {z : Int64} (hF : Fr P w w1) (hn : ¬ P 65) (h : gL w 65 0 = z) : gL w1 65 (nI 0).toNatClampNeg = z := by
  have e : (nI 0).toNatClampNeg = 0 := by decide
  rw [e, hF.gl hn]; exact h
theorem gf0 {P : Nat → Prop} {w w1 : Wd} {z : UInt64} (hF : Fr P w w1) (hn : ¬ P 66) (h : gF w 66 0 = z) : gF w1 66 (nI 0).toNatClampNeg = z := by
  have e : (nI 0).toNatClampNeg = 0 := by decide
  rw [e, hF.gf hn]; exact h
theorem fpt4 : ∀ a < 65, ∀ b < 65, 0 < b → Op.cmpValue (FP.dcmp (FP.f2d (FP.fdiv (FP.i2f (nI a)) (FP.i2f (nI b)))) (FP.f2d (FP.fdiv (FP.i2f (nI a)) (FP.i2f (nI b))))) .l = 0 := by decide +kernel
theorem fpt_sc {S : Sys} (hk : fShareK S = 0) : Op.cmpValue (FP.dcmp (FP.f2d (fShareV S)) (FP.f2d (fShareV S))) .l = 0 := by
  have h2 := @cnt_two S.1.1
  have h3 : ¬ cnt S.1.1 42 + cnt S.1.1 35 = 0 := fun q => by unfold fShareK at hk; rw [if_pos q] at hk; cases hk
  exact fpt4 (cnt S.1.1 42) (by omega) (cnt S.1.1 42 + cnt S.1.1 35) (by omega) (by omega)
abbrev LPo : Out → Wd → Prop := fun o _ => o = Sum.inl (some (.int (nI 1)))
/-- the law at a place, with the rest of its room -/
abbrev LV (b n : Nat) (xs : Nat → Int32) (kc ks pc : Nat) (L : List (Option Value)) (st : List Value) (w : Wd) : Prop := V 1 ML_law 20 3000 30000 LPo (XL b n xs) kc ks pc L st w
/-- what the law's turn leaves: the next one -/
abbrev LBack (b n : Nat) (xs : Nat → Int32) (t kc ks : Nat) : Prop := ∀ (S1 : Sys) (w1 : Wd), CI w1 S1 → MI w1 S1 → LV b n xs kc ks 2878 [some (.ref 1999), some (.ref 0), some (.ref 47), some (.ref 65), some (.ref 66), some (.int (nI (5 * t))), none, none, none] [] w1
set_option maxRecDepth 100000 in
set_option maxHeartbeats 1000000 in
theorem law_c0 {b n t kc ks : Nat} {xs : Nat → Int32} {S : Sys} {w : Wd} (hC : CI w S) (hM : MI w S) (ht : 5 * t + 5 ≤ n) (hn : n ≤ 2560) (hk : 4 ≤ kc) (hs : 24 ≤ ks) (hb : LBack b n xs t (kc - 4) (ks - 24)) : LV b n xs kc ks 276 [some (.ref 1999), some (.ref 0), some (.ref 47), some (.ref 65), some (.ref 66), some (.int (nI (5 * t))), none, none, none] [] w := by
  refine V_aload_n (i := 1) dL_law_276 rfl rfl ?_
  refine V_aload_n (i := 0) dL_law_277 rfl rfl ?_
  refine V_iload dL_law_278 rfl ?_
  refine V_iconst_n (v := 1) dL_law_280 (by decide) ?_
  refine V_iadd_n dL_law_281 ?_
  refine V_sld (i := ((5 * t) + 1)) dL_law_282 (by omega) (by omega) ?_
  refine V_aload_n (i := 0) dL_law_283 rfl rfl ?_
  refine V_iload dL_law_284 rfl ?_
  refine V_iconst_n (v := 2) dL_law_286 (by decide) ?_
  refine V_iadd_n dL_law_287 ?_
  refine V_sld (i := ((5 * t) + 2)) dL_law_288 (by omega) (by omega) ?_
  refine V_aload_n (i := 0) dL_law_289 rfl rfl ?_
  refine V_iload dL_law_290 rfl ?_
  refine V_iconst_n (v := 3) dL_law_292 (by decide) ?_
  refine V_iadd_n dL_law_293 ?_
  refine V_sld (i := ((5 * t) + 3)) dL_law_294 (by omega) (by omega) ?_
  refine V_i2c dL_law_295 ?_
  have hm295 : (xs ((5 * t) + 3)).toBitVec.toNat % 65536 < 65536 := Nat.mod_lt _ (by decide)
  refine V_aload_n (i := 3) dL_law_296 rfl rfl ?_
  refine V_callSH dL_law_297 (l_place hC (zI_of _) (zI_of _) (zb1 _) (zb2 _) (zb1 _) (zb2 _) (Nat.mod_lt _ (by decide))) okL_place lkRL_154 rfl rfl (Nat.le_of_ble_eq_true rfl) ⟨Nat.le_of_ble_eq_true rfl, Nat.le_of_ble_eq_true rfl⟩ rfl ⟨by omega, by omega⟩ (fun v9 u1 hu1 => ?_) (fun E9 u1 hu1 => by obtain ⟨h9, _⟩ := hu1; cases h9)
  obtain ⟨e9, hv, hC1, hF1⟩ := hu1
  cases e9
  have hM1 := hM.keepF hF1 (fun b h1 h2 q => by omega)
  have hle : (fPlace S (xs ((5 * t) + 1)).toInt (xs ((5 * t) + 2)).toInt ((xs ((5 * t) + 3)).toBitVec.toNat % 65536)).1 ≤ 3 := le_place
  refine V_istore dL_law_300 (Nat.le_of_ble_eq_true rfl) rfl rfl ?_
  refine V_aload_n (i := 2) dL_law_302 rfl rfl ?_
  refine V_aload_n (i := 0) dL_law_303 rfl rfl ?_
  refine V_iload dL_law_304 rfl ?_
  refine V_iconst_n (v := 1) dL_law_306 (by decide) ?_
  refine V_iadd_n dL_law_307 ?_
  refine V_sld (i := ((5 * t) + 1)) dL_law_308 (by omega) (by omega) ?_
  refine V_aload_n (i := 0) dL_law_309 rfl rfl ?_
  refine V_iload dL_law_310 rfl ?_
  refine V_iconst_n (v := 2) dL_law_312 (by decide) ?_
  refine V_iadd_n dL_law_313 ?_
  refine V_sld (i := ((5 * t) + 2)) dL_law_314 (by omega) (by omega) ?_
  refine V_aload_n (i := 0) dL_law_315 rfl rfl ?_
  refine V_iload dL_law_316 rfl ?_
  refine V_iconst_n (v := 3) dL_law_318 (by decide) ?_
  refine V_iadd_n dL_law_319 ?_
  refine V_sld (i := ((5 * t) + 3)) dL_law_320 (by omega) (by omega) ?_
  refine V_i2c dL_law_321 ?_
  have hm321 : (xs ((5 * t) + 3)).toBitVec.toNat % 65536 < 65536 := Nat.mod_lt _ (by decide)
  refine V_callV dL_law_322 (m_place hM1 (zI_of _) (zI_of _) (zb1 _) (zb2 _) (zb1 _) (zb2 _) (Nat.mod_lt _ (by decide))) okX11_place lkRL_159 (Or.inr ⟨rfl, Nat.le_of_ble_eq_true rfl⟩) rfl rfl rfl rfl (Nat.le_of_ble_eq_true rfl) ⟨Nat.le_of_ble_eq_true rfl, Nat.le_of_ble_eq_true rfl⟩ rfl ⟨Nat.zero_le _, Nat.zero_le _⟩ (fun v9 u2 hu2 => ?_) (fun E9 w9 h9 => by obtain ⟨⟨x9, h9, _⟩, _⟩ := h9; cases h9)
  obtain ⟨⟨x2, e9, hx2⟩, hM2, ht2, hF2⟩ := hu2
  cases e9
  have hC2 := hC1.keepF hF2 (fun b hb q => by omega)
  refine V_istore dL_law_325 (Nat.le_of_ble_eq_true rfl) rfl rfl ?_
  refine V_aload_n (i := 2) dL_law_327 rfl rfl ?_
  refine V_callVF dL_law_328 (m_thrown (n := (fPlace S (xs ((5 * t) + 1)).toInt (xs ((5 * t) + 2)).toInt ((xs ((5 * t) + 3)).toBitVec.toNat % 65536)).1) ht2) okX11_thrown lkRL_160 (Or.inr ⟨rfl, Nat.le_of_ble_eq_true rfl⟩) rfl rfl rfl rfl (Nat.le_of_ble_eq_true rfl) ⟨Nat.le_of_ble_eq_true rfl, Nat.le_of_ble_eq_true rfl⟩ rfl ?_
  refine V_iload dL_law_331 rfl ?_
  refine V_icmp_eq_n (tgt := 338) dL_law_333 (by decide) (by omega) (by omega) (fun h333 => ?_) (fun h333 => by exfalso; omega)
  refine V_iload dL_law_338 rfl ?_
  refine V_if_ne_n (tgt := 355) dL_law_340 (by decide) (by omega) (fun h340 => ?_) (fun h340 => ?_)
  · refine V_goto (tgt := 2878) dL_law_355 (by decide) ?_
    exact (V_w (by omega) (by omega) (hb _ _ hC2 hM2)).sub (by repeat' (first | exact trivial | exact rfl | constructor))
  · refine V_aload_n (i := 3) dL_law_343 rfl rfl ?_
    refine V_iconst_n (v := 0) dL_law_344 (by decide) ?_
    refine V_lald dL_law_345 (Or.inr ⟨rfl, Nat.le_of_ble_eq_true rfl⟩) rfl (in_n (by omega) (by decide)) ?_
    refine V_topL (y := (fPlace S (xs ((5 * t) + 1)).toInt (xs ((5 * t) + 2)).toInt ((xs ((5 * t) + 3)).toBitVec.toNat % 65536)).2.1.toInt64) (gl0 hF2 (by omega) (hv h340)) ?_
    refine V_iload dL_law_346 rfl ?_
    refine V_top (y := (fPlace S (xs ((5 * t) + 1)).toInt (xs ((5 * t) + 2)).toInt ((xs ((5 * t) + 3)).toBitVec.toNat % 65536)).2.1) (hx2 h340) ?_
    refine V_i2l dL_law_348 ?_
    refine V_lcmp dL_law_349 ?_
    refine V_top (y := nI 0) (cmp_self _) ?_
    refine V_if_eq_n (tgt := 355) dL_law_350 (by decide) (by omega) (fun h350 => ?_) (fun h350 => by exfalso; omega)
    refine V_goto (tgt := 2878) dL_law_355 (by decide) ?_
    exact (V_w (by omega) (by omega) (hb _ _ hC2 hM2)).sub (by repeat' (first | exact trivial | exact rfl | constructor))
set_option maxRecDepth 100000 in
set_option maxHeartbeats 1000000 in
theorem law_c1 {b n t kc ks : Nat} {xs : Nat → Int32} {S : Sys} {w : Wd} (hC : CI w S) (hM : MI w S) (ht : 5 * t + 5 ≤ n) (hn : n ≤ 2560) (hk : 4 ≤ kc) (hs : 24 ≤ ks) (hb : LBack b n xs t (kc - 4) (ks - 24)) : LV b n xs kc ks 358 [some (.ref 1999), some (.ref 0), some (.ref 47), some (.ref 65), some (.ref 66), some (.int (nI (5 * t))), none, none, none] [] w := by
  refine V_aload_n (i := 1) dL_law_358 rfl rfl ?_
  refine V_aload_n (i := 0) dL_law_359 rfl rfl ?_
  refine V_iload dL_law_360 rfl ?_
  refine V_iconst_n (v := 1) dL_law_362 (by decide) ?_
  refine V_iadd_n dL_law_363 ?_
  refine V_sld (i := ((5 * t) + 1)) dL_law_364 (by omega) (by omega) ?_
  refine V_aload_n (i := 0) dL_law_365 rfl rfl ?_
  refine V_iload dL_law_366 rfl ?_
  refine V_iconst_n (v := 2) dL_law_368 (by decide) ?_
  refine V_iadd_n dL_law_369 ?_
  refine V_sld (i := ((5 * t) + 2)) dL_law_370 (by omega) (by omega) ?_
  refine V_aload_n (i := 3) dL_law_371 rfl rfl ?_
  refine V_callSH dL_law_372 (l_remove hC (zI_of _) (zI_of _) (zb1 _) (zb2 _) (zb1 _) (zb2 _)) okL_remove lkRL_163 rfl rfl (Nat.le_of_ble_eq_true rfl) ⟨Nat.le_of_ble_eq_true rfl, Nat.le_of_ble_eq_true rfl⟩ rfl ⟨by omega, by omega⟩ (fun v9 u1 hu1 => ?_) (fun E9 u1 hu1 => by obtain ⟨h9, _⟩ := hu1; cases h9)
  obtain ⟨e9, hv, hC1, hF1⟩ := hu1
  cases e9
  have hM1 := hM.keepF hF1 (fun b h1 h2 q => by omega)
  have hle : (fRemove S (xs ((5 * t) + 1)).toInt (xs ((5 * t) + 2)).toInt).1 ≤ 2 := le_remove
  refine V_istore dL_law_375 (Nat.le_of_ble_eq_true rfl) rfl rfl ?_
  refine V_aload_n (i := 2) dL_law_377 rfl rfl ?_
  refine V_aload_n (i := 0) dL_law_378 rfl rfl ?_
  refine V_iload dL_law_379 rfl ?_
  refine V_iconst_n (v := 1) dL_law_381 (by decide) ?_
  refine V_iadd_n dL_law_382 ?_
  refine V_sld (i := ((5 * t) + 1)) dL_law_383 (by omega) (by omega) ?_
  refine V_aload_n (i := 0) dL_law_384 rfl rfl ?_
  refine V_iload dL_law_385 rfl ?_
  refine V_iconst_n (v := 2) dL_law_387 (by decide) ?_
  refine V_iadd_n dL_law_388 ?_
  refine V_sld (i := ((5 * t) + 2)) dL_law_389 (by omega) (by omega) ?_
  refine V_callV dL_law_390 (m_remove hM1 (zI_of _) (zI_of _) (zb1 _) (zb2 _) (zb1 _) (zb2 _)) okX11_remove lkRL_166 (Or.inr ⟨rfl, Nat.le_of_ble_eq_true rfl⟩) rfl rfl rfl rfl (Nat.le_of_ble_eq_true rfl) ⟨Nat.le_of_ble_eq_true rfl, Nat.le_of_ble_eq_true rfl⟩ rfl ⟨Nat.zero_le _, Nat.zero_le _⟩ (fun v9 u2 hu2 => ?_) (fun E9 w9 h9 => by obtain ⟨⟨x9, h9, _⟩, _⟩ := h9; cases h9)
  obtain ⟨⟨x2, e9, hx2⟩, hM2, ht2, hF2⟩ := hu2
  cases e9
  have hC2 := hC1.keepF hF2 (fun b hb q => by omega)
  refine V_istore dL_law_393 (Nat.le_of_ble_eq_true rfl) rfl rfl ?_
  refine V_aload_n (i := 2) dL_law_395 rfl rfl ?_
  refine V_callVF dL_law_396 (m_thrown (n := (fRemove S (xs ((5 * t) + 1)).toInt (xs ((5 * t) + 2)).toInt).1) ht2) okX11_thrown lkRL_160 (Or.inr ⟨rfl, Nat.le_of_ble_eq_true rfl⟩) rfl rfl rfl rfl (Nat.le_of_ble_eq_true rfl) ⟨Nat.le_of_ble_eq_true rfl, Nat.le_of_ble_eq_true rfl⟩ rfl ?_
  refine V_iload dL_law_399 rfl ?_
  refine V_icmp_eq_n (tgt := 406) dL_law_401 (by decide) (by omega) (by omega) (fun h401 => ?_) (fun h401 => by exfalso; omega)
  refine V_iload dL_law_406 rfl ?_
  refine V_if_ne_n (tgt := 423) dL_law_408 (by decide) (by omega) (fun h408 => ?_) (fun h408 => ?_)
  · refine V_goto (tgt := 2878) dL_law_423 (by decide) ?_
    exact (V_w (by omega) (by omega) (hb _ _ hC2 hM2)).sub (by repeat' (first | exact trivial | exact rfl | constructor))
  · refine V_aload_n (i := 3) dL_law_411 rfl rfl ?_
    refine V_iconst_n (v := 0) dL_law_412 (by decide) ?_
    refine V_lald dL_law_413 (Or.inr ⟨rfl, Nat.le_of_ble_eq_true rfl⟩) rfl (in_n (by omega) (by decide)) ?_
    refine V_topL (y := (fRemove S (xs ((5 * t) + 1)).toInt (xs ((5 * t) + 2)).toInt).2.1.toInt64) (gl0 hF2 (by omega) (hv h408)) ?_
    refine V_iload dL_law_414 rfl ?_
    refine V_top (y := (fRemove S (xs ((5 * t) + 1)).toInt (xs ((5 * t) + 2)).toInt).2.1) (hx2 h408) ?_
    refine V_i2l dL_law_416 ?_
    refine V_lcmp dL_law_417 ?_
    refine V_top (y := nI 0) (cmp_self _) ?_
    refine V_if_eq_n (tgt := 423) dL_law_418 (by decide) (by omega) (fun h418 => ?_) (fun h418 => by exfalso; omega)
    refine V_goto (tgt := 2878) dL_law_423 (by decide) ?_
    exact (V_w (by omega) (by omega) (hb _ _ hC2 hM2)).sub (by repeat' (first | exact trivial | exact rfl | constructor))
set_option maxRecDepth 100000 in
set_option maxHeartbeats 1000000 in
theorem law_c2 {b n t kc ks : Nat} {xs : Nat → Int32} {S : Sys} {w : Wd} (hC : CI w S) (hM : MI w S) (ht : 5 * t + 5 ≤ n) (hn : n ≤ 2560) (hk : 4 ≤ kc) (hs : 24 ≤ ks) (hb : LBack b n xs t (kc - 4) (ks - 24)) : LV b n xs kc ks 426 [some (.ref 1999), some (.ref 0), some (.ref 47), some (.ref 65), some (.ref 66), some (.int (nI (5 * t))), none, none, none] [] w := by
  refine V_aload_n (i := 1) dL_law_426 rfl rfl ?_
  refine V_aload_n (i := 0) dL_law_427 rfl rfl ?_
  refine V_iload dL_law_428 rfl ?_
  refine V_iconst_n (v := 1) dL_law_430 (by decide) ?_
  refine V_iadd_n dL_law_431 ?_
  refine V_sld (i := ((5 * t) + 1)) dL_law_432 (by omega) (by omega) ?_
  refine V_aload_n (i := 0) dL_law_433 rfl rfl ?_
  refine V_iload dL_law_434 rfl ?_
  refine V_iconst_n (v := 2) dL_law_436 (by decide) ?_
  refine V_iadd_n dL_law_437 ?_
  refine V_sld (i := ((5 * t) + 2)) dL_law_438 (by omega) (by omega) ?_
  refine V_aload_n (i := 3) dL_law_439 rfl rfl ?_
  refine V_callSH dL_law_440 (l_bleach hC (zI_of _) (zI_of _) (zb1 _) (zb2 _) (zb1 _) (zb2 _)) okL_bleach lkRL_167 rfl rfl (Nat.le_of_ble_eq_true rfl) ⟨Nat.le_of_ble_eq_true rfl, Nat.le_of_ble_eq_true rfl⟩ rfl ⟨by omega, by omega⟩ (fun v9 u1 hu1 => ?_) (fun E9 u1 hu1 => by obtain ⟨h9, _⟩ := hu1; cases h9)
  obtain ⟨e9, hv, hC1, hF1⟩ := hu1
  cases e9
  have hM1 := hM.keepF hF1 (fun b h1 h2 q => by omega)
  have hle : (fBleach S (xs ((5 * t) + 1)).toInt (xs ((5 * t) + 2)).toInt).1 ≤ 2 := le_bleach
  refine V_istore dL_law_443 (Nat.le_of_ble_eq_true rfl) rfl rfl ?_
  refine V_aload_n (i := 2) dL_law_445 rfl rfl ?_
  refine V_aload_n (i := 0) dL_law_446 rfl rfl ?_
  refine V_iload dL_law_447 rfl ?_
  refine V_iconst_n (v := 1) dL_law_449 (by decide) ?_
  refine V_iadd_n dL_law_450 ?_
  refine V_sld (i := ((5 * t) + 1)) dL_law_451 (by omega) (by omega) ?_
  refine V_aload_n (i := 0) dL_law_452 rfl rfl ?_
  refine V_iload dL_law_453 rfl ?_
  refine V_iconst_n (v := 2) dL_law_455 (by decide) ?_
  refine V_iadd_n dL_law_456 ?_
  refine V_sld (i := ((5 * t) + 2)) dL_law_457 (by omega) (by omega) ?_
  refine V_callV dL_law_458 (m_bleach hM1 (zI_of _) (zI_of _) (zb1 _) (zb2 _) (zb1 _) (zb2 _)) okX11_bleach lkRL_169 (Or.inr ⟨rfl, Nat.le_of_ble_eq_true rfl⟩) rfl rfl rfl rfl (Nat.le_of_ble_eq_true rfl) ⟨Nat.le_of_ble_eq_true rfl, Nat.le_of_ble_eq_true rfl⟩ rfl ⟨Nat.zero_le _, Nat.zero_le _⟩ (fun v9 u2 hu2 => ?_) (fun E9 w9 h9 => by obtain ⟨⟨x9, h9, _⟩, _⟩ := h9; cases h9)
  obtain ⟨⟨x2, e9, hx2⟩, hM2, ht2, hF2⟩ := hu2
  cases e9
  have hC2 := hC1.keepF hF2 (fun b hb q => by omega)
  refine V_istore dL_law_461 (Nat.le_of_ble_eq_true rfl) rfl rfl ?_
  refine V_aload_n (i := 2) dL_law_463 rfl rfl ?_
  refine V_callVF dL_law_464 (m_thrown (n := (fBleach S (xs ((5 * t) + 1)).toInt (xs ((5 * t) + 2)).toInt).1) ht2) okX11_thrown lkRL_160 (Or.inr ⟨rfl, Nat.le_of_ble_eq_true rfl⟩) rfl rfl rfl rfl (Nat.le_of_ble_eq_true rfl) ⟨Nat.le_of_ble_eq_true rfl, Nat.le_of_ble_eq_true rfl⟩ rfl ?_
  refine V_iload dL_law_467 rfl ?_
  refine V_icmp_eq_n (tgt := 474) dL_law_469 (by decide) (by omega) (by omega) (fun h469 => ?_) (fun h469 => by exfalso; omega)
  refine V_iload dL_law_474 rfl ?_
  refine V_if_ne_n (tgt := 491) dL_law_476 (by decide) (by omega) (fun h476 => ?_) (fun h476 => ?_)
  · refine V_goto (tgt := 2878) dL_law_491 (by decide) ?_
    exact (V_w (by omega) (by omega) (hb _ _ hC2 hM2)).sub (by repeat' (first | exact trivial | exact rfl | constructor))
  · refine V_aload_n (i := 3) dL_law_479 rfl rfl ?_
    refine V_iconst_n (v := 0) dL_law_480 (by decide) ?_
    refine V_lald dL_law_481 (Or.inr ⟨rfl, Nat.le_of_ble_eq_true rfl⟩) rfl (in_n (by omega) (by decide)) ?_
    refine V_topL (y := (fBleach S (xs ((5 * t) + 1)).toInt (xs ((5 * t) + 2)).toInt).2.1.toInt64) (gl0 hF2 (by omega) (hv h476)) ?_
    refine V_iload dL_law_482 rfl ?_
    refine V_top (y := (fBleach S (xs ((5 * t) + 1)).toInt (xs ((5 * t) + 2)).toInt).2.1) (hx2 h476) ?_
    refine V_i2l dL_law_484 ?_
    refine V_lcmp dL_law_485 ?_
    refine V_top (y := nI 0) (cmp_self _) ?_
    refine V_if_eq_n (tgt := 491) dL_law_486 (by decide) (by omega) (fun h486 => ?_) (fun h486 => by exfalso; omega)
    refine V_goto (tgt := 2878) dL_law_491 (by decide) ?_
    exact (V_w (by omega) (by omega) (hb _ _ hC2 hM2)).sub (by repeat' (first | exact trivial | exact rfl | constructor))
set_option maxRecDepth 100000 in
set_option maxHeartbeats 1000000 in
theorem law_c3 {b n t kc ks : Nat} {xs : Nat → Int32} {S : Sys} {w : Wd} (hC : CI w S) (hM : MI w S) (ht : 5 * t + 5 ≤ n) (hn : n ≤ 2560) (hk : 4 ≤ kc) (hs : 24 ≤ ks) (hb : LBack b n xs t (kc - 4) (ks - 24)) : LV b n xs kc ks 494 [some (.ref 1999), some (.ref 0), some (.ref 47), some (.ref 65), some (.ref 66), some (.int (nI (5 * t))), none, none, none] [] w := by
  refine V_aload_n (i := 1) dL_law_494 rfl rfl ?_
  refine V_aload_n (i := 0) dL_law_495 rfl rfl ?_
  refine V_iload dL_law_496 rfl ?_
  refine V_iconst_n (v := 1) dL_law_498 (by decide) ?_
  refine V_iadd_n dL_law_499 ?_
  refine V_sld (i := ((5 * t) + 1)) dL_law_500 (by omega) (by omega) ?_
  refine V_aload_n (i := 0) dL_law_501 rfl rfl ?_
  refine V_iload dL_law_502 rfl ?_
  refine V_iconst_n (v := 2) dL_law_504 (by decide) ?_
  refine V_iadd_n dL_law_505 ?_
  refine V_sld (i := ((5 * t) + 2)) dL_law_506 (by omega) (by omega) ?_
  refine V_aload_n (i := 0) dL_law_507 rfl rfl ?_
  refine V_iload dL_law_508 rfl ?_
  refine V_iconst_n (v := 3) dL_law_510 (by decide) ?_
  refine V_iadd_n dL_law_511 ?_
  refine V_sld (i := ((5 * t) + 3)) dL_law_512 (by omega) (by omega) ?_
  refine V_i2c dL_law_513 ?_
  have hm513 : (xs ((5 * t) + 3)).toBitVec.toNat % 65536 < 65536 := Nat.mod_lt _ (by decide)
  refine V_aload_n (i := 3) dL_law_514 rfl rfl ?_
  refine V_callSH dL_law_515 (l_recolour hC (zI_of _) (zI_of _) (zb1 _) (zb2 _) (zb1 _) (zb2 _) (Nat.mod_lt _ (by decide))) okL_recolour lkRL_170 rfl rfl (Nat.le_of_ble_eq_true rfl) ⟨Nat.le_of_ble_eq_true rfl, Nat.le_of_ble_eq_true rfl⟩ rfl ⟨by omega, by omega⟩ (fun v9 u1 hu1 => ?_) (fun E9 u1 hu1 => by obtain ⟨h9, _⟩ := hu1; cases h9)
  obtain ⟨e9, hv, hC1, hF1⟩ := hu1
  cases e9
  have hM1 := hM.keepF hF1 (fun b h1 h2 q => by omega)
  have hle : (fRecolour S (xs ((5 * t) + 1)).toInt (xs ((5 * t) + 2)).toInt ((xs ((5 * t) + 3)).toBitVec.toNat % 65536)).1 ≤ 3 := le_recolour
  refine V_istore dL_law_518 (Nat.le_of_ble_eq_true rfl) rfl rfl ?_
  refine V_aload_n (i := 2) dL_law_520 rfl rfl ?_
  refine V_aload_n (i := 0) dL_law_521 rfl rfl ?_
  refine V_iload dL_law_522 rfl ?_
  refine V_iconst_n (v := 1) dL_law_524 (by decide) ?_
  refine V_iadd_n dL_law_525 ?_
  refine V_sld (i := ((5 * t) + 1)) dL_law_526 (by omega) (by omega) ?_
  refine V_aload_n (i := 0) dL_law_527 rfl rfl ?_
  refine V_iload dL_law_528 rfl ?_
  refine V_iconst_n (v := 2) dL_law_530 (by decide) ?_
  refine V_iadd_n dL_law_531 ?_
  refine V_sld (i := ((5 * t) + 2)) dL_law_532 (by omega) (by omega) ?_
  refine V_aload_n (i := 0) dL_law_533 rfl rfl ?_
  refine V_iload dL_law_534 rfl ?_
  refine V_iconst_n (v := 3) dL_law_536 (by decide) ?_
  refine V_iadd_n dL_law_537 ?_
  refine V_sld (i := ((5 * t) + 3)) dL_law_538 (by omega) (by omega) ?_
  refine V_i2c dL_law_539 ?_
  have hm539 : (xs ((5 * t) + 3)).toBitVec.toNat % 65536 < 65536 := Nat.mod_lt _ (by decide)
  refine V_callV dL_law_540 (m_recolour hM1 (zI_of _) (zI_of _) (zb1 _) (zb2 _) (zb1 _) (zb2 _) (Nat.mod_lt _ (by decide))) okX11_recolour lkRL_172 (Or.inr ⟨rfl, Nat.le_of_ble_eq_true rfl⟩) rfl rfl rfl rfl (Nat.le_of_ble_eq_true rfl) ⟨Nat.le_of_ble_eq_true rfl, Nat.le_of_ble_eq_true rfl⟩ rfl ⟨Nat.zero_le _, Nat.zero_le _⟩ (fun v9 u2 hu2 => ?_) (fun E9 w9 h9 => by obtain ⟨⟨x9, h9, _⟩, _⟩ := h9; cases h9)
  obtain ⟨⟨x2, e9, hx2⟩, hM2, ht2, hF2⟩ := hu2
  cases e9
  have hC2 := hC1.keepF hF2 (fun b hb q => by omega)
  refine V_istore dL_law_543 (Nat.le_of_ble_eq_true rfl) rfl rfl ?_
  refine V_aload_n (i := 2) dL_law_545 rfl rfl ?_
  refine V_callVF dL_law_546 (m_thrown (n := (fRecolour S (xs ((5 * t) + 1)).toInt (xs ((5 * t) + 2)).toInt ((xs ((5 * t) + 3)).toBitVec.toNat % 65536)).1) ht2) okX11_thrown lkRL_160 (Or.inr ⟨rfl, Nat.le_of_ble_eq_true rfl⟩) rfl rfl rfl rfl (Nat.le_of_ble_eq_true rfl) ⟨Nat.le_of_ble_eq_true rfl, Nat.le_of_ble_eq_true rfl⟩ rfl ?_
  refine V_iload dL_law_549 rfl ?_
  refine V_icmp_eq_n (tgt := 556) dL_law_551 (by decide) (by omega) (by omega) (fun h551 => ?_) (fun h551 => by exfalso; omega)
  refine V_iload dL_law_556 rfl ?_
  refine V_if_ne_n (tgt := 573) dL_law_558 (by decide) (by omega) (fun h558 => ?_) (fun h558 => ?_)
  · refine V_goto (tgt := 2878) dL_law_573 (by decide) ?_
    exact (V_w (by omega) (by omega) (hb _ _ hC2 hM2)).sub (by repeat' (first | exact trivial | exact rfl | constructor))
  · refine V_aload_n (i := 3) dL_law_561 rfl rfl ?_
    refine V_iconst_n (v := 0) dL_law_562 (by decide) ?_
    refine V_lald dL_law_563 (Or.inr ⟨rfl, Nat.le_of_ble_eq_true rfl⟩) rfl (in_n (by omega) (by decide)) ?_
    refine V_topL (y := (fRecolour S (xs ((5 * t) + 1)).toInt (xs ((5 * t) + 2)).toInt ((xs ((5 * t) + 3)).toBitVec.toNat % 65536)).2.1.toInt64) (gl0 hF2 (by omega) (hv h558)) ?_
    refine V_iload dL_law_564 rfl ?_
    refine V_top (y := (fRecolour S (xs ((5 * t) + 1)).toInt (xs ((5 * t) + 2)).toInt ((xs ((5 * t) + 3)).toBitVec.toNat % 65536)).2.1) (hx2 h558) ?_
    refine V_i2l dL_law_566 ?_
    refine V_lcmp dL_law_567 ?_
    refine V_top (y := nI 0) (cmp_self _) ?_
    refine V_if_eq_n (tgt := 573) dL_law_568 (by decide) (by omega) (fun h568 => ?_) (fun h568 => by exfalso; omega)
    refine V_goto (tgt := 2878) dL_law_573 (by decide) ?_
    exact (V_w (by omega) (by omega) (hb _ _ hC2 hM2)).sub (by repeat' (first | exact trivial | exact rfl | constructor))
set_option maxRecDepth 100000 in
set_option maxHeartbeats 1000000 in
theorem law_c4 {b n t kc ks : Nat} {xs : Nat → Int32} {S : Sys} {w : Wd} (hC : CI w S) (hM : MI w S) (ht : 5 * t + 5 ≤ n) (hn : n ≤ 2560) (hk : 4 ≤ kc) (hs : 24 ≤ ks) (hb : LBack b n xs t (kc - 4) (ks - 24)) : LV b n xs kc ks 576 [some (.ref 1999), some (.ref 0), some (.ref 47), some (.ref 65), some (.ref 66), some (.int (nI (5 * t))), none, none, none] [] w := by
  refine V_aload_n (i := 1) dL_law_576 rfl rfl ?_
  refine V_aload_n (i := 0) dL_law_577 rfl rfl ?_
  refine V_iload dL_law_578 rfl ?_
  refine V_iconst_n (v := 1) dL_law_580 (by decide) ?_
  refine V_iadd_n dL_law_581 ?_
  refine V_sld (i := ((5 * t) + 1)) dL_law_582 (by omega) (by omega) ?_
  refine V_aload_n (i := 0) dL_law_583 rfl rfl ?_
  refine V_iload dL_law_584 rfl ?_
  refine V_iconst_n (v := 2) dL_law_586 (by decide) ?_
  refine V_iadd_n dL_law_587 ?_
  refine V_sld (i := ((5 * t) + 2)) dL_law_588 (by omega) (by omega) ?_
  refine V_aload_n (i := 0) dL_law_589 rfl rfl ?_
  refine V_iload dL_law_590 rfl ?_
  refine V_iconst_n (v := 3) dL_law_592 (by decide) ?_
  refine V_iadd_n dL_law_593 ?_
  refine V_sld (i := ((5 * t) + 3)) dL_law_594 (by omega) (by omega) ?_
  refine V_i2c dL_law_595 ?_
  have hm595 : (xs ((5 * t) + 3)).toBitVec.toNat % 65536 < 65536 := Nat.mod_lt _ (by decide)
  refine V_aload_n (i := 0) dL_law_596 rfl rfl ?_
  refine V_iload dL_law_597 rfl ?_
  refine V_iconst_n (v := 4) dL_law_599 (by decide) ?_
  refine V_iadd_n dL_law_600 ?_
  refine V_sld (i := ((5 * t) + 4)) dL_law_601 (by omega) (by omega) ?_
  refine V_i2c dL_law_602 ?_
  have hm602 : (xs ((5 * t) + 4)).toBitVec.toNat % 65536 < 65536 := Nat.mod_lt _ (by decide)
  refine V_aload_n (i := 3) dL_law_603 rfl rfl ?_
  refine V_callSH dL_law_604 (l_plant hC (zI_of _) (zI_of _) (zb1 _) (zb2 _) (zb1 _) (zb2 _) (Nat.mod_lt _ (by decide)) (Nat.mod_lt _ (by decide))) okL_plant lkRL_173 rfl rfl (Nat.le_of_ble_eq_true rfl) ⟨Nat.le_of_ble_eq_true rfl, Nat.le_of_ble_eq_true rfl⟩ rfl ⟨by omega, by omega⟩ (fun v9 u1 hu1 => ?_) (fun E9 u1 hu1 => by obtain ⟨h9, _⟩ := hu1; cases h9)
  obtain ⟨e9, hv, hC1, hF1⟩ := hu1
  cases e9
  have hM1 := hM.keepF hF1 (fun b h1 h2 q => by omega)
  have hle : (fPlant S (xs ((5 * t) + 1)).toInt (xs ((5 * t) + 2)).toInt ((xs ((5 * t) + 3)).toBitVec.toNat % 65536) ((xs ((5 * t) + 4)).toBitVec.toNat % 65536)).1 ≤ 3 := le_plant
  refine V_istore dL_law_607 (Nat.le_of_ble_eq_true rfl) rfl rfl ?_
  refine V_aload_n (i := 2) dL_law_609 rfl rfl ?_
  refine V_aload_n (i := 0) dL_law_610 rfl rfl ?_
  refine V_iload dL_law_611 rfl ?_
  refine V_iconst_n (v := 1) dL_law_613 (by decide) ?_
  refine V_iadd_n dL_law_614 ?_
  refine V_sld (i := ((5 * t) + 1)) dL_law_615 (by omega) (by omega) ?_
  refine V_aload_n (i := 0) dL_law_616 rfl rfl ?_
  refine V_iload dL_law_617 rfl ?_
  refine V_iconst_n (v := 2) dL_law_619 (by decide) ?_
  refine V_iadd_n dL_law_620 ?_
  refine V_sld (i := ((5 * t) + 2)) dL_law_621 (by omega) (by omega) ?_
  refine V_aload_n (i := 0) dL_law_622 rfl rfl ?_
  refine V_iload dL_law_623 rfl ?_
  refine V_iconst_n (v := 3) dL_law_625 (by decide) ?_
  refine V_iadd_n dL_law_626 ?_
  refine V_sld (i := ((5 * t) + 3)) dL_law_627 (by omega) (by omega) ?_
  refine V_i2c dL_law_628 ?_
  have hm628 : (xs ((5 * t) + 3)).toBitVec.toNat % 65536 < 65536 := Nat.mod_lt _ (by decide)
  refine V_aload_n (i := 0) dL_law_629 rfl rfl ?_
  refine V_iload dL_law_630 rfl ?_
  refine V_iconst_n (v := 4) dL_law_632 (by decide) ?_
  refine V_iadd_n dL_law_633 ?_
  refine V_sld (i := ((5 * t) + 4)) dL_law_634 (by omega) (by omega) ?_
  refine V_i2c dL_law_635 ?_
  have hm635 : (xs ((5 * t) + 4)).toBitVec.toNat % 65536 < 65536 := Nat.mod_lt _ (by decide)
  refine V_callV dL_law_636 (m_plant hM1 (zI_of _) (zI_of _) (zb1 _) (zb2 _) (zb1 _) (zb2 _) (Nat.mod_lt _ (by decide)) (Nat.mod_lt _ (by decide))) okX11_plant lkRL_176 (Or.inr ⟨rfl, Nat.le_of_ble_eq_true rfl⟩) rfl rfl rfl rfl (Nat.le_of_ble_eq_true rfl) ⟨Nat.le_of_ble_eq_true rfl, Nat.le_of_ble_eq_true rfl⟩ rfl ⟨Nat.zero_le _, Nat.zero_le _⟩ (fun v9 u2 hu2 => ?_) (fun E9 w9 h9 => by obtain ⟨⟨x9, h9, _⟩, _⟩ := h9; cases h9)
  obtain ⟨⟨x2, e9, hx2⟩, hM2, ht2, hF2⟩ := hu2
  cases e9
  have hC2 := hC1.keepF hF2 (fun b hb q => by omega)
  refine V_istore dL_law_639 (Nat.le_of_ble_eq_true rfl) rfl rfl ?_
  refine V_aload_n (i := 2) dL_law_641 rfl rfl ?_
  refine V_callVF dL_law_642 (m_thrown (n := (fPlant S (xs ((5 * t) + 1)).toInt (xs ((5 * t) + 2)).toInt ((xs ((5 * t) + 3)).toBitVec.toNat % 65536) ((xs ((5 * t) + 4)).toBitVec.toNat % 65536)).1) ht2) okX11_thrown lkRL_160 (Or.inr ⟨rfl, Nat.le_of_ble_eq_true rfl⟩) rfl rfl rfl rfl (Nat.le_of_ble_eq_true rfl) ⟨Nat.le_of_ble_eq_true rfl, Nat.le_of_ble_eq_true rfl⟩ rfl ?_
  refine V_iload dL_law_645 rfl ?_
  refine V_icmp_eq_n (tgt := 652) dL_law_647 (by decide) (by omega) (by omega) (fun h647 => ?_) (fun h647 => by exfalso; omega)
  refine V_iload dL_law_652 rfl ?_
  refine V_if_ne_n (tgt := 669) dL_law_654 (by decide) (by omega) (fun h654 => ?_) (fun h654 => ?_)
  · refine V_goto (tgt := 2878) dL_law_669 (by decide) ?_
    exact (V_w (by omega) (by omega) (hb _ _ hC2 hM2)).sub (by repeat' (first | exact trivial | exact rfl | constructor))
  · refine V_aload_n (i := 3) dL_law_657 rfl rfl ?_
    refine V_iconst_n (v := 0) dL_law_658 (by decide) ?_
    refine V_lald dL_law_659 (Or.inr ⟨rfl, Nat.le_of_ble_eq_true rfl⟩) rfl (in_n (by omega) (by decide)) ?_
    refine V_topL (y := (fPlant S (xs ((5 * t) + 1)).toInt (xs ((5 * t) + 2)).toInt ((xs ((5 * t) + 3)).toBitVec.toNat % 65536) ((xs ((5 * t) + 4)).toBitVec.toNat % 65536)).2.1.toInt64) (gl0 hF2 (by omega) (hv h654)) ?_
    refine V_iload dL_law_660 rfl ?_
    refine V_top (y := (fPlant S (xs ((5 * t) + 1)).toInt (xs ((5 * t) + 2)).toInt ((xs ((5 * t) + 3)).toBitVec.toNat % 65536) ((xs ((5 * t) + 4)).toBitVec.toNat % 65536)).2.1) (hx2 h654) ?_
    refine V_i2l dL_law_662 ?_
    refine V_lcmp dL_law_663 ?_
    refine V_top (y := nI 0) (cmp_self _) ?_
    refine V_if_eq_n (tgt := 669) dL_law_664 (by decide) (by omega) (fun h664 => ?_) (fun h664 => by exfalso; omega)
    refine V_goto (tgt := 2878) dL_law_669 (by decide) ?_
    exact (V_w (by omega) (by omega) (hb _ _ hC2 hM2)).sub (by repeat' (first | exact trivial | exact rfl | constructor))
set_option maxRecDepth 100000 in
set_option maxHeartbeats 1000000 in
theorem law_c5 {b n t kc ks : Nat} {xs : Nat → Int32} {S : Sys} {w : Wd} (hC : CI w S) (hM : MI w S) (ht : 5 * t + 5 ≤ n) (hn : n ≤ 2560) (hk : 4 ≤ kc) (hs : 24 ≤ ks) (hb : LBack b n xs t (kc - 4) (ks - 24)) : LV b n xs kc ks 672 [some (.ref 1999), some (.ref 0), some (.ref 47), some (.ref 65), some (.ref 66), some (.int (nI (5 * t))), none, none, none] [] w := by
  refine V_aload_n (i := 1) dL_law_672 rfl rfl ?_
  refine V_aload_n (i := 0) dL_law_673 rfl rfl ?_
  refine V_iload dL_law_674 rfl ?_
  refine V_iconst_n (v := 1) dL_law_676 (by decide) ?_
  refine V_iadd_n dL_law_677 ?_
  refine V_sld (i := ((5 * t) + 1)) dL_law_678 (by omega) (by omega) ?_
  refine V_i2c dL_law_679 ?_
  have hm679 : (xs ((5 * t) + 1)).toBitVec.toNat % 65536 < 65536 := Nat.mod_lt _ (by decide)
  refine V_aload_n (i := 3) dL_law_680 rfl rfl ?_
  refine V_callSH dL_law_681 (l_setRule hC (Nat.mod_lt _ (by decide))) okL_setRule lkRL_177 rfl rfl (Nat.le_of_ble_eq_true rfl) ⟨Nat.le_of_ble_eq_true rfl, Nat.le_of_ble_eq_true rfl⟩ rfl ⟨by omega, by omega⟩ (fun v9 u1 hu1 => ?_) (fun E9 u1 hu1 => by obtain ⟨h9, _⟩ := hu1; cases h9)
  obtain ⟨e9, hv, hC1, hF1⟩ := hu1
  cases e9
  have hM1 := hM.keepF hF1 (fun b h1 h2 q => by omega)
  have hle : (fSetRule S ((xs ((5 * t) + 1)).toBitVec.toNat % 65536)).1 ≤ 2 := le_setRule
  refine V_istore dL_law_684 (Nat.le_of_ble_eq_true rfl) rfl rfl ?_
  refine V_aload_n (i := 2) dL_law_686 rfl rfl ?_
  refine V_aload_n (i := 0) dL_law_687 rfl rfl ?_
  refine V_iload dL_law_688 rfl ?_
  refine V_iconst_n (v := 1) dL_law_690 (by decide) ?_
  refine V_iadd_n dL_law_691 ?_
  refine V_sld (i := ((5 * t) + 1)) dL_law_692 (by omega) (by omega) ?_
  refine V_i2c dL_law_693 ?_
  have hm693 : (xs ((5 * t) + 1)).toBitVec.toNat % 65536 < 65536 := Nat.mod_lt _ (by decide)
  refine V_callV dL_law_694 (m_setRule hM1 (Nat.mod_lt _ (by decide))) okX11_setRule lkRL_180 (Or.inr ⟨rfl, Nat.le_of_ble_eq_true rfl⟩) rfl rfl rfl rfl (Nat.le_of_ble_eq_true rfl) ⟨Nat.le_of_ble_eq_true rfl, Nat.le_of_ble_eq_true rfl⟩ rfl ⟨Nat.zero_le _, Nat.zero_le _⟩ (fun v9 u2 hu2 => ?_) (fun E9 w9 h9 => by obtain ⟨⟨x9, h9, _⟩, _⟩ := h9; cases h9)
  obtain ⟨⟨x2, e9, hx2⟩, hM2, ht2, hF2⟩ := hu2
  cases e9
  have hC2 := hC1.keepF hF2 (fun b hb q => by omega)
  refine V_istore dL_law_697 (Nat.le_of_ble_eq_true rfl) rfl rfl ?_
  refine V_aload_n (i := 2) dL_law_699 rfl rfl ?_
  refine V_callVF dL_law_700 (m_thrown (n := (fSetRule S ((xs ((5 * t) + 1)).toBitVec.toNat % 65536)).1) ht2) okX11_thrown lkRL_160 (Or.inr ⟨rfl, Nat.le_of_ble_eq_true rfl⟩) rfl rfl rfl rfl (Nat.le_of_ble_eq_true rfl) ⟨Nat.le_of_ble_eq_true rfl, Nat.le_of_ble_eq_true rfl⟩ rfl ?_
  refine V_iload dL_law_703 rfl ?_
  refine V_icmp_eq_n (tgt := 710) dL_law_705 (by decide) (by omega) (by omega) (fun h705 => ?_) (fun h705 => by exfalso; omega)
  refine V_iload dL_law_710 rfl ?_
  refine V_if_ne_n (tgt := 727) dL_law_712 (by decide) (by omega) (fun h712 => ?_) (fun h712 => ?_)
  · refine V_goto (tgt := 2878) dL_law_727 (by decide) ?_
    exact (V_w (by omega) (by omega) (hb _ _ hC2 hM2)).sub (by repeat' (first | exact trivial | exact rfl | constructor))
  · refine V_aload_n (i := 3) dL_law_715 rfl rfl ?_
    refine V_iconst_n (v := 0) dL_law_716 (by decide) ?_
    refine V_lald dL_law_717 (Or.inr ⟨rfl, Nat.le_of_ble_eq_true rfl⟩) rfl (in_n (by omega) (by decide)) ?_
    refine V_topL (y := (fSetRule S ((xs ((5 * t) + 1)).toBitVec.toNat % 65536)).2.1.toInt64) (gl0 hF2 (by omega) (hv h712)) ?_
    refine V_iload dL_law_718 rfl ?_
    refine V_top (y := (fSetRule S ((xs ((5 * t) + 1)).toBitVec.toNat % 65536)).2.1) (hx2 h712) ?_
    refine V_i2l dL_law_720 ?_
    refine V_lcmp dL_law_721 ?_
    refine V_top (y := nI 0) (cmp_self _) ?_
    refine V_if_eq_n (tgt := 727) dL_law_722 (by decide) (by omega) (fun h722 => ?_) (fun h722 => by exfalso; omega)
    refine V_goto (tgt := 2878) dL_law_727 (by decide) ?_
    exact (V_w (by omega) (by omega) (hb _ _ hC2 hM2)).sub (by repeat' (first | exact trivial | exact rfl | constructor))
set_option maxRecDepth 100000 in
set_option maxHeartbeats 1000000 in
theorem law_c6 {b n t kc ks : Nat} {xs : Nat → Int32} {S : Sys} {w : Wd} (hC : CI w S) (hM : MI w S) (ht : 5 * t + 5 ≤ n) (hn : n ≤ 2560) (hk : 4 ≤ kc) (hs : 24 ≤ ks) (hb : LBack b n xs t (kc - 4) (ks - 24)) : LV b n xs kc ks 730 [some (.ref 1999), some (.ref 0), some (.ref 47), some (.ref 65), some (.ref 66), some (.int (nI (5 * t))), none, none, none] [] w := by
  refine V_aload_n (i := 1) dL_law_730 rfl rfl ?_
  refine V_aload_n (i := 0) dL_law_731 rfl rfl ?_
  refine V_iload dL_law_732 rfl ?_
  refine V_iconst_n (v := 1) dL_law_734 (by decide) ?_
  refine V_iadd_n dL_law_735 ?_
  refine V_sld (i := ((5 * t) + 1)) dL_law_736 (by omega) (by omega) ?_
  refine V_aload_n (i := 0) dL_law_737 rfl rfl ?_
  refine V_iload dL_law_738 rfl ?_
  refine V_iconst_n (v := 2) dL_law_740 (by decide) ?_
  refine V_iadd_n dL_law_741 ?_
  refine V_sld (i := ((5 * t) + 2)) dL_law_742 (by omega) (by omega) ?_
  refine V_aload_n (i := 3) dL_law_743 rfl rfl ?_
  refine V_callSH dL_law_744 (l_isEmpty hC (zI_of _) (zI_of _) (zb1 _) (zb2 _) (zb1 _) (zb2 _)) okL_isEmpty lkRL_181 rfl rfl (Nat.le_of_ble_eq_true rfl) ⟨Nat.le_of_ble_eq_true rfl, Nat.le_of_ble_eq_true rfl⟩ rfl ⟨by omega, by omega⟩ (fun v9 u1 hu1 => ?_) (fun E9 u1 hu1 => by obtain ⟨h9, _⟩ := hu1; cases h9)
  obtain ⟨e9, hv, hC1, hF1⟩ := hu1
  cases e9
  have hM1 := hM.keepF hF1 (fun b h1 h2 q => by omega)
  have hle : (fIsEmpty S (xs ((5 * t) + 1)).toInt (xs ((5 * t) + 2)).toInt).1 ≤ 1 := le_isEmpty
  refine V_istore dL_law_747 (Nat.le_of_ble_eq_true rfl) rfl rfl ?_
  refine V_aload_n (i := 2) dL_law_749 rfl rfl ?_
  refine V_aload_n (i := 0) dL_law_750 rfl rfl ?_
  refine V_iload dL_law_751 rfl ?_
  refine V_iconst_n (v := 1) dL_law_753 (by decide) ?_
  refine V_iadd_n dL_law_754 ?_
  refine V_sld (i := ((5 * t) + 1)) dL_law_755 (by omega) (by omega) ?_
  refine V_aload_n (i := 0) dL_law_756 rfl rfl ?_
  refine V_iload dL_law_757 rfl ?_
  refine V_iconst_n (v := 2) dL_law_759 (by decide) ?_
  refine V_iadd_n dL_law_760 ?_
  refine V_sld (i := ((5 * t) + 2)) dL_law_761 (by omega) (by omega) ?_
  refine V_callV dL_law_762 (m_isEmpty hM1 (zI_of _) (zI_of _) (zb1 _) (zb2 _) (zb1 _) (zb2 _)) okX11_isEmpty lkRL_183 (Or.inr ⟨rfl, Nat.le_of_ble_eq_true rfl⟩) rfl rfl rfl rfl (Nat.le_of_ble_eq_true rfl) ⟨Nat.le_of_ble_eq_true rfl, Nat.le_of_ble_eq_true rfl⟩ rfl ⟨Nat.zero_le _, Nat.zero_le _⟩ (fun v9 u2 hu2 => ?_) (fun E9 w9 h9 => by obtain ⟨⟨x9, h9, _⟩, _⟩ := h9; cases h9)
  obtain ⟨⟨x2, e9, hx2⟩, hM2, ht2, hF2⟩ := hu2
  cases e9
  have hC2 := hC1.keepF hF2 (fun b hb q => by omega)
  refine V_istore dL_law_765 (Nat.le_of_ble_eq_true rfl) rfl rfl ?_
  refine V_aload_n (i := 2) dL_law_767 rfl rfl ?_
  refine V_callVF dL_law_768 (m_thrown (n := (fIsEmpty S (xs ((5 * t) + 1)).toInt (xs ((5 * t) + 2)).toInt).1) ht2) okX11_thrown lkRL_160 (Or.inr ⟨rfl, Nat.le_of_ble_eq_true rfl⟩) rfl rfl rfl rfl (Nat.le_of_ble_eq_true rfl) ⟨Nat.le_of_ble_eq_true rfl, Nat.le_of_ble_eq_true rfl⟩ rfl ?_
  refine V_iload dL_law_771 rfl ?_
  refine V_icmp_eq_n (tgt := 778) dL_law_773 (by decide) (by omega) (by omega) (fun h773 => ?_) (fun h773 => by exfalso; omega)
  refine V_iload dL_law_778 rfl ?_
  refine V_if_ne_n (tgt := 802) dL_law_780 (by decide) (by omega) (fun h780 => ?_) (fun h780 => ?_)
  · refine V_goto (tgt := 2878) dL_law_802 (by decide) ?_
    exact (V_w (by omega) (by omega) (hb _ _ hC2 hM2)).sub (by repeat' (first | exact trivial | exact rfl | constructor))
  · refine V_aload_n (i := 3) dL_law_783 rfl rfl ?_
    refine V_iconst_n (v := 0) dL_law_784 (by decide) ?_
    refine V_lald dL_law_785 (Or.inr ⟨rfl, Nat.le_of_ble_eq_true rfl⟩) rfl (in_n (by omega) (by decide)) ?_
    refine V_topL (y := (if (fIsEmpty S (xs ((5 * t) + 1)).toInt (xs ((5 * t) + 2)).toInt).2.1 = 0 then 0 else 1)) (gl0 hF2 (by omega) (hv h780)) ?_
    refine V_iload dL_law_786 rfl ?_
    refine V_top (y := (fIsEmpty S (xs ((5 * t) + 1)).toInt (xs ((5 * t) + 2)).toInt).2.1) (hx2 h780) ?_
    refine V_if_eq (tgt := 795) dL_law_788 (by decide) (fun h788 => ?_) (fun h788 => ?_)
    · have hz9 : (fIsEmpty S (xs ((5 * t) + 1)).toInt (xs ((5 * t) + 2)).toInt).2.1 = 0 := h788
      refine V_lconst (v := 0) dL_law_795 rfl ?_
      refine V_lcmp dL_law_796 ?_
      refine V_top (y := nI 0) (by rw [if_pos hz9]; exact cmp_self _) ?_
      refine V_if_eq_n (tgt := 802) dL_law_797 (by decide) (by omega) (fun h797 => ?_) (fun h797 => by exfalso; omega)
      refine V_goto (tgt := 2878) dL_law_802 (by decide) ?_
      exact (V_w (by omega) (by omega) (hb _ _ hC2 hM2)).sub (by repeat' (first | exact trivial | exact rfl | constructor))
    · have hz9 : ¬ (fIsEmpty S (xs ((5 * t) + 1)).toInt (xs ((5 * t) + 2)).toInt).2.1 = 0 := h788
      refine V_lconst (v := 1) dL_law_791 rfl ?_
      refine V_goto (tgt := 796) dL_law_792 (by decide) ?_
      refine V_lcmp dL_law_796 ?_
      refine V_top (y := nI 0) (by rw [if_neg hz9]; exact cmp_self _) ?_
      refine V_if_eq_n (tgt := 802) dL_law_797 (by decide) (by omega) (fun h797 => ?_) (fun h797 => by exfalso; omega)
      refine V_goto (tgt := 2878) dL_law_802 (by decide) ?_
      exact (V_w (by omega) (by omega) (hb _ _ hC2 hM2)).sub (by repeat' (first | exact trivial | exact rfl | constructor))
set_option maxRecDepth 100000 in
set_option maxHeartbeats 1000000 in
theorem law_c7 {b n t kc ks : Nat} {xs : Nat → Int32} {S : Sys} {w : Wd} (hC : CI w S) (hM : MI w S) (ht : 5 * t + 5 ≤ n) (hn : n ≤ 2560) (hk : 4 ≤ kc) (hs : 24 ≤ ks) (hb : LBack b n xs t (kc - 4) (ks - 24)) : LV b n xs kc ks 805 [some (.ref 1999), some (.ref 0), some (.ref 47), some (.ref 65), some (.ref 66), some (.int (nI (5 * t))), none, none, none] [] w := by
  refine V_aload_n (i := 1) dL_law_805 rfl rfl ?_
  refine V_aload_n (i := 0) dL_law_806 rfl rfl ?_
  refine V_iload dL_law_807 rfl ?_
  refine V_iconst_n (v := 1) dL_law_809 (by decide) ?_
  refine V_iadd_n dL_law_810 ?_
  refine V_sld (i := ((5 * t) + 1)) dL_law_811 (by omega) (by omega) ?_
  refine V_aload_n (i := 0) dL_law_812 rfl rfl ?_
  refine V_iload dL_law_813 rfl ?_
  refine V_iconst_n (v := 2) dL_law_815 (by decide) ?_
  refine V_iadd_n dL_law_816 ?_
  refine V_sld (i := ((5 * t) + 2)) dL_law_817 (by omega) (by omega) ?_
  refine V_aload_n (i := 3) dL_law_818 rfl rfl ?_
  refine V_callSH dL_law_819 (l_isLiving hC (zI_of _) (zI_of _) (zb1 _) (zb2 _) (zb1 _) (zb2 _)) okL_isLiving lkRL_184 rfl rfl (Nat.le_of_ble_eq_true rfl) ⟨Nat.le_of_ble_eq_true rfl, Nat.le_of_ble_eq_true rfl⟩ rfl ⟨by omega, by omega⟩ (fun v9 u1 hu1 => ?_) (fun E9 u1 hu1 => by obtain ⟨h9, _⟩ := hu1; cases h9)
  obtain ⟨e9, hv, hC1, hF1⟩ := hu1
  cases e9
  have hM1 := hM.keepF hF1 (fun b h1 h2 q => by omega)
  have hle : (fIsLiving S (xs ((5 * t) + 1)).toInt (xs ((5 * t) + 2)).toInt).1 ≤ 1 := le_isLiving
  refine V_istore dL_law_822 (Nat.le_of_ble_eq_true rfl) rfl rfl ?_
  refine V_aload_n (i := 2) dL_law_824 rfl rfl ?_
  refine V_aload_n (i := 0) dL_law_825 rfl rfl ?_
  refine V_iload dL_law_826 rfl ?_
  refine V_iconst_n (v := 1) dL_law_828 (by decide) ?_
  refine V_iadd_n dL_law_829 ?_
  refine V_sld (i := ((5 * t) + 1)) dL_law_830 (by omega) (by omega) ?_
  refine V_aload_n (i := 0) dL_law_831 rfl rfl ?_
  refine V_iload dL_law_832 rfl ?_
  refine V_iconst_n (v := 2) dL_law_834 (by decide) ?_
  refine V_iadd_n dL_law_835 ?_
  refine V_sld (i := ((5 * t) + 2)) dL_law_836 (by omega) (by omega) ?_
  refine V_callV dL_law_837 (m_isLiving hM1 (zI_of _) (zI_of _) (zb1 _) (zb2 _) (zb1 _) (zb2 _)) okX11_isLiving lkRL_186 (Or.inr ⟨rfl, Nat.le_of_ble_eq_true rfl⟩) rfl rfl rfl rfl (Nat.le_of_ble_eq_true rfl) ⟨Nat.le_of_ble_eq_true rfl, Nat.le_of_ble_eq_true rfl⟩ rfl ⟨Nat.zero_le _, Nat.zero_le _⟩ (fun v9 u2 hu2 => ?_) (fun E9 w9 h9 => by obtain ⟨⟨x9, h9, _⟩, _⟩ := h9; cases h9)
  obtain ⟨⟨x2, e9, hx2⟩, hM2, ht2, hF2⟩ := hu2
  cases e9
  have hC2 := hC1.keepF hF2 (fun b hb q => by omega)
  refine V_istore dL_law_840 (Nat.le_of_ble_eq_true rfl) rfl rfl ?_
  refine V_aload_n (i := 2) dL_law_842 rfl rfl ?_
  refine V_callVF dL_law_843 (m_thrown (n := (fIsLiving S (xs ((5 * t) + 1)).toInt (xs ((5 * t) + 2)).toInt).1) ht2) okX11_thrown lkRL_160 (Or.inr ⟨rfl, Nat.le_of_ble_eq_true rfl⟩) rfl rfl rfl rfl (Nat.le_of_ble_eq_true rfl) ⟨Nat.le_of_ble_eq_true rfl, Nat.le_of_ble_eq_true rfl⟩ rfl ?_
  refine V_iload dL_law_846 rfl ?_
  refine V_icmp_eq_n (tgt := 853) dL_law_848 (by decide) (by omega) (by omega) (fun h848 => ?_) (fun h848 => by exfalso; omega)
  refine V_iload dL_law_853 rfl ?_
  refine V_if_ne_n (tgt := 877) dL_law_855 (by decide) (by omega) (fun h855 => ?_) (fun h855 => ?_)
  · refine V_goto (tgt := 2878) dL_law_877 (by decide) ?_
    exact (V_w (by omega) (by omega) (hb _ _ hC2 hM2)).sub (by repeat' (first | exact trivial | exact rfl | constructor))
  · refine V_aload_n (i := 3) dL_law_858 rfl rfl ?_
    refine V_iconst_n (v := 0) dL_law_859 (by decide) ?_
    refine V_lald dL_law_860 (Or.inr ⟨rfl, Nat.le_of_ble_eq_true rfl⟩) rfl (in_n (by omega) (by decide)) ?_
    refine V_topL (y := (if (fIsLiving S (xs ((5 * t) + 1)).toInt (xs ((5 * t) + 2)).toInt).2.1 = 0 then 0 else 1)) (gl0 hF2 (by omega) (hv h855)) ?_
    refine V_iload dL_law_861 rfl ?_
    refine V_top (y := (fIsLiving S (xs ((5 * t) + 1)).toInt (xs ((5 * t) + 2)).toInt).2.1) (hx2 h855) ?_
    refine V_if_eq (tgt := 870) dL_law_863 (by decide) (fun h863 => ?_) (fun h863 => ?_)
    · have hz9 : (fIsLiving S (xs ((5 * t) + 1)).toInt (xs ((5 * t) + 2)).toInt).2.1 = 0 := h863
      refine V_lconst (v := 0) dL_law_870 rfl ?_
      refine V_lcmp dL_law_871 ?_
      refine V_top (y := nI 0) (by rw [if_pos hz9]; exact cmp_self _) ?_
      refine V_if_eq_n (tgt := 877) dL_law_872 (by decide) (by omega) (fun h872 => ?_) (fun h872 => by exfalso; omega)
      refine V_goto (tgt := 2878) dL_law_877 (by decide) ?_
      exact (V_w (by omega) (by omega) (hb _ _ hC2 hM2)).sub (by repeat' (first | exact trivial | exact rfl | constructor))
    · have hz9 : ¬ (fIsLiving S (xs ((5 * t) + 1)).toInt (xs ((5 * t) + 2)).toInt).2.1 = 0 := h863
      refine V_lconst (v := 1) dL_law_866 rfl ?_
      refine V_goto (tgt := 871) dL_law_867 (by decide) ?_
      refine V_lcmp dL_law_871 ?_
      refine V_top (y := nI 0) (by rw [if_neg hz9]; exact cmp_self _) ?_
      refine V_if_eq_n (tgt := 877) dL_law_872 (by decide) (by omega) (fun h872 => ?_) (fun h872 => by exfalso; omega)
      refine V_goto (tgt := 2878) dL_law_877 (by decide) ?_
      exact (V_w (by omega) (by omega) (hb _ _ hC2 hM2)).sub (by repeat' (first | exact trivial | exact rfl | constructor))
set_option maxRecDepth 100000 in
set_option maxHeartbeats 1000000 in
theorem law_c8 {b n t kc ks : Nat} {xs : Nat → Int32} {S : Sys} {w : Wd} (hC : CI w S) (hM : MI w S) (ht : 5 * t + 5 ≤ n) (hn : n ≤ 2560) (hk : 4 ≤ kc) (hs : 24 ≤ ks) (hb : LBack b n xs t (kc - 4) (ks - 24)) : LV b n xs kc ks 880 [some (.ref 1999), some (.ref 0), some (.ref 47), some (.ref 65), some (.ref 66), some (.int (nI (5 * t))), none, none, none] [] w := by
  refine V_aload_n (i := 1) dL_law_880 rfl rfl ?_
  refine V_aload_n (i := 0) dL_law_881 rfl rfl ?_
  refine V_iload dL_law_882 rfl ?_
  refine V_iconst_n (v := 1) dL_law_884 (by decide) ?_
  refine V_iadd_n dL_law_885 ?_
  refine V_sld (i := ((5 * t) + 1)) dL_law_886 (by omega) (by omega) ?_
  refine V_aload_n (i := 0) dL_law_887 rfl rfl ?_
  refine V_iload dL_law_888 rfl ?_
  refine V_iconst_n (v := 2) dL_law_890 (by decide) ?_
  refine V_iadd_n dL_law_891 ?_
  refine V_sld (i := ((5 * t) + 2)) dL_law_892 (by omega) (by omega) ?_
  refine V_aload_n (i := 3) dL_law_893 rfl rfl ?_
  refine V_callSH dL_law_894 (l_isBleached hC (zI_of _) (zI_of _) (zb1 _) (zb2 _) (zb1 _) (zb2 _)) okL_isBleached lkRL_187 rfl rfl (Nat.le_of_ble_eq_true rfl) ⟨Nat.le_of_ble_eq_true rfl, Nat.le_of_ble_eq_true rfl⟩ rfl ⟨by omega, by omega⟩ (fun v9 u1 hu1 => ?_) (fun E9 u1 hu1 => by obtain ⟨h9, _⟩ := hu1; cases h9)
  obtain ⟨e9, hv, hC1, hF1⟩ := hu1
  cases e9
  have hM1 := hM.keepF hF1 (fun b h1 h2 q => by omega)
  have hle : (fIsBleached S (xs ((5 * t) + 1)).toInt (xs ((5 * t) + 2)).toInt).1 ≤ 1 := le_isBleached
  refine V_istore dL_law_897 (Nat.le_of_ble_eq_true rfl) rfl rfl ?_
  refine V_aload_n (i := 2) dL_law_899 rfl rfl ?_
  refine V_aload_n (i := 0) dL_law_900 rfl rfl ?_
  refine V_iload dL_law_901 rfl ?_
  refine V_iconst_n (v := 1) dL_law_903 (by decide) ?_
  refine V_iadd_n dL_law_904 ?_
  refine V_sld (i := ((5 * t) + 1)) dL_law_905 (by omega) (by omega) ?_
  refine V_aload_n (i := 0) dL_law_906 rfl rfl ?_
  refine V_iload dL_law_907 rfl ?_
  refine V_iconst_n (v := 2) dL_law_909 (by decide) ?_
  refine V_iadd_n dL_law_910 ?_
  refine V_sld (i := ((5 * t) + 2)) dL_law_911 (by omega) (by omega) ?_
  refine V_callV dL_law_912 (m_isBleached hM1 (zI_of _) (zI_of _) (zb1 _) (zb2 _) (zb1 _) (zb2 _)) okX11_isBleached lkRL_189 (Or.inr ⟨rfl, Nat.le_of_ble_eq_true rfl⟩) rfl rfl rfl rfl (Nat.le_of_ble_eq_true rfl) ⟨Nat.le_of_ble_eq_true rfl, Nat.le_of_ble_eq_true rfl⟩ rfl ⟨Nat.zero_le _, Nat.zero_le _⟩ (fun v9 u2 hu2 => ?_) (fun E9 w9 h9 => by obtain ⟨⟨x9, h9, _⟩, _⟩ := h9; cases h9)
  obtain ⟨⟨x2, e9, hx2⟩, hM2, ht2, hF2⟩ := hu2
  cases e9
  have hC2 := hC1.keepF hF2 (fun b hb q => by omega)
  refine V_istore dL_law_915 (Nat.le_of_ble_eq_true rfl) rfl rfl ?_
  refine V_aload_n (i := 2) dL_law_917 rfl rfl ?_
  refine V_callVF dL_law_918 (m_thrown (n := (fIsBleached S (xs ((5 * t) + 1)).toInt (xs ((5 * t) + 2)).toInt).1) ht2) okX11_thrown lkRL_160 (Or.inr ⟨rfl, Nat.le_of_ble_eq_true rfl⟩) rfl rfl rfl rfl (Nat.le_of_ble_eq_true rfl) ⟨Nat.le_of_ble_eq_true rfl, Nat.le_of_ble_eq_true rfl⟩ rfl ?_
  refine V_iload dL_law_921 rfl ?_
  refine V_icmp_eq_n (tgt := 928) dL_law_923 (by decide) (by omega) (by omega) (fun h923 => ?_) (fun h923 => by exfalso; omega)
  refine V_iload dL_law_928 rfl ?_
  refine V_if_ne_n (tgt := 952) dL_law_930 (by decide) (by omega) (fun h930 => ?_) (fun h930 => ?_)
  · refine V_goto (tgt := 2878) dL_law_952 (by decide) ?_
    exact (V_w (by omega) (by omega) (hb _ _ hC2 hM2)).sub (by repeat' (first | exact trivial | exact rfl | constructor))
  · refine V_aload_n (i := 3) dL_law_933 rfl rfl ?_
    refine V_iconst_n (v := 0) dL_law_934 (by decide) ?_
    refine V_lald dL_law_935 (Or.inr ⟨rfl, Nat.le_of_ble_eq_true rfl⟩) rfl (in_n (by omega) (by decide)) ?_
    refine V_topL (y := (if (fIsBleached S (xs ((5 * t) + 1)).toInt (xs ((5 * t) + 2)).toInt).2.1 = 0 then 0 else 1)) (gl0 hF2 (by omega) (hv h930)) ?_
    refine V_iload dL_law_936 rfl ?_
    refine V_top (y := (fIsBleached S (xs ((5 * t) + 1)).toInt (xs ((5 * t) + 2)).toInt).2.1) (hx2 h930) ?_
    refine V_if_eq (tgt := 945) dL_law_938 (by decide) (fun h938 => ?_) (fun h938 => ?_)
    · have hz9 : (fIsBleached S (xs ((5 * t) + 1)).toInt (xs ((5 * t) + 2)).toInt).2.1 = 0 := h938
      refine V_lconst (v := 0) dL_law_945 rfl ?_
      refine V_lcmp dL_law_946 ?_
      refine V_top (y := nI 0) (by rw [if_pos hz9]; exact cmp_self _) ?_
      refine V_if_eq_n (tgt := 952) dL_law_947 (by decide) (by omega) (fun h947 => ?_) (fun h947 => by exfalso; omega)
      refine V_goto (tgt := 2878) dL_law_952 (by decide) ?_
      exact (V_w (by omega) (by omega) (hb _ _ hC2 hM2)).sub (by repeat' (first | exact trivial | exact rfl | constructor))
    · have hz9 : ¬ (fIsBleached S (xs ((5 * t) + 1)).toInt (xs ((5 * t) + 2)).toInt).2.1 = 0 := h938
      refine V_lconst (v := 1) dL_law_941 rfl ?_
      refine V_goto (tgt := 946) dL_law_942 (by decide) ?_
      refine V_lcmp dL_law_946 ?_
      refine V_top (y := nI 0) (by rw [if_neg hz9]; exact cmp_self _) ?_
      refine V_if_eq_n (tgt := 952) dL_law_947 (by decide) (by omega) (fun h947 => ?_) (fun h947 => by exfalso; omega)
      refine V_goto (tgt := 2878) dL_law_952 (by decide) ?_
      exact (V_w (by omega) (by omega) (hb _ _ hC2 hM2)).sub (by repeat' (first | exact trivial | exact rfl | constructor))
set_option maxRecDepth 100000 in
set_option maxHeartbeats 1000000 in
theorem law_c9 {b n t kc ks : Nat} {xs : Nat → Int32} {S : Sys} {w : Wd} (hC : CI w S) (hM : MI w S) (ht : 5 * t + 5 ≤ n) (hn : n ≤ 2560) (hk : 4 ≤ kc) (hs : 24 ≤ ks) (hb : LBack b n xs t (kc - 4) (ks - 24)) : LV b n xs kc ks 955 [some (.ref 1999), some (.ref 0), some (.ref 47), some (.ref 65), some (.ref 66), some (.int (nI (5 * t))), none, none, none] [] w := by
  refine V_aload_n (i := 1) dL_law_955 rfl rfl ?_
  refine V_aload_n (i := 0) dL_law_956 rfl rfl ?_
  refine V_iload dL_law_957 rfl ?_
  refine V_iconst_n (v := 1) dL_law_959 (by decide) ?_
  refine V_iadd_n dL_law_960 ?_
  refine V_sld (i := ((5 * t) + 1)) dL_law_961 (by omega) (by omega) ?_
  refine V_aload_n (i := 0) dL_law_962 rfl rfl ?_
  refine V_iload dL_law_963 rfl ?_
  refine V_iconst_n (v := 2) dL_law_965 (by decide) ?_
  refine V_iadd_n dL_law_966 ?_
  refine V_sld (i := ((5 * t) + 2)) dL_law_967 (by omega) (by omega) ?_
  refine V_aload_n (i := 3) dL_law_968 rfl rfl ?_
  refine V_callSH dL_law_969 (l_colourAt hC (zI_of _) (zI_of _) (zb1 _) (zb2 _) (zb1 _) (zb2 _)) okL_colourAt lkRL_190 rfl rfl (Nat.le_of_ble_eq_true rfl) ⟨Nat.le_of_ble_eq_true rfl, Nat.le_of_ble_eq_true rfl⟩ rfl ⟨by omega, by omega⟩ (fun v9 u1 hu1 => ?_) (fun E9 u1 hu1 => by obtain ⟨h9, _⟩ := hu1; cases h9)
  obtain ⟨e9, hv, hC1, hF1⟩ := hu1
  cases e9
  have hM1 := hM.keepF hF1 (fun b h1 h2 q => by omega)
  have hle : (fColourAt S (xs ((5 * t) + 1)).toInt (xs ((5 * t) + 2)).toInt).1 ≤ 2 := le_colourAt
  refine V_istore dL_law_972 (Nat.le_of_ble_eq_true rfl) rfl rfl ?_
  refine V_aload_n (i := 2) dL_law_974 rfl rfl ?_
  refine V_aload_n (i := 0) dL_law_975 rfl rfl ?_
  refine V_iload dL_law_976 rfl ?_
  refine V_iconst_n (v := 1) dL_law_978 (by decide) ?_
  refine V_iadd_n dL_law_979 ?_
  refine V_sld (i := ((5 * t) + 1)) dL_law_980 (by omega) (by omega) ?_
  refine V_aload_n (i := 0) dL_law_981 rfl rfl ?_
  refine V_iload dL_law_982 rfl ?_
  refine V_iconst_n (v := 2) dL_law_984 (by decide) ?_
  refine V_iadd_n dL_law_985 ?_
  refine V_sld (i := ((5 * t) + 2)) dL_law_986 (by omega) (by omega) ?_
  refine V_callV dL_law_987 (m_colourAt hM1 (zI_of _) (zI_of _) (zb1 _) (zb2 _) (zb1 _) (zb2 _)) okX11_colourAt lkRL_192 (Or.inr ⟨rfl, Nat.le_of_ble_eq_true rfl⟩) rfl rfl rfl rfl (Nat.le_of_ble_eq_true rfl) ⟨Nat.le_of_ble_eq_true rfl, Nat.le_of_ble_eq_true rfl⟩ rfl ⟨Nat.zero_le _, Nat.zero_le _⟩ (fun v9 u2 hu2 => ?_) (fun E9 w9 h9 => by obtain ⟨⟨x9, h9, _⟩, _⟩ := h9; cases h9)
  obtain ⟨⟨x2, e9, hx2⟩, hM2, ht2, hF2⟩ := hu2
  cases e9
  have hC2 := hC1.keepF hF2 (fun b hb q => by omega)
  refine V_istore dL_law_990 (Nat.le_of_ble_eq_true rfl) rfl rfl ?_
  refine V_aload_n (i := 2) dL_law_992 rfl rfl ?_
  refine V_callVF dL_law_993 (m_thrown (n := (fColourAt S (xs ((5 * t) + 1)).toInt (xs ((5 * t) + 2)).toInt).1) ht2) okX11_thrown lkRL_160 (Or.inr ⟨rfl, Nat.le_of_ble_eq_true rfl⟩) rfl rfl rfl rfl (Nat.le_of_ble_eq_true rfl) ⟨Nat.le_of_ble_eq_true rfl, Nat.le_of_ble_eq_true rfl⟩ rfl ?_
  refine V_iload dL_law_996 rfl ?_
  refine V_icmp_eq_n (tgt := 1003) dL_law_998 (by decide) (by omega) (by omega) (fun h998 => ?_) (fun h998 => by exfalso; omega)
  refine V_iload dL_law_1003 rfl ?_
  refine V_if_ne_n (tgt := 1020) dL_law_1005 (by decide) (by omega) (fun h1005 => ?_) (fun h1005 => ?_)
  · refine V_goto (tgt := 2878) dL_law_1020 (by decide) ?_
    exact (V_w (by omega) (by omega) (hb _ _ hC2 hM2)).sub (by repeat' (first | exact trivial | exact rfl | constructor))
  · refine V_aload_n (i := 3) dL_law_1008 rfl rfl ?_
    refine V_iconst_n (v := 0) dL_law_1009 (by decide) ?_
    refine V_lald dL_law_1010 (Or.inr ⟨rfl, Nat.le_of_ble_eq_true rfl⟩) rfl (in_n (by omega) (by decide)) ?_
    refine V_topL (y := (fColourAt S (xs ((5 * t) + 1)).toInt (xs ((5 * t) + 2)).toInt).2.1.toInt64) (gl0 hF2 (by omega) (hv h1005)) ?_
    refine V_iload dL_law_1011 rfl ?_
    refine V_top (y := (fColourAt S (xs ((5 * t) + 1)).toInt (xs ((5 * t) + 2)).toInt).2.1) (hx2 h1005) ?_
    refine V_i2l dL_law_1013 ?_
    refine V_lcmp dL_law_1014 ?_
    refine V_top (y := nI 0) (cmp_self _) ?_
    refine V_if_eq_n (tgt := 1020) dL_law_1015 (by decide) (by omega) (fun h1015 => ?_) (fun h1015 => by exfalso; omega)
    refine V_goto (tgt := 2878) dL_law_1020 (by decide) ?_
    exact (V_w (by omega) (by omega) (hb _ _ hC2 hM2)).sub (by repeat' (first | exact trivial | exact rfl | constructor))
set_option maxRecDepth 100000 in
set_option maxHeartbeats 1000000 in
theorem law_c10 {b n t kc ks : Nat} {xs : Nat → Int32} {S : Sys} {w : Wd} (hC : CI w S) (hM : MI w S) (ht : 5 * t + 5 ≤ n) (hn : n ≤ 2560) (hk : 4 ≤ kc) (hs : 24 ≤ ks) (hb : LBack b n xs t (kc - 4) (ks - 24)) : LV b n xs kc ks 1023 [some (.ref 1999), some (.ref 0), some (.ref 47), some (.ref 65), some (.ref 66), some (.int (nI (5 * t))), none, none, none] [] w := by
  refine V_aload_n (i := 1) dL_law_1023 rfl rfl ?_
  refine V_aload_n (i := 0) dL_law_1024 rfl rfl ?_
  refine V_iload dL_law_1025 rfl ?_
  refine V_iconst_n (v := 1) dL_law_1027 (by decide) ?_
  refine V_iadd_n dL_law_1028 ?_
  refine V_sld (i := ((5 * t) + 1)) dL_law_1029 (by omega) (by omega) ?_
  refine V_aload_n (i := 0) dL_law_1030 rfl rfl ?_
  refine V_iload dL_law_1031 rfl ?_
  refine V_iconst_n (v := 2) dL_law_1033 (by decide) ?_
  refine V_iadd_n dL_law_1034 ?_
  refine V_sld (i := ((5 * t) + 2)) dL_law_1035 (by omega) (by omega) ?_
  refine V_aload_n (i := 3) dL_law_1036 rfl rfl ?_
  refine V_callSH dL_law_1037 (l_ageAt hC (zI_of _) (zI_of _) (zb1 _) (zb2 _) (zb1 _) (zb2 _)) okL_ageAt lkRL_193 rfl rfl (Nat.le_of_ble_eq_true rfl) ⟨Nat.le_of_ble_eq_true rfl, Nat.le_of_ble_eq_true rfl⟩ rfl ⟨by omega, by omega⟩ (fun v9 u1 hu1 => ?_) (fun E9 u1 hu1 => by obtain ⟨h9, _⟩ := hu1; cases h9)
  obtain ⟨e9, hv, hC1, hF1⟩ := hu1
  cases e9
  have hM1 := hM.keepF hF1 (fun b h1 h2 q => by omega)
  have hle : (fAgeAt S (xs ((5 * t) + 1)).toInt (xs ((5 * t) + 2)).toInt).1 ≤ 2 := le_ageAt
  refine V_istore dL_law_1040 (Nat.le_of_ble_eq_true rfl) rfl rfl ?_
  refine V_aload_n (i := 2) dL_law_1042 rfl rfl ?_
  refine V_aload_n (i := 0) dL_law_1043 rfl rfl ?_
  refine V_iload dL_law_1044 rfl ?_
  refine V_iconst_n (v := 1) dL_law_1046 (by decide) ?_
  refine V_iadd_n dL_law_1047 ?_
  refine V_sld (i := ((5 * t) + 1)) dL_law_1048 (by omega) (by omega) ?_
  refine V_aload_n (i := 0) dL_law_1049 rfl rfl ?_
  refine V_iload dL_law_1050 rfl ?_
  refine V_iconst_n (v := 2) dL_law_1052 (by decide) ?_
  refine V_iadd_n dL_law_1053 ?_
  refine V_sld (i := ((5 * t) + 2)) dL_law_1054 (by omega) (by omega) ?_
  refine V_callV dL_law_1055 (m_ageAt hM1 (zI_of _) (zI_of _) (zb1 _) (zb2 _) (zb1 _) (zb2 _)) okX11_ageAt lkRL_195 (Or.inr ⟨rfl, Nat.le_of_ble_eq_true rfl⟩) rfl rfl rfl rfl (Nat.le_of_ble_eq_true rfl) ⟨Nat.le_of_ble_eq_true rfl, Nat.le_of_ble_eq_true rfl⟩ rfl ⟨Nat.zero_le _, Nat.zero_le _⟩ (fun v9 u2 hu2 => ?_) (fun E9 w9 h9 => by obtain ⟨⟨x9, h9, _⟩, _⟩ := h9; cases h9)
  obtain ⟨⟨x2, e9, hx2⟩, hM2, ht2, hF2⟩ := hu2
  cases e9
  have hC2 := hC1.keepF hF2 (fun b hb q => by omega)
  refine V_istore dL_law_1058 (Nat.le_of_ble_eq_true rfl) rfl rfl ?_
  refine V_aload_n (i := 2) dL_law_1060 rfl rfl ?_
  refine V_callVF dL_law_1061 (m_thrown (n := (fAgeAt S (xs ((5 * t) + 1)).toInt (xs ((5 * t) + 2)).toInt).1) ht2) okX11_thrown lkRL_160 (Or.inr ⟨rfl, Nat.le_of_ble_eq_true rfl⟩) rfl rfl rfl rfl (Nat.le_of_ble_eq_true rfl) ⟨Nat.le_of_ble_eq_true rfl, Nat.le_of_ble_eq_true rfl⟩ rfl ?_
  refine V_iload dL_law_1064 rfl ?_
  refine V_icmp_eq_n (tgt := 1071) dL_law_1066 (by decide) (by omega) (by omega) (fun h1066 => ?_) (fun h1066 => by exfalso; omega)
  refine V_iload dL_law_1071 rfl ?_
  refine V_if_ne_n (tgt := 1088) dL_law_1073 (by decide) (by omega) (fun h1073 => ?_) (fun h1073 => ?_)
  · refine V_goto (tgt := 2878) dL_law_1088 (by decide) ?_
    exact (V_w (by omega) (by omega) (hb _ _ hC2 hM2)).sub (by repeat' (first | exact trivial | exact rfl | constructor))
  · refine V_aload_n (i := 3) dL_law_1076 rfl rfl ?_
    refine V_iconst_n (v := 0) dL_law_1077 (by decide) ?_
    refine V_lald dL_law_1078 (Or.inr ⟨rfl, Nat.le_of_ble_eq_true rfl⟩) rfl (in_n (by omega) (by decide)) ?_
    refine V_topL (y := (fAgeAt S (xs ((5 * t) + 1)).toInt (xs ((5 * t) + 2)).toInt).2.1.toInt64) (gl0 hF2 (by omega) (hv h1073)) ?_
    refine V_iload dL_law_1079 rfl ?_
    refine V_top (y := (fAgeAt S (xs ((5 * t) + 1)).toInt (xs ((5 * t) + 2)).toInt).2.1) (hx2 h1073) ?_
    refine V_i2l dL_law_1081 ?_
    refine V_lcmp dL_law_1082 ?_
    refine V_top (y := nI 0) (cmp_self _) ?_
    refine V_if_eq_n (tgt := 1088) dL_law_1083 (by decide) (by omega) (fun h1083 => ?_) (fun h1083 => by exfalso; omega)
    refine V_goto (tgt := 2878) dL_law_1088 (by decide) ?_
    exact (V_w (by omega) (by omega) (hb _ _ hC2 hM2)).sub (by repeat' (first | exact trivial | exact rfl | constructor))
set_option maxRecDepth 100000 in
set_option maxHeartbeats 1000000 in
theorem law_c11 {b n t kc ks : Nat} {xs : Nat → Int32} {S : Sys} {w : Wd} (hC : CI w S) (hM : MI w S) (ht : 5 * t + 5 ≤ n) (hn : n ≤ 2560) (hk : 4 ≤ kc) (hs : 24 ≤ ks) (hb : LBack b n xs t (kc - 4) (ks - 24)) : LV b n xs kc ks 1091 [some (.ref 1999), some (.ref 0), some (.ref 47), some (.ref 65), some (.ref 66), some (.int (nI (5 * t))), none, none, none] [] w := by
  refine V_aload_n (i := 1) dL_law_1091 rfl rfl ?_
  refine V_aload_n (i := 0) dL_law_1092 rfl rfl ?_
  refine V_iload dL_law_1093 rfl ?_
  refine V_iconst_n (v := 1) dL_law_1095 (by decide) ?_
  refine V_iadd_n dL_law_1096 ?_
  refine V_sld (i := ((5 * t) + 1)) dL_law_1097 (by omega) (by omega) ?_
  refine V_aload_n (i := 0) dL_law_1098 rfl rfl ?_
  refine V_iload dL_law_1099 rfl ?_
  refine V_iconst_n (v := 2) dL_law_1101 (by decide) ?_
  refine V_iadd_n dL_law_1102 ?_
  refine V_sld (i := ((5 * t) + 2)) dL_law_1103 (by omega) (by omega) ?_
  refine V_aload_n (i := 3) dL_law_1104 rfl rfl ?_
  refine V_callSH dL_law_1105 (l_neighbours hC (zI_of _) (zI_of _) (zb1 _) (zb2 _) (zb1 _) (zb2 _)) okL_neighbours lkRL_196 rfl rfl (Nat.le_of_ble_eq_true rfl) ⟨Nat.le_of_ble_eq_true rfl, Nat.le_of_ble_eq_true rfl⟩ rfl ⟨by omega, by omega⟩ (fun v9 u1 hu1 => ?_) (fun E9 u1 hu1 => by obtain ⟨h9, _⟩ := hu1; cases h9)
  obtain ⟨e9, hv, hC1, hF1⟩ := hu1
  cases e9
  have hM1 := hM.keepF hF1 (fun b h1 h2 q => by omega)
  have hle : (fNeighbours S (xs ((5 * t) + 1)).toInt (xs ((5 * t) + 2)).toInt).1 ≤ 1 := le_neighbours
  refine V_istore dL_law_1108 (Nat.le_of_ble_eq_true rfl) rfl rfl ?_
  refine V_aload_n (i := 2) dL_law_1110 rfl rfl ?_
  refine V_aload_n (i := 0) dL_law_1111 rfl rfl ?_
  refine V_iload dL_law_1112 rfl ?_
  refine V_iconst_n (v := 1) dL_law_1114 (by decide) ?_
  refine V_iadd_n dL_law_1115 ?_
  refine V_sld (i := ((5 * t) + 1)) dL_law_1116 (by omega) (by omega) ?_
  refine V_aload_n (i := 0) dL_law_1117 rfl rfl ?_
  refine V_iload dL_law_1118 rfl ?_
  refine V_iconst_n (v := 2) dL_law_1120 (by decide) ?_
  refine V_iadd_n dL_law_1121 ?_
  refine V_sld (i := ((5 * t) + 2)) dL_law_1122 (by omega) (by omega) ?_
  refine V_callV dL_law_1123 (m_neighbours hM1 (zI_of _) (zI_of _) (zb1 _) (zb2 _) (zb1 _) (zb2 _)) okX11_neighbours lkRL_198 (Or.inr ⟨rfl, Nat.le_of_ble_eq_true rfl⟩) rfl rfl rfl rfl (Nat.le_of_ble_eq_true rfl) ⟨Nat.le_of_ble_eq_true rfl, Nat.le_of_ble_eq_true rfl⟩ rfl ⟨Nat.zero_le _, Nat.zero_le _⟩ (fun v9 u2 hu2 => ?_) (fun E9 w9 h9 => by obtain ⟨⟨x9, h9, _⟩, _⟩ := h9; cases h9)
  obtain ⟨⟨x2, e9, hx2⟩, hM2, ht2, hF2⟩ := hu2
  cases e9
  have hC2 := hC1.keepF hF2 (fun b hb q => by omega)
  refine V_istore dL_law_1126 (Nat.le_of_ble_eq_true rfl) rfl rfl ?_
  refine V_aload_n (i := 2) dL_law_1128 rfl rfl ?_
  refine V_callVF dL_law_1129 (m_thrown (n := (fNeighbours S (xs ((5 * t) + 1)).toInt (xs ((5 * t) + 2)).toInt).1) ht2) okX11_thrown lkRL_160 (Or.inr ⟨rfl, Nat.le_of_ble_eq_true rfl⟩) rfl rfl rfl rfl (Nat.le_of_ble_eq_true rfl) ⟨Nat.le_of_ble_eq_true rfl, Nat.le_of_ble_eq_true rfl⟩ rfl ?_
  refine V_iload dL_law_1132 rfl ?_
  refine V_icmp_eq_n (tgt := 1139) dL_law_1134 (by decide) (by omega) (by omega) (fun h1134 => ?_) (fun h1134 => by exfalso; omega)
  refine V_iload dL_law_1139 rfl ?_
  refine V_if_ne_n (tgt := 1156) dL_law_1141 (by decide) (by omega) (fun h1141 => ?_) (fun h1141 => ?_)
  · refine V_goto (tgt := 2878) dL_law_1156 (by decide) ?_
    exact (V_w (by omega) (by omega) (hb _ _ hC2 hM2)).sub (by repeat' (first | exact trivial | exact rfl | constructor))
  · refine V_aload_n (i := 3) dL_law_1144 rfl rfl ?_
    refine V_iconst_n (v := 0) dL_law_1145 (by decide) ?_
    refine V_lald dL_law_1146 (Or.inr ⟨rfl, Nat.le_of_ble_eq_true rfl⟩) rfl (in_n (by omega) (by decide)) ?_
    refine V_topL (y := (fNeighbours S (xs ((5 * t) + 1)).toInt (xs ((5 * t) + 2)).toInt).2.1.toInt64) (gl0 hF2 (by omega) (hv h1141)) ?_
    refine V_iload dL_law_1147 rfl ?_
    refine V_top (y := (fNeighbours S (xs ((5 * t) + 1)).toInt (xs ((5 * t) + 2)).toInt).2.1) (hx2 h1141) ?_
    refine V_i2l dL_law_1149 ?_
    refine V_lcmp dL_law_1150 ?_
    refine V_top (y := nI 0) (cmp_self _) ?_
    refine V_if_eq_n (tgt := 1156) dL_law_1151 (by decide) (by omega) (fun h1151 => ?_) (fun h1151 => by exfalso; omega)
    refine V_goto (tgt := 2878) dL_law_1156 (by decide) ?_
    exact (V_w (by omega) (by omega) (hb _ _ hC2 hM2)).sub (by repeat' (first | exact trivial | exact rfl | constructor))
set_option maxRecDepth 100000 in
set_option maxHeartbeats 1000000 in
theorem law_c12 {b n t kc ks : Nat} {xs : Nat → Int32} {S : Sys} {w : Wd} (hC : CI w S) (hM : MI w S) (ht : 5 * t + 5 ≤ n) (hn : n ≤ 2560) (hk : 4 ≤ kc) (hs : 24 ≤ ks) (hb : LBack b n xs t (kc - 4) (ks - 24)) : LV b n xs kc ks 1159 [some (.ref 1999), some (.ref 0), some (.ref 47), some (.ref 65), some (.ref 66), some (.int (nI (5 * t))), none, none, none] [] w := by
  refine V_aload_n (i := 1) dL_law_1159 rfl rfl ?_
  refine V_aload_n (i := 0) dL_law_1160 rfl rfl ?_
  refine V_iload dL_law_1161 rfl ?_
  refine V_iconst_n (v := 1) dL_law_1163 (by decide) ?_
  refine V_iadd_n dL_law_1164 ?_
  refine V_sld (i := ((5 * t) + 1)) dL_law_1165 (by omega) (by omega) ?_
  refine V_aload_n (i := 0) dL_law_1166 rfl rfl ?_
  refine V_iload dL_law_1167 rfl ?_
  refine V_iconst_n (v := 2) dL_law_1169 (by decide) ?_
  refine V_iadd_n dL_law_1170 ?_
  refine V_sld (i := ((5 * t) + 2)) dL_law_1171 (by omega) (by omega) ?_
  refine V_aload_n (i := 0) dL_law_1172 rfl rfl ?_
  refine V_iload dL_law_1173 rfl ?_
  refine V_iconst_n (v := 3) dL_law_1175 (by decide) ?_
  refine V_iadd_n dL_law_1176 ?_
  refine V_sld (i := ((5 * t) + 3)) dL_law_1177 (by omega) (by omega) ?_
  refine V_i2c dL_law_1178 ?_
  have hm1178 : (xs ((5 * t) + 3)).toBitVec.toNat % 65536 < 65536 := Nat.mod_lt _ (by decide)
  refine V_aload_n (i := 3) dL_law_1179 rfl rfl ?_
  refine V_callSH dL_law_1180 (l_neighboursOf hC (zI_of _) (zI_of _) (zb1 _) (zb2 _) (zb1 _) (zb2 _) (Nat.mod_lt _ (by decide))) okL_neighboursOf lkRL_199 rfl rfl (Nat.le_of_ble_eq_true rfl) ⟨Nat.le_of_ble_eq_true rfl, Nat.le_of_ble_eq_true rfl⟩ rfl ⟨by omega, by omega⟩ (fun v9 u1 hu1 => ?_) (fun E9 u1 hu1 => by obtain ⟨h9, _⟩ := hu1; cases h9)
  obtain ⟨e9, hv, hC1, hF1⟩ := hu1
  cases e9
  have hM1 := hM.keepF hF1 (fun b h1 h2 q => by omega)
  have hle : (fNeighboursOf S (xs ((5 * t) + 1)).toInt (xs ((5 * t) + 2)).toInt ((xs ((5 * t) + 3)).toBitVec.toNat % 65536)).1 ≤ 2 := le_neighboursOf
  refine V_istore dL_law_1183 (Nat.le_of_ble_eq_true rfl) rfl rfl ?_
  refine V_aload_n (i := 2) dL_law_1185 rfl rfl ?_
  refine V_aload_n (i := 0) dL_law_1186 rfl rfl ?_
  refine V_iload dL_law_1187 rfl ?_
  refine V_iconst_n (v := 1) dL_law_1189 (by decide) ?_
  refine V_iadd_n dL_law_1190 ?_
  refine V_sld (i := ((5 * t) + 1)) dL_law_1191 (by omega) (by omega) ?_
  refine V_aload_n (i := 0) dL_law_1192 rfl rfl ?_
  refine V_iload dL_law_1193 rfl ?_
  refine V_iconst_n (v := 2) dL_law_1195 (by decide) ?_
  refine V_iadd_n dL_law_1196 ?_
  refine V_sld (i := ((5 * t) + 2)) dL_law_1197 (by omega) (by omega) ?_
  refine V_aload_n (i := 0) dL_law_1198 rfl rfl ?_
  refine V_iload dL_law_1199 rfl ?_
  refine V_iconst_n (v := 3) dL_law_1201 (by decide) ?_
  refine V_iadd_n dL_law_1202 ?_
  refine V_sld (i := ((5 * t) + 3)) dL_law_1203 (by omega) (by omega) ?_
  refine V_i2c dL_law_1204 ?_
  have hm1204 : (xs ((5 * t) + 3)).toBitVec.toNat % 65536 < 65536 := Nat.mod_lt _ (by decide)
  refine V_callV dL_law_1205 (m_neighboursOf hM1 (zI_of _) (zI_of _) (zb1 _) (zb2 _) (zb1 _) (zb2 _) (Nat.mod_lt _ (by decide))) okX11_neighboursOf lkRL_201 (Or.inr ⟨rfl, Nat.le_of_ble_eq_true rfl⟩) rfl rfl rfl rfl (Nat.le_of_ble_eq_true rfl) ⟨Nat.le_of_ble_eq_true rfl, Nat.le_of_ble_eq_true rfl⟩ rfl ⟨Nat.zero_le _, Nat.zero_le _⟩ (fun v9 u2 hu2 => ?_) (fun E9 w9 h9 => by obtain ⟨⟨x9, h9, _⟩, _⟩ := h9; cases h9)
  obtain ⟨⟨x2, e9, hx2⟩, hM2, ht2, hF2⟩ := hu2
  cases e9
  have hC2 := hC1.keepF hF2 (fun b hb q => by omega)
  refine V_istore dL_law_1208 (Nat.le_of_ble_eq_true rfl) rfl rfl ?_
  refine V_aload_n (i := 2) dL_law_1210 rfl rfl ?_
  refine V_callVF dL_law_1211 (m_thrown (n := (fNeighboursOf S (xs ((5 * t) + 1)).toInt (xs ((5 * t) + 2)).toInt ((xs ((5 * t) + 3)).toBitVec.toNat % 65536)).1) ht2) okX11_thrown lkRL_160 (Or.inr ⟨rfl, Nat.le_of_ble_eq_true rfl⟩) rfl rfl rfl rfl (Nat.le_of_ble_eq_true rfl) ⟨Nat.le_of_ble_eq_true rfl, Nat.le_of_ble_eq_true rfl⟩ rfl ?_
  refine V_iload dL_law_1214 rfl ?_
  refine V_icmp_eq_n (tgt := 1221) dL_law_1216 (by decide) (by omega) (by omega) (fun h1216 => ?_) (fun h1216 => by exfalso; omega)
  refine V_iload dL_law_1221 rfl ?_
  refine V_if_ne_n (tgt := 1238) dL_law_1223 (by decide) (by omega) (fun h1223 => ?_) (fun h1223 => ?_)
  · refine V_goto (tgt := 2878) dL_law_1238 (by decide) ?_
    exact (V_w (by omega) (by omega) (hb _ _ hC2 hM2)).sub (by repeat' (first | exact trivial | exact rfl | constructor))
  · refine V_aload_n (i := 3) dL_law_1226 rfl rfl ?_
    refine V_iconst_n (v := 0) dL_law_1227 (by decide) ?_
    refine V_lald dL_law_1228 (Or.inr ⟨rfl, Nat.le_of_ble_eq_true rfl⟩) rfl (in_n (by omega) (by decide)) ?_
    refine V_topL (y := (fNeighboursOf S (xs ((5 * t) + 1)).toInt (xs ((5 * t) + 2)).toInt ((xs ((5 * t) + 3)).toBitVec.toNat % 65536)).2.1.toInt64) (gl0 hF2 (by omega) (hv h1223)) ?_
    refine V_iload dL_law_1229 rfl ?_
    refine V_top (y := (fNeighboursOf S (xs ((5 * t) + 1)).toInt (xs ((5 * t) + 2)).toInt ((xs ((5 * t) + 3)).toBitVec.toNat % 65536)).2.1) (hx2 h1223) ?_
    refine V_i2l dL_law_1231 ?_
    refine V_lcmp dL_law_1232 ?_
    refine V_top (y := nI 0) (cmp_self _) ?_
    refine V_if_eq_n (tgt := 1238) dL_law_1233 (by decide) (by omega) (fun h1233 => ?_) (fun h1233 => by exfalso; omega)
    refine V_goto (tgt := 2878) dL_law_1238 (by decide) ?_
    exact (V_w (by omega) (by omega) (hb _ _ hC2 hM2)).sub (by repeat' (first | exact trivial | exact rfl | constructor))
set_option maxRecDepth 100000 in
set_option maxHeartbeats 1000000 in
theorem law_c13 {b n t kc ks : Nat} {xs : Nat → Int32} {S : Sys} {w : Wd} (hC : CI w S) (hM : MI w S) (ht : 5 * t + 5 ≤ n) (hn : n ≤ 2560) (hk : 4 ≤ kc) (hs : 24 ≤ ks) (hb : LBack b n xs t (kc - 4) (ks - 24)) : LV b n xs kc ks 1241 [some (.ref 1999), some (.ref 0), some (.ref 47), some (.ref 65), some (.ref 66), some (.int (nI (5 * t))), none, none, none] [] w := by
  refine V_aload_n (i := 1) dL_law_1241 rfl rfl ?_
  refine V_aload_n (i := 0) dL_law_1242 rfl rfl ?_
  refine V_iload dL_law_1243 rfl ?_
  refine V_iconst_n (v := 1) dL_law_1245 (by decide) ?_
  refine V_iadd_n dL_law_1246 ?_
  refine V_sld (i := ((5 * t) + 1)) dL_law_1247 (by omega) (by omega) ?_
  refine V_aload_n (i := 0) dL_law_1248 rfl rfl ?_
  refine V_iload dL_law_1249 rfl ?_
  refine V_iconst_n (v := 2) dL_law_1251 (by decide) ?_
  refine V_iadd_n dL_law_1252 ?_
  refine V_sld (i := ((5 * t) + 2)) dL_law_1253 (by omega) (by omega) ?_
  refine V_aload_n (i := 3) dL_law_1254 rfl rfl ?_
  refine V_callSH dL_law_1255 (l_birthColour hC (zI_of _) (zI_of _) (zb1 _) (zb2 _) (zb1 _) (zb2 _)) okL_birthColour lkRL_202 rfl rfl (Nat.le_of_ble_eq_true rfl) ⟨Nat.le_of_ble_eq_true rfl, Nat.le_of_ble_eq_true rfl⟩ rfl ⟨by omega, by omega⟩ (fun v9 u1 hu1 => ?_) (fun E9 u1 hu1 => by obtain ⟨h9, _⟩ := hu1; cases h9)
  obtain ⟨e9, hv, hC1, hF1⟩ := hu1
  cases e9
  have hM1 := hM.keepF hF1 (fun b h1 h2 q => by omega)
  have hle : (fBirthColour S (xs ((5 * t) + 1)).toInt (xs ((5 * t) + 2)).toInt).1 ≤ 2 := le_birthColour
  refine V_istore dL_law_1258 (Nat.le_of_ble_eq_true rfl) rfl rfl ?_
  refine V_aload_n (i := 2) dL_law_1260 rfl rfl ?_
  refine V_aload_n (i := 0) dL_law_1261 rfl rfl ?_
  refine V_iload dL_law_1262 rfl ?_
  refine V_iconst_n (v := 1) dL_law_1264 (by decide) ?_
  refine V_iadd_n dL_law_1265 ?_
  refine V_sld (i := ((5 * t) + 1)) dL_law_1266 (by omega) (by omega) ?_
  refine V_aload_n (i := 0) dL_law_1267 rfl rfl ?_
  refine V_iload dL_law_1268 rfl ?_
  refine V_iconst_n (v := 2) dL_law_1270 (by decide) ?_
  refine V_iadd_n dL_law_1271 ?_
  refine V_sld (i := ((5 * t) + 2)) dL_law_1272 (by omega) (by omega) ?_
  refine V_callV dL_law_1273 (m_birthColour hM1 (zI_of _) (zI_of _) (zb1 _) (zb2 _) (zb1 _) (zb2 _)) okX11_birthColour lkRL_204 (Or.inr ⟨rfl, Nat.le_of_ble_eq_true rfl⟩) rfl rfl rfl rfl (Nat.le_of_ble_eq_true rfl) ⟨Nat.le_of_ble_eq_true rfl, Nat.le_of_ble_eq_true rfl⟩ rfl ⟨Nat.zero_le _, Nat.zero_le _⟩ (fun v9 u2 hu2 => ?_) (fun E9 w9 h9 => by obtain ⟨⟨x9, h9, _⟩, _⟩ := h9; cases h9)
  obtain ⟨⟨x2, e9, hx2⟩, hM2, ht2, hF2⟩ := hu2
  cases e9
  have hC2 := hC1.keepF hF2 (fun b hb q => by omega)
  refine V_istore dL_law_1276 (Nat.le_of_ble_eq_true rfl) rfl rfl ?_
  refine V_aload_n (i := 2) dL_law_1278 rfl rfl ?_
  refine V_callVF dL_law_1279 (m_thrown (n := (fBirthColour S (xs ((5 * t) + 1)).toInt (xs ((5 * t) + 2)).toInt).1) ht2) okX11_thrown lkRL_160 (Or.inr ⟨rfl, Nat.le_of_ble_eq_true rfl⟩) rfl rfl rfl rfl (Nat.le_of_ble_eq_true rfl) ⟨Nat.le_of_ble_eq_true rfl, Nat.le_of_ble_eq_true rfl⟩ rfl ?_
  refine V_iload dL_law_1282 rfl ?_
  refine V_icmp_eq_n (tgt := 1289) dL_law_1284 (by decide) (by omega) (by omega) (fun h1284 => ?_) (fun h1284 => by exfalso; omega)
  refine V_iload dL_law_1289 rfl ?_
  refine V_if_ne_n (tgt := 1306) dL_law_1291 (by decide) (by omega) (fun h1291 => ?_) (fun h1291 => ?_)
  · refine V_goto (tgt := 2878) dL_law_1306 (by decide) ?_
    exact (V_w (by omega) (by omega) (hb _ _ hC2 hM2)).sub (by repeat' (first | exact trivial | exact rfl | constructor))
  · refine V_aload_n (i := 3) dL_law_1294 rfl rfl ?_
    refine V_iconst_n (v := 0) dL_law_1295 (by decide) ?_
    refine V_lald dL_law_1296 (Or.inr ⟨rfl, Nat.le_of_ble_eq_true rfl⟩) rfl (in_n (by omega) (by decide)) ?_
    refine V_topL (y := (fBirthColour S (xs ((5 * t) + 1)).toInt (xs ((5 * t) + 2)).toInt).2.1.toInt64) (gl0 hF2 (by omega) (hv h1291)) ?_
    refine V_iload dL_law_1297 rfl ?_
    refine V_top (y := (fBirthColour S (xs ((5 * t) + 1)).toInt (xs ((5 * t) + 2)).toInt).2.1) (hx2 h1291) ?_
    refine V_i2l dL_law_1299 ?_
    refine V_lcmp dL_law_1300 ?_
    refine V_top (y := nI 0) (cmp_self _) ?_
    refine V_if_eq_n (tgt := 1306) dL_law_1301 (by decide) (by omega) (fun h1301 => ?_) (fun h1301 => by exfalso; omega)
    refine V_goto (tgt := 2878) dL_law_1306 (by decide) ?_
    exact (V_w (by omega) (by omega) (hb _ _ hC2 hM2)).sub (by repeat' (first | exact trivial | exact rfl | constructor))
set_option maxRecDepth 100000 in
set_option maxHeartbeats 1000000 in
theorem law_c14 {b n t kc ks : Nat} {xs : Nat → Int32} {S : Sys} {w : Wd} (hC : CI w S) (hM : MI w S) (ht : 5 * t + 5 ≤ n) (hn : n ≤ 2560) (hk : 4 ≤ kc) (hs : 24 ≤ ks) (hb : LBack b n xs t (kc - 4) (ks - 24)) : LV b n xs kc ks 1309 [some (.ref 1999), some (.ref 0), some (.ref 47), some (.ref 65), some (.ref 66), some (.int (nI (5 * t))), none, none, none] [] w := by
  refine V_aload_n (i := 1) dL_law_1309 rfl rfl ?_
  refine V_callV dL_law_1310 (c_livingCount hC) okX10_livingCount lkRL_205 (Or.inr ⟨rfl, Nat.le_of_ble_eq_true rfl⟩) rfl rfl rfl rfl (Nat.le_of_ble_eq_true rfl) ⟨Nat.le_of_ble_eq_true rfl, Nat.le_of_ble_eq_true rfl⟩ rfl ⟨by omega, by omega⟩ (fun v9 u1 hu1 => ?_) (fun E9 w9 h9 => by rcases h9 with ⟨⟨h0, h9⟩ | ⟨h0, h9⟩, _⟩ <;> first | (cases h9; done) | exact absurd h0 (Nat.lt_irrefl 0))
  obtain ⟨⟨h0, e9⟩ | ⟨h0, e9⟩, hC1, hF1⟩ := hu1
  · cases e9
    have hM1 := hM.keepF hF1 (fun b h1 h2 q => by have q9 : b < 47 := q; omega)
    refine V_aload_n (i := 2) dL_law_1313 rfl rfl ?_
    refine V_callV dL_law_1314 (m_livingCount hM1) okX11_livingCount lkRL_208 (Or.inr ⟨rfl, Nat.le_of_ble_eq_true rfl⟩) rfl rfl rfl rfl (Nat.le_of_ble_eq_true rfl) ⟨Nat.le_of_ble_eq_true rfl, Nat.le_of_ble_eq_true rfl⟩ rfl ⟨Nat.zero_le _, Nat.zero_le _⟩ (fun v9 u2 hu2 => ?_) (fun E9 w9 h9 => by obtain ⟨⟨x9, h9, _⟩, _⟩ := h9; cases h9)
    obtain ⟨⟨x2, e9, hx2⟩, hM2, ht2, hF2⟩ := hu2
    cases e9
    have hC2 := hC1.keepF hF2 (fun b hb q => by omega)
    refine V_top (y := (fLivingCount S).2.1) (hx2 rfl) ?_
    refine V_icmp_eq (tgt := 2878) dL_law_1317 (by decide) (fun h1317 => ?_) (fun h1317 => by exfalso; exact h1317 rfl)
    exact (V_w (by omega) (by omega) (hb _ _ hC2 hM2)).sub (by repeat' (first | exact trivial | exact rfl | constructor))
  · exact absurd h0 (Nat.lt_irrefl 0)
set_option maxRecDepth 100000 in
set_option maxHeartbeats 1000000 in
theorem law_c15 {b n t kc ks : Nat} {xs : Nat → Int32} {S : Sys} {w : Wd} (hC : CI w S) (hM : MI w S) (ht : 5 * t + 5 ≤ n) (hn : n ≤ 2560) (hk : 4 ≤ kc) (hs : 24 ≤ ks) (hb : LBack b n xs t (kc - 4) (ks - 24)) : LV b n xs kc ks 1322 [some (.ref 1999), some (.ref 0), some (.ref 47), some (.ref 65), some (.ref 66), some (.int (nI (5 * t))), none, none, none] [] w := by
  refine V_aload_n (i := 1) dL_law_1322 rfl rfl ?_
  refine V_callV dL_law_1323 (c_bleachedCount hC) okX10_bleachedCount lkRL_209 (Or.inr ⟨rfl, Nat.le_of_ble_eq_true rfl⟩) rfl rfl rfl rfl (Nat.le_of_ble_eq_true rfl) ⟨Nat.le_of_ble_eq_true rfl, Nat.le_of_ble_eq_true rfl⟩ rfl ⟨by omega, by omega⟩ (fun v9 u1 hu1 => ?_) (fun E9 w9 h9 => by rcases h9 with ⟨⟨h0, h9⟩ | ⟨h0, h9⟩, _⟩ <;> first | (cases h9; done) | exact absurd h0 (Nat.lt_irrefl 0))
  obtain ⟨⟨h0, e9⟩ | ⟨h0, e9⟩, hC1, hF1⟩ := hu1
  · cases e9
    have hM1 := hM.keepF hF1 (fun b h1 h2 q => by have q9 : b < 47 := q; omega)
    refine V_aload_n (i := 2) dL_law_1326 rfl rfl ?_
    refine V_callV dL_law_1327 (m_bleachedCount hM1) okX11_bleachedCount lkRL_212 (Or.inr ⟨rfl, Nat.le_of_ble_eq_true rfl⟩) rfl rfl rfl rfl (Nat.le_of_ble_eq_true rfl) ⟨Nat.le_of_ble_eq_true rfl, Nat.le_of_ble_eq_true rfl⟩ rfl ⟨Nat.zero_le _, Nat.zero_le _⟩ (fun v9 u2 hu2 => ?_) (fun E9 w9 h9 => by obtain ⟨⟨x9, h9, _⟩, _⟩ := h9; cases h9)
    obtain ⟨⟨x2, e9, hx2⟩, hM2, ht2, hF2⟩ := hu2
    cases e9
    have hC2 := hC1.keepF hF2 (fun b hb q => by omega)
    refine V_top (y := (fBleachedCount S).2.1) (hx2 rfl) ?_
    refine V_icmp_eq (tgt := 2878) dL_law_1330 (by decide) (fun h1330 => ?_) (fun h1330 => by exfalso; exact h1330 rfl)
    exact (V_w (by omega) (by omega) (hb _ _ hC2 hM2)).sub (by repeat' (first | exact trivial | exact rfl | constructor))
  · exact absurd h0 (Nat.lt_irrefl 0)
set_option maxRecDepth 100000 in
set_option maxHeartbeats 1000000 in
theorem law_c16 {b n t kc ks : Nat} {xs : Nat → Int32} {S : Sys} {w : Wd} (hC : CI w S) (hM : MI w S) (ht : 5 * t + 5 ≤ n) (hn : n ≤ 2560) (hk : 4 ≤ kc) (hs : 24 ≤ ks) (hb : LBack b n xs t (kc - 4) (ks - 24)) : LV b n xs kc ks 1335 [some (.ref 1999), some (.ref 0), some (.ref 47), some (.ref 65), some (.ref 66), some (.int (nI (5 * t))), none, none, none] [] w := by
  refine V_aload_n (i := 1) dL_law_1335 rfl rfl ?_
  refine V_aload_n (i := 0) dL_law_1336 rfl rfl ?_
  refine V_iload dL_law_1337 rfl ?_
  refine V_iconst_n (v := 1) dL_law_1339 (by decide) ?_
  refine V_iadd_n dL_law_1340 ?_
  refine V_sld (i := ((5 * t) + 1)) dL_law_1341 (by omega) (by omega) ?_
  refine V_i2c dL_law_1342 ?_
  have hm1342 : (xs ((5 * t) + 1)).toBitVec.toNat % 65536 < 65536 := Nat.mod_lt _ (by decide)
  refine V_aload_n (i := 3) dL_law_1343 rfl rfl ?_
  refine V_callSH dL_law_1344 (l_countOf hC (Nat.mod_lt _ (by decide))) okL_countOf lkRL_213 rfl rfl (Nat.le_of_ble_eq_true rfl) ⟨Nat.le_of_ble_eq_true rfl, Nat.le_of_ble_eq_true rfl⟩ rfl ⟨by omega, by omega⟩ (fun v9 u1 hu1 => ?_) (fun E9 u1 hu1 => by obtain ⟨h9, _⟩ := hu1; cases h9)
  obtain ⟨e9, hv, hC1, hF1⟩ := hu1
  cases e9
  have hM1 := hM.keepF hF1 (fun b h1 h2 q => by omega)
  have hle : (fCountOf S ((xs ((5 * t) + 1)).toBitVec.toNat % 65536)).1 ≤ 1 := le_countOf
  refine V_istore dL_law_1347 (Nat.le_of_ble_eq_true rfl) rfl rfl ?_
  refine V_aload_n (i := 2) dL_law_1349 rfl rfl ?_
  refine V_aload_n (i := 0) dL_law_1350 rfl rfl ?_
  refine V_iload dL_law_1351 rfl ?_
  refine V_iconst_n (v := 1) dL_law_1353 (by decide) ?_
  refine V_iadd_n dL_law_1354 ?_
  refine V_sld (i := ((5 * t) + 1)) dL_law_1355 (by omega) (by omega) ?_
  refine V_i2c dL_law_1356 ?_
  have hm1356 : (xs ((5 * t) + 1)).toBitVec.toNat % 65536 < 65536 := Nat.mod_lt _ (by decide)
  refine V_callV dL_law_1357 (m_countOf hM1 (Nat.mod_lt _ (by decide))) okX11_countOf lkRL_215 (Or.inr ⟨rfl, Nat.le_of_ble_eq_true rfl⟩) rfl rfl rfl rfl (Nat.le_of_ble_eq_true rfl) ⟨Nat.le_of_ble_eq_true rfl, Nat.le_of_ble_eq_true rfl⟩ rfl ⟨Nat.zero_le _, Nat.zero_le _⟩ (fun v9 u2 hu2 => ?_) (fun E9 w9 h9 => by obtain ⟨⟨x9, h9, _⟩, _⟩ := h9; cases h9)
  obtain ⟨⟨x2, e9, hx2⟩, hM2, ht2, hF2⟩ := hu2
  cases e9
  have hC2 := hC1.keepF hF2 (fun b hb q => by omega)
  refine V_istore dL_law_1360 (Nat.le_of_ble_eq_true rfl) rfl rfl ?_
  refine V_aload_n (i := 2) dL_law_1362 rfl rfl ?_
  refine V_callVF dL_law_1363 (m_thrown (n := (fCountOf S ((xs ((5 * t) + 1)).toBitVec.toNat % 65536)).1) ht2) okX11_thrown lkRL_160 (Or.inr ⟨rfl, Nat.le_of_ble_eq_true rfl⟩) rfl rfl rfl rfl (Nat.le_of_ble_eq_true rfl) ⟨Nat.le_of_ble_eq_true rfl, Nat.le_of_ble_eq_true rfl⟩ rfl ?_
  refine V_iload dL_law_1366 rfl ?_
  refine V_icmp_eq_n (tgt := 1373) dL_law_1368 (by decide) (by omega) (by omega) (fun h1368 => ?_) (fun h1368 => by exfalso; omega)
  refine V_iload dL_law_1373 rfl ?_
  refine V_if_ne_n (tgt := 1390) dL_law_1375 (by decide) (by omega) (fun h1375 => ?_) (fun h1375 => ?_)
  · refine V_goto (tgt := 2878) dL_law_1390 (by decide) ?_
    exact (V_w (by omega) (by omega) (hb _ _ hC2 hM2)).sub (by repeat' (first | exact trivial | exact rfl | constructor))
  · refine V_aload_n (i := 3) dL_law_1378 rfl rfl ?_
    refine V_iconst_n (v := 0) dL_law_1379 (by decide) ?_
    refine V_lald dL_law_1380 (Or.inr ⟨rfl, Nat.le_of_ble_eq_true rfl⟩) rfl (in_n (by omega) (by decide)) ?_
    refine V_topL (y := (fCountOf S ((xs ((5 * t) + 1)).toBitVec.toNat % 65536)).2.1.toInt64) (gl0 hF2 (by omega) (hv h1375)) ?_
    refine V_iload dL_law_1381 rfl ?_
    refine V_top (y := (fCountOf S ((xs ((5 * t) + 1)).toBitVec.toNat % 65536)).2.1) (hx2 h1375) ?_
    refine V_i2l dL_law_1383 ?_
    refine V_lcmp dL_law_1384 ?_
    refine V_top (y := nI 0) (cmp_self _) ?_
    refine V_if_eq_n (tgt := 1390) dL_law_1385 (by decide) (by omega) (fun h1385 => ?_) (fun h1385 => by exfalso; omega)
    refine V_goto (tgt := 2878) dL_law_1390 (by decide) ?_
    exact (V_w (by omega) (by omega) (hb _ _ hC2 hM2)).sub (by repeat' (first | exact trivial | exact rfl | constructor))
set_option maxRecDepth 100000 in
set_option maxHeartbeats 1000000 in
theorem law_c17 {b n t kc ks : Nat} {xs : Nat → Int32} {S : Sys} {w : Wd} (hC : CI w S) (hM : MI w S) (ht : 5 * t + 5 ≤ n) (hn : n ≤ 2560) (hk : 4 ≤ kc) (hs : 24 ≤ ks) (hb : LBack b n xs t (kc - 4) (ks - 24)) : LV b n xs kc ks 1393 [some (.ref 1999), some (.ref 0), some (.ref 47), some (.ref 65), some (.ref 66), some (.int (nI (5 * t))), none, none, none] [] w := by
  refine V_aload_n (i := 1) dL_law_1393 rfl rfl ?_
  refine V_callV dL_law_1394 (c_islandCount hC) okX10_islandCount lkRL_216 (Or.inr ⟨rfl, Nat.le_of_ble_eq_true rfl⟩) rfl rfl rfl rfl (Nat.le_of_ble_eq_true rfl) ⟨Nat.le_of_ble_eq_true rfl, Nat.le_of_ble_eq_true rfl⟩ rfl ⟨by omega, by omega⟩ (fun v9 u1 hu1 => ?_) (fun E9 w9 h9 => by rcases h9 with ⟨⟨h0, h9⟩ | ⟨h0, h9⟩, _⟩ <;> first | (cases h9; done) | exact absurd h0 (Nat.lt_irrefl 0))
  obtain ⟨⟨h0, e9⟩ | ⟨h0, e9⟩, hC1, hF1⟩ := hu1
  · cases e9
    have hM1 := hM.keepF hF1 (fun b h1 h2 q => by have q9 : b < 47 := q; omega)
    refine V_aload_n (i := 2) dL_law_1397 rfl rfl ?_
    refine V_callV dL_law_1398 (m_islandCount hM1) okX11_islandCount lkRL_219 (Or.inr ⟨rfl, Nat.le_of_ble_eq_true rfl⟩) rfl rfl rfl rfl (Nat.le_of_ble_eq_true rfl) ⟨Nat.le_of_ble_eq_true rfl, Nat.le_of_ble_eq_true rfl⟩ rfl ⟨Nat.zero_le _, Nat.zero_le _⟩ (fun v9 u2 hu2 => ?_) (fun E9 w9 h9 => by obtain ⟨⟨x9, h9, _⟩, _⟩ := h9; cases h9)
    obtain ⟨⟨x2, e9, hx2⟩, hM2, ht2, hF2⟩ := hu2
    cases e9
    have hC2 := hC1.keepF hF2 (fun b hb q => by omega)
    refine V_top (y := (fIslandCount S).2.1) (hx2 rfl) ?_
    refine V_icmp_eq (tgt := 2878) dL_law_1401 (by decide) (fun h1401 => ?_) (fun h1401 => by exfalso; exact h1401 rfl)
    exact (V_w (by omega) (by omega) (hb _ _ hC2 hM2)).sub (by repeat' (first | exact trivial | exact rfl | constructor))
  · exact absurd h0 (Nat.lt_irrefl 0)
set_option maxRecDepth 100000 in
set_option maxHeartbeats 1000000 in
theorem law_c18 {b n t kc ks : Nat} {xs : Nat → Int32} {S : Sys} {w : Wd} (hC : CI w S) (hM : MI w S) (ht : 5 * t + 5 ≤ n) (hn : n ≤ 2560) (hk : 4 ≤ kc) (hs : 24 ≤ ks) (hb : LBack b n xs t (kc - 4) (ks - 24)) : LV b n xs kc ks 1406 [some (.ref 1999), some (.ref 0), some (.ref 47), some (.ref 65), some (.ref 66), some (.int (nI (5 * t))), none, none, none] [] w := by
  refine V_aload_n (i := 1) dL_law_1406 rfl rfl ?_
  refine V_callV dL_law_1407 (c_islandCountByMerging hC) okX10_islandCountByMerging lkRL_220 (Or.inr ⟨rfl, Nat.le_of_ble_eq_true rfl⟩) rfl rfl rfl rfl (Nat.le_of_ble_eq_true rfl) ⟨Nat.le_of_ble_eq_true rfl, Nat.le_of_ble_eq_true rfl⟩ rfl ⟨by omega, by omega⟩ (fun v9 u1 hu1 => ?_) (fun E9 w9 h9 => by rcases h9 with ⟨⟨h0, h9⟩ | ⟨h0, h9⟩, _⟩ <;> first | (cases h9; done) | exact absurd h0 (Nat.lt_irrefl 0))
  obtain ⟨⟨h0, e9⟩ | ⟨h0, e9⟩, hC1, hF1⟩ := hu1
  · cases e9
    have hM1 := hM.keepF hF1 (fun b h1 h2 q => by have q9 : b < 47 := q; omega)
    refine V_aload_n (i := 2) dL_law_1410 rfl rfl ?_
    refine V_callV dL_law_1411 (m_islandCountByMerging hM1) okX11_islandCountByMerging lkRL_223 (Or.inr ⟨rfl, Nat.le_of_ble_eq_true rfl⟩) rfl rfl rfl rfl (Nat.le_of_ble_eq_true rfl) ⟨Nat.le_of_ble_eq_true rfl, Nat.le_of_ble_eq_true rfl⟩ rfl ⟨Nat.zero_le _, Nat.zero_le _⟩ (fun v9 u2 hu2 => ?_) (fun E9 w9 h9 => by obtain ⟨⟨x9, h9, _⟩, _⟩ := h9; cases h9)
    obtain ⟨⟨x2, e9, hx2⟩, hM2, ht2, hF2⟩ := hu2
    cases e9
    have hC2 := hC1.keepF hF2 (fun b hb q => by omega)
    refine V_top (y := (fIslandCount S).2.1) (hx2 rfl) ?_
    refine V_icmp_eq (tgt := 2878) dL_law_1414 (by decide) (fun h1414 => ?_) (fun h1414 => by exfalso; exact h1414 rfl)
    exact (V_w (by omega) (by omega) (hb _ _ hC2 hM2)).sub (by repeat' (first | exact trivial | exact rfl | constructor))
  · exact absurd h0 (Nat.lt_irrefl 0)
set_option maxRecDepth 100000 in
set_option maxHeartbeats 1000000 in
theorem law_c19 {b n t kc ks : Nat} {xs : Nat → Int32} {S : Sys} {w : Wd} (hC : CI w S) (hM : MI w S) (ht : 5 * t + 5 ≤ n) (hn : n ≤ 2560) (hk : 4 ≤ kc) (hs : 24 ≤ ks) (hb : LBack b n xs t (kc - 4) (ks - 24)) : LV b n xs kc ks 1419 [some (.ref 1999), some (.ref 0), some (.ref 47), some (.ref 65), some (.ref 66), some (.int (nI (5 * t))), none, none, none] [] w := by
  refine V_aload_n (i := 1) dL_law_1419 rfl rfl ?_
  refine V_aload_n (i := 0) dL_law_1420 rfl rfl ?_
  refine V_iload dL_law_1421 rfl ?_
  refine V_iconst_n (v := 1) dL_law_1423 (by decide) ?_
  refine V_iadd_n dL_law_1424 ?_
  refine V_sld (i := ((5 * t) + 1)) dL_law_1425 (by omega) (by omega) ?_
  refine V_aload_n (i := 0) dL_law_1426 rfl rfl ?_
  refine V_iload dL_law_1427 rfl ?_
  refine V_iconst_n (v := 2) dL_law_1429 (by decide) ?_
  refine V_iadd_n dL_law_1430 ?_
  refine V_sld (i := ((5 * t) + 2)) dL_law_1431 (by omega) (by omega) ?_
  refine V_aload_n (i := 3) dL_law_1432 rfl rfl ?_
  refine V_callSH dL_law_1433 (l_islandSize hC (zI_of _) (zI_of _) (zb1 _) (zb2 _) (zb1 _) (zb2 _)) okL_islandSize lkRL_224 rfl rfl (Nat.le_of_ble_eq_true rfl) ⟨Nat.le_of_ble_eq_true rfl, Nat.le_of_ble_eq_true rfl⟩ rfl ⟨by omega, by omega⟩ (fun v9 u1 hu1 => ?_) (fun E9 u1 hu1 => by obtain ⟨h9, _⟩ := hu1; cases h9)
  obtain ⟨e9, hv, hC1, hF1⟩ := hu1
  cases e9
  have hM1 := hM.keepF hF1 (fun b h1 h2 q => by omega)
  have hle : (fIslandSize S (xs ((5 * t) + 1)).toInt (xs ((5 * t) + 2)).toInt).1 ≤ 2 := le_islandSize
  refine V_istore dL_law_1436 (Nat.le_of_ble_eq_true rfl) rfl rfl ?_
  refine V_aload_n (i := 2) dL_law_1438 rfl rfl ?_
  refine V_aload_n (i := 0) dL_law_1439 rfl rfl ?_
  refine V_iload dL_law_1440 rfl ?_
  refine V_iconst_n (v := 1) dL_law_1442 (by decide) ?_
  refine V_iadd_n dL_law_1443 ?_
  refine V_sld (i := ((5 * t) + 1)) dL_law_1444 (by omega) (by omega) ?_
  refine V_aload_n (i := 0) dL_law_1445 rfl rfl ?_
  refine V_iload dL_law_1446 rfl ?_
  refine V_iconst_n (v := 2) dL_law_1448 (by decide) ?_
  refine V_iadd_n dL_law_1449 ?_
  refine V_sld (i := ((5 * t) + 2)) dL_law_1450 (by omega) (by omega) ?_
  refine V_callV dL_law_1451 (m_islandSize hM1 (zI_of _) (zI_of _) (zb1 _) (zb2 _) (zb1 _) (zb2 _)) okX11_islandSize lkRL_226 (Or.inr ⟨rfl, Nat.le_of_ble_eq_true rfl⟩) rfl rfl rfl rfl (Nat.le_of_ble_eq_true rfl) ⟨Nat.le_of_ble_eq_true rfl, Nat.le_of_ble_eq_true rfl⟩ rfl ⟨Nat.zero_le _, Nat.zero_le _⟩ (fun v9 u2 hu2 => ?_) (fun E9 w9 h9 => by obtain ⟨⟨x9, h9, _⟩, _⟩ := h9; cases h9)
  obtain ⟨⟨x2, e9, hx2⟩, hM2, ht2, hF2⟩ := hu2
  cases e9
  have hC2 := hC1.keepF hF2 (fun b hb q => by omega)
  refine V_istore dL_law_1454 (Nat.le_of_ble_eq_true rfl) rfl rfl ?_
  refine V_aload_n (i := 2) dL_law_1456 rfl rfl ?_
  refine V_callVF dL_law_1457 (m_thrown (n := (fIslandSize S (xs ((5 * t) + 1)).toInt (xs ((5 * t) + 2)).toInt).1) ht2) okX11_thrown lkRL_160 (Or.inr ⟨rfl, Nat.le_of_ble_eq_true rfl⟩) rfl rfl rfl rfl (Nat.le_of_ble_eq_true rfl) ⟨Nat.le_of_ble_eq_true rfl, Nat.le_of_ble_eq_true rfl⟩ rfl ?_
  refine V_iload dL_law_1460 rfl ?_
  refine V_icmp_eq_n (tgt := 1467) dL_law_1462 (by decide) (by omega) (by omega) (fun h1462 => ?_) (fun h1462 => by exfalso; omega)
  refine V_iload dL_law_1467 rfl ?_
  refine V_if_ne_n (tgt := 1484) dL_law_1469 (by decide) (by omega) (fun h1469 => ?_) (fun h1469 => ?_)
  · refine V_goto (tgt := 2878) dL_law_1484 (by decide) ?_
    exact (V_w (by omega) (by omega) (hb _ _ hC2 hM2)).sub (by repeat' (first | exact trivial | exact rfl | constructor))
  · refine V_aload_n (i := 3) dL_law_1472 rfl rfl ?_
    refine V_iconst_n (v := 0) dL_law_1473 (by decide) ?_
    refine V_lald dL_law_1474 (Or.inr ⟨rfl, Nat.le_of_ble_eq_true rfl⟩) rfl (in_n (by omega) (by decide)) ?_
    refine V_topL (y := (fIslandSize S (xs ((5 * t) + 1)).toInt (xs ((5 * t) + 2)).toInt).2.1.toInt64) (gl0 hF2 (by omega) (hv h1469)) ?_
    refine V_iload dL_law_1475 rfl ?_
    refine V_top (y := (fIslandSize S (xs ((5 * t) + 1)).toInt (xs ((5 * t) + 2)).toInt).2.1) (hx2 h1469) ?_
    refine V_i2l dL_law_1477 ?_
    refine V_lcmp dL_law_1478 ?_
    refine V_top (y := nI 0) (cmp_self _) ?_
    refine V_if_eq_n (tgt := 1484) dL_law_1479 (by decide) (by omega) (fun h1479 => ?_) (fun h1479 => by exfalso; omega)
    refine V_goto (tgt := 2878) dL_law_1484 (by decide) ?_
    exact (V_w (by omega) (by omega) (hb _ _ hC2 hM2)).sub (by repeat' (first | exact trivial | exact rfl | constructor))
set_option maxRecDepth 100000 in
set_option maxHeartbeats 1000000 in
theorem law_c20 {b n t kc ks : Nat} {xs : Nat → Int32} {S : Sys} {w : Wd} (hC : CI w S) (hM : MI w S) (ht : 5 * t + 5 ≤ n) (hn : n ≤ 2560) (hk : 4 ≤ kc) (hs : 24 ≤ ks) (hb : LBack b n xs t (kc - 4) (ks - 24)) : LV b n xs kc ks 1487 [some (.ref 1999), some (.ref 0), some (.ref 47), some (.ref 65), some (.ref 66), some (.int (nI (5 * t))), none, none, none] [] w := by
  refine V_aload_n (i := 1) dL_law_1487 rfl rfl ?_
  refine V_callV dL_law_1488 (c_largestIsland hC) okX10_largestIsland lkRL_227 (Or.inr ⟨rfl, Nat.le_of_ble_eq_true rfl⟩) rfl rfl rfl rfl (Nat.le_of_ble_eq_true rfl) ⟨Nat.le_of_ble_eq_true rfl, Nat.le_of_ble_eq_true rfl⟩ rfl ⟨by omega, by omega⟩ (fun v9 u1 hu1 => ?_) (fun E9 w9 h9 => by rcases h9 with ⟨⟨h0, h9⟩ | ⟨h0, h9⟩, _⟩ <;> first | (cases h9; done) | exact absurd h0 (Nat.lt_irrefl 0))
  obtain ⟨⟨h0, e9⟩ | ⟨h0, e9⟩, hC1, hF1⟩ := hu1
  · cases e9
    have hM1 := hM.keepF hF1 (fun b h1 h2 q => by have q9 : b < 47 := q; omega)
    refine V_aload_n (i := 2) dL_law_1491 rfl rfl ?_
    refine V_callV dL_law_1492 (m_largestIsland hM1) okX11_largestIsland lkRL_230 (Or.inr ⟨rfl, Nat.le_of_ble_eq_true rfl⟩) rfl rfl rfl rfl (Nat.le_of_ble_eq_true rfl) ⟨Nat.le_of_ble_eq_true rfl, Nat.le_of_ble_eq_true rfl⟩ rfl ⟨Nat.zero_le _, Nat.zero_le _⟩ (fun v9 u2 hu2 => ?_) (fun E9 w9 h9 => by obtain ⟨⟨x9, h9, _⟩, _⟩ := h9; cases h9)
    obtain ⟨⟨x2, e9, hx2⟩, hM2, ht2, hF2⟩ := hu2
    cases e9
    have hC2 := hC1.keepF hF2 (fun b hb q => by omega)
    refine V_top (y := (fLargestIsland S).2.1) (hx2 rfl) ?_
    refine V_icmp_eq (tgt := 2878) dL_law_1495 (by decide) (fun h1495 => ?_) (fun h1495 => by exfalso; exact h1495 rfl)
    exact (V_w (by omega) (by omega) (hb _ _ hC2 hM2)).sub (by repeat' (first | exact trivial | exact rfl | constructor))
  · exact absurd h0 (Nat.lt_irrefl 0)
set_option maxRecDepth 100000 in
set_option maxHeartbeats 1000000 in
theorem law_c21 {b n t kc ks : Nat} {xs : Nat → Int32} {S : Sys} {w : Wd} (hC : CI w S) (hM : MI w S) (ht : 5 * t + 5 ≤ n) (hn : n ≤ 2560) (hk : 4 ≤ kc) (hs : 24 ≤ ks) (hb : LBack b n xs t (kc - 4) (ks - 24)) : LV b n xs kc ks 1500 [some (.ref 1999), some (.ref 0), some (.ref 47), some (.ref 65), some (.ref 66), some (.int (nI (5 * t))), none, none, none] [] w := by
  refine V_aload_n (i := 1) dL_law_1500 rfl rfl ?_
  refine V_aload_n (i := 0) dL_law_1501 rfl rfl ?_
  refine V_iload dL_law_1502 rfl ?_
  refine V_iconst_n (v := 1) dL_law_1504 (by decide) ?_
  refine V_iadd_n dL_law_1505 ?_
  refine V_sld (i := ((5 * t) + 1)) dL_law_1506 (by omega) (by omega) ?_
  refine V_i2c dL_law_1507 ?_
  have hm1507 : (xs ((5 * t) + 1)).toBitVec.toNat % 65536 < 65536 := Nat.mod_lt _ (by decide)
  refine V_aload_n (i := 3) dL_law_1508 rfl rfl ?_
  refine V_callSH dL_law_1509 (l_islandsOf hC (Nat.mod_lt _ (by decide))) okL_islandsOf lkRL_231 rfl rfl (Nat.le_of_ble_eq_true rfl) ⟨Nat.le_of_ble_eq_true rfl, Nat.le_of_ble_eq_true rfl⟩ rfl ⟨by omega, by omega⟩ (fun v9 u1 hu1 => ?_) (fun E9 u1 hu1 => by obtain ⟨h9, _⟩ := hu1; cases h9)
  obtain ⟨e9, hv, hC1, hF1⟩ := hu1
  cases e9
  have hM1 := hM.keepF hF1 (fun b h1 h2 q => by omega)
  have hle : (fIslandsOf S ((xs ((5 * t) + 1)).toBitVec.toNat % 65536)).1 ≤ 1 := le_islandsOf
  refine V_istore dL_law_1512 (Nat.le_of_ble_eq_true rfl) rfl rfl ?_
  refine V_aload_n (i := 2) dL_law_1514 rfl rfl ?_
  refine V_aload_n (i := 0) dL_law_1515 rfl rfl ?_
  refine V_iload dL_law_1516 rfl ?_
  refine V_iconst_n (v := 1) dL_law_1518 (by decide) ?_
  refine V_iadd_n dL_law_1519 ?_
  refine V_sld (i := ((5 * t) + 1)) dL_law_1520 (by omega) (by omega) ?_
  refine V_i2c dL_law_1521 ?_
  have hm1521 : (xs ((5 * t) + 1)).toBitVec.toNat % 65536 < 65536 := Nat.mod_lt _ (by decide)
  refine V_callV dL_law_1522 (m_islandsOf hM1 (Nat.mod_lt _ (by decide))) okX11_islandsOf lkRL_233 (Or.inr ⟨rfl, Nat.le_of_ble_eq_true rfl⟩) rfl rfl rfl rfl (Nat.le_of_ble_eq_true rfl) ⟨Nat.le_of_ble_eq_true rfl, Nat.le_of_ble_eq_true rfl⟩ rfl ⟨Nat.zero_le _, Nat.zero_le _⟩ (fun v9 u2 hu2 => ?_) (fun E9 w9 h9 => by obtain ⟨⟨x9, h9, _⟩, _⟩ := h9; cases h9)
  obtain ⟨⟨x2, e9, hx2⟩, hM2, ht2, hF2⟩ := hu2
  cases e9
  have hC2 := hC1.keepF hF2 (fun b hb q => by omega)
  refine V_istore dL_law_1525 (Nat.le_of_ble_eq_true rfl) rfl rfl ?_
  refine V_aload_n (i := 2) dL_law_1527 rfl rfl ?_
  refine V_callVF dL_law_1528 (m_thrown (n := (fIslandsOf S ((xs ((5 * t) + 1)).toBitVec.toNat % 65536)).1) ht2) okX11_thrown lkRL_160 (Or.inr ⟨rfl, Nat.le_of_ble_eq_true rfl⟩) rfl rfl rfl rfl (Nat.le_of_ble_eq_true rfl) ⟨Nat.le_of_ble_eq_true rfl, Nat.le_of_ble_eq_true rfl⟩ rfl ?_
  refine V_iload dL_law_1531 rfl ?_
  refine V_icmp_eq_n (tgt := 1538) dL_law_1533 (by decide) (by omega) (by omega) (fun h1533 => ?_) (fun h1533 => by exfalso; omega)
  refine V_iload dL_law_1538 rfl ?_
  refine V_if_ne_n (tgt := 1555) dL_law_1540 (by decide) (by omega) (fun h1540 => ?_) (fun h1540 => ?_)
  · refine V_goto (tgt := 2878) dL_law_1555 (by decide) ?_
    exact (V_w (by omega) (by omega) (hb _ _ hC2 hM2)).sub (by repeat' (first | exact trivial | exact rfl | constructor))
  · refine V_aload_n (i := 3) dL_law_1543 rfl rfl ?_
    refine V_iconst_n (v := 0) dL_law_1544 (by decide) ?_
    refine V_lald dL_law_1545 (Or.inr ⟨rfl, Nat.le_of_ble_eq_true rfl⟩) rfl (in_n (by omega) (by decide)) ?_
    refine V_topL (y := (fIslandsOf S ((xs ((5 * t) + 1)).toBitVec.toNat % 65536)).2.1.toInt64) (gl0 hF2 (by omega) (hv h1540)) ?_
    refine V_iload dL_law_1546 rfl ?_
    refine V_top (y := (fIslandsOf S ((xs ((5 * t) + 1)).toBitVec.toNat % 65536)).2.1) (hx2 h1540) ?_
    refine V_i2l dL_law_1548 ?_
    refine V_lcmp dL_law_1549 ?_
    refine V_top (y := nI 0) (cmp_self _) ?_
    refine V_if_eq_n (tgt := 1555) dL_law_1550 (by decide) (by omega) (fun h1550 => ?_) (fun h1550 => by exfalso; omega)
    refine V_goto (tgt := 2878) dL_law_1555 (by decide) ?_
    exact (V_w (by omega) (by omega) (hb _ _ hC2 hM2)).sub (by repeat' (first | exact trivial | exact rfl | constructor))
set_option maxRecDepth 100000 in
set_option maxHeartbeats 1000000 in
theorem law_c22 {b n t kc ks : Nat} {xs : Nat → Int32} {S : Sys} {w : Wd} (hC : CI w S) (hM : MI w S) (ht : 5 * t + 5 ≤ n) (hn : n ≤ 2560) (hk : 4 ≤ kc) (hs : 24 ≤ ks) (hb : LBack b n xs t (kc - 4) (ks - 24)) : LV b n xs kc ks 1558 [some (.ref 1999), some (.ref 0), some (.ref 47), some (.ref 65), some (.ref 66), some (.int (nI (5 * t))), none, none, none] [] w := by
  refine V_aload_n (i := 1) dL_law_1558 rfl rfl ?_
  refine V_aload_n (i := 0) dL_law_1559 rfl rfl ?_
  refine V_iload dL_law_1560 rfl ?_
  refine V_iconst_n (v := 1) dL_law_1562 (by decide) ?_
  refine V_iadd_n dL_law_1563 ?_
  refine V_sld (i := ((5 * t) + 1)) dL_law_1564 (by omega) (by omega) ?_
  refine V_aload_n (i := 0) dL_law_1565 rfl rfl ?_
  refine V_iload dL_law_1566 rfl ?_
  refine V_iconst_n (v := 2) dL_law_1568 (by decide) ?_
  refine V_iadd_n dL_law_1569 ?_
  refine V_sld (i := ((5 * t) + 2)) dL_law_1570 (by omega) (by omega) ?_
  refine V_aload_n (i := 0) dL_law_1571 rfl rfl ?_
  refine V_iload dL_law_1572 rfl ?_
  refine V_iconst_n (v := 3) dL_law_1574 (by decide) ?_
  refine V_iadd_n dL_law_1575 ?_
  refine V_sld (i := ((5 * t) + 3)) dL_law_1576 (by omega) (by omega) ?_
  refine V_aload_n (i := 0) dL_law_1577 rfl rfl ?_
  refine V_iload dL_law_1578 rfl ?_
  refine V_iconst_n (v := 4) dL_law_1580 (by decide) ?_
  refine V_iadd_n dL_law_1581 ?_
  refine V_sld (i := ((5 * t) + 4)) dL_law_1582 (by omega) (by omega) ?_
  refine V_aload_n (i := 3) dL_law_1583 rfl rfl ?_
  refine V_callSH dL_law_1584 (l_isJoined hC (zI_of _) (zI_of _) (zI_of _) (zI_of _) (zb1 _) (zb2 _) (zb1 _) (zb2 _) (zb1 _) (zb2 _) (zb1 _) (zb2 _)) okL_isJoined lkRL_234 rfl rfl (Nat.le_of_ble_eq_true rfl) ⟨Nat.le_of_ble_eq_true rfl, Nat.le_of_ble_eq_true rfl⟩ rfl ⟨by omega, by omega⟩ (fun v9 u1 hu1 => ?_) (fun E9 u1 hu1 => by obtain ⟨h9, _⟩ := hu1; cases h9)
  obtain ⟨e9, hv, hC1, hF1⟩ := hu1
  cases e9
  have hM1 := hM.keepF hF1 (fun b h1 h2 q => by omega)
  have hle : (fIsJoined S (xs ((5 * t) + 1)).toInt (xs ((5 * t) + 2)).toInt (xs ((5 * t) + 3)).toInt (xs ((5 * t) + 4)).toInt).1 ≤ 1 := le_isJoined
  refine V_istore dL_law_1587 (Nat.le_of_ble_eq_true rfl) rfl rfl ?_
  refine V_aload_n (i := 2) dL_law_1589 rfl rfl ?_
  refine V_aload_n (i := 0) dL_law_1590 rfl rfl ?_
  refine V_iload dL_law_1591 rfl ?_
  refine V_iconst_n (v := 1) dL_law_1593 (by decide) ?_
  refine V_iadd_n dL_law_1594 ?_
  refine V_sld (i := ((5 * t) + 1)) dL_law_1595 (by omega) (by omega) ?_
  refine V_aload_n (i := 0) dL_law_1596 rfl rfl ?_
  refine V_iload dL_law_1597 rfl ?_
  refine V_iconst_n (v := 2) dL_law_1599 (by decide) ?_
  refine V_iadd_n dL_law_1600 ?_
  refine V_sld (i := ((5 * t) + 2)) dL_law_1601 (by omega) (by omega) ?_
  refine V_aload_n (i := 0) dL_law_1602 rfl rfl ?_
  refine V_iload dL_law_1603 rfl ?_
  refine V_iconst_n (v := 3) dL_law_1605 (by decide) ?_
  refine V_iadd_n dL_law_1606 ?_
  refine V_sld (i := ((5 * t) + 3)) dL_law_1607 (by omega) (by omega) ?_
  refine V_aload_n (i := 0) dL_law_1608 rfl rfl ?_
  refine V_iload dL_law_1609 rfl ?_
  refine V_iconst_n (v := 4) dL_law_1611 (by decide) ?_
  refine V_iadd_n dL_law_1612 ?_
  refine V_sld (i := ((5 * t) + 4)) dL_law_1613 (by omega) (by omega) ?_
  refine V_callV dL_law_1614 (m_isJoined hM1 (zI_of _) (zI_of _) (zI_of _) (zI_of _) (zb1 _) (zb2 _) (zb1 _) (zb2 _) (zb1 _) (zb2 _) (zb1 _) (zb2 _)) okX11_isJoined lkRL_237 (Or.inr ⟨rfl, Nat.le_of_ble_eq_true rfl⟩) rfl rfl rfl rfl (Nat.le_of_ble_eq_true rfl) ⟨Nat.le_of_ble_eq_true rfl, Nat.le_of_ble_eq_true rfl⟩ rfl ⟨Nat.zero_le _, Nat.zero_le _⟩ (fun v9 u2 hu2 => ?_) (fun E9 w9 h9 => by obtain ⟨⟨x9, h9, _⟩, _⟩ := h9; cases h9)
  obtain ⟨⟨x2, e9, hx2⟩, hM2, ht2, hF2⟩ := hu2
  cases e9
  have hC2 := hC1.keepF hF2 (fun b hb q => by omega)
  refine V_istore dL_law_1617 (Nat.le_of_ble_eq_true rfl) rfl rfl ?_
  refine V_aload_n (i := 2) dL_law_1619 rfl rfl ?_
  refine V_callVF dL_law_1620 (m_thrown (n := (fIsJoined S (xs ((5 * t) + 1)).toInt (xs ((5 * t) + 2)).toInt (xs ((5 * t) + 3)).toInt (xs ((5 * t) + 4)).toInt).1) ht2) okX11_thrown lkRL_160 (Or.inr ⟨rfl, Nat.le_of_ble_eq_true rfl⟩) rfl rfl rfl rfl (Nat.le_of_ble_eq_true rfl) ⟨Nat.le_of_ble_eq_true rfl, Nat.le_of_ble_eq_true rfl⟩ rfl ?_
  refine V_iload dL_law_1623 rfl ?_
  refine V_icmp_eq_n (tgt := 1630) dL_law_1625 (by decide) (by omega) (by omega) (fun h1625 => ?_) (fun h1625 => by exfalso; omega)
  refine V_iload dL_law_1630 rfl ?_
  refine V_if_ne_n (tgt := 1654) dL_law_1632 (by decide) (by omega) (fun h1632 => ?_) (fun h1632 => ?_)
  · refine V_goto (tgt := 2878) dL_law_1654 (by decide) ?_
    exact (V_w (by omega) (by omega) (hb _ _ hC2 hM2)).sub (by repeat' (first | exact trivial | exact rfl | constructor))
  · refine V_aload_n (i := 3) dL_law_1635 rfl rfl ?_
    refine V_iconst_n (v := 0) dL_law_1636 (by decide) ?_
    refine V_lald dL_law_1637 (Or.inr ⟨rfl, Nat.le_of_ble_eq_true rfl⟩) rfl (in_n (by omega) (by decide)) ?_
    refine V_topL (y := (if (fIsJoined S (xs ((5 * t) + 1)).toInt (xs ((5 * t) + 2)).toInt (xs ((5 * t) + 3)).toInt (xs ((5 * t) + 4)).toInt).2.1 = 0 then 0 else 1)) (gl0 hF2 (by omega) (hv h1632)) ?_
    refine V_iload dL_law_1638 rfl ?_
    refine V_top (y := (fIsJoined S (xs ((5 * t) + 1)).toInt (xs ((5 * t) + 2)).toInt (xs ((5 * t) + 3)).toInt (xs ((5 * t) + 4)).toInt).2.1) (hx2 h1632) ?_
    refine V_if_eq (tgt := 1647) dL_law_1640 (by decide) (fun h1640 => ?_) (fun h1640 => ?_)
    · have hz9 : (fIsJoined S (xs ((5 * t) + 1)).toInt (xs ((5 * t) + 2)).toInt (xs ((5 * t) + 3)).toInt (xs ((5 * t) + 4)).toInt).2.1 = 0 := h1640
      refine V_lconst (v := 0) dL_law_1647 rfl ?_
      refine V_lcmp dL_law_1648 ?_
      refine V_top (y := nI 0) (by rw [if_pos hz9]; exact cmp_self _) ?_
      refine V_if_eq_n (tgt := 1654) dL_law_1649 (by decide) (by omega) (fun h1649 => ?_) (fun h1649 => by exfalso; omega)
      refine V_goto (tgt := 2878) dL_law_1654 (by decide) ?_
      exact (V_w (by omega) (by omega) (hb _ _ hC2 hM2)).sub (by repeat' (first | exact trivial | exact rfl | constructor))
    · have hz9 : ¬ (fIsJoined S (xs ((5 * t) + 1)).toInt (xs ((5 * t) + 2)).toInt (xs ((5 * t) + 3)).toInt (xs ((5 * t) + 4)).toInt).2.1 = 0 := h1640
      refine V_lconst (v := 1) dL_law_1643 rfl ?_
      refine V_goto (tgt := 1648) dL_law_1644 (by decide) ?_
      refine V_lcmp dL_law_1648 ?_
      refine V_top (y := nI 0) (by rw [if_neg hz9]; exact cmp_self _) ?_
      refine V_if_eq_n (tgt := 1654) dL_law_1649 (by decide) (by omega) (fun h1649 => ?_) (fun h1649 => by exfalso; omega)
      refine V_goto (tgt := 2878) dL_law_1654 (by decide) ?_
      exact (V_w (by omega) (by omega) (hb _ _ hC2 hM2)).sub (by repeat' (first | exact trivial | exact rfl | constructor))
set_option maxRecDepth 100000 in
set_option maxHeartbeats 1000000 in
theorem law_c23 {b n t kc ks : Nat} {xs : Nat → Int32} {S : Sys} {w : Wd} (hC : CI w S) (hM : MI w S) (ht : 5 * t + 5 ≤ n) (hn : n ≤ 2560) (hk : 4 ≤ kc) (hs : 24 ≤ ks) (hb : LBack b n xs t (kc - 4) (ks - 24)) : LV b n xs kc ks 1657 [some (.ref 1999), some (.ref 0), some (.ref 47), some (.ref 65), some (.ref 66), some (.int (nI (5 * t))), none, none, none] [] w := by
  refine V_aload_n (i := 1) dL_law_1657 rfl rfl ?_
  refine V_aload_n (i := 0) dL_law_1658 rfl rfl ?_
  refine V_iload dL_law_1659 rfl ?_
  refine V_iconst_n (v := 1) dL_law_1661 (by decide) ?_
  refine V_iadd_n dL_law_1662 ?_
  refine V_sld (i := ((5 * t) + 1)) dL_law_1663 (by omega) (by omega) ?_
  refine V_aload_n (i := 3) dL_law_1664 rfl rfl ?_
  refine V_callSH dL_law_1665 (l_passTides hC (zI_of _) (zb1 _) (zb2 _)) okL_passTides lkRL_238 rfl rfl (Nat.le_of_ble_eq_true rfl) ⟨Nat.le_of_ble_eq_true rfl, Nat.le_of_ble_eq_true rfl⟩ rfl ⟨by omega, by omega⟩ (fun v9 u1 hu1 => ?_) (fun E9 u1 hu1 => by obtain ⟨h9, _⟩ := hu1; cases h9)
  obtain ⟨e9, hv, hC1, hF1⟩ := hu1
  cases e9
  have hM1 := hM.keepF hF1 (fun b h1 h2 q => by omega)
  have hle : (fPassTides S (xs ((5 * t) + 1)).toInt).1 ≤ 1 := le_passTides
  refine V_istore dL_law_1668 (Nat.le_of_ble_eq_true rfl) rfl rfl ?_
  refine V_aload_n (i := 2) dL_law_1670 rfl rfl ?_
  refine V_aload_n (i := 0) dL_law_1671 rfl rfl ?_
  refine V_iload dL_law_1672 rfl ?_
  refine V_iconst_n (v := 1) dL_law_1674 (by decide) ?_
  refine V_iadd_n dL_law_1675 ?_
  refine V_sld (i := ((5 * t) + 1)) dL_law_1676 (by omega) (by omega) ?_
  refine V_callV dL_law_1677 (m_passTides hM1 (zI_of _) (zb1 _) (zb2 _)) okX11_passTides lkRL_241 (Or.inr ⟨rfl, Nat.le_of_ble_eq_true rfl⟩) rfl rfl rfl rfl (Nat.le_of_ble_eq_true rfl) ⟨Nat.le_of_ble_eq_true rfl, Nat.le_of_ble_eq_true rfl⟩ rfl ⟨Nat.zero_le _, Nat.zero_le _⟩ (fun v9 u2 hu2 => ?_) (fun E9 w9 h9 => by obtain ⟨⟨x9, h9, _⟩, _⟩ := h9; cases h9)
  obtain ⟨⟨x2, e9, hx2⟩, hM2, ht2, hF2⟩ := hu2
  cases e9
  have hC2 := hC1.keepF hF2 (fun b hb q => by omega)
  refine V_istore dL_law_1680 (Nat.le_of_ble_eq_true rfl) rfl rfl ?_
  refine V_aload_n (i := 2) dL_law_1682 rfl rfl ?_
  refine V_callVF dL_law_1683 (m_thrown (n := (fPassTides S (xs ((5 * t) + 1)).toInt).1) ht2) okX11_thrown lkRL_160 (Or.inr ⟨rfl, Nat.le_of_ble_eq_true rfl⟩) rfl rfl rfl rfl (Nat.le_of_ble_eq_true rfl) ⟨Nat.le_of_ble_eq_true rfl, Nat.le_of_ble_eq_true rfl⟩ rfl ?_
  refine V_iload dL_law_1686 rfl ?_
  refine V_icmp_eq_n (tgt := 1693) dL_law_1688 (by decide) (by omega) (by omega) (fun h1688 => ?_) (fun h1688 => by exfalso; omega)
  refine V_iload dL_law_1693 rfl ?_
  refine V_if_ne_n (tgt := 1710) dL_law_1695 (by decide) (by omega) (fun h1695 => ?_) (fun h1695 => ?_)
  · refine V_goto (tgt := 2878) dL_law_1710 (by decide) ?_
    exact (V_w (by omega) (by omega) (hb _ _ hC2 hM2)).sub (by repeat' (first | exact trivial | exact rfl | constructor))
  · refine V_aload_n (i := 3) dL_law_1698 rfl rfl ?_
    refine V_iconst_n (v := 0) dL_law_1699 (by decide) ?_
    refine V_lald dL_law_1700 (Or.inr ⟨rfl, Nat.le_of_ble_eq_true rfl⟩) rfl (in_n (by omega) (by decide)) ?_
    refine V_topL (y := (fPassTides S (xs ((5 * t) + 1)).toInt).2.1.toInt64) (gl0 hF2 (by omega) (hv h1695)) ?_
    refine V_iload dL_law_1701 rfl ?_
    refine V_top (y := (fPassTides S (xs ((5 * t) + 1)).toInt).2.1) (hx2 h1695) ?_
    refine V_i2l dL_law_1703 ?_
    refine V_lcmp dL_law_1704 ?_
    refine V_top (y := nI 0) (cmp_self _) ?_
    refine V_if_eq_n (tgt := 1710) dL_law_1705 (by decide) (by omega) (fun h1705 => ?_) (fun h1705 => by exfalso; omega)
    refine V_goto (tgt := 2878) dL_law_1710 (by decide) ?_
    exact (V_w (by omega) (by omega) (hb _ _ hC2 hM2)).sub (by repeat' (first | exact trivial | exact rfl | constructor))
set_option maxRecDepth 100000 in
set_option maxHeartbeats 1000000 in
theorem law_c24 {b n t kc ks : Nat} {xs : Nat → Int32} {S : Sys} {w : Wd} (hC : CI w S) (hM : MI w S) (ht : 5 * t + 5 ≤ n) (hn : n ≤ 2560) (hk : 4 ≤ kc) (hs : 24 ≤ ks) (hb : LBack b n xs t (kc - 4) (ks - 24)) : LV b n xs kc ks 1713 [some (.ref 1999), some (.ref 0), some (.ref 47), some (.ref 65), some (.ref 66), some (.int (nI (5 * t))), none, none, none] [] w := by
  refine V_aload_n (i := 1) dL_law_1713 rfl rfl ?_
  refine V_aload_n (i := 0) dL_law_1714 rfl rfl ?_
  refine V_iload dL_law_1715 rfl ?_
  refine V_iconst_n (v := 1) dL_law_1717 (by decide) ?_
  refine V_iadd_n dL_law_1718 ?_
  refine V_sld (i := ((5 * t) + 1)) dL_law_1719 (by omega) (by omega) ?_
  refine V_aload_n (i := 0) dL_law_1720 rfl rfl ?_
  refine V_iload dL_law_1721 rfl ?_
  refine V_iconst_n (v := 2) dL_law_1723 (by decide) ?_
  refine V_iadd_n dL_law_1724 ?_
  refine V_sld (i := ((5 * t) + 2)) dL_law_1725 (by omega) (by omega) ?_
  refine V_aload_n (i := 3) dL_law_1726 rfl rfl ?_
  refine V_callSH dL_law_1727 (l_wouldLive hC (zI_of _) (zI_of _) (zb1 _) (zb2 _) (zb1 _) (zb2 _)) okL_wouldLive lkRL_242 rfl rfl (Nat.le_of_ble_eq_true rfl) ⟨Nat.le_of_ble_eq_true rfl, Nat.le_of_ble_eq_true rfl⟩ rfl ⟨by omega, by omega⟩ (fun v9 u1 hu1 => ?_) (fun E9 u1 hu1 => by obtain ⟨h9, _⟩ := hu1; cases h9)
  obtain ⟨e9, hv, hC1, hF1⟩ := hu1
  cases e9
  have hM1 := hM.keepF hF1 (fun b h1 h2 q => by omega)
  have hle : (fWouldLive S (xs ((5 * t) + 1)).toInt (xs ((5 * t) + 2)).toInt).1 ≤ 1 := le_wouldLive
  refine V_istore dL_law_1730 (Nat.le_of_ble_eq_true rfl) rfl rfl ?_
  refine V_aload_n (i := 2) dL_law_1732 rfl rfl ?_
  refine V_aload_n (i := 0) dL_law_1733 rfl rfl ?_
  refine V_iload dL_law_1734 rfl ?_
  refine V_iconst_n (v := 1) dL_law_1736 (by decide) ?_
  refine V_iadd_n dL_law_1737 ?_
  refine V_sld (i := ((5 * t) + 1)) dL_law_1738 (by omega) (by omega) ?_
  refine V_aload_n (i := 0) dL_law_1739 rfl rfl ?_
  refine V_iload dL_law_1740 rfl ?_
  refine V_iconst_n (v := 2) dL_law_1742 (by decide) ?_
  refine V_iadd_n dL_law_1743 ?_
  refine V_sld (i := ((5 * t) + 2)) dL_law_1744 (by omega) (by omega) ?_
  refine V_callV dL_law_1745 (m_wouldLive hM1 (zI_of _) (zI_of _) (zb1 _) (zb2 _) (zb1 _) (zb2 _)) okX11_wouldLive lkRL_244 (Or.inr ⟨rfl, Nat.le_of_ble_eq_true rfl⟩) rfl rfl rfl rfl (Nat.le_of_ble_eq_true rfl) ⟨Nat.le_of_ble_eq_true rfl, Nat.le_of_ble_eq_true rfl⟩ rfl ⟨Nat.zero_le _, Nat.zero_le _⟩ (fun v9 u2 hu2 => ?_) (fun E9 w9 h9 => by obtain ⟨⟨x9, h9, _⟩, _⟩ := h9; cases h9)
  obtain ⟨⟨x2, e9, hx2⟩, hM2, ht2, hF2⟩ := hu2
  cases e9
  have hC2 := hC1.keepF hF2 (fun b hb q => by omega)
  refine V_istore dL_law_1748 (Nat.le_of_ble_eq_true rfl) rfl rfl ?_
  refine V_aload_n (i := 2) dL_law_1750 rfl rfl ?_
  refine V_callVF dL_law_1751 (m_thrown (n := (fWouldLive S (xs ((5 * t) + 1)).toInt (xs ((5 * t) + 2)).toInt).1) ht2) okX11_thrown lkRL_160 (Or.inr ⟨rfl, Nat.le_of_ble_eq_true rfl⟩) rfl rfl rfl rfl (Nat.le_of_ble_eq_true rfl) ⟨Nat.le_of_ble_eq_true rfl, Nat.le_of_ble_eq_true rfl⟩ rfl ?_
  refine V_iload dL_law_1754 rfl ?_
  refine V_icmp_eq_n (tgt := 1761) dL_law_1756 (by decide) (by omega) (by omega) (fun h1756 => ?_) (fun h1756 => by exfalso; omega)
  refine V_iload dL_law_1761 rfl ?_
  refine V_if_ne_n (tgt := 1785) dL_law_1763 (by decide) (by omega) (fun h1763 => ?_) (fun h1763 => ?_)
  · refine V_goto (tgt := 2878) dL_law_1785 (by decide) ?_
    exact (V_w (by omega) (by omega) (hb _ _ hC2 hM2)).sub (by repeat' (first | exact trivial | exact rfl | constructor))
  · refine V_aload_n (i := 3) dL_law_1766 rfl rfl ?_
    refine V_iconst_n (v := 0) dL_law_1767 (by decide) ?_
    refine V_lald dL_law_1768 (Or.inr ⟨rfl, Nat.le_of_ble_eq_true rfl⟩) rfl (in_n (by omega) (by decide)) ?_
    refine V_topL (y := (if (fWouldLive S (xs ((5 * t) + 1)).toInt (xs ((5 * t) + 2)).toInt).2.1 = 0 then 0 else 1)) (gl0 hF2 (by omega) (hv h1763)) ?_
    refine V_iload dL_law_1769 rfl ?_
    refine V_top (y := (fWouldLive S (xs ((5 * t) + 1)).toInt (xs ((5 * t) + 2)).toInt).2.1) (hx2 h1763) ?_
    refine V_if_eq (tgt := 1778) dL_law_1771 (by decide) (fun h1771 => ?_) (fun h1771 => ?_)
    · have hz9 : (fWouldLive S (xs ((5 * t) + 1)).toInt (xs ((5 * t) + 2)).toInt).2.1 = 0 := h1771
      refine V_lconst (v := 0) dL_law_1778 rfl ?_
      refine V_lcmp dL_law_1779 ?_
      refine V_top (y := nI 0) (by rw [if_pos hz9]; exact cmp_self _) ?_
      refine V_if_eq_n (tgt := 1785) dL_law_1780 (by decide) (by omega) (fun h1780 => ?_) (fun h1780 => by exfalso; omega)
      refine V_goto (tgt := 2878) dL_law_1785 (by decide) ?_
      exact (V_w (by omega) (by omega) (hb _ _ hC2 hM2)).sub (by repeat' (first | exact trivial | exact rfl | constructor))
    · have hz9 : ¬ (fWouldLive S (xs ((5 * t) + 1)).toInt (xs ((5 * t) + 2)).toInt).2.1 = 0 := h1771
      refine V_lconst (v := 1) dL_law_1774 rfl ?_
      refine V_goto (tgt := 1779) dL_law_1775 (by decide) ?_
      refine V_lcmp dL_law_1779 ?_
      refine V_top (y := nI 0) (by rw [if_neg hz9]; exact cmp_self _) ?_
      refine V_if_eq_n (tgt := 1785) dL_law_1780 (by decide) (by omega) (fun h1780 => ?_) (fun h1780 => by exfalso; omega)
      refine V_goto (tgt := 2878) dL_law_1785 (by decide) ?_
      exact (V_w (by omega) (by omega) (hb _ _ hC2 hM2)).sub (by repeat' (first | exact trivial | exact rfl | constructor))
set_option maxRecDepth 100000 in
set_option maxHeartbeats 1000000 in
theorem law_c25 {b n t kc ks : Nat} {xs : Nat → Int32} {S : Sys} {w : Wd} (hC : CI w S) (hM : MI w S) (ht : 5 * t + 5 ≤ n) (hn : n ≤ 2560) (hk : 4 ≤ kc) (hs : 24 ≤ ks) (hb : LBack b n xs t (kc - 4) (ks - 24)) : LV b n xs kc ks 1788 [some (.ref 1999), some (.ref 0), some (.ref 47), some (.ref 65), some (.ref 66), some (.int (nI (5 * t))), none, none, none] [] w := by
  refine V_aload_n (i := 1) dL_law_1788 rfl rfl ?_
  refine V_aload_n (i := 0) dL_law_1789 rfl rfl ?_
  refine V_iload dL_law_1790 rfl ?_
  refine V_iconst_n (v := 1) dL_law_1792 (by decide) ?_
  refine V_iadd_n dL_law_1793 ?_
  refine V_sld (i := ((5 * t) + 1)) dL_law_1794 (by omega) (by omega) ?_
  refine V_aload_n (i := 3) dL_law_1795 rfl rfl ?_
  refine V_callSH dL_law_1796 (l_livingAfter hC (zI_of _) (zb1 _) (zb2 _)) okL_livingAfter lkRL_245 rfl rfl (Nat.le_of_ble_eq_true rfl) ⟨Nat.le_of_ble_eq_true rfl, Nat.le_of_ble_eq_true rfl⟩ rfl ⟨by omega, by omega⟩ (fun v9 u1 hu1 => ?_) (fun E9 u1 hu1 => by obtain ⟨h9, _⟩ := hu1; cases h9)
  obtain ⟨e9, hv, hC1, hF1⟩ := hu1
  cases e9
  have hM1 := hM.keepF hF1 (fun b h1 h2 q => by omega)
  have hle : (fLivingAfter S (xs ((5 * t) + 1)).toInt).1 ≤ 1 := le_livingAfter
  refine V_istore dL_law_1799 (Nat.le_of_ble_eq_true rfl) rfl rfl ?_
  refine V_aload_n (i := 2) dL_law_1801 rfl rfl ?_
  refine V_aload_n (i := 0) dL_law_1802 rfl rfl ?_
  refine V_iload dL_law_1803 rfl ?_
  refine V_iconst_n (v := 1) dL_law_1805 (by decide) ?_
  refine V_iadd_n dL_law_1806 ?_
  refine V_sld (i := ((5 * t) + 1)) dL_law_1807 (by omega) (by omega) ?_
  refine V_callV dL_law_1808 (m_livingAfter hM1 (zI_of _) (zb1 _) (zb2 _)) okX11_livingAfter lkRL_247 (Or.inr ⟨rfl, Nat.le_of_ble_eq_true rfl⟩) rfl rfl rfl rfl (Nat.le_of_ble_eq_true rfl) ⟨Nat.le_of_ble_eq_true rfl, Nat.le_of_ble_eq_true rfl⟩ rfl ⟨Nat.zero_le _, Nat.zero_le _⟩ (fun v9 u2 hu2 => ?_) (fun E9 w9 h9 => by obtain ⟨⟨x9, h9, _⟩, _⟩ := h9; cases h9)
  obtain ⟨⟨x2, e9, hx2⟩, hM2, ht2, hF2⟩ := hu2
  cases e9
  have hC2 := hC1.keepF hF2 (fun b hb q => by omega)
  refine V_istore dL_law_1811 (Nat.le_of_ble_eq_true rfl) rfl rfl ?_
  refine V_aload_n (i := 2) dL_law_1813 rfl rfl ?_
  refine V_callVF dL_law_1814 (m_thrown (n := (fLivingAfter S (xs ((5 * t) + 1)).toInt).1) ht2) okX11_thrown lkRL_160 (Or.inr ⟨rfl, Nat.le_of_ble_eq_true rfl⟩) rfl rfl rfl rfl (Nat.le_of_ble_eq_true rfl) ⟨Nat.le_of_ble_eq_true rfl, Nat.le_of_ble_eq_true rfl⟩ rfl ?_
  refine V_iload dL_law_1817 rfl ?_
  refine V_icmp_eq_n (tgt := 1824) dL_law_1819 (by decide) (by omega) (by omega) (fun h1819 => ?_) (fun h1819 => by exfalso; omega)
  refine V_iload dL_law_1824 rfl ?_
  refine V_if_ne_n (tgt := 1841) dL_law_1826 (by decide) (by omega) (fun h1826 => ?_) (fun h1826 => ?_)
  · refine V_goto (tgt := 2878) dL_law_1841 (by decide) ?_
    exact (V_w (by omega) (by omega) (hb _ _ hC2 hM2)).sub (by repeat' (first | exact trivial | exact rfl | constructor))
  · refine V_aload_n (i := 3) dL_law_1829 rfl rfl ?_
    refine V_iconst_n (v := 0) dL_law_1830 (by decide) ?_
    refine V_lald dL_law_1831 (Or.inr ⟨rfl, Nat.le_of_ble_eq_true rfl⟩) rfl (in_n (by omega) (by decide)) ?_
    refine V_topL (y := (fLivingAfter S (xs ((5 * t) + 1)).toInt).2.1.toInt64) (gl0 hF2 (by omega) (hv h1826)) ?_
    refine V_iload dL_law_1832 rfl ?_
    refine V_top (y := (fLivingAfter S (xs ((5 * t) + 1)).toInt).2.1) (hx2 h1826) ?_
    refine V_i2l dL_law_1834 ?_
    refine V_lcmp dL_law_1835 ?_
    refine V_top (y := nI 0) (cmp_self _) ?_
    refine V_if_eq_n (tgt := 1841) dL_law_1836 (by decide) (by omega) (fun h1836 => ?_) (fun h1836 => by exfalso; omega)
    refine V_goto (tgt := 2878) dL_law_1841 (by decide) ?_
    exact (V_w (by omega) (by omega) (hb _ _ hC2 hM2)).sub (by repeat' (first | exact trivial | exact rfl | constructor))
set_option maxRecDepth 100000 in
set_option maxHeartbeats 1000000 in
theorem law_c26 {b n t kc ks : Nat} {xs : Nat → Int32} {S : Sys} {w : Wd} (hC : CI w S) (hM : MI w S) (ht : 5 * t + 5 ≤ n) (hn : n ≤ 2560) (hk : 4 ≤ kc) (hs : 24 ≤ ks) (hb : LBack b n xs t (kc - 4) (ks - 24)) : LV b n xs kc ks 1844 [some (.ref 1999), some (.ref 0), some (.ref 47), some (.ref 65), some (.ref 66), some (.int (nI (5 * t))), none, none, none] [] w := by
  refine V_aload_n (i := 1) dL_law_1844 rfl rfl ?_
  refine V_callV dL_law_1845 (c_isStill hC) okX10_isStill lkRL_248 (Or.inr ⟨rfl, Nat.le_of_ble_eq_true rfl⟩) rfl rfl rfl rfl (Nat.le_of_ble_eq_true rfl) ⟨Nat.le_of_ble_eq_true rfl, Nat.le_of_ble_eq_true rfl⟩ rfl ⟨by omega, by omega⟩ (fun v9 u1 hu1 => ?_) (fun E9 w9 h9 => by rcases h9 with ⟨⟨h0, h9⟩ | ⟨h0, h9⟩, _⟩ <;> first | (cases h9; done) | exact absurd h0 (Nat.lt_irrefl 0))
  obtain ⟨⟨h0, e9⟩ | ⟨h0, e9⟩, hC1, hF1⟩ := hu1
  · cases e9
    have hM1 := hM.keepF hF1 (fun b h1 h2 q => by have q9 : b < 47 := q; omega)
    refine V_aload_n (i := 2) dL_law_1848 rfl rfl ?_
    refine V_callV dL_law_1849 (m_isStill hM1) okX11_isStill lkRL_252 (Or.inr ⟨rfl, Nat.le_of_ble_eq_true rfl⟩) rfl rfl rfl rfl (Nat.le_of_ble_eq_true rfl) ⟨Nat.le_of_ble_eq_true rfl, Nat.le_of_ble_eq_true rfl⟩ rfl ⟨Nat.zero_le _, Nat.zero_le _⟩ (fun v9 u2 hu2 => ?_) (fun E9 w9 h9 => by obtain ⟨⟨x9, h9, _⟩, _⟩ := h9; cases h9)
    obtain ⟨⟨x2, e9, hx2⟩, hM2, ht2, hF2⟩ := hu2
    cases e9
    have hC2 := hC1.keepF hF2 (fun b hb q => by omega)
    refine V_top (y := (fIsStill S).2.1) (hx2 rfl) ?_
    refine V_icmp_eq (tgt := 2878) dL_law_1852 (by decide) (fun h1852 => ?_) (fun h1852 => by exfalso; exact h1852 rfl)
    exact (V_w (by omega) (by omega) (hb _ _ hC2 hM2)).sub (by repeat' (first | exact trivial | exact rfl | constructor))
  · exact absurd h0 (Nat.lt_irrefl 0)
set_option maxRecDepth 100000 in
set_option maxHeartbeats 1000000 in
theorem law_c27 {b n t kc ks : Nat} {xs : Nat → Int32} {S : Sys} {w : Wd} (hC : CI w S) (hM : MI w S) (ht : 5 * t + 5 ≤ n) (hn : n ≤ 2560) (hk : 4 ≤ kc) (hs : 24 ≤ ks) (hb : LBack b n xs t (kc - 4) (ks - 24)) : LV b n xs kc ks 1857 [some (.ref 1999), some (.ref 0), some (.ref 47), some (.ref 65), some (.ref 66), some (.int (nI (5 * t))), none, none, none] [] w := by
  refine V_aload_n (i := 1) dL_law_1857 rfl rfl ?_
  refine V_aload_n (i := 3) dL_law_1858 rfl rfl ?_
  refine V_callSH dL_law_1859 (l_tidesUntilStill hC) okL_tidesUntilStill lkRL_253 rfl rfl (Nat.le_of_ble_eq_true rfl) ⟨Nat.le_of_ble_eq_true rfl, Nat.le_of_ble_eq_true rfl⟩ rfl ⟨by omega, by omega⟩ (fun v9 u1 hu1 => ?_) (fun E9 u1 hu1 => by obtain ⟨h9, _⟩ := hu1; cases h9)
  obtain ⟨e9, hv, hC1, hF1⟩ := hu1
  cases e9
  have hM1 := hM.keepF hF1 (fun b h1 h2 q => by omega)
  have hle : (fTidesUntilStill S).1 ≤ 1 := le_tidesUntilStill
  refine V_istore dL_law_1862 (Nat.le_of_ble_eq_true rfl) rfl rfl ?_
  refine V_aload_n (i := 2) dL_law_1864 rfl rfl ?_
  refine V_callV dL_law_1865 (m_tidesUntilStill hM1) okX11_tidesUntilStill lkRL_256 (Or.inr ⟨rfl, Nat.le_of_ble_eq_true rfl⟩) rfl rfl rfl rfl (Nat.le_of_ble_eq_true rfl) ⟨Nat.le_of_ble_eq_true rfl, Nat.le_of_ble_eq_true rfl⟩ rfl ⟨Nat.zero_le _, Nat.zero_le _⟩ (fun v9 u2 hu2 => ?_) (fun E9 w9 h9 => by obtain ⟨⟨x9, h9, _⟩, _⟩ := h9; cases h9)
  obtain ⟨⟨x2, e9, hx2⟩, hM2, ht2, hF2⟩ := hu2
  cases e9
  have hC2 := hC1.keepF hF2 (fun b hb q => by omega)
  refine V_istore dL_law_1868 (Nat.le_of_ble_eq_true rfl) rfl rfl ?_
  refine V_aload_n (i := 2) dL_law_1870 rfl rfl ?_
  refine V_callVF dL_law_1871 (m_thrown (n := (fTidesUntilStill S).1) ht2) okX11_thrown lkRL_160 (Or.inr ⟨rfl, Nat.le_of_ble_eq_true rfl⟩) rfl rfl rfl rfl (Nat.le_of_ble_eq_true rfl) ⟨Nat.le_of_ble_eq_true rfl, Nat.le_of_ble_eq_true rfl⟩ rfl ?_
  refine V_iload dL_law_1874 rfl ?_
  refine V_icmp_eq_n (tgt := 1881) dL_law_1876 (by decide) (by omega) (by omega) (fun h1876 => ?_) (fun h1876 => by exfalso; omega)
  refine V_iload dL_law_1881 rfl ?_
  refine V_if_ne_n (tgt := 1898) dL_law_1883 (by decide) (by omega) (fun h1883 => ?_) (fun h1883 => ?_)
  · refine V_goto (tgt := 2878) dL_law_1898 (by decide) ?_
    exact (V_w (by omega) (by omega) (hb _ _ hC2 hM2)).sub (by repeat' (first | exact trivial | exact rfl | constructor))
  · refine V_aload_n (i := 3) dL_law_1886 rfl rfl ?_
    refine V_iconst_n (v := 0) dL_law_1887 (by decide) ?_
    refine V_lald dL_law_1888 (Or.inr ⟨rfl, Nat.le_of_ble_eq_true rfl⟩) rfl (in_n (by omega) (by decide)) ?_
    refine V_topL (y := (fTidesUntilStill S).2.1.toInt64) (gl0 hF2 (by omega) (hv h1883)) ?_
    refine V_iload dL_law_1889 rfl ?_
    refine V_top (y := (fTidesUntilStill S).2.1) (hx2 h1883) ?_
    refine V_i2l dL_law_1891 ?_
    refine V_lcmp dL_law_1892 ?_
    refine V_top (y := nI 0) (cmp_self _) ?_
    refine V_if_eq_n (tgt := 1898) dL_law_1893 (by decide) (by omega) (fun h1893 => ?_) (fun h1893 => by exfalso; omega)
    refine V_goto (tgt := 2878) dL_law_1898 (by decide) ?_
    exact (V_w (by omega) (by omega) (hb _ _ hC2 hM2)).sub (by repeat' (first | exact trivial | exact rfl | constructor))
set_option maxRecDepth 100000 in
set_option maxHeartbeats 1000000 in
theorem law_c28 {b n t kc ks : Nat} {xs : Nat → Int32} {S : Sys} {w : Wd} (hC : CI w S) (hM : MI w S) (ht : 5 * t + 5 ≤ n) (hn : n ≤ 2560) (hk : 4 ≤ kc) (hs : 24 ≤ ks) (hb : LBack b n xs t (kc - 4) (ks - 24)) : LV b n xs kc ks 1901 [some (.ref 1999), some (.ref 0), some (.ref 47), some (.ref 65), some (.ref 66), some (.int (nI (5 * t))), none, none, none] [] w := by
  refine V_aload_n (i := 1) dL_law_1901 rfl rfl ?_
  refine V_callV dL_law_1902 (c_rule hC) okX10_rule lkRL_257 (Or.inr ⟨rfl, Nat.le_of_ble_eq_true rfl⟩) rfl rfl rfl rfl (Nat.le_of_ble_eq_true rfl) ⟨Nat.le_of_ble_eq_true rfl, Nat.le_of_ble_eq_true rfl⟩ rfl ⟨by omega, by omega⟩ (fun v9 u1 hu1 => ?_) (fun E9 w9 h9 => by rcases h9 with ⟨⟨h0, h9⟩ | ⟨h0, h9⟩, _⟩ <;> first | (cases h9; done) | exact absurd h0 (Nat.lt_irrefl 0))
  obtain ⟨⟨h0, e9⟩ | ⟨h0, e9⟩, hC1, hF1⟩ := hu1
  · cases e9
    have hM1 := hM.keepF hF1 (fun b h1 h2 q => by have q9 : b < 47 := q; omega)
    refine V_aload_n (i := 2) dL_law_1905 rfl rfl ?_
    refine V_callV dL_law_1906 (m_rule hM1) okX11_rule lkRL_261 (Or.inr ⟨rfl, Nat.le_of_ble_eq_true rfl⟩) rfl rfl rfl rfl (Nat.le_of_ble_eq_true rfl) ⟨Nat.le_of_ble_eq_true rfl, Nat.le_of_ble_eq_true rfl⟩ rfl ⟨Nat.zero_le _, Nat.zero_le _⟩ (fun v9 u2 hu2 => ?_) (fun E9 w9 h9 => by obtain ⟨⟨x9, h9, _⟩, _⟩ := h9; cases h9)
    obtain ⟨⟨x2, e9, hx2⟩, hM2, ht2, hF2⟩ := hu2
    cases e9
    have hC2 := hC1.keepF hF2 (fun b hb q => by omega)
    refine V_top (y := (fRule S).2.1) (hx2 rfl) ?_
    refine V_icmp_eq (tgt := 2878) dL_law_1909 (by decide) (fun h1909 => ?_) (fun h1909 => by exfalso; exact h1909 rfl)
    exact (V_w (by omega) (by omega) (hb _ _ hC2 hM2)).sub (by repeat' (first | exact trivial | exact rfl | constructor))
  · exact absurd h0 (Nat.lt_irrefl 0)
set_option maxRecDepth 100000 in
set_option maxHeartbeats 1000000 in
theorem law_c29 {b n t kc ks : Nat} {xs : Nat → Int32} {S : Sys} {w : Wd} (hC : CI w S) (hM : MI w S) (ht : 5 * t + 5 ≤ n) (hn : n ≤ 2560) (hk : 4 ≤ kc) (hs : 24 ≤ ks) (hb : LBack b n xs t (kc - 4) (ks - 24)) : LV b n xs kc ks 1914 [some (.ref 1999), some (.ref 0), some (.ref 47), some (.ref 65), some (.ref 66), some (.int (nI (5 * t))), none, none, none] [] w := by
  refine V_aload_n (i := 1) dL_law_1914 rfl rfl ?_
  refine V_aload_n (i := 0) dL_law_1915 rfl rfl ?_
  refine V_iload dL_law_1916 rfl ?_
  refine V_iconst_n (v := 1) dL_law_1918 (by decide) ?_
  refine V_iadd_n dL_law_1919 ?_
  refine V_sld (i := ((5 * t) + 1)) dL_law_1920 (by omega) (by omega) ?_
  refine V_aload_n (i := 3) dL_law_1921 rfl rfl ?_
  refine V_callSH dL_law_1922 (l_isBirth hC (zI_of _) (zb1 _) (zb2 _)) okL_isBirth lkRL_262 rfl rfl (Nat.le_of_ble_eq_true rfl) ⟨Nat.le_of_ble_eq_true rfl, Nat.le_of_ble_eq_true rfl⟩ rfl ⟨by omega, by omega⟩ (fun v9 u1 hu1 => ?_) (fun E9 u1 hu1 => by obtain ⟨h9, _⟩ := hu1; cases h9)
  obtain ⟨e9, hv, hC1, hF1⟩ := hu1
  cases e9
  have hM1 := hM.keepF hF1 (fun b h1 h2 q => by omega)
  have hle : (fIsBirth S (xs ((5 * t) + 1)).toInt).1 ≤ 1 := le_isBirth
  refine V_istore dL_law_1925 (Nat.le_of_ble_eq_true rfl) rfl rfl ?_
  refine V_aload_n (i := 2) dL_law_1927 rfl rfl ?_
  refine V_aload_n (i := 0) dL_law_1928 rfl rfl ?_
  refine V_iload dL_law_1929 rfl ?_
  refine V_iconst_n (v := 1) dL_law_1931 (by decide) ?_
  refine V_iadd_n dL_law_1932 ?_
  refine V_sld (i := ((5 * t) + 1)) dL_law_1933 (by omega) (by omega) ?_
  refine V_callV dL_law_1934 (m_isBirth hM1 (zI_of _) (zb1 _) (zb2 _)) okX11_isBirth lkRL_264 (Or.inr ⟨rfl, Nat.le_of_ble_eq_true rfl⟩) rfl rfl rfl rfl (Nat.le_of_ble_eq_true rfl) ⟨Nat.le_of_ble_eq_true rfl, Nat.le_of_ble_eq_true rfl⟩ rfl ⟨Nat.zero_le _, Nat.zero_le _⟩ (fun v9 u2 hu2 => ?_) (fun E9 w9 h9 => by obtain ⟨⟨x9, h9, _⟩, _⟩ := h9; cases h9)
  obtain ⟨⟨x2, e9, hx2⟩, hM2, ht2, hF2⟩ := hu2
  cases e9
  have hC2 := hC1.keepF hF2 (fun b hb q => by omega)
  refine V_istore dL_law_1937 (Nat.le_of_ble_eq_true rfl) rfl rfl ?_
  refine V_aload_n (i := 2) dL_law_1939 rfl rfl ?_
  refine V_callVF dL_law_1940 (m_thrown (n := (fIsBirth S (xs ((5 * t) + 1)).toInt).1) ht2) okX11_thrown lkRL_160 (Or.inr ⟨rfl, Nat.le_of_ble_eq_true rfl⟩) rfl rfl rfl rfl (Nat.le_of_ble_eq_true rfl) ⟨Nat.le_of_ble_eq_true rfl, Nat.le_of_ble_eq_true rfl⟩ rfl ?_
  refine V_iload dL_law_1943 rfl ?_
  refine V_icmp_eq_n (tgt := 1950) dL_law_1945 (by decide) (by omega) (by omega) (fun h1945 => ?_) (fun h1945 => by exfalso; omega)
  refine V_iload dL_law_1950 rfl ?_
  refine V_if_ne_n (tgt := 1974) dL_law_1952 (by decide) (by omega) (fun h1952 => ?_) (fun h1952 => ?_)
  · refine V_goto (tgt := 2878) dL_law_1974 (by decide) ?_
    exact (V_w (by omega) (by omega) (hb _ _ hC2 hM2)).sub (by repeat' (first | exact trivial | exact rfl | constructor))
  · refine V_aload_n (i := 3) dL_law_1955 rfl rfl ?_
    refine V_iconst_n (v := 0) dL_law_1956 (by decide) ?_
    refine V_lald dL_law_1957 (Or.inr ⟨rfl, Nat.le_of_ble_eq_true rfl⟩) rfl (in_n (by omega) (by decide)) ?_
    refine V_topL (y := (if (fIsBirth S (xs ((5 * t) + 1)).toInt).2.1 = 0 then 0 else 1)) (gl0 hF2 (by omega) (hv h1952)) ?_
    refine V_iload dL_law_1958 rfl ?_
    refine V_top (y := (fIsBirth S (xs ((5 * t) + 1)).toInt).2.1) (hx2 h1952) ?_
    refine V_if_eq (tgt := 1967) dL_law_1960 (by decide) (fun h1960 => ?_) (fun h1960 => ?_)
    · have hz9 : (fIsBirth S (xs ((5 * t) + 1)).toInt).2.1 = 0 := h1960
      refine V_lconst (v := 0) dL_law_1967 rfl ?_
      refine V_lcmp dL_law_1968 ?_
      refine V_top (y := nI 0) (by rw [if_pos hz9]; exact cmp_self _) ?_
      refine V_if_eq_n (tgt := 1974) dL_law_1969 (by decide) (by omega) (fun h1969 => ?_) (fun h1969 => by exfalso; omega)
      refine V_goto (tgt := 2878) dL_law_1974 (by decide) ?_
      exact (V_w (by omega) (by omega) (hb _ _ hC2 hM2)).sub (by repeat' (first | exact trivial | exact rfl | constructor))
    · have hz9 : ¬ (fIsBirth S (xs ((5 * t) + 1)).toInt).2.1 = 0 := h1960
      refine V_lconst (v := 1) dL_law_1963 rfl ?_
      refine V_goto (tgt := 1968) dL_law_1964 (by decide) ?_
      refine V_lcmp dL_law_1968 ?_
      refine V_top (y := nI 0) (by rw [if_neg hz9]; exact cmp_self _) ?_
      refine V_if_eq_n (tgt := 1974) dL_law_1969 (by decide) (by omega) (fun h1969 => ?_) (fun h1969 => by exfalso; omega)
      refine V_goto (tgt := 2878) dL_law_1974 (by decide) ?_
      exact (V_w (by omega) (by omega) (hb _ _ hC2 hM2)).sub (by repeat' (first | exact trivial | exact rfl | constructor))
set_option maxRecDepth 100000 in
set_option maxHeartbeats 1000000 in
theorem law_c30 {b n t kc ks : Nat} {xs : Nat → Int32} {S : Sys} {w : Wd} (hC : CI w S) (hM : MI w S) (ht : 5 * t + 5 ≤ n) (hn : n ≤ 2560) (hk : 4 ≤ kc) (hs : 24 ≤ ks) (hb : LBack b n xs t (kc - 4) (ks - 24)) : LV b n xs kc ks 1977 [some (.ref 1999), some (.ref 0), some (.ref 47), some (.ref 65), some (.ref 66), some (.int (nI (5 * t))), none, none, none] [] w := by
  refine V_aload_n (i := 1) dL_law_1977 rfl rfl ?_
  refine V_aload_n (i := 0) dL_law_1978 rfl rfl ?_
  refine V_iload dL_law_1979 rfl ?_
  refine V_iconst_n (v := 1) dL_law_1981 (by decide) ?_
  refine V_iadd_n dL_law_1982 ?_
  refine V_sld (i := ((5 * t) + 1)) dL_law_1983 (by omega) (by omega) ?_
  refine V_aload_n (i := 3) dL_law_1984 rfl rfl ?_
  refine V_callSH dL_law_1985 (l_isSurvival hC (zI_of _) (zb1 _) (zb2 _)) okL_isSurvival lkRL_265 rfl rfl (Nat.le_of_ble_eq_true rfl) ⟨Nat.le_of_ble_eq_true rfl, Nat.le_of_ble_eq_true rfl⟩ rfl ⟨by omega, by omega⟩ (fun v9 u1 hu1 => ?_) (fun E9 u1 hu1 => by obtain ⟨h9, _⟩ := hu1; cases h9)
  obtain ⟨e9, hv, hC1, hF1⟩ := hu1
  cases e9
  have hM1 := hM.keepF hF1 (fun b h1 h2 q => by omega)
  have hle : (fIsSurvival S (xs ((5 * t) + 1)).toInt).1 ≤ 1 := le_isSurvival
  refine V_istore dL_law_1988 (Nat.le_of_ble_eq_true rfl) rfl rfl ?_
  refine V_aload_n (i := 2) dL_law_1990 rfl rfl ?_
  refine V_aload_n (i := 0) dL_law_1991 rfl rfl ?_
  refine V_iload dL_law_1992 rfl ?_
  refine V_iconst_n (v := 1) dL_law_1994 (by decide) ?_
  refine V_iadd_n dL_law_1995 ?_
  refine V_sld (i := ((5 * t) + 1)) dL_law_1996 (by omega) (by omega) ?_
  refine V_callV dL_law_1997 (m_isSurvival hM1 (zI_of _) (zb1 _) (zb2 _)) okX11_isSurvival lkRL_267 (Or.inr ⟨rfl, Nat.le_of_ble_eq_true rfl⟩) rfl rfl rfl rfl (Nat.le_of_ble_eq_true rfl) ⟨Nat.le_of_ble_eq_true rfl, Nat.le_of_ble_eq_true rfl⟩ rfl ⟨Nat.zero_le _, Nat.zero_le _⟩ (fun v9 u2 hu2 => ?_) (fun E9 w9 h9 => by obtain ⟨⟨x9, h9, _⟩, _⟩ := h9; cases h9)
  obtain ⟨⟨x2, e9, hx2⟩, hM2, ht2, hF2⟩ := hu2
  cases e9
  have hC2 := hC1.keepF hF2 (fun b hb q => by omega)
  refine V_istore dL_law_2000 (Nat.le_of_ble_eq_true rfl) rfl rfl ?_
  refine V_aload_n (i := 2) dL_law_2002 rfl rfl ?_
  refine V_callVF dL_law_2003 (m_thrown (n := (fIsSurvival S (xs ((5 * t) + 1)).toInt).1) ht2) okX11_thrown lkRL_160 (Or.inr ⟨rfl, Nat.le_of_ble_eq_true rfl⟩) rfl rfl rfl rfl (Nat.le_of_ble_eq_true rfl) ⟨Nat.le_of_ble_eq_true rfl, Nat.le_of_ble_eq_true rfl⟩ rfl ?_
  refine V_iload dL_law_2006 rfl ?_
  refine V_icmp_eq_n (tgt := 2013) dL_law_2008 (by decide) (by omega) (by omega) (fun h2008 => ?_) (fun h2008 => by exfalso; omega)
  refine V_iload dL_law_2013 rfl ?_
  refine V_if_ne_n (tgt := 2037) dL_law_2015 (by decide) (by omega) (fun h2015 => ?_) (fun h2015 => ?_)
  · refine V_goto (tgt := 2878) dL_law_2037 (by decide) ?_
    exact (V_w (by omega) (by omega) (hb _ _ hC2 hM2)).sub (by repeat' (first | exact trivial | exact rfl | constructor))
  · refine V_aload_n (i := 3) dL_law_2018 rfl rfl ?_
    refine V_iconst_n (v := 0) dL_law_2019 (by decide) ?_
    refine V_lald dL_law_2020 (Or.inr ⟨rfl, Nat.le_of_ble_eq_true rfl⟩) rfl (in_n (by omega) (by decide)) ?_
    refine V_topL (y := (if (fIsSurvival S (xs ((5 * t) + 1)).toInt).2.1 = 0 then 0 else 1)) (gl0 hF2 (by omega) (hv h2015)) ?_
    refine V_iload dL_law_2021 rfl ?_
    refine V_top (y := (fIsSurvival S (xs ((5 * t) + 1)).toInt).2.1) (hx2 h2015) ?_
    refine V_if_eq (tgt := 2030) dL_law_2023 (by decide) (fun h2023 => ?_) (fun h2023 => ?_)
    · have hz9 : (fIsSurvival S (xs ((5 * t) + 1)).toInt).2.1 = 0 := h2023
      refine V_lconst (v := 0) dL_law_2030 rfl ?_
      refine V_lcmp dL_law_2031 ?_
      refine V_top (y := nI 0) (by rw [if_pos hz9]; exact cmp_self _) ?_
      refine V_if_eq_n (tgt := 2037) dL_law_2032 (by decide) (by omega) (fun h2032 => ?_) (fun h2032 => by exfalso; omega)
      refine V_goto (tgt := 2878) dL_law_2037 (by decide) ?_
      exact (V_w (by omega) (by omega) (hb _ _ hC2 hM2)).sub (by repeat' (first | exact trivial | exact rfl | constructor))
    · have hz9 : ¬ (fIsSurvival S (xs ((5 * t) + 1)).toInt).2.1 = 0 := h2023
      refine V_lconst (v := 1) dL_law_2026 rfl ?_
      refine V_goto (tgt := 2031) dL_law_2027 (by decide) ?_
      refine V_lcmp dL_law_2031 ?_
      refine V_top (y := nI 0) (by rw [if_neg hz9]; exact cmp_self _) ?_
      refine V_if_eq_n (tgt := 2037) dL_law_2032 (by decide) (by omega) (fun h2032 => ?_) (fun h2032 => by exfalso; omega)
      refine V_goto (tgt := 2878) dL_law_2037 (by decide) ?_
      exact (V_w (by omega) (by omega) (hb _ _ hC2 hM2)).sub (by repeat' (first | exact trivial | exact rfl | constructor))
set_option maxRecDepth 100000 in
set_option maxHeartbeats 1000000 in
theorem law_c31 {b n t kc ks : Nat} {xs : Nat → Int32} {S : Sys} {w : Wd} (hC : CI w S) (hM : MI w S) (ht : 5 * t + 5 ≤ n) (hn : n ≤ 2560) (hk : 4 ≤ kc) (hs : 24 ≤ ks) (hb : LBack b n xs t (kc - 4) (ks - 24)) : LV b n xs kc ks 2040 [some (.ref 1999), some (.ref 0), some (.ref 47), some (.ref 65), some (.ref 66), some (.int (nI (5 * t))), none, none, none] [] w := by
  refine V_aload_n (i := 1) dL_law_2040 rfl rfl ?_
  refine V_callV dL_law_2041 (c_tideCount hC) okX10_tideCount lkRL_268 (Or.inr ⟨rfl, Nat.le_of_ble_eq_true rfl⟩) rfl rfl rfl rfl (Nat.le_of_ble_eq_true rfl) ⟨Nat.le_of_ble_eq_true rfl, Nat.le_of_ble_eq_true rfl⟩ rfl ⟨by omega, by omega⟩ (fun v9 u1 hu1 => ?_) (fun E9 w9 h9 => by rcases h9 with ⟨⟨h0, h9⟩ | ⟨h0, h9⟩, _⟩ <;> first | (cases h9; done) | exact absurd h0 (Nat.lt_irrefl 0))
  obtain ⟨⟨h0, e9⟩ | ⟨h0, e9⟩, hC1, hF1⟩ := hu1
  · cases e9
    have hM1 := hM.keepF hF1 (fun b h1 h2 q => by have q9 : b < 47 := q; omega)
    refine V_aload_n (i := 2) dL_law_2044 rfl rfl ?_
    refine V_callV dL_law_2045 (m_tideCount hM1) okX11_tideCount lkRL_271 (Or.inr ⟨rfl, Nat.le_of_ble_eq_true rfl⟩) rfl rfl rfl rfl (Nat.le_of_ble_eq_true rfl) ⟨Nat.le_of_ble_eq_true rfl, Nat.le_of_ble_eq_true rfl⟩ rfl ⟨Nat.zero_le _, Nat.zero_le _⟩ (fun v9 u2 hu2 => ?_) (fun E9 w9 h9 => by obtain ⟨⟨x9, h9, _⟩, _⟩ := h9; cases h9)
    obtain ⟨⟨x2, e9, hx2⟩, hM2, ht2, hF2⟩ := hu2
    cases e9
    have hC2 := hC1.keepF hF2 (fun b hb q => by omega)
    refine V_top (y := (fTotal S 0).2.1) (hx2 rfl) ?_
    refine V_icmp_eq (tgt := 2878) dL_law_2048 (by decide) (fun h2048 => ?_) (fun h2048 => by exfalso; exact h2048 rfl)
    exact (V_w (by omega) (by omega) (hb _ _ hC2 hM2)).sub (by repeat' (first | exact trivial | exact rfl | constructor))
  · exact absurd h0 (Nat.lt_irrefl 0)
set_option maxRecDepth 100000 in
set_option maxHeartbeats 1000000 in
theorem law_c32 {b n t kc ks : Nat} {xs : Nat → Int32} {S : Sys} {w : Wd} (hC : CI w S) (hM : MI w S) (ht : 5 * t + 5 ≤ n) (hn : n ≤ 2560) (hk : 4 ≤ kc) (hs : 24 ≤ ks) (hb : LBack b n xs t (kc - 4) (ks - 24)) : LV b n xs kc ks 2053 [some (.ref 1999), some (.ref 0), some (.ref 47), some (.ref 65), some (.ref 66), some (.int (nI (5 * t))), none, none, none] [] w := by
  refine V_aload_n (i := 1) dL_law_2053 rfl rfl ?_
  refine V_callV dL_law_2054 (c_placedCount hC) okX10_placedCount lkRL_272 (Or.inr ⟨rfl, Nat.le_of_ble_eq_true rfl⟩) rfl rfl rfl rfl (Nat.le_of_ble_eq_true rfl) ⟨Nat.le_of_ble_eq_true rfl, Nat.le_of_ble_eq_true rfl⟩ rfl ⟨by omega, by omega⟩ (fun v9 u1 hu1 => ?_) (fun E9 w9 h9 => by rcases h9 with ⟨⟨h0, h9⟩ | ⟨h0, h9⟩, _⟩ <;> first | (cases h9; done) | exact absurd h0 (Nat.lt_irrefl 0))
  obtain ⟨⟨h0, e9⟩ | ⟨h0, e9⟩, hC1, hF1⟩ := hu1
  · cases e9
    have hM1 := hM.keepF hF1 (fun b h1 h2 q => by have q9 : b < 47 := q; omega)
    refine V_aload_n (i := 2) dL_law_2057 rfl rfl ?_
    refine V_callV dL_law_2058 (m_placedCount hM1) okX11_placedCount lkRL_275 (Or.inr ⟨rfl, Nat.le_of_ble_eq_true rfl⟩) rfl rfl rfl rfl (Nat.le_of_ble_eq_true rfl) ⟨Nat.le_of_ble_eq_true rfl, Nat.le_of_ble_eq_true rfl⟩ rfl ⟨Nat.zero_le _, Nat.zero_le _⟩ (fun v9 u2 hu2 => ?_) (fun E9 w9 h9 => by obtain ⟨⟨x9, h9, _⟩, _⟩ := h9; cases h9)
    obtain ⟨⟨x2, e9, hx2⟩, hM2, ht2, hF2⟩ := hu2
    cases e9
    have hC2 := hC1.keepF hF2 (fun b hb q => by omega)
    refine V_top (y := (fTotal S 1).2.1) (hx2 rfl) ?_
    refine V_icmp_eq (tgt := 2878) dL_law_2061 (by decide) (fun h2061 => ?_) (fun h2061 => by exfalso; exact h2061 rfl)
    exact (V_w (by omega) (by omega) (hb _ _ hC2 hM2)).sub (by repeat' (first | exact trivial | exact rfl | constructor))
  · exact absurd h0 (Nat.lt_irrefl 0)
set_option maxRecDepth 100000 in
set_option maxHeartbeats 1000000 in
theorem law_c33 {b n t kc ks : Nat} {xs : Nat → Int32} {S : Sys} {w : Wd} (hC : CI w S) (hM : MI w S) (ht : 5 * t + 5 ≤ n) (hn : n ≤ 2560) (hk : 4 ≤ kc) (hs : 24 ≤ ks) (hb : LBack b n xs t (kc - 4) (ks - 24)) : LV b n xs kc ks 2066 [some (.ref 1999), some (.ref 0), some (.ref 47), some (.ref 65), some (.ref 66), some (.int (nI (5 * t))), none, none, none] [] w := by
  refine V_aload_n (i := 1) dL_law_2066 rfl rfl ?_
  refine V_callV dL_law_2067 (c_removedCount hC) okX10_removedCount lkRL_276 (Or.inr ⟨rfl, Nat.le_of_ble_eq_true rfl⟩) rfl rfl rfl rfl (Nat.le_of_ble_eq_true rfl) ⟨Nat.le_of_ble_eq_true rfl, Nat.le_of_ble_eq_true rfl⟩ rfl ⟨by omega, by omega⟩ (fun v9 u1 hu1 => ?_) (fun E9 w9 h9 => by rcases h9 with ⟨⟨h0, h9⟩ | ⟨h0, h9⟩, _⟩ <;> first | (cases h9; done) | exact absurd h0 (Nat.lt_irrefl 0))
  obtain ⟨⟨h0, e9⟩ | ⟨h0, e9⟩, hC1, hF1⟩ := hu1
  · cases e9
    have hM1 := hM.keepF hF1 (fun b h1 h2 q => by have q9 : b < 47 := q; omega)
    refine V_aload_n (i := 2) dL_law_2070 rfl rfl ?_
    refine V_callV dL_law_2071 (m_removedCount hM1) okX11_removedCount lkRL_279 (Or.inr ⟨rfl, Nat.le_of_ble_eq_true rfl⟩) rfl rfl rfl rfl (Nat.le_of_ble_eq_true rfl) ⟨Nat.le_of_ble_eq_true rfl, Nat.le_of_ble_eq_true rfl⟩ rfl ⟨Nat.zero_le _, Nat.zero_le _⟩ (fun v9 u2 hu2 => ?_) (fun E9 w9 h9 => by obtain ⟨⟨x9, h9, _⟩, _⟩ := h9; cases h9)
    obtain ⟨⟨x2, e9, hx2⟩, hM2, ht2, hF2⟩ := hu2
    cases e9
    have hC2 := hC1.keepF hF2 (fun b hb q => by omega)
    refine V_top (y := (fTotal S 2).2.1) (hx2 rfl) ?_
    refine V_icmp_eq (tgt := 2878) dL_law_2074 (by decide) (fun h2074 => ?_) (fun h2074 => by exfalso; exact h2074 rfl)
    exact (V_w (by omega) (by omega) (hb _ _ hC2 hM2)).sub (by repeat' (first | exact trivial | exact rfl | constructor))
  · exact absurd h0 (Nat.lt_irrefl 0)
set_option maxRecDepth 100000 in
set_option maxHeartbeats 1000000 in
theorem law_c34 {b n t kc ks : Nat} {xs : Nat → Int32} {S : Sys} {w : Wd} (hC : CI w S) (hM : MI w S) (ht : 5 * t + 5 ≤ n) (hn : n ≤ 2560) (hk : 4 ≤ kc) (hs : 24 ≤ ks) (hb : LBack b n xs t (kc - 4) (ks - 24)) : LV b n xs kc ks 2079 [some (.ref 1999), some (.ref 0), some (.ref 47), some (.ref 65), some (.ref 66), some (.int (nI (5 * t))), none, none, none] [] w := by
  refine V_aload_n (i := 1) dL_law_2079 rfl rfl ?_
  refine V_callV dL_law_2080 (c_bornCount hC) okX10_bornCount lkRL_280 (Or.inr ⟨rfl, Nat.le_of_ble_eq_true rfl⟩) rfl rfl rfl rfl (Nat.le_of_ble_eq_true rfl) ⟨Nat.le_of_ble_eq_true rfl, Nat.le_of_ble_eq_true rfl⟩ rfl ⟨by omega, by omega⟩ (fun v9 u1 hu1 => ?_) (fun E9 w9 h9 => by rcases h9 with ⟨⟨h0, h9⟩ | ⟨h0, h9⟩, _⟩ <;> first | (cases h9; done) | exact absurd h0 (Nat.lt_irrefl 0))
  obtain ⟨⟨h0, e9⟩ | ⟨h0, e9⟩, hC1, hF1⟩ := hu1
  · cases e9
    have hM1 := hM.keepF hF1 (fun b h1 h2 q => by have q9 : b < 47 := q; omega)
    refine V_aload_n (i := 2) dL_law_2083 rfl rfl ?_
    refine V_callV dL_law_2084 (m_bornCount hM1) okX11_bornCount lkRL_283 (Or.inr ⟨rfl, Nat.le_of_ble_eq_true rfl⟩) rfl rfl rfl rfl (Nat.le_of_ble_eq_true rfl) ⟨Nat.le_of_ble_eq_true rfl, Nat.le_of_ble_eq_true rfl⟩ rfl ⟨Nat.zero_le _, Nat.zero_le _⟩ (fun v9 u2 hu2 => ?_) (fun E9 w9 h9 => by obtain ⟨⟨x9, h9, _⟩, _⟩ := h9; cases h9)
    obtain ⟨⟨x2, e9, hx2⟩, hM2, ht2, hF2⟩ := hu2
    cases e9
    have hC2 := hC1.keepF hF2 (fun b hb q => by omega)
    refine V_top (y := (fTotal S 3).2.1) (hx2 rfl) ?_
    refine V_icmp_eq (tgt := 2878) dL_law_2087 (by decide) (fun h2087 => ?_) (fun h2087 => by exfalso; exact h2087 rfl)
    exact (V_w (by omega) (by omega) (hb _ _ hC2 hM2)).sub (by repeat' (first | exact trivial | exact rfl | constructor))
  · exact absurd h0 (Nat.lt_irrefl 0)
set_option maxRecDepth 100000 in
set_option maxHeartbeats 1000000 in
theorem law_c35 {b n t kc ks : Nat} {xs : Nat → Int32} {S : Sys} {w : Wd} (hC : CI w S) (hM : MI w S) (ht : 5 * t + 5 ≤ n) (hn : n ≤ 2560) (hk : 4 ≤ kc) (hs : 24 ≤ ks) (hb : LBack b n xs t (kc - 4) (ks - 24)) : LV b n xs kc ks 2092 [some (.ref 1999), some (.ref 0), some (.ref 47), some (.ref 65), some (.ref 66), some (.int (nI (5 * t))), none, none, none] [] w := by
  refine V_aload_n (i := 1) dL_law_2092 rfl rfl ?_
  refine V_callV dL_law_2093 (c_bleachings hC) okX10_bleachings lkRL_284 (Or.inr ⟨rfl, Nat.le_of_ble_eq_true rfl⟩) rfl rfl rfl rfl (Nat.le_of_ble_eq_true rfl) ⟨Nat.le_of_ble_eq_true rfl, Nat.le_of_ble_eq_true rfl⟩ rfl ⟨by omega, by omega⟩ (fun v9 u1 hu1 => ?_) (fun E9 w9 h9 => by rcases h9 with ⟨⟨h0, h9⟩ | ⟨h0, h9⟩, _⟩ <;> first | (cases h9; done) | exact absurd h0 (Nat.lt_irrefl 0))
  obtain ⟨⟨h0, e9⟩ | ⟨h0, e9⟩, hC1, hF1⟩ := hu1
  · cases e9
    have hM1 := hM.keepF hF1 (fun b h1 h2 q => by have q9 : b < 47 := q; omega)
    refine V_aload_n (i := 2) dL_law_2096 rfl rfl ?_
    refine V_callV dL_law_2097 (m_bleachings hM1) okX11_bleachings lkRL_287 (Or.inr ⟨rfl, Nat.le_of_ble_eq_true rfl⟩) rfl rfl rfl rfl (Nat.le_of_ble_eq_true rfl) ⟨Nat.le_of_ble_eq_true rfl, Nat.le_of_ble_eq_true rfl⟩ rfl ⟨Nat.zero_le _, Nat.zero_le _⟩ (fun v9 u2 hu2 => ?_) (fun E9 w9 h9 => by obtain ⟨⟨x9, h9, _⟩, _⟩ := h9; cases h9)
    obtain ⟨⟨x2, e9, hx2⟩, hM2, ht2, hF2⟩ := hu2
    cases e9
    have hC2 := hC1.keepF hF2 (fun b hb q => by omega)
    refine V_top (y := (fTotal S 4).2.1) (hx2 rfl) ?_
    refine V_icmp_eq (tgt := 2878) dL_law_2100 (by decide) (fun h2100 => ?_) (fun h2100 => by exfalso; exact h2100 rfl)
    exact (V_w (by omega) (by omega) (hb _ _ hC2 hM2)).sub (by repeat' (first | exact trivial | exact rfl | constructor))
  · exact absurd h0 (Nat.lt_irrefl 0)
set_option maxRecDepth 100000 in
set_option maxHeartbeats 1000000 in
theorem law_c36 {b n t kc ks : Nat} {xs : Nat → Int32} {S : Sys} {w : Wd} (hC : CI w S) (hM : MI w S) (ht : 5 * t + 5 ≤ n) (hn : n ≤ 2560) (hk : 4 ≤ kc) (hs : 24 ≤ ks) (hb : LBack b n xs t (kc - 4) (ks - 24)) : LV b n xs kc ks 2105 [some (.ref 1999), some (.ref 0), some (.ref 47), some (.ref 65), some (.ref 66), some (.int (nI (5 * t))), none, none, none] [] w := by
  refine V_aload_n (i := 1) dL_law_2105 rfl rfl ?_
  refine V_callV dL_law_2106 (c_washedCount hC) okX10_washedCount lkRL_288 (Or.inr ⟨rfl, Nat.le_of_ble_eq_true rfl⟩) rfl rfl rfl rfl (Nat.le_of_ble_eq_true rfl) ⟨Nat.le_of_ble_eq_true rfl, Nat.le_of_ble_eq_true rfl⟩ rfl ⟨by omega, by omega⟩ (fun v9 u1 hu1 => ?_) (fun E9 w9 h9 => by rcases h9 with ⟨⟨h0, h9⟩ | ⟨h0, h9⟩, _⟩ <;> first | (cases h9; done) | exact absurd h0 (Nat.lt_irrefl 0))
  obtain ⟨⟨h0, e9⟩ | ⟨h0, e9⟩, hC1, hF1⟩ := hu1
  · cases e9
    have hM1 := hM.keepF hF1 (fun b h1 h2 q => by have q9 : b < 47 := q; omega)
    refine V_aload_n (i := 2) dL_law_2109 rfl rfl ?_
    refine V_callV dL_law_2110 (m_washedCount hM1) okX11_washedCount lkRL_291 (Or.inr ⟨rfl, Nat.le_of_ble_eq_true rfl⟩) rfl rfl rfl rfl (Nat.le_of_ble_eq_true rfl) ⟨Nat.le_of_ble_eq_true rfl, Nat.le_of_ble_eq_true rfl⟩ rfl ⟨Nat.zero_le _, Nat.zero_le _⟩ (fun v9 u2 hu2 => ?_) (fun E9 w9 h9 => by obtain ⟨⟨x9, h9, _⟩, _⟩ := h9; cases h9)
    obtain ⟨⟨x2, e9, hx2⟩, hM2, ht2, hF2⟩ := hu2
    cases e9
    have hC2 := hC1.keepF hF2 (fun b hb q => by omega)
    refine V_top (y := (fTotal S 5).2.1) (hx2 rfl) ?_
    refine V_icmp_eq (tgt := 2878) dL_law_2113 (by decide) (fun h2113 => ?_) (fun h2113 => by exfalso; exact h2113 rfl)
    exact (V_w (by omega) (by omega) (hb _ _ hC2 hM2)).sub (by repeat' (first | exact trivial | exact rfl | constructor))
  · exact absurd h0 (Nat.lt_irrefl 0)
set_option maxRecDepth 100000 in
set_option maxHeartbeats 1000000 in
theorem law_c37 {b n t kc ks : Nat} {xs : Nat → Int32} {S : Sys} {w : Wd} (hC : CI w S) (hM : MI w S) (ht : 5 * t + 5 ≤ n) (hn : n ≤ 2560) (hk : 4 ≤ kc) (hs : 24 ≤ ks) (hb : LBack b n xs t (kc - 4) (ks - 24)) : LV b n xs kc ks 2118 [some (.ref 1999), some (.ref 0), some (.ref 47), some (.ref 65), some (.ref 66), some (.int (nI (5 * t))), none, none, none] [] w := by
  refine V_aload_n (i := 1) dL_law_2118 rfl rfl ?_
  refine V_aload_n (i := 0) dL_law_2119 rfl rfl ?_
  refine V_iload dL_law_2120 rfl ?_
  refine V_iconst_n (v := 1) dL_law_2122 (by decide) ?_
  refine V_iadd_n dL_law_2123 ?_
  refine V_sld (i := ((5 * t) + 1)) dL_law_2124 (by omega) (by omega) ?_
  refine V_aload_n (i := 3) dL_law_2125 rfl rfl ?_
  refine V_callSH dL_law_2126 (l_rowByLiving hC (zI_of _) (zb1 _) (zb2 _)) okL_rowByLiving lkRL_292 rfl rfl (Nat.le_of_ble_eq_true rfl) ⟨Nat.le_of_ble_eq_true rfl, Nat.le_of_ble_eq_true rfl⟩ rfl ⟨by omega, by omega⟩ (fun v9 u1 hu1 => ?_) (fun E9 u1 hu1 => by obtain ⟨h9, _⟩ := hu1; cases h9)
  obtain ⟨e9, hv, hC1, hF1⟩ := hu1
  cases e9
  have hM1 := hM.keepF hF1 (fun b h1 h2 q => by omega)
  have hle : (fRowByLiving S (xs ((5 * t) + 1)).toInt).1 ≤ 1 := le_rowByLiving
  refine V_istore dL_law_2129 (Nat.le_of_ble_eq_true rfl) rfl rfl ?_
  refine V_aload_n (i := 2) dL_law_2131 rfl rfl ?_
  refine V_aload_n (i := 0) dL_law_2132 rfl rfl ?_
  refine V_iload dL_law_2133 rfl ?_
  refine V_iconst_n (v := 1) dL_law_2135 (by decide) ?_
  refine V_iadd_n dL_law_2136 ?_
  refine V_sld (i := ((5 * t) + 1)) dL_law_2137 (by omega) (by omega) ?_
  refine V_callV dL_law_2138 (m_rowByLiving hM1 (zI_of _) (zb1 _) (zb2 _)) okX11_rowByLiving lkRL_294 (Or.inr ⟨rfl, Nat.le_of_ble_eq_true rfl⟩) rfl rfl rfl rfl (Nat.le_of_ble_eq_true rfl) ⟨Nat.le_of_ble_eq_true rfl, Nat.le_of_ble_eq_true rfl⟩ rfl ⟨Nat.zero_le _, Nat.zero_le _⟩ (fun v9 u2 hu2 => ?_) (fun E9 w9 h9 => by obtain ⟨⟨x9, h9, _⟩, _⟩ := h9; cases h9)
  obtain ⟨⟨x2, e9, hx2⟩, hM2, ht2, hF2⟩ := hu2
  cases e9
  have hC2 := hC1.keepF hF2 (fun b hb q => by omega)
  refine V_istore dL_law_2141 (Nat.le_of_ble_eq_true rfl) rfl rfl ?_
  refine V_aload_n (i := 2) dL_law_2143 rfl rfl ?_
  refine V_callVF dL_law_2144 (m_thrown (n := (fRowByLiving S (xs ((5 * t) + 1)).toInt).1) ht2) okX11_thrown lkRL_160 (Or.inr ⟨rfl, Nat.le_of_ble_eq_true rfl⟩) rfl rfl rfl rfl (Nat.le_of_ble_eq_true rfl) ⟨Nat.le_of_ble_eq_true rfl, Nat.le_of_ble_eq_true rfl⟩ rfl ?_
  refine V_iload dL_law_2147 rfl ?_
  refine V_icmp_eq_n (tgt := 2154) dL_law_2149 (by decide) (by omega) (by omega) (fun h2149 => ?_) (fun h2149 => by exfalso; omega)
  refine V_iload dL_law_2154 rfl ?_
  refine V_if_ne_n (tgt := 2171) dL_law_2156 (by decide) (by omega) (fun h2156 => ?_) (fun h2156 => ?_)
  · refine V_goto (tgt := 2878) dL_law_2171 (by decide) ?_
    exact (V_w (by omega) (by omega) (hb _ _ hC2 hM2)).sub (by repeat' (first | exact trivial | exact rfl | constructor))
  · refine V_aload_n (i := 3) dL_law_2159 rfl rfl ?_
    refine V_iconst_n (v := 0) dL_law_2160 (by decide) ?_
    refine V_lald dL_law_2161 (Or.inr ⟨rfl, Nat.le_of_ble_eq_true rfl⟩) rfl (in_n (by omega) (by decide)) ?_
    refine V_topL (y := (fRowByLiving S (xs ((5 * t) + 1)).toInt).2.1.toInt64) (gl0 hF2 (by omega) (hv h2156)) ?_
    refine V_iload dL_law_2162 rfl ?_
    refine V_top (y := (fRowByLiving S (xs ((5 * t) + 1)).toInt).2.1) (hx2 h2156) ?_
    refine V_i2l dL_law_2164 ?_
    refine V_lcmp dL_law_2165 ?_
    refine V_top (y := nI 0) (cmp_self _) ?_
    refine V_if_eq_n (tgt := 2171) dL_law_2166 (by decide) (by omega) (fun h2166 => ?_) (fun h2166 => by exfalso; omega)
    refine V_goto (tgt := 2878) dL_law_2171 (by decide) ?_
    exact (V_w (by omega) (by omega) (hb _ _ hC2 hM2)).sub (by repeat' (first | exact trivial | exact rfl | constructor))
set_option maxRecDepth 100000 in
set_option maxHeartbeats 1000000 in
theorem law_c38 {b n t kc ks : Nat} {xs : Nat → Int32} {S : Sys} {w : Wd} (hC : CI w S) (hM : MI w S) (ht : 5 * t + 5 ≤ n) (hn : n ≤ 2560) (hk : 4 ≤ kc) (hs : 24 ≤ ks) (hb : LBack b n xs t (kc - 4) (ks - 24)) : LV b n xs kc ks 2174 [some (.ref 1999), some (.ref 0), some (.ref 47), some (.ref 65), some (.ref 66), some (.int (nI (5 * t))), none, none, none] [] w := by
  refine V_aload_n (i := 1) dL_law_2174 rfl rfl ?_
  refine V_aload_n (i := 0) dL_law_2175 rfl rfl ?_
  refine V_iload dL_law_2176 rfl ?_
  refine V_iconst_n (v := 1) dL_law_2178 (by decide) ?_
  refine V_iadd_n dL_law_2179 ?_
  refine V_sld (i := ((5 * t) + 1)) dL_law_2180 (by omega) (by omega) ?_
  refine V_aload_n (i := 3) dL_law_2181 rfl rfl ?_
  refine V_callSH dL_law_2182 (l_colourByCount hC (zI_of _) (zb1 _) (zb2 _)) okL_colourByCount lkRL_295 rfl rfl (Nat.le_of_ble_eq_true rfl) ⟨Nat.le_of_ble_eq_true rfl, Nat.le_of_ble_eq_true rfl⟩ rfl ⟨by omega, by omega⟩ (fun v9 u1 hu1 => ?_) (fun E9 u1 hu1 => by obtain ⟨h9, _⟩ := hu1; cases h9)
  obtain ⟨e9, hv, hC1, hF1⟩ := hu1
  cases e9
  have hM1 := hM.keepF hF1 (fun b h1 h2 q => by omega)
  have hle : (fColourByCount S (xs ((5 * t) + 1)).toInt).1 ≤ 1 := le_colourByCount
  refine V_istore dL_law_2185 (Nat.le_of_ble_eq_true rfl) rfl rfl ?_
  refine V_aload_n (i := 2) dL_law_2187 rfl rfl ?_
  refine V_aload_n (i := 0) dL_law_2188 rfl rfl ?_
  refine V_iload dL_law_2189 rfl ?_
  refine V_iconst_n (v := 1) dL_law_2191 (by decide) ?_
  refine V_iadd_n dL_law_2192 ?_
  refine V_sld (i := ((5 * t) + 1)) dL_law_2193 (by omega) (by omega) ?_
  refine V_callV dL_law_2194 (m_colourByCount hM1 (zI_of _) (zb1 _) (zb2 _)) okX11_colourByCount lkRL_297 (Or.inr ⟨rfl, Nat.le_of_ble_eq_true rfl⟩) rfl rfl rfl rfl (Nat.le_of_ble_eq_true rfl) ⟨Nat.le_of_ble_eq_true rfl, Nat.le_of_ble_eq_true rfl⟩ rfl ⟨Nat.zero_le _, Nat.zero_le _⟩ (fun v9 u2 hu2 => ?_) (fun E9 w9 h9 => by obtain ⟨⟨x9, h9, _⟩, _⟩ := h9; cases h9)
  obtain ⟨⟨x2, e9, hx2⟩, hM2, ht2, hF2⟩ := hu2
  cases e9
  have hC2 := hC1.keepF hF2 (fun b hb q => by omega)
  refine V_istore dL_law_2197 (Nat.le_of_ble_eq_true rfl) rfl rfl ?_
  refine V_aload_n (i := 2) dL_law_2199 rfl rfl ?_
  refine V_callVF dL_law_2200 (m_thrown (n := (fColourByCount S (xs ((5 * t) + 1)).toInt).1) ht2) okX11_thrown lkRL_160 (Or.inr ⟨rfl, Nat.le_of_ble_eq_true rfl⟩) rfl rfl rfl rfl (Nat.le_of_ble_eq_true rfl) ⟨Nat.le_of_ble_eq_true rfl, Nat.le_of_ble_eq_true rfl⟩ rfl ?_
  refine V_iload dL_law_2203 rfl ?_
  refine V_icmp_eq_n (tgt := 2210) dL_law_2205 (by decide) (by omega) (by omega) (fun h2205 => ?_) (fun h2205 => by exfalso; omega)
  refine V_iload dL_law_2210 rfl ?_
  refine V_if_ne_n (tgt := 2227) dL_law_2212 (by decide) (by omega) (fun h2212 => ?_) (fun h2212 => ?_)
  · refine V_goto (tgt := 2878) dL_law_2227 (by decide) ?_
    exact (V_w (by omega) (by omega) (hb _ _ hC2 hM2)).sub (by repeat' (first | exact trivial | exact rfl | constructor))
  · refine V_aload_n (i := 3) dL_law_2215 rfl rfl ?_
    refine V_iconst_n (v := 0) dL_law_2216 (by decide) ?_
    refine V_lald dL_law_2217 (Or.inr ⟨rfl, Nat.le_of_ble_eq_true rfl⟩) rfl (in_n (by omega) (by decide)) ?_
    refine V_topL (y := (fColourByCount S (xs ((5 * t) + 1)).toInt).2.1.toInt64) (gl0 hF2 (by omega) (hv h2212)) ?_
    refine V_iload dL_law_2218 rfl ?_
    refine V_top (y := (fColourByCount S (xs ((5 * t) + 1)).toInt).2.1) (hx2 h2212) ?_
    refine V_i2l dL_law_2220 ?_
    refine V_lcmp dL_law_2221 ?_
    refine V_top (y := nI 0) (cmp_self _) ?_
    refine V_if_eq_n (tgt := 2227) dL_law_2222 (by decide) (by omega) (fun h2222 => ?_) (fun h2222 => by exfalso; omega)
    refine V_goto (tgt := 2878) dL_law_2227 (by decide) ?_
    exact (V_w (by omega) (by omega) (hb _ _ hC2 hM2)).sub (by repeat' (first | exact trivial | exact rfl | constructor))
set_option maxRecDepth 100000 in
set_option maxHeartbeats 1000000 in
theorem law_c39 {b n t kc ks : Nat} {xs : Nat → Int32} {S : Sys} {w : Wd} (hC : CI w S) (hM : MI w S) (ht : 5 * t + 5 ≤ n) (hn : n ≤ 2560) (hk : 4 ≤ kc) (hs : 24 ≤ ks) (hb : LBack b n xs t (kc - 4) (ks - 24)) : LV b n xs kc ks 2230 [some (.ref 1999), some (.ref 0), some (.ref 47), some (.ref 65), some (.ref 66), some (.int (nI (5 * t))), none, none, none] [] w := by
  refine V_aload_n (i := 1) dL_law_2230 rfl rfl ?_
  refine V_aload dL_law_2231 rfl ?_
  refine V_callSH dL_law_2233 (l_meanAge hC) okL_meanAge lkRL_298 rfl rfl (Nat.le_of_ble_eq_true rfl) ⟨Nat.le_of_ble_eq_true rfl, Nat.le_of_ble_eq_true rfl⟩ rfl ⟨by omega, by omega⟩ (fun v9 u1 hu1 => ?_) (fun E9 u1 hu1 => by obtain ⟨h9, _⟩ := hu1; cases h9)
  obtain ⟨e9, hv, hC1, hF1⟩ := hu1
  cases e9
  have hM1 := hM.keepF hF1 (fun b h1 h2 q => by omega)
  have hle : (fMeanK S) ≤ 1 := le_meanAge
  refine V_istore dL_law_2236 (Nat.le_of_ble_eq_true rfl) rfl rfl ?_
  refine V_aload_n (i := 2) dL_law_2238 rfl rfl ?_
  refine V_callV dL_law_2239 (m_meanAge hM1) okX11_meanAge lkRL_301 (Or.inr ⟨rfl, Nat.le_of_ble_eq_true rfl⟩) rfl rfl rfl rfl (Nat.le_of_ble_eq_true rfl) ⟨Nat.le_of_ble_eq_true rfl, Nat.le_of_ble_eq_true rfl⟩ rfl ⟨Nat.zero_le _, Nat.zero_le _⟩ (fun v9 u2 hu2 => ?_) (fun E9 w9 h9 => by obtain ⟨⟨x9, h9, _⟩, _⟩ := h9; cases h9)
  obtain ⟨⟨x2, e9, hx2⟩, hM2, ht2, hF2⟩ := hu2
  cases e9
  have hC2 := hC1.keepF hF2 (fun b hb q => by omega)
  refine V_dstore dL_law_2242 (Nat.le_of_ble_eq_true rfl) rfl rfl ?_
  refine V_aload_n (i := 2) dL_law_2244 rfl rfl ?_
  refine V_callVF dL_law_2245 (m_thrown (n := (fMeanK S)) ht2) okX11_thrown lkRL_160 (Or.inr ⟨rfl, Nat.le_of_ble_eq_true rfl⟩) rfl rfl rfl rfl (Nat.le_of_ble_eq_true rfl) ⟨Nat.le_of_ble_eq_true rfl, Nat.le_of_ble_eq_true rfl⟩ rfl ?_
  refine V_iload dL_law_2248 rfl ?_
  refine V_icmp_eq_n (tgt := 2255) dL_law_2250 (by decide) (by omega) (by omega) (fun h2250 => ?_) (fun h2250 => by exfalso; omega)
  refine V_iload dL_law_2255 rfl ?_
  refine V_if_ne_n (tgt := 2292) dL_law_2257 (by decide) (by omega) (fun h2257 => ?_) (fun h2257 => ?_)
  · refine V_goto (tgt := 2878) dL_law_2292 (by decide) ?_
    exact (V_w (by omega) (by omega) (hb _ _ hC2 hM2)).sub (by repeat' (first | exact trivial | exact rfl | constructor))
  · refine V_aload dL_law_2260 rfl ?_
    refine V_iconst_n (v := 0) dL_law_2262 (by decide) ?_
    refine V_dald dL_law_2263 (Or.inr ⟨rfl, Nat.le_of_ble_eq_true rfl⟩) rfl (in_n (by omega) (by decide)) ?_
    refine V_topD (y := (fMeanV S)) (gf0 hF2 (by omega) (hv h2257)) ?_
    refine V_dload dL_law_2264 rfl ?_
    refine V_topD (y := (fMeanV S)) (hx2 h2257) ?_
    refine V_dcmp dL_law_2266 ?_
    refine V_if_eq (tgt := 2292) dL_law_2267 (by decide) (fun h2267 => ?_) (fun h2267 => ?_)
    · refine V_goto (tgt := 2878) dL_law_2292 (by decide) ?_
      exact (V_w (by omega) (by omega) (hb _ _ hC2 hM2)).sub (by repeat' (first | exact trivial | exact rfl | constructor))
    · refine V_aload dL_law_2270 rfl ?_
      refine V_iconst_n (v := 0) dL_law_2272 (by decide) ?_
      refine V_dald dL_law_2273 (Or.inr ⟨rfl, Nat.le_of_ble_eq_true rfl⟩) rfl (in_n (by omega) (by decide)) ?_
      refine V_topD (y := (fMeanV S)) (gf0 hF2 (by omega) (hv h2257)) ?_
      refine V_aload dL_law_2274 rfl ?_
      refine V_iconst_n (v := 0) dL_law_2276 (by decide) ?_
      refine V_dald dL_law_2277 (Or.inr ⟨rfl, Nat.le_of_ble_eq_true rfl⟩) rfl (in_n (by omega) (by decide)) ?_
      refine V_topD (y := (fMeanV S)) (gf0 hF2 (by omega) (hv h2257)) ?_
      refine V_dcmp dL_law_2278 ?_
      refine V_if_eq (tgt := 2290) dL_law_2279 (by decide) (fun h2279 => by exfalso; exact h2267 h2279) (fun h2279 => ?_)
      refine V_dload dL_law_2282 rfl ?_
      refine V_topD (y := (fMeanV S)) (hx2 h2257) ?_
      refine V_dload dL_law_2284 rfl ?_
      refine V_topD (y := (fMeanV S)) (hx2 h2257) ?_
      refine V_dcmp dL_law_2286 ?_
      refine V_if_ne (tgt := 2292) dL_law_2287 (by decide) (fun h2287 => ?_) (fun h2287 => by exfalso; exact h2267 h2287)
      refine V_goto (tgt := 2878) dL_law_2292 (by decide) ?_
      exact (V_w (by omega) (by omega) (hb _ _ hC2 hM2)).sub (by repeat' (first | exact trivial | exact rfl | constructor))
set_option maxRecDepth 100000 in
set_option maxHeartbeats 1000000 in
theorem law_c40 {b n t kc ks : Nat} {xs : Nat → Int32} {S : Sys} {w : Wd} (hC : CI w S) (hM : MI w S) (ht : 5 * t + 5 ≤ n) (hn : n ≤ 2560) (hk : 4 ≤ kc) (hs : 24 ≤ ks) (hb : LBack b n xs t (kc - 4) (ks - 24)) : LV b n xs kc ks 2295 [some (.ref 1999), some (.ref 0), some (.ref 47), some (.ref 65), some (.ref 66), some (.int (nI (5 * t))), none, none, none] [] w := by
  refine V_aload_n (i := 1) dL_law_2295 rfl rfl ?_
  refine V_aload dL_law_2296 rfl ?_
  refine V_callSH dL_law_2298 (l_livingShare hC) okL_livingShare lkRL_302 rfl rfl (Nat.le_of_ble_eq_true rfl) ⟨Nat.le_of_ble_eq_true rfl, Nat.le_of_ble_eq_true rfl⟩ rfl ⟨by omega, by omega⟩ (fun v9 u1 hu1 => ?_) (fun E9 u1 hu1 => by obtain ⟨h9, _⟩ := hu1; cases h9)
  obtain ⟨e9, hv, hC1, hF1⟩ := hu1
  cases e9
  have hM1 := hM.keepF hF1 (fun b h1 h2 q => by omega)
  have hle : (fShareK S) ≤ 1 := le_livingShare
  refine V_istore dL_law_2301 (Nat.le_of_ble_eq_true rfl) rfl rfl ?_
  refine V_aload_n (i := 2) dL_law_2303 rfl rfl ?_
  refine V_callV dL_law_2304 (m_livingShare hM1) okX11_livingShare lkRL_304 (Or.inr ⟨rfl, Nat.le_of_ble_eq_true rfl⟩) rfl rfl rfl rfl (Nat.le_of_ble_eq_true rfl) ⟨Nat.le_of_ble_eq_true rfl, Nat.le_of_ble_eq_true rfl⟩ rfl ⟨Nat.zero_le _, Nat.zero_le _⟩ (fun v9 u2 hu2 => ?_) (fun E9 w9 h9 => by obtain ⟨⟨x9, h9, _⟩, _⟩ := h9; cases h9)
  obtain ⟨⟨x2, e9, hx2⟩, hM2, ht2, hF2⟩ := hu2
  cases e9
  have hC2 := hC1.keepF hF2 (fun b hb q => by omega)
  refine V_fstore dL_law_2307 (Nat.le_of_ble_eq_true rfl) rfl rfl ?_
  refine V_aload_n (i := 2) dL_law_2309 rfl rfl ?_
  refine V_callVF dL_law_2310 (m_thrown (n := (fShareK S)) ht2) okX11_thrown lkRL_160 (Or.inr ⟨rfl, Nat.le_of_ble_eq_true rfl⟩) rfl rfl rfl rfl (Nat.le_of_ble_eq_true rfl) ⟨Nat.le_of_ble_eq_true rfl, Nat.le_of_ble_eq_true rfl⟩ rfl ?_
  refine V_iload dL_law_2313 rfl ?_
  refine V_icmp_eq_n (tgt := 2320) dL_law_2315 (by decide) (by omega) (by omega) (fun h2315 => ?_) (fun h2315 => by exfalso; omega)
  refine V_iload dL_law_2320 rfl ?_
  refine V_if_ne_n (tgt := 2358) dL_law_2322 (by decide) (by omega) (fun h2322 => ?_) (fun h2322 => ?_)
  · refine V_goto (tgt := 2878) dL_law_2358 (by decide) ?_
    exact (V_w (by omega) (by omega) (hb _ _ hC2 hM2)).sub (by repeat' (first | exact trivial | exact rfl | constructor))
  · refine V_aload dL_law_2325 rfl ?_
    refine V_iconst_n (v := 0) dL_law_2327 (by decide) ?_
    refine V_dald dL_law_2328 (Or.inr ⟨rfl, Nat.le_of_ble_eq_true rfl⟩) rfl (in_n (by omega) (by decide)) ?_
    refine V_topD (y := (FP.f2d (fShareV S))) (gf0 hF2 (by omega) (hv h2322)) ?_
    refine V_fload dL_law_2329 rfl ?_
    refine V_topF (y := (fShareV S)) (hx2 h2322) ?_
    refine V_f2d dL_law_2331 (fpt_sh h2322) ?_
    refine V_dcmp dL_law_2332 ?_
    refine V_top (y := nI 0) (fpt_sc h2322) ?_
    refine V_if_eq_n (tgt := 2358) dL_law_2333 (by decide) (by omega) (fun h2333 => ?_) (fun h2333 => by exfalso; omega)
    refine V_goto (tgt := 2878) dL_law_2358 (by decide) ?_
    exact (V_w (by omega) (by omega) (hb _ _ hC2 hM2)).sub (by repeat' (first | exact trivial | exact rfl | constructor))
set_option maxRecDepth 100000 in
set_option maxHeartbeats 1000000 in
theorem law_c41 {b n t kc ks : Nat} {xs : Nat → Int32} {S : Sys} {w : Wd} (hC : CI w S) (hM : MI w S) (ht : 5 * t + 5 ≤ n) (hn : n ≤ 2560) (hk : 4 ≤ kc) (hs : 24 ≤ ks) (hb : LBack b n xs t (kc - 4) (ks - 24)) : LV b n xs kc ks 2361 [some (.ref 1999), some (.ref 0), some (.ref 47), some (.ref 65), some (.ref 66), some (.int (nI (5 * t))), none, none, none] [] w := by
  refine V_aload_n (i := 1) dL_law_2361 rfl rfl ?_
  refine V_callV dL_law_2362 (c_isConsistent hC) okX10_isConsistent lkRL_305 (Or.inr ⟨rfl, Nat.le_of_ble_eq_true rfl⟩) rfl rfl rfl rfl (Nat.le_of_ble_eq_true rfl) ⟨Nat.le_of_ble_eq_true rfl, Nat.le_of_ble_eq_true rfl⟩ rfl ⟨by omega, by omega⟩ (fun v9 u1 hu1 => ?_) (fun E9 w9 h9 => by rcases h9 with ⟨⟨h0, h9⟩ | ⟨h0, h9⟩, _⟩ <;> first | (cases h9; done) | exact absurd h0 (Nat.lt_irrefl 0))
  obtain ⟨⟨h0, e9⟩ | ⟨h0, e9⟩, hC1, hF1⟩ := hu1
  · cases e9
    have hM1 := hM.keepF hF1 (fun b h1 h2 q => by have q9 : b < 47 := q; omega)
    refine V_aload_n (i := 2) dL_law_2365 rfl rfl ?_
    refine V_callV dL_law_2366 (m_isConsistent hM1) okX11_isConsistent lkRL_308 (Or.inr ⟨rfl, Nat.le_of_ble_eq_true rfl⟩) rfl rfl rfl rfl (Nat.le_of_ble_eq_true rfl) ⟨Nat.le_of_ble_eq_true rfl, Nat.le_of_ble_eq_true rfl⟩ rfl ⟨Nat.zero_le _, Nat.zero_le _⟩ (fun v9 u2 hu2 => ?_) (fun E9 w9 h9 => by obtain ⟨⟨x9, h9, _⟩, _⟩ := h9; cases h9)
    obtain ⟨⟨x2, e9, hx2⟩, hM2, ht2, hF2⟩ := hu2
    cases e9
    have hC2 := hC1.keepF hF2 (fun b hb q => by omega)
    refine V_top (y := (fIsConsistent S).2.1) (hx2 rfl) ?_
    refine V_icmp_eq (tgt := 2878) dL_law_2369 (by decide) (fun h2369 => ?_) (fun h2369 => by exfalso; exact h2369 rfl)
    exact (V_w (by omega) (by omega) (hb _ _ hC2 hM2)).sub (by repeat' (first | exact trivial | exact rfl | constructor))
  · exact absurd h0 (Nat.lt_irrefl 0)
set_option maxRecDepth 100000 in
set_option maxHeartbeats 1000000 in
theorem law_c42 {b n t kc ks : Nat} {xs : Nat → Int32} {S : Sys} {w : Wd} (hC : CI w S) (hM : MI w S) (ht : 5 * t + 5 ≤ n) (hn : n ≤ 2560) (hk : 4 ≤ kc) (hs : 24 ≤ ks) (hb : LBack b n xs t (kc - 4) (ks - 24)) : LV b n xs kc ks 2374 [some (.ref 1999), some (.ref 0), some (.ref 47), some (.ref 65), some (.ref 66), some (.int (nI (5 * t))), none, none, none] [] w := by
  refine V_aload_n (i := 1) dL_law_2374 rfl rfl ?_
  refine V_aload_n (i := 0) dL_law_2375 rfl rfl ?_
  refine V_iload dL_law_2376 rfl ?_
  refine V_iconst_n (v := 1) dL_law_2378 (by decide) ?_
  refine V_iadd_n dL_law_2379 ?_
  refine V_sld (i := ((5 * t) + 1)) dL_law_2380 (by omega) (by omega) ?_
  refine V_aload_n (i := 3) dL_law_2381 rfl rfl ?_
  refine V_callSH dL_law_2382 (l_writeRow hC (zI_of _) (zb1 _) (zb2 _)) okL_writeRow lkRL_309 rfl rfl (Nat.le_of_ble_eq_true rfl) ⟨Nat.le_of_ble_eq_true rfl, Nat.le_of_ble_eq_true rfl⟩ rfl ⟨by omega, by omega⟩ (fun v9 u1 hu1 => ?_) (fun E9 u1 hu1 => by obtain ⟨h9, _⟩ := hu1; cases h9)
  obtain ⟨e9, hv, hC1, hF1⟩ := hu1
  cases e9
  have hM1 := hM.keepF hF1 (fun b h1 h2 q => by omega)
  have hle : (fWriteRow S (xs ((5 * t) + 1)).toInt).1 ≤ 1 := le_writeRow
  refine V_istore dL_law_2385 (Nat.le_of_ble_eq_true rfl) rfl rfl ?_
  refine V_aload_n (i := 2) dL_law_2387 rfl rfl ?_
  refine V_aload_n (i := 0) dL_law_2388 rfl rfl ?_
  refine V_iload dL_law_2389 rfl ?_
  refine V_iconst_n (v := 1) dL_law_2391 (by decide) ?_
  refine V_iadd_n dL_law_2392 ?_
  refine V_sld (i := ((5 * t) + 1)) dL_law_2393 (by omega) (by omega) ?_
  refine V_callV dL_law_2394 (m_writeRow hM1 (zI_of _) (zb1 _) (zb2 _)) okX11_writeRow lkRL_311 (Or.inr ⟨rfl, Nat.le_of_ble_eq_true rfl⟩) rfl rfl rfl rfl (Nat.le_of_ble_eq_true rfl) ⟨Nat.le_of_ble_eq_true rfl, Nat.le_of_ble_eq_true rfl⟩ rfl ⟨Nat.zero_le _, Nat.zero_le _⟩ (fun v9 u2 hu2 => ?_) (fun E9 w9 h9 => by obtain ⟨⟨x9, h9, _⟩, _⟩ := h9; cases h9)
  obtain ⟨⟨x2, e9, hx2⟩, hM2, ht2, hF2⟩ := hu2
  cases e9
  have hC2 := hC1.keepF hF2 (fun b hb q => by omega)
  refine V_istore dL_law_2397 (Nat.le_of_ble_eq_true rfl) rfl rfl ?_
  refine V_aload_n (i := 2) dL_law_2399 rfl rfl ?_
  refine V_callVF dL_law_2400 (m_thrown (n := (fWriteRow S (xs ((5 * t) + 1)).toInt).1) ht2) okX11_thrown lkRL_160 (Or.inr ⟨rfl, Nat.le_of_ble_eq_true rfl⟩) rfl rfl rfl rfl (Nat.le_of_ble_eq_true rfl) ⟨Nat.le_of_ble_eq_true rfl, Nat.le_of_ble_eq_true rfl⟩ rfl ?_
  refine V_iload dL_law_2403 rfl ?_
  refine V_icmp_eq_n (tgt := 2410) dL_law_2405 (by decide) (by omega) (by omega) (fun h2405 => ?_) (fun h2405 => by exfalso; omega)
  refine V_iload dL_law_2410 rfl ?_
  refine V_if_ne_n (tgt := 2427) dL_law_2412 (by decide) (by omega) (fun h2412 => ?_) (fun h2412 => ?_)
  · refine V_goto (tgt := 2878) dL_law_2427 (by decide) ?_
    exact (V_w (by omega) (by omega) (hb _ _ hC2 hM2)).sub (by repeat' (first | exact trivial | exact rfl | constructor))
  · refine V_aload_n (i := 3) dL_law_2415 rfl rfl ?_
    refine V_iconst_n (v := 0) dL_law_2416 (by decide) ?_
    refine V_lald dL_law_2417 (Or.inr ⟨rfl, Nat.le_of_ble_eq_true rfl⟩) rfl (in_n (by omega) (by decide)) ?_
    refine V_topL (y := (fWriteRow S (xs ((5 * t) + 1)).toInt).2.1.toInt64) (gl0 hF2 (by omega) (hv h2412)) ?_
    refine V_iload dL_law_2418 rfl ?_
    refine V_top (y := (fWriteRow S (xs ((5 * t) + 1)).toInt).2.1) (hx2 h2412) ?_
    refine V_i2l dL_law_2420 ?_
    refine V_lcmp dL_law_2421 ?_
    refine V_top (y := nI 0) (cmp_self _) ?_
    refine V_if_eq_n (tgt := 2427) dL_law_2422 (by decide) (by omega) (fun h2422 => ?_) (fun h2422 => by exfalso; omega)
    refine V_goto (tgt := 2878) dL_law_2427 (by decide) ?_
    exact (V_w (by omega) (by omega) (hb _ _ hC2 hM2)).sub (by repeat' (first | exact trivial | exact rfl | constructor))
set_option maxRecDepth 100000 in
set_option maxHeartbeats 1000000 in
theorem law_c43 {b n t kc ks : Nat} {xs : Nat → Int32} {S : Sys} {w : Wd} (hC : CI w S) (hM : MI w S) (ht : 5 * t + 5 ≤ n) (hn : n ≤ 2560) (hk : 4 ≤ kc) (hs : 24 ≤ ks) (hb : LBack b n xs t (kc - 4) (ks - 24)) : LV b n xs kc ks 2430 [some (.ref 1999), some (.ref 0), some (.ref 47), some (.ref 65), some (.ref 66), some (.int (nI (5 * t))), none, none, none] [] w := by
  refine V_aload_n (i := 1) dL_law_2430 rfl rfl ?_
  refine V_callV dL_law_2431 (c_writeRule hC) okX10_writeRule lkRL_312 (Or.inr ⟨rfl, Nat.le_of_ble_eq_true rfl⟩) rfl rfl rfl rfl (Nat.le_of_ble_eq_true rfl) ⟨Nat.le_of_ble_eq_true rfl, Nat.le_of_ble_eq_true rfl⟩ rfl ⟨by omega, by omega⟩ (fun v9 u1 hu1 => ?_) (fun E9 w9 h9 => by rcases h9 with ⟨⟨h0, h9⟩ | ⟨h0, h9⟩, _⟩ <;> first | (cases h9; done) | exact absurd h0 (Nat.lt_irrefl 0))
  obtain ⟨⟨h0, e9⟩ | ⟨h0, e9⟩, hC1, hF1⟩ := hu1
  · cases e9
    have hM1 := hM.keepF hF1 (fun b h1 h2 q => by have q9 : b < 47 := q; omega)
    refine V_aload_n (i := 2) dL_law_2434 rfl rfl ?_
    refine V_callV dL_law_2435 (m_writeRule hM1) okX11_writeRule lkRL_315 (Or.inr ⟨rfl, Nat.le_of_ble_eq_true rfl⟩) rfl rfl rfl rfl (Nat.le_of_ble_eq_true rfl) ⟨Nat.le_of_ble_eq_true rfl, Nat.le_of_ble_eq_true rfl⟩ rfl ⟨Nat.zero_le _, Nat.zero_le _⟩ (fun v9 u2 hu2 => ?_) (fun E9 w9 h9 => by obtain ⟨⟨x9, h9, _⟩, _⟩ := h9; cases h9)
    obtain ⟨⟨x2, e9, hx2⟩, hM2, ht2, hF2⟩ := hu2
    cases e9
    have hC2 := hC1.keepF hF2 (fun b hb q => by omega)
    refine V_top (y := (fWriteRule S).2.1) (hx2 rfl) ?_
    refine V_icmp_eq (tgt := 2878) dL_law_2438 (by decide) (fun h2438 => ?_) (fun h2438 => by exfalso; exact h2438 rfl)
    exact (V_w (by omega) (by omega) (hb _ _ hC2 hM2)).sub (by repeat' (first | exact trivial | exact rfl | constructor))
  · exact absurd h0 (Nat.lt_irrefl 0)
set_option maxRecDepth 100000 in
set_option maxHeartbeats 1000000 in
theorem law_c44 {b n t kc ks : Nat} {xs : Nat → Int32} {S : Sys} {w : Wd} (hC : CI w S) (hM : MI w S) (ht : 5 * t + 5 ≤ n) (hn : n ≤ 2560) (hk : 4 ≤ kc) (hs : 24 ≤ ks) (hb : LBack b n xs t (kc - 4) (ks - 24)) : LV b n xs kc ks 2443 [some (.ref 1999), some (.ref 0), some (.ref 47), some (.ref 65), some (.ref 66), some (.int (nI (5 * t))), none, none, none] [] w := by
  refine V_aload_n (i := 1) dL_law_2443 rfl rfl ?_
  refine V_aload_n (i := 0) dL_law_2444 rfl rfl ?_
  refine V_iload dL_law_2445 rfl ?_
  refine V_iconst_n (v := 1) dL_law_2447 (by decide) ?_
  refine V_iadd_n dL_law_2448 ?_
  refine V_sld (i := ((5 * t) + 1)) dL_law_2449 (by omega) (by omega) ?_
  refine V_aload_n (i := 3) dL_law_2450 rfl rfl ?_
  refine V_callSH dL_law_2451 (l_outputAt hC (zI_of _) (zb1 _) (zb2 _)) okL_outputAt lkRL_316 rfl rfl (Nat.le_of_ble_eq_true rfl) ⟨Nat.le_of_ble_eq_true rfl, Nat.le_of_ble_eq_true rfl⟩ rfl ⟨by omega, by omega⟩ (fun v9 u1 hu1 => ?_) (fun E9 u1 hu1 => by obtain ⟨h9, _⟩ := hu1; cases h9)
  obtain ⟨e9, hv, hC1, hF1⟩ := hu1
  cases e9
  have hM1 := hM.keepF hF1 (fun b h1 h2 q => by omega)
  have hle : (fOutputAt S (xs ((5 * t) + 1)).toInt).1 ≤ 1 := le_outputAt
  refine V_istore dL_law_2454 (Nat.le_of_ble_eq_true rfl) rfl rfl ?_
  refine V_aload_n (i := 2) dL_law_2456 rfl rfl ?_
  refine V_aload_n (i := 0) dL_law_2457 rfl rfl ?_
  refine V_iload dL_law_2458 rfl ?_
  refine V_iconst_n (v := 1) dL_law_2460 (by decide) ?_
  refine V_iadd_n dL_law_2461 ?_
  refine V_sld (i := ((5 * t) + 1)) dL_law_2462 (by omega) (by omega) ?_
  refine V_callV dL_law_2463 (m_outputAt hM1 (zI_of _) (zb1 _) (zb2 _)) okX11_outputAt lkRL_318 (Or.inr ⟨rfl, Nat.le_of_ble_eq_true rfl⟩) rfl rfl rfl rfl (Nat.le_of_ble_eq_true rfl) ⟨Nat.le_of_ble_eq_true rfl, Nat.le_of_ble_eq_true rfl⟩ rfl ⟨Nat.zero_le _, Nat.zero_le _⟩ (fun v9 u2 hu2 => ?_) (fun E9 w9 h9 => by obtain ⟨⟨x9, h9, _⟩, _⟩ := h9; cases h9)
  obtain ⟨⟨x2, e9, hx2⟩, hM2, ht2, hF2⟩ := hu2
  cases e9
  have hC2 := hC1.keepF hF2 (fun b hb q => by omega)
  refine V_istore dL_law_2466 (Nat.le_of_ble_eq_true rfl) rfl rfl ?_
  refine V_aload_n (i := 2) dL_law_2468 rfl rfl ?_
  refine V_callVF dL_law_2469 (m_thrown (n := (fOutputAt S (xs ((5 * t) + 1)).toInt).1) ht2) okX11_thrown lkRL_160 (Or.inr ⟨rfl, Nat.le_of_ble_eq_true rfl⟩) rfl rfl rfl rfl (Nat.le_of_ble_eq_true rfl) ⟨Nat.le_of_ble_eq_true rfl, Nat.le_of_ble_eq_true rfl⟩ rfl ?_
  refine V_iload dL_law_2472 rfl ?_
  refine V_icmp_eq_n (tgt := 2479) dL_law_2474 (by decide) (by omega) (by omega) (fun h2474 => ?_) (fun h2474 => by exfalso; omega)
  refine V_iload dL_law_2479 rfl ?_
  refine V_if_ne_n (tgt := 2496) dL_law_2481 (by decide) (by omega) (fun h2481 => ?_) (fun h2481 => ?_)
  · refine V_goto (tgt := 2878) dL_law_2496 (by decide) ?_
    exact (V_w (by omega) (by omega) (hb _ _ hC2 hM2)).sub (by repeat' (first | exact trivial | exact rfl | constructor))
  · refine V_aload_n (i := 3) dL_law_2484 rfl rfl ?_
    refine V_iconst_n (v := 0) dL_law_2485 (by decide) ?_
    refine V_lald dL_law_2486 (Or.inr ⟨rfl, Nat.le_of_ble_eq_true rfl⟩) rfl (in_n (by omega) (by decide)) ?_
    refine V_topL (y := (fOutputAt S (xs ((5 * t) + 1)).toInt).2.1.toInt64) (gl0 hF2 (by omega) (hv h2481)) ?_
    refine V_iload dL_law_2487 rfl ?_
    refine V_top (y := (fOutputAt S (xs ((5 * t) + 1)).toInt).2.1) (hx2 h2481) ?_
    refine V_i2l dL_law_2489 ?_
    refine V_lcmp dL_law_2490 ?_
    refine V_top (y := nI 0) (cmp_self _) ?_
    refine V_if_eq_n (tgt := 2496) dL_law_2491 (by decide) (by omega) (fun h2491 => ?_) (fun h2491 => by exfalso; omega)
    refine V_goto (tgt := 2878) dL_law_2496 (by decide) ?_
    exact (V_w (by omega) (by omega) (hb _ _ hC2 hM2)).sub (by repeat' (first | exact trivial | exact rfl | constructor))
set_option maxRecDepth 100000 in
set_option maxHeartbeats 1000000 in
theorem law_c45 {b n t kc ks : Nat} {xs : Nat → Int32} {S : Sys} {w : Wd} (hC : CI w S) (hM : MI w S) (ht : 5 * t + 5 ≤ n) (hn : n ≤ 2560) (hk : 4 ≤ kc) (hs : 24 ≤ ks) (hb : LBack b n xs t (kc - 4) (ks - 24)) : LV b n xs kc ks 2499 [some (.ref 1999), some (.ref 0), some (.ref 47), some (.ref 65), some (.ref 66), some (.int (nI (5 * t))), none, none, none] [] w := by
  refine V_aload_n (i := 1) dL_law_2499 rfl rfl ?_
  refine V_aload_n (i := 0) dL_law_2500 rfl rfl ?_
  refine V_iload dL_law_2501 rfl ?_
  refine V_iconst_n (v := 1) dL_law_2503 (by decide) ?_
  refine V_iadd_n dL_law_2504 ?_
  refine V_sld (i := ((5 * t) + 1)) dL_law_2505 (by omega) (by omega) ?_
  refine V_i2c dL_law_2506 ?_
  have hm2506 : (xs ((5 * t) + 1)).toBitVec.toNat % 65536 < 65536 := Nat.mod_lt _ (by decide)
  refine V_aload_n (i := 3) dL_law_2507 rfl rfl ?_
  refine V_callSH dL_law_2508 (l_appendInput hC (Nat.mod_lt _ (by decide))) okL_appendInput lkRL_319 rfl rfl (Nat.le_of_ble_eq_true rfl) ⟨Nat.le_of_ble_eq_true rfl, Nat.le_of_ble_eq_true rfl⟩ rfl ⟨by omega, by omega⟩ (fun v9 u1 hu1 => ?_) (fun E9 u1 hu1 => by obtain ⟨h9, _⟩ := hu1; cases h9)
  obtain ⟨e9, hv, hC1, hF1⟩ := hu1
  cases e9
  have hM1 := hM.keepF hF1 (fun b h1 h2 q => by omega)
  have hle : (fAppendInput S ((xs ((5 * t) + 1)).toBitVec.toNat % 65536)).1 ≤ 2 := le_appendInput
  refine V_istore dL_law_2511 (Nat.le_of_ble_eq_true rfl) rfl rfl ?_
  refine V_aload_n (i := 2) dL_law_2513 rfl rfl ?_
  refine V_aload_n (i := 0) dL_law_2514 rfl rfl ?_
  refine V_iload dL_law_2515 rfl ?_
  refine V_iconst_n (v := 1) dL_law_2517 (by decide) ?_
  refine V_iadd_n dL_law_2518 ?_
  refine V_sld (i := ((5 * t) + 1)) dL_law_2519 (by omega) (by omega) ?_
  refine V_i2c dL_law_2520 ?_
  have hm2520 : (xs ((5 * t) + 1)).toBitVec.toNat % 65536 < 65536 := Nat.mod_lt _ (by decide)
  refine V_callV dL_law_2521 (m_appendInput hM1 (Nat.mod_lt _ (by decide))) okX11_appendInput lkRL_321 (Or.inr ⟨rfl, Nat.le_of_ble_eq_true rfl⟩) rfl rfl rfl rfl (Nat.le_of_ble_eq_true rfl) ⟨Nat.le_of_ble_eq_true rfl, Nat.le_of_ble_eq_true rfl⟩ rfl ⟨Nat.zero_le _, Nat.zero_le _⟩ (fun v9 u2 hu2 => ?_) (fun E9 w9 h9 => by obtain ⟨⟨x9, h9, _⟩, _⟩ := h9; cases h9)
  obtain ⟨⟨x2, e9, hx2⟩, hM2, ht2, hF2⟩ := hu2
  cases e9
  have hC2 := hC1.keepF hF2 (fun b hb q => by omega)
  refine V_istore dL_law_2524 (Nat.le_of_ble_eq_true rfl) rfl rfl ?_
  refine V_aload_n (i := 2) dL_law_2526 rfl rfl ?_
  refine V_callVF dL_law_2527 (m_thrown (n := (fAppendInput S ((xs ((5 * t) + 1)).toBitVec.toNat % 65536)).1) ht2) okX11_thrown lkRL_160 (Or.inr ⟨rfl, Nat.le_of_ble_eq_true rfl⟩) rfl rfl rfl rfl (Nat.le_of_ble_eq_true rfl) ⟨Nat.le_of_ble_eq_true rfl, Nat.le_of_ble_eq_true rfl⟩ rfl ?_
  refine V_iload dL_law_2530 rfl ?_
  refine V_icmp_eq_n (tgt := 2537) dL_law_2532 (by decide) (by omega) (by omega) (fun h2532 => ?_) (fun h2532 => by exfalso; omega)
  refine V_iload dL_law_2537 rfl ?_
  refine V_if_ne_n (tgt := 2554) dL_law_2539 (by decide) (by omega) (fun h2539 => ?_) (fun h2539 => ?_)
  · refine V_goto (tgt := 2878) dL_law_2554 (by decide) ?_
    exact (V_w (by omega) (by omega) (hb _ _ hC2 hM2)).sub (by repeat' (first | exact trivial | exact rfl | constructor))
  · refine V_aload_n (i := 3) dL_law_2542 rfl rfl ?_
    refine V_iconst_n (v := 0) dL_law_2543 (by decide) ?_
    refine V_lald dL_law_2544 (Or.inr ⟨rfl, Nat.le_of_ble_eq_true rfl⟩) rfl (in_n (by omega) (by decide)) ?_
    refine V_topL (y := (fAppendInput S ((xs ((5 * t) + 1)).toBitVec.toNat % 65536)).2.1.toInt64) (gl0 hF2 (by omega) (hv h2539)) ?_
    refine V_iload dL_law_2545 rfl ?_
    refine V_top (y := (fAppendInput S ((xs ((5 * t) + 1)).toBitVec.toNat % 65536)).2.1) (hx2 h2539) ?_
    refine V_i2l dL_law_2547 ?_
    refine V_lcmp dL_law_2548 ?_
    refine V_top (y := nI 0) (cmp_self _) ?_
    refine V_if_eq_n (tgt := 2554) dL_law_2549 (by decide) (by omega) (fun h2549 => ?_) (fun h2549 => by exfalso; omega)
    refine V_goto (tgt := 2878) dL_law_2554 (by decide) ?_
    exact (V_w (by omega) (by omega) (hb _ _ hC2 hM2)).sub (by repeat' (first | exact trivial | exact rfl | constructor))
set_option maxRecDepth 100000 in
set_option maxHeartbeats 1000000 in
theorem law_c46 {b n t kc ks : Nat} {xs : Nat → Int32} {S : Sys} {w : Wd} (hC : CI w S) (hM : MI w S) (ht : 5 * t + 5 ≤ n) (hn : n ≤ 2560) (hk : 4 ≤ kc) (hs : 24 ≤ ks) (hb : LBack b n xs t (kc - 4) (ks - 24)) : LV b n xs kc ks 2557 [some (.ref 1999), some (.ref 0), some (.ref 47), some (.ref 65), some (.ref 66), some (.int (nI (5 * t))), none, none, none] [] w := by
  refine V_aload_n (i := 1) dL_law_2557 rfl rfl ?_
  refine V_aload_n (i := 3) dL_law_2558 rfl rfl ?_
  refine V_callSH dL_law_2559 (l_execute hC) okL_execute lkRL_322 rfl rfl (Nat.le_of_ble_eq_true rfl) ⟨Nat.le_of_ble_eq_true rfl, Nat.le_of_ble_eq_true rfl⟩ rfl ⟨by omega, by omega⟩ (fun v9 u1 hu1 => ?_) (fun E9 u1 hu1 => by obtain ⟨_, _, h9, _⟩ := hu1; cases h9)
  obtain ⟨R, hx, e9, hv, hC1, hF1⟩ := hu1
  cases e9
  have hM1 := hM.keepF hF1 (fun b h1 h2 q => by omega)
  have hle : R.1 ≤ 3 := ExR_le hx
  refine V_istore dL_law_2562 (Nat.le_of_ble_eq_true rfl) rfl rfl ?_
  refine V_aload_n (i := 2) dL_law_2564 rfl rfl ?_
  refine V_callV dL_law_2565 (m_execute hM1 hx) okX11_execute lkRL_324 (Or.inr ⟨rfl, Nat.le_of_ble_eq_true rfl⟩) rfl rfl rfl rfl (Nat.le_of_ble_eq_true rfl) ⟨Nat.le_of_ble_eq_true rfl, Nat.le_of_ble_eq_true rfl⟩ rfl ⟨Nat.zero_le _, Nat.zero_le _⟩ (fun v9 u2 hu2 => ?_) (fun E9 w9 h9 => by obtain ⟨⟨x9, h9, _⟩, _⟩ := h9; cases h9)
  obtain ⟨⟨x2, e9, hx2⟩, hM2, ht2, hF2⟩ := hu2
  cases e9
  have hC2 := hC1.keepF hF2 (fun b hb q => by omega)
  refine V_istore dL_law_2568 (Nat.le_of_ble_eq_true rfl) rfl rfl ?_
  refine V_aload_n (i := 2) dL_law_2570 rfl rfl ?_
  refine V_callVF dL_law_2571 (m_thrown (n := R.1) ht2) okX11_thrown lkRL_160 (Or.inr ⟨rfl, Nat.le_of_ble_eq_true rfl⟩) rfl rfl rfl rfl (Nat.le_of_ble_eq_true rfl) ⟨Nat.le_of_ble_eq_true rfl, Nat.le_of_ble_eq_true rfl⟩ rfl ?_
  refine V_iload dL_law_2574 rfl ?_
  refine V_icmp_eq_n (tgt := 2581) dL_law_2576 (by decide) (by omega) (by omega) (fun h2576 => ?_) (fun h2576 => by exfalso; omega)
  refine V_iload dL_law_2581 rfl ?_
  refine V_if_ne_n (tgt := 2598) dL_law_2583 (by decide) (by omega) (fun h2583 => ?_) (fun h2583 => ?_)
  · refine V_goto (tgt := 2878) dL_law_2598 (by decide) ?_
    exact (V_w (by omega) (by omega) (hb _ _ hC2 hM2)).sub (by repeat' (first | exact trivial | exact rfl | constructor))
  · refine V_aload_n (i := 3) dL_law_2586 rfl rfl ?_
    refine V_iconst_n (v := 0) dL_law_2587 (by decide) ?_
    refine V_lald dL_law_2588 (Or.inr ⟨rfl, Nat.le_of_ble_eq_true rfl⟩) rfl (in_n (by omega) (by decide)) ?_
    refine V_topL (y := R.2.1.toInt64) (gl0 hF2 (by omega) (hv h2583)) ?_
    refine V_iload dL_law_2589 rfl ?_
    refine V_top (y := R.2.1) (hx2 h2583) ?_
    refine V_i2l dL_law_2591 ?_
    refine V_lcmp dL_law_2592 ?_
    refine V_top (y := nI 0) (cmp_self _) ?_
    refine V_if_eq_n (tgt := 2598) dL_law_2593 (by decide) (by omega) (fun h2593 => ?_) (fun h2593 => by exfalso; omega)
    refine V_goto (tgt := 2878) dL_law_2598 (by decide) ?_
    exact (V_w (by omega) (by omega) (hb _ _ hC2 hM2)).sub (by repeat' (first | exact trivial | exact rfl | constructor))
set_option maxRecDepth 100000 in
set_option maxHeartbeats 1000000 in
theorem law_c47 {b n t kc ks : Nat} {xs : Nat → Int32} {S : Sys} {w : Wd} (hC : CI w S) (hM : MI w S) (ht : 5 * t + 5 ≤ n) (hn : n ≤ 2560) (hk : 4 ≤ kc) (hs : 24 ≤ ks) (hb : LBack b n xs t (kc - 4) (ks - 24)) : LV b n xs kc ks 2601 [some (.ref 1999), some (.ref 0), some (.ref 47), some (.ref 65), some (.ref 66), some (.int (nI (5 * t))), none, none, none] [] w := by
  refine V_aload_n (i := 1) dL_law_2601 rfl rfl ?_
  refine V_aload_n (i := 3) dL_law_2602 rfl rfl ?_
  refine V_callSH dL_law_2603 (l_syntaxErrorOffset hC) okL_syntaxErrorOffset lkRL_325 rfl rfl (Nat.le_of_ble_eq_true rfl) ⟨Nat.le_of_ble_eq_true rfl, Nat.le_of_ble_eq_true rfl⟩ rfl ⟨by omega, by omega⟩ (fun v9 u1 hu1 => ?_) (fun E9 u1 hu1 => by obtain ⟨h9, _⟩ := hu1; cases h9)
  obtain ⟨e9, hv, hC1, hF1⟩ := hu1
  cases e9
  have hM1 := hM.keepF hF1 (fun b h1 h2 q => by omega)
  have hle : (fSyntaxErrorOffset S).1 ≤ 1 := le_syntaxErrorOffset
  refine V_istore dL_law_2606 (Nat.le_of_ble_eq_true rfl) rfl rfl ?_
  refine V_aload_n (i := 2) dL_law_2608 rfl rfl ?_
  refine V_callV dL_law_2609 (m_syntaxErrorOffset hM1) okX11_syntaxErrorOffset lkRL_327 (Or.inr ⟨rfl, Nat.le_of_ble_eq_true rfl⟩) rfl rfl rfl rfl (Nat.le_of_ble_eq_true rfl) ⟨Nat.le_of_ble_eq_true rfl, Nat.le_of_ble_eq_true rfl⟩ rfl ⟨Nat.zero_le _, Nat.zero_le _⟩ (fun v9 u2 hu2 => ?_) (fun E9 w9 h9 => by obtain ⟨⟨x9, h9, _⟩, _⟩ := h9; cases h9)
  obtain ⟨⟨x2, e9, hx2⟩, hM2, ht2, hF2⟩ := hu2
  cases e9
  have hC2 := hC1.keepF hF2 (fun b hb q => by omega)
  refine V_istore dL_law_2612 (Nat.le_of_ble_eq_true rfl) rfl rfl ?_
  refine V_aload_n (i := 2) dL_law_2614 rfl rfl ?_
  refine V_callVF dL_law_2615 (m_thrown (n := (fSyntaxErrorOffset S).1) ht2) okX11_thrown lkRL_160 (Or.inr ⟨rfl, Nat.le_of_ble_eq_true rfl⟩) rfl rfl rfl rfl (Nat.le_of_ble_eq_true rfl) ⟨Nat.le_of_ble_eq_true rfl, Nat.le_of_ble_eq_true rfl⟩ rfl ?_
  refine V_iload dL_law_2618 rfl ?_
  refine V_icmp_eq_n (tgt := 2625) dL_law_2620 (by decide) (by omega) (by omega) (fun h2620 => ?_) (fun h2620 => by exfalso; omega)
  refine V_iload dL_law_2625 rfl ?_
  refine V_if_ne_n (tgt := 2642) dL_law_2627 (by decide) (by omega) (fun h2627 => ?_) (fun h2627 => ?_)
  · refine V_goto (tgt := 2878) dL_law_2642 (by decide) ?_
    exact (V_w (by omega) (by omega) (hb _ _ hC2 hM2)).sub (by repeat' (first | exact trivial | exact rfl | constructor))
  · refine V_aload_n (i := 3) dL_law_2630 rfl rfl ?_
    refine V_iconst_n (v := 0) dL_law_2631 (by decide) ?_
    refine V_lald dL_law_2632 (Or.inr ⟨rfl, Nat.le_of_ble_eq_true rfl⟩) rfl (in_n (by omega) (by decide)) ?_
    refine V_topL (y := (fSyntaxErrorOffset S).2.1.toInt64) (gl0 hF2 (by omega) (hv h2627)) ?_
    refine V_iload dL_law_2633 rfl ?_
    refine V_top (y := (fSyntaxErrorOffset S).2.1) (hx2 h2627) ?_
    refine V_i2l dL_law_2635 ?_
    refine V_lcmp dL_law_2636 ?_
    refine V_top (y := nI 0) (cmp_self _) ?_
    refine V_if_eq_n (tgt := 2642) dL_law_2637 (by decide) (by omega) (fun h2637 => ?_) (fun h2637 => by exfalso; omega)
    refine V_goto (tgt := 2878) dL_law_2642 (by decide) ?_
    exact (V_w (by omega) (by omega) (hb _ _ hC2 hM2)).sub (by repeat' (first | exact trivial | exact rfl | constructor))
set_option maxRecDepth 100000 in
set_option maxHeartbeats 1000000 in
theorem law_c48 {b n t kc ks : Nat} {xs : Nat → Int32} {S : Sys} {w : Wd} (hC : CI w S) (hM : MI w S) (ht : 5 * t + 5 ≤ n) (hn : n ≤ 2560) (hk : 4 ≤ kc) (hs : 24 ≤ ks) (hb : LBack b n xs t (kc - 4) (ks - 24)) : LV b n xs kc ks 2645 [some (.ref 1999), some (.ref 0), some (.ref 47), some (.ref 65), some (.ref 66), some (.int (nI (5 * t))), none, none, none] [] w := by
  refine V_aload_n (i := 1) dL_law_2645 rfl rfl ?_
  refine V_aload_n (i := 3) dL_law_2646 rfl rfl ?_
  refine V_callSH dL_law_2647 (l_rejectionReason hC) okL_rejectionReason lkRL_328 rfl rfl (Nat.le_of_ble_eq_true rfl) ⟨Nat.le_of_ble_eq_true rfl, Nat.le_of_ble_eq_true rfl⟩ rfl ⟨by omega, by omega⟩ (fun v9 u1 hu1 => ?_) (fun E9 u1 hu1 => by obtain ⟨h9, _⟩ := hu1; cases h9)
  obtain ⟨e9, hv, hC1, hF1⟩ := hu1
  cases e9
  have hM1 := hM.keepF hF1 (fun b h1 h2 q => by omega)
  have hle : (fRejectionReason S).1 ≤ 1 := le_rejectionReason
  refine V_istore dL_law_2650 (Nat.le_of_ble_eq_true rfl) rfl rfl ?_
  refine V_aload_n (i := 2) dL_law_2652 rfl rfl ?_
  refine V_callV dL_law_2653 (m_rejectionReason hM1) okX11_rejectionReason lkRL_330 (Or.inr ⟨rfl, Nat.le_of_ble_eq_true rfl⟩) rfl rfl rfl rfl (Nat.le_of_ble_eq_true rfl) ⟨Nat.le_of_ble_eq_true rfl, Nat.le_of_ble_eq_true rfl⟩ rfl ⟨Nat.zero_le _, Nat.zero_le _⟩ (fun v9 u2 hu2 => ?_) (fun E9 w9 h9 => by obtain ⟨⟨x9, h9, _⟩, _⟩ := h9; cases h9)
  obtain ⟨⟨x2, e9, hx2⟩, hM2, ht2, hF2⟩ := hu2
  cases e9
  have hC2 := hC1.keepF hF2 (fun b hb q => by omega)
  refine V_istore dL_law_2656 (Nat.le_of_ble_eq_true rfl) rfl rfl ?_
  refine V_aload_n (i := 2) dL_law_2658 rfl rfl ?_
  refine V_callVF dL_law_2659 (m_thrown (n := (fRejectionReason S).1) ht2) okX11_thrown lkRL_160 (Or.inr ⟨rfl, Nat.le_of_ble_eq_true rfl⟩) rfl rfl rfl rfl (Nat.le_of_ble_eq_true rfl) ⟨Nat.le_of_ble_eq_true rfl, Nat.le_of_ble_eq_true rfl⟩ rfl ?_
  refine V_iload dL_law_2662 rfl ?_
  refine V_icmp_eq_n (tgt := 2669) dL_law_2664 (by decide) (by omega) (by omega) (fun h2664 => ?_) (fun h2664 => by exfalso; omega)
  refine V_iload dL_law_2669 rfl ?_
  refine V_if_ne_n (tgt := 2686) dL_law_2671 (by decide) (by omega) (fun h2671 => ?_) (fun h2671 => ?_)
  · refine V_goto (tgt := 2878) dL_law_2686 (by decide) ?_
    exact (V_w (by omega) (by omega) (hb _ _ hC2 hM2)).sub (by repeat' (first | exact trivial | exact rfl | constructor))
  · refine V_aload_n (i := 3) dL_law_2674 rfl rfl ?_
    refine V_iconst_n (v := 0) dL_law_2675 (by decide) ?_
    refine V_lald dL_law_2676 (Or.inr ⟨rfl, Nat.le_of_ble_eq_true rfl⟩) rfl (in_n (by omega) (by decide)) ?_
    refine V_topL (y := (fRejectionReason S).2.1.toInt64) (gl0 hF2 (by omega) (hv h2671)) ?_
    refine V_iload dL_law_2677 rfl ?_
    refine V_top (y := (fRejectionReason S).2.1) (hx2 h2671) ?_
    refine V_i2l dL_law_2679 ?_
    refine V_lcmp dL_law_2680 ?_
    refine V_top (y := nI 0) (cmp_self _) ?_
    refine V_if_eq_n (tgt := 2686) dL_law_2681 (by decide) (by omega) (fun h2681 => ?_) (fun h2681 => by exfalso; omega)
    refine V_goto (tgt := 2878) dL_law_2686 (by decide) ?_
    exact (V_w (by omega) (by omega) (hb _ _ hC2 hM2)).sub (by repeat' (first | exact trivial | exact rfl | constructor))
set_option maxRecDepth 100000 in
set_option maxHeartbeats 1000000 in
theorem law_c49 {b n t kc ks : Nat} {xs : Nat → Int32} {S : Sys} {w : Wd} (hC : CI w S) (hM : MI w S) (ht : 5 * t + 5 ≤ n) (hn : n ≤ 2560) (hk : 4 ≤ kc) (hs : 24 ≤ ks) (hb : LBack b n xs t (kc - 4) (ks - 24)) : LV b n xs kc ks 2689 [some (.ref 1999), some (.ref 0), some (.ref 47), some (.ref 65), some (.ref 66), some (.int (nI (5 * t))), none, none, none] [] w := by
  refine V_aload_n (i := 1) dL_law_2689 rfl rfl ?_
  refine V_aload_n (i := 3) dL_law_2690 rfl rfl ?_
  refine V_callSH dL_law_2691 (l_rejectionDetail hC) okL_rejectionDetail lkRL_331 rfl rfl (Nat.le_of_ble_eq_true rfl) ⟨Nat.le_of_ble_eq_true rfl, Nat.le_of_ble_eq_true rfl⟩ rfl ⟨by omega, by omega⟩ (fun v9 u1 hu1 => ?_) (fun E9 u1 hu1 => by obtain ⟨h9, _⟩ := hu1; cases h9)
  obtain ⟨e9, hv, hC1, hF1⟩ := hu1
  cases e9
  have hM1 := hM.keepF hF1 (fun b h1 h2 q => by omega)
  have hle : (fRejectionDetail S).1 ≤ 1 := le_rejectionDetail
  refine V_istore dL_law_2694 (Nat.le_of_ble_eq_true rfl) rfl rfl ?_
  refine V_aload_n (i := 2) dL_law_2696 rfl rfl ?_
  refine V_callV dL_law_2697 (m_rejectionDetail hM1) okX11_rejectionDetail lkRL_333 (Or.inr ⟨rfl, Nat.le_of_ble_eq_true rfl⟩) rfl rfl rfl rfl (Nat.le_of_ble_eq_true rfl) ⟨Nat.le_of_ble_eq_true rfl, Nat.le_of_ble_eq_true rfl⟩ rfl ⟨Nat.zero_le _, Nat.zero_le _⟩ (fun v9 u2 hu2 => ?_) (fun E9 w9 h9 => by obtain ⟨⟨x9, h9, _⟩, _⟩ := h9; cases h9)
  obtain ⟨⟨x2, e9, hx2⟩, hM2, ht2, hF2⟩ := hu2
  cases e9
  have hC2 := hC1.keepF hF2 (fun b hb q => by omega)
  refine V_istore dL_law_2700 (Nat.le_of_ble_eq_true rfl) rfl rfl ?_
  refine V_aload_n (i := 2) dL_law_2702 rfl rfl ?_
  refine V_callVF dL_law_2703 (m_thrown (n := (fRejectionDetail S).1) ht2) okX11_thrown lkRL_160 (Or.inr ⟨rfl, Nat.le_of_ble_eq_true rfl⟩) rfl rfl rfl rfl (Nat.le_of_ble_eq_true rfl) ⟨Nat.le_of_ble_eq_true rfl, Nat.le_of_ble_eq_true rfl⟩ rfl ?_
  refine V_iload dL_law_2706 rfl ?_
  refine V_icmp_eq_n (tgt := 2713) dL_law_2708 (by decide) (by omega) (by omega) (fun h2708 => ?_) (fun h2708 => by exfalso; omega)
  refine V_iload dL_law_2713 rfl ?_
  refine V_if_ne_n (tgt := 2730) dL_law_2715 (by decide) (by omega) (fun h2715 => ?_) (fun h2715 => ?_)
  · refine V_goto (tgt := 2878) dL_law_2730 (by decide) ?_
    exact (V_w (by omega) (by omega) (hb _ _ hC2 hM2)).sub (by repeat' (first | exact trivial | exact rfl | constructor))
  · refine V_aload_n (i := 3) dL_law_2718 rfl rfl ?_
    refine V_iconst_n (v := 0) dL_law_2719 (by decide) ?_
    refine V_lald dL_law_2720 (Or.inr ⟨rfl, Nat.le_of_ble_eq_true rfl⟩) rfl (in_n (by omega) (by decide)) ?_
    refine V_topL (y := (fRejectionDetail S).2.1.toInt64) (gl0 hF2 (by omega) (hv h2715)) ?_
    refine V_iload dL_law_2721 rfl ?_
    refine V_top (y := (fRejectionDetail S).2.1) (hx2 h2715) ?_
    refine V_i2l dL_law_2723 ?_
    refine V_lcmp dL_law_2724 ?_
    refine V_top (y := nI 0) (cmp_self _) ?_
    refine V_if_eq_n (tgt := 2730) dL_law_2725 (by decide) (by omega) (fun h2725 => ?_) (fun h2725 => by exfalso; omega)
    refine V_goto (tgt := 2878) dL_law_2730 (by decide) ?_
    exact (V_w (by omega) (by omega) (hb _ _ hC2 hM2)).sub (by repeat' (first | exact trivial | exact rfl | constructor))
set_option maxRecDepth 100000 in
set_option maxHeartbeats 1000000 in
theorem law_c50 {b n t kc ks : Nat} {xs : Nat → Int32} {S : Sys} {w : Wd} (hC : CI w S) (hM : MI w S) (ht : 5 * t + 5 ≤ n) (hn : n ≤ 2560) (hk : 4 ≤ kc) (hs : 24 ≤ ks) (hb : LBack b n xs t (kc - 4) (ks - 24)) : LV b n xs kc ks 2733 [some (.ref 1999), some (.ref 0), some (.ref 47), some (.ref 65), some (.ref 66), some (.int (nI (5 * t))), none, none, none] [] w := by
  refine V_aload_n (i := 1) dL_law_2733 rfl rfl ?_
  refine V_aload_n (i := 3) dL_law_2734 rfl rfl ?_
  refine V_callSH dL_law_2735 (l_causeReason hC) okL_causeReason lkRL_334 rfl rfl (Nat.le_of_ble_eq_true rfl) ⟨Nat.le_of_ble_eq_true rfl, Nat.le_of_ble_eq_true rfl⟩ rfl ⟨by omega, by omega⟩ (fun v9 u1 hu1 => ?_) (fun E9 u1 hu1 => by obtain ⟨h9, _⟩ := hu1; cases h9)
  obtain ⟨e9, hv, hC1, hF1⟩ := hu1
  cases e9
  have hM1 := hM.keepF hF1 (fun b h1 h2 q => by omega)
  have hle : (fCauseReason S).1 ≤ 1 := le_causeReason
  refine V_istore dL_law_2738 (Nat.le_of_ble_eq_true rfl) rfl rfl ?_
  refine V_aload_n (i := 2) dL_law_2740 rfl rfl ?_
  refine V_callV dL_law_2741 (m_causeReason hM1) okX11_causeReason lkRL_336 (Or.inr ⟨rfl, Nat.le_of_ble_eq_true rfl⟩) rfl rfl rfl rfl (Nat.le_of_ble_eq_true rfl) ⟨Nat.le_of_ble_eq_true rfl, Nat.le_of_ble_eq_true rfl⟩ rfl ⟨Nat.zero_le _, Nat.zero_le _⟩ (fun v9 u2 hu2 => ?_) (fun E9 w9 h9 => by obtain ⟨⟨x9, h9, _⟩, _⟩ := h9; cases h9)
  obtain ⟨⟨x2, e9, hx2⟩, hM2, ht2, hF2⟩ := hu2
  cases e9
  have hC2 := hC1.keepF hF2 (fun b hb q => by omega)
  refine V_istore dL_law_2744 (Nat.le_of_ble_eq_true rfl) rfl rfl ?_
  refine V_aload_n (i := 2) dL_law_2746 rfl rfl ?_
  refine V_callVF dL_law_2747 (m_thrown (n := (fCauseReason S).1) ht2) okX11_thrown lkRL_160 (Or.inr ⟨rfl, Nat.le_of_ble_eq_true rfl⟩) rfl rfl rfl rfl (Nat.le_of_ble_eq_true rfl) ⟨Nat.le_of_ble_eq_true rfl, Nat.le_of_ble_eq_true rfl⟩ rfl ?_
  refine V_iload dL_law_2750 rfl ?_
  refine V_icmp_eq_n (tgt := 2757) dL_law_2752 (by decide) (by omega) (by omega) (fun h2752 => ?_) (fun h2752 => by exfalso; omega)
  refine V_iload dL_law_2757 rfl ?_
  refine V_if_ne_n (tgt := 2774) dL_law_2759 (by decide) (by omega) (fun h2759 => ?_) (fun h2759 => ?_)
  · refine V_goto (tgt := 2878) dL_law_2774 (by decide) ?_
    exact (V_w (by omega) (by omega) (hb _ _ hC2 hM2)).sub (by repeat' (first | exact trivial | exact rfl | constructor))
  · refine V_aload_n (i := 3) dL_law_2762 rfl rfl ?_
    refine V_iconst_n (v := 0) dL_law_2763 (by decide) ?_
    refine V_lald dL_law_2764 (Or.inr ⟨rfl, Nat.le_of_ble_eq_true rfl⟩) rfl (in_n (by omega) (by decide)) ?_
    refine V_topL (y := (fCauseReason S).2.1.toInt64) (gl0 hF2 (by omega) (hv h2759)) ?_
    refine V_iload dL_law_2765 rfl ?_
    refine V_top (y := (fCauseReason S).2.1) (hx2 h2759) ?_
    refine V_i2l dL_law_2767 ?_
    refine V_lcmp dL_law_2768 ?_
    refine V_top (y := nI 0) (cmp_self _) ?_
    refine V_if_eq_n (tgt := 2774) dL_law_2769 (by decide) (by omega) (fun h2769 => ?_) (fun h2769 => by exfalso; omega)
    refine V_goto (tgt := 2878) dL_law_2774 (by decide) ?_
    exact (V_w (by omega) (by omega) (hb _ _ hC2 hM2)).sub (by repeat' (first | exact trivial | exact rfl | constructor))
set_option maxRecDepth 100000 in
set_option maxHeartbeats 1000000 in
theorem law_c51 {b n t kc ks : Nat} {xs : Nat → Int32} {S : Sys} {w : Wd} (hC : CI w S) (hM : MI w S) (ht : 5 * t + 5 ≤ n) (hn : n ≤ 2560) (hk : 4 ≤ kc) (hs : 24 ≤ ks) (hb : LBack b n xs t (kc - 4) (ks - 24)) : LV b n xs kc ks 2777 [some (.ref 1999), some (.ref 0), some (.ref 47), some (.ref 65), some (.ref 66), some (.int (nI (5 * t))), none, none, none] [] w := by
  refine V_aload_n (i := 1) dL_law_2777 rfl rfl ?_
  refine V_aload_n (i := 3) dL_law_2778 rfl rfl ?_
  refine V_callSH dL_law_2779 (l_undo hC) okL_undo lkRL_337 rfl rfl (Nat.le_of_ble_eq_true rfl) ⟨Nat.le_of_ble_eq_true rfl, Nat.le_of_ble_eq_true rfl⟩ rfl ⟨by omega, by omega⟩ (fun v9 u1 hu1 => ?_) (fun E9 u1 hu1 => by obtain ⟨h9, _⟩ := hu1; cases h9)
  obtain ⟨e9, hv, hC1, hF1⟩ := hu1
  cases e9
  have hM1 := hM.keepF hF1 (fun b h1 h2 q => by omega)
  have hle : (fUndo S).1 ≤ 1 := le_undo
  refine V_istore dL_law_2782 (Nat.le_of_ble_eq_true rfl) rfl rfl ?_
  refine V_aload_n (i := 2) dL_law_2784 rfl rfl ?_
  refine V_callV dL_law_2785 (m_undo hM1) okX11_undo lkRL_339 (Or.inr ⟨rfl, Nat.le_of_ble_eq_true rfl⟩) rfl rfl rfl rfl (Nat.le_of_ble_eq_true rfl) ⟨Nat.le_of_ble_eq_true rfl, Nat.le_of_ble_eq_true rfl⟩ rfl ⟨Nat.zero_le _, Nat.zero_le _⟩ (fun v9 u2 hu2 => ?_) (fun E9 w9 h9 => by obtain ⟨⟨x9, h9, _⟩, _⟩ := h9; cases h9)
  obtain ⟨⟨x2, e9, hx2⟩, hM2, ht2, hF2⟩ := hu2
  cases e9
  have hC2 := hC1.keepF hF2 (fun b hb q => by omega)
  refine V_istore dL_law_2788 (Nat.le_of_ble_eq_true rfl) rfl rfl ?_
  refine V_aload_n (i := 2) dL_law_2790 rfl rfl ?_
  refine V_callVF dL_law_2791 (m_thrown (n := (fUndo S).1) ht2) okX11_thrown lkRL_160 (Or.inr ⟨rfl, Nat.le_of_ble_eq_true rfl⟩) rfl rfl rfl rfl (Nat.le_of_ble_eq_true rfl) ⟨Nat.le_of_ble_eq_true rfl, Nat.le_of_ble_eq_true rfl⟩ rfl ?_
  refine V_iload dL_law_2794 rfl ?_
  refine V_icmp_eq_n (tgt := 2801) dL_law_2796 (by decide) (by omega) (by omega) (fun h2796 => ?_) (fun h2796 => by exfalso; omega)
  refine V_iload dL_law_2801 rfl ?_
  refine V_if_ne_n (tgt := 2818) dL_law_2803 (by decide) (by omega) (fun h2803 => ?_) (fun h2803 => ?_)
  · refine V_goto (tgt := 2878) dL_law_2818 (by decide) ?_
    exact (V_w (by omega) (by omega) (hb _ _ hC2 hM2)).sub (by repeat' (first | exact trivial | exact rfl | constructor))
  · refine V_aload_n (i := 3) dL_law_2806 rfl rfl ?_
    refine V_iconst_n (v := 0) dL_law_2807 (by decide) ?_
    refine V_lald dL_law_2808 (Or.inr ⟨rfl, Nat.le_of_ble_eq_true rfl⟩) rfl (in_n (by omega) (by decide)) ?_
    refine V_topL (y := (fUndo S).2.1.toInt64) (gl0 hF2 (by omega) (hv h2803)) ?_
    refine V_iload dL_law_2809 rfl ?_
    refine V_top (y := (fUndo S).2.1) (hx2 h2803) ?_
    refine V_i2l dL_law_2811 ?_
    refine V_lcmp dL_law_2812 ?_
    refine V_top (y := nI 0) (cmp_self _) ?_
    refine V_if_eq_n (tgt := 2818) dL_law_2813 (by decide) (by omega) (fun h2813 => ?_) (fun h2813 => by exfalso; omega)
    refine V_goto (tgt := 2878) dL_law_2818 (by decide) ?_
    exact (V_w (by omega) (by omega) (hb _ _ hC2 hM2)).sub (by repeat' (first | exact trivial | exact rfl | constructor))
set_option maxRecDepth 100000 in
set_option maxHeartbeats 1000000 in
theorem law_c52 {b n t kc ks : Nat} {xs : Nat → Int32} {S : Sys} {w : Wd} (hC : CI w S) (hM : MI w S) (ht : 5 * t + 5 ≤ n) (hn : n ≤ 2560) (hk : 4 ≤ kc) (hs : 24 ≤ ks) (hb : LBack b n xs t (kc - 4) (ks - 24)) : LV b n xs kc ks 2821 [some (.ref 1999), some (.ref 0), some (.ref 47), some (.ref 65), some (.ref 66), some (.int (nI (5 * t))), none, none, none] [] w := by
  refine V_aload_n (i := 1) dL_law_2821 rfl rfl ?_
  refine V_callV dL_law_2822 (c_saveSnapshot hC) okX10_saveSnapshot lkRL_340 (Or.inr ⟨rfl, Nat.le_of_ble_eq_true rfl⟩) rfl rfl rfl rfl (Nat.le_of_ble_eq_true rfl) ⟨Nat.le_of_ble_eq_true rfl, Nat.le_of_ble_eq_true rfl⟩ rfl ⟨by omega, by omega⟩ (fun v9 u1 hu1 => ?_) (fun E9 w9 h9 => by rcases h9 with ⟨⟨h0, h9⟩ | ⟨h0, h9⟩, _⟩ <;> first | (cases h9; done) | exact absurd h0 (Nat.lt_irrefl 0))
  obtain ⟨⟨h0, e9⟩ | ⟨h0, e9⟩, hC1, hF1⟩ := hu1
  · cases e9
    have hM1 := hM.keepF hF1 (fun b h1 h2 q => by have q9 : b < 47 := q; omega)
    refine V_aload_n (i := 2) dL_law_2825 rfl rfl ?_
    refine V_callV dL_law_2826 (m_saveSnapshot hM1) okX11_saveSnapshot lkRL_343 (Or.inr ⟨rfl, Nat.le_of_ble_eq_true rfl⟩) rfl rfl rfl rfl (Nat.le_of_ble_eq_true rfl) ⟨Nat.le_of_ble_eq_true rfl, Nat.le_of_ble_eq_true rfl⟩ rfl ⟨Nat.zero_le _, Nat.zero_le _⟩ (fun v9 u2 hu2 => ?_) (fun E9 w9 h9 => by obtain ⟨⟨x9, h9, _⟩, _⟩ := h9; cases h9)
    obtain ⟨⟨x2, e9, hx2⟩, hM2, ht2, hF2⟩ := hu2
    cases e9
    have hC2 := hC1.keepF hF2 (fun b hb q => by omega)
    refine V_top (y := (fSaveSnapshot S).2.1) (hx2 rfl) ?_
    refine V_icmp_eq (tgt := 2878) dL_law_2829 (by decide) (fun h2829 => ?_) (fun h2829 => by exfalso; exact h2829 rfl)
    exact (V_w (by omega) (by omega) (hb _ _ hC2 hM2)).sub (by repeat' (first | exact trivial | exact rfl | constructor))
  · exact absurd h0 (Nat.lt_irrefl 0)
set_option maxRecDepth 100000 in
set_option maxHeartbeats 1000000 in
theorem law_c53 {b n t kc ks : Nat} {xs : Nat → Int32} {S : Sys} {w : Wd} (hC : CI w S) (hM : MI w S) (ht : 5 * t + 5 ≤ n) (hn : n ≤ 2560) (hk : 4 ≤ kc) (hs : 24 ≤ ks) (hb : LBack b n xs t (kc - 4) (ks - 24)) : LV b n xs kc ks 2834 [some (.ref 1999), some (.ref 0), some (.ref 47), some (.ref 65), some (.ref 66), some (.int (nI (5 * t))), none, none, none] [] w := by
  refine V_aload_n (i := 1) dL_law_2834 rfl rfl ?_
  refine V_aload_n (i := 3) dL_law_2835 rfl rfl ?_
  refine V_callSH dL_law_2836 (l_restoreSnapshot hC) okL_restoreSnapshot lkRL_344 rfl rfl (Nat.le_of_ble_eq_true rfl) ⟨Nat.le_of_ble_eq_true rfl, Nat.le_of_ble_eq_true rfl⟩ rfl ⟨by omega, by omega⟩ (fun v9 u1 hu1 => ?_) (fun E9 u1 hu1 => by obtain ⟨h9, _⟩ := hu1; cases h9)
  obtain ⟨e9, hv, hC1, hF1⟩ := hu1
  cases e9
  have hM1 := hM.keepF hF1 (fun b h1 h2 q => by omega)
  have hle : (fRestoreSnapshot S).1 ≤ 1 := le_restoreSnapshot
  refine V_istore dL_law_2839 (Nat.le_of_ble_eq_true rfl) rfl rfl ?_
  refine V_aload_n (i := 2) dL_law_2841 rfl rfl ?_
  refine V_callV dL_law_2842 (m_restoreSnapshot hM1) okX11_restoreSnapshot lkRL_346 (Or.inr ⟨rfl, Nat.le_of_ble_eq_true rfl⟩) rfl rfl rfl rfl (Nat.le_of_ble_eq_true rfl) ⟨Nat.le_of_ble_eq_true rfl, Nat.le_of_ble_eq_true rfl⟩ rfl ⟨Nat.zero_le _, Nat.zero_le _⟩ (fun v9 u2 hu2 => ?_) (fun E9 w9 h9 => by obtain ⟨⟨x9, h9, _⟩, _⟩ := h9; cases h9)
  obtain ⟨⟨x2, e9, hx2⟩, hM2, ht2, hF2⟩ := hu2
  cases e9
  have hC2 := hC1.keepF hF2 (fun b hb q => by omega)
  refine V_istore dL_law_2845 (Nat.le_of_ble_eq_true rfl) rfl rfl ?_
  refine V_aload_n (i := 2) dL_law_2847 rfl rfl ?_
  refine V_callVF dL_law_2848 (m_thrown (n := (fRestoreSnapshot S).1) ht2) okX11_thrown lkRL_160 (Or.inr ⟨rfl, Nat.le_of_ble_eq_true rfl⟩) rfl rfl rfl rfl (Nat.le_of_ble_eq_true rfl) ⟨Nat.le_of_ble_eq_true rfl, Nat.le_of_ble_eq_true rfl⟩ rfl ?_
  refine V_iload dL_law_2851 rfl ?_
  refine V_icmp_eq_n (tgt := 2858) dL_law_2853 (by decide) (by omega) (by omega) (fun h2853 => ?_) (fun h2853 => by exfalso; omega)
  refine V_iload dL_law_2858 rfl ?_
  refine V_if_ne_n (tgt := 2875) dL_law_2860 (by decide) (by omega) (fun h2860 => ?_) (fun h2860 => ?_)
  · refine V_goto (tgt := 2878) dL_law_2875 (by decide) ?_
    exact (V_w (by omega) (by omega) (hb _ _ hC2 hM2)).sub (by repeat' (first | exact trivial | exact rfl | constructor))
  · refine V_aload_n (i := 3) dL_law_2863 rfl rfl ?_
    refine V_iconst_n (v := 0) dL_law_2864 (by decide) ?_
    refine V_lald dL_law_2865 (Or.inr ⟨rfl, Nat.le_of_ble_eq_true rfl⟩) rfl (in_n (by omega) (by decide)) ?_
    refine V_topL (y := (fRestoreSnapshot S).2.1.toInt64) (gl0 hF2 (by omega) (hv h2860)) ?_
    refine V_iload dL_law_2866 rfl ?_
    refine V_top (y := (fRestoreSnapshot S).2.1) (hx2 h2860) ?_
    refine V_i2l dL_law_2868 ?_
    refine V_lcmp dL_law_2869 ?_
    refine V_top (y := nI 0) (cmp_self _) ?_
    refine V_if_eq_n (tgt := 2875) dL_law_2870 (by decide) (by omega) (fun h2870 => ?_) (fun h2870 => by exfalso; omega)
    refine V_goto (tgt := 2878) dL_law_2875 (by decide) ?_
    exact (V_w (by omega) (by omega) (hb _ _ hC2 hM2)).sub (by repeat' (first | exact trivial | exact rfl | constructor))
end LCASE
