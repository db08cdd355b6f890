section TEST
def stL : List Nat := [1, 4, 7, 12, 15, 18, 21, 24, 27, 30, 33, 37]
def IsSt (a : Nat) : Prop := a ∈ stL
theorem IsSt.sh {a : Nat} (h : IsSt a) : shp 1 a = (0, 5, [a + 1 + 2, a + 2 + 2, 1, 0, 0, 0, 0, 0, 0]) ∧ shp 1 (a + 1) = (2, 64, []) ∧ shp 1 (a + 2) = (1, 64, []) ∧ a + 2 < 67 := (by decide +kernel : ∀ a ∈ stL, shp 1 a = (0, 5, [a + 1 + 2, a + 2 + 2, 1, 0, 0, 0, 0, 0, 0]) ∧ shp 1 (a + 1) = (2, 64, []) ∧ shp 1 (a + 2) = (1, 64, []) ∧ a + 2 < 67) a h
theorem IsSt.mk0 {w : Wd} {a : Nat} (h : IsSt a) : Mk 1 w a := Or.inr ⟨rfl, by have := h.sh.2.2.2; omega⟩
theorem IsSt.mk1 {w : Wd} {a : Nat} (h : IsSt a) : Mk 1 w (a + 1) := Or.inr ⟨rfl, by have := h.sh.2.2.2; omega⟩
theorem IsSt.mk2 {w : Wd} {a : Nat} (h : IsSt a) : Mk 1 w (a + 2) := Or.inr ⟨rfl, by have := h.sh.2.2.2; omega⟩
example (x : Nat) (h : (if 3 < x then 1 else 0) = 0) : x ≤ 3 := by omega
example (x : Nat) (h : (if 3 < x then 1 else 0) = 0) : x ≤ 3 := by grind
example (x : Nat) (h : ¬ (if 3 < x ∧ x < 7 then 1 else 0) = 0) : x ≤ 6 := by omega
example (k : Nat) (hk : k < 64) (h : nI k < 0) : False := by
  simp (disch := omega) only [Int32.lt_iff_toInt_lt, Int32.le_iff_toInt_le, ← Int32.toInt_inj, nI_toInt, Int32.reduceToInt] at h
  omega
example (k : Nat) (hk : k < 64) (h : 64 ≤ nI k) : False := by
  simp (disch := omega) only [Int32.lt_iff_toInt_lt, Int32.le_iff_toInt_le, ← Int32.toInt_inj, nI_toInt, Int32.reduceToInt] at h
  omega
example (w : Wd) (a k b j : Nat) (v : Int32) (h : b ≠ a) : gI (pI w a k v) b j = gI w b j := by grind [gI_pI]
example (f : Nat → Nat) (k r c : Nat) (hr : r < 8) (hc : c < 8) (hk : k = 8 * r + c) : k / 8 = r ∧ k % 8 = c := by omega
theorem c_X8_kindOf {a k : Nat} {w : Wd} (ha : IsSt a) (hk : k < 64) (hc : ∃ q, q < 65536 ∧ gI w (a + 1) k = nI q) : Ct 1 MX8_kindOf 1 0 0 [.ref a, .int (nI k)] w (Rt (some (.int (gI w (a + 1) k))) w) := by
  refine Ct_of (by decide +kernel) rfl (Nat.le_of_ble_eq_true rfl) rfl ?_
  refine V_iload_n (i := 1) dX8_kindOf_0 rfl rfl ?_
  refine V_if_lt (tgt := 19) dX8_kindOf_1 (by decide) (fun h1 => ?_) (fun h1 => ?_)
  · simp (disch := omega) only [Int32.lt_iff_toInt_lt, Int32.le_iff_toInt_le, ← Int32.toInt_inj, nI_toInt, Int32.reduceToInt] at h1
    omega
  refine V_iload_n (i := 1) dX8_kindOf_4 rfl rfl ?_
  refine V_bipush (v := 64) dX8_kindOf_5 (by decide) ?_
  refine V_icmp_ge (tgt := 19) dX8_kindOf_7 (by decide) (fun h7 => ?_) (fun h7 => ?_)
  · simp (disch := omega) only [Int32.lt_iff_toInt_lt, Int32.le_iff_toInt_le, ← Int32.toInt_inj, nI_toInt, Int32.reduceToInt] at h7
    omega
  refine V_aload_n (i := 0) dX8_kindOf_10 rfl rfl ?_
  refine V_getC (k := 0) (q := a + 1) dX8_kindOf_11 ha.mk0 ha.sh.1 rfl rfl (by decide) flRX8_9 ?_
  refine V_iload_n (i := 1) dX8_kindOf_14 rfl rfl ?_
  refine V_cald dX8_kindOf_15 ha.mk1 ha.sh.2.1 (vp_in_nI hk (by decide)) ?_
  refine V_goto (tgt := 20) dX8_kindOf_16 (by decide) ?_
  obtain ⟨q, hq, he⟩ := hc
  refine V_iret dX8_kindOf_20 rfl ?_ ⟨rfl, rfl⟩
  rw [nI_clamp (by omega), he]
  exact nar_char hq
end TEST
