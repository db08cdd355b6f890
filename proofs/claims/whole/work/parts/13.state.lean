/-! STATE: what reads it. Printed by wip/whole/gen/mk13.py. -/
section MSTATE
set_option maxRecDepth 100000 in
set_option maxHeartbeats 4000000 in
theorem c_cellNumber {r c : Nat} {w : Wd} (hr : r < 1000000) (hc : c < 1000000) : Ct 1 MX10_cellNumber 1 0 0 [.int (nI r), .int (nI c)] w (Rt (some (.int (nI (8 * r + c)))) w) := by
  refine Ct_of (by decide +kernel) rfl (Nat.le_of_ble_eq_true rfl) rfl ?_
  refine V_bipush_n (v := 8) dX10_cellNumber_0 (by decide) ?_
  refine V_iload_n (i := 0) dX10_cellNumber_2 rfl rfl ?_
  refine V_imul_n dX10_cellNumber_3 ?_
  refine V_iload_n (i := 1) dX10_cellNumber_4 rfl rfl ?_
  refine V_iadd_n dX10_cellNumber_5 ?_
  refine V_iret dX10_cellNumber_6 rfl rfl ?_
  exact ⟨rfl, rfl⟩
set_option maxRecDepth 100000 in
set_option maxHeartbeats 4000000 in
theorem c_isColour {q : Nat} {w : Wd} (hq : q < 65536) : Ct 1 MX10_isColour 1 0 0 [.int (nI q)] w (Rt (some (.int (nI (if 97 ≤ q ∧ q ≤ 100 then 1 else 0)))) w) := by
  refine Ct_of (by decide +kernel) rfl (Nat.le_of_ble_eq_true rfl) rfl ?_
  refine V_iload_n (i := 0) dX10_isColour_0 rfl rfl ?_
  refine V_bipush_n (v := 97) dX10_isColour_1 (by decide) ?_
  refine V_icmp_lt_n (tgt := 16) dX10_isColour_3 (by decide) (by omega) (by omega) (fun h3 => ?_) (fun h3 => ?_)
  · refine V_iconst_n (v := 0) dX10_isColour_16 (by decide) ?_
    refine V_iret dX10_isColour_17 rfl (nar_bool (by omega)) ?_
    exact ⟨by grind, rfl⟩
  · refine V_iload_n (i := 0) dX10_isColour_6 rfl rfl ?_
    refine V_bipush_n (v := 100) dX10_isColour_7 (by decide) ?_
    refine V_icmp_gt_n (tgt := 16) dX10_isColour_9 (by decide) (by omega) (by omega) (fun h9 => ?_) (fun h9 => ?_)
    · refine V_iconst_n (v := 0) dX10_isColour_16 (by decide) ?_
      refine V_iret dX10_isColour_17 rfl (nar_bool (by omega)) ?_
      exact ⟨by grind, rfl⟩
    · refine V_iconst_n (v := 1) dX10_isColour_12 (by decide) ?_
      refine V_goto (tgt := 17) dX10_isColour_13 (by decide) ?_
      refine V_iret dX10_isColour_17 rfl (nar_bool (by omega)) ?_
      exact ⟨by grind, rfl⟩
set_option maxRecDepth 100000 in
set_option maxHeartbeats 4000000 in
theorem c_colourNumbered {i : Nat} {w : Wd} (hi : i < 4) : Ct 1 MX10_colourNumbered 1 0 0 [.int (nI i)] w (Rt (some (.int (nI (97 + i)))) w) := by
  refine Ct_of (by decide +kernel) rfl (Nat.le_of_ble_eq_true rfl) rfl ?_
  refine V_bipush_n (v := 97) dX10_colourNumbered_0 (by decide) ?_
  refine V_iload_n (i := 0) dX10_colourNumbered_2 rfl rfl ?_
  refine V_iadd_n dX10_colourNumbered_3 ?_
  refine V_i2c_n dX10_colourNumbered_4 (by omega) ?_
  refine V_iret dX10_colourNumbered_5 rfl (nar_char (by omega)) ?_
  exact ⟨rfl, rfl⟩
set_option maxRecDepth 100000 in
set_option maxHeartbeats 4000000 in
theorem c_kindOf {a k : Nat} {s : St} {w : Wd} (hR : Repr w a s) (hk : k < 64) : Ct 1 MX8_kindOf 1 0 0 [.ref a, .int (nI k)] w (Rt (some (.int (nI (kc (s.1 k))))) w) := by
  refine Ct_of (by decide +kernel) rfl (Nat.le_of_ble_eq_true rfl) rfl ?_
  have hk9 := kc_lt (hR.2.1 k hk)
  refine V_iload_n (i := 1) dX8_kindOf_0 rfl rfl ?_
  refine V_if_lt_n (tgt := 19) dX8_kindOf_1 (by decide) (by omega) ?_
  refine V_iload_n (i := 1) dX8_kindOf_4 rfl rfl ?_
  refine V_bipush_n (v := 64) dX8_kindOf_5 (by decide) ?_
  refine V_icmp_ge_n (tgt := 19) dX8_kindOf_7 (by decide) (by omega) (by omega) (fun h7 => by exfalso; omega) (fun h7 => ?_)
  refine V_aload_n (i := 0) dX8_kindOf_10 rfl rfl ?_
  refine V_getC (k := 0) (q := (a + 1)) dX8_kindOf_11 hR.1.mk0 hR.1.sh.1 rfl rfl (Nat.le_of_ble_eq_true rfl) flRX8_9 ?_
  refine V_iload_n (i := 1) dX8_kindOf_14 rfl rfl ?_
  refine V_cald_n (i := k) dX8_kindOf_15 hR.1.mk1 hR.1.sh.2.1 (by omega) (by decide) ?_
  refine V_top (y := nI (kc (s.1 k))) (hR.2.2.1 k hk) ?_
  refine V_goto (tgt := 20) dX8_kindOf_16 (by decide) ?_
  refine V_iret dX8_kindOf_20 rfl (nar_char (by omega)) ?_
  exact ⟨rfl, rfl⟩
set_option maxRecDepth 100000 in
set_option maxHeartbeats 4000000 in
theorem c_ageOf {a k : Nat} {s : St} {w : Wd} (hR : Repr w a s) (hk : k < 64) : Ct 1 MX8_ageOf 1 0 0 [.ref a, .int (nI k)] w (Rt (some (.int (nI (ag (s.1 k))))) w) := by
  refine Ct_of (by decide +kernel) rfl (Nat.le_of_ble_eq_true rfl) rfl ?_
  refine V_iload_n (i := 1) dX8_ageOf_0 rfl rfl ?_
  refine V_if_lt_n (tgt := 19) dX8_ageOf_1 (by decide) (by omega) ?_
  refine V_iload_n (i := 1) dX8_ageOf_4 rfl rfl ?_
  refine V_bipush_n (v := 64) dX8_ageOf_5 (by decide) ?_
  refine V_icmp_ge_n (tgt := 19) dX8_ageOf_7 (by decide) (by omega) (by omega) (fun h7 => by exfalso; omega) (fun h7 => ?_)
  refine V_aload_n (i := 0) dX8_ageOf_10 rfl rfl ?_
  refine V_getC (k := 1) (q := (a + 2)) dX8_ageOf_11 hR.1.mk0 hR.1.sh.1 rfl rfl (Nat.le_of_ble_eq_true rfl) flRX8_15 ?_
  refine V_iload_n (i := 1) dX8_ageOf_14 rfl rfl ?_
  refine V_iald_n (i := k) dX8_ageOf_15 hR.1.mk2 hR.1.sh.2.2.1 (by omega) (by decide) ?_
  refine V_top (y := nI (ag (s.1 k))) (hR.2.2.2.1 k hk) ?_
  refine V_goto (tgt := 20) dX8_ageOf_16 (by decide) ?_
  refine V_iret dX8_ageOf_20 rfl rfl ?_
  exact ⟨rfl, rfl⟩
theorem ite_le {p : Prop} [Decidable p] : (if p then 1 else 0 : Nat) < 2 := by split <;> omega
set_option maxRecDepth 100000 in
set_option maxHeartbeats 4000000 in
theorem c_holds {a k q : Nat} {s : St} {w : Wd} (hR : Repr w a s) (hk8 : k < 64) (hq : q < 65536) : Ct 1 MX8_holds 2 0 0 [.ref a, .int (nI k), .int (nI q)] w (Rt (some (.int (nI (if hk (s.1 k) q then 1 else 0)))) w) := by
  refine Ct_of (by decide +kernel) rfl (Nat.le_of_ble_eq_true rfl) rfl ?_
  have hk9 := kc_lt (hR.2.1 k hk8)
  have hk7 := kc_live (hR.2.1 k hk8)
  refine V_aload_n (i := 0) dX8_holds_0 rfl rfl ?_
  refine V_iload_n (i := 1) dX8_holds_1 rfl rfl ?_
  refine V_callVF dX8_holds_2 (c_kindOf hR (k := k) (by omega)) okX8_kindOf lkRX8_53 hR.1.mk0 hR.1.sh.1 rfl rfl rfl (Nat.le_of_ble_eq_true rfl) ⟨Nat.le_of_ble_eq_true rfl, Nat.le_of_ble_eq_true rfl⟩ rfl ?_
  refine V_istore_n (i := 3) dX8_holds_5 rfl (Nat.le_of_ble_eq_true rfl) rfl rfl ?_
  refine V_iload_n (i := 2) dX8_holds_6 rfl rfl ?_
  refine V_bipush_n (v := 42) dX8_holds_7 (by decide) ?_
  refine V_icmp_ne_n (tgt := 19) dX8_holds_9 (by decide) (by omega) (by omega) (fun h9 => ?_) (fun h9 => ?_)
  · refine V_iload_n (i := 3) dX8_holds_19 rfl rfl ?_
    refine V_iload_n (i := 2) dX8_holds_20 rfl rfl ?_
    refine V_icmp_ne_n (tgt := 28) dX8_holds_21 (by decide) (by omega) (by omega) (fun h21 => ?_) (fun h21 => ?_)
    · refine V_iconst_n (v := 0) dX8_holds_28 (by decide) ?_
      refine V_iret dX8_holds_29 rfl (nar_bool (by grind)) ?_
      exact ⟨by grind [hk], rfl⟩
    · refine V_iconst_n (v := 1) dX8_holds_24 (by decide) ?_
      refine V_goto (tgt := 29) dX8_holds_25 (by decide) ?_
      refine V_iret dX8_holds_29 rfl (nar_bool (by grind)) ?_
      exact ⟨by grind [hk], rfl⟩
  · refine V_iload_n (i := 3) dX8_holds_12 rfl rfl ?_
    refine V_callSNF (host := "ButtonReef") dX8_holds_13 (c_isColour (q := (kc (s.1 k))) (by omega)) okX10_isColour (by decide +kernel) rfl rfl (Nat.le_of_ble_eq_true rfl) ⟨Nat.le_of_ble_eq_true rfl, Nat.le_of_ble_eq_true rfl⟩ rfl ?_
    refine V_goto (tgt := 29) dX8_holds_16 (by decide) ?_
    refine V_iret dX8_holds_29 rfl (nar_bool (by grind)) ?_
    exact ⟨by grind [hk], rfl⟩
theorem cnt_le {C : Nat → Nat} {q n : Nat} : sm (fun k => if hk (C k) q then 1 else 0) n ≤ n := by have := sm_le (f := fun k => if hk (C k) q then 1 else 0) (c := 1) (fun k => by split <;> omega) n; omega
set_option maxRecDepth 100000 in
set_option maxHeartbeats 4000000 in
theorem c_count {a q : Nat} {s : St} {w : Wd} (hR : Repr w a s) (hq : q < 65536) : Ct 1 MX8_count 3 0 0 [.ref a, .int (nI q)] w (Rt (some (.int (nI (cnt s.1 q)))) w) := by
  refine Ct_of (by decide +kernel) rfl (Nat.le_of_ble_eq_true rfl) rfl ?_
  have lp : ∀ (m i : Nat) , i ≤ 64 → 64 - i < m → V 1 MX8_count 3 0 0 (Rt (some (.int (nI (cnt s.1 q)))) w) (fun _ _ => True) 0 0 4 [some (.ref a), some (.int (nI q)), some (.int (nI (sm (fun k => if hk (s.1 k) q then 1 else 0) i))), some (.int (nI i))] [] w := by
    intro m
    induction m with
    | zero => intro i  h1 h2; omega
    | succ m ih =>
      intro i  hi hm
      have hle := cnt_le (C := s.1) (q := q) (n := i)
      have e1 : sm (fun k => if hk (s.1 k) q then 1 else 0) (i + 1) = sm (fun k => if hk (s.1 k) q then 1 else 0) i + (if hk (s.1 i) q then 1 else 0) := rfl
      refine V_iload_n (i := 3) dX8_count_4 rfl rfl ?_
      refine V_bipush_n (v := 64) dX8_count_5 (by decide) ?_
      refine V_icmp_ge_n (tgt := 28) dX8_count_7 (by decide) (by omega) (by omega) (fun h7 => ?_) (fun h7 => ?_)
      · refine V_iload_n (i := 2) dX8_count_28 rfl rfl ?_
        refine V_iret dX8_count_29 rfl rfl ?_
        obtain rfl : i = 64 := by omega
        exact ⟨rfl, rfl⟩
      · refine V_aload_n (i := 0) dX8_count_10 rfl rfl ?_
        refine V_iload_n (i := 3) dX8_count_11 rfl rfl ?_
        refine V_iload_n (i := 1) dX8_count_12 rfl rfl ?_
        refine V_callVF dX8_count_13 (c_holds hR (k := i) (q := q) (by omega) (by omega)) okX8_holds lkRX8_65 hR.1.mk0 hR.1.sh.1 rfl rfl rfl (Nat.le_of_ble_eq_true rfl) ⟨Nat.le_of_ble_eq_true rfl, Nat.le_of_ble_eq_true rfl⟩ rfl ?_
        refine V_if_eq_n (tgt := 22) dX8_count_16 (by decide) (Nat.lt_of_lt_of_le ite_le (by decide)) (fun h16 => ?_) (fun h16 => ?_)
        · rw [if_neg (by grind)] at e1
          refine V_iinc_n (b := (i + 1)) dX8_count_22 rfl (nI_add _ _) rfl rfl ?_
          refine V_goto (tgt := 4) dX8_count_25 (by decide) ?_
          have k := ih (i + 1) (by omega) (by omega)
          rw [e1] at k
          exact k
        · rw [if_pos (by grind)] at e1
          refine V_iinc_n (b := ((sm (fun k => if hk (s.1 k) q then 1 else 0) i) + 1)) dX8_count_19 rfl (nI_add _ _) rfl rfl ?_
          refine V_iinc_n (b := (i + 1)) dX8_count_22 rfl (nI_add _ _) rfl rfl ?_
          refine V_goto (tgt := 4) dX8_count_25 (by decide) ?_
          have k := ih (i + 1) (by omega) (by omega)
          rw [e1] at k
          exact k
  refine V_iconst_n (v := 0) dX8_count_0 (by decide) ?_
  refine V_istore_n (i := 2) dX8_count_1 rfl (Nat.le_of_ble_eq_true rfl) rfl rfl ?_
  refine V_iconst_n (v := 0) dX8_count_2 (by decide) ?_
  refine V_istore_n (i := 3) dX8_count_3 rfl (Nat.le_of_ble_eq_true rfl) rfl rfl ?_
  exact lp 65 0 (by omega) (by omega)
end MSTATE
