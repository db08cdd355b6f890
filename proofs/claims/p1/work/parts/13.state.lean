/-! STATE: what reads it. Printed by wip/whole/gen/mk13.py. -/
section MSTATE
theorem ite_le {p : Prop} [Decidable p] : (if p then 1 else 0 : Nat) < 2 := by split <;> omega
set_option maxRecDepth 100000 in
set_option maxHeartbeats 400000 in
theorem c_cellNumber {x y : Int32} {r c : Nat} {w : Wd} (hx : x = nI r) (hy : y = nI c) : Ct 1 MX10_cellNumber 1 0 0 [.int x, .int y] w (Rt (some (.int (nI (8 * r + c)))) w) := by
  refine Ct_of (by decide +kernel) rfl (Nat.le_of_ble_eq_true rfl) rfl ?_
  subst hx hy
  refine V_bipush_n (v := 8) dX10_cellNumber_0 (by decide) ?_
  refine V_iload_n (i := 0) dX10_cellNumber_2 rfl rfl ?_
  refine V_imul_n dX10_cellNumber_3 ?_
  refine V_iload_n (i := 1) dX10_cellNumber_4 rfl rfl ?_
  refine V_iadd_n dX10_cellNumber_5 ?_
  refine V_iret dX10_cellNumber_6 rfl rfl ?_
  exact ⟨rfl, rfl⟩
set_option maxRecDepth 100000 in
set_option maxHeartbeats 400000 in
theorem c_isInside {x y : Int32} {r c : Int} {w : Wd} (hx : x = zI r) (hy : y = zI c) (r1 : -2147483648 ≤ r) (r2 : r < 2147483648) (c1 : -2147483648 ≤ c) (c2 : c < 2147483648) : Ct 1 MX10_isInside 1 0 0 [.int x, .int y] w (Rt (some (.int (nI (if 0 ≤ r ∧ r < 8 ∧ 0 ≤ c ∧ c < 8 then 1 else 0)))) w) := by
  refine Ct_of (by decide +kernel) rfl (Nat.le_of_ble_eq_true rfl) rfl ?_
  subst hx hy
  refine V_iload_n (i := 0) dX10_isInside_0 rfl rfl ?_
  refine V_if_lt_z (tgt := 24) dX10_isInside_1 (by decide) rfl (by omega) (by omega) (fun h1 => ?_) (fun h1 => ?_)
  · refine V_iconst_n (v := 0) dX10_isInside_24 (by decide) ?_
    refine V_iret dX10_isInside_25 rfl (nar_bool (by omega)) ?_
    exact ⟨by grind, rfl⟩
  · refine V_iload_n (i := 0) dX10_isInside_4 rfl rfl ?_
    refine V_bipush_n (v := 8) dX10_isInside_5 (by decide) ?_
    refine V_icmp_ge_z (tgt := 24) dX10_isInside_7 (by decide) rfl (zI_n _) (by omega) (by omega) (by omega) (by omega) (fun h7 => ?_) (fun h7 => ?_)
    · refine V_iconst_n (v := 0) dX10_isInside_24 (by decide) ?_
      refine V_iret dX10_isInside_25 rfl (nar_bool (by omega)) ?_
      exact ⟨by grind, rfl⟩
    · refine V_iload_n (i := 1) dX10_isInside_10 rfl rfl ?_
      refine V_if_lt_z (tgt := 24) dX10_isInside_11 (by decide) rfl (by omega) (by omega) (fun h11 => ?_) (fun h11 => ?_)
      · refine V_iconst_n (v := 0) dX10_isInside_24 (by decide) ?_
        refine V_iret dX10_isInside_25 rfl (nar_bool (by omega)) ?_
        exact ⟨by grind, rfl⟩
      · refine V_iload_n (i := 1) dX10_isInside_14 rfl rfl ?_
        refine V_bipush_n (v := 8) dX10_isInside_15 (by decide) ?_
        refine V_icmp_ge_z (tgt := 24) dX10_isInside_17 (by decide) rfl (zI_n _) (by omega) (by omega) (by omega) (by omega) (fun h17 => ?_) (fun h17 => ?_)
        · refine V_iconst_n (v := 0) dX10_isInside_24 (by decide) ?_
          refine V_iret dX10_isInside_25 rfl (nar_bool (by omega)) ?_
          exact ⟨by grind, rfl⟩
        · refine V_iconst_n (v := 1) dX10_isInside_20 (by decide) ?_
          refine V_goto (tgt := 25) dX10_isInside_21 (by decide) ?_
          refine V_iret dX10_isInside_25 rfl (nar_bool (by omega)) ?_
          exact ⟨by grind, rfl⟩
set_option maxRecDepth 100000 in
set_option maxHeartbeats 400000 in
theorem c_isColour {q : Nat} {w : Wd} (hq : q < 65536) : Ct 1 MX10_isColour 1 0 0 [.int (nI q)] w (Rt (some (.int (nI (if 97 ≤ q ∧ q ≤ 100 then 1 else 0)))) w) := by
  refine Ct_of (by decide +kernel) rfl (Nat.le_of_ble_eq_true rfl) rfl ?_
  refine V_iload_n (i := 0) dX10_isColour_0 rfl rfl ?_
  refine V_bipush_n (v := 97) dX10_isColour_1 (by decide) ?_
  refine V_icmp_lt_n (tgt := 16) dX10_isColour_3 (by decide) (by omega) (by omega) (fun h3 => ?_) (fun h3 => ?_)
  · refine V_iconst_n (v := 0) dX10_isColour_16 (by decide) ?_
    refine V_iret dX10_isColour_17 rfl (nar_bool (by omega)) ?_
    exact ⟨by grind, rfl⟩
  · refine V_iload_n (i := 0) dX10_isColour_6 rfl rfl ?_
    refine V_bipush_n (v := 100) dX10_isColour_7 (by decide) ?_
    refine V_icmp_gt_n (tgt := 16) dX10_isColour_9 (by decide) (by omega) (by omega) (fun h9 => ?_) (fun h9 => ?_)
    · refine V_iconst_n (v := 0) dX10_isColour_16 (by decide) ?_
      refine V_iret dX10_isColour_17 rfl (nar_bool (by omega)) ?_
      exact ⟨by grind, rfl⟩
    · refine V_iconst_n (v := 1) dX10_isColour_12 (by decide) ?_
      refine V_goto (tgt := 17) dX10_isColour_13 (by decide) ?_
      refine V_iret dX10_isColour_17 rfl (nar_bool (by omega)) ?_
      exact ⟨by grind, rfl⟩
set_option maxRecDepth 100000 in
set_option maxHeartbeats 400000 in
theorem c_colourNumbered {i : Nat} {w : Wd} (hi : i < 4) : Ct 1 MX10_colourNumbered 1 0 0 [.int (nI i)] w (Rt (some (.int (nI (97 + i)))) w) := by
  refine Ct_of (by decide +kernel) rfl (Nat.le_of_ble_eq_true rfl) rfl ?_
  refine V_bipush_n (v := 97) dX10_colourNumbered_0 (by decide) ?_
  refine V_iload_n (i := 0) dX10_colourNumbered_2 rfl rfl ?_
  refine V_iadd_n dX10_colourNumbered_3 ?_
  refine V_i2c_n dX10_colourNumbered_4 (by omega) ?_
  refine V_iret dX10_colourNumbered_5 rfl (nar_char (by omega)) ?_
  exact ⟨rfl, rfl⟩
set_option maxRecDepth 100000 in
set_option maxHeartbeats 400000 in
theorem c_kindOf {a k : Nat} {s : St} {w : Wd} (hR : Repr w a s) (hk : k < 64) : Ct 1 MX8_kindOf 1 0 0 [.ref a, .int (nI k)] w (Rt (some (.int (nI (kc (s.1 k))))) w) := by
  refine Ct_of (by decide +kernel) rfl (Nat.le_of_ble_eq_true rfl) rfl ?_
  have hk9 := kc_lt (hR.2.1 k hk)
  refine V_iload_n (i := 1) dX8_kindOf_0 rfl rfl ?_
  refine V_if_lt_n (tgt := 19) dX8_kindOf_1 (by decide) (by omega) ?_
  refine V_iload_n (i := 1) dX8_kindOf_4 rfl rfl ?_
  refine V_bipush_n (v := 64) dX8_kindOf_5 (by decide) ?_
  refine V_icmp_ge_n (tgt := 19) dX8_kindOf_7 (by decide) (by omega) (by omega) (fun h7 => by exfalso; omega) (fun h7 => ?_)
  refine V_aload_n (i := 0) dX8_kindOf_10 rfl rfl ?_
  refine V_getC (k := 0) (q := (a + 1)) dX8_kindOf_11 hR.1.mk0 hR.1.sh.1 rfl rfl (Nat.le_of_ble_eq_true rfl) flRX8_9 ?_
  refine V_iload_n (i := 1) dX8_kindOf_14 rfl rfl ?_
  refine V_cald_n (i := k) dX8_kindOf_15 hR.1.mk1 hR.1.sh.2.1 (by omega) (by decide) ?_
  refine V_top (y := nI (kc (s.1 k))) (hR.2.2.1 k hk) ?_
  refine V_goto (tgt := 20) dX8_kindOf_16 (by decide) ?_
  refine V_iret dX8_kindOf_20 rfl (nar_char (by omega)) ?_
  exact ⟨rfl, rfl⟩
set_option maxRecDepth 100000 in
set_option maxHeartbeats 400000 in
theorem c_ageOf {a k : Nat} {s : St} {w : Wd} (hR : Repr w a s) (hk : k < 64) : Ct 1 MX8_ageOf 1 0 0 [.ref a, .int (nI k)] w (Rt (some (.int (nI (ag (s.1 k))))) w) := by
  refine Ct_of (by decide +kernel) rfl (Nat.le_of_ble_eq_true rfl) rfl ?_
  refine V_iload_n (i := 1) dX8_ageOf_0 rfl rfl ?_
  refine V_if_lt_n (tgt := 19) dX8_ageOf_1 (by decide) (by omega) ?_
  refine V_iload_n (i := 1) dX8_ageOf_4 rfl rfl ?_
  refine V_bipush_n (v := 64) dX8_ageOf_5 (by decide) ?_
  refine V_icmp_ge_n (tgt := 19) dX8_ageOf_7 (by decide) (by omega) (by omega) (fun h7 => by exfalso; omega) (fun h7 => ?_)
  refine V_aload_n (i := 0) dX8_ageOf_10 rfl rfl ?_
  refine V_getC (k := 1) (q := (a + 2)) dX8_ageOf_11 hR.1.mk0 hR.1.sh.1 rfl rfl (Nat.le_of_ble_eq_true rfl) flRX8_15 ?_
  refine V_iload_n (i := 1) dX8_ageOf_14 rfl rfl ?_
  refine V_iald_n (i := k) dX8_ageOf_15 hR.1.mk2 hR.1.sh.2.2.1 (by omega) (by decide) ?_
  refine V_top (y := nI (ag (s.1 k))) (hR.2.2.2.1 k hk) ?_
  refine V_goto (tgt := 20) dX8_ageOf_16 (by decide) ?_
  refine V_iret dX8_ageOf_20 rfl rfl ?_
  exact ⟨rfl, rfl⟩
set_option maxRecDepth 100000 in
set_option maxHeartbeats 400000 in
theorem c_holds {a k q : Nat} {s : St} {w : Wd} (hR : Repr w a s) (hk8 : k < 64) (hq : q < 65536) : Ct 1 MX8_holds 2 0 0 [.ref a, .int (nI k), .int (nI q)] w (Rt (some (.int (nI (if hk (s.1 k) q then 1 else 0)))) w) := by
  refine Ct_of (by decide +kernel) rfl (Nat.le_of_ble_eq_true rfl) rfl ?_
  have hk9 := kc_lt (hR.2.1 k hk8)
  have hk7 := kc_live (hR.2.1 k hk8)
  refine V_aload_n (i := 0) dX8_holds_0 rfl rfl ?_
  refine V_iload_n (i := 1) dX8_holds_1 rfl rfl ?_
  refine V_callVF dX8_holds_2 (c_kindOf hR (k := k) (by omega)) okX8_kindOf lkRX8_53 hR.1.mk0 hR.1.sh.1 rfl rfl rfl (Nat.le_of_ble_eq_true rfl) ⟨Nat.le_of_ble_eq_true rfl, Nat.le_of_ble_eq_true rfl⟩ rfl ?_
  refine V_istore_n (i := 3) dX8_holds_5 rfl (Nat.le_of_ble_eq_true rfl) rfl rfl ?_
  refine V_iload_n (i := 2) dX8_holds_6 rfl rfl ?_
  refine V_bipush_n (v := 42) dX8_holds_7 (by decide) ?_
  refine V_icmp_ne_n (tgt := 19) dX8_holds_9 (by decide) (by omega) (by omega) (fun h9 => ?_) (fun h9 => ?_)
  · refine V_iload_n (i := 3) dX8_holds_19 rfl rfl ?_
    refine V_iload_n (i := 2) dX8_holds_20 rfl rfl ?_
    refine V_icmp_ne_n (tgt := 28) dX8_holds_21 (by decide) (by omega) (by omega) (fun h21 => ?_) (fun h21 => ?_)
    · refine V_iconst_n (v := 0) dX8_holds_28 (by decide) ?_
      refine V_iret dX8_holds_29 rfl (nar_bool (by grind)) ?_
      exact ⟨by grind [hk], rfl⟩
    · refine V_iconst_n (v := 1) dX8_holds_24 (by decide) ?_
      refine V_goto (tgt := 29) dX8_holds_25 (by decide) ?_
      refine V_iret dX8_holds_29 rfl (nar_bool (by grind)) ?_
      exact ⟨by grind [hk], rfl⟩
  · refine V_iload_n (i := 3) dX8_holds_12 rfl rfl ?_
    refine V_callSNF (host := "ButtonReef") dX8_holds_13 (c_isColour (q := (kc (s.1 k))) (by omega)) okX10_isColour (by decide +kernel) rfl rfl (Nat.le_of_ble_eq_true rfl) ⟨Nat.le_of_ble_eq_true rfl, Nat.le_of_ble_eq_true rfl⟩ rfl ?_
    refine V_goto (tgt := 29) dX8_holds_16 (by decide) ?_
    refine V_iret dX8_holds_29 rfl (nar_bool (by grind)) ?_
    exact ⟨by grind [hk], rfl⟩
theorem cnt_le {C : Nat → Nat} {q n : Nat} : sm (fun k => if hk (C k) q then 1 else 0) n ≤ n := by have := sm_le (f := fun k => if hk (C k) q then 1 else 0) (c := 1) (fun k => by split <;> omega) n; omega
set_option maxRecDepth 100000 in
set_option maxHeartbeats 400000 in
theorem c_count {a q : Nat} {s : St} {w : Wd} (hR : Repr w a s) (hq : q < 65536) : Ct 1 MX8_count 3 0 0 [.ref a, .int (nI q)] w (Rt (some (.int (nI (cnt s.1 q)))) w) := by
  refine Ct_of (by decide +kernel) rfl (Nat.le_of_ble_eq_true rfl) rfl ?_
  have lp : ∀ (fu i : Nat) , i ≤ 64 → 64 - i < fu → V 1 MX8_count 3 0 0 (Rt (some (.int (nI (cnt s.1 q)))) w) (fun _ _ => True) 0 0 4 [some (.ref a), some (.int (nI q)), some (.int (nI (sm (fun k => if hk (s.1 k) q then 1 else 0) i))), some (.int (nI i))] [] w := by
    intro fu
    induction fu with
    | zero => intro i  h1 h2; omega
    | succ fu ih =>
      intro i  hib hfu
      have hle := cnt_le (C := s.1) (q := q) (n := i)
      have e1 : sm (fun k => if hk (s.1 k) q then 1 else 0) (i + 1) = sm (fun k => if hk (s.1 k) q then 1 else 0) i + (if hk (s.1 i) q then 1 else 0) := rfl
      refine V_iload_n (i := 3) dX8_count_4 rfl rfl ?_
      refine V_bipush_n (v := 64) dX8_count_5 (by decide) ?_
      refine V_icmp_ge_n (tgt := 28) dX8_count_7 (by decide) (by omega) (by omega) (fun h7 => ?_) (fun h7 => ?_)
      · refine V_iload_n (i := 2) dX8_count_28 rfl rfl ?_
        refine V_iret dX8_count_29 rfl rfl ?_
        obtain rfl : i = 64 := by omega
        exact ⟨rfl, rfl⟩
      · refine V_aload_n (i := 0) dX8_count_10 rfl rfl ?_
        refine V_iload_n (i := 3) dX8_count_11 rfl rfl ?_
        refine V_iload_n (i := 1) dX8_count_12 rfl rfl ?_
        refine V_callVF dX8_count_13 (c_holds hR (k := i) (q := q) (by omega) (by omega)) okX8_holds lkRX8_65 hR.1.mk0 hR.1.sh.1 rfl rfl rfl (Nat.le_of_ble_eq_true rfl) ⟨Nat.le_of_ble_eq_true rfl, Nat.le_of_ble_eq_true rfl⟩ rfl ?_
        refine V_if_eq_n (tgt := 22) dX8_count_16 (by decide) (Nat.lt_of_lt_of_le ite_le (by decide)) (fun h16 => ?_) (fun h16 => ?_)
        · rw [if_neg (by grind)] at e1
          refine V_iinc_n (b := (i + 1)) dX8_count_22 rfl (nI_add _ _) rfl rfl ?_
          refine V_goto (tgt := 4) dX8_count_25 (by decide) ?_
          have k := ih (i + 1) (by omega) (by omega)
          rw [e1] at k
          exact k
        · rw [if_pos (by grind)] at e1
          refine V_iinc_n (b := ((sm (fun k => if hk (s.1 k) q then 1 else 0) i) + 1)) dX8_count_19 rfl (nI_add _ _) rfl rfl ?_
          refine V_iinc_n (b := (i + 1)) dX8_count_22 rfl (nI_add _ _) rfl rfl ?_
          refine V_goto (tgt := 4) dX8_count_25 (by decide) ?_
          have k := ih (i + 1) (by omega) (by omega)
          rw [e1] at k
          exact k
  refine V_iconst_n (v := 0) dX8_count_0 (by decide) ?_
  refine V_istore_n (i := 2) dX8_count_1 rfl (Nat.le_of_ble_eq_true rfl) rfl rfl ?_
  refine V_iconst_n (v := 0) dX8_count_2 (by decide) ?_
  refine V_istore_n (i := 3) dX8_count_3 rfl (Nat.le_of_ble_eq_true rfl) rfl rfl ?_
  exact lp 65 0 (by omega) (by omega)
set_option maxRecDepth 100000 in
set_option maxHeartbeats 400000 in
theorem c_signOf {a k : Nat} {s : St} {w : Wd} (hR : Repr w a s) (hk8 : k < 64) : Ct 1 MX8_signOf 2 0 0 [.ref a, .int (nI k)] w (Rt (some (.int (nI (sgn (s.1 k))))) w) := by
  refine Ct_of (by decide +kernel) rfl (Nat.le_of_ble_eq_true rfl) rfl ?_
  have hk9 := kc_lt (hR.2.1 k hk8)
  have hk7 := kc_live (hR.2.1 k hk8)
  have hk6 := kc_none (hR.2.1 k hk8)
  have hk5 := @ag_lt (s.1 k)
  refine V_aload_n (i := 0) dX8_signOf_0 rfl rfl ?_
  refine V_iload_n (i := 1) dX8_signOf_1 rfl rfl ?_
  refine V_callVF dX8_signOf_2 (c_kindOf hR (k := k) (by omega)) okX8_kindOf lkRX8_53 hR.1.mk0 hR.1.sh.1 rfl rfl rfl (Nat.le_of_ble_eq_true rfl) ⟨Nat.le_of_ble_eq_true rfl, Nat.le_of_ble_eq_true rfl⟩ rfl ?_
  refine V_istore_n (i := 2) dX8_signOf_5 rfl (Nat.le_of_ble_eq_true rfl) rfl rfl ?_
  refine V_iload_n (i := 2) dX8_signOf_6 rfl rfl ?_
  refine V_if_ne_n (tgt := 13) dX8_signOf_7 (by decide) (by omega) (fun h7 => ?_) (fun h7 => ?_)
  · refine V_iload_n (i := 2) dX8_signOf_13 rfl rfl ?_
    refine V_callSNF (host := "ButtonReef") dX8_signOf_14 (c_isColour (q := (kc (s.1 k))) (by omega)) okX10_isColour (by decide +kernel) rfl rfl (Nat.le_of_ble_eq_true rfl) ⟨Nat.le_of_ble_eq_true rfl, Nat.le_of_ble_eq_true rfl⟩ rfl ?_
    refine V_if_eq_n (tgt := 40) dX8_signOf_17 (by decide) (Nat.lt_of_lt_of_le ite_le (by decide)) (fun h17 => ?_) (fun h17 => ?_)
    · have hl : ¬ 10 ≤ s.1 k := by grind
      refine V_iload_n (i := 2) dX8_signOf_40 rfl rfl ?_
      refine V_iret dX8_signOf_41 rfl (nar_char (by omega)) ?_
      exact ⟨by unfold sgn; grind [kc], rfl⟩
    · have hl : 10 ≤ s.1 k := by grind
      refine V_aload_n (i := 0) dX8_signOf_20 rfl rfl ?_
      refine V_iload_n (i := 1) dX8_signOf_21 rfl rfl ?_
      refine V_callVF dX8_signOf_22 (c_ageOf hR (k := k) (by omega)) okX8_ageOf lkRX8_61 hR.1.mk0 hR.1.sh.1 rfl rfl rfl (Nat.le_of_ble_eq_true rfl) ⟨Nat.le_of_ble_eq_true rfl, Nat.le_of_ble_eq_true rfl⟩ rfl ?_
      refine V_iconst_n (v := 5) dX8_signOf_25 (by decide) ?_
      refine V_icmp_lt_n (tgt := 40) dX8_signOf_26 (by decide) (by omega) (by omega) (fun h26 => ?_) (fun h26 => ?_)
      · refine V_iload_n (i := 2) dX8_signOf_40 rfl rfl ?_
        refine V_iret dX8_signOf_41 rfl (nar_char (by omega)) ?_
        exact ⟨by unfold sgn; grind [kc], rfl⟩
      · refine V_iload_n (i := 2) dX8_signOf_29 rfl rfl ?_
        refine V_bipush_n (v := 97) dX8_signOf_30 (by decide) ?_
        refine V_isub_n dX8_signOf_32 (by omega) ?_
        refine V_bipush_n (v := 65) dX8_signOf_33 (by decide) ?_
        refine V_iadd_n dX8_signOf_35 ?_
        refine V_i2c_n dX8_signOf_36 (by omega) ?_
        refine V_goto (tgt := 41) dX8_signOf_37 (by decide) ?_
        refine V_iret dX8_signOf_41 rfl (nar_char (by omega)) ?_
        exact ⟨by unfold sgn; grind [kc], rfl⟩
  · refine V_bipush_n (v := 46) dX8_signOf_10 (by decide) ?_
    refine V_iret dX8_signOf_12 rfl (nar_char (by omega)) ?_
    exact ⟨by unfold sgn; grind [kc], rfl⟩
set_option maxRecDepth 100000 in
set_option maxHeartbeats 400000 in
theorem c_countInRow {a r q : Nat} {s : St} {w : Wd} (hR : Repr w a s) (hr : r < 8) (hq : q < 65536) : Ct 1 MX8_countInRow 3 0 0 [.ref a, .int (nI r), .int (nI q)] w (Rt (some (.int (nI (cntR s.1 r q)))) w) := by
  refine Ct_of (by decide +kernel) rfl (Nat.le_of_ble_eq_true rfl) rfl ?_
  have lp : ∀ (fu i : Nat) , i ≤ 8 → 8 - i < fu → V 1 MX8_countInRow 3 0 0 (Rt (some (.int (nI (cntR s.1 r q)))) w) (fun _ _ => True) 0 0 5 [some (.ref a), some (.int (nI r)), some (.int (nI q)), some (.int (nI (sm (fun k => if hk (s.1 (8 * r + k)) q then 1 else 0) i))), some (.int (nI i))] [] w := by
    intro fu
    induction fu with
    | zero => intro i  h1 h2; omega
    | succ fu ih =>
      intro i  hib hfu
      have hle := cnt_le (C := fun k => s.1 (8 * r + k)) (q := q) (n := i)
      have e1 : sm (fun k => if hk (s.1 (8 * r + k)) q then 1 else 0) (i + 1) = sm (fun k => if hk (s.1 (8 * r + k)) q then 1 else 0) i + (if hk (s.1 (8 * r + i)) q then 1 else 0) := rfl
      refine V_iload dX8_countInRow_5 rfl ?_
      refine V_bipush_n (v := 8) dX8_countInRow_7 (by decide) ?_
      refine V_icmp_ge_n (tgt := 35) dX8_countInRow_9 (by decide) (by omega) (by omega) (fun h9 => ?_) (fun h9 => ?_)
      · refine V_iload_n (i := 3) dX8_countInRow_35 rfl rfl ?_
        refine V_iret dX8_countInRow_36 rfl rfl ?_
        obtain rfl : i = 8 := by omega
        exact ⟨rfl, rfl⟩
      · refine V_aload_n (i := 0) dX8_countInRow_12 rfl rfl ?_
        refine V_iload_n (i := 1) dX8_countInRow_13 rfl rfl ?_
        refine V_iload dX8_countInRow_14 rfl ?_
        refine V_callSNF (host := "ButtonReef") dX8_countInRow_16 (c_cellNumber (r := r) (c := i) (rfl) (rfl)) okX10_cellNumber (by decide +kernel) rfl rfl (Nat.le_of_ble_eq_true rfl) ⟨Nat.le_of_ble_eq_true rfl, Nat.le_of_ble_eq_true rfl⟩ rfl ?_
        refine V_iload_n (i := 2) dX8_countInRow_19 rfl rfl ?_
        refine V_callVF dX8_countInRow_20 (c_holds hR (k := (8 * r + i)) (q := q) (by omega) (by omega)) okX8_holds lkRX8_65 hR.1.mk0 hR.1.sh.1 rfl rfl rfl (Nat.le_of_ble_eq_true rfl) ⟨Nat.le_of_ble_eq_true rfl, Nat.le_of_ble_eq_true rfl⟩ rfl ?_
        refine V_if_eq_n (tgt := 29) dX8_countInRow_23 (by decide) (Nat.lt_of_lt_of_le ite_le (by decide)) (fun h23 => ?_) (fun h23 => ?_)
        · rw [if_neg (by grind)] at e1
          refine V_iinc_n (b := (i + 1)) dX8_countInRow_29 rfl (nI_add _ _) rfl rfl ?_
          refine V_goto (tgt := 5) dX8_countInRow_32 (by decide) ?_
          have k := ih (i + 1) (by omega) (by omega)
          rw [e1] at k
          exact k
        · rw [if_pos (by grind)] at e1
          refine V_iinc_n (b := ((sm (fun k => if hk (s.1 (8 * r + k)) q then 1 else 0) i) + 1)) dX8_countInRow_26 rfl (nI_add _ _) rfl rfl ?_
          refine V_iinc_n (b := (i + 1)) dX8_countInRow_29 rfl (nI_add _ _) rfl rfl ?_
          refine V_goto (tgt := 5) dX8_countInRow_32 (by decide) ?_
          have k := ih (i + 1) (by omega) (by omega)
          rw [e1] at k
          exact k
  refine V_iconst_n (v := 0) dX8_countInRow_0 (by decide) ?_
  refine V_istore_n (i := 3) dX8_countInRow_1 rfl (Nat.le_of_ble_eq_true rfl) rfl rfl ?_
  refine V_iconst_n (v := 0) dX8_countInRow_2 (by decide) ?_
  refine V_istore dX8_countInRow_3 (Nat.le_of_ble_eq_true rfl) rfl rfl ?_
  exact lp 9 0 (by omega) (by omega)
theorem nb_le {C : Nat → Nat} {k q i n : Nat} : sm (nb C k q i) n ≤ n := by have := sm_le (f := nb C k q i) (c := 1) (fun k => by unfold nb; split <;> omega) n; omega
theorem nr_le {C : Nat → Nat} {k q n : Nat} : sm (nr C k q) n ≤ 3 * n := sm_le (f := nr C k q) (c := 3) (fun _ => nb_le) n
theorem near_le {C : Nat → Nat} {k q : Nat} : near C k q ≤ 9 := nr_le
theorem ite_t {p : Prop} [Decidable p] (h : ¬ (if p then 1 else 0 : Nat) = 0) : p := (Classical.em p).elim (fun q => q) (fun q => absurd (if_neg q) h)
theorem ite_f {p : Prop} [Decidable p] (h : (if p then 1 else 0 : Nat) = 0) : ¬ p := fun q => by rw [if_pos q] at h; cases h
theorem kc_vals {v : Nat} : kc v = 0 ∨ kc v = 35 ∨ 97 ≤ kc v := by unfold kc; split <;> (try split) <;> omega
theorem nb_0 {C : Nat → Nat} {k q i j : Nat} (h : ¬ (1 ≤ k / 8 + i ∧ k / 8 + i ≤ 8 ∧ 1 ≤ k % 8 + j ∧ k % 8 + j ≤ 8) ∨ (i = 1 ∧ j = 1)) : nb C k q i j = 0 := by unfold nb; rw [if_neg]; omega
theorem nb_in {C : Nat → Nat} {k q i j c : Nat} (h : 1 ≤ k / 8 + i ∧ k / 8 + i ≤ 8 ∧ 1 ≤ k % 8 + j ∧ k % 8 + j ≤ 8) (h2 : ¬ (i = 1 ∧ j = 1)) (hc : c = 8 * (k / 8 + i - 1) + (k % 8 + j - 1)) : nb C k q i j = if 10 ≤ C c ∧ (q = 0 ∨ kc (C c) = q) then 1 else 0 := by
  subst hc
  unfold nb
  by_cases h3 : 10 ≤ C (8 * (k / 8 + i - 1) + (k % 8 + j - 1)) ∧ (q = 0 ∨ kc (C (8 * (k / 8 + i - 1) + (k % 8 + j - 1))) = q)
  · rw [if_pos h3, if_pos ⟨h.1, h.2.1, h.2.2.1, h.2.2.2, h2, h3.1, h3.2⟩]
  · rw [if_neg h3, if_neg (fun z => h3 ⟨z.2.2.2.2.2.1, z.2.2.2.2.2.2⟩)]
theorem V.drop {ph : Nat} {M : kM} {d mc ms : Nat} {Po : Out → Wd → Prop} {X : kG → State → Prop} {kc ks pc : Nat} {L L' : List (Option Value)} {st : List Value} {w : Wd} (k : V ph M d mc ms Po X kc ks pc L' st w) (h : ∀ (i : Nat) (v : Value), L'[i]? = some (some v) → L[i]? = some (some v)) : V ph M d mc ms Po X kc ks pc L st w := by
  intro p l e R s m args below meth c G F H locs ls cells slots hR hS hl h1 h2
  refine k p l e R s m args below meth c G F H locs ls cells slots hR hS (lv_mono hl fun q hq => ?_) h1 h2
  obtain ⟨v, g1, g2⟩ := lvl_of hq
  have g3 := lvl_mem (G := G) (h _ _ g1)
  rw [← g2] at g3
  exact g3
/-- the listed places hold the same, the others are unknown -/
def lsub : List (Option Value) → List (Option Value) → Prop
  | [], _ => True
  | none :: l', _ :: l => lsub l' l
  | some v :: l', u :: l => u = some v ∧ lsub l' l
  | none :: l', [] => lsub l' []
  | some _ :: _, [] => False
theorem lsub_spec : ∀ (l' l : List (Option Value)), lsub l' l → ∀ (i : Nat) (v : Value), l'[i]? = some (some v) → l[i]? = some (some v) := by
  intro l'
  induction l' with
  | nil => intro l _ i v h; simp at h
  | cons x l' ih =>
    intro l h i v hi
    cases l with
    | nil =>
      cases x with
      | none =>
        cases i with
        | zero => simp at hi
        | succ i => have := ih [] h i v (by simpa using hi); simp at this
      | some u => exact absurd h id
    | cons y l =>
      cases x with
      | none =>
        cases i with
        | zero => simp at hi
        | succ i => have := ih l h i v (by simpa using hi); simpa using this
      | some u =>
        obtain ⟨h1, h2⟩ := h
        cases i with
        | zero => simp at hi; subst hi; simp [h1]
        | succ i => have := ih l h2 i v (by simpa using hi); simpa using this
theorem V.sub {ph : Nat} {M : kM} {d mc ms : Nat} {Po : Out → Wd → Prop} {X : kG → State → Prop} {kc ks pc : Nat} {L L' : List (Option Value)} {st : List Value} {w : Wd} (k : V ph M d mc ms Po X kc ks pc L' st w) (h : lsub L' L) : V ph M d mc ms Po X kc ks pc L st w := k.drop (lsub_spec _ _ h)
set_option maxRecDepth 100000 in
set_option maxHeartbeats 400000 in
theorem c_countAround {a k kd q : Nat} {s : St} {w : Wd} (hR : Repr w a s) (hk8 : k < 64) (hq : (kd = 42 ∧ q = 0) ∨ (97 ≤ kd ∧ kd ≤ 100 ∧ q = kd)) : Ct 1 MX8_countAround 3 0 0 [.ref a, .int (nI k), .int (nI kd)] w (Rt (some (.int (nI (near s.1 k q)))) w) := by
  refine Ct_of (by decide +kernel) rfl (Nat.le_of_ble_eq_true rfl) rfl ?_
  have lpo : ∀ (fu i : Nat) , i ≤ 3 → 3 - i < fu → V 1 MX8_countAround 3 0 0 (Rt (some (.int (nI (near s.1 k q)))) w) (fun _ _ => True) 0 0 17 [some (.ref a), some (.int (nI k)), some (.int (nI kd)), some (.int (nI (k / 8))), some (.int (nI (k % 8))), some (.int (nI (sm (nr s.1 k q) i))), some (.int (zI ((i : Int) - 1))), none, none, none] [] w := by
    intro fu
    induction fu with
    | zero => intro i  h1 h2; omega
    | succ fu ihO =>
      intro i  hib hfu
      have lpi : ∀ (fu j : Nat) , j ≤ 3 → 3 - j < fu → i ≤ 2 → V 1 MX8_countAround 3 0 0 (Rt (some (.int (nI (near s.1 k q)))) w) (fun _ _ => True) 0 0 26 [some (.ref a), some (.int (nI k)), some (.int (nI kd)), some (.int (nI (k / 8))), some (.int (nI (k % 8))), some (.int (nI (sm (nr s.1 k q) i + sm (nb s.1 k q i) j))), some (.int (zI ((i : Int) - 1))), some (.int (zI ((j : Int) - 1))), none, none] [] w := by
        intro fu
        induction fu with
        | zero => intro j  h1 h2; omega
        | succ fu ih =>
          intro j  hib hfu hi2
          have hA1 := nr_le (C := s.1) (k := k) (q := q) (n := i)
          have hA2 := nb_le (C := s.1) (k := k) (q := q) (i := i) (n := j)
          have e1 : sm (nb s.1 k q i) (j + 1) = sm (nb s.1 k q i) j + nb s.1 k q i j := rfl
          refine V_iload dX8_countAround_26 rfl ?_
          refine V_iconst_n (v := 1) dX8_countAround_28 (by decide) ?_
          refine V_icmp_gt_z (tgt := 123) dX8_countAround_29 (by decide) rfl (zI_n _) (by omega) (by omega) (by omega) (by omega) (fun h29 => ?_) (fun h29 => ?_)
          · refine V_iinc_z (b := (((i + 1 : Nat) : Int) - 1)) dX8_countAround_123 rfl (by omega) rfl rfl ?_
            refine V_goto (tgt := 17) dX8_countAround_126 (by decide) ?_
            obtain rfl : j = 3 := by omega
            exact (ihO (i + 1) (by omega) (by omega)).sub (by repeat' (first | exact trivial | exact rfl | constructor))
          · refine V_iload dX8_countAround_32 rfl ?_
            refine V_if_ne_z (tgt := 46) dX8_countAround_34 (by decide) rfl (by omega) (by omega) (fun h34 => ?_) (fun h34 => ?_)
            · refine V_iconst_n (v := 0) dX8_countAround_46 (by decide) ?_
              refine V_istore dX8_countAround_47 (Nat.le_of_ble_eq_true rfl) rfl rfl ?_
              refine V_iload dX8_countAround_49 rfl ?_
              refine V_if_ne_n (tgt := 117) dX8_countAround_51 (by decide) (by omega) (fun h51 => by exfalso; omega) (fun h51 => ?_)
              have hown : ¬ (i = 1 ∧ j = 1) := by omega
              refine V_iload_n (i := 3) dX8_countAround_54 rfl rfl ?_
              refine V_iload dX8_countAround_55 rfl ?_
              refine V_iadd_z dX8_countAround_57 (zI_n _) rfl ?_
              refine V_iload dX8_countAround_58 rfl ?_
              refine V_iload dX8_countAround_60 rfl ?_
              refine V_iadd_z dX8_countAround_62 (zI_n _) rfl ?_
              refine V_callSNF (host := "ButtonReef") dX8_countAround_63 (c_isInside (r := ((((k / 8) : Nat) : Int) + ((i : Int) - 1))) (c := ((((k % 8) : Nat) : Int) + ((j : Int) - 1))) rfl rfl (by omega) (by omega) (by omega) (by omega)) okX10_isInside (by decide +kernel) rfl rfl (Nat.le_of_ble_eq_true rfl) ⟨Nat.le_of_ble_eq_true rfl, Nat.le_of_ble_eq_true rfl⟩ rfl ?_
              refine V_if_eq_n (tgt := 117) dX8_countAround_66 (by decide) (Nat.lt_of_lt_of_le ite_le (by decide)) (fun h66 => ?_) (fun h66 => ?_)
              · have hin0 := ite_f h66
                have e2 : nb s.1 k q i j = 0 := nb_0 (by omega)
                refine V_iinc_z (b := (((j + 1 : Nat) : Int) - 1)) dX8_countAround_117 rfl (by omega) rfl rfl ?_
                refine V_goto (tgt := 26) dX8_countAround_120 (by decide) ?_
                have k9 := ih (j + 1) (by omega) (by omega) hi2
                rw [e1, e2, ← Nat.add_assoc] at k9
                exact k9.sub (by repeat' (first | exact trivial | exact rfl | constructor))
              · have hin0 := ite_t h66
                have hin : 1 ≤ k / 8 + i ∧ k / 8 + i ≤ 8 ∧ 1 ≤ k % 8 + j ∧ k % 8 + j ≤ 8 := by omega
                have e3 := nb_in (C := s.1) (q := q) (c := 8 * (((k / 8 : Nat) : Int) + ((i : Int) - 1)).toNat + (((k % 8 : Nat) : Int) + ((j : Int) - 1)).toNat) hin hown (by omega)
                have hok := hR.2.1 (8 * (((k / 8 : Nat) : Int) + ((i : Int) - 1)).toNat + (((k % 8 : Nat) : Int) + ((j : Int) - 1)).toNat) (by omega)
                have hkl := kc_live hok
                have hkt := kc_lt hok
                have hkv := @kc_vals (s.1 (8 * (((k / 8 : Nat) : Int) + ((i : Int) - 1)).toNat + (((k % 8 : Nat) : Int) + ((j : Int) - 1)).toNat))
                refine V_aload_n (i := 0) dX8_countAround_69 rfl rfl ?_
                refine V_iload_n (i := 3) dX8_countAround_70 rfl rfl ?_
                refine V_iload dX8_countAround_71 rfl ?_
                refine V_iadd_z dX8_countAround_73 (zI_n _) rfl ?_
                refine V_iload dX8_countAround_74 rfl ?_
                refine V_iload dX8_countAround_76 rfl ?_
                refine V_iadd_z dX8_countAround_78 (zI_n _) rfl ?_
                refine V_callSNF (host := "ButtonReef") dX8_countAround_79 (c_cellNumber (r := (((((k / 8) : Nat) : Int) + ((i : Int) - 1))).toNat) (c := (((((k % 8) : Nat) : Int) + ((j : Int) - 1))).toNat) (zI_nn (by omega)) (zI_nn (by omega))) okX10_cellNumber (by decide +kernel) rfl rfl (Nat.le_of_ble_eq_true rfl) ⟨Nat.le_of_ble_eq_true rfl, Nat.le_of_ble_eq_true rfl⟩ rfl ?_
                refine V_callVF dX8_countAround_82 (c_kindOf hR (k := (8 * (((((k / 8) : Nat) : Int) + ((i : Int) - 1))).toNat + (((((k % 8) : Nat) : Int) + ((j : Int) - 1))).toNat)) (by omega)) okX8_kindOf lkRX8_53 hR.1.mk0 hR.1.sh.1 rfl rfl rfl (Nat.le_of_ble_eq_true rfl) ⟨Nat.le_of_ble_eq_true rfl, Nat.le_of_ble_eq_true rfl⟩ rfl ?_
                refine V_istore dX8_countAround_85 (Nat.le_of_ble_eq_true rfl) rfl rfl ?_
                refine V_iload dX8_countAround_87 rfl ?_
                refine V_iload dX8_countAround_89 rfl ?_
                refine V_iload_n (i := 2) dX8_countAround_91 rfl rfl ?_
                refine V_icmp_eq_n (tgt := 109) dX8_countAround_92 (by decide) (by omega) (by omega) (fun h92 => ?_) (fun h92 => ?_)
                · have e2 : nb s.1 k q i j = 1 := by rw [e3, if_pos (by omega)]
                  refine V_iconst_n (v := 1) dX8_countAround_109 (by decide) ?_
                  refine V_goto (tgt := 114) dX8_countAround_110 (by decide) ?_
                  refine V_iadd_n dX8_countAround_114 ?_
                  refine V_istore dX8_countAround_115 (Nat.le_of_ble_eq_true rfl) rfl rfl ?_
                  refine V_iinc_z (b := (((j + 1 : Nat) : Int) - 1)) dX8_countAround_117 rfl (by omega) rfl rfl ?_
                  refine V_goto (tgt := 26) dX8_countAround_120 (by decide) ?_
                  have k9 := ih (j + 1) (by omega) (by omega) hi2
                  rw [e1, e2, ← Nat.add_assoc] at k9
                  exact k9.sub (by repeat' (first | exact trivial | exact rfl | constructor))
                · refine V_iload_n (i := 2) dX8_countAround_95 rfl rfl ?_
                  refine V_bipush_n (v := 42) dX8_countAround_96 (by decide) ?_
                  refine V_icmp_ne_n (tgt := 113) dX8_countAround_98 (by decide) (by omega) (by omega) (fun h98 => ?_) (fun h98 => ?_)
                  · have e2 : nb s.1 k q i j = 0 := by rw [e3, if_neg (by omega)]
                    refine V_iconst_n (v := 0) dX8_countAround_113 (by decide) ?_
                    refine V_iadd_n dX8_countAround_114 ?_
                    refine V_istore dX8_countAround_115 (Nat.le_of_ble_eq_true rfl) rfl rfl ?_
                    refine V_iinc_z (b := (((j + 1 : Nat) : Int) - 1)) dX8_countAround_117 rfl (by omega) rfl rfl ?_
                    refine V_goto (tgt := 26) dX8_countAround_120 (by decide) ?_
                    have k9 := ih (j + 1) (by omega) (by omega) hi2
                    rw [e1, e2, ← Nat.add_assoc] at k9
                    exact k9.sub (by repeat' (first | exact trivial | exact rfl | constructor))
                  · refine V_iload dX8_countAround_101 rfl ?_
                    refine V_callSNF (host := "ButtonReef") dX8_countAround_103 (c_isColour (q := (kc (s.1 (8 * (((((k / 8) : Nat) : Int) + ((i : Int) - 1))).toNat + (((((k % 8) : Nat) : Int) + ((j : Int) - 1))).toNat)))) (by omega)) okX10_isColour (by decide +kernel) rfl rfl (Nat.le_of_ble_eq_true rfl) ⟨Nat.le_of_ble_eq_true rfl, Nat.le_of_ble_eq_true rfl⟩ rfl ?_
                    refine V_if_eq_n (tgt := 113) dX8_countAround_106 (by decide) (Nat.lt_of_lt_of_le ite_le (by decide)) (fun h106 => ?_) (fun h106 => ?_)
                    · have hq1 := ite_f h106
                      have e2 : nb s.1 k q i j = 0 := by rw [e3, if_neg (by omega)]
                      refine V_iconst_n (v := 0) dX8_countAround_113 (by decide) ?_
                      refine V_iadd_n dX8_countAround_114 ?_
                      refine V_istore dX8_countAround_115 (Nat.le_of_ble_eq_true rfl) rfl rfl ?_
                      refine V_iinc_z (b := (((j + 1 : Nat) : Int) - 1)) dX8_countAround_117 rfl (by omega) rfl rfl ?_
                      refine V_goto (tgt := 26) dX8_countAround_120 (by decide) ?_
                      have k9 := ih (j + 1) (by omega) (by omega) hi2
                      rw [e1, e2, ← Nat.add_assoc] at k9
                      exact k9.sub (by repeat' (first | exact trivial | exact rfl | constructor))
                    · have hq1 := ite_t h106
                      have e2 : nb s.1 k q i j = 1 := by rw [e3, if_pos (by omega)]
                      refine V_iconst_n (v := 1) dX8_countAround_109 (by decide) ?_
                      refine V_goto (tgt := 114) dX8_countAround_110 (by decide) ?_
                      refine V_iadd_n dX8_countAround_114 ?_
                      refine V_istore dX8_countAround_115 (Nat.le_of_ble_eq_true rfl) rfl rfl ?_
                      refine V_iinc_z (b := (((j + 1 : Nat) : Int) - 1)) dX8_countAround_117 rfl (by omega) rfl rfl ?_
                      refine V_goto (tgt := 26) dX8_countAround_120 (by decide) ?_
                      have k9 := ih (j + 1) (by omega) (by omega) hi2
                      rw [e1, e2, ← Nat.add_assoc] at k9
                      exact k9.sub (by repeat' (first | exact trivial | exact rfl | constructor))
            · refine V_iload dX8_countAround_37 rfl ?_
              refine V_if_ne_z (tgt := 46) dX8_countAround_39 (by decide) rfl (by omega) (by omega) (fun h39 => ?_) (fun h39 => ?_)
              · refine V_iconst_n (v := 0) dX8_countAround_46 (by decide) ?_
                refine V_istore dX8_countAround_47 (Nat.le_of_ble_eq_true rfl) rfl rfl ?_
                refine V_iload dX8_countAround_49 rfl ?_
                refine V_if_ne_n (tgt := 117) dX8_countAround_51 (by decide) (by omega) (fun h51 => by exfalso; omega) (fun h51 => ?_)
                have hown : ¬ (i = 1 ∧ j = 1) := by omega
                refine V_iload_n (i := 3) dX8_countAround_54 rfl rfl ?_
                refine V_iload dX8_countAround_55 rfl ?_
                refine V_iadd_z dX8_countAround_57 (zI_n _) rfl ?_
                refine V_iload dX8_countAround_58 rfl ?_
                refine V_iload dX8_countAround_60 rfl ?_
                refine V_iadd_z dX8_countAround_62 (zI_n _) rfl ?_
                refine V_callSNF (host := "ButtonReef") dX8_countAround_63 (c_isInside (r := ((((k / 8) : Nat) : Int) + ((i : Int) - 1))) (c := ((((k % 8) : Nat) : Int) + ((j : Int) - 1))) rfl rfl (by omega) (by omega) (by omega) (by omega)) okX10_isInside (by decide +kernel) rfl rfl (Nat.le_of_ble_eq_true rfl) ⟨Nat.le_of_ble_eq_true rfl, Nat.le_of_ble_eq_true rfl⟩ rfl ?_
                refine V_if_eq_n (tgt := 117) dX8_countAround_66 (by decide) (Nat.lt_of_lt_of_le ite_le (by decide)) (fun h66 => ?_) (fun h66 => ?_)
                · have hin0 := ite_f h66
                  have e2 : nb s.1 k q i j = 0 := nb_0 (by omega)
                  refine V_iinc_z (b := (((j + 1 : Nat) : Int) - 1)) dX8_countAround_117 rfl (by omega) rfl rfl ?_
                  refine V_goto (tgt := 26) dX8_countAround_120 (by decide) ?_
                  have k9 := ih (j + 1) (by omega) (by omega) hi2
                  rw [e1, e2, ← Nat.add_assoc] at k9
                  exact k9.sub (by repeat' (first | exact trivial | exact rfl | constructor))
                · have hin0 := ite_t h66
                  have hin : 1 ≤ k / 8 + i ∧ k / 8 + i ≤ 8 ∧ 1 ≤ k % 8 + j ∧ k % 8 + j ≤ 8 := by omega
                  have e3 := nb_in (C := s.1) (q := q) (c := 8 * (((k / 8 : Nat) : Int) + ((i : Int) - 1)).toNat + (((k % 8 : Nat) : Int) + ((j : Int) - 1)).toNat) hin hown (by omega)
                  have hok := hR.2.1 (8 * (((k / 8 : Nat) : Int) + ((i : Int) - 1)).toNat + (((k % 8 : Nat) : Int) + ((j : Int) - 1)).toNat) (by omega)
                  have hkl := kc_live hok
                  have hkt := kc_lt hok
                  have hkv := @kc_vals (s.1 (8 * (((k / 8 : Nat) : Int) + ((i : Int) - 1)).toNat + (((k % 8 : Nat) : Int) + ((j : Int) - 1)).toNat))
                  refine V_aload_n (i := 0) dX8_countAround_69 rfl rfl ?_
                  refine V_iload_n (i := 3) dX8_countAround_70 rfl rfl ?_
                  refine V_iload dX8_countAround_71 rfl ?_
                  refine V_iadd_z dX8_countAround_73 (zI_n _) rfl ?_
                  refine V_iload dX8_countAround_74 rfl ?_
                  refine V_iload dX8_countAround_76 rfl ?_
                  refine V_iadd_z dX8_countAround_78 (zI_n _) rfl ?_
                  refine V_callSNF (host := "ButtonReef") dX8_countAround_79 (c_cellNumber (r := (((((k / 8) : Nat) : Int) + ((i : Int) - 1))).toNat) (c := (((((k % 8) : Nat) : Int) + ((j : Int) - 1))).toNat) (zI_nn (by omega)) (zI_nn (by omega))) okX10_cellNumber (by decide +kernel) rfl rfl (Nat.le_of_ble_eq_true rfl) ⟨Nat.le_of_ble_eq_true rfl, Nat.le_of_ble_eq_true rfl⟩ rfl ?_
                  refine V_callVF dX8_countAround_82 (c_kindOf hR (k := (8 * (((((k / 8) : Nat) : Int) + ((i : Int) - 1))).toNat + (((((k % 8) : Nat) : Int) + ((j : Int) - 1))).toNat)) (by omega)) okX8_kindOf lkRX8_53 hR.1.mk0 hR.1.sh.1 rfl rfl rfl (Nat.le_of_ble_eq_true rfl) ⟨Nat.le_of_ble_eq_true rfl, Nat.le_of_ble_eq_true rfl⟩ rfl ?_
                  refine V_istore dX8_countAround_85 (Nat.le_of_ble_eq_true rfl) rfl rfl ?_
                  refine V_iload dX8_countAround_87 rfl ?_
                  refine V_iload dX8_countAround_89 rfl ?_
                  refine V_iload_n (i := 2) dX8_countAround_91 rfl rfl ?_
                  refine V_icmp_eq_n (tgt := 109) dX8_countAround_92 (by decide) (by omega) (by omega) (fun h92 => ?_) (fun h92 => ?_)
                  · have e2 : nb s.1 k q i j = 1 := by rw [e3, if_pos (by omega)]
                    refine V_iconst_n (v := 1) dX8_countAround_109 (by decide) ?_
                    refine V_goto (tgt := 114) dX8_countAround_110 (by decide) ?_
                    refine V_iadd_n dX8_countAround_114 ?_
                    refine V_istore dX8_countAround_115 (Nat.le_of_ble_eq_true rfl) rfl rfl ?_
                    refine V_iinc_z (b := (((j + 1 : Nat) : Int) - 1)) dX8_countAround_117 rfl (by omega) rfl rfl ?_
                    refine V_goto (tgt := 26) dX8_countAround_120 (by decide) ?_
                    have k9 := ih (j + 1) (by omega) (by omega) hi2
                    rw [e1, e2, ← Nat.add_assoc] at k9
                    exact k9.sub (by repeat' (first | exact trivial | exact rfl | constructor))
                  · refine V_iload_n (i := 2) dX8_countAround_95 rfl rfl ?_
                    refine V_bipush_n (v := 42) dX8_countAround_96 (by decide) ?_
                    refine V_icmp_ne_n (tgt := 113) dX8_countAround_98 (by decide) (by omega) (by omega) (fun h98 => ?_) (fun h98 => ?_)
                    · have e2 : nb s.1 k q i j = 0 := by rw [e3, if_neg (by omega)]
                      refine V_iconst_n (v := 0) dX8_countAround_113 (by decide) ?_
                      refine V_iadd_n dX8_countAround_114 ?_
                      refine V_istore dX8_countAround_115 (Nat.le_of_ble_eq_true rfl) rfl rfl ?_
                      refine V_iinc_z (b := (((j + 1 : Nat) : Int) - 1)) dX8_countAround_117 rfl (by omega) rfl rfl ?_
                      refine V_goto (tgt := 26) dX8_countAround_120 (by decide) ?_
                      have k9 := ih (j + 1) (by omega) (by omega) hi2
                      rw [e1, e2, ← Nat.add_assoc] at k9
                      exact k9.sub (by repeat' (first | exact trivial | exact rfl | constructor))
                    · refine V_iload dX8_countAround_101 rfl ?_
                      refine V_callSNF (host := "ButtonReef") dX8_countAround_103 (c_isColour (q := (kc (s.1 (8 * (((((k / 8) : Nat) : Int) + ((i : Int) - 1))).toNat + (((((k % 8) : Nat) : Int) + ((j : Int) - 1))).toNat)))) (by omega)) okX10_isColour (by decide +kernel) rfl rfl (Nat.le_of_ble_eq_true rfl) ⟨Nat.le_of_ble_eq_true rfl, Nat.le_of_ble_eq_true rfl⟩ rfl ?_
                      refine V_if_eq_n (tgt := 113) dX8_countAround_106 (by decide) (Nat.lt_of_lt_of_le ite_le (by decide)) (fun h106 => ?_) (fun h106 => ?_)
                      · have hq1 := ite_f h106
                        have e2 : nb s.1 k q i j = 0 := by rw [e3, if_neg (by omega)]
                        refine V_iconst_n (v := 0) dX8_countAround_113 (by decide) ?_
                        refine V_iadd_n dX8_countAround_114 ?_
                        refine V_istore dX8_countAround_115 (Nat.le_of_ble_eq_true rfl) rfl rfl ?_
                        refine V_iinc_z (b := (((j + 1 : Nat) : Int) - 1)) dX8_countAround_117 rfl (by omega) rfl rfl ?_
                        refine V_goto (tgt := 26) dX8_countAround_120 (by decide) ?_
                        have k9 := ih (j + 1) (by omega) (by omega) hi2
                        rw [e1, e2, ← Nat.add_assoc] at k9
                        exact k9.sub (by repeat' (first | exact trivial | exact rfl | constructor))
                      · have hq1 := ite_t h106
                        have e2 : nb s.1 k q i j = 1 := by rw [e3, if_pos (by omega)]
                        refine V_iconst_n (v := 1) dX8_countAround_109 (by decide) ?_
                        refine V_goto (tgt := 114) dX8_countAround_110 (by decide) ?_
                        refine V_iadd_n dX8_countAround_114 ?_
                        refine V_istore dX8_countAround_115 (Nat.le_of_ble_eq_true rfl) rfl rfl ?_
                        refine V_iinc_z (b := (((j + 1 : Nat) : Int) - 1)) dX8_countAround_117 rfl (by omega) rfl rfl ?_
                        refine V_goto (tgt := 26) dX8_countAround_120 (by decide) ?_
                        have k9 := ih (j + 1) (by omega) (by omega) hi2
                        rw [e1, e2, ← Nat.add_assoc] at k9
                        exact k9.sub (by repeat' (first | exact trivial | exact rfl | constructor))
              · have e2 : nb s.1 k q i j = 0 := nb_0 (Or.inr ⟨by omega, by omega⟩)
                refine V_iconst_n (v := 1) dX8_countAround_42 (by decide) ?_
                refine V_goto (tgt := 47) dX8_countAround_43 (by decide) ?_
                refine V_istore dX8_countAround_47 (Nat.le_of_ble_eq_true rfl) rfl rfl ?_
                refine V_iload dX8_countAround_49 rfl ?_
                refine V_if_ne_n (tgt := 117) dX8_countAround_51 (by decide) (by omega) (fun h51 => ?_) (fun h51 => by exfalso; omega)
                refine V_iinc_z (b := (((j + 1 : Nat) : Int) - 1)) dX8_countAround_117 rfl (by omega) rfl rfl ?_
                refine V_goto (tgt := 26) dX8_countAround_120 (by decide) ?_
                have k9 := ih (j + 1) (by omega) (by omega) hi2
                rw [e1, e2, ← Nat.add_assoc] at k9
                exact k9.sub (by repeat' (first | exact trivial | exact rfl | constructor))
      have hB := nr_le (C := s.1) (k := k) (q := q) (n := i)
      refine V_iload dX8_countAround_17 rfl ?_
      refine V_iconst_n (v := 1) dX8_countAround_19 (by decide) ?_
      refine V_icmp_gt_z (tgt := 129) dX8_countAround_20 (by decide) rfl (zI_n _) (by omega) (by omega) (by omega) (by omega) (fun h20 => ?_) (fun h20 => ?_)
      · refine V_iload dX8_countAround_129 rfl ?_
        refine V_iret dX8_countAround_131 rfl rfl ?_
        obtain rfl : i = 3 := by omega
        exact ⟨rfl, rfl⟩
      · refine V_iconst_z (v := -1) dX8_countAround_23 (by decide) ?_
        refine V_istore dX8_countAround_24 (Nat.le_of_ble_eq_true rfl) rfl rfl ?_
        exact (lpi 4 0 (by omega) (by omega) (by omega)).sub (by repeat' (first | exact trivial | exact rfl | constructor))
  refine V_iload_n (i := 1) dX8_countAround_0 rfl rfl ?_
  refine V_bipush_n (v := 8) dX8_countAround_1 (by decide) ?_
  refine V_idiv_n dX8_countAround_3 (by omega) (by omega) (by omega) ?_
  refine V_istore_n (i := 3) dX8_countAround_4 rfl (Nat.le_of_ble_eq_true rfl) rfl rfl ?_
  refine V_iload_n (i := 1) dX8_countAround_5 rfl rfl ?_
  refine V_bipush_n (v := 8) dX8_countAround_6 (by decide) ?_
  refine V_irem_n dX8_countAround_8 (by omega) (by omega) (by omega) ?_
  refine V_istore dX8_countAround_9 (Nat.le_of_ble_eq_true rfl) rfl rfl ?_
  refine V_iconst_n (v := 0) dX8_countAround_11 (by decide) ?_
  refine V_istore dX8_countAround_12 (Nat.le_of_ble_eq_true rfl) rfl rfl ?_
  refine V_iconst_z (v := -1) dX8_countAround_14 (by decide) ?_
  refine V_istore dX8_countAround_15 (Nat.le_of_ble_eq_true rfl) rfl rfl ?_
  exact (lpo 4 0 (by omega) (by omega)).sub (by repeat' (first | exact trivial | exact rfl | constructor))
end MSTATE
