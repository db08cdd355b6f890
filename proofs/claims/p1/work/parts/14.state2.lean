/-! STATE: what changes it, the rules. Printed by wip/whole/gen/mk14.py. -/
section MSTATE2
set_option maxRecDepth 100000 in
set_option maxHeartbeats 1000000 in
theorem c_bearsWith {r n : Nat} {w : Wd} (hr : r < 3) (hn : n < 32) : Ct 1 MX6_bearsWith 1 0 0 [.ref (1000 + r), .int (nI n)] w (Rt (some (.int (nI (if bears r n = true then 1 else 0)))) w) := by
  refine Ct_of (by decide +kernel) rfl (Nat.le_of_ble_eq_true rfl) rfl ?_
  have hb := @ite_le (bears r n = true) _
  refine V_aload_n (i := 0) dX6_bearsWith_0 rfl rfl ?_
  refine V_getK dX6_bearsWith_1 (rl_births hr) flRX6_40 ?_
  refine V_iload_n (i := 1) dX6_bearsWith_4 rfl rfl ?_
  refine V_ishr dX6_bearsWith_5 ?_
  refine V_iconst_n (v := 1) dX6_bearsWith_6 (by decide) ?_
  refine V_iand dX6_bearsWith_7 ?_
  refine V_top (y := nI (if bears r n = true then 1 else 0)) (brB_bit hr hn) ?_
  refine V_iconst_n (v := 1) dX6_bearsWith_8 (by decide) ?_
  refine V_icmp_ne_n (tgt := 16) dX6_bearsWith_9 (by decide) (by omega) (by omega) (fun h9 => ?_) (fun h9 => ?_)
  · refine V_iconst_n (v := 0) dX6_bearsWith_16 (by decide) ?_
    refine V_iret dX6_bearsWith_17 rfl (nar_bool (by omega)) ?_
    exact ⟨by grind, rfl⟩
  · refine V_iconst_n (v := 1) dX6_bearsWith_12 (by decide) ?_
    refine V_goto (tgt := 17) dX6_bearsWith_13 (by decide) ?_
    refine V_iret dX6_bearsWith_17 rfl (nar_bool (by omega)) ?_
    exact ⟨by grind, rfl⟩
set_option maxRecDepth 100000 in
set_option maxHeartbeats 1000000 in
theorem c_sparesWith {r n : Nat} {w : Wd} (hr : r < 3) (hn : n < 32) : Ct 1 MX6_sparesWith 1 0 0 [.ref (1000 + r), .int (nI n)] w (Rt (some (.int (nI (if keeps r n = true then 1 else 0)))) w) := by
  refine Ct_of (by decide +kernel) rfl (Nat.le_of_ble_eq_true rfl) rfl ?_
  have hb := @ite_le (keeps r n = true) _
  refine V_aload_n (i := 0) dX6_sparesWith_0 rfl rfl ?_
  refine V_getK dX6_sparesWith_1 (rl_survivals hr) flRX6_43 ?_
  refine V_iload_n (i := 1) dX6_sparesWith_4 rfl rfl ?_
  refine V_ishr dX6_sparesWith_5 ?_
  refine V_iconst_n (v := 1) dX6_sparesWith_6 (by decide) ?_
  refine V_iand dX6_sparesWith_7 ?_
  refine V_top (y := nI (if keeps r n = true then 1 else 0)) (brS_bit hr hn) ?_
  refine V_iconst_n (v := 1) dX6_sparesWith_8 (by decide) ?_
  refine V_icmp_ne_n (tgt := 16) dX6_sparesWith_9 (by decide) (by omega) (by omega) (fun h9 => ?_) (fun h9 => ?_)
  · refine V_iconst_n (v := 0) dX6_sparesWith_16 (by decide) ?_
    refine V_iret dX6_sparesWith_17 rfl (nar_bool (by omega)) ?_
    exact ⟨by grind, rfl⟩
  · refine V_iconst_n (v := 1) dX6_sparesWith_12 (by decide) ?_
    refine V_goto (tgt := 17) dX6_sparesWith_13 (by decide) ?_
    refine V_iret dX6_sparesWith_17 rfl (nar_bool (by omega)) ?_
    exact ⟨by grind, rfl⟩
theorem mostN_le {C : Nat → Nat} {k : Nat} : ∀ i, (mostN C k i).1 ≤ 9 ∧ ((mostN C k i).2 = 0 ∨ (97 ≤ (mostN C k i).2 ∧ (mostN C k i).2 < 97 + i)) := by
  intro i
  induction i with
  | zero => exact ⟨Nat.zero_le _, Or.inl rfl⟩
  | succ i ih =>
    have h1 : mostN C k (i + 1) = if (mostN C k i).1 < near C k (97 + i) then (near C k (97 + i), 97 + i) else mostN C k i := rfl
    rw [h1]
    split
    · exact ⟨near_le, Or.inr ⟨by omega, by omega⟩⟩
    · exact ⟨ih.1, by omega⟩
set_option maxRecDepth 100000 in
set_option maxHeartbeats 1000000 in
theorem c_mostColourAround {a k : Nat} {s : St} {w : Wd} (hR : Repr w a s) (hk8 : k < 64) : Ct 1 MX8_mostColourAround 4 0 0 [.ref a, .int (nI k)] w (Rt (some (.int (nI (most s.1 k)))) w) := by
  refine Ct_of (by decide +kernel) rfl (Nat.le_of_ble_eq_true rfl) rfl ?_
  have lp : ∀ (fu i : Nat) , i ≤ 4 → 4 - i < fu → V 1 MX8_mostColourAround 4 0 0 (Rt (some (.int (nI (most s.1 k)))) w) (fun _ _ => True) 0 0 7 [some (.ref a), some (.int (nI k)), some (.int (nI (mostN s.1 k i).2)), some (.int (nI (mostN s.1 k i).1)), some (.int (nI i)), none] [] w := by
    intro fu
    induction fu with
    | zero => intro i  h1 h2; omega
    | succ fu ih =>
      intro i  hib hfu
      have hm1 := mostN_le (C := s.1) (k := k) i
      have hm2 := near_le (C := s.1) (k := k) (q := 97 + i)
      have e1 : mostN s.1 k (i + 1) = if (mostN s.1 k i).1 < near s.1 k (97 + i) then (near s.1 k (97 + i), 97 + i) else mostN s.1 k i := rfl
      refine V_iload dX8_mostColourAround_7 rfl ?_
      refine V_iconst_n (v := 4) dX8_mostColourAround_9 (by decide) ?_
      refine V_icmp_ge_n (tgt := 46) dX8_mostColourAround_10 (by decide) (by omega) (by omega) (fun h10 => ?_) (fun h10 => ?_)
      · refine V_iload_n (i := 2) dX8_mostColourAround_46 rfl rfl ?_
        refine V_iret dX8_mostColourAround_47 rfl (nar_char (by omega)) ?_
        obtain rfl : i = 4 := by omega
        exact ⟨rfl, rfl⟩
      · refine V_aload_n (i := 0) dX8_mostColourAround_13 rfl rfl ?_
        refine V_iload_n (i := 1) dX8_mostColourAround_14 rfl rfl ?_
        refine V_iload dX8_mostColourAround_15 rfl ?_
        refine V_callSNF (host := "ButtonReef") dX8_mostColourAround_17 (c_colourNumbered (i := i) (by omega)) okX10_colourNumbered (by decide +kernel) rfl rfl (Nat.le_of_ble_eq_true rfl) ⟨Nat.le_of_ble_eq_true rfl, Nat.le_of_ble_eq_true rfl⟩ rfl ?_
        refine V_callVF dX8_mostColourAround_20 (c_countAround hR (k := k) (kd := (97 + i)) (q := (97 + i)) (by omega) (by omega)) okX8_countAround lkRX8_80 hR.1.mk0 hR.1.sh.1 rfl rfl rfl (Nat.le_of_ble_eq_true rfl) ⟨Nat.le_of_ble_eq_true rfl, Nat.le_of_ble_eq_true rfl⟩ rfl ?_
        refine V_istore dX8_mostColourAround_23 (Nat.le_of_ble_eq_true rfl) rfl rfl ?_
        refine V_iload dX8_mostColourAround_25 rfl ?_
        refine V_iload_n (i := 3) dX8_mostColourAround_27 rfl rfl ?_
        refine V_icmp_le_n (tgt := 40) dX8_mostColourAround_28 (by decide) (by omega) (by omega) (fun h28 => ?_) (fun h28 => ?_)
        · rw [if_neg (by omega)] at e1
          refine V_iinc_n (b := (i + 1)) dX8_mostColourAround_40 rfl (nI_add _ _) rfl rfl ?_
          refine V_goto (tgt := 7) dX8_mostColourAround_43 (by decide) ?_
          have k9 := ih (i + 1) (by omega) (by omega)
          rw [e1] at k9
          exact k9.sub (by repeat' (first | exact trivial | exact rfl | constructor))
        · rw [if_pos (by omega)] at e1
          refine V_iload dX8_mostColourAround_31 rfl ?_
          refine V_istore_n (i := 3) dX8_mostColourAround_33 rfl (Nat.le_of_ble_eq_true rfl) rfl rfl ?_
          refine V_iload dX8_mostColourAround_34 rfl ?_
          refine V_callSNF (host := "ButtonReef") dX8_mostColourAround_36 (c_colourNumbered (i := i) (by omega)) okX10_colourNumbered (by decide +kernel) rfl rfl (Nat.le_of_ble_eq_true rfl) ⟨Nat.le_of_ble_eq_true rfl, Nat.le_of_ble_eq_true rfl⟩ rfl ?_
          refine V_istore_n (i := 2) dX8_mostColourAround_39 rfl (Nat.le_of_ble_eq_true rfl) rfl rfl ?_
          refine V_iinc_n (b := (i + 1)) dX8_mostColourAround_40 rfl (nI_add _ _) rfl rfl ?_
          refine V_goto (tgt := 7) dX8_mostColourAround_43 (by decide) ?_
          have k9 := ih (i + 1) (by omega) (by omega)
          rw [e1] at k9
          exact k9.sub (by repeat' (first | exact trivial | exact rfl | constructor))
  refine V_iconst_n (v := 0) dX8_mostColourAround_0 (by decide) ?_
  refine V_istore_n (i := 2) dX8_mostColourAround_1 rfl (Nat.le_of_ble_eq_true rfl) rfl rfl ?_
  refine V_iconst_n (v := 0) dX8_mostColourAround_2 (by decide) ?_
  refine V_istore_n (i := 3) dX8_mostColourAround_3 rfl (Nat.le_of_ble_eq_true rfl) rfl rfl ?_
  refine V_iconst_n (v := 0) dX8_mostColourAround_4 (by decide) ?_
  refine V_istore dX8_mostColourAround_5 (Nat.le_of_ble_eq_true rfl) rfl rfl ?_
  exact (lp 5 0 (by omega) (by omega)).sub (by repeat' (first | exact trivial | exact rfl | constructor))
set_option maxRecDepth 100000 in
set_option maxHeartbeats 1000000 in
theorem c_sumOfAges {a : Nat} {s : St} {w : Wd} (hR : Repr w a s) : Ct 1 MX8_sumOfAges 1 0 0 [.ref a] w (Rt (some (.int (nI (sumA s.1)))) w) := by
  refine Ct_of (by decide +kernel) rfl (Nat.le_of_ble_eq_true rfl) rfl ?_
  have lp : ∀ (fu i : Nat) , i ≤ 64 → 64 - i < fu → V 1 MX8_sumOfAges 1 0 0 (Rt (some (.int (nI (sumA s.1)))) w) (fun _ _ => True) 0 0 4 [some (.ref a), some (.int (nI (sm (fun k => ag (s.1 k)) i))), some (.int (nI i))] [] w := by
    intro fu
    induction fu with
    | zero => intro i  h1 h2; omega
    | succ fu ih =>
      intro i  hib hfu
      have e1 : sm (fun k => ag (s.1 k)) (i + 1) = sm (fun k => ag (s.1 k)) i + ag (s.1 i) := rfl
      refine V_iload_n (i := 2) dX8_sumOfAges_4 rfl rfl ?_
      refine V_bipush_n (v := 64) dX8_sumOfAges_5 (by decide) ?_
      refine V_icmp_ge_n (tgt := 25) dX8_sumOfAges_7 (by decide) (by omega) (by omega) (fun h7 => ?_) (fun h7 => ?_)
      · refine V_iload_n (i := 1) dX8_sumOfAges_25 rfl rfl ?_
        refine V_iret dX8_sumOfAges_26 rfl rfl ?_
        obtain rfl : i = 64 := by omega
        exact ⟨rfl, rfl⟩
      · refine V_iload_n (i := 1) dX8_sumOfAges_10 rfl rfl ?_
        refine V_aload_n (i := 0) dX8_sumOfAges_11 rfl rfl ?_
        refine V_getC (k := 1) (q := (a + 2)) dX8_sumOfAges_12 hR.1.mk0 hR.1.sh.1 rfl rfl (Nat.le_of_ble_eq_true rfl) flRX8_15 ?_
        refine V_iload_n (i := 2) dX8_sumOfAges_15 rfl rfl ?_
        refine V_iald_n (i := i) dX8_sumOfAges_16 hR.1.mk2 hR.1.sh.2.2.1 (by omega) (by decide) ?_
        refine V_top (y := nI (ag (s.1 i))) (hR.2.2.2.1 i (by omega)) ?_
        refine V_iadd_n dX8_sumOfAges_17 ?_
        refine V_istore_n (i := 1) dX8_sumOfAges_18 rfl (Nat.le_of_ble_eq_true rfl) rfl rfl ?_
        refine V_iinc_n (b := (i + 1)) dX8_sumOfAges_19 rfl (nI_add _ _) rfl rfl ?_
        refine V_goto (tgt := 4) dX8_sumOfAges_22 (by decide) ?_
        have k := ih (i + 1) (by omega) (by omega)
        rw [e1] at k
        exact k
  refine V_iconst_n (v := 0) dX8_sumOfAges_0 (by decide) ?_
  refine V_istore_n (i := 1) dX8_sumOfAges_1 rfl (Nat.le_of_ble_eq_true rfl) rfl rfl ?_
  refine V_iconst_n (v := 0) dX8_sumOfAges_2 (by decide) ?_
  refine V_istore_n (i := 2) dX8_sumOfAges_3 rfl (Nat.le_of_ble_eq_true rfl) rfl rfl ?_
  exact lp 65 0 (by omega) (by omega)
set_option maxRecDepth 100000 in
set_option maxHeartbeats 1000000 in
theorem c_changesInTide {a k : Nat} {s : St} {w : Wd} (hR : Repr w a s) (hk8 : k < 64) : Ct 1 MX8_changesInTide 4 0 0 [.ref a, .int (nI k)] w (Rt (some (.int (nI (if chg s k = true then 1 else 0)))) w) := by
  refine Ct_of (by decide +kernel) rfl (Nat.le_of_ble_eq_true rfl) rfl ?_
  have hk9 := kc_lt (hR.2.1 k hk8)
  have hk7 := kc_live (hR.2.1 k hk8)
  have hk6 := kc_none (hR.2.1 k hk8)
  have hk5 := kc_pale (hR.2.1 k hk8)
  have hn9 := near_le (C := s.1) (k := k) (q := 0)
  have hok := hR.2.1 k hk8
  unfold okc at hok
  refine V_aload_n (i := 0) dX8_changesInTide_0 rfl rfl ?_
  refine V_iload_n (i := 1) dX8_changesInTide_1 rfl rfl ?_
  refine V_bipush_n (v := 42) dX8_changesInTide_2 (by decide) ?_
  refine V_callVF dX8_changesInTide_4 (c_countAround hR (k := k) (kd := 42) (q := 0) (by omega) (by omega)) okX8_countAround lkRX8_80 hR.1.mk0 hR.1.sh.1 rfl rfl rfl (Nat.le_of_ble_eq_true rfl) ⟨Nat.le_of_ble_eq_true rfl, Nat.le_of_ble_eq_true rfl⟩ rfl ?_
  refine V_istore_n (i := 2) dX8_changesInTide_7 rfl (Nat.le_of_ble_eq_true rfl) rfl rfl ?_
  refine V_aload_n (i := 0) dX8_changesInTide_8 rfl rfl ?_
  refine V_iload_n (i := 1) dX8_changesInTide_9 rfl rfl ?_
  refine V_callVF dX8_changesInTide_10 (c_kindOf hR (k := k) (by omega)) okX8_kindOf lkRX8_53 hR.1.mk0 hR.1.sh.1 rfl rfl rfl (Nat.le_of_ble_eq_true rfl) ⟨Nat.le_of_ble_eq_true rfl, Nat.le_of_ble_eq_true rfl⟩ rfl ?_
  refine V_istore_n (i := 3) dX8_changesInTide_13 rfl (Nat.le_of_ble_eq_true rfl) rfl rfl ?_
  refine V_iload_n (i := 3) dX8_changesInTide_14 rfl rfl ?_
  refine V_if_ne_n (tgt := 27) dX8_changesInTide_15 (by decide) (by omega) (fun h15 => ?_) (fun h15 => ?_)
  · refine V_iload_n (i := 3) dX8_changesInTide_27 rfl rfl ?_
    refine V_bipush_n (v := 35) dX8_changesInTide_28 (by decide) ?_
    refine V_icmp_ne_n (tgt := 45) dX8_changesInTide_30 (by decide) (by omega) (by omega) (fun h30 => ?_) (fun h30 => ?_)
    · refine V_aload_n (i := 0) dX8_changesInTide_45 rfl rfl ?_
      refine V_getR (k := 2) dX8_changesInTide_46 hR.1.mk0 hR.1.sh.1 rfl rfl (Nat.le_of_ble_eq_true rfl) flRX8_25 hR.2.2.2.2.2.1 ?_
      refine V_iload_n (i := 2) dX8_changesInTide_49 rfl rfl ?_
      refine V_callVOF dX8_changesInTide_50 (c_sparesWith (r := s.2.1) hR.2.2.2.2.1 (n := (near s.1 k 0)) (by omega)) okX6_sparesWith lkRX8_92 (rl_O hR.2.2.2.2.1) rfl rfl (Nat.le_of_ble_eq_true rfl) ⟨Nat.le_of_ble_eq_true rfl, Nat.le_of_ble_eq_true rfl⟩ rfl ?_
      refine V_if_ne_n (tgt := 60) dX8_changesInTide_53 (by decide) (Nat.lt_of_lt_of_le ite_le (by decide)) (fun h53 => ?_) (fun h53 => ?_)
      · refine V_iconst_n (v := 0) dX8_changesInTide_60 (by decide) ?_
        refine V_iret dX8_changesInTide_61 rfl (nar_bool (by grind)) ?_
        exact ⟨by unfold chg; grind, rfl⟩
      · refine V_iconst_n (v := 1) dX8_changesInTide_56 (by decide) ?_
        refine V_goto (tgt := 61) dX8_changesInTide_57 (by decide) ?_
        refine V_iret dX8_changesInTide_61 rfl (nar_bool (by grind)) ?_
        exact ⟨by unfold chg; grind, rfl⟩
    · refine V_iload_n (i := 2) dX8_changesInTide_33 rfl rfl ?_
      refine V_if_ne_n (tgt := 41) dX8_changesInTide_34 (by decide) (by omega) (fun h34 => ?_) (fun h34 => ?_)
      · refine V_iconst_n (v := 0) dX8_changesInTide_41 (by decide) ?_
        refine V_goto (tgt := 61) dX8_changesInTide_42 (by decide) ?_
        refine V_iret dX8_changesInTide_61 rfl (nar_bool (by grind)) ?_
        exact ⟨by unfold chg; grind, rfl⟩
      · refine V_iconst_n (v := 1) dX8_changesInTide_37 (by decide) ?_
        refine V_goto (tgt := 61) dX8_changesInTide_38 (by decide) ?_
        refine V_iret dX8_changesInTide_61 rfl (nar_bool (by grind)) ?_
        exact ⟨by unfold chg; grind, rfl⟩
  · refine V_aload_n (i := 0) dX8_changesInTide_18 rfl rfl ?_
    refine V_getR (k := 2) dX8_changesInTide_19 hR.1.mk0 hR.1.sh.1 rfl rfl (Nat.le_of_ble_eq_true rfl) flRX8_25 hR.2.2.2.2.2.1 ?_
    refine V_iload_n (i := 2) dX8_changesInTide_22 rfl rfl ?_
    refine V_callVOF dX8_changesInTide_23 (c_bearsWith (r := s.2.1) hR.2.2.2.2.1 (n := (near s.1 k 0)) (by omega)) okX6_bearsWith lkRX8_88 (rl_O hR.2.2.2.2.1) rfl rfl (Nat.le_of_ble_eq_true rfl) ⟨Nat.le_of_ble_eq_true rfl, Nat.le_of_ble_eq_true rfl⟩ rfl ?_
    refine V_iret dX8_changesInTide_26 rfl (nar_bool (by grind)) ?_
    exact ⟨by unfold chg; grind, rfl⟩
set_option maxRecDepth 100000 in
set_option maxHeartbeats 1000000 in
theorem c_livesAfterTide {a k : Nat} {s : St} {w : Wd} (hR : Repr w a s) (hk8 : k < 64) : Ct 1 MX8_livesAfterTide 5 0 0 [.ref a, .int (nI k)] w (Rt (some (.int (nI (if 10 ≤ nextc s k then 1 else 0)))) w) := by
  refine Ct_of (by decide +kernel) rfl (Nat.le_of_ble_eq_true rfl) rfl ?_
  have hk9 := kc_lt (hR.2.1 k hk8)
  have hk7 := kc_live (hR.2.1 k hk8)
  have hk6 := kc_none (hR.2.1 k hk8)
  have hk5 := kc_pale (hR.2.1 k hk8)
  have hok := hR.2.1 k hk8
  unfold okc at hok
  have hit := @ite_le (chg s k = true) _
  refine V_aload_n (i := 0) dX8_livesAfterTide_0 rfl rfl ?_
  refine V_iload_n (i := 1) dX8_livesAfterTide_1 rfl rfl ?_
  refine V_callVF dX8_livesAfterTide_2 (c_kindOf hR (k := k) (by omega)) okX8_kindOf lkRX8_53 hR.1.mk0 hR.1.sh.1 rfl rfl rfl (Nat.le_of_ble_eq_true rfl) ⟨Nat.le_of_ble_eq_true rfl, Nat.le_of_ble_eq_true rfl⟩ rfl ?_
  refine V_istore_n (i := 2) dX8_livesAfterTide_5 rfl (Nat.le_of_ble_eq_true rfl) rfl rfl ?_
  refine V_iload_n (i := 2) dX8_livesAfterTide_6 rfl rfl ?_
  refine V_bipush_n (v := 35) dX8_livesAfterTide_7 (by decide) ?_
  refine V_icmp_eq_n (tgt := 33) dX8_livesAfterTide_9 (by decide) (by omega) (by omega) (fun h9 => ?_) (fun h9 => ?_)
  · refine V_iconst_n (v := 0) dX8_livesAfterTide_33 (by decide) ?_
    refine V_iret dX8_livesAfterTide_34 rfl (nar_bool (by grind)) ?_
    exact ⟨by unfold nextc older; grind, rfl⟩
  · refine V_iload_n (i := 2) dX8_livesAfterTide_12 rfl rfl ?_
    refine V_if_ne_n (tgt := 20) dX8_livesAfterTide_13 (by decide) (by omega) (fun h13 => ?_) (fun h13 => ?_)
    · refine V_iconst_n (v := 0) dX8_livesAfterTide_20 (by decide) ?_
      refine V_aload_n (i := 0) dX8_livesAfterTide_21 rfl rfl ?_
      refine V_iload_n (i := 1) dX8_livesAfterTide_22 rfl rfl ?_
      refine V_callVF dX8_livesAfterTide_23 (c_changesInTide hR (k := k) (by omega)) okX8_changesInTide lkRX8_95 hR.1.mk0 hR.1.sh.1 rfl rfl rfl (Nat.le_of_ble_eq_true rfl) ⟨Nat.le_of_ble_eq_true rfl, Nat.le_of_ble_eq_true rfl⟩ rfl ?_
      refine V_icmp_ne_n (tgt := 33) dX8_livesAfterTide_26 (by decide) (by omega) (by omega) (fun h26 => ?_) (fun h26 => ?_)
      · refine V_iconst_n (v := 0) dX8_livesAfterTide_33 (by decide) ?_
        refine V_iret dX8_livesAfterTide_34 rfl (nar_bool (by grind)) ?_
        exact ⟨by unfold nextc older; grind, rfl⟩
      · refine V_iconst_n (v := 1) dX8_livesAfterTide_29 (by decide) ?_
        refine V_goto (tgt := 34) dX8_livesAfterTide_30 (by decide) ?_
        refine V_iret dX8_livesAfterTide_34 rfl (nar_bool (by grind)) ?_
        exact ⟨by unfold nextc older; grind, rfl⟩
    · refine V_iconst_n (v := 1) dX8_livesAfterTide_16 (by decide) ?_
      refine V_goto (tgt := 21) dX8_livesAfterTide_17 (by decide) ?_
      refine V_aload_n (i := 0) dX8_livesAfterTide_21 rfl rfl ?_
      refine V_iload_n (i := 1) dX8_livesAfterTide_22 rfl rfl ?_
      refine V_callVF dX8_livesAfterTide_23 (c_changesInTide hR (k := k) (by omega)) okX8_changesInTide lkRX8_95 hR.1.mk0 hR.1.sh.1 rfl rfl rfl (Nat.le_of_ble_eq_true rfl) ⟨Nat.le_of_ble_eq_true rfl, Nat.le_of_ble_eq_true rfl⟩ rfl ?_
      refine V_icmp_ne_n (tgt := 33) dX8_livesAfterTide_26 (by decide) (by omega) (by omega) (fun h26 => ?_) (fun h26 => ?_)
      · refine V_iconst_n (v := 0) dX8_livesAfterTide_33 (by decide) ?_
        refine V_iret dX8_livesAfterTide_34 rfl (nar_bool (by grind)) ?_
        exact ⟨by unfold nextc older; grind, rfl⟩
      · refine V_iconst_n (v := 1) dX8_livesAfterTide_29 (by decide) ?_
        refine V_goto (tgt := 34) dX8_livesAfterTide_30 (by decide) ?_
        refine V_iret dX8_livesAfterTide_34 rfl (nar_bool (by grind)) ?_
        exact ⟨by unfold nextc older; grind, rfl⟩
def stl (s : St) : Bool := (List.range 64).all fun k => !chg s k
theorem stl_iff {s : St} : stl s = true ↔ ∀ k, k < 64 → chg s k = false := by
  unfold stl
  rw [List.all_eq_true]
  constructor
  · intro h k hk
    have := h k (List.mem_range.mpr hk)
    simpa using this
  · intro h k hk
    have := h k (List.mem_range.mp hk)
    simp [this]
set_option maxRecDepth 100000 in
set_option maxHeartbeats 1000000 in
theorem c_staysInTide {a : Nat} {s : St} {w : Wd} (hR : Repr w a s) : Ct 1 MX8_staysInTide 5 0 0 [.ref a] w (Rt (some (.int (nI (if stl s = true then 1 else 0)))) w) := by
  refine Ct_of (by decide +kernel) rfl (Nat.le_of_ble_eq_true rfl) rfl ?_
  have lp : ∀ (fu i : Nat) , i ≤ 64 → 64 - i < fu → (∀ k, k < i → chg s k = false) → V 1 MX8_staysInTide 5 0 0 (Rt (some (.int (nI (if stl s = true then 1 else 0)))) w) (fun _ _ => True) 0 0 2 [some (.ref a), some (.int (nI i))] [] w := by
    intro fu
    induction fu with
    | zero => intro i  h1 h2; omega
    | succ fu ih =>
      intro i  hib hfu hst
      refine V_iload_n (i := 1) dX8_staysInTide_2 rfl rfl ?_
      refine V_bipush_n (v := 64) dX8_staysInTide_3 (by decide) ?_
      refine V_icmp_ge_n (tgt := 24) dX8_staysInTide_5 (by decide) (by omega) (by omega) (fun h5 => ?_) (fun h5 => ?_)
      · refine V_iconst_n (v := 1) dX8_staysInTide_24 (by decide) ?_
        refine V_iret dX8_staysInTide_25 rfl (nar_bool (by grind)) ?_
        exact ⟨by rw [if_pos (stl_iff.mpr fun k hk => hst k (by omega))], rfl⟩
      · refine V_aload_n (i := 0) dX8_staysInTide_8 rfl rfl ?_
        refine V_iload_n (i := 1) dX8_staysInTide_9 rfl rfl ?_
        refine V_callVF dX8_staysInTide_10 (c_changesInTide hR (k := i) (by omega)) okX8_changesInTide lkRX8_95 hR.1.mk0 hR.1.sh.1 rfl rfl rfl (Nat.le_of_ble_eq_true rfl) ⟨Nat.le_of_ble_eq_true rfl, Nat.le_of_ble_eq_true rfl⟩ rfl ?_
        refine V_if_eq_n (tgt := 18) dX8_staysInTide_13 (by decide) (Nat.lt_of_lt_of_le ite_le (by decide)) (fun h13 => ?_) (fun h13 => ?_)
        · refine V_iinc_n (b := (i + 1)) dX8_staysInTide_18 rfl (nI_add _ _) rfl rfl ?_
          refine V_goto (tgt := 2) dX8_staysInTide_21 (by decide) ?_
          exact ih (i + 1) (by omega) (by omega) (fun k hk => (Decidable.em (k = i)).elim (fun e => by subst e; grind) (fun e => hst k (by omega)))
        · refine V_iconst_n (v := 0) dX8_staysInTide_16 (by decide) ?_
          refine V_iret dX8_staysInTide_17 rfl (nar_bool (by grind)) ?_
          exact ⟨by rw [if_neg (fun q => by have := stl_iff.mp q i (by omega); grind)], rfl⟩
  refine V_iconst_n (v := 0) dX8_staysInTide_0 (by decide) ?_
  refine V_istore_n (i := 1) dX8_staysInTide_1 rfl (Nat.le_of_ble_eq_true rfl) rfl rfl ?_
  exact lp 65 0 (by omega) (by omega) (fun k hk => by omega)
set_option maxRecDepth 100000 in
set_option maxHeartbeats 1000000 in
theorem c_reasonAgainstPlacing {a k : Nat} {s : St} {w : Wd} (hR : Repr w a s) (hk8 : k < 64) : Ct 1 MX8_reasonAgainstPlacing 2 0 0 [.ref a, .int (nI k)] w (Rt (some (.int (nI (rsP (s.1 k))))) w) := by
  refine Ct_of (by decide +kernel) rfl (Nat.le_of_ble_eq_true rfl) rfl ?_
  have hk9 := kc_lt (hR.2.1 k hk8)
  have hk7 := kc_live (hR.2.1 k hk8)
  have hk6 := kc_none (hR.2.1 k hk8)
  have hk5 := kc_pale (hR.2.1 k hk8)
  have hok := hR.2.1 k hk8
  unfold okc at hok
  refine V_aload_n (i := 0) dX8_reasonAgainstPlacing_0 rfl rfl ?_
  refine V_iload_n (i := 1) dX8_reasonAgainstPlacing_1 rfl rfl ?_
  refine V_callVF dX8_reasonAgainstPlacing_2 (c_kindOf hR (k := k) (by omega)) okX8_kindOf lkRX8_53 hR.1.mk0 hR.1.sh.1 rfl rfl rfl (Nat.le_of_ble_eq_true rfl) ⟨Nat.le_of_ble_eq_true rfl, Nat.le_of_ble_eq_true rfl⟩ rfl ?_
  refine V_if_ne_n (tgt := 12) dX8_reasonAgainstPlacing_5 (by decide) (by omega) (fun h5 => ?_) (fun h5 => ?_)
  · refine V_iconst_n (v := 1) dX8_reasonAgainstPlacing_12 (by decide) ?_
    refine V_iret dX8_reasonAgainstPlacing_13 rfl rfl ?_
    exact ⟨by unfold rsP; grind, rfl⟩
  · refine V_iconst_n (v := 0) dX8_reasonAgainstPlacing_8 (by decide) ?_
    refine V_goto (tgt := 13) dX8_reasonAgainstPlacing_9 (by decide) ?_
    refine V_iret dX8_reasonAgainstPlacing_13 rfl rfl ?_
    exact ⟨by unfold rsP; grind, rfl⟩
set_option maxRecDepth 100000 in
set_option maxHeartbeats 1000000 in
theorem c_reasonAgainstRemoving {a k : Nat} {s : St} {w : Wd} (hR : Repr w a s) (hk8 : k < 64) : Ct 1 MX8_reasonAgainstRemoving 2 0 0 [.ref a, .int (nI k)] w (Rt (some (.int (nI (rsR (s.1 k))))) w) := by
  refine Ct_of (by decide +kernel) rfl (Nat.le_of_ble_eq_true rfl) rfl ?_
  have hk9 := kc_lt (hR.2.1 k hk8)
  have hk7 := kc_live (hR.2.1 k hk8)
  have hk6 := kc_none (hR.2.1 k hk8)
  have hk5 := kc_pale (hR.2.1 k hk8)
  have hok := hR.2.1 k hk8
  unfold okc at hok
  refine V_aload_n (i := 0) dX8_reasonAgainstRemoving_0 rfl rfl ?_
  refine V_iload_n (i := 1) dX8_reasonAgainstRemoving_1 rfl rfl ?_
  refine V_callVF dX8_reasonAgainstRemoving_2 (c_kindOf hR (k := k) (by omega)) okX8_kindOf lkRX8_53 hR.1.mk0 hR.1.sh.1 rfl rfl rfl (Nat.le_of_ble_eq_true rfl) ⟨Nat.le_of_ble_eq_true rfl, Nat.le_of_ble_eq_true rfl⟩ rfl ?_
  refine V_if_ne_n (tgt := 12) dX8_reasonAgainstRemoving_5 (by decide) (by omega) (fun h5 => ?_) (fun h5 => ?_)
  · refine V_iconst_n (v := 0) dX8_reasonAgainstRemoving_12 (by decide) ?_
    refine V_iret dX8_reasonAgainstRemoving_13 rfl rfl ?_
    exact ⟨by unfold rsR; grind, rfl⟩
  · refine V_iconst_n (v := 2) dX8_reasonAgainstRemoving_8 (by decide) ?_
    refine V_goto (tgt := 13) dX8_reasonAgainstRemoving_9 (by decide) ?_
    refine V_iret dX8_reasonAgainstRemoving_13 rfl rfl ?_
    exact ⟨by unfold rsR; grind, rfl⟩
set_option maxRecDepth 100000 in
set_option maxHeartbeats 1000000 in
theorem c_reasonAgainstAltering {a k : Nat} {s : St} {w : Wd} (hR : Repr w a s) (hk8 : k < 64) : Ct 1 MX8_reasonAgainstAltering 2 0 0 [.ref a, .int (nI k)] w (Rt (some (.int (nI (rsA (s.1 k))))) w) := by
  refine Ct_of (by decide +kernel) rfl (Nat.le_of_ble_eq_true rfl) rfl ?_
  have hk9 := kc_lt (hR.2.1 k hk8)
  have hk7 := kc_live (hR.2.1 k hk8)
  have hk6 := kc_none (hR.2.1 k hk8)
  have hk5 := kc_pale (hR.2.1 k hk8)
  have hok := hR.2.1 k hk8
  unfold okc at hok
  refine V_aload_n (i := 0) dX8_reasonAgainstAltering_0 rfl rfl ?_
  refine V_iload_n (i := 1) dX8_reasonAgainstAltering_1 rfl rfl ?_
  refine V_callVF dX8_reasonAgainstAltering_2 (c_kindOf hR (k := k) (by omega)) okX8_kindOf lkRX8_53 hR.1.mk0 hR.1.sh.1 rfl rfl rfl (Nat.le_of_ble_eq_true rfl) ⟨Nat.le_of_ble_eq_true rfl, Nat.le_of_ble_eq_true rfl⟩ rfl ?_
  refine V_istore_n (i := 2) dX8_reasonAgainstAltering_5 rfl (Nat.le_of_ble_eq_true rfl) rfl rfl ?_
  refine V_iload_n (i := 2) dX8_reasonAgainstAltering_6 rfl rfl ?_
  refine V_if_ne_n (tgt := 12) dX8_reasonAgainstAltering_7 (by decide) (by omega) (fun h7 => ?_) (fun h7 => ?_)
  · refine V_iload_n (i := 2) dX8_reasonAgainstAltering_12 rfl rfl ?_
    refine V_bipush_n (v := 35) dX8_reasonAgainstAltering_13 (by decide) ?_
    refine V_icmp_ne_n (tgt := 22) dX8_reasonAgainstAltering_15 (by decide) (by omega) (by omega) (fun h15 => ?_) (fun h15 => ?_)
    · refine V_iconst_n (v := 0) dX8_reasonAgainstAltering_22 (by decide) ?_
      refine V_iret dX8_reasonAgainstAltering_23 rfl rfl ?_
      exact ⟨by unfold rsA; grind, rfl⟩
    · refine V_iconst_n (v := 3) dX8_reasonAgainstAltering_18 (by decide) ?_
      refine V_goto (tgt := 23) dX8_reasonAgainstAltering_19 (by decide) ?_
      refine V_iret dX8_reasonAgainstAltering_23 rfl rfl ?_
      exact ⟨by unfold rsA; grind, rfl⟩
  · refine V_iconst_n (v := 2) dX8_reasonAgainstAltering_10 (by decide) ?_
    refine V_iret dX8_reasonAgainstAltering_11 rfl rfl ?_
    exact ⟨by unfold rsA; grind, rfl⟩
set_option maxRecDepth 100000 in
set_option maxHeartbeats 1000000 in
theorem c_reasonAgainstRule {a r : Nat} {s : St} {w : Wd} (hR : Repr w a s) (hr : r < 3) : Ct 1 MX8_reasonAgainstRule 1 0 0 [.ref a, .ref (1000 + r)] w (Rt (some (.int (nI (if s.2.1 = r then 5 else 0)))) w) := by
  refine Ct_of (by decide +kernel) rfl (Nat.le_of_ble_eq_true rfl) rfl ?_
  refine V_aload_n (i := 0) dX8_reasonAgainstRule_0 rfl rfl ?_
  refine V_getR (k := 2) dX8_reasonAgainstRule_1 hR.1.mk0 hR.1.sh.1 rfl rfl (Nat.le_of_ble_eq_true rfl) flRX8_25 hR.2.2.2.2.2.1 ?_
  refine V_aload_n (i := 1) dX8_reasonAgainstRule_4 rfl rfl ?_
  refine V_acmp_ne (tgt := 12) dX8_reasonAgainstRule_5 (by decide) (rl_E hR.2.2.2.2.1) (rl_E hr) (fun h5 => ?_) (fun h5 => ?_)
  · refine V_iconst_n (v := 0) dX8_reasonAgainstRule_12 (by decide) ?_
    refine V_iret dX8_reasonAgainstRule_13 rfl rfl ?_
    exact ⟨by grind, rfl⟩
  · refine V_iconst_n (v := 5) dX8_reasonAgainstRule_8 (by decide) ?_
    refine V_goto (tgt := 13) dX8_reasonAgainstRule_9 (by decide) ?_
    refine V_iret dX8_reasonAgainstRule_13 rfl rfl ?_
    exact ⟨by grind, rfl⟩
set_option maxRecDepth 100000 in
set_option maxHeartbeats 1000000 in
theorem c_put {a k v kd : Nat} {s : St} {w : Wd} (hR : Repr w a s) (hk8 : k < 64) (hv : okc v) (hv0 : ag v = 0) (hkd : kd = kc v) : Ct 1 MX8_put 1 0 0 [.ref a, .int (nI k), .int (nI kd)] w (Mt none fun w1 => Repr w1 a (sPut s k v) ∧ FrS a w w1) := by
  refine Ct_of (by decide +kernel) rfl (Nat.le_of_ble_eq_true rfl) rfl ?_
  have hk9 := kc_lt hv
  subst hkd
  refine V_iload_n (i := 1) dX8_put_0 rfl rfl ?_
  refine V_if_lt_n (tgt := 24) dX8_put_1 (by decide) (by omega) ?_
  refine V_iload_n (i := 1) dX8_put_4 rfl rfl ?_
  refine V_bipush_n (v := 64) dX8_put_5 (by decide) ?_
  refine V_icmp_ge_n (tgt := 24) dX8_put_7 (by decide) (by omega) (by omega) (fun h7 => by exfalso; omega) (fun h7 => ?_)
  refine V_aload_n (i := 0) dX8_put_10 rfl rfl ?_
  refine V_getC (k := 0) (q := (a + 1)) dX8_put_11 hR.1.mk0 hR.1.sh.1 rfl rfl (Nat.le_of_ble_eq_true rfl) flRX8_9 ?_
  refine V_iload_n (i := 1) dX8_put_14 rfl rfl ?_
  refine V_iload_n (i := 2) dX8_put_15 rfl rfl ?_
  refine V_cast_n (i := k) dX8_put_16 hR.1.mk1 hR.1.sh.2.1 (by omega) (by decide) (nar_char (by omega)) ?_
  refine V_aload_n (i := 0) dX8_put_17 rfl rfl ?_
  refine V_getC (k := 1) (q := (a + 2)) dX8_put_18 hR.1.mk0 hR.1.sh.1 rfl rfl (Nat.le_of_ble_eq_true rfl) flRX8_15 ?_
  refine V_iload_n (i := 1) dX8_put_21 rfl rfl ?_
  refine V_iconst_n (v := 0) dX8_put_22 (by decide) ?_
  refine V_iast_n (i := k) dX8_put_23 hR.1.mk2 hR.1.sh.2.2.1 (by omega) (by decide) ?_
  refine V_vret dX8_put_24 rfl ?_
  have h9 := hR.put hk8 hv
  rw [hv0] at h9
  exact ⟨rfl, h9, (Fr.nil.i1 (by unfold InSt; omega)).i1 (by unfold InSt; omega)⟩
set_option maxRecDepth 100000 in
set_option maxHeartbeats 1000000 in
theorem c_putPlaced {a k q : Nat} {s : St} {w : Wd} (hR : Repr w a s) (hk8 : k < 64) (hq : 97 ≤ q ∧ q ≤ 100) : Ct 1 MX8_putPlaced 2 0 0 [.ref a, .int (nI k), .int (nI q)] w (Mt none fun w1 => Repr w1 a (sCnt (sPut s k (10 + 10 * (q - 97) + 0)) 1 (nI 1)) ∧ FrS a w w1) := by
  refine Ct_of (by decide +kernel) rfl (Nat.le_of_ble_eq_true rfl) rfl ?_
  refine V_aload_n (i := 0) dX8_putPlaced_0 rfl rfl ?_
  refine V_iload_n (i := 1) dX8_putPlaced_1 rfl rfl ?_
  refine V_iload_n (i := 2) dX8_putPlaced_2 rfl rfl ?_
  refine V_callVM dX8_putPlaced_3 (c_put hR (k := k) (v := (10 + 10 * (q - 97) + 0)) (by omega) (okc_mk hq (by decide)) (ag_mk (by decide)) (kc_mk hq.1 (by decide)).symm) okX8_put lkRX8_112 hR.1.mk0 hR.1.sh.1 rfl rfl rfl (Nat.le_of_ble_eq_true rfl) ⟨Nat.le_of_ble_eq_true rfl, Nat.le_of_ble_eq_true rfl⟩ rfl ?_
  intro u1 hu1
  refine V_aload_n (i := 0) dX8_putPlaced_6 rfl rfl ?_
  refine V_dup dX8_putPlaced_7 rfl ?_
  refine V_getI (k := 4) dX8_putPlaced_8 hR.1.mk0 hR.1.sh.1 rfl rfl (Nat.le_of_ble_eq_true rfl) flRX8_32 ?_
  refine V_iconst_n (v := 1) dX8_putPlaced_11 (by decide) ?_
  refine V_iadd dX8_putPlaced_12 ?_
  refine V_putI (k := 4) (ty := .int) dX8_putPlaced_13 hR.1.mk0 hR.1.sh.1 rfl rfl (Nat.le_of_ble_eq_true rfl) flRX8_32 rfl (by decide +kernel) rfl rfl ?_
  refine V_vret dX8_putPlaced_16 rfl ?_
  exact ⟨rfl, hu1.1.cnt (j := 1) (by decide) (congrArg (· + nI 1) (hu1.1.2.2.2.2.2.2 1 (by decide))), hu1.2.i1 (by unfold InSt; omega)⟩
set_option maxRecDepth 100000 in
set_option maxHeartbeats 1000000 in
theorem c_putBorn {a k q : Nat} {s : St} {w : Wd} (hR : Repr w a s) (hk8 : k < 64) (hq : 97 ≤ q ∧ q ≤ 100) : Ct 1 MX8_putBorn 2 0 0 [.ref a, .int (nI k), .int (nI q)] w (Mt none fun w1 => Repr w1 a (sCnt (sPut s k (10 + 10 * (q - 97) + 0)) 3 (nI 1)) ∧ FrS a w w1) := by
  refine Ct_of (by decide +kernel) rfl (Nat.le_of_ble_eq_true rfl) rfl ?_
  refine V_aload_n (i := 0) dX8_putBorn_0 rfl rfl ?_
  refine V_iload_n (i := 1) dX8_putBorn_1 rfl rfl ?_
  refine V_iload_n (i := 2) dX8_putBorn_2 rfl rfl ?_
  refine V_callVM dX8_putBorn_3 (c_put hR (k := k) (v := (10 + 10 * (q - 97) + 0)) (by omega) (okc_mk hq (by decide)) (ag_mk (by decide)) (kc_mk hq.1 (by decide)).symm) okX8_put lkRX8_112 hR.1.mk0 hR.1.sh.1 rfl rfl rfl (Nat.le_of_ble_eq_true rfl) ⟨Nat.le_of_ble_eq_true rfl, Nat.le_of_ble_eq_true rfl⟩ rfl ?_
  intro u1 hu1
  refine V_aload_n (i := 0) dX8_putBorn_6 rfl rfl ?_
  refine V_dup dX8_putBorn_7 rfl ?_
  refine V_getI (k := 6) dX8_putBorn_8 hR.1.mk0 hR.1.sh.1 rfl rfl (Nat.le_of_ble_eq_true rfl) flRX8_38 ?_
  refine V_iconst_n (v := 1) dX8_putBorn_11 (by decide) ?_
  refine V_iadd dX8_putBorn_12 ?_
  refine V_putI (k := 6) (ty := .int) dX8_putBorn_13 hR.1.mk0 hR.1.sh.1 rfl rfl (Nat.le_of_ble_eq_true rfl) flRX8_38 rfl (by decide +kernel) rfl rfl ?_
  refine V_vret dX8_putBorn_16 rfl ?_
  exact ⟨rfl, hu1.1.cnt (j := 3) (by decide) (congrArg (· + nI 1) (hu1.1.2.2.2.2.2.2 3 (by decide))), hu1.2.i1 (by unfold InSt; omega)⟩
set_option maxRecDepth 100000 in
set_option maxHeartbeats 1000000 in
theorem c_takeRemoved {a k : Nat} {s : St} {w : Wd} (hR : Repr w a s) (hk8 : k < 64) : Ct 1 MX8_takeRemoved 2 0 0 [.ref a, .int (nI k)] w (Mt none fun w1 => Repr w1 a (sCnt (sPut s k 0) 2 (nI 1)) ∧ FrS a w w1) := by
  refine Ct_of (by decide +kernel) rfl (Nat.le_of_ble_eq_true rfl) rfl ?_
  refine V_aload_n (i := 0) dX8_takeRemoved_0 rfl rfl ?_
  refine V_iload_n (i := 1) dX8_takeRemoved_1 rfl rfl ?_
  refine V_iconst_n (v := 0) dX8_takeRemoved_2 (by decide) ?_
  refine V_callVM dX8_takeRemoved_3 (c_put hR (k := k) (v := 0) (by omega) (Or.inl rfl) rfl rfl) okX8_put lkRX8_112 hR.1.mk0 hR.1.sh.1 rfl rfl rfl (Nat.le_of_ble_eq_true rfl) ⟨Nat.le_of_ble_eq_true rfl, Nat.le_of_ble_eq_true rfl⟩ rfl ?_
  intro u1 hu1
  refine V_aload_n (i := 0) dX8_takeRemoved_6 rfl rfl ?_
  refine V_dup dX8_takeRemoved_7 rfl ?_
  refine V_getI (k := 5) dX8_takeRemoved_8 hR.1.mk0 hR.1.sh.1 rfl rfl (Nat.le_of_ble_eq_true rfl) flRX8_35 ?_
  refine V_iconst_n (v := 1) dX8_takeRemoved_11 (by decide) ?_
  refine V_iadd dX8_takeRemoved_12 ?_
  refine V_putI (k := 5) (ty := .int) dX8_takeRemoved_13 hR.1.mk0 hR.1.sh.1 rfl rfl (Nat.le_of_ble_eq_true rfl) flRX8_35 rfl (by decide +kernel) rfl rfl ?_
  refine V_vret dX8_takeRemoved_16 rfl ?_
  exact ⟨rfl, hu1.1.cnt (j := 2) (by decide) (congrArg (· + nI 1) (hu1.1.2.2.2.2.2.2 2 (by decide))), hu1.2.i1 (by unfold InSt; omega)⟩
set_option maxRecDepth 100000 in
set_option maxHeartbeats 1000000 in
theorem c_takeWashed {a k : Nat} {s : St} {w : Wd} (hR : Repr w a s) (hk8 : k < 64) : Ct 1 MX8_takeWashed 2 0 0 [.ref a, .int (nI k)] w (Mt none fun w1 => Repr w1 a (sCnt (sPut s k 0) 5 (nI 1)) ∧ FrS a w w1) := by
  refine Ct_of (by decide +kernel) rfl (Nat.le_of_ble_eq_true rfl) rfl ?_
  refine V_aload_n (i := 0) dX8_takeWashed_0 rfl rfl ?_
  refine V_iload_n (i := 1) dX8_takeWashed_1 rfl rfl ?_
  refine V_iconst_n (v := 0) dX8_takeWashed_2 (by decide) ?_
  refine V_callVM dX8_takeWashed_3 (c_put hR (k := k) (v := 0) (by omega) (Or.inl rfl) rfl rfl) okX8_put lkRX8_112 hR.1.mk0 hR.1.sh.1 rfl rfl rfl (Nat.le_of_ble_eq_true rfl) ⟨Nat.le_of_ble_eq_true rfl, Nat.le_of_ble_eq_true rfl⟩ rfl ?_
  intro u1 hu1
  refine V_aload_n (i := 0) dX8_takeWashed_6 rfl rfl ?_
  refine V_dup dX8_takeWashed_7 rfl ?_
  refine V_getI (k := 8) dX8_takeWashed_8 hR.1.mk0 hR.1.sh.1 rfl rfl (Nat.le_of_ble_eq_true rfl) flRX8_44 ?_
  refine V_iconst_n (v := 1) dX8_takeWashed_11 (by decide) ?_
  refine V_iadd dX8_takeWashed_12 ?_
  refine V_putI (k := 8) (ty := .int) dX8_takeWashed_13 hR.1.mk0 hR.1.sh.1 rfl rfl (Nat.le_of_ble_eq_true rfl) flRX8_44 rfl (by decide +kernel) rfl rfl ?_
  refine V_vret dX8_takeWashed_16 rfl ?_
  exact ⟨rfl, hu1.1.cnt (j := 5) (by decide) (congrArg (· + nI 1) (hu1.1.2.2.2.2.2.2 5 (by decide))), hu1.2.i1 (by unfold InSt; omega)⟩
set_option maxRecDepth 100000 in
set_option maxHeartbeats 1000000 in
theorem c_turnPale {a k : Nat} {s : St} {w : Wd} (hR : Repr w a s) (hk8 : k < 64) : Ct 1 MX8_turnPale 2 0 0 [.ref a, .int (nI k)] w (Mt none fun w1 => Repr w1 a (sCnt (sPut s k 1) 4 (nI 1)) ∧ FrS a w w1) := by
  refine Ct_of (by decide +kernel) rfl (Nat.le_of_ble_eq_true rfl) rfl ?_
  refine V_aload_n (i := 0) dX8_turnPale_0 rfl rfl ?_
  refine V_iload_n (i := 1) dX8_turnPale_1 rfl rfl ?_
  refine V_bipush_n (v := 35) dX8_turnPale_2 (by decide) ?_
  refine V_callVM dX8_turnPale_4 (c_put hR (k := k) (v := 1) (by omega) (Or.inr (Or.inl rfl)) rfl rfl) okX8_put lkRX8_112 hR.1.mk0 hR.1.sh.1 rfl rfl rfl (Nat.le_of_ble_eq_true rfl) ⟨Nat.le_of_ble_eq_true rfl, Nat.le_of_ble_eq_true rfl⟩ rfl ?_
  intro u1 hu1
  refine V_aload_n (i := 0) dX8_turnPale_7 rfl rfl ?_
  refine V_dup dX8_turnPale_8 rfl ?_
  refine V_getI (k := 7) dX8_turnPale_9 hR.1.mk0 hR.1.sh.1 rfl rfl (Nat.le_of_ble_eq_true rfl) flRX8_41 ?_
  refine V_iconst_n (v := 1) dX8_turnPale_12 (by decide) ?_
  refine V_iadd dX8_turnPale_13 ?_
  refine V_putI (k := 7) (ty := .int) dX8_turnPale_14 hR.1.mk0 hR.1.sh.1 rfl rfl (Nat.le_of_ble_eq_true rfl) flRX8_41 rfl (by decide +kernel) rfl rfl ?_
  refine V_vret dX8_turnPale_17 rfl ?_
  exact ⟨rfl, hu1.1.cnt (j := 4) (by decide) (congrArg (· + nI 1) (hu1.1.2.2.2.2.2.2 4 (by decide))), hu1.2.i1 (by unfold InSt; omega)⟩
set_option maxRecDepth 100000 in
set_option maxHeartbeats 1000000 in
theorem c_paint {a k q : Nat} {s : St} {w : Wd} (hR : Repr w a s) (hk8 : k < 64) (hq : 97 ≤ q ∧ q ≤ 100) (hl : 10 ≤ s.1 k) : Ct 1 MX8_paint 1 0 0 [.ref a, .int (nI k), .int (nI q)] w (Mt none fun w1 => Repr w1 a (sPut s k (10 + 10 * (q - 97) + ag (s.1 k))) ∧ FrS a w w1) := by
  refine Ct_of (by decide +kernel) rfl (Nat.le_of_ble_eq_true rfl) rfl ?_
  refine V_iload_n (i := 1) dX8_paint_0 rfl rfl ?_
  refine V_if_lt_n (tgt := 17) dX8_paint_1 (by decide) (by omega) ?_
  refine V_iload_n (i := 1) dX8_paint_4 rfl rfl ?_
  refine V_bipush_n (v := 64) dX8_paint_5 (by decide) ?_
  refine V_icmp_ge_n (tgt := 17) dX8_paint_7 (by decide) (by omega) (by omega) (fun h7 => by exfalso; omega) (fun h7 => ?_)
  refine V_aload_n (i := 0) dX8_paint_10 rfl rfl ?_
  refine V_getC (k := 0) (q := (a + 1)) dX8_paint_11 hR.1.mk0 hR.1.sh.1 rfl rfl (Nat.le_of_ble_eq_true rfl) flRX8_9 ?_
  refine V_iload_n (i := 1) dX8_paint_14 rfl rfl ?_
  refine V_iload_n (i := 2) dX8_paint_15 rfl rfl ?_
  refine V_cast_n (i := k) dX8_paint_16 hR.1.mk1 hR.1.sh.2.1 (by omega) (by decide) (nar_char (by omega)) ?_
  refine V_vret dX8_paint_17 rfl ?_
  exact ⟨rfl, hR.kind hk8 (okc_mk hq ag_lt) (by rw [kc_mk hq.1 ag_lt]) (ag_mk ag_lt), Fr.nil.i1 (by unfold InSt; omega)⟩
set_option maxRecDepth 100000 in
set_option maxHeartbeats 1000000 in
theorem c_growOlder {a k : Nat} {s : St} {w : Wd} (hR : Repr w a s) (hk8 : k < 64) (hl : 10 ≤ s.1 k) : Ct 1 MX8_growOlder 2 0 0 [.ref a, .int (nI k)] w (Mt none fun w1 => Repr w1 a (sPut s k (older (s.1 k))) ∧ FrS a w w1) := by
  refine Ct_of (by decide +kernel) rfl (Nat.le_of_ble_eq_true rfl) rfl ?_
  have hk9 := @ag_lt (s.1 k)
  refine V_iload_n (i := 1) dX8_growOlder_0 rfl rfl ?_
  refine V_if_lt_n (tgt := 29) dX8_growOlder_1 (by decide) (by omega) ?_
  refine V_iload_n (i := 1) dX8_growOlder_4 rfl rfl ?_
  refine V_bipush_n (v := 64) dX8_growOlder_5 (by decide) ?_
  refine V_icmp_ge_n (tgt := 29) dX8_growOlder_7 (by decide) (by omega) (by omega) (fun h7 => by exfalso; omega) (fun h7 => ?_)
  refine V_aload_n (i := 0) dX8_growOlder_10 rfl rfl ?_
  refine V_getC (k := 1) (q := (a + 2)) dX8_growOlder_11 hR.1.mk0 hR.1.sh.1 rfl rfl (Nat.le_of_ble_eq_true rfl) flRX8_15 ?_
  refine V_iload_n (i := 1) dX8_growOlder_14 rfl rfl ?_
  refine V_aload_n (i := 0) dX8_growOlder_15 rfl rfl ?_
  refine V_getC (k := 1) (q := (a + 2)) dX8_growOlder_16 hR.1.mk0 hR.1.sh.1 rfl rfl (Nat.le_of_ble_eq_true rfl) flRX8_15 ?_
  refine V_iload_n (i := 1) dX8_growOlder_19 rfl rfl ?_
  refine V_iald_n (i := k) dX8_growOlder_20 hR.1.mk2 hR.1.sh.2.2.1 (by omega) (by decide) ?_
  refine V_top (y := nI (ag (s.1 k))) (hR.2.2.2.1 k hk8) ?_
  refine V_iconst_n (v := 1) dX8_growOlder_21 (by decide) ?_
  refine V_iadd_n dX8_growOlder_22 ?_
  refine V_bipush_n (v := 9) dX8_growOlder_23 (by decide) ?_
  refine V_min dX8_growOlder_25 lkRX8_119 (by omega) (by omega) (Nat.le_of_ble_eq_true rfl) (by decide) ?_
  refine V_iast_n (i := k) dX8_growOlder_28 hR.1.mk2 hR.1.sh.2.2.1 (by omega) (by decide) ?_
  refine V_vret dX8_growOlder_29 rfl ?_
  have ho := older_ok (hR.2.1 k hk8) hl
  exact ⟨rfl, hR.age hk8 ho.1 (by rw [ho.2.2]) ho.2.1, Fr.nil.i1 (by unfold InSt; omega)⟩
set_option maxRecDepth 100000 in
set_option maxHeartbeats 1000000 in
theorem c_copyFrom {a b : Nat} {t : St} {w : Wd} (hA : IsSt a) (hT : Repr w b t) (hne : b ≠ a) : Ct 1 MX8_copyFrom 2 0 0 [.ref a, .ref b] w (Mt none fun w1 => Repr w1 a t ∧ FrS a w w1) := by
  refine Ct_of (by decide +kernel) rfl (Nat.le_of_ble_eq_true rfl) rfl ?_
  have hfar := st_far hT.1 hA hne
  refine V_aload_n (i := 1) dX8_copyFrom_0 rfl rfl ?_
  refine V_getC (k := 0) (q := (b + 1)) dX8_copyFrom_1 hT.1.mk0 hT.1.sh.1 rfl rfl (Nat.le_of_ble_eq_true rfl) flRX8_9 ?_
  refine V_iconst_n (v := 0) dX8_copyFrom_4 (by decide) ?_
  refine V_aload_n (i := 0) dX8_copyFrom_5 rfl rfl ?_
  refine V_getC (k := 0) (q := (a + 1)) dX8_copyFrom_6 hA.mk0 hA.sh.1 rfl rfl (Nat.le_of_ble_eq_true rfl) flRX8_9 ?_
  refine V_iconst_n (v := 0) dX8_copyFrom_9 (by decide) ?_
  refine V_bipush_n (v := 64) dX8_copyFrom_10 (by decide) ?_
  refine V_copyC (q0 := (b + 1)) (q1 := (a + 1)) dX8_copyFrom_12 lkCopy hT.1.mk1 hA.mk1 hT.1.sh.2.1 hA.sh.2.1 (fun i hi => by rw [hT.2.2.1 i hi]; exact fit_char (by have := kc_lt (hT.2.1 i hi); omega)) (Nat.le_of_ble_eq_true rfl) (by omega) ?_
  refine V_aload_n (i := 1) dX8_copyFrom_15 rfl rfl ?_
  refine V_getC (k := 1) (q := (b + 2)) dX8_copyFrom_16 hT.1.mk0 hT.1.sh.1 rfl rfl (Nat.le_of_ble_eq_true rfl) flRX8_15 ?_
  refine V_iconst_n (v := 0) dX8_copyFrom_19 (by decide) ?_
  refine V_aload_n (i := 0) dX8_copyFrom_20 rfl rfl ?_
  refine V_getC (k := 1) (q := (a + 2)) dX8_copyFrom_21 hA.mk0 hA.sh.1 rfl rfl (Nat.le_of_ble_eq_true rfl) flRX8_15 ?_
  refine V_iconst_n (v := 0) dX8_copyFrom_24 (by decide) ?_
  refine V_bipush_n (v := 64) dX8_copyFrom_25 (by decide) ?_
  refine V_copyI (q0 := (b + 2)) (q1 := (a + 2)) dX8_copyFrom_27 lkCopy hT.1.mk2 hA.mk2 hT.1.sh.2.2.1 hA.sh.2.2.1 (Nat.le_of_ble_eq_true rfl) (by omega) ?_
  refine V_aload_n (i := 0) dX8_copyFrom_30 rfl rfl ?_
  refine V_aload_n (i := 1) dX8_copyFrom_31 rfl rfl ?_
  refine V_getR (k := 2) dX8_copyFrom_32 hT.1.mk0 hT.1.sh.1 rfl rfl (Nat.le_of_ble_eq_true rfl) flRX8_25 (by simp only [gR_pI, gR_pR, gR_pA]; exact hT.2.2.2.2.2.1) ?_
  refine V_putR (k := 2) (ty := tyX8 2) dX8_copyFrom_35 hA.mk0 hA.sh.1 rfl rfl (Nat.le_of_ble_eq_true rfl) flRX8_25 (Or.inl rfl) (by decide +kernel) (fun _ => rfl) (fun _ => rfl) ?_
  refine V_aload_n (i := 0) dX8_copyFrom_38 rfl rfl ?_
  refine V_aload_n (i := 1) dX8_copyFrom_39 rfl rfl ?_
  refine V_getI (k := 3) dX8_copyFrom_40 hT.1.mk0 hT.1.sh.1 rfl rfl (Nat.le_of_ble_eq_true rfl) flRX8_28 ?_
  refine V_top (y := t.2.2 0) (by simp only [gI_pI, gI_pR, gI_pA]; (repeat rw [if_neg (by omega)]); exact hT.2.2.2.2.2.2 0 (by decide)) ?_
  refine V_putI (k := 3) (ty := .int) dX8_copyFrom_43 hA.mk0 hA.sh.1 rfl rfl (Nat.le_of_ble_eq_true rfl) flRX8_28 rfl (by decide +kernel) rfl rfl ?_
  refine V_aload_n (i := 0) dX8_copyFrom_46 rfl rfl ?_
  refine V_aload_n (i := 1) dX8_copyFrom_47 rfl rfl ?_
  refine V_getI (k := 4) dX8_copyFrom_48 hT.1.mk0 hT.1.sh.1 rfl rfl (Nat.le_of_ble_eq_true rfl) flRX8_32 ?_
  refine V_top (y := t.2.2 1) (by simp only [gI_pI, gI_pR, gI_pA]; (repeat rw [if_neg (by omega)]); exact hT.2.2.2.2.2.2 1 (by decide)) ?_
  refine V_putI (k := 4) (ty := .int) dX8_copyFrom_51 hA.mk0 hA.sh.1 rfl rfl (Nat.le_of_ble_eq_true rfl) flRX8_32 rfl (by decide +kernel) rfl rfl ?_
  refine V_aload_n (i := 0) dX8_copyFrom_54 rfl rfl ?_
  refine V_aload_n (i := 1) dX8_copyFrom_55 rfl rfl ?_
  refine V_getI (k := 5) dX8_copyFrom_56 hT.1.mk0 hT.1.sh.1 rfl rfl (Nat.le_of_ble_eq_true rfl) flRX8_35 ?_
  refine V_top (y := t.2.2 2) (by simp only [gI_pI, gI_pR, gI_pA]; (repeat rw [if_neg (by omega)]); exact hT.2.2.2.2.2.2 2 (by decide)) ?_
  refine V_putI (k := 5) (ty := .int) dX8_copyFrom_59 hA.mk0 hA.sh.1 rfl rfl (Nat.le_of_ble_eq_true rfl) flRX8_35 rfl (by decide +kernel) rfl rfl ?_
  refine V_aload_n (i := 0) dX8_copyFrom_62 rfl rfl ?_
  refine V_aload_n (i := 1) dX8_copyFrom_63 rfl rfl ?_
  refine V_getI (k := 6) dX8_copyFrom_64 hT.1.mk0 hT.1.sh.1 rfl rfl (Nat.le_of_ble_eq_true rfl) flRX8_38 ?_
  refine V_top (y := t.2.2 3) (by simp only [gI_pI, gI_pR, gI_pA]; (repeat rw [if_neg (by omega)]); exact hT.2.2.2.2.2.2 3 (by decide)) ?_
  refine V_putI (k := 6) (ty := .int) dX8_copyFrom_67 hA.mk0 hA.sh.1 rfl rfl (Nat.le_of_ble_eq_true rfl) flRX8_38 rfl (by decide +kernel) rfl rfl ?_
  refine V_aload_n (i := 0) dX8_copyFrom_70 rfl rfl ?_
  refine V_aload_n (i := 1) dX8_copyFrom_71 rfl rfl ?_
  refine V_getI (k := 7) dX8_copyFrom_72 hT.1.mk0 hT.1.sh.1 rfl rfl (Nat.le_of_ble_eq_true rfl) flRX8_41 ?_
  refine V_top (y := t.2.2 4) (by simp only [gI_pI, gI_pR, gI_pA]; (repeat rw [if_neg (by omega)]); exact hT.2.2.2.2.2.2 4 (by decide)) ?_
  refine V_putI (k := 7) (ty := .int) dX8_copyFrom_75 hA.mk0 hA.sh.1 rfl rfl (Nat.le_of_ble_eq_true rfl) flRX8_41 rfl (by decide +kernel) rfl rfl ?_
  refine V_aload_n (i := 0) dX8_copyFrom_78 rfl rfl ?_
  refine V_aload_n (i := 1) dX8_copyFrom_79 rfl rfl ?_
  refine V_getI (k := 8) dX8_copyFrom_80 hT.1.mk0 hT.1.sh.1 rfl rfl (Nat.le_of_ble_eq_true rfl) flRX8_44 ?_
  refine V_top (y := t.2.2 5) (by simp only [gI_pI, gI_pR, gI_pA]; (repeat rw [if_neg (by omega)]); exact hT.2.2.2.2.2.2 5 (by decide)) ?_
  refine V_putI (k := 8) (ty := .int) dX8_copyFrom_83 hA.mk0 hA.sh.1 rfl rfl (Nat.le_of_ble_eq_true rfl) flRX8_44 rfl (by decide +kernel) rfl rfl ?_
  refine V_vret dX8_copyFrom_86 rfl ?_
  refine ⟨rfl, ⟨hA, hT.2.1, fun i hi => ?_, fun i hi => ?_, hT.2.2.2.2.1, ?_, fun j hj => ?_⟩, ?_⟩
  · simp only [gI_pI, gI_pR, gI_pA]
    repeat rw [if_neg (by omega)]
    rw [if_pos trivial]; unfold cpy; rw [if_pos hi]; exact hT.2.2.1 i hi
  · simp only [gI_pI, gI_pR, gI_pA]
    repeat rw [if_neg (by omega)]
    rw [if_pos trivial]
    show (if i < 64 then gI (pA w (a + 1) (cpy (gI w (b + 1)) (gI w (a + 1)))) (b + 2) i else _) = _
    rw [if_pos hi, gI_pA, if_neg (by omega)]; exact hT.2.2.2.1 i hi
  · simp [gR_pI, gR_pR]
  · match j, hj with
    | 0, _ => simp [gI_pI]
    | 1, _ => simp [gI_pI]
    | 2, _ => simp [gI_pI]
    | 3, _ => simp [gI_pI]
    | 4, _ => simp [gI_pI]
    | 5, _ => simp [gI_pI]
  · have h0 : InSt a a := by unfold InSt; omega
    have h1 : InSt a (a + 1) := by unfold InSt; omega
    have h2 : InSt a (a + 2) := by unfold InSt; omega
    exact (((((((((Fr.nil.a1 h1).a1 h2).r1 h0).i1 h0).i1 h0).i1 h0).i1 h0).i1 h0).i1 h0)
end MSTATE2
