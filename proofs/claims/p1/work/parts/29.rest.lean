/-! THE FACE: the rule written, the input, undo, the snapshot, consistency. Printed by wip/whole/gen/mk29.py. -/
section MFACE5
theorem rlT_len {r : Nat} (hr : r < 3) : (tx (1100 + r)).length = 4 := rl_cases (P := fun r => (tx (1100 + r)).length = 4) (by decide) (by decide) (by decide) hr
theorem ruleL_asc {r : Nat} (hr : r < 3) : asc (ruleL r) := asc_app (asc_app (asc_app (asc_app (asc_tx (rl_T hr)) (asc_tx (by unfold IsT; decide))) (asc_nums 9 (by decide))) (asc_tx (by unfold IsT; decide))) (asc_nums 9 (by decide))
theorem ruleL_len {r : Nat} (hr : r < 3) : (ruleL r).length ≤ 32 := by
  unfold ruleL
  simp only [List.length_append]
  have h1 := rlT_len hr
  have h2 : (tx 1130).length = 2 := by decide
  have h3 : (tx 1131).length = 2 := by decide
  have h4 := nums_le (f := bears r) 9
  have h5 := nums_le (f := keeps r) 9
  omega
set_option maxRecDepth 100000 in
set_option maxHeartbeats 1000000 in
theorem c_writeRule {S : Sys} {w : Wd} (hC : CI w S) : Ct 1 MX10_writeRule 12 4 24 [.ref 0] w (PoF [] (fWriteRule S) w) := by
  refine Ct_of (by decide +kernel) rfl (Nat.le_of_ble_eq_true rfl) rfl ?_
  have hrl := hC.1.1.2.2.2.2.1
  have h1 := rlT_len hrl
  have h2 : (tx 1130).length = 2 := by decide
  have h3 : (tx 1131).length = 2 := by decide
  have h4 := nums_le (f := bears S.1.2.1) 9
  have h5 := nums_le (f := keeps S.1.2.1) 9
  refine V_aload_n (i := 0) dX10_writeRule_0 rfl rfl ?_
  refine V_getC (k := 6) (q := 43) dX10_writeRule_1 (Or.inr ⟨rfl, Nat.le_of_ble_eq_true rfl⟩) rfl rfl rfl (Nat.le_of_ble_eq_true rfl) flRX10_46 ?_
  refine V_callVM dX10_writeRule_4 c_oempty okX4_empty lkRX10_299 (Or.inr ⟨rfl, Nat.le_of_ble_eq_true rfl⟩) rfl rfl rfl rfl (Nat.le_of_ble_eq_true rfl) ⟨Nat.le_of_ble_eq_true rfl, Nat.le_of_ble_eq_true rfl⟩ rfl ?_
  intro u1 hu1
  refine V_aload_n (i := 0) dX10_writeRule_7 rfl rfl ?_
  refine V_getC (k := 6) (q := 43) dX10_writeRule_8 (Or.inr ⟨rfl, Nat.le_of_ble_eq_true rfl⟩) rfl rfl rfl (Nat.le_of_ble_eq_true rfl) flRX10_46 ?_
  refine V_aload_n (i := 0) dX10_writeRule_11 rfl rfl ?_
  refine V_getC (k := 0) (q := 1) dX10_writeRule_12 (Or.inr ⟨rfl, Nat.le_of_ble_eq_true rfl⟩) rfl rfl rfl (Nat.le_of_ble_eq_true rfl) flRX10_10 ?_
  refine V_getR (k := 2) dX10_writeRule_15 (Or.inr ⟨rfl, Nat.le_of_ble_eq_true rfl⟩) rfl rfl rfl (Nat.le_of_ble_eq_true rfl) flRX10_173 (hC.1.1.keep hu1.2 (by unfold InO; omega) (by unfold InO; omega) (by unfold InO; omega)).2.2.2.2.2.1 ?_
  refine V_getK dX10_writeRule_18 (rl_word (hC.1.1.keep hu1.2 (by unfold InO; omega) (by unfold InO; omega) (by unfold InO; omega)).2.2.2.2.1) flRX10_311 ?_
  refine V_callVM dX10_writeRule_21 (c_oaddText hu1.1 (rl_T (hC.1.1.keep hu1.2 (by unfold InO; omega) (by unfold InO; omega) (by unfold InO; omega)).2.2.2.2.1) (by simp only [List.length_append, List.length_nil]; omega)) okX4_addText lkRX10_315 (Or.inr ⟨rfl, Nat.le_of_ble_eq_true rfl⟩) rfl rfl rfl rfl (Nat.le_of_ble_eq_true rfl) ⟨Nat.le_of_ble_eq_true rfl, Nat.le_of_ble_eq_true rfl⟩ rfl ?_
  intro u2 hu2
  refine V_aload_n (i := 0) dX10_writeRule_24 rfl rfl ?_
  refine V_getC (k := 6) (q := 43) dX10_writeRule_25 (Or.inr ⟨rfl, Nat.le_of_ble_eq_true rfl⟩) rfl rfl rfl (Nat.le_of_ble_eq_true rfl) flRX10_46 ?_
  refine V_ldcwS dX10_writeRule_28 (List.mem_of_getElem? (i := 14) rfl) ?_
  refine V_callVM dX10_writeRule_31 (c_oaddText hu2.1 (by unfold IsT; decide) (by simp only [List.length_append, List.length_nil]; omega)) okX4_addText lkRX10_315 (Or.inr ⟨rfl, Nat.le_of_ble_eq_true rfl⟩) rfl rfl rfl rfl (Nat.le_of_ble_eq_true rfl) ⟨Nat.le_of_ble_eq_true rfl, Nat.le_of_ble_eq_true rfl⟩ rfl ?_
  intro u3 hu3
  refine V_aload_n (i := 0) dX10_writeRule_34 rfl rfl ?_
  refine V_getC (k := 6) (q := 43) dX10_writeRule_35 (Or.inr ⟨rfl, Nat.le_of_ble_eq_true rfl⟩) rfl rfl rfl (Nat.le_of_ble_eq_true rfl) flRX10_46 ?_
  refine V_aload_n (i := 0) dX10_writeRule_38 rfl rfl ?_
  refine V_getC (k := 0) (q := 1) dX10_writeRule_39 (Or.inr ⟨rfl, Nat.le_of_ble_eq_true rfl⟩) rfl rfl rfl (Nat.le_of_ble_eq_true rfl) flRX10_10 ?_
  refine V_getR (k := 2) dX10_writeRule_42 (Or.inr ⟨rfl, Nat.le_of_ble_eq_true rfl⟩) rfl rfl rfl (Nat.le_of_ble_eq_true rfl) flRX10_173 (((hC.1.1.keep hu1.2 (by unfold InO; omega) (by unfold InO; omega) (by unfold InO; omega)).keep hu2.2 (by unfold InO; omega) (by unfold InO; omega) (by unfold InO; omega)).keep hu3.2 (by unfold InO; omega) (by unfold InO; omega) (by unfold InO; omega)).2.2.2.2.2.1 ?_
  refine V_getK dX10_writeRule_45 (rl_births (((hC.1.1.keep hu1.2 (by unfold InO; omega) (by unfold InO; omega) (by unfold InO; omega)).keep hu2.2 (by unfold InO; omega) (by unfold InO; omega) (by unfold InO; omega)).keep hu3.2 (by unfold InO; omega) (by unfold InO; omega) (by unfold InO; omega)).2.2.2.2.1) flRX10_320 ?_
  refine V_callVM dX10_writeRule_48 (c_oaddNumbers hu3.1 (v := (brB S.1.2.1)) (by simp only [List.length_append, List.length_nil]; omega) (f := bears S.1.2.1) (fun n hn => brB_bit hrl hn)) okX4_addNumbers lkRX10_323 (Or.inr ⟨rfl, Nat.le_of_ble_eq_true rfl⟩) rfl rfl rfl rfl (Nat.le_of_ble_eq_true rfl) ⟨Nat.le_of_ble_eq_true rfl, Nat.le_of_ble_eq_true rfl⟩ rfl ?_
  intro u4 hu4
  refine V_aload_n (i := 0) dX10_writeRule_51 rfl rfl ?_
  refine V_getC (k := 6) (q := 43) dX10_writeRule_52 (Or.inr ⟨rfl, Nat.le_of_ble_eq_true rfl⟩) rfl rfl rfl (Nat.le_of_ble_eq_true rfl) flRX10_46 ?_
  refine V_ldcwS dX10_writeRule_55 (List.mem_of_getElem? (i := 15) rfl) ?_
  refine V_callVM dX10_writeRule_58 (c_oaddText hu4.1 (by unfold IsT; decide) (by simp only [List.length_append, List.length_nil]; omega)) okX4_addText lkRX10_315 (Or.inr ⟨rfl, Nat.le_of_ble_eq_true rfl⟩) rfl rfl rfl rfl (Nat.le_of_ble_eq_true rfl) ⟨Nat.le_of_ble_eq_true rfl, Nat.le_of_ble_eq_true rfl⟩ rfl ?_
  intro u5 hu5
  refine V_aload_n (i := 0) dX10_writeRule_61 rfl rfl ?_
  refine V_getC (k := 6) (q := 43) dX10_writeRule_62 (Or.inr ⟨rfl, Nat.le_of_ble_eq_true rfl⟩) rfl rfl rfl (Nat.le_of_ble_eq_true rfl) flRX10_46 ?_
  refine V_aload_n (i := 0) dX10_writeRule_65 rfl rfl ?_
  refine V_getC (k := 0) (q := 1) dX10_writeRule_66 (Or.inr ⟨rfl, Nat.le_of_ble_eq_true rfl⟩) rfl rfl rfl (Nat.le_of_ble_eq_true rfl) flRX10_10 ?_
  refine V_getR (k := 2) dX10_writeRule_69 (Or.inr ⟨rfl, Nat.le_of_ble_eq_true rfl⟩) rfl rfl rfl (Nat.le_of_ble_eq_true rfl) flRX10_173 (((((hC.1.1.keep hu1.2 (by unfold InO; omega) (by unfold InO; omega) (by unfold InO; omega)).keep hu2.2 (by unfold InO; omega) (by unfold InO; omega) (by unfold InO; omega)).keep hu3.2 (by unfold InO; omega) (by unfold InO; omega) (by unfold InO; omega)).keep hu4.2 (by unfold InO; omega) (by unfold InO; omega) (by unfold InO; omega)).keep hu5.2 (by unfold InO; omega) (by unfold InO; omega) (by unfold InO; omega)).2.2.2.2.2.1 ?_
  refine V_getK dX10_writeRule_72 (rl_survivals (((((hC.1.1.keep hu1.2 (by unfold InO; omega) (by unfold InO; omega) (by unfold InO; omega)).keep hu2.2 (by unfold InO; omega) (by unfold InO; omega) (by unfold InO; omega)).keep hu3.2 (by unfold InO; omega) (by unfold InO; omega) (by unfold InO; omega)).keep hu4.2 (by unfold InO; omega) (by unfold InO; omega) (by unfold InO; omega)).keep hu5.2 (by unfold InO; omega) (by unfold InO; omega) (by unfold InO; omega)).2.2.2.2.1) flRX10_328 ?_
  refine V_callVM dX10_writeRule_75 (c_oaddNumbers hu5.1 (v := (brS S.1.2.1)) (by simp only [List.length_append, List.length_nil]; omega) (f := keeps S.1.2.1) (fun n hn => brS_bit hrl hn)) okX4_addNumbers lkRX10_323 (Or.inr ⟨rfl, Nat.le_of_ble_eq_true rfl⟩) rfl rfl rfl rfl (Nat.le_of_ble_eq_true rfl) ⟨Nat.le_of_ble_eq_true rfl, Nat.le_of_ble_eq_true rfl⟩ rfl ?_
  intro u6 hu6
  refine V_aload_n (i := 0) dX10_writeRule_78 rfl rfl ?_
  refine V_getC (k := 6) (q := 43) dX10_writeRule_79 (Or.inr ⟨rfl, Nat.le_of_ble_eq_true rfl⟩) rfl rfl rfl (Nat.le_of_ble_eq_true rfl) flRX10_46 ?_
  refine V_getI (k := 1) dX10_writeRule_82 (Or.inr ⟨rfl, Nat.le_of_ble_eq_true rfl⟩) rfl rfl rfl (Nat.le_of_ble_eq_true rfl) flRX10_308 ?_
  refine V_top (y := nI ((((([] ++ tx (1100 + S.1.2.1)) ++ tx 1130) ++ nums (bears S.1.2.1) 9) ++ tx 1131) ++ nums (keeps S.1.2.1) 9).length) hu6.1.1 ?_
  refine V_iret dX10_writeRule_85 rfl rfl ?_
  have eL : ((((([] ++ tx (1100 + S.1.2.1)) ++ tx 1130) ++ nums (bears S.1.2.1) 9) ++ tx 1131) ++ nums (keeps S.1.2.1) 9) = ruleL S.1.2.1 := by unfold ruleL; rw [List.nil_append]
  have hO := hu6.1
  rw [eL] at hO ⊢
  have h9 := hC.out (((((hu1.2).trans hu2.2).trans hu3.2).trans hu4.2 |>.trans hu5.2).trans hu6.2) hO (ruleL_len hrl) (ruleL_asc hrl)
  exact ⟨Or.inl ⟨rfl, rfl⟩, h9.1, h9.2⟩
set_option maxRecDepth 100000 in
set_option maxHeartbeats 1000000 in
theorem c_outputAt {x : Int32} {i : Int} {S : Sys} {w : Wd} (hC : CI w S) (hx : x = zI i) (n1 : -2147483648 ≤ i) (n2 : i < 2147483648) : Ct 1 MX10_outputAt 12 4 24 [.ref 0, .int x] w (PoF ["java/lang/IndexOutOfBoundsException"] (fOutputAt S i) w) := by
  refine Ct_of (by decide +kernel) rfl (Nat.le_of_ble_eq_true rfl) rfl ?_
  subst hx
  have hlo := hC.2.2.2.1.2.1
  refine V_iload_n (i := 1) dX10_outputAt_0 rfl rfl ?_
  refine V_if_lt_z (tgt := 15) dX10_outputAt_1 (by decide) rfl (by omega) (by omega) (fun h1 => ?_) (fun h1 => ?_)
  · refine V_throwW dX10_outputAt_15 dX10_outputAt_18 dX10_outputAt_19 dX10_outputAt_22 dX10_outputAt_25 thr_IOOBE (List.mem_of_getElem? (i := 31) rfl) rfl (Nat.le_of_ble_eq_true rfl) (by decide) (by decide) ?_
    have hz : ¬ (0 ≤ i ∧ i < (S.2.2.2.1.length : Int)) := by omega
    have e9 : fOutputAt S i = (1, 0, S) := by simp [fOutputAt, fCell, fLive, q2, cl_nat, b2, hz]
    rw [e9]
    exact ⟨Or.inr ⟨Nat.le_of_ble_eq_true rfl, rfl⟩, ⟨hC.1, hC.2.1, hC.2.2.1, hC.2.2.2.1, hC.2.2.2.2.1, hC.2.2.2.2.2⟩, Fr.nil⟩
  · refine V_iload_n (i := 1) dX10_outputAt_4 rfl rfl ?_
    refine V_aload_n (i := 0) dX10_outputAt_5 rfl rfl ?_
    refine V_getC (k := 6) (q := 43) dX10_outputAt_6 (Or.inr ⟨rfl, Nat.le_of_ble_eq_true rfl⟩) rfl rfl rfl (Nat.le_of_ble_eq_true rfl) flRX10_46 ?_
    refine V_getI (k := 1) dX10_outputAt_9 (Or.inr ⟨rfl, Nat.le_of_ble_eq_true rfl⟩) rfl rfl rfl (Nat.le_of_ble_eq_true rfl) flRX10_308 ?_
    refine V_top (y := nI S.2.2.2.1.length) hC.2.2.2.1.1.1 ?_
    refine V_icmp_lt_z (tgt := 26) dX10_outputAt_12 (by decide) rfl (zI_n _) (by omega) (by omega) (by omega) (by omega) (fun h12 => ?_) (fun h12 => ?_)
    · obtain ⟨i0, rfl⟩ : ∃ m : Nat, i = (m : Int) := ⟨i.toNat, by omega⟩
      have hi8 : i0 < S.2.2.2.1.length := by omega
      have hi9 : (0 : Int) ≤ (i0 : Int) ∧ (i0 : Int) < (S.2.2.2.1.length : Int) := by omega
      have hbd := hC.2.2.2.1.2.2 i0 hi8
      simp only [← zI_n]
      refine V_aload_n (i := 0) dX10_outputAt_26 rfl rfl ?_
      refine V_getC (k := 6) (q := 43) dX10_outputAt_27 (Or.inr ⟨rfl, Nat.le_of_ble_eq_true rfl⟩) rfl rfl rfl (Nat.le_of_ble_eq_true rfl) flRX10_46 ?_
      refine V_iload_n (i := 1) dX10_outputAt_30 rfl rfl ?_
      refine V_callVF dX10_outputAt_31 (c_signAt hC.2.2.2.1.1 (i := i0) (by omega) (by omega) (by omega)) okX4_signAt lkRX10_333 (Or.inr ⟨rfl, Nat.le_of_ble_eq_true rfl⟩) rfl rfl rfl rfl (Nat.le_of_ble_eq_true rfl) ⟨Nat.le_of_ble_eq_true rfl, Nat.le_of_ble_eq_true rfl⟩ rfl ?_
      refine V_iret dX10_outputAt_34 rfl (nar_char (by omega)) ?_
      have e9 : fOutputAt S (i0 : Int) = (0, nI (S.2.2.2.1.getD i0 0), S) := by simp [fOutputAt, fCell, fLive, q2, cl_nat, b2, hi9, hi8]
      rw [e9]
      exact ⟨Or.inl ⟨rfl, rfl⟩, ⟨hC.1, hC.2.1, hC.2.2.1, hC.2.2.2.1, hC.2.2.2.2.1, hC.2.2.2.2.2⟩, Fr.nil⟩
    · refine V_throwW dX10_outputAt_15 dX10_outputAt_18 dX10_outputAt_19 dX10_outputAt_22 dX10_outputAt_25 thr_IOOBE (List.mem_of_getElem? (i := 31) rfl) rfl (Nat.le_of_ble_eq_true rfl) (by decide) (by decide) ?_
      have hz : ¬ (0 ≤ i ∧ i < (S.2.2.2.1.length : Int)) := by omega
      have e9 : fOutputAt S i = (1, 0, S) := by simp [fOutputAt, fCell, fLive, q2, cl_nat, b2, hz]
      rw [e9]
      exact ⟨Or.inr ⟨Nat.le_of_ble_eq_true rfl, rfl⟩, ⟨hC.1, hC.2.1, hC.2.2.1, hC.2.2.2.1, hC.2.2.2.2.1, hC.2.2.2.2.2⟩, Fr.nil⟩
set_option maxRecDepth 100000 in
set_option maxHeartbeats 1000000 in
theorem c_appendInput {q : Nat} {S : Sys} {w : Wd} (hC : CI w S) (hq : q < 65536) : Ct 1 MX10_appendInput 12 4 24 [.ref 0, .int (nI q)] w (PoF ["java/lang/IllegalArgumentException", "java/lang/IllegalStateException"] (fAppendInput S q) w) := by
  refine Ct_of (by decide +kernel) rfl (Nat.le_of_ble_eq_true rfl) rfl ?_
  obtain ⟨p0, v0, ro0, co0, nu0, wl0, cq0, pt0, rl0, hT⟩ := hC.2.2.2.2.1
  have hl60 := hT.2.1.1
  refine V_iload_n (i := 1) dX10_appendInput_0 rfl rfl ?_
  refine V_bipush_n (v := 32) dX10_appendInput_1 (by decide) ?_
  refine V_icmp_lt_n (tgt := 12) dX10_appendInput_3 (by decide) (by omega) (by omega) (fun h3 => ?_) (fun h3 => ?_)
  · refine V_throwW dX10_appendInput_12 dX10_appendInput_15 dX10_appendInput_16 dX10_appendInput_19 dX10_appendInput_22 thr_IAE (List.mem_of_getElem? (i := 32) rfl) rfl (Nat.le_of_ble_eq_true rfl) (by decide) (by decide) ?_
    have hz : ¬ (32 ≤ q ∧ q ≤ 126) := by omega
    have e9 : fAppendInput S q = (1, 0, S) := by simp [fAppendInput, fCell, fLive, q2, cl_nat, b2, hz]
    rw [e9]
    exact ⟨Or.inr ⟨Nat.le_of_ble_eq_true rfl, rfl⟩, ⟨hC.1, hC.2.1, hC.2.2.1, hC.2.2.2.1, hC.2.2.2.2.1, hC.2.2.2.2.2⟩, Fr.nil⟩
  · refine V_iload_n (i := 1) dX10_appendInput_6 rfl rfl ?_
    refine V_bipush_n (v := 126) dX10_appendInput_7 (by decide) ?_
    refine V_icmp_le_n (tgt := 23) dX10_appendInput_9 (by decide) (by omega) (by omega) (fun h9 => ?_) (fun h9 => ?_)
    · refine V_aload_n (i := 0) dX10_appendInput_23 rfl rfl ?_
      refine V_getC (k := 7) (q := 45) dX10_appendInput_24 (Or.inr ⟨rfl, Nat.le_of_ble_eq_true rfl⟩) rfl rfl rfl (Nat.le_of_ble_eq_true rfl) flRX10_53 ?_
      refine V_getI (k := 1) dX10_appendInput_27 (Or.inr ⟨rfl, Nat.le_of_ble_eq_true rfl⟩) rfl rfl rfl (Nat.le_of_ble_eq_true rfl) flRX10_338 ?_
      refine V_top (y := nI S.2.2.2.2.1.length) hT.1.1 ?_
      refine V_bipush_n (v := 60) dX10_appendInput_30 (by decide) ?_
      refine V_icmp_lt_n (tgt := 46) dX10_appendInput_32 (by decide) (by omega) (by omega) (fun h32 => ?_) (fun h32 => ?_)
      · refine V_aload_n (i := 0) dX10_appendInput_46 rfl rfl ?_
        refine V_getC (k := 7) (q := 45) dX10_appendInput_47 (Or.inr ⟨rfl, Nat.le_of_ble_eq_true rfl⟩) rfl rfl rfl (Nat.le_of_ble_eq_true rfl) flRX10_53 ?_
        refine V_iload_n (i := 1) dX10_appendInput_50 rfl rfl ?_
        refine V_callVM dX10_appendInput_51 (c_tappend hT (q := q) (by omega) (by omega)) okX1_append lkRX10_344 (Or.inr ⟨rfl, Nat.le_of_ble_eq_true rfl⟩) rfl rfl rfl rfl (Nat.le_of_ble_eq_true rfl) ⟨Nat.le_of_ble_eq_true rfl, Nat.le_of_ble_eq_true rfl⟩ rfl ?_
        intro u1 hu1
        refine V_aload_n (i := 0) dX10_appendInput_54 rfl rfl ?_
        refine V_getC (k := 7) (q := 45) dX10_appendInput_55 (Or.inr ⟨rfl, Nat.le_of_ble_eq_true rfl⟩) rfl rfl rfl (Nat.le_of_ble_eq_true rfl) flRX10_53 ?_
        refine V_getI (k := 1) dX10_appendInput_58 (Or.inr ⟨rfl, Nat.le_of_ble_eq_true rfl⟩) rfl rfl rfl (Nat.le_of_ble_eq_true rfl) flRX10_338 ?_
        refine V_top (y := nI (S.2.2.2.2.1 ++ [q]).length) hu1.1.1.1 ?_
        refine V_iret dX10_appendInput_61 rfl rfl ?_
        have hz : 32 ≤ q ∧ q ≤ 126 := by omega
        have hz2 : S.2.2.2.2.1.length < 60 := by omega
        have e9 : fAppendInput S q = (0, nI (S.2.2.2.2.1 ++ [q]).length, (wInp S (S.2.2.2.2.1 ++ [q]))) := by simp [fAppendInput, fCell, fLive, q2, cl_nat, b2, hz, hz2, List.length_append]
        rw [e9]
        exact ⟨Or.inl ⟨rfl, rfl⟩, ⟨(hC.1.keep hu1.2 (fun b hb => by unfold In45; omega)), (hC.2.1.keep hu1.2 (fun b hb => by unfold In45; omega)), (hC.2.2.1.keep hu1.2 (fun b hb => by unfold In45; omega)), (hC.2.2.2.1.keep hu1.2 (fun b hb => by unfold In45; omega)), (show ciT u1 (S.2.2.2.2.1 ++ [q]) from ⟨_, _, _, _, _, _, _, _, _, hu1.1⟩), (hC.2.2.2.2.2.keep hu1.2 (fun b hb => by unfold In45; omega))⟩, (hu1.2.mono (fun b hb => by unfold In45 at hb; unfold InC; omega))⟩
      · refine V_throwW dX10_appendInput_35 dX10_appendInput_38 dX10_appendInput_39 dX10_appendInput_42 dX10_appendInput_45 thr_ISE (List.mem_of_getElem? (i := 33) rfl) rfl (Nat.le_of_ble_eq_true rfl) (by decide) (by decide) ?_
        have hz : 32 ≤ q ∧ q ≤ 126 := by omega
        have hz2 : ¬ S.2.2.2.2.1.length < 60 := by omega
        have e9 : fAppendInput S q = (2, 0, S) := by simp [fAppendInput, fCell, fLive, q2, cl_nat, b2, hz, hz2]
        rw [e9]
        exact ⟨Or.inr ⟨Nat.le_of_ble_eq_true rfl, rfl⟩, ⟨hC.1, hC.2.1, hC.2.2.1, hC.2.2.2.1, hC.2.2.2.2.1, hC.2.2.2.2.2⟩, Fr.nil⟩
    · refine V_throwW dX10_appendInput_12 dX10_appendInput_15 dX10_appendInput_16 dX10_appendInput_19 dX10_appendInput_22 thr_IAE (List.mem_of_getElem? (i := 32) rfl) rfl (Nat.le_of_ble_eq_true rfl) (by decide) (by decide) ?_
      have hz : ¬ (32 ≤ q ∧ q ≤ 126) := by omega
      have e9 : fAppendInput S q = (1, 0, S) := by simp [fAppendInput, fCell, fLive, q2, cl_nat, b2, hz]
      rw [e9]
      exact ⟨Or.inr ⟨Nat.le_of_ble_eq_true rfl, rfl⟩, ⟨hC.1, hC.2.1, hC.2.2.1, hC.2.2.2.1, hC.2.2.2.2.1, hC.2.2.2.2.2⟩, Fr.nil⟩
set_option maxRecDepth 100000 in
set_option maxHeartbeats 1000000 in
theorem c_undo {S : Sys} {w : Wd} (hC : CI w S) : Ct 1 MX10_undo 12 4 24 [.ref 0] w (PoF ["java/lang/IllegalStateException"] (fUndo S) w) := by
  refine Ct_of (by decide +kernel) rfl (Nat.le_of_ble_eq_true rfl) rfl ?_
  have hsz := hC.2.1.1.2.1
  have hnx := hC.2.1.1.1
  refine V_aload_n (i := 0) dX10_undo_0 rfl rfl ?_
  refine V_getC (k := 3) (q := 10) dX10_undo_1 (Or.inr ⟨rfl, Nat.le_of_ble_eq_true rfl⟩) rfl rfl rfl (Nat.le_of_ble_eq_true rfl) flRX10_25 ?_
  refine V_getI (k := 2) dX10_undo_4 (Or.inr ⟨rfl, Nat.le_of_ble_eq_true rfl⟩) rfl rfl rfl (Nat.le_of_ble_eq_true rfl) flRX10_382 ?_
  refine V_top (y := nI S.2.1.2.1) hC.2.1.1.2.2.2.1 ?_
  refine V_if_ne_n (tgt := 21) dX10_undo_7 (by decide) (by omega) (fun h7 => ?_) (fun h7 => ?_)
  · refine V_aload_n (i := 0) dX10_undo_21 rfl rfl ?_
    refine V_getC (k := 3) (q := 10) dX10_undo_22 (Or.inr ⟨rfl, Nat.le_of_ble_eq_true rfl⟩) rfl rfl rfl (Nat.le_of_ble_eq_true rfl) flRX10_25 ?_
    refine V_aload_n (i := 0) dX10_undo_25 rfl rfl ?_
    refine V_getC (k := 0) (q := 1) dX10_undo_26 (Or.inr ⟨rfl, Nat.le_of_ble_eq_true rfl⟩) rfl rfl rfl (Nat.le_of_ble_eq_true rfl) flRX10_10 ?_
    refine V_callVM dX10_undo_29 (c_takeBack hC.2.1.1 (by omega) hC.1.1 (by omega)) okX2_takeBack lkRX10_386 (Or.inr ⟨rfl, Nat.le_of_ble_eq_true rfl⟩) rfl rfl rfl rfl (Nat.le_of_ble_eq_true rfl) ⟨Nat.le_of_ble_eq_true rfl, Nat.le_of_ble_eq_true rfl⟩ rfl ?_
    intro u1 hu1
    refine V_aload_n (i := 0) dX10_undo_32 rfl rfl ?_
    refine V_getC (k := 3) (q := 10) dX10_undo_33 (Or.inr ⟨rfl, Nat.le_of_ble_eq_true rfl⟩) rfl rfl rfl (Nat.le_of_ble_eq_true rfl) flRX10_25 ?_
    refine V_getI (k := 2) dX10_undo_36 (Or.inr ⟨rfl, Nat.le_of_ble_eq_true rfl⟩) rfl rfl rfl (Nat.le_of_ble_eq_true rfl) flRX10_382 ?_
    refine V_top (y := nI (S.2.1.2.1 - 1)) hu1.1.2.2.2.1 ?_
    refine V_iret dX10_undo_39 rfl rfl ?_
    have e9 : fUndo S = (0, nI (S.2.1.2.1 - 1), (S.2.1.2.2 (bkN S.2.1.1), (bkN S.2.1.1, S.2.1.2.1 - 1, S.2.1.2.2), S.2.2)) := by simp [fUndo, fCell, fLive, q2, cl_nat, b2, h7]
    rw [e9]
    exact ⟨Or.inl ⟨rfl, rfl⟩, ⟨(show ciR u1 (S.2.1.2.2 (bkN S.2.1.1)) from ⟨hu1.2.1, hC.2.1.2 _ (by unfold bkN; split <;> omega)⟩), (show ciH u1 (bkN S.2.1.1, S.2.1.2.1 - 1, S.2.1.2.2) from ⟨hu1.1, hC.2.1.2⟩), (hC.2.2.1.keep hu1.2.2 (fun b hb => by show ¬ (b = 10 ∨ InSt 1 b); unfold InSt; omega)), (hC.2.2.2.1.keep hu1.2.2 (fun b hb => by show ¬ (b = 10 ∨ InSt 1 b); unfold InSt; omega)), (hC.2.2.2.2.1.keep hu1.2.2 (fun b hb => by show ¬ (b = 10 ∨ InSt 1 b); unfold InSt; omega)), (hC.2.2.2.2.2.keep hu1.2.2 (fun b hb => by show ¬ (b = 10 ∨ InSt 1 b); unfold InSt; omega))⟩, (hu1.2.2.mono (fun b hb => by have hb2 : b = 10 ∨ InSt 1 b := hb; unfold InSt at hb2; unfold InC; omega))⟩
  · refine V_throwW dX10_undo_10 dX10_undo_13 dX10_undo_14 dX10_undo_17 dX10_undo_20 thr_ISE (List.mem_of_getElem? (i := 40) rfl) rfl (Nat.le_of_ble_eq_true rfl) (by decide) (by decide) ?_
    have e9 : fUndo S = (1, 0, S) := by simp [fUndo, fCell, fLive, q2, cl_nat, b2, h7]
    rw [e9]
    exact ⟨Or.inr ⟨Nat.le_of_ble_eq_true rfl, rfl⟩, ⟨hC.1, hC.2.1, hC.2.2.1, hC.2.2.2.1, hC.2.2.2.2.1, hC.2.2.2.2.2⟩, Fr.nil⟩
set_option maxRecDepth 100000 in
set_option maxHeartbeats 1000000 in
theorem c_saveSnapshot {S : Sys} {w : Wd} (hC : CI w S) : Ct 1 MX10_saveSnapshot 12 4 24 [.ref 0] w (PoF [] (fSaveSnapshot S) w) := by
  refine Ct_of (by decide +kernel) rfl (Nat.le_of_ble_eq_true rfl) rfl ?_
  refine V_aload_n (i := 0) dX10_saveSnapshot_0 rfl rfl ?_
  refine V_getC (k := 2) (q := 7) dX10_saveSnapshot_1 (Or.inr ⟨rfl, Nat.le_of_ble_eq_true rfl⟩) rfl rfl rfl (Nat.le_of_ble_eq_true rfl) flRX10_19 ?_
  refine V_aload_n (i := 0) dX10_saveSnapshot_4 rfl rfl ?_
  refine V_getC (k := 0) (q := 1) dX10_saveSnapshot_5 (Or.inr ⟨rfl, Nat.le_of_ble_eq_true rfl⟩) rfl rfl rfl (Nat.le_of_ble_eq_true rfl) flRX10_10 ?_
  refine V_callVM dX10_saveSnapshot_8 (c_copyFrom st_7 hC.1.1 (by decide)) okX8_copyFrom lkRX10_226 (Or.inr ⟨rfl, Nat.le_of_ble_eq_true rfl⟩) rfl rfl rfl rfl (Nat.le_of_ble_eq_true rfl) ⟨Nat.le_of_ble_eq_true rfl, Nat.le_of_ble_eq_true rfl⟩ rfl ?_
  intro u1 hu1
  refine V_aload_n (i := 0) dX10_saveSnapshot_11 rfl rfl ?_
  refine V_iconst_n (v := 1) dX10_saveSnapshot_12 (by decide) ?_
  refine V_putI (k := 8) (ty := .boolean) dX10_saveSnapshot_13 (Or.inr ⟨rfl, Nat.le_of_ble_eq_true rfl⟩) rfl rfl rfl (Nat.le_of_ble_eq_true rfl) flRX10_57 rfl (by decide +kernel) (nar_bool (by omega)) (fit_bool (by omega)) ?_
  refine V_aload_n (i := 0) dX10_saveSnapshot_16 rfl rfl ?_
  refine V_getC (k := 0) (q := 1) dX10_saveSnapshot_17 (Or.inr ⟨rfl, Nat.le_of_ble_eq_true rfl⟩) rfl rfl rfl (Nat.le_of_ble_eq_true rfl) flRX10_10 ?_
  refine V_bipush_n (v := 42) dX10_saveSnapshot_20 (by decide) ?_
  refine V_callVF dX10_saveSnapshot_22 (c_count ((hC.1.keep hu1.2 (fun b hb => by unfold InSt; omega)).keep (show Fr In0 _ _ from Fr.nil.i1 rfl) (fun b hb => by unfold In0; omega)).1 (q := 42) (by omega)) okX8_count lkRX10_101 (Or.inr ⟨rfl, Nat.le_of_ble_eq_true rfl⟩) rfl rfl rfl rfl (Nat.le_of_ble_eq_true rfl) ⟨Nat.le_of_ble_eq_true rfl, Nat.le_of_ble_eq_true rfl⟩ rfl ?_
  refine V_iret dX10_saveSnapshot_25 rfl rfl ?_
  have e9 : fSaveSnapshot S = (0, nI (cnt S.1.1 42), (S.1, S.2.1, (1, S.1), S.2.2.2)) := by simp [fSaveSnapshot, fCell, fLive, q2, cl_nat, b2]
  rw [e9]
  exact ⟨Or.inl ⟨rfl, rfl⟩, ⟨((hC.1.keep hu1.2 (fun b hb => by unfold InSt; omega)).keep (show Fr In0 _ _ from Fr.nil.i1 rfl) (fun b hb => by unfold In0; omega)), ((hC.2.1.keep hu1.2 (fun b hb => by unfold InSt; omega)).keep (show Fr In0 _ _ from Fr.nil.i1 rfl) (fun b hb => by unfold In0; omega)), ((show ciN u1 S.1 from ⟨hu1.1, hC.1.2⟩).keep (show Fr In0 _ _ from Fr.nil.i1 rfl) (fun b hb => by unfold In0; omega)), ((hC.2.2.2.1.keep hu1.2 (fun b hb => by unfold InSt; omega)).keep (show Fr In0 _ _ from Fr.nil.i1 rfl) (fun b hb => by unfold In0; omega)), ((hC.2.2.2.2.1.keep hu1.2 (fun b hb => by unfold InSt; omega)).keep (show Fr In0 _ _ from Fr.nil.i1 rfl) (fun b hb => by unfold In0; omega)), (show ci0 _ 1 S.2.2.2.2.2.1 S.2.2.2.2.2.2 from ⟨⟨pI_at, by decide⟩, ⟨pI_ne (by omega) (hC.2.2.2.2.2.keep hu1.2 (fun b hb => by unfold InSt; omega)).2.1.1, (hC.2.2.2.2.2.keep hu1.2 (fun b hb => by unfold InSt; omega)).2.1.2⟩, ⟨pI_ne (by omega) (hC.2.2.2.2.2.keep hu1.2 (fun b hb => by unfold InSt; omega)).2.2.1.1, (hC.2.2.2.2.2.keep hu1.2 (fun b hb => by unfold InSt; omega)).2.2.1.2⟩, pI_ne (by omega) (hC.2.2.2.2.2.keep hu1.2 (fun b hb => by unfold InSt; omega)).2.2.2.1, ⟨pI_ne (by omega) (hC.2.2.2.2.2.keep hu1.2 (fun b hb => by unfold InSt; omega)).2.2.2.2.1.1, (hC.2.2.2.2.2.keep hu1.2 (fun b hb => by unfold InSt; omega)).2.2.2.2.1.2⟩, (hC.2.2.2.2.2.keep hu1.2 (fun b hb => by unfold InSt; omega)).2.2.2.2.2⟩)⟩, ((hu1.2.mono (fun b hb => by unfold InSt at hb; unfold InC; omega)).i1 (show InC 0 from by unfold InC; omega))⟩
set_option maxRecDepth 100000 in
set_option maxHeartbeats 1000000 in
theorem c_restoreSnapshot {S : Sys} {w : Wd} (hC : CI w S) : Ct 1 MX10_restoreSnapshot 12 4 24 [.ref 0] w (PoF ["java/lang/IllegalStateException"] (fRestoreSnapshot S) w) := by
  refine Ct_of (by decide +kernel) rfl (Nat.le_of_ble_eq_true rfl) rfl ?_
  have hhs := hC.2.2.2.2.2.1.2
  refine V_aload_n (i := 0) dX10_restoreSnapshot_0 rfl rfl ?_
  refine V_getI (k := 8) dX10_restoreSnapshot_1 (Or.inr ⟨rfl, Nat.le_of_ble_eq_true rfl⟩) rfl rfl rfl (Nat.le_of_ble_eq_true rfl) flRX10_57 ?_
  refine V_top (y := nI S.2.2.1.1) hC.2.2.2.2.2.1.1 ?_
  refine V_if_ne_n (tgt := 18) dX10_restoreSnapshot_4 (by decide) (by omega) (fun h4 => ?_) (fun h4 => ?_)
  · refine V_aload_n (i := 0) dX10_restoreSnapshot_18 rfl rfl ?_
    refine V_getC (k := 0) (q := 1) dX10_restoreSnapshot_19 (Or.inr ⟨rfl, Nat.le_of_ble_eq_true rfl⟩) rfl rfl rfl (Nat.le_of_ble_eq_true rfl) flRX10_10 ?_
    refine V_aload_n (i := 0) dX10_restoreSnapshot_22 rfl rfl ?_
    refine V_getC (k := 2) (q := 7) dX10_restoreSnapshot_23 (Or.inr ⟨rfl, Nat.le_of_ble_eq_true rfl⟩) rfl rfl rfl (Nat.le_of_ble_eq_true rfl) flRX10_19 ?_
    refine V_callVM dX10_restoreSnapshot_26 (c_copyFrom st_1 hC.2.2.1.1 (by decide)) okX8_copyFrom lkRX10_226 (Or.inr ⟨rfl, Nat.le_of_ble_eq_true rfl⟩) rfl rfl rfl rfl (Nat.le_of_ble_eq_true rfl) ⟨Nat.le_of_ble_eq_true rfl, Nat.le_of_ble_eq_true rfl⟩ rfl ?_
    intro u1 hu1
    refine V_aload_n (i := 0) dX10_restoreSnapshot_29 rfl rfl ?_
    refine V_getC (k := 3) (q := 10) dX10_restoreSnapshot_30 (Or.inr ⟨rfl, Nat.le_of_ble_eq_true rfl⟩) rfl rfl rfl (Nat.le_of_ble_eq_true rfl) flRX10_25 ?_
    refine V_callVM dX10_restoreSnapshot_33 (c_forget (hC.2.1.keep hu1.2 (fun b hb => by unfold InSt; omega)).1) okX2_forget lkRX10_391 (Or.inr ⟨rfl, Nat.le_of_ble_eq_true rfl⟩) rfl rfl rfl rfl (Nat.le_of_ble_eq_true rfl) ⟨Nat.le_of_ble_eq_true rfl, Nat.le_of_ble_eq_true rfl⟩ rfl ?_
    intro u2 hu2
    refine V_aload_n (i := 0) dX10_restoreSnapshot_36 rfl rfl ?_
    refine V_getC (k := 0) (q := 1) dX10_restoreSnapshot_37 (Or.inr ⟨rfl, Nat.le_of_ble_eq_true rfl⟩) rfl rfl rfl (Nat.le_of_ble_eq_true rfl) flRX10_10 ?_
    refine V_bipush_n (v := 42) dX10_restoreSnapshot_40 (by decide) ?_
    refine V_callVF dX10_restoreSnapshot_42 (c_count ((show ciR u1 S.2.2.1.2 from ⟨hu1.1, hC.2.2.1.2⟩).keep hu2.2 (fun b hb => by unfold InH; omega)).1 (q := 42) (by omega)) okX8_count lkRX10_101 (Or.inr ⟨rfl, Nat.le_of_ble_eq_true rfl⟩) rfl rfl rfl rfl (Nat.le_of_ble_eq_true rfl) ⟨Nat.le_of_ble_eq_true rfl, Nat.le_of_ble_eq_true rfl⟩ rfl ?_
    refine V_iret dX10_restoreSnapshot_45 rfl rfl ?_
    have e9 : fRestoreSnapshot S = (0, nI (cnt S.2.2.1.2.1 42), (S.2.2.1.2, (S.2.1.1, 0, S.2.1.2.2), S.2.2)) := by simp [fRestoreSnapshot, fCell, fLive, q2, cl_nat, b2, h4]
    rw [e9]
    exact ⟨Or.inl ⟨rfl, rfl⟩, ⟨((show ciR u1 S.2.2.1.2 from ⟨hu1.1, hC.2.2.1.2⟩).keep hu2.2 (fun b hb => by unfold InH; omega)), (show ciH u2 (S.2.1.1, 0, S.2.1.2.2) from ⟨hu2.1, (hC.2.1.keep hu1.2 (fun b hb => by unfold InSt; omega)).2⟩), ((hC.2.2.1.keep hu1.2 (fun b hb => by unfold InSt; omega)).keep hu2.2 (fun b hb => by unfold InH; omega)), ((hC.2.2.2.1.keep hu1.2 (fun b hb => by unfold InSt; omega)).keep hu2.2 (fun b hb => by unfold InH; omega)), ((hC.2.2.2.2.1.keep hu1.2 (fun b hb => by unfold InSt; omega)).keep hu2.2 (fun b hb => by unfold InH; omega)), ((hC.2.2.2.2.2.keep hu1.2 (fun b hb => by unfold InSt; omega)).keep hu2.2 (fun b hb => by unfold InH; omega))⟩, ((hu1.2.mono (fun b hb => by unfold InSt at hb; unfold InC; omega)).trans (hu2.2.mono (fun b hb => by unfold InH at hb; unfold InC; omega)))⟩
  · refine V_throwW dX10_restoreSnapshot_7 dX10_restoreSnapshot_10 dX10_restoreSnapshot_11 dX10_restoreSnapshot_14 dX10_restoreSnapshot_17 thr_ISE (List.mem_of_getElem? (i := 41) rfl) rfl (Nat.le_of_ble_eq_true rfl) (by decide) (by decide) ?_
    have e9 : fRestoreSnapshot S = (1, 0, S) := by simp [fRestoreSnapshot, fCell, fLive, q2, cl_nat, b2, h4]
    rw [e9]
    exact ⟨Or.inr ⟨Nat.le_of_ble_eq_true rfl, rfl⟩, ⟨hC.1, hC.2.1, hC.2.2.1, hC.2.2.2.1, hC.2.2.2.2.1, hC.2.2.2.2.2⟩, Fr.nil⟩
set_option maxRecDepth 100000 in
set_option maxHeartbeats 1000000 in
theorem c_hasBalancedTotals {s : St} {w : Wd} (hR : Repr w 1 s) (hB : Bal s) : Ct 1 MX8_hasBalancedTotals 4 0 0 [.ref 1] w (Rt (some (.int (nI 1))) w) := by
  refine Ct_of (by decide +kernel) rfl (Nat.le_of_ble_eq_true rfl) rfl ?_
  have lp : ∀ (fu i : Nat) , i ≤ 4 → 4 - i < fu → V 1 MX8_hasBalancedTotals 4 0 0 (Rt (some (.int (nI 1))) w) (fun _ _ => True) 0 0 9 [some (.ref 1), some (.int (nI (cnt s.1 35 + sm (fun i => cnt s.1 (97 + i)) i))), some (.int (nI i))] [] w := by
    intro fu
    induction fu with
    | zero => intro i  h1 h2; omega
    | succ fu ih =>
      intro i  hib hfu
      have hb1 : cnt s.1 35 ≤ 64 := cnt_le
      have hb2 : cnt s.1 (97 + i) ≤ 64 := cnt_le
      have hb3 := sm_le (f := (fun i => cnt s.1 (97 + i))) (c := 64) (fun _ => cnt_le) i
      have e1 : sm (fun i => cnt s.1 (97 + i)) (i + 1) = sm (fun i => cnt s.1 (97 + i)) i + cnt s.1 (97 + i) := rfl
      refine V_iload_n (i := 2) dX8_hasBalancedTotals_9 rfl rfl ?_
      refine V_iconst_n (v := 4) dX8_hasBalancedTotals_10 (by decide) ?_
      refine V_icmp_ge_n (tgt := 31) dX8_hasBalancedTotals_11 (by decide) (by omega) (by omega) (fun h11 => ?_) (fun h11 => ?_)
      · obtain rfl : i = 4 := by omega
        have hbal : s.2.2 1 + s.2.2 3 - s.2.2 2 - s.2.2 5 = nI (cnt s.1 35 + sm (fun i => cnt s.1 (97 + i)) 4) := hB.trans (congrArg nI (by rw [nbt_kinds hR.2.1]; show _ = cnt s.1 35 + (0 + cnt s.1 97 + cnt s.1 98 + cnt s.1 99 + cnt s.1 100); omega))
        refine V_aload_n (i := 0) dX8_hasBalancedTotals_31 rfl rfl ?_
        refine V_getI (k := 4) dX8_hasBalancedTotals_32 (Or.inr ⟨rfl, Nat.le_of_ble_eq_true rfl⟩) rfl rfl rfl (Nat.le_of_ble_eq_true rfl) flRX8_32 ?_
        refine V_top (y := (s.2.2 1)) (hR.2.2.2.2.2.2 1 (by decide)) ?_
        refine V_aload_n (i := 0) dX8_hasBalancedTotals_35 rfl rfl ?_
        refine V_getI (k := 6) dX8_hasBalancedTotals_36 (Or.inr ⟨rfl, Nat.le_of_ble_eq_true rfl⟩) rfl rfl rfl (Nat.le_of_ble_eq_true rfl) flRX8_38 ?_
        refine V_top (y := (s.2.2 3)) (hR.2.2.2.2.2.2 3 (by decide)) ?_
        refine V_iadd dX8_hasBalancedTotals_39 ?_
        refine V_aload_n (i := 0) dX8_hasBalancedTotals_40 rfl rfl ?_
        refine V_getI (k := 5) dX8_hasBalancedTotals_41 (Or.inr ⟨rfl, Nat.le_of_ble_eq_true rfl⟩) rfl rfl rfl (Nat.le_of_ble_eq_true rfl) flRX8_35 ?_
        refine V_top (y := (s.2.2 2)) (hR.2.2.2.2.2.2 2 (by decide)) ?_
        refine V_isub dX8_hasBalancedTotals_44 ?_
        refine V_aload_n (i := 0) dX8_hasBalancedTotals_45 rfl rfl ?_
        refine V_getI (k := 8) dX8_hasBalancedTotals_46 (Or.inr ⟨rfl, Nat.le_of_ble_eq_true rfl⟩) rfl rfl rfl (Nat.le_of_ble_eq_true rfl) flRX8_44 ?_
        refine V_top (y := (s.2.2 5)) (hR.2.2.2.2.2.2 5 (by decide)) ?_
        refine V_isub dX8_hasBalancedTotals_49 ?_
        refine V_iload_n (i := 1) dX8_hasBalancedTotals_50 rfl rfl ?_
        refine V_icmp_ne (tgt := 58) dX8_hasBalancedTotals_51 (by decide) (fun h51 => by exfalso; exact h51 hbal) (fun h51 => ?_)
        refine V_iconst_n (v := 1) dX8_hasBalancedTotals_54 (by decide) ?_
        refine V_goto (tgt := 59) dX8_hasBalancedTotals_55 (by decide) ?_
        refine V_iret dX8_hasBalancedTotals_59 rfl (nar_bool (by omega)) ?_
        exact ⟨rfl, rfl⟩
      · refine V_iload_n (i := 1) dX8_hasBalancedTotals_14 rfl rfl ?_
        refine V_aload_n (i := 0) dX8_hasBalancedTotals_15 rfl rfl ?_
        refine V_iload_n (i := 2) dX8_hasBalancedTotals_16 rfl rfl ?_
        refine V_callSNF (host := "ButtonReef") dX8_hasBalancedTotals_17 (c_colourNumbered (i := i) (by omega)) okX10_colourNumbered (by decide +kernel) rfl rfl (Nat.le_of_ble_eq_true rfl) ⟨Nat.le_of_ble_eq_true rfl, Nat.le_of_ble_eq_true rfl⟩ rfl ?_
        refine V_callVF dX8_hasBalancedTotals_20 (c_count hR (q := (97 + i)) (by omega)) okX8_count lkRX8_84 (Or.inr ⟨rfl, Nat.le_of_ble_eq_true rfl⟩) rfl rfl rfl rfl (Nat.le_of_ble_eq_true rfl) ⟨Nat.le_of_ble_eq_true rfl, Nat.le_of_ble_eq_true rfl⟩ rfl ?_
        refine V_iadd_n dX8_hasBalancedTotals_23 ?_
        refine V_istore_n (i := 1) dX8_hasBalancedTotals_24 rfl (Nat.le_of_ble_eq_true rfl) rfl rfl ?_
        refine V_iinc_n (b := (i + 1)) dX8_hasBalancedTotals_25 rfl (nI_add _ _) rfl rfl ?_
        refine V_goto (tgt := 9) dX8_hasBalancedTotals_28 (by decide) ?_
        have k9 := ih (i + 1) (by omega) (by omega)
        rw [e1, ← Nat.add_assoc] at k9
        exact k9
  refine V_aload_n (i := 0) dX8_hasBalancedTotals_0 rfl rfl ?_
  refine V_bipush_n (v := 35) dX8_hasBalancedTotals_1 (by decide) ?_
  refine V_callVF dX8_hasBalancedTotals_3 (c_count hR (q := 35) (by omega)) okX8_count lkRX8_84 (Or.inr ⟨rfl, Nat.le_of_ble_eq_true rfl⟩) rfl rfl rfl rfl (Nat.le_of_ble_eq_true rfl) ⟨Nat.le_of_ble_eq_true rfl, Nat.le_of_ble_eq_true rfl⟩ rfl ?_
  refine V_istore_n (i := 1) dX8_hasBalancedTotals_6 rfl (Nat.le_of_ble_eq_true rfl) rfl rfl ?_
  refine V_iconst_n (v := 0) dX8_hasBalancedTotals_7 (by decide) ?_
  refine V_istore_n (i := 2) dX8_hasBalancedTotals_8 rfl (Nat.le_of_ble_eq_true rfl) rfl rfl ?_
  exact lp 5 0 (by omega) (by omega)
set_option maxRecDepth 100000 in
set_option maxHeartbeats 1000000 in
theorem c_hasFittingAges {s : St} {w : Wd} (hR : Repr w 1 s) : Ct 1 MX8_hasFittingAges 2 0 0 [.ref 1] w (Rt (some (.int (nI 1))) w) := by
  refine Ct_of (by decide +kernel) rfl (Nat.le_of_ble_eq_true rfl) rfl ?_
  have lp : ∀ (fu i : Nat) , i ≤ 64 → 64 - i < fu → V 1 MX8_hasFittingAges 2 0 0 (Rt (some (.int (nI 1))) w) (fun _ _ => True) 0 0 4 [some (.ref 1), some (.int (nI 1)), some (.int (nI i)), none] [] w := by
    intro fu
    induction fu with
    | zero => intro i  h1 h2; omega
    | succ fu ih =>
      intro i  hib hfu
      refine V_iload_n (i := 2) dX8_hasFittingAges_4 rfl rfl ?_
      refine V_bipush_n (v := 64) dX8_hasFittingAges_5 (by decide) ?_
      refine V_icmp_ge_n (tgt := 64) dX8_hasFittingAges_7 (by decide) (by omega) (by omega) (fun h7 => ?_) (fun h7 => ?_)
      · refine V_iload_n (i := 1) dX8_hasFittingAges_64 rfl rfl ?_
        refine V_iret dX8_hasFittingAges_65 rfl (nar_bool (by omega)) ?_
        exact ⟨rfl, rfl⟩
      · have hk9 := kc_lt (hR.2.1 i (by omega))
        have hag := @ag_lt (s.1 i)
        have hkl := kc_live (hR.2.1 i (by omega))
        refine V_aload_n (i := 0) dX8_hasFittingAges_10 rfl rfl ?_
        refine V_getC (k := 0) (q := 2) dX8_hasFittingAges_11 (Or.inr ⟨rfl, Nat.le_of_ble_eq_true rfl⟩) rfl rfl rfl (Nat.le_of_ble_eq_true rfl) flRX8_9 ?_
        refine V_iload_n (i := 2) dX8_hasFittingAges_14 rfl rfl ?_
        refine V_cald_n (i := i) dX8_hasFittingAges_15 (Or.inr ⟨rfl, Nat.le_of_ble_eq_true rfl⟩) rfl (by omega) (by decide) ?_
        refine V_top (y := nI (kc (s.1 i))) (hR.2.2.1 i (by omega)) ?_
        refine V_callSNF (host := "ButtonReef") dX8_hasFittingAges_16 (c_isColour (q := (kc (s.1 i))) (by omega)) okX10_isColour (by decide +kernel) rfl rfl (Nat.le_of_ble_eq_true rfl) ⟨Nat.le_of_ble_eq_true rfl, Nat.le_of_ble_eq_true rfl⟩ rfl ?_
        refine V_if_eq_n (tgt := 27) dX8_hasFittingAges_19 (by decide) (Nat.lt_of_lt_of_le ite_le (by decide)) (fun h19 => ?_) (fun h19 => ?_)
        · have hnl := ite_f h19
          have ha0 : ag (s.1 i) = 0 := ag_0 (by omega)
          refine V_iconst_n (v := 0) dX8_hasFittingAges_27 (by decide) ?_
          refine V_istore_n (i := 3) dX8_hasFittingAges_28 rfl (Nat.le_of_ble_eq_true rfl) rfl rfl ?_
          refine V_iload_n (i := 1) dX8_hasFittingAges_29 rfl rfl ?_
          refine V_if_eq_n (tgt := 56) dX8_hasFittingAges_30 (by decide) (by omega) (fun h30 => by exfalso; omega) (fun h30 => ?_)
          refine V_aload_n (i := 0) dX8_hasFittingAges_33 rfl rfl ?_
          refine V_getC (k := 1) (q := 3) dX8_hasFittingAges_34 (Or.inr ⟨rfl, Nat.le_of_ble_eq_true rfl⟩) rfl rfl rfl (Nat.le_of_ble_eq_true rfl) flRX8_15 ?_
          refine V_iload_n (i := 2) dX8_hasFittingAges_37 rfl rfl ?_
          refine V_iald_n (i := i) dX8_hasFittingAges_38 (Or.inr ⟨rfl, Nat.le_of_ble_eq_true rfl⟩) rfl (by omega) (by decide) ?_
          refine V_top (y := nI (ag (s.1 i))) (hR.2.2.2.1 i (by omega)) ?_
          refine V_if_lt_n (tgt := 56) dX8_hasFittingAges_39 (by decide) (by omega) ?_
          refine V_aload_n (i := 0) dX8_hasFittingAges_42 rfl rfl ?_
          refine V_getC (k := 1) (q := 3) dX8_hasFittingAges_43 (Or.inr ⟨rfl, Nat.le_of_ble_eq_true rfl⟩) rfl rfl rfl (Nat.le_of_ble_eq_true rfl) flRX8_15 ?_
          refine V_iload_n (i := 2) dX8_hasFittingAges_46 rfl rfl ?_
          refine V_iald_n (i := i) dX8_hasFittingAges_47 (Or.inr ⟨rfl, Nat.le_of_ble_eq_true rfl⟩) rfl (by omega) (by decide) ?_
          refine V_top (y := nI (ag (s.1 i))) (hR.2.2.2.1 i (by omega)) ?_
          refine V_iload_n (i := 3) dX8_hasFittingAges_48 rfl rfl ?_
          refine V_icmp_gt_n (tgt := 56) dX8_hasFittingAges_49 (by decide) (by omega) (by omega) (fun h49 => by exfalso; omega) (fun h49 => ?_)
          refine V_iconst_n (v := 1) dX8_hasFittingAges_52 (by decide) ?_
          refine V_goto (tgt := 57) dX8_hasFittingAges_53 (by decide) ?_
          refine V_istore_n (i := 1) dX8_hasFittingAges_57 rfl (Nat.le_of_ble_eq_true rfl) rfl rfl ?_
          refine V_iinc_n (b := (i + 1)) dX8_hasFittingAges_58 rfl (nI_add _ _) rfl rfl ?_
          refine V_goto (tgt := 4) dX8_hasFittingAges_61 (by decide) ?_
          exact (ih (i + 1) (by omega) (by omega)).sub (by repeat' (first | exact trivial | exact rfl | constructor))
        · have ha9 : ag (s.1 i) ≤ 9 := by omega
          refine V_bipush_n (v := 9) dX8_hasFittingAges_22 (by decide) ?_
          refine V_goto (tgt := 28) dX8_hasFittingAges_24 (by decide) ?_
          refine V_istore_n (i := 3) dX8_hasFittingAges_28 rfl (Nat.le_of_ble_eq_true rfl) rfl rfl ?_
          refine V_iload_n (i := 1) dX8_hasFittingAges_29 rfl rfl ?_
          refine V_if_eq_n (tgt := 56) dX8_hasFittingAges_30 (by decide) (by omega) (fun h30 => by exfalso; omega) (fun h30 => ?_)
          refine V_aload_n (i := 0) dX8_hasFittingAges_33 rfl rfl ?_
          refine V_getC (k := 1) (q := 3) dX8_hasFittingAges_34 (Or.inr ⟨rfl, Nat.le_of_ble_eq_true rfl⟩) rfl rfl rfl (Nat.le_of_ble_eq_true rfl) flRX8_15 ?_
          refine V_iload_n (i := 2) dX8_hasFittingAges_37 rfl rfl ?_
          refine V_iald_n (i := i) dX8_hasFittingAges_38 (Or.inr ⟨rfl, Nat.le_of_ble_eq_true rfl⟩) rfl (by omega) (by decide) ?_
          refine V_top (y := nI (ag (s.1 i))) (hR.2.2.2.1 i (by omega)) ?_
          refine V_if_lt_n (tgt := 56) dX8_hasFittingAges_39 (by decide) (by omega) ?_
          refine V_aload_n (i := 0) dX8_hasFittingAges_42 rfl rfl ?_
          refine V_getC (k := 1) (q := 3) dX8_hasFittingAges_43 (Or.inr ⟨rfl, Nat.le_of_ble_eq_true rfl⟩) rfl rfl rfl (Nat.le_of_ble_eq_true rfl) flRX8_15 ?_
          refine V_iload_n (i := 2) dX8_hasFittingAges_46 rfl rfl ?_
          refine V_iald_n (i := i) dX8_hasFittingAges_47 (Or.inr ⟨rfl, Nat.le_of_ble_eq_true rfl⟩) rfl (by omega) (by decide) ?_
          refine V_top (y := nI (ag (s.1 i))) (hR.2.2.2.1 i (by omega)) ?_
          refine V_iload_n (i := 3) dX8_hasFittingAges_48 rfl rfl ?_
          refine V_icmp_gt_n (tgt := 56) dX8_hasFittingAges_49 (by decide) (by omega) (by omega) (fun h49 => by exfalso; omega) (fun h49 => ?_)
          refine V_iconst_n (v := 1) dX8_hasFittingAges_52 (by decide) ?_
          refine V_goto (tgt := 57) dX8_hasFittingAges_53 (by decide) ?_
          refine V_istore_n (i := 1) dX8_hasFittingAges_57 rfl (Nat.le_of_ble_eq_true rfl) rfl rfl ?_
          refine V_iinc_n (b := (i + 1)) dX8_hasFittingAges_58 rfl (nI_add _ _) rfl rfl ?_
          refine V_goto (tgt := 4) dX8_hasFittingAges_61 (by decide) ?_
          exact (ih (i + 1) (by omega) (by omega)).sub (by repeat' (first | exact trivial | exact rfl | constructor))
  refine V_iconst_n (v := 1) dX8_hasFittingAges_0 (by decide) ?_
  refine V_istore_n (i := 1) dX8_hasFittingAges_1 rfl (Nat.le_of_ble_eq_true rfl) rfl rfl ?_
  refine V_iconst_n (v := 0) dX8_hasFittingAges_2 (by decide) ?_
  refine V_istore_n (i := 2) dX8_hasFittingAges_3 rfl (Nat.le_of_ble_eq_true rfl) rfl rfl ?_
  exact (lp 65 0 (by omega) (by omega)).sub (by repeat' (first | exact trivial | exact rfl | constructor))
set_option maxRecDepth 100000 in
set_option maxHeartbeats 1000000 in
theorem c_isConsistent {S : Sys} {w : Wd} (hC : CI w S) : Ct 1 MX10_isConsistent 12 4 24 [.ref 0] w (PoF [] (fIsConsistent S) w) := by
  refine Ct_of (by decide +kernel) rfl (Nat.le_of_ble_eq_true rfl) rfl ?_
  have lp : ∀ (fu i : Nat) (w1 : Wd), i ≤ ns (H0 S) 64 → ns (H0 S) 64 - i < fu → MkW w1 (fmi (H0 S) 64) → CI w1 S → Fr InC w w1 → V 1 MX10_isConsistent 12 4 24 (PoF [] (fIsConsistent S) w) (fun _ _ => True) 4 24 18 [some (.ref 0), some (.int (nI (ns (H0 S) 64))), some (.int (nI (sm (fun m => szi (H0 S) (m + 1)) i))), some (.int (nI (i + 1)))] [] w1 := by
    intro fu
    induction fu with
    | zero => intro i w1 h1 h2; omega
    | succ fu ih =>
      intro i w1 hib hfu hM1 hC1 hF1
      have hns := ns_le (H := (H0 S)) 64
      have hs1 := @szi_le (H0 S) (i + 1)
      have hs2 := sm_le (f := (fun m => szi (H0 S) (m + 1))) (c := 64) (fun _ => szi_le) i
      have hc64 : cnt S.1.1 42 ≤ 64 := cnt_le
      have e1 : sm (fun m => szi (H0 S) (m + 1)) (i + 1) = sm (fun m => szi (H0 S) (m + 1)) i + szi (H0 S) (i + 1) := rfl
      refine V_iload_n (i := 3) dX10_isConsistent_18 rfl rfl ?_
      refine V_iload_n (i := 1) dX10_isConsistent_19 rfl rfl ?_
      refine V_icmp_gt_n (tgt := 40) dX10_isConsistent_20 (by decide) (by omega) (by omega) (fun h20 => ?_) (fun h20 => ?_)
      · have ei : i = ns (H0 S) 64 := by omega
        have esum : sm (fun m => szi (H0 S) (m + 1)) i = cnt S.1.1 42 := by rw [ei]; exact isl_sum (H0 S)
        refine V_iload_n (i := 2) dX10_isConsistent_40 rfl rfl ?_
        refine V_aload_n (i := 0) dX10_isConsistent_41 rfl rfl ?_
        refine V_getC (k := 0) (q := 1) dX10_isConsistent_42 (Or.inr ⟨rfl, Nat.le_of_ble_eq_true rfl⟩) rfl rfl rfl (Nat.le_of_ble_eq_true rfl) flRX10_10 ?_
        refine V_bipush_n (v := 42) dX10_isConsistent_45 (by decide) ?_
        refine V_callVF dX10_isConsistent_47 (c_count hC1.1.1 (q := 42) (by omega)) okX8_count lkRX10_101 (Or.inr ⟨rfl, Nat.le_of_ble_eq_true rfl⟩) rfl rfl rfl rfl (Nat.le_of_ble_eq_true rfl) ⟨Nat.le_of_ble_eq_true rfl, Nat.le_of_ble_eq_true rfl⟩ rfl ?_
        refine V_icmp_ne_n (tgt := 92) dX10_isConsistent_50 (by decide) (by omega) (by omega) (fun h50 => by exfalso; omega) (fun h50 => ?_)
        refine V_iload_n (i := 1) dX10_isConsistent_53 rfl rfl ?_
        refine V_aload_n (i := 0) dX10_isConsistent_54 rfl rfl ?_
        refine V_getC (k := 5) (q := 40) dX10_isConsistent_55 (Or.inr ⟨rfl, Nat.le_of_ble_eq_true rfl⟩) rfl rfl rfl (Nat.le_of_ble_eq_true rfl) flRX10_39 ?_
        refine V_aload_n (i := 0) dX10_isConsistent_58 rfl rfl ?_
        refine V_getC (k := 0) (q := 1) dX10_isConsistent_59 (Or.inr ⟨rfl, Nat.le_of_ble_eq_true rfl⟩) rfl rfl rfl (Nat.le_of_ble_eq_true rfl) flRX10_10 ?_
        refine V_callVM dX10_isConsistent_62 (c_merge hC1.1.1) okX3_merge lkRX10_199 (Or.inr ⟨rfl, Nat.le_of_ble_eq_true rfl⟩) rfl rfl rfl rfl (Nat.le_of_ble_eq_true rfl) ⟨Nat.le_of_ble_eq_true rfl, Nat.le_of_ble_eq_true rfl⟩ rfl ?_
        intro u1 hu1
        refine V_top (y := nI (ns (H0 S) 64)) rfl ?_
        refine V_icmp_ne_n (tgt := 92) dX10_isConsistent_65 (by decide) (by omega) (by omega) (fun h65 => by exfalso; omega) (fun h65 => ?_)
        refine V_aload_n (i := 0) dX10_isConsistent_68 rfl rfl ?_
        refine V_getC (k := 0) (q := 1) dX10_isConsistent_69 (Or.inr ⟨rfl, Nat.le_of_ble_eq_true rfl⟩) rfl rfl rfl (Nat.le_of_ble_eq_true rfl) flRX10_10 ?_
        refine V_callVF dX10_isConsistent_72 (c_hasBalancedTotals (hC1.1.keep hu1 (fun b hb => by unfold InI; omega)).1 (hC1.1.keep hu1 (fun b hb => by unfold InI; omega)).2) okX8_hasBalancedTotals lkRX10_288 (Or.inr ⟨rfl, Nat.le_of_ble_eq_true rfl⟩) rfl rfl rfl rfl (Nat.le_of_ble_eq_true rfl) ⟨Nat.le_of_ble_eq_true rfl, Nat.le_of_ble_eq_true rfl⟩ rfl ?_
        refine V_if_eq_n (tgt := 92) dX10_isConsistent_75 (by decide) (by omega) (fun h75 => by exfalso; omega) (fun h75 => ?_)
        refine V_aload_n (i := 0) dX10_isConsistent_78 rfl rfl ?_
        refine V_getC (k := 0) (q := 1) dX10_isConsistent_79 (Or.inr ⟨rfl, Nat.le_of_ble_eq_true rfl⟩) rfl rfl rfl (Nat.le_of_ble_eq_true rfl) flRX10_10 ?_
        refine V_callVF dX10_isConsistent_82 (c_hasFittingAges (hC1.1.keep hu1 (fun b hb => by unfold InI; omega)).1) okX8_hasFittingAges lkRX10_291 (Or.inr ⟨rfl, Nat.le_of_ble_eq_true rfl⟩) rfl rfl rfl rfl (Nat.le_of_ble_eq_true rfl) ⟨Nat.le_of_ble_eq_true rfl, Nat.le_of_ble_eq_true rfl⟩ rfl ?_
        refine V_if_eq_n (tgt := 92) dX10_isConsistent_85 (by decide) (by omega) (fun h85 => by exfalso; omega) (fun h85 => ?_)
        refine V_iconst_n (v := 1) dX10_isConsistent_88 (by decide) ?_
        refine V_goto (tgt := 93) dX10_isConsistent_89 (by decide) ?_
        refine V_iret dX10_isConsistent_93 rfl (nar_bool (by omega)) ?_
        have e9 : fIsConsistent S = (0, nI 1, S) := by simp [fIsConsistent, fCell, fLive, q2, cl_nat, b2]
        rw [e9]
        exact ⟨Or.inl ⟨rfl, rfl⟩, ⟨(hC1.1.keep hu1 (fun b hb => by unfold InI; omega)), (hC1.2.1.keep hu1 (fun b hb => by unfold InI; omega)), (hC1.2.2.1.keep hu1 (fun b hb => by unfold InI; omega)), (hC1.2.2.2.1.keep hu1 (fun b hb => by unfold InI; omega)), (hC1.2.2.2.2.1.keep hu1 (fun b hb => by unfold InI; omega)), (hC1.2.2.2.2.2.keep hu1 (fun b hb => by unfold InI; omega))⟩, (hF1.trans (hu1.mono (fun b hb => by unfold InI at hb; unfold InC; omega)))⟩
      · refine V_iload_n (i := 2) dX10_isConsistent_23 rfl rfl ?_
        refine V_aload_n (i := 0) dX10_isConsistent_24 rfl rfl ?_
        refine V_getC (k := 5) (q := 40) dX10_isConsistent_25 (Or.inr ⟨rfl, Nat.le_of_ble_eq_true rfl⟩) rfl rfl rfl (Nat.le_of_ble_eq_true rfl) flRX10_39 ?_
        refine V_iload_n (i := 3) dX10_isConsistent_28 rfl rfl ?_
        refine V_callVF dX10_isConsistent_29 (c_sizeOf hM1 (m := (i + 1)) (by omega)) okX3_sizeOf lkRX10_206 (Or.inr ⟨rfl, Nat.le_of_ble_eq_true rfl⟩) rfl rfl rfl rfl (Nat.le_of_ble_eq_true rfl) ⟨Nat.le_of_ble_eq_true rfl, Nat.le_of_ble_eq_true rfl⟩ rfl ?_
        refine V_top (y := nI (szi (H0 S) (i + 1))) rfl ?_
        refine V_iadd_n dX10_isConsistent_32 ?_
        refine V_istore_n (i := 2) dX10_isConsistent_33 rfl (Nat.le_of_ble_eq_true rfl) rfl rfl ?_
        refine V_iinc_n (b := ((i + 1) + 1)) dX10_isConsistent_34 rfl (nI_add _ _) rfl rfl ?_
        refine V_goto (tgt := 18) dX10_isConsistent_37 (by decide) ?_
        have k9 := ih (i + 1) w1 (by omega) (by omega) hM1 hC1 hF1
        rw [e1] at k9
        exact k9.sub (by repeat' (first | exact trivial | exact rfl | constructor))
  refine V_aload_n (i := 0) dX10_isConsistent_0 rfl rfl ?_
  refine V_getC (k := 5) (q := 40) dX10_isConsistent_1 (Or.inr ⟨rfl, Nat.le_of_ble_eq_true rfl⟩) rfl rfl rfl (Nat.le_of_ble_eq_true rfl) flRX10_39 ?_
  refine V_aload_n (i := 0) dX10_isConsistent_4 rfl rfl ?_
  refine V_getC (k := 0) (q := 1) dX10_isConsistent_5 (Or.inr ⟨rfl, Nat.le_of_ble_eq_true rfl⟩) rfl rfl rfl (Nat.le_of_ble_eq_true rfl) flRX10_10 ?_
  refine V_bipush_n (v := 42) dX10_isConsistent_8 (by decide) ?_
  refine V_callVM dX10_isConsistent_10 (c_search hC.1.1 (cq := 42) (by omega)) okX3_search lkRX10_195 (Or.inr ⟨rfl, Nat.le_of_ble_eq_true rfl⟩) rfl rfl rfl rfl (Nat.le_of_ble_eq_true rfl) ⟨Nat.le_of_ble_eq_true rfl, Nat.le_of_ble_eq_true rfl⟩ rfl ?_
  intro u1 hu1
  refine V_istore_n (i := 1) dX10_isConsistent_13 rfl (Nat.le_of_ble_eq_true rfl) rfl rfl ?_
  refine V_iconst_n (v := 0) dX10_isConsistent_14 (by decide) ?_
  refine V_istore_n (i := 2) dX10_isConsistent_15 rfl (Nat.le_of_ble_eq_true rfl) rfl rfl ?_
  refine V_iconst_n (v := 1) dX10_isConsistent_16 (by decide) ?_
  refine V_istore_n (i := 3) dX10_isConsistent_17 rfl (Nat.le_of_ble_eq_true rfl) rfl rfl ?_
  exact (lp (ns (H0 S) 64 + 1) 0 u1 (by omega) (by omega) hu1.1 ⟨(hC.1.keep hu1.2 (fun b hb => by unfold InI; omega)), (hC.2.1.keep hu1.2 (fun b hb => by unfold InI; omega)), (hC.2.2.1.keep hu1.2 (fun b hb => by unfold InI; omega)), (hC.2.2.2.1.keep hu1.2 (fun b hb => by unfold InI; omega)), (hC.2.2.2.2.1.keep hu1.2 (fun b hb => by unfold InI; omega)), (hC.2.2.2.2.2.keep hu1.2 (fun b hb => by unfold InI; omega))⟩ (hu1.2.mono (fun b hb => by unfold InI at hb; unfold InC; omega))).sub (by repeat' (first | exact trivial | exact rfl | constructor))
end MFACE5
