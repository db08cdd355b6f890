/-! THE FACE: what only asks. Printed by wip/whole/gen/mk26.py. -/
section MFACE2
set_option maxRecDepth 100000 in
set_option maxHeartbeats 1000000 in
theorem c_requireLiving {r c : Nat} {s : St} {w : Wd} (hR : Repr w 1 s) (hr : r < 8) (hc : c < 8) : Ct 1 MX10_requireLiving 7 1 6 [.ref 0, .int (nI r), .int (nI c)] w (fun o w1 => (10 ≤ s.1 (8 * r + c) ∧ o = Sum.inl (none : Option Value) ∧ w1 = w) ∨ (s.1 (8 * r + c) < 10 ∧ o = Sum.inr "java/util/NoSuchElementException" ∧ w1 = w)) := by
  refine Ct_of (by decide +kernel) rfl (Nat.le_of_ble_eq_true rfl) rfl ?_
  have hk9 := kc_lt (hR.2.1 (8 * r + c) (by omega))
  have hk7 := kc_live (hR.2.1 (8 * r + c) (by omega))
  refine V_aload_n (i := 0) dX10_requireLiving_0 rfl rfl ?_
  refine V_getC (k := 0) (q := 1) dX10_requireLiving_1 (Or.inr ⟨rfl, Nat.le_of_ble_eq_true rfl⟩) rfl rfl rfl (Nat.le_of_ble_eq_true rfl) flRX10_10 ?_
  refine V_iload_n (i := 1) dX10_requireLiving_4 rfl rfl ?_
  refine V_iload_n (i := 2) dX10_requireLiving_5 rfl rfl ?_
  refine V_callSF dX10_requireLiving_6 (c_cellNumber (r := r) (c := c) (rfl) (rfl)) okX10_cellNumber lkRX10_82 rfl rfl (Nat.le_of_ble_eq_true rfl) ⟨Nat.le_of_ble_eq_true rfl, Nat.le_of_ble_eq_true rfl⟩ rfl ?_
  refine V_callVF dX10_requireLiving_9 (c_kindOf hR (k := (8 * r + c)) (by omega)) okX8_kindOf lkRX10_121 (Or.inr ⟨rfl, Nat.le_of_ble_eq_true rfl⟩) rfl rfl rfl rfl (Nat.le_of_ble_eq_true rfl) ⟨Nat.le_of_ble_eq_true rfl, Nat.le_of_ble_eq_true rfl⟩ rfl ?_
  refine V_callSF dX10_requireLiving_12 (c_isColour (q := (kc (s.1 (8 * r + c)))) (by omega)) okX10_isColour lkRX10_176 rfl rfl (Nat.le_of_ble_eq_true rfl) ⟨Nat.le_of_ble_eq_true rfl, Nat.le_of_ble_eq_true rfl⟩ rfl ?_
  refine V_if_ne_n (tgt := 29) dX10_requireLiving_15 (by decide) (Nat.lt_of_lt_of_le ite_le (by decide)) (fun h15 => ?_) (fun h15 => ?_)
  · have hi := ite_t h15
    refine V_vret dX10_requireLiving_29 rfl ?_
    exact Or.inl ⟨by omega, rfl, rfl⟩
  · have hi := ite_f h15
    refine V_throwNW dX10_requireLiving_18 dX10_requireLiving_21 dX10_requireLiving_22 dX10_requireLiving_25 dX10_requireLiving_28 thr_NSE (List.mem_of_getElem? (i := 21) rfl) rfl (Nat.le_of_ble_eq_true rfl) (by decide) (by decide) ?_
    exact Or.inr (⟨by omega, rfl, rfl⟩)
set_option maxRecDepth 100000 in
set_option maxHeartbeats 1000000 in
theorem c_isEmpty {x y : Int32} {r c : Int} {S : Sys} {w : Wd} (hC : CI w S) (hx : x = zI r) (hy : y = zI c) (r1 : -2147483648 ≤ r) (r2 : r < 2147483648) (c1 : -2147483648 ≤ c) (c2 : c < 2147483648) : Ct 1 MX10_isEmpty 10 4 24 [.ref 0, .int x, .int y] w (PoF ["java/lang/IndexOutOfBoundsException"] (fIsEmpty S r c) w) := by
  refine Ct_of (by decide +kernel) rfl (Nat.le_of_ble_eq_true rfl) rfl ?_
  subst hx hy
  refine V_iload_n (i := 1) dX10_isEmpty_0 rfl rfl ?_
  refine V_iload_n (i := 2) dX10_isEmpty_1 rfl rfl ?_
  refine V_callS dX10_isEmpty_2 (c_requireCell (r := r) (c := c) rfl rfl (by omega) (by omega) (by omega) (by omega)) okX10_requireCell lkRX10_74 rfl rfl (Nat.le_of_ble_eq_true rfl) ⟨Nat.le_of_ble_eq_true rfl, Nat.le_of_ble_eq_true rfl⟩ rfl ⟨by decide, by decide⟩ (fun v9 u1 hu1 => ?_) (fun E9 u1 hu1 => ?_)
  · rcases hu1 with ⟨hu1f, e9, hu1⟩ | ⟨hu1f, e9, hu1⟩
    · cases e9
      subst hu1
      have hin0 := hu1f
      have hii0 := ins_iff.mp hin0
      obtain ⟨r0, rfl⟩ : ∃ n : Nat, r = (n : Int) := ⟨r.toNat, by omega⟩
      obtain ⟨c0, rfl⟩ : ∃ n : Nat, c = (n : Int) := ⟨c.toNat, by omega⟩
      simp only [← zI_n]
      have hcc : (8 * r0 + c0) < 64 := by omega
      have hk9 := kc_lt (hC.1.1.2.1 (8 * r0 + c0) hcc)
      have hk7 := kc_live (hC.1.1.2.1 (8 * r0 + c0) hcc)
      have hk6 := kc_none (hC.1.1.2.1 (8 * r0 + c0) hcc)
      have hk5 := kc_pale (hC.1.1.2.1 (8 * r0 + c0) hcc)
      have hok := hC.1.1.2.1 (8 * r0 + c0) hcc
      unfold okc at hok
      refine V_aload_n (i := 0) dX10_isEmpty_5 rfl rfl ?_
      refine V_getC (k := 0) (q := 1) dX10_isEmpty_6 (Or.inr ⟨rfl, Nat.le_of_ble_eq_true rfl⟩) rfl rfl rfl (Nat.le_of_ble_eq_true rfl) flRX10_10 ?_
      refine V_iload_n (i := 1) dX10_isEmpty_9 rfl rfl ?_
      refine V_iload_n (i := 2) dX10_isEmpty_10 rfl rfl ?_
      refine V_callSF dX10_isEmpty_11 (c_cellNumber (r := r0) (c := c0) (rfl) (rfl)) okX10_cellNumber lkRX10_82 rfl rfl (Nat.le_of_ble_eq_true rfl) ⟨Nat.le_of_ble_eq_true rfl, Nat.le_of_ble_eq_true rfl⟩ rfl ?_
      refine V_callVF dX10_isEmpty_14 (c_kindOf hC.1.1 (k := (8 * r0 + c0)) (by omega)) okX8_kindOf lkRX10_121 (Or.inr ⟨rfl, Nat.le_of_ble_eq_true rfl⟩) rfl rfl rfl rfl (Nat.le_of_ble_eq_true rfl) ⟨Nat.le_of_ble_eq_true rfl, Nat.le_of_ble_eq_true rfl⟩ rfl ?_
      refine V_if_ne_n (tgt := 24) dX10_isEmpty_17 (by decide) (by omega) (fun h17 => ?_) (fun h17 => ?_)
      · have hz : ¬ S.1.1 (8 * r0 + c0) = 0 := fun q => h17 (by rw [q]; rfl)
        refine V_iconst_n (v := 0) dX10_isEmpty_24 (by decide) ?_
        refine V_iret dX10_isEmpty_25 rfl (nar_bool (by omega)) ?_
        have e9 : fIsEmpty S (r0 : Int) (c0 : Int) = (0, nI 0, S) := by simp [fIsEmpty, fCell, fLive, q2, cl_nat, b2, hin0, hz]
        rw [e9]
        exact ⟨Or.inl ⟨rfl, rfl⟩, ⟨hC.1, hC.2.1, hC.2.2.1, hC.2.2.2.1, hC.2.2.2.2.1, hC.2.2.2.2.2⟩, Fr.nil⟩
      · have hz : S.1.1 (8 * r0 + c0) = 0 := hk6.mp h17
        refine V_iconst_n (v := 1) dX10_isEmpty_20 (by decide) ?_
        refine V_goto (tgt := 25) dX10_isEmpty_21 (by decide) ?_
        refine V_iret dX10_isEmpty_25 rfl (nar_bool (by omega)) ?_
        have e9 : fIsEmpty S (r0 : Int) (c0 : Int) = (0, nI 1, S) := by simp [fIsEmpty, fCell, fLive, q2, cl_nat, b2, hin0, hz]
        rw [e9]
        exact ⟨Or.inl ⟨rfl, rfl⟩, ⟨hC.1, hC.2.1, hC.2.2.1, hC.2.2.2.1, hC.2.2.2.2.1, hC.2.2.2.2.2⟩, Fr.nil⟩
    · cases e9
  · rcases hu1 with ⟨hu1f, e9, hu1⟩ | ⟨hu1f, e9, hu1⟩
    · cases e9
    · cases e9
      subst hu1
      have e9 : fIsEmpty S r c = (1, 0, S) := by simp [fIsEmpty, fCell, fLive, q2, cl_nat, b2, hu1f]
      rw [e9]
      exact ⟨Or.inr ⟨Nat.le_of_ble_eq_true rfl, rfl⟩, ⟨hC.1, hC.2.1, hC.2.2.1, hC.2.2.2.1, hC.2.2.2.2.1, hC.2.2.2.2.2⟩, Fr.nil⟩
set_option maxRecDepth 100000 in
set_option maxHeartbeats 1000000 in
theorem c_isLiving {x y : Int32} {r c : Int} {S : Sys} {w : Wd} (hC : CI w S) (hx : x = zI r) (hy : y = zI c) (r1 : -2147483648 ≤ r) (r2 : r < 2147483648) (c1 : -2147483648 ≤ c) (c2 : c < 2147483648) : Ct 1 MX10_isLiving 10 4 24 [.ref 0, .int x, .int y] w (PoF ["java/lang/IndexOutOfBoundsException"] (fIsLiving S r c) w) := by
  refine Ct_of (by decide +kernel) rfl (Nat.le_of_ble_eq_true rfl) rfl ?_
  subst hx hy
  refine V_iload_n (i := 1) dX10_isLiving_0 rfl rfl ?_
  refine V_iload_n (i := 2) dX10_isLiving_1 rfl rfl ?_
  refine V_callS dX10_isLiving_2 (c_requireCell (r := r) (c := c) rfl rfl (by omega) (by omega) (by omega) (by omega)) okX10_requireCell lkRX10_74 rfl rfl (Nat.le_of_ble_eq_true rfl) ⟨Nat.le_of_ble_eq_true rfl, Nat.le_of_ble_eq_true rfl⟩ rfl ⟨by decide, by decide⟩ (fun v9 u1 hu1 => ?_) (fun E9 u1 hu1 => ?_)
  · rcases hu1 with ⟨hu1f, e9, hu1⟩ | ⟨hu1f, e9, hu1⟩
    · cases e9
      subst hu1
      have hin0 := hu1f
      have hii0 := ins_iff.mp hin0
      obtain ⟨r0, rfl⟩ : ∃ n : Nat, r = (n : Int) := ⟨r.toNat, by omega⟩
      obtain ⟨c0, rfl⟩ : ∃ n : Nat, c = (n : Int) := ⟨c.toNat, by omega⟩
      simp only [← zI_n]
      have hcc : (8 * r0 + c0) < 64 := by omega
      have hk9 := kc_lt (hC.1.1.2.1 (8 * r0 + c0) hcc)
      have hk7 := kc_live (hC.1.1.2.1 (8 * r0 + c0) hcc)
      have hk6 := kc_none (hC.1.1.2.1 (8 * r0 + c0) hcc)
      have hk5 := kc_pale (hC.1.1.2.1 (8 * r0 + c0) hcc)
      have hok := hC.1.1.2.1 (8 * r0 + c0) hcc
      unfold okc at hok
      refine V_aload_n (i := 0) dX10_isLiving_5 rfl rfl ?_
      refine V_getC (k := 0) (q := 1) dX10_isLiving_6 (Or.inr ⟨rfl, Nat.le_of_ble_eq_true rfl⟩) rfl rfl rfl (Nat.le_of_ble_eq_true rfl) flRX10_10 ?_
      refine V_iload_n (i := 1) dX10_isLiving_9 rfl rfl ?_
      refine V_iload_n (i := 2) dX10_isLiving_10 rfl rfl ?_
      refine V_callSF dX10_isLiving_11 (c_cellNumber (r := r0) (c := c0) (rfl) (rfl)) okX10_cellNumber lkRX10_82 rfl rfl (Nat.le_of_ble_eq_true rfl) ⟨Nat.le_of_ble_eq_true rfl, Nat.le_of_ble_eq_true rfl⟩ rfl ?_
      refine V_callVF dX10_isLiving_14 (c_kindOf hC.1.1 (k := (8 * r0 + c0)) (by omega)) okX8_kindOf lkRX10_121 (Or.inr ⟨rfl, Nat.le_of_ble_eq_true rfl⟩) rfl rfl rfl rfl (Nat.le_of_ble_eq_true rfl) ⟨Nat.le_of_ble_eq_true rfl, Nat.le_of_ble_eq_true rfl⟩ rfl ?_
      refine V_callSF dX10_isLiving_17 (c_isColour (q := (kc (S.1.1 (8 * r0 + c0)))) (by omega)) okX10_isColour lkRX10_176 rfl rfl (Nat.le_of_ble_eq_true rfl) ⟨Nat.le_of_ble_eq_true rfl, Nat.le_of_ble_eq_true rfl⟩ rfl ?_
      refine V_iret dX10_isLiving_20 rfl (nar_bool ite_le) ?_
      have e8 : (nI (if 97 ≤ kc (S.1.1 (8 * r0 + c0)) ∧ kc (S.1.1 (8 * r0 + c0)) ≤ 100 then 1 else 0)) = b2 (decide (10 ≤ S.1.1 (8 * r0 + c0))) := by unfold b2; congr 1; grind
      rw [e8]
      have e9 : fIsLiving S (r0 : Int) (c0 : Int) = (0, b2 (decide (10 ≤ S.1.1 (8 * r0 + c0))), S) := by simp [fIsLiving, fCell, fLive, q2, cl_nat, b2, hin0]
      rw [e9]
      exact ⟨Or.inl ⟨rfl, rfl⟩, ⟨hC.1, hC.2.1, hC.2.2.1, hC.2.2.2.1, hC.2.2.2.2.1, hC.2.2.2.2.2⟩, Fr.nil⟩
    · cases e9
  · rcases hu1 with ⟨hu1f, e9, hu1⟩ | ⟨hu1f, e9, hu1⟩
    · cases e9
    · cases e9
      subst hu1
      have e9 : fIsLiving S r c = (1, 0, S) := by simp [fIsLiving, fCell, fLive, q2, cl_nat, b2, hu1f]
      rw [e9]
      exact ⟨Or.inr ⟨Nat.le_of_ble_eq_true rfl, rfl⟩, ⟨hC.1, hC.2.1, hC.2.2.1, hC.2.2.2.1, hC.2.2.2.2.1, hC.2.2.2.2.2⟩, Fr.nil⟩
set_option maxRecDepth 100000 in
set_option maxHeartbeats 1000000 in
theorem c_isBleached {x y : Int32} {r c : Int} {S : Sys} {w : Wd} (hC : CI w S) (hx : x = zI r) (hy : y = zI c) (r1 : -2147483648 ≤ r) (r2 : r < 2147483648) (c1 : -2147483648 ≤ c) (c2 : c < 2147483648) : Ct 1 MX10_isBleached 10 4 24 [.ref 0, .int x, .int y] w (PoF ["java/lang/IndexOutOfBoundsException"] (fIsBleached S r c) w) := by
  refine Ct_of (by decide +kernel) rfl (Nat.le_of_ble_eq_true rfl) rfl ?_
  subst hx hy
  refine V_iload_n (i := 1) dX10_isBleached_0 rfl rfl ?_
  refine V_iload_n (i := 2) dX10_isBleached_1 rfl rfl ?_
  refine V_callS dX10_isBleached_2 (c_requireCell (r := r) (c := c) rfl rfl (by omega) (by omega) (by omega) (by omega)) okX10_requireCell lkRX10_74 rfl rfl (Nat.le_of_ble_eq_true rfl) ⟨Nat.le_of_ble_eq_true rfl, Nat.le_of_ble_eq_true rfl⟩ rfl ⟨by decide, by decide⟩ (fun v9 u1 hu1 => ?_) (fun E9 u1 hu1 => ?_)
  · rcases hu1 with ⟨hu1f, e9, hu1⟩ | ⟨hu1f, e9, hu1⟩
    · cases e9
      subst hu1
      have hin0 := hu1f
      have hii0 := ins_iff.mp hin0
      obtain ⟨r0, rfl⟩ : ∃ n : Nat, r = (n : Int) := ⟨r.toNat, by omega⟩
      obtain ⟨c0, rfl⟩ : ∃ n : Nat, c = (n : Int) := ⟨c.toNat, by omega⟩
      simp only [← zI_n]
      have hcc : (8 * r0 + c0) < 64 := by omega
      have hk9 := kc_lt (hC.1.1.2.1 (8 * r0 + c0) hcc)
      have hk7 := kc_live (hC.1.1.2.1 (8 * r0 + c0) hcc)
      have hk6 := kc_none (hC.1.1.2.1 (8 * r0 + c0) hcc)
      have hk5 := kc_pale (hC.1.1.2.1 (8 * r0 + c0) hcc)
      have hok := hC.1.1.2.1 (8 * r0 + c0) hcc
      unfold okc at hok
      refine V_aload_n (i := 0) dX10_isBleached_5 rfl rfl ?_
      refine V_getC (k := 0) (q := 1) dX10_isBleached_6 (Or.inr ⟨rfl, Nat.le_of_ble_eq_true rfl⟩) rfl rfl rfl (Nat.le_of_ble_eq_true rfl) flRX10_10 ?_
      refine V_iload_n (i := 1) dX10_isBleached_9 rfl rfl ?_
      refine V_iload_n (i := 2) dX10_isBleached_10 rfl rfl ?_
      refine V_callSF dX10_isBleached_11 (c_cellNumber (r := r0) (c := c0) (rfl) (rfl)) okX10_cellNumber lkRX10_82 rfl rfl (Nat.le_of_ble_eq_true rfl) ⟨Nat.le_of_ble_eq_true rfl, Nat.le_of_ble_eq_true rfl⟩ rfl ?_
      refine V_callVF dX10_isBleached_14 (c_kindOf hC.1.1 (k := (8 * r0 + c0)) (by omega)) okX8_kindOf lkRX10_121 (Or.inr ⟨rfl, Nat.le_of_ble_eq_true rfl⟩) rfl rfl rfl rfl (Nat.le_of_ble_eq_true rfl) ⟨Nat.le_of_ble_eq_true rfl, Nat.le_of_ble_eq_true rfl⟩ rfl ?_
      refine V_bipush_n (v := 35) dX10_isBleached_17 (by decide) ?_
      refine V_icmp_ne_n (tgt := 26) dX10_isBleached_19 (by decide) (by omega) (by omega) (fun h19 => ?_) (fun h19 => ?_)
      · have hz : ¬ S.1.1 (8 * r0 + c0) = 1 := fun q => h19 (by rw [q]; rfl)
        refine V_iconst_n (v := 0) dX10_isBleached_26 (by decide) ?_
        refine V_iret dX10_isBleached_27 rfl (nar_bool (by omega)) ?_
        have e9 : fIsBleached S (r0 : Int) (c0 : Int) = (0, nI 0, S) := by simp [fIsBleached, fCell, fLive, q2, cl_nat, b2, hin0, hz]
        rw [e9]
        exact ⟨Or.inl ⟨rfl, rfl⟩, ⟨hC.1, hC.2.1, hC.2.2.1, hC.2.2.2.1, hC.2.2.2.2.1, hC.2.2.2.2.2⟩, Fr.nil⟩
      · have hz : S.1.1 (8 * r0 + c0) = 1 := hk5.mp h19
        refine V_iconst_n (v := 1) dX10_isBleached_22 (by decide) ?_
        refine V_goto (tgt := 27) dX10_isBleached_23 (by decide) ?_
        refine V_iret dX10_isBleached_27 rfl (nar_bool (by omega)) ?_
        have e9 : fIsBleached S (r0 : Int) (c0 : Int) = (0, nI 1, S) := by simp [fIsBleached, fCell, fLive, q2, cl_nat, b2, hin0, hz]
        rw [e9]
        exact ⟨Or.inl ⟨rfl, rfl⟩, ⟨hC.1, hC.2.1, hC.2.2.1, hC.2.2.2.1, hC.2.2.2.2.1, hC.2.2.2.2.2⟩, Fr.nil⟩
    · cases e9
  · rcases hu1 with ⟨hu1f, e9, hu1⟩ | ⟨hu1f, e9, hu1⟩
    · cases e9
    · cases e9
      subst hu1
      have e9 : fIsBleached S r c = (1, 0, S) := by simp [fIsBleached, fCell, fLive, q2, cl_nat, b2, hu1f]
      rw [e9]
      exact ⟨Or.inr ⟨Nat.le_of_ble_eq_true rfl, rfl⟩, ⟨hC.1, hC.2.1, hC.2.2.1, hC.2.2.2.1, hC.2.2.2.2.1, hC.2.2.2.2.2⟩, Fr.nil⟩
set_option maxRecDepth 100000 in
set_option maxHeartbeats 1000000 in
theorem c_colourAt {x y : Int32} {r c : Int} {S : Sys} {w : Wd} (hC : CI w S) (hx : x = zI r) (hy : y = zI c) (r1 : -2147483648 ≤ r) (r2 : r < 2147483648) (c1 : -2147483648 ≤ c) (c2 : c < 2147483648) : Ct 1 MX10_colourAt 10 4 24 [.ref 0, .int x, .int y] w (PoF ["java/lang/IndexOutOfBoundsException", "java/util/NoSuchElementException"] (fColourAt S r c) w) := by
  refine Ct_of (by decide +kernel) rfl (Nat.le_of_ble_eq_true rfl) rfl ?_
  subst hx hy
  refine V_iload_n (i := 1) dX10_colourAt_0 rfl rfl ?_
  refine V_iload_n (i := 2) dX10_colourAt_1 rfl rfl ?_
  refine V_callS dX10_colourAt_2 (c_requireCell (r := r) (c := c) rfl rfl (by omega) (by omega) (by omega) (by omega)) okX10_requireCell lkRX10_74 rfl rfl (Nat.le_of_ble_eq_true rfl) ⟨Nat.le_of_ble_eq_true rfl, Nat.le_of_ble_eq_true rfl⟩ rfl ⟨by decide, by decide⟩ (fun v9 u1 hu1 => ?_) (fun E9 u1 hu1 => ?_)
  · rcases hu1 with ⟨hu1f, e9, hu1⟩ | ⟨hu1f, e9, hu1⟩
    · cases e9
      subst hu1
      have hin0 := hu1f
      have hii0 := ins_iff.mp hin0
      obtain ⟨r0, rfl⟩ : ∃ n : Nat, r = (n : Int) := ⟨r.toNat, by omega⟩
      obtain ⟨c0, rfl⟩ : ∃ n : Nat, c = (n : Int) := ⟨c.toNat, by omega⟩
      simp only [← zI_n]
      have hcc : (8 * r0 + c0) < 64 := by omega
      have hk9 := kc_lt (hC.1.1.2.1 (8 * r0 + c0) hcc)
      have hk7 := kc_live (hC.1.1.2.1 (8 * r0 + c0) hcc)
      have hk6 := kc_none (hC.1.1.2.1 (8 * r0 + c0) hcc)
      have hk5 := kc_pale (hC.1.1.2.1 (8 * r0 + c0) hcc)
      have hok := hC.1.1.2.1 (8 * r0 + c0) hcc
      unfold okc at hok
      refine V_aload_n (i := 0) dX10_colourAt_5 rfl rfl ?_
      refine V_iload_n (i := 1) dX10_colourAt_6 rfl rfl ?_
      refine V_iload_n (i := 2) dX10_colourAt_7 rfl rfl ?_
      refine V_callV dX10_colourAt_8 (c_requireLiving hC.1.1 (r := r0) (c := c0) (by omega) (by omega)) okX10_requireLiving lkRX10_180 (Or.inr ⟨rfl, Nat.le_of_ble_eq_true rfl⟩) rfl rfl rfl rfl (Nat.le_of_ble_eq_true rfl) ⟨Nat.le_of_ble_eq_true rfl, Nat.le_of_ble_eq_true rfl⟩ rfl ⟨by decide, by decide⟩ (fun v9 u2 hu2 => ?_) (fun E9 u2 hu2 => ?_)
      · rcases hu2 with ⟨hu2f, e9, hu2⟩ | ⟨hu2f, e9, hu2⟩
        · cases e9
          subst hu2
          have hlv := hu2f
          have hlv9 : ¬ S.1.1 (8 * r0 + c0) < 10 := by omega
          refine V_aload_n (i := 0) dX10_colourAt_11 rfl rfl ?_
          refine V_getC (k := 0) (q := 1) dX10_colourAt_12 (Or.inr ⟨rfl, Nat.le_of_ble_eq_true rfl⟩) rfl rfl rfl (Nat.le_of_ble_eq_true rfl) flRX10_10 ?_
          refine V_iload_n (i := 1) dX10_colourAt_15 rfl rfl ?_
          refine V_iload_n (i := 2) dX10_colourAt_16 rfl rfl ?_
          refine V_callSF dX10_colourAt_17 (c_cellNumber (r := r0) (c := c0) (rfl) (rfl)) okX10_cellNumber lkRX10_82 rfl rfl (Nat.le_of_ble_eq_true rfl) ⟨Nat.le_of_ble_eq_true rfl, Nat.le_of_ble_eq_true rfl⟩ rfl ?_
          refine V_callVF dX10_colourAt_20 (c_kindOf hC.1.1 (k := (8 * r0 + c0)) (by omega)) okX8_kindOf lkRX10_121 (Or.inr ⟨rfl, Nat.le_of_ble_eq_true rfl⟩) rfl rfl rfl rfl (Nat.le_of_ble_eq_true rfl) ⟨Nat.le_of_ble_eq_true rfl, Nat.le_of_ble_eq_true rfl⟩ rfl ?_
          refine V_iret dX10_colourAt_23 rfl (nar_char (by omega)) ?_
          have e9 : fColourAt S (r0 : Int) (c0 : Int) = (0, nI (kc (S.1.1 (8 * r0 + c0))), S) := by simp [fColourAt, fCell, fLive, q2, cl_nat, b2, hin0, hlv9]
          rw [e9]
          exact ⟨Or.inl ⟨rfl, rfl⟩, ⟨hC.1, hC.2.1, hC.2.2.1, hC.2.2.2.1, hC.2.2.2.2.1, hC.2.2.2.2.2⟩, Fr.nil⟩
        · cases e9
      · rcases hu2 with ⟨hu2f, e9, hu2⟩ | ⟨hu2f, e9, hu2⟩
        · cases e9
        · cases e9
          subst hu2
          have e9 : fColourAt S (r0 : Int) (c0 : Int) = (2, 0, S) := by simp [fColourAt, fCell, fLive, q2, cl_nat, b2, hin0, hu2f]
          rw [e9]
          exact ⟨Or.inr ⟨Nat.le_of_ble_eq_true rfl, rfl⟩, ⟨hC.1, hC.2.1, hC.2.2.1, hC.2.2.2.1, hC.2.2.2.2.1, hC.2.2.2.2.2⟩, Fr.nil⟩
    · cases e9
  · rcases hu1 with ⟨hu1f, e9, hu1⟩ | ⟨hu1f, e9, hu1⟩
    · cases e9
    · cases e9
      subst hu1
      have e9 : fColourAt S r c = (1, 0, S) := by simp [fColourAt, fCell, fLive, q2, cl_nat, b2, hu1f]
      rw [e9]
      exact ⟨Or.inr ⟨Nat.le_of_ble_eq_true rfl, rfl⟩, ⟨hC.1, hC.2.1, hC.2.2.1, hC.2.2.2.1, hC.2.2.2.2.1, hC.2.2.2.2.2⟩, Fr.nil⟩
set_option maxRecDepth 100000 in
set_option maxHeartbeats 1000000 in
theorem c_ageAt {x y : Int32} {r c : Int} {S : Sys} {w : Wd} (hC : CI w S) (hx : x = zI r) (hy : y = zI c) (r1 : -2147483648 ≤ r) (r2 : r < 2147483648) (c1 : -2147483648 ≤ c) (c2 : c < 2147483648) : Ct 1 MX10_ageAt 10 4 24 [.ref 0, .int x, .int y] w (PoF ["java/lang/IndexOutOfBoundsException", "java/util/NoSuchElementException"] (fAgeAt S r c) w) := by
  refine Ct_of (by decide +kernel) rfl (Nat.le_of_ble_eq_true rfl) rfl ?_
  subst hx hy
  refine V_iload_n (i := 1) dX10_ageAt_0 rfl rfl ?_
  refine V_iload_n (i := 2) dX10_ageAt_1 rfl rfl ?_
  refine V_callS dX10_ageAt_2 (c_requireCell (r := r) (c := c) rfl rfl (by omega) (by omega) (by omega) (by omega)) okX10_requireCell lkRX10_74 rfl rfl (Nat.le_of_ble_eq_true rfl) ⟨Nat.le_of_ble_eq_true rfl, Nat.le_of_ble_eq_true rfl⟩ rfl ⟨by decide, by decide⟩ (fun v9 u1 hu1 => ?_) (fun E9 u1 hu1 => ?_)
  · rcases hu1 with ⟨hu1f, e9, hu1⟩ | ⟨hu1f, e9, hu1⟩
    · cases e9
      subst hu1
      have hin0 := hu1f
      have hii0 := ins_iff.mp hin0
      obtain ⟨r0, rfl⟩ : ∃ n : Nat, r = (n : Int) := ⟨r.toNat, by omega⟩
      obtain ⟨c0, rfl⟩ : ∃ n : Nat, c = (n : Int) := ⟨c.toNat, by omega⟩
      simp only [← zI_n]
      have hcc : (8 * r0 + c0) < 64 := by omega
      have hk9 := kc_lt (hC.1.1.2.1 (8 * r0 + c0) hcc)
      have hk7 := kc_live (hC.1.1.2.1 (8 * r0 + c0) hcc)
      have hk6 := kc_none (hC.1.1.2.1 (8 * r0 + c0) hcc)
      have hk5 := kc_pale (hC.1.1.2.1 (8 * r0 + c0) hcc)
      have hok := hC.1.1.2.1 (8 * r0 + c0) hcc
      unfold okc at hok
      refine V_aload_n (i := 0) dX10_ageAt_5 rfl rfl ?_
      refine V_iload_n (i := 1) dX10_ageAt_6 rfl rfl ?_
      refine V_iload_n (i := 2) dX10_ageAt_7 rfl rfl ?_
      refine V_callV dX10_ageAt_8 (c_requireLiving hC.1.1 (r := r0) (c := c0) (by omega) (by omega)) okX10_requireLiving lkRX10_180 (Or.inr ⟨rfl, Nat.le_of_ble_eq_true rfl⟩) rfl rfl rfl rfl (Nat.le_of_ble_eq_true rfl) ⟨Nat.le_of_ble_eq_true rfl, Nat.le_of_ble_eq_true rfl⟩ rfl ⟨by decide, by decide⟩ (fun v9 u2 hu2 => ?_) (fun E9 u2 hu2 => ?_)
      · rcases hu2 with ⟨hu2f, e9, hu2⟩ | ⟨hu2f, e9, hu2⟩
        · cases e9
          subst hu2
          have hlv := hu2f
          have hlv9 : ¬ S.1.1 (8 * r0 + c0) < 10 := by omega
          refine V_aload_n (i := 0) dX10_ageAt_11 rfl rfl ?_
          refine V_getC (k := 0) (q := 1) dX10_ageAt_12 (Or.inr ⟨rfl, Nat.le_of_ble_eq_true rfl⟩) rfl rfl rfl (Nat.le_of_ble_eq_true rfl) flRX10_10 ?_
          refine V_iload_n (i := 1) dX10_ageAt_15 rfl rfl ?_
          refine V_iload_n (i := 2) dX10_ageAt_16 rfl rfl ?_
          refine V_callSF dX10_ageAt_17 (c_cellNumber (r := r0) (c := c0) (rfl) (rfl)) okX10_cellNumber lkRX10_82 rfl rfl (Nat.le_of_ble_eq_true rfl) ⟨Nat.le_of_ble_eq_true rfl, Nat.le_of_ble_eq_true rfl⟩ rfl ?_
          refine V_callVF dX10_ageAt_20 (c_ageOf hC.1.1 (k := (8 * r0 + c0)) (by omega)) okX8_ageOf lkRX10_115 (Or.inr ⟨rfl, Nat.le_of_ble_eq_true rfl⟩) rfl rfl rfl rfl (Nat.le_of_ble_eq_true rfl) ⟨Nat.le_of_ble_eq_true rfl, Nat.le_of_ble_eq_true rfl⟩ rfl ?_
          refine V_iret dX10_ageAt_23 rfl rfl ?_
          have e9 : fAgeAt S (r0 : Int) (c0 : Int) = (0, nI (ag (S.1.1 (8 * r0 + c0))), S) := by simp [fAgeAt, fCell, fLive, q2, cl_nat, b2, hin0, hlv9]
          rw [e9]
          exact ⟨Or.inl ⟨rfl, rfl⟩, ⟨hC.1, hC.2.1, hC.2.2.1, hC.2.2.2.1, hC.2.2.2.2.1, hC.2.2.2.2.2⟩, Fr.nil⟩
        · cases e9
      · rcases hu2 with ⟨hu2f, e9, hu2⟩ | ⟨hu2f, e9, hu2⟩
        · cases e9
        · cases e9
          subst hu2
          have e9 : fAgeAt S (r0 : Int) (c0 : Int) = (2, 0, S) := by simp [fAgeAt, fCell, fLive, q2, cl_nat, b2, hin0, hu2f]
          rw [e9]
          exact ⟨Or.inr ⟨Nat.le_of_ble_eq_true rfl, rfl⟩, ⟨hC.1, hC.2.1, hC.2.2.1, hC.2.2.2.1, hC.2.2.2.2.1, hC.2.2.2.2.2⟩, Fr.nil⟩
    · cases e9
  · rcases hu1 with ⟨hu1f, e9, hu1⟩ | ⟨hu1f, e9, hu1⟩
    · cases e9
    · cases e9
      subst hu1
      have e9 : fAgeAt S r c = (1, 0, S) := by simp [fAgeAt, fCell, fLive, q2, cl_nat, b2, hu1f]
      rw [e9]
      exact ⟨Or.inr ⟨Nat.le_of_ble_eq_true rfl, rfl⟩, ⟨hC.1, hC.2.1, hC.2.2.1, hC.2.2.2.1, hC.2.2.2.2.1, hC.2.2.2.2.2⟩, Fr.nil⟩
set_option maxRecDepth 100000 in
set_option maxHeartbeats 1000000 in
theorem c_neighbours {x y : Int32} {r c : Int} {S : Sys} {w : Wd} (hC : CI w S) (hx : x = zI r) (hy : y = zI c) (r1 : -2147483648 ≤ r) (r2 : r < 2147483648) (c1 : -2147483648 ≤ c) (c2 : c < 2147483648) : Ct 1 MX10_neighbours 10 4 24 [.ref 0, .int x, .int y] w (PoF ["java/lang/IndexOutOfBoundsException"] (fNeighbours S r c) w) := by
  refine Ct_of (by decide +kernel) rfl (Nat.le_of_ble_eq_true rfl) rfl ?_
  subst hx hy
  refine V_iload_n (i := 1) dX10_neighbours_0 rfl rfl ?_
  refine V_iload_n (i := 2) dX10_neighbours_1 rfl rfl ?_
  refine V_callS dX10_neighbours_2 (c_requireCell (r := r) (c := c) rfl rfl (by omega) (by omega) (by omega) (by omega)) okX10_requireCell lkRX10_74 rfl rfl (Nat.le_of_ble_eq_true rfl) ⟨Nat.le_of_ble_eq_true rfl, Nat.le_of_ble_eq_true rfl⟩ rfl ⟨by decide, by decide⟩ (fun v9 u1 hu1 => ?_) (fun E9 u1 hu1 => ?_)
  · rcases hu1 with ⟨hu1f, e9, hu1⟩ | ⟨hu1f, e9, hu1⟩
    · cases e9
      subst hu1
      have hin0 := hu1f
      have hii0 := ins_iff.mp hin0
      obtain ⟨r0, rfl⟩ : ∃ n : Nat, r = (n : Int) := ⟨r.toNat, by omega⟩
      obtain ⟨c0, rfl⟩ : ∃ n : Nat, c = (n : Int) := ⟨c.toNat, by omega⟩
      simp only [← zI_n]
      have hcc : (8 * r0 + c0) < 64 := by omega
      have hk9 := kc_lt (hC.1.1.2.1 (8 * r0 + c0) hcc)
      have hk7 := kc_live (hC.1.1.2.1 (8 * r0 + c0) hcc)
      have hk6 := kc_none (hC.1.1.2.1 (8 * r0 + c0) hcc)
      have hk5 := kc_pale (hC.1.1.2.1 (8 * r0 + c0) hcc)
      have hok := hC.1.1.2.1 (8 * r0 + c0) hcc
      unfold okc at hok
      refine V_aload_n (i := 0) dX10_neighbours_5 rfl rfl ?_
      refine V_getC (k := 0) (q := 1) dX10_neighbours_6 (Or.inr ⟨rfl, Nat.le_of_ble_eq_true rfl⟩) rfl rfl rfl (Nat.le_of_ble_eq_true rfl) flRX10_10 ?_
      refine V_iload_n (i := 1) dX10_neighbours_9 rfl rfl ?_
      refine V_iload_n (i := 2) dX10_neighbours_10 rfl rfl ?_
      refine V_callSF dX10_neighbours_11 (c_cellNumber (r := r0) (c := c0) (rfl) (rfl)) okX10_cellNumber lkRX10_82 rfl rfl (Nat.le_of_ble_eq_true rfl) ⟨Nat.le_of_ble_eq_true rfl, Nat.le_of_ble_eq_true rfl⟩ rfl ?_
      refine V_bipush_n (v := 42) dX10_neighbours_14 (by decide) ?_
      refine V_callVF dX10_neighbours_16 (c_countAround hC.1.1 (k := (8 * r0 + c0)) (kd := 42) (q := 0) (by omega) (by omega)) okX8_countAround lkRX10_183 (Or.inr ⟨rfl, Nat.le_of_ble_eq_true rfl⟩) rfl rfl rfl rfl (Nat.le_of_ble_eq_true rfl) ⟨Nat.le_of_ble_eq_true rfl, Nat.le_of_ble_eq_true rfl⟩ rfl ?_
      refine V_iret dX10_neighbours_19 rfl rfl ?_
      have e9 : fNeighbours S (r0 : Int) (c0 : Int) = (0, nI (near S.1.1 (8 * r0 + c0) 0), S) := by simp [fNeighbours, fCell, fLive, q2, cl_nat, b2, hin0]
      rw [e9]
      exact ⟨Or.inl ⟨rfl, rfl⟩, ⟨hC.1, hC.2.1, hC.2.2.1, hC.2.2.2.1, hC.2.2.2.2.1, hC.2.2.2.2.2⟩, Fr.nil⟩
    · cases e9
  · rcases hu1 with ⟨hu1f, e9, hu1⟩ | ⟨hu1f, e9, hu1⟩
    · cases e9
    · cases e9
      subst hu1
      have e9 : fNeighbours S r c = (1, 0, S) := by simp [fNeighbours, fCell, fLive, q2, cl_nat, b2, hu1f]
      rw [e9]
      exact ⟨Or.inr ⟨Nat.le_of_ble_eq_true rfl, rfl⟩, ⟨hC.1, hC.2.1, hC.2.2.1, hC.2.2.2.1, hC.2.2.2.2.1, hC.2.2.2.2.2⟩, Fr.nil⟩
set_option maxRecDepth 100000 in
set_option maxHeartbeats 1000000 in
theorem c_neighboursOf {x y : Int32} {r c : Int} {q : Nat} {S : Sys} {w : Wd} (hC : CI w S) (hx : x = zI r) (hy : y = zI c) (r1 : -2147483648 ≤ r) (r2 : r < 2147483648) (c1 : -2147483648 ≤ c) (c2 : c < 2147483648) (hq : q < 65536) : Ct 1 MX10_neighboursOf 10 4 24 [.ref 0, .int x, .int y, .int (nI q)] w (PoF ["java/lang/IndexOutOfBoundsException", "java/lang/IllegalArgumentException"] (fNeighboursOf S r c q) w) := by
  refine Ct_of (by decide +kernel) rfl (Nat.le_of_ble_eq_true rfl) rfl ?_
  subst hx hy
  refine V_iload_n (i := 1) dX10_neighboursOf_0 rfl rfl ?_
  refine V_iload_n (i := 2) dX10_neighboursOf_1 rfl rfl ?_
  refine V_callS dX10_neighboursOf_2 (c_requireCell (r := r) (c := c) rfl rfl (by omega) (by omega) (by omega) (by omega)) okX10_requireCell lkRX10_74 rfl rfl (Nat.le_of_ble_eq_true rfl) ⟨Nat.le_of_ble_eq_true rfl, Nat.le_of_ble_eq_true rfl⟩ rfl ⟨by decide, by decide⟩ (fun v9 u1 hu1 => ?_) (fun E9 u1 hu1 => ?_)
  · rcases hu1 with ⟨hu1f, e9, hu1⟩ | ⟨hu1f, e9, hu1⟩
    · cases e9
      subst hu1
      have hin0 := hu1f
      have hii0 := ins_iff.mp hin0
      obtain ⟨r0, rfl⟩ : ∃ n : Nat, r = (n : Int) := ⟨r.toNat, by omega⟩
      obtain ⟨c0, rfl⟩ : ∃ n : Nat, c = (n : Int) := ⟨c.toNat, by omega⟩
      simp only [← zI_n]
      have hcc : (8 * r0 + c0) < 64 := by omega
      have hk9 := kc_lt (hC.1.1.2.1 (8 * r0 + c0) hcc)
      have hk7 := kc_live (hC.1.1.2.1 (8 * r0 + c0) hcc)
      have hk6 := kc_none (hC.1.1.2.1 (8 * r0 + c0) hcc)
      have hk5 := kc_pale (hC.1.1.2.1 (8 * r0 + c0) hcc)
      have hok := hC.1.1.2.1 (8 * r0 + c0) hcc
      unfold okc at hok
      refine V_iload_n (i := 3) dX10_neighboursOf_5 rfl rfl ?_
      refine V_callS dX10_neighboursOf_6 (c_requireColour (q := q) (by omega)) okX10_requireColour lkRX10_78 rfl rfl (Nat.le_of_ble_eq_true rfl) ⟨Nat.le_of_ble_eq_true rfl, Nat.le_of_ble_eq_true rfl⟩ rfl ⟨by decide, by decide⟩ (fun v9 u2 hu2 => ?_) (fun E9 u2 hu2 => ?_)
      · rcases hu2 with ⟨hu2f, e9, hu2⟩ | ⟨hu2f, e9, hu2⟩
        · cases e9
          subst hu2
          have hcq := hu2f
          have hcq2 := isC_iff.mp hcq
          refine V_aload_n (i := 0) dX10_neighboursOf_9 rfl rfl ?_
          refine V_getC (k := 0) (q := 1) dX10_neighboursOf_10 (Or.inr ⟨rfl, Nat.le_of_ble_eq_true rfl⟩) rfl rfl rfl (Nat.le_of_ble_eq_true rfl) flRX10_10 ?_
          refine V_iload_n (i := 1) dX10_neighboursOf_13 rfl rfl ?_
          refine V_iload_n (i := 2) dX10_neighboursOf_14 rfl rfl ?_
          refine V_callSF dX10_neighboursOf_15 (c_cellNumber (r := r0) (c := c0) (rfl) (rfl)) okX10_cellNumber lkRX10_82 rfl rfl (Nat.le_of_ble_eq_true rfl) ⟨Nat.le_of_ble_eq_true rfl, Nat.le_of_ble_eq_true rfl⟩ rfl ?_
          refine V_iload_n (i := 3) dX10_neighboursOf_18 rfl rfl ?_
          refine V_callVF dX10_neighboursOf_19 (c_countAround hC.1.1 (k := (8 * r0 + c0)) (kd := q) (q := q) (by omega) (by omega)) okX8_countAround lkRX10_183 (Or.inr ⟨rfl, Nat.le_of_ble_eq_true rfl⟩) rfl rfl rfl rfl (Nat.le_of_ble_eq_true rfl) ⟨Nat.le_of_ble_eq_true rfl, Nat.le_of_ble_eq_true rfl⟩ rfl ?_
          refine V_iret dX10_neighboursOf_22 rfl rfl ?_
          have e9 : fNeighboursOf S (r0 : Int) (c0 : Int) q = (0, nI (near S.1.1 (8 * r0 + c0) q), S) := by simp [fNeighboursOf, fCell, fLive, q2, cl_nat, b2, hin0, hcq]
          rw [e9]
          exact ⟨Or.inl ⟨rfl, rfl⟩, ⟨hC.1, hC.2.1, hC.2.2.1, hC.2.2.2.1, hC.2.2.2.2.1, hC.2.2.2.2.2⟩, Fr.nil⟩
        · cases e9
      · rcases hu2 with ⟨hu2f, e9, hu2⟩ | ⟨hu2f, e9, hu2⟩
        · cases e9
        · cases e9
          subst hu2
          have e9 : fNeighboursOf S (r0 : Int) (c0 : Int) q = (2, 0, S) := by simp [fNeighboursOf, fCell, fLive, q2, cl_nat, b2, hin0, hu2f]
          rw [e9]
          exact ⟨Or.inr ⟨Nat.le_of_ble_eq_true rfl, rfl⟩, ⟨hC.1, hC.2.1, hC.2.2.1, hC.2.2.2.1, hC.2.2.2.2.1, hC.2.2.2.2.2⟩, Fr.nil⟩
    · cases e9
  · rcases hu1 with ⟨hu1f, e9, hu1⟩ | ⟨hu1f, e9, hu1⟩
    · cases e9
    · cases e9
      subst hu1
      have e9 : fNeighboursOf S r c q = (1, 0, S) := by simp [fNeighboursOf, fCell, fLive, q2, cl_nat, b2, hu1f]
      rw [e9]
      exact ⟨Or.inr ⟨Nat.le_of_ble_eq_true rfl, rfl⟩, ⟨hC.1, hC.2.1, hC.2.2.1, hC.2.2.2.1, hC.2.2.2.2.1, hC.2.2.2.2.2⟩, Fr.nil⟩
theorem most_0 {C : Nat → Nat} {k : Nat} (hk : k < 64) (h : ∀ k, k < 64 → okc (C k)) (h0 : most C k = 0) : near C k 0 = 0 := by
  refine Nat.eq_zero_of_not_pos fun q => ?_
  have := most_ok hk h q
  omega
theorem most_n {C : Nat → Nat} {k : Nat} (hk : k < 64) (h : ∀ k, k < 64 → okc (C k)) (h0 : near C k 0 = 0) : most C k = 0 := by
  have h1 := near_col hk h
  have e : ∀ i, i ≤ 4 → mostN C k i = (0, 0) := by
    intro i
    induction i with
    | zero => intro _; rfl
    | succ i ih =>
      intro hi
      rw [mostN_s, ih (by omega)]
      refine if_neg ?_
      show ¬ 0 < near C k (97 + i)
      match i, hi with
      | 0, _ => show ¬ 0 < near C k 97; omega
      | 1, _ => show ¬ 0 < near C k 98; omega
      | 2, _ => show ¬ 0 < near C k 99; omega
      | 3, _ => show ¬ 0 < near C k 100; omega
  unfold most
  rw [e 4 (by omega)]
set_option maxRecDepth 100000 in
set_option maxHeartbeats 1000000 in
theorem c_birthColour {x y : Int32} {r c : Int} {S : Sys} {w : Wd} (hC : CI w S) (hx : x = zI r) (hy : y = zI c) (r1 : -2147483648 ≤ r) (r2 : r < 2147483648) (c1 : -2147483648 ≤ c) (c2 : c < 2147483648) : Ct 1 MX10_birthColour 10 4 24 [.ref 0, .int x, .int y] w (PoF ["java/lang/IndexOutOfBoundsException", "java/util/NoSuchElementException"] (fBirthColour S r c) w) := by
  refine Ct_of (by decide +kernel) rfl (Nat.le_of_ble_eq_true rfl) rfl ?_
  subst hx hy
  refine V_iload_n (i := 1) dX10_birthColour_0 rfl rfl ?_
  refine V_iload_n (i := 2) dX10_birthColour_1 rfl rfl ?_
  refine V_callS dX10_birthColour_2 (c_requireCell (r := r) (c := c) rfl rfl (by omega) (by omega) (by omega) (by omega)) okX10_requireCell lkRX10_74 rfl rfl (Nat.le_of_ble_eq_true rfl) ⟨Nat.le_of_ble_eq_true rfl, Nat.le_of_ble_eq_true rfl⟩ rfl ⟨by decide, by decide⟩ (fun v9 u1 hu1 => ?_) (fun E9 u1 hu1 => ?_)
  · rcases hu1 with ⟨hu1f, e9, hu1⟩ | ⟨hu1f, e9, hu1⟩
    · cases e9
      subst hu1
      have hin0 := hu1f
      have hii0 := ins_iff.mp hin0
      obtain ⟨r0, rfl⟩ : ∃ n : Nat, r = (n : Int) := ⟨r.toNat, by omega⟩
      obtain ⟨c0, rfl⟩ : ∃ n : Nat, c = (n : Int) := ⟨c.toNat, by omega⟩
      simp only [← zI_n]
      have hcc : (8 * r0 + c0) < 64 := by omega
      have hk9 := kc_lt (hC.1.1.2.1 (8 * r0 + c0) hcc)
      have hk7 := kc_live (hC.1.1.2.1 (8 * r0 + c0) hcc)
      have hk6 := kc_none (hC.1.1.2.1 (8 * r0 + c0) hcc)
      have hk5 := kc_pale (hC.1.1.2.1 (8 * r0 + c0) hcc)
      have hok := hC.1.1.2.1 (8 * r0 + c0) hcc
      unfold okc at hok
      refine V_aload_n (i := 0) dX10_birthColour_5 rfl rfl ?_
      refine V_getC (k := 0) (q := 1) dX10_birthColour_6 (Or.inr ⟨rfl, Nat.le_of_ble_eq_true rfl⟩) rfl rfl rfl (Nat.le_of_ble_eq_true rfl) flRX10_10 ?_
      refine V_iload_n (i := 1) dX10_birthColour_9 rfl rfl ?_
      refine V_iload_n (i := 2) dX10_birthColour_10 rfl rfl ?_
      refine V_callSF dX10_birthColour_11 (c_cellNumber (r := r0) (c := c0) (rfl) (rfl)) okX10_cellNumber lkRX10_82 rfl rfl (Nat.le_of_ble_eq_true rfl) ⟨Nat.le_of_ble_eq_true rfl, Nat.le_of_ble_eq_true rfl⟩ rfl ?_
      refine V_callVF dX10_birthColour_14 (c_mostColourAround hC.1.1 (k := (8 * r0 + c0)) (by omega)) okX8_mostColourAround lkRX10_187 (Or.inr ⟨rfl, Nat.le_of_ble_eq_true rfl⟩) rfl rfl rfl rfl (Nat.le_of_ble_eq_true rfl) ⟨Nat.le_of_ble_eq_true rfl, Nat.le_of_ble_eq_true rfl⟩ rfl ?_
      refine V_istore_n (i := 3) dX10_birthColour_17 rfl (Nat.le_of_ble_eq_true rfl) rfl rfl ?_
      have hmo := (mostN_le (C := S.1.1) (k := 8 * r0 + c0) 4).2
      have hmd : most S.1.1 (8 * r0 + c0) = (mostN S.1.1 (8 * r0 + c0) 4).2 := rfl
      refine V_iload_n (i := 3) dX10_birthColour_18 rfl rfl ?_
      refine V_if_ne_n (tgt := 32) dX10_birthColour_19 (by decide) (by omega) (fun h19 => ?_) (fun h19 => ?_)
      · have hz : ¬ near S.1.1 (8 * r0 + c0) 0 = 0 := fun q => h19 (most_n hcc hC.1.1.2.1 q)
        refine V_iload_n (i := 3) dX10_birthColour_32 rfl rfl ?_
        refine V_iret dX10_birthColour_33 rfl (nar_char (by omega)) ?_
        have e9 : fBirthColour S (r0 : Int) (c0 : Int) = (0, nI (most S.1.1 (8 * r0 + c0)), S) := by simp [fBirthColour, fCell, fLive, q2, cl_nat, b2, hin0, hz]
        rw [e9]
        exact ⟨Or.inl ⟨rfl, rfl⟩, ⟨hC.1, hC.2.1, hC.2.2.1, hC.2.2.2.1, hC.2.2.2.2.1, hC.2.2.2.2.2⟩, Fr.nil⟩
      · have hz : near S.1.1 (8 * r0 + c0) 0 = 0 := most_0 hcc hC.1.1.2.1 h19
        refine V_throwN dX10_birthColour_22 dX10_birthColour_25 dX10_birthColour_26 dX10_birthColour_28 dX10_birthColour_31 thr_NSE (List.mem_of_getElem? (i := 22) rfl) rfl (Nat.le_of_ble_eq_true rfl) (by decide) (by decide) ?_
        have e9 : fBirthColour S (r0 : Int) (c0 : Int) = (2, 0, S) := by simp [fBirthColour, fCell, fLive, q2, cl_nat, b2, hin0, hz]
        rw [e9]
        exact ⟨Or.inr ⟨Nat.le_of_ble_eq_true rfl, rfl⟩, ⟨hC.1, hC.2.1, hC.2.2.1, hC.2.2.2.1, hC.2.2.2.2.1, hC.2.2.2.2.2⟩, Fr.nil⟩
    · cases e9
  · rcases hu1 with ⟨hu1f, e9, hu1⟩ | ⟨hu1f, e9, hu1⟩
    · cases e9
    · cases e9
      subst hu1
      have e9 : fBirthColour S r c = (1, 0, S) := by simp [fBirthColour, fCell, fLive, q2, cl_nat, b2, hu1f]
      rw [e9]
      exact ⟨Or.inr ⟨Nat.le_of_ble_eq_true rfl, rfl⟩, ⟨hC.1, hC.2.1, hC.2.2.1, hC.2.2.2.1, hC.2.2.2.2.1, hC.2.2.2.2.2⟩, Fr.nil⟩
set_option maxRecDepth 100000 in
set_option maxHeartbeats 1000000 in
theorem c_livingCount {S : Sys} {w : Wd} (hC : CI w S) : Ct 1 MX10_livingCount 10 4 24 [.ref 0] w (PoF [] (fLivingCount S) w) := by
  refine Ct_of (by decide +kernel) rfl (Nat.le_of_ble_eq_true rfl) rfl ?_
  refine V_aload_n (i := 0) dX10_livingCount_0 rfl rfl ?_
  refine V_getC (k := 0) (q := 1) dX10_livingCount_1 (Or.inr ⟨rfl, Nat.le_of_ble_eq_true rfl⟩) rfl rfl rfl (Nat.le_of_ble_eq_true rfl) flRX10_10 ?_
  refine V_bipush_n (v := 42) dX10_livingCount_4 (by decide) ?_
  refine V_callVF dX10_livingCount_6 (c_count hC.1.1 (q := 42) (by omega)) okX8_count lkRX10_101 (Or.inr ⟨rfl, Nat.le_of_ble_eq_true rfl⟩) rfl rfl rfl rfl (Nat.le_of_ble_eq_true rfl) ⟨Nat.le_of_ble_eq_true rfl, Nat.le_of_ble_eq_true rfl⟩ rfl ?_
  refine V_iret dX10_livingCount_9 rfl rfl ?_
  have e9 : fLivingCount S = (0, nI (cnt S.1.1 42), S) := by simp [fLivingCount, fCell, fLive, q2, cl_nat, b2]
  rw [e9]
  exact ⟨Or.inl ⟨rfl, rfl⟩, ⟨hC.1, hC.2.1, hC.2.2.1, hC.2.2.2.1, hC.2.2.2.2.1, hC.2.2.2.2.2⟩, Fr.nil⟩
set_option maxRecDepth 100000 in
set_option maxHeartbeats 1000000 in
theorem c_bleachedCount {S : Sys} {w : Wd} (hC : CI w S) : Ct 1 MX10_bleachedCount 10 4 24 [.ref 0] w (PoF [] (fBleachedCount S) w) := by
  refine Ct_of (by decide +kernel) rfl (Nat.le_of_ble_eq_true rfl) rfl ?_
  refine V_aload_n (i := 0) dX10_bleachedCount_0 rfl rfl ?_
  refine V_getC (k := 0) (q := 1) dX10_bleachedCount_1 (Or.inr ⟨rfl, Nat.le_of_ble_eq_true rfl⟩) rfl rfl rfl (Nat.le_of_ble_eq_true rfl) flRX10_10 ?_
  refine V_bipush_n (v := 35) dX10_bleachedCount_4 (by decide) ?_
  refine V_callVF dX10_bleachedCount_6 (c_count hC.1.1 (q := 35) (by omega)) okX8_count lkRX10_101 (Or.inr ⟨rfl, Nat.le_of_ble_eq_true rfl⟩) rfl rfl rfl rfl (Nat.le_of_ble_eq_true rfl) ⟨Nat.le_of_ble_eq_true rfl, Nat.le_of_ble_eq_true rfl⟩ rfl ?_
  refine V_iret dX10_bleachedCount_9 rfl rfl ?_
  have e9 : fBleachedCount S = (0, nI (cnt S.1.1 35), S) := by simp [fBleachedCount, fCell, fLive, q2, cl_nat, b2]
  rw [e9]
  exact ⟨Or.inl ⟨rfl, rfl⟩, ⟨hC.1, hC.2.1, hC.2.2.1, hC.2.2.2.1, hC.2.2.2.2.1, hC.2.2.2.2.2⟩, Fr.nil⟩
set_option maxRecDepth 100000 in
set_option maxHeartbeats 1000000 in
theorem c_countOf {q : Nat} {S : Sys} {w : Wd} (hC : CI w S) (hq : q < 65536) : Ct 1 MX10_countOf 10 4 24 [.ref 0, .int (nI q)] w (PoF ["java/lang/IllegalArgumentException"] (fCountOf S q) w) := by
  refine Ct_of (by decide +kernel) rfl (Nat.le_of_ble_eq_true rfl) rfl ?_
  refine V_iload_n (i := 1) dX10_countOf_0 rfl rfl ?_
  refine V_callS dX10_countOf_1 (c_requireColour (q := q) (by omega)) okX10_requireColour lkRX10_78 rfl rfl (Nat.le_of_ble_eq_true rfl) ⟨Nat.le_of_ble_eq_true rfl, Nat.le_of_ble_eq_true rfl⟩ rfl ⟨by decide, by decide⟩ (fun v9 u1 hu1 => ?_) (fun E9 u1 hu1 => ?_)
  · rcases hu1 with ⟨hu1f, e9, hu1⟩ | ⟨hu1f, e9, hu1⟩
    · cases e9
      subst hu1
      have hcq := hu1f
      have hcq2 := isC_iff.mp hcq
      refine V_aload_n (i := 0) dX10_countOf_4 rfl rfl ?_
      refine V_getC (k := 0) (q := 1) dX10_countOf_5 (Or.inr ⟨rfl, Nat.le_of_ble_eq_true rfl⟩) rfl rfl rfl (Nat.le_of_ble_eq_true rfl) flRX10_10 ?_
      refine V_iload_n (i := 1) dX10_countOf_8 rfl rfl ?_
      refine V_callVF dX10_countOf_9 (c_count hC.1.1 (q := q) (by omega)) okX8_count lkRX10_101 (Or.inr ⟨rfl, Nat.le_of_ble_eq_true rfl⟩) rfl rfl rfl rfl (Nat.le_of_ble_eq_true rfl) ⟨Nat.le_of_ble_eq_true rfl, Nat.le_of_ble_eq_true rfl⟩ rfl ?_
      refine V_iret dX10_countOf_12 rfl rfl ?_
      have e9 : fCountOf S q = (0, nI (cnt S.1.1 q), S) := by simp [fCountOf, fCell, fLive, q2, cl_nat, b2, hcq]
      rw [e9]
      exact ⟨Or.inl ⟨rfl, rfl⟩, ⟨hC.1, hC.2.1, hC.2.2.1, hC.2.2.2.1, hC.2.2.2.2.1, hC.2.2.2.2.2⟩, Fr.nil⟩
    · cases e9
  · rcases hu1 with ⟨hu1f, e9, hu1⟩ | ⟨hu1f, e9, hu1⟩
    · cases e9
    · cases e9
      subst hu1
      have e9 : fCountOf S q = (1, 0, S) := by simp [fCountOf, fCell, fLive, q2, cl_nat, b2, hu1f]
      rw [e9]
      exact ⟨Or.inr ⟨Nat.le_of_ble_eq_true rfl, rfl⟩, ⟨hC.1, hC.2.1, hC.2.2.1, hC.2.2.2.1, hC.2.2.2.2.1, hC.2.2.2.2.2⟩, Fr.nil⟩
set_option maxRecDepth 100000 in
set_option maxHeartbeats 1000000 in
theorem c_tideCount {S : Sys} {w : Wd} (hC : CI w S) : Ct 1 MX10_tideCount 10 4 24 [.ref 0] w (PoF [] (fTotal S 0) w) := by
  refine Ct_of (by decide +kernel) rfl (Nat.le_of_ble_eq_true rfl) rfl ?_
  refine V_aload_n (i := 0) dX10_tideCount_0 rfl rfl ?_
  refine V_getC (k := 0) (q := 1) dX10_tideCount_1 (Or.inr ⟨rfl, Nat.le_of_ble_eq_true rfl⟩) rfl rfl rfl (Nat.le_of_ble_eq_true rfl) flRX10_10 ?_
  refine V_getI (k := 3) dX10_tideCount_4 (Or.inr ⟨rfl, Nat.le_of_ble_eq_true rfl⟩) rfl rfl rfl (Nat.le_of_ble_eq_true rfl) flRX10_166 ?_
  refine V_top (y := (S.1.2.2 0)) (hC.1.1.2.2.2.2.2.2 0 (by decide)) ?_
  refine V_iret dX10_tideCount_7 rfl rfl ?_
  have e9 : fTotal S 0 = (0, (S.1.2.2 0), S) := by simp [fTotal, fCell, fLive, q2, cl_nat, b2]
  rw [e9]
  exact ⟨Or.inl ⟨rfl, rfl⟩, ⟨hC.1, hC.2.1, hC.2.2.1, hC.2.2.2.1, hC.2.2.2.2.1, hC.2.2.2.2.2⟩, Fr.nil⟩
set_option maxRecDepth 100000 in
set_option maxHeartbeats 1000000 in
theorem c_placedCount {S : Sys} {w : Wd} (hC : CI w S) : Ct 1 MX10_placedCount 10 4 24 [.ref 0] w (PoF [] (fTotal S 1) w) := by
  refine Ct_of (by decide +kernel) rfl (Nat.le_of_ble_eq_true rfl) rfl ?_
  refine V_aload_n (i := 0) dX10_placedCount_0 rfl rfl ?_
  refine V_getC (k := 0) (q := 1) dX10_placedCount_1 (Or.inr ⟨rfl, Nat.le_of_ble_eq_true rfl⟩) rfl rfl rfl (Nat.le_of_ble_eq_true rfl) flRX10_10 ?_
  refine V_getI (k := 4) dX10_placedCount_4 (Or.inr ⟨rfl, Nat.le_of_ble_eq_true rfl⟩) rfl rfl rfl (Nat.le_of_ble_eq_true rfl) flRX10_252 ?_
  refine V_top (y := (S.1.2.2 1)) (hC.1.1.2.2.2.2.2.2 1 (by decide)) ?_
  refine V_iret dX10_placedCount_7 rfl rfl ?_
  have e9 : fTotal S 1 = (0, (S.1.2.2 1), S) := by simp [fTotal, fCell, fLive, q2, cl_nat, b2]
  rw [e9]
  exact ⟨Or.inl ⟨rfl, rfl⟩, ⟨hC.1, hC.2.1, hC.2.2.1, hC.2.2.2.1, hC.2.2.2.2.1, hC.2.2.2.2.2⟩, Fr.nil⟩
set_option maxRecDepth 100000 in
set_option maxHeartbeats 1000000 in
theorem c_removedCount {S : Sys} {w : Wd} (hC : CI w S) : Ct 1 MX10_removedCount 10 4 24 [.ref 0] w (PoF [] (fTotal S 2) w) := by
  refine Ct_of (by decide +kernel) rfl (Nat.le_of_ble_eq_true rfl) rfl ?_
  refine V_aload_n (i := 0) dX10_removedCount_0 rfl rfl ?_
  refine V_getC (k := 0) (q := 1) dX10_removedCount_1 (Or.inr ⟨rfl, Nat.le_of_ble_eq_true rfl⟩) rfl rfl rfl (Nat.le_of_ble_eq_true rfl) flRX10_10 ?_
  refine V_getI (k := 5) dX10_removedCount_4 (Or.inr ⟨rfl, Nat.le_of_ble_eq_true rfl⟩) rfl rfl rfl (Nat.le_of_ble_eq_true rfl) flRX10_255 ?_
  refine V_top (y := (S.1.2.2 2)) (hC.1.1.2.2.2.2.2.2 2 (by decide)) ?_
  refine V_iret dX10_removedCount_7 rfl rfl ?_
  have e9 : fTotal S 2 = (0, (S.1.2.2 2), S) := by simp [fTotal, fCell, fLive, q2, cl_nat, b2]
  rw [e9]
  exact ⟨Or.inl ⟨rfl, rfl⟩, ⟨hC.1, hC.2.1, hC.2.2.1, hC.2.2.2.1, hC.2.2.2.2.1, hC.2.2.2.2.2⟩, Fr.nil⟩
set_option maxRecDepth 100000 in
set_option maxHeartbeats 1000000 in
theorem c_bornCount {S : Sys} {w : Wd} (hC : CI w S) : Ct 1 MX10_bornCount 10 4 24 [.ref 0] w (PoF [] (fTotal S 3) w) := by
  refine Ct_of (by decide +kernel) rfl (Nat.le_of_ble_eq_true rfl) rfl ?_
  refine V_aload_n (i := 0) dX10_bornCount_0 rfl rfl ?_
  refine V_getC (k := 0) (q := 1) dX10_bornCount_1 (Or.inr ⟨rfl, Nat.le_of_ble_eq_true rfl⟩) rfl rfl rfl (Nat.le_of_ble_eq_true rfl) flRX10_10 ?_
  refine V_getI (k := 6) dX10_bornCount_4 (Or.inr ⟨rfl, Nat.le_of_ble_eq_true rfl⟩) rfl rfl rfl (Nat.le_of_ble_eq_true rfl) flRX10_258 ?_
  refine V_top (y := (S.1.2.2 3)) (hC.1.1.2.2.2.2.2.2 3 (by decide)) ?_
  refine V_iret dX10_bornCount_7 rfl rfl ?_
  have e9 : fTotal S 3 = (0, (S.1.2.2 3), S) := by simp [fTotal, fCell, fLive, q2, cl_nat, b2]
  rw [e9]
  exact ⟨Or.inl ⟨rfl, rfl⟩, ⟨hC.1, hC.2.1, hC.2.2.1, hC.2.2.2.1, hC.2.2.2.2.1, hC.2.2.2.2.2⟩, Fr.nil⟩
set_option maxRecDepth 100000 in
set_option maxHeartbeats 1000000 in
theorem c_bleachings {S : Sys} {w : Wd} (hC : CI w S) : Ct 1 MX10_bleachings 10 4 24 [.ref 0] w (PoF [] (fTotal S 4) w) := by
  refine Ct_of (by decide +kernel) rfl (Nat.le_of_ble_eq_true rfl) rfl ?_
  refine V_aload_n (i := 0) dX10_bleachings_0 rfl rfl ?_
  refine V_getC (k := 0) (q := 1) dX10_bleachings_1 (Or.inr ⟨rfl, Nat.le_of_ble_eq_true rfl⟩) rfl rfl rfl (Nat.le_of_ble_eq_true rfl) flRX10_10 ?_
  refine V_getI (k := 7) dX10_bleachings_4 (Or.inr ⟨rfl, Nat.le_of_ble_eq_true rfl⟩) rfl rfl rfl (Nat.le_of_ble_eq_true rfl) flRX10_261 ?_
  refine V_top (y := (S.1.2.2 4)) (hC.1.1.2.2.2.2.2.2 4 (by decide)) ?_
  refine V_iret dX10_bleachings_7 rfl rfl ?_
  have e9 : fTotal S 4 = (0, (S.1.2.2 4), S) := by simp [fTotal, fCell, fLive, q2, cl_nat, b2]
  rw [e9]
  exact ⟨Or.inl ⟨rfl, rfl⟩, ⟨hC.1, hC.2.1, hC.2.2.1, hC.2.2.2.1, hC.2.2.2.2.1, hC.2.2.2.2.2⟩, Fr.nil⟩
set_option maxRecDepth 100000 in
set_option maxHeartbeats 1000000 in
theorem c_washedCount {S : Sys} {w : Wd} (hC : CI w S) : Ct 1 MX10_washedCount 10 4 24 [.ref 0] w (PoF [] (fTotal S 5) w) := by
  refine Ct_of (by decide +kernel) rfl (Nat.le_of_ble_eq_true rfl) rfl ?_
  refine V_aload_n (i := 0) dX10_washedCount_0 rfl rfl ?_
  refine V_getC (k := 0) (q := 1) dX10_washedCount_1 (Or.inr ⟨rfl, Nat.le_of_ble_eq_true rfl⟩) rfl rfl rfl (Nat.le_of_ble_eq_true rfl) flRX10_10 ?_
  refine V_getI (k := 8) dX10_washedCount_4 (Or.inr ⟨rfl, Nat.le_of_ble_eq_true rfl⟩) rfl rfl rfl (Nat.le_of_ble_eq_true rfl) flRX10_264 ?_
  refine V_top (y := (S.1.2.2 5)) (hC.1.1.2.2.2.2.2.2 5 (by decide)) ?_
  refine V_iret dX10_washedCount_7 rfl rfl ?_
  have e9 : fTotal S 5 = (0, (S.1.2.2 5), S) := by simp [fTotal, fCell, fLive, q2, cl_nat, b2]
  rw [e9]
  exact ⟨Or.inl ⟨rfl, rfl⟩, ⟨hC.1, hC.2.1, hC.2.2.1, hC.2.2.2.1, hC.2.2.2.2.1, hC.2.2.2.2.2⟩, Fr.nil⟩
set_option maxRecDepth 100000 in
set_option maxHeartbeats 1000000 in
theorem c_isStill {S : Sys} {w : Wd} (hC : CI w S) : Ct 1 MX10_isStill 10 4 24 [.ref 0] w (PoF [] (fIsStill S) w) := by
  refine Ct_of (by decide +kernel) rfl (Nat.le_of_ble_eq_true rfl) rfl ?_
  refine V_aload_n (i := 0) dX10_isStill_0 rfl rfl ?_
  refine V_getC (k := 0) (q := 1) dX10_isStill_1 (Or.inr ⟨rfl, Nat.le_of_ble_eq_true rfl⟩) rfl rfl rfl (Nat.le_of_ble_eq_true rfl) flRX10_10 ?_
  refine V_callVF dX10_isStill_4 (c_staysInTide hC.1.1) okX8_staysInTide lkRX10_229 (Or.inr ⟨rfl, Nat.le_of_ble_eq_true rfl⟩) rfl rfl rfl rfl (Nat.le_of_ble_eq_true rfl) ⟨Nat.le_of_ble_eq_true rfl, Nat.le_of_ble_eq_true rfl⟩ rfl ?_
  refine V_iret dX10_isStill_7 rfl (nar_bool ite_le) ?_
  have e9 : fIsStill S = (0, nI (if stl S.1 = true then 1 else 0), S) := by simp [fIsStill, fCell, fLive, q2, cl_nat, b2]
  rw [e9]
  exact ⟨Or.inl ⟨rfl, rfl⟩, ⟨hC.1, hC.2.1, hC.2.2.1, hC.2.2.2.1, hC.2.2.2.2.1, hC.2.2.2.2.2⟩, Fr.nil⟩
theorem rlL_lt2 {r : Nat} : rlL r < 128 := by unfold rlL; split <;> (try split) <;> omega
set_option maxRecDepth 100000 in
set_option maxHeartbeats 1000000 in
theorem c_rule {S : Sys} {w : Wd} (hC : CI w S) : Ct 1 MX10_rule 10 4 24 [.ref 0] w (PoF [] (fRule S) w) := by
  refine Ct_of (by decide +kernel) rfl (Nat.le_of_ble_eq_true rfl) rfl ?_
  have hll := @rlL_lt2 S.1.2.1
  refine V_aload_n (i := 0) dX10_rule_0 rfl rfl ?_
  refine V_getC (k := 0) (q := 1) dX10_rule_1 (Or.inr ⟨rfl, Nat.le_of_ble_eq_true rfl⟩) rfl rfl rfl (Nat.le_of_ble_eq_true rfl) flRX10_10 ?_
  refine V_getR (k := 2) dX10_rule_4 (Or.inr ⟨rfl, Nat.le_of_ble_eq_true rfl⟩) rfl rfl rfl (Nat.le_of_ble_eq_true rfl) flRX10_173 hC.1.1.2.2.2.2.2.1 ?_
  refine V_getK dX10_rule_7 (rl_letter hC.1.1.2.2.2.2.1) flRX10_238 ?_
  refine V_i2c_n dX10_rule_10 (by omega) ?_
  refine V_iret dX10_rule_11 rfl (nar_char (by omega)) ?_
  have e9 : fRule S = (0, nI (rlL S.1.2.1), S) := by simp [fRule, fCell, fLive, q2, cl_nat, b2]
  rw [e9]
  exact ⟨Or.inl ⟨rfl, rfl⟩, ⟨hC.1, hC.2.1, hC.2.2.1, hC.2.2.2.1, hC.2.2.2.2.1, hC.2.2.2.2.2⟩, Fr.nil⟩
set_option maxRecDepth 100000 in
set_option maxHeartbeats 1000000 in
theorem c_isBirth {x : Int32} {n : Int} {S : Sys} {w : Wd} (hC : CI w S) (hx : x = zI n) (n1 : -2147483648 ≤ n) (n2 : n < 2147483648) : Ct 1 MX10_isBirth 10 4 24 [.ref 0, .int x] w (PoF ["java/lang/IllegalArgumentException"] (fIsBirth S n) w) := by
  refine Ct_of (by decide +kernel) rfl (Nat.le_of_ble_eq_true rfl) rfl ?_
  subst hx
  refine V_iload_n (i := 1) dX10_isBirth_0 rfl rfl ?_
  refine V_callS dX10_isBirth_1 (c_requireNeighbours (n := n) rfl (by omega) (by omega)) okX10_requireNeighbours lkRX10_243 rfl rfl (Nat.le_of_ble_eq_true rfl) ⟨Nat.le_of_ble_eq_true rfl, Nat.le_of_ble_eq_true rfl⟩ rfl ⟨by decide, by decide⟩ (fun v9 u1 hu1 => ?_) (fun E9 u1 hu1 => ?_)
  · rcases hu1 with ⟨hu1f, e9, hu1⟩ | ⟨hu1f, e9, hu1⟩
    · cases e9
      subst hu1
      have hnr := hu1f
      obtain ⟨n0, rfl⟩ : ∃ m : Nat, n = (m : Int) := ⟨n.toNat, by omega⟩
      have hnn : (n0 : Int) ≤ 8 := by omega
      simp only [← zI_n]
      refine V_aload_n (i := 0) dX10_isBirth_4 rfl rfl ?_
      refine V_getC (k := 0) (q := 1) dX10_isBirth_5 (Or.inr ⟨rfl, Nat.le_of_ble_eq_true rfl⟩) rfl rfl rfl (Nat.le_of_ble_eq_true rfl) flRX10_10 ?_
      refine V_getR (k := 2) dX10_isBirth_8 (Or.inr ⟨rfl, Nat.le_of_ble_eq_true rfl⟩) rfl rfl rfl (Nat.le_of_ble_eq_true rfl) flRX10_173 hC.1.1.2.2.2.2.2.1 ?_
      refine V_iload_n (i := 1) dX10_isBirth_11 rfl rfl ?_
      refine V_callVOF dX10_isBirth_12 (c_bearsWith (r := S.1.2.1) hC.1.1.2.2.2.2.1 (n := n0) (by omega)) okX6_bearsWith lkRX10_246 (rl_O hC.1.1.2.2.2.2.1) rfl rfl (Nat.le_of_ble_eq_true rfl) ⟨Nat.le_of_ble_eq_true rfl, Nat.le_of_ble_eq_true rfl⟩ rfl ?_
      refine V_iret dX10_isBirth_15 rfl (nar_bool ite_le) ?_
      have e9 : fIsBirth S (n0 : Int) = (0, nI (if bears S.1.2.1 n0 = true then 1 else 0), S) := by simp [fIsBirth, fCell, fLive, q2, cl_nat, b2, hnn]
      rw [e9]
      exact ⟨Or.inl ⟨rfl, rfl⟩, ⟨hC.1, hC.2.1, hC.2.2.1, hC.2.2.2.1, hC.2.2.2.2.1, hC.2.2.2.2.2⟩, Fr.nil⟩
    · cases e9
  · rcases hu1 with ⟨hu1f, e9, hu1⟩ | ⟨hu1f, e9, hu1⟩
    · cases e9
    · cases e9
      subst hu1
      have e9 : fIsBirth S n = (1, 0, S) := by simp [fIsBirth, fCell, fLive, q2, cl_nat, b2, hu1f]
      rw [e9]
      exact ⟨Or.inr ⟨Nat.le_of_ble_eq_true rfl, rfl⟩, ⟨hC.1, hC.2.1, hC.2.2.1, hC.2.2.2.1, hC.2.2.2.2.1, hC.2.2.2.2.2⟩, Fr.nil⟩
set_option maxRecDepth 100000 in
set_option maxHeartbeats 1000000 in
theorem c_isSurvival {x : Int32} {n : Int} {S : Sys} {w : Wd} (hC : CI w S) (hx : x = zI n) (n1 : -2147483648 ≤ n) (n2 : n < 2147483648) : Ct 1 MX10_isSurvival 10 4 24 [.ref 0, .int x] w (PoF ["java/lang/IllegalArgumentException"] (fIsSurvival S n) w) := by
  refine Ct_of (by decide +kernel) rfl (Nat.le_of_ble_eq_true rfl) rfl ?_
  subst hx
  refine V_iload_n (i := 1) dX10_isSurvival_0 rfl rfl ?_
  refine V_callS dX10_isSurvival_1 (c_requireNeighbours (n := n) rfl (by omega) (by omega)) okX10_requireNeighbours lkRX10_243 rfl rfl (Nat.le_of_ble_eq_true rfl) ⟨Nat.le_of_ble_eq_true rfl, Nat.le_of_ble_eq_true rfl⟩ rfl ⟨by decide, by decide⟩ (fun v9 u1 hu1 => ?_) (fun E9 u1 hu1 => ?_)
  · rcases hu1 with ⟨hu1f, e9, hu1⟩ | ⟨hu1f, e9, hu1⟩
    · cases e9
      subst hu1
      have hnr := hu1f
      obtain ⟨n0, rfl⟩ : ∃ m : Nat, n = (m : Int) := ⟨n.toNat, by omega⟩
      have hnn : (n0 : Int) ≤ 8 := by omega
      simp only [← zI_n]
      refine V_aload_n (i := 0) dX10_isSurvival_4 rfl rfl ?_
      refine V_getC (k := 0) (q := 1) dX10_isSurvival_5 (Or.inr ⟨rfl, Nat.le_of_ble_eq_true rfl⟩) rfl rfl rfl (Nat.le_of_ble_eq_true rfl) flRX10_10 ?_
      refine V_getR (k := 2) dX10_isSurvival_8 (Or.inr ⟨rfl, Nat.le_of_ble_eq_true rfl⟩) rfl rfl rfl (Nat.le_of_ble_eq_true rfl) flRX10_173 hC.1.1.2.2.2.2.2.1 ?_
      refine V_iload_n (i := 1) dX10_isSurvival_11 rfl rfl ?_
      refine V_callVOF dX10_isSurvival_12 (c_sparesWith (r := S.1.2.1) hC.1.1.2.2.2.2.1 (n := n0) (by omega)) okX6_sparesWith lkRX10_249 (rl_O hC.1.1.2.2.2.2.1) rfl rfl (Nat.le_of_ble_eq_true rfl) ⟨Nat.le_of_ble_eq_true rfl, Nat.le_of_ble_eq_true rfl⟩ rfl ?_
      refine V_iret dX10_isSurvival_15 rfl (nar_bool ite_le) ?_
      have e9 : fIsSurvival S (n0 : Int) = (0, nI (if keeps S.1.2.1 n0 = true then 1 else 0), S) := by simp [fIsSurvival, fCell, fLive, q2, cl_nat, b2, hnn]
      rw [e9]
      exact ⟨Or.inl ⟨rfl, rfl⟩, ⟨hC.1, hC.2.1, hC.2.2.1, hC.2.2.2.1, hC.2.2.2.2.1, hC.2.2.2.2.2⟩, Fr.nil⟩
    · cases e9
  · rcases hu1 with ⟨hu1f, e9, hu1⟩ | ⟨hu1f, e9, hu1⟩
    · cases e9
    · cases e9
      subst hu1
      have e9 : fIsSurvival S n = (1, 0, S) := by simp [fIsSurvival, fCell, fLive, q2, cl_nat, b2, hu1f]
      rw [e9]
      exact ⟨Or.inr ⟨Nat.le_of_ble_eq_true rfl, rfl⟩, ⟨hC.1, hC.2.1, hC.2.2.1, hC.2.2.2.1, hC.2.2.2.2.1, hC.2.2.2.2.2⟩, Fr.nil⟩
set_option maxRecDepth 100000 in
set_option maxHeartbeats 1000000 in
theorem c_wouldLive {x y : Int32} {r c : Int} {S : Sys} {w : Wd} (hC : CI w S) (hx : x = zI r) (hy : y = zI c) (r1 : -2147483648 ≤ r) (r2 : r < 2147483648) (c1 : -2147483648 ≤ c) (c2 : c < 2147483648) : Ct 1 MX10_wouldLive 10 4 24 [.ref 0, .int x, .int y] w (PoF ["java/lang/IndexOutOfBoundsException"] (fWouldLive S r c) w) := by
  refine Ct_of (by decide +kernel) rfl (Nat.le_of_ble_eq_true rfl) rfl ?_
  subst hx hy
  refine V_iload_n (i := 1) dX10_wouldLive_0 rfl rfl ?_
  refine V_iload_n (i := 2) dX10_wouldLive_1 rfl rfl ?_
  refine V_callS dX10_wouldLive_2 (c_requireCell (r := r) (c := c) rfl rfl (by omega) (by omega) (by omega) (by omega)) okX10_requireCell lkRX10_74 rfl rfl (Nat.le_of_ble_eq_true rfl) ⟨Nat.le_of_ble_eq_true rfl, Nat.le_of_ble_eq_true rfl⟩ rfl ⟨by decide, by decide⟩ (fun v9 u1 hu1 => ?_) (fun E9 u1 hu1 => ?_)
  · rcases hu1 with ⟨hu1f, e9, hu1⟩ | ⟨hu1f, e9, hu1⟩
    · cases e9
      subst hu1
      have hin0 := hu1f
      have hii0 := ins_iff.mp hin0
      obtain ⟨r0, rfl⟩ : ∃ n : Nat, r = (n : Int) := ⟨r.toNat, by omega⟩
      obtain ⟨c0, rfl⟩ : ∃ n : Nat, c = (n : Int) := ⟨c.toNat, by omega⟩
      simp only [← zI_n]
      have hcc : (8 * r0 + c0) < 64 := by omega
      have hk9 := kc_lt (hC.1.1.2.1 (8 * r0 + c0) hcc)
      have hk7 := kc_live (hC.1.1.2.1 (8 * r0 + c0) hcc)
      have hk6 := kc_none (hC.1.1.2.1 (8 * r0 + c0) hcc)
      have hk5 := kc_pale (hC.1.1.2.1 (8 * r0 + c0) hcc)
      have hok := hC.1.1.2.1 (8 * r0 + c0) hcc
      unfold okc at hok
      refine V_aload_n (i := 0) dX10_wouldLive_5 rfl rfl ?_
      refine V_getC (k := 0) (q := 1) dX10_wouldLive_6 (Or.inr ⟨rfl, Nat.le_of_ble_eq_true rfl⟩) rfl rfl rfl (Nat.le_of_ble_eq_true rfl) flRX10_10 ?_
      refine V_iload_n (i := 1) dX10_wouldLive_9 rfl rfl ?_
      refine V_iload_n (i := 2) dX10_wouldLive_10 rfl rfl ?_
      refine V_callSF dX10_wouldLive_11 (c_cellNumber (r := r0) (c := c0) (rfl) (rfl)) okX10_cellNumber lkRX10_82 rfl rfl (Nat.le_of_ble_eq_true rfl) ⟨Nat.le_of_ble_eq_true rfl, Nat.le_of_ble_eq_true rfl⟩ rfl ?_
      refine V_callVF dX10_wouldLive_14 (c_livesAfterTide hC.1.1 (k := (8 * r0 + c0)) (by omega)) okX8_livesAfterTide lkRX10_220 (Or.inr ⟨rfl, Nat.le_of_ble_eq_true rfl⟩) rfl rfl rfl rfl (Nat.le_of_ble_eq_true rfl) ⟨Nat.le_of_ble_eq_true rfl, Nat.le_of_ble_eq_true rfl⟩ rfl ?_
      refine V_iret dX10_wouldLive_17 rfl (nar_bool ite_le) ?_
      have e9 : fWouldLive S (r0 : Int) (c0 : Int) = (0, nI (if 10 ≤ nextc S.1 (8 * r0 + c0) then 1 else 0), S) := by simp [fWouldLive, fCell, fLive, q2, cl_nat, b2, hin0]
      rw [e9]
      exact ⟨Or.inl ⟨rfl, rfl⟩, ⟨hC.1, hC.2.1, hC.2.2.1, hC.2.2.2.1, hC.2.2.2.2.1, hC.2.2.2.2.2⟩, Fr.nil⟩
    · cases e9
  · rcases hu1 with ⟨hu1f, e9, hu1⟩ | ⟨hu1f, e9, hu1⟩
    · cases e9
    · cases e9
      subst hu1
      have e9 : fWouldLive S r c = (1, 0, S) := by simp [fWouldLive, fCell, fLive, q2, cl_nat, b2, hu1f]
      rw [e9]
      exact ⟨Or.inr ⟨Nat.le_of_ble_eq_true rfl, rfl⟩, ⟨hC.1, hC.2.1, hC.2.2.1, hC.2.2.2.1, hC.2.2.2.2.1, hC.2.2.2.2.2⟩, Fr.nil⟩
set_option maxRecDepth 100000 in
set_option maxHeartbeats 1000000 in
theorem c_syntaxErrorOffset {S : Sys} {w : Wd} (hC : CI w S) : Ct 1 MX10_syntaxErrorOffset 10 4 24 [.ref 0] w (PoF ["java/util/NoSuchElementException"] (fSyntaxErrorOffset S) w) := by
  refine Ct_of (by decide +kernel) rfl (Nat.le_of_ble_eq_true rfl) rfl ?_
  have hsy := hC.2.2.2.2.2.2.1.2
  refine V_aload_n (i := 0) dX10_syntaxErrorOffset_0 rfl rfl ?_
  refine V_getI (k := 9) dX10_syntaxErrorOffset_1 (Or.inr ⟨rfl, Nat.le_of_ble_eq_true rfl⟩) rfl rfl rfl (Nat.le_of_ble_eq_true rfl) flRX10_61 ?_
  refine V_top (y := zI S.2.2.2.2.2.1) hC.2.2.2.2.2.2.1.1 ?_
  refine V_if_ge_z (tgt := 18) dX10_syntaxErrorOffset_4 (by decide) rfl (by omega) (by omega) (fun h4 => ?_) (fun h4 => ?_)
  · have hz : ¬ S.2.2.2.2.2.1 < 0 := by omega
    refine V_aload_n (i := 0) dX10_syntaxErrorOffset_18 rfl rfl ?_
    refine V_getI (k := 9) dX10_syntaxErrorOffset_19 (Or.inr ⟨rfl, Nat.le_of_ble_eq_true rfl⟩) rfl rfl rfl (Nat.le_of_ble_eq_true rfl) flRX10_61 ?_
    refine V_top (y := zI S.2.2.2.2.2.1) hC.2.2.2.2.2.2.1.1 ?_
    refine V_iret dX10_syntaxErrorOffset_22 rfl rfl ?_
    have e9 : fSyntaxErrorOffset S = (0, zI S.2.2.2.2.2.1, S) := by simp [fSyntaxErrorOffset, fCell, fLive, q2, cl_nat, b2, hz]
    rw [e9]
    exact ⟨Or.inl ⟨rfl, rfl⟩, ⟨hC.1, hC.2.1, hC.2.2.1, hC.2.2.2.1, hC.2.2.2.2.1, hC.2.2.2.2.2⟩, Fr.nil⟩
  · have hz : S.2.2.2.2.2.1 < 0 := by omega
    refine V_throwNW dX10_syntaxErrorOffset_7 dX10_syntaxErrorOffset_10 dX10_syntaxErrorOffset_11 dX10_syntaxErrorOffset_14 dX10_syntaxErrorOffset_17 thr_NSE (List.mem_of_getElem? (i := 37) rfl) rfl (Nat.le_of_ble_eq_true rfl) (by decide) (by decide) ?_
    have e9 : fSyntaxErrorOffset S = (1, 0, S) := by simp [fSyntaxErrorOffset, fCell, fLive, q2, cl_nat, b2, hz]
    rw [e9]
    exact ⟨Or.inr ⟨Nat.le_of_ble_eq_true rfl, rfl⟩, ⟨hC.1, hC.2.1, hC.2.2.1, hC.2.2.2.1, hC.2.2.2.2.1, hC.2.2.2.2.2⟩, Fr.nil⟩
set_option maxRecDepth 100000 in
set_option maxHeartbeats 1000000 in
theorem c_rejectionReason {S : Sys} {w : Wd} (hC : CI w S) : Ct 1 MX10_rejectionReason 10 4 24 [.ref 0] w (PoF ["java/util/NoSuchElementException"] (fRejectionReason S) w) := by
  refine Ct_of (by decide +kernel) rfl (Nat.le_of_ble_eq_true rfl) rfl ?_
  have hrs := hC.2.2.2.2.2.2.2.1.2
  refine V_aload_n (i := 0) dX10_rejectionReason_0 rfl rfl ?_
  refine V_getI (k := 10) dX10_rejectionReason_1 (Or.inr ⟨rfl, Nat.le_of_ble_eq_true rfl⟩) rfl rfl rfl (Nat.le_of_ble_eq_true rfl) flRX10_65 ?_
  refine V_top (y := nI S.2.2.2.2.2.2.1) hC.2.2.2.2.2.2.2.1.1 ?_
  refine V_if_ne_n (tgt := 18) dX10_rejectionReason_4 (by decide) (by omega) (fun h4 => ?_) (fun h4 => ?_)
  · refine V_aload_n (i := 0) dX10_rejectionReason_18 rfl rfl ?_
    refine V_getI (k := 10) dX10_rejectionReason_19 (Or.inr ⟨rfl, Nat.le_of_ble_eq_true rfl⟩) rfl rfl rfl (Nat.le_of_ble_eq_true rfl) flRX10_65 ?_
    refine V_top (y := nI S.2.2.2.2.2.2.1) hC.2.2.2.2.2.2.2.1.1 ?_
    refine V_iret dX10_rejectionReason_22 rfl rfl ?_
    have e9 : fRejectionReason S = (0, nI (S.2.2.2.2.2.2.1), S) := by simp [fRejectionReason, fCell, fLive, q2, cl_nat, b2, h4]
    rw [e9]
    exact ⟨Or.inl ⟨rfl, rfl⟩, ⟨hC.1, hC.2.1, hC.2.2.1, hC.2.2.2.1, hC.2.2.2.2.1, hC.2.2.2.2.2⟩, Fr.nil⟩
  · refine V_throwNW dX10_rejectionReason_7 dX10_rejectionReason_10 dX10_rejectionReason_11 dX10_rejectionReason_14 dX10_rejectionReason_17 thr_NSE (List.mem_of_getElem? (i := 38) rfl) rfl (Nat.le_of_ble_eq_true rfl) (by decide) (by decide) ?_
    have e9 : fRejectionReason S = (1, 0, S) := by simp [fRejectionReason, fCell, fLive, q2, cl_nat, b2, h4]
    rw [e9]
    exact ⟨Or.inr ⟨Nat.le_of_ble_eq_true rfl, rfl⟩, ⟨hC.1, hC.2.1, hC.2.2.1, hC.2.2.2.1, hC.2.2.2.2.1, hC.2.2.2.2.2⟩, Fr.nil⟩
set_option maxRecDepth 100000 in
set_option maxHeartbeats 1000000 in
theorem c_rejectionDetail {S : Sys} {w : Wd} (hC : CI w S) : Ct 1 MX10_rejectionDetail 10 4 24 [.ref 0] w (PoF ["java/util/NoSuchElementException"] (fRejectionDetail S) w) := by
  refine Ct_of (by decide +kernel) rfl (Nat.le_of_ble_eq_true rfl) rfl ?_
  have hrs := hC.2.2.2.2.2.2.2.1.2
  refine V_aload_n (i := 0) dX10_rejectionDetail_0 rfl rfl ?_
  refine V_getI (k := 10) dX10_rejectionDetail_1 (Or.inr ⟨rfl, Nat.le_of_ble_eq_true rfl⟩) rfl rfl rfl (Nat.le_of_ble_eq_true rfl) flRX10_65 ?_
  refine V_top (y := nI S.2.2.2.2.2.2.1) hC.2.2.2.2.2.2.2.1.1 ?_
  refine V_if_ne_n (tgt := 18) dX10_rejectionDetail_4 (by decide) (by omega) (fun h4 => ?_) (fun h4 => ?_)
  · refine V_aload_n (i := 0) dX10_rejectionDetail_18 rfl rfl ?_
    refine V_getI (k := 11) dX10_rejectionDetail_19 (Or.inr ⟨rfl, Nat.le_of_ble_eq_true rfl⟩) rfl rfl rfl (Nat.le_of_ble_eq_true rfl) flRX10_68 ?_
    refine V_top (y := S.2.2.2.2.2.2.2.1) hC.2.2.2.2.2.2.2.2.1 ?_
    refine V_iret dX10_rejectionDetail_22 rfl rfl ?_
    have e9 : fRejectionDetail S = (0, S.2.2.2.2.2.2.2.1, S) := by simp [fRejectionDetail, fCell, fLive, q2, cl_nat, b2, h4]
    rw [e9]
    exact ⟨Or.inl ⟨rfl, rfl⟩, ⟨hC.1, hC.2.1, hC.2.2.1, hC.2.2.2.1, hC.2.2.2.2.1, hC.2.2.2.2.2⟩, Fr.nil⟩
  · refine V_throwNW dX10_rejectionDetail_7 dX10_rejectionDetail_10 dX10_rejectionDetail_11 dX10_rejectionDetail_14 dX10_rejectionDetail_17 thr_NSE (List.mem_of_getElem? (i := 38) rfl) rfl (Nat.le_of_ble_eq_true rfl) (by decide) (by decide) ?_
    have e9 : fRejectionDetail S = (1, 0, S) := by simp [fRejectionDetail, fCell, fLive, q2, cl_nat, b2, h4]
    rw [e9]
    exact ⟨Or.inr ⟨Nat.le_of_ble_eq_true rfl, rfl⟩, ⟨hC.1, hC.2.1, hC.2.2.1, hC.2.2.2.1, hC.2.2.2.2.1, hC.2.2.2.2.2⟩, Fr.nil⟩
set_option maxRecDepth 100000 in
set_option maxHeartbeats 1000000 in
theorem c_causeReason {S : Sys} {w : Wd} (hC : CI w S) : Ct 1 MX10_causeReason 10 4 24 [.ref 0] w (PoF ["java/util/NoSuchElementException"] (fCauseReason S) w) := by
  refine Ct_of (by decide +kernel) rfl (Nat.le_of_ble_eq_true rfl) rfl ?_
  have hrs := hC.2.2.2.2.2.2.2.1.2
  have hcs := hC.2.2.2.2.2.2.2.2.2.1.2
  refine V_aload_n (i := 0) dX10_causeReason_0 rfl rfl ?_
  refine V_getI (k := 10) dX10_causeReason_1 (Or.inr ⟨rfl, Nat.le_of_ble_eq_true rfl⟩) rfl rfl rfl (Nat.le_of_ble_eq_true rfl) flRX10_65 ?_
  refine V_top (y := nI S.2.2.2.2.2.2.1) hC.2.2.2.2.2.2.2.1.1 ?_
  refine V_bipush_n (v := 6) dX10_causeReason_4 (by decide) ?_
  refine V_icmp_eq_n (tgt := 20) dX10_causeReason_6 (by decide) (by omega) (by omega) (fun h6 => ?_) (fun h6 => ?_)
  · refine V_aload_n (i := 0) dX10_causeReason_20 rfl rfl ?_
    refine V_getI (k := 12) dX10_causeReason_21 (Or.inr ⟨rfl, Nat.le_of_ble_eq_true rfl⟩) rfl rfl rfl (Nat.le_of_ble_eq_true rfl) flRX10_71 ?_
    refine V_top (y := nI S.2.2.2.2.2.2.2.2) hC.2.2.2.2.2.2.2.2.2.1.1 ?_
    refine V_iret dX10_causeReason_24 rfl rfl ?_
    have e9 : fCauseReason S = (0, nI (S.2.2.2.2.2.2.2.2), S) := by simp [fCauseReason, fCell, fLive, q2, cl_nat, b2, h6]
    rw [e9]
    exact ⟨Or.inl ⟨rfl, rfl⟩, ⟨hC.1, hC.2.1, hC.2.2.1, hC.2.2.2.1, hC.2.2.2.2.1, hC.2.2.2.2.2⟩, Fr.nil⟩
  · refine V_throwNW dX10_causeReason_9 dX10_causeReason_12 dX10_causeReason_13 dX10_causeReason_16 dX10_causeReason_19 thr_NSE (List.mem_of_getElem? (i := 39) rfl) rfl (Nat.le_of_ble_eq_true rfl) (by decide) (by decide) ?_
    have e9 : fCauseReason S = (1, 0, S) := by simp [fCauseReason, fCell, fLive, q2, cl_nat, b2, h6]
    rw [e9]
    exact ⟨Or.inr ⟨Nat.le_of_ble_eq_true rfl, rfl⟩, ⟨hC.1, hC.2.1, hC.2.2.1, hC.2.2.2.1, hC.2.2.2.2.1, hC.2.2.2.2.2⟩, Fr.nil⟩
end MFACE2
