/-! THE FACE: islands, orders, lines, what goes back. Printed by wip/whole/gen/mk28.py. -/
section MFACE4
set_option maxRecDepth 100000 in
set_option maxHeartbeats 1000000 in
theorem c_islandCount {S : Sys} {w : Wd} (hC : CI w S) : Ct 1 MX10_islandCount 12 4 24 [.ref 0] w (PoF [] (fIslandCount S) w) := by
  refine Ct_of (by decide +kernel) rfl (Nat.le_of_ble_eq_true rfl) rfl ?_
  refine V_aload_n (i := 0) dX10_islandCount_0 rfl rfl ?_
  refine V_getC (k := 5) (q := 40) dX10_islandCount_1 (Or.inr ⟨rfl, Nat.le_of_ble_eq_true rfl⟩) rfl rfl rfl (Nat.le_of_ble_eq_true rfl) flRX10_39 ?_
  refine V_aload_n (i := 0) dX10_islandCount_4 rfl rfl ?_
  refine V_getC (k := 0) (q := 1) dX10_islandCount_5 (Or.inr ⟨rfl, Nat.le_of_ble_eq_true rfl⟩) rfl rfl rfl (Nat.le_of_ble_eq_true rfl) flRX10_10 ?_
  refine V_bipush_n (v := 42) dX10_islandCount_8 (by decide) ?_
  refine V_callVM dX10_islandCount_10 (c_search hC.1.1 (cq := 42) (by omega)) okX3_search lkRX10_195 (Or.inr ⟨rfl, Nat.le_of_ble_eq_true rfl⟩) rfl rfl rfl rfl (Nat.le_of_ble_eq_true rfl) ⟨Nat.le_of_ble_eq_true rfl, Nat.le_of_ble_eq_true rfl⟩ rfl ?_
  intro u1 hu1
  refine V_iret dX10_islandCount_13 rfl rfl ?_
  have e9 : fIslandCount S = (0, nI (ns (Hq S.1 42) 64), S) := by simp [fIslandCount, fCell, fLive, q2, cl_nat, b2, H0]
  rw [e9]
  exact ⟨Or.inl ⟨rfl, rfl⟩, ⟨(hC.1.keep hu1.2 (fun b hb => by unfold InI; omega)), (hC.2.1.keep hu1.2 (fun b hb => by unfold InI; omega)), (hC.2.2.1.keep hu1.2 (fun b hb => by unfold InI; omega)), (hC.2.2.2.1.keep hu1.2 (fun b hb => by unfold InI; omega)), (hC.2.2.2.2.1.keep hu1.2 (fun b hb => by unfold InI; omega)), (hC.2.2.2.2.2.keep hu1.2 (fun b hb => by unfold InI; omega))⟩, (hu1.2.mono (fun b hb => by unfold InI at hb; unfold InC; omega))⟩
set_option maxRecDepth 100000 in
set_option maxHeartbeats 1000000 in
theorem c_islandCountByMerging {S : Sys} {w : Wd} (hC : CI w S) : Ct 1 MX10_islandCountByMerging 12 4 24 [.ref 0] w (PoF [] (fIslandCount S) w) := by
  refine Ct_of (by decide +kernel) rfl (Nat.le_of_ble_eq_true rfl) rfl ?_
  refine V_aload_n (i := 0) dX10_islandCountByMerging_0 rfl rfl ?_
  refine V_getC (k := 5) (q := 40) dX10_islandCountByMerging_1 (Or.inr ⟨rfl, Nat.le_of_ble_eq_true rfl⟩) rfl rfl rfl (Nat.le_of_ble_eq_true rfl) flRX10_39 ?_
  refine V_aload_n (i := 0) dX10_islandCountByMerging_4 rfl rfl ?_
  refine V_getC (k := 0) (q := 1) dX10_islandCountByMerging_5 (Or.inr ⟨rfl, Nat.le_of_ble_eq_true rfl⟩) rfl rfl rfl (Nat.le_of_ble_eq_true rfl) flRX10_10 ?_
  refine V_callVM dX10_islandCountByMerging_8 (c_merge hC.1.1) okX3_merge lkRX10_199 (Or.inr ⟨rfl, Nat.le_of_ble_eq_true rfl⟩) rfl rfl rfl rfl (Nat.le_of_ble_eq_true rfl) ⟨Nat.le_of_ble_eq_true rfl, Nat.le_of_ble_eq_true rfl⟩ rfl ?_
  intro u1 hu1
  refine V_iret dX10_islandCountByMerging_11 rfl rfl ?_
  have e9 : fIslandCount S = (0, nI (ns (Hq S.1 42) 64), S) := by simp [fIslandCount, fCell, fLive, q2, cl_nat, b2, H0]
  rw [e9]
  exact ⟨Or.inl ⟨rfl, rfl⟩, ⟨(hC.1.keep hu1 (fun b hb => by unfold InI; omega)), (hC.2.1.keep hu1 (fun b hb => by unfold InI; omega)), (hC.2.2.1.keep hu1 (fun b hb => by unfold InI; omega)), (hC.2.2.2.1.keep hu1 (fun b hb => by unfold InI; omega)), (hC.2.2.2.2.1.keep hu1 (fun b hb => by unfold InI; omega)), (hC.2.2.2.2.2.keep hu1 (fun b hb => by unfold InI; omega))⟩, (hu1.mono (fun b hb => by unfold InI at hb; unfold InC; omega))⟩
set_option maxRecDepth 100000 in
set_option maxHeartbeats 1000000 in
theorem c_islandsOf {q : Nat} {S : Sys} {w : Wd} (hC : CI w S) (hq : q < 65536) : Ct 1 MX10_islandsOf 12 4 24 [.ref 0, .int (nI q)] w (PoF ["java/lang/IllegalArgumentException"] (fIslandsOf S q) w) := by
  refine Ct_of (by decide +kernel) rfl (Nat.le_of_ble_eq_true rfl) rfl ?_
  refine V_iload_n (i := 1) dX10_islandsOf_0 rfl rfl ?_
  refine V_callS dX10_islandsOf_1 (c_requireColour (q := q) (by omega)) okX10_requireColour lkRX10_78 rfl rfl (Nat.le_of_ble_eq_true rfl) ⟨Nat.le_of_ble_eq_true rfl, Nat.le_of_ble_eq_true rfl⟩ rfl ⟨by decide, by decide⟩ (fun v9 u1 hu1 => ?_) (fun E9 u1 hu1 => ?_)
  · rcases hu1 with ⟨hu1f, e9, hu1⟩ | ⟨hu1f, e9, hu1⟩
    · cases e9
      subst hu1
      have hcq := hu1f
      have hcq2 := isC_iff.mp hcq
      refine V_aload_n (i := 0) dX10_islandsOf_4 rfl rfl ?_
      refine V_getC (k := 5) (q := 40) dX10_islandsOf_5 (Or.inr ⟨rfl, Nat.le_of_ble_eq_true rfl⟩) rfl rfl rfl (Nat.le_of_ble_eq_true rfl) flRX10_39 ?_
      refine V_aload_n (i := 0) dX10_islandsOf_8 rfl rfl ?_
      refine V_getC (k := 0) (q := 1) dX10_islandsOf_9 (Or.inr ⟨rfl, Nat.le_of_ble_eq_true rfl⟩) rfl rfl rfl (Nat.le_of_ble_eq_true rfl) flRX10_10 ?_
      refine V_iload_n (i := 1) dX10_islandsOf_12 rfl rfl ?_
      refine V_callVM dX10_islandsOf_13 (c_search hC.1.1 (cq := q) (by omega)) okX3_search lkRX10_195 (Or.inr ⟨rfl, Nat.le_of_ble_eq_true rfl⟩) rfl rfl rfl rfl (Nat.le_of_ble_eq_true rfl) ⟨Nat.le_of_ble_eq_true rfl, Nat.le_of_ble_eq_true rfl⟩ rfl ?_
      intro u2 hu2
      refine V_iret dX10_islandsOf_16 rfl rfl ?_
      have e9 : fIslandsOf S q = (0, nI (ns (Hq S.1 q) 64), S) := by simp [fIslandsOf, fCell, fLive, q2, cl_nat, b2, hcq]
      rw [e9]
      exact ⟨Or.inl ⟨rfl, rfl⟩, ⟨(hC.1.keep hu2.2 (fun b hb => by unfold InI; omega)), (hC.2.1.keep hu2.2 (fun b hb => by unfold InI; omega)), (hC.2.2.1.keep hu2.2 (fun b hb => by unfold InI; omega)), (hC.2.2.2.1.keep hu2.2 (fun b hb => by unfold InI; omega)), (hC.2.2.2.2.1.keep hu2.2 (fun b hb => by unfold InI; omega)), (hC.2.2.2.2.2.keep hu2.2 (fun b hb => by unfold InI; omega))⟩, (hu2.2.mono (fun b hb => by unfold InI at hb; unfold InC; omega))⟩
    · cases e9
  · rcases hu1 with ⟨hu1f, e9, hu1⟩ | ⟨hu1f, e9, hu1⟩
    · cases e9
    · cases e9
      subst hu1
      have e9 : fIslandsOf S q = (1, 0, S) := by simp [fIslandsOf, fCell, fLive, q2, cl_nat, b2, hu1f]
      rw [e9]
      exact ⟨Or.inr ⟨Nat.le_of_ble_eq_true rfl, rfl⟩, ⟨hC.1, hC.2.1, hC.2.2.1, hC.2.2.2.1, hC.2.2.2.2.1, hC.2.2.2.2.2⟩, Fr.nil⟩
set_option maxRecDepth 100000 in
set_option maxHeartbeats 1000000 in
theorem c_islandSize {x y : Int32} {r c : Int} {S : Sys} {w : Wd} (hC : CI w S) (hx : x = zI r) (hy : y = zI c) (r1 : -2147483648 ≤ r) (r2 : r < 2147483648) (c1 : -2147483648 ≤ c) (c2 : c < 2147483648) : Ct 1 MX10_islandSize 12 4 24 [.ref 0, .int x, .int y] w (PoF ["java/lang/IndexOutOfBoundsException", "java/util/NoSuchElementException"] (fIslandSize S r c) w) := by
  refine Ct_of (by decide +kernel) rfl (Nat.le_of_ble_eq_true rfl) rfl ?_
  subst hx hy
  refine V_iload_n (i := 1) dX10_islandSize_0 rfl rfl ?_
  refine V_iload_n (i := 2) dX10_islandSize_1 rfl rfl ?_
  refine V_callS dX10_islandSize_2 (c_requireCell (r := r) (c := c) rfl rfl (by omega) (by omega) (by omega) (by omega)) okX10_requireCell lkRX10_74 rfl rfl (Nat.le_of_ble_eq_true rfl) ⟨Nat.le_of_ble_eq_true rfl, Nat.le_of_ble_eq_true rfl⟩ rfl ⟨by decide, by decide⟩ (fun v9 u1 hu1 => ?_) (fun E9 u1 hu1 => ?_)
  · rcases hu1 with ⟨hu1f, e9, hu1⟩ | ⟨hu1f, e9, hu1⟩
    · cases e9
      subst hu1
      have hin0 := hu1f
      have hii0 := ins_iff.mp hin0
      obtain ⟨r0, rfl⟩ : ∃ n : Nat, r = (n : Int) := ⟨r.toNat, by omega⟩
      obtain ⟨c0, rfl⟩ : ∃ n : Nat, c = (n : Int) := ⟨c.toNat, by omega⟩
      simp only [← zI_n]
      have hcc : (8 * r0 + c0) < 64 := by omega
      have hk9 := kc_lt (hC.1.1.2.1 (8 * r0 + c0) hcc)
      have hk7 := kc_live (hC.1.1.2.1 (8 * r0 + c0) hcc)
      have hk6 := kc_none (hC.1.1.2.1 (8 * r0 + c0) hcc)
      have hk5 := kc_pale (hC.1.1.2.1 (8 * r0 + c0) hcc)
      have hok := hC.1.1.2.1 (8 * r0 + c0) hcc
      unfold okc at hok
      refine V_aload_n (i := 0) dX10_islandSize_5 rfl rfl ?_
      refine V_iload_n (i := 1) dX10_islandSize_6 rfl rfl ?_
      refine V_iload_n (i := 2) dX10_islandSize_7 rfl rfl ?_
      refine V_callV dX10_islandSize_8 (c_requireLiving hC.1.1 (r := r0) (c := c0) (by omega) (by omega)) okX10_requireLiving lkRX10_180 (Or.inr ⟨rfl, Nat.le_of_ble_eq_true rfl⟩) rfl rfl rfl rfl (Nat.le_of_ble_eq_true rfl) ⟨Nat.le_of_ble_eq_true rfl, Nat.le_of_ble_eq_true rfl⟩ rfl ⟨by decide, by decide⟩ (fun v9 u2 hu2 => ?_) (fun E9 u2 hu2 => ?_)
      · rcases hu2 with ⟨hu2f, e9, hu2⟩ | ⟨hu2f, e9, hu2⟩
        · cases e9
          subst hu2
          have hlv := hu2f
          have hlv9 : ¬ S.1.1 (8 * r0 + c0) < 10 := by omega
          refine V_aload_n (i := 0) dX10_islandSize_11 rfl rfl ?_
          refine V_getC (k := 5) (q := 40) dX10_islandSize_12 (Or.inr ⟨rfl, Nat.le_of_ble_eq_true rfl⟩) rfl rfl rfl (Nat.le_of_ble_eq_true rfl) flRX10_39 ?_
          refine V_aload_n (i := 0) dX10_islandSize_15 rfl rfl ?_
          refine V_getC (k := 0) (q := 1) dX10_islandSize_16 (Or.inr ⟨rfl, Nat.le_of_ble_eq_true rfl⟩) rfl rfl rfl (Nat.le_of_ble_eq_true rfl) flRX10_10 ?_
          refine V_bipush_n (v := 42) dX10_islandSize_19 (by decide) ?_
          refine V_callVM dX10_islandSize_21 (c_search hC.1.1 (cq := 42) (by omega)) okX3_search lkRX10_195 (Or.inr ⟨rfl, Nat.le_of_ble_eq_true rfl⟩) rfl rfl rfl rfl (Nat.le_of_ble_eq_true rfl) ⟨Nat.le_of_ble_eq_true rfl, Nat.le_of_ble_eq_true rfl⟩ rfl ?_
          intro u3 hu3
          refine V_pop dX10_islandSize_24 rfl ?_
          refine V_aload_n (i := 0) dX10_islandSize_25 rfl rfl ?_
          refine V_getC (k := 5) (q := 40) dX10_islandSize_26 (Or.inr ⟨rfl, Nat.le_of_ble_eq_true rfl⟩) rfl rfl rfl (Nat.le_of_ble_eq_true rfl) flRX10_39 ?_
          refine V_aload_n (i := 0) dX10_islandSize_29 rfl rfl ?_
          refine V_getC (k := 5) (q := 40) dX10_islandSize_30 (Or.inr ⟨rfl, Nat.le_of_ble_eq_true rfl⟩) rfl rfl rfl (Nat.le_of_ble_eq_true rfl) flRX10_39 ?_
          refine V_iload_n (i := 1) dX10_islandSize_33 rfl rfl ?_
          refine V_iload_n (i := 2) dX10_islandSize_34 rfl rfl ?_
          refine V_callSF dX10_islandSize_35 (c_cellNumber (r := r0) (c := c0) (rfl) (rfl)) okX10_cellNumber lkRX10_82 rfl rfl (Nat.le_of_ble_eq_true rfl) ⟨Nat.le_of_ble_eq_true rfl, Nat.le_of_ble_eq_true rfl⟩ rfl ?_
          refine V_callVF dX10_islandSize_38 (c_markOf hu3.1 (k := (8 * r0 + c0)) (by omega)) okX3_markOf lkRX10_203 (Or.inr ⟨rfl, Nat.le_of_ble_eq_true rfl⟩) rfl rfl rfl rfl (Nat.le_of_ble_eq_true rfl) ⟨Nat.le_of_ble_eq_true rfl, Nat.le_of_ble_eq_true rfl⟩ rfl ?_
          refine V_top (y := nI (fmi (Hq S.1 42) 64 (8 * r0 + c0))) (by rw [if_pos hcc]) ?_
          have hfl := fmi_le (H := Hq S.1 42) (k := (8 * r0 + c0)) 64
          have hns := ns_le (H := Hq S.1 42) 64
          refine V_callVF dX10_islandSize_41 (c_sizeOf hu3.1 (m := (fmi (Hq S.1 42) 64 (8 * r0 + c0))) (by omega)) okX3_sizeOf lkRX10_206 (Or.inr ⟨rfl, Nat.le_of_ble_eq_true rfl⟩) rfl rfl rfl rfl (Nat.le_of_ble_eq_true rfl) ⟨Nat.le_of_ble_eq_true rfl, Nat.le_of_ble_eq_true rfl⟩ rfl ?_
          refine V_iret dX10_islandSize_44 rfl rfl ?_
          show PoF _ _ _ (Sum.inl (some (Value.int (nI (szi (H0 S) (fmi (H0 S) 64 (8 * r0 + c0))))))) _
          have e9 : fIslandSize S (r0 : Int) (c0 : Int) = (0, nI (szi (H0 S) (fmi (H0 S) 64 (8 * r0 + c0))), S) := by simp [fIslandSize, fCell, fLive, q2, cl_nat, b2, hin0, hlv9]
          rw [e9]
          exact ⟨Or.inl ⟨rfl, rfl⟩, ⟨(hC.1.keep hu3.2 (fun b hb => by unfold InI; omega)), (hC.2.1.keep hu3.2 (fun b hb => by unfold InI; omega)), (hC.2.2.1.keep hu3.2 (fun b hb => by unfold InI; omega)), (hC.2.2.2.1.keep hu3.2 (fun b hb => by unfold InI; omega)), (hC.2.2.2.2.1.keep hu3.2 (fun b hb => by unfold InI; omega)), (hC.2.2.2.2.2.keep hu3.2 (fun b hb => by unfold InI; omega))⟩, (hu3.2.mono (fun b hb => by unfold InI at hb; unfold InC; omega))⟩
        · cases e9
      · rcases hu2 with ⟨hu2f, e9, hu2⟩ | ⟨hu2f, e9, hu2⟩
        · cases e9
        · cases e9
          subst hu2
          have e9 : fIslandSize S (r0 : Int) (c0 : Int) = (2, 0, S) := by simp [fIslandSize, fCell, fLive, q2, cl_nat, b2, hin0, hu2f]
          rw [e9]
          exact ⟨Or.inr ⟨Nat.le_of_ble_eq_true rfl, rfl⟩, ⟨hC.1, hC.2.1, hC.2.2.1, hC.2.2.2.1, hC.2.2.2.2.1, hC.2.2.2.2.2⟩, Fr.nil⟩
    · cases e9
  · rcases hu1 with ⟨hu1f, e9, hu1⟩ | ⟨hu1f, e9, hu1⟩
    · cases e9
    · cases e9
      subst hu1
      have e9 : fIslandSize S r c = (1, 0, S) := by simp [fIslandSize, fCell, fLive, q2, cl_nat, b2, hu1f]
      rw [e9]
      exact ⟨Or.inr ⟨Nat.le_of_ble_eq_true rfl, rfl⟩, ⟨hC.1, hC.2.1, hC.2.2.1, hC.2.2.2.1, hC.2.2.2.2.1, hC.2.2.2.2.2⟩, Fr.nil⟩
set_option maxRecDepth 100000 in
set_option maxHeartbeats 1000000 in
theorem c_isJoined {x y x2 y2 : Int32} {r c rr cc : Int} {S : Sys} {w : Wd} (hC : CI w S) (hx : x = zI r) (hy : y = zI c) (hx2 : x2 = zI rr) (hy2 : y2 = zI cc) (bb1 : -2147483648 ≤ r) (bb2 : r < 2147483648) (bb3 : -2147483648 ≤ c) (bb4 : c < 2147483648) (bb5 : -2147483648 ≤ rr) (bb6 : rr < 2147483648) (bb7 : -2147483648 ≤ cc) (bb8 : cc < 2147483648) : Ct 1 MX10_isJoined 12 4 24 [.ref 0, .int x, .int y, .int x2, .int y2] w (PoF ["java/lang/IndexOutOfBoundsException"] (fIsJoined S r c rr cc) w) := by
  refine Ct_of (by decide +kernel) rfl (Nat.le_of_ble_eq_true rfl) rfl ?_
  subst hx hy hx2 hy2
  refine V_iload_n (i := 1) dX10_isJoined_0 rfl rfl ?_
  refine V_iload_n (i := 2) dX10_isJoined_1 rfl rfl ?_
  refine V_callS dX10_isJoined_2 (c_requireCell (r := r) (c := c) rfl rfl (by omega) (by omega) (by omega) (by omega)) okX10_requireCell lkRX10_74 rfl rfl (Nat.le_of_ble_eq_true rfl) ⟨Nat.le_of_ble_eq_true rfl, Nat.le_of_ble_eq_true rfl⟩ rfl ⟨by decide, by decide⟩ (fun v9 u1 hu1 => ?_) (fun E9 u1 hu1 => ?_)
  · rcases hu1 with ⟨hu1f, e9, hu1⟩ | ⟨hu1f, e9, hu1⟩
    · cases e9
      subst hu1
      have hin0 := hu1f
      have hii0 := ins_iff.mp hin0
      obtain ⟨r0, rfl⟩ : ∃ n : Nat, r = (n : Int) := ⟨r.toNat, by omega⟩
      obtain ⟨c0, rfl⟩ : ∃ n : Nat, c = (n : Int) := ⟨c.toNat, by omega⟩
      simp only [← zI_n]
      have hcc : (8 * r0 + c0) < 64 := by omega
      have hk9 := kc_lt (hC.1.1.2.1 (8 * r0 + c0) hcc)
      have hk7 := kc_live (hC.1.1.2.1 (8 * r0 + c0) hcc)
      have hk6 := kc_none (hC.1.1.2.1 (8 * r0 + c0) hcc)
      have hk5 := kc_pale (hC.1.1.2.1 (8 * r0 + c0) hcc)
      have hok := hC.1.1.2.1 (8 * r0 + c0) hcc
      unfold okc at hok
      refine V_iload_n (i := 3) dX10_isJoined_5 rfl rfl ?_
      refine V_iload dX10_isJoined_6 rfl ?_
      refine V_callS dX10_isJoined_8 (c_requireCell (r := rr) (c := cc) rfl rfl (by omega) (by omega) (by omega) (by omega)) okX10_requireCell lkRX10_74 rfl rfl (Nat.le_of_ble_eq_true rfl) ⟨Nat.le_of_ble_eq_true rfl, Nat.le_of_ble_eq_true rfl⟩ rfl ⟨by decide, by decide⟩ (fun v9 u2 hu2 => ?_) (fun E9 u2 hu2 => ?_)
      · rcases hu2 with ⟨hu2f, e9, hu2⟩ | ⟨hu2f, e9, hu2⟩
        · cases e9
          subst hu2
          have hin1 := hu2f
          have hii1 := ins_iff.mp hin1
          obtain ⟨r1, rfl⟩ : ∃ n : Nat, rr = (n : Int) := ⟨rr.toNat, by omega⟩
          obtain ⟨c1, rfl⟩ : ∃ n : Nat, cc = (n : Int) := ⟨cc.toNat, by omega⟩
          simp only [← zI_n]
          refine V_aload_n (i := 0) dX10_isJoined_11 rfl rfl ?_
          refine V_getC (k := 5) (q := 40) dX10_isJoined_12 (Or.inr ⟨rfl, Nat.le_of_ble_eq_true rfl⟩) rfl rfl rfl (Nat.le_of_ble_eq_true rfl) flRX10_39 ?_
          refine V_aload_n (i := 0) dX10_isJoined_15 rfl rfl ?_
          refine V_getC (k := 0) (q := 1) dX10_isJoined_16 (Or.inr ⟨rfl, Nat.le_of_ble_eq_true rfl⟩) rfl rfl rfl (Nat.le_of_ble_eq_true rfl) flRX10_10 ?_
          refine V_bipush_n (v := 42) dX10_isJoined_19 (by decide) ?_
          refine V_callVM dX10_isJoined_21 (c_search hC.1.1 (cq := 42) (by omega)) okX3_search lkRX10_195 (Or.inr ⟨rfl, Nat.le_of_ble_eq_true rfl⟩) rfl rfl rfl rfl (Nat.le_of_ble_eq_true rfl) ⟨Nat.le_of_ble_eq_true rfl, Nat.le_of_ble_eq_true rfl⟩ rfl ?_
          intro u3 hu3
          refine V_pop dX10_isJoined_24 rfl ?_
          refine V_aload_n (i := 0) dX10_isJoined_25 rfl rfl ?_
          refine V_getC (k := 5) (q := 40) dX10_isJoined_26 (Or.inr ⟨rfl, Nat.le_of_ble_eq_true rfl⟩) rfl rfl rfl (Nat.le_of_ble_eq_true rfl) flRX10_39 ?_
          refine V_iload_n (i := 1) dX10_isJoined_29 rfl rfl ?_
          refine V_iload_n (i := 2) dX10_isJoined_30 rfl rfl ?_
          refine V_callSF dX10_isJoined_31 (c_cellNumber (r := r0) (c := c0) (rfl) (rfl)) okX10_cellNumber lkRX10_82 rfl rfl (Nat.le_of_ble_eq_true rfl) ⟨Nat.le_of_ble_eq_true rfl, Nat.le_of_ble_eq_true rfl⟩ rfl ?_
          refine V_callVF dX10_isJoined_34 (c_markOf hu3.1 (k := (8 * r0 + c0)) (by omega)) okX3_markOf lkRX10_203 (Or.inr ⟨rfl, Nat.le_of_ble_eq_true rfl⟩) rfl rfl rfl rfl (Nat.le_of_ble_eq_true rfl) ⟨Nat.le_of_ble_eq_true rfl, Nat.le_of_ble_eq_true rfl⟩ rfl ?_
          refine V_top (y := nI (fmi (Hq S.1 42) 64 (8 * r0 + c0))) (by rw [if_pos hcc]) ?_
          have hfl := fmi_le (H := Hq S.1 42) (k := (8 * r0 + c0)) 64
          have hfl2 := fmi_le (H := Hq S.1 42) (k := 8 * r1 + c1) 64
          have hns := ns_le (H := Hq S.1 42) 64
          refine V_istore dX10_isJoined_37 (Nat.le_of_ble_eq_true rfl) rfl rfl ?_
          refine V_iload dX10_isJoined_39 rfl ?_
          refine V_if_eq_n (tgt := 66) dX10_isJoined_41 (by decide) (by omega) (fun h41 => ?_) (fun h41 => ?_)
          · refine V_iconst_n (v := 0) dX10_isJoined_66 (by decide) ?_
            refine V_iret dX10_isJoined_67 rfl (nar_bool (by omega)) ?_
            have e9 : fIsJoined S (r0 : Int) (c0 : Int) (r1 : Int) (c1 : Int) = (0, nI 0, S) := by simp [fIsJoined, fCell, fLive, q2, cl_nat, b2, hin0, hin1, H0, h41]
            rw [e9]
            exact ⟨Or.inl ⟨rfl, rfl⟩, ⟨(hC.1.keep hu3.2 (fun b hb => by unfold InI; omega)), (hC.2.1.keep hu3.2 (fun b hb => by unfold InI; omega)), (hC.2.2.1.keep hu3.2 (fun b hb => by unfold InI; omega)), (hC.2.2.2.1.keep hu3.2 (fun b hb => by unfold InI; omega)), (hC.2.2.2.2.1.keep hu3.2 (fun b hb => by unfold InI; omega)), (hC.2.2.2.2.2.keep hu3.2 (fun b hb => by unfold InI; omega))⟩, (hu3.2.mono (fun b hb => by unfold InI at hb; unfold InC; omega))⟩
          · refine V_iload dX10_isJoined_44 rfl ?_
            refine V_aload_n (i := 0) dX10_isJoined_46 rfl rfl ?_
            refine V_getC (k := 5) (q := 40) dX10_isJoined_47 (Or.inr ⟨rfl, Nat.le_of_ble_eq_true rfl⟩) rfl rfl rfl (Nat.le_of_ble_eq_true rfl) flRX10_39 ?_
            refine V_iload_n (i := 3) dX10_isJoined_50 rfl rfl ?_
            refine V_iload dX10_isJoined_51 rfl ?_
            refine V_callSF dX10_isJoined_53 (c_cellNumber (r := r1) (c := c1) (rfl) (rfl)) okX10_cellNumber lkRX10_82 rfl rfl (Nat.le_of_ble_eq_true rfl) ⟨Nat.le_of_ble_eq_true rfl, Nat.le_of_ble_eq_true rfl⟩ rfl ?_
            refine V_callVF dX10_isJoined_56 (c_markOf hu3.1 (k := (8 * r1 + c1)) (by omega)) okX3_markOf lkRX10_203 (Or.inr ⟨rfl, Nat.le_of_ble_eq_true rfl⟩) rfl rfl rfl rfl (Nat.le_of_ble_eq_true rfl) ⟨Nat.le_of_ble_eq_true rfl, Nat.le_of_ble_eq_true rfl⟩ rfl ?_
            refine V_top (y := nI (fmi (Hq S.1 42) 64 (8 * r1 + c1))) (by rw [if_pos (by omega)]) ?_
            refine V_icmp_ne_n (tgt := 66) dX10_isJoined_59 (by decide) (by omega) (by omega) (fun h59 => ?_) (fun h59 => ?_)
            · refine V_iconst_n (v := 0) dX10_isJoined_66 (by decide) ?_
              refine V_iret dX10_isJoined_67 rfl (nar_bool (by omega)) ?_
              have e9 : fIsJoined S (r0 : Int) (c0 : Int) (r1 : Int) (c1 : Int) = (0, nI 0, S) := by simp [fIsJoined, fCell, fLive, q2, cl_nat, b2, hin0, hin1, H0, h41, h59]
              rw [e9]
              exact ⟨Or.inl ⟨rfl, rfl⟩, ⟨(hC.1.keep hu3.2 (fun b hb => by unfold InI; omega)), (hC.2.1.keep hu3.2 (fun b hb => by unfold InI; omega)), (hC.2.2.1.keep hu3.2 (fun b hb => by unfold InI; omega)), (hC.2.2.2.1.keep hu3.2 (fun b hb => by unfold InI; omega)), (hC.2.2.2.2.1.keep hu3.2 (fun b hb => by unfold InI; omega)), (hC.2.2.2.2.2.keep hu3.2 (fun b hb => by unfold InI; omega))⟩, (hu3.2.mono (fun b hb => by unfold InI at hb; unfold InC; omega))⟩
            · have h60 : ¬ fmi (Hq S.1 42) 64 (8 * r1 + c1) = 0 := by rw [← h59]; exact h41
              refine V_iconst_n (v := 1) dX10_isJoined_62 (by decide) ?_
              refine V_goto (tgt := 67) dX10_isJoined_63 (by decide) ?_
              refine V_iret dX10_isJoined_67 rfl (nar_bool (by omega)) ?_
              have e9 : fIsJoined S (r0 : Int) (c0 : Int) (r1 : Int) (c1 : Int) = (0, nI 1, S) := by simp [fIsJoined, fCell, fLive, q2, cl_nat, b2, hin0, hin1, H0, h41, h59, h60]
              rw [e9]
              exact ⟨Or.inl ⟨rfl, rfl⟩, ⟨(hC.1.keep hu3.2 (fun b hb => by unfold InI; omega)), (hC.2.1.keep hu3.2 (fun b hb => by unfold InI; omega)), (hC.2.2.1.keep hu3.2 (fun b hb => by unfold InI; omega)), (hC.2.2.2.1.keep hu3.2 (fun b hb => by unfold InI; omega)), (hC.2.2.2.2.1.keep hu3.2 (fun b hb => by unfold InI; omega)), (hC.2.2.2.2.2.keep hu3.2 (fun b hb => by unfold InI; omega))⟩, (hu3.2.mono (fun b hb => by unfold InI at hb; unfold InC; omega))⟩
        · cases e9
      · rcases hu2 with ⟨hu2f, e9, hu2⟩ | ⟨hu2f, e9, hu2⟩
        · cases e9
        · cases e9
          subst hu2
          have e9 : fIsJoined S (r0 : Int) (c0 : Int) rr cc = (1, 0, S) := by simp [fIsJoined, fCell, fLive, q2, cl_nat, b2, hin0, hu2f]
          rw [e9]
          exact ⟨Or.inr ⟨Nat.le_of_ble_eq_true rfl, rfl⟩, ⟨hC.1, hC.2.1, hC.2.2.1, hC.2.2.2.1, hC.2.2.2.2.1, hC.2.2.2.2.2⟩, Fr.nil⟩
    · cases e9
  · rcases hu1 with ⟨hu1f, e9, hu1⟩ | ⟨hu1f, e9, hu1⟩
    · cases e9
    · cases e9
      subst hu1
      have e9 : fIsJoined S r c rr cc = (1, 0, S) := by simp [fIsJoined, fCell, fLive, q2, cl_nat, b2, hu1f]
      rw [e9]
      exact ⟨Or.inr ⟨Nat.le_of_ble_eq_true rfl, rfl⟩, ⟨hC.1, hC.2.1, hC.2.2.1, hC.2.2.2.1, hC.2.2.2.2.1, hC.2.2.2.2.2⟩, Fr.nil⟩
theorem szi_le {H : Nat → Bool} {m : Nat} : szi H m ≤ 64 := by
  have := sm_le (f := mkd (fmi H 64) m) (c := 1) (fun _ => mkd_le) 64
  unfold szi; omega
theorem lgi_le {H : Nat → Bool} : ∀ n, lgi H n ≤ 64 := by
  intro n
  induction n with
  | zero => exact Nat.zero_le _
  | succ n ih => show max (lgi H n) (szi H (n + 1)) ≤ 64; have := @szi_le H (n + 1); omega
theorem lgi_s {H : Nat → Bool} {n : Nat} : lgi H (n + 1) = max (lgi H n) (szi H (n + 1)) := rfl
set_option maxRecDepth 100000 in
set_option maxHeartbeats 1000000 in
theorem c_largestIsland {S : Sys} {w : Wd} (hC : CI w S) : Ct 1 MX10_largestIsland 12 4 24 [.ref 0] w (PoF [] (fLargestIsland S) w) := by
  refine Ct_of (by decide +kernel) rfl (Nat.le_of_ble_eq_true rfl) rfl ?_
  have lp : ∀ (fu i : Nat) (w1 : Wd), i ≤ ns (H0 S) 64 → ns (H0 S) 64 - i < fu → MkW w1 (fmi (H0 S) 64) → CI w1 S → Fr InC w w1 → V 1 MX10_largestIsland 12 4 24 (PoF [] (fLargestIsland S) w) (fun _ _ => True) 4 24 18 [some (.ref 0), some (.int (nI (ns (H0 S) 64))), some (.int (nI (lgi (H0 S) i))), some (.int (nI (i + 1)))] [] w1 := by
    intro fu
    induction fu with
    | zero => intro i w1 h1 h2; omega
    | succ fu ih =>
      intro i w1 hib hfu hM1 hC1 hF1
      have hns := ns_le (H := (H0 S)) 64
      have hl1 := lgi_le (H := (H0 S)) i
      have hs1 := @szi_le (H0 S) (i + 1)
      have e1 := @lgi_s (H0 S) i
      refine V_iload_n (i := 3) dX10_largestIsland_18 rfl rfl ?_
      refine V_iload_n (i := 1) dX10_largestIsland_19 rfl rfl ?_
      refine V_icmp_gt_n (tgt := 42) dX10_largestIsland_20 (by decide) (by omega) (by omega) (fun h20 => ?_) (fun h20 => ?_)
      · refine V_iload_n (i := 2) dX10_largestIsland_42 rfl rfl ?_
        refine V_iret dX10_largestIsland_43 rfl rfl ?_
        have ei : i = ns (H0 S) 64 := by omega
        rw [ei]
        have e9 : fLargestIsland S = (0, nI (lgi (H0 S) (ns (H0 S) 64)), S) := by simp [fLargestIsland, fCell, fLive, q2, cl_nat, b2]
        rw [e9]
        exact ⟨Or.inl ⟨rfl, rfl⟩, ⟨hC1.1, hC1.2.1, hC1.2.2.1, hC1.2.2.2.1, hC1.2.2.2.2.1, hC1.2.2.2.2.2⟩, hF1⟩
      · refine V_iload_n (i := 2) dX10_largestIsland_23 rfl rfl ?_
        refine V_aload_n (i := 0) dX10_largestIsland_24 rfl rfl ?_
        refine V_getC (k := 5) (q := 40) dX10_largestIsland_25 (Or.inr ⟨rfl, Nat.le_of_ble_eq_true rfl⟩) rfl rfl rfl (Nat.le_of_ble_eq_true rfl) flRX10_39 ?_
        refine V_iload_n (i := 3) dX10_largestIsland_28 rfl rfl ?_
        refine V_callVF dX10_largestIsland_29 (c_sizeOf hM1 (m := (i + 1)) (by omega)) okX3_sizeOf lkRX10_206 (Or.inr ⟨rfl, Nat.le_of_ble_eq_true rfl⟩) rfl rfl rfl rfl (Nat.le_of_ble_eq_true rfl) ⟨Nat.le_of_ble_eq_true rfl, Nat.le_of_ble_eq_true rfl⟩ rfl ?_
        refine V_top (y := nI (szi (H0 S) (i + 1))) rfl ?_
        refine V_max dX10_largestIsland_32 lkRX10_209 (by omega) (by omega) (Nat.le_of_ble_eq_true rfl) (by decide) ?_
        refine V_istore_n (i := 2) dX10_largestIsland_35 rfl (Nat.le_of_ble_eq_true rfl) rfl rfl ?_
        refine V_iinc_n (b := ((i + 1) + 1)) dX10_largestIsland_36 rfl (nI_add _ _) rfl rfl ?_
        refine V_goto (tgt := 18) dX10_largestIsland_39 (by decide) ?_
        have k9 := ih (i + 1) w1 (by omega) (by omega) hM1 hC1 hF1
        rw [e1] at k9
        exact k9.sub (by repeat' (first | exact trivial | exact rfl | constructor))
  refine V_aload_n (i := 0) dX10_largestIsland_0 rfl rfl ?_
  refine V_getC (k := 5) (q := 40) dX10_largestIsland_1 (Or.inr ⟨rfl, Nat.le_of_ble_eq_true rfl⟩) rfl rfl rfl (Nat.le_of_ble_eq_true rfl) flRX10_39 ?_
  refine V_aload_n (i := 0) dX10_largestIsland_4 rfl rfl ?_
  refine V_getC (k := 0) (q := 1) dX10_largestIsland_5 (Or.inr ⟨rfl, Nat.le_of_ble_eq_true rfl⟩) rfl rfl rfl (Nat.le_of_ble_eq_true rfl) flRX10_10 ?_
  refine V_bipush_n (v := 42) dX10_largestIsland_8 (by decide) ?_
  refine V_callVM dX10_largestIsland_10 (c_search hC.1.1 (cq := 42) (by omega)) okX3_search lkRX10_195 (Or.inr ⟨rfl, Nat.le_of_ble_eq_true rfl⟩) rfl rfl rfl rfl (Nat.le_of_ble_eq_true rfl) ⟨Nat.le_of_ble_eq_true rfl, Nat.le_of_ble_eq_true rfl⟩ rfl ?_
  intro u1 hu1
  refine V_istore_n (i := 1) dX10_largestIsland_13 rfl (Nat.le_of_ble_eq_true rfl) rfl rfl ?_
  refine V_iconst_n (v := 0) dX10_largestIsland_14 (by decide) ?_
  refine V_istore_n (i := 2) dX10_largestIsland_15 rfl (Nat.le_of_ble_eq_true rfl) rfl rfl ?_
  refine V_iconst_n (v := 1) dX10_largestIsland_16 (by decide) ?_
  refine V_istore_n (i := 3) dX10_largestIsland_17 rfl (Nat.le_of_ble_eq_true rfl) rfl rfl ?_
  exact (lp (ns (H0 S) 64 + 1) 0 u1 (by omega) (by omega) hu1.1 ⟨(hC.1.keep hu1.2 (fun b hb => by unfold InI; omega)), (hC.2.1.keep hu1.2 (fun b hb => by unfold InI; omega)), (hC.2.2.1.keep hu1.2 (fun b hb => by unfold InI; omega)), (hC.2.2.2.1.keep hu1.2 (fun b hb => by unfold InI; omega)), (hC.2.2.2.2.1.keep hu1.2 (fun b hb => by unfold InI; omega)), (hC.2.2.2.2.2.keep hu1.2 (fun b hb => by unfold InI; omega))⟩ (hu1.2.mono (fun b hb => by unfold InI at hb; unfold InC; omega))).sub (by repeat' (first | exact trivial | exact rfl | constructor))
theorem cntR_le {C : Nat → Nat} {r q : Nat} : cntR C r q ≤ 8 := by have := sm_le (f := fun k => if hk (C (8 * r + k)) q then 1 else 0) (c := 1) (fun k => by split <;> omega) 8; unfold cntR; omega
theorem rkR_le {C : Nat → Nat} {r n : Nat} : sm (fun o => if o ≠ r ∧ rwA C o r = true then 1 else 0) n ≤ n := by have := sm_le (f := fun o => if o ≠ r ∧ rwA C o r = true then 1 else 0) (c := 1) (fun k => by split <;> omega) n; omega
theorem rkC_le {C : Nat → Nat} {k n : Nat} : sm (fun i => if coA C i k = true then 1 else 0) n ≤ n := by have := sm_le (f := fun i => if coA C i k = true then 1 else 0) (c := 1) (fun k => by split <;> omega) n; omega
set_option maxRecDepth 100000 in
set_option maxHeartbeats 1000000 in
theorem c_isRowAhead {r k : Nat} {s : St} {w : Wd} (hR : Repr w 1 s) (hr : r < 8) (hk : k < 8) : Ct 1 MX10_isRowAhead 5 0 0 [.ref 0, .int (nI r), .int (nI k)] w (Rt (some (.int (nI (if rwA s.1 r k = true then 1 else 0)))) w) := by
  refine Ct_of (by decide +kernel) rfl (Nat.le_of_ble_eq_true rfl) rfl ?_
  have b1 := @cntR_le s.1 r 42
  have b2 := @cntR_le s.1 k 42
  have b3 := @cntR_le s.1 r 35
  have b4 := @cntR_le s.1 k 35
  refine V_aload_n (i := 0) dX10_isRowAhead_0 rfl rfl ?_
  refine V_getC (k := 0) (q := 1) dX10_isRowAhead_1 (Or.inr ⟨rfl, Nat.le_of_ble_eq_true rfl⟩) rfl rfl rfl (Nat.le_of_ble_eq_true rfl) flRX10_10 ?_
  refine V_iload_n (i := 1) dX10_isRowAhead_4 rfl rfl ?_
  refine V_bipush_n (v := 42) dX10_isRowAhead_5 (by decide) ?_
  refine V_callVF dX10_isRowAhead_7 (c_countInRow hR (r := r) (q := 42) (by omega) (by omega)) okX8_countInRow lkRX10_426 (Or.inr ⟨rfl, Nat.le_of_ble_eq_true rfl⟩) rfl rfl rfl rfl (Nat.le_of_ble_eq_true rfl) ⟨Nat.le_of_ble_eq_true rfl, Nat.le_of_ble_eq_true rfl⟩ rfl ?_
  refine V_istore_n (i := 3) dX10_isRowAhead_10 rfl (Nat.le_of_ble_eq_true rfl) rfl rfl ?_
  refine V_aload_n (i := 0) dX10_isRowAhead_11 rfl rfl ?_
  refine V_getC (k := 0) (q := 1) dX10_isRowAhead_12 (Or.inr ⟨rfl, Nat.le_of_ble_eq_true rfl⟩) rfl rfl rfl (Nat.le_of_ble_eq_true rfl) flRX10_10 ?_
  refine V_iload_n (i := 2) dX10_isRowAhead_15 rfl rfl ?_
  refine V_bipush_n (v := 42) dX10_isRowAhead_16 (by decide) ?_
  refine V_callVF dX10_isRowAhead_18 (c_countInRow hR (r := k) (q := 42) (by omega) (by omega)) okX8_countInRow lkRX10_426 (Or.inr ⟨rfl, Nat.le_of_ble_eq_true rfl⟩) rfl rfl rfl rfl (Nat.le_of_ble_eq_true rfl) ⟨Nat.le_of_ble_eq_true rfl, Nat.le_of_ble_eq_true rfl⟩ rfl ?_
  refine V_istore dX10_isRowAhead_21 (Nat.le_of_ble_eq_true rfl) rfl rfl ?_
  refine V_iload_n (i := 3) dX10_isRowAhead_23 rfl rfl ?_
  refine V_iload dX10_isRowAhead_24 rfl ?_
  refine V_icmp_eq_n (tgt := 41) dX10_isRowAhead_26 (by decide) (by omega) (by omega) (fun h26 => ?_) (fun h26 => ?_)
  · refine V_aload_n (i := 0) dX10_isRowAhead_41 rfl rfl ?_
    refine V_getC (k := 0) (q := 1) dX10_isRowAhead_42 (Or.inr ⟨rfl, Nat.le_of_ble_eq_true rfl⟩) rfl rfl rfl (Nat.le_of_ble_eq_true rfl) flRX10_10 ?_
    refine V_iload_n (i := 1) dX10_isRowAhead_45 rfl rfl ?_
    refine V_bipush_n (v := 35) dX10_isRowAhead_46 (by decide) ?_
    refine V_callVF dX10_isRowAhead_48 (c_countInRow hR (r := r) (q := 35) (by omega) (by omega)) okX8_countInRow lkRX10_426 (Or.inr ⟨rfl, Nat.le_of_ble_eq_true rfl⟩) rfl rfl rfl rfl (Nat.le_of_ble_eq_true rfl) ⟨Nat.le_of_ble_eq_true rfl, Nat.le_of_ble_eq_true rfl⟩ rfl ?_
    refine V_istore dX10_isRowAhead_51 (Nat.le_of_ble_eq_true rfl) rfl rfl ?_
    refine V_aload_n (i := 0) dX10_isRowAhead_53 rfl rfl ?_
    refine V_getC (k := 0) (q := 1) dX10_isRowAhead_54 (Or.inr ⟨rfl, Nat.le_of_ble_eq_true rfl⟩) rfl rfl rfl (Nat.le_of_ble_eq_true rfl) flRX10_10 ?_
    refine V_iload_n (i := 2) dX10_isRowAhead_57 rfl rfl ?_
    refine V_bipush_n (v := 35) dX10_isRowAhead_58 (by decide) ?_
    refine V_callVF dX10_isRowAhead_60 (c_countInRow hR (r := k) (q := 35) (by omega) (by omega)) okX8_countInRow lkRX10_426 (Or.inr ⟨rfl, Nat.le_of_ble_eq_true rfl⟩) rfl rfl rfl rfl (Nat.le_of_ble_eq_true rfl) ⟨Nat.le_of_ble_eq_true rfl, Nat.le_of_ble_eq_true rfl⟩ rfl ?_
    refine V_istore dX10_isRowAhead_63 (Nat.le_of_ble_eq_true rfl) rfl rfl ?_
    refine V_iload dX10_isRowAhead_65 rfl ?_
    refine V_iload dX10_isRowAhead_67 rfl ?_
    refine V_icmp_eq_n (tgt := 87) dX10_isRowAhead_69 (by decide) (by omega) (by omega) (fun h69 => ?_) (fun h69 => ?_)
    · refine V_iload_n (i := 1) dX10_isRowAhead_87 rfl rfl ?_
      refine V_iload_n (i := 2) dX10_isRowAhead_88 rfl rfl ?_
      refine V_icmp_ge_n (tgt := 96) dX10_isRowAhead_89 (by decide) (by omega) (by omega) (fun h89 => ?_) (fun h89 => ?_)
      · refine V_iconst_n (v := 0) dX10_isRowAhead_96 (by decide) ?_
        refine V_iret dX10_isRowAhead_97 rfl (nar_bool (by grind)) ?_
        exact ⟨by unfold rwA; grind, rfl⟩
      · refine V_iconst_n (v := 1) dX10_isRowAhead_92 (by decide) ?_
        refine V_goto (tgt := 97) dX10_isRowAhead_93 (by decide) ?_
        refine V_iret dX10_isRowAhead_97 rfl (nar_bool (by grind)) ?_
        exact ⟨by unfold rwA; grind, rfl⟩
    · refine V_iload dX10_isRowAhead_72 rfl ?_
      refine V_iload dX10_isRowAhead_74 rfl ?_
      refine V_icmp_le_n (tgt := 83) dX10_isRowAhead_76 (by decide) (by omega) (by omega) (fun h76 => ?_) (fun h76 => ?_)
      · refine V_iconst_n (v := 0) dX10_isRowAhead_83 (by decide) ?_
        refine V_goto (tgt := 97) dX10_isRowAhead_84 (by decide) ?_
        refine V_iret dX10_isRowAhead_97 rfl (nar_bool (by grind)) ?_
        exact ⟨by unfold rwA; grind, rfl⟩
      · refine V_iconst_n (v := 1) dX10_isRowAhead_79 (by decide) ?_
        refine V_goto (tgt := 97) dX10_isRowAhead_80 (by decide) ?_
        refine V_iret dX10_isRowAhead_97 rfl (nar_bool (by grind)) ?_
        exact ⟨by unfold rwA; grind, rfl⟩
  · refine V_iload_n (i := 3) dX10_isRowAhead_29 rfl rfl ?_
    refine V_iload dX10_isRowAhead_30 rfl ?_
    refine V_icmp_le_n (tgt := 39) dX10_isRowAhead_32 (by decide) (by omega) (by omega) (fun h32 => ?_) (fun h32 => ?_)
    · refine V_iconst_n (v := 0) dX10_isRowAhead_39 (by decide) ?_
      refine V_iret dX10_isRowAhead_40 rfl (nar_bool (by grind)) ?_
      exact ⟨by unfold rwA; grind, rfl⟩
    · refine V_iconst_n (v := 1) dX10_isRowAhead_35 (by decide) ?_
      refine V_goto (tgt := 40) dX10_isRowAhead_36 (by decide) ?_
      refine V_iret dX10_isRowAhead_40 rfl (nar_bool (by grind)) ?_
      exact ⟨by unfold rwA; grind, rfl⟩
set_option maxRecDepth 100000 in
set_option maxHeartbeats 1000000 in
theorem c_rankOfRow {r : Nat} {s : St} {w : Wd} (hR : Repr w 1 s) (hr : r < 8) : Ct 1 MX10_rankOfRow 6 0 0 [.ref 0, .int (nI r)] w (Rt (some (.int (nI (rkR s.1 r)))) w) := by
  refine Ct_of (by decide +kernel) rfl (Nat.le_of_ble_eq_true rfl) rfl ?_
  have lp : ∀ (fu i : Nat) , i ≤ 8 → 8 - i < fu → V 1 MX10_rankOfRow 6 0 0 (Rt (some (.int (nI (rkR s.1 r)))) w) (fun _ _ => True) 0 0 4 [some (.ref 0), some (.int (nI r)), some (.int (nI (sm (fun o => if o ≠ r ∧ rwA s.1 o r = true then 1 else 0) i))), some (.int (nI i))] [] w := by
    intro fu
    induction fu with
    | zero => intro i  h1 h2; omega
    | succ fu ih =>
      intro i  hib hfu
      have hle := @rkR_le s.1 r i
      have e1 : sm (fun o => if o ≠ r ∧ rwA s.1 o r = true then 1 else 0) (i + 1) = sm (fun o => if o ≠ r ∧ rwA s.1 o r = true then 1 else 0) i + (if i ≠ r ∧ rwA s.1 i r = true then 1 else 0) := rfl
      refine V_iload_n (i := 3) dX10_rankOfRow_4 rfl rfl ?_
      refine V_bipush_n (v := 8) dX10_rankOfRow_5 (by decide) ?_
      refine V_icmp_ge_n (tgt := 33) dX10_rankOfRow_7 (by decide) (by omega) (by omega) (fun h7 => ?_) (fun h7 => ?_)
      · refine V_iload_n (i := 2) dX10_rankOfRow_33 rfl rfl ?_
        refine V_iret dX10_rankOfRow_34 rfl rfl ?_
        obtain rfl : i = 8 := by omega
        exact ⟨rfl, rfl⟩
      · refine V_iload_n (i := 3) dX10_rankOfRow_10 rfl rfl ?_
        refine V_iload_n (i := 1) dX10_rankOfRow_11 rfl rfl ?_
        refine V_icmp_eq_n (tgt := 27) dX10_rankOfRow_12 (by decide) (by omega) (by omega) (fun h12 => ?_) (fun h12 => ?_)
        · rw [if_neg (fun q => q.1 h12)] at e1
          refine V_iinc_n (b := (i + 1)) dX10_rankOfRow_27 rfl (nI_add _ _) rfl rfl ?_
          refine V_goto (tgt := 4) dX10_rankOfRow_30 (by decide) ?_
          have k9 := ih (i + 1) (by omega) (by omega)
          rw [e1] at k9
          exact k9
        · refine V_aload_n (i := 0) dX10_rankOfRow_15 rfl rfl ?_
          refine V_iload_n (i := 3) dX10_rankOfRow_16 rfl rfl ?_
          refine V_iload_n (i := 1) dX10_rankOfRow_17 rfl rfl ?_
          refine V_callVF dX10_rankOfRow_18 (c_isRowAhead hR (r := i) (k := r) (by omega) (by omega)) okX10_isRowAhead lkRX10_423 (Or.inr ⟨rfl, Nat.le_of_ble_eq_true rfl⟩) rfl rfl rfl rfl (Nat.le_of_ble_eq_true rfl) ⟨Nat.le_of_ble_eq_true rfl, Nat.le_of_ble_eq_true rfl⟩ rfl ?_
          refine V_if_eq_n (tgt := 27) dX10_rankOfRow_21 (by decide) (Nat.lt_of_lt_of_le ite_le (by decide)) (fun h21 => ?_) (fun h21 => ?_)
          · rw [if_neg (fun q => ite_f h21 q.2)] at e1
            refine V_iinc_n (b := (i + 1)) dX10_rankOfRow_27 rfl (nI_add _ _) rfl rfl ?_
            refine V_goto (tgt := 4) dX10_rankOfRow_30 (by decide) ?_
            have k9 := ih (i + 1) (by omega) (by omega)
            rw [e1] at k9
            exact k9
          · rw [if_pos ⟨h12, ite_t h21⟩] at e1
            refine V_iinc_n (b := ((sm (fun o => if o ≠ r ∧ rwA s.1 o r = true then 1 else 0) i) + 1)) dX10_rankOfRow_24 rfl (nI_add _ _) rfl rfl ?_
            refine V_iinc_n (b := (i + 1)) dX10_rankOfRow_27 rfl (nI_add _ _) rfl rfl ?_
            refine V_goto (tgt := 4) dX10_rankOfRow_30 (by decide) ?_
            have k9 := ih (i + 1) (by omega) (by omega)
            rw [e1] at k9
            exact k9
  refine V_iconst_n (v := 0) dX10_rankOfRow_0 (by decide) ?_
  refine V_istore_n (i := 2) dX10_rankOfRow_1 rfl (Nat.le_of_ble_eq_true rfl) rfl rfl ?_
  refine V_iconst_n (v := 0) dX10_rankOfRow_2 (by decide) ?_
  refine V_istore_n (i := 3) dX10_rankOfRow_3 rfl (Nat.le_of_ble_eq_true rfl) rfl rfl ?_
  exact lp 9 0 (by omega) (by omega)
set_option maxRecDepth 100000 in
set_option maxHeartbeats 1000000 in
theorem c_rankOfColour {k : Nat} {s : St} {w : Wd} (hR : Repr w 1 s) (hk4 : k < 4) : Ct 1 MX10_rankOfColour 5 0 0 [.ref 0, .int (nI (97 + k))] w (Rt (some (.int (nI (rkC s.1 k)))) w) := by
  refine Ct_of (by decide +kernel) rfl (Nat.le_of_ble_eq_true rfl) rfl ?_
  have lp : ∀ (fu i : Nat) , i ≤ 4 → 4 - i < fu → V 1 MX10_rankOfColour 5 0 0 (Rt (some (.int (nI (rkC s.1 k)))) w) (fun _ _ => True) 0 0 14 [some (.ref 0), some (.int (nI (97 + k))), some (.int (nI (cnt s.1 (97 + k)))), some (.int (nI (sm (fun i => if coA s.1 i k = true then 1 else 0) i))), some (.int (nI i)), none, none] [] w := by
    intro fu
    induction fu with
    | zero => intro i  h1 h2; omega
    | succ fu ih =>
      intro i  hib hfu
      have hle := @rkC_le s.1 k i
      have hb1 := @cnt_le s.1 (97 + k) 64
      have hb2 := @cnt_le s.1 (97 + i) 64
      have hb3 : cnt s.1 (97 + k) ≤ 64 := hb1
      have hb4 : cnt s.1 (97 + i) ≤ 64 := hb2
      have e1 : sm (fun i => if coA s.1 i k = true then 1 else 0) (i + 1) = sm (fun i => if coA s.1 i k = true then 1 else 0) i + (if coA s.1 i k = true then 1 else 0) := rfl
      have e2 : coA s.1 i k = true ↔ _ := decide_eq_true_iff
      refine V_iload dX10_rankOfColour_14 rfl ?_
      refine V_iconst_n (v := 4) dX10_rankOfColour_16 (by decide) ?_
      refine V_icmp_ge_n (tgt := 65) dX10_rankOfColour_17 (by decide) (by omega) (by omega) (fun h17 => ?_) (fun h17 => ?_)
      · refine V_iload_n (i := 3) dX10_rankOfColour_65 rfl rfl ?_
        refine V_iret dX10_rankOfColour_66 rfl rfl ?_
        obtain rfl : i = 4 := by omega
        exact ⟨rfl, rfl⟩
      · refine V_iload dX10_rankOfColour_20 rfl ?_
        refine V_callSF dX10_rankOfColour_22 (c_colourNumbered (i := i) (by omega)) okX10_colourNumbered lkRX10_272 rfl rfl (Nat.le_of_ble_eq_true rfl) ⟨Nat.le_of_ble_eq_true rfl, Nat.le_of_ble_eq_true rfl⟩ rfl ?_
        refine V_istore dX10_rankOfColour_25 (Nat.le_of_ble_eq_true rfl) rfl rfl ?_
        refine V_aload_n (i := 0) dX10_rankOfColour_27 rfl rfl ?_
        refine V_getC (k := 0) (q := 1) dX10_rankOfColour_28 (Or.inr ⟨rfl, Nat.le_of_ble_eq_true rfl⟩) rfl rfl rfl (Nat.le_of_ble_eq_true rfl) flRX10_10 ?_
        refine V_iload dX10_rankOfColour_31 rfl ?_
        refine V_callVF dX10_rankOfColour_33 (c_count hR (q := (97 + i)) (by omega)) okX8_count lkRX10_101 (Or.inr ⟨rfl, Nat.le_of_ble_eq_true rfl⟩) rfl rfl rfl rfl (Nat.le_of_ble_eq_true rfl) ⟨Nat.le_of_ble_eq_true rfl, Nat.le_of_ble_eq_true rfl⟩ rfl ?_
        refine V_istore dX10_rankOfColour_36 (Nat.le_of_ble_eq_true rfl) rfl rfl ?_
        refine V_iload dX10_rankOfColour_38 rfl ?_
        refine V_iload_n (i := 2) dX10_rankOfColour_40 rfl rfl ?_
        refine V_icmp_gt_n (tgt := 56) dX10_rankOfColour_41 (by decide) (by omega) (by omega) (fun h41 => ?_) (fun h41 => ?_)
        · rw [if_pos (e2.mpr (by omega))] at e1
          refine V_iinc_n (b := ((sm (fun i => if coA s.1 i k = true then 1 else 0) i) + 1)) dX10_rankOfColour_56 rfl (nI_add _ _) rfl rfl ?_
          refine V_iinc_n (b := (i + 1)) dX10_rankOfColour_59 rfl (nI_add _ _) rfl rfl ?_
          refine V_goto (tgt := 14) dX10_rankOfColour_62 (by decide) ?_
          have k9 := ih (i + 1) (by omega) (by omega)
          rw [e1] at k9
          exact k9.sub (by repeat' (first | exact trivial | exact rfl | constructor))
        · refine V_iload dX10_rankOfColour_44 rfl ?_
          refine V_iload_n (i := 2) dX10_rankOfColour_46 rfl rfl ?_
          refine V_icmp_ne_n (tgt := 59) dX10_rankOfColour_47 (by decide) (by omega) (by omega) (fun h47 => ?_) (fun h47 => ?_)
          · rw [if_neg (fun q => by have := e2.mp q; omega)] at e1
            refine V_iinc_n (b := (i + 1)) dX10_rankOfColour_59 rfl (nI_add _ _) rfl rfl ?_
            refine V_goto (tgt := 14) dX10_rankOfColour_62 (by decide) ?_
            have k9 := ih (i + 1) (by omega) (by omega)
            rw [e1] at k9
            exact k9.sub (by repeat' (first | exact trivial | exact rfl | constructor))
          · refine V_iload dX10_rankOfColour_50 rfl ?_
            refine V_iload_n (i := 1) dX10_rankOfColour_52 rfl rfl ?_
            refine V_icmp_ge_n (tgt := 59) dX10_rankOfColour_53 (by decide) (by omega) (by omega) (fun h53 => ?_) (fun h53 => ?_)
            · rw [if_neg (fun q => by have := e2.mp q; omega)] at e1
              refine V_iinc_n (b := (i + 1)) dX10_rankOfColour_59 rfl (nI_add _ _) rfl rfl ?_
              refine V_goto (tgt := 14) dX10_rankOfColour_62 (by decide) ?_
              have k9 := ih (i + 1) (by omega) (by omega)
              rw [e1] at k9
              exact k9.sub (by repeat' (first | exact trivial | exact rfl | constructor))
            · rw [if_pos (e2.mpr (by omega))] at e1
              refine V_iinc_n (b := ((sm (fun i => if coA s.1 i k = true then 1 else 0) i) + 1)) dX10_rankOfColour_56 rfl (nI_add _ _) rfl rfl ?_
              refine V_iinc_n (b := (i + 1)) dX10_rankOfColour_59 rfl (nI_add _ _) rfl rfl ?_
              refine V_goto (tgt := 14) dX10_rankOfColour_62 (by decide) ?_
              have k9 := ih (i + 1) (by omega) (by omega)
              rw [e1] at k9
              exact k9.sub (by repeat' (first | exact trivial | exact rfl | constructor))
  refine V_aload_n (i := 0) dX10_rankOfColour_0 rfl rfl ?_
  refine V_getC (k := 0) (q := 1) dX10_rankOfColour_1 (Or.inr ⟨rfl, Nat.le_of_ble_eq_true rfl⟩) rfl rfl rfl (Nat.le_of_ble_eq_true rfl) flRX10_10 ?_
  refine V_iload_n (i := 1) dX10_rankOfColour_4 rfl rfl ?_
  refine V_callVF dX10_rankOfColour_5 (c_count hR (q := (97 + k)) (by omega)) okX8_count lkRX10_101 (Or.inr ⟨rfl, Nat.le_of_ble_eq_true rfl⟩) rfl rfl rfl rfl (Nat.le_of_ble_eq_true rfl) ⟨Nat.le_of_ble_eq_true rfl, Nat.le_of_ble_eq_true rfl⟩ rfl ?_
  refine V_istore_n (i := 2) dX10_rankOfColour_8 rfl (Nat.le_of_ble_eq_true rfl) rfl rfl ?_
  refine V_iconst_n (v := 0) dX10_rankOfColour_9 (by decide) ?_
  refine V_istore_n (i := 3) dX10_rankOfColour_10 rfl (Nat.le_of_ble_eq_true rfl) rfl rfl ?_
  refine V_iconst_n (v := 0) dX10_rankOfColour_11 (by decide) ?_
  refine V_istore dX10_rankOfColour_12 (Nat.le_of_ble_eq_true rfl) rfl rfl ?_
  exact (lp 5 0 (by omega) (by omega)).sub (by repeat' (first | exact trivial | exact rfl | constructor))
theorem fnd_s {f : Nat → Nat} {x : Int} {n : Nat} : fnd f x (n + 1) = if (f n : Int) = x then some n else fnd f x n := rfl
theorem fnd_lt {f : Nat → Nat} {x : Int} {k : Nat} : ∀ n, fnd f x n = some k → k < n := by
  intro n
  induction n with
  | zero => intro h; cases h
  | succ n ih =>
    intro h
    rw [fnd_s] at h
    by_cases e : (f n : Int) = x
    · rw [if_pos e] at h; cases h; omega
    · rw [if_neg e] at h; have := ih h; omega
/-- what was found, as an int -/
def fnZ (o : Option Nat) : Int := match o with
  | some k => (k : Int)
  | none => -1
def fnC (o : Option Nat) : Nat := match o with
  | some k => 97 + k
  | none => 0
set_option maxRecDepth 100000 in
set_option maxHeartbeats 1000000 in
theorem c_rowByLiving {y : Int32} {x : Int} {S : Sys} {w : Wd} (hC : CI w S) (hy : y = zI x) (n1 : -2147483648 ≤ x) (n2 : x < 2147483648) : Ct 1 MX10_rowByLiving 12 4 24 [.ref 0, .int y] w (PoF ["java/util/NoSuchElementException"] (fRowByLiving S x) w) := by
  refine Ct_of (by decide +kernel) rfl (Nat.le_of_ble_eq_true rfl) rfl ?_
  subst hy
  have lp : ∀ (fu i : Nat) , i ≤ 8 → 8 - i < fu → V 1 MX10_rowByLiving 12 4 24 (PoF ["java/util/NoSuchElementException"] (fRowByLiving S x) w) (fun _ _ => True) 4 24 4 [some (.ref 0), some (.int (zI x)), some (.int (zI (fnZ (fnd (rkR S.1.1) x i)))), some (.int (nI i))] [] w := by
    intro fu
    induction fu with
    | zero => intro i  h1 h2; omega
    | succ fu ih =>
      intro i  hib hfu
      have hle := @rkR_le S.1.1 i 8
      have hle2 : rkR S.1.1 i ≤ 8 := hle
      have e1 := @fnd_s (rkR S.1.1) x i
      have hz9 : -1 ≤ fnZ (fnd (rkR S.1.1) x i) ∧ fnZ (fnd (rkR S.1.1) x i) < 8 := by
        cases hf : (fnd (rkR S.1.1) x i) with
        | none => decide
        | some k => have := fnd_lt i hf; show -1 ≤ (k : Int) ∧ (k : Int) < 8; omega
      refine V_iload_n (i := 3) dX10_rowByLiving_4 rfl rfl ?_
      refine V_bipush_n (v := 8) dX10_rowByLiving_5 (by decide) ?_
      refine V_icmp_ge_n (tgt := 27) dX10_rowByLiving_7 (by decide) (by omega) (by omega) (fun h7 => ?_) (fun h7 => ?_)
      · obtain rfl : i = 8 := by omega
        rcases hf : fnd (rkR S.1.1) x 8 with _ | k9
        · have hf9 : fnZ (none : Option Nat) = -1 := rfl
          refine V_iload_n (i := 2) dX10_rowByLiving_27 rfl rfl ?_
          refine V_if_ge_z (tgt := 42) dX10_rowByLiving_28 (by decide) rfl (by omega) (by omega) (fun h28 => by exfalso; omega) (fun h28 => ?_)
          refine V_throwNW dX10_rowByLiving_31 dX10_rowByLiving_34 dX10_rowByLiving_35 dX10_rowByLiving_38 dX10_rowByLiving_41 thr_NSE (List.mem_of_getElem? (i := 27) rfl) rfl (Nat.le_of_ble_eq_true rfl) (by decide) (by decide) ?_
          have e9 : fRowByLiving S x = (1, 0, S) := by simp [fRowByLiving, fCell, fLive, q2, cl_nat, b2, hf]
          rw [e9]
          exact ⟨Or.inr ⟨Nat.le_of_ble_eq_true rfl, rfl⟩, ⟨hC.1, hC.2.1, hC.2.2.1, hC.2.2.2.1, hC.2.2.2.2.1, hC.2.2.2.2.2⟩, Fr.nil⟩
        · have hk9 := fnd_lt 8 hf
          have hf9 : fnZ (some k9) = (k9 : Int) := rfl
          refine V_iload_n (i := 2) dX10_rowByLiving_27 rfl rfl ?_
          refine V_if_ge_z (tgt := 42) dX10_rowByLiving_28 (by decide) rfl (by omega) (by omega) (fun h28 => ?_) (fun h28 => by exfalso; omega)
          refine V_iload_n (i := 2) dX10_rowByLiving_42 rfl rfl ?_
          refine V_iret dX10_rowByLiving_43 rfl rfl ?_
          rw [hf9, ← zI_n]
          have e9 : fRowByLiving S x = (0, nI k9, S) := by simp [fRowByLiving, fCell, fLive, q2, cl_nat, b2, hf]
          rw [e9]
          exact ⟨Or.inl ⟨rfl, rfl⟩, ⟨hC.1, hC.2.1, hC.2.2.1, hC.2.2.2.1, hC.2.2.2.2.1, hC.2.2.2.2.2⟩, Fr.nil⟩
      · refine V_aload_n (i := 0) dX10_rowByLiving_10 rfl rfl ?_
        refine V_iload_n (i := 3) dX10_rowByLiving_11 rfl rfl ?_
        refine V_callVF dX10_rowByLiving_12 (c_rankOfRow hC.1.1 (r := i) (by omega)) okX10_rankOfRow lkRX10_267 (Or.inr ⟨rfl, Nat.le_of_ble_eq_true rfl⟩) rfl rfl rfl rfl (Nat.le_of_ble_eq_true rfl) ⟨Nat.le_of_ble_eq_true rfl, Nat.le_of_ble_eq_true rfl⟩ rfl ?_
        refine V_iload_n (i := 1) dX10_rowByLiving_15 rfl rfl ?_
        refine V_icmp_ne_z (tgt := 21) dX10_rowByLiving_16 (by decide) (zI_n _) rfl (by omega) (by omega) (by omega) (by omega) (fun h16 => ?_) (fun h16 => ?_)
        · rw [if_neg h16] at e1
          refine V_iinc_n (b := (i + 1)) dX10_rowByLiving_21 rfl (nI_add _ _) rfl rfl ?_
          refine V_goto (tgt := 4) dX10_rowByLiving_24 (by decide) ?_
          have k9 := ih (i + 1) (by omega) (by omega)
          rw [e1] at k9
          exact k9
        · rw [if_pos h16] at e1
          refine V_iload_n (i := 3) dX10_rowByLiving_19 rfl rfl ?_
          refine V_istore_n (i := 2) dX10_rowByLiving_20 rfl (Nat.le_of_ble_eq_true rfl) rfl rfl ?_
          refine V_iinc_n (b := (i + 1)) dX10_rowByLiving_21 rfl (nI_add _ _) rfl rfl ?_
          refine V_goto (tgt := 4) dX10_rowByLiving_24 (by decide) ?_
          have k9 := ih (i + 1) (by omega) (by omega)
          rw [e1] at k9
          exact (show V _ _ _ _ _ _ _ _ _ _ [some (.ref 0), some (.int (zI x)), some (.int (nI i)), some (.int (nI (i + 1)))] _ _ from (zI_n i).symm ▸ k9)
  refine V_iconst_z (v := -1) dX10_rowByLiving_0 (by decide) ?_
  refine V_istore_n (i := 2) dX10_rowByLiving_1 rfl (Nat.le_of_ble_eq_true rfl) rfl rfl ?_
  refine V_iconst_n (v := 0) dX10_rowByLiving_2 (by decide) ?_
  refine V_istore_n (i := 3) dX10_rowByLiving_3 rfl (Nat.le_of_ble_eq_true rfl) rfl rfl ?_
  exact lp 9 0 (by omega) (by omega)
set_option maxRecDepth 100000 in
set_option maxHeartbeats 1000000 in
theorem c_colourByCount {y : Int32} {x : Int} {S : Sys} {w : Wd} (hC : CI w S) (hy : y = zI x) (n1 : -2147483648 ≤ x) (n2 : x < 2147483648) : Ct 1 MX10_colourByCount 12 4 24 [.ref 0, .int y] w (PoF ["java/util/NoSuchElementException"] (fColourByCount S x) w) := by
  refine Ct_of (by decide +kernel) rfl (Nat.le_of_ble_eq_true rfl) rfl ?_
  subst hy
  have lp : ∀ (fu i : Nat) , i ≤ 4 → 4 - i < fu → V 1 MX10_colourByCount 12 4 24 (PoF ["java/util/NoSuchElementException"] (fColourByCount S x) w) (fun _ _ => True) 4 24 4 [some (.ref 0), some (.int (zI x)), some (.int (nI (fnC (fnd (rkC S.1.1) x i)))), some (.int (nI i))] [] w := by
    intro fu
    induction fu with
    | zero => intro i  h1 h2; omega
    | succ fu ih =>
      intro i  hib hfu
      have hle := @rkC_le S.1.1 i 4
      have hle2 : rkC S.1.1 i ≤ 4 := hle
      have e1 := @fnd_s (rkC S.1.1) x i
      have hz9 : fnC (fnd (rkC S.1.1) x i) ≤ 100 := by
        cases hf : (fnd (rkC S.1.1) x i) with
        | none => decide
        | some k => have := fnd_lt i hf; show 97 + k ≤ 100; omega
      refine V_iload_n (i := 3) dX10_colourByCount_4 rfl rfl ?_
      refine V_iconst_n (v := 4) dX10_colourByCount_5 (by decide) ?_
      refine V_icmp_ge_n (tgt := 32) dX10_colourByCount_6 (by decide) (by omega) (by omega) (fun h6 => ?_) (fun h6 => ?_)
      · obtain rfl : i = 4 := by omega
        rcases hf : fnd (rkC S.1.1) x 4 with _ | k9
        · have hf9 : fnC (none : Option Nat) = 0 := rfl
          refine V_iload_n (i := 2) dX10_colourByCount_32 rfl rfl ?_
          refine V_if_ne_n (tgt := 47) dX10_colourByCount_33 (by decide) (by omega) (fun h33 => by exfalso; omega) (fun h33 => ?_)
          refine V_throwNW dX10_colourByCount_36 dX10_colourByCount_39 dX10_colourByCount_40 dX10_colourByCount_43 dX10_colourByCount_46 thr_NSE (List.mem_of_getElem? (i := 27) rfl) rfl (Nat.le_of_ble_eq_true rfl) (by decide) (by decide) ?_
          have e9 : fColourByCount S x = (1, 0, S) := by simp [fColourByCount, fCell, fLive, q2, cl_nat, b2, hf]
          rw [e9]
          exact ⟨Or.inr ⟨Nat.le_of_ble_eq_true rfl, rfl⟩, ⟨hC.1, hC.2.1, hC.2.2.1, hC.2.2.2.1, hC.2.2.2.2.1, hC.2.2.2.2.2⟩, Fr.nil⟩
        · have hk9 := fnd_lt 4 hf
          have hf9 : fnC (some k9) = 97 + k9 := rfl
          refine V_iload_n (i := 2) dX10_colourByCount_32 rfl rfl ?_
          refine V_if_ne_n (tgt := 47) dX10_colourByCount_33 (by decide) (by omega) (fun h33 => ?_) (fun h33 => by exfalso; omega)
          refine V_iload_n (i := 2) dX10_colourByCount_47 rfl rfl ?_
          refine V_iret dX10_colourByCount_48 rfl (nar_char (by omega)) ?_
          rw [hf9]
          have e9 : fColourByCount S x = (0, nI (97 + k9), S) := by simp [fColourByCount, fCell, fLive, q2, cl_nat, b2, hf]
          rw [e9]
          exact ⟨Or.inl ⟨rfl, rfl⟩, ⟨hC.1, hC.2.1, hC.2.2.1, hC.2.2.2.1, hC.2.2.2.2.1, hC.2.2.2.2.2⟩, Fr.nil⟩
      · refine V_aload_n (i := 0) dX10_colourByCount_9 rfl rfl ?_
        refine V_iload_n (i := 3) dX10_colourByCount_10 rfl rfl ?_
        refine V_callSF dX10_colourByCount_11 (c_colourNumbered (i := i) (by omega)) okX10_colourNumbered lkRX10_272 rfl rfl (Nat.le_of_ble_eq_true rfl) ⟨Nat.le_of_ble_eq_true rfl, Nat.le_of_ble_eq_true rfl⟩ rfl ?_
        refine V_callVF dX10_colourByCount_14 (c_rankOfColour hC.1.1 (k := i) (by omega)) okX10_rankOfColour lkRX10_275 (Or.inr ⟨rfl, Nat.le_of_ble_eq_true rfl⟩) rfl rfl rfl rfl (Nat.le_of_ble_eq_true rfl) ⟨Nat.le_of_ble_eq_true rfl, Nat.le_of_ble_eq_true rfl⟩ rfl ?_
        refine V_iload_n (i := 1) dX10_colourByCount_17 rfl rfl ?_
        refine V_icmp_ne_z (tgt := 26) dX10_colourByCount_18 (by decide) (zI_n _) rfl (by omega) (by omega) (by omega) (by omega) (fun h18 => ?_) (fun h18 => ?_)
        · rw [if_neg h18] at e1
          refine V_iinc_n (b := (i + 1)) dX10_colourByCount_26 rfl (nI_add _ _) rfl rfl ?_
          refine V_goto (tgt := 4) dX10_colourByCount_29 (by decide) ?_
          have k9 := ih (i + 1) (by omega) (by omega)
          rw [e1] at k9
          exact k9
        · rw [if_pos h18] at e1
          refine V_iload_n (i := 3) dX10_colourByCount_21 rfl rfl ?_
          refine V_callSF dX10_colourByCount_22 (c_colourNumbered (i := i) (by omega)) okX10_colourNumbered lkRX10_272 rfl rfl (Nat.le_of_ble_eq_true rfl) ⟨Nat.le_of_ble_eq_true rfl, Nat.le_of_ble_eq_true rfl⟩ rfl ?_
          refine V_istore_n (i := 2) dX10_colourByCount_25 rfl (Nat.le_of_ble_eq_true rfl) rfl rfl ?_
          refine V_iinc_n (b := (i + 1)) dX10_colourByCount_26 rfl (nI_add _ _) rfl rfl ?_
          refine V_goto (tgt := 4) dX10_colourByCount_29 (by decide) ?_
          have k9 := ih (i + 1) (by omega) (by omega)
          rw [e1] at k9
          exact k9
  refine V_iconst_n (v := 0) dX10_colourByCount_0 (by decide) ?_
  refine V_istore_n (i := 2) dX10_colourByCount_1 rfl (Nat.le_of_ble_eq_true rfl) rfl rfl ?_
  refine V_iconst_n (v := 0) dX10_colourByCount_2 (by decide) ?_
  refine V_istore_n (i := 3) dX10_colourByCount_3 rfl (Nat.le_of_ble_eq_true rfl) rfl rfl ?_
  exact lp 5 0 (by omega) (by omega)
def PoD (es : List String) (k : Nat) (v : Value) (S : Sys) (w : Wd) : Out → Wd → Prop := fun o w1 => ((k = 0 ∧ o = Sum.inl (some v)) ∨ (0 < k ∧ o = Sum.inr (es.getD (k - 1) ""))) ∧ CI w1 S ∧ Fr InC w w1
noncomputable def fMeanK (S : Sys) : Nat := if cnt S.1.1 42 = 0 then 1 else 0
def fMeanV (S : Sys) : UInt64 := FP.ddiv (FP.i2d (nI (sumA S.1.1))) (FP.i2d (nI (cnt S.1.1 42)))
def fShareK (S : Sys) : Nat := if cnt S.1.1 42 + cnt S.1.1 35 = 0 then 1 else 0
def fShareV (S : Sys) : UInt32 := FP.fdiv (FP.i2f (nI (cnt S.1.1 42))) (FP.i2f (nI (cnt S.1.1 42 + cnt S.1.1 35)))
theorem sumA_le {C : Nat → Nat} : sumA C ≤ 576 := by have := sm_le (f := fun k => ag (C k)) (c := 9) (fun k => by have := @ag_lt (C k); omega) 64; unfold sumA; omega
theorem cnt_two {C : Nat → Nat} : cnt C 42 + cnt C 35 ≤ 64 := by
  unfold cnt
  rw [← sm_add]
  have := sm_le (f := fun k => (if hk (C k) 42 then 1 else 0) + (if hk (C k) 35 then 1 else 0)) (c := 1) (fun k => by
    have h1 : hk (C k) 42 = decide (10 ≤ C k) := rfl
    have h2 : hk (C k) 35 = decide (kc (C k) = 35) := rfl
    rw [h1, h2]
    by_cases e : 10 ≤ C k
    · have e2 : ¬ kc (C k) = 35 := by unfold kc; rw [if_neg (by omega), if_neg (by omega)]; omega
      simp [e, e2]
    · simp [e]; split <;> omega) 64
  omega
set_option maxRecDepth 100000 in
set_option maxHeartbeats 1000000 in
theorem c_meanAge {S : Sys} {w : Wd} (hC : CI w S) : Ct 1 MX10_meanAge 12 4 24 [.ref 0] w (PoD ["java/lang/ArithmeticException"] (fMeanK S) (.double (fMeanV S)) S w) := by
  refine Ct_of (by decide +kernel) rfl (Nat.le_of_ble_eq_true rfl) rfl ?_
  have b1 : cnt S.1.1 42 ≤ 64 := cnt_le
  have b2 := @sumA_le S.1.1
  refine V_aload_n (i := 0) dX10_meanAge_0 rfl rfl ?_
  refine V_getC (k := 0) (q := 1) dX10_meanAge_1 (Or.inr ⟨rfl, Nat.le_of_ble_eq_true rfl⟩) rfl rfl rfl (Nat.le_of_ble_eq_true rfl) flRX10_10 ?_
  refine V_bipush_n (v := 42) dX10_meanAge_4 (by decide) ?_
  refine V_callVF dX10_meanAge_6 (c_count hC.1.1 (q := 42) (by omega)) okX8_count lkRX10_101 (Or.inr ⟨rfl, Nat.le_of_ble_eq_true rfl⟩) rfl rfl rfl rfl (Nat.le_of_ble_eq_true rfl) ⟨Nat.le_of_ble_eq_true rfl, Nat.le_of_ble_eq_true rfl⟩ rfl ?_
  refine V_istore_n (i := 1) dX10_meanAge_9 rfl (Nat.le_of_ble_eq_true rfl) rfl rfl ?_
  refine V_iload_n (i := 1) dX10_meanAge_10 rfl rfl ?_
  refine V_if_ne_n (tgt := 25) dX10_meanAge_11 (by decide) (by omega) (fun h11 => ?_) (fun h11 => ?_)
  · have hz := h11
    refine V_aload_n (i := 0) dX10_meanAge_25 rfl rfl ?_
    refine V_getC (k := 0) (q := 1) dX10_meanAge_26 (Or.inr ⟨rfl, Nat.le_of_ble_eq_true rfl⟩) rfl rfl rfl (Nat.le_of_ble_eq_true rfl) flRX10_10 ?_
    refine V_callVF dX10_meanAge_29 (c_sumOfAges hC.1.1) okX8_sumOfAges lkRX10_283 (Or.inr ⟨rfl, Nat.le_of_ble_eq_true rfl⟩) rfl rfl rfl rfl (Nat.le_of_ble_eq_true rfl) ⟨Nat.le_of_ble_eq_true rfl, Nat.le_of_ble_eq_true rfl⟩ rfl ?_
    refine V_i2d dX10_meanAge_32 ?_
    refine V_iload_n (i := 1) dX10_meanAge_33 rfl rfl ?_
    refine V_i2d dX10_meanAge_34 ?_
    refine V_ddiv dX10_meanAge_35 (fpt1 _ (by omega) _ (by omega) (by omega)) ?_
    refine V_dret dX10_meanAge_36 rfl ?_
    have e9 : fMeanK S = 0 := if_neg hz
    rw [e9]
    exact ⟨Or.inl ⟨rfl, rfl⟩, hC, Fr.nil⟩
  · have hz := h11
    refine V_throwW dX10_meanAge_14 dX10_meanAge_17 dX10_meanAge_18 dX10_meanAge_21 dX10_meanAge_24 thr_AE (List.mem_of_getElem? (i := 28) rfl) rfl (Nat.le_of_ble_eq_true rfl) (by decide) (by decide) ?_
    have e9 : fMeanK S = 1 := if_pos hz
    rw [e9]
    exact ⟨Or.inr ⟨by decide, rfl⟩, hC, Fr.nil⟩
set_option maxRecDepth 100000 in
set_option maxHeartbeats 1000000 in
theorem c_livingShare {S : Sys} {w : Wd} (hC : CI w S) : Ct 1 MX10_livingShare 12 4 24 [.ref 0] w (PoD ["java/lang/ArithmeticException"] (fShareK S) (.float (fShareV S)) S w) := by
  refine Ct_of (by decide +kernel) rfl (Nat.le_of_ble_eq_true rfl) rfl ?_
  have b1 := @cnt_two S.1.1
  refine V_aload_n (i := 0) dX10_livingShare_0 rfl rfl ?_
  refine V_getC (k := 0) (q := 1) dX10_livingShare_1 (Or.inr ⟨rfl, Nat.le_of_ble_eq_true rfl⟩) rfl rfl rfl (Nat.le_of_ble_eq_true rfl) flRX10_10 ?_
  refine V_bipush_n (v := 42) dX10_livingShare_4 (by decide) ?_
  refine V_callVF dX10_livingShare_6 (c_count hC.1.1 (q := 42) (by omega)) okX8_count lkRX10_101 (Or.inr ⟨rfl, Nat.le_of_ble_eq_true rfl⟩) rfl rfl rfl rfl (Nat.le_of_ble_eq_true rfl) ⟨Nat.le_of_ble_eq_true rfl, Nat.le_of_ble_eq_true rfl⟩ rfl ?_
  refine V_istore_n (i := 1) dX10_livingShare_9 rfl (Nat.le_of_ble_eq_true rfl) rfl rfl ?_
  refine V_iload_n (i := 1) dX10_livingShare_10 rfl rfl ?_
  refine V_aload_n (i := 0) dX10_livingShare_11 rfl rfl ?_
  refine V_getC (k := 0) (q := 1) dX10_livingShare_12 (Or.inr ⟨rfl, Nat.le_of_ble_eq_true rfl⟩) rfl rfl rfl (Nat.le_of_ble_eq_true rfl) flRX10_10 ?_
  refine V_bipush_n (v := 35) dX10_livingShare_15 (by decide) ?_
  refine V_callVF dX10_livingShare_17 (c_count hC.1.1 (q := 35) (by omega)) okX8_count lkRX10_101 (Or.inr ⟨rfl, Nat.le_of_ble_eq_true rfl⟩) rfl rfl rfl rfl (Nat.le_of_ble_eq_true rfl) ⟨Nat.le_of_ble_eq_true rfl, Nat.le_of_ble_eq_true rfl⟩ rfl ?_
  refine V_iadd_n dX10_livingShare_20 ?_
  refine V_istore_n (i := 2) dX10_livingShare_21 rfl (Nat.le_of_ble_eq_true rfl) rfl rfl ?_
  refine V_iload_n (i := 2) dX10_livingShare_22 rfl rfl ?_
  refine V_if_ne_n (tgt := 37) dX10_livingShare_23 (by decide) (by omega) (fun h23 => ?_) (fun h23 => ?_)
  · have hz := h23
    refine V_iload_n (i := 1) dX10_livingShare_37 rfl rfl ?_
    refine V_i2f dX10_livingShare_38 ?_
    refine V_iload_n (i := 2) dX10_livingShare_39 rfl rfl ?_
    refine V_i2f dX10_livingShare_40 ?_
    refine V_fdiv dX10_livingShare_41 (fpt2 _ (by omega) _ (by omega) (by omega)) ?_
    refine V_fret dX10_livingShare_42 rfl ?_
    have e9 : fShareK S = 0 := if_neg hz
    rw [e9]
    exact ⟨Or.inl ⟨rfl, rfl⟩, hC, Fr.nil⟩
  · have hz := h23
    refine V_throwW dX10_livingShare_26 dX10_livingShare_29 dX10_livingShare_30 dX10_livingShare_33 dX10_livingShare_36 thr_AE (List.mem_of_getElem? (i := 29) rfl) rfl (Nat.le_of_ble_eq_true rfl) (by decide) (by decide) ?_
    have e9 : fShareK S = 1 := if_pos hz
    rw [e9]
    exact ⟨Or.inr ⟨by decide, rfl⟩, hC, Fr.nil⟩
theorem sgn_lt {v : Nat} (h : okc v) : sgn v < 128 := by
  have h1 := kc_lt h
  unfold sgn
  split
  · omega
  · split
    · omega
    · split <;> omega
theorem rowL_len {C : Nat → Nat} {r : Nat} : ∀ n, (rowL C r n).length = n := by
  intro n
  induction n with
  | zero => rfl
  | succ n ih => show (rowL C r n ++ [_]).length = n + 1; rw [List.length_append, ih]; rfl
def asc (l : List Nat) : Prop := ∀ i, i < l.length → l.getD i 0 < 128
theorem asc_nil : asc [] := fun i hi => by cases hi
theorem asc_snoc {l : List Nat} {q : Nat} (h : asc l) (hq : q < 128) : asc (l ++ [q]) := fun i hi => by
  rw [getD_snoc]
  rw [List.length_append] at hi
  split
  · next h1 => exact h i h1
  · split <;> omega
theorem asc_app {l : List Nat} : ∀ {k : List Nat}, asc l → asc k → asc (l ++ k) := by
  intro k
  induction k generalizing l with
  | nil => intro h _; rw [List.append_nil]; exact h
  | cons q k ih =>
    intro h hk
    rw [show l ++ q :: k = (l ++ [q]) ++ k by simp]
    exact ih (asc_snoc h (hk 0 (by simp))) (fun i hi => hk (i + 1) (by simpa using hi))
theorem asc_tx {t : Nat} (h : IsT t) : asc (tx t) := fun i hi => tx_asc h i hi
theorem asc_nums {f : Nat → Bool} : ∀ n, n ≤ 9 → asc (nums f n) := by
  intro n
  induction n with
  | zero => intro _; exact asc_nil
  | succ n ih =>
    intro hn
    show asc (if f n = true then nums f n ++ [48 + n] else nums f n)
    split
    · exact asc_snoc (ih (by omega)) (by omega)
    · exact ih (by omega)
theorem rowL_asc {C : Nat → Nat} {r : Nat} (hr : r < 8) (hok : ∀ k, k < 64 → okc (C k)) : ∀ n, n ≤ 8 → asc (rowL C r n) := by
  intro n
  induction n with
  | zero => intro _; exact asc_nil
  | succ n ih => intro hn; exact asc_snoc (ih (by omega)) (sgn_lt (hok _ (by omega)))
theorem CI.out {w w1 : Wd} {S : Sys} {l : List Nat} (h : CI w S) (hF : Fr InO w w1) (hO : OutI w1 43 1 44 l) (hl : l.length ≤ 32) (ha : asc l) : CI w1 (wOut S l) ∧ Fr InC w w1 :=
  ⟨⟨h.1.keep hF (fun b hb => by unfold InO; omega), h.2.1.keep hF (fun b hb => by unfold InO; omega), h.2.2.1.keep hF (fun b hb => by unfold InO; omega), ⟨hO, hl, ha⟩, h.2.2.2.2.1.keep hF (fun b hb => by unfold InO; omega), h.2.2.2.2.2.keep hF (fun b hb => by unfold InO; omega)⟩, hF.mono (fun b hb => by unfold InO at hb; unfold InC; omega)⟩
set_option maxRecDepth 100000 in
set_option maxHeartbeats 1000000 in
theorem c_writeRow {x : Int32} {r : Int} {S : Sys} {w : Wd} (hC : CI w S) (hx : x = zI r) (n1 : -2147483648 ≤ r) (n2 : r < 2147483648) : Ct 1 MX10_writeRow 12 4 24 [.ref 0, .int x] w (PoF ["java/lang/IndexOutOfBoundsException"] (fWriteRow S r) w) := by
  refine Ct_of (by decide +kernel) rfl (Nat.le_of_ble_eq_true rfl) rfl ?_
  subst hx
  refine V_iload_n (i := 1) dX10_writeRow_0 rfl rfl ?_
  refine V_if_lt_z (tgt := 10) dX10_writeRow_1 (by decide) rfl (by omega) (by omega) (fun h1 => ?_) (fun h1 => ?_)
  · refine V_throwW dX10_writeRow_10 dX10_writeRow_13 dX10_writeRow_14 dX10_writeRow_17 dX10_writeRow_20 thr_IOOBE (List.mem_of_getElem? (i := 30) rfl) rfl (Nat.le_of_ble_eq_true rfl) (by decide) (by decide) ?_
    have hz : ¬ (0 ≤ r ∧ r < 8) := by omega
    have e9 : fWriteRow S r = (1, 0, S) := by simp [fWriteRow, fCell, fLive, q2, cl_nat, b2, hz]
    rw [e9]
    exact ⟨Or.inr ⟨Nat.le_of_ble_eq_true rfl, rfl⟩, ⟨hC.1, hC.2.1, hC.2.2.1, hC.2.2.2.1, hC.2.2.2.2.1, hC.2.2.2.2.2⟩, Fr.nil⟩
  · refine V_iload_n (i := 1) dX10_writeRow_4 rfl rfl ?_
    refine V_bipush_n (v := 8) dX10_writeRow_5 (by decide) ?_
    refine V_icmp_lt_z (tgt := 21) dX10_writeRow_7 (by decide) rfl (zI_n _) (by omega) (by omega) (by omega) (by omega) (fun h7 => ?_) (fun h7 => ?_)
    · obtain ⟨r0, rfl⟩ : ∃ m : Nat, r = (m : Int) := ⟨r.toNat, by omega⟩
      have hr9 : r0 < 8 := by omega
      have hr8 : (r0 : Int) < 8 := by omega
      simp only [← zI_n]
      have lp : ∀ (fu i : Nat) (w1 : Wd), i ≤ 8 → 8 - i < fu → OutI w1 43 1 44 (rowL S.1.1 r0 i) → Fr InO w w1 → V 1 MX10_writeRow 12 4 24 (PoF ["java/lang/IndexOutOfBoundsException"] (fWriteRow S (r0 : Int)) w) (fun _ _ => True) 4 24 30 [some (.ref 0), some (.int (nI r0)), some (.int (nI i))] [] w1 := by
        intro fu
        induction fu with
        | zero => intro i w1 h1 h2; omega
        | succ fu ih =>
          intro i w1 hib hfu hO1 hF1
          have hlen := @rowL_len S.1.1 r0 i
          refine V_iload_n (i := 2) dX10_writeRow_30 rfl rfl ?_
          refine V_bipush_n (v := 8) dX10_writeRow_31 (by decide) ?_
          refine V_icmp_ge_n (tgt := 61) dX10_writeRow_33 (by decide) (by omega) (by omega) (fun h33 => ?_) (fun h33 => ?_)
          · refine V_aload_n (i := 0) dX10_writeRow_61 rfl rfl ?_
            refine V_getC (k := 6) (q := 43) dX10_writeRow_62 (Or.inr ⟨rfl, Nat.le_of_ble_eq_true rfl⟩) rfl rfl rfl (Nat.le_of_ble_eq_true rfl) flRX10_46 ?_
            refine V_getI (k := 1) dX10_writeRow_65 (Or.inr ⟨rfl, Nat.le_of_ble_eq_true rfl⟩) rfl rfl rfl (Nat.le_of_ble_eq_true rfl) flRX10_308 ?_
            refine V_top (y := nI (rowL S.1.1 r0 i).length) hO1.1 ?_
            refine V_iret dX10_writeRow_68 rfl rfl ?_
            obtain rfl : i = 8 := by omega
            have e9 : fWriteRow S (r0 : Int) = (0, nI (rowL S.1.1 r0 8).length, wOut S (rowL S.1.1 r0 8)) := by rw [rowL_len]; simp [fWriteRow, hr8]
            rw [e9]
            have h9 := hC.out hF1 hO1 (by omega) (rowL_asc hr9 hC.1.1.2.1 8 (by omega))
            exact ⟨Or.inl ⟨rfl, rfl⟩, h9.1, h9.2⟩
          · refine V_aload_n (i := 0) dX10_writeRow_36 rfl rfl ?_
            refine V_getC (k := 6) (q := 43) dX10_writeRow_37 (Or.inr ⟨rfl, Nat.le_of_ble_eq_true rfl⟩) rfl rfl rfl (Nat.le_of_ble_eq_true rfl) flRX10_46 ?_
            refine V_aload_n (i := 0) dX10_writeRow_40 rfl rfl ?_
            refine V_getC (k := 0) (q := 1) dX10_writeRow_41 (Or.inr ⟨rfl, Nat.le_of_ble_eq_true rfl⟩) rfl rfl rfl (Nat.le_of_ble_eq_true rfl) flRX10_10 ?_
            refine V_iload_n (i := 1) dX10_writeRow_44 rfl rfl ?_
            refine V_iload_n (i := 2) dX10_writeRow_45 rfl rfl ?_
            refine V_callSF dX10_writeRow_46 (c_cellNumber (r := r0) (c := i) (rfl) (rfl)) okX10_cellNumber lkRX10_82 rfl rfl (Nat.le_of_ble_eq_true rfl) ⟨Nat.le_of_ble_eq_true rfl, Nat.le_of_ble_eq_true rfl⟩ rfl ?_
            refine V_callVF dX10_writeRow_49 (c_signOf (hC.1.keep hF1 (fun b hb => by unfold InO; omega)).1 (k := (8 * r0 + i)) (by omega)) okX8_signOf lkRX10_302 (Or.inr ⟨rfl, Nat.le_of_ble_eq_true rfl⟩) rfl rfl rfl rfl (Nat.le_of_ble_eq_true rfl) ⟨Nat.le_of_ble_eq_true rfl, Nat.le_of_ble_eq_true rfl⟩ rfl ?_
            have hsg := sgn_lt (hC.1.1.2.1 (8 * r0 + i) (by omega))
            refine V_callVM dX10_writeRow_52 (c_oadd hO1 (q := (sgn (S.1.1 (8 * r0 + i)))) (by omega) (by omega)) okX4_add lkRX10_305 (Or.inr ⟨rfl, Nat.le_of_ble_eq_true rfl⟩) rfl rfl rfl rfl (Nat.le_of_ble_eq_true rfl) ⟨Nat.le_of_ble_eq_true rfl, Nat.le_of_ble_eq_true rfl⟩ rfl ?_
            intro u1 hu1
            refine V_iinc_n (b := (i + 1)) dX10_writeRow_55 rfl (nI_add _ _) rfl rfl ?_
            refine V_goto (tgt := 30) dX10_writeRow_58 (by decide) ?_
            exact ih (i + 1) u1 (by omega) (by omega) hu1.1 (hF1.trans hu1.2)
      refine V_aload_n (i := 0) dX10_writeRow_21 rfl rfl ?_
      refine V_getC (k := 6) (q := 43) dX10_writeRow_22 (Or.inr ⟨rfl, Nat.le_of_ble_eq_true rfl⟩) rfl rfl rfl (Nat.le_of_ble_eq_true rfl) flRX10_46 ?_
      refine V_callVM dX10_writeRow_25 c_oempty okX4_empty lkRX10_299 (Or.inr ⟨rfl, Nat.le_of_ble_eq_true rfl⟩) rfl rfl rfl rfl (Nat.le_of_ble_eq_true rfl) ⟨Nat.le_of_ble_eq_true rfl, Nat.le_of_ble_eq_true rfl⟩ rfl ?_
      intro u1 hu1
      refine V_iconst_n (v := 0) dX10_writeRow_28 (by decide) ?_
      refine V_istore_n (i := 2) dX10_writeRow_29 rfl (Nat.le_of_ble_eq_true rfl) rfl rfl ?_
      exact (lp 9 0 u1 (by omega) (by omega) hu1.1 hu1.2).sub (by repeat' (first | exact trivial | exact rfl | constructor))
    · refine V_throwW dX10_writeRow_10 dX10_writeRow_13 dX10_writeRow_14 dX10_writeRow_17 dX10_writeRow_20 thr_IOOBE (List.mem_of_getElem? (i := 30) rfl) rfl (Nat.le_of_ble_eq_true rfl) (by decide) (by decide) ?_
      have hz : ¬ (0 ≤ r ∧ r < 8) := by omega
      have e9 : fWriteRow S r = (1, 0, S) := by simp [fWriteRow, fCell, fLive, q2, cl_nat, b2, hz]
      rw [e9]
      exact ⟨Or.inr ⟨Nat.le_of_ble_eq_true rfl, rfl⟩, ⟨hC.1, hC.2.1, hC.2.2.1, hC.2.2.2.1, hC.2.2.2.2.1, hC.2.2.2.2.2⟩, Fr.nil⟩
end MFACE4
