/-! THE FACE: what changes. Printed by wip/whole/gen/mk27.py. -/
section MFACE3
theorem kpH_bal {H : Nat × Nat × (Nat → St)} {s : St} (h : ∀ j, j < 8 → Bal (H.2.2 j)) (hs : Bal s) : ∀ j, j < 8 → Bal ((kpH H s).2.2 j) := by
  intro j hj
  show Bal (if j = H.1 then s else H.2.2 j)
  split
  · exact hs
  · exact h j hj
set_option maxRecDepth 100000 in
set_option maxHeartbeats 1000000 in
theorem c_place {x y : Int32} {r c : Int} {q : Nat} {S : Sys} {w : Wd} (hC : CI w S) (hx : x = zI r) (hy : y = zI c) (r1 : -2147483648 ≤ r) (r2 : r < 2147483648) (c1 : -2147483648 ≤ c) (c2 : c < 2147483648) (hq : q < 65536) : Ct 1 MX10_place 12 4 24 [.ref 0, .int x, .int y, .int (nI q)] w (PoF ["java/lang/IndexOutOfBoundsException", "java/lang/IllegalArgumentException", "java/lang/UnsupportedOperationException"] (fPlace S r c q) w) := by
  refine Ct_of (by decide +kernel) rfl (Nat.le_of_ble_eq_true rfl) rfl ?_
  subst hx hy
  refine V_iload_n (i := 1) dX10_place_0 rfl rfl ?_
  refine V_iload_n (i := 2) dX10_place_1 rfl rfl ?_
  refine V_callS dX10_place_2 (c_requireCell (r := r) (c := c) rfl rfl (by omega) (by omega) (by omega) (by omega)) okX10_requireCell lkRX10_74 rfl rfl (Nat.le_of_ble_eq_true rfl) ⟨Nat.le_of_ble_eq_true rfl, Nat.le_of_ble_eq_true rfl⟩ rfl ⟨by decide, by decide⟩ (fun v9 u1 hu1 => ?_) (fun E9 u1 hu1 => ?_)
  · rcases hu1 with ⟨hu1f, e9, hu1⟩ | ⟨hu1f, e9, hu1⟩
    · cases e9
      subst hu1
      have hin0 := hu1f
      have hii0 := ins_iff.mp hin0
      obtain ⟨r0, rfl⟩ : ∃ n : Nat, r = (n : Int) := ⟨r.toNat, by omega⟩
      obtain ⟨c0, rfl⟩ : ∃ n : Nat, c = (n : Int) := ⟨c.toNat, by omega⟩
      simp only [← zI_n]
      have hcc : (8 * r0 + c0) < 64 := by omega
      have hk9 := kc_lt (hC.1.1.2.1 (8 * r0 + c0) hcc)
      have hk7 := kc_live (hC.1.1.2.1 (8 * r0 + c0) hcc)
      have hk6 := kc_none (hC.1.1.2.1 (8 * r0 + c0) hcc)
      have hk5 := kc_pale (hC.1.1.2.1 (8 * r0 + c0) hcc)
      have hok := hC.1.1.2.1 (8 * r0 + c0) hcc
      unfold okc at hok
      refine V_iload_n (i := 3) dX10_place_5 rfl rfl ?_
      refine V_callS dX10_place_6 (c_requireColour (q := q) (by omega)) okX10_requireColour lkRX10_78 rfl rfl (Nat.le_of_ble_eq_true rfl) ⟨Nat.le_of_ble_eq_true rfl, Nat.le_of_ble_eq_true rfl⟩ rfl ⟨by decide, by decide⟩ (fun v9 u2 hu2 => ?_) (fun E9 u2 hu2 => ?_)
      · rcases hu2 with ⟨hu2f, e9, hu2⟩ | ⟨hu2f, e9, hu2⟩
        · cases e9
          subst hu2
          have hcq := hu2f
          have hcq2 := isC_iff.mp hcq
          refine V_iload_n (i := 1) dX10_place_9 rfl rfl ?_
          refine V_iload_n (i := 2) dX10_place_10 rfl rfl ?_
          refine V_callSF dX10_place_11 (c_cellNumber (r := r0) (c := c0) (rfl) (rfl)) okX10_cellNumber lkRX10_82 rfl rfl (Nat.le_of_ble_eq_true rfl) ⟨Nat.le_of_ble_eq_true rfl, Nat.le_of_ble_eq_true rfl⟩ rfl ?_
          refine V_istore dX10_place_14 (Nat.le_of_ble_eq_true rfl) rfl rfl ?_
          refine V_aload_n (i := 0) dX10_place_16 rfl rfl ?_
          refine V_aload_n (i := 0) dX10_place_17 rfl rfl ?_
          refine V_getC (k := 0) (q := 1) dX10_place_18 (Or.inr ⟨rfl, Nat.le_of_ble_eq_true rfl⟩) rfl rfl rfl (Nat.le_of_ble_eq_true rfl) flRX10_10 ?_
          refine V_iload dX10_place_21 rfl ?_
          refine V_callVF dX10_place_23 (c_reasonAgainstPlacing hC.1.1 (k := (8 * r0 + c0)) (by omega)) okX8_reasonAgainstPlacing lkRX10_86 (Or.inr ⟨rfl, Nat.le_of_ble_eq_true rfl⟩) rfl rfl rfl rfl (Nat.le_of_ble_eq_true rfl) ⟨Nat.le_of_ble_eq_true rfl, Nat.le_of_ble_eq_true rfl⟩ rfl ?_
          refine V_iload dX10_place_26 rfl ?_
          refine V_callV dX10_place_28 (c_rejectFor hC.2.2.2.2.2 (rs := (rsP (S.1.1 (8 * r0 + c0)))) (x := nI (8 * r0 + c0)) (by have := @rsP_lt (S.1.1 (8 * r0 + c0)); omega)) okX10_rejectFor lkRX10_90 (Or.inr ⟨rfl, Nat.le_of_ble_eq_true rfl⟩) rfl rfl rfl rfl (Nat.le_of_ble_eq_true rfl) ⟨Nat.le_of_ble_eq_true rfl, Nat.le_of_ble_eq_true rfl⟩ rfl ⟨by decide, by decide⟩ (fun v9 u3 hu3 => ?_) (fun E9 u3 hu3 => ?_)
          · rcases hu3 with ⟨hu3f, e9, hu3⟩ | ⟨hu3f, e9, hu3⟩
            · cases e9
              subst hu3
              have hz : S.1.1 (8 * r0 + c0) = 0 := Decidable.by_contra fun q => by have : rsP (S.1.1 (8 * r0 + c0)) = 1 := if_neg q; omega
              refine V_aload_n (i := 0) dX10_place_31 rfl rfl ?_
              refine V_getC (k := 3) (q := 10) dX10_place_32 (Or.inr ⟨rfl, Nat.le_of_ble_eq_true rfl⟩) rfl rfl rfl (Nat.le_of_ble_eq_true rfl) flRX10_25 ?_
              refine V_aload_n (i := 0) dX10_place_35 rfl rfl ?_
              refine V_getC (k := 0) (q := 1) dX10_place_36 (Or.inr ⟨rfl, Nat.le_of_ble_eq_true rfl⟩) rfl rfl rfl (Nat.le_of_ble_eq_true rfl) flRX10_10 ?_
              refine V_callVM dX10_place_39 (c_keep hC.2.1.1 hC.1.1 (by omega)) okX2_keep lkRX10_93 (Or.inr ⟨rfl, Nat.le_of_ble_eq_true rfl⟩) rfl rfl rfl rfl (Nat.le_of_ble_eq_true rfl) ⟨Nat.le_of_ble_eq_true rfl, Nat.le_of_ble_eq_true rfl⟩ rfl ?_
              intro u4 hu4
              refine V_aload_n (i := 0) dX10_place_42 rfl rfl ?_
              refine V_getC (k := 0) (q := 1) dX10_place_43 (Or.inr ⟨rfl, Nat.le_of_ble_eq_true rfl⟩) rfl rfl rfl (Nat.le_of_ble_eq_true rfl) flRX10_10 ?_
              refine V_iload dX10_place_46 rfl ?_
              refine V_iload_n (i := 3) dX10_place_48 rfl rfl ?_
              refine V_callVM dX10_place_49 (c_putPlaced (hC.1.keep hu4.2 (fun b hb => by unfold InH; omega)).1 (k := (8 * r0 + c0)) (q := q) (by omega) (by omega)) okX8_putPlaced lkRX10_97 (Or.inr ⟨rfl, Nat.le_of_ble_eq_true rfl⟩) rfl rfl rfl rfl (Nat.le_of_ble_eq_true rfl) ⟨Nat.le_of_ble_eq_true rfl, Nat.le_of_ble_eq_true rfl⟩ rfl ?_
              intro u5 hu5
              refine V_aload_n (i := 0) dX10_place_52 rfl rfl ?_
              refine V_getC (k := 0) (q := 1) dX10_place_53 (Or.inr ⟨rfl, Nat.le_of_ble_eq_true rfl⟩) rfl rfl rfl (Nat.le_of_ble_eq_true rfl) flRX10_10 ?_
              refine V_bipush_n (v := 42) dX10_place_56 (by decide) ?_
              refine V_callVF dX10_place_58 (c_count (show ciR u5 (sCnt (sPut S.1 (8 * r0 + c0) (10 + 10 * (q - 97) + 0)) 1 (nI 1)) from ⟨hu5.1, (hC.1.keep hu4.2 (fun b hb => by unfold InH; omega)).2.placed hcc hz (by omega)⟩).1 (q := 42) (by omega)) okX8_count lkRX10_101 (Or.inr ⟨rfl, Nat.le_of_ble_eq_true rfl⟩) rfl rfl rfl rfl (Nat.le_of_ble_eq_true rfl) ⟨Nat.le_of_ble_eq_true rfl, Nat.le_of_ble_eq_true rfl⟩ rfl ?_
              refine V_iret dX10_place_61 rfl rfl ?_
              have e9 : fPlace S (r0 : Int) (c0 : Int) q = (0, nI (cnt (sCnt (sPut S.1 (8 * r0 + c0) (10 + 10 * (q - 97) + 0)) 1 (nI 1)).1 42), kp S (sCnt (sPut S.1 (8 * r0 + c0) (10 + 10 * (q - 97) + 0)) 1 (nI 1))) := by simp [fPlace, fCell, fLive, q2, cl_nat, b2, hin0, hcq, hz]
              rw [e9]
              exact ⟨Or.inl ⟨rfl, rfl⟩, ⟨(show ciR u5 (sCnt (sPut S.1 (8 * r0 + c0) (10 + 10 * (q - 97) + 0)) 1 (nI 1)) from ⟨hu5.1, (hC.1.keep hu4.2 (fun b hb => by unfold InH; omega)).2.placed hcc hz (by omega)⟩), ((show ciH u4 (kpH S.2.1 S.1) from ⟨hu4.1, kpH_bal hC.2.1.2 hC.1.2⟩).keep hu5.2 (fun b hb => by unfold InSt; omega)), ((hC.2.2.1.keep hu4.2 (fun b hb => by unfold InH; omega)).keep hu5.2 (fun b hb => by unfold InSt; omega)), ((hC.2.2.2.1.keep hu4.2 (fun b hb => by unfold InH; omega)).keep hu5.2 (fun b hb => by unfold InSt; omega)), ((hC.2.2.2.2.1.keep hu4.2 (fun b hb => by unfold InH; omega)).keep hu5.2 (fun b hb => by unfold InSt; omega)), ((hC.2.2.2.2.2.keep hu4.2 (fun b hb => by unfold InH; omega)).keep hu5.2 (fun b hb => by unfold InSt; omega))⟩, ((hu4.2.mono (fun b hb => by unfold InH at hb; unfold InC; omega)).trans (hu5.2.mono (fun b hb => by unfold InSt at hb; unfold InC; omega)))⟩
            · cases e9
          · rcases hu3 with ⟨hu3f, e9, hu3⟩ | ⟨hu3f, e9, hu3⟩
            · cases e9
            · cases e9
              have hz : ¬ S.1.1 (8 * r0 + c0) = 0 := fun q => hu3f (by unfold rsP; rw [if_pos q])
              have hrs : rsP (S.1.1 (8 * r0 + c0)) = 1 := if_neg hz
              rw [hrs] at hu3
              have e9 : fPlace S (r0 : Int) (c0 : Int) q = (3, 0, (rj S 1 (nI (8 * r0 + c0)) 0)) := by simp [fPlace, fCell, fLive, q2, cl_nat, b2, hin0, hcq, hz]
              rw [e9]
              exact ⟨Or.inr ⟨Nat.le_of_ble_eq_true rfl, rfl⟩, ⟨(hC.1.keep hu3.2 (fun b hb => by unfold In0; omega)), (hC.2.1.keep hu3.2 (fun b hb => by unfold In0; omega)), (hC.2.2.1.keep hu3.2 (fun b hb => by unfold In0; omega)), (hC.2.2.2.1.keep hu3.2 (fun b hb => by unfold In0; omega)), (hC.2.2.2.2.1.keep hu3.2 (fun b hb => by unfold In0; omega)), hu3.1⟩, (hu3.2.mono (fun b hb => by unfold In0 at hb; unfold InC; omega))⟩
        · cases e9
      · rcases hu2 with ⟨hu2f, e9, hu2⟩ | ⟨hu2f, e9, hu2⟩
        · cases e9
        · cases e9
          subst hu2
          have e9 : fPlace S (r0 : Int) (c0 : Int) q = (2, 0, S) := by simp [fPlace, fCell, fLive, q2, cl_nat, b2, hin0, hu2f]
          rw [e9]
          exact ⟨Or.inr ⟨Nat.le_of_ble_eq_true rfl, rfl⟩, ⟨hC.1, hC.2.1, hC.2.2.1, hC.2.2.2.1, hC.2.2.2.2.1, hC.2.2.2.2.2⟩, Fr.nil⟩
    · cases e9
  · rcases hu1 with ⟨hu1f, e9, hu1⟩ | ⟨hu1f, e9, hu1⟩
    · cases e9
    · cases e9
      subst hu1
      have e9 : fPlace S r c q = (1, 0, S) := by simp [fPlace, fCell, fLive, q2, cl_nat, b2, hu1f]
      rw [e9]
      exact ⟨Or.inr ⟨Nat.le_of_ble_eq_true rfl, rfl⟩, ⟨hC.1, hC.2.1, hC.2.2.1, hC.2.2.2.1, hC.2.2.2.2.1, hC.2.2.2.2.2⟩, Fr.nil⟩
set_option maxRecDepth 100000 in
set_option maxHeartbeats 1000000 in
theorem c_remove {x y : Int32} {r c : Int} {S : Sys} {w : Wd} (hC : CI w S) (hx : x = zI r) (hy : y = zI c) (r1 : -2147483648 ≤ r) (r2 : r < 2147483648) (c1 : -2147483648 ≤ c) (c2 : c < 2147483648) : Ct 1 MX10_remove 12 4 24 [.ref 0, .int x, .int y] w (PoF ["java/lang/IndexOutOfBoundsException", "java/lang/UnsupportedOperationException"] (fRemove S r c) w) := by
  refine Ct_of (by decide +kernel) rfl (Nat.le_of_ble_eq_true rfl) rfl ?_
  subst hx hy
  refine V_iload_n (i := 1) dX10_remove_0 rfl rfl ?_
  refine V_iload_n (i := 2) dX10_remove_1 rfl rfl ?_
  refine V_callS dX10_remove_2 (c_requireCell (r := r) (c := c) rfl rfl (by omega) (by omega) (by omega) (by omega)) okX10_requireCell lkRX10_74 rfl rfl (Nat.le_of_ble_eq_true rfl) ⟨Nat.le_of_ble_eq_true rfl, Nat.le_of_ble_eq_true rfl⟩ rfl ⟨by decide, by decide⟩ (fun v9 u1 hu1 => ?_) (fun E9 u1 hu1 => ?_)
  · rcases hu1 with ⟨hu1f, e9, hu1⟩ | ⟨hu1f, e9, hu1⟩
    · cases e9
      subst hu1
      have hin0 := hu1f
      have hii0 := ins_iff.mp hin0
      obtain ⟨r0, rfl⟩ : ∃ n : Nat, r = (n : Int) := ⟨r.toNat, by omega⟩
      obtain ⟨c0, rfl⟩ : ∃ n : Nat, c = (n : Int) := ⟨c.toNat, by omega⟩
      simp only [← zI_n]
      have hcc : (8 * r0 + c0) < 64 := by omega
      have hk9 := kc_lt (hC.1.1.2.1 (8 * r0 + c0) hcc)
      have hk7 := kc_live (hC.1.1.2.1 (8 * r0 + c0) hcc)
      have hk6 := kc_none (hC.1.1.2.1 (8 * r0 + c0) hcc)
      have hk5 := kc_pale (hC.1.1.2.1 (8 * r0 + c0) hcc)
      have hok := hC.1.1.2.1 (8 * r0 + c0) hcc
      unfold okc at hok
      refine V_iload_n (i := 1) dX10_remove_5 rfl rfl ?_
      refine V_iload_n (i := 2) dX10_remove_6 rfl rfl ?_
      refine V_callSF dX10_remove_7 (c_cellNumber (r := r0) (c := c0) (rfl) (rfl)) okX10_cellNumber lkRX10_82 rfl rfl (Nat.le_of_ble_eq_true rfl) ⟨Nat.le_of_ble_eq_true rfl, Nat.le_of_ble_eq_true rfl⟩ rfl ?_
      refine V_istore_n (i := 3) dX10_remove_10 rfl (Nat.le_of_ble_eq_true rfl) rfl rfl ?_
      refine V_aload_n (i := 0) dX10_remove_11 rfl rfl ?_
      refine V_aload_n (i := 0) dX10_remove_12 rfl rfl ?_
      refine V_getC (k := 0) (q := 1) dX10_remove_13 (Or.inr ⟨rfl, Nat.le_of_ble_eq_true rfl⟩) rfl rfl rfl (Nat.le_of_ble_eq_true rfl) flRX10_10 ?_
      refine V_iload_n (i := 3) dX10_remove_16 rfl rfl ?_
      refine V_callVF dX10_remove_17 (c_reasonAgainstRemoving hC.1.1 (k := (8 * r0 + c0)) (by omega)) okX8_reasonAgainstRemoving lkRX10_105 (Or.inr ⟨rfl, Nat.le_of_ble_eq_true rfl⟩) rfl rfl rfl rfl (Nat.le_of_ble_eq_true rfl) ⟨Nat.le_of_ble_eq_true rfl, Nat.le_of_ble_eq_true rfl⟩ rfl ?_
      refine V_iload_n (i := 3) dX10_remove_20 rfl rfl ?_
      refine V_callV dX10_remove_21 (c_rejectFor hC.2.2.2.2.2 (rs := (rsR (S.1.1 (8 * r0 + c0)))) (x := nI (8 * r0 + c0)) (by have := @rsR_lt (S.1.1 (8 * r0 + c0)); omega)) okX10_rejectFor lkRX10_90 (Or.inr ⟨rfl, Nat.le_of_ble_eq_true rfl⟩) rfl rfl rfl rfl (Nat.le_of_ble_eq_true rfl) ⟨Nat.le_of_ble_eq_true rfl, Nat.le_of_ble_eq_true rfl⟩ rfl ⟨by decide, by decide⟩ (fun v9 u2 hu2 => ?_) (fun E9 u2 hu2 => ?_)
      · rcases hu2 with ⟨hu2f, e9, hu2⟩ | ⟨hu2f, e9, hu2⟩
        · cases e9
          subst hu2
          have hz : ¬ S.1.1 (8 * r0 + c0) = 0 := fun q => by have : rsR (S.1.1 (8 * r0 + c0)) = 2 := if_pos q; omega
          refine V_aload_n (i := 0) dX10_remove_24 rfl rfl ?_
          refine V_getC (k := 3) (q := 10) dX10_remove_25 (Or.inr ⟨rfl, Nat.le_of_ble_eq_true rfl⟩) rfl rfl rfl (Nat.le_of_ble_eq_true rfl) flRX10_25 ?_
          refine V_aload_n (i := 0) dX10_remove_28 rfl rfl ?_
          refine V_getC (k := 0) (q := 1) dX10_remove_29 (Or.inr ⟨rfl, Nat.le_of_ble_eq_true rfl⟩) rfl rfl rfl (Nat.le_of_ble_eq_true rfl) flRX10_10 ?_
          refine V_callVM dX10_remove_32 (c_keep hC.2.1.1 hC.1.1 (by omega)) okX2_keep lkRX10_93 (Or.inr ⟨rfl, Nat.le_of_ble_eq_true rfl⟩) rfl rfl rfl rfl (Nat.le_of_ble_eq_true rfl) ⟨Nat.le_of_ble_eq_true rfl, Nat.le_of_ble_eq_true rfl⟩ rfl ?_
          intro u3 hu3
          refine V_aload_n (i := 0) dX10_remove_35 rfl rfl ?_
          refine V_getC (k := 0) (q := 1) dX10_remove_36 (Or.inr ⟨rfl, Nat.le_of_ble_eq_true rfl⟩) rfl rfl rfl (Nat.le_of_ble_eq_true rfl) flRX10_10 ?_
          refine V_iload_n (i := 3) dX10_remove_39 rfl rfl ?_
          refine V_callVM dX10_remove_40 (c_takeRemoved (hC.1.keep hu3.2 (fun b hb => by unfold InH; omega)).1 (k := (8 * r0 + c0)) (by omega)) okX8_takeRemoved lkRX10_108 (Or.inr ⟨rfl, Nat.le_of_ble_eq_true rfl⟩) rfl rfl rfl rfl (Nat.le_of_ble_eq_true rfl) ⟨Nat.le_of_ble_eq_true rfl, Nat.le_of_ble_eq_true rfl⟩ rfl ?_
          intro u4 hu4
          refine V_aload_n (i := 0) dX10_remove_43 rfl rfl ?_
          refine V_getC (k := 0) (q := 1) dX10_remove_44 (Or.inr ⟨rfl, Nat.le_of_ble_eq_true rfl⟩) rfl rfl rfl (Nat.le_of_ble_eq_true rfl) flRX10_10 ?_
          refine V_bipush_n (v := 42) dX10_remove_47 (by decide) ?_
          refine V_callVF dX10_remove_49 (c_count (show ciR u4 (sCnt (sPut S.1 (8 * r0 + c0) 0) 2 (nI 1)) from ⟨hu4.1, (hC.1.keep hu3.2 (fun b hb => by unfold InH; omega)).2.removed hcc hz⟩).1 (q := 42) (by omega)) okX8_count lkRX10_101 (Or.inr ⟨rfl, Nat.le_of_ble_eq_true rfl⟩) rfl rfl rfl rfl (Nat.le_of_ble_eq_true rfl) ⟨Nat.le_of_ble_eq_true rfl, Nat.le_of_ble_eq_true rfl⟩ rfl ?_
          refine V_iret dX10_remove_52 rfl rfl ?_
          have e9 : fRemove S (r0 : Int) (c0 : Int) = (0, nI (cnt (sCnt (sPut S.1 (8 * r0 + c0) 0) 2 (nI 1)).1 42), kp S (sCnt (sPut S.1 (8 * r0 + c0) 0) 2 (nI 1))) := by simp [fRemove, fCell, fLive, q2, cl_nat, b2, hin0, hz]
          rw [e9]
          exact ⟨Or.inl ⟨rfl, rfl⟩, ⟨(show ciR u4 (sCnt (sPut S.1 (8 * r0 + c0) 0) 2 (nI 1)) from ⟨hu4.1, (hC.1.keep hu3.2 (fun b hb => by unfold InH; omega)).2.removed hcc hz⟩), ((show ciH u3 (kpH S.2.1 S.1) from ⟨hu3.1, kpH_bal hC.2.1.2 hC.1.2⟩).keep hu4.2 (fun b hb => by unfold InSt; omega)), ((hC.2.2.1.keep hu3.2 (fun b hb => by unfold InH; omega)).keep hu4.2 (fun b hb => by unfold InSt; omega)), ((hC.2.2.2.1.keep hu3.2 (fun b hb => by unfold InH; omega)).keep hu4.2 (fun b hb => by unfold InSt; omega)), ((hC.2.2.2.2.1.keep hu3.2 (fun b hb => by unfold InH; omega)).keep hu4.2 (fun b hb => by unfold InSt; omega)), ((hC.2.2.2.2.2.keep hu3.2 (fun b hb => by unfold InH; omega)).keep hu4.2 (fun b hb => by unfold InSt; omega))⟩, ((hu3.2.mono (fun b hb => by unfold InH at hb; unfold InC; omega)).trans (hu4.2.mono (fun b hb => by unfold InSt at hb; unfold InC; omega)))⟩
        · cases e9
      · rcases hu2 with ⟨hu2f, e9, hu2⟩ | ⟨hu2f, e9, hu2⟩
        · cases e9
        · cases e9
          have hz : S.1.1 (8 * r0 + c0) = 0 := Decidable.by_contra fun q => hu2f (if_neg q)
          have hrs : rsR (S.1.1 (8 * r0 + c0)) = 2 := if_pos hz
          rw [hrs] at hu2
          have e9 : fRemove S (r0 : Int) (c0 : Int) = (2, 0, (rj S 2 (nI (8 * r0 + c0)) 0)) := by simp [fRemove, fCell, fLive, q2, cl_nat, b2, hin0, hz]
          rw [e9]
          exact ⟨Or.inr ⟨Nat.le_of_ble_eq_true rfl, rfl⟩, ⟨(hC.1.keep hu2.2 (fun b hb => by unfold In0; omega)), (hC.2.1.keep hu2.2 (fun b hb => by unfold In0; omega)), (hC.2.2.1.keep hu2.2 (fun b hb => by unfold In0; omega)), (hC.2.2.2.1.keep hu2.2 (fun b hb => by unfold In0; omega)), (hC.2.2.2.2.1.keep hu2.2 (fun b hb => by unfold In0; omega)), hu2.1⟩, (hu2.2.mono (fun b hb => by unfold In0 at hb; unfold InC; omega))⟩
    · cases e9
  · rcases hu1 with ⟨hu1f, e9, hu1⟩ | ⟨hu1f, e9, hu1⟩
    · cases e9
    · cases e9
      subst hu1
      have e9 : fRemove S r c = (1, 0, S) := by simp [fRemove, fCell, fLive, q2, cl_nat, b2, hu1f]
      rw [e9]
      exact ⟨Or.inr ⟨Nat.le_of_ble_eq_true rfl, rfl⟩, ⟨hC.1, hC.2.1, hC.2.2.1, hC.2.2.2.1, hC.2.2.2.2.1, hC.2.2.2.2.2⟩, Fr.nil⟩
set_option maxRecDepth 100000 in
set_option maxHeartbeats 1000000 in
theorem c_rejectUnlessLiving {k : Nat} {s : St} {hs : Nat} {sy : Int} {rj : Nat × Int32 × Nat} {w : Wd} (hR : Repr w 1 s) (h0 : ci0 w hs sy rj) (hk8 : k < 64) : Ct 1 MX10_rejectUnlessLiving 8 1 6 [.ref 0, .int (nI k)] w (fun o w1 => (10 ≤ s.1 k ∧ o = Sum.inl (none : Option Value) ∧ w1 = w) ∨ (s.1 k = 0 ∧ o = Sum.inr "java/lang/UnsupportedOperationException" ∧ (ci0 w1 hs sy (2, nI k, 0) ∧ Fr In0 w w1)) ∨ ((s.1 k ≠ 0 ∧ s.1 k < 10) ∧ o = Sum.inr "java/lang/UnsupportedOperationException" ∧ (ci0 w1 hs sy (3, nI (cnt s.1 35), 0) ∧ Fr In0 w w1))) := by
  refine Ct_of (by decide +kernel) rfl (Nat.le_of_ble_eq_true rfl) rfl ?_
  have hr9 := @rsA_lt (s.1 k)
  refine V_aload_n (i := 0) dX10_rejectUnlessLiving_0 rfl rfl ?_
  refine V_getC (k := 0) (q := 1) dX10_rejectUnlessLiving_1 (Or.inr ⟨rfl, Nat.le_of_ble_eq_true rfl⟩) rfl rfl rfl (Nat.le_of_ble_eq_true rfl) flRX10_10 ?_
  refine V_iload_n (i := 1) dX10_rejectUnlessLiving_4 rfl rfl ?_
  refine V_callVF dX10_rejectUnlessLiving_5 (c_reasonAgainstAltering hR (k := k) (by omega)) okX8_reasonAgainstAltering lkRX10_417 (Or.inr ⟨rfl, Nat.le_of_ble_eq_true rfl⟩) rfl rfl rfl rfl (Nat.le_of_ble_eq_true rfl) ⟨Nat.le_of_ble_eq_true rfl, Nat.le_of_ble_eq_true rfl⟩ rfl ?_
  refine V_istore_n (i := 2) dX10_rejectUnlessLiving_8 rfl (Nat.le_of_ble_eq_true rfl) rfl rfl ?_
  refine V_aload_n (i := 0) dX10_rejectUnlessLiving_9 rfl rfl ?_
  refine V_iload_n (i := 2) dX10_rejectUnlessLiving_10 rfl rfl ?_
  refine V_iload_n (i := 2) dX10_rejectUnlessLiving_11 rfl rfl ?_
  refine V_iconst_n (v := 3) dX10_rejectUnlessLiving_12 (by decide) ?_
  refine V_icmp_ne_n (tgt := 28) dX10_rejectUnlessLiving_13 (by decide) (by omega) (by omega) (fun h13 => ?_) (fun h13 => ?_)
  · refine V_iload_n (i := 1) dX10_rejectUnlessLiving_28 rfl rfl ?_
    refine V_callV dX10_rejectUnlessLiving_29 (c_rejectFor h0 (rs := rsA (s.1 k)) (x := nI (k)) (by omega)) okX10_rejectFor lkRX10_90 (Or.inr ⟨rfl, Nat.le_of_ble_eq_true rfl⟩) rfl rfl rfl rfl (Nat.le_of_ble_eq_true rfl) ⟨Nat.le_of_ble_eq_true rfl, Nat.le_of_ble_eq_true rfl⟩ rfl ⟨by decide, by decide⟩ (fun v9 u1 hu1 => ?_) (fun E9 u1 hu1 => ?_)
    · rcases hu1 with ⟨hu1f, e9, hu1⟩ | ⟨hu1f, e9, hu1⟩
      · cases e9
        subst hu1
        have hr8 := hu1f
        refine V_vret dX10_rejectUnlessLiving_32 rfl ?_
        have hz : 10 ≤ s.1 k := by unfold rsA at hr8; grind
        exact Or.inl ⟨hz, rfl, rfl⟩
      · cases e9
    · rcases hu1 with ⟨hu1f, e9, hu1⟩ | ⟨hu1f, e9, hu1⟩
      · cases e9
      · cases e9
        have hz : s.1 k = 0 := by unfold rsA at h13 hu1f; grind
        have hrs : rsA (s.1 k) = 2 := if_pos hz
        rw [hrs] at hu1
        exact Or.inr (Or.inl ⟨hz, rfl, hu1⟩)
  · refine V_aload_n (i := 0) dX10_rejectUnlessLiving_16 rfl rfl ?_
    refine V_getC (k := 0) (q := 1) dX10_rejectUnlessLiving_17 (Or.inr ⟨rfl, Nat.le_of_ble_eq_true rfl⟩) rfl rfl rfl (Nat.le_of_ble_eq_true rfl) flRX10_10 ?_
    refine V_bipush_n (v := 35) dX10_rejectUnlessLiving_20 (by decide) ?_
    refine V_callVF dX10_rejectUnlessLiving_22 (c_count hR (q := 35) (by omega)) okX8_count lkRX10_101 (Or.inr ⟨rfl, Nat.le_of_ble_eq_true rfl⟩) rfl rfl rfl rfl (Nat.le_of_ble_eq_true rfl) ⟨Nat.le_of_ble_eq_true rfl, Nat.le_of_ble_eq_true rfl⟩ rfl ?_
    refine V_goto (tgt := 29) dX10_rejectUnlessLiving_25 (by decide) ?_
    refine V_callV dX10_rejectUnlessLiving_29 (c_rejectFor h0 (rs := rsA (s.1 k)) (x := nI (cnt s.1 35)) (by omega)) okX10_rejectFor lkRX10_90 (Or.inr ⟨rfl, Nat.le_of_ble_eq_true rfl⟩) rfl rfl rfl rfl (Nat.le_of_ble_eq_true rfl) ⟨Nat.le_of_ble_eq_true rfl, Nat.le_of_ble_eq_true rfl⟩ rfl ⟨by decide, by decide⟩ (fun v9 u1 hu1 => ?_) (fun E9 u1 hu1 => ?_)
    · rcases hu1 with ⟨hu1f, e9, hu1⟩ | ⟨hu1f, e9, hu1⟩
      · cases e9
        subst hu1
        have hr8 := hu1f
        refine V_vret dX10_rejectUnlessLiving_32 rfl ?_
        have hz : 10 ≤ s.1 k := by unfold rsA at hr8; grind
        exact Or.inl ⟨hz, rfl, rfl⟩
      · cases e9
    · rcases hu1 with ⟨hu1f, e9, hu1⟩ | ⟨hu1f, e9, hu1⟩
      · cases e9
      · cases e9
        have hz : s.1 k ≠ 0 ∧ s.1 k < 10 := by unfold rsA at h13; grind
        rw [h13] at hu1
        exact Or.inr (Or.inr ⟨hz, rfl, hu1⟩)
set_option maxRecDepth 100000 in
set_option maxHeartbeats 1000000 in
theorem c_bleach {x y : Int32} {r c : Int} {S : Sys} {w : Wd} (hC : CI w S) (hx : x = zI r) (hy : y = zI c) (r1 : -2147483648 ≤ r) (r2 : r < 2147483648) (c1 : -2147483648 ≤ c) (c2 : c < 2147483648) : Ct 1 MX10_bleach 12 4 24 [.ref 0, .int x, .int y] w (PoF ["java/lang/IndexOutOfBoundsException", "java/lang/UnsupportedOperationException"] (fBleach S r c) w) := by
  refine Ct_of (by decide +kernel) rfl (Nat.le_of_ble_eq_true rfl) rfl ?_
  subst hx hy
  refine V_iload_n (i := 1) dX10_bleach_0 rfl rfl ?_
  refine V_iload_n (i := 2) dX10_bleach_1 rfl rfl ?_
  refine V_callS dX10_bleach_2 (c_requireCell (r := r) (c := c) rfl rfl (by omega) (by omega) (by omega) (by omega)) okX10_requireCell lkRX10_74 rfl rfl (Nat.le_of_ble_eq_true rfl) ⟨Nat.le_of_ble_eq_true rfl, Nat.le_of_ble_eq_true rfl⟩ rfl ⟨by decide, by decide⟩ (fun v9 u1 hu1 => ?_) (fun E9 u1 hu1 => ?_)
  · rcases hu1 with ⟨hu1f, e9, hu1⟩ | ⟨hu1f, e9, hu1⟩
    · cases e9
      subst hu1
      have hin0 := hu1f
      have hii0 := ins_iff.mp hin0
      obtain ⟨r0, rfl⟩ : ∃ n : Nat, r = (n : Int) := ⟨r.toNat, by omega⟩
      obtain ⟨c0, rfl⟩ : ∃ n : Nat, c = (n : Int) := ⟨c.toNat, by omega⟩
      simp only [← zI_n]
      have hcc : (8 * r0 + c0) < 64 := by omega
      have hk9 := kc_lt (hC.1.1.2.1 (8 * r0 + c0) hcc)
      have hk7 := kc_live (hC.1.1.2.1 (8 * r0 + c0) hcc)
      have hk6 := kc_none (hC.1.1.2.1 (8 * r0 + c0) hcc)
      have hk5 := kc_pale (hC.1.1.2.1 (8 * r0 + c0) hcc)
      have hok := hC.1.1.2.1 (8 * r0 + c0) hcc
      unfold okc at hok
      refine V_iload_n (i := 1) dX10_bleach_5 rfl rfl ?_
      refine V_iload_n (i := 2) dX10_bleach_6 rfl rfl ?_
      refine V_callSF dX10_bleach_7 (c_cellNumber (r := r0) (c := c0) (rfl) (rfl)) okX10_cellNumber lkRX10_82 rfl rfl (Nat.le_of_ble_eq_true rfl) ⟨Nat.le_of_ble_eq_true rfl, Nat.le_of_ble_eq_true rfl⟩ rfl ?_
      refine V_istore_n (i := 3) dX10_bleach_10 rfl (Nat.le_of_ble_eq_true rfl) rfl rfl ?_
      refine V_aload_n (i := 0) dX10_bleach_11 rfl rfl ?_
      refine V_iload_n (i := 3) dX10_bleach_12 rfl rfl ?_
      refine V_callV dX10_bleach_13 (c_rejectUnlessLiving hC.1.1 hC.2.2.2.2.2 (k := (8 * r0 + c0)) hcc) okX10_rejectUnlessLiving lkRX10_112 (Or.inr ⟨rfl, Nat.le_of_ble_eq_true rfl⟩) rfl rfl rfl rfl (Nat.le_of_ble_eq_true rfl) ⟨Nat.le_of_ble_eq_true rfl, Nat.le_of_ble_eq_true rfl⟩ rfl ⟨by decide, by decide⟩ (fun v9 u2 hu2 => ?_) (fun E9 u2 hu2 => ?_)
      · rcases hu2 with ⟨hu2f, e9, hu2⟩ | ⟨hu2f, e9, hu2⟩ | ⟨hu2f, e9, hu2⟩
        · cases e9
          subst hu2
          have hlv := hu2f
          have hlv9 : ¬ S.1.1 (8 * r0 + c0) < 10 := by omega
          have hlv0 : ¬ S.1.1 (8 * r0 + c0) = 0 := by omega
          refine V_aload_n (i := 0) dX10_bleach_16 rfl rfl ?_
          refine V_getC (k := 3) (q := 10) dX10_bleach_17 (Or.inr ⟨rfl, Nat.le_of_ble_eq_true rfl⟩) rfl rfl rfl (Nat.le_of_ble_eq_true rfl) flRX10_25 ?_
          refine V_aload_n (i := 0) dX10_bleach_20 rfl rfl ?_
          refine V_getC (k := 0) (q := 1) dX10_bleach_21 (Or.inr ⟨rfl, Nat.le_of_ble_eq_true rfl⟩) rfl rfl rfl (Nat.le_of_ble_eq_true rfl) flRX10_10 ?_
          refine V_callVM dX10_bleach_24 (c_keep hC.2.1.1 hC.1.1 (by omega)) okX2_keep lkRX10_93 (Or.inr ⟨rfl, Nat.le_of_ble_eq_true rfl⟩) rfl rfl rfl rfl (Nat.le_of_ble_eq_true rfl) ⟨Nat.le_of_ble_eq_true rfl, Nat.le_of_ble_eq_true rfl⟩ rfl ?_
          intro u3 hu3
          refine V_aload_n (i := 0) dX10_bleach_27 rfl rfl ?_
          refine V_getC (k := 0) (q := 1) dX10_bleach_28 (Or.inr ⟨rfl, Nat.le_of_ble_eq_true rfl⟩) rfl rfl rfl (Nat.le_of_ble_eq_true rfl) flRX10_10 ?_
          refine V_iload_n (i := 3) dX10_bleach_31 rfl rfl ?_
          refine V_callVF dX10_bleach_32 (c_ageOf (hC.1.keep hu3.2 (fun b hb => by unfold InH; omega)).1 (k := (8 * r0 + c0)) (by omega)) okX8_ageOf lkRX10_115 (Or.inr ⟨rfl, Nat.le_of_ble_eq_true rfl⟩) rfl rfl rfl rfl (Nat.le_of_ble_eq_true rfl) ⟨Nat.le_of_ble_eq_true rfl, Nat.le_of_ble_eq_true rfl⟩ rfl ?_
          refine V_istore dX10_bleach_35 (Nat.le_of_ble_eq_true rfl) rfl rfl ?_
          refine V_aload_n (i := 0) dX10_bleach_37 rfl rfl ?_
          refine V_getC (k := 0) (q := 1) dX10_bleach_38 (Or.inr ⟨rfl, Nat.le_of_ble_eq_true rfl⟩) rfl rfl rfl (Nat.le_of_ble_eq_true rfl) flRX10_10 ?_
          refine V_iload_n (i := 3) dX10_bleach_41 rfl rfl ?_
          refine V_callVM dX10_bleach_42 (c_turnPale (hC.1.keep hu3.2 (fun b hb => by unfold InH; omega)).1 (k := (8 * r0 + c0)) (by omega)) okX8_turnPale lkRX10_118 (Or.inr ⟨rfl, Nat.le_of_ble_eq_true rfl⟩) rfl rfl rfl rfl (Nat.le_of_ble_eq_true rfl) ⟨Nat.le_of_ble_eq_true rfl, Nat.le_of_ble_eq_true rfl⟩ rfl ?_
          intro u4 hu4
          refine V_iload dX10_bleach_45 rfl ?_
          refine V_iret dX10_bleach_47 rfl rfl ?_
          have e9 : fBleach S (r0 : Int) (c0 : Int) = (0, nI (ag (S.1.1 (8 * r0 + c0))), kp S (sCnt (sPut S.1 (8 * r0 + c0) 1) 4 (nI 1))) := by simp [fBleach, fCell, fLive, q2, cl_nat, b2, hin0, hlv0, hlv9]
          rw [e9]
          exact ⟨Or.inl ⟨rfl, rfl⟩, ⟨(show ciR u4 (sCnt (sPut S.1 (8 * r0 + c0) 1) 4 (nI 1)) from ⟨hu4.1, (hC.1.keep hu3.2 (fun b hb => by unfold InH; omega)).2.pale hcc hlv0⟩), ((show ciH u3 (kpH S.2.1 S.1) from ⟨hu3.1, kpH_bal hC.2.1.2 hC.1.2⟩).keep hu4.2 (fun b hb => by unfold InSt; omega)), ((hC.2.2.1.keep hu3.2 (fun b hb => by unfold InH; omega)).keep hu4.2 (fun b hb => by unfold InSt; omega)), ((hC.2.2.2.1.keep hu3.2 (fun b hb => by unfold InH; omega)).keep hu4.2 (fun b hb => by unfold InSt; omega)), ((hC.2.2.2.2.1.keep hu3.2 (fun b hb => by unfold InH; omega)).keep hu4.2 (fun b hb => by unfold InSt; omega)), ((hC.2.2.2.2.2.keep hu3.2 (fun b hb => by unfold InH; omega)).keep hu4.2 (fun b hb => by unfold InSt; omega))⟩, ((hu3.2.mono (fun b hb => by unfold InH at hb; unfold InC; omega)).trans (hu4.2.mono (fun b hb => by unfold InSt at hb; unfold InC; omega)))⟩
        · cases e9
        · cases e9
      · rcases hu2 with ⟨hu2f, e9, hu2⟩ | ⟨hu2f, e9, hu2⟩ | ⟨hu2f, e9, hu2⟩
        · cases e9
        · cases e9
          have hz := hu2f
          have e9 : fBleach S (r0 : Int) (c0 : Int) = (2, 0, (rj S 2 (nI (8 * r0 + c0)) 0)) := by simp [fBleach, fCell, fLive, q2, cl_nat, b2, hin0, hz]
          rw [e9]
          exact ⟨Or.inr ⟨Nat.le_of_ble_eq_true rfl, rfl⟩, ⟨(hC.1.keep hu2.2 (fun b hb => by unfold In0; omega)), (hC.2.1.keep hu2.2 (fun b hb => by unfold In0; omega)), (hC.2.2.1.keep hu2.2 (fun b hb => by unfold In0; omega)), (hC.2.2.2.1.keep hu2.2 (fun b hb => by unfold In0; omega)), (hC.2.2.2.2.1.keep hu2.2 (fun b hb => by unfold In0; omega)), hu2.1⟩, (hu2.2.mono (fun b hb => by unfold In0 at hb; unfold InC; omega))⟩
        · cases e9
          have hz := hu2f
          have hz1 := hz.1
          have hz2 := hz.2
          have e9 : fBleach S (r0 : Int) (c0 : Int) = (2, 0, (rj S 3 (nI (cnt S.1.1 35)) 0)) := by simp [fBleach, fCell, fLive, q2, cl_nat, b2, hin0, hz1, hz2]
          rw [e9]
          exact ⟨Or.inr ⟨Nat.le_of_ble_eq_true rfl, rfl⟩, ⟨(hC.1.keep hu2.2 (fun b hb => by unfold In0; omega)), (hC.2.1.keep hu2.2 (fun b hb => by unfold In0; omega)), (hC.2.2.1.keep hu2.2 (fun b hb => by unfold In0; omega)), (hC.2.2.2.1.keep hu2.2 (fun b hb => by unfold In0; omega)), (hC.2.2.2.2.1.keep hu2.2 (fun b hb => by unfold In0; omega)), hu2.1⟩, (hu2.2.mono (fun b hb => by unfold In0 at hb; unfold InC; omega))⟩
    · cases e9
  · rcases hu1 with ⟨hu1f, e9, hu1⟩ | ⟨hu1f, e9, hu1⟩
    · cases e9
    · cases e9
      subst hu1
      have e9 : fBleach S r c = (1, 0, S) := by simp [fBleach, fCell, fLive, q2, cl_nat, b2, hu1f]
      rw [e9]
      exact ⟨Or.inr ⟨Nat.le_of_ble_eq_true rfl, rfl⟩, ⟨hC.1, hC.2.1, hC.2.2.1, hC.2.2.2.1, hC.2.2.2.2.1, hC.2.2.2.2.2⟩, Fr.nil⟩
set_option maxRecDepth 100000 in
set_option maxHeartbeats 1000000 in
theorem c_recolour {x y : Int32} {r c : Int} {q : Nat} {S : Sys} {w : Wd} (hC : CI w S) (hx : x = zI r) (hy : y = zI c) (r1 : -2147483648 ≤ r) (r2 : r < 2147483648) (c1 : -2147483648 ≤ c) (c2 : c < 2147483648) (hq : q < 65536) : Ct 1 MX10_recolour 12 4 24 [.ref 0, .int x, .int y, .int (nI q)] w (PoF ["java/lang/IndexOutOfBoundsException", "java/lang/IllegalArgumentException", "java/lang/UnsupportedOperationException"] (fRecolour S r c q) w) := by
  refine Ct_of (by decide +kernel) rfl (Nat.le_of_ble_eq_true rfl) rfl ?_
  subst hx hy
  refine V_iload_n (i := 1) dX10_recolour_0 rfl rfl ?_
  refine V_iload_n (i := 2) dX10_recolour_1 rfl rfl ?_
  refine V_callS dX10_recolour_2 (c_requireCell (r := r) (c := c) rfl rfl (by omega) (by omega) (by omega) (by omega)) okX10_requireCell lkRX10_74 rfl rfl (Nat.le_of_ble_eq_true rfl) ⟨Nat.le_of_ble_eq_true rfl, Nat.le_of_ble_eq_true rfl⟩ rfl ⟨by decide, by decide⟩ (fun v9 u1 hu1 => ?_) (fun E9 u1 hu1 => ?_)
  · rcases hu1 with ⟨hu1f, e9, hu1⟩ | ⟨hu1f, e9, hu1⟩
    · cases e9
      subst hu1
      have hin0 := hu1f
      have hii0 := ins_iff.mp hin0
      obtain ⟨r0, rfl⟩ : ∃ n : Nat, r = (n : Int) := ⟨r.toNat, by omega⟩
      obtain ⟨c0, rfl⟩ : ∃ n : Nat, c = (n : Int) := ⟨c.toNat, by omega⟩
      simp only [← zI_n]
      have hcc : (8 * r0 + c0) < 64 := by omega
      have hk9 := kc_lt (hC.1.1.2.1 (8 * r0 + c0) hcc)
      have hk7 := kc_live (hC.1.1.2.1 (8 * r0 + c0) hcc)
      have hk6 := kc_none (hC.1.1.2.1 (8 * r0 + c0) hcc)
      have hk5 := kc_pale (hC.1.1.2.1 (8 * r0 + c0) hcc)
      have hok := hC.1.1.2.1 (8 * r0 + c0) hcc
      unfold okc at hok
      refine V_iload_n (i := 3) dX10_recolour_5 rfl rfl ?_
      refine V_callS dX10_recolour_6 (c_requireColour (q := q) (by omega)) okX10_requireColour lkRX10_78 rfl rfl (Nat.le_of_ble_eq_true rfl) ⟨Nat.le_of_ble_eq_true rfl, Nat.le_of_ble_eq_true rfl⟩ rfl ⟨by decide, by decide⟩ (fun v9 u2 hu2 => ?_) (fun E9 u2 hu2 => ?_)
      · rcases hu2 with ⟨hu2f, e9, hu2⟩ | ⟨hu2f, e9, hu2⟩
        · cases e9
          subst hu2
          have hcq := hu2f
          have hcq2 := isC_iff.mp hcq
          refine V_iload_n (i := 1) dX10_recolour_9 rfl rfl ?_
          refine V_iload_n (i := 2) dX10_recolour_10 rfl rfl ?_
          refine V_callSF dX10_recolour_11 (c_cellNumber (r := r0) (c := c0) (rfl) (rfl)) okX10_cellNumber lkRX10_82 rfl rfl (Nat.le_of_ble_eq_true rfl) ⟨Nat.le_of_ble_eq_true rfl, Nat.le_of_ble_eq_true rfl⟩ rfl ?_
          refine V_istore dX10_recolour_14 (Nat.le_of_ble_eq_true rfl) rfl rfl ?_
          refine V_aload_n (i := 0) dX10_recolour_16 rfl rfl ?_
          refine V_iload dX10_recolour_17 rfl ?_
          refine V_callV dX10_recolour_19 (c_rejectUnlessLiving hC.1.1 hC.2.2.2.2.2 (k := (8 * r0 + c0)) hcc) okX10_rejectUnlessLiving lkRX10_112 (Or.inr ⟨rfl, Nat.le_of_ble_eq_true rfl⟩) rfl rfl rfl rfl (Nat.le_of_ble_eq_true rfl) ⟨Nat.le_of_ble_eq_true rfl, Nat.le_of_ble_eq_true rfl⟩ rfl ⟨by decide, by decide⟩ (fun v9 u3 hu3 => ?_) (fun E9 u3 hu3 => ?_)
          · rcases hu3 with ⟨hu3f, e9, hu3⟩ | ⟨hu3f, e9, hu3⟩ | ⟨hu3f, e9, hu3⟩
            · cases e9
              subst hu3
              have hlv := hu3f
              have hlv9 : ¬ S.1.1 (8 * r0 + c0) < 10 := by omega
              have hlv0 : ¬ S.1.1 (8 * r0 + c0) = 0 := by omega
              refine V_aload_n (i := 0) dX10_recolour_22 rfl rfl ?_
              refine V_getC (k := 3) (q := 10) dX10_recolour_23 (Or.inr ⟨rfl, Nat.le_of_ble_eq_true rfl⟩) rfl rfl rfl (Nat.le_of_ble_eq_true rfl) flRX10_25 ?_
              refine V_aload_n (i := 0) dX10_recolour_26 rfl rfl ?_
              refine V_getC (k := 0) (q := 1) dX10_recolour_27 (Or.inr ⟨rfl, Nat.le_of_ble_eq_true rfl⟩) rfl rfl rfl (Nat.le_of_ble_eq_true rfl) flRX10_10 ?_
              refine V_callVM dX10_recolour_30 (c_keep hC.2.1.1 hC.1.1 (by omega)) okX2_keep lkRX10_93 (Or.inr ⟨rfl, Nat.le_of_ble_eq_true rfl⟩) rfl rfl rfl rfl (Nat.le_of_ble_eq_true rfl) ⟨Nat.le_of_ble_eq_true rfl, Nat.le_of_ble_eq_true rfl⟩ rfl ?_
              intro u4 hu4
              refine V_aload_n (i := 0) dX10_recolour_33 rfl rfl ?_
              refine V_getC (k := 0) (q := 1) dX10_recolour_34 (Or.inr ⟨rfl, Nat.le_of_ble_eq_true rfl⟩) rfl rfl rfl (Nat.le_of_ble_eq_true rfl) flRX10_10 ?_
              refine V_iload dX10_recolour_37 rfl ?_
              refine V_callVF dX10_recolour_39 (c_kindOf (hC.1.keep hu4.2 (fun b hb => by unfold InH; omega)).1 (k := (8 * r0 + c0)) (by omega)) okX8_kindOf lkRX10_121 (Or.inr ⟨rfl, Nat.le_of_ble_eq_true rfl⟩) rfl rfl rfl rfl (Nat.le_of_ble_eq_true rfl) ⟨Nat.le_of_ble_eq_true rfl, Nat.le_of_ble_eq_true rfl⟩ rfl ?_
              refine V_istore dX10_recolour_42 (Nat.le_of_ble_eq_true rfl) rfl rfl ?_
              refine V_aload_n (i := 0) dX10_recolour_44 rfl rfl ?_
              refine V_getC (k := 0) (q := 1) dX10_recolour_45 (Or.inr ⟨rfl, Nat.le_of_ble_eq_true rfl⟩) rfl rfl rfl (Nat.le_of_ble_eq_true rfl) flRX10_10 ?_
              refine V_iload dX10_recolour_48 rfl ?_
              refine V_iload_n (i := 3) dX10_recolour_50 rfl rfl ?_
              refine V_callVM dX10_recolour_51 (c_paint (hC.1.keep hu4.2 (fun b hb => by unfold InH; omega)).1 (k := (8 * r0 + c0)) (q := q) (by omega) (by omega) (by omega)) okX8_paint lkRX10_125 (Or.inr ⟨rfl, Nat.le_of_ble_eq_true rfl⟩) rfl rfl rfl rfl (Nat.le_of_ble_eq_true rfl) ⟨Nat.le_of_ble_eq_true rfl, Nat.le_of_ble_eq_true rfl⟩ rfl ?_
              intro u5 hu5
              refine V_iload dX10_recolour_54 rfl ?_
              refine V_iret dX10_recolour_56 rfl (nar_char (by omega)) ?_
              have e9 : fRecolour S (r0 : Int) (c0 : Int) q = (0, nI (kc (S.1.1 (8 * r0 + c0))), kp S (sPut S.1 (8 * r0 + c0) (10 + 10 * (q - 97) + ag (S.1.1 (8 * r0 + c0))))) := by simp [fRecolour, fCell, fLive, q2, cl_nat, b2, hin0, hcq, hlv0, hlv9]
              rw [e9]
              exact ⟨Or.inl ⟨rfl, rfl⟩, ⟨(show ciR u5 (sPut S.1 (8 * r0 + c0) (10 + 10 * (q - 97) + ag (S.1.1 (8 * r0 + c0)))) from ⟨hu5.1, (hC.1.keep hu4.2 (fun b hb => by unfold InH; omega)).2.same hcc hlv0 (by omega)⟩), ((show ciH u4 (kpH S.2.1 S.1) from ⟨hu4.1, kpH_bal hC.2.1.2 hC.1.2⟩).keep hu5.2 (fun b hb => by unfold InSt; omega)), ((hC.2.2.1.keep hu4.2 (fun b hb => by unfold InH; omega)).keep hu5.2 (fun b hb => by unfold InSt; omega)), ((hC.2.2.2.1.keep hu4.2 (fun b hb => by unfold InH; omega)).keep hu5.2 (fun b hb => by unfold InSt; omega)), ((hC.2.2.2.2.1.keep hu4.2 (fun b hb => by unfold InH; omega)).keep hu5.2 (fun b hb => by unfold InSt; omega)), ((hC.2.2.2.2.2.keep hu4.2 (fun b hb => by unfold InH; omega)).keep hu5.2 (fun b hb => by unfold InSt; omega))⟩, ((hu4.2.mono (fun b hb => by unfold InH at hb; unfold InC; omega)).trans (hu5.2.mono (fun b hb => by unfold InSt at hb; unfold InC; omega)))⟩
            · cases e9
            · cases e9
          · rcases hu3 with ⟨hu3f, e9, hu3⟩ | ⟨hu3f, e9, hu3⟩ | ⟨hu3f, e9, hu3⟩
            · cases e9
            · cases e9
              have hz := hu3f
              have e9 : fRecolour S (r0 : Int) (c0 : Int) q = (3, 0, (rj S 2 (nI (8 * r0 + c0)) 0)) := by simp [fRecolour, fCell, fLive, q2, cl_nat, b2, hin0, hcq, hz]
              rw [e9]
              exact ⟨Or.inr ⟨Nat.le_of_ble_eq_true rfl, rfl⟩, ⟨(hC.1.keep hu3.2 (fun b hb => by unfold In0; omega)), (hC.2.1.keep hu3.2 (fun b hb => by unfold In0; omega)), (hC.2.2.1.keep hu3.2 (fun b hb => by unfold In0; omega)), (hC.2.2.2.1.keep hu3.2 (fun b hb => by unfold In0; omega)), (hC.2.2.2.2.1.keep hu3.2 (fun b hb => by unfold In0; omega)), hu3.1⟩, (hu3.2.mono (fun b hb => by unfold In0 at hb; unfold InC; omega))⟩
            · cases e9
              have hz := hu3f
              have hz1 := hz.1
              have hz2 := hz.2
              have e9 : fRecolour S (r0 : Int) (c0 : Int) q = (3, 0, (rj S 3 (nI (cnt S.1.1 35)) 0)) := by simp [fRecolour, fCell, fLive, q2, cl_nat, b2, hin0, hcq, hz1, hz2]
              rw [e9]
              exact ⟨Or.inr ⟨Nat.le_of_ble_eq_true rfl, rfl⟩, ⟨(hC.1.keep hu3.2 (fun b hb => by unfold In0; omega)), (hC.2.1.keep hu3.2 (fun b hb => by unfold In0; omega)), (hC.2.2.1.keep hu3.2 (fun b hb => by unfold In0; omega)), (hC.2.2.2.1.keep hu3.2 (fun b hb => by unfold In0; omega)), (hC.2.2.2.2.1.keep hu3.2 (fun b hb => by unfold In0; omega)), hu3.1⟩, (hu3.2.mono (fun b hb => by unfold In0 at hb; unfold InC; omega))⟩
        · cases e9
      · rcases hu2 with ⟨hu2f, e9, hu2⟩ | ⟨hu2f, e9, hu2⟩
        · cases e9
        · cases e9
          subst hu2
          have e9 : fRecolour S (r0 : Int) (c0 : Int) q = (2, 0, S) := by simp [fRecolour, fCell, fLive, q2, cl_nat, b2, hin0, hu2f]
          rw [e9]
          exact ⟨Or.inr ⟨Nat.le_of_ble_eq_true rfl, rfl⟩, ⟨hC.1, hC.2.1, hC.2.2.1, hC.2.2.2.1, hC.2.2.2.2.1, hC.2.2.2.2.2⟩, Fr.nil⟩
    · cases e9
  · rcases hu1 with ⟨hu1f, e9, hu1⟩ | ⟨hu1f, e9, hu1⟩
    · cases e9
    · cases e9
      subst hu1
      have e9 : fRecolour S r c q = (1, 0, S) := by simp [fRecolour, fCell, fLive, q2, cl_nat, b2, hu1f]
      rw [e9]
      exact ⟨Or.inr ⟨Nat.le_of_ble_eq_true rfl, rfl⟩, ⟨hC.1, hC.2.1, hC.2.2.1, hC.2.2.2.1, hC.2.2.2.2.1, hC.2.2.2.2.2⟩, Fr.nil⟩
set_option maxRecDepth 100000 in
set_option maxHeartbeats 1000000 in
theorem c_plant {x y : Int32} {r c : Int} {pt q : Nat} {S : Sys} {w : Wd} (hC : CI w S) (hx : x = zI r) (hy : y = zI c) (r1 : -2147483648 ≤ r) (r2 : r < 2147483648) (c1 : -2147483648 ≤ c) (c2 : c < 2147483648) (hpt : pt < 65536) (hq : q < 65536) : Ct 1 MX10_plant 12 4 24 [.ref 0, .int x, .int y, .int (nI pt), .int (nI q)] w (PoF ["java/lang/IndexOutOfBoundsException", "java/lang/IllegalArgumentException", "java/lang/UnsupportedOperationException"] (fPlant S r c pt q) w) := by
  refine Ct_of (by decide +kernel) rfl (Nat.le_of_ble_eq_true rfl) rfl ?_
  subst hx hy
  refine V_iload_n (i := 1) dX10_plant_0 rfl rfl ?_
  refine V_iload_n (i := 2) dX10_plant_1 rfl rfl ?_
  refine V_callS dX10_plant_2 (c_requireCell (r := r) (c := c) rfl rfl (by omega) (by omega) (by omega) (by omega)) okX10_requireCell lkRX10_74 rfl rfl (Nat.le_of_ble_eq_true rfl) ⟨Nat.le_of_ble_eq_true rfl, Nat.le_of_ble_eq_true rfl⟩ rfl ⟨by decide, by decide⟩ (fun v9 u1 hu1 => ?_) (fun E9 u1 hu1 => ?_)
  · rcases hu1 with ⟨hu1f, e9, hu1⟩ | ⟨hu1f, e9, hu1⟩
    · cases e9
      subst hu1
      have hin0 := hu1f
      have hii0 := ins_iff.mp hin0
      obtain ⟨r0, rfl⟩ : ∃ n : Nat, r = (n : Int) := ⟨r.toNat, by omega⟩
      obtain ⟨c0, rfl⟩ : ∃ n : Nat, c = (n : Int) := ⟨c.toNat, by omega⟩
      simp only [← zI_n]
      have hcc : (8 * r0 + c0) < 64 := by omega
      have hk9 := kc_lt (hC.1.1.2.1 (8 * r0 + c0) hcc)
      have hk7 := kc_live (hC.1.1.2.1 (8 * r0 + c0) hcc)
      have hk6 := kc_none (hC.1.1.2.1 (8 * r0 + c0) hcc)
      have hk5 := kc_pale (hC.1.1.2.1 (8 * r0 + c0) hcc)
      have hok := hC.1.1.2.1 (8 * r0 + c0) hcc
      unfold okc at hok
      refine V_iload_n (i := 3) dX10_plant_5 rfl rfl ?_
      refine V_callS dX10_plant_6 (c_patternOf (q := pt) (by omega)) okX10_patternOf lkRX10_128 rfl rfl (Nat.le_of_ble_eq_true rfl) ⟨Nat.le_of_ble_eq_true rfl, Nat.le_of_ble_eq_true rfl⟩ rfl ⟨Nat.zero_le _, Nat.zero_le _⟩ (fun v9 u2 hu2 => ?_) (fun E9 w9 h9 => by rcases h9 with h9 | ⟨k9, h9⟩ <;> cases h9.2.1)
      rcases hu2 with ⟨hu2f, e9, hu2⟩ | ⟨k9, hk9, e9, hu2⟩
      · cases e9
        subst hu2
        have hpN : isP pt = false := isP_no hu2f
        refine V_astoreN dX10_plant_9 (Nat.le_of_ble_eq_true rfl) rfl rfl ?_
        refine V_aloadN dX10_plant_11 rfl ?_
        refine V_ifnonnullN dX10_plant_13 ?_
        refine V_throw dX10_plant_16 dX10_plant_19 dX10_plant_20 dX10_plant_22 dX10_plant_25 thr_IAE (List.mem_of_getElem? (i := 19) rfl) rfl (Nat.le_of_ble_eq_true rfl) (by decide) (by decide) ?_
        have e9 : fPlant S (r0 : Int) (c0 : Int) pt q = (2, 0, S) := by simp [fPlant, fCell, fLive, q2, cl_nat, b2, hin0, hpN, hpN]
        rw [e9]
        exact ⟨Or.inr ⟨Nat.le_of_ble_eq_true rfl, rfl⟩, ⟨hC.1, hC.2.1, hC.2.2.1, hC.2.2.2.1, hC.2.2.2.2.1, hC.2.2.2.2.2⟩, Fr.nil⟩
      · cases e9
        subst hu2
        have hip := (ptL_isP hk9.1).1
        have hpk := (ptL_isP hk9.1).2
        rw [hk9.2] at hip hpk
        have hp4 := hk9.1
        have hz9 := pt_len hp4
        refine V_astore dX10_plant_9 (Nat.le_of_ble_eq_true rfl) rfl rfl ?_
        refine V_aload dX10_plant_11 rfl ?_
        refine V_ifnonnull (tgt := 26) dX10_plant_13 (by decide) ?_
        refine V_iload dX10_plant_26 rfl ?_
        refine V_callS dX10_plant_28 (c_requireColour (q := q) (by omega)) okX10_requireColour lkRX10_78 rfl rfl (Nat.le_of_ble_eq_true rfl) ⟨Nat.le_of_ble_eq_true rfl, Nat.le_of_ble_eq_true rfl⟩ rfl ⟨by decide, by decide⟩ (fun v9 u3 hu3 => ?_) (fun E9 u3 hu3 => ?_)
        · rcases hu3 with ⟨hu3f, e9, hu3⟩ | ⟨hu3f, e9, hu3⟩
          · cases e9
            subst hu3
            have hcq := hu3f
            have hcq2 := isC_iff.mp hcq
            refine V_aload_n (i := 0) dX10_plant_31 rfl rfl ?_
            refine V_getC (k := 0) (q := 1) dX10_plant_32 (Or.inr ⟨rfl, Nat.le_of_ble_eq_true rfl⟩) rfl rfl rfl (Nat.le_of_ble_eq_true rfl) flRX10_10 ?_
            refine V_iload_n (i := 1) dX10_plant_35 rfl rfl ?_
            refine V_iload_n (i := 2) dX10_plant_36 rfl rfl ?_
            refine V_aload dX10_plant_37 rfl ?_
            refine V_callVF dX10_plant_39 (c_reasonAgainstPlanting hC.1.1 (p := k9) (r := r0) (c := c0) hk9.1 (by omega) (by omega)) okX8_reasonAgainstPlanting lkRX10_139 (Or.inr ⟨rfl, Nat.le_of_ble_eq_true rfl⟩) rfl rfl rfl rfl (Nat.le_of_ble_eq_true rfl) ⟨Nat.le_of_ble_eq_true rfl, Nat.le_of_ble_eq_true rfl⟩ rfl ?_
            refine V_istore dX10_plant_42 (Nat.le_of_ble_eq_true rfl) rfl rfl ?_
            have hrl := @rsL_lt S.1 k9 r0 c0
            refine V_aload_n (i := 0) dX10_plant_44 rfl rfl ?_
            refine V_iload dX10_plant_45 rfl ?_
            refine V_iload dX10_plant_47 rfl ?_
            refine V_iconst_n (v := 4) dX10_plant_49 (by decide) ?_
            refine V_icmp_ne_n (tgt := 61) dX10_plant_50 (by decide) (by omega) (by omega) (fun h50 => ?_) (fun h50 => ?_)
            · have hall : allin k9 r0 c0 = true := Decidable.by_contra fun q => h50 (if_neg q)
              have hin := allin_iff.mp hall
              have hfb := fti_bd (C := S.1.1) hin
              refine V_aload_n (i := 0) dX10_plant_61 rfl rfl ?_
              refine V_getC (k := 0) (q := 1) dX10_plant_62 (Or.inr ⟨rfl, Nat.le_of_ble_eq_true rfl⟩) rfl rfl rfl (Nat.le_of_ble_eq_true rfl) flRX10_10 ?_
              refine V_iload_n (i := 1) dX10_plant_65 rfl rfl ?_
              refine V_iload_n (i := 2) dX10_plant_66 rfl rfl ?_
              refine V_aload dX10_plant_67 rfl ?_
              refine V_callVF dX10_plant_69 (c_firstTakenCell hC.1.1 (p := k9) (r := r0) (c := c0) hk9.1 (by omega) (by omega) hin) okX8_firstTakenCell lkRX10_149 (Or.inr ⟨rfl, Nat.le_of_ble_eq_true rfl⟩) rfl rfl rfl rfl (Nat.le_of_ble_eq_true rfl) ⟨Nat.le_of_ble_eq_true rfl, Nat.le_of_ble_eq_true rfl⟩ rfl ?_
              refine V_callV dX10_plant_72 (c_rejectFor hC.2.2.2.2.2 (rs := (rsL S.1 k9 r0 c0)) (x := zI (fti S.1.1 k9 r0 c0)) (by have := @rsL_lt S.1 k9 r0 c0; omega)) okX10_rejectFor lkRX10_90 (Or.inr ⟨rfl, Nat.le_of_ble_eq_true rfl⟩) rfl rfl rfl rfl (Nat.le_of_ble_eq_true rfl) ⟨Nat.le_of_ble_eq_true rfl, Nat.le_of_ble_eq_true rfl⟩ rfl ⟨by decide, by decide⟩ (fun v9 u4 hu4 => ?_) (fun E9 u4 hu4 => ?_)
              · rcases hu4 with ⟨hu4f, e9, hu4⟩ | ⟨hu4f, e9, hu4⟩
                · cases e9
                  subst hu4
                  have hz := hall
                  have hz2 : ¬ 0 ≤ fti S.1.1 k9 r0 c0 := fun q => by have : rsL S.1 k9 r0 c0 = 1 := (by unfold rsL; rw [if_pos hz, if_neg (by omega)]); omega
                  have hz3 := fti_neg (show fti S.1.1 k9 r0 c0 < 0 by omega)
                  refine V_aload_n (i := 0) dX10_plant_75 rfl rfl ?_
                  refine V_getC (k := 3) (q := 10) dX10_plant_76 (Or.inr ⟨rfl, Nat.le_of_ble_eq_true rfl⟩) rfl rfl rfl (Nat.le_of_ble_eq_true rfl) flRX10_25 ?_
                  refine V_aload_n (i := 0) dX10_plant_79 rfl rfl ?_
                  refine V_getC (k := 0) (q := 1) dX10_plant_80 (Or.inr ⟨rfl, Nat.le_of_ble_eq_true rfl⟩) rfl rfl rfl (Nat.le_of_ble_eq_true rfl) flRX10_10 ?_
                  refine V_callVM dX10_plant_83 (c_keep hC.2.1.1 hC.1.1 (by omega)) okX2_keep lkRX10_93 (Or.inr ⟨rfl, Nat.le_of_ble_eq_true rfl⟩) rfl rfl rfl rfl (Nat.le_of_ble_eq_true rfl) ⟨Nat.le_of_ble_eq_true rfl, Nat.le_of_ble_eq_true rfl⟩ rfl ?_
                  intro u5 hu5
                  refine V_aload_n (i := 0) dX10_plant_86 rfl rfl ?_
                  refine V_getC (k := 0) (q := 1) dX10_plant_87 (Or.inr ⟨rfl, Nat.le_of_ble_eq_true rfl⟩) rfl rfl rfl (Nat.le_of_ble_eq_true rfl) flRX10_10 ?_
                  refine V_iload_n (i := 1) dX10_plant_90 rfl rfl ?_
                  refine V_iload_n (i := 2) dX10_plant_91 rfl rfl ?_
                  refine V_aload dX10_plant_92 rfl ?_
                  refine V_iload dX10_plant_94 rfl ?_
                  refine V_callVM dX10_plant_96 (c_putPattern (hC.1.keep hu5.2 (fun b hb => by unfold InH; omega)).1 (p := k9) (r := r0) (c := c0) (q := q) hk9.1 (by omega) (by omega) (by omega) hin) okX8_putPattern lkRX10_152 (Or.inr ⟨rfl, Nat.le_of_ble_eq_true rfl⟩) rfl rfl rfl rfl (Nat.le_of_ble_eq_true rfl) ⟨Nat.le_of_ble_eq_true rfl, Nat.le_of_ble_eq_true rfl⟩ rfl ?_
                  intro u6 hu6
                  refine V_aload dX10_plant_99 rfl ?_
                  refine V_callVOF dX10_plant_101 (c_psize (p := k9) hk9.1) okX5_size lkRX10_143 (pt_O hk9.1) rfl rfl (Nat.le_of_ble_eq_true rfl) ⟨Nat.le_of_ble_eq_true rfl, Nat.le_of_ble_eq_true rfl⟩ rfl ?_
                  refine V_iret dX10_plant_104 rfl rfl ?_
                  have e9 : fPlant S (r0 : Int) (c0 : Int) pt q = (0, nI (psz k9), kp S (plt S.1 k9 r0 c0 q (psz k9))) := by simp [fPlant, fCell, fLive, q2, cl_nat, b2, hin0, hip, hpk, hcq, hz, hz2]
                  rw [e9]
                  exact ⟨Or.inl ⟨rfl, rfl⟩, ⟨(show ciR u6 (plt S.1 k9 r0 c0 q (psz k9)) from ⟨hu6.1, (hC.1.keep hu5.2 (fun b hb => by unfold InH; omega)).2.plt hp4 hin hz3 _ (Nat.le_refl _)⟩), ((show ciH u5 (kpH S.2.1 S.1) from ⟨hu5.1, kpH_bal hC.2.1.2 hC.1.2⟩).keep hu6.2 (fun b hb => by unfold InSt; omega)), ((hC.2.2.1.keep hu5.2 (fun b hb => by unfold InH; omega)).keep hu6.2 (fun b hb => by unfold InSt; omega)), ((hC.2.2.2.1.keep hu5.2 (fun b hb => by unfold InH; omega)).keep hu6.2 (fun b hb => by unfold InSt; omega)), ((hC.2.2.2.2.1.keep hu5.2 (fun b hb => by unfold InH; omega)).keep hu6.2 (fun b hb => by unfold InSt; omega)), ((hC.2.2.2.2.2.keep hu5.2 (fun b hb => by unfold InH; omega)).keep hu6.2 (fun b hb => by unfold InSt; omega))⟩, ((hu5.2.mono (fun b hb => by unfold InH at hb; unfold InC; omega)).trans (hu6.2.mono (fun b hb => by unfold InSt at hb; unfold InC; omega)))⟩
                · cases e9
              · rcases hu4 with ⟨hu4f, e9, hu4⟩ | ⟨hu4f, e9, hu4⟩
                · cases e9
                · cases e9
                  have hz : allin k9 r0 c0 = true := Decidable.by_contra fun q => h50 (if_neg q)
                  have hz2 : 0 ≤ fti S.1.1 k9 r0 c0 := by unfold rsL at hu4f; grind
                  have hrs : rsL S.1 k9 r0 c0 = 1 := by unfold rsL; rw [if_pos hz, if_neg (by omega)]
                  rw [hrs] at hu4
                  have e9 : fPlant S (r0 : Int) (c0 : Int) pt q = (3, 0, (rj S 1 (zI (fti S.1.1 k9 r0 c0)) 0)) := by simp [fPlant, fCell, fLive, q2, cl_nat, b2, hin0, hip, hpk, hcq, hz, hz2]
                  rw [e9]
                  exact ⟨Or.inr ⟨Nat.le_of_ble_eq_true rfl, rfl⟩, ⟨(hC.1.keep hu4.2 (fun b hb => by unfold In0; omega)), (hC.2.1.keep hu4.2 (fun b hb => by unfold In0; omega)), (hC.2.2.1.keep hu4.2 (fun b hb => by unfold In0; omega)), (hC.2.2.2.1.keep hu4.2 (fun b hb => by unfold In0; omega)), (hC.2.2.2.2.1.keep hu4.2 (fun b hb => by unfold In0; omega)), hu4.1⟩, (hu4.2.mono (fun b hb => by unfold In0 at hb; unfold InC; omega))⟩
            · refine V_aload dX10_plant_53 rfl ?_
              refine V_callVOF dX10_plant_55 (c_psize (p := k9) hk9.1) okX5_size lkRX10_143 (pt_O hk9.1) rfl rfl (Nat.le_of_ble_eq_true rfl) ⟨Nat.le_of_ble_eq_true rfl, Nat.le_of_ble_eq_true rfl⟩ rfl ?_
              refine V_goto (tgt := 72) dX10_plant_58 (by decide) ?_
              refine V_callV dX10_plant_72 (c_rejectFor hC.2.2.2.2.2 (rs := (rsL S.1 k9 r0 c0)) (x := nI (psz k9)) (by have := @rsL_lt S.1 k9 r0 c0; omega)) okX10_rejectFor lkRX10_90 (Or.inr ⟨rfl, Nat.le_of_ble_eq_true rfl⟩) rfl rfl rfl rfl (Nat.le_of_ble_eq_true rfl) ⟨Nat.le_of_ble_eq_true rfl, Nat.le_of_ble_eq_true rfl⟩ rfl ⟨by decide, by decide⟩ (fun v9 u4 hu4 => ?_) (fun E9 u4 hu4 => ?_)
              · rcases hu4 with ⟨hu4f, e9, hu4⟩ | ⟨hu4f, e9, hu4⟩
                · cases e9
                  subst hu4
                  exfalso
                  omega
                · cases e9
              · rcases hu4 with ⟨hu4f, e9, hu4⟩ | ⟨hu4f, e9, hu4⟩
                · cases e9
                · cases e9
                  have hz : allin k9 r0 c0 = false := by unfold rsL at h50; grind
                  rw [h50] at hu4
                  have e9 : fPlant S (r0 : Int) (c0 : Int) pt q = (3, 0, (rj S 4 (nI (psz k9)) 0)) := by simp [fPlant, fCell, fLive, q2, cl_nat, b2, hin0, hip, hpk, hcq, hz]
                  rw [e9]
                  exact ⟨Or.inr ⟨Nat.le_of_ble_eq_true rfl, rfl⟩, ⟨(hC.1.keep hu4.2 (fun b hb => by unfold In0; omega)), (hC.2.1.keep hu4.2 (fun b hb => by unfold In0; omega)), (hC.2.2.1.keep hu4.2 (fun b hb => by unfold In0; omega)), (hC.2.2.2.1.keep hu4.2 (fun b hb => by unfold In0; omega)), (hC.2.2.2.2.1.keep hu4.2 (fun b hb => by unfold In0; omega)), hu4.1⟩, (hu4.2.mono (fun b hb => by unfold In0 at hb; unfold InC; omega))⟩
          · cases e9
        · rcases hu3 with ⟨hu3f, e9, hu3⟩ | ⟨hu3f, e9, hu3⟩
          · cases e9
          · cases e9
            subst hu3
            have e9 : fPlant S (r0 : Int) (c0 : Int) pt q = (2, 0, S) := by simp [fPlant, fCell, fLive, q2, cl_nat, b2, hin0, hip, hpk, hu3f]
            rw [e9]
            exact ⟨Or.inr ⟨Nat.le_of_ble_eq_true rfl, rfl⟩, ⟨hC.1, hC.2.1, hC.2.2.1, hC.2.2.2.1, hC.2.2.2.2.1, hC.2.2.2.2.2⟩, Fr.nil⟩
    · cases e9
  · rcases hu1 with ⟨hu1f, e9, hu1⟩ | ⟨hu1f, e9, hu1⟩
    · cases e9
    · cases e9
      subst hu1
      have e9 : fPlant S r c pt q = (1, 0, S) := by simp [fPlant, fCell, fLive, q2, cl_nat, b2, hu1f]
      rw [e9]
      exact ⟨Or.inr ⟨Nat.le_of_ble_eq_true rfl, rfl⟩, ⟨hC.1, hC.2.1, hC.2.2.1, hC.2.2.2.1, hC.2.2.2.2.1, hC.2.2.2.2.2⟩, Fr.nil⟩
set_option maxRecDepth 100000 in
set_option maxHeartbeats 1000000 in
theorem c_rule0 {s : St} {w : Wd} (hR : Repr w 1 s) : Ct 1 MX10_rule 1 0 0 [.ref 0] w (Rt (some (.int (nI (rlL s.2.1)))) w) := by
  refine Ct_of (by decide +kernel) rfl (Nat.le_of_ble_eq_true rfl) rfl ?_
  have hll := @rlL_lt2 s.2.1
  refine V_aload_n (i := 0) dX10_rule_0 rfl rfl ?_
  refine V_getC (k := 0) (q := 1) dX10_rule_1 (Or.inr ⟨rfl, Nat.le_of_ble_eq_true rfl⟩) rfl rfl rfl (Nat.le_of_ble_eq_true rfl) flRX10_10 ?_
  refine V_getR (k := 2) dX10_rule_4 (Or.inr ⟨rfl, Nat.le_of_ble_eq_true rfl⟩) rfl rfl rfl (Nat.le_of_ble_eq_true rfl) flRX10_173 hR.2.2.2.2.2.1 ?_
  refine V_getK dX10_rule_7 (rl_letter hR.2.2.2.2.1) flRX10_238 ?_
  refine V_i2c_n dX10_rule_10 (by omega) ?_
  refine V_iret dX10_rule_11 rfl (nar_char (by omega)) ?_
  exact ⟨rfl, rfl⟩
theorem rlN_ok {k : Nat} (hk : k < 3) : isR (rlL k) = true ∧ rlN (rlL k) = k := rl_cases (P := fun k => isR (rlL k) = true ∧ rlN (rlL k) = k) (by decide) (by decide) (by decide) hk
theorem isR_no {x : Nat} (h : ∀ k, k < 3 → rlL k ≠ x) : isR x = false := Bool.eq_false_iff.mpr fun q => by
  have := of_decide_eq_true q
  rcases this with rfl | rfl | rfl
  · exact h 0 (by decide) rfl
  · exact h 1 (by decide) rfl
  · exact h 2 (by decide) rfl
set_option maxRecDepth 100000 in
set_option maxHeartbeats 1000000 in
theorem c_setRule {q : Nat} {S : Sys} {w : Wd} (hC : CI w S) (hq : q < 65536) : Ct 1 MX10_setRule 12 4 24 [.ref 0, .int (nI q)] w (PoF ["java/lang/IllegalArgumentException", "java/lang/UnsupportedOperationException"] (fSetRule S q) w) := by
  refine Ct_of (by decide +kernel) rfl (Nat.le_of_ble_eq_true rfl) rfl ?_
  refine V_iload_n (i := 1) dX10_setRule_0 rfl rfl ?_
  refine V_callS dX10_setRule_1 (c_ruleOf (q := q) (by omega)) okX10_ruleOf lkRX10_156 rfl rfl (Nat.le_of_ble_eq_true rfl) ⟨Nat.le_of_ble_eq_true rfl, Nat.le_of_ble_eq_true rfl⟩ rfl ⟨Nat.zero_le _, Nat.zero_le _⟩ (fun v9 u1 hu1 => ?_) (fun E9 w9 h9 => by rcases h9 with h9 | ⟨k9, h9⟩ <;> cases h9.2.1)
  rcases hu1 with ⟨hu1f, e9, hu1⟩ | ⟨k9, hk9, e9, hu1⟩
  · cases e9
    subst hu1
    have hrN : isR q = false := isR_no hu1f
    refine V_astore_nN (i := 2) dX10_setRule_4 rfl (Nat.le_of_ble_eq_true rfl) rfl rfl ?_
    refine V_aload_nN (i := 2) dX10_setRule_5 rfl rfl ?_
    refine V_ifnonnullN dX10_setRule_6 ?_
    refine V_throw dX10_setRule_9 dX10_setRule_12 dX10_setRule_13 dX10_setRule_15 dX10_setRule_18 thr_IAE (List.mem_of_getElem? (i := 20) rfl) rfl (Nat.le_of_ble_eq_true rfl) (by decide) (by decide) ?_
    have e9 : fSetRule S q = (1, 0, S) := by simp [fSetRule, fCell, fLive, q2, cl_nat, b2, hrN]
    rw [e9]
    exact ⟨Or.inr ⟨Nat.le_of_ble_eq_true rfl, rfl⟩, ⟨hC.1, hC.2.1, hC.2.2.1, hC.2.2.2.1, hC.2.2.2.2.1, hC.2.2.2.2.2⟩, Fr.nil⟩
  · cases e9
    subst hu1
    have hir := (rlN_ok hk9.1).1
    have hrk := (rlN_ok hk9.1).2
    rw [hk9.2] at hir hrk
    refine V_astore_n (i := 2) dX10_setRule_4 rfl (Nat.le_of_ble_eq_true rfl) rfl rfl ?_
    refine V_aload_n (i := 2) dX10_setRule_5 rfl rfl ?_
    refine V_ifnonnull (tgt := 19) dX10_setRule_6 (by decide) ?_
    refine V_aload_n (i := 0) dX10_setRule_19 rfl rfl ?_
    refine V_aload_n (i := 0) dX10_setRule_20 rfl rfl ?_
    refine V_getC (k := 0) (q := 1) dX10_setRule_21 (Or.inr ⟨rfl, Nat.le_of_ble_eq_true rfl⟩) rfl rfl rfl (Nat.le_of_ble_eq_true rfl) flRX10_10 ?_
    refine V_aload_n (i := 2) dX10_setRule_24 rfl rfl ?_
    refine V_callVF dX10_setRule_25 (c_reasonAgainstRule hC.1.1 (r := k9) hk9.1) okX8_reasonAgainstRule lkRX10_162 (Or.inr ⟨rfl, Nat.le_of_ble_eq_true rfl⟩) rfl rfl rfl rfl (Nat.le_of_ble_eq_true rfl) ⟨Nat.le_of_ble_eq_true rfl, Nat.le_of_ble_eq_true rfl⟩ rfl ?_
    refine V_aload_n (i := 0) dX10_setRule_28 rfl rfl ?_
    refine V_getC (k := 0) (q := 1) dX10_setRule_29 (Or.inr ⟨rfl, Nat.le_of_ble_eq_true rfl⟩) rfl rfl rfl (Nat.le_of_ble_eq_true rfl) flRX10_10 ?_
    refine V_getI (k := 3) dX10_setRule_32 (Or.inr ⟨rfl, Nat.le_of_ble_eq_true rfl⟩) rfl rfl rfl (Nat.le_of_ble_eq_true rfl) flRX10_166 ?_
    refine V_top (y := (S.1.2.2 0)) (hC.1.1.2.2.2.2.2.2 0 (by decide)) ?_
    refine V_callV dX10_setRule_35 (c_rejectFor hC.2.2.2.2.2 (rs := (if S.1.2.1 = k9 then 5 else 0)) (x := (S.1.2.2 0)) (by split <;> omega)) okX10_rejectFor lkRX10_90 (Or.inr ⟨rfl, Nat.le_of_ble_eq_true rfl⟩) rfl rfl rfl rfl (Nat.le_of_ble_eq_true rfl) ⟨Nat.le_of_ble_eq_true rfl, Nat.le_of_ble_eq_true rfl⟩ rfl ⟨by decide, by decide⟩ (fun v9 u2 hu2 => ?_) (fun E9 u2 hu2 => ?_)
    · rcases hu2 with ⟨hu2f, e9, hu2⟩ | ⟨hu2f, e9, hu2⟩
      · cases e9
        subst hu2
        have hz : ¬ S.1.2.1 = k9 := fun q9 => by have : (if S.1.2.1 = k9 then 5 else 0) = 5 := if_pos q9; omega
        have hll := @rlL_lt2 S.1.2.1
        refine V_aload_n (i := 0) dX10_setRule_38 rfl rfl ?_
        refine V_getC (k := 3) (q := 10) dX10_setRule_39 (Or.inr ⟨rfl, Nat.le_of_ble_eq_true rfl⟩) rfl rfl rfl (Nat.le_of_ble_eq_true rfl) flRX10_25 ?_
        refine V_aload_n (i := 0) dX10_setRule_42 rfl rfl ?_
        refine V_getC (k := 0) (q := 1) dX10_setRule_43 (Or.inr ⟨rfl, Nat.le_of_ble_eq_true rfl⟩) rfl rfl rfl (Nat.le_of_ble_eq_true rfl) flRX10_10 ?_
        refine V_callVM dX10_setRule_46 (c_keep hC.2.1.1 hC.1.1 (by omega)) okX2_keep lkRX10_93 (Or.inr ⟨rfl, Nat.le_of_ble_eq_true rfl⟩) rfl rfl rfl rfl (Nat.le_of_ble_eq_true rfl) ⟨Nat.le_of_ble_eq_true rfl, Nat.le_of_ble_eq_true rfl⟩ rfl ?_
        intro u3 hu3
        refine V_aload_n (i := 0) dX10_setRule_49 rfl rfl ?_
        refine V_callVF dX10_setRule_50 (c_rule0 (hC.1.keep hu3.2 (fun b hb => by unfold InH; omega)).1) okX10_rule lkRX10_169 (Or.inr ⟨rfl, Nat.le_of_ble_eq_true rfl⟩) rfl rfl rfl rfl (Nat.le_of_ble_eq_true rfl) ⟨Nat.le_of_ble_eq_true rfl, Nat.le_of_ble_eq_true rfl⟩ rfl ?_
        refine V_istore_n (i := 3) dX10_setRule_53 rfl (Nat.le_of_ble_eq_true rfl) rfl rfl ?_
        refine V_aload_n (i := 0) dX10_setRule_54 rfl rfl ?_
        refine V_getC (k := 0) (q := 1) dX10_setRule_55 (Or.inr ⟨rfl, Nat.le_of_ble_eq_true rfl⟩) rfl rfl rfl (Nat.le_of_ble_eq_true rfl) flRX10_10 ?_
        refine V_aload_n (i := 2) dX10_setRule_58 rfl rfl ?_
        refine V_putR (k := 2) (ty := tyX8 2) dX10_setRule_59 (Or.inr ⟨rfl, Nat.le_of_ble_eq_true rfl⟩) rfl rfl rfl (Nat.le_of_ble_eq_true rfl) flRX10_173 (Or.inl rfl) (by decide +kernel) (fun _ => rfl) (fun _ => rfl) ?_
        refine V_iload_n (i := 3) dX10_setRule_62 rfl rfl ?_
        refine V_iret dX10_setRule_63 rfl (nar_char (by omega)) ?_
        have e9 : fSetRule S q = (0, nI (rlL S.1.2.1), kp S (S.1.1, k9, S.1.2.2)) := by simp [fSetRule, fCell, fLive, q2, cl_nat, b2, hir, hrk, hz]
        rw [e9]
        exact ⟨Or.inl ⟨rfl, rfl⟩, ⟨(show ciR _ (S.1.1, k9, S.1.2.2) from ⟨(hC.1.keep hu3.2 (fun b hb => by unfold InH; omega)).1.rule hk9.1, (hC.1.keep hu3.2 (fun b hb => by unfold InH; omega)).2⟩), ((show ciH u3 (kpH S.2.1 S.1) from ⟨hu3.1, kpH_bal hC.2.1.2 hC.1.2⟩).keep (show FrS 1 _ _ from Fr.nil.r1 (by unfold InSt; omega)) (fun b hb => by unfold InSt; omega)), ((hC.2.2.1.keep hu3.2 (fun b hb => by unfold InH; omega)).keep (show FrS 1 _ _ from Fr.nil.r1 (by unfold InSt; omega)) (fun b hb => by unfold InSt; omega)), ((hC.2.2.2.1.keep hu3.2 (fun b hb => by unfold InH; omega)).keep (show FrS 1 _ _ from Fr.nil.r1 (by unfold InSt; omega)) (fun b hb => by unfold InSt; omega)), ((hC.2.2.2.2.1.keep hu3.2 (fun b hb => by unfold InH; omega)).keep (show FrS 1 _ _ from Fr.nil.r1 (by unfold InSt; omega)) (fun b hb => by unfold InSt; omega)), ((hC.2.2.2.2.2.keep hu3.2 (fun b hb => by unfold InH; omega)).keep (show FrS 1 _ _ from Fr.nil.r1 (by unfold InSt; omega)) (fun b hb => by unfold InSt; omega))⟩, ((hu3.2.mono (fun b hb => by unfold InH at hb; unfold InC; omega)).r1 (show InC 1 from by unfold InC; omega))⟩
      · cases e9
    · rcases hu2 with ⟨hu2f, e9, hu2⟩ | ⟨hu2f, e9, hu2⟩
      · cases e9
      · cases e9
        have hz : S.1.2.1 = k9 := Decidable.by_contra fun q9 => hu2f (if_neg q9)
        have hrs : (if S.1.2.1 = k9 then 5 else 0) = 5 := if_pos hz
        rw [hrs] at hu2
        have e9 : fSetRule S q = (2, 0, (rj S 5 (S.1.2.2 0) 0)) := by simp [fSetRule, fCell, fLive, q2, cl_nat, b2, hir, hrk, hz]
        rw [e9]
        exact ⟨Or.inr ⟨Nat.le_of_ble_eq_true rfl, rfl⟩, ⟨(hC.1.keep hu2.2 (fun b hb => by unfold In0; omega)), (hC.2.1.keep hu2.2 (fun b hb => by unfold In0; omega)), (hC.2.2.1.keep hu2.2 (fun b hb => by unfold In0; omega)), (hC.2.2.2.1.keep hu2.2 (fun b hb => by unfold In0; omega)), (hC.2.2.2.2.1.keep hu2.2 (fun b hb => by unfold In0; omega)), hu2.1⟩, (hu2.2.mono (fun b hb => by unfold In0 at hb; unfold InC; omega))⟩
set_option maxRecDepth 100000 in
set_option maxHeartbeats 1000000 in
theorem c_passTides {x : Int32} {t : Int} {S : Sys} {w : Wd} (hC : CI w S) (hx : x = zI t) (n1 : -2147483648 ≤ t) (n2 : t < 2147483648) : Ct 1 MX10_passTides 12 4 24 [.ref 0, .int x] w (PoF ["java/lang/IllegalArgumentException"] (fPassTides S t) w) := by
  refine Ct_of (by decide +kernel) rfl (Nat.le_of_ble_eq_true rfl) rfl ?_
  subst hx
  refine V_iload_n (i := 1) dX10_passTides_0 rfl rfl ?_
  refine V_iconst_n (v := 1) dX10_passTides_1 (by decide) ?_
  refine V_icmp_lt_z (tgt := 11) dX10_passTides_2 (by decide) rfl (zI_n _) (by omega) (by omega) (by omega) (by omega) (fun h2 => ?_) (fun h2 => ?_)
  · refine V_throw dX10_passTides_11 dX10_passTides_14 dX10_passTides_15 dX10_passTides_17 dX10_passTides_20 thr_IAE (List.mem_of_getElem? (i := 23) rfl) rfl (Nat.le_of_ble_eq_true rfl) (by decide) (by decide) ?_
    have hz : ¬ (1 ≤ t ∧ t ≤ 20) := by omega
    have e9 : fPassTides S t = (1, 0, S) := by simp [fPassTides, fCell, fLive, q2, cl_nat, b2, hz]
    rw [e9]
    exact ⟨Or.inr ⟨Nat.le_of_ble_eq_true rfl, rfl⟩, ⟨hC.1, hC.2.1, hC.2.2.1, hC.2.2.2.1, hC.2.2.2.2.1, hC.2.2.2.2.2⟩, Fr.nil⟩
  · refine V_iload_n (i := 1) dX10_passTides_5 rfl rfl ?_
    refine V_bipush_n (v := 20) dX10_passTides_6 (by decide) ?_
    refine V_icmp_le_z (tgt := 21) dX10_passTides_8 (by decide) rfl (zI_n _) (by omega) (by omega) (by omega) (by omega) (fun h8 => ?_) (fun h8 => ?_)
    · obtain ⟨t0, rfl⟩ : ∃ m : Nat, t = (m : Int) := ⟨t.toNat, by omega⟩
      have ht1 : 1 ≤ (t0 : Int) := by omega
      have ht2 : (t0 : Int) ≤ 20 := by omega
      simp only [← zI_n]
      refine V_aload_n (i := 0) dX10_passTides_21 rfl rfl ?_
      refine V_getC (k := 3) (q := 10) dX10_passTides_22 (Or.inr ⟨rfl, Nat.le_of_ble_eq_true rfl⟩) rfl rfl rfl (Nat.le_of_ble_eq_true rfl) flRX10_25 ?_
      refine V_aload_n (i := 0) dX10_passTides_25 rfl rfl ?_
      refine V_getC (k := 0) (q := 1) dX10_passTides_26 (Or.inr ⟨rfl, Nat.le_of_ble_eq_true rfl⟩) rfl rfl rfl (Nat.le_of_ble_eq_true rfl) flRX10_10 ?_
      refine V_callVM dX10_passTides_29 (c_keep hC.2.1.1 hC.1.1 (by omega)) okX2_keep lkRX10_93 (Or.inr ⟨rfl, Nat.le_of_ble_eq_true rfl⟩) rfl rfl rfl rfl (Nat.le_of_ble_eq_true rfl) ⟨Nat.le_of_ble_eq_true rfl, Nat.le_of_ble_eq_true rfl⟩ rfl ?_
      intro u1 hu1
      refine V_aload_n (i := 0) dX10_passTides_32 rfl rfl ?_
      refine V_getC (k := 4) (q := 36) dX10_passTides_33 (Or.inr ⟨rfl, Nat.le_of_ble_eq_true rfl⟩) rfl rfl rfl (Nat.le_of_ble_eq_true rfl) flRX10_32 ?_
      refine V_aload_n (i := 0) dX10_passTides_36 rfl rfl ?_
      refine V_getC (k := 0) (q := 1) dX10_passTides_37 (Or.inr ⟨rfl, Nat.le_of_ble_eq_true rfl⟩) rfl rfl rfl (Nat.le_of_ble_eq_true rfl) flRX10_10 ?_
      refine V_iload_n (i := 1) dX10_passTides_40 rfl rfl ?_
      refine V_callVM dX10_passTides_41 (c_passSeveral (hC.1.keep hu1.2 (fun b hb => by unfold InH; omega)).1 (n := t0) (by decide) (by omega)) okX7_passSeveral lkRX10_216 (Or.inr ⟨rfl, Nat.le_of_ble_eq_true rfl⟩) rfl rfl rfl rfl (Nat.le_of_ble_eq_true rfl) ⟨Nat.le_of_ble_eq_true rfl, Nat.le_of_ble_eq_true rfl⟩ rfl ?_
      intro u2 hu2
      refine V_iret dX10_passTides_44 rfl rfl ?_
      have e9 : fPassTides S (t0 : Int) = (0, ((tideN S.1 t0).2.2 3 - S.1.2.2 3), kp S (tideN S.1 t0)) := by simp [fPassTides, fCell, fLive, q2, cl_nat, b2, ht1, ht2]
      rw [e9]
      exact ⟨Or.inl ⟨rfl, rfl⟩, ⟨(show ciR u2 (tideN S.1 t0) from ⟨hu2.1, (hC.1.keep hu1.2 (fun b hb => by unfold InH; omega)).2.tideN (hC.1.keep hu1.2 (fun b hb => by unfold InH; omega)).1.2.1 _⟩), ((show ciH u1 (kpH S.2.1 S.1) from ⟨hu1.1, kpH_bal hC.2.1.2 hC.1.2⟩).keep hu2.2 (fun b hb => by show ¬ (InSt 1 b ∨ InSt 37 b); unfold InSt; omega)), ((hC.2.2.1.keep hu1.2 (fun b hb => by unfold InH; omega)).keep hu2.2 (fun b hb => by show ¬ (InSt 1 b ∨ InSt 37 b); unfold InSt; omega)), ((hC.2.2.2.1.keep hu1.2 (fun b hb => by unfold InH; omega)).keep hu2.2 (fun b hb => by show ¬ (InSt 1 b ∨ InSt 37 b); unfold InSt; omega)), ((hC.2.2.2.2.1.keep hu1.2 (fun b hb => by unfold InH; omega)).keep hu2.2 (fun b hb => by show ¬ (InSt 1 b ∨ InSt 37 b); unfold InSt; omega)), ((hC.2.2.2.2.2.keep hu1.2 (fun b hb => by unfold InH; omega)).keep hu2.2 (fun b hb => by show ¬ (InSt 1 b ∨ InSt 37 b); unfold InSt; omega))⟩, ((hu1.2.mono (fun b hb => by unfold InH at hb; unfold InC; omega)).trans (hu2.2.mono (fun b hb => by have hb2 : InSt 1 b ∨ InSt 37 b := hb; unfold InSt at hb2; unfold InC; omega)))⟩
    · refine V_throw dX10_passTides_11 dX10_passTides_14 dX10_passTides_15 dX10_passTides_17 dX10_passTides_20 thr_IAE (List.mem_of_getElem? (i := 23) rfl) rfl (Nat.le_of_ble_eq_true rfl) (by decide) (by decide) ?_
      have hz : ¬ (1 ≤ t ∧ t ≤ 20) := by omega
      have e9 : fPassTides S t = (1, 0, S) := by simp [fPassTides, fCell, fLive, q2, cl_nat, b2, hz]
      rw [e9]
      exact ⟨Or.inr ⟨Nat.le_of_ble_eq_true rfl, rfl⟩, ⟨hC.1, hC.2.1, hC.2.2.1, hC.2.2.2.1, hC.2.2.2.2.1, hC.2.2.2.2.2⟩, Fr.nil⟩
set_option maxRecDepth 100000 in
set_option maxHeartbeats 1000000 in
theorem c_livingAfter {x : Int32} {t : Int} {S : Sys} {w : Wd} (hC : CI w S) (hx : x = zI t) (n1 : -2147483648 ≤ t) (n2 : t < 2147483648) : Ct 1 MX10_livingAfter 12 4 24 [.ref 0, .int x] w (PoF ["java/lang/IllegalArgumentException"] (fLivingAfter S t) w) := by
  refine Ct_of (by decide +kernel) rfl (Nat.le_of_ble_eq_true rfl) rfl ?_
  subst hx
  refine V_iload_n (i := 1) dX10_livingAfter_0 rfl rfl ?_
  refine V_if_lt_z (tgt := 10) dX10_livingAfter_1 (by decide) rfl (by omega) (by omega) (fun h1 => ?_) (fun h1 => ?_)
  · refine V_throw dX10_livingAfter_10 dX10_livingAfter_13 dX10_livingAfter_14 dX10_livingAfter_16 dX10_livingAfter_19 thr_IAE (List.mem_of_getElem? (i := 24) rfl) rfl (Nat.le_of_ble_eq_true rfl) (by decide) (by decide) ?_
    have hz : ¬ (0 ≤ t ∧ t ≤ 20) := by omega
    have e9 : fLivingAfter S t = (1, 0, S) := by simp [fLivingAfter, fCell, fLive, q2, cl_nat, b2, hz]
    rw [e9]
    exact ⟨Or.inr ⟨Nat.le_of_ble_eq_true rfl, rfl⟩, ⟨hC.1, hC.2.1, hC.2.2.1, hC.2.2.2.1, hC.2.2.2.2.1, hC.2.2.2.2.2⟩, Fr.nil⟩
  · refine V_iload_n (i := 1) dX10_livingAfter_4 rfl rfl ?_
    refine V_bipush_n (v := 20) dX10_livingAfter_5 (by decide) ?_
    refine V_icmp_le_z (tgt := 20) dX10_livingAfter_7 (by decide) rfl (zI_n _) (by omega) (by omega) (by omega) (by omega) (fun h7 => ?_) (fun h7 => ?_)
    · obtain ⟨t0, rfl⟩ : ∃ m : Nat, t = (m : Int) := ⟨t.toNat, by omega⟩
      have ht1 : 0 ≤ (t0 : Int) := by omega
      have ht2 : (t0 : Int) ≤ 20 := by omega
      simp only [← zI_n]
      refine V_aload_n (i := 0) dX10_livingAfter_20 rfl rfl ?_
      refine V_getC (k := 1) (q := 4) dX10_livingAfter_21 (Or.inr ⟨rfl, Nat.le_of_ble_eq_true rfl⟩) rfl rfl rfl (Nat.le_of_ble_eq_true rfl) flRX10_16 ?_
      refine V_aload_n (i := 0) dX10_livingAfter_24 rfl rfl ?_
      refine V_getC (k := 0) (q := 1) dX10_livingAfter_25 (Or.inr ⟨rfl, Nat.le_of_ble_eq_true rfl⟩) rfl rfl rfl (Nat.le_of_ble_eq_true rfl) flRX10_10 ?_
      refine V_callVM dX10_livingAfter_28 (c_copyFrom st_4 hC.1.1 (by decide)) okX8_copyFrom lkRX10_226 (Or.inr ⟨rfl, Nat.le_of_ble_eq_true rfl⟩) rfl rfl rfl rfl (Nat.le_of_ble_eq_true rfl) ⟨Nat.le_of_ble_eq_true rfl, Nat.le_of_ble_eq_true rfl⟩ rfl ?_
      intro u1 hu1
      refine V_aload_n (i := 0) dX10_livingAfter_31 rfl rfl ?_
      refine V_getC (k := 4) (q := 36) dX10_livingAfter_32 (Or.inr ⟨rfl, Nat.le_of_ble_eq_true rfl⟩) rfl rfl rfl (Nat.le_of_ble_eq_true rfl) flRX10_32 ?_
      refine V_aload_n (i := 0) dX10_livingAfter_35 rfl rfl ?_
      refine V_getC (k := 1) (q := 4) dX10_livingAfter_36 (Or.inr ⟨rfl, Nat.le_of_ble_eq_true rfl⟩) rfl rfl rfl (Nat.le_of_ble_eq_true rfl) flRX10_16 ?_
      refine V_iload_n (i := 1) dX10_livingAfter_39 rfl rfl ?_
      refine V_callVM dX10_livingAfter_40 (c_passSeveral hu1.1 (n := t0) (by decide) (by omega)) okX7_passSeveral lkRX10_216 (Or.inr ⟨rfl, Nat.le_of_ble_eq_true rfl⟩) rfl rfl rfl rfl (Nat.le_of_ble_eq_true rfl) ⟨Nat.le_of_ble_eq_true rfl, Nat.le_of_ble_eq_true rfl⟩ rfl ?_
      intro u2 hu2
      refine V_pop dX10_livingAfter_43 rfl ?_
      refine V_aload_n (i := 0) dX10_livingAfter_44 rfl rfl ?_
      refine V_getC (k := 1) (q := 4) dX10_livingAfter_45 (Or.inr ⟨rfl, Nat.le_of_ble_eq_true rfl⟩) rfl rfl rfl (Nat.le_of_ble_eq_true rfl) flRX10_16 ?_
      refine V_bipush_n (v := 42) dX10_livingAfter_48 (by decide) ?_
      refine V_callVF dX10_livingAfter_50 (c_count hu2.1 (q := 42) (by omega)) okX8_count lkRX10_101 (Or.inr ⟨rfl, Nat.le_of_ble_eq_true rfl⟩) rfl rfl rfl rfl (Nat.le_of_ble_eq_true rfl) ⟨Nat.le_of_ble_eq_true rfl, Nat.le_of_ble_eq_true rfl⟩ rfl ?_
      refine V_iret dX10_livingAfter_53 rfl rfl ?_
      have e9 : fLivingAfter S (t0 : Int) = (0, nI (cnt (tideN S.1 t0).1 42), S) := by simp [fLivingAfter, fCell, fLive, q2, cl_nat, b2, ht1, ht2]
      rw [e9]
      exact ⟨Or.inl ⟨rfl, rfl⟩, ⟨((hC.1.keep hu1.2 (fun b hb => by unfold InSt; omega)).keep hu2.2 (fun b hb => by show ¬ (InSt 4 b ∨ InSt 37 b); unfold InSt; omega)), ((hC.2.1.keep hu1.2 (fun b hb => by unfold InSt; omega)).keep hu2.2 (fun b hb => by show ¬ (InSt 4 b ∨ InSt 37 b); unfold InSt; omega)), ((hC.2.2.1.keep hu1.2 (fun b hb => by unfold InSt; omega)).keep hu2.2 (fun b hb => by show ¬ (InSt 4 b ∨ InSt 37 b); unfold InSt; omega)), ((hC.2.2.2.1.keep hu1.2 (fun b hb => by unfold InSt; omega)).keep hu2.2 (fun b hb => by show ¬ (InSt 4 b ∨ InSt 37 b); unfold InSt; omega)), ((hC.2.2.2.2.1.keep hu1.2 (fun b hb => by unfold InSt; omega)).keep hu2.2 (fun b hb => by show ¬ (InSt 4 b ∨ InSt 37 b); unfold InSt; omega)), ((hC.2.2.2.2.2.keep hu1.2 (fun b hb => by unfold InSt; omega)).keep hu2.2 (fun b hb => by show ¬ (InSt 4 b ∨ InSt 37 b); unfold InSt; omega))⟩, ((hu1.2.mono (fun b hb => by unfold InSt at hb; unfold InC; omega)).trans (hu2.2.mono (fun b hb => by have hb2 : InSt 4 b ∨ InSt 37 b := hb; unfold InSt at hb2; unfold InC; omega)))⟩
    · refine V_throw dX10_livingAfter_10 dX10_livingAfter_13 dX10_livingAfter_14 dX10_livingAfter_16 dX10_livingAfter_19 thr_IAE (List.mem_of_getElem? (i := 24) rfl) rfl (Nat.le_of_ble_eq_true rfl) (by decide) (by decide) ?_
      have hz : ¬ (0 ≤ t ∧ t ≤ 20) := by omega
      have e9 : fLivingAfter S t = (1, 0, S) := by simp [fLivingAfter, fCell, fLive, q2, cl_nat, b2, hz]
      rw [e9]
      exact ⟨Or.inr ⟨Nat.le_of_ble_eq_true rfl, rfl⟩, ⟨hC.1, hC.2.1, hC.2.2.1, hC.2.2.2.1, hC.2.2.2.2.1, hC.2.2.2.2.2⟩, Fr.nil⟩
theorem tus_s {s : St} {n : Nat} : tus s (n + 1) = if tus s n < n then tus s n else if stl (tideN s n) = true then n else n + 1 := rfl
theorem tus_le {s : St} : ∀ n, tus s n ≤ n := by
  intro n
  induction n with
  | zero => exact Nat.le_refl 0
  | succ n ih => rw [tus_s]; split <;> (try split) <;> omega
theorem tus_stay {s : St} {n : Nat} (h : tus s n < n) : ∀ j, tus s (n + j) = tus s n := by
  intro j
  induction j with
  | zero => rfl
  | succ j ih => rw [← Nat.add_assoc, tus_s, if_pos (by omega), ih]
theorem tus_hit {s : St} {n m : Nat} (h : tus s n = n) (hs : stl (tideN s n) = true) (hm : n < m) : tus s m = n := by
  have h1 : tus s (n + 1) = n := by rw [tus_s, if_neg (by omega), if_pos hs]
  have h2 := tus_stay (s := s) (n := n + 1) (by omega) (m - (n + 1))
  rw [show n + 1 + (m - (n + 1)) = m by omega] at h2
  omega
set_option maxRecDepth 100000 in
set_option maxHeartbeats 1000000 in
theorem c_tidesUntilTrialIsStill {s : St} {w : Wd} (hR : Repr w 1 s) : Ct 1 MX10_tidesUntilTrialIsStill 8 0 0 [.ref 0] w (Mt (some (.int (nI (tus s 41)))) fun w1 => Fr (fun b => InSt 4 b ∨ InSt 37 b) w w1) := by
  refine Ct_of (by decide +kernel) rfl (Nat.le_of_ble_eq_true rfl) rfl ?_
  have lp : ∀ (fu i : Nat) (w1 : Wd), i ≤ 41 → 41 - i < fu → Repr w1 4 (tideN s i) → tus s i = i → Fr (fun b => InSt 4 b ∨ InSt 37 b) w w1 → V 1 MX10_tidesUntilTrialIsStill 8 0 0 (Mt (some (.int (nI (tus s 41)))) fun w1 => Fr (fun b => InSt 4 b ∨ InSt 37 b) w w1) (fun _ _ => True) 0 0 13 [some (.ref 0), some (.int (nI i))] [] w1 := by
    intro fu
    induction fu with
    | zero => intro i w1 h1 h2; omega
    | succ fu ih =>
      intro i w1 hib hfu hR4 hti hF1
      refine V_iload_n (i := 1) dX10_tidesUntilTrialIsStill_13 rfl rfl ?_
      refine V_bipush_n (v := 40) dX10_tidesUntilTrialIsStill_14 (by decide) ?_
      refine V_icmp_gt_n (tgt := 48) dX10_tidesUntilTrialIsStill_16 (by decide) (by omega) (by omega) (fun h16 => ?_) (fun h16 => ?_)
      · refine V_bipush_n (v := 41) dX10_tidesUntilTrialIsStill_48 (by decide) ?_
        refine V_iret dX10_tidesUntilTrialIsStill_50 rfl rfl ?_
        obtain rfl : i = 41 := by omega
        exact ⟨by rw [hti], hF1⟩
      · refine V_aload_n (i := 0) dX10_tidesUntilTrialIsStill_19 rfl rfl ?_
        refine V_getC (k := 1) (q := 4) dX10_tidesUntilTrialIsStill_20 (Or.inr ⟨rfl, Nat.le_of_ble_eq_true rfl⟩) rfl rfl rfl (Nat.le_of_ble_eq_true rfl) flRX10_16 ?_
        refine V_callVF dX10_tidesUntilTrialIsStill_23 (c_staysInTide hR4) okX8_staysInTide lkRX10_229 (Or.inr ⟨rfl, Nat.le_of_ble_eq_true rfl⟩) rfl rfl rfl rfl (Nat.le_of_ble_eq_true rfl) ⟨Nat.le_of_ble_eq_true rfl, Nat.le_of_ble_eq_true rfl⟩ rfl ?_
        refine V_if_eq_n (tgt := 31) dX10_tidesUntilTrialIsStill_26 (by decide) (Nat.lt_of_lt_of_le ite_le (by decide)) (fun h26 => ?_) (fun h26 => ?_)
        · have hns := ite_f h26
          refine V_aload_n (i := 0) dX10_tidesUntilTrialIsStill_31 rfl rfl ?_
          refine V_getC (k := 4) (q := 36) dX10_tidesUntilTrialIsStill_32 (Or.inr ⟨rfl, Nat.le_of_ble_eq_true rfl⟩) rfl rfl rfl (Nat.le_of_ble_eq_true rfl) flRX10_32 ?_
          refine V_aload_n (i := 0) dX10_tidesUntilTrialIsStill_35 rfl rfl ?_
          refine V_getC (k := 1) (q := 4) dX10_tidesUntilTrialIsStill_36 (Or.inr ⟨rfl, Nat.le_of_ble_eq_true rfl⟩) rfl rfl rfl (Nat.le_of_ble_eq_true rfl) flRX10_16 ?_
          refine V_callVM dX10_tidesUntilTrialIsStill_39 (c_pass hR4 (by decide)) okX7_pass lkRX10_420 (Or.inr ⟨rfl, Nat.le_of_ble_eq_true rfl⟩) rfl rfl rfl rfl (Nat.le_of_ble_eq_true rfl) ⟨Nat.le_of_ble_eq_true rfl, Nat.le_of_ble_eq_true rfl⟩ rfl ?_
          intro u1 hu1
          refine V_iinc_n (b := (i + 1)) dX10_tidesUntilTrialIsStill_42 rfl (nI_add _ _) rfl rfl ?_
          refine V_goto (tgt := 13) dX10_tidesUntilTrialIsStill_45 (by decide) ?_
          exact ih (i + 1) u1 (by omega) (by omega) hu1.1 (by rw [tus_s, if_neg (by omega), if_neg hns]) (hF1.trans hu1.2)
        · have hst := ite_t h26
          refine V_iload_n (i := 1) dX10_tidesUntilTrialIsStill_29 rfl rfl ?_
          refine V_iret dX10_tidesUntilTrialIsStill_30 rfl rfl ?_
          exact ⟨by rw [tus_hit hti hst (by omega)], hF1⟩
  refine V_aload_n (i := 0) dX10_tidesUntilTrialIsStill_0 rfl rfl ?_
  refine V_getC (k := 1) (q := 4) dX10_tidesUntilTrialIsStill_1 (Or.inr ⟨rfl, Nat.le_of_ble_eq_true rfl⟩) rfl rfl rfl (Nat.le_of_ble_eq_true rfl) flRX10_16 ?_
  refine V_aload_n (i := 0) dX10_tidesUntilTrialIsStill_4 rfl rfl ?_
  refine V_getC (k := 0) (q := 1) dX10_tidesUntilTrialIsStill_5 (Or.inr ⟨rfl, Nat.le_of_ble_eq_true rfl⟩) rfl rfl rfl (Nat.le_of_ble_eq_true rfl) flRX10_10 ?_
  refine V_callVM dX10_tidesUntilTrialIsStill_8 (c_copyFrom st_4 hR (by decide)) okX8_copyFrom lkRX10_226 (Or.inr ⟨rfl, Nat.le_of_ble_eq_true rfl⟩) rfl rfl rfl rfl (Nat.le_of_ble_eq_true rfl) ⟨Nat.le_of_ble_eq_true rfl, Nat.le_of_ble_eq_true rfl⟩ rfl ?_
  intro u1 hu1
  refine V_iconst_n (v := 0) dX10_tidesUntilTrialIsStill_11 (by decide) ?_
  refine V_istore_n (i := 1) dX10_tidesUntilTrialIsStill_12 rfl (Nat.le_of_ble_eq_true rfl) rfl rfl ?_
  exact (lp 42 0 u1 (by omega) (by omega) hu1.1 rfl (hu1.2.mono fun b hb => Or.inl hb)).sub (by repeat' (first | exact trivial | exact rfl | constructor))
set_option maxRecDepth 100000 in
set_option maxHeartbeats 1000000 in
theorem c_tidesUntilStill {S : Sys} {w : Wd} (hC : CI w S) : Ct 1 MX10_tidesUntilStill 12 4 24 [.ref 0] w (PoF ["java/util/NoSuchElementException"] (fTidesUntilStill S) w) := by
  refine Ct_of (by decide +kernel) rfl (Nat.le_of_ble_eq_true rfl) rfl ?_
  refine V_aload_n (i := 0) dX10_tidesUntilStill_0 rfl rfl ?_
  refine V_callVM dX10_tidesUntilStill_1 (c_tidesUntilTrialIsStill hC.1.1) okX10_tidesUntilTrialIsStill lkRX10_233 (Or.inr ⟨rfl, Nat.le_of_ble_eq_true rfl⟩) rfl rfl rfl rfl (Nat.le_of_ble_eq_true rfl) ⟨Nat.le_of_ble_eq_true rfl, Nat.le_of_ble_eq_true rfl⟩ rfl ?_
  intro u1 hu1
  have htl := tus_le (s := S.1) 41
  refine V_istore_n (i := 1) dX10_tidesUntilStill_4 rfl (Nat.le_of_ble_eq_true rfl) rfl rfl ?_
  refine V_iload_n (i := 1) dX10_tidesUntilStill_5 rfl rfl ?_
  refine V_bipush_n (v := 40) dX10_tidesUntilStill_6 (by decide) ?_
  refine V_icmp_le_n (tgt := 21) dX10_tidesUntilStill_8 (by decide) (by omega) (by omega) (fun h8 => ?_) (fun h8 => ?_)
  · have hz : tus S.1 41 < 41 := by omega
    refine V_iload_n (i := 1) dX10_tidesUntilStill_21 rfl rfl ?_
    refine V_iret dX10_tidesUntilStill_22 rfl rfl ?_
    have e9 : fTidesUntilStill S = (0, nI (tus S.1 41), S) := by simp [fTidesUntilStill, fCell, fLive, q2, cl_nat, b2, hz]
    rw [e9]
    exact ⟨Or.inl ⟨rfl, rfl⟩, ⟨(hC.1.keep hu1 (fun b hb => by show ¬ (InSt 4 b ∨ InSt 37 b); unfold InSt; omega)), (hC.2.1.keep hu1 (fun b hb => by show ¬ (InSt 4 b ∨ InSt 37 b); unfold InSt; omega)), (hC.2.2.1.keep hu1 (fun b hb => by show ¬ (InSt 4 b ∨ InSt 37 b); unfold InSt; omega)), (hC.2.2.2.1.keep hu1 (fun b hb => by show ¬ (InSt 4 b ∨ InSt 37 b); unfold InSt; omega)), (hC.2.2.2.2.1.keep hu1 (fun b hb => by show ¬ (InSt 4 b ∨ InSt 37 b); unfold InSt; omega)), (hC.2.2.2.2.2.keep hu1 (fun b hb => by show ¬ (InSt 4 b ∨ InSt 37 b); unfold InSt; omega))⟩, (hu1.mono (fun b hb => by have hb2 : InSt 4 b ∨ InSt 37 b := hb; unfold InSt at hb2; unfold InC; omega))⟩
  · have hz : ¬ tus S.1 41 < 41 := by omega
    refine V_throwN dX10_tidesUntilStill_11 dX10_tidesUntilStill_14 dX10_tidesUntilStill_15 dX10_tidesUntilStill_17 dX10_tidesUntilStill_20 thr_NSE (List.mem_of_getElem? (i := 25) rfl) rfl (Nat.le_of_ble_eq_true rfl) (by decide) (by decide) ?_
    have e9 : fTidesUntilStill S = (1, 0, S) := by simp [fTidesUntilStill, fCell, fLive, q2, cl_nat, b2, hz]
    rw [e9]
    exact ⟨Or.inr ⟨Nat.le_of_ble_eq_true rfl, rfl⟩, ⟨(hC.1.keep hu1 (fun b hb => by show ¬ (InSt 4 b ∨ InSt 37 b); unfold InSt; omega)), (hC.2.1.keep hu1 (fun b hb => by show ¬ (InSt 4 b ∨ InSt 37 b); unfold InSt; omega)), (hC.2.2.1.keep hu1 (fun b hb => by show ¬ (InSt 4 b ∨ InSt 37 b); unfold InSt; omega)), (hC.2.2.2.1.keep hu1 (fun b hb => by show ¬ (InSt 4 b ∨ InSt 37 b); unfold InSt; omega)), (hC.2.2.2.2.1.keep hu1 (fun b hb => by show ¬ (InSt 4 b ∨ InSt 37 b); unfold InSt; omega)), (hC.2.2.2.2.2.keep hu1 (fun b hb => by show ¬ (InSt 4 b ∨ InSt 37 b); unfold InSt; omega))⟩, (hu1.mono (fun b hb => by have hb2 : InSt 4 b ∨ InSt 37 b := hb; unfold InSt at hb2; unfold InC; omega))⟩
end MFACE3
