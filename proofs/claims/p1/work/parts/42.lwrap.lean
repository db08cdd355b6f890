/-! THE LAW: its wrappers. Printed by wip/whole/gen/mk42.py. -/
section LWRAP2
def LwB (R : Res) (w : Wd) : Out → Wd → Prop := fun o w1 => o = Sum.inl (some (.int (nI R.1))) ∧ (R.1 = 0 → gL w1 65 0 = if R.2.1 = 0 then 0 else 1) ∧ CI w1 R.2.2 ∧ Fr InL w w1
def LwD (k : Nat) (v : UInt64) (S : Sys) (w : Wd) : Out → Wd → Prop := fun o w1 => o = Sum.inl (some (.int (nI k))) ∧ (k = 0 → gF w1 66 0 = v) ∧ CI w1 S ∧ Fr InL w w1
theorem gL_0 {u : Wd} {v : Int64} : gL (pL u 65 (nI 0).toNatClampNeg v) 65 0 = v := by rw [gL_pL]; exact if_pos ⟨rfl, by decide⟩
theorem gF_0 {u : Wd} {v : UInt64} : gF (pF u 66 (nI 0).toNatClampNeg v) 66 0 = v := by rw [gF_pF]; exact if_pos ⟨rfl, by decide⟩
theorem fpt_sh {S : Sys} (hk : fShareK S = 0) : vf_n64 (FP.f2d (fShareV S)) := by
  have h2 := @cnt_two S.1.1
  have h3 : ¬ cnt S.1.1 42 + cnt S.1.1 35 = 0 := fun q => by unfold fShareK at hk; rw [if_pos q] at hk; cases hk
  exact fpt3 (cnt S.1.1 42) (by omega) (cnt S.1.1 42 + cnt S.1.1 35) (by omega) (by omega)
theorem ExR_le {S : Sys} {R : Res} (h : ExR S R) : R.1 ≤ 3 := by
  rcases h with ⟨e, -, rfl⟩ | ⟨n, -, -, rfl⟩ | ⟨n, -, i, -, -, -, rfl⟩ | ⟨n, -, i, -, -, -, -, rfl⟩
  · exact Nat.le_of_ble_eq_true rfl
  · exact Nat.zero_le _
  · exact Nat.le_of_ble_eq_true rfl
  · exact Nat.le_of_ble_eq_true rfl
theorem le_place {r c : Int} {q : Nat} {S : Sys} : (fPlace S r c q).1 ≤ 3 := by
  unfold fPlace
  repeat' split
  all_goals first | exact Nat.zero_le _ | exact Nat.le_of_ble_eq_true rfl
set_option maxRecDepth 100000 in
set_option maxHeartbeats 1000000 in
theorem l_place {x y : Int32} {r c : Int} {q : Nat} {S : Sys} {w : Wd} (hC : CI w S) (hx : x = zI r) (hy : y = zI c) (r1 : -2147483648 ≤ r) (r2 : r < 2147483648) (c1 : -2147483648 ≤ c) (c2 : c < 2147483648) (hq : q < 65536) : Ct 1 ML_place 15 4 24 [.ref 0, .int x, .int y, .int (nI q), .ref 65] w (LwP (fPlace S r c q) w) := by
  refine Ct_ofH (by decide +kernel) rfl (Nat.le_of_ble_eq_true rfl) rfl ?_
  refine V_aload dL_place_0 rfl ?_
  refine V_iconst_n (v := 0) dL_place_2 (by decide) ?_
  refine V_aload_n (i := 0) dL_place_3 rfl rfl ?_
  refine V_iload_n (i := 1) dL_place_4 rfl rfl ?_
  refine V_iload_n (i := 2) dL_place_5 rfl rfl ?_
  refine V_iload_n (i := 3) dL_place_6 rfl rfl ?_
  refine V_callVH dL_place_7 (c_place hC hx hy r1 r2 c1 c2 hq) okX10_place lkRL_7 (Or.inr ⟨rfl, Nat.le_of_ble_eq_true rfl⟩) rfl rfl rfl rfl (Nat.le_of_ble_eq_true rfl) ⟨Nat.le_of_ble_eq_true rfl, Nat.le_of_ble_eq_true rfl⟩ ⟨by decide, by decide⟩ (fun v9 u1 hu1 => ?_) (fun E9 u1 hu1 => ?_)
  · rcases hu1 with ⟨⟨h0, e9⟩ | ⟨h0, e9⟩, hC1, hF1⟩
    · cases e9
      refine V_i2l dL_place_10 ?_
      refine V_last dL_place_11 (Or.inr ⟨rfl, Nat.le_of_ble_eq_true rfl⟩) rfl (in_n (by omega) (by decide)) ?_
      refine V_goto (tgt := 27) dL_place_12 (by decide) ?_
      refine V_iconst_n (v := 0) dL_place_27 (by decide) ?_
      refine V_iret dL_place_28 rfl rfl ?_
      exact ⟨by rw [h0], fun _ => gL_0, hC1.keepF (P := fun b => b = 65) (Fr.nil.l1 rfl) (fun b hb q => by omega), (hF1.mono (fun b hb => Or.inl hb)).trans ((Fr.nil (P := InL)).l1 (Or.inr (Or.inl rfl)))⟩
    · cases e9
  · rcases hu1 with ⟨⟨h0, e9⟩ | ⟨h0, e9⟩, hC1, hF1⟩
    · cases e9
    · have hle : (fPlace S r c q).1 ≤ 3 := le_place
      have hcs : (fPlace S r c q).1 = 1 ∨ (fPlace S r c q).1 = 2 ∨ (fPlace S r c q).1 = 3 := by omega
      rcases hcs with h1 | h1 | h1
      · rw [h1] at e9
        have e8 : E9 = "java/lang/IndexOutOfBoundsException" := Sum.inr.inj e9
        subst e8
        refine ⟨17, _, ⟨[], [(0, 12, 19, 15), (0, 12, 23, 17)], (0, 12, 15, 13), "java/lang/IndexOutOfBoundsException", 5, rfl, (List.forall_mem_nil _), ⟨by decide, by decide⟩, by decide, clRL_13, (List.mem_of_getElem? (i := 1) rfl), Nat.le_of_ble_eq_true rfl, rfl, rfl, rfl, Or.inl ⟨dL_place_15, rfl⟩⟩, ?_⟩
        refine V_iconst_n (v := 1) dL_place_17 (by decide) ?_
        refine V_iret dL_place_18 rfl rfl ?_
        exact ⟨by rw [h1], fun q => absurd q (by omega), hC1, hF1.mono (fun b hb => Or.inl hb)⟩
      · rw [h1] at e9
        have e8 : E9 = "java/lang/IllegalArgumentException" := Sum.inr.inj e9
        subst e8
        refine ⟨21, _, ⟨[(0, 12, 15, 13)], [(0, 12, 23, 17)], (0, 12, 19, 15), "java/lang/IllegalArgumentException", 5, rfl, (List.forall_mem_cons.mpr ⟨⟨by decide, "java/lang/IndexOutOfBoundsException", clRL_13, (List.mem_of_getElem? (i := 11) rfl)⟩, (List.forall_mem_nil _)⟩), ⟨by decide, by decide⟩, by decide, clRL_15, (List.mem_of_getElem? (i := 2) rfl), Nat.le_of_ble_eq_true rfl, rfl, rfl, rfl, Or.inl ⟨dL_place_19, rfl⟩⟩, ?_⟩
        refine V_iconst_n (v := 2) dL_place_21 (by decide) ?_
        refine V_iret dL_place_22 rfl rfl ?_
        exact ⟨by rw [h1], fun q => absurd q (by omega), hC1, hF1.mono (fun b hb => Or.inl hb)⟩
      · rw [h1] at e9
        have e8 : E9 = "java/lang/UnsupportedOperationException" := Sum.inr.inj e9
        subst e8
        refine ⟨25, _, ⟨[(0, 12, 15, 13), (0, 12, 19, 15)], [], (0, 12, 23, 17), "java/lang/UnsupportedOperationException", 5, rfl, (List.forall_mem_cons.mpr ⟨⟨by decide, "java/lang/IndexOutOfBoundsException", clRL_13, (List.mem_of_getElem? (i := 12) rfl)⟩, (List.forall_mem_cons.mpr ⟨⟨by decide, "java/lang/IllegalArgumentException", clRL_15, (List.mem_of_getElem? (i := 29) rfl)⟩, (List.forall_mem_nil _)⟩)⟩), ⟨by decide, by decide⟩, by decide, clRL_17, (List.mem_of_getElem? (i := 3) rfl), Nat.le_of_ble_eq_true rfl, rfl, rfl, rfl, Or.inl ⟨dL_place_23, rfl⟩⟩, ?_⟩
        refine V_iconst_n (v := 3) dL_place_25 (by decide) ?_
        refine V_iret dL_place_26 rfl rfl ?_
        exact ⟨by rw [h1], fun q => absurd q (by omega), hC1, hF1.mono (fun b hb => Or.inl hb)⟩
theorem le_remove {r c : Int} {S : Sys} : (fRemove S r c).1 ≤ 2 := by
  unfold fRemove
  repeat' split
  all_goals first | exact Nat.zero_le _ | exact Nat.le_of_ble_eq_true rfl
set_option maxRecDepth 100000 in
set_option maxHeartbeats 1000000 in
theorem l_remove {x y : Int32} {r c : Int} {S : Sys} {w : Wd} (hC : CI w S) (hx : x = zI r) (hy : y = zI c) (r1 : -2147483648 ≤ r) (r2 : r < 2147483648) (c1 : -2147483648 ≤ c) (c2 : c < 2147483648) : Ct 1 ML_remove 15 4 24 [.ref 0, .int x, .int y, .ref 65] w (LwP (fRemove S r c) w) := by
  refine Ct_ofH (by decide +kernel) rfl (Nat.le_of_ble_eq_true rfl) rfl ?_
  refine V_aload_n (i := 3) dL_remove_0 rfl rfl ?_
  refine V_iconst_n (v := 0) dL_remove_1 (by decide) ?_
  refine V_aload_n (i := 0) dL_remove_2 rfl rfl ?_
  refine V_iload_n (i := 1) dL_remove_3 rfl rfl ?_
  refine V_iload_n (i := 2) dL_remove_4 rfl rfl ?_
  refine V_callVH dL_remove_5 (c_remove hC hx hy r1 r2 c1 c2) okX10_remove lkRL_19 (Or.inr ⟨rfl, Nat.le_of_ble_eq_true rfl⟩) rfl rfl rfl rfl (Nat.le_of_ble_eq_true rfl) ⟨Nat.le_of_ble_eq_true rfl, Nat.le_of_ble_eq_true rfl⟩ ⟨by decide, by decide⟩ (fun v9 u1 hu1 => ?_) (fun E9 u1 hu1 => ?_)
  · rcases hu1 with ⟨⟨h0, e9⟩ | ⟨h0, e9⟩, hC1, hF1⟩
    · cases e9
      refine V_i2l dL_remove_8 ?_
      refine V_last dL_remove_9 (Or.inr ⟨rfl, Nat.le_of_ble_eq_true rfl⟩) rfl (in_n (by omega) (by decide)) ?_
      refine V_goto (tgt := 21) dL_remove_10 (by decide) ?_
      refine V_iconst_n (v := 0) dL_remove_21 (by decide) ?_
      refine V_iret dL_remove_22 rfl rfl ?_
      exact ⟨by rw [h0], fun _ => gL_0, hC1.keepF (P := fun b => b = 65) (Fr.nil.l1 rfl) (fun b hb q => by omega), (hF1.mono (fun b hb => Or.inl hb)).trans ((Fr.nil (P := InL)).l1 (Or.inr (Or.inl rfl)))⟩
    · cases e9
  · rcases hu1 with ⟨⟨h0, e9⟩ | ⟨h0, e9⟩, hC1, hF1⟩
    · cases e9
    · have hle : (fRemove S r c).1 ≤ 2 := le_remove
      have hcs : (fRemove S r c).1 = 1 ∨ (fRemove S r c).1 = 2 := by omega
      rcases hcs with h1 | h1
      · rw [h1] at e9
        have e8 : E9 = "java/lang/IndexOutOfBoundsException" := Sum.inr.inj e9
        subst e8
        refine ⟨15, _, ⟨[], [(0, 10, 17, 17)], (0, 10, 13, 13), "java/lang/IndexOutOfBoundsException", 4, rfl, (List.forall_mem_nil _), ⟨by decide, by decide⟩, by decide, clRL_13, (List.mem_of_getElem? (i := 1) rfl), Nat.le_of_ble_eq_true rfl, rfl, rfl, rfl, Or.inl ⟨dL_remove_13, rfl⟩⟩, ?_⟩
        refine V_iconst_n (v := 1) dL_remove_15 (by decide) ?_
        refine V_iret dL_remove_16 rfl rfl ?_
        exact ⟨by rw [h1], fun q => absurd q (by omega), hC1, hF1.mono (fun b hb => Or.inl hb)⟩
      · rw [h1] at e9
        have e8 : E9 = "java/lang/UnsupportedOperationException" := Sum.inr.inj e9
        subst e8
        refine ⟨19, _, ⟨[(0, 10, 13, 13)], [], (0, 10, 17, 17), "java/lang/UnsupportedOperationException", 4, rfl, (List.forall_mem_cons.mpr ⟨⟨by decide, "java/lang/IndexOutOfBoundsException", clRL_13, (List.mem_of_getElem? (i := 12) rfl)⟩, (List.forall_mem_nil _)⟩), ⟨by decide, by decide⟩, by decide, clRL_17, (List.mem_of_getElem? (i := 3) rfl), Nat.le_of_ble_eq_true rfl, rfl, rfl, rfl, Or.inl ⟨dL_remove_17, rfl⟩⟩, ?_⟩
        refine V_iconst_n (v := 2) dL_remove_19 (by decide) ?_
        refine V_iret dL_remove_20 rfl rfl ?_
        exact ⟨by rw [h1], fun q => absurd q (by omega), hC1, hF1.mono (fun b hb => Or.inl hb)⟩
theorem le_bleach {r c : Int} {S : Sys} : (fBleach S r c).1 ≤ 2 := by
  unfold fBleach
  repeat' split
  all_goals first | exact Nat.zero_le _ | exact Nat.le_of_ble_eq_true rfl
set_option maxRecDepth 100000 in
set_option maxHeartbeats 1000000 in
theorem l_bleach {x y : Int32} {r c : Int} {S : Sys} {w : Wd} (hC : CI w S) (hx : x = zI r) (hy : y = zI c) (r1 : -2147483648 ≤ r) (r2 : r < 2147483648) (c1 : -2147483648 ≤ c) (c2 : c < 2147483648) : Ct 1 ML_bleach 15 4 24 [.ref 0, .int x, .int y, .ref 65] w (LwP (fBleach S r c) w) := by
  refine Ct_ofH (by decide +kernel) rfl (Nat.le_of_ble_eq_true rfl) rfl ?_
  refine V_aload_n (i := 3) dL_bleach_0 rfl rfl ?_
  refine V_iconst_n (v := 0) dL_bleach_1 (by decide) ?_
  refine V_aload_n (i := 0) dL_bleach_2 rfl rfl ?_
  refine V_iload_n (i := 1) dL_bleach_3 rfl rfl ?_
  refine V_iload_n (i := 2) dL_bleach_4 rfl rfl ?_
  refine V_callVH dL_bleach_5 (c_bleach hC hx hy r1 r2 c1 c2) okX10_bleach lkRL_23 (Or.inr ⟨rfl, Nat.le_of_ble_eq_true rfl⟩) rfl rfl rfl rfl (Nat.le_of_ble_eq_true rfl) ⟨Nat.le_of_ble_eq_true rfl, Nat.le_of_ble_eq_true rfl⟩ ⟨by decide, by decide⟩ (fun v9 u1 hu1 => ?_) (fun E9 u1 hu1 => ?_)
  · rcases hu1 with ⟨⟨h0, e9⟩ | ⟨h0, e9⟩, hC1, hF1⟩
    · cases e9
      refine V_i2l dL_bleach_8 ?_
      refine V_last dL_bleach_9 (Or.inr ⟨rfl, Nat.le_of_ble_eq_true rfl⟩) rfl (in_n (by omega) (by decide)) ?_
      refine V_goto (tgt := 21) dL_bleach_10 (by decide) ?_
      refine V_iconst_n (v := 0) dL_bleach_21 (by decide) ?_
      refine V_iret dL_bleach_22 rfl rfl ?_
      exact ⟨by rw [h0], fun _ => gL_0, hC1.keepF (P := fun b => b = 65) (Fr.nil.l1 rfl) (fun b hb q => by omega), (hF1.mono (fun b hb => Or.inl hb)).trans ((Fr.nil (P := InL)).l1 (Or.inr (Or.inl rfl)))⟩
    · cases e9
  · rcases hu1 with ⟨⟨h0, e9⟩ | ⟨h0, e9⟩, hC1, hF1⟩
    · cases e9
    · have hle : (fBleach S r c).1 ≤ 2 := le_bleach
      have hcs : (fBleach S r c).1 = 1 ∨ (fBleach S r c).1 = 2 := by omega
      rcases hcs with h1 | h1
      · rw [h1] at e9
        have e8 : E9 = "java/lang/IndexOutOfBoundsException" := Sum.inr.inj e9
        subst e8
        refine ⟨15, _, ⟨[], [(0, 10, 17, 17)], (0, 10, 13, 13), "java/lang/IndexOutOfBoundsException", 4, rfl, (List.forall_mem_nil _), ⟨by decide, by decide⟩, by decide, clRL_13, (List.mem_of_getElem? (i := 1) rfl), Nat.le_of_ble_eq_true rfl, rfl, rfl, rfl, Or.inl ⟨dL_bleach_13, rfl⟩⟩, ?_⟩
        refine V_iconst_n (v := 1) dL_bleach_15 (by decide) ?_
        refine V_iret dL_bleach_16 rfl rfl ?_
        exact ⟨by rw [h1], fun q => absurd q (by omega), hC1, hF1.mono (fun b hb => Or.inl hb)⟩
      · rw [h1] at e9
        have e8 : E9 = "java/lang/UnsupportedOperationException" := Sum.inr.inj e9
        subst e8
        refine ⟨19, _, ⟨[(0, 10, 13, 13)], [], (0, 10, 17, 17), "java/lang/UnsupportedOperationException", 4, rfl, (List.forall_mem_cons.mpr ⟨⟨by decide, "java/lang/IndexOutOfBoundsException", clRL_13, (List.mem_of_getElem? (i := 12) rfl)⟩, (List.forall_mem_nil _)⟩), ⟨by decide, by decide⟩, by decide, clRL_17, (List.mem_of_getElem? (i := 3) rfl), Nat.le_of_ble_eq_true rfl, rfl, rfl, rfl, Or.inl ⟨dL_bleach_17, rfl⟩⟩, ?_⟩
        refine V_iconst_n (v := 2) dL_bleach_19 (by decide) ?_
        refine V_iret dL_bleach_20 rfl rfl ?_
        exact ⟨by rw [h1], fun q => absurd q (by omega), hC1, hF1.mono (fun b hb => Or.inl hb)⟩
theorem le_recolour {r c : Int} {q : Nat} {S : Sys} : (fRecolour S r c q).1 ≤ 3 := by
  unfold fRecolour
  repeat' split
  all_goals first | exact Nat.zero_le _ | exact Nat.le_of_ble_eq_true rfl
set_option maxRecDepth 100000 in
set_option maxHeartbeats 1000000 in
theorem l_recolour {x y : Int32} {r c : Int} {q : Nat} {S : Sys} {w : Wd} (hC : CI w S) (hx : x = zI r) (hy : y = zI c) (r1 : -2147483648 ≤ r) (r2 : r < 2147483648) (c1 : -2147483648 ≤ c) (c2 : c < 2147483648) (hq : q < 65536) : Ct 1 ML_recolour 15 4 24 [.ref 0, .int x, .int y, .int (nI q), .ref 65] w (LwP (fRecolour S r c q) w) := by
  refine Ct_ofH (by decide +kernel) rfl (Nat.le_of_ble_eq_true rfl) rfl ?_
  refine V_aload dL_recolour_0 rfl ?_
  refine V_iconst_n (v := 0) dL_recolour_2 (by decide) ?_
  refine V_aload_n (i := 0) dL_recolour_3 rfl rfl ?_
  refine V_iload_n (i := 1) dL_recolour_4 rfl rfl ?_
  refine V_iload_n (i := 2) dL_recolour_5 rfl rfl ?_
  refine V_iload_n (i := 3) dL_recolour_6 rfl rfl ?_
  refine V_callVH dL_recolour_7 (c_recolour hC hx hy r1 r2 c1 c2 hq) okX10_recolour lkRL_26 (Or.inr ⟨rfl, Nat.le_of_ble_eq_true rfl⟩) rfl rfl rfl rfl (Nat.le_of_ble_eq_true rfl) ⟨Nat.le_of_ble_eq_true rfl, Nat.le_of_ble_eq_true rfl⟩ ⟨by decide, by decide⟩ (fun v9 u1 hu1 => ?_) (fun E9 u1 hu1 => ?_)
  · rcases hu1 with ⟨⟨h0, e9⟩ | ⟨h0, e9⟩, hC1, hF1⟩
    · cases e9
      refine V_i2l dL_recolour_10 ?_
      refine V_last dL_recolour_11 (Or.inr ⟨rfl, Nat.le_of_ble_eq_true rfl⟩) rfl (in_n (by omega) (by decide)) ?_
      refine V_goto (tgt := 27) dL_recolour_12 (by decide) ?_
      refine V_iconst_n (v := 0) dL_recolour_27 (by decide) ?_
      refine V_iret dL_recolour_28 rfl rfl ?_
      exact ⟨by rw [h0], fun _ => gL_0, hC1.keepF (P := fun b => b = 65) (Fr.nil.l1 rfl) (fun b hb q => by omega), (hF1.mono (fun b hb => Or.inl hb)).trans ((Fr.nil (P := InL)).l1 (Or.inr (Or.inl rfl)))⟩
    · cases e9
  · rcases hu1 with ⟨⟨h0, e9⟩ | ⟨h0, e9⟩, hC1, hF1⟩
    · cases e9
    · have hle : (fRecolour S r c q).1 ≤ 3 := le_recolour
      have hcs : (fRecolour S r c q).1 = 1 ∨ (fRecolour S r c q).1 = 2 ∨ (fRecolour S r c q).1 = 3 := by omega
      rcases hcs with h1 | h1 | h1
      · rw [h1] at e9
        have e8 : E9 = "java/lang/IndexOutOfBoundsException" := Sum.inr.inj e9
        subst e8
        refine ⟨17, _, ⟨[], [(0, 12, 19, 15), (0, 12, 23, 17)], (0, 12, 15, 13), "java/lang/IndexOutOfBoundsException", 5, rfl, (List.forall_mem_nil _), ⟨by decide, by decide⟩, by decide, clRL_13, (List.mem_of_getElem? (i := 1) rfl), Nat.le_of_ble_eq_true rfl, rfl, rfl, rfl, Or.inl ⟨dL_recolour_15, rfl⟩⟩, ?_⟩
        refine V_iconst_n (v := 1) dL_recolour_17 (by decide) ?_
        refine V_iret dL_recolour_18 rfl rfl ?_
        exact ⟨by rw [h1], fun q => absurd q (by omega), hC1, hF1.mono (fun b hb => Or.inl hb)⟩
      · rw [h1] at e9
        have e8 : E9 = "java/lang/IllegalArgumentException" := Sum.inr.inj e9
        subst e8
        refine ⟨21, _, ⟨[(0, 12, 15, 13)], [(0, 12, 23, 17)], (0, 12, 19, 15), "java/lang/IllegalArgumentException", 5, rfl, (List.forall_mem_cons.mpr ⟨⟨by decide, "java/lang/IndexOutOfBoundsException", clRL_13, (List.mem_of_getElem? (i := 11) rfl)⟩, (List.forall_mem_nil _)⟩), ⟨by decide, by decide⟩, by decide, clRL_15, (List.mem_of_getElem? (i := 2) rfl), Nat.le_of_ble_eq_true rfl, rfl, rfl, rfl, Or.inl ⟨dL_recolour_19, rfl⟩⟩, ?_⟩
        refine V_iconst_n (v := 2) dL_recolour_21 (by decide) ?_
        refine V_iret dL_recolour_22 rfl rfl ?_
        exact ⟨by rw [h1], fun q => absurd q (by omega), hC1, hF1.mono (fun b hb => Or.inl hb)⟩
      · rw [h1] at e9
        have e8 : E9 = "java/lang/UnsupportedOperationException" := Sum.inr.inj e9
        subst e8
        refine ⟨25, _, ⟨[(0, 12, 15, 13), (0, 12, 19, 15)], [], (0, 12, 23, 17), "java/lang/UnsupportedOperationException", 5, rfl, (List.forall_mem_cons.mpr ⟨⟨by decide, "java/lang/IndexOutOfBoundsException", clRL_13, (List.mem_of_getElem? (i := 12) rfl)⟩, (List.forall_mem_cons.mpr ⟨⟨by decide, "java/lang/IllegalArgumentException", clRL_15, (List.mem_of_getElem? (i := 29) rfl)⟩, (List.forall_mem_nil _)⟩)⟩), ⟨by decide, by decide⟩, by decide, clRL_17, (List.mem_of_getElem? (i := 3) rfl), Nat.le_of_ble_eq_true rfl, rfl, rfl, rfl, Or.inl ⟨dL_recolour_23, rfl⟩⟩, ?_⟩
        refine V_iconst_n (v := 3) dL_recolour_25 (by decide) ?_
        refine V_iret dL_recolour_26 rfl rfl ?_
        exact ⟨by rw [h1], fun q => absurd q (by omega), hC1, hF1.mono (fun b hb => Or.inl hb)⟩
theorem le_plant {r c : Int} {pt q : Nat} {S : Sys} : (fPlant S r c pt q).1 ≤ 3 := by
  unfold fPlant
  repeat' split
  all_goals first | exact Nat.zero_le _ | exact Nat.le_of_ble_eq_true rfl
set_option maxRecDepth 100000 in
set_option maxHeartbeats 1000000 in
theorem l_plant {x y : Int32} {r c : Int} {pt q : Nat} {S : Sys} {w : Wd} (hC : CI w S) (hx : x = zI r) (hy : y = zI c) (r1 : -2147483648 ≤ r) (r2 : r < 2147483648) (c1 : -2147483648 ≤ c) (c2 : c < 2147483648) (hpt : pt < 65536) (hq : q < 65536) : Ct 1 ML_plant 15 4 24 [.ref 0, .int x, .int y, .int (nI pt), .int (nI q), .ref 65] w (LwP (fPlant S r c pt q) w) := by
  refine Ct_ofH (by decide +kernel) rfl (Nat.le_of_ble_eq_true rfl) rfl ?_
  refine V_aload dL_plant_0 rfl ?_
  refine V_iconst_n (v := 0) dL_plant_2 (by decide) ?_
  refine V_aload_n (i := 0) dL_plant_3 rfl rfl ?_
  refine V_iload_n (i := 1) dL_plant_4 rfl rfl ?_
  refine V_iload_n (i := 2) dL_plant_5 rfl rfl ?_
  refine V_iload_n (i := 3) dL_plant_6 rfl rfl ?_
  refine V_iload dL_plant_7 rfl ?_
  refine V_callVH dL_plant_9 (c_plant hC hx hy r1 r2 c1 c2 hpt hq) okX10_plant lkRL_30 (Or.inr ⟨rfl, Nat.le_of_ble_eq_true rfl⟩) rfl rfl rfl rfl (Nat.le_of_ble_eq_true rfl) ⟨Nat.le_of_ble_eq_true rfl, Nat.le_of_ble_eq_true rfl⟩ ⟨by decide, by decide⟩ (fun v9 u1 hu1 => ?_) (fun E9 u1 hu1 => ?_)
  · rcases hu1 with ⟨⟨h0, e9⟩ | ⟨h0, e9⟩, hC1, hF1⟩
    · cases e9
      refine V_i2l dL_plant_12 ?_
      refine V_last dL_plant_13 (Or.inr ⟨rfl, Nat.le_of_ble_eq_true rfl⟩) rfl (in_n (by omega) (by decide)) ?_
      refine V_goto (tgt := 29) dL_plant_14 (by decide) ?_
      refine V_iconst_n (v := 0) dL_plant_29 (by decide) ?_
      refine V_iret dL_plant_30 rfl rfl ?_
      exact ⟨by rw [h0], fun _ => gL_0, hC1.keepF (P := fun b => b = 65) (Fr.nil.l1 rfl) (fun b hb q => by omega), (hF1.mono (fun b hb => Or.inl hb)).trans ((Fr.nil (P := InL)).l1 (Or.inr (Or.inl rfl)))⟩
    · cases e9
  · rcases hu1 with ⟨⟨h0, e9⟩ | ⟨h0, e9⟩, hC1, hF1⟩
    · cases e9
    · have hle : (fPlant S r c pt q).1 ≤ 3 := le_plant
      have hcs : (fPlant S r c pt q).1 = 1 ∨ (fPlant S r c pt q).1 = 2 ∨ (fPlant S r c pt q).1 = 3 := by omega
      rcases hcs with h1 | h1 | h1
      · rw [h1] at e9
        have e8 : E9 = "java/lang/IndexOutOfBoundsException" := Sum.inr.inj e9
        subst e8
        refine ⟨19, _, ⟨[], [(0, 14, 21, 15), (0, 14, 25, 17)], (0, 14, 17, 13), "java/lang/IndexOutOfBoundsException", 6, rfl, (List.forall_mem_nil _), ⟨by decide, by decide⟩, by decide, clRL_13, (List.mem_of_getElem? (i := 1) rfl), Nat.le_of_ble_eq_true rfl, rfl, rfl, rfl, Or.inl ⟨dL_plant_17, rfl⟩⟩, ?_⟩
        refine V_iconst_n (v := 1) dL_plant_19 (by decide) ?_
        refine V_iret dL_plant_20 rfl rfl ?_
        exact ⟨by rw [h1], fun q => absurd q (by omega), hC1, hF1.mono (fun b hb => Or.inl hb)⟩
      · rw [h1] at e9
        have e8 : E9 = "java/lang/IllegalArgumentException" := Sum.inr.inj e9
        subst e8
        refine ⟨23, _, ⟨[(0, 14, 17, 13)], [(0, 14, 25, 17)], (0, 14, 21, 15), "java/lang/IllegalArgumentException", 6, rfl, (List.forall_mem_cons.mpr ⟨⟨by decide, "java/lang/IndexOutOfBoundsException", clRL_13, (List.mem_of_getElem? (i := 11) rfl)⟩, (List.forall_mem_nil _)⟩), ⟨by decide, by decide⟩, by decide, clRL_15, (List.mem_of_getElem? (i := 2) rfl), Nat.le_of_ble_eq_true rfl, rfl, rfl, rfl, Or.inl ⟨dL_plant_21, rfl⟩⟩, ?_⟩
        refine V_iconst_n (v := 2) dL_plant_23 (by decide) ?_
        refine V_iret dL_plant_24 rfl rfl ?_
        exact ⟨by rw [h1], fun q => absurd q (by omega), hC1, hF1.mono (fun b hb => Or.inl hb)⟩
      · rw [h1] at e9
        have e8 : E9 = "java/lang/UnsupportedOperationException" := Sum.inr.inj e9
        subst e8
        refine ⟨27, _, ⟨[(0, 14, 17, 13), (0, 14, 21, 15)], [], (0, 14, 25, 17), "java/lang/UnsupportedOperationException", 6, rfl, (List.forall_mem_cons.mpr ⟨⟨by decide, "java/lang/IndexOutOfBoundsException", clRL_13, (List.mem_of_getElem? (i := 12) rfl)⟩, (List.forall_mem_cons.mpr ⟨⟨by decide, "java/lang/IllegalArgumentException", clRL_15, (List.mem_of_getElem? (i := 29) rfl)⟩, (List.forall_mem_nil _)⟩)⟩), ⟨by decide, by decide⟩, by decide, clRL_17, (List.mem_of_getElem? (i := 3) rfl), Nat.le_of_ble_eq_true rfl, rfl, rfl, rfl, Or.inl ⟨dL_plant_25, rfl⟩⟩, ?_⟩
        refine V_iconst_n (v := 3) dL_plant_27 (by decide) ?_
        refine V_iret dL_plant_28 rfl rfl ?_
        exact ⟨by rw [h1], fun q => absurd q (by omega), hC1, hF1.mono (fun b hb => Or.inl hb)⟩
theorem le_setRule {q : Nat} {S : Sys} : (fSetRule S q).1 ≤ 2 := by
  unfold fSetRule
  repeat' split
  all_goals first | exact Nat.zero_le _ | exact Nat.le_of_ble_eq_true rfl
set_option maxRecDepth 100000 in
set_option maxHeartbeats 1000000 in
theorem l_setRule {q : Nat} {S : Sys} {w : Wd} (hC : CI w S) (hq : q < 65536) : Ct 1 ML_setRule 15 4 24 [.ref 0, .int (nI q), .ref 65] w (LwP (fSetRule S q) w) := by
  refine Ct_ofH (by decide +kernel) rfl (Nat.le_of_ble_eq_true rfl) rfl ?_
  refine V_aload_n (i := 2) dL_setRule_0 rfl rfl ?_
  refine V_iconst_n (v := 0) dL_setRule_1 (by decide) ?_
  refine V_aload_n (i := 0) dL_setRule_2 rfl rfl ?_
  refine V_iload_n (i := 1) dL_setRule_3 rfl rfl ?_
  refine V_callVH dL_setRule_4 (c_setRule hC hq) okX10_setRule lkRL_34 (Or.inr ⟨rfl, Nat.le_of_ble_eq_true rfl⟩) rfl rfl rfl rfl (Nat.le_of_ble_eq_true rfl) ⟨Nat.le_of_ble_eq_true rfl, Nat.le_of_ble_eq_true rfl⟩ ⟨by decide, by decide⟩ (fun v9 u1 hu1 => ?_) (fun E9 u1 hu1 => ?_)
  · rcases hu1 with ⟨⟨h0, e9⟩ | ⟨h0, e9⟩, hC1, hF1⟩
    · cases e9
      refine V_i2l dL_setRule_7 ?_
      refine V_last dL_setRule_8 (Or.inr ⟨rfl, Nat.le_of_ble_eq_true rfl⟩) rfl (in_n (by omega) (by decide)) ?_
      refine V_goto (tgt := 18) dL_setRule_9 (by decide) ?_
      refine V_iconst_n (v := 0) dL_setRule_18 (by decide) ?_
      refine V_iret dL_setRule_19 rfl rfl ?_
      exact ⟨by rw [h0], fun _ => gL_0, hC1.keepF (P := fun b => b = 65) (Fr.nil.l1 rfl) (fun b hb q => by omega), (hF1.mono (fun b hb => Or.inl hb)).trans ((Fr.nil (P := InL)).l1 (Or.inr (Or.inl rfl)))⟩
    · cases e9
  · rcases hu1 with ⟨⟨h0, e9⟩ | ⟨h0, e9⟩, hC1, hF1⟩
    · cases e9
    · have hle : (fSetRule S q).1 ≤ 2 := le_setRule
      have hcs : (fSetRule S q).1 = 1 ∨ (fSetRule S q).1 = 2 := by omega
      rcases hcs with h1 | h1
      · rw [h1] at e9
        have e8 : E9 = "java/lang/IllegalArgumentException" := Sum.inr.inj e9
        subst e8
        refine ⟨13, _, ⟨[], [(0, 9, 15, 17)], (0, 9, 12, 15), "java/lang/IllegalArgumentException", 3, rfl, (List.forall_mem_nil _), ⟨by decide, by decide⟩, by decide, clRL_15, (List.mem_of_getElem? (i := 2) rfl), Nat.le_of_ble_eq_true rfl, rfl, rfl, rfl, Or.inr ⟨3, rfl, dL_setRule_12, rfl⟩⟩, ?_⟩
        refine V_iconst_n (v := 1) dL_setRule_13 (by decide) ?_
        refine V_iret dL_setRule_14 rfl rfl ?_
        exact ⟨by rw [h1], fun q => absurd q (by omega), hC1, hF1.mono (fun b hb => Or.inl hb)⟩
      · rw [h1] at e9
        have e8 : E9 = "java/lang/UnsupportedOperationException" := Sum.inr.inj e9
        subst e8
        refine ⟨16, _, ⟨[(0, 9, 12, 15)], [], (0, 9, 15, 17), "java/lang/UnsupportedOperationException", 3, rfl, (List.forall_mem_cons.mpr ⟨⟨by decide, "java/lang/IllegalArgumentException", clRL_15, (List.mem_of_getElem? (i := 29) rfl)⟩, (List.forall_mem_nil _)⟩), ⟨by decide, by decide⟩, by decide, clRL_17, (List.mem_of_getElem? (i := 3) rfl), Nat.le_of_ble_eq_true rfl, rfl, rfl, rfl, Or.inr ⟨3, rfl, dL_setRule_15, rfl⟩⟩, ?_⟩
        refine V_iconst_n (v := 2) dL_setRule_16 (by decide) ?_
        refine V_iret dL_setRule_17 rfl rfl ?_
        exact ⟨by rw [h1], fun q => absurd q (by omega), hC1, hF1.mono (fun b hb => Or.inl hb)⟩
theorem le_isEmpty {r c : Int} {S : Sys} : (fIsEmpty S r c).1 ≤ 1 := by
  unfold fIsEmpty fCell
  repeat' split
  all_goals first | exact Nat.zero_le _ | exact Nat.le_of_ble_eq_true rfl
set_option maxRecDepth 100000 in
set_option maxHeartbeats 1000000 in
theorem l_isEmpty {x y : Int32} {r c : Int} {S : Sys} {w : Wd} (hC : CI w S) (hx : x = zI r) (hy : y = zI c) (r1 : -2147483648 ≤ r) (r2 : r < 2147483648) (c1 : -2147483648 ≤ c) (c2 : c < 2147483648) : Ct 1 ML_isEmpty 15 4 24 [.ref 0, .int x, .int y, .ref 65] w (LwB (fIsEmpty S r c) w) := by
  refine Ct_ofH (by decide +kernel) rfl (Nat.le_of_ble_eq_true rfl) rfl ?_
  refine V_aload_n (i := 3) dL_isEmpty_0 rfl rfl ?_
  refine V_iconst_n (v := 0) dL_isEmpty_1 (by decide) ?_
  refine V_aload_n (i := 0) dL_isEmpty_2 rfl rfl ?_
  refine V_iload_n (i := 1) dL_isEmpty_3 rfl rfl ?_
  refine V_iload_n (i := 2) dL_isEmpty_4 rfl rfl ?_
  refine V_callVH dL_isEmpty_5 (c_isEmpty hC hx hy r1 r2 c1 c2) okX10_isEmpty lkRL_38 (Or.inr ⟨rfl, Nat.le_of_ble_eq_true rfl⟩) rfl rfl rfl rfl (Nat.le_of_ble_eq_true rfl) ⟨Nat.le_of_ble_eq_true rfl, Nat.le_of_ble_eq_true rfl⟩ ⟨by decide, by decide⟩ (fun v9 u1 hu1 => ?_) (fun E9 u1 hu1 => ?_)
  · rcases hu1 with ⟨⟨h0, e9⟩ | ⟨h0, e9⟩, hC1, hF1⟩
    · cases e9
      refine V_if_eq (tgt := 15) dL_isEmpty_8 (by decide) (fun h8 => ?_) (fun h8 => ?_)
      · have hz9 : (fIsEmpty S r c).2.1 = 0 := h8
        refine V_lconst (v := 0) dL_isEmpty_15 rfl ?_
        refine V_last dL_isEmpty_16 (Or.inr ⟨rfl, Nat.le_of_ble_eq_true rfl⟩) rfl (in_n (by omega) (by decide)) ?_
        refine V_goto (tgt := 24) dL_isEmpty_17 (by decide) ?_
        refine V_iconst_n (v := 0) dL_isEmpty_24 (by decide) ?_
        refine V_iret dL_isEmpty_25 rfl rfl ?_
        exact ⟨by rw [h0], fun _ => by rw [if_pos hz9]; exact gL_0, hC1.keepF (P := fun b => b = 65) (Fr.nil.l1 rfl) (fun b hb q => by omega), (hF1.mono (fun b hb => Or.inl hb)).trans ((Fr.nil (P := InL)).l1 (Or.inr (Or.inl rfl)))⟩
      · have hz9 : ¬ (fIsEmpty S r c).2.1 = 0 := h8
        refine V_lconst (v := 1) dL_isEmpty_11 rfl ?_
        refine V_goto (tgt := 16) dL_isEmpty_12 (by decide) ?_
        refine V_last dL_isEmpty_16 (Or.inr ⟨rfl, Nat.le_of_ble_eq_true rfl⟩) rfl (in_n (by omega) (by decide)) ?_
        refine V_goto (tgt := 24) dL_isEmpty_17 (by decide) ?_
        refine V_iconst_n (v := 0) dL_isEmpty_24 (by decide) ?_
        refine V_iret dL_isEmpty_25 rfl rfl ?_
        exact ⟨by rw [h0], fun _ => by rw [if_neg hz9]; exact gL_0, hC1.keepF (P := fun b => b = 65) (Fr.nil.l1 rfl) (fun b hb q => by omega), (hF1.mono (fun b hb => Or.inl hb)).trans ((Fr.nil (P := InL)).l1 (Or.inr (Or.inl rfl)))⟩
    · cases e9
  · rcases hu1 with ⟨⟨h0, e9⟩ | ⟨h0, e9⟩, hC1, hF1⟩
    · cases e9
    · have hle : (fIsEmpty S r c).1 ≤ 1 := le_isEmpty
      have hcs : (fIsEmpty S r c).1 = 1 := by omega
      have h1 := hcs
      rw [h1] at e9
      have e8 : E9 = "java/lang/IndexOutOfBoundsException" := Sum.inr.inj e9
      subst e8
      refine ⟨22, _, ⟨[], [], (0, 17, 20, 13), "java/lang/IndexOutOfBoundsException", 4, rfl, (List.forall_mem_nil _), ⟨by decide, by decide⟩, by decide, clRL_13, (List.mem_of_getElem? (i := 1) rfl), Nat.le_of_ble_eq_true rfl, rfl, rfl, rfl, Or.inl ⟨dL_isEmpty_20, rfl⟩⟩, ?_⟩
      refine V_iconst_n (v := 1) dL_isEmpty_22 (by decide) ?_
      refine V_iret dL_isEmpty_23 rfl rfl ?_
      exact ⟨by rw [h1], fun q => absurd q (by omega), hC1, hF1.mono (fun b hb => Or.inl hb)⟩
theorem le_isLiving {r c : Int} {S : Sys} : (fIsLiving S r c).1 ≤ 1 := by
  unfold fIsLiving fCell
  repeat' split
  all_goals first | exact Nat.zero_le _ | exact Nat.le_of_ble_eq_true rfl
set_option maxRecDepth 100000 in
set_option maxHeartbeats 1000000 in
theorem l_isLiving {x y : Int32} {r c : Int} {S : Sys} {w : Wd} (hC : CI w S) (hx : x = zI r) (hy : y = zI c) (r1 : -2147483648 ≤ r) (r2 : r < 2147483648) (c1 : -2147483648 ≤ c) (c2 : c < 2147483648) : Ct 1 ML_isLiving 15 4 24 [.ref 0, .int x, .int y, .ref 65] w (LwB (fIsLiving S r c) w) := by
  refine Ct_ofH (by decide +kernel) rfl (Nat.le_of_ble_eq_true rfl) rfl ?_
  refine V_aload_n (i := 3) dL_isLiving_0 rfl rfl ?_
  refine V_iconst_n (v := 0) dL_isLiving_1 (by decide) ?_
  refine V_aload_n (i := 0) dL_isLiving_2 rfl rfl ?_
  refine V_iload_n (i := 1) dL_isLiving_3 rfl rfl ?_
  refine V_iload_n (i := 2) dL_isLiving_4 rfl rfl ?_
  refine V_callVH dL_isLiving_5 (c_isLiving hC hx hy r1 r2 c1 c2) okX10_isLiving lkRL_42 (Or.inr ⟨rfl, Nat.le_of_ble_eq_true rfl⟩) rfl rfl rfl rfl (Nat.le_of_ble_eq_true rfl) ⟨Nat.le_of_ble_eq_true rfl, Nat.le_of_ble_eq_true rfl⟩ ⟨by decide, by decide⟩ (fun v9 u1 hu1 => ?_) (fun E9 u1 hu1 => ?_)
  · rcases hu1 with ⟨⟨h0, e9⟩ | ⟨h0, e9⟩, hC1, hF1⟩
    · cases e9
      refine V_if_eq (tgt := 15) dL_isLiving_8 (by decide) (fun h8 => ?_) (fun h8 => ?_)
      · have hz9 : (fIsLiving S r c).2.1 = 0 := h8
        refine V_lconst (v := 0) dL_isLiving_15 rfl ?_
        refine V_last dL_isLiving_16 (Or.inr ⟨rfl, Nat.le_of_ble_eq_true rfl⟩) rfl (in_n (by omega) (by decide)) ?_
        refine V_goto (tgt := 24) dL_isLiving_17 (by decide) ?_
        refine V_iconst_n (v := 0) dL_isLiving_24 (by decide) ?_
        refine V_iret dL_isLiving_25 rfl rfl ?_
        exact ⟨by rw [h0], fun _ => by rw [if_pos hz9]; exact gL_0, hC1.keepF (P := fun b => b = 65) (Fr.nil.l1 rfl) (fun b hb q => by omega), (hF1.mono (fun b hb => Or.inl hb)).trans ((Fr.nil (P := InL)).l1 (Or.inr (Or.inl rfl)))⟩
      · have hz9 : ¬ (fIsLiving S r c).2.1 = 0 := h8
        refine V_lconst (v := 1) dL_isLiving_11 rfl ?_
        refine V_goto (tgt := 16) dL_isLiving_12 (by decide) ?_
        refine V_last dL_isLiving_16 (Or.inr ⟨rfl, Nat.le_of_ble_eq_true rfl⟩) rfl (in_n (by omega) (by decide)) ?_
        refine V_goto (tgt := 24) dL_isLiving_17 (by decide) ?_
        refine V_iconst_n (v := 0) dL_isLiving_24 (by decide) ?_
        refine V_iret dL_isLiving_25 rfl rfl ?_
        exact ⟨by rw [h0], fun _ => by rw [if_neg hz9]; exact gL_0, hC1.keepF (P := fun b => b = 65) (Fr.nil.l1 rfl) (fun b hb q => by omega), (hF1.mono (fun b hb => Or.inl hb)).trans ((Fr.nil (P := InL)).l1 (Or.inr (Or.inl rfl)))⟩
    · cases e9
  · rcases hu1 with ⟨⟨h0, e9⟩ | ⟨h0, e9⟩, hC1, hF1⟩
    · cases e9
    · have hle : (fIsLiving S r c).1 ≤ 1 := le_isLiving
      have hcs : (fIsLiving S r c).1 = 1 := by omega
      have h1 := hcs
      rw [h1] at e9
      have e8 : E9 = "java/lang/IndexOutOfBoundsException" := Sum.inr.inj e9
      subst e8
      refine ⟨22, _, ⟨[], [], (0, 17, 20, 13), "java/lang/IndexOutOfBoundsException", 4, rfl, (List.forall_mem_nil _), ⟨by decide, by decide⟩, by decide, clRL_13, (List.mem_of_getElem? (i := 1) rfl), Nat.le_of_ble_eq_true rfl, rfl, rfl, rfl, Or.inl ⟨dL_isLiving_20, rfl⟩⟩, ?_⟩
      refine V_iconst_n (v := 1) dL_isLiving_22 (by decide) ?_
      refine V_iret dL_isLiving_23 rfl rfl ?_
      exact ⟨by rw [h1], fun q => absurd q (by omega), hC1, hF1.mono (fun b hb => Or.inl hb)⟩
theorem le_isBleached {r c : Int} {S : Sys} : (fIsBleached S r c).1 ≤ 1 := by
  unfold fIsBleached fCell
  repeat' split
  all_goals first | exact Nat.zero_le _ | exact Nat.le_of_ble_eq_true rfl
set_option maxRecDepth 100000 in
set_option maxHeartbeats 1000000 in
theorem l_isBleached {x y : Int32} {r c : Int} {S : Sys} {w : Wd} (hC : CI w S) (hx : x = zI r) (hy : y = zI c) (r1 : -2147483648 ≤ r) (r2 : r < 2147483648) (c1 : -2147483648 ≤ c) (c2 : c < 2147483648) : Ct 1 ML_isBleached 15 4 24 [.ref 0, .int x, .int y, .ref 65] w (LwB (fIsBleached S r c) w) := by
  refine Ct_ofH (by decide +kernel) rfl (Nat.le_of_ble_eq_true rfl) rfl ?_
  refine V_aload_n (i := 3) dL_isBleached_0 rfl rfl ?_
  refine V_iconst_n (v := 0) dL_isBleached_1 (by decide) ?_
  refine V_aload_n (i := 0) dL_isBleached_2 rfl rfl ?_
  refine V_iload_n (i := 1) dL_isBleached_3 rfl rfl ?_
  refine V_iload_n (i := 2) dL_isBleached_4 rfl rfl ?_
  refine V_callVH dL_isBleached_5 (c_isBleached hC hx hy r1 r2 c1 c2) okX10_isBleached lkRL_45 (Or.inr ⟨rfl, Nat.le_of_ble_eq_true rfl⟩) rfl rfl rfl rfl (Nat.le_of_ble_eq_true rfl) ⟨Nat.le_of_ble_eq_true rfl, Nat.le_of_ble_eq_true rfl⟩ ⟨by decide, by decide⟩ (fun v9 u1 hu1 => ?_) (fun E9 u1 hu1 => ?_)
  · rcases hu1 with ⟨⟨h0, e9⟩ | ⟨h0, e9⟩, hC1, hF1⟩
    · cases e9
      refine V_if_eq (tgt := 15) dL_isBleached_8 (by decide) (fun h8 => ?_) (fun h8 => ?_)
      · have hz9 : (fIsBleached S r c).2.1 = 0 := h8
        refine V_lconst (v := 0) dL_isBleached_15 rfl ?_
        refine V_last dL_isBleached_16 (Or.inr ⟨rfl, Nat.le_of_ble_eq_true rfl⟩) rfl (in_n (by omega) (by decide)) ?_
        refine V_goto (tgt := 24) dL_isBleached_17 (by decide) ?_
        refine V_iconst_n (v := 0) dL_isBleached_24 (by decide) ?_
        refine V_iret dL_isBleached_25 rfl rfl ?_
        exact ⟨by rw [h0], fun _ => by rw [if_pos hz9]; exact gL_0, hC1.keepF (P := fun b => b = 65) (Fr.nil.l1 rfl) (fun b hb q => by omega), (hF1.mono (fun b hb => Or.inl hb)).trans ((Fr.nil (P := InL)).l1 (Or.inr (Or.inl rfl)))⟩
      · have hz9 : ¬ (fIsBleached S r c).2.1 = 0 := h8
        refine V_lconst (v := 1) dL_isBleached_11 rfl ?_
        refine V_goto (tgt := 16) dL_isBleached_12 (by decide) ?_
        refine V_last dL_isBleached_16 (Or.inr ⟨rfl, Nat.le_of_ble_eq_true rfl⟩) rfl (in_n (by omega) (by decide)) ?_
        refine V_goto (tgt := 24) dL_isBleached_17 (by decide) ?_
        refine V_iconst_n (v := 0) dL_isBleached_24 (by decide) ?_
        refine V_iret dL_isBleached_25 rfl rfl ?_
        exact ⟨by rw [h0], fun _ => by rw [if_neg hz9]; exact gL_0, hC1.keepF (P := fun b => b = 65) (Fr.nil.l1 rfl) (fun b hb q => by omega), (hF1.mono (fun b hb => Or.inl hb)).trans ((Fr.nil (P := InL)).l1 (Or.inr (Or.inl rfl)))⟩
    · cases e9
  · rcases hu1 with ⟨⟨h0, e9⟩ | ⟨h0, e9⟩, hC1, hF1⟩
    · cases e9
    · have hle : (fIsBleached S r c).1 ≤ 1 := le_isBleached
      have hcs : (fIsBleached S r c).1 = 1 := by omega
      have h1 := hcs
      rw [h1] at e9
      have e8 : E9 = "java/lang/IndexOutOfBoundsException" := Sum.inr.inj e9
      subst e8
      refine ⟨22, _, ⟨[], [], (0, 17, 20, 13), "java/lang/IndexOutOfBoundsException", 4, rfl, (List.forall_mem_nil _), ⟨by decide, by decide⟩, by decide, clRL_13, (List.mem_of_getElem? (i := 1) rfl), Nat.le_of_ble_eq_true rfl, rfl, rfl, rfl, Or.inl ⟨dL_isBleached_20, rfl⟩⟩, ?_⟩
      refine V_iconst_n (v := 1) dL_isBleached_22 (by decide) ?_
      refine V_iret dL_isBleached_23 rfl rfl ?_
      exact ⟨by rw [h1], fun q => absurd q (by omega), hC1, hF1.mono (fun b hb => Or.inl hb)⟩
theorem le_colourAt {r c : Int} {S : Sys} : (fColourAt S r c).1 ≤ 2 := by
  unfold fColourAt fLive
  repeat' split
  all_goals first | exact Nat.zero_le _ | exact Nat.le_of_ble_eq_true rfl
set_option maxRecDepth 100000 in
set_option maxHeartbeats 1000000 in
theorem l_colourAt {x y : Int32} {r c : Int} {S : Sys} {w : Wd} (hC : CI w S) (hx : x = zI r) (hy : y = zI c) (r1 : -2147483648 ≤ r) (r2 : r < 2147483648) (c1 : -2147483648 ≤ c) (c2 : c < 2147483648) : Ct 1 ML_colourAt 15 4 24 [.ref 0, .int x, .int y, .ref 65] w (LwP (fColourAt S r c) w) := by
  refine Ct_ofH (by decide +kernel) rfl (Nat.le_of_ble_eq_true rfl) rfl ?_
  refine V_aload_n (i := 3) dL_colourAt_0 rfl rfl ?_
  refine V_iconst_n (v := 0) dL_colourAt_1 (by decide) ?_
  refine V_aload_n (i := 0) dL_colourAt_2 rfl rfl ?_
  refine V_iload_n (i := 1) dL_colourAt_3 rfl rfl ?_
  refine V_iload_n (i := 2) dL_colourAt_4 rfl rfl ?_
  refine V_callVH dL_colourAt_5 (c_colourAt hC hx hy r1 r2 c1 c2) okX10_colourAt lkRL_48 (Or.inr ⟨rfl, Nat.le_of_ble_eq_true rfl⟩) rfl rfl rfl rfl (Nat.le_of_ble_eq_true rfl) ⟨Nat.le_of_ble_eq_true rfl, Nat.le_of_ble_eq_true rfl⟩ ⟨by decide, by decide⟩ (fun v9 u1 hu1 => ?_) (fun E9 u1 hu1 => ?_)
  · rcases hu1 with ⟨⟨h0, e9⟩ | ⟨h0, e9⟩, hC1, hF1⟩
    · cases e9
      refine V_i2l dL_colourAt_8 ?_
      refine V_last dL_colourAt_9 (Or.inr ⟨rfl, Nat.le_of_ble_eq_true rfl⟩) rfl (in_n (by omega) (by decide)) ?_
      refine V_goto (tgt := 21) dL_colourAt_10 (by decide) ?_
      refine V_iconst_n (v := 0) dL_colourAt_21 (by decide) ?_
      refine V_iret dL_colourAt_22 rfl rfl ?_
      exact ⟨by rw [h0], fun _ => gL_0, hC1.keepF (P := fun b => b = 65) (Fr.nil.l1 rfl) (fun b hb q => by omega), (hF1.mono (fun b hb => Or.inl hb)).trans ((Fr.nil (P := InL)).l1 (Or.inr (Or.inl rfl)))⟩
    · cases e9
  · rcases hu1 with ⟨⟨h0, e9⟩ | ⟨h0, e9⟩, hC1, hF1⟩
    · cases e9
    · have hle : (fColourAt S r c).1 ≤ 2 := le_colourAt
      have hcs : (fColourAt S r c).1 = 1 ∨ (fColourAt S r c).1 = 2 := by omega
      rcases hcs with h1 | h1
      · rw [h1] at e9
        have e8 : E9 = "java/lang/IndexOutOfBoundsException" := Sum.inr.inj e9
        subst e8
        refine ⟨15, _, ⟨[], [(0, 10, 17, 52)], (0, 10, 13, 13), "java/lang/IndexOutOfBoundsException", 4, rfl, (List.forall_mem_nil _), ⟨by decide, by decide⟩, by decide, clRL_13, (List.mem_of_getElem? (i := 1) rfl), Nat.le_of_ble_eq_true rfl, rfl, rfl, rfl, Or.inl ⟨dL_colourAt_13, rfl⟩⟩, ?_⟩
        refine V_iconst_n (v := 1) dL_colourAt_15 (by decide) ?_
        refine V_iret dL_colourAt_16 rfl rfl ?_
        exact ⟨by rw [h1], fun q => absurd q (by omega), hC1, hF1.mono (fun b hb => Or.inl hb)⟩
      · rw [h1] at e9
        have e8 : E9 = "java/util/NoSuchElementException" := Sum.inr.inj e9
        subst e8
        refine ⟨19, _, ⟨[(0, 10, 13, 13)], [], (0, 10, 17, 52), "java/util/NoSuchElementException", 4, rfl, (List.forall_mem_cons.mpr ⟨⟨by decide, "java/lang/IndexOutOfBoundsException", clRL_13, (List.mem_of_getElem? (i := 13) rfl)⟩, (List.forall_mem_nil _)⟩), ⟨by decide, by decide⟩, by decide, clRL_52, (List.mem_of_getElem? (i := 4) rfl), Nat.le_of_ble_eq_true rfl, rfl, rfl, rfl, Or.inl ⟨dL_colourAt_17, rfl⟩⟩, ?_⟩
        refine V_iconst_n (v := 2) dL_colourAt_19 (by decide) ?_
        refine V_iret dL_colourAt_20 rfl rfl ?_
        exact ⟨by rw [h1], fun q => absurd q (by omega), hC1, hF1.mono (fun b hb => Or.inl hb)⟩
theorem le_ageAt {r c : Int} {S : Sys} : (fAgeAt S r c).1 ≤ 2 := by
  unfold fAgeAt fLive
  repeat' split
  all_goals first | exact Nat.zero_le _ | exact Nat.le_of_ble_eq_true rfl
set_option maxRecDepth 100000 in
set_option maxHeartbeats 1000000 in
theorem l_ageAt {x y : Int32} {r c : Int} {S : Sys} {w : Wd} (hC : CI w S) (hx : x = zI r) (hy : y = zI c) (r1 : -2147483648 ≤ r) (r2 : r < 2147483648) (c1 : -2147483648 ≤ c) (c2 : c < 2147483648) : Ct 1 ML_ageAt 15 4 24 [.ref 0, .int x, .int y, .ref 65] w (LwP (fAgeAt S r c) w) := by
  refine Ct_ofH (by decide +kernel) rfl (Nat.le_of_ble_eq_true rfl) rfl ?_
  refine V_aload_n (i := 3) dL_ageAt_0 rfl rfl ?_
  refine V_iconst_n (v := 0) dL_ageAt_1 (by decide) ?_
  refine V_aload_n (i := 0) dL_ageAt_2 rfl rfl ?_
  refine V_iload_n (i := 1) dL_ageAt_3 rfl rfl ?_
  refine V_iload_n (i := 2) dL_ageAt_4 rfl rfl ?_
  refine V_callVH dL_ageAt_5 (c_ageAt hC hx hy r1 r2 c1 c2) okX10_ageAt lkRL_54 (Or.inr ⟨rfl, Nat.le_of_ble_eq_true rfl⟩) rfl rfl rfl rfl (Nat.le_of_ble_eq_true rfl) ⟨Nat.le_of_ble_eq_true rfl, Nat.le_of_ble_eq_true rfl⟩ ⟨by decide, by decide⟩ (fun v9 u1 hu1 => ?_) (fun E9 u1 hu1 => ?_)
  · rcases hu1 with ⟨⟨h0, e9⟩ | ⟨h0, e9⟩, hC1, hF1⟩
    · cases e9
      refine V_i2l dL_ageAt_8 ?_
      refine V_last dL_ageAt_9 (Or.inr ⟨rfl, Nat.le_of_ble_eq_true rfl⟩) rfl (in_n (by omega) (by decide)) ?_
      refine V_goto (tgt := 21) dL_ageAt_10 (by decide) ?_
      refine V_iconst_n (v := 0) dL_ageAt_21 (by decide) ?_
      refine V_iret dL_ageAt_22 rfl rfl ?_
      exact ⟨by rw [h0], fun _ => gL_0, hC1.keepF (P := fun b => b = 65) (Fr.nil.l1 rfl) (fun b hb q => by omega), (hF1.mono (fun b hb => Or.inl hb)).trans ((Fr.nil (P := InL)).l1 (Or.inr (Or.inl rfl)))⟩
    · cases e9
  · rcases hu1 with ⟨⟨h0, e9⟩ | ⟨h0, e9⟩, hC1, hF1⟩
    · cases e9
    · have hle : (fAgeAt S r c).1 ≤ 2 := le_ageAt
      have hcs : (fAgeAt S r c).1 = 1 ∨ (fAgeAt S r c).1 = 2 := by omega
      rcases hcs with h1 | h1
      · rw [h1] at e9
        have e8 : E9 = "java/lang/IndexOutOfBoundsException" := Sum.inr.inj e9
        subst e8
        refine ⟨15, _, ⟨[], [(0, 10, 17, 52)], (0, 10, 13, 13), "java/lang/IndexOutOfBoundsException", 4, rfl, (List.forall_mem_nil _), ⟨by decide, by decide⟩, by decide, clRL_13, (List.mem_of_getElem? (i := 1) rfl), Nat.le_of_ble_eq_true rfl, rfl, rfl, rfl, Or.inl ⟨dL_ageAt_13, rfl⟩⟩, ?_⟩
        refine V_iconst_n (v := 1) dL_ageAt_15 (by decide) ?_
        refine V_iret dL_ageAt_16 rfl rfl ?_
        exact ⟨by rw [h1], fun q => absurd q (by omega), hC1, hF1.mono (fun b hb => Or.inl hb)⟩
      · rw [h1] at e9
        have e8 : E9 = "java/util/NoSuchElementException" := Sum.inr.inj e9
        subst e8
        refine ⟨19, _, ⟨[(0, 10, 13, 13)], [], (0, 10, 17, 52), "java/util/NoSuchElementException", 4, rfl, (List.forall_mem_cons.mpr ⟨⟨by decide, "java/lang/IndexOutOfBoundsException", clRL_13, (List.mem_of_getElem? (i := 13) rfl)⟩, (List.forall_mem_nil _)⟩), ⟨by decide, by decide⟩, by decide, clRL_52, (List.mem_of_getElem? (i := 4) rfl), Nat.le_of_ble_eq_true rfl, rfl, rfl, rfl, Or.inl ⟨dL_ageAt_17, rfl⟩⟩, ?_⟩
        refine V_iconst_n (v := 2) dL_ageAt_19 (by decide) ?_
        refine V_iret dL_ageAt_20 rfl rfl ?_
        exact ⟨by rw [h1], fun q => absurd q (by omega), hC1, hF1.mono (fun b hb => Or.inl hb)⟩
theorem le_neighbours {r c : Int} {S : Sys} : (fNeighbours S r c).1 ≤ 1 := by
  unfold fNeighbours fCell
  repeat' split
  all_goals first | exact Nat.zero_le _ | exact Nat.le_of_ble_eq_true rfl
set_option maxRecDepth 100000 in
set_option maxHeartbeats 1000000 in
theorem l_neighbours {x y : Int32} {r c : Int} {S : Sys} {w : Wd} (hC : CI w S) (hx : x = zI r) (hy : y = zI c) (r1 : -2147483648 ≤ r) (r2 : r < 2147483648) (c1 : -2147483648 ≤ c) (c2 : c < 2147483648) : Ct 1 ML_neighbours 15 4 24 [.ref 0, .int x, .int y, .ref 65] w (LwP (fNeighbours S r c) w) := by
  refine Ct_ofH (by decide +kernel) rfl (Nat.le_of_ble_eq_true rfl) rfl ?_
  refine V_aload_n (i := 3) dL_neighbours_0 rfl rfl ?_
  refine V_iconst_n (v := 0) dL_neighbours_1 (by decide) ?_
  refine V_aload_n (i := 0) dL_neighbours_2 rfl rfl ?_
  refine V_iload_n (i := 1) dL_neighbours_3 rfl rfl ?_
  refine V_iload_n (i := 2) dL_neighbours_4 rfl rfl ?_
  refine V_callVH dL_neighbours_5 (c_neighbours hC hx hy r1 r2 c1 c2) okX10_neighbours lkRL_57 (Or.inr ⟨rfl, Nat.le_of_ble_eq_true rfl⟩) rfl rfl rfl rfl (Nat.le_of_ble_eq_true rfl) ⟨Nat.le_of_ble_eq_true rfl, Nat.le_of_ble_eq_true rfl⟩ ⟨by decide, by decide⟩ (fun v9 u1 hu1 => ?_) (fun E9 u1 hu1 => ?_)
  · rcases hu1 with ⟨⟨h0, e9⟩ | ⟨h0, e9⟩, hC1, hF1⟩
    · cases e9
      refine V_i2l dL_neighbours_8 ?_
      refine V_last dL_neighbours_9 (Or.inr ⟨rfl, Nat.le_of_ble_eq_true rfl⟩) rfl (in_n (by omega) (by decide)) ?_
      refine V_goto (tgt := 17) dL_neighbours_10 (by decide) ?_
      refine V_iconst_n (v := 0) dL_neighbours_17 (by decide) ?_
      refine V_iret dL_neighbours_18 rfl rfl ?_
      exact ⟨by rw [h0], fun _ => gL_0, hC1.keepF (P := fun b => b = 65) (Fr.nil.l1 rfl) (fun b hb q => by omega), (hF1.mono (fun b hb => Or.inl hb)).trans ((Fr.nil (P := InL)).l1 (Or.inr (Or.inl rfl)))⟩
    · cases e9
  · rcases hu1 with ⟨⟨h0, e9⟩ | ⟨h0, e9⟩, hC1, hF1⟩
    · cases e9
    · have hle : (fNeighbours S r c).1 ≤ 1 := le_neighbours
      have hcs : (fNeighbours S r c).1 = 1 := by omega
      have h1 := hcs
      rw [h1] at e9
      have e8 : E9 = "java/lang/IndexOutOfBoundsException" := Sum.inr.inj e9
      subst e8
      refine ⟨15, _, ⟨[], [], (0, 10, 13, 13), "java/lang/IndexOutOfBoundsException", 4, rfl, (List.forall_mem_nil _), ⟨by decide, by decide⟩, by decide, clRL_13, (List.mem_of_getElem? (i := 1) rfl), Nat.le_of_ble_eq_true rfl, rfl, rfl, rfl, Or.inl ⟨dL_neighbours_13, rfl⟩⟩, ?_⟩
      refine V_iconst_n (v := 1) dL_neighbours_15 (by decide) ?_
      refine V_iret dL_neighbours_16 rfl rfl ?_
      exact ⟨by rw [h1], fun q => absurd q (by omega), hC1, hF1.mono (fun b hb => Or.inl hb)⟩
theorem le_neighboursOf {r c : Int} {q : Nat} {S : Sys} : (fNeighboursOf S r c q).1 ≤ 2 := by
  unfold fNeighboursOf
  repeat' split
  all_goals first | exact Nat.zero_le _ | exact Nat.le_of_ble_eq_true rfl
set_option maxRecDepth 100000 in
set_option maxHeartbeats 1000000 in
theorem l_neighboursOf {x y : Int32} {r c : Int} {q : Nat} {S : Sys} {w : Wd} (hC : CI w S) (hx : x = zI r) (hy : y = zI c) (r1 : -2147483648 ≤ r) (r2 : r < 2147483648) (c1 : -2147483648 ≤ c) (c2 : c < 2147483648) (hq : q < 65536) : Ct 1 ML_neighboursOf 15 4 24 [.ref 0, .int x, .int y, .int (nI q), .ref 65] w (LwP (fNeighboursOf S r c q) w) := by
  refine Ct_ofH (by decide +kernel) rfl (Nat.le_of_ble_eq_true rfl) rfl ?_
  refine V_aload dL_neighboursOf_0 rfl ?_
  refine V_iconst_n (v := 0) dL_neighboursOf_2 (by decide) ?_
  refine V_aload_n (i := 0) dL_neighboursOf_3 rfl rfl ?_
  refine V_iload_n (i := 1) dL_neighboursOf_4 rfl rfl ?_
  refine V_iload_n (i := 2) dL_neighboursOf_5 rfl rfl ?_
  refine V_iload_n (i := 3) dL_neighboursOf_6 rfl rfl ?_
  refine V_callVH dL_neighboursOf_7 (c_neighboursOf hC hx hy r1 r2 c1 c2 hq) okX10_neighboursOf lkRL_60 (Or.inr ⟨rfl, Nat.le_of_ble_eq_true rfl⟩) rfl rfl rfl rfl (Nat.le_of_ble_eq_true rfl) ⟨Nat.le_of_ble_eq_true rfl, Nat.le_of_ble_eq_true rfl⟩ ⟨by decide, by decide⟩ (fun v9 u1 hu1 => ?_) (fun E9 u1 hu1 => ?_)
  · rcases hu1 with ⟨⟨h0, e9⟩ | ⟨h0, e9⟩, hC1, hF1⟩
    · cases e9
      refine V_i2l dL_neighboursOf_10 ?_
      refine V_last dL_neighboursOf_11 (Or.inr ⟨rfl, Nat.le_of_ble_eq_true rfl⟩) rfl (in_n (by omega) (by decide)) ?_
      refine V_goto (tgt := 23) dL_neighboursOf_12 (by decide) ?_
      refine V_iconst_n (v := 0) dL_neighboursOf_23 (by decide) ?_
      refine V_iret dL_neighboursOf_24 rfl rfl ?_
      exact ⟨by rw [h0], fun _ => gL_0, hC1.keepF (P := fun b => b = 65) (Fr.nil.l1 rfl) (fun b hb q => by omega), (hF1.mono (fun b hb => Or.inl hb)).trans ((Fr.nil (P := InL)).l1 (Or.inr (Or.inl rfl)))⟩
    · cases e9
  · rcases hu1 with ⟨⟨h0, e9⟩ | ⟨h0, e9⟩, hC1, hF1⟩
    · cases e9
    · have hle : (fNeighboursOf S r c q).1 ≤ 2 := le_neighboursOf
      have hcs : (fNeighboursOf S r c q).1 = 1 ∨ (fNeighboursOf S r c q).1 = 2 := by omega
      rcases hcs with h1 | h1
      · rw [h1] at e9
        have e8 : E9 = "java/lang/IndexOutOfBoundsException" := Sum.inr.inj e9
        subst e8
        refine ⟨17, _, ⟨[], [(0, 12, 19, 15)], (0, 12, 15, 13), "java/lang/IndexOutOfBoundsException", 5, rfl, (List.forall_mem_nil _), ⟨by decide, by decide⟩, by decide, clRL_13, (List.mem_of_getElem? (i := 1) rfl), Nat.le_of_ble_eq_true rfl, rfl, rfl, rfl, Or.inl ⟨dL_neighboursOf_15, rfl⟩⟩, ?_⟩
        refine V_iconst_n (v := 1) dL_neighboursOf_17 (by decide) ?_
        refine V_iret dL_neighboursOf_18 rfl rfl ?_
        exact ⟨by rw [h1], fun q => absurd q (by omega), hC1, hF1.mono (fun b hb => Or.inl hb)⟩
      · rw [h1] at e9
        have e8 : E9 = "java/lang/IllegalArgumentException" := Sum.inr.inj e9
        subst e8
        refine ⟨21, _, ⟨[(0, 12, 15, 13)], [], (0, 12, 19, 15), "java/lang/IllegalArgumentException", 5, rfl, (List.forall_mem_cons.mpr ⟨⟨by decide, "java/lang/IndexOutOfBoundsException", clRL_13, (List.mem_of_getElem? (i := 11) rfl)⟩, (List.forall_mem_nil _)⟩), ⟨by decide, by decide⟩, by decide, clRL_15, (List.mem_of_getElem? (i := 2) rfl), Nat.le_of_ble_eq_true rfl, rfl, rfl, rfl, Or.inl ⟨dL_neighboursOf_19, rfl⟩⟩, ?_⟩
        refine V_iconst_n (v := 2) dL_neighboursOf_21 (by decide) ?_
        refine V_iret dL_neighboursOf_22 rfl rfl ?_
        exact ⟨by rw [h1], fun q => absurd q (by omega), hC1, hF1.mono (fun b hb => Or.inl hb)⟩
theorem le_birthColour {r c : Int} {S : Sys} : (fBirthColour S r c).1 ≤ 2 := by
  unfold fBirthColour
  repeat' split
  all_goals first | exact Nat.zero_le _ | exact Nat.le_of_ble_eq_true rfl
set_option maxRecDepth 100000 in
set_option maxHeartbeats 1000000 in
theorem l_birthColour {x y : Int32} {r c : Int} {S : Sys} {w : Wd} (hC : CI w S) (hx : x = zI r) (hy : y = zI c) (r1 : -2147483648 ≤ r) (r2 : r < 2147483648) (c1 : -2147483648 ≤ c) (c2 : c < 2147483648) : Ct 1 ML_birthColour 15 4 24 [.ref 0, .int x, .int y, .ref 65] w (LwP (fBirthColour S r c) w) := by
  refine Ct_ofH (by decide +kernel) rfl (Nat.le_of_ble_eq_true rfl) rfl ?_
  refine V_aload_n (i := 3) dL_birthColour_0 rfl rfl ?_
  refine V_iconst_n (v := 0) dL_birthColour_1 (by decide) ?_
  refine V_aload_n (i := 0) dL_birthColour_2 rfl rfl ?_
  refine V_iload_n (i := 1) dL_birthColour_3 rfl rfl ?_
  refine V_iload_n (i := 2) dL_birthColour_4 rfl rfl ?_
  refine V_callVH dL_birthColour_5 (c_birthColour hC hx hy r1 r2 c1 c2) okX10_birthColour lkRL_63 (Or.inr ⟨rfl, Nat.le_of_ble_eq_true rfl⟩) rfl rfl rfl rfl (Nat.le_of_ble_eq_true rfl) ⟨Nat.le_of_ble_eq_true rfl, Nat.le_of_ble_eq_true rfl⟩ ⟨by decide, by decide⟩ (fun v9 u1 hu1 => ?_) (fun E9 u1 hu1 => ?_)
  · rcases hu1 with ⟨⟨h0, e9⟩ | ⟨h0, e9⟩, hC1, hF1⟩
    · cases e9
      refine V_i2l dL_birthColour_8 ?_
      refine V_last dL_birthColour_9 (Or.inr ⟨rfl, Nat.le_of_ble_eq_true rfl⟩) rfl (in_n (by omega) (by decide)) ?_
      refine V_goto (tgt := 21) dL_birthColour_10 (by decide) ?_
      refine V_iconst_n (v := 0) dL_birthColour_21 (by decide) ?_
      refine V_iret dL_birthColour_22 rfl rfl ?_
      exact ⟨by rw [h0], fun _ => gL_0, hC1.keepF (P := fun b => b = 65) (Fr.nil.l1 rfl) (fun b hb q => by omega), (hF1.mono (fun b hb => Or.inl hb)).trans ((Fr.nil (P := InL)).l1 (Or.inr (Or.inl rfl)))⟩
    · cases e9
  · rcases hu1 with ⟨⟨h0, e9⟩ | ⟨h0, e9⟩, hC1, hF1⟩
    · cases e9
    · have hle : (fBirthColour S r c).1 ≤ 2 := le_birthColour
      have hcs : (fBirthColour S r c).1 = 1 ∨ (fBirthColour S r c).1 = 2 := by omega
      rcases hcs with h1 | h1
      · rw [h1] at e9
        have e8 : E9 = "java/lang/IndexOutOfBoundsException" := Sum.inr.inj e9
        subst e8
        refine ⟨15, _, ⟨[], [(0, 10, 17, 52)], (0, 10, 13, 13), "java/lang/IndexOutOfBoundsException", 4, rfl, (List.forall_mem_nil _), ⟨by decide, by decide⟩, by decide, clRL_13, (List.mem_of_getElem? (i := 1) rfl), Nat.le_of_ble_eq_true rfl, rfl, rfl, rfl, Or.inl ⟨dL_birthColour_13, rfl⟩⟩, ?_⟩
        refine V_iconst_n (v := 1) dL_birthColour_15 (by decide) ?_
        refine V_iret dL_birthColour_16 rfl rfl ?_
        exact ⟨by rw [h1], fun q => absurd q (by omega), hC1, hF1.mono (fun b hb => Or.inl hb)⟩
      · rw [h1] at e9
        have e8 : E9 = "java/util/NoSuchElementException" := Sum.inr.inj e9
        subst e8
        refine ⟨19, _, ⟨[(0, 10, 13, 13)], [], (0, 10, 17, 52), "java/util/NoSuchElementException", 4, rfl, (List.forall_mem_cons.mpr ⟨⟨by decide, "java/lang/IndexOutOfBoundsException", clRL_13, (List.mem_of_getElem? (i := 13) rfl)⟩, (List.forall_mem_nil _)⟩), ⟨by decide, by decide⟩, by decide, clRL_52, (List.mem_of_getElem? (i := 4) rfl), Nat.le_of_ble_eq_true rfl, rfl, rfl, rfl, Or.inl ⟨dL_birthColour_17, rfl⟩⟩, ?_⟩
        refine V_iconst_n (v := 2) dL_birthColour_19 (by decide) ?_
        refine V_iret dL_birthColour_20 rfl rfl ?_
        exact ⟨by rw [h1], fun q => absurd q (by omega), hC1, hF1.mono (fun b hb => Or.inl hb)⟩
theorem le_countOf {q : Nat} {S : Sys} : (fCountOf S q).1 ≤ 1 := by
  unfold fCountOf
  repeat' split
  all_goals first | exact Nat.zero_le _ | exact Nat.le_of_ble_eq_true rfl
set_option maxRecDepth 100000 in
set_option maxHeartbeats 1000000 in
theorem l_countOf {q : Nat} {S : Sys} {w : Wd} (hC : CI w S) (hq : q < 65536) : Ct 1 ML_countOf 15 4 24 [.ref 0, .int (nI q), .ref 65] w (LwP (fCountOf S q) w) := by
  refine Ct_ofH (by decide +kernel) rfl (Nat.le_of_ble_eq_true rfl) rfl ?_
  refine V_aload_n (i := 2) dL_countOf_0 rfl rfl ?_
  refine V_iconst_n (v := 0) dL_countOf_1 (by decide) ?_
  refine V_aload_n (i := 0) dL_countOf_2 rfl rfl ?_
  refine V_iload_n (i := 1) dL_countOf_3 rfl rfl ?_
  refine V_callVH dL_countOf_4 (c_countOf hC hq) okX10_countOf lkRL_66 (Or.inr ⟨rfl, Nat.le_of_ble_eq_true rfl⟩) rfl rfl rfl rfl (Nat.le_of_ble_eq_true rfl) ⟨Nat.le_of_ble_eq_true rfl, Nat.le_of_ble_eq_true rfl⟩ ⟨by decide, by decide⟩ (fun v9 u1 hu1 => ?_) (fun E9 u1 hu1 => ?_)
  · rcases hu1 with ⟨⟨h0, e9⟩ | ⟨h0, e9⟩, hC1, hF1⟩
    · cases e9
      refine V_i2l dL_countOf_7 ?_
      refine V_last dL_countOf_8 (Or.inr ⟨rfl, Nat.le_of_ble_eq_true rfl⟩) rfl (in_n (by omega) (by decide)) ?_
      refine V_goto (tgt := 15) dL_countOf_9 (by decide) ?_
      refine V_iconst_n (v := 0) dL_countOf_15 (by decide) ?_
      refine V_iret dL_countOf_16 rfl rfl ?_
      exact ⟨by rw [h0], fun _ => gL_0, hC1.keepF (P := fun b => b = 65) (Fr.nil.l1 rfl) (fun b hb q => by omega), (hF1.mono (fun b hb => Or.inl hb)).trans ((Fr.nil (P := InL)).l1 (Or.inr (Or.inl rfl)))⟩
    · cases e9
  · rcases hu1 with ⟨⟨h0, e9⟩ | ⟨h0, e9⟩, hC1, hF1⟩
    · cases e9
    · have hle : (fCountOf S q).1 ≤ 1 := le_countOf
      have hcs : (fCountOf S q).1 = 1 := by omega
      have h1 := hcs
      rw [h1] at e9
      have e8 : E9 = "java/lang/IllegalArgumentException" := Sum.inr.inj e9
      subst e8
      refine ⟨13, _, ⟨[], [], (0, 9, 12, 15), "java/lang/IllegalArgumentException", 3, rfl, (List.forall_mem_nil _), ⟨by decide, by decide⟩, by decide, clRL_15, (List.mem_of_getElem? (i := 2) rfl), Nat.le_of_ble_eq_true rfl, rfl, rfl, rfl, Or.inr ⟨3, rfl, dL_countOf_12, rfl⟩⟩, ?_⟩
      refine V_iconst_n (v := 1) dL_countOf_13 (by decide) ?_
      refine V_iret dL_countOf_14 rfl rfl ?_
      exact ⟨by rw [h1], fun q => absurd q (by omega), hC1, hF1.mono (fun b hb => Or.inl hb)⟩
theorem le_islandSize {r c : Int} {S : Sys} : (fIslandSize S r c).1 ≤ 2 := by
  unfold fIslandSize fLive
  repeat' split
  all_goals first | exact Nat.zero_le _ | exact Nat.le_of_ble_eq_true rfl
set_option maxRecDepth 100000 in
set_option maxHeartbeats 1000000 in
theorem l_islandSize {x y : Int32} {r c : Int} {S : Sys} {w : Wd} (hC : CI w S) (hx : x = zI r) (hy : y = zI c) (r1 : -2147483648 ≤ r) (r2 : r < 2147483648) (c1 : -2147483648 ≤ c) (c2 : c < 2147483648) : Ct 1 ML_islandSize 15 4 24 [.ref 0, .int x, .int y, .ref 65] w (LwP (fIslandSize S r c) w) := by
  refine Ct_ofH (by decide +kernel) rfl (Nat.le_of_ble_eq_true rfl) rfl ?_
  refine V_aload_n (i := 3) dL_islandSize_0 rfl rfl ?_
  refine V_iconst_n (v := 0) dL_islandSize_1 (by decide) ?_
  refine V_aload_n (i := 0) dL_islandSize_2 rfl rfl ?_
  refine V_iload_n (i := 1) dL_islandSize_3 rfl rfl ?_
  refine V_iload_n (i := 2) dL_islandSize_4 rfl rfl ?_
  refine V_callVH dL_islandSize_5 (c_islandSize hC hx hy r1 r2 c1 c2) okX10_islandSize lkRL_70 (Or.inr ⟨rfl, Nat.le_of_ble_eq_true rfl⟩) rfl rfl rfl rfl (Nat.le_of_ble_eq_true rfl) ⟨Nat.le_of_ble_eq_true rfl, Nat.le_of_ble_eq_true rfl⟩ ⟨by decide, by decide⟩ (fun v9 u1 hu1 => ?_) (fun E9 u1 hu1 => ?_)
  · rcases hu1 with ⟨⟨h0, e9⟩ | ⟨h0, e9⟩, hC1, hF1⟩
    · cases e9
      refine V_i2l dL_islandSize_8 ?_
      refine V_last dL_islandSize_9 (Or.inr ⟨rfl, Nat.le_of_ble_eq_true rfl⟩) rfl (in_n (by omega) (by decide)) ?_
      refine V_goto (tgt := 21) dL_islandSize_10 (by decide) ?_
      refine V_iconst_n (v := 0) dL_islandSize_21 (by decide) ?_
      refine V_iret dL_islandSize_22 rfl rfl ?_
      exact ⟨by rw [h0], fun _ => gL_0, hC1.keepF (P := fun b => b = 65) (Fr.nil.l1 rfl) (fun b hb q => by omega), (hF1.mono (fun b hb => Or.inl hb)).trans ((Fr.nil (P := InL)).l1 (Or.inr (Or.inl rfl)))⟩
    · cases e9
  · rcases hu1 with ⟨⟨h0, e9⟩ | ⟨h0, e9⟩, hC1, hF1⟩
    · cases e9
    · have hle : (fIslandSize S r c).1 ≤ 2 := le_islandSize
      have hcs : (fIslandSize S r c).1 = 1 ∨ (fIslandSize S r c).1 = 2 := by omega
      rcases hcs with h1 | h1
      · rw [h1] at e9
        have e8 : E9 = "java/lang/IndexOutOfBoundsException" := Sum.inr.inj e9
        subst e8
        refine ⟨15, _, ⟨[], [(0, 10, 17, 52)], (0, 10, 13, 13), "java/lang/IndexOutOfBoundsException", 4, rfl, (List.forall_mem_nil _), ⟨by decide, by decide⟩, by decide, clRL_13, (List.mem_of_getElem? (i := 1) rfl), Nat.le_of_ble_eq_true rfl, rfl, rfl, rfl, Or.inl ⟨dL_islandSize_13, rfl⟩⟩, ?_⟩
        refine V_iconst_n (v := 1) dL_islandSize_15 (by decide) ?_
        refine V_iret dL_islandSize_16 rfl rfl ?_
        exact ⟨by rw [h1], fun q => absurd q (by omega), hC1, hF1.mono (fun b hb => Or.inl hb)⟩
      · rw [h1] at e9
        have e8 : E9 = "java/util/NoSuchElementException" := Sum.inr.inj e9
        subst e8
        refine ⟨19, _, ⟨[(0, 10, 13, 13)], [], (0, 10, 17, 52), "java/util/NoSuchElementException", 4, rfl, (List.forall_mem_cons.mpr ⟨⟨by decide, "java/lang/IndexOutOfBoundsException", clRL_13, (List.mem_of_getElem? (i := 13) rfl)⟩, (List.forall_mem_nil _)⟩), ⟨by decide, by decide⟩, by decide, clRL_52, (List.mem_of_getElem? (i := 4) rfl), Nat.le_of_ble_eq_true rfl, rfl, rfl, rfl, Or.inl ⟨dL_islandSize_17, rfl⟩⟩, ?_⟩
        refine V_iconst_n (v := 2) dL_islandSize_19 (by decide) ?_
        refine V_iret dL_islandSize_20 rfl rfl ?_
        exact ⟨by rw [h1], fun q => absurd q (by omega), hC1, hF1.mono (fun b hb => Or.inl hb)⟩
theorem le_islandsOf {q : Nat} {S : Sys} : (fIslandsOf S q).1 ≤ 1 := by
  unfold fIslandsOf
  repeat' split
  all_goals first | exact Nat.zero_le _ | exact Nat.le_of_ble_eq_true rfl
set_option maxRecDepth 100000 in
set_option maxHeartbeats 1000000 in
theorem l_islandsOf {q : Nat} {S : Sys} {w : Wd} (hC : CI w S) (hq : q < 65536) : Ct 1 ML_islandsOf 15 4 24 [.ref 0, .int (nI q), .ref 65] w (LwP (fIslandsOf S q) w) := by
  refine Ct_ofH (by decide +kernel) rfl (Nat.le_of_ble_eq_true rfl) rfl ?_
  refine V_aload_n (i := 2) dL_islandsOf_0 rfl rfl ?_
  refine V_iconst_n (v := 0) dL_islandsOf_1 (by decide) ?_
  refine V_aload_n (i := 0) dL_islandsOf_2 rfl rfl ?_
  refine V_iload_n (i := 1) dL_islandsOf_3 rfl rfl ?_
  refine V_callVH dL_islandsOf_4 (c_islandsOf hC hq) okX10_islandsOf lkRL_73 (Or.inr ⟨rfl, Nat.le_of_ble_eq_true rfl⟩) rfl rfl rfl rfl (Nat.le_of_ble_eq_true rfl) ⟨Nat.le_of_ble_eq_true rfl, Nat.le_of_ble_eq_true rfl⟩ ⟨by decide, by decide⟩ (fun v9 u1 hu1 => ?_) (fun E9 u1 hu1 => ?_)
  · rcases hu1 with ⟨⟨h0, e9⟩ | ⟨h0, e9⟩, hC1, hF1⟩
    · cases e9
      refine V_i2l dL_islandsOf_7 ?_
      refine V_last dL_islandsOf_8 (Or.inr ⟨rfl, Nat.le_of_ble_eq_true rfl⟩) rfl (in_n (by omega) (by decide)) ?_
      refine V_goto (tgt := 15) dL_islandsOf_9 (by decide) ?_
      refine V_iconst_n (v := 0) dL_islandsOf_15 (by decide) ?_
      refine V_iret dL_islandsOf_16 rfl rfl ?_
      exact ⟨by rw [h0], fun _ => gL_0, hC1.keepF (P := fun b => b = 65) (Fr.nil.l1 rfl) (fun b hb q => by omega), (hF1.mono (fun b hb => Or.inl hb)).trans ((Fr.nil (P := InL)).l1 (Or.inr (Or.inl rfl)))⟩
    · cases e9
  · rcases hu1 with ⟨⟨h0, e9⟩ | ⟨h0, e9⟩, hC1, hF1⟩
    · cases e9
    · have hle : (fIslandsOf S q).1 ≤ 1 := le_islandsOf
      have hcs : (fIslandsOf S q).1 = 1 := by omega
      have h1 := hcs
      rw [h1] at e9
      have e8 : E9 = "java/lang/IllegalArgumentException" := Sum.inr.inj e9
      subst e8
      refine ⟨13, _, ⟨[], [], (0, 9, 12, 15), "java/lang/IllegalArgumentException", 3, rfl, (List.forall_mem_nil _), ⟨by decide, by decide⟩, by decide, clRL_15, (List.mem_of_getElem? (i := 2) rfl), Nat.le_of_ble_eq_true rfl, rfl, rfl, rfl, Or.inr ⟨3, rfl, dL_islandsOf_12, rfl⟩⟩, ?_⟩
      refine V_iconst_n (v := 1) dL_islandsOf_13 (by decide) ?_
      refine V_iret dL_islandsOf_14 rfl rfl ?_
      exact ⟨by rw [h1], fun q => absurd q (by omega), hC1, hF1.mono (fun b hb => Or.inl hb)⟩
theorem le_isJoined {r c rr cc : Int} {S : Sys} : (fIsJoined S r c rr cc).1 ≤ 1 := by
  unfold fIsJoined
  repeat' split
  all_goals first | exact Nat.zero_le _ | exact Nat.le_of_ble_eq_true rfl
set_option maxRecDepth 100000 in
set_option maxHeartbeats 1000000 in
theorem l_isJoined {x y x2 y2 : Int32} {r c rr cc : Int} {S : Sys} {w : Wd} (hC : CI w S) (hx : x = zI r) (hy : y = zI c) (hx2 : x2 = zI rr) (hy2 : y2 = zI cc) (bb1 : -2147483648 ≤ r) (bb2 : r < 2147483648) (bb3 : -2147483648 ≤ c) (bb4 : c < 2147483648) (bb5 : -2147483648 ≤ rr) (bb6 : rr < 2147483648) (bb7 : -2147483648 ≤ cc) (bb8 : cc < 2147483648) : Ct 1 ML_isJoined 15 4 24 [.ref 0, .int x, .int y, .int x2, .int y2, .ref 65] w (LwB (fIsJoined S r c rr cc) w) := by
  refine Ct_ofH (by decide +kernel) rfl (Nat.le_of_ble_eq_true rfl) rfl ?_
  refine V_aload dL_isJoined_0 rfl ?_
  refine V_iconst_n (v := 0) dL_isJoined_2 (by decide) ?_
  refine V_aload_n (i := 0) dL_isJoined_3 rfl rfl ?_
  refine V_iload_n (i := 1) dL_isJoined_4 rfl rfl ?_
  refine V_iload_n (i := 2) dL_isJoined_5 rfl rfl ?_
  refine V_iload_n (i := 3) dL_isJoined_6 rfl rfl ?_
  refine V_iload dL_isJoined_7 rfl ?_
  refine V_callVH dL_isJoined_9 (c_isJoined hC hx hy hx2 hy2 bb1 bb2 bb3 bb4 bb5 bb6 bb7 bb8) okX10_isJoined lkRL_76 (Or.inr ⟨rfl, Nat.le_of_ble_eq_true rfl⟩) rfl rfl rfl rfl (Nat.le_of_ble_eq_true rfl) ⟨Nat.le_of_ble_eq_true rfl, Nat.le_of_ble_eq_true rfl⟩ ⟨by decide, by decide⟩ (fun v9 u1 hu1 => ?_) (fun E9 u1 hu1 => ?_)
  · rcases hu1 with ⟨⟨h0, e9⟩ | ⟨h0, e9⟩, hC1, hF1⟩
    · cases e9
      refine V_if_eq (tgt := 19) dL_isJoined_12 (by decide) (fun h12 => ?_) (fun h12 => ?_)
      · have hz9 : (fIsJoined S r c rr cc).2.1 = 0 := h12
        refine V_lconst (v := 0) dL_isJoined_19 rfl ?_
        refine V_last dL_isJoined_20 (Or.inr ⟨rfl, Nat.le_of_ble_eq_true rfl⟩) rfl (in_n (by omega) (by decide)) ?_
        refine V_goto (tgt := 28) dL_isJoined_21 (by decide) ?_
        refine V_iconst_n (v := 0) dL_isJoined_28 (by decide) ?_
        refine V_iret dL_isJoined_29 rfl rfl ?_
        exact ⟨by rw [h0], fun _ => by rw [if_pos hz9]; exact gL_0, hC1.keepF (P := fun b => b = 65) (Fr.nil.l1 rfl) (fun b hb q => by omega), (hF1.mono (fun b hb => Or.inl hb)).trans ((Fr.nil (P := InL)).l1 (Or.inr (Or.inl rfl)))⟩
      · have hz9 : ¬ (fIsJoined S r c rr cc).2.1 = 0 := h12
        refine V_lconst (v := 1) dL_isJoined_15 rfl ?_
        refine V_goto (tgt := 20) dL_isJoined_16 (by decide) ?_
        refine V_last dL_isJoined_20 (Or.inr ⟨rfl, Nat.le_of_ble_eq_true rfl⟩) rfl (in_n (by omega) (by decide)) ?_
        refine V_goto (tgt := 28) dL_isJoined_21 (by decide) ?_
        refine V_iconst_n (v := 0) dL_isJoined_28 (by decide) ?_
        refine V_iret dL_isJoined_29 rfl rfl ?_
        exact ⟨by rw [h0], fun _ => by rw [if_neg hz9]; exact gL_0, hC1.keepF (P := fun b => b = 65) (Fr.nil.l1 rfl) (fun b hb q => by omega), (hF1.mono (fun b hb => Or.inl hb)).trans ((Fr.nil (P := InL)).l1 (Or.inr (Or.inl rfl)))⟩
    · cases e9
  · rcases hu1 with ⟨⟨h0, e9⟩ | ⟨h0, e9⟩, hC1, hF1⟩
    · cases e9
    · have hle : (fIsJoined S r c rr cc).1 ≤ 1 := le_isJoined
      have hcs : (fIsJoined S r c rr cc).1 = 1 := by omega
      have h1 := hcs
      rw [h1] at e9
      have e8 : E9 = "java/lang/IndexOutOfBoundsException" := Sum.inr.inj e9
      subst e8
      refine ⟨26, _, ⟨[], [], (0, 21, 24, 13), "java/lang/IndexOutOfBoundsException", 6, rfl, (List.forall_mem_nil _), ⟨by decide, by decide⟩, by decide, clRL_13, (List.mem_of_getElem? (i := 1) rfl), Nat.le_of_ble_eq_true rfl, rfl, rfl, rfl, Or.inl ⟨dL_isJoined_24, rfl⟩⟩, ?_⟩
      refine V_iconst_n (v := 1) dL_isJoined_26 (by decide) ?_
      refine V_iret dL_isJoined_27 rfl rfl ?_
      exact ⟨by rw [h1], fun q => absurd q (by omega), hC1, hF1.mono (fun b hb => Or.inl hb)⟩
theorem le_passTides {t : Int} {S : Sys} : (fPassTides S t).1 ≤ 1 := by
  unfold fPassTides
  repeat' split
  all_goals first | exact Nat.zero_le _ | exact Nat.le_of_ble_eq_true rfl
set_option maxRecDepth 100000 in
set_option maxHeartbeats 1000000 in
theorem l_passTides {x : Int32} {t : Int} {S : Sys} {w : Wd} (hC : CI w S) (hx : x = zI t) (n1 : -2147483648 ≤ t) (n2 : t < 2147483648) : Ct 1 ML_passTides 15 4 24 [.ref 0, .int x, .ref 65] w (LwP (fPassTides S t) w) := by
  refine Ct_ofH (by decide +kernel) rfl (Nat.le_of_ble_eq_true rfl) rfl ?_
  refine V_aload_n (i := 2) dL_passTides_0 rfl rfl ?_
  refine V_iconst_n (v := 0) dL_passTides_1 (by decide) ?_
  refine V_aload_n (i := 0) dL_passTides_2 rfl rfl ?_
  refine V_iload_n (i := 1) dL_passTides_3 rfl rfl ?_
  refine V_callVH dL_passTides_4 (c_passTides hC hx n1 n2) okX10_passTides lkRL_80 (Or.inr ⟨rfl, Nat.le_of_ble_eq_true rfl⟩) rfl rfl rfl rfl (Nat.le_of_ble_eq_true rfl) ⟨Nat.le_of_ble_eq_true rfl, Nat.le_of_ble_eq_true rfl⟩ ⟨by decide, by decide⟩ (fun v9 u1 hu1 => ?_) (fun E9 u1 hu1 => ?_)
  · rcases hu1 with ⟨⟨h0, e9⟩ | ⟨h0, e9⟩, hC1, hF1⟩
    · cases e9
      refine V_i2l dL_passTides_7 ?_
      refine V_last dL_passTides_8 (Or.inr ⟨rfl, Nat.le_of_ble_eq_true rfl⟩) rfl (in_n (by omega) (by decide)) ?_
      refine V_goto (tgt := 15) dL_passTides_9 (by decide) ?_
      refine V_iconst_n (v := 0) dL_passTides_15 (by decide) ?_
      refine V_iret dL_passTides_16 rfl rfl ?_
      exact ⟨by rw [h0], fun _ => gL_0, hC1.keepF (P := fun b => b = 65) (Fr.nil.l1 rfl) (fun b hb q => by omega), (hF1.mono (fun b hb => Or.inl hb)).trans ((Fr.nil (P := InL)).l1 (Or.inr (Or.inl rfl)))⟩
    · cases e9
  · rcases hu1 with ⟨⟨h0, e9⟩ | ⟨h0, e9⟩, hC1, hF1⟩
    · cases e9
    · have hle : (fPassTides S t).1 ≤ 1 := le_passTides
      have hcs : (fPassTides S t).1 = 1 := by omega
      have h1 := hcs
      rw [h1] at e9
      have e8 : E9 = "java/lang/IllegalArgumentException" := Sum.inr.inj e9
      subst e8
      refine ⟨13, _, ⟨[], [], (0, 9, 12, 15), "java/lang/IllegalArgumentException", 3, rfl, (List.forall_mem_nil _), ⟨by decide, by decide⟩, by decide, clRL_15, (List.mem_of_getElem? (i := 2) rfl), Nat.le_of_ble_eq_true rfl, rfl, rfl, rfl, Or.inr ⟨3, rfl, dL_passTides_12, rfl⟩⟩, ?_⟩
      refine V_iconst_n (v := 1) dL_passTides_13 (by decide) ?_
      refine V_iret dL_passTides_14 rfl rfl ?_
      exact ⟨by rw [h1], fun q => absurd q (by omega), hC1, hF1.mono (fun b hb => Or.inl hb)⟩
theorem le_wouldLive {r c : Int} {S : Sys} : (fWouldLive S r c).1 ≤ 1 := by
  unfold fWouldLive fCell
  repeat' split
  all_goals first | exact Nat.zero_le _ | exact Nat.le_of_ble_eq_true rfl
set_option maxRecDepth 100000 in
set_option maxHeartbeats 1000000 in
theorem l_wouldLive {x y : Int32} {r c : Int} {S : Sys} {w : Wd} (hC : CI w S) (hx : x = zI r) (hy : y = zI c) (r1 : -2147483648 ≤ r) (r2 : r < 2147483648) (c1 : -2147483648 ≤ c) (c2 : c < 2147483648) : Ct 1 ML_wouldLive 15 4 24 [.ref 0, .int x, .int y, .ref 65] w (LwB (fWouldLive S r c) w) := by
  refine Ct_ofH (by decide +kernel) rfl (Nat.le_of_ble_eq_true rfl) rfl ?_
  refine V_aload_n (i := 3) dL_wouldLive_0 rfl rfl ?_
  refine V_iconst_n (v := 0) dL_wouldLive_1 (by decide) ?_
  refine V_aload_n (i := 0) dL_wouldLive_2 rfl rfl ?_
  refine V_iload_n (i := 1) dL_wouldLive_3 rfl rfl ?_
  refine V_iload_n (i := 2) dL_wouldLive_4 rfl rfl ?_
  refine V_callVH dL_wouldLive_5 (c_wouldLive hC hx hy r1 r2 c1 c2) okX10_wouldLive lkRL_84 (Or.inr ⟨rfl, Nat.le_of_ble_eq_true rfl⟩) rfl rfl rfl rfl (Nat.le_of_ble_eq_true rfl) ⟨Nat.le_of_ble_eq_true rfl, Nat.le_of_ble_eq_true rfl⟩ ⟨by decide, by decide⟩ (fun v9 u1 hu1 => ?_) (fun E9 u1 hu1 => ?_)
  · rcases hu1 with ⟨⟨h0, e9⟩ | ⟨h0, e9⟩, hC1, hF1⟩
    · cases e9
      refine V_if_eq (tgt := 15) dL_wouldLive_8 (by decide) (fun h8 => ?_) (fun h8 => ?_)
      · have hz9 : (fWouldLive S r c).2.1 = 0 := h8
        refine V_lconst (v := 0) dL_wouldLive_15 rfl ?_
        refine V_last dL_wouldLive_16 (Or.inr ⟨rfl, Nat.le_of_ble_eq_true rfl⟩) rfl (in_n (by omega) (by decide)) ?_
        refine V_goto (tgt := 24) dL_wouldLive_17 (by decide) ?_
        refine V_iconst_n (v := 0) dL_wouldLive_24 (by decide) ?_
        refine V_iret dL_wouldLive_25 rfl rfl ?_
        exact ⟨by rw [h0], fun _ => by rw [if_pos hz9]; exact gL_0, hC1.keepF (P := fun b => b = 65) (Fr.nil.l1 rfl) (fun b hb q => by omega), (hF1.mono (fun b hb => Or.inl hb)).trans ((Fr.nil (P := InL)).l1 (Or.inr (Or.inl rfl)))⟩
      · have hz9 : ¬ (fWouldLive S r c).2.1 = 0 := h8
        refine V_lconst (v := 1) dL_wouldLive_11 rfl ?_
        refine V_goto (tgt := 16) dL_wouldLive_12 (by decide) ?_
        refine V_last dL_wouldLive_16 (Or.inr ⟨rfl, Nat.le_of_ble_eq_true rfl⟩) rfl (in_n (by omega) (by decide)) ?_
        refine V_goto (tgt := 24) dL_wouldLive_17 (by decide) ?_
        refine V_iconst_n (v := 0) dL_wouldLive_24 (by decide) ?_
        refine V_iret dL_wouldLive_25 rfl rfl ?_
        exact ⟨by rw [h0], fun _ => by rw [if_neg hz9]; exact gL_0, hC1.keepF (P := fun b => b = 65) (Fr.nil.l1 rfl) (fun b hb q => by omega), (hF1.mono (fun b hb => Or.inl hb)).trans ((Fr.nil (P := InL)).l1 (Or.inr (Or.inl rfl)))⟩
    · cases e9
  · rcases hu1 with ⟨⟨h0, e9⟩ | ⟨h0, e9⟩, hC1, hF1⟩
    · cases e9
    · have hle : (fWouldLive S r c).1 ≤ 1 := le_wouldLive
      have hcs : (fWouldLive S r c).1 = 1 := by omega
      have h1 := hcs
      rw [h1] at e9
      have e8 : E9 = "java/lang/IndexOutOfBoundsException" := Sum.inr.inj e9
      subst e8
      refine ⟨22, _, ⟨[], [], (0, 17, 20, 13), "java/lang/IndexOutOfBoundsException", 4, rfl, (List.forall_mem_nil _), ⟨by decide, by decide⟩, by decide, clRL_13, (List.mem_of_getElem? (i := 1) rfl), Nat.le_of_ble_eq_true rfl, rfl, rfl, rfl, Or.inl ⟨dL_wouldLive_20, rfl⟩⟩, ?_⟩
      refine V_iconst_n (v := 1) dL_wouldLive_22 (by decide) ?_
      refine V_iret dL_wouldLive_23 rfl rfl ?_
      exact ⟨by rw [h1], fun q => absurd q (by omega), hC1, hF1.mono (fun b hb => Or.inl hb)⟩
theorem le_livingAfter {t : Int} {S : Sys} : (fLivingAfter S t).1 ≤ 1 := by
  unfold fLivingAfter
  repeat' split
  all_goals first | exact Nat.zero_le _ | exact Nat.le_of_ble_eq_true rfl
set_option maxRecDepth 100000 in
set_option maxHeartbeats 1000000 in
theorem l_livingAfter {x : Int32} {t : Int} {S : Sys} {w : Wd} (hC : CI w S) (hx : x = zI t) (n1 : -2147483648 ≤ t) (n2 : t < 2147483648) : Ct 1 ML_livingAfter 15 4 24 [.ref 0, .int x, .ref 65] w (LwP (fLivingAfter S t) w) := by
  refine Ct_ofH (by decide +kernel) rfl (Nat.le_of_ble_eq_true rfl) rfl ?_
  refine V_aload_n (i := 2) dL_livingAfter_0 rfl rfl ?_
  refine V_iconst_n (v := 0) dL_livingAfter_1 (by decide) ?_
  refine V_aload_n (i := 0) dL_livingAfter_2 rfl rfl ?_
  refine V_iload_n (i := 1) dL_livingAfter_3 rfl rfl ?_
  refine V_callVH dL_livingAfter_4 (c_livingAfter hC hx n1 n2) okX10_livingAfter lkRL_87 (Or.inr ⟨rfl, Nat.le_of_ble_eq_true rfl⟩) rfl rfl rfl rfl (Nat.le_of_ble_eq_true rfl) ⟨Nat.le_of_ble_eq_true rfl, Nat.le_of_ble_eq_true rfl⟩ ⟨by decide, by decide⟩ (fun v9 u1 hu1 => ?_) (fun E9 u1 hu1 => ?_)
  · rcases hu1 with ⟨⟨h0, e9⟩ | ⟨h0, e9⟩, hC1, hF1⟩
    · cases e9
      refine V_i2l dL_livingAfter_7 ?_
      refine V_last dL_livingAfter_8 (Or.inr ⟨rfl, Nat.le_of_ble_eq_true rfl⟩) rfl (in_n (by omega) (by decide)) ?_
      refine V_goto (tgt := 15) dL_livingAfter_9 (by decide) ?_
      refine V_iconst_n (v := 0) dL_livingAfter_15 (by decide) ?_
      refine V_iret dL_livingAfter_16 rfl rfl ?_
      exact ⟨by rw [h0], fun _ => gL_0, hC1.keepF (P := fun b => b = 65) (Fr.nil.l1 rfl) (fun b hb q => by omega), (hF1.mono (fun b hb => Or.inl hb)).trans ((Fr.nil (P := InL)).l1 (Or.inr (Or.inl rfl)))⟩
    · cases e9
  · rcases hu1 with ⟨⟨h0, e9⟩ | ⟨h0, e9⟩, hC1, hF1⟩
    · cases e9
    · have hle : (fLivingAfter S t).1 ≤ 1 := le_livingAfter
      have hcs : (fLivingAfter S t).1 = 1 := by omega
      have h1 := hcs
      rw [h1] at e9
      have e8 : E9 = "java/lang/IllegalArgumentException" := Sum.inr.inj e9
      subst e8
      refine ⟨13, _, ⟨[], [], (0, 9, 12, 15), "java/lang/IllegalArgumentException", 3, rfl, (List.forall_mem_nil _), ⟨by decide, by decide⟩, by decide, clRL_15, (List.mem_of_getElem? (i := 2) rfl), Nat.le_of_ble_eq_true rfl, rfl, rfl, rfl, Or.inr ⟨3, rfl, dL_livingAfter_12, rfl⟩⟩, ?_⟩
      refine V_iconst_n (v := 1) dL_livingAfter_13 (by decide) ?_
      refine V_iret dL_livingAfter_14 rfl rfl ?_
      exact ⟨by rw [h1], fun q => absurd q (by omega), hC1, hF1.mono (fun b hb => Or.inl hb)⟩
theorem le_tidesUntilStill {S : Sys} : (fTidesUntilStill S).1 ≤ 1 := by
  unfold fTidesUntilStill
  repeat' split
  all_goals first | exact Nat.zero_le _ | exact Nat.le_of_ble_eq_true rfl
set_option maxRecDepth 100000 in
set_option maxHeartbeats 1000000 in
theorem l_tidesUntilStill {S : Sys} {w : Wd} (hC : CI w S) : Ct 1 ML_tidesUntilStill 15 4 24 [.ref 0, .ref 65] w (LwP (fTidesUntilStill S) w) := by
  refine Ct_ofH (by decide +kernel) rfl (Nat.le_of_ble_eq_true rfl) rfl ?_
  refine V_aload_n (i := 1) dL_tidesUntilStill_0 rfl rfl ?_
  refine V_iconst_n (v := 0) dL_tidesUntilStill_1 (by decide) ?_
  refine V_aload_n (i := 0) dL_tidesUntilStill_2 rfl rfl ?_
  refine V_callVH dL_tidesUntilStill_3 (c_tidesUntilStill hC) okX10_tidesUntilStill lkRL_90 (Or.inr ⟨rfl, Nat.le_of_ble_eq_true rfl⟩) rfl rfl rfl rfl (Nat.le_of_ble_eq_true rfl) ⟨Nat.le_of_ble_eq_true rfl, Nat.le_of_ble_eq_true rfl⟩ ⟨by decide, by decide⟩ (fun v9 u1 hu1 => ?_) (fun E9 u1 hu1 => ?_)
  · rcases hu1 with ⟨⟨h0, e9⟩ | ⟨h0, e9⟩, hC1, hF1⟩
    · cases e9
      refine V_i2l dL_tidesUntilStill_6 ?_
      refine V_last dL_tidesUntilStill_7 (Or.inr ⟨rfl, Nat.le_of_ble_eq_true rfl⟩) rfl (in_n (by omega) (by decide)) ?_
      refine V_goto (tgt := 14) dL_tidesUntilStill_8 (by decide) ?_
      refine V_iconst_n (v := 0) dL_tidesUntilStill_14 (by decide) ?_
      refine V_iret dL_tidesUntilStill_15 rfl rfl ?_
      exact ⟨by rw [h0], fun _ => gL_0, hC1.keepF (P := fun b => b = 65) (Fr.nil.l1 rfl) (fun b hb q => by omega), (hF1.mono (fun b hb => Or.inl hb)).trans ((Fr.nil (P := InL)).l1 (Or.inr (Or.inl rfl)))⟩
    · cases e9
  · rcases hu1 with ⟨⟨h0, e9⟩ | ⟨h0, e9⟩, hC1, hF1⟩
    · cases e9
    · have hle : (fTidesUntilStill S).1 ≤ 1 := le_tidesUntilStill
      have hcs : (fTidesUntilStill S).1 = 1 := by omega
      have h1 := hcs
      rw [h1] at e9
      have e8 : E9 = "java/util/NoSuchElementException" := Sum.inr.inj e9
      subst e8
      refine ⟨12, _, ⟨[], [], (0, 8, 11, 52), "java/util/NoSuchElementException", 2, rfl, (List.forall_mem_nil _), ⟨by decide, by decide⟩, by decide, clRL_52, (List.mem_of_getElem? (i := 4) rfl), Nat.le_of_ble_eq_true rfl, rfl, rfl, rfl, Or.inr ⟨2, rfl, dL_tidesUntilStill_11, rfl⟩⟩, ?_⟩
      refine V_iconst_n (v := 1) dL_tidesUntilStill_12 (by decide) ?_
      refine V_iret dL_tidesUntilStill_13 rfl rfl ?_
      exact ⟨by rw [h1], fun q => absurd q (by omega), hC1, hF1.mono (fun b hb => Or.inl hb)⟩
theorem le_isBirth {n : Int} {S : Sys} : (fIsBirth S n).1 ≤ 1 := by
  unfold fIsBirth
  repeat' split
  all_goals first | exact Nat.zero_le _ | exact Nat.le_of_ble_eq_true rfl
set_option maxRecDepth 100000 in
set_option maxHeartbeats 1000000 in
theorem l_isBirth {x : Int32} {n : Int} {S : Sys} {w : Wd} (hC : CI w S) (hx : x = zI n) (n1 : -2147483648 ≤ n) (n2 : n < 2147483648) : Ct 1 ML_isBirth 15 4 24 [.ref 0, .int x, .ref 65] w (LwB (fIsBirth S n) w) := by
  refine Ct_ofH (by decide +kernel) rfl (Nat.le_of_ble_eq_true rfl) rfl ?_
  refine V_aload_n (i := 2) dL_isBirth_0 rfl rfl ?_
  refine V_iconst_n (v := 0) dL_isBirth_1 (by decide) ?_
  refine V_aload_n (i := 0) dL_isBirth_2 rfl rfl ?_
  refine V_iload_n (i := 1) dL_isBirth_3 rfl rfl ?_
  refine V_callVH dL_isBirth_4 (c_isBirth hC hx n1 n2) okX10_isBirth lkRL_94 (Or.inr ⟨rfl, Nat.le_of_ble_eq_true rfl⟩) rfl rfl rfl rfl (Nat.le_of_ble_eq_true rfl) ⟨Nat.le_of_ble_eq_true rfl, Nat.le_of_ble_eq_true rfl⟩ ⟨by decide, by decide⟩ (fun v9 u1 hu1 => ?_) (fun E9 u1 hu1 => ?_)
  · rcases hu1 with ⟨⟨h0, e9⟩ | ⟨h0, e9⟩, hC1, hF1⟩
    · cases e9
      refine V_if_eq (tgt := 14) dL_isBirth_7 (by decide) (fun h7 => ?_) (fun h7 => ?_)
      · have hz9 : (fIsBirth S n).2.1 = 0 := h7
        refine V_lconst (v := 0) dL_isBirth_14 rfl ?_
        refine V_last dL_isBirth_15 (Or.inr ⟨rfl, Nat.le_of_ble_eq_true rfl⟩) rfl (in_n (by omega) (by decide)) ?_
        refine V_goto (tgt := 22) dL_isBirth_16 (by decide) ?_
        refine V_iconst_n (v := 0) dL_isBirth_22 (by decide) ?_
        refine V_iret dL_isBirth_23 rfl rfl ?_
        exact ⟨by rw [h0], fun _ => by rw [if_pos hz9]; exact gL_0, hC1.keepF (P := fun b => b = 65) (Fr.nil.l1 rfl) (fun b hb q => by omega), (hF1.mono (fun b hb => Or.inl hb)).trans ((Fr.nil (P := InL)).l1 (Or.inr (Or.inl rfl)))⟩
      · have hz9 : ¬ (fIsBirth S n).2.1 = 0 := h7
        refine V_lconst (v := 1) dL_isBirth_10 rfl ?_
        refine V_goto (tgt := 15) dL_isBirth_11 (by decide) ?_
        refine V_last dL_isBirth_15 (Or.inr ⟨rfl, Nat.le_of_ble_eq_true rfl⟩) rfl (in_n (by omega) (by decide)) ?_
        refine V_goto (tgt := 22) dL_isBirth_16 (by decide) ?_
        refine V_iconst_n (v := 0) dL_isBirth_22 (by decide) ?_
        refine V_iret dL_isBirth_23 rfl rfl ?_
        exact ⟨by rw [h0], fun _ => by rw [if_neg hz9]; exact gL_0, hC1.keepF (P := fun b => b = 65) (Fr.nil.l1 rfl) (fun b hb q => by omega), (hF1.mono (fun b hb => Or.inl hb)).trans ((Fr.nil (P := InL)).l1 (Or.inr (Or.inl rfl)))⟩
    · cases e9
  · rcases hu1 with ⟨⟨h0, e9⟩ | ⟨h0, e9⟩, hC1, hF1⟩
    · cases e9
    · have hle : (fIsBirth S n).1 ≤ 1 := le_isBirth
      have hcs : (fIsBirth S n).1 = 1 := by omega
      have h1 := hcs
      rw [h1] at e9
      have e8 : E9 = "java/lang/IllegalArgumentException" := Sum.inr.inj e9
      subst e8
      refine ⟨20, _, ⟨[], [], (0, 16, 19, 15), "java/lang/IllegalArgumentException", 3, rfl, (List.forall_mem_nil _), ⟨by decide, by decide⟩, by decide, clRL_15, (List.mem_of_getElem? (i := 2) rfl), Nat.le_of_ble_eq_true rfl, rfl, rfl, rfl, Or.inr ⟨3, rfl, dL_isBirth_19, rfl⟩⟩, ?_⟩
      refine V_iconst_n (v := 1) dL_isBirth_20 (by decide) ?_
      refine V_iret dL_isBirth_21 rfl rfl ?_
      exact ⟨by rw [h1], fun q => absurd q (by omega), hC1, hF1.mono (fun b hb => Or.inl hb)⟩
theorem le_isSurvival {n : Int} {S : Sys} : (fIsSurvival S n).1 ≤ 1 := by
  unfold fIsSurvival
  repeat' split
  all_goals first | exact Nat.zero_le _ | exact Nat.le_of_ble_eq_true rfl
set_option maxRecDepth 100000 in
set_option maxHeartbeats 1000000 in
theorem l_isSurvival {x : Int32} {n : Int} {S : Sys} {w : Wd} (hC : CI w S) (hx : x = zI n) (n1 : -2147483648 ≤ n) (n2 : n < 2147483648) : Ct 1 ML_isSurvival 15 4 24 [.ref 0, .int x, .ref 65] w (LwB (fIsSurvival S n) w) := by
  refine Ct_ofH (by decide +kernel) rfl (Nat.le_of_ble_eq_true rfl) rfl ?_
  refine V_aload_n (i := 2) dL_isSurvival_0 rfl rfl ?_
  refine V_iconst_n (v := 0) dL_isSurvival_1 (by decide) ?_
  refine V_aload_n (i := 0) dL_isSurvival_2 rfl rfl ?_
  refine V_iload_n (i := 1) dL_isSurvival_3 rfl rfl ?_
  refine V_callVH dL_isSurvival_4 (c_isSurvival hC hx n1 n2) okX10_isSurvival lkRL_98 (Or.inr ⟨rfl, Nat.le_of_ble_eq_true rfl⟩) rfl rfl rfl rfl (Nat.le_of_ble_eq_true rfl) ⟨Nat.le_of_ble_eq_true rfl, Nat.le_of_ble_eq_true rfl⟩ ⟨by decide, by decide⟩ (fun v9 u1 hu1 => ?_) (fun E9 u1 hu1 => ?_)
  · rcases hu1 with ⟨⟨h0, e9⟩ | ⟨h0, e9⟩, hC1, hF1⟩
    · cases e9
      refine V_if_eq (tgt := 14) dL_isSurvival_7 (by decide) (fun h7 => ?_) (fun h7 => ?_)
      · have hz9 : (fIsSurvival S n).2.1 = 0 := h7
        refine V_lconst (v := 0) dL_isSurvival_14 rfl ?_
        refine V_last dL_isSurvival_15 (Or.inr ⟨rfl, Nat.le_of_ble_eq_true rfl⟩) rfl (in_n (by omega) (by decide)) ?_
        refine V_goto (tgt := 22) dL_isSurvival_16 (by decide) ?_
        refine V_iconst_n (v := 0) dL_isSurvival_22 (by decide) ?_
        refine V_iret dL_isSurvival_23 rfl rfl ?_
        exact ⟨by rw [h0], fun _ => by rw [if_pos hz9]; exact gL_0, hC1.keepF (P := fun b => b = 65) (Fr.nil.l1 rfl) (fun b hb q => by omega), (hF1.mono (fun b hb => Or.inl hb)).trans ((Fr.nil (P := InL)).l1 (Or.inr (Or.inl rfl)))⟩
      · have hz9 : ¬ (fIsSurvival S n).2.1 = 0 := h7
        refine V_lconst (v := 1) dL_isSurvival_10 rfl ?_
        refine V_goto (tgt := 15) dL_isSurvival_11 (by decide) ?_
        refine V_last dL_isSurvival_15 (Or.inr ⟨rfl, Nat.le_of_ble_eq_true rfl⟩) rfl (in_n (by omega) (by decide)) ?_
        refine V_goto (tgt := 22) dL_isSurvival_16 (by decide) ?_
        refine V_iconst_n (v := 0) dL_isSurvival_22 (by decide) ?_
        refine V_iret dL_isSurvival_23 rfl rfl ?_
        exact ⟨by rw [h0], fun _ => by rw [if_neg hz9]; exact gL_0, hC1.keepF (P := fun b => b = 65) (Fr.nil.l1 rfl) (fun b hb q => by omega), (hF1.mono (fun b hb => Or.inl hb)).trans ((Fr.nil (P := InL)).l1 (Or.inr (Or.inl rfl)))⟩
    · cases e9
  · rcases hu1 with ⟨⟨h0, e9⟩ | ⟨h0, e9⟩, hC1, hF1⟩
    · cases e9
    · have hle : (fIsSurvival S n).1 ≤ 1 := le_isSurvival
      have hcs : (fIsSurvival S n).1 = 1 := by omega
      have h1 := hcs
      rw [h1] at e9
      have e8 : E9 = "java/lang/IllegalArgumentException" := Sum.inr.inj e9
      subst e8
      refine ⟨20, _, ⟨[], [], (0, 16, 19, 15), "java/lang/IllegalArgumentException", 3, rfl, (List.forall_mem_nil _), ⟨by decide, by decide⟩, by decide, clRL_15, (List.mem_of_getElem? (i := 2) rfl), Nat.le_of_ble_eq_true rfl, rfl, rfl, rfl, Or.inr ⟨3, rfl, dL_isSurvival_19, rfl⟩⟩, ?_⟩
      refine V_iconst_n (v := 1) dL_isSurvival_20 (by decide) ?_
      refine V_iret dL_isSurvival_21 rfl rfl ?_
      exact ⟨by rw [h1], fun q => absurd q (by omega), hC1, hF1.mono (fun b hb => Or.inl hb)⟩
theorem le_rowByLiving {x : Int} {S : Sys} : (fRowByLiving S x).1 ≤ 1 := by
  unfold fRowByLiving
  repeat' split
  all_goals first | exact Nat.zero_le _ | exact Nat.le_of_ble_eq_true rfl
set_option maxRecDepth 100000 in
set_option maxHeartbeats 1000000 in
theorem l_rowByLiving {y : Int32} {x : Int} {S : Sys} {w : Wd} (hC : CI w S) (hy : y = zI x) (n1 : -2147483648 ≤ x) (n2 : x < 2147483648) : Ct 1 ML_rowByLiving 15 4 24 [.ref 0, .int y, .ref 65] w (LwP (fRowByLiving S x) w) := by
  refine Ct_ofH (by decide +kernel) rfl (Nat.le_of_ble_eq_true rfl) rfl ?_
  refine V_aload_n (i := 2) dL_rowByLiving_0 rfl rfl ?_
  refine V_iconst_n (v := 0) dL_rowByLiving_1 (by decide) ?_
  refine V_aload_n (i := 0) dL_rowByLiving_2 rfl rfl ?_
  refine V_iload_n (i := 1) dL_rowByLiving_3 rfl rfl ?_
  refine V_callVH dL_rowByLiving_4 (c_rowByLiving hC hy n1 n2) okX10_rowByLiving lkRL_101 (Or.inr ⟨rfl, Nat.le_of_ble_eq_true rfl⟩) rfl rfl rfl rfl (Nat.le_of_ble_eq_true rfl) ⟨Nat.le_of_ble_eq_true rfl, Nat.le_of_ble_eq_true rfl⟩ ⟨by decide, by decide⟩ (fun v9 u1 hu1 => ?_) (fun E9 u1 hu1 => ?_)
  · rcases hu1 with ⟨⟨h0, e9⟩ | ⟨h0, e9⟩, hC1, hF1⟩
    · cases e9
      refine V_i2l dL_rowByLiving_7 ?_
      refine V_last dL_rowByLiving_8 (Or.inr ⟨rfl, Nat.le_of_ble_eq_true rfl⟩) rfl (in_n (by omega) (by decide)) ?_
      refine V_goto (tgt := 15) dL_rowByLiving_9 (by decide) ?_
      refine V_iconst_n (v := 0) dL_rowByLiving_15 (by decide) ?_
      refine V_iret dL_rowByLiving_16 rfl rfl ?_
      exact ⟨by rw [h0], fun _ => gL_0, hC1.keepF (P := fun b => b = 65) (Fr.nil.l1 rfl) (fun b hb q => by omega), (hF1.mono (fun b hb => Or.inl hb)).trans ((Fr.nil (P := InL)).l1 (Or.inr (Or.inl rfl)))⟩
    · cases e9
  · rcases hu1 with ⟨⟨h0, e9⟩ | ⟨h0, e9⟩, hC1, hF1⟩
    · cases e9
    · have hle : (fRowByLiving S x).1 ≤ 1 := le_rowByLiving
      have hcs : (fRowByLiving S x).1 = 1 := by omega
      have h1 := hcs
      rw [h1] at e9
      have e8 : E9 = "java/util/NoSuchElementException" := Sum.inr.inj e9
      subst e8
      refine ⟨13, _, ⟨[], [], (0, 9, 12, 52), "java/util/NoSuchElementException", 3, rfl, (List.forall_mem_nil _), ⟨by decide, by decide⟩, by decide, clRL_52, (List.mem_of_getElem? (i := 4) rfl), Nat.le_of_ble_eq_true rfl, rfl, rfl, rfl, Or.inr ⟨3, rfl, dL_rowByLiving_12, rfl⟩⟩, ?_⟩
      refine V_iconst_n (v := 1) dL_rowByLiving_13 (by decide) ?_
      refine V_iret dL_rowByLiving_14 rfl rfl ?_
      exact ⟨by rw [h1], fun q => absurd q (by omega), hC1, hF1.mono (fun b hb => Or.inl hb)⟩
theorem le_colourByCount {x : Int} {S : Sys} : (fColourByCount S x).1 ≤ 1 := by
  unfold fColourByCount
  repeat' split
  all_goals first | exact Nat.zero_le _ | exact Nat.le_of_ble_eq_true rfl
set_option maxRecDepth 100000 in
set_option maxHeartbeats 1000000 in
theorem l_colourByCount {y : Int32} {x : Int} {S : Sys} {w : Wd} (hC : CI w S) (hy : y = zI x) (n1 : -2147483648 ≤ x) (n2 : x < 2147483648) : Ct 1 ML_colourByCount 15 4 24 [.ref 0, .int y, .ref 65] w (LwP (fColourByCount S x) w) := by
  refine Ct_ofH (by decide +kernel) rfl (Nat.le_of_ble_eq_true rfl) rfl ?_
  refine V_aload_n (i := 2) dL_colourByCount_0 rfl rfl ?_
  refine V_iconst_n (v := 0) dL_colourByCount_1 (by decide) ?_
  refine V_aload_n (i := 0) dL_colourByCount_2 rfl rfl ?_
  refine V_iload_n (i := 1) dL_colourByCount_3 rfl rfl ?_
  refine V_callVH dL_colourByCount_4 (c_colourByCount hC hy n1 n2) okX10_colourByCount lkRL_104 (Or.inr ⟨rfl, Nat.le_of_ble_eq_true rfl⟩) rfl rfl rfl rfl (Nat.le_of_ble_eq_true rfl) ⟨Nat.le_of_ble_eq_true rfl, Nat.le_of_ble_eq_true rfl⟩ ⟨by decide, by decide⟩ (fun v9 u1 hu1 => ?_) (fun E9 u1 hu1 => ?_)
  · rcases hu1 with ⟨⟨h0, e9⟩ | ⟨h0, e9⟩, hC1, hF1⟩
    · cases e9
      refine V_i2l dL_colourByCount_7 ?_
      refine V_last dL_colourByCount_8 (Or.inr ⟨rfl, Nat.le_of_ble_eq_true rfl⟩) rfl (in_n (by omega) (by decide)) ?_
      refine V_goto (tgt := 15) dL_colourByCount_9 (by decide) ?_
      refine V_iconst_n (v := 0) dL_colourByCount_15 (by decide) ?_
      refine V_iret dL_colourByCount_16 rfl rfl ?_
      exact ⟨by rw [h0], fun _ => gL_0, hC1.keepF (P := fun b => b = 65) (Fr.nil.l1 rfl) (fun b hb q => by omega), (hF1.mono (fun b hb => Or.inl hb)).trans ((Fr.nil (P := InL)).l1 (Or.inr (Or.inl rfl)))⟩
    · cases e9
  · rcases hu1 with ⟨⟨h0, e9⟩ | ⟨h0, e9⟩, hC1, hF1⟩
    · cases e9
    · have hle : (fColourByCount S x).1 ≤ 1 := le_colourByCount
      have hcs : (fColourByCount S x).1 = 1 := by omega
      have h1 := hcs
      rw [h1] at e9
      have e8 : E9 = "java/util/NoSuchElementException" := Sum.inr.inj e9
      subst e8
      refine ⟨13, _, ⟨[], [], (0, 9, 12, 52), "java/util/NoSuchElementException", 3, rfl, (List.forall_mem_nil _), ⟨by decide, by decide⟩, by decide, clRL_52, (List.mem_of_getElem? (i := 4) rfl), Nat.le_of_ble_eq_true rfl, rfl, rfl, rfl, Or.inr ⟨3, rfl, dL_colourByCount_12, rfl⟩⟩, ?_⟩
      refine V_iconst_n (v := 1) dL_colourByCount_13 (by decide) ?_
      refine V_iret dL_colourByCount_14 rfl rfl ?_
      exact ⟨by rw [h1], fun q => absurd q (by omega), hC1, hF1.mono (fun b hb => Or.inl hb)⟩
theorem le_meanAge {S : Sys} : (fMeanK S) ≤ 1 := by
  unfold fMeanK
  repeat' split
  all_goals first | exact Nat.zero_le _ | exact Nat.le_of_ble_eq_true rfl
set_option maxRecDepth 100000 in
set_option maxHeartbeats 1000000 in
theorem l_meanAge {S : Sys} {w : Wd} (hC : CI w S) : Ct 1 ML_meanAge 15 4 24 [.ref 0, .ref 66] w (LwD (fMeanK S) (fMeanV S) S w) := by
  refine Ct_ofH (by decide +kernel) rfl (Nat.le_of_ble_eq_true rfl) rfl ?_
  refine V_aload_n (i := 1) dL_meanAge_0 rfl rfl ?_
  refine V_iconst_n (v := 0) dL_meanAge_1 (by decide) ?_
  refine V_aload_n (i := 0) dL_meanAge_2 rfl rfl ?_
  refine V_callVH dL_meanAge_3 (c_meanAge hC) okX10_meanAge lkRL_108 (Or.inr ⟨rfl, Nat.le_of_ble_eq_true rfl⟩) rfl rfl rfl rfl (Nat.le_of_ble_eq_true rfl) ⟨Nat.le_of_ble_eq_true rfl, Nat.le_of_ble_eq_true rfl⟩ ⟨by decide, by decide⟩ (fun v9 u1 hu1 => ?_) (fun E9 u1 hu1 => ?_)
  · rcases hu1 with ⟨⟨h0, e9⟩ | ⟨h0, e9⟩, hC1, hF1⟩
    · cases e9
      refine V_dast dL_meanAge_6 (Or.inr ⟨rfl, Nat.le_of_ble_eq_true rfl⟩) rfl (in_n (by omega) (by decide)) ?_
      refine V_goto (tgt := 13) dL_meanAge_7 (by decide) ?_
      refine V_iconst_n (v := 0) dL_meanAge_13 (by decide) ?_
      refine V_iret dL_meanAge_14 rfl rfl ?_
      exact ⟨by rw [h0], fun _ => gF_0, hC1.keepF (P := fun b => b = 66) (Fr.nil.f1 rfl) (fun b hb q => by omega), (hF1.mono (fun b hb => Or.inl hb)).trans ((Fr.nil (P := InL)).f1 (Or.inr (Or.inr rfl)))⟩
    · cases e9
  · rcases hu1 with ⟨⟨h0, e9⟩ | ⟨h0, e9⟩, hC1, hF1⟩
    · cases e9
    · have hle : (fMeanK S) ≤ 1 := le_meanAge
      have hcs : (fMeanK S) = 1 := by omega
      have h1 := hcs
      rw [h1] at e9
      have e8 : E9 = "java/lang/ArithmeticException" := Sum.inr.inj e9
      subst e8
      refine ⟨11, _, ⟨[], [], (0, 7, 10, 112), "java/lang/ArithmeticException", 2, rfl, (List.forall_mem_nil _), ⟨by decide, by decide⟩, by decide, clRL_112, (List.mem_of_getElem? (i := 5) rfl), Nat.le_of_ble_eq_true rfl, rfl, rfl, rfl, Or.inr ⟨2, rfl, dL_meanAge_10, rfl⟩⟩, ?_⟩
      refine V_iconst_n (v := 1) dL_meanAge_11 (by decide) ?_
      refine V_iret dL_meanAge_12 rfl rfl ?_
      exact ⟨by rw [h1], fun q => absurd q (by omega), hC1, hF1.mono (fun b hb => Or.inl hb)⟩
theorem le_livingShare {S : Sys} : (fShareK S) ≤ 1 := by
  unfold fShareK
  repeat' split
  all_goals first | exact Nat.zero_le _ | exact Nat.le_of_ble_eq_true rfl
set_option maxRecDepth 100000 in
set_option maxHeartbeats 1000000 in
theorem l_livingShare {S : Sys} {w : Wd} (hC : CI w S) : Ct 1 ML_livingShare 15 4 24 [.ref 0, .ref 66] w (LwD (fShareK S) (FP.f2d (fShareV S)) S w) := by
  refine Ct_ofH (by decide +kernel) rfl (Nat.le_of_ble_eq_true rfl) rfl ?_
  refine V_aload_n (i := 1) dL_livingShare_0 rfl rfl ?_
  refine V_iconst_n (v := 0) dL_livingShare_1 (by decide) ?_
  refine V_aload_n (i := 0) dL_livingShare_2 rfl rfl ?_
  refine V_callVH dL_livingShare_3 (c_livingShare hC) okX10_livingShare lkRL_114 (Or.inr ⟨rfl, Nat.le_of_ble_eq_true rfl⟩) rfl rfl rfl rfl (Nat.le_of_ble_eq_true rfl) ⟨Nat.le_of_ble_eq_true rfl, Nat.le_of_ble_eq_true rfl⟩ ⟨by decide, by decide⟩ (fun v9 u1 hu1 => ?_) (fun E9 u1 hu1 => ?_)
  · rcases hu1 with ⟨⟨h0, e9⟩ | ⟨h0, e9⟩, hC1, hF1⟩
    · cases e9
      refine V_f2d dL_livingShare_6 (fpt_sh h0) ?_
      refine V_dast dL_livingShare_7 (Or.inr ⟨rfl, Nat.le_of_ble_eq_true rfl⟩) rfl (in_n (by omega) (by decide)) ?_
      refine V_goto (tgt := 14) dL_livingShare_8 (by decide) ?_
      refine V_iconst_n (v := 0) dL_livingShare_14 (by decide) ?_
      refine V_iret dL_livingShare_15 rfl rfl ?_
      exact ⟨by rw [h0], fun _ => gF_0, hC1.keepF (P := fun b => b = 66) (Fr.nil.f1 rfl) (fun b hb q => by omega), (hF1.mono (fun b hb => Or.inl hb)).trans ((Fr.nil (P := InL)).f1 (Or.inr (Or.inr rfl)))⟩
    · cases e9
  · rcases hu1 with ⟨⟨h0, e9⟩ | ⟨h0, e9⟩, hC1, hF1⟩
    · cases e9
    · have hle : (fShareK S) ≤ 1 := le_livingShare
      have hcs : (fShareK S) = 1 := by omega
      have h1 := hcs
      rw [h1] at e9
      have e8 : E9 = "java/lang/ArithmeticException" := Sum.inr.inj e9
      subst e8
      refine ⟨12, _, ⟨[], [], (0, 8, 11, 112), "java/lang/ArithmeticException", 2, rfl, (List.forall_mem_nil _), ⟨by decide, by decide⟩, by decide, clRL_112, (List.mem_of_getElem? (i := 5) rfl), Nat.le_of_ble_eq_true rfl, rfl, rfl, rfl, Or.inr ⟨2, rfl, dL_livingShare_11, rfl⟩⟩, ?_⟩
      refine V_iconst_n (v := 1) dL_livingShare_12 (by decide) ?_
      refine V_iret dL_livingShare_13 rfl rfl ?_
      exact ⟨by rw [h1], fun q => absurd q (by omega), hC1, hF1.mono (fun b hb => Or.inl hb)⟩
theorem le_writeRow {r : Int} {S : Sys} : (fWriteRow S r).1 ≤ 1 := by
  unfold fWriteRow
  repeat' split
  all_goals first | exact Nat.zero_le _ | exact Nat.le_of_ble_eq_true rfl
set_option maxRecDepth 100000 in
set_option maxHeartbeats 1000000 in
theorem l_writeRow {x : Int32} {r : Int} {S : Sys} {w : Wd} (hC : CI w S) (hx : x = zI r) (n1 : -2147483648 ≤ r) (n2 : r < 2147483648) : Ct 1 ML_writeRow 15 4 24 [.ref 0, .int x, .ref 65] w (LwP (fWriteRow S r) w) := by
  refine Ct_ofH (by decide +kernel) rfl (Nat.le_of_ble_eq_true rfl) rfl ?_
  refine V_aload_n (i := 2) dL_writeRow_0 rfl rfl ?_
  refine V_iconst_n (v := 0) dL_writeRow_1 (by decide) ?_
  refine V_aload_n (i := 0) dL_writeRow_2 rfl rfl ?_
  refine V_iload_n (i := 1) dL_writeRow_3 rfl rfl ?_
  refine V_callVH dL_writeRow_4 (c_writeRow hC hx n1 n2) okX10_writeRow lkRL_118 (Or.inr ⟨rfl, Nat.le_of_ble_eq_true rfl⟩) rfl rfl rfl rfl (Nat.le_of_ble_eq_true rfl) ⟨Nat.le_of_ble_eq_true rfl, Nat.le_of_ble_eq_true rfl⟩ ⟨by decide, by decide⟩ (fun v9 u1 hu1 => ?_) (fun E9 u1 hu1 => ?_)
  · rcases hu1 with ⟨⟨h0, e9⟩ | ⟨h0, e9⟩, hC1, hF1⟩
    · cases e9
      refine V_i2l dL_writeRow_7 ?_
      refine V_last dL_writeRow_8 (Or.inr ⟨rfl, Nat.le_of_ble_eq_true rfl⟩) rfl (in_n (by omega) (by decide)) ?_
      refine V_goto (tgt := 15) dL_writeRow_9 (by decide) ?_
      refine V_iconst_n (v := 0) dL_writeRow_15 (by decide) ?_
      refine V_iret dL_writeRow_16 rfl rfl ?_
      exact ⟨by rw [h0], fun _ => gL_0, hC1.keepF (P := fun b => b = 65) (Fr.nil.l1 rfl) (fun b hb q => by omega), (hF1.mono (fun b hb => Or.inl hb)).trans ((Fr.nil (P := InL)).l1 (Or.inr (Or.inl rfl)))⟩
    · cases e9
  · rcases hu1 with ⟨⟨h0, e9⟩ | ⟨h0, e9⟩, hC1, hF1⟩
    · cases e9
    · have hle : (fWriteRow S r).1 ≤ 1 := le_writeRow
      have hcs : (fWriteRow S r).1 = 1 := by omega
      have h1 := hcs
      rw [h1] at e9
      have e8 : E9 = "java/lang/IndexOutOfBoundsException" := Sum.inr.inj e9
      subst e8
      refine ⟨13, _, ⟨[], [], (0, 9, 12, 13), "java/lang/IndexOutOfBoundsException", 3, rfl, (List.forall_mem_nil _), ⟨by decide, by decide⟩, by decide, clRL_13, (List.mem_of_getElem? (i := 1) rfl), Nat.le_of_ble_eq_true rfl, rfl, rfl, rfl, Or.inr ⟨3, rfl, dL_writeRow_12, rfl⟩⟩, ?_⟩
      refine V_iconst_n (v := 1) dL_writeRow_13 (by decide) ?_
      refine V_iret dL_writeRow_14 rfl rfl ?_
      exact ⟨by rw [h1], fun q => absurd q (by omega), hC1, hF1.mono (fun b hb => Or.inl hb)⟩
theorem le_outputAt {i : Int} {S : Sys} : (fOutputAt S i).1 ≤ 1 := by
  unfold fOutputAt
  repeat' split
  all_goals first | exact Nat.zero_le _ | exact Nat.le_of_ble_eq_true rfl
set_option maxRecDepth 100000 in
set_option maxHeartbeats 1000000 in
theorem l_outputAt {x : Int32} {i : Int} {S : Sys} {w : Wd} (hC : CI w S) (hx : x = zI i) (n1 : -2147483648 ≤ i) (n2 : i < 2147483648) : Ct 1 ML_outputAt 15 4 24 [.ref 0, .int x, .ref 65] w (LwP (fOutputAt S i) w) := by
  refine Ct_ofH (by decide +kernel) rfl (Nat.le_of_ble_eq_true rfl) rfl ?_
  refine V_aload_n (i := 2) dL_outputAt_0 rfl rfl ?_
  refine V_iconst_n (v := 0) dL_outputAt_1 (by decide) ?_
  refine V_aload_n (i := 0) dL_outputAt_2 rfl rfl ?_
  refine V_iload_n (i := 1) dL_outputAt_3 rfl rfl ?_
  refine V_callVH dL_outputAt_4 (c_outputAt hC hx n1 n2) okX10_outputAt lkRL_121 (Or.inr ⟨rfl, Nat.le_of_ble_eq_true rfl⟩) rfl rfl rfl rfl (Nat.le_of_ble_eq_true rfl) ⟨Nat.le_of_ble_eq_true rfl, Nat.le_of_ble_eq_true rfl⟩ ⟨by decide, by decide⟩ (fun v9 u1 hu1 => ?_) (fun E9 u1 hu1 => ?_)
  · rcases hu1 with ⟨⟨h0, e9⟩ | ⟨h0, e9⟩, hC1, hF1⟩
    · cases e9
      refine V_i2l dL_outputAt_7 ?_
      refine V_last dL_outputAt_8 (Or.inr ⟨rfl, Nat.le_of_ble_eq_true rfl⟩) rfl (in_n (by omega) (by decide)) ?_
      refine V_goto (tgt := 15) dL_outputAt_9 (by decide) ?_
      refine V_iconst_n (v := 0) dL_outputAt_15 (by decide) ?_
      refine V_iret dL_outputAt_16 rfl rfl ?_
      exact ⟨by rw [h0], fun _ => gL_0, hC1.keepF (P := fun b => b = 65) (Fr.nil.l1 rfl) (fun b hb q => by omega), (hF1.mono (fun b hb => Or.inl hb)).trans ((Fr.nil (P := InL)).l1 (Or.inr (Or.inl rfl)))⟩
    · cases e9
  · rcases hu1 with ⟨⟨h0, e9⟩ | ⟨h0, e9⟩, hC1, hF1⟩
    · cases e9
    · have hle : (fOutputAt S i).1 ≤ 1 := le_outputAt
      have hcs : (fOutputAt S i).1 = 1 := by omega
      have h1 := hcs
      rw [h1] at e9
      have e8 : E9 = "java/lang/IndexOutOfBoundsException" := Sum.inr.inj e9
      subst e8
      refine ⟨13, _, ⟨[], [], (0, 9, 12, 13), "java/lang/IndexOutOfBoundsException", 3, rfl, (List.forall_mem_nil _), ⟨by decide, by decide⟩, by decide, clRL_13, (List.mem_of_getElem? (i := 1) rfl), Nat.le_of_ble_eq_true rfl, rfl, rfl, rfl, Or.inr ⟨3, rfl, dL_outputAt_12, rfl⟩⟩, ?_⟩
      refine V_iconst_n (v := 1) dL_outputAt_13 (by decide) ?_
      refine V_iret dL_outputAt_14 rfl rfl ?_
      exact ⟨by rw [h1], fun q => absurd q (by omega), hC1, hF1.mono (fun b hb => Or.inl hb)⟩
theorem le_appendInput {q : Nat} {S : Sys} : (fAppendInput S q).1 ≤ 2 := by
  unfold fAppendInput
  repeat' split
  all_goals first | exact Nat.zero_le _ | exact Nat.le_of_ble_eq_true rfl
set_option maxRecDepth 100000 in
set_option maxHeartbeats 1000000 in
theorem l_appendInput {q : Nat} {S : Sys} {w : Wd} (hC : CI w S) (hq : q < 65536) : Ct 1 ML_appendInput 15 4 24 [.ref 0, .int (nI q), .ref 65] w (LwP (fAppendInput S q) w) := by
  refine Ct_ofH (by decide +kernel) rfl (Nat.le_of_ble_eq_true rfl) rfl ?_
  refine V_aload_n (i := 2) dL_appendInput_0 rfl rfl ?_
  refine V_iconst_n (v := 0) dL_appendInput_1 (by decide) ?_
  refine V_aload_n (i := 0) dL_appendInput_2 rfl rfl ?_
  refine V_iload_n (i := 1) dL_appendInput_3 rfl rfl ?_
  refine V_callVH dL_appendInput_4 (c_appendInput hC hq) okX10_appendInput lkRL_124 (Or.inr ⟨rfl, Nat.le_of_ble_eq_true rfl⟩) rfl rfl rfl rfl (Nat.le_of_ble_eq_true rfl) ⟨Nat.le_of_ble_eq_true rfl, Nat.le_of_ble_eq_true rfl⟩ ⟨by decide, by decide⟩ (fun v9 u1 hu1 => ?_) (fun E9 u1 hu1 => ?_)
  · rcases hu1 with ⟨⟨h0, e9⟩ | ⟨h0, e9⟩, hC1, hF1⟩
    · cases e9
      refine V_i2l dL_appendInput_7 ?_
      refine V_last dL_appendInput_8 (Or.inr ⟨rfl, Nat.le_of_ble_eq_true rfl⟩) rfl (in_n (by omega) (by decide)) ?_
      refine V_goto (tgt := 18) dL_appendInput_9 (by decide) ?_
      refine V_iconst_n (v := 0) dL_appendInput_18 (by decide) ?_
      refine V_iret dL_appendInput_19 rfl rfl ?_
      exact ⟨by rw [h0], fun _ => gL_0, hC1.keepF (P := fun b => b = 65) (Fr.nil.l1 rfl) (fun b hb q => by omega), (hF1.mono (fun b hb => Or.inl hb)).trans ((Fr.nil (P := InL)).l1 (Or.inr (Or.inl rfl)))⟩
    · cases e9
  · rcases hu1 with ⟨⟨h0, e9⟩ | ⟨h0, e9⟩, hC1, hF1⟩
    · cases e9
    · have hle : (fAppendInput S q).1 ≤ 2 := le_appendInput
      have hcs : (fAppendInput S q).1 = 1 ∨ (fAppendInput S q).1 = 2 := by omega
      rcases hcs with h1 | h1
      · rw [h1] at e9
        have e8 : E9 = "java/lang/IllegalArgumentException" := Sum.inr.inj e9
        subst e8
        refine ⟨13, _, ⟨[], [(0, 9, 15, 127)], (0, 9, 12, 15), "java/lang/IllegalArgumentException", 3, rfl, (List.forall_mem_nil _), ⟨by decide, by decide⟩, by decide, clRL_15, (List.mem_of_getElem? (i := 2) rfl), Nat.le_of_ble_eq_true rfl, rfl, rfl, rfl, Or.inr ⟨3, rfl, dL_appendInput_12, rfl⟩⟩, ?_⟩
        refine V_iconst_n (v := 1) dL_appendInput_13 (by decide) ?_
        refine V_iret dL_appendInput_14 rfl rfl ?_
        exact ⟨by rw [h1], fun q => absurd q (by omega), hC1, hF1.mono (fun b hb => Or.inl hb)⟩
      · rw [h1] at e9
        have e8 : E9 = "java/lang/IllegalStateException" := Sum.inr.inj e9
        subst e8
        refine ⟨16, _, ⟨[(0, 9, 12, 15)], [], (0, 9, 15, 127), "java/lang/IllegalStateException", 3, rfl, (List.forall_mem_cons.mpr ⟨⟨by decide, "java/lang/IllegalArgumentException", clRL_15, (List.mem_of_getElem? (i := 32) rfl)⟩, (List.forall_mem_nil _)⟩), ⟨by decide, by decide⟩, by decide, clRL_127, (List.mem_of_getElem? (i := 6) rfl), Nat.le_of_ble_eq_true rfl, rfl, rfl, rfl, Or.inr ⟨3, rfl, dL_appendInput_15, rfl⟩⟩, ?_⟩
        refine V_iconst_n (v := 2) dL_appendInput_16 (by decide) ?_
        refine V_iret dL_appendInput_17 rfl rfl ?_
        exact ⟨by rw [h1], fun q => absurd q (by omega), hC1, hF1.mono (fun b hb => Or.inl hb)⟩
set_option maxRecDepth 100000 in
set_option maxHeartbeats 1000000 in
theorem l_execute {S : Sys} {w : Wd} (hC : CI w S) : Ct 1 ML_execute 15 4 24 [.ref 0, .ref 65] w (fun o w1 => ∃ R : Res, ExR S R ∧ LwP R w o w1) := by
  refine Ct_ofH (by decide +kernel) rfl (Nat.le_of_ble_eq_true rfl) rfl ?_
  refine V_aload_n (i := 1) dL_execute_0 rfl rfl ?_
  refine V_iconst_n (v := 0) dL_execute_1 (by decide) ?_
  refine V_aload_n (i := 0) dL_execute_2 rfl rfl ?_
  refine V_callVH dL_execute_3 (c_execute hC) okX10_execute lkRL_129 (Or.inr ⟨rfl, Nat.le_of_ble_eq_true rfl⟩) rfl rfl rfl rfl (Nat.le_of_ble_eq_true rfl) ⟨Nat.le_of_ble_eq_true rfl, Nat.le_of_ble_eq_true rfl⟩ ⟨by decide, by decide⟩ (fun v9 u1 hu1 => ?_) (fun E9 u1 hu1 => ?_)
  · rcases hu1 with ⟨R, hx, ⟨h0, e9⟩ | ⟨h0, e9⟩, hC1, hF1⟩
    · cases e9
      refine V_i2l dL_execute_6 ?_
      refine V_last dL_execute_7 (Or.inr ⟨rfl, Nat.le_of_ble_eq_true rfl⟩) rfl (in_n (by omega) (by decide)) ?_
      refine V_goto (tgt := 20) dL_execute_8 (by decide) ?_
      refine V_iconst_n (v := 0) dL_execute_20 (by decide) ?_
      refine V_iret dL_execute_21 rfl rfl ?_
      exact ⟨R, hx, by rw [h0], fun _ => gL_0, hC1.keepF (P := fun b => b = 65) (Fr.nil.l1 rfl) (fun b hb q => by omega), (hF1.mono (fun b hb => Or.inl hb)).trans ((Fr.nil (P := InL)).l1 (Or.inr (Or.inl rfl)))⟩
    · cases e9
  · rcases hu1 with ⟨R, hx, ⟨h0, e9⟩ | ⟨h0, e9⟩, hC1, hF1⟩
    · cases e9
    · have hle : R.1 ≤ 3 := ExR_le hx
      have hcs : R.1 = 1 ∨ R.1 = 2 ∨ R.1 = 3 := by omega
      rcases hcs with h1 | h1 | h1
      · rw [h1] at e9
        have e8 : E9 = "java/lang/IllegalArgumentException" := Sum.inr.inj e9
        subst e8
        refine ⟨12, _, ⟨[], [(0, 8, 14, 127), (0, 8, 17, 17)], (0, 8, 11, 15), "java/lang/IllegalArgumentException", 2, rfl, (List.forall_mem_nil _), ⟨by decide, by decide⟩, by decide, clRL_15, (List.mem_of_getElem? (i := 2) rfl), Nat.le_of_ble_eq_true rfl, rfl, rfl, rfl, Or.inr ⟨2, rfl, dL_execute_11, rfl⟩⟩, ?_⟩
        refine V_iconst_n (v := 1) dL_execute_12 (by decide) ?_
        refine V_iret dL_execute_13 rfl rfl ?_
        exact ⟨R, hx, by rw [h1], fun q => absurd q (by omega), hC1, hF1.mono (fun b hb => Or.inl hb)⟩
      · rw [h1] at e9
        have e8 : E9 = "java/lang/IllegalStateException" := Sum.inr.inj e9
        subst e8
        refine ⟨15, _, ⟨[(0, 8, 11, 15)], [(0, 8, 17, 17)], (0, 8, 14, 127), "java/lang/IllegalStateException", 2, rfl, (List.forall_mem_cons.mpr ⟨⟨by decide, "java/lang/IllegalArgumentException", clRL_15, (List.mem_of_getElem? (i := 32) rfl)⟩, (List.forall_mem_nil _)⟩), ⟨by decide, by decide⟩, by decide, clRL_127, (List.mem_of_getElem? (i := 6) rfl), Nat.le_of_ble_eq_true rfl, rfl, rfl, rfl, Or.inr ⟨2, rfl, dL_execute_14, rfl⟩⟩, ?_⟩
        refine V_iconst_n (v := 2) dL_execute_15 (by decide) ?_
        refine V_iret dL_execute_16 rfl rfl ?_
        exact ⟨R, hx, by rw [h1], fun q => absurd q (by omega), hC1, hF1.mono (fun b hb => Or.inl hb)⟩
      · rw [h1] at e9
        have e8 : E9 = "java/lang/UnsupportedOperationException" := Sum.inr.inj e9
        subst e8
        refine ⟨18, _, ⟨[(0, 8, 11, 15), (0, 8, 14, 127)], [], (0, 8, 17, 17), "java/lang/UnsupportedOperationException", 2, rfl, (List.forall_mem_cons.mpr ⟨⟨by decide, "java/lang/IllegalArgumentException", clRL_15, (List.mem_of_getElem? (i := 29) rfl)⟩, (List.forall_mem_cons.mpr ⟨⟨by decide, "java/lang/IllegalStateException", clRL_127, (List.mem_of_getElem? (i := 98) rfl)⟩, (List.forall_mem_nil _)⟩)⟩), ⟨by decide, by decide⟩, by decide, clRL_17, (List.mem_of_getElem? (i := 3) rfl), Nat.le_of_ble_eq_true rfl, rfl, rfl, rfl, Or.inr ⟨2, rfl, dL_execute_17, rfl⟩⟩, ?_⟩
        refine V_iconst_n (v := 3) dL_execute_18 (by decide) ?_
        refine V_iret dL_execute_19 rfl rfl ?_
        exact ⟨R, hx, by rw [h1], fun q => absurd q (by omega), hC1, hF1.mono (fun b hb => Or.inl hb)⟩
theorem le_syntaxErrorOffset {S : Sys} : (fSyntaxErrorOffset S).1 ≤ 1 := by
  unfold fSyntaxErrorOffset
  repeat' split
  all_goals first | exact Nat.zero_le _ | exact Nat.le_of_ble_eq_true rfl
set_option maxRecDepth 100000 in
set_option maxHeartbeats 1000000 in
theorem l_syntaxErrorOffset {S : Sys} {w : Wd} (hC : CI w S) : Ct 1 ML_syntaxErrorOffset 15 4 24 [.ref 0, .ref 65] w (LwP (fSyntaxErrorOffset S) w) := by
  refine Ct_ofH (by decide +kernel) rfl (Nat.le_of_ble_eq_true rfl) rfl ?_
  refine V_aload_n (i := 1) dL_syntaxErrorOffset_0 rfl rfl ?_
  refine V_iconst_n (v := 0) dL_syntaxErrorOffset_1 (by decide) ?_
  refine V_aload_n (i := 0) dL_syntaxErrorOffset_2 rfl rfl ?_
  refine V_callVH dL_syntaxErrorOffset_3 (c_syntaxErrorOffset hC) okX10_syntaxErrorOffset lkRL_132 (Or.inr ⟨rfl, Nat.le_of_ble_eq_true rfl⟩) rfl rfl rfl rfl (Nat.le_of_ble_eq_true rfl) ⟨Nat.le_of_ble_eq_true rfl, Nat.le_of_ble_eq_true rfl⟩ ⟨by decide, by decide⟩ (fun v9 u1 hu1 => ?_) (fun E9 u1 hu1 => ?_)
  · rcases hu1 with ⟨⟨h0, e9⟩ | ⟨h0, e9⟩, hC1, hF1⟩
    · cases e9
      refine V_i2l dL_syntaxErrorOffset_6 ?_
      refine V_last dL_syntaxErrorOffset_7 (Or.inr ⟨rfl, Nat.le_of_ble_eq_true rfl⟩) rfl (in_n (by omega) (by decide)) ?_
      refine V_goto (tgt := 14) dL_syntaxErrorOffset_8 (by decide) ?_
      refine V_iconst_n (v := 0) dL_syntaxErrorOffset_14 (by decide) ?_
      refine V_iret dL_syntaxErrorOffset_15 rfl rfl ?_
      exact ⟨by rw [h0], fun _ => gL_0, hC1.keepF (P := fun b => b = 65) (Fr.nil.l1 rfl) (fun b hb q => by omega), (hF1.mono (fun b hb => Or.inl hb)).trans ((Fr.nil (P := InL)).l1 (Or.inr (Or.inl rfl)))⟩
    · cases e9
  · rcases hu1 with ⟨⟨h0, e9⟩ | ⟨h0, e9⟩, hC1, hF1⟩
    · cases e9
    · have hle : (fSyntaxErrorOffset S).1 ≤ 1 := le_syntaxErrorOffset
      have hcs : (fSyntaxErrorOffset S).1 = 1 := by omega
      have h1 := hcs
      rw [h1] at e9
      have e8 : E9 = "java/util/NoSuchElementException" := Sum.inr.inj e9
      subst e8
      refine ⟨12, _, ⟨[], [], (0, 8, 11, 52), "java/util/NoSuchElementException", 2, rfl, (List.forall_mem_nil _), ⟨by decide, by decide⟩, by decide, clRL_52, (List.mem_of_getElem? (i := 4) rfl), Nat.le_of_ble_eq_true rfl, rfl, rfl, rfl, Or.inr ⟨2, rfl, dL_syntaxErrorOffset_11, rfl⟩⟩, ?_⟩
      refine V_iconst_n (v := 1) dL_syntaxErrorOffset_12 (by decide) ?_
      refine V_iret dL_syntaxErrorOffset_13 rfl rfl ?_
      exact ⟨by rw [h1], fun q => absurd q (by omega), hC1, hF1.mono (fun b hb => Or.inl hb)⟩
theorem le_rejectionReason {S : Sys} : (fRejectionReason S).1 ≤ 1 := by
  unfold fRejectionReason
  repeat' split
  all_goals first | exact Nat.zero_le _ | exact Nat.le_of_ble_eq_true rfl
set_option maxRecDepth 100000 in
set_option maxHeartbeats 1000000 in
theorem l_rejectionReason {S : Sys} {w : Wd} (hC : CI w S) : Ct 1 ML_rejectionReason 15 4 24 [.ref 0, .ref 65] w (LwP (fRejectionReason S) w) := by
  refine Ct_ofH (by decide +kernel) rfl (Nat.le_of_ble_eq_true rfl) rfl ?_
  refine V_aload_n (i := 1) dL_rejectionReason_0 rfl rfl ?_
  refine V_iconst_n (v := 0) dL_rejectionReason_1 (by decide) ?_
  refine V_aload_n (i := 0) dL_rejectionReason_2 rfl rfl ?_
  refine V_callVH dL_rejectionReason_3 (c_rejectionReason hC) okX10_rejectionReason lkRL_135 (Or.inr ⟨rfl, Nat.le_of_ble_eq_true rfl⟩) rfl rfl rfl rfl (Nat.le_of_ble_eq_true rfl) ⟨Nat.le_of_ble_eq_true rfl, Nat.le_of_ble_eq_true rfl⟩ ⟨by decide, by decide⟩ (fun v9 u1 hu1 => ?_) (fun E9 u1 hu1 => ?_)
  · rcases hu1 with ⟨⟨h0, e9⟩ | ⟨h0, e9⟩, hC1, hF1⟩
    · cases e9
      refine V_i2l dL_rejectionReason_6 ?_
      refine V_last dL_rejectionReason_7 (Or.inr ⟨rfl, Nat.le_of_ble_eq_true rfl⟩) rfl (in_n (by omega) (by decide)) ?_
      refine V_goto (tgt := 14) dL_rejectionReason_8 (by decide) ?_
      refine V_iconst_n (v := 0) dL_rejectionReason_14 (by decide) ?_
      refine V_iret dL_rejectionReason_15 rfl rfl ?_
      exact ⟨by rw [h0], fun _ => gL_0, hC1.keepF (P := fun b => b = 65) (Fr.nil.l1 rfl) (fun b hb q => by omega), (hF1.mono (fun b hb => Or.inl hb)).trans ((Fr.nil (P := InL)).l1 (Or.inr (Or.inl rfl)))⟩
    · cases e9
  · rcases hu1 with ⟨⟨h0, e9⟩ | ⟨h0, e9⟩, hC1, hF1⟩
    · cases e9
    · have hle : (fRejectionReason S).1 ≤ 1 := le_rejectionReason
      have hcs : (fRejectionReason S).1 = 1 := by omega
      have h1 := hcs
      rw [h1] at e9
      have e8 : E9 = "java/util/NoSuchElementException" := Sum.inr.inj e9
      subst e8
      refine ⟨12, _, ⟨[], [], (0, 8, 11, 52), "java/util/NoSuchElementException", 2, rfl, (List.forall_mem_nil _), ⟨by decide, by decide⟩, by decide, clRL_52, (List.mem_of_getElem? (i := 4) rfl), Nat.le_of_ble_eq_true rfl, rfl, rfl, rfl, Or.inr ⟨2, rfl, dL_rejectionReason_11, rfl⟩⟩, ?_⟩
      refine V_iconst_n (v := 1) dL_rejectionReason_12 (by decide) ?_
      refine V_iret dL_rejectionReason_13 rfl rfl ?_
      exact ⟨by rw [h1], fun q => absurd q (by omega), hC1, hF1.mono (fun b hb => Or.inl hb)⟩
theorem le_rejectionDetail {S : Sys} : (fRejectionDetail S).1 ≤ 1 := by
  unfold fRejectionDetail
  repeat' split
  all_goals first | exact Nat.zero_le _ | exact Nat.le_of_ble_eq_true rfl
set_option maxRecDepth 100000 in
set_option maxHeartbeats 1000000 in
theorem l_rejectionDetail {S : Sys} {w : Wd} (hC : CI w S) : Ct 1 ML_rejectionDetail 15 4 24 [.ref 0, .ref 65] w (LwP (fRejectionDetail S) w) := by
  refine Ct_ofH (by decide +kernel) rfl (Nat.le_of_ble_eq_true rfl) rfl ?_
  refine V_aload_n (i := 1) dL_rejectionDetail_0 rfl rfl ?_
  refine V_iconst_n (v := 0) dL_rejectionDetail_1 (by decide) ?_
  refine V_aload_n (i := 0) dL_rejectionDetail_2 rfl rfl ?_
  refine V_callVH dL_rejectionDetail_3 (c_rejectionDetail hC) okX10_rejectionDetail lkRL_138 (Or.inr ⟨rfl, Nat.le_of_ble_eq_true rfl⟩) rfl rfl rfl rfl (Nat.le_of_ble_eq_true rfl) ⟨Nat.le_of_ble_eq_true rfl, Nat.le_of_ble_eq_true rfl⟩ ⟨by decide, by decide⟩ (fun v9 u1 hu1 => ?_) (fun E9 u1 hu1 => ?_)
  · rcases hu1 with ⟨⟨h0, e9⟩ | ⟨h0, e9⟩, hC1, hF1⟩
    · cases e9
      refine V_i2l dL_rejectionDetail_6 ?_
      refine V_last dL_rejectionDetail_7 (Or.inr ⟨rfl, Nat.le_of_ble_eq_true rfl⟩) rfl (in_n (by omega) (by decide)) ?_
      refine V_goto (tgt := 14) dL_rejectionDetail_8 (by decide) ?_
      refine V_iconst_n (v := 0) dL_rejectionDetail_14 (by decide) ?_
      refine V_iret dL_rejectionDetail_15 rfl rfl ?_
      exact ⟨by rw [h0], fun _ => gL_0, hC1.keepF (P := fun b => b = 65) (Fr.nil.l1 rfl) (fun b hb q => by omega), (hF1.mono (fun b hb => Or.inl hb)).trans ((Fr.nil (P := InL)).l1 (Or.inr (Or.inl rfl)))⟩
    · cases e9
  · rcases hu1 with ⟨⟨h0, e9⟩ | ⟨h0, e9⟩, hC1, hF1⟩
    · cases e9
    · have hle : (fRejectionDetail S).1 ≤ 1 := le_rejectionDetail
      have hcs : (fRejectionDetail S).1 = 1 := by omega
      have h1 := hcs
      rw [h1] at e9
      have e8 : E9 = "java/util/NoSuchElementException" := Sum.inr.inj e9
      subst e8
      refine ⟨12, _, ⟨[], [], (0, 8, 11, 52), "java/util/NoSuchElementException", 2, rfl, (List.forall_mem_nil _), ⟨by decide, by decide⟩, by decide, clRL_52, (List.mem_of_getElem? (i := 4) rfl), Nat.le_of_ble_eq_true rfl, rfl, rfl, rfl, Or.inr ⟨2, rfl, dL_rejectionDetail_11, rfl⟩⟩, ?_⟩
      refine V_iconst_n (v := 1) dL_rejectionDetail_12 (by decide) ?_
      refine V_iret dL_rejectionDetail_13 rfl rfl ?_
      exact ⟨by rw [h1], fun q => absurd q (by omega), hC1, hF1.mono (fun b hb => Or.inl hb)⟩
theorem le_causeReason {S : Sys} : (fCauseReason S).1 ≤ 1 := by
  unfold fCauseReason
  repeat' split
  all_goals first | exact Nat.zero_le _ | exact Nat.le_of_ble_eq_true rfl
set_option maxRecDepth 100000 in
set_option maxHeartbeats 1000000 in
theorem l_causeReason {S : Sys} {w : Wd} (hC : CI w S) : Ct 1 ML_causeReason 15 4 24 [.ref 0, .ref 65] w (LwP (fCauseReason S) w) := by
  refine Ct_ofH (by decide +kernel) rfl (Nat.le_of_ble_eq_true rfl) rfl ?_
  refine V_aload_n (i := 1) dL_causeReason_0 rfl rfl ?_
  refine V_iconst_n (v := 0) dL_causeReason_1 (by decide) ?_
  refine V_aload_n (i := 0) dL_causeReason_2 rfl rfl ?_
  refine V_callVH dL_causeReason_3 (c_causeReason hC) okX10_causeReason lkRL_141 (Or.inr ⟨rfl, Nat.le_of_ble_eq_true rfl⟩) rfl rfl rfl rfl (Nat.le_of_ble_eq_true rfl) ⟨Nat.le_of_ble_eq_true rfl, Nat.le_of_ble_eq_true rfl⟩ ⟨by decide, by decide⟩ (fun v9 u1 hu1 => ?_) (fun E9 u1 hu1 => ?_)
  · rcases hu1 with ⟨⟨h0, e9⟩ | ⟨h0, e9⟩, hC1, hF1⟩
    · cases e9
      refine V_i2l dL_causeReason_6 ?_
      refine V_last dL_causeReason_7 (Or.inr ⟨rfl, Nat.le_of_ble_eq_true rfl⟩) rfl (in_n (by omega) (by decide)) ?_
      refine V_goto (tgt := 14) dL_causeReason_8 (by decide) ?_
      refine V_iconst_n (v := 0) dL_causeReason_14 (by decide) ?_
      refine V_iret dL_causeReason_15 rfl rfl ?_
      exact ⟨by rw [h0], fun _ => gL_0, hC1.keepF (P := fun b => b = 65) (Fr.nil.l1 rfl) (fun b hb q => by omega), (hF1.mono (fun b hb => Or.inl hb)).trans ((Fr.nil (P := InL)).l1 (Or.inr (Or.inl rfl)))⟩
    · cases e9
  · rcases hu1 with ⟨⟨h0, e9⟩ | ⟨h0, e9⟩, hC1, hF1⟩
    · cases e9
    · have hle : (fCauseReason S).1 ≤ 1 := le_causeReason
      have hcs : (fCauseReason S).1 = 1 := by omega
      have h1 := hcs
      rw [h1] at e9
      have e8 : E9 = "java/util/NoSuchElementException" := Sum.inr.inj e9
      subst e8
      refine ⟨12, _, ⟨[], [], (0, 8, 11, 52), "java/util/NoSuchElementException", 2, rfl, (List.forall_mem_nil _), ⟨by decide, by decide⟩, by decide, clRL_52, (List.mem_of_getElem? (i := 4) rfl), Nat.le_of_ble_eq_true rfl, rfl, rfl, rfl, Or.inr ⟨2, rfl, dL_causeReason_11, rfl⟩⟩, ?_⟩
      refine V_iconst_n (v := 1) dL_causeReason_12 (by decide) ?_
      refine V_iret dL_causeReason_13 rfl rfl ?_
      exact ⟨by rw [h1], fun q => absurd q (by omega), hC1, hF1.mono (fun b hb => Or.inl hb)⟩
theorem le_undo {S : Sys} : (fUndo S).1 ≤ 1 := by
  unfold fUndo
  repeat' split
  all_goals first | exact Nat.zero_le _ | exact Nat.le_of_ble_eq_true rfl
set_option maxRecDepth 100000 in
set_option maxHeartbeats 1000000 in
theorem l_undo {S : Sys} {w : Wd} (hC : CI w S) : Ct 1 ML_undo 15 4 24 [.ref 0, .ref 65] w (LwP (fUndo S) w) := by
  refine Ct_ofH (by decide +kernel) rfl (Nat.le_of_ble_eq_true rfl) rfl ?_
  refine V_aload_n (i := 1) dL_undo_0 rfl rfl ?_
  refine V_iconst_n (v := 0) dL_undo_1 (by decide) ?_
  refine V_aload_n (i := 0) dL_undo_2 rfl rfl ?_
  refine V_callVH dL_undo_3 (c_undo hC) okX10_undo lkRL_144 (Or.inr ⟨rfl, Nat.le_of_ble_eq_true rfl⟩) rfl rfl rfl rfl (Nat.le_of_ble_eq_true rfl) ⟨Nat.le_of_ble_eq_true rfl, Nat.le_of_ble_eq_true rfl⟩ ⟨by decide, by decide⟩ (fun v9 u1 hu1 => ?_) (fun E9 u1 hu1 => ?_)
  · rcases hu1 with ⟨⟨h0, e9⟩ | ⟨h0, e9⟩, hC1, hF1⟩
    · cases e9
      refine V_i2l dL_undo_6 ?_
      refine V_last dL_undo_7 (Or.inr ⟨rfl, Nat.le_of_ble_eq_true rfl⟩) rfl (in_n (by omega) (by decide)) ?_
      refine V_goto (tgt := 14) dL_undo_8 (by decide) ?_
      refine V_iconst_n (v := 0) dL_undo_14 (by decide) ?_
      refine V_iret dL_undo_15 rfl rfl ?_
      exact ⟨by rw [h0], fun _ => gL_0, hC1.keepF (P := fun b => b = 65) (Fr.nil.l1 rfl) (fun b hb q => by omega), (hF1.mono (fun b hb => Or.inl hb)).trans ((Fr.nil (P := InL)).l1 (Or.inr (Or.inl rfl)))⟩
    · cases e9
  · rcases hu1 with ⟨⟨h0, e9⟩ | ⟨h0, e9⟩, hC1, hF1⟩
    · cases e9
    · have hle : (fUndo S).1 ≤ 1 := le_undo
      have hcs : (fUndo S).1 = 1 := by omega
      have h1 := hcs
      rw [h1] at e9
      have e8 : E9 = "java/lang/IllegalStateException" := Sum.inr.inj e9
      subst e8
      refine ⟨12, _, ⟨[], [], (0, 8, 11, 127), "java/lang/IllegalStateException", 2, rfl, (List.forall_mem_nil _), ⟨by decide, by decide⟩, by decide, clRL_127, (List.mem_of_getElem? (i := 6) rfl), Nat.le_of_ble_eq_true rfl, rfl, rfl, rfl, Or.inr ⟨2, rfl, dL_undo_11, rfl⟩⟩, ?_⟩
      refine V_iconst_n (v := 1) dL_undo_12 (by decide) ?_
      refine V_iret dL_undo_13 rfl rfl ?_
      exact ⟨by rw [h1], fun q => absurd q (by omega), hC1, hF1.mono (fun b hb => Or.inl hb)⟩
theorem le_restoreSnapshot {S : Sys} : (fRestoreSnapshot S).1 ≤ 1 := by
  unfold fRestoreSnapshot
  repeat' split
  all_goals first | exact Nat.zero_le _ | exact Nat.le_of_ble_eq_true rfl
set_option maxRecDepth 100000 in
set_option maxHeartbeats 1000000 in
theorem l_restoreSnapshot {S : Sys} {w : Wd} (hC : CI w S) : Ct 1 ML_restoreSnapshot 15 4 24 [.ref 0, .ref 65] w (LwP (fRestoreSnapshot S) w) := by
  refine Ct_ofH (by decide +kernel) rfl (Nat.le_of_ble_eq_true rfl) rfl ?_
  refine V_aload_n (i := 1) dL_restoreSnapshot_0 rfl rfl ?_
  refine V_iconst_n (v := 0) dL_restoreSnapshot_1 (by decide) ?_
  refine V_aload_n (i := 0) dL_restoreSnapshot_2 rfl rfl ?_
  refine V_callVH dL_restoreSnapshot_3 (c_restoreSnapshot hC) okX10_restoreSnapshot lkRL_147 (Or.inr ⟨rfl, Nat.le_of_ble_eq_true rfl⟩) rfl rfl rfl rfl (Nat.le_of_ble_eq_true rfl) ⟨Nat.le_of_ble_eq_true rfl, Nat.le_of_ble_eq_true rfl⟩ ⟨by decide, by decide⟩ (fun v9 u1 hu1 => ?_) (fun E9 u1 hu1 => ?_)
  · rcases hu1 with ⟨⟨h0, e9⟩ | ⟨h0, e9⟩, hC1, hF1⟩
    · cases e9
      refine V_i2l dL_restoreSnapshot_6 ?_
      refine V_last dL_restoreSnapshot_7 (Or.inr ⟨rfl, Nat.le_of_ble_eq_true rfl⟩) rfl (in_n (by omega) (by decide)) ?_
      refine V_goto (tgt := 14) dL_restoreSnapshot_8 (by decide) ?_
      refine V_iconst_n (v := 0) dL_restoreSnapshot_14 (by decide) ?_
      refine V_iret dL_restoreSnapshot_15 rfl rfl ?_
      exact ⟨by rw [h0], fun _ => gL_0, hC1.keepF (P := fun b => b = 65) (Fr.nil.l1 rfl) (fun b hb q => by omega), (hF1.mono (fun b hb => Or.inl hb)).trans ((Fr.nil (P := InL)).l1 (Or.inr (Or.inl rfl)))⟩
    · cases e9
  · rcases hu1 with ⟨⟨h0, e9⟩ | ⟨h0, e9⟩, hC1, hF1⟩
    · cases e9
    · have hle : (fRestoreSnapshot S).1 ≤ 1 := le_restoreSnapshot
      have hcs : (fRestoreSnapshot S).1 = 1 := by omega
      have h1 := hcs
      rw [h1] at e9
      have e8 : E9 = "java/lang/IllegalStateException" := Sum.inr.inj e9
      subst e8
      refine ⟨12, _, ⟨[], [], (0, 8, 11, 127), "java/lang/IllegalStateException", 2, rfl, (List.forall_mem_nil _), ⟨by decide, by decide⟩, by decide, clRL_127, (List.mem_of_getElem? (i := 6) rfl), Nat.le_of_ble_eq_true rfl, rfl, rfl, rfl, Or.inr ⟨2, rfl, dL_restoreSnapshot_11, rfl⟩⟩, ?_⟩
      refine V_iconst_n (v := 1) dL_restoreSnapshot_12 (by decide) ?_
      refine V_iret dL_restoreSnapshot_13 rfl rfl ?_
      exact ⟨by rw [h1], fun q => absurd q (by omega), hC1, hF1.mono (fun b hb => Or.inl hb)⟩
end LWRAP2
