/-! CONSTRUCTORS: what they make, exactly. Printed by wip/whole/gen/mk46.py. -/
section CTORS
theorem ac_char : Cond.arrayClass .char ∈ TG := tg_of 157 (by decide +kernel) (by decide +kernel)
theorem ac_int : Cond.arrayClass .int ∈ TG := tg_of 158 (by decide +kernel) (by decide +kernel)
theorem ac_long : Cond.arrayClass .long ∈ TG := tg_of 1857 (by decide +kernel) (by decide +kernel)
theorem ac_double : Cond.arrayClass .double ∈ TG := tg_of 1858 (by decide +kernel) (by decide +kernel)
theorem lkO_RX10 : Cond.methodLink RX10 1 Lib.objectInit ∈ TG := tg_of 109 (by decide +kernel) (by decide +kernel)
theorem lkO_RX8 : Cond.methodLink RX8 3 Lib.objectInit ∈ TG := tg_of 117 (by decide +kernel) (by decide +kernel)
theorem lkO_RX2 : Cond.methodLink RX2 3 Lib.objectInit ∈ TG := tg_of 164 (by decide +kernel) (by decide +kernel)
theorem lkO_RX7 : Cond.methodLink RX7 3 Lib.objectInit ∈ TG := tg_of 184 (by decide +kernel) (by decide +kernel)
theorem lkO_RX3 : Cond.methodLink RX3 3 Lib.objectInit ∈ TG := tg_of 196 (by decide +kernel) (by decide +kernel)
theorem lkO_RX4 : Cond.methodLink RX4 3 Lib.objectInit ∈ TG := tg_of 212 (by decide +kernel) (by decide +kernel)
theorem lkO_RX1 : Cond.methodLink RX1 3 Lib.objectInit ∈ TG := tg_of 226 (by decide +kernel) (by decide +kernel)
theorem lkO_RX11 : Cond.methodLink RX11 1 Lib.objectInit ∈ TG := tg_of 1321 (by decide +kernel) (by decide +kernel)
def St0 (b : Nat) : Prop := shp 0 b = (0, 5, [1, 1, 1, 0, 0, 0, 0, 0, 0]) ∧ shp 0 (b + 1) = (2, 64, []) ∧ shp 0 (b + 2) = (1, 64, []) ∧ b + 3 ≤ 67
theorem st0_1 : St0 1 := ⟨rfl, rfl, rfl, by decide⟩
theorem st0_4 : St0 4 := ⟨rfl, rfl, rfl, by decide⟩
theorem st0_7 : St0 7 := ⟨rfl, rfl, rfl, by decide⟩
theorem st0_12 : St0 12 := ⟨rfl, rfl, rfl, by decide⟩
theorem st0_15 : St0 15 := ⟨rfl, rfl, rfl, by decide⟩
theorem st0_18 : St0 18 := ⟨rfl, rfl, rfl, by decide⟩
theorem st0_21 : St0 21 := ⟨rfl, rfl, rfl, by decide⟩
theorem st0_24 : St0 24 := ⟨rfl, rfl, rfl, by decide⟩
theorem st0_27 : St0 27 := ⟨rfl, rfl, rfl, by decide⟩
theorem st0_30 : St0 30 := ⟨rfl, rfl, rfl, by decide⟩
theorem st0_33 : St0 33 := ⟨rfl, rfl, rfl, by decide⟩
theorem st0_37 : St0 37 := ⟨rfl, rfl, rfl, by decide⟩
def nX8 (b : Nat) (w : Wd) : Wd := (pI (pI (pI (pI (pI (pI (pR (pR (mkC (b + 2) (pR (mkC (b + 1) w) b 0 (some (b + 1)))) b 1 (some (b + 2))) b 2 (some 1000)) b 3 (nI 0)) b 4 (nI 0)) b 5 (nI 0)) b 6 (nI 0)) b 7 (nI 0)) b 8 (nI 0))
set_option maxRecDepth 100000 in
set_option maxHeartbeats 2000000 in
theorem k_X8 {b : Nat} {w : Wd} (hs : St0 b) (hb : wn w = b + 1) : CtX MX8_init 1 2 128 [.ref b] w (Rt none (nX8 b w)) := by
  refine CtX_of (by decide) rfl (Nat.le_of_ble_eq_true rfl) rfl ?_
  refine V_aload_n (i := 0) dX8_init_0 rfl rfl ?_
  refine V_objI dX8_init_1 lkO_RX8 (Nat.le_of_ble_eq_true rfl) (Nat.le_of_ble_eq_true rfl) ?_
  refine V_aload_n (i := 0) dX8_init_4 rfl rfl ?_
  refine V_bipush_n (v := 64) dX8_init_5 (by decide) ?_
  refine V_newCh (a := (b + 1)) dX8_init_7 hb (by have := hs.2.2.2; omega) hs.2.1 ac_char (by decide) ⟨by omega, by omega⟩ ?_
  refine V_putR (k := 0) (z := (b + 1)) (ty := tyX8 0) dX8_init_9 (Or.inl (show b < (b + 2) by omega)) hs.1 rfl rfl (Nat.le_of_ble_eq_true rfl) flRX8_9 (Or.inr ⟨rfl, rfl, rfl⟩) (tyX8_ok 0 (Nat.le_of_ble_eq_true rfl)) (fun _ => rfl) (fun _ => rfl) ?_
  refine V_aload_n (i := 0) dX8_init_12 rfl rfl ?_
  refine V_bipush_n (v := 64) dX8_init_13 (by decide) ?_
  refine V_newI (a := (b + 2)) dX8_init_15 rfl (by have := hs.2.2.2; omega) hs.2.2.1 ac_int (by decide) ⟨by omega, by omega⟩ ?_
  refine V_putR (k := 1) (z := (b + 2)) (ty := tyX8 1) dX8_init_17 (Or.inl (show b < (b + 3) by omega)) hs.1 rfl rfl (Nat.le_of_ble_eq_true rfl) flRX8_15 (Or.inr ⟨rfl, rfl, rfl⟩) (tyX8_ok 1 (Nat.le_of_ble_eq_true rfl)) (fun _ => rfl) (fun _ => rfl) ?_
  refine V_aload_n (i := 0) dX8_init_20 rfl rfl ?_
  refine V_gets dX8_init_21 (List.mem_of_getElem? (i := 0) rfl) flRX8_19 ?_
  refine V_putR (k := 2) (z := 1000) (ty := tyX8 2) dX8_init_24 (Or.inl (show b < (b + 3) by omega)) hs.1 rfl rfl (Nat.le_of_ble_eq_true rfl) flRX8_25 (Or.inl rfl) (tyX8_ok 2 (Nat.le_of_ble_eq_true rfl)) (fun _ => rfl) (fun _ => rfl) ?_
  refine V_aload_n (i := 0) dX8_init_27 rfl rfl ?_
  refine V_iconst_n (v := 0) dX8_init_28 (by decide) ?_
  refine V_putI (k := 3) (ty := tyX8 3) dX8_init_29 (Or.inl (show b < (b + 3) by omega)) hs.1 rfl rfl (Nat.le_of_ble_eq_true rfl) flRX8_28 rfl (tyX8_ok 3 (Nat.le_of_ble_eq_true rfl)) (by first | rfl | decide +kernel) (by first | rfl | decide +kernel) ?_
  refine V_aload_n (i := 0) dX8_init_32 rfl rfl ?_
  refine V_iconst_n (v := 0) dX8_init_33 (by decide) ?_
  refine V_putI (k := 4) (ty := tyX8 4) dX8_init_34 (Or.inl (show b < (b + 3) by omega)) hs.1 rfl rfl (Nat.le_of_ble_eq_true rfl) flRX8_32 rfl (tyX8_ok 4 (Nat.le_of_ble_eq_true rfl)) (by first | rfl | decide +kernel) (by first | rfl | decide +kernel) ?_
  refine V_aload_n (i := 0) dX8_init_37 rfl rfl ?_
  refine V_iconst_n (v := 0) dX8_init_38 (by decide) ?_
  refine V_putI (k := 5) (ty := tyX8 5) dX8_init_39 (Or.inl (show b < (b + 3) by omega)) hs.1 rfl rfl (Nat.le_of_ble_eq_true rfl) flRX8_35 rfl (tyX8_ok 5 (Nat.le_of_ble_eq_true rfl)) (by first | rfl | decide +kernel) (by first | rfl | decide +kernel) ?_
  refine V_aload_n (i := 0) dX8_init_42 rfl rfl ?_
  refine V_iconst_n (v := 0) dX8_init_43 (by decide) ?_
  refine V_putI (k := 6) (ty := tyX8 6) dX8_init_44 (Or.inl (show b < (b + 3) by omega)) hs.1 rfl rfl (Nat.le_of_ble_eq_true rfl) flRX8_38 rfl (tyX8_ok 6 (Nat.le_of_ble_eq_true rfl)) (by first | rfl | decide +kernel) (by first | rfl | decide +kernel) ?_
  refine V_aload_n (i := 0) dX8_init_47 rfl rfl ?_
  refine V_iconst_n (v := 0) dX8_init_48 (by decide) ?_
  refine V_putI (k := 7) (ty := tyX8 7) dX8_init_49 (Or.inl (show b < (b + 3) by omega)) hs.1 rfl rfl (Nat.le_of_ble_eq_true rfl) flRX8_41 rfl (tyX8_ok 7 (Nat.le_of_ble_eq_true rfl)) (by first | rfl | decide +kernel) (by first | rfl | decide +kernel) ?_
  refine V_aload_n (i := 0) dX8_init_52 rfl rfl ?_
  refine V_iconst_n (v := 0) dX8_init_53 (by decide) ?_
  refine V_putI (k := 8) (ty := tyX8 8) dX8_init_54 (Or.inl (show b < (b + 3) by omega)) hs.1 rfl rfl (Nat.le_of_ble_eq_true rfl) flRX8_44 rfl (tyX8_ok 8 (Nat.le_of_ble_eq_true rfl)) (by first | rfl | decide +kernel) (by first | rfl | decide +kernel) ?_
  exact V_vret dX8_init_57 rfl ⟨rfl, rfl⟩
def nX2 (w : Wd) : Wd := (pR (nX8 33 (mkC 33 (pR (nX8 30 (mkC 30 (pR (nX8 27 (mkC 27 (pR (nX8 24 (mkC 24 (pR (nX8 21 (mkC 21 (pR (nX8 18 (mkC 18 (pR (nX8 15 (mkC 15 (pR (nX8 12 (mkC 12 (pI (pI (pR (mkC 11 w) 10 0 (some 11)) 10 1 (nI 0)) 10 2 (nI 0)))) 11 0 (some 12)))) 11 1 (some 15)))) 11 2 (some 18)))) 11 3 (some 21)))) 11 4 (some 24)))) 11 5 (some 27)))) 11 6 (some 30)))) 11 7 (some 33))
set_option maxRecDepth 100000 in
set_option maxHeartbeats 2000000 in
theorem k_X2 {w : Wd} (hb : wn w = 11) : CtX MX2_init 2 25 1104 [.ref 10] w (Rt none (nX2 w)) := by
  refine CtX_of (by decide) rfl (Nat.le_of_ble_eq_true rfl) rfl ?_
  refine V_aload_n (i := 0) dX2_init_0 rfl rfl ?_
  refine V_objI dX2_init_1 lkO_RX2 (Nat.le_of_ble_eq_true rfl) (Nat.le_of_ble_eq_true rfl) ?_
  refine V_aload_n (i := 0) dX2_init_4 rfl rfl ?_
  refine V_bipush_n (v := 8) dX2_init_5 (by decide) ?_
  refine V_newQ (a := 11) dX2_init_7 hb (by decide) rfl clRX2_9 (fun _ _ h => h) (by decide) ⟨by omega, by omega⟩ ?_
  refine V_putR (k := 0) (z := 11) (ty := tyX2 0) dX2_init_10 (Or.inl (show 10 < 12 by decide)) rfl rfl rfl (Nat.le_of_ble_eq_true rfl) flRX2_11 (Or.inr ⟨rfl, rfl, rfl⟩) (tyX2_ok 0 (Nat.le_of_ble_eq_true rfl)) (fun _ => rfl) (fun _ => rfl) ?_
  refine V_aload_n (i := 0) dX2_init_13 rfl rfl ?_
  refine V_iconst_n (v := 0) dX2_init_14 (by decide) ?_
  refine V_putI (k := 1) (ty := tyX2 1) dX2_init_15 (Or.inl (show 10 < 12 by decide)) rfl rfl rfl (Nat.le_of_ble_eq_true rfl) flRX2_17 rfl (tyX2_ok 1 (Nat.le_of_ble_eq_true rfl)) (by first | rfl | decide +kernel) (by first | rfl | decide +kernel) ?_
  refine V_aload_n (i := 0) dX2_init_18 rfl rfl ?_
  refine V_iconst_n (v := 0) dX2_init_19 (by decide) ?_
  refine V_putI (k := 2) (ty := tyX2 2) dX2_init_20 (Or.inl (show 10 < 12 by decide)) rfl rfl rfl (Nat.le_of_ble_eq_true rfl) flRX2_21 rfl (tyX2_ok 2 (Nat.le_of_ble_eq_true rfl)) (by first | rfl | decide +kernel) (by first | rfl | decide +kernel) ?_
  refine V_iconst_n (v := 0) dX2_init_23 (by decide) ?_
  refine V_istore_n (i := 1) dX2_init_24 rfl (Nat.le_of_ble_eq_true rfl) rfl rfl ?_
  refine V_iload_n (i := 1) dX2_init_25 rfl rfl ?_
  refine V_bipush_n (v := 8) dX2_init_26 (by decide) ?_
  refine V_icmp_ge_n (tgt := 50) dX2_init_28 (by decide) (by decide) (by decide) (fun h => absurd h (by decide)) (fun _ => ?_)
  refine V_aload_n (i := 0) dX2_init_31 rfl rfl ?_
  refine V_getR (k := 0) (q := 11) dX2_init_32 (Or.inl (show 10 < 12 by decide)) rfl rfl rfl (Nat.le_of_ble_eq_true rfl) flRX2_11 (by rfl) ?_
  refine V_iload_n (i := 1) dX2_init_35 rfl rfl ?_
  refine V_new (a := 12) dX2_init_36 rfl (by decide) rfl rfl clRX2_9 ibButtonReef_State inButtonReef_State tyX8_ok rfl (by decide) (by decide) ⟨by omega, by omega⟩ ?_
  refine V_dup dX2_init_39 rfl ?_
  refine V_callIN (host := "ButtonReef") dX2_init_40 (k_X8 st0_12 rfl) okX8_init (List.mem_of_getElem? (i := 1) rfl) (fun _ _ h => h) (Nat.le_of_ble_eq_true rfl) ⟨(Nat.le_of_ble_eq_true rfl), (Nat.le_of_ble_eq_true rfl)⟩ rfl ⟨by omega, by omega⟩ ?_
  refine V_qast (i := 0) dX2_init_43 (Or.inl (show 11 < 15 by decide)) (Or.inl (show 12 < 15 by decide)) rfl rfl rfl (by decide) (by decide) ?_
  refine V_iinc (v := nI 1) dX2_init_44 rfl (by decide) rfl rfl ?_
  refine V_goto (tgt := 25) dX2_init_47 (by decide) ?_
  refine V_iload_n (i := 1) dX2_init_25 rfl rfl ?_
  refine V_bipush_n (v := 8) dX2_init_26 (by decide) ?_
  refine V_icmp_ge_n (tgt := 50) dX2_init_28 (by decide) (by decide) (by decide) (fun h => absurd h (by decide)) (fun _ => ?_)
  refine V_aload_n (i := 0) dX2_init_31 rfl rfl ?_
  refine V_getR (k := 0) (q := 11) dX2_init_32 (Or.inl (show 10 < 15 by decide)) rfl rfl rfl (Nat.le_of_ble_eq_true rfl) flRX2_11 (by rfl) ?_
  refine V_iload_n (i := 1) dX2_init_35 rfl rfl ?_
  refine V_new (a := 15) dX2_init_36 rfl (by decide) rfl rfl clRX2_9 ibButtonReef_State inButtonReef_State tyX8_ok rfl (by decide) (by decide) ⟨by omega, by omega⟩ ?_
  refine V_dup dX2_init_39 rfl ?_
  refine V_callIN (host := "ButtonReef") dX2_init_40 (k_X8 st0_15 rfl) okX8_init (List.mem_of_getElem? (i := 1) rfl) (fun _ _ h => h) (Nat.le_of_ble_eq_true rfl) ⟨(Nat.le_of_ble_eq_true rfl), (Nat.le_of_ble_eq_true rfl)⟩ rfl ⟨by omega, by omega⟩ ?_
  refine V_qast (i := 1) dX2_init_43 (Or.inl (show 11 < 18 by decide)) (Or.inl (show 15 < 18 by decide)) rfl rfl rfl (by decide) (by decide) ?_
  refine V_iinc (v := nI 2) dX2_init_44 rfl (by decide) rfl rfl ?_
  refine V_goto (tgt := 25) dX2_init_47 (by decide) ?_
  refine V_iload_n (i := 1) dX2_init_25 rfl rfl ?_
  refine V_bipush_n (v := 8) dX2_init_26 (by decide) ?_
  refine V_icmp_ge_n (tgt := 50) dX2_init_28 (by decide) (by decide) (by decide) (fun h => absurd h (by decide)) (fun _ => ?_)
  refine V_aload_n (i := 0) dX2_init_31 rfl rfl ?_
  refine V_getR (k := 0) (q := 11) dX2_init_32 (Or.inl (show 10 < 18 by decide)) rfl rfl rfl (Nat.le_of_ble_eq_true rfl) flRX2_11 (by rfl) ?_
  refine V_iload_n (i := 1) dX2_init_35 rfl rfl ?_
  refine V_new (a := 18) dX2_init_36 rfl (by decide) rfl rfl clRX2_9 ibButtonReef_State inButtonReef_State tyX8_ok rfl (by decide) (by decide) ⟨by omega, by omega⟩ ?_
  refine V_dup dX2_init_39 rfl ?_
  refine V_callIN (host := "ButtonReef") dX2_init_40 (k_X8 st0_18 rfl) okX8_init (List.mem_of_getElem? (i := 1) rfl) (fun _ _ h => h) (Nat.le_of_ble_eq_true rfl) ⟨(Nat.le_of_ble_eq_true rfl), (Nat.le_of_ble_eq_true rfl)⟩ rfl ⟨by omega, by omega⟩ ?_
  refine V_qast (i := 2) dX2_init_43 (Or.inl (show 11 < 21 by decide)) (Or.inl (show 18 < 21 by decide)) rfl rfl rfl (by decide) (by decide) ?_
  refine V_iinc (v := nI 3) dX2_init_44 rfl (by decide) rfl rfl ?_
  refine V_goto (tgt := 25) dX2_init_47 (by decide) ?_
  refine V_iload_n (i := 1) dX2_init_25 rfl rfl ?_
  refine V_bipush_n (v := 8) dX2_init_26 (by decide) ?_
  refine V_icmp_ge_n (tgt := 50) dX2_init_28 (by decide) (by decide) (by decide) (fun h => absurd h (by decide)) (fun _ => ?_)
  refine V_aload_n (i := 0) dX2_init_31 rfl rfl ?_
  refine V_getR (k := 0) (q := 11) dX2_init_32 (Or.inl (show 10 < 21 by decide)) rfl rfl rfl (Nat.le_of_ble_eq_true rfl) flRX2_11 (by rfl) ?_
  refine V_iload_n (i := 1) dX2_init_35 rfl rfl ?_
  refine V_new (a := 21) dX2_init_36 rfl (by decide) rfl rfl clRX2_9 ibButtonReef_State inButtonReef_State tyX8_ok rfl (by decide) (by decide) ⟨by omega, by omega⟩ ?_
  refine V_dup dX2_init_39 rfl ?_
  refine V_callIN (host := "ButtonReef") dX2_init_40 (k_X8 st0_21 rfl) okX8_init (List.mem_of_getElem? (i := 1) rfl) (fun _ _ h => h) (Nat.le_of_ble_eq_true rfl) ⟨(Nat.le_of_ble_eq_true rfl), (Nat.le_of_ble_eq_true rfl)⟩ rfl ⟨by omega, by omega⟩ ?_
  refine V_qast (i := 3) dX2_init_43 (Or.inl (show 11 < 24 by decide)) (Or.inl (show 21 < 24 by decide)) rfl rfl rfl (by decide) (by decide) ?_
  refine V_iinc (v := nI 4) dX2_init_44 rfl (by decide) rfl rfl ?_
  refine V_goto (tgt := 25) dX2_init_47 (by decide) ?_
  refine V_iload_n (i := 1) dX2_init_25 rfl rfl ?_
  refine V_bipush_n (v := 8) dX2_init_26 (by decide) ?_
  refine V_icmp_ge_n (tgt := 50) dX2_init_28 (by decide) (by decide) (by decide) (fun h => absurd h (by decide)) (fun _ => ?_)
  refine V_aload_n (i := 0) dX2_init_31 rfl rfl ?_
  refine V_getR (k := 0) (q := 11) dX2_init_32 (Or.inl (show 10 < 24 by decide)) rfl rfl rfl (Nat.le_of_ble_eq_true rfl) flRX2_11 (by rfl) ?_
  refine V_iload_n (i := 1) dX2_init_35 rfl rfl ?_
  refine V_new (a := 24) dX2_init_36 rfl (by decide) rfl rfl clRX2_9 ibButtonReef_State inButtonReef_State tyX8_ok rfl (by decide) (by decide) ⟨by omega, by omega⟩ ?_
  refine V_dup dX2_init_39 rfl ?_
  refine V_callIN (host := "ButtonReef") dX2_init_40 (k_X8 st0_24 rfl) okX8_init (List.mem_of_getElem? (i := 1) rfl) (fun _ _ h => h) (Nat.le_of_ble_eq_true rfl) ⟨(Nat.le_of_ble_eq_true rfl), (Nat.le_of_ble_eq_true rfl)⟩ rfl ⟨by omega, by omega⟩ ?_
  refine V_qast (i := 4) dX2_init_43 (Or.inl (show 11 < 27 by decide)) (Or.inl (show 24 < 27 by decide)) rfl rfl rfl (by decide) (by decide) ?_
  refine V_iinc (v := nI 5) dX2_init_44 rfl (by decide) rfl rfl ?_
  refine V_goto (tgt := 25) dX2_init_47 (by decide) ?_
  refine V_iload_n (i := 1) dX2_init_25 rfl rfl ?_
  refine V_bipush_n (v := 8) dX2_init_26 (by decide) ?_
  refine V_icmp_ge_n (tgt := 50) dX2_init_28 (by decide) (by decide) (by decide) (fun h => absurd h (by decide)) (fun _ => ?_)
  refine V_aload_n (i := 0) dX2_init_31 rfl rfl ?_
  refine V_getR (k := 0) (q := 11) dX2_init_32 (Or.inl (show 10 < 27 by decide)) rfl rfl rfl (Nat.le_of_ble_eq_true rfl) flRX2_11 (by rfl) ?_
  refine V_iload_n (i := 1) dX2_init_35 rfl rfl ?_
  refine V_new (a := 27) dX2_init_36 rfl (by decide) rfl rfl clRX2_9 ibButtonReef_State inButtonReef_State tyX8_ok rfl (by decide) (by decide) ⟨by omega, by omega⟩ ?_
  refine V_dup dX2_init_39 rfl ?_
  refine V_callIN (host := "ButtonReef") dX2_init_40 (k_X8 st0_27 rfl) okX8_init (List.mem_of_getElem? (i := 1) rfl) (fun _ _ h => h) (Nat.le_of_ble_eq_true rfl) ⟨(Nat.le_of_ble_eq_true rfl), (Nat.le_of_ble_eq_true rfl)⟩ rfl ⟨by omega, by omega⟩ ?_
  refine V_qast (i := 5) dX2_init_43 (Or.inl (show 11 < 30 by decide)) (Or.inl (show 27 < 30 by decide)) rfl rfl rfl (by decide) (by decide) ?_
  refine V_iinc (v := nI 6) dX2_init_44 rfl (by decide) rfl rfl ?_
  refine V_goto (tgt := 25) dX2_init_47 (by decide) ?_
  refine V_iload_n (i := 1) dX2_init_25 rfl rfl ?_
  refine V_bipush_n (v := 8) dX2_init_26 (by decide) ?_
  refine V_icmp_ge_n (tgt := 50) dX2_init_28 (by decide) (by decide) (by decide) (fun h => absurd h (by decide)) (fun _ => ?_)
  refine V_aload_n (i := 0) dX2_init_31 rfl rfl ?_
  refine V_getR (k := 0) (q := 11) dX2_init_32 (Or.inl (show 10 < 30 by decide)) rfl rfl rfl (Nat.le_of_ble_eq_true rfl) flRX2_11 (by rfl) ?_
  refine V_iload_n (i := 1) dX2_init_35 rfl rfl ?_
  refine V_new (a := 30) dX2_init_36 rfl (by decide) rfl rfl clRX2_9 ibButtonReef_State inButtonReef_State tyX8_ok rfl (by decide) (by decide) ⟨by omega, by omega⟩ ?_
  refine V_dup dX2_init_39 rfl ?_
  refine V_callIN (host := "ButtonReef") dX2_init_40 (k_X8 st0_30 rfl) okX8_init (List.mem_of_getElem? (i := 1) rfl) (fun _ _ h => h) (Nat.le_of_ble_eq_true rfl) ⟨(Nat.le_of_ble_eq_true rfl), (Nat.le_of_ble_eq_true rfl)⟩ rfl ⟨by omega, by omega⟩ ?_
  refine V_qast (i := 6) dX2_init_43 (Or.inl (show 11 < 33 by decide)) (Or.inl (show 30 < 33 by decide)) rfl rfl rfl (by decide) (by decide) ?_
  refine V_iinc (v := nI 7) dX2_init_44 rfl (by decide) rfl rfl ?_
  refine V_goto (tgt := 25) dX2_init_47 (by decide) ?_
  refine V_iload_n (i := 1) dX2_init_25 rfl rfl ?_
  refine V_bipush_n (v := 8) dX2_init_26 (by decide) ?_
  refine V_icmp_ge_n (tgt := 50) dX2_init_28 (by decide) (by decide) (by decide) (fun h => absurd h (by decide)) (fun _ => ?_)
  refine V_aload_n (i := 0) dX2_init_31 rfl rfl ?_
  refine V_getR (k := 0) (q := 11) dX2_init_32 (Or.inl (show 10 < 33 by decide)) rfl rfl rfl (Nat.le_of_ble_eq_true rfl) flRX2_11 (by rfl) ?_
  refine V_iload_n (i := 1) dX2_init_35 rfl rfl ?_
  refine V_new (a := 33) dX2_init_36 rfl (by decide) rfl rfl clRX2_9 ibButtonReef_State inButtonReef_State tyX8_ok rfl (by decide) (by decide) ⟨by omega, by omega⟩ ?_
  refine V_dup dX2_init_39 rfl ?_
  refine V_callIN (host := "ButtonReef") dX2_init_40 (k_X8 st0_33 rfl) okX8_init (List.mem_of_getElem? (i := 1) rfl) (fun _ _ h => h) (Nat.le_of_ble_eq_true rfl) ⟨(Nat.le_of_ble_eq_true rfl), (Nat.le_of_ble_eq_true rfl)⟩ rfl ⟨by omega, by omega⟩ ?_
  refine V_qast (i := 7) dX2_init_43 (Or.inl (show 11 < 36 by decide)) (Or.inl (show 33 < 36 by decide)) rfl rfl rfl (by decide) (by decide) ?_
  refine V_iinc (v := nI 8) dX2_init_44 rfl (by decide) rfl rfl ?_
  refine V_goto (tgt := 25) dX2_init_47 (by decide) ?_
  refine V_iload_n (i := 1) dX2_init_25 rfl rfl ?_
  refine V_bipush_n (v := 8) dX2_init_26 (by decide) ?_
  refine V_icmp_ge_n (tgt := 50) dX2_init_28 (by decide) (by decide) (by decide) (fun _ => ?_) (fun h => absurd h (by decide))
  exact V_vret dX2_init_50 rfl ⟨rfl, rfl⟩
def nX7 (w : Wd) : Wd := (pR (nX8 37 (mkC 37 w)) 36 0 (some 37))
set_option maxRecDepth 100000 in
set_option maxHeartbeats 2000000 in
theorem k_X7 {w : Wd} (hb : wn w = 37) : CtX MX7_init 2 3 137 [.ref 36] w (Rt none (nX7 w)) := by
  refine CtX_of (by decide) rfl (Nat.le_of_ble_eq_true rfl) rfl ?_
  refine V_aload_n (i := 0) dX7_init_0 rfl rfl ?_
  refine V_objI dX7_init_1 lkO_RX7 (Nat.le_of_ble_eq_true rfl) (Nat.le_of_ble_eq_true rfl) ?_
  refine V_aload_n (i := 0) dX7_init_4 rfl rfl ?_
  refine V_new (a := 37) dX7_init_5 hb (by decide) rfl rfl clRX7_9 ibButtonReef_State inButtonReef_State tyX8_ok rfl (by decide) (by decide) ⟨by omega, by omega⟩ ?_
  refine V_dup dX7_init_8 rfl ?_
  refine V_callIN (host := "ButtonReef") dX7_init_9 (k_X8 st0_37 rfl) okX8_init (List.mem_of_getElem? (i := 3) rfl) (fun _ _ h => h) (Nat.le_of_ble_eq_true rfl) ⟨(Nat.le_of_ble_eq_true rfl), (Nat.le_of_ble_eq_true rfl)⟩ rfl ⟨by omega, by omega⟩ ?_
  refine V_putR (k := 0) (z := 37) (ty := tyX7 0) dX7_init_12 (Or.inl (show 36 < 40 by decide)) rfl rfl rfl (Nat.le_of_ble_eq_true rfl) flRX7_12 (Or.inr ⟨rfl, rfl, rfl⟩) (tyX7_ok 0 (Nat.le_of_ble_eq_true rfl)) (fun _ => rfl) (fun _ => rfl) ?_
  exact V_vret dX7_init_15 rfl ⟨rfl, rfl⟩
def nX3 (w : Wd) : Wd := (pI (pR (mkC 42 (pR (mkC 41 w) 40 0 (some 41))) 40 1 (some 42)) 40 2 (nI 0))
set_option maxRecDepth 100000 in
set_option maxHeartbeats 2000000 in
theorem k_X3 {w : Wd} (hb : wn w = 41) : CtX MX3_init 1 2 128 [.ref 40] w (Rt none (nX3 w)) := by
  refine CtX_of (by decide) rfl (Nat.le_of_ble_eq_true rfl) rfl ?_
  refine V_aload_n (i := 0) dX3_init_0 rfl rfl ?_
  refine V_objI dX3_init_1 lkO_RX3 (Nat.le_of_ble_eq_true rfl) (Nat.le_of_ble_eq_true rfl) ?_
  refine V_aload_n (i := 0) dX3_init_4 rfl rfl ?_
  refine V_bipush_n (v := 64) dX3_init_5 (by decide) ?_
  refine V_newI (a := 41) dX3_init_7 hb (by decide) rfl ac_int (by decide) ⟨by omega, by omega⟩ ?_
  refine V_putR (k := 0) (z := 41) (ty := tyX3 0) dX3_init_9 (Or.inl (show 40 < 42 by decide)) rfl rfl rfl (Nat.le_of_ble_eq_true rfl) flRX3_9 (Or.inr ⟨rfl, rfl, rfl⟩) (tyX3_ok 0 (Nat.le_of_ble_eq_true rfl)) (fun _ => rfl) (fun _ => rfl) ?_
  refine V_aload_n (i := 0) dX3_init_12 rfl rfl ?_
  refine V_bipush_n (v := 64) dX3_init_13 (by decide) ?_
  refine V_newI (a := 42) dX3_init_15 rfl (by decide) rfl ac_int (by decide) ⟨by omega, by omega⟩ ?_
  refine V_putR (k := 1) (z := 42) (ty := tyX3 1) dX3_init_17 (Or.inl (show 40 < 43 by decide)) rfl rfl rfl (Nat.le_of_ble_eq_true rfl) flRX3_15 (Or.inr ⟨rfl, rfl, rfl⟩) (tyX3_ok 1 (Nat.le_of_ble_eq_true rfl)) (fun _ => rfl) (fun _ => rfl) ?_
  refine V_aload_n (i := 0) dX3_init_20 rfl rfl ?_
  refine V_iconst_n (v := 0) dX3_init_21 (by decide) ?_
  refine V_putI (k := 2) (ty := tyX3 2) dX3_init_22 (Or.inl (show 40 < 43 by decide)) rfl rfl rfl (Nat.le_of_ble_eq_true rfl) flRX3_18 rfl (tyX3_ok 2 (Nat.le_of_ble_eq_true rfl)) (by first | rfl | decide +kernel) (by first | rfl | decide +kernel) ?_
  exact V_vret dX3_init_25 rfl ⟨rfl, rfl⟩
def nX4 (w : Wd) : Wd := (pI (pR (mkC 44 w) 43 0 (some 44)) 43 1 (nI 0))
set_option maxRecDepth 100000 in
set_option maxHeartbeats 2000000 in
theorem k_X4 {w : Wd} (hb : wn w = 44) : CtX MX4_init 1 1 32 [.ref 43] w (Rt none (nX4 w)) := by
  refine CtX_of (by decide) rfl (Nat.le_of_ble_eq_true rfl) rfl ?_
  refine V_aload_n (i := 0) dX4_init_0 rfl rfl ?_
  refine V_objI dX4_init_1 lkO_RX4 (Nat.le_of_ble_eq_true rfl) (Nat.le_of_ble_eq_true rfl) ?_
  refine V_aload_n (i := 0) dX4_init_4 rfl rfl ?_
  refine V_bipush_n (v := 32) dX4_init_5 (by decide) ?_
  refine V_newCh (a := 44) dX4_init_7 hb (by decide) rfl ac_char (by decide) ⟨by omega, by omega⟩ ?_
  refine V_putR (k := 0) (z := 44) (ty := tyX4 0) dX4_init_9 (Or.inl (show 43 < 45 by decide)) rfl rfl rfl (Nat.le_of_ble_eq_true rfl) flRX4_9 (Or.inr ⟨rfl, rfl, rfl⟩) (tyX4_ok 0 (Nat.le_of_ble_eq_true rfl)) (fun _ => rfl) (fun _ => rfl) ?_
  refine V_aload_n (i := 0) dX4_init_12 rfl rfl ?_
  refine V_iconst_n (v := 0) dX4_init_13 (by decide) ?_
  refine V_putI (k := 1) (ty := tyX4 1) dX4_init_14 (Or.inl (show 43 < 45 by decide)) rfl rfl rfl (Nat.le_of_ble_eq_true rfl) flRX4_15 rfl (tyX4_ok 1 (Nat.le_of_ble_eq_true rfl)) (by first | rfl | decide +kernel) (by first | rfl | decide +kernel) ?_
  exact V_vret dX4_init_17 rfl ⟨rfl, rfl⟩
def nX1 (w : Wd) : Wd := (pR (pR (pI (pI (pI (pI (pI (pR (pI (pI (pR (mkC 46 w) 45 0 (some 46)) 45 1 (nI 0)) 45 2 (nI 0)) 45 3 (some 1026)) 45 4 (nI 0)) 45 5 (nI 0)) 45 6 (nI 0)) 45 7 (nI 0)) 45 8 (nI 97)) 45 9 (some 1010)) 45 10 (some 1000))
set_option maxRecDepth 100000 in
set_option maxHeartbeats 2000000 in
theorem k_X1 {w : Wd} (hb : wn w = 46) : CtX MX1_init 1 1 60 [.ref 45] w (Rt none (nX1 w)) := by
  refine CtX_of (by decide) rfl (Nat.le_of_ble_eq_true rfl) rfl ?_
  refine V_aload_n (i := 0) dX1_init_0 rfl rfl ?_
  refine V_objI dX1_init_1 lkO_RX1 (Nat.le_of_ble_eq_true rfl) (Nat.le_of_ble_eq_true rfl) ?_
  refine V_aload_n (i := 0) dX1_init_4 rfl rfl ?_
  refine V_bipush_n (v := 60) dX1_init_5 (by decide) ?_
  refine V_newCh (a := 46) dX1_init_7 hb (by decide) rfl ac_char (by decide) ⟨by omega, by omega⟩ ?_
  refine V_putR (k := 0) (z := 46) (ty := tyX1 0) dX1_init_9 (Or.inl (show 45 < 47 by decide)) rfl rfl rfl (Nat.le_of_ble_eq_true rfl) flRX1_9 (Or.inr ⟨rfl, rfl, rfl⟩) (tyX1_ok 0 (Nat.le_of_ble_eq_true rfl)) (fun _ => rfl) (fun _ => rfl) ?_
  refine V_aload_n (i := 0) dX1_init_12 rfl rfl ?_
  refine V_iconst_n (v := 0) dX1_init_13 (by decide) ?_
  refine V_putI (k := 1) (ty := tyX1 1) dX1_init_14 (Or.inl (show 45 < 47 by decide)) rfl rfl rfl (Nat.le_of_ble_eq_true rfl) flRX1_15 rfl (tyX1_ok 1 (Nat.le_of_ble_eq_true rfl)) (by first | rfl | decide +kernel) (by first | rfl | decide +kernel) ?_
  refine V_aload_n (i := 0) dX1_init_17 rfl rfl ?_
  refine V_iconst_n (v := 0) dX1_init_18 (by decide) ?_
  refine V_putI (k := 2) (ty := tyX1 2) dX1_init_19 (Or.inl (show 45 < 47 by decide)) rfl rfl rfl (Nat.le_of_ble_eq_true rfl) flRX1_19 rfl (tyX1_ok 2 (Nat.le_of_ble_eq_true rfl)) (by first | rfl | decide +kernel) (by first | rfl | decide +kernel) ?_
  refine V_aload_n (i := 0) dX1_init_22 rfl rfl ?_
  refine V_gets dX1_init_23 (List.mem_of_getElem? (i := 13) rfl) flRX1_22 ?_
  refine V_putR (k := 3) (z := 1026) (ty := tyX1 3) dX1_init_26 (Or.inl (show 45 < 47 by decide)) rfl rfl rfl (Nat.le_of_ble_eq_true rfl) flRX1_28 (Or.inl rfl) (tyX1_ok 3 (Nat.le_of_ble_eq_true rfl)) (fun _ => rfl) (fun _ => rfl) ?_
  refine V_aload_n (i := 0) dX1_init_29 rfl rfl ?_
  refine V_iconst_n (v := 0) dX1_init_30 (by decide) ?_
  refine V_putI (k := 4) (ty := tyX1 4) dX1_init_31 (Or.inl (show 45 < 47 by decide)) rfl rfl rfl (Nat.le_of_ble_eq_true rfl) flRX1_31 rfl (tyX1_ok 4 (Nat.le_of_ble_eq_true rfl)) (by first | rfl | decide +kernel) (by first | rfl | decide +kernel) ?_
  refine V_aload_n (i := 0) dX1_init_34 rfl rfl ?_
  refine V_iconst_n (v := 0) dX1_init_35 (by decide) ?_
  refine V_putI (k := 5) (ty := tyX1 5) dX1_init_36 (Or.inl (show 45 < 47 by decide)) rfl rfl rfl (Nat.le_of_ble_eq_true rfl) flRX1_34 rfl (tyX1_ok 5 (Nat.le_of_ble_eq_true rfl)) (by first | rfl | decide +kernel) (by first | rfl | decide +kernel) ?_
  refine V_aload_n (i := 0) dX1_init_39 rfl rfl ?_
  refine V_iconst_n (v := 0) dX1_init_40 (by decide) ?_
  refine V_putI (k := 6) (ty := tyX1 6) dX1_init_41 (Or.inl (show 45 < 47 by decide)) rfl rfl rfl (Nat.le_of_ble_eq_true rfl) flRX1_37 rfl (tyX1_ok 6 (Nat.le_of_ble_eq_true rfl)) (by first | rfl | decide +kernel) (by first | rfl | decide +kernel) ?_
  refine V_aload_n (i := 0) dX1_init_44 rfl rfl ?_
  refine V_iconst_n (v := 0) dX1_init_45 (by decide) ?_
  refine V_putI (k := 7) (ty := tyX1 7) dX1_init_46 (Or.inl (show 45 < 47 by decide)) rfl rfl rfl (Nat.le_of_ble_eq_true rfl) flRX1_40 rfl (tyX1_ok 7 (Nat.le_of_ble_eq_true rfl)) (by first | rfl | decide +kernel) (by first | rfl | decide +kernel) ?_
  refine V_aload_n (i := 0) dX1_init_49 rfl rfl ?_
  refine V_bipush_n (v := 97) dX1_init_50 (by decide) ?_
  refine V_putI (k := 8) (ty := tyX1 8) dX1_init_52 (Or.inl (show 45 < 47 by decide)) rfl rfl rfl (Nat.le_of_ble_eq_true rfl) flRX1_44 rfl (tyX1_ok 8 (Nat.le_of_ble_eq_true rfl)) (by first | rfl | decide +kernel) (by first | rfl | decide +kernel) ?_
  refine V_aload_n (i := 0) dX1_init_55 rfl rfl ?_
  refine V_gets dX1_init_56 (List.mem_of_getElem? (i := 3) rfl) flRX1_48 ?_
  refine V_putR (k := 9) (z := 1010) (ty := tyX1 9) dX1_init_59 (Or.inl (show 45 < 47 by decide)) rfl rfl rfl (Nat.le_of_ble_eq_true rfl) flRX1_54 (Or.inl rfl) (tyX1_ok 9 (Nat.le_of_ble_eq_true rfl)) (fun _ => rfl) (fun _ => rfl) ?_
  refine V_aload_n (i := 0) dX1_init_62 rfl rfl ?_
  refine V_gets dX1_init_63 (List.mem_of_getElem? (i := 0) rfl) flRX1_57 ?_
  refine V_putR (k := 10) (z := 1000) (ty := tyX1 10) dX1_init_66 (Or.inl (show 45 < 47 by decide)) rfl rfl rfl (Nat.le_of_ble_eq_true rfl) flRX1_63 (Or.inl rfl) (tyX1_ok 10 (Nat.le_of_ble_eq_true rfl)) (fun _ => rfl) (fun _ => rfl) ?_
  exact V_vret dX1_init_69 rfl ⟨rfl, rfl⟩
def nX10 (w : Wd) : Wd := (pI (pI (pI (pI (pI (pR (nX1 (mkC 45 (pR (nX4 (mkC 43 (pR (nX3 (mkC 40 (pR (nX7 (mkC 36 (pR (nX2 (mkC 10 (pR (nX8 7 (mkC 7 (pR (nX8 4 (mkC 4 (pR (nX8 1 (mkC 1 w)) 0 0 (some 1)))) 0 1 (some 4)))) 0 2 (some 7)))) 0 3 (some 10)))) 0 4 (some 36)))) 0 5 (some 40)))) 0 6 (some 43)))) 0 7 (some 45)) 0 8 (nI 0)) 0 9 (zI (-1))) 0 10 (nI 0)) 0 11 (nI 0)) 0 12 (nI 0))
set_option maxRecDepth 100000 in
set_option maxHeartbeats 2000000 in
theorem k_X10 {w : Wd} (hb : wn w = 1) : CtX MX10_init 3 46 1892 [.ref 0] w (Rt none (nX10 w)) := by
  refine CtX_of (by decide) rfl (Nat.le_of_ble_eq_true rfl) rfl ?_
  refine V_aload_n (i := 0) dX10_init_0 rfl rfl ?_
  refine V_objI dX10_init_1 lkO_RX10 (Nat.le_of_ble_eq_true rfl) (Nat.le_of_ble_eq_true rfl) ?_
  refine V_aload_n (i := 0) dX10_init_4 rfl rfl ?_
  refine V_new (a := 1) dX10_init_5 hb (by decide) rfl rfl clRX10_7 ibButtonReef_State inButtonReef_State tyX8_ok rfl (by decide) (by decide) ⟨by omega, by omega⟩ ?_
  refine V_dup dX10_init_8 rfl ?_
  refine V_callIN (host := "ButtonReef") dX10_init_9 (k_X8 st0_1 rfl) okX8_init (List.mem_of_getElem? (i := 0) rfl) (fun _ _ h => h) (Nat.le_of_ble_eq_true rfl) ⟨(Nat.le_of_ble_eq_true rfl), (Nat.le_of_ble_eq_true rfl)⟩ rfl ⟨by omega, by omega⟩ ?_
  refine V_putR (k := 0) (z := 1) (ty := tyX10 0) dX10_init_12 (Or.inl (show 0 < 4 by decide)) rfl rfl rfl (Nat.le_of_ble_eq_true rfl) flRX10_10 (Or.inr ⟨rfl, rfl, rfl⟩) (tyX10_ok 0 (Nat.le_of_ble_eq_true rfl)) (fun _ => rfl) (fun _ => rfl) ?_
  refine V_aload_n (i := 0) dX10_init_15 rfl rfl ?_
  refine V_new (a := 4) dX10_init_16 rfl (by decide) rfl rfl clRX10_7 ibButtonReef_State inButtonReef_State tyX8_ok rfl (by decide) (by decide) ⟨by omega, by omega⟩ ?_
  refine V_dup dX10_init_19 rfl ?_
  refine V_callIN (host := "ButtonReef") dX10_init_20 (k_X8 st0_4 rfl) okX8_init (List.mem_of_getElem? (i := 0) rfl) (fun _ _ h => h) (Nat.le_of_ble_eq_true rfl) ⟨(Nat.le_of_ble_eq_true rfl), (Nat.le_of_ble_eq_true rfl)⟩ rfl ⟨by omega, by omega⟩ ?_
  refine V_putR (k := 1) (z := 4) (ty := tyX10 1) dX10_init_23 (Or.inl (show 0 < 7 by decide)) rfl rfl rfl (Nat.le_of_ble_eq_true rfl) flRX10_16 (Or.inr ⟨rfl, rfl, rfl⟩) (tyX10_ok 1 (Nat.le_of_ble_eq_true rfl)) (fun _ => rfl) (fun _ => rfl) ?_
  refine V_aload_n (i := 0) dX10_init_26 rfl rfl ?_
  refine V_new (a := 7) dX10_init_27 rfl (by decide) rfl rfl clRX10_7 ibButtonReef_State inButtonReef_State tyX8_ok rfl (by decide) (by decide) ⟨by omega, by omega⟩ ?_
  refine V_dup dX10_init_30 rfl ?_
  refine V_callIN (host := "ButtonReef") dX10_init_31 (k_X8 st0_7 rfl) okX8_init (List.mem_of_getElem? (i := 0) rfl) (fun _ _ h => h) (Nat.le_of_ble_eq_true rfl) ⟨(Nat.le_of_ble_eq_true rfl), (Nat.le_of_ble_eq_true rfl)⟩ rfl ⟨by omega, by omega⟩ ?_
  refine V_putR (k := 2) (z := 7) (ty := tyX10 2) dX10_init_34 (Or.inl (show 0 < 10 by decide)) rfl rfl rfl (Nat.le_of_ble_eq_true rfl) flRX10_19 (Or.inr ⟨rfl, rfl, rfl⟩) (tyX10_ok 2 (Nat.le_of_ble_eq_true rfl)) (fun _ => rfl) (fun _ => rfl) ?_
  refine V_aload_n (i := 0) dX10_init_37 rfl rfl ?_
  refine V_new (a := 10) dX10_init_38 rfl (by decide) rfl rfl clRX10_22 ibButtonReef_History inButtonReef_History tyX2_ok rfl (by decide) (by decide) ⟨by omega, by omega⟩ ?_
  refine V_dup dX10_init_41 rfl ?_
  refine V_callI dX10_init_42 (k_X2 rfl) okX2_init lkRX10_24 (fun _ _ h => h) (Nat.le_of_ble_eq_true rfl) ⟨(Nat.le_of_ble_eq_true rfl), (Nat.le_of_ble_eq_true rfl)⟩ rfl ⟨by omega, by omega⟩ ?_
  refine V_putR (k := 3) (z := 10) (ty := tyX10 3) dX10_init_45 (Or.inl (show 0 < 36 by decide)) rfl rfl rfl (Nat.le_of_ble_eq_true rfl) flRX10_25 (Or.inr ⟨rfl, rfl, rfl⟩) (tyX10_ok 3 (Nat.le_of_ble_eq_true rfl)) (fun _ => rfl) (fun _ => rfl) ?_
  refine V_aload_n (i := 0) dX10_init_48 rfl rfl ?_
  refine V_new (a := 36) dX10_init_49 rfl (by decide) rfl rfl clRX10_29 ibButtonReef_Sea inButtonReef_Sea tyX7_ok rfl (by decide) (by decide) ⟨by omega, by omega⟩ ?_
  refine V_dup dX10_init_52 rfl ?_
  refine V_callIN (host := "ButtonReef") dX10_init_53 (k_X7 rfl) okX7_init (List.mem_of_getElem? (i := 2) rfl) (fun _ _ h => h) (Nat.le_of_ble_eq_true rfl) ⟨(Nat.le_of_ble_eq_true rfl), (Nat.le_of_ble_eq_true rfl)⟩ rfl ⟨by omega, by omega⟩ ?_
  refine V_putR (k := 4) (z := 36) (ty := tyX10 4) dX10_init_56 (Or.inl (show 0 < 40 by decide)) rfl rfl rfl (Nat.le_of_ble_eq_true rfl) flRX10_32 (Or.inr ⟨rfl, rfl, rfl⟩) (tyX10_ok 4 (Nat.le_of_ble_eq_true rfl)) (fun _ => rfl) (fun _ => rfl) ?_
  refine V_aload_n (i := 0) dX10_init_59 rfl rfl ?_
  refine V_new (a := 40) dX10_init_60 rfl (by decide) rfl rfl clRX10_36 ibButtonReef_Islands inButtonReef_Islands tyX3_ok rfl (by decide) (by decide) ⟨by omega, by omega⟩ ?_
  refine V_dup dX10_init_63 rfl ?_
  refine V_callIN (host := "ButtonReef") dX10_init_64 (k_X3 rfl) okX3_init (List.mem_of_getElem? (i := 4) rfl) (fun _ _ h => h) (Nat.le_of_ble_eq_true rfl) ⟨(Nat.le_of_ble_eq_true rfl), (Nat.le_of_ble_eq_true rfl)⟩ rfl ⟨by omega, by omega⟩ ?_
  refine V_putR (k := 5) (z := 40) (ty := tyX10 5) dX10_init_67 (Or.inl (show 0 < 43 by decide)) rfl rfl rfl (Nat.le_of_ble_eq_true rfl) flRX10_39 (Or.inr ⟨rfl, rfl, rfl⟩) (tyX10_ok 5 (Nat.le_of_ble_eq_true rfl)) (fun _ => rfl) (fun _ => rfl) ?_
  refine V_aload_n (i := 0) dX10_init_70 rfl rfl ?_
  refine V_new (a := 43) dX10_init_71 rfl (by decide) rfl rfl clRX10_43 ibButtonReef_Output inButtonReef_Output tyX4_ok rfl (by decide) (by decide) ⟨by omega, by omega⟩ ?_
  refine V_dup dX10_init_74 rfl ?_
  refine V_callIN (host := "ButtonReef") dX10_init_75 (k_X4 rfl) okX4_init (List.mem_of_getElem? (i := 5) rfl) (fun _ _ h => h) (Nat.le_of_ble_eq_true rfl) ⟨(Nat.le_of_ble_eq_true rfl), (Nat.le_of_ble_eq_true rfl)⟩ rfl ⟨by omega, by omega⟩ ?_
  refine V_putR (k := 6) (z := 43) (ty := tyX10 6) dX10_init_78 (Or.inl (show 0 < 45 by decide)) rfl rfl rfl (Nat.le_of_ble_eq_true rfl) flRX10_46 (Or.inr ⟨rfl, rfl, rfl⟩) (tyX10_ok 6 (Nat.le_of_ble_eq_true rfl)) (fun _ => rfl) (fun _ => rfl) ?_
  refine V_aload_n (i := 0) dX10_init_81 rfl rfl ?_
  refine V_new (a := 45) dX10_init_82 rfl (by decide) rfl rfl clRX10_50 ibButtonReef_CommandText inButtonReef_CommandText tyX1_ok rfl (by decide) (by decide) ⟨by omega, by omega⟩ ?_
  refine V_dup dX10_init_85 rfl ?_
  refine V_callIN (host := "ButtonReef") dX10_init_86 (k_X1 rfl) okX1_init (List.mem_of_getElem? (i := 6) rfl) (fun _ _ h => h) (Nat.le_of_ble_eq_true rfl) ⟨(Nat.le_of_ble_eq_true rfl), (Nat.le_of_ble_eq_true rfl)⟩ rfl ⟨by omega, by omega⟩ ?_
  refine V_putR (k := 7) (z := 45) (ty := tyX10 7) dX10_init_89 (Or.inl (show 0 < 47 by decide)) rfl rfl rfl (Nat.le_of_ble_eq_true rfl) flRX10_53 (Or.inr ⟨rfl, rfl, rfl⟩) (tyX10_ok 7 (Nat.le_of_ble_eq_true rfl)) (fun _ => rfl) (fun _ => rfl) ?_
  refine V_aload_n (i := 0) dX10_init_92 rfl rfl ?_
  refine V_iconst_n (v := 0) dX10_init_93 (by decide) ?_
  refine V_putI (k := 8) (ty := tyX10 8) dX10_init_94 (Or.inl (show 0 < 47 by decide)) rfl rfl rfl (Nat.le_of_ble_eq_true rfl) flRX10_57 rfl (tyX10_ok 8 (Nat.le_of_ble_eq_true rfl)) (by first | rfl | decide +kernel) (by first | rfl | decide +kernel) ?_
  refine V_aload_n (i := 0) dX10_init_97 rfl rfl ?_
  refine V_iconst (v := zI (-1)) dX10_init_98 rfl ?_
  refine V_putI (k := 9) (ty := tyX10 9) dX10_init_99 (Or.inl (show 0 < 47 by decide)) rfl rfl rfl (Nat.le_of_ble_eq_true rfl) flRX10_61 rfl (tyX10_ok 9 (Nat.le_of_ble_eq_true rfl)) (by first | rfl | decide +kernel) (by first | rfl | decide +kernel) ?_
  refine V_aload_n (i := 0) dX10_init_102 rfl rfl ?_
  refine V_iconst_n (v := 0) dX10_init_103 (by decide) ?_
  refine V_putI (k := 10) (ty := tyX10 10) dX10_init_104 (Or.inl (show 0 < 47 by decide)) rfl rfl rfl (Nat.le_of_ble_eq_true rfl) flRX10_65 rfl (tyX10_ok 10 (Nat.le_of_ble_eq_true rfl)) (by first | rfl | decide +kernel) (by first | rfl | decide +kernel) ?_
  refine V_aload_n (i := 0) dX10_init_107 rfl rfl ?_
  refine V_iconst_n (v := 0) dX10_init_108 (by decide) ?_
  refine V_putI (k := 11) (ty := tyX10 11) dX10_init_109 (Or.inl (show 0 < 47 by decide)) rfl rfl rfl (Nat.le_of_ble_eq_true rfl) flRX10_68 rfl (tyX10_ok 11 (Nat.le_of_ble_eq_true rfl)) (by first | rfl | decide +kernel) (by first | rfl | decide +kernel) ?_
  refine V_aload_n (i := 0) dX10_init_112 rfl rfl ?_
  refine V_iconst_n (v := 0) dX10_init_113 (by decide) ?_
  refine V_putI (k := 12) (ty := tyX10 12) dX10_init_114 (Or.inl (show 0 < 47 by decide)) rfl rfl rfl (Nat.le_of_ble_eq_true rfl) flRX10_71 rfl (tyX10_ok 12 (Nat.le_of_ble_eq_true rfl)) (by first | rfl | decide +kernel) (by first | rfl | decide +kernel) ?_
  exact V_vret dX10_init_117 rfl ⟨rfl, rfl⟩
def nX11 (w : Wd) : Wd := (pR (mkC 64 (pR (pI (pI (pI (pI (pI (pI (pI (pI (mkC 63 (pR (pI (pI (pI (pI (pI (pI (pI (pI (pI (pI (pI (pI (pI (pI (pI (pI (pI (pI (pI (pI (pI (pI (pI (pI (pI (pI (pI (pI (pI (pI (pI (pI (pI (pI (pI (pI (pI (pI (pI (pI (pI (pI (pI (mkC 62 (pR (pI (pI (pI (pI (pI (pI (pI (pI (pI (pI (pI (pI (mkC 61 (pR (mkC 60 (pR (mkC 59 (pR (mkC 58 (pR (mkC 57 (pR (pI (pI (pI (pI (pI (mkC 56 (pR (pI (pI (pI (pI (pI (pI (pI (pI (pI (pI (pI (pI (pI (pI (pI (pI (pI (mkC 55 (pR (mkC 54 (pI (pR (mkC 53 (pR (mkC 52 (pR (mkC 51 (pR (mkC 50 (pR (mkC 49 (pR (mkC 48 w) 47 0 (some 48))) 47 1 (some 49))) 47 2 (some 50))) 47 3 (some 51))) 47 4 (some 52))) 47 6 (some 53)) 47 8 (zI (-1)))) 47 10 (some 54))) 55 (nI 0).toNatClampNeg (nI 0)) 55 (nI 1).toNatClampNeg (nI 1)) 55 (nI 2).toNatClampNeg (nI 10)) 55 (nI 3).toNatClampNeg (nI 11)) 55 (nI 4).toNatClampNeg (nI 0)) 55 (nI 5).toNatClampNeg (nI 1)) 55 (nI 6).toNatClampNeg (nI 2)) 55 (nI 7).toNatClampNeg (nI 1)) 55 (nI 8).toNatClampNeg (nI 10)) 55 (nI 9).toNatClampNeg (nI 11)) 55 (nI 10).toNatClampNeg (nI 12)) 55 (nI 11).toNatClampNeg (nI 21)) 55 (nI 12).toNatClampNeg (nI 1)) 55 (nI 13).toNatClampNeg (nI 12)) 55 (nI 14).toNatClampNeg (nI 20)) 55 (nI 15).toNatClampNeg (nI 21)) 55 (nI 16).toNatClampNeg (nI 22)) 47 17 (some 55))) 56 (nI 0).toNatClampNeg (nI 0)) 56 (nI 1).toNatClampNeg (nI 4)) 56 (nI 2).toNatClampNeg (nI 7)) 56 (nI 3).toNatClampNeg (nI 12)) 56 (nI 4).toNatClampNeg (nI 17)) 47 18 (some 56))) 47 19 (some 57))) 47 20 (some 58))) 47 21 (some 59))) 47 22 (some 60))) 61 (nI 0).toNatClampNeg (nI 99)) 61 (nI 1).toNatClampNeg (nI 97)) 61 (nI 2).toNatClampNeg (nI 108)) 61 (nI 3).toNatClampNeg (nI 109)) 61 (nI 4).toNatClampNeg (nI 98)) 61 (nI 5).toNatClampNeg (nI 117)) 61 (nI 6).toNatClampNeg (nI 115)) 61 (nI 7).toNatClampNeg (nI 121)) 61 (nI 8).toNatClampNeg (nI 115)) 61 (nI 9).toNatClampNeg (nI 108)) 61 (nI 10).toNatClampNeg (nI 111)) 61 (nI 11).toNatClampNeg (nI 119)) 47 24 (some 61))) 62 (nI 0).toNatClampNeg (nI 112)) 62 (nI 1).toNatClampNeg (nI 108)) 62 (nI 2).toNatClampNeg (nI 97)) 62 (nI 3).toNatClampNeg (nI 99)) 62 (nI 4).toNatClampNeg (nI 101)) 62 (nI 5).toNatClampNeg (nI 32)) 62 (nI 6).toNatClampNeg (nI 114)) 62 (nI 7).toNatClampNeg (nI 101)) 62 (nI 8).toNatClampNeg (nI 109)) 62 (nI 9).toNatClampNeg (nI 111)) 62 (nI 10).toNatClampNeg (nI 118)) 62 (nI 11).toNatClampNeg (nI 101)) 62 (nI 12).toNatClampNeg (nI 32)) 62 (nI 13).toNatClampNeg (nI 98)) 62 (nI 14).toNatClampNeg (nI 108)) 62 (nI 15).toNatClampNeg (nI 101)) 62 (nI 16).toNatClampNeg (nI 97)) 62 (nI 17).toNatClampNeg (nI 99)) 62 (nI 18).toNatClampNeg (nI 104)) 62 (nI 19).toNatClampNeg (nI 32)) 62 (nI 20).toNatClampNeg (nI 99)) 62 (nI 21).toNatClampNeg (nI 111)) 62 (nI 22).toNatClampNeg (nI 108)) 62 (nI 23).toNatClampNeg (nI 111)) 62 (nI 24).toNatClampNeg (nI 117)) 62 (nI 25).toNatClampNeg (nI 114)) 62 (nI 26).toNatClampNeg (nI 32)) 62 (nI 27).toNatClampNeg (nI 112)) 62 (nI 28).toNatClampNeg (nI 108)) 62 (nI 29).toNatClampNeg (nI 97)) 62 (nI 30).toNatClampNeg (nI 110)) 62 (nI 31).toNatClampNeg (nI 116)) 62 (nI 32).toNatClampNeg (nI 32)) 62 (nI 33).toNatClampNeg (nI 114)) 62 (nI 34).toNatClampNeg (nI 117)) 62 (nI 35).toNatClampNeg (nI 108)) 62 (nI 36).toNatClampNeg (nI 101)) 62 (nI 37).toNatClampNeg (nI 32)) 62 (nI 38).toNatClampNeg (nI 116)) 62 (nI 39).toNatClampNeg (nI 105)) 62 (nI 40).toNatClampNeg (nI 100)) 62 (nI 41).toNatClampNeg (nI 101)) 62 (nI 42).toNatClampNeg (nI 32)) 47 25 (some 62))) 63 (nI 0).toNatClampNeg (nI 0)) 63 (nI 1).toNatClampNeg (nI 6)) 63 (nI 2).toNatClampNeg (nI 13)) 63 (nI 3).toNatClampNeg (nI 20)) 63 (nI 4).toNatClampNeg (nI 27)) 63 (nI 5).toNatClampNeg (nI 33)) 63 (nI 6).toNatClampNeg (nI 38)) 63 (nI 7).toNatClampNeg (nI 43)) 47 26 (some 63))) 47 27 (some 64))
set_option maxRecDepth 100000 in
set_option maxHeartbeats 2000000 in
theorem k_X11 {w : Wd} (hb : wn w = 48) : CtX MX11_init 1 17 1591 [.ref 47] w (Rt none (nX11 w)) := by
  refine CtX_of (by decide) rfl (Nat.le_of_ble_eq_true rfl) rfl ?_
  refine V_aload_n (i := 0) dX11_init_0 rfl rfl ?_
  refine V_objI dX11_init_1 lkO_RX11 (Nat.le_of_ble_eq_true rfl) (Nat.le_of_ble_eq_true rfl) ?_
  refine V_aload_n (i := 0) dX11_init_4 rfl rfl ?_
  refine V_bipush_n (v := 71) dX11_init_5 (by decide) ?_
  refine V_newI (a := 48) dX11_init_7 hb (by decide) rfl ac_int (by decide) ⟨by omega, by omega⟩ ?_
  refine V_putR (k := 0) (z := 48) (ty := tyX11 0) dX11_init_9 (Or.inl (show 47 < 49 by decide)) rfl rfl rfl (Nat.le_of_ble_eq_true rfl) flRX11_9 (Or.inr ⟨rfl, rfl, rfl⟩) (tyX11_ok 0 (Nat.le_of_ble_eq_true rfl)) (fun _ => rfl) (fun _ => rfl) ?_
  refine V_aload_n (i := 0) dX11_init_12 rfl rfl ?_
  refine V_bipush_n (v := 71) dX11_init_13 (by decide) ?_
  refine V_newI (a := 49) dX11_init_15 rfl (by decide) rfl ac_int (by decide) ⟨by omega, by omega⟩ ?_
  refine V_putR (k := 1) (z := 49) (ty := tyX11 1) dX11_init_17 (Or.inl (show 47 < 50 by decide)) rfl rfl rfl (Nat.le_of_ble_eq_true rfl) flRX11_13 (Or.inr ⟨rfl, rfl, rfl⟩) (tyX11_ok 1 (Nat.le_of_ble_eq_true rfl)) (fun _ => rfl) (fun _ => rfl) ?_
  refine V_aload_n (i := 0) dX11_init_20 rfl rfl ?_
  refine V_bipush_n (v := 71) dX11_init_21 (by decide) ?_
  refine V_newI (a := 50) dX11_init_23 rfl (by decide) rfl ac_int (by decide) ⟨by omega, by omega⟩ ?_
  refine V_putR (k := 2) (z := 50) (ty := tyX11 2) dX11_init_25 (Or.inl (show 47 < 51 by decide)) rfl rfl rfl (Nat.le_of_ble_eq_true rfl) flRX11_16 (Or.inr ⟨rfl, rfl, rfl⟩) (tyX11_ok 2 (Nat.le_of_ble_eq_true rfl)) (fun _ => rfl) (fun _ => rfl) ?_
  refine V_aload_n (i := 0) dX11_init_28 rfl rfl ?_
  refine V_bipush_n (v := 71) dX11_init_29 (by decide) ?_
  refine V_newI (a := 51) dX11_init_31 rfl (by decide) rfl ac_int (by decide) ⟨by omega, by omega⟩ ?_
  refine V_putR (k := 3) (z := 51) (ty := tyX11 3) dX11_init_33 (Or.inl (show 47 < 52 by decide)) rfl rfl rfl (Nat.le_of_ble_eq_true rfl) flRX11_19 (Or.inr ⟨rfl, rfl, rfl⟩) (tyX11_ok 3 (Nat.le_of_ble_eq_true rfl)) (fun _ => rfl) (fun _ => rfl) ?_
  refine V_aload_n (i := 0) dX11_init_36 rfl rfl ?_
  refine V_bipush_n (v := 64) dX11_init_37 (by decide) ?_
  refine V_newI (a := 52) dX11_init_39 rfl (by decide) rfl ac_int (by decide) ⟨by omega, by omega⟩ ?_
  refine V_putR (k := 4) (z := 52) (ty := tyX11 4) dX11_init_41 (Or.inl (show 47 < 53 by decide)) rfl rfl rfl (Nat.le_of_ble_eq_true rfl) flRX11_22 (Or.inr ⟨rfl, rfl, rfl⟩) (tyX11_ok 4 (Nat.le_of_ble_eq_true rfl)) (fun _ => rfl) (fun _ => rfl) ?_
  refine V_aload_n (i := 0) dX11_init_44 rfl rfl ?_
  refine V_sipush_n (v := 568) dX11_init_45 (by decide) ?_
  refine V_newI (a := 53) dX11_init_48 rfl (by decide) rfl ac_int (by decide) ⟨by omega, by omega⟩ ?_
  refine V_putR (k := 6) (z := 53) (ty := tyX11 6) dX11_init_50 (Or.inl (show 47 < 54 by decide)) rfl rfl rfl (Nat.le_of_ble_eq_true rfl) flRX11_25 (Or.inr ⟨rfl, rfl, rfl⟩) (tyX11_ok 6 (Nat.le_of_ble_eq_true rfl)) (fun _ => rfl) (fun _ => rfl) ?_
  refine V_aload_n (i := 0) dX11_init_53 rfl rfl ?_
  refine V_iconst (v := zI (-1)) dX11_init_54 rfl ?_
  refine V_putI (k := 8) (ty := tyX11 8) dX11_init_55 (Or.inl (show 47 < 54 by decide)) rfl rfl rfl (Nat.le_of_ble_eq_true rfl) flRX11_28 rfl (tyX11_ok 8 (Nat.le_of_ble_eq_true rfl)) (by first | rfl | decide +kernel) (by first | rfl | decide +kernel) ?_
  refine V_aload_n (i := 0) dX11_init_58 rfl rfl ?_
  refine V_bipush_n (v := 60) dX11_init_59 (by decide) ?_
  refine V_newI (a := 54) dX11_init_61 rfl (by decide) rfl ac_int (by decide) ⟨by omega, by omega⟩ ?_
  refine V_putR (k := 10) (z := 54) (ty := tyX11 10) dX11_init_63 (Or.inl (show 47 < 55 by decide)) rfl rfl rfl (Nat.le_of_ble_eq_true rfl) flRX11_32 (Or.inr ⟨rfl, rfl, rfl⟩) (tyX11_ok 10 (Nat.le_of_ble_eq_true rfl)) (fun _ => rfl) (fun _ => rfl) ?_
  refine V_aload_n (i := 0) dX11_init_66 rfl rfl ?_
  refine V_bipush_n (v := 17) dX11_init_67 (by decide) ?_
  refine V_newI (a := 55) dX11_init_69 rfl (by decide) rfl ac_int (by decide) ⟨by omega, by omega⟩ ?_
  refine V_dup dX11_init_71 rfl ?_
  refine V_iconst_n (v := 0) dX11_init_72 (by decide) ?_
  refine V_iconst_n (v := 0) dX11_init_73 (by decide) ?_
  refine V_iast dX11_init_74 (Or.inl (show 55 < 56 by decide)) rfl (in_n (a := 0) (by decide) (by decide)) ?_
  refine V_dup dX11_init_75 rfl ?_
  refine V_iconst_n (v := 1) dX11_init_76 (by decide) ?_
  refine V_iconst_n (v := 1) dX11_init_77 (by decide) ?_
  refine V_iast dX11_init_78 (Or.inl (show 55 < 56 by decide)) rfl (in_n (a := 1) (by decide) (by decide)) ?_
  refine V_dup dX11_init_79 rfl ?_
  refine V_iconst_n (v := 2) dX11_init_80 (by decide) ?_
  refine V_bipush_n (v := 10) dX11_init_81 (by decide) ?_
  refine V_iast dX11_init_83 (Or.inl (show 55 < 56 by decide)) rfl (in_n (a := 2) (by decide) (by decide)) ?_
  refine V_dup dX11_init_84 rfl ?_
  refine V_iconst_n (v := 3) dX11_init_85 (by decide) ?_
  refine V_bipush_n (v := 11) dX11_init_86 (by decide) ?_
  refine V_iast dX11_init_88 (Or.inl (show 55 < 56 by decide)) rfl (in_n (a := 3) (by decide) (by decide)) ?_
  refine V_dup dX11_init_89 rfl ?_
  refine V_iconst_n (v := 4) dX11_init_90 (by decide) ?_
  refine V_iconst_n (v := 0) dX11_init_91 (by decide) ?_
  refine V_iast dX11_init_92 (Or.inl (show 55 < 56 by decide)) rfl (in_n (a := 4) (by decide) (by decide)) ?_
  refine V_dup dX11_init_93 rfl ?_
  refine V_iconst_n (v := 5) dX11_init_94 (by decide) ?_
  refine V_iconst_n (v := 1) dX11_init_95 (by decide) ?_
  refine V_iast dX11_init_96 (Or.inl (show 55 < 56 by decide)) rfl (in_n (a := 5) (by decide) (by decide)) ?_
  refine V_dup dX11_init_97 rfl ?_
  refine V_bipush_n (v := 6) dX11_init_98 (by decide) ?_
  refine V_iconst_n (v := 2) dX11_init_100 (by decide) ?_
  refine V_iast dX11_init_101 (Or.inl (show 55 < 56 by decide)) rfl (in_n (a := 6) (by decide) (by decide)) ?_
  refine V_dup dX11_init_102 rfl ?_
  refine V_bipush_n (v := 7) dX11_init_103 (by decide) ?_
  refine V_iconst_n (v := 1) dX11_init_105 (by decide) ?_
  refine V_iast dX11_init_106 (Or.inl (show 55 < 56 by decide)) rfl (in_n (a := 7) (by decide) (by decide)) ?_
  refine V_dup dX11_init_107 rfl ?_
  refine V_bipush_n (v := 8) dX11_init_108 (by decide) ?_
  refine V_bipush_n (v := 10) dX11_init_110 (by decide) ?_
  refine V_iast dX11_init_112 (Or.inl (show 55 < 56 by decide)) rfl (in_n (a := 8) (by decide) (by decide)) ?_
  refine V_dup dX11_init_113 rfl ?_
  refine V_bipush_n (v := 9) dX11_init_114 (by decide) ?_
  refine V_bipush_n (v := 11) dX11_init_116 (by decide) ?_
  refine V_iast dX11_init_118 (Or.inl (show 55 < 56 by decide)) rfl (in_n (a := 9) (by decide) (by decide)) ?_
  refine V_dup dX11_init_119 rfl ?_
  refine V_bipush_n (v := 10) dX11_init_120 (by decide) ?_
  refine V_bipush_n (v := 12) dX11_init_122 (by decide) ?_
  refine V_iast dX11_init_124 (Or.inl (show 55 < 56 by decide)) rfl (in_n (a := 10) (by decide) (by decide)) ?_
  refine V_dup dX11_init_125 rfl ?_
  refine V_bipush_n (v := 11) dX11_init_126 (by decide) ?_
  refine V_bipush_n (v := 21) dX11_init_128 (by decide) ?_
  refine V_iast dX11_init_130 (Or.inl (show 55 < 56 by decide)) rfl (in_n (a := 11) (by decide) (by decide)) ?_
  refine V_dup dX11_init_131 rfl ?_
  refine V_bipush_n (v := 12) dX11_init_132 (by decide) ?_
  refine V_iconst_n (v := 1) dX11_init_134 (by decide) ?_
  refine V_iast dX11_init_135 (Or.inl (show 55 < 56 by decide)) rfl (in_n (a := 12) (by decide) (by decide)) ?_
  refine V_dup dX11_init_136 rfl ?_
  refine V_bipush_n (v := 13) dX11_init_137 (by decide) ?_
  refine V_bipush_n (v := 12) dX11_init_139 (by decide) ?_
  refine V_iast dX11_init_141 (Or.inl (show 55 < 56 by decide)) rfl (in_n (a := 13) (by decide) (by decide)) ?_
  refine V_dup dX11_init_142 rfl ?_
  refine V_bipush_n (v := 14) dX11_init_143 (by decide) ?_
  refine V_bipush_n (v := 20) dX11_init_145 (by decide) ?_
  refine V_iast dX11_init_147 (Or.inl (show 55 < 56 by decide)) rfl (in_n (a := 14) (by decide) (by decide)) ?_
  refine V_dup dX11_init_148 rfl ?_
  refine V_bipush_n (v := 15) dX11_init_149 (by decide) ?_
  refine V_bipush_n (v := 21) dX11_init_151 (by decide) ?_
  refine V_iast dX11_init_153 (Or.inl (show 55 < 56 by decide)) rfl (in_n (a := 15) (by decide) (by decide)) ?_
  refine V_dup dX11_init_154 rfl ?_
  refine V_bipush_n (v := 16) dX11_init_155 (by decide) ?_
  refine V_bipush_n (v := 22) dX11_init_157 (by decide) ?_
  refine V_iast dX11_init_159 (Or.inl (show 55 < 56 by decide)) rfl (in_n (a := 16) (by decide) (by decide)) ?_
  refine V_putR (k := 17) (z := 55) (ty := tyX11 17) dX11_init_160 (Or.inl (show 47 < 56 by decide)) rfl rfl rfl (Nat.le_of_ble_eq_true rfl) flRX11_35 (Or.inr ⟨rfl, rfl, rfl⟩) (tyX11_ok 17 (Nat.le_of_ble_eq_true rfl)) (fun _ => rfl) (fun _ => rfl) ?_
  refine V_aload_n (i := 0) dX11_init_163 rfl rfl ?_
  refine V_iconst_n (v := 5) dX11_init_164 (by decide) ?_
  refine V_newI (a := 56) dX11_init_165 rfl (by decide) rfl ac_int (by decide) ⟨by omega, by omega⟩ ?_
  refine V_dup dX11_init_167 rfl ?_
  refine V_iconst_n (v := 0) dX11_init_168 (by decide) ?_
  refine V_iconst_n (v := 0) dX11_init_169 (by decide) ?_
  refine V_iast dX11_init_170 (Or.inl (show 56 < 57 by decide)) rfl (in_n (a := 0) (by decide) (by decide)) ?_
  refine V_dup dX11_init_171 rfl ?_
  refine V_iconst_n (v := 1) dX11_init_172 (by decide) ?_
  refine V_iconst_n (v := 4) dX11_init_173 (by decide) ?_
  refine V_iast dX11_init_174 (Or.inl (show 56 < 57 by decide)) rfl (in_n (a := 1) (by decide) (by decide)) ?_
  refine V_dup dX11_init_175 rfl ?_
  refine V_iconst_n (v := 2) dX11_init_176 (by decide) ?_
  refine V_bipush_n (v := 7) dX11_init_177 (by decide) ?_
  refine V_iast dX11_init_179 (Or.inl (show 56 < 57 by decide)) rfl (in_n (a := 2) (by decide) (by decide)) ?_
  refine V_dup dX11_init_180 rfl ?_
  refine V_iconst_n (v := 3) dX11_init_181 (by decide) ?_
  refine V_bipush_n (v := 12) dX11_init_182 (by decide) ?_
  refine V_iast dX11_init_184 (Or.inl (show 56 < 57 by decide)) rfl (in_n (a := 3) (by decide) (by decide)) ?_
  refine V_dup dX11_init_185 rfl ?_
  refine V_iconst_n (v := 4) dX11_init_186 (by decide) ?_
  refine V_bipush_n (v := 17) dX11_init_187 (by decide) ?_
  refine V_iast dX11_init_189 (Or.inl (show 56 < 57 by decide)) rfl (in_n (a := 4) (by decide) (by decide)) ?_
  refine V_putR (k := 18) (z := 56) (ty := tyX11 18) dX11_init_190 (Or.inl (show 47 < 57 by decide)) rfl rfl rfl (Nat.le_of_ble_eq_true rfl) flRX11_38 (Or.inr ⟨rfl, rfl, rfl⟩) (tyX11_ok 18 (Nat.le_of_ble_eq_true rfl)) (fun _ => rfl) (fun _ => rfl) ?_
  refine V_aload_n (i := 0) dX11_init_193 rfl rfl ?_
  refine V_bipush_n (v := 64) dX11_init_194 (by decide) ?_
  refine V_newI (a := 57) dX11_init_196 rfl (by decide) rfl ac_int (by decide) ⟨by omega, by omega⟩ ?_
  refine V_putR (k := 19) (z := 57) (ty := tyX11 19) dX11_init_198 (Or.inl (show 47 < 58 by decide)) rfl rfl rfl (Nat.le_of_ble_eq_true rfl) flRX11_41 (Or.inr ⟨rfl, rfl, rfl⟩) (tyX11_ok 19 (Nat.le_of_ble_eq_true rfl)) (fun _ => rfl) (fun _ => rfl) ?_
  refine V_aload_n (i := 0) dX11_init_201 rfl rfl ?_
  refine V_bipush_n (v := 64) dX11_init_202 (by decide) ?_
  refine V_newI (a := 58) dX11_init_204 rfl (by decide) rfl ac_int (by decide) ⟨by omega, by omega⟩ ?_
  refine V_putR (k := 20) (z := 58) (ty := tyX11 20) dX11_init_206 (Or.inl (show 47 < 59 by decide)) rfl rfl rfl (Nat.le_of_ble_eq_true rfl) flRX11_44 (Or.inr ⟨rfl, rfl, rfl⟩) (tyX11_ok 20 (Nat.le_of_ble_eq_true rfl)) (fun _ => rfl) (fun _ => rfl) ?_
  refine V_aload_n (i := 0) dX11_init_209 rfl rfl ?_
  refine V_bipush_n (v := 65) dX11_init_210 (by decide) ?_
  refine V_newI (a := 59) dX11_init_212 rfl (by decide) rfl ac_int (by decide) ⟨by omega, by omega⟩ ?_
  refine V_putR (k := 21) (z := 59) (ty := tyX11 21) dX11_init_214 (Or.inl (show 47 < 60 by decide)) rfl rfl rfl (Nat.le_of_ble_eq_true rfl) flRX11_47 (Or.inr ⟨rfl, rfl, rfl⟩) (tyX11_ok 21 (Nat.le_of_ble_eq_true rfl)) (fun _ => rfl) (fun _ => rfl) ?_
  refine V_aload_n (i := 0) dX11_init_217 rfl rfl ?_
  refine V_bipush_n (v := 32) dX11_init_218 (by decide) ?_
  refine V_newI (a := 60) dX11_init_220 rfl (by decide) rfl ac_int (by decide) ⟨by omega, by omega⟩ ?_
  refine V_putR (k := 22) (z := 60) (ty := tyX11 22) dX11_init_222 (Or.inl (show 47 < 61 by decide)) rfl rfl rfl (Nat.le_of_ble_eq_true rfl) flRX11_50 (Or.inr ⟨rfl, rfl, rfl⟩) (tyX11_ok 22 (Nat.le_of_ble_eq_true rfl)) (fun _ => rfl) (fun _ => rfl) ?_
  refine V_aload_n (i := 0) dX11_init_225 rfl rfl ?_
  refine V_bipush_n (v := 12) dX11_init_226 (by decide) ?_
  refine V_newCh (a := 61) dX11_init_228 rfl (by decide) rfl ac_char (by decide) ⟨by omega, by omega⟩ ?_
  refine V_dup dX11_init_230 rfl ?_
  refine V_iconst_n (v := 0) dX11_init_231 (by decide) ?_
  refine V_bipush_n (v := 99) dX11_init_232 (by decide) ?_
  refine V_cast dX11_init_234 (Or.inl (show 61 < 62 by decide)) rfl (in_n (a := 0) (by decide) (by decide)) (by first | rfl | decide +kernel) ?_
  refine V_dup dX11_init_235 rfl ?_
  refine V_iconst_n (v := 1) dX11_init_236 (by decide) ?_
  refine V_bipush_n (v := 97) dX11_init_237 (by decide) ?_
  refine V_cast dX11_init_239 (Or.inl (show 61 < 62 by decide)) rfl (in_n (a := 1) (by decide) (by decide)) (by first | rfl | decide +kernel) ?_
  refine V_dup dX11_init_240 rfl ?_
  refine V_iconst_n (v := 2) dX11_init_241 (by decide) ?_
  refine V_bipush_n (v := 108) dX11_init_242 (by decide) ?_
  refine V_cast dX11_init_244 (Or.inl (show 61 < 62 by decide)) rfl (in_n (a := 2) (by decide) (by decide)) (by first | rfl | decide +kernel) ?_
  refine V_dup dX11_init_245 rfl ?_
  refine V_iconst_n (v := 3) dX11_init_246 (by decide) ?_
  refine V_bipush_n (v := 109) dX11_init_247 (by decide) ?_
  refine V_cast dX11_init_249 (Or.inl (show 61 < 62 by decide)) rfl (in_n (a := 3) (by decide) (by decide)) (by first | rfl | decide +kernel) ?_
  refine V_dup dX11_init_250 rfl ?_
  refine V_iconst_n (v := 4) dX11_init_251 (by decide) ?_
  refine V_bipush_n (v := 98) dX11_init_252 (by decide) ?_
  refine V_cast dX11_init_254 (Or.inl (show 61 < 62 by decide)) rfl (in_n (a := 4) (by decide) (by decide)) (by first | rfl | decide +kernel) ?_
  refine V_dup dX11_init_255 rfl ?_
  refine V_iconst_n (v := 5) dX11_init_256 (by decide) ?_
  refine V_bipush_n (v := 117) dX11_init_257 (by decide) ?_
  refine V_cast dX11_init_259 (Or.inl (show 61 < 62 by decide)) rfl (in_n (a := 5) (by decide) (by decide)) (by first | rfl | decide +kernel) ?_
  refine V_dup dX11_init_260 rfl ?_
  refine V_bipush_n (v := 6) dX11_init_261 (by decide) ?_
  refine V_bipush_n (v := 115) dX11_init_263 (by decide) ?_
  refine V_cast dX11_init_265 (Or.inl (show 61 < 62 by decide)) rfl (in_n (a := 6) (by decide) (by decide)) (by first | rfl | decide +kernel) ?_
  refine V_dup dX11_init_266 rfl ?_
  refine V_bipush_n (v := 7) dX11_init_267 (by decide) ?_
  refine V_bipush_n (v := 121) dX11_init_269 (by decide) ?_
  refine V_cast dX11_init_271 (Or.inl (show 61 < 62 by decide)) rfl (in_n (a := 7) (by decide) (by decide)) (by first | rfl | decide +kernel) ?_
  refine V_dup dX11_init_272 rfl ?_
  refine V_bipush_n (v := 8) dX11_init_273 (by decide) ?_
  refine V_bipush_n (v := 115) dX11_init_275 (by decide) ?_
  refine V_cast dX11_init_277 (Or.inl (show 61 < 62 by decide)) rfl (in_n (a := 8) (by decide) (by decide)) (by first | rfl | decide +kernel) ?_
  refine V_dup dX11_init_278 rfl ?_
  refine V_bipush_n (v := 9) dX11_init_279 (by decide) ?_
  refine V_bipush_n (v := 108) dX11_init_281 (by decide) ?_
  refine V_cast dX11_init_283 (Or.inl (show 61 < 62 by decide)) rfl (in_n (a := 9) (by decide) (by decide)) (by first | rfl | decide +kernel) ?_
  refine V_dup dX11_init_284 rfl ?_
  refine V_bipush_n (v := 10) dX11_init_285 (by decide) ?_
  refine V_bipush_n (v := 111) dX11_init_287 (by decide) ?_
  refine V_cast dX11_init_289 (Or.inl (show 61 < 62 by decide)) rfl (in_n (a := 10) (by decide) (by decide)) (by first | rfl | decide +kernel) ?_
  refine V_dup dX11_init_290 rfl ?_
  refine V_bipush_n (v := 11) dX11_init_291 (by decide) ?_
  refine V_bipush_n (v := 119) dX11_init_293 (by decide) ?_
  refine V_cast dX11_init_295 (Or.inl (show 61 < 62 by decide)) rfl (in_n (a := 11) (by decide) (by decide)) (by first | rfl | decide +kernel) ?_
  refine V_putR (k := 24) (z := 61) (ty := tyX11 24) dX11_init_296 (Or.inl (show 47 < 62 by decide)) rfl rfl rfl (Nat.le_of_ble_eq_true rfl) flRX11_53 (Or.inr ⟨rfl, rfl, rfl⟩) (tyX11_ok 24 (Nat.le_of_ble_eq_true rfl)) (fun _ => rfl) (fun _ => rfl) ?_
  refine V_aload_n (i := 0) dX11_init_299 rfl rfl ?_
  refine V_bipush_n (v := 43) dX11_init_300 (by decide) ?_
  refine V_newCh (a := 62) dX11_init_302 rfl (by decide) rfl ac_char (by decide) ⟨by omega, by omega⟩ ?_
  refine V_dup dX11_init_304 rfl ?_
  refine V_iconst_n (v := 0) dX11_init_305 (by decide) ?_
  refine V_bipush_n (v := 112) dX11_init_306 (by decide) ?_
  refine V_cast dX11_init_308 (Or.inl (show 62 < 63 by decide)) rfl (in_n (a := 0) (by decide) (by decide)) (by first | rfl | decide +kernel) ?_
  refine V_dup dX11_init_309 rfl ?_
  refine V_iconst_n (v := 1) dX11_init_310 (by decide) ?_
  refine V_bipush_n (v := 108) dX11_init_311 (by decide) ?_
  refine V_cast dX11_init_313 (Or.inl (show 62 < 63 by decide)) rfl (in_n (a := 1) (by decide) (by decide)) (by first | rfl | decide +kernel) ?_
  refine V_dup dX11_init_314 rfl ?_
  refine V_iconst_n (v := 2) dX11_init_315 (by decide) ?_
  refine V_bipush_n (v := 97) dX11_init_316 (by decide) ?_
  refine V_cast dX11_init_318 (Or.inl (show 62 < 63 by decide)) rfl (in_n (a := 2) (by decide) (by decide)) (by first | rfl | decide +kernel) ?_
  refine V_dup dX11_init_319 rfl ?_
  refine V_iconst_n (v := 3) dX11_init_320 (by decide) ?_
  refine V_bipush_n (v := 99) dX11_init_321 (by decide) ?_
  refine V_cast dX11_init_323 (Or.inl (show 62 < 63 by decide)) rfl (in_n (a := 3) (by decide) (by decide)) (by first | rfl | decide +kernel) ?_
  refine V_dup dX11_init_324 rfl ?_
  refine V_iconst_n (v := 4) dX11_init_325 (by decide) ?_
  refine V_bipush_n (v := 101) dX11_init_326 (by decide) ?_
  refine V_cast dX11_init_328 (Or.inl (show 62 < 63 by decide)) rfl (in_n (a := 4) (by decide) (by decide)) (by first | rfl | decide +kernel) ?_
  refine V_dup dX11_init_329 rfl ?_
  refine V_iconst_n (v := 5) dX11_init_330 (by decide) ?_
  refine V_bipush_n (v := 32) dX11_init_331 (by decide) ?_
  refine V_cast dX11_init_333 (Or.inl (show 62 < 63 by decide)) rfl (in_n (a := 5) (by decide) (by decide)) (by first | rfl | decide +kernel) ?_
  refine V_dup dX11_init_334 rfl ?_
  refine V_bipush_n (v := 6) dX11_init_335 (by decide) ?_
  refine V_bipush_n (v := 114) dX11_init_337 (by decide) ?_
  refine V_cast dX11_init_339 (Or.inl (show 62 < 63 by decide)) rfl (in_n (a := 6) (by decide) (by decide)) (by first | rfl | decide +kernel) ?_
  refine V_dup dX11_init_340 rfl ?_
  refine V_bipush_n (v := 7) dX11_init_341 (by decide) ?_
  refine V_bipush_n (v := 101) dX11_init_343 (by decide) ?_
  refine V_cast dX11_init_345 (Or.inl (show 62 < 63 by decide)) rfl (in_n (a := 7) (by decide) (by decide)) (by first | rfl | decide +kernel) ?_
  refine V_dup dX11_init_346 rfl ?_
  refine V_bipush_n (v := 8) dX11_init_347 (by decide) ?_
  refine V_bipush_n (v := 109) dX11_init_349 (by decide) ?_
  refine V_cast dX11_init_351 (Or.inl (show 62 < 63 by decide)) rfl (in_n (a := 8) (by decide) (by decide)) (by first | rfl | decide +kernel) ?_
  refine V_dup dX11_init_352 rfl ?_
  refine V_bipush_n (v := 9) dX11_init_353 (by decide) ?_
  refine V_bipush_n (v := 111) dX11_init_355 (by decide) ?_
  refine V_cast dX11_init_357 (Or.inl (show 62 < 63 by decide)) rfl (in_n (a := 9) (by decide) (by decide)) (by first | rfl | decide +kernel) ?_
  refine V_dup dX11_init_358 rfl ?_
  refine V_bipush_n (v := 10) dX11_init_359 (by decide) ?_
  refine V_bipush_n (v := 118) dX11_init_361 (by decide) ?_
  refine V_cast dX11_init_363 (Or.inl (show 62 < 63 by decide)) rfl (in_n (a := 10) (by decide) (by decide)) (by first | rfl | decide +kernel) ?_
  refine V_dup dX11_init_364 rfl ?_
  refine V_bipush_n (v := 11) dX11_init_365 (by decide) ?_
  refine V_bipush_n (v := 101) dX11_init_367 (by decide) ?_
  refine V_cast dX11_init_369 (Or.inl (show 62 < 63 by decide)) rfl (in_n (a := 11) (by decide) (by decide)) (by first | rfl | decide +kernel) ?_
  refine V_dup dX11_init_370 rfl ?_
  refine V_bipush_n (v := 12) dX11_init_371 (by decide) ?_
  refine V_bipush_n (v := 32) dX11_init_373 (by decide) ?_
  refine V_cast dX11_init_375 (Or.inl (show 62 < 63 by decide)) rfl (in_n (a := 12) (by decide) (by decide)) (by first | rfl | decide +kernel) ?_
  refine V_dup dX11_init_376 rfl ?_
  refine V_bipush_n (v := 13) dX11_init_377 (by decide) ?_
  refine V_bipush_n (v := 98) dX11_init_379 (by decide) ?_
  refine V_cast dX11_init_381 (Or.inl (show 62 < 63 by decide)) rfl (in_n (a := 13) (by decide) (by decide)) (by first | rfl | decide +kernel) ?_
  refine V_dup dX11_init_382 rfl ?_
  refine V_bipush_n (v := 14) dX11_init_383 (by decide) ?_
  refine V_bipush_n (v := 108) dX11_init_385 (by decide) ?_
  refine V_cast dX11_init_387 (Or.inl (show 62 < 63 by decide)) rfl (in_n (a := 14) (by decide) (by decide)) (by first | rfl | decide +kernel) ?_
  refine V_dup dX11_init_388 rfl ?_
  refine V_bipush_n (v := 15) dX11_init_389 (by decide) ?_
  refine V_bipush_n (v := 101) dX11_init_391 (by decide) ?_
  refine V_cast dX11_init_393 (Or.inl (show 62 < 63 by decide)) rfl (in_n (a := 15) (by decide) (by decide)) (by first | rfl | decide +kernel) ?_
  refine V_dup dX11_init_394 rfl ?_
  refine V_bipush_n (v := 16) dX11_init_395 (by decide) ?_
  refine V_bipush_n (v := 97) dX11_init_397 (by decide) ?_
  refine V_cast dX11_init_399 (Or.inl (show 62 < 63 by decide)) rfl (in_n (a := 16) (by decide) (by decide)) (by first | rfl | decide +kernel) ?_
  refine V_dup dX11_init_400 rfl ?_
  refine V_bipush_n (v := 17) dX11_init_401 (by decide) ?_
  refine V_bipush_n (v := 99) dX11_init_403 (by decide) ?_
  refine V_cast dX11_init_405 (Or.inl (show 62 < 63 by decide)) rfl (in_n (a := 17) (by decide) (by decide)) (by first | rfl | decide +kernel) ?_
  refine V_dup dX11_init_406 rfl ?_
  refine V_bipush_n (v := 18) dX11_init_407 (by decide) ?_
  refine V_bipush_n (v := 104) dX11_init_409 (by decide) ?_
  refine V_cast dX11_init_411 (Or.inl (show 62 < 63 by decide)) rfl (in_n (a := 18) (by decide) (by decide)) (by first | rfl | decide +kernel) ?_
  refine V_dup dX11_init_412 rfl ?_
  refine V_bipush_n (v := 19) dX11_init_413 (by decide) ?_
  refine V_bipush_n (v := 32) dX11_init_415 (by decide) ?_
  refine V_cast dX11_init_417 (Or.inl (show 62 < 63 by decide)) rfl (in_n (a := 19) (by decide) (by decide)) (by first | rfl | decide +kernel) ?_
  refine V_dup dX11_init_418 rfl ?_
  refine V_bipush_n (v := 20) dX11_init_419 (by decide) ?_
  refine V_bipush_n (v := 99) dX11_init_421 (by decide) ?_
  refine V_cast dX11_init_423 (Or.inl (show 62 < 63 by decide)) rfl (in_n (a := 20) (by decide) (by decide)) (by first | rfl | decide +kernel) ?_
  refine V_dup dX11_init_424 rfl ?_
  refine V_bipush_n (v := 21) dX11_init_425 (by decide) ?_
  refine V_bipush_n (v := 111) dX11_init_427 (by decide) ?_
  refine V_cast dX11_init_429 (Or.inl (show 62 < 63 by decide)) rfl (in_n (a := 21) (by decide) (by decide)) (by first | rfl | decide +kernel) ?_
  refine V_dup dX11_init_430 rfl ?_
  refine V_bipush_n (v := 22) dX11_init_431 (by decide) ?_
  refine V_bipush_n (v := 108) dX11_init_433 (by decide) ?_
  refine V_cast dX11_init_435 (Or.inl (show 62 < 63 by decide)) rfl (in_n (a := 22) (by decide) (by decide)) (by first | rfl | decide +kernel) ?_
  refine V_dup dX11_init_436 rfl ?_
  refine V_bipush_n (v := 23) dX11_init_437 (by decide) ?_
  refine V_bipush_n (v := 111) dX11_init_439 (by decide) ?_
  refine V_cast dX11_init_441 (Or.inl (show 62 < 63 by decide)) rfl (in_n (a := 23) (by decide) (by decide)) (by first | rfl | decide +kernel) ?_
  refine V_dup dX11_init_442 rfl ?_
  refine V_bipush_n (v := 24) dX11_init_443 (by decide) ?_
  refine V_bipush_n (v := 117) dX11_init_445 (by decide) ?_
  refine V_cast dX11_init_447 (Or.inl (show 62 < 63 by decide)) rfl (in_n (a := 24) (by decide) (by decide)) (by first | rfl | decide +kernel) ?_
  refine V_dup dX11_init_448 rfl ?_
  refine V_bipush_n (v := 25) dX11_init_449 (by decide) ?_
  refine V_bipush_n (v := 114) dX11_init_451 (by decide) ?_
  refine V_cast dX11_init_453 (Or.inl (show 62 < 63 by decide)) rfl (in_n (a := 25) (by decide) (by decide)) (by first | rfl | decide +kernel) ?_
  refine V_dup dX11_init_454 rfl ?_
  refine V_bipush_n (v := 26) dX11_init_455 (by decide) ?_
  refine V_bipush_n (v := 32) dX11_init_457 (by decide) ?_
  refine V_cast dX11_init_459 (Or.inl (show 62 < 63 by decide)) rfl (in_n (a := 26) (by decide) (by decide)) (by first | rfl | decide +kernel) ?_
  refine V_dup dX11_init_460 rfl ?_
  refine V_bipush_n (v := 27) dX11_init_461 (by decide) ?_
  refine V_bipush_n (v := 112) dX11_init_463 (by decide) ?_
  refine V_cast dX11_init_465 (Or.inl (show 62 < 63 by decide)) rfl (in_n (a := 27) (by decide) (by decide)) (by first | rfl | decide +kernel) ?_
  refine V_dup dX11_init_466 rfl ?_
  refine V_bipush_n (v := 28) dX11_init_467 (by decide) ?_
  refine V_bipush_n (v := 108) dX11_init_469 (by decide) ?_
  refine V_cast dX11_init_471 (Or.inl (show 62 < 63 by decide)) rfl (in_n (a := 28) (by decide) (by decide)) (by first | rfl | decide +kernel) ?_
  refine V_dup dX11_init_472 rfl ?_
  refine V_bipush_n (v := 29) dX11_init_473 (by decide) ?_
  refine V_bipush_n (v := 97) dX11_init_475 (by decide) ?_
  refine V_cast dX11_init_477 (Or.inl (show 62 < 63 by decide)) rfl (in_n (a := 29) (by decide) (by decide)) (by first | rfl | decide +kernel) ?_
  refine V_dup dX11_init_478 rfl ?_
  refine V_bipush_n (v := 30) dX11_init_479 (by decide) ?_
  refine V_bipush_n (v := 110) dX11_init_481 (by decide) ?_
  refine V_cast dX11_init_483 (Or.inl (show 62 < 63 by decide)) rfl (in_n (a := 30) (by decide) (by decide)) (by first | rfl | decide +kernel) ?_
  refine V_dup dX11_init_484 rfl ?_
  refine V_bipush_n (v := 31) dX11_init_485 (by decide) ?_
  refine V_bipush_n (v := 116) dX11_init_487 (by decide) ?_
  refine V_cast dX11_init_489 (Or.inl (show 62 < 63 by decide)) rfl (in_n (a := 31) (by decide) (by decide)) (by first | rfl | decide +kernel) ?_
  refine V_dup dX11_init_490 rfl ?_
  refine V_bipush_n (v := 32) dX11_init_491 (by decide) ?_
  refine V_bipush_n (v := 32) dX11_init_493 (by decide) ?_
  refine V_cast dX11_init_495 (Or.inl (show 62 < 63 by decide)) rfl (in_n (a := 32) (by decide) (by decide)) (by first | rfl | decide +kernel) ?_
  refine V_dup dX11_init_496 rfl ?_
  refine V_bipush_n (v := 33) dX11_init_497 (by decide) ?_
  refine V_bipush_n (v := 114) dX11_init_499 (by decide) ?_
  refine V_cast dX11_init_501 (Or.inl (show 62 < 63 by decide)) rfl (in_n (a := 33) (by decide) (by decide)) (by first | rfl | decide +kernel) ?_
  refine V_dup dX11_init_502 rfl ?_
  refine V_bipush_n (v := 34) dX11_init_503 (by decide) ?_
  refine V_bipush_n (v := 117) dX11_init_505 (by decide) ?_
  refine V_cast dX11_init_507 (Or.inl (show 62 < 63 by decide)) rfl (in_n (a := 34) (by decide) (by decide)) (by first | rfl | decide +kernel) ?_
  refine V_dup dX11_init_508 rfl ?_
  refine V_bipush_n (v := 35) dX11_init_509 (by decide) ?_
  refine V_bipush_n (v := 108) dX11_init_511 (by decide) ?_
  refine V_cast dX11_init_513 (Or.inl (show 62 < 63 by decide)) rfl (in_n (a := 35) (by decide) (by decide)) (by first | rfl | decide +kernel) ?_
  refine V_dup dX11_init_514 rfl ?_
  refine V_bipush_n (v := 36) dX11_init_515 (by decide) ?_
  refine V_bipush_n (v := 101) dX11_init_517 (by decide) ?_
  refine V_cast dX11_init_519 (Or.inl (show 62 < 63 by decide)) rfl (in_n (a := 36) (by decide) (by decide)) (by first | rfl | decide +kernel) ?_
  refine V_dup dX11_init_520 rfl ?_
  refine V_bipush_n (v := 37) dX11_init_521 (by decide) ?_
  refine V_bipush_n (v := 32) dX11_init_523 (by decide) ?_
  refine V_cast dX11_init_525 (Or.inl (show 62 < 63 by decide)) rfl (in_n (a := 37) (by decide) (by decide)) (by first | rfl | decide +kernel) ?_
  refine V_dup dX11_init_526 rfl ?_
  refine V_bipush_n (v := 38) dX11_init_527 (by decide) ?_
  refine V_bipush_n (v := 116) dX11_init_529 (by decide) ?_
  refine V_cast dX11_init_531 (Or.inl (show 62 < 63 by decide)) rfl (in_n (a := 38) (by decide) (by decide)) (by first | rfl | decide +kernel) ?_
  refine V_dup dX11_init_532 rfl ?_
  refine V_bipush_n (v := 39) dX11_init_533 (by decide) ?_
  refine V_bipush_n (v := 105) dX11_init_535 (by decide) ?_
  refine V_cast dX11_init_537 (Or.inl (show 62 < 63 by decide)) rfl (in_n (a := 39) (by decide) (by decide)) (by first | rfl | decide +kernel) ?_
  refine V_dup dX11_init_538 rfl ?_
  refine V_bipush_n (v := 40) dX11_init_539 (by decide) ?_
  refine V_bipush_n (v := 100) dX11_init_541 (by decide) ?_
  refine V_cast dX11_init_543 (Or.inl (show 62 < 63 by decide)) rfl (in_n (a := 40) (by decide) (by decide)) (by first | rfl | decide +kernel) ?_
  refine V_dup dX11_init_544 rfl ?_
  refine V_bipush_n (v := 41) dX11_init_545 (by decide) ?_
  refine V_bipush_n (v := 101) dX11_init_547 (by decide) ?_
  refine V_cast dX11_init_549 (Or.inl (show 62 < 63 by decide)) rfl (in_n (a := 41) (by decide) (by decide)) (by first | rfl | decide +kernel) ?_
  refine V_dup dX11_init_550 rfl ?_
  refine V_bipush_n (v := 42) dX11_init_551 (by decide) ?_
  refine V_bipush_n (v := 32) dX11_init_553 (by decide) ?_
  refine V_cast dX11_init_555 (Or.inl (show 62 < 63 by decide)) rfl (in_n (a := 42) (by decide) (by decide)) (by first | rfl | decide +kernel) ?_
  refine V_putR (k := 25) (z := 62) (ty := tyX11 25) dX11_init_556 (Or.inl (show 47 < 63 by decide)) rfl rfl rfl (Nat.le_of_ble_eq_true rfl) flRX11_57 (Or.inr ⟨rfl, rfl, rfl⟩) (tyX11_ok 25 (Nat.le_of_ble_eq_true rfl)) (fun _ => rfl) (fun _ => rfl) ?_
  refine V_aload_n (i := 0) dX11_init_559 rfl rfl ?_
  refine V_bipush_n (v := 8) dX11_init_560 (by decide) ?_
  refine V_newI (a := 63) dX11_init_562 rfl (by decide) rfl ac_int (by decide) ⟨by omega, by omega⟩ ?_
  refine V_dup dX11_init_564 rfl ?_
  refine V_iconst_n (v := 0) dX11_init_565 (by decide) ?_
  refine V_iconst_n (v := 0) dX11_init_566 (by decide) ?_
  refine V_iast dX11_init_567 (Or.inl (show 63 < 64 by decide)) rfl (in_n (a := 0) (by decide) (by decide)) ?_
  refine V_dup dX11_init_568 rfl ?_
  refine V_iconst_n (v := 1) dX11_init_569 (by decide) ?_
  refine V_bipush_n (v := 6) dX11_init_570 (by decide) ?_
  refine V_iast dX11_init_572 (Or.inl (show 63 < 64 by decide)) rfl (in_n (a := 1) (by decide) (by decide)) ?_
  refine V_dup dX11_init_573 rfl ?_
  refine V_iconst_n (v := 2) dX11_init_574 (by decide) ?_
  refine V_bipush_n (v := 13) dX11_init_575 (by decide) ?_
  refine V_iast dX11_init_577 (Or.inl (show 63 < 64 by decide)) rfl (in_n (a := 2) (by decide) (by decide)) ?_
  refine V_dup dX11_init_578 rfl ?_
  refine V_iconst_n (v := 3) dX11_init_579 (by decide) ?_
  refine V_bipush_n (v := 20) dX11_init_580 (by decide) ?_
  refine V_iast dX11_init_582 (Or.inl (show 63 < 64 by decide)) rfl (in_n (a := 3) (by decide) (by decide)) ?_
  refine V_dup dX11_init_583 rfl ?_
  refine V_iconst_n (v := 4) dX11_init_584 (by decide) ?_
  refine V_bipush_n (v := 27) dX11_init_585 (by decide) ?_
  refine V_iast dX11_init_587 (Or.inl (show 63 < 64 by decide)) rfl (in_n (a := 4) (by decide) (by decide)) ?_
  refine V_dup dX11_init_588 rfl ?_
  refine V_iconst_n (v := 5) dX11_init_589 (by decide) ?_
  refine V_bipush_n (v := 33) dX11_init_590 (by decide) ?_
  refine V_iast dX11_init_592 (Or.inl (show 63 < 64 by decide)) rfl (in_n (a := 5) (by decide) (by decide)) ?_
  refine V_dup dX11_init_593 rfl ?_
  refine V_bipush_n (v := 6) dX11_init_594 (by decide) ?_
  refine V_bipush_n (v := 38) dX11_init_596 (by decide) ?_
  refine V_iast dX11_init_598 (Or.inl (show 63 < 64 by decide)) rfl (in_n (a := 6) (by decide) (by decide)) ?_
  refine V_dup dX11_init_599 rfl ?_
  refine V_bipush_n (v := 7) dX11_init_600 (by decide) ?_
  refine V_bipush_n (v := 43) dX11_init_602 (by decide) ?_
  refine V_iast dX11_init_604 (Or.inl (show 63 < 64 by decide)) rfl (in_n (a := 7) (by decide) (by decide)) ?_
  refine V_putR (k := 26) (z := 63) (ty := tyX11 26) dX11_init_605 (Or.inl (show 47 < 64 by decide)) rfl rfl rfl (Nat.le_of_ble_eq_true rfl) flRX11_60 (Or.inr ⟨rfl, rfl, rfl⟩) (tyX11_ok 26 (Nat.le_of_ble_eq_true rfl)) (fun _ => rfl) (fun _ => rfl) ?_
  refine V_aload_n (i := 0) dX11_init_608 rfl rfl ?_
  refine V_sipush_n (v := 305) dX11_init_609 (by decide) ?_
  refine V_newI (a := 64) dX11_init_612 rfl (by decide) rfl ac_int (by decide) ⟨by omega, by omega⟩ ?_
  refine V_putR (k := 27) (z := 64) (ty := tyX11 27) dX11_init_614 (Or.inl (show 47 < 65 by decide)) rfl rfl rfl (Nat.le_of_ble_eq_true rfl) flRX11_63 (Or.inr ⟨rfl, rfl, rfl⟩) (tyX11_ok 27 (Nat.le_of_ble_eq_true rfl)) (fun _ => rfl) (fun _ => rfl) ?_
  exact V_vret dX11_init_617 rfl ⟨rfl, rfl⟩
end CTORS
