/-! THE COMMANDS: a command, all of them. Printed by wip/whole/gen/mk23.py. -/
section MCMD3
set_option maxRecDepth 100000 in
set_option maxHeartbeats 1000000 in
theorem c_readEnd {l : List Nat} {p v ro co nu wl cq pt rl : Nat} {w : Wd} (hT : TxW w l p v ro co nu wl cq pt rl) : Ct 1 MX1_readEnd 3 0 0 [.ref 45] w (fun o w1 => (l.length ≤ p ∧ o = Sum.inl (some (Value.int (nI 1))) ∧ TxW w1 l p v ro co nu 1 cq pt rl ∧ Fr In45 w w1) ∨ ((¬ l.length ≤ p ∧ sg l p = 59) ∧ o = Sum.inl (some (Value.int (nI 1))) ∧ TxW w1 l (p + 1) v ro co nu 0 cq pt rl ∧ Fr In45 w w1) ∨ ((¬ l.length ≤ p ∧ sg l p ≠ 59) ∧ o = Sum.inl (some (Value.int (nI 0))) ∧ TxW w1 l p v ro co nu 0 cq pt rl ∧ Fr In45 w w1)) := by
  refine Ct_of (by decide +kernel) rfl (Nat.le_of_ble_eq_true rfl) rfl ?_
  have hl60 := hT.2.1.1
  have hp60 := hT.2.2.1.2
  have hv7 := hT.2.2.2.1.2
  have hro9 := hT.2.2.2.2.1.2
  have hco9 := hT.2.2.2.2.2.1.2
  have hnu9 := hT.2.2.2.2.2.2.1.2
  have hwl2 := hT.2.2.2.2.2.2.2.1.2
  have hcq9 := hT.2.2.2.2.2.2.2.2.1.2
  have hpt4 := hT.2.2.2.2.2.2.2.2.2.1.2
  have hrl3 := hT.2.2.2.2.2.2.2.2.2.2.2
  have hsg := @sg_le _ _ _ _ _ _ _ _ _ _ _ p hT
  refine V_aload_n (i := 0) dX1_readEnd_0 rfl rfl ?_
  refine V_aload_n (i := 0) dX1_readEnd_1 rfl rfl ?_
  refine V_getI (k := 2) dX1_readEnd_2 (Or.inr ⟨rfl, Nat.le_of_ble_eq_true rfl⟩) rfl rfl rfl (Nat.le_of_ble_eq_true rfl) flRX1_19 ?_
  refine V_top (y := nI p) hT.2.2.1.1 ?_
  refine V_aload_n (i := 0) dX1_readEnd_5 rfl rfl ?_
  refine V_getI (k := 1) dX1_readEnd_6 (Or.inr ⟨rfl, Nat.le_of_ble_eq_true rfl⟩) rfl rfl rfl (Nat.le_of_ble_eq_true rfl) flRX1_15 ?_
  refine V_top (y := nI l.length) hT.1.1 ?_
  refine V_icmp_lt_n (tgt := 16) dX1_readEnd_9 (by decide) (by omega) (by omega) (fun h9 => ?_) (fun h9 => ?_)
  · refine V_iconst_n (v := 0) dX1_readEnd_16 (by decide) ?_
    refine V_putI (k := 7) (ty := .boolean) dX1_readEnd_17 (Or.inr ⟨rfl, Nat.le_of_ble_eq_true rfl⟩) rfl rfl rfl (Nat.le_of_ble_eq_true rfl) flRX1_40 rfl (by decide +kernel) (nar_bool (by omega)) (fit_bool (by omega)) ?_
    refine V_aload_n (i := 0) dX1_readEnd_20 rfl rfl ?_
    refine V_getI (k := 7) dX1_readEnd_21 (Or.inr ⟨rfl, Nat.le_of_ble_eq_true rfl⟩) rfl rfl rfl (Nat.le_of_ble_eq_true rfl) flRX1_40 ?_
    refine V_top (y := nI 0) pI_at ?_
    refine V_if_ne_n (tgt := 36) dX1_readEnd_24 (by decide) (by omega) (fun h24 => by exfalso; omega) (fun h24 => ?_)
    refine V_aload_n (i := 0) dX1_readEnd_27 rfl rfl ?_
    refine V_bipush_n (v := 59) dX1_readEnd_28 (by decide) ?_
    refine V_callV dX1_readEnd_30 (c_readSign (show TxW _ l p v ro co nu 0 cq pt rl from ⟨(OutI.wI (by omega) (by omega) hT.1), hT.2.1, ⟨(pI_ne (by omega) hT.2.2.1.1), hT.2.2.1.2⟩, ⟨hT.2.2.2.1.1, hT.2.2.2.1.2⟩, ⟨(pI_ne (by omega) hT.2.2.2.2.1.1), hT.2.2.2.2.1.2⟩, ⟨(pI_ne (by omega) hT.2.2.2.2.2.1.1), hT.2.2.2.2.2.1.2⟩, ⟨(pI_ne (by omega) hT.2.2.2.2.2.2.1.1), hT.2.2.2.2.2.2.1.2⟩, ⟨pI_at, by omega⟩, ⟨(pI_ne (by omega) hT.2.2.2.2.2.2.2.2.1.1), hT.2.2.2.2.2.2.2.2.1.2⟩, ⟨hT.2.2.2.2.2.2.2.2.2.1.1, hT.2.2.2.2.2.2.2.2.2.1.2⟩, ⟨hT.2.2.2.2.2.2.2.2.2.2.1, hT.2.2.2.2.2.2.2.2.2.2.2⟩⟩) (c := 59) (by omega) (by omega)) okX1_readSign lkRX1_105 (Or.inr ⟨rfl, Nat.le_of_ble_eq_true rfl⟩) rfl rfl rfl rfl (Nat.le_of_ble_eq_true rfl) ⟨Nat.le_of_ble_eq_true rfl, Nat.le_of_ble_eq_true rfl⟩ rfl ⟨Nat.zero_le _, Nat.zero_le _⟩ (fun v9 u1 hu1 => ?_) (fun E9 w9 h9 => by rcases h9 with h9 | h9 <;> cases h9.2.1)
    rcases hu1 with ⟨hu1f, e9, hu1⟩ | ⟨hu1f, e9, hu1⟩
    · cases e9
      refine V_if_eq_n (tgt := 40) dX1_readEnd_33 (by decide) (by omega) (fun h33 => ?_) (fun h33 => by exfalso; omega)
      refine V_iconst_n (v := 0) dX1_readEnd_40 (by decide) ?_
      refine V_iret dX1_readEnd_41 rfl (nar_bool (by omega)) ?_
      exact Or.inr (Or.inr (⟨⟨by omega, hu1f⟩, rfl, hu1.1, ((Fr.nil.i1 (Or.inl rfl)).trans hu1.2)⟩))
    · cases e9
      refine V_if_eq_n (tgt := 40) dX1_readEnd_33 (by decide) (by omega) (fun h33 => by exfalso; omega) (fun h33 => ?_)
      refine V_iconst_n (v := 1) dX1_readEnd_36 (by decide) ?_
      refine V_goto (tgt := 41) dX1_readEnd_37 (by decide) ?_
      refine V_iret dX1_readEnd_41 rfl (nar_bool (by omega)) ?_
      exact Or.inr (Or.inl ⟨⟨by omega, hu1f⟩, rfl, hu1.1, ((Fr.nil.i1 (Or.inl rfl)).trans hu1.2)⟩)
  · refine V_iconst_n (v := 1) dX1_readEnd_12 (by decide) ?_
    refine V_goto (tgt := 17) dX1_readEnd_13 (by decide) ?_
    refine V_putI (k := 7) (ty := .boolean) dX1_readEnd_17 (Or.inr ⟨rfl, Nat.le_of_ble_eq_true rfl⟩) rfl rfl rfl (Nat.le_of_ble_eq_true rfl) flRX1_40 rfl (by decide +kernel) (nar_bool (by omega)) (fit_bool (by omega)) ?_
    refine V_aload_n (i := 0) dX1_readEnd_20 rfl rfl ?_
    refine V_getI (k := 7) dX1_readEnd_21 (Or.inr ⟨rfl, Nat.le_of_ble_eq_true rfl⟩) rfl rfl rfl (Nat.le_of_ble_eq_true rfl) flRX1_40 ?_
    refine V_top (y := nI 1) pI_at ?_
    refine V_if_ne_n (tgt := 36) dX1_readEnd_24 (by decide) (by omega) (fun h24 => ?_) (fun h24 => by exfalso; omega)
    refine V_iconst_n (v := 1) dX1_readEnd_36 (by decide) ?_
    refine V_goto (tgt := 41) dX1_readEnd_37 (by decide) ?_
    refine V_iret dX1_readEnd_41 rfl (nar_bool (by omega)) ?_
    exact Or.inl ⟨h9, rfl, ⟨(OutI.wI (by omega) (by omega) hT.1), hT.2.1, ⟨(pI_ne (by omega) hT.2.2.1.1), hT.2.2.1.2⟩, ⟨hT.2.2.2.1.1, hT.2.2.2.1.2⟩, ⟨(pI_ne (by omega) hT.2.2.2.2.1.1), hT.2.2.2.2.1.2⟩, ⟨(pI_ne (by omega) hT.2.2.2.2.2.1.1), hT.2.2.2.2.2.1.2⟩, ⟨(pI_ne (by omega) hT.2.2.2.2.2.2.1.1), hT.2.2.2.2.2.2.1.2⟩, ⟨pI_at, by omega⟩, ⟨(pI_ne (by omega) hT.2.2.2.2.2.2.2.2.1.1), hT.2.2.2.2.2.2.2.2.1.2⟩, ⟨hT.2.2.2.2.2.2.2.2.2.1.1, hT.2.2.2.2.2.2.2.2.2.1.2⟩, ⟨hT.2.2.2.2.2.2.2.2.2.2.1, hT.2.2.2.2.2.2.2.2.2.2.2⟩⟩, (Fr.nil.i1 (Or.inl rfl))⟩
set_option maxRecDepth 100000 in
set_option maxHeartbeats 1000000 in
theorem c_readCommand {l : List Nat} {p v ro co nu wl cq pt rl : Nat} {w : Wd} (hT : TxW w l p v ro co nu wl cq pt rl) : Ct 1 MX1_readCommand 8 0 0 [.ref 45] w (fun o w1 => (cmG l p = false ∧ o = Sum.inl (some (Value.int (nI 0))) ∧ (∃ v ro co nu wl cq pt rl : Nat, TxW w1 l (cmE l p) v ro co nu wl cq pt rl) ∧ Fr In45 w w1) ∨ (cmG l p = true ∧ o = Sum.inl (some (Value.int (nI 1))) ∧ (∃ v ro co nu cq pt rl : Nat, vbF l p = some v ∧ TxW w1 l (cmE l p) v ro co nu (if cmL l p = true then 1 else 0) cq pt rl ∧ CmF (agC l v (vbP l p)) v ro co nu cq pt rl) ∧ Fr In45 w w1)) := by
  refine Ct_of (by decide +kernel) rfl (Nat.le_of_ble_eq_true rfl) rfl ?_
  have hl60 := hT.2.1.1
  have hp60 := hT.2.2.1.2
  have hv7 := hT.2.2.2.1.2
  have hro9 := hT.2.2.2.2.1.2
  have hco9 := hT.2.2.2.2.2.1.2
  have hnu9 := hT.2.2.2.2.2.2.1.2
  have hwl2 := hT.2.2.2.2.2.2.2.1.2
  have hcq9 := hT.2.2.2.2.2.2.2.2.1.2
  have hpt4 := hT.2.2.2.2.2.2.2.2.2.1.2
  have hrl3 := hT.2.2.2.2.2.2.2.2.2.2.2
  have hsg := @sg_le _ _ _ _ _ _ _ _ _ _ _ p hT
  refine V_aload_n (i := 0) dX1_readCommand_0 rfl rfl ?_
  refine V_callV dX1_readCommand_1 (c_readVerb hT) okX1_readVerb lkRX1_73 (Or.inr ⟨rfl, Nat.le_of_ble_eq_true rfl⟩) rfl rfl rfl rfl (Nat.le_of_ble_eq_true rfl) ⟨Nat.le_of_ble_eq_true rfl, Nat.le_of_ble_eq_true rfl⟩ rfl ⟨Nat.zero_le _, Nat.zero_le _⟩ (fun v9 u1 hu1 => ?_) (fun E9 w9 h9 => by rcases h9 with h9 | ⟨k9, h9⟩ <;> cases h9.2.1)
  rcases hu1 with ⟨hu1f, e9, hu1⟩ | ⟨k9, hk9, e9, hu1⟩
  · cases e9
    refine V_astore_nN (i := 1) dX1_readCommand_4 rfl (Nat.le_of_ble_eq_true rfl) rfl rfl ?_
    refine V_aload_nN (i := 1) dX1_readCommand_5 rfl rfl ?_
    refine V_ifnonnullN dX1_readCommand_6 ?_
    refine V_iconst_n (v := 0) dX1_readCommand_9 (by decide) ?_
    refine V_iret dX1_readCommand_10 rfl (nar_bool (by omega)) ?_
    have eG : cmG l p = false := by simp [cmG, cmO, cmL, cmP, hu1f]
    have eE : cmE l p = (vbP l p) := by simp [cmE, cmO, cmL, cmP, hu1f]
    refine Or.inl ⟨eG, rfl, ⟨v, ro, co, nu, wl, cq, pt, rl, ?_⟩, hu1.2⟩
    rw [eE]
    exact hu1.1
  · cases e9
    refine V_astore_n (i := 1) dX1_readCommand_4 rfl (Nat.le_of_ble_eq_true rfl) rfl rfl ?_
    refine V_aload_n (i := 1) dX1_readCommand_5 rfl rfl ?_
    refine V_ifnonnull (tgt := 11) dX1_readCommand_6 (by decide) ?_
    refine V_aload_n (i := 0) dX1_readCommand_11 rfl rfl ?_
    refine V_aload_n (i := 1) dX1_readCommand_12 rfl rfl ?_
    refine V_putR (k := 3) (ty := tyX1 3) dX1_readCommand_13 (Or.inr ⟨rfl, Nat.le_of_ble_eq_true rfl⟩) rfl rfl rfl (Nat.le_of_ble_eq_true rfl) flRX1_28 (Or.inl rfl) (by decide +kernel) (fun _ => rfl) (fun _ => rfl) ?_
    refine V_aload_n (i := 0) dX1_readCommand_16 rfl rfl ?_
    refine V_callV dX1_readCommand_17 (c_readArguments (show TxW _ l (vbP l p) k9 ro co nu wl cq pt rl from ⟨(OutI.wR hu1.1.1), hu1.1.2.1, ⟨hu1.1.2.2.1.1, hu1.1.2.2.1.2⟩, ⟨pR_at, by omega⟩, ⟨hu1.1.2.2.2.2.1.1, hu1.1.2.2.2.2.1.2⟩, ⟨hu1.1.2.2.2.2.2.1.1, hu1.1.2.2.2.2.2.1.2⟩, ⟨hu1.1.2.2.2.2.2.2.1.1, hu1.1.2.2.2.2.2.2.1.2⟩, ⟨hu1.1.2.2.2.2.2.2.2.1.1, hu1.1.2.2.2.2.2.2.2.1.2⟩, ⟨hu1.1.2.2.2.2.2.2.2.2.1.1, hu1.1.2.2.2.2.2.2.2.2.1.2⟩, ⟨(pR_ne (by omega) hu1.1.2.2.2.2.2.2.2.2.2.1.1), hu1.1.2.2.2.2.2.2.2.2.2.1.2⟩, ⟨(pR_ne (by omega) hu1.1.2.2.2.2.2.2.2.2.2.2.1), hu1.1.2.2.2.2.2.2.2.2.2.2.2⟩⟩)) okX1_readArguments lkRX1_77 (Or.inr ⟨rfl, Nat.le_of_ble_eq_true rfl⟩) rfl rfl rfl rfl (Nat.le_of_ble_eq_true rfl) ⟨Nat.le_of_ble_eq_true rfl, Nat.le_of_ble_eq_true rfl⟩ rfl ⟨Nat.zero_le _, Nat.zero_le _⟩ (fun v9 u2 hu2 => ?_) (fun E9 w9 h9 => by rcases h9 with h9 | h9 <;> cases h9.2.1)
    rcases hu2 with ⟨hu2f, e9, hu2⟩ | ⟨hu2f, e9, hu2⟩
    · cases e9
      obtain ⟨⟨ro2, co2, nu2, cq2, pt2, rl2, hT2⟩, hF2⟩ := hu2
      refine V_if_eq_n (tgt := 34) dX1_readCommand_20 (by decide) (by omega) (fun h20 => ?_) (fun h20 => by exfalso; omega)
      refine V_iconst_n (v := 0) dX1_readCommand_34 (by decide) ?_
      refine V_iret dX1_readCommand_35 rfl (nar_bool (by omega)) ?_
      have eG : cmG l p = false := by simp [cmG, cmO, cmL, cmP, hk9.1, hu2f]
      have eE : cmE l p = (agP l k9 (vbP l p)) := by simp [cmE, cmO, cmL, cmP, hk9.1, hu2f]
      refine Or.inl ⟨eG, rfl, ⟨k9, ro2, co2, nu2, wl, cq2, pt2, rl2, ?_⟩, ((hu1.2.trans (Fr.nil.r1 (Or.inl rfl))).trans hF2)⟩
      rw [eE]
      exact hT2
    · cases e9
      obtain ⟨⟨ro2, co2, nu2, cq2, pt2, rl2, hT2, hC2⟩, hF2⟩ := hu2
      refine V_if_eq_n (tgt := 34) dX1_readCommand_20 (by decide) (by omega) (fun h20 => by exfalso; omega) (fun h20 => ?_)
      refine V_aload_n (i := 0) dX1_readCommand_23 rfl rfl ?_
      refine V_callV dX1_readCommand_24 (c_readEnd hT2) okX1_readEnd lkRX1_80 (Or.inr ⟨rfl, Nat.le_of_ble_eq_true rfl⟩) rfl rfl rfl rfl (Nat.le_of_ble_eq_true rfl) ⟨Nat.le_of_ble_eq_true rfl, Nat.le_of_ble_eq_true rfl⟩ rfl ⟨Nat.zero_le _, Nat.zero_le _⟩ (fun v9 u3 hu3 => ?_) (fun E9 w9 h9 => by rcases h9 with h9 | h9 | h9 <;> cases h9.2.1)
      rcases hu3 with ⟨hu3f, e9, hu3⟩ | ⟨hu3f, e9, hu3⟩ | ⟨hu3f, e9, hu3⟩
      · cases e9
        refine V_if_eq_n (tgt := 34) dX1_readCommand_27 (by decide) (by omega) (fun h27 => by exfalso; omega) (fun h27 => ?_)
        refine V_iconst_n (v := 1) dX1_readCommand_30 (by decide) ?_
        refine V_goto (tgt := 35) dX1_readCommand_31 (by decide) ?_
        refine V_iret dX1_readCommand_35 rfl (nar_bool (by omega)) ?_
        have eG : cmG l p = true := by simp [cmG, cmO, cmL, cmP, hk9.1, hu2f, hu3f]
        have eE : cmE l p = (agP l k9 (vbP l p)) := by simp [cmE, cmO, cmL, cmP, hk9.1, hu2f, hu3f]
        have eL : (if cmL l p = true then 1 else 0) = 1 := by simp [cmL, cmP, hk9.1, hu2f, hu3f]
        refine Or.inr ⟨eG, rfl, ⟨k9, ro2, co2, nu2, cq2, pt2, rl2, hk9.1, ?_, hC2⟩, (((hu1.2.trans (Fr.nil.r1 (Or.inl rfl))).trans hF2).trans hu3.2)⟩
        rw [eE, eL]
        exact hu3.1
      · cases e9
        refine V_if_eq_n (tgt := 34) dX1_readCommand_27 (by decide) (by omega) (fun h27 => by exfalso; omega) (fun h27 => ?_)
        refine V_iconst_n (v := 1) dX1_readCommand_30 (by decide) ?_
        refine V_goto (tgt := 35) dX1_readCommand_31 (by decide) ?_
        refine V_iret dX1_readCommand_35 rfl (nar_bool (by omega)) ?_
        have eG : cmG l p = true := by simp [cmG, cmO, cmL, cmP, hk9.1, hu2f, hu3f]
        have eE : cmE l p = ((agP l k9 (vbP l p)) + 1) := by simp [cmE, cmO, cmL, cmP, hk9.1, hu2f, hu3f]
        have eL : (if cmL l p = true then 1 else 0) = 0 := by simp [cmL, cmP, hk9.1, hu2f, hu3f]
        refine Or.inr ⟨eG, rfl, ⟨k9, ro2, co2, nu2, cq2, pt2, rl2, hk9.1, ?_, hC2⟩, (((hu1.2.trans (Fr.nil.r1 (Or.inl rfl))).trans hF2).trans hu3.2)⟩
        rw [eE, eL]
        exact hu3.1
      · cases e9
        refine V_if_eq_n (tgt := 34) dX1_readCommand_27 (by decide) (by omega) (fun h27 => ?_) (fun h27 => by exfalso; omega)
        refine V_iconst_n (v := 0) dX1_readCommand_34 (by decide) ?_
        refine V_iret dX1_readCommand_35 rfl (nar_bool (by omega)) ?_
        have eG : cmG l p = false := by simp [cmG, cmO, cmL, cmP, hk9.1, hu2f, hu3f]
        have eE : cmE l p = (agP l k9 (vbP l p)) := by simp [cmE, cmO, cmL, cmP, hk9.1, hu2f, hu3f]
        refine Or.inl ⟨eG, rfl, ⟨k9, ro2, co2, nu2, 0, cq2, pt2, rl2, ?_⟩, (((hu1.2.trans (Fr.nil.r1 (Or.inl rfl))).trans hF2).trans hu3.2)⟩
        rw [eE]
        exact hu3.1
def acO (v ro co nu : Nat) : Bool := if v = 6 then decide (1 ≤ nu ∧ nu ≤ 20) else if v < 5 then decide (ro < 8 ∧ co < 8) else true
set_option maxRecDepth 100000 in
set_option maxHeartbeats 1000000 in
theorem c_isAccepted {l : List Nat} {p v ro co nu wl cq pt rl : Nat} {w : Wd} (hT : TxW w l p v ro co nu wl cq pt rl) : Ct 1 MX1_isAccepted 2 0 0 [.ref 45] w (Rt (some (.int (nI (if acO v ro co nu = true then 1 else 0)))) w) := by
  refine Ct_of (by decide +kernel) rfl (Nat.le_of_ble_eq_true rfl) rfl ?_
  have hl60 := hT.2.1.1
  have hp60 := hT.2.2.1.2
  have hv7 := hT.2.2.2.1.2
  have hro9 := hT.2.2.2.2.1.2
  have hco9 := hT.2.2.2.2.2.1.2
  have hnu9 := hT.2.2.2.2.2.2.1.2
  have hwl2 := hT.2.2.2.2.2.2.2.1.2
  have hcq9 := hT.2.2.2.2.2.2.2.2.1.2
  have hpt4 := hT.2.2.2.2.2.2.2.2.2.1.2
  have hrl3 := hT.2.2.2.2.2.2.2.2.2.2.2
  have hsg := @sg_le _ _ _ _ _ _ _ _ _ _ _ p hT
  have hcl2 : vbCl v < 2 := by unfold vbCl; split <;> omega
  refine V_aload_n (i := 0) dX1_isAccepted_0 rfl rfl ?_
  refine V_getR (k := 3) dX1_isAccepted_1 (Or.inr ⟨rfl, Nat.le_of_ble_eq_true rfl⟩) rfl rfl rfl (Nat.le_of_ble_eq_true rfl) flRX1_28 hT.2.2.2.1.1 ?_
  refine V_gets dX1_isAccepted_4 (List.mem_of_getElem? (i := 13) rfl) flRX1_22 ?_
  refine V_acmp_ne (tgt := 33) dX1_isAccepted_7 (by decide) (vb_E hv7) (by decide) (fun h7 => ?_) (fun h7 => ?_)
  · have hv6 : ¬ v = 6 := by omega
    refine V_aload_n (i := 0) dX1_isAccepted_33 rfl rfl ?_
    refine V_getR (k := 3) dX1_isAccepted_34 (Or.inr ⟨rfl, Nat.le_of_ble_eq_true rfl⟩) rfl rfl rfl (Nat.le_of_ble_eq_true rfl) flRX1_28 hT.2.2.2.1.1 ?_
    refine V_getK dX1_isAccepted_37 (vb_cell hT.2.2.2.1.2) flRX1_83 ?_
    refine V_if_eq_n (tgt := 57) dX1_isAccepted_40 (by decide) (by omega) (fun h40 => ?_) (fun h40 => ?_)
    · refine V_iconst_n (v := 1) dX1_isAccepted_57 (by decide) ?_
      refine V_goto (tgt := 62) dX1_isAccepted_58 (by decide) ?_
      refine V_iret dX1_isAccepted_62 rfl (nar_bool (by omega)) ?_
      exact ⟨by unfold acO; unfold vbCl at *; grind, rfl⟩
    · refine V_aload_n (i := 0) dX1_isAccepted_43 rfl rfl ?_
      refine V_getI (k := 4) dX1_isAccepted_44 (Or.inr ⟨rfl, Nat.le_of_ble_eq_true rfl⟩) rfl rfl rfl (Nat.le_of_ble_eq_true rfl) flRX1_31 ?_
      refine V_top (y := nI ro) hT.2.2.2.2.1.1 ?_
      refine V_aload_n (i := 0) dX1_isAccepted_47 rfl rfl ?_
      refine V_getI (k := 5) dX1_isAccepted_48 (Or.inr ⟨rfl, Nat.le_of_ble_eq_true rfl⟩) rfl rfl rfl (Nat.le_of_ble_eq_true rfl) flRX1_34 ?_
      refine V_top (y := nI co) hT.2.2.2.2.2.1.1 ?_
      refine V_callSNF (host := "ButtonReef") dX1_isAccepted_51 (c_isInside (r := ((ro : Nat) : Int)) (c := ((co : Nat) : Int)) (zI_n _) (zI_n _) (by omega) (by omega) (by omega) (by omega)) okX10_isInside (by decide +kernel) rfl rfl (Nat.le_of_ble_eq_true rfl) ⟨Nat.le_of_ble_eq_true rfl, Nat.le_of_ble_eq_true rfl⟩ rfl ?_
      refine V_if_eq_n (tgt := 61) dX1_isAccepted_54 (by decide) (Nat.lt_of_lt_of_le ite_le (by decide)) (fun h54 => ?_) (fun h54 => ?_)
      · have hin9 := ite_f h54
        refine V_iconst_n (v := 0) dX1_isAccepted_61 (by decide) ?_
        refine V_iret dX1_isAccepted_62 rfl (nar_bool (by omega)) ?_
        exact ⟨by unfold acO; unfold vbCl at *; grind, rfl⟩
      · have hin9 := ite_t h54
        refine V_iconst_n (v := 1) dX1_isAccepted_57 (by decide) ?_
        refine V_goto (tgt := 62) dX1_isAccepted_58 (by decide) ?_
        refine V_iret dX1_isAccepted_62 rfl (nar_bool (by omega)) ?_
        exact ⟨by unfold acO; unfold vbCl at *; grind, rfl⟩
  · refine V_aload_n (i := 0) dX1_isAccepted_10 rfl rfl ?_
    refine V_getI (k := 6) dX1_isAccepted_11 (Or.inr ⟨rfl, Nat.le_of_ble_eq_true rfl⟩) rfl rfl rfl (Nat.le_of_ble_eq_true rfl) flRX1_37 ?_
    refine V_top (y := nI nu) hT.2.2.2.2.2.2.1.1 ?_
    refine V_iconst_n (v := 1) dX1_isAccepted_14 (by decide) ?_
    refine V_icmp_lt_n (tgt := 31) dX1_isAccepted_15 (by decide) (by omega) (by omega) (fun h15 => ?_) (fun h15 => ?_)
    · refine V_iconst_n (v := 0) dX1_isAccepted_31 (by decide) ?_
      refine V_iret dX1_isAccepted_32 rfl (nar_bool (by omega)) ?_
      exact ⟨by unfold acO; unfold vbCl at *; grind, rfl⟩
    · refine V_aload_n (i := 0) dX1_isAccepted_18 rfl rfl ?_
      refine V_getI (k := 6) dX1_isAccepted_19 (Or.inr ⟨rfl, Nat.le_of_ble_eq_true rfl⟩) rfl rfl rfl (Nat.le_of_ble_eq_true rfl) flRX1_37 ?_
      refine V_top (y := nI nu) hT.2.2.2.2.2.2.1.1 ?_
      refine V_bipush_n (v := 20) dX1_isAccepted_22 (by decide) ?_
      refine V_icmp_gt_n (tgt := 31) dX1_isAccepted_24 (by decide) (by omega) (by omega) (fun h24 => ?_) (fun h24 => ?_)
      · refine V_iconst_n (v := 0) dX1_isAccepted_31 (by decide) ?_
        refine V_iret dX1_isAccepted_32 rfl (nar_bool (by omega)) ?_
        exact ⟨by unfold acO; unfold vbCl at *; grind, rfl⟩
      · refine V_iconst_n (v := 1) dX1_isAccepted_27 (by decide) ?_
        refine V_goto (tgt := 32) dX1_isAccepted_28 (by decide) ?_
        refine V_iret dX1_isAccepted_32 rfl (nar_bool (by omega)) ?_
        exact ⟨by unfold acO; unfold vbCl at *; grind, rfl⟩
def NC (l : List Nat) (n : Nat) : Prop := 0 < n ∧ (∀ j, j + 1 < n → cmG l (cmB l j) = true ∧ cmL l (cmB l j) = false) ∧ cmG l (cmB l (n - 1)) = true ∧ cmL l (cmB l (n - 1)) = true
def NF (l : List Nat) (e : Nat) : Prop := ∃ j, (∀ i, i < j → cmG l (cmB l i) = true ∧ cmL l (cmB l i) = false) ∧ cmG l (cmB l j) = false ∧ e = cmE l (cmB l j)
theorem agP_ge {l : List Nat} {v p : Nat} : p ≤ agP l v p := by
  unfold agP
  split
  · omega
  · split
    · split
      · split <;> omega
      · omega
    · split
      · omega
      · split
        · omega
        · split
          · omega
          · split
            · omega
            · split
              · split
                · omega
                · split <;> omega
              · split <;> omega
theorem vb_len {v : Nat} (hv : v < 7) : 1 ≤ (tx (1120 + v)).length := vb_cases (P := fun v => 1 ≤ (tx (1120 + v)).length) (by decide) (by decide) (by decide) (by decide) (by decide) (by decide) (by decide) hv
theorem cmE_ge {l : List Nat} {p : Nat} (hG : cmG l p = true) (hL : cmL l p = false) : p + 2 ≤ cmE l p := by
  unfold cmG at hG
  rw [hL, Bool.false_or, Bool.and_eq_true] at hG
  have h2 : sg l (cmP l p) = 59 := by simpa using hG.2
  have e : cmE l p = cmP l p + 1 := by
    unfold cmE
    exact if_pos ⟨hG.1, by rw [hL]; decide, h2⟩
  rw [e]
  have h3 := hG.1
  unfold cmO at h3
  unfold cmP
  cases hv : vbF l p with
  | none => rw [hv] at h3; cases h3
  | some v =>
    have h4 := lkF_some 7 hv
    have h5 := lkM_ge (l := l) (p := p) (b := 1120) 7 h4.1
    have h6 := vb_len h4.1
    have h7 := @agP_ge l v (vbP l p)
    show p + 2 ≤ agP l v (vbP l p) + 1
    have h8 : vbP l p = p + lkM l p 1120 7 := rfl
    omega
theorem cmB_ge {l : List Nat} : ∀ n, (∀ j, j < n → cmG l (cmB l j) = true ∧ cmL l (cmB l j) = false) → 2 * n ≤ cmB l n := by
  intro n
  induction n with
  | zero => intro _; exact Nat.zero_le _
  | succ n ih =>
    intro h
    have h1 := ih fun j hj => h j (by omega)
    have h2 := cmE_ge (h n (by omega)).1 (h n (by omega)).2
    show 2 * (n + 1) ≤ cmE l (cmB l n)
    omega
theorem NC_uni {l : List Nat} {n m : Nat} (h : NC l n) (k : NC l m) : n = m := by
  rcases Nat.lt_trichotomy n m with q | q | q
  · have := (k.2.1 (n - 1) (by have := h.1; omega)).2
    rw [h.2.2.2] at this; cases this
  · exact q
  · have := (h.2.1 (m - 1) (by have := k.1; omega)).2
    rw [k.2.2.2] at this; cases this
theorem NC_NF {l : List Nat} {n e : Nat} (h : NC l n) (k : NF l e) : False := by
  obtain ⟨j, k1, k2, -⟩ := k
  by_cases q : j < n
  · by_cases z : j + 1 = n
    · have := h.2.2.1
      rw [show n - 1 = j by omega, k2] at this; cases this
    · have := (h.2.1 j (by omega)).1
      rw [k2] at this; cases this
  · have := (k1 (n - 1) (by have := h.1; omega)).2
    rw [h.2.2.2] at this; cases this
theorem NF_uni {l : List Nat} {e f : Nat} (h : NF l e) (k : NF l f) : e = f := by
  obtain ⟨i, h1, h2, h3⟩ := h
  obtain ⟨j, k1, k2, k3⟩ := k
  rcases Nat.lt_trichotomy i j with q | q | q
  · have := (k1 i q).1
    rw [h2] at this; cases this
  · rw [h3, k3, q]
  · have := (h1 j q).1
    rw [k2] at this; cases this
set_option maxRecDepth 100000 in
set_option maxHeartbeats 1000000 in
theorem c_countCommands {l : List Nat} {p v ro co nu wl cq pt rl : Nat} {w : Wd} (hT : TxW w l p v ro co nu wl cq pt rl) : Ct 1 MX1_countCommands 9 0 0 [.ref 45] w (fun o w1 => (∃ e, NF l e ∧ o = Sum.inl (some (Value.int (zI (-1)))) ∧ (∃ v ro co nu wl cq pt rl : Nat, TxW w1 l e v ro co nu wl cq pt rl) ∧ Fr In45 w w1) ∨ (∃ n, (NC l n ∧ n ≤ 60) ∧ o = Sum.inl (some (Value.int (nI n))) ∧ (∃ p v ro co nu wl cq pt rl : Nat, TxW w1 l p v ro co nu wl cq pt rl) ∧ Fr In45 w w1)) := by
  refine Ct_of (by decide +kernel) rfl (Nat.le_of_ble_eq_true rfl) rfl ?_
  have hl60 := hT.2.1.1
  have hp60 := hT.2.2.1.2
  have hv7 := hT.2.2.2.1.2
  have hro9 := hT.2.2.2.2.1.2
  have hco9 := hT.2.2.2.2.2.1.2
  have hnu9 := hT.2.2.2.2.2.2.1.2
  have hwl2 := hT.2.2.2.2.2.2.2.1.2
  have hcq9 := hT.2.2.2.2.2.2.2.2.1.2
  have hpt4 := hT.2.2.2.2.2.2.2.2.2.1.2
  have hrl3 := hT.2.2.2.2.2.2.2.2.2.2.2
  have hsg := @sg_le _ _ _ _ _ _ _ _ _ _ _ p hT
  have lp : ∀ (fu i : Nat) (w1 : Wd) (v ro co nu wl cq pt rl : Nat), i ≤ 61 → 61 - i < fu → 0 < i → (∀ j, j + 1 < i → cmG l (cmB l j) = true ∧ cmL l (cmB l j) = false) → TxW w1 l (cmB l (i - 1)) v ro co nu wl cq pt rl → Fr In45 w w1 → V 1 MX1_countCommands 9 0 0 (fun o w1 => (∃ e, NF l e ∧ o = Sum.inl (some (Value.int (zI (-1)))) ∧ (∃ v ro co nu wl cq pt rl : Nat, TxW w1 l e v ro co nu wl cq pt rl) ∧ Fr In45 w w1) ∨ (∃ n, (NC l n ∧ n ≤ 60) ∧ o = Sum.inl (some (Value.int (nI n))) ∧ (∃ p v ro co nu wl cq pt rl : Nat, TxW w1 l p v ro co nu wl cq pt rl) ∧ Fr In45 w w1)) (fun _ _ => True) 0 0 6 [some (.ref 45), some (.int (nI i))] [] w1 := by
    intro fu
    induction fu with
    | zero => intro i w1 v ro co nu wl cq pt rl h1 h2; omega
    | succ fu ih =>
      intro i w1 v ro co nu wl cq pt rl hib hfu hi0 hmo hT0 hF0
      have hge := cmB_ge (l := l) (i - 1) (fun j hj => hmo j (by omega))
      have hp61 := hT0.2.2.1.2
      refine V_iload_n (i := 1) dX1_countCommands_6 rfl rfl ?_
      refine V_bipush_n (v := 60) dX1_countCommands_7 (by decide) ?_
      refine V_icmp_gt_n (tgt := 36) dX1_countCommands_9 (by decide) (by omega) (by omega) (fun h9 => by exfalso; omega) (fun h9 => ?_)
      refine V_aload_n (i := 0) dX1_countCommands_12 rfl rfl ?_
      refine V_callV dX1_countCommands_13 (c_readCommand hT0) okX1_readCommand lkRX1_69 (Or.inr ⟨rfl, Nat.le_of_ble_eq_true rfl⟩) rfl rfl rfl rfl (Nat.le_of_ble_eq_true rfl) ⟨Nat.le_of_ble_eq_true rfl, Nat.le_of_ble_eq_true rfl⟩ rfl ⟨Nat.zero_le _, Nat.zero_le _⟩ (fun v9 u1 hu1 => ?_) (fun E9 w9 h9 => by rcases h9 with h9 | h9 <;> cases h9.2.1)
      rcases hu1 with ⟨hu1f, e9, hu1⟩ | ⟨hu1f, e9, hu1⟩
      · cases e9
        obtain ⟨⟨v1, ro1, co1, nu1, wl1, cq1, pt1, rl1, hT1⟩, hF1⟩ := hu1
        refine V_if_ne_n (tgt := 21) dX1_countCommands_16 (by decide) (by omega) (fun h16 => by exfalso; omega) (fun h16 => ?_)
        refine V_iconst_z (v := -1) dX1_countCommands_19 (by decide) ?_
        refine V_iret dX1_countCommands_20 rfl rfl ?_
        exact Or.inl ⟨_, ⟨i - 1, fun j hj => hmo j (by omega), hu1f, rfl⟩, rfl, ⟨_, _, _, _, _, _, _, _, hT1⟩, (hF0.trans hF1)⟩
      · cases e9
        obtain ⟨⟨v1, ro1, co1, nu1, cq1, pt1, rl1, hV1, hT1, hC1⟩, hF1⟩ := hu1
        refine V_if_ne_n (tgt := 21) dX1_countCommands_16 (by decide) (by omega) (fun h16 => ?_) (fun h16 => by exfalso; omega)
        refine V_aload_n (i := 0) dX1_countCommands_21 rfl rfl ?_
        have hle9 : (if cmL l (cmB l (i - 1)) = true then 1 else 0) < 2 := ite_le
        refine V_getI (k := 7) dX1_countCommands_22 (Or.inr ⟨rfl, Nat.le_of_ble_eq_true rfl⟩) rfl rfl rfl (Nat.le_of_ble_eq_true rfl) flRX1_40 ?_
        refine V_top (y := nI (if cmL l (cmB l (i - 1)) = true then 1 else 0)) hT1.2.2.2.2.2.2.2.1.1 ?_
        refine V_if_eq_n (tgt := 30) dX1_countCommands_25 (by decide) (Nat.lt_of_lt_of_le ite_le (by decide)) (fun h25 => ?_) (fun h25 => ?_)
        · have hl9 : cmL l (cmB l (i - 1)) = false := by grind
          refine V_iinc_n (b := (i + 1)) dX1_countCommands_30 rfl (nI_add _ _) rfl rfl ?_
          refine V_goto (tgt := 6) dX1_countCommands_33 (by decide) ?_
          have e9 : cmB l (i + 1 - 1) = cmE l (cmB l (i - 1)) := by rw [show i + 1 - 1 = (i - 1) + 1 by omega]; rfl
          exact ih (i + 1) _ _ _ _ _ _ _ _ _ (by omega) (by omega) (by omega) (fun j hj => (Decidable.em (j = i - 1)).elim (fun e => by rw [e]; exact ⟨hu1f, hl9⟩) (fun e => hmo j (by omega))) (by rw [e9]; exact hT1) (hF0.trans hF1)
        · have hl9 : cmL l (cmB l (i - 1)) = true := by grind
          refine V_iload_n (i := 1) dX1_countCommands_28 rfl rfl ?_
          refine V_iret dX1_countCommands_29 rfl rfl ?_
          exact Or.inr ⟨i, ⟨⟨hi0, hmo, hu1f, hl9⟩, by omega⟩, rfl, ⟨_, _, _, _, _, _, _, _, _, hT1⟩, (hF0.trans hF1)⟩
  refine V_aload_n (i := 0) dX1_countCommands_0 rfl rfl ?_
  refine V_callVM dX1_countCommands_1 (c_rewind hT) okX1_rewind lkRX1_66 (Or.inr ⟨rfl, Nat.le_of_ble_eq_true rfl⟩) rfl rfl rfl rfl (Nat.le_of_ble_eq_true rfl) ⟨Nat.le_of_ble_eq_true rfl, Nat.le_of_ble_eq_true rfl⟩ rfl ?_
  intro u1 hu1
  refine V_iconst_n (v := 1) dX1_countCommands_4 (by decide) ?_
  refine V_istore_n (i := 1) dX1_countCommands_5 rfl (Nat.le_of_ble_eq_true rfl) rfl rfl ?_
  exact lp 62 1 _ _ _ _ _ _ _ _ _ (by omega) (by omega) (by omega) (fun j hj => by omega) hu1.1 hu1.2
set_option maxRecDepth 100000 in
set_option maxHeartbeats 1000000 in
theorem c_tempty {l : List Nat} {p v ro co nu wl cq pt rl : Nat} {w : Wd} (hT : TxW w l p v ro co nu wl cq pt rl) : Ct 1 MX1_empty 1 0 0 [.ref 45] w (Mt none fun w1 => TxW w1 [] p v ro co nu wl cq pt rl ∧ Fr In45 w w1) := by
  refine Ct_of (by decide +kernel) rfl (Nat.le_of_ble_eq_true rfl) rfl ?_
  have hl60 := hT.2.1.1
  have hp60 := hT.2.2.1.2
  have hv7 := hT.2.2.2.1.2
  have hro9 := hT.2.2.2.2.1.2
  have hco9 := hT.2.2.2.2.2.1.2
  have hnu9 := hT.2.2.2.2.2.2.1.2
  have hwl2 := hT.2.2.2.2.2.2.2.1.2
  have hcq9 := hT.2.2.2.2.2.2.2.2.1.2
  have hpt4 := hT.2.2.2.2.2.2.2.2.2.1.2
  have hrl3 := hT.2.2.2.2.2.2.2.2.2.2.2
  have hsg := @sg_le _ _ _ _ _ _ _ _ _ _ _ p hT
  refine V_aload_n (i := 0) dX1_empty_0 rfl rfl ?_
  refine V_iconst_n (v := 0) dX1_empty_1 (by decide) ?_
  refine V_putI (k := 1) (ty := .int) dX1_empty_2 (Or.inr ⟨rfl, Nat.le_of_ble_eq_true rfl⟩) rfl rfl rfl (Nat.le_of_ble_eq_true rfl) flRX1_15 rfl (by decide +kernel) rfl rfl ?_
  refine V_vret dX1_empty_5 rfl ?_
  exact ⟨rfl, ⟨OutI.clear rfl, ⟨Nat.zero_le _, fun i hi => by cases hi⟩, ⟨(pI_ne (by omega) hT.2.2.1.1), hT.2.2.1.2⟩, ⟨hT.2.2.2.1.1, hT.2.2.2.1.2⟩, ⟨(pI_ne (by omega) hT.2.2.2.2.1.1), hT.2.2.2.2.1.2⟩, ⟨(pI_ne (by omega) hT.2.2.2.2.2.1.1), hT.2.2.2.2.2.1.2⟩, ⟨(pI_ne (by omega) hT.2.2.2.2.2.2.1.1), hT.2.2.2.2.2.2.1.2⟩, ⟨(pI_ne (by omega) hT.2.2.2.2.2.2.2.1.1), hT.2.2.2.2.2.2.2.1.2⟩, ⟨(pI_ne (by omega) hT.2.2.2.2.2.2.2.2.1.1), hT.2.2.2.2.2.2.2.2.1.2⟩, ⟨hT.2.2.2.2.2.2.2.2.2.1.1, hT.2.2.2.2.2.2.2.2.2.1.2⟩, ⟨hT.2.2.2.2.2.2.2.2.2.2.1, hT.2.2.2.2.2.2.2.2.2.2.2⟩⟩, Fr.nil.i1 (Or.inl rfl)⟩
set_option maxRecDepth 100000 in
set_option maxHeartbeats 1000000 in
theorem c_tappend {q : Nat} {l : List Nat} {p v ro co nu wl cq pt rl : Nat} {w : Wd} (hT : TxW w l p v ro co nu wl cq pt rl) (hl : l.length < 60) (hq : 32 ≤ q ∧ q ≤ 126) : Ct 1 MX1_append 1 0 0 [.ref 45, .int (nI q)] w (Mt none fun w1 => TxW w1 (l ++ [q]) p v ro co nu wl cq pt rl ∧ Fr In45 w w1) := by
  refine Ct_of (by decide +kernel) rfl (Nat.le_of_ble_eq_true rfl) rfl ?_
  have hl60 := hT.2.1.1
  have hp60 := hT.2.2.1.2
  have hv7 := hT.2.2.2.1.2
  have hro9 := hT.2.2.2.2.1.2
  have hco9 := hT.2.2.2.2.2.1.2
  have hnu9 := hT.2.2.2.2.2.2.1.2
  have hwl2 := hT.2.2.2.2.2.2.2.1.2
  have hcq9 := hT.2.2.2.2.2.2.2.2.1.2
  have hpt4 := hT.2.2.2.2.2.2.2.2.2.1.2
  have hrl3 := hT.2.2.2.2.2.2.2.2.2.2.2
  have hsg := @sg_le _ _ _ _ _ _ _ _ _ _ _ p hT
  refine V_aload_n (i := 0) dX1_append_0 rfl rfl ?_
  refine V_getI (k := 1) dX1_append_1 (Or.inr ⟨rfl, Nat.le_of_ble_eq_true rfl⟩) rfl rfl rfl (Nat.le_of_ble_eq_true rfl) flRX1_15 ?_
  refine V_top (y := nI l.length) hT.1.1 ?_
  refine V_if_lt_n (tgt := 36) dX1_append_4 (by decide) (by omega) ?_
  refine V_aload_n (i := 0) dX1_append_7 rfl rfl ?_
  refine V_getI (k := 1) dX1_append_8 (Or.inr ⟨rfl, Nat.le_of_ble_eq_true rfl⟩) rfl rfl rfl (Nat.le_of_ble_eq_true rfl) flRX1_15 ?_
  refine V_top (y := nI l.length) hT.1.1 ?_
  refine V_bipush_n (v := 60) dX1_append_11 (by decide) ?_
  refine V_icmp_ge_n (tgt := 36) dX1_append_13 (by decide) (by omega) (by omega) (fun h13 => by exfalso; omega) (fun h13 => ?_)
  refine V_aload_n (i := 0) dX1_append_16 rfl rfl ?_
  refine V_getC (k := 0) (q := 46) dX1_append_17 (Or.inr ⟨rfl, Nat.le_of_ble_eq_true rfl⟩) rfl rfl rfl (Nat.le_of_ble_eq_true rfl) flRX1_9 ?_
  refine V_aload_n (i := 0) dX1_append_20 rfl rfl ?_
  refine V_getI (k := 1) dX1_append_21 (Or.inr ⟨rfl, Nat.le_of_ble_eq_true rfl⟩) rfl rfl rfl (Nat.le_of_ble_eq_true rfl) flRX1_15 ?_
  refine V_top (y := nI l.length) hT.1.1 ?_
  refine V_iload_n (i := 1) dX1_append_24 rfl rfl ?_
  refine V_cast_n (i := l.length) dX1_append_25 (Or.inr ⟨rfl, Nat.le_of_ble_eq_true rfl⟩) rfl (by omega) (by decide) (nar_char (by omega)) ?_
  refine V_aload_n (i := 0) dX1_append_26 rfl rfl ?_
  refine V_dup dX1_append_27 rfl ?_
  refine V_getI (k := 1) dX1_append_28 (Or.inr ⟨rfl, Nat.le_of_ble_eq_true rfl⟩) rfl rfl rfl (Nat.le_of_ble_eq_true rfl) flRX1_15 ?_
  refine V_top (y := nI l.length) (pI_ne (by omega) hT.1.1) ?_
  refine V_iconst_n (v := 1) dX1_append_31 (by decide) ?_
  refine V_iadd_n dX1_append_32 ?_
  refine V_putI (k := 1) (ty := .int) dX1_append_33 (Or.inr ⟨rfl, Nat.le_of_ble_eq_true rfl⟩) rfl rfl rfl (Nat.le_of_ble_eq_true rfl) flRX1_15 rfl (by decide +kernel) rfl rfl ?_
  refine V_vret dX1_append_36 rfl ?_
  refine ⟨rfl, ⟨hT.1.snoc (by decide) rfl, ⟨by rw [List.length_append]; show l.length + 1 ≤ 60; omega, fun i hi => ?_⟩, ⟨(pI_ne (by omega) (pI_ne (by omega) hT.2.2.1.1)), hT.2.2.1.2⟩, ⟨hT.2.2.2.1.1, hT.2.2.2.1.2⟩, ⟨(pI_ne (by omega) (pI_ne (by omega) hT.2.2.2.2.1.1)), hT.2.2.2.2.1.2⟩, ⟨(pI_ne (by omega) (pI_ne (by omega) hT.2.2.2.2.2.1.1)), hT.2.2.2.2.2.1.2⟩, ⟨(pI_ne (by omega) (pI_ne (by omega) hT.2.2.2.2.2.2.1.1)), hT.2.2.2.2.2.2.1.2⟩, ⟨(pI_ne (by omega) (pI_ne (by omega) hT.2.2.2.2.2.2.2.1.1)), hT.2.2.2.2.2.2.2.1.2⟩, ⟨(pI_ne (by omega) (pI_ne (by omega) hT.2.2.2.2.2.2.2.2.1.1)), hT.2.2.2.2.2.2.2.2.1.2⟩, ⟨hT.2.2.2.2.2.2.2.2.2.1.1, hT.2.2.2.2.2.2.2.2.2.1.2⟩, ⟨hT.2.2.2.2.2.2.2.2.2.2.1, hT.2.2.2.2.2.2.2.2.2.2.2⟩⟩, (Fr.nil.i1 (Or.inr rfl)).i1 (Or.inl rfl)⟩
  rw [List.length_append] at hi
  rw [getD_snoc]
  split
  · next h => exact hT.2.1.2 i h
  · rw [if_pos (by have : i < l.length + 1 := hi; omega)]; exact hq
end MCMD3
