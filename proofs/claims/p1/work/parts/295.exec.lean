/-! THE FACE: commands carried out. Printed by wip/whole/gen/mk30.py. -/
section MEXEC
theorem acO_eq {c : Cmd} {v ro co nu cq pt rl : Nat} (h : CmF c v ro co nu cq pt rl) (hv : v < 7) : acO v ro co nu = cmA v c := by
  unfold acO cmA
  by_cases h6 : v = 6
  · rw [if_pos h6, if_pos h6, h.2.1 h6]
  · rw [if_neg h6, if_neg h6]
    by_cases h5 : v < 5
    · rw [if_pos h5, if_pos h5, (h.2.2.1 h5).1, (h.2.2.1 h5).2]
    · rw [if_neg h5, if_neg h5]
theorem cmR_le {s : St} {v : Nat} {c : Cmd} : cmR s v c ≤ 5 := by
  unfold cmR
  have h1 := @rsP_lt (s.1 (8 * c.1 + c.2.1))
  have h2 := @rsR_lt (s.1 (8 * c.1 + c.2.1))
  have h3 := @rsA_lt (s.1 (8 * c.1 + c.2.1))
  have h4 := @rsL_lt s (ptN c.2.2.1) c.1 c.2.1
  split
  · omega
  · split
    · omega
    · split
      · omega
      · split
        · omega
        · split
          · split <;> omega
          · omega
set_option maxRecDepth 100000 in
set_option maxHeartbeats 1000000 in
theorem c_reasonNext {t : St} {l : List Nat} {p v ro co nu wl cq pt rl : Nat} {w : Wd} (hT : TxW w l p v ro co nu wl cq pt rl) (hR : Repr w 4 t) (hG : cmG l p = true) : Ct 1 MX10_reasonAgainstNextCommand 11 0 0 [.ref 0] w (fun o w1 => (cmA ((vbF l p).getD 0) (agC l ((vbF l p).getD 0) (vbP l p)) = false ∧ o = Sum.inl (some (Value.int (zI (-1)))) ∧ (∃ v ro co nu wl cq pt rl : Nat, TxW w1 l (cmE l p) v ro co nu wl cq pt rl) ∧ Fr In45 w w1) ∨ (cmA ((vbF l p).getD 0) (agC l ((vbF l p).getD 0) (vbP l p)) = true ∧ o = Sum.inl (some (Value.int (nI (cmR t ((vbF l p).getD 0) (agC l ((vbF l p).getD 0) (vbP l p)))))) ∧ (∃ v ro co nu wl cq pt rl : Nat, TxW w1 l (cmE l p) v ro co nu wl cq pt rl ∧ vbF l p = some v ∧ CmF (agC l ((vbF l p).getD 0) (vbP l p)) v ro co nu cq pt rl) ∧ Fr In45 w w1)) := by
  refine Ct_of (by decide +kernel) rfl (Nat.le_of_ble_eq_true rfl) rfl ?_
  have hl60 := hT.2.1.1
  have hp60 := hT.2.2.1.2
  have hv7 := hT.2.2.2.1.2
  have hro9 := hT.2.2.2.2.1.2
  have hco9 := hT.2.2.2.2.2.1.2
  have hnu9 := hT.2.2.2.2.2.2.1.2
  have hwl2 := hT.2.2.2.2.2.2.2.1.2
  have hcq9 := hT.2.2.2.2.2.2.2.2.1.2
  have hpt4 := hT.2.2.2.2.2.2.2.2.2.1.2
  have hrl3 := hT.2.2.2.2.2.2.2.2.2.2.2
  have hsg := @sg_le _ _ _ _ _ _ _ _ _ _ _ p hT
  refine V_aload_n (i := 0) dX10_reasonAgainstNextCommand_0 rfl rfl ?_
  refine V_getC (k := 7) (q := 45) dX10_reasonAgainstNextCommand_1 (Or.inr ⟨rfl, Nat.le_of_ble_eq_true rfl⟩) rfl rfl rfl (Nat.le_of_ble_eq_true rfl) flRX10_53 ?_
  refine V_callV dX10_reasonAgainstNextCommand_4 (c_readCommand hT) okX1_readCommand lkRX10_429 (Or.inr ⟨rfl, Nat.le_of_ble_eq_true rfl⟩) rfl rfl rfl rfl (Nat.le_of_ble_eq_true rfl) ⟨Nat.le_of_ble_eq_true rfl, Nat.le_of_ble_eq_true rfl⟩ rfl ⟨Nat.zero_le _, Nat.zero_le _⟩ (fun v9 u1 hu1 => ?_) (fun E9 w9 h9 => by rcases h9 with h9 | h9 <;> cases h9.2.1)
  rcases hu1 with ⟨hu1f, e9, hu1⟩ | ⟨hu1f, e9, hu1⟩
  · cases e9
    rw [hG] at hu1f
    cases hu1f
  · cases e9
    obtain ⟨⟨v1, ro1, co1, nu1, cq1, pt1, rl1, hV1, hT1, hC1⟩, hF1⟩ := hu1
    have hvb : ((vbF l p).getD 0) = v1 := by rw [hV1]; rfl
    have hC2 : CmF (agC l ((vbF l p).getD 0) (vbP l p)) v1 ro1 co1 nu1 cq1 pt1 rl1 := by rw [hvb]; exact hC1
    have hv17 := hT1.2.2.2.1.2
    have hac := acO_eq hC2 hv17
    have hro9 := hT1.2.2.2.2.1.2
    have hco9 := hT1.2.2.2.2.2.1.2
    have hpt4 := hT1.2.2.2.2.2.2.2.2.2.1.2
    have hrl3 := hT1.2.2.2.2.2.2.2.2.2.2.2
    refine V_if_eq_n (tgt := 20) dX10_reasonAgainstNextCommand_7 (by decide) (by omega) (fun h7 => by exfalso; omega) (fun h7 => ?_)
    refine V_aload_n (i := 0) dX10_reasonAgainstNextCommand_10 rfl rfl ?_
    refine V_getC (k := 7) (q := 45) dX10_reasonAgainstNextCommand_11 (Or.inr ⟨rfl, Nat.le_of_ble_eq_true rfl⟩) rfl rfl rfl (Nat.le_of_ble_eq_true rfl) flRX10_53 ?_
    refine V_callVF dX10_reasonAgainstNextCommand_14 (c_isAccepted hT1) okX1_isAccepted lkRX10_432 (Or.inr ⟨rfl, Nat.le_of_ble_eq_true rfl⟩) rfl rfl rfl rfl (Nat.le_of_ble_eq_true rfl) ⟨Nat.le_of_ble_eq_true rfl, Nat.le_of_ble_eq_true rfl⟩ rfl ?_
    refine V_if_ne_n (tgt := 22) dX10_reasonAgainstNextCommand_17 (by decide) (Nat.lt_of_lt_of_le ite_le (by decide)) (fun h17 => ?_) (fun h17 => ?_)
    · have ha9 := ite_t h17
      have hca : cmA ((vbF l p).getD 0) (agC l ((vbF l p).getD 0) (vbP l p)) = true := by rw [hvb]; rw [hvb] at hac; rw [← hac]; exact ha9
      have hin : v1 < 5 → ro1 < 8 ∧ co1 < 8 := fun q => by unfold acO at ha9; rw [if_neg (by omega), if_pos q] at ha9; exact of_decide_eq_true ha9
      rcases (show v1 = 0 ∨ v1 = 1 ∨ v1 = 2 ∨ v1 = 3 ∨ v1 = 4 ∨ v1 = 5 ∨ v1 = 6 by omega) with rfl | rfl | rfl | rfl | rfl | rfl | rfl
      · have hcs := hC2
        refine V_aload_n (i := 0) dX10_reasonAgainstNextCommand_22 rfl rfl ?_
        refine V_getC (k := 7) (q := 45) dX10_reasonAgainstNextCommand_23 (Or.inr ⟨rfl, Nat.le_of_ble_eq_true rfl⟩) rfl rfl rfl (Nat.le_of_ble_eq_true rfl) flRX10_53 ?_
        refine V_getI (k := 4) dX10_reasonAgainstNextCommand_26 (Or.inr ⟨rfl, Nat.le_of_ble_eq_true rfl⟩) rfl rfl rfl (Nat.le_of_ble_eq_true rfl) flRX10_435 ?_
        refine V_top (y := nI ro1) hT1.2.2.2.2.1.1 ?_
        refine V_aload_n (i := 0) dX10_reasonAgainstNextCommand_29 rfl rfl ?_
        refine V_getC (k := 7) (q := 45) dX10_reasonAgainstNextCommand_30 (Or.inr ⟨rfl, Nat.le_of_ble_eq_true rfl⟩) rfl rfl rfl (Nat.le_of_ble_eq_true rfl) flRX10_53 ?_
        refine V_getI (k := 5) dX10_reasonAgainstNextCommand_33 (Or.inr ⟨rfl, Nat.le_of_ble_eq_true rfl⟩) rfl rfl rfl (Nat.le_of_ble_eq_true rfl) flRX10_438 ?_
        refine V_top (y := nI co1) hT1.2.2.2.2.2.1.1 ?_
        refine V_callSF dX10_reasonAgainstNextCommand_36 (c_cellNumber (r := ro1) (c := co1) (rfl) (rfl)) okX10_cellNumber lkRX10_82 rfl rfl (Nat.le_of_ble_eq_true rfl) ⟨Nat.le_of_ble_eq_true rfl, Nat.le_of_ble_eq_true rfl⟩ rfl ?_
        refine V_istore_n (i := 1) dX10_reasonAgainstNextCommand_39 rfl (Nat.le_of_ble_eq_true rfl) rfl rfl ?_
        refine V_gets dX10_reasonAgainstNextCommand_40 (List.mem_of_getElem? (i := 17) rfl) flRX10_441 ?_
        refine V_aload_n (i := 0) dX10_reasonAgainstNextCommand_43 rfl rfl ?_
        refine V_getC (k := 7) (q := 45) dX10_reasonAgainstNextCommand_44 (Or.inr ⟨rfl, Nat.le_of_ble_eq_true rfl⟩) rfl rfl rfl (Nat.le_of_ble_eq_true rfl) flRX10_53 ?_
        refine V_getR (k := 3) dX10_reasonAgainstNextCommand_47 (Or.inr ⟨rfl, Nat.le_of_ble_eq_true rfl⟩) rfl rfl rfl (Nat.le_of_ble_eq_true rfl) flRX10_447 hT1.2.2.2.1.1 ?_
        refine V_ordinal (dy := 0) dX10_reasonAgainstNextCommand_50 rfl hT1.2.2.2.1.2 (Nat.le_of_ble_eq_true rfl) (by decide) rfl ?_
        refine V_tiald dX10_reasonAgainstNextCommand_53 (List.mem_of_getElem? (i := 3) rfl) (in_n (by decide) (by decide)) (sw_get (by decide)) ?_
        refine V_tsIn (tgt := 92) dX10_reasonAgainstNextCommand_54 (by decide) (by decide) rfl (by decide) ?_
        have hi8 := hin (by decide)
        refine V_aload_n (i := 0) dX10_reasonAgainstNextCommand_92 rfl rfl ?_
        refine V_getC (k := 1) (q := 4) dX10_reasonAgainstNextCommand_93 (Or.inr ⟨rfl, Nat.le_of_ble_eq_true rfl⟩) rfl rfl rfl (Nat.le_of_ble_eq_true rfl) flRX10_16 ?_
        refine V_iload_n (i := 1) dX10_reasonAgainstNextCommand_96 rfl rfl ?_
        refine V_callVF dX10_reasonAgainstNextCommand_97 (c_reasonAgainstPlacing (hR.keep hF1 (by unfold In45; omega) (by unfold In45; omega) (by unfold In45; omega)) (k := (8 * ro1 + co1)) (by omega)) okX8_reasonAgainstPlacing lkRX10_86 (Or.inr ⟨rfl, Nat.le_of_ble_eq_true rfl⟩) rfl rfl rfl rfl (Nat.le_of_ble_eq_true rfl) ⟨Nat.le_of_ble_eq_true rfl, Nat.le_of_ble_eq_true rfl⟩ rfl ?_
        refine V_iret dX10_reasonAgainstNextCommand_100 rfl rfl ?_
        have eR : cmR t ((vbF l p).getD 0) (agC l ((vbF l p).getD 0) (vbP l p)) = (rsP (t.1 (8 * ro1 + co1))) := by
          rw [hvb]
          have hf := hC2
          rw [hvb] at hf
          have h1 := hf.2.2.1 (by decide)
          simp [cmR, ← h1.1, ← h1.2]
        exact Or.inr ⟨hca, by rw [eR], ⟨_, _, _, _, _, _, _, _, hT1, hV1, hC2⟩, hF1⟩
      · have hcs := hC2
        refine V_aload_n (i := 0) dX10_reasonAgainstNextCommand_22 rfl rfl ?_
        refine V_getC (k := 7) (q := 45) dX10_reasonAgainstNextCommand_23 (Or.inr ⟨rfl, Nat.le_of_ble_eq_true rfl⟩) rfl rfl rfl (Nat.le_of_ble_eq_true rfl) flRX10_53 ?_
        refine V_getI (k := 4) dX10_reasonAgainstNextCommand_26 (Or.inr ⟨rfl, Nat.le_of_ble_eq_true rfl⟩) rfl rfl rfl (Nat.le_of_ble_eq_true rfl) flRX10_435 ?_
        refine V_top (y := nI ro1) hT1.2.2.2.2.1.1 ?_
        refine V_aload_n (i := 0) dX10_reasonAgainstNextCommand_29 rfl rfl ?_
        refine V_getC (k := 7) (q := 45) dX10_reasonAgainstNextCommand_30 (Or.inr ⟨rfl, Nat.le_of_ble_eq_true rfl⟩) rfl rfl rfl (Nat.le_of_ble_eq_true rfl) flRX10_53 ?_
        refine V_getI (k := 5) dX10_reasonAgainstNextCommand_33 (Or.inr ⟨rfl, Nat.le_of_ble_eq_true rfl⟩) rfl rfl rfl (Nat.le_of_ble_eq_true rfl) flRX10_438 ?_
        refine V_top (y := nI co1) hT1.2.2.2.2.2.1.1 ?_
        refine V_callSF dX10_reasonAgainstNextCommand_36 (c_cellNumber (r := ro1) (c := co1) (rfl) (rfl)) okX10_cellNumber lkRX10_82 rfl rfl (Nat.le_of_ble_eq_true rfl) ⟨Nat.le_of_ble_eq_true rfl, Nat.le_of_ble_eq_true rfl⟩ rfl ?_
        refine V_istore_n (i := 1) dX10_reasonAgainstNextCommand_39 rfl (Nat.le_of_ble_eq_true rfl) rfl rfl ?_
        refine V_gets dX10_reasonAgainstNextCommand_40 (List.mem_of_getElem? (i := 17) rfl) flRX10_441 ?_
        refine V_aload_n (i := 0) dX10_reasonAgainstNextCommand_43 rfl rfl ?_
        refine V_getC (k := 7) (q := 45) dX10_reasonAgainstNextCommand_44 (Or.inr ⟨rfl, Nat.le_of_ble_eq_true rfl⟩) rfl rfl rfl (Nat.le_of_ble_eq_true rfl) flRX10_53 ?_
        refine V_getR (k := 3) dX10_reasonAgainstNextCommand_47 (Or.inr ⟨rfl, Nat.le_of_ble_eq_true rfl⟩) rfl rfl rfl (Nat.le_of_ble_eq_true rfl) flRX10_447 hT1.2.2.2.1.1 ?_
        refine V_ordinal (dy := 0) dX10_reasonAgainstNextCommand_50 rfl hT1.2.2.2.1.2 (Nat.le_of_ble_eq_true rfl) (by decide) rfl ?_
        refine V_tiald dX10_reasonAgainstNextCommand_53 (List.mem_of_getElem? (i := 3) rfl) (in_n (by decide) (by decide)) (sw_get (by decide)) ?_
        refine V_tsIn (tgt := 101) dX10_reasonAgainstNextCommand_54 (by decide) (by decide) rfl (by decide) ?_
        have hi8 := hin (by decide)
        refine V_aload_n (i := 0) dX10_reasonAgainstNextCommand_101 rfl rfl ?_
        refine V_getC (k := 1) (q := 4) dX10_reasonAgainstNextCommand_102 (Or.inr ⟨rfl, Nat.le_of_ble_eq_true rfl⟩) rfl rfl rfl (Nat.le_of_ble_eq_true rfl) flRX10_16 ?_
        refine V_iload_n (i := 1) dX10_reasonAgainstNextCommand_105 rfl rfl ?_
        refine V_callVF dX10_reasonAgainstNextCommand_106 (c_reasonAgainstRemoving (hR.keep hF1 (by unfold In45; omega) (by unfold In45; omega) (by unfold In45; omega)) (k := (8 * ro1 + co1)) (by omega)) okX8_reasonAgainstRemoving lkRX10_105 (Or.inr ⟨rfl, Nat.le_of_ble_eq_true rfl⟩) rfl rfl rfl rfl (Nat.le_of_ble_eq_true rfl) ⟨Nat.le_of_ble_eq_true rfl, Nat.le_of_ble_eq_true rfl⟩ rfl ?_
        refine V_iret dX10_reasonAgainstNextCommand_109 rfl rfl ?_
        have eR : cmR t ((vbF l p).getD 0) (agC l ((vbF l p).getD 0) (vbP l p)) = (rsR (t.1 (8 * ro1 + co1))) := by
          rw [hvb]
          have hf := hC2
          rw [hvb] at hf
          have h1 := hf.2.2.1 (by decide)
          simp [cmR, ← h1.1, ← h1.2]
        exact Or.inr ⟨hca, by rw [eR], ⟨_, _, _, _, _, _, _, _, hT1, hV1, hC2⟩, hF1⟩
      · have hcs := hC2
        refine V_aload_n (i := 0) dX10_reasonAgainstNextCommand_22 rfl rfl ?_
        refine V_getC (k := 7) (q := 45) dX10_reasonAgainstNextCommand_23 (Or.inr ⟨rfl, Nat.le_of_ble_eq_true rfl⟩) rfl rfl rfl (Nat.le_of_ble_eq_true rfl) flRX10_53 ?_
        refine V_getI (k := 4) dX10_reasonAgainstNextCommand_26 (Or.inr ⟨rfl, Nat.le_of_ble_eq_true rfl⟩) rfl rfl rfl (Nat.le_of_ble_eq_true rfl) flRX10_435 ?_
        refine V_top (y := nI ro1) hT1.2.2.2.2.1.1 ?_
        refine V_aload_n (i := 0) dX10_reasonAgainstNextCommand_29 rfl rfl ?_
        refine V_getC (k := 7) (q := 45) dX10_reasonAgainstNextCommand_30 (Or.inr ⟨rfl, Nat.le_of_ble_eq_true rfl⟩) rfl rfl rfl (Nat.le_of_ble_eq_true rfl) flRX10_53 ?_
        refine V_getI (k := 5) dX10_reasonAgainstNextCommand_33 (Or.inr ⟨rfl, Nat.le_of_ble_eq_true rfl⟩) rfl rfl rfl (Nat.le_of_ble_eq_true rfl) flRX10_438 ?_
        refine V_top (y := nI co1) hT1.2.2.2.2.2.1.1 ?_
        refine V_callSF dX10_reasonAgainstNextCommand_36 (c_cellNumber (r := ro1) (c := co1) (rfl) (rfl)) okX10_cellNumber lkRX10_82 rfl rfl (Nat.le_of_ble_eq_true rfl) ⟨Nat.le_of_ble_eq_true rfl, Nat.le_of_ble_eq_true rfl⟩ rfl ?_
        refine V_istore_n (i := 1) dX10_reasonAgainstNextCommand_39 rfl (Nat.le_of_ble_eq_true rfl) rfl rfl ?_
        refine V_gets dX10_reasonAgainstNextCommand_40 (List.mem_of_getElem? (i := 17) rfl) flRX10_441 ?_
        refine V_aload_n (i := 0) dX10_reasonAgainstNextCommand_43 rfl rfl ?_
        refine V_getC (k := 7) (q := 45) dX10_reasonAgainstNextCommand_44 (Or.inr ⟨rfl, Nat.le_of_ble_eq_true rfl⟩) rfl rfl rfl (Nat.le_of_ble_eq_true rfl) flRX10_53 ?_
        refine V_getR (k := 3) dX10_reasonAgainstNextCommand_47 (Or.inr ⟨rfl, Nat.le_of_ble_eq_true rfl⟩) rfl rfl rfl (Nat.le_of_ble_eq_true rfl) flRX10_447 hT1.2.2.2.1.1 ?_
        refine V_ordinal (dy := 0) dX10_reasonAgainstNextCommand_50 rfl hT1.2.2.2.1.2 (Nat.le_of_ble_eq_true rfl) (by decide) rfl ?_
        refine V_tiald dX10_reasonAgainstNextCommand_53 (List.mem_of_getElem? (i := 3) rfl) (in_n (by decide) (by decide)) (sw_get (by decide)) ?_
        refine V_tsIn (tgt := 110) dX10_reasonAgainstNextCommand_54 (by decide) (by decide) rfl (by decide) ?_
        have hi8 := hin (by decide)
        refine V_aload_n (i := 0) dX10_reasonAgainstNextCommand_110 rfl rfl ?_
        refine V_getC (k := 1) (q := 4) dX10_reasonAgainstNextCommand_111 (Or.inr ⟨rfl, Nat.le_of_ble_eq_true rfl⟩) rfl rfl rfl (Nat.le_of_ble_eq_true rfl) flRX10_16 ?_
        refine V_iload_n (i := 1) dX10_reasonAgainstNextCommand_114 rfl rfl ?_
        refine V_callVF dX10_reasonAgainstNextCommand_115 (c_reasonAgainstAltering (hR.keep hF1 (by unfold In45; omega) (by unfold In45; omega) (by unfold In45; omega)) (k := (8 * ro1 + co1)) (by omega)) okX8_reasonAgainstAltering lkRX10_417 (Or.inr ⟨rfl, Nat.le_of_ble_eq_true rfl⟩) rfl rfl rfl rfl (Nat.le_of_ble_eq_true rfl) ⟨Nat.le_of_ble_eq_true rfl, Nat.le_of_ble_eq_true rfl⟩ rfl ?_
        refine V_iret dX10_reasonAgainstNextCommand_118 rfl rfl ?_
        have eR : cmR t ((vbF l p).getD 0) (agC l ((vbF l p).getD 0) (vbP l p)) = (rsA (t.1 (8 * ro1 + co1))) := by
          rw [hvb]
          have hf := hC2
          rw [hvb] at hf
          have h1 := hf.2.2.1 (by decide)
          simp [cmR, ← h1.1, ← h1.2]
        exact Or.inr ⟨hca, by rw [eR], ⟨_, _, _, _, _, _, _, _, hT1, hV1, hC2⟩, hF1⟩
      · have hcs := hC2
        refine V_aload_n (i := 0) dX10_reasonAgainstNextCommand_22 rfl rfl ?_
        refine V_getC (k := 7) (q := 45) dX10_reasonAgainstNextCommand_23 (Or.inr ⟨rfl, Nat.le_of_ble_eq_true rfl⟩) rfl rfl rfl (Nat.le_of_ble_eq_true rfl) flRX10_53 ?_
        refine V_getI (k := 4) dX10_reasonAgainstNextCommand_26 (Or.inr ⟨rfl, Nat.le_of_ble_eq_true rfl⟩) rfl rfl rfl (Nat.le_of_ble_eq_true rfl) flRX10_435 ?_
        refine V_top (y := nI ro1) hT1.2.2.2.2.1.1 ?_
        refine V_aload_n (i := 0) dX10_reasonAgainstNextCommand_29 rfl rfl ?_
        refine V_getC (k := 7) (q := 45) dX10_reasonAgainstNextCommand_30 (Or.inr ⟨rfl, Nat.le_of_ble_eq_true rfl⟩) rfl rfl rfl (Nat.le_of_ble_eq_true rfl) flRX10_53 ?_
        refine V_getI (k := 5) dX10_reasonAgainstNextCommand_33 (Or.inr ⟨rfl, Nat.le_of_ble_eq_true rfl⟩) rfl rfl rfl (Nat.le_of_ble_eq_true rfl) flRX10_438 ?_
        refine V_top (y := nI co1) hT1.2.2.2.2.2.1.1 ?_
        refine V_callSF dX10_reasonAgainstNextCommand_36 (c_cellNumber (r := ro1) (c := co1) (rfl) (rfl)) okX10_cellNumber lkRX10_82 rfl rfl (Nat.le_of_ble_eq_true rfl) ⟨Nat.le_of_ble_eq_true rfl, Nat.le_of_ble_eq_true rfl⟩ rfl ?_
        refine V_istore_n (i := 1) dX10_reasonAgainstNextCommand_39 rfl (Nat.le_of_ble_eq_true rfl) rfl rfl ?_
        refine V_gets dX10_reasonAgainstNextCommand_40 (List.mem_of_getElem? (i := 17) rfl) flRX10_441 ?_
        refine V_aload_n (i := 0) dX10_reasonAgainstNextCommand_43 rfl rfl ?_
        refine V_getC (k := 7) (q := 45) dX10_reasonAgainstNextCommand_44 (Or.inr ⟨rfl, Nat.le_of_ble_eq_true rfl⟩) rfl rfl rfl (Nat.le_of_ble_eq_true rfl) flRX10_53 ?_
        refine V_getR (k := 3) dX10_reasonAgainstNextCommand_47 (Or.inr ⟨rfl, Nat.le_of_ble_eq_true rfl⟩) rfl rfl rfl (Nat.le_of_ble_eq_true rfl) flRX10_447 hT1.2.2.2.1.1 ?_
        refine V_ordinal (dy := 0) dX10_reasonAgainstNextCommand_50 rfl hT1.2.2.2.1.2 (Nat.le_of_ble_eq_true rfl) (by decide) rfl ?_
        refine V_tiald dX10_reasonAgainstNextCommand_53 (List.mem_of_getElem? (i := 3) rfl) (in_n (by decide) (by decide)) (sw_get (by decide)) ?_
        refine V_tsIn (tgt := 110) dX10_reasonAgainstNextCommand_54 (by decide) (by decide) rfl (by decide) ?_
        have hi8 := hin (by decide)
        refine V_aload_n (i := 0) dX10_reasonAgainstNextCommand_110 rfl rfl ?_
        refine V_getC (k := 1) (q := 4) dX10_reasonAgainstNextCommand_111 (Or.inr ⟨rfl, Nat.le_of_ble_eq_true rfl⟩) rfl rfl rfl (Nat.le_of_ble_eq_true rfl) flRX10_16 ?_
        refine V_iload_n (i := 1) dX10_reasonAgainstNextCommand_114 rfl rfl ?_
        refine V_callVF dX10_reasonAgainstNextCommand_115 (c_reasonAgainstAltering (hR.keep hF1 (by unfold In45; omega) (by unfold In45; omega) (by unfold In45; omega)) (k := (8 * ro1 + co1)) (by omega)) okX8_reasonAgainstAltering lkRX10_417 (Or.inr ⟨rfl, Nat.le_of_ble_eq_true rfl⟩) rfl rfl rfl rfl (Nat.le_of_ble_eq_true rfl) ⟨Nat.le_of_ble_eq_true rfl, Nat.le_of_ble_eq_true rfl⟩ rfl ?_
        refine V_iret dX10_reasonAgainstNextCommand_118 rfl rfl ?_
        have eR : cmR t ((vbF l p).getD 0) (agC l ((vbF l p).getD 0) (vbP l p)) = (rsA (t.1 (8 * ro1 + co1))) := by
          rw [hvb]
          have hf := hC2
          rw [hvb] at hf
          have h1 := hf.2.2.1 (by decide)
          simp [cmR, ← h1.1, ← h1.2]
        exact Or.inr ⟨hca, by rw [eR], ⟨_, _, _, _, _, _, _, _, hT1, hV1, hC2⟩, hF1⟩
      · have hcs := hC2
        refine V_aload_n (i := 0) dX10_reasonAgainstNextCommand_22 rfl rfl ?_
        refine V_getC (k := 7) (q := 45) dX10_reasonAgainstNextCommand_23 (Or.inr ⟨rfl, Nat.le_of_ble_eq_true rfl⟩) rfl rfl rfl (Nat.le_of_ble_eq_true rfl) flRX10_53 ?_
        refine V_getI (k := 4) dX10_reasonAgainstNextCommand_26 (Or.inr ⟨rfl, Nat.le_of_ble_eq_true rfl⟩) rfl rfl rfl (Nat.le_of_ble_eq_true rfl) flRX10_435 ?_
        refine V_top (y := nI ro1) hT1.2.2.2.2.1.1 ?_
        refine V_aload_n (i := 0) dX10_reasonAgainstNextCommand_29 rfl rfl ?_
        refine V_getC (k := 7) (q := 45) dX10_reasonAgainstNextCommand_30 (Or.inr ⟨rfl, Nat.le_of_ble_eq_true rfl⟩) rfl rfl rfl (Nat.le_of_ble_eq_true rfl) flRX10_53 ?_
        refine V_getI (k := 5) dX10_reasonAgainstNextCommand_33 (Or.inr ⟨rfl, Nat.le_of_ble_eq_true rfl⟩) rfl rfl rfl (Nat.le_of_ble_eq_true rfl) flRX10_438 ?_
        refine V_top (y := nI co1) hT1.2.2.2.2.2.1.1 ?_
        refine V_callSF dX10_reasonAgainstNextCommand_36 (c_cellNumber (r := ro1) (c := co1) (rfl) (rfl)) okX10_cellNumber lkRX10_82 rfl rfl (Nat.le_of_ble_eq_true rfl) ⟨Nat.le_of_ble_eq_true rfl, Nat.le_of_ble_eq_true rfl⟩ rfl ?_
        refine V_istore_n (i := 1) dX10_reasonAgainstNextCommand_39 rfl (Nat.le_of_ble_eq_true rfl) rfl rfl ?_
        refine V_gets dX10_reasonAgainstNextCommand_40 (List.mem_of_getElem? (i := 17) rfl) flRX10_441 ?_
        refine V_aload_n (i := 0) dX10_reasonAgainstNextCommand_43 rfl rfl ?_
        refine V_getC (k := 7) (q := 45) dX10_reasonAgainstNextCommand_44 (Or.inr ⟨rfl, Nat.le_of_ble_eq_true rfl⟩) rfl rfl rfl (Nat.le_of_ble_eq_true rfl) flRX10_53 ?_
        refine V_getR (k := 3) dX10_reasonAgainstNextCommand_47 (Or.inr ⟨rfl, Nat.le_of_ble_eq_true rfl⟩) rfl rfl rfl (Nat.le_of_ble_eq_true rfl) flRX10_447 hT1.2.2.2.1.1 ?_
        refine V_ordinal (dy := 0) dX10_reasonAgainstNextCommand_50 rfl hT1.2.2.2.1.2 (Nat.le_of_ble_eq_true rfl) (by decide) rfl ?_
        refine V_tiald dX10_reasonAgainstNextCommand_53 (List.mem_of_getElem? (i := 3) rfl) (in_n (by decide) (by decide)) (sw_get (by decide)) ?_
        refine V_tsIn (tgt := 119) dX10_reasonAgainstNextCommand_54 (by decide) (by decide) rfl (by decide) ?_
        have hi8 := hin (by decide)
        refine V_aload_n (i := 0) dX10_reasonAgainstNextCommand_119 rfl rfl ?_
        refine V_getC (k := 1) (q := 4) dX10_reasonAgainstNextCommand_120 (Or.inr ⟨rfl, Nat.le_of_ble_eq_true rfl⟩) rfl rfl rfl (Nat.le_of_ble_eq_true rfl) flRX10_16 ?_
        refine V_aload_n (i := 0) dX10_reasonAgainstNextCommand_123 rfl rfl ?_
        refine V_getC (k := 7) (q := 45) dX10_reasonAgainstNextCommand_124 (Or.inr ⟨rfl, Nat.le_of_ble_eq_true rfl⟩) rfl rfl rfl (Nat.le_of_ble_eq_true rfl) flRX10_53 ?_
        refine V_getI (k := 4) dX10_reasonAgainstNextCommand_127 (Or.inr ⟨rfl, Nat.le_of_ble_eq_true rfl⟩) rfl rfl rfl (Nat.le_of_ble_eq_true rfl) flRX10_435 ?_
        refine V_top (y := nI ro1) hT1.2.2.2.2.1.1 ?_
        refine V_aload_n (i := 0) dX10_reasonAgainstNextCommand_130 rfl rfl ?_
        refine V_getC (k := 7) (q := 45) dX10_reasonAgainstNextCommand_131 (Or.inr ⟨rfl, Nat.le_of_ble_eq_true rfl⟩) rfl rfl rfl (Nat.le_of_ble_eq_true rfl) flRX10_53 ?_
        refine V_getI (k := 5) dX10_reasonAgainstNextCommand_134 (Or.inr ⟨rfl, Nat.le_of_ble_eq_true rfl⟩) rfl rfl rfl (Nat.le_of_ble_eq_true rfl) flRX10_438 ?_
        refine V_top (y := nI co1) hT1.2.2.2.2.2.1.1 ?_
        refine V_aload_n (i := 0) dX10_reasonAgainstNextCommand_137 rfl rfl ?_
        refine V_getC (k := 7) (q := 45) dX10_reasonAgainstNextCommand_138 (Or.inr ⟨rfl, Nat.le_of_ble_eq_true rfl⟩) rfl rfl rfl (Nat.le_of_ble_eq_true rfl) flRX10_53 ?_
        refine V_getR (k := 9) dX10_reasonAgainstNextCommand_141 (Or.inr ⟨rfl, Nat.le_of_ble_eq_true rfl⟩) rfl rfl rfl (Nat.le_of_ble_eq_true rfl) flRX10_456 hT1.2.2.2.2.2.2.2.2.2.1.1 ?_
        refine V_callVF dX10_reasonAgainstNextCommand_144 (c_reasonAgainstPlanting (hR.keep hF1 (by unfold In45; omega) (by unfold In45; omega) (by unfold In45; omega)) (p := pt1) (r := ro1) (c := co1) hT1.2.2.2.2.2.2.2.2.2.1.2 (by omega) (by omega)) okX8_reasonAgainstPlanting lkRX10_139 (Or.inr ⟨rfl, Nat.le_of_ble_eq_true rfl⟩) rfl rfl rfl rfl (Nat.le_of_ble_eq_true rfl) ⟨Nat.le_of_ble_eq_true rfl, Nat.le_of_ble_eq_true rfl⟩ rfl ?_
        refine V_iret dX10_reasonAgainstNextCommand_147 rfl rfl ?_
        have eR : cmR t ((vbF l p).getD 0) (agC l ((vbF l p).getD 0) (vbP l p)) = (rsL t pt1 ro1 co1) := by
          rw [hvb]
          have hf := hC2
          rw [hvb] at hf
          have h1 := hf.2.2.1 (by decide)
          have h2 := (hf.2.2.2.2 rfl).1
          have h3 := (ptL_isP hpt4).2
          rw [h2] at h3
          simp [cmR, ← h1.1, ← h1.2, h3]
        exact Or.inr ⟨hca, by rw [eR], ⟨_, _, _, _, _, _, _, _, hT1, hV1, hC2⟩, hF1⟩
      · have hcs := hC2
        refine V_aload_n (i := 0) dX10_reasonAgainstNextCommand_22 rfl rfl ?_
        refine V_getC (k := 7) (q := 45) dX10_reasonAgainstNextCommand_23 (Or.inr ⟨rfl, Nat.le_of_ble_eq_true rfl⟩) rfl rfl rfl (Nat.le_of_ble_eq_true rfl) flRX10_53 ?_
        refine V_getI (k := 4) dX10_reasonAgainstNextCommand_26 (Or.inr ⟨rfl, Nat.le_of_ble_eq_true rfl⟩) rfl rfl rfl (Nat.le_of_ble_eq_true rfl) flRX10_435 ?_
        refine V_top (y := nI ro1) hT1.2.2.2.2.1.1 ?_
        refine V_aload_n (i := 0) dX10_reasonAgainstNextCommand_29 rfl rfl ?_
        refine V_getC (k := 7) (q := 45) dX10_reasonAgainstNextCommand_30 (Or.inr ⟨rfl, Nat.le_of_ble_eq_true rfl⟩) rfl rfl rfl (Nat.le_of_ble_eq_true rfl) flRX10_53 ?_
        refine V_getI (k := 5) dX10_reasonAgainstNextCommand_33 (Or.inr ⟨rfl, Nat.le_of_ble_eq_true rfl⟩) rfl rfl rfl (Nat.le_of_ble_eq_true rfl) flRX10_438 ?_
        refine V_top (y := nI co1) hT1.2.2.2.2.2.1.1 ?_
        refine V_callSF dX10_reasonAgainstNextCommand_36 (c_cellNumber (r := ro1) (c := co1) (rfl) (rfl)) okX10_cellNumber lkRX10_82 rfl rfl (Nat.le_of_ble_eq_true rfl) ⟨Nat.le_of_ble_eq_true rfl, Nat.le_of_ble_eq_true rfl⟩ rfl ?_
        refine V_istore_n (i := 1) dX10_reasonAgainstNextCommand_39 rfl (Nat.le_of_ble_eq_true rfl) rfl rfl ?_
        refine V_gets dX10_reasonAgainstNextCommand_40 (List.mem_of_getElem? (i := 17) rfl) flRX10_441 ?_
        refine V_aload_n (i := 0) dX10_reasonAgainstNextCommand_43 rfl rfl ?_
        refine V_getC (k := 7) (q := 45) dX10_reasonAgainstNextCommand_44 (Or.inr ⟨rfl, Nat.le_of_ble_eq_true rfl⟩) rfl rfl rfl (Nat.le_of_ble_eq_true rfl) flRX10_53 ?_
        refine V_getR (k := 3) dX10_reasonAgainstNextCommand_47 (Or.inr ⟨rfl, Nat.le_of_ble_eq_true rfl⟩) rfl rfl rfl (Nat.le_of_ble_eq_true rfl) flRX10_447 hT1.2.2.2.1.1 ?_
        refine V_ordinal (dy := 0) dX10_reasonAgainstNextCommand_50 rfl hT1.2.2.2.1.2 (Nat.le_of_ble_eq_true rfl) (by decide) rfl ?_
        refine V_tiald dX10_reasonAgainstNextCommand_53 (List.mem_of_getElem? (i := 3) rfl) (in_n (by decide) (by decide)) (sw_get (by decide)) ?_
        refine V_tsIn (tgt := 148) dX10_reasonAgainstNextCommand_54 (by decide) (by decide) rfl (by decide) ?_
        refine V_aload_n (i := 0) dX10_reasonAgainstNextCommand_148 rfl rfl ?_
        refine V_getC (k := 1) (q := 4) dX10_reasonAgainstNextCommand_149 (Or.inr ⟨rfl, Nat.le_of_ble_eq_true rfl⟩) rfl rfl rfl (Nat.le_of_ble_eq_true rfl) flRX10_16 ?_
        refine V_aload_n (i := 0) dX10_reasonAgainstNextCommand_152 rfl rfl ?_
        refine V_getC (k := 7) (q := 45) dX10_reasonAgainstNextCommand_153 (Or.inr ⟨rfl, Nat.le_of_ble_eq_true rfl⟩) rfl rfl rfl (Nat.le_of_ble_eq_true rfl) flRX10_53 ?_
        refine V_getR (k := 10) dX10_reasonAgainstNextCommand_156 (Or.inr ⟨rfl, Nat.le_of_ble_eq_true rfl⟩) rfl rfl rfl (Nat.le_of_ble_eq_true rfl) flRX10_460 hT1.2.2.2.2.2.2.2.2.2.2.1 ?_
        refine V_callVF dX10_reasonAgainstNextCommand_159 (c_reasonAgainstRule (hR.keep hF1 (by unfold In45; omega) (by unfold In45; omega) (by unfold In45; omega)) (r := rl1) hT1.2.2.2.2.2.2.2.2.2.2.2) okX8_reasonAgainstRule lkRX10_162 (Or.inr ⟨rfl, Nat.le_of_ble_eq_true rfl⟩) rfl rfl rfl rfl (Nat.le_of_ble_eq_true rfl) ⟨Nat.le_of_ble_eq_true rfl, Nat.le_of_ble_eq_true rfl⟩ rfl ?_
        refine V_iret dX10_reasonAgainstNextCommand_162 rfl rfl ?_
        have eR : cmR t ((vbF l p).getD 0) (agC l ((vbF l p).getD 0) (vbP l p)) = (if t.2.1 = rl1 then 5 else 0) := by
          rw [hvb]
          have hf := hC2
          rw [hvb] at hf
          have h2 := hf.1 rfl
          have h3 := (rlN_ok hrl3).2
          rw [h2] at h3
          simp [cmR, h3]
        exact Or.inr ⟨hca, by rw [eR], ⟨_, _, _, _, _, _, _, _, hT1, hV1, hC2⟩, hF1⟩
      · have hcs := hC2
        refine V_aload_n (i := 0) dX10_reasonAgainstNextCommand_22 rfl rfl ?_
        refine V_getC (k := 7) (q := 45) dX10_reasonAgainstNextCommand_23 (Or.inr ⟨rfl, Nat.le_of_ble_eq_true rfl⟩) rfl rfl rfl (Nat.le_of_ble_eq_true rfl) flRX10_53 ?_
        refine V_getI (k := 4) dX10_reasonAgainstNextCommand_26 (Or.inr ⟨rfl, Nat.le_of_ble_eq_true rfl⟩) rfl rfl rfl (Nat.le_of_ble_eq_true rfl) flRX10_435 ?_
        refine V_top (y := nI ro1) hT1.2.2.2.2.1.1 ?_
        refine V_aload_n (i := 0) dX10_reasonAgainstNextCommand_29 rfl rfl ?_
        refine V_getC (k := 7) (q := 45) dX10_reasonAgainstNextCommand_30 (Or.inr ⟨rfl, Nat.le_of_ble_eq_true rfl⟩) rfl rfl rfl (Nat.le_of_ble_eq_true rfl) flRX10_53 ?_
        refine V_getI (k := 5) dX10_reasonAgainstNextCommand_33 (Or.inr ⟨rfl, Nat.le_of_ble_eq_true rfl⟩) rfl rfl rfl (Nat.le_of_ble_eq_true rfl) flRX10_438 ?_
        refine V_top (y := nI co1) hT1.2.2.2.2.2.1.1 ?_
        refine V_callSF dX10_reasonAgainstNextCommand_36 (c_cellNumber (r := ro1) (c := co1) (rfl) (rfl)) okX10_cellNumber lkRX10_82 rfl rfl (Nat.le_of_ble_eq_true rfl) ⟨Nat.le_of_ble_eq_true rfl, Nat.le_of_ble_eq_true rfl⟩ rfl ?_
        refine V_istore_n (i := 1) dX10_reasonAgainstNextCommand_39 rfl (Nat.le_of_ble_eq_true rfl) rfl rfl ?_
        refine V_gets dX10_reasonAgainstNextCommand_40 (List.mem_of_getElem? (i := 17) rfl) flRX10_441 ?_
        refine V_aload_n (i := 0) dX10_reasonAgainstNextCommand_43 rfl rfl ?_
        refine V_getC (k := 7) (q := 45) dX10_reasonAgainstNextCommand_44 (Or.inr ⟨rfl, Nat.le_of_ble_eq_true rfl⟩) rfl rfl rfl (Nat.le_of_ble_eq_true rfl) flRX10_53 ?_
        refine V_getR (k := 3) dX10_reasonAgainstNextCommand_47 (Or.inr ⟨rfl, Nat.le_of_ble_eq_true rfl⟩) rfl rfl rfl (Nat.le_of_ble_eq_true rfl) flRX10_447 hT1.2.2.2.1.1 ?_
        refine V_ordinal (dy := 0) dX10_reasonAgainstNextCommand_50 rfl hT1.2.2.2.1.2 (Nat.le_of_ble_eq_true rfl) (by decide) rfl ?_
        refine V_tiald dX10_reasonAgainstNextCommand_53 (List.mem_of_getElem? (i := 3) rfl) (in_n (by decide) (by decide)) (sw_get (by decide)) ?_
        refine V_tsOut (tgt := 163) dX10_reasonAgainstNextCommand_54 (Or.inl (by decide)) (by decide) ?_
        refine V_iconst_n (v := 0) dX10_reasonAgainstNextCommand_163 (by decide) ?_
        refine V_iret dX10_reasonAgainstNextCommand_164 rfl rfl ?_
        have eR : cmR t ((vbF l p).getD 0) (agC l ((vbF l p).getD 0) (vbP l p)) = 0 := by
          rw [hvb]
          have hf := hC2
          rw [hvb] at hf
          simp [cmR, ]
        exact Or.inr ⟨hca, by rw [eR], ⟨_, _, _, _, _, _, _, _, hT1, hV1, hC2⟩, hF1⟩
    · have ha9 := ite_f h17
      have hca : cmA ((vbF l p).getD 0) (agC l ((vbF l p).getD 0) (vbP l p)) = false := by rw [hvb]; rw [hvb] at hac; rw [← hac]; exact Bool.eq_false_iff.mpr ha9
      refine V_iconst_z (v := -1) dX10_reasonAgainstNextCommand_20 (by decide) ?_
      refine V_iret dX10_reasonAgainstNextCommand_21 rfl rfl ?_
      exact Or.inl ⟨hca, rfl, ⟨_, _, _, _, _, _, _, _, hT1⟩, hF1⟩
set_option maxRecDepth 100000 in
set_option maxHeartbeats 1000000 in
theorem c_carryOut {t : St} {c : Cmd} {l : List Nat} {p v ro co nu wl cq pt rl : Nat} {w : Wd} (hT : TxW w l p v ro co nu wl cq pt rl) (hR : Repr w 4 t) (hC2 : CmF c v ro co nu cq pt rl) (hca : cmA v c = true) (hr : cmR t v c = 0) : Ct 1 MX10_carryOutCommand 10 0 0 [.ref 0] w (Mt none fun w1 => Repr w1 4 (cmD t v c) ∧ Fr (fun b => InSt 4 b ∨ InSt 37 b) w w1) := by
  refine Ct_of (by decide +kernel) rfl (Nat.le_of_ble_eq_true rfl) rfl ?_
  have hl60 := hT.2.1.1
  have hp60 := hT.2.2.1.2
  have hv7 := hT.2.2.2.1.2
  have hro9 := hT.2.2.2.2.1.2
  have hco9 := hT.2.2.2.2.2.1.2
  have hnu9 := hT.2.2.2.2.2.2.1.2
  have hwl2 := hT.2.2.2.2.2.2.2.1.2
  have hcq9 := hT.2.2.2.2.2.2.2.2.1.2
  have hpt4 := hT.2.2.2.2.2.2.2.2.2.1.2
  have hrl3 := hT.2.2.2.2.2.2.2.2.2.2.2
  have hsg := @sg_le _ _ _ _ _ _ _ _ _ _ _ p hT
  refine V_aload_n (i := 0) dX10_carryOutCommand_0 rfl rfl ?_
  refine V_getC (k := 7) (q := 45) dX10_carryOutCommand_1 (Or.inr ⟨rfl, Nat.le_of_ble_eq_true rfl⟩) rfl rfl rfl (Nat.le_of_ble_eq_true rfl) flRX10_53 ?_
  refine V_getI (k := 4) dX10_carryOutCommand_4 (Or.inr ⟨rfl, Nat.le_of_ble_eq_true rfl⟩) rfl rfl rfl (Nat.le_of_ble_eq_true rfl) flRX10_435 ?_
  refine V_top (y := nI ro) hT.2.2.2.2.1.1 ?_
  refine V_aload_n (i := 0) dX10_carryOutCommand_7 rfl rfl ?_
  refine V_getC (k := 7) (q := 45) dX10_carryOutCommand_8 (Or.inr ⟨rfl, Nat.le_of_ble_eq_true rfl⟩) rfl rfl rfl (Nat.le_of_ble_eq_true rfl) flRX10_53 ?_
  refine V_getI (k := 5) dX10_carryOutCommand_11 (Or.inr ⟨rfl, Nat.le_of_ble_eq_true rfl⟩) rfl rfl rfl (Nat.le_of_ble_eq_true rfl) flRX10_438 ?_
  refine V_top (y := nI co) hT.2.2.2.2.2.1.1 ?_
  refine V_callSF dX10_carryOutCommand_14 (c_cellNumber (r := ro) (c := co) (rfl) (rfl)) okX10_cellNumber lkRX10_82 rfl rfl (Nat.le_of_ble_eq_true rfl) ⟨Nat.le_of_ble_eq_true rfl, Nat.le_of_ble_eq_true rfl⟩ rfl ?_
  refine V_istore_n (i := 1) dX10_carryOutCommand_17 rfl (Nat.le_of_ble_eq_true rfl) rfl rfl ?_
  rcases (show v = 0 ∨ v = 1 ∨ v = 2 ∨ v = 3 ∨ v = 4 ∨ v = 5 ∨ v = 6 by omega) with rfl | rfl | rfl | rfl | rfl | rfl | rfl
  · refine V_gets dX10_carryOutCommand_18 (List.mem_of_getElem? (i := 17) rfl) flRX10_441 ?_
    refine V_aload_n (i := 0) dX10_carryOutCommand_21 rfl rfl ?_
    refine V_getC (k := 7) (q := 45) dX10_carryOutCommand_22 (Or.inr ⟨rfl, Nat.le_of_ble_eq_true rfl⟩) rfl rfl rfl (Nat.le_of_ble_eq_true rfl) flRX10_53 ?_
    refine V_getR (k := 3) dX10_carryOutCommand_25 (Or.inr ⟨rfl, Nat.le_of_ble_eq_true rfl⟩) rfl rfl rfl (Nat.le_of_ble_eq_true rfl) flRX10_447 hT.2.2.2.1.1 ?_
    refine V_ordinal (dy := 0) dX10_carryOutCommand_28 rfl hT.2.2.2.1.2 (Nat.le_of_ble_eq_true rfl) (by decide) rfl ?_
    refine V_tiald dX10_carryOutCommand_31 (List.mem_of_getElem? (i := 3) rfl) (in_n (by decide) (by decide)) (sw_get (by decide)) ?_
    refine V_tsIn (tgt := 72) dX10_carryOutCommand_32 (by decide) (by decide) rfl (by decide) ?_
    have hf := hC2.2.2.1 (by decide)
    have hi8 : ro < 8 ∧ co < 8 := by have := of_decide_eq_true (show decide (c.1 < 8 ∧ c.2.1 < 8) = true from hca); omega
    have hcq2 := hC2.2.2.2.1 (Or.inl rfl)
    refine V_aload_n (i := 0) dX10_carryOutCommand_72 rfl rfl ?_
    refine V_getC (k := 1) (q := 4) dX10_carryOutCommand_73 (Or.inr ⟨rfl, Nat.le_of_ble_eq_true rfl⟩) rfl rfl rfl (Nat.le_of_ble_eq_true rfl) flRX10_16 ?_
    refine V_iload_n (i := 1) dX10_carryOutCommand_76 rfl rfl ?_
    refine V_aload_n (i := 0) dX10_carryOutCommand_77 rfl rfl ?_
    refine V_getC (k := 7) (q := 45) dX10_carryOutCommand_78 (Or.inr ⟨rfl, Nat.le_of_ble_eq_true rfl⟩) rfl rfl rfl (Nat.le_of_ble_eq_true rfl) flRX10_53 ?_
    refine V_getI (k := 8) dX10_carryOutCommand_81 (Or.inr ⟨rfl, Nat.le_of_ble_eq_true rfl⟩) rfl rfl rfl (Nat.le_of_ble_eq_true rfl) flRX10_461 ?_
    refine V_top (y := nI cq) hT.2.2.2.2.2.2.2.2.1.1 ?_
    refine V_callVM dX10_carryOutCommand_84 (c_putPlaced hR (k := (8 * ro + co)) (q := cq) (by omega) (by omega)) okX8_putPlaced lkRX10_97 (Or.inr ⟨rfl, Nat.le_of_ble_eq_true rfl⟩) rfl rfl rfl rfl (Nat.le_of_ble_eq_true rfl) ⟨Nat.le_of_ble_eq_true rfl, Nat.le_of_ble_eq_true rfl⟩ rfl ?_
    intro u1 hu1
    refine V_goto (tgt := 204) dX10_carryOutCommand_87 (by decide) ?_
    refine V_vret dX10_carryOutCommand_204 rfl ?_
    have eD : cmD t 0 c = (sCnt (sPut t (8 * ro + co) (10 + 10 * (cq - 97) + 0)) 1 (nI 1)) := by simp [cmD, ← hf.1, ← hf.2, ← hcq2]
    rw [eD]
    exact ⟨rfl, hu1.1, (hu1.2.mono fun b hb => Or.inl hb)⟩
  · refine V_gets dX10_carryOutCommand_18 (List.mem_of_getElem? (i := 17) rfl) flRX10_441 ?_
    refine V_aload_n (i := 0) dX10_carryOutCommand_21 rfl rfl ?_
    refine V_getC (k := 7) (q := 45) dX10_carryOutCommand_22 (Or.inr ⟨rfl, Nat.le_of_ble_eq_true rfl⟩) rfl rfl rfl (Nat.le_of_ble_eq_true rfl) flRX10_53 ?_
    refine V_getR (k := 3) dX10_carryOutCommand_25 (Or.inr ⟨rfl, Nat.le_of_ble_eq_true rfl⟩) rfl rfl rfl (Nat.le_of_ble_eq_true rfl) flRX10_447 hT.2.2.2.1.1 ?_
    refine V_ordinal (dy := 0) dX10_carryOutCommand_28 rfl hT.2.2.2.1.2 (Nat.le_of_ble_eq_true rfl) (by decide) rfl ?_
    refine V_tiald dX10_carryOutCommand_31 (List.mem_of_getElem? (i := 3) rfl) (in_n (by decide) (by decide)) (sw_get (by decide)) ?_
    refine V_tsIn (tgt := 90) dX10_carryOutCommand_32 (by decide) (by decide) rfl (by decide) ?_
    have hf := hC2.2.2.1 (by decide)
    have hi8 : ro < 8 ∧ co < 8 := by have := of_decide_eq_true (show decide (c.1 < 8 ∧ c.2.1 < 8) = true from hca); omega
    
    refine V_aload_n (i := 0) dX10_carryOutCommand_90 rfl rfl ?_
    refine V_getC (k := 1) (q := 4) dX10_carryOutCommand_91 (Or.inr ⟨rfl, Nat.le_of_ble_eq_true rfl⟩) rfl rfl rfl (Nat.le_of_ble_eq_true rfl) flRX10_16 ?_
    refine V_iload_n (i := 1) dX10_carryOutCommand_94 rfl rfl ?_
    refine V_callVM dX10_carryOutCommand_95 (c_takeRemoved hR (k := (8 * ro + co)) (by omega)) okX8_takeRemoved lkRX10_108 (Or.inr ⟨rfl, Nat.le_of_ble_eq_true rfl⟩) rfl rfl rfl rfl (Nat.le_of_ble_eq_true rfl) ⟨Nat.le_of_ble_eq_true rfl, Nat.le_of_ble_eq_true rfl⟩ rfl ?_
    intro u1 hu1
    refine V_goto (tgt := 204) dX10_carryOutCommand_98 (by decide) ?_
    refine V_vret dX10_carryOutCommand_204 rfl ?_
    have eD : cmD t 1 c = (sCnt (sPut t (8 * ro + co) 0) 2 (nI 1)) := by simp [cmD, ← hf.1, ← hf.2]
    rw [eD]
    exact ⟨rfl, hu1.1, (hu1.2.mono fun b hb => Or.inl hb)⟩
  · refine V_gets dX10_carryOutCommand_18 (List.mem_of_getElem? (i := 17) rfl) flRX10_441 ?_
    refine V_aload_n (i := 0) dX10_carryOutCommand_21 rfl rfl ?_
    refine V_getC (k := 7) (q := 45) dX10_carryOutCommand_22 (Or.inr ⟨rfl, Nat.le_of_ble_eq_true rfl⟩) rfl rfl rfl (Nat.le_of_ble_eq_true rfl) flRX10_53 ?_
    refine V_getR (k := 3) dX10_carryOutCommand_25 (Or.inr ⟨rfl, Nat.le_of_ble_eq_true rfl⟩) rfl rfl rfl (Nat.le_of_ble_eq_true rfl) flRX10_447 hT.2.2.2.1.1 ?_
    refine V_ordinal (dy := 0) dX10_carryOutCommand_28 rfl hT.2.2.2.1.2 (Nat.le_of_ble_eq_true rfl) (by decide) rfl ?_
    refine V_tiald dX10_carryOutCommand_31 (List.mem_of_getElem? (i := 3) rfl) (in_n (by decide) (by decide)) (sw_get (by decide)) ?_
    refine V_tsIn (tgt := 101) dX10_carryOutCommand_32 (by decide) (by decide) rfl (by decide) ?_
    have hf := hC2.2.2.1 (by decide)
    have hi8 : ro < 8 ∧ co < 8 := by have := of_decide_eq_true (show decide (c.1 < 8 ∧ c.2.1 < 8) = true from hca); omega
    
    refine V_aload_n (i := 0) dX10_carryOutCommand_101 rfl rfl ?_
    refine V_getC (k := 1) (q := 4) dX10_carryOutCommand_102 (Or.inr ⟨rfl, Nat.le_of_ble_eq_true rfl⟩) rfl rfl rfl (Nat.le_of_ble_eq_true rfl) flRX10_16 ?_
    refine V_iload_n (i := 1) dX10_carryOutCommand_105 rfl rfl ?_
    refine V_callVM dX10_carryOutCommand_106 (c_turnPale hR (k := (8 * ro + co)) (by omega)) okX8_turnPale lkRX10_118 (Or.inr ⟨rfl, Nat.le_of_ble_eq_true rfl⟩) rfl rfl rfl rfl (Nat.le_of_ble_eq_true rfl) ⟨Nat.le_of_ble_eq_true rfl, Nat.le_of_ble_eq_true rfl⟩ rfl ?_
    intro u1 hu1
    refine V_goto (tgt := 204) dX10_carryOutCommand_109 (by decide) ?_
    refine V_vret dX10_carryOutCommand_204 rfl ?_
    have eD : cmD t 2 c = (sCnt (sPut t (8 * ro + co) 1) 4 (nI 1)) := by simp [cmD, ← hf.1, ← hf.2]
    rw [eD]
    exact ⟨rfl, hu1.1, (hu1.2.mono fun b hb => Or.inl hb)⟩
  · refine V_gets dX10_carryOutCommand_18 (List.mem_of_getElem? (i := 17) rfl) flRX10_441 ?_
    refine V_aload_n (i := 0) dX10_carryOutCommand_21 rfl rfl ?_
    refine V_getC (k := 7) (q := 45) dX10_carryOutCommand_22 (Or.inr ⟨rfl, Nat.le_of_ble_eq_true rfl⟩) rfl rfl rfl (Nat.le_of_ble_eq_true rfl) flRX10_53 ?_
    refine V_getR (k := 3) dX10_carryOutCommand_25 (Or.inr ⟨rfl, Nat.le_of_ble_eq_true rfl⟩) rfl rfl rfl (Nat.le_of_ble_eq_true rfl) flRX10_447 hT.2.2.2.1.1 ?_
    refine V_ordinal (dy := 0) dX10_carryOutCommand_28 rfl hT.2.2.2.1.2 (Nat.le_of_ble_eq_true rfl) (by decide) rfl ?_
    refine V_tiald dX10_carryOutCommand_31 (List.mem_of_getElem? (i := 3) rfl) (in_n (by decide) (by decide)) (sw_get (by decide)) ?_
    refine V_tsIn (tgt := 112) dX10_carryOutCommand_32 (by decide) (by decide) rfl (by decide) ?_
    have hf := hC2.2.2.1 (by decide)
    have hi8 : ro < 8 ∧ co < 8 := by have := of_decide_eq_true (show decide (c.1 < 8 ∧ c.2.1 < 8) = true from hca); omega
    have hcq2 := hC2.2.2.2.1 (Or.inr rfl)
    have hr2 : rsA (t.1 (8 * ro + co)) = 0 := by rw [hf.1, hf.2]; exact hr
    have hlv : 10 ≤ t.1 (8 * ro + co) := by unfold rsA at hr2; grind
    refine V_aload_n (i := 0) dX10_carryOutCommand_112 rfl rfl ?_
    refine V_getC (k := 1) (q := 4) dX10_carryOutCommand_113 (Or.inr ⟨rfl, Nat.le_of_ble_eq_true rfl⟩) rfl rfl rfl (Nat.le_of_ble_eq_true rfl) flRX10_16 ?_
    refine V_iload_n (i := 1) dX10_carryOutCommand_116 rfl rfl ?_
    refine V_aload_n (i := 0) dX10_carryOutCommand_117 rfl rfl ?_
    refine V_getC (k := 7) (q := 45) dX10_carryOutCommand_118 (Or.inr ⟨rfl, Nat.le_of_ble_eq_true rfl⟩) rfl rfl rfl (Nat.le_of_ble_eq_true rfl) flRX10_53 ?_
    refine V_getI (k := 8) dX10_carryOutCommand_121 (Or.inr ⟨rfl, Nat.le_of_ble_eq_true rfl⟩) rfl rfl rfl (Nat.le_of_ble_eq_true rfl) flRX10_461 ?_
    refine V_top (y := nI cq) hT.2.2.2.2.2.2.2.2.1.1 ?_
    refine V_callVM dX10_carryOutCommand_124 (c_paint hR (k := (8 * ro + co)) (q := cq) (by omega) (by omega) (by omega)) okX8_paint lkRX10_125 (Or.inr ⟨rfl, Nat.le_of_ble_eq_true rfl⟩) rfl rfl rfl rfl (Nat.le_of_ble_eq_true rfl) ⟨Nat.le_of_ble_eq_true rfl, Nat.le_of_ble_eq_true rfl⟩ rfl ?_
    intro u1 hu1
    refine V_goto (tgt := 204) dX10_carryOutCommand_127 (by decide) ?_
    refine V_vret dX10_carryOutCommand_204 rfl ?_
    have eD : cmD t 3 c = (sPut t (8 * ro + co) (10 + 10 * (cq - 97) + ag (t.1 (8 * ro + co)))) := by simp [cmD, ← hf.1, ← hf.2, ← hcq2]
    rw [eD]
    exact ⟨rfl, hu1.1, (hu1.2.mono fun b hb => Or.inl hb)⟩
  · refine V_gets dX10_carryOutCommand_18 (List.mem_of_getElem? (i := 17) rfl) flRX10_441 ?_
    refine V_aload_n (i := 0) dX10_carryOutCommand_21 rfl rfl ?_
    refine V_getC (k := 7) (q := 45) dX10_carryOutCommand_22 (Or.inr ⟨rfl, Nat.le_of_ble_eq_true rfl⟩) rfl rfl rfl (Nat.le_of_ble_eq_true rfl) flRX10_53 ?_
    refine V_getR (k := 3) dX10_carryOutCommand_25 (Or.inr ⟨rfl, Nat.le_of_ble_eq_true rfl⟩) rfl rfl rfl (Nat.le_of_ble_eq_true rfl) flRX10_447 hT.2.2.2.1.1 ?_
    refine V_ordinal (dy := 0) dX10_carryOutCommand_28 rfl hT.2.2.2.1.2 (Nat.le_of_ble_eq_true rfl) (by decide) rfl ?_
    refine V_tiald dX10_carryOutCommand_31 (List.mem_of_getElem? (i := 3) rfl) (in_n (by decide) (by decide)) (sw_get (by decide)) ?_
    refine V_tsIn (tgt := 130) dX10_carryOutCommand_32 (by decide) (by decide) rfl (by decide) ?_
    have hf := hC2.2.2.1 (by decide)
    have hi8 : ro < 8 ∧ co < 8 := by have := of_decide_eq_true (show decide (c.1 < 8 ∧ c.2.1 < 8) = true from hca); omega
    have hcq2 := hC2.2.2.2.2 rfl
    have hp3 := (ptL_isP hpt4).2
    rw [hcq2.1] at hp3
    have hr2 : rsL t pt ro co = 0 := by rw [← hp3, hf.1, hf.2]; exact hr
    have hall : allin pt ro co = true := Decidable.by_contra fun q => by have : rsL t pt ro co = 4 := if_neg q; omega
    have hin := allin_iff.mp hall
    refine V_aload_n (i := 0) dX10_carryOutCommand_130 rfl rfl ?_
    refine V_getC (k := 1) (q := 4) dX10_carryOutCommand_131 (Or.inr ⟨rfl, Nat.le_of_ble_eq_true rfl⟩) rfl rfl rfl (Nat.le_of_ble_eq_true rfl) flRX10_16 ?_
    refine V_aload_n (i := 0) dX10_carryOutCommand_134 rfl rfl ?_
    refine V_getC (k := 7) (q := 45) dX10_carryOutCommand_135 (Or.inr ⟨rfl, Nat.le_of_ble_eq_true rfl⟩) rfl rfl rfl (Nat.le_of_ble_eq_true rfl) flRX10_53 ?_
    refine V_getI (k := 4) dX10_carryOutCommand_138 (Or.inr ⟨rfl, Nat.le_of_ble_eq_true rfl⟩) rfl rfl rfl (Nat.le_of_ble_eq_true rfl) flRX10_435 ?_
    refine V_top (y := nI ro) hT.2.2.2.2.1.1 ?_
    refine V_aload_n (i := 0) dX10_carryOutCommand_141 rfl rfl ?_
    refine V_getC (k := 7) (q := 45) dX10_carryOutCommand_142 (Or.inr ⟨rfl, Nat.le_of_ble_eq_true rfl⟩) rfl rfl rfl (Nat.le_of_ble_eq_true rfl) flRX10_53 ?_
    refine V_getI (k := 5) dX10_carryOutCommand_145 (Or.inr ⟨rfl, Nat.le_of_ble_eq_true rfl⟩) rfl rfl rfl (Nat.le_of_ble_eq_true rfl) flRX10_438 ?_
    refine V_top (y := nI co) hT.2.2.2.2.2.1.1 ?_
    refine V_aload_n (i := 0) dX10_carryOutCommand_148 rfl rfl ?_
    refine V_getC (k := 7) (q := 45) dX10_carryOutCommand_149 (Or.inr ⟨rfl, Nat.le_of_ble_eq_true rfl⟩) rfl rfl rfl (Nat.le_of_ble_eq_true rfl) flRX10_53 ?_
    refine V_getR (k := 9) dX10_carryOutCommand_152 (Or.inr ⟨rfl, Nat.le_of_ble_eq_true rfl⟩) rfl rfl rfl (Nat.le_of_ble_eq_true rfl) flRX10_456 hT.2.2.2.2.2.2.2.2.2.1.1 ?_
    refine V_aload_n (i := 0) dX10_carryOutCommand_155 rfl rfl ?_
    refine V_getC (k := 7) (q := 45) dX10_carryOutCommand_156 (Or.inr ⟨rfl, Nat.le_of_ble_eq_true rfl⟩) rfl rfl rfl (Nat.le_of_ble_eq_true rfl) flRX10_53 ?_
    refine V_getI (k := 8) dX10_carryOutCommand_159 (Or.inr ⟨rfl, Nat.le_of_ble_eq_true rfl⟩) rfl rfl rfl (Nat.le_of_ble_eq_true rfl) flRX10_461 ?_
    refine V_top (y := nI cq) hT.2.2.2.2.2.2.2.2.1.1 ?_
    refine V_callVM dX10_carryOutCommand_162 (c_putPattern hR (p := pt) (r := ro) (c := co) (q := cq) hT.2.2.2.2.2.2.2.2.2.1.2 (by omega) (by omega) (by omega) hin) okX8_putPattern lkRX10_152 (Or.inr ⟨rfl, Nat.le_of_ble_eq_true rfl⟩) rfl rfl rfl rfl (Nat.le_of_ble_eq_true rfl) ⟨Nat.le_of_ble_eq_true rfl, Nat.le_of_ble_eq_true rfl⟩ rfl ?_
    intro u1 hu1
    refine V_goto (tgt := 204) dX10_carryOutCommand_165 (by decide) ?_
    refine V_vret dX10_carryOutCommand_204 rfl ?_
    have eD : cmD t 4 c = (plt t pt ro co cq (psz pt)) := by simp [cmD, ← hf.1, ← hf.2, hp3, ← hcq2.2]
    rw [eD]
    exact ⟨rfl, hu1.1, (hu1.2.mono fun b hb => Or.inl hb)⟩
  · refine V_gets dX10_carryOutCommand_18 (List.mem_of_getElem? (i := 17) rfl) flRX10_441 ?_
    refine V_aload_n (i := 0) dX10_carryOutCommand_21 rfl rfl ?_
    refine V_getC (k := 7) (q := 45) dX10_carryOutCommand_22 (Or.inr ⟨rfl, Nat.le_of_ble_eq_true rfl⟩) rfl rfl rfl (Nat.le_of_ble_eq_true rfl) flRX10_53 ?_
    refine V_getR (k := 3) dX10_carryOutCommand_25 (Or.inr ⟨rfl, Nat.le_of_ble_eq_true rfl⟩) rfl rfl rfl (Nat.le_of_ble_eq_true rfl) flRX10_447 hT.2.2.2.1.1 ?_
    refine V_ordinal (dy := 0) dX10_carryOutCommand_28 rfl hT.2.2.2.1.2 (Nat.le_of_ble_eq_true rfl) (by decide) rfl ?_
    refine V_tiald dX10_carryOutCommand_31 (List.mem_of_getElem? (i := 3) rfl) (in_n (by decide) (by decide)) (sw_get (by decide)) ?_
    refine V_tsIn (tgt := 168) dX10_carryOutCommand_32 (by decide) (by decide) rfl (by decide) ?_
    have hf := hC2.1 rfl
    have hp3 := (rlN_ok hrl3).2
    rw [hf] at hp3
    refine V_aload_n (i := 0) dX10_carryOutCommand_168 rfl rfl ?_
    refine V_getC (k := 1) (q := 4) dX10_carryOutCommand_169 (Or.inr ⟨rfl, Nat.le_of_ble_eq_true rfl⟩) rfl rfl rfl (Nat.le_of_ble_eq_true rfl) flRX10_16 ?_
    refine V_aload_n (i := 0) dX10_carryOutCommand_172 rfl rfl ?_
    refine V_getC (k := 7) (q := 45) dX10_carryOutCommand_173 (Or.inr ⟨rfl, Nat.le_of_ble_eq_true rfl⟩) rfl rfl rfl (Nat.le_of_ble_eq_true rfl) flRX10_53 ?_
    refine V_getR (k := 10) dX10_carryOutCommand_176 (Or.inr ⟨rfl, Nat.le_of_ble_eq_true rfl⟩) rfl rfl rfl (Nat.le_of_ble_eq_true rfl) flRX10_460 hT.2.2.2.2.2.2.2.2.2.2.1 ?_
    refine V_putR (k := 2) (ty := tyX8 2) dX10_carryOutCommand_179 (Or.inr ⟨rfl, Nat.le_of_ble_eq_true rfl⟩) rfl rfl rfl (Nat.le_of_ble_eq_true rfl) flRX10_173 (Or.inl rfl) (by decide +kernel) (fun _ => rfl) (fun _ => rfl) ?_
    refine V_goto (tgt := 204) dX10_carryOutCommand_182 (by decide) ?_
    refine V_vret dX10_carryOutCommand_204 rfl ?_
    have eD : cmD t 5 c = (t.1, rl, t.2.2) := by simp [cmD, hp3]
    rw [eD]
    exact ⟨rfl, (hR.rule hrl3), ((Fr.nil.r1 (Or.inl (by unfold InSt; omega))))⟩
  · refine V_gets dX10_carryOutCommand_18 (List.mem_of_getElem? (i := 17) rfl) flRX10_441 ?_
    refine V_aload_n (i := 0) dX10_carryOutCommand_21 rfl rfl ?_
    refine V_getC (k := 7) (q := 45) dX10_carryOutCommand_22 (Or.inr ⟨rfl, Nat.le_of_ble_eq_true rfl⟩) rfl rfl rfl (Nat.le_of_ble_eq_true rfl) flRX10_53 ?_
    refine V_getR (k := 3) dX10_carryOutCommand_25 (Or.inr ⟨rfl, Nat.le_of_ble_eq_true rfl⟩) rfl rfl rfl (Nat.le_of_ble_eq_true rfl) flRX10_447 hT.2.2.2.1.1 ?_
    refine V_ordinal (dy := 0) dX10_carryOutCommand_28 rfl hT.2.2.2.1.2 (Nat.le_of_ble_eq_true rfl) (by decide) rfl ?_
    refine V_tiald dX10_carryOutCommand_31 (List.mem_of_getElem? (i := 3) rfl) (in_n (by decide) (by decide)) (sw_get (by decide)) ?_
    refine V_tsOut (tgt := 185) dX10_carryOutCommand_32 (Or.inl (by decide)) (by decide) ?_
    have hf := hC2.2.1 rfl
    have hn9 : 1 ≤ c.1 ∧ c.1 ≤ 20 := of_decide_eq_true hca
    refine V_aload_n (i := 0) dX10_carryOutCommand_185 rfl rfl ?_
    refine V_getC (k := 4) (q := 36) dX10_carryOutCommand_186 (Or.inr ⟨rfl, Nat.le_of_ble_eq_true rfl⟩) rfl rfl rfl (Nat.le_of_ble_eq_true rfl) flRX10_32 ?_
    refine V_aload_n (i := 0) dX10_carryOutCommand_189 rfl rfl ?_
    refine V_getC (k := 1) (q := 4) dX10_carryOutCommand_190 (Or.inr ⟨rfl, Nat.le_of_ble_eq_true rfl⟩) rfl rfl rfl (Nat.le_of_ble_eq_true rfl) flRX10_16 ?_
    refine V_aload_n (i := 0) dX10_carryOutCommand_193 rfl rfl ?_
    refine V_getC (k := 7) (q := 45) dX10_carryOutCommand_194 (Or.inr ⟨rfl, Nat.le_of_ble_eq_true rfl⟩) rfl rfl rfl (Nat.le_of_ble_eq_true rfl) flRX10_53 ?_
    refine V_getI (k := 6) dX10_carryOutCommand_197 (Or.inr ⟨rfl, Nat.le_of_ble_eq_true rfl⟩) rfl rfl rfl (Nat.le_of_ble_eq_true rfl) flRX10_465 ?_
    refine V_top (y := nI nu) hT.2.2.2.2.2.2.1.1 ?_
    refine V_callVM dX10_carryOutCommand_200 (c_passSeveral hR (n := nu) (by decide) (by omega)) okX7_passSeveral lkRX10_216 (Or.inr ⟨rfl, Nat.le_of_ble_eq_true rfl⟩) rfl rfl rfl rfl (Nat.le_of_ble_eq_true rfl) ⟨Nat.le_of_ble_eq_true rfl, Nat.le_of_ble_eq_true rfl⟩ rfl ?_
    intro u1 hu1
    refine V_pop dX10_carryOutCommand_203 rfl ?_
    refine V_vret dX10_carryOutCommand_204 rfl ?_
    have eD : cmD t 6 c = (tideN t nu) := by simp [cmD, ← hf]
    rw [eD]
    exact ⟨rfl, hu1.1, hu1.2⟩
theorem ptN_lt {x : Nat} : ptN x < 4 := by unfold ptN; split <;> (try split) <;> (try split) <;> omega
theorem cmD_keeps {s : St} {v : Nat} {c : Cmd} (hB : Bal s) (hok : ∀ k, k < 64 → okc (s.1 k)) (hv : v < 7) (ha : cmA v c = true) (hr : cmR s v c = 0) : Bal (cmD s v c) := by
  rcases (show v = 0 ∨ v = 1 ∨ v = 2 ∨ v = 3 ∨ v = 4 ∨ v = 5 ∨ v = 6 by omega) with rfl | rfl | rfl | rfl | rfl | rfl | rfl
  · have h8 := of_decide_eq_true (show decide (c.1 < 8 ∧ c.2.1 < 8) = true from ha)
    have h0 : s.1 (8 * c.1 + c.2.1) = 0 := Decidable.by_contra fun q => by have : rsP (s.1 (8 * c.1 + c.2.1)) = 1 := if_neg q; have h2 : rsP (s.1 (8 * c.1 + c.2.1)) = 0 := hr; omega
    exact hB.placed (by omega) h0 (by omega)
  · have h8 := of_decide_eq_true (show decide (c.1 < 8 ∧ c.2.1 < 8) = true from ha)
    have h0 : ¬ s.1 (8 * c.1 + c.2.1) = 0 := fun q => by have : rsR (s.1 (8 * c.1 + c.2.1)) = 2 := if_pos q; have h2 : rsR (s.1 (8 * c.1 + c.2.1)) = 0 := hr; omega
    exact hB.removed (by omega) h0
  · have h8 := of_decide_eq_true (show decide (c.1 < 8 ∧ c.2.1 < 8) = true from ha)
    have h0 : ¬ s.1 (8 * c.1 + c.2.1) = 0 := fun q => by have : rsA (s.1 (8 * c.1 + c.2.1)) = 2 := if_pos q; have h2 : rsA (s.1 (8 * c.1 + c.2.1)) = 0 := hr; omega
    exact hB.pale (by omega) h0
  · have h8 := of_decide_eq_true (show decide (c.1 < 8 ∧ c.2.1 < 8) = true from ha)
    have h0 : ¬ s.1 (8 * c.1 + c.2.1) = 0 := fun q => by have : rsA (s.1 (8 * c.1 + c.2.1)) = 2 := if_pos q; have h2 : rsA (s.1 (8 * c.1 + c.2.1)) = 0 := hr; omega
    exact hB.same (by omega) h0 (by omega)
  · have h2 : rsL s (ptN c.2.2.1) c.1 c.2.1 = 0 := hr
    have hall : allin (ptN c.2.2.1) c.1 c.2.1 = true := Decidable.by_contra fun q => by have : rsL s (ptN c.2.2.1) c.1 c.2.1 = 4 := if_neg q; omega
    have hin := allin_iff.mp hall
    have h3 : fti s.1 (ptN c.2.2.1) c.1 c.2.1 < 0 := by unfold rsL at h2; rw [if_pos hall] at h2; exact Decidable.by_contra fun q => by rw [if_neg q] at h2; omega
    exact hB.plt ptN_lt hin (fti_neg h3) _ (Nat.le_refl _)
  · exact hB
  · exact hB.tideN hok _
def CJ (w : Wd) (S : Sys) : Prop := ciR w S.1 ∧ ciH w S.2.1 ∧ ciN w S.2.2.1.2 ∧ ciO w S.2.2.2.1 ∧ ci0 w S.2.2.1.1 S.2.2.2.2.2.1 S.2.2.2.2.2.2
theorem cmV_lt {l : List Nat} {n : Nat} : cmV l n < 7 := by
  unfold cmV
  cases h : vbF l (cmB l n) with
  | none => decide
  | some k => exact (lkF_some 7 h).1
set_option maxRecDepth 100000 in
set_option maxHeartbeats 1000000 in
theorem c_execute {S : Sys} {w : Wd} (hC : CI w S) : Ct 1 MX10_execute 13 4 24 [.ref 0] w (fun o w1 => ∃ R : Res, ExR S R ∧ Out3 ["java/lang/IllegalArgumentException", "java/lang/IllegalStateException", "java/lang/UnsupportedOperationException"] R o ∧ CI w1 R.2.2 ∧ Fr InC w w1) := by
  refine Ct_of (by decide +kernel) rfl (Nat.le_of_ble_eq_true rfl) rfl ?_
  obtain ⟨p0, v0, ro0, co0, nu0, wl0, cq0, pt0, rl0, hT⟩ := hC.2.2.2.2.1
  refine V_aload_n (i := 0) dX10_execute_0 rfl rfl ?_
  refine V_getC (k := 7) (q := 45) dX10_execute_1 (Or.inr ⟨rfl, Nat.le_of_ble_eq_true rfl⟩) rfl rfl rfl (Nat.le_of_ble_eq_true rfl) flRX10_53 ?_
  refine V_callV dX10_execute_4 (c_countCommands hT) okX1_countCommands lkRX10_347 (Or.inr ⟨rfl, Nat.le_of_ble_eq_true rfl⟩) rfl rfl rfl rfl (Nat.le_of_ble_eq_true rfl) ⟨Nat.le_of_ble_eq_true rfl, Nat.le_of_ble_eq_true rfl⟩ rfl ⟨Nat.zero_le _, Nat.zero_le _⟩ (fun v9 u1 hu1 => ?_) (fun E9 w9 h9 => by rcases h9 with ⟨e9x, h9⟩ | ⟨n, h9⟩ <;> cases h9.2.1)
  rcases hu1 with ⟨e9x, hu1f, e9, hu1⟩ | ⟨n, hu1f, e9, hu1⟩
  · cases e9
    have hNF := hu1f
    obtain ⟨⟨v1, ro1, co1, nu1, wl1, cq1, pt1, rl1, hT1⟩, hF1⟩ := hu1
    have he60 := hT1.2.2.1.2
    refine V_istore_n (i := 1) dX10_execute_7 rfl (Nat.le_of_ble_eq_true rfl) rfl rfl ?_
    refine V_iload_n (i := 1) dX10_execute_8 rfl rfl ?_
    refine V_if_ge_z (tgt := 41) dX10_execute_9 (by decide) rfl (by omega) (by omega) (fun h9 => by exfalso; omega) (fun h9 => ?_)
    refine V_aload_n (i := 0) dX10_execute_12 rfl rfl ?_
    refine V_aload_n (i := 0) dX10_execute_13 rfl rfl ?_
    refine V_getC (k := 7) (q := 45) dX10_execute_14 (Or.inr ⟨rfl, Nat.le_of_ble_eq_true rfl⟩) rfl rfl rfl (Nat.le_of_ble_eq_true rfl) flRX10_53 ?_
    refine V_getI (k := 2) dX10_execute_17 (Or.inr ⟨rfl, Nat.le_of_ble_eq_true rfl⟩) rfl rfl rfl (Nat.le_of_ble_eq_true rfl) flRX10_350 ?_
    refine V_top (y := nI e9x) hT1.2.2.1.1 ?_
    refine V_putI (k := 9) (ty := .int) dX10_execute_20 (Or.inr ⟨rfl, Nat.le_of_ble_eq_true rfl⟩) rfl rfl rfl (Nat.le_of_ble_eq_true rfl) flRX10_61 rfl (by decide +kernel) rfl rfl ?_
    refine V_aload_n (i := 0) dX10_execute_23 rfl rfl ?_
    refine V_getC (k := 7) (q := 45) dX10_execute_24 (Or.inr ⟨rfl, Nat.le_of_ble_eq_true rfl⟩) rfl rfl rfl (Nat.le_of_ble_eq_true rfl) flRX10_53 ?_
    refine V_callVM dX10_execute_27 (c_tempty (hT1.keep (show Fr In0 _ _ from Fr.nil.i1 rfl) (by unfold In0; omega) (by unfold In0; omega))) okX1_empty lkRX10_353 (Or.inr ⟨rfl, Nat.le_of_ble_eq_true rfl⟩) rfl rfl rfl rfl (Nat.le_of_ble_eq_true rfl) ⟨Nat.le_of_ble_eq_true rfl, Nat.le_of_ble_eq_true rfl⟩ rfl ?_
    intro u2 hu2
    refine V_throwW dX10_execute_30 dX10_execute_33 dX10_execute_34 dX10_execute_37 dX10_execute_40 thr_IAE (List.mem_of_getElem? (i := 34) rfl) rfl (Nat.le_of_ble_eq_true rfl) (by decide) (by decide) ?_
    exact ⟨_, Or.inl ⟨e9x, hNF, rfl⟩, Or.inr ⟨Nat.le_of_ble_eq_true rfl, rfl⟩, ⟨(((hC.1.keep hF1 (fun b hb => by unfold In45; omega)).keep (show Fr In0 _ _ from Fr.nil.i1 rfl) (fun b hb => by unfold In0; omega)).keep hu2.2 (fun b hb => by unfold In45; omega)), (((hC.2.1.keep hF1 (fun b hb => by unfold In45; omega)).keep (show Fr In0 _ _ from Fr.nil.i1 rfl) (fun b hb => by unfold In0; omega)).keep hu2.2 (fun b hb => by unfold In45; omega)), (((hC.2.2.1.keep hF1 (fun b hb => by unfold In45; omega)).keep (show Fr In0 _ _ from Fr.nil.i1 rfl) (fun b hb => by unfold In0; omega)).keep hu2.2 (fun b hb => by unfold In45; omega)), (((hC.2.2.2.1.keep hF1 (fun b hb => by unfold In45; omega)).keep (show Fr In0 _ _ from Fr.nil.i1 rfl) (fun b hb => by unfold In0; omega)).keep hu2.2 (fun b hb => by unfold In45; omega)), (show ciT u2 [] from ⟨_, _, _, _, _, _, _, _, _, hu2.1⟩), ((show ci0 _ S.2.2.1.1 (e9x : Int) S.2.2.2.2.2.2 from ⟨⟨pI_ne (by omega) (hC.2.2.2.2.2.keep hF1 (fun b hb => by unfold In45; omega)).1.1, (hC.2.2.2.2.2.keep hF1 (fun b hb => by unfold In45; omega)).1.2⟩, ⟨pI_at.trans (zI_n _), by omega, by omega⟩, ⟨pI_ne (by omega) (hC.2.2.2.2.2.keep hF1 (fun b hb => by unfold In45; omega)).2.2.1.1, (hC.2.2.2.2.2.keep hF1 (fun b hb => by unfold In45; omega)).2.2.1.2⟩, pI_ne (by omega) (hC.2.2.2.2.2.keep hF1 (fun b hb => by unfold In45; omega)).2.2.2.1, ⟨pI_ne (by omega) (hC.2.2.2.2.2.keep hF1 (fun b hb => by unfold In45; omega)).2.2.2.2.1.1, (hC.2.2.2.2.2.keep hF1 (fun b hb => by unfold In45; omega)).2.2.2.2.1.2⟩, (hC.2.2.2.2.2.keep hF1 (fun b hb => by unfold In45; omega)).2.2.2.2.2⟩).keep hu2.2 (fun b hb => by unfold In45; omega))⟩, (((hF1.mono (fun b hb => by unfold In45 at hb; unfold InC; omega)).i1 (show InC 0 from by unfold InC; omega)).trans (hu2.2.mono (fun b hb => by unfold In45 at hb; unfold InC; omega)))⟩
  · cases e9
    have hNC := hu1f.1
    have hn60 := hu1f.2
    obtain ⟨⟨p1, v1, ro1, co1, nu1, wl1, cq1, pt1, rl1, hT1⟩, hF1⟩ := hu1
    have hGn : ∀ j, j < n → cmG S.2.2.2.2.1 (cmB S.2.2.2.2.1 j) = true := fun j hj => (Decidable.em (j = n - 1)).elim (fun e => by rw [e]; exact hNC.2.2.1) (fun e => (hNC.2.1 j (by omega)).1)
    refine V_istore_n (i := 1) dX10_execute_7 rfl (Nat.le_of_ble_eq_true rfl) rfl rfl ?_
    refine V_iload_n (i := 1) dX10_execute_8 rfl rfl ?_
    refine V_if_ge_n (tgt := 41) dX10_execute_9 (by decide) (by omega) ?_
    refine V_aload_n (i := 0) dX10_execute_41 rfl rfl ?_
    refine V_getC (k := 1) (q := 4) dX10_execute_42 (Or.inr ⟨rfl, Nat.le_of_ble_eq_true rfl⟩) rfl rfl rfl (Nat.le_of_ble_eq_true rfl) flRX10_16 ?_
    refine V_aload_n (i := 0) dX10_execute_45 rfl rfl ?_
    refine V_getC (k := 0) (q := 1) dX10_execute_46 (Or.inr ⟨rfl, Nat.le_of_ble_eq_true rfl⟩) rfl rfl rfl (Nat.le_of_ble_eq_true rfl) flRX10_10 ?_
    refine V_callVM dX10_execute_49 (c_copyFrom st_4 (hC.1.keep hF1 (fun b hb => by unfold In45; omega)).1 (by decide)) okX8_copyFrom lkRX10_226 (Or.inr ⟨rfl, Nat.le_of_ble_eq_true rfl⟩) rfl rfl rfl rfl (Nat.le_of_ble_eq_true rfl) ⟨Nat.le_of_ble_eq_true rfl, Nat.le_of_ble_eq_true rfl⟩ rfl ?_
    intro u2 hu2
    refine V_aload_n (i := 0) dX10_execute_52 rfl rfl ?_
    refine V_getC (k := 7) (q := 45) dX10_execute_53 (Or.inr ⟨rfl, Nat.le_of_ble_eq_true rfl⟩) rfl rfl rfl (Nat.le_of_ble_eq_true rfl) flRX10_53 ?_
    refine V_callVM dX10_execute_56 (c_rewind (hT1.keep hu2.2 (by unfold InSt; omega) (by unfold InSt; omega))) okX1_rewind lkRX10_356 (Or.inr ⟨rfl, Nat.le_of_ble_eq_true rfl⟩) rfl rfl rfl rfl (Nat.le_of_ble_eq_true rfl) ⟨Nat.le_of_ble_eq_true rfl, Nat.le_of_ble_eq_true rfl⟩ rfl ?_
    intro u3 hu3
    refine V_iconst_n (v := 0) dX10_execute_59 (by decide) ?_
    refine V_istore_n (i := 2) dX10_execute_60 rfl (Nat.le_of_ble_eq_true rfl) rfl rfl ?_
    refine V_iconst_n (v := 0) dX10_execute_61 (by decide) ?_
    refine V_istore_n (i := 3) dX10_execute_62 rfl (Nat.le_of_ble_eq_true rfl) rfl rfl ?_
    refine V_iconst_n (v := 0) dX10_execute_63 (by decide) ?_
    refine V_istore dX10_execute_64 (Nat.le_of_ble_eq_true rfl) rfl rfl ?_
    have lp : ∀ (fu i : Nat) (w1 : Wd), i ≤ n → n - i < fu → (∃ v ro co nu wl cq pt rl : Nat, TxW w1 S.2.2.2.2.1 (cmB S.2.2.2.2.1 i) v ro co nu wl cq pt rl) → CJ w1 S → Repr w1 4 (cmS S.2.2.2.2.1 S.1 i) → Bal (cmS S.2.2.2.2.1 S.1 i) → (∀ j, j < i → cmK S.2.2.2.2.1 S.1 j = true) → Fr InC w w1 → V 1 MX10_execute 13 4 24 (fun o w1 => ∃ R : Res, ExR S R ∧ Out3 ["java/lang/IllegalArgumentException", "java/lang/IllegalStateException", "java/lang/UnsupportedOperationException"] R o ∧ CI w1 R.2.2 ∧ Fr InC w w1) (fun _ _ => True) 4 24 66 [some (.ref 0), some (.int (nI n)), some (.int (nI 0)), none, some (.int (nI i))] [] w1 := by
      intro fu
      induction fu with
      | zero => intro i w1 h1 h2; omega
      | succ fu ih =>
        intro i w1 hib hfu hT9 hJ8 hR4 hB4 hKs hF8
        obtain ⟨v8, ro8, co8, nu8, wl8, cq8, pt8, rl8, hT8⟩ := hT9
        refine V_iload dX10_execute_66 rfl ?_
        refine V_iload_n (i := 1) dX10_execute_68 rfl rfl ?_
        refine V_icmp_ge_n (tgt := 98) dX10_execute_69 (by decide) (by omega) (by omega) (fun h69 => ?_) (fun h69 => ?_)
        · refine V_aload_n (i := 0) dX10_execute_98 rfl rfl ?_
          refine V_getC (k := 7) (q := 45) dX10_execute_99 (Or.inr ⟨rfl, Nat.le_of_ble_eq_true rfl⟩) rfl rfl rfl (Nat.le_of_ble_eq_true rfl) flRX10_53 ?_
          refine V_callVM dX10_execute_102 (c_tempty hT8) okX1_empty lkRX10_353 (Or.inr ⟨rfl, Nat.le_of_ble_eq_true rfl⟩) rfl rfl rfl rfl (Nat.le_of_ble_eq_true rfl) ⟨Nat.le_of_ble_eq_true rfl, Nat.le_of_ble_eq_true rfl⟩ rfl ?_
          intro u1 hu1
          refine V_iload_n (i := 2) dX10_execute_105 rfl rfl ?_
          refine V_iconst_z (v := -1) dX10_execute_106 (by decide) ?_
          refine V_icmp_ne_z (tgt := 121) dX10_execute_107 (by decide) (zI_n _) rfl (by omega) (by omega) (by omega) (by omega) (fun h107 => ?_) (fun h107 => by exfalso; omega)
          refine V_iload_n (i := 2) dX10_execute_121 rfl rfl ?_
          refine V_if_eq_n (tgt := 144) dX10_execute_122 (by decide) (by omega) (fun h122 => ?_) (fun h122 => by exfalso; omega)
          refine V_aload_n (i := 0) dX10_execute_144 rfl rfl ?_
          refine V_getC (k := 3) (q := 10) dX10_execute_145 (Or.inr ⟨rfl, Nat.le_of_ble_eq_true rfl⟩) rfl rfl rfl (Nat.le_of_ble_eq_true rfl) flRX10_25 ?_
          refine V_aload_n (i := 0) dX10_execute_148 rfl rfl ?_
          refine V_getC (k := 0) (q := 1) dX10_execute_149 (Or.inr ⟨rfl, Nat.le_of_ble_eq_true rfl⟩) rfl rfl rfl (Nat.le_of_ble_eq_true rfl) flRX10_10 ?_
          refine V_callVM dX10_execute_152 (c_keep (hJ8.2.1.keep hu1.2 (fun b hb => by unfold In45; omega)).1 (hJ8.1.keep hu1.2 (fun b hb => by unfold In45; omega)).1 (by omega)) okX2_keep lkRX10_93 (Or.inr ⟨rfl, Nat.le_of_ble_eq_true rfl⟩) rfl rfl rfl rfl (Nat.le_of_ble_eq_true rfl) ⟨Nat.le_of_ble_eq_true rfl, Nat.le_of_ble_eq_true rfl⟩ rfl ?_
          intro u2 hu2
          refine V_aload_n (i := 0) dX10_execute_155 rfl rfl ?_
          refine V_getC (k := 0) (q := 1) dX10_execute_156 (Or.inr ⟨rfl, Nat.le_of_ble_eq_true rfl⟩) rfl rfl rfl (Nat.le_of_ble_eq_true rfl) flRX10_10 ?_
          refine V_aload_n (i := 0) dX10_execute_159 rfl rfl ?_
          refine V_getC (k := 1) (q := 4) dX10_execute_160 (Or.inr ⟨rfl, Nat.le_of_ble_eq_true rfl⟩) rfl rfl rfl (Nat.le_of_ble_eq_true rfl) flRX10_16 ?_
          refine V_callVM dX10_execute_163 (c_copyFrom st_1 ((hR4.keep hu1.2 (by unfold In45; omega) (by unfold In45; omega) (by unfold In45; omega)).keep hu2.2 (by unfold InH; omega) (by unfold InH; omega) (by unfold InH; omega)) (by decide)) okX8_copyFrom lkRX10_226 (Or.inr ⟨rfl, Nat.le_of_ble_eq_true rfl⟩) rfl rfl rfl rfl (Nat.le_of_ble_eq_true rfl) ⟨Nat.le_of_ble_eq_true rfl, Nat.le_of_ble_eq_true rfl⟩ rfl ?_
          intro u3 hu3
          refine V_iload_n (i := 1) dX10_execute_166 rfl rfl ?_
          refine V_iret dX10_execute_167 rfl rfl ?_
          obtain rfl : n = i := by omega
          exact ⟨_, Or.inr (Or.inl ⟨n, hNC, hKs, rfl⟩), Or.inl ⟨rfl, rfl⟩, ⟨(show ciR u3 (cmS S.2.2.2.2.1 S.1 n) from ⟨hu3.1, hB4⟩), ((show ciH u2 (kpH S.2.1 S.1) from ⟨hu2.1, kpH_bal (hJ8.2.1.keep hu1.2 (fun b hb => by unfold In45; omega)).2 (hJ8.1.keep hu1.2 (fun b hb => by unfold In45; omega)).2⟩).keep hu3.2 (fun b hb => by unfold InSt; omega)), (((hJ8.2.2.1.keep hu1.2 (fun b hb => by unfold In45; omega)).keep hu2.2 (fun b hb => by unfold InH; omega)).keep hu3.2 (fun b hb => by unfold InSt; omega)), (((hJ8.2.2.2.1.keep hu1.2 (fun b hb => by unfold In45; omega)).keep hu2.2 (fun b hb => by unfold InH; omega)).keep hu3.2 (fun b hb => by unfold InSt; omega)), (((show ciT u1 [] from ⟨_, _, _, _, _, _, _, _, _, hu1.1⟩).keep hu2.2 (fun b hb => by unfold InH; omega)).keep hu3.2 (fun b hb => by unfold InSt; omega)), (((hJ8.2.2.2.2.keep hu1.2 (fun b hb => by unfold In45; omega)).keep hu2.2 (fun b hb => by unfold InH; omega)).keep hu3.2 (fun b hb => by unfold InSt; omega))⟩, (((hF8.trans (hu1.2.mono (fun b hb => by unfold In45 at hb; unfold InC; omega))).trans (hu2.2.mono (fun b hb => by unfold InH at hb; unfold InC; omega))).trans (hu3.2.mono (fun b hb => by unfold InSt at hb; unfold InC; omega)))⟩
        · refine V_iload_n (i := 2) dX10_execute_72 rfl rfl ?_
          refine V_if_ne_n (tgt := 98) dX10_execute_73 (by decide) (by omega) (fun h73 => by exfalso; omega) (fun h73 => ?_)
          refine V_iload dX10_execute_76 rfl ?_
          refine V_istore_n (i := 3) dX10_execute_78 rfl (Nat.le_of_ble_eq_true rfl) rfl rfl ?_
          refine V_aload_n (i := 0) dX10_execute_79 rfl rfl ?_
          refine V_callV dX10_execute_80 (c_reasonNext hT8 hR4 (hGn i (by omega))) okX10_reasonAgainstNextCommand lkRX10_359 (Or.inr ⟨rfl, Nat.le_of_ble_eq_true rfl⟩) rfl rfl rfl rfl (Nat.le_of_ble_eq_true rfl) ⟨Nat.le_of_ble_eq_true rfl, Nat.le_of_ble_eq_true rfl⟩ rfl ⟨Nat.zero_le _, Nat.zero_le _⟩ (fun v9 u1 hu1 => ?_) (fun E9 w9 h9 => by rcases h9 with h9 | h9 <;> cases h9.2.1)
          rcases hu1 with ⟨hu1f, e9, hu1⟩ | ⟨hu1f, e9, hu1⟩
          · cases e9
            have hca : cmA (cmV S.2.2.2.2.1 i) (cmX S.2.2.2.2.1 i) = false := hu1f
            obtain ⟨⟨v7, ro7, co7, nu7, wl7, cq7, pt7, rl7, hT1⟩, hF1⟩ := hu1
            refine V_istore_n (i := 2) dX10_execute_83 rfl (Nat.le_of_ble_eq_true rfl) rfl rfl ?_
            refine V_iload_n (i := 2) dX10_execute_84 rfl rfl ?_
            refine V_if_ne_z (tgt := 92) dX10_execute_85 (by decide) rfl (by omega) (by omega) (fun h85 => ?_) (fun h85 => by exfalso; omega)
            refine V_iinc_n (b := (i + 1)) dX10_execute_92 rfl (nI_add _ _) rfl rfl ?_
            refine V_goto (tgt := 66) dX10_execute_95 (by decide) ?_
            refine V_iload dX10_execute_66 rfl ?_
            refine V_iload_n (i := 1) dX10_execute_68 rfl rfl ?_
            refine V_icmp_ge_n (tgt := 98) dX10_execute_69 (by decide) (by omega) (by omega) (fun h69 => ?_) (fun h69 => ?_)
            · refine V_aload_n (i := 0) dX10_execute_98 rfl rfl ?_
              refine V_getC (k := 7) (q := 45) dX10_execute_99 (Or.inr ⟨rfl, Nat.le_of_ble_eq_true rfl⟩) rfl rfl rfl (Nat.le_of_ble_eq_true rfl) flRX10_53 ?_
              refine V_callVM dX10_execute_102 (c_tempty hT1) okX1_empty lkRX10_353 (Or.inr ⟨rfl, Nat.le_of_ble_eq_true rfl⟩) rfl rfl rfl rfl (Nat.le_of_ble_eq_true rfl) ⟨Nat.le_of_ble_eq_true rfl, Nat.le_of_ble_eq_true rfl⟩ rfl ?_
              intro u2 hu2
              refine V_iload_n (i := 2) dX10_execute_105 rfl rfl ?_
              refine V_iconst_z (v := -1) dX10_execute_106 (by decide) ?_
              refine V_icmp_ne_z (tgt := 121) dX10_execute_107 (by decide) rfl rfl (by omega) (by omega) (by omega) (by omega) (fun h107 => by exfalso; omega) (fun h107 => ?_)
              refine V_throwW dX10_execute_110 dX10_execute_113 dX10_execute_114 dX10_execute_117 dX10_execute_120 thr_ISE (List.mem_of_getElem? (i := 35) rfl) rfl (Nat.le_of_ble_eq_true rfl) (by decide) (by decide) ?_
              exact ⟨_, Or.inr (Or.inr (Or.inl ⟨n, hNC, i, by omega, hKs, hca, rfl⟩)), Or.inr ⟨Nat.le_of_ble_eq_true rfl, rfl⟩, ⟨((hJ8.1.keep hF1 (fun b hb => by unfold In45; omega)).keep hu2.2 (fun b hb => by unfold In45; omega)), ((hJ8.2.1.keep hF1 (fun b hb => by unfold In45; omega)).keep hu2.2 (fun b hb => by unfold In45; omega)), ((hJ8.2.2.1.keep hF1 (fun b hb => by unfold In45; omega)).keep hu2.2 (fun b hb => by unfold In45; omega)), ((hJ8.2.2.2.1.keep hF1 (fun b hb => by unfold In45; omega)).keep hu2.2 (fun b hb => by unfold In45; omega)), (show ciT u2 [] from ⟨_, _, _, _, _, _, _, _, _, hu2.1⟩), ((hJ8.2.2.2.2.keep hF1 (fun b hb => by unfold In45; omega)).keep hu2.2 (fun b hb => by unfold In45; omega))⟩, ((hF8.trans (hF1.mono (fun b hb => by unfold In45 at hb; unfold InC; omega))).trans (hu2.2.mono (fun b hb => by unfold In45 at hb; unfold InC; omega)))⟩
            · refine V_iload_n (i := 2) dX10_execute_72 rfl rfl ?_
              refine V_if_ne_z (tgt := 98) dX10_execute_73 (by decide) rfl (by omega) (by omega) (fun h73 => ?_) (fun h73 => by exfalso; omega)
              refine V_aload_n (i := 0) dX10_execute_98 rfl rfl ?_
              refine V_getC (k := 7) (q := 45) dX10_execute_99 (Or.inr ⟨rfl, Nat.le_of_ble_eq_true rfl⟩) rfl rfl rfl (Nat.le_of_ble_eq_true rfl) flRX10_53 ?_
              refine V_callVM dX10_execute_102 (c_tempty hT1) okX1_empty lkRX10_353 (Or.inr ⟨rfl, Nat.le_of_ble_eq_true rfl⟩) rfl rfl rfl rfl (Nat.le_of_ble_eq_true rfl) ⟨Nat.le_of_ble_eq_true rfl, Nat.le_of_ble_eq_true rfl⟩ rfl ?_
              intro u2 hu2
              refine V_iload_n (i := 2) dX10_execute_105 rfl rfl ?_
              refine V_iconst_z (v := -1) dX10_execute_106 (by decide) ?_
              refine V_icmp_ne_z (tgt := 121) dX10_execute_107 (by decide) rfl rfl (by omega) (by omega) (by omega) (by omega) (fun h107 => by exfalso; omega) (fun h107 => ?_)
              refine V_throwW dX10_execute_110 dX10_execute_113 dX10_execute_114 dX10_execute_117 dX10_execute_120 thr_ISE (List.mem_of_getElem? (i := 35) rfl) rfl (Nat.le_of_ble_eq_true rfl) (by decide) (by decide) ?_
              exact ⟨_, Or.inr (Or.inr (Or.inl ⟨n, hNC, i, by omega, hKs, hca, rfl⟩)), Or.inr ⟨Nat.le_of_ble_eq_true rfl, rfl⟩, ⟨((hJ8.1.keep hF1 (fun b hb => by unfold In45; omega)).keep hu2.2 (fun b hb => by unfold In45; omega)), ((hJ8.2.1.keep hF1 (fun b hb => by unfold In45; omega)).keep hu2.2 (fun b hb => by unfold In45; omega)), ((hJ8.2.2.1.keep hF1 (fun b hb => by unfold In45; omega)).keep hu2.2 (fun b hb => by unfold In45; omega)), ((hJ8.2.2.2.1.keep hF1 (fun b hb => by unfold In45; omega)).keep hu2.2 (fun b hb => by unfold In45; omega)), (show ciT u2 [] from ⟨_, _, _, _, _, _, _, _, _, hu2.1⟩), ((hJ8.2.2.2.2.keep hF1 (fun b hb => by unfold In45; omega)).keep hu2.2 (fun b hb => by unfold In45; omega))⟩, ((hF8.trans (hF1.mono (fun b hb => by unfold In45 at hb; unfold InC; omega))).trans (hu2.2.mono (fun b hb => by unfold In45 at hb; unfold InC; omega)))⟩
          · cases e9
            show V 1 MX10_execute 13 4 24 _ _ _ _ _ _ (.int (nI (cmR (cmS S.2.2.2.2.1 S.1 i) (cmV S.2.2.2.2.1 i) (cmX S.2.2.2.2.1 i))) :: []) _
            have hca : cmA (cmV S.2.2.2.2.1 i) (cmX S.2.2.2.2.1 i) = true := hu1f
            obtain ⟨⟨v7, ro7, co7, nu7, wl7, cq7, pt7, rl7, hT1, hV1, hCf0⟩, hF1⟩ := hu1
            have hCf : CmF (cmX S.2.2.2.2.1 i) v7 ro7 co7 nu7 cq7 pt7 rl7 := hCf0
            have hle5 := @cmR_le (cmS S.2.2.2.2.1 S.1 i) (cmV S.2.2.2.2.1 i) (cmX S.2.2.2.2.1 i)
            have hvv : cmV S.2.2.2.2.1 i = v7 := by unfold cmV; rw [hV1]; rfl
            refine V_istore_n (i := 2) dX10_execute_83 rfl (Nat.le_of_ble_eq_true rfl) rfl rfl ?_
            refine V_iload_n (i := 2) dX10_execute_84 rfl rfl ?_
            refine V_if_ne_n (tgt := 92) dX10_execute_85 (by decide) (by omega) (fun h85 => ?_) (fun h85 => ?_)
            · have hr0 : ¬ cmR (cmS S.2.2.2.2.1 S.1 i) (cmV S.2.2.2.2.1 i) (cmX S.2.2.2.2.1 i) = 0 := h85
              refine V_iinc_n (b := (i + 1)) dX10_execute_92 rfl (nI_add _ _) rfl rfl ?_
              refine V_goto (tgt := 66) dX10_execute_95 (by decide) ?_
              refine V_iload dX10_execute_66 rfl ?_
              refine V_iload_n (i := 1) dX10_execute_68 rfl rfl ?_
              refine V_icmp_ge_n (tgt := 98) dX10_execute_69 (by decide) (by omega) (by omega) (fun h69 => ?_) (fun h69 => ?_)
              · refine V_aload_n (i := 0) dX10_execute_98 rfl rfl ?_
                refine V_getC (k := 7) (q := 45) dX10_execute_99 (Or.inr ⟨rfl, Nat.le_of_ble_eq_true rfl⟩) rfl rfl rfl (Nat.le_of_ble_eq_true rfl) flRX10_53 ?_
                refine V_callVM dX10_execute_102 (c_tempty hT1) okX1_empty lkRX10_353 (Or.inr ⟨rfl, Nat.le_of_ble_eq_true rfl⟩) rfl rfl rfl rfl (Nat.le_of_ble_eq_true rfl) ⟨Nat.le_of_ble_eq_true rfl, Nat.le_of_ble_eq_true rfl⟩ rfl ?_
                intro u2 hu2
                refine V_iload_n (i := 2) dX10_execute_105 rfl rfl ?_
                refine V_iconst_z (v := -1) dX10_execute_106 (by decide) ?_
                refine V_icmp_ne_z (tgt := 121) dX10_execute_107 (by decide) (zI_n _) rfl (by omega) (by omega) (by omega) (by omega) (fun h107 => ?_) (fun h107 => by exfalso; omega)
                refine V_iload_n (i := 2) dX10_execute_121 rfl rfl ?_
                refine V_if_eq_n (tgt := 144) dX10_execute_122 (by decide) (by omega) (fun h122 => by exfalso; omega) (fun h122 => ?_)
                refine V_aload_n (i := 0) dX10_execute_125 rfl rfl ?_
                refine V_bipush_n (v := 6) dX10_execute_126 (by decide) ?_
                refine V_iload_n (i := 3) dX10_execute_128 rfl rfl ?_
                refine V_iload_n (i := 2) dX10_execute_129 rfl rfl ?_
                refine V_callVM dX10_execute_130 (c_noteRejection ((hJ8.2.2.2.2.keep hF1 (fun b hb => by unfold In45; omega)).keep hu2.2 (fun b hb => by unfold In45; omega)) (rs := 6) (cs := (cmR (cmS S.2.2.2.2.1 S.1 i) (cmV S.2.2.2.2.1 i) (cmX S.2.2.2.2.1 i))) (x := nI i) (by omega) (by omega) (by omega)) okX10_noteRejection lkRX10_367 (Or.inr ⟨rfl, Nat.le_of_ble_eq_true rfl⟩) rfl rfl rfl rfl (Nat.le_of_ble_eq_true rfl) ⟨Nat.le_of_ble_eq_true rfl, Nat.le_of_ble_eq_true rfl⟩ rfl ?_
                intro u3 hu3
                refine V_throwW dX10_execute_133 dX10_execute_136 dX10_execute_137 dX10_execute_140 dX10_execute_143 thr_UOE (List.mem_of_getElem? (i := 36) rfl) rfl (Nat.le_of_ble_eq_true rfl) (by decide) (by decide) ?_
                exact ⟨_, Or.inr (Or.inr (Or.inr ⟨n, hNC, i, by omega, hKs, hca, hr0, rfl⟩)), Or.inr ⟨Nat.le_of_ble_eq_true rfl, rfl⟩, ⟨(((hJ8.1.keep hF1 (fun b hb => by unfold In45; omega)).keep hu2.2 (fun b hb => by unfold In45; omega)).keep hu3.2 (fun b hb => by unfold In0; omega)), (((hJ8.2.1.keep hF1 (fun b hb => by unfold In45; omega)).keep hu2.2 (fun b hb => by unfold In45; omega)).keep hu3.2 (fun b hb => by unfold In0; omega)), (((hJ8.2.2.1.keep hF1 (fun b hb => by unfold In45; omega)).keep hu2.2 (fun b hb => by unfold In45; omega)).keep hu3.2 (fun b hb => by unfold In0; omega)), (((hJ8.2.2.2.1.keep hF1 (fun b hb => by unfold In45; omega)).keep hu2.2 (fun b hb => by unfold In45; omega)).keep hu3.2 (fun b hb => by unfold In0; omega)), ((show ciT u2 [] from ⟨_, _, _, _, _, _, _, _, _, hu2.1⟩).keep hu3.2 (fun b hb => by unfold In0; omega)), hu3.1⟩, (((hF8.trans (hF1.mono (fun b hb => by unfold In45 at hb; unfold InC; omega))).trans (hu2.2.mono (fun b hb => by unfold In45 at hb; unfold InC; omega))).trans (hu3.2.mono (fun b hb => by unfold In0 at hb; unfold InC; omega)))⟩
              · refine V_iload_n (i := 2) dX10_execute_72 rfl rfl ?_
                refine V_if_ne_n (tgt := 98) dX10_execute_73 (by decide) (by omega) (fun h73 => ?_) (fun h73 => by exfalso; omega)
                refine V_aload_n (i := 0) dX10_execute_98 rfl rfl ?_
                refine V_getC (k := 7) (q := 45) dX10_execute_99 (Or.inr ⟨rfl, Nat.le_of_ble_eq_true rfl⟩) rfl rfl rfl (Nat.le_of_ble_eq_true rfl) flRX10_53 ?_
                refine V_callVM dX10_execute_102 (c_tempty hT1) okX1_empty lkRX10_353 (Or.inr ⟨rfl, Nat.le_of_ble_eq_true rfl⟩) rfl rfl rfl rfl (Nat.le_of_ble_eq_true rfl) ⟨Nat.le_of_ble_eq_true rfl, Nat.le_of_ble_eq_true rfl⟩ rfl ?_
                intro u2 hu2
                refine V_iload_n (i := 2) dX10_execute_105 rfl rfl ?_
                refine V_iconst_z (v := -1) dX10_execute_106 (by decide) ?_
                refine V_icmp_ne_z (tgt := 121) dX10_execute_107 (by decide) (zI_n _) rfl (by omega) (by omega) (by omega) (by omega) (fun h107 => ?_) (fun h107 => by exfalso; omega)
                refine V_iload_n (i := 2) dX10_execute_121 rfl rfl ?_
                refine V_if_eq_n (tgt := 144) dX10_execute_122 (by decide) (by omega) (fun h122 => by exfalso; omega) (fun h122 => ?_)
                refine V_aload_n (i := 0) dX10_execute_125 rfl rfl ?_
                refine V_bipush_n (v := 6) dX10_execute_126 (by decide) ?_
                refine V_iload_n (i := 3) dX10_execute_128 rfl rfl ?_
                refine V_iload_n (i := 2) dX10_execute_129 rfl rfl ?_
                refine V_callVM dX10_execute_130 (c_noteRejection ((hJ8.2.2.2.2.keep hF1 (fun b hb => by unfold In45; omega)).keep hu2.2 (fun b hb => by unfold In45; omega)) (rs := 6) (cs := (cmR (cmS S.2.2.2.2.1 S.1 i) (cmV S.2.2.2.2.1 i) (cmX S.2.2.2.2.1 i))) (x := nI i) (by omega) (by omega) (by omega)) okX10_noteRejection lkRX10_367 (Or.inr ⟨rfl, Nat.le_of_ble_eq_true rfl⟩) rfl rfl rfl rfl (Nat.le_of_ble_eq_true rfl) ⟨Nat.le_of_ble_eq_true rfl, Nat.le_of_ble_eq_true rfl⟩ rfl ?_
                intro u3 hu3
                refine V_throwW dX10_execute_133 dX10_execute_136 dX10_execute_137 dX10_execute_140 dX10_execute_143 thr_UOE (List.mem_of_getElem? (i := 36) rfl) rfl (Nat.le_of_ble_eq_true rfl) (by decide) (by decide) ?_
                exact ⟨_, Or.inr (Or.inr (Or.inr ⟨n, hNC, i, by omega, hKs, hca, hr0, rfl⟩)), Or.inr ⟨Nat.le_of_ble_eq_true rfl, rfl⟩, ⟨(((hJ8.1.keep hF1 (fun b hb => by unfold In45; omega)).keep hu2.2 (fun b hb => by unfold In45; omega)).keep hu3.2 (fun b hb => by unfold In0; omega)), (((hJ8.2.1.keep hF1 (fun b hb => by unfold In45; omega)).keep hu2.2 (fun b hb => by unfold In45; omega)).keep hu3.2 (fun b hb => by unfold In0; omega)), (((hJ8.2.2.1.keep hF1 (fun b hb => by unfold In45; omega)).keep hu2.2 (fun b hb => by unfold In45; omega)).keep hu3.2 (fun b hb => by unfold In0; omega)), (((hJ8.2.2.2.1.keep hF1 (fun b hb => by unfold In45; omega)).keep hu2.2 (fun b hb => by unfold In45; omega)).keep hu3.2 (fun b hb => by unfold In0; omega)), ((show ciT u2 [] from ⟨_, _, _, _, _, _, _, _, _, hu2.1⟩).keep hu3.2 (fun b hb => by unfold In0; omega)), hu3.1⟩, (((hF8.trans (hF1.mono (fun b hb => by unfold In45 at hb; unfold InC; omega))).trans (hu2.2.mono (fun b hb => by unfold In45 at hb; unfold InC; omega))).trans (hu3.2.mono (fun b hb => by unfold In0 at hb; unfold InC; omega)))⟩
            · have hr0 : cmR (cmS S.2.2.2.2.1 S.1 i) (cmV S.2.2.2.2.1 i) (cmX S.2.2.2.2.1 i) = 0 := h85
              refine V_aload_n (i := 0) dX10_execute_88 rfl rfl ?_
              refine V_callVM dX10_execute_89 (c_carryOut (c := cmX S.2.2.2.2.1 i) hT1 (hR4.keep hF1 (by unfold In45; omega) (by unfold In45; omega) (by unfold In45; omega)) hCf (by rw [← hvv]; exact hca) (by rw [← hvv]; exact hr0)) okX10_carryOutCommand lkRX10_362 (Or.inr ⟨rfl, Nat.le_of_ble_eq_true rfl⟩) rfl rfl rfl rfl (Nat.le_of_ble_eq_true rfl) ⟨Nat.le_of_ble_eq_true rfl, Nat.le_of_ble_eq_true rfl⟩ rfl ?_
              intro u2 hu2
              refine V_iinc_n (b := (i + 1)) dX10_execute_92 rfl (nI_add _ _) rfl rfl ?_
              refine V_goto (tgt := 66) dX10_execute_95 (by decide) ?_
              have hk9 : cmK S.2.2.2.2.1 S.1 i = true := by unfold cmK; rw [show cmA (cmV S.2.2.2.2.1 i) (cmX S.2.2.2.2.1 i) = true from hca, hr0]; rfl
              have hsx : cmS S.2.2.2.2.1 S.1 (i + 1) = cmD (cmS S.2.2.2.2.1 S.1 i) v7 (cmX S.2.2.2.2.1 i) := by rw [← hvv]; rfl
              rw [hr0]
              refine (ih (i + 1) u2 (by omega) (by omega) ⟨_, _, _, _, _, _, _, _, (hT1.keep hu2.2 (by show ¬ (InSt 4 45 ∨ InSt 37 45); unfold InSt; omega) (by show ¬ (InSt 4 46 ∨ InSt 37 46); unfold InSt; omega))⟩ ⟨((hJ8.1.keep hF1 (fun b hb => by unfold In45; omega)).keep hu2.2 (fun b hb => by show ¬ (InSt 4 b ∨ InSt 37 b); unfold InSt; omega)), ((hJ8.2.1.keep hF1 (fun b hb => by unfold In45; omega)).keep hu2.2 (fun b hb => by show ¬ (InSt 4 b ∨ InSt 37 b); unfold InSt; omega)), ((hJ8.2.2.1.keep hF1 (fun b hb => by unfold In45; omega)).keep hu2.2 (fun b hb => by show ¬ (InSt 4 b ∨ InSt 37 b); unfold InSt; omega)), ((hJ8.2.2.2.1.keep hF1 (fun b hb => by unfold In45; omega)).keep hu2.2 (fun b hb => by show ¬ (InSt 4 b ∨ InSt 37 b); unfold InSt; omega)), ((hJ8.2.2.2.2.keep hF1 (fun b hb => by unfold In45; omega)).keep hu2.2 (fun b hb => by show ¬ (InSt 4 b ∨ InSt 37 b); unfold InSt; omega))⟩ (by rw [hsx]; exact hu2.1) (by rw [hsx, ← hvv]; exact cmD_keeps hB4 hR4.2.1 cmV_lt hca hr0) (fun j hj => (Decidable.em (j = i)).elim (fun e => by rw [e]; exact hk9) (fun e => hKs j (by omega))) ((hF8.trans (hF1.mono (fun b hb => by unfold In45 at hb; unfold InC; omega))).trans (hu2.2.mono (fun b hb => by have hb2 : InSt 4 b ∨ InSt 37 b := hb; unfold InSt at hb2; unfold InC; omega)))).sub (by repeat' (first | exact trivial | exact rfl | constructor))
    exact (lp (n + 1) 0 u3 (by omega) (by omega) ⟨_, _, _, _, _, _, _, _, hu3.1⟩ ⟨(((hC.1.keep hF1 (fun b hb => by unfold In45; omega)).keep hu2.2 (fun b hb => by unfold InSt; omega)).keep hu3.2 (fun b hb => by unfold In45; omega)), (((hC.2.1.keep hF1 (fun b hb => by unfold In45; omega)).keep hu2.2 (fun b hb => by unfold InSt; omega)).keep hu3.2 (fun b hb => by unfold In45; omega)), (((hC.2.2.1.keep hF1 (fun b hb => by unfold In45; omega)).keep hu2.2 (fun b hb => by unfold InSt; omega)).keep hu3.2 (fun b hb => by unfold In45; omega)), (((hC.2.2.2.1.keep hF1 (fun b hb => by unfold In45; omega)).keep hu2.2 (fun b hb => by unfold InSt; omega)).keep hu3.2 (fun b hb => by unfold In45; omega)), (((hC.2.2.2.2.2.keep hF1 (fun b hb => by unfold In45; omega)).keep hu2.2 (fun b hb => by unfold InSt; omega)).keep hu3.2 (fun b hb => by unfold In45; omega))⟩ (hu2.1.keep hu3.2 (by unfold In45; omega) (by unfold In45; omega) (by unfold In45; omega)) hC.1.2 (fun j hj => by omega) (((hF1.mono (fun b hb => by unfold In45 at hb; unfold InC; omega)).trans (hu2.2.mono (fun b hb => by unfold InSt at hb; unfold InC; omega))).trans (hu3.2.mono (fun b hb => by unfold In45 at hb; unfold InC; omega)))).sub (by repeat' (first | exact trivial | exact rfl | constructor))
end MEXEC
