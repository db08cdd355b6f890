/-! THE FACE: commands carried out. Printed by wip/whole/gen/mk30.py. -/
section MEXEC
theorem acO_eq {c : Cmd} {v ro co nu cq pt rl : Nat} (h : CmF c v ro co nu cq pt rl) (hv : v < 7) : acO v ro co nu = cmA v c := by
  unfold acO cmA
  by_cases h6 : v = 6
  · rw [if_pos h6, if_pos h6, h.2.1 h6]
  · rw [if_neg h6, if_neg h6]
    by_cases h5 : v < 5
    · rw [if_pos h5, if_pos h5, (h.2.2.1 h5).1, (h.2.2.1 h5).2]
    · rw [if_neg h5, if_neg h5]
theorem cmR_le {s : St} {v : Nat} {c : Cmd} : cmR s v c ≤ 5 := by
  unfold cmR
  have h1 := @rsP_lt (s.1 (8 * c.1 + c.2.1))
  have h2 := @rsR_lt (s.1 (8 * c.1 + c.2.1))
  have h3 := @rsA_lt (s.1 (8 * c.1 + c.2.1))
  have h4 := @rsL_lt s (ptN c.2.2.1) c.1 c.2.1
  split
  · omega
  · split
    · omega
    · split
      · omega
      · split
        · omega
        · split
          · split <;> omega
          · omega
set_option maxRecDepth 100000 in
set_option maxHeartbeats 1000000 in
theorem c_reasonNext {t : St} {l : List Nat} {p v ro co nu wl cq pt rl : Nat} {w : Wd} (hT : TxW w l p v ro co nu wl cq pt rl) (hR : Repr w 4 t) (hG : cmG l p = true) : Ct 1 MX10_reasonAgainstNextCommand 11 0 0 [.ref 0] w (fun o w1 => (cmA ((vbF l p).getD 0) (agC l ((vbF l p).getD 0) (vbP l p)) = false ∧ o = Sum.inl (some (Value.int (zI (-1)))) ∧ (∃ v ro co nu wl cq pt rl : Nat, TxW w1 l (cmE l p) v ro co nu wl cq pt rl) ∧ Fr In45 w w1) ∨ (cmA ((vbF l p).getD 0) (agC l ((vbF l p).getD 0) (vbP l p)) = true ∧ o = Sum.inl (some (Value.int (nI (cmR t ((vbF l p).getD 0) (agC l ((vbF l p).getD 0) (vbP l p)))))) ∧ (∃ v ro co nu wl cq pt rl : Nat, TxW w1 l (cmE l p) v ro co nu wl cq pt rl ∧ vbF l p = some v ∧ CmF (agC l ((vbF l p).getD 0) (vbP l p)) v ro co nu cq pt rl) ∧ Fr In45 w w1)) := by
  refine Ct_of (by decide +kernel) rfl (Nat.le_of_ble_eq_true rfl) rfl ?_
  have hl60 := hT.2.1.1
  have hp60 := hT.2.2.1.2
  have hv7 := hT.2.2.2.1.2
  have hro9 := hT.2.2.2.2.1.2
  have hco9 := hT.2.2.2.2.2.1.2
  have hnu9 := hT.2.2.2.2.2.2.1.2
  have hwl2 := hT.2.2.2.2.2.2.2.1.2
  have hcq9 := hT.2.2.2.2.2.2.2.2.1.2
  have hpt4 := hT.2.2.2.2.2.2.2.2.2.1.2
  have hrl3 := hT.2.2.2.2.2.2.2.2.2.2.2
  have hsg := @sg_le _ _ _ _ _ _ _ _ _ _ _ p hT
  refine V_aload_n (i := 0) dX10_reasonAgainstNextCommand_0 rfl rfl ?_
  refine V_getC (k := 7) (q := 45) dX10_reasonAgainstNextCommand_1 (Or.inr ⟨rfl, Nat.le_of_ble_eq_true rfl⟩) rfl rfl rfl (Nat.le_of_ble_eq_true rfl) flRX10_53 ?_
  refine V_callV dX10_reasonAgainstNextCommand_4 (c_readCommand hT) okX1_readCommand lkRX10_429 (Or.inr ⟨rfl, Nat.le_of_ble_eq_true rfl⟩) rfl rfl rfl rfl (Nat.le_of_ble_eq_true rfl) ⟨Nat.le_of_ble_eq_true rfl, Nat.le_of_ble_eq_true rfl⟩ rfl ⟨Nat.zero_le _, Nat.zero_le _⟩ (fun v9 u1 hu1 => ?_) (fun E9 w9 h9 => by rcases h9 with h9 | h9 <;> cases h9.2.1)
  rcases hu1 with ⟨hu1f, e9, hu1⟩ | ⟨hu1f, e9, hu1⟩
  · cases e9
    rw [hG] at hu1f
    cases hu1f
  · cases e9
    obtain ⟨⟨v1, ro1, co1, nu1, cq1, pt1, rl1, hV1, hT1, hC1⟩, hF1⟩ := hu1
    have hvb : ((vbF l p).getD 0) = v1 := by rw [hV1]; rfl
    have hC2 : CmF (agC l ((vbF l p).getD 0) (vbP l p)) v1 ro1 co1 nu1 cq1 pt1 rl1 := by rw [hvb]; exact hC1
    have hv17 := hT1.2.2.2.1.2
    have hac := acO_eq hC2 hv17
    have hro9 := hT1.2.2.2.2.1.2
    have hco9 := hT1.2.2.2.2.2.1.2
    have hpt4 := hT1.2.2.2.2.2.2.2.2.2.1.2
    have hrl3 := hT1.2.2.2.2.2.2.2.2.2.2.2
    refine V_if_eq_n (tgt := 20) dX10_reasonAgainstNextCommand_7 (by decide) (by omega) (fun h7 => by exfalso; omega) (fun h7 => ?_)
    refine V_aload_n (i := 0) dX10_reasonAgainstNextCommand_10 rfl rfl ?_
    refine V_getC (k := 7) (q := 45) dX10_reasonAgainstNextCommand_11 (Or.inr ⟨rfl, Nat.le_of_ble_eq_true rfl⟩) rfl rfl rfl (Nat.le_of_ble_eq_true rfl) flRX10_53 ?_
    refine V_callVF dX10_reasonAgainstNextCommand_14 (c_isAccepted hT1) okX1_isAccepted lkRX10_432 (Or.inr ⟨rfl, Nat.le_of_ble_eq_true rfl⟩) rfl rfl rfl rfl (Nat.le_of_ble_eq_true rfl) ⟨Nat.le_of_ble_eq_true rfl, Nat.le_of_ble_eq_true rfl⟩ rfl ?_
    refine V_if_ne_n (tgt := 22) dX10_reasonAgainstNextCommand_17 (by decide) (Nat.lt_of_lt_of_le ite_le (by decide)) (fun h17 => ?_) (fun h17 => ?_)
    · have ha9 := ite_t h17
      have hca : cmA ((vbF l p).getD 0) (agC l ((vbF l p).getD 0) (vbP l p)) = true := by rw [hvb]; rw [hvb] at hac; rw [← hac]; exact ha9
      have hin : v1 < 5 → ro1 < 8 ∧ co1 < 8 := fun q => by unfold acO at ha9; rw [if_neg (by omega), if_pos q] at ha9; exact of_decide_eq_true ha9
      rcases (show v1 = 0 ∨ v1 = 1 ∨ v1 = 2 ∨ v1 = 3 ∨ v1 = 4 ∨ v1 = 5 ∨ v1 = 6 by omega) with rfl | rfl | rfl | rfl | rfl | rfl | rfl
      · have hcs := hC2
        refine V_aload_n (i := 0) dX10_reasonAgainstNextCommand_22 rfl rfl ?_
        refine V_getC (k := 7) (q := 45) dX10_reasonAgainstNextCommand_23 (Or.inr ⟨rfl, Nat.le_of_ble_eq_true rfl⟩) rfl rfl rfl (Nat.le_of_ble_eq_true rfl) flRX10_53 ?_
        refine V_getI (k := 4) dX10_reasonAgainstNextCommand_26 (Or.inr ⟨rfl, Nat.le_of_ble_eq_true rfl⟩) rfl rfl rfl (Nat.le_of_ble_eq_true rfl) flRX10_435 ?_
        refine V_top (y := nI ro1) hT1.2.2.2.2.1.1 ?_
        refine V_aload_n (i := 0) dX10_reasonAgainstNextCommand_29 rfl rfl ?_
        refine V_getC (k := 7) (q := 45) dX10_reasonAgainstNextCommand_30 (Or.inr ⟨rfl, Nat.le_of_ble_eq_true rfl⟩) rfl rfl rfl (Nat.le_of_ble_eq_true rfl) flRX10_53 ?_
        refine V_getI (k := 5) dX10_reasonAgainstNextCommand_33 (Or.inr ⟨rfl, Nat.le_of_ble_eq_true rfl⟩) rfl rfl rfl (Nat.le_of_ble_eq_true rfl) flRX10_438 ?_
        refine V_top (y := nI co1) hT1.2.2.2.2.2.1.1 ?_
        refine V_callSF dX10_reasonAgainstNextCommand_36 (c_cellNumber (r := ro1) (c := co1) (rfl) (rfl)) okX10_cellNumber lkRX10_82 rfl rfl (Nat.le_of_ble_eq_true rfl) ⟨Nat.le_of_ble_eq_true rfl, Nat.le_of_ble_eq_true rfl⟩ rfl ?_
        refine V_istore_n (i := 1) dX10_reasonAgainstNextCommand_39 rfl (Nat.le_of_ble_eq_true rfl) rfl rfl ?_
        refine V_gets dX10_reasonAgainstNextCommand_40 (List.mem_of_getElem? (i := 17) rfl) flRX10_441 ?_
        refine V_aload_n (i := 0) dX10_reasonAgainstNextCommand_43 rfl rfl ?_
        refine V_getC (k := 7) (q := 45) dX10_reasonAgainstNextCommand_44 (Or.inr ⟨rfl, Nat.le_of_ble_eq_true rfl⟩) rfl rfl rfl (Nat.le_of_ble_eq_true rfl) flRX10_53 ?_
        refine V_getR (k := 3) dX10_reasonAgainstNextCommand_47 (Or.inr ⟨rfl, Nat.le_of_ble_eq_true rfl⟩) rfl rfl rfl (Nat.le_of_ble_eq_true rfl) flRX10_447 hT1.2.2.2.1.1 ?_
        refine V_ordinal (dy := 0) dX10_reasonAgainstNextCommand_50 rfl hT1.2.2.2.1.2 (Nat.le_of_ble_eq_true rfl) (by decide) rfl ?_
        refine V_tiald dX10_reasonAgainstNextCommand_53 (List.mem_of_getElem? (i := 3) rfl) (in_n (by decide) (by decide)) (sw_get (by decide)) ?_
        refine V_tsIn (tgt := 92) dX10_reasonAgainstNextCommand_54 (by decide) (by decide) rfl (by decide) ?_
        have hi8 := hin (by decide)
        refine V_aload_n (i := 0) dX10_reasonAgainstNextCommand_92 rfl rfl ?_
        refine V_getC (k := 1) (q := 4) dX10_reasonAgainstNextCommand_93 (Or.inr ⟨rfl, Nat.le_of_ble_eq_true rfl⟩) rfl rfl rfl (Nat.le_of_ble_eq_true rfl) flRX10_16 ?_
        refine V_iload_n (i := 1) dX10_reasonAgainstNextCommand_96 rfl rfl ?_
        refine V_callVF dX10_reasonAgainstNextCommand_97 (c_reasonAgainstPlacing (hR.keep hF1 (by unfold In45; omega) (by unfold In45; omega) (by unfold In45; omega)) (k := (8 * ro1 + co1)) (by omega)) okX8_reasonAgainstPlacing lkRX10_86 (Or.inr ⟨rfl, Nat.le_of_ble_eq_true rfl⟩) rfl rfl rfl rfl (Nat.le_of_ble_eq_true rfl) ⟨Nat.le_of_ble_eq_true rfl, Nat.le_of_ble_eq_true rfl⟩ rfl ?_
        refine V_iret dX10_reasonAgainstNextCommand_100 rfl rfl ?_
        have eR : cmR t ((vbF l p).getD 0) (agC l ((vbF l p).getD 0) (vbP l p)) = (rsP (t.1 (8 * ro1 + co1))) := by
          rw [hvb]
          have hf := hC2
          rw [hvb] at hf
          have h1 := hf.2.2.1 (by decide)
          simp [cmR, ← h1.1, ← h1.2]
        exact Or.inr ⟨hca, by rw [eR], ⟨_, _, _, _, _, _, _, _, hT1, hV1, hC2⟩, hF1⟩
      · have hcs := hC2
        refine V_aload_n (i := 0) dX10_reasonAgainstNextCommand_22 rfl rfl ?_
        refine V_getC (k := 7) (q := 45) dX10_reasonAgainstNextCommand_23 (Or.inr ⟨rfl, Nat.le_of_ble_eq_true rfl⟩) rfl rfl rfl (Nat.le_of_ble_eq_true rfl) flRX10_53 ?_
        refine V_getI (k := 4) dX10_reasonAgainstNextCommand_26 (Or.inr ⟨rfl, Nat.le_of_ble_eq_true rfl⟩) rfl rfl rfl (Nat.le_of_ble_eq_true rfl) flRX10_435 ?_
        refine V_top (y := nI ro1) hT1.2.2.2.2.1.1 ?_
        refine V_aload_n (i := 0) dX10_reasonAgainstNextCommand_29 rfl rfl ?_
        refine V_getC (k := 7) (q := 45) dX10_reasonAgainstNextCommand_30 (Or.inr ⟨rfl, Nat.le_of_ble_eq_true rfl⟩) rfl rfl rfl (Nat.le_of_ble_eq_true rfl) flRX10_53 ?_
        refine V_getI (k := 5) dX10_reasonAgainstNextCommand_33 (Or.inr ⟨rfl, Nat.le_of_ble_eq_true rfl⟩) rfl rfl rfl (Nat.le_of_ble_eq_true rfl) flRX10_438 ?_
        refine V_top (y := nI co1) hT1.2.2.2.2.2.1.1 ?_
        refine V_callSF dX10_reasonAgainstNextCommand_36 (c_cellNumber (r := ro1) (c := co1) (rfl) (rfl)) okX10_cellNumber lkRX10_82 rfl rfl (Nat.le_of_ble_eq_true rfl) ⟨Nat.le_of_ble_eq_true rfl, Nat.le_of_ble_eq_true rfl⟩ rfl ?_
        refine V_istore_n (i := 1) dX10_reasonAgainstNextCommand_39 rfl (Nat.le_of_ble_eq_true rfl) rfl rfl ?_
        refine V_gets dX10_reasonAgainstNextCommand_40 (List.mem_of_getElem? (i := 17) rfl) flRX10_441 ?_
        refine V_aload_n (i := 0) dX10_reasonAgainstNextCommand_43 rfl rfl ?_
        refine V_getC (k := 7) (q := 45) dX10_reasonAgainstNextCommand_44 (Or.inr ⟨rfl, Nat.le_of_ble_eq_true rfl⟩) rfl rfl rfl (Nat.le_of_ble_eq_true rfl) flRX10_53 ?_
        refine V_getR (k := 3) dX10_reasonAgainstNextCommand_47 (Or.inr ⟨rfl, Nat.le_of_ble_eq_true rfl⟩) rfl rfl rfl (Nat.le_of_ble_eq_true rfl) flRX10_447 hT1.2.2.2.1.1 ?_
        refine V_ordinal (dy := 0) dX10_reasonAgainstNextCommand_50 rfl hT1.2.2.2.1.2 (Nat.le_of_ble_eq_true rfl) (by decide) rfl ?_
        refine V_tiald dX10_reasonAgainstNextCommand_53 (List.mem_of_getElem? (i := 3) rfl) (in_n (by decide) (by decide)) (sw_get (by decide)) ?_
        refine V_tsIn (tgt := 101) dX10_reasonAgainstNextCommand_54 (by decide) (by decide) rfl (by decide) ?_
        have hi8 := hin (by decide)
        refine V_aload_n (i := 0) dX10_reasonAgainstNextCommand_101 rfl rfl ?_
        refine V_getC (k := 1) (q := 4) dX10_reasonAgainstNextCommand_102 (Or.inr ⟨rfl, Nat.le_of_ble_eq_true rfl⟩) rfl rfl rfl (Nat.le_of_ble_eq_true rfl) flRX10_16 ?_
        refine V_iload_n (i := 1) dX10_reasonAgainstNextCommand_105 rfl rfl ?_
        refine V_callVF dX10_reasonAgainstNextCommand_106 (c_reasonAgainstRemoving (hR.keep hF1 (by unfold In45; omega) (by unfold In45; omega) (by unfold In45; omega)) (k := (8 * ro1 + co1)) (by omega)) okX8_reasonAgainstRemoving lkRX10_105 (Or.inr ⟨rfl, Nat.le_of_ble_eq_true rfl⟩) rfl rfl rfl rfl (Nat.le_of_ble_eq_true rfl) ⟨Nat.le_of_ble_eq_true rfl, Nat.le_of_ble_eq_true rfl⟩ rfl ?_
        refine V_iret dX10_reasonAgainstNextCommand_109 rfl rfl ?_
        have eR : cmR t ((vbF l p).getD 0) (agC l ((vbF l p).getD 0) (vbP l p)) = (rsR (t.1 (8 * ro1 + co1))) := by
          rw [hvb]
          have hf := hC2
          rw [hvb] at hf
          have h1 := hf.2.2.1 (by decide)
          simp [cmR, ← h1.1, ← h1.2]
        exact Or.inr ⟨hca, by rw [eR], ⟨_, _, _, _, _, _, _, _, hT1, hV1, hC2⟩, hF1⟩
      · have hcs := hC2
        refine V_aload_n (i := 0) dX10_reasonAgainstNextCommand_22 rfl rfl ?_
        refine V_getC (k := 7) (q := 45) dX10_reasonAgainstNextCommand_23 (Or.inr ⟨rfl, Nat.le_of_ble_eq_true rfl⟩) rfl rfl rfl (Nat.le_of_ble_eq_true rfl) flRX10_53 ?_
        refine V_getI (k := 4) dX10_reasonAgainstNextCommand_26 (Or.inr ⟨rfl, Nat.le_of_ble_eq_true rfl⟩) rfl rfl rfl (Nat.le_of_ble_eq_true rfl) flRX10_435 ?_
        refine V_top (y := nI ro1) hT1.2.2.2.2.1.1 ?_
        refine V_aload_n (i := 0) dX10_reasonAgainstNextCommand_29 rfl rfl ?_
        refine V_getC (k := 7) (q := 45) dX10_reasonAgainstNextCommand_30 (Or.inr ⟨rfl, Nat.le_of_ble_eq_true rfl⟩) rfl rfl rfl (Nat.le_of_ble_eq_true rfl) flRX10_53 ?_
        refine V_getI (k := 5) dX10_reasonAgainstNextCommand_33 (Or.inr ⟨rfl, Nat.le_of_ble_eq_true rfl⟩) rfl rfl rfl (Nat.le_of_ble_eq_true rfl) flRX10_438 ?_
        refine V_top (y := nI co1) hT1.2.2.2.2.2.1.1 ?_
        refine V_callSF dX10_reasonAgainstNextCommand_36 (c_cellNumber (r := ro1) (c := co1) (rfl) (rfl)) okX10_cellNumber lkRX10_82 rfl rfl (Nat.le_of_ble_eq_true rfl) ⟨Nat.le_of_ble_eq_true rfl, Nat.le_of_ble_eq_true rfl⟩ rfl ?_
        refine V_istore_n (i := 1) dX10_reasonAgainstNextCommand_39 rfl (Nat.le_of_ble_eq_true rfl) rfl rfl ?_
        refine V_gets dX10_reasonAgainstNextCommand_40 (List.mem_of_getElem? (i := 17) rfl) flRX10_441 ?_
        refine V_aload_n (i := 0) dX10_reasonAgainstNextCommand_43 rfl rfl ?_
        refine V_getC (k := 7) (q := 45) dX10_reasonAgainstNextCommand_44 (Or.inr ⟨rfl, Nat.le_of_ble_eq_true rfl⟩) rfl rfl rfl (Nat.le_of_ble_eq_true rfl) flRX10_53 ?_
        refine V_getR (k := 3) dX10_reasonAgainstNextCommand_47 (Or.inr ⟨rfl, Nat.le_of_ble_eq_true rfl⟩) rfl rfl rfl (Nat.le_of_ble_eq_true rfl) flRX10_447 hT1.2.2.2.1.1 ?_
        refine V_ordinal (dy := 0) dX10_reasonAgainstNextCommand_50 rfl hT1.2.2.2.1.2 (Nat.le_of_ble_eq_true rfl) (by decide) rfl ?_
        refine V_tiald dX10_reasonAgainstNextCommand_53 (List.mem_of_getElem? (i := 3) rfl) (in_n (by decide) (by decide)) (sw_get (by decide)) ?_
        refine V_tsIn (tgt := 110) dX10_reasonAgainstNextCommand_54 (by decide) (by decide) rfl (by decide) ?_
        have hi8 := hin (by decide)
        refine V_aload_n (i := 0) dX10_reasonAgainstNextCommand_110 rfl rfl ?_
        refine V_getC (k := 1) (q := 4) dX10_reasonAgainstNextCommand_111 (Or.inr ⟨rfl, Nat.le_of_ble_eq_true rfl⟩) rfl rfl rfl (Nat.le_of_ble_eq_true rfl) flRX10_16 ?_
        refine V_iload_n (i := 1) dX10_reasonAgainstNextCommand_114 rfl rfl ?_
        refine V_callVF dX10_reasonAgainstNextCommand_115 (c_reasonAgainstAltering (hR.keep hF1 (by unfold In45; omega) (by unfold In45; omega) (by unfold In45; omega)) (k := (8 * ro1 + co1)) (by omega)) okX8_reasonAgainstAltering lkRX10_417 (Or.inr ⟨rfl, Nat.le_of_ble_eq_true rfl⟩) rfl rfl rfl rfl (Nat.le_of_ble_eq_true rfl) ⟨Nat.le_of_ble_eq_true rfl, Nat.le_of_ble_eq_true rfl⟩ rfl ?_
        refine V_iret dX10_reasonAgainstNextCommand_118 rfl rfl ?_
        have eR : cmR t ((vbF l p).getD 0) (agC l ((vbF l p).getD 0) (vbP l p)) = (rsA (t.1 (8 * ro1 + co1))) := by
          rw [hvb]
          have hf := hC2
          rw [hvb] at hf
          have h1 := hf.2.2.1 (by decide)
          simp [cmR, ← h1.1, ← h1.2]
        exact Or.inr ⟨hca, by rw [eR], ⟨_, _, _, _, _, _, _, _, hT1, hV1, hC2⟩, hF1⟩
      · have hcs := hC2
        refine V_aload_n (i := 0) dX10_reasonAgainstNextCommand_22 rfl rfl ?_
        refine V_getC (k := 7) (q := 45) dX10_reasonAgainstNextCommand_23 (Or.inr ⟨rfl, Nat.le_of_ble_eq_true rfl⟩) rfl rfl rfl (Nat.le_of_ble_eq_true rfl) flRX10_53 ?_
        refine V_getI (k := 4) dX10_reasonAgainstNextCommand_26 (Or.inr ⟨rfl, Nat.le_of_ble_eq_true rfl⟩) rfl rfl rfl (Nat.le_of_ble_eq_true rfl) flRX10_435 ?_
        refine V_top (y := nI ro1) hT1.2.2.2.2.1.1 ?_
        refine V_aload_n (i := 0) dX10_reasonAgainstNextCommand_29 rfl rfl ?_
        refine V_getC (k := 7) (q := 45) dX10_reasonAgainstNextCommand_30 (Or.inr ⟨rfl, Nat.le_of_ble_eq_true rfl⟩) rfl rfl rfl (Nat.le_of_ble_eq_true rfl) flRX10_53 ?_
        refine V_getI (k := 5) dX10_reasonAgainstNextCommand_33 (Or.inr ⟨rfl, Nat.le_of_ble_eq_true rfl⟩) rfl rfl rfl (Nat.le_of_ble_eq_true rfl) flRX10_438 ?_
        refine V_top (y := nI co1) hT1.2.2.2.2.2.1.1 ?_
        refine V_callSF dX10_reasonAgainstNextCommand_36 (c_cellNumber (r := ro1) (c := co1) (rfl) (rfl)) okX10_cellNumber lkRX10_82 rfl rfl (Nat.le_of_ble_eq_true rfl) ⟨Nat.le_of_ble_eq_true rfl, Nat.le_of_ble_eq_true rfl⟩ rfl ?_
        refine V_istore_n (i := 1) dX10_reasonAgainstNextCommand_39 rfl (Nat.le_of_ble_eq_true rfl) rfl rfl ?_
        refine V_gets dX10_reasonAgainstNextCommand_40 (List.mem_of_getElem? (i := 17) rfl) flRX10_441 ?_
        refine V_aload_n (i := 0) dX10_reasonAgainstNextCommand_43 rfl rfl ?_
        refine V_getC (k := 7) (q := 45) dX10_reasonAgainstNextCommand_44 (Or.inr ⟨rfl, Nat.le_of_ble_eq_true rfl⟩) rfl rfl rfl (Nat.le_of_ble_eq_true rfl) flRX10_53 ?_
        refine V_getR (k := 3) dX10_reasonAgainstNextCommand_47 (Or.inr ⟨rfl, Nat.le_of_ble_eq_true rfl⟩) rfl rfl rfl (Nat.le_of_ble_eq_true rfl) flRX10_447 hT1.2.2.2.1.1 ?_
        refine V_ordinal (dy := 0) dX10_reasonAgainstNextCommand_50 rfl hT1.2.2.2.1.2 (Nat.le_of_ble_eq_true rfl) (by decide) rfl ?_
        refine V_tiald dX10_reasonAgainstNextCommand_53 (List.mem_of_getElem? (i := 3) rfl) (in_n (by decide) (by decide)) (sw_get (by decide)) ?_
        refine V_tsIn (tgt := 110) dX10_reasonAgainstNextCommand_54 (by decide) (by decide) rfl (by decide) ?_
        have hi8 := hin (by decide)
        refine V_aload_n (i := 0) dX10_reasonAgainstNextCommand_110 rfl rfl ?_
        refine V_getC (k := 1) (q := 4) dX10_reasonAgainstNextCommand_111 (Or.inr ⟨rfl, Nat.le_of_ble_eq_true rfl⟩) rfl rfl rfl (Nat.le_of_ble_eq_true rfl) flRX10_16 ?_
        refine V_iload_n (i := 1) dX10_reasonAgainstNextCommand_114 rfl rfl ?_
        refine V_callVF dX10_reasonAgainstNextCommand_115 (c_reasonAgainstAltering (hR.keep hF1 (by unfold In45; omega) (by unfold In45; omega) (by unfold In45; omega)) (k := (8 * ro1 + co1)) (by omega)) okX8_reasonAgainstAltering lkRX10_417 (Or.inr ⟨rfl, Nat.le_of_ble_eq_true rfl⟩) rfl rfl rfl rfl (Nat.le_of_ble_eq_true rfl) ⟨Nat.le_of_ble_eq_true rfl, Nat.le_of_ble_eq_true rfl⟩ rfl ?_
        refine V_iret dX10_reasonAgainstNextCommand_118 rfl rfl ?_
        have eR : cmR t ((vbF l p).getD 0) (agC l ((vbF l p).getD 0) (vbP l p)) = (rsA (t.1 (8 * ro1 + co1))) := by
          rw [hvb]
          have hf := hC2
          rw [hvb] at hf
          have h1 := hf.2.2.1 (by decide)
          simp [cmR, ← h1.1, ← h1.2]
        exact Or.inr ⟨hca, by rw [eR], ⟨_, _, _, _, _, _, _, _, hT1, hV1, hC2⟩, hF1⟩
      · have hcs := hC2
        refine V_aload_n (i := 0) dX10_reasonAgainstNextCommand_22 rfl rfl ?_
        refine V_getC (k := 7) (q := 45) dX10_reasonAgainstNextCommand_23 (Or.inr ⟨rfl, Nat.le_of_ble_eq_true rfl⟩) rfl rfl rfl (Nat.le_of_ble_eq_true rfl) flRX10_53 ?_
        refine V_getI (k := 4) dX10_reasonAgainstNextCommand_26 (Or.inr ⟨rfl, Nat.le_of_ble_eq_true rfl⟩) rfl rfl rfl (Nat.le_of_ble_eq_true rfl) flRX10_435 ?_
        refine V_top (y := nI ro1) hT1.2.2.2.2.1.1 ?_
        refine V_aload_n (i := 0) dX10_reasonAgainstNextCommand_29 rfl rfl ?_
        refine V_getC (k := 7) (q := 45) dX10_reasonAgainstNextCommand_30 (Or.inr ⟨rfl, Nat.le_of_ble_eq_true rfl⟩) rfl rfl rfl (Nat.le_of_ble_eq_true rfl) flRX10_53 ?_
        refine V_getI (k := 5) dX10_reasonAgainstNextCommand_33 (Or.inr ⟨rfl, Nat.le_of_ble_eq_true rfl⟩) rfl rfl rfl (Nat.le_of_ble_eq_true rfl) flRX10_438 ?_
        refine V_top (y := nI co1) hT1.2.2.2.2.2.1.1 ?_
        refine V_callSF dX10_reasonAgainstNextCommand_36 (c_cellNumber (r := ro1) (c := co1) (rfl) (rfl)) okX10_cellNumber lkRX10_82 rfl rfl (Nat.le_of_ble_eq_true rfl) ⟨Nat.le_of_ble_eq_true rfl, Nat.le_of_ble_eq_true rfl⟩ rfl ?_
        refine V_istore_n (i := 1) dX10_reasonAgainstNextCommand_39 rfl (Nat.le_of_ble_eq_true rfl) rfl rfl ?_
        refine V_gets dX10_reasonAgainstNextCommand_40 (List.mem_of_getElem? (i := 17) rfl) flRX10_441 ?_
        refine V_aload_n (i := 0) dX10_reasonAgainstNextCommand_43 rfl rfl ?_
        refine V_getC (k := 7) (q := 45) dX10_reasonAgainstNextCommand_44 (Or.inr ⟨rfl, Nat.le_of_ble_eq_true rfl⟩) rfl rfl rfl (Nat.le_of_ble_eq_true rfl) flRX10_53 ?_
        refine V_getR (k := 3) dX10_reasonAgainstNextCommand_47 (Or.inr ⟨rfl, Nat.le_of_ble_eq_true rfl⟩) rfl rfl rfl (Nat.le_of_ble_eq_true rfl) flRX10_447 hT1.2.2.2.1.1 ?_
        refine V_ordinal (dy := 0) dX10_reasonAgainstNextCommand_50 rfl hT1.2.2.2.1.2 (Nat.le_of_ble_eq_true rfl) (by decide) rfl ?_
        refine V_tiald dX10_reasonAgainstNextCommand_53 (List.mem_of_getElem? (i := 3) rfl) (in_n (by decide) (by decide)) (sw_get (by decide)) ?_
        refine V_tsIn (tgt := 119) dX10_reasonAgainstNextCommand_54 (by decide) (by decide) rfl (by decide) ?_
        have hi8 := hin (by decide)
        refine V_aload_n (i := 0) dX10_reasonAgainstNextCommand_119 rfl rfl ?_
        refine V_getC (k := 1) (q := 4) dX10_reasonAgainstNextCommand_120 (Or.inr ⟨rfl, Nat.le_of_ble_eq_true rfl⟩) rfl rfl rfl (Nat.le_of_ble_eq_true rfl) flRX10_16 ?_
        refine V_aload_n (i := 0) dX10_reasonAgainstNextCommand_123 rfl rfl ?_
        refine V_getC (k := 7) (q := 45) dX10_reasonAgainstNextCommand_124 (Or.inr ⟨rfl, Nat.le_of_ble_eq_true rfl⟩) rfl rfl rfl (Nat.le_of_ble_eq_true rfl) flRX10_53 ?_
        refine V_getI (k := 4) dX10_reasonAgainstNextCommand_127 (Or.inr ⟨rfl, Nat.le_of_ble_eq_true rfl⟩) rfl rfl rfl (Nat.le_of_ble_eq_true rfl) flRX10_435 ?_
        refine V_top (y := nI ro1) hT1.2.2.2.2.1.1 ?_
        refine V_aload_n (i := 0) dX10_reasonAgainstNextCommand_130 rfl rfl ?_
        refine V_getC (k := 7) (q := 45) dX10_reasonAgainstNextCommand_131 (Or.inr ⟨rfl, Nat.le_of_ble_eq_true rfl⟩) rfl rfl rfl (Nat.le_of_ble_eq_true rfl) flRX10_53 ?_
        refine V_getI (k := 5) dX10_reasonAgainstNextCommand_134 (Or.inr ⟨rfl, Nat.le_of_ble_eq_true rfl⟩) rfl rfl rfl (Nat.le_of_ble_eq_true rfl) flRX10_438 ?_
        refine V_top (y := nI co1) hT1.2.2.2.2.2.1.1 ?_
        refine V_aload_n (i := 0) dX10_reasonAgainstNextCommand_137 rfl rfl ?_
        refine V_getC (k := 7) (q := 45) dX10_reasonAgainstNextCommand_138 (Or.inr ⟨rfl, Nat.le_of_ble_eq_true rfl⟩) rfl rfl rfl (Nat.le_of_ble_eq_true rfl) flRX10_53 ?_
        refine V_getR (k := 9) dX10_reasonAgainstNextCommand_141 (Or.inr ⟨rfl, Nat.le_of_ble_eq_true rfl⟩) rfl rfl rfl (Nat.le_of_ble_eq_true rfl) flRX10_456 hT1.2.2.2.2.2.2.2.2.2.1.1 ?_
        refine V_callVF dX10_reasonAgainstNextCommand_144 (c_reasonAgainstPlanting (hR.keep hF1 (by unfold In45; omega) (by unfold In45; omega) (by unfold In45; omega)) (p := pt1) (r := ro1) (c := co1) hT1.2.2.2.2.2.2.2.2.2.1.2 (by omega) (by omega)) okX8_reasonAgainstPlanting lkRX10_139 (Or.inr ⟨rfl, Nat.le_of_ble_eq_true rfl⟩) rfl rfl rfl rfl (Nat.le_of_ble_eq_true rfl) ⟨Nat.le_of_ble_eq_true rfl, Nat.le_of_ble_eq_true rfl⟩ rfl ?_
        refine V_iret dX10_reasonAgainstNextCommand_147 rfl rfl ?_
        have eR : cmR t ((vbF l p).getD 0) (agC l ((vbF l p).getD 0) (vbP l p)) = (rsL t pt1 ro1 co1) := by
          rw [hvb]
          have hf := hC2
          rw [hvb] at hf
          have h1 := hf.2.2.1 (by decide)
          have h2 := (hf.2.2.2.2 rfl).1
          have h3 := (ptL_isP hpt4).2
          rw [h2] at h3
          simp [cmR, ← h1.1, ← h1.2, h3]
        exact Or.inr ⟨hca, by rw [eR], ⟨_, _, _, _, _, _, _, _, hT1, hV1, hC2⟩, hF1⟩
      · have hcs := hC2
        refine V_aload_n (i := 0) dX10_reasonAgainstNextCommand_22 rfl rfl ?_
        refine V_getC (k := 7) (q := 45) dX10_reasonAgainstNextCommand_23 (Or.inr ⟨rfl, Nat.le_of_ble_eq_true rfl⟩) rfl rfl rfl (Nat.le_of_ble_eq_true rfl) flRX10_53 ?_
        refine V_getI (k := 4) dX10_reasonAgainstNextCommand_26 (Or.inr ⟨rfl, Nat.le_of_ble_eq_true rfl⟩) rfl rfl rfl (Nat.le_of_ble_eq_true rfl) flRX10_435 ?_
        refine V_top (y := nI ro1) hT1.2.2.2.2.1.1 ?_
        refine V_aload_n (i := 0) dX10_reasonAgainstNextCommand_29 rfl rfl ?_
        refine V_getC (k := 7) (q := 45) dX10_reasonAgainstNextCommand_30 (Or.inr ⟨rfl, Nat.le_of_ble_eq_true rfl⟩) rfl rfl rfl (Nat.le_of_ble_eq_true rfl) flRX10_53 ?_
        refine V_getI (k := 5) dX10_reasonAgainstNextCommand_33 (Or.inr ⟨rfl, Nat.le_of_ble_eq_true rfl⟩) rfl rfl rfl (Nat.le_of_ble_eq_true rfl) flRX10_438 ?_
        refine V_top (y := nI co1) hT1.2.2.2.2.2.1.1 ?_
        refine V_callSF dX10_reasonAgainstNextCommand_36 (c_cellNumber (r := ro1) (c := co1) (rfl) (rfl)) okX10_cellNumber lkRX10_82 rfl rfl (Nat.le_of_ble_eq_true rfl) ⟨Nat.le_of_ble_eq_true rfl, Nat.le_of_ble_eq_true rfl⟩ rfl ?_
        refine V_istore_n (i := 1) dX10_reasonAgainstNextCommand_39 rfl (Nat.le_of_ble_eq_true rfl) rfl rfl ?_
        refine V_gets dX10_reasonAgainstNextCommand_40 (List.mem_of_getElem? (i := 17) rfl) flRX10_441 ?_
        refine V_aload_n (i := 0) dX10_reasonAgainstNextCommand_43 rfl rfl ?_
        refine V_getC (k := 7) (q := 45) dX10_reasonAgainstNextCommand_44 (Or.inr ⟨rfl, Nat.le_of_ble_eq_true rfl⟩) rfl rfl rfl (Nat.le_of_ble_eq_true rfl) flRX10_53 ?_
        refine V_getR (k := 3) dX10_reasonAgainstNextCommand_47 (Or.inr ⟨rfl, Nat.le_of_ble_eq_true rfl⟩) rfl rfl rfl (Nat.le_of_ble_eq_true rfl) flRX10_447 hT1.2.2.2.1.1 ?_
        refine V_ordinal (dy := 0) dX10_reasonAgainstNextCommand_50 rfl hT1.2.2.2.1.2 (Nat.le_of_ble_eq_true rfl) (by decide) rfl ?_
        refine V_tiald dX10_reasonAgainstNextCommand_53 (List.mem_of_getElem? (i := 3) rfl) (in_n (by decide) (by decide)) (sw_get (by decide)) ?_
        refine V_tsIn (tgt := 148) dX10_reasonAgainstNextCommand_54 (by decide) (by decide) rfl (by decide) ?_
        refine V_aload_n (i := 0) dX10_reasonAgainstNextCommand_148 rfl rfl ?_
        refine V_getC (k := 1) (q := 4) dX10_reasonAgainstNextCommand_149 (Or.inr ⟨rfl, Nat.le_of_ble_eq_true rfl⟩) rfl rfl rfl (Nat.le_of_ble_eq_true rfl) flRX10_16 ?_
        refine V_aload_n (i := 0) dX10_reasonAgainstNextCommand_152 rfl rfl ?_
        refine V_getC (k := 7) (q := 45) dX10_reasonAgainstNextCommand_153 (Or.inr ⟨rfl, Nat.le_of_ble_eq_true rfl⟩) rfl rfl rfl (Nat.le_of_ble_eq_true rfl) flRX10_53 ?_
        refine V_getR (k := 10) dX10_reasonAgainstNextCommand_156 (Or.inr ⟨rfl, Nat.le_of_ble_eq_true rfl⟩) rfl rfl rfl (Nat.le_of_ble_eq_true rfl) flRX10_460 hT1.2.2.2.2.2.2.2.2.2.2.1 ?_
        refine V_callVF dX10_reasonAgainstNextCommand_159 (c_reasonAgainstRule (hR.keep hF1 (by unfold In45; omega) (by unfold In45; omega) (by unfold In45; omega)) (r := rl1) hT1.2.2.2.2.2.2.2.2.2.2.2) okX8_reasonAgainstRule lkRX10_162 (Or.inr ⟨rfl, Nat.le_of_ble_eq_true rfl⟩) rfl rfl rfl rfl (Nat.le_of_ble_eq_true rfl) ⟨Nat.le_of_ble_eq_true rfl, Nat.le_of_ble_eq_true rfl⟩ rfl ?_
        refine V_iret dX10_reasonAgainstNextCommand_162 rfl rfl ?_
        have eR : cmR t ((vbF l p).getD 0) (agC l ((vbF l p).getD 0) (vbP l p)) = (if t.2.1 = rl1 then 5 else 0) := by
          rw [hvb]
          have hf := hC2
          rw [hvb] at hf
          have h2 := hf.1 rfl
          have h3 := (rlN_ok hrl3).2
          rw [h2] at h3
          simp [cmR, h3]
        exact Or.inr ⟨hca, by rw [eR], ⟨_, _, _, _, _, _, _, _, hT1, hV1, hC2⟩, hF1⟩
      · have hcs := hC2
        refine V_aload_n (i := 0) dX10_reasonAgainstNextCommand_22 rfl rfl ?_
        refine V_getC (k := 7) (q := 45) dX10_reasonAgainstNextCommand_23 (Or.inr ⟨rfl, Nat.le_of_ble_eq_true rfl⟩) rfl rfl rfl (Nat.le_of_ble_eq_true rfl) flRX10_53 ?_
        refine V_getI (k := 4) dX10_reasonAgainstNextCommand_26 (Or.inr ⟨rfl, Nat.le_of_ble_eq_true rfl⟩) rfl rfl rfl (Nat.le_of_ble_eq_true rfl) flRX10_435 ?_
        refine V_top (y := nI ro1) hT1.2.2.2.2.1.1 ?_
        refine V_aload_n (i := 0) dX10_reasonAgainstNextCommand_29 rfl rfl ?_
        refine V_getC (k := 7) (q := 45) dX10_reasonAgainstNextCommand_30 (Or.inr ⟨rfl, Nat.le_of_ble_eq_true rfl⟩) rfl rfl rfl (Nat.le_of_ble_eq_true rfl) flRX10_53 ?_
        refine V_getI (k := 5) dX10_reasonAgainstNextCommand_33 (Or.inr ⟨rfl, Nat.le_of_ble_eq_true rfl⟩) rfl rfl rfl (Nat.le_of_ble_eq_true rfl) flRX10_438 ?_
        refine V_top (y := nI co1) hT1.2.2.2.2.2.1.1 ?_
        refine V_callSF dX10_reasonAgainstNextCommand_36 (c_cellNumber (r := ro1) (c := co1) (rfl) (rfl)) okX10_cellNumber lkRX10_82 rfl rfl (Nat.le_of_ble_eq_true rfl) ⟨Nat.le_of_ble_eq_true rfl, Nat.le_of_ble_eq_true rfl⟩ rfl ?_
        refine V_istore_n (i := 1) dX10_reasonAgainstNextCommand_39 rfl (Nat.le_of_ble_eq_true rfl) rfl rfl ?_
        refine V_gets dX10_reasonAgainstNextCommand_40 (List.mem_of_getElem? (i := 17) rfl) flRX10_441 ?_
        refine V_aload_n (i := 0) dX10_reasonAgainstNextCommand_43 rfl rfl ?_
        refine V_getC (k := 7) (q := 45) dX10_reasonAgainstNextCommand_44 (Or.inr ⟨rfl, Nat.le_of_ble_eq_true rfl⟩) rfl rfl rfl (Nat.le_of_ble_eq_true rfl) flRX10_53 ?_
        refine V_getR (k := 3) dX10_reasonAgainstNextCommand_47 (Or.inr ⟨rfl, Nat.le_of_ble_eq_true rfl⟩) rfl rfl rfl (Nat.le_of_ble_eq_true rfl) flRX10_447 hT1.2.2.2.1.1 ?_
        refine V_ordinal (dy := 0) dX10_reasonAgainstNextCommand_50 rfl hT1.2.2.2.1.2 (Nat.le_of_ble_eq_true rfl) (by decide) rfl ?_
        refine V_tiald dX10_reasonAgainstNextCommand_53 (List.mem_of_getElem? (i := 3) rfl) (in_n (by decide) (by decide)) (sw_get (by decide)) ?_
        refine V_tsOut (tgt := 163) dX10_reasonAgainstNextCommand_54 (Or.inl (by decide)) (by decide) ?_
        refine V_iconst_n (v := 0) dX10_reasonAgainstNextCommand_163 (by decide) ?_
        refine V_iret dX10_reasonAgainstNextCommand_164 rfl rfl ?_
        have eR : cmR t ((vbF l p).getD 0) (agC l ((vbF l p).getD 0) (vbP l p)) = 0 := by
          rw [hvb]
          have hf := hC2
          rw [hvb] at hf
          simp [cmR, ]
        exact Or.inr ⟨hca, by rw [eR], ⟨_, _, _, _, _, _, _, _, hT1, hV1, hC2⟩, hF1⟩
    · have ha9 := ite_f h17
      have hca : cmA ((vbF l p).getD 0) (agC l ((vbF l p).getD 0) (vbP l p)) = false := by rw [hvb]; rw [hvb] at hac; rw [← hac]; exact Bool.eq_false_iff.mpr ha9
      refine V_iconst_z (v := -1) dX10_reasonAgainstNextCommand_20 (by decide) ?_
      refine V_iret dX10_reasonAgainstNextCommand_21 rfl rfl ?_
      exact Or.inl ⟨hca, rfl, ⟨_, _, _, _, _, _, _, _, hT1⟩, hF1⟩
end MEXEC
