/-! THE COMMANDS: the walks. Printed by wip/whole/gen/mk21.py. -/
section MCMD
theorem vb_cases {P : Nat → Prop} (h0 : P 0) (h1 : P 1) (h2 : P 2) (h3 : P 3) (h4 : P 4) (h5 : P 5) (h6 : P 6) {v : Nat} (hv : v < 7) : P v := by
  match v, hv with
  | 0, _ => exact h0
  | 1, _ => exact h1
  | 2, _ => exact h2
  | 3, _ => exact h3
  | 4, _ => exact h4
  | 5, _ => exact h5
  | 6, _ => exact h6
def vbCl (v : Nat) : Nat := if v < 5 then 1 else 0
def vbCo (v : Nat) : Nat := if v = 0 ∨ v = 3 ∨ v = 4 then 1 else 0
theorem vb_start {v : Nat} (hv : v < 7) : (RX9, "start", "Ljava/lang/String;", .ref (1120 + v), 1020 + v) ∈ cF := vb_cases (P := fun v => (RX9, "start", "Ljava/lang/String;", .ref (1120 + v), 1020 + v) ∈ cF) (List.mem_of_getElem? (i := 28) rfl) (List.mem_of_getElem? (i := 32) rfl) (List.mem_of_getElem? (i := 36) rfl) (List.mem_of_getElem? (i := 40) rfl) (List.mem_of_getElem? (i := 44) rfl) (List.mem_of_getElem? (i := 48) rfl) (List.mem_of_getElem? (i := 52) rfl) hv
theorem vb_cell {v : Nat} (hv : v < 7) : (RX9, "hasCell", "Z", .int (nI (vbCl v)), 1020 + v) ∈ cF := vb_cases (P := fun v => (RX9, "hasCell", "Z", .int (nI (vbCl v)), 1020 + v) ∈ cF) (List.mem_of_getElem? (i := 29) rfl) (List.mem_of_getElem? (i := 33) rfl) (List.mem_of_getElem? (i := 37) rfl) (List.mem_of_getElem? (i := 41) rfl) (List.mem_of_getElem? (i := 45) rfl) (List.mem_of_getElem? (i := 49) rfl) (List.mem_of_getElem? (i := 53) rfl) hv
theorem vb_col {v : Nat} (hv : v < 7) : (RX9, "hasColour", "Z", .int (nI (vbCo v)), 1020 + v) ∈ cF := vb_cases (P := fun v => (RX9, "hasColour", "Z", .int (nI (vbCo v)), 1020 + v) ∈ cF) (List.mem_of_getElem? (i := 30) rfl) (List.mem_of_getElem? (i := 34) rfl) (List.mem_of_getElem? (i := 38) rfl) (List.mem_of_getElem? (i := 42) rfl) (List.mem_of_getElem? (i := 46) rfl) (List.mem_of_getElem? (i := 50) rfl) (List.mem_of_getElem? (i := 54) rfl) hv
theorem vb_E {v : Nat} (hv : v < 7) : 1020 + v ∈ cE := vb_cases (P := fun v => 1020 + v ∈ cE) (by first | decide | (unfold IsT; decide)) (by first | decide | (unfold IsT; decide)) (by first | decide | (unfold IsT; decide)) (by first | decide | (unfold IsT; decide)) (by first | decide | (unfold IsT; decide)) (by first | decide | (unfold IsT; decide)) (by first | decide | (unfold IsT; decide)) hv
theorem vb_T {v : Nat} (hv : v < 7) : IsT (1120 + v) := vb_cases (P := fun v => IsT (1120 + v)) (by first | decide | (unfold IsT; decide)) (by first | decide | (unfold IsT; decide)) (by first | decide | (unfold IsT; decide)) (by first | decide | (unfold IsT; decide)) (by first | decide | (unfold IsT; decide)) (by first | decide | (unfold IsT; decide)) (by first | decide | (unfold IsT; decide)) hv
theorem rl_T {r : Nat} (hr : r < 3) : IsT (1100 + r) := rl_cases (P := fun r => IsT (1100 + r)) (by unfold IsT; decide) (by unfold IsT; decide) (by unfold IsT; decide) hr
theorem arr_get {b i : Nat} (h : i < 2 ^ 31) : (fun j => Value.ref (b + j)) (nI i).toNatClampNeg = .ref (b + i) := by
  show Value.ref (b + _) = _
  rw [nI_clamp h]
theorem pt_pos {k : Nat} : 0 < ptL k := by unfold ptL; split <;> (try split) <;> (try split) <;> omega
theorem isP_no {x : Nat} (h : ∀ k, k < 4 → ptL k ≠ x) : isP x = false := Bool.eq_false_iff.mpr fun q => h (ptN x) (ptN_ok q).1 (ptN_ok q).2
theorem tx_pos {t : Nat} (ht : IsT t) : ∀ i, i < (tx t).length → 0 < (tx t).getD i 0 := (by decide +kernel : ∀ t ∈ [1100, 1101, 1102, 1110, 1111, 1112, 1113, 1120, 1121, 1122, 1123, 1124, 1125, 1126, 1130, 1131], ∀ i, i < (tx t).length → 0 < (tx t).getD i 0) t ht
def TxW (w : Wd) (l : List Nat) (p v ro co nu wl cq pt rl : Nat) : Prop := OutI w 45 1 46 l ∧ (l.length ≤ 60 ∧ ∀ i, i < l.length → 32 ≤ l.getD i 0 ∧ l.getD i 0 ≤ 126) ∧ (gI w 45 2 = nI p ∧ p ≤ 60) ∧ (gR w 45 3 = some (1020 + v) ∧ v < 7) ∧ (gI w 45 4 = nI ro ∧ ro < 10) ∧ (gI w 45 5 = nI co ∧ co < 10) ∧ (gI w 45 6 = nI nu ∧ nu < 100) ∧ (gI w 45 7 = nI wl ∧ wl < 2) ∧ (gI w 45 8 = nI cq ∧ 97 ≤ cq ∧ cq ≤ 100) ∧ (gR w 45 9 = some (1010 + pt) ∧ pt < 4) ∧ (gR w 45 10 = some (1000 + rl) ∧ rl < 3)
theorem OutI.wI {w : Wd} {a k b c j : Nat} {x : Int32} {l : List Nat} (h1 : ¬ (a = c ∧ k = j)) (h2 : b ≠ c) (h : OutI w a k b l) : OutI (pI w c j x) a k b l := ⟨pI_ne h1 h.1, fun i hi => pI_ne (fun q => h2 q.1) (h.2 i hi)⟩
theorem OutI.wR {w : Wd} {a k b c j : Nat} {x : Option Nat} {l : List Nat} (h : OutI w a k b l) : OutI (pR w c j x) a k b l := h
theorem TxW.keep {w w1 : Wd} {l : List Nat} {p v ro co nu wl cq pt rl : Nat} {P : Nat → Prop} (h : TxW w l p v ro co nu wl cq pt rl) (hF : Fr P w w1) (h1 : ¬ P 45) (h2 : ¬ P 46) : TxW w1 l p v ro co nu wl cq pt rl := by
  obtain ⟨a1, a2, a3, a4, a5, a6, a7, a8, a9, a10, a11⟩ := h
  exact ⟨a1.keep hF h1 h2, a2, ⟨(hF.gi h1 _).trans a3.1, a3.2⟩, ⟨(hF.gr h1 _).trans a4.1, a4.2⟩, ⟨(hF.gi h1 _).trans a5.1, a5.2⟩, ⟨(hF.gi h1 _).trans a6.1, a6.2⟩, ⟨(hF.gi h1 _).trans a7.1, a7.2⟩, ⟨(hF.gi h1 _).trans a8.1, a8.2⟩, ⟨(hF.gi h1 _).trans a9.1, a9.2⟩, ⟨(hF.gr h1 _).trans a10.1, a10.2⟩, ⟨(hF.gr h1 _).trans a11.1, a11.2⟩⟩
theorem sg_le {w : Wd} {l : List Nat} {p v ro co nu wl cq pt rl i : Nat} (h : TxW w l p v ro co nu wl cq pt rl) : sg l i ≤ 126 := by
  unfold sg
  split
  · next q => exact (h.2.1.2 i q).2
  · omega
def In45 (b : Nat) : Prop := b = 45 ∨ b = 46
set_option maxRecDepth 100000 in
set_option maxHeartbeats 1000000 in
theorem c_tsign {i : Nat} {l : List Nat} {p v ro co nu wl cq pt rl : Nat} {w : Wd} (hT : TxW w l p v ro co nu wl cq pt rl) (hi : i < 2 ^ 31) : Ct 1 MX1_signAt 1 0 0 [.ref 45, .int (nI i)] w (Rt (some (.int (nI (sg l i)))) w) := by
  refine Ct_of (by decide +kernel) rfl (Nat.le_of_ble_eq_true rfl) rfl ?_
  have hl60 := hT.2.1.1
  have hsg := @sg_le _ _ _ _ _ _ _ _ _ _ _ i hT
  refine V_iload_n (i := 1) dX1_signAt_0 rfl rfl ?_
  refine V_if_lt_n (tgt := 27) dX1_signAt_1 (by decide) (by omega) ?_
  refine V_iload_n (i := 1) dX1_signAt_4 rfl rfl ?_
  refine V_aload_n (i := 0) dX1_signAt_5 rfl rfl ?_
  refine V_getI (k := 1) dX1_signAt_6 (Or.inr ⟨rfl, Nat.le_of_ble_eq_true rfl⟩) rfl rfl rfl (Nat.le_of_ble_eq_true rfl) flRX1_15 ?_
  refine V_top (y := nI l.length) hT.1.1 ?_
  refine V_icmp_ge_n (tgt := 27) dX1_signAt_9 (by decide) (by omega) (by omega) (fun h9 => ?_) (fun h9 => ?_)
  · refine V_iconst_n (v := 0) dX1_signAt_27 (by decide) ?_
    refine V_iret dX1_signAt_28 rfl (nar_char (by omega)) ?_
    exact ⟨by unfold sg; rw [if_neg (by omega)], rfl⟩
  · refine V_iload_n (i := 1) dX1_signAt_12 rfl rfl ?_
    refine V_bipush_n (v := 60) dX1_signAt_13 (by decide) ?_
    refine V_icmp_ge_n (tgt := 27) dX1_signAt_15 (by decide) (by omega) (by omega) (fun h15 => by exfalso; omega) (fun h15 => ?_)
    refine V_aload_n (i := 0) dX1_signAt_18 rfl rfl ?_
    refine V_getC (k := 0) (q := 46) dX1_signAt_19 (Or.inr ⟨rfl, Nat.le_of_ble_eq_true rfl⟩) rfl rfl rfl (Nat.le_of_ble_eq_true rfl) flRX1_9 ?_
    refine V_iload_n (i := 1) dX1_signAt_22 rfl rfl ?_
    refine V_cald_n (i := i) dX1_signAt_23 (Or.inr ⟨rfl, Nat.le_of_ble_eq_true rfl⟩) rfl (by omega) (by decide) ?_
    refine V_top (y := nI (l.getD i 0)) (hT.1.2 i h9) ?_
    have hg9 := hT.2.1.2 i h9
    refine V_goto (tgt := 28) dX1_signAt_24 (by decide) ?_
    refine V_iret dX1_signAt_28 rfl (nar_char (by omega)) ?_
    exact ⟨by unfold sg; rw [if_pos h9], rfl⟩
set_option maxRecDepth 100000 in
set_option maxHeartbeats 1000000 in
theorem c_hasDigit {l : List Nat} {p v ro co nu wl cq pt rl : Nat} {w : Wd} (hT : TxW w l p v ro co nu wl cq pt rl) : Ct 1 MX1_hasDigit 2 0 0 [.ref 45] w (fun o w1 => (isD (sg l p) = false ∧ o = Sum.inl (some (Value.int (nI 0))) ∧ w1 = w) ∨ (isD (sg l p) = true ∧ o = Sum.inl (some (Value.int (nI 1))) ∧ w1 = w)) := by
  refine Ct_of (by decide +kernel) rfl (Nat.le_of_ble_eq_true rfl) rfl ?_
  have hl60 := hT.2.1.1
  have hp60 := hT.2.2.1.2
  have hv7 := hT.2.2.2.1.2
  have hro9 := hT.2.2.2.2.1.2
  have hco9 := hT.2.2.2.2.2.1.2
  have hnu9 := hT.2.2.2.2.2.2.1.2
  have hwl2 := hT.2.2.2.2.2.2.2.1.2
  have hcq9 := hT.2.2.2.2.2.2.2.2.1.2
  have hpt4 := hT.2.2.2.2.2.2.2.2.2.1.2
  have hrl3 := hT.2.2.2.2.2.2.2.2.2.2.2
  have hsg := @sg_le _ _ _ _ _ _ _ _ _ _ _ p hT
  refine V_aload_n (i := 0) dX1_hasDigit_0 rfl rfl ?_
  refine V_aload_n (i := 0) dX1_hasDigit_1 rfl rfl ?_
  refine V_getI (k := 2) dX1_hasDigit_2 (Or.inr ⟨rfl, Nat.le_of_ble_eq_true rfl⟩) rfl rfl rfl (Nat.le_of_ble_eq_true rfl) flRX1_19 ?_
  refine V_top (y := nI p) hT.2.2.1.1 ?_
  refine V_callVF dX1_hasDigit_5 (c_tsign hT (i := p) (by omega)) okX1_signAt lkRX1_154 (Or.inr ⟨rfl, Nat.le_of_ble_eq_true rfl⟩) rfl rfl rfl rfl (Nat.le_of_ble_eq_true rfl) ⟨Nat.le_of_ble_eq_true rfl, Nat.le_of_ble_eq_true rfl⟩ rfl ?_
  refine V_bipush_n (v := 48) dX1_hasDigit_8 (by decide) ?_
  refine V_icmp_lt_n (tgt := 30) dX1_hasDigit_10 (by decide) (by omega) (by omega) (fun h10 => ?_) (fun h10 => ?_)
  · refine V_iconst_n (v := 0) dX1_hasDigit_30 (by decide) ?_
    refine V_iret dX1_hasDigit_31 rfl (nar_bool (by omega)) ?_
    exact Or.inl ⟨by unfold isD; grind, rfl, rfl⟩
  · refine V_aload_n (i := 0) dX1_hasDigit_13 rfl rfl ?_
    refine V_aload_n (i := 0) dX1_hasDigit_14 rfl rfl ?_
    refine V_getI (k := 2) dX1_hasDigit_15 (Or.inr ⟨rfl, Nat.le_of_ble_eq_true rfl⟩) rfl rfl rfl (Nat.le_of_ble_eq_true rfl) flRX1_19 ?_
    refine V_top (y := nI p) hT.2.2.1.1 ?_
    refine V_callVF dX1_hasDigit_18 (c_tsign hT (i := p) (by omega)) okX1_signAt lkRX1_154 (Or.inr ⟨rfl, Nat.le_of_ble_eq_true rfl⟩) rfl rfl rfl rfl (Nat.le_of_ble_eq_true rfl) ⟨Nat.le_of_ble_eq_true rfl, Nat.le_of_ble_eq_true rfl⟩ rfl ?_
    refine V_bipush_n (v := 57) dX1_hasDigit_21 (by decide) ?_
    refine V_icmp_gt_n (tgt := 30) dX1_hasDigit_23 (by decide) (by omega) (by omega) (fun h23 => ?_) (fun h23 => ?_)
    · refine V_iconst_n (v := 0) dX1_hasDigit_30 (by decide) ?_
      refine V_iret dX1_hasDigit_31 rfl (nar_bool (by omega)) ?_
      exact Or.inl ⟨by unfold isD; grind, rfl, rfl⟩
    · refine V_iconst_n (v := 1) dX1_hasDigit_26 (by decide) ?_
      refine V_goto (tgt := 31) dX1_hasDigit_27 (by decide) ?_
      refine V_iret dX1_hasDigit_31 rfl (nar_bool (by omega)) ?_
      exact Or.inr (⟨by unfold isD; grind, rfl, rfl⟩)
set_option maxRecDepth 100000 in
set_option maxHeartbeats 1000000 in
theorem c_nextDigit {l : List Nat} {p v ro co nu wl cq pt rl : Nat} {w : Wd} (hT : TxW w l p v ro co nu wl cq pt rl) (hd : isD (sg l p) = true) : Ct 1 MX1_nextDigit 2 0 0 [.ref 45] w (Mt (some (.int (nI (sg l p - 48)))) fun w1 => TxW w1 l (p + 1) v ro co nu wl cq pt rl ∧ Fr In45 w w1) := by
  refine Ct_of (by decide +kernel) rfl (Nat.le_of_ble_eq_true rfl) rfl ?_
  have hl60 := hT.2.1.1
  have hp60 := hT.2.2.1.2
  have hv7 := hT.2.2.2.1.2
  have hro9 := hT.2.2.2.2.1.2
  have hco9 := hT.2.2.2.2.2.1.2
  have hnu9 := hT.2.2.2.2.2.2.1.2
  have hwl2 := hT.2.2.2.2.2.2.2.1.2
  have hcq9 := hT.2.2.2.2.2.2.2.2.1.2
  have hpt4 := hT.2.2.2.2.2.2.2.2.2.1.2
  have hrl3 := hT.2.2.2.2.2.2.2.2.2.2.2
  have hsg := @sg_le _ _ _ _ _ _ _ _ _ _ _ p hT
  have hd8 := of_decide_eq_true hd
  have hpl := sg_pos (l := l) (p := p) (by omega)
  refine V_aload_n (i := 0) dX1_nextDigit_0 rfl rfl ?_
  refine V_aload_n (i := 0) dX1_nextDigit_1 rfl rfl ?_
  refine V_getI (k := 2) dX1_nextDigit_2 (Or.inr ⟨rfl, Nat.le_of_ble_eq_true rfl⟩) rfl rfl rfl (Nat.le_of_ble_eq_true rfl) flRX1_19 ?_
  refine V_top (y := nI p) hT.2.2.1.1 ?_
  refine V_callVF dX1_nextDigit_5 (c_tsign hT (i := p) (by omega)) okX1_signAt lkRX1_154 (Or.inr ⟨rfl, Nat.le_of_ble_eq_true rfl⟩) rfl rfl rfl rfl (Nat.le_of_ble_eq_true rfl) ⟨Nat.le_of_ble_eq_true rfl, Nat.le_of_ble_eq_true rfl⟩ rfl ?_
  refine V_bipush_n (v := 48) dX1_nextDigit_8 (by decide) ?_
  refine V_isub_n dX1_nextDigit_10 (by omega) ?_
  refine V_istore_n (i := 1) dX1_nextDigit_11 rfl (Nat.le_of_ble_eq_true rfl) rfl rfl ?_
  refine V_aload_n (i := 0) dX1_nextDigit_12 rfl rfl ?_
  refine V_dup dX1_nextDigit_13 rfl ?_
  refine V_getI (k := 2) dX1_nextDigit_14 (Or.inr ⟨rfl, Nat.le_of_ble_eq_true rfl⟩) rfl rfl rfl (Nat.le_of_ble_eq_true rfl) flRX1_19 ?_
  refine V_top (y := nI p) hT.2.2.1.1 ?_
  refine V_iconst_n (v := 1) dX1_nextDigit_17 (by decide) ?_
  refine V_iadd_n dX1_nextDigit_18 ?_
  refine V_putI (k := 2) (ty := .int) dX1_nextDigit_19 (Or.inr ⟨rfl, Nat.le_of_ble_eq_true rfl⟩) rfl rfl rfl (Nat.le_of_ble_eq_true rfl) flRX1_19 rfl (by decide +kernel) rfl rfl ?_
  refine V_iload_n (i := 1) dX1_nextDigit_22 rfl rfl ?_
  refine V_iret dX1_nextDigit_23 rfl rfl ?_
  exact ⟨rfl, ⟨(OutI.wI (by omega) (by omega) hT.1), hT.2.1, ⟨pI_at, by omega⟩, ⟨hT.2.2.2.1.1, hT.2.2.2.1.2⟩, ⟨(pI_ne (by omega) hT.2.2.2.2.1.1), hT.2.2.2.2.1.2⟩, ⟨(pI_ne (by omega) hT.2.2.2.2.2.1.1), hT.2.2.2.2.2.1.2⟩, ⟨(pI_ne (by omega) hT.2.2.2.2.2.2.1.1), hT.2.2.2.2.2.2.1.2⟩, ⟨(pI_ne (by omega) hT.2.2.2.2.2.2.2.1.1), hT.2.2.2.2.2.2.2.1.2⟩, ⟨(pI_ne (by omega) hT.2.2.2.2.2.2.2.2.1.1), hT.2.2.2.2.2.2.2.2.1.2⟩, ⟨hT.2.2.2.2.2.2.2.2.2.1.1, hT.2.2.2.2.2.2.2.2.2.1.2⟩, ⟨hT.2.2.2.2.2.2.2.2.2.2.1, hT.2.2.2.2.2.2.2.2.2.2.2⟩⟩, (Fr.nil.i1 (Or.inl rfl))⟩
set_option maxRecDepth 100000 in
set_option maxHeartbeats 1000000 in
theorem c_readSign {c : Nat} {l : List Nat} {p v ro co nu wl cq pt rl : Nat} {w : Wd} (hT : TxW w l p v ro co nu wl cq pt rl) (hc : 0 < c) (hc2 : c < 65536) : Ct 1 MX1_readSign 2 0 0 [.ref 45, .int (nI c)] w (fun o w1 => (sg l p ≠ c ∧ o = Sum.inl (some (Value.int (nI 0))) ∧ TxW w1 l p v ro co nu wl cq pt rl ∧ Fr In45 w w1) ∨ (sg l p = c ∧ o = Sum.inl (some (Value.int (nI 1))) ∧ TxW w1 l (p + 1) v ro co nu wl cq pt rl ∧ Fr In45 w w1)) := by
  refine Ct_of (by decide +kernel) rfl (Nat.le_of_ble_eq_true rfl) rfl ?_
  have hl60 := hT.2.1.1
  have hp60 := hT.2.2.1.2
  have hv7 := hT.2.2.2.1.2
  have hro9 := hT.2.2.2.2.1.2
  have hco9 := hT.2.2.2.2.2.1.2
  have hnu9 := hT.2.2.2.2.2.2.1.2
  have hwl2 := hT.2.2.2.2.2.2.2.1.2
  have hcq9 := hT.2.2.2.2.2.2.2.2.1.2
  have hpt4 := hT.2.2.2.2.2.2.2.2.2.1.2
  have hrl3 := hT.2.2.2.2.2.2.2.2.2.2.2
  have hsg := @sg_le _ _ _ _ _ _ _ _ _ _ _ p hT
  refine V_aload_n (i := 0) dX1_readSign_0 rfl rfl ?_
  refine V_aload_n (i := 0) dX1_readSign_1 rfl rfl ?_
  refine V_getI (k := 2) dX1_readSign_2 (Or.inr ⟨rfl, Nat.le_of_ble_eq_true rfl⟩) rfl rfl rfl (Nat.le_of_ble_eq_true rfl) flRX1_19 ?_
  refine V_top (y := nI p) hT.2.2.1.1 ?_
  refine V_callVF dX1_readSign_5 (c_tsign hT (i := p) (by omega)) okX1_signAt lkRX1_154 (Or.inr ⟨rfl, Nat.le_of_ble_eq_true rfl⟩) rfl rfl rfl rfl (Nat.le_of_ble_eq_true rfl) ⟨Nat.le_of_ble_eq_true rfl, Nat.le_of_ble_eq_true rfl⟩ rfl ?_
  refine V_iload_n (i := 1) dX1_readSign_8 rfl rfl ?_
  refine V_icmp_eq_n (tgt := 14) dX1_readSign_9 (by decide) (by omega) (by omega) (fun h9 => ?_) (fun h9 => ?_)
  · have hpl := sg_pos (l := l) (p := p) (by omega)
    refine V_aload_n (i := 0) dX1_readSign_14 rfl rfl ?_
    refine V_dup dX1_readSign_15 rfl ?_
    refine V_getI (k := 2) dX1_readSign_16 (Or.inr ⟨rfl, Nat.le_of_ble_eq_true rfl⟩) rfl rfl rfl (Nat.le_of_ble_eq_true rfl) flRX1_19 ?_
    refine V_top (y := nI p) hT.2.2.1.1 ?_
    refine V_iconst_n (v := 1) dX1_readSign_19 (by decide) ?_
    refine V_iadd_n dX1_readSign_20 ?_
    refine V_putI (k := 2) (ty := .int) dX1_readSign_21 (Or.inr ⟨rfl, Nat.le_of_ble_eq_true rfl⟩) rfl rfl rfl (Nat.le_of_ble_eq_true rfl) flRX1_19 rfl (by decide +kernel) rfl rfl ?_
    refine V_iconst_n (v := 1) dX1_readSign_24 (by decide) ?_
    refine V_iret dX1_readSign_25 rfl (nar_bool (by omega)) ?_
    exact Or.inr (⟨h9, rfl, ⟨(OutI.wI (by omega) (by omega) hT.1), hT.2.1, ⟨pI_at, by omega⟩, ⟨hT.2.2.2.1.1, hT.2.2.2.1.2⟩, ⟨(pI_ne (by omega) hT.2.2.2.2.1.1), hT.2.2.2.2.1.2⟩, ⟨(pI_ne (by omega) hT.2.2.2.2.2.1.1), hT.2.2.2.2.2.1.2⟩, ⟨(pI_ne (by omega) hT.2.2.2.2.2.2.1.1), hT.2.2.2.2.2.2.1.2⟩, ⟨(pI_ne (by omega) hT.2.2.2.2.2.2.2.1.1), hT.2.2.2.2.2.2.2.1.2⟩, ⟨(pI_ne (by omega) hT.2.2.2.2.2.2.2.2.1.1), hT.2.2.2.2.2.2.2.2.1.2⟩, ⟨hT.2.2.2.2.2.2.2.2.2.1.1, hT.2.2.2.2.2.2.2.2.2.1.2⟩, ⟨hT.2.2.2.2.2.2.2.2.2.2.1, hT.2.2.2.2.2.2.2.2.2.2.2⟩⟩, (Fr.nil.i1 (Or.inl rfl))⟩)
  · refine V_iconst_n (v := 0) dX1_readSign_12 (by decide) ?_
    refine V_iret dX1_readSign_13 rfl (nar_bool (by omega)) ?_
    exact Or.inl ⟨h9, rfl, hT, Fr.nil⟩
set_option maxRecDepth 100000 in
set_option maxHeartbeats 1000000 in
theorem c_readColour {l : List Nat} {p v ro co nu wl cq pt rl : Nat} {w : Wd} (hT : TxW w l p v ro co nu wl cq pt rl) : Ct 1 MX1_readColour 2 0 0 [.ref 45] w (fun o w1 => (isC (sg l p) = false ∧ o = Sum.inl (some (Value.int (nI 0))) ∧ TxW w1 l p v ro co nu wl cq pt rl ∧ Fr In45 w w1) ∨ (isC (sg l p) = true ∧ o = Sum.inl (some (Value.int (nI 1))) ∧ TxW w1 l (p + 1) v ro co nu wl (sg l p) pt rl ∧ Fr In45 w w1)) := by
  refine Ct_of (by decide +kernel) rfl (Nat.le_of_ble_eq_true rfl) rfl ?_
  have hl60 := hT.2.1.1
  have hp60 := hT.2.2.1.2
  have hv7 := hT.2.2.2.1.2
  have hro9 := hT.2.2.2.2.1.2
  have hco9 := hT.2.2.2.2.2.1.2
  have hnu9 := hT.2.2.2.2.2.2.1.2
  have hwl2 := hT.2.2.2.2.2.2.2.1.2
  have hcq9 := hT.2.2.2.2.2.2.2.2.1.2
  have hpt4 := hT.2.2.2.2.2.2.2.2.2.1.2
  have hrl3 := hT.2.2.2.2.2.2.2.2.2.2.2
  have hsg := @sg_le _ _ _ _ _ _ _ _ _ _ _ p hT
  refine V_aload_n (i := 0) dX1_readColour_0 rfl rfl ?_
  refine V_aload_n (i := 0) dX1_readColour_1 rfl rfl ?_
  refine V_getI (k := 2) dX1_readColour_2 (Or.inr ⟨rfl, Nat.le_of_ble_eq_true rfl⟩) rfl rfl rfl (Nat.le_of_ble_eq_true rfl) flRX1_19 ?_
  refine V_top (y := nI p) hT.2.2.1.1 ?_
  refine V_callVF dX1_readColour_5 (c_tsign hT (i := p) (by omega)) okX1_signAt lkRX1_154 (Or.inr ⟨rfl, Nat.le_of_ble_eq_true rfl⟩) rfl rfl rfl rfl (Nat.le_of_ble_eq_true rfl) ⟨Nat.le_of_ble_eq_true rfl, Nat.le_of_ble_eq_true rfl⟩ rfl ?_
  refine V_callSNF (host := "ButtonReef") dX1_readColour_8 (c_isColour (q := (sg l p)) (by omega)) okX10_isColour (by decide +kernel) rfl rfl (Nat.le_of_ble_eq_true rfl) ⟨Nat.le_of_ble_eq_true rfl, Nat.le_of_ble_eq_true rfl⟩ rfl ?_
  refine V_if_ne_n (tgt := 16) dX1_readColour_11 (by decide) (Nat.lt_of_lt_of_le ite_le (by decide)) (fun h11 => ?_) (fun h11 => ?_)
  · have hc9 := ite_t h11
    have hpl := sg_pos (l := l) (p := p) (by omega)
    refine V_aload_n (i := 0) dX1_readColour_16 rfl rfl ?_
    refine V_aload_n (i := 0) dX1_readColour_17 rfl rfl ?_
    refine V_aload_n (i := 0) dX1_readColour_18 rfl rfl ?_
    refine V_getI (k := 2) dX1_readColour_19 (Or.inr ⟨rfl, Nat.le_of_ble_eq_true rfl⟩) rfl rfl rfl (Nat.le_of_ble_eq_true rfl) flRX1_19 ?_
    refine V_top (y := nI p) hT.2.2.1.1 ?_
    refine V_callVF dX1_readColour_22 (c_tsign hT (i := p) (by omega)) okX1_signAt lkRX1_154 (Or.inr ⟨rfl, Nat.le_of_ble_eq_true rfl⟩) rfl rfl rfl rfl (Nat.le_of_ble_eq_true rfl) ⟨Nat.le_of_ble_eq_true rfl, Nat.le_of_ble_eq_true rfl⟩ rfl ?_
    refine V_putI (k := 8) (ty := .char) dX1_readColour_25 (Or.inr ⟨rfl, Nat.le_of_ble_eq_true rfl⟩) rfl rfl rfl (Nat.le_of_ble_eq_true rfl) flRX1_44 rfl (by decide +kernel) (nar_char (by omega)) (fit_char (by omega)) ?_
    refine V_aload_n (i := 0) dX1_readColour_28 rfl rfl ?_
    refine V_dup dX1_readColour_29 rfl ?_
    refine V_getI (k := 2) dX1_readColour_30 (Or.inr ⟨rfl, Nat.le_of_ble_eq_true rfl⟩) rfl rfl rfl (Nat.le_of_ble_eq_true rfl) flRX1_19 ?_
    refine V_top (y := nI p) (pI_ne (by omega) hT.2.2.1.1) ?_
    refine V_iconst_n (v := 1) dX1_readColour_33 (by decide) ?_
    refine V_iadd_n dX1_readColour_34 ?_
    refine V_putI (k := 2) (ty := .int) dX1_readColour_35 (Or.inr ⟨rfl, Nat.le_of_ble_eq_true rfl⟩) rfl rfl rfl (Nat.le_of_ble_eq_true rfl) flRX1_19 rfl (by decide +kernel) rfl rfl ?_
    refine V_iconst_n (v := 1) dX1_readColour_38 (by decide) ?_
    refine V_iret dX1_readColour_39 rfl (nar_bool (by omega)) ?_
    exact Or.inr (⟨decide_eq_true hc9, rfl, ⟨(OutI.wI (by omega) (by omega) (OutI.wI (by omega) (by omega) hT.1)), hT.2.1, ⟨pI_at, by omega⟩, ⟨hT.2.2.2.1.1, hT.2.2.2.1.2⟩, ⟨(pI_ne (by omega) (pI_ne (by omega) hT.2.2.2.2.1.1)), hT.2.2.2.2.1.2⟩, ⟨(pI_ne (by omega) (pI_ne (by omega) hT.2.2.2.2.2.1.1)), hT.2.2.2.2.2.1.2⟩, ⟨(pI_ne (by omega) (pI_ne (by omega) hT.2.2.2.2.2.2.1.1)), hT.2.2.2.2.2.2.1.2⟩, ⟨(pI_ne (by omega) (pI_ne (by omega) hT.2.2.2.2.2.2.2.1.1)), hT.2.2.2.2.2.2.2.1.2⟩, ⟨(pI_ne (by omega) pI_at), by omega, by omega⟩, ⟨hT.2.2.2.2.2.2.2.2.2.1.1, hT.2.2.2.2.2.2.2.2.2.1.2⟩, ⟨hT.2.2.2.2.2.2.2.2.2.2.1, hT.2.2.2.2.2.2.2.2.2.2.2⟩⟩, ((Fr.nil.i1 (Or.inl rfl)).i1 (Or.inl rfl))⟩)
  · have hc9 := ite_f h11
    refine V_iconst_n (v := 0) dX1_readColour_14 (by decide) ?_
    refine V_iret dX1_readColour_15 rfl (nar_bool (by omega)) ?_
    exact Or.inl ⟨decide_eq_false hc9, rfl, hT, Fr.nil⟩
theorem pt_lt {k : Nat} : ptL k < 128 := by unfold ptL; split <;> (try split) <;> (try split) <;> omega
set_option maxRecDepth 100000 in
set_option maxHeartbeats 1000000 in
theorem c_patternOf {q : Nat} {w : Wd} (hq : q < 65536) : Ct 1 MX10_patternOf 1 0 0 [.int (nI q)] w (fun o w1 => ((∀ k, k < 4 → ptL k ≠ q) ∧ o = Sum.inl (some Value.null) ∧ w1 = w) ∨ (∃ k, (k < 4 ∧ ptL k = q) ∧ o = Sum.inl (some (Value.ref (1010 + k))) ∧ w1 = w)) := by
  refine Ct_of (by decide +kernel) rfl (Nat.le_of_ble_eq_true rfl) rfl ?_
  have lp : ∀ (fu i : Nat) , i ≤ 4 → 4 - i < fu → (∀ k, k < i → ptL k ≠ q) → V 1 MX10_patternOf 1 0 0 (fun o w1 => ((∀ k, k < 4 → ptL k ≠ q) ∧ o = Sum.inl (some Value.null) ∧ w1 = w) ∨ (∃ k, (k < 4 ∧ ptL k = q) ∧ o = Sum.inl (some (Value.ref (1010 + k))) ∧ w1 = w)) (fun _ _ => True) 0 0 2 [some (.int (nI q)), some (.int (nI i))] [] w := by
    intro fu
    induction fu with
    | zero => intro i  h1 h2; omega
    | succ fu ih =>
      intro i  hib hfu hno
      refine V_iload_n (i := 1) dX10_patternOf_2 rfl rfl ?_
      refine V_gets dX10_patternOf_3 (List.mem_of_getElem? (i := 15) rfl) flRX10_398 ?_
      refine V_tlen (v := nI 4) dX10_patternOf_6 (List.mem_of_getElem? (i := 1) rfl) rfl ?_
      refine V_icmp_ge_n (tgt := 34) dX10_patternOf_7 (by decide) (by omega) (by omega) (fun h7 => ?_) (fun h7 => ?_)
      · refine V_null dX10_patternOf_34 ?_
        refine V_aretN dX10_patternOf_35 rfl ?_
        exact Or.inl ⟨fun k hk => hno k (by omega), rfl, rfl⟩
      · have hlt : ptL i < 128 := pt_lt
        refine V_gets dX10_patternOf_10 (List.mem_of_getElem? (i := 15) rfl) flRX10_398 ?_
        refine V_iload_n (i := 1) dX10_patternOf_13 rfl rfl ?_
        refine V_taald dX10_patternOf_14 (List.mem_of_getElem? (i := 1) rfl) (in_n (by omega) (by decide)) (arr_get (by omega)) ?_
        refine V_getK dX10_patternOf_15 (pt_letter (by omega)) flRX10_402 ?_
        refine V_iload_n (i := 0) dX10_patternOf_18 rfl rfl ?_
        refine V_icmp_ne_n (tgt := 28) dX10_patternOf_19 (by decide) (by omega) (by omega) (fun h19 => ?_) (fun h19 => ?_)
        · refine V_iinc_n (b := (i + 1)) dX10_patternOf_28 rfl (nI_add _ _) rfl rfl ?_
          refine V_goto (tgt := 2) dX10_patternOf_31 (by decide) ?_
          exact ih (i + 1) (by omega) (by omega) (fun k hk => (Decidable.em (k = i)).elim (fun e => by rw [e]; exact h19) (fun e => hno k (by omega)))
        · refine V_gets dX10_patternOf_22 (List.mem_of_getElem? (i := 15) rfl) flRX10_398 ?_
          refine V_iload_n (i := 1) dX10_patternOf_25 rfl rfl ?_
          refine V_taald dX10_patternOf_26 (List.mem_of_getElem? (i := 1) rfl) (in_n (by omega) (by decide)) (arr_get (by omega)) ?_
          refine V_aret dX10_patternOf_27 rfl ?_
          exact Or.inr ⟨i, ⟨by omega, h19⟩, rfl, rfl⟩
  refine V_iconst_n (v := 0) dX10_patternOf_0 (by decide) ?_
  refine V_istore_n (i := 1) dX10_patternOf_1 rfl (Nat.le_of_ble_eq_true rfl) rfl rfl ?_
  exact lp 5 0 (by omega) (by omega) (fun k hk => by omega)
theorem rl_lt {k : Nat} : rlL k < 128 := by unfold rlL; split <;> (try split) <;> (try split) <;> omega
set_option maxRecDepth 100000 in
set_option maxHeartbeats 1000000 in
theorem c_ruleOf {q : Nat} {w : Wd} (hq : q < 65536) : Ct 1 MX10_ruleOf 1 0 0 [.int (nI q)] w (fun o w1 => ((∀ k, k < 3 → rlL k ≠ q) ∧ o = Sum.inl (some Value.null) ∧ w1 = w) ∨ (∃ k, (k < 3 ∧ rlL k = q) ∧ o = Sum.inl (some (Value.ref (1000 + k))) ∧ w1 = w)) := by
  refine Ct_of (by decide +kernel) rfl (Nat.le_of_ble_eq_true rfl) rfl ?_
  have lp : ∀ (fu i : Nat) , i ≤ 3 → 3 - i < fu → (∀ k, k < i → rlL k ≠ q) → V 1 MX10_ruleOf 1 0 0 (fun o w1 => ((∀ k, k < 3 → rlL k ≠ q) ∧ o = Sum.inl (some Value.null) ∧ w1 = w) ∨ (∃ k, (k < 3 ∧ rlL k = q) ∧ o = Sum.inl (some (Value.ref (1000 + k))) ∧ w1 = w)) (fun _ _ => True) 0 0 2 [some (.int (nI q)), some (.int (nI i))] [] w := by
    intro fu
    induction fu with
    | zero => intro i  h1 h2; omega
    | succ fu ih =>
      intro i  hib hfu hno
      refine V_iload_n (i := 1) dX10_ruleOf_2 rfl rfl ?_
      refine V_gets dX10_ruleOf_3 (List.mem_of_getElem? (i := 14) rfl) flRX10_394 ?_
      refine V_tlen (v := nI 3) dX10_ruleOf_6 (List.mem_of_getElem? (i := 0) rfl) rfl ?_
      refine V_icmp_ge_n (tgt := 34) dX10_ruleOf_7 (by decide) (by omega) (by omega) (fun h7 => ?_) (fun h7 => ?_)
      · refine V_null dX10_ruleOf_34 ?_
        refine V_aretN dX10_ruleOf_35 rfl ?_
        exact Or.inl ⟨fun k hk => hno k (by omega), rfl, rfl⟩
      · have hlt : rlL i < 128 := rl_lt
        refine V_gets dX10_ruleOf_10 (List.mem_of_getElem? (i := 14) rfl) flRX10_394 ?_
        refine V_iload_n (i := 1) dX10_ruleOf_13 rfl rfl ?_
        refine V_taald dX10_ruleOf_14 (List.mem_of_getElem? (i := 0) rfl) (in_n (by omega) (by decide)) (arr_get (by omega)) ?_
        refine V_getK dX10_ruleOf_15 (rl_letter (by omega)) flRX10_238 ?_
        refine V_iload_n (i := 0) dX10_ruleOf_18 rfl rfl ?_
        refine V_icmp_ne_n (tgt := 28) dX10_ruleOf_19 (by decide) (by omega) (by omega) (fun h19 => ?_) (fun h19 => ?_)
        · refine V_iinc_n (b := (i + 1)) dX10_ruleOf_28 rfl (nI_add _ _) rfl rfl ?_
          refine V_goto (tgt := 2) dX10_ruleOf_31 (by decide) ?_
          exact ih (i + 1) (by omega) (by omega) (fun k hk => (Decidable.em (k = i)).elim (fun e => by rw [e]; exact h19) (fun e => hno k (by omega)))
        · refine V_gets dX10_ruleOf_22 (List.mem_of_getElem? (i := 14) rfl) flRX10_394 ?_
          refine V_iload_n (i := 1) dX10_ruleOf_25 rfl rfl ?_
          refine V_taald dX10_ruleOf_26 (List.mem_of_getElem? (i := 0) rfl) (in_n (by omega) (by decide)) (arr_get (by omega)) ?_
          refine V_aret dX10_ruleOf_27 rfl ?_
          exact Or.inr ⟨i, ⟨by omega, h19⟩, rfl, rfl⟩
  refine V_iconst_n (v := 0) dX10_ruleOf_0 (by decide) ?_
  refine V_istore_n (i := 1) dX10_ruleOf_1 rfl (Nat.le_of_ble_eq_true rfl) rfl rfl ?_
  exact lp 4 0 (by omega) (by omega) (fun k hk => by omega)
set_option maxRecDepth 100000 in
set_option maxHeartbeats 1000000 in
theorem c_readPattern {l : List Nat} {p v ro co nu wl cq pt rl : Nat} {w : Wd} (hT : TxW w l p v ro co nu wl cq pt rl) : Ct 1 MX1_readPattern 3 0 0 [.ref 45] w (fun o w1 => (isP (sg l p) = false ∧ o = Sum.inl (some (Value.int (nI 0))) ∧ TxW w1 l p v ro co nu wl cq pt rl ∧ Fr In45 w w1) ∨ (isP (sg l p) = true ∧ o = Sum.inl (some (Value.int (nI 1))) ∧ TxW w1 l (p + 1) v ro co nu wl cq (ptN (sg l p)) rl ∧ Fr In45 w w1)) := by
  refine Ct_of (by decide +kernel) rfl (Nat.le_of_ble_eq_true rfl) rfl ?_
  have hl60 := hT.2.1.1
  have hp60 := hT.2.2.1.2
  have hv7 := hT.2.2.2.1.2
  have hro9 := hT.2.2.2.2.1.2
  have hco9 := hT.2.2.2.2.2.1.2
  have hnu9 := hT.2.2.2.2.2.2.1.2
  have hwl2 := hT.2.2.2.2.2.2.2.1.2
  have hcq9 := hT.2.2.2.2.2.2.2.2.1.2
  have hpt4 := hT.2.2.2.2.2.2.2.2.2.1.2
  have hrl3 := hT.2.2.2.2.2.2.2.2.2.2.2
  have hsg := @sg_le _ _ _ _ _ _ _ _ _ _ _ p hT
  refine V_aload_n (i := 0) dX1_readPattern_0 rfl rfl ?_
  refine V_aload_n (i := 0) dX1_readPattern_1 rfl rfl ?_
  refine V_getI (k := 2) dX1_readPattern_2 (Or.inr ⟨rfl, Nat.le_of_ble_eq_true rfl⟩) rfl rfl rfl (Nat.le_of_ble_eq_true rfl) flRX1_19 ?_
  refine V_top (y := nI p) hT.2.2.1.1 ?_
  refine V_callVF dX1_readPattern_5 (c_tsign hT (i := p) (by omega)) okX1_signAt lkRX1_154 (Or.inr ⟨rfl, Nat.le_of_ble_eq_true rfl⟩) rfl rfl rfl rfl (Nat.le_of_ble_eq_true rfl) ⟨Nat.le_of_ble_eq_true rfl, Nat.le_of_ble_eq_true rfl⟩ rfl ?_
  refine V_callSN (host := "ButtonReef") dX1_readPattern_8 (c_patternOf (q := (sg l p)) (by omega)) okX10_patternOf (by decide +kernel) rfl rfl (Nat.le_of_ble_eq_true rfl) ⟨Nat.le_of_ble_eq_true rfl, Nat.le_of_ble_eq_true rfl⟩ rfl ⟨Nat.zero_le _, Nat.zero_le _⟩ (fun v9 u1 hu1 => ?_) (fun E9 w9 h9 => by rcases h9 with h9 | ⟨k9, h9⟩ <;> cases h9.2.1)
  rcases hu1 with ⟨hu1f, e9, hu1⟩ | ⟨k9, hk9, e9, hu1⟩
  · cases e9
    subst hu1
    refine V_astore_nN (i := 1) dX1_readPattern_11 rfl (Nat.le_of_ble_eq_true rfl) rfl rfl ?_
    refine V_aload_nN (i := 1) dX1_readPattern_12 rfl rfl ?_
    refine V_ifnonnullN dX1_readPattern_13 ?_
    refine V_iconst_n (v := 0) dX1_readPattern_16 (by decide) ?_
    refine V_iret dX1_readPattern_17 rfl (nar_bool (by omega)) ?_
    exact Or.inl ⟨isP_no hu1f, rfl, hT, Fr.nil⟩
  · cases e9
    subst hu1
    have hip := ptL_isP hk9.1
    rw [hk9.2] at hip
    have hpl := sg_pos (l := l) (p := p) (by have := pt_pos (k := k9); omega)
    refine V_astore_n (i := 1) dX1_readPattern_11 rfl (Nat.le_of_ble_eq_true rfl) rfl rfl ?_
    refine V_aload_n (i := 1) dX1_readPattern_12 rfl rfl ?_
    refine V_ifnonnull (tgt := 18) dX1_readPattern_13 (by decide) ?_
    refine V_aload_n (i := 0) dX1_readPattern_18 rfl rfl ?_
    refine V_aload_n (i := 1) dX1_readPattern_19 rfl rfl ?_
    refine V_putR (k := 9) (ty := tyX1 9) dX1_readPattern_20 (Or.inr ⟨rfl, Nat.le_of_ble_eq_true rfl⟩) rfl rfl rfl (Nat.le_of_ble_eq_true rfl) flRX1_54 (Or.inl rfl) (by decide +kernel) (fun _ => rfl) (fun _ => rfl) ?_
    refine V_aload_n (i := 0) dX1_readPattern_23 rfl rfl ?_
    refine V_dup dX1_readPattern_24 rfl ?_
    refine V_getI (k := 2) dX1_readPattern_25 (Or.inr ⟨rfl, Nat.le_of_ble_eq_true rfl⟩) rfl rfl rfl (Nat.le_of_ble_eq_true rfl) flRX1_19 ?_
    refine V_top (y := nI p) hT.2.2.1.1 ?_
    refine V_iconst_n (v := 1) dX1_readPattern_28 (by decide) ?_
    refine V_iadd_n dX1_readPattern_29 ?_
    refine V_putI (k := 2) (ty := .int) dX1_readPattern_30 (Or.inr ⟨rfl, Nat.le_of_ble_eq_true rfl⟩) rfl rfl rfl (Nat.le_of_ble_eq_true rfl) flRX1_19 rfl (by decide +kernel) rfl rfl ?_
    refine V_iconst_n (v := 1) dX1_readPattern_33 (by decide) ?_
    refine V_iret dX1_readPattern_34 rfl (nar_bool (by omega)) ?_
    have e9 := hip.2
    exact Or.inr (⟨hip.1, rfl, (by rw [e9]; exact ⟨(OutI.wI (by omega) (by omega) (OutI.wR hT.1)), hT.2.1, ⟨pI_at, by omega⟩, ⟨(pR_ne (by omega) hT.2.2.2.1.1), hT.2.2.2.1.2⟩, ⟨(pI_ne (by omega) hT.2.2.2.2.1.1), hT.2.2.2.2.1.2⟩, ⟨(pI_ne (by omega) hT.2.2.2.2.2.1.1), hT.2.2.2.2.2.1.2⟩, ⟨(pI_ne (by omega) hT.2.2.2.2.2.2.1.1), hT.2.2.2.2.2.2.1.2⟩, ⟨(pI_ne (by omega) hT.2.2.2.2.2.2.2.1.1), hT.2.2.2.2.2.2.2.1.2⟩, ⟨(pI_ne (by omega) hT.2.2.2.2.2.2.2.2.1.1), hT.2.2.2.2.2.2.2.2.1.2⟩, ⟨pR_at, by omega⟩, ⟨(pR_ne (by omega) hT.2.2.2.2.2.2.2.2.2.2.1), hT.2.2.2.2.2.2.2.2.2.2.2⟩⟩), ((Fr.nil.r1 (Or.inl rfl)).i1 (Or.inl rfl))⟩)
set_option maxRecDepth 100000 in
set_option maxHeartbeats 1000000 in
theorem c_readCell {l : List Nat} {p v ro co nu wl cq pt rl : Nat} {w : Wd} (hT : TxW w l p v ro co nu wl cq pt rl) : Ct 1 MX1_readCell 3 0 0 [.ref 45] w (fun o w1 => (isD (sg l p) = false ∧ o = Sum.inl (some (Value.int (nI 0))) ∧ TxW w1 l p v ro co nu wl cq pt rl ∧ Fr In45 w w1) ∨ ((isD (sg l p) = true ∧ isD (sg l (p + 1)) = false) ∧ o = Sum.inl (some (Value.int (nI 0))) ∧ TxW w1 l (p + 1) v (sg l p - 48) co nu wl cq pt rl ∧ Fr In45 w w1) ∨ ((isD (sg l p) = true ∧ isD (sg l (p + 1)) = true) ∧ o = Sum.inl (some (Value.int (nI 1))) ∧ TxW w1 l (p + 2) v (sg l p - 48) (sg l (p + 1) - 48) nu wl cq pt rl ∧ Fr In45 w w1)) := by
  refine Ct_of (by decide +kernel) rfl (Nat.le_of_ble_eq_true rfl) rfl ?_
  have hl60 := hT.2.1.1
  have hp60 := hT.2.2.1.2
  have hv7 := hT.2.2.2.1.2
  have hro9 := hT.2.2.2.2.1.2
  have hco9 := hT.2.2.2.2.2.1.2
  have hnu9 := hT.2.2.2.2.2.2.1.2
  have hwl2 := hT.2.2.2.2.2.2.2.1.2
  have hcq9 := hT.2.2.2.2.2.2.2.2.1.2
  have hpt4 := hT.2.2.2.2.2.2.2.2.2.1.2
  have hrl3 := hT.2.2.2.2.2.2.2.2.2.2.2
  have hsg := @sg_le _ _ _ _ _ _ _ _ _ _ _ p hT
  have hsg1 := @sg_le _ _ _ _ _ _ _ _ _ _ _ (p + 1) hT
  refine V_aload_n (i := 0) dX1_readCell_0 rfl rfl ?_
  refine V_callV dX1_readCell_1 (c_hasDigit hT) okX1_hasDigit lkRX1_148 (Or.inr ⟨rfl, Nat.le_of_ble_eq_true rfl⟩) rfl rfl rfl rfl (Nat.le_of_ble_eq_true rfl) ⟨Nat.le_of_ble_eq_true rfl, Nat.le_of_ble_eq_true rfl⟩ rfl ⟨Nat.zero_le _, Nat.zero_le _⟩ (fun v9 u1 hu1 => ?_) (fun E9 w9 h9 => by rcases h9 with h9 | h9 <;> cases h9.2.1)
  rcases hu1 with ⟨hu1f, e9, hu1⟩ | ⟨hu1f, e9, hu1⟩
  · cases e9
    subst hu1
    refine V_if_ne_n (tgt := 9) dX1_readCell_4 (by decide) (by omega) (fun h4 => by exfalso; omega) (fun h4 => ?_)
    refine V_iconst_n (v := 0) dX1_readCell_7 (by decide) ?_
    refine V_iret dX1_readCell_8 rfl (nar_bool (by omega)) ?_
    exact Or.inl ⟨hu1f, rfl, hT, Fr.nil⟩
  · cases e9
    subst hu1
    refine V_if_ne_n (tgt := 9) dX1_readCell_4 (by decide) (by omega) (fun h4 => ?_) (fun h4 => by exfalso; omega)
    have hd8 := of_decide_eq_true hu1f
    have hpl := sg_pos (l := l) (p := p) (by omega)
    refine V_aload_n (i := 0) dX1_readCell_9 rfl rfl ?_
    refine V_aload_n (i := 0) dX1_readCell_10 rfl rfl ?_
    refine V_callVM dX1_readCell_11 (c_nextDigit hT hu1f) okX1_nextDigit lkRX1_151 (Or.inr ⟨rfl, Nat.le_of_ble_eq_true rfl⟩) rfl rfl rfl rfl (Nat.le_of_ble_eq_true rfl) ⟨Nat.le_of_ble_eq_true rfl, Nat.le_of_ble_eq_true rfl⟩ rfl ?_
    intro u2 hu2
    refine V_putI (k := 4) (ty := .int) dX1_readCell_14 (Or.inr ⟨rfl, Nat.le_of_ble_eq_true rfl⟩) rfl rfl rfl (Nat.le_of_ble_eq_true rfl) flRX1_31 rfl (by decide +kernel) rfl rfl ?_
    refine V_aload_n (i := 0) dX1_readCell_17 rfl rfl ?_
    refine V_callV dX1_readCell_18 (c_hasDigit (show TxW _ l (p + 1) v (sg l p - 48) co nu wl cq pt rl from ⟨(OutI.wI (by omega) (by omega) hu2.1.1), hu2.1.2.1, ⟨(pI_ne (by omega) hu2.1.2.2.1.1), hu2.1.2.2.1.2⟩, ⟨hu2.1.2.2.2.1.1, hu2.1.2.2.2.1.2⟩, ⟨pI_at, by omega⟩, ⟨(pI_ne (by omega) hu2.1.2.2.2.2.2.1.1), hu2.1.2.2.2.2.2.1.2⟩, ⟨(pI_ne (by omega) hu2.1.2.2.2.2.2.2.1.1), hu2.1.2.2.2.2.2.2.1.2⟩, ⟨(pI_ne (by omega) hu2.1.2.2.2.2.2.2.2.1.1), hu2.1.2.2.2.2.2.2.2.1.2⟩, ⟨(pI_ne (by omega) hu2.1.2.2.2.2.2.2.2.2.1.1), hu2.1.2.2.2.2.2.2.2.2.1.2⟩, ⟨hu2.1.2.2.2.2.2.2.2.2.2.1.1, hu2.1.2.2.2.2.2.2.2.2.2.1.2⟩, ⟨hu2.1.2.2.2.2.2.2.2.2.2.2.1, hu2.1.2.2.2.2.2.2.2.2.2.2.2⟩⟩)) okX1_hasDigit lkRX1_148 (Or.inr ⟨rfl, Nat.le_of_ble_eq_true rfl⟩) rfl rfl rfl rfl (Nat.le_of_ble_eq_true rfl) ⟨Nat.le_of_ble_eq_true rfl, Nat.le_of_ble_eq_true rfl⟩ rfl ⟨Nat.zero_le _, Nat.zero_le _⟩ (fun v9 u3 hu3 => ?_) (fun E9 w9 h9 => by rcases h9 with h9 | h9 <;> cases h9.2.1)
    rcases hu3 with ⟨hu3f, e9, hu3⟩ | ⟨hu3f, e9, hu3⟩
    · cases e9
      subst hu3
      refine V_if_ne_n (tgt := 26) dX1_readCell_21 (by decide) (by omega) (fun h21 => by exfalso; omega) (fun h21 => ?_)
      refine V_iconst_n (v := 0) dX1_readCell_24 (by decide) ?_
      refine V_iret dX1_readCell_25 rfl (nar_bool (by omega)) ?_
      exact Or.inr (Or.inl ⟨⟨hu1f, hu3f⟩, rfl, ⟨(OutI.wI (by omega) (by omega) hu2.1.1), hu2.1.2.1, ⟨(pI_ne (by omega) hu2.1.2.2.1.1), hu2.1.2.2.1.2⟩, ⟨hu2.1.2.2.2.1.1, hu2.1.2.2.2.1.2⟩, ⟨pI_at, by omega⟩, ⟨(pI_ne (by omega) hu2.1.2.2.2.2.2.1.1), hu2.1.2.2.2.2.2.1.2⟩, ⟨(pI_ne (by omega) hu2.1.2.2.2.2.2.2.1.1), hu2.1.2.2.2.2.2.2.1.2⟩, ⟨(pI_ne (by omega) hu2.1.2.2.2.2.2.2.2.1.1), hu2.1.2.2.2.2.2.2.2.1.2⟩, ⟨(pI_ne (by omega) hu2.1.2.2.2.2.2.2.2.2.1.1), hu2.1.2.2.2.2.2.2.2.2.1.2⟩, ⟨hu2.1.2.2.2.2.2.2.2.2.2.1.1, hu2.1.2.2.2.2.2.2.2.2.2.1.2⟩, ⟨hu2.1.2.2.2.2.2.2.2.2.2.2.1, hu2.1.2.2.2.2.2.2.2.2.2.2.2⟩⟩, (hu2.2.trans (Fr.nil.i1 (Or.inl rfl)))⟩)
    · cases e9
      subst hu3
      refine V_if_ne_n (tgt := 26) dX1_readCell_21 (by decide) (by omega) (fun h21 => ?_) (fun h21 => by exfalso; omega)
      have hd7 := of_decide_eq_true hu3f
      have hpl1 := sg_pos (l := l) (p := p + 1) (by omega)
      refine V_aload_n (i := 0) dX1_readCell_26 rfl rfl ?_
      refine V_aload_n (i := 0) dX1_readCell_27 rfl rfl ?_
      refine V_callVM dX1_readCell_28 (c_nextDigit (show TxW _ l (p + 1) v (sg l p - 48) co nu wl cq pt rl from ⟨(OutI.wI (by omega) (by omega) hu2.1.1), hu2.1.2.1, ⟨(pI_ne (by omega) hu2.1.2.2.1.1), hu2.1.2.2.1.2⟩, ⟨hu2.1.2.2.2.1.1, hu2.1.2.2.2.1.2⟩, ⟨pI_at, by omega⟩, ⟨(pI_ne (by omega) hu2.1.2.2.2.2.2.1.1), hu2.1.2.2.2.2.2.1.2⟩, ⟨(pI_ne (by omega) hu2.1.2.2.2.2.2.2.1.1), hu2.1.2.2.2.2.2.2.1.2⟩, ⟨(pI_ne (by omega) hu2.1.2.2.2.2.2.2.2.1.1), hu2.1.2.2.2.2.2.2.2.1.2⟩, ⟨(pI_ne (by omega) hu2.1.2.2.2.2.2.2.2.2.1.1), hu2.1.2.2.2.2.2.2.2.2.1.2⟩, ⟨hu2.1.2.2.2.2.2.2.2.2.2.1.1, hu2.1.2.2.2.2.2.2.2.2.2.1.2⟩, ⟨hu2.1.2.2.2.2.2.2.2.2.2.2.1, hu2.1.2.2.2.2.2.2.2.2.2.2.2⟩⟩) hu3f) okX1_nextDigit lkRX1_151 (Or.inr ⟨rfl, Nat.le_of_ble_eq_true rfl⟩) rfl rfl rfl rfl (Nat.le_of_ble_eq_true rfl) ⟨Nat.le_of_ble_eq_true rfl, Nat.le_of_ble_eq_true rfl⟩ rfl ?_
      intro u4 hu4
      refine V_putI (k := 5) (ty := .int) dX1_readCell_31 (Or.inr ⟨rfl, Nat.le_of_ble_eq_true rfl⟩) rfl rfl rfl (Nat.le_of_ble_eq_true rfl) flRX1_34 rfl (by decide +kernel) rfl rfl ?_
      refine V_iconst_n (v := 1) dX1_readCell_34 (by decide) ?_
      refine V_iret dX1_readCell_35 rfl (nar_bool (by omega)) ?_
      exact Or.inr (Or.inr (⟨⟨hu1f, hu3f⟩, rfl, ⟨(OutI.wI (by omega) (by omega) hu4.1.1), hu4.1.2.1, ⟨(pI_ne (by omega) hu4.1.2.2.1.1), hu4.1.2.2.1.2⟩, ⟨hu4.1.2.2.2.1.1, hu4.1.2.2.2.1.2⟩, ⟨(pI_ne (by omega) hu4.1.2.2.2.2.1.1), hu4.1.2.2.2.2.1.2⟩, ⟨pI_at, by omega⟩, ⟨(pI_ne (by omega) hu4.1.2.2.2.2.2.2.1.1), hu4.1.2.2.2.2.2.2.1.2⟩, ⟨(pI_ne (by omega) hu4.1.2.2.2.2.2.2.2.1.1), hu4.1.2.2.2.2.2.2.2.1.2⟩, ⟨(pI_ne (by omega) hu4.1.2.2.2.2.2.2.2.2.1.1), hu4.1.2.2.2.2.2.2.2.2.1.2⟩, ⟨hu4.1.2.2.2.2.2.2.2.2.2.1.1, hu4.1.2.2.2.2.2.2.2.2.2.1.2⟩, ⟨hu4.1.2.2.2.2.2.2.2.2.2.2.1, hu4.1.2.2.2.2.2.2.2.2.2.2.2⟩⟩, (((hu2.2.trans (Fr.nil.i1 (Or.inl rfl))).trans hu4.2).trans (Fr.nil.i1 (Or.inl rfl)))⟩))
set_option maxRecDepth 100000 in
set_option maxHeartbeats 1000000 in
theorem c_readNumber {l : List Nat} {p v ro co nu wl cq pt rl : Nat} {w : Wd} (hT : TxW w l p v ro co nu wl cq pt rl) : Ct 1 MX1_readNumber 3 0 0 [.ref 45] w (fun o w1 => (isD (sg l p) = false ∧ o = Sum.inl (some (Value.int (nI 0))) ∧ TxW w1 l p v ro co nu wl cq pt rl ∧ Fr In45 w w1) ∨ ((isD (sg l p) = true ∧ isD (sg l (p + 1)) = false) ∧ o = Sum.inl (some (Value.int (nI 1))) ∧ TxW w1 l (p + 1) v ro co (sg l p - 48) wl cq pt rl ∧ Fr In45 w w1) ∨ ((isD (sg l p) = true ∧ isD (sg l (p + 1)) = true) ∧ o = Sum.inl (some (Value.int (nI 1))) ∧ TxW w1 l (p + 2) v ro co (10 * (sg l p - 48) + (sg l (p + 1) - 48)) wl cq pt rl ∧ Fr In45 w w1)) := by
  refine Ct_of (by decide +kernel) rfl (Nat.le_of_ble_eq_true rfl) rfl ?_
  have hl60 := hT.2.1.1
  have hp60 := hT.2.2.1.2
  have hv7 := hT.2.2.2.1.2
  have hro9 := hT.2.2.2.2.1.2
  have hco9 := hT.2.2.2.2.2.1.2
  have hnu9 := hT.2.2.2.2.2.2.1.2
  have hwl2 := hT.2.2.2.2.2.2.2.1.2
  have hcq9 := hT.2.2.2.2.2.2.2.2.1.2
  have hpt4 := hT.2.2.2.2.2.2.2.2.2.1.2
  have hrl3 := hT.2.2.2.2.2.2.2.2.2.2.2
  have hsg := @sg_le _ _ _ _ _ _ _ _ _ _ _ p hT
  have hsg1 := @sg_le _ _ _ _ _ _ _ _ _ _ _ (p + 1) hT
  refine V_aload_n (i := 0) dX1_readNumber_0 rfl rfl ?_
  refine V_callV dX1_readNumber_1 (c_hasDigit hT) okX1_hasDigit lkRX1_148 (Or.inr ⟨rfl, Nat.le_of_ble_eq_true rfl⟩) rfl rfl rfl rfl (Nat.le_of_ble_eq_true rfl) ⟨Nat.le_of_ble_eq_true rfl, Nat.le_of_ble_eq_true rfl⟩ rfl ⟨Nat.zero_le _, Nat.zero_le _⟩ (fun v9 u1 hu1 => ?_) (fun E9 w9 h9 => by rcases h9 with h9 | h9 <;> cases h9.2.1)
  rcases hu1 with ⟨hu1f, e9, hu1⟩ | ⟨hu1f, e9, hu1⟩
  · cases e9
    subst hu1
    refine V_if_ne_n (tgt := 9) dX1_readNumber_4 (by decide) (by omega) (fun h4 => by exfalso; omega) (fun h4 => ?_)
    refine V_iconst_n (v := 0) dX1_readNumber_7 (by decide) ?_
    refine V_iret dX1_readNumber_8 rfl (nar_bool (by omega)) ?_
    exact Or.inl ⟨hu1f, rfl, hT, Fr.nil⟩
  · cases e9
    subst hu1
    refine V_if_ne_n (tgt := 9) dX1_readNumber_4 (by decide) (by omega) (fun h4 => ?_) (fun h4 => by exfalso; omega)
    have hd8 := of_decide_eq_true hu1f
    have hpl := sg_pos (l := l) (p := p) (by omega)
    refine V_aload_n (i := 0) dX1_readNumber_9 rfl rfl ?_
    refine V_aload_n (i := 0) dX1_readNumber_10 rfl rfl ?_
    refine V_callVM dX1_readNumber_11 (c_nextDigit hT hu1f) okX1_nextDigit lkRX1_151 (Or.inr ⟨rfl, Nat.le_of_ble_eq_true rfl⟩) rfl rfl rfl rfl (Nat.le_of_ble_eq_true rfl) ⟨Nat.le_of_ble_eq_true rfl, Nat.le_of_ble_eq_true rfl⟩ rfl ?_
    intro u2 hu2
    refine V_putI (k := 6) (ty := .int) dX1_readNumber_14 (Or.inr ⟨rfl, Nat.le_of_ble_eq_true rfl⟩) rfl rfl rfl (Nat.le_of_ble_eq_true rfl) flRX1_37 rfl (by decide +kernel) rfl rfl ?_
    refine V_aload_n (i := 0) dX1_readNumber_17 rfl rfl ?_
    refine V_callV dX1_readNumber_18 (c_hasDigit (show TxW _ l (p + 1) v ro co (sg l p - 48) wl cq pt rl from ⟨(OutI.wI (by omega) (by omega) hu2.1.1), hu2.1.2.1, ⟨(pI_ne (by omega) hu2.1.2.2.1.1), hu2.1.2.2.1.2⟩, ⟨hu2.1.2.2.2.1.1, hu2.1.2.2.2.1.2⟩, ⟨(pI_ne (by omega) hu2.1.2.2.2.2.1.1), hu2.1.2.2.2.2.1.2⟩, ⟨(pI_ne (by omega) hu2.1.2.2.2.2.2.1.1), hu2.1.2.2.2.2.2.1.2⟩, ⟨pI_at, by omega⟩, ⟨(pI_ne (by omega) hu2.1.2.2.2.2.2.2.2.1.1), hu2.1.2.2.2.2.2.2.2.1.2⟩, ⟨(pI_ne (by omega) hu2.1.2.2.2.2.2.2.2.2.1.1), hu2.1.2.2.2.2.2.2.2.2.1.2⟩, ⟨hu2.1.2.2.2.2.2.2.2.2.2.1.1, hu2.1.2.2.2.2.2.2.2.2.2.1.2⟩, ⟨hu2.1.2.2.2.2.2.2.2.2.2.2.1, hu2.1.2.2.2.2.2.2.2.2.2.2.2⟩⟩)) okX1_hasDigit lkRX1_148 (Or.inr ⟨rfl, Nat.le_of_ble_eq_true rfl⟩) rfl rfl rfl rfl (Nat.le_of_ble_eq_true rfl) ⟨Nat.le_of_ble_eq_true rfl, Nat.le_of_ble_eq_true rfl⟩ rfl ⟨Nat.zero_le _, Nat.zero_le _⟩ (fun v9 u3 hu3 => ?_) (fun E9 w9 h9 => by rcases h9 with h9 | h9 <;> cases h9.2.1)
    rcases hu3 with ⟨hu3f, e9, hu3⟩ | ⟨hu3f, e9, hu3⟩
    · cases e9
      subst hu3
      refine V_if_eq_n (tgt := 40) dX1_readNumber_21 (by decide) (by omega) (fun h21 => ?_) (fun h21 => by exfalso; omega)
      refine V_iconst_n (v := 1) dX1_readNumber_40 (by decide) ?_
      refine V_iret dX1_readNumber_41 rfl (nar_bool (by omega)) ?_
      exact Or.inr (Or.inl ⟨⟨hu1f, hu3f⟩, rfl, ⟨(OutI.wI (by omega) (by omega) hu2.1.1), hu2.1.2.1, ⟨(pI_ne (by omega) hu2.1.2.2.1.1), hu2.1.2.2.1.2⟩, ⟨hu2.1.2.2.2.1.1, hu2.1.2.2.2.1.2⟩, ⟨(pI_ne (by omega) hu2.1.2.2.2.2.1.1), hu2.1.2.2.2.2.1.2⟩, ⟨(pI_ne (by omega) hu2.1.2.2.2.2.2.1.1), hu2.1.2.2.2.2.2.1.2⟩, ⟨pI_at, by omega⟩, ⟨(pI_ne (by omega) hu2.1.2.2.2.2.2.2.2.1.1), hu2.1.2.2.2.2.2.2.2.1.2⟩, ⟨(pI_ne (by omega) hu2.1.2.2.2.2.2.2.2.2.1.1), hu2.1.2.2.2.2.2.2.2.2.1.2⟩, ⟨hu2.1.2.2.2.2.2.2.2.2.2.1.1, hu2.1.2.2.2.2.2.2.2.2.2.1.2⟩, ⟨hu2.1.2.2.2.2.2.2.2.2.2.2.1, hu2.1.2.2.2.2.2.2.2.2.2.2.2⟩⟩, (hu2.2.trans (Fr.nil.i1 (Or.inl rfl)))⟩)
    · cases e9
      subst hu3
      refine V_if_eq_n (tgt := 40) dX1_readNumber_21 (by decide) (by omega) (fun h21 => by exfalso; omega) (fun h21 => ?_)
      have hd7 := of_decide_eq_true hu3f
      have hpl1 := sg_pos (l := l) (p := p + 1) (by omega)
      refine V_aload_n (i := 0) dX1_readNumber_24 rfl rfl ?_
      refine V_bipush_n (v := 10) dX1_readNumber_25 (by decide) ?_
      refine V_aload_n (i := 0) dX1_readNumber_27 rfl rfl ?_
      refine V_getI (k := 6) dX1_readNumber_28 (Or.inr ⟨rfl, Nat.le_of_ble_eq_true rfl⟩) rfl rfl rfl (Nat.le_of_ble_eq_true rfl) flRX1_37 ?_
      refine V_top (y := nI (sg l p - 48)) pI_at ?_
      refine V_imul_n dX1_readNumber_31 ?_
      refine V_aload_n (i := 0) dX1_readNumber_32 rfl rfl ?_
      refine V_callVM dX1_readNumber_33 (c_nextDigit (show TxW _ l (p + 1) v ro co (sg l p - 48) wl cq pt rl from ⟨(OutI.wI (by omega) (by omega) hu2.1.1), hu2.1.2.1, ⟨(pI_ne (by omega) hu2.1.2.2.1.1), hu2.1.2.2.1.2⟩, ⟨hu2.1.2.2.2.1.1, hu2.1.2.2.2.1.2⟩, ⟨(pI_ne (by omega) hu2.1.2.2.2.2.1.1), hu2.1.2.2.2.2.1.2⟩, ⟨(pI_ne (by omega) hu2.1.2.2.2.2.2.1.1), hu2.1.2.2.2.2.2.1.2⟩, ⟨pI_at, by omega⟩, ⟨(pI_ne (by omega) hu2.1.2.2.2.2.2.2.2.1.1), hu2.1.2.2.2.2.2.2.2.1.2⟩, ⟨(pI_ne (by omega) hu2.1.2.2.2.2.2.2.2.2.1.1), hu2.1.2.2.2.2.2.2.2.2.1.2⟩, ⟨hu2.1.2.2.2.2.2.2.2.2.2.1.1, hu2.1.2.2.2.2.2.2.2.2.2.1.2⟩, ⟨hu2.1.2.2.2.2.2.2.2.2.2.2.1, hu2.1.2.2.2.2.2.2.2.2.2.2.2⟩⟩) hu3f) okX1_nextDigit lkRX1_151 (Or.inr ⟨rfl, Nat.le_of_ble_eq_true rfl⟩) rfl rfl rfl rfl (Nat.le_of_ble_eq_true rfl) ⟨Nat.le_of_ble_eq_true rfl, Nat.le_of_ble_eq_true rfl⟩ rfl ?_
      intro u4 hu4
      refine V_iadd_n dX1_readNumber_36 ?_
      refine V_putI (k := 6) (ty := .int) dX1_readNumber_37 (Or.inr ⟨rfl, Nat.le_of_ble_eq_true rfl⟩) rfl rfl rfl (Nat.le_of_ble_eq_true rfl) flRX1_37 rfl (by decide +kernel) rfl rfl ?_
      refine V_iconst_n (v := 1) dX1_readNumber_40 (by decide) ?_
      refine V_iret dX1_readNumber_41 rfl (nar_bool (by omega)) ?_
      exact Or.inr (Or.inr (⟨⟨hu1f, hu3f⟩, rfl, ⟨(OutI.wI (by omega) (by omega) hu4.1.1), hu4.1.2.1, ⟨(pI_ne (by omega) hu4.1.2.2.1.1), hu4.1.2.2.1.2⟩, ⟨hu4.1.2.2.2.1.1, hu4.1.2.2.2.1.2⟩, ⟨(pI_ne (by omega) hu4.1.2.2.2.2.1.1), hu4.1.2.2.2.2.1.2⟩, ⟨(pI_ne (by omega) hu4.1.2.2.2.2.2.1.1), hu4.1.2.2.2.2.2.1.2⟩, ⟨pI_at, by omega⟩, ⟨(pI_ne (by omega) hu4.1.2.2.2.2.2.2.2.1.1), hu4.1.2.2.2.2.2.2.2.1.2⟩, ⟨(pI_ne (by omega) hu4.1.2.2.2.2.2.2.2.2.1.1), hu4.1.2.2.2.2.2.2.2.2.1.2⟩, ⟨hu4.1.2.2.2.2.2.2.2.2.2.1.1, hu4.1.2.2.2.2.2.2.2.2.2.1.2⟩, ⟨hu4.1.2.2.2.2.2.2.2.2.2.2.1, hu4.1.2.2.2.2.2.2.2.2.2.2.2⟩⟩, (((hu2.2.trans (Fr.nil.i1 (Or.inl rfl))).trans hu4.2).trans (Fr.nil.i1 (Or.inl rfl)))⟩))
set_option maxRecDepth 100000 in
set_option maxHeartbeats 1000000 in
theorem c_countMatching {t : Nat} {l : List Nat} {p v ro co nu wl cq pt rl : Nat} {w : Wd} (hT : TxW w l p v ro co nu wl cq pt rl) (ht : IsT t) : Ct 1 MX1_countMatching 5 0 0 [.ref 45, .ref t] w (Rt (some (.int (nI (lk l p t)))) w) := by
  refine Ct_of (by decide +kernel) rfl (Nat.le_of_ble_eq_true rfl) rfl ?_
  have hl60 := hT.2.1.1
  have hp60 := hT.2.2.1.2
  have hv7 := hT.2.2.2.1.2
  have hro9 := hT.2.2.2.2.1.2
  have hco9 := hT.2.2.2.2.2.1.2
  have hnu9 := hT.2.2.2.2.2.2.1.2
  have hwl2 := hT.2.2.2.2.2.2.2.1.2
  have hcq9 := hT.2.2.2.2.2.2.2.2.1.2
  have hpt4 := hT.2.2.2.2.2.2.2.2.2.1.2
  have hrl3 := hT.2.2.2.2.2.2.2.2.2.2.2
  have hsg := @sg_le _ _ _ _ _ _ _ _ _ _ _ p hT
  have hlt := tx_len ht
  have lp : ∀ (fu i : Nat) , i ≤ (tx t).length → (tx t).length - i < fu → mtc l p (tx t) i = i → V 1 MX1_countMatching 5 0 0 (Rt (some (.int (nI (lk l p t)))) w) (fun _ _ => True) 0 0 2 [some (.ref 45), some (.ref t), some (.int (nI i))] [] w := by
    intro fu
    induction fu with
    | zero => intro i  h1 h2; omega
    | succ fu ih =>
      intro i  hib hfu hmi
      have hlt := tx_len ht
      refine V_iload_n (i := 2) dX1_countMatching_2 rfl rfl ?_
      refine V_aload_n (i := 1) dX1_countMatching_3 rfl rfl ?_
      refine V_callVOF dX1_countMatching_4 (c_length ht) okJ0_length_8abf5 lkRX1_136 (tx_O ht) rfl rfl (Nat.le_of_ble_eq_true rfl) ⟨Nat.le_of_ble_eq_true rfl, Nat.le_of_ble_eq_true rfl⟩ rfl ?_
      refine V_icmp_ge_n (tgt := 34) dX1_countMatching_7 (by decide) (by omega) (by omega) (fun h7 => ?_) (fun h7 => ?_)
      · refine V_iload_n (i := 2) dX1_countMatching_34 rfl rfl ?_
        refine V_iret dX1_countMatching_35 rfl rfl ?_
        obtain rfl : i = (tx t).length := by omega
        exact ⟨by rw [show lk l p t = (tx t).length from hmi], rfl⟩
      · have has := tx_asc ht i (by omega)
        have hsi := @sg_le _ _ _ _ _ _ _ _ _ _ _ (p + i) hT
        refine V_aload_n (i := 0) dX1_countMatching_10 rfl rfl ?_
        refine V_aload_n (i := 0) dX1_countMatching_11 rfl rfl ?_
        refine V_getI (k := 2) dX1_countMatching_12 (Or.inr ⟨rfl, Nat.le_of_ble_eq_true rfl⟩) rfl rfl rfl (Nat.le_of_ble_eq_true rfl) flRX1_19 ?_
        refine V_top (y := nI p) hT.2.2.1.1 ?_
        refine V_iload_n (i := 2) dX1_countMatching_15 rfl rfl ?_
        refine V_iadd_n dX1_countMatching_16 ?_
        refine V_callVF dX1_countMatching_17 (c_tsign hT (i := (p + i)) (by omega)) okX1_signAt lkRX1_154 (Or.inr ⟨rfl, Nat.le_of_ble_eq_true rfl⟩) rfl rfl rfl rfl (Nat.le_of_ble_eq_true rfl) ⟨Nat.le_of_ble_eq_true rfl, Nat.le_of_ble_eq_true rfl⟩ rfl ?_
        refine V_aload_n (i := 1) dX1_countMatching_20 rfl rfl ?_
        refine V_iload_n (i := 2) dX1_countMatching_21 rfl rfl ?_
        refine V_callVOF dX1_countMatching_22 (c_charAt ht (i := i) (by omega)) okJ0_charAt_5068e lkRX1_165 (tx_O ht) rfl rfl (Nat.le_of_ble_eq_true rfl) ⟨Nat.le_of_ble_eq_true rfl, Nat.le_of_ble_eq_true rfl⟩ rfl ?_
        refine V_icmp_ne_n (tgt := 34) dX1_countMatching_25 (by decide) (by omega) (by omega) (fun h25 => ?_) (fun h25 => ?_)
        · refine V_iload_n (i := 2) dX1_countMatching_34 rfl rfl ?_
          refine V_iret dX1_countMatching_35 rfl rfl ?_
          exact ⟨by rw [lk_stop (by omega) hmi h25], rfl⟩
        · refine V_iinc_n (b := (i + 1)) dX1_countMatching_28 rfl (nI_add _ _) rfl rfl ?_
          refine V_goto (tgt := 2) dX1_countMatching_31 (by decide) ?_
          exact ih (i + 1) (by omega) (by omega) (by rw [mtc_s, if_pos ⟨hmi, h25⟩])
  refine V_iconst_n (v := 0) dX1_countMatching_0 (by decide) ?_
  refine V_istore_n (i := 2) dX1_countMatching_1 rfl (Nat.le_of_ble_eq_true rfl) rfl rfl ?_
  exact lp ((tx t).length + 1) 0 (by omega) (by omega) rfl
set_option maxRecDepth 100000 in
set_option maxHeartbeats 1000000 in
theorem c_rewind {l : List Nat} {p v ro co nu wl cq pt rl : Nat} {w : Wd} (hT : TxW w l p v ro co nu wl cq pt rl) : Ct 1 MX1_rewind 1 0 0 [.ref 45] w (Mt none fun w1 => TxW w1 l 0 v ro co nu wl cq pt rl ∧ Fr In45 w w1) := by
  refine Ct_of (by decide +kernel) rfl (Nat.le_of_ble_eq_true rfl) rfl ?_
  have hl60 := hT.2.1.1
  have hp60 := hT.2.2.1.2
  have hv7 := hT.2.2.2.1.2
  have hro9 := hT.2.2.2.2.1.2
  have hco9 := hT.2.2.2.2.2.1.2
  have hnu9 := hT.2.2.2.2.2.2.1.2
  have hwl2 := hT.2.2.2.2.2.2.2.1.2
  have hcq9 := hT.2.2.2.2.2.2.2.2.1.2
  have hpt4 := hT.2.2.2.2.2.2.2.2.2.1.2
  have hrl3 := hT.2.2.2.2.2.2.2.2.2.2.2
  have hsg := @sg_le _ _ _ _ _ _ _ _ _ _ _ p hT
  refine V_aload_n (i := 0) dX1_rewind_0 rfl rfl ?_
  refine V_iconst_n (v := 0) dX1_rewind_1 (by decide) ?_
  refine V_putI (k := 2) (ty := .int) dX1_rewind_2 (Or.inr ⟨rfl, Nat.le_of_ble_eq_true rfl⟩) rfl rfl rfl (Nat.le_of_ble_eq_true rfl) flRX1_19 rfl (by decide +kernel) rfl rfl ?_
  refine V_vret dX1_rewind_5 rfl ?_
  exact ⟨rfl, ⟨(OutI.wI (by omega) (by omega) hT.1), hT.2.1, ⟨pI_at, by omega⟩, ⟨hT.2.2.2.1.1, hT.2.2.2.1.2⟩, ⟨(pI_ne (by omega) hT.2.2.2.2.1.1), hT.2.2.2.2.1.2⟩, ⟨(pI_ne (by omega) hT.2.2.2.2.2.1.1), hT.2.2.2.2.2.1.2⟩, ⟨(pI_ne (by omega) hT.2.2.2.2.2.2.1.1), hT.2.2.2.2.2.2.1.2⟩, ⟨(pI_ne (by omega) hT.2.2.2.2.2.2.2.1.1), hT.2.2.2.2.2.2.2.1.2⟩, ⟨(pI_ne (by omega) hT.2.2.2.2.2.2.2.2.1.1), hT.2.2.2.2.2.2.2.2.1.2⟩, ⟨hT.2.2.2.2.2.2.2.2.2.1.1, hT.2.2.2.2.2.2.2.2.2.1.2⟩, ⟨hT.2.2.2.2.2.2.2.2.2.2.1, hT.2.2.2.2.2.2.2.2.2.2.2⟩⟩, (Fr.nil.i1 (Or.inl rfl))⟩
end MCMD
