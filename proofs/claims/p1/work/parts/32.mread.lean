/-! THE PLAIN FORM: what reads it. Printed by wip/whole/gen/mk32.py. -/
section MREAD
theorem ite_iff {p q : Prop} [Decidable p] [Decidable q] (h : p ↔ q) : (if p then 1 else 0 : Nat) = if q then 1 else 0 := by
  by_cases hp : p
  · rw [if_pos hp, if_pos (h.mp hp)]
  · rw [if_neg hp, if_neg (fun z => hp (h.mpr z))]
set_option maxRecDepth 100000 in
set_option maxHeartbeats 1000000 in
theorem m_isCell {x y : Int32} {r c : Int} {w : Wd} (hx : x = zI r) (hy : y = zI c) (r1 : -2147483648 ≤ r) (r2 : r < 2147483648) (c1 : -2147483648 ≤ c) (c2 : c < 2147483648) : Ct 1 MX11_isCell 2 0 0 [.int x, .int y] w (Rt (some (.int (nI (if 0 ≤ r ∧ r < 8 ∧ 0 ≤ c ∧ c < 8 then 1 else 0)))) w) := by
  refine Ct_of (by decide +kernel) rfl (Nat.le_of_ble_eq_true rfl) rfl ?_
  subst hx hy
  refine V_iload_n (i := 0) dX11_isCell_0 rfl rfl ?_
  refine V_i2l dX11_isCell_1 ?_
  refine V_topL (y := zL (r)) (zI_zL (by omega) (by omega)) ?_
  refine V_lconst (v := zL 0) dX11_isCell_2 (by decide) ?_
  refine V_ldc2 dX11_isCell_3 csRX11_91 ?_
  refine V_topL (y := zL 7) (by decide) ?_
  refine V_callSF dX11_isCell_6 (c_in (a := (r)) (b := 0) (c := 7) (by omega) (by omega) (by omega) (by omega) (by omega) (by omega)) okX11_in lkRX11_93 rfl rfl (Nat.le_of_ble_eq_true rfl) ⟨Nat.le_of_ble_eq_true rfl, Nat.le_of_ble_eq_true rfl⟩ rfl ?_
  refine V_if_eq_n (tgt := 28) dX11_isCell_9 (by decide) (Nat.lt_of_lt_of_le ite_le (by decide)) (fun h9 => ?_) (fun h9 => ?_)
  · have hi9 := ite_f h9
    refine V_iconst_n (v := 0) dX11_isCell_28 (by decide) ?_
    refine V_iret dX11_isCell_29 rfl (nar_bool (by omega)) ?_
    exact ⟨by grind, rfl⟩
  · have hi9 := ite_t h9
    refine V_iload_n (i := 1) dX11_isCell_12 rfl rfl ?_
    refine V_i2l dX11_isCell_13 ?_
    refine V_topL (y := zL (c)) (zI_zL (by omega) (by omega)) ?_
    refine V_lconst (v := zL 0) dX11_isCell_14 (by decide) ?_
    refine V_ldc2 dX11_isCell_15 csRX11_91 ?_
    refine V_topL (y := zL 7) (by decide) ?_
    refine V_callSF dX11_isCell_18 (c_in (a := (c)) (b := 0) (c := 7) (by omega) (by omega) (by omega) (by omega) (by omega) (by omega)) okX11_in lkRX11_93 rfl rfl (Nat.le_of_ble_eq_true rfl) ⟨Nat.le_of_ble_eq_true rfl, Nat.le_of_ble_eq_true rfl⟩ rfl ?_
    refine V_if_eq_n (tgt := 28) dX11_isCell_21 (by decide) (Nat.lt_of_lt_of_le ite_le (by decide)) (fun h21 => ?_) (fun h21 => ?_)
    · have hi21 := ite_f h21
      refine V_iconst_n (v := 0) dX11_isCell_28 (by decide) ?_
      refine V_iret dX11_isCell_29 rfl (nar_bool (by omega)) ?_
      exact ⟨by grind, rfl⟩
    · have hi21 := ite_t h21
      refine V_iconst_n (v := 1) dX11_isCell_24 (by decide) ?_
      refine V_goto (tgt := 29) dX11_isCell_25 (by decide) ?_
      refine V_iret dX11_isCell_29 rfl (nar_bool (by omega)) ?_
      exact ⟨by grind, rfl⟩
set_option maxRecDepth 100000 in
set_option maxHeartbeats 1000000 in
theorem m_isColour {x : Int32} {q : Int} {w : Wd} (hx : x = zI q) (q1 : -2147483648 ≤ q) (q2 : q < 2147483648) : Ct 1 MX11_isColour 2 0 0 [.int x] w (Rt (some (.int (nI (if 97 ≤ q ∧ q ≤ 100 then 1 else 0)))) w) := by
  refine Ct_of (by decide +kernel) rfl (Nat.le_of_ble_eq_true rfl) rfl ?_
  subst hx
  refine V_iload_n (i := 0) dX11_isColour_0 rfl rfl ?_
  refine V_i2l dX11_isColour_1 ?_
  refine V_topL (y := zL (q)) (zI_zL (by omega) (by omega)) ?_
  refine V_ldc2 dX11_isColour_2 csRX11_97 ?_
  refine V_topL (y := zL 97) (by decide) ?_
  refine V_ldc2 dX11_isColour_5 csRX11_99 ?_
  refine V_topL (y := zL 100) (by decide) ?_
  refine V_callSF dX11_isColour_8 (c_in (a := (q)) (b := 97) (c := 100) (by omega) (by omega) (by omega) (by omega) (by omega) (by omega)) okX11_in lkRX11_93 rfl rfl (Nat.le_of_ble_eq_true rfl) ⟨Nat.le_of_ble_eq_true rfl, Nat.le_of_ble_eq_true rfl⟩ rfl ?_
  refine V_iret dX11_isColour_11 rfl (nar_bool ite_le) ?_
  exact ⟨rfl, rfl⟩
set_option maxRecDepth 100000 in
set_option maxHeartbeats 1000000 in
theorem m_cellOf {x y : Int32} {r c : Nat} {w : Wd} (hx : x = nI r) (hy : y = nI c) : Ct 1 MX11_cellOf 1 0 0 [.int x, .int y] w (Rt (some (.int (nI (8 * r + c)))) w) := by
  refine Ct_of (by decide +kernel) rfl (Nat.le_of_ble_eq_true rfl) rfl ?_
  subst hx hy
  refine V_bipush_n (v := 8) dX11_cellOf_0 (by decide) ?_
  refine V_iload_n (i := 0) dX11_cellOf_2 rfl rfl ?_
  refine V_imul_n dX11_cellOf_3 ?_
  refine V_iload_n (i := 1) dX11_cellOf_4 rfl rfl ?_
  refine V_iadd_n dX11_cellOf_5 ?_
  refine V_iret dX11_cellOf_6 rfl rfl ?_
  exact ⟨rfl, rfl⟩
set_option maxRecDepth 100000 in
set_option maxHeartbeats 1000000 in
theorem m_thrown {n : Nat} {w : Wd} (h : gI w 47 9 = nI n) : Ct 1 MX11_thrown 1 0 0 [.ref 47] w (Rt (some (.int (nI n))) w) := by
  refine Ct_of (by decide +kernel) rfl (Nat.le_of_ble_eq_true rfl) rfl ?_
  refine V_aload_n (i := 0) dX11_thrown_0 rfl rfl ?_
  refine V_getI (k := 9) dX11_thrown_1 (Or.inr ⟨rfl, Nat.le_of_ble_eq_true rfl⟩) rfl rfl rfl (Nat.le_of_ble_eq_true rfl) flRX11_66 ?_
  refine V_top (y := nI n) h ?_
  refine V_iret dX11_thrown_4 rfl rfl ?_
  exact ⟨rfl, rfl⟩
set_option maxRecDepth 100000 in
set_option maxHeartbeats 1000000 in
theorem m_throwing {n : Nat} {w : Wd} : Ct 1 MX11_throwing 1 0 0 [.ref 47, .int (nI n)] w (Mt (some (.int (zI (-1)))) fun w1 => gI w1 47 9 = nI n ∧ Fz PTh w w1) := by
  refine Ct_of (by decide +kernel) rfl (Nat.le_of_ble_eq_true rfl) rfl ?_
  refine V_aload_n (i := 0) dX11_throwing_0 rfl rfl ?_
  refine V_iload_n (i := 1) dX11_throwing_1 rfl rfl ?_
  refine V_putI (k := 9) (ty := .int) dX11_throwing_2 (Or.inr ⟨rfl, Nat.le_of_ble_eq_true rfl⟩) rfl rfl rfl (Nat.le_of_ble_eq_true rfl) flRX11_66 rfl (by decide +kernel) rfl rfl ?_
  refine V_iconst_z (v := -1) dX11_throwing_5 (by decide) ?_
  refine V_iret dX11_throwing_6 rfl rfl ?_
  exact ⟨rfl, pI_at, Fz.nil.i1 (by omega) (by unfold PTh; omega)⟩
set_option maxRecDepth 100000 in
set_option maxHeartbeats 1000000 in
theorem m_rejecting {n y : Nat} {x : Int32} {w : Wd} : Ct 1 MX11_rejecting 2 0 0 [.ref 47, .int (nI n), .int (nI y), .int x] w (Mt (some (.int (zI (-1)))) fun w1 => gI w1 47 9 = nI n ∧ gI w1 47 15 = nI y ∧ gI w1 47 16 = x ∧ Fz PRj w w1) := by
  refine Ct_of (by decide +kernel) rfl (Nat.le_of_ble_eq_true rfl) rfl ?_
  refine V_aload_n (i := 0) dX11_rejecting_0 rfl rfl ?_
  refine V_iload_n (i := 2) dX11_rejecting_1 rfl rfl ?_
  refine V_putI (k := 15) (ty := .int) dX11_rejecting_2 (Or.inr ⟨rfl, Nat.le_of_ble_eq_true rfl⟩) rfl rfl rfl (Nat.le_of_ble_eq_true rfl) flRX11_69 rfl (by decide +kernel) rfl rfl ?_
  refine V_aload_n (i := 0) dX11_rejecting_5 rfl rfl ?_
  refine V_iload_n (i := 3) dX11_rejecting_6 rfl rfl ?_
  refine V_putI (k := 16) (ty := .int) dX11_rejecting_7 (Or.inr ⟨rfl, Nat.le_of_ble_eq_true rfl⟩) rfl rfl rfl (Nat.le_of_ble_eq_true rfl) flRX11_72 rfl (by decide +kernel) rfl rfl ?_
  refine V_aload_n (i := 0) dX11_rejecting_10 rfl rfl ?_
  refine V_iload_n (i := 1) dX11_rejecting_11 rfl rfl ?_
  refine V_callVM dX11_rejecting_12 (m_throwing (w := _) (n := n)) okX11_throwing lkRX11_75 (Or.inr ⟨rfl, Nat.le_of_ble_eq_true rfl⟩) rfl rfl rfl rfl (Nat.le_of_ble_eq_true rfl) ⟨Nat.le_of_ble_eq_true rfl, Nat.le_of_ble_eq_true rfl⟩ rfl ?_
  intro u1 hu1
  refine V_iret dX11_rejecting_15 rfl rfl ?_
  exact ⟨rfl, hu1.1, (hu1.2.gi (by omega)).trans (pI_ne (by omega) pI_at), (hu1.2.gi (by omega)).trans pI_at, ((Fz.nil (P := PRj)).i1 (by omega) (by unfold PRj; omega)).i1 (by omega) (by unfold PRj; omega) |>.trans (hu1.2.mono (fun b j q => by unfold PRj; omega))⟩
set_option maxRecDepth 100000 in
set_option maxHeartbeats 1000000 in
theorem m_at {k : Nat} {s : St} {w : Wd} (hM : Bk w 48 0 s) (hk : k < 64) : Ct 1 MX11_at 1 0 0 [.ref 47, .int (nI k)] w (Rt (some (.int (nI (s.1 k)))) w) := by
  refine Ct_of (by decide +kernel) rfl (Nat.le_of_ble_eq_true rfl) rfl ?_
  refine V_aload_n (i := 0) dX11_at_0 rfl rfl ?_
  refine V_getC (k := 0) (q := 48) dX11_at_1 (Or.inr ⟨rfl, Nat.le_of_ble_eq_true rfl⟩) rfl rfl rfl (Nat.le_of_ble_eq_true rfl) flRX11_9 ?_
  refine V_bipush_n (v := 7) dX11_at_4 (by decide) ?_
  refine V_iload_n (i := 1) dX11_at_6 rfl rfl ?_
  refine V_iadd_n dX11_at_7 ?_
  refine V_iald_n (i := (7 + k)) dX11_at_8 (Or.inr ⟨rfl, Nat.le_of_ble_eq_true rfl⟩) rfl (by omega) (by decide) ?_
  refine V_top (y := nI (s.1 k)) (hM.at0 (k := k) (by omega)) ?_
  refine V_iret dX11_at_9 rfl rfl ?_
  exact ⟨rfl, rfl⟩
theorem kc_in {v : Nat} (h1 : 10 ≤ v) (h2 : v < 50) : 97 ≤ kc v ∧ kc v ≤ 100 ∧ kc v = 97 + (v - 10) / 10 ∧ ag v = (v - 10) % 10 := by
  unfold kc ag
  rw [if_neg (by omega), if_neg (by omega), if_neg (by omega)]
  omega
set_option maxRecDepth 100000 in
set_option maxHeartbeats 1000000 in
theorem m_colourOf {v : Nat} {w : Wd} (h1 : 10 ≤ v) (h2 : v < 50) : Ct 1 MX11_colourOf 1 0 0 [.int (nI v)] w (Rt (some (.int (nI (kc v)))) w) := by
  refine Ct_of (by decide +kernel) rfl (Nat.le_of_ble_eq_true rfl) rfl ?_
  have hk := kc_in h1 h2
  refine V_bipush_n (v := 97) dX11_colourOf_0 (by decide) ?_
  refine V_iload_n (i := 0) dX11_colourOf_2 rfl rfl ?_
  refine V_bipush_n (v := 10) dX11_colourOf_3 (by decide) ?_
  refine V_isub_n dX11_colourOf_5 (by omega) ?_
  refine V_bipush_n (v := 10) dX11_colourOf_6 (by decide) ?_
  refine V_idiv_n dX11_colourOf_8 (by omega) (by omega) (by omega) ?_
  refine V_iadd_n dX11_colourOf_9 ?_
  refine V_iret dX11_colourOf_10 rfl rfl ?_
  exact ⟨by rw [hk.2.2.1], rfl⟩
set_option maxRecDepth 100000 in
set_option maxHeartbeats 1000000 in
theorem m_living {x y : Int32} {q g : Nat} {w : Wd} (hx : x = nI q) (hy : y = nI g) (hq : 97 ≤ q) : Ct 1 MX11_living 1 0 0 [.int x, .int y] w (Rt (some (.int (nI (10 + 10 * (q - 97) + g)))) w) := by
  refine Ct_of (by decide +kernel) rfl (Nat.le_of_ble_eq_true rfl) rfl ?_
  subst hx hy
  refine V_bipush_n (v := 10) dX11_living_0 (by decide) ?_
  refine V_bipush_n (v := 10) dX11_living_2 (by decide) ?_
  refine V_iload_n (i := 0) dX11_living_4 rfl rfl ?_
  refine V_bipush_n (v := 97) dX11_living_5 (by decide) ?_
  refine V_isub_n dX11_living_7 (by omega) ?_
  refine V_imul_n dX11_living_8 ?_
  refine V_iadd_n dX11_living_9 ?_
  refine V_iload_n (i := 1) dX11_living_10 rfl rfl ?_
  refine V_iadd_n dX11_living_11 ?_
  refine V_iret dX11_living_12 rfl rfl ?_
  exact ⟨rfl, rfl⟩
set_option maxRecDepth 100000 in
set_option maxHeartbeats 1000000 in
theorem m_isLivingAt {k : Nat} {s : St} {w : Wd} (hM : Bk w 48 0 s) (hk : k < 64) : Ct 1 MX11_isLivingAt 2 0 0 [.ref 47, .int (nI k)] w (Rt (some (.int (nI (if 10 ≤ s.1 k then 1 else 0)))) w) := by
  refine Ct_of (by decide +kernel) rfl (Nat.le_of_ble_eq_true rfl) rfl ?_
  refine V_aload_n (i := 0) dX11_isLivingAt_0 rfl rfl ?_
  refine V_iload_n (i := 1) dX11_isLivingAt_1 rfl rfl ?_
  have hv1 := hM.1.1 (k) (by omega)
  unfold okc at hv1
  refine V_callVF dX11_isLivingAt_2 (m_at hM (k := k) (by omega)) okX11_at lkRX11_101 (Or.inr ⟨rfl, Nat.le_of_ble_eq_true rfl⟩) rfl rfl rfl rfl (Nat.le_of_ble_eq_true rfl) ⟨Nat.le_of_ble_eq_true rfl, Nat.le_of_ble_eq_true rfl⟩ rfl ?_
  refine V_bipush_n (v := 10) dX11_isLivingAt_5 (by decide) ?_
  refine V_icmp_lt_n (tgt := 14) dX11_isLivingAt_7 (by decide) (by omega) (by omega) (fun h7 => ?_) (fun h7 => ?_)
  · refine V_iconst_n (v := 0) dX11_isLivingAt_14 (by decide) ?_
    refine V_iret dX11_isLivingAt_15 rfl (nar_bool (by omega)) ?_
    exact ⟨by grind, rfl⟩
  · refine V_iconst_n (v := 1) dX11_isLivingAt_10 (by decide) ?_
    refine V_goto (tgt := 15) dX11_isLivingAt_11 (by decide) ?_
    refine V_iret dX11_isLivingAt_15 rfl (nar_bool (by omega)) ?_
    exact ⟨by grind, rfl⟩
def rlZ (q : Int) : Int := if q = 99 then 0 else if q = 98 then 1 else if q = 115 then 2 else -1
theorem rlZ_in {q : Int} : -1 ≤ rlZ q ∧ rlZ q < 3 := by unfold rlZ; split <;> (try split) <;> (try split) <;> omega
theorem rlZ_R {q : Nat} (h : isR q = true) : rlZ q = (rlN q : Int) := by
  have := of_decide_eq_true h
  unfold rlZ rlN
  rcases this with rfl | rfl | rfl <;> rfl
theorem rlZ_no {q : Nat} (h : isR q = false) : rlZ q = -1 := by
  have := of_decide_eq_false h
  unfold rlZ
  rw [if_neg (by omega), if_neg (by omega), if_neg (by omega)]
def ptZ (q : Int) : Int := if q = 113 then 0 else if q = 108 then 1 else if q = 120 then 2 else if q = 103 then 3 else -1
theorem ptZ_in {q : Int} : -1 ≤ ptZ q ∧ ptZ q < 4 := by unfold ptZ; split <;> (try split) <;> (try split) <;> (try split) <;> omega
theorem ptZ_P {q : Nat} (h : isP q = true) : ptZ q = (ptN q : Int) := by
  have := of_decide_eq_true h
  unfold ptZ ptN
  rcases this with rfl | rfl | rfl | rfl <;> rfl
theorem ptZ_no {q : Nat} (h : isP q = false) : ptZ q = -1 := by
  have := of_decide_eq_false h
  unfold ptZ
  rw [if_neg (by omega), if_neg (by omega), if_neg (by omega), if_neg (by omega)]
set_option maxRecDepth 100000 in
set_option maxHeartbeats 1000000 in
theorem m_ruleOf {x : Int32} {q : Int} {w : Wd} (hx : x = zI q) (q1 : -2147483648 ≤ q) (q2 : q < 2147483648) : Ct 1 MX11_ruleOf 1 0 0 [.int x] w (Rt (some (.int (zI (rlZ q)))) w) := by
  refine Ct_of (by decide +kernel) rfl (Nat.le_of_ble_eq_true rfl) rfl ?_
  subst hx
  refine V_iload_n (i := 0) dX11_ruleOf_0 rfl rfl ?_
  refine V_bipush_n (v := 99) dX11_ruleOf_1 (by decide) ?_
  refine V_icmp_ne_z (tgt := 10) dX11_ruleOf_3 (by decide) rfl (zI_n _) (by omega) (by omega) (by omega) (by omega) (fun h3 => ?_) (fun h3 => ?_)
  · refine V_iload_n (i := 0) dX11_ruleOf_10 rfl rfl ?_
    refine V_bipush_n (v := 98) dX11_ruleOf_11 (by decide) ?_
    refine V_icmp_ne_z (tgt := 20) dX11_ruleOf_13 (by decide) rfl (zI_n _) (by omega) (by omega) (by omega) (by omega) (fun h13 => ?_) (fun h13 => ?_)
    · refine V_iload_n (i := 0) dX11_ruleOf_20 rfl rfl ?_
      refine V_bipush_n (v := 115) dX11_ruleOf_21 (by decide) ?_
      refine V_icmp_ne_z (tgt := 30) dX11_ruleOf_23 (by decide) rfl (zI_n _) (by omega) (by omega) (by omega) (by omega) (fun h23 => ?_) (fun h23 => ?_)
      · refine V_iconst_z (v := -1) dX11_ruleOf_30 (by decide) ?_
        refine V_iret dX11_ruleOf_31 rfl rfl ?_
        exact ⟨by rw [show rlZ q = (-1) by unfold rlZ; grind], rfl⟩
      · refine V_iconst_n (v := 2) dX11_ruleOf_26 (by decide) ?_
        refine V_goto (tgt := 31) dX11_ruleOf_27 (by decide) ?_
        refine V_iret dX11_ruleOf_31 rfl rfl ?_
        exact ⟨by rw [show rlZ q = ((2 : Nat) : Int) by unfold rlZ; grind]; rfl, rfl⟩
    · refine V_iconst_n (v := 1) dX11_ruleOf_16 (by decide) ?_
      refine V_goto (tgt := 31) dX11_ruleOf_17 (by decide) ?_
      refine V_iret dX11_ruleOf_31 rfl rfl ?_
      exact ⟨by rw [show rlZ q = ((1 : Nat) : Int) by unfold rlZ; grind]; rfl, rfl⟩
  · refine V_iconst_n (v := 0) dX11_ruleOf_6 (by decide) ?_
    refine V_goto (tgt := 31) dX11_ruleOf_7 (by decide) ?_
    refine V_iret dX11_ruleOf_31 rfl rfl ?_
    exact ⟨by rw [show rlZ q = ((0 : Nat) : Int) by unfold rlZ; grind]; rfl, rfl⟩
set_option maxRecDepth 100000 in
set_option maxHeartbeats 1000000 in
theorem m_patternOf {x : Int32} {q : Int} {w : Wd} (hx : x = zI q) (q1 : -2147483648 ≤ q) (q2 : q < 2147483648) : Ct 1 MX11_patternOf 1 0 0 [.int x] w (Rt (some (.int (zI (ptZ q)))) w) := by
  refine Ct_of (by decide +kernel) rfl (Nat.le_of_ble_eq_true rfl) rfl ?_
  subst hx
  refine V_iload_n (i := 0) dX11_patternOf_0 rfl rfl ?_
  refine V_bipush_n (v := 113) dX11_patternOf_1 (by decide) ?_
  refine V_icmp_ne_z (tgt := 10) dX11_patternOf_3 (by decide) rfl (zI_n _) (by omega) (by omega) (by omega) (by omega) (fun h3 => ?_) (fun h3 => ?_)
  · refine V_iload_n (i := 0) dX11_patternOf_10 rfl rfl ?_
    refine V_bipush_n (v := 108) dX11_patternOf_11 (by decide) ?_
    refine V_icmp_ne_z (tgt := 20) dX11_patternOf_13 (by decide) rfl (zI_n _) (by omega) (by omega) (by omega) (by omega) (fun h13 => ?_) (fun h13 => ?_)
    · refine V_iload_n (i := 0) dX11_patternOf_20 rfl rfl ?_
      refine V_bipush_n (v := 120) dX11_patternOf_21 (by decide) ?_
      refine V_icmp_ne_z (tgt := 30) dX11_patternOf_23 (by decide) rfl (zI_n _) (by omega) (by omega) (by omega) (by omega) (fun h23 => ?_) (fun h23 => ?_)
      · refine V_iload_n (i := 0) dX11_patternOf_30 rfl rfl ?_
        refine V_bipush_n (v := 103) dX11_patternOf_31 (by decide) ?_
        refine V_icmp_ne_z (tgt := 40) dX11_patternOf_33 (by decide) rfl (zI_n _) (by omega) (by omega) (by omega) (by omega) (fun h33 => ?_) (fun h33 => ?_)
        · refine V_iconst_z (v := -1) dX11_patternOf_40 (by decide) ?_
          refine V_iret dX11_patternOf_41 rfl rfl ?_
          exact ⟨by rw [show ptZ q = (-1) by unfold ptZ; grind], rfl⟩
        · refine V_iconst_n (v := 3) dX11_patternOf_36 (by decide) ?_
          refine V_goto (tgt := 41) dX11_patternOf_37 (by decide) ?_
          refine V_iret dX11_patternOf_41 rfl rfl ?_
          exact ⟨by rw [show ptZ q = ((3 : Nat) : Int) by unfold ptZ; grind]; rfl, rfl⟩
      · refine V_iconst_n (v := 2) dX11_patternOf_26 (by decide) ?_
        refine V_goto (tgt := 41) dX11_patternOf_27 (by decide) ?_
        refine V_iret dX11_patternOf_41 rfl rfl ?_
        exact ⟨by rw [show ptZ q = ((2 : Nat) : Int) by unfold ptZ; grind]; rfl, rfl⟩
    · refine V_iconst_n (v := 1) dX11_patternOf_16 (by decide) ?_
      refine V_goto (tgt := 41) dX11_patternOf_17 (by decide) ?_
      refine V_iret dX11_patternOf_41 rfl rfl ?_
      exact ⟨by rw [show ptZ q = ((1 : Nat) : Int) by unfold ptZ; grind]; rfl, rfl⟩
  · refine V_iconst_n (v := 0) dX11_patternOf_6 (by decide) ?_
    refine V_goto (tgt := 41) dX11_patternOf_7 (by decide) ?_
    refine V_iret dX11_patternOf_41 rfl rfl ?_
    exact ⟨by rw [show ptZ q = ((0 : Nat) : Int) by unfold ptZ; grind]; rfl, rfl⟩
set_option maxRecDepth 100000 in
set_option maxHeartbeats 1000000 in
theorem m_letterOf {r : Nat} {w : Wd} (hr : r < 3) : Ct 1 MX11_letterOf 1 0 0 [.int (nI r)] w (Rt (some (.int (nI (rlL r)))) w) := by
  refine Ct_of (by decide +kernel) rfl (Nat.le_of_ble_eq_true rfl) rfl ?_
  refine V_iload_n (i := 0) dX11_letterOf_0 rfl rfl ?_
  refine V_if_ne_n (tgt := 9) dX11_letterOf_1 (by decide) (by omega) (fun h1 => ?_) (fun h1 => ?_)
  · refine V_iload_n (i := 0) dX11_letterOf_9 rfl rfl ?_
    refine V_iconst_n (v := 1) dX11_letterOf_10 (by decide) ?_
    refine V_icmp_ne_n (tgt := 19) dX11_letterOf_11 (by decide) (by omega) (by omega) (fun h11 => ?_) (fun h11 => ?_)
    · refine V_bipush_n (v := 115) dX11_letterOf_19 (by decide) ?_
      refine V_iret dX11_letterOf_21 rfl rfl ?_
      exact ⟨by rw [show rlL r = 115 by unfold rlL; grind], rfl⟩
    · refine V_bipush_n (v := 98) dX11_letterOf_14 (by decide) ?_
      refine V_goto (tgt := 21) dX11_letterOf_16 (by decide) ?_
      refine V_iret dX11_letterOf_21 rfl rfl ?_
      exact ⟨by rw [show rlL r = 98 by unfold rlL; grind], rfl⟩
  · refine V_bipush_n (v := 99) dX11_letterOf_4 (by decide) ?_
    refine V_goto (tgt := 21) dX11_letterOf_6 (by decide) ?_
    refine V_iret dX11_letterOf_21 rfl rfl ?_
    exact ⟨by rw [show rlL r = 99 by unfold rlL; grind], rfl⟩
theorem bears_iff {r n : Nat} : bears r n = true ↔ (n = 3 ∨ (r = 1 ∧ n = 6)) := by unfold bears; simp
theorem keeps_iff {r n : Nat} : keeps r n = true ↔ if r = 2 then (1 ≤ n ∧ n ≤ 5) else (n = 2 ∨ n = 3) := by unfold keeps; split <;> simp
set_option maxRecDepth 100000 in
set_option maxHeartbeats 1000000 in
theorem m_bears {n : Nat} {s : St} {w : Wd} (hM : Bk w 48 0 s) (hn : n < 2147483648) : Ct 1 MX11_bears 1 0 0 [.ref 47, .int (nI n)] w (Rt (some (.int (nI (if bears s.2.1 n = true then 1 else 0)))) w) := by
  refine Ct_of (by decide +kernel) rfl (Nat.le_of_ble_eq_true rfl) rfl ?_
  have hr := hM.1.2
  have hb := @bears_iff s.2.1 n
  refine V_iload_n (i := 1) dX11_bears_0 rfl rfl ?_
  refine V_iconst_n (v := 3) dX11_bears_1 (by decide) ?_
  refine V_icmp_eq_n (tgt := 21) dX11_bears_2 (by decide) (by omega) (by omega) (fun h2 => ?_) (fun h2 => ?_)
  · refine V_iconst_n (v := 1) dX11_bears_21 (by decide) ?_
    refine V_goto (tgt := 26) dX11_bears_22 (by decide) ?_
    refine V_iret dX11_bears_26 rfl (nar_bool (by omega)) ?_
    exact ⟨by grind, rfl⟩
  · refine V_aload_n (i := 0) dX11_bears_5 rfl rfl ?_
    refine V_getC (k := 0) (q := 48) dX11_bears_6 (Or.inr ⟨rfl, Nat.le_of_ble_eq_true rfl⟩) rfl rfl rfl (Nat.le_of_ble_eq_true rfl) flRX11_9 ?_
    refine V_iconst_n (v := 0) dX11_bears_9 (by decide) ?_
    refine V_iald_n (i := 0) dX11_bears_10 (Or.inr ⟨rfl, Nat.le_of_ble_eq_true rfl⟩) rfl (by omega) (by decide) ?_
    refine V_top (y := nI (s.2.1)) hM.rule0 ?_
    refine V_iconst_n (v := 1) dX11_bears_11 (by decide) ?_
    refine V_icmp_ne_n (tgt := 25) dX11_bears_12 (by decide) (by omega) (by omega) (fun h12 => ?_) (fun h12 => ?_)
    · refine V_iconst_n (v := 0) dX11_bears_25 (by decide) ?_
      refine V_iret dX11_bears_26 rfl (nar_bool (by omega)) ?_
      exact ⟨by grind, rfl⟩
    · refine V_iload_n (i := 1) dX11_bears_15 rfl rfl ?_
      refine V_bipush_n (v := 6) dX11_bears_16 (by decide) ?_
      refine V_icmp_ne_n (tgt := 25) dX11_bears_18 (by decide) (by omega) (by omega) (fun h18 => ?_) (fun h18 => ?_)
      · refine V_iconst_n (v := 0) dX11_bears_25 (by decide) ?_
        refine V_iret dX11_bears_26 rfl (nar_bool (by omega)) ?_
        exact ⟨by grind, rfl⟩
      · refine V_iconst_n (v := 1) dX11_bears_21 (by decide) ?_
        refine V_goto (tgt := 26) dX11_bears_22 (by decide) ?_
        refine V_iret dX11_bears_26 rfl (nar_bool (by omega)) ?_
        exact ⟨by grind, rfl⟩
set_option maxRecDepth 100000 in
set_option maxHeartbeats 1000000 in
theorem m_keeps {n : Nat} {s : St} {w : Wd} (hM : Bk w 48 0 s) (hn : n < 2147483648) : Ct 1 MX11_keeps 2 0 0 [.ref 47, .int (nI n)] w (Rt (some (.int (nI (if keeps s.2.1 n = true then 1 else 0)))) w) := by
  refine Ct_of (by decide +kernel) rfl (Nat.le_of_ble_eq_true rfl) rfl ?_
  have hr := hM.1.2
  have hb := @keeps_iff s.2.1 n
  refine V_aload_n (i := 0) dX11_keeps_0 rfl rfl ?_
  refine V_getC (k := 0) (q := 48) dX11_keeps_1 (Or.inr ⟨rfl, Nat.le_of_ble_eq_true rfl⟩) rfl rfl rfl (Nat.le_of_ble_eq_true rfl) flRX11_9 ?_
  refine V_iconst_n (v := 0) dX11_keeps_4 (by decide) ?_
  refine V_iald_n (i := 0) dX11_keeps_5 (Or.inr ⟨rfl, Nat.le_of_ble_eq_true rfl⟩) rfl (by omega) (by decide) ?_
  refine V_top (y := nI (s.2.1)) hM.rule0 ?_
  refine V_iconst_n (v := 2) dX11_keeps_6 (by decide) ?_
  refine V_icmp_ne_n (tgt := 22) dX11_keeps_7 (by decide) (by omega) (by omega) (fun h7 => ?_) (fun h7 => ?_)
  · rw [if_neg h7] at hb
    refine V_iload_n (i := 1) dX11_keeps_22 rfl rfl ?_
    refine V_i2l dX11_keeps_23 ?_
    refine V_topL (y := zL ((n : Nat) : Int)) (nI_zL (by omega)) ?_
    refine V_ldc2 dX11_keeps_24 csRX11_123 ?_
    refine V_topL (y := zL 2) (by decide) ?_
    refine V_ldc2 dX11_keeps_27 csRX11_125 ?_
    refine V_topL (y := zL 3) (by decide) ?_
    refine V_callSF dX11_keeps_30 (c_in (a := ((n : Nat) : Int)) (b := 2) (c := 3) (by omega) (by omega) (by omega) (by omega) (by omega) (by omega)) okX11_in lkRX11_93 rfl rfl (Nat.le_of_ble_eq_true rfl) ⟨Nat.le_of_ble_eq_true rfl, Nat.le_of_ble_eq_true rfl⟩ rfl ?_
    refine V_iret dX11_keeps_33 rfl (nar_bool ite_le) ?_
    have e8 : ((if 2 ≤ ((n : Nat) : Int) ∧ ((n : Nat) : Int) ≤ 3 then 1 else 0) : Nat) = (if keeps s.2.1 n = true then 1 else 0) := ite_iff (by rw [hb]; omega)
    exact ⟨by rw [e8], rfl⟩
  · rw [if_pos h7] at hb
    refine V_iload_n (i := 1) dX11_keeps_10 rfl rfl ?_
    refine V_i2l dX11_keeps_11 ?_
    refine V_topL (y := zL ((n : Nat) : Int)) (nI_zL (by omega)) ?_
    refine V_lconst (v := zL 1) dX11_keeps_12 (by decide) ?_
    refine V_ldc2 dX11_keeps_13 csRX11_121 ?_
    refine V_topL (y := zL 5) (by decide) ?_
    refine V_callSF dX11_keeps_16 (c_in (a := ((n : Nat) : Int)) (b := 1) (c := 5) (by omega) (by omega) (by omega) (by omega) (by omega) (by omega)) okX11_in lkRX11_93 rfl rfl (Nat.le_of_ble_eq_true rfl) ⟨Nat.le_of_ble_eq_true rfl, Nat.le_of_ble_eq_true rfl⟩ rfl ?_
    refine V_goto (tgt := 33) dX11_keeps_19 (by decide) ?_
    refine V_iret dX11_keeps_33 rfl (nar_bool ite_le) ?_
    have e8 : ((if 1 ≤ ((n : Nat) : Int) ∧ ((n : Nat) : Int) ≤ 5 then 1 else 0) : Nat) = (if keeps s.2.1 n = true then 1 else 0) := ite_iff (by rw [hb]; omega)
    exact ⟨by rw [e8], rfl⟩
set_option maxRecDepth 100000 in
set_option maxHeartbeats 1000000 in
theorem m_near {k q : Nat} {s : St} {w : Wd} (hM : Bk w 48 0 s) (hk : k < 64) (hq : q < 65536) : Ct 1 MX11_near 3 0 0 [.ref 47, .int (nI k), .int (nI q)] w (Rt (some (.int (nI (near s.1 k q)))) w) := by
  refine Ct_of (by decide +kernel) rfl (Nat.le_of_ble_eq_true rfl) rfl ?_
  have lpo : ∀ (fu i : Nat) , i ≤ 3 → 3 - i < fu → V 1 MX11_near 3 0 0 (Rt (some (.int (nI (near s.1 k q)))) w) (fun _ _ => True) 0 0 10 [some (.ref 47), some (.int (nI k)), some (.int (nI q)), some (.int (nI (sm (nr s.1 k q) i))), some (.int (zI ((((k / 8) : Nat) : Int) - ((1 : Nat) : Int) + (i : Int)))), none, none] [] w := by
    intro fu
    induction fu with
    | zero => intro i  h1 h2; omega
    | succ fu ihO =>
      intro i  hib hfu
      have lpj : ∀ (fu j : Nat) , j ≤ 3 → 3 - j < fu → i ≤ 2 → V 1 MX11_near 3 0 0 (Rt (some (.int (nI (near s.1 k q)))) w) (fun _ _ => True) 0 0 29 [some (.ref 47), some (.int (nI k)), some (.int (nI q)), some (.int (nI (sm (nr s.1 k q) i + sm (nb s.1 k q i) j))), some (.int (zI ((((k / 8) : Nat) : Int) - ((1 : Nat) : Int) + (i : Int)))), some (.int (zI ((((k % 8) : Nat) : Int) - ((1 : Nat) : Int) + (j : Int)))), none] [] w := by
        intro fu
        induction fu with
        | zero => intro j  h1 h2; omega
        | succ fu ihj =>
          intro j  hib hfu hi2
          have hb1 := nb_le (C := s.1) (k := k) (q := q) (i := i) (n := j)
          have hb2 := nr_le (C := s.1) (k := k) (q := q) (n := i)
          have e1 : sm (nb s.1 k q i) (j + 1) = sm (nb s.1 k q i) j + nb s.1 k q i j := rfl
          refine V_iload dX11_near_29 rfl ?_
          refine V_iload_n (i := 1) dX11_near_31 rfl rfl ?_
          refine V_bipush_n (v := 8) dX11_near_32 (by decide) ?_
          refine V_irem_n dX11_near_34 (by omega) (by omega) (by omega) ?_
          refine V_iconst_n (v := 1) dX11_near_35 (by decide) ?_
          refine V_iadd_n dX11_near_36 ?_
          refine V_icmp_gt_z (tgt := 108) dX11_near_37 (by decide) rfl (zI_n _) (by omega) (by omega) (by omega) (by omega) (fun h37 => ?_) (fun h37 => ?_)
          · refine V_iinc_z (b := ((((k / 8) : Nat) : Int) - ((1 : Nat) : Int) + ((i + 1 : Nat) : Int))) dX11_near_108 rfl (by omega) rfl rfl ?_
            refine V_goto (tgt := 10) dX11_near_111 (by decide) ?_
            obtain rfl : j = 3 := by omega
            exact (ihO (i + 1) (by omega) (by omega)).sub (by repeat' (first | exact trivial | exact rfl | constructor))
          · refine V_iload dX11_near_40 rfl ?_
            refine V_iload dX11_near_42 rfl ?_
            refine V_callSF dX11_near_44 (m_isCell (r := ((((k / 8) : Nat) : Int) - ((1 : Nat) : Int) + (i : Int))) (c := ((((k % 8) : Nat) : Int) - ((1 : Nat) : Int) + (j : Int))) rfl rfl (by omega) (by omega) (by omega) (by omega)) okX11_isCell lkRX11_104 rfl rfl (Nat.le_of_ble_eq_true rfl) ⟨Nat.le_of_ble_eq_true rfl, Nat.le_of_ble_eq_true rfl⟩ rfl ?_
            refine V_if_eq_n (tgt := 102) dX11_near_47 (by decide) (Nat.lt_of_lt_of_le ite_le (by decide)) (fun h47 => ?_) (fun h47 => ?_)
            · have hi47 := ite_f h47
              have e2 : nb s.1 k q i j = 0 := nb_0 (by omega)
              refine V_iinc_z (b := ((((k % 8) : Nat) : Int) - ((1 : Nat) : Int) + ((j + 1 : Nat) : Int))) dX11_near_102 rfl (by omega) rfl rfl ?_
              refine V_goto (tgt := 29) dX11_near_105 (by decide) ?_
              have k9 := ihj (j + 1) (by omega) (by omega) hi2
              rw [e1, e2, ← Nat.add_assoc] at k9
              exact k9.sub (by repeat' (first | exact trivial | exact rfl | constructor))
            · have hi47 := ite_t h47
              refine V_iload dX11_near_50 rfl ?_
              refine V_iload dX11_near_52 rfl ?_
              refine V_callSF dX11_near_54 (m_cellOf (r := (((((k / 8) : Nat) : Int) - ((1 : Nat) : Int) + (i : Int))).toNat) (c := (((((k % 8) : Nat) : Int) - ((1 : Nat) : Int) + (j : Int))).toNat) (zI_nn (by omega)) (zI_nn (by omega))) okX11_cellOf lkRX11_108 rfl rfl (Nat.le_of_ble_eq_true rfl) ⟨Nat.le_of_ble_eq_true rfl, Nat.le_of_ble_eq_true rfl⟩ rfl ?_
              refine V_iload_n (i := 1) dX11_near_57 rfl rfl ?_
              refine V_icmp_eq_n (tgt := 102) dX11_near_58 (by decide) (by omega) (by omega) (fun h58 => ?_) (fun h58 => ?_)
              · have e2 : nb s.1 k q i j = 0 := nb_0 (Or.inr ⟨by omega, by omega⟩)
                refine V_iinc_z (b := ((((k % 8) : Nat) : Int) - ((1 : Nat) : Int) + ((j + 1 : Nat) : Int))) dX11_near_102 rfl (by omega) rfl rfl ?_
                refine V_goto (tgt := 29) dX11_near_105 (by decide) ?_
                have k9 := ihj (j + 1) (by omega) (by omega) hi2
                rw [e1, e2, ← Nat.add_assoc] at k9
                exact k9.sub (by repeat' (first | exact trivial | exact rfl | constructor))
              · have e3 := nb_in (C := s.1) (k := k) (q := q) (i := i) (j := j) (c := 8 * (((((k / 8) : Nat) : Int) - ((1 : Nat) : Int) + (i : Int))).toNat + (((((k % 8) : Nat) : Int) - ((1 : Nat) : Int) + (j : Int))).toNat) (by omega) (by omega) (by omega)
                refine V_aload_n (i := 0) dX11_near_61 rfl rfl ?_
                refine V_iload dX11_near_62 rfl ?_
                refine V_iload dX11_near_64 rfl ?_
                refine V_callSF dX11_near_66 (m_cellOf (r := (((((k / 8) : Nat) : Int) - ((1 : Nat) : Int) + (i : Int))).toNat) (c := (((((k % 8) : Nat) : Int) - ((1 : Nat) : Int) + (j : Int))).toNat) (zI_nn (by omega)) (zI_nn (by omega))) okX11_cellOf lkRX11_108 rfl rfl (Nat.le_of_ble_eq_true rfl) ⟨Nat.le_of_ble_eq_true rfl, Nat.le_of_ble_eq_true rfl⟩ rfl ?_
                have hv2 := hM.1.1 ((8 * (((((k / 8) : Nat) : Int) - ((1 : Nat) : Int) + (i : Int))).toNat + (((((k % 8) : Nat) : Int) - ((1 : Nat) : Int) + (j : Int))).toNat)) (by omega)
                unfold okc at hv2
                refine V_callVF dX11_near_69 (m_at hM (k := (8 * (((((k / 8) : Nat) : Int) - ((1 : Nat) : Int) + (i : Int))).toNat + (((((k % 8) : Nat) : Int) - ((1 : Nat) : Int) + (j : Int))).toNat)) (by omega)) okX11_at lkRX11_101 (Or.inr ⟨rfl, Nat.le_of_ble_eq_true rfl⟩) rfl rfl rfl rfl (Nat.le_of_ble_eq_true rfl) ⟨Nat.le_of_ble_eq_true rfl, Nat.le_of_ble_eq_true rfl⟩ rfl ?_
                refine V_istore dX11_near_72 (Nat.le_of_ble_eq_true rfl) rfl rfl ?_
                refine V_iload_n (i := 3) dX11_near_74 rfl rfl ?_
                refine V_iload dX11_near_75 rfl ?_
                refine V_bipush_n (v := 10) dX11_near_77 (by decide) ?_
                refine V_icmp_lt_n (tgt := 99) dX11_near_79 (by decide) (by omega) (by omega) (fun h79 => ?_) (fun h79 => ?_)
                · have e2 : nb s.1 k q i j = 0 := by rw [e3, if_neg (by omega)]
                  refine V_iconst_n (v := 0) dX11_near_99 (by decide) ?_
                  refine V_iadd_n dX11_near_100 ?_
                  refine V_istore_n (i := 3) dX11_near_101 rfl (Nat.le_of_ble_eq_true rfl) rfl rfl ?_
                  refine V_iinc_z (b := ((((k % 8) : Nat) : Int) - ((1 : Nat) : Int) + ((j + 1 : Nat) : Int))) dX11_near_102 rfl (by omega) rfl rfl ?_
                  refine V_goto (tgt := 29) dX11_near_105 (by decide) ?_
                  have k9 := ihj (j + 1) (by omega) (by omega) hi2
                  rw [e1, e2, ← Nat.add_assoc] at k9
                  exact k9.sub (by repeat' (first | exact trivial | exact rfl | constructor))
                · refine V_iload_n (i := 2) dX11_near_82 rfl rfl ?_
                  refine V_if_eq_n (tgt := 95) dX11_near_83 (by decide) (by omega) (fun h83 => ?_) (fun h83 => ?_)
                  · have e2 : nb s.1 k q i j = 1 := by rw [e3, if_pos (by omega)]
                    refine V_iconst_n (v := 1) dX11_near_95 (by decide) ?_
                    refine V_goto (tgt := 100) dX11_near_96 (by decide) ?_
                    refine V_iadd_n dX11_near_100 ?_
                    refine V_istore_n (i := 3) dX11_near_101 rfl (Nat.le_of_ble_eq_true rfl) rfl rfl ?_
                    refine V_iinc_z (b := ((((k % 8) : Nat) : Int) - ((1 : Nat) : Int) + ((j + 1 : Nat) : Int))) dX11_near_102 rfl (by omega) rfl rfl ?_
                    refine V_goto (tgt := 29) dX11_near_105 (by decide) ?_
                    have k9 := ihj (j + 1) (by omega) (by omega) hi2
                    rw [e1, e2, ← Nat.add_assoc] at k9
                    exact k9.sub (by repeat' (first | exact trivial | exact rfl | constructor))
                  · refine V_iload dX11_near_86 rfl ?_
                    have hc3 := kc_in (v := (s.1 (8 * (((((k / 8) : Nat) : Int) - ((1 : Nat) : Int) + (i : Int))).toNat + (((((k % 8) : Nat) : Int) - ((1 : Nat) : Int) + (j : Int))).toNat))) (by omega) (by omega)
                    refine V_callSF dX11_near_88 (m_colourOf (v := (s.1 (8 * (((((k / 8) : Nat) : Int) - ((1 : Nat) : Int) + (i : Int))).toNat + (((((k % 8) : Nat) : Int) - ((1 : Nat) : Int) + (j : Int))).toNat))) (by omega) (by omega)) okX11_colourOf lkRX11_112 rfl rfl (Nat.le_of_ble_eq_true rfl) ⟨Nat.le_of_ble_eq_true rfl, Nat.le_of_ble_eq_true rfl⟩ rfl ?_
                    refine V_iload_n (i := 2) dX11_near_91 rfl rfl ?_
                    refine V_icmp_ne_n (tgt := 99) dX11_near_92 (by decide) (by omega) (by omega) (fun h92 => ?_) (fun h92 => ?_)
                    · have e2 : nb s.1 k q i j = 0 := by rw [e3, if_neg (by omega)]
                      refine V_iconst_n (v := 0) dX11_near_99 (by decide) ?_
                      refine V_iadd_n dX11_near_100 ?_
                      refine V_istore_n (i := 3) dX11_near_101 rfl (Nat.le_of_ble_eq_true rfl) rfl rfl ?_
                      refine V_iinc_z (b := ((((k % 8) : Nat) : Int) - ((1 : Nat) : Int) + ((j + 1 : Nat) : Int))) dX11_near_102 rfl (by omega) rfl rfl ?_
                      refine V_goto (tgt := 29) dX11_near_105 (by decide) ?_
                      have k9 := ihj (j + 1) (by omega) (by omega) hi2
                      rw [e1, e2, ← Nat.add_assoc] at k9
                      exact k9.sub (by repeat' (first | exact trivial | exact rfl | constructor))
                    · have e2 : nb s.1 k q i j = 1 := by rw [e3, if_pos (by omega)]
                      refine V_iconst_n (v := 1) dX11_near_95 (by decide) ?_
                      refine V_goto (tgt := 100) dX11_near_96 (by decide) ?_
                      refine V_iadd_n dX11_near_100 ?_
                      refine V_istore_n (i := 3) dX11_near_101 rfl (Nat.le_of_ble_eq_true rfl) rfl rfl ?_
                      refine V_iinc_z (b := ((((k % 8) : Nat) : Int) - ((1 : Nat) : Int) + ((j + 1 : Nat) : Int))) dX11_near_102 rfl (by omega) rfl rfl ?_
                      refine V_goto (tgt := 29) dX11_near_105 (by decide) ?_
                      have k9 := ihj (j + 1) (by omega) (by omega) hi2
                      rw [e1, e2, ← Nat.add_assoc] at k9
                      exact k9.sub (by repeat' (first | exact trivial | exact rfl | constructor))
      have hB := nr_le (C := s.1) (k := k) (q := q) (n := i)
      refine V_iload dX11_near_10 rfl ?_
      refine V_iload_n (i := 1) dX11_near_12 rfl rfl ?_
      refine V_bipush_n (v := 8) dX11_near_13 (by decide) ?_
      refine V_idiv_n dX11_near_15 (by omega) (by omega) (by omega) ?_
      refine V_iconst_n (v := 1) dX11_near_16 (by decide) ?_
      refine V_iadd_n dX11_near_17 ?_
      refine V_icmp_gt_z (tgt := 114) dX11_near_18 (by decide) rfl (zI_n _) (by omega) (by omega) (by omega) (by omega) (fun h18 => ?_) (fun h18 => ?_)
      · refine V_iload_n (i := 3) dX11_near_114 rfl rfl ?_
        refine V_iret dX11_near_115 rfl rfl ?_
        obtain rfl : i = 3 := by omega
        exact ⟨rfl, rfl⟩
      · refine V_iload_n (i := 1) dX11_near_21 rfl rfl ?_
        refine V_bipush_n (v := 8) dX11_near_22 (by decide) ?_
        refine V_irem_n dX11_near_24 (by omega) (by omega) (by omega) ?_
        refine V_iconst_n (v := 1) dX11_near_25 (by decide) ?_
        refine V_isub_z dX11_near_26 (zI_n _) (zI_n _) ?_
        refine V_istore dX11_near_27 (Nat.le_of_ble_eq_true rfl) rfl rfl ?_
        have k9 := lpj 4 0 (by omega) (by omega) (by omega)
        rw [show ((((k % 8) : Nat) : Int) - ((1 : Nat) : Int)) + ((0 : Nat) : Int) = ((((k % 8) : Nat) : Int) - ((1 : Nat) : Int)) by omega] at k9
        exact k9.sub (by repeat' (first | exact trivial | exact rfl | constructor))
  refine V_iconst_n (v := 0) dX11_near_0 (by decide) ?_
  refine V_istore_n (i := 3) dX11_near_1 rfl (Nat.le_of_ble_eq_true rfl) rfl rfl ?_
  refine V_iload_n (i := 1) dX11_near_2 rfl rfl ?_
  refine V_bipush_n (v := 8) dX11_near_3 (by decide) ?_
  refine V_idiv_n dX11_near_5 (by omega) (by omega) (by omega) ?_
  refine V_iconst_n (v := 1) dX11_near_6 (by decide) ?_
  refine V_isub_z dX11_near_7 (zI_n _) (zI_n _) ?_
  refine V_istore dX11_near_8 (Nat.le_of_ble_eq_true rfl) rfl rfl ?_
  have k9 := lpo 4 0 (by omega) (by omega)
  rw [show ((((k / 8) : Nat) : Int) - ((1 : Nat) : Int)) + ((0 : Nat) : Int) = ((((k / 8) : Nat) : Int) - ((1 : Nat) : Int)) by omega] at k9
  exact k9.sub (by repeat' (first | exact trivial | exact rfl | constructor))
def mstN (C : Nat → Nat) (k : Nat) : Nat → Nat
  | 0 => 97
  | i + 1 => if near C k (mstN C k i) < near C k (98 + i) then 98 + i else mstN C k i
theorem mstN_in {C : Nat → Nat} {k : Nat} : ∀ i, 97 ≤ mstN C k i ∧ mstN C k i ≤ 97 + i := by
  intro i
  induction i with
  | zero => exact ⟨Nat.le_refl _, Nat.le_refl _⟩
  | succ i ih =>
    show 97 ≤ (if near C k (mstN C k i) < near C k (98 + i) then 98 + i else mstN C k i) ∧ (if near C k (mstN C k i) < near C k (98 + i) then 98 + i else mstN C k i) ≤ 97 + (i + 1)
    split <;> omega
theorem mostN_no {C : Nat → Nat} {k : Nat} : ∀ n, (∀ j, j < n → near C k (97 + j) = 0) → mostN C k n = (0, 0) := by
  intro n
  induction n with
  | zero => intro _; rfl
  | succ n ih =>
    intro h
    rw [mostN_s, ih (fun j hj => h j (by omega))]
    refine if_neg ?_
    show ¬ 0 < near C k (97 + n)
    rw [h n (by omega)]
    exact Nat.lt_irrefl 0
theorem mstN_most {C : Nat → Nat} {k : Nat} (hk : k < 64) (h : ∀ k, k < 64 → okc (C k)) (hn : 0 < near C k 0) : mstN C k 3 = most C k := by
  have h1 := near_col hk h
  have e : ∀ i, (∃ j, j < i + 1 ∧ 0 < near C k (97 + j)) → mostN C k (i + 1) = (near C k (mstN C k i), mstN C k i) := by
    intro i
    induction i with
    | zero =>
      intro ⟨j, hj, hp⟩
      obtain rfl : j = 0 := by omega
      rw [mostN_s]
      exact if_pos hp
    | succ i ih =>
      intro ⟨j, hj, hp⟩
      rw [mostN_s]
      show _ = (near C k (if near C k (mstN C k i) < near C k (98 + i) then 98 + i else mstN C k i), if near C k (mstN C k i) < near C k (98 + i) then 98 + i else mstN C k i)
      by_cases hex : ∃ j, j < i + 1 ∧ 0 < near C k (97 + j)
      · rw [ih hex, show 97 + (i + 1) = 98 + i by omega]
        by_cases hc : near C k (mstN C k i) < near C k (98 + i)
        · rw [if_pos hc, if_pos hc]
        · rw [if_neg hc, if_neg hc]
      · have hz : ∀ j, j < i + 1 → near C k (97 + j) = 0 := fun j hj => Nat.eq_zero_of_not_pos fun q => hex ⟨j, hj, q⟩
        have hm := mostN_no (C := C) (k := k) (i + 1) hz
        have hmi := mstN_in (C := C) (k := k) i
        have hz2 := hz (mstN C k i - 97) (by omega)
        rw [show 97 + (mstN C k i - 97) = mstN C k i by omega] at hz2
        obtain rfl : j = i + 1 := by
          have hq : ¬ j < i + 1 := fun q => by rw [hz j q] at hp; exact Nat.lt_irrefl 0 hp
          omega
        rw [show 97 + (i + 1) = 98 + i by omega] at hp ⊢
        rw [hm, if_pos hp, if_pos (by rw [hz2]; exact hp)]
  have hx : ∃ j, j < 3 + 1 ∧ 0 < near C k (97 + j) := by
    by_cases h0 : 0 < near C k 97
    · exact ⟨0, by omega, h0⟩
    · by_cases h2 : 0 < near C k 98
      · exact ⟨1, by omega, h2⟩
      · by_cases h3 : 0 < near C k 99
        · exact ⟨2, by omega, h3⟩
        · exact ⟨3, by omega, by show 0 < near C k 100; omega⟩
  have := e 3 hx
  unfold most
  rw [this]
set_option maxRecDepth 100000 in
set_option maxHeartbeats 1000000 in
theorem m_mostNear {k : Nat} {s : St} {w : Wd} (hM : Bk w 48 0 s) (hk : k < 64) : Ct 1 MX11_mostNear 4 0 0 [.ref 47, .int (nI k)] w (Rt (some (.int (nI (mstN s.1 k 3)))) w) := by
  refine Ct_of (by decide +kernel) rfl (Nat.le_of_ble_eq_true rfl) rfl ?_
  have lp : ∀ (fu i : Nat) , i ≤ 3 → 3 - i < fu → V 1 MX11_mostNear 4 0 0 (Rt (some (.int (nI (mstN s.1 k 3)))) w) (fun _ _ => True) 0 0 6 [some (.ref 47), some (.int (nI k)), some (.int (nI (mstN s.1 k i))), some (.int (nI (98 + i)))] [] w := by
    intro fu
    induction fu with
    | zero => intro i  h1 h2; omega
    | succ fu ih =>
      intro i  hib hfu
      have hm := mstN_in (C := s.1) (k := k) i
      have hi9 := hib
      have e1 : mstN s.1 k (i + 1) = if near s.1 k (mstN s.1 k i) < near s.1 k (98 + i) then 98 + i else mstN s.1 k i := rfl
      refine V_iload_n (i := 3) dX11_mostNear_6 rfl rfl ?_
      refine V_bipush_n (v := 100) dX11_mostNear_7 (by decide) ?_
      refine V_icmp_gt_n (tgt := 39) dX11_mostNear_9 (by decide) (by omega) (by omega) (fun h9 => ?_) (fun h9 => ?_)
      · refine V_iload_n (i := 2) dX11_mostNear_39 rfl rfl ?_
        refine V_iret dX11_mostNear_40 rfl rfl ?_
        obtain rfl : i = 3 := by omega
        exact ⟨rfl, rfl⟩
      · refine V_aload_n (i := 0) dX11_mostNear_12 rfl rfl ?_
        refine V_iload_n (i := 1) dX11_mostNear_13 rfl rfl ?_
        refine V_iload_n (i := 3) dX11_mostNear_14 rfl rfl ?_
        have hn4 := near_le (C := s.1) (k := k) (q := (98 + i))
        refine V_callVF dX11_mostNear_15 (m_near hM (k := k) (q := (98 + i)) (by omega) (by omega)) okX11_near lkRX11_115 (Or.inr ⟨rfl, Nat.le_of_ble_eq_true rfl⟩) rfl rfl rfl rfl (Nat.le_of_ble_eq_true rfl) ⟨Nat.le_of_ble_eq_true rfl, Nat.le_of_ble_eq_true rfl⟩ rfl ?_
        refine V_aload_n (i := 0) dX11_mostNear_18 rfl rfl ?_
        refine V_iload_n (i := 1) dX11_mostNear_19 rfl rfl ?_
        refine V_iload_n (i := 2) dX11_mostNear_20 rfl rfl ?_
        have hn5 := near_le (C := s.1) (k := k) (q := (mstN s.1 k i))
        refine V_callVF dX11_mostNear_21 (m_near hM (k := k) (q := (mstN s.1 k i)) (by omega) (by omega)) okX11_near lkRX11_115 (Or.inr ⟨rfl, Nat.le_of_ble_eq_true rfl⟩) rfl rfl rfl rfl (Nat.le_of_ble_eq_true rfl) ⟨Nat.le_of_ble_eq_true rfl, Nat.le_of_ble_eq_true rfl⟩ rfl ?_
        refine V_icmp_le_n (tgt := 31) dX11_mostNear_24 (by decide) (by omega) (by omega) (fun h24 => ?_) (fun h24 => ?_)
        · rw [if_neg (by omega)] at e1
          refine V_iload_n (i := 2) dX11_mostNear_31 rfl rfl ?_
          refine V_istore_n (i := 2) dX11_mostNear_32 rfl (Nat.le_of_ble_eq_true rfl) rfl rfl ?_
          refine V_iinc_n (b := ((98 + i) + 1)) dX11_mostNear_33 rfl (nI_add _ _) rfl rfl ?_
          refine V_goto (tgt := 6) dX11_mostNear_36 (by decide) ?_
          have k9 := ih (i + 1) (by omega) (by omega)
          rw [e1, ← Nat.add_assoc] at k9
          exact k9
        · rw [if_pos (by omega)] at e1
          refine V_iload_n (i := 3) dX11_mostNear_27 rfl rfl ?_
          refine V_goto (tgt := 32) dX11_mostNear_28 (by decide) ?_
          refine V_istore_n (i := 2) dX11_mostNear_32 rfl (Nat.le_of_ble_eq_true rfl) rfl rfl ?_
          refine V_iinc_n (b := ((98 + i) + 1)) dX11_mostNear_33 rfl (nI_add _ _) rfl rfl ?_
          refine V_goto (tgt := 6) dX11_mostNear_36 (by decide) ?_
          have k9 := ih (i + 1) (by omega) (by omega)
          rw [e1, ← Nat.add_assoc] at k9
          exact k9
  refine V_bipush_n (v := 97) dX11_mostNear_0 (by decide) ?_
  refine V_istore_n (i := 2) dX11_mostNear_2 rfl (Nat.le_of_ble_eq_true rfl) rfl rfl ?_
  refine V_bipush_n (v := 98) dX11_mostNear_3 (by decide) ?_
  refine V_istore_n (i := 3) dX11_mostNear_5 rfl (Nat.le_of_ble_eq_true rfl) rfl rfl ?_
  exact lp 4 0 (by omega) (by omega)
def mny (C : Nat → Nat) (lo hi : Nat) : Nat → Nat := sm (fun k => if lo ≤ C k ∧ C k ≤ hi then 1 else 0)
theorem mny_le {C : Nat → Nat} {lo hi : Nat} : ∀ n, mny C lo hi n ≤ n := fun n => by have := sm_le (f := fun k => if lo ≤ C k ∧ C k ≤ hi then 1 else 0) (c := 1) (fun k => by split <;> omega) n; unfold mny; omega
theorem mny_cnt {C : Nat → Nat} {lo hi q : Nat} (h : ∀ k, k < 64 → ((lo ≤ C k ∧ C k ≤ hi) ↔ hk (C k) q = true)) : mny C lo hi 64 = cnt C q := by
  unfold mny cnt
  refine sm_congr 64 fun k hk9 => ?_
  by_cases e : lo ≤ C k ∧ C k ≤ hi
  · rw [if_pos e, if_pos ((h k hk9).mp e)]
  · rw [if_neg e, if_neg (fun q => e ((h k hk9).mpr q))]
theorem mny_live {s : St} (h : OkS s) : mny s.1 10 49 64 = cnt s.1 42 := mny_cnt fun k hk9 => by
  have := h.1 k hk9
  unfold okc at this
  unfold hk
  rw [if_pos rfl, decide_eq_true_iff]
  omega
theorem mny_pale {s : St} (h : OkS s) : mny s.1 1 1 64 = cnt s.1 35 := mny_cnt fun k hk9 => by
  have h0 := h.1 k hk9
  have h1 := kc_pale h0
  unfold hk
  rw [if_neg (by decide), decide_eq_true_iff, h1]
  omega
theorem mny_col {s : St} {q : Nat} (h : OkS s) (hq : 97 ≤ q ∧ q ≤ 100) : mny s.1 (10 + 10 * (q - 97) + 0) (10 + 10 * (q - 97) + 9) 64 = cnt s.1 q := mny_cnt fun k hk9 => by
  have h0 := h.1 k hk9
  unfold okc at h0
  unfold hk
  rw [if_neg (by omega), decide_eq_true_iff]
  unfold kc
  split <;> (try split) <;> omega
set_option maxRecDepth 100000 in
set_option maxHeartbeats 1000000 in
theorem m_manyOf {lo hi : Nat} {s : St} {w : Wd} (hM : Bk w 48 0 s) (hlo : lo < 65536) (hhi : hi < 65536) : Ct 1 MX11_manyOf 2 0 0 [.ref 47, .int (nI lo), .int (nI hi)] w (Rt (some (.int (nI (mny s.1 lo hi 64)))) w) := by
  refine Ct_of (by decide +kernel) rfl (Nat.le_of_ble_eq_true rfl) rfl ?_
  have lp : ∀ (fu i : Nat) , i ≤ 64 → 64 - i < fu → V 1 MX11_manyOf 2 0 0 (Rt (some (.int (nI (mny s.1 lo hi 64)))) w) (fun _ _ => True) 0 0 5 [some (.ref 47), some (.int (nI lo)), some (.int (nI hi)), some (.int (nI (mny s.1 lo hi i))), some (.int (nI i))] [] w := by
    intro fu
    induction fu with
    | zero => intro i  h1 h2; omega
    | succ fu ih =>
      intro i  hib hfu
      have hle := mny_le (C := s.1) (lo := lo) (hi := hi) i
      have e1 : mny s.1 lo hi (i + 1) = mny s.1 lo hi i + (if lo ≤ s.1 i ∧ s.1 i ≤ hi then 1 else 0) := rfl
      refine V_iload dX11_manyOf_5 rfl ?_
      refine V_bipush_n (v := 64) dX11_manyOf_7 (by decide) ?_
      refine V_icmp_ge_n (tgt := 43) dX11_manyOf_9 (by decide) (by omega) (by omega) (fun h9 => ?_) (fun h9 => ?_)
      · refine V_iload_n (i := 3) dX11_manyOf_43 rfl rfl ?_
        refine V_iret dX11_manyOf_44 rfl rfl ?_
        obtain rfl : i = 64 := by omega
        exact ⟨rfl, rfl⟩
      · refine V_iload_n (i := 3) dX11_manyOf_12 rfl rfl ?_
        refine V_aload_n (i := 0) dX11_manyOf_13 rfl rfl ?_
        refine V_iload dX11_manyOf_14 rfl ?_
        have hv6 := hM.1.1 (i) (by omega)
        unfold okc at hv6
        refine V_callVF dX11_manyOf_16 (m_at hM (k := i) (by omega)) okX11_at lkRX11_101 (Or.inr ⟨rfl, Nat.le_of_ble_eq_true rfl⟩) rfl rfl rfl rfl (Nat.le_of_ble_eq_true rfl) ⟨Nat.le_of_ble_eq_true rfl, Nat.le_of_ble_eq_true rfl⟩ rfl ?_
        refine V_i2l dX11_manyOf_19 ?_
        refine V_topL (y := zL (((s.1 i) : Nat) : Int)) (nI_zL (by omega)) ?_
        refine V_iload_n (i := 1) dX11_manyOf_20 rfl rfl ?_
        refine V_i2l dX11_manyOf_21 ?_
        refine V_topL (y := zL ((lo : Nat) : Int)) (nI_zL (by omega)) ?_
        refine V_iload_n (i := 2) dX11_manyOf_22 rfl rfl ?_
        refine V_i2l dX11_manyOf_23 ?_
        refine V_topL (y := zL ((hi : Nat) : Int)) (nI_zL (by omega)) ?_
        refine V_callSF dX11_manyOf_24 (c_in (a := (((s.1 i) : Nat) : Int)) (b := ((lo : Nat) : Int)) (c := ((hi : Nat) : Int)) (by omega) (by omega) (by omega) (by omega) (by omega) (by omega)) okX11_in lkRX11_93 rfl rfl (Nat.le_of_ble_eq_true rfl) ⟨Nat.le_of_ble_eq_true rfl, Nat.le_of_ble_eq_true rfl⟩ rfl ?_
        refine V_if_eq_n (tgt := 34) dX11_manyOf_27 (by decide) (Nat.lt_of_lt_of_le ite_le (by decide)) (fun h27 => ?_) (fun h27 => ?_)
        · have hi27 := ite_f h27
          rw [if_neg (by omega)] at e1
          refine V_iconst_n (v := 0) dX11_manyOf_34 (by decide) ?_
          refine V_iadd_n dX11_manyOf_35 ?_
          refine V_istore_n (i := 3) dX11_manyOf_36 rfl (Nat.le_of_ble_eq_true rfl) rfl rfl ?_
          refine V_iinc_n (b := (i + 1)) dX11_manyOf_37 rfl (nI_add _ _) rfl rfl ?_
          refine V_goto (tgt := 5) dX11_manyOf_40 (by decide) ?_
          have k9 := ih (i + 1) (by omega) (by omega)
          rw [e1] at k9
          exact k9
        · have hi27 := ite_t h27
          rw [if_pos (by omega)] at e1
          refine V_iconst_n (v := 1) dX11_manyOf_30 (by decide) ?_
          refine V_goto (tgt := 35) dX11_manyOf_31 (by decide) ?_
          refine V_iadd_n dX11_manyOf_35 ?_
          refine V_istore_n (i := 3) dX11_manyOf_36 rfl (Nat.le_of_ble_eq_true rfl) rfl rfl ?_
          refine V_iinc_n (b := (i + 1)) dX11_manyOf_37 rfl (nI_add _ _) rfl rfl ?_
          refine V_goto (tgt := 5) dX11_manyOf_40 (by decide) ?_
          have k9 := ih (i + 1) (by omega) (by omega)
          rw [e1] at k9
          exact k9
  refine V_iconst_n (v := 0) dX11_manyOf_0 (by decide) ?_
  refine V_istore_n (i := 3) dX11_manyOf_1 rfl (Nat.le_of_ble_eq_true rfl) rfl rfl ?_
  refine V_iconst_n (v := 0) dX11_manyOf_2 (by decide) ?_
  refine V_istore dX11_manyOf_3 (Nat.le_of_ble_eq_true rfl) rfl rfl ?_
  exact lp 65 0 (by omega) (by omega)
set_option maxRecDepth 100000 in
set_option maxHeartbeats 1000000 in
theorem m_livings {s : St} {w : Wd} (hM : Bk w 48 0 s) : Ct 1 MX11_livings 3 0 0 [.ref 47] w (Rt (some (.int (nI (cnt s.1 42)))) w) := by
  refine Ct_of (by decide +kernel) rfl (Nat.le_of_ble_eq_true rfl) rfl ?_
  refine V_aload_n (i := 0) dX11_livings_0 rfl rfl ?_
  refine V_bipush_n (v := 10) dX11_livings_1 (by decide) ?_
  refine V_bipush_n (v := 49) dX11_livings_3 (by decide) ?_
  have hq7 := mny_le (C := s.1) (lo := 10) (hi := 49) 64
  refine V_callVF dX11_livings_5 (m_manyOf hM (lo := 10) (hi := 49) (by omega) (by omega)) okX11_manyOf lkRX11_118 (Or.inr ⟨rfl, Nat.le_of_ble_eq_true rfl⟩) rfl rfl rfl rfl (Nat.le_of_ble_eq_true rfl) ⟨Nat.le_of_ble_eq_true rfl, Nat.le_of_ble_eq_true rfl⟩ rfl ?_
  refine V_iret dX11_livings_8 rfl rfl ?_
  exact ⟨by rw [mny_live hM.1], rfl⟩
set_option maxRecDepth 100000 in
set_option maxHeartbeats 1000000 in
theorem m_bleacheds {s : St} {w : Wd} (hM : Bk w 48 0 s) : Ct 1 MX11_bleacheds 3 0 0 [.ref 47] w (Rt (some (.int (nI (cnt s.1 35)))) w) := by
  refine Ct_of (by decide +kernel) rfl (Nat.le_of_ble_eq_true rfl) rfl ?_
  refine V_aload_n (i := 0) dX11_bleacheds_0 rfl rfl ?_
  refine V_iconst_n (v := 1) dX11_bleacheds_1 (by decide) ?_
  refine V_iconst_n (v := 1) dX11_bleacheds_2 (by decide) ?_
  have hq8 := mny_le (C := s.1) (lo := 1) (hi := 1) 64
  refine V_callVF dX11_bleacheds_3 (m_manyOf hM (lo := 1) (hi := 1) (by omega) (by omega)) okX11_manyOf lkRX11_118 (Or.inr ⟨rfl, Nat.le_of_ble_eq_true rfl⟩) rfl rfl rfl rfl (Nat.le_of_ble_eq_true rfl) ⟨Nat.le_of_ble_eq_true rfl, Nat.le_of_ble_eq_true rfl⟩ rfl ?_
  refine V_iret dX11_bleacheds_6 rfl rfl ?_
  exact ⟨by rw [mny_pale hM.1], rfl⟩
theorem bears_pos {r n : Nat} (h : bears r n = true) : 0 < n := by have := bears_iff.mp h; omega
theorem older_lt {v : Nat} (h : okc v) (h1 : 10 ≤ v) : okc (older v) := (older_ok h h1).1
theorem m_nextc_ok {s : St} {k : Nat} (hk : k < 64) (h : OkS s) : okc (nextc s k) := by
  have hv := h.1 k hk
  unfold nextc
  split
  · next h0 =>
    split
    · next hc =>
      have := most_ok hk h.1 (chg_born h0 hc)
      unfold okc; omega
    · exact Or.inl rfl
  · split
    · split
      · exact Or.inl rfl
      · exact Or.inr (Or.inl rfl)
    · split
      · exact Or.inr (Or.inl rfl)
      · exact older_lt hv (by omega)
theorem older_if {v : Nat} (h : okc v) (h1 : 10 ≤ v) : older v = if (v - 10) % 10 < 9 then v + 1 else v := by
  unfold older ag
  rw [if_neg (show ¬ v < 10 by omega)]
theorem nextc_0 {s : St} {k : Nat} (h : s.1 k = 0) : nextc s k = if bears s.2.1 (near s.1 k 0) = true then 10 + 10 * (most s.1 k - 97) else 0 := by
  unfold nextc chg
  rw [if_pos h, if_pos h]
theorem nextc_1 {s : St} {k : Nat} (h0 : ¬ s.1 k = 0) (h : s.1 k < 10) : nextc s k = if near s.1 k 0 = 0 then 0 else 1 := by
  unfold nextc chg
  rw [if_neg h0, if_pos h, if_neg h0, if_pos h]
  by_cases e : near s.1 k 0 = 0
  · rw [if_pos e, if_pos (decide_eq_true e)]
  · rw [if_neg e, if_neg (fun q => e (of_decide_eq_true q))]
theorem nextc_2 {s : St} {k : Nat} (h : ¬ s.1 k < 10) : nextc s k = if keeps s.2.1 (near s.1 k 0) = true then older (s.1 k) else 1 := by
  have h0 : ¬ s.1 k = 0 := by omega
  unfold nextc chg
  rw [if_neg h0, if_neg h, if_neg h0, if_neg h]
  cases keeps s.2.1 (near s.1 k 0) <;> rfl
set_option maxRecDepth 100000 in
set_option maxHeartbeats 1000000 in
theorem m_next {k : Nat} {s : St} {w : Wd} (hM : Bk w 48 0 s) (hk : k < 64) : Ct 1 MX11_next 5 0 0 [.ref 47, .int (nI k)] w (Rt (some (.int (nI (nextc s k)))) w) := by
  refine Ct_of (by decide +kernel) rfl (Nat.le_of_ble_eq_true rfl) rfl ?_
  have hok := hM.1.1 k hk
  unfold okc at hok
  refine V_aload_n (i := 0) dX11_next_0 rfl rfl ?_
  refine V_iload_n (i := 1) dX11_next_1 rfl rfl ?_
  have hv9 := hM.1.1 (k) (by omega)
  unfold okc at hv9
  refine V_callVF dX11_next_2 (m_at hM (k := k) (by omega)) okX11_at lkRX11_101 (Or.inr ⟨rfl, Nat.le_of_ble_eq_true rfl⟩) rfl rfl rfl rfl (Nat.le_of_ble_eq_true rfl) ⟨Nat.le_of_ble_eq_true rfl, Nat.le_of_ble_eq_true rfl⟩ rfl ?_
  refine V_istore_n (i := 2) dX11_next_5 rfl (Nat.le_of_ble_eq_true rfl) rfl rfl ?_
  refine V_aload_n (i := 0) dX11_next_6 rfl rfl ?_
  refine V_iload_n (i := 1) dX11_next_7 rfl rfl ?_
  refine V_iconst_n (v := 0) dX11_next_8 (by decide) ?_
  have hn10 := near_le (C := s.1) (k := k) (q := 0)
  refine V_callVF dX11_next_9 (m_near hM (k := k) (q := 0) (by omega) (by omega)) okX11_near lkRX11_115 (Or.inr ⟨rfl, Nat.le_of_ble_eq_true rfl⟩) rfl rfl rfl rfl (Nat.le_of_ble_eq_true rfl) ⟨Nat.le_of_ble_eq_true rfl, Nat.le_of_ble_eq_true rfl⟩ rfl ?_
  refine V_istore_n (i := 3) dX11_next_12 rfl (Nat.le_of_ble_eq_true rfl) rfl rfl ?_
  refine V_iload_n (i := 2) dX11_next_13 rfl rfl ?_
  refine V_if_ne_n (tgt := 39) dX11_next_14 (by decide) (by omega) (fun h14 => ?_) (fun h14 => ?_)
  · refine V_iload_n (i := 2) dX11_next_39 rfl rfl ?_
    refine V_iconst_n (v := 1) dX11_next_40 (by decide) ?_
    refine V_icmp_ne_n (tgt := 54) dX11_next_41 (by decide) (by omega) (by omega) (fun h41 => ?_) (fun h41 => ?_)
    · refine V_aload_n (i := 0) dX11_next_54 rfl rfl ?_
      refine V_iload_n (i := 3) dX11_next_55 rfl rfl ?_
      refine V_callVF dX11_next_56 (m_keeps hM (n := (near s.1 k 0)) (by omega)) okX11_keeps lkRX11_185 (Or.inr ⟨rfl, Nat.le_of_ble_eq_true rfl⟩) rfl rfl rfl rfl (Nat.le_of_ble_eq_true rfl) ⟨Nat.le_of_ble_eq_true rfl, Nat.le_of_ble_eq_true rfl⟩ rfl ?_
      refine V_if_ne_n (tgt := 66) dX11_next_59 (by decide) (Nat.lt_of_lt_of_le ite_le (by decide)) (fun h59 => ?_) (fun h59 => ?_)
      · have hi59 := ite_t h59
        refine V_iload_n (i := 2) dX11_next_66 rfl rfl ?_
        refine V_bipush_n (v := 10) dX11_next_67 (by decide) ?_
        refine V_isub_n dX11_next_69 (by omega) ?_
        refine V_bipush_n (v := 10) dX11_next_70 (by decide) ?_
        refine V_irem_n dX11_next_72 (by omega) (by omega) (by omega) ?_
        refine V_bipush_n (v := 9) dX11_next_73 (by decide) ?_
        refine V_icmp_ge_n (tgt := 84) dX11_next_75 (by decide) (by omega) (by omega) (fun h75 => ?_) (fun h75 => ?_)
        · refine V_iload_n (i := 2) dX11_next_84 rfl rfl ?_
          refine V_iret dX11_next_85 rfl rfl ?_
          exact ⟨by rw [nextc_2 (by omega), if_pos hi59, older_if (hM.1.1 k hk) (by omega), if_neg (by omega)], rfl⟩
        · refine V_iload_n (i := 2) dX11_next_78 rfl rfl ?_
          refine V_iconst_n (v := 1) dX11_next_79 (by decide) ?_
          refine V_iadd_n dX11_next_80 ?_
          refine V_goto (tgt := 85) dX11_next_81 (by decide) ?_
          refine V_iret dX11_next_85 rfl rfl ?_
          exact ⟨by rw [nextc_2 (by omega), if_pos hi59, older_if (hM.1.1 k hk) (by omega), if_pos h75], rfl⟩
      · have hi59 := ite_f h59
        refine V_iconst_n (v := 1) dX11_next_62 (by decide) ?_
        refine V_goto (tgt := 85) dX11_next_63 (by decide) ?_
        refine V_iret dX11_next_85 rfl rfl ?_
        exact ⟨by rw [nextc_2 (by omega), if_neg hi59], rfl⟩
    · refine V_iload_n (i := 3) dX11_next_44 rfl rfl ?_
      refine V_if_ne_n (tgt := 52) dX11_next_45 (by decide) (by omega) (fun h45 => ?_) (fun h45 => ?_)
      · refine V_iconst_n (v := 1) dX11_next_52 (by decide) ?_
        refine V_iret dX11_next_53 rfl rfl ?_
        exact ⟨by rw [nextc_1 h14 (by omega), if_neg h45], rfl⟩
      · refine V_iconst_n (v := 0) dX11_next_48 (by decide) ?_
        refine V_goto (tgt := 53) dX11_next_49 (by decide) ?_
        refine V_iret dX11_next_53 rfl rfl ?_
        exact ⟨by rw [nextc_1 h14 (by omega), if_pos h45], rfl⟩
  · refine V_aload_n (i := 0) dX11_next_17 rfl rfl ?_
    refine V_iload_n (i := 3) dX11_next_18 rfl rfl ?_
    refine V_callVF dX11_next_19 (m_bears hM (n := (near s.1 k 0)) (by omega)) okX11_bears lkRX11_179 (Or.inr ⟨rfl, Nat.le_of_ble_eq_true rfl⟩) rfl rfl rfl rfl (Nat.le_of_ble_eq_true rfl) ⟨Nat.le_of_ble_eq_true rfl, Nat.le_of_ble_eq_true rfl⟩ rfl ?_
    refine V_if_eq_n (tgt := 37) dX11_next_22 (by decide) (Nat.lt_of_lt_of_le ite_le (by decide)) (fun h22 => ?_) (fun h22 => ?_)
    · have hi22 := ite_f h22
      refine V_iconst_n (v := 0) dX11_next_37 (by decide) ?_
      refine V_iret dX11_next_38 rfl rfl ?_
      exact ⟨by rw [nextc_0 h14, if_neg hi22], rfl⟩
    · have hi22 := ite_t h22
      have hnp := bears_pos hi22
      have hmm := mstN_most hk hM.1.1 hnp
      refine V_aload_n (i := 0) dX11_next_25 rfl rfl ?_
      refine V_iload_n (i := 1) dX11_next_26 rfl rfl ?_
      have hm11 := mstN_in (C := s.1) (k := k) 3
      refine V_callVF dX11_next_27 (m_mostNear hM (k := k) (by omega)) okX11_mostNear lkRX11_182 (Or.inr ⟨rfl, Nat.le_of_ble_eq_true rfl⟩) rfl rfl rfl rfl (Nat.le_of_ble_eq_true rfl) ⟨Nat.le_of_ble_eq_true rfl, Nat.le_of_ble_eq_true rfl⟩ rfl ?_
      refine V_iconst_n (v := 0) dX11_next_30 (by decide) ?_
      refine V_callSF dX11_next_31 (m_living (q := (mstN s.1 k 3)) (g := 0) (rfl) (rfl) (by omega)) okX11_living lkRX11_135 rfl rfl (Nat.le_of_ble_eq_true rfl) ⟨Nat.le_of_ble_eq_true rfl, Nat.le_of_ble_eq_true rfl⟩ rfl ?_
      refine V_goto (tgt := 38) dX11_next_34 (by decide) ?_
      refine V_iret dX11_next_38 rfl rfl ?_
      exact ⟨by rw [nextc_0 h14, if_pos hi22, hmm]; rfl, rfl⟩
def stA (s : St) (k : Nat) : Prop := (10 ≤ nextc s k ↔ 10 ≤ s.1 k) ∧ (nextc s k = 0 ↔ s.1 k = 0)
theorem stA_chg {s : St} {k : Nat} (hk : k < 64) (h : OkS s) : stA s k ↔ chg s k = false := by
  have hv := h.1 k hk
  have hm := fun h0 hc => most_ok hk h.1 (chg_born (s := s) (k := k) h0 hc)
  have ho : 10 ≤ s.1 k → 10 ≤ older (s.1 k) := fun q => by unfold older; split <;> omega
  unfold okc at hv
  unfold stA nextc
  by_cases h0 : s.1 k = 0
  · rw [if_pos h0]
    by_cases hc : chg s k = true
    · have := hm h0 hc
      rw [if_pos hc, hc]
      constructor
      · intro q; omega
      · intro q; cases q
    · rw [if_neg hc]
      constructor
      · intro _; exact Bool.eq_false_iff.mpr hc
      · intro _; omega
  · rw [if_neg h0]
    by_cases h1 : s.1 k < 10
    · rw [if_pos h1]
      by_cases hc : chg s k = true
      · rw [if_pos hc, hc]
        constructor
        · intro q; omega
        · intro q; cases q
      · rw [if_neg hc]
        constructor
        · intro _; exact Bool.eq_false_iff.mpr hc
        · intro _; omega
    · rw [if_neg h1]
      by_cases hc : chg s k = true
      · rw [if_pos hc, hc]
        constructor
        · intro q; omega
        · intro q; cases q
      · have := ho (by omega)
        rw [if_neg hc]
        constructor
        · intro _; exact Bool.eq_false_iff.mpr hc
        · intro _; omega
/-- no cell below i changes -/
def stB (s : St) (i : Nat) : Bool := (List.range i).all fun k => !chg s k
theorem stB_s {s : St} {i : Nat} : stB s (i + 1) = (stB s i && !chg s i) := by unfold stB; rw [List.range_succ, List.all_append]; simp
theorem stB_64 {s : St} : stB s 64 = stl s := rfl
set_option maxRecDepth 100000 in
set_option maxHeartbeats 1000000 in
theorem m_isStillNow {s : St} {w : Wd} (hM : Bk w 48 0 s) : Ct 1 MX11_isStillNow 6 0 0 [.ref 47] w (Rt (some (.int (nI (if stl s = true then 1 else 0)))) w) := by
  refine Ct_of (by decide +kernel) rfl (Nat.le_of_ble_eq_true rfl) rfl ?_
  have lp : ∀ (fu i : Nat) , i ≤ 64 → 64 - i < fu → V 1 MX11_isStillNow 6 0 0 (Rt (some (.int (nI (if stl s = true then 1 else 0)))) w) (fun _ _ => True) 0 0 4 [some (.ref 47), some (.int (nI (if stB s i = true then 1 else 0))), some (.int (nI i)), none] [] w := by
    intro fu
    induction fu with
    | zero => intro i  h1 h2; omega
    | succ fu ih =>
      intro i  hib hfu
      refine V_iload_n (i := 2) dX11_isStillNow_4 rfl rfl ?_
      refine V_bipush_n (v := 64) dX11_isStillNow_5 (by decide) ?_
      refine V_icmp_ge_n (tgt := 86) dX11_isStillNow_7 (by decide) (by omega) (by omega) (fun h7 => ?_) (fun h7 => ?_)
      · refine V_iload_n (i := 1) dX11_isStillNow_86 rfl rfl ?_
        refine V_iret dX11_isStillNow_87 rfl (nar_bool ite_le) ?_
        obtain rfl : i = 64 := by omega
        exact ⟨rfl, rfl⟩
      · refine V_aload_n (i := 0) dX11_isStillNow_10 rfl rfl ?_
        refine V_iload_n (i := 2) dX11_isStillNow_11 rfl rfl ?_
        have hx12 := m_nextc_ok (s := s) (k := i) (by omega) hM.1
        unfold okc at hx12
        refine V_callVF dX11_isStillNow_12 (m_next hM (k := i) (by omega)) okX11_next lkRX11_188 (Or.inr ⟨rfl, Nat.le_of_ble_eq_true rfl⟩) rfl rfl rfl rfl (Nat.le_of_ble_eq_true rfl) ⟨Nat.le_of_ble_eq_true rfl, Nat.le_of_ble_eq_true rfl⟩ rfl ?_
        refine V_istore_n (i := 3) dX11_isStillNow_15 rfl (Nat.le_of_ble_eq_true rfl) rfl rfl ?_
        refine V_iload_n (i := 1) dX11_isStillNow_16 rfl rfl ?_
        refine V_if_eq_n (tgt := 78) dX11_isStillNow_17 (by decide) (Nat.lt_of_lt_of_le ite_le (by decide)) (fun h17 => ?_) (fun h17 => ?_)
        · have hi17 := ite_f h17
          refine V_iconst_n (v := 0) dX11_isStillNow_78 (by decide) ?_
          refine V_istore_n (i := 1) dX11_isStillNow_79 rfl (Nat.le_of_ble_eq_true rfl) rfl rfl ?_
          refine V_iinc_n (b := (i + 1)) dX11_isStillNow_80 rfl (nI_add _ _) rfl rfl ?_
          refine V_goto (tgt := 4) dX11_isStillNow_83 (by decide) ?_
          have k9 := ih (i + 1) (by omega) (by omega)
          rw [show stB s (i + 1) = false from Bool.eq_false_iff.mpr (fun q => by
              rw [stB_s, Bool.and_eq_true] at q
              have h9 := (stA_chg (k := i) (by omega) hM.1).mpr (by have := q.2; simpa using this)
              unfold stA at h9
              first | exact absurd q.1 hi17 | omega)] at k9
          exact k9.sub (by repeat' (first | exact trivial | exact rfl | constructor))
        · have hi17 := ite_t h17
          refine V_iload_n (i := 3) dX11_isStillNow_20 rfl rfl ?_
          refine V_bipush_n (v := 10) dX11_isStillNow_21 (by decide) ?_
          refine V_icmp_lt_n (tgt := 30) dX11_isStillNow_23 (by decide) (by omega) (by omega) (fun h23 => ?_) (fun h23 => ?_)
          · refine V_iconst_n (v := 0) dX11_isStillNow_30 (by decide) ?_
            refine V_aload_n (i := 0) dX11_isStillNow_31 rfl rfl ?_
            refine V_iload_n (i := 2) dX11_isStillNow_32 rfl rfl ?_
            have hv13 := hM.1.1 (i) (by omega)
            unfold okc at hv13
            refine V_callVF dX11_isStillNow_33 (m_at hM (k := i) (by omega)) okX11_at lkRX11_101 (Or.inr ⟨rfl, Nat.le_of_ble_eq_true rfl⟩) rfl rfl rfl rfl (Nat.le_of_ble_eq_true rfl) ⟨Nat.le_of_ble_eq_true rfl, Nat.le_of_ble_eq_true rfl⟩ rfl ?_
            refine V_bipush_n (v := 10) dX11_isStillNow_36 (by decide) ?_
            refine V_icmp_lt_n (tgt := 45) dX11_isStillNow_38 (by decide) (by omega) (by omega) (fun h38 => ?_) (fun h38 => ?_)
            · refine V_iconst_n (v := 0) dX11_isStillNow_45 (by decide) ?_
              refine V_icmp_ne_n (tgt := 78) dX11_isStillNow_46 (by decide) (by omega) (by omega) (fun h46 => by exfalso; omega) (fun h46 => ?_)
              refine V_iload_n (i := 3) dX11_isStillNow_49 rfl rfl ?_
              refine V_if_ne_n (tgt := 57) dX11_isStillNow_50 (by decide) (by omega) (fun h50 => ?_) (fun h50 => ?_)
              · refine V_iconst_n (v := 0) dX11_isStillNow_57 (by decide) ?_
                refine V_aload_n (i := 0) dX11_isStillNow_58 rfl rfl ?_
                refine V_iload_n (i := 2) dX11_isStillNow_59 rfl rfl ?_
                have hv14 := hM.1.1 (i) (by omega)
                unfold okc at hv14
                refine V_callVF dX11_isStillNow_60 (m_at hM (k := i) (by omega)) okX11_at lkRX11_101 (Or.inr ⟨rfl, Nat.le_of_ble_eq_true rfl⟩) rfl rfl rfl rfl (Nat.le_of_ble_eq_true rfl) ⟨Nat.le_of_ble_eq_true rfl, Nat.le_of_ble_eq_true rfl⟩ rfl ?_
                refine V_if_ne_n (tgt := 70) dX11_isStillNow_63 (by decide) (by omega) (fun h63 => ?_) (fun h63 => ?_)
                · refine V_iconst_n (v := 0) dX11_isStillNow_70 (by decide) ?_
                  refine V_icmp_ne_n (tgt := 78) dX11_isStillNow_71 (by decide) (by omega) (by omega) (fun h71 => by exfalso; omega) (fun h71 => ?_)
                  refine V_iconst_n (v := 1) dX11_isStillNow_74 (by decide) ?_
                  refine V_goto (tgt := 79) dX11_isStillNow_75 (by decide) ?_
                  refine V_istore_n (i := 1) dX11_isStillNow_79 rfl (Nat.le_of_ble_eq_true rfl) rfl rfl ?_
                  refine V_iinc_n (b := (i + 1)) dX11_isStillNow_80 rfl (nI_add _ _) rfl rfl ?_
                  refine V_goto (tgt := 4) dX11_isStillNow_83 (by decide) ?_
                  have k9 := ih (i + 1) (by omega) (by omega)
                  rw [stB_s, hi17, (stA_chg (k := i) (by omega) hM.1).mp ⟨by omega, by omega⟩] at k9
                  exact k9.sub (by repeat' (first | exact trivial | exact rfl | constructor))
                · refine V_iconst_n (v := 1) dX11_isStillNow_66 (by decide) ?_
                  refine V_goto (tgt := 71) dX11_isStillNow_67 (by decide) ?_
                  refine V_icmp_ne_n (tgt := 78) dX11_isStillNow_71 (by decide) (by omega) (by omega) (fun h71 => ?_) (fun h71 => by exfalso; omega)
                  refine V_iconst_n (v := 0) dX11_isStillNow_78 (by decide) ?_
                  refine V_istore_n (i := 1) dX11_isStillNow_79 rfl (Nat.le_of_ble_eq_true rfl) rfl rfl ?_
                  refine V_iinc_n (b := (i + 1)) dX11_isStillNow_80 rfl (nI_add _ _) rfl rfl ?_
                  refine V_goto (tgt := 4) dX11_isStillNow_83 (by decide) ?_
                  have k9 := ih (i + 1) (by omega) (by omega)
                  rw [show stB s (i + 1) = false from Bool.eq_false_iff.mpr (fun q => by
                      rw [stB_s, Bool.and_eq_true] at q
                      have h9 := (stA_chg (k := i) (by omega) hM.1).mpr (by have := q.2; simpa using this)
                      unfold stA at h9
                      first | exact absurd q.1 hi17 | omega)] at k9
                  exact k9.sub (by repeat' (first | exact trivial | exact rfl | constructor))
              · refine V_iconst_n (v := 1) dX11_isStillNow_53 (by decide) ?_
                refine V_goto (tgt := 58) dX11_isStillNow_54 (by decide) ?_
                refine V_aload_n (i := 0) dX11_isStillNow_58 rfl rfl ?_
                refine V_iload_n (i := 2) dX11_isStillNow_59 rfl rfl ?_
                have hv15 := hM.1.1 (i) (by omega)
                unfold okc at hv15
                refine V_callVF dX11_isStillNow_60 (m_at hM (k := i) (by omega)) okX11_at lkRX11_101 (Or.inr ⟨rfl, Nat.le_of_ble_eq_true rfl⟩) rfl rfl rfl rfl (Nat.le_of_ble_eq_true rfl) ⟨Nat.le_of_ble_eq_true rfl, Nat.le_of_ble_eq_true rfl⟩ rfl ?_
                refine V_if_ne_n (tgt := 70) dX11_isStillNow_63 (by decide) (by omega) (fun h63 => ?_) (fun h63 => ?_)
                · refine V_iconst_n (v := 0) dX11_isStillNow_70 (by decide) ?_
                  refine V_icmp_ne_n (tgt := 78) dX11_isStillNow_71 (by decide) (by omega) (by omega) (fun h71 => ?_) (fun h71 => by exfalso; omega)
                  refine V_iconst_n (v := 0) dX11_isStillNow_78 (by decide) ?_
                  refine V_istore_n (i := 1) dX11_isStillNow_79 rfl (Nat.le_of_ble_eq_true rfl) rfl rfl ?_
                  refine V_iinc_n (b := (i + 1)) dX11_isStillNow_80 rfl (nI_add _ _) rfl rfl ?_
                  refine V_goto (tgt := 4) dX11_isStillNow_83 (by decide) ?_
                  have k9 := ih (i + 1) (by omega) (by omega)
                  rw [show stB s (i + 1) = false from Bool.eq_false_iff.mpr (fun q => by
                      rw [stB_s, Bool.and_eq_true] at q
                      have h9 := (stA_chg (k := i) (by omega) hM.1).mpr (by have := q.2; simpa using this)
                      unfold stA at h9
                      first | exact absurd q.1 hi17 | omega)] at k9
                  exact k9.sub (by repeat' (first | exact trivial | exact rfl | constructor))
                · refine V_iconst_n (v := 1) dX11_isStillNow_66 (by decide) ?_
                  refine V_goto (tgt := 71) dX11_isStillNow_67 (by decide) ?_
                  refine V_icmp_ne_n (tgt := 78) dX11_isStillNow_71 (by decide) (by omega) (by omega) (fun h71 => by exfalso; omega) (fun h71 => ?_)
                  refine V_iconst_n (v := 1) dX11_isStillNow_74 (by decide) ?_
                  refine V_goto (tgt := 79) dX11_isStillNow_75 (by decide) ?_
                  refine V_istore_n (i := 1) dX11_isStillNow_79 rfl (Nat.le_of_ble_eq_true rfl) rfl rfl ?_
                  refine V_iinc_n (b := (i + 1)) dX11_isStillNow_80 rfl (nI_add _ _) rfl rfl ?_
                  refine V_goto (tgt := 4) dX11_isStillNow_83 (by decide) ?_
                  have k9 := ih (i + 1) (by omega) (by omega)
                  rw [stB_s, hi17, (stA_chg (k := i) (by omega) hM.1).mp ⟨by omega, by omega⟩] at k9
                  exact k9.sub (by repeat' (first | exact trivial | exact rfl | constructor))
            · refine V_iconst_n (v := 1) dX11_isStillNow_41 (by decide) ?_
              refine V_goto (tgt := 46) dX11_isStillNow_42 (by decide) ?_
              refine V_icmp_ne_n (tgt := 78) dX11_isStillNow_46 (by decide) (by omega) (by omega) (fun h46 => ?_) (fun h46 => by exfalso; omega)
              refine V_iconst_n (v := 0) dX11_isStillNow_78 (by decide) ?_
              refine V_istore_n (i := 1) dX11_isStillNow_79 rfl (Nat.le_of_ble_eq_true rfl) rfl rfl ?_
              refine V_iinc_n (b := (i + 1)) dX11_isStillNow_80 rfl (nI_add _ _) rfl rfl ?_
              refine V_goto (tgt := 4) dX11_isStillNow_83 (by decide) ?_
              have k9 := ih (i + 1) (by omega) (by omega)
              rw [show stB s (i + 1) = false from Bool.eq_false_iff.mpr (fun q => by
                  rw [stB_s, Bool.and_eq_true] at q
                  have h9 := (stA_chg (k := i) (by omega) hM.1).mpr (by have := q.2; simpa using this)
                  unfold stA at h9
                  first | exact absurd q.1 hi17 | omega)] at k9
              exact k9.sub (by repeat' (first | exact trivial | exact rfl | constructor))
          · refine V_iconst_n (v := 1) dX11_isStillNow_26 (by decide) ?_
            refine V_goto (tgt := 31) dX11_isStillNow_27 (by decide) ?_
            refine V_aload_n (i := 0) dX11_isStillNow_31 rfl rfl ?_
            refine V_iload_n (i := 2) dX11_isStillNow_32 rfl rfl ?_
            have hv16 := hM.1.1 (i) (by omega)
            unfold okc at hv16
            refine V_callVF dX11_isStillNow_33 (m_at hM (k := i) (by omega)) okX11_at lkRX11_101 (Or.inr ⟨rfl, Nat.le_of_ble_eq_true rfl⟩) rfl rfl rfl rfl (Nat.le_of_ble_eq_true rfl) ⟨Nat.le_of_ble_eq_true rfl, Nat.le_of_ble_eq_true rfl⟩ rfl ?_
            refine V_bipush_n (v := 10) dX11_isStillNow_36 (by decide) ?_
            refine V_icmp_lt_n (tgt := 45) dX11_isStillNow_38 (by decide) (by omega) (by omega) (fun h38 => ?_) (fun h38 => ?_)
            · refine V_iconst_n (v := 0) dX11_isStillNow_45 (by decide) ?_
              refine V_icmp_ne_n (tgt := 78) dX11_isStillNow_46 (by decide) (by omega) (by omega) (fun h46 => ?_) (fun h46 => by exfalso; omega)
              refine V_iconst_n (v := 0) dX11_isStillNow_78 (by decide) ?_
              refine V_istore_n (i := 1) dX11_isStillNow_79 rfl (Nat.le_of_ble_eq_true rfl) rfl rfl ?_
              refine V_iinc_n (b := (i + 1)) dX11_isStillNow_80 rfl (nI_add _ _) rfl rfl ?_
              refine V_goto (tgt := 4) dX11_isStillNow_83 (by decide) ?_
              have k9 := ih (i + 1) (by omega) (by omega)
              rw [show stB s (i + 1) = false from Bool.eq_false_iff.mpr (fun q => by
                  rw [stB_s, Bool.and_eq_true] at q
                  have h9 := (stA_chg (k := i) (by omega) hM.1).mpr (by have := q.2; simpa using this)
                  unfold stA at h9
                  first | exact absurd q.1 hi17 | omega)] at k9
              exact k9.sub (by repeat' (first | exact trivial | exact rfl | constructor))
            · refine V_iconst_n (v := 1) dX11_isStillNow_41 (by decide) ?_
              refine V_goto (tgt := 46) dX11_isStillNow_42 (by decide) ?_
              refine V_icmp_ne_n (tgt := 78) dX11_isStillNow_46 (by decide) (by omega) (by omega) (fun h46 => by exfalso; omega) (fun h46 => ?_)
              refine V_iload_n (i := 3) dX11_isStillNow_49 rfl rfl ?_
              refine V_if_ne_n (tgt := 57) dX11_isStillNow_50 (by decide) (by omega) (fun h50 => ?_) (fun h50 => ?_)
              · refine V_iconst_n (v := 0) dX11_isStillNow_57 (by decide) ?_
                refine V_aload_n (i := 0) dX11_isStillNow_58 rfl rfl ?_
                refine V_iload_n (i := 2) dX11_isStillNow_59 rfl rfl ?_
                have hv17 := hM.1.1 (i) (by omega)
                unfold okc at hv17
                refine V_callVF dX11_isStillNow_60 (m_at hM (k := i) (by omega)) okX11_at lkRX11_101 (Or.inr ⟨rfl, Nat.le_of_ble_eq_true rfl⟩) rfl rfl rfl rfl (Nat.le_of_ble_eq_true rfl) ⟨Nat.le_of_ble_eq_true rfl, Nat.le_of_ble_eq_true rfl⟩ rfl ?_
                refine V_if_ne_n (tgt := 70) dX11_isStillNow_63 (by decide) (by omega) (fun h63 => ?_) (fun h63 => ?_)
                · refine V_iconst_n (v := 0) dX11_isStillNow_70 (by decide) ?_
                  refine V_icmp_ne_n (tgt := 78) dX11_isStillNow_71 (by decide) (by omega) (by omega) (fun h71 => by exfalso; omega) (fun h71 => ?_)
                  refine V_iconst_n (v := 1) dX11_isStillNow_74 (by decide) ?_
                  refine V_goto (tgt := 79) dX11_isStillNow_75 (by decide) ?_
                  refine V_istore_n (i := 1) dX11_isStillNow_79 rfl (Nat.le_of_ble_eq_true rfl) rfl rfl ?_
                  refine V_iinc_n (b := (i + 1)) dX11_isStillNow_80 rfl (nI_add _ _) rfl rfl ?_
                  refine V_goto (tgt := 4) dX11_isStillNow_83 (by decide) ?_
                  have k9 := ih (i + 1) (by omega) (by omega)
                  rw [stB_s, hi17, (stA_chg (k := i) (by omega) hM.1).mp ⟨by omega, by omega⟩] at k9
                  exact k9.sub (by repeat' (first | exact trivial | exact rfl | constructor))
                · refine V_iconst_n (v := 1) dX11_isStillNow_66 (by decide) ?_
                  refine V_goto (tgt := 71) dX11_isStillNow_67 (by decide) ?_
                  refine V_icmp_ne_n (tgt := 78) dX11_isStillNow_71 (by decide) (by omega) (by omega) (fun h71 => ?_) (fun h71 => by exfalso; omega)
                  refine V_iconst_n (v := 0) dX11_isStillNow_78 (by decide) ?_
                  refine V_istore_n (i := 1) dX11_isStillNow_79 rfl (Nat.le_of_ble_eq_true rfl) rfl rfl ?_
                  refine V_iinc_n (b := (i + 1)) dX11_isStillNow_80 rfl (nI_add _ _) rfl rfl ?_
                  refine V_goto (tgt := 4) dX11_isStillNow_83 (by decide) ?_
                  have k9 := ih (i + 1) (by omega) (by omega)
                  rw [show stB s (i + 1) = false from Bool.eq_false_iff.mpr (fun q => by
                      rw [stB_s, Bool.and_eq_true] at q
                      have h9 := (stA_chg (k := i) (by omega) hM.1).mpr (by have := q.2; simpa using this)
                      unfold stA at h9
                      first | exact absurd q.1 hi17 | omega)] at k9
                  exact k9.sub (by repeat' (first | exact trivial | exact rfl | constructor))
              · refine V_iconst_n (v := 1) dX11_isStillNow_53 (by decide) ?_
                refine V_goto (tgt := 58) dX11_isStillNow_54 (by decide) ?_
                refine V_aload_n (i := 0) dX11_isStillNow_58 rfl rfl ?_
                refine V_iload_n (i := 2) dX11_isStillNow_59 rfl rfl ?_
                have hv18 := hM.1.1 (i) (by omega)
                unfold okc at hv18
                refine V_callVF dX11_isStillNow_60 (m_at hM (k := i) (by omega)) okX11_at lkRX11_101 (Or.inr ⟨rfl, Nat.le_of_ble_eq_true rfl⟩) rfl rfl rfl rfl (Nat.le_of_ble_eq_true rfl) ⟨Nat.le_of_ble_eq_true rfl, Nat.le_of_ble_eq_true rfl⟩ rfl ?_
                refine V_if_ne_n (tgt := 70) dX11_isStillNow_63 (by decide) (by omega) (fun h63 => ?_) (fun h63 => ?_)
                · refine V_iconst_n (v := 0) dX11_isStillNow_70 (by decide) ?_
                  refine V_icmp_ne_n (tgt := 78) dX11_isStillNow_71 (by decide) (by omega) (by omega) (fun h71 => ?_) (fun h71 => by exfalso; omega)
                  refine V_iconst_n (v := 0) dX11_isStillNow_78 (by decide) ?_
                  refine V_istore_n (i := 1) dX11_isStillNow_79 rfl (Nat.le_of_ble_eq_true rfl) rfl rfl ?_
                  refine V_iinc_n (b := (i + 1)) dX11_isStillNow_80 rfl (nI_add _ _) rfl rfl ?_
                  refine V_goto (tgt := 4) dX11_isStillNow_83 (by decide) ?_
                  have k9 := ih (i + 1) (by omega) (by omega)
                  rw [show stB s (i + 1) = false from Bool.eq_false_iff.mpr (fun q => by
                      rw [stB_s, Bool.and_eq_true] at q
                      have h9 := (stA_chg (k := i) (by omega) hM.1).mpr (by have := q.2; simpa using this)
                      unfold stA at h9
                      first | exact absurd q.1 hi17 | omega)] at k9
                  exact k9.sub (by repeat' (first | exact trivial | exact rfl | constructor))
                · refine V_iconst_n (v := 1) dX11_isStillNow_66 (by decide) ?_
                  refine V_goto (tgt := 71) dX11_isStillNow_67 (by decide) ?_
                  refine V_icmp_ne_n (tgt := 78) dX11_isStillNow_71 (by decide) (by omega) (by omega) (fun h71 => by exfalso; omega) (fun h71 => ?_)
                  refine V_iconst_n (v := 1) dX11_isStillNow_74 (by decide) ?_
                  refine V_goto (tgt := 79) dX11_isStillNow_75 (by decide) ?_
                  refine V_istore_n (i := 1) dX11_isStillNow_79 rfl (Nat.le_of_ble_eq_true rfl) rfl rfl ?_
                  refine V_iinc_n (b := (i + 1)) dX11_isStillNow_80 rfl (nI_add _ _) rfl rfl ?_
                  refine V_goto (tgt := 4) dX11_isStillNow_83 (by decide) ?_
                  have k9 := ih (i + 1) (by omega) (by omega)
                  rw [stB_s, hi17, (stA_chg (k := i) (by omega) hM.1).mp ⟨by omega, by omega⟩] at k9
                  exact k9.sub (by repeat' (first | exact trivial | exact rfl | constructor))
  refine V_iconst_n (v := 1) dX11_isStillNow_0 (by decide) ?_
  refine V_istore_n (i := 1) dX11_isStillNow_1 rfl (Nat.le_of_ble_eq_true rfl) rfl rfl ?_
  refine V_iconst_n (v := 0) dX11_isStillNow_2 (by decide) ?_
  refine V_istore_n (i := 2) dX11_isStillNow_3 rfl (Nat.le_of_ble_eq_true rfl) rfl rfl ?_
  exact (lp 65 0 (by omega) (by omega)).sub (by repeat' (first | exact trivial | exact rfl | constructor))
end MREAD
