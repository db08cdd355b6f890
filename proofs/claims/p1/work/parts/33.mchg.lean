/-! THE PLAIN FORM: changes. Printed by wip/whole/gen/mk33.py. -/
section MCHG
section CPY
variable {w : Wd} {a i j o : Nat} {x : Int32} {s : St}
theorem cp0 {f : Nat → Int32} (h : ∀ k, k < i → gI w a k = f k) (hx : x = f i) : ∀ k, k < i + 1 → gI (pI w a i x) a k = f k := by
  intro k hk
  by_cases e : k = i
  · rw [e, pI_at, hx]
  · exact pI_ne (by omega) (h k (by omega))
theorem Bk.of0 (h : OkS s) (hc : ∀ k, k < 71 → gI w a k = bk s k) : Bk w a 0 s := ⟨h, fun k hk => by rw [Nat.zero_add]; exact hc k hk⟩
theorem Bk.wk {b : Nat} (h : Bk w a o s) (n : ∀ k, k < 71 → ¬ (a = b ∧ o + k = j)) : Bk (pI w b j x) a o s := ⟨h.1, fun k hk => pI_ne (n k hk) (h.2 k hk)⟩
end CPY
set_option maxRecDepth 100000 in
set_option maxHeartbeats 1000000 in
theorem m_starts {s : St} {w : Wd} (hM : Bk w 48 0 s) : Ct 1 MX11_starts 1 0 0 [.ref 47] w (Mt none fun w1 => gI w1 47 9 = nI 0 ∧ gI w1 47 15 = nI 0 ∧ Bk w1 49 0 s ∧ Fz PSt w w1) := by
  refine Ct_of (by decide +kernel) rfl (Nat.le_of_ble_eq_true rfl) rfl ?_
  have lp : ∀ (fu i : Nat) (w1 : Wd), i ≤ 71 → 71 - i < fu → (∀ k, k < i → gI w1 49 k = bk s k) → gI w1 47 9 = nI 0 → gI w1 47 15 = nI 0 → Fz PSt w w1 → V 1 MX11_starts 1 0 0 (Mt none fun w1 => gI w1 47 9 = nI 0 ∧ gI w1 47 15 = nI 0 ∧ Bk w1 49 0 s ∧ Fz PSt w w1) (fun _ _ => True) 0 0 12 [some (.ref 47), some (.int (nI i))] [] w1 := by
    intro fu
    induction fu with
    | zero => intro i w1 h1 h2; omega
    | succ fu ih =>
      intro i w1 hib hfu hc h9 h15 hf
      refine V_iload_n (i := 1) dX11_starts_12 rfl rfl ?_
      refine V_bipush_n (v := 71) dX11_starts_13 (by decide) ?_
      refine V_icmp_ge_n (tgt := 36) dX11_starts_15 (by decide) (by omega) (by omega) (fun b15 => ?_) (fun b15 => ?_)
      · refine V_vret dX11_starts_36 rfl ?_
        obtain rfl : i = 71 := by omega
        exact ⟨rfl, h9, h15, Bk.of0 hM.1 hc, hf⟩
      · refine V_aload_n (i := 0) dX11_starts_18 rfl rfl ?_
        refine V_getC (k := 1) (q := 49) dX11_starts_19 (Or.inr ⟨rfl, Nat.le_of_ble_eq_true rfl⟩) rfl rfl rfl (Nat.le_of_ble_eq_true rfl) flRX11_13 ?_
        refine V_iload_n (i := 1) dX11_starts_22 rfl rfl ?_
        refine V_aload_n (i := 0) dX11_starts_23 rfl rfl ?_
        refine V_getC (k := 0) (q := 48) dX11_starts_24 (Or.inr ⟨rfl, Nat.le_of_ble_eq_true rfl⟩) rfl rfl rfl (Nat.le_of_ble_eq_true rfl) flRX11_9 ?_
        refine V_iload_n (i := 1) dX11_starts_27 rfl rfl ?_
        refine V_iald_n (i := i) dX11_starts_28 (Or.inr ⟨rfl, Nat.le_of_ble_eq_true rfl⟩) rfl (by omega) (by decide) ?_
        refine V_top (y := (bk s i)) ((hM.keep hf (fun k _ => by omega)).all0 (by omega)) ?_
        refine V_iast_n (i := i) dX11_starts_29 (Or.inr ⟨rfl, Nat.le_of_ble_eq_true rfl⟩) rfl (by omega) (by decide) ?_
        refine V_iinc_n (b := (i + 1)) dX11_starts_30 rfl (nI_add _ _) rfl rfl ?_
        refine V_goto (tgt := 12) dX11_starts_33 (by decide) ?_
        exact ih (i + 1) _ (by omega) (by omega) (cp0 hc rfl) (pI_ne (by omega) h9) (pI_ne (by omega) h15) (hf.i1 (by omega) (by unfold PSt; omega))
  refine V_aload_n (i := 0) dX11_starts_0 rfl rfl ?_
  refine V_iconst_n (v := 0) dX11_starts_1 (by decide) ?_
  refine V_putI (k := 9) (ty := .int) dX11_starts_2 (Or.inr ⟨rfl, Nat.le_of_ble_eq_true rfl⟩) rfl rfl rfl (Nat.le_of_ble_eq_true rfl) flRX11_66 rfl (by decide +kernel) rfl rfl ?_
  refine V_aload_n (i := 0) dX11_starts_5 rfl rfl ?_
  refine V_iconst_n (v := 0) dX11_starts_6 (by decide) ?_
  refine V_putI (k := 15) (ty := .int) dX11_starts_7 (Or.inr ⟨rfl, Nat.le_of_ble_eq_true rfl⟩) rfl rfl rfl (Nat.le_of_ble_eq_true rfl) flRX11_69 rfl (by decide +kernel) rfl rfl ?_
  refine V_iconst_n (v := 0) dX11_starts_10 (by decide) ?_
  refine V_istore_n (i := 1) dX11_starts_11 rfl (Nat.le_of_ble_eq_true rfl) rfl rfl ?_
  exact lp 72 0 _ (by omega) (by omega) (fun k hk => by omega) (pI_ne (by omega) pI_at) pI_at (((Fz.nil (P := PSt)).i1 (by omega) (by unfold PSt; omega)).i1 (by omega) (by unfold PSt; omega))
set_option maxRecDepth 100000 in
set_option maxHeartbeats 1000000 in
theorem m_thinks {s : St} {w : Wd} (hM : Bk w 48 0 s) : Ct 1 MX11_thinks 1 0 0 [.ref 47] w (Mt none fun w1 => Bk w1 50 0 s ∧ Fz PTho w w1) := by
  refine Ct_of (by decide +kernel) rfl (Nat.le_of_ble_eq_true rfl) rfl ?_
  have lp : ∀ (fu i : Nat) (w1 : Wd), i ≤ 71 → 71 - i < fu → (∀ k, k < i → gI w1 50 k = bk s k) → Fz PTho w w1 → V 1 MX11_thinks 1 0 0 (Mt none fun w1 => Bk w1 50 0 s ∧ Fz PTho w w1) (fun _ _ => True) 0 0 2 [some (.ref 47), some (.int (nI i))] [] w1 := by
    intro fu
    induction fu with
    | zero => intro i w1 h1 h2; omega
    | succ fu ih =>
      intro i w1 hib hfu hc hf
      refine V_iload_n (i := 1) dX11_thinks_2 rfl rfl ?_
      refine V_bipush_n (v := 71) dX11_thinks_3 (by decide) ?_
      refine V_icmp_ge_n (tgt := 26) dX11_thinks_5 (by decide) (by omega) (by omega) (fun h5 => ?_) (fun h5 => ?_)
      · refine V_vret dX11_thinks_26 rfl ?_
        obtain rfl : i = 71 := by omega
        exact ⟨rfl, Bk.of0 hM.1 hc, hf⟩
      · refine V_aload_n (i := 0) dX11_thinks_8 rfl rfl ?_
        refine V_getC (k := 2) (q := 50) dX11_thinks_9 (Or.inr ⟨rfl, Nat.le_of_ble_eq_true rfl⟩) rfl rfl rfl (Nat.le_of_ble_eq_true rfl) flRX11_16 ?_
        refine V_iload_n (i := 1) dX11_thinks_12 rfl rfl ?_
        refine V_aload_n (i := 0) dX11_thinks_13 rfl rfl ?_
        refine V_getC (k := 0) (q := 48) dX11_thinks_14 (Or.inr ⟨rfl, Nat.le_of_ble_eq_true rfl⟩) rfl rfl rfl (Nat.le_of_ble_eq_true rfl) flRX11_9 ?_
        refine V_iload_n (i := 1) dX11_thinks_17 rfl rfl ?_
        refine V_iald_n (i := i) dX11_thinks_18 (Or.inr ⟨rfl, Nat.le_of_ble_eq_true rfl⟩) rfl (by omega) (by decide) ?_
        refine V_top (y := (bk s i)) ((hM.keep hf (fun k _ => by omega)).all0 (by omega)) ?_
        refine V_iast_n (i := i) dX11_thinks_19 (Or.inr ⟨rfl, Nat.le_of_ble_eq_true rfl⟩) rfl (by omega) (by decide) ?_
        refine V_iinc_n (b := (i + 1)) dX11_thinks_20 rfl (nI_add _ _) rfl rfl ?_
        refine V_goto (tgt := 2) dX11_thinks_23 (by decide) ?_
        exact ih (i + 1) _ (by omega) (by omega) (cp0 hc rfl) (hf.i1 (by omega) (by unfold PTho; omega))
  refine V_iconst_n (v := 0) dX11_thinks_0 (by decide) ?_
  refine V_istore_n (i := 1) dX11_thinks_1 rfl (Nat.le_of_ble_eq_true rfl) rfl rfl ?_
  exact lp 72 0 _ (by omega) (by omega) (fun k hk => by omega) (Fz.nil (P := PTho))
set_option maxRecDepth 100000 in
set_option maxHeartbeats 1000000 in
theorem m_comesBack {s : St} {w : Wd} (hT : Bk w 50 0 s) : Ct 1 MX11_comesBack 1 0 0 [.ref 47] w (Mt none fun w1 => Bk w1 48 0 s ∧ Fz PMm w w1) := by
  refine Ct_of (by decide +kernel) rfl (Nat.le_of_ble_eq_true rfl) rfl ?_
  have lp : ∀ (fu i : Nat) (w1 : Wd), i ≤ 71 → 71 - i < fu → (∀ k, k < i → gI w1 48 k = bk s k) → Fz PMm w w1 → V 1 MX11_comesBack 1 0 0 (Mt none fun w1 => Bk w1 48 0 s ∧ Fz PMm w w1) (fun _ _ => True) 0 0 2 [some (.ref 47), some (.int (nI i))] [] w1 := by
    intro fu
    induction fu with
    | zero => intro i w1 h1 h2; omega
    | succ fu ih =>
      intro i w1 hib hfu hc hf
      refine V_iload_n (i := 1) dX11_comesBack_2 rfl rfl ?_
      refine V_bipush_n (v := 71) dX11_comesBack_3 (by decide) ?_
      refine V_icmp_ge_n (tgt := 26) dX11_comesBack_5 (by decide) (by omega) (by omega) (fun h5 => ?_) (fun h5 => ?_)
      · refine V_vret dX11_comesBack_26 rfl ?_
        obtain rfl : i = 71 := by omega
        exact ⟨rfl, Bk.of0 hT.1 hc, hf⟩
      · refine V_aload_n (i := 0) dX11_comesBack_8 rfl rfl ?_
        refine V_getC (k := 0) (q := 48) dX11_comesBack_9 (Or.inr ⟨rfl, Nat.le_of_ble_eq_true rfl⟩) rfl rfl rfl (Nat.le_of_ble_eq_true rfl) flRX11_9 ?_
        refine V_iload_n (i := 1) dX11_comesBack_12 rfl rfl ?_
        refine V_aload_n (i := 0) dX11_comesBack_13 rfl rfl ?_
        refine V_getC (k := 2) (q := 50) dX11_comesBack_14 (Or.inr ⟨rfl, Nat.le_of_ble_eq_true rfl⟩) rfl rfl rfl (Nat.le_of_ble_eq_true rfl) flRX11_16 ?_
        refine V_iload_n (i := 1) dX11_comesBack_17 rfl rfl ?_
        refine V_iald_n (i := i) dX11_comesBack_18 (Or.inr ⟨rfl, Nat.le_of_ble_eq_true rfl⟩) rfl (by omega) (by decide) ?_
        refine V_top (y := (bk s i)) ((hT.keep hf (fun k _ => by omega)).all0 (by omega)) ?_
        refine V_iast_n (i := i) dX11_comesBack_19 (Or.inr ⟨rfl, Nat.le_of_ble_eq_true rfl⟩) rfl (by omega) (by decide) ?_
        refine V_iinc_n (b := (i + 1)) dX11_comesBack_20 rfl (nI_add _ _) rfl rfl ?_
        refine V_goto (tgt := 2) dX11_comesBack_23 (by decide) ?_
        exact ih (i + 1) _ (by omega) (by omega) (cp0 hc rfl) (hf.i1 (by omega) (by unfold PMm; omega))
  refine V_iconst_n (v := 0) dX11_comesBack_0 (by decide) ?_
  refine V_istore_n (i := 1) dX11_comesBack_1 rfl (Nat.le_of_ble_eq_true rfl) rfl rfl ?_
  exact lp 72 0 _ (by omega) (by omega) (fun k hk => by omega) (Fz.nil (P := PMm))
theorem tBorn_if {s : St} {k : Nat} : tBorn s k = if s.1 k = 0 ∧ nextc s k ≠ 0 then 1 else 0 := by
  unfold tBorn nextc
  by_cases h0 : s.1 k = 0
  · by_cases hc : chg s k = true
    · rw [if_pos ⟨h0, hc⟩, if_pos h0, if_pos hc, if_pos ⟨h0, by omega⟩]
    · rw [if_neg (fun q => hc q.2), if_pos h0, if_neg hc, if_neg (fun q => q.2 rfl)]
  · rw [if_neg (fun q => h0 q.1), if_neg (fun q => h0 q.1)]
theorem tPale_if {s : St} {k : Nat} : tPale s k = if 10 ≤ s.1 k ∧ nextc s k = 1 then 1 else 0 := by
  unfold tPale nextc
  by_cases h0 : 10 ≤ s.1 k
  · have ho : 10 ≤ older (s.1 k) := by unfold older; split <;> omega
    rw [if_neg (show ¬ s.1 k = 0 by omega), if_neg (show ¬ s.1 k < 10 by omega)]
    by_cases hc : chg s k = true
    · rw [if_pos ⟨h0, hc⟩, if_pos hc, if_pos ⟨h0, rfl⟩]
    · rw [if_neg (fun q => hc q.2), if_neg hc, if_neg (fun q => by omega)]
  · rw [if_neg (fun q => h0 q.1), if_neg (fun q => h0 q.1)]
theorem tWash_if {s : St} {k : Nat} (hv : okc (s.1 k)) : tWash s k = if s.1 k = 1 ∧ nextc s k = 0 then 1 else 0 := by
  unfold okc at hv
  unfold tWash nextc
  by_cases h0 : s.1 k = 1
  · rw [if_neg (show ¬ s.1 k = 0 by omega), if_pos (show s.1 k < 10 by omega)]
    by_cases hc : chg s k = true
    · rw [if_pos ⟨⟨by omega, by omega⟩, hc⟩, if_pos hc, if_pos ⟨h0, rfl⟩]
    · rw [if_neg (fun q => hc q.2), if_neg hc, if_neg (fun q => by omega)]
  · rw [if_neg (fun q => h0 (by omega)), if_neg (fun q => h0 q.1)]
theorem tid_plain {s : St} {i : Nat} : sPut (sCnt (sCnt (sCnt (tidP s i) 3 (nI (tBorn s i))) 4 (nI (tPale s i))) 5 (nI (tWash s i))) i (nextc s i) = tidP s (i + 1) := by
  refine Prod.ext (funext fun k => tid_cells rfl) (Prod.ext rfl (funext fun j => ?_))
  rw [tid_cnt]
  show bump (bump (bump (tidP s i).2.2 3 (nI (tBorn s i))) 4 (nI (tPale s i))) 5 (nI (tWash s i)) j = _
  unfold bump
  by_cases h3 : j = 3
  · subst h3; rfl
  · by_cases h4 : j = 4
    · subst h4; rfl
    · by_cases h5 : j = 5
      · subst h5; rfl
      · simp only [if_neg h3, if_neg h4, if_neg h5]
        rw [nI_0, Int32.add_zero]
theorem OkS.tid {s : St} (h : OkS s) {i : Nat} (hi : i ≤ 64) : OkS (tidP s i) := ⟨fun k hk => by
  show okc (if k < i then nextc s k else s.1 k)
  split
  · exact m_nextc_ok hk h
  · exact h.1 k hk, h.2⟩
set_option maxRecDepth 100000 in
set_option maxHeartbeats 1000000 in
theorem m_passes {s : St} {w : Wd} (hM : Bk w 48 0 s) : Ct 1 MX11_passes 6 0 0 [.ref 47] w (Mt none fun w1 => Bk w1 48 0 (tide s) ∧ Fz PPa w w1) := by
  refine Ct_of (by decide +kernel) rfl (Nat.le_of_ble_eq_true rfl) rfl ?_
  have lp2 : ∀ (fu i : Nat) (w1 : Wd), i ≤ 64 → 64 - i < fu → Bk w1 48 0 (tidP s i) → (∀ k, k < 64 → gI w1 52 k = nI (nextc s k)) → Fz PPa w w1 → V 1 MX11_passes 6 0 0 (Mt none fun w1 => Bk w1 48 0 (tide s) ∧ Fz PPa w w1) (fun _ _ => True) 0 0 27 [some (.ref 47), some (.int (nI i)), none, none] [] w1 := by
    intro fu
    induction fu with
    | zero => intro i w1 h1 h2; omega
    | succ fu ih2 =>
      intro i w1 hib hfu hB ha hf
      refine V_iload_n (i := 1) dX11_passes_27 rfl rfl ?_
      refine V_bipush_n (v := 64) dX11_passes_28 (by decide) ?_
      refine V_icmp_ge_n (tgt := 133) dX11_passes_30 (by decide) (by omega) (by omega) (fun h30 => ?_) (fun h30 => ?_)
      · refine V_aload_n (i := 0) dX11_passes_133 rfl rfl ?_
        refine V_getC (k := 0) (q := 48) dX11_passes_134 (Or.inr ⟨rfl, Nat.le_of_ble_eq_true rfl⟩) rfl rfl rfl (Nat.le_of_ble_eq_true rfl) flRX11_9 ?_
        refine V_iconst_n (v := 1) dX11_passes_137 (by decide) ?_
        refine V_dup2 dX11_passes_138 rfl rfl ?_
        refine V_iald_n (i := 1) dX11_passes_139 (Or.inr ⟨rfl, Nat.le_of_ble_eq_true rfl⟩) rfl (by omega) (by decide) ?_
        refine V_top (y := ((tidP s i).2.2 0)) (hB.cnt0 (j := 0) (by decide)) ?_
        refine V_iconst_n (v := 1) dX11_passes_140 (by decide) ?_
        refine V_iadd dX11_passes_141 ?_
        refine V_iast_n (i := 1) dX11_passes_142 (Or.inr ⟨rfl, Nat.le_of_ble_eq_true rfl⟩) rfl (by omega) (by decide) ?_
        refine V_vret dX11_passes_143 rfl ?_
        obtain rfl : i = 64 := by omega
        exact ⟨rfl, (hB.cntP (j := 0) (n := nI 1) (by decide) rfl), (hf.i1 (by omega) (by unfold PPa; omega))⟩
      · have hx2 := m_nextc_ok (s := s) (k := i) (by omega) hM.1
        have hx3 := hx2
        have hv3 := hM.1.1 i (by omega)
        unfold okc at hx3 hv3
        have eb := @tBorn_if s i
        have ep := @tPale_if s i
        have ew := tWash_if (hM.1.1 i (by omega))
        refine V_aload_n (i := 0) dX11_passes_33 rfl rfl ?_
        refine V_iload_n (i := 1) dX11_passes_34 rfl rfl ?_
        have hv19 := hB.1.1 (i) (by omega)
        unfold okc at hv19
        refine V_callVF dX11_passes_35 (m_at hB (k := i) (by omega)) okX11_at lkRX11_101 (Or.inr ⟨rfl, Nat.le_of_ble_eq_true rfl⟩) rfl rfl rfl rfl (Nat.le_of_ble_eq_true rfl) ⟨Nat.le_of_ble_eq_true rfl, Nat.le_of_ble_eq_true rfl⟩ rfl ?_
        refine V_top (y := nI (s.1 i)) (by rw [tid_at]) ?_
        refine V_istore_n (i := 2) dX11_passes_38 rfl (Nat.le_of_ble_eq_true rfl) rfl rfl ?_
        refine V_aload_n (i := 0) dX11_passes_39 rfl rfl ?_
        refine V_getC (k := 4) (q := 52) dX11_passes_40 (Or.inr ⟨rfl, Nat.le_of_ble_eq_true rfl⟩) rfl rfl rfl (Nat.le_of_ble_eq_true rfl) flRX11_22 ?_
        refine V_iload_n (i := 1) dX11_passes_43 rfl rfl ?_
        refine V_iald_n (i := i) dX11_passes_44 (Or.inr ⟨rfl, Nat.le_of_ble_eq_true rfl⟩) rfl (by omega) (by decide) ?_
        refine V_top (y := nI (nextc s i)) (ha i (by omega)) ?_
        refine V_istore_n (i := 3) dX11_passes_45 rfl (Nat.le_of_ble_eq_true rfl) rfl rfl ?_
        refine V_aload_n (i := 0) dX11_passes_46 rfl rfl ?_
        refine V_getC (k := 0) (q := 48) dX11_passes_47 (Or.inr ⟨rfl, Nat.le_of_ble_eq_true rfl⟩) rfl rfl rfl (Nat.le_of_ble_eq_true rfl) flRX11_9 ?_
        refine V_iconst_n (v := 4) dX11_passes_50 (by decide) ?_
        refine V_dup2 dX11_passes_51 rfl rfl ?_
        refine V_iald_n (i := 4) dX11_passes_52 (Or.inr ⟨rfl, Nat.le_of_ble_eq_true rfl⟩) rfl (by omega) (by decide) ?_
        refine V_top (y := ((tidP s i).2.2 3)) (hB.cnt0 (j := 3) (by decide)) ?_
        refine V_iload_n (i := 2) dX11_passes_53 rfl rfl ?_
        refine V_if_ne_n (tgt := 65) dX11_passes_54 (by decide) (by omega) (fun h54 => ?_) (fun h54 => ?_)
        · refine V_iconst_n (v := 0) dX11_passes_65 (by decide) ?_
          refine V_top (y := nI (tBorn s i)) (by rw [eb, if_neg (by omega)]) ?_
          refine V_iadd dX11_passes_66 ?_
          refine V_iast_n (i := 4) dX11_passes_67 (Or.inr ⟨rfl, Nat.le_of_ble_eq_true rfl⟩) rfl (by omega) (by decide) ?_
          refine V_aload_n (i := 0) dX11_passes_68 rfl rfl ?_
          refine V_getC (k := 0) (q := 48) dX11_passes_69 (Or.inr ⟨rfl, Nat.le_of_ble_eq_true rfl⟩) rfl rfl rfl (Nat.le_of_ble_eq_true rfl) flRX11_9 ?_
          refine V_iconst_n (v := 5) dX11_passes_72 (by decide) ?_
          refine V_dup2 dX11_passes_73 rfl rfl ?_
          refine V_iald_n (i := 5) dX11_passes_74 (Or.inr ⟨rfl, Nat.le_of_ble_eq_true rfl⟩) rfl (by omega) (by decide) ?_
          refine V_top (y := ((sCnt (tidP s i) 3 (nI (tBorn s i))).2.2 4)) ((hB.cntP (j := 3) (n := nI (tBorn s i)) (by decide) rfl).cnt0 (j := 4) (by decide)) ?_
          refine V_iload_n (i := 2) dX11_passes_75 rfl rfl ?_
          refine V_bipush_n (v := 10) dX11_passes_76 (by decide) ?_
          refine V_icmp_lt_n (tgt := 90) dX11_passes_78 (by decide) (by omega) (by omega) (fun h78 => ?_) (fun h78 => ?_)
          · refine V_iconst_n (v := 0) dX11_passes_90 (by decide) ?_
            refine V_top (y := nI (tPale s i)) (by rw [ep, if_neg (by omega)]) ?_
            refine V_iadd dX11_passes_91 ?_
            refine V_iast_n (i := 5) dX11_passes_92 (Or.inr ⟨rfl, Nat.le_of_ble_eq_true rfl⟩) rfl (by omega) (by decide) ?_
            refine V_aload_n (i := 0) dX11_passes_93 rfl rfl ?_
            refine V_getC (k := 0) (q := 48) dX11_passes_94 (Or.inr ⟨rfl, Nat.le_of_ble_eq_true rfl⟩) rfl rfl rfl (Nat.le_of_ble_eq_true rfl) flRX11_9 ?_
            refine V_bipush_n (v := 6) dX11_passes_97 (by decide) ?_
            refine V_dup2 dX11_passes_99 rfl rfl ?_
            refine V_iald_n (i := 6) dX11_passes_100 (Or.inr ⟨rfl, Nat.le_of_ble_eq_true rfl⟩) rfl (by omega) (by decide) ?_
            refine V_top (y := ((sCnt (sCnt (tidP s i) 3 (nI (tBorn s i))) 4 (nI (tPale s i))).2.2 5)) (((hB.cntP (j := 3) (n := nI (tBorn s i)) (by decide) rfl).cntP (j := 4) (n := nI (tPale s i)) (by decide) rfl).cnt0 (j := 5) (by decide)) ?_
            refine V_iload_n (i := 2) dX11_passes_101 rfl rfl ?_
            refine V_iconst_n (v := 1) dX11_passes_102 (by decide) ?_
            refine V_icmp_ne_n (tgt := 114) dX11_passes_103 (by decide) (by omega) (by omega) (fun h103 => by exfalso; omega) (fun h103 => ?_)
            refine V_iload_n (i := 3) dX11_passes_106 rfl rfl ?_
            refine V_if_ne_n (tgt := 114) dX11_passes_107 (by decide) (by omega) (fun h107 => ?_) (fun h107 => ?_)
            · refine V_iconst_n (v := 0) dX11_passes_114 (by decide) ?_
              refine V_top (y := nI (tWash s i)) (by rw [ew, if_neg (by omega)]) ?_
              refine V_iadd dX11_passes_115 ?_
              refine V_iast_n (i := 6) dX11_passes_116 (Or.inr ⟨rfl, Nat.le_of_ble_eq_true rfl⟩) rfl (by omega) (by decide) ?_
              refine V_aload_n (i := 0) dX11_passes_117 rfl rfl ?_
              refine V_getC (k := 0) (q := 48) dX11_passes_118 (Or.inr ⟨rfl, Nat.le_of_ble_eq_true rfl⟩) rfl rfl rfl (Nat.le_of_ble_eq_true rfl) flRX11_9 ?_
              refine V_bipush_n (v := 7) dX11_passes_121 (by decide) ?_
              refine V_iload_n (i := 1) dX11_passes_123 rfl rfl ?_
              refine V_iadd_n dX11_passes_124 ?_
              refine V_iload_n (i := 3) dX11_passes_125 rfl rfl ?_
              refine V_iast_n (i := (7 + i)) dX11_passes_126 (Or.inr ⟨rfl, Nat.le_of_ble_eq_true rfl⟩) rfl (by omega) (by decide) ?_
              refine V_iinc_n (b := (i + 1)) dX11_passes_127 rfl (nI_add _ _) rfl rfl ?_
              refine V_goto (tgt := 27) dX11_passes_130 (by decide) ?_
              have hB9 := ((((hB.cntP (j := 3) (n := nI (tBorn s i)) (by decide) rfl).cntP (j := 4) (n := nI (tPale s i)) (by decide) rfl).cntP (j := 5) (n := nI (tWash s i)) (by decide) rfl).put (k := i) (v := nextc s i) (by omega) hx2 rfl)
              rw [tid_plain] at hB9
              exact (ih2 (i + 1) _ (by omega) (by omega) hB9 (fun k hk => pI_ne (by omega) (pI_ne (by omega) (pI_ne (by omega) (pI_ne (by omega) (ha k hk))))) ((((hf.i1 (by omega) (by unfold PPa; omega)).i1 (by omega) (by unfold PPa; omega)).i1 (by omega) (by unfold PPa; omega)).i1 (by omega) (by unfold PPa; omega))).sub (by repeat' (first | exact trivial | exact rfl | constructor))
            · refine V_iconst_n (v := 1) dX11_passes_110 (by decide) ?_
              refine V_goto (tgt := 115) dX11_passes_111 (by decide) ?_
              refine V_top (y := nI (tWash s i)) (by rw [ew, if_pos (by omega)]) ?_
              refine V_iadd dX11_passes_115 ?_
              refine V_iast_n (i := 6) dX11_passes_116 (Or.inr ⟨rfl, Nat.le_of_ble_eq_true rfl⟩) rfl (by omega) (by decide) ?_
              refine V_aload_n (i := 0) dX11_passes_117 rfl rfl ?_
              refine V_getC (k := 0) (q := 48) dX11_passes_118 (Or.inr ⟨rfl, Nat.le_of_ble_eq_true rfl⟩) rfl rfl rfl (Nat.le_of_ble_eq_true rfl) flRX11_9 ?_
              refine V_bipush_n (v := 7) dX11_passes_121 (by decide) ?_
              refine V_iload_n (i := 1) dX11_passes_123 rfl rfl ?_
              refine V_iadd_n dX11_passes_124 ?_
              refine V_iload_n (i := 3) dX11_passes_125 rfl rfl ?_
              refine V_iast_n (i := (7 + i)) dX11_passes_126 (Or.inr ⟨rfl, Nat.le_of_ble_eq_true rfl⟩) rfl (by omega) (by decide) ?_
              refine V_iinc_n (b := (i + 1)) dX11_passes_127 rfl (nI_add _ _) rfl rfl ?_
              refine V_goto (tgt := 27) dX11_passes_130 (by decide) ?_
              have hB9 := ((((hB.cntP (j := 3) (n := nI (tBorn s i)) (by decide) rfl).cntP (j := 4) (n := nI (tPale s i)) (by decide) rfl).cntP (j := 5) (n := nI (tWash s i)) (by decide) rfl).put (k := i) (v := nextc s i) (by omega) hx2 rfl)
              rw [tid_plain] at hB9
              exact (ih2 (i + 1) _ (by omega) (by omega) hB9 (fun k hk => pI_ne (by omega) (pI_ne (by omega) (pI_ne (by omega) (pI_ne (by omega) (ha k hk))))) ((((hf.i1 (by omega) (by unfold PPa; omega)).i1 (by omega) (by unfold PPa; omega)).i1 (by omega) (by unfold PPa; omega)).i1 (by omega) (by unfold PPa; omega))).sub (by repeat' (first | exact trivial | exact rfl | constructor))
          · refine V_iload_n (i := 3) dX11_passes_81 rfl rfl ?_
            refine V_iconst_n (v := 1) dX11_passes_82 (by decide) ?_
            refine V_icmp_ne_n (tgt := 90) dX11_passes_83 (by decide) (by omega) (by omega) (fun h83 => ?_) (fun h83 => ?_)
            · refine V_iconst_n (v := 0) dX11_passes_90 (by decide) ?_
              refine V_top (y := nI (tPale s i)) (by rw [ep, if_neg (by omega)]) ?_
              refine V_iadd dX11_passes_91 ?_
              refine V_iast_n (i := 5) dX11_passes_92 (Or.inr ⟨rfl, Nat.le_of_ble_eq_true rfl⟩) rfl (by omega) (by decide) ?_
              refine V_aload_n (i := 0) dX11_passes_93 rfl rfl ?_
              refine V_getC (k := 0) (q := 48) dX11_passes_94 (Or.inr ⟨rfl, Nat.le_of_ble_eq_true rfl⟩) rfl rfl rfl (Nat.le_of_ble_eq_true rfl) flRX11_9 ?_
              refine V_bipush_n (v := 6) dX11_passes_97 (by decide) ?_
              refine V_dup2 dX11_passes_99 rfl rfl ?_
              refine V_iald_n (i := 6) dX11_passes_100 (Or.inr ⟨rfl, Nat.le_of_ble_eq_true rfl⟩) rfl (by omega) (by decide) ?_
              refine V_top (y := ((sCnt (sCnt (tidP s i) 3 (nI (tBorn s i))) 4 (nI (tPale s i))).2.2 5)) (((hB.cntP (j := 3) (n := nI (tBorn s i)) (by decide) rfl).cntP (j := 4) (n := nI (tPale s i)) (by decide) rfl).cnt0 (j := 5) (by decide)) ?_
              refine V_iload_n (i := 2) dX11_passes_101 rfl rfl ?_
              refine V_iconst_n (v := 1) dX11_passes_102 (by decide) ?_
              refine V_icmp_ne_n (tgt := 114) dX11_passes_103 (by decide) (by omega) (by omega) (fun h103 => ?_) (fun h103 => by exfalso; omega)
              refine V_iconst_n (v := 0) dX11_passes_114 (by decide) ?_
              refine V_top (y := nI (tWash s i)) (by rw [ew, if_neg (by omega)]) ?_
              refine V_iadd dX11_passes_115 ?_
              refine V_iast_n (i := 6) dX11_passes_116 (Or.inr ⟨rfl, Nat.le_of_ble_eq_true rfl⟩) rfl (by omega) (by decide) ?_
              refine V_aload_n (i := 0) dX11_passes_117 rfl rfl ?_
              refine V_getC (k := 0) (q := 48) dX11_passes_118 (Or.inr ⟨rfl, Nat.le_of_ble_eq_true rfl⟩) rfl rfl rfl (Nat.le_of_ble_eq_true rfl) flRX11_9 ?_
              refine V_bipush_n (v := 7) dX11_passes_121 (by decide) ?_
              refine V_iload_n (i := 1) dX11_passes_123 rfl rfl ?_
              refine V_iadd_n dX11_passes_124 ?_
              refine V_iload_n (i := 3) dX11_passes_125 rfl rfl ?_
              refine V_iast_n (i := (7 + i)) dX11_passes_126 (Or.inr ⟨rfl, Nat.le_of_ble_eq_true rfl⟩) rfl (by omega) (by decide) ?_
              refine V_iinc_n (b := (i + 1)) dX11_passes_127 rfl (nI_add _ _) rfl rfl ?_
              refine V_goto (tgt := 27) dX11_passes_130 (by decide) ?_
              have hB9 := ((((hB.cntP (j := 3) (n := nI (tBorn s i)) (by decide) rfl).cntP (j := 4) (n := nI (tPale s i)) (by decide) rfl).cntP (j := 5) (n := nI (tWash s i)) (by decide) rfl).put (k := i) (v := nextc s i) (by omega) hx2 rfl)
              rw [tid_plain] at hB9
              exact (ih2 (i + 1) _ (by omega) (by omega) hB9 (fun k hk => pI_ne (by omega) (pI_ne (by omega) (pI_ne (by omega) (pI_ne (by omega) (ha k hk))))) ((((hf.i1 (by omega) (by unfold PPa; omega)).i1 (by omega) (by unfold PPa; omega)).i1 (by omega) (by unfold PPa; omega)).i1 (by omega) (by unfold PPa; omega))).sub (by repeat' (first | exact trivial | exact rfl | constructor))
            · refine V_iconst_n (v := 1) dX11_passes_86 (by decide) ?_
              refine V_goto (tgt := 91) dX11_passes_87 (by decide) ?_
              refine V_top (y := nI (tPale s i)) (by rw [ep, if_pos (by omega)]) ?_
              refine V_iadd dX11_passes_91 ?_
              refine V_iast_n (i := 5) dX11_passes_92 (Or.inr ⟨rfl, Nat.le_of_ble_eq_true rfl⟩) rfl (by omega) (by decide) ?_
              refine V_aload_n (i := 0) dX11_passes_93 rfl rfl ?_
              refine V_getC (k := 0) (q := 48) dX11_passes_94 (Or.inr ⟨rfl, Nat.le_of_ble_eq_true rfl⟩) rfl rfl rfl (Nat.le_of_ble_eq_true rfl) flRX11_9 ?_
              refine V_bipush_n (v := 6) dX11_passes_97 (by decide) ?_
              refine V_dup2 dX11_passes_99 rfl rfl ?_
              refine V_iald_n (i := 6) dX11_passes_100 (Or.inr ⟨rfl, Nat.le_of_ble_eq_true rfl⟩) rfl (by omega) (by decide) ?_
              refine V_top (y := ((sCnt (sCnt (tidP s i) 3 (nI (tBorn s i))) 4 (nI (tPale s i))).2.2 5)) (((hB.cntP (j := 3) (n := nI (tBorn s i)) (by decide) rfl).cntP (j := 4) (n := nI (tPale s i)) (by decide) rfl).cnt0 (j := 5) (by decide)) ?_
              refine V_iload_n (i := 2) dX11_passes_101 rfl rfl ?_
              refine V_iconst_n (v := 1) dX11_passes_102 (by decide) ?_
              refine V_icmp_ne_n (tgt := 114) dX11_passes_103 (by decide) (by omega) (by omega) (fun h103 => ?_) (fun h103 => by exfalso; omega)
              refine V_iconst_n (v := 0) dX11_passes_114 (by decide) ?_
              refine V_top (y := nI (tWash s i)) (by rw [ew, if_neg (by omega)]) ?_
              refine V_iadd dX11_passes_115 ?_
              refine V_iast_n (i := 6) dX11_passes_116 (Or.inr ⟨rfl, Nat.le_of_ble_eq_true rfl⟩) rfl (by omega) (by decide) ?_
              refine V_aload_n (i := 0) dX11_passes_117 rfl rfl ?_
              refine V_getC (k := 0) (q := 48) dX11_passes_118 (Or.inr ⟨rfl, Nat.le_of_ble_eq_true rfl⟩) rfl rfl rfl (Nat.le_of_ble_eq_true rfl) flRX11_9 ?_
              refine V_bipush_n (v := 7) dX11_passes_121 (by decide) ?_
              refine V_iload_n (i := 1) dX11_passes_123 rfl rfl ?_
              refine V_iadd_n dX11_passes_124 ?_
              refine V_iload_n (i := 3) dX11_passes_125 rfl rfl ?_
              refine V_iast_n (i := (7 + i)) dX11_passes_126 (Or.inr ⟨rfl, Nat.le_of_ble_eq_true rfl⟩) rfl (by omega) (by decide) ?_
              refine V_iinc_n (b := (i + 1)) dX11_passes_127 rfl (nI_add _ _) rfl rfl ?_
              refine V_goto (tgt := 27) dX11_passes_130 (by decide) ?_
              have hB9 := ((((hB.cntP (j := 3) (n := nI (tBorn s i)) (by decide) rfl).cntP (j := 4) (n := nI (tPale s i)) (by decide) rfl).cntP (j := 5) (n := nI (tWash s i)) (by decide) rfl).put (k := i) (v := nextc s i) (by omega) hx2 rfl)
              rw [tid_plain] at hB9
              exact (ih2 (i + 1) _ (by omega) (by omega) hB9 (fun k hk => pI_ne (by omega) (pI_ne (by omega) (pI_ne (by omega) (pI_ne (by omega) (ha k hk))))) ((((hf.i1 (by omega) (by unfold PPa; omega)).i1 (by omega) (by unfold PPa; omega)).i1 (by omega) (by unfold PPa; omega)).i1 (by omega) (by unfold PPa; omega))).sub (by repeat' (first | exact trivial | exact rfl | constructor))
        · refine V_iload_n (i := 3) dX11_passes_57 rfl rfl ?_
          refine V_if_eq_n (tgt := 65) dX11_passes_58 (by decide) (by omega) (fun h58 => ?_) (fun h58 => ?_)
          · refine V_iconst_n (v := 0) dX11_passes_65 (by decide) ?_
            refine V_top (y := nI (tBorn s i)) (by rw [eb, if_neg (by omega)]) ?_
            refine V_iadd dX11_passes_66 ?_
            refine V_iast_n (i := 4) dX11_passes_67 (Or.inr ⟨rfl, Nat.le_of_ble_eq_true rfl⟩) rfl (by omega) (by decide) ?_
            refine V_aload_n (i := 0) dX11_passes_68 rfl rfl ?_
            refine V_getC (k := 0) (q := 48) dX11_passes_69 (Or.inr ⟨rfl, Nat.le_of_ble_eq_true rfl⟩) rfl rfl rfl (Nat.le_of_ble_eq_true rfl) flRX11_9 ?_
            refine V_iconst_n (v := 5) dX11_passes_72 (by decide) ?_
            refine V_dup2 dX11_passes_73 rfl rfl ?_
            refine V_iald_n (i := 5) dX11_passes_74 (Or.inr ⟨rfl, Nat.le_of_ble_eq_true rfl⟩) rfl (by omega) (by decide) ?_
            refine V_top (y := ((sCnt (tidP s i) 3 (nI (tBorn s i))).2.2 4)) ((hB.cntP (j := 3) (n := nI (tBorn s i)) (by decide) rfl).cnt0 (j := 4) (by decide)) ?_
            refine V_iload_n (i := 2) dX11_passes_75 rfl rfl ?_
            refine V_bipush_n (v := 10) dX11_passes_76 (by decide) ?_
            refine V_icmp_lt_n (tgt := 90) dX11_passes_78 (by decide) (by omega) (by omega) (fun h78 => ?_) (fun h78 => by exfalso; omega)
            refine V_iconst_n (v := 0) dX11_passes_90 (by decide) ?_
            refine V_top (y := nI (tPale s i)) (by rw [ep, if_neg (by omega)]) ?_
            refine V_iadd dX11_passes_91 ?_
            refine V_iast_n (i := 5) dX11_passes_92 (Or.inr ⟨rfl, Nat.le_of_ble_eq_true rfl⟩) rfl (by omega) (by decide) ?_
            refine V_aload_n (i := 0) dX11_passes_93 rfl rfl ?_
            refine V_getC (k := 0) (q := 48) dX11_passes_94 (Or.inr ⟨rfl, Nat.le_of_ble_eq_true rfl⟩) rfl rfl rfl (Nat.le_of_ble_eq_true rfl) flRX11_9 ?_
            refine V_bipush_n (v := 6) dX11_passes_97 (by decide) ?_
            refine V_dup2 dX11_passes_99 rfl rfl ?_
            refine V_iald_n (i := 6) dX11_passes_100 (Or.inr ⟨rfl, Nat.le_of_ble_eq_true rfl⟩) rfl (by omega) (by decide) ?_
            refine V_top (y := ((sCnt (sCnt (tidP s i) 3 (nI (tBorn s i))) 4 (nI (tPale s i))).2.2 5)) (((hB.cntP (j := 3) (n := nI (tBorn s i)) (by decide) rfl).cntP (j := 4) (n := nI (tPale s i)) (by decide) rfl).cnt0 (j := 5) (by decide)) ?_
            refine V_iload_n (i := 2) dX11_passes_101 rfl rfl ?_
            refine V_iconst_n (v := 1) dX11_passes_102 (by decide) ?_
            refine V_icmp_ne_n (tgt := 114) dX11_passes_103 (by decide) (by omega) (by omega) (fun h103 => ?_) (fun h103 => by exfalso; omega)
            refine V_iconst_n (v := 0) dX11_passes_114 (by decide) ?_
            refine V_top (y := nI (tWash s i)) (by rw [ew, if_neg (by omega)]) ?_
            refine V_iadd dX11_passes_115 ?_
            refine V_iast_n (i := 6) dX11_passes_116 (Or.inr ⟨rfl, Nat.le_of_ble_eq_true rfl⟩) rfl (by omega) (by decide) ?_
            refine V_aload_n (i := 0) dX11_passes_117 rfl rfl ?_
            refine V_getC (k := 0) (q := 48) dX11_passes_118 (Or.inr ⟨rfl, Nat.le_of_ble_eq_true rfl⟩) rfl rfl rfl (Nat.le_of_ble_eq_true rfl) flRX11_9 ?_
            refine V_bipush_n (v := 7) dX11_passes_121 (by decide) ?_
            refine V_iload_n (i := 1) dX11_passes_123 rfl rfl ?_
            refine V_iadd_n dX11_passes_124 ?_
            refine V_iload_n (i := 3) dX11_passes_125 rfl rfl ?_
            refine V_iast_n (i := (7 + i)) dX11_passes_126 (Or.inr ⟨rfl, Nat.le_of_ble_eq_true rfl⟩) rfl (by omega) (by decide) ?_
            refine V_iinc_n (b := (i + 1)) dX11_passes_127 rfl (nI_add _ _) rfl rfl ?_
            refine V_goto (tgt := 27) dX11_passes_130 (by decide) ?_
            have hB9 := ((((hB.cntP (j := 3) (n := nI (tBorn s i)) (by decide) rfl).cntP (j := 4) (n := nI (tPale s i)) (by decide) rfl).cntP (j := 5) (n := nI (tWash s i)) (by decide) rfl).put (k := i) (v := nextc s i) (by omega) hx2 rfl)
            rw [tid_plain] at hB9
            exact (ih2 (i + 1) _ (by omega) (by omega) hB9 (fun k hk => pI_ne (by omega) (pI_ne (by omega) (pI_ne (by omega) (pI_ne (by omega) (ha k hk))))) ((((hf.i1 (by omega) (by unfold PPa; omega)).i1 (by omega) (by unfold PPa; omega)).i1 (by omega) (by unfold PPa; omega)).i1 (by omega) (by unfold PPa; omega))).sub (by repeat' (first | exact trivial | exact rfl | constructor))
          · refine V_iconst_n (v := 1) dX11_passes_61 (by decide) ?_
            refine V_goto (tgt := 66) dX11_passes_62 (by decide) ?_
            refine V_top (y := nI (tBorn s i)) (by rw [eb, if_pos (by omega)]) ?_
            refine V_iadd dX11_passes_66 ?_
            refine V_iast_n (i := 4) dX11_passes_67 (Or.inr ⟨rfl, Nat.le_of_ble_eq_true rfl⟩) rfl (by omega) (by decide) ?_
            refine V_aload_n (i := 0) dX11_passes_68 rfl rfl ?_
            refine V_getC (k := 0) (q := 48) dX11_passes_69 (Or.inr ⟨rfl, Nat.le_of_ble_eq_true rfl⟩) rfl rfl rfl (Nat.le_of_ble_eq_true rfl) flRX11_9 ?_
            refine V_iconst_n (v := 5) dX11_passes_72 (by decide) ?_
            refine V_dup2 dX11_passes_73 rfl rfl ?_
            refine V_iald_n (i := 5) dX11_passes_74 (Or.inr ⟨rfl, Nat.le_of_ble_eq_true rfl⟩) rfl (by omega) (by decide) ?_
            refine V_top (y := ((sCnt (tidP s i) 3 (nI (tBorn s i))).2.2 4)) ((hB.cntP (j := 3) (n := nI (tBorn s i)) (by decide) rfl).cnt0 (j := 4) (by decide)) ?_
            refine V_iload_n (i := 2) dX11_passes_75 rfl rfl ?_
            refine V_bipush_n (v := 10) dX11_passes_76 (by decide) ?_
            refine V_icmp_lt_n (tgt := 90) dX11_passes_78 (by decide) (by omega) (by omega) (fun h78 => ?_) (fun h78 => by exfalso; omega)
            refine V_iconst_n (v := 0) dX11_passes_90 (by decide) ?_
            refine V_top (y := nI (tPale s i)) (by rw [ep, if_neg (by omega)]) ?_
            refine V_iadd dX11_passes_91 ?_
            refine V_iast_n (i := 5) dX11_passes_92 (Or.inr ⟨rfl, Nat.le_of_ble_eq_true rfl⟩) rfl (by omega) (by decide) ?_
            refine V_aload_n (i := 0) dX11_passes_93 rfl rfl ?_
            refine V_getC (k := 0) (q := 48) dX11_passes_94 (Or.inr ⟨rfl, Nat.le_of_ble_eq_true rfl⟩) rfl rfl rfl (Nat.le_of_ble_eq_true rfl) flRX11_9 ?_
            refine V_bipush_n (v := 6) dX11_passes_97 (by decide) ?_
            refine V_dup2 dX11_passes_99 rfl rfl ?_
            refine V_iald_n (i := 6) dX11_passes_100 (Or.inr ⟨rfl, Nat.le_of_ble_eq_true rfl⟩) rfl (by omega) (by decide) ?_
            refine V_top (y := ((sCnt (sCnt (tidP s i) 3 (nI (tBorn s i))) 4 (nI (tPale s i))).2.2 5)) (((hB.cntP (j := 3) (n := nI (tBorn s i)) (by decide) rfl).cntP (j := 4) (n := nI (tPale s i)) (by decide) rfl).cnt0 (j := 5) (by decide)) ?_
            refine V_iload_n (i := 2) dX11_passes_101 rfl rfl ?_
            refine V_iconst_n (v := 1) dX11_passes_102 (by decide) ?_
            refine V_icmp_ne_n (tgt := 114) dX11_passes_103 (by decide) (by omega) (by omega) (fun h103 => ?_) (fun h103 => by exfalso; omega)
            refine V_iconst_n (v := 0) dX11_passes_114 (by decide) ?_
            refine V_top (y := nI (tWash s i)) (by rw [ew, if_neg (by omega)]) ?_
            refine V_iadd dX11_passes_115 ?_
            refine V_iast_n (i := 6) dX11_passes_116 (Or.inr ⟨rfl, Nat.le_of_ble_eq_true rfl⟩) rfl (by omega) (by decide) ?_
            refine V_aload_n (i := 0) dX11_passes_117 rfl rfl ?_
            refine V_getC (k := 0) (q := 48) dX11_passes_118 (Or.inr ⟨rfl, Nat.le_of_ble_eq_true rfl⟩) rfl rfl rfl (Nat.le_of_ble_eq_true rfl) flRX11_9 ?_
            refine V_bipush_n (v := 7) dX11_passes_121 (by decide) ?_
            refine V_iload_n (i := 1) dX11_passes_123 rfl rfl ?_
            refine V_iadd_n dX11_passes_124 ?_
            refine V_iload_n (i := 3) dX11_passes_125 rfl rfl ?_
            refine V_iast_n (i := (7 + i)) dX11_passes_126 (Or.inr ⟨rfl, Nat.le_of_ble_eq_true rfl⟩) rfl (by omega) (by decide) ?_
            refine V_iinc_n (b := (i + 1)) dX11_passes_127 rfl (nI_add _ _) rfl rfl ?_
            refine V_goto (tgt := 27) dX11_passes_130 (by decide) ?_
            have hB9 := ((((hB.cntP (j := 3) (n := nI (tBorn s i)) (by decide) rfl).cntP (j := 4) (n := nI (tPale s i)) (by decide) rfl).cntP (j := 5) (n := nI (tWash s i)) (by decide) rfl).put (k := i) (v := nextc s i) (by omega) hx2 rfl)
            rw [tid_plain] at hB9
            exact (ih2 (i + 1) _ (by omega) (by omega) hB9 (fun k hk => pI_ne (by omega) (pI_ne (by omega) (pI_ne (by omega) (pI_ne (by omega) (ha k hk))))) ((((hf.i1 (by omega) (by unfold PPa; omega)).i1 (by omega) (by unfold PPa; omega)).i1 (by omega) (by unfold PPa; omega)).i1 (by omega) (by unfold PPa; omega))).sub (by repeat' (first | exact trivial | exact rfl | constructor))
  have lp1 : ∀ (fu i : Nat) (w1 : Wd), i ≤ 64 → 64 - i < fu → (∀ k, k < i → gI w1 52 k = nI (nextc s k)) → Fz PPa w w1 → Bk w1 48 0 s → V 1 MX11_passes 6 0 0 (Mt none fun w1 => Bk w1 48 0 (tide s) ∧ Fz PPa w w1) (fun _ _ => True) 0 0 2 [some (.ref 47), some (.int (nI i)), none, none] [] w1 := by
    intro fu
    induction fu with
    | zero => intro i w1 h1 h2; omega
    | succ fu ih1 =>
      intro i w1 hib hfu ha hf hB
      refine V_iload_n (i := 1) dX11_passes_2 rfl rfl ?_
      refine V_bipush_n (v := 64) dX11_passes_3 (by decide) ?_
      refine V_icmp_ge_n (tgt := 25) dX11_passes_5 (by decide) (by omega) (by omega) (fun h5 => ?_) (fun h5 => ?_)
      · refine V_iconst_n (v := 0) dX11_passes_25 (by decide) ?_
        refine V_istore_n (i := 1) dX11_passes_26 rfl (Nat.le_of_ble_eq_true rfl) rfl rfl ?_
        obtain rfl : i = 64 := by omega
        exact (lp2 65 0 _ (by omega) (by omega) (by rw [tidP_0]; exact hB) ha hf).sub (by repeat' (first | exact trivial | exact rfl | constructor))
      · refine V_aload_n (i := 0) dX11_passes_8 rfl rfl ?_
        refine V_getC (k := 4) (q := 52) dX11_passes_9 (Or.inr ⟨rfl, Nat.le_of_ble_eq_true rfl⟩) rfl rfl rfl (Nat.le_of_ble_eq_true rfl) flRX11_22 ?_
        refine V_iload_n (i := 1) dX11_passes_12 rfl rfl ?_
        refine V_aload_n (i := 0) dX11_passes_13 rfl rfl ?_
        refine V_iload_n (i := 1) dX11_passes_14 rfl rfl ?_
        have hx20 := m_nextc_ok (s := s) (k := i) (by omega) hB.1
        unfold okc at hx20
        refine V_callVF dX11_passes_15 (m_next hB (k := i) (by omega)) okX11_next lkRX11_188 (Or.inr ⟨rfl, Nat.le_of_ble_eq_true rfl⟩) rfl rfl rfl rfl (Nat.le_of_ble_eq_true rfl) ⟨Nat.le_of_ble_eq_true rfl, Nat.le_of_ble_eq_true rfl⟩ rfl ?_
        refine V_iast_n (i := i) dX11_passes_18 (Or.inr ⟨rfl, Nat.le_of_ble_eq_true rfl⟩) rfl (by omega) (by decide) ?_
        refine V_iinc_n (b := (i + 1)) dX11_passes_19 rfl (nI_add _ _) rfl rfl ?_
        refine V_goto (tgt := 2) dX11_passes_22 (by decide) ?_
        exact (ih1 (i + 1) _ (by omega) (by omega) (cp0 (f := fun k => nI (nextc s k)) ha rfl) (hf.i1 (by omega) (by unfold PPa; omega)) (hB.wr (by decide))).sub (by repeat' (first | exact trivial | exact rfl | constructor))
  refine V_iconst_n (v := 0) dX11_passes_0 (by decide) ?_
  refine V_istore_n (i := 1) dX11_passes_1 rfl (Nat.le_of_ble_eq_true rfl) rfl rfl ?_
  exact (lp1 65 0 _ (by omega) (by omega) (fun k hk => by omega) Fz.nil hM).sub (by repeat' (first | exact trivial | exact rfl | constructor))
/-- an inner part's answer: what is thrown, the value, the state behind, why, about what -/
abbrev It : Type := Nat × Int32 × St × Nat × Int32
def ItQ (I : It) (o : Out) : Prop := ∃ x, o = Sum.inl (some (.int x)) ∧ (I.1 = 0 → x = I.2.1)
def ItW (I : It) (w w1 : Wd) : Prop := Bk w1 48 0 I.2.2.1 ∧ gI w1 47 9 = nI I.1 ∧ gI w1 47 15 = nI I.2.2.2.1 ∧ (I.2.2.2.1 ≠ 0 → gI w1 47 16 = I.2.2.2.2) ∧ Fz PIt w w1
def ItP (I : It) (w : Wd) : Out → Wd → Prop := fun o w1 => ItQ I o ∧ ItW I w w1
def itT (s : St) (k : Nat) : It := (k, 0, s, 0, 0)
def itPlace (s : St) (r c : Int) (q : Nat) : It := if ins r c = false then (1, 0, s, 0, 0) else if isC q = false then (2, 0, s, 0, 0) else if s.1 (cl r c) ≠ 0 then (3, 0, s, 1, nI (cl r c)) else (0, nI (cnt (sCnt (sPut s (cl r c) (10 + 10 * (q - 97) + 0)) 1 (nI 1)).1 42), sCnt (sPut s (cl r c) (10 + 10 * (q - 97) + 0)) 1 (nI 1), 0, 0)
def itRemove (s : St) (r c : Int) : It := if ins r c = false then (1, 0, s, 0, 0) else if s.1 (cl r c) = 0 then (2, 0, s, 2, nI (cl r c)) else (0, nI (cnt (sCnt (sPut s (cl r c) 0) 2 (nI 1)).1 42), sCnt (sPut s (cl r c) 0) 2 (nI 1), 0, 0)
def itBleach (s : St) (r c : Int) : It := if ins r c = false then (1, 0, s, 0, 0) else if s.1 (cl r c) = 0 then (2, 0, s, 2, nI (cl r c)) else if s.1 (cl r c) < 10 then (2, 0, s, 3, nI (cnt s.1 35)) else (0, nI (ag (s.1 (cl r c))), sCnt (sPut s (cl r c) 1) 4 (nI 1), 0, 0)
def itRecolour (s : St) (r c : Int) (q : Nat) : It := if ins r c = false then (1, 0, s, 0, 0) else if isC q = false then (2, 0, s, 0, 0) else if s.1 (cl r c) = 0 then (3, 0, s, 2, nI (cl r c)) else if s.1 (cl r c) < 10 then (3, 0, s, 3, nI (cnt s.1 35)) else (0, nI (kc (s.1 (cl r c))), sPut s (cl r c) (10 + 10 * (q - 97) + ag (s.1 (cl r c))), 0, 0)
def itPlant (s : St) (r c : Int) (pt q : Nat) : It := if ins r c = false then (1, 0, s, 0, 0) else if isP pt = false then (2, 0, s, 0, 0) else if isC q = false then (2, 0, s, 0, 0) else if allin (ptN pt) r.toNat c.toNat = false then (3, 0, s, 4, nI (psz (ptN pt))) else if 0 ≤ fti s.1 (ptN pt) r.toNat c.toNat then (3, 0, s, 1, zI (fti s.1 (ptN pt) r.toNat c.toNat)) else (0, nI (psz (ptN pt)), plt s (ptN pt) r.toNat c.toNat q (psz (ptN pt)), 0, 0)
def itRule (s : St) (x : Nat) : It := if isR x = false then (1, 0, s, 0, 0) else if s.2.1 = rlN x then (2, 0, s, 5, s.2.2 0) else (0, nI (rlL s.2.1), (s.1, rlN x, s.2.2), 0, 0)
def itTides (s : St) (t : Int) : It := if 1 ≤ t ∧ t ≤ 20 then (0, (tideN s t.toNat).2.2 3 - s.2.2 3, tideN s t.toNat, 0, 0) else (1, 0, s, 0, 0)
def mkR (S : Sys) (I : It) : Res := if I.1 = 0 then (0, I.2.1, kp S I.2.2.1) else if I.2.2.2.1 = 0 then (I.1, 0, S) else (I.1, 0, rj S I.2.2.2.1 I.2.2.2.2 0)
/-- a frame for whole answers of inner parts -/
def ItL (I : It) : Prop := I.1 ≤ 3 ∧ I.2.2.2.1 ≤ 5
theorem fPlace_it {S : Sys} {r c : Int} {q : Nat} : fPlace S r c q = mkR S (itPlace S.1 r c q) := by
  unfold fPlace itPlace
  repeat' split
  all_goals first | rfl | (exfalso; simp_all; done)
theorem itPlace_le {s : St} {r c : Int} {q : Nat} : ItL (itPlace s r c q) := by
  unfold itPlace ItL
  repeat' split
  all_goals (exact ⟨by simp, by simp⟩)
theorem fRemove_it {S : Sys} {r c : Int} : fRemove S r c = mkR S (itRemove S.1 r c) := by
  unfold fRemove itRemove
  repeat' split
  all_goals first | rfl | (exfalso; simp_all; done)
theorem itRemove_le {s : St} {r c : Int} : ItL (itRemove s r c) := by
  unfold itRemove ItL
  repeat' split
  all_goals (exact ⟨by simp, by simp⟩)
theorem fBleach_it {S : Sys} {r c : Int} : fBleach S r c = mkR S (itBleach S.1 r c) := by
  unfold fBleach itBleach
  repeat' split
  all_goals first | rfl | (exfalso; simp_all; done)
theorem itBleach_le {s : St} {r c : Int} : ItL (itBleach s r c) := by
  unfold itBleach ItL
  repeat' split
  all_goals (exact ⟨by simp, by simp⟩)
theorem fRecolour_it {S : Sys} {r c : Int} {q : Nat} : fRecolour S r c q = mkR S (itRecolour S.1 r c q) := by
  unfold fRecolour itRecolour
  repeat' split
  all_goals first | rfl | (exfalso; simp_all; done)
theorem itRecolour_le {s : St} {r c : Int} {q : Nat} : ItL (itRecolour s r c q) := by
  unfold itRecolour ItL
  repeat' split
  all_goals (exact ⟨by simp, by simp⟩)
theorem fPlant_it {S : Sys} {r c : Int} {pt q : Nat} : fPlant S r c pt q = mkR S (itPlant S.1 r c pt q) := by
  unfold fPlant itPlant
  repeat' split
  all_goals first | rfl | (exfalso; simp_all; done)
theorem itPlant_le {s : St} {r c : Int} {pt q : Nat} : ItL (itPlant s r c pt q) := by
  unfold itPlant ItL
  repeat' split
  all_goals (exact ⟨by simp, by simp⟩)
theorem fSetRule_it {S : Sys} {x : Nat} : fSetRule S x = mkR S (itRule S.1 x) := by
  unfold fSetRule itRule
  repeat' split
  all_goals first | rfl | (exfalso; simp_all; done)
theorem itRule_le {s : St} {x : Nat} : ItL (itRule s x) := by
  unfold itRule ItL
  repeat' split
  all_goals (exact ⟨by simp, by simp⟩)
theorem fPassTides_it {S : Sys} {t : Int} : fPassTides S t = mkR S (itTides S.1 t) := by
  unfold fPassTides itTides
  repeat' split
  all_goals first | rfl | (exfalso; simp_all; done)
theorem itTides_le {s : St} {t : Int} : ItL (itTides s t) := by
  unfold itTides ItL
  repeat' split
  all_goals (exact ⟨by simp, by simp⟩)
set_option maxRecDepth 100000 in
set_option maxHeartbeats 1000000 in
theorem m_placeIt {x y : Int32} {r c : Int} {q : Nat} {s : St} {w : Wd} (hM : Bk w 48 0 s) (h9 : gI w 47 9 = nI 0) (h15 : gI w 47 15 = nI 0) (hx : x = zI r) (hy : y = zI c) (r1 : -2147483648 ≤ r) (r2 : r < 2147483648) (c1 : -2147483648 ≤ c) (c2 : c < 2147483648) (hq : q < 65536) : Ct 1 MX11_placeIt 4 0 0 [.ref 47, .int x, .int y, .int (nI q)] w (ItP (itPlace s r c q) w) := by
  refine Ct_of (by decide +kernel) rfl (Nat.le_of_ble_eq_true rfl) rfl ?_
  subst hx hy
  refine V_iload_n (i := 1) dX11_placeIt_0 rfl rfl ?_
  refine V_iload_n (i := 2) dX11_placeIt_1 rfl rfl ?_
  refine V_callSF dX11_placeIt_2 (m_isCell (r := r) (c := c) rfl rfl (by omega) (by omega) (by omega) (by omega)) okX11_isCell lkRX11_104 rfl rfl (Nat.le_of_ble_eq_true rfl) ⟨Nat.le_of_ble_eq_true rfl, Nat.le_of_ble_eq_true rfl⟩ rfl ?_
  refine V_if_ne_n (tgt := 14) dX11_placeIt_5 (by decide) (Nat.lt_of_lt_of_le ite_le (by decide)) (fun h5 => ?_) (fun h5 => ?_)
  · have hi5 := ite_t h5
    obtain ⟨r0, rfl⟩ : ∃ n : Nat, r = (n : Int) := ⟨r.toNat, by omega⟩
    obtain ⟨c0, rfl⟩ : ∃ n : Nat, c = (n : Int) := ⟨c.toNat, by omega⟩
    simp only [← zI_n]
    have hin : ins (r0 : Int) (c0 : Int) = true := ins_iff.mpr (by omega)
    have hcc : (8 * r0 + c0) < 64 := by omega
    refine V_iload_n (i := 3) dX11_placeIt_14 rfl rfl ?_
    refine V_callSF dX11_placeIt_15 (m_isColour (q := ((q : Nat) : Int)) (zI_n _) (by omega) (by omega)) okX11_isColour lkRX11_127 rfl rfl (Nat.le_of_ble_eq_true rfl) ⟨Nat.le_of_ble_eq_true rfl, Nat.le_of_ble_eq_true rfl⟩ rfl ?_
    refine V_if_ne_n (tgt := 27) dX11_placeIt_18 (by decide) (Nat.lt_of_lt_of_le ite_le (by decide)) (fun h18 => ?_) (fun h18 => ?_)
    · have hi18 := ite_t h18
      have hcq : isC q = true := isC_iff.mpr (by omega)
      refine V_iload_n (i := 1) dX11_placeIt_27 rfl rfl ?_
      refine V_iload_n (i := 2) dX11_placeIt_28 rfl rfl ?_
      refine V_callSF dX11_placeIt_29 (m_cellOf (r := r0) (c := c0) (rfl) (rfl)) okX11_cellOf lkRX11_108 rfl rfl (Nat.le_of_ble_eq_true rfl) ⟨Nat.le_of_ble_eq_true rfl, Nat.le_of_ble_eq_true rfl⟩ rfl ?_
      refine V_istore dX11_placeIt_32 (Nat.le_of_ble_eq_true rfl) rfl rfl ?_
      refine V_aload_n (i := 0) dX11_placeIt_34 rfl rfl ?_
      refine V_iload dX11_placeIt_35 rfl ?_
      have hv21 := hM.1.1 ((8 * r0 + c0)) (by omega)
      unfold okc at hv21
      refine V_callVF dX11_placeIt_37 (m_at hM (k := (8 * r0 + c0)) (by omega)) okX11_at lkRX11_101 (Or.inr ⟨rfl, Nat.le_of_ble_eq_true rfl⟩) rfl rfl rfl rfl (Nat.le_of_ble_eq_true rfl) ⟨Nat.le_of_ble_eq_true rfl, Nat.le_of_ble_eq_true rfl⟩ rfl ?_
      refine V_if_eq_n (tgt := 52) dX11_placeIt_40 (by decide) (by omega) (fun h40 => ?_) (fun h40 => ?_)
      · have hz : s.1 (8 * r0 + c0) = 0 := h40
        refine V_aload_n (i := 0) dX11_placeIt_52 rfl rfl ?_
        refine V_getC (k := 0) (q := 48) dX11_placeIt_53 (Or.inr ⟨rfl, Nat.le_of_ble_eq_true rfl⟩) rfl rfl rfl (Nat.le_of_ble_eq_true rfl) flRX11_9 ?_
        refine V_bipush_n (v := 7) dX11_placeIt_56 (by decide) ?_
        refine V_iload dX11_placeIt_58 rfl ?_
        refine V_iadd_n dX11_placeIt_60 ?_
        refine V_iload_n (i := 3) dX11_placeIt_61 rfl rfl ?_
        refine V_iconst_n (v := 0) dX11_placeIt_62 (by decide) ?_
        refine V_callSF dX11_placeIt_63 (m_living (q := q) (g := 0) (rfl) (rfl) (by omega)) okX11_living lkRX11_135 rfl rfl (Nat.le_of_ble_eq_true rfl) ⟨Nat.le_of_ble_eq_true rfl, Nat.le_of_ble_eq_true rfl⟩ rfl ?_
        refine V_iast_n (i := (7 + (8 * r0 + c0))) dX11_placeIt_66 (Or.inr ⟨rfl, Nat.le_of_ble_eq_true rfl⟩) rfl (by omega) (by decide) ?_
        refine V_aload_n (i := 0) dX11_placeIt_67 rfl rfl ?_
        refine V_getC (k := 0) (q := 48) dX11_placeIt_68 (Or.inr ⟨rfl, Nat.le_of_ble_eq_true rfl⟩) rfl rfl rfl (Nat.le_of_ble_eq_true rfl) flRX11_9 ?_
        refine V_iconst_n (v := 2) dX11_placeIt_71 (by decide) ?_
        refine V_dup2 dX11_placeIt_72 rfl rfl ?_
        refine V_iald_n (i := 2) dX11_placeIt_73 (Or.inr ⟨rfl, Nat.le_of_ble_eq_true rfl⟩) rfl (by omega) (by decide) ?_
        refine V_top (y := ((sPut s (8 * r0 + c0) (10 + 10 * (q - 97) + 0)).2.2 1)) ((hM.put (k := (8 * r0 + c0)) (v := (10 + 10 * (q - 97) + 0)) (by omega) (by unfold okc; omega) rfl).cnt0 (j := 1) (by decide)) ?_
        refine V_iconst_n (v := 1) dX11_placeIt_74 (by decide) ?_
        refine V_iadd dX11_placeIt_75 ?_
        refine V_iast_n (i := 2) dX11_placeIt_76 (Or.inr ⟨rfl, Nat.le_of_ble_eq_true rfl⟩) rfl (by omega) (by decide) ?_
        refine V_aload_n (i := 0) dX11_placeIt_77 rfl rfl ?_
        have hq22 := cnt_le (C := (sCnt (sPut s (8 * r0 + c0) (10 + 10 * (q - 97) + 0)) 1 (nI 1)).1) (q := 42) (n := 64)
        change cnt (sCnt (sPut s (8 * r0 + c0) (10 + 10 * (q - 97) + 0)) 1 (nI 1)).1 42 ≤ 64 at hq22
        refine V_callVF dX11_placeIt_78 (m_livings ((hM.put (k := (8 * r0 + c0)) (v := (10 + 10 * (q - 97) + 0)) (by omega) (by unfold okc; omega) rfl).cntP (j := 1) (n := nI 1) (by decide) rfl)) okX11_livings lkRX11_138 (Or.inr ⟨rfl, Nat.le_of_ble_eq_true rfl⟩) rfl rfl rfl rfl (Nat.le_of_ble_eq_true rfl) ⟨Nat.le_of_ble_eq_true rfl, Nat.le_of_ble_eq_true rfl⟩ rfl ?_
        refine V_iret dX11_placeIt_81 rfl rfl ?_
        have eI : itPlace s (r0 : Int) (c0 : Int) q = (0, nI (cnt (sCnt (sPut s (8 * r0 + c0) (10 + 10 * (q - 97) + 0)) 1 (nI 1)).1 42), (sCnt (sPut s (8 * r0 + c0) (10 + 10 * (q - 97) + 0)) 1 (nI 1)), 0, 0) := by simp [itPlace, hin, cl_nat, hcq, hz]
        rw [eI]
        exact ⟨⟨_, rfl, fun _ => rfl⟩, ((hM.put (k := (8 * r0 + c0)) (v := (10 + 10 * (q - 97) + 0)) (by omega) (by unfold okc; omega) rfl).cntP (j := 1) (n := nI 1) (by decide) rfl), (pI_ne (by omega) (pI_ne (by omega) h9)), (pI_ne (by omega) (pI_ne (by omega) h15)), fun q => absurd rfl q, (((Fz.nil (P := PIt)).i1 (by omega) (by unfold PIt; omega)).i1 (by omega) (by unfold PIt; omega))⟩
      · have hz : ¬ s.1 (8 * r0 + c0) = 0 := h40
        refine V_aload_n (i := 0) dX11_placeIt_43 rfl rfl ?_
        refine V_iconst_n (v := 3) dX11_placeIt_44 (by decide) ?_
        refine V_iconst_n (v := 1) dX11_placeIt_45 (by decide) ?_
        refine V_iload dX11_placeIt_46 rfl ?_
        refine V_callVM dX11_placeIt_48 (m_rejecting (w := _) (n := 3) (y := 1) (x := nI (8 * r0 + c0))) okX11_rejecting lkRX11_131 (Or.inr ⟨rfl, Nat.le_of_ble_eq_true rfl⟩) rfl rfl rfl rfl (Nat.le_of_ble_eq_true rfl) ⟨Nat.le_of_ble_eq_true rfl, Nat.le_of_ble_eq_true rfl⟩ rfl ?_
        intro u1 hu1
        refine V_iret dX11_placeIt_51 rfl rfl ?_
        have eI : itPlace s (r0 : Int) (c0 : Int) q = (3, 0, s, 1, nI (8 * r0 + c0)) := by simp [itPlace, hin, cl_nat, hcq, hz]
        rw [eI]
        exact ⟨⟨_, rfl, fun q => by simp at q⟩, (hM.keep hu1.2.2.2 (fun k _ => by omega)), hu1.1, hu1.2.1, fun _ => hu1.2.2.1, ((Fz.nil (P := PIt)).trans (hu1.2.2.2.mono (fun b j q => by unfold PIt; omega)))⟩
    · have hi18 := ite_f h18
      have hcq : isC q = false := Bool.eq_false_iff.mpr (fun z => by have := isC_iff.mp z; omega)
      refine V_aload_n (i := 0) dX11_placeIt_21 rfl rfl ?_
      refine V_iconst_n (v := 2) dX11_placeIt_22 (by decide) ?_
      refine V_callVM dX11_placeIt_23 (m_throwing (w := _) (n := 2)) okX11_throwing lkRX11_75 (Or.inr ⟨rfl, Nat.le_of_ble_eq_true rfl⟩) rfl rfl rfl rfl (Nat.le_of_ble_eq_true rfl) ⟨Nat.le_of_ble_eq_true rfl, Nat.le_of_ble_eq_true rfl⟩ rfl ?_
      intro u1 hu1
      refine V_iret dX11_placeIt_26 rfl rfl ?_
      have eI : itPlace s (r0 : Int) (c0 : Int) q = (2, 0, s, 0, 0) := by simp [itPlace, hin, cl_nat, hcq]
      rw [eI]
      exact ⟨⟨_, rfl, fun q => by simp at q⟩, (hM.keep hu1.2 (fun k _ => by omega)), hu1.1, ((hu1.2.gi (by omega)).trans h15), fun q => absurd rfl q, ((Fz.nil (P := PIt)).trans (hu1.2.mono (fun b j q => by unfold PIt; omega)))⟩
  · have hi5 := ite_f h5
    have hin : ins r c = false := Bool.eq_false_iff.mpr (fun q => hi5 (ins_iff.mp q))
    refine V_aload_n (i := 0) dX11_placeIt_8 rfl rfl ?_
    refine V_iconst_n (v := 1) dX11_placeIt_9 (by decide) ?_
    refine V_callVM dX11_placeIt_10 (m_throwing (w := _) (n := 1)) okX11_throwing lkRX11_75 (Or.inr ⟨rfl, Nat.le_of_ble_eq_true rfl⟩) rfl rfl rfl rfl (Nat.le_of_ble_eq_true rfl) ⟨Nat.le_of_ble_eq_true rfl, Nat.le_of_ble_eq_true rfl⟩ rfl ?_
    intro u1 hu1
    refine V_iret dX11_placeIt_13 rfl rfl ?_
    have eI : itPlace s r c q = (1, 0, s, 0, 0) := by simp [itPlace, hin]
    rw [eI]
    exact ⟨⟨_, rfl, fun q => by simp at q⟩, (hM.keep hu1.2 (fun k _ => by omega)), hu1.1, ((hu1.2.gi (by omega)).trans h15), fun q => absurd rfl q, ((Fz.nil (P := PIt)).trans (hu1.2.mono (fun b j q => by unfold PIt; omega)))⟩
set_option maxRecDepth 100000 in
set_option maxHeartbeats 1000000 in
theorem m_removeIt {x y : Int32} {r c : Int} {s : St} {w : Wd} (hM : Bk w 48 0 s) (h9 : gI w 47 9 = nI 0) (h15 : gI w 47 15 = nI 0) (hx : x = zI r) (hy : y = zI c) (r1 : -2147483648 ≤ r) (r2 : r < 2147483648) (c1 : -2147483648 ≤ c) (c2 : c < 2147483648) : Ct 1 MX11_removeIt 4 0 0 [.ref 47, .int x, .int y] w (ItP (itRemove s r c) w) := by
  refine Ct_of (by decide +kernel) rfl (Nat.le_of_ble_eq_true rfl) rfl ?_
  subst hx hy
  refine V_iload_n (i := 1) dX11_removeIt_0 rfl rfl ?_
  refine V_iload_n (i := 2) dX11_removeIt_1 rfl rfl ?_
  refine V_callSF dX11_removeIt_2 (m_isCell (r := r) (c := c) rfl rfl (by omega) (by omega) (by omega) (by omega)) okX11_isCell lkRX11_104 rfl rfl (Nat.le_of_ble_eq_true rfl) ⟨Nat.le_of_ble_eq_true rfl, Nat.le_of_ble_eq_true rfl⟩ rfl ?_
  refine V_if_ne_n (tgt := 14) dX11_removeIt_5 (by decide) (Nat.lt_of_lt_of_le ite_le (by decide)) (fun h5 => ?_) (fun h5 => ?_)
  · have hi5 := ite_t h5
    obtain ⟨r0, rfl⟩ : ∃ n : Nat, r = (n : Int) := ⟨r.toNat, by omega⟩
    obtain ⟨c0, rfl⟩ : ∃ n : Nat, c = (n : Int) := ⟨c.toNat, by omega⟩
    simp only [← zI_n]
    have hin : ins (r0 : Int) (c0 : Int) = true := ins_iff.mpr (by omega)
    have hcc : (8 * r0 + c0) < 64 := by omega
    refine V_iload_n (i := 1) dX11_removeIt_14 rfl rfl ?_
    refine V_iload_n (i := 2) dX11_removeIt_15 rfl rfl ?_
    refine V_callSF dX11_removeIt_16 (m_cellOf (r := r0) (c := c0) (rfl) (rfl)) okX11_cellOf lkRX11_108 rfl rfl (Nat.le_of_ble_eq_true rfl) ⟨Nat.le_of_ble_eq_true rfl, Nat.le_of_ble_eq_true rfl⟩ rfl ?_
    refine V_istore_n (i := 3) dX11_removeIt_19 rfl (Nat.le_of_ble_eq_true rfl) rfl rfl ?_
    refine V_aload_n (i := 0) dX11_removeIt_20 rfl rfl ?_
    refine V_iload_n (i := 3) dX11_removeIt_21 rfl rfl ?_
    have hv23 := hM.1.1 ((8 * r0 + c0)) (by omega)
    unfold okc at hv23
    refine V_callVF dX11_removeIt_22 (m_at hM (k := (8 * r0 + c0)) (by omega)) okX11_at lkRX11_101 (Or.inr ⟨rfl, Nat.le_of_ble_eq_true rfl⟩) rfl rfl rfl rfl (Nat.le_of_ble_eq_true rfl) ⟨Nat.le_of_ble_eq_true rfl, Nat.le_of_ble_eq_true rfl⟩ rfl ?_
    refine V_if_ne_n (tgt := 36) dX11_removeIt_25 (by decide) (by omega) (fun h25 => ?_) (fun h25 => ?_)
    · have hz : ¬ s.1 (8 * r0 + c0) = 0 := h25
      refine V_aload_n (i := 0) dX11_removeIt_36 rfl rfl ?_
      refine V_getC (k := 0) (q := 48) dX11_removeIt_37 (Or.inr ⟨rfl, Nat.le_of_ble_eq_true rfl⟩) rfl rfl rfl (Nat.le_of_ble_eq_true rfl) flRX11_9 ?_
      refine V_bipush_n (v := 7) dX11_removeIt_40 (by decide) ?_
      refine V_iload_n (i := 3) dX11_removeIt_42 rfl rfl ?_
      refine V_iadd_n dX11_removeIt_43 ?_
      refine V_iconst_n (v := 0) dX11_removeIt_44 (by decide) ?_
      refine V_iast_n (i := (7 + (8 * r0 + c0))) dX11_removeIt_45 (Or.inr ⟨rfl, Nat.le_of_ble_eq_true rfl⟩) rfl (by omega) (by decide) ?_
      refine V_aload_n (i := 0) dX11_removeIt_46 rfl rfl ?_
      refine V_getC (k := 0) (q := 48) dX11_removeIt_47 (Or.inr ⟨rfl, Nat.le_of_ble_eq_true rfl⟩) rfl rfl rfl (Nat.le_of_ble_eq_true rfl) flRX11_9 ?_
      refine V_iconst_n (v := 3) dX11_removeIt_50 (by decide) ?_
      refine V_dup2 dX11_removeIt_51 rfl rfl ?_
      refine V_iald_n (i := 3) dX11_removeIt_52 (Or.inr ⟨rfl, Nat.le_of_ble_eq_true rfl⟩) rfl (by omega) (by decide) ?_
      refine V_top (y := ((sPut s (8 * r0 + c0) 0).2.2 2)) ((hM.put (k := (8 * r0 + c0)) (v := 0) (by omega) (by unfold okc; omega) rfl).cnt0 (j := 2) (by decide)) ?_
      refine V_iconst_n (v := 1) dX11_removeIt_53 (by decide) ?_
      refine V_iadd dX11_removeIt_54 ?_
      refine V_iast_n (i := 3) dX11_removeIt_55 (Or.inr ⟨rfl, Nat.le_of_ble_eq_true rfl⟩) rfl (by omega) (by decide) ?_
      refine V_aload_n (i := 0) dX11_removeIt_56 rfl rfl ?_
      have hq24 := cnt_le (C := (sCnt (sPut s (8 * r0 + c0) 0) 2 (nI 1)).1) (q := 42) (n := 64)
      change cnt (sCnt (sPut s (8 * r0 + c0) 0) 2 (nI 1)).1 42 ≤ 64 at hq24
      refine V_callVF dX11_removeIt_57 (m_livings ((hM.put (k := (8 * r0 + c0)) (v := 0) (by omega) (by unfold okc; omega) rfl).cntP (j := 2) (n := nI 1) (by decide) rfl)) okX11_livings lkRX11_138 (Or.inr ⟨rfl, Nat.le_of_ble_eq_true rfl⟩) rfl rfl rfl rfl (Nat.le_of_ble_eq_true rfl) ⟨Nat.le_of_ble_eq_true rfl, Nat.le_of_ble_eq_true rfl⟩ rfl ?_
      refine V_iret dX11_removeIt_60 rfl rfl ?_
      have eI : itRemove s (r0 : Int) (c0 : Int) = (0, nI (cnt (sCnt (sPut s (8 * r0 + c0) 0) 2 (nI 1)).1 42), (sCnt (sPut s (8 * r0 + c0) 0) 2 (nI 1)), 0, 0) := by simp [itRemove, hin, cl_nat, hz]
      rw [eI]
      exact ⟨⟨_, rfl, fun _ => rfl⟩, ((hM.put (k := (8 * r0 + c0)) (v := 0) (by omega) (by unfold okc; omega) rfl).cntP (j := 2) (n := nI 1) (by decide) rfl), (pI_ne (by omega) (pI_ne (by omega) h9)), (pI_ne (by omega) (pI_ne (by omega) h15)), fun q => absurd rfl q, (((Fz.nil (P := PIt)).i1 (by omega) (by unfold PIt; omega)).i1 (by omega) (by unfold PIt; omega))⟩
    · have hz : s.1 (8 * r0 + c0) = 0 := h25
      refine V_aload_n (i := 0) dX11_removeIt_28 rfl rfl ?_
      refine V_iconst_n (v := 2) dX11_removeIt_29 (by decide) ?_
      refine V_iconst_n (v := 2) dX11_removeIt_30 (by decide) ?_
      refine V_iload_n (i := 3) dX11_removeIt_31 rfl rfl ?_
      refine V_callVM dX11_removeIt_32 (m_rejecting (w := _) (n := 2) (y := 2) (x := nI (8 * r0 + c0))) okX11_rejecting lkRX11_131 (Or.inr ⟨rfl, Nat.le_of_ble_eq_true rfl⟩) rfl rfl rfl rfl (Nat.le_of_ble_eq_true rfl) ⟨Nat.le_of_ble_eq_true rfl, Nat.le_of_ble_eq_true rfl⟩ rfl ?_
      intro u1 hu1
      refine V_iret dX11_removeIt_35 rfl rfl ?_
      have eI : itRemove s (r0 : Int) (c0 : Int) = (2, 0, s, 2, nI (8 * r0 + c0)) := by simp [itRemove, hin, cl_nat, hz]
      rw [eI]
      exact ⟨⟨_, rfl, fun q => by simp at q⟩, (hM.keep hu1.2.2.2 (fun k _ => by omega)), hu1.1, hu1.2.1, fun _ => hu1.2.2.1, ((Fz.nil (P := PIt)).trans (hu1.2.2.2.mono (fun b j q => by unfold PIt; omega)))⟩
  · have hi5 := ite_f h5
    have hin : ins r c = false := Bool.eq_false_iff.mpr (fun q => hi5 (ins_iff.mp q))
    refine V_aload_n (i := 0) dX11_removeIt_8 rfl rfl ?_
    refine V_iconst_n (v := 1) dX11_removeIt_9 (by decide) ?_
    refine V_callVM dX11_removeIt_10 (m_throwing (w := _) (n := 1)) okX11_throwing lkRX11_75 (Or.inr ⟨rfl, Nat.le_of_ble_eq_true rfl⟩) rfl rfl rfl rfl (Nat.le_of_ble_eq_true rfl) ⟨Nat.le_of_ble_eq_true rfl, Nat.le_of_ble_eq_true rfl⟩ rfl ?_
    intro u1 hu1
    refine V_iret dX11_removeIt_13 rfl rfl ?_
    have eI : itRemove s r c = (1, 0, s, 0, 0) := by simp [itRemove, hin]
    rw [eI]
    exact ⟨⟨_, rfl, fun q => by simp at q⟩, (hM.keep hu1.2 (fun k _ => by omega)), hu1.1, ((hu1.2.gi (by omega)).trans h15), fun q => absurd rfl q, ((Fz.nil (P := PIt)).trans (hu1.2.mono (fun b j q => by unfold PIt; omega)))⟩
set_option maxRecDepth 100000 in
set_option maxHeartbeats 1000000 in
theorem m_bleachIt {x y : Int32} {r c : Int} {s : St} {w : Wd} (hM : Bk w 48 0 s) (h9 : gI w 47 9 = nI 0) (h15 : gI w 47 15 = nI 0) (hx : x = zI r) (hy : y = zI c) (r1 : -2147483648 ≤ r) (r2 : r < 2147483648) (c1 : -2147483648 ≤ c) (c2 : c < 2147483648) : Ct 1 MX11_bleachIt 5 0 0 [.ref 47, .int x, .int y] w (ItP (itBleach s r c) w) := by
  refine Ct_of (by decide +kernel) rfl (Nat.le_of_ble_eq_true rfl) rfl ?_
  subst hx hy
  refine V_iload_n (i := 1) dX11_bleachIt_0 rfl rfl ?_
  refine V_iload_n (i := 2) dX11_bleachIt_1 rfl rfl ?_
  refine V_callSF dX11_bleachIt_2 (m_isCell (r := r) (c := c) rfl rfl (by omega) (by omega) (by omega) (by omega)) okX11_isCell lkRX11_104 rfl rfl (Nat.le_of_ble_eq_true rfl) ⟨Nat.le_of_ble_eq_true rfl, Nat.le_of_ble_eq_true rfl⟩ rfl ?_
  refine V_if_ne_n (tgt := 14) dX11_bleachIt_5 (by decide) (Nat.lt_of_lt_of_le ite_le (by decide)) (fun h5 => ?_) (fun h5 => ?_)
  · have hi5 := ite_t h5
    obtain ⟨r0, rfl⟩ : ∃ n : Nat, r = (n : Int) := ⟨r.toNat, by omega⟩
    obtain ⟨c0, rfl⟩ : ∃ n : Nat, c = (n : Int) := ⟨c.toNat, by omega⟩
    simp only [← zI_n]
    have hin : ins (r0 : Int) (c0 : Int) = true := ins_iff.mpr (by omega)
    have hcc : (8 * r0 + c0) < 64 := by omega
    refine V_iload_n (i := 1) dX11_bleachIt_14 rfl rfl ?_
    refine V_iload_n (i := 2) dX11_bleachIt_15 rfl rfl ?_
    refine V_callSF dX11_bleachIt_16 (m_cellOf (r := r0) (c := c0) (rfl) (rfl)) okX11_cellOf lkRX11_108 rfl rfl (Nat.le_of_ble_eq_true rfl) ⟨Nat.le_of_ble_eq_true rfl, Nat.le_of_ble_eq_true rfl⟩ rfl ?_
    refine V_istore_n (i := 3) dX11_bleachIt_19 rfl (Nat.le_of_ble_eq_true rfl) rfl rfl ?_
    refine V_aload_n (i := 0) dX11_bleachIt_20 rfl rfl ?_
    refine V_iload_n (i := 3) dX11_bleachIt_21 rfl rfl ?_
    have hv25 := hM.1.1 ((8 * r0 + c0)) (by omega)
    unfold okc at hv25
    refine V_callVF dX11_bleachIt_22 (m_at hM (k := (8 * r0 + c0)) (by omega)) okX11_at lkRX11_101 (Or.inr ⟨rfl, Nat.le_of_ble_eq_true rfl⟩) rfl rfl rfl rfl (Nat.le_of_ble_eq_true rfl) ⟨Nat.le_of_ble_eq_true rfl, Nat.le_of_ble_eq_true rfl⟩ rfl ?_
    refine V_if_ne_n (tgt := 36) dX11_bleachIt_25 (by decide) (by omega) (fun h25 => ?_) (fun h25 => ?_)
    · have hz : ¬ s.1 (8 * r0 + c0) = 0 := h25
      refine V_aload_n (i := 0) dX11_bleachIt_36 rfl rfl ?_
      refine V_iload_n (i := 3) dX11_bleachIt_37 rfl rfl ?_
      have hv26 := hM.1.1 ((8 * r0 + c0)) (by omega)
      unfold okc at hv26
      refine V_callVF dX11_bleachIt_38 (m_at hM (k := (8 * r0 + c0)) (by omega)) okX11_at lkRX11_101 (Or.inr ⟨rfl, Nat.le_of_ble_eq_true rfl⟩) rfl rfl rfl rfl (Nat.le_of_ble_eq_true rfl) ⟨Nat.le_of_ble_eq_true rfl, Nat.le_of_ble_eq_true rfl⟩ rfl ?_
      refine V_iconst_n (v := 1) dX11_bleachIt_41 (by decide) ?_
      refine V_icmp_ne_n (tgt := 56) dX11_bleachIt_42 (by decide) (by omega) (by omega) (fun h42 => ?_) (fun h42 => ?_)
      · have hag := kc_in (v := s.1 (8 * r0 + c0)) (by omega) (by omega)
        have hl1 : ¬ s.1 (8 * r0 + c0) < 10 := by omega
        refine V_aload_n (i := 0) dX11_bleachIt_56 rfl rfl ?_
        refine V_iload_n (i := 3) dX11_bleachIt_57 rfl rfl ?_
        have hv27 := hM.1.1 ((8 * r0 + c0)) (by omega)
        unfold okc at hv27
        refine V_callVF dX11_bleachIt_58 (m_at hM (k := (8 * r0 + c0)) (by omega)) okX11_at lkRX11_101 (Or.inr ⟨rfl, Nat.le_of_ble_eq_true rfl⟩) rfl rfl rfl rfl (Nat.le_of_ble_eq_true rfl) ⟨Nat.le_of_ble_eq_true rfl, Nat.le_of_ble_eq_true rfl⟩ rfl ?_
        refine V_bipush_n (v := 10) dX11_bleachIt_61 (by decide) ?_
        refine V_isub_n dX11_bleachIt_63 (by omega) ?_
        refine V_bipush_n (v := 10) dX11_bleachIt_64 (by decide) ?_
        refine V_irem_n dX11_bleachIt_66 (by omega) (by omega) (by omega) ?_
        refine V_istore dX11_bleachIt_67 (Nat.le_of_ble_eq_true rfl) rfl rfl ?_
        refine V_aload_n (i := 0) dX11_bleachIt_69 rfl rfl ?_
        refine V_getC (k := 0) (q := 48) dX11_bleachIt_70 (Or.inr ⟨rfl, Nat.le_of_ble_eq_true rfl⟩) rfl rfl rfl (Nat.le_of_ble_eq_true rfl) flRX11_9 ?_
        refine V_bipush_n (v := 7) dX11_bleachIt_73 (by decide) ?_
        refine V_iload_n (i := 3) dX11_bleachIt_75 rfl rfl ?_
        refine V_iadd_n dX11_bleachIt_76 ?_
        refine V_iconst_n (v := 1) dX11_bleachIt_77 (by decide) ?_
        refine V_iast_n (i := (7 + (8 * r0 + c0))) dX11_bleachIt_78 (Or.inr ⟨rfl, Nat.le_of_ble_eq_true rfl⟩) rfl (by omega) (by decide) ?_
        refine V_aload_n (i := 0) dX11_bleachIt_79 rfl rfl ?_
        refine V_getC (k := 0) (q := 48) dX11_bleachIt_80 (Or.inr ⟨rfl, Nat.le_of_ble_eq_true rfl⟩) rfl rfl rfl (Nat.le_of_ble_eq_true rfl) flRX11_9 ?_
        refine V_iconst_n (v := 5) dX11_bleachIt_83 (by decide) ?_
        refine V_dup2 dX11_bleachIt_84 rfl rfl ?_
        refine V_iald_n (i := 5) dX11_bleachIt_85 (Or.inr ⟨rfl, Nat.le_of_ble_eq_true rfl⟩) rfl (by omega) (by decide) ?_
        refine V_top (y := ((sPut s (8 * r0 + c0) 1).2.2 4)) ((hM.put (k := (8 * r0 + c0)) (v := 1) (by omega) (by unfold okc; omega) rfl).cnt0 (j := 4) (by decide)) ?_
        refine V_iconst_n (v := 1) dX11_bleachIt_86 (by decide) ?_
        refine V_iadd dX11_bleachIt_87 ?_
        refine V_iast_n (i := 5) dX11_bleachIt_88 (Or.inr ⟨rfl, Nat.le_of_ble_eq_true rfl⟩) rfl (by omega) (by decide) ?_
        refine V_iload dX11_bleachIt_89 rfl ?_
        refine V_iret dX11_bleachIt_91 rfl rfl ?_
        have eI : itBleach s (r0 : Int) (c0 : Int) = (0, nI (((s.1 (8 * r0 + c0)) - 10) % 10), (sCnt (sPut s (8 * r0 + c0) 1) 4 (nI 1)), 0, 0) := by simp [itBleach, hin, cl_nat, hz, hl1, hag.2.2.2]
        rw [eI]
        exact ⟨⟨_, rfl, fun _ => rfl⟩, ((hM.put (k := (8 * r0 + c0)) (v := 1) (by omega) (by unfold okc; omega) rfl).cntP (j := 4) (n := nI 1) (by decide) rfl), (pI_ne (by omega) (pI_ne (by omega) h9)), (pI_ne (by omega) (pI_ne (by omega) h15)), fun q => absurd rfl q, (((Fz.nil (P := PIt)).i1 (by omega) (by unfold PIt; omega)).i1 (by omega) (by unfold PIt; omega))⟩
      · have hl1 : s.1 (8 * r0 + c0) < 10 := by omega
        refine V_aload_n (i := 0) dX11_bleachIt_45 rfl rfl ?_
        refine V_iconst_n (v := 2) dX11_bleachIt_46 (by decide) ?_
        refine V_iconst_n (v := 3) dX11_bleachIt_47 (by decide) ?_
        refine V_aload_n (i := 0) dX11_bleachIt_48 rfl rfl ?_
        have hq28 := cnt_le (C := s.1) (q := 35) (n := 64)
        change cnt s.1 35 ≤ 64 at hq28
        refine V_callVF dX11_bleachIt_49 (m_bleacheds hM) okX11_bleacheds lkRX11_154 (Or.inr ⟨rfl, Nat.le_of_ble_eq_true rfl⟩) rfl rfl rfl rfl (Nat.le_of_ble_eq_true rfl) ⟨Nat.le_of_ble_eq_true rfl, Nat.le_of_ble_eq_true rfl⟩ rfl ?_
        refine V_callVM dX11_bleachIt_52 (m_rejecting (w := _) (n := 2) (y := 3) (x := nI (cnt s.1 35))) okX11_rejecting lkRX11_131 (Or.inr ⟨rfl, Nat.le_of_ble_eq_true rfl⟩) rfl rfl rfl rfl (Nat.le_of_ble_eq_true rfl) ⟨Nat.le_of_ble_eq_true rfl, Nat.le_of_ble_eq_true rfl⟩ rfl ?_
        intro u1 hu1
        refine V_iret dX11_bleachIt_55 rfl rfl ?_
        have eI : itBleach s (r0 : Int) (c0 : Int) = (2, 0, s, 3, nI (cnt s.1 35)) := by simp [itBleach, hin, cl_nat, hz, hl1]
        rw [eI]
        exact ⟨⟨_, rfl, fun q => by simp at q⟩, (hM.keep hu1.2.2.2 (fun k _ => by omega)), hu1.1, hu1.2.1, fun _ => hu1.2.2.1, ((Fz.nil (P := PIt)).trans (hu1.2.2.2.mono (fun b j q => by unfold PIt; omega)))⟩
    · have hz : s.1 (8 * r0 + c0) = 0 := h25
      refine V_aload_n (i := 0) dX11_bleachIt_28 rfl rfl ?_
      refine V_iconst_n (v := 2) dX11_bleachIt_29 (by decide) ?_
      refine V_iconst_n (v := 2) dX11_bleachIt_30 (by decide) ?_
      refine V_iload_n (i := 3) dX11_bleachIt_31 rfl rfl ?_
      refine V_callVM dX11_bleachIt_32 (m_rejecting (w := _) (n := 2) (y := 2) (x := nI (8 * r0 + c0))) okX11_rejecting lkRX11_131 (Or.inr ⟨rfl, Nat.le_of_ble_eq_true rfl⟩) rfl rfl rfl rfl (Nat.le_of_ble_eq_true rfl) ⟨Nat.le_of_ble_eq_true rfl, Nat.le_of_ble_eq_true rfl⟩ rfl ?_
      intro u1 hu1
      refine V_iret dX11_bleachIt_35 rfl rfl ?_
      have eI : itBleach s (r0 : Int) (c0 : Int) = (2, 0, s, 2, nI (8 * r0 + c0)) := by simp [itBleach, hin, cl_nat, hz]
      rw [eI]
      exact ⟨⟨_, rfl, fun q => by simp at q⟩, (hM.keep hu1.2.2.2 (fun k _ => by omega)), hu1.1, hu1.2.1, fun _ => hu1.2.2.1, ((Fz.nil (P := PIt)).trans (hu1.2.2.2.mono (fun b j q => by unfold PIt; omega)))⟩
  · have hi5 := ite_f h5
    have hin : ins r c = false := Bool.eq_false_iff.mpr (fun q => hi5 (ins_iff.mp q))
    refine V_aload_n (i := 0) dX11_bleachIt_8 rfl rfl ?_
    refine V_iconst_n (v := 1) dX11_bleachIt_9 (by decide) ?_
    refine V_callVM dX11_bleachIt_10 (m_throwing (w := _) (n := 1)) okX11_throwing lkRX11_75 (Or.inr ⟨rfl, Nat.le_of_ble_eq_true rfl⟩) rfl rfl rfl rfl (Nat.le_of_ble_eq_true rfl) ⟨Nat.le_of_ble_eq_true rfl, Nat.le_of_ble_eq_true rfl⟩ rfl ?_
    intro u1 hu1
    refine V_iret dX11_bleachIt_13 rfl rfl ?_
    have eI : itBleach s r c = (1, 0, s, 0, 0) := by simp [itBleach, hin]
    rw [eI]
    exact ⟨⟨_, rfl, fun q => by simp at q⟩, (hM.keep hu1.2 (fun k _ => by omega)), hu1.1, ((hu1.2.gi (by omega)).trans h15), fun q => absurd rfl q, ((Fz.nil (P := PIt)).trans (hu1.2.mono (fun b j q => by unfold PIt; omega)))⟩
set_option maxRecDepth 100000 in
set_option maxHeartbeats 1000000 in
theorem m_recolourIt {x y : Int32} {r c : Int} {q : Nat} {s : St} {w : Wd} (hM : Bk w 48 0 s) (h9 : gI w 47 9 = nI 0) (h15 : gI w 47 15 = nI 0) (hx : x = zI r) (hy : y = zI c) (r1 : -2147483648 ≤ r) (r2 : r < 2147483648) (c1 : -2147483648 ≤ c) (c2 : c < 2147483648) (hq : q < 65536) : Ct 1 MX11_recolourIt 5 0 0 [.ref 47, .int x, .int y, .int (nI q)] w (ItP (itRecolour s r c q) w) := by
  refine Ct_of (by decide +kernel) rfl (Nat.le_of_ble_eq_true rfl) rfl ?_
  subst hx hy
  refine V_iload_n (i := 1) dX11_recolourIt_0 rfl rfl ?_
  refine V_iload_n (i := 2) dX11_recolourIt_1 rfl rfl ?_
  refine V_callSF dX11_recolourIt_2 (m_isCell (r := r) (c := c) rfl rfl (by omega) (by omega) (by omega) (by omega)) okX11_isCell lkRX11_104 rfl rfl (Nat.le_of_ble_eq_true rfl) ⟨Nat.le_of_ble_eq_true rfl, Nat.le_of_ble_eq_true rfl⟩ rfl ?_
  refine V_if_ne_n (tgt := 14) dX11_recolourIt_5 (by decide) (Nat.lt_of_lt_of_le ite_le (by decide)) (fun h5 => ?_) (fun h5 => ?_)
  · have hi5 := ite_t h5
    obtain ⟨r0, rfl⟩ : ∃ n : Nat, r = (n : Int) := ⟨r.toNat, by omega⟩
    obtain ⟨c0, rfl⟩ : ∃ n : Nat, c = (n : Int) := ⟨c.toNat, by omega⟩
    simp only [← zI_n]
    have hin : ins (r0 : Int) (c0 : Int) = true := ins_iff.mpr (by omega)
    have hcc : (8 * r0 + c0) < 64 := by omega
    refine V_iload_n (i := 3) dX11_recolourIt_14 rfl rfl ?_
    refine V_callSF dX11_recolourIt_15 (m_isColour (q := ((q : Nat) : Int)) (zI_n _) (by omega) (by omega)) okX11_isColour lkRX11_127 rfl rfl (Nat.le_of_ble_eq_true rfl) ⟨Nat.le_of_ble_eq_true rfl, Nat.le_of_ble_eq_true rfl⟩ rfl ?_
    refine V_if_ne_n (tgt := 27) dX11_recolourIt_18 (by decide) (Nat.lt_of_lt_of_le ite_le (by decide)) (fun h18 => ?_) (fun h18 => ?_)
    · have hi18 := ite_t h18
      have hcq : isC q = true := isC_iff.mpr (by omega)
      refine V_iload_n (i := 1) dX11_recolourIt_27 rfl rfl ?_
      refine V_iload_n (i := 2) dX11_recolourIt_28 rfl rfl ?_
      refine V_callSF dX11_recolourIt_29 (m_cellOf (r := r0) (c := c0) (rfl) (rfl)) okX11_cellOf lkRX11_108 rfl rfl (Nat.le_of_ble_eq_true rfl) ⟨Nat.le_of_ble_eq_true rfl, Nat.le_of_ble_eq_true rfl⟩ rfl ?_
      refine V_istore dX11_recolourIt_32 (Nat.le_of_ble_eq_true rfl) rfl rfl ?_
      refine V_aload_n (i := 0) dX11_recolourIt_34 rfl rfl ?_
      refine V_iload dX11_recolourIt_35 rfl ?_
      have hv29 := hM.1.1 ((8 * r0 + c0)) (by omega)
      unfold okc at hv29
      refine V_callVF dX11_recolourIt_37 (m_at hM (k := (8 * r0 + c0)) (by omega)) okX11_at lkRX11_101 (Or.inr ⟨rfl, Nat.le_of_ble_eq_true rfl⟩) rfl rfl rfl rfl (Nat.le_of_ble_eq_true rfl) ⟨Nat.le_of_ble_eq_true rfl, Nat.le_of_ble_eq_true rfl⟩ rfl ?_
      refine V_if_ne_n (tgt := 52) dX11_recolourIt_40 (by decide) (by omega) (fun h40 => ?_) (fun h40 => ?_)
      · have hz : ¬ s.1 (8 * r0 + c0) = 0 := h40
        refine V_aload_n (i := 0) dX11_recolourIt_52 rfl rfl ?_
        refine V_iload dX11_recolourIt_53 rfl ?_
        have hv30 := hM.1.1 ((8 * r0 + c0)) (by omega)
        unfold okc at hv30
        refine V_callVF dX11_recolourIt_55 (m_at hM (k := (8 * r0 + c0)) (by omega)) okX11_at lkRX11_101 (Or.inr ⟨rfl, Nat.le_of_ble_eq_true rfl⟩) rfl rfl rfl rfl (Nat.le_of_ble_eq_true rfl) ⟨Nat.le_of_ble_eq_true rfl, Nat.le_of_ble_eq_true rfl⟩ rfl ?_
        refine V_iconst_n (v := 1) dX11_recolourIt_58 (by decide) ?_
        refine V_icmp_ne_n (tgt := 73) dX11_recolourIt_59 (by decide) (by omega) (by omega) (fun h59 => ?_) (fun h59 => ?_)
        · have hag := kc_in (v := s.1 (8 * r0 + c0)) (by omega) (by omega)
          have hl1 : ¬ s.1 (8 * r0 + c0) < 10 := by omega
          refine V_aload_n (i := 0) dX11_recolourIt_73 rfl rfl ?_
          refine V_iload dX11_recolourIt_74 rfl ?_
          have hv31 := hM.1.1 ((8 * r0 + c0)) (by omega)
          unfold okc at hv31
          refine V_callVF dX11_recolourIt_76 (m_at hM (k := (8 * r0 + c0)) (by omega)) okX11_at lkRX11_101 (Or.inr ⟨rfl, Nat.le_of_ble_eq_true rfl⟩) rfl rfl rfl rfl (Nat.le_of_ble_eq_true rfl) ⟨Nat.le_of_ble_eq_true rfl, Nat.le_of_ble_eq_true rfl⟩ rfl ?_
          have hc32 := kc_in (v := (s.1 (8 * r0 + c0))) (by omega) (by omega)
          refine V_callSF dX11_recolourIt_79 (m_colourOf (v := (s.1 (8 * r0 + c0))) (by omega) (by omega)) okX11_colourOf lkRX11_112 rfl rfl (Nat.le_of_ble_eq_true rfl) ⟨Nat.le_of_ble_eq_true rfl, Nat.le_of_ble_eq_true rfl⟩ rfl ?_
          refine V_istore dX11_recolourIt_82 (Nat.le_of_ble_eq_true rfl) rfl rfl ?_
          refine V_aload_n (i := 0) dX11_recolourIt_84 rfl rfl ?_
          refine V_getC (k := 0) (q := 48) dX11_recolourIt_85 (Or.inr ⟨rfl, Nat.le_of_ble_eq_true rfl⟩) rfl rfl rfl (Nat.le_of_ble_eq_true rfl) flRX11_9 ?_
          refine V_bipush_n (v := 7) dX11_recolourIt_88 (by decide) ?_
          refine V_iload dX11_recolourIt_90 rfl ?_
          refine V_iadd_n dX11_recolourIt_92 ?_
          refine V_iload_n (i := 3) dX11_recolourIt_93 rfl rfl ?_
          refine V_aload_n (i := 0) dX11_recolourIt_94 rfl rfl ?_
          refine V_iload dX11_recolourIt_95 rfl ?_
          have hv33 := hM.1.1 ((8 * r0 + c0)) (by omega)
          unfold okc at hv33
          refine V_callVF dX11_recolourIt_97 (m_at hM (k := (8 * r0 + c0)) (by omega)) okX11_at lkRX11_101 (Or.inr ⟨rfl, Nat.le_of_ble_eq_true rfl⟩) rfl rfl rfl rfl (Nat.le_of_ble_eq_true rfl) ⟨Nat.le_of_ble_eq_true rfl, Nat.le_of_ble_eq_true rfl⟩ rfl ?_
          refine V_bipush_n (v := 10) dX11_recolourIt_100 (by decide) ?_
          refine V_isub_n dX11_recolourIt_102 (by omega) ?_
          refine V_bipush_n (v := 10) dX11_recolourIt_103 (by decide) ?_
          refine V_irem_n dX11_recolourIt_105 (by omega) (by omega) (by omega) ?_
          refine V_callSF dX11_recolourIt_106 (m_living (q := q) (g := (((s.1 (8 * r0 + c0)) - 10) % 10)) (rfl) (rfl) (by omega)) okX11_living lkRX11_135 rfl rfl (Nat.le_of_ble_eq_true rfl) ⟨Nat.le_of_ble_eq_true rfl, Nat.le_of_ble_eq_true rfl⟩ rfl ?_
          refine V_iast_n (i := (7 + (8 * r0 + c0))) dX11_recolourIt_109 (Or.inr ⟨rfl, Nat.le_of_ble_eq_true rfl⟩) rfl (by omega) (by decide) ?_
          refine V_iload dX11_recolourIt_110 rfl ?_
          refine V_iret dX11_recolourIt_112 rfl rfl ?_
          have eI : itRecolour s (r0 : Int) (c0 : Int) q = (0, nI (kc (s.1 (8 * r0 + c0))), (sPut s (8 * r0 + c0) (10 + 10 * (q - 97) + ((s.1 (8 * r0 + c0) - 10) % 10))), 0, 0) := by simp [itRecolour, hin, cl_nat, hcq, hz, hl1, hag.2.2.2]
          rw [eI]
          exact ⟨⟨_, rfl, fun _ => rfl⟩, (hM.put (k := (8 * r0 + c0)) (v := (10 + 10 * (q - 97) + ((s.1 (8 * r0 + c0) - 10) % 10))) (by omega) (by unfold okc; omega) rfl), (pI_ne (by omega) h9), (pI_ne (by omega) h15), fun q => absurd rfl q, ((Fz.nil (P := PIt)).i1 (by omega) (by unfold PIt; omega))⟩
        · have hl1 : s.1 (8 * r0 + c0) < 10 := by omega
          refine V_aload_n (i := 0) dX11_recolourIt_62 rfl rfl ?_
          refine V_iconst_n (v := 3) dX11_recolourIt_63 (by decide) ?_
          refine V_iconst_n (v := 3) dX11_recolourIt_64 (by decide) ?_
          refine V_aload_n (i := 0) dX11_recolourIt_65 rfl rfl ?_
          have hq34 := cnt_le (C := s.1) (q := 35) (n := 64)
          change cnt s.1 35 ≤ 64 at hq34
          refine V_callVF dX11_recolourIt_66 (m_bleacheds hM) okX11_bleacheds lkRX11_154 (Or.inr ⟨rfl, Nat.le_of_ble_eq_true rfl⟩) rfl rfl rfl rfl (Nat.le_of_ble_eq_true rfl) ⟨Nat.le_of_ble_eq_true rfl, Nat.le_of_ble_eq_true rfl⟩ rfl ?_
          refine V_callVM dX11_recolourIt_69 (m_rejecting (w := _) (n := 3) (y := 3) (x := nI (cnt s.1 35))) okX11_rejecting lkRX11_131 (Or.inr ⟨rfl, Nat.le_of_ble_eq_true rfl⟩) rfl rfl rfl rfl (Nat.le_of_ble_eq_true rfl) ⟨Nat.le_of_ble_eq_true rfl, Nat.le_of_ble_eq_true rfl⟩ rfl ?_
          intro u1 hu1
          refine V_iret dX11_recolourIt_72 rfl rfl ?_
          have eI : itRecolour s (r0 : Int) (c0 : Int) q = (3, 0, s, 3, nI (cnt s.1 35)) := by simp [itRecolour, hin, cl_nat, hcq, hz, hl1]
          rw [eI]
          exact ⟨⟨_, rfl, fun q => by simp at q⟩, (hM.keep hu1.2.2.2 (fun k _ => by omega)), hu1.1, hu1.2.1, fun _ => hu1.2.2.1, ((Fz.nil (P := PIt)).trans (hu1.2.2.2.mono (fun b j q => by unfold PIt; omega)))⟩
      · have hz : s.1 (8 * r0 + c0) = 0 := h40
        refine V_aload_n (i := 0) dX11_recolourIt_43 rfl rfl ?_
        refine V_iconst_n (v := 3) dX11_recolourIt_44 (by decide) ?_
        refine V_iconst_n (v := 2) dX11_recolourIt_45 (by decide) ?_
        refine V_iload dX11_recolourIt_46 rfl ?_
        refine V_callVM dX11_recolourIt_48 (m_rejecting (w := _) (n := 3) (y := 2) (x := nI (8 * r0 + c0))) okX11_rejecting lkRX11_131 (Or.inr ⟨rfl, Nat.le_of_ble_eq_true rfl⟩) rfl rfl rfl rfl (Nat.le_of_ble_eq_true rfl) ⟨Nat.le_of_ble_eq_true rfl, Nat.le_of_ble_eq_true rfl⟩ rfl ?_
        intro u1 hu1
        refine V_iret dX11_recolourIt_51 rfl rfl ?_
        have eI : itRecolour s (r0 : Int) (c0 : Int) q = (3, 0, s, 2, nI (8 * r0 + c0)) := by simp [itRecolour, hin, cl_nat, hcq, hz]
        rw [eI]
        exact ⟨⟨_, rfl, fun q => by simp at q⟩, (hM.keep hu1.2.2.2 (fun k _ => by omega)), hu1.1, hu1.2.1, fun _ => hu1.2.2.1, ((Fz.nil (P := PIt)).trans (hu1.2.2.2.mono (fun b j q => by unfold PIt; omega)))⟩
    · have hi18 := ite_f h18
      have hcq : isC q = false := Bool.eq_false_iff.mpr (fun z => by have := isC_iff.mp z; omega)
      refine V_aload_n (i := 0) dX11_recolourIt_21 rfl rfl ?_
      refine V_iconst_n (v := 2) dX11_recolourIt_22 (by decide) ?_
      refine V_callVM dX11_recolourIt_23 (m_throwing (w := _) (n := 2)) okX11_throwing lkRX11_75 (Or.inr ⟨rfl, Nat.le_of_ble_eq_true rfl⟩) rfl rfl rfl rfl (Nat.le_of_ble_eq_true rfl) ⟨Nat.le_of_ble_eq_true rfl, Nat.le_of_ble_eq_true rfl⟩ rfl ?_
      intro u1 hu1
      refine V_iret dX11_recolourIt_26 rfl rfl ?_
      have eI : itRecolour s (r0 : Int) (c0 : Int) q = (2, 0, s, 0, 0) := by simp [itRecolour, hin, cl_nat, hcq]
      rw [eI]
      exact ⟨⟨_, rfl, fun q => by simp at q⟩, (hM.keep hu1.2 (fun k _ => by omega)), hu1.1, ((hu1.2.gi (by omega)).trans h15), fun q => absurd rfl q, ((Fz.nil (P := PIt)).trans (hu1.2.mono (fun b j q => by unfold PIt; omega)))⟩
  · have hi5 := ite_f h5
    have hin : ins r c = false := Bool.eq_false_iff.mpr (fun q => hi5 (ins_iff.mp q))
    refine V_aload_n (i := 0) dX11_recolourIt_8 rfl rfl ?_
    refine V_iconst_n (v := 1) dX11_recolourIt_9 (by decide) ?_
    refine V_callVM dX11_recolourIt_10 (m_throwing (w := _) (n := 1)) okX11_throwing lkRX11_75 (Or.inr ⟨rfl, Nat.le_of_ble_eq_true rfl⟩) rfl rfl rfl rfl (Nat.le_of_ble_eq_true rfl) ⟨Nat.le_of_ble_eq_true rfl, Nat.le_of_ble_eq_true rfl⟩ rfl ?_
    intro u1 hu1
    refine V_iret dX11_recolourIt_13 rfl rfl ?_
    have eI : itRecolour s r c q = (1, 0, s, 0, 0) := by simp [itRecolour, hin]
    rw [eI]
    exact ⟨⟨_, rfl, fun q => by simp at q⟩, (hM.keep hu1.2 (fun k _ => by omega)), hu1.1, ((hu1.2.gi (by omega)).trans h15), fun q => absurd rfl q, ((Fz.nil (P := PIt)).trans (hu1.2.mono (fun b j q => by unfold PIt; omega)))⟩
theorem rlN_lt {x : Nat} : rlN x < 3 := by unfold rlN; split <;> (try split) <;> omega
set_option maxRecDepth 100000 in
set_option maxHeartbeats 1000000 in
theorem m_ruleIt {q : Nat} {s : St} {w : Wd} (hM : Bk w 48 0 s) (h9 : gI w 47 9 = nI 0) (h15 : gI w 47 15 = nI 0) (hq : q < 65536) : Ct 1 MX11_ruleIt 3 0 0 [.ref 47, .int (nI q)] w (ItP (itRule s q) w) := by
  refine Ct_of (by decide +kernel) rfl (Nat.le_of_ble_eq_true rfl) rfl ?_
  have hrl := hM.1.2
  have hrn := @rlN_lt q
  have hzi := rlZ_in (q := (q : Int))
  refine V_iload_n (i := 1) dX11_ruleIt_0 rfl rfl ?_
  have hr35 := rlZ_in (q := ((q : Nat) : Int))
  refine V_callSF dX11_ruleIt_1 (m_ruleOf (q := ((q : Nat) : Int)) (zI_n _) (by omega) (by omega)) okX11_ruleOf lkRX11_170 rfl rfl (Nat.le_of_ble_eq_true rfl) ⟨Nat.le_of_ble_eq_true rfl, Nat.le_of_ble_eq_true rfl⟩ rfl ?_
  refine V_iconst_z (v := -1) dX11_ruleIt_4 (by decide) ?_
  refine V_icmp_ne_z (tgt := 14) dX11_ruleIt_5 (by decide) rfl rfl (by omega) (by omega) (by omega) (by omega) (fun h5 => ?_) (fun h5 => ?_)
  · have hR : isR q = true := by
      cases e : isR q with
      | true => rfl
      | false => exact absurd (rlZ_no e) (by omega)
    have hzr := rlZ_R hR
    refine V_iload_n (i := 1) dX11_ruleIt_14 rfl rfl ?_
    have hr36 := rlZ_in (q := ((q : Nat) : Int))
    refine V_callSF dX11_ruleIt_15 (m_ruleOf (q := ((q : Nat) : Int)) (zI_n _) (by omega) (by omega)) okX11_ruleOf lkRX11_170 rfl rfl (Nat.le_of_ble_eq_true rfl) ⟨Nat.le_of_ble_eq_true rfl, Nat.le_of_ble_eq_true rfl⟩ rfl ?_
    refine V_aload_n (i := 0) dX11_ruleIt_18 rfl rfl ?_
    refine V_getC (k := 0) (q := 48) dX11_ruleIt_19 (Or.inr ⟨rfl, Nat.le_of_ble_eq_true rfl⟩) rfl rfl rfl (Nat.le_of_ble_eq_true rfl) flRX11_9 ?_
    refine V_iconst_n (v := 0) dX11_ruleIt_22 (by decide) ?_
    refine V_iald_n (i := 0) dX11_ruleIt_23 (Or.inr ⟨rfl, Nat.le_of_ble_eq_true rfl⟩) rfl (by omega) (by decide) ?_
    refine V_top (y := nI (s.2.1)) hM.rule0 ?_
    refine V_icmp_ne_z (tgt := 40) dX11_ruleIt_24 (by decide) rfl (zI_n _) (by omega) (by omega) (by omega) (by omega) (fun h24 => ?_) (fun h24 => ?_)
    · have hz : ¬ s.2.1 = rlN q := fun z => by omega
      refine V_aload_n (i := 0) dX11_ruleIt_40 rfl rfl ?_
      refine V_getC (k := 0) (q := 48) dX11_ruleIt_41 (Or.inr ⟨rfl, Nat.le_of_ble_eq_true rfl⟩) rfl rfl rfl (Nat.le_of_ble_eq_true rfl) flRX11_9 ?_
      refine V_iconst_n (v := 0) dX11_ruleIt_44 (by decide) ?_
      refine V_iald_n (i := 0) dX11_ruleIt_45 (Or.inr ⟨rfl, Nat.le_of_ble_eq_true rfl⟩) rfl (by omega) (by decide) ?_
      refine V_top (y := nI (s.2.1)) hM.rule0 ?_
      have hl37 := @rl_lt s.2.1
      refine V_callSF dX11_ruleIt_46 (m_letterOf (r := s.2.1) (by omega)) okX11_letterOf lkRX11_173 rfl rfl (Nat.le_of_ble_eq_true rfl) ⟨Nat.le_of_ble_eq_true rfl, Nat.le_of_ble_eq_true rfl⟩ rfl ?_
      refine V_istore_n (i := 2) dX11_ruleIt_49 rfl (Nat.le_of_ble_eq_true rfl) rfl rfl ?_
      refine V_aload_n (i := 0) dX11_ruleIt_50 rfl rfl ?_
      refine V_getC (k := 0) (q := 48) dX11_ruleIt_51 (Or.inr ⟨rfl, Nat.le_of_ble_eq_true rfl⟩) rfl rfl rfl (Nat.le_of_ble_eq_true rfl) flRX11_9 ?_
      refine V_iconst_n (v := 0) dX11_ruleIt_54 (by decide) ?_
      refine V_iload_n (i := 1) dX11_ruleIt_55 rfl rfl ?_
      have hr38 := rlZ_in (q := ((q : Nat) : Int))
      refine V_callSF dX11_ruleIt_56 (m_ruleOf (q := ((q : Nat) : Int)) (zI_n _) (by omega) (by omega)) okX11_ruleOf lkRX11_170 rfl rfl (Nat.le_of_ble_eq_true rfl) ⟨Nat.le_of_ble_eq_true rfl, Nat.le_of_ble_eq_true rfl⟩ rfl ?_
      refine V_iast_n (i := 0) dX11_ruleIt_59 (Or.inr ⟨rfl, Nat.le_of_ble_eq_true rfl⟩) rfl (by omega) (by decide) ?_
      refine V_iload_n (i := 2) dX11_ruleIt_60 rfl rfl ?_
      refine V_iret dX11_ruleIt_61 rfl rfl ?_
      have eI : itRule s q = (0, nI (rlL s.2.1), (s.1, rlN q, s.2.2), 0, 0) := by simp [itRule, hR, hz]
      rw [eI]
      exact ⟨⟨_, rfl, fun _ => rfl⟩, (hM.ruleP (r := rlN q) (rlN_lt) (by rw [hzr]; exact (zI_n _).symm)), (pI_ne (by omega) h9), (pI_ne (by omega) h15), fun q => absurd rfl q, ((Fz.nil (P := PIt)).i1 (by omega) (by unfold PIt; omega))⟩
    · have hz : s.2.1 = rlN q := by omega
      refine V_aload_n (i := 0) dX11_ruleIt_27 rfl rfl ?_
      refine V_iconst_n (v := 2) dX11_ruleIt_28 (by decide) ?_
      refine V_iconst_n (v := 5) dX11_ruleIt_29 (by decide) ?_
      refine V_aload_n (i := 0) dX11_ruleIt_30 rfl rfl ?_
      refine V_getC (k := 0) (q := 48) dX11_ruleIt_31 (Or.inr ⟨rfl, Nat.le_of_ble_eq_true rfl⟩) rfl rfl rfl (Nat.le_of_ble_eq_true rfl) flRX11_9 ?_
      refine V_iconst_n (v := 1) dX11_ruleIt_34 (by decide) ?_
      refine V_iald_n (i := 1) dX11_ruleIt_35 (Or.inr ⟨rfl, Nat.le_of_ble_eq_true rfl⟩) rfl (by omega) (by decide) ?_
      refine V_top (y := (s.2.2 0)) (hM.cnt0 (j := 0) (by decide)) ?_
      refine V_callVM dX11_ruleIt_36 (m_rejecting (w := _) (n := 2) (y := 5) (x := (s.2.2 0))) okX11_rejecting lkRX11_131 (Or.inr ⟨rfl, Nat.le_of_ble_eq_true rfl⟩) rfl rfl rfl rfl (Nat.le_of_ble_eq_true rfl) ⟨Nat.le_of_ble_eq_true rfl, Nat.le_of_ble_eq_true rfl⟩ rfl ?_
      intro u1 hu1
      refine V_iret dX11_ruleIt_39 rfl rfl ?_
      have eI : itRule s q = (2, 0, s, 5, s.2.2 0) := by simp [itRule, hR, hz]
      rw [eI]
      exact ⟨⟨_, rfl, fun q => by simp at q⟩, (hM.keep hu1.2.2.2 (fun k _ => by omega)), hu1.1, hu1.2.1, fun _ => hu1.2.2.1, ((Fz.nil (P := PIt)).trans (hu1.2.2.2.mono (fun b j q => by unfold PIt; omega)))⟩
  · have hR : isR q = false := by
      cases e : isR q with
      | false => rfl
      | true => have := rlZ_R e; omega
    refine V_aload_n (i := 0) dX11_ruleIt_8 rfl rfl ?_
    refine V_iconst_n (v := 1) dX11_ruleIt_9 (by decide) ?_
    refine V_callVM dX11_ruleIt_10 (m_throwing (w := _) (n := 1)) okX11_throwing lkRX11_75 (Or.inr ⟨rfl, Nat.le_of_ble_eq_true rfl⟩) rfl rfl rfl rfl (Nat.le_of_ble_eq_true rfl) ⟨Nat.le_of_ble_eq_true rfl, Nat.le_of_ble_eq_true rfl⟩ rfl ?_
    intro u1 hu1
    refine V_iret dX11_ruleIt_13 rfl rfl ?_
    have eI : itRule s q = (1, 0, s, 0, 0) := by simp [itRule, hR]
    rw [eI]
    exact ⟨⟨_, rfl, fun q => by simp at q⟩, (hM.keep hu1.2 (fun k _ => by omega)), hu1.1, ((hu1.2.gi (by omega)).trans h15), fun q => absurd rfl q, ((Fz.nil (P := PIt)).trans (hu1.2.mono (fun b j q => by unfold PIt; omega)))⟩
set_option maxRecDepth 100000 in
set_option maxHeartbeats 1000000 in
theorem m_tidesIt {x : Int32} {t : Int} {s : St} {w : Wd} (hM : Bk w 48 0 s) (h9 : gI w 47 9 = nI 0) (h15 : gI w 47 15 = nI 0) (hx : x = zI t) (t1 : -2147483648 ≤ t) (t2 : t < 2147483648) : Ct 1 MX11_tidesIt 7 0 0 [.ref 47, .int x] w (ItP (itTides s t) w) := by
  refine Ct_of (by decide +kernel) rfl (Nat.le_of_ble_eq_true rfl) rfl ?_
  subst hx
  have lp : ∀ (fu i : Nat) (w1 : Wd), i ≤ t.toNat → t.toNat - i < fu → (1 ≤ t ∧ t ≤ 20) → Bk w1 48 0 (tideN s i) → gI w1 47 9 = nI 0 → gI w1 47 15 = nI 0 → Fz PIt w w1 → V 1 MX11_tidesIt 7 0 0 (ItP (itTides s t) w) (fun _ _ => True) 0 0 27 [some (.ref 47), some (.int (zI t)), some (.int (s.2.2 3)), some (.int (nI i))] [] w1 := by
    intro fu
    induction fu with
    | zero => intro i w1 h1 h2; omega
    | succ fu ih =>
      intro i w1 hib hfu ht hB h9 h15 hf
      refine V_iload_n (i := 3) dX11_tidesIt_27 rfl rfl ?_
      refine V_iload_n (i := 1) dX11_tidesIt_28 rfl rfl ?_
      refine V_icmp_ge_z (tgt := 42) dX11_tidesIt_29 (by decide) (zI_n _) rfl (by omega) (by omega) (by omega) (by omega) (fun h29 => ?_) (fun h29 => ?_)
      · have ei : i = t.toNat := by omega
        refine V_aload_n (i := 0) dX11_tidesIt_42 rfl rfl ?_
        refine V_getC (k := 0) (q := 48) dX11_tidesIt_43 (Or.inr ⟨rfl, Nat.le_of_ble_eq_true rfl⟩) rfl rfl rfl (Nat.le_of_ble_eq_true rfl) flRX11_9 ?_
        refine V_iconst_n (v := 4) dX11_tidesIt_46 (by decide) ?_
        refine V_iald_n (i := 4) dX11_tidesIt_47 (Or.inr ⟨rfl, Nat.le_of_ble_eq_true rfl⟩) rfl (by omega) (by decide) ?_
        refine V_top (y := ((tideN s i).2.2 3)) (hB.cnt0 (j := 3) (by decide)) ?_
        refine V_iload_n (i := 2) dX11_tidesIt_48 rfl rfl ?_
        refine V_isub dX11_tidesIt_49 ?_
        refine V_iret dX11_tidesIt_50 rfl rfl ?_
        subst ei
        have eI : itTides s t = (0, (tideN s t.toNat).2.2 3 - s.2.2 3, tideN s t.toNat, 0, 0) := if_pos ht
        rw [eI]
        exact ⟨⟨_, rfl, fun _ => rfl⟩, hB, h9, h15, fun q => absurd rfl q, hf⟩
      · refine V_aload_n (i := 0) dX11_tidesIt_32 rfl rfl ?_
        refine V_callVM dX11_tidesIt_33 (m_passes hB) okX11_passes lkRX11_193 (Or.inr ⟨rfl, Nat.le_of_ble_eq_true rfl⟩) rfl rfl rfl rfl (Nat.le_of_ble_eq_true rfl) ⟨Nat.le_of_ble_eq_true rfl, Nat.le_of_ble_eq_true rfl⟩ rfl ?_
        intro u1 hu1
        refine V_iinc_n (b := (i + 1)) dX11_tidesIt_36 rfl (nI_add _ _) rfl rfl ?_
        refine V_goto (tgt := 27) dX11_tidesIt_39 (by decide) ?_
        exact ih (i + 1) _ (by omega) (by omega) ht hu1.1 ((hu1.2.gi (by omega)).trans h9) ((hu1.2.gi (by omega)).trans h15) (hf.trans (hu1.2.mono (fun b j q => by unfold PIt; omega)))
  refine V_iload_n (i := 1) dX11_tidesIt_0 rfl rfl ?_
  refine V_i2l dX11_tidesIt_1 ?_
  refine V_topL (y := zL (t)) (zI_zL (by omega) (by omega)) ?_
  refine V_lconst (v := zL 1) dX11_tidesIt_2 (by decide) ?_
  refine V_ldc2 dX11_tidesIt_3 csRX11_191 ?_
  refine V_topL (y := zL 20) (by decide) ?_
  refine V_callSF dX11_tidesIt_6 (c_in (a := (t)) (b := 1) (c := 20) (by omega) (by omega) (by omega) (by omega) (by omega) (by omega)) okX11_in lkRX11_93 rfl rfl (Nat.le_of_ble_eq_true rfl) ⟨Nat.le_of_ble_eq_true rfl, Nat.le_of_ble_eq_true rfl⟩ rfl ?_
  refine V_if_ne_n (tgt := 18) dX11_tidesIt_9 (by decide) (Nat.lt_of_lt_of_le ite_le (by decide)) (fun b9 => ?_) (fun b9 => ?_)
  · have hi9 := ite_t b9
    refine V_aload_n (i := 0) dX11_tidesIt_18 rfl rfl ?_
    refine V_getC (k := 0) (q := 48) dX11_tidesIt_19 (Or.inr ⟨rfl, Nat.le_of_ble_eq_true rfl⟩) rfl rfl rfl (Nat.le_of_ble_eq_true rfl) flRX11_9 ?_
    refine V_iconst_n (v := 4) dX11_tidesIt_22 (by decide) ?_
    refine V_iald_n (i := 4) dX11_tidesIt_23 (Or.inr ⟨rfl, Nat.le_of_ble_eq_true rfl⟩) rfl (by omega) (by decide) ?_
    refine V_top (y := (s.2.2 3)) (hM.cnt0 (j := 3) (by decide)) ?_
    refine V_istore_n (i := 2) dX11_tidesIt_24 rfl (Nat.le_of_ble_eq_true rfl) rfl rfl ?_
    refine V_iconst_n (v := 0) dX11_tidesIt_25 (by decide) ?_
    refine V_istore_n (i := 3) dX11_tidesIt_26 rfl (Nat.le_of_ble_eq_true rfl) rfl rfl ?_
    exact lp (t.toNat + 1) 0 w (by omega) (by omega) hi9 hM h9 h15 Fz.nil
  · have hi9 := ite_f b9
    refine V_aload_n (i := 0) dX11_tidesIt_12 rfl rfl ?_
    refine V_iconst_n (v := 1) dX11_tidesIt_13 (by decide) ?_
    refine V_callVM dX11_tidesIt_14 (m_throwing (w := _) (n := 1)) okX11_throwing lkRX11_75 (Or.inr ⟨rfl, Nat.le_of_ble_eq_true rfl⟩) rfl rfl rfl rfl (Nat.le_of_ble_eq_true rfl) ⟨Nat.le_of_ble_eq_true rfl, Nat.le_of_ble_eq_true rfl⟩ rfl ?_
    intro u1 hu1
    refine V_iret dX11_tidesIt_17 rfl rfl ?_
    have hz : ¬ (1 ≤ t ∧ t ≤ 20) := hi9
    have eI : itTides s t = (1, 0, s, 0, 0) := if_neg hz
    rw [eI]
    exact ⟨⟨_, rfl, fun q => by simp at q⟩, (hM.keep hu1.2 (fun k _ => by omega)), hu1.1, ((hu1.2.gi (by omega)).trans h15), fun q => absurd rfl q, ((Fz.nil (P := PIt)).trans (hu1.2.mono (fun b j q => by unfold PIt; omega)))⟩
theorem sb_ok {p : Nat} (hp : p < 4) : sbT.getD p 0 ≤ sbT.getD (p + 1) 0 ∧ sbT.getD (p + 1) 0 - sbT.getD p 0 = psz p ∧ sbT.getD p 0 + psz p ≤ 17 ∧ sbT.getD (p + 1) 0 < 18 := pt_cases (P := fun p => sbT.getD p 0 ≤ sbT.getD (p + 1) 0 ∧ sbT.getD (p + 1) 0 - sbT.getD p 0 = psz p ∧ sbT.getD p 0 + psz p ≤ 17 ∧ sbT.getD (p + 1) 0 < 18) (by decide +kernel) (by decide +kernel) (by decide +kernel) (by decide +kernel) hp
theorem sh_ok {p : Nat} (hp : p < 4) : ∀ k, k < psz p → shT.getD (sbT.getD p 0 + k) 0 / 10 = pdg p (2 * k) ∧ shT.getD (sbT.getD p 0 + k) 0 % 10 = pdg p (2 * k + 1) ∧ shT.getD (sbT.getD p 0 + k) 0 < 30 ∧ pdg p (2 * k) < 3 ∧ pdg p (2 * k + 1) < 3 := pt_cases (P := fun p => ∀ k, k < psz p → shT.getD (sbT.getD p 0 + k) 0 / 10 = pdg p (2 * k) ∧ shT.getD (sbT.getD p 0 + k) 0 % 10 = pdg p (2 * k + 1) ∧ shT.getD (sbT.getD p 0 + k) 0 < 30 ∧ pdg p (2 * k) < 3 ∧ pdg p (2 * k + 1) < 3) (by decide +kernel) (by decide +kernel) (by decide +kernel) (by decide +kernel) hp
theorem asc_ok {p : Nat} (hp : p < 4) : ∀ k, k < psz p → ∀ j, j < k → 8 * pdg p (2 * j) + pdg p (2 * j + 1) < 8 * pdg p (2 * k) + pdg p (2 * k + 1) := pt_cases (P := fun p => ∀ k, k < psz p → ∀ j, j < k → 8 * pdg p (2 * j) + pdg p (2 * j + 1) < 8 * pdg p (2 * k) + pdg p (2 * k + 1)) (by decide +kernel) (by decide +kernel) (by decide +kernel) (by decide +kernel) hp
theorem pin_if {p r c k : Nat} : (if 0 ≤ ((r + pdg p (2 * k) : Nat) : Int) ∧ ((r + pdg p (2 * k) : Nat) : Int) < 8 ∧ 0 ≤ ((c + pdg p (2 * k + 1) : Nat) : Int) ∧ ((c + pdg p (2 * k + 1) : Nat) : Int) < 8 then 1 else 0 : Nat) = if pin p r c k = true then 1 else 0 := by
  by_cases h : pin p r c k = true
  · have h1 := of_decide_eq_true h
    rw [if_pos h, if_pos (by omega)]
  · have h1 := of_decide_eq_false (Bool.eq_false_iff.mpr h)
    rw [if_neg h, if_neg (by omega)]
def ain (p r c i : Nat) : Bool := (List.range i).all (pin p r c)
theorem ain_s {p r c i : Nat} : ain p r c (i + 1) = (ain p r c i && pin p r c i) := by unfold ain; rw [List.range_succ, List.all_append]; simp
theorem ain_all {p r c : Nat} : allin p r c = ain p r c (psz p) := rfl
/-- the least cell that is taken, among the first i -/
def tkm (C : Nat → Nat) (p r c : Nat) : Nat → Int
  | 0 => -1
  | i + 1 => if pin p r c i = true ∧ C (pcl p r c i) ≠ 0 ∧ (tkm C p r c i = -1 ∨ (pcl p r c i : Int) < tkm C p r c i) then (pcl p r c i : Int) else tkm C p r c i
theorem tkm_bd {C : Nat → Nat} {p r c : Nat} : ∀ i, -1 ≤ tkm C p r c i ∧ tkm C p r c i < 64 := by
  intro i
  induction i with
  | zero => exact ⟨by show (-1 : Int) ≤ -1; omega, by show (-1 : Int) < 64; omega⟩
  | succ i ih =>
    show -1 ≤ (if pin p r c i = true ∧ C (pcl p r c i) ≠ 0 ∧ (tkm C p r c i = -1 ∨ (pcl p r c i : Int) < tkm C p r c i) then (pcl p r c i : Int) else tkm C p r c i) ∧ (if pin p r c i = true ∧ C (pcl p r c i) ≠ 0 ∧ (tkm C p r c i = -1 ∨ (pcl p r c i : Int) < tkm C p r c i) then (pcl p r c i : Int) else tkm C p r c i) < 64
    split
    · next h => have := (pci_in h.1).2; omega
    · exact ih
def ftZ (o : Option Nat) : Int := match o with
  | some x => (x : Int)
  | none => -1
theorem tkm_fti {C : Nat → Nat} {p r c : Nat} (hp : p < 4) (hin : ∀ k, k < psz p → pin p r c k = true) : ∀ i, i ≤ psz p → tkm C p r c i = ftZ (ftk C p r c i) ∧ ∀ x, ftk C p r c i = some x → ∃ j, j < i ∧ x = pcl p r c j := by
  intro i
  induction i with
  | zero => exact fun _ => ⟨rfl, fun x hx => by cases hx⟩
  | succ i ih =>
    intro hi
    obtain ⟨h1, h2⟩ := ih (by omega)
    have e1 : tkm C p r c (i + 1) = if pin p r c i = true ∧ C (pcl p r c i) ≠ 0 ∧ (tkm C p r c i = -1 ∨ (pcl p r c i : Int) < tkm C p r c i) then (pcl p r c i : Int) else tkm C p r c i := rfl
    cases e : ftk C p r c i with
    | some y =>
      have h3 := ftk_mono e 1
      obtain ⟨j, hj, hy⟩ := h2 y e
      have ha := asc_ok hp i (by omega) j hj
      have hlt : y < pcl p r c i := by rw [hy]; unfold pcl; omega
      have hk : tkm C p r c i = (y : Int) := by rw [h1, e]; rfl
      rw [e1, h3, if_neg (fun q => by rcases q.2.2 with z | z <;> omega), hk]
      exact ⟨rfl, fun x hx => by cases hx; exact ⟨j, by omega, hy⟩⟩
    | none =>
      have hk : tkm C p r c i = -1 := by rw [h1, e]; rfl
      by_cases hc : C (pcl p r c i) = 0
      · rw [e1, ftk_old e hc, if_neg (fun q => q.2.1 hc), hk]
        exact ⟨rfl, fun x hx => by cases hx⟩
      · rw [e1, ftk_new e hc, if_pos ⟨hin i (by omega), hc, Or.inl hk⟩]
        exact ⟨rfl, fun x hx => by cases hx; exact ⟨i, by omega, rfl⟩⟩
theorem tkm_end {C : Nat → Nat} {p r c : Nat} (hp : p < 4) (hin : ∀ k, k < psz p → pin p r c k = true) : tkm C p r c (psz p) = fti C p r c := by
  rw [(tkm_fti hp hin (psz p) (Nat.le_refl _)).1]
  unfold fti ftZ
  split <;> split <;> simp_all
/-- the buttons put, not yet counted -/
def pl0 (s : St) (p r c q : Nat) : Nat → St
  | 0 => s
  | i + 1 => sPut (pl0 s p r c q i) (pcl p r c i) (10 + 10 * (q - 97) + 0)
theorem pl0_plt {s : St} {p r c q : Nat} : ∀ i, sCnt (pl0 s p r c q i) 1 (nI i) = plt s p r c q i := by
  intro i
  induction i with
  | zero =>
    show (s.1, s.2.1, bump s.2.2 1 (nI 0)) = s
    refine Prod.ext rfl (Prod.ext rfl (funext fun j => ?_))
    show (if j = 1 then s.2.2 j + nI 0 else s.2.2 j) = s.2.2 j
    rw [nI_0, Int32.add_zero]
    split <;> rfl
  | succ i ih =>
    show _ = sCnt (sPut (plt s p r c q i) (pcl p r c i) (10 + 10 * (q - 97) + 0)) 1 (nI 1)
    rw [← ih]
    refine Prod.ext rfl (Prod.ext rfl (funext fun j => ?_))
    show (if j = 1 then (pl0 s p r c q i).2.2 j + nI (i + 1) else (pl0 s p r c q i).2.2 j) = (if j = 1 then (if j = 1 then (pl0 s p r c q i).2.2 j + nI i else (pl0 s p r c q i).2.2 j) + nI 1 else (if j = 1 then (pl0 s p r c q i).2.2 j + nI i else (pl0 s p r c q i).2.2 j))
    by_cases e : j = 1
    · rw [if_pos e, if_pos e, if_pos e, ← nI_add, Int32.add_assoc]
    · rw [if_neg e, if_neg e, if_neg e]
set_option maxRecDepth 100000 in
set_option maxHeartbeats 1000000 in
theorem m_plantIt {x y : Int32} {r c : Int} {pt q : Nat} {s : St} {w : Wd} (hM : Bk w 48 0 s) (h9 : gI w 47 9 = nI 0) (h15 : gI w 47 15 = nI 0) (hx : x = zI r) (hy : y = zI c) (r1 : -2147483648 ≤ r) (r2 : r < 2147483648) (c1 : -2147483648 ≤ c) (c2 : c < 2147483648) (hT : Tb w) (hpt : pt < 65536) (hq : q < 65536) : Ct 1 MX11_plantIt 4 0 0 [.ref 47, .int x, .int y, .int (nI pt), .int (nI q)] w (ItP (itPlant s r c pt q) w) := by
  refine Ct_of (by decide +kernel) rfl (Nat.le_of_ble_eq_true rfl) rfl ?_
  subst hx hy
  refine V_iload_n (i := 1) dX11_plantIt_0 rfl rfl ?_
  refine V_iload_n (i := 2) dX11_plantIt_1 rfl rfl ?_
  refine V_callSF dX11_plantIt_2 (m_isCell (r := r) (c := c) rfl rfl (by omega) (by omega) (by omega) (by omega)) okX11_isCell lkRX11_104 rfl rfl (Nat.le_of_ble_eq_true rfl) ⟨Nat.le_of_ble_eq_true rfl, Nat.le_of_ble_eq_true rfl⟩ rfl ?_
  refine V_if_ne_n (tgt := 14) dX11_plantIt_5 (by decide) (Nat.lt_of_lt_of_le ite_le (by decide)) (fun h5 => ?_) (fun h5 => ?_)
  · have hi5 := ite_t h5
    obtain ⟨r0, rfl⟩ : ∃ n : Nat, r = (n : Int) := ⟨r.toNat, by omega⟩
    obtain ⟨c0, rfl⟩ : ∃ n : Nat, c = (n : Int) := ⟨c.toNat, by omega⟩
    simp only [← zI_n]
    have hin : ins (r0 : Int) (c0 : Int) = true := ins_iff.mpr (by omega)
    have hcc : (8 * r0 + c0) < 64 := by omega
    refine V_iload_n (i := 3) dX11_plantIt_14 rfl rfl ?_
    have hr41 := ptZ_in (q := ((pt : Nat) : Int))
    refine V_callSF dX11_plantIt_15 (m_patternOf (q := ((pt : Nat) : Int)) (zI_n _) (by omega) (by omega)) okX11_patternOf lkRX11_163 rfl rfl (Nat.le_of_ble_eq_true rfl) ⟨Nat.le_of_ble_eq_true rfl, Nat.le_of_ble_eq_true rfl⟩ rfl ?_
    refine V_istore dX11_plantIt_18 (Nat.le_of_ble_eq_true rfl) rfl rfl ?_
    refine V_iload dX11_plantIt_20 rfl ?_
    refine V_iconst_z (v := -1) dX11_plantIt_22 (by decide) ?_
    refine V_icmp_eq_z (tgt := 34) dX11_plantIt_23 (by decide) rfl rfl (by omega) (by omega) (by omega) (by omega) (fun h23 => ?_) (fun h23 => ?_)
    · have hP : isP pt = false := by
        cases e : isP pt with
        | false => rfl
        | true => have := ptZ_P e; omega
      refine V_aload_n (i := 0) dX11_plantIt_34 rfl rfl ?_
      refine V_iconst_n (v := 2) dX11_plantIt_35 (by decide) ?_
      refine V_callVM dX11_plantIt_36 (m_throwing (w := _) (n := 2)) okX11_throwing lkRX11_75 (Or.inr ⟨rfl, Nat.le_of_ble_eq_true rfl⟩) rfl rfl rfl rfl (Nat.le_of_ble_eq_true rfl) ⟨Nat.le_of_ble_eq_true rfl, Nat.le_of_ble_eq_true rfl⟩ rfl ?_
      intro u1 hu1
      refine V_iret dX11_plantIt_39 rfl rfl ?_
      have eI : itPlant s (r0 : Int) (c0 : Int) pt q = (2, 0, s, 0, 0) := by simp [itPlant, hin, hP]
      rw [eI]
      exact ⟨⟨_, rfl, fun q => by simp at q⟩, (hM.keep hu1.2 (fun k _ => by omega)), hu1.1, ((hu1.2.gi (by omega)).trans h15), fun q => absurd rfl q, ((Fz.nil (P := PIt)).trans (hu1.2.mono (fun b j q => by unfold PIt; omega)))⟩
    · refine V_iload dX11_plantIt_26 rfl ?_
      refine V_callSF dX11_plantIt_28 (m_isColour (q := ((q : Nat) : Int)) (zI_n _) (by omega) (by omega)) okX11_isColour lkRX11_127 rfl rfl (Nat.le_of_ble_eq_true rfl) ⟨Nat.le_of_ble_eq_true rfl, Nat.le_of_ble_eq_true rfl⟩ rfl ?_
      refine V_if_ne_n (tgt := 40) dX11_plantIt_31 (by decide) (Nat.lt_of_lt_of_le ite_le (by decide)) (fun h31 => ?_) (fun h31 => ?_)
      · have hi31 := ite_t h31
        have hP : isP pt = true := by
          cases e : isP pt with
          | true => rfl
          | false => exact absurd (ptZ_no e) (by omega)
        have hpz := ptZ_P hP
        have hp4 := (ptN_ok hP).1
        have hsb := sb_ok hp4
        have hz5 := (pt_len hp4).2
        have hcq : isC q = true := isC_iff.mpr (by omega)
        simp only [hpz, ← zI_n]
        refine V_aload_n (i := 0) dX11_plantIt_40 rfl rfl ?_
        refine V_getC (k := 18) (q := 56) dX11_plantIt_41 (Or.inr ⟨rfl, Nat.le_of_ble_eq_true rfl⟩) rfl rfl rfl (Nat.le_of_ble_eq_true rfl) flRX11_38 ?_
        refine V_iload dX11_plantIt_44 rfl ?_
        refine V_iconst_n (v := 1) dX11_plantIt_46 (by decide) ?_
        refine V_iadd_n dX11_plantIt_47 ?_
        refine V_iald_n (i := ((ptN pt) + 1)) dX11_plantIt_48 (Or.inr ⟨rfl, Nat.le_of_ble_eq_true rfl⟩) rfl (by omega) (by decide) ?_
        refine V_top (y := nI (sbT.getD ((ptN pt) + 1) 0)) (hT.2.1 _ (by omega)) ?_
        refine V_aload_n (i := 0) dX11_plantIt_49 rfl rfl ?_
        refine V_getC (k := 18) (q := 56) dX11_plantIt_50 (Or.inr ⟨rfl, Nat.le_of_ble_eq_true rfl⟩) rfl rfl rfl (Nat.le_of_ble_eq_true rfl) flRX11_38 ?_
        refine V_iload dX11_plantIt_53 rfl ?_
        refine V_iald_n (i := (ptN pt)) dX11_plantIt_55 (Or.inr ⟨rfl, Nat.le_of_ble_eq_true rfl⟩) rfl (by omega) (by decide) ?_
        refine V_top (y := nI (sbT.getD (ptN pt) 0)) (hT.2.1 _ (by omega)) ?_
        refine V_isub_n dX11_plantIt_56 (by omega) ?_
        refine V_top (y := nI (psz (ptN pt))) (by rw [hsb.2.1]) ?_
        refine V_istore dX11_plantIt_57 (Nat.le_of_ble_eq_true rfl) rfl rfl ?_
        refine V_iconst_z (v := -1) dX11_plantIt_59 (by decide) ?_
        refine V_istore dX11_plantIt_60 (Nat.le_of_ble_eq_true rfl) rfl rfl ?_
        refine V_iconst_n (v := 0) dX11_plantIt_62 (by decide) ?_
        refine V_istore dX11_plantIt_63 (Nat.le_of_ble_eq_true rfl) rfl rfl ?_
        refine V_iconst_n (v := 0) dX11_plantIt_65 (by decide) ?_
        refine V_istore dX11_plantIt_66 (Nat.le_of_ble_eq_true rfl) rfl rfl ?_
        have lp2 : ∀ (fu i : Nat) (w1 : Wd), i ≤ psz (ptN pt) → psz (ptN pt) - i < fu → (∀ k, k < psz (ptN pt) → pin (ptN pt) r0 c0 k = true) → ¬ 0 ≤ fti s.1 (ptN pt) r0 c0 → Bk w1 48 0 (pl0 s (ptN pt) r0 c0 q i) → Tb w1 → gI w1 47 9 = nI 0 → gI w1 47 15 = nI 0 → Fz PIt w w1 → V 1 MX11_plantIt 4 0 0 (ItP (itPlant s (r0 : Int) (c0 : Int) pt q) w) (fun _ _ => True) 0 0 230 [some (.ref 47), some (.int (nI r0)), some (.int (nI c0)), some (.int (nI pt)), some (.int (nI q)), some (.int (nI (ptN pt))), some (.int (nI (psz (ptN pt)))), none, none, some (.int (nI i)), none, none, none] [] w1 := by
          intro fu
          induction fu with
          | zero => intro i w1 h1 h2; omega
          | succ fu ih2 =>
            intro i w1 hib hfu hall hft hB hT h9 h15 hf
            refine V_iload dX11_plantIt_230 rfl ?_
            refine V_iload dX11_plantIt_232 rfl ?_
            refine V_icmp_ge_n (tgt := 291) dX11_plantIt_234 (by decide) (by omega) (by omega) (fun h234 => ?_) (fun h234 => ?_)
            · have ei : i = psz (ptN pt) := by omega
              subst ei
              refine V_aload_n (i := 0) dX11_plantIt_291 rfl rfl ?_
              refine V_getC (k := 0) (q := 48) dX11_plantIt_292 (Or.inr ⟨rfl, Nat.le_of_ble_eq_true rfl⟩) rfl rfl rfl (Nat.le_of_ble_eq_true rfl) flRX11_9 ?_
              refine V_iconst_n (v := 2) dX11_plantIt_295 (by decide) ?_
              refine V_dup2 dX11_plantIt_296 rfl rfl ?_
              refine V_iald_n (i := 2) dX11_plantIt_297 (Or.inr ⟨rfl, Nat.le_of_ble_eq_true rfl⟩) rfl (by omega) (by decide) ?_
              refine V_top (y := ((pl0 s (ptN pt) r0 c0 q (psz (ptN pt))).2.2 1)) (hB.cnt0 (j := 1) (by decide)) ?_
              refine V_iload dX11_plantIt_298 rfl ?_
              refine V_iadd dX11_plantIt_300 ?_
              refine V_iast_n (i := 2) dX11_plantIt_301 (Or.inr ⟨rfl, Nat.le_of_ble_eq_true rfl⟩) rfl (by omega) (by decide) ?_
              refine V_iload dX11_plantIt_302 rfl ?_
              refine V_iret dX11_plantIt_304 rfl rfl ?_
              have hal : allin (ptN pt) r0 c0 = true := allin_iff.mpr hall
              have hB9 := (hB.cntP (j := 1) (n := nI (psz (ptN pt))) (by decide) rfl)
              rw [pl0_plt] at hB9
              have eI : itPlant s (r0 : Int) (c0 : Int) pt q = (0, nI (psz (ptN pt)), (plt s (ptN pt) r0 c0 q (psz (ptN pt))), 0, 0) := by simp [itPlant, hin, cl_nat, hP, hcq, hal, hft]
              rw [eI]
              exact ⟨⟨_, rfl, fun _ => rfl⟩, hB9, (pI_ne (by omega) h9), (pI_ne (by omega) h15), fun q => absurd rfl q, (hf.i1 (by omega) (by unfold PIt; omega))⟩
            · have hsh := sh_ok hp4 i (by omega)
              have hpk := of_decide_eq_true (hall i (by omega))
              refine V_aload_n (i := 0) dX11_plantIt_237 rfl rfl ?_
              refine V_getC (k := 17) (q := 55) dX11_plantIt_238 (Or.inr ⟨rfl, Nat.le_of_ble_eq_true rfl⟩) rfl rfl rfl (Nat.le_of_ble_eq_true rfl) flRX11_35 ?_
              refine V_aload_n (i := 0) dX11_plantIt_241 rfl rfl ?_
              refine V_getC (k := 18) (q := 56) dX11_plantIt_242 (Or.inr ⟨rfl, Nat.le_of_ble_eq_true rfl⟩) rfl rfl rfl (Nat.le_of_ble_eq_true rfl) flRX11_38 ?_
              refine V_iload dX11_plantIt_245 rfl ?_
              refine V_iald_n (i := (ptN pt)) dX11_plantIt_247 (Or.inr ⟨rfl, Nat.le_of_ble_eq_true rfl⟩) rfl (by omega) (by decide) ?_
              refine V_top (y := nI (sbT.getD (ptN pt) 0)) (hT.2.1 _ (by omega)) ?_
              refine V_iload dX11_plantIt_248 rfl ?_
              refine V_iadd_n dX11_plantIt_250 ?_
              refine V_iald_n (i := ((sbT.getD (ptN pt) 0) + i)) dX11_plantIt_251 (Or.inr ⟨rfl, Nat.le_of_ble_eq_true rfl⟩) rfl (by omega) (by decide) ?_
              refine V_top (y := nI (shT.getD ((sbT.getD (ptN pt) 0) + i) 0)) (hT.1 _ (by omega)) ?_
              refine V_istore dX11_plantIt_252 (Nat.le_of_ble_eq_true rfl) rfl rfl ?_
              refine V_aload_n (i := 0) dX11_plantIt_254 rfl rfl ?_
              refine V_getC (k := 0) (q := 48) dX11_plantIt_255 (Or.inr ⟨rfl, Nat.le_of_ble_eq_true rfl⟩) rfl rfl rfl (Nat.le_of_ble_eq_true rfl) flRX11_9 ?_
              refine V_bipush_n (v := 7) dX11_plantIt_258 (by decide) ?_
              refine V_iload_n (i := 1) dX11_plantIt_260 rfl rfl ?_
              refine V_iload dX11_plantIt_261 rfl ?_
              refine V_bipush_n (v := 10) dX11_plantIt_263 (by decide) ?_
              refine V_idiv_n dX11_plantIt_265 (by omega) (by omega) (by omega) ?_
              refine V_top (y := nI (pdg (ptN pt) (2 * i))) (by rw [hsh.1]) ?_
              refine V_iadd_n dX11_plantIt_266 ?_
              refine V_iload_n (i := 2) dX11_plantIt_267 rfl rfl ?_
              refine V_iload dX11_plantIt_268 rfl ?_
              refine V_bipush_n (v := 10) dX11_plantIt_270 (by decide) ?_
              refine V_irem_n dX11_plantIt_272 (by omega) (by omega) (by omega) ?_
              refine V_top (y := nI (pdg (ptN pt) (2 * i + 1))) (by rw [hsh.2.1]) ?_
              refine V_iadd_n dX11_plantIt_273 ?_
              refine V_callSF dX11_plantIt_274 (m_cellOf (r := (r0 + (pdg (ptN pt) (2 * i)))) (c := (c0 + (pdg (ptN pt) (2 * i + 1)))) (rfl) (rfl)) okX11_cellOf lkRX11_108 rfl rfl (Nat.le_of_ble_eq_true rfl) ⟨Nat.le_of_ble_eq_true rfl, Nat.le_of_ble_eq_true rfl⟩ rfl ?_
              refine V_iadd_n dX11_plantIt_277 ?_
              refine V_iload dX11_plantIt_278 rfl ?_
              refine V_iconst_n (v := 0) dX11_plantIt_280 (by decide) ?_
              refine V_callSF dX11_plantIt_281 (m_living (q := q) (g := 0) (rfl) (rfl) (by omega)) okX11_living lkRX11_135 rfl rfl (Nat.le_of_ble_eq_true rfl) ⟨Nat.le_of_ble_eq_true rfl, Nat.le_of_ble_eq_true rfl⟩ rfl ?_
              refine V_iast_n (i := (7 + (8 * (r0 + (pdg (ptN pt) (2 * i))) + (c0 + (pdg (ptN pt) (2 * i + 1)))))) dX11_plantIt_284 (Or.inr ⟨rfl, Nat.le_of_ble_eq_true rfl⟩) rfl (by omega) (by decide) ?_
              refine V_iinc_n (b := (i + 1)) dX11_plantIt_285 rfl (nI_add _ _) rfl rfl ?_
              refine V_goto (tgt := 230) dX11_plantIt_288 (by decide) ?_
              exact (ih2 (i + 1) _ (by omega) (by omega) hall hft (hB.put (k := (8 * (r0 + (pdg (ptN pt) (2 * i))) + (c0 + (pdg (ptN pt) (2 * i + 1))))) (v := (10 + 10 * (q - 97) + 0)) (by omega) (by unfold okc; omega) rfl) (hT.wr (by omega)) (pI_ne (by omega) h9) (pI_ne (by omega) h15) (hf.i1 (by omega) (by unfold PIt; omega))).sub (by repeat' (first | exact trivial | exact rfl | constructor))
        have lp1 : ∀ (fu i : Nat) , i ≤ psz (ptN pt) → psz (ptN pt) - i < fu → V 1 MX11_plantIt 4 0 0 (ItP (itPlant s (r0 : Int) (c0 : Int) pt q) w) (fun _ _ => True) 0 0 68 [some (.ref 47), some (.int (nI r0)), some (.int (nI c0)), some (.int (nI pt)), some (.int (nI q)), some (.int (nI (ptN pt))), some (.int (nI (psz (ptN pt)))), some (.int (zI (tkm s.1 (ptN pt) r0 c0 i))), some (.int (nI (if ain (ptN pt) r0 c0 i = false then 1 else 0))), some (.int (nI i)), none, none, none] [] w := by
          intro fu
          induction fu with
          | zero => intro i  h1 h2; omega
          | succ fu ih1 =>
            intro i  hib hfu
            have htk := tkm_bd (C := s.1) (p := (ptN pt)) (r := r0) (c := c0) i
            have e1 : tkm s.1 (ptN pt) r0 c0 (i + 1) = if pin (ptN pt) r0 c0 i = true ∧ s.1 (8 * (r0 + (pdg (ptN pt) (2 * i))) + (c0 + (pdg (ptN pt) (2 * i + 1)))) ≠ 0 ∧ (tkm s.1 (ptN pt) r0 c0 i = -1 ∨ (((8 * (r0 + (pdg (ptN pt) (2 * i))) + (c0 + (pdg (ptN pt) (2 * i + 1)))) : Nat) : Int) < tkm s.1 (ptN pt) r0 c0 i) then (((8 * (r0 + (pdg (ptN pt) (2 * i))) + (c0 + (pdg (ptN pt) (2 * i + 1)))) : Nat) : Int) else tkm s.1 (ptN pt) r0 c0 i := rfl
            refine V_iload dX11_plantIt_68 rfl ?_
            refine V_iload dX11_plantIt_70 rfl ?_
            refine V_icmp_ge_n (tgt := 198) dX11_plantIt_72 (by decide) (by omega) (by omega) (fun h72 => ?_) (fun h72 => ?_)
            · have ei : i = psz (ptN pt) := by omega
              subst ei
              refine V_iload dX11_plantIt_198 rfl ?_
              refine V_if_eq_n (tgt := 212) dX11_plantIt_200 (by decide) (Nat.lt_of_lt_of_le ite_le (by decide)) (fun h200 => ?_) (fun h200 => ?_)
              · have hi200 := ite_f h200
                refine V_iload dX11_plantIt_212 rfl ?_
                refine V_iconst_z (v := -1) dX11_plantIt_214 (by decide) ?_
                refine V_icmp_eq_z (tgt := 227) dX11_plantIt_215 (by decide) rfl rfl (by omega) (by omega) (by omega) (by omega) (fun h215 => ?_) (fun h215 => ?_)
                · have hall : ∀ k, k < psz (ptN pt) → pin (ptN pt) r0 c0 k = true := allin_iff.mp (by rw [ain_all]; cases e : ain (ptN pt) r0 c0 (psz (ptN pt)) with
                    | true => rfl
                    | false => exact absurd e hi200)
                  have hfe := tkm_end (C := s.1) hp4 hall
                  have hft : ¬ 0 ≤ fti s.1 (ptN pt) r0 c0 := by omega
                  refine V_iconst_n (v := 0) dX11_plantIt_227 (by decide) ?_
                  refine V_istore dX11_plantIt_228 (Nat.le_of_ble_eq_true rfl) rfl rfl ?_
                  exact (lp2 (psz (ptN pt) + 1) 0 w (by omega) (by omega) hall hft hM hT h9 h15 Fz.nil).sub (by repeat' (first | exact trivial | exact rfl | constructor))
                · have hall : ∀ k, k < psz (ptN pt) → pin (ptN pt) r0 c0 k = true := allin_iff.mp (by rw [ain_all]; cases e : ain (ptN pt) r0 c0 (psz (ptN pt)) with
                    | true => rfl
                    | false => exact absurd e hi200)
                  have hal : allin (ptN pt) r0 c0 = true := allin_iff.mpr hall
                  have hfe := tkm_end (C := s.1) hp4 hall
                  have hft : 0 ≤ fti s.1 (ptN pt) r0 c0 := by omega
                  refine V_aload_n (i := 0) dX11_plantIt_218 rfl rfl ?_
                  refine V_iconst_n (v := 3) dX11_plantIt_219 (by decide) ?_
                  refine V_iconst_n (v := 1) dX11_plantIt_220 (by decide) ?_
                  refine V_iload dX11_plantIt_221 rfl ?_
                  refine V_callVM dX11_plantIt_223 (m_rejecting (w := _) (n := 3) (y := 1) (x := zI (tkm s.1 (ptN pt) r0 c0 (psz (ptN pt))))) okX11_rejecting lkRX11_131 (Or.inr ⟨rfl, Nat.le_of_ble_eq_true rfl⟩) rfl rfl rfl rfl (Nat.le_of_ble_eq_true rfl) ⟨Nat.le_of_ble_eq_true rfl, Nat.le_of_ble_eq_true rfl⟩ rfl ?_
                  intro u1 hu1
                  refine V_iret dX11_plantIt_226 rfl rfl ?_
                  have eI : itPlant s (r0 : Int) (c0 : Int) pt q = (3, 0, s, 1, zI (tkm s.1 (ptN pt) r0 c0 (psz (ptN pt)))) := by simp [itPlant, hin, cl_nat, hP, hcq, hal, hft, hfe]
                  rw [eI]
                  exact ⟨⟨_, rfl, fun q => by simp at q⟩, (hM.keep hu1.2.2.2 (fun k _ => by omega)), hu1.1, hu1.2.1, fun _ => hu1.2.2.1, ((Fz.nil (P := PIt)).trans (hu1.2.2.2.mono (fun b j q => by unfold PIt; omega)))⟩
              · have hi200 := ite_t h200
                have hal : allin (ptN pt) r0 c0 = false := hi200
                refine V_aload_n (i := 0) dX11_plantIt_203 rfl rfl ?_
                refine V_iconst_n (v := 3) dX11_plantIt_204 (by decide) ?_
                refine V_iconst_n (v := 4) dX11_plantIt_205 (by decide) ?_
                refine V_iload dX11_plantIt_206 rfl ?_
                refine V_callVM dX11_plantIt_208 (m_rejecting (w := _) (n := 3) (y := 4) (x := nI (psz (ptN pt)))) okX11_rejecting lkRX11_131 (Or.inr ⟨rfl, Nat.le_of_ble_eq_true rfl⟩) rfl rfl rfl rfl (Nat.le_of_ble_eq_true rfl) ⟨Nat.le_of_ble_eq_true rfl, Nat.le_of_ble_eq_true rfl⟩ rfl ?_
                intro u1 hu1
                refine V_iret dX11_plantIt_211 rfl rfl ?_
                have eI : itPlant s (r0 : Int) (c0 : Int) pt q = (3, 0, s, 4, nI (psz (ptN pt))) := by simp [itPlant, hin, cl_nat, hP, hcq, hal]
                rw [eI]
                exact ⟨⟨_, rfl, fun q => by simp at q⟩, (hM.keep hu1.2.2.2 (fun k _ => by omega)), hu1.1, hu1.2.1, fun _ => hu1.2.2.1, ((Fz.nil (P := PIt)).trans (hu1.2.2.2.mono (fun b j q => by unfold PIt; omega)))⟩
            · have hsh := sh_ok hp4 i (by omega)
              refine V_aload_n (i := 0) dX11_plantIt_75 rfl rfl ?_
              refine V_getC (k := 17) (q := 55) dX11_plantIt_76 (Or.inr ⟨rfl, Nat.le_of_ble_eq_true rfl⟩) rfl rfl rfl (Nat.le_of_ble_eq_true rfl) flRX11_35 ?_
              refine V_aload_n (i := 0) dX11_plantIt_79 rfl rfl ?_
              refine V_getC (k := 18) (q := 56) dX11_plantIt_80 (Or.inr ⟨rfl, Nat.le_of_ble_eq_true rfl⟩) rfl rfl rfl (Nat.le_of_ble_eq_true rfl) flRX11_38 ?_
              refine V_iload dX11_plantIt_83 rfl ?_
              refine V_iald_n (i := (ptN pt)) dX11_plantIt_85 (Or.inr ⟨rfl, Nat.le_of_ble_eq_true rfl⟩) rfl (by omega) (by decide) ?_
              refine V_top (y := nI (sbT.getD (ptN pt) 0)) (hT.2.1 _ (by omega)) ?_
              refine V_iload dX11_plantIt_86 rfl ?_
              refine V_iadd_n dX11_plantIt_88 ?_
              refine V_iald_n (i := ((sbT.getD (ptN pt) 0) + i)) dX11_plantIt_89 (Or.inr ⟨rfl, Nat.le_of_ble_eq_true rfl⟩) rfl (by omega) (by decide) ?_
              refine V_top (y := nI (shT.getD ((sbT.getD (ptN pt) 0) + i) 0)) (hT.1 _ (by omega)) ?_
              refine V_istore dX11_plantIt_90 (Nat.le_of_ble_eq_true rfl) rfl rfl ?_
              refine V_iload_n (i := 1) dX11_plantIt_92 rfl rfl ?_
              refine V_iload dX11_plantIt_93 rfl ?_
              refine V_bipush_n (v := 10) dX11_plantIt_95 (by decide) ?_
              refine V_idiv_n dX11_plantIt_97 (by omega) (by omega) (by omega) ?_
              refine V_top (y := nI (pdg (ptN pt) (2 * i))) (by rw [hsh.1]) ?_
              refine V_iadd_n dX11_plantIt_98 ?_
              refine V_iload_n (i := 2) dX11_plantIt_99 rfl rfl ?_
              refine V_iload dX11_plantIt_100 rfl ?_
              refine V_bipush_n (v := 10) dX11_plantIt_102 (by decide) ?_
              refine V_irem_n dX11_plantIt_104 (by omega) (by omega) (by omega) ?_
              refine V_top (y := nI (pdg (ptN pt) (2 * i + 1))) (by rw [hsh.2.1]) ?_
              refine V_iadd_n dX11_plantIt_105 ?_
              refine V_callSF dX11_plantIt_106 (m_isCell (r := (((r0 + (pdg (ptN pt) (2 * i))) : Nat) : Int)) (c := (((c0 + (pdg (ptN pt) (2 * i + 1))) : Nat) : Int)) (zI_n _) (zI_n _) (by omega) (by omega) (by omega) (by omega)) okX11_isCell lkRX11_104 rfl rfl (Nat.le_of_ble_eq_true rfl) ⟨Nat.le_of_ble_eq_true rfl, Nat.le_of_ble_eq_true rfl⟩ rfl ?_
              refine V_top (y := nI (if pin (ptN pt) r0 c0 i = true then 1 else 0)) (by rw [pin_if]) ?_
              refine V_istore dX11_plantIt_109 (Nat.le_of_ble_eq_true rfl) rfl rfl ?_
              by_cases hpi : pin (ptN pt) r0 c0 i = true
              · rw [if_pos hpi]
                have e2 : ain (ptN pt) r0 c0 (i + 1) = ain (ptN pt) r0 c0 i := by rw [ain_s, hpi, Bool.and_true]
                have hpk := of_decide_eq_true hpi
                refine V_iload dX11_plantIt_111 rfl ?_
                refine V_if_ne_n (tgt := 121) dX11_plantIt_113 (by decide) (Nat.lt_of_lt_of_le ite_le (by decide)) (fun h113 => ?_) (fun h113 => ?_)
                · have hi113 := ite_t h113
                  refine V_iconst_n (v := 1) dX11_plantIt_121 (by decide) ?_
                  refine V_goto (tgt := 126) dX11_plantIt_122 (by decide) ?_
                  refine V_istore dX11_plantIt_126 (Nat.le_of_ble_eq_true rfl) rfl rfl ?_
                  refine V_iload dX11_plantIt_128 rfl ?_
                  refine V_if_eq_n (tgt := 153) dX11_plantIt_130 (by decide) (by omega) (fun h130 => by exfalso; omega) (fun h130 => ?_)
                  refine V_iload_n (i := 1) dX11_plantIt_133 rfl rfl ?_
                  refine V_iload dX11_plantIt_134 rfl ?_
                  refine V_bipush_n (v := 10) dX11_plantIt_136 (by decide) ?_
                  refine V_idiv_n dX11_plantIt_138 (by omega) (by omega) (by omega) ?_
                  refine V_top (y := nI (pdg (ptN pt) (2 * i))) (by rw [hsh.1]) ?_
                  refine V_iadd_n dX11_plantIt_139 ?_
                  refine V_iload_n (i := 2) dX11_plantIt_140 rfl rfl ?_
                  refine V_iload dX11_plantIt_141 rfl ?_
                  refine V_bipush_n (v := 10) dX11_plantIt_143 (by decide) ?_
                  refine V_irem_n dX11_plantIt_145 (by omega) (by omega) (by omega) ?_
                  refine V_top (y := nI (pdg (ptN pt) (2 * i + 1))) (by rw [hsh.2.1]) ?_
                  refine V_iadd_n dX11_plantIt_146 ?_
                  refine V_callSF dX11_plantIt_147 (m_cellOf (r := (r0 + (pdg (ptN pt) (2 * i)))) (c := (c0 + (pdg (ptN pt) (2 * i + 1)))) (rfl) (rfl)) okX11_cellOf lkRX11_108 rfl rfl (Nat.le_of_ble_eq_true rfl) ⟨Nat.le_of_ble_eq_true rfl, Nat.le_of_ble_eq_true rfl⟩ rfl ?_
                  refine V_goto (tgt := 154) dX11_plantIt_150 (by decide) ?_
                  refine V_istore dX11_plantIt_154 (Nat.le_of_ble_eq_true rfl) rfl rfl ?_
                  refine V_iload dX11_plantIt_156 rfl ?_
                  refine V_if_eq_n (tgt := 188) dX11_plantIt_158 (by decide) (by omega) (fun h158 => by exfalso; omega) (fun h158 => ?_)
                  refine V_aload_n (i := 0) dX11_plantIt_161 rfl rfl ?_
                  refine V_iload dX11_plantIt_162 rfl ?_
                  have hv39 := hM.1.1 ((8 * (r0 + (pdg (ptN pt) (2 * i))) + (c0 + (pdg (ptN pt) (2 * i + 1))))) (by omega)
                  unfold okc at hv39
                  refine V_callVF dX11_plantIt_164 (m_at hM (k := (8 * (r0 + (pdg (ptN pt) (2 * i))) + (c0 + (pdg (ptN pt) (2 * i + 1))))) (by omega)) okX11_at lkRX11_101 (Or.inr ⟨rfl, Nat.le_of_ble_eq_true rfl⟩) rfl rfl rfl rfl (Nat.le_of_ble_eq_true rfl) ⟨Nat.le_of_ble_eq_true rfl, Nat.le_of_ble_eq_true rfl⟩ rfl ?_
                  refine V_if_eq_n (tgt := 188) dX11_plantIt_167 (by decide) (by omega) (fun h167 => ?_) (fun h167 => ?_)
                  · rw [if_neg (fun z => z.2.1 h167)] at e1
                    refine V_iload dX11_plantIt_188 rfl ?_
                    refine V_istore dX11_plantIt_190 (Nat.le_of_ble_eq_true rfl) rfl rfl ?_
                    refine V_iinc_n (b := (i + 1)) dX11_plantIt_192 rfl (nI_add _ _) rfl rfl ?_
                    refine V_goto (tgt := 68) dX11_plantIt_195 (by decide) ?_
                    have k9 := ih1 (i + 1) (by omega) (by omega)
                    rw [e1, e2, if_pos hi113] at k9
                    exact k9.sub (by repeat' (first | exact trivial | exact rfl | constructor))
                  · refine V_iload dX11_plantIt_170 rfl ?_
                    refine V_iconst_z (v := -1) dX11_plantIt_172 (by decide) ?_
                    refine V_icmp_eq_z (tgt := 183) dX11_plantIt_173 (by decide) rfl rfl (by omega) (by omega) (by omega) (by omega) (fun h173 => ?_) (fun h173 => ?_)
                    · rw [if_pos ⟨hpi, h167, Or.inl h173⟩] at e1
                      refine V_iload dX11_plantIt_183 rfl ?_
                      refine V_goto (tgt := 190) dX11_plantIt_185 (by decide) ?_
                      refine V_istore dX11_plantIt_190 (Nat.le_of_ble_eq_true rfl) rfl rfl ?_
                      refine V_iinc_n (b := (i + 1)) dX11_plantIt_192 rfl (nI_add _ _) rfl rfl ?_
                      refine V_goto (tgt := 68) dX11_plantIt_195 (by decide) ?_
                      have k9 := ih1 (i + 1) (by omega) (by omega)
                      rw [e1, e2, if_pos hi113, ← zI_n] at k9
                      exact k9.sub (by repeat' (first | exact trivial | exact rfl | constructor))
                    · refine V_iload dX11_plantIt_176 rfl ?_
                      refine V_iload dX11_plantIt_178 rfl ?_
                      refine V_icmp_ge_z (tgt := 188) dX11_plantIt_180 (by decide) (zI_n _) rfl (by omega) (by omega) (by omega) (by omega) (fun h180 => ?_) (fun h180 => ?_)
                      · rw [if_neg (fun z => by rcases z.2.2 with q9 | q9 <;> omega)] at e1
                        refine V_iload dX11_plantIt_188 rfl ?_
                        refine V_istore dX11_plantIt_190 (Nat.le_of_ble_eq_true rfl) rfl rfl ?_
                        refine V_iinc_n (b := (i + 1)) dX11_plantIt_192 rfl (nI_add _ _) rfl rfl ?_
                        refine V_goto (tgt := 68) dX11_plantIt_195 (by decide) ?_
                        have k9 := ih1 (i + 1) (by omega) (by omega)
                        rw [e1, e2, if_pos hi113] at k9
                        exact k9.sub (by repeat' (first | exact trivial | exact rfl | constructor))
                      · rw [if_pos ⟨hpi, h167, Or.inr (by omega)⟩] at e1
                        refine V_iload dX11_plantIt_183 rfl ?_
                        refine V_goto (tgt := 190) dX11_plantIt_185 (by decide) ?_
                        refine V_istore dX11_plantIt_190 (Nat.le_of_ble_eq_true rfl) rfl rfl ?_
                        refine V_iinc_n (b := (i + 1)) dX11_plantIt_192 rfl (nI_add _ _) rfl rfl ?_
                        refine V_goto (tgt := 68) dX11_plantIt_195 (by decide) ?_
                        have k9 := ih1 (i + 1) (by omega) (by omega)
                        rw [e1, e2, if_pos hi113, ← zI_n] at k9
                        exact k9.sub (by repeat' (first | exact trivial | exact rfl | constructor))
                · have hi113 := ite_f h113
                  refine V_iload dX11_plantIt_116 rfl ?_
                  refine V_if_ne_n (tgt := 125) dX11_plantIt_118 (by decide) (by omega) (fun h118 => ?_) (fun h118 => by exfalso; omega)
                  refine V_iconst_n (v := 0) dX11_plantIt_125 (by decide) ?_
                  refine V_istore dX11_plantIt_126 (Nat.le_of_ble_eq_true rfl) rfl rfl ?_
                  refine V_iload dX11_plantIt_128 rfl ?_
                  refine V_if_eq_n (tgt := 153) dX11_plantIt_130 (by decide) (by omega) (fun h130 => by exfalso; omega) (fun h130 => ?_)
                  refine V_iload_n (i := 1) dX11_plantIt_133 rfl rfl ?_
                  refine V_iload dX11_plantIt_134 rfl ?_
                  refine V_bipush_n (v := 10) dX11_plantIt_136 (by decide) ?_
                  refine V_idiv_n dX11_plantIt_138 (by omega) (by omega) (by omega) ?_
                  refine V_top (y := nI (pdg (ptN pt) (2 * i))) (by rw [hsh.1]) ?_
                  refine V_iadd_n dX11_plantIt_139 ?_
                  refine V_iload_n (i := 2) dX11_plantIt_140 rfl rfl ?_
                  refine V_iload dX11_plantIt_141 rfl ?_
                  refine V_bipush_n (v := 10) dX11_plantIt_143 (by decide) ?_
                  refine V_irem_n dX11_plantIt_145 (by omega) (by omega) (by omega) ?_
                  refine V_top (y := nI (pdg (ptN pt) (2 * i + 1))) (by rw [hsh.2.1]) ?_
                  refine V_iadd_n dX11_plantIt_146 ?_
                  refine V_callSF dX11_plantIt_147 (m_cellOf (r := (r0 + (pdg (ptN pt) (2 * i)))) (c := (c0 + (pdg (ptN pt) (2 * i + 1)))) (rfl) (rfl)) okX11_cellOf lkRX11_108 rfl rfl (Nat.le_of_ble_eq_true rfl) ⟨Nat.le_of_ble_eq_true rfl, Nat.le_of_ble_eq_true rfl⟩ rfl ?_
                  refine V_goto (tgt := 154) dX11_plantIt_150 (by decide) ?_
                  refine V_istore dX11_plantIt_154 (Nat.le_of_ble_eq_true rfl) rfl rfl ?_
                  refine V_iload dX11_plantIt_156 rfl ?_
                  refine V_if_eq_n (tgt := 188) dX11_plantIt_158 (by decide) (by omega) (fun h158 => by exfalso; omega) (fun h158 => ?_)
                  refine V_aload_n (i := 0) dX11_plantIt_161 rfl rfl ?_
                  refine V_iload dX11_plantIt_162 rfl ?_
                  have hv40 := hM.1.1 ((8 * (r0 + (pdg (ptN pt) (2 * i))) + (c0 + (pdg (ptN pt) (2 * i + 1))))) (by omega)
                  unfold okc at hv40
                  refine V_callVF dX11_plantIt_164 (m_at hM (k := (8 * (r0 + (pdg (ptN pt) (2 * i))) + (c0 + (pdg (ptN pt) (2 * i + 1))))) (by omega)) okX11_at lkRX11_101 (Or.inr ⟨rfl, Nat.le_of_ble_eq_true rfl⟩) rfl rfl rfl rfl (Nat.le_of_ble_eq_true rfl) ⟨Nat.le_of_ble_eq_true rfl, Nat.le_of_ble_eq_true rfl⟩ rfl ?_
                  refine V_if_eq_n (tgt := 188) dX11_plantIt_167 (by decide) (by omega) (fun h167 => ?_) (fun h167 => ?_)
                  · rw [if_neg (fun z => z.2.1 h167)] at e1
                    refine V_iload dX11_plantIt_188 rfl ?_
                    refine V_istore dX11_plantIt_190 (Nat.le_of_ble_eq_true rfl) rfl rfl ?_
                    refine V_iinc_n (b := (i + 1)) dX11_plantIt_192 rfl (nI_add _ _) rfl rfl ?_
                    refine V_goto (tgt := 68) dX11_plantIt_195 (by decide) ?_
                    have k9 := ih1 (i + 1) (by omega) (by omega)
                    rw [e1, e2, if_neg hi113] at k9
                    exact k9.sub (by repeat' (first | exact trivial | exact rfl | constructor))
                  · refine V_iload dX11_plantIt_170 rfl ?_
                    refine V_iconst_z (v := -1) dX11_plantIt_172 (by decide) ?_
                    refine V_icmp_eq_z (tgt := 183) dX11_plantIt_173 (by decide) rfl rfl (by omega) (by omega) (by omega) (by omega) (fun h173 => ?_) (fun h173 => ?_)
                    · rw [if_pos ⟨hpi, h167, Or.inl h173⟩] at e1
                      refine V_iload dX11_plantIt_183 rfl ?_
                      refine V_goto (tgt := 190) dX11_plantIt_185 (by decide) ?_
                      refine V_istore dX11_plantIt_190 (Nat.le_of_ble_eq_true rfl) rfl rfl ?_
                      refine V_iinc_n (b := (i + 1)) dX11_plantIt_192 rfl (nI_add _ _) rfl rfl ?_
                      refine V_goto (tgt := 68) dX11_plantIt_195 (by decide) ?_
                      have k9 := ih1 (i + 1) (by omega) (by omega)
                      rw [e1, e2, if_neg hi113, ← zI_n] at k9
                      exact k9.sub (by repeat' (first | exact trivial | exact rfl | constructor))
                    · refine V_iload dX11_plantIt_176 rfl ?_
                      refine V_iload dX11_plantIt_178 rfl ?_
                      refine V_icmp_ge_z (tgt := 188) dX11_plantIt_180 (by decide) (zI_n _) rfl (by omega) (by omega) (by omega) (by omega) (fun h180 => ?_) (fun h180 => ?_)
                      · rw [if_neg (fun z => by rcases z.2.2 with q9 | q9 <;> omega)] at e1
                        refine V_iload dX11_plantIt_188 rfl ?_
                        refine V_istore dX11_plantIt_190 (Nat.le_of_ble_eq_true rfl) rfl rfl ?_
                        refine V_iinc_n (b := (i + 1)) dX11_plantIt_192 rfl (nI_add _ _) rfl rfl ?_
                        refine V_goto (tgt := 68) dX11_plantIt_195 (by decide) ?_
                        have k9 := ih1 (i + 1) (by omega) (by omega)
                        rw [e1, e2, if_neg hi113] at k9
                        exact k9.sub (by repeat' (first | exact trivial | exact rfl | constructor))
                      · rw [if_pos ⟨hpi, h167, Or.inr (by omega)⟩] at e1
                        refine V_iload dX11_plantIt_183 rfl ?_
                        refine V_goto (tgt := 190) dX11_plantIt_185 (by decide) ?_
                        refine V_istore dX11_plantIt_190 (Nat.le_of_ble_eq_true rfl) rfl rfl ?_
                        refine V_iinc_n (b := (i + 1)) dX11_plantIt_192 rfl (nI_add _ _) rfl rfl ?_
                        refine V_goto (tgt := 68) dX11_plantIt_195 (by decide) ?_
                        have k9 := ih1 (i + 1) (by omega) (by omega)
                        rw [e1, e2, if_neg hi113, ← zI_n] at k9
                        exact k9.sub (by repeat' (first | exact trivial | exact rfl | constructor))
              · rw [if_neg hpi]
                have e2 : ain (ptN pt) r0 c0 (i + 1) = false := by rw [ain_s, Bool.eq_false_iff.mpr hpi, Bool.and_false]
                rw [if_neg (fun z => hpi z.1)] at e1
                refine V_iload dX11_plantIt_111 rfl ?_
                refine V_if_ne_n (tgt := 121) dX11_plantIt_113 (by decide) (Nat.lt_of_lt_of_le ite_le (by decide)) (fun h113 => ?_) (fun h113 => ?_)
                · have hi113 := ite_t h113
                  refine V_iconst_n (v := 1) dX11_plantIt_121 (by decide) ?_
                  refine V_goto (tgt := 126) dX11_plantIt_122 (by decide) ?_
                  refine V_istore dX11_plantIt_126 (Nat.le_of_ble_eq_true rfl) rfl rfl ?_
                  refine V_iload dX11_plantIt_128 rfl ?_
                  refine V_if_eq_n (tgt := 153) dX11_plantIt_130 (by decide) (by omega) (fun h130 => ?_) (fun h130 => by exfalso; omega)
                  refine V_iconst_n (v := 0) dX11_plantIt_153 (by decide) ?_
                  refine V_istore dX11_plantIt_154 (Nat.le_of_ble_eq_true rfl) rfl rfl ?_
                  refine V_iload dX11_plantIt_156 rfl ?_
                  refine V_if_eq_n (tgt := 188) dX11_plantIt_158 (by decide) (by omega) (fun h158 => ?_) (fun h158 => by exfalso; omega)
                  refine V_iload dX11_plantIt_188 rfl ?_
                  refine V_istore dX11_plantIt_190 (Nat.le_of_ble_eq_true rfl) rfl rfl ?_
                  refine V_iinc_n (b := (i + 1)) dX11_plantIt_192 rfl (nI_add _ _) rfl rfl ?_
                  refine V_goto (tgt := 68) dX11_plantIt_195 (by decide) ?_
                  have k9 := ih1 (i + 1) (by omega) (by omega)
                  rw [e1, e2, if_pos rfl] at k9
                  exact k9.sub (by repeat' (first | exact trivial | exact rfl | constructor))
                · have hi113 := ite_f h113
                  refine V_iload dX11_plantIt_116 rfl ?_
                  refine V_if_ne_n (tgt := 125) dX11_plantIt_118 (by decide) (by omega) (fun h118 => by exfalso; omega) (fun h118 => ?_)
                  refine V_iconst_n (v := 1) dX11_plantIt_121 (by decide) ?_
                  refine V_goto (tgt := 126) dX11_plantIt_122 (by decide) ?_
                  refine V_istore dX11_plantIt_126 (Nat.le_of_ble_eq_true rfl) rfl rfl ?_
                  refine V_iload dX11_plantIt_128 rfl ?_
                  refine V_if_eq_n (tgt := 153) dX11_plantIt_130 (by decide) (by omega) (fun h130 => ?_) (fun h130 => by exfalso; omega)
                  refine V_iconst_n (v := 0) dX11_plantIt_153 (by decide) ?_
                  refine V_istore dX11_plantIt_154 (Nat.le_of_ble_eq_true rfl) rfl rfl ?_
                  refine V_iload dX11_plantIt_156 rfl ?_
                  refine V_if_eq_n (tgt := 188) dX11_plantIt_158 (by decide) (by omega) (fun h158 => ?_) (fun h158 => by exfalso; omega)
                  refine V_iload dX11_plantIt_188 rfl ?_
                  refine V_istore dX11_plantIt_190 (Nat.le_of_ble_eq_true rfl) rfl rfl ?_
                  refine V_iinc_n (b := (i + 1)) dX11_plantIt_192 rfl (nI_add _ _) rfl rfl ?_
                  refine V_goto (tgt := 68) dX11_plantIt_195 (by decide) ?_
                  have k9 := ih1 (i + 1) (by omega) (by omega)
                  rw [e1, e2, if_pos rfl] at k9
                  exact k9.sub (by repeat' (first | exact trivial | exact rfl | constructor))
        exact (lp1 (psz (ptN pt) + 1) 0 (by omega) (by omega)).sub (by repeat' (first | exact trivial | exact rfl | constructor))
      · have hi31 := ite_f h31
        have hcq : isC q = false := Bool.eq_false_iff.mpr (fun z => by have := isC_iff.mp z; omega)
        have hP : isP pt = true := by
          cases e : isP pt with
          | true => rfl
          | false => exact absurd (ptZ_no e) (by omega)
        refine V_aload_n (i := 0) dX11_plantIt_34 rfl rfl ?_
        refine V_iconst_n (v := 2) dX11_plantIt_35 (by decide) ?_
        refine V_callVM dX11_plantIt_36 (m_throwing (w := _) (n := 2)) okX11_throwing lkRX11_75 (Or.inr ⟨rfl, Nat.le_of_ble_eq_true rfl⟩) rfl rfl rfl rfl (Nat.le_of_ble_eq_true rfl) ⟨Nat.le_of_ble_eq_true rfl, Nat.le_of_ble_eq_true rfl⟩ rfl ?_
        intro u1 hu1
        refine V_iret dX11_plantIt_39 rfl rfl ?_
        have eI : itPlant s (r0 : Int) (c0 : Int) pt q = (2, 0, s, 0, 0) := by simp [itPlant, hin, hP, hcq]
        rw [eI]
        exact ⟨⟨_, rfl, fun q => by simp at q⟩, (hM.keep hu1.2 (fun k _ => by omega)), hu1.1, ((hu1.2.gi (by omega)).trans h15), fun q => absurd rfl q, ((Fz.nil (P := PIt)).trans (hu1.2.mono (fun b j q => by unfold PIt; omega)))⟩
  · have hi5 := ite_f h5
    have hin : ins r c = false := Bool.eq_false_iff.mpr (fun q => hi5 (ins_iff.mp q))
    refine V_aload_n (i := 0) dX11_plantIt_8 rfl rfl ?_
    refine V_iconst_n (v := 1) dX11_plantIt_9 (by decide) ?_
    refine V_callVM dX11_plantIt_10 (m_throwing (w := _) (n := 1)) okX11_throwing lkRX11_75 (Or.inr ⟨rfl, Nat.le_of_ble_eq_true rfl⟩) rfl rfl rfl rfl (Nat.le_of_ble_eq_true rfl) ⟨Nat.le_of_ble_eq_true rfl, Nat.le_of_ble_eq_true rfl⟩ rfl ?_
    intro u1 hu1
    refine V_iret dX11_plantIt_13 rfl rfl ?_
    have eI : itPlant s r c pt q = (1, 0, s, 0, 0) := by simp [itPlant, hin]
    rw [eI]
    exact ⟨⟨_, rfl, fun q => by simp at q⟩, (hM.keep hu1.2 (fun k _ => by omega)), hu1.1, ((hu1.2.gi (by omega)).trans h15), fun q => absurd rfl q, ((Fz.nil (P := PIt)).trans (hu1.2.mono (fun b j q => by unfold PIt; omega)))⟩
end MCHG
