/-! THE HISTORY, THE OUTPUT. Printed by wip/whole/gen/mk17.py. -/
section MHIST
/-- the history: the next slot, how many are kept, what the ring holds -/
def HistI (w : Wd) (nx sz : Nat) (f : Nat → St) : Prop := nx < 8 ∧ sz ≤ 8 ∧ gI w 10 1 = nI nx ∧ gI w 10 2 = nI sz ∧ (∀ j, j < 8 → gR w 11 j = some (12 + 3 * j)) ∧ ∀ j, j < 8 → Repr w (12 + 3 * j) (f j)
theorem st_sl {j : Nat} (h : j < 8) : IsSt (12 + 3 * j) := (by decide : ∀ j < 8, 12 + 3 * j ∈ stL) j h
theorem HistI.set {w : Wd} {nx sz nx1 sz1 : Nat} {f : Nat → St} (h : HistI w nx sz f) (h1 : nx1 < 8) (h2 : sz1 ≤ 8) : HistI (pI (pI w 10 1 (nI nx1)) 10 2 (nI sz1)) nx1 sz1 f :=
  ⟨h1, h2, pI_ne (by omega) pI_at, pI_at, h.2.2.2.2.1, fun j hj => (h.2.2.2.2.2 j hj).keep (P := fun b => b = 10) ((Fr.nil.i1 (by rfl)).i1 (by rfl)) (by show ¬ _ = 10; omega) (by show ¬ _ = 10; omega) (by show ¬ _ = 10; omega)⟩
theorem HistI.slot {w u : Wd} {nx sz k : Nat} {f : Nat → St} {s : St} (h : HistI w nx sz f) (hk : k < 8) (hA : Repr u (12 + 3 * k) s) (hF : FrS (12 + 3 * k) w u) : HistI u nx sz (fun j => if j = k then s else f j) :=
  ⟨h.1, h.2.1, by rw [hF.gi (by unfold InSt; omega)]; exact h.2.2.1, by rw [hF.gi (by unfold InSt; omega)]; exact h.2.2.2.1, fun j hj => by rw [hF.gr (by unfold InSt; omega)]; exact h.2.2.2.2.1 j hj, fun j hj => by
    show Repr u (12 + 3 * j) (if j = k then s else f j)
    by_cases e : j = k
    · subst e; rw [if_pos rfl]; exact hA
    · rw [if_neg e]; exact (h.2.2.2.2.2 j hj).keepS (st_sl hk) (by omega) hF⟩
theorem HistI.keep {w u : Wd} {nx sz : Nat} {f : Nat → St} {P : Nat → Prop} (h : HistI w nx sz f) (hF : Fr P w u) (hP : ∀ b, 10 ≤ b → b ≤ 35 → ¬ P b) : HistI u nx sz f :=
  ⟨h.1, h.2.1, by rw [hF.gi (hP _ (by omega) (by omega))]; exact h.2.2.1, by rw [hF.gi (hP _ (by omega) (by omega))]; exact h.2.2.2.1, fun j hj => by rw [hF.gr (hP _ (by omega) (by omega))]; exact h.2.2.2.2.1 j hj, fun j hj => (h.2.2.2.2.2 j hj).keep hF (hP _ (by omega) (by omega)) (hP _ (by omega) (by omega)) (hP _ (by omega) (by omega))⟩
def InH (b : Nat) : Prop := 10 ≤ b ∧ b ≤ 35
set_option maxRecDepth 100000 in
set_option maxHeartbeats 1000000 in
theorem c_nextSlot {nx sz : Nat} {f : Nat → St} {w : Wd} (hH : HistI w nx sz f) : Ct 1 MX2_nextSlot 1 0 0 [.ref 10] w (Rt (some (.ref (12 + 3 * nx))) w) := by
  refine Ct_of (by decide +kernel) rfl (Nat.le_of_ble_eq_true rfl) rfl ?_
  have hnx := hH.1
  refine V_aload_n (i := 0) dX2_nextSlot_0 rfl rfl ?_
  refine V_getI (k := 1) dX2_nextSlot_1 (Or.inr ⟨rfl, Nat.le_of_ble_eq_true rfl⟩) rfl rfl rfl (Nat.le_of_ble_eq_true rfl) flRX2_17 ?_
  refine V_top (y := nI nx) hH.2.2.1 ?_
  refine V_if_lt_n (tgt := 28) dX2_nextSlot_4 (by decide) (by omega) ?_
  refine V_aload_n (i := 0) dX2_nextSlot_7 rfl rfl ?_
  refine V_getI (k := 1) dX2_nextSlot_8 (Or.inr ⟨rfl, Nat.le_of_ble_eq_true rfl⟩) rfl rfl rfl (Nat.le_of_ble_eq_true rfl) flRX2_17 ?_
  refine V_top (y := nI nx) hH.2.2.1 ?_
  refine V_bipush_n (v := 8) dX2_nextSlot_11 (by decide) ?_
  refine V_icmp_ge_n (tgt := 28) dX2_nextSlot_13 (by decide) (by omega) (by omega) (fun h13 => by exfalso; omega) (fun h13 => ?_)
  refine V_aload_n (i := 0) dX2_nextSlot_16 rfl rfl ?_
  refine V_getC (k := 0) (q := 11) dX2_nextSlot_17 (Or.inr ⟨rfl, Nat.le_of_ble_eq_true rfl⟩) rfl rfl rfl (Nat.le_of_ble_eq_true rfl) flRX2_11 ?_
  refine V_aload_n (i := 0) dX2_nextSlot_20 rfl rfl ?_
  refine V_getI (k := 1) dX2_nextSlot_21 (Or.inr ⟨rfl, Nat.le_of_ble_eq_true rfl⟩) rfl rfl rfl (Nat.le_of_ble_eq_true rfl) flRX2_17 ?_
  refine V_top (y := nI nx) hH.2.2.1 ?_
  refine V_rald dX2_nextSlot_24 (Or.inr ⟨rfl, Nat.le_of_ble_eq_true rfl⟩) rfl (by omega) (by decide) (hH.2.2.2.2.1 nx hH.1) ?_
  refine V_goto (tgt := 29) dX2_nextSlot_25 (by decide) ?_
  refine V_aret dX2_nextSlot_29 rfl ?_
  exact ⟨rfl, rfl⟩
set_option maxRecDepth 100000 in
set_option maxHeartbeats 1000000 in
theorem c_keep {a : Nat} {s : St} {nx sz : Nat} {f : Nat → St} {w : Wd} (hH : HistI w nx sz f) (hR : Repr w a s) (hfar : a + 2 < 10 ∨ 35 < a) : Ct 1 MX2_keep 3 0 0 [.ref 10, .ref a] w (Mt none fun w1 => HistI w1 (if nx < 7 then nx + 1 else 0) (min (sz + 1) 8) (fun j => if j = nx then s else f j) ∧ Fr InH w w1) := by
  refine Ct_of (by decide +kernel) rfl (Nat.le_of_ble_eq_true rfl) rfl ?_
  have hnx := hH.1
  have hsz := hH.2.1
  refine V_aload_n (i := 0) dX2_keep_0 rfl rfl ?_
  refine V_callVF dX2_keep_1 (c_nextSlot hH) okX2_nextSlot lkRX2_25 (Or.inr ⟨rfl, Nat.le_of_ble_eq_true rfl⟩) rfl rfl rfl rfl (Nat.le_of_ble_eq_true rfl) ⟨Nat.le_of_ble_eq_true rfl, Nat.le_of_ble_eq_true rfl⟩ rfl ?_
  refine V_astore_n (i := 2) dX2_keep_4 rfl (Nat.le_of_ble_eq_true rfl) rfl rfl ?_
  refine V_aload_n (i := 2) dX2_keep_5 rfl rfl ?_
  refine V_ifnull dX2_keep_6 ?_
  refine V_aload_n (i := 2) dX2_keep_9 rfl rfl ?_
  refine V_aload_n (i := 1) dX2_keep_10 rfl rfl ?_
  refine V_callVM dX2_keep_11 (c_copyFrom (st_sl hH.1) hR (by omega)) okX8_copyFrom lkRX2_29 (st_sl hH.1).mk0 (st_sl hH.1).sh.1 rfl rfl rfl (Nat.le_of_ble_eq_true rfl) ⟨Nat.le_of_ble_eq_true rfl, Nat.le_of_ble_eq_true rfl⟩ rfl ?_
  intro u1 hu1
  have hK6 := hR.keepS (st_sl hH.1) (by omega) hu1.2
  refine V_aload_n (i := 0) dX2_keep_14 rfl rfl ?_
  refine V_aload_n (i := 0) dX2_keep_15 rfl rfl ?_
  refine V_getI (k := 1) dX2_keep_16 (Or.inr ⟨rfl, Nat.le_of_ble_eq_true rfl⟩) rfl rfl rfl (Nat.le_of_ble_eq_true rfl) flRX2_17 ?_
  refine V_top (y := nI nx) ((hu1.2.gi (by unfold InSt; omega) _).trans hH.2.2.1) ?_
  refine V_bipush_n (v := 7) dX2_keep_19 (by decide) ?_
  refine V_icmp_ge_n (tgt := 33) dX2_keep_21 (by decide) (by omega) (by omega) (fun h21 => ?_) (fun h21 => ?_)
  · refine V_iconst_n (v := 0) dX2_keep_33 (by decide) ?_
    refine V_putI (k := 1) (ty := .int) dX2_keep_34 (Or.inr ⟨rfl, Nat.le_of_ble_eq_true rfl⟩) rfl rfl rfl (Nat.le_of_ble_eq_true rfl) flRX2_17 rfl (by decide +kernel) rfl rfl ?_
    refine V_aload_n (i := 0) dX2_keep_37 rfl rfl ?_
    refine V_aload_n (i := 0) dX2_keep_38 rfl rfl ?_
    refine V_getI (k := 2) dX2_keep_39 (Or.inr ⟨rfl, Nat.le_of_ble_eq_true rfl⟩) rfl rfl rfl (Nat.le_of_ble_eq_true rfl) flRX2_21 ?_
    refine V_top (y := nI sz) (pI_ne (by omega) ((hu1.2.gi (by unfold InSt; omega) _).trans hH.2.2.2.1)) ?_
    refine V_iconst_n (v := 1) dX2_keep_42 (by decide) ?_
    refine V_iadd_n dX2_keep_43 ?_
    refine V_bipush_n (v := 8) dX2_keep_44 (by decide) ?_
    refine V_min dX2_keep_46 lkRX2_33 (by omega) (by omega) (Nat.le_of_ble_eq_true rfl) (by decide) ?_
    refine V_putI (k := 2) (ty := .int) dX2_keep_49 (Or.inr ⟨rfl, Nat.le_of_ble_eq_true rfl⟩) rfl rfl rfl (Nat.le_of_ble_eq_true rfl) flRX2_21 rfl (by decide +kernel) rfl rfl ?_
    refine V_vret dX2_keep_52 rfl ?_
    have hs := hH.slot hH.1 hu1.1 hu1.2
    refine ⟨rfl, ?_, ((hu1.2.mono fun b hb => by unfold InSt at hb; unfold InH; omega).i1 (by unfold InH; omega)).i1 (by unfold InH; omega)⟩
    rw [if_neg (by omega)]
    exact hs.set (by omega) (by omega)
  · refine V_aload_n (i := 0) dX2_keep_24 rfl rfl ?_
    refine V_getI (k := 1) dX2_keep_25 (Or.inr ⟨rfl, Nat.le_of_ble_eq_true rfl⟩) rfl rfl rfl (Nat.le_of_ble_eq_true rfl) flRX2_17 ?_
    refine V_top (y := nI nx) ((hu1.2.gi (by unfold InSt; omega) _).trans hH.2.2.1) ?_
    refine V_iconst_n (v := 1) dX2_keep_28 (by decide) ?_
    refine V_iadd_n dX2_keep_29 ?_
    refine V_goto (tgt := 34) dX2_keep_30 (by decide) ?_
    refine V_putI (k := 1) (ty := .int) dX2_keep_34 (Or.inr ⟨rfl, Nat.le_of_ble_eq_true rfl⟩) rfl rfl rfl (Nat.le_of_ble_eq_true rfl) flRX2_17 rfl (by decide +kernel) rfl rfl ?_
    refine V_aload_n (i := 0) dX2_keep_37 rfl rfl ?_
    refine V_aload_n (i := 0) dX2_keep_38 rfl rfl ?_
    refine V_getI (k := 2) dX2_keep_39 (Or.inr ⟨rfl, Nat.le_of_ble_eq_true rfl⟩) rfl rfl rfl (Nat.le_of_ble_eq_true rfl) flRX2_21 ?_
    refine V_top (y := nI sz) (pI_ne (by omega) ((hu1.2.gi (by unfold InSt; omega) _).trans hH.2.2.2.1)) ?_
    refine V_iconst_n (v := 1) dX2_keep_42 (by decide) ?_
    refine V_iadd_n dX2_keep_43 ?_
    refine V_bipush_n (v := 8) dX2_keep_44 (by decide) ?_
    refine V_min dX2_keep_46 lkRX2_33 (by omega) (by omega) (Nat.le_of_ble_eq_true rfl) (by decide) ?_
    refine V_putI (k := 2) (ty := .int) dX2_keep_49 (Or.inr ⟨rfl, Nat.le_of_ble_eq_true rfl⟩) rfl rfl rfl (Nat.le_of_ble_eq_true rfl) flRX2_21 rfl (by decide +kernel) rfl rfl ?_
    refine V_vret dX2_keep_52 rfl ?_
    have hs := hH.slot hH.1 hu1.1 hu1.2
    refine ⟨rfl, ?_, ((hu1.2.mono fun b hb => by unfold InSt at hb; unfold InH; omega).i1 (by unfold InH; omega)).i1 (by unfold InH; omega)⟩
    rw [if_pos h21]
    exact hs.set (by omega) (by omega)
set_option maxRecDepth 100000 in
set_option maxHeartbeats 1000000 in
theorem c_takeBack {a : Nat} {s : St} {nx sz : Nat} {f : Nat → St} {w : Wd} (hH : HistI w nx sz f) (hz : 0 < sz) (hR : Repr w a s) (hfar : a + 2 < 10 ∨ 35 < a) : Ct 1 MX2_takeBack 3 0 0 [.ref 10, .ref a] w (Mt none fun w1 => HistI w1 (if 0 < nx then nx - 1 else 7) (sz - 1) f ∧ Repr w1 a (f (if 0 < nx then nx - 1 else 7)) ∧ Fr (fun b => b = 10 ∨ InSt a b) w w1) := by
  refine Ct_of (by decide +kernel) rfl (Nat.le_of_ble_eq_true rfl) rfl ?_
  have hnx := hH.1
  have hsz := hH.2.1
  have ez : max (sz - 1) 0 = sz - 1 := by omega
  refine V_aload_n (i := 0) dX2_takeBack_0 rfl rfl ?_
  refine V_aload_n (i := 0) dX2_takeBack_1 rfl rfl ?_
  refine V_getI (k := 1) dX2_takeBack_2 (Or.inr ⟨rfl, Nat.le_of_ble_eq_true rfl⟩) rfl rfl rfl (Nat.le_of_ble_eq_true rfl) flRX2_17 ?_
  refine V_top (y := nI nx) hH.2.2.1 ?_
  refine V_if_le_n (tgt := 17) dX2_takeBack_5 (by decide) (by omega) (fun hn5 => ?_) (fun hn5 => ?_)
  · refine V_bipush_n (v := 7) dX2_takeBack_17 (by decide) ?_
    refine V_putI (k := 1) (ty := .int) dX2_takeBack_19 (Or.inr ⟨rfl, Nat.le_of_ble_eq_true rfl⟩) rfl rfl rfl (Nat.le_of_ble_eq_true rfl) flRX2_17 rfl (by decide +kernel) rfl rfl ?_
    refine V_aload_n (i := 0) dX2_takeBack_22 rfl rfl ?_
    refine V_aload_n (i := 0) dX2_takeBack_23 rfl rfl ?_
    refine V_getI (k := 2) dX2_takeBack_24 (Or.inr ⟨rfl, Nat.le_of_ble_eq_true rfl⟩) rfl rfl rfl (Nat.le_of_ble_eq_true rfl) flRX2_21 ?_
    refine V_top (y := nI sz) (pI_ne (by omega) hH.2.2.2.1) ?_
    refine V_iconst_n (v := 1) dX2_takeBack_27 (by decide) ?_
    refine V_isub_n dX2_takeBack_28 (by omega) ?_
    refine V_iconst_n (v := 0) dX2_takeBack_29 (by decide) ?_
    refine V_max dX2_takeBack_30 lkRX2_39 (by omega) (by omega) (Nat.le_of_ble_eq_true rfl) (by decide) ?_
    refine V_putI (k := 2) (ty := .int) dX2_takeBack_33 (Or.inr ⟨rfl, Nat.le_of_ble_eq_true rfl⟩) rfl rfl rfl (Nat.le_of_ble_eq_true rfl) flRX2_21 rfl (by decide +kernel) rfl rfl ?_
    have e9 : (if 0 < nx then nx - 1 else 7) = 7 := if_neg (by omega)
    have hH2 := hH.set (nx1 := 7) (sz1 := max (sz - 1) 0) (by omega) (by omega)
    refine V_aload_n (i := 0) dX2_takeBack_36 rfl rfl ?_
    refine V_callVF dX2_takeBack_37 (c_nextSlot hH2) okX2_nextSlot lkRX2_25 (Or.inr ⟨rfl, Nat.le_of_ble_eq_true rfl⟩) rfl rfl rfl rfl (Nat.le_of_ble_eq_true rfl) ⟨Nat.le_of_ble_eq_true rfl, Nat.le_of_ble_eq_true rfl⟩ rfl ?_
    refine V_astore_n (i := 2) dX2_takeBack_40 rfl (Nat.le_of_ble_eq_true rfl) rfl rfl ?_
    refine V_aload_n (i := 2) dX2_takeBack_41 rfl rfl ?_
    refine V_ifnull dX2_takeBack_42 ?_
    refine V_aload_n (i := 1) dX2_takeBack_45 rfl rfl ?_
    refine V_aload_n (i := 2) dX2_takeBack_46 rfl rfl ?_
    refine V_callVM dX2_takeBack_47 (c_copyFrom hR.1 (hH2.2.2.2.2.2 7 hH2.1) (by omega)) okX8_copyFrom lkRX2_29 hR.1.mk0 hR.1.sh.1 rfl rfl rfl (Nat.le_of_ble_eq_true rfl) ⟨Nat.le_of_ble_eq_true rfl, Nat.le_of_ble_eq_true rfl⟩ rfl ?_
    intro u1 hu1
    refine V_vret dX2_takeBack_50 rfl ?_
    rw [e9]
    have hF9 := hu1.2
    refine ⟨rfl, ?_, hu1.1, ((Fr.nil.i1 (Or.inl rfl)).i1 (Or.inl rfl)).trans (hF9.mono fun b hb => Or.inr hb)⟩
    rw [ez] at hH2 hF9
    exact hH2.keep hF9 (fun b h1 h2 => by unfold InSt; omega)
  · refine V_aload_n (i := 0) dX2_takeBack_8 rfl rfl ?_
    refine V_getI (k := 1) dX2_takeBack_9 (Or.inr ⟨rfl, Nat.le_of_ble_eq_true rfl⟩) rfl rfl rfl (Nat.le_of_ble_eq_true rfl) flRX2_17 ?_
    refine V_top (y := nI nx) hH.2.2.1 ?_
    refine V_iconst_n (v := 1) dX2_takeBack_12 (by decide) ?_
    refine V_isub_n dX2_takeBack_13 (by omega) ?_
    refine V_goto (tgt := 19) dX2_takeBack_14 (by decide) ?_
    refine V_putI (k := 1) (ty := .int) dX2_takeBack_19 (Or.inr ⟨rfl, Nat.le_of_ble_eq_true rfl⟩) rfl rfl rfl (Nat.le_of_ble_eq_true rfl) flRX2_17 rfl (by decide +kernel) rfl rfl ?_
    refine V_aload_n (i := 0) dX2_takeBack_22 rfl rfl ?_
    refine V_aload_n (i := 0) dX2_takeBack_23 rfl rfl ?_
    refine V_getI (k := 2) dX2_takeBack_24 (Or.inr ⟨rfl, Nat.le_of_ble_eq_true rfl⟩) rfl rfl rfl (Nat.le_of_ble_eq_true rfl) flRX2_21 ?_
    refine V_top (y := nI sz) (pI_ne (by omega) hH.2.2.2.1) ?_
    refine V_iconst_n (v := 1) dX2_takeBack_27 (by decide) ?_
    refine V_isub_n dX2_takeBack_28 (by omega) ?_
    refine V_iconst_n (v := 0) dX2_takeBack_29 (by decide) ?_
    refine V_max dX2_takeBack_30 lkRX2_39 (by omega) (by omega) (Nat.le_of_ble_eq_true rfl) (by decide) ?_
    refine V_putI (k := 2) (ty := .int) dX2_takeBack_33 (Or.inr ⟨rfl, Nat.le_of_ble_eq_true rfl⟩) rfl rfl rfl (Nat.le_of_ble_eq_true rfl) flRX2_21 rfl (by decide +kernel) rfl rfl ?_
    have e9 : (if 0 < nx then nx - 1 else 7) = nx - 1 := if_pos hn5
    have hH2 := hH.set (nx1 := nx - 1) (sz1 := max (sz - 1) 0) (by omega) (by omega)
    refine V_aload_n (i := 0) dX2_takeBack_36 rfl rfl ?_
    refine V_callVF dX2_takeBack_37 (c_nextSlot hH2) okX2_nextSlot lkRX2_25 (Or.inr ⟨rfl, Nat.le_of_ble_eq_true rfl⟩) rfl rfl rfl rfl (Nat.le_of_ble_eq_true rfl) ⟨Nat.le_of_ble_eq_true rfl, Nat.le_of_ble_eq_true rfl⟩ rfl ?_
    refine V_astore_n (i := 2) dX2_takeBack_40 rfl (Nat.le_of_ble_eq_true rfl) rfl rfl ?_
    refine V_aload_n (i := 2) dX2_takeBack_41 rfl rfl ?_
    refine V_ifnull dX2_takeBack_42 ?_
    refine V_aload_n (i := 1) dX2_takeBack_45 rfl rfl ?_
    refine V_aload_n (i := 2) dX2_takeBack_46 rfl rfl ?_
    refine V_callVM dX2_takeBack_47 (c_copyFrom hR.1 (hH2.2.2.2.2.2 (nx - 1) hH2.1) (by omega)) okX8_copyFrom lkRX2_29 hR.1.mk0 hR.1.sh.1 rfl rfl rfl (Nat.le_of_ble_eq_true rfl) ⟨Nat.le_of_ble_eq_true rfl, Nat.le_of_ble_eq_true rfl⟩ rfl ?_
    intro u1 hu1
    refine V_vret dX2_takeBack_50 rfl ?_
    rw [e9]
    have hF9 := hu1.2
    refine ⟨rfl, ?_, hu1.1, ((Fr.nil.i1 (Or.inl rfl)).i1 (Or.inl rfl)).trans (hF9.mono fun b hb => Or.inr hb)⟩
    rw [ez] at hH2 hF9
    exact hH2.keep hF9 (fun b h1 h2 => by unfold InSt; omega)
set_option maxRecDepth 100000 in
set_option maxHeartbeats 1000000 in
theorem c_forget {nx sz : Nat} {f : Nat → St} {w : Wd} (hH : HistI w nx sz f) : Ct 1 MX2_forget 1 0 0 [.ref 10] w (Mt none fun w1 => HistI w1 nx 0 f ∧ Fr InH w w1) := by
  refine Ct_of (by decide +kernel) rfl (Nat.le_of_ble_eq_true rfl) rfl ?_
  refine V_aload_n (i := 0) dX2_forget_0 rfl rfl ?_
  refine V_iconst_n (v := 0) dX2_forget_1 (by decide) ?_
  refine V_putI (k := 2) (ty := .int) dX2_forget_2 (Or.inr ⟨rfl, Nat.le_of_ble_eq_true rfl⟩) rfl rfl rfl (Nat.le_of_ble_eq_true rfl) flRX2_21 rfl (by decide +kernel) rfl rfl ?_
  refine V_vret dX2_forget_5 rfl ?_
  refine ⟨rfl, ?_, Fr.nil.i1 (by unfold InH; omega)⟩
  exact ⟨hH.1, by omega, pI_ne (by omega) hH.2.2.1, pI_at, hH.2.2.2.2.1, fun j hj => (hH.2.2.2.2.2 j hj).keep (P := fun b => b = 10) (Fr.nil.i1 (by rfl)) (by show ¬ _ = 10; omega) (by show ¬ _ = 10; omega) (by show ¬ _ = 10; omega)⟩
/-- a line of numbers: its length in the slot k of a, its members in b -/
def OutI (w : Wd) (a k b : Nat) (l : List Nat) : Prop := gI w a k = nI l.length ∧ ∀ i, i < l.length → gI w b i = nI (l.getD i 0)
theorem OutI.keep {w u : Wd} {a k b : Nat} {l : List Nat} {P : Nat → Prop} (h : OutI w a k b l) (hF : Fr P w u) (ha : ¬ P a) (hb : ¬ P b) : OutI u a k b l := ⟨by rw [hF.gi ha]; exact h.1, fun i hi => by rw [hF.gi hb]; exact h.2 i hi⟩
theorem getD_snoc {l : List Nat} {q i : Nat} : (l ++ [q]).getD i 0 = if i < l.length then l.getD i 0 else if i = l.length then q else 0 := by
  rw [List.getD_eq_getElem?_getD, List.getElem?_append]
  split
  · rw [List.getD_eq_getElem?_getD]
  · next h =>
    by_cases e : i = l.length
    · rw [if_pos e, e, Nat.sub_self]; rfl
    · rw [if_neg e, List.getElem?_eq_none (by simp; omega)]; rfl
theorem OutI.snoc {w : Wd} {a k b q : Nat} {l : List Nat} (h : OutI w a k b l) (hne : a ≠ b) {x : Int32} (hx : x = nI (l.length + 1)) : OutI (pI (pI w b l.length (nI q)) a k x) a k b (l ++ [q]) := by
  subst hx
  have e : (l ++ [q]).length = l.length + 1 := by simp
  refine ⟨by rw [e]; exact pI_at, fun i hi => ?_⟩
  rw [e] at hi
  rw [getD_snoc, gI_pI, if_neg (fun z => hne z.1.symm), gI_pI]
  by_cases h1 : i < l.length
  · rw [if_neg (by omega), if_pos h1]; exact h.2 i h1
  · rw [if_pos ⟨rfl, by omega⟩, if_neg h1, if_pos (by omega)]
theorem OutI.clear {w : Wd} {a k b : Nat} {x : Int32} (hx : x = nI 0) : OutI (pI w a k x) a k b [] := by
  subst hx
  exact ⟨pI_at, fun i hi => by cases hi⟩
def InO (b : Nat) : Prop := b = 43 ∨ b = 44
set_option maxRecDepth 100000 in
set_option maxHeartbeats 1000000 in
theorem c_oempty {w : Wd} : Ct 1 MX4_empty 1 0 0 [.ref 43] w (Mt none fun w1 => OutI w1 43 1 44 [] ∧ Fr InO w w1) := by
  refine Ct_of (by decide +kernel) rfl (Nat.le_of_ble_eq_true rfl) rfl ?_
  refine V_aload_n (i := 0) dX4_empty_0 rfl rfl ?_
  refine V_iconst_n (v := 0) dX4_empty_1 (by decide) ?_
  refine V_putI (k := 1) (ty := .int) dX4_empty_2 (Or.inr ⟨rfl, Nat.le_of_ble_eq_true rfl⟩) rfl rfl rfl (Nat.le_of_ble_eq_true rfl) flRX4_15 rfl (by decide +kernel) rfl rfl ?_
  refine V_vret dX4_empty_5 rfl ?_
  exact ⟨rfl, OutI.clear rfl, Fr.nil.i1 (Or.inl rfl)⟩
set_option maxRecDepth 100000 in
set_option maxHeartbeats 1000000 in
theorem c_oadd {q : Nat} {l : List Nat} {w : Wd} (hO : OutI w 43 1 44 l) (hl : l.length < 32) (hq : q < 65536) : Ct 1 MX4_add 1 0 0 [.ref 43, .int (nI q)] w (Mt none fun w1 => OutI w1 43 1 44 (l ++ [q]) ∧ Fr InO w w1) := by
  refine Ct_of (by decide +kernel) rfl (Nat.le_of_ble_eq_true rfl) rfl ?_
  refine V_aload_n (i := 0) dX4_add_0 rfl rfl ?_
  refine V_getI (k := 1) dX4_add_1 (Or.inr ⟨rfl, Nat.le_of_ble_eq_true rfl⟩) rfl rfl rfl (Nat.le_of_ble_eq_true rfl) flRX4_15 ?_
  refine V_top (y := nI l.length) hO.1 ?_
  refine V_if_lt_n (tgt := 36) dX4_add_4 (by decide) (by omega) ?_
  refine V_aload_n (i := 0) dX4_add_7 rfl rfl ?_
  refine V_getI (k := 1) dX4_add_8 (Or.inr ⟨rfl, Nat.le_of_ble_eq_true rfl⟩) rfl rfl rfl (Nat.le_of_ble_eq_true rfl) flRX4_15 ?_
  refine V_top (y := nI l.length) hO.1 ?_
  refine V_bipush_n (v := 32) dX4_add_11 (by decide) ?_
  refine V_icmp_ge_n (tgt := 36) dX4_add_13 (by decide) (by omega) (by omega) (fun h13 => by exfalso; omega) (fun h13 => ?_)
  refine V_aload_n (i := 0) dX4_add_16 rfl rfl ?_
  refine V_getC (k := 0) (q := 44) dX4_add_17 (Or.inr ⟨rfl, Nat.le_of_ble_eq_true rfl⟩) rfl rfl rfl (Nat.le_of_ble_eq_true rfl) flRX4_9 ?_
  refine V_aload_n (i := 0) dX4_add_20 rfl rfl ?_
  refine V_getI (k := 1) dX4_add_21 (Or.inr ⟨rfl, Nat.le_of_ble_eq_true rfl⟩) rfl rfl rfl (Nat.le_of_ble_eq_true rfl) flRX4_15 ?_
  refine V_top (y := nI l.length) hO.1 ?_
  refine V_iload_n (i := 1) dX4_add_24 rfl rfl ?_
  refine V_cast_n (i := l.length) dX4_add_25 (Or.inr ⟨rfl, Nat.le_of_ble_eq_true rfl⟩) rfl (by omega) (by decide) (nar_char (by omega)) ?_
  refine V_aload_n (i := 0) dX4_add_26 rfl rfl ?_
  refine V_dup dX4_add_27 rfl ?_
  refine V_getI (k := 1) dX4_add_28 (Or.inr ⟨rfl, Nat.le_of_ble_eq_true rfl⟩) rfl rfl rfl (Nat.le_of_ble_eq_true rfl) flRX4_15 ?_
  refine V_top (y := nI l.length) (pI_ne (by omega) hO.1) ?_
  refine V_iconst_n (v := 1) dX4_add_31 (by decide) ?_
  refine V_iadd_n dX4_add_32 ?_
  refine V_putI (k := 1) (ty := .int) dX4_add_33 (Or.inr ⟨rfl, Nat.le_of_ble_eq_true rfl⟩) rfl rfl rfl (Nat.le_of_ble_eq_true rfl) flRX4_15 rfl (by decide +kernel) rfl rfl ?_
  refine V_vret dX4_add_36 rfl ?_
  exact ⟨rfl, hO.snoc (by decide) rfl, (Fr.nil.i1 (Or.inr rfl)).i1 (Or.inl rfl)⟩
theorem take_snoc {l : List Nat} {i : Nat} (h : i < l.length) : l.take (i + 1) = l.take i ++ [l.getD i 0] := by
  rw [List.take_add_one, List.getD_eq_getElem?_getD]
  simp [h]
set_option maxRecDepth 100000 in
set_option maxHeartbeats 1000000 in
theorem c_oaddText {t : Nat} {l : List Nat} {w : Wd} (hO : OutI w 43 1 44 l) (ht : IsT t) (hl : l.length + (tx t).length ≤ 32) : Ct 1 MX4_addText 5 0 0 [.ref 43, .ref t] w (Mt none fun w1 => OutI w1 43 1 44 (l ++ tx t) ∧ Fr InO w w1) := by
  refine Ct_of (by decide +kernel) rfl (Nat.le_of_ble_eq_true rfl) rfl ?_
  have hlt := tx_len ht
  have lp : ∀ (fu i : Nat) (w1 : Wd), i ≤ (tx t).length → (tx t).length - i < fu → OutI w1 43 1 44 (l ++ (tx t).take i) → Fr InO w w1 → V 1 MX4_addText 5 0 0 (Mt none fun w1 => OutI w1 43 1 44 (l ++ tx t) ∧ Fr InO w w1) (fun _ _ => True) 0 0 2 [some (.ref 43), some (.ref t), some (.int (nI i))] [] w1 := by
    intro fu
    induction fu with
    | zero => intro i w1 h1 h2; omega
    | succ fu ih =>
      intro i w1 hib hfu hO1 hF1
      have hlt := tx_len ht
      have hz : (l ++ (tx t).take i).length = l.length + i := by rw [List.length_append, List.length_take]; omega
      refine V_iload_n (i := 2) dX4_addText_2 rfl rfl ?_
      refine V_aload_n (i := 1) dX4_addText_3 rfl rfl ?_
      refine V_callVOF dX4_addText_4 (c_length ht) okJ0_length_8abf5 lkRX4_19 (tx_O ht) rfl rfl (Nat.le_of_ble_eq_true rfl) ⟨Nat.le_of_ble_eq_true rfl, Nat.le_of_ble_eq_true rfl⟩ rfl ?_
      refine V_icmp_ge_n (tgt := 25) dX4_addText_7 (by decide) (by omega) (by omega) (fun h7 => ?_) (fun h7 => ?_)
      · refine V_vret dX4_addText_25 rfl ?_
        obtain rfl : i = (tx t).length := by omega
        rw [List.take_length] at hO1
        exact ⟨rfl, hO1, hF1⟩
      · have has := tx_asc ht i (by omega)
        refine V_aload_n (i := 0) dX4_addText_10 rfl rfl ?_
        refine V_aload_n (i := 1) dX4_addText_11 rfl rfl ?_
        refine V_iload_n (i := 2) dX4_addText_12 rfl rfl ?_
        refine V_callVOF dX4_addText_13 (c_charAt ht (i := i) (by omega)) okJ0_charAt_5068e lkRX4_24 (tx_O ht) rfl rfl (Nat.le_of_ble_eq_true rfl) ⟨Nat.le_of_ble_eq_true rfl, Nat.le_of_ble_eq_true rfl⟩ rfl ?_
        refine V_callVM dX4_addText_16 (c_oadd hO1 (q := ((tx t).getD i 0)) (by omega) (by omega)) okX4_add lkRX4_28 (Or.inr ⟨rfl, Nat.le_of_ble_eq_true rfl⟩) rfl rfl rfl rfl (Nat.le_of_ble_eq_true rfl) ⟨Nat.le_of_ble_eq_true rfl, Nat.le_of_ble_eq_true rfl⟩ rfl ?_
        intro u1 hu1
        refine V_iinc_n (b := (i + 1)) dX4_addText_19 rfl (nI_add _ _) rfl rfl ?_
        refine V_goto (tgt := 2) dX4_addText_22 (by decide) ?_
        refine ih (i + 1) u1 (by omega) (by omega) ?_ (hF1.trans hu1.2)
        rw [take_snoc (by omega), ← List.append_assoc]; exact hu1.1
  refine V_iconst_n (v := 0) dX4_addText_0 (by decide) ?_
  refine V_istore_n (i := 2) dX4_addText_1 rfl (Nat.le_of_ble_eq_true rfl) rfl rfl ?_
  exact lp ((tx t).length + 1) 0 w (by omega) (by omega) (by rw [List.take_zero, List.append_nil]; exact hO) Fr.nil
/-- the signs of the numbers below n that are in a set -/
def nums (f : Nat → Bool) : Nat → List Nat
  | 0 => []
  | n + 1 => if f n = true then nums f n ++ [48 + n] else nums f n
theorem nums_le {f : Nat → Bool} : ∀ n, (nums f n).length ≤ n := by
  intro n
  induction n with
  | zero => exact Nat.le_refl 0
  | succ n ih =>
    show (if f n = true then nums f n ++ [48 + n] else nums f n).length ≤ n + 1
    split
    · rw [List.length_append]; exact Nat.add_le_add_right ih 1
    · omega
set_option maxRecDepth 100000 in
set_option maxHeartbeats 1000000 in
theorem c_oaddNumbers {v : Nat} {f : Nat → Bool} {l : List Nat} {w : Wd} (hO : OutI w 43 1 44 l) (hl : l.length ≤ 23) (hv : ∀ n, n < 32 → (nI v >>> (nI n &&& 31)) &&& nI 1 = nI (if f n = true then 1 else 0)) : Ct 1 MX4_addNumbers 3 0 0 [.ref 43, .int (nI v)] w (Mt none fun w1 => OutI w1 43 1 44 (l ++ nums f 9) ∧ Fr InO w w1) := by
  refine Ct_of (by decide +kernel) rfl (Nat.le_of_ble_eq_true rfl) rfl ?_
  have lp : ∀ (fu i : Nat) (w1 : Wd), i ≤ 9 → 9 - i < fu → OutI w1 43 1 44 (l ++ nums f i) → Fr InO w w1 → V 1 MX4_addNumbers 3 0 0 (Mt none fun w1 => OutI w1 43 1 44 (l ++ nums f 9) ∧ Fr InO w w1) (fun _ _ => True) 0 0 2 [some (.ref 43), some (.int (nI v)), some (.int (nI i))] [] w1 := by
    intro fu
    induction fu with
    | zero => intro i w1 h1 h2; omega
    | succ fu ih =>
      intro i w1 hib hfu hO1 hF1
      have hnl := nums_le (f := f) i
      have hz : (l ++ nums f i).length = l.length + (nums f i).length := List.length_append
      have e1 : nums f (i + 1) = if f i = true then nums f i ++ [48 + i] else nums f i := rfl
      refine V_iload_n (i := 2) dX4_addNumbers_2 rfl rfl ?_
      refine V_bipush_n (v := 8) dX4_addNumbers_3 (by decide) ?_
      refine V_icmp_gt_n (tgt := 32) dX4_addNumbers_5 (by decide) (by omega) (by omega) (fun h5 => ?_) (fun h5 => ?_)
      · refine V_vret dX4_addNumbers_32 rfl ?_
        obtain rfl : i = 9 := by omega
        exact ⟨rfl, hO1, hF1⟩
      · refine V_iload_n (i := 1) dX4_addNumbers_8 rfl rfl ?_
        refine V_iload_n (i := 2) dX4_addNumbers_9 rfl rfl ?_
        refine V_ishr dX4_addNumbers_10 ?_
        refine V_iconst_n (v := 1) dX4_addNumbers_11 (by decide) ?_
        refine V_iand dX4_addNumbers_12 ?_
        refine V_top (y := nI (if f i = true then 1 else 0)) (hv i (by omega)) ?_
        have hit := @ite_le (f i = true) _
        refine V_iconst_n (v := 1) dX4_addNumbers_13 (by decide) ?_
        refine V_icmp_ne_n (tgt := 26) dX4_addNumbers_14 (by decide) (by omega) (by omega) (fun h14 => ?_) (fun h14 => ?_)
        · rw [if_neg (by grind)] at e1
          refine V_iinc_n (b := (i + 1)) dX4_addNumbers_26 rfl (nI_add _ _) rfl rfl ?_
          refine V_goto (tgt := 2) dX4_addNumbers_29 (by decide) ?_
          refine ih (i + 1) w1 (by omega) (by omega) ?_ hF1
          rw [e1]; exact hO1
        · rw [if_pos (by grind)] at e1
          refine V_aload_n (i := 0) dX4_addNumbers_17 rfl rfl ?_
          refine V_bipush_n (v := 48) dX4_addNumbers_18 (by decide) ?_
          refine V_iload_n (i := 2) dX4_addNumbers_20 rfl rfl ?_
          refine V_iadd_n dX4_addNumbers_21 ?_
          refine V_i2c_n dX4_addNumbers_22 (by omega) ?_
          refine V_callVM dX4_addNumbers_23 (c_oadd hO1 (q := (48 + i)) (by omega) (by omega)) okX4_add lkRX4_28 (Or.inr ⟨rfl, Nat.le_of_ble_eq_true rfl⟩) rfl rfl rfl rfl (Nat.le_of_ble_eq_true rfl) ⟨Nat.le_of_ble_eq_true rfl, Nat.le_of_ble_eq_true rfl⟩ rfl ?_
          intro u1 hu1
          refine V_iinc_n (b := (i + 1)) dX4_addNumbers_26 rfl (nI_add _ _) rfl rfl ?_
          refine V_goto (tgt := 2) dX4_addNumbers_29 (by decide) ?_
          refine ih (i + 1) u1 (by omega) (by omega) ?_ (hF1.trans hu1.2)
          rw [e1, ← List.append_assoc]; exact hu1.1
  refine V_iconst_n (v := 0) dX4_addNumbers_0 (by decide) ?_
  refine V_istore_n (i := 2) dX4_addNumbers_1 rfl (Nat.le_of_ble_eq_true rfl) rfl rfl ?_
  exact lp 10 0 w (by omega) (by omega) (by show OutI w 43 1 44 (l ++ []); rw [List.append_nil]; exact hO) Fr.nil
set_option maxRecDepth 100000 in
set_option maxHeartbeats 1000000 in
theorem c_signAt {i : Nat} {l : List Nat} {w : Wd} (hO : OutI w 43 1 44 l) (hi : i < l.length) (hl : l.length ≤ 32) (hb : l.getD i 0 < 65536) : Ct 1 MX4_signAt 1 0 0 [.ref 43, .int (nI i)] w (Rt (some (.int (nI (l.getD i 0)))) w) := by
  refine Ct_of (by decide +kernel) rfl (Nat.le_of_ble_eq_true rfl) rfl ?_
  refine V_iload_n (i := 1) dX4_signAt_0 rfl rfl ?_
  refine V_if_lt_n (tgt := 19) dX4_signAt_1 (by decide) (by omega) ?_
  refine V_iload_n (i := 1) dX4_signAt_4 rfl rfl ?_
  refine V_bipush_n (v := 32) dX4_signAt_5 (by decide) ?_
  refine V_icmp_ge_n (tgt := 19) dX4_signAt_7 (by decide) (by omega) (by omega) (fun h7 => by exfalso; omega) (fun h7 => ?_)
  refine V_aload_n (i := 0) dX4_signAt_10 rfl rfl ?_
  refine V_getC (k := 0) (q := 44) dX4_signAt_11 (Or.inr ⟨rfl, Nat.le_of_ble_eq_true rfl⟩) rfl rfl rfl (Nat.le_of_ble_eq_true rfl) flRX4_9 ?_
  refine V_iload_n (i := 1) dX4_signAt_14 rfl rfl ?_
  refine V_cald_n (i := i) dX4_signAt_15 (Or.inr ⟨rfl, Nat.le_of_ble_eq_true rfl⟩) rfl (by omega) (by decide) ?_
  refine V_top (y := nI (l.getD i 0)) (hO.2 i hi) ?_
  refine V_goto (tgt := 20) dX4_signAt_16 (by decide) ?_
  refine V_iret dX4_signAt_20 rfl (nar_char (by omega)) ?_
  exact ⟨rfl, rfl⟩
end MHIST
