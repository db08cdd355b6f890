/-! THE PLAIN FORM: forecasts, what goes back, lines, orders, floats. Printed by wip/whole/gen/mk35.py. -/
section MMF2
set_option maxRecDepth 100000 in
set_option maxHeartbeats 1000000 in
theorem m_livingAfter {x : Int32} {t : Int} {S : Sys} {w : Wd} (hC : MI w S) (hx : x = zI t) (t1 : -2147483648 ≤ t) (t2 : t < 2147483648) : Ct 1 MX11_livingAfter 8 0 0 [.ref 47, .int x] w (PoM (fLivingAfter S t) w) := by
  refine Ct_of (by decide +kernel) rfl (Nat.le_of_ble_eq_true rfl) rfl ?_
  subst hx
  have lp : ∀ (fu i : Nat) (w1 : Wd), i ≤ t.toNat → t.toNat - i < fu → (0 ≤ t ∧ t ≤ 20) → Bk w1 48 0 (tideN S.1 i) → Bk w1 50 0 S.1 → gI w1 47 9 = nI 0 → Fz PMut w w1 → V 1 MX11_livingAfter 8 0 0 (PoM (fLivingAfter S t) w) (fun _ _ => True) 0 0 29 [some (.ref 47), some (.int (zI t)), some (.int (nI i))] [] w1 := by
    intro fu
    induction fu with
    | zero => intro i w1 h1 h2; omega
    | succ fu ih =>
      intro i w1 hib hfu ht hB hT h9 hf
      refine V_iload_n (i := 2) dX11_livingAfter_29 rfl rfl ?_
      refine V_iload_n (i := 1) dX11_livingAfter_30 rfl rfl ?_
      refine V_icmp_ge_z (tgt := 44) dX11_livingAfter_31 (by decide) (zI_n _) rfl (by omega) (by omega) (by omega) (by omega) (fun h31 => ?_) (fun h31 => ?_)
      · have ei : i = t.toNat := by omega
        subst ei
        refine V_aload_n (i := 0) dX11_livingAfter_44 rfl rfl ?_
        have hq58 := cnt_le (C := (tideN S.1 t.toNat).1) (q := 42) (n := 64)
        change cnt (tideN S.1 t.toNat).1 42 ≤ 64 at hq58
        refine V_callVF dX11_livingAfter_45 (m_livings hB) okX11_livings lkRX11_138 (Or.inr ⟨rfl, Nat.le_of_ble_eq_true rfl⟩) rfl rfl rfl rfl (Nat.le_of_ble_eq_true rfl) ⟨Nat.le_of_ble_eq_true rfl, Nat.le_of_ble_eq_true rfl⟩ rfl ?_
        refine V_istore_n (i := 2) dX11_livingAfter_48 rfl (Nat.le_of_ble_eq_true rfl) rfl rfl ?_
        refine V_aload_n (i := 0) dX11_livingAfter_49 rfl rfl ?_
        refine V_callVM dX11_livingAfter_50 (m_comesBack hT) okX11_comesBack lkRX11_202 (Or.inr ⟨rfl, Nat.le_of_ble_eq_true rfl⟩) rfl rfl rfl rfl (Nat.le_of_ble_eq_true rfl) ⟨Nat.le_of_ble_eq_true rfl, Nat.le_of_ble_eq_true rfl⟩ rfl ?_
        intro u1 hu1
        refine V_iload_n (i := 2) dX11_livingAfter_53 rfl rfl ?_
        refine V_iret dX11_livingAfter_54 rfl rfl ?_
        have e9 : fLivingAfter S t = (0, nI (cnt (tideN S.1 t.toNat).1 42), S) := if_pos ht
        rw [e9]
        exact ⟨⟨_, rfl, fun _ => rfl⟩, hC.mut (hf.trans (hu1.2.mono (fun b j q => by unfold PMut; omega))) hu1.1, ((hu1.2.gi (by omega)).trans h9), (hf.trans (hu1.2.mono (fun b j q => by unfold PMut; omega))).1⟩
      · refine V_aload_n (i := 0) dX11_livingAfter_34 rfl rfl ?_
        refine V_callVM dX11_livingAfter_35 (m_passes hB) okX11_passes lkRX11_193 (Or.inr ⟨rfl, Nat.le_of_ble_eq_true rfl⟩) rfl rfl rfl rfl (Nat.le_of_ble_eq_true rfl) ⟨Nat.le_of_ble_eq_true rfl, Nat.le_of_ble_eq_true rfl⟩ rfl ?_
        intro u1 hu1
        refine V_iinc_n (b := (i + 1)) dX11_livingAfter_38 rfl (nI_add _ _) rfl rfl ?_
        refine V_goto (tgt := 29) dX11_livingAfter_41 (by decide) ?_
        exact ih (i + 1) _ (by omega) (by omega) ht hu1.1 (hT.keep hu1.2 (fun k _ => by omega)) ((hu1.2.gi (by omega)).trans h9) (hf.trans (hu1.2.mono (fun b j q => by unfold PMut; omega)))
  refine V_aload_n (i := 0) dX11_livingAfter_0 rfl rfl ?_
  refine V_iconst_n (v := 0) dX11_livingAfter_1 (by decide) ?_
  refine V_putI (k := 9) (ty := .int) dX11_livingAfter_2 (Or.inr ⟨rfl, Nat.le_of_ble_eq_true rfl⟩) rfl rfl rfl (Nat.le_of_ble_eq_true rfl) flRX11_66 rfl (by decide +kernel) rfl rfl ?_
  refine V_iload_n (i := 1) dX11_livingAfter_5 rfl rfl ?_
  refine V_i2l dX11_livingAfter_6 ?_
  refine V_topL (y := zL (t)) (zI_zL (by omega) (by omega)) ?_
  refine V_lconst (v := zL 0) dX11_livingAfter_7 (by decide) ?_
  refine V_ldc2 dX11_livingAfter_8 csRX11_191 ?_
  refine V_topL (y := zL 20) (by decide) ?_
  refine V_callSF dX11_livingAfter_11 (c_in (a := (t)) (b := 0) (c := 20) (by omega) (by omega) (by omega) (by omega) (by omega) (by omega)) okX11_in lkRX11_93 rfl rfl (Nat.le_of_ble_eq_true rfl) ⟨Nat.le_of_ble_eq_true rfl, Nat.le_of_ble_eq_true rfl⟩ rfl ?_
  refine V_if_ne_n (tgt := 23) dX11_livingAfter_14 (by decide) (Nat.lt_of_lt_of_le ite_le (by decide)) (fun h14 => ?_) (fun h14 => ?_)
  · have hi14 := ite_t h14
    refine V_aload_n (i := 0) dX11_livingAfter_23 rfl rfl ?_
    refine V_callVM dX11_livingAfter_24 (m_thinks (hC.1.wr (by decide))) okX11_thinks lkRX11_199 (Or.inr ⟨rfl, Nat.le_of_ble_eq_true rfl⟩) rfl rfl rfl rfl (Nat.le_of_ble_eq_true rfl) ⟨Nat.le_of_ble_eq_true rfl, Nat.le_of_ble_eq_true rfl⟩ rfl ?_
    intro u1 hu1
    refine V_iconst_n (v := 0) dX11_livingAfter_27 (by decide) ?_
    refine V_istore_n (i := 2) dX11_livingAfter_28 rfl (Nat.le_of_ble_eq_true rfl) rfl rfl ?_
    exact lp (t.toNat + 1) 0 _ (by omega) (by omega) hi14 ((hC.1.wr (by decide)).keep hu1.2 (fun k _ => by omega)) hu1.1 ((hu1.2.gi (by omega)).trans pI_at) ((((Fz.nil (P := PScr)).i1 (by omega) (by unfold PScr; omega)).trans (hu1.2.mono (fun b j q => by unfold PScr; omega))).mono (fun b j q => by unfold PMut; omega))
  · have hi14 := ite_f h14
    refine V_aload_n (i := 0) dX11_livingAfter_17 rfl rfl ?_
    refine V_iconst_n (v := 1) dX11_livingAfter_18 (by decide) ?_
    refine V_callVM dX11_livingAfter_19 (m_throwing (w := _) (n := 1)) okX11_throwing lkRX11_75 (Or.inr ⟨rfl, Nat.le_of_ble_eq_true rfl⟩) rfl rfl rfl rfl (Nat.le_of_ble_eq_true rfl) ⟨Nat.le_of_ble_eq_true rfl, Nat.le_of_ble_eq_true rfl⟩ rfl ?_
    intro u1 hu1
    refine V_iret dX11_livingAfter_22 rfl rfl ?_
    have e9 : fLivingAfter S t = (1, 0, S) := if_neg hi14
    rw [e9]
    exact ⟨⟨_, rfl, fun q => by simp at q⟩, hC.scr (((Fz.nil (P := PScr)).i1 (by omega) (by unfold PScr; omega)).trans (hu1.2.mono (fun b j q => by unfold PScr; omega))), hu1.1, (((Fz.nil (P := PScr)).i1 (by omega) (by unfold PScr; omega)).trans (hu1.2.mono (fun b j q => by unfold PScr; omega))).1⟩
set_option maxRecDepth 100000 in
set_option maxHeartbeats 1000000 in
theorem m_tidesUntilStill {S : Sys} {w : Wd} (hC : MI w S) : Ct 1 MX11_tidesUntilStill 8 0 0 [.ref 47] w (PoM (fTidesUntilStill S) w) := by
  refine Ct_of (by decide +kernel) rfl (Nat.le_of_ble_eq_true rfl) rfl ?_
  have lp : ∀ (fu i : Nat) (w1 : Wd), i ≤ 41 → 41 - i < fu → tus S.1 i = i → Bk w1 48 0 (tideN S.1 i) → Bk w1 50 0 S.1 → gI w1 47 9 = nI 0 → Fz PMut w w1 → V 1 MX11_tidesUntilStill 8 0 0 (PoM (fTidesUntilStill S) w) (fun _ _ => True) 0 0 11 [some (.ref 47), some (.int (nI i))] [] w1 := by
    intro fu
    induction fu with
    | zero => intro i w1 h1 h2; omega
    | succ fu ih =>
      intro i w1 hib hfu htu hB hT h9 hf
      refine V_iload_n (i := 1) dX11_tidesUntilStill_11 rfl rfl ?_
      refine V_bipush_n (v := 40) dX11_tidesUntilStill_12 (by decide) ?_
      refine V_icmp_gt_n (tgt := 34) dX11_tidesUntilStill_14 (by decide) (by omega) (by omega) (fun h14 => ?_) (fun h14 => ?_)
      · refine V_aload_n (i := 0) dX11_tidesUntilStill_34 rfl rfl ?_
        refine V_callVM dX11_tidesUntilStill_35 (m_comesBack hT) okX11_comesBack lkRX11_202 (Or.inr ⟨rfl, Nat.le_of_ble_eq_true rfl⟩) rfl rfl rfl rfl (Nat.le_of_ble_eq_true rfl) ⟨Nat.le_of_ble_eq_true rfl, Nat.le_of_ble_eq_true rfl⟩ rfl ?_
        intro u1 hu1
        refine V_iload_n (i := 1) dX11_tidesUntilStill_38 rfl rfl ?_
        refine V_bipush_n (v := 40) dX11_tidesUntilStill_39 (by decide) ?_
        refine V_icmp_le_n (tgt := 52) dX11_tidesUntilStill_41 (by decide) (by omega) (by omega) (fun h41 => by exfalso; omega) (fun h41 => ?_)
        refine V_aload_n (i := 0) dX11_tidesUntilStill_44 rfl rfl ?_
        refine V_iconst_n (v := 1) dX11_tidesUntilStill_45 (by decide) ?_
        refine V_callVM dX11_tidesUntilStill_46 (m_throwing (w := _) (n := 1)) okX11_throwing lkRX11_75 (Or.inr ⟨rfl, Nat.le_of_ble_eq_true rfl⟩) rfl rfl rfl rfl (Nat.le_of_ble_eq_true rfl) ⟨Nat.le_of_ble_eq_true rfl, Nat.le_of_ble_eq_true rfl⟩ rfl ?_
        intro u2 hu2
        refine V_goto (tgt := 53) dX11_tidesUntilStill_49 (by decide) ?_
        refine V_iret dX11_tidesUntilStill_53 rfl rfl ?_
        have ei : i = 41 := by omega
        subst ei
        have e9 : fTidesUntilStill S = (1, 0, S) := if_neg (by omega)
        rw [e9]
        exact ⟨⟨_, rfl, fun q => by simp at q⟩, hC.mut ((hf.trans (hu1.2.mono (fun b j q => by unfold PMut; omega))).trans (hu2.2.mono (fun b j q => by unfold PMut; omega))) (hu1.1.keep hu2.2 (fun k _ => by omega)), hu2.1, ((hf.trans (hu1.2.mono (fun b j q => by unfold PMut; omega))).trans (hu2.2.mono (fun b j q => by unfold PMut; omega))).1⟩
      · refine V_aload_n (i := 0) dX11_tidesUntilStill_17 rfl rfl ?_
        refine V_callVF dX11_tidesUntilStill_18 (m_isStillNow hB) okX11_isStillNow lkRX11_205 (Or.inr ⟨rfl, Nat.le_of_ble_eq_true rfl⟩) rfl rfl rfl rfl (Nat.le_of_ble_eq_true rfl) ⟨Nat.le_of_ble_eq_true rfl, Nat.le_of_ble_eq_true rfl⟩ rfl ?_
        refine V_if_ne_n (tgt := 34) dX11_tidesUntilStill_21 (by decide) (Nat.lt_of_lt_of_le ite_le (by decide)) (fun h21 => ?_) (fun h21 => ?_)
        · have hi21 := ite_t h21
          refine V_aload_n (i := 0) dX11_tidesUntilStill_34 rfl rfl ?_
          refine V_callVM dX11_tidesUntilStill_35 (m_comesBack hT) okX11_comesBack lkRX11_202 (Or.inr ⟨rfl, Nat.le_of_ble_eq_true rfl⟩) rfl rfl rfl rfl (Nat.le_of_ble_eq_true rfl) ⟨Nat.le_of_ble_eq_true rfl, Nat.le_of_ble_eq_true rfl⟩ rfl ?_
          intro u1 hu1
          refine V_iload_n (i := 1) dX11_tidesUntilStill_38 rfl rfl ?_
          refine V_bipush_n (v := 40) dX11_tidesUntilStill_39 (by decide) ?_
          refine V_icmp_le_n (tgt := 52) dX11_tidesUntilStill_41 (by decide) (by omega) (by omega) (fun h41 => ?_) (fun h41 => by exfalso; omega)
          refine V_iload_n (i := 1) dX11_tidesUntilStill_52 rfl rfl ?_
          refine V_iret dX11_tidesUntilStill_53 rfl rfl ?_
          have ht := tus_hit htu hi21 (show i < 41 by omega)
          have e9 : fTidesUntilStill S = (0, nI (tus S.1 41), S) := if_pos (by omega)
          rw [e9, ht]
          exact ⟨⟨_, rfl, fun _ => rfl⟩, hC.mut (hf.trans (hu1.2.mono (fun b j q => by unfold PMut; omega))) hu1.1, ((hu1.2.gi (by omega)).trans h9), (hf.trans (hu1.2.mono (fun b j q => by unfold PMut; omega))).1⟩
        · have hi21 := ite_f h21
          have hst : ¬ stl (tideN S.1 i) = true := hi21
          refine V_aload_n (i := 0) dX11_tidesUntilStill_24 rfl rfl ?_
          refine V_callVM dX11_tidesUntilStill_25 (m_passes hB) okX11_passes lkRX11_193 (Or.inr ⟨rfl, Nat.le_of_ble_eq_true rfl⟩) rfl rfl rfl rfl (Nat.le_of_ble_eq_true rfl) ⟨Nat.le_of_ble_eq_true rfl, Nat.le_of_ble_eq_true rfl⟩ rfl ?_
          intro u1 hu1
          refine V_iinc_n (b := (i + 1)) dX11_tidesUntilStill_28 rfl (nI_add _ _) rfl rfl ?_
          refine V_goto (tgt := 11) dX11_tidesUntilStill_31 (by decide) ?_
          exact ih (i + 1) _ (by omega) (by omega) (by rw [tus_s, if_neg (by omega), if_neg hi21]) hu1.1 (hT.keep hu1.2 (fun k _ => by omega)) ((hu1.2.gi (by omega)).trans h9) (hf.trans (hu1.2.mono (fun b j q => by unfold PMut; omega)))
  refine V_aload_n (i := 0) dX11_tidesUntilStill_0 rfl rfl ?_
  refine V_iconst_n (v := 0) dX11_tidesUntilStill_1 (by decide) ?_
  refine V_putI (k := 9) (ty := .int) dX11_tidesUntilStill_2 (Or.inr ⟨rfl, Nat.le_of_ble_eq_true rfl⟩) rfl rfl rfl (Nat.le_of_ble_eq_true rfl) flRX11_66 rfl (by decide +kernel) rfl rfl ?_
  refine V_aload_n (i := 0) dX11_tidesUntilStill_5 rfl rfl ?_
  refine V_callVM dX11_tidesUntilStill_6 (m_thinks (hC.1.wr (by decide))) okX11_thinks lkRX11_199 (Or.inr ⟨rfl, Nat.le_of_ble_eq_true rfl⟩) rfl rfl rfl rfl (Nat.le_of_ble_eq_true rfl) ⟨Nat.le_of_ble_eq_true rfl, Nat.le_of_ble_eq_true rfl⟩ rfl ?_
  intro u1 hu1
  refine V_iconst_n (v := 0) dX11_tidesUntilStill_9 (by decide) ?_
  refine V_istore_n (i := 1) dX11_tidesUntilStill_10 rfl (Nat.le_of_ble_eq_true rfl) rfl rfl ?_
  exact lp 42 0 _ (by omega) (by omega) rfl ((hC.1.wr (by decide)).keep hu1.2 (fun k _ => by omega)) hu1.1 ((hu1.2.gi (by omega)).trans pI_at) ((((Fz.nil (P := PScr)).i1 (by omega) (by unfold PScr; omega)).trans (hu1.2.mono (fun b j q => by unfold PScr; omega))).mono (fun b j q => by unfold PMut; omega))
abbrev PBk (b j : Nat) : Prop := b = 48 ∨ PScr b j ∨ (b = 47 ∧ (j = 5 ∨ j = 7)) ∨ b = 51
theorem bkN_lt {n : Nat} (h : n < 8) : bkN n < 8 := by unfold bkN; split <;> omega
set_option maxRecDepth 100000 in
set_option maxHeartbeats 1000000 in
theorem m_undo {S : Sys} {w : Wd} (hC : MI w S) : Ct 1 MX11_undo 2 0 0 [.ref 47] w (PoM (fUndo S) w) := by
  refine Ct_of (by decide +kernel) rfl (Nat.le_of_ble_eq_true rfl) rfl ?_
  have hsz := hC.2.1.1.2
  have hnx := hC.2.1.2.1
  have lp : ∀ (fu i : Nat) (w1 : Wd), i ≤ 71 → 71 - i < fu → 0 < S.2.1.2.1 → gI w1 47 7 = nI (S.2.1.2.1 - 1) → gI w1 47 9 = nI 0 → (∀ k, k < i → gI w1 48 k = bk (S.2.1.2.2 (bkN S.2.1.1)) k) → Bk w1 53 (71 * (S.2.1.2.1 - 1)) (S.2.1.2.2 (bkN S.2.1.1)) → Fz (fun b j => b = 48 ∨ (b = 47 ∧ (j = 7 ∨ j = 9))) w w1 → V 1 MX11_undo 2 0 0 (PoM (fUndo S) w) (fun _ _ => True) 0 0 30 [some (.ref 47), some (.int (nI i))] [] w1 := by
    intro fu
    induction fu with
    | zero => intro i w1 h1 h2; omega
    | succ fu ih =>
      intro i w1 hib hfu hp h7 h9 hc hF hf
      have hsz := hC.2.1.1.2
      refine V_iload_n (i := 1) dX11_undo_30 rfl rfl ?_
      refine V_bipush_n (v := 71) dX11_undo_31 (by decide) ?_
      refine V_icmp_ge_n (tgt := 62) dX11_undo_33 (by decide) (by omega) (by omega) (fun h33 => ?_) (fun h33 => ?_)
      · refine V_aload_n (i := 0) dX11_undo_62 rfl rfl ?_
        refine V_getI (k := 7) dX11_undo_63 (Or.inr ⟨rfl, Nat.le_of_ble_eq_true rfl⟩) rfl rfl rfl (Nat.le_of_ble_eq_true rfl) flRX11_88 ?_
        refine V_top (y := nI (S.2.1.2.1 - 1)) h7 ?_
        refine V_iret dX11_undo_66 rfl rfl ?_
        obtain rfl : i = 71 := by omega
        have hnx := hC.2.1.2.1
        have hb8 := bkN_lt hnx
        have e9 : fUndo S = (0, nI (S.2.1.2.1 - 1), ((S.2.1.2.2 (bkN S.2.1.1)), (bkN S.2.1.1, (S.2.1.2.1 - 1), S.2.1.2.2), S.2.2)) := if_neg (by omega)
        rw [e9]
        refine ⟨⟨_, rfl, fun _ => rfl⟩, ⟨Bk.of0 hF.1 hc, ⟨⟨h7, by show (S.2.1.2.1 - 1) ≤ 8; omega⟩, hb8, fun j hj => ?_⟩, hC.2.2.1.keep hf (fun b j q => by omega), hC.2.2.2.1.keep hf (fun b j q => by omega), hC.2.2.2.2.1.keep hf (fun b j q => by omega), hC.2.2.2.2.2.1.keep hf (fun b j q => by omega), hC.2.2.2.2.2.2.keep hf (fun b j q => by omega)⟩, h9, hf.1⟩
        have hj2 : j < (S.2.1.2.1 - 1) := hj
        have hB := (hC.2.1.2.2 j (by omega)).keep hf (fun k _ => by omega)
        rw [show (S.2.1.1 + 8 - S.2.1.2.1 + j) % 8 = (bkN S.2.1.1 + 8 - (S.2.1.2.1 - 1) + j) % 8 by unfold bkN; split <;> omega] at hB
        exact hB
      · refine V_aload_n (i := 0) dX11_undo_36 rfl rfl ?_
        refine V_getC (k := 0) (q := 48) dX11_undo_37 (Or.inr ⟨rfl, Nat.le_of_ble_eq_true rfl⟩) rfl rfl rfl (Nat.le_of_ble_eq_true rfl) flRX11_9 ?_
        refine V_iload_n (i := 1) dX11_undo_40 rfl rfl ?_
        refine V_aload_n (i := 0) dX11_undo_41 rfl rfl ?_
        refine V_getC (k := 6) (q := 53) dX11_undo_42 (Or.inr ⟨rfl, Nat.le_of_ble_eq_true rfl⟩) rfl rfl rfl (Nat.le_of_ble_eq_true rfl) flRX11_25 ?_
        refine V_bipush_n (v := 71) dX11_undo_45 (by decide) ?_
        refine V_aload_n (i := 0) dX11_undo_47 rfl rfl ?_
        refine V_getI (k := 7) dX11_undo_48 (Or.inr ⟨rfl, Nat.le_of_ble_eq_true rfl⟩) rfl rfl rfl (Nat.le_of_ble_eq_true rfl) flRX11_88 ?_
        refine V_top (y := nI (S.2.1.2.1 - 1)) h7 ?_
        refine V_imul_n dX11_undo_51 ?_
        refine V_iload_n (i := 1) dX11_undo_52 rfl rfl ?_
        refine V_iadd_n dX11_undo_53 ?_
        refine V_iald_n (i := ((71 * (S.2.1.2.1 - 1)) + i)) dX11_undo_54 (Or.inr ⟨rfl, Nat.le_of_ble_eq_true rfl⟩) rfl (by omega) (by decide) ?_
        refine V_top (y := (bk (S.2.1.2.2 (bkN S.2.1.1)) i)) ((hF.2 i (by omega))) ?_
        refine V_iast_n (i := i) dX11_undo_55 (Or.inr ⟨rfl, Nat.le_of_ble_eq_true rfl⟩) rfl (by omega) (by decide) ?_
        refine V_iinc_n (b := (i + 1)) dX11_undo_56 rfl (nI_add _ _) rfl rfl ?_
        refine V_goto (tgt := 30) dX11_undo_59 (by decide) ?_
        exact ih (i + 1) _ (by omega) (by omega) hp (pI_ne (by omega) h7) (pI_ne (by omega) h9) (cp0 hc rfl) (hF.wr (by decide)) (hf.i1 (by omega) (by omega))
  refine V_aload_n (i := 0) dX11_undo_0 rfl rfl ?_
  refine V_iconst_n (v := 0) dX11_undo_1 (by decide) ?_
  refine V_putI (k := 9) (ty := .int) dX11_undo_2 (Or.inr ⟨rfl, Nat.le_of_ble_eq_true rfl⟩) rfl rfl rfl (Nat.le_of_ble_eq_true rfl) flRX11_66 rfl (by decide +kernel) rfl rfl ?_
  refine V_aload_n (i := 0) dX11_undo_5 rfl rfl ?_
  refine V_getI (k := 7) dX11_undo_6 (Or.inr ⟨rfl, Nat.le_of_ble_eq_true rfl⟩) rfl rfl rfl (Nat.le_of_ble_eq_true rfl) flRX11_88 ?_
  refine V_top (y := nI S.2.1.2.1) (pI_ne (by omega) hC.2.1.1.1) ?_
  refine V_if_ne_n (tgt := 18) dX11_undo_9 (by decide) (by omega) (fun h9 => ?_) (fun h9 => ?_)
  · refine V_aload_n (i := 0) dX11_undo_18 rfl rfl ?_
    refine V_dup dX11_undo_19 rfl ?_
    refine V_getI (k := 7) dX11_undo_20 (Or.inr ⟨rfl, Nat.le_of_ble_eq_true rfl⟩) rfl rfl rfl (Nat.le_of_ble_eq_true rfl) flRX11_88 ?_
    refine V_top (y := nI S.2.1.2.1) (pI_ne (by omega) hC.2.1.1.1) ?_
    refine V_iconst_n (v := 1) dX11_undo_23 (by decide) ?_
    refine V_isub_n dX11_undo_24 (by omega) ?_
    refine V_putI (k := 7) (ty := .int) dX11_undo_25 (Or.inr ⟨rfl, Nat.le_of_ble_eq_true rfl⟩) rfl rfl rfl (Nat.le_of_ble_eq_true rfl) flRX11_88 rfl (by decide +kernel) rfl rfl ?_
    refine V_iconst_n (v := 0) dX11_undo_28 (by decide) ?_
    refine V_istore_n (i := 1) dX11_undo_29 rfl (Nat.le_of_ble_eq_true rfl) rfl rfl ?_
    have hB := hC.2.1.2.2 (S.2.1.2.1 - 1) (by omega)
    rw [show (S.2.1.1 + 8 - S.2.1.2.1 + (S.2.1.2.1 - 1)) % 8 = bkN S.2.1.1 by unfold bkN; split <;> omega] at hB
    exact lp 72 0 _ (by omega) (by omega) (by omega) pI_at (pI_ne (by omega) pI_at) (fun k hk => by omega) ((hB.wr (by decide)).wr (by decide)) ((Fz.nil.i1 (by omega) (by omega)).i1 (by omega) (by omega))
  · refine V_aload_n (i := 0) dX11_undo_12 rfl rfl ?_
    refine V_iconst_n (v := 1) dX11_undo_13 (by decide) ?_
    refine V_callVM dX11_undo_14 (m_throwing (w := _) (n := 1)) okX11_throwing lkRX11_75 (Or.inr ⟨rfl, Nat.le_of_ble_eq_true rfl⟩) rfl rfl rfl rfl (Nat.le_of_ble_eq_true rfl) ⟨Nat.le_of_ble_eq_true rfl, Nat.le_of_ble_eq_true rfl⟩ rfl ?_
    intro u1 hu1
    refine V_iret dX11_undo_17 rfl rfl ?_
    have e9 : fUndo S = (1, 0, S) := by simp [fUndo, fCell, fLive, q2, cl_nat, b2, h9]
    rw [e9]
    exact ⟨⟨_, rfl, fun q => by simp at q⟩, hC.scr (((Fz.nil (P := PScr)).i1 (by omega) (by unfold PScr; omega)).trans (hu1.2.mono (fun b j q => by unfold PScr; omega))), hu1.1, (((Fz.nil (P := PScr)).i1 (by omega) (by unfold PScr; omega)).trans (hu1.2.mono (fun b j q => by unfold PScr; omega))).1⟩
set_option maxRecDepth 100000 in
set_option maxHeartbeats 1000000 in
theorem m_saveSnapshot {S : Sys} {w : Wd} (hC : MI w S) : Ct 1 MX11_saveSnapshot 4 0 0 [.ref 47] w (PoM (fSaveSnapshot S) w) := by
  refine Ct_of (by decide +kernel) rfl (Nat.le_of_ble_eq_true rfl) rfl ?_
  have lp : ∀ (fu i : Nat) (w1 : Wd), i ≤ 71 → 71 - i < fu → gI w1 47 9 = nI 0 → (∀ k, k < i → gI w1 51 k = bk S.1 k) → Bk w1 48 0 S.1 → Fz (fun b j => b = 51 ∨ (b = 47 ∧ (j = 5 ∨ j = 9))) w w1 → V 1 MX11_saveSnapshot 4 0 0 (PoM (fSaveSnapshot S) w) (fun _ _ => True) 0 0 7 [some (.ref 47), some (.int (nI i))] [] w1 := by
    intro fu
    induction fu with
    | zero => intro i w1 h1 h2; omega
    | succ fu ih =>
      intro i w1 hib hfu h9 hc hB hf
      refine V_iload_n (i := 1) dX11_saveSnapshot_7 rfl rfl ?_
      refine V_bipush_n (v := 71) dX11_saveSnapshot_8 (by decide) ?_
      refine V_icmp_ge_n (tgt := 31) dX11_saveSnapshot_10 (by decide) (by omega) (by omega) (fun h10 => ?_) (fun h10 => ?_)
      · refine V_aload_n (i := 0) dX11_saveSnapshot_31 rfl rfl ?_
        refine V_iconst_n (v := 1) dX11_saveSnapshot_32 (by decide) ?_
        refine V_putI (k := 5) (ty := .boolean) dX11_saveSnapshot_33 (Or.inr ⟨rfl, Nat.le_of_ble_eq_true rfl⟩) rfl rfl rfl (Nat.le_of_ble_eq_true rfl) flRX11_312 rfl (by decide +kernel) (nar_bool (by omega)) (fit_bool (by omega)) ?_
        refine V_aload_n (i := 0) dX11_saveSnapshot_36 rfl rfl ?_
        have hq59 := cnt_le (C := S.1.1) (q := 42) (n := 64)
        change cnt S.1.1 42 ≤ 64 at hq59
        refine V_callVF dX11_saveSnapshot_37 (m_livings (hB.wr (by decide))) okX11_livings lkRX11_138 (Or.inr ⟨rfl, Nat.le_of_ble_eq_true rfl⟩) rfl rfl rfl rfl (Nat.le_of_ble_eq_true rfl) ⟨Nat.le_of_ble_eq_true rfl, Nat.le_of_ble_eq_true rfl⟩ rfl ?_
        refine V_iret dX11_saveSnapshot_40 rfl rfl ?_
        obtain rfl : i = 71 := by omega
        have hf2 := hf.i1 (a := 47) (k := 5) (v := nI 1) (by omega) (by omega)
        have e9 : fSaveSnapshot S = (0, nI (cnt S.1.1 42), (S.1, S.2.1, (1, S.1), S.2.2.2)) := rfl
        rw [e9]
        exact ⟨⟨_, rfl, fun _ => rfl⟩, ⟨(hB.wr (by decide)), hC.2.1.keep hf2 (fun b j q => by omega), ⟨⟨pI_at, by show 1 < 2; omega⟩, (Bk.of0 hB.1 hc).wr (by decide)⟩, hC.2.2.2.1.keep hf2 (fun b j q => by omega), hC.2.2.2.2.1.keep hf2 (fun b j q => by omega), hC.2.2.2.2.2.1.keep hf2 (fun b j q => by omega), hC.2.2.2.2.2.2.keep hf2 (fun b j q => by omega)⟩, (pI_ne (by omega) h9), hf2.1⟩
      · refine V_aload_n (i := 0) dX11_saveSnapshot_13 rfl rfl ?_
        refine V_getC (k := 3) (q := 51) dX11_saveSnapshot_14 (Or.inr ⟨rfl, Nat.le_of_ble_eq_true rfl⟩) rfl rfl rfl (Nat.le_of_ble_eq_true rfl) flRX11_19 ?_
        refine V_iload_n (i := 1) dX11_saveSnapshot_17 rfl rfl ?_
        refine V_aload_n (i := 0) dX11_saveSnapshot_18 rfl rfl ?_
        refine V_getC (k := 0) (q := 48) dX11_saveSnapshot_19 (Or.inr ⟨rfl, Nat.le_of_ble_eq_true rfl⟩) rfl rfl rfl (Nat.le_of_ble_eq_true rfl) flRX11_9 ?_
        refine V_iload_n (i := 1) dX11_saveSnapshot_22 rfl rfl ?_
        refine V_iald_n (i := i) dX11_saveSnapshot_23 (Or.inr ⟨rfl, Nat.le_of_ble_eq_true rfl⟩) rfl (by omega) (by decide) ?_
        refine V_top (y := (bk S.1 i)) (hB.all0 (by omega)) ?_
        refine V_iast_n (i := i) dX11_saveSnapshot_24 (Or.inr ⟨rfl, Nat.le_of_ble_eq_true rfl⟩) rfl (by omega) (by decide) ?_
        refine V_iinc_n (b := (i + 1)) dX11_saveSnapshot_25 rfl (nI_add _ _) rfl rfl ?_
        refine V_goto (tgt := 7) dX11_saveSnapshot_28 (by decide) ?_
        exact ih (i + 1) _ (by omega) (by omega) (pI_ne (by omega) h9) (cp0 hc rfl) (hB.wr (by decide)) (hf.i1 (by omega) (by omega))
  refine V_aload_n (i := 0) dX11_saveSnapshot_0 rfl rfl ?_
  refine V_iconst_n (v := 0) dX11_saveSnapshot_1 (by decide) ?_
  refine V_putI (k := 9) (ty := .int) dX11_saveSnapshot_2 (Or.inr ⟨rfl, Nat.le_of_ble_eq_true rfl⟩) rfl rfl rfl (Nat.le_of_ble_eq_true rfl) flRX11_66 rfl (by decide +kernel) rfl rfl ?_
  refine V_iconst_n (v := 0) dX11_saveSnapshot_5 (by decide) ?_
  refine V_istore_n (i := 1) dX11_saveSnapshot_6 rfl (Nat.le_of_ble_eq_true rfl) rfl rfl ?_
  exact lp 72 0 _ (by omega) (by omega) pI_at (fun k hk => by omega) (hC.1.wr (by decide)) (Fz.nil.i1 (by omega) (by omega))
set_option maxRecDepth 100000 in
set_option maxHeartbeats 1000000 in
theorem m_restoreSnapshot {S : Sys} {w : Wd} (hC : MI w S) : Ct 1 MX11_restoreSnapshot 4 0 0 [.ref 47] w (PoM (fRestoreSnapshot S) w) := by
  refine Ct_of (by decide +kernel) rfl (Nat.le_of_ble_eq_true rfl) rfl ?_
  have hs2 := hC.2.2.1.1.2
  have lp : ∀ (fu i : Nat) (w1 : Wd), i ≤ 71 → 71 - i < fu → ¬ S.2.2.1.1 = 0 → gI w1 47 9 = nI 0 → (∀ k, k < i → gI w1 48 k = bk S.2.2.1.2 k) → Bk w1 51 0 S.2.2.1.2 → Fz (fun b j => b = 48 ∨ (b = 47 ∧ (j = 7 ∨ j = 9))) w w1 → V 1 MX11_restoreSnapshot 4 0 0 (PoM (fRestoreSnapshot S) w) (fun _ _ => True) 0 0 20 [some (.ref 47), some (.int (nI i))] [] w1 := by
    intro fu
    induction fu with
    | zero => intro i w1 h1 h2; omega
    | succ fu ih =>
      intro i w1 hib hfu hz h9 hc hB hf
      refine V_iload_n (i := 1) dX11_restoreSnapshot_20 rfl rfl ?_
      refine V_bipush_n (v := 71) dX11_restoreSnapshot_21 (by decide) ?_
      refine V_icmp_ge_n (tgt := 44) dX11_restoreSnapshot_23 (by decide) (by omega) (by omega) (fun h23 => ?_) (fun h23 => ?_)
      · obtain rfl : i = 71 := by omega
        refine V_aload_n (i := 0) dX11_restoreSnapshot_44 rfl rfl ?_
        refine V_iconst_n (v := 0) dX11_restoreSnapshot_45 (by decide) ?_
        refine V_putI (k := 7) (ty := .int) dX11_restoreSnapshot_46 (Or.inr ⟨rfl, Nat.le_of_ble_eq_true rfl⟩) rfl rfl rfl (Nat.le_of_ble_eq_true rfl) flRX11_88 rfl (by decide +kernel) rfl rfl ?_
        refine V_aload_n (i := 0) dX11_restoreSnapshot_49 rfl rfl ?_
        have hq60 := cnt_le (C := S.2.2.1.2.1) (q := 42) (n := 64)
        change cnt S.2.2.1.2.1 42 ≤ 64 at hq60
        refine V_callVF dX11_restoreSnapshot_50 (m_livings ((Bk.of0 hB.1 hc).wr (by decide))) okX11_livings lkRX11_138 (Or.inr ⟨rfl, Nat.le_of_ble_eq_true rfl⟩) rfl rfl rfl rfl (Nat.le_of_ble_eq_true rfl) ⟨Nat.le_of_ble_eq_true rfl, Nat.le_of_ble_eq_true rfl⟩ rfl ?_
        refine V_iret dX11_restoreSnapshot_53 rfl rfl ?_
        have hf2 := hf.i1 (a := 47) (k := 7) (v := nI 0) (by omega) (by omega)
        have e9 : fRestoreSnapshot S = (0, nI (cnt S.2.2.1.2.1 42), (S.2.2.1.2, (S.2.1.1, 0, S.2.1.2.2), S.2.2)) := if_neg hz
        rw [e9]
        exact ⟨⟨_, rfl, fun _ => rfl⟩, ⟨((Bk.of0 hB.1 hc).wr (by decide)), ⟨⟨pI_at, by show 0 ≤ 8; omega⟩, hC.2.1.2.1, fun j hj => by have : j < 0 := hj; omega⟩, hC.2.2.1.keep hf2 (fun b j q => by omega), hC.2.2.2.1.keep hf2 (fun b j q => by omega), hC.2.2.2.2.1.keep hf2 (fun b j q => by omega), hC.2.2.2.2.2.1.keep hf2 (fun b j q => by omega), hC.2.2.2.2.2.2.keep hf2 (fun b j q => by omega)⟩, (pI_ne (by omega) h9), hf2.1⟩
      · refine V_aload_n (i := 0) dX11_restoreSnapshot_26 rfl rfl ?_
        refine V_getC (k := 0) (q := 48) dX11_restoreSnapshot_27 (Or.inr ⟨rfl, Nat.le_of_ble_eq_true rfl⟩) rfl rfl rfl (Nat.le_of_ble_eq_true rfl) flRX11_9 ?_
        refine V_iload_n (i := 1) dX11_restoreSnapshot_30 rfl rfl ?_
        refine V_aload_n (i := 0) dX11_restoreSnapshot_31 rfl rfl ?_
        refine V_getC (k := 3) (q := 51) dX11_restoreSnapshot_32 (Or.inr ⟨rfl, Nat.le_of_ble_eq_true rfl⟩) rfl rfl rfl (Nat.le_of_ble_eq_true rfl) flRX11_19 ?_
        refine V_iload_n (i := 1) dX11_restoreSnapshot_35 rfl rfl ?_
        refine V_iald_n (i := i) dX11_restoreSnapshot_36 (Or.inr ⟨rfl, Nat.le_of_ble_eq_true rfl⟩) rfl (by omega) (by decide) ?_
        refine V_top (y := (bk S.2.2.1.2 i)) (hB.all0 (by omega)) ?_
        refine V_iast_n (i := i) dX11_restoreSnapshot_37 (Or.inr ⟨rfl, Nat.le_of_ble_eq_true rfl⟩) rfl (by omega) (by decide) ?_
        refine V_iinc_n (b := (i + 1)) dX11_restoreSnapshot_38 rfl (nI_add _ _) rfl rfl ?_
        refine V_goto (tgt := 20) dX11_restoreSnapshot_41 (by decide) ?_
        exact ih (i + 1) _ (by omega) (by omega) hz (pI_ne (by omega) h9) (cp0 hc rfl) (hB.wr (by decide)) (hf.i1 (by omega) (by omega))
  refine V_aload_n (i := 0) dX11_restoreSnapshot_0 rfl rfl ?_
  refine V_iconst_n (v := 0) dX11_restoreSnapshot_1 (by decide) ?_
  refine V_putI (k := 9) (ty := .int) dX11_restoreSnapshot_2 (Or.inr ⟨rfl, Nat.le_of_ble_eq_true rfl⟩) rfl rfl rfl (Nat.le_of_ble_eq_true rfl) flRX11_66 rfl (by decide +kernel) rfl rfl ?_
  refine V_aload_n (i := 0) dX11_restoreSnapshot_5 rfl rfl ?_
  refine V_getI (k := 5) dX11_restoreSnapshot_6 (Or.inr ⟨rfl, Nat.le_of_ble_eq_true rfl⟩) rfl rfl rfl (Nat.le_of_ble_eq_true rfl) flRX11_312 ?_
  refine V_top (y := nI S.2.2.1.1) (pI_ne (by omega) hC.2.2.1.1.1) ?_
  refine V_if_ne_n (tgt := 18) dX11_restoreSnapshot_9 (by decide) (by omega) (fun h9 => ?_) (fun h9 => ?_)
  · refine V_iconst_n (v := 0) dX11_restoreSnapshot_18 (by decide) ?_
    refine V_istore_n (i := 1) dX11_restoreSnapshot_19 rfl (Nat.le_of_ble_eq_true rfl) rfl rfl ?_
    exact lp 72 0 _ (by omega) (by omega) h9 pI_at (fun k hk => by omega) (hC.2.2.1.2.wr (by decide)) (Fz.nil.i1 (by omega) (by omega))
  · refine V_aload_n (i := 0) dX11_restoreSnapshot_12 rfl rfl ?_
    refine V_iconst_n (v := 1) dX11_restoreSnapshot_13 (by decide) ?_
    refine V_callVM dX11_restoreSnapshot_14 (m_throwing (w := _) (n := 1)) okX11_throwing lkRX11_75 (Or.inr ⟨rfl, Nat.le_of_ble_eq_true rfl⟩) rfl rfl rfl rfl (Nat.le_of_ble_eq_true rfl) ⟨Nat.le_of_ble_eq_true rfl, Nat.le_of_ble_eq_true rfl⟩ rfl ?_
    intro u1 hu1
    refine V_iret dX11_restoreSnapshot_17 rfl rfl ?_
    have e9 : fRestoreSnapshot S = (1, 0, S) := by simp [fRestoreSnapshot, fCell, fLive, q2, cl_nat, b2, h9]
    rw [e9]
    exact ⟨⟨_, rfl, fun q => by simp at q⟩, hC.scr (((Fz.nil (P := PScr)).i1 (by omega) (by unfold PScr; omega)).trans (hu1.2.mono (fun b j q => by unfold PScr; omega))), hu1.1, (((Fz.nil (P := PScr)).i1 (by omega) (by unfold PScr; omega)).trans (hu1.2.mono (fun b j q => by unfold PScr; omega))).1⟩
abbrev PLi (b j : Nat) : Prop := (b = 47 ∧ j = 23) ∨ (b = 60 ∧ j = j)
abbrev PWr (b j : Nat) : Prop := (b = 47 ∧ (j = 9 ∨ j = 23)) ∨ b = 60
theorem MI.line {w w1 : Wd} {S : Sys} {l : List Nat} (h : MI w S) (hF : Fz PWr w w1) (hO : OutI w1 47 23 60 l) (hl : l.length ≤ 32) (ha : asc l) : MI w1 (wOut S l) :=
  ⟨h.1.keep hF (fun k _ => by omega), h.2.1.keep hF (fun b j q => by omega), h.2.2.1.keep hF (fun b j q => by omega), ⟨hO, hl, ha⟩, h.2.2.2.2.1.keep hF (fun b j q => by omega), h.2.2.2.2.2.1.keep hF (fun b j q => by omega), h.2.2.2.2.2.2.keep hF (fun b j q => by omega)⟩
set_option maxRecDepth 100000 in
set_option maxHeartbeats 1000000 in
theorem m_sign {x : Int32} {q : Nat} {l : List Nat} {w : Wd} (hO : OutI w 47 23 60 l) (hl : l.length < 32) (hx : x = nI q) : Ct 1 MX11_sign 1 0 0 [.ref 47, .int x] w (Mt none fun w1 => OutI w1 47 23 60 (l ++ [q]) ∧ Fz PLi w w1) := by
  refine Ct_of (by decide +kernel) rfl (Nat.le_of_ble_eq_true rfl) rfl ?_
  subst hx
  refine V_aload_n (i := 0) dX11_sign_0 rfl rfl ?_
  refine V_getC (k := 22) (q := 60) dX11_sign_1 (Or.inr ⟨rfl, Nat.le_of_ble_eq_true rfl⟩) rfl rfl rfl (Nat.le_of_ble_eq_true rfl) flRX11_50 ?_
  refine V_aload_n (i := 0) dX11_sign_4 rfl rfl ?_
  refine V_getI (k := 23) dX11_sign_5 (Or.inr ⟨rfl, Nat.le_of_ble_eq_true rfl⟩) rfl rfl rfl (Nat.le_of_ble_eq_true rfl) flRX11_246 ?_
  refine V_top (y := nI l.length) hO.1 ?_
  refine V_iload_n (i := 1) dX11_sign_8 rfl rfl ?_
  refine V_iast_n (i := l.length) dX11_sign_9 (Or.inr ⟨rfl, Nat.le_of_ble_eq_true rfl⟩) rfl (by omega) (by decide) ?_
  refine V_aload_n (i := 0) dX11_sign_10 rfl rfl ?_
  refine V_dup dX11_sign_11 rfl ?_
  refine V_getI (k := 23) dX11_sign_12 (Or.inr ⟨rfl, Nat.le_of_ble_eq_true rfl⟩) rfl rfl rfl (Nat.le_of_ble_eq_true rfl) flRX11_246 ?_
  refine V_top (y := nI l.length) (pI_ne (by omega) hO.1) ?_
  refine V_iconst_n (v := 1) dX11_sign_15 (by decide) ?_
  refine V_iadd_n dX11_sign_16 ?_
  refine V_putI (k := 23) (ty := .int) dX11_sign_17 (Or.inr ⟨rfl, Nat.le_of_ble_eq_true rfl⟩) rfl rfl rfl (Nat.le_of_ble_eq_true rfl) flRX11_246 rfl (by decide +kernel) rfl rfl ?_
  refine V_vret dX11_sign_20 rfl ?_
  exact ⟨rfl, hO.snoc (by decide) rfl, (((Fz.nil (P := PLi)).i1 (by omega) (by unfold PLi; omega)).i1 (by omega) (by unfold PLi; omega))⟩
theorem sgn_e {v : Nat} (h : okc v) : sgn v = if v < 10 then (if v = 0 then 46 else 35) else kc v - (if 5 ≤ (v - 10) % 10 then 32 else 0) := by
  unfold okc at h
  unfold sgn
  by_cases h0 : v = 0
  · rw [if_pos h0, if_pos (by omega), if_pos h0]
  · rw [if_neg h0]
    by_cases h1 : v < 10
    · rw [if_pos h1, if_pos h1, if_neg h0]
    · have hk := kc_in (v := v) (by omega) (by omega)
      rw [if_neg h1, if_neg h1, hk.2.2.2]
      split <;> rfl
set_option maxRecDepth 100000 in
set_option maxHeartbeats 1000000 in
theorem m_writeRow {x : Int32} {r : Int} {S : Sys} {w : Wd} (hC : MI w S) (hx : x = zI r) (r1 : -2147483648 ≤ r) (r2 : r < 2147483648) : Ct 1 MX11_writeRow 8 0 0 [.ref 47, .int x] w (PoM (fWriteRow S r) w) := by
  refine Ct_of (by decide +kernel) rfl (Nat.le_of_ble_eq_true rfl) rfl ?_
  subst hx
  refine V_aload_n (i := 0) dX11_writeRow_0 rfl rfl ?_
  refine V_iconst_n (v := 0) dX11_writeRow_1 (by decide) ?_
  refine V_putI (k := 9) (ty := .int) dX11_writeRow_2 (Or.inr ⟨rfl, Nat.le_of_ble_eq_true rfl⟩) rfl rfl rfl (Nat.le_of_ble_eq_true rfl) flRX11_66 rfl (by decide +kernel) rfl rfl ?_
  refine V_iload_n (i := 1) dX11_writeRow_5 rfl rfl ?_
  refine V_i2l dX11_writeRow_6 ?_
  refine V_topL (y := zL (r)) (zI_zL (by omega) (by omega)) ?_
  refine V_lconst (v := zL 0) dX11_writeRow_7 (by decide) ?_
  refine V_ldc2 dX11_writeRow_8 csRX11_91 ?_
  refine V_topL (y := zL 7) (by decide) ?_
  refine V_callSF dX11_writeRow_11 (c_in (a := (r)) (b := 0) (c := 7) (by omega) (by omega) (by omega) (by omega) (by omega) (by omega)) okX11_in lkRX11_93 rfl rfl (Nat.le_of_ble_eq_true rfl) ⟨Nat.le_of_ble_eq_true rfl, Nat.le_of_ble_eq_true rfl⟩ rfl ?_
  refine V_if_ne_n (tgt := 23) dX11_writeRow_14 (by decide) (Nat.lt_of_lt_of_le ite_le (by decide)) (fun h14 => ?_) (fun h14 => ?_)
  · have hi14 := ite_t h14
    obtain ⟨r0, rfl⟩ : ∃ n : Nat, r = (n : Int) := ⟨r.toNat, by omega⟩
    simp only [← zI_n]
    have lp : ∀ (fu i : Nat) (w1 : Wd), i ≤ 8 → 8 - i < fu → r0 < 8 → OutI w1 47 23 60 (rowL S.1.1 r0 i) → gI w1 47 9 = nI 0 → Fz PWr w w1 → V 1 MX11_writeRow 8 0 0 (PoM (fWriteRow S (r0 : Int)) w) (fun _ _ => True) 0 0 30 [some (.ref 47), some (.int (nI r0)), some (.int (nI i)), none] [] w1 := by
      intro fu
      induction fu with
      | zero => intro i w1 h1 h2; omega
      | succ fu ih =>
        intro i w1 hib hfu hr8 hO h9 hf
        refine V_iload_n (i := 2) dX11_writeRow_30 rfl rfl ?_
        refine V_bipush_n (v := 8) dX11_writeRow_31 (by decide) ?_
        refine V_icmp_ge_n (tgt := 102) dX11_writeRow_33 (by decide) (by omega) (by omega) (fun h33 => ?_) (fun h33 => ?_)
        · have ei : i = 8 := by omega
          subst ei
          refine V_aload_n (i := 0) dX11_writeRow_102 rfl rfl ?_
          refine V_getI (k := 23) dX11_writeRow_103 (Or.inr ⟨rfl, Nat.le_of_ble_eq_true rfl⟩) rfl rfl rfl (Nat.le_of_ble_eq_true rfl) flRX11_246 ?_
          refine V_top (y := nI (rowL S.1.1 r0 8).length) hO.1 ?_
          refine V_iret dX11_writeRow_106 rfl rfl ?_
          have e9 : fWriteRow S (r0 : Int) = (0, nI 8, wOut S (rowL S.1.1 r0 8)) := if_pos (by omega)
          rw [e9]
          exact ⟨⟨_, rfl, fun _ => by rw [rowL_len]⟩, hC.line hf hO (by rw [rowL_len]; omega) (rowL_asc hr8 hC.1.1.1 8 (by omega)), h9, hf.1⟩
        · have es := sgn_e (hC.1.1.1 (8 * r0 + i) (by omega))
          refine V_aload_n (i := 0) dX11_writeRow_36 rfl rfl ?_
          refine V_iload_n (i := 1) dX11_writeRow_37 rfl rfl ?_
          refine V_iload_n (i := 2) dX11_writeRow_38 rfl rfl ?_
          refine V_callSF dX11_writeRow_39 (m_cellOf (r := r0) (c := i) (rfl) (rfl)) okX11_cellOf lkRX11_108 rfl rfl (Nat.le_of_ble_eq_true rfl) ⟨Nat.le_of_ble_eq_true rfl, Nat.le_of_ble_eq_true rfl⟩ rfl ?_
          have hv61 := (hC.1.keep hf (fun k _ => by omega)).1.1 ((8 * r0 + i)) (by omega)
          unfold okc at hv61
          refine V_callVF dX11_writeRow_42 (m_at (hC.1.keep hf (fun k _ => by omega)) (k := (8 * r0 + i)) (by omega)) okX11_at lkRX11_101 (Or.inr ⟨rfl, Nat.le_of_ble_eq_true rfl⟩) rfl rfl rfl rfl (Nat.le_of_ble_eq_true rfl) ⟨Nat.le_of_ble_eq_true rfl, Nat.le_of_ble_eq_true rfl⟩ rfl ?_
          refine V_istore_n (i := 3) dX11_writeRow_45 rfl (Nat.le_of_ble_eq_true rfl) rfl rfl ?_
          refine V_iload_n (i := 3) dX11_writeRow_46 rfl rfl ?_
          refine V_bipush_n (v := 10) dX11_writeRow_47 (by decide) ?_
          refine V_icmp_ge_n (tgt := 70) dX11_writeRow_49 (by decide) (by omega) (by omega) (fun h49 => ?_) (fun h49 => ?_)
          · refine V_aload_n (i := 0) dX11_writeRow_70 rfl rfl ?_
            refine V_iload_n (i := 3) dX11_writeRow_71 rfl rfl ?_
            have hc62 := kc_in (v := (S.1.1 (8 * r0 + i))) (by omega) (by omega)
            refine V_callSF dX11_writeRow_72 (m_colourOf (v := (S.1.1 (8 * r0 + i))) (by omega) (by omega)) okX11_colourOf lkRX11_112 rfl rfl (Nat.le_of_ble_eq_true rfl) ⟨Nat.le_of_ble_eq_true rfl, Nat.le_of_ble_eq_true rfl⟩ rfl ?_
            refine V_iload_n (i := 3) dX11_writeRow_75 rfl rfl ?_
            refine V_bipush_n (v := 10) dX11_writeRow_76 (by decide) ?_
            refine V_isub_n dX11_writeRow_78 (by omega) ?_
            refine V_bipush_n (v := 10) dX11_writeRow_79 (by decide) ?_
            refine V_irem_n dX11_writeRow_81 (by omega) (by omega) (by omega) ?_
            refine V_iconst_n (v := 5) dX11_writeRow_82 (by decide) ?_
            refine V_icmp_lt_n (tgt := 91) dX11_writeRow_83 (by decide) (by omega) (by omega) (fun h83 => ?_) (fun h83 => ?_)
            · refine V_iconst_n (v := 0) dX11_writeRow_91 (by decide) ?_
              refine V_isub_n dX11_writeRow_92 (by omega) ?_
              refine V_callVM dX11_writeRow_93 (m_sign (q := ((kc (S.1.1 (8 * r0 + i))) - 0)) hO (by rw [rowL_len]; omega) (rfl)) okX11_sign lkRX11_249 (Or.inr ⟨rfl, Nat.le_of_ble_eq_true rfl⟩) rfl rfl rfl rfl (Nat.le_of_ble_eq_true rfl) ⟨Nat.le_of_ble_eq_true rfl, Nat.le_of_ble_eq_true rfl⟩ rfl ?_
              intro u1 hu1
              refine V_iinc_n (b := (i + 1)) dX11_writeRow_96 rfl (nI_add _ _) rfl rfl ?_
              refine V_goto (tgt := 30) dX11_writeRow_99 (by decide) ?_
              have hO9 := hu1.1
              rw [show (rowL S.1.1 r0 i) ++ [((kc (S.1.1 (8 * r0 + i))) - 0)] = rowL S.1.1 r0 (i + 1) by show _ = (rowL S.1.1 r0 i) ++ [sgn (S.1.1 (8 * r0 + i))]; rw [es, if_neg (by omega), if_neg (by omega)]] at hO9
              exact (ih (i + 1) _ (by omega) (by omega) hr8 hO9 ((hu1.2.gi (by omega)).trans h9) (hf.trans (hu1.2.mono (fun b j q => by unfold PWr; omega)))).sub (by repeat' (first | exact trivial | exact rfl | constructor))
            · refine V_bipush_n (v := 32) dX11_writeRow_86 (by decide) ?_
              refine V_goto (tgt := 92) dX11_writeRow_88 (by decide) ?_
              refine V_isub_n dX11_writeRow_92 (by omega) ?_
              refine V_callVM dX11_writeRow_93 (m_sign (q := ((kc (S.1.1 (8 * r0 + i))) - 32)) hO (by rw [rowL_len]; omega) (rfl)) okX11_sign lkRX11_249 (Or.inr ⟨rfl, Nat.le_of_ble_eq_true rfl⟩) rfl rfl rfl rfl (Nat.le_of_ble_eq_true rfl) ⟨Nat.le_of_ble_eq_true rfl, Nat.le_of_ble_eq_true rfl⟩ rfl ?_
              intro u1 hu1
              refine V_iinc_n (b := (i + 1)) dX11_writeRow_96 rfl (nI_add _ _) rfl rfl ?_
              refine V_goto (tgt := 30) dX11_writeRow_99 (by decide) ?_
              have hO9 := hu1.1
              rw [show (rowL S.1.1 r0 i) ++ [((kc (S.1.1 (8 * r0 + i))) - 32)] = rowL S.1.1 r0 (i + 1) by show _ = (rowL S.1.1 r0 i) ++ [sgn (S.1.1 (8 * r0 + i))]; rw [es, if_neg (by omega), if_pos (by omega)]] at hO9
              exact (ih (i + 1) _ (by omega) (by omega) hr8 hO9 ((hu1.2.gi (by omega)).trans h9) (hf.trans (hu1.2.mono (fun b j q => by unfold PWr; omega)))).sub (by repeat' (first | exact trivial | exact rfl | constructor))
          · refine V_aload_n (i := 0) dX11_writeRow_52 rfl rfl ?_
            refine V_iload_n (i := 3) dX11_writeRow_53 rfl rfl ?_
            refine V_if_ne_n (tgt := 62) dX11_writeRow_54 (by decide) (by omega) (fun h54 => ?_) (fun h54 => ?_)
            · refine V_bipush_n (v := 35) dX11_writeRow_62 (by decide) ?_
              refine V_callVM dX11_writeRow_64 (m_sign (q := 35) hO (by rw [rowL_len]; omega) (rfl)) okX11_sign lkRX11_249 (Or.inr ⟨rfl, Nat.le_of_ble_eq_true rfl⟩) rfl rfl rfl rfl (Nat.le_of_ble_eq_true rfl) ⟨Nat.le_of_ble_eq_true rfl, Nat.le_of_ble_eq_true rfl⟩ rfl ?_
              intro u1 hu1
              refine V_goto (tgt := 96) dX11_writeRow_67 (by decide) ?_
              refine V_iinc_n (b := (i + 1)) dX11_writeRow_96 rfl (nI_add _ _) rfl rfl ?_
              refine V_goto (tgt := 30) dX11_writeRow_99 (by decide) ?_
              have hO9 := hu1.1
              rw [show (rowL S.1.1 r0 i) ++ [35] = rowL S.1.1 r0 (i + 1) by show _ = (rowL S.1.1 r0 i) ++ [sgn (S.1.1 (8 * r0 + i))]; rw [es, if_pos (by omega), if_neg (by omega)]] at hO9
              exact (ih (i + 1) _ (by omega) (by omega) hr8 hO9 ((hu1.2.gi (by omega)).trans h9) (hf.trans (hu1.2.mono (fun b j q => by unfold PWr; omega)))).sub (by repeat' (first | exact trivial | exact rfl | constructor))
            · refine V_bipush_n (v := 46) dX11_writeRow_57 (by decide) ?_
              refine V_goto (tgt := 64) dX11_writeRow_59 (by decide) ?_
              refine V_callVM dX11_writeRow_64 (m_sign (q := 46) hO (by rw [rowL_len]; omega) (rfl)) okX11_sign lkRX11_249 (Or.inr ⟨rfl, Nat.le_of_ble_eq_true rfl⟩) rfl rfl rfl rfl (Nat.le_of_ble_eq_true rfl) ⟨Nat.le_of_ble_eq_true rfl, Nat.le_of_ble_eq_true rfl⟩ rfl ?_
              intro u1 hu1
              refine V_goto (tgt := 96) dX11_writeRow_67 (by decide) ?_
              refine V_iinc_n (b := (i + 1)) dX11_writeRow_96 rfl (nI_add _ _) rfl rfl ?_
              refine V_goto (tgt := 30) dX11_writeRow_99 (by decide) ?_
              have hO9 := hu1.1
              rw [show (rowL S.1.1 r0 i) ++ [46] = rowL S.1.1 r0 (i + 1) by show _ = (rowL S.1.1 r0 i) ++ [sgn (S.1.1 (8 * r0 + i))]; rw [es, if_pos (by omega), if_pos (by omega)]] at hO9
              exact (ih (i + 1) _ (by omega) (by omega) hr8 hO9 ((hu1.2.gi (by omega)).trans h9) (hf.trans (hu1.2.mono (fun b j q => by unfold PWr; omega)))).sub (by repeat' (first | exact trivial | exact rfl | constructor))
    refine V_aload_n (i := 0) dX11_writeRow_23 rfl rfl ?_
    refine V_iconst_n (v := 0) dX11_writeRow_24 (by decide) ?_
    refine V_putI (k := 23) (ty := .int) dX11_writeRow_25 (Or.inr ⟨rfl, Nat.le_of_ble_eq_true rfl⟩) rfl rfl rfl (Nat.le_of_ble_eq_true rfl) flRX11_246 rfl (by decide +kernel) rfl rfl ?_
    refine V_iconst_n (v := 0) dX11_writeRow_28 (by decide) ?_
    refine V_istore_n (i := 2) dX11_writeRow_29 rfl (Nat.le_of_ble_eq_true rfl) rfl rfl ?_
    exact (lp 9 0 _ (by omega) (by omega) (by omega) (OutI.clear rfl) (pI_ne (by omega) pI_at) ((Fz.nil.i1 (by omega) (by omega)).i1 (by omega) (by omega))).sub (by repeat' (first | exact trivial | exact rfl | constructor))
  · have hi14 := ite_f h14
    refine V_aload_n (i := 0) dX11_writeRow_17 rfl rfl ?_
    refine V_iconst_n (v := 1) dX11_writeRow_18 (by decide) ?_
    refine V_callVM dX11_writeRow_19 (m_throwing (w := _) (n := 1)) okX11_throwing lkRX11_75 (Or.inr ⟨rfl, Nat.le_of_ble_eq_true rfl⟩) rfl rfl rfl rfl (Nat.le_of_ble_eq_true rfl) ⟨Nat.le_of_ble_eq_true rfl, Nat.le_of_ble_eq_true rfl⟩ rfl ?_
    intro u1 hu1
    refine V_iret dX11_writeRow_22 rfl rfl ?_
    have e9 : fWriteRow S r = (1, 0, S) := if_neg (by omega)
    rw [e9]
    exact ⟨⟨_, rfl, fun q => by simp at q⟩, hC.scr (((Fz.nil (P := PScr)).i1 (by omega) (by unfold PScr; omega)).trans (hu1.2.mono (fun b j q => by unfold PScr; omega))), hu1.1, (((Fz.nil (P := PScr)).i1 (by omega) (by unfold PScr; omega)).trans (hu1.2.mono (fun b j q => by unfold PScr; omega))).1⟩
end MMF2
