/-! THE PLAIN FORM: its face. Printed by wip/whole/gen/mk34.py. -/
section MMFACE
abbrev PRe (b j : Nat) : Prop := b = 47 ∧ (j = 12 ∨ j = 13 ∨ j = 14)
abbrev PPs (b j : Nat) : Prop := (b = 47 ∧ j = 7) ∨ (b = 53 ∧ j = j)
/-- what noting a call's end leaves -/
def ChP (k y : Nat) (ab : Int32) (H : Nat × Nat × (Nat → St)) (s : St) (w w1 : Wd) : Prop :=
  (k = 0 → PaI w1 (kpH H s) ∧ Fz PPs w w1) ∧ (k ≠ 0 → y = 0 → w1 = w) ∧ (k ≠ 0 → y ≠ 0 → gI w1 47 12 = nI y ∧ gI w1 47 13 = ab ∧ gI w1 47 14 = nI 0 ∧ Fz PRe w w1)
theorem kpH_1 {H : Nat × Nat × (Nat → St)} {s : St} : (kpH H s).1 = if H.1 < 7 then H.1 + 1 else 0 := rfl
theorem kpH_2 {H : Nat × Nat × (Nat → St)} {s : St} : (kpH H s).2.1 = min (H.2.1 + 1) 8 := rfl
theorem kpH_old {H : Nat × Nat × (Nat → St)} {s : St} {i j : Nat} (hij : i = j) (hn : ¬ j = H.1) : (kpH H s).2.2 i = H.2.2 j := by subst hij; exact if_neg hn
theorem kpH_new {H : Nat × Nat × (Nat → St)} {s : St} {i : Nat} (hi : i = H.1) : (kpH H s).2.2 i = s := by subst hi; exact if_pos rfl
set_option maxRecDepth 100000 in
set_option maxHeartbeats 1000000 in
theorem m_changed {k y : Nat} {x ab : Int32} {H : Nat × Nat × (Nat → St)} {s : St} {w : Wd} (hP : PaI w H) (hA : Bk w 49 0 s) (h9 : gI w 47 9 = nI k) (h15 : gI w 47 15 = nI y) (h16 : y ≠ 0 → gI w 47 16 = ab) (hk3 : k ≤ 3) (hy5 : y ≤ 5) : Ct 1 MX11_changed 1 0 0 [.ref 47, .int x] w (Mt (some (.int x)) fun w1 => ChP k y ab H s w w1) := by
  refine Ct_of (by decide +kernel) rfl (Nat.le_of_ble_eq_true rfl) rfl ?_
  have hsz := hP.1.2
  have hnx := hP.2.1
  have lp2 : ∀ (fu i : Nat) (c : Nat) (w1 : Wd), i ≤ 71 → 71 - i < fu → k = 0 → c < 8 → (kpH H s).2.1 = c + 1 → (kpH H s).1 < 8 → ((kpH H s).1 + 8 - (c + 1) + c) % 8 = H.1 → gI w1 47 7 = nI c → (∀ j, j < c → Bk w1 53 (71 * j) ((kpH H s).2.2 (((kpH H s).1 + 8 - (c + 1) + j) % 8))) → (∀ j, j < i → gI w1 53 (71 * c + j) = bk s j) → Bk w1 49 0 s → Fz PPs w w1 → V 1 MX11_changed 1 0 0 (Mt (some (.int x)) fun w1 => ChP k y ab H s w w1) (fun _ _ => True) 0 0 88 [some (.ref 47), some (.int x), some (.int (nI i))] [] w1 := by
    intro fu
    induction fu with
    | zero => intro i c w1 h1 h2; omega
    | succ fu ih2 =>
      intro i c w1 hib hfu hk0 hc8 hn hb8 hlast h7 hbl hcp hA hf
      refine V_iload_n (i := 2) dX11_changed_88 rfl rfl ?_
      refine V_bipush_n (v := 71) dX11_changed_89 (by decide) ?_
      refine V_icmp_ge_n (tgt := 120) dX11_changed_91 (by decide) (by omega) (by omega) (fun h91 => ?_) (fun h91 => ?_)
      · refine V_aload_n (i := 0) dX11_changed_120 rfl rfl ?_
        refine V_dup dX11_changed_121 rfl ?_
        refine V_getI (k := 7) dX11_changed_122 (Or.inr ⟨rfl, Nat.le_of_ble_eq_true rfl⟩) rfl rfl rfl (Nat.le_of_ble_eq_true rfl) flRX11_88 ?_
        refine V_top (y := nI c) h7 ?_
        refine V_iconst_n (v := 1) dX11_changed_125 (by decide) ?_
        refine V_iadd_n dX11_changed_126 ?_
        refine V_putI (k := 7) (ty := .int) dX11_changed_127 (Or.inr ⟨rfl, Nat.le_of_ble_eq_true rfl⟩) rfl rfl rfl (Nat.le_of_ble_eq_true rfl) flRX11_88 rfl (by decide +kernel) rfl rfl ?_
        refine V_iload_n (i := 1) dX11_changed_130 rfl rfl ?_
        refine V_iret dX11_changed_131 rfl rfl ?_
        obtain rfl : i = 71 := by omega
        refine ⟨rfl, fun _ => ⟨⟨⟨by rw [hn]; exact pI_at, by rw [hn]; omega⟩, hb8, fun j hj => ?_⟩, (hf.i1 (by omega) (by unfold PPs; omega))⟩, fun q => absurd hk0 q, fun q => absurd hk0 q⟩
        rw [hn] at hj ⊢
        by_cases e : j = c
        · subst e
          refine Bk.wr ⟨by rw [kpH_new hlast]; exact hA.1, fun k9 hk9 => ?_⟩ (by decide)
          rw [kpH_new hlast]
          exact hcp k9 hk9
        · exact (hbl j (by omega)).wr (by decide)
      · refine V_aload_n (i := 0) dX11_changed_94 rfl rfl ?_
        refine V_getC (k := 6) (q := 53) dX11_changed_95 (Or.inr ⟨rfl, Nat.le_of_ble_eq_true rfl⟩) rfl rfl rfl (Nat.le_of_ble_eq_true rfl) flRX11_25 ?_
        refine V_bipush_n (v := 71) dX11_changed_98 (by decide) ?_
        refine V_aload_n (i := 0) dX11_changed_100 rfl rfl ?_
        refine V_getI (k := 7) dX11_changed_101 (Or.inr ⟨rfl, Nat.le_of_ble_eq_true rfl⟩) rfl rfl rfl (Nat.le_of_ble_eq_true rfl) flRX11_88 ?_
        refine V_top (y := nI c) h7 ?_
        refine V_imul_n dX11_changed_104 ?_
        refine V_iload_n (i := 2) dX11_changed_105 rfl rfl ?_
        refine V_iadd_n dX11_changed_106 ?_
        refine V_aload_n (i := 0) dX11_changed_107 rfl rfl ?_
        refine V_getC (k := 1) (q := 49) dX11_changed_108 (Or.inr ⟨rfl, Nat.le_of_ble_eq_true rfl⟩) rfl rfl rfl (Nat.le_of_ble_eq_true rfl) flRX11_13 ?_
        refine V_iload_n (i := 2) dX11_changed_111 rfl rfl ?_
        refine V_iald_n (i := i) dX11_changed_112 (Or.inr ⟨rfl, Nat.le_of_ble_eq_true rfl⟩) rfl (by omega) (by decide) ?_
        refine V_top (y := (bk s i)) (hA.all0 (by omega)) ?_
        refine V_iast_n (i := ((71 * c) + i)) dX11_changed_113 (Or.inr ⟨rfl, Nat.le_of_ble_eq_true rfl⟩) rfl (by omega) (by decide) ?_
        refine V_iinc_n (b := (i + 1)) dX11_changed_114 rfl (nI_add _ _) rfl rfl ?_
        refine V_goto (tgt := 88) dX11_changed_117 (by decide) ?_
        refine ih2 (i + 1) c _ (by omega) (by omega) hk0 hc8 hn hb8 hlast (pI_ne (by omega) h7) (fun j hj => (hbl j hj).wk (fun k9 hk9 => by omega)) (fun j hj => ?_) (hA.wr (by decide)) (hf.i1 (by omega) (by unfold PPs; omega))
        by_cases e : j = i
        · rw [e]; exact pI_at
        · exact pI_ne (by omega) (hcp j (by omega))
  have lp1 : ∀ (fu i : Nat) (w1 : Wd), i ≤ 497 → 497 - i < fu → k = 0 → H.2.1 = 8 → gI w1 47 7 = nI 8 → (∀ j, j < i → gI w1 53 j = gI w 53 (j + 71)) → (∀ j, i ≤ j → gI w1 53 j = gI w 53 j) → Bk w1 49 0 s → Fz PPs w w1 → V 1 MX11_changed 1 0 0 (Mt (some (.int x)) fun w1 => ChP k y ab H s w w1) (fun _ _ => True) 0 0 48 [some (.ref 47), some (.int x), some (.int (nI i))] [] w1 := by
    intro fu
    induction fu with
    | zero => intro i w1 h1 h2; omega
    | succ fu ih1 =>
      intro i w1 hib hfu hk0 hs8 h7 hlo hhi hA hf
      refine V_iload_n (i := 2) dX11_changed_48 rfl rfl ?_
      refine V_sipush_n (v := 497) dX11_changed_49 (by decide) ?_
      refine V_icmp_ge_n (tgt := 76) dX11_changed_52 (by decide) (by omega) (by omega) (fun h52 => ?_) (fun h52 => ?_)
      · refine V_aload_n (i := 0) dX11_changed_76 rfl rfl ?_
        refine V_dup dX11_changed_77 rfl ?_
        refine V_getI (k := 7) dX11_changed_78 (Or.inr ⟨rfl, Nat.le_of_ble_eq_true rfl⟩) rfl rfl rfl (Nat.le_of_ble_eq_true rfl) flRX11_88 ?_
        refine V_top (y := nI 8) h7 ?_
        refine V_iconst_n (v := 1) dX11_changed_81 (by decide) ?_
        refine V_isub_n dX11_changed_82 (by omega) ?_
        refine V_putI (k := 7) (ty := .int) dX11_changed_83 (Or.inr ⟨rfl, Nat.le_of_ble_eq_true rfl⟩) rfl rfl rfl (Nat.le_of_ble_eq_true rfl) flRX11_88 rfl (by decide +kernel) rfl rfl ?_
        refine V_iconst_n (v := 0) dX11_changed_86 (by decide) ?_
        refine V_istore_n (i := 2) dX11_changed_87 rfl (Nat.le_of_ble_eq_true rfl) rfl rfl ?_
        obtain rfl : i = 497 := by omega
        have hH1 := hP.2.1
        have hH2 := @kpH_2 H s
        have hH3 := @kpH_1 H s
        refine lp2 72 0 7 _ (by omega) (by omega) hk0 (by omega) (by rw [hH2, hs8]; rfl) (by rw [hH3]; split <;> omega) (by rw [hH3]; split <;> omega) pI_at (fun j hj => Bk.wr ?_ (by decide)) (fun j hj => by omega) (hA.wr (by decide)) (hf.i1 (by omega) (by unfold PPs; omega))
        have hB := hP.2.2 (j + 1) (by omega)
        refine ⟨?_, fun k9 hk9 => ?_⟩
        · rw [kpH_old (j := (H.1 + 8 - H.2.1 + (j + 1)) % 8) (by rw [hH3]; split <;> omega) (by omega)]
          exact hB.1
        · rw [kpH_old (j := (H.1 + 8 - H.2.1 + (j + 1)) % 8) (by rw [hH3]; split <;> omega) (by omega), hlo (71 * j + k9) (by omega), ← hB.2 k9 hk9]
          congr 1
          omega
      · refine V_aload_n (i := 0) dX11_changed_55 rfl rfl ?_
        refine V_getC (k := 6) (q := 53) dX11_changed_56 (Or.inr ⟨rfl, Nat.le_of_ble_eq_true rfl⟩) rfl rfl rfl (Nat.le_of_ble_eq_true rfl) flRX11_25 ?_
        refine V_iload_n (i := 2) dX11_changed_59 rfl rfl ?_
        refine V_aload_n (i := 0) dX11_changed_60 rfl rfl ?_
        refine V_getC (k := 6) (q := 53) dX11_changed_61 (Or.inr ⟨rfl, Nat.le_of_ble_eq_true rfl⟩) rfl rfl rfl (Nat.le_of_ble_eq_true rfl) flRX11_25 ?_
        refine V_iload_n (i := 2) dX11_changed_64 rfl rfl ?_
        refine V_bipush_n (v := 71) dX11_changed_65 (by decide) ?_
        refine V_iadd_n dX11_changed_67 ?_
        refine V_iald_n (i := (i + 71)) dX11_changed_68 (Or.inr ⟨rfl, Nat.le_of_ble_eq_true rfl⟩) rfl (by omega) (by decide) ?_
        refine V_top (y := (gI w 53 (i + 71))) (hhi (i + 71) (by omega)) ?_
        refine V_iast_n (i := i) dX11_changed_69 (Or.inr ⟨rfl, Nat.le_of_ble_eq_true rfl⟩) rfl (by omega) (by decide) ?_
        refine V_iinc_n (b := (i + 1)) dX11_changed_70 rfl (nI_add _ _) rfl rfl ?_
        refine V_goto (tgt := 48) dX11_changed_73 (by decide) ?_
        exact ih1 (i + 1) _ (by omega) (by omega) hk0 hs8 (pI_ne (by omega) h7) (cp0 (f := fun j => gI w 53 (j + 71)) hlo rfl) (fun j hj => pI_ne (by omega) (hhi j (by omega))) (hA.wr (by decide)) (hf.i1 (by omega) (by unfold PPs; omega))
  refine V_aload_n (i := 0) dX11_changed_0 rfl rfl ?_
  refine V_getI (k := 9) dX11_changed_1 (Or.inr ⟨rfl, Nat.le_of_ble_eq_true rfl⟩) rfl rfl rfl (Nat.le_of_ble_eq_true rfl) flRX11_66 ?_
  refine V_top (y := nI k) h9 ?_
  refine V_if_le_n (tgt := 37) dX11_changed_4 (by decide) (by omega) (fun h4 => ?_) (fun h4 => ?_)
  · refine V_aload_n (i := 0) dX11_changed_37 rfl rfl ?_
    refine V_getI (k := 7) dX11_changed_38 (Or.inr ⟨rfl, Nat.le_of_ble_eq_true rfl⟩) rfl rfl rfl (Nat.le_of_ble_eq_true rfl) flRX11_88 ?_
    refine V_top (y := nI H.2.1) hP.1.1 ?_
    refine V_bipush_n (v := 8) dX11_changed_41 (by decide) ?_
    refine V_icmp_ne_n (tgt := 86) dX11_changed_43 (by decide) (by omega) (by omega) (fun h43 => ?_) (fun h43 => ?_)
    · refine V_iconst_n (v := 0) dX11_changed_86 (by decide) ?_
      refine V_istore_n (i := 2) dX11_changed_87 rfl (Nat.le_of_ble_eq_true rfl) rfl rfl ?_
      have hH2 := @kpH_2 H s
      have hH3 := @kpH_1 H s
      refine lp2 72 0 H.2.1 w (by omega) (by omega) h4 (by omega) (by rw [hH2, Nat.min_eq_left (by omega)]) (by rw [hH3]; split <;> omega) (by rw [hH3]; split <;> omega) hP.1.1 (fun j hj => ?_) (fun j hj => by omega) hA Fz.nil
      rw [kpH_old (j := (H.1 + 8 - H.2.1 + j) % 8) (by rw [hH3]; split <;> omega) (by omega)]
      exact hP.2.2 j hj
    · refine V_iconst_n (v := 0) dX11_changed_46 (by decide) ?_
      refine V_istore_n (i := 2) dX11_changed_47 rfl (Nat.le_of_ble_eq_true rfl) rfl rfl ?_
      exact lp1 498 0 w (by omega) (by omega) h4 (by omega) (by rw [← h43]; exact hP.1.1) (fun j hj => by omega) (fun _ _ => rfl) hA Fz.nil
  · refine V_aload_n (i := 0) dX11_changed_7 rfl rfl ?_
    refine V_getI (k := 15) dX11_changed_8 (Or.inr ⟨rfl, Nat.le_of_ble_eq_true rfl⟩) rfl rfl rfl (Nat.le_of_ble_eq_true rfl) flRX11_69 ?_
    refine V_top (y := nI y) h15 ?_
    refine V_if_le_n (tgt := 35) dX11_changed_11 (by decide) (by omega) (fun h11 => ?_) (fun h11 => ?_)
    · refine V_iload_n (i := 1) dX11_changed_35 rfl rfl ?_
      refine V_iret dX11_changed_36 rfl rfl ?_
      refine ⟨rfl, fun q => by omega, fun _ q => ?_, fun _ q => ?_⟩
      · first | rfl | omega
      · omega
    · refine V_aload_n (i := 0) dX11_changed_14 rfl rfl ?_
      refine V_aload_n (i := 0) dX11_changed_15 rfl rfl ?_
      refine V_getI (k := 15) dX11_changed_16 (Or.inr ⟨rfl, Nat.le_of_ble_eq_true rfl⟩) rfl rfl rfl (Nat.le_of_ble_eq_true rfl) flRX11_69 ?_
      refine V_top (y := nI y) h15 ?_
      refine V_putI (k := 12) (ty := .int) dX11_changed_19 (Or.inr ⟨rfl, Nat.le_of_ble_eq_true rfl⟩) rfl rfl rfl (Nat.le_of_ble_eq_true rfl) flRX11_79 rfl (by decide +kernel) rfl rfl ?_
      refine V_aload_n (i := 0) dX11_changed_22 rfl rfl ?_
      refine V_aload_n (i := 0) dX11_changed_23 rfl rfl ?_
      refine V_getI (k := 16) dX11_changed_24 (Or.inr ⟨rfl, Nat.le_of_ble_eq_true rfl⟩) rfl rfl rfl (Nat.le_of_ble_eq_true rfl) flRX11_72 ?_
      refine V_top (y := (gI w 47 16)) (pI_ne (by omega) rfl) ?_
      refine V_putI (k := 13) (ty := .int) dX11_changed_27 (Or.inr ⟨rfl, Nat.le_of_ble_eq_true rfl⟩) rfl rfl rfl (Nat.le_of_ble_eq_true rfl) flRX11_82 rfl (by decide +kernel) rfl rfl ?_
      refine V_aload_n (i := 0) dX11_changed_30 rfl rfl ?_
      refine V_iconst_n (v := 0) dX11_changed_31 (by decide) ?_
      refine V_putI (k := 14) (ty := .int) dX11_changed_32 (Or.inr ⟨rfl, Nat.le_of_ble_eq_true rfl⟩) rfl rfl rfl (Nat.le_of_ble_eq_true rfl) flRX11_85 rfl (by decide +kernel) rfl rfl ?_
      refine V_iload_n (i := 1) dX11_changed_35 rfl rfl ?_
      refine V_iret dX11_changed_36 rfl rfl ?_
      refine ⟨rfl, fun q => by omega, fun _ q => ?_, fun _ q => ?_⟩
      · first | rfl | omega
      · exact ⟨(pI_ne (by omega) (pI_ne (by omega) pI_at)), (rfl).trans (h16 q), pI_at, ((((Fz.nil (P := PRe)).i1 (by omega) (by unfold PRe; omega)).i1 (by omega) (by unfold PRe; omega)).i1 (by omega) (by unfold PRe; omega))⟩
theorem MI.ch0 {w u1 u2 u3 : Wd} {S : Sys} {I : It} (hM : MI w S) (h1 : Fz PSt w u1) (h2 : ItW I u1 u2) (hL : ItL I) (hs : I.1 ≠ 0 → I.2.2.1 = S.1) (h3 : ChP I.1 I.2.2.2.1 I.2.2.2.2 S.2.1 S.1 u2 u3) : MI u3 (mkR S I).2.2 ∧ gI u3 47 9 = nI (mkR S I).1 ∧ Fr InMo w u3 := by
  have h12 : Fz PMut w u2 := (h1.mono (fun b j q => by omega)).trans (h2.2.2.2.2.mono (fun b j q => by omega))
  have hM2 : MI u2 (I.2.2.1, S.2) := hM.mut h12 h2.1
  by_cases hk : I.1 = 0
  · obtain ⟨hp, hf⟩ := h3.1 hk
    have e : mkR S I = (0, I.2.1, kp S I.2.2.1) := if_pos hk
    rw [e]
    refine ⟨⟨hM2.1.keep hf (fun k _ => by omega), hp, hM2.2.2.1.keep hf (fun b j q => by omega), hM2.2.2.2.1.keep hf (fun b j q => by omega), hM2.2.2.2.2.1.keep hf (fun b j q => by omega), hM2.2.2.2.2.2.1.keep hf (fun b j q => by omega), hM2.2.2.2.2.2.2.keep hf (fun b j q => by omega)⟩, ?_, h12.1.trans hf.1⟩
    rw [hf.gi (by omega), h2.2.1, hk]
  · rw [hs hk] at hM2
    by_cases hy : I.2.2.2.1 = 0
    · have e3 := h3.2.1 hk hy
      subst e3
      have e : mkR S I = (I.1, 0, S) := by unfold mkR; rw [if_neg hk, if_pos hy]
      rw [e]
      exact ⟨hM2, h2.2.1, h12.1⟩
    · obtain ⟨g1, g2, g3, hf⟩ := h3.2.2 hk hy
      have e : mkR S I = (I.1, 0, rj S I.2.2.2.1 I.2.2.2.2 0) := by unfold mkR; rw [if_neg hk, if_neg hy]
      have hr := hM2.2.2.2.2.2.1
      have hy5 := hL.2
      rw [e]
      refine ⟨⟨hM2.1.keep hf (fun k _ => by omega), hM2.2.1.keep hf (fun b j q => by omega), hM2.2.2.1.keep hf (fun b j q => by omega), hM2.2.2.2.1.keep hf (fun b j q => by omega), hM2.2.2.2.2.1.keep hf (fun b j q => by omega), ⟨⟨(hf.gi (by omega)).trans hr.1.1, hr.1.2⟩, ⟨g1, ?_⟩, g2, ⟨g3, ?_⟩, ?_⟩, hM2.2.2.2.2.2.2.keep hf (fun b j q => by omega)⟩, ?_, h12.1.trans hf.1⟩
      · show I.2.2.2.1 ≤ 6; omega
      · show 0 ≤ 5; omega
      · show I.2.2.2.1 = 6 ↔ (0 : Nat) ≠ 0; omega
      · rw [hf.gi (by omega)]; exact h2.2.1
theorem mkR_val {S : Sys} {I : It} {x : Int32} (h : I.1 = 0 → x = I.2.1) : (mkR S I).1 = 0 → x = (mkR S I).2.1 := by
  unfold mkR
  split
  · next hk => intro _; exact h hk
  · next hk => split <;> exact fun q => absurd q hk
def c16 (x : Int32) : Int32 := nI (x.toBitVec.toNat % 65536)
theorem c16_n {a : Nat} (h : a < 65536) : c16 (nI a) = nI a := by unfold c16; rw [pk_tn (by omega), Nat.mod_eq_of_lt h]
theorem mkR_val16 {S : Sys} {I : It} {x : Int32} (h : I.1 = 0 → x = I.2.1) (hc : I.1 = 0 → c16 I.2.1 = I.2.1) : (mkR S I).1 = 0 → c16 x = (mkR S I).2.1 := by
  unfold mkR
  split
  · next hk => intro _; show c16 x = I.2.1; rw [h hk]; exact hc hk
  · next hk => split <;> exact fun q => absurd q hk
theorem itPlace_same {s : St} {r c : Int} {q : Nat} : (itPlace s r c q).1 ≠ 0 → (itPlace s r c q).2.2.1 = s := by
  unfold itPlace
  repeat' split
  all_goals first | (intro _; rfl) | (intro q; exact absurd rfl q)
theorem itRemove_same {s : St} {r c : Int} : (itRemove s r c).1 ≠ 0 → (itRemove s r c).2.2.1 = s := by
  unfold itRemove
  repeat' split
  all_goals first | (intro _; rfl) | (intro q; exact absurd rfl q)
theorem itBleach_same {s : St} {r c : Int} : (itBleach s r c).1 ≠ 0 → (itBleach s r c).2.2.1 = s := by
  unfold itBleach
  repeat' split
  all_goals first | (intro _; rfl) | (intro q; exact absurd rfl q)
theorem itRecolour_same {s : St} {r c : Int} {q : Nat} : (itRecolour s r c q).1 ≠ 0 → (itRecolour s r c q).2.2.1 = s := by
  unfold itRecolour
  repeat' split
  all_goals first | (intro _; rfl) | (intro q; exact absurd rfl q)
theorem itPlant_same {s : St} {r c : Int} {pt q : Nat} : (itPlant s r c pt q).1 ≠ 0 → (itPlant s r c pt q).2.2.1 = s := by
  unfold itPlant
  repeat' split
  all_goals first | (intro _; rfl) | (intro q; exact absurd rfl q)
theorem itRule_same {s : St} {x : Nat} : (itRule s x).1 ≠ 0 → (itRule s x).2.2.1 = s := by
  unfold itRule
  repeat' split
  all_goals first | (intro _; rfl) | (intro q; exact absurd rfl q)
theorem itTides_same {s : St} {t : Int} : (itTides s t).1 ≠ 0 → (itTides s t).2.2.1 = s := by
  unfold itTides
  repeat' split
  all_goals first | (intro _; rfl) | (intro q; exact absurd rfl q)
theorem itRecolour_16 {s : St} {r c : Int} {q : Nat} (h : OkS s) : (itRecolour s r c q).1 = 0 → c16 (itRecolour s r c q).2.1 = (itRecolour s r c q).2.1 := by
  unfold itRecolour
  by_cases hin : ins r c = false
  · rw [if_pos hin]; intro q; cases q
  · rw [if_neg hin]
    have hi := ins_iff.mp (by cases e : ins r c with | true => rfl | false => exact absurd e hin)
    have hk := kc_lt (h.1 (cl r c) (by unfold cl; omega))
    repeat' split
    all_goals first | (intro q; cases q; done) | (intro _; exact c16_n (by omega))
theorem itRule_16 {s : St} {x : Nat} : (itRule s x).1 = 0 → c16 (itRule s x).2.1 = (itRule s x).2.1 := by
  have hl := @rl_lt s.2.1
  unfold itRule
  repeat' split
  all_goals first | (intro q; cases q; done) | (intro _; exact c16_n (by omega))
set_option maxRecDepth 100000 in
set_option maxHeartbeats 1000000 in
theorem m_place {x y : Int32} {r c : Int} {q : Nat} {S : Sys} {w : Wd} (hC : MI w S) (hx : x = zI r) (hy : y = zI c) (r1 : -2147483648 ≤ r) (r2 : r < 2147483648) (c1 : -2147483648 ≤ c) (c2 : c < 2147483648) (hq : q < 65536) : Ct 1 MX11_place 9 0 0 [.ref 47, .int x, .int y, .int (nI q)] w (PoM (fPlace S r c q) w) := by
  refine Ct_of (by decide +kernel) rfl (Nat.le_of_ble_eq_true rfl) rfl ?_
  subst hx hy
  refine V_aload_n (i := 0) dX11_place_0 rfl rfl ?_
  refine V_callVM dX11_place_1 (m_starts hC.1) okX11_starts lkRX11_142 (Or.inr ⟨rfl, Nat.le_of_ble_eq_true rfl⟩) rfl rfl rfl rfl (Nat.le_of_ble_eq_true rfl) ⟨Nat.le_of_ble_eq_true rfl, Nat.le_of_ble_eq_true rfl⟩ rfl ?_
  intro u1 hu1
  refine V_aload_n (i := 0) dX11_place_4 rfl rfl ?_
  refine V_aload_n (i := 0) dX11_place_5 rfl rfl ?_
  refine V_iload_n (i := 1) dX11_place_6 rfl rfl ?_
  refine V_iload_n (i := 2) dX11_place_7 rfl rfl ?_
  refine V_iload_n (i := 3) dX11_place_8 rfl rfl ?_
  refine V_callV dX11_place_9 (m_placeIt (s := S.1) (hC.1.keep hu1.2.2.2 (fun k _ => by omega)) hu1.1 hu1.2.1 rfl rfl r1 r2 c1 c2 hq) okX11_placeIt lkRX11_145 (Or.inr ⟨rfl, Nat.le_of_ble_eq_true rfl⟩) rfl rfl rfl rfl (Nat.le_of_ble_eq_true rfl) ⟨Nat.le_of_ble_eq_true rfl, Nat.le_of_ble_eq_true rfl⟩ rfl ⟨Nat.zero_le _, Nat.zero_le _⟩ (fun v9 u2 hu2 => ?_) (fun E9 w9 h9 => by obtain ⟨⟨x9, h9, _⟩, _⟩ := h9; cases h9)
  obtain ⟨⟨x2, e9, hx2⟩, hu2⟩ := hu2
  cases e9
  have hf2 := (hu1.2.2.2.mono (Q := PMut) (fun b j q => by omega)).trans (hu2.2.2.2.2.mono (fun b j q => by omega))
  refine V_callVM dX11_place_12 (m_changed (x := x2) (hC.2.1.keep hf2 (fun b j q => by omega)) (hu1.2.2.1.keep hu2.2.2.2.2 (fun k _ => by omega)) hu2.2.1 hu2.2.2.1 hu2.2.2.2.1 (itPlace_le (s := S.1) ).1 (itPlace_le (s := S.1) ).2) okX11_changed lkRX11_148 (Or.inr ⟨rfl, Nat.le_of_ble_eq_true rfl⟩) rfl rfl rfl rfl (Nat.le_of_ble_eq_true rfl) ⟨Nat.le_of_ble_eq_true rfl, Nat.le_of_ble_eq_true rfl⟩ rfl ?_
  intro u3 hu3
  refine V_iret dX11_place_15 rfl rfl ?_
  rw [fPlace_it]
  exact ⟨⟨_, rfl, (mkR_val hx2)⟩, hC.ch0 hu1.2.2.2 hu2 itPlace_le itPlace_same hu3⟩
set_option maxRecDepth 100000 in
set_option maxHeartbeats 1000000 in
theorem m_remove {x y : Int32} {r c : Int} {S : Sys} {w : Wd} (hC : MI w S) (hx : x = zI r) (hy : y = zI c) (r1 : -2147483648 ≤ r) (r2 : r < 2147483648) (c1 : -2147483648 ≤ c) (c2 : c < 2147483648) : Ct 1 MX11_remove 9 0 0 [.ref 47, .int x, .int y] w (PoM (fRemove S r c) w) := by
  refine Ct_of (by decide +kernel) rfl (Nat.le_of_ble_eq_true rfl) rfl ?_
  subst hx hy
  refine V_aload_n (i := 0) dX11_remove_0 rfl rfl ?_
  refine V_callVM dX11_remove_1 (m_starts hC.1) okX11_starts lkRX11_142 (Or.inr ⟨rfl, Nat.le_of_ble_eq_true rfl⟩) rfl rfl rfl rfl (Nat.le_of_ble_eq_true rfl) ⟨Nat.le_of_ble_eq_true rfl, Nat.le_of_ble_eq_true rfl⟩ rfl ?_
  intro u1 hu1
  refine V_aload_n (i := 0) dX11_remove_4 rfl rfl ?_
  refine V_aload_n (i := 0) dX11_remove_5 rfl rfl ?_
  refine V_iload_n (i := 1) dX11_remove_6 rfl rfl ?_
  refine V_iload_n (i := 2) dX11_remove_7 rfl rfl ?_
  refine V_callV dX11_remove_8 (m_removeIt (s := S.1) (hC.1.keep hu1.2.2.2 (fun k _ => by omega)) hu1.1 hu1.2.1 rfl rfl r1 r2 c1 c2) okX11_removeIt lkRX11_151 (Or.inr ⟨rfl, Nat.le_of_ble_eq_true rfl⟩) rfl rfl rfl rfl (Nat.le_of_ble_eq_true rfl) ⟨Nat.le_of_ble_eq_true rfl, Nat.le_of_ble_eq_true rfl⟩ rfl ⟨Nat.zero_le _, Nat.zero_le _⟩ (fun v9 u2 hu2 => ?_) (fun E9 w9 h9 => by obtain ⟨⟨x9, h9, _⟩, _⟩ := h9; cases h9)
  obtain ⟨⟨x2, e9, hx2⟩, hu2⟩ := hu2
  cases e9
  have hf2 := (hu1.2.2.2.mono (Q := PMut) (fun b j q => by omega)).trans (hu2.2.2.2.2.mono (fun b j q => by omega))
  refine V_callVM dX11_remove_11 (m_changed (x := x2) (hC.2.1.keep hf2 (fun b j q => by omega)) (hu1.2.2.1.keep hu2.2.2.2.2 (fun k _ => by omega)) hu2.2.1 hu2.2.2.1 hu2.2.2.2.1 (itRemove_le (s := S.1) ).1 (itRemove_le (s := S.1) ).2) okX11_changed lkRX11_148 (Or.inr ⟨rfl, Nat.le_of_ble_eq_true rfl⟩) rfl rfl rfl rfl (Nat.le_of_ble_eq_true rfl) ⟨Nat.le_of_ble_eq_true rfl, Nat.le_of_ble_eq_true rfl⟩ rfl ?_
  intro u3 hu3
  refine V_iret dX11_remove_14 rfl rfl ?_
  rw [fRemove_it]
  exact ⟨⟨_, rfl, (mkR_val hx2)⟩, hC.ch0 hu1.2.2.2 hu2 itRemove_le itRemove_same hu3⟩
set_option maxRecDepth 100000 in
set_option maxHeartbeats 1000000 in
theorem m_bleach {x y : Int32} {r c : Int} {S : Sys} {w : Wd} (hC : MI w S) (hx : x = zI r) (hy : y = zI c) (r1 : -2147483648 ≤ r) (r2 : r < 2147483648) (c1 : -2147483648 ≤ c) (c2 : c < 2147483648) : Ct 1 MX11_bleach 9 0 0 [.ref 47, .int x, .int y] w (PoM (fBleach S r c) w) := by
  refine Ct_of (by decide +kernel) rfl (Nat.le_of_ble_eq_true rfl) rfl ?_
  subst hx hy
  refine V_aload_n (i := 0) dX11_bleach_0 rfl rfl ?_
  refine V_callVM dX11_bleach_1 (m_starts hC.1) okX11_starts lkRX11_142 (Or.inr ⟨rfl, Nat.le_of_ble_eq_true rfl⟩) rfl rfl rfl rfl (Nat.le_of_ble_eq_true rfl) ⟨Nat.le_of_ble_eq_true rfl, Nat.le_of_ble_eq_true rfl⟩ rfl ?_
  intro u1 hu1
  refine V_aload_n (i := 0) dX11_bleach_4 rfl rfl ?_
  refine V_aload_n (i := 0) dX11_bleach_5 rfl rfl ?_
  refine V_iload_n (i := 1) dX11_bleach_6 rfl rfl ?_
  refine V_iload_n (i := 2) dX11_bleach_7 rfl rfl ?_
  refine V_callV dX11_bleach_8 (m_bleachIt (s := S.1) (hC.1.keep hu1.2.2.2 (fun k _ => by omega)) hu1.1 hu1.2.1 rfl rfl r1 r2 c1 c2) okX11_bleachIt lkRX11_157 (Or.inr ⟨rfl, Nat.le_of_ble_eq_true rfl⟩) rfl rfl rfl rfl (Nat.le_of_ble_eq_true rfl) ⟨Nat.le_of_ble_eq_true rfl, Nat.le_of_ble_eq_true rfl⟩ rfl ⟨Nat.zero_le _, Nat.zero_le _⟩ (fun v9 u2 hu2 => ?_) (fun E9 w9 h9 => by obtain ⟨⟨x9, h9, _⟩, _⟩ := h9; cases h9)
  obtain ⟨⟨x2, e9, hx2⟩, hu2⟩ := hu2
  cases e9
  have hf2 := (hu1.2.2.2.mono (Q := PMut) (fun b j q => by omega)).trans (hu2.2.2.2.2.mono (fun b j q => by omega))
  refine V_callVM dX11_bleach_11 (m_changed (x := x2) (hC.2.1.keep hf2 (fun b j q => by omega)) (hu1.2.2.1.keep hu2.2.2.2.2 (fun k _ => by omega)) hu2.2.1 hu2.2.2.1 hu2.2.2.2.1 (itBleach_le (s := S.1) ).1 (itBleach_le (s := S.1) ).2) okX11_changed lkRX11_148 (Or.inr ⟨rfl, Nat.le_of_ble_eq_true rfl⟩) rfl rfl rfl rfl (Nat.le_of_ble_eq_true rfl) ⟨Nat.le_of_ble_eq_true rfl, Nat.le_of_ble_eq_true rfl⟩ rfl ?_
  intro u3 hu3
  refine V_iret dX11_bleach_14 rfl rfl ?_
  rw [fBleach_it]
  exact ⟨⟨_, rfl, (mkR_val hx2)⟩, hC.ch0 hu1.2.2.2 hu2 itBleach_le itBleach_same hu3⟩
set_option maxRecDepth 100000 in
set_option maxHeartbeats 1000000 in
theorem m_recolour {x y : Int32} {r c : Int} {q : Nat} {S : Sys} {w : Wd} (hC : MI w S) (hx : x = zI r) (hy : y = zI c) (r1 : -2147483648 ≤ r) (r2 : r < 2147483648) (c1 : -2147483648 ≤ c) (c2 : c < 2147483648) (hq : q < 65536) : Ct 1 MX11_recolour 9 0 0 [.ref 47, .int x, .int y, .int (nI q)] w (PoM (fRecolour S r c q) w) := by
  refine Ct_of (by decide +kernel) rfl (Nat.le_of_ble_eq_true rfl) rfl ?_
  subst hx hy
  refine V_aload_n (i := 0) dX11_recolour_0 rfl rfl ?_
  refine V_callVM dX11_recolour_1 (m_starts hC.1) okX11_starts lkRX11_142 (Or.inr ⟨rfl, Nat.le_of_ble_eq_true rfl⟩) rfl rfl rfl rfl (Nat.le_of_ble_eq_true rfl) ⟨Nat.le_of_ble_eq_true rfl, Nat.le_of_ble_eq_true rfl⟩ rfl ?_
  intro u1 hu1
  refine V_aload_n (i := 0) dX11_recolour_4 rfl rfl ?_
  refine V_aload_n (i := 0) dX11_recolour_5 rfl rfl ?_
  refine V_iload_n (i := 1) dX11_recolour_6 rfl rfl ?_
  refine V_iload_n (i := 2) dX11_recolour_7 rfl rfl ?_
  refine V_iload_n (i := 3) dX11_recolour_8 rfl rfl ?_
  refine V_callV dX11_recolour_9 (m_recolourIt (s := S.1) (hC.1.keep hu1.2.2.2 (fun k _ => by omega)) hu1.1 hu1.2.1 rfl rfl r1 r2 c1 c2 hq) okX11_recolourIt lkRX11_160 (Or.inr ⟨rfl, Nat.le_of_ble_eq_true rfl⟩) rfl rfl rfl rfl (Nat.le_of_ble_eq_true rfl) ⟨Nat.le_of_ble_eq_true rfl, Nat.le_of_ble_eq_true rfl⟩ rfl ⟨Nat.zero_le _, Nat.zero_le _⟩ (fun v9 u2 hu2 => ?_) (fun E9 w9 h9 => by obtain ⟨⟨x9, h9, _⟩, _⟩ := h9; cases h9)
  obtain ⟨⟨x2, e9, hx2⟩, hu2⟩ := hu2
  cases e9
  have hf2 := (hu1.2.2.2.mono (Q := PMut) (fun b j q => by omega)).trans (hu2.2.2.2.2.mono (fun b j q => by omega))
  refine V_callVM dX11_recolour_12 (m_changed (x := x2) (hC.2.1.keep hf2 (fun b j q => by omega)) (hu1.2.2.1.keep hu2.2.2.2.2 (fun k _ => by omega)) hu2.2.1 hu2.2.2.1 hu2.2.2.2.1 (itRecolour_le (s := S.1) ).1 (itRecolour_le (s := S.1) ).2) okX11_changed lkRX11_148 (Or.inr ⟨rfl, Nat.le_of_ble_eq_true rfl⟩) rfl rfl rfl rfl (Nat.le_of_ble_eq_true rfl) ⟨Nat.le_of_ble_eq_true rfl, Nat.le_of_ble_eq_true rfl⟩ rfl ?_
  intro u3 hu3
  refine V_i2c dX11_recolour_15 ?_
  refine V_iret dX11_recolour_16 rfl (nar_char (Nat.mod_lt _ (by decide))) ?_
  rw [fRecolour_it]
  exact ⟨⟨_, rfl, (mkR_val16 hx2 (itRecolour_16 hC.1.1))⟩, hC.ch0 hu1.2.2.2 hu2 itRecolour_le itRecolour_same hu3⟩
set_option maxRecDepth 100000 in
set_option maxHeartbeats 1000000 in
theorem m_plant {x y : Int32} {r c : Int} {pt q : Nat} {S : Sys} {w : Wd} (hC : MI w S) (hx : x = zI r) (hy : y = zI c) (r1 : -2147483648 ≤ r) (r2 : r < 2147483648) (c1 : -2147483648 ≤ c) (c2 : c < 2147483648) (hpt : pt < 65536) (hq : q < 65536) : Ct 1 MX11_plant 9 0 0 [.ref 47, .int x, .int y, .int (nI pt), .int (nI q)] w (PoM (fPlant S r c pt q) w) := by
  refine Ct_of (by decide +kernel) rfl (Nat.le_of_ble_eq_true rfl) rfl ?_
  subst hx hy
  refine V_aload_n (i := 0) dX11_plant_0 rfl rfl ?_
  refine V_callVM dX11_plant_1 (m_starts hC.1) okX11_starts lkRX11_142 (Or.inr ⟨rfl, Nat.le_of_ble_eq_true rfl⟩) rfl rfl rfl rfl (Nat.le_of_ble_eq_true rfl) ⟨Nat.le_of_ble_eq_true rfl, Nat.le_of_ble_eq_true rfl⟩ rfl ?_
  intro u1 hu1
  refine V_aload_n (i := 0) dX11_plant_4 rfl rfl ?_
  refine V_aload_n (i := 0) dX11_plant_5 rfl rfl ?_
  refine V_iload_n (i := 1) dX11_plant_6 rfl rfl ?_
  refine V_iload_n (i := 2) dX11_plant_7 rfl rfl ?_
  refine V_iload_n (i := 3) dX11_plant_8 rfl rfl ?_
  refine V_iload dX11_plant_9 rfl ?_
  refine V_callV dX11_plant_11 (m_plantIt (s := S.1) (hC.1.keep hu1.2.2.2 (fun k _ => by omega)) hu1.1 hu1.2.1 rfl rfl r1 r2 c1 c2 (hC.2.2.2.2.2.2.keep hu1.2.2.2 (fun b j q => by omega)) hpt hq) okX11_plantIt lkRX11_166 (Or.inr ⟨rfl, Nat.le_of_ble_eq_true rfl⟩) rfl rfl rfl rfl (Nat.le_of_ble_eq_true rfl) ⟨Nat.le_of_ble_eq_true rfl, Nat.le_of_ble_eq_true rfl⟩ rfl ⟨Nat.zero_le _, Nat.zero_le _⟩ (fun v9 u2 hu2 => ?_) (fun E9 w9 h9 => by obtain ⟨⟨x9, h9, _⟩, _⟩ := h9; cases h9)
  obtain ⟨⟨x2, e9, hx2⟩, hu2⟩ := hu2
  cases e9
  have hf2 := (hu1.2.2.2.mono (Q := PMut) (fun b j q => by omega)).trans (hu2.2.2.2.2.mono (fun b j q => by omega))
  refine V_callVM dX11_plant_14 (m_changed (x := x2) (hC.2.1.keep hf2 (fun b j q => by omega)) (hu1.2.2.1.keep hu2.2.2.2.2 (fun k _ => by omega)) hu2.2.1 hu2.2.2.1 hu2.2.2.2.1 (itPlant_le (s := S.1) ).1 (itPlant_le (s := S.1) ).2) okX11_changed lkRX11_148 (Or.inr ⟨rfl, Nat.le_of_ble_eq_true rfl⟩) rfl rfl rfl rfl (Nat.le_of_ble_eq_true rfl) ⟨Nat.le_of_ble_eq_true rfl, Nat.le_of_ble_eq_true rfl⟩ rfl ?_
  intro u3 hu3
  refine V_iret dX11_plant_17 rfl rfl ?_
  rw [fPlant_it]
  exact ⟨⟨_, rfl, (mkR_val hx2)⟩, hC.ch0 hu1.2.2.2 hu2 itPlant_le itPlant_same hu3⟩
set_option maxRecDepth 100000 in
set_option maxHeartbeats 1000000 in
theorem m_setRule {q : Nat} {S : Sys} {w : Wd} (hC : MI w S) (hq : q < 65536) : Ct 1 MX11_setRule 9 0 0 [.ref 47, .int (nI q)] w (PoM (fSetRule S q) w) := by
  refine Ct_of (by decide +kernel) rfl (Nat.le_of_ble_eq_true rfl) rfl ?_
  refine V_aload_n (i := 0) dX11_setRule_0 rfl rfl ?_
  refine V_callVM dX11_setRule_1 (m_starts hC.1) okX11_starts lkRX11_142 (Or.inr ⟨rfl, Nat.le_of_ble_eq_true rfl⟩) rfl rfl rfl rfl (Nat.le_of_ble_eq_true rfl) ⟨Nat.le_of_ble_eq_true rfl, Nat.le_of_ble_eq_true rfl⟩ rfl ?_
  intro u1 hu1
  refine V_aload_n (i := 0) dX11_setRule_4 rfl rfl ?_
  refine V_aload_n (i := 0) dX11_setRule_5 rfl rfl ?_
  refine V_iload_n (i := 1) dX11_setRule_6 rfl rfl ?_
  refine V_callV dX11_setRule_7 (m_ruleIt (s := S.1) (hC.1.keep hu1.2.2.2 (fun k _ => by omega)) hu1.1 hu1.2.1 hq) okX11_ruleIt lkRX11_176 (Or.inr ⟨rfl, Nat.le_of_ble_eq_true rfl⟩) rfl rfl rfl rfl (Nat.le_of_ble_eq_true rfl) ⟨Nat.le_of_ble_eq_true rfl, Nat.le_of_ble_eq_true rfl⟩ rfl ⟨Nat.zero_le _, Nat.zero_le _⟩ (fun v9 u2 hu2 => ?_) (fun E9 w9 h9 => by obtain ⟨⟨x9, h9, _⟩, _⟩ := h9; cases h9)
  obtain ⟨⟨x2, e9, hx2⟩, hu2⟩ := hu2
  cases e9
  have hf2 := (hu1.2.2.2.mono (Q := PMut) (fun b j q => by omega)).trans (hu2.2.2.2.2.mono (fun b j q => by omega))
  refine V_callVM dX11_setRule_10 (m_changed (x := x2) (hC.2.1.keep hf2 (fun b j q => by omega)) (hu1.2.2.1.keep hu2.2.2.2.2 (fun k _ => by omega)) hu2.2.1 hu2.2.2.1 hu2.2.2.2.1 (itRule_le (s := S.1) ).1 (itRule_le (s := S.1) ).2) okX11_changed lkRX11_148 (Or.inr ⟨rfl, Nat.le_of_ble_eq_true rfl⟩) rfl rfl rfl rfl (Nat.le_of_ble_eq_true rfl) ⟨Nat.le_of_ble_eq_true rfl, Nat.le_of_ble_eq_true rfl⟩ rfl ?_
  intro u3 hu3
  refine V_i2c dX11_setRule_13 ?_
  refine V_iret dX11_setRule_14 rfl (nar_char (Nat.mod_lt _ (by decide))) ?_
  rw [fSetRule_it]
  exact ⟨⟨_, rfl, (mkR_val16 hx2 (itRule_16))⟩, hC.ch0 hu1.2.2.2 hu2 itRule_le itRule_same hu3⟩
set_option maxRecDepth 100000 in
set_option maxHeartbeats 1000000 in
theorem m_passTides {x : Int32} {t : Int} {S : Sys} {w : Wd} (hC : MI w S) (hx : x = zI t) (t1 : -2147483648 ≤ t) (t2 : t < 2147483648) : Ct 1 MX11_passTides 9 0 0 [.ref 47, .int x] w (PoM (fPassTides S t) w) := by
  refine Ct_of (by decide +kernel) rfl (Nat.le_of_ble_eq_true rfl) rfl ?_
  subst hx
  refine V_aload_n (i := 0) dX11_passTides_0 rfl rfl ?_
  refine V_callVM dX11_passTides_1 (m_starts hC.1) okX11_starts lkRX11_142 (Or.inr ⟨rfl, Nat.le_of_ble_eq_true rfl⟩) rfl rfl rfl rfl (Nat.le_of_ble_eq_true rfl) ⟨Nat.le_of_ble_eq_true rfl, Nat.le_of_ble_eq_true rfl⟩ rfl ?_
  intro u1 hu1
  refine V_aload_n (i := 0) dX11_passTides_4 rfl rfl ?_
  refine V_aload_n (i := 0) dX11_passTides_5 rfl rfl ?_
  refine V_iload_n (i := 1) dX11_passTides_6 rfl rfl ?_
  refine V_callV dX11_passTides_7 (m_tidesIt (s := S.1) (hC.1.keep hu1.2.2.2 (fun k _ => by omega)) hu1.1 hu1.2.1 rfl t1 t2) okX11_tidesIt lkRX11_196 (Or.inr ⟨rfl, Nat.le_of_ble_eq_true rfl⟩) rfl rfl rfl rfl (Nat.le_of_ble_eq_true rfl) ⟨Nat.le_of_ble_eq_true rfl, Nat.le_of_ble_eq_true rfl⟩ rfl ⟨Nat.zero_le _, Nat.zero_le _⟩ (fun v9 u2 hu2 => ?_) (fun E9 w9 h9 => by obtain ⟨⟨x9, h9, _⟩, _⟩ := h9; cases h9)
  obtain ⟨⟨x2, e9, hx2⟩, hu2⟩ := hu2
  cases e9
  have hf2 := (hu1.2.2.2.mono (Q := PMut) (fun b j q => by omega)).trans (hu2.2.2.2.2.mono (fun b j q => by omega))
  refine V_callVM dX11_passTides_10 (m_changed (x := x2) (hC.2.1.keep hf2 (fun b j q => by omega)) (hu1.2.2.1.keep hu2.2.2.2.2 (fun k _ => by omega)) hu2.2.1 hu2.2.2.1 hu2.2.2.2.1 (itTides_le (s := S.1) ).1 (itTides_le (s := S.1) ).2) okX11_changed lkRX11_148 (Or.inr ⟨rfl, Nat.le_of_ble_eq_true rfl⟩) rfl rfl rfl rfl (Nat.le_of_ble_eq_true rfl) ⟨Nat.le_of_ble_eq_true rfl, Nat.le_of_ble_eq_true rfl⟩ rfl ?_
  intro u3 hu3
  refine V_iret dX11_passTides_13 rfl rfl ?_
  rw [fPassTides_it]
  exact ⟨⟨_, rfl, (mkR_val hx2)⟩, hC.ch0 hu1.2.2.2 hu2 itTides_le itTides_same hu3⟩
set_option maxRecDepth 100000 in
set_option maxHeartbeats 1000000 in
theorem m_asks {x y : Int32} {r c : Int} {w : Wd} (hx : x = zI r) (hy : y = zI c) (r1 : -2147483648 ≤ r) (r2 : r < 2147483648) (c1 : -2147483648 ≤ c) (c2 : c < 2147483648) : Ct 1 MX11_asks 3 0 0 [.ref 47, .int x, .int y] w (fun o w1 => (ins r c = true ∧ o = Sum.inl (some (Value.int (nI 1))) ∧ gI w1 47 9 = nI 0 ∧ Fz PTh w w1) ∨ (ins r c = false ∧ o = Sum.inl (some (Value.int (nI 0))) ∧ gI w1 47 9 = nI 1 ∧ Fz PTh w w1)) := by
  refine Ct_of (by decide +kernel) rfl (Nat.le_of_ble_eq_true rfl) rfl ?_
  subst hx hy
  refine V_aload_n (i := 0) dX11_asks_0 rfl rfl ?_
  refine V_iconst_n (v := 0) dX11_asks_1 (by decide) ?_
  refine V_putI (k := 9) (ty := .int) dX11_asks_2 (Or.inr ⟨rfl, Nat.le_of_ble_eq_true rfl⟩) rfl rfl rfl (Nat.le_of_ble_eq_true rfl) flRX11_66 rfl (by decide +kernel) rfl rfl ?_
  refine V_iload_n (i := 1) dX11_asks_5 rfl rfl ?_
  refine V_iload_n (i := 2) dX11_asks_6 rfl rfl ?_
  refine V_callSF dX11_asks_7 (m_isCell (r := r) (c := c) rfl rfl (by omega) (by omega) (by omega) (by omega)) okX11_isCell lkRX11_104 rfl rfl (Nat.le_of_ble_eq_true rfl) ⟨Nat.le_of_ble_eq_true rfl, Nat.le_of_ble_eq_true rfl⟩ rfl ?_
  refine V_if_ne_n (tgt := 19) dX11_asks_10 (by decide) (Nat.lt_of_lt_of_le ite_le (by decide)) (fun h10 => ?_) (fun h10 => ?_)
  · have hi10 := ite_t h10
    refine V_aload_n (i := 0) dX11_asks_19 rfl rfl ?_
    refine V_getI (k := 9) dX11_asks_20 (Or.inr ⟨rfl, Nat.le_of_ble_eq_true rfl⟩) rfl rfl rfl (Nat.le_of_ble_eq_true rfl) flRX11_66 ?_
    refine V_top (y := nI 0) pI_at ?_
    refine V_if_ne_n (tgt := 30) dX11_asks_23 (by decide) (by omega) (fun h23 => by exfalso; omega) (fun h23 => ?_)
    refine V_iconst_n (v := 1) dX11_asks_26 (by decide) ?_
    refine V_goto (tgt := 31) dX11_asks_27 (by decide) ?_
    refine V_iret dX11_asks_31 rfl (nar_bool (by omega)) ?_
    exact Or.inl ⟨ins_iff.mpr hi10, rfl, pI_at, ((Fz.nil (P := PTh)).i1 (by omega) (by unfold PTh; omega))⟩
  · have hi10 := ite_f h10
    refine V_aload_n (i := 0) dX11_asks_13 rfl rfl ?_
    refine V_iconst_n (v := 1) dX11_asks_14 (by decide) ?_
    refine V_callVM dX11_asks_15 (m_throwing (w := _) (n := 1)) okX11_throwing lkRX11_75 (Or.inr ⟨rfl, Nat.le_of_ble_eq_true rfl⟩) rfl rfl rfl rfl (Nat.le_of_ble_eq_true rfl) ⟨Nat.le_of_ble_eq_true rfl, Nat.le_of_ble_eq_true rfl⟩ rfl ?_
    intro u1 hu1
    refine V_pop dX11_asks_18 rfl ?_
    refine V_aload_n (i := 0) dX11_asks_19 rfl rfl ?_
    refine V_getI (k := 9) dX11_asks_20 (Or.inr ⟨rfl, Nat.le_of_ble_eq_true rfl⟩) rfl rfl rfl (Nat.le_of_ble_eq_true rfl) flRX11_66 ?_
    refine V_top (y := nI 1) hu1.1 ?_
    refine V_if_ne_n (tgt := 30) dX11_asks_23 (by decide) (by omega) (fun h23 => ?_) (fun h23 => by exfalso; omega)
    refine V_iconst_n (v := 0) dX11_asks_30 (by decide) ?_
    refine V_iret dX11_asks_31 rfl (nar_bool (by omega)) ?_
    exact Or.inr ⟨Bool.eq_false_iff.mpr (fun q => hi10 (ins_iff.mp q)), rfl, hu1.1, (((Fz.nil (P := PTh)).i1 (by omega) (by unfold PTh; omega)).trans (hu1.2.mono (fun b j q => by unfold PTh; omega)))⟩
set_option maxRecDepth 100000 in
set_option maxHeartbeats 1000000 in
theorem m_asksLiving {x y : Int32} {r c : Int} {s : St} {w : Wd} (hM : Bk w 48 0 s) (hx : x = zI r) (hy : y = zI c) (r1 : -2147483648 ≤ r) (r2 : r < 2147483648) (c1 : -2147483648 ≤ c) (c2 : c < 2147483648) : Ct 1 MX11_asksLiving 4 0 0 [.ref 47, .int x, .int y] w (fun o w1 => ((ins r c = true ∧ 10 ≤ s.1 (cl r c)) ∧ o = Sum.inl (some (Value.int (nI 1))) ∧ gI w1 47 9 = nI 0 ∧ Fz PTh w w1) ∨ (ins r c = false ∧ o = Sum.inl (some (Value.int (nI 0))) ∧ gI w1 47 9 = nI 1 ∧ Fz PTh w w1) ∨ ((ins r c = true ∧ s.1 (cl r c) < 10) ∧ o = Sum.inl (some (Value.int (nI 0))) ∧ gI w1 47 9 = nI 2 ∧ Fz PTh w w1)) := by
  refine Ct_of (by decide +kernel) rfl (Nat.le_of_ble_eq_true rfl) rfl ?_
  subst hx hy
  refine V_aload_n (i := 0) dX11_asksLiving_0 rfl rfl ?_
  refine V_iload_n (i := 1) dX11_asksLiving_1 rfl rfl ?_
  refine V_iload_n (i := 2) dX11_asksLiving_2 rfl rfl ?_
  refine V_callV dX11_asksLiving_3 (m_asks (w := _) rfl rfl r1 r2 c1 c2) okX11_asks lkRX11_211 (Or.inr ⟨rfl, Nat.le_of_ble_eq_true rfl⟩) rfl rfl rfl rfl (Nat.le_of_ble_eq_true rfl) ⟨Nat.le_of_ble_eq_true rfl, Nat.le_of_ble_eq_true rfl⟩ rfl ⟨Nat.zero_le _, Nat.zero_le _⟩ (fun v9 u1 hu1 => ?_) (fun E9 w9 h9 => by rcases h9 with h9 | h9 <;> cases h9.2.1)
  rcases hu1 with ⟨hu1f, e9, hu1⟩ | ⟨hu1f, e9, hu1⟩
  · cases e9
    have hin := hu1f
    have hii := ins_iff.mp hin
    obtain ⟨r0, rfl⟩ : ∃ n : Nat, r = (n : Int) := ⟨r.toNat, by omega⟩
    obtain ⟨c0, rfl⟩ : ∃ n : Nat, c = (n : Int) := ⟨c.toNat, by omega⟩
    simp only [← zI_n]
    have hcc : 8 * r0 + c0 < 64 := by omega
    have hok := hM.1.1 (8 * r0 + c0) hcc
    unfold okc at hok
    refine V_if_eq_n (tgt := 27) dX11_asksLiving_6 (by decide) (by omega) (fun h6 => by exfalso; omega) (fun h6 => ?_)
    refine V_aload_n (i := 0) dX11_asksLiving_9 rfl rfl ?_
    refine V_iload_n (i := 1) dX11_asksLiving_10 rfl rfl ?_
    refine V_iload_n (i := 2) dX11_asksLiving_11 rfl rfl ?_
    refine V_callSF dX11_asksLiving_12 (m_cellOf (r := r0) (c := c0) (rfl) (rfl)) okX11_cellOf lkRX11_108 rfl rfl (Nat.le_of_ble_eq_true rfl) ⟨Nat.le_of_ble_eq_true rfl, Nat.le_of_ble_eq_true rfl⟩ rfl ?_
    have hv42 := (hM.keep hu1.2 (fun k _ => by omega)).1.1 ((8 * r0 + c0)) (by omega)
    unfold okc at hv42
    refine V_callVF dX11_asksLiving_15 (m_isLivingAt (hM.keep hu1.2 (fun k _ => by omega)) (k := (8 * r0 + c0)) (by omega)) okX11_isLivingAt lkRX11_214 (Or.inr ⟨rfl, Nat.le_of_ble_eq_true rfl⟩) rfl rfl rfl rfl (Nat.le_of_ble_eq_true rfl) ⟨Nat.le_of_ble_eq_true rfl, Nat.le_of_ble_eq_true rfl⟩ rfl ?_
    refine V_if_ne_n (tgt := 27) dX11_asksLiving_18 (by decide) (Nat.lt_of_lt_of_le ite_le (by decide)) (fun h18 => ?_) (fun h18 => ?_)
    · have hi18 := ite_t h18
      refine V_aload_n (i := 0) dX11_asksLiving_27 rfl rfl ?_
      refine V_getI (k := 9) dX11_asksLiving_28 (Or.inr ⟨rfl, Nat.le_of_ble_eq_true rfl⟩) rfl rfl rfl (Nat.le_of_ble_eq_true rfl) flRX11_66 ?_
      refine V_top (y := nI 0) hu1.1 ?_
      refine V_if_ne_n (tgt := 38) dX11_asksLiving_31 (by decide) (by omega) (fun h31 => by exfalso; omega) (fun h31 => ?_)
      refine V_iconst_n (v := 1) dX11_asksLiving_34 (by decide) ?_
      refine V_goto (tgt := 39) dX11_asksLiving_35 (by decide) ?_
      refine V_iret dX11_asksLiving_39 rfl (nar_bool (by omega)) ?_
      exact Or.inl ⟨⟨hin, by rw [cl_nat]; exact hi18⟩, rfl, hu1.1, ((Fz.nil (P := PTh)).trans (hu1.2.mono (fun b j q => by unfold PTh; omega)))⟩
    · have hi18 := ite_f h18
      refine V_aload_n (i := 0) dX11_asksLiving_21 rfl rfl ?_
      refine V_iconst_n (v := 2) dX11_asksLiving_22 (by decide) ?_
      refine V_callVM dX11_asksLiving_23 (m_throwing (w := _) (n := 2)) okX11_throwing lkRX11_75 (Or.inr ⟨rfl, Nat.le_of_ble_eq_true rfl⟩) rfl rfl rfl rfl (Nat.le_of_ble_eq_true rfl) ⟨Nat.le_of_ble_eq_true rfl, Nat.le_of_ble_eq_true rfl⟩ rfl ?_
      intro u2 hu2
      refine V_pop dX11_asksLiving_26 rfl ?_
      refine V_aload_n (i := 0) dX11_asksLiving_27 rfl rfl ?_
      refine V_getI (k := 9) dX11_asksLiving_28 (Or.inr ⟨rfl, Nat.le_of_ble_eq_true rfl⟩) rfl rfl rfl (Nat.le_of_ble_eq_true rfl) flRX11_66 ?_
      refine V_top (y := nI 2) hu2.1 ?_
      refine V_if_ne_n (tgt := 38) dX11_asksLiving_31 (by decide) (by omega) (fun h31 => ?_) (fun h31 => by exfalso; omega)
      refine V_iconst_n (v := 0) dX11_asksLiving_38 (by decide) ?_
      refine V_iret dX11_asksLiving_39 rfl (nar_bool (by omega)) ?_
      exact Or.inr (Or.inr ⟨⟨hin, by rw [cl_nat]; omega⟩, rfl, hu2.1, (((Fz.nil (P := PTh)).trans (hu1.2.mono (fun b j q => by unfold PTh; omega))).trans (hu2.2.mono (fun b j q => by unfold PTh; omega)))⟩)
  · cases e9
    have hin := hu1f
    refine V_if_eq_n (tgt := 27) dX11_asksLiving_6 (by decide) (by omega) (fun h6 => ?_) (fun h6 => by exfalso; omega)
    refine V_aload_n (i := 0) dX11_asksLiving_27 rfl rfl ?_
    refine V_getI (k := 9) dX11_asksLiving_28 (Or.inr ⟨rfl, Nat.le_of_ble_eq_true rfl⟩) rfl rfl rfl (Nat.le_of_ble_eq_true rfl) flRX11_66 ?_
    refine V_top (y := nI 1) hu1.1 ?_
    refine V_if_ne_n (tgt := 38) dX11_asksLiving_31 (by decide) (by omega) (fun h31 => ?_) (fun h31 => by exfalso; omega)
    refine V_iconst_n (v := 0) dX11_asksLiving_38 (by decide) ?_
    refine V_iret dX11_asksLiving_39 rfl (nar_bool (by omega)) ?_
    exact Or.inr (Or.inl ⟨hin, rfl, hu1.1, ((Fz.nil (P := PTh)).trans (hu1.2.mono (fun b j q => by unfold PTh; omega)))⟩)
set_option maxRecDepth 100000 in
set_option maxHeartbeats 1000000 in
theorem m_isEmpty {x y : Int32} {r c : Int} {S : Sys} {w : Wd} (hC : MI w S) (hx : x = zI r) (hy : y = zI c) (r1 : -2147483648 ≤ r) (r2 : r < 2147483648) (c1 : -2147483648 ≤ c) (c2 : c < 2147483648) : Ct 1 MX11_isEmpty 8 0 0 [.ref 47, .int x, .int y] w (PoM (fIsEmpty S r c) w) := by
  refine Ct_of (by decide +kernel) rfl (Nat.le_of_ble_eq_true rfl) rfl ?_
  subst hx hy
  refine V_aload_n (i := 0) dX11_isEmpty_0 rfl rfl ?_
  refine V_iload_n (i := 1) dX11_isEmpty_1 rfl rfl ?_
  refine V_iload_n (i := 2) dX11_isEmpty_2 rfl rfl ?_
  refine V_callV dX11_isEmpty_3 (m_asks (w := _) rfl rfl r1 r2 c1 c2) okX11_asks lkRX11_211 (Or.inr ⟨rfl, Nat.le_of_ble_eq_true rfl⟩) rfl rfl rfl rfl (Nat.le_of_ble_eq_true rfl) ⟨Nat.le_of_ble_eq_true rfl, Nat.le_of_ble_eq_true rfl⟩ rfl ⟨Nat.zero_le _, Nat.zero_le _⟩ (fun v9 u1 hu1 => ?_) (fun E9 w9 h9 => by rcases h9 with h9 | h9 <;> cases h9.2.1)
  rcases hu1 with ⟨hu1f, e9, hu1⟩ | ⟨hu1f, e9, hu1⟩
  · cases e9
    have hin := hu1f
    have hii := ins_iff.mp hin
    obtain ⟨r0, rfl⟩ : ∃ n : Nat, r = (n : Int) := ⟨r.toNat, by omega⟩
    obtain ⟨c0, rfl⟩ : ∃ n : Nat, c = (n : Int) := ⟨c.toNat, by omega⟩
    simp only [← zI_n]
    have hcc : 8 * r0 + c0 < 64 := by omega
    have hok := hC.1.1.1 (8 * r0 + c0) hcc
    unfold okc at hok
    refine V_if_eq_n (tgt := 25) dX11_isEmpty_6 (by decide) (by omega) (fun h6 => by exfalso; omega) (fun h6 => ?_)
    refine V_aload_n (i := 0) dX11_isEmpty_9 rfl rfl ?_
    refine V_iload_n (i := 1) dX11_isEmpty_10 rfl rfl ?_
    refine V_iload_n (i := 2) dX11_isEmpty_11 rfl rfl ?_
    refine V_callSF dX11_isEmpty_12 (m_cellOf (r := r0) (c := c0) (rfl) (rfl)) okX11_cellOf lkRX11_108 rfl rfl (Nat.le_of_ble_eq_true rfl) ⟨Nat.le_of_ble_eq_true rfl, Nat.le_of_ble_eq_true rfl⟩ rfl ?_
    have hv43 := hC.1.1.1 ((8 * r0 + c0)) (by omega)
    unfold okc at hv43
    refine V_callVF dX11_isEmpty_15 (m_at (hC.1.keep hu1.2 (fun k _ => by omega)) (k := (8 * r0 + c0)) (by omega)) okX11_at lkRX11_101 (Or.inr ⟨rfl, Nat.le_of_ble_eq_true rfl⟩) rfl rfl rfl rfl (Nat.le_of_ble_eq_true rfl) ⟨Nat.le_of_ble_eq_true rfl, Nat.le_of_ble_eq_true rfl⟩ rfl ?_
    refine V_if_ne_n (tgt := 25) dX11_isEmpty_18 (by decide) (by omega) (fun h18 => ?_) (fun h18 => ?_)
    · have hz : ¬ S.1.1 (8 * r0 + c0) = 0 := h18
      refine V_iconst_n (v := 0) dX11_isEmpty_25 (by decide) ?_
      refine V_iret dX11_isEmpty_26 rfl (nar_bool (by decide)) ?_
      have e9 : fIsEmpty S (r0 : Int) (c0 : Int) = (0, nI 0, S) := by simp [fIsEmpty, fCell, fLive, q2, cl_nat, b2, hin, hz]
      rw [e9]
      exact ⟨⟨_, rfl, fun _ => rfl⟩, hC.scr ((Fz.nil (P := PScr)).trans (hu1.2.mono (fun b j q => by unfold PScr; omega))), hu1.1, ((Fz.nil (P := PScr)).trans (hu1.2.mono (fun b j q => by unfold PScr; omega))).1⟩
    · have hz : S.1.1 (8 * r0 + c0) = 0 := h18
      refine V_iconst_n (v := 1) dX11_isEmpty_21 (by decide) ?_
      refine V_goto (tgt := 26) dX11_isEmpty_22 (by decide) ?_
      refine V_iret dX11_isEmpty_26 rfl (nar_bool (by decide)) ?_
      have e9 : fIsEmpty S (r0 : Int) (c0 : Int) = (0, nI 1, S) := by simp [fIsEmpty, fCell, fLive, q2, cl_nat, b2, hin, hz]
      rw [e9]
      exact ⟨⟨_, rfl, fun _ => rfl⟩, hC.scr ((Fz.nil (P := PScr)).trans (hu1.2.mono (fun b j q => by unfold PScr; omega))), hu1.1, ((Fz.nil (P := PScr)).trans (hu1.2.mono (fun b j q => by unfold PScr; omega))).1⟩
  · cases e9
    have hin := hu1f
    refine V_if_eq_n (tgt := 25) dX11_isEmpty_6 (by decide) (by omega) (fun h6 => ?_) (fun h6 => by exfalso; omega)
    refine V_iconst_n (v := 0) dX11_isEmpty_25 (by decide) ?_
    refine V_iret dX11_isEmpty_26 rfl (nar_bool (by decide)) ?_
    have e9 : fIsEmpty S r c = (1, 0, S) := by simp [fIsEmpty, fCell, fLive, q2, cl_nat, b2, hin]
    rw [e9]
    exact ⟨⟨_, rfl, fun q => by simp at q⟩, hC.scr ((Fz.nil (P := PScr)).trans (hu1.2.mono (fun b j q => by unfold PScr; omega))), hu1.1, ((Fz.nil (P := PScr)).trans (hu1.2.mono (fun b j q => by unfold PScr; omega))).1⟩
set_option maxRecDepth 100000 in
set_option maxHeartbeats 1000000 in
theorem m_isLiving {x y : Int32} {r c : Int} {S : Sys} {w : Wd} (hC : MI w S) (hx : x = zI r) (hy : y = zI c) (r1 : -2147483648 ≤ r) (r2 : r < 2147483648) (c1 : -2147483648 ≤ c) (c2 : c < 2147483648) : Ct 1 MX11_isLiving 8 0 0 [.ref 47, .int x, .int y] w (PoM (fIsLiving S r c) w) := by
  refine Ct_of (by decide +kernel) rfl (Nat.le_of_ble_eq_true rfl) rfl ?_
  subst hx hy
  refine V_aload_n (i := 0) dX11_isLiving_0 rfl rfl ?_
  refine V_iload_n (i := 1) dX11_isLiving_1 rfl rfl ?_
  refine V_iload_n (i := 2) dX11_isLiving_2 rfl rfl ?_
  refine V_callV dX11_isLiving_3 (m_asks (w := _) rfl rfl r1 r2 c1 c2) okX11_asks lkRX11_211 (Or.inr ⟨rfl, Nat.le_of_ble_eq_true rfl⟩) rfl rfl rfl rfl (Nat.le_of_ble_eq_true rfl) ⟨Nat.le_of_ble_eq_true rfl, Nat.le_of_ble_eq_true rfl⟩ rfl ⟨Nat.zero_le _, Nat.zero_le _⟩ (fun v9 u1 hu1 => ?_) (fun E9 w9 h9 => by rcases h9 with h9 | h9 <;> cases h9.2.1)
  rcases hu1 with ⟨hu1f, e9, hu1⟩ | ⟨hu1f, e9, hu1⟩
  · cases e9
    have hin := hu1f
    have hii := ins_iff.mp hin
    obtain ⟨r0, rfl⟩ : ∃ n : Nat, r = (n : Int) := ⟨r.toNat, by omega⟩
    obtain ⟨c0, rfl⟩ : ∃ n : Nat, c = (n : Int) := ⟨c.toNat, by omega⟩
    simp only [← zI_n]
    have hcc : 8 * r0 + c0 < 64 := by omega
    have hok := hC.1.1.1 (8 * r0 + c0) hcc
    unfold okc at hok
    refine V_if_eq_n (tgt := 25) dX11_isLiving_6 (by decide) (by omega) (fun h6 => by exfalso; omega) (fun h6 => ?_)
    refine V_aload_n (i := 0) dX11_isLiving_9 rfl rfl ?_
    refine V_iload_n (i := 1) dX11_isLiving_10 rfl rfl ?_
    refine V_iload_n (i := 2) dX11_isLiving_11 rfl rfl ?_
    refine V_callSF dX11_isLiving_12 (m_cellOf (r := r0) (c := c0) (rfl) (rfl)) okX11_cellOf lkRX11_108 rfl rfl (Nat.le_of_ble_eq_true rfl) ⟨Nat.le_of_ble_eq_true rfl, Nat.le_of_ble_eq_true rfl⟩ rfl ?_
    have hv44 := hC.1.1.1 ((8 * r0 + c0)) (by omega)
    unfold okc at hv44
    refine V_callVF dX11_isLiving_15 (m_isLivingAt (hC.1.keep hu1.2 (fun k _ => by omega)) (k := (8 * r0 + c0)) (by omega)) okX11_isLivingAt lkRX11_214 (Or.inr ⟨rfl, Nat.le_of_ble_eq_true rfl⟩) rfl rfl rfl rfl (Nat.le_of_ble_eq_true rfl) ⟨Nat.le_of_ble_eq_true rfl, Nat.le_of_ble_eq_true rfl⟩ rfl ?_
    refine V_if_eq_n (tgt := 25) dX11_isLiving_18 (by decide) (Nat.lt_of_lt_of_le ite_le (by decide)) (fun h18 => ?_) (fun h18 => ?_)
    · have hi18 := ite_f h18
      refine V_iconst_n (v := 0) dX11_isLiving_25 (by decide) ?_
      refine V_iret dX11_isLiving_26 rfl (nar_bool (by decide)) ?_
      have e9 : fIsLiving S (r0 : Int) (c0 : Int) = (0, nI 0, S) := by simp [fIsLiving, fCell, fLive, q2, cl_nat, b2, hin, hi18]
      rw [e9]
      exact ⟨⟨_, rfl, fun _ => rfl⟩, hC.scr ((Fz.nil (P := PScr)).trans (hu1.2.mono (fun b j q => by unfold PScr; omega))), hu1.1, ((Fz.nil (P := PScr)).trans (hu1.2.mono (fun b j q => by unfold PScr; omega))).1⟩
    · have hi18 := ite_t h18
      refine V_iconst_n (v := 1) dX11_isLiving_21 (by decide) ?_
      refine V_goto (tgt := 26) dX11_isLiving_22 (by decide) ?_
      refine V_iret dX11_isLiving_26 rfl (nar_bool (by decide)) ?_
      have e9 : fIsLiving S (r0 : Int) (c0 : Int) = (0, nI 1, S) := by simp [fIsLiving, fCell, fLive, q2, cl_nat, b2, hin, hi18]
      rw [e9]
      exact ⟨⟨_, rfl, fun _ => rfl⟩, hC.scr ((Fz.nil (P := PScr)).trans (hu1.2.mono (fun b j q => by unfold PScr; omega))), hu1.1, ((Fz.nil (P := PScr)).trans (hu1.2.mono (fun b j q => by unfold PScr; omega))).1⟩
  · cases e9
    have hin := hu1f
    refine V_if_eq_n (tgt := 25) dX11_isLiving_6 (by decide) (by omega) (fun h6 => ?_) (fun h6 => by exfalso; omega)
    refine V_iconst_n (v := 0) dX11_isLiving_25 (by decide) ?_
    refine V_iret dX11_isLiving_26 rfl (nar_bool (by decide)) ?_
    have e9 : fIsLiving S r c = (1, 0, S) := by simp [fIsLiving, fCell, fLive, q2, cl_nat, b2, hin]
    rw [e9]
    exact ⟨⟨_, rfl, fun q => by simp at q⟩, hC.scr ((Fz.nil (P := PScr)).trans (hu1.2.mono (fun b j q => by unfold PScr; omega))), hu1.1, ((Fz.nil (P := PScr)).trans (hu1.2.mono (fun b j q => by unfold PScr; omega))).1⟩
set_option maxRecDepth 100000 in
set_option maxHeartbeats 1000000 in
theorem m_isBleached {x y : Int32} {r c : Int} {S : Sys} {w : Wd} (hC : MI w S) (hx : x = zI r) (hy : y = zI c) (r1 : -2147483648 ≤ r) (r2 : r < 2147483648) (c1 : -2147483648 ≤ c) (c2 : c < 2147483648) : Ct 1 MX11_isBleached 8 0 0 [.ref 47, .int x, .int y] w (PoM (fIsBleached S r c) w) := by
  refine Ct_of (by decide +kernel) rfl (Nat.le_of_ble_eq_true rfl) rfl ?_
  subst hx hy
  refine V_aload_n (i := 0) dX11_isBleached_0 rfl rfl ?_
  refine V_iload_n (i := 1) dX11_isBleached_1 rfl rfl ?_
  refine V_iload_n (i := 2) dX11_isBleached_2 rfl rfl ?_
  refine V_callV dX11_isBleached_3 (m_asks (w := _) rfl rfl r1 r2 c1 c2) okX11_asks lkRX11_211 (Or.inr ⟨rfl, Nat.le_of_ble_eq_true rfl⟩) rfl rfl rfl rfl (Nat.le_of_ble_eq_true rfl) ⟨Nat.le_of_ble_eq_true rfl, Nat.le_of_ble_eq_true rfl⟩ rfl ⟨Nat.zero_le _, Nat.zero_le _⟩ (fun v9 u1 hu1 => ?_) (fun E9 w9 h9 => by rcases h9 with h9 | h9 <;> cases h9.2.1)
  rcases hu1 with ⟨hu1f, e9, hu1⟩ | ⟨hu1f, e9, hu1⟩
  · cases e9
    have hin := hu1f
    have hii := ins_iff.mp hin
    obtain ⟨r0, rfl⟩ : ∃ n : Nat, r = (n : Int) := ⟨r.toNat, by omega⟩
    obtain ⟨c0, rfl⟩ : ∃ n : Nat, c = (n : Int) := ⟨c.toNat, by omega⟩
    simp only [← zI_n]
    have hcc : 8 * r0 + c0 < 64 := by omega
    have hok := hC.1.1.1 (8 * r0 + c0) hcc
    unfold okc at hok
    refine V_if_eq_n (tgt := 26) dX11_isBleached_6 (by decide) (by omega) (fun h6 => by exfalso; omega) (fun h6 => ?_)
    refine V_aload_n (i := 0) dX11_isBleached_9 rfl rfl ?_
    refine V_iload_n (i := 1) dX11_isBleached_10 rfl rfl ?_
    refine V_iload_n (i := 2) dX11_isBleached_11 rfl rfl ?_
    refine V_callSF dX11_isBleached_12 (m_cellOf (r := r0) (c := c0) (rfl) (rfl)) okX11_cellOf lkRX11_108 rfl rfl (Nat.le_of_ble_eq_true rfl) ⟨Nat.le_of_ble_eq_true rfl, Nat.le_of_ble_eq_true rfl⟩ rfl ?_
    have hv45 := hC.1.1.1 ((8 * r0 + c0)) (by omega)
    unfold okc at hv45
    refine V_callVF dX11_isBleached_15 (m_at (hC.1.keep hu1.2 (fun k _ => by omega)) (k := (8 * r0 + c0)) (by omega)) okX11_at lkRX11_101 (Or.inr ⟨rfl, Nat.le_of_ble_eq_true rfl⟩) rfl rfl rfl rfl (Nat.le_of_ble_eq_true rfl) ⟨Nat.le_of_ble_eq_true rfl, Nat.le_of_ble_eq_true rfl⟩ rfl ?_
    refine V_iconst_n (v := 1) dX11_isBleached_18 (by decide) ?_
    refine V_icmp_ne_n (tgt := 26) dX11_isBleached_19 (by decide) (by omega) (by omega) (fun h19 => ?_) (fun h19 => ?_)
    · have hz : ¬ S.1.1 (8 * r0 + c0) = 1 := h19
      refine V_iconst_n (v := 0) dX11_isBleached_26 (by decide) ?_
      refine V_iret dX11_isBleached_27 rfl (nar_bool (by decide)) ?_
      have e9 : fIsBleached S (r0 : Int) (c0 : Int) = (0, nI 0, S) := by simp [fIsBleached, fCell, fLive, q2, cl_nat, b2, hin, hz]
      rw [e9]
      exact ⟨⟨_, rfl, fun _ => rfl⟩, hC.scr ((Fz.nil (P := PScr)).trans (hu1.2.mono (fun b j q => by unfold PScr; omega))), hu1.1, ((Fz.nil (P := PScr)).trans (hu1.2.mono (fun b j q => by unfold PScr; omega))).1⟩
    · have hz : S.1.1 (8 * r0 + c0) = 1 := h19
      refine V_iconst_n (v := 1) dX11_isBleached_22 (by decide) ?_
      refine V_goto (tgt := 27) dX11_isBleached_23 (by decide) ?_
      refine V_iret dX11_isBleached_27 rfl (nar_bool (by decide)) ?_
      have e9 : fIsBleached S (r0 : Int) (c0 : Int) = (0, nI 1, S) := by simp [fIsBleached, fCell, fLive, q2, cl_nat, b2, hin, hz]
      rw [e9]
      exact ⟨⟨_, rfl, fun _ => rfl⟩, hC.scr ((Fz.nil (P := PScr)).trans (hu1.2.mono (fun b j q => by unfold PScr; omega))), hu1.1, ((Fz.nil (P := PScr)).trans (hu1.2.mono (fun b j q => by unfold PScr; omega))).1⟩
  · cases e9
    have hin := hu1f
    refine V_if_eq_n (tgt := 26) dX11_isBleached_6 (by decide) (by omega) (fun h6 => ?_) (fun h6 => by exfalso; omega)
    refine V_iconst_n (v := 0) dX11_isBleached_26 (by decide) ?_
    refine V_iret dX11_isBleached_27 rfl (nar_bool (by decide)) ?_
    have e9 : fIsBleached S r c = (1, 0, S) := by simp [fIsBleached, fCell, fLive, q2, cl_nat, b2, hin]
    rw [e9]
    exact ⟨⟨_, rfl, fun q => by simp at q⟩, hC.scr ((Fz.nil (P := PScr)).trans (hu1.2.mono (fun b j q => by unfold PScr; omega))), hu1.1, ((Fz.nil (P := PScr)).trans (hu1.2.mono (fun b j q => by unfold PScr; omega))).1⟩
set_option maxRecDepth 100000 in
set_option maxHeartbeats 1000000 in
theorem m_colourAt {x y : Int32} {r c : Int} {S : Sys} {w : Wd} (hC : MI w S) (hx : x = zI r) (hy : y = zI c) (r1 : -2147483648 ≤ r) (r2 : r < 2147483648) (c1 : -2147483648 ≤ c) (c2 : c < 2147483648) : Ct 1 MX11_colourAt 8 0 0 [.ref 47, .int x, .int y] w (PoM (fColourAt S r c) w) := by
  refine Ct_of (by decide +kernel) rfl (Nat.le_of_ble_eq_true rfl) rfl ?_
  subst hx hy
  refine V_aload_n (i := 0) dX11_colourAt_0 rfl rfl ?_
  refine V_iload_n (i := 1) dX11_colourAt_1 rfl rfl ?_
  refine V_iload_n (i := 2) dX11_colourAt_2 rfl rfl ?_
  refine V_callV dX11_colourAt_3 (m_asksLiving hC.1 rfl rfl r1 r2 c1 c2) okX11_asksLiving lkRX11_217 (Or.inr ⟨rfl, Nat.le_of_ble_eq_true rfl⟩) rfl rfl rfl rfl (Nat.le_of_ble_eq_true rfl) ⟨Nat.le_of_ble_eq_true rfl, Nat.le_of_ble_eq_true rfl⟩ rfl ⟨Nat.zero_le _, Nat.zero_le _⟩ (fun v9 u1 hu1 => ?_) (fun E9 w9 h9 => by rcases h9 with h9 | h9 | h9 <;> cases h9.2.1)
  rcases hu1 with ⟨hu1f, e9, hu1⟩ | ⟨hu1f, e9, hu1⟩ | ⟨hu1f, e9, hu1⟩
  · cases e9
    have hin := hu1f.1
    have hlv := hu1f.2
    have hii := ins_iff.mp hin
    obtain ⟨r0, rfl⟩ : ∃ n : Nat, r = (n : Int) := ⟨r.toNat, by omega⟩
    obtain ⟨c0, rfl⟩ : ∃ n : Nat, c = (n : Int) := ⟨c.toNat, by omega⟩
    simp only [← zI_n]
    have hcc : 8 * r0 + c0 < 64 := by omega
    have hok := hC.1.1.1 (8 * r0 + c0) hcc
    unfold okc at hok
    rw [cl_nat] at hlv
    have hlv9 : ¬ S.1.1 (8 * r0 + c0) < 10 := by omega
    refine V_if_eq_n (tgt := 25) dX11_colourAt_6 (by decide) (by omega) (fun h6 => by exfalso; omega) (fun h6 => ?_)
    refine V_aload_n (i := 0) dX11_colourAt_9 rfl rfl ?_
    refine V_iload_n (i := 1) dX11_colourAt_10 rfl rfl ?_
    refine V_iload_n (i := 2) dX11_colourAt_11 rfl rfl ?_
    refine V_callSF dX11_colourAt_12 (m_cellOf (r := r0) (c := c0) (rfl) (rfl)) okX11_cellOf lkRX11_108 rfl rfl (Nat.le_of_ble_eq_true rfl) ⟨Nat.le_of_ble_eq_true rfl, Nat.le_of_ble_eq_true rfl⟩ rfl ?_
    have hv46 := hC.1.1.1 ((8 * r0 + c0)) (by omega)
    unfold okc at hv46
    refine V_callVF dX11_colourAt_15 (m_at (hC.1.keep hu1.2 (fun k _ => by omega)) (k := (8 * r0 + c0)) (by omega)) okX11_at lkRX11_101 (Or.inr ⟨rfl, Nat.le_of_ble_eq_true rfl⟩) rfl rfl rfl rfl (Nat.le_of_ble_eq_true rfl) ⟨Nat.le_of_ble_eq_true rfl, Nat.le_of_ble_eq_true rfl⟩ rfl ?_
    have hc47 := kc_in (v := (S.1.1 (8 * r0 + c0))) (by omega) (by omega)
    refine V_callSF dX11_colourAt_18 (m_colourOf (v := (S.1.1 (8 * r0 + c0))) (by omega) (by omega)) okX11_colourOf lkRX11_112 rfl rfl (Nat.le_of_ble_eq_true rfl) ⟨Nat.le_of_ble_eq_true rfl, Nat.le_of_ble_eq_true rfl⟩ rfl ?_
    refine V_i2c_n dX11_colourAt_21 (by omega) ?_
    refine V_goto (tgt := 27) dX11_colourAt_22 (by decide) ?_
    refine V_iret dX11_colourAt_27 rfl (nar_char (by omega)) ?_
    have e9 : fColourAt S (r0 : Int) (c0 : Int) = (0, nI (kc (S.1.1 (8 * r0 + c0))), S) := by simp [fColourAt, fCell, fLive, q2, cl_nat, b2, hin, hlv9]
    rw [e9]
    exact ⟨⟨_, rfl, fun _ => rfl⟩, hC.scr ((Fz.nil (P := PScr)).trans (hu1.2.mono (fun b j q => by unfold PScr; omega))), hu1.1, ((Fz.nil (P := PScr)).trans (hu1.2.mono (fun b j q => by unfold PScr; omega))).1⟩
  · cases e9
    have hin := hu1f
    refine V_if_eq_n (tgt := 25) dX11_colourAt_6 (by decide) (by omega) (fun h6 => ?_) (fun h6 => by exfalso; omega)
    refine V_ldc (v := 65535) dX11_colourAt_25 csRX11_220 ?_
    refine V_top (y := nI 65535) rfl ?_
    refine V_iret dX11_colourAt_27 rfl (nar_char (by omega)) ?_
    have e9 : fColourAt S r c = (1, 0, S) := by simp [fColourAt, fCell, fLive, q2, cl_nat, b2, hin]
    rw [e9]
    exact ⟨⟨_, rfl, fun q => by simp at q⟩, hC.scr ((Fz.nil (P := PScr)).trans (hu1.2.mono (fun b j q => by unfold PScr; omega))), hu1.1, ((Fz.nil (P := PScr)).trans (hu1.2.mono (fun b j q => by unfold PScr; omega))).1⟩
  · cases e9
    refine V_if_eq_n (tgt := 25) dX11_colourAt_6 (by decide) (by omega) (fun h6 => ?_) (fun h6 => by exfalso; omega)
    refine V_ldc (v := 65535) dX11_colourAt_25 csRX11_220 ?_
    refine V_top (y := nI 65535) rfl ?_
    refine V_iret dX11_colourAt_27 rfl (nar_char (by omega)) ?_
    have e9 : fColourAt S r c = (2, 0, S) := by simp [fColourAt, fCell, fLive, q2, cl_nat, b2, hu1f.1, hu1f.2]
    rw [e9]
    exact ⟨⟨_, rfl, fun q => by simp at q⟩, hC.scr ((Fz.nil (P := PScr)).trans (hu1.2.mono (fun b j q => by unfold PScr; omega))), hu1.1, ((Fz.nil (P := PScr)).trans (hu1.2.mono (fun b j q => by unfold PScr; omega))).1⟩
set_option maxRecDepth 100000 in
set_option maxHeartbeats 1000000 in
theorem m_ageAt {x y : Int32} {r c : Int} {S : Sys} {w : Wd} (hC : MI w S) (hx : x = zI r) (hy : y = zI c) (r1 : -2147483648 ≤ r) (r2 : r < 2147483648) (c1 : -2147483648 ≤ c) (c2 : c < 2147483648) : Ct 1 MX11_ageAt 8 0 0 [.ref 47, .int x, .int y] w (PoM (fAgeAt S r c) w) := by
  refine Ct_of (by decide +kernel) rfl (Nat.le_of_ble_eq_true rfl) rfl ?_
  subst hx hy
  refine V_aload_n (i := 0) dX11_ageAt_0 rfl rfl ?_
  refine V_iload_n (i := 1) dX11_ageAt_1 rfl rfl ?_
  refine V_iload_n (i := 2) dX11_ageAt_2 rfl rfl ?_
  refine V_callV dX11_ageAt_3 (m_asksLiving hC.1 rfl rfl r1 r2 c1 c2) okX11_asksLiving lkRX11_217 (Or.inr ⟨rfl, Nat.le_of_ble_eq_true rfl⟩) rfl rfl rfl rfl (Nat.le_of_ble_eq_true rfl) ⟨Nat.le_of_ble_eq_true rfl, Nat.le_of_ble_eq_true rfl⟩ rfl ⟨Nat.zero_le _, Nat.zero_le _⟩ (fun v9 u1 hu1 => ?_) (fun E9 w9 h9 => by rcases h9 with h9 | h9 | h9 <;> cases h9.2.1)
  rcases hu1 with ⟨hu1f, e9, hu1⟩ | ⟨hu1f, e9, hu1⟩ | ⟨hu1f, e9, hu1⟩
  · cases e9
    have hin := hu1f.1
    have hlv := hu1f.2
    have hii := ins_iff.mp hin
    obtain ⟨r0, rfl⟩ : ∃ n : Nat, r = (n : Int) := ⟨r.toNat, by omega⟩
    obtain ⟨c0, rfl⟩ : ∃ n : Nat, c = (n : Int) := ⟨c.toNat, by omega⟩
    simp only [← zI_n]
    have hcc : 8 * r0 + c0 < 64 := by omega
    have hok := hC.1.1.1 (8 * r0 + c0) hcc
    unfold okc at hok
    rw [cl_nat] at hlv
    have hlv9 : ¬ S.1.1 (8 * r0 + c0) < 10 := by omega
    refine V_if_eq_n (tgt := 27) dX11_ageAt_6 (by decide) (by omega) (fun h6 => by exfalso; omega) (fun h6 => ?_)
    refine V_aload_n (i := 0) dX11_ageAt_9 rfl rfl ?_
    refine V_iload_n (i := 1) dX11_ageAt_10 rfl rfl ?_
    refine V_iload_n (i := 2) dX11_ageAt_11 rfl rfl ?_
    refine V_callSF dX11_ageAt_12 (m_cellOf (r := r0) (c := c0) (rfl) (rfl)) okX11_cellOf lkRX11_108 rfl rfl (Nat.le_of_ble_eq_true rfl) ⟨Nat.le_of_ble_eq_true rfl, Nat.le_of_ble_eq_true rfl⟩ rfl ?_
    have hv48 := hC.1.1.1 ((8 * r0 + c0)) (by omega)
    unfold okc at hv48
    refine V_callVF dX11_ageAt_15 (m_at (hC.1.keep hu1.2 (fun k _ => by omega)) (k := (8 * r0 + c0)) (by omega)) okX11_at lkRX11_101 (Or.inr ⟨rfl, Nat.le_of_ble_eq_true rfl⟩) rfl rfl rfl rfl (Nat.le_of_ble_eq_true rfl) ⟨Nat.le_of_ble_eq_true rfl, Nat.le_of_ble_eq_true rfl⟩ rfl ?_
    refine V_bipush_n (v := 10) dX11_ageAt_18 (by decide) ?_
    refine V_isub_n dX11_ageAt_20 (by omega) ?_
    refine V_bipush_n (v := 10) dX11_ageAt_21 (by decide) ?_
    refine V_irem_n dX11_ageAt_23 (by omega) (by omega) (by omega) ?_
    refine V_goto (tgt := 28) dX11_ageAt_24 (by decide) ?_
    refine V_iret dX11_ageAt_28 rfl rfl ?_
    have hag := kc_in (v := S.1.1 (8 * r0 + c0)) (by omega) (by omega)
    have e9 : fAgeAt S (r0 : Int) (c0 : Int) = (0, nI (((S.1.1 (8 * r0 + c0)) - 10) % 10), S) := by simp [fAgeAt, fCell, fLive, q2, cl_nat, b2, hin, hlv9, hag.2.2.2]
    rw [e9]
    exact ⟨⟨_, rfl, fun _ => rfl⟩, hC.scr ((Fz.nil (P := PScr)).trans (hu1.2.mono (fun b j q => by unfold PScr; omega))), hu1.1, ((Fz.nil (P := PScr)).trans (hu1.2.mono (fun b j q => by unfold PScr; omega))).1⟩
  · cases e9
    have hin := hu1f
    refine V_if_eq_n (tgt := 27) dX11_ageAt_6 (by decide) (by omega) (fun h6 => ?_) (fun h6 => by exfalso; omega)
    refine V_iconst_z (v := -1) dX11_ageAt_27 (by decide) ?_
    refine V_iret dX11_ageAt_28 rfl rfl ?_
    have e9 : fAgeAt S r c = (1, 0, S) := by simp [fAgeAt, fCell, fLive, q2, cl_nat, b2, hin]
    rw [e9]
    exact ⟨⟨_, rfl, fun q => by simp at q⟩, hC.scr ((Fz.nil (P := PScr)).trans (hu1.2.mono (fun b j q => by unfold PScr; omega))), hu1.1, ((Fz.nil (P := PScr)).trans (hu1.2.mono (fun b j q => by unfold PScr; omega))).1⟩
  · cases e9
    refine V_if_eq_n (tgt := 27) dX11_ageAt_6 (by decide) (by omega) (fun h6 => ?_) (fun h6 => by exfalso; omega)
    refine V_iconst_z (v := -1) dX11_ageAt_27 (by decide) ?_
    refine V_iret dX11_ageAt_28 rfl rfl ?_
    have e9 : fAgeAt S r c = (2, 0, S) := by simp [fAgeAt, fCell, fLive, q2, cl_nat, b2, hu1f.1, hu1f.2]
    rw [e9]
    exact ⟨⟨_, rfl, fun q => by simp at q⟩, hC.scr ((Fz.nil (P := PScr)).trans (hu1.2.mono (fun b j q => by unfold PScr; omega))), hu1.1, ((Fz.nil (P := PScr)).trans (hu1.2.mono (fun b j q => by unfold PScr; omega))).1⟩
set_option maxRecDepth 100000 in
set_option maxHeartbeats 1000000 in
theorem m_neighbours {x y : Int32} {r c : Int} {S : Sys} {w : Wd} (hC : MI w S) (hx : x = zI r) (hy : y = zI c) (r1 : -2147483648 ≤ r) (r2 : r < 2147483648) (c1 : -2147483648 ≤ c) (c2 : c < 2147483648) : Ct 1 MX11_neighbours 8 0 0 [.ref 47, .int x, .int y] w (PoM (fNeighbours S r c) w) := by
  refine Ct_of (by decide +kernel) rfl (Nat.le_of_ble_eq_true rfl) rfl ?_
  subst hx hy
  refine V_aload_n (i := 0) dX11_neighbours_0 rfl rfl ?_
  refine V_iload_n (i := 1) dX11_neighbours_1 rfl rfl ?_
  refine V_iload_n (i := 2) dX11_neighbours_2 rfl rfl ?_
  refine V_callV dX11_neighbours_3 (m_asks (w := _) rfl rfl r1 r2 c1 c2) okX11_asks lkRX11_211 (Or.inr ⟨rfl, Nat.le_of_ble_eq_true rfl⟩) rfl rfl rfl rfl (Nat.le_of_ble_eq_true rfl) ⟨Nat.le_of_ble_eq_true rfl, Nat.le_of_ble_eq_true rfl⟩ rfl ⟨Nat.zero_le _, Nat.zero_le _⟩ (fun v9 u1 hu1 => ?_) (fun E9 w9 h9 => by rcases h9 with h9 | h9 <;> cases h9.2.1)
  rcases hu1 with ⟨hu1f, e9, hu1⟩ | ⟨hu1f, e9, hu1⟩
  · cases e9
    have hin := hu1f
    have hii := ins_iff.mp hin
    obtain ⟨r0, rfl⟩ : ∃ n : Nat, r = (n : Int) := ⟨r.toNat, by omega⟩
    obtain ⟨c0, rfl⟩ : ∃ n : Nat, c = (n : Int) := ⟨c.toNat, by omega⟩
    simp only [← zI_n]
    have hcc : 8 * r0 + c0 < 64 := by omega
    have hok := hC.1.1.1 (8 * r0 + c0) hcc
    unfold okc at hok
    refine V_if_eq_n (tgt := 22) dX11_neighbours_6 (by decide) (by omega) (fun h6 => by exfalso; omega) (fun h6 => ?_)
    refine V_aload_n (i := 0) dX11_neighbours_9 rfl rfl ?_
    refine V_iload_n (i := 1) dX11_neighbours_10 rfl rfl ?_
    refine V_iload_n (i := 2) dX11_neighbours_11 rfl rfl ?_
    refine V_callSF dX11_neighbours_12 (m_cellOf (r := r0) (c := c0) (rfl) (rfl)) okX11_cellOf lkRX11_108 rfl rfl (Nat.le_of_ble_eq_true rfl) ⟨Nat.le_of_ble_eq_true rfl, Nat.le_of_ble_eq_true rfl⟩ rfl ?_
    refine V_iconst_n (v := 0) dX11_neighbours_15 (by decide) ?_
    have hn49 := near_le (C := S.1.1) (k := (8 * r0 + c0)) (q := 0)
    refine V_callVF dX11_neighbours_16 (m_near (hC.1.keep hu1.2 (fun k _ => by omega)) (k := (8 * r0 + c0)) (q := 0) (by omega) (by omega)) okX11_near lkRX11_115 (Or.inr ⟨rfl, Nat.le_of_ble_eq_true rfl⟩) rfl rfl rfl rfl (Nat.le_of_ble_eq_true rfl) ⟨Nat.le_of_ble_eq_true rfl, Nat.le_of_ble_eq_true rfl⟩ rfl ?_
    refine V_goto (tgt := 23) dX11_neighbours_19 (by decide) ?_
    refine V_iret dX11_neighbours_23 rfl rfl ?_
    have e9 : fNeighbours S (r0 : Int) (c0 : Int) = (0, nI (near S.1.1 (8 * r0 + c0) 0), S) := by simp [fNeighbours, fCell, fLive, q2, cl_nat, b2, hin]
    rw [e9]
    exact ⟨⟨_, rfl, fun _ => rfl⟩, hC.scr ((Fz.nil (P := PScr)).trans (hu1.2.mono (fun b j q => by unfold PScr; omega))), hu1.1, ((Fz.nil (P := PScr)).trans (hu1.2.mono (fun b j q => by unfold PScr; omega))).1⟩
  · cases e9
    have hin := hu1f
    refine V_if_eq_n (tgt := 22) dX11_neighbours_6 (by decide) (by omega) (fun h6 => ?_) (fun h6 => by exfalso; omega)
    refine V_iconst_z (v := -1) dX11_neighbours_22 (by decide) ?_
    refine V_iret dX11_neighbours_23 rfl rfl ?_
    have e9 : fNeighbours S r c = (1, 0, S) := by simp [fNeighbours, fCell, fLive, q2, cl_nat, b2, hin]
    rw [e9]
    exact ⟨⟨_, rfl, fun q => by simp at q⟩, hC.scr ((Fz.nil (P := PScr)).trans (hu1.2.mono (fun b j q => by unfold PScr; omega))), hu1.1, ((Fz.nil (P := PScr)).trans (hu1.2.mono (fun b j q => by unfold PScr; omega))).1⟩
set_option maxRecDepth 100000 in
set_option maxHeartbeats 1000000 in
theorem m_neighboursOf {x y : Int32} {r c : Int} {q : Nat} {S : Sys} {w : Wd} (hC : MI w S) (hx : x = zI r) (hy : y = zI c) (r1 : -2147483648 ≤ r) (r2 : r < 2147483648) (c1 : -2147483648 ≤ c) (c2 : c < 2147483648) (hq : q < 65536) : Ct 1 MX11_neighboursOf 8 0 0 [.ref 47, .int x, .int y, .int (nI q)] w (PoM (fNeighboursOf S r c q) w) := by
  refine Ct_of (by decide +kernel) rfl (Nat.le_of_ble_eq_true rfl) rfl ?_
  subst hx hy
  refine V_aload_n (i := 0) dX11_neighboursOf_0 rfl rfl ?_
  refine V_iload_n (i := 1) dX11_neighboursOf_1 rfl rfl ?_
  refine V_iload_n (i := 2) dX11_neighboursOf_2 rfl rfl ?_
  refine V_callV dX11_neighboursOf_3 (m_asks (w := _) rfl rfl r1 r2 c1 c2) okX11_asks lkRX11_211 (Or.inr ⟨rfl, Nat.le_of_ble_eq_true rfl⟩) rfl rfl rfl rfl (Nat.le_of_ble_eq_true rfl) ⟨Nat.le_of_ble_eq_true rfl, Nat.le_of_ble_eq_true rfl⟩ rfl ⟨Nat.zero_le _, Nat.zero_le _⟩ (fun v9 u1 hu1 => ?_) (fun E9 w9 h9 => by rcases h9 with h9 | h9 <;> cases h9.2.1)
  rcases hu1 with ⟨hu1f, e9, hu1⟩ | ⟨hu1f, e9, hu1⟩
  · cases e9
    have hin := hu1f
    have hii := ins_iff.mp hin
    obtain ⟨r0, rfl⟩ : ∃ n : Nat, r = (n : Int) := ⟨r.toNat, by omega⟩
    obtain ⟨c0, rfl⟩ : ∃ n : Nat, c = (n : Int) := ⟨c.toNat, by omega⟩
    simp only [← zI_n]
    have hcc : 8 * r0 + c0 < 64 := by omega
    have hok := hC.1.1.1 (8 * r0 + c0) hcc
    unfold okc at hok
    refine V_if_ne_n (tgt := 11) dX11_neighboursOf_6 (by decide) (by omega) (fun h6 => ?_) (fun h6 => by exfalso; omega)
    refine V_iload_n (i := 3) dX11_neighboursOf_11 rfl rfl ?_
    refine V_callSF dX11_neighboursOf_12 (m_isColour (q := ((q : Nat) : Int)) (zI_n _) (by omega) (by omega)) okX11_isColour lkRX11_127 rfl rfl (Nat.le_of_ble_eq_true rfl) ⟨Nat.le_of_ble_eq_true rfl, Nat.le_of_ble_eq_true rfl⟩ rfl ?_
    refine V_if_eq_n (tgt := 31) dX11_neighboursOf_15 (by decide) (Nat.lt_of_lt_of_le ite_le (by decide)) (fun h15 => ?_) (fun h15 => ?_)
    · have hi15 := ite_f h15
      have hcq : isC q = false := Bool.eq_false_iff.mpr (fun z => by have := isC_iff.mp z; omega)
      refine V_aload_n (i := 0) dX11_neighboursOf_31 rfl rfl ?_
      refine V_iconst_n (v := 2) dX11_neighboursOf_32 (by decide) ?_
      refine V_callVM dX11_neighboursOf_33 (m_throwing (w := _) (n := 2)) okX11_throwing lkRX11_75 (Or.inr ⟨rfl, Nat.le_of_ble_eq_true rfl⟩) rfl rfl rfl rfl (Nat.le_of_ble_eq_true rfl) ⟨Nat.le_of_ble_eq_true rfl, Nat.le_of_ble_eq_true rfl⟩ rfl ?_
      intro u2 hu2
      refine V_iret dX11_neighboursOf_36 rfl rfl ?_
      have e9 : fNeighboursOf S (r0 : Int) (c0 : Int) q = (2, 0, S) := by simp [fNeighboursOf, fCell, fLive, q2, cl_nat, b2, hin, hcq]
      rw [e9]
      exact ⟨⟨_, rfl, fun q => by simp at q⟩, hC.scr (((Fz.nil (P := PScr)).trans (hu1.2.mono (fun b j q => by unfold PScr; omega))).trans (hu2.2.mono (fun b j q => by unfold PScr; omega))), hu2.1, (((Fz.nil (P := PScr)).trans (hu1.2.mono (fun b j q => by unfold PScr; omega))).trans (hu2.2.mono (fun b j q => by unfold PScr; omega))).1⟩
    · have hi15 := ite_t h15
      have hcq : isC q = true := isC_iff.mpr (by omega)
      refine V_aload_n (i := 0) dX11_neighboursOf_18 rfl rfl ?_
      refine V_iload_n (i := 1) dX11_neighboursOf_19 rfl rfl ?_
      refine V_iload_n (i := 2) dX11_neighboursOf_20 rfl rfl ?_
      refine V_callSF dX11_neighboursOf_21 (m_cellOf (r := r0) (c := c0) (rfl) (rfl)) okX11_cellOf lkRX11_108 rfl rfl (Nat.le_of_ble_eq_true rfl) ⟨Nat.le_of_ble_eq_true rfl, Nat.le_of_ble_eq_true rfl⟩ rfl ?_
      refine V_iload_n (i := 3) dX11_neighboursOf_24 rfl rfl ?_
      have hn50 := near_le (C := S.1.1) (k := (8 * r0 + c0)) (q := q)
      refine V_callVF dX11_neighboursOf_25 (m_near (hC.1.keep hu1.2 (fun k _ => by omega)) (k := (8 * r0 + c0)) (q := q) (by omega) (by omega)) okX11_near lkRX11_115 (Or.inr ⟨rfl, Nat.le_of_ble_eq_true rfl⟩) rfl rfl rfl rfl (Nat.le_of_ble_eq_true rfl) ⟨Nat.le_of_ble_eq_true rfl, Nat.le_of_ble_eq_true rfl⟩ rfl ?_
      refine V_goto (tgt := 36) dX11_neighboursOf_28 (by decide) ?_
      refine V_iret dX11_neighboursOf_36 rfl rfl ?_
      have e9 : fNeighboursOf S (r0 : Int) (c0 : Int) q = (0, nI (near S.1.1 (8 * r0 + c0) q), S) := by simp [fNeighboursOf, fCell, fLive, q2, cl_nat, b2, hin, hcq]
      rw [e9]
      exact ⟨⟨_, rfl, fun _ => rfl⟩, hC.scr ((Fz.nil (P := PScr)).trans (hu1.2.mono (fun b j q => by unfold PScr; omega))), hu1.1, ((Fz.nil (P := PScr)).trans (hu1.2.mono (fun b j q => by unfold PScr; omega))).1⟩
  · cases e9
    have hin := hu1f
    refine V_if_ne_n (tgt := 11) dX11_neighboursOf_6 (by decide) (by omega) (fun h6 => by exfalso; omega) (fun h6 => ?_)
    refine V_iconst_z (v := -1) dX11_neighboursOf_9 (by decide) ?_
    refine V_iret dX11_neighboursOf_10 rfl rfl ?_
    have e9 : fNeighboursOf S r c q = (1, 0, S) := by simp [fNeighboursOf, fCell, fLive, q2, cl_nat, b2, hin]
    rw [e9]
    exact ⟨⟨_, rfl, fun q => by simp at q⟩, hC.scr ((Fz.nil (P := PScr)).trans (hu1.2.mono (fun b j q => by unfold PScr; omega))), hu1.1, ((Fz.nil (P := PScr)).trans (hu1.2.mono (fun b j q => by unfold PScr; omega))).1⟩
set_option maxRecDepth 100000 in
set_option maxHeartbeats 1000000 in
theorem m_birthColour {x y : Int32} {r c : Int} {S : Sys} {w : Wd} (hC : MI w S) (hx : x = zI r) (hy : y = zI c) (r1 : -2147483648 ≤ r) (r2 : r < 2147483648) (c1 : -2147483648 ≤ c) (c2 : c < 2147483648) : Ct 1 MX11_birthColour 8 0 0 [.ref 47, .int x, .int y] w (PoM (fBirthColour S r c) w) := by
  refine Ct_of (by decide +kernel) rfl (Nat.le_of_ble_eq_true rfl) rfl ?_
  subst hx hy
  refine V_aload_n (i := 0) dX11_birthColour_0 rfl rfl ?_
  refine V_iload_n (i := 1) dX11_birthColour_1 rfl rfl ?_
  refine V_iload_n (i := 2) dX11_birthColour_2 rfl rfl ?_
  refine V_callV dX11_birthColour_3 (m_asks (w := _) rfl rfl r1 r2 c1 c2) okX11_asks lkRX11_211 (Or.inr ⟨rfl, Nat.le_of_ble_eq_true rfl⟩) rfl rfl rfl rfl (Nat.le_of_ble_eq_true rfl) ⟨Nat.le_of_ble_eq_true rfl, Nat.le_of_ble_eq_true rfl⟩ rfl ⟨Nat.zero_le _, Nat.zero_le _⟩ (fun v9 u1 hu1 => ?_) (fun E9 w9 h9 => by rcases h9 with h9 | h9 <;> cases h9.2.1)
  rcases hu1 with ⟨hu1f, e9, hu1⟩ | ⟨hu1f, e9, hu1⟩
  · cases e9
    have hin := hu1f
    have hii := ins_iff.mp hin
    obtain ⟨r0, rfl⟩ : ∃ n : Nat, r = (n : Int) := ⟨r.toNat, by omega⟩
    obtain ⟨c0, rfl⟩ : ∃ n : Nat, c = (n : Int) := ⟨c.toNat, by omega⟩
    simp only [← zI_n]
    have hcc : 8 * r0 + c0 < 64 := by omega
    have hok := hC.1.1.1 (8 * r0 + c0) hcc
    unfold okc at hok
    refine V_if_ne_n (tgt := 12) dX11_birthColour_6 (by decide) (by omega) (fun h6 => ?_) (fun h6 => by exfalso; omega)
    refine V_iload_n (i := 1) dX11_birthColour_12 rfl rfl ?_
    refine V_iload_n (i := 2) dX11_birthColour_13 rfl rfl ?_
    refine V_callSF dX11_birthColour_14 (m_cellOf (r := r0) (c := c0) (rfl) (rfl)) okX11_cellOf lkRX11_108 rfl rfl (Nat.le_of_ble_eq_true rfl) ⟨Nat.le_of_ble_eq_true rfl, Nat.le_of_ble_eq_true rfl⟩ rfl ?_
    refine V_istore_n (i := 3) dX11_birthColour_17 rfl (Nat.le_of_ble_eq_true rfl) rfl rfl ?_
    refine V_aload_n (i := 0) dX11_birthColour_18 rfl rfl ?_
    refine V_iload_n (i := 3) dX11_birthColour_19 rfl rfl ?_
    refine V_iconst_n (v := 0) dX11_birthColour_20 (by decide) ?_
    have hn51 := near_le (C := S.1.1) (k := (8 * r0 + c0)) (q := 0)
    refine V_callVF dX11_birthColour_21 (m_near (hC.1.keep hu1.2 (fun k _ => by omega)) (k := (8 * r0 + c0)) (q := 0) (by omega) (by omega)) okX11_near lkRX11_115 (Or.inr ⟨rfl, Nat.le_of_ble_eq_true rfl⟩) rfl rfl rfl rfl (Nat.le_of_ble_eq_true rfl) ⟨Nat.le_of_ble_eq_true rfl, Nat.le_of_ble_eq_true rfl⟩ rfl ?_
    refine V_if_ne_n (tgt := 36) dX11_birthColour_24 (by decide) (by omega) (fun h24 => ?_) (fun h24 => ?_)
    · have hz : ¬ near S.1.1 (8 * r0 + c0) 0 = 0 := h24
      have hmo := mstN_most hcc hC.1.1.1 (by omega)
      refine V_aload_n (i := 0) dX11_birthColour_36 rfl rfl ?_
      refine V_iload_n (i := 3) dX11_birthColour_37 rfl rfl ?_
      have hm52 := mstN_in (C := S.1.1) (k := (8 * r0 + c0)) 3
      refine V_callVF dX11_birthColour_38 (m_mostNear (hC.1.keep hu1.2 (fun k _ => by omega)) (k := (8 * r0 + c0)) (by omega)) okX11_mostNear lkRX11_182 (Or.inr ⟨rfl, Nat.le_of_ble_eq_true rfl⟩) rfl rfl rfl rfl (Nat.le_of_ble_eq_true rfl) ⟨Nat.le_of_ble_eq_true rfl, Nat.le_of_ble_eq_true rfl⟩ rfl ?_
      refine V_i2c_n dX11_birthColour_41 (by omega) ?_
      refine V_iret dX11_birthColour_42 rfl (nar_char (by first | omega | exact Nat.mod_lt _ (by decide))) ?_
      have e9 : fBirthColour S (r0 : Int) (c0 : Int) = (0, nI (mstN S.1.1 (8 * r0 + c0) 3), S) := by simp [fBirthColour, fCell, fLive, q2, cl_nat, b2, hin, hz, hmo]
      rw [e9]
      exact ⟨⟨_, rfl, fun _ => rfl⟩, hC.scr ((Fz.nil (P := PScr)).trans (hu1.2.mono (fun b j q => by unfold PScr; omega))), hu1.1, ((Fz.nil (P := PScr)).trans (hu1.2.mono (fun b j q => by unfold PScr; omega))).1⟩
    · have hz : near S.1.1 (8 * r0 + c0) 0 = 0 := h24
      refine V_aload_n (i := 0) dX11_birthColour_27 rfl rfl ?_
      refine V_iconst_n (v := 2) dX11_birthColour_28 (by decide) ?_
      refine V_callVM dX11_birthColour_29 (m_throwing (w := _) (n := 2)) okX11_throwing lkRX11_75 (Or.inr ⟨rfl, Nat.le_of_ble_eq_true rfl⟩) rfl rfl rfl rfl (Nat.le_of_ble_eq_true rfl) ⟨Nat.le_of_ble_eq_true rfl, Nat.le_of_ble_eq_true rfl⟩ rfl ?_
      intro u2 hu2
      refine V_i2c dX11_birthColour_32 ?_
      refine V_goto (tgt := 42) dX11_birthColour_33 (by decide) ?_
      refine V_iret dX11_birthColour_42 rfl (nar_char (by first | omega | exact Nat.mod_lt _ (by decide))) ?_
      have e9 : fBirthColour S (r0 : Int) (c0 : Int) = (2, 0, S) := by simp [fBirthColour, fCell, fLive, q2, cl_nat, b2, hin, hz]
      rw [e9]
      exact ⟨⟨_, rfl, fun q => by simp at q⟩, hC.scr (((Fz.nil (P := PScr)).trans (hu1.2.mono (fun b j q => by unfold PScr; omega))).trans (hu2.2.mono (fun b j q => by unfold PScr; omega))), hu2.1, (((Fz.nil (P := PScr)).trans (hu1.2.mono (fun b j q => by unfold PScr; omega))).trans (hu2.2.mono (fun b j q => by unfold PScr; omega))).1⟩
  · cases e9
    have hin := hu1f
    refine V_if_ne_n (tgt := 12) dX11_birthColour_6 (by decide) (by omega) (fun h6 => by exfalso; omega) (fun h6 => ?_)
    refine V_ldc (v := 65535) dX11_birthColour_9 csRX11_220 ?_
    refine V_top (y := nI 65535) rfl ?_
    refine V_iret dX11_birthColour_11 rfl (nar_char (by first | omega | exact Nat.mod_lt _ (by decide))) ?_
    have e9 : fBirthColour S r c = (1, 0, S) := by simp [fBirthColour, fCell, fLive, q2, cl_nat, b2, hin]
    rw [e9]
    exact ⟨⟨_, rfl, fun q => by simp at q⟩, hC.scr ((Fz.nil (P := PScr)).trans (hu1.2.mono (fun b j q => by unfold PScr; omega))), hu1.1, ((Fz.nil (P := PScr)).trans (hu1.2.mono (fun b j q => by unfold PScr; omega))).1⟩
set_option maxRecDepth 100000 in
set_option maxHeartbeats 1000000 in
theorem m_wouldLive {x y : Int32} {r c : Int} {S : Sys} {w : Wd} (hC : MI w S) (hx : x = zI r) (hy : y = zI c) (r1 : -2147483648 ≤ r) (r2 : r < 2147483648) (c1 : -2147483648 ≤ c) (c2 : c < 2147483648) : Ct 1 MX11_wouldLive 8 0 0 [.ref 47, .int x, .int y] w (PoM (fWouldLive S r c) w) := by
  refine Ct_of (by decide +kernel) rfl (Nat.le_of_ble_eq_true rfl) rfl ?_
  subst hx hy
  refine V_aload_n (i := 0) dX11_wouldLive_0 rfl rfl ?_
  refine V_iconst_n (v := 0) dX11_wouldLive_1 (by decide) ?_
  refine V_putI (k := 9) (ty := .int) dX11_wouldLive_2 (Or.inr ⟨rfl, Nat.le_of_ble_eq_true rfl⟩) rfl rfl rfl (Nat.le_of_ble_eq_true rfl) flRX11_66 rfl (by decide +kernel) rfl rfl ?_
  refine V_iload_n (i := 1) dX11_wouldLive_5 rfl rfl ?_
  refine V_iload_n (i := 2) dX11_wouldLive_6 rfl rfl ?_
  refine V_callSF dX11_wouldLive_7 (m_isCell (r := r) (c := c) rfl rfl (by omega) (by omega) (by omega) (by omega)) okX11_isCell lkRX11_104 rfl rfl (Nat.le_of_ble_eq_true rfl) ⟨Nat.le_of_ble_eq_true rfl, Nat.le_of_ble_eq_true rfl⟩ rfl ?_
  refine V_if_ne_n (tgt := 21) dX11_wouldLive_10 (by decide) (Nat.lt_of_lt_of_le ite_le (by decide)) (fun h10 => ?_) (fun h10 => ?_)
  · have hi10 := ite_t h10
    obtain ⟨r0, rfl⟩ : ∃ n : Nat, r = (n : Int) := ⟨r.toNat, by omega⟩
    obtain ⟨c0, rfl⟩ : ∃ n : Nat, c = (n : Int) := ⟨c.toNat, by omega⟩
    simp only [← zI_n]
    have hin : ins (r0 : Int) (c0 : Int) = true := ins_iff.mpr (by omega)
    have hcc : 8 * r0 + c0 < 64 := by omega
    refine V_aload_n (i := 0) dX11_wouldLive_21 rfl rfl ?_
    refine V_iload_n (i := 1) dX11_wouldLive_22 rfl rfl ?_
    refine V_iload_n (i := 2) dX11_wouldLive_23 rfl rfl ?_
    refine V_callSF dX11_wouldLive_24 (m_cellOf (r := r0) (c := c0) (rfl) (rfl)) okX11_cellOf lkRX11_108 rfl rfl (Nat.le_of_ble_eq_true rfl) ⟨Nat.le_of_ble_eq_true rfl, Nat.le_of_ble_eq_true rfl⟩ rfl ?_
    have hx53 := m_nextc_ok (s := S.1) (k := (8 * r0 + c0)) (by omega) hC.1.1
    unfold okc at hx53
    refine V_callVF dX11_wouldLive_27 (m_next (hC.1.wr (by decide)) (k := (8 * r0 + c0)) (by omega)) okX11_next lkRX11_188 (Or.inr ⟨rfl, Nat.le_of_ble_eq_true rfl⟩) rfl rfl rfl rfl (Nat.le_of_ble_eq_true rfl) ⟨Nat.le_of_ble_eq_true rfl, Nat.le_of_ble_eq_true rfl⟩ rfl ?_
    refine V_bipush_n (v := 10) dX11_wouldLive_30 (by decide) ?_
    refine V_icmp_lt_n (tgt := 39) dX11_wouldLive_32 (by decide) (by omega) (by omega) (fun h32 => ?_) (fun h32 => ?_)
    · have hz : ¬ 10 ≤ nextc S.1 (8 * r0 + c0) := by omega
      refine V_iconst_n (v := 0) dX11_wouldLive_39 (by decide) ?_
      refine V_iret dX11_wouldLive_40 rfl (nar_bool (by decide)) ?_
      have e9 : fWouldLive S (r0 : Int) (c0 : Int) = (0, nI 0, S) := by simp [fWouldLive, fCell, fLive, q2, cl_nat, b2, hin, hz]
      rw [e9]
      exact ⟨⟨_, rfl, fun _ => rfl⟩, hC.scr ((Fz.nil (P := PScr)).i1 (by omega) (by unfold PScr; omega)), pI_at, ((Fz.nil (P := PScr)).i1 (by omega) (by unfold PScr; omega)).1⟩
    · have hz : 10 ≤ nextc S.1 (8 * r0 + c0) := by omega
      refine V_iconst_n (v := 1) dX11_wouldLive_35 (by decide) ?_
      refine V_goto (tgt := 40) dX11_wouldLive_36 (by decide) ?_
      refine V_iret dX11_wouldLive_40 rfl (nar_bool (by decide)) ?_
      have e9 : fWouldLive S (r0 : Int) (c0 : Int) = (0, nI 1, S) := by simp [fWouldLive, fCell, fLive, q2, cl_nat, b2, hin, hz]
      rw [e9]
      exact ⟨⟨_, rfl, fun _ => rfl⟩, hC.scr ((Fz.nil (P := PScr)).i1 (by omega) (by unfold PScr; omega)), pI_at, ((Fz.nil (P := PScr)).i1 (by omega) (by unfold PScr; omega)).1⟩
  · have hi10 := ite_f h10
    have hin : ins r c = false := Bool.eq_false_iff.mpr (fun q => hi10 (ins_iff.mp q))
    refine V_aload_n (i := 0) dX11_wouldLive_13 rfl rfl ?_
    refine V_iconst_n (v := 1) dX11_wouldLive_14 (by decide) ?_
    refine V_callVM dX11_wouldLive_15 (m_throwing (w := _) (n := 1)) okX11_throwing lkRX11_75 (Or.inr ⟨rfl, Nat.le_of_ble_eq_true rfl⟩) rfl rfl rfl rfl (Nat.le_of_ble_eq_true rfl) ⟨Nat.le_of_ble_eq_true rfl, Nat.le_of_ble_eq_true rfl⟩ rfl ?_
    intro u1 hu1
    refine V_pop dX11_wouldLive_18 rfl ?_
    refine V_iconst_n (v := 0) dX11_wouldLive_19 (by decide) ?_
    refine V_iret dX11_wouldLive_20 rfl (nar_bool (by decide)) ?_
    have e9 : fWouldLive S r c = (1, 0, S) := by simp [fWouldLive, fCell, fLive, q2, cl_nat, b2, hin]
    rw [e9]
    exact ⟨⟨_, rfl, fun q => by simp at q⟩, hC.scr (((Fz.nil (P := PScr)).i1 (by omega) (by unfold PScr; omega)).trans (hu1.2.mono (fun b j q => by unfold PScr; omega))), hu1.1, (((Fz.nil (P := PScr)).i1 (by omega) (by unfold PScr; omega)).trans (hu1.2.mono (fun b j q => by unfold PScr; omega))).1⟩
set_option maxRecDepth 100000 in
set_option maxHeartbeats 1000000 in
theorem m_livingCount {S : Sys} {w : Wd} (hC : MI w S) : Ct 1 MX11_livingCount 8 0 0 [.ref 47] w (PoM (fLivingCount S) w) := by
  refine Ct_of (by decide +kernel) rfl (Nat.le_of_ble_eq_true rfl) rfl ?_
  refine V_aload_n (i := 0) dX11_livingCount_0 rfl rfl ?_
  refine V_iconst_n (v := 0) dX11_livingCount_1 (by decide) ?_
  refine V_putI (k := 9) (ty := .int) dX11_livingCount_2 (Or.inr ⟨rfl, Nat.le_of_ble_eq_true rfl⟩) rfl rfl rfl (Nat.le_of_ble_eq_true rfl) flRX11_66 rfl (by decide +kernel) rfl rfl ?_
  refine V_aload_n (i := 0) dX11_livingCount_5 rfl rfl ?_
  have hq54 := cnt_le (C := S.1.1) (q := 42) (n := 64)
  change cnt S.1.1 42 ≤ 64 at hq54
  refine V_callVF dX11_livingCount_6 (m_livings (hC.1.wr (by decide))) okX11_livings lkRX11_138 (Or.inr ⟨rfl, Nat.le_of_ble_eq_true rfl⟩) rfl rfl rfl rfl (Nat.le_of_ble_eq_true rfl) ⟨Nat.le_of_ble_eq_true rfl, Nat.le_of_ble_eq_true rfl⟩ rfl ?_
  refine V_iret dX11_livingCount_9 rfl rfl ?_
  have e9 : fLivingCount S = (0, nI (cnt S.1.1 42), S) := by simp [fLivingCount, fCell, fLive, q2, cl_nat, b2]
  rw [e9]
  exact ⟨⟨_, rfl, fun _ => rfl⟩, hC.scr ((Fz.nil (P := PScr)).i1 (by omega) (by unfold PScr; omega)), pI_at, ((Fz.nil (P := PScr)).i1 (by omega) (by unfold PScr; omega)).1⟩
set_option maxRecDepth 100000 in
set_option maxHeartbeats 1000000 in
theorem m_bleachedCount {S : Sys} {w : Wd} (hC : MI w S) : Ct 1 MX11_bleachedCount 8 0 0 [.ref 47] w (PoM (fBleachedCount S) w) := by
  refine Ct_of (by decide +kernel) rfl (Nat.le_of_ble_eq_true rfl) rfl ?_
  refine V_aload_n (i := 0) dX11_bleachedCount_0 rfl rfl ?_
  refine V_iconst_n (v := 0) dX11_bleachedCount_1 (by decide) ?_
  refine V_putI (k := 9) (ty := .int) dX11_bleachedCount_2 (Or.inr ⟨rfl, Nat.le_of_ble_eq_true rfl⟩) rfl rfl rfl (Nat.le_of_ble_eq_true rfl) flRX11_66 rfl (by decide +kernel) rfl rfl ?_
  refine V_aload_n (i := 0) dX11_bleachedCount_5 rfl rfl ?_
  have hq55 := cnt_le (C := S.1.1) (q := 35) (n := 64)
  change cnt S.1.1 35 ≤ 64 at hq55
  refine V_callVF dX11_bleachedCount_6 (m_bleacheds (hC.1.wr (by decide))) okX11_bleacheds lkRX11_154 (Or.inr ⟨rfl, Nat.le_of_ble_eq_true rfl⟩) rfl rfl rfl rfl (Nat.le_of_ble_eq_true rfl) ⟨Nat.le_of_ble_eq_true rfl, Nat.le_of_ble_eq_true rfl⟩ rfl ?_
  refine V_iret dX11_bleachedCount_9 rfl rfl ?_
  have e9 : fBleachedCount S = (0, nI (cnt S.1.1 35), S) := by simp [fBleachedCount, fCell, fLive, q2, cl_nat, b2]
  rw [e9]
  exact ⟨⟨_, rfl, fun _ => rfl⟩, hC.scr ((Fz.nil (P := PScr)).i1 (by omega) (by unfold PScr; omega)), pI_at, ((Fz.nil (P := PScr)).i1 (by omega) (by unfold PScr; omega)).1⟩
set_option maxRecDepth 100000 in
set_option maxHeartbeats 1000000 in
theorem m_countOf {q : Nat} {S : Sys} {w : Wd} (hC : MI w S) (hq : q < 65536) : Ct 1 MX11_countOf 8 0 0 [.ref 47, .int (nI q)] w (PoM (fCountOf S q) w) := by
  refine Ct_of (by decide +kernel) rfl (Nat.le_of_ble_eq_true rfl) rfl ?_
  refine V_aload_n (i := 0) dX11_countOf_0 rfl rfl ?_
  refine V_iconst_n (v := 0) dX11_countOf_1 (by decide) ?_
  refine V_putI (k := 9) (ty := .int) dX11_countOf_2 (Or.inr ⟨rfl, Nat.le_of_ble_eq_true rfl⟩) rfl rfl rfl (Nat.le_of_ble_eq_true rfl) flRX11_66 rfl (by decide +kernel) rfl rfl ?_
  refine V_iload_n (i := 1) dX11_countOf_5 rfl rfl ?_
  refine V_callSF dX11_countOf_6 (m_isColour (q := ((q : Nat) : Int)) (zI_n _) (by omega) (by omega)) okX11_isColour lkRX11_127 rfl rfl (Nat.le_of_ble_eq_true rfl) ⟨Nat.le_of_ble_eq_true rfl, Nat.le_of_ble_eq_true rfl⟩ rfl ?_
  refine V_if_eq_n (tgt := 30) dX11_countOf_9 (by decide) (Nat.lt_of_lt_of_le ite_le (by decide)) (fun h9 => ?_) (fun h9 => ?_)
  · have hi9 := ite_f h9
    have hcq : isC q = false := Bool.eq_false_iff.mpr (fun z => by have := isC_iff.mp z; omega)
    refine V_aload_n (i := 0) dX11_countOf_30 rfl rfl ?_
    refine V_iconst_n (v := 1) dX11_countOf_31 (by decide) ?_
    refine V_callVM dX11_countOf_32 (m_throwing (w := _) (n := 1)) okX11_throwing lkRX11_75 (Or.inr ⟨rfl, Nat.le_of_ble_eq_true rfl⟩) rfl rfl rfl rfl (Nat.le_of_ble_eq_true rfl) ⟨Nat.le_of_ble_eq_true rfl, Nat.le_of_ble_eq_true rfl⟩ rfl ?_
    intro u1 hu1
    refine V_iret dX11_countOf_35 rfl rfl ?_
    have e9 : fCountOf S q = (1, 0, S) := by simp [fCountOf, fCell, fLive, q2, cl_nat, b2, hcq]
    rw [e9]
    exact ⟨⟨_, rfl, fun q => by simp at q⟩, hC.scr (((Fz.nil (P := PScr)).i1 (by omega) (by unfold PScr; omega)).trans (hu1.2.mono (fun b j q => by unfold PScr; omega))), hu1.1, (((Fz.nil (P := PScr)).i1 (by omega) (by unfold PScr; omega)).trans (hu1.2.mono (fun b j q => by unfold PScr; omega))).1⟩
  · have hi9 := ite_t h9
    have hcq : isC q = true := isC_iff.mpr (by omega)
    refine V_aload_n (i := 0) dX11_countOf_12 rfl rfl ?_
    refine V_iload_n (i := 1) dX11_countOf_13 rfl rfl ?_
    refine V_iconst_n (v := 0) dX11_countOf_14 (by decide) ?_
    refine V_callSF dX11_countOf_15 (m_living (q := q) (g := 0) (rfl) (rfl) (by omega)) okX11_living lkRX11_135 rfl rfl (Nat.le_of_ble_eq_true rfl) ⟨Nat.le_of_ble_eq_true rfl, Nat.le_of_ble_eq_true rfl⟩ rfl ?_
    refine V_iload_n (i := 1) dX11_countOf_18 rfl rfl ?_
    refine V_bipush_n (v := 9) dX11_countOf_19 (by decide) ?_
    refine V_callSF dX11_countOf_21 (m_living (q := q) (g := 9) (rfl) (rfl) (by omega)) okX11_living lkRX11_135 rfl rfl (Nat.le_of_ble_eq_true rfl) ⟨Nat.le_of_ble_eq_true rfl, Nat.le_of_ble_eq_true rfl⟩ rfl ?_
    have hq56 := mny_le (C := S.1.1) (lo := (10 + 10 * (q - 97) + 0)) (hi := (10 + 10 * (q - 97) + 9)) 64
    refine V_callVF dX11_countOf_24 (m_manyOf (hC.1.wr (by decide)) (lo := (10 + 10 * (q - 97) + 0)) (hi := (10 + 10 * (q - 97) + 9)) (by omega) (by omega)) okX11_manyOf lkRX11_118 (Or.inr ⟨rfl, Nat.le_of_ble_eq_true rfl⟩) rfl rfl rfl rfl (Nat.le_of_ble_eq_true rfl) ⟨Nat.le_of_ble_eq_true rfl, Nat.le_of_ble_eq_true rfl⟩ rfl ?_
    refine V_goto (tgt := 35) dX11_countOf_27 (by decide) ?_
    refine V_iret dX11_countOf_35 rfl rfl ?_
    have hmc := mny_col (q := q) hC.1.1 (by omega)
    rw [hmc]
    have e9 : fCountOf S q = (0, nI (cnt S.1.1 q), S) := by simp [fCountOf, fCell, fLive, q2, cl_nat, b2, hcq]
    rw [e9]
    exact ⟨⟨_, rfl, fun _ => rfl⟩, hC.scr ((Fz.nil (P := PScr)).i1 (by omega) (by unfold PScr; omega)), pI_at, ((Fz.nil (P := PScr)).i1 (by omega) (by unfold PScr; omega)).1⟩
set_option maxRecDepth 100000 in
set_option maxHeartbeats 1000000 in
theorem m_total {j : Nat} {S : Sys} {w : Wd} (hC : MI w S) (hj : j < 6) : Ct 1 MX11_total 2 0 0 [.ref 47, .int (nI (j + 1))] w (PoM (fTotal S j) w) := by
  refine Ct_of (by decide +kernel) rfl (Nat.le_of_ble_eq_true rfl) rfl ?_
  refine V_aload_n (i := 0) dX11_total_0 rfl rfl ?_
  refine V_iconst_n (v := 0) dX11_total_1 (by decide) ?_
  refine V_putI (k := 9) (ty := .int) dX11_total_2 (Or.inr ⟨rfl, Nat.le_of_ble_eq_true rfl⟩) rfl rfl rfl (Nat.le_of_ble_eq_true rfl) flRX11_66 rfl (by decide +kernel) rfl rfl ?_
  refine V_aload_n (i := 0) dX11_total_5 rfl rfl ?_
  refine V_getC (k := 0) (q := 48) dX11_total_6 (Or.inr ⟨rfl, Nat.le_of_ble_eq_true rfl⟩) rfl rfl rfl (Nat.le_of_ble_eq_true rfl) flRX11_9 ?_
  refine V_iload_n (i := 1) dX11_total_9 rfl rfl ?_
  refine V_iald_n (i := (j + 1)) dX11_total_10 (Or.inr ⟨rfl, Nat.le_of_ble_eq_true rfl⟩) rfl (by omega) (by decide) ?_
  refine V_top (y := (S.1.2.2 j)) ((hC.1.wr (by decide)).cnt0 hj) ?_
  refine V_iret dX11_total_11 rfl rfl ?_
  have e9 : fTotal S j = (0, (S.1.2.2 j), S) := by simp [fTotal, fCell, fLive, q2, cl_nat, b2]
  rw [e9]
  exact ⟨⟨_, rfl, fun _ => rfl⟩, hC.scr ((Fz.nil (P := PScr)).i1 (by omega) (by unfold PScr; omega)), pI_at, ((Fz.nil (P := PScr)).i1 (by omega) (by unfold PScr; omega)).1⟩
set_option maxRecDepth 100000 in
set_option maxHeartbeats 1000000 in
theorem m_tideCount {S : Sys} {w : Wd} (hC : MI w S) : Ct 1 MX11_tideCount 3 0 0 [.ref 47] w (PoM (fTotal S 0) w) := by
  refine Ct_of (by decide +kernel) rfl (Nat.le_of_ble_eq_true rfl) rfl ?_
  refine V_aload_n (i := 0) dX11_tideCount_0 rfl rfl ?_
  refine V_iconst_n (v := 1) dX11_tideCount_1 (by decide) ?_
  refine V_callV dX11_tideCount_2 (m_total (j := 0) hC (by decide)) okX11_total lkRX11_239 (Or.inr ⟨rfl, Nat.le_of_ble_eq_true rfl⟩) rfl rfl rfl rfl (Nat.le_of_ble_eq_true rfl) ⟨Nat.le_of_ble_eq_true rfl, Nat.le_of_ble_eq_true rfl⟩ rfl ⟨Nat.zero_le _, Nat.zero_le _⟩ (fun v9 u1 hu1 => ?_) (fun E9 w9 h9 => by obtain ⟨⟨x9, h9, _⟩, _⟩ := h9; cases h9)
  obtain ⟨⟨x1, e9, hx1⟩, hu1⟩ := hu1
  cases e9
  refine V_iret dX11_tideCount_5 rfl rfl ?_
  exact ⟨⟨_, rfl, hx1⟩, hu1⟩
set_option maxRecDepth 100000 in
set_option maxHeartbeats 1000000 in
theorem m_placedCount {S : Sys} {w : Wd} (hC : MI w S) : Ct 1 MX11_placedCount 3 0 0 [.ref 47] w (PoM (fTotal S 1) w) := by
  refine Ct_of (by decide +kernel) rfl (Nat.le_of_ble_eq_true rfl) rfl ?_
  refine V_aload_n (i := 0) dX11_placedCount_0 rfl rfl ?_
  refine V_iconst_n (v := 2) dX11_placedCount_1 (by decide) ?_
  refine V_callV dX11_placedCount_2 (m_total (j := 1) hC (by decide)) okX11_total lkRX11_239 (Or.inr ⟨rfl, Nat.le_of_ble_eq_true rfl⟩) rfl rfl rfl rfl (Nat.le_of_ble_eq_true rfl) ⟨Nat.le_of_ble_eq_true rfl, Nat.le_of_ble_eq_true rfl⟩ rfl ⟨Nat.zero_le _, Nat.zero_le _⟩ (fun v9 u1 hu1 => ?_) (fun E9 w9 h9 => by obtain ⟨⟨x9, h9, _⟩, _⟩ := h9; cases h9)
  obtain ⟨⟨x1, e9, hx1⟩, hu1⟩ := hu1
  cases e9
  refine V_iret dX11_placedCount_5 rfl rfl ?_
  exact ⟨⟨_, rfl, hx1⟩, hu1⟩
set_option maxRecDepth 100000 in
set_option maxHeartbeats 1000000 in
theorem m_removedCount {S : Sys} {w : Wd} (hC : MI w S) : Ct 1 MX11_removedCount 3 0 0 [.ref 47] w (PoM (fTotal S 2) w) := by
  refine Ct_of (by decide +kernel) rfl (Nat.le_of_ble_eq_true rfl) rfl ?_
  refine V_aload_n (i := 0) dX11_removedCount_0 rfl rfl ?_
  refine V_iconst_n (v := 3) dX11_removedCount_1 (by decide) ?_
  refine V_callV dX11_removedCount_2 (m_total (j := 2) hC (by decide)) okX11_total lkRX11_239 (Or.inr ⟨rfl, Nat.le_of_ble_eq_true rfl⟩) rfl rfl rfl rfl (Nat.le_of_ble_eq_true rfl) ⟨Nat.le_of_ble_eq_true rfl, Nat.le_of_ble_eq_true rfl⟩ rfl ⟨Nat.zero_le _, Nat.zero_le _⟩ (fun v9 u1 hu1 => ?_) (fun E9 w9 h9 => by obtain ⟨⟨x9, h9, _⟩, _⟩ := h9; cases h9)
  obtain ⟨⟨x1, e9, hx1⟩, hu1⟩ := hu1
  cases e9
  refine V_iret dX11_removedCount_5 rfl rfl ?_
  exact ⟨⟨_, rfl, hx1⟩, hu1⟩
set_option maxRecDepth 100000 in
set_option maxHeartbeats 1000000 in
theorem m_bornCount {S : Sys} {w : Wd} (hC : MI w S) : Ct 1 MX11_bornCount 3 0 0 [.ref 47] w (PoM (fTotal S 3) w) := by
  refine Ct_of (by decide +kernel) rfl (Nat.le_of_ble_eq_true rfl) rfl ?_
  refine V_aload_n (i := 0) dX11_bornCount_0 rfl rfl ?_
  refine V_iconst_n (v := 4) dX11_bornCount_1 (by decide) ?_
  refine V_callV dX11_bornCount_2 (m_total (j := 3) hC (by decide)) okX11_total lkRX11_239 (Or.inr ⟨rfl, Nat.le_of_ble_eq_true rfl⟩) rfl rfl rfl rfl (Nat.le_of_ble_eq_true rfl) ⟨Nat.le_of_ble_eq_true rfl, Nat.le_of_ble_eq_true rfl⟩ rfl ⟨Nat.zero_le _, Nat.zero_le _⟩ (fun v9 u1 hu1 => ?_) (fun E9 w9 h9 => by obtain ⟨⟨x9, h9, _⟩, _⟩ := h9; cases h9)
  obtain ⟨⟨x1, e9, hx1⟩, hu1⟩ := hu1
  cases e9
  refine V_iret dX11_bornCount_5 rfl rfl ?_
  exact ⟨⟨_, rfl, hx1⟩, hu1⟩
set_option maxRecDepth 100000 in
set_option maxHeartbeats 1000000 in
theorem m_bleachings {S : Sys} {w : Wd} (hC : MI w S) : Ct 1 MX11_bleachings 3 0 0 [.ref 47] w (PoM (fTotal S 4) w) := by
  refine Ct_of (by decide +kernel) rfl (Nat.le_of_ble_eq_true rfl) rfl ?_
  refine V_aload_n (i := 0) dX11_bleachings_0 rfl rfl ?_
  refine V_iconst_n (v := 5) dX11_bleachings_1 (by decide) ?_
  refine V_callV dX11_bleachings_2 (m_total (j := 4) hC (by decide)) okX11_total lkRX11_239 (Or.inr ⟨rfl, Nat.le_of_ble_eq_true rfl⟩) rfl rfl rfl rfl (Nat.le_of_ble_eq_true rfl) ⟨Nat.le_of_ble_eq_true rfl, Nat.le_of_ble_eq_true rfl⟩ rfl ⟨Nat.zero_le _, Nat.zero_le _⟩ (fun v9 u1 hu1 => ?_) (fun E9 w9 h9 => by obtain ⟨⟨x9, h9, _⟩, _⟩ := h9; cases h9)
  obtain ⟨⟨x1, e9, hx1⟩, hu1⟩ := hu1
  cases e9
  refine V_iret dX11_bleachings_5 rfl rfl ?_
  exact ⟨⟨_, rfl, hx1⟩, hu1⟩
set_option maxRecDepth 100000 in
set_option maxHeartbeats 1000000 in
theorem m_washedCount {S : Sys} {w : Wd} (hC : MI w S) : Ct 1 MX11_washedCount 3 0 0 [.ref 47] w (PoM (fTotal S 5) w) := by
  refine Ct_of (by decide +kernel) rfl (Nat.le_of_ble_eq_true rfl) rfl ?_
  refine V_aload_n (i := 0) dX11_washedCount_0 rfl rfl ?_
  refine V_bipush_n (v := 6) dX11_washedCount_1 (by decide) ?_
  refine V_callV dX11_washedCount_3 (m_total (j := 5) hC (by decide)) okX11_total lkRX11_239 (Or.inr ⟨rfl, Nat.le_of_ble_eq_true rfl⟩) rfl rfl rfl rfl (Nat.le_of_ble_eq_true rfl) ⟨Nat.le_of_ble_eq_true rfl, Nat.le_of_ble_eq_true rfl⟩ rfl ⟨Nat.zero_le _, Nat.zero_le _⟩ (fun v9 u1 hu1 => ?_) (fun E9 w9 h9 => by obtain ⟨⟨x9, h9, _⟩, _⟩ := h9; cases h9)
  obtain ⟨⟨x1, e9, hx1⟩, hu1⟩ := hu1
  cases e9
  refine V_iret dX11_washedCount_6 rfl rfl ?_
  exact ⟨⟨_, rfl, hx1⟩, hu1⟩
set_option maxRecDepth 100000 in
set_option maxHeartbeats 1000000 in
theorem m_isStill {S : Sys} {w : Wd} (hC : MI w S) : Ct 1 MX11_isStill 8 0 0 [.ref 47] w (PoM (fIsStill S) w) := by
  refine Ct_of (by decide +kernel) rfl (Nat.le_of_ble_eq_true rfl) rfl ?_
  refine V_aload_n (i := 0) dX11_isStill_0 rfl rfl ?_
  refine V_iconst_n (v := 0) dX11_isStill_1 (by decide) ?_
  refine V_putI (k := 9) (ty := .int) dX11_isStill_2 (Or.inr ⟨rfl, Nat.le_of_ble_eq_true rfl⟩) rfl rfl rfl (Nat.le_of_ble_eq_true rfl) flRX11_66 rfl (by decide +kernel) rfl rfl ?_
  refine V_aload_n (i := 0) dX11_isStill_5 rfl rfl ?_
  refine V_callVF dX11_isStill_6 (m_isStillNow (hC.1.wr (by decide))) okX11_isStillNow lkRX11_205 (Or.inr ⟨rfl, Nat.le_of_ble_eq_true rfl⟩) rfl rfl rfl rfl (Nat.le_of_ble_eq_true rfl) ⟨Nat.le_of_ble_eq_true rfl, Nat.le_of_ble_eq_true rfl⟩ rfl ?_
  refine V_iret dX11_isStill_9 rfl (nar_bool ite_le) ?_
  have e9 : fIsStill S = (0, nI (if stl S.1 = true then 1 else 0), S) := by simp [fIsStill, fCell, fLive, q2, cl_nat, b2]
  rw [e9]
  exact ⟨⟨_, rfl, fun _ => rfl⟩, hC.scr ((Fz.nil (P := PScr)).i1 (by omega) (by unfold PScr; omega)), pI_at, ((Fz.nil (P := PScr)).i1 (by omega) (by unfold PScr; omega)).1⟩
set_option maxRecDepth 100000 in
set_option maxHeartbeats 1000000 in
theorem m_rule {S : Sys} {w : Wd} (hC : MI w S) : Ct 1 MX11_rule 8 0 0 [.ref 47] w (PoM (fRule S) w) := by
  refine Ct_of (by decide +kernel) rfl (Nat.le_of_ble_eq_true rfl) rfl ?_
  have hrl := hC.1.1.2
  refine V_aload_n (i := 0) dX11_rule_0 rfl rfl ?_
  refine V_iconst_n (v := 0) dX11_rule_1 (by decide) ?_
  refine V_putI (k := 9) (ty := .int) dX11_rule_2 (Or.inr ⟨rfl, Nat.le_of_ble_eq_true rfl⟩) rfl rfl rfl (Nat.le_of_ble_eq_true rfl) flRX11_66 rfl (by decide +kernel) rfl rfl ?_
  refine V_aload_n (i := 0) dX11_rule_5 rfl rfl ?_
  refine V_getC (k := 0) (q := 48) dX11_rule_6 (Or.inr ⟨rfl, Nat.le_of_ble_eq_true rfl⟩) rfl rfl rfl (Nat.le_of_ble_eq_true rfl) flRX11_9 ?_
  refine V_iconst_n (v := 0) dX11_rule_9 (by decide) ?_
  refine V_iald_n (i := 0) dX11_rule_10 (Or.inr ⟨rfl, Nat.le_of_ble_eq_true rfl⟩) rfl (by omega) (by decide) ?_
  refine V_top (y := nI (S.1.2.1)) (hC.1.wr (by decide)).rule0 ?_
  have hl57 := @rl_lt S.1.2.1
  refine V_callSF dX11_rule_11 (m_letterOf (r := S.1.2.1) (by omega)) okX11_letterOf lkRX11_173 rfl rfl (Nat.le_of_ble_eq_true rfl) ⟨Nat.le_of_ble_eq_true rfl, Nat.le_of_ble_eq_true rfl⟩ rfl ?_
  refine V_i2c_n dX11_rule_14 (by omega) ?_
  refine V_iret dX11_rule_15 rfl (nar_char (by omega)) ?_
  have e9 : fRule S = (0, nI (rlL S.1.2.1), S) := by simp [fRule, fCell, fLive, q2, cl_nat, b2]
  rw [e9]
  exact ⟨⟨_, rfl, fun _ => rfl⟩, hC.scr ((Fz.nil (P := PScr)).i1 (by omega) (by unfold PScr; omega)), pI_at, ((Fz.nil (P := PScr)).i1 (by omega) (by unfold PScr; omega)).1⟩
set_option maxRecDepth 100000 in
set_option maxHeartbeats 1000000 in
theorem m_isBirth {x : Int32} {n : Int} {S : Sys} {w : Wd} (hC : MI w S) (hx : x = zI n) (n1 : -2147483648 ≤ n) (n2 : n < 2147483648) : Ct 1 MX11_isBirth 8 0 0 [.ref 47, .int x] w (PoM (fIsBirth S n) w) := by
  refine Ct_of (by decide +kernel) rfl (Nat.le_of_ble_eq_true rfl) rfl ?_
  subst hx
  refine V_aload_n (i := 0) dX11_isBirth_0 rfl rfl ?_
  refine V_iconst_n (v := 0) dX11_isBirth_1 (by decide) ?_
  refine V_putI (k := 9) (ty := .int) dX11_isBirth_2 (Or.inr ⟨rfl, Nat.le_of_ble_eq_true rfl⟩) rfl rfl rfl (Nat.le_of_ble_eq_true rfl) flRX11_66 rfl (by decide +kernel) rfl rfl ?_
  refine V_iload_n (i := 1) dX11_isBirth_5 rfl rfl ?_
  refine V_i2l dX11_isBirth_6 ?_
  refine V_topL (y := zL (n)) (zI_zL (by omega) (by omega)) ?_
  refine V_lconst (v := zL 0) dX11_isBirth_7 (by decide) ?_
  refine V_ldc2 dX11_isBirth_8 csRX11_209 ?_
  refine V_topL (y := zL 8) (by decide) ?_
  refine V_callSF dX11_isBirth_11 (c_in (a := (n)) (b := 0) (c := 8) (by omega) (by omega) (by omega) (by omega) (by omega) (by omega)) okX11_in lkRX11_93 rfl rfl (Nat.le_of_ble_eq_true rfl) ⟨Nat.le_of_ble_eq_true rfl, Nat.le_of_ble_eq_true rfl⟩ rfl ?_
  refine V_if_ne_n (tgt := 25) dX11_isBirth_14 (by decide) (Nat.lt_of_lt_of_le ite_le (by decide)) (fun h14 => ?_) (fun h14 => ?_)
  · have hi14 := ite_t h14
    obtain ⟨n0, rfl⟩ : ∃ m : Nat, n = (m : Int) := ⟨n.toNat, by omega⟩
    have hnn : (n0 : Int) ≤ 8 := by omega
    simp only [← zI_n]
    refine V_aload_n (i := 0) dX11_isBirth_25 rfl rfl ?_
    refine V_iload_n (i := 1) dX11_isBirth_26 rfl rfl ?_
    refine V_callVF dX11_isBirth_27 (m_bears (hC.1.wr (by decide)) (n := n0) (by omega)) okX11_bears lkRX11_179 (Or.inr ⟨rfl, Nat.le_of_ble_eq_true rfl⟩) rfl rfl rfl rfl (Nat.le_of_ble_eq_true rfl) ⟨Nat.le_of_ble_eq_true rfl, Nat.le_of_ble_eq_true rfl⟩ rfl ?_
    refine V_iret dX11_isBirth_30 rfl (nar_bool ite_le) ?_
    have e9 : fIsBirth S (n0 : Int) = (0, nI (if bears S.1.2.1 n0 = true then 1 else 0), S) := by simp [fIsBirth, fCell, fLive, q2, cl_nat, b2, hnn]
    rw [e9]
    exact ⟨⟨_, rfl, fun _ => rfl⟩, hC.scr ((Fz.nil (P := PScr)).i1 (by omega) (by unfold PScr; omega)), pI_at, ((Fz.nil (P := PScr)).i1 (by omega) (by unfold PScr; omega)).1⟩
  · have hi14 := ite_f h14
    
    refine V_aload_n (i := 0) dX11_isBirth_17 rfl rfl ?_
    refine V_iconst_n (v := 1) dX11_isBirth_18 (by decide) ?_
    refine V_callVM dX11_isBirth_19 (m_throwing (w := _) (n := 1)) okX11_throwing lkRX11_75 (Or.inr ⟨rfl, Nat.le_of_ble_eq_true rfl⟩) rfl rfl rfl rfl (Nat.le_of_ble_eq_true rfl) ⟨Nat.le_of_ble_eq_true rfl, Nat.le_of_ble_eq_true rfl⟩ rfl ?_
    intro u1 hu1
    refine V_pop dX11_isBirth_22 rfl ?_
    refine V_iconst_n (v := 0) dX11_isBirth_23 (by decide) ?_
    refine V_iret dX11_isBirth_24 rfl (nar_bool (by decide)) ?_
    have e9 : fIsBirth S n = (1, 0, S) := by simp [fIsBirth, fCell, fLive, q2, cl_nat, b2, hi14]
    rw [e9]
    exact ⟨⟨_, rfl, fun q => by simp at q⟩, hC.scr (((Fz.nil (P := PScr)).i1 (by omega) (by unfold PScr; omega)).trans (hu1.2.mono (fun b j q => by unfold PScr; omega))), hu1.1, (((Fz.nil (P := PScr)).i1 (by omega) (by unfold PScr; omega)).trans (hu1.2.mono (fun b j q => by unfold PScr; omega))).1⟩
set_option maxRecDepth 100000 in
set_option maxHeartbeats 1000000 in
theorem m_isSurvival {x : Int32} {n : Int} {S : Sys} {w : Wd} (hC : MI w S) (hx : x = zI n) (n1 : -2147483648 ≤ n) (n2 : n < 2147483648) : Ct 1 MX11_isSurvival 8 0 0 [.ref 47, .int x] w (PoM (fIsSurvival S n) w) := by
  refine Ct_of (by decide +kernel) rfl (Nat.le_of_ble_eq_true rfl) rfl ?_
  subst hx
  refine V_aload_n (i := 0) dX11_isSurvival_0 rfl rfl ?_
  refine V_iconst_n (v := 0) dX11_isSurvival_1 (by decide) ?_
  refine V_putI (k := 9) (ty := .int) dX11_isSurvival_2 (Or.inr ⟨rfl, Nat.le_of_ble_eq_true rfl⟩) rfl rfl rfl (Nat.le_of_ble_eq_true rfl) flRX11_66 rfl (by decide +kernel) rfl rfl ?_
  refine V_iload_n (i := 1) dX11_isSurvival_5 rfl rfl ?_
  refine V_i2l dX11_isSurvival_6 ?_
  refine V_topL (y := zL (n)) (zI_zL (by omega) (by omega)) ?_
  refine V_lconst (v := zL 0) dX11_isSurvival_7 (by decide) ?_
  refine V_ldc2 dX11_isSurvival_8 csRX11_209 ?_
  refine V_topL (y := zL 8) (by decide) ?_
  refine V_callSF dX11_isSurvival_11 (c_in (a := (n)) (b := 0) (c := 8) (by omega) (by omega) (by omega) (by omega) (by omega) (by omega)) okX11_in lkRX11_93 rfl rfl (Nat.le_of_ble_eq_true rfl) ⟨Nat.le_of_ble_eq_true rfl, Nat.le_of_ble_eq_true rfl⟩ rfl ?_
  refine V_if_ne_n (tgt := 25) dX11_isSurvival_14 (by decide) (Nat.lt_of_lt_of_le ite_le (by decide)) (fun h14 => ?_) (fun h14 => ?_)
  · have hi14 := ite_t h14
    obtain ⟨n0, rfl⟩ : ∃ m : Nat, n = (m : Int) := ⟨n.toNat, by omega⟩
    have hnn : (n0 : Int) ≤ 8 := by omega
    simp only [← zI_n]
    refine V_aload_n (i := 0) dX11_isSurvival_25 rfl rfl ?_
    refine V_iload_n (i := 1) dX11_isSurvival_26 rfl rfl ?_
    refine V_callVF dX11_isSurvival_27 (m_keeps (hC.1.wr (by decide)) (n := n0) (by omega)) okX11_keeps lkRX11_185 (Or.inr ⟨rfl, Nat.le_of_ble_eq_true rfl⟩) rfl rfl rfl rfl (Nat.le_of_ble_eq_true rfl) ⟨Nat.le_of_ble_eq_true rfl, Nat.le_of_ble_eq_true rfl⟩ rfl ?_
    refine V_iret dX11_isSurvival_30 rfl (nar_bool ite_le) ?_
    have e9 : fIsSurvival S (n0 : Int) = (0, nI (if keeps S.1.2.1 n0 = true then 1 else 0), S) := by simp [fIsSurvival, fCell, fLive, q2, cl_nat, b2, hnn]
    rw [e9]
    exact ⟨⟨_, rfl, fun _ => rfl⟩, hC.scr ((Fz.nil (P := PScr)).i1 (by omega) (by unfold PScr; omega)), pI_at, ((Fz.nil (P := PScr)).i1 (by omega) (by unfold PScr; omega)).1⟩
  · have hi14 := ite_f h14
    
    refine V_aload_n (i := 0) dX11_isSurvival_17 rfl rfl ?_
    refine V_iconst_n (v := 1) dX11_isSurvival_18 (by decide) ?_
    refine V_callVM dX11_isSurvival_19 (m_throwing (w := _) (n := 1)) okX11_throwing lkRX11_75 (Or.inr ⟨rfl, Nat.le_of_ble_eq_true rfl⟩) rfl rfl rfl rfl (Nat.le_of_ble_eq_true rfl) ⟨Nat.le_of_ble_eq_true rfl, Nat.le_of_ble_eq_true rfl⟩ rfl ?_
    intro u1 hu1
    refine V_pop dX11_isSurvival_22 rfl ?_
    refine V_iconst_n (v := 0) dX11_isSurvival_23 (by decide) ?_
    refine V_iret dX11_isSurvival_24 rfl (nar_bool (by decide)) ?_
    have e9 : fIsSurvival S n = (1, 0, S) := by simp [fIsSurvival, fCell, fLive, q2, cl_nat, b2, hi14]
    rw [e9]
    exact ⟨⟨_, rfl, fun q => by simp at q⟩, hC.scr (((Fz.nil (P := PScr)).i1 (by omega) (by unfold PScr; omega)).trans (hu1.2.mono (fun b j q => by unfold PScr; omega))), hu1.1, (((Fz.nil (P := PScr)).i1 (by omega) (by unfold PScr; omega)).trans (hu1.2.mono (fun b j q => by unfold PScr; omega))).1⟩
set_option maxRecDepth 100000 in
set_option maxHeartbeats 1000000 in
theorem m_rejectionReason {S : Sys} {w : Wd} (hC : MI w S) : Ct 1 MX11_rejectionReason 8 0 0 [.ref 47] w (PoM (fRejectionReason S) w) := by
  refine Ct_of (by decide +kernel) rfl (Nat.le_of_ble_eq_true rfl) rfl ?_
  have hrs := hC.2.2.2.2.2.1.2.1.2
  refine V_aload_n (i := 0) dX11_rejectionReason_0 rfl rfl ?_
  refine V_iconst_n (v := 0) dX11_rejectionReason_1 (by decide) ?_
  refine V_putI (k := 9) (ty := .int) dX11_rejectionReason_2 (Or.inr ⟨rfl, Nat.le_of_ble_eq_true rfl⟩) rfl rfl rfl (Nat.le_of_ble_eq_true rfl) flRX11_66 rfl (by decide +kernel) rfl rfl ?_
  refine V_aload_n (i := 0) dX11_rejectionReason_5 rfl rfl ?_
  refine V_getI (k := 12) dX11_rejectionReason_6 (Or.inr ⟨rfl, Nat.le_of_ble_eq_true rfl⟩) rfl rfl rfl (Nat.le_of_ble_eq_true rfl) flRX11_79 ?_
  refine V_top (y := nI S.2.2.2.2.2.2.1) (pI_ne (by omega) hC.2.2.2.2.2.1.2.1.1) ?_
  refine V_if_ne_n (tgt := 20) dX11_rejectionReason_9 (by decide) (by omega) (fun h9 => ?_) (fun h9 => ?_)
  · refine V_aload_n (i := 0) dX11_rejectionReason_20 rfl rfl ?_
    refine V_getI (k := 12) dX11_rejectionReason_21 (Or.inr ⟨rfl, Nat.le_of_ble_eq_true rfl⟩) rfl rfl rfl (Nat.le_of_ble_eq_true rfl) flRX11_79 ?_
    refine V_top (y := nI S.2.2.2.2.2.2.1) (pI_ne (by omega) hC.2.2.2.2.2.1.2.1.1) ?_
    refine V_iret dX11_rejectionReason_24 rfl rfl ?_
    have e9 : fRejectionReason S = (0, nI S.2.2.2.2.2.2.1, S) := by simp [fRejectionReason, fCell, fLive, q2, cl_nat, b2, h9]
    rw [e9]
    exact ⟨⟨_, rfl, fun _ => rfl⟩, hC.scr ((Fz.nil (P := PScr)).i1 (by omega) (by unfold PScr; omega)), pI_at, ((Fz.nil (P := PScr)).i1 (by omega) (by unfold PScr; omega)).1⟩
  · refine V_aload_n (i := 0) dX11_rejectionReason_12 rfl rfl ?_
    refine V_iconst_n (v := 1) dX11_rejectionReason_13 (by decide) ?_
    refine V_callVM dX11_rejectionReason_14 (m_throwing (w := _) (n := 1)) okX11_throwing lkRX11_75 (Or.inr ⟨rfl, Nat.le_of_ble_eq_true rfl⟩) rfl rfl rfl rfl (Nat.le_of_ble_eq_true rfl) ⟨Nat.le_of_ble_eq_true rfl, Nat.le_of_ble_eq_true rfl⟩ rfl ?_
    intro u1 hu1
    refine V_goto (tgt := 24) dX11_rejectionReason_17 (by decide) ?_
    refine V_iret dX11_rejectionReason_24 rfl rfl ?_
    have e9 : fRejectionReason S = (1, 0, S) := by simp [fRejectionReason, fCell, fLive, q2, cl_nat, b2, h9]
    rw [e9]
    exact ⟨⟨_, rfl, fun q => by simp at q⟩, hC.scr (((Fz.nil (P := PScr)).i1 (by omega) (by unfold PScr; omega)).trans (hu1.2.mono (fun b j q => by unfold PScr; omega))), hu1.1, (((Fz.nil (P := PScr)).i1 (by omega) (by unfold PScr; omega)).trans (hu1.2.mono (fun b j q => by unfold PScr; omega))).1⟩
set_option maxRecDepth 100000 in
set_option maxHeartbeats 1000000 in
theorem m_rejectionDetail {S : Sys} {w : Wd} (hC : MI w S) : Ct 1 MX11_rejectionDetail 8 0 0 [.ref 47] w (PoM (fRejectionDetail S) w) := by
  refine Ct_of (by decide +kernel) rfl (Nat.le_of_ble_eq_true rfl) rfl ?_
  have hrs := hC.2.2.2.2.2.1.2.1.2
  refine V_aload_n (i := 0) dX11_rejectionDetail_0 rfl rfl ?_
  refine V_iconst_n (v := 0) dX11_rejectionDetail_1 (by decide) ?_
  refine V_putI (k := 9) (ty := .int) dX11_rejectionDetail_2 (Or.inr ⟨rfl, Nat.le_of_ble_eq_true rfl⟩) rfl rfl rfl (Nat.le_of_ble_eq_true rfl) flRX11_66 rfl (by decide +kernel) rfl rfl ?_
  refine V_aload_n (i := 0) dX11_rejectionDetail_5 rfl rfl ?_
  refine V_getI (k := 12) dX11_rejectionDetail_6 (Or.inr ⟨rfl, Nat.le_of_ble_eq_true rfl⟩) rfl rfl rfl (Nat.le_of_ble_eq_true rfl) flRX11_79 ?_
  refine V_top (y := nI S.2.2.2.2.2.2.1) (pI_ne (by omega) hC.2.2.2.2.2.1.2.1.1) ?_
  refine V_if_ne_n (tgt := 20) dX11_rejectionDetail_9 (by decide) (by omega) (fun h9 => ?_) (fun h9 => ?_)
  · refine V_aload_n (i := 0) dX11_rejectionDetail_20 rfl rfl ?_
    refine V_getI (k := 13) dX11_rejectionDetail_21 (Or.inr ⟨rfl, Nat.le_of_ble_eq_true rfl⟩) rfl rfl rfl (Nat.le_of_ble_eq_true rfl) flRX11_82 ?_
    refine V_top (y := S.2.2.2.2.2.2.2.1) (pI_ne (by omega) hC.2.2.2.2.2.1.2.2.1) ?_
    refine V_iret dX11_rejectionDetail_24 rfl rfl ?_
    have e9 : fRejectionDetail S = (0, S.2.2.2.2.2.2.2.1, S) := by simp [fRejectionDetail, fCell, fLive, q2, cl_nat, b2, h9]
    rw [e9]
    exact ⟨⟨_, rfl, fun _ => rfl⟩, hC.scr ((Fz.nil (P := PScr)).i1 (by omega) (by unfold PScr; omega)), pI_at, ((Fz.nil (P := PScr)).i1 (by omega) (by unfold PScr; omega)).1⟩
  · refine V_aload_n (i := 0) dX11_rejectionDetail_12 rfl rfl ?_
    refine V_iconst_n (v := 1) dX11_rejectionDetail_13 (by decide) ?_
    refine V_callVM dX11_rejectionDetail_14 (m_throwing (w := _) (n := 1)) okX11_throwing lkRX11_75 (Or.inr ⟨rfl, Nat.le_of_ble_eq_true rfl⟩) rfl rfl rfl rfl (Nat.le_of_ble_eq_true rfl) ⟨Nat.le_of_ble_eq_true rfl, Nat.le_of_ble_eq_true rfl⟩ rfl ?_
    intro u1 hu1
    refine V_goto (tgt := 24) dX11_rejectionDetail_17 (by decide) ?_
    refine V_iret dX11_rejectionDetail_24 rfl rfl ?_
    have e9 : fRejectionDetail S = (1, 0, S) := by simp [fRejectionDetail, fCell, fLive, q2, cl_nat, b2, h9]
    rw [e9]
    exact ⟨⟨_, rfl, fun q => by simp at q⟩, hC.scr (((Fz.nil (P := PScr)).i1 (by omega) (by unfold PScr; omega)).trans (hu1.2.mono (fun b j q => by unfold PScr; omega))), hu1.1, (((Fz.nil (P := PScr)).i1 (by omega) (by unfold PScr; omega)).trans (hu1.2.mono (fun b j q => by unfold PScr; omega))).1⟩
set_option maxRecDepth 100000 in
set_option maxHeartbeats 1000000 in
theorem m_causeReason {S : Sys} {w : Wd} (hC : MI w S) : Ct 1 MX11_causeReason 8 0 0 [.ref 47] w (PoM (fCauseReason S) w) := by
  refine Ct_of (by decide +kernel) rfl (Nat.le_of_ble_eq_true rfl) rfl ?_
  have hrs := hC.2.2.2.2.2.1.2.1.2
  have hcs := hC.2.2.2.2.2.1.2.2.2.1.2
  have hiff := hC.2.2.2.2.2.1.2.2.2.2
  refine V_aload_n (i := 0) dX11_causeReason_0 rfl rfl ?_
  refine V_iconst_n (v := 0) dX11_causeReason_1 (by decide) ?_
  refine V_putI (k := 9) (ty := .int) dX11_causeReason_2 (Or.inr ⟨rfl, Nat.le_of_ble_eq_true rfl⟩) rfl rfl rfl (Nat.le_of_ble_eq_true rfl) flRX11_66 rfl (by decide +kernel) rfl rfl ?_
  refine V_aload_n (i := 0) dX11_causeReason_5 rfl rfl ?_
  refine V_getI (k := 14) dX11_causeReason_6 (Or.inr ⟨rfl, Nat.le_of_ble_eq_true rfl⟩) rfl rfl rfl (Nat.le_of_ble_eq_true rfl) flRX11_85 ?_
  refine V_top (y := nI S.2.2.2.2.2.2.2.2) (pI_ne (by omega) hC.2.2.2.2.2.1.2.2.2.1.1) ?_
  refine V_if_ne_n (tgt := 20) dX11_causeReason_9 (by decide) (by omega) (fun h9 => ?_) (fun h9 => ?_)
  · have hz : S.2.2.2.2.2.2.1 = 6 := by omega
    refine V_aload_n (i := 0) dX11_causeReason_20 rfl rfl ?_
    refine V_getI (k := 14) dX11_causeReason_21 (Or.inr ⟨rfl, Nat.le_of_ble_eq_true rfl⟩) rfl rfl rfl (Nat.le_of_ble_eq_true rfl) flRX11_85 ?_
    refine V_top (y := nI S.2.2.2.2.2.2.2.2) (pI_ne (by omega) hC.2.2.2.2.2.1.2.2.2.1.1) ?_
    refine V_iret dX11_causeReason_24 rfl rfl ?_
    have e9 : fCauseReason S = (0, nI S.2.2.2.2.2.2.2.2, S) := by simp [fCauseReason, fCell, fLive, q2, cl_nat, b2, hz]
    rw [e9]
    exact ⟨⟨_, rfl, fun _ => rfl⟩, hC.scr ((Fz.nil (P := PScr)).i1 (by omega) (by unfold PScr; omega)), pI_at, ((Fz.nil (P := PScr)).i1 (by omega) (by unfold PScr; omega)).1⟩
  · have hz : ¬ S.2.2.2.2.2.2.1 = 6 := by omega
    refine V_aload_n (i := 0) dX11_causeReason_12 rfl rfl ?_
    refine V_iconst_n (v := 1) dX11_causeReason_13 (by decide) ?_
    refine V_callVM dX11_causeReason_14 (m_throwing (w := _) (n := 1)) okX11_throwing lkRX11_75 (Or.inr ⟨rfl, Nat.le_of_ble_eq_true rfl⟩) rfl rfl rfl rfl (Nat.le_of_ble_eq_true rfl) ⟨Nat.le_of_ble_eq_true rfl, Nat.le_of_ble_eq_true rfl⟩ rfl ?_
    intro u1 hu1
    refine V_goto (tgt := 24) dX11_causeReason_17 (by decide) ?_
    refine V_iret dX11_causeReason_24 rfl rfl ?_
    have e9 : fCauseReason S = (1, 0, S) := by simp [fCauseReason, fCell, fLive, q2, cl_nat, b2, hz]
    rw [e9]
    exact ⟨⟨_, rfl, fun q => by simp at q⟩, hC.scr (((Fz.nil (P := PScr)).i1 (by omega) (by unfold PScr; omega)).trans (hu1.2.mono (fun b j q => by unfold PScr; omega))), hu1.1, (((Fz.nil (P := PScr)).i1 (by omega) (by unfold PScr; omega)).trans (hu1.2.mono (fun b j q => by unfold PScr; omega))).1⟩
set_option maxRecDepth 100000 in
set_option maxHeartbeats 1000000 in
theorem m_syntaxErrorOffset {S : Sys} {w : Wd} (hC : MI w S) : Ct 1 MX11_syntaxErrorOffset 8 0 0 [.ref 47] w (PoM (fSyntaxErrorOffset S) w) := by
  refine Ct_of (by decide +kernel) rfl (Nat.le_of_ble_eq_true rfl) rfl ?_
  have hsy := hC.2.2.2.2.2.1.1.2
  refine V_aload_n (i := 0) dX11_syntaxErrorOffset_0 rfl rfl ?_
  refine V_iconst_n (v := 0) dX11_syntaxErrorOffset_1 (by decide) ?_
  refine V_putI (k := 9) (ty := .int) dX11_syntaxErrorOffset_2 (Or.inr ⟨rfl, Nat.le_of_ble_eq_true rfl⟩) rfl rfl rfl (Nat.le_of_ble_eq_true rfl) flRX11_66 rfl (by decide +kernel) rfl rfl ?_
  refine V_aload_n (i := 0) dX11_syntaxErrorOffset_5 rfl rfl ?_
  refine V_getI (k := 8) dX11_syntaxErrorOffset_6 (Or.inr ⟨rfl, Nat.le_of_ble_eq_true rfl⟩) rfl rfl rfl (Nat.le_of_ble_eq_true rfl) flRX11_28 ?_
  refine V_top (y := zI S.2.2.2.2.2.1) (pI_ne (by omega) hC.2.2.2.2.2.1.1.1) ?_
  refine V_iconst_z (v := -1) dX11_syntaxErrorOffset_9 (by decide) ?_
  refine V_icmp_ne_z (tgt := 21) dX11_syntaxErrorOffset_10 (by decide) rfl rfl (by omega) (by omega) (by omega) (by omega) (fun h10 => ?_) (fun h10 => ?_)
  · have hz : ¬ S.2.2.2.2.2.1 < 0 := by omega
    refine V_aload_n (i := 0) dX11_syntaxErrorOffset_21 rfl rfl ?_
    refine V_getI (k := 8) dX11_syntaxErrorOffset_22 (Or.inr ⟨rfl, Nat.le_of_ble_eq_true rfl⟩) rfl rfl rfl (Nat.le_of_ble_eq_true rfl) flRX11_28 ?_
    refine V_top (y := zI S.2.2.2.2.2.1) (pI_ne (by omega) hC.2.2.2.2.2.1.1.1) ?_
    refine V_iret dX11_syntaxErrorOffset_25 rfl rfl ?_
    have e9 : fSyntaxErrorOffset S = (0, zI S.2.2.2.2.2.1, S) := by simp [fSyntaxErrorOffset, fCell, fLive, q2, cl_nat, b2, hz]
    rw [e9]
    exact ⟨⟨_, rfl, fun _ => rfl⟩, hC.scr ((Fz.nil (P := PScr)).i1 (by omega) (by unfold PScr; omega)), pI_at, ((Fz.nil (P := PScr)).i1 (by omega) (by unfold PScr; omega)).1⟩
  · have hz : S.2.2.2.2.2.1 < 0 := by omega
    refine V_aload_n (i := 0) dX11_syntaxErrorOffset_13 rfl rfl ?_
    refine V_iconst_n (v := 1) dX11_syntaxErrorOffset_14 (by decide) ?_
    refine V_callVM dX11_syntaxErrorOffset_15 (m_throwing (w := _) (n := 1)) okX11_throwing lkRX11_75 (Or.inr ⟨rfl, Nat.le_of_ble_eq_true rfl⟩) rfl rfl rfl rfl (Nat.le_of_ble_eq_true rfl) ⟨Nat.le_of_ble_eq_true rfl, Nat.le_of_ble_eq_true rfl⟩ rfl ?_
    intro u1 hu1
    refine V_goto (tgt := 25) dX11_syntaxErrorOffset_18 (by decide) ?_
    refine V_iret dX11_syntaxErrorOffset_25 rfl rfl ?_
    have e9 : fSyntaxErrorOffset S = (1, 0, S) := by simp [fSyntaxErrorOffset, fCell, fLive, q2, cl_nat, b2, hz]
    rw [e9]
    exact ⟨⟨_, rfl, fun q => by simp at q⟩, hC.scr (((Fz.nil (P := PScr)).i1 (by omega) (by unfold PScr; omega)).trans (hu1.2.mono (fun b j q => by unfold PScr; omega))), hu1.1, (((Fz.nil (P := PScr)).i1 (by omega) (by unfold PScr; omega)).trans (hu1.2.mono (fun b j q => by unfold PScr; omega))).1⟩
set_option maxRecDepth 100000 in
set_option maxHeartbeats 1000000 in
theorem m_isConsistent {S : Sys} {w : Wd} (hC : MI w S) : Ct 1 MX11_isConsistent 2 0 0 [.ref 47] w (PoM (fIsConsistent S) w) := by
  refine Ct_of (by decide +kernel) rfl (Nat.le_of_ble_eq_true rfl) rfl ?_
  refine V_aload_n (i := 0) dX11_isConsistent_0 rfl rfl ?_
  refine V_iconst_n (v := 0) dX11_isConsistent_1 (by decide) ?_
  refine V_putI (k := 9) (ty := .int) dX11_isConsistent_2 (Or.inr ⟨rfl, Nat.le_of_ble_eq_true rfl⟩) rfl rfl rfl (Nat.le_of_ble_eq_true rfl) flRX11_66 rfl (by decide +kernel) rfl rfl ?_
  refine V_iconst_n (v := 1) dX11_isConsistent_5 (by decide) ?_
  refine V_iret dX11_isConsistent_6 rfl (nar_bool (by decide)) ?_
  have e9 : fIsConsistent S = (0, nI 1, S) := by simp [fIsConsistent, fCell, fLive, q2, cl_nat, b2]
  rw [e9]
  exact ⟨⟨_, rfl, fun _ => rfl⟩, hC.scr ((Fz.nil (P := PScr)).i1 (by omega) (by unfold PScr; omega)), pI_at, ((Fz.nil (P := PScr)).i1 (by omega) (by unfold PScr; omega)).1⟩
end MMFACE
