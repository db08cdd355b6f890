/-! THE PLAIN FORM: the rule written, input, orders, floats. Printed by wip/whole/gen/mk36.py. -/
section MMF3
theorem wd_tx {r : Nat} (hr : r < 3) : ∀ k, k < 4 → wdT.getD (4 * r + k) 0 = (tx (1100 + r)).getD k 0 ∧ wdT.getD (4 * r + k) 0 < 128 := rl_cases (P := fun r => ∀ k, k < 4 → wdT.getD (4 * r + k) 0 = (tx (1100 + r)).getD k 0 ∧ wdT.getD (4 * r + k) 0 < 128) (by decide +kernel) (by decide +kernel) (by decide +kernel) hr
theorem nums_s {f : Nat → Bool} {n : Nat} : nums f (n + 1) = if f n = true then nums f n ++ [48 + n] else nums f n := rfl
def ruA (r : Nat) : List Nat := tx (1100 + r) ++ tx 1130
def ruB (r : Nat) : List Nat := ruA r ++ nums (bears r) 9 ++ tx 1131
theorem ruA_len {r : Nat} (hr : r < 3) : (ruA r).length = 6 := by unfold ruA; rw [List.length_append, rlT_len hr]; rfl
theorem ruB_len {r : Nat} (hr : r < 3) : (ruB r).length ≤ 17 := by
  have h4 := nums_le (f := bears r) 9
  unfold ruB
  rw [List.length_append, List.length_append, ruA_len hr]
  have : (tx 1131).length = 2 := by decide
  omega
theorem ru_end {r : Nat} : ruB r ++ nums (keeps r) 9 = ruleL r := rfl
set_option maxRecDepth 100000 in
set_option maxHeartbeats 1000000 in
theorem m_writeRule {S : Sys} {w : Wd} (hC : MI w S) : Ct 1 MX11_writeRule 4 0 0 [.ref 47] w (PoM (fWriteRule S) w) := by
  refine Ct_of (by decide +kernel) rfl (Nat.le_of_ble_eq_true rfl) rfl ?_
  have hrl := hC.1.1.2
  have lp3 : ∀ (fu i : Nat) (w1 : Wd), i ≤ 9 → 9 - i < fu → OutI w1 47 23 60 (ruB S.1.2.1 ++ nums (keeps S.1.2.1) i) → gI w1 47 9 = nI 0 → Fz PWr w w1 → V 1 MX11_writeRule 4 0 0 (PoM (fWriteRule S) w) (fun _ _ => True) 0 0 98 [some (.ref 47), some (.int (nI i))] [] w1 := by
    intro fu
    induction fu with
    | zero => intro i w1 h1 h2; omega
    | succ fu ih3 =>
      intro i w1 hib hfu hO h9 hf
      refine V_iload_n (i := 1) dX11_writeRule_98 rfl rfl ?_
      refine V_bipush_n (v := 8) dX11_writeRule_99 (by decide) ?_
      refine V_icmp_gt_n (tgt := 126) dX11_writeRule_101 (by decide) (by omega) (by omega) (fun h101 => ?_) (fun h101 => ?_)
      · obtain rfl : i = 9 := by omega
        refine V_aload_n (i := 0) dX11_writeRule_126 rfl rfl ?_
        refine V_getI (k := 23) dX11_writeRule_127 (Or.inr ⟨rfl, Nat.le_of_ble_eq_true rfl⟩) rfl rfl rfl (Nat.le_of_ble_eq_true rfl) flRX11_246 ?_
        refine V_top (y := nI (ruB S.1.2.1 ++ nums (keeps S.1.2.1) 9).length) hO.1 ?_
        refine V_iret dX11_writeRule_130 rfl rfl ?_
        rw [ru_end] at hO ⊢
        exact ⟨⟨_, rfl, fun _ => rfl⟩, hC.line hf hO (ruleL_len hrl) (ruleL_asc hrl), h9, hf.1⟩
      · refine V_aload_n (i := 0) dX11_writeRule_104 rfl rfl ?_
        refine V_iload_n (i := 1) dX11_writeRule_105 rfl rfl ?_
        refine V_callVF dX11_writeRule_106 (m_keeps (hC.1.keep hf (fun k _ => by omega)) (n := i) (by omega)) okX11_keeps lkRX11_185 (Or.inr ⟨rfl, Nat.le_of_ble_eq_true rfl⟩) rfl rfl rfl rfl (Nat.le_of_ble_eq_true rfl) ⟨Nat.le_of_ble_eq_true rfl, Nat.le_of_ble_eq_true rfl⟩ rfl ?_
        refine V_if_eq_n (tgt := 120) dX11_writeRule_109 (by decide) (Nat.lt_of_lt_of_le ite_le (by decide)) (fun h109 => ?_) (fun h109 => ?_)
        · have hi109 := ite_f h109
          have en : nums (keeps S.1.2.1) (i + 1) = nums (keeps S.1.2.1) i := by rw [nums_s, if_neg hi109]
          refine V_iinc_n (b := (i + 1)) dX11_writeRule_120 rfl (nI_add _ _) rfl rfl ?_
          refine V_goto (tgt := 98) dX11_writeRule_123 (by decide) ?_
          have hO9 := hO
          rw [← en] at hO9
          exact ih3 (i + 1) _ (by omega) (by omega) hO9 h9 hf
        · have hi109 := ite_t h109
          have en : nums (keeps S.1.2.1) (i + 1) = nums (keeps S.1.2.1) i ++ [48 + i] := by rw [nums_s, if_pos hi109]
          refine V_aload_n (i := 0) dX11_writeRule_112 rfl rfl ?_
          refine V_bipush_n (v := 48) dX11_writeRule_113 (by decide) ?_
          refine V_iload_n (i := 1) dX11_writeRule_115 rfl rfl ?_
          refine V_iadd_n dX11_writeRule_116 ?_
          refine V_callVM dX11_writeRule_117 (m_sign (q := (48 + i)) hO (by rw [List.length_append]; have := nums_le (f := keeps S.1.2.1) i; have := ruB_len hrl; omega) (rfl)) okX11_sign lkRX11_249 (Or.inr ⟨rfl, Nat.le_of_ble_eq_true rfl⟩) rfl rfl rfl rfl (Nat.le_of_ble_eq_true rfl) ⟨Nat.le_of_ble_eq_true rfl, Nat.le_of_ble_eq_true rfl⟩ rfl ?_
          intro u1 hu1
          refine V_iinc_n (b := (i + 1)) dX11_writeRule_120 rfl (nI_add _ _) rfl rfl ?_
          refine V_goto (tgt := 98) dX11_writeRule_123 (by decide) ?_
          have hO9 := hu1.1
          rw [List.append_assoc, ← en] at hO9
          exact ih3 (i + 1) _ (by omega) (by omega) hO9 ((hu1.2.gi (by omega)).trans h9) (hf.trans (hu1.2.mono (fun b j q => by unfold PWr; omega)))
  have lp2 : ∀ (fu i : Nat) (w1 : Wd), i ≤ 9 → 9 - i < fu → OutI w1 47 23 60 (ruA S.1.2.1 ++ nums (bears S.1.2.1) i) → gI w1 47 9 = nI 0 → Fz PWr w w1 → V 1 MX11_writeRule 4 0 0 (PoM (fWriteRule S) w) (fun _ _ => True) 0 0 56 [some (.ref 47), some (.int (nI i))] [] w1 := by
    intro fu
    induction fu with
    | zero => intro i w1 h1 h2; omega
    | succ fu ih2 =>
      intro i w1 hib hfu hO h9 hf
      refine V_iload_n (i := 1) dX11_writeRule_56 rfl rfl ?_
      refine V_bipush_n (v := 8) dX11_writeRule_57 (by decide) ?_
      refine V_icmp_gt_n (tgt := 84) dX11_writeRule_59 (by decide) (by omega) (by omega) (fun h59 => ?_) (fun h59 => ?_)
      · obtain rfl : i = 9 := by omega
        refine V_aload_n (i := 0) dX11_writeRule_84 rfl rfl ?_
        refine V_bipush_n (v := 47) dX11_writeRule_85 (by decide) ?_
        refine V_callVM dX11_writeRule_87 (m_sign (q := 47) hO (by simp only [List.length_append, List.length_singleton]; have := nums_le (f := bears S.1.2.1) 9; have := ruA_len hrl; omega) (rfl)) okX11_sign lkRX11_249 (Or.inr ⟨rfl, Nat.le_of_ble_eq_true rfl⟩) rfl rfl rfl rfl (Nat.le_of_ble_eq_true rfl) ⟨Nat.le_of_ble_eq_true rfl, Nat.le_of_ble_eq_true rfl⟩ rfl ?_
        intro u1 hu1
        refine V_aload_n (i := 0) dX11_writeRule_90 rfl rfl ?_
        refine V_bipush_n (v := 115) dX11_writeRule_91 (by decide) ?_
        refine V_callVM dX11_writeRule_93 (m_sign (q := 115) hu1.1 (by simp only [List.length_append, List.length_singleton]; have := nums_le (f := bears S.1.2.1) 9; have := ruA_len hrl; omega) (rfl)) okX11_sign lkRX11_249 (Or.inr ⟨rfl, Nat.le_of_ble_eq_true rfl⟩) rfl rfl rfl rfl (Nat.le_of_ble_eq_true rfl) ⟨Nat.le_of_ble_eq_true rfl, Nat.le_of_ble_eq_true rfl⟩ rfl ?_
        intro u2 hu2
        refine V_iconst_n (v := 0) dX11_writeRule_96 (by decide) ?_
        refine V_istore_n (i := 1) dX11_writeRule_97 rfl (Nat.le_of_ble_eq_true rfl) rfl rfl ?_
        have hO9 := hu2.1
        rw [List.append_assoc, show ([47] ++ [115] : List Nat) = tx 1131 by decide, show ruA S.1.2.1 ++ nums (bears S.1.2.1) 9 ++ tx 1131 = ruB S.1.2.1 ++ nums (keeps S.1.2.1) 0 by unfold ruB nums; rw [List.append_nil]] at hO9
        exact lp3 10 0 _ (by omega) (by omega) hO9 ((hu2.2.gi (by omega)).trans ((hu1.2.gi (by omega)).trans h9)) ((hf.trans (hu1.2.mono (fun b j q => by unfold PWr; omega))).trans (hu2.2.mono (fun b j q => by unfold PWr; omega)))
      · refine V_aload_n (i := 0) dX11_writeRule_62 rfl rfl ?_
        refine V_iload_n (i := 1) dX11_writeRule_63 rfl rfl ?_
        refine V_callVF dX11_writeRule_64 (m_bears (hC.1.keep hf (fun k _ => by omega)) (n := i) (by omega)) okX11_bears lkRX11_179 (Or.inr ⟨rfl, Nat.le_of_ble_eq_true rfl⟩) rfl rfl rfl rfl (Nat.le_of_ble_eq_true rfl) ⟨Nat.le_of_ble_eq_true rfl, Nat.le_of_ble_eq_true rfl⟩ rfl ?_
        refine V_if_eq_n (tgt := 78) dX11_writeRule_67 (by decide) (Nat.lt_of_lt_of_le ite_le (by decide)) (fun h67 => ?_) (fun h67 => ?_)
        · have hi67 := ite_f h67
          have en : nums (bears S.1.2.1) (i + 1) = nums (bears S.1.2.1) i := by rw [nums_s, if_neg hi67]
          refine V_iinc_n (b := (i + 1)) dX11_writeRule_78 rfl (nI_add _ _) rfl rfl ?_
          refine V_goto (tgt := 56) dX11_writeRule_81 (by decide) ?_
          have hO9 := hO
          rw [← en] at hO9
          exact ih2 (i + 1) _ (by omega) (by omega) hO9 h9 hf
        · have hi67 := ite_t h67
          have en : nums (bears S.1.2.1) (i + 1) = nums (bears S.1.2.1) i ++ [48 + i] := by rw [nums_s, if_pos hi67]
          refine V_aload_n (i := 0) dX11_writeRule_70 rfl rfl ?_
          refine V_bipush_n (v := 48) dX11_writeRule_71 (by decide) ?_
          refine V_iload_n (i := 1) dX11_writeRule_73 rfl rfl ?_
          refine V_iadd_n dX11_writeRule_74 ?_
          refine V_callVM dX11_writeRule_75 (m_sign (q := (48 + i)) hO (by simp only [List.length_append, List.length_singleton]; have := nums_le (f := bears S.1.2.1) i; have := ruA_len hrl; omega) (rfl)) okX11_sign lkRX11_249 (Or.inr ⟨rfl, Nat.le_of_ble_eq_true rfl⟩) rfl rfl rfl rfl (Nat.le_of_ble_eq_true rfl) ⟨Nat.le_of_ble_eq_true rfl, Nat.le_of_ble_eq_true rfl⟩ rfl ?_
          intro u1 hu1
          refine V_iinc_n (b := (i + 1)) dX11_writeRule_78 rfl (nI_add _ _) rfl rfl ?_
          refine V_goto (tgt := 56) dX11_writeRule_81 (by decide) ?_
          have hO9 := hu1.1
          rw [List.append_assoc, ← en] at hO9
          exact ih2 (i + 1) _ (by omega) (by omega) hO9 ((hu1.2.gi (by omega)).trans h9) (hf.trans (hu1.2.mono (fun b j q => by unfold PWr; omega)))
  have lp1 : ∀ (fu i : Nat) (w1 : Wd), i ≤ 4 → 4 - i < fu → OutI w1 47 23 60 ((tx (1100 + S.1.2.1)).take i) → gI w1 47 9 = nI 0 → Fz PWr w w1 → V 1 MX11_writeRule 4 0 0 (PoM (fWriteRule S) w) (fun _ _ => True) 0 0 12 [some (.ref 47), some (.int (nI i))] [] w1 := by
    intro fu
    induction fu with
    | zero => intro i w1 h1 h2; omega
    | succ fu ih1 =>
      intro i w1 hib hfu hO h9 hf
      refine V_iload_n (i := 1) dX11_writeRule_12 rfl rfl ?_
      refine V_iconst_n (v := 4) dX11_writeRule_13 (by decide) ?_
      refine V_icmp_ge_n (tgt := 42) dX11_writeRule_14 (by decide) (by omega) (by omega) (fun h14 => ?_) (fun h14 => ?_)
      · obtain rfl : i = 4 := by omega
        refine V_aload_n (i := 0) dX11_writeRule_42 rfl rfl ?_
        refine V_bipush_n (v := 32) dX11_writeRule_43 (by decide) ?_
        refine V_callVM dX11_writeRule_45 (m_sign (q := 32) hO (by simp only [List.length_append, List.length_take, List.length_singleton]; omega) (rfl)) okX11_sign lkRX11_249 (Or.inr ⟨rfl, Nat.le_of_ble_eq_true rfl⟩) rfl rfl rfl rfl (Nat.le_of_ble_eq_true rfl) ⟨Nat.le_of_ble_eq_true rfl, Nat.le_of_ble_eq_true rfl⟩ rfl ?_
        intro u1 hu1
        refine V_aload_n (i := 0) dX11_writeRule_48 rfl rfl ?_
        refine V_bipush_n (v := 98) dX11_writeRule_49 (by decide) ?_
        refine V_callVM dX11_writeRule_51 (m_sign (q := 98) hu1.1 (by simp only [List.length_append, List.length_take, List.length_singleton]; omega) (rfl)) okX11_sign lkRX11_249 (Or.inr ⟨rfl, Nat.le_of_ble_eq_true rfl⟩) rfl rfl rfl rfl (Nat.le_of_ble_eq_true rfl) ⟨Nat.le_of_ble_eq_true rfl, Nat.le_of_ble_eq_true rfl⟩ rfl ?_
        intro u2 hu2
        refine V_iconst_n (v := 0) dX11_writeRule_54 (by decide) ?_
        refine V_istore_n (i := 1) dX11_writeRule_55 rfl (Nat.le_of_ble_eq_true rfl) rfl rfl ?_
        have hO9 := hu2.1
        rw [List.append_assoc, show ([32] ++ [98] : List Nat) = tx 1130 by decide, List.take_of_length_le (by rw [rlT_len hrl]; omega), show tx (1100 + S.1.2.1) ++ tx 1130 = ruA S.1.2.1 ++ nums (bears S.1.2.1) 0 by unfold ruA nums; rw [List.append_nil]] at hO9
        exact lp2 10 0 _ (by omega) (by omega) hO9 ((hu2.2.gi (by omega)).trans ((hu1.2.gi (by omega)).trans h9)) ((hf.trans (hu1.2.mono (fun b j q => by unfold PWr; omega))).trans (hu2.2.mono (fun b j q => by unfold PWr; omega)))
      · have hwd := wd_tx hrl i (by omega)
        refine V_aload_n (i := 0) dX11_writeRule_17 rfl rfl ?_
        refine V_aload_n (i := 0) dX11_writeRule_18 rfl rfl ?_
        refine V_getC (k := 24) (q := 61) dX11_writeRule_19 (Or.inr ⟨rfl, Nat.le_of_ble_eq_true rfl⟩) rfl rfl rfl (Nat.le_of_ble_eq_true rfl) flRX11_53 ?_
        refine V_iconst_n (v := 4) dX11_writeRule_22 (by decide) ?_
        refine V_aload_n (i := 0) dX11_writeRule_23 rfl rfl ?_
        refine V_getC (k := 0) (q := 48) dX11_writeRule_24 (Or.inr ⟨rfl, Nat.le_of_ble_eq_true rfl⟩) rfl rfl rfl (Nat.le_of_ble_eq_true rfl) flRX11_9 ?_
        refine V_iconst_n (v := 0) dX11_writeRule_27 (by decide) ?_
        refine V_iald_n (i := 0) dX11_writeRule_28 (Or.inr ⟨rfl, Nat.le_of_ble_eq_true rfl⟩) rfl (by omega) (by decide) ?_
        refine V_top (y := nI (S.1.2.1)) (hC.1.keep hf (fun k _ => by omega)).rule0 ?_
        refine V_imul_n dX11_writeRule_29 ?_
        refine V_iload_n (i := 1) dX11_writeRule_30 rfl rfl ?_
        refine V_iadd_n dX11_writeRule_31 ?_
        refine V_cald_n (i := ((4 * S.1.2.1) + i)) dX11_writeRule_32 (Or.inr ⟨rfl, Nat.le_of_ble_eq_true rfl⟩) rfl (by omega) (by decide) ?_
        refine V_top (y := nI (wdT.getD ((4 * S.1.2.1) + i) 0)) ((hC.2.2.2.2.2.2.keep hf (fun b j q => by omega)).2.2.1 _ (by omega)) ?_
        refine V_callVM dX11_writeRule_33 (m_sign (q := (wdT.getD ((4 * S.1.2.1) + i) 0)) hO (by simp only [List.length_append, List.length_take, List.length_singleton]; omega) (rfl)) okX11_sign lkRX11_249 (Or.inr ⟨rfl, Nat.le_of_ble_eq_true rfl⟩) rfl rfl rfl rfl (Nat.le_of_ble_eq_true rfl) ⟨Nat.le_of_ble_eq_true rfl, Nat.le_of_ble_eq_true rfl⟩ rfl ?_
        intro u1 hu1
        refine V_iinc_n (b := (i + 1)) dX11_writeRule_36 rfl (nI_add _ _) rfl rfl ?_
        refine V_goto (tgt := 12) dX11_writeRule_39 (by decide) ?_
        have hO9 := hu1.1
        rw [hwd.1, ← take_snoc (by rw [rlT_len hrl]; omega)] at hO9
        exact ih1 (i + 1) _ (by omega) (by omega) hO9 ((hu1.2.gi (by omega)).trans h9) (hf.trans (hu1.2.mono (fun b j q => by unfold PWr; omega)))
  refine V_aload_n (i := 0) dX11_writeRule_0 rfl rfl ?_
  refine V_iconst_n (v := 0) dX11_writeRule_1 (by decide) ?_
  refine V_putI (k := 9) (ty := .int) dX11_writeRule_2 (Or.inr ⟨rfl, Nat.le_of_ble_eq_true rfl⟩) rfl rfl rfl (Nat.le_of_ble_eq_true rfl) flRX11_66 rfl (by decide +kernel) rfl rfl ?_
  refine V_aload_n (i := 0) dX11_writeRule_5 rfl rfl ?_
  refine V_iconst_n (v := 0) dX11_writeRule_6 (by decide) ?_
  refine V_putI (k := 23) (ty := .int) dX11_writeRule_7 (Or.inr ⟨rfl, Nat.le_of_ble_eq_true rfl⟩) rfl rfl rfl (Nat.le_of_ble_eq_true rfl) flRX11_246 rfl (by decide +kernel) rfl rfl ?_
  refine V_iconst_n (v := 0) dX11_writeRule_10 (by decide) ?_
  refine V_istore_n (i := 1) dX11_writeRule_11 rfl (Nat.le_of_ble_eq_true rfl) rfl rfl ?_
  exact lp1 5 0 _ (by omega) (by omega) (OutI.clear rfl) (pI_ne (by omega) pI_at) ((Fz.nil.i1 (by omega) (by omega)).i1 (by omega) (by omega))
set_option maxRecDepth 100000 in
set_option maxHeartbeats 1000000 in
theorem m_outputAt {x : Int32} {i : Int} {S : Sys} {w : Wd} (hC : MI w S) (hx : x = zI i) (i1 : -2147483648 ≤ i) (i2 : i < 2147483648) : Ct 1 MX11_outputAt 8 0 0 [.ref 47, .int x] w (PoM (fOutputAt S i) w) := by
  refine Ct_of (by decide +kernel) rfl (Nat.le_of_ble_eq_true rfl) rfl ?_
  subst hx
  have hlo := hC.2.2.2.1.2.1
  refine V_aload_n (i := 0) dX11_outputAt_0 rfl rfl ?_
  refine V_iconst_n (v := 0) dX11_outputAt_1 (by decide) ?_
  refine V_putI (k := 9) (ty := .int) dX11_outputAt_2 (Or.inr ⟨rfl, Nat.le_of_ble_eq_true rfl⟩) rfl rfl rfl (Nat.le_of_ble_eq_true rfl) flRX11_66 rfl (by decide +kernel) rfl rfl ?_
  refine V_iload_n (i := 1) dX11_outputAt_5 rfl rfl ?_
  refine V_i2l dX11_outputAt_6 ?_
  refine V_topL (y := zL (i)) (zI_zL (by omega) (by omega)) ?_
  refine V_lconst (v := zL 0) dX11_outputAt_7 (by decide) ?_
  refine V_aload_n (i := 0) dX11_outputAt_8 rfl rfl ?_
  refine V_getI (k := 23) dX11_outputAt_9 (Or.inr ⟨rfl, Nat.le_of_ble_eq_true rfl⟩) rfl rfl rfl (Nat.le_of_ble_eq_true rfl) flRX11_246 ?_
  refine V_top (y := nI S.2.2.2.1.length) (pI_ne (by omega) hC.2.2.2.1.1.1) ?_
  refine V_iconst_n (v := 1) dX11_outputAt_12 (by decide) ?_
  refine V_isub_z dX11_outputAt_13 (zI_n _) (zI_n _) ?_
  refine V_i2l dX11_outputAt_14 ?_
  refine V_topL (y := zL ((((S.2.2.2.1.length : Nat) : Int) - ((1 : Nat) : Int)))) (zI_zL (by omega) (by omega)) ?_
  refine V_callSF dX11_outputAt_15 (c_in (a := (i)) (b := 0) (c := ((((S.2.2.2.1.length : Nat) : Int) - ((1 : Nat) : Int)))) (by omega) (by omega) (by omega) (by omega) (by omega) (by omega)) okX11_in lkRX11_93 rfl rfl (Nat.le_of_ble_eq_true rfl) ⟨Nat.le_of_ble_eq_true rfl, Nat.le_of_ble_eq_true rfl⟩ rfl ?_
  refine V_if_eq_n (tgt := 31) dX11_outputAt_18 (by decide) (Nat.lt_of_lt_of_le ite_le (by decide)) (fun h18 => ?_) (fun h18 => ?_)
  · have hi18 := ite_f h18
    refine V_aload_n (i := 0) dX11_outputAt_31 rfl rfl ?_
    refine V_iconst_n (v := 1) dX11_outputAt_32 (by decide) ?_
    refine V_callVM dX11_outputAt_33 (m_throwing (w := _) (n := 1)) okX11_throwing lkRX11_75 (Or.inr ⟨rfl, Nat.le_of_ble_eq_true rfl⟩) rfl rfl rfl rfl (Nat.le_of_ble_eq_true rfl) ⟨Nat.le_of_ble_eq_true rfl, Nat.le_of_ble_eq_true rfl⟩ rfl ?_
    intro u1 hu1
    refine V_i2c dX11_outputAt_36 ?_
    refine V_iret dX11_outputAt_37 rfl (nar_char (by first | omega | exact Nat.mod_lt _ (by decide))) ?_
    have e9 : fOutputAt S i = (1, 0, S) := if_neg (by omega)
    rw [e9]
    exact ⟨⟨_, rfl, fun q => by simp at q⟩, hC.scr (((Fz.nil (P := PScr)).i1 (by omega) (by unfold PScr; omega)).trans (hu1.2.mono (fun b j q => by unfold PScr; omega))), hu1.1, (((Fz.nil (P := PScr)).i1 (by omega) (by unfold PScr; omega)).trans (hu1.2.mono (fun b j q => by unfold PScr; omega))).1⟩
  · have hi18 := ite_t h18
    obtain ⟨i0, rfl⟩ : ∃ n : Nat, i = (n : Int) := ⟨i.toNat, by omega⟩
    simp only [← zI_n]
    have hgd := hC.2.2.2.1.2.2 i0 (by omega)
    refine V_aload_n (i := 0) dX11_outputAt_21 rfl rfl ?_
    refine V_getC (k := 22) (q := 60) dX11_outputAt_22 (Or.inr ⟨rfl, Nat.le_of_ble_eq_true rfl⟩) rfl rfl rfl (Nat.le_of_ble_eq_true rfl) flRX11_50 ?_
    refine V_iload_n (i := 1) dX11_outputAt_25 rfl rfl ?_
    refine V_iald_n (i := i0) dX11_outputAt_26 (Or.inr ⟨rfl, Nat.le_of_ble_eq_true rfl⟩) rfl (by omega) (by decide) ?_
    refine V_top (y := nI (S.2.2.2.1.getD i0 0)) (((Fz.nil (P := PScr)).i1 (by omega) (by unfold PScr; omega) |>.gi (by omega)).trans (hC.2.2.2.1.1.2 i0 (by omega))) ?_
    refine V_i2c_n dX11_outputAt_27 (by omega) ?_
    refine V_goto (tgt := 37) dX11_outputAt_28 (by decide) ?_
    refine V_iret dX11_outputAt_37 rfl (nar_char (by first | omega | exact Nat.mod_lt _ (by decide))) ?_
    have e9 : fOutputAt S (i0 : Int) = (0, nI (S.2.2.2.1.getD i0 0), S) := if_pos (by omega)
    rw [e9]
    exact ⟨⟨_, rfl, fun _ => rfl⟩, hC.scr ((Fz.nil (P := PScr)).i1 (by omega) (by unfold PScr; omega)), pI_at, ((Fz.nil (P := PScr)).i1 (by omega) (by unfold PScr; omega)).1⟩
abbrev PIn (b j : Nat) : Prop := (b = 47 ∧ (j = 9 ∨ j = 11)) ∨ b = 54
theorem MI.inp {w w1 : Wd} {S : Sys} {l : List Nat} (h : MI w S) (hF : Fz PIn w w1) (hO : InpI w1 l) : MI w1 (wInp S l) :=
  ⟨h.1.keep hF (fun k _ => by omega), h.2.1.keep hF (fun b j q => by omega), h.2.2.1.keep hF (fun b j q => by omega), h.2.2.2.1.keep hF (fun b j q => by omega), hO, h.2.2.2.2.2.1.keep hF (fun b j q => by omega), h.2.2.2.2.2.2.keep hF (fun b j q => by omega)⟩
set_option maxRecDepth 100000 in
set_option maxHeartbeats 1000000 in
theorem m_appendInput {q : Nat} {S : Sys} {w : Wd} (hC : MI w S) (hq : q < 65536) : Ct 1 MX11_appendInput 8 0 0 [.ref 47, .int (nI q)] w (PoM (fAppendInput S q) w) := by
  refine Ct_of (by decide +kernel) rfl (Nat.le_of_ble_eq_true rfl) rfl ?_
  have hlo := hC.2.2.2.2.1.2.1
  refine V_aload_n (i := 0) dX11_appendInput_0 rfl rfl ?_
  refine V_iconst_n (v := 0) dX11_appendInput_1 (by decide) ?_
  refine V_putI (k := 9) (ty := .int) dX11_appendInput_2 (Or.inr ⟨rfl, Nat.le_of_ble_eq_true rfl⟩) rfl rfl rfl (Nat.le_of_ble_eq_true rfl) flRX11_66 rfl (by decide +kernel) rfl rfl ?_
  refine V_iload_n (i := 1) dX11_appendInput_5 rfl rfl ?_
  refine V_i2l dX11_appendInput_6 ?_
  refine V_topL (y := zL ((q : Nat) : Int)) (nI_zL (by omega)) ?_
  refine V_ldc2 dX11_appendInput_7 csRX11_253 ?_
  refine V_topL (y := zL 32) (by decide) ?_
  refine V_ldc2 dX11_appendInput_10 csRX11_255 ?_
  refine V_topL (y := zL 126) (by decide) ?_
  refine V_callSF dX11_appendInput_13 (c_in (a := ((q : Nat) : Int)) (b := 32) (c := 126) (by omega) (by omega) (by omega) (by omega) (by omega) (by omega)) okX11_in lkRX11_93 rfl rfl (Nat.le_of_ble_eq_true rfl) ⟨Nat.le_of_ble_eq_true rfl, Nat.le_of_ble_eq_true rfl⟩ rfl ?_
  refine V_if_ne_n (tgt := 25) dX11_appendInput_16 (by decide) (Nat.lt_of_lt_of_le ite_le (by decide)) (fun h16 => ?_) (fun h16 => ?_)
  · have hi16 := ite_t h16
    have hq1 : 32 ≤ q ∧ q ≤ 126 := by omega
    refine V_aload_n (i := 0) dX11_appendInput_25 rfl rfl ?_
    refine V_getI (k := 11) dX11_appendInput_26 (Or.inr ⟨rfl, Nat.le_of_ble_eq_true rfl⟩) rfl rfl rfl (Nat.le_of_ble_eq_true rfl) flRX11_257 ?_
    refine V_top (y := nI S.2.2.2.2.1.length) (pI_ne (by omega) hC.2.2.2.2.1.1.1) ?_
    refine V_bipush_n (v := 60) dX11_appendInput_29 (by decide) ?_
    refine V_icmp_ne_n (tgt := 40) dX11_appendInput_31 (by decide) (by omega) (by omega) (fun h31 => ?_) (fun h31 => ?_)
    · refine V_aload_n (i := 0) dX11_appendInput_40 rfl rfl ?_
      refine V_getC (k := 10) (q := 54) dX11_appendInput_41 (Or.inr ⟨rfl, Nat.le_of_ble_eq_true rfl⟩) rfl rfl rfl (Nat.le_of_ble_eq_true rfl) flRX11_32 ?_
      refine V_aload_n (i := 0) dX11_appendInput_44 rfl rfl ?_
      refine V_getI (k := 11) dX11_appendInput_45 (Or.inr ⟨rfl, Nat.le_of_ble_eq_true rfl⟩) rfl rfl rfl (Nat.le_of_ble_eq_true rfl) flRX11_257 ?_
      refine V_top (y := nI S.2.2.2.2.1.length) (pI_ne (by omega) hC.2.2.2.2.1.1.1) ?_
      refine V_iload_n (i := 1) dX11_appendInput_48 rfl rfl ?_
      refine V_iast_n (i := S.2.2.2.2.1.length) dX11_appendInput_49 (Or.inr ⟨rfl, Nat.le_of_ble_eq_true rfl⟩) rfl (by omega) (by decide) ?_
      refine V_aload_n (i := 0) dX11_appendInput_50 rfl rfl ?_
      refine V_dup dX11_appendInput_51 rfl ?_
      refine V_getI (k := 11) dX11_appendInput_52 (Or.inr ⟨rfl, Nat.le_of_ble_eq_true rfl⟩) rfl rfl rfl (Nat.le_of_ble_eq_true rfl) flRX11_257 ?_
      refine V_top (y := nI S.2.2.2.2.1.length) (pI_ne (by omega) (pI_ne (by omega) hC.2.2.2.2.1.1.1)) ?_
      refine V_iconst_n (v := 1) dX11_appendInput_55 (by decide) ?_
      refine V_iadd_n dX11_appendInput_56 ?_
      refine V_putI (k := 11) (ty := .int) dX11_appendInput_57 (Or.inr ⟨rfl, Nat.le_of_ble_eq_true rfl⟩) rfl rfl rfl (Nat.le_of_ble_eq_true rfl) flRX11_257 rfl (by decide +kernel) rfl rfl ?_
      refine V_aload_n (i := 0) dX11_appendInput_60 rfl rfl ?_
      refine V_getI (k := 11) dX11_appendInput_61 (Or.inr ⟨rfl, Nat.le_of_ble_eq_true rfl⟩) rfl rfl rfl (Nat.le_of_ble_eq_true rfl) flRX11_257 ?_
      refine V_top (y := nI (S.2.2.2.2.1.length + 1)) pI_at ?_
      refine V_iret dX11_appendInput_64 rfl rfl ?_
      have hz : S.2.2.2.2.1.length < 60 := by omega
      have e9 : fAppendInput S q = (0, nI (S.2.2.2.2.1.length + 1), wInp S (S.2.2.2.2.1 ++ [q])) := by simp [fAppendInput, hq1, hz]
      rw [e9]
      refine ⟨⟨_, rfl, fun _ => rfl⟩, hC.inp ((((Fz.nil (P := PIn)).i1 (by omega) (by unfold PIn; omega)).i1 (by omega) (by unfold PIn; omega)).i1 (by omega) (by unfold PIn; omega)) ⟨OutI.snoc ⟨pI_ne (by omega) hC.2.2.2.2.1.1.1, fun i hi => pI_ne (by omega) (hC.2.2.2.2.1.1.2 i hi)⟩ (by decide) rfl, by rw [List.length_append]; exact hz, fun i hi => ?_⟩, (pI_ne (by omega) (pI_ne (by omega) pI_at)), ((((Fz.nil (P := PIn)).i1 (by omega) (by unfold PIn; omega)).i1 (by omega) (by unfold PIn; omega)).i1 (by omega) (by unfold PIn; omega)).1⟩
      rw [getD_snoc]
      rw [List.length_append] at hi
      have hi2 : i < S.2.2.2.2.1.length + 1 := hi
      split
      · next h => exact hC.2.2.2.2.1.2.2 i h
      · rw [if_pos (by omega)]; exact hq1
    · refine V_aload_n (i := 0) dX11_appendInput_34 rfl rfl ?_
      refine V_iconst_n (v := 2) dX11_appendInput_35 (by decide) ?_
      refine V_callVM dX11_appendInput_36 (m_throwing (w := _) (n := 2)) okX11_throwing lkRX11_75 (Or.inr ⟨rfl, Nat.le_of_ble_eq_true rfl⟩) rfl rfl rfl rfl (Nat.le_of_ble_eq_true rfl) ⟨Nat.le_of_ble_eq_true rfl, Nat.le_of_ble_eq_true rfl⟩ rfl ?_
      intro u1 hu1
      refine V_iret dX11_appendInput_39 rfl rfl ?_
      have hz : ¬ S.2.2.2.2.1.length < 60 := by omega
      have e9 : fAppendInput S q = (2, 0, S) := by simp [fAppendInput, fCell, fLive, q2, cl_nat, b2, hq1, hz]
      rw [e9]
      exact ⟨⟨_, rfl, fun q => by simp at q⟩, hC.scr (((Fz.nil (P := PScr)).i1 (by omega) (by unfold PScr; omega)).trans (hu1.2.mono (fun b j q => by unfold PScr; omega))), hu1.1, (((Fz.nil (P := PScr)).i1 (by omega) (by unfold PScr; omega)).trans (hu1.2.mono (fun b j q => by unfold PScr; omega))).1⟩
  · have hi16 := ite_f h16
    refine V_aload_n (i := 0) dX11_appendInput_19 rfl rfl ?_
    refine V_iconst_n (v := 1) dX11_appendInput_20 (by decide) ?_
    refine V_callVM dX11_appendInput_21 (m_throwing (w := _) (n := 1)) okX11_throwing lkRX11_75 (Or.inr ⟨rfl, Nat.le_of_ble_eq_true rfl⟩) rfl rfl rfl rfl (Nat.le_of_ble_eq_true rfl) ⟨Nat.le_of_ble_eq_true rfl, Nat.le_of_ble_eq_true rfl⟩ rfl ?_
    intro u1 hu1
    refine V_iret dX11_appendInput_24 rfl rfl ?_
    have e9 : fAppendInput S q = (1, 0, S) := if_neg (by omega)
    rw [e9]
    exact ⟨⟨_, rfl, fun q => by simp at q⟩, hC.scr (((Fz.nil (P := PScr)).i1 (by omega) (by unfold PScr; omega)).trans (hu1.2.mono (fun b j q => by unfold PScr; omega))), hu1.1, (((Fz.nil (P := PScr)).i1 (by omega) (by unfold PScr; omega)).trans (hu1.2.mono (fun b j q => by unfold PScr; omega))).1⟩
theorem hk42 {v : Nat} : hk v 42 = true ↔ 10 ≤ v := by unfold hk; rw [if_pos rfl, decide_eq_true_iff]
theorem hk35 {v : Nat} (h : okc v) : hk v 35 = true ↔ v = 1 := by
  have h1 := kc_pale h
  unfold hk
  rw [if_neg (by decide), decide_eq_true_iff, h1]
theorem rwA_iff {C : Nat → Nat} {r o : Nat} : rwA C r o = true ↔ (cntR C o 42 < cntR C r 42 ∨ (cntR C r 42 = cntR C o 42 ∧ (cntR C o 35 < cntR C r 35 ∨ (cntR C r 35 = cntR C o 35 ∧ r < o)))) := by
  unfold rwA
  by_cases h : cntR C r 42 ≠ cntR C o 42
  · rw [if_pos h, decide_eq_true_iff]; omega
  · rw [if_neg h]
    by_cases h2 : cntR C r 35 ≠ cntR C o 35
    · rw [if_pos h2, decide_eq_true_iff]; omega
    · rw [if_neg h2, decide_eq_true_iff]; omega
theorem sm_le2 {f g : Nat → Nat} (h : ∀ k, f k ≤ g k) : ∀ n, sm f n ≤ sm g n := by
  intro n
  induction n with
  | zero => exact Nat.le_refl 0
  | succ n ih => show sm f n + f n ≤ sm g n + g n; have := h n; omega
theorem sm_lt2 {f g : Nat → Nat} {c : Nat} (h : ∀ k, f k ≤ g k) (hc : f c < g c) : ∀ n, c < n → sm f n < sm g n := by
  intro n
  induction n with
  | zero => intro h; omega
  | succ n ih =>
    intro hn
    show sm f n + f n < sm g n + g n
    have h1 := h n
    by_cases e : c = n
    · have := sm_le2 h n; subst e; omega
    · have := ih (by omega); omega
theorem rkR_lt {C : Nat → Nat} {r o : Nat} (hro : r ≠ o) (h : rwA C o r = true) (ho : o < 8) : rkR C o < rkR C r := by
  unfold rkR
  have ho1 := rwA_iff.mp h
  refine sm_lt2 (c := o) (fun k => ?_) ?_ 8 ho
  · by_cases e : k ≠ o ∧ rwA C k o = true
    · have e1 := rwA_iff.mp e.2
      have e2 : k ≠ r := by intro q; subst q; omega
      have e3 : rwA C k r = true := rwA_iff.mpr (by omega)
      rw [if_pos e, if_pos ⟨e2, e3⟩]
      exact Nat.le_refl 1
    · rw [if_neg e]; exact Nat.zero_le _
  · rw [if_neg (fun q => q.1 rfl), if_pos ⟨fun q => hro q.symm, h⟩]
    exact Nat.zero_lt_one
theorem rkR_inj {C : Nat → Nat} {r o : Nat} (hr : r < 8) (ho : o < 8) (h : rkR C r = rkR C o) : r = o := by
  refine Decidable.byContradiction fun hne => ?_
  by_cases hw : rwA C o r = true
  · have := rkR_lt hne hw ho; omega
  · have hw2 : rwA C r o = true := by
      have h1 := mt rwA_iff.mpr hw
      exact rwA_iff.mpr (by omega)
    have := rkR_lt (fun q => hne q.symm) hw2 hr; omega
theorem coA_iff {C : Nat → Nat} {i k : Nat} : coA C i k = true ↔ (cnt C (97 + k) < cnt C (97 + i) ∨ (cnt C (97 + i) = cnt C (97 + k) ∧ i < k)) := by unfold coA; rw [decide_eq_true_iff]
theorem rkC_lt {C : Nat → Nat} {r o : Nat} (h : coA C o r = true) (ho : o < 4) : rkC C o < rkC C r := by
  unfold rkC
  have ho1 := coA_iff.mp h
  refine sm_lt2 (c := o) (fun k => ?_) ?_ 4 ho
  · by_cases e : coA C k o = true
    · have e1 := coA_iff.mp e
      have e3 : coA C k r = true := coA_iff.mpr (by omega)
      rw [if_pos e, if_pos e3]
      exact Nat.le_refl 1
    · rw [if_neg e]; exact Nat.zero_le _
  · rw [if_neg (fun q => by have := coA_iff.mp q; omega), if_pos h]
    exact Nat.zero_lt_one
theorem rkC_inj {C : Nat → Nat} {r o : Nat} (hr : r < 4) (ho : o < 4) (h : rkC C r = rkC C o) : r = o := by
  refine Decidable.byContradiction fun hne => ?_
  by_cases hw : coA C o r = true
  · have := rkC_lt hw ho; omega
  · have hw2 : coA C r o = true := by
      have h1 := mt coA_iff.mpr hw
      exact coA_iff.mpr (by omega)
    have := rkC_lt hw2 hr; omega
theorem fnd_one {f : Nat → Nat} {x : Int} {i : Nat} (hf : (f i : Int) = x) : ∀ n, i < n → (∀ j, j < n → (f j : Int) = x → j = i) → fnd f x n = some i := by
  intro n
  induction n with
  | zero => intro h; omega
  | succ n ih =>
    intro hn hu
    rw [fnd_s]
    by_cases e : (f n : Int) = x
    · rw [if_pos e, hu n (by omega) e]
    · rw [if_neg e]
      exact ih (by have : i ≠ n := fun q => e (by rw [← q]; exact hf); omega) (fun j hj => hu j (by omega))
theorem fnd_no {f : Nat → Nat} {x : Int} : ∀ n, (∀ j, j < n → (f j : Int) ≠ x) → fnd f x n = none := by
  intro n
  induction n with
  | zero => intro _; rfl
  | succ n ih => intro h; rw [fnd_s, if_neg (h n (by omega))]; exact ih (fun j hj => h j (by omega))
set_option maxRecDepth 100000 in
set_option maxHeartbeats 1000000 in
theorem m_ofRow {r b q : Nat} {s : St} {w : Wd} (hM : Bk w 48 0 s) (hr : r < 8) (hb : (b = 1 ∧ q = 42) ∨ (b = 0 ∧ q = 35)) : Ct 1 MX11_ofRow 3 0 0 [.ref 47, .int (nI r), .int (nI b)] w (Rt (some (.int (nI (cntR s.1 r q)))) w) := by
  refine Ct_of (by decide +kernel) rfl (Nat.le_of_ble_eq_true rfl) rfl ?_
  have lp : ∀ (fu i : Nat) , i ≤ 8 → 8 - i < fu → V 1 MX11_ofRow 3 0 0 (Rt (some (.int (nI (cntR s.1 r q)))) w) (fun _ _ => True) 0 0 5 [some (.ref 47), some (.int (nI r)), some (.int (nI b)), some (.int (nI (sm (fun k => if hk (s.1 (8 * r + k)) q then 1 else 0) i))), some (.int (nI i)), none] [] w := by
    intro fu
    induction fu with
    | zero => intro i  h1 h2; omega
    | succ fu ih =>
      intro i  hib hfu
      have hle := cnt_le (C := fun k => s.1 (8 * r + k)) (q := q) (n := i)
      have e1 : sm (fun k => if hk (s.1 (8 * r + k)) q then 1 else 0) (i + 1) = sm (fun k => if hk (s.1 (8 * r + k)) q then 1 else 0) i + (if hk (s.1 (8 * r + i)) q then 1 else 0) := rfl
      refine V_iload dX11_ofRow_5 rfl ?_
      refine V_bipush_n (v := 8) dX11_ofRow_7 (by decide) ?_
      refine V_icmp_ge_n (tgt := 63) dX11_ofRow_9 (by decide) (by omega) (by omega) (fun h9 => ?_) (fun h9 => ?_)
      · refine V_iload_n (i := 3) dX11_ofRow_63 rfl rfl ?_
        refine V_iret dX11_ofRow_64 rfl rfl ?_
        obtain rfl : i = 8 := by omega
        exact ⟨rfl, rfl⟩
      · have h42 := @hk42 (s.1 (8 * r + i))
        have h35 := hk35 (hM.1.1 (8 * r + i) (by omega))
        refine V_aload_n (i := 0) dX11_ofRow_12 rfl rfl ?_
        refine V_iload_n (i := 1) dX11_ofRow_13 rfl rfl ?_
        refine V_iload dX11_ofRow_14 rfl ?_
        refine V_callSF dX11_ofRow_16 (m_cellOf (r := r) (c := i) (rfl) (rfl)) okX11_cellOf lkRX11_108 rfl rfl (Nat.le_of_ble_eq_true rfl) ⟨Nat.le_of_ble_eq_true rfl, Nat.le_of_ble_eq_true rfl⟩ rfl ?_
        have hv63 := hM.1.1 ((8 * r + i)) (by omega)
        unfold okc at hv63
        refine V_callVF dX11_ofRow_19 (m_at hM (k := (8 * r + i)) (by omega)) okX11_at lkRX11_101 (Or.inr ⟨rfl, Nat.le_of_ble_eq_true rfl⟩) rfl rfl rfl rfl (Nat.le_of_ble_eq_true rfl) ⟨Nat.le_of_ble_eq_true rfl, Nat.le_of_ble_eq_true rfl⟩ rfl ?_
        refine V_istore dX11_ofRow_22 (Nat.le_of_ble_eq_true rfl) rfl rfl ?_
        refine V_iload_n (i := 3) dX11_ofRow_24 rfl rfl ?_
        refine V_iload_n (i := 2) dX11_ofRow_25 rfl rfl ?_
        refine V_if_eq_n (tgt := 44) dX11_ofRow_26 (by decide) (by omega) (fun h26 => ?_) (fun h26 => ?_)
        · refine V_iload dX11_ofRow_44 rfl ?_
          refine V_iconst_n (v := 1) dX11_ofRow_46 (by decide) ?_
          refine V_icmp_ne_n (tgt := 54) dX11_ofRow_47 (by decide) (by omega) (by omega) (fun h47 => ?_) (fun h47 => ?_)
          · have e2 : (if hk (s.1 (8 * r + i)) q = true then 1 else 0 : Nat) = 0 := by rcases hb with ⟨hb1, rfl⟩ | ⟨hb1, rfl⟩ <;> first | (exfalso; omega) | exact if_neg (fun z => by have := h42.mp z; omega) | exact if_neg (fun z => by have := h35.mp z; omega)
            refine V_iconst_n (v := 0) dX11_ofRow_54 (by decide) ?_
            refine V_iadd_n dX11_ofRow_55 ?_
            refine V_istore_n (i := 3) dX11_ofRow_56 rfl (Nat.le_of_ble_eq_true rfl) rfl rfl ?_
            refine V_iinc_n (b := (i + 1)) dX11_ofRow_57 rfl (nI_add _ _) rfl rfl ?_
            refine V_goto (tgt := 5) dX11_ofRow_60 (by decide) ?_
            have k9 := ih (i + 1) (by omega) (by omega)
            rw [e1, e2] at k9
            exact k9.sub (by repeat' (first | exact trivial | exact rfl | constructor))
          · have e2 : (if hk (s.1 (8 * r + i)) q = true then 1 else 0 : Nat) = 1 := by rcases hb with ⟨hb1, rfl⟩ | ⟨hb1, rfl⟩ <;> first | (exfalso; omega) | exact if_pos (h42.mpr (by omega)) | exact if_pos (h35.mpr (by omega))
            refine V_iconst_n (v := 1) dX11_ofRow_50 (by decide) ?_
            refine V_goto (tgt := 55) dX11_ofRow_51 (by decide) ?_
            refine V_iadd_n dX11_ofRow_55 ?_
            refine V_istore_n (i := 3) dX11_ofRow_56 rfl (Nat.le_of_ble_eq_true rfl) rfl rfl ?_
            refine V_iinc_n (b := (i + 1)) dX11_ofRow_57 rfl (nI_add _ _) rfl rfl ?_
            refine V_goto (tgt := 5) dX11_ofRow_60 (by decide) ?_
            have k9 := ih (i + 1) (by omega) (by omega)
            rw [e1, e2] at k9
            exact k9.sub (by repeat' (first | exact trivial | exact rfl | constructor))
        · refine V_iload dX11_ofRow_29 rfl ?_
          refine V_bipush_n (v := 10) dX11_ofRow_31 (by decide) ?_
          refine V_icmp_lt_n (tgt := 40) dX11_ofRow_33 (by decide) (by omega) (by omega) (fun h33 => ?_) (fun h33 => ?_)
          · have e2 : (if hk (s.1 (8 * r + i)) q = true then 1 else 0 : Nat) = 0 := by rcases hb with ⟨hb1, rfl⟩ | ⟨hb1, rfl⟩ <;> first | (exfalso; omega) | exact if_neg (fun z => by have := h42.mp z; omega) | exact if_neg (fun z => by have := h35.mp z; omega)
            refine V_iconst_n (v := 0) dX11_ofRow_40 (by decide) ?_
            refine V_goto (tgt := 55) dX11_ofRow_41 (by decide) ?_
            refine V_iadd_n dX11_ofRow_55 ?_
            refine V_istore_n (i := 3) dX11_ofRow_56 rfl (Nat.le_of_ble_eq_true rfl) rfl rfl ?_
            refine V_iinc_n (b := (i + 1)) dX11_ofRow_57 rfl (nI_add _ _) rfl rfl ?_
            refine V_goto (tgt := 5) dX11_ofRow_60 (by decide) ?_
            have k9 := ih (i + 1) (by omega) (by omega)
            rw [e1, e2] at k9
            exact k9.sub (by repeat' (first | exact trivial | exact rfl | constructor))
          · have e2 : (if hk (s.1 (8 * r + i)) q = true then 1 else 0 : Nat) = 1 := by rcases hb with ⟨hb1, rfl⟩ | ⟨hb1, rfl⟩ <;> first | (exfalso; omega) | exact if_pos (h42.mpr (by omega)) | exact if_pos (h35.mpr (by omega))
            refine V_iconst_n (v := 1) dX11_ofRow_36 (by decide) ?_
            refine V_goto (tgt := 55) dX11_ofRow_37 (by decide) ?_
            refine V_iadd_n dX11_ofRow_55 ?_
            refine V_istore_n (i := 3) dX11_ofRow_56 rfl (Nat.le_of_ble_eq_true rfl) rfl rfl ?_
            refine V_iinc_n (b := (i + 1)) dX11_ofRow_57 rfl (nI_add _ _) rfl rfl ?_
            refine V_goto (tgt := 5) dX11_ofRow_60 (by decide) ?_
            have k9 := ih (i + 1) (by omega) (by omega)
            rw [e1, e2] at k9
            exact k9.sub (by repeat' (first | exact trivial | exact rfl | constructor))
  refine V_iconst_n (v := 0) dX11_ofRow_0 (by decide) ?_
  refine V_istore_n (i := 3) dX11_ofRow_1 rfl (Nat.le_of_ble_eq_true rfl) rfl rfl ?_
  refine V_iconst_n (v := 0) dX11_ofRow_2 (by decide) ?_
  refine V_istore dX11_ofRow_3 (Nat.le_of_ble_eq_true rfl) rfl rfl ?_
  exact (lp 9 0 (by omega) (by omega)).sub (by repeat' (first | exact trivial | exact rfl | constructor))
set_option maxRecDepth 100000 in
set_option maxHeartbeats 1000000 in
theorem m_rowByLiving {y : Int32} {x : Int} {S : Sys} {w : Wd} (hC : MI w S) (hy : y = zI x) (n1 : -2147483648 ≤ x) (n2 : x < 2147483648) : Ct 1 MX11_rowByLiving 8 0 0 [.ref 47, .int y] w (PoM (fRowByLiving S x) w) := by
  refine Ct_of (by decide +kernel) rfl (Nat.le_of_ble_eq_true rfl) rfl ?_
  subst hy
  refine V_aload_n (i := 0) dX11_rowByLiving_0 rfl rfl ?_
  refine V_iconst_n (v := 0) dX11_rowByLiving_1 (by decide) ?_
  refine V_putI (k := 9) (ty := .int) dX11_rowByLiving_2 (Or.inr ⟨rfl, Nat.le_of_ble_eq_true rfl⟩) rfl rfl rfl (Nat.le_of_ble_eq_true rfl) flRX11_66 rfl (by decide +kernel) rfl rfl ?_
  refine V_iconst_n (v := 0) dX11_rowByLiving_5 (by decide) ?_
  refine V_istore_n (i := 2) dX11_rowByLiving_6 rfl (Nat.le_of_ble_eq_true rfl) rfl rfl ?_
  have hf : Fz PTh w (pI w 47 9 (nI 0)) := Fz.nil.i1 (by omega) (by unfold PTh; omega)
  have h9 : gI (pI w 47 9 (nI 0)) 47 9 = nI 0 := pI_at
  generalize pI w 47 9 (nI 0) = w1 at *
  have lpo : ∀ (fu i : Nat) , i ≤ 8 → 8 - i < fu → (∀ j, j < i → (rkR S.1.1 j : Int) ≠ x) → V 1 MX11_rowByLiving 8 0 0 (PoM (fRowByLiving S x) w) (fun _ _ => True) 0 0 7 [some (.ref 47), some (.int (zI x)), some (.int (nI i)), none, none, none] [] w1 := by
    intro fu
    induction fu with
    | zero => intro i  h1 h2; omega
    | succ fu ihO =>
      intro i  hib hfu hn
      have lpj : ∀ (fu j : Nat) , j ≤ 8 → 8 - j < fu → i < 8 → (∀ j, j < i → (rkR S.1.1 j : Int) ≠ x) → V 1 MX11_rowByLiving 8 0 0 (PoM (fRowByLiving S x) w) (fun _ _ => True) 0 0 18 [some (.ref 47), some (.int (zI x)), some (.int (nI i)), some (.int (nI (sm (fun o => if o ≠ i ∧ rwA S.1.1 o i = true then 1 else 0) j))), some (.int (nI j)), none] [] w1 := by
        intro fu
        induction fu with
        | zero => intro j  h1 h2; omega
        | succ fu ihj =>
          intro j  hib hfu hi8 hn
          have hle := @rkR_le S.1.1 i j
          have e1 : sm (fun o => if o ≠ i ∧ rwA S.1.1 o i = true then 1 else 0) (j + 1) = sm (fun o => if o ≠ i ∧ rwA S.1.1 o i = true then 1 else 0) j + (if j ≠ i ∧ rwA S.1.1 j i = true then 1 else 0) := rfl
          have hw := @rwA_iff S.1.1 j i
          have hself : j = i → (cntR S.1.1 j 42 = cntR S.1.1 i 42 ∧ cntR S.1.1 j 35 = cntR S.1.1 i 35) := fun q => by subst q; exact ⟨rfl, rfl⟩
          refine V_iload dX11_rowByLiving_18 rfl ?_
          refine V_bipush_n (v := 8) dX11_rowByLiving_20 (by decide) ?_
          refine V_icmp_ge_n (tgt := 97) dX11_rowByLiving_22 (by decide) (by omega) (by omega) (fun h22 => ?_) (fun h22 => ?_)
          · obtain rfl : j = 8 := by omega
            refine V_iload_n (i := 3) dX11_rowByLiving_97 rfl rfl ?_
            refine V_iload_n (i := 1) dX11_rowByLiving_98 rfl rfl ?_
            refine V_icmp_ne_z (tgt := 104) dX11_rowByLiving_99 (by decide) (zI_n _) rfl (by omega) (by omega) (by omega) (by omega) (fun h99 => ?_) (fun h99 => ?_)
            · have hne : (rkR S.1.1 i : Int) ≠ x := fun z => h99 z
              refine V_iinc_n (b := (i + 1)) dX11_rowByLiving_104 rfl (nI_add _ _) rfl rfl ?_
              refine V_goto (tgt := 7) dX11_rowByLiving_107 (by decide) ?_
              exact (ihO (i + 1) (by omega) (by omega) (fun j hj => (Decidable.em (j = i)).elim (fun e => by rw [e]; exact hne) (fun e => hn j (by omega)))).sub (by repeat' (first | exact trivial | exact rfl | constructor))
            · have heq : (rkR S.1.1 i : Int) = x := h99
              refine V_iload_n (i := 2) dX11_rowByLiving_102 rfl rfl ?_
              refine V_iret dX11_rowByLiving_103 rfl rfl ?_
              have ef := fnd_one (f := rkR S.1.1) heq 8 hi8 (fun j hj hx => rkR_inj (C := S.1.1) hj hi8 (by omega))
              have e9 : fRowByLiving S x = (0, nI i, S) := by unfold fRowByLiving; rw [ef]
              rw [e9]
              exact ⟨⟨_, rfl, fun _ => rfl⟩, hC.scr (hf.mono (fun b j q => by unfold PScr; omega)), h9, hf.1⟩
          · refine V_aload_n (i := 0) dX11_rowByLiving_25 rfl rfl ?_
            refine V_iload dX11_rowByLiving_26 rfl ?_
            refine V_iconst_n (v := 1) dX11_rowByLiving_28 (by decide) ?_
            have hq64 := @cntR_le S.1.1 (j) 42
            refine V_callVF dX11_rowByLiving_29 (m_ofRow (hC.1.keep hf (fun k _ => by omega)) (r := j) (b := 1) (q := 42) (by omega) (Or.inl ⟨rfl, rfl⟩)) okX11_ofRow lkRX11_242 (Or.inr ⟨rfl, Nat.le_of_ble_eq_true rfl⟩) rfl rfl rfl rfl (Nat.le_of_ble_eq_true rfl) ⟨Nat.le_of_ble_eq_true rfl, Nat.le_of_ble_eq_true rfl⟩ rfl ?_
            refine V_aload_n (i := 0) dX11_rowByLiving_32 rfl rfl ?_
            refine V_iload_n (i := 2) dX11_rowByLiving_33 rfl rfl ?_
            refine V_iconst_n (v := 1) dX11_rowByLiving_34 (by decide) ?_
            have hq65 := @cntR_le S.1.1 (i) 42
            refine V_callVF dX11_rowByLiving_35 (m_ofRow (hC.1.keep hf (fun k _ => by omega)) (r := i) (b := 1) (q := 42) (by omega) (Or.inl ⟨rfl, rfl⟩)) okX11_ofRow lkRX11_242 (Or.inr ⟨rfl, Nat.le_of_ble_eq_true rfl⟩) rfl rfl rfl rfl (Nat.le_of_ble_eq_true rfl) ⟨Nat.le_of_ble_eq_true rfl, Nat.le_of_ble_eq_true rfl⟩ rfl ?_
            refine V_isub_z dX11_rowByLiving_38 (zI_n _) (zI_n _) ?_
            refine V_istore dX11_rowByLiving_39 (Nat.le_of_ble_eq_true rfl) rfl rfl ?_
            refine V_iload dX11_rowByLiving_41 rfl ?_
            refine V_if_ne_z (tgt := 63) dX11_rowByLiving_43 (by decide) rfl (by omega) (by omega) (fun h43 => ?_) (fun h43 => ?_)
            · refine V_iload dX11_rowByLiving_63 rfl ?_
              refine V_istore dX11_rowByLiving_65 (Nat.le_of_ble_eq_true rfl) rfl rfl ?_
              refine V_iload_n (i := 3) dX11_rowByLiving_67 rfl rfl ?_
              refine V_iload dX11_rowByLiving_68 rfl ?_
              refine V_if_gt_z (tgt := 84) dX11_rowByLiving_70 (by decide) rfl (by omega) (by omega) (fun h70 => ?_) (fun h70 => ?_)
              · have e2 : (if j ≠ i ∧ rwA S.1.1 j i = true then 1 else 0 : Nat) = 1 := if_pos ⟨by omega, hw.mpr (by omega)⟩
                refine V_iconst_n (v := 1) dX11_rowByLiving_84 (by decide) ?_
                refine V_goto (tgt := 89) dX11_rowByLiving_85 (by decide) ?_
                refine V_iadd_n dX11_rowByLiving_89 ?_
                refine V_istore_n (i := 3) dX11_rowByLiving_90 rfl (Nat.le_of_ble_eq_true rfl) rfl rfl ?_
                refine V_iinc_n (b := (j + 1)) dX11_rowByLiving_91 rfl (nI_add _ _) rfl rfl ?_
                refine V_goto (tgt := 18) dX11_rowByLiving_94 (by decide) ?_
                have k9 := ihj (j + 1) (by omega) (by omega) hi8 hn
                rw [e1, e2] at k9
                exact k9.sub (by repeat' (first | exact trivial | exact rfl | constructor))
              · refine V_iload dX11_rowByLiving_73 rfl ?_
                refine V_if_ne_z (tgt := 88) dX11_rowByLiving_75 (by decide) rfl (by omega) (by omega) (fun h75 => ?_) (fun h75 => ?_)
                · have e2 : (if j ≠ i ∧ rwA S.1.1 j i = true then 1 else 0 : Nat) = 0 := if_neg (fun z => by have := hw.mp z.2; omega)
                  refine V_iconst_n (v := 0) dX11_rowByLiving_88 (by decide) ?_
                  refine V_iadd_n dX11_rowByLiving_89 ?_
                  refine V_istore_n (i := 3) dX11_rowByLiving_90 rfl (Nat.le_of_ble_eq_true rfl) rfl rfl ?_
                  refine V_iinc_n (b := (j + 1)) dX11_rowByLiving_91 rfl (nI_add _ _) rfl rfl ?_
                  refine V_goto (tgt := 18) dX11_rowByLiving_94 (by decide) ?_
                  have k9 := ihj (j + 1) (by omega) (by omega) hi8 hn
                  rw [e1, e2] at k9
                  exact k9.sub (by repeat' (first | exact trivial | exact rfl | constructor))
                · refine V_iload dX11_rowByLiving_78 rfl ?_
                  refine V_iload_n (i := 2) dX11_rowByLiving_80 rfl rfl ?_
                  refine V_icmp_ge_n (tgt := 88) dX11_rowByLiving_81 (by decide) (by omega) (by omega) (fun h81 => ?_) (fun h81 => ?_)
                  · have e2 : (if j ≠ i ∧ rwA S.1.1 j i = true then 1 else 0 : Nat) = 0 := if_neg (fun z => by have := hw.mp z.2; omega)
                    refine V_iconst_n (v := 0) dX11_rowByLiving_88 (by decide) ?_
                    refine V_iadd_n dX11_rowByLiving_89 ?_
                    refine V_istore_n (i := 3) dX11_rowByLiving_90 rfl (Nat.le_of_ble_eq_true rfl) rfl rfl ?_
                    refine V_iinc_n (b := (j + 1)) dX11_rowByLiving_91 rfl (nI_add _ _) rfl rfl ?_
                    refine V_goto (tgt := 18) dX11_rowByLiving_94 (by decide) ?_
                    have k9 := ihj (j + 1) (by omega) (by omega) hi8 hn
                    rw [e1, e2] at k9
                    exact k9.sub (by repeat' (first | exact trivial | exact rfl | constructor))
                  · have e2 : (if j ≠ i ∧ rwA S.1.1 j i = true then 1 else 0 : Nat) = 1 := if_pos ⟨by omega, hw.mpr (by omega)⟩
                    refine V_iconst_n (v := 1) dX11_rowByLiving_84 (by decide) ?_
                    refine V_goto (tgt := 89) dX11_rowByLiving_85 (by decide) ?_
                    refine V_iadd_n dX11_rowByLiving_89 ?_
                    refine V_istore_n (i := 3) dX11_rowByLiving_90 rfl (Nat.le_of_ble_eq_true rfl) rfl rfl ?_
                    refine V_iinc_n (b := (j + 1)) dX11_rowByLiving_91 rfl (nI_add _ _) rfl rfl ?_
                    refine V_goto (tgt := 18) dX11_rowByLiving_94 (by decide) ?_
                    have k9 := ihj (j + 1) (by omega) (by omega) hi8 hn
                    rw [e1, e2] at k9
                    exact k9.sub (by repeat' (first | exact trivial | exact rfl | constructor))
            · refine V_aload_n (i := 0) dX11_rowByLiving_46 rfl rfl ?_
              refine V_iload dX11_rowByLiving_47 rfl ?_
              refine V_iconst_n (v := 0) dX11_rowByLiving_49 (by decide) ?_
              have hq66 := @cntR_le S.1.1 (j) 35
              refine V_callVF dX11_rowByLiving_50 (m_ofRow (hC.1.keep hf (fun k _ => by omega)) (r := j) (b := 0) (q := 35) (by omega) (Or.inr ⟨rfl, rfl⟩)) okX11_ofRow lkRX11_242 (Or.inr ⟨rfl, Nat.le_of_ble_eq_true rfl⟩) rfl rfl rfl rfl (Nat.le_of_ble_eq_true rfl) ⟨Nat.le_of_ble_eq_true rfl, Nat.le_of_ble_eq_true rfl⟩ rfl ?_
              refine V_aload_n (i := 0) dX11_rowByLiving_53 rfl rfl ?_
              refine V_iload_n (i := 2) dX11_rowByLiving_54 rfl rfl ?_
              refine V_iconst_n (v := 0) dX11_rowByLiving_55 (by decide) ?_
              have hq67 := @cntR_le S.1.1 (i) 35
              refine V_callVF dX11_rowByLiving_56 (m_ofRow (hC.1.keep hf (fun k _ => by omega)) (r := i) (b := 0) (q := 35) (by omega) (Or.inr ⟨rfl, rfl⟩)) okX11_ofRow lkRX11_242 (Or.inr ⟨rfl, Nat.le_of_ble_eq_true rfl⟩) rfl rfl rfl rfl (Nat.le_of_ble_eq_true rfl) ⟨Nat.le_of_ble_eq_true rfl, Nat.le_of_ble_eq_true rfl⟩ rfl ?_
              refine V_isub_z dX11_rowByLiving_59 (zI_n _) (zI_n _) ?_
              refine V_goto (tgt := 65) dX11_rowByLiving_60 (by decide) ?_
              refine V_istore dX11_rowByLiving_65 (Nat.le_of_ble_eq_true rfl) rfl rfl ?_
              refine V_iload_n (i := 3) dX11_rowByLiving_67 rfl rfl ?_
              refine V_iload dX11_rowByLiving_68 rfl ?_
              refine V_if_gt_z (tgt := 84) dX11_rowByLiving_70 (by decide) rfl (by omega) (by omega) (fun h70 => ?_) (fun h70 => ?_)
              · have e2 : (if j ≠ i ∧ rwA S.1.1 j i = true then 1 else 0 : Nat) = 1 := if_pos ⟨by omega, hw.mpr (by omega)⟩
                refine V_iconst_n (v := 1) dX11_rowByLiving_84 (by decide) ?_
                refine V_goto (tgt := 89) dX11_rowByLiving_85 (by decide) ?_
                refine V_iadd_n dX11_rowByLiving_89 ?_
                refine V_istore_n (i := 3) dX11_rowByLiving_90 rfl (Nat.le_of_ble_eq_true rfl) rfl rfl ?_
                refine V_iinc_n (b := (j + 1)) dX11_rowByLiving_91 rfl (nI_add _ _) rfl rfl ?_
                refine V_goto (tgt := 18) dX11_rowByLiving_94 (by decide) ?_
                have k9 := ihj (j + 1) (by omega) (by omega) hi8 hn
                rw [e1, e2] at k9
                exact k9.sub (by repeat' (first | exact trivial | exact rfl | constructor))
              · refine V_iload dX11_rowByLiving_73 rfl ?_
                refine V_if_ne_z (tgt := 88) dX11_rowByLiving_75 (by decide) rfl (by omega) (by omega) (fun h75 => ?_) (fun h75 => ?_)
                · have e2 : (if j ≠ i ∧ rwA S.1.1 j i = true then 1 else 0 : Nat) = 0 := if_neg (fun z => by have := hw.mp z.2; omega)
                  refine V_iconst_n (v := 0) dX11_rowByLiving_88 (by decide) ?_
                  refine V_iadd_n dX11_rowByLiving_89 ?_
                  refine V_istore_n (i := 3) dX11_rowByLiving_90 rfl (Nat.le_of_ble_eq_true rfl) rfl rfl ?_
                  refine V_iinc_n (b := (j + 1)) dX11_rowByLiving_91 rfl (nI_add _ _) rfl rfl ?_
                  refine V_goto (tgt := 18) dX11_rowByLiving_94 (by decide) ?_
                  have k9 := ihj (j + 1) (by omega) (by omega) hi8 hn
                  rw [e1, e2] at k9
                  exact k9.sub (by repeat' (first | exact trivial | exact rfl | constructor))
                · refine V_iload dX11_rowByLiving_78 rfl ?_
                  refine V_iload_n (i := 2) dX11_rowByLiving_80 rfl rfl ?_
                  refine V_icmp_ge_n (tgt := 88) dX11_rowByLiving_81 (by decide) (by omega) (by omega) (fun h81 => ?_) (fun h81 => ?_)
                  · have e2 : (if j ≠ i ∧ rwA S.1.1 j i = true then 1 else 0 : Nat) = 0 := if_neg (fun z => by have := hw.mp z.2; omega)
                    refine V_iconst_n (v := 0) dX11_rowByLiving_88 (by decide) ?_
                    refine V_iadd_n dX11_rowByLiving_89 ?_
                    refine V_istore_n (i := 3) dX11_rowByLiving_90 rfl (Nat.le_of_ble_eq_true rfl) rfl rfl ?_
                    refine V_iinc_n (b := (j + 1)) dX11_rowByLiving_91 rfl (nI_add _ _) rfl rfl ?_
                    refine V_goto (tgt := 18) dX11_rowByLiving_94 (by decide) ?_
                    have k9 := ihj (j + 1) (by omega) (by omega) hi8 hn
                    rw [e1, e2] at k9
                    exact k9.sub (by repeat' (first | exact trivial | exact rfl | constructor))
                  · have e2 : (if j ≠ i ∧ rwA S.1.1 j i = true then 1 else 0 : Nat) = 1 := if_pos ⟨by omega, hw.mpr (by omega)⟩
                    refine V_iconst_n (v := 1) dX11_rowByLiving_84 (by decide) ?_
                    refine V_goto (tgt := 89) dX11_rowByLiving_85 (by decide) ?_
                    refine V_iadd_n dX11_rowByLiving_89 ?_
                    refine V_istore_n (i := 3) dX11_rowByLiving_90 rfl (Nat.le_of_ble_eq_true rfl) rfl rfl ?_
                    refine V_iinc_n (b := (j + 1)) dX11_rowByLiving_91 rfl (nI_add _ _) rfl rfl ?_
                    refine V_goto (tgt := 18) dX11_rowByLiving_94 (by decide) ?_
                    have k9 := ihj (j + 1) (by omega) (by omega) hi8 hn
                    rw [e1, e2] at k9
                    exact k9.sub (by repeat' (first | exact trivial | exact rfl | constructor))
      refine V_iload_n (i := 2) dX11_rowByLiving_7 rfl rfl ?_
      refine V_bipush_n (v := 8) dX11_rowByLiving_8 (by decide) ?_
      refine V_icmp_ge_n (tgt := 110) dX11_rowByLiving_10 (by decide) (by omega) (by omega) (fun h10 => ?_) (fun h10 => ?_)
      · refine V_aload_n (i := 0) dX11_rowByLiving_110 rfl rfl ?_
        refine V_iconst_n (v := 1) dX11_rowByLiving_111 (by decide) ?_
        refine V_callVM dX11_rowByLiving_112 (m_throwing (w := _) (n := 1)) okX11_throwing lkRX11_75 (Or.inr ⟨rfl, Nat.le_of_ble_eq_true rfl⟩) rfl rfl rfl rfl (Nat.le_of_ble_eq_true rfl) ⟨Nat.le_of_ble_eq_true rfl, Nat.le_of_ble_eq_true rfl⟩ rfl ?_
        intro u1 hu1
        refine V_iret dX11_rowByLiving_115 rfl rfl ?_
        obtain rfl : i = 8 := by omega
        have e9 : fRowByLiving S x = (1, 0, S) := by unfold fRowByLiving; rw [fnd_no 8 hn]
        rw [e9]
        exact ⟨⟨_, rfl, fun q => by simp at q⟩, hC.scr ((hf.mono (Q := PScr) (fun b j q => by unfold PScr; omega)).trans (hu1.2.mono (fun b j q => by unfold PScr; omega))), hu1.1, ((hf.mono (Q := PScr) (fun b j q => by unfold PScr; omega)).trans (hu1.2.mono (fun b j q => by unfold PScr; omega))).1⟩
      · refine V_iconst_n (v := 0) dX11_rowByLiving_13 (by decide) ?_
        refine V_istore_n (i := 3) dX11_rowByLiving_14 rfl (Nat.le_of_ble_eq_true rfl) rfl rfl ?_
        refine V_iconst_n (v := 0) dX11_rowByLiving_15 (by decide) ?_
        refine V_istore dX11_rowByLiving_16 (Nat.le_of_ble_eq_true rfl) rfl rfl ?_
        exact (lpj 9 0 (by omega) (by omega) (by omega) hn).sub (by repeat' (first | exact trivial | exact rfl | constructor))
  exact (lpo 9 0 (by omega) (by omega) (fun j hj => by omega)).sub (by repeat' (first | exact trivial | exact rfl | constructor))
set_option maxRecDepth 100000 in
set_option maxHeartbeats 1000000 in
theorem m_colourByCount {y : Int32} {x : Int} {S : Sys} {w : Wd} (hC : MI w S) (hy : y = zI x) (n1 : -2147483648 ≤ x) (n2 : x < 2147483648) : Ct 1 MX11_colourByCount 8 0 0 [.ref 47, .int y] w (PoM (fColourByCount S x) w) := by
  refine Ct_of (by decide +kernel) rfl (Nat.le_of_ble_eq_true rfl) rfl ?_
  subst hy
  refine V_aload_n (i := 0) dX11_colourByCount_0 rfl rfl ?_
  refine V_iconst_n (v := 0) dX11_colourByCount_1 (by decide) ?_
  refine V_putI (k := 9) (ty := .int) dX11_colourByCount_2 (Or.inr ⟨rfl, Nat.le_of_ble_eq_true rfl⟩) rfl rfl rfl (Nat.le_of_ble_eq_true rfl) flRX11_66 rfl (by decide +kernel) rfl rfl ?_
  refine V_bipush_n (v := 97) dX11_colourByCount_5 (by decide) ?_
  refine V_istore_n (i := 2) dX11_colourByCount_7 rfl (Nat.le_of_ble_eq_true rfl) rfl rfl ?_
  have hf : Fz PTh w (pI w 47 9 (nI 0)) := Fz.nil.i1 (by omega) (by unfold PTh; omega)
  have h9 : gI (pI w 47 9 (nI 0)) 47 9 = nI 0 := pI_at
  generalize pI w 47 9 (nI 0) = w1 at *
  have lpo : ∀ (fu i : Nat) , i ≤ 4 → 4 - i < fu → (∀ j, j < i → (rkC S.1.1 j : Int) ≠ x) → V 1 MX11_colourByCount 8 0 0 (PoM (fColourByCount S x) w) (fun _ _ => True) 0 0 8 [some (.ref 47), some (.int (zI x)), some (.int (nI (97 + i))), none, none, none] [] w1 := by
    intro fu
    induction fu with
    | zero => intro i  h1 h2; omega
    | succ fu ihO =>
      intro i  hib hfu hn
      have lpj : ∀ (fu j : Nat) , j ≤ 4 → 4 - j < fu → i < 4 → (∀ j, j < i → (rkC S.1.1 j : Int) ≠ x) → V 1 MX11_colourByCount 8 0 0 (PoM (fColourByCount S x) w) (fun _ _ => True) 0 0 20 [some (.ref 47), some (.int (zI x)), some (.int (nI (97 + i))), some (.int (nI (sm (fun o => if coA S.1.1 o i = true then 1 else 0) j))), some (.int (nI (97 + j))), none] [] w1 := by
        intro fu
        induction fu with
        | zero => intro j  h1 h2; omega
        | succ fu ihj =>
          intro j  hib hfu hi8 hn
          have hle := @rkC_le S.1.1 i j
          have e1 : sm (fun o => if coA S.1.1 o i = true then 1 else 0) (j + 1) = sm (fun o => if coA S.1.1 o i = true then 1 else 0) j + (if coA S.1.1 j i = true then 1 else 0) := rfl
          have hw := @coA_iff S.1.1 j i
          have hcl := cnt_le (C := S.1.1) (q := 97 + i) (n := 64)
          change cnt S.1.1 (97 + i) ≤ 64 at hcl
          have hcj := cnt_le (C := S.1.1) (q := 97 + j) (n := 64)
          change cnt S.1.1 (97 + j) ≤ 64 at hcj
          refine V_iload dX11_colourByCount_20 rfl ?_
          refine V_bipush_n (v := 100) dX11_colourByCount_22 (by decide) ?_
          refine V_icmp_gt_n (tgt := 92) dX11_colourByCount_24 (by decide) (by omega) (by omega) (fun h24 => ?_) (fun h24 => ?_)
          · obtain rfl : j = 4 := by omega
            refine V_iload_n (i := 3) dX11_colourByCount_92 rfl rfl ?_
            refine V_iload_n (i := 1) dX11_colourByCount_93 rfl rfl ?_
            refine V_icmp_ne_z (tgt := 100) dX11_colourByCount_94 (by decide) (zI_n _) rfl (by omega) (by omega) (by omega) (by omega) (fun h94 => ?_) (fun h94 => ?_)
            · have hne : (rkC S.1.1 i : Int) ≠ x := fun z => h94 z
              refine V_iinc_n (b := ((97 + i) + 1)) dX11_colourByCount_100 rfl (nI_add _ _) rfl rfl ?_
              refine V_goto (tgt := 8) dX11_colourByCount_103 (by decide) ?_
              have k9 := ihO (i + 1) (by omega) (by omega) (fun j hj => (Decidable.em (j = i)).elim (fun e => by rw [e]; exact hne) (fun e => hn j (by omega)))
              rw [← Nat.add_assoc] at k9
              exact k9.sub (by repeat' (first | exact trivial | exact rfl | constructor))
            · have heq : (rkC S.1.1 i : Int) = x := h94
              refine V_iload_n (i := 2) dX11_colourByCount_97 rfl rfl ?_
              refine V_i2c_n dX11_colourByCount_98 (by omega) ?_
              refine V_iret dX11_colourByCount_99 rfl (nar_char (by omega)) ?_
              have ef := fnd_one (f := rkC S.1.1) heq 4 hi8 (fun j hj hx => rkC_inj (C := S.1.1) hj hi8 (by omega))
              have e9 : fColourByCount S x = (0, nI (97 + i), S) := by unfold fColourByCount; rw [ef]
              rw [e9]
              exact ⟨⟨_, rfl, fun _ => rfl⟩, hC.scr (hf.mono (fun b j q => by unfold PScr; omega)), h9, hf.1⟩
          · refine V_aload_n (i := 0) dX11_colourByCount_27 rfl rfl ?_
            refine V_iload dX11_colourByCount_28 rfl ?_
            refine V_iconst_n (v := 0) dX11_colourByCount_30 (by decide) ?_
            refine V_callSF dX11_colourByCount_31 (m_living (q := (97 + j)) (g := 0) (rfl) (rfl) (by omega)) okX11_living lkRX11_135 rfl rfl (Nat.le_of_ble_eq_true rfl) ⟨Nat.le_of_ble_eq_true rfl, Nat.le_of_ble_eq_true rfl⟩ rfl ?_
            refine V_iload dX11_colourByCount_34 rfl ?_
            refine V_bipush_n (v := 9) dX11_colourByCount_36 (by decide) ?_
            refine V_callSF dX11_colourByCount_38 (m_living (q := (97 + j)) (g := 9) (rfl) (rfl) (by omega)) okX11_living lkRX11_135 rfl rfl (Nat.le_of_ble_eq_true rfl) ⟨Nat.le_of_ble_eq_true rfl, Nat.le_of_ble_eq_true rfl⟩ rfl ?_
            refine V_callVF dX11_colourByCount_41 (m_manyOf (hC.1.keep hf (fun k _ => by omega)) (lo := (10 + 10 * ((97 + j) - 97) + 0)) (hi := (10 + 10 * ((97 + j) - 97) + 9)) (by omega) (by omega)) okX11_manyOf lkRX11_118 (Or.inr ⟨rfl, Nat.le_of_ble_eq_true rfl⟩) rfl rfl rfl rfl (Nat.le_of_ble_eq_true rfl) ⟨Nat.le_of_ble_eq_true rfl, Nat.le_of_ble_eq_true rfl⟩ rfl ?_
            refine V_top (y := nI (cnt S.1.1 (97 + j))) (by rw [mny_col (q := 97 + j) hC.1.1 (by omega)]) ?_
            refine V_aload_n (i := 0) dX11_colourByCount_44 rfl rfl ?_
            refine V_iload_n (i := 2) dX11_colourByCount_45 rfl rfl ?_
            refine V_iconst_n (v := 0) dX11_colourByCount_46 (by decide) ?_
            refine V_callSF dX11_colourByCount_47 (m_living (q := (97 + i)) (g := 0) (rfl) (rfl) (by omega)) okX11_living lkRX11_135 rfl rfl (Nat.le_of_ble_eq_true rfl) ⟨Nat.le_of_ble_eq_true rfl, Nat.le_of_ble_eq_true rfl⟩ rfl ?_
            refine V_iload_n (i := 2) dX11_colourByCount_50 rfl rfl ?_
            refine V_bipush_n (v := 9) dX11_colourByCount_51 (by decide) ?_
            refine V_callSF dX11_colourByCount_53 (m_living (q := (97 + i)) (g := 9) (rfl) (rfl) (by omega)) okX11_living lkRX11_135 rfl rfl (Nat.le_of_ble_eq_true rfl) ⟨Nat.le_of_ble_eq_true rfl, Nat.le_of_ble_eq_true rfl⟩ rfl ?_
            refine V_callVF dX11_colourByCount_56 (m_manyOf (hC.1.keep hf (fun k _ => by omega)) (lo := (10 + 10 * ((97 + i) - 97) + 0)) (hi := (10 + 10 * ((97 + i) - 97) + 9)) (by omega) (by omega)) okX11_manyOf lkRX11_118 (Or.inr ⟨rfl, Nat.le_of_ble_eq_true rfl⟩) rfl rfl rfl rfl (Nat.le_of_ble_eq_true rfl) ⟨Nat.le_of_ble_eq_true rfl, Nat.le_of_ble_eq_true rfl⟩ rfl ?_
            refine V_top (y := nI (cnt S.1.1 (97 + i))) (by rw [mny_col (q := 97 + i) hC.1.1 (by omega)]) ?_
            refine V_isub_z dX11_colourByCount_59 (zI_n _) (zI_n _) ?_
            refine V_istore dX11_colourByCount_60 (Nat.le_of_ble_eq_true rfl) rfl rfl ?_
            refine V_iload_n (i := 3) dX11_colourByCount_62 rfl rfl ?_
            refine V_iload dX11_colourByCount_63 rfl ?_
            refine V_if_gt_z (tgt := 79) dX11_colourByCount_65 (by decide) rfl (by omega) (by omega) (fun h65 => ?_) (fun h65 => ?_)
            · have e2 : (if coA S.1.1 j i = true then 1 else 0 : Nat) = 1 := if_pos (hw.mpr (by omega))
              refine V_iconst_n (v := 1) dX11_colourByCount_79 (by decide) ?_
              refine V_goto (tgt := 84) dX11_colourByCount_80 (by decide) ?_
              refine V_iadd_n dX11_colourByCount_84 ?_
              refine V_istore_n (i := 3) dX11_colourByCount_85 rfl (Nat.le_of_ble_eq_true rfl) rfl rfl ?_
              refine V_iinc_n (b := ((97 + j) + 1)) dX11_colourByCount_86 rfl (nI_add _ _) rfl rfl ?_
              refine V_goto (tgt := 20) dX11_colourByCount_89 (by decide) ?_
              have k9 := ihj (j + 1) (by omega) (by omega) hi8 hn
              rw [e1, e2, ← Nat.add_assoc] at k9
              exact k9.sub (by repeat' (first | exact trivial | exact rfl | constructor))
            · refine V_iload dX11_colourByCount_68 rfl ?_
              refine V_if_ne_z (tgt := 83) dX11_colourByCount_70 (by decide) rfl (by omega) (by omega) (fun h70 => ?_) (fun h70 => ?_)
              · have e2 : (if coA S.1.1 j i = true then 1 else 0 : Nat) = 0 := if_neg (fun z => by have := hw.mp z; omega)
                refine V_iconst_n (v := 0) dX11_colourByCount_83 (by decide) ?_
                refine V_iadd_n dX11_colourByCount_84 ?_
                refine V_istore_n (i := 3) dX11_colourByCount_85 rfl (Nat.le_of_ble_eq_true rfl) rfl rfl ?_
                refine V_iinc_n (b := ((97 + j) + 1)) dX11_colourByCount_86 rfl (nI_add _ _) rfl rfl ?_
                refine V_goto (tgt := 20) dX11_colourByCount_89 (by decide) ?_
                have k9 := ihj (j + 1) (by omega) (by omega) hi8 hn
                rw [e1, e2, ← Nat.add_assoc] at k9
                exact k9.sub (by repeat' (first | exact trivial | exact rfl | constructor))
              · refine V_iload dX11_colourByCount_73 rfl ?_
                refine V_iload_n (i := 2) dX11_colourByCount_75 rfl rfl ?_
                refine V_icmp_ge_n (tgt := 83) dX11_colourByCount_76 (by decide) (by omega) (by omega) (fun h76 => ?_) (fun h76 => ?_)
                · have e2 : (if coA S.1.1 j i = true then 1 else 0 : Nat) = 0 := if_neg (fun z => by have := hw.mp z; omega)
                  refine V_iconst_n (v := 0) dX11_colourByCount_83 (by decide) ?_
                  refine V_iadd_n dX11_colourByCount_84 ?_
                  refine V_istore_n (i := 3) dX11_colourByCount_85 rfl (Nat.le_of_ble_eq_true rfl) rfl rfl ?_
                  refine V_iinc_n (b := ((97 + j) + 1)) dX11_colourByCount_86 rfl (nI_add _ _) rfl rfl ?_
                  refine V_goto (tgt := 20) dX11_colourByCount_89 (by decide) ?_
                  have k9 := ihj (j + 1) (by omega) (by omega) hi8 hn
                  rw [e1, e2, ← Nat.add_assoc] at k9
                  exact k9.sub (by repeat' (first | exact trivial | exact rfl | constructor))
                · have e2 : (if coA S.1.1 j i = true then 1 else 0 : Nat) = 1 := if_pos (hw.mpr (by omega))
                  refine V_iconst_n (v := 1) dX11_colourByCount_79 (by decide) ?_
                  refine V_goto (tgt := 84) dX11_colourByCount_80 (by decide) ?_
                  refine V_iadd_n dX11_colourByCount_84 ?_
                  refine V_istore_n (i := 3) dX11_colourByCount_85 rfl (Nat.le_of_ble_eq_true rfl) rfl rfl ?_
                  refine V_iinc_n (b := ((97 + j) + 1)) dX11_colourByCount_86 rfl (nI_add _ _) rfl rfl ?_
                  refine V_goto (tgt := 20) dX11_colourByCount_89 (by decide) ?_
                  have k9 := ihj (j + 1) (by omega) (by omega) hi8 hn
                  rw [e1, e2, ← Nat.add_assoc] at k9
                  exact k9.sub (by repeat' (first | exact trivial | exact rfl | constructor))
      refine V_iload_n (i := 2) dX11_colourByCount_8 rfl rfl ?_
      refine V_bipush_n (v := 100) dX11_colourByCount_9 (by decide) ?_
      refine V_icmp_gt_n (tgt := 106) dX11_colourByCount_11 (by decide) (by omega) (by omega) (fun h11 => ?_) (fun h11 => ?_)
      · refine V_aload_n (i := 0) dX11_colourByCount_106 rfl rfl ?_
        refine V_iconst_n (v := 1) dX11_colourByCount_107 (by decide) ?_
        refine V_callVM dX11_colourByCount_108 (m_throwing (w := _) (n := 1)) okX11_throwing lkRX11_75 (Or.inr ⟨rfl, Nat.le_of_ble_eq_true rfl⟩) rfl rfl rfl rfl (Nat.le_of_ble_eq_true rfl) ⟨Nat.le_of_ble_eq_true rfl, Nat.le_of_ble_eq_true rfl⟩ rfl ?_
        intro u1 hu1
        refine V_i2c dX11_colourByCount_111 ?_
        refine V_iret dX11_colourByCount_112 rfl (nar_char (Nat.mod_lt _ (by decide))) ?_
        obtain rfl : i = 4 := by omega
        have e9 : fColourByCount S x = (1, 0, S) := by unfold fColourByCount; rw [fnd_no 4 hn]
        rw [e9]
        exact ⟨⟨_, rfl, fun q => by simp at q⟩, hC.scr ((hf.mono (Q := PScr) (fun b j q => by unfold PScr; omega)).trans (hu1.2.mono (fun b j q => by unfold PScr; omega))), hu1.1, ((hf.mono (Q := PScr) (fun b j q => by unfold PScr; omega)).trans (hu1.2.mono (fun b j q => by unfold PScr; omega))).1⟩
      · refine V_iconst_n (v := 0) dX11_colourByCount_14 (by decide) ?_
        refine V_istore_n (i := 3) dX11_colourByCount_15 rfl (Nat.le_of_ble_eq_true rfl) rfl rfl ?_
        refine V_bipush_n (v := 97) dX11_colourByCount_16 (by decide) ?_
        refine V_istore dX11_colourByCount_18 (Nat.le_of_ble_eq_true rfl) rfl rfl ?_
        exact (lpj 5 0 (by omega) (by omega) (by omega) hn).sub (by repeat' (first | exact trivial | exact rfl | constructor))
  exact (lpo 5 0 (by omega) (by omega) (fun j hj => by omega)).sub (by repeat' (first | exact trivial | exact rfl | constructor))
def PoMD (k : Nat) (v : UInt64) (S : Sys) (w : Wd) : Out → Wd → Prop := fun o w1 => (∃ x, o = Sum.inl (some (.double x)) ∧ (k = 0 → x = v)) ∧ MI w1 S ∧ gI w1 47 9 = nI k ∧ Fr InMo w w1
def PoMF (k : Nat) (v : UInt32) (S : Sys) (w : Wd) : Out → Wd → Prop := fun o w1 => (∃ x, o = Sum.inl (some (.float x)) ∧ (k = 0 → x = v)) ∧ MI w1 S ∧ gI w1 47 9 = nI k ∧ Fr InMo w w1
set_option maxRecDepth 100000 in
set_option maxHeartbeats 1000000 in
theorem m_meanAge {S : Sys} {w : Wd} (hC : MI w S) : Ct 1 MX11_meanAge 8 0 0 [.ref 47] w (PoMD (fMeanK S) (fMeanV S) S w) := by
  refine Ct_of (by decide +kernel) rfl (Nat.le_of_ble_eq_true rfl) rfl ?_
  have hsa := @sumA_le S.1.1
  have hct := @cnt_two S.1.1
  refine V_aload_n (i := 0) dX11_meanAge_0 rfl rfl ?_
  refine V_iconst_n (v := 0) dX11_meanAge_1 (by decide) ?_
  refine V_putI (k := 9) (ty := .int) dX11_meanAge_2 (Or.inr ⟨rfl, Nat.le_of_ble_eq_true rfl⟩) rfl rfl rfl (Nat.le_of_ble_eq_true rfl) flRX11_66 rfl (by decide +kernel) rfl rfl ?_
  refine V_aload_n (i := 0) dX11_meanAge_5 rfl rfl ?_
  have hq70 := cnt_le (C := S.1.1) (q := 42) (n := 64)
  change cnt S.1.1 42 ≤ 64 at hq70
  refine V_callVF dX11_meanAge_6 (m_livings (hC.1.wr (by decide))) okX11_livings lkRX11_138 (Or.inr ⟨rfl, Nat.le_of_ble_eq_true rfl⟩) rfl rfl rfl rfl (Nat.le_of_ble_eq_true rfl) ⟨Nat.le_of_ble_eq_true rfl, Nat.le_of_ble_eq_true rfl⟩ rfl ?_
  refine V_istore_n (i := 1) dX11_meanAge_9 rfl (Nat.le_of_ble_eq_true rfl) rfl rfl ?_
  refine V_iload_n (i := 1) dX11_meanAge_10 rfl rfl ?_
  refine V_if_ne_n (tgt := 22) dX11_meanAge_11 (by decide) (by omega) (fun h11 => ?_) (fun h11 => ?_)
  · have hnz : ¬ cnt S.1.1 42 = 0 := h11
    have hf : Fz PScr w (pI w 47 9 (nI 0)) := Fz.nil.i1 (by omega) (by unfold PScr; omega)
    have h9 : gI (pI w 47 9 (nI 0)) 47 9 = nI 0 := pI_at
    generalize pI w 47 9 (nI 0) = w1 at *
    have lp : ∀ (fu i : Nat) , i ≤ 64 → 64 - i < fu → V 1 MX11_meanAge 8 0 0 (PoMD (fMeanK S) (fMeanV S) S w) (fun _ _ => True) 0 0 26 [some (.ref 47), some (.int (nI (cnt S.1.1 42))), some (.int (nI (sm (fun k => ag (S.1.1 k)) i))), some (.int (nI i))] [] w1 := by
      intro fu
      induction fu with
      | zero => intro i  h1 h2; omega
      | succ fu ih =>
        intro i  hib hfu
        have e1 : sm (fun k => ag (S.1.1 k)) (i + 1) = sm (fun k => ag (S.1.1 k)) i + ag (S.1.1 i) := rfl
        refine V_iload_n (i := 3) dX11_meanAge_26 rfl rfl ?_
        refine V_bipush_n (v := 64) dX11_meanAge_27 (by decide) ?_
        refine V_icmp_ge_n (tgt := 64) dX11_meanAge_29 (by decide) (by omega) (by omega) (fun h29 => ?_) (fun h29 => ?_)
        · obtain rfl : i = 64 := by omega
          refine V_iload_n (i := 2) dX11_meanAge_64 rfl rfl ?_
          refine V_i2d dX11_meanAge_65 ?_
          refine V_iload_n (i := 1) dX11_meanAge_66 rfl rfl ?_
          refine V_i2d dX11_meanAge_67 ?_
          refine V_ddiv dX11_meanAge_68 (fpt1 (sumA S.1.1) (by omega) (cnt S.1.1 42) (by omega) (by omega)) ?_
          refine V_dret dX11_meanAge_69 rfl ?_
          have ek : fMeanK S = 0 := if_neg hnz
          rw [ek]
          exact ⟨⟨_, rfl, fun _ => rfl⟩, hC.scr hf, h9, hf.1⟩
        · refine V_iload_n (i := 2) dX11_meanAge_32 rfl rfl ?_
          refine V_aload_n (i := 0) dX11_meanAge_33 rfl rfl ?_
          refine V_iload_n (i := 3) dX11_meanAge_34 rfl rfl ?_
          have hv68 := (hC.1.keep hf (fun k _ => by omega)).1.1 (i) (by omega)
          unfold okc at hv68
          refine V_callVF dX11_meanAge_35 (m_isLivingAt (hC.1.keep hf (fun k _ => by omega)) (k := i) (by omega)) okX11_isLivingAt lkRX11_214 (Or.inr ⟨rfl, Nat.le_of_ble_eq_true rfl⟩) rfl rfl rfl rfl (Nat.le_of_ble_eq_true rfl) ⟨Nat.le_of_ble_eq_true rfl, Nat.le_of_ble_eq_true rfl⟩ rfl ?_
          refine V_if_eq_n (tgt := 55) dX11_meanAge_38 (by decide) (Nat.lt_of_lt_of_le ite_le (by decide)) (fun h38 => ?_) (fun h38 => ?_)
          · have hi38 := ite_f h38
            have e2 := ag_0 (v := S.1.1 i) (by omega)
            refine V_iconst_n (v := 0) dX11_meanAge_55 (by decide) ?_
            refine V_iadd_n dX11_meanAge_56 ?_
            refine V_istore_n (i := 2) dX11_meanAge_57 rfl (Nat.le_of_ble_eq_true rfl) rfl rfl ?_
            refine V_iinc_n (b := (i + 1)) dX11_meanAge_58 rfl (nI_add _ _) rfl rfl ?_
            refine V_goto (tgt := 26) dX11_meanAge_61 (by decide) ?_
            have k9 := ih (i + 1) (by omega) (by omega)
            rw [e1, e2] at k9
            exact k9
          · have hi38 := ite_t h38
            have e2 := (kc_in (v := S.1.1 i) (by omega) (by omega)).2.2.2
            refine V_aload_n (i := 0) dX11_meanAge_41 rfl rfl ?_
            refine V_iload_n (i := 3) dX11_meanAge_42 rfl rfl ?_
            have hv69 := (hC.1.keep hf (fun k _ => by omega)).1.1 (i) (by omega)
            unfold okc at hv69
            refine V_callVF dX11_meanAge_43 (m_at (hC.1.keep hf (fun k _ => by omega)) (k := i) (by omega)) okX11_at lkRX11_101 (Or.inr ⟨rfl, Nat.le_of_ble_eq_true rfl⟩) rfl rfl rfl rfl (Nat.le_of_ble_eq_true rfl) ⟨Nat.le_of_ble_eq_true rfl, Nat.le_of_ble_eq_true rfl⟩ rfl ?_
            refine V_bipush_n (v := 10) dX11_meanAge_46 (by decide) ?_
            refine V_isub_n dX11_meanAge_48 (by omega) ?_
            refine V_bipush_n (v := 10) dX11_meanAge_49 (by decide) ?_
            refine V_irem_n dX11_meanAge_51 (by omega) (by omega) (by omega) ?_
            refine V_goto (tgt := 56) dX11_meanAge_52 (by decide) ?_
            refine V_iadd_n dX11_meanAge_56 ?_
            refine V_istore_n (i := 2) dX11_meanAge_57 rfl (Nat.le_of_ble_eq_true rfl) rfl rfl ?_
            refine V_iinc_n (b := (i + 1)) dX11_meanAge_58 rfl (nI_add _ _) rfl rfl ?_
            refine V_goto (tgt := 26) dX11_meanAge_61 (by decide) ?_
            have k9 := ih (i + 1) (by omega) (by omega)
            rw [e1, e2] at k9
            exact k9
    refine V_iconst_n (v := 0) dX11_meanAge_22 (by decide) ?_
    refine V_istore_n (i := 2) dX11_meanAge_23 rfl (Nat.le_of_ble_eq_true rfl) rfl rfl ?_
    refine V_iconst_n (v := 0) dX11_meanAge_24 (by decide) ?_
    refine V_istore_n (i := 3) dX11_meanAge_25 rfl (Nat.le_of_ble_eq_true rfl) rfl rfl ?_
    exact lp 65 0 (by omega) (by omega)
  · refine V_aload_n (i := 0) dX11_meanAge_14 rfl rfl ?_
    refine V_iconst_n (v := 1) dX11_meanAge_15 (by decide) ?_
    refine V_callVM dX11_meanAge_16 (m_throwing (w := _) (n := 1)) okX11_throwing lkRX11_75 (Or.inr ⟨rfl, Nat.le_of_ble_eq_true rfl⟩) rfl rfl rfl rfl (Nat.le_of_ble_eq_true rfl) ⟨Nat.le_of_ble_eq_true rfl, Nat.le_of_ble_eq_true rfl⟩ rfl ?_
    intro u1 hu1
    refine V_pop dX11_meanAge_19 rfl ?_
    refine V_dconst0 dX11_meanAge_20 ?_
    refine V_dret dX11_meanAge_21 rfl ?_
    have ek : fMeanK S = 1 := if_pos h11
    rw [ek]
    exact ⟨⟨_, rfl, fun q => by simp at q⟩, hC.scr (((Fz.nil (P := PScr)).i1 (by omega) (by unfold PScr; omega)).trans (hu1.2.mono (fun b j q => by unfold PScr; omega))), hu1.1, (((Fz.nil (P := PScr)).i1 (by omega) (by unfold PScr; omega)).trans (hu1.2.mono (fun b j q => by unfold PScr; omega))).1⟩
set_option maxRecDepth 100000 in
set_option maxHeartbeats 1000000 in
theorem m_livingShare {S : Sys} {w : Wd} (hC : MI w S) : Ct 1 MX11_livingShare 8 0 0 [.ref 47] w (PoMF (fShareK S) (fShareV S) S w) := by
  refine Ct_of (by decide +kernel) rfl (Nat.le_of_ble_eq_true rfl) rfl ?_
  have hsa := @sumA_le S.1.1
  have hct := @cnt_two S.1.1
  refine V_aload_n (i := 0) dX11_livingShare_0 rfl rfl ?_
  refine V_iconst_n (v := 0) dX11_livingShare_1 (by decide) ?_
  refine V_putI (k := 9) (ty := .int) dX11_livingShare_2 (Or.inr ⟨rfl, Nat.le_of_ble_eq_true rfl⟩) rfl rfl rfl (Nat.le_of_ble_eq_true rfl) flRX11_66 rfl (by decide +kernel) rfl rfl ?_
  refine V_aload_n (i := 0) dX11_livingShare_5 rfl rfl ?_
  have hq71 := cnt_le (C := S.1.1) (q := 42) (n := 64)
  change cnt S.1.1 42 ≤ 64 at hq71
  refine V_callVF dX11_livingShare_6 (m_livings (hC.1.wr (by decide))) okX11_livings lkRX11_138 (Or.inr ⟨rfl, Nat.le_of_ble_eq_true rfl⟩) rfl rfl rfl rfl (Nat.le_of_ble_eq_true rfl) ⟨Nat.le_of_ble_eq_true rfl, Nat.le_of_ble_eq_true rfl⟩ rfl ?_
  refine V_aload_n (i := 0) dX11_livingShare_9 rfl rfl ?_
  have hq72 := cnt_le (C := S.1.1) (q := 35) (n := 64)
  change cnt S.1.1 35 ≤ 64 at hq72
  refine V_callVF dX11_livingShare_10 (m_bleacheds (hC.1.wr (by decide))) okX11_bleacheds lkRX11_154 (Or.inr ⟨rfl, Nat.le_of_ble_eq_true rfl⟩) rfl rfl rfl rfl (Nat.le_of_ble_eq_true rfl) ⟨Nat.le_of_ble_eq_true rfl, Nat.le_of_ble_eq_true rfl⟩ rfl ?_
  refine V_iadd_n dX11_livingShare_13 ?_
  refine V_istore_n (i := 1) dX11_livingShare_14 rfl (Nat.le_of_ble_eq_true rfl) rfl rfl ?_
  refine V_iload_n (i := 1) dX11_livingShare_15 rfl rfl ?_
  refine V_if_ne_n (tgt := 27) dX11_livingShare_16 (by decide) (by omega) (fun h16 => ?_) (fun h16 => ?_)
  · refine V_aload_n (i := 0) dX11_livingShare_27 rfl rfl ?_
    have hq73 := cnt_le (C := S.1.1) (q := 42) (n := 64)
    change cnt S.1.1 42 ≤ 64 at hq73
    refine V_callVF dX11_livingShare_28 (m_livings (hC.1.wr (by decide))) okX11_livings lkRX11_138 (Or.inr ⟨rfl, Nat.le_of_ble_eq_true rfl⟩) rfl rfl rfl rfl (Nat.le_of_ble_eq_true rfl) ⟨Nat.le_of_ble_eq_true rfl, Nat.le_of_ble_eq_true rfl⟩ rfl ?_
    refine V_i2f dX11_livingShare_31 ?_
    refine V_iload_n (i := 1) dX11_livingShare_32 rfl rfl ?_
    refine V_i2f dX11_livingShare_33 ?_
    refine V_fdiv dX11_livingShare_34 (fpt2 (cnt S.1.1 42) (by omega) (cnt S.1.1 42 + cnt S.1.1 35) (by omega) (by omega)) ?_
    refine V_fret dX11_livingShare_35 rfl ?_
    have ek : fShareK S = 0 := if_neg h16
    rw [ek]
    exact ⟨⟨_, rfl, fun _ => rfl⟩, hC.scr ((Fz.nil (P := PScr)).i1 (by omega) (by unfold PScr; omega)), pI_at, ((Fz.nil (P := PScr)).i1 (by omega) (by unfold PScr; omega)).1⟩
  · refine V_aload_n (i := 0) dX11_livingShare_19 rfl rfl ?_
    refine V_iconst_n (v := 1) dX11_livingShare_20 (by decide) ?_
    refine V_callVM dX11_livingShare_21 (m_throwing (w := _) (n := 1)) okX11_throwing lkRX11_75 (Or.inr ⟨rfl, Nat.le_of_ble_eq_true rfl⟩) rfl rfl rfl rfl (Nat.le_of_ble_eq_true rfl) ⟨Nat.le_of_ble_eq_true rfl, Nat.le_of_ble_eq_true rfl⟩ rfl ?_
    intro u1 hu1
    refine V_pop dX11_livingShare_24 rfl ?_
    refine V_fconst0 dX11_livingShare_25 ?_
    refine V_fret dX11_livingShare_26 rfl ?_
    have ek : fShareK S = 1 := if_pos h16
    rw [ek]
    exact ⟨⟨_, rfl, fun q => by simp at q⟩, hC.scr (((Fz.nil (P := PScr)).i1 (by omega) (by unfold PScr; omega)).trans (hu1.2.mono (fun b j q => by unfold PScr; omega))), hu1.1, (((Fz.nil (P := PScr)).i1 (by omega) (by unfold PScr; omega)).trans (hu1.2.mono (fun b j q => by unfold PScr; omega))).1⟩
end MMF3
