/-! THE PLAIN FORM: the commands read, in whole. Printed by wip/whole/gen/mk39.py. -/
section MMPAR2
theorem lk_0 {l : List Nat} {p t : Nat} (hl : 0 < (tx t).length) (h : ¬ sg l p = (tx t).getD 0 0) : lk l p t = 0 := lk_stop hl rfl h
def rwC (x : Nat) : Nat := if x = 99 then 0 else if x = 98 then 1 else 2
theorem rwC_lt {x : Nat} : rwC x < 3 := by unfold rwC; split <;> (try split) <;> omega
theorem rw_lkM {l : List Nat} {p : Nat} : lkM l p 1100 3 = lk l p (1100 + rwC (sg l p)) := by
  have e : lkM l p 1100 3 = max (max (max 0 (lk l p 1100)) (lk l p 1101)) (lk l p 1102) := rfl
  rw [e]
  unfold rwC
  by_cases h0 : sg l p = 99
  · rw [if_pos h0, lk_0 (t := 1101) (by decide) (by rw [h0]; decide), lk_0 (t := 1102) (by decide) (by rw [h0]; decide)]
    show _ = lk l p 1100
    omega
  · have z0 : lk l p 1100 = 0 := lk_0 (by decide) h0
    rw [if_neg h0]
    by_cases h1 : sg l p = 98
    · rw [if_pos h1, lk_0 (t := 1102) (by decide) (by rw [h1]; decide)]
      show _ = lk l p 1101
      omega
    · have z1 : lk l p 1101 = 0 := lk_0 (by decide) h1
      rw [if_neg h1]
      show _ = lk l p 1102
      omega
theorem rw_lkF {l : List Nat} {p : Nat} : lkF l p 1100 3 = if lk l p (1100 + rwC (sg l p)) = 4 then some (rwC (sg l p)) else none := by
  have e : lkF l p 1100 3 = if lk l p 1102 = 4 then some 2 else if lk l p 1101 = 4 then some 1 else if lk l p 1100 = 4 then some 0 else none := rfl
  rw [e]
  unfold rwC
  by_cases h0 : sg l p = 99
  · rw [if_pos h0, lk_0 (t := 1101) (by decide) (by rw [h0]; decide), lk_0 (t := 1102) (by decide) (by rw [h0]; decide)]
    rfl
  · have z0 : lk l p 1100 = 0 := lk_0 (by decide) h0
    rw [if_neg h0, z0]
    by_cases h1 : sg l p = 98
    · rw [if_pos h1, lk_0 (t := 1102) (by decide) (by rw [h1]; decide)]
      rfl
    · have z1 : lk l p 1101 = 0 := lk_0 (by decide) h1
      rw [if_neg h1, z1]
      rfl
set_option maxRecDepth 100000 in
set_option maxHeartbeats 1000000 in
theorem m_ruleWord {l : List Nat} {p : Nat} {w : Wd} (hW : PW w l p 0) : Ct 1 MX11_ruleWord 4 0 0 [.ref 47] w (fun o w1 => ((lkF l p 1100 3).isSome = true ∧ o = Sum.inl (some (Value.int (nI (rlL ((lkF l p 1100 3).getD 0))))) ∧ PW w1 l (p + lkM l p 1100 3) 0 ∧ Fz PPr w w1) ∨ (∃ x9 : Nat, (lkF l p 1100 3).isSome = false ∧ o = Sum.inl (some (Value.int (nI x9))) ∧ PW w1 l (p + lkM l p 1100 3) 1 ∧ Fz PPr w w1)) := by
  refine Ct_of (by decide +kernel) rfl (Nat.le_of_ble_eq_true rfl) rfl ?_
  have hlo := hW.2.1.1
  have hpl := hW.2.2.1.2
  have lpW : ∀ (fu i : Nat) (r : Nat) (w1 : Wd), i ≤ 4 → 4 - i < fu → r < 3 → r = rwC (sg l p) → lk l p (1100 + r) < 4 → PW w1 l (p + lk l p (1100 + r)) 1 → Fz PPr w w1 → V 1 MX11_ruleWord 4 0 0 (fun o w1 => ((lkF l p 1100 3).isSome = true ∧ o = Sum.inl (some (Value.int (nI (rlL ((lkF l p 1100 3).getD 0))))) ∧ PW w1 l (p + lkM l p 1100 3) 0 ∧ Fz PPr w w1) ∨ (∃ x9 : Nat, (lkF l p 1100 3).isSome = false ∧ o = Sum.inl (some (Value.int (nI x9))) ∧ PW w1 l (p + lkM l p 1100 3) 1 ∧ Fz PPr w w1)) (fun _ _ => True) 0 0 30 [some (.ref 47), some (.int (nI r)), some (.int (nI i))] [] w1 := by
    intro fu
    induction fu with
    | zero => intro i r w1 h1 h2; omega
    | succ fu ihW =>
      intro i r w1 hib hfu hr hrc hl4 hW1 hf
      refine V_iload_n (i := 2) dX11_ruleWord_30 rfl rfl ?_
      refine V_iconst_n (v := 4) dX11_ruleWord_31 (by decide) ?_
      refine V_icmp_ge_n (tgt := 55) dX11_ruleWord_32 (by decide) (by omega) (by omega) (fun h32 => ?_) (fun h32 => ?_)
      · refine V_iload_n (i := 1) dX11_ruleWord_55 rfl rfl ?_
        have hl80 := @rl_lt r
        refine V_callSF dX11_ruleWord_56 (m_letterOf (r := r) (by omega)) okX11_letterOf lkRX11_173 rfl rfl (Nat.le_of_ble_eq_true rfl) ⟨Nat.le_of_ble_eq_true rfl, Nat.le_of_ble_eq_true rfl⟩ rfl ?_
        refine V_iret dX11_ruleWord_59 rfl rfl ?_
        have hF : lkF l p 1100 3 = none := by rw [rw_lkF, ← hrc, if_neg (by omega)]
        exact Or.inr ⟨rlL r, by rw [hF]; rfl, rfl, by rw [rw_lkM, ← hrc]; exact hW1, hf⟩
      · have hwd := wd_tx hr i (by omega)
        refine V_aload_n (i := 0) dX11_ruleWord_35 rfl rfl ?_
        refine V_aload_n (i := 0) dX11_ruleWord_36 rfl rfl ?_
        refine V_getC (k := 24) (q := 61) dX11_ruleWord_37 (Or.inr ⟨rfl, Nat.le_of_ble_eq_true rfl⟩) rfl rfl rfl (Nat.le_of_ble_eq_true rfl) flRX11_53 ?_
        refine V_iconst_n (v := 4) dX11_ruleWord_40 (by decide) ?_
        refine V_iload_n (i := 1) dX11_ruleWord_41 rfl rfl ?_
        refine V_imul_n dX11_ruleWord_42 ?_
        refine V_iload_n (i := 2) dX11_ruleWord_43 rfl rfl ?_
        refine V_iadd_n dX11_ruleWord_44 ?_
        refine V_cald_n (i := ((4 * r) + i)) dX11_ruleWord_45 (Or.inr ⟨rfl, Nat.le_of_ble_eq_true rfl⟩) rfl (by omega) (by decide) ?_
        refine V_top (y := nI (wdT.getD ((4 * r) + i) 0)) (hW1.2.2.2.2.2.2.2.1 _ (by omega)) ?_
        refine V_callVM dX11_ruleWord_46 (m_expects1 hW1) okX11_expects lkRX11_280 (Or.inr ⟨rfl, Nat.le_of_ble_eq_true rfl⟩) rfl rfl rfl rfl (Nat.le_of_ble_eq_true rfl) ⟨Nat.le_of_ble_eq_true rfl, Nat.le_of_ble_eq_true rfl⟩ rfl ?_
        intro u1 hu1
        refine V_iinc_n (b := (i + 1)) dX11_ruleWord_49 rfl (nI_add _ _) rfl rfl ?_
        refine V_goto (tgt := 30) dX11_ruleWord_52 (by decide) ?_
        exact ihW (i + 1) r _ (by omega) (by omega) hr hrc hl4 hu1.1 (hf.trans (hu1.2.mono (fun b j q => by unfold PPr; omega)))
  have lpG : ∀ (fu i : Nat) (r : Nat) (w1 : Wd), i ≤ 4 → 4 - i < fu → r < 3 → r = rwC (sg l p) → mtc l p (tx (1100 + r)) i = i → PW w1 l (p + i) 0 → Fz PPr w w1 → V 1 MX11_ruleWord 4 0 0 (fun o w1 => ((lkF l p 1100 3).isSome = true ∧ o = Sum.inl (some (Value.int (nI (rlL ((lkF l p 1100 3).getD 0))))) ∧ PW w1 l (p + lkM l p 1100 3) 0 ∧ Fz PPr w w1) ∨ (∃ x9 : Nat, (lkF l p 1100 3).isSome = false ∧ o = Sum.inl (some (Value.int (nI x9))) ∧ PW w1 l (p + lkM l p 1100 3) 1 ∧ Fz PPr w w1)) (fun _ _ => True) 0 0 30 [some (.ref 47), some (.int (nI r)), some (.int (nI i))] [] w1 := by
    intro fu
    induction fu with
    | zero => intro i r w1 h1 h2; omega
    | succ fu ihG =>
      intro i r w1 hib hfu hr hrc hmt hW1 hf
      refine V_iload_n (i := 2) dX11_ruleWord_30 rfl rfl ?_
      refine V_iconst_n (v := 4) dX11_ruleWord_31 (by decide) ?_
      refine V_icmp_ge_n (tgt := 55) dX11_ruleWord_32 (by decide) (by omega) (by omega) (fun h32 => ?_) (fun h32 => ?_)
      · refine V_iload_n (i := 1) dX11_ruleWord_55 rfl rfl ?_
        have hl81 := @rl_lt r
        refine V_callSF dX11_ruleWord_56 (m_letterOf (r := r) (by omega)) okX11_letterOf lkRX11_173 rfl rfl (Nat.le_of_ble_eq_true rfl) ⟨Nat.le_of_ble_eq_true rfl, Nat.le_of_ble_eq_true rfl⟩ rfl ?_
        refine V_iret dX11_ruleWord_59 rfl rfl ?_
        obtain rfl : i = 4 := by omega
        have hlk : lk l p (1100 + r) = 4 := by unfold lk; rw [rlT_len hr]; exact hmt
        have hF : lkF l p 1100 3 = some r := by rw [rw_lkF, ← hrc, if_pos hlk]
        exact Or.inl ⟨by rw [hF]; rfl, by rw [hF]; rfl, by rw [rw_lkM, ← hrc, hlk]; exact hW1, hf⟩
      · have hwd := wd_tx hr i (by omega)
        have hln := rlT_len hr
        have htp := tx_pos (rl_T hr) i (by omega)
        refine V_aload_n (i := 0) dX11_ruleWord_35 rfl rfl ?_
        refine V_aload_n (i := 0) dX11_ruleWord_36 rfl rfl ?_
        refine V_getC (k := 24) (q := 61) dX11_ruleWord_37 (Or.inr ⟨rfl, Nat.le_of_ble_eq_true rfl⟩) rfl rfl rfl (Nat.le_of_ble_eq_true rfl) flRX11_53 ?_
        refine V_iconst_n (v := 4) dX11_ruleWord_40 (by decide) ?_
        refine V_iload_n (i := 1) dX11_ruleWord_41 rfl rfl ?_
        refine V_imul_n dX11_ruleWord_42 ?_
        refine V_iload_n (i := 2) dX11_ruleWord_43 rfl rfl ?_
        refine V_iadd_n dX11_ruleWord_44 ?_
        refine V_cald_n (i := ((4 * r) + i)) dX11_ruleWord_45 (Or.inr ⟨rfl, Nat.le_of_ble_eq_true rfl⟩) rfl (by omega) (by decide) ?_
        refine V_top (y := nI (wdT.getD ((4 * r) + i) 0)) (hW1.2.2.2.2.2.2.2.1 _ (by omega)) ?_
        refine V_callV dX11_ruleWord_46 (m_expects0 (c := (wdT.getD ((4 * r) + i) 0)) hW1 (by omega) (by omega)) okX11_expects lkRX11_280 (Or.inr ⟨rfl, Nat.le_of_ble_eq_true rfl⟩) rfl rfl rfl rfl (Nat.le_of_ble_eq_true rfl) ⟨Nat.le_of_ble_eq_true rfl, Nat.le_of_ble_eq_true rfl⟩ rfl ⟨Nat.zero_le _, Nat.zero_le _⟩ (fun v9 u1 hu1 => ?_) (fun E9 w9 h9 => by rcases h9 with h9 | h9 <;> cases h9.2.1)
        rcases hu1 with ⟨hu1f, e9, hu1⟩ | ⟨hu1f, e9, hu1⟩
        · cases e9
          refine V_iinc_n (b := (i + 1)) dX11_ruleWord_49 rfl (nI_add _ _) rfl rfl ?_
          refine V_goto (tgt := 30) dX11_ruleWord_52 (by decide) ?_
          exact ihG (i + 1) r _ (by omega) (by omega) hr hrc (by rw [mtc_s, if_pos ⟨hmt, by rw [← hwd.1]; exact hu1f⟩]) hu1.1 (hf.trans (hu1.2.mono (fun b j q => by unfold PPr; omega)))
        · cases e9
          refine V_iinc_n (b := (i + 1)) dX11_ruleWord_49 rfl (nI_add _ _) rfl rfl ?_
          refine V_goto (tgt := 30) dX11_ruleWord_52 (by decide) ?_
          have hlk : lk l p (1100 + r) = i := lk_stop (by omega) hmt (by rw [← hwd.1]; exact hu1f)
          exact lpW 5 (i + 1) r _ (by omega) (by omega) hr hrc (by omega) (by rw [hlk]; exact hu1.1) (hf.trans (hu1.2.mono (fun b j q => by unfold PPr; omega)))
  refine V_aload_n (i := 0) dX11_ruleWord_0 rfl rfl ?_
  have hsg82 := hr_sg (p := p) hW.2.1.2
  refine V_callVF dX11_ruleWord_1 (m_here hW) okX11_here lkRX11_270 (Or.inr ⟨rfl, Nat.le_of_ble_eq_true rfl⟩) rfl rfl rfl rfl (Nat.le_of_ble_eq_true rfl) ⟨Nat.le_of_ble_eq_true rfl, Nat.le_of_ble_eq_true rfl⟩ rfl ?_
  refine V_bipush_n (v := 99) dX11_ruleWord_4 (by decide) ?_
  refine V_icmp_ne_z (tgt := 13) dX11_ruleWord_6 (by decide) rfl (zI_n _) (by omega) (by omega) (by omega) (by omega) (fun h6 => ?_) (fun h6 => ?_)
  · refine V_aload_n (i := 0) dX11_ruleWord_13 rfl rfl ?_
    have hsg83 := hr_sg (p := p) hW.2.1.2
    refine V_callVF dX11_ruleWord_14 (m_here hW) okX11_here lkRX11_270 (Or.inr ⟨rfl, Nat.le_of_ble_eq_true rfl⟩) rfl rfl rfl rfl (Nat.le_of_ble_eq_true rfl) ⟨Nat.le_of_ble_eq_true rfl, Nat.le_of_ble_eq_true rfl⟩ rfl ?_
    refine V_bipush_n (v := 98) dX11_ruleWord_17 (by decide) ?_
    refine V_icmp_ne_z (tgt := 26) dX11_ruleWord_19 (by decide) rfl (zI_n _) (by omega) (by omega) (by omega) (by omega) (fun h19 => ?_) (fun h19 => ?_)
    · refine V_iconst_n (v := 2) dX11_ruleWord_26 (by decide) ?_
      refine V_istore_n (i := 1) dX11_ruleWord_27 rfl (Nat.le_of_ble_eq_true rfl) rfl rfl ?_
      refine V_iconst_n (v := 0) dX11_ruleWord_28 (by decide) ?_
      refine V_istore_n (i := 2) dX11_ruleWord_29 rfl (Nat.le_of_ble_eq_true rfl) rfl rfl ?_
      exact lpG 5 0 2 w (by omega) (by omega) (by decide) (by unfold rwC; rw [if_neg (by omega), if_neg (by omega)]) rfl hW Fz.nil
    · refine V_iconst_n (v := 1) dX11_ruleWord_22 (by decide) ?_
      refine V_goto (tgt := 27) dX11_ruleWord_23 (by decide) ?_
      refine V_istore_n (i := 1) dX11_ruleWord_27 rfl (Nat.le_of_ble_eq_true rfl) rfl rfl ?_
      refine V_iconst_n (v := 0) dX11_ruleWord_28 (by decide) ?_
      refine V_istore_n (i := 2) dX11_ruleWord_29 rfl (Nat.le_of_ble_eq_true rfl) rfl rfl ?_
      exact lpG 5 0 1 w (by omega) (by omega) (by decide) (by unfold rwC; rw [if_neg (by omega), if_pos (by omega)]) rfl hW Fz.nil
  · refine V_iconst_n (v := 0) dX11_ruleWord_9 (by decide) ?_
    refine V_goto (tgt := 27) dX11_ruleWord_10 (by decide) ?_
    refine V_istore_n (i := 1) dX11_ruleWord_27 rfl (Nat.le_of_ble_eq_true rfl) rfl rfl ?_
    refine V_iconst_n (v := 0) dX11_ruleWord_28 (by decide) ?_
    refine V_istore_n (i := 2) dX11_ruleWord_29 rfl (Nat.le_of_ble_eq_true rfl) rfl rfl ?_
    exact lpG 5 0 0 w (by omega) (by omega) (by decide) (by unfold rwC; rw [if_pos (by omega)]) rfl hW Fz.nil
def CmA (w : Wd) (o v : Nat) (c : Cmd) : Prop := gI w 64 o = nI c.1 ∧ (v < 5 → gI w 64 (o + 1) = nI c.2.1) ∧ (v = 0 ∨ v = 3 ∨ v = 4 → gI w 64 (o + 2) = nI c.2.2.1) ∧ (v = 4 → gI w 64 (o + 3) = nI c.2.2.2)
def agB (l : List Nat) (v p : Nat) : Nat := if agO l v p = true then 0 else 1
abbrev PAr (t b j : Nat) : Prop := (b = 47 ∧ (j = 29 ∨ j = 31)) ∨ (b = 64 ∧ t ≤ j)
theorem pt_hr {l : List Nat} {p : Nat} (h : ∀ i, i < l.length → 32 ≤ l.getD i 0 ∧ l.getD i 0 ≤ 126) : (ptZ (hrZ l p) = -1 ∧ isP (sg l p) = false) ∨ (¬ ptZ (hrZ l p) = -1 ∧ isP (sg l p) = true ∧ p < l.length) := by
  rcases hr_sg (p := p) h with ⟨h1, h2, h3, h4⟩ | ⟨h1, h2, h3⟩
  · rw [h2]
    cases e : isP (sg l p) with
    | true => have := ptZ_P e; exact Or.inr ⟨by omega, rfl, h1⟩
    | false => exact Or.inl ⟨ptZ_no e, rfl⟩
  · rw [h2, h3]
    exact Or.inl ⟨by decide, by decide⟩
theorem col_hr {l : List Nat} {p : Nat} (h : ∀ i, i < l.length → 32 ≤ l.getD i 0 ∧ l.getD i 0 ≤ 126) : ((97 ≤ hrZ l p ∧ hrZ l p ≤ 100) ∧ isC (sg l p) = true ∧ p < l.length) ∨ (¬ (97 ≤ hrZ l p ∧ hrZ l p ≤ 100) ∧ isC (sg l p) = false) := by
  rcases hr_sg (p := p) h with ⟨h1, h2, h3, h4⟩ | ⟨h1, h2, h3⟩
  · by_cases e : 97 ≤ sg l p ∧ sg l p ≤ 100
    · exact Or.inl ⟨by omega, isC_iff.mpr e, h1⟩
    · exact Or.inr ⟨by omega, isC_no e⟩
  · exact Or.inr ⟨by omega, by rw [h3]; decide⟩
set_option maxRecDepth 100000 in
set_option maxHeartbeats 1000000 in
theorem m_readArguments {v t : Nat} {l : List Nat} {p : Nat} {w : Wd} (hW : PW w l p 0) (hv : v < 7) (ht : t + 3 < 305) : Ct 1 MX11_readArguments 6 0 0 [.ref 47, .int (nI v), .int (nI t)] w (Mt none fun w1 => PW w1 l (agP l v p) (agB l v p) ∧ (agO l v p = true → CmA w1 t v (agC l v p)) ∧ Fz (PAr t) w w1) := by
  refine Ct_of (by decide +kernel) rfl (Nat.le_of_ble_eq_true rfl) rfl ?_
  have hlo := hW.2.1.1
  have hpl := hW.2.2.1.2
  rcases (show v = 0 ∨ v = 1 ∨ v = 2 ∨ v = 3 ∨ v = 4 ∨ v = 5 ∨ v = 6 by omega) with rfl | rfl | rfl | rfl | rfl | rfl | rfl
  · refine V_iload_n (i := 1) dX11_readArguments_0 rfl rfl ?_
    refine V_iconst_n (v := 5) dX11_readArguments_1 (by decide) ?_
    refine V_icmp_ne_n (tgt := 18) dX11_readArguments_2 (by decide) (by omega) (by omega) (fun h2 => ?_) (fun h2 => by exfalso; omega)
    refine V_iload_n (i := 1) dX11_readArguments_18 rfl rfl ?_
    refine V_bipush_n (v := 6) dX11_readArguments_19 (by decide) ?_
    refine V_icmp_ne_n (tgt := 37) dX11_readArguments_21 (by decide) (by omega) (by omega) (fun h21 => ?_) (fun h21 => by exfalso; omega)
    refine V_aload_n (i := 0) dX11_readArguments_37 rfl rfl ?_
    refine V_getC (k := 27) (q := 64) dX11_readArguments_38 (Or.inr ⟨rfl, Nat.le_of_ble_eq_true rfl⟩) rfl rfl rfl (Nat.le_of_ble_eq_true rfl) flRX11_63 ?_
    refine V_iload_n (i := 2) dX11_readArguments_41 rfl rfl ?_
    refine V_aload_n (i := 0) dX11_readArguments_42 rfl rfl ?_
    refine V_callV dX11_readArguments_43 (m_digit0 hW) okX11_digit lkRX11_277 (Or.inr ⟨rfl, Nat.le_of_ble_eq_true rfl⟩) rfl rfl rfl rfl (Nat.le_of_ble_eq_true rfl) ⟨Nat.le_of_ble_eq_true rfl, Nat.le_of_ble_eq_true rfl⟩ rfl ⟨Nat.zero_le _, Nat.zero_le _⟩ (fun v9 u1 hu1 => ?_) (fun E9 w9 h9 => by rcases h9 with h9 | h9 <;> cases h9.2.1)
    rcases hu1 with ⟨hu1f, e9, hu1⟩ | ⟨hu1f, e9, hu1⟩
    · cases e9
      have d09 : isD (sg l p) = true := hu1f
      have hpl09 : (p + 1) ≤ l.length := hu1.1.2.2.1.2
      refine V_iast_n (i := t) dX11_readArguments_46 (Or.inr ⟨rfl, Nat.le_of_ble_eq_true rfl⟩) rfl (by omega) (by decide) ?_
      refine V_aload_n (i := 0) dX11_readArguments_47 rfl rfl ?_
      refine V_getC (k := 27) (q := 64) dX11_readArguments_48 (Or.inr ⟨rfl, Nat.le_of_ble_eq_true rfl⟩) rfl rfl rfl (Nat.le_of_ble_eq_true rfl) flRX11_63 ?_
      refine V_iload_n (i := 2) dX11_readArguments_51 rfl rfl ?_
      refine V_iconst_n (v := 1) dX11_readArguments_52 (by decide) ?_
      refine V_iadd_n dX11_readArguments_53 ?_
      refine V_aload_n (i := 0) dX11_readArguments_54 rfl rfl ?_
      refine V_callV dX11_readArguments_55 (m_digit0 (hu1.1.wr (by omega))) okX11_digit lkRX11_277 (Or.inr ⟨rfl, Nat.le_of_ble_eq_true rfl⟩) rfl rfl rfl rfl (Nat.le_of_ble_eq_true rfl) ⟨Nat.le_of_ble_eq_true rfl, Nat.le_of_ble_eq_true rfl⟩ rfl ⟨Nat.zero_le _, Nat.zero_le _⟩ (fun v9 u2 hu2 => ?_) (fun E9 w9 h9 => by rcases h9 with h9 | h9 <;> cases h9.2.1)
      rcases hu2 with ⟨hu2f, e9, hu2⟩ | ⟨hu2f, e9, hu2⟩
      · cases e9
        have d19 : isD (sg l (p + 1)) = true := hu2f
        have hpl19 : (p + 2) ≤ l.length := hu2.1.2.2.1.2
        refine V_iast_n (i := (t + 1)) dX11_readArguments_58 (Or.inr ⟨rfl, Nat.le_of_ble_eq_true rfl⟩) rfl (by omega) (by decide) ?_
        refine V_iload_n (i := 1) dX11_readArguments_59 rfl rfl ?_
        refine V_if_eq_n (tgt := 73) dX11_readArguments_60 (by decide) (by omega) (fun h60 => ?_) (fun h60 => by exfalso; omega)
        refine V_aload_n (i := 0) dX11_readArguments_73 rfl rfl ?_
        refine V_bipush_n (v := 32) dX11_readArguments_74 (by decide) ?_
        refine V_callV dX11_readArguments_76 (m_expects0 (c := 32) (hu2.1.wr (by omega)) (by omega) (by omega)) okX11_expects lkRX11_280 (Or.inr ⟨rfl, Nat.le_of_ble_eq_true rfl⟩) rfl rfl rfl rfl (Nat.le_of_ble_eq_true rfl) ⟨Nat.le_of_ble_eq_true rfl, Nat.le_of_ble_eq_true rfl⟩ rfl ⟨Nat.zero_le _, Nat.zero_le _⟩ (fun v9 u3 hu3 => ?_) (fun E9 w9 h9 => by rcases h9 with h9 | h9 <;> cases h9.2.1)
        rcases hu3 with ⟨hu3f, e9, hu3⟩ | ⟨hu3f, e9, hu3⟩
        · cases e9
          have s29 : sg l (p + 2) = 32 := hu3f
          have hpl29 : (p + 3) ≤ l.length := hu3.1.2.2.1.2
          refine V_aload_n (i := 0) dX11_readArguments_79 rfl rfl ?_
          refine V_getC (k := 27) (q := 64) dX11_readArguments_80 (Or.inr ⟨rfl, Nat.le_of_ble_eq_true rfl⟩) rfl rfl rfl (Nat.le_of_ble_eq_true rfl) flRX11_63 ?_
          refine V_iload_n (i := 2) dX11_readArguments_83 rfl rfl ?_
          refine V_iconst_n (v := 2) dX11_readArguments_84 (by decide) ?_
          refine V_iadd_n dX11_readArguments_85 ?_
          refine V_iload_n (i := 1) dX11_readArguments_86 rfl rfl ?_
          refine V_iconst_n (v := 4) dX11_readArguments_87 (by decide) ?_
          refine V_icmp_ne_n (tgt := 114) dX11_readArguments_88 (by decide) (by omega) (by omega) (fun h88 => ?_) (fun h88 => by exfalso; omega)
          refine V_aload_n (i := 0) dX11_readArguments_114 rfl rfl ?_
          refine V_aload_n (i := 0) dX11_readArguments_115 rfl rfl ?_
          have hsg84 := hr_sg (p := (p + 3)) hW.2.1.2
          refine V_callVF dX11_readArguments_116 (m_here hu3.1) okX11_here lkRX11_270 (Or.inr ⟨rfl, Nat.le_of_ble_eq_true rfl⟩) rfl rfl rfl rfl (Nat.le_of_ble_eq_true rfl) ⟨Nat.le_of_ble_eq_true rfl, Nat.le_of_ble_eq_true rfl⟩ rfl ?_
          refine V_callSF dX11_readArguments_119 (m_isColour (q := (hrZ l (p + 3))) rfl (by omega) (by omega)) okX11_isColour lkRX11_127 rfl rfl (Nat.le_of_ble_eq_true rfl) ⟨Nat.le_of_ble_eq_true rfl, Nat.le_of_ble_eq_true rfl⟩ rfl ?_
          rcases col_hr (l := l) (p := (p + 3)) hW.2.1.2 with ⟨q1, q2, q3⟩ | ⟨q1, q2⟩
          · rw [if_pos q1]
            have c39 := q2
            refine V_callVM dX11_readArguments_122 (m_letterF hu3.1 (by omega)) okX11_letter lkRX11_289 (Or.inr ⟨rfl, Nat.le_of_ble_eq_true rfl⟩) rfl rfl rfl rfl (Nat.le_of_ble_eq_true rfl) ⟨Nat.le_of_ble_eq_true rfl, Nat.le_of_ble_eq_true rfl⟩ rfl ?_
            intro u4 hu4
            have hpl39 : (p + 4) ≤ l.length := hu4.1.2.2.1.2
            refine V_iast_n (i := (t + 2)) dX11_readArguments_125 (Or.inr ⟨rfl, Nat.le_of_ble_eq_true rfl⟩) rfl (by omega) (by decide) ?_
            refine V_iload_n (i := 1) dX11_readArguments_126 rfl rfl ?_
            refine V_iconst_n (v := 4) dX11_readArguments_127 (by decide) ?_
            refine V_icmp_ne_n (tgt := 150) dX11_readArguments_128 (by decide) (by omega) (by omega) (fun h128 => ?_) (fun h128 => by exfalso; omega)
            refine V_vret dX11_readArguments_150 rfl ?_
            have eO : agO l 0 p = true := by unfold agO; simp [d09, d19, s29, c39]
            have eP : agP l 0 p = (p + 4) := by unfold agP; simp [d09, d19, s29, c39]
            exact ⟨rfl, by unfold agB; rw [eO, eP]; exact (hu4.1.wr (by omega)), fun _ => ⟨(pI_ne (by omega) ((hu4.2.gi (by omega)).trans ((hu3.2.gi (by omega)).trans (pI_ne (by omega) ((hu2.2.gi (by omega)).trans pI_at))))), fun _ => (pI_ne (by omega) ((hu4.2.gi (by omega)).trans ((hu3.2.gi (by omega)).trans pI_at))), fun _ => pI_at, fun q => absurd q (by decide)⟩, ((((((((Fz.nil (P := PAr t)).trans (hu1.2.mono (fun b j q => by unfold PAr; omega))).i1 (by omega) (by unfold PAr; omega)).trans (hu2.2.mono (fun b j q => by unfold PAr; omega))).i1 (by omega) (by unfold PAr; omega)).trans (hu3.2.mono (fun b j q => by unfold PAr; omega))).trans (hu4.2.mono (fun b j q => by unfold PAr; omega))).i1 (by omega) (by unfold PAr; omega))⟩
          · rw [if_neg q1]
            have c39 := q2
            refine V_callVM dX11_readArguments_122 (m_letter0 hu3.1) okX11_letter lkRX11_289 (Or.inr ⟨rfl, Nat.le_of_ble_eq_true rfl⟩) rfl rfl rfl rfl (Nat.le_of_ble_eq_true rfl) ⟨Nat.le_of_ble_eq_true rfl, Nat.le_of_ble_eq_true rfl⟩ rfl ?_
            intro u4 hu4
            refine V_iast_n (i := (t + 2)) dX11_readArguments_125 (Or.inr ⟨rfl, Nat.le_of_ble_eq_true rfl⟩) rfl (by omega) (by decide) ?_
            refine V_iload_n (i := 1) dX11_readArguments_126 rfl rfl ?_
            refine V_iconst_n (v := 4) dX11_readArguments_127 (by decide) ?_
            refine V_icmp_ne_n (tgt := 150) dX11_readArguments_128 (by decide) (by omega) (by omega) (fun h128 => ?_) (fun h128 => by exfalso; omega)
            refine V_vret dX11_readArguments_150 rfl ?_
            have eO : agO l 0 p = false := by unfold agO; simp [d09, d19, s29, c39]
            have eP : agP l 0 p = (p + 3) := by unfold agP; simp [d09, d19, s29, c39]
            exact ⟨rfl, by unfold agB; rw [eO, eP]; exact (hu4.1.wr (by omega)), fun q => absurd q (by rw [eO]; decide), ((((((((Fz.nil (P := PAr t)).trans (hu1.2.mono (fun b j q => by unfold PAr; omega))).i1 (by omega) (by unfold PAr; omega)).trans (hu2.2.mono (fun b j q => by unfold PAr; omega))).i1 (by omega) (by unfold PAr; omega)).trans (hu3.2.mono (fun b j q => by unfold PAr; omega))).trans (hu4.2.mono (fun b j q => by unfold PAr; omega))).i1 (by omega) (by unfold PAr; omega))⟩
        · cases e9
          have s29 : ¬ sg l (p + 2) = 32 := hu3f
          refine V_aload_n (i := 0) dX11_readArguments_79 rfl rfl ?_
          refine V_getC (k := 27) (q := 64) dX11_readArguments_80 (Or.inr ⟨rfl, Nat.le_of_ble_eq_true rfl⟩) rfl rfl rfl (Nat.le_of_ble_eq_true rfl) flRX11_63 ?_
          refine V_iload_n (i := 2) dX11_readArguments_83 rfl rfl ?_
          refine V_iconst_n (v := 2) dX11_readArguments_84 (by decide) ?_
          refine V_iadd_n dX11_readArguments_85 ?_
          refine V_iload_n (i := 1) dX11_readArguments_86 rfl rfl ?_
          refine V_iconst_n (v := 4) dX11_readArguments_87 (by decide) ?_
          refine V_icmp_ne_n (tgt := 114) dX11_readArguments_88 (by decide) (by omega) (by omega) (fun h88 => ?_) (fun h88 => by exfalso; omega)
          refine V_aload_n (i := 0) dX11_readArguments_114 rfl rfl ?_
          refine V_aload_n (i := 0) dX11_readArguments_115 rfl rfl ?_
          have hsg85 := hr_sg (p := (p + 2)) hW.2.1.2
          refine V_callVF dX11_readArguments_116 (m_here hu3.1) okX11_here lkRX11_270 (Or.inr ⟨rfl, Nat.le_of_ble_eq_true rfl⟩) rfl rfl rfl rfl (Nat.le_of_ble_eq_true rfl) ⟨Nat.le_of_ble_eq_true rfl, Nat.le_of_ble_eq_true rfl⟩ rfl ?_
          refine V_callSF dX11_readArguments_119 (m_isColour (q := (hrZ l (p + 2))) rfl (by omega) (by omega)) okX11_isColour lkRX11_127 rfl rfl (Nat.le_of_ble_eq_true rfl) ⟨Nat.le_of_ble_eq_true rfl, Nat.le_of_ble_eq_true rfl⟩ rfl ?_
          refine V_callVM dX11_readArguments_122 (m_letter1 (f := (if 97 ≤ (hrZ l (p + 2)) ∧ (hrZ l (p + 2)) ≤ 100 then 1 else 0)) hu3.1) okX11_letter lkRX11_289 (Or.inr ⟨rfl, Nat.le_of_ble_eq_true rfl⟩) rfl rfl rfl rfl (Nat.le_of_ble_eq_true rfl) ⟨Nat.le_of_ble_eq_true rfl, Nat.le_of_ble_eq_true rfl⟩ rfl ?_
          intro u4 hu4
          refine V_iast_n (i := (t + 2)) dX11_readArguments_125 (Or.inr ⟨rfl, Nat.le_of_ble_eq_true rfl⟩) rfl (by omega) (by decide) ?_
          refine V_iload_n (i := 1) dX11_readArguments_126 rfl rfl ?_
          refine V_iconst_n (v := 4) dX11_readArguments_127 (by decide) ?_
          refine V_icmp_ne_n (tgt := 150) dX11_readArguments_128 (by decide) (by omega) (by omega) (fun h128 => ?_) (fun h128 => by exfalso; omega)
          refine V_vret dX11_readArguments_150 rfl ?_
          have eO : agO l 0 p = false := by unfold agO; simp [d09, d19, s29]
          have eP : agP l 0 p = (p + 2) := by unfold agP; simp [d09, d19, s29]
          exact ⟨rfl, by unfold agB; rw [eO, eP]; exact (hu4.1.wr (by omega)), fun q => absurd q (by rw [eO]; decide), ((((((((Fz.nil (P := PAr t)).trans (hu1.2.mono (fun b j q => by unfold PAr; omega))).i1 (by omega) (by unfold PAr; omega)).trans (hu2.2.mono (fun b j q => by unfold PAr; omega))).i1 (by omega) (by unfold PAr; omega)).trans (hu3.2.mono (fun b j q => by unfold PAr; omega))).trans (hu4.2.mono (fun b j q => by unfold PAr; omega))).i1 (by omega) (by unfold PAr; omega))⟩
      · cases e9
        have d19 : isD (sg l (p + 1)) = false := hu2f
        refine V_iast_n (i := (t + 1)) dX11_readArguments_58 (Or.inr ⟨rfl, Nat.le_of_ble_eq_true rfl⟩) rfl (by omega) (by decide) ?_
        refine V_iload_n (i := 1) dX11_readArguments_59 rfl rfl ?_
        refine V_if_eq_n (tgt := 73) dX11_readArguments_60 (by decide) (by omega) (fun h60 => ?_) (fun h60 => by exfalso; omega)
        refine V_aload_n (i := 0) dX11_readArguments_73 rfl rfl ?_
        refine V_bipush_n (v := 32) dX11_readArguments_74 (by decide) ?_
        refine V_callVM dX11_readArguments_76 (m_expects1 (hu2.1.wr (by omega))) okX11_expects lkRX11_280 (Or.inr ⟨rfl, Nat.le_of_ble_eq_true rfl⟩) rfl rfl rfl rfl (Nat.le_of_ble_eq_true rfl) ⟨Nat.le_of_ble_eq_true rfl, Nat.le_of_ble_eq_true rfl⟩ rfl ?_
        intro u3 hu3
        refine V_aload_n (i := 0) dX11_readArguments_79 rfl rfl ?_
        refine V_getC (k := 27) (q := 64) dX11_readArguments_80 (Or.inr ⟨rfl, Nat.le_of_ble_eq_true rfl⟩) rfl rfl rfl (Nat.le_of_ble_eq_true rfl) flRX11_63 ?_
        refine V_iload_n (i := 2) dX11_readArguments_83 rfl rfl ?_
        refine V_iconst_n (v := 2) dX11_readArguments_84 (by decide) ?_
        refine V_iadd_n dX11_readArguments_85 ?_
        refine V_iload_n (i := 1) dX11_readArguments_86 rfl rfl ?_
        refine V_iconst_n (v := 4) dX11_readArguments_87 (by decide) ?_
        refine V_icmp_ne_n (tgt := 114) dX11_readArguments_88 (by decide) (by omega) (by omega) (fun h88 => ?_) (fun h88 => by exfalso; omega)
        refine V_aload_n (i := 0) dX11_readArguments_114 rfl rfl ?_
        refine V_aload_n (i := 0) dX11_readArguments_115 rfl rfl ?_
        have hsg86 := hr_sg (p := (p + 1)) hW.2.1.2
        refine V_callVF dX11_readArguments_116 (m_here hu3.1) okX11_here lkRX11_270 (Or.inr ⟨rfl, Nat.le_of_ble_eq_true rfl⟩) rfl rfl rfl rfl (Nat.le_of_ble_eq_true rfl) ⟨Nat.le_of_ble_eq_true rfl, Nat.le_of_ble_eq_true rfl⟩ rfl ?_
        refine V_callSF dX11_readArguments_119 (m_isColour (q := (hrZ l (p + 1))) rfl (by omega) (by omega)) okX11_isColour lkRX11_127 rfl rfl (Nat.le_of_ble_eq_true rfl) ⟨Nat.le_of_ble_eq_true rfl, Nat.le_of_ble_eq_true rfl⟩ rfl ?_
        refine V_callVM dX11_readArguments_122 (m_letter1 (f := (if 97 ≤ (hrZ l (p + 1)) ∧ (hrZ l (p + 1)) ≤ 100 then 1 else 0)) hu3.1) okX11_letter lkRX11_289 (Or.inr ⟨rfl, Nat.le_of_ble_eq_true rfl⟩) rfl rfl rfl rfl (Nat.le_of_ble_eq_true rfl) ⟨Nat.le_of_ble_eq_true rfl, Nat.le_of_ble_eq_true rfl⟩ rfl ?_
        intro u4 hu4
        refine V_iast_n (i := (t + 2)) dX11_readArguments_125 (Or.inr ⟨rfl, Nat.le_of_ble_eq_true rfl⟩) rfl (by omega) (by decide) ?_
        refine V_iload_n (i := 1) dX11_readArguments_126 rfl rfl ?_
        refine V_iconst_n (v := 4) dX11_readArguments_127 (by decide) ?_
        refine V_icmp_ne_n (tgt := 150) dX11_readArguments_128 (by decide) (by omega) (by omega) (fun h128 => ?_) (fun h128 => by exfalso; omega)
        refine V_vret dX11_readArguments_150 rfl ?_
        have eO : agO l 0 p = false := by unfold agO; simp [d09, d19]
        have eP : agP l 0 p = (p + 1) := by unfold agP; simp [d09, d19]
        exact ⟨rfl, by unfold agB; rw [eO, eP]; exact (hu4.1.wr (by omega)), fun q => absurd q (by rw [eO]; decide), ((((((((Fz.nil (P := PAr t)).trans (hu1.2.mono (fun b j q => by unfold PAr; omega))).i1 (by omega) (by unfold PAr; omega)).trans (hu2.2.mono (fun b j q => by unfold PAr; omega))).i1 (by omega) (by unfold PAr; omega)).trans (hu3.2.mono (fun b j q => by unfold PAr; omega))).trans (hu4.2.mono (fun b j q => by unfold PAr; omega))).i1 (by omega) (by unfold PAr; omega))⟩
    · cases e9
      have d09 : isD (sg l p) = false := hu1f
      refine V_iast_n (i := t) dX11_readArguments_46 (Or.inr ⟨rfl, Nat.le_of_ble_eq_true rfl⟩) rfl (by omega) (by decide) ?_
      refine V_aload_n (i := 0) dX11_readArguments_47 rfl rfl ?_
      refine V_getC (k := 27) (q := 64) dX11_readArguments_48 (Or.inr ⟨rfl, Nat.le_of_ble_eq_true rfl⟩) rfl rfl rfl (Nat.le_of_ble_eq_true rfl) flRX11_63 ?_
      refine V_iload_n (i := 2) dX11_readArguments_51 rfl rfl ?_
      refine V_iconst_n (v := 1) dX11_readArguments_52 (by decide) ?_
      refine V_iadd_n dX11_readArguments_53 ?_
      refine V_aload_n (i := 0) dX11_readArguments_54 rfl rfl ?_
      refine V_callVM dX11_readArguments_55 (m_digit1 (hu1.1.wr (by omega))) okX11_digit lkRX11_277 (Or.inr ⟨rfl, Nat.le_of_ble_eq_true rfl⟩) rfl rfl rfl rfl (Nat.le_of_ble_eq_true rfl) ⟨Nat.le_of_ble_eq_true rfl, Nat.le_of_ble_eq_true rfl⟩ rfl ?_
      intro u2 hu2
      refine V_iast_n (i := (t + 1)) dX11_readArguments_58 (Or.inr ⟨rfl, Nat.le_of_ble_eq_true rfl⟩) rfl (by omega) (by decide) ?_
      refine V_iload_n (i := 1) dX11_readArguments_59 rfl rfl ?_
      refine V_if_eq_n (tgt := 73) dX11_readArguments_60 (by decide) (by omega) (fun h60 => ?_) (fun h60 => by exfalso; omega)
      refine V_aload_n (i := 0) dX11_readArguments_73 rfl rfl ?_
      refine V_bipush_n (v := 32) dX11_readArguments_74 (by decide) ?_
      refine V_callVM dX11_readArguments_76 (m_expects1 (hu2.1.wr (by omega))) okX11_expects lkRX11_280 (Or.inr ⟨rfl, Nat.le_of_ble_eq_true rfl⟩) rfl rfl rfl rfl (Nat.le_of_ble_eq_true rfl) ⟨Nat.le_of_ble_eq_true rfl, Nat.le_of_ble_eq_true rfl⟩ rfl ?_
      intro u3 hu3
      refine V_aload_n (i := 0) dX11_readArguments_79 rfl rfl ?_
      refine V_getC (k := 27) (q := 64) dX11_readArguments_80 (Or.inr ⟨rfl, Nat.le_of_ble_eq_true rfl⟩) rfl rfl rfl (Nat.le_of_ble_eq_true rfl) flRX11_63 ?_
      refine V_iload_n (i := 2) dX11_readArguments_83 rfl rfl ?_
      refine V_iconst_n (v := 2) dX11_readArguments_84 (by decide) ?_
      refine V_iadd_n dX11_readArguments_85 ?_
      refine V_iload_n (i := 1) dX11_readArguments_86 rfl rfl ?_
      refine V_iconst_n (v := 4) dX11_readArguments_87 (by decide) ?_
      refine V_icmp_ne_n (tgt := 114) dX11_readArguments_88 (by decide) (by omega) (by omega) (fun h88 => ?_) (fun h88 => by exfalso; omega)
      refine V_aload_n (i := 0) dX11_readArguments_114 rfl rfl ?_
      refine V_aload_n (i := 0) dX11_readArguments_115 rfl rfl ?_
      have hsg87 := hr_sg (p := p) hW.2.1.2
      refine V_callVF dX11_readArguments_116 (m_here hu3.1) okX11_here lkRX11_270 (Or.inr ⟨rfl, Nat.le_of_ble_eq_true rfl⟩) rfl rfl rfl rfl (Nat.le_of_ble_eq_true rfl) ⟨Nat.le_of_ble_eq_true rfl, Nat.le_of_ble_eq_true rfl⟩ rfl ?_
      refine V_callSF dX11_readArguments_119 (m_isColour (q := (hrZ l p)) rfl (by omega) (by omega)) okX11_isColour lkRX11_127 rfl rfl (Nat.le_of_ble_eq_true rfl) ⟨Nat.le_of_ble_eq_true rfl, Nat.le_of_ble_eq_true rfl⟩ rfl ?_
      refine V_callVM dX11_readArguments_122 (m_letter1 (f := (if 97 ≤ (hrZ l p) ∧ (hrZ l p) ≤ 100 then 1 else 0)) hu3.1) okX11_letter lkRX11_289 (Or.inr ⟨rfl, Nat.le_of_ble_eq_true rfl⟩) rfl rfl rfl rfl (Nat.le_of_ble_eq_true rfl) ⟨Nat.le_of_ble_eq_true rfl, Nat.le_of_ble_eq_true rfl⟩ rfl ?_
      intro u4 hu4
      refine V_iast_n (i := (t + 2)) dX11_readArguments_125 (Or.inr ⟨rfl, Nat.le_of_ble_eq_true rfl⟩) rfl (by omega) (by decide) ?_
      refine V_iload_n (i := 1) dX11_readArguments_126 rfl rfl ?_
      refine V_iconst_n (v := 4) dX11_readArguments_127 (by decide) ?_
      refine V_icmp_ne_n (tgt := 150) dX11_readArguments_128 (by decide) (by omega) (by omega) (fun h128 => ?_) (fun h128 => by exfalso; omega)
      refine V_vret dX11_readArguments_150 rfl ?_
      have eO : agO l 0 p = false := by unfold agO; simp [d09]
      have eP : agP l 0 p = p := by unfold agP; simp [d09]
      exact ⟨rfl, by unfold agB; rw [eO, eP]; exact (hu4.1.wr (by omega)), fun q => absurd q (by rw [eO]; decide), ((((((((Fz.nil (P := PAr t)).trans (hu1.2.mono (fun b j q => by unfold PAr; omega))).i1 (by omega) (by unfold PAr; omega)).trans (hu2.2.mono (fun b j q => by unfold PAr; omega))).i1 (by omega) (by unfold PAr; omega)).trans (hu3.2.mono (fun b j q => by unfold PAr; omega))).trans (hu4.2.mono (fun b j q => by unfold PAr; omega))).i1 (by omega) (by unfold PAr; omega))⟩
  · refine V_iload_n (i := 1) dX11_readArguments_0 rfl rfl ?_
    refine V_iconst_n (v := 5) dX11_readArguments_1 (by decide) ?_
    refine V_icmp_ne_n (tgt := 18) dX11_readArguments_2 (by decide) (by omega) (by omega) (fun h2 => ?_) (fun h2 => by exfalso; omega)
    refine V_iload_n (i := 1) dX11_readArguments_18 rfl rfl ?_
    refine V_bipush_n (v := 6) dX11_readArguments_19 (by decide) ?_
    refine V_icmp_ne_n (tgt := 37) dX11_readArguments_21 (by decide) (by omega) (by omega) (fun h21 => ?_) (fun h21 => by exfalso; omega)
    refine V_aload_n (i := 0) dX11_readArguments_37 rfl rfl ?_
    refine V_getC (k := 27) (q := 64) dX11_readArguments_38 (Or.inr ⟨rfl, Nat.le_of_ble_eq_true rfl⟩) rfl rfl rfl (Nat.le_of_ble_eq_true rfl) flRX11_63 ?_
    refine V_iload_n (i := 2) dX11_readArguments_41 rfl rfl ?_
    refine V_aload_n (i := 0) dX11_readArguments_42 rfl rfl ?_
    refine V_callV dX11_readArguments_43 (m_digit0 hW) okX11_digit lkRX11_277 (Or.inr ⟨rfl, Nat.le_of_ble_eq_true rfl⟩) rfl rfl rfl rfl (Nat.le_of_ble_eq_true rfl) ⟨Nat.le_of_ble_eq_true rfl, Nat.le_of_ble_eq_true rfl⟩ rfl ⟨Nat.zero_le _, Nat.zero_le _⟩ (fun v9 u1 hu1 => ?_) (fun E9 w9 h9 => by rcases h9 with h9 | h9 <;> cases h9.2.1)
    rcases hu1 with ⟨hu1f, e9, hu1⟩ | ⟨hu1f, e9, hu1⟩
    · cases e9
      have d09 : isD (sg l p) = true := hu1f
      have hpl09 : (p + 1) ≤ l.length := hu1.1.2.2.1.2
      refine V_iast_n (i := t) dX11_readArguments_46 (Or.inr ⟨rfl, Nat.le_of_ble_eq_true rfl⟩) rfl (by omega) (by decide) ?_
      refine V_aload_n (i := 0) dX11_readArguments_47 rfl rfl ?_
      refine V_getC (k := 27) (q := 64) dX11_readArguments_48 (Or.inr ⟨rfl, Nat.le_of_ble_eq_true rfl⟩) rfl rfl rfl (Nat.le_of_ble_eq_true rfl) flRX11_63 ?_
      refine V_iload_n (i := 2) dX11_readArguments_51 rfl rfl ?_
      refine V_iconst_n (v := 1) dX11_readArguments_52 (by decide) ?_
      refine V_iadd_n dX11_readArguments_53 ?_
      refine V_aload_n (i := 0) dX11_readArguments_54 rfl rfl ?_
      refine V_callV dX11_readArguments_55 (m_digit0 (hu1.1.wr (by omega))) okX11_digit lkRX11_277 (Or.inr ⟨rfl, Nat.le_of_ble_eq_true rfl⟩) rfl rfl rfl rfl (Nat.le_of_ble_eq_true rfl) ⟨Nat.le_of_ble_eq_true rfl, Nat.le_of_ble_eq_true rfl⟩ rfl ⟨Nat.zero_le _, Nat.zero_le _⟩ (fun v9 u2 hu2 => ?_) (fun E9 w9 h9 => by rcases h9 with h9 | h9 <;> cases h9.2.1)
      rcases hu2 with ⟨hu2f, e9, hu2⟩ | ⟨hu2f, e9, hu2⟩
      · cases e9
        have d19 : isD (sg l (p + 1)) = true := hu2f
        have hpl19 : (p + 2) ≤ l.length := hu2.1.2.2.1.2
        refine V_iast_n (i := (t + 1)) dX11_readArguments_58 (Or.inr ⟨rfl, Nat.le_of_ble_eq_true rfl⟩) rfl (by omega) (by decide) ?_
        refine V_iload_n (i := 1) dX11_readArguments_59 rfl rfl ?_
        refine V_if_eq_n (tgt := 73) dX11_readArguments_60 (by decide) (by omega) (fun h60 => by exfalso; omega) (fun h60 => ?_)
        refine V_iload_n (i := 1) dX11_readArguments_63 rfl rfl ?_
        refine V_iconst_n (v := 3) dX11_readArguments_64 (by decide) ?_
        refine V_icmp_eq_n (tgt := 73) dX11_readArguments_65 (by decide) (by omega) (by omega) (fun h65 => by exfalso; omega) (fun h65 => ?_)
        refine V_iload_n (i := 1) dX11_readArguments_68 rfl rfl ?_
        refine V_iconst_n (v := 4) dX11_readArguments_69 (by decide) ?_
        refine V_icmp_ne_n (tgt := 126) dX11_readArguments_70 (by decide) (by omega) (by omega) (fun h70 => ?_) (fun h70 => by exfalso; omega)
        refine V_iload_n (i := 1) dX11_readArguments_126 rfl rfl ?_
        refine V_iconst_n (v := 4) dX11_readArguments_127 (by decide) ?_
        refine V_icmp_ne_n (tgt := 150) dX11_readArguments_128 (by decide) (by omega) (by omega) (fun h128 => ?_) (fun h128 => by exfalso; omega)
        refine V_vret dX11_readArguments_150 rfl ?_
        have eO : agO l 1 p = true := by unfold agO; simp [d09, d19]
        have eP : agP l 1 p = (p + 2) := by unfold agP; simp [d09, d19]
        exact ⟨rfl, by unfold agB; rw [eO, eP]; exact (hu2.1.wr (by omega)), fun _ => ⟨(pI_ne (by omega) ((hu2.2.gi (by omega)).trans pI_at)), fun _ => pI_at, fun q => absurd q (by decide), fun q => absurd q (by decide)⟩, (((((Fz.nil (P := PAr t)).trans (hu1.2.mono (fun b j q => by unfold PAr; omega))).i1 (by omega) (by unfold PAr; omega)).trans (hu2.2.mono (fun b j q => by unfold PAr; omega))).i1 (by omega) (by unfold PAr; omega))⟩
      · cases e9
        have d19 : isD (sg l (p + 1)) = false := hu2f
        refine V_iast_n (i := (t + 1)) dX11_readArguments_58 (Or.inr ⟨rfl, Nat.le_of_ble_eq_true rfl⟩) rfl (by omega) (by decide) ?_
        refine V_iload_n (i := 1) dX11_readArguments_59 rfl rfl ?_
        refine V_if_eq_n (tgt := 73) dX11_readArguments_60 (by decide) (by omega) (fun h60 => by exfalso; omega) (fun h60 => ?_)
        refine V_iload_n (i := 1) dX11_readArguments_63 rfl rfl ?_
        refine V_iconst_n (v := 3) dX11_readArguments_64 (by decide) ?_
        refine V_icmp_eq_n (tgt := 73) dX11_readArguments_65 (by decide) (by omega) (by omega) (fun h65 => by exfalso; omega) (fun h65 => ?_)
        refine V_iload_n (i := 1) dX11_readArguments_68 rfl rfl ?_
        refine V_iconst_n (v := 4) dX11_readArguments_69 (by decide) ?_
        refine V_icmp_ne_n (tgt := 126) dX11_readArguments_70 (by decide) (by omega) (by omega) (fun h70 => ?_) (fun h70 => by exfalso; omega)
        refine V_iload_n (i := 1) dX11_readArguments_126 rfl rfl ?_
        refine V_iconst_n (v := 4) dX11_readArguments_127 (by decide) ?_
        refine V_icmp_ne_n (tgt := 150) dX11_readArguments_128 (by decide) (by omega) (by omega) (fun h128 => ?_) (fun h128 => by exfalso; omega)
        refine V_vret dX11_readArguments_150 rfl ?_
        have eO : agO l 1 p = false := by unfold agO; simp [d09, d19]
        have eP : agP l 1 p = (p + 1) := by unfold agP; simp [d09, d19]
        exact ⟨rfl, by unfold agB; rw [eO, eP]; exact (hu2.1.wr (by omega)), fun q => absurd q (by rw [eO]; decide), (((((Fz.nil (P := PAr t)).trans (hu1.2.mono (fun b j q => by unfold PAr; omega))).i1 (by omega) (by unfold PAr; omega)).trans (hu2.2.mono (fun b j q => by unfold PAr; omega))).i1 (by omega) (by unfold PAr; omega))⟩
    · cases e9
      have d09 : isD (sg l p) = false := hu1f
      refine V_iast_n (i := t) dX11_readArguments_46 (Or.inr ⟨rfl, Nat.le_of_ble_eq_true rfl⟩) rfl (by omega) (by decide) ?_
      refine V_aload_n (i := 0) dX11_readArguments_47 rfl rfl ?_
      refine V_getC (k := 27) (q := 64) dX11_readArguments_48 (Or.inr ⟨rfl, Nat.le_of_ble_eq_true rfl⟩) rfl rfl rfl (Nat.le_of_ble_eq_true rfl) flRX11_63 ?_
      refine V_iload_n (i := 2) dX11_readArguments_51 rfl rfl ?_
      refine V_iconst_n (v := 1) dX11_readArguments_52 (by decide) ?_
      refine V_iadd_n dX11_readArguments_53 ?_
      refine V_aload_n (i := 0) dX11_readArguments_54 rfl rfl ?_
      refine V_callVM dX11_readArguments_55 (m_digit1 (hu1.1.wr (by omega))) okX11_digit lkRX11_277 (Or.inr ⟨rfl, Nat.le_of_ble_eq_true rfl⟩) rfl rfl rfl rfl (Nat.le_of_ble_eq_true rfl) ⟨Nat.le_of_ble_eq_true rfl, Nat.le_of_ble_eq_true rfl⟩ rfl ?_
      intro u2 hu2
      refine V_iast_n (i := (t + 1)) dX11_readArguments_58 (Or.inr ⟨rfl, Nat.le_of_ble_eq_true rfl⟩) rfl (by omega) (by decide) ?_
      refine V_iload_n (i := 1) dX11_readArguments_59 rfl rfl ?_
      refine V_if_eq_n (tgt := 73) dX11_readArguments_60 (by decide) (by omega) (fun h60 => by exfalso; omega) (fun h60 => ?_)
      refine V_iload_n (i := 1) dX11_readArguments_63 rfl rfl ?_
      refine V_iconst_n (v := 3) dX11_readArguments_64 (by decide) ?_
      refine V_icmp_eq_n (tgt := 73) dX11_readArguments_65 (by decide) (by omega) (by omega) (fun h65 => by exfalso; omega) (fun h65 => ?_)
      refine V_iload_n (i := 1) dX11_readArguments_68 rfl rfl ?_
      refine V_iconst_n (v := 4) dX11_readArguments_69 (by decide) ?_
      refine V_icmp_ne_n (tgt := 126) dX11_readArguments_70 (by decide) (by omega) (by omega) (fun h70 => ?_) (fun h70 => by exfalso; omega)
      refine V_iload_n (i := 1) dX11_readArguments_126 rfl rfl ?_
      refine V_iconst_n (v := 4) dX11_readArguments_127 (by decide) ?_
      refine V_icmp_ne_n (tgt := 150) dX11_readArguments_128 (by decide) (by omega) (by omega) (fun h128 => ?_) (fun h128 => by exfalso; omega)
      refine V_vret dX11_readArguments_150 rfl ?_
      have eO : agO l 1 p = false := by unfold agO; simp [d09]
      have eP : agP l 1 p = p := by unfold agP; simp [d09]
      exact ⟨rfl, by unfold agB; rw [eO, eP]; exact (hu2.1.wr (by omega)), fun q => absurd q (by rw [eO]; decide), (((((Fz.nil (P := PAr t)).trans (hu1.2.mono (fun b j q => by unfold PAr; omega))).i1 (by omega) (by unfold PAr; omega)).trans (hu2.2.mono (fun b j q => by unfold PAr; omega))).i1 (by omega) (by unfold PAr; omega))⟩
  · refine V_iload_n (i := 1) dX11_readArguments_0 rfl rfl ?_
    refine V_iconst_n (v := 5) dX11_readArguments_1 (by decide) ?_
    refine V_icmp_ne_n (tgt := 18) dX11_readArguments_2 (by decide) (by omega) (by omega) (fun h2 => ?_) (fun h2 => by exfalso; omega)
    refine V_iload_n (i := 1) dX11_readArguments_18 rfl rfl ?_
    refine V_bipush_n (v := 6) dX11_readArguments_19 (by decide) ?_
    refine V_icmp_ne_n (tgt := 37) dX11_readArguments_21 (by decide) (by omega) (by omega) (fun h21 => ?_) (fun h21 => by exfalso; omega)
    refine V_aload_n (i := 0) dX11_readArguments_37 rfl rfl ?_
    refine V_getC (k := 27) (q := 64) dX11_readArguments_38 (Or.inr ⟨rfl, Nat.le_of_ble_eq_true rfl⟩) rfl rfl rfl (Nat.le_of_ble_eq_true rfl) flRX11_63 ?_
    refine V_iload_n (i := 2) dX11_readArguments_41 rfl rfl ?_
    refine V_aload_n (i := 0) dX11_readArguments_42 rfl rfl ?_
    refine V_callV dX11_readArguments_43 (m_digit0 hW) okX11_digit lkRX11_277 (Or.inr ⟨rfl, Nat.le_of_ble_eq_true rfl⟩) rfl rfl rfl rfl (Nat.le_of_ble_eq_true rfl) ⟨Nat.le_of_ble_eq_true rfl, Nat.le_of_ble_eq_true rfl⟩ rfl ⟨Nat.zero_le _, Nat.zero_le _⟩ (fun v9 u1 hu1 => ?_) (fun E9 w9 h9 => by rcases h9 with h9 | h9 <;> cases h9.2.1)
    rcases hu1 with ⟨hu1f, e9, hu1⟩ | ⟨hu1f, e9, hu1⟩
    · cases e9
      have d09 : isD (sg l p) = true := hu1f
      have hpl09 : (p + 1) ≤ l.length := hu1.1.2.2.1.2
      refine V_iast_n (i := t) dX11_readArguments_46 (Or.inr ⟨rfl, Nat.le_of_ble_eq_true rfl⟩) rfl (by omega) (by decide) ?_
      refine V_aload_n (i := 0) dX11_readArguments_47 rfl rfl ?_
      refine V_getC (k := 27) (q := 64) dX11_readArguments_48 (Or.inr ⟨rfl, Nat.le_of_ble_eq_true rfl⟩) rfl rfl rfl (Nat.le_of_ble_eq_true rfl) flRX11_63 ?_
      refine V_iload_n (i := 2) dX11_readArguments_51 rfl rfl ?_
      refine V_iconst_n (v := 1) dX11_readArguments_52 (by decide) ?_
      refine V_iadd_n dX11_readArguments_53 ?_
      refine V_aload_n (i := 0) dX11_readArguments_54 rfl rfl ?_
      refine V_callV dX11_readArguments_55 (m_digit0 (hu1.1.wr (by omega))) okX11_digit lkRX11_277 (Or.inr ⟨rfl, Nat.le_of_ble_eq_true rfl⟩) rfl rfl rfl rfl (Nat.le_of_ble_eq_true rfl) ⟨Nat.le_of_ble_eq_true rfl, Nat.le_of_ble_eq_true rfl⟩ rfl ⟨Nat.zero_le _, Nat.zero_le _⟩ (fun v9 u2 hu2 => ?_) (fun E9 w9 h9 => by rcases h9 with h9 | h9 <;> cases h9.2.1)
      rcases hu2 with ⟨hu2f, e9, hu2⟩ | ⟨hu2f, e9, hu2⟩
      · cases e9
        have d19 : isD (sg l (p + 1)) = true := hu2f
        have hpl19 : (p + 2) ≤ l.length := hu2.1.2.2.1.2
        refine V_iast_n (i := (t + 1)) dX11_readArguments_58 (Or.inr ⟨rfl, Nat.le_of_ble_eq_true rfl⟩) rfl (by omega) (by decide) ?_
        refine V_iload_n (i := 1) dX11_readArguments_59 rfl rfl ?_
        refine V_if_eq_n (tgt := 73) dX11_readArguments_60 (by decide) (by omega) (fun h60 => by exfalso; omega) (fun h60 => ?_)
        refine V_iload_n (i := 1) dX11_readArguments_63 rfl rfl ?_
        refine V_iconst_n (v := 3) dX11_readArguments_64 (by decide) ?_
        refine V_icmp_eq_n (tgt := 73) dX11_readArguments_65 (by decide) (by omega) (by omega) (fun h65 => by exfalso; omega) (fun h65 => ?_)
        refine V_iload_n (i := 1) dX11_readArguments_68 rfl rfl ?_
        refine V_iconst_n (v := 4) dX11_readArguments_69 (by decide) ?_
        refine V_icmp_ne_n (tgt := 126) dX11_readArguments_70 (by decide) (by omega) (by omega) (fun h70 => ?_) (fun h70 => by exfalso; omega)
        refine V_iload_n (i := 1) dX11_readArguments_126 rfl rfl ?_
        refine V_iconst_n (v := 4) dX11_readArguments_127 (by decide) ?_
        refine V_icmp_ne_n (tgt := 150) dX11_readArguments_128 (by decide) (by omega) (by omega) (fun h128 => ?_) (fun h128 => by exfalso; omega)
        refine V_vret dX11_readArguments_150 rfl ?_
        have eO : agO l 2 p = true := by unfold agO; simp [d09, d19]
        have eP : agP l 2 p = (p + 2) := by unfold agP; simp [d09, d19]
        exact ⟨rfl, by unfold agB; rw [eO, eP]; exact (hu2.1.wr (by omega)), fun _ => ⟨(pI_ne (by omega) ((hu2.2.gi (by omega)).trans pI_at)), fun _ => pI_at, fun q => absurd q (by decide), fun q => absurd q (by decide)⟩, (((((Fz.nil (P := PAr t)).trans (hu1.2.mono (fun b j q => by unfold PAr; omega))).i1 (by omega) (by unfold PAr; omega)).trans (hu2.2.mono (fun b j q => by unfold PAr; omega))).i1 (by omega) (by unfold PAr; omega))⟩
      · cases e9
        have d19 : isD (sg l (p + 1)) = false := hu2f
        refine V_iast_n (i := (t + 1)) dX11_readArguments_58 (Or.inr ⟨rfl, Nat.le_of_ble_eq_true rfl⟩) rfl (by omega) (by decide) ?_
        refine V_iload_n (i := 1) dX11_readArguments_59 rfl rfl ?_
        refine V_if_eq_n (tgt := 73) dX11_readArguments_60 (by decide) (by omega) (fun h60 => by exfalso; omega) (fun h60 => ?_)
        refine V_iload_n (i := 1) dX11_readArguments_63 rfl rfl ?_
        refine V_iconst_n (v := 3) dX11_readArguments_64 (by decide) ?_
        refine V_icmp_eq_n (tgt := 73) dX11_readArguments_65 (by decide) (by omega) (by omega) (fun h65 => by exfalso; omega) (fun h65 => ?_)
        refine V_iload_n (i := 1) dX11_readArguments_68 rfl rfl ?_
        refine V_iconst_n (v := 4) dX11_readArguments_69 (by decide) ?_
        refine V_icmp_ne_n (tgt := 126) dX11_readArguments_70 (by decide) (by omega) (by omega) (fun h70 => ?_) (fun h70 => by exfalso; omega)
        refine V_iload_n (i := 1) dX11_readArguments_126 rfl rfl ?_
        refine V_iconst_n (v := 4) dX11_readArguments_127 (by decide) ?_
        refine V_icmp_ne_n (tgt := 150) dX11_readArguments_128 (by decide) (by omega) (by omega) (fun h128 => ?_) (fun h128 => by exfalso; omega)
        refine V_vret dX11_readArguments_150 rfl ?_
        have eO : agO l 2 p = false := by unfold agO; simp [d09, d19]
        have eP : agP l 2 p = (p + 1) := by unfold agP; simp [d09, d19]
        exact ⟨rfl, by unfold agB; rw [eO, eP]; exact (hu2.1.wr (by omega)), fun q => absurd q (by rw [eO]; decide), (((((Fz.nil (P := PAr t)).trans (hu1.2.mono (fun b j q => by unfold PAr; omega))).i1 (by omega) (by unfold PAr; omega)).trans (hu2.2.mono (fun b j q => by unfold PAr; omega))).i1 (by omega) (by unfold PAr; omega))⟩
    · cases e9
      have d09 : isD (sg l p) = false := hu1f
      refine V_iast_n (i := t) dX11_readArguments_46 (Or.inr ⟨rfl, Nat.le_of_ble_eq_true rfl⟩) rfl (by omega) (by decide) ?_
      refine V_aload_n (i := 0) dX11_readArguments_47 rfl rfl ?_
      refine V_getC (k := 27) (q := 64) dX11_readArguments_48 (Or.inr ⟨rfl, Nat.le_of_ble_eq_true rfl⟩) rfl rfl rfl (Nat.le_of_ble_eq_true rfl) flRX11_63 ?_
      refine V_iload_n (i := 2) dX11_readArguments_51 rfl rfl ?_
      refine V_iconst_n (v := 1) dX11_readArguments_52 (by decide) ?_
      refine V_iadd_n dX11_readArguments_53 ?_
      refine V_aload_n (i := 0) dX11_readArguments_54 rfl rfl ?_
      refine V_callVM dX11_readArguments_55 (m_digit1 (hu1.1.wr (by omega))) okX11_digit lkRX11_277 (Or.inr ⟨rfl, Nat.le_of_ble_eq_true rfl⟩) rfl rfl rfl rfl (Nat.le_of_ble_eq_true rfl) ⟨Nat.le_of_ble_eq_true rfl, Nat.le_of_ble_eq_true rfl⟩ rfl ?_
      intro u2 hu2
      refine V_iast_n (i := (t + 1)) dX11_readArguments_58 (Or.inr ⟨rfl, Nat.le_of_ble_eq_true rfl⟩) rfl (by omega) (by decide) ?_
      refine V_iload_n (i := 1) dX11_readArguments_59 rfl rfl ?_
      refine V_if_eq_n (tgt := 73) dX11_readArguments_60 (by decide) (by omega) (fun h60 => by exfalso; omega) (fun h60 => ?_)
      refine V_iload_n (i := 1) dX11_readArguments_63 rfl rfl ?_
      refine V_iconst_n (v := 3) dX11_readArguments_64 (by decide) ?_
      refine V_icmp_eq_n (tgt := 73) dX11_readArguments_65 (by decide) (by omega) (by omega) (fun h65 => by exfalso; omega) (fun h65 => ?_)
      refine V_iload_n (i := 1) dX11_readArguments_68 rfl rfl ?_
      refine V_iconst_n (v := 4) dX11_readArguments_69 (by decide) ?_
      refine V_icmp_ne_n (tgt := 126) dX11_readArguments_70 (by decide) (by omega) (by omega) (fun h70 => ?_) (fun h70 => by exfalso; omega)
      refine V_iload_n (i := 1) dX11_readArguments_126 rfl rfl ?_
      refine V_iconst_n (v := 4) dX11_readArguments_127 (by decide) ?_
      refine V_icmp_ne_n (tgt := 150) dX11_readArguments_128 (by decide) (by omega) (by omega) (fun h128 => ?_) (fun h128 => by exfalso; omega)
      refine V_vret dX11_readArguments_150 rfl ?_
      have eO : agO l 2 p = false := by unfold agO; simp [d09]
      have eP : agP l 2 p = p := by unfold agP; simp [d09]
      exact ⟨rfl, by unfold agB; rw [eO, eP]; exact (hu2.1.wr (by omega)), fun q => absurd q (by rw [eO]; decide), (((((Fz.nil (P := PAr t)).trans (hu1.2.mono (fun b j q => by unfold PAr; omega))).i1 (by omega) (by unfold PAr; omega)).trans (hu2.2.mono (fun b j q => by unfold PAr; omega))).i1 (by omega) (by unfold PAr; omega))⟩
  · refine V_iload_n (i := 1) dX11_readArguments_0 rfl rfl ?_
    refine V_iconst_n (v := 5) dX11_readArguments_1 (by decide) ?_
    refine V_icmp_ne_n (tgt := 18) dX11_readArguments_2 (by decide) (by omega) (by omega) (fun h2 => ?_) (fun h2 => by exfalso; omega)
    refine V_iload_n (i := 1) dX11_readArguments_18 rfl rfl ?_
    refine V_bipush_n (v := 6) dX11_readArguments_19 (by decide) ?_
    refine V_icmp_ne_n (tgt := 37) dX11_readArguments_21 (by decide) (by omega) (by omega) (fun h21 => ?_) (fun h21 => by exfalso; omega)
    refine V_aload_n (i := 0) dX11_readArguments_37 rfl rfl ?_
    refine V_getC (k := 27) (q := 64) dX11_readArguments_38 (Or.inr ⟨rfl, Nat.le_of_ble_eq_true rfl⟩) rfl rfl rfl (Nat.le_of_ble_eq_true rfl) flRX11_63 ?_
    refine V_iload_n (i := 2) dX11_readArguments_41 rfl rfl ?_
    refine V_aload_n (i := 0) dX11_readArguments_42 rfl rfl ?_
    refine V_callV dX11_readArguments_43 (m_digit0 hW) okX11_digit lkRX11_277 (Or.inr ⟨rfl, Nat.le_of_ble_eq_true rfl⟩) rfl rfl rfl rfl (Nat.le_of_ble_eq_true rfl) ⟨Nat.le_of_ble_eq_true rfl, Nat.le_of_ble_eq_true rfl⟩ rfl ⟨Nat.zero_le _, Nat.zero_le _⟩ (fun v9 u1 hu1 => ?_) (fun E9 w9 h9 => by rcases h9 with h9 | h9 <;> cases h9.2.1)
    rcases hu1 with ⟨hu1f, e9, hu1⟩ | ⟨hu1f, e9, hu1⟩
    · cases e9
      have d09 : isD (sg l p) = true := hu1f
      have hpl09 : (p + 1) ≤ l.length := hu1.1.2.2.1.2
      refine V_iast_n (i := t) dX11_readArguments_46 (Or.inr ⟨rfl, Nat.le_of_ble_eq_true rfl⟩) rfl (by omega) (by decide) ?_
      refine V_aload_n (i := 0) dX11_readArguments_47 rfl rfl ?_
      refine V_getC (k := 27) (q := 64) dX11_readArguments_48 (Or.inr ⟨rfl, Nat.le_of_ble_eq_true rfl⟩) rfl rfl rfl (Nat.le_of_ble_eq_true rfl) flRX11_63 ?_
      refine V_iload_n (i := 2) dX11_readArguments_51 rfl rfl ?_
      refine V_iconst_n (v := 1) dX11_readArguments_52 (by decide) ?_
      refine V_iadd_n dX11_readArguments_53 ?_
      refine V_aload_n (i := 0) dX11_readArguments_54 rfl rfl ?_
      refine V_callV dX11_readArguments_55 (m_digit0 (hu1.1.wr (by omega))) okX11_digit lkRX11_277 (Or.inr ⟨rfl, Nat.le_of_ble_eq_true rfl⟩) rfl rfl rfl rfl (Nat.le_of_ble_eq_true rfl) ⟨Nat.le_of_ble_eq_true rfl, Nat.le_of_ble_eq_true rfl⟩ rfl ⟨Nat.zero_le _, Nat.zero_le _⟩ (fun v9 u2 hu2 => ?_) (fun E9 w9 h9 => by rcases h9 with h9 | h9 <;> cases h9.2.1)
      rcases hu2 with ⟨hu2f, e9, hu2⟩ | ⟨hu2f, e9, hu2⟩
      · cases e9
        have d19 : isD (sg l (p + 1)) = true := hu2f
        have hpl19 : (p + 2) ≤ l.length := hu2.1.2.2.1.2
        refine V_iast_n (i := (t + 1)) dX11_readArguments_58 (Or.inr ⟨rfl, Nat.le_of_ble_eq_true rfl⟩) rfl (by omega) (by decide) ?_
        refine V_iload_n (i := 1) dX11_readArguments_59 rfl rfl ?_
        refine V_if_eq_n (tgt := 73) dX11_readArguments_60 (by decide) (by omega) (fun h60 => by exfalso; omega) (fun h60 => ?_)
        refine V_iload_n (i := 1) dX11_readArguments_63 rfl rfl ?_
        refine V_iconst_n (v := 3) dX11_readArguments_64 (by decide) ?_
        refine V_icmp_eq_n (tgt := 73) dX11_readArguments_65 (by decide) (by omega) (by omega) (fun h65 => ?_) (fun h65 => by exfalso; omega)
        refine V_aload_n (i := 0) dX11_readArguments_73 rfl rfl ?_
        refine V_bipush_n (v := 32) dX11_readArguments_74 (by decide) ?_
        refine V_callV dX11_readArguments_76 (m_expects0 (c := 32) (hu2.1.wr (by omega)) (by omega) (by omega)) okX11_expects lkRX11_280 (Or.inr ⟨rfl, Nat.le_of_ble_eq_true rfl⟩) rfl rfl rfl rfl (Nat.le_of_ble_eq_true rfl) ⟨Nat.le_of_ble_eq_true rfl, Nat.le_of_ble_eq_true rfl⟩ rfl ⟨Nat.zero_le _, Nat.zero_le _⟩ (fun v9 u3 hu3 => ?_) (fun E9 w9 h9 => by rcases h9 with h9 | h9 <;> cases h9.2.1)
        rcases hu3 with ⟨hu3f, e9, hu3⟩ | ⟨hu3f, e9, hu3⟩
        · cases e9
          have s29 : sg l (p + 2) = 32 := hu3f
          have hpl29 : (p + 3) ≤ l.length := hu3.1.2.2.1.2
          refine V_aload_n (i := 0) dX11_readArguments_79 rfl rfl ?_
          refine V_getC (k := 27) (q := 64) dX11_readArguments_80 (Or.inr ⟨rfl, Nat.le_of_ble_eq_true rfl⟩) rfl rfl rfl (Nat.le_of_ble_eq_true rfl) flRX11_63 ?_
          refine V_iload_n (i := 2) dX11_readArguments_83 rfl rfl ?_
          refine V_iconst_n (v := 2) dX11_readArguments_84 (by decide) ?_
          refine V_iadd_n dX11_readArguments_85 ?_
          refine V_iload_n (i := 1) dX11_readArguments_86 rfl rfl ?_
          refine V_iconst_n (v := 4) dX11_readArguments_87 (by decide) ?_
          refine V_icmp_ne_n (tgt := 114) dX11_readArguments_88 (by decide) (by omega) (by omega) (fun h88 => ?_) (fun h88 => by exfalso; omega)
          refine V_aload_n (i := 0) dX11_readArguments_114 rfl rfl ?_
          refine V_aload_n (i := 0) dX11_readArguments_115 rfl rfl ?_
          have hsg88 := hr_sg (p := (p + 3)) hW.2.1.2
          refine V_callVF dX11_readArguments_116 (m_here hu3.1) okX11_here lkRX11_270 (Or.inr ⟨rfl, Nat.le_of_ble_eq_true rfl⟩) rfl rfl rfl rfl (Nat.le_of_ble_eq_true rfl) ⟨Nat.le_of_ble_eq_true rfl, Nat.le_of_ble_eq_true rfl⟩ rfl ?_
          refine V_callSF dX11_readArguments_119 (m_isColour (q := (hrZ l (p + 3))) rfl (by omega) (by omega)) okX11_isColour lkRX11_127 rfl rfl (Nat.le_of_ble_eq_true rfl) ⟨Nat.le_of_ble_eq_true rfl, Nat.le_of_ble_eq_true rfl⟩ rfl ?_
          rcases col_hr (l := l) (p := (p + 3)) hW.2.1.2 with ⟨q1, q2, q3⟩ | ⟨q1, q2⟩
          · rw [if_pos q1]
            have c39 := q2
            refine V_callVM dX11_readArguments_122 (m_letterF hu3.1 (by omega)) okX11_letter lkRX11_289 (Or.inr ⟨rfl, Nat.le_of_ble_eq_true rfl⟩) rfl rfl rfl rfl (Nat.le_of_ble_eq_true rfl) ⟨Nat.le_of_ble_eq_true rfl, Nat.le_of_ble_eq_true rfl⟩ rfl ?_
            intro u4 hu4
            have hpl39 : (p + 4) ≤ l.length := hu4.1.2.2.1.2
            refine V_iast_n (i := (t + 2)) dX11_readArguments_125 (Or.inr ⟨rfl, Nat.le_of_ble_eq_true rfl⟩) rfl (by omega) (by decide) ?_
            refine V_iload_n (i := 1) dX11_readArguments_126 rfl rfl ?_
            refine V_iconst_n (v := 4) dX11_readArguments_127 (by decide) ?_
            refine V_icmp_ne_n (tgt := 150) dX11_readArguments_128 (by decide) (by omega) (by omega) (fun h128 => ?_) (fun h128 => by exfalso; omega)
            refine V_vret dX11_readArguments_150 rfl ?_
            have eO : agO l 3 p = true := by unfold agO; simp [d09, d19, s29, c39]
            have eP : agP l 3 p = (p + 4) := by unfold agP; simp [d09, d19, s29, c39]
            exact ⟨rfl, by unfold agB; rw [eO, eP]; exact (hu4.1.wr (by omega)), fun _ => ⟨(pI_ne (by omega) ((hu4.2.gi (by omega)).trans ((hu3.2.gi (by omega)).trans (pI_ne (by omega) ((hu2.2.gi (by omega)).trans pI_at))))), fun _ => (pI_ne (by omega) ((hu4.2.gi (by omega)).trans ((hu3.2.gi (by omega)).trans pI_at))), fun _ => pI_at, fun q => absurd q (by decide)⟩, ((((((((Fz.nil (P := PAr t)).trans (hu1.2.mono (fun b j q => by unfold PAr; omega))).i1 (by omega) (by unfold PAr; omega)).trans (hu2.2.mono (fun b j q => by unfold PAr; omega))).i1 (by omega) (by unfold PAr; omega)).trans (hu3.2.mono (fun b j q => by unfold PAr; omega))).trans (hu4.2.mono (fun b j q => by unfold PAr; omega))).i1 (by omega) (by unfold PAr; omega))⟩
          · rw [if_neg q1]
            have c39 := q2
            refine V_callVM dX11_readArguments_122 (m_letter0 hu3.1) okX11_letter lkRX11_289 (Or.inr ⟨rfl, Nat.le_of_ble_eq_true rfl⟩) rfl rfl rfl rfl (Nat.le_of_ble_eq_true rfl) ⟨Nat.le_of_ble_eq_true rfl, Nat.le_of_ble_eq_true rfl⟩ rfl ?_
            intro u4 hu4
            refine V_iast_n (i := (t + 2)) dX11_readArguments_125 (Or.inr ⟨rfl, Nat.le_of_ble_eq_true rfl⟩) rfl (by omega) (by decide) ?_
            refine V_iload_n (i := 1) dX11_readArguments_126 rfl rfl ?_
            refine V_iconst_n (v := 4) dX11_readArguments_127 (by decide) ?_
            refine V_icmp_ne_n (tgt := 150) dX11_readArguments_128 (by decide) (by omega) (by omega) (fun h128 => ?_) (fun h128 => by exfalso; omega)
            refine V_vret dX11_readArguments_150 rfl ?_
            have eO : agO l 3 p = false := by unfold agO; simp [d09, d19, s29, c39]
            have eP : agP l 3 p = (p + 3) := by unfold agP; simp [d09, d19, s29, c39]
            exact ⟨rfl, by unfold agB; rw [eO, eP]; exact (hu4.1.wr (by omega)), fun q => absurd q (by rw [eO]; decide), ((((((((Fz.nil (P := PAr t)).trans (hu1.2.mono (fun b j q => by unfold PAr; omega))).i1 (by omega) (by unfold PAr; omega)).trans (hu2.2.mono (fun b j q => by unfold PAr; omega))).i1 (by omega) (by unfold PAr; omega)).trans (hu3.2.mono (fun b j q => by unfold PAr; omega))).trans (hu4.2.mono (fun b j q => by unfold PAr; omega))).i1 (by omega) (by unfold PAr; omega))⟩
        · cases e9
          have s29 : ¬ sg l (p + 2) = 32 := hu3f
          refine V_aload_n (i := 0) dX11_readArguments_79 rfl rfl ?_
          refine V_getC (k := 27) (q := 64) dX11_readArguments_80 (Or.inr ⟨rfl, Nat.le_of_ble_eq_true rfl⟩) rfl rfl rfl (Nat.le_of_ble_eq_true rfl) flRX11_63 ?_
          refine V_iload_n (i := 2) dX11_readArguments_83 rfl rfl ?_
          refine V_iconst_n (v := 2) dX11_readArguments_84 (by decide) ?_
          refine V_iadd_n dX11_readArguments_85 ?_
          refine V_iload_n (i := 1) dX11_readArguments_86 rfl rfl ?_
          refine V_iconst_n (v := 4) dX11_readArguments_87 (by decide) ?_
          refine V_icmp_ne_n (tgt := 114) dX11_readArguments_88 (by decide) (by omega) (by omega) (fun h88 => ?_) (fun h88 => by exfalso; omega)
          refine V_aload_n (i := 0) dX11_readArguments_114 rfl rfl ?_
          refine V_aload_n (i := 0) dX11_readArguments_115 rfl rfl ?_
          have hsg89 := hr_sg (p := (p + 2)) hW.2.1.2
          refine V_callVF dX11_readArguments_116 (m_here hu3.1) okX11_here lkRX11_270 (Or.inr ⟨rfl, Nat.le_of_ble_eq_true rfl⟩) rfl rfl rfl rfl (Nat.le_of_ble_eq_true rfl) ⟨Nat.le_of_ble_eq_true rfl, Nat.le_of_ble_eq_true rfl⟩ rfl ?_
          refine V_callSF dX11_readArguments_119 (m_isColour (q := (hrZ l (p + 2))) rfl (by omega) (by omega)) okX11_isColour lkRX11_127 rfl rfl (Nat.le_of_ble_eq_true rfl) ⟨Nat.le_of_ble_eq_true rfl, Nat.le_of_ble_eq_true rfl⟩ rfl ?_
          refine V_callVM dX11_readArguments_122 (m_letter1 (f := (if 97 ≤ (hrZ l (p + 2)) ∧ (hrZ l (p + 2)) ≤ 100 then 1 else 0)) hu3.1) okX11_letter lkRX11_289 (Or.inr ⟨rfl, Nat.le_of_ble_eq_true rfl⟩) rfl rfl rfl rfl (Nat.le_of_ble_eq_true rfl) ⟨Nat.le_of_ble_eq_true rfl, Nat.le_of_ble_eq_true rfl⟩ rfl ?_
          intro u4 hu4
          refine V_iast_n (i := (t + 2)) dX11_readArguments_125 (Or.inr ⟨rfl, Nat.le_of_ble_eq_true rfl⟩) rfl (by omega) (by decide) ?_
          refine V_iload_n (i := 1) dX11_readArguments_126 rfl rfl ?_
          refine V_iconst_n (v := 4) dX11_readArguments_127 (by decide) ?_
          refine V_icmp_ne_n (tgt := 150) dX11_readArguments_128 (by decide) (by omega) (by omega) (fun h128 => ?_) (fun h128 => by exfalso; omega)
          refine V_vret dX11_readArguments_150 rfl ?_
          have eO : agO l 3 p = false := by unfold agO; simp [d09, d19, s29]
          have eP : agP l 3 p = (p + 2) := by unfold agP; simp [d09, d19, s29]
          exact ⟨rfl, by unfold agB; rw [eO, eP]; exact (hu4.1.wr (by omega)), fun q => absurd q (by rw [eO]; decide), ((((((((Fz.nil (P := PAr t)).trans (hu1.2.mono (fun b j q => by unfold PAr; omega))).i1 (by omega) (by unfold PAr; omega)).trans (hu2.2.mono (fun b j q => by unfold PAr; omega))).i1 (by omega) (by unfold PAr; omega)).trans (hu3.2.mono (fun b j q => by unfold PAr; omega))).trans (hu4.2.mono (fun b j q => by unfold PAr; omega))).i1 (by omega) (by unfold PAr; omega))⟩
      · cases e9
        have d19 : isD (sg l (p + 1)) = false := hu2f
        refine V_iast_n (i := (t + 1)) dX11_readArguments_58 (Or.inr ⟨rfl, Nat.le_of_ble_eq_true rfl⟩) rfl (by omega) (by decide) ?_
        refine V_iload_n (i := 1) dX11_readArguments_59 rfl rfl ?_
        refine V_if_eq_n (tgt := 73) dX11_readArguments_60 (by decide) (by omega) (fun h60 => by exfalso; omega) (fun h60 => ?_)
        refine V_iload_n (i := 1) dX11_readArguments_63 rfl rfl ?_
        refine V_iconst_n (v := 3) dX11_readArguments_64 (by decide) ?_
        refine V_icmp_eq_n (tgt := 73) dX11_readArguments_65 (by decide) (by omega) (by omega) (fun h65 => ?_) (fun h65 => by exfalso; omega)
        refine V_aload_n (i := 0) dX11_readArguments_73 rfl rfl ?_
        refine V_bipush_n (v := 32) dX11_readArguments_74 (by decide) ?_
        refine V_callVM dX11_readArguments_76 (m_expects1 (hu2.1.wr (by omega))) okX11_expects lkRX11_280 (Or.inr ⟨rfl, Nat.le_of_ble_eq_true rfl⟩) rfl rfl rfl rfl (Nat.le_of_ble_eq_true rfl) ⟨Nat.le_of_ble_eq_true rfl, Nat.le_of_ble_eq_true rfl⟩ rfl ?_
        intro u3 hu3
        refine V_aload_n (i := 0) dX11_readArguments_79 rfl rfl ?_
        refine V_getC (k := 27) (q := 64) dX11_readArguments_80 (Or.inr ⟨rfl, Nat.le_of_ble_eq_true rfl⟩) rfl rfl rfl (Nat.le_of_ble_eq_true rfl) flRX11_63 ?_
        refine V_iload_n (i := 2) dX11_readArguments_83 rfl rfl ?_
        refine V_iconst_n (v := 2) dX11_readArguments_84 (by decide) ?_
        refine V_iadd_n dX11_readArguments_85 ?_
        refine V_iload_n (i := 1) dX11_readArguments_86 rfl rfl ?_
        refine V_iconst_n (v := 4) dX11_readArguments_87 (by decide) ?_
        refine V_icmp_ne_n (tgt := 114) dX11_readArguments_88 (by decide) (by omega) (by omega) (fun h88 => ?_) (fun h88 => by exfalso; omega)
        refine V_aload_n (i := 0) dX11_readArguments_114 rfl rfl ?_
        refine V_aload_n (i := 0) dX11_readArguments_115 rfl rfl ?_
        have hsg90 := hr_sg (p := (p + 1)) hW.2.1.2
        refine V_callVF dX11_readArguments_116 (m_here hu3.1) okX11_here lkRX11_270 (Or.inr ⟨rfl, Nat.le_of_ble_eq_true rfl⟩) rfl rfl rfl rfl (Nat.le_of_ble_eq_true rfl) ⟨Nat.le_of_ble_eq_true rfl, Nat.le_of_ble_eq_true rfl⟩ rfl ?_
        refine V_callSF dX11_readArguments_119 (m_isColour (q := (hrZ l (p + 1))) rfl (by omega) (by omega)) okX11_isColour lkRX11_127 rfl rfl (Nat.le_of_ble_eq_true rfl) ⟨Nat.le_of_ble_eq_true rfl, Nat.le_of_ble_eq_true rfl⟩ rfl ?_
        refine V_callVM dX11_readArguments_122 (m_letter1 (f := (if 97 ≤ (hrZ l (p + 1)) ∧ (hrZ l (p + 1)) ≤ 100 then 1 else 0)) hu3.1) okX11_letter lkRX11_289 (Or.inr ⟨rfl, Nat.le_of_ble_eq_true rfl⟩) rfl rfl rfl rfl (Nat.le_of_ble_eq_true rfl) ⟨Nat.le_of_ble_eq_true rfl, Nat.le_of_ble_eq_true rfl⟩ rfl ?_
        intro u4 hu4
        refine V_iast_n (i := (t + 2)) dX11_readArguments_125 (Or.inr ⟨rfl, Nat.le_of_ble_eq_true rfl⟩) rfl (by omega) (by decide) ?_
        refine V_iload_n (i := 1) dX11_readArguments_126 rfl rfl ?_
        refine V_iconst_n (v := 4) dX11_readArguments_127 (by decide) ?_
        refine V_icmp_ne_n (tgt := 150) dX11_readArguments_128 (by decide) (by omega) (by omega) (fun h128 => ?_) (fun h128 => by exfalso; omega)
        refine V_vret dX11_readArguments_150 rfl ?_
        have eO : agO l 3 p = false := by unfold agO; simp [d09, d19]
        have eP : agP l 3 p = (p + 1) := by unfold agP; simp [d09, d19]
        exact ⟨rfl, by unfold agB; rw [eO, eP]; exact (hu4.1.wr (by omega)), fun q => absurd q (by rw [eO]; decide), ((((((((Fz.nil (P := PAr t)).trans (hu1.2.mono (fun b j q => by unfold PAr; omega))).i1 (by omega) (by unfold PAr; omega)).trans (hu2.2.mono (fun b j q => by unfold PAr; omega))).i1 (by omega) (by unfold PAr; omega)).trans (hu3.2.mono (fun b j q => by unfold PAr; omega))).trans (hu4.2.mono (fun b j q => by unfold PAr; omega))).i1 (by omega) (by unfold PAr; omega))⟩
    · cases e9
      have d09 : isD (sg l p) = false := hu1f
      refine V_iast_n (i := t) dX11_readArguments_46 (Or.inr ⟨rfl, Nat.le_of_ble_eq_true rfl⟩) rfl (by omega) (by decide) ?_
      refine V_aload_n (i := 0) dX11_readArguments_47 rfl rfl ?_
      refine V_getC (k := 27) (q := 64) dX11_readArguments_48 (Or.inr ⟨rfl, Nat.le_of_ble_eq_true rfl⟩) rfl rfl rfl (Nat.le_of_ble_eq_true rfl) flRX11_63 ?_
      refine V_iload_n (i := 2) dX11_readArguments_51 rfl rfl ?_
      refine V_iconst_n (v := 1) dX11_readArguments_52 (by decide) ?_
      refine V_iadd_n dX11_readArguments_53 ?_
      refine V_aload_n (i := 0) dX11_readArguments_54 rfl rfl ?_
      refine V_callVM dX11_readArguments_55 (m_digit1 (hu1.1.wr (by omega))) okX11_digit lkRX11_277 (Or.inr ⟨rfl, Nat.le_of_ble_eq_true rfl⟩) rfl rfl rfl rfl (Nat.le_of_ble_eq_true rfl) ⟨Nat.le_of_ble_eq_true rfl, Nat.le_of_ble_eq_true rfl⟩ rfl ?_
      intro u2 hu2
      refine V_iast_n (i := (t + 1)) dX11_readArguments_58 (Or.inr ⟨rfl, Nat.le_of_ble_eq_true rfl⟩) rfl (by omega) (by decide) ?_
      refine V_iload_n (i := 1) dX11_readArguments_59 rfl rfl ?_
      refine V_if_eq_n (tgt := 73) dX11_readArguments_60 (by decide) (by omega) (fun h60 => by exfalso; omega) (fun h60 => ?_)
      refine V_iload_n (i := 1) dX11_readArguments_63 rfl rfl ?_
      refine V_iconst_n (v := 3) dX11_readArguments_64 (by decide) ?_
      refine V_icmp_eq_n (tgt := 73) dX11_readArguments_65 (by decide) (by omega) (by omega) (fun h65 => ?_) (fun h65 => by exfalso; omega)
      refine V_aload_n (i := 0) dX11_readArguments_73 rfl rfl ?_
      refine V_bipush_n (v := 32) dX11_readArguments_74 (by decide) ?_
      refine V_callVM dX11_readArguments_76 (m_expects1 (hu2.1.wr (by omega))) okX11_expects lkRX11_280 (Or.inr ⟨rfl, Nat.le_of_ble_eq_true rfl⟩) rfl rfl rfl rfl (Nat.le_of_ble_eq_true rfl) ⟨Nat.le_of_ble_eq_true rfl, Nat.le_of_ble_eq_true rfl⟩ rfl ?_
      intro u3 hu3
      refine V_aload_n (i := 0) dX11_readArguments_79 rfl rfl ?_
      refine V_getC (k := 27) (q := 64) dX11_readArguments_80 (Or.inr ⟨rfl, Nat.le_of_ble_eq_true rfl⟩) rfl rfl rfl (Nat.le_of_ble_eq_true rfl) flRX11_63 ?_
      refine V_iload_n (i := 2) dX11_readArguments_83 rfl rfl ?_
      refine V_iconst_n (v := 2) dX11_readArguments_84 (by decide) ?_
      refine V_iadd_n dX11_readArguments_85 ?_
      refine V_iload_n (i := 1) dX11_readArguments_86 rfl rfl ?_
      refine V_iconst_n (v := 4) dX11_readArguments_87 (by decide) ?_
      refine V_icmp_ne_n (tgt := 114) dX11_readArguments_88 (by decide) (by omega) (by omega) (fun h88 => ?_) (fun h88 => by exfalso; omega)
      refine V_aload_n (i := 0) dX11_readArguments_114 rfl rfl ?_
      refine V_aload_n (i := 0) dX11_readArguments_115 rfl rfl ?_
      have hsg91 := hr_sg (p := p) hW.2.1.2
      refine V_callVF dX11_readArguments_116 (m_here hu3.1) okX11_here lkRX11_270 (Or.inr ⟨rfl, Nat.le_of_ble_eq_true rfl⟩) rfl rfl rfl rfl (Nat.le_of_ble_eq_true rfl) ⟨Nat.le_of_ble_eq_true rfl, Nat.le_of_ble_eq_true rfl⟩ rfl ?_
      refine V_callSF dX11_readArguments_119 (m_isColour (q := (hrZ l p)) rfl (by omega) (by omega)) okX11_isColour lkRX11_127 rfl rfl (Nat.le_of_ble_eq_true rfl) ⟨Nat.le_of_ble_eq_true rfl, Nat.le_of_ble_eq_true rfl⟩ rfl ?_
      refine V_callVM dX11_readArguments_122 (m_letter1 (f := (if 97 ≤ (hrZ l p) ∧ (hrZ l p) ≤ 100 then 1 else 0)) hu3.1) okX11_letter lkRX11_289 (Or.inr ⟨rfl, Nat.le_of_ble_eq_true rfl⟩) rfl rfl rfl rfl (Nat.le_of_ble_eq_true rfl) ⟨Nat.le_of_ble_eq_true rfl, Nat.le_of_ble_eq_true rfl⟩ rfl ?_
      intro u4 hu4
      refine V_iast_n (i := (t + 2)) dX11_readArguments_125 (Or.inr ⟨rfl, Nat.le_of_ble_eq_true rfl⟩) rfl (by omega) (by decide) ?_
      refine V_iload_n (i := 1) dX11_readArguments_126 rfl rfl ?_
      refine V_iconst_n (v := 4) dX11_readArguments_127 (by decide) ?_
      refine V_icmp_ne_n (tgt := 150) dX11_readArguments_128 (by decide) (by omega) (by omega) (fun h128 => ?_) (fun h128 => by exfalso; omega)
      refine V_vret dX11_readArguments_150 rfl ?_
      have eO : agO l 3 p = false := by unfold agO; simp [d09]
      have eP : agP l 3 p = p := by unfold agP; simp [d09]
      exact ⟨rfl, by unfold agB; rw [eO, eP]; exact (hu4.1.wr (by omega)), fun q => absurd q (by rw [eO]; decide), ((((((((Fz.nil (P := PAr t)).trans (hu1.2.mono (fun b j q => by unfold PAr; omega))).i1 (by omega) (by unfold PAr; omega)).trans (hu2.2.mono (fun b j q => by unfold PAr; omega))).i1 (by omega) (by unfold PAr; omega)).trans (hu3.2.mono (fun b j q => by unfold PAr; omega))).trans (hu4.2.mono (fun b j q => by unfold PAr; omega))).i1 (by omega) (by unfold PAr; omega))⟩
  · refine V_iload_n (i := 1) dX11_readArguments_0 rfl rfl ?_
    refine V_iconst_n (v := 5) dX11_readArguments_1 (by decide) ?_
    refine V_icmp_ne_n (tgt := 18) dX11_readArguments_2 (by decide) (by omega) (by omega) (fun h2 => ?_) (fun h2 => by exfalso; omega)
    refine V_iload_n (i := 1) dX11_readArguments_18 rfl rfl ?_
    refine V_bipush_n (v := 6) dX11_readArguments_19 (by decide) ?_
    refine V_icmp_ne_n (tgt := 37) dX11_readArguments_21 (by decide) (by omega) (by omega) (fun h21 => ?_) (fun h21 => by exfalso; omega)
    refine V_aload_n (i := 0) dX11_readArguments_37 rfl rfl ?_
    refine V_getC (k := 27) (q := 64) dX11_readArguments_38 (Or.inr ⟨rfl, Nat.le_of_ble_eq_true rfl⟩) rfl rfl rfl (Nat.le_of_ble_eq_true rfl) flRX11_63 ?_
    refine V_iload_n (i := 2) dX11_readArguments_41 rfl rfl ?_
    refine V_aload_n (i := 0) dX11_readArguments_42 rfl rfl ?_
    refine V_callV dX11_readArguments_43 (m_digit0 hW) okX11_digit lkRX11_277 (Or.inr ⟨rfl, Nat.le_of_ble_eq_true rfl⟩) rfl rfl rfl rfl (Nat.le_of_ble_eq_true rfl) ⟨Nat.le_of_ble_eq_true rfl, Nat.le_of_ble_eq_true rfl⟩ rfl ⟨Nat.zero_le _, Nat.zero_le _⟩ (fun v9 u1 hu1 => ?_) (fun E9 w9 h9 => by rcases h9 with h9 | h9 <;> cases h9.2.1)
    rcases hu1 with ⟨hu1f, e9, hu1⟩ | ⟨hu1f, e9, hu1⟩
    · cases e9
      have d09 : isD (sg l p) = true := hu1f
      have hpl09 : (p + 1) ≤ l.length := hu1.1.2.2.1.2
      refine V_iast_n (i := t) dX11_readArguments_46 (Or.inr ⟨rfl, Nat.le_of_ble_eq_true rfl⟩) rfl (by omega) (by decide) ?_
      refine V_aload_n (i := 0) dX11_readArguments_47 rfl rfl ?_
      refine V_getC (k := 27) (q := 64) dX11_readArguments_48 (Or.inr ⟨rfl, Nat.le_of_ble_eq_true rfl⟩) rfl rfl rfl (Nat.le_of_ble_eq_true rfl) flRX11_63 ?_
      refine V_iload_n (i := 2) dX11_readArguments_51 rfl rfl ?_
      refine V_iconst_n (v := 1) dX11_readArguments_52 (by decide) ?_
      refine V_iadd_n dX11_readArguments_53 ?_
      refine V_aload_n (i := 0) dX11_readArguments_54 rfl rfl ?_
      refine V_callV dX11_readArguments_55 (m_digit0 (hu1.1.wr (by omega))) okX11_digit lkRX11_277 (Or.inr ⟨rfl, Nat.le_of_ble_eq_true rfl⟩) rfl rfl rfl rfl (Nat.le_of_ble_eq_true rfl) ⟨Nat.le_of_ble_eq_true rfl, Nat.le_of_ble_eq_true rfl⟩ rfl ⟨Nat.zero_le _, Nat.zero_le _⟩ (fun v9 u2 hu2 => ?_) (fun E9 w9 h9 => by rcases h9 with h9 | h9 <;> cases h9.2.1)
      rcases hu2 with ⟨hu2f, e9, hu2⟩ | ⟨hu2f, e9, hu2⟩
      · cases e9
        have d19 : isD (sg l (p + 1)) = true := hu2f
        have hpl19 : (p + 2) ≤ l.length := hu2.1.2.2.1.2
        refine V_iast_n (i := (t + 1)) dX11_readArguments_58 (Or.inr ⟨rfl, Nat.le_of_ble_eq_true rfl⟩) rfl (by omega) (by decide) ?_
        refine V_iload_n (i := 1) dX11_readArguments_59 rfl rfl ?_
        refine V_if_eq_n (tgt := 73) dX11_readArguments_60 (by decide) (by omega) (fun h60 => by exfalso; omega) (fun h60 => ?_)
        refine V_iload_n (i := 1) dX11_readArguments_63 rfl rfl ?_
        refine V_iconst_n (v := 3) dX11_readArguments_64 (by decide) ?_
        refine V_icmp_eq_n (tgt := 73) dX11_readArguments_65 (by decide) (by omega) (by omega) (fun h65 => by exfalso; omega) (fun h65 => ?_)
        refine V_iload_n (i := 1) dX11_readArguments_68 rfl rfl ?_
        refine V_iconst_n (v := 4) dX11_readArguments_69 (by decide) ?_
        refine V_icmp_ne_n (tgt := 126) dX11_readArguments_70 (by decide) (by omega) (by omega) (fun h70 => by exfalso; omega) (fun h70 => ?_)
        refine V_aload_n (i := 0) dX11_readArguments_73 rfl rfl ?_
        refine V_bipush_n (v := 32) dX11_readArguments_74 (by decide) ?_
        refine V_callV dX11_readArguments_76 (m_expects0 (c := 32) (hu2.1.wr (by omega)) (by omega) (by omega)) okX11_expects lkRX11_280 (Or.inr ⟨rfl, Nat.le_of_ble_eq_true rfl⟩) rfl rfl rfl rfl (Nat.le_of_ble_eq_true rfl) ⟨Nat.le_of_ble_eq_true rfl, Nat.le_of_ble_eq_true rfl⟩ rfl ⟨Nat.zero_le _, Nat.zero_le _⟩ (fun v9 u3 hu3 => ?_) (fun E9 w9 h9 => by rcases h9 with h9 | h9 <;> cases h9.2.1)
        rcases hu3 with ⟨hu3f, e9, hu3⟩ | ⟨hu3f, e9, hu3⟩
        · cases e9
          have s29 : sg l (p + 2) = 32 := hu3f
          have hpl29 : (p + 3) ≤ l.length := hu3.1.2.2.1.2
          refine V_aload_n (i := 0) dX11_readArguments_79 rfl rfl ?_
          refine V_getC (k := 27) (q := 64) dX11_readArguments_80 (Or.inr ⟨rfl, Nat.le_of_ble_eq_true rfl⟩) rfl rfl rfl (Nat.le_of_ble_eq_true rfl) flRX11_63 ?_
          refine V_iload_n (i := 2) dX11_readArguments_83 rfl rfl ?_
          refine V_iconst_n (v := 2) dX11_readArguments_84 (by decide) ?_
          refine V_iadd_n dX11_readArguments_85 ?_
          refine V_iload_n (i := 1) dX11_readArguments_86 rfl rfl ?_
          refine V_iconst_n (v := 4) dX11_readArguments_87 (by decide) ?_
          refine V_icmp_ne_n (tgt := 114) dX11_readArguments_88 (by decide) (by omega) (by omega) (fun h88 => by exfalso; omega) (fun h88 => ?_)
          refine V_aload_n (i := 0) dX11_readArguments_91 rfl rfl ?_
          refine V_aload_n (i := 0) dX11_readArguments_92 rfl rfl ?_
          have hsg92 := hr_sg (p := (p + 3)) hW.2.1.2
          refine V_callVF dX11_readArguments_93 (m_here hu3.1) okX11_here lkRX11_270 (Or.inr ⟨rfl, Nat.le_of_ble_eq_true rfl⟩) rfl rfl rfl rfl (Nat.le_of_ble_eq_true rfl) ⟨Nat.le_of_ble_eq_true rfl, Nat.le_of_ble_eq_true rfl⟩ rfl ?_
          have hr93 := ptZ_in (q := (hrZ l (p + 3)))
          refine V_callSF dX11_readArguments_96 (m_patternOf (q := (hrZ l (p + 3))) rfl (by omega) (by omega)) okX11_patternOf lkRX11_163 rfl rfl (Nat.le_of_ble_eq_true rfl) ⟨Nat.le_of_ble_eq_true rfl, Nat.le_of_ble_eq_true rfl⟩ rfl ?_
          refine V_iconst_z (v := -1) dX11_readArguments_99 (by decide) ?_
          refine V_icmp_eq_z (tgt := 107) dX11_readArguments_100 (by decide) rfl rfl (by omega) (by omega) (by omega) (by omega) (fun h100 => ?_) (fun h100 => ?_)
          · have p39 : isP (sg l (p + 3)) = false := by rcases pt_hr (l := l) (p := (p + 3)) hW.2.1.2 with q9 | q9 <;> first | exact q9.2 | exact absurd h100 q9.1
            refine V_iconst_n (v := 0) dX11_readArguments_107 (by decide) ?_
            refine V_callVM dX11_readArguments_108 (m_letter0 hu3.1) okX11_letter lkRX11_289 (Or.inr ⟨rfl, Nat.le_of_ble_eq_true rfl⟩) rfl rfl rfl rfl (Nat.le_of_ble_eq_true rfl) ⟨Nat.le_of_ble_eq_true rfl, Nat.le_of_ble_eq_true rfl⟩ rfl ?_
            intro u4 hu4
            refine V_goto (tgt := 125) dX11_readArguments_111 (by decide) ?_
            refine V_iast_n (i := (t + 2)) dX11_readArguments_125 (Or.inr ⟨rfl, Nat.le_of_ble_eq_true rfl⟩) rfl (by omega) (by decide) ?_
            refine V_iload_n (i := 1) dX11_readArguments_126 rfl rfl ?_
            refine V_iconst_n (v := 4) dX11_readArguments_127 (by decide) ?_
            refine V_icmp_ne_n (tgt := 150) dX11_readArguments_128 (by decide) (by omega) (by omega) (fun h128 => by exfalso; omega) (fun h128 => ?_)
            refine V_aload_n (i := 0) dX11_readArguments_131 rfl rfl ?_
            refine V_getC (k := 27) (q := 64) dX11_readArguments_132 (Or.inr ⟨rfl, Nat.le_of_ble_eq_true rfl⟩) rfl rfl rfl (Nat.le_of_ble_eq_true rfl) flRX11_63 ?_
            refine V_iload_n (i := 2) dX11_readArguments_135 rfl rfl ?_
            refine V_iconst_n (v := 3) dX11_readArguments_136 (by decide) ?_
            refine V_iadd_n dX11_readArguments_137 ?_
            refine V_aload_n (i := 0) dX11_readArguments_138 rfl rfl ?_
            refine V_aload_n (i := 0) dX11_readArguments_139 rfl rfl ?_
            have hsg94 := hr_sg (p := (p + 3)) hW.2.1.2
            refine V_callVF dX11_readArguments_140 (m_here (hu4.1.wr (by omega))) okX11_here lkRX11_270 (Or.inr ⟨rfl, Nat.le_of_ble_eq_true rfl⟩) rfl rfl rfl rfl (Nat.le_of_ble_eq_true rfl) ⟨Nat.le_of_ble_eq_true rfl, Nat.le_of_ble_eq_true rfl⟩ rfl ?_
            refine V_callSF dX11_readArguments_143 (m_isColour (q := (hrZ l (p + 3))) rfl (by omega) (by omega)) okX11_isColour lkRX11_127 rfl rfl (Nat.le_of_ble_eq_true rfl) ⟨Nat.le_of_ble_eq_true rfl, Nat.le_of_ble_eq_true rfl⟩ rfl ?_
            refine V_callVM dX11_readArguments_146 (m_letter1 (f := (if 97 ≤ (hrZ l (p + 3)) ∧ (hrZ l (p + 3)) ≤ 100 then 1 else 0)) (hu4.1.wr (by omega))) okX11_letter lkRX11_289 (Or.inr ⟨rfl, Nat.le_of_ble_eq_true rfl⟩) rfl rfl rfl rfl (Nat.le_of_ble_eq_true rfl) ⟨Nat.le_of_ble_eq_true rfl, Nat.le_of_ble_eq_true rfl⟩ rfl ?_
            intro u5 hu5
            refine V_iast_n (i := (t + 3)) dX11_readArguments_149 (Or.inr ⟨rfl, Nat.le_of_ble_eq_true rfl⟩) rfl (by omega) (by decide) ?_
            refine V_vret dX11_readArguments_150 rfl ?_
            have eO : agO l 4 p = false := by unfold agO; simp [d09, d19, s29, p39]
            have eP : agP l 4 p = (p + 3) := by unfold agP; simp [d09, d19, s29, p39]
            exact ⟨rfl, by unfold agB; rw [eO, eP]; exact (hu5.1.wr (by omega)), fun q => absurd q (by rw [eO]; decide), ((((((((((Fz.nil (P := PAr t)).trans (hu1.2.mono (fun b j q => by unfold PAr; omega))).i1 (by omega) (by unfold PAr; omega)).trans (hu2.2.mono (fun b j q => by unfold PAr; omega))).i1 (by omega) (by unfold PAr; omega)).trans (hu3.2.mono (fun b j q => by unfold PAr; omega))).trans (hu4.2.mono (fun b j q => by unfold PAr; omega))).i1 (by omega) (by unfold PAr; omega)).trans (hu5.2.mono (fun b j q => by unfold PAr; omega))).i1 (by omega) (by unfold PAr; omega))⟩
          · have p39 : isP (sg l (p + 3)) = true ∧ (p + 3) < l.length := by rcases pt_hr (l := l) (p := (p + 3)) hW.2.1.2 with q9 | q9 <;> first | exact q9.2 | exact absurd q9.1 h100
            refine V_iconst_n (v := 1) dX11_readArguments_103 (by decide) ?_
            refine V_goto (tgt := 108) dX11_readArguments_104 (by decide) ?_
            refine V_callVM dX11_readArguments_108 (m_letterF hu3.1 (by omega)) okX11_letter lkRX11_289 (Or.inr ⟨rfl, Nat.le_of_ble_eq_true rfl⟩) rfl rfl rfl rfl (Nat.le_of_ble_eq_true rfl) ⟨Nat.le_of_ble_eq_true rfl, Nat.le_of_ble_eq_true rfl⟩ rfl ?_
            intro u4 hu4
            have hpl39 : (p + 4) ≤ l.length := hu4.1.2.2.1.2
            refine V_goto (tgt := 125) dX11_readArguments_111 (by decide) ?_
            refine V_iast_n (i := (t + 2)) dX11_readArguments_125 (Or.inr ⟨rfl, Nat.le_of_ble_eq_true rfl⟩) rfl (by omega) (by decide) ?_
            refine V_iload_n (i := 1) dX11_readArguments_126 rfl rfl ?_
            refine V_iconst_n (v := 4) dX11_readArguments_127 (by decide) ?_
            refine V_icmp_ne_n (tgt := 150) dX11_readArguments_128 (by decide) (by omega) (by omega) (fun h128 => by exfalso; omega) (fun h128 => ?_)
            refine V_aload_n (i := 0) dX11_readArguments_131 rfl rfl ?_
            refine V_getC (k := 27) (q := 64) dX11_readArguments_132 (Or.inr ⟨rfl, Nat.le_of_ble_eq_true rfl⟩) rfl rfl rfl (Nat.le_of_ble_eq_true rfl) flRX11_63 ?_
            refine V_iload_n (i := 2) dX11_readArguments_135 rfl rfl ?_
            refine V_iconst_n (v := 3) dX11_readArguments_136 (by decide) ?_
            refine V_iadd_n dX11_readArguments_137 ?_
            refine V_aload_n (i := 0) dX11_readArguments_138 rfl rfl ?_
            refine V_aload_n (i := 0) dX11_readArguments_139 rfl rfl ?_
            have hsg95 := hr_sg (p := (p + 4)) hW.2.1.2
            refine V_callVF dX11_readArguments_140 (m_here (hu4.1.wr (by omega))) okX11_here lkRX11_270 (Or.inr ⟨rfl, Nat.le_of_ble_eq_true rfl⟩) rfl rfl rfl rfl (Nat.le_of_ble_eq_true rfl) ⟨Nat.le_of_ble_eq_true rfl, Nat.le_of_ble_eq_true rfl⟩ rfl ?_
            refine V_callSF dX11_readArguments_143 (m_isColour (q := (hrZ l (p + 4))) rfl (by omega) (by omega)) okX11_isColour lkRX11_127 rfl rfl (Nat.le_of_ble_eq_true rfl) ⟨Nat.le_of_ble_eq_true rfl, Nat.le_of_ble_eq_true rfl⟩ rfl ?_
            rcases col_hr (l := l) (p := (p + 4)) hW.2.1.2 with ⟨q1, q2, q3⟩ | ⟨q1, q2⟩
            · rw [if_pos q1]
              have c49 := q2
              refine V_callVM dX11_readArguments_146 (m_letterF (hu4.1.wr (by omega)) (by omega)) okX11_letter lkRX11_289 (Or.inr ⟨rfl, Nat.le_of_ble_eq_true rfl⟩) rfl rfl rfl rfl (Nat.le_of_ble_eq_true rfl) ⟨Nat.le_of_ble_eq_true rfl, Nat.le_of_ble_eq_true rfl⟩ rfl ?_
              intro u5 hu5
              have hpl49 : (p + 5) ≤ l.length := hu5.1.2.2.1.2
              refine V_iast_n (i := (t + 3)) dX11_readArguments_149 (Or.inr ⟨rfl, Nat.le_of_ble_eq_true rfl⟩) rfl (by omega) (by decide) ?_
              refine V_vret dX11_readArguments_150 rfl ?_
              have eO : agO l 4 p = true := by unfold agO; simp [d09, d19, s29, p39.1, c49]
              have eP : agP l 4 p = (p + 5) := by unfold agP; simp [d09, d19, s29, p39.1, c49]
              exact ⟨rfl, by unfold agB; rw [eO, eP]; exact (hu5.1.wr (by omega)), fun _ => ⟨(pI_ne (by omega) ((hu5.2.gi (by omega)).trans (pI_ne (by omega) ((hu4.2.gi (by omega)).trans ((hu3.2.gi (by omega)).trans (pI_ne (by omega) ((hu2.2.gi (by omega)).trans pI_at))))))), fun _ => (pI_ne (by omega) ((hu5.2.gi (by omega)).trans (pI_ne (by omega) ((hu4.2.gi (by omega)).trans ((hu3.2.gi (by omega)).trans pI_at))))), fun _ => (pI_ne (by omega) ((hu5.2.gi (by omega)).trans pI_at)), fun _ => pI_at⟩, ((((((((((Fz.nil (P := PAr t)).trans (hu1.2.mono (fun b j q => by unfold PAr; omega))).i1 (by omega) (by unfold PAr; omega)).trans (hu2.2.mono (fun b j q => by unfold PAr; omega))).i1 (by omega) (by unfold PAr; omega)).trans (hu3.2.mono (fun b j q => by unfold PAr; omega))).trans (hu4.2.mono (fun b j q => by unfold PAr; omega))).i1 (by omega) (by unfold PAr; omega)).trans (hu5.2.mono (fun b j q => by unfold PAr; omega))).i1 (by omega) (by unfold PAr; omega))⟩
            · rw [if_neg q1]
              have c49 := q2
              refine V_callVM dX11_readArguments_146 (m_letter0 (hu4.1.wr (by omega))) okX11_letter lkRX11_289 (Or.inr ⟨rfl, Nat.le_of_ble_eq_true rfl⟩) rfl rfl rfl rfl (Nat.le_of_ble_eq_true rfl) ⟨Nat.le_of_ble_eq_true rfl, Nat.le_of_ble_eq_true rfl⟩ rfl ?_
              intro u5 hu5
              refine V_iast_n (i := (t + 3)) dX11_readArguments_149 (Or.inr ⟨rfl, Nat.le_of_ble_eq_true rfl⟩) rfl (by omega) (by decide) ?_
              refine V_vret dX11_readArguments_150 rfl ?_
              have eO : agO l 4 p = false := by unfold agO; simp [d09, d19, s29, p39.1, c49]
              have eP : agP l 4 p = (p + 4) := by unfold agP; simp [d09, d19, s29, p39.1, c49]
              exact ⟨rfl, by unfold agB; rw [eO, eP]; exact (hu5.1.wr (by omega)), fun q => absurd q (by rw [eO]; decide), ((((((((((Fz.nil (P := PAr t)).trans (hu1.2.mono (fun b j q => by unfold PAr; omega))).i1 (by omega) (by unfold PAr; omega)).trans (hu2.2.mono (fun b j q => by unfold PAr; omega))).i1 (by omega) (by unfold PAr; omega)).trans (hu3.2.mono (fun b j q => by unfold PAr; omega))).trans (hu4.2.mono (fun b j q => by unfold PAr; omega))).i1 (by omega) (by unfold PAr; omega)).trans (hu5.2.mono (fun b j q => by unfold PAr; omega))).i1 (by omega) (by unfold PAr; omega))⟩
        · cases e9
          have s29 : ¬ sg l (p + 2) = 32 := hu3f
          refine V_aload_n (i := 0) dX11_readArguments_79 rfl rfl ?_
          refine V_getC (k := 27) (q := 64) dX11_readArguments_80 (Or.inr ⟨rfl, Nat.le_of_ble_eq_true rfl⟩) rfl rfl rfl (Nat.le_of_ble_eq_true rfl) flRX11_63 ?_
          refine V_iload_n (i := 2) dX11_readArguments_83 rfl rfl ?_
          refine V_iconst_n (v := 2) dX11_readArguments_84 (by decide) ?_
          refine V_iadd_n dX11_readArguments_85 ?_
          refine V_iload_n (i := 1) dX11_readArguments_86 rfl rfl ?_
          refine V_iconst_n (v := 4) dX11_readArguments_87 (by decide) ?_
          refine V_icmp_ne_n (tgt := 114) dX11_readArguments_88 (by decide) (by omega) (by omega) (fun h88 => by exfalso; omega) (fun h88 => ?_)
          refine V_aload_n (i := 0) dX11_readArguments_91 rfl rfl ?_
          refine V_aload_n (i := 0) dX11_readArguments_92 rfl rfl ?_
          have hsg96 := hr_sg (p := (p + 2)) hW.2.1.2
          refine V_callVF dX11_readArguments_93 (m_here hu3.1) okX11_here lkRX11_270 (Or.inr ⟨rfl, Nat.le_of_ble_eq_true rfl⟩) rfl rfl rfl rfl (Nat.le_of_ble_eq_true rfl) ⟨Nat.le_of_ble_eq_true rfl, Nat.le_of_ble_eq_true rfl⟩ rfl ?_
          have hr97 := ptZ_in (q := (hrZ l (p + 2)))
          refine V_callSF dX11_readArguments_96 (m_patternOf (q := (hrZ l (p + 2))) rfl (by omega) (by omega)) okX11_patternOf lkRX11_163 rfl rfl (Nat.le_of_ble_eq_true rfl) ⟨Nat.le_of_ble_eq_true rfl, Nat.le_of_ble_eq_true rfl⟩ rfl ?_
          refine V_iconst_z (v := -1) dX11_readArguments_99 (by decide) ?_
          refine V_icmp_eq_z (tgt := 107) dX11_readArguments_100 (by decide) rfl rfl (by omega) (by omega) (by omega) (by omega) (fun h100 => ?_) (fun h100 => ?_)
          · refine V_iconst_n (v := 0) dX11_readArguments_107 (by decide) ?_
            refine V_callVM dX11_readArguments_108 (m_letter1 (f := 0) hu3.1) okX11_letter lkRX11_289 (Or.inr ⟨rfl, Nat.le_of_ble_eq_true rfl⟩) rfl rfl rfl rfl (Nat.le_of_ble_eq_true rfl) ⟨Nat.le_of_ble_eq_true rfl, Nat.le_of_ble_eq_true rfl⟩ rfl ?_
            intro u4 hu4
            refine V_goto (tgt := 125) dX11_readArguments_111 (by decide) ?_
            refine V_iast_n (i := (t + 2)) dX11_readArguments_125 (Or.inr ⟨rfl, Nat.le_of_ble_eq_true rfl⟩) rfl (by omega) (by decide) ?_
            refine V_iload_n (i := 1) dX11_readArguments_126 rfl rfl ?_
            refine V_iconst_n (v := 4) dX11_readArguments_127 (by decide) ?_
            refine V_icmp_ne_n (tgt := 150) dX11_readArguments_128 (by decide) (by omega) (by omega) (fun h128 => by exfalso; omega) (fun h128 => ?_)
            refine V_aload_n (i := 0) dX11_readArguments_131 rfl rfl ?_
            refine V_getC (k := 27) (q := 64) dX11_readArguments_132 (Or.inr ⟨rfl, Nat.le_of_ble_eq_true rfl⟩) rfl rfl rfl (Nat.le_of_ble_eq_true rfl) flRX11_63 ?_
            refine V_iload_n (i := 2) dX11_readArguments_135 rfl rfl ?_
            refine V_iconst_n (v := 3) dX11_readArguments_136 (by decide) ?_
            refine V_iadd_n dX11_readArguments_137 ?_
            refine V_aload_n (i := 0) dX11_readArguments_138 rfl rfl ?_
            refine V_aload_n (i := 0) dX11_readArguments_139 rfl rfl ?_
            have hsg98 := hr_sg (p := (p + 2)) hW.2.1.2
            refine V_callVF dX11_readArguments_140 (m_here (hu4.1.wr (by omega))) okX11_here lkRX11_270 (Or.inr ⟨rfl, Nat.le_of_ble_eq_true rfl⟩) rfl rfl rfl rfl (Nat.le_of_ble_eq_true rfl) ⟨Nat.le_of_ble_eq_true rfl, Nat.le_of_ble_eq_true rfl⟩ rfl ?_
            refine V_callSF dX11_readArguments_143 (m_isColour (q := (hrZ l (p + 2))) rfl (by omega) (by omega)) okX11_isColour lkRX11_127 rfl rfl (Nat.le_of_ble_eq_true rfl) ⟨Nat.le_of_ble_eq_true rfl, Nat.le_of_ble_eq_true rfl⟩ rfl ?_
            refine V_callVM dX11_readArguments_146 (m_letter1 (f := (if 97 ≤ (hrZ l (p + 2)) ∧ (hrZ l (p + 2)) ≤ 100 then 1 else 0)) (hu4.1.wr (by omega))) okX11_letter lkRX11_289 (Or.inr ⟨rfl, Nat.le_of_ble_eq_true rfl⟩) rfl rfl rfl rfl (Nat.le_of_ble_eq_true rfl) ⟨Nat.le_of_ble_eq_true rfl, Nat.le_of_ble_eq_true rfl⟩ rfl ?_
            intro u5 hu5
            refine V_iast_n (i := (t + 3)) dX11_readArguments_149 (Or.inr ⟨rfl, Nat.le_of_ble_eq_true rfl⟩) rfl (by omega) (by decide) ?_
            refine V_vret dX11_readArguments_150 rfl ?_
            have eO : agO l 4 p = false := by unfold agO; simp [d09, d19, s29]
            have eP : agP l 4 p = (p + 2) := by unfold agP; simp [d09, d19, s29]
            exact ⟨rfl, by unfold agB; rw [eO, eP]; exact (hu5.1.wr (by omega)), fun q => absurd q (by rw [eO]; decide), ((((((((((Fz.nil (P := PAr t)).trans (hu1.2.mono (fun b j q => by unfold PAr; omega))).i1 (by omega) (by unfold PAr; omega)).trans (hu2.2.mono (fun b j q => by unfold PAr; omega))).i1 (by omega) (by unfold PAr; omega)).trans (hu3.2.mono (fun b j q => by unfold PAr; omega))).trans (hu4.2.mono (fun b j q => by unfold PAr; omega))).i1 (by omega) (by unfold PAr; omega)).trans (hu5.2.mono (fun b j q => by unfold PAr; omega))).i1 (by omega) (by unfold PAr; omega))⟩
          · refine V_iconst_n (v := 1) dX11_readArguments_103 (by decide) ?_
            refine V_goto (tgt := 108) dX11_readArguments_104 (by decide) ?_
            refine V_callVM dX11_readArguments_108 (m_letter1 (f := 1) hu3.1) okX11_letter lkRX11_289 (Or.inr ⟨rfl, Nat.le_of_ble_eq_true rfl⟩) rfl rfl rfl rfl (Nat.le_of_ble_eq_true rfl) ⟨Nat.le_of_ble_eq_true rfl, Nat.le_of_ble_eq_true rfl⟩ rfl ?_
            intro u4 hu4
            refine V_goto (tgt := 125) dX11_readArguments_111 (by decide) ?_
            refine V_iast_n (i := (t + 2)) dX11_readArguments_125 (Or.inr ⟨rfl, Nat.le_of_ble_eq_true rfl⟩) rfl (by omega) (by decide) ?_
            refine V_iload_n (i := 1) dX11_readArguments_126 rfl rfl ?_
            refine V_iconst_n (v := 4) dX11_readArguments_127 (by decide) ?_
            refine V_icmp_ne_n (tgt := 150) dX11_readArguments_128 (by decide) (by omega) (by omega) (fun h128 => by exfalso; omega) (fun h128 => ?_)
            refine V_aload_n (i := 0) dX11_readArguments_131 rfl rfl ?_
            refine V_getC (k := 27) (q := 64) dX11_readArguments_132 (Or.inr ⟨rfl, Nat.le_of_ble_eq_true rfl⟩) rfl rfl rfl (Nat.le_of_ble_eq_true rfl) flRX11_63 ?_
            refine V_iload_n (i := 2) dX11_readArguments_135 rfl rfl ?_
            refine V_iconst_n (v := 3) dX11_readArguments_136 (by decide) ?_
            refine V_iadd_n dX11_readArguments_137 ?_
            refine V_aload_n (i := 0) dX11_readArguments_138 rfl rfl ?_
            refine V_aload_n (i := 0) dX11_readArguments_139 rfl rfl ?_
            have hsg99 := hr_sg (p := (p + 2)) hW.2.1.2
            refine V_callVF dX11_readArguments_140 (m_here (hu4.1.wr (by omega))) okX11_here lkRX11_270 (Or.inr ⟨rfl, Nat.le_of_ble_eq_true rfl⟩) rfl rfl rfl rfl (Nat.le_of_ble_eq_true rfl) ⟨Nat.le_of_ble_eq_true rfl, Nat.le_of_ble_eq_true rfl⟩ rfl ?_
            refine V_callSF dX11_readArguments_143 (m_isColour (q := (hrZ l (p + 2))) rfl (by omega) (by omega)) okX11_isColour lkRX11_127 rfl rfl (Nat.le_of_ble_eq_true rfl) ⟨Nat.le_of_ble_eq_true rfl, Nat.le_of_ble_eq_true rfl⟩ rfl ?_
            refine V_callVM dX11_readArguments_146 (m_letter1 (f := (if 97 ≤ (hrZ l (p + 2)) ∧ (hrZ l (p + 2)) ≤ 100 then 1 else 0)) (hu4.1.wr (by omega))) okX11_letter lkRX11_289 (Or.inr ⟨rfl, Nat.le_of_ble_eq_true rfl⟩) rfl rfl rfl rfl (Nat.le_of_ble_eq_true rfl) ⟨Nat.le_of_ble_eq_true rfl, Nat.le_of_ble_eq_true rfl⟩ rfl ?_
            intro u5 hu5
            refine V_iast_n (i := (t + 3)) dX11_readArguments_149 (Or.inr ⟨rfl, Nat.le_of_ble_eq_true rfl⟩) rfl (by omega) (by decide) ?_
            refine V_vret dX11_readArguments_150 rfl ?_
            have eO : agO l 4 p = false := by unfold agO; simp [d09, d19, s29]
            have eP : agP l 4 p = (p + 2) := by unfold agP; simp [d09, d19, s29]
            exact ⟨rfl, by unfold agB; rw [eO, eP]; exact (hu5.1.wr (by omega)), fun q => absurd q (by rw [eO]; decide), ((((((((((Fz.nil (P := PAr t)).trans (hu1.2.mono (fun b j q => by unfold PAr; omega))).i1 (by omega) (by unfold PAr; omega)).trans (hu2.2.mono (fun b j q => by unfold PAr; omega))).i1 (by omega) (by unfold PAr; omega)).trans (hu3.2.mono (fun b j q => by unfold PAr; omega))).trans (hu4.2.mono (fun b j q => by unfold PAr; omega))).i1 (by omega) (by unfold PAr; omega)).trans (hu5.2.mono (fun b j q => by unfold PAr; omega))).i1 (by omega) (by unfold PAr; omega))⟩
      · cases e9
        have d19 : isD (sg l (p + 1)) = false := hu2f
        refine V_iast_n (i := (t + 1)) dX11_readArguments_58 (Or.inr ⟨rfl, Nat.le_of_ble_eq_true rfl⟩) rfl (by omega) (by decide) ?_
        refine V_iload_n (i := 1) dX11_readArguments_59 rfl rfl ?_
        refine V_if_eq_n (tgt := 73) dX11_readArguments_60 (by decide) (by omega) (fun h60 => by exfalso; omega) (fun h60 => ?_)
        refine V_iload_n (i := 1) dX11_readArguments_63 rfl rfl ?_
        refine V_iconst_n (v := 3) dX11_readArguments_64 (by decide) ?_
        refine V_icmp_eq_n (tgt := 73) dX11_readArguments_65 (by decide) (by omega) (by omega) (fun h65 => by exfalso; omega) (fun h65 => ?_)
        refine V_iload_n (i := 1) dX11_readArguments_68 rfl rfl ?_
        refine V_iconst_n (v := 4) dX11_readArguments_69 (by decide) ?_
        refine V_icmp_ne_n (tgt := 126) dX11_readArguments_70 (by decide) (by omega) (by omega) (fun h70 => by exfalso; omega) (fun h70 => ?_)
        refine V_aload_n (i := 0) dX11_readArguments_73 rfl rfl ?_
        refine V_bipush_n (v := 32) dX11_readArguments_74 (by decide) ?_
        refine V_callVM dX11_readArguments_76 (m_expects1 (hu2.1.wr (by omega))) okX11_expects lkRX11_280 (Or.inr ⟨rfl, Nat.le_of_ble_eq_true rfl⟩) rfl rfl rfl rfl (Nat.le_of_ble_eq_true rfl) ⟨Nat.le_of_ble_eq_true rfl, Nat.le_of_ble_eq_true rfl⟩ rfl ?_
        intro u3 hu3
        refine V_aload_n (i := 0) dX11_readArguments_79 rfl rfl ?_
        refine V_getC (k := 27) (q := 64) dX11_readArguments_80 (Or.inr ⟨rfl, Nat.le_of_ble_eq_true rfl⟩) rfl rfl rfl (Nat.le_of_ble_eq_true rfl) flRX11_63 ?_
        refine V_iload_n (i := 2) dX11_readArguments_83 rfl rfl ?_
        refine V_iconst_n (v := 2) dX11_readArguments_84 (by decide) ?_
        refine V_iadd_n dX11_readArguments_85 ?_
        refine V_iload_n (i := 1) dX11_readArguments_86 rfl rfl ?_
        refine V_iconst_n (v := 4) dX11_readArguments_87 (by decide) ?_
        refine V_icmp_ne_n (tgt := 114) dX11_readArguments_88 (by decide) (by omega) (by omega) (fun h88 => by exfalso; omega) (fun h88 => ?_)
        refine V_aload_n (i := 0) dX11_readArguments_91 rfl rfl ?_
        refine V_aload_n (i := 0) dX11_readArguments_92 rfl rfl ?_
        have hsg100 := hr_sg (p := (p + 1)) hW.2.1.2
        refine V_callVF dX11_readArguments_93 (m_here hu3.1) okX11_here lkRX11_270 (Or.inr ⟨rfl, Nat.le_of_ble_eq_true rfl⟩) rfl rfl rfl rfl (Nat.le_of_ble_eq_true rfl) ⟨Nat.le_of_ble_eq_true rfl, Nat.le_of_ble_eq_true rfl⟩ rfl ?_
        have hr101 := ptZ_in (q := (hrZ l (p + 1)))
        refine V_callSF dX11_readArguments_96 (m_patternOf (q := (hrZ l (p + 1))) rfl (by omega) (by omega)) okX11_patternOf lkRX11_163 rfl rfl (Nat.le_of_ble_eq_true rfl) ⟨Nat.le_of_ble_eq_true rfl, Nat.le_of_ble_eq_true rfl⟩ rfl ?_
        refine V_iconst_z (v := -1) dX11_readArguments_99 (by decide) ?_
        refine V_icmp_eq_z (tgt := 107) dX11_readArguments_100 (by decide) rfl rfl (by omega) (by omega) (by omega) (by omega) (fun h100 => ?_) (fun h100 => ?_)
        · refine V_iconst_n (v := 0) dX11_readArguments_107 (by decide) ?_
          refine V_callVM dX11_readArguments_108 (m_letter1 (f := 0) hu3.1) okX11_letter lkRX11_289 (Or.inr ⟨rfl, Nat.le_of_ble_eq_true rfl⟩) rfl rfl rfl rfl (Nat.le_of_ble_eq_true rfl) ⟨Nat.le_of_ble_eq_true rfl, Nat.le_of_ble_eq_true rfl⟩ rfl ?_
          intro u4 hu4
          refine V_goto (tgt := 125) dX11_readArguments_111 (by decide) ?_
          refine V_iast_n (i := (t + 2)) dX11_readArguments_125 (Or.inr ⟨rfl, Nat.le_of_ble_eq_true rfl⟩) rfl (by omega) (by decide) ?_
          refine V_iload_n (i := 1) dX11_readArguments_126 rfl rfl ?_
          refine V_iconst_n (v := 4) dX11_readArguments_127 (by decide) ?_
          refine V_icmp_ne_n (tgt := 150) dX11_readArguments_128 (by decide) (by omega) (by omega) (fun h128 => by exfalso; omega) (fun h128 => ?_)
          refine V_aload_n (i := 0) dX11_readArguments_131 rfl rfl ?_
          refine V_getC (k := 27) (q := 64) dX11_readArguments_132 (Or.inr ⟨rfl, Nat.le_of_ble_eq_true rfl⟩) rfl rfl rfl (Nat.le_of_ble_eq_true rfl) flRX11_63 ?_
          refine V_iload_n (i := 2) dX11_readArguments_135 rfl rfl ?_
          refine V_iconst_n (v := 3) dX11_readArguments_136 (by decide) ?_
          refine V_iadd_n dX11_readArguments_137 ?_
          refine V_aload_n (i := 0) dX11_readArguments_138 rfl rfl ?_
          refine V_aload_n (i := 0) dX11_readArguments_139 rfl rfl ?_
          have hsg102 := hr_sg (p := (p + 1)) hW.2.1.2
          refine V_callVF dX11_readArguments_140 (m_here (hu4.1.wr (by omega))) okX11_here lkRX11_270 (Or.inr ⟨rfl, Nat.le_of_ble_eq_true rfl⟩) rfl rfl rfl rfl (Nat.le_of_ble_eq_true rfl) ⟨Nat.le_of_ble_eq_true rfl, Nat.le_of_ble_eq_true rfl⟩ rfl ?_
          refine V_callSF dX11_readArguments_143 (m_isColour (q := (hrZ l (p + 1))) rfl (by omega) (by omega)) okX11_isColour lkRX11_127 rfl rfl (Nat.le_of_ble_eq_true rfl) ⟨Nat.le_of_ble_eq_true rfl, Nat.le_of_ble_eq_true rfl⟩ rfl ?_
          refine V_callVM dX11_readArguments_146 (m_letter1 (f := (if 97 ≤ (hrZ l (p + 1)) ∧ (hrZ l (p + 1)) ≤ 100 then 1 else 0)) (hu4.1.wr (by omega))) okX11_letter lkRX11_289 (Or.inr ⟨rfl, Nat.le_of_ble_eq_true rfl⟩) rfl rfl rfl rfl (Nat.le_of_ble_eq_true rfl) ⟨Nat.le_of_ble_eq_true rfl, Nat.le_of_ble_eq_true rfl⟩ rfl ?_
          intro u5 hu5
          refine V_iast_n (i := (t + 3)) dX11_readArguments_149 (Or.inr ⟨rfl, Nat.le_of_ble_eq_true rfl⟩) rfl (by omega) (by decide) ?_
          refine V_vret dX11_readArguments_150 rfl ?_
          have eO : agO l 4 p = false := by unfold agO; simp [d09, d19]
          have eP : agP l 4 p = (p + 1) := by unfold agP; simp [d09, d19]
          exact ⟨rfl, by unfold agB; rw [eO, eP]; exact (hu5.1.wr (by omega)), fun q => absurd q (by rw [eO]; decide), ((((((((((Fz.nil (P := PAr t)).trans (hu1.2.mono (fun b j q => by unfold PAr; omega))).i1 (by omega) (by unfold PAr; omega)).trans (hu2.2.mono (fun b j q => by unfold PAr; omega))).i1 (by omega) (by unfold PAr; omega)).trans (hu3.2.mono (fun b j q => by unfold PAr; omega))).trans (hu4.2.mono (fun b j q => by unfold PAr; omega))).i1 (by omega) (by unfold PAr; omega)).trans (hu5.2.mono (fun b j q => by unfold PAr; omega))).i1 (by omega) (by unfold PAr; omega))⟩
        · refine V_iconst_n (v := 1) dX11_readArguments_103 (by decide) ?_
          refine V_goto (tgt := 108) dX11_readArguments_104 (by decide) ?_
          refine V_callVM dX11_readArguments_108 (m_letter1 (f := 1) hu3.1) okX11_letter lkRX11_289 (Or.inr ⟨rfl, Nat.le_of_ble_eq_true rfl⟩) rfl rfl rfl rfl (Nat.le_of_ble_eq_true rfl) ⟨Nat.le_of_ble_eq_true rfl, Nat.le_of_ble_eq_true rfl⟩ rfl ?_
          intro u4 hu4
          refine V_goto (tgt := 125) dX11_readArguments_111 (by decide) ?_
          refine V_iast_n (i := (t + 2)) dX11_readArguments_125 (Or.inr ⟨rfl, Nat.le_of_ble_eq_true rfl⟩) rfl (by omega) (by decide) ?_
          refine V_iload_n (i := 1) dX11_readArguments_126 rfl rfl ?_
          refine V_iconst_n (v := 4) dX11_readArguments_127 (by decide) ?_
          refine V_icmp_ne_n (tgt := 150) dX11_readArguments_128 (by decide) (by omega) (by omega) (fun h128 => by exfalso; omega) (fun h128 => ?_)
          refine V_aload_n (i := 0) dX11_readArguments_131 rfl rfl ?_
          refine V_getC (k := 27) (q := 64) dX11_readArguments_132 (Or.inr ⟨rfl, Nat.le_of_ble_eq_true rfl⟩) rfl rfl rfl (Nat.le_of_ble_eq_true rfl) flRX11_63 ?_
          refine V_iload_n (i := 2) dX11_readArguments_135 rfl rfl ?_
          refine V_iconst_n (v := 3) dX11_readArguments_136 (by decide) ?_
          refine V_iadd_n dX11_readArguments_137 ?_
          refine V_aload_n (i := 0) dX11_readArguments_138 rfl rfl ?_
          refine V_aload_n (i := 0) dX11_readArguments_139 rfl rfl ?_
          have hsg103 := hr_sg (p := (p + 1)) hW.2.1.2
          refine V_callVF dX11_readArguments_140 (m_here (hu4.1.wr (by omega))) okX11_here lkRX11_270 (Or.inr ⟨rfl, Nat.le_of_ble_eq_true rfl⟩) rfl rfl rfl rfl (Nat.le_of_ble_eq_true rfl) ⟨Nat.le_of_ble_eq_true rfl, Nat.le_of_ble_eq_true rfl⟩ rfl ?_
          refine V_callSF dX11_readArguments_143 (m_isColour (q := (hrZ l (p + 1))) rfl (by omega) (by omega)) okX11_isColour lkRX11_127 rfl rfl (Nat.le_of_ble_eq_true rfl) ⟨Nat.le_of_ble_eq_true rfl, Nat.le_of_ble_eq_true rfl⟩ rfl ?_
          refine V_callVM dX11_readArguments_146 (m_letter1 (f := (if 97 ≤ (hrZ l (p + 1)) ∧ (hrZ l (p + 1)) ≤ 100 then 1 else 0)) (hu4.1.wr (by omega))) okX11_letter lkRX11_289 (Or.inr ⟨rfl, Nat.le_of_ble_eq_true rfl⟩) rfl rfl rfl rfl (Nat.le_of_ble_eq_true rfl) ⟨Nat.le_of_ble_eq_true rfl, Nat.le_of_ble_eq_true rfl⟩ rfl ?_
          intro u5 hu5
          refine V_iast_n (i := (t + 3)) dX11_readArguments_149 (Or.inr ⟨rfl, Nat.le_of_ble_eq_true rfl⟩) rfl (by omega) (by decide) ?_
          refine V_vret dX11_readArguments_150 rfl ?_
          have eO : agO l 4 p = false := by unfold agO; simp [d09, d19]
          have eP : agP l 4 p = (p + 1) := by unfold agP; simp [d09, d19]
          exact ⟨rfl, by unfold agB; rw [eO, eP]; exact (hu5.1.wr (by omega)), fun q => absurd q (by rw [eO]; decide), ((((((((((Fz.nil (P := PAr t)).trans (hu1.2.mono (fun b j q => by unfold PAr; omega))).i1 (by omega) (by unfold PAr; omega)).trans (hu2.2.mono (fun b j q => by unfold PAr; omega))).i1 (by omega) (by unfold PAr; omega)).trans (hu3.2.mono (fun b j q => by unfold PAr; omega))).trans (hu4.2.mono (fun b j q => by unfold PAr; omega))).i1 (by omega) (by unfold PAr; omega)).trans (hu5.2.mono (fun b j q => by unfold PAr; omega))).i1 (by omega) (by unfold PAr; omega))⟩
    · cases e9
      have d09 : isD (sg l p) = false := hu1f
      refine V_iast_n (i := t) dX11_readArguments_46 (Or.inr ⟨rfl, Nat.le_of_ble_eq_true rfl⟩) rfl (by omega) (by decide) ?_
      refine V_aload_n (i := 0) dX11_readArguments_47 rfl rfl ?_
      refine V_getC (k := 27) (q := 64) dX11_readArguments_48 (Or.inr ⟨rfl, Nat.le_of_ble_eq_true rfl⟩) rfl rfl rfl (Nat.le_of_ble_eq_true rfl) flRX11_63 ?_
      refine V_iload_n (i := 2) dX11_readArguments_51 rfl rfl ?_
      refine V_iconst_n (v := 1) dX11_readArguments_52 (by decide) ?_
      refine V_iadd_n dX11_readArguments_53 ?_
      refine V_aload_n (i := 0) dX11_readArguments_54 rfl rfl ?_
      refine V_callVM dX11_readArguments_55 (m_digit1 (hu1.1.wr (by omega))) okX11_digit lkRX11_277 (Or.inr ⟨rfl, Nat.le_of_ble_eq_true rfl⟩) rfl rfl rfl rfl (Nat.le_of_ble_eq_true rfl) ⟨Nat.le_of_ble_eq_true rfl, Nat.le_of_ble_eq_true rfl⟩ rfl ?_
      intro u2 hu2
      refine V_iast_n (i := (t + 1)) dX11_readArguments_58 (Or.inr ⟨rfl, Nat.le_of_ble_eq_true rfl⟩) rfl (by omega) (by decide) ?_
      refine V_iload_n (i := 1) dX11_readArguments_59 rfl rfl ?_
      refine V_if_eq_n (tgt := 73) dX11_readArguments_60 (by decide) (by omega) (fun h60 => by exfalso; omega) (fun h60 => ?_)
      refine V_iload_n (i := 1) dX11_readArguments_63 rfl rfl ?_
      refine V_iconst_n (v := 3) dX11_readArguments_64 (by decide) ?_
      refine V_icmp_eq_n (tgt := 73) dX11_readArguments_65 (by decide) (by omega) (by omega) (fun h65 => by exfalso; omega) (fun h65 => ?_)
      refine V_iload_n (i := 1) dX11_readArguments_68 rfl rfl ?_
      refine V_iconst_n (v := 4) dX11_readArguments_69 (by decide) ?_
      refine V_icmp_ne_n (tgt := 126) dX11_readArguments_70 (by decide) (by omega) (by omega) (fun h70 => by exfalso; omega) (fun h70 => ?_)
      refine V_aload_n (i := 0) dX11_readArguments_73 rfl rfl ?_
      refine V_bipush_n (v := 32) dX11_readArguments_74 (by decide) ?_
      refine V_callVM dX11_readArguments_76 (m_expects1 (hu2.1.wr (by omega))) okX11_expects lkRX11_280 (Or.inr ⟨rfl, Nat.le_of_ble_eq_true rfl⟩) rfl rfl rfl rfl (Nat.le_of_ble_eq_true rfl) ⟨Nat.le_of_ble_eq_true rfl, Nat.le_of_ble_eq_true rfl⟩ rfl ?_
      intro u3 hu3
      refine V_aload_n (i := 0) dX11_readArguments_79 rfl rfl ?_
      refine V_getC (k := 27) (q := 64) dX11_readArguments_80 (Or.inr ⟨rfl, Nat.le_of_ble_eq_true rfl⟩) rfl rfl rfl (Nat.le_of_ble_eq_true rfl) flRX11_63 ?_
      refine V_iload_n (i := 2) dX11_readArguments_83 rfl rfl ?_
      refine V_iconst_n (v := 2) dX11_readArguments_84 (by decide) ?_
      refine V_iadd_n dX11_readArguments_85 ?_
      refine V_iload_n (i := 1) dX11_readArguments_86 rfl rfl ?_
      refine V_iconst_n (v := 4) dX11_readArguments_87 (by decide) ?_
      refine V_icmp_ne_n (tgt := 114) dX11_readArguments_88 (by decide) (by omega) (by omega) (fun h88 => by exfalso; omega) (fun h88 => ?_)
      refine V_aload_n (i := 0) dX11_readArguments_91 rfl rfl ?_
      refine V_aload_n (i := 0) dX11_readArguments_92 rfl rfl ?_
      have hsg104 := hr_sg (p := p) hW.2.1.2
      refine V_callVF dX11_readArguments_93 (m_here hu3.1) okX11_here lkRX11_270 (Or.inr ⟨rfl, Nat.le_of_ble_eq_true rfl⟩) rfl rfl rfl rfl (Nat.le_of_ble_eq_true rfl) ⟨Nat.le_of_ble_eq_true rfl, Nat.le_of_ble_eq_true rfl⟩ rfl ?_
      have hr105 := ptZ_in (q := (hrZ l p))
      refine V_callSF dX11_readArguments_96 (m_patternOf (q := (hrZ l p)) rfl (by omega) (by omega)) okX11_patternOf lkRX11_163 rfl rfl (Nat.le_of_ble_eq_true rfl) ⟨Nat.le_of_ble_eq_true rfl, Nat.le_of_ble_eq_true rfl⟩ rfl ?_
      refine V_iconst_z (v := -1) dX11_readArguments_99 (by decide) ?_
      refine V_icmp_eq_z (tgt := 107) dX11_readArguments_100 (by decide) rfl rfl (by omega) (by omega) (by omega) (by omega) (fun h100 => ?_) (fun h100 => ?_)
      · refine V_iconst_n (v := 0) dX11_readArguments_107 (by decide) ?_
        refine V_callVM dX11_readArguments_108 (m_letter1 (f := 0) hu3.1) okX11_letter lkRX11_289 (Or.inr ⟨rfl, Nat.le_of_ble_eq_true rfl⟩) rfl rfl rfl rfl (Nat.le_of_ble_eq_true rfl) ⟨Nat.le_of_ble_eq_true rfl, Nat.le_of_ble_eq_true rfl⟩ rfl ?_
        intro u4 hu4
        refine V_goto (tgt := 125) dX11_readArguments_111 (by decide) ?_
        refine V_iast_n (i := (t + 2)) dX11_readArguments_125 (Or.inr ⟨rfl, Nat.le_of_ble_eq_true rfl⟩) rfl (by omega) (by decide) ?_
        refine V_iload_n (i := 1) dX11_readArguments_126 rfl rfl ?_
        refine V_iconst_n (v := 4) dX11_readArguments_127 (by decide) ?_
        refine V_icmp_ne_n (tgt := 150) dX11_readArguments_128 (by decide) (by omega) (by omega) (fun h128 => by exfalso; omega) (fun h128 => ?_)
        refine V_aload_n (i := 0) dX11_readArguments_131 rfl rfl ?_
        refine V_getC (k := 27) (q := 64) dX11_readArguments_132 (Or.inr ⟨rfl, Nat.le_of_ble_eq_true rfl⟩) rfl rfl rfl (Nat.le_of_ble_eq_true rfl) flRX11_63 ?_
        refine V_iload_n (i := 2) dX11_readArguments_135 rfl rfl ?_
        refine V_iconst_n (v := 3) dX11_readArguments_136 (by decide) ?_
        refine V_iadd_n dX11_readArguments_137 ?_
        refine V_aload_n (i := 0) dX11_readArguments_138 rfl rfl ?_
        refine V_aload_n (i := 0) dX11_readArguments_139 rfl rfl ?_
        have hsg106 := hr_sg (p := p) hW.2.1.2
        refine V_callVF dX11_readArguments_140 (m_here (hu4.1.wr (by omega))) okX11_here lkRX11_270 (Or.inr ⟨rfl, Nat.le_of_ble_eq_true rfl⟩) rfl rfl rfl rfl (Nat.le_of_ble_eq_true rfl) ⟨Nat.le_of_ble_eq_true rfl, Nat.le_of_ble_eq_true rfl⟩ rfl ?_
        refine V_callSF dX11_readArguments_143 (m_isColour (q := (hrZ l p)) rfl (by omega) (by omega)) okX11_isColour lkRX11_127 rfl rfl (Nat.le_of_ble_eq_true rfl) ⟨Nat.le_of_ble_eq_true rfl, Nat.le_of_ble_eq_true rfl⟩ rfl ?_
        refine V_callVM dX11_readArguments_146 (m_letter1 (f := (if 97 ≤ (hrZ l p) ∧ (hrZ l p) ≤ 100 then 1 else 0)) (hu4.1.wr (by omega))) okX11_letter lkRX11_289 (Or.inr ⟨rfl, Nat.le_of_ble_eq_true rfl⟩) rfl rfl rfl rfl (Nat.le_of_ble_eq_true rfl) ⟨Nat.le_of_ble_eq_true rfl, Nat.le_of_ble_eq_true rfl⟩ rfl ?_
        intro u5 hu5
        refine V_iast_n (i := (t + 3)) dX11_readArguments_149 (Or.inr ⟨rfl, Nat.le_of_ble_eq_true rfl⟩) rfl (by omega) (by decide) ?_
        refine V_vret dX11_readArguments_150 rfl ?_
        have eO : agO l 4 p = false := by unfold agO; simp [d09]
        have eP : agP l 4 p = p := by unfold agP; simp [d09]
        exact ⟨rfl, by unfold agB; rw [eO, eP]; exact (hu5.1.wr (by omega)), fun q => absurd q (by rw [eO]; decide), ((((((((((Fz.nil (P := PAr t)).trans (hu1.2.mono (fun b j q => by unfold PAr; omega))).i1 (by omega) (by unfold PAr; omega)).trans (hu2.2.mono (fun b j q => by unfold PAr; omega))).i1 (by omega) (by unfold PAr; omega)).trans (hu3.2.mono (fun b j q => by unfold PAr; omega))).trans (hu4.2.mono (fun b j q => by unfold PAr; omega))).i1 (by omega) (by unfold PAr; omega)).trans (hu5.2.mono (fun b j q => by unfold PAr; omega))).i1 (by omega) (by unfold PAr; omega))⟩
      · refine V_iconst_n (v := 1) dX11_readArguments_103 (by decide) ?_
        refine V_goto (tgt := 108) dX11_readArguments_104 (by decide) ?_
        refine V_callVM dX11_readArguments_108 (m_letter1 (f := 1) hu3.1) okX11_letter lkRX11_289 (Or.inr ⟨rfl, Nat.le_of_ble_eq_true rfl⟩) rfl rfl rfl rfl (Nat.le_of_ble_eq_true rfl) ⟨Nat.le_of_ble_eq_true rfl, Nat.le_of_ble_eq_true rfl⟩ rfl ?_
        intro u4 hu4
        refine V_goto (tgt := 125) dX11_readArguments_111 (by decide) ?_
        refine V_iast_n (i := (t + 2)) dX11_readArguments_125 (Or.inr ⟨rfl, Nat.le_of_ble_eq_true rfl⟩) rfl (by omega) (by decide) ?_
        refine V_iload_n (i := 1) dX11_readArguments_126 rfl rfl ?_
        refine V_iconst_n (v := 4) dX11_readArguments_127 (by decide) ?_
        refine V_icmp_ne_n (tgt := 150) dX11_readArguments_128 (by decide) (by omega) (by omega) (fun h128 => by exfalso; omega) (fun h128 => ?_)
        refine V_aload_n (i := 0) dX11_readArguments_131 rfl rfl ?_
        refine V_getC (k := 27) (q := 64) dX11_readArguments_132 (Or.inr ⟨rfl, Nat.le_of_ble_eq_true rfl⟩) rfl rfl rfl (Nat.le_of_ble_eq_true rfl) flRX11_63 ?_
        refine V_iload_n (i := 2) dX11_readArguments_135 rfl rfl ?_
        refine V_iconst_n (v := 3) dX11_readArguments_136 (by decide) ?_
        refine V_iadd_n dX11_readArguments_137 ?_
        refine V_aload_n (i := 0) dX11_readArguments_138 rfl rfl ?_
        refine V_aload_n (i := 0) dX11_readArguments_139 rfl rfl ?_
        have hsg107 := hr_sg (p := p) hW.2.1.2
        refine V_callVF dX11_readArguments_140 (m_here (hu4.1.wr (by omega))) okX11_here lkRX11_270 (Or.inr ⟨rfl, Nat.le_of_ble_eq_true rfl⟩) rfl rfl rfl rfl (Nat.le_of_ble_eq_true rfl) ⟨Nat.le_of_ble_eq_true rfl, Nat.le_of_ble_eq_true rfl⟩ rfl ?_
        refine V_callSF dX11_readArguments_143 (m_isColour (q := (hrZ l p)) rfl (by omega) (by omega)) okX11_isColour lkRX11_127 rfl rfl (Nat.le_of_ble_eq_true rfl) ⟨Nat.le_of_ble_eq_true rfl, Nat.le_of_ble_eq_true rfl⟩ rfl ?_
        refine V_callVM dX11_readArguments_146 (m_letter1 (f := (if 97 ≤ (hrZ l p) ∧ (hrZ l p) ≤ 100 then 1 else 0)) (hu4.1.wr (by omega))) okX11_letter lkRX11_289 (Or.inr ⟨rfl, Nat.le_of_ble_eq_true rfl⟩) rfl rfl rfl rfl (Nat.le_of_ble_eq_true rfl) ⟨Nat.le_of_ble_eq_true rfl, Nat.le_of_ble_eq_true rfl⟩ rfl ?_
        intro u5 hu5
        refine V_iast_n (i := (t + 3)) dX11_readArguments_149 (Or.inr ⟨rfl, Nat.le_of_ble_eq_true rfl⟩) rfl (by omega) (by decide) ?_
        refine V_vret dX11_readArguments_150 rfl ?_
        have eO : agO l 4 p = false := by unfold agO; simp [d09]
        have eP : agP l 4 p = p := by unfold agP; simp [d09]
        exact ⟨rfl, by unfold agB; rw [eO, eP]; exact (hu5.1.wr (by omega)), fun q => absurd q (by rw [eO]; decide), ((((((((((Fz.nil (P := PAr t)).trans (hu1.2.mono (fun b j q => by unfold PAr; omega))).i1 (by omega) (by unfold PAr; omega)).trans (hu2.2.mono (fun b j q => by unfold PAr; omega))).i1 (by omega) (by unfold PAr; omega)).trans (hu3.2.mono (fun b j q => by unfold PAr; omega))).trans (hu4.2.mono (fun b j q => by unfold PAr; omega))).i1 (by omega) (by unfold PAr; omega)).trans (hu5.2.mono (fun b j q => by unfold PAr; omega))).i1 (by omega) (by unfold PAr; omega))⟩
  · refine V_iload_n (i := 1) dX11_readArguments_0 rfl rfl ?_
    refine V_iconst_n (v := 5) dX11_readArguments_1 (by decide) ?_
    refine V_icmp_ne_n (tgt := 18) dX11_readArguments_2 (by decide) (by omega) (by omega) (fun h2 => by exfalso; omega) (fun h2 => ?_)
    refine V_aload_n (i := 0) dX11_readArguments_5 rfl rfl ?_
    refine V_getC (k := 27) (q := 64) dX11_readArguments_6 (Or.inr ⟨rfl, Nat.le_of_ble_eq_true rfl⟩) rfl rfl rfl (Nat.le_of_ble_eq_true rfl) flRX11_63 ?_
    refine V_iload_n (i := 2) dX11_readArguments_9 rfl rfl ?_
    refine V_aload_n (i := 0) dX11_readArguments_10 rfl rfl ?_
    refine V_callV dX11_readArguments_11 (m_ruleWord hW) okX11_ruleWord lkRX11_283 (Or.inr ⟨rfl, Nat.le_of_ble_eq_true rfl⟩) rfl rfl rfl rfl (Nat.le_of_ble_eq_true rfl) ⟨Nat.le_of_ble_eq_true rfl, Nat.le_of_ble_eq_true rfl⟩ rfl ⟨Nat.zero_le _, Nat.zero_le _⟩ (fun v9 u1 hu1 => ?_) (fun E9 w9 h9 => by rcases h9 with h9 | ⟨x9, h9⟩ <;> cases h9.2.1)
    rcases hu1 with ⟨hu1f, e9, hu1⟩ | ⟨x9, hu1f, e9, hu1⟩
    · cases e9
      have hok9 := hu1f
      refine V_iast_n (i := t) dX11_readArguments_14 (Or.inr ⟨rfl, Nat.le_of_ble_eq_true rfl⟩) rfl (by omega) (by decide) ?_
      refine V_goto (tgt := 150) dX11_readArguments_15 (by decide) ?_
      refine V_vret dX11_readArguments_150 rfl ?_
      have eO : agO l 5 p = true := hok9
      exact ⟨rfl, by unfold agB; rw [eO]; exact (hu1.1.wr (by omega)), fun _ => ⟨pI_at, fun q => absurd q (by decide), fun q => absurd q (by decide), fun q => absurd q (by decide)⟩, (((Fz.nil (P := PAr t)).trans (hu1.2.mono (fun b j q => by unfold PAr; omega))).i1 (by omega) (by unfold PAr; omega))⟩
    · cases e9
      have hok9 := hu1f
      refine V_iast_n (i := t) dX11_readArguments_14 (Or.inr ⟨rfl, Nat.le_of_ble_eq_true rfl⟩) rfl (by omega) (by decide) ?_
      refine V_goto (tgt := 150) dX11_readArguments_15 (by decide) ?_
      refine V_vret dX11_readArguments_150 rfl ?_
      have eO : agO l 5 p = false := hok9
      exact ⟨rfl, by unfold agB; rw [eO]; exact (hu1.1.wr (by omega)), fun q => absurd q (by rw [eO]; decide), (((Fz.nil (P := PAr t)).trans (hu1.2.mono (fun b j q => by unfold PAr; omega))).i1 (by omega) (by unfold PAr; omega))⟩
  · refine V_iload_n (i := 1) dX11_readArguments_0 rfl rfl ?_
    refine V_iconst_n (v := 5) dX11_readArguments_1 (by decide) ?_
    refine V_icmp_ne_n (tgt := 18) dX11_readArguments_2 (by decide) (by omega) (by omega) (fun h2 => ?_) (fun h2 => by exfalso; omega)
    refine V_iload_n (i := 1) dX11_readArguments_18 rfl rfl ?_
    refine V_bipush_n (v := 6) dX11_readArguments_19 (by decide) ?_
    refine V_icmp_ne_n (tgt := 37) dX11_readArguments_21 (by decide) (by omega) (by omega) (fun h21 => by exfalso; omega) (fun h21 => ?_)
    refine V_aload_n (i := 0) dX11_readArguments_24 rfl rfl ?_
    refine V_getC (k := 27) (q := 64) dX11_readArguments_25 (Or.inr ⟨rfl, Nat.le_of_ble_eq_true rfl⟩) rfl rfl rfl (Nat.le_of_ble_eq_true rfl) flRX11_63 ?_
    refine V_iload_n (i := 2) dX11_readArguments_28 rfl rfl ?_
    refine V_aload_n (i := 0) dX11_readArguments_29 rfl rfl ?_
    refine V_callV dX11_readArguments_30 (m_number hW) okX11_number lkRX11_286 (Or.inr ⟨rfl, Nat.le_of_ble_eq_true rfl⟩) rfl rfl rfl rfl (Nat.le_of_ble_eq_true rfl) ⟨Nat.le_of_ble_eq_true rfl, Nat.le_of_ble_eq_true rfl⟩ rfl ⟨Nat.zero_le _, Nat.zero_le _⟩ (fun v9 u1 hu1 => ?_) (fun E9 w9 h9 => by rcases h9 with h9 | h9 | h9 <;> cases h9.2.1)
    rcases hu1 with ⟨hu1f, e9, hu1⟩ | ⟨hu1f, e9, hu1⟩ | ⟨hu1f, e9, hu1⟩
    · cases e9
      have d09 := hu1f
      refine V_iast_n (i := t) dX11_readArguments_33 (Or.inr ⟨rfl, Nat.le_of_ble_eq_true rfl⟩) rfl (by omega) (by decide) ?_
      refine V_goto (tgt := 150) dX11_readArguments_34 (by decide) ?_
      refine V_vret dX11_readArguments_150 rfl ?_
      have eO : agO l 6 p = false := d09
      have eP : agP l 6 p = p := by unfold agP; simp [d09]
      exact ⟨rfl, by unfold agB; rw [eO, eP]; exact (hu1.1.wr (by omega)), fun q => absurd q (by rw [eO]; decide), (((Fz.nil (P := PAr t)).trans (hu1.2.mono (fun b j q => by unfold PAr; omega))).i1 (by omega) (by unfold PAr; omega))⟩
    · cases e9
      have d09 := hu1f.1
      have d19 := hu1f.2
      refine V_iast_n (i := t) dX11_readArguments_33 (Or.inr ⟨rfl, Nat.le_of_ble_eq_true rfl⟩) rfl (by omega) (by decide) ?_
      refine V_goto (tgt := 150) dX11_readArguments_34 (by decide) ?_
      refine V_vret dX11_readArguments_150 rfl ?_
      have eO : agO l 6 p = true := d09
      have eP : agP l 6 p = (p + 1) := by unfold agP; simp [d09, d19]
      have eC : agC l 6 p = (sg l p - 48, 0, 0, 0) := by unfold agC; simp [d19]
      exact ⟨rfl, by unfold agB; rw [eO, eP]; exact (hu1.1.wr (by omega)), fun _ => by rw [eC]; exact ⟨pI_at, fun q => absurd q (by decide), fun q => absurd q (by decide), fun q => absurd q (by decide)⟩, (((Fz.nil (P := PAr t)).trans (hu1.2.mono (fun b j q => by unfold PAr; omega))).i1 (by omega) (by unfold PAr; omega))⟩
    · cases e9
      have d09 := hu1f.1
      have d19 := hu1f.2
      refine V_iast_n (i := t) dX11_readArguments_33 (Or.inr ⟨rfl, Nat.le_of_ble_eq_true rfl⟩) rfl (by omega) (by decide) ?_
      refine V_goto (tgt := 150) dX11_readArguments_34 (by decide) ?_
      refine V_vret dX11_readArguments_150 rfl ?_
      have eO : agO l 6 p = true := d09
      have eP : agP l 6 p = (p + 1 + 1) := by unfold agP; simp [d09, d19]
      have eC : agC l 6 p = (10 * (sg l p - 48) + (sg l (p + 1) - 48), 0, 0, 0) := by unfold agC; simp [d19]
      exact ⟨rfl, by unfold agB; rw [eO, eP]; exact (hu1.1.wr (by omega)), fun _ => by rw [eC]; exact ⟨pI_at, fun q => absurd q (by decide), fun q => absurd q (by decide), fun q => absurd q (by decide)⟩, (((Fz.nil (P := PAr t)).trans (hu1.2.mono (fun b j q => by unfold PAr; omega))).i1 (by omega) (by unfold PAr; omega))⟩
end MMPAR2
