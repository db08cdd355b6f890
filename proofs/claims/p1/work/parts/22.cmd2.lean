/-! THE COMMANDS: words, arguments, a command, their number. Printed by wip/whole/gen/mk22.py. -/
section MCMD2
theorem mtc_fit {l : List Nat} {p t : Nat} (ht : IsT t) (hp : p ≤ 60) (hl : l.length ≤ 60) : p + lk l p t ≤ 60 := by
  by_cases h : lk l p t = 0
  · omega
  · have h1 := mtc_sg (l := l) (p := p) (t := tx t) (tx t).length (lk l p t - 1) (by show _ < lk l p t; omega)
    have h2 := lk_le (l := l) (p := p) (t := t)
    have h3 := tx_pos ht (lk l p t - 1) (by omega)
    have h4 := sg_pos (l := l) (p := p + (lk l p t - 1)) (by omega)
    omega
theorem lkM_fit {l : List Nat} {p b n : Nat} (hb : ∀ k, k < n → IsT (b + k)) (hp : p ≤ 60) (hl : l.length ≤ 60) : p + lkM l p b n ≤ 60 := by
  have := lkM_le (l := l) (p := p) (b := b) (m := 60 - p) n (fun k hk => by have := mtc_fit (hb k hk) hp hl; omega)
  omega
/-- null, or a place above b -/
def vO (b : Nat) (o : Option Nat) : Value := match o with
  | none => .null
  | some v => .ref (b + v)
set_option maxRecDepth 100000 in
set_option maxHeartbeats 1000000 in
theorem c_readVerb {l : List Nat} {p v ro co nu wl cq pt rl : Nat} {w : Wd} (hT : TxW w l p v ro co nu wl cq pt rl) : Ct 1 MX1_readVerb 6 0 0 [.ref 45] w (fun o w1 => (vbF l p = none ∧ o = Sum.inl (some Value.null) ∧ TxW w1 l (vbP l p) v ro co nu wl cq pt rl ∧ Fr In45 w w1) ∨ (∃ k, (vbF l p = some k ∧ k < 7) ∧ o = Sum.inl (some (Value.ref (1020 + k))) ∧ TxW w1 l (vbP l p) v ro co nu wl cq pt rl ∧ Fr In45 w w1)) := by
  refine Ct_of (by decide +kernel) rfl (Nat.le_of_ble_eq_true rfl) rfl ?_
  have hl60 := hT.2.1.1
  have hp60 := hT.2.2.1.2
  have hv7 := hT.2.2.2.1.2
  have hro9 := hT.2.2.2.2.1.2
  have hco9 := hT.2.2.2.2.2.1.2
  have hnu9 := hT.2.2.2.2.2.2.1.2
  have hwl2 := hT.2.2.2.2.2.2.2.1.2
  have hcq9 := hT.2.2.2.2.2.2.2.2.1.2
  have hpt4 := hT.2.2.2.2.2.2.2.2.2.1.2
  have hrl3 := hT.2.2.2.2.2.2.2.2.2.2.2
  have hsg := @sg_le _ _ _ _ _ _ _ _ _ _ _ p hT
  have lp : ∀ (fu i : Nat) , i ≤ 7 → 7 - i < fu → V 1 MX1_readVerb 6 0 0 (fun o w1 => (vbF l p = none ∧ o = Sum.inl (some Value.null) ∧ TxW w1 l (vbP l p) v ro co nu wl cq pt rl ∧ Fr In45 w w1) ∨ (∃ k, (vbF l p = some k ∧ k < 7) ∧ o = Sum.inl (some (Value.ref (1020 + k))) ∧ TxW w1 l (vbP l p) v ro co nu wl cq pt rl ∧ Fr In45 w w1)) (fun _ _ => True) 0 0 6 [some (.ref 45), some (vO 1020 (lkF l p 1120 i)), some (.int (nI (lkM l p 1120 i))), some (.int (nI i)), none] [] w := by
    intro fu
    induction fu with
    | zero => intro i  h1 h2; omega
    | succ fu ih =>
      intro i  hib hfu
      have hfit := lkM_fit (l := l) (p := p) (b := 1120) (n := i) (fun k hk => vb_T (by omega)) hp60 hl60
      have e1 : lkM l p 1120 (i + 1) = max (lkM l p 1120 i) (lk l p (1120 + i)) := rfl
      have e2 : lkF l p 1120 (i + 1) = if lk l p (1120 + i) = (tx (1120 + i)).length then some i else lkF l p 1120 i := rfl
      refine V_iload_n (i := 3) dX1_readVerb_6 rfl rfl ?_
      refine V_getsN (host := "ButtonReef") dX1_readVerb_7 (List.mem_of_getElem? (i := 16) rfl) (by decide +kernel) ?_
      refine V_tlen (v := nI 7) dX1_readVerb_10 (List.mem_of_getElem? (i := 2) rfl) rfl ?_
      refine V_icmp_ge_n (tgt := 63) dX1_readVerb_11 (by decide) (by omega) (by omega) (fun h11 => ?_) (fun h11 => ?_)
      · obtain rfl : i = 7 := by omega
        have hvp : vbP l p = p + lkM l p 1120 7 := rfl
        rcases hf : lkF l p 1120 7 with _ | k9
        · refine V_aload_n (i := 0) dX1_readVerb_63 rfl rfl ?_
          refine V_dup dX1_readVerb_64 rfl ?_
          refine V_getI (k := 2) dX1_readVerb_65 (Or.inr ⟨rfl, Nat.le_of_ble_eq_true rfl⟩) rfl rfl rfl (Nat.le_of_ble_eq_true rfl) flRX1_19 ?_
          refine V_top (y := nI p) hT.2.2.1.1 ?_
          refine V_iload_n (i := 2) dX1_readVerb_68 rfl rfl ?_
          refine V_iadd_n dX1_readVerb_69 ?_
          refine V_putI (k := 2) (ty := .int) dX1_readVerb_70 (Or.inr ⟨rfl, Nat.le_of_ble_eq_true rfl⟩) rfl rfl rfl (Nat.le_of_ble_eq_true rfl) flRX1_19 rfl (by decide +kernel) rfl rfl ?_
          refine V_aload_nN (i := 1) dX1_readVerb_73 rfl rfl ?_
          refine V_aretN dX1_readVerb_74 rfl ?_
          exact Or.inl ⟨hf, rfl, ⟨(OutI.wI (by omega) (by omega) hT.1), hT.2.1, ⟨pI_at, by omega⟩, ⟨hT.2.2.2.1.1, hT.2.2.2.1.2⟩, ⟨(pI_ne (by omega) hT.2.2.2.2.1.1), hT.2.2.2.2.1.2⟩, ⟨(pI_ne (by omega) hT.2.2.2.2.2.1.1), hT.2.2.2.2.2.1.2⟩, ⟨(pI_ne (by omega) hT.2.2.2.2.2.2.1.1), hT.2.2.2.2.2.2.1.2⟩, ⟨(pI_ne (by omega) hT.2.2.2.2.2.2.2.1.1), hT.2.2.2.2.2.2.2.1.2⟩, ⟨(pI_ne (by omega) hT.2.2.2.2.2.2.2.2.1.1), hT.2.2.2.2.2.2.2.2.1.2⟩, ⟨hT.2.2.2.2.2.2.2.2.2.1.1, hT.2.2.2.2.2.2.2.2.2.1.2⟩, ⟨hT.2.2.2.2.2.2.2.2.2.2.1, hT.2.2.2.2.2.2.2.2.2.2.2⟩⟩, (Fr.nil.i1 (Or.inl rfl))⟩
        · have hk9 := lkF_some 7 hf
          refine V_aload_n (i := 0) dX1_readVerb_63 rfl rfl ?_
          refine V_dup dX1_readVerb_64 rfl ?_
          refine V_getI (k := 2) dX1_readVerb_65 (Or.inr ⟨rfl, Nat.le_of_ble_eq_true rfl⟩) rfl rfl rfl (Nat.le_of_ble_eq_true rfl) flRX1_19 ?_
          refine V_top (y := nI p) hT.2.2.1.1 ?_
          refine V_iload_n (i := 2) dX1_readVerb_68 rfl rfl ?_
          refine V_iadd_n dX1_readVerb_69 ?_
          refine V_putI (k := 2) (ty := .int) dX1_readVerb_70 (Or.inr ⟨rfl, Nat.le_of_ble_eq_true rfl⟩) rfl rfl rfl (Nat.le_of_ble_eq_true rfl) flRX1_19 rfl (by decide +kernel) rfl rfl ?_
          refine V_aload_n (i := 1) dX1_readVerb_73 rfl rfl ?_
          refine V_aret dX1_readVerb_74 rfl ?_
          exact Or.inr ⟨k9, ⟨hf, hk9.1⟩, rfl, ⟨(OutI.wI (by omega) (by omega) hT.1), hT.2.1, ⟨pI_at, by omega⟩, ⟨hT.2.2.2.1.1, hT.2.2.2.1.2⟩, ⟨(pI_ne (by omega) hT.2.2.2.2.1.1), hT.2.2.2.2.1.2⟩, ⟨(pI_ne (by omega) hT.2.2.2.2.2.1.1), hT.2.2.2.2.2.1.2⟩, ⟨(pI_ne (by omega) hT.2.2.2.2.2.2.1.1), hT.2.2.2.2.2.2.1.2⟩, ⟨(pI_ne (by omega) hT.2.2.2.2.2.2.2.1.1), hT.2.2.2.2.2.2.2.1.2⟩, ⟨(pI_ne (by omega) hT.2.2.2.2.2.2.2.2.1.1), hT.2.2.2.2.2.2.2.2.1.2⟩, ⟨hT.2.2.2.2.2.2.2.2.2.1.1, hT.2.2.2.2.2.2.2.2.2.1.2⟩, ⟨hT.2.2.2.2.2.2.2.2.2.2.1, hT.2.2.2.2.2.2.2.2.2.2.2⟩⟩, (Fr.nil.i1 (Or.inl rfl))⟩
      · rcases hf : lkF l p 1120 i with _ | k9
        · have hlk := lk_le (l := l) (p := p) (t := 1120 + i)
          have htl := tx_len (t := 1120 + i) (vb_T (by omega))
          refine V_aload_n (i := 0) dX1_readVerb_14 rfl rfl ?_
          refine V_getsN (host := "ButtonReef") dX1_readVerb_15 (List.mem_of_getElem? (i := 16) rfl) (by decide +kernel) ?_
          refine V_iload_n (i := 3) dX1_readVerb_18 rfl rfl ?_
          refine V_taald dX1_readVerb_19 (List.mem_of_getElem? (i := 2) rfl) (in_n (by omega) (by decide)) (arr_get (by omega)) ?_
          refine V_getK dX1_readVerb_20 (vb_start (show i < 7 by omega)) flRX1_122 ?_
          refine V_callVF dX1_readVerb_23 (c_countMatching hT (vb_T (show i < 7 by omega))) okX1_countMatching lkRX1_126 (Or.inr ⟨rfl, Nat.le_of_ble_eq_true rfl⟩) rfl rfl rfl rfl (Nat.le_of_ble_eq_true rfl) ⟨Nat.le_of_ble_eq_true rfl, Nat.le_of_ble_eq_true rfl⟩ rfl ?_
          refine V_istore dX1_readVerb_26 (Nat.le_of_ble_eq_true rfl) rfl rfl ?_
          refine V_iload_n (i := 2) dX1_readVerb_28 rfl rfl ?_
          refine V_iload dX1_readVerb_29 rfl ?_
          refine V_max dX1_readVerb_31 lkRX1_130 (by omega) (by omega) (Nat.le_of_ble_eq_true rfl) (by decide) ?_
          refine V_istore_n (i := 2) dX1_readVerb_34 rfl (Nat.le_of_ble_eq_true rfl) rfl rfl ?_
          refine V_iload dX1_readVerb_35 rfl ?_
          refine V_getsN (host := "ButtonReef") dX1_readVerb_37 (List.mem_of_getElem? (i := 16) rfl) (by decide +kernel) ?_
          refine V_iload_n (i := 3) dX1_readVerb_40 rfl rfl ?_
          refine V_taald dX1_readVerb_41 (List.mem_of_getElem? (i := 2) rfl) (in_n (by omega) (by decide)) (arr_get (by omega)) ?_
          refine V_getK dX1_readVerb_42 (vb_start (show i < 7 by omega)) flRX1_122 ?_
          refine V_callVOF dX1_readVerb_45 (c_length (vb_T (show i < 7 by omega))) okJ0_length_8abf5 lkRX1_136 (tx_O (vb_T (show i < 7 by omega))) rfl rfl (Nat.le_of_ble_eq_true rfl) ⟨Nat.le_of_ble_eq_true rfl, Nat.le_of_ble_eq_true rfl⟩ rfl ?_
          refine V_icmp_ne_n (tgt := 57) dX1_readVerb_48 (by decide) (by omega) (by omega) (fun h48 => ?_) (fun h48 => ?_)
          · rw [if_neg h48] at e2
            refine V_iinc_n (b := (i + 1)) dX1_readVerb_57 rfl (nI_add _ _) rfl rfl ?_
            refine V_goto (tgt := 6) dX1_readVerb_60 (by decide) ?_
            have k8 := ih (i + 1) (by omega) (by omega)
            rw [e1, e2, hf] at k8
            exact k8.sub (by repeat' (first | exact trivial | exact rfl | constructor))
          · rw [if_pos h48] at e2
            refine V_getsN (host := "ButtonReef") dX1_readVerb_51 (List.mem_of_getElem? (i := 16) rfl) (by decide +kernel) ?_
            refine V_iload_n (i := 3) dX1_readVerb_54 rfl rfl ?_
            refine V_taald dX1_readVerb_55 (List.mem_of_getElem? (i := 2) rfl) (in_n (by omega) (by decide)) (arr_get (by omega)) ?_
            refine V_astore_n (i := 1) dX1_readVerb_56 rfl (Nat.le_of_ble_eq_true rfl) rfl rfl ?_
            refine V_iinc_n (b := (i + 1)) dX1_readVerb_57 rfl (nI_add _ _) rfl rfl ?_
            refine V_goto (tgt := 6) dX1_readVerb_60 (by decide) ?_
            have k8 := ih (i + 1) (by omega) (by omega)
            rw [e1, e2] at k8
            exact k8.sub (by repeat' (first | exact trivial | exact rfl | constructor))
        · have hlk := lk_le (l := l) (p := p) (t := 1120 + i)
          have htl := tx_len (t := 1120 + i) (vb_T (by omega))
          refine V_aload_n (i := 0) dX1_readVerb_14 rfl rfl ?_
          refine V_getsN (host := "ButtonReef") dX1_readVerb_15 (List.mem_of_getElem? (i := 16) rfl) (by decide +kernel) ?_
          refine V_iload_n (i := 3) dX1_readVerb_18 rfl rfl ?_
          refine V_taald dX1_readVerb_19 (List.mem_of_getElem? (i := 2) rfl) (in_n (by omega) (by decide)) (arr_get (by omega)) ?_
          refine V_getK dX1_readVerb_20 (vb_start (show i < 7 by omega)) flRX1_122 ?_
          refine V_callVF dX1_readVerb_23 (c_countMatching hT (vb_T (show i < 7 by omega))) okX1_countMatching lkRX1_126 (Or.inr ⟨rfl, Nat.le_of_ble_eq_true rfl⟩) rfl rfl rfl rfl (Nat.le_of_ble_eq_true rfl) ⟨Nat.le_of_ble_eq_true rfl, Nat.le_of_ble_eq_true rfl⟩ rfl ?_
          refine V_istore dX1_readVerb_26 (Nat.le_of_ble_eq_true rfl) rfl rfl ?_
          refine V_iload_n (i := 2) dX1_readVerb_28 rfl rfl ?_
          refine V_iload dX1_readVerb_29 rfl ?_
          refine V_max dX1_readVerb_31 lkRX1_130 (by omega) (by omega) (Nat.le_of_ble_eq_true rfl) (by decide) ?_
          refine V_istore_n (i := 2) dX1_readVerb_34 rfl (Nat.le_of_ble_eq_true rfl) rfl rfl ?_
          refine V_iload dX1_readVerb_35 rfl ?_
          refine V_getsN (host := "ButtonReef") dX1_readVerb_37 (List.mem_of_getElem? (i := 16) rfl) (by decide +kernel) ?_
          refine V_iload_n (i := 3) dX1_readVerb_40 rfl rfl ?_
          refine V_taald dX1_readVerb_41 (List.mem_of_getElem? (i := 2) rfl) (in_n (by omega) (by decide)) (arr_get (by omega)) ?_
          refine V_getK dX1_readVerb_42 (vb_start (show i < 7 by omega)) flRX1_122 ?_
          refine V_callVOF dX1_readVerb_45 (c_length (vb_T (show i < 7 by omega))) okJ0_length_8abf5 lkRX1_136 (tx_O (vb_T (show i < 7 by omega))) rfl rfl (Nat.le_of_ble_eq_true rfl) ⟨Nat.le_of_ble_eq_true rfl, Nat.le_of_ble_eq_true rfl⟩ rfl ?_
          refine V_icmp_ne_n (tgt := 57) dX1_readVerb_48 (by decide) (by omega) (by omega) (fun h48 => ?_) (fun h48 => ?_)
          · rw [if_neg h48] at e2
            refine V_iinc_n (b := (i + 1)) dX1_readVerb_57 rfl (nI_add _ _) rfl rfl ?_
            refine V_goto (tgt := 6) dX1_readVerb_60 (by decide) ?_
            have k8 := ih (i + 1) (by omega) (by omega)
            rw [e1, e2, hf] at k8
            exact k8.sub (by repeat' (first | exact trivial | exact rfl | constructor))
          · rw [if_pos h48] at e2
            refine V_getsN (host := "ButtonReef") dX1_readVerb_51 (List.mem_of_getElem? (i := 16) rfl) (by decide +kernel) ?_
            refine V_iload_n (i := 3) dX1_readVerb_54 rfl rfl ?_
            refine V_taald dX1_readVerb_55 (List.mem_of_getElem? (i := 2) rfl) (in_n (by omega) (by decide)) (arr_get (by omega)) ?_
            refine V_astore_n (i := 1) dX1_readVerb_56 rfl (Nat.le_of_ble_eq_true rfl) rfl rfl ?_
            refine V_iinc_n (b := (i + 1)) dX1_readVerb_57 rfl (nI_add _ _) rfl rfl ?_
            refine V_goto (tgt := 6) dX1_readVerb_60 (by decide) ?_
            have k8 := ih (i + 1) (by omega) (by omega)
            rw [e1, e2] at k8
            exact k8.sub (by repeat' (first | exact trivial | exact rfl | constructor))
  refine V_null dX1_readVerb_0 ?_
  refine V_astore_nN (i := 1) dX1_readVerb_1 rfl (Nat.le_of_ble_eq_true rfl) rfl rfl ?_
  refine V_iconst_n (v := 0) dX1_readVerb_2 (by decide) ?_
  refine V_istore_n (i := 2) dX1_readVerb_3 rfl (Nat.le_of_ble_eq_true rfl) rfl rfl ?_
  refine V_iconst_n (v := 0) dX1_readVerb_4 (by decide) ?_
  refine V_istore_n (i := 3) dX1_readVerb_5 rfl (Nat.le_of_ble_eq_true rfl) rfl rfl ?_
  exact (lp 8 0 (by omega) (by omega)).sub (by repeat' (first | exact trivial | exact rfl | constructor))
set_option maxRecDepth 100000 in
set_option maxHeartbeats 1000000 in
theorem c_readRuleWord {l : List Nat} {p v ro co nu wl cq pt rl : Nat} {w : Wd} (hT : TxW w l p v ro co nu wl cq pt rl) : Ct 1 MX1_readRuleWord 6 0 0 [.ref 45] w (fun o w1 => (lkF l p 1100 3 = none ∧ o = Sum.inl (some (Value.int (nI 0))) ∧ TxW w1 l (p + lkM l p 1100 3) v ro co nu wl cq pt rl ∧ Fr In45 w w1) ∨ ((lkF l p 1100 3).isSome = true ∧ o = Sum.inl (some (Value.int (nI 1))) ∧ TxW w1 l (p + lkM l p 1100 3) v ro co nu wl cq pt ((lkF l p 1100 3).getD rl) ∧ Fr In45 w w1)) := by
  refine Ct_of (by decide +kernel) rfl (Nat.le_of_ble_eq_true rfl) rfl ?_
  have hl60 := hT.2.1.1
  have hp60 := hT.2.2.1.2
  have hv7 := hT.2.2.2.1.2
  have hro9 := hT.2.2.2.2.1.2
  have hco9 := hT.2.2.2.2.2.1.2
  have hnu9 := hT.2.2.2.2.2.2.1.2
  have hwl2 := hT.2.2.2.2.2.2.2.1.2
  have hcq9 := hT.2.2.2.2.2.2.2.2.1.2
  have hpt4 := hT.2.2.2.2.2.2.2.2.2.1.2
  have hrl3 := hT.2.2.2.2.2.2.2.2.2.2.2
  have hsg := @sg_le _ _ _ _ _ _ _ _ _ _ _ p hT
  have lp : ∀ (fu i : Nat) (w1 : Wd), i ≤ 3 → 3 - i < fu → TxW w1 l p v ro co nu wl cq pt ((lkF l p 1100 i).getD rl) → Fr In45 w w1 → V 1 MX1_readRuleWord 6 0 0 (fun o w1 => (lkF l p 1100 3 = none ∧ o = Sum.inl (some (Value.int (nI 0))) ∧ TxW w1 l (p + lkM l p 1100 3) v ro co nu wl cq pt rl ∧ Fr In45 w w1) ∨ ((lkF l p 1100 3).isSome = true ∧ o = Sum.inl (some (Value.int (nI 1))) ∧ TxW w1 l (p + lkM l p 1100 3) v ro co nu wl cq pt ((lkF l p 1100 3).getD rl) ∧ Fr In45 w w1)) (fun _ _ => True) 0 0 6 [some (.ref 45), some (.int (nI (if (lkF l p 1100 i).isSome = true then 1 else 0))), some (.int (nI (lkM l p 1100 i))), some (.int (nI i)), none] [] w1 := by
    intro fu
    induction fu with
    | zero => intro i w1 h1 h2; omega
    | succ fu ih =>
      intro i w1 hib hfu hT1 hF1
      have hfit := lkM_fit (l := l) (p := p) (b := 1100) (n := i) (fun k hk => rl_T (by omega)) hp60 hl60
      have e1 : lkM l p 1100 (i + 1) = max (lkM l p 1100 i) (lk l p (1100 + i)) := rfl
      have e2 : lkF l p 1100 (i + 1) = if lk l p (1100 + i) = (tx (1100 + i)).length then some i else lkF l p 1100 i := rfl
      have hrl9 := hT1.2.2.2.2.2.2.2.2.2.2.2
      refine V_iload_n (i := 3) dX1_readRuleWord_6 rfl rfl ?_
      refine V_getsN (host := "ButtonReef") dX1_readRuleWord_7 (List.mem_of_getElem? (i := 14) rfl) (by decide +kernel) ?_
      refine V_tlen (v := nI 3) dX1_readRuleWord_10 (List.mem_of_getElem? (i := 0) rfl) rfl ?_
      refine V_icmp_ge_n (tgt := 68) dX1_readRuleWord_11 (by decide) (by omega) (by omega) (fun h11 => ?_) (fun h11 => ?_)
      · obtain rfl : i = 3 := by omega
        refine V_aload_n (i := 0) dX1_readRuleWord_68 rfl rfl ?_
        refine V_dup dX1_readRuleWord_69 rfl ?_
        refine V_getI (k := 2) dX1_readRuleWord_70 (Or.inr ⟨rfl, Nat.le_of_ble_eq_true rfl⟩) rfl rfl rfl (Nat.le_of_ble_eq_true rfl) flRX1_19 ?_
        refine V_top (y := nI p) hT1.2.2.1.1 ?_
        refine V_iload_n (i := 2) dX1_readRuleWord_73 rfl rfl ?_
        refine V_iadd_n dX1_readRuleWord_74 ?_
        refine V_putI (k := 2) (ty := .int) dX1_readRuleWord_75 (Or.inr ⟨rfl, Nat.le_of_ble_eq_true rfl⟩) rfl rfl rfl (Nat.le_of_ble_eq_true rfl) flRX1_19 rfl (by decide +kernel) rfl rfl ?_
        refine V_iload_n (i := 1) dX1_readRuleWord_78 rfl rfl ?_
        refine V_iret dX1_readRuleWord_79 rfl (nar_bool ite_le) ?_
        by_cases hs : (lkF l p 1100 3).isSome = true
        · rw [if_pos hs]
          exact Or.inr ⟨hs, rfl, ⟨(OutI.wI (by omega) (by omega) hT1.1), hT1.2.1, ⟨pI_at, by omega⟩, ⟨hT1.2.2.2.1.1, hT1.2.2.2.1.2⟩, ⟨(pI_ne (by omega) hT1.2.2.2.2.1.1), hT1.2.2.2.2.1.2⟩, ⟨(pI_ne (by omega) hT1.2.2.2.2.2.1.1), hT1.2.2.2.2.2.1.2⟩, ⟨(pI_ne (by omega) hT1.2.2.2.2.2.2.1.1), hT1.2.2.2.2.2.2.1.2⟩, ⟨(pI_ne (by omega) hT1.2.2.2.2.2.2.2.1.1), hT1.2.2.2.2.2.2.2.1.2⟩, ⟨(pI_ne (by omega) hT1.2.2.2.2.2.2.2.2.1.1), hT1.2.2.2.2.2.2.2.2.1.2⟩, ⟨hT1.2.2.2.2.2.2.2.2.2.1.1, hT1.2.2.2.2.2.2.2.2.2.1.2⟩, ⟨hT1.2.2.2.2.2.2.2.2.2.2.1, hT1.2.2.2.2.2.2.2.2.2.2.2⟩⟩, (hF1.trans (Fr.nil.i1 (Or.inl rfl)))⟩
        · rw [if_neg hs]
          have hn : lkF l p 1100 3 = none := by cases h8 : lkF l p 1100 3 with | none => rfl | some k => rw [h8] at hs; exact absurd rfl hs
          have hrr : (lkF l p 1100 3).getD rl = rl := by rw [hn]; rfl
          refine Or.inl ⟨hn, rfl, ?_, (hF1.trans (Fr.nil.i1 (Or.inl rfl)))⟩
          have h7 := hT1
          rw [hrr] at h7 hrl9
          exact ⟨(OutI.wI (by omega) (by omega) h7.1), h7.2.1, ⟨pI_at, by omega⟩, ⟨h7.2.2.2.1.1, h7.2.2.2.1.2⟩, ⟨(pI_ne (by omega) h7.2.2.2.2.1.1), h7.2.2.2.2.1.2⟩, ⟨(pI_ne (by omega) h7.2.2.2.2.2.1.1), h7.2.2.2.2.2.1.2⟩, ⟨(pI_ne (by omega) h7.2.2.2.2.2.2.1.1), h7.2.2.2.2.2.2.1.2⟩, ⟨(pI_ne (by omega) h7.2.2.2.2.2.2.2.1.1), h7.2.2.2.2.2.2.2.1.2⟩, ⟨(pI_ne (by omega) h7.2.2.2.2.2.2.2.2.1.1), h7.2.2.2.2.2.2.2.2.1.2⟩, ⟨h7.2.2.2.2.2.2.2.2.2.1.1, h7.2.2.2.2.2.2.2.2.2.1.2⟩, ⟨h7.2.2.2.2.2.2.2.2.2.2.1, h7.2.2.2.2.2.2.2.2.2.2.2⟩⟩
      · have hlk := lk_le (l := l) (p := p) (t := 1100 + i)
        have htl := tx_len (t := 1100 + i) (rl_T (by omega))
        refine V_aload_n (i := 0) dX1_readRuleWord_14 rfl rfl ?_
        refine V_getsN (host := "ButtonReef") dX1_readRuleWord_15 (List.mem_of_getElem? (i := 14) rfl) (by decide +kernel) ?_
        refine V_iload_n (i := 3) dX1_readRuleWord_18 rfl rfl ?_
        refine V_taald dX1_readRuleWord_19 (List.mem_of_getElem? (i := 0) rfl) (in_n (by omega) (by decide)) (arr_get (by omega)) ?_
        refine V_getK dX1_readRuleWord_20 (rl_word (show i < 3 by omega)) flRX1_145 ?_
        refine V_callVF dX1_readRuleWord_23 (c_countMatching hT1 (rl_T (show i < 3 by omega))) okX1_countMatching lkRX1_126 (Or.inr ⟨rfl, Nat.le_of_ble_eq_true rfl⟩) rfl rfl rfl rfl (Nat.le_of_ble_eq_true rfl) ⟨Nat.le_of_ble_eq_true rfl, Nat.le_of_ble_eq_true rfl⟩ rfl ?_
        refine V_istore dX1_readRuleWord_26 (Nat.le_of_ble_eq_true rfl) rfl rfl ?_
        refine V_iload_n (i := 2) dX1_readRuleWord_28 rfl rfl ?_
        refine V_iload dX1_readRuleWord_29 rfl ?_
        refine V_max dX1_readRuleWord_31 lkRX1_130 (by omega) (by omega) (Nat.le_of_ble_eq_true rfl) (by decide) ?_
        refine V_istore_n (i := 2) dX1_readRuleWord_34 rfl (Nat.le_of_ble_eq_true rfl) rfl rfl ?_
        refine V_iload dX1_readRuleWord_35 rfl ?_
        refine V_getsN (host := "ButtonReef") dX1_readRuleWord_37 (List.mem_of_getElem? (i := 14) rfl) (by decide +kernel) ?_
        refine V_iload_n (i := 3) dX1_readRuleWord_40 rfl rfl ?_
        refine V_taald dX1_readRuleWord_41 (List.mem_of_getElem? (i := 0) rfl) (in_n (by omega) (by decide)) (arr_get (by omega)) ?_
        refine V_getK dX1_readRuleWord_42 (rl_word (show i < 3 by omega)) flRX1_145 ?_
        refine V_callVOF dX1_readRuleWord_45 (c_length (rl_T (show i < 3 by omega))) okJ0_length_8abf5 lkRX1_136 (tx_O (rl_T (show i < 3 by omega))) rfl rfl (Nat.le_of_ble_eq_true rfl) ⟨Nat.le_of_ble_eq_true rfl, Nat.le_of_ble_eq_true rfl⟩ rfl ?_
        refine V_icmp_ne_n (tgt := 62) dX1_readRuleWord_48 (by decide) (by omega) (by omega) (fun h48 => ?_) (fun h48 => ?_)
        · rw [if_neg h48] at e2
          refine V_iinc_n (b := (i + 1)) dX1_readRuleWord_62 rfl (nI_add _ _) rfl rfl ?_
          refine V_goto (tgt := 6) dX1_readRuleWord_65 (by decide) ?_
          have k9 := ih (i + 1) _ (by omega) (by omega) (by rw [e2]; exact hT1) hF1
          rw [e1, e2] at k9
          exact k9.sub (by repeat' (first | exact trivial | exact rfl | constructor))
        · rw [if_pos h48] at e2
          refine V_iconst_n (v := 1) dX1_readRuleWord_51 (by decide) ?_
          refine V_istore_n (i := 1) dX1_readRuleWord_52 rfl (Nat.le_of_ble_eq_true rfl) rfl rfl ?_
          refine V_aload_n (i := 0) dX1_readRuleWord_53 rfl rfl ?_
          refine V_getsN (host := "ButtonReef") dX1_readRuleWord_54 (List.mem_of_getElem? (i := 14) rfl) (by decide +kernel) ?_
          refine V_iload_n (i := 3) dX1_readRuleWord_57 rfl rfl ?_
          refine V_taald dX1_readRuleWord_58 (List.mem_of_getElem? (i := 0) rfl) (in_n (by omega) (by decide)) (arr_get (by omega)) ?_
          refine V_putR (k := 10) (ty := tyX1 10) dX1_readRuleWord_59 (Or.inr ⟨rfl, Nat.le_of_ble_eq_true rfl⟩) rfl rfl rfl (Nat.le_of_ble_eq_true rfl) flRX1_63 (Or.inl rfl) (by decide +kernel) (fun _ => rfl) (fun _ => rfl) ?_
          refine V_iinc_n (b := (i + 1)) dX1_readRuleWord_62 rfl (nI_add _ _) rfl rfl ?_
          refine V_goto (tgt := 6) dX1_readRuleWord_65 (by decide) ?_
          have k9 := ih (i + 1) _ (by omega) (by omega) (by rw [e2]; exact (show TxW _ l p v ro co nu wl cq pt i from ⟨(OutI.wR hT1.1), hT1.2.1, ⟨hT1.2.2.1.1, hT1.2.2.1.2⟩, ⟨(pR_ne (by omega) hT1.2.2.2.1.1), hT1.2.2.2.1.2⟩, ⟨hT1.2.2.2.2.1.1, hT1.2.2.2.2.1.2⟩, ⟨hT1.2.2.2.2.2.1.1, hT1.2.2.2.2.2.1.2⟩, ⟨hT1.2.2.2.2.2.2.1.1, hT1.2.2.2.2.2.2.1.2⟩, ⟨hT1.2.2.2.2.2.2.2.1.1, hT1.2.2.2.2.2.2.2.1.2⟩, ⟨hT1.2.2.2.2.2.2.2.2.1.1, hT1.2.2.2.2.2.2.2.2.1.2⟩, ⟨(pR_ne (by omega) hT1.2.2.2.2.2.2.2.2.2.1.1), hT1.2.2.2.2.2.2.2.2.2.1.2⟩, ⟨pR_at, by omega⟩⟩)) (hF1.trans (Fr.nil.r1 (Or.inl rfl)))
          rw [e1, e2] at k9
          exact k9.sub (by repeat' (first | exact trivial | exact rfl | constructor))
  refine V_iconst_n (v := 0) dX1_readRuleWord_0 (by decide) ?_
  refine V_istore_n (i := 1) dX1_readRuleWord_1 rfl (Nat.le_of_ble_eq_true rfl) rfl rfl ?_
  refine V_iconst_n (v := 0) dX1_readRuleWord_2 (by decide) ?_
  refine V_istore_n (i := 2) dX1_readRuleWord_3 rfl (Nat.le_of_ble_eq_true rfl) rfl rfl ?_
  refine V_iconst_n (v := 0) dX1_readRuleWord_4 (by decide) ?_
  refine V_istore_n (i := 3) dX1_readRuleWord_5 rfl (Nat.le_of_ble_eq_true rfl) rfl rfl ?_
  exact (lp 4 0 w (by omega) (by omega) hT Fr.nil).sub (by repeat' (first | exact trivial | exact rfl | constructor))
def CmF (c : Cmd) (v ro co nu cq pt rl : Nat) : Prop := (v = 5 → rlL rl = c.1) ∧ (v = 6 → nu = c.1) ∧ (v < 5 → ro = c.1 ∧ co = c.2.1) ∧ (v = 0 ∨ v = 3 → cq = c.2.2.1) ∧ (v = 4 → ptL pt = c.2.2.1 ∧ cq = c.2.2.2)
set_option maxRecDepth 100000 in
set_option maxHeartbeats 1000000 in
theorem c_readArguments {l : List Nat} {p v ro co nu wl cq pt rl : Nat} {w : Wd} (hT : TxW w l p v ro co nu wl cq pt rl) : Ct 1 MX1_readArguments 7 0 0 [.ref 45] w (fun o w1 => (agO l v p = false ∧ o = Sum.inl (some (Value.int (nI 0))) ∧ (∃ ro co nu cq pt rl : Nat, TxW w1 l (agP l v p) v ro co nu wl cq pt rl) ∧ Fr In45 w w1) ∨ (agO l v p = true ∧ o = Sum.inl (some (Value.int (nI 1))) ∧ (∃ ro co nu cq pt rl : Nat, TxW w1 l (agP l v p) v ro co nu wl cq pt rl ∧ CmF (agC l v p) v ro co nu cq pt rl) ∧ Fr In45 w w1)) := by
  refine Ct_of (by decide +kernel) rfl (Nat.le_of_ble_eq_true rfl) rfl ?_
  have hl60 := hT.2.1.1
  have hp60 := hT.2.2.1.2
  have hv7 := hT.2.2.2.1.2
  have hro9 := hT.2.2.2.2.1.2
  have hco9 := hT.2.2.2.2.2.1.2
  have hnu9 := hT.2.2.2.2.2.2.1.2
  have hwl2 := hT.2.2.2.2.2.2.2.1.2
  have hcq9 := hT.2.2.2.2.2.2.2.2.1.2
  have hpt4 := hT.2.2.2.2.2.2.2.2.2.1.2
  have hrl3 := hT.2.2.2.2.2.2.2.2.2.2.2
  have hsg := @sg_le _ _ _ _ _ _ _ _ _ _ _ p hT
  refine V_aload_n (i := 0) dX1_readArguments_0 rfl rfl ?_
  refine V_getR (k := 3) dX1_readArguments_1 (Or.inr ⟨rfl, Nat.le_of_ble_eq_true rfl⟩) rfl rfl rfl (Nat.le_of_ble_eq_true rfl) flRX1_28 hT.2.2.2.1.1 ?_
  refine V_gets dX1_readArguments_4 (List.mem_of_getElem? (i := 12) rfl) flRX1_90 ?_
  refine V_acmp_ne (tgt := 15) dX1_readArguments_7 (by decide) (vb_E hv7) (by decide) (fun h7 => ?_) (fun h7 => ?_)
  · have hv5 : ¬ v = 5 := by omega
    refine V_aload_n (i := 0) dX1_readArguments_15 rfl rfl ?_
    refine V_getR (k := 3) dX1_readArguments_16 (Or.inr ⟨rfl, Nat.le_of_ble_eq_true rfl⟩) rfl rfl rfl (Nat.le_of_ble_eq_true rfl) flRX1_28 hT.2.2.2.1.1 ?_
    refine V_gets dX1_readArguments_19 (List.mem_of_getElem? (i := 13) rfl) flRX1_22 ?_
    refine V_acmp_ne (tgt := 30) dX1_readArguments_22 (by decide) (vb_E hv7) (by decide) (fun h22 => ?_) (fun h22 => ?_)
    · have hv6 : ¬ v = 6 := by omega
      refine V_aload_n (i := 0) dX1_readArguments_30 rfl rfl ?_
      refine V_callV dX1_readArguments_31 (c_readCell hT) okX1_readCell lkRX1_99 (Or.inr ⟨rfl, Nat.le_of_ble_eq_true rfl⟩) rfl rfl rfl rfl (Nat.le_of_ble_eq_true rfl) ⟨Nat.le_of_ble_eq_true rfl, Nat.le_of_ble_eq_true rfl⟩ rfl ⟨Nat.zero_le _, Nat.zero_le _⟩ (fun v9 u1 hu1 => ?_) (fun E9 w9 h9 => by rcases h9 with h9 | h9 | h9 <;> cases h9.2.1)
      rcases hu1 with ⟨hu1f, e9, hu1⟩ | ⟨hu1f, e9, hu1⟩ | ⟨hu1f, e9, hu1⟩
      · cases e9
        refine V_if_ne_n (tgt := 39) dX1_readArguments_34 (by decide) (by omega) (fun h34 => by exfalso; omega) (fun h34 => ?_)
        refine V_iconst_n (v := 0) dX1_readArguments_37 (by decide) ?_
        refine V_iret dX1_readArguments_38 rfl (nar_bool (by omega)) ?_
        have eO : agO l v p = false := by simp [agO, hu1f, hv5, hv6]
        have eP : agP l v p = p := by simp [agP, hu1f, hv5, hv6]
        refine Or.inl ⟨eO, rfl, ⟨ro, co, nu, cq, pt, rl, ?_⟩, hu1.2⟩
        rw [eP]
        exact hu1.1
      · cases e9
        refine V_if_ne_n (tgt := 39) dX1_readArguments_34 (by decide) (by omega) (fun h34 => by exfalso; omega) (fun h34 => ?_)
        refine V_iconst_n (v := 0) dX1_readArguments_37 (by decide) ?_
        refine V_iret dX1_readArguments_38 rfl (nar_bool (by omega)) ?_
        have eO : agO l v p = false := by simp [agO, hu1f, hv5, hv6]
        have eP : agP l v p = (p + 1) := by simp [agP, hu1f, hv5, hv6]
        refine Or.inl ⟨eO, rfl, ⟨(sg l p - 48), co, nu, cq, pt, rl, ?_⟩, hu1.2⟩
        rw [eP]
        exact hu1.1
      · cases e9
        refine V_if_ne_n (tgt := 39) dX1_readArguments_34 (by decide) (by omega) (fun h34 => ?_) (fun h34 => by exfalso; omega)
        refine V_aload_n (i := 0) dX1_readArguments_39 rfl rfl ?_
        refine V_getR (k := 3) dX1_readArguments_40 (Or.inr ⟨rfl, Nat.le_of_ble_eq_true rfl⟩) rfl rfl rfl (Nat.le_of_ble_eq_true rfl) flRX1_28 hu1.1.2.2.2.1.1 ?_
        refine V_getK dX1_readArguments_43 (vb_col hu1.1.2.2.2.1.2) flRX1_102 ?_
        have hco2 : vbCo v < 2 := by unfold vbCo; split <;> omega
        refine V_if_ne_n (tgt := 51) dX1_readArguments_46 (by decide) (by omega) (fun h46 => ?_) (fun h46 => ?_)
        · have hvc : v = 0 ∨ v = 3 ∨ v = 4 := by unfold vbCo at h46; grind
          have hv12 : ¬ (v = 1 ∨ v = 2) := by omega
          have hv1 : ¬ v = 1 := by omega
          have hv2 : ¬ v = 2 := by omega
          refine V_aload_n (i := 0) dX1_readArguments_51 rfl rfl ?_
          refine V_bipush_n (v := 32) dX1_readArguments_52 (by decide) ?_
          refine V_callV dX1_readArguments_54 (c_readSign hu1.1 (c := 32) (by omega) (by omega)) okX1_readSign lkRX1_105 (Or.inr ⟨rfl, Nat.le_of_ble_eq_true rfl⟩) rfl rfl rfl rfl (Nat.le_of_ble_eq_true rfl) ⟨Nat.le_of_ble_eq_true rfl, Nat.le_of_ble_eq_true rfl⟩ rfl ⟨Nat.zero_le _, Nat.zero_le _⟩ (fun v9 u2 hu2 => ?_) (fun E9 w9 h9 => by rcases h9 with h9 | h9 <;> cases h9.2.1)
          rcases hu2 with ⟨hu2f, e9, hu2⟩ | ⟨hu2f, e9, hu2⟩
          · cases e9
            refine V_if_eq_n (tgt := 88) dX1_readArguments_57 (by decide) (by omega) (fun h57 => ?_) (fun h57 => by exfalso; omega)
            refine V_iconst_n (v := 0) dX1_readArguments_88 (by decide) ?_
            refine V_iret dX1_readArguments_89 rfl (nar_bool (by omega)) ?_
            have eO : agO l v p = false := by simp [agO, hu1f, hu2f, hv5, hv6, hv12, hv1, hv2]
            have eP : agP l v p = (p + 2) := by simp [agP, hu1f, hu2f, hv5, hv6, hv12, hv1, hv2]
            refine Or.inl ⟨eO, rfl, ⟨(sg l p - 48), (sg l (p + 1) - 48), nu, cq, pt, rl, ?_⟩, (hu1.2.trans hu2.2)⟩
            rw [eP]
            exact hu2.1
          · cases e9
            refine V_if_eq_n (tgt := 88) dX1_readArguments_57 (by decide) (by omega) (fun h57 => by exfalso; omega) (fun h57 => ?_)
            refine V_aload_n (i := 0) dX1_readArguments_60 rfl rfl ?_
            refine V_getR (k := 3) dX1_readArguments_61 (Or.inr ⟨rfl, Nat.le_of_ble_eq_true rfl⟩) rfl rfl rfl (Nat.le_of_ble_eq_true rfl) flRX1_28 hu2.1.2.2.2.1.1 ?_
            refine V_gets dX1_readArguments_64 (List.mem_of_getElem? (i := 11) rfl) flRX1_109 ?_
            refine V_acmp_ne (tgt := 77) dX1_readArguments_67 (by decide) (vb_E hv7) (by decide) (fun h67 => ?_) (fun h67 => ?_)
            · have hv4 : ¬ v = 4 := by omega
              refine V_aload_n (i := 0) dX1_readArguments_77 rfl rfl ?_
              refine V_callV dX1_readArguments_78 (c_readColour hu2.1) okX1_readColour lkRX1_115 (Or.inr ⟨rfl, Nat.le_of_ble_eq_true rfl⟩) rfl rfl rfl rfl (Nat.le_of_ble_eq_true rfl) ⟨Nat.le_of_ble_eq_true rfl, Nat.le_of_ble_eq_true rfl⟩ rfl ⟨Nat.zero_le _, Nat.zero_le _⟩ (fun v9 u3 hu3 => ?_) (fun E9 w9 h9 => by rcases h9 with h9 | h9 <;> cases h9.2.1)
              rcases hu3 with ⟨hu3f, e9, hu3⟩ | ⟨hu3f, e9, hu3⟩
              · cases e9
                refine V_if_eq_n (tgt := 88) dX1_readArguments_81 (by decide) (by omega) (fun h81 => ?_) (fun h81 => by exfalso; omega)
                refine V_iconst_n (v := 0) dX1_readArguments_88 (by decide) ?_
                refine V_iret dX1_readArguments_89 rfl (nar_bool (by omega)) ?_
                have eO : agO l v p = false := by simp [agO, hu1f, hu2f, hu3f, hv5, hv6, hv12, hv1, hv2, hv4]
                have eP : agP l v p = (p + 3) := by simp [agP, hu1f, hu2f, hu3f, hv5, hv6, hv12, hv1, hv2, hv4]
                refine Or.inl ⟨eO, rfl, ⟨(sg l p - 48), (sg l (p + 1) - 48), nu, cq, pt, rl, ?_⟩, ((hu1.2.trans hu2.2).trans hu3.2)⟩
                rw [eP]
                exact hu3.1
              · cases e9
                refine V_if_eq_n (tgt := 88) dX1_readArguments_81 (by decide) (by omega) (fun h81 => by exfalso; omega) (fun h81 => ?_)
                refine V_iconst_n (v := 1) dX1_readArguments_84 (by decide) ?_
                refine V_goto (tgt := 89) dX1_readArguments_85 (by decide) ?_
                refine V_iret dX1_readArguments_89 rfl (nar_bool (by omega)) ?_
                have eO : agO l v p = true := by simp [agO, hu1f, hu2f, hu3f, hv5, hv6, hv12, hv1, hv2, hv4]
                have eP : agP l v p = (p + 4) := by simp [agP, hu1f, hu2f, hu3f, hv5, hv6, hv12, hv1, hv2, hv4]
                refine Or.inr ⟨eO, rfl, ⟨(sg l p - 48), (sg l (p + 1) - 48), nu, (sg l (p + 3)), pt, rl, ?_, ?_⟩, ((hu1.2.trans hu2.2).trans hu3.2)⟩
                · rw [eP]
                  exact hu3.1
                · exact ⟨fun q => by first | omega | (simp [agC, hu1f, hu2f, hu3f, hv5, hv6, hv12, hv1, hv2, hv4]; try (rcases h8 : lkF l p 1100 3 with _ | k8 <;> simp_all)), fun q => by first | omega | simp [agC, hu1f, hu2f, hu3f, hv5, hv6, hv12, hv1, hv2, hv4], fun q => by first | omega | exact ⟨by simp [agC, hu1f, hu2f, hu3f, hv5, hv6, hv12, hv1, hv2, hv4], by simp [agC, hu1f, hu2f, hu3f, hv5, hv6, hv12, hv1, hv2, hv4]⟩, fun q => by first | omega | simp [agC, hu1f, hu2f, hu3f, hv5, hv6, hv12, hv1, hv2, hv4], fun q => by first | omega | exact ⟨by simp [agC, hu1f, hu2f, hu3f, hv5, hv6, hv12, hv1, hv2, hv4]; try exact (ptN_ok (by assumption)).2, by simp [agC, hu1f, hu2f, hu3f, hv5, hv6, hv12, hv1, hv2, hv4]⟩⟩
            · have hv4 : v = 4 := by omega
              refine V_aload_n (i := 0) dX1_readArguments_70 rfl rfl ?_
              refine V_callV dX1_readArguments_71 (c_readPattern hu2.1) okX1_readPattern lkRX1_112 (Or.inr ⟨rfl, Nat.le_of_ble_eq_true rfl⟩) rfl rfl rfl rfl (Nat.le_of_ble_eq_true rfl) ⟨Nat.le_of_ble_eq_true rfl, Nat.le_of_ble_eq_true rfl⟩ rfl ⟨Nat.zero_le _, Nat.zero_le _⟩ (fun v9 u3 hu3 => ?_) (fun E9 w9 h9 => by rcases h9 with h9 | h9 <;> cases h9.2.1)
              rcases hu3 with ⟨hu3f, e9, hu3⟩ | ⟨hu3f, e9, hu3⟩
              · cases e9
                refine V_if_eq_n (tgt := 88) dX1_readArguments_74 (by decide) (by omega) (fun h74 => ?_) (fun h74 => by exfalso; omega)
                refine V_iconst_n (v := 0) dX1_readArguments_88 (by decide) ?_
                refine V_iret dX1_readArguments_89 rfl (nar_bool (by omega)) ?_
                have eO : agO l v p = false := by simp [agO, hu1f, hu2f, hu3f, hv4]
                have eP : agP l v p = (p + 3) := by simp [agP, hu1f, hu2f, hu3f, hv4]
                refine Or.inl ⟨eO, rfl, ⟨(sg l p - 48), (sg l (p + 1) - 48), nu, cq, pt, rl, ?_⟩, ((hu1.2.trans hu2.2).trans hu3.2)⟩
                rw [eP]
                exact hu3.1
              · cases e9
                refine V_if_eq_n (tgt := 88) dX1_readArguments_74 (by decide) (by omega) (fun h74 => by exfalso; omega) (fun h74 => ?_)
                refine V_aload_n (i := 0) dX1_readArguments_77 rfl rfl ?_
                refine V_callV dX1_readArguments_78 (c_readColour hu3.1) okX1_readColour lkRX1_115 (Or.inr ⟨rfl, Nat.le_of_ble_eq_true rfl⟩) rfl rfl rfl rfl (Nat.le_of_ble_eq_true rfl) ⟨Nat.le_of_ble_eq_true rfl, Nat.le_of_ble_eq_true rfl⟩ rfl ⟨Nat.zero_le _, Nat.zero_le _⟩ (fun v9 u4 hu4 => ?_) (fun E9 w9 h9 => by rcases h9 with h9 | h9 <;> cases h9.2.1)
                rcases hu4 with ⟨hu4f, e9, hu4⟩ | ⟨hu4f, e9, hu4⟩
                · cases e9
                  refine V_if_eq_n (tgt := 88) dX1_readArguments_81 (by decide) (by omega) (fun h81 => ?_) (fun h81 => by exfalso; omega)
                  refine V_iconst_n (v := 0) dX1_readArguments_88 (by decide) ?_
                  refine V_iret dX1_readArguments_89 rfl (nar_bool (by omega)) ?_
                  have eO : agO l v p = false := by simp [agO, hu1f, hu2f, hu3f, hu4f, hv4]
                  have eP : agP l v p = (p + 4) := by simp [agP, hu1f, hu2f, hu3f, hu4f, hv4]
                  refine Or.inl ⟨eO, rfl, ⟨(sg l p - 48), (sg l (p + 1) - 48), nu, cq, (ptN (sg l (p + 3))), rl, ?_⟩, (((hu1.2.trans hu2.2).trans hu3.2).trans hu4.2)⟩
                  rw [eP]
                  exact hu4.1
                · cases e9
                  refine V_if_eq_n (tgt := 88) dX1_readArguments_81 (by decide) (by omega) (fun h81 => by exfalso; omega) (fun h81 => ?_)
                  refine V_iconst_n (v := 1) dX1_readArguments_84 (by decide) ?_
                  refine V_goto (tgt := 89) dX1_readArguments_85 (by decide) ?_
                  refine V_iret dX1_readArguments_89 rfl (nar_bool (by omega)) ?_
                  have eO : agO l v p = true := by simp [agO, hu1f, hu2f, hu3f, hu4f, hv4]
                  have eP : agP l v p = (p + 5) := by simp [agP, hu1f, hu2f, hu3f, hu4f, hv4]
                  refine Or.inr ⟨eO, rfl, ⟨(sg l p - 48), (sg l (p + 1) - 48), nu, (sg l (p + 4)), (ptN (sg l (p + 3))), rl, ?_, ?_⟩, (((hu1.2.trans hu2.2).trans hu3.2).trans hu4.2)⟩
                  · rw [eP]
                    exact hu4.1
                  · exact ⟨fun q => by first | omega | (simp [agC, hu1f, hu2f, hu3f, hu4f, hv4]; try (rcases h8 : lkF l p 1100 3 with _ | k8 <;> simp_all)), fun q => by first | omega | simp [agC, hu1f, hu2f, hu3f, hu4f, hv4], fun q => by first | omega | exact ⟨by simp [agC, hu1f, hu2f, hu3f, hu4f, hv4], by simp [agC, hu1f, hu2f, hu3f, hu4f, hv4]⟩, fun q => by first | omega | simp [agC, hu1f, hu2f, hu3f, hu4f, hv4], fun q => by first | omega | exact ⟨by simp [agC, hu1f, hu2f, hu3f, hu4f, hv4]; try exact (ptN_ok (by assumption)).2, by simp [agC, hu1f, hu2f, hu3f, hu4f, hv4]⟩⟩
        · have hvn : v = 1 ∨ v = 2 := by unfold vbCo at h46; grind
          refine V_iconst_n (v := 1) dX1_readArguments_49 (by decide) ?_
          refine V_iret dX1_readArguments_50 rfl (nar_bool (by omega)) ?_
          have eO : agO l v p = true := by simp [agO, hu1f, hv5, hv6, hvn]
          have eP : agP l v p = (p + 2) := by simp [agP, hu1f, hv5, hv6, hvn]
          refine Or.inr ⟨eO, rfl, ⟨(sg l p - 48), (sg l (p + 1) - 48), nu, cq, pt, rl, ?_, ?_⟩, hu1.2⟩
          · rw [eP]
            exact hu1.1
          · exact ⟨fun q => by first | omega | (simp [agC, hu1f, hv5, hv6, hvn]; try (rcases h8 : lkF l p 1100 3 with _ | k8 <;> simp_all)), fun q => by first | omega | simp [agC, hu1f, hv5, hv6, hvn], fun q => by first | omega | exact ⟨by simp [agC, hu1f, hv5, hv6, hvn], by simp [agC, hu1f, hv5, hv6, hvn]⟩, fun q => by first | omega | simp [agC, hu1f, hv5, hv6, hvn], fun q => by first | omega | exact ⟨by simp [agC, hu1f, hv5, hv6, hvn]; try exact (ptN_ok (by assumption)).2, by simp [agC, hu1f, hv5, hv6, hvn]⟩⟩
    · have hv6 : v = 6 := by omega
      refine V_aload_n (i := 0) dX1_readArguments_25 rfl rfl ?_
      refine V_callV dX1_readArguments_26 (c_readNumber hT) okX1_readNumber lkRX1_96 (Or.inr ⟨rfl, Nat.le_of_ble_eq_true rfl⟩) rfl rfl rfl rfl (Nat.le_of_ble_eq_true rfl) ⟨Nat.le_of_ble_eq_true rfl, Nat.le_of_ble_eq_true rfl⟩ rfl ⟨Nat.zero_le _, Nat.zero_le _⟩ (fun v9 u1 hu1 => ?_) (fun E9 w9 h9 => by rcases h9 with h9 | h9 | h9 <;> cases h9.2.1)
      rcases hu1 with ⟨hu1f, e9, hu1⟩ | ⟨hu1f, e9, hu1⟩ | ⟨hu1f, e9, hu1⟩
      · cases e9
        refine V_iret dX1_readArguments_29 rfl (nar_bool (by omega)) ?_
        have eO : agO l v p = false := by simp [agO, hu1f, hv6]
        have eP : agP l v p = p := by simp [agP, hu1f, hv6]
        refine Or.inl ⟨eO, rfl, ⟨ro, co, nu, cq, pt, rl, ?_⟩, hu1.2⟩
        rw [eP]
        exact hu1.1
      · cases e9
        refine V_iret dX1_readArguments_29 rfl (nar_bool (by omega)) ?_
        have eO : agO l v p = true := by simp [agO, hu1f, hv6]
        have eP : agP l v p = (p + 1) := by simp [agP, hu1f, hv6]
        refine Or.inr ⟨eO, rfl, ⟨ro, co, (sg l p - 48), cq, pt, rl, ?_, ?_⟩, hu1.2⟩
        · rw [eP]
          exact hu1.1
        · exact ⟨fun q => by first | omega | (simp [agC, hu1f, hv6]; try (rcases h8 : lkF l p 1100 3 with _ | k8 <;> simp_all)), fun q => by first | omega | simp [agC, hu1f, hv6], fun q => by first | omega | exact ⟨by simp [agC, hu1f, hv6], by simp [agC, hu1f, hv6]⟩, fun q => by first | omega | simp [agC, hu1f, hv6], fun q => by first | omega | exact ⟨by simp [agC, hu1f, hv6]; try exact (ptN_ok (by assumption)).2, by simp [agC, hu1f, hv6]⟩⟩
      · cases e9
        refine V_iret dX1_readArguments_29 rfl (nar_bool (by omega)) ?_
        have eO : agO l v p = true := by simp [agO, hu1f, hv6]
        have eP : agP l v p = (p + 2) := by simp [agP, hu1f, hv6]
        refine Or.inr ⟨eO, rfl, ⟨ro, co, (10 * (sg l p - 48) + (sg l (p + 1) - 48)), cq, pt, rl, ?_, ?_⟩, hu1.2⟩
        · rw [eP]
          exact hu1.1
        · exact ⟨fun q => by first | omega | (simp [agC, hu1f, hv6]; try (rcases h8 : lkF l p 1100 3 with _ | k8 <;> simp_all)), fun q => by first | omega | simp [agC, hu1f, hv6], fun q => by first | omega | exact ⟨by simp [agC, hu1f, hv6], by simp [agC, hu1f, hv6]⟩, fun q => by first | omega | simp [agC, hu1f, hv6], fun q => by first | omega | exact ⟨by simp [agC, hu1f, hv6]; try exact (ptN_ok (by assumption)).2, by simp [agC, hu1f, hv6]⟩⟩
  · have hv5 : v = 5 := by omega
    refine V_aload_n (i := 0) dX1_readArguments_10 rfl rfl ?_
    refine V_callV dX1_readArguments_11 (c_readRuleWord hT) okX1_readRuleWord lkRX1_93 (Or.inr ⟨rfl, Nat.le_of_ble_eq_true rfl⟩) rfl rfl rfl rfl (Nat.le_of_ble_eq_true rfl) ⟨Nat.le_of_ble_eq_true rfl, Nat.le_of_ble_eq_true rfl⟩ rfl ⟨Nat.zero_le _, Nat.zero_le _⟩ (fun v9 u1 hu1 => ?_) (fun E9 w9 h9 => by rcases h9 with h9 | h9 <;> cases h9.2.1)
    rcases hu1 with ⟨hu1f, e9, hu1⟩ | ⟨hu1f, e9, hu1⟩
    · cases e9
      refine V_iret dX1_readArguments_14 rfl (nar_bool (by omega)) ?_
      have eO : agO l v p = false := by simp [agO, hu1f, hv5]
      have eP : agP l v p = (p + lkM l p 1100 3) := by simp [agP, hu1f, hv5]
      refine Or.inl ⟨eO, rfl, ⟨ro, co, nu, cq, pt, rl, ?_⟩, hu1.2⟩
      rw [eP]
      exact hu1.1
    · cases e9
      refine V_iret dX1_readArguments_14 rfl (nar_bool (by omega)) ?_
      have eO : agO l v p = true := by simp [agO, hu1f, hv5]
      have eP : agP l v p = (p + lkM l p 1100 3) := by simp [agP, hu1f, hv5]
      refine Or.inr ⟨eO, rfl, ⟨ro, co, nu, cq, pt, ((lkF l p 1100 3).getD rl), ?_, ?_⟩, hu1.2⟩
      · rw [eP]
        exact hu1.1
      · exact ⟨fun q => by first | omega | (simp [agC, hu1f, hv5]; try (rcases h8 : lkF l p 1100 3 with _ | k8 <;> simp_all)), fun q => by first | omega | simp [agC, hu1f, hv5], fun q => by first | omega | exact ⟨by simp [agC, hu1f, hv5], by simp [agC, hu1f, hv5]⟩, fun q => by first | omega | simp [agC, hu1f, hv5], fun q => by first | omega | exact ⟨by simp [agC, hu1f, hv5]; try exact (ptN_ok (by assumption)).2, by simp [agC, hu1f, hv5]⟩⟩
end MCMD2
