/-! THE PLAIN FORM: commands read and carried out. Printed by wip/whole/gen/mk40.py. -/
section MMEXE
section BW
variable {l : List Nat} {p v j t : Nat}
def bwN (l : List Nat) (p : Nat) : Nat → Nat
  | 0 => 0
  | i + 1 => if lk l p (1120 + bwN l p i) < lk l p (1120 + (i + 1)) then i + 1 else bwN l p i
theorem bwN_s {i : Nat} : bwN l p (i + 1) = if lk l p (1120 + bwN l p i) < lk l p (1120 + (i + 1)) then i + 1 else bwN l p i := rfl
theorem bwN_le : ∀ i, bwN l p i ≤ i := by
  intro i
  induction i with
  | zero => exact Nat.le_refl 0
  | succ i ih => rw [bwN_s]; split <;> omega
theorem bwN_max : ∀ i j, j ≤ i → lk l p (1120 + j) ≤ lk l p (1120 + bwN l p i) := by
  intro i
  induction i with
  | zero => intro j hj; obtain rfl : j = 0 := (by omega); exact Nat.le_refl _
  | succ i ih =>
    intro j hj
    rw [bwN_s]
    by_cases e : lk l p (1120 + bwN l p i) < lk l p (1120 + (i + 1))
    · rw [if_pos e]
      by_cases e2 : j = i + 1
      · rw [e2]; exact Nat.le_refl _
      · have := ih j (by omega); omega
    · rw [if_neg e]
      by_cases e2 : j = i + 1
      · rw [e2]; omega
      · exact ih j (by omega)
theorem bw_lkM : lkM l p 1120 7 = lk l p (1120 + bwN l p 6) := by
  have h1 := lkM_le (l := l) (p := p) (b := 1120) (m := lk l p (1120 + bwN l p 6)) 7 (fun k hk => bwN_max 6 k (by omega))
  have h2 := bwN_le (l := l) (p := p) 6
  have h3 := lkM_ge (l := l) (p := p) (b := 1120) (k := bwN l p 6) 7 (by omega)
  omega
theorem vb_apart : ∀ v < 7, ∀ j < 7, j ≠ v → ∃ i, i < 12 ∧ i < (tx (1120 + v)).length ∧ i < (tx (1120 + j)).length ∧ (tx (1120 + v)).getD i 0 ≠ (tx (1120 + j)).getD i 0 := by decide +kernel
theorem vb_full (hv : v < 7) (hj : j < 7) (hne : j ≠ v) (h : lk l p (1120 + v) = (tx (1120 + v)).length) : lk l p (1120 + j) < (tx (1120 + v)).length ∧ lk l p (1120 + j) < (tx (1120 + j)).length := by
  obtain ⟨i, -, h1, h2, h3⟩ := vb_apart v hv j hj hne
  have h4 : ¬ i < lk l p (1120 + j) := fun q => by
    have e1 := mtc_sg (l := l) (p := p) (t := tx (1120 + j)) _ i q
    have e2 := mtc_sg (l := l) (p := p) (t := tx (1120 + v)) (tx (1120 + v)).length i (by have e3 : mtc l p (tx (1120 + v)) (tx (1120 + v)).length = (tx (1120 + v)).length := h; omega)
    exact h3 (by rw [← e1, ← e2])
  omega
theorem vb_bw : vbF l p = if lk l p (1120 + bwN l p 6) = (tx (1120 + bwN l p 6)).length then some (bwN l p 6) else none := by
  have hb := bwN_le (l := l) (p := p) 6
  cases h : vbF l p with
  | some v =>
    obtain ⟨hv, hf⟩ := lkF_some 7 h
    have e : bwN l p 6 = v := by
      refine Decidable.byContradiction fun hne => ?_
      have h1 := vb_full hv (show bwN l p 6 < 7 by omega) hne hf
      have h2 := bwN_max (l := l) (p := p) 6 v (by omega)
      omega
    rw [e, if_pos hf]
  | none => rw [if_neg (lkF_none 7 h _ (by omega))]
theorem lk_len (ht : IsT t) (hp : p ≤ l.length) : p + lk l p t ≤ l.length := by
  by_cases e : lk l p t = 0
  · omega
  · have h1 := mtc_sg (l := l) (p := p) (t := tx t) (tx t).length (lk l p t - 1) (by have : mtc l p (tx t) (tx t).length = lk l p t := rfl; omega)
    have h2 := lk_le (l := l) (p := p) (t := t)
    have h3 := tx_pos ht (lk l p t - 1) (by omega)
    have h4 := sg_pos (l := l) (p := p + (lk l p t - 1)) (by omega)
    omega
end BW
def CmI (w : Wd) (n v : Nat) (c : Cmd) : Prop := gI w 64 (5 * n) = nI v ∧ CmA w (5 * n + 1) v c
abbrev PRd (cm b j : Nat) : Prop := (b = 47 ∧ (j = 28 ∨ j = 29 ∨ j = 31)) ∨ (b = 64 ∧ 5 * cm ≤ j)
theorem PAr_Rd {cm b j : Nat} (q : PAr (5 * cm + 1) b j) : PRd cm b j := by
  rcases q with ⟨q1, q2⟩ | ⟨q1, q2⟩
  · exact Or.inl ⟨q1, by omega⟩
  · exact Or.inr ⟨q1, by omega⟩
def cmW (l : List Nat) (p : Nat) : Nat := if cmO l p = true then 0 else 1
set_option maxRecDepth 100000 in
set_option maxHeartbeats 1000000 in
theorem m_readCommand {cm : Nat} {l : List Nat} {p : Nat} {w : Wd} (hW : PW w l p 0) (hcm : gI w 47 28 = nI cm) (hc : cm ≤ 60) : Ct 1 MX11_readCommand 7 0 0 [.ref 47] w (Mt none fun w1 => PW w1 l (cmP l p) (cmW l p) ∧ (cmO l p = true → gI w1 47 28 = nI (cm + 1) ∧ CmI w1 cm ((vbF l p).getD 0) (agC l ((vbF l p).getD 0) (vbP l p))) ∧ Fz (PRd cm) w w1) := by
  refine Ct_of (by decide +kernel) rfl (Nat.le_of_ble_eq_true rfl) rfl ?_
  have hlo := hW.2.1.1
  have hpl := hW.2.2.1.2
  have lp : ∀ (fu i : Nat) , i ≤ 6 → 6 - i < fu → V 1 MX11_readCommand 7 0 0 (Mt none fun w1 => PW w1 l (cmP l p) (cmW l p) ∧ (cmO l p = true → gI w1 47 28 = nI (cm + 1) ∧ CmI w1 cm ((vbF l p).getD 0) (agC l ((vbF l p).getD 0) (vbP l p))) ∧ Fz (PRd cm) w w1) (fun _ _ => True) 0 0 11 [some (.ref 47), some (.int (nI (5 * cm))), some (.int (nI (bwN l p i))), some (.int (nI (i + 1)))] [] w := by
    intro fu
    induction fu with
    | zero => intro i  h1 h2; omega
    | succ fu ih =>
      intro i  hib hfu
      have hbw := bwN_le (l := l) (p := p) i
      have e1 := bwN_s (l := l) (p := p) (i := i)
      refine V_iload_n (i := 3) dX11_readCommand_11 rfl rfl ?_
      refine V_bipush_n (v := 7) dX11_readCommand_12 (by decide) ?_
      refine V_icmp_ge_n (tgt := 42) dX11_readCommand_14 (by decide) (by omega) (by omega) (fun h14 => ?_) (fun h14 => ?_)
      · obtain rfl : i = 6 := by omega
        have hfit := lk_len (l := l) (p := p) (vb_T (v := bwN l p 6) (by omega)) hpl
        have hvb := vb_bw (l := l) (p := p)
        have hvp : vbP l p = p + lk l p (1120 + bwN l p 6) := by unfold vbP; rw [bw_lkM]
        refine V_aload_n (i := 0) dX11_readCommand_42 rfl rfl ?_
        refine V_iload_n (i := 2) dX11_readCommand_43 rfl rfl ?_
        have hl108 := lk_le (l := l) (p := p) (t := 1120 + (bwN l p 6))
        have hb109 := bg_ok (v := (bwN l p 6)) (by omega)
        refine V_callVF dX11_readCommand_44 (m_likeness (v := (bwN l p 6)) hW (by omega)) okX11_likeness lkRX11_296 (Or.inr ⟨rfl, Nat.le_of_ble_eq_true rfl⟩) rfl rfl rfl rfl (Nat.le_of_ble_eq_true rfl) ⟨Nat.le_of_ble_eq_true rfl, Nat.le_of_ble_eq_true rfl⟩ rfl ?_
        refine V_istore_n (i := 3) dX11_readCommand_47 rfl (Nat.le_of_ble_eq_true rfl) rfl rfl ?_
        refine V_aload_n (i := 0) dX11_readCommand_48 rfl rfl ?_
        refine V_dup dX11_readCommand_49 rfl ?_
        refine V_getI (k := 29) dX11_readCommand_50 (Or.inr ⟨rfl, Nat.le_of_ble_eq_true rfl⟩) rfl rfl rfl (Nat.le_of_ble_eq_true rfl) flRX11_260 ?_
        refine V_top (y := nI p) hW.2.2.1.1 ?_
        refine V_iload_n (i := 3) dX11_readCommand_53 rfl rfl ?_
        refine V_iadd_n dX11_readCommand_54 ?_
        refine V_putI (k := 29) (ty := .int) dX11_readCommand_55 (Or.inr ⟨rfl, Nat.le_of_ble_eq_true rfl⟩) rfl rfl rfl (Nat.le_of_ble_eq_true rfl) flRX11_260 rfl (by decide +kernel) rfl rfl ?_
        refine V_aload_n (i := 0) dX11_readCommand_58 rfl rfl ?_
        refine V_iload_n (i := 3) dX11_readCommand_59 rfl rfl ?_
        refine V_aload_n (i := 0) dX11_readCommand_60 rfl rfl ?_
        refine V_getC (k := 26) (q := 63) dX11_readCommand_61 (Or.inr ⟨rfl, Nat.le_of_ble_eq_true rfl⟩) rfl rfl rfl (Nat.le_of_ble_eq_true rfl) flRX11_60 ?_
        refine V_iload_n (i := 2) dX11_readCommand_64 rfl rfl ?_
        refine V_iconst_n (v := 1) dX11_readCommand_65 (by decide) ?_
        refine V_iadd_n dX11_readCommand_66 ?_
        refine V_iald_n (i := ((bwN l p 6) + 1)) dX11_readCommand_67 (Or.inr ⟨rfl, Nat.le_of_ble_eq_true rfl⟩) rfl (by omega) (by decide) ?_
        refine V_top (y := nI (bgT.getD ((bwN l p 6) + 1) 0)) (hW.2.2.2.2.2.2.2.2.2 _ (by omega)) ?_
        refine V_aload_n (i := 0) dX11_readCommand_68 rfl rfl ?_
        refine V_getC (k := 26) (q := 63) dX11_readCommand_69 (Or.inr ⟨rfl, Nat.le_of_ble_eq_true rfl⟩) rfl rfl rfl (Nat.le_of_ble_eq_true rfl) flRX11_60 ?_
        refine V_iload_n (i := 2) dX11_readCommand_72 rfl rfl ?_
        refine V_iald_n (i := (bwN l p 6)) dX11_readCommand_73 (Or.inr ⟨rfl, Nat.le_of_ble_eq_true rfl⟩) rfl (by omega) (by decide) ?_
        refine V_top (y := nI (bgT.getD (bwN l p 6) 0)) (hW.2.2.2.2.2.2.2.2.2 _ (by omega)) ?_
        refine V_isub_n dX11_readCommand_74 (by omega) ?_
        refine V_top (y := nI (tx (1120 + (bwN l p 6))).length) (by rw [(bg_ok (v := (bwN l p 6)) (by omega)).2.1]) ?_
        refine V_icmp_ge_n (tgt := 82) dX11_readCommand_75 (by decide) (by omega) (by omega) (fun h75 => ?_) (fun h75 => ?_)
        · rw [if_pos (by omega)] at hvb
          refine V_iconst_n (v := 0) dX11_readCommand_82 (by decide) ?_
          refine V_putI (k := 31) (ty := .boolean) dX11_readCommand_83 (Or.inr ⟨rfl, Nat.le_of_ble_eq_true rfl⟩) rfl rfl rfl (Nat.le_of_ble_eq_true rfl) flRX11_266 rfl (by decide +kernel) (nar_bool (by omega)) (fit_bool (by omega)) ?_
          refine V_aload_n (i := 0) dX11_readCommand_86 rfl rfl ?_
          refine V_getI (k := 31) dX11_readCommand_87 (Or.inr ⟨rfl, Nat.le_of_ble_eq_true rfl⟩) rfl rfl rfl (Nat.le_of_ble_eq_true rfl) flRX11_266 ?_
          refine V_top (y := nI 0) pI_at ?_
          refine V_if_ne_n (tgt := 118) dX11_readCommand_90 (by decide) (by omega) (fun h90 => by exfalso; omega) (fun h90 => ?_)
          refine V_aload_n (i := 0) dX11_readCommand_93 rfl rfl ?_
          refine V_getC (k := 27) (q := 64) dX11_readCommand_94 (Or.inr ⟨rfl, Nat.le_of_ble_eq_true rfl⟩) rfl rfl rfl (Nat.le_of_ble_eq_true rfl) flRX11_63 ?_
          refine V_iload_n (i := 1) dX11_readCommand_97 rfl rfl ?_
          refine V_iload_n (i := 2) dX11_readCommand_98 rfl rfl ?_
          refine V_iast_n (i := (5 * cm)) dX11_readCommand_99 (Or.inr ⟨rfl, Nat.le_of_ble_eq_true rfl⟩) rfl (by omega) (by decide) ?_
          refine V_aload_n (i := 0) dX11_readCommand_100 rfl rfl ?_
          refine V_dup dX11_readCommand_101 rfl ?_
          refine V_getI (k := 28) dX11_readCommand_102 (Or.inr ⟨rfl, Nat.le_of_ble_eq_true rfl⟩) rfl rfl rfl (Nat.le_of_ble_eq_true rfl) flRX11_293 ?_
          refine V_top (y := nI cm) (pI_ne (by omega) (pI_ne (by omega) (pI_ne (by omega) hcm))) ?_
          refine V_iconst_n (v := 1) dX11_readCommand_105 (by decide) ?_
          refine V_iadd_n dX11_readCommand_106 ?_
          refine V_putI (k := 28) (ty := .int) dX11_readCommand_107 (Or.inr ⟨rfl, Nat.le_of_ble_eq_true rfl⟩) rfl rfl rfl (Nat.le_of_ble_eq_true rfl) flRX11_293 rfl (by decide +kernel) rfl rfl ?_
          refine V_aload_n (i := 0) dX11_readCommand_110 rfl rfl ?_
          refine V_iload_n (i := 2) dX11_readCommand_111 rfl rfl ?_
          refine V_iload_n (i := 1) dX11_readCommand_112 rfl rfl ?_
          refine V_iconst_n (v := 1) dX11_readCommand_113 (by decide) ?_
          refine V_iadd_n dX11_readCommand_114 ?_
          refine V_callVM dX11_readCommand_115 (m_readArguments (v := (bwN l p 6)) (t := 5 * cm + 1) ((((hW.setp (p1 := p + lk l p (1120 + (bwN l p 6))) rfl hfit).setb (b1 := 0) rfl).wr (by omega)).wr (by omega)) (by omega) (by omega)) okX11_readArguments lkRX11_299 (Or.inr ⟨rfl, Nat.le_of_ble_eq_true rfl⟩) rfl rfl rfl rfl (Nat.le_of_ble_eq_true rfl) ⟨Nat.le_of_ble_eq_true rfl, Nat.le_of_ble_eq_true rfl⟩ rfl ?_
          intro u1 hu1
          refine V_vret dX11_readCommand_118 rfl ?_
          have eO : cmO l p = agO l (bwN l p 6) (p + lk l p (1120 + (bwN l p 6))) := by unfold cmO; rw [hvb, ← hvp]
          have eP : cmP l p = agP l (bwN l p 6) (p + lk l p (1120 + (bwN l p 6))) := by unfold cmP; rw [hvb, ← hvp]
          have hfr := ((((((Fz.nil (P := PRd cm)).i1 (a := 47) (k := 29) (v := nI (p + lk l p (1120 + (bwN l p 6)))) ⟨by decide, by decide⟩ (Or.inl ⟨rfl, Or.inr (Or.inl rfl)⟩)).i1 (a := 47) (k := 31) (v := nI 0) ⟨by decide, by decide⟩ (Or.inl ⟨rfl, Or.inr (Or.inr rfl)⟩)).i1 (a := 64) (k := 5 * cm) (v := nI (bwN l p 6)) ⟨by decide, by decide⟩ (Or.inr ⟨rfl, Nat.le_refl _⟩)).i1 (a := 47) (k := 28) (v := nI (cm + 1)) ⟨by decide, by decide⟩ (Or.inl ⟨rfl, Or.inl rfl⟩))).trans (hu1.2.2.mono (fun b j q => PAr_Rd q))
          exact ⟨rfl, by unfold cmW; rw [eO, eP]; exact hu1.1, fun q => by rw [hvb, hvp]; exact ⟨(hu1.2.2.gi (by omega)).trans pI_at, (hu1.2.2.gi (by omega)).trans (pI_ne (by omega) pI_at), hu1.2.1 (by rw [← eO]; exact q)⟩, hfr⟩
        · rw [if_neg (by omega)] at hvb
          refine V_iconst_n (v := 1) dX11_readCommand_78 (by decide) ?_
          refine V_goto (tgt := 83) dX11_readCommand_79 (by decide) ?_
          refine V_putI (k := 31) (ty := .boolean) dX11_readCommand_83 (Or.inr ⟨rfl, Nat.le_of_ble_eq_true rfl⟩) rfl rfl rfl (Nat.le_of_ble_eq_true rfl) flRX11_266 rfl (by decide +kernel) (nar_bool (by omega)) (fit_bool (by omega)) ?_
          refine V_aload_n (i := 0) dX11_readCommand_86 rfl rfl ?_
          refine V_getI (k := 31) dX11_readCommand_87 (Or.inr ⟨rfl, Nat.le_of_ble_eq_true rfl⟩) rfl rfl rfl (Nat.le_of_ble_eq_true rfl) flRX11_266 ?_
          refine V_top (y := nI 1) pI_at ?_
          refine V_if_ne_n (tgt := 118) dX11_readCommand_90 (by decide) (by omega) (fun h90 => ?_) (fun h90 => by exfalso; omega)
          refine V_vret dX11_readCommand_118 rfl ?_
          have eO : cmO l p = false := by unfold cmO; rw [hvb]
          have eP : cmP l p = vbP l p := by unfold cmP; rw [hvb]
          exact ⟨rfl, by unfold cmW; rw [eO, eP, hvp]; exact (hW.setp rfl hfit).setb rfl, fun q => (by rw [eO] at q; cases q), (((Fz.nil (P := PRd cm)).i1 (by omega) (by unfold PRd; omega)).i1 (by omega) (by unfold PRd; omega))⟩
      · refine V_aload_n (i := 0) dX11_readCommand_17 rfl rfl ?_
        refine V_iload_n (i := 3) dX11_readCommand_18 rfl rfl ?_
        have hl110 := lk_le (l := l) (p := p) (t := 1120 + (i + 1))
        have hb111 := bg_ok (v := (i + 1)) (by omega)
        refine V_callVF dX11_readCommand_19 (m_likeness (v := (i + 1)) hW (by omega)) okX11_likeness lkRX11_296 (Or.inr ⟨rfl, Nat.le_of_ble_eq_true rfl⟩) rfl rfl rfl rfl (Nat.le_of_ble_eq_true rfl) ⟨Nat.le_of_ble_eq_true rfl, Nat.le_of_ble_eq_true rfl⟩ rfl ?_
        refine V_aload_n (i := 0) dX11_readCommand_22 rfl rfl ?_
        refine V_iload_n (i := 2) dX11_readCommand_23 rfl rfl ?_
        have hl112 := lk_le (l := l) (p := p) (t := 1120 + (bwN l p i))
        have hb113 := bg_ok (v := (bwN l p i)) (by omega)
        refine V_callVF dX11_readCommand_24 (m_likeness (v := (bwN l p i)) hW (by omega)) okX11_likeness lkRX11_296 (Or.inr ⟨rfl, Nat.le_of_ble_eq_true rfl⟩) rfl rfl rfl rfl (Nat.le_of_ble_eq_true rfl) ⟨Nat.le_of_ble_eq_true rfl, Nat.le_of_ble_eq_true rfl⟩ rfl ?_
        refine V_icmp_le_n (tgt := 34) dX11_readCommand_27 (by decide) (by omega) (by omega) (fun h27 => ?_) (fun h27 => ?_)
        · rw [if_neg (by omega)] at e1
          refine V_iload_n (i := 2) dX11_readCommand_34 rfl rfl ?_
          refine V_istore_n (i := 2) dX11_readCommand_35 rfl (Nat.le_of_ble_eq_true rfl) rfl rfl ?_
          refine V_iinc_n (b := ((i + 1) + 1)) dX11_readCommand_36 rfl (nI_add _ _) rfl rfl ?_
          refine V_goto (tgt := 11) dX11_readCommand_39 (by decide) ?_
          have k9 := ih (i + 1) (by omega) (by omega)
          rw [e1] at k9
          exact k9.sub (by repeat' (first | exact trivial | exact rfl | constructor))
        · rw [if_pos (by omega)] at e1
          refine V_iload_n (i := 3) dX11_readCommand_30 rfl rfl ?_
          refine V_goto (tgt := 35) dX11_readCommand_31 (by decide) ?_
          refine V_istore_n (i := 2) dX11_readCommand_35 rfl (Nat.le_of_ble_eq_true rfl) rfl rfl ?_
          refine V_iinc_n (b := ((i + 1) + 1)) dX11_readCommand_36 rfl (nI_add _ _) rfl rfl ?_
          refine V_goto (tgt := 11) dX11_readCommand_39 (by decide) ?_
          have k9 := ih (i + 1) (by omega) (by omega)
          rw [e1] at k9
          exact k9.sub (by repeat' (first | exact trivial | exact rfl | constructor))
  refine V_iconst_n (v := 5) dX11_readCommand_0 (by decide) ?_
  refine V_aload_n (i := 0) dX11_readCommand_1 rfl rfl ?_
  refine V_getI (k := 28) dX11_readCommand_2 (Or.inr ⟨rfl, Nat.le_of_ble_eq_true rfl⟩) rfl rfl rfl (Nat.le_of_ble_eq_true rfl) flRX11_293 ?_
  refine V_top (y := nI cm) hcm ?_
  refine V_imul_n dX11_readCommand_5 ?_
  refine V_istore_n (i := 1) dX11_readCommand_6 rfl (Nat.le_of_ble_eq_true rfl) rfl rfl ?_
  refine V_iconst_n (v := 0) dX11_readCommand_7 (by decide) ?_
  refine V_istore_n (i := 2) dX11_readCommand_8 rfl (Nat.le_of_ble_eq_true rfl) rfl rfl ?_
  refine V_iconst_n (v := 1) dX11_readCommand_9 (by decide) ?_
  refine V_istore_n (i := 3) dX11_readCommand_10 rfl (Nat.le_of_ble_eq_true rfl) rfl rfl ?_
  exact lp 7 0 (by omega) (by omega)
def itCmd (s : St) (v : Nat) (c : Cmd) : It :=
  if v = 0 then itPlace s (c.1 : Int) (c.2.1 : Int) c.2.2.1 else if v = 1 then itRemove s (c.1 : Int) (c.2.1 : Int) else if v = 2 then itBleach s (c.1 : Int) (c.2.1 : Int) else if v = 3 then itRecolour s (c.1 : Int) (c.2.1 : Int) c.2.2.1
  else if v = 4 then itPlant s (c.1 : Int) (c.2.1 : Int) c.2.2.1 c.2.2.2 else if v = 5 then itRule s c.1 else itTides s (c.1 : Int)
def wfC (v : Nat) (c : Cmd) : Prop := (v = 0 ∨ v = 3 → isC c.2.2.1 = true) ∧ (v = 4 → isP c.2.2.1 = true ∧ isC c.2.2.2 = true) ∧ (v = 5 → isR c.1 = true) ∧ c.1 < 1000 ∧ c.2.1 < 1000 ∧ c.2.2.1 < 1000 ∧ c.2.2.2 < 1000
theorem itCmd_le {s : St} {v : Nat} {c : Cmd} : ItL (itCmd s v c) := by
  unfold itCmd
  split
  · exact itPlace_le
  · split
    · exact itRemove_le
    · split
      · exact itBleach_le
      · split
        · exact itRecolour_le
        · split
          · exact itPlant_le
          · split
            · exact itRule_le
            · exact itTides_le
theorem ins_out {r c : Nat} (h : ¬ (r < 8 ∧ c < 8)) : ins (r : Int) (c : Int) = false := Bool.eq_false_iff.mpr fun q => h (by have := ins_iff.mp q; omega)
def CmS (s : St) (v : Nat) (c : Cmd) (I : It) : Prop := (cmA v c = false → I.1 = 2 ∨ I.1 = 1) ∧ (cmA v c = false → I.2.2.2.1 = 0) ∧ (cmA v c = true → cmR s v c ≠ 0 → I.1 ≠ 0 ∧ I.2.2.2.1 = cmR s v c) ∧ (cmA v c = true → cmR s v c = 0 → I.1 = 0 ∧ I.2.2.1 = cmD s v c)
theorem itCmd_spec {s : St} {v : Nat} {c : Cmd} (hs : OkS s) (hv : v < 7) (hw : wfC v c) : CmS s v c (itCmd s v c) := by
  have hA : ∀ (I : It), (¬ (c.1 < 8 ∧ c.2.1 < 8) → I.1 = 1 ∧ I.2.2.2.1 = 0) → (c.1 < 8 ∧ c.2.1 < 8 → (cmR s v c ≠ 0 → I.1 ≠ 0 ∧ I.2.2.2.1 = cmR s v c) ∧ (cmR s v c = 0 → I.1 = 0 ∧ I.2.2.1 = cmD s v c)) → cmA v c = decide (c.1 < 8 ∧ c.2.1 < 8) → CmS s v c I := by
    intro I h1 h2 hd
    unfold CmS
    rw [hd]
    exact ⟨fun q => Or.inr (h1 (of_decide_eq_false q)).1, fun q => (h1 (of_decide_eq_false q)).2, fun q => (h2 (of_decide_eq_true q)).1, fun q => (h2 (of_decide_eq_true q)).2⟩
  rcases (show v = 0 ∨ v = 1 ∨ v = 2 ∨ v = 3 ∨ v = 4 ∨ v = 5 ∨ v = 6 by omega) with rfl | rfl | rfl | rfl | rfl | rfl | rfl
  · have hq := hw.1 (Or.inl rfl)
    refine hA _ (fun q => ?_) (fun q => ?_) rfl
    · show (itPlace s (c.1 : Int) (c.2.1 : Int) c.2.2.1).1 = 1 ∧ (itPlace s (c.1 : Int) (c.2.1 : Int) c.2.2.1).2.2.2.1 = 0
      unfold itPlace
      rw [if_pos (ins_out q)]
      exact ⟨rfl, rfl⟩
    · have hi := ins_nat q
      have hcl := @cl_nat c.1 c.2.1
      show (rsP (s.1 (8 * c.1 + c.2.1)) ≠ 0 → (itPlace s (c.1 : Int) (c.2.1 : Int) c.2.2.1).1 ≠ 0 ∧ (itPlace s (c.1 : Int) (c.2.1 : Int) c.2.2.1).2.2.2.1 = rsP (s.1 (8 * c.1 + c.2.1))) ∧ (rsP (s.1 (8 * c.1 + c.2.1)) = 0 → (itPlace s (c.1 : Int) (c.2.1 : Int) c.2.2.1).1 = 0 ∧ (itPlace s (c.1 : Int) (c.2.1 : Int) c.2.2.1).2.2.1 = sCnt (sPut s (8 * c.1 + c.2.1) (10 + 10 * (c.2.2.1 - 97) + 0)) 1 (nI 1))
      have e1 : itPlace s (c.1 : Int) (c.2.1 : Int) c.2.2.1 = if s.1 (8 * c.1 + c.2.1) ≠ 0 then (3, 0, s, 1, nI (8 * c.1 + c.2.1)) else (0, nI (cnt (sCnt (sPut s (8 * c.1 + c.2.1) (10 + 10 * (c.2.2.1 - 97) + 0)) 1 (nI 1)).1 42), sCnt (sPut s (8 * c.1 + c.2.1) (10 + 10 * (c.2.2.1 - 97) + 0)) 1 (nI 1), 0, 0) := by
        unfold itPlace
        rw [if_neg (by rw [hi]; decide), if_neg (by rw [hq]; decide), hcl]
      rw [e1]
      unfold rsP
      by_cases e : s.1 (8 * c.1 + c.2.1) = 0
      · rw [if_pos e, if_neg (fun z => z e)]; exact ⟨fun z => absurd rfl z, fun _ => ⟨rfl, rfl⟩⟩
      · rw [if_neg e, if_pos e]; exact ⟨fun _ => ⟨Nat.succ_ne_zero _, rfl⟩, fun z => absurd z (Nat.succ_ne_zero _)⟩
  · refine hA _ (fun q => ?_) (fun q => ?_) rfl
    · show (itRemove s (c.1 : Int) (c.2.1 : Int)).1 = 1 ∧ (itRemove s (c.1 : Int) (c.2.1 : Int)).2.2.2.1 = 0
      unfold itRemove
      rw [if_pos (ins_out q)]
      exact ⟨rfl, rfl⟩
    · have hi := ins_nat q
      have hcl := @cl_nat c.1 c.2.1
      show (rsR (s.1 (8 * c.1 + c.2.1)) ≠ 0 → (itRemove s (c.1 : Int) (c.2.1 : Int)).1 ≠ 0 ∧ (itRemove s (c.1 : Int) (c.2.1 : Int)).2.2.2.1 = rsR (s.1 (8 * c.1 + c.2.1))) ∧ (rsR (s.1 (8 * c.1 + c.2.1)) = 0 → (itRemove s (c.1 : Int) (c.2.1 : Int)).1 = 0 ∧ (itRemove s (c.1 : Int) (c.2.1 : Int)).2.2.1 = sCnt (sPut s (8 * c.1 + c.2.1) 0) 2 (nI 1))
      have e1 : itRemove s (c.1 : Int) (c.2.1 : Int) = if s.1 (8 * c.1 + c.2.1) = 0 then (2, 0, s, 2, nI (8 * c.1 + c.2.1)) else (0, nI (cnt (sCnt (sPut s (8 * c.1 + c.2.1) 0) 2 (nI 1)).1 42), sCnt (sPut s (8 * c.1 + c.2.1) 0) 2 (nI 1), 0, 0) := by
        unfold itRemove
        rw [if_neg (by rw [hi]; decide), hcl]
      rw [e1]
      unfold rsR
      by_cases e : s.1 (8 * c.1 + c.2.1) = 0
      · rw [if_pos e, if_pos e]; exact ⟨fun _ => ⟨Nat.succ_ne_zero _, rfl⟩, fun z => absurd z (Nat.succ_ne_zero _)⟩
      · rw [if_neg e, if_neg e]; exact ⟨fun z => absurd rfl z, fun _ => ⟨rfl, rfl⟩⟩
  · refine hA _ (fun q => ?_) (fun q => ?_) rfl
    · show (itBleach s (c.1 : Int) (c.2.1 : Int)).1 = 1 ∧ (itBleach s (c.1 : Int) (c.2.1 : Int)).2.2.2.1 = 0
      unfold itBleach
      rw [if_pos (ins_out q)]
      exact ⟨rfl, rfl⟩
    · have hi := ins_nat q
      have hcl := @cl_nat c.1 c.2.1
      show (rsA (s.1 (8 * c.1 + c.2.1)) ≠ 0 → (itBleach s (c.1 : Int) (c.2.1 : Int)).1 ≠ 0 ∧ (itBleach s (c.1 : Int) (c.2.1 : Int)).2.2.2.1 = rsA (s.1 (8 * c.1 + c.2.1))) ∧ (rsA (s.1 (8 * c.1 + c.2.1)) = 0 → (itBleach s (c.1 : Int) (c.2.1 : Int)).1 = 0 ∧ (itBleach s (c.1 : Int) (c.2.1 : Int)).2.2.1 = sCnt (sPut s (8 * c.1 + c.2.1) 1) 4 (nI 1))
      have e1 : itBleach s (c.1 : Int) (c.2.1 : Int) = if s.1 (8 * c.1 + c.2.1) = 0 then (2, 0, s, 2, nI (8 * c.1 + c.2.1)) else if s.1 (8 * c.1 + c.2.1) < 10 then (2, 0, s, 3, nI (cnt s.1 35)) else (0, nI (ag (s.1 (8 * c.1 + c.2.1))), sCnt (sPut s (8 * c.1 + c.2.1) 1) 4 (nI 1), 0, 0) := by
        unfold itBleach
        rw [if_neg (by rw [hi]; decide), hcl]
      rw [e1]
      unfold rsA
      by_cases e : s.1 (8 * c.1 + c.2.1) = 0
      · rw [if_pos e, if_pos e]; exact ⟨fun _ => ⟨Nat.succ_ne_zero _, rfl⟩, fun z => absurd z (Nat.succ_ne_zero _)⟩
      · rw [if_neg e, if_neg e]
        by_cases e2 : s.1 (8 * c.1 + c.2.1) < 10
        · rw [if_pos e2, if_pos e2]; exact ⟨fun _ => ⟨Nat.succ_ne_zero _, rfl⟩, fun z => absurd z (Nat.succ_ne_zero _)⟩
        · rw [if_neg e2, if_neg e2]; exact ⟨fun z => absurd rfl z, fun _ => ⟨rfl, rfl⟩⟩
  · have hq := hw.1 (Or.inr rfl)
    refine hA _ (fun q => ?_) (fun q => ?_) rfl
    · show (itRecolour s (c.1 : Int) (c.2.1 : Int) c.2.2.1).1 = 1 ∧ (itRecolour s (c.1 : Int) (c.2.1 : Int) c.2.2.1).2.2.2.1 = 0
      unfold itRecolour
      rw [if_pos (ins_out q)]
      exact ⟨rfl, rfl⟩
    · have hi := ins_nat q
      have hcl := @cl_nat c.1 c.2.1
      show (rsA (s.1 (8 * c.1 + c.2.1)) ≠ 0 → (itRecolour s (c.1 : Int) (c.2.1 : Int) c.2.2.1).1 ≠ 0 ∧ (itRecolour s (c.1 : Int) (c.2.1 : Int) c.2.2.1).2.2.2.1 = rsA (s.1 (8 * c.1 + c.2.1))) ∧ (rsA (s.1 (8 * c.1 + c.2.1)) = 0 → (itRecolour s (c.1 : Int) (c.2.1 : Int) c.2.2.1).1 = 0 ∧ (itRecolour s (c.1 : Int) (c.2.1 : Int) c.2.2.1).2.2.1 = sPut s (8 * c.1 + c.2.1) (10 + 10 * (c.2.2.1 - 97) + ag (s.1 (8 * c.1 + c.2.1))))
      have e1 : itRecolour s (c.1 : Int) (c.2.1 : Int) c.2.2.1 = if s.1 (8 * c.1 + c.2.1) = 0 then (3, 0, s, 2, nI (8 * c.1 + c.2.1)) else if s.1 (8 * c.1 + c.2.1) < 10 then (3, 0, s, 3, nI (cnt s.1 35)) else (0, nI (kc (s.1 (8 * c.1 + c.2.1))), sPut s (8 * c.1 + c.2.1) (10 + 10 * (c.2.2.1 - 97) + ag (s.1 (8 * c.1 + c.2.1))), 0, 0) := by
        unfold itRecolour
        rw [if_neg (by rw [hi]; decide), if_neg (by rw [hq]; decide), hcl]
      rw [e1]
      unfold rsA
      by_cases e : s.1 (8 * c.1 + c.2.1) = 0
      · rw [if_pos e, if_pos e]; exact ⟨fun _ => ⟨Nat.succ_ne_zero _, rfl⟩, fun z => absurd z (Nat.succ_ne_zero _)⟩
      · rw [if_neg e, if_neg e]
        by_cases e2 : s.1 (8 * c.1 + c.2.1) < 10
        · rw [if_pos e2, if_pos e2]; exact ⟨fun _ => ⟨Nat.succ_ne_zero _, rfl⟩, fun z => absurd z (Nat.succ_ne_zero _)⟩
        · rw [if_neg e2, if_neg e2]; exact ⟨fun z => absurd rfl z, fun _ => ⟨rfl, rfl⟩⟩
  · have hq := hw.2.1 rfl
    refine hA _ (fun q => ?_) (fun q => ?_) rfl
    · show (itPlant s (c.1 : Int) (c.2.1 : Int) c.2.2.1 c.2.2.2).1 = 1 ∧ (itPlant s (c.1 : Int) (c.2.1 : Int) c.2.2.1 c.2.2.2).2.2.2.1 = 0
      unfold itPlant
      rw [if_pos (ins_out q)]
      exact ⟨rfl, rfl⟩
    · have hi := ins_nat q
      show (rsL s (ptN c.2.2.1) c.1 c.2.1 ≠ 0 → (itPlant s (c.1 : Int) (c.2.1 : Int) c.2.2.1 c.2.2.2).1 ≠ 0 ∧ (itPlant s (c.1 : Int) (c.2.1 : Int) c.2.2.1 c.2.2.2).2.2.2.1 = rsL s (ptN c.2.2.1) c.1 c.2.1) ∧ (rsL s (ptN c.2.2.1) c.1 c.2.1 = 0 → (itPlant s (c.1 : Int) (c.2.1 : Int) c.2.2.1 c.2.2.2).1 = 0 ∧ (itPlant s (c.1 : Int) (c.2.1 : Int) c.2.2.1 c.2.2.2).2.2.1 = plt s (ptN c.2.2.1) c.1 c.2.1 c.2.2.2 (psz (ptN c.2.2.1)))
      have e1 : itPlant s (c.1 : Int) (c.2.1 : Int) c.2.2.1 c.2.2.2 = if allin (ptN c.2.2.1) c.1 c.2.1 = false then (3, 0, s, 4, nI (psz (ptN c.2.2.1))) else if 0 ≤ fti s.1 (ptN c.2.2.1) c.1 c.2.1 then (3, 0, s, 1, zI (fti s.1 (ptN c.2.2.1) c.1 c.2.1)) else (0, nI (psz (ptN c.2.2.1)), plt s (ptN c.2.2.1) c.1 c.2.1 c.2.2.2 (psz (ptN c.2.2.1)), 0, 0) := by
        unfold itPlant
        rw [if_neg (by rw [hi]; decide), if_neg (by rw [hq.1]; decide), if_neg (by rw [hq.2]; decide), Int.toNat_natCast, Int.toNat_natCast]
      rw [e1]
      unfold rsL
      cases e : allin (ptN c.2.2.1) c.1 c.2.1 with
      | false => rw [if_pos rfl, if_neg (by decide)]; exact ⟨fun _ => ⟨Nat.succ_ne_zero _, rfl⟩, fun z => absurd z (Nat.succ_ne_zero _)⟩
      | true =>
        rw [if_pos (rfl : (true = true)), if_neg (show ¬ (true = false) by decide)]
        by_cases e2 : fti s.1 (ptN c.2.2.1) c.1 c.2.1 < 0
        · rw [if_pos e2, if_neg (by omega)]; exact ⟨fun z => absurd rfl z, fun _ => ⟨rfl, rfl⟩⟩
        · rw [if_neg e2, if_pos (by omega)]; exact ⟨fun _ => ⟨Nat.succ_ne_zero _, rfl⟩, fun z => absurd z (Nat.succ_ne_zero _)⟩
  · have hq := hw.2.2.1 rfl
    have e0 : itCmd s 5 c = itRule s c.1 := rfl
    have eR : cmR s 5 c = if s.2.1 = rlN c.1 then 5 else 0 := rfl
    have eD : cmD s 5 c = (s.1, rlN c.1, s.2.2) := rfl
    have eA : cmA 5 c = true := rfl
    unfold CmS
    rw [e0, eR, eD, eA]
    unfold itRule
    rw [if_neg (by rw [hq]; decide)]
    by_cases e : s.2.1 = rlN c.1
    · rw [if_pos e, if_pos e]; exact ⟨fun q => absurd q (by decide), fun q => absurd q (by decide), fun _ _ => ⟨Nat.succ_ne_zero _, rfl⟩, fun _ z => absurd z (Nat.succ_ne_zero _)⟩
    · rw [if_neg e, if_neg e]; exact ⟨fun q => absurd q (by decide), fun q => absurd q (by decide), fun _ z => absurd rfl z, fun _ _ => ⟨rfl, rfl⟩⟩
  · have e0 : itCmd s 6 c = itTides s (c.1 : Int) := rfl
    have eR : cmR s 6 c = 0 := rfl
    have eD : cmD s 6 c = tideN s c.1 := rfl
    have eA : cmA 6 c = decide (1 ≤ c.1 ∧ c.1 ≤ 20) := rfl
    unfold CmS
    rw [e0, eR, eD, eA]
    unfold itTides
    by_cases e : 1 ≤ c.1 ∧ c.1 ≤ 20
    · rw [if_pos (by omega), decide_eq_true e]
      exact ⟨fun q => absurd q (by decide), fun q => absurd q (by decide), fun _ z => absurd rfl z, fun _ _ => ⟨rfl, by show tideN s ((c.1 : Int).toNat) = _; rw [Int.toNat_natCast]⟩⟩
    · rw [if_neg (by omega), decide_eq_false e]
      exact ⟨fun _ => Or.inr rfl, fun _ => rfl, fun q => absurd q (by decide), fun q => absurd q (by decide)⟩
theorem sg_lt {l : List Nat} {p : Nat} (h : ∀ i, i < l.length → 32 ≤ l.getD i 0 ∧ l.getD i 0 ≤ 126) : sg l p ≤ 126 := by
  unfold sg
  split
  · next q => have := h p q; omega
  · omega
theorem isC_R {r : Nat} : isR (rlL r) = true := by unfold rlL; split <;> (try split) <;> decide
theorem agO_wf {l : List Nat} {v p : Nat} (h : ∀ i, i < l.length → 32 ≤ l.getD i 0 ∧ l.getD i 0 ≤ 126) (hv : v < 7) (hO : agO l v p = true) : wfC v (agC l v p) := by
  have g0 := sg_lt (p := p) h
  have g1 := sg_lt (p := p + 1) h
  have g3 := sg_lt (p := p + 3) h
  have g4 := sg_lt (p := p + 4) h
  have hb : (agC l v p).1 < 1000 ∧ (agC l v p).2.1 < 1000 ∧ (agC l v p).2.2.1 < 1000 ∧ (agC l v p).2.2.2 < 1000 := by
    unfold agC
    have := fun r => @rl_lt r
    split
    · exact ⟨by have := @rl_lt ((lkF l p 1100 3).getD 0); show rlL _ < 1000; omega, Nat.zero_lt_succ _, Nat.zero_lt_succ _, Nat.zero_lt_succ _⟩
    · split
      · exact ⟨by show (if isD (sg l (p + 1)) = true then 10 * (sg l p - 48) + (sg l (p + 1) - 48) else sg l p - 48) < 1000; split <;> omega, Nat.zero_lt_succ _, Nat.zero_lt_succ _, Nat.zero_lt_succ _⟩
      · exact ⟨by show sg l p - 48 < 1000; omega, by show sg l (p + 1) - 48 < 1000; omega, by show sg l (p + 3) < 1000; omega, by show sg l (p + 4) < 1000; omega⟩
  refine ⟨fun q => ?_, fun q => ?_, fun q => ?_, hb⟩
  · rcases q with rfl | rfl
    · show isC (sg l (p + 3)) = true
      have e : agO l 0 p = (isD (sg l p) && isD (sg l (p + 1)) && (sg l (p + 2) == 32 && isC (sg l (p + 3)))) := rfl
      rw [e] at hO
      simp only [Bool.and_eq_true] at hO
      exact hO.2.2
    · show isC (sg l (p + 3)) = true
      have e : agO l 3 p = (isD (sg l p) && isD (sg l (p + 1)) && (sg l (p + 2) == 32 && isC (sg l (p + 3)))) := rfl
      rw [e] at hO
      simp only [Bool.and_eq_true] at hO
      exact hO.2.2
  · subst q
    show isP (sg l (p + 3)) = true ∧ isC (sg l (p + 4)) = true
    have e : agO l 4 p = (isD (sg l p) && isD (sg l (p + 1)) && (sg l (p + 2) == 32 && (isP (sg l (p + 3)) && isC (sg l (p + 4))))) := rfl
    rw [e] at hO
    simp only [Bool.and_eq_true] at hO
    exact hO.2.2
  · subst q
    exact isC_R
set_option maxRecDepth 100000 in
set_option maxHeartbeats 1000000 in
theorem m_does {n v : Nat} {c : Cmd} {s : St} {w : Wd} (hM : Bk w 48 0 s) (h9 : gI w 47 9 = nI 0) (h15 : gI w 47 15 = nI 0) (hT : Tb w) (hI : CmI w n v c) (hw : wfC v c) (hv : v < 7) (hn : n ≤ 60) : Ct 1 MX11_does 8 0 0 [.ref 47, .int (nI (5 * n))] w (Mt none fun w1 => ItW (itCmd s v c) w w1) := by
  refine Ct_of (by decide +kernel) rfl (Nat.le_of_ble_eq_true rfl) rfl ?_
  have hb9 := hw.2.2.2
  rcases (show v = 0 ∨ v = 1 ∨ v = 2 ∨ v = 3 ∨ v = 4 ∨ v = 5 ∨ v = 6 by omega) with rfl | rfl | rfl | rfl | rfl | rfl | rfl
  · refine V_aload_n (i := 0) dX11_does_0 rfl rfl ?_
    refine V_getC (k := 27) (q := 64) dX11_does_1 (Or.inr ⟨rfl, Nat.le_of_ble_eq_true rfl⟩) rfl rfl rfl (Nat.le_of_ble_eq_true rfl) flRX11_63 ?_
    refine V_iload_n (i := 1) dX11_does_4 rfl rfl ?_
    refine V_iconst_n (v := 1) dX11_does_5 (by decide) ?_
    refine V_iadd_n dX11_does_6 ?_
    refine V_iald_n (i := ((5 * n) + 1)) dX11_does_7 (Or.inr ⟨rfl, Nat.le_of_ble_eq_true rfl⟩) rfl (by omega) (by decide) ?_
    refine V_top (y := nI (c.1)) hI.2.1 ?_
    refine V_istore_n (i := 2) dX11_does_8 rfl (Nat.le_of_ble_eq_true rfl) rfl rfl ?_
    refine V_aload_n (i := 0) dX11_does_9 rfl rfl ?_
    refine V_getC (k := 27) (q := 64) dX11_does_10 (Or.inr ⟨rfl, Nat.le_of_ble_eq_true rfl⟩) rfl rfl rfl (Nat.le_of_ble_eq_true rfl) flRX11_63 ?_
    refine V_iload_n (i := 1) dX11_does_13 rfl rfl ?_
    refine V_iconst_n (v := 2) dX11_does_14 (by decide) ?_
    refine V_iadd_n dX11_does_15 ?_
    refine V_iald_n (i := ((5 * n) + 2)) dX11_does_16 (Or.inr ⟨rfl, Nat.le_of_ble_eq_true rfl⟩) rfl (by omega) (by decide) ?_
    refine V_top (y := nI (c.2.1)) (hI.2.2.1 (by omega)) ?_
    refine V_istore_n (i := 3) dX11_does_17 rfl (Nat.le_of_ble_eq_true rfl) rfl rfl ?_
    refine V_aload_n (i := 0) dX11_does_18 rfl rfl ?_
    refine V_getC (k := 27) (q := 64) dX11_does_19 (Or.inr ⟨rfl, Nat.le_of_ble_eq_true rfl⟩) rfl rfl rfl (Nat.le_of_ble_eq_true rfl) flRX11_63 ?_
    refine V_iload_n (i := 1) dX11_does_22 rfl rfl ?_
    refine V_iconst_n (v := 3) dX11_does_23 (by decide) ?_
    refine V_iadd_n dX11_does_24 ?_
    refine V_iald_n (i := ((5 * n) + 3)) dX11_does_25 (Or.inr ⟨rfl, Nat.le_of_ble_eq_true rfl⟩) rfl (by omega) (by decide) ?_
    refine V_top (y := nI (c.2.2.1)) (hI.2.2.2.1 (by omega)) ?_
    refine V_istore dX11_does_26 (Nat.le_of_ble_eq_true rfl) rfl rfl ?_
    refine V_aload_n (i := 0) dX11_does_28 rfl rfl ?_
    refine V_getC (k := 27) (q := 64) dX11_does_29 (Or.inr ⟨rfl, Nat.le_of_ble_eq_true rfl⟩) rfl rfl rfl (Nat.le_of_ble_eq_true rfl) flRX11_63 ?_
    refine V_iload_n (i := 1) dX11_does_32 rfl rfl ?_
    refine V_iald_n (i := (5 * n)) dX11_does_33 (Or.inr ⟨rfl, Nat.le_of_ble_eq_true rfl⟩) rfl (by omega) (by decide) ?_
    refine V_top (y := nI 0) hI.1 ?_
    refine V_tsIn (tgt := 72) dX11_does_34 (by decide) (by decide) rfl (by decide) ?_
    refine V_aload_n (i := 0) dX11_does_72 rfl rfl ?_
    refine V_iload_n (i := 2) dX11_does_73 rfl rfl ?_
    refine V_iload_n (i := 3) dX11_does_74 rfl rfl ?_
    refine V_iload dX11_does_75 rfl ?_
    refine V_callV dX11_does_77 (m_placeIt (r := (c.1 : Int)) (c := (c.2.1 : Int)) (q := c.2.2.1) hM h9 h15 (zI_n _) (zI_n _) (by omega) (by omega) (by omega) (by omega) (by omega)) okX11_placeIt lkRX11_145 (Or.inr ⟨rfl, Nat.le_of_ble_eq_true rfl⟩) rfl rfl rfl rfl (Nat.le_of_ble_eq_true rfl) ⟨Nat.le_of_ble_eq_true rfl, Nat.le_of_ble_eq_true rfl⟩ rfl ⟨Nat.zero_le _, Nat.zero_le _⟩ (fun v9 u1 hu1 => ?_) (fun E9 w9 h9 => by obtain ⟨⟨x9, h9, _⟩, _⟩ := h9; cases h9)
    obtain ⟨⟨x1, e9, hx1⟩, hu1⟩ := hu1
    cases e9
    refine V_pop dX11_does_80 rfl ?_
    refine V_goto (tgt := 151) dX11_does_81 (by decide) ?_
    refine V_vret dX11_does_151 rfl ?_
    exact ⟨rfl, hu1⟩
  · refine V_aload_n (i := 0) dX11_does_0 rfl rfl ?_
    refine V_getC (k := 27) (q := 64) dX11_does_1 (Or.inr ⟨rfl, Nat.le_of_ble_eq_true rfl⟩) rfl rfl rfl (Nat.le_of_ble_eq_true rfl) flRX11_63 ?_
    refine V_iload_n (i := 1) dX11_does_4 rfl rfl ?_
    refine V_iconst_n (v := 1) dX11_does_5 (by decide) ?_
    refine V_iadd_n dX11_does_6 ?_
    refine V_iald_n (i := ((5 * n) + 1)) dX11_does_7 (Or.inr ⟨rfl, Nat.le_of_ble_eq_true rfl⟩) rfl (by omega) (by decide) ?_
    refine V_top (y := nI (c.1)) hI.2.1 ?_
    refine V_istore_n (i := 2) dX11_does_8 rfl (Nat.le_of_ble_eq_true rfl) rfl rfl ?_
    refine V_aload_n (i := 0) dX11_does_9 rfl rfl ?_
    refine V_getC (k := 27) (q := 64) dX11_does_10 (Or.inr ⟨rfl, Nat.le_of_ble_eq_true rfl⟩) rfl rfl rfl (Nat.le_of_ble_eq_true rfl) flRX11_63 ?_
    refine V_iload_n (i := 1) dX11_does_13 rfl rfl ?_
    refine V_iconst_n (v := 2) dX11_does_14 (by decide) ?_
    refine V_iadd_n dX11_does_15 ?_
    refine V_iald_n (i := ((5 * n) + 2)) dX11_does_16 (Or.inr ⟨rfl, Nat.le_of_ble_eq_true rfl⟩) rfl (by omega) (by decide) ?_
    refine V_top (y := nI (c.2.1)) (hI.2.2.1 (by omega)) ?_
    refine V_istore_n (i := 3) dX11_does_17 rfl (Nat.le_of_ble_eq_true rfl) rfl rfl ?_
    refine V_aload_n (i := 0) dX11_does_18 rfl rfl ?_
    refine V_getC (k := 27) (q := 64) dX11_does_19 (Or.inr ⟨rfl, Nat.le_of_ble_eq_true rfl⟩) rfl rfl rfl (Nat.le_of_ble_eq_true rfl) flRX11_63 ?_
    refine V_iload_n (i := 1) dX11_does_22 rfl rfl ?_
    refine V_iconst_n (v := 3) dX11_does_23 (by decide) ?_
    refine V_iadd_n dX11_does_24 ?_
    refine V_iald_n (i := ((5 * n) + 3)) dX11_does_25 (Or.inr ⟨rfl, Nat.le_of_ble_eq_true rfl⟩) rfl (by omega) (by decide) ?_
    refine V_top (y := (gI w 64 ((5 * n) + 3))) rfl ?_
    refine V_istore dX11_does_26 (Nat.le_of_ble_eq_true rfl) rfl rfl ?_
    refine V_aload_n (i := 0) dX11_does_28 rfl rfl ?_
    refine V_getC (k := 27) (q := 64) dX11_does_29 (Or.inr ⟨rfl, Nat.le_of_ble_eq_true rfl⟩) rfl rfl rfl (Nat.le_of_ble_eq_true rfl) flRX11_63 ?_
    refine V_iload_n (i := 1) dX11_does_32 rfl rfl ?_
    refine V_iald_n (i := (5 * n)) dX11_does_33 (Or.inr ⟨rfl, Nat.le_of_ble_eq_true rfl⟩) rfl (by omega) (by decide) ?_
    refine V_top (y := nI 1) hI.1 ?_
    refine V_tsIn (tgt := 84) dX11_does_34 (by decide) (by decide) rfl (by decide) ?_
    refine V_aload_n (i := 0) dX11_does_84 rfl rfl ?_
    refine V_iload_n (i := 2) dX11_does_85 rfl rfl ?_
    refine V_iload_n (i := 3) dX11_does_86 rfl rfl ?_
    refine V_callV dX11_does_87 (m_removeIt (r := (c.1 : Int)) (c := (c.2.1 : Int)) hM h9 h15 (zI_n _) (zI_n _) (by omega) (by omega) (by omega) (by omega)) okX11_removeIt lkRX11_151 (Or.inr ⟨rfl, Nat.le_of_ble_eq_true rfl⟩) rfl rfl rfl rfl (Nat.le_of_ble_eq_true rfl) ⟨Nat.le_of_ble_eq_true rfl, Nat.le_of_ble_eq_true rfl⟩ rfl ⟨Nat.zero_le _, Nat.zero_le _⟩ (fun v9 u1 hu1 => ?_) (fun E9 w9 h9 => by obtain ⟨⟨x9, h9, _⟩, _⟩ := h9; cases h9)
    obtain ⟨⟨x1, e9, hx1⟩, hu1⟩ := hu1
    cases e9
    refine V_pop dX11_does_90 rfl ?_
    refine V_goto (tgt := 151) dX11_does_91 (by decide) ?_
    refine V_vret dX11_does_151 rfl ?_
    exact ⟨rfl, hu1⟩
  · refine V_aload_n (i := 0) dX11_does_0 rfl rfl ?_
    refine V_getC (k := 27) (q := 64) dX11_does_1 (Or.inr ⟨rfl, Nat.le_of_ble_eq_true rfl⟩) rfl rfl rfl (Nat.le_of_ble_eq_true rfl) flRX11_63 ?_
    refine V_iload_n (i := 1) dX11_does_4 rfl rfl ?_
    refine V_iconst_n (v := 1) dX11_does_5 (by decide) ?_
    refine V_iadd_n dX11_does_6 ?_
    refine V_iald_n (i := ((5 * n) + 1)) dX11_does_7 (Or.inr ⟨rfl, Nat.le_of_ble_eq_true rfl⟩) rfl (by omega) (by decide) ?_
    refine V_top (y := nI (c.1)) hI.2.1 ?_
    refine V_istore_n (i := 2) dX11_does_8 rfl (Nat.le_of_ble_eq_true rfl) rfl rfl ?_
    refine V_aload_n (i := 0) dX11_does_9 rfl rfl ?_
    refine V_getC (k := 27) (q := 64) dX11_does_10 (Or.inr ⟨rfl, Nat.le_of_ble_eq_true rfl⟩) rfl rfl rfl (Nat.le_of_ble_eq_true rfl) flRX11_63 ?_
    refine V_iload_n (i := 1) dX11_does_13 rfl rfl ?_
    refine V_iconst_n (v := 2) dX11_does_14 (by decide) ?_
    refine V_iadd_n dX11_does_15 ?_
    refine V_iald_n (i := ((5 * n) + 2)) dX11_does_16 (Or.inr ⟨rfl, Nat.le_of_ble_eq_true rfl⟩) rfl (by omega) (by decide) ?_
    refine V_top (y := nI (c.2.1)) (hI.2.2.1 (by omega)) ?_
    refine V_istore_n (i := 3) dX11_does_17 rfl (Nat.le_of_ble_eq_true rfl) rfl rfl ?_
    refine V_aload_n (i := 0) dX11_does_18 rfl rfl ?_
    refine V_getC (k := 27) (q := 64) dX11_does_19 (Or.inr ⟨rfl, Nat.le_of_ble_eq_true rfl⟩) rfl rfl rfl (Nat.le_of_ble_eq_true rfl) flRX11_63 ?_
    refine V_iload_n (i := 1) dX11_does_22 rfl rfl ?_
    refine V_iconst_n (v := 3) dX11_does_23 (by decide) ?_
    refine V_iadd_n dX11_does_24 ?_
    refine V_iald_n (i := ((5 * n) + 3)) dX11_does_25 (Or.inr ⟨rfl, Nat.le_of_ble_eq_true rfl⟩) rfl (by omega) (by decide) ?_
    refine V_top (y := (gI w 64 ((5 * n) + 3))) rfl ?_
    refine V_istore dX11_does_26 (Nat.le_of_ble_eq_true rfl) rfl rfl ?_
    refine V_aload_n (i := 0) dX11_does_28 rfl rfl ?_
    refine V_getC (k := 27) (q := 64) dX11_does_29 (Or.inr ⟨rfl, Nat.le_of_ble_eq_true rfl⟩) rfl rfl rfl (Nat.le_of_ble_eq_true rfl) flRX11_63 ?_
    refine V_iload_n (i := 1) dX11_does_32 rfl rfl ?_
    refine V_iald_n (i := (5 * n)) dX11_does_33 (Or.inr ⟨rfl, Nat.le_of_ble_eq_true rfl⟩) rfl (by omega) (by decide) ?_
    refine V_top (y := nI 2) hI.1 ?_
    refine V_tsIn (tgt := 94) dX11_does_34 (by decide) (by decide) rfl (by decide) ?_
    refine V_aload_n (i := 0) dX11_does_94 rfl rfl ?_
    refine V_iload_n (i := 2) dX11_does_95 rfl rfl ?_
    refine V_iload_n (i := 3) dX11_does_96 rfl rfl ?_
    refine V_callV dX11_does_97 (m_bleachIt (r := (c.1 : Int)) (c := (c.2.1 : Int)) hM h9 h15 (zI_n _) (zI_n _) (by omega) (by omega) (by omega) (by omega)) okX11_bleachIt lkRX11_157 (Or.inr ⟨rfl, Nat.le_of_ble_eq_true rfl⟩) rfl rfl rfl rfl (Nat.le_of_ble_eq_true rfl) ⟨Nat.le_of_ble_eq_true rfl, Nat.le_of_ble_eq_true rfl⟩ rfl ⟨Nat.zero_le _, Nat.zero_le _⟩ (fun v9 u1 hu1 => ?_) (fun E9 w9 h9 => by obtain ⟨⟨x9, h9, _⟩, _⟩ := h9; cases h9)
    obtain ⟨⟨x1, e9, hx1⟩, hu1⟩ := hu1
    cases e9
    refine V_pop dX11_does_100 rfl ?_
    refine V_goto (tgt := 151) dX11_does_101 (by decide) ?_
    refine V_vret dX11_does_151 rfl ?_
    exact ⟨rfl, hu1⟩
  · refine V_aload_n (i := 0) dX11_does_0 rfl rfl ?_
    refine V_getC (k := 27) (q := 64) dX11_does_1 (Or.inr ⟨rfl, Nat.le_of_ble_eq_true rfl⟩) rfl rfl rfl (Nat.le_of_ble_eq_true rfl) flRX11_63 ?_
    refine V_iload_n (i := 1) dX11_does_4 rfl rfl ?_
    refine V_iconst_n (v := 1) dX11_does_5 (by decide) ?_
    refine V_iadd_n dX11_does_6 ?_
    refine V_iald_n (i := ((5 * n) + 1)) dX11_does_7 (Or.inr ⟨rfl, Nat.le_of_ble_eq_true rfl⟩) rfl (by omega) (by decide) ?_
    refine V_top (y := nI (c.1)) hI.2.1 ?_
    refine V_istore_n (i := 2) dX11_does_8 rfl (Nat.le_of_ble_eq_true rfl) rfl rfl ?_
    refine V_aload_n (i := 0) dX11_does_9 rfl rfl ?_
    refine V_getC (k := 27) (q := 64) dX11_does_10 (Or.inr ⟨rfl, Nat.le_of_ble_eq_true rfl⟩) rfl rfl rfl (Nat.le_of_ble_eq_true rfl) flRX11_63 ?_
    refine V_iload_n (i := 1) dX11_does_13 rfl rfl ?_
    refine V_iconst_n (v := 2) dX11_does_14 (by decide) ?_
    refine V_iadd_n dX11_does_15 ?_
    refine V_iald_n (i := ((5 * n) + 2)) dX11_does_16 (Or.inr ⟨rfl, Nat.le_of_ble_eq_true rfl⟩) rfl (by omega) (by decide) ?_
    refine V_top (y := nI (c.2.1)) (hI.2.2.1 (by omega)) ?_
    refine V_istore_n (i := 3) dX11_does_17 rfl (Nat.le_of_ble_eq_true rfl) rfl rfl ?_
    refine V_aload_n (i := 0) dX11_does_18 rfl rfl ?_
    refine V_getC (k := 27) (q := 64) dX11_does_19 (Or.inr ⟨rfl, Nat.le_of_ble_eq_true rfl⟩) rfl rfl rfl (Nat.le_of_ble_eq_true rfl) flRX11_63 ?_
    refine V_iload_n (i := 1) dX11_does_22 rfl rfl ?_
    refine V_iconst_n (v := 3) dX11_does_23 (by decide) ?_
    refine V_iadd_n dX11_does_24 ?_
    refine V_iald_n (i := ((5 * n) + 3)) dX11_does_25 (Or.inr ⟨rfl, Nat.le_of_ble_eq_true rfl⟩) rfl (by omega) (by decide) ?_
    refine V_top (y := nI (c.2.2.1)) (hI.2.2.2.1 (by omega)) ?_
    refine V_istore dX11_does_26 (Nat.le_of_ble_eq_true rfl) rfl rfl ?_
    refine V_aload_n (i := 0) dX11_does_28 rfl rfl ?_
    refine V_getC (k := 27) (q := 64) dX11_does_29 (Or.inr ⟨rfl, Nat.le_of_ble_eq_true rfl⟩) rfl rfl rfl (Nat.le_of_ble_eq_true rfl) flRX11_63 ?_
    refine V_iload_n (i := 1) dX11_does_32 rfl rfl ?_
    refine V_iald_n (i := (5 * n)) dX11_does_33 (Or.inr ⟨rfl, Nat.le_of_ble_eq_true rfl⟩) rfl (by omega) (by decide) ?_
    refine V_top (y := nI 3) hI.1 ?_
    refine V_tsIn (tgt := 104) dX11_does_34 (by decide) (by decide) rfl (by decide) ?_
    refine V_aload_n (i := 0) dX11_does_104 rfl rfl ?_
    refine V_iload_n (i := 2) dX11_does_105 rfl rfl ?_
    refine V_iload_n (i := 3) dX11_does_106 rfl rfl ?_
    refine V_iload dX11_does_107 rfl ?_
    refine V_callV dX11_does_109 (m_recolourIt (r := (c.1 : Int)) (c := (c.2.1 : Int)) (q := c.2.2.1) hM h9 h15 (zI_n _) (zI_n _) (by omega) (by omega) (by omega) (by omega) (by omega)) okX11_recolourIt lkRX11_160 (Or.inr ⟨rfl, Nat.le_of_ble_eq_true rfl⟩) rfl rfl rfl rfl (Nat.le_of_ble_eq_true rfl) ⟨Nat.le_of_ble_eq_true rfl, Nat.le_of_ble_eq_true rfl⟩ rfl ⟨Nat.zero_le _, Nat.zero_le _⟩ (fun v9 u1 hu1 => ?_) (fun E9 w9 h9 => by obtain ⟨⟨x9, h9, _⟩, _⟩ := h9; cases h9)
    obtain ⟨⟨x1, e9, hx1⟩, hu1⟩ := hu1
    cases e9
    refine V_pop dX11_does_112 rfl ?_
    refine V_goto (tgt := 151) dX11_does_113 (by decide) ?_
    refine V_vret dX11_does_151 rfl ?_
    exact ⟨rfl, hu1⟩
  · refine V_aload_n (i := 0) dX11_does_0 rfl rfl ?_
    refine V_getC (k := 27) (q := 64) dX11_does_1 (Or.inr ⟨rfl, Nat.le_of_ble_eq_true rfl⟩) rfl rfl rfl (Nat.le_of_ble_eq_true rfl) flRX11_63 ?_
    refine V_iload_n (i := 1) dX11_does_4 rfl rfl ?_
    refine V_iconst_n (v := 1) dX11_does_5 (by decide) ?_
    refine V_iadd_n dX11_does_6 ?_
    refine V_iald_n (i := ((5 * n) + 1)) dX11_does_7 (Or.inr ⟨rfl, Nat.le_of_ble_eq_true rfl⟩) rfl (by omega) (by decide) ?_
    refine V_top (y := nI (c.1)) hI.2.1 ?_
    refine V_istore_n (i := 2) dX11_does_8 rfl (Nat.le_of_ble_eq_true rfl) rfl rfl ?_
    refine V_aload_n (i := 0) dX11_does_9 rfl rfl ?_
    refine V_getC (k := 27) (q := 64) dX11_does_10 (Or.inr ⟨rfl, Nat.le_of_ble_eq_true rfl⟩) rfl rfl rfl (Nat.le_of_ble_eq_true rfl) flRX11_63 ?_
    refine V_iload_n (i := 1) dX11_does_13 rfl rfl ?_
    refine V_iconst_n (v := 2) dX11_does_14 (by decide) ?_
    refine V_iadd_n dX11_does_15 ?_
    refine V_iald_n (i := ((5 * n) + 2)) dX11_does_16 (Or.inr ⟨rfl, Nat.le_of_ble_eq_true rfl⟩) rfl (by omega) (by decide) ?_
    refine V_top (y := nI (c.2.1)) (hI.2.2.1 (by omega)) ?_
    refine V_istore_n (i := 3) dX11_does_17 rfl (Nat.le_of_ble_eq_true rfl) rfl rfl ?_
    refine V_aload_n (i := 0) dX11_does_18 rfl rfl ?_
    refine V_getC (k := 27) (q := 64) dX11_does_19 (Or.inr ⟨rfl, Nat.le_of_ble_eq_true rfl⟩) rfl rfl rfl (Nat.le_of_ble_eq_true rfl) flRX11_63 ?_
    refine V_iload_n (i := 1) dX11_does_22 rfl rfl ?_
    refine V_iconst_n (v := 3) dX11_does_23 (by decide) ?_
    refine V_iadd_n dX11_does_24 ?_
    refine V_iald_n (i := ((5 * n) + 3)) dX11_does_25 (Or.inr ⟨rfl, Nat.le_of_ble_eq_true rfl⟩) rfl (by omega) (by decide) ?_
    refine V_top (y := nI (c.2.2.1)) (hI.2.2.2.1 (by omega)) ?_
    refine V_istore dX11_does_26 (Nat.le_of_ble_eq_true rfl) rfl rfl ?_
    refine V_aload_n (i := 0) dX11_does_28 rfl rfl ?_
    refine V_getC (k := 27) (q := 64) dX11_does_29 (Or.inr ⟨rfl, Nat.le_of_ble_eq_true rfl⟩) rfl rfl rfl (Nat.le_of_ble_eq_true rfl) flRX11_63 ?_
    refine V_iload_n (i := 1) dX11_does_32 rfl rfl ?_
    refine V_iald_n (i := (5 * n)) dX11_does_33 (Or.inr ⟨rfl, Nat.le_of_ble_eq_true rfl⟩) rfl (by omega) (by decide) ?_
    refine V_top (y := nI 4) hI.1 ?_
    refine V_tsIn (tgt := 116) dX11_does_34 (by decide) (by decide) rfl (by decide) ?_
    refine V_aload_n (i := 0) dX11_does_116 rfl rfl ?_
    refine V_iload_n (i := 2) dX11_does_117 rfl rfl ?_
    refine V_iload_n (i := 3) dX11_does_118 rfl rfl ?_
    refine V_iload dX11_does_119 rfl ?_
    refine V_aload_n (i := 0) dX11_does_121 rfl rfl ?_
    refine V_getC (k := 27) (q := 64) dX11_does_122 (Or.inr ⟨rfl, Nat.le_of_ble_eq_true rfl⟩) rfl rfl rfl (Nat.le_of_ble_eq_true rfl) flRX11_63 ?_
    refine V_iload_n (i := 1) dX11_does_125 rfl rfl ?_
    refine V_iconst_n (v := 4) dX11_does_126 (by decide) ?_
    refine V_iadd_n dX11_does_127 ?_
    refine V_iald_n (i := ((5 * n) + 4)) dX11_does_128 (Or.inr ⟨rfl, Nat.le_of_ble_eq_true rfl⟩) rfl (by omega) (by decide) ?_
    refine V_top (y := nI (c.2.2.2)) (hI.2.2.2.2 (by omega)) ?_
    refine V_callV dX11_does_129 (m_plantIt (r := (c.1 : Int)) (c := (c.2.1 : Int)) (pt := c.2.2.1) (q := c.2.2.2) hM h9 h15 (zI_n _) (zI_n _) (by omega) (by omega) (by omega) (by omega) hT (by omega) (by omega)) okX11_plantIt lkRX11_166 (Or.inr ⟨rfl, Nat.le_of_ble_eq_true rfl⟩) rfl rfl rfl rfl (Nat.le_of_ble_eq_true rfl) ⟨Nat.le_of_ble_eq_true rfl, Nat.le_of_ble_eq_true rfl⟩ rfl ⟨Nat.zero_le _, Nat.zero_le _⟩ (fun v9 u1 hu1 => ?_) (fun E9 w9 h9 => by obtain ⟨⟨x9, h9, _⟩, _⟩ := h9; cases h9)
    obtain ⟨⟨x1, e9, hx1⟩, hu1⟩ := hu1
    cases e9
    refine V_pop dX11_does_132 rfl ?_
    refine V_goto (tgt := 151) dX11_does_133 (by decide) ?_
    refine V_vret dX11_does_151 rfl ?_
    exact ⟨rfl, hu1⟩
  · refine V_aload_n (i := 0) dX11_does_0 rfl rfl ?_
    refine V_getC (k := 27) (q := 64) dX11_does_1 (Or.inr ⟨rfl, Nat.le_of_ble_eq_true rfl⟩) rfl rfl rfl (Nat.le_of_ble_eq_true rfl) flRX11_63 ?_
    refine V_iload_n (i := 1) dX11_does_4 rfl rfl ?_
    refine V_iconst_n (v := 1) dX11_does_5 (by decide) ?_
    refine V_iadd_n dX11_does_6 ?_
    refine V_iald_n (i := ((5 * n) + 1)) dX11_does_7 (Or.inr ⟨rfl, Nat.le_of_ble_eq_true rfl⟩) rfl (by omega) (by decide) ?_
    refine V_top (y := nI (c.1)) hI.2.1 ?_
    refine V_istore_n (i := 2) dX11_does_8 rfl (Nat.le_of_ble_eq_true rfl) rfl rfl ?_
    refine V_aload_n (i := 0) dX11_does_9 rfl rfl ?_
    refine V_getC (k := 27) (q := 64) dX11_does_10 (Or.inr ⟨rfl, Nat.le_of_ble_eq_true rfl⟩) rfl rfl rfl (Nat.le_of_ble_eq_true rfl) flRX11_63 ?_
    refine V_iload_n (i := 1) dX11_does_13 rfl rfl ?_
    refine V_iconst_n (v := 2) dX11_does_14 (by decide) ?_
    refine V_iadd_n dX11_does_15 ?_
    refine V_iald_n (i := ((5 * n) + 2)) dX11_does_16 (Or.inr ⟨rfl, Nat.le_of_ble_eq_true rfl⟩) rfl (by omega) (by decide) ?_
    refine V_top (y := (gI w 64 ((5 * n) + 2))) rfl ?_
    refine V_istore_n (i := 3) dX11_does_17 rfl (Nat.le_of_ble_eq_true rfl) rfl rfl ?_
    refine V_aload_n (i := 0) dX11_does_18 rfl rfl ?_
    refine V_getC (k := 27) (q := 64) dX11_does_19 (Or.inr ⟨rfl, Nat.le_of_ble_eq_true rfl⟩) rfl rfl rfl (Nat.le_of_ble_eq_true rfl) flRX11_63 ?_
    refine V_iload_n (i := 1) dX11_does_22 rfl rfl ?_
    refine V_iconst_n (v := 3) dX11_does_23 (by decide) ?_
    refine V_iadd_n dX11_does_24 ?_
    refine V_iald_n (i := ((5 * n) + 3)) dX11_does_25 (Or.inr ⟨rfl, Nat.le_of_ble_eq_true rfl⟩) rfl (by omega) (by decide) ?_
    refine V_top (y := (gI w 64 ((5 * n) + 3))) rfl ?_
    refine V_istore dX11_does_26 (Nat.le_of_ble_eq_true rfl) rfl rfl ?_
    refine V_aload_n (i := 0) dX11_does_28 rfl rfl ?_
    refine V_getC (k := 27) (q := 64) dX11_does_29 (Or.inr ⟨rfl, Nat.le_of_ble_eq_true rfl⟩) rfl rfl rfl (Nat.le_of_ble_eq_true rfl) flRX11_63 ?_
    refine V_iload_n (i := 1) dX11_does_32 rfl rfl ?_
    refine V_iald_n (i := (5 * n)) dX11_does_33 (Or.inr ⟨rfl, Nat.le_of_ble_eq_true rfl⟩) rfl (by omega) (by decide) ?_
    refine V_top (y := nI 5) hI.1 ?_
    refine V_tsIn (tgt := 136) dX11_does_34 (by decide) (by decide) rfl (by decide) ?_
    refine V_aload_n (i := 0) dX11_does_136 rfl rfl ?_
    refine V_iload_n (i := 2) dX11_does_137 rfl rfl ?_
    refine V_callV dX11_does_138 (m_ruleIt (q := c.1) hM h9 h15 (by omega)) okX11_ruleIt lkRX11_176 (Or.inr ⟨rfl, Nat.le_of_ble_eq_true rfl⟩) rfl rfl rfl rfl (Nat.le_of_ble_eq_true rfl) ⟨Nat.le_of_ble_eq_true rfl, Nat.le_of_ble_eq_true rfl⟩ rfl ⟨Nat.zero_le _, Nat.zero_le _⟩ (fun v9 u1 hu1 => ?_) (fun E9 w9 h9 => by obtain ⟨⟨x9, h9, _⟩, _⟩ := h9; cases h9)
    obtain ⟨⟨x1, e9, hx1⟩, hu1⟩ := hu1
    cases e9
    refine V_pop dX11_does_141 rfl ?_
    refine V_goto (tgt := 151) dX11_does_142 (by decide) ?_
    refine V_vret dX11_does_151 rfl ?_
    exact ⟨rfl, hu1⟩
  · refine V_aload_n (i := 0) dX11_does_0 rfl rfl ?_
    refine V_getC (k := 27) (q := 64) dX11_does_1 (Or.inr ⟨rfl, Nat.le_of_ble_eq_true rfl⟩) rfl rfl rfl (Nat.le_of_ble_eq_true rfl) flRX11_63 ?_
    refine V_iload_n (i := 1) dX11_does_4 rfl rfl ?_
    refine V_iconst_n (v := 1) dX11_does_5 (by decide) ?_
    refine V_iadd_n dX11_does_6 ?_
    refine V_iald_n (i := ((5 * n) + 1)) dX11_does_7 (Or.inr ⟨rfl, Nat.le_of_ble_eq_true rfl⟩) rfl (by omega) (by decide) ?_
    refine V_top (y := nI (c.1)) hI.2.1 ?_
    refine V_istore_n (i := 2) dX11_does_8 rfl (Nat.le_of_ble_eq_true rfl) rfl rfl ?_
    refine V_aload_n (i := 0) dX11_does_9 rfl rfl ?_
    refine V_getC (k := 27) (q := 64) dX11_does_10 (Or.inr ⟨rfl, Nat.le_of_ble_eq_true rfl⟩) rfl rfl rfl (Nat.le_of_ble_eq_true rfl) flRX11_63 ?_
    refine V_iload_n (i := 1) dX11_does_13 rfl rfl ?_
    refine V_iconst_n (v := 2) dX11_does_14 (by decide) ?_
    refine V_iadd_n dX11_does_15 ?_
    refine V_iald_n (i := ((5 * n) + 2)) dX11_does_16 (Or.inr ⟨rfl, Nat.le_of_ble_eq_true rfl⟩) rfl (by omega) (by decide) ?_
    refine V_top (y := (gI w 64 ((5 * n) + 2))) rfl ?_
    refine V_istore_n (i := 3) dX11_does_17 rfl (Nat.le_of_ble_eq_true rfl) rfl rfl ?_
    refine V_aload_n (i := 0) dX11_does_18 rfl rfl ?_
    refine V_getC (k := 27) (q := 64) dX11_does_19 (Or.inr ⟨rfl, Nat.le_of_ble_eq_true rfl⟩) rfl rfl rfl (Nat.le_of_ble_eq_true rfl) flRX11_63 ?_
    refine V_iload_n (i := 1) dX11_does_22 rfl rfl ?_
    refine V_iconst_n (v := 3) dX11_does_23 (by decide) ?_
    refine V_iadd_n dX11_does_24 ?_
    refine V_iald_n (i := ((5 * n) + 3)) dX11_does_25 (Or.inr ⟨rfl, Nat.le_of_ble_eq_true rfl⟩) rfl (by omega) (by decide) ?_
    refine V_top (y := (gI w 64 ((5 * n) + 3))) rfl ?_
    refine V_istore dX11_does_26 (Nat.le_of_ble_eq_true rfl) rfl rfl ?_
    refine V_aload_n (i := 0) dX11_does_28 rfl rfl ?_
    refine V_getC (k := 27) (q := 64) dX11_does_29 (Or.inr ⟨rfl, Nat.le_of_ble_eq_true rfl⟩) rfl rfl rfl (Nat.le_of_ble_eq_true rfl) flRX11_63 ?_
    refine V_iload_n (i := 1) dX11_does_32 rfl rfl ?_
    refine V_iald_n (i := (5 * n)) dX11_does_33 (Or.inr ⟨rfl, Nat.le_of_ble_eq_true rfl⟩) rfl (by omega) (by decide) ?_
    refine V_top (y := nI 6) hI.1 ?_
    refine V_tsOut (tgt := 145) dX11_does_34 (Or.inr (by decide)) (by decide) ?_
    refine V_aload_n (i := 0) dX11_does_145 rfl rfl ?_
    refine V_iload_n (i := 2) dX11_does_146 rfl rfl ?_
    refine V_callV dX11_does_147 (m_tidesIt (t := (c.1 : Int)) hM h9 h15 (zI_n _) (by omega) (by omega)) okX11_tidesIt lkRX11_196 (Or.inr ⟨rfl, Nat.le_of_ble_eq_true rfl⟩) rfl rfl rfl rfl (Nat.le_of_ble_eq_true rfl) ⟨Nat.le_of_ble_eq_true rfl, Nat.le_of_ble_eq_true rfl⟩ rfl ⟨Nat.zero_le _, Nat.zero_le _⟩ (fun v9 u1 hu1 => ?_) (fun E9 w9 h9 => by obtain ⟨⟨x9, h9, _⟩, _⟩ := h9; cases h9)
    obtain ⟨⟨x1, e9, hx1⟩, hu1⟩ := hu1
    cases e9
    refine V_pop dX11_does_150 rfl ?_
    refine V_vret dX11_does_151 rfl ?_
    exact ⟨rfl, hu1⟩
abbrev PFb (b j : Nat) : Prop := b = 48 ∨ (b = 47 ∧ j = 9)
abbrev PFa (b j : Nat) : Prop := b = 48 ∨ (b = 47 ∧ (j = 9 ∨ j = 12 ∨ j = 13 ∨ j = 14))
set_option maxRecDepth 100000 in
set_option maxHeartbeats 1000000 in
theorem m_fails {k y : Nat} {s : St} {w : Wd} (hA : Bk w 49 0 s) (h15 : gI w 47 15 = nI y) (hy : y < 6) : Ct 1 MX11_fails 2 0 0 [.ref 47, .int (nI k)] w (Mt (some (.int (zI (-1)))) fun w1 => Bk w1 48 0 s ∧ ((y = 0 ∧ gI w1 47 9 = nI 2 ∧ Fz PFb w w1) ∨ (y ≠ 0 ∧ gI w1 47 9 = nI 3 ∧ gI w1 47 12 = nI 6 ∧ gI w1 47 13 = nI k ∧ gI w1 47 14 = nI y ∧ Fz PFa w w1))) := by
  refine Ct_of (by decide +kernel) rfl (Nat.le_of_ble_eq_true rfl) rfl ?_
  have lp : ∀ (fu i : Nat) (w1 : Wd), i ≤ 71 → 71 - i < fu → gI w1 47 15 = nI y → (∀ j, j < i → gI w1 48 j = bk s j) → Bk w1 49 0 s → Fz PMm w w1 → V 1 MX11_fails 2 0 0 (Mt (some (.int (zI (-1)))) fun w1 => Bk w1 48 0 s ∧ ((y = 0 ∧ gI w1 47 9 = nI 2 ∧ Fz PFb w w1) ∨ (y ≠ 0 ∧ gI w1 47 9 = nI 3 ∧ gI w1 47 12 = nI 6 ∧ gI w1 47 13 = nI k ∧ gI w1 47 14 = nI y ∧ Fz PFa w w1))) (fun _ _ => True) 0 0 2 [some (.ref 47), some (.int (nI k)), some (.int (nI i))] [] w1 := by
    intro fu
    induction fu with
    | zero => intro i w1 h1 h2; omega
    | succ fu ih =>
      intro i w1 hib hfu h15 hc hB hf
      refine V_iload_n (i := 2) dX11_fails_2 rfl rfl ?_
      refine V_bipush_n (v := 71) dX11_fails_3 (by decide) ?_
      refine V_icmp_ge_n (tgt := 26) dX11_fails_5 (by decide) (by omega) (by omega) (fun h5 => ?_) (fun h5 => ?_)
      · obtain rfl : i = 71 := by omega
        refine V_aload_n (i := 0) dX11_fails_26 rfl rfl ?_
        refine V_getI (k := 15) dX11_fails_27 (Or.inr ⟨rfl, Nat.le_of_ble_eq_true rfl⟩) rfl rfl rfl (Nat.le_of_ble_eq_true rfl) flRX11_69 ?_
        refine V_top (y := nI y) h15 ?_
        refine V_if_ne_n (tgt := 39) dX11_fails_30 (by decide) (by omega) (fun h30 => ?_) (fun h30 => ?_)
        · refine V_aload_n (i := 0) dX11_fails_39 rfl rfl ?_
          refine V_bipush_n (v := 6) dX11_fails_40 (by decide) ?_
          refine V_putI (k := 12) (ty := .int) dX11_fails_42 (Or.inr ⟨rfl, Nat.le_of_ble_eq_true rfl⟩) rfl rfl rfl (Nat.le_of_ble_eq_true rfl) flRX11_79 rfl (by decide +kernel) rfl rfl ?_
          refine V_aload_n (i := 0) dX11_fails_45 rfl rfl ?_
          refine V_iload_n (i := 1) dX11_fails_46 rfl rfl ?_
          refine V_putI (k := 13) (ty := .int) dX11_fails_47 (Or.inr ⟨rfl, Nat.le_of_ble_eq_true rfl⟩) rfl rfl rfl (Nat.le_of_ble_eq_true rfl) flRX11_82 rfl (by decide +kernel) rfl rfl ?_
          refine V_aload_n (i := 0) dX11_fails_50 rfl rfl ?_
          refine V_aload_n (i := 0) dX11_fails_51 rfl rfl ?_
          refine V_getI (k := 15) dX11_fails_52 (Or.inr ⟨rfl, Nat.le_of_ble_eq_true rfl⟩) rfl rfl rfl (Nat.le_of_ble_eq_true rfl) flRX11_69 ?_
          refine V_top (y := nI y) (pI_ne (by omega) (pI_ne (by omega) h15)) ?_
          refine V_putI (k := 14) (ty := .int) dX11_fails_55 (Or.inr ⟨rfl, Nat.le_of_ble_eq_true rfl⟩) rfl rfl rfl (Nat.le_of_ble_eq_true rfl) flRX11_85 rfl (by decide +kernel) rfl rfl ?_
          refine V_aload_n (i := 0) dX11_fails_58 rfl rfl ?_
          refine V_iconst_n (v := 3) dX11_fails_59 (by decide) ?_
          refine V_callVM dX11_fails_60 (m_throwing (w := _) (n := 3)) okX11_throwing lkRX11_75 (Or.inr ⟨rfl, Nat.le_of_ble_eq_true rfl⟩) rfl rfl rfl rfl (Nat.le_of_ble_eq_true rfl) ⟨Nat.le_of_ble_eq_true rfl, Nat.le_of_ble_eq_true rfl⟩ rfl ?_
          intro u1 hu1
          refine V_iret dX11_fails_63 rfl rfl ?_
          exact ⟨rfl, (((((Bk.of0 hB.1 hc).wr (by decide)).wr (by decide)).wr (by decide)).keep hu1.2 (fun k _ => by omega)), Or.inr ⟨h30, hu1.1, ((hu1.2.gi (by omega)).trans (pI_ne (by omega) (pI_ne (by omega) pI_at))), ((hu1.2.gi (by omega)).trans (pI_ne (by omega) pI_at)), ((hu1.2.gi (by omega)).trans pI_at), (((((hf.mono (fun b j q => by unfold PFa; omega)).i1 (by omega) (by unfold PFa; omega)).i1 (by omega) (by unfold PFa; omega)).i1 (by omega) (by unfold PFa; omega)).trans (hu1.2.mono (fun b j q => by unfold PFa; omega)))⟩⟩
        · refine V_aload_n (i := 0) dX11_fails_33 rfl rfl ?_
          refine V_iconst_n (v := 2) dX11_fails_34 (by decide) ?_
          refine V_callVM dX11_fails_35 (m_throwing (w := _) (n := 2)) okX11_throwing lkRX11_75 (Or.inr ⟨rfl, Nat.le_of_ble_eq_true rfl⟩) rfl rfl rfl rfl (Nat.le_of_ble_eq_true rfl) ⟨Nat.le_of_ble_eq_true rfl, Nat.le_of_ble_eq_true rfl⟩ rfl ?_
          intro u1 hu1
          refine V_iret dX11_fails_38 rfl rfl ?_
          exact ⟨rfl, ((Bk.of0 hB.1 hc).keep hu1.2 (fun k _ => by omega)), Or.inl ⟨h30, hu1.1, (hf.mono (fun b j q => by omega)).trans (hu1.2.mono (fun b j q => by omega))⟩⟩
      · refine V_aload_n (i := 0) dX11_fails_8 rfl rfl ?_
        refine V_getC (k := 0) (q := 48) dX11_fails_9 (Or.inr ⟨rfl, Nat.le_of_ble_eq_true rfl⟩) rfl rfl rfl (Nat.le_of_ble_eq_true rfl) flRX11_9 ?_
        refine V_iload_n (i := 2) dX11_fails_12 rfl rfl ?_
        refine V_aload_n (i := 0) dX11_fails_13 rfl rfl ?_
        refine V_getC (k := 1) (q := 49) dX11_fails_14 (Or.inr ⟨rfl, Nat.le_of_ble_eq_true rfl⟩) rfl rfl rfl (Nat.le_of_ble_eq_true rfl) flRX11_13 ?_
        refine V_iload_n (i := 2) dX11_fails_17 rfl rfl ?_
        refine V_iald_n (i := i) dX11_fails_18 (Or.inr ⟨rfl, Nat.le_of_ble_eq_true rfl⟩) rfl (by omega) (by decide) ?_
        refine V_top (y := (bk s i)) (hB.all0 (by omega)) ?_
        refine V_iast_n (i := i) dX11_fails_19 (Or.inr ⟨rfl, Nat.le_of_ble_eq_true rfl⟩) rfl (by omega) (by decide) ?_
        refine V_iinc_n (b := (i + 1)) dX11_fails_20 rfl (nI_add _ _) rfl rfl ?_
        refine V_goto (tgt := 2) dX11_fails_23 (by decide) ?_
        exact ih (i + 1) _ (by omega) (by omega) (pI_ne (by omega) h15) (cp0 hc rfl) (hB.wr (by decide)) (hf.i1 (by omega) (by unfold PMm; omega))
  refine V_iconst_n (v := 0) dX11_fails_0 (by decide) ?_
  refine V_istore_n (i := 2) dX11_fails_1 rfl (Nat.le_of_ble_eq_true rfl) rfl rfl ?_
  exact lp 72 0 w (by omega) (by omega) h15 (fun k hk => by omega) hA Fz.nil
theorem ExR_A {S : Sys} {R : Res} {e : Nat} (hF : NF S.2.2.2.2.1 e) (hx : ExR S R) : R = (1, 0, (S.1, S.2.1, S.2.2.1, S.2.2.2.1, [], (e : Int), S.2.2.2.2.2.2)) := by
  rcases hx with ⟨f, h, hr⟩ | ⟨n, h, -⟩ | ⟨n, h, -⟩ | ⟨n, h, -⟩
  · rw [hr, NF_uni h hF]
  · exact absurd hF (fun q => NC_NF h q)
  · exact absurd hF (fun q => NC_NF h q)
  · exact absurd hF (fun q => NC_NF h q)
theorem cmK_iff {l : List Nat} {s : St} {i : Nat} : cmK l s i = true ↔ (cmA (cmV l i) (cmX l i) = true ∧ cmR (cmS l s i) (cmV l i) (cmX l i) = 0) := by unfold cmK; rw [Bool.and_eq_true, decide_eq_true_iff]
theorem ExR_B0 {S : Sys} {R : Res} {n : Nat} (hN : NC S.2.2.2.2.1 n) (hx : ExR S R) (hk : ∀ i, i < n → cmK S.2.2.2.2.1 S.1 i = true) : R = (0, nI n, (cmS S.2.2.2.2.1 S.1 n, kpH S.2.1 S.1, S.2.2.1, S.2.2.2.1, [], S.2.2.2.2.2)) := by
  rcases hx with ⟨f, h, hr⟩ | ⟨m, h, -, hr⟩ | ⟨m, h, i, hi, -, ha, -⟩ | ⟨m, h, i, hi, -, -, ha, -⟩
  · exact absurd h (fun q => NC_NF hN q)
  · rw [hr, NC_uni h hN]
  · rw [NC_uni h hN] at hi
    have := (cmK_iff.mp (hk i hi)).1
    rw [ha] at this; cases this
  · rw [NC_uni h hN] at hi
    exact absurd (cmK_iff.mp (hk i hi)).2 ha
theorem ExR_B2 {S : Sys} {R : Res} {n i : Nat} (hN : NC S.2.2.2.2.1 n) (hx : ExR S R) (hi : i < n) (hk : ∀ j, j < i → cmK S.2.2.2.2.1 S.1 j = true) (hA : cmA (cmV S.2.2.2.2.1 i) (cmX S.2.2.2.2.1 i) = false) : R = (2, 0, (S.1, S.2.1, S.2.2.1, S.2.2.2.1, [], S.2.2.2.2.2)) := by
  rcases hx with ⟨f, h, hr⟩ | ⟨m, h, h2, hr⟩ | ⟨m, h, j, hj, -, ha, hr⟩ | ⟨m, h, j, hj, h2, h3, ha, hr⟩
  · exact absurd h (fun q => NC_NF hN q)
  · rw [← NC_uni h hN] at hi
    have := (cmK_iff.mp (h2 i hi)).1
    rw [hA] at this; cases this
  · exact hr
  · exfalso
    rcases Nat.lt_trichotomy i j with q | q | q
    · have := (cmK_iff.mp (h2 i q)).1; rw [hA] at this; cases this
    · rw [← q, hA] at h3; cases h3
    · exact ha (cmK_iff.mp (hk j q)).2
theorem ExR_B3 {S : Sys} {R : Res} {n i : Nat} (hN : NC S.2.2.2.2.1 n) (hx : ExR S R) (hi : i < n) (hk : ∀ j, j < i → cmK S.2.2.2.2.1 S.1 j = true) (hA : cmA (cmV S.2.2.2.2.1 i) (cmX S.2.2.2.2.1 i) = true) (hR : cmR (cmS S.2.2.2.2.1 S.1 i) (cmV S.2.2.2.2.1 i) (cmX S.2.2.2.2.1 i) ≠ 0) : R = (3, 0, (S.1, S.2.1, S.2.2.1, S.2.2.2.1, [], S.2.2.2.2.2.1, 6, nI i, cmR (cmS S.2.2.2.2.1 S.1 i) (cmV S.2.2.2.2.1 i) (cmX S.2.2.2.2.1 i))) := by
  rcases hx with ⟨f, h, hr⟩ | ⟨m, h, h2, hr⟩ | ⟨m, h, j, hj, h2, ha, hr⟩ | ⟨m, h, j, hj, h2, h3, ha, hr⟩
  · exact absurd h (fun q => NC_NF hN q)
  · rw [← NC_uni h hN] at hi
    exact absurd (cmK_iff.mp (h2 i hi)).2 hR
  · exfalso
    rcases Nat.lt_trichotomy i j with q | q | q
    · exact hR (cmK_iff.mp (h2 i q)).2
    · rw [← q, hA] at ha; cases ha
    · have := (cmK_iff.mp (hk j q)).1; rw [ha] at this; cases this
  · rcases Nat.lt_trichotomy i j with q | q | q
    · exact absurd (cmK_iff.mp (h2 i q)).2 hR
    · rw [hr, q]
    · exact absurd (cmK_iff.mp (hk j q)).2 ha
abbrev PFf (b j : Nat) : Prop := PMut b j ∨ (b = 47 ∧ (j = 12 ∨ j = 13 ∨ j = 14))
abbrev PEx (b j : Nat) : Prop := (b = 47 ∧ 28 ≤ j) ∨ (b = 64 ∧ j = j)
def S5 (S : Sys) : Sys := (S.1, S.2.1, S.2.2.1, S.2.2.2.1, [], S.2.2.2.2.2)
theorem CmI.keepZ {P : Nat → Nat → Prop} {w w1 : Wd} {n v : Nat} {c : Cmd} (h : CmI w n v c) (hF : Fz P w w1) (hn : ∀ j, j < 5 * n + 5 → ¬ P 64 j) : CmI w1 n v c :=
  ⟨(hF.gi (hn _ (by omega))).trans h.1, (hF.gi (hn _ (by omega))).trans h.2.1, fun q => (hF.gi (hn _ (by omega))).trans (h.2.2.1 q), fun q => (hF.gi (hn _ (by omega))).trans (h.2.2.2.1 q), fun q => (hF.gi (hn _ (by omega))).trans (h.2.2.2.2 q)⟩
theorem cm_wf {l : List Nat} {i : Nat} (h : ∀ i, i < l.length → 32 ≤ l.getD i 0 ∧ l.getD i 0 ≤ 126) (hG : cmG l (cmB l i) = true) : wfC (cmV l i) (cmX l i) := by
  have hO : cmO l (cmB l i) = true := by unfold cmG at hG; rw [Bool.and_eq_true] at hG; exact hG.1
  unfold cmX cmV
  unfold cmO at hO
  cases hv : vbF l (cmB l i) with
  | none => rw [hv] at hO; cases hO
  | some v =>
    rw [hv] at hO
    exact agO_wf h (lkF_some 7 hv).1 hO
theorem it0_why {s : St} {v : Nat} {c : Cmd} (h : (itCmd s v c).1 = 0) : (itCmd s v c).2.2.2.1 = 0 := by
  revert h
  unfold itCmd
  split
  · unfold itPlace; repeat' split
    all_goals first | (intro _; rfl) | (intro q; cases q)
  · split
    · unfold itRemove; repeat' split
      all_goals first | (intro _; rfl) | (intro q; cases q)
    · split
      · unfold itBleach; repeat' split
        all_goals first | (intro _; rfl) | (intro q; cases q)
      · split
        · unfold itRecolour; repeat' split
          all_goals first | (intro _; rfl) | (intro q; cases q)
        · split
          · unfold itPlant; repeat' split
            all_goals first | (intro _; rfl) | (intro q; cases q)
          · split
            · unfold itRule; repeat' split
              all_goals first | (intro _; rfl) | (intro q; cases q)
            · unfold itTides; repeat' split
              all_goals first | (intro _; rfl) | (intro q; cases q)
set_option maxRecDepth 100000 in
set_option maxHeartbeats 1000000 in
theorem ex_B {S : Sys} {R : Res} {w w5 : Wd} (hx : ExR S R) (hM5 : MI w5 (S5 S)) (h5 : Fr InMo w w5) (hlr : S.2.2.2.2.1.length ≤ 60 ∧ ∀ i, i < S.2.2.2.2.1.length → 32 ≤ S.2.2.2.2.1.getD i 0 ∧ S.2.2.2.2.1.getD i 0 ≤ 126) (hA5 : Bk w5 49 0 S.1) (h95 : gI w5 47 9 = nI 0) (h155 : gI w5 47 15 = nI 0) {n : Nat} {w1 : Wd} (hN : NC S.2.2.2.2.1 n) (hn : n ≤ 31) (h31 : gI w1 47 31 = nI 0) (h28 : gI w1 47 28 = nI n) (hCm : ∀ j, j < n → CmI w1 j (cmV S.2.2.2.2.1 j) (cmX S.2.2.2.2.1 j)) (hWf : ∀ j, j < n → wfC (cmV S.2.2.2.2.1 j) (cmX S.2.2.2.2.1 j)) (hf : Fz PEx w5 w1) : V 1 MX11_execute 13 0 0 (PoM R w) (fun _ _ => True) 0 0 92 [some (.ref 47), some (.int (nI 0)), none] [] w1 := by
  have lpD : ∀ (fu i : Nat) (w1 : Wd), i ≤ n → n - i < fu → Bk w1 48 0 (cmS S.2.2.2.2.1 S.1 i) → Bk w1 49 0 S.1 → gI w1 47 9 = nI 0 → gI w1 47 15 = nI 0 → gI w1 47 28 = nI n → Tb w1 → (∀ j, j < n → CmI w1 j (cmV S.2.2.2.2.1 j) (cmX S.2.2.2.2.1 j)) → (∀ j, j < i → cmK S.2.2.2.2.1 S.1 j = true) → Fz PMut w5 w1 → V 1 MX11_execute 13 0 0 (PoM R w) (fun _ _ => True) 0 0 115 [some (.ref 47), none, some (.int (nI i))] [] w1 := by
    intro fu
    induction fu with
    | zero => intro i w1 h1 h2; omega
    | succ fu ihD =>
      intro i w1 hib hfu hB hA h9 h15 h28 hT hCm hk hf
      refine V_iload_n (i := 2) dX11_execute_115 rfl rfl ?_
      refine V_aload_n (i := 0) dX11_execute_116 rfl rfl ?_
      refine V_getI (k := 28) dX11_execute_117 (Or.inr ⟨rfl, Nat.le_of_ble_eq_true rfl⟩) rfl rfl rfl (Nat.le_of_ble_eq_true rfl) flRX11_293 ?_
      refine V_top (y := nI n) h28 ?_
      refine V_icmp_ge_n (tgt := 149) dX11_execute_120 (by decide) (by omega) (by omega) (fun h120 => ?_) (fun h120 => ?_)
      · refine V_aload_n (i := 0) dX11_execute_149 rfl rfl ?_
        refine V_aload_n (i := 0) dX11_execute_150 rfl rfl ?_
        refine V_getI (k := 28) dX11_execute_151 (Or.inr ⟨rfl, Nat.le_of_ble_eq_true rfl⟩) rfl rfl rfl (Nat.le_of_ble_eq_true rfl) flRX11_293 ?_
        refine V_top (y := nI n) h28 ?_
        refine V_callVM dX11_execute_154 (m_changed (k := 0) (y := 0) (x := nI n) (ab := 0) (hM5.2.1.keep hf (fun b j q => by omega)) hA h9 h15 (fun q => absurd rfl q) (by omega) (by omega)) okX11_changed lkRX11_148 (Or.inr ⟨rfl, Nat.le_of_ble_eq_true rfl⟩) rfl rfl rfl rfl (Nat.le_of_ble_eq_true rfl) ⟨Nat.le_of_ble_eq_true rfl, Nat.le_of_ble_eq_true rfl⟩ rfl ?_
        intro u1 hu1
        refine V_iret dX11_execute_157 rfl rfl ?_
        have hRe := ExR_B0 hN hx (fun j hj => hk j (by omega))
        have ei : i = n := by omega
        subst ei
        rw [hRe]
        have hp := (hu1.1 rfl).1
        have hf2 := (hu1.1 rfl).2
        have hM1 := hM5.mut hf hB
        exact ⟨⟨_, rfl, fun _ => rfl⟩, ⟨hM1.1.keep hf2 (fun k _ => by omega), hp, hM1.2.2.1.keep hf2 (fun b j q => by omega), hM1.2.2.2.1.keep hf2 (fun b j q => by omega), hM1.2.2.2.2.1.keep hf2 (fun b j q => by omega), hM1.2.2.2.2.2.1.keep hf2 (fun b j q => by omega), hM1.2.2.2.2.2.2.keep hf2 (fun b j q => by omega)⟩, (hf2.gi (by omega)).trans h9, (h5.trans hf.1).trans hf2.1⟩
      · refine V_aload_n (i := 0) dX11_execute_123 rfl rfl ?_
        refine V_iconst_n (v := 5) dX11_execute_124 (by decide) ?_
        refine V_iload_n (i := 2) dX11_execute_125 rfl rfl ?_
        refine V_imul_n dX11_execute_126 ?_
        refine V_callVM dX11_execute_127 (m_does (n := i) (v := cmV S.2.2.2.2.1 i) (c := cmX S.2.2.2.2.1 i) hB h9 h15 hT (hCm i (by omega)) (hWf i (by omega)) cmV_lt (by omega)) okX11_does lkRX11_306 (Or.inr ⟨rfl, Nat.le_of_ble_eq_true rfl⟩) rfl rfl rfl rfl (Nat.le_of_ble_eq_true rfl) ⟨Nat.le_of_ble_eq_true rfl, Nat.le_of_ble_eq_true rfl⟩ rfl ?_
        intro u1 hu1
        have hsp := itCmd_spec (s := cmS S.2.2.2.2.1 S.1 i) (v := cmV S.2.2.2.2.1 i) (c := cmX S.2.2.2.2.1 i) hB.1 cmV_lt (hWf i (by omega))
        have hle := @itCmd_le (cmS S.2.2.2.2.1 S.1 i) (cmV S.2.2.2.2.1 i) (cmX S.2.2.2.2.1 i)
        have hle1 := hle.1
        refine V_aload_n (i := 0) dX11_execute_130 rfl rfl ?_
        refine V_getI (k := 9) dX11_execute_131 (Or.inr ⟨rfl, Nat.le_of_ble_eq_true rfl⟩) rfl rfl rfl (Nat.le_of_ble_eq_true rfl) flRX11_66 ?_
        refine V_top (y := nI (itCmd (cmS S.2.2.2.2.1 S.1 i) (cmV S.2.2.2.2.1 i) (cmX S.2.2.2.2.1 i)).1) hu1.2.1 ?_
        refine V_if_le_n (tgt := 143) dX11_execute_134 (by decide) (by omega) (fun h134 => ?_) (fun h134 => ?_)
        · have h130 : (itCmd (cmS S.2.2.2.2.1 S.1 i) (cmV S.2.2.2.2.1 i) (cmX S.2.2.2.2.1 i)).1 = 0 := h134
          have hK9 : cmA (cmV S.2.2.2.2.1 i) (cmX S.2.2.2.2.1 i) = true ∧ cmR (cmS S.2.2.2.2.1 S.1 i) (cmV S.2.2.2.2.1 i) (cmX S.2.2.2.2.1 i) = 0 := by
            cases ha : cmA (cmV S.2.2.2.2.1 i) (cmX S.2.2.2.2.1 i) with
            | false => have := hsp.1 ha; omega
            | true => exact ⟨rfl, Decidable.byContradiction fun q => absurd h130 (hsp.2.2.1 ha q).1⟩
          refine V_iinc_n (b := (i + 1)) dX11_execute_143 rfl (nI_add _ _) rfl rfl ?_
          refine V_goto (tgt := 115) dX11_execute_146 (by decide) ?_
          refine (ihD (i + 1) u1 (by omega) (by omega) ?_ (hA.keep hu1.2.2.2.2 (fun k _ => by omega)) (by rw [hu1.2.1, h130]) ?_ ((hu1.2.2.2.2.gi (by omega)).trans h28) (hT.keep hu1.2.2.2.2 (fun b j q => by omega)) (fun j hj => (hCm j hj).keepZ hu1.2.2.2.2 (fun j _ => by omega)) (fun j hj => ?_) (hf.trans (hu1.2.2.2.2.mono (fun b j q => by omega)))).sub (by repeat' (first | exact trivial | exact rfl | constructor))
          · have e := (hsp.2.2.2 hK9.1 hK9.2).2
            have h8 := hu1.1
            rw [e] at h8
            exact h8
          · rw [hu1.2.2.1]
            have h8 : (itCmd (cmS S.2.2.2.2.1 S.1 i) (cmV S.2.2.2.2.1 i) (cmX S.2.2.2.2.1 i)).2.2.2.1 = 0 := it0_why h130
            rw [h8]
          · by_cases e : j = i
            · rw [e]; exact cmK_iff.mpr hK9
            · exact hk j (by omega)
        · refine V_aload_n (i := 0) dX11_execute_137 rfl rfl ?_
          refine V_iload_n (i := 2) dX11_execute_138 rfl rfl ?_
          refine V_callVM dX11_execute_139 (m_fails (k := i) (y := (itCmd (cmS S.2.2.2.2.1 S.1 i) (cmV S.2.2.2.2.1 i) (cmX S.2.2.2.2.1 i)).2.2.2.1) (hA.keep hu1.2.2.2.2 (fun k _ => by omega)) hu1.2.2.1 (by have := hle.2; omega)) okX11_fails lkRX11_309 (Or.inr ⟨rfl, Nat.le_of_ble_eq_true rfl⟩) rfl rfl rfl rfl (Nat.le_of_ble_eq_true rfl) ⟨Nat.le_of_ble_eq_true rfl, Nat.le_of_ble_eq_true rfl⟩ rfl ?_
          intro u2 hu2
          refine V_iret dX11_execute_142 rfl rfl ?_
          have hA9 : cmA (cmV S.2.2.2.2.1 i) (cmX S.2.2.2.2.1 i) = true ∨ cmA (cmV S.2.2.2.2.1 i) (cmX S.2.2.2.2.1 i) = false := by cases cmA (cmV S.2.2.2.2.1 i) (cmX S.2.2.2.2.1 i) <;> simp
          rcases hA9 with ha | ha
          · have hr9 : cmR (cmS S.2.2.2.2.1 S.1 i) (cmV S.2.2.2.2.1 i) (cmX S.2.2.2.2.1 i) ≠ 0 := fun q => by have := (hsp.2.2.2 ha q).1; omega
            have hy := (hsp.2.2.1 ha hr9).2
            have hRe := ExR_B3 hN hx (by omega) hk ha hr9
            rw [hRe]
            rcases hu2.2 with ⟨q1, -⟩ | ⟨q1, q2, q3, q4, q5, q6⟩
            · rw [hy] at q1; exact absurd q1 hr9
            · have hff := ((hf.mono (Q := PFf) (fun b j q => by omega)).trans (hu1.2.2.2.2.mono (Q := PFf) (fun b j q => by omega))).trans (q6.mono (Q := PFf) (fun b j q => by omega))
              refine ⟨⟨_, rfl, fun q => by simp at q⟩, ⟨hu2.1, hM5.2.1.keep hff (fun b j q => by omega), hM5.2.2.1.keep hff (fun b j q => by omega), hM5.2.2.2.1.keep hff (fun b j q => by omega), hM5.2.2.2.2.1.keep hff (fun b j q => by omega), ⟨⟨(hff.gi (by omega)).trans hM5.2.2.2.2.2.1.1.1, hM5.2.2.2.2.2.1.1.2⟩, ⟨q3, by show 6 ≤ 6; omega⟩, q4, ⟨by rw [q5, hy], cmR_le⟩, ?_⟩, hM5.2.2.2.2.2.2.keep hff (fun b j q => by omega)⟩, q2, h5.trans hff.1⟩
              show 6 = 6 ↔ _ ≠ 0
              exact ⟨fun _ => hr9, fun _ => rfl⟩
          · have hy := hsp.2.1 ha
            have hRe := ExR_B2 hN hx (by omega) hk ha
            rw [hRe]
            rcases hu2.2 with ⟨q1, q2, q3⟩ | ⟨q1, -⟩
            · have hff := (hf.trans (hu1.2.2.2.2.mono (Q := PMut) (fun b j q => by omega))).trans (q3.mono (Q := PMut) (fun b j q => by omega))
              exact ⟨⟨_, rfl, fun q => by simp at q⟩, hM5.mut hff hu2.1, q2, h5.trans hff.1⟩
            · exact absurd hy q1
  refine V_aload_n (i := 0) dX11_execute_92 rfl rfl ?_
  refine V_getI (k := 31) dX11_execute_93 (Or.inr ⟨rfl, Nat.le_of_ble_eq_true rfl⟩) rfl rfl rfl (Nat.le_of_ble_eq_true rfl) flRX11_266 ?_
  refine V_top (y := nI 0) h31 ?_
  refine V_if_eq_n (tgt := 113) dX11_execute_96 (by decide) (by omega) (fun h96 => ?_) (fun h96 => by exfalso; omega)
  refine V_iconst_n (v := 0) dX11_execute_113 (by decide) ?_
  refine V_istore_n (i := 2) dX11_execute_114 rfl (Nat.le_of_ble_eq_true rfl) rfl rfl ?_
  exact (lpD (n + 1) 0 w1 (by omega) (by omega) (hM5.1.keep hf (fun k _ => by omega)) (hA5.keep hf (fun k _ => by omega)) ((hf.gi (by omega)).trans h95) ((hf.gi (by omega)).trans h155) h28 (hM5.2.2.2.2.2.2.keep hf (fun b j q => by omega)) hCm (fun j hj => by omega) (hf.mono (fun b j q => by omega))).sub (by repeat' (first | exact trivial | exact rfl | constructor))
set_option maxRecDepth 100000 in
set_option maxHeartbeats 1000000 in
theorem ex_A {S : Sys} {R : Res} {w w5 : Wd} (hx : ExR S R) (hM5 : MI w5 (S5 S)) (h5 : Fr InMo w w5) (hlr : S.2.2.2.2.1.length ≤ 60 ∧ ∀ i, i < S.2.2.2.2.1.length → 32 ≤ S.2.2.2.2.1.getD i 0 ∧ S.2.2.2.2.1.getD i 0 ≤ 126) (hA5 : Bk w5 49 0 S.1) (h95 : gI w5 47 9 = nI 0) (h155 : gI w5 47 15 = nI 0) {e : Nat} {w1 : Wd} (hF : NF S.2.2.2.2.1 e) (he : e ≤ 60) (h31 : gI w1 47 31 = nI 1) (h29 : gI w1 47 29 = nI e) (hf : Fz PEx w5 w1) : V 1 MX11_execute 13 0 0 (PoM R w) (fun _ _ => True) 0 0 92 [some (.ref 47), some (.int (nI 0)), none] [] w1 := by
  refine V_aload_n (i := 0) dX11_execute_92 rfl rfl ?_
  refine V_getI (k := 31) dX11_execute_93 (Or.inr ⟨rfl, Nat.le_of_ble_eq_true rfl⟩) rfl rfl rfl (Nat.le_of_ble_eq_true rfl) flRX11_266 ?_
  refine V_top (y := nI 1) h31 ?_
  refine V_if_eq_n (tgt := 113) dX11_execute_96 (by decide) (by omega) (fun h96 => by exfalso; omega) (fun h96 => ?_)
  refine V_aload_n (i := 0) dX11_execute_99 rfl rfl ?_
  refine V_aload_n (i := 0) dX11_execute_100 rfl rfl ?_
  refine V_getI (k := 29) dX11_execute_101 (Or.inr ⟨rfl, Nat.le_of_ble_eq_true rfl⟩) rfl rfl rfl (Nat.le_of_ble_eq_true rfl) flRX11_260 ?_
  refine V_top (y := nI e) h29 ?_
  refine V_putI (k := 8) (ty := .int) dX11_execute_104 (Or.inr ⟨rfl, Nat.le_of_ble_eq_true rfl⟩) rfl rfl rfl (Nat.le_of_ble_eq_true rfl) flRX11_28 rfl (by decide +kernel) rfl rfl ?_
  refine V_aload_n (i := 0) dX11_execute_107 rfl rfl ?_
  refine V_iconst_n (v := 1) dX11_execute_108 (by decide) ?_
  refine V_callVM dX11_execute_109 (m_throwing (w := _) (n := 1)) okX11_throwing lkRX11_75 (Or.inr ⟨rfl, Nat.le_of_ble_eq_true rfl⟩) rfl rfl rfl rfl (Nat.le_of_ble_eq_true rfl) ⟨Nat.le_of_ble_eq_true rfl, Nat.le_of_ble_eq_true rfl⟩ rfl ?_
  intro u1 hu1
  refine V_iret dX11_execute_112 rfl rfl ?_
  have hRe := ExR_A hF hx
  rw [hRe]
  have hM1 : MI w1 (S5 S) := hM5.scr (hf.mono (fun b j q => by omega))
  have hf2 := ((Fz.nil (P := fun b j => b = 47 ∧ (j = 8 ∨ j = 9)) (w := w1)).i1 (a := 47) (k := 8) (v := nI e) (by omega) (by omega)).trans (hu1.2.mono (fun b j q => by omega))
  exact ⟨⟨_, rfl, fun q => by simp at q⟩, ⟨hM1.1.keep hf2 (fun k _ => by omega), hM1.2.1.keep hf2 (fun b j q => by omega), hM1.2.2.1.keep hf2 (fun b j q => by omega), hM1.2.2.2.1.keep hf2 (fun b j q => by omega), hM1.2.2.2.2.1.keep hf2 (fun b j q => by omega), ⟨⟨(hu1.2.gi (by omega)).trans (pI_at.trans (zI_n e)), by show (-1 : Int) ≤ (e : Int); omega, by show (e : Int) ≤ 60; omega⟩, ⟨(hf2.gi (by omega)).trans hM1.2.2.2.2.2.1.2.1.1, hM1.2.2.2.2.2.1.2.1.2⟩, (hf2.gi (by omega)).trans hM1.2.2.2.2.2.1.2.2.1, ⟨(hf2.gi (by omega)).trans hM1.2.2.2.2.2.1.2.2.2.1.1, hM1.2.2.2.2.2.1.2.2.2.1.2⟩, hM1.2.2.2.2.2.1.2.2.2.2⟩, hM1.2.2.2.2.2.2.keep hf2 (fun b j q => by omega)⟩, hu1.1, (h5.trans hf.1).trans hf2.1⟩
set_option maxRecDepth 100000 in
set_option maxHeartbeats 1000000 in
theorem ex_R {S : Sys} {R : Res} {w w5 : Wd} (hx : ExR S R) (hM5 : MI w5 (S5 S)) (h5 : Fr InMo w w5) (hlr : S.2.2.2.2.1.length ≤ 60 ∧ ∀ i, i < S.2.2.2.2.1.length → 32 ≤ S.2.2.2.2.1.getD i 0 ∧ S.2.2.2.2.1.getD i 0 ≤ 126) (hA5 : Bk w5 49 0 S.1) (h95 : gI w5 47 9 = nI 0) (h155 : gI w5 47 15 = nI 0) (hW : PW w5 S.2.2.2.2.1 0 0) (h28 : gI w5 47 28 = nI 0) : V 1 MX11_execute 13 0 0 (PoM R w) (fun _ _ => True) 0 0 34 [some (.ref 47), some (.int (nI 1)), none] [] w5 := by
  have lp : ∀ (fu n : Nat) (w1 : Wd), n ≤ 31 → 31 - n < fu → PW w1 S.2.2.2.2.1 (cmB S.2.2.2.2.1 n) 0 → gI w1 47 28 = nI n → (∀ j, j < n → CmI w1 j (cmV S.2.2.2.2.1 j) (cmX S.2.2.2.2.1 j)) → (∀ j, j < n → cmG S.2.2.2.2.1 (cmB S.2.2.2.2.1 j) = true ∧ cmL S.2.2.2.2.1 (cmB S.2.2.2.2.1 j) = false) → Fz PEx w5 w1 → V 1 MX11_execute 13 0 0 (PoM R w) (fun _ _ => True) 0 0 34 [some (.ref 47), some (.int (nI 1)), none] [] w1 := by
    intro fu
    induction fu with
    | zero => intro n w1 h1 h2; omega
    | succ fu ih =>
      intro n w1 hib hfu hW h28 hCm hGL hf
      have hbg := cmB_ge n hGL
      have hbl := hW.2.2.1.2
      have hl60 := hlr.1
      refine V_iload_n (i := 1) dX11_execute_34 rfl rfl ?_
      refine V_if_eq_n (tgt := 92) dX11_execute_35 (by decide) (by omega) (fun h35 => by exfalso; omega) (fun h35 => ?_)
      refine V_aload_n (i := 0) dX11_execute_38 rfl rfl ?_
      refine V_callVM dX11_execute_39 (m_readCommand (cm := n) hW h28 (by omega)) okX11_readCommand lkRX11_303 (Or.inr ⟨rfl, Nat.le_of_ble_eq_true rfl⟩) rfl rfl rfl rfl (Nat.le_of_ble_eq_true rfl) ⟨Nat.le_of_ble_eq_true rfl, Nat.le_of_ble_eq_true rfl⟩ rfl ?_
      intro u1 hu1
      by_cases hO : cmO S.2.2.2.2.1 (cmB S.2.2.2.2.1 n) = true
      · have hcw : cmW S.2.2.2.2.1 (cmB S.2.2.2.2.1 n) = 0 := if_pos hO
        rw [hcw] at hu1
        have hcp := hu1.1.2.2.1.2
        refine V_aload_n (i := 0) dX11_execute_42 rfl rfl ?_
        refine V_getI (k := 31) dX11_execute_43 (Or.inr ⟨rfl, Nat.le_of_ble_eq_true rfl⟩) rfl rfl rfl (Nat.le_of_ble_eq_true rfl) flRX11_266 ?_
        refine V_top (y := nI 0) hu1.1.2.2.2.2.1 ?_
        refine V_if_ne_n (tgt := 64) dX11_execute_46 (by decide) (by omega) (fun h46 => by exfalso; omega) (fun h46 => ?_)
        refine V_aload_n (i := 0) dX11_execute_49 rfl rfl ?_
        refine V_getI (k := 29) dX11_execute_50 (Or.inr ⟨rfl, Nat.le_of_ble_eq_true rfl⟩) rfl rfl rfl (Nat.le_of_ble_eq_true rfl) flRX11_260 ?_
        refine V_top (y := nI (cmP S.2.2.2.2.1 (cmB S.2.2.2.2.1 n))) hu1.1.2.2.1.1 ?_
        refine V_aload_n (i := 0) dX11_execute_53 rfl rfl ?_
        refine V_getI (k := 30) dX11_execute_54 (Or.inr ⟨rfl, Nat.le_of_ble_eq_true rfl⟩) rfl rfl rfl (Nat.le_of_ble_eq_true rfl) flRX11_263 ?_
        refine V_top (y := nI S.2.2.2.2.1.length) hu1.1.2.2.2.1 ?_
        refine V_icmp_ge_n (tgt := 64) dX11_execute_57 (by decide) (by omega) (by omega) (fun h57 => ?_) (fun h57 => ?_)
        · refine V_iconst_n (v := 0) dX11_execute_64 (by decide) ?_
          refine V_istore_n (i := 1) dX11_execute_65 rfl (Nat.le_of_ble_eq_true rfl) rfl rfl ?_
          refine V_iload_n (i := 1) dX11_execute_66 rfl rfl ?_
          refine V_if_eq_n (tgt := 34) dX11_execute_67 (by decide) (by omega) (fun h67 => ?_) (fun h67 => by exfalso; omega)
          refine V_iload_n (i := 1) dX11_execute_34 rfl rfl ?_
          refine V_if_eq_n (tgt := 92) dX11_execute_35 (by decide) (by omega) (fun h35 => ?_) (fun h35 => by exfalso; omega)
          have hL : cmL S.2.2.2.2.1 (cmB S.2.2.2.2.1 n) = true := by unfold cmL; exact decide_eq_true (by omega)
          have hG : cmG S.2.2.2.2.1 (cmB S.2.2.2.2.1 n) = true := by unfold cmG; rw [hO, hL]; rfl
          have hNC : NC S.2.2.2.2.1 (n + 1) := ⟨by omega, fun j hj => hGL j (by omega), hG, hL⟩
          refine (ex_B hx hM5 h5 hlr hA5 h95 h155 hNC (by omega) hu1.1.2.2.2.2.1 (hu1.2.1 hO).1 (fun j hj => ?_) (fun j hj => ?_) (hf.trans (hu1.2.2.mono (fun b j q => by omega)))).sub (by repeat' (first | exact trivial | exact rfl | constructor))
          · by_cases e : j = n
            · rw [e]; exact (hu1.2.1 hO).2
            · exact (hCm j (by omega)).keepZ hu1.2.2 (fun j _ => by omega)
          · by_cases e : j = n
            · rw [e]; exact cm_wf hlr.2 hG
            · exact cm_wf hlr.2 (hGL j (by omega)).1
        · refine V_iconst_n (v := 1) dX11_execute_60 (by decide) ?_
          refine V_goto (tgt := 65) dX11_execute_61 (by decide) ?_
          refine V_istore_n (i := 1) dX11_execute_65 rfl (Nat.le_of_ble_eq_true rfl) rfl rfl ?_
          refine V_iload_n (i := 1) dX11_execute_66 rfl rfl ?_
          refine V_if_eq_n (tgt := 34) dX11_execute_67 (by decide) (by omega) (fun h67 => by exfalso; omega) (fun h67 => ?_)
          refine V_aload_n (i := 0) dX11_execute_70 rfl rfl ?_
          refine V_bipush_n (v := 59) dX11_execute_71 (by decide) ?_
          refine V_callV dX11_execute_73 (m_expects0 (c := 59) hu1.1 (by omega) (by omega)) okX11_expects lkRX11_280 (Or.inr ⟨rfl, Nat.le_of_ble_eq_true rfl⟩) rfl rfl rfl rfl (Nat.le_of_ble_eq_true rfl) ⟨Nat.le_of_ble_eq_true rfl, Nat.le_of_ble_eq_true rfl⟩ rfl ⟨Nat.zero_le _, Nat.zero_le _⟩ (fun v9 u2 hu2 => ?_) (fun E9 w9 h9 => by rcases h9 with h9 | h9 <;> cases h9.2.1)
          rcases hu2 with ⟨hu2f, e9, hu2⟩ | ⟨hu2f, e9, hu2⟩
          · cases e9
            have hs59 := hu2f
            refine V_aload_n (i := 0) dX11_execute_76 rfl rfl ?_
            refine V_getI (k := 31) dX11_execute_77 (Or.inr ⟨rfl, Nat.le_of_ble_eq_true rfl⟩) rfl rfl rfl (Nat.le_of_ble_eq_true rfl) flRX11_266 ?_
            refine V_top (y := nI 0) hu2.1.2.2.2.2.1 ?_
            refine V_if_ne_n (tgt := 87) dX11_execute_80 (by decide) (by omega) (fun h80 => by exfalso; omega) (fun h80 => ?_)
            refine V_iconst_n (v := 1) dX11_execute_83 (by decide) ?_
            refine V_goto (tgt := 88) dX11_execute_84 (by decide) ?_
            refine V_istore_n (i := 1) dX11_execute_88 rfl (Nat.le_of_ble_eq_true rfl) rfl rfl ?_
            refine V_goto (tgt := 34) dX11_execute_89 (by decide) ?_
            have hL : cmL S.2.2.2.2.1 (cmB S.2.2.2.2.1 n) = false := by unfold cmL; exact decide_eq_false (by omega)
            have hG : cmG S.2.2.2.2.1 (cmB S.2.2.2.2.1 n) = true := by unfold cmG; rw [hO, hL, hs59]; rfl
            have hE : cmE S.2.2.2.2.1 (cmB S.2.2.2.2.1 n) = cmP S.2.2.2.2.1 (cmB S.2.2.2.2.1 n) + 1 := by unfold cmE; exact if_pos ⟨hO, by rw [hL]; decide, hs59⟩
            have hW9 := hu2.1
            rw [← hE] at hW9
            refine (ih (n + 1) u2 (by omega) (by omega) hW9 ((hu2.2.gi (by omega)).trans (hu1.2.1 hO).1) (fun j hj => ?_) (fun j hj => ?_) ((hf.trans (hu1.2.2.mono (fun b j q => by omega))).trans (hu2.2.mono (fun b j q => by unfold PEx; omega)))).sub (by repeat' (first | exact trivial | exact rfl | constructor))
            · by_cases e : j = n
              · rw [e]; exact (hu1.2.1 hO).2.keepZ hu2.2 (fun j _ => by omega)
              · exact ((hCm j (by omega)).keepZ hu1.2.2 (fun j _ => by omega)).keepZ hu2.2 (fun j _ => by omega)
            · by_cases e : j = n
              · rw [e]; exact ⟨hG, hL⟩
              · exact hGL j (by omega)
          · cases e9
            have hs59 := hu2f
            refine V_aload_n (i := 0) dX11_execute_76 rfl rfl ?_
            refine V_getI (k := 31) dX11_execute_77 (Or.inr ⟨rfl, Nat.le_of_ble_eq_true rfl⟩) rfl rfl rfl (Nat.le_of_ble_eq_true rfl) flRX11_266 ?_
            refine V_top (y := nI 1) hu2.1.2.2.2.2.1 ?_
            refine V_if_ne_n (tgt := 87) dX11_execute_80 (by decide) (by omega) (fun h80 => ?_) (fun h80 => by exfalso; omega)
            refine V_iconst_n (v := 0) dX11_execute_87 (by decide) ?_
            refine V_istore_n (i := 1) dX11_execute_88 rfl (Nat.le_of_ble_eq_true rfl) rfl rfl ?_
            refine V_goto (tgt := 34) dX11_execute_89 (by decide) ?_
            refine V_iload_n (i := 1) dX11_execute_34 rfl rfl ?_
            refine V_if_eq_n (tgt := 92) dX11_execute_35 (by decide) (by omega) (fun h35 => ?_) (fun h35 => by exfalso; omega)
            have hL : cmL S.2.2.2.2.1 (cmB S.2.2.2.2.1 n) = false := by unfold cmL; exact decide_eq_false (by omega)
            have hG : cmG S.2.2.2.2.1 (cmB S.2.2.2.2.1 n) = false := by unfold cmG; rw [hO, hL]; simp [hs59]
            have hE : cmE S.2.2.2.2.1 (cmB S.2.2.2.2.1 n) = cmP S.2.2.2.2.1 (cmB S.2.2.2.2.1 n) := by unfold cmE; exact if_neg (fun q => hs59 q.2.2)
            exact (ex_A hx hM5 h5 hlr hA5 h95 h155 (e := cmP S.2.2.2.2.1 (cmB S.2.2.2.2.1 n)) ⟨n, hGL, hG, hE.symm⟩ (by omega) hu2.1.2.2.2.2.1 hu2.1.2.2.1.1 ((hf.trans (hu1.2.2.mono (fun b j q => by omega))).trans (hu2.2.mono (fun b j q => by unfold PEx; omega)))).sub (by repeat' (first | exact trivial | exact rfl | constructor))
      · have hcw : cmW S.2.2.2.2.1 (cmB S.2.2.2.2.1 n) = 1 := if_neg hO
        rw [hcw] at hu1
        have hcp := hu1.1.2.2.1.2
        refine V_aload_n (i := 0) dX11_execute_42 rfl rfl ?_
        refine V_getI (k := 31) dX11_execute_43 (Or.inr ⟨rfl, Nat.le_of_ble_eq_true rfl⟩) rfl rfl rfl (Nat.le_of_ble_eq_true rfl) flRX11_266 ?_
        refine V_top (y := nI 1) hu1.1.2.2.2.2.1 ?_
        refine V_if_ne_n (tgt := 64) dX11_execute_46 (by decide) (by omega) (fun h46 => ?_) (fun h46 => by exfalso; omega)
        refine V_iconst_n (v := 0) dX11_execute_64 (by decide) ?_
        refine V_istore_n (i := 1) dX11_execute_65 rfl (Nat.le_of_ble_eq_true rfl) rfl rfl ?_
        refine V_iload_n (i := 1) dX11_execute_66 rfl rfl ?_
        refine V_if_eq_n (tgt := 34) dX11_execute_67 (by decide) (by omega) (fun h67 => ?_) (fun h67 => by exfalso; omega)
        refine V_iload_n (i := 1) dX11_execute_34 rfl rfl ?_
        refine V_if_eq_n (tgt := 92) dX11_execute_35 (by decide) (by omega) (fun h35 => ?_) (fun h35 => by exfalso; omega)
        have hG : cmG S.2.2.2.2.1 (cmB S.2.2.2.2.1 n) = false := by unfold cmG; rw [Bool.eq_false_iff.mpr hO]; rfl
        have hE : cmE S.2.2.2.2.1 (cmB S.2.2.2.2.1 n) = cmP S.2.2.2.2.1 (cmB S.2.2.2.2.1 n) := by unfold cmE; exact if_neg (fun q => hO q.1)
        exact (ex_A hx hM5 h5 hlr hA5 h95 h155 (e := cmP S.2.2.2.2.1 (cmB S.2.2.2.2.1 n)) ⟨n, hGL, hG, hE.symm⟩ (by omega) hu1.1.2.2.2.2.1 hu1.1.2.2.1.1 (hf.trans (hu1.2.2.mono (fun b j q => by omega)))).sub (by repeat' (first | exact trivial | exact rfl | constructor))
  exact lp 32 0 w5 (by omega) (by omega) hW h28 (fun j hj => by omega) (fun j hj => by omega) Fz.nil
set_option maxRecDepth 100000 in
set_option maxHeartbeats 1000000 in
theorem m_execute {S : Sys} {R : Res} {w : Wd} (hC : MI w S) (hx : ExR S R) : Ct 1 MX11_execute 13 0 0 [.ref 47] w (PoM R w) := by
  refine Ct_of (by decide +kernel) rfl (Nat.le_of_ble_eq_true rfl) rfl ?_
  refine V_aload_n (i := 0) dX11_execute_0 rfl rfl ?_
  refine V_callVM dX11_execute_1 (m_starts hC.1) okX11_starts lkRX11_142 (Or.inr ⟨rfl, Nat.le_of_ble_eq_true rfl⟩) rfl rfl rfl rfl (Nat.le_of_ble_eq_true rfl) ⟨Nat.le_of_ble_eq_true rfl, Nat.le_of_ble_eq_true rfl⟩ rfl ?_
  intro u1 hu1
  refine V_aload_n (i := 0) dX11_execute_4 rfl rfl ?_
  refine V_aload_n (i := 0) dX11_execute_5 rfl rfl ?_
  refine V_getI (k := 11) dX11_execute_6 (Or.inr ⟨rfl, Nat.le_of_ble_eq_true rfl⟩) rfl rfl rfl (Nat.le_of_ble_eq_true rfl) flRX11_257 ?_
  refine V_top (y := nI S.2.2.2.2.1.length) ((hu1.2.2.2.gi (by omega)).trans hC.2.2.2.2.1.1.1) ?_
  refine V_putI (k := 30) (ty := .int) dX11_execute_9 (Or.inr ⟨rfl, Nat.le_of_ble_eq_true rfl⟩) rfl rfl rfl (Nat.le_of_ble_eq_true rfl) flRX11_263 rfl (by decide +kernel) rfl rfl ?_
  refine V_aload_n (i := 0) dX11_execute_12 rfl rfl ?_
  refine V_iconst_n (v := 0) dX11_execute_13 (by decide) ?_
  refine V_putI (k := 11) (ty := .int) dX11_execute_14 (Or.inr ⟨rfl, Nat.le_of_ble_eq_true rfl⟩) rfl rfl rfl (Nat.le_of_ble_eq_true rfl) flRX11_257 rfl (by decide +kernel) rfl rfl ?_
  refine V_aload_n (i := 0) dX11_execute_17 rfl rfl ?_
  refine V_iconst_n (v := 0) dX11_execute_18 (by decide) ?_
  refine V_putI (k := 29) (ty := .int) dX11_execute_19 (Or.inr ⟨rfl, Nat.le_of_ble_eq_true rfl⟩) rfl rfl rfl (Nat.le_of_ble_eq_true rfl) flRX11_260 rfl (by decide +kernel) rfl rfl ?_
  refine V_aload_n (i := 0) dX11_execute_22 rfl rfl ?_
  refine V_iconst_n (v := 0) dX11_execute_23 (by decide) ?_
  refine V_putI (k := 28) (ty := .int) dX11_execute_24 (Or.inr ⟨rfl, Nat.le_of_ble_eq_true rfl⟩) rfl rfl rfl (Nat.le_of_ble_eq_true rfl) flRX11_293 rfl (by decide +kernel) rfl rfl ?_
  refine V_aload_n (i := 0) dX11_execute_27 rfl rfl ?_
  refine V_iconst_n (v := 0) dX11_execute_28 (by decide) ?_
  refine V_putI (k := 31) (ty := .boolean) dX11_execute_29 (Or.inr ⟨rfl, Nat.le_of_ble_eq_true rfl⟩) rfl rfl rfl (Nat.le_of_ble_eq_true rfl) flRX11_266 rfl (by decide +kernel) (nar_bool (by omega)) (fit_bool (by omega)) ?_
  refine V_iconst_n (v := 1) dX11_execute_32 (by decide) ?_
  refine V_istore_n (i := 1) dX11_execute_33 rfl (Nat.le_of_ble_eq_true rfl) rfl rfl ?_
  have hlr := hC.2.2.2.2.1.2
  have hf5 := (((((hu1.2.2.2.mono (Q := fun b j => b = 49 ∨ (b = 47 ∧ (j = 9 ∨ j = 11 ∨ j = 15 ∨ 28 ≤ j))) (fun b j q => by omega)).i1 (a := 47) (k := 30) (v := nI S.2.2.2.2.1.length) (by omega) (by omega)).i1 (a := 47) (k := 11) (v := nI 0) (by omega) (by omega)).i1 (a := 47) (k := 29) (v := nI 0) (by omega) (by omega)).i1 (a := 47) (k := 28) (v := nI 0) (by omega) (by omega)).i1 (a := 47) (k := 31) (v := nI 0) (by omega) (by omega)
  refine (ex_R hx ?_ hf5.1 hlr ?_ ?_ ?_ ?_ ?_).sub (by repeat' (first | exact trivial | exact rfl | constructor))
  · exact ⟨hC.1.keep hf5 (fun k _ => by omega), hC.2.1.keep hf5 (fun b j q => by omega), hC.2.2.1.keep hf5 (fun b j q => by omega), hC.2.2.2.1.keep hf5 (fun b j q => by omega), ⟨⟨pI_ne (by omega) (pI_ne (by omega) (pI_ne (by omega) pI_at)), fun i hi => absurd hi (Nat.not_lt_zero i)⟩, Nat.zero_le _, fun i hi => absurd hi (Nat.not_lt_zero i)⟩, hC.2.2.2.2.2.1.keep hf5 (fun b j q => by omega), hC.2.2.2.2.2.2.keep hf5 (fun b j q => by omega)⟩
  · exact ((((hu1.2.2.1.wr (by decide)).wr (by decide)).wr (by decide)).wr (by decide)).wr (by decide)
  · exact pI_ne (by omega) (pI_ne (by omega) (pI_ne (by omega) (pI_ne (by omega) (pI_ne (by omega) hu1.1))))
  · exact pI_ne (by omega) (pI_ne (by omega) (pI_ne (by omega) (pI_ne (by omega) (pI_ne (by omega) hu1.2.1))))
  · exact ⟨fun i hi => (hf5.gi (by omega)).trans (hC.2.2.2.2.1.1.2 i hi), hlr, ⟨pI_ne (by omega) (pI_ne (by omega) pI_at), Nat.zero_le _⟩, pI_ne (by omega) (pI_ne (by omega) (pI_ne (by omega) (pI_ne (by omega) pI_at))), pI_at, hC.2.2.2.2.2.2.keep hf5 (fun b j q => by omega)⟩
  · exact pI_ne (by omega) pI_at
end MMEXE
