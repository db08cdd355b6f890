/-! THE PLAIN FORM: the commands read. Printed by wip/whole/gen/mk38.py. -/
section MMPAR
/-- a reading at p: b says whether it went wrong -/
def PW (w : Wd) (l : List Nat) (p b : Nat) : Prop := (∀ i, i < l.length → gI w 54 i = nI (l.getD i 0)) ∧ (l.length ≤ 60 ∧ ∀ i, i < l.length → 32 ≤ l.getD i 0 ∧ l.getD i 0 ≤ 126) ∧ (gI w 47 29 = nI p ∧ p ≤ l.length) ∧ gI w 47 30 = nI l.length ∧ gI w 47 31 = nI b ∧ Tb w
abbrev isPW (b j : Nat) : Prop := b = 54 ∨ (b = 47 ∧ (j = 29 ∨ j = 30 ∨ j = 31)) ∨ isTb b
section PWS
variable {w w1 : Wd} {l : List Nat} {p b p1 b1 : Nat} {x : Int32}
theorem PW.setp (h : PW w l p b) (hx : x = nI p1) (hp : p1 ≤ l.length) : PW (pI w 47 29 x) l p1 b := by
  subst hx
  exact ⟨fun i hi => pI_ne (by omega) (h.1 i hi), h.2.1, ⟨pI_at, hp⟩, pI_ne (by omega) h.2.2.2.1, pI_ne (by omega) h.2.2.2.2.1, h.2.2.2.2.2.wr (by omega)⟩
theorem PW.setb (h : PW w l p b) (hx : x = nI b1) : PW (pI w 47 31 x) l p b1 := by
  subst hx
  exact ⟨fun i hi => pI_ne (by omega) (h.1 i hi), h.2.1, ⟨pI_ne (by omega) h.2.2.1.1, h.2.2.1.2⟩, pI_ne (by omega) h.2.2.2.1, pI_at, h.2.2.2.2.2.wr (by omega)⟩
theorem PW.wr {a j : Nat} (h : PW w l p b) (n : ¬ isPW a j) : PW (pI w a j x) l p b :=
  ⟨fun i hi => pI_ne (by omega) (h.1 i hi), h.2.1, ⟨pI_ne (by omega) h.2.2.1.1, h.2.2.1.2⟩, pI_ne (by omega) h.2.2.2.1, pI_ne (by omega) h.2.2.2.2.1, h.2.2.2.2.2.wr (by omega)⟩
end PWS
def hrZ (l : List Nat) (p : Nat) : Int := if p < l.length then ((l.getD p 0 : Nat) : Int) else -1
theorem hr_sg {l : List Nat} {p : Nat} (h : ∀ i, i < l.length → 32 ≤ l.getD i 0 ∧ l.getD i 0 ≤ 126) : (p < l.length ∧ hrZ l p = (sg l p : Int) ∧ 32 ≤ sg l p ∧ sg l p ≤ 126) ∨ (¬ p < l.length ∧ hrZ l p = -1 ∧ sg l p = 0) := by
  by_cases e : p < l.length
  · have h2 := h p e
    have h3 : sg l p = l.getD p 0 := if_pos e
    have h4 : hrZ l p = ((l.getD p 0 : Nat) : Int) := if_pos e
    exact Or.inl ⟨e, by rw [h4, h3], by omega, by omega⟩
  · exact Or.inr ⟨e, if_neg e, if_neg e⟩
theorem isD_iff {x : Nat} : isD x = true ↔ (48 ≤ x ∧ x ≤ 57) := by unfold isD; exact decide_eq_true_iff
theorem isD_no {x : Nat} (h : ¬ (48 ≤ x ∧ x ≤ 57)) : isD x = false := Bool.eq_false_iff.mpr fun q => h (isD_iff.mp q)
theorem isC_no {x : Nat} (h : ¬ (97 ≤ x ∧ x ≤ 100)) : isC x = false := Bool.eq_false_iff.mpr fun q => h (isC_iff.mp q)
abbrev PPr (b j : Nat) : Prop := b = 47 ∧ (j = 29 ∨ j = 31)
set_option maxRecDepth 100000 in
set_option maxHeartbeats 1000000 in
theorem m_here {l : List Nat} {p b : Nat} {w : Wd} (hW : PW w l p b) : Ct 1 MX11_here 1 0 0 [.ref 47] w (Rt (some (.int (zI (hrZ l p)))) w) := by
  refine Ct_of (by decide +kernel) rfl (Nat.le_of_ble_eq_true rfl) rfl ?_
  have hlo := hW.2.1.1
  have hpl := hW.2.2.1.2
  refine V_aload_n (i := 0) dX11_here_0 rfl rfl ?_
  refine V_getI (k := 29) dX11_here_1 (Or.inr ⟨rfl, Nat.le_of_ble_eq_true rfl⟩) rfl rfl rfl (Nat.le_of_ble_eq_true rfl) flRX11_260 ?_
  refine V_top (y := nI p) hW.2.2.1.1 ?_
  refine V_aload_n (i := 0) dX11_here_4 rfl rfl ?_
  refine V_getI (k := 30) dX11_here_5 (Or.inr ⟨rfl, Nat.le_of_ble_eq_true rfl⟩) rfl rfl rfl (Nat.le_of_ble_eq_true rfl) flRX11_263 ?_
  refine V_top (y := nI l.length) hW.2.2.2.1 ?_
  refine V_icmp_ge_n (tgt := 23) dX11_here_8 (by decide) (by omega) (by omega) (fun h8 => ?_) (fun h8 => ?_)
  · have e8 : hrZ l p = -1 := if_neg (by omega)
    refine V_iconst_z (v := -1) dX11_here_23 (by decide) ?_
    refine V_iret dX11_here_24 rfl rfl ?_
    exact ⟨by rw [e8], rfl⟩
  · have e8 : hrZ l p = ((l.getD p 0 : Nat) : Int) := if_pos (by omega)
    refine V_aload_n (i := 0) dX11_here_11 rfl rfl ?_
    refine V_getC (k := 10) (q := 54) dX11_here_12 (Or.inr ⟨rfl, Nat.le_of_ble_eq_true rfl⟩) rfl rfl rfl (Nat.le_of_ble_eq_true rfl) flRX11_32 ?_
    refine V_aload_n (i := 0) dX11_here_15 rfl rfl ?_
    refine V_getI (k := 29) dX11_here_16 (Or.inr ⟨rfl, Nat.le_of_ble_eq_true rfl⟩) rfl rfl rfl (Nat.le_of_ble_eq_true rfl) flRX11_260 ?_
    refine V_top (y := nI p) hW.2.2.1.1 ?_
    refine V_iald_n (i := p) dX11_here_19 (Or.inr ⟨rfl, Nat.le_of_ble_eq_true rfl⟩) rfl (by omega) (by decide) ?_
    refine V_top (y := nI (l.getD p 0)) (hW.1 _ (by omega)) ?_
    refine V_goto (tgt := 24) dX11_here_20 (by decide) ?_
    refine V_iret dX11_here_24 rfl rfl ?_
    exact ⟨by rw [e8, ← zI_n], rfl⟩
set_option maxRecDepth 100000 in
set_option maxHeartbeats 1000000 in
theorem m_expects0 {c : Nat} {l : List Nat} {p : Nat} {w : Wd} (hW : PW w l p 0) (hc : 0 < c) (hc2 : c < 128) : Ct 1 MX11_expects 2 0 0 [.ref 47, .int (nI c)] w (fun o w1 => (sg l p = c ∧ o = Sum.inl (none : Option Value) ∧ PW w1 l (p + 1) 0 ∧ Fz PPr w w1) ∨ (sg l p ≠ c ∧ o = Sum.inl (none : Option Value) ∧ PW w1 l p 1 ∧ Fz PPr w w1)) := by
  refine Ct_of (by decide +kernel) rfl (Nat.le_of_ble_eq_true rfl) rfl ?_
  have hlo := hW.2.1.1
  have hpl := hW.2.2.1.2
  refine V_aload_n (i := 0) dX11_expects_0 rfl rfl ?_
  refine V_aload_n (i := 0) dX11_expects_1 rfl rfl ?_
  refine V_getI (k := 31) dX11_expects_2 (Or.inr ⟨rfl, Nat.le_of_ble_eq_true rfl⟩) rfl rfl rfl (Nat.le_of_ble_eq_true rfl) flRX11_266 ?_
  refine V_top (y := nI 0) hW.2.2.2.2.1 ?_
  refine V_if_ne_n (tgt := 16) dX11_expects_5 (by decide) (by omega) (fun h5 => by exfalso; omega) (fun h5 => ?_)
  refine V_aload_n (i := 0) dX11_expects_8 rfl rfl ?_
  have hsg77 := hr_sg (p := p) hW.2.1.2
  refine V_callVF dX11_expects_9 (m_here hW) okX11_here lkRX11_270 (Or.inr ⟨rfl, Nat.le_of_ble_eq_true rfl⟩) rfl rfl rfl rfl (Nat.le_of_ble_eq_true rfl) ⟨Nat.le_of_ble_eq_true rfl, Nat.le_of_ble_eq_true rfl⟩ rfl ?_
  refine V_iload_n (i := 1) dX11_expects_12 rfl rfl ?_
  refine V_icmp_eq_z (tgt := 20) dX11_expects_13 (by decide) rfl (zI_n _) (by omega) (by omega) (by omega) (by omega) (fun h13 => ?_) (fun h13 => ?_)
  · refine V_iconst_n (v := 0) dX11_expects_20 (by decide) ?_
    refine V_putI (k := 31) (ty := .boolean) dX11_expects_21 (Or.inr ⟨rfl, Nat.le_of_ble_eq_true rfl⟩) rfl rfl rfl (Nat.le_of_ble_eq_true rfl) flRX11_266 rfl (by decide +kernel) (nar_bool (by omega)) (fit_bool (by omega)) ?_
    refine V_aload_n (i := 0) dX11_expects_24 rfl rfl ?_
    refine V_dup dX11_expects_25 rfl ?_
    refine V_getI (k := 29) dX11_expects_26 (Or.inr ⟨rfl, Nat.le_of_ble_eq_true rfl⟩) rfl rfl rfl (Nat.le_of_ble_eq_true rfl) flRX11_260 ?_
    refine V_top (y := nI p) (pI_ne (by omega) hW.2.2.1.1) ?_
    refine V_aload_n (i := 0) dX11_expects_29 rfl rfl ?_
    refine V_getI (k := 31) dX11_expects_30 (Or.inr ⟨rfl, Nat.le_of_ble_eq_true rfl⟩) rfl rfl rfl (Nat.le_of_ble_eq_true rfl) flRX11_266 ?_
    refine V_top (y := nI 0) pI_at ?_
    refine V_if_eq_n (tgt := 40) dX11_expects_33 (by decide) (by omega) (fun h33 => ?_) (fun h33 => by exfalso; omega)
    refine V_iconst_n (v := 1) dX11_expects_40 (by decide) ?_
    refine V_iadd_n dX11_expects_41 ?_
    refine V_putI (k := 29) (ty := .int) dX11_expects_42 (Or.inr ⟨rfl, Nat.le_of_ble_eq_true rfl⟩) rfl rfl rfl (Nat.le_of_ble_eq_true rfl) flRX11_260 rfl (by decide +kernel) rfl rfl ?_
    refine V_vret dX11_expects_45 rfl ?_
    exact Or.inl ⟨by omega, rfl, ((hW.setb (b1 := 0) rfl).setp (p1 := p + 1) rfl (by omega)), (((Fz.nil (P := PPr)).i1 (by omega) (by unfold PPr; omega)).i1 (by omega) (by unfold PPr; omega))⟩
  · refine V_iconst_n (v := 1) dX11_expects_16 (by decide) ?_
    refine V_goto (tgt := 21) dX11_expects_17 (by decide) ?_
    refine V_putI (k := 31) (ty := .boolean) dX11_expects_21 (Or.inr ⟨rfl, Nat.le_of_ble_eq_true rfl⟩) rfl rfl rfl (Nat.le_of_ble_eq_true rfl) flRX11_266 rfl (by decide +kernel) (nar_bool (by omega)) (fit_bool (by omega)) ?_
    refine V_aload_n (i := 0) dX11_expects_24 rfl rfl ?_
    refine V_dup dX11_expects_25 rfl ?_
    refine V_getI (k := 29) dX11_expects_26 (Or.inr ⟨rfl, Nat.le_of_ble_eq_true rfl⟩) rfl rfl rfl (Nat.le_of_ble_eq_true rfl) flRX11_260 ?_
    refine V_top (y := nI p) (pI_ne (by omega) hW.2.2.1.1) ?_
    refine V_aload_n (i := 0) dX11_expects_29 rfl rfl ?_
    refine V_getI (k := 31) dX11_expects_30 (Or.inr ⟨rfl, Nat.le_of_ble_eq_true rfl⟩) rfl rfl rfl (Nat.le_of_ble_eq_true rfl) flRX11_266 ?_
    refine V_top (y := nI 1) pI_at ?_
    refine V_if_eq_n (tgt := 40) dX11_expects_33 (by decide) (by omega) (fun h33 => by exfalso; omega) (fun h33 => ?_)
    refine V_iconst_n (v := 0) dX11_expects_36 (by decide) ?_
    refine V_goto (tgt := 41) dX11_expects_37 (by decide) ?_
    refine V_iadd_n dX11_expects_41 ?_
    refine V_putI (k := 29) (ty := .int) dX11_expects_42 (Or.inr ⟨rfl, Nat.le_of_ble_eq_true rfl⟩) rfl rfl rfl (Nat.le_of_ble_eq_true rfl) flRX11_260 rfl (by decide +kernel) rfl rfl ?_
    refine V_vret dX11_expects_45 rfl ?_
    exact Or.inr (⟨by omega, rfl, ((hW.setb (b1 := 1) rfl).setp (p1 := p) rfl (by omega)), (((Fz.nil (P := PPr)).i1 (by omega) (by unfold PPr; omega)).i1 (by omega) (by unfold PPr; omega))⟩)
set_option maxRecDepth 100000 in
set_option maxHeartbeats 1000000 in
theorem m_expects1 {c : Nat} {l : List Nat} {p : Nat} {w : Wd} (hW : PW w l p 1) : Ct 1 MX11_expects 2 0 0 [.ref 47, .int (nI c)] w (Mt none fun w1 => PW w1 l p 1 ∧ Fz PPr w w1) := by
  refine Ct_of (by decide +kernel) rfl (Nat.le_of_ble_eq_true rfl) rfl ?_
  have hlo := hW.2.1.1
  have hpl := hW.2.2.1.2
  refine V_aload_n (i := 0) dX11_expects_0 rfl rfl ?_
  refine V_aload_n (i := 0) dX11_expects_1 rfl rfl ?_
  refine V_getI (k := 31) dX11_expects_2 (Or.inr ⟨rfl, Nat.le_of_ble_eq_true rfl⟩) rfl rfl rfl (Nat.le_of_ble_eq_true rfl) flRX11_266 ?_
  refine V_top (y := nI 1) hW.2.2.2.2.1 ?_
  refine V_if_ne_n (tgt := 16) dX11_expects_5 (by decide) (by omega) (fun h5 => ?_) (fun h5 => by exfalso; omega)
  refine V_iconst_n (v := 1) dX11_expects_16 (by decide) ?_
  refine V_goto (tgt := 21) dX11_expects_17 (by decide) ?_
  refine V_putI (k := 31) (ty := .boolean) dX11_expects_21 (Or.inr ⟨rfl, Nat.le_of_ble_eq_true rfl⟩) rfl rfl rfl (Nat.le_of_ble_eq_true rfl) flRX11_266 rfl (by decide +kernel) (nar_bool (by omega)) (fit_bool (by omega)) ?_
  refine V_aload_n (i := 0) dX11_expects_24 rfl rfl ?_
  refine V_dup dX11_expects_25 rfl ?_
  refine V_getI (k := 29) dX11_expects_26 (Or.inr ⟨rfl, Nat.le_of_ble_eq_true rfl⟩) rfl rfl rfl (Nat.le_of_ble_eq_true rfl) flRX11_260 ?_
  refine V_top (y := nI p) (pI_ne (by omega) hW.2.2.1.1) ?_
  refine V_aload_n (i := 0) dX11_expects_29 rfl rfl ?_
  refine V_getI (k := 31) dX11_expects_30 (Or.inr ⟨rfl, Nat.le_of_ble_eq_true rfl⟩) rfl rfl rfl (Nat.le_of_ble_eq_true rfl) flRX11_266 ?_
  refine V_top (y := nI 1) pI_at ?_
  refine V_if_eq_n (tgt := 40) dX11_expects_33 (by decide) (by omega) (fun h33 => by exfalso; omega) (fun h33 => ?_)
  refine V_iconst_n (v := 0) dX11_expects_36 (by decide) ?_
  refine V_goto (tgt := 41) dX11_expects_37 (by decide) ?_
  refine V_iadd_n dX11_expects_41 ?_
  refine V_putI (k := 29) (ty := .int) dX11_expects_42 (Or.inr ⟨rfl, Nat.le_of_ble_eq_true rfl⟩) rfl rfl rfl (Nat.le_of_ble_eq_true rfl) flRX11_260 rfl (by decide +kernel) rfl rfl ?_
  refine V_vret dX11_expects_45 rfl ?_
  exact ⟨rfl, ((hW.setb rfl).setp (p1 := p) rfl (by omega)), (((Fz.nil (P := PPr)).i1 (by omega) (by unfold PPr; omega)).i1 (by omega) (by unfold PPr; omega))⟩
set_option maxRecDepth 100000 in
set_option maxHeartbeats 1000000 in
theorem m_digit0 {l : List Nat} {p : Nat} {w : Wd} (hW : PW w l p 0) : Ct 1 MX11_digit 2 0 0 [.ref 47] w (fun o w1 => (isD (sg l p) = true ∧ o = Sum.inl (some (Value.int (nI (sg l p - 48)))) ∧ PW w1 l (p + 1) 0 ∧ Fz PPr w w1) ∨ (isD (sg l p) = false ∧ o = Sum.inl (some (Value.int (nI 0))) ∧ PW w1 l p 1 ∧ Fz PPr w w1)) := by
  refine Ct_of (by decide +kernel) rfl (Nat.le_of_ble_eq_true rfl) rfl ?_
  have hlo := hW.2.1.1
  have hpl := hW.2.2.1.2
  refine V_aload_n (i := 0) dX11_digit_0 rfl rfl ?_
  refine V_aload_n (i := 0) dX11_digit_1 rfl rfl ?_
  refine V_getI (k := 31) dX11_digit_2 (Or.inr ⟨rfl, Nat.le_of_ble_eq_true rfl⟩) rfl rfl rfl (Nat.le_of_ble_eq_true rfl) flRX11_266 ?_
  refine V_top (y := nI 0) hW.2.2.2.2.1 ?_
  refine V_if_ne_n (tgt := 25) dX11_digit_5 (by decide) (by omega) (fun h5 => by exfalso; omega) (fun h5 => ?_)
  refine V_aload_n (i := 0) dX11_digit_8 rfl rfl ?_
  have hsg78 := hr_sg (p := p) hW.2.1.2
  refine V_callVF dX11_digit_9 (m_here hW) okX11_here lkRX11_270 (Or.inr ⟨rfl, Nat.le_of_ble_eq_true rfl⟩) rfl rfl rfl rfl (Nat.le_of_ble_eq_true rfl) ⟨Nat.le_of_ble_eq_true rfl, Nat.le_of_ble_eq_true rfl⟩ rfl ?_
  refine V_i2l dX11_digit_12 ?_
  refine V_topL (y := zL ((hrZ l p))) (zI_zL (by omega) (by omega)) ?_
  refine V_ldc2 dX11_digit_13 csRX11_273 ?_
  refine V_topL (y := zL 48) (by decide) ?_
  refine V_ldc2 dX11_digit_16 csRX11_275 ?_
  refine V_topL (y := zL 57) (by decide) ?_
  refine V_callSF dX11_digit_19 (c_in (a := ((hrZ l p))) (b := 48) (c := 57) (by omega) (by omega) (by omega) (by omega) (by omega) (by omega)) okX11_in lkRX11_93 rfl rfl (Nat.le_of_ble_eq_true rfl) ⟨Nat.le_of_ble_eq_true rfl, Nat.le_of_ble_eq_true rfl⟩ rfl ?_
  refine V_if_ne_n (tgt := 29) dX11_digit_22 (by decide) (Nat.lt_of_lt_of_le ite_le (by decide)) (fun h22 => ?_) (fun h22 => ?_)
  · have hi22 := ite_t h22
    refine V_iconst_n (v := 0) dX11_digit_29 (by decide) ?_
    refine V_putI (k := 31) (ty := .boolean) dX11_digit_30 (Or.inr ⟨rfl, Nat.le_of_ble_eq_true rfl⟩) rfl rfl rfl (Nat.le_of_ble_eq_true rfl) flRX11_266 rfl (by decide +kernel) (nar_bool (by omega)) (fit_bool (by omega)) ?_
    refine V_aload_n (i := 0) dX11_digit_33 rfl rfl ?_
    refine V_getI (k := 31) dX11_digit_34 (Or.inr ⟨rfl, Nat.le_of_ble_eq_true rfl⟩) rfl rfl rfl (Nat.le_of_ble_eq_true rfl) flRX11_266 ?_
    refine V_top (y := nI 0) pI_at ?_
    refine V_if_eq_n (tgt := 44) dX11_digit_37 (by decide) (by omega) (fun h37 => ?_) (fun h37 => by exfalso; omega)
    refine V_aload_n (i := 0) dX11_digit_44 rfl rfl ?_
    refine V_callVF dX11_digit_45 (m_here (hW.setb rfl)) okX11_here lkRX11_270 (Or.inr ⟨rfl, Nat.le_of_ble_eq_true rfl⟩) rfl rfl rfl rfl (Nat.le_of_ble_eq_true rfl) ⟨Nat.le_of_ble_eq_true rfl, Nat.le_of_ble_eq_true rfl⟩ rfl ?_
    refine V_bipush_n (v := 48) dX11_digit_48 (by decide) ?_
    refine V_isub_z dX11_digit_50 rfl (zI_n _) ?_
    refine V_istore_n (i := 1) dX11_digit_51 rfl (Nat.le_of_ble_eq_true rfl) rfl rfl ?_
    refine V_aload_n (i := 0) dX11_digit_52 rfl rfl ?_
    refine V_dup dX11_digit_53 rfl ?_
    refine V_getI (k := 29) dX11_digit_54 (Or.inr ⟨rfl, Nat.le_of_ble_eq_true rfl⟩) rfl rfl rfl (Nat.le_of_ble_eq_true rfl) flRX11_260 ?_
    refine V_top (y := nI p) (pI_ne (by omega) hW.2.2.1.1) ?_
    refine V_aload_n (i := 0) dX11_digit_57 rfl rfl ?_
    refine V_getI (k := 31) dX11_digit_58 (Or.inr ⟨rfl, Nat.le_of_ble_eq_true rfl⟩) rfl rfl rfl (Nat.le_of_ble_eq_true rfl) flRX11_266 ?_
    refine V_top (y := nI 0) pI_at ?_
    refine V_if_eq_n (tgt := 68) dX11_digit_61 (by decide) (by omega) (fun h61 => ?_) (fun h61 => by exfalso; omega)
    refine V_iconst_n (v := 1) dX11_digit_68 (by decide) ?_
    refine V_iadd_n dX11_digit_69 ?_
    refine V_putI (k := 29) (ty := .int) dX11_digit_70 (Or.inr ⟨rfl, Nat.le_of_ble_eq_true rfl⟩) rfl rfl rfl (Nat.le_of_ble_eq_true rfl) flRX11_260 rfl (by decide +kernel) rfl rfl ?_
    refine V_iload_n (i := 1) dX11_digit_73 rfl rfl ?_
    refine V_iret dX11_digit_74 rfl rfl ?_
    exact Or.inl ⟨isD_iff.mpr (by omega), (by rw [show hrZ l p - ((48 : Nat) : Int) = ((sg l p - 48 : Nat) : Int) by omega, ← zI_n]), ((hW.setb (b1 := 0) rfl).setp (p1 := p + 1) rfl (by omega)), (((Fz.nil (P := PPr)).i1 (by omega) (by unfold PPr; omega)).i1 (by omega) (by unfold PPr; omega))⟩
  · have hi22 := ite_f h22
    refine V_iconst_n (v := 1) dX11_digit_25 (by decide) ?_
    refine V_goto (tgt := 30) dX11_digit_26 (by decide) ?_
    refine V_putI (k := 31) (ty := .boolean) dX11_digit_30 (Or.inr ⟨rfl, Nat.le_of_ble_eq_true rfl⟩) rfl rfl rfl (Nat.le_of_ble_eq_true rfl) flRX11_266 rfl (by decide +kernel) (nar_bool (by omega)) (fit_bool (by omega)) ?_
    refine V_aload_n (i := 0) dX11_digit_33 rfl rfl ?_
    refine V_getI (k := 31) dX11_digit_34 (Or.inr ⟨rfl, Nat.le_of_ble_eq_true rfl⟩) rfl rfl rfl (Nat.le_of_ble_eq_true rfl) flRX11_266 ?_
    refine V_top (y := nI 1) pI_at ?_
    refine V_if_eq_n (tgt := 44) dX11_digit_37 (by decide) (by omega) (fun h37 => by exfalso; omega) (fun h37 => ?_)
    refine V_iconst_n (v := 0) dX11_digit_40 (by decide) ?_
    refine V_goto (tgt := 51) dX11_digit_41 (by decide) ?_
    refine V_istore_n (i := 1) dX11_digit_51 rfl (Nat.le_of_ble_eq_true rfl) rfl rfl ?_
    refine V_aload_n (i := 0) dX11_digit_52 rfl rfl ?_
    refine V_dup dX11_digit_53 rfl ?_
    refine V_getI (k := 29) dX11_digit_54 (Or.inr ⟨rfl, Nat.le_of_ble_eq_true rfl⟩) rfl rfl rfl (Nat.le_of_ble_eq_true rfl) flRX11_260 ?_
    refine V_top (y := nI p) (pI_ne (by omega) hW.2.2.1.1) ?_
    refine V_aload_n (i := 0) dX11_digit_57 rfl rfl ?_
    refine V_getI (k := 31) dX11_digit_58 (Or.inr ⟨rfl, Nat.le_of_ble_eq_true rfl⟩) rfl rfl rfl (Nat.le_of_ble_eq_true rfl) flRX11_266 ?_
    refine V_top (y := nI 1) pI_at ?_
    refine V_if_eq_n (tgt := 68) dX11_digit_61 (by decide) (by omega) (fun h61 => by exfalso; omega) (fun h61 => ?_)
    refine V_iconst_n (v := 0) dX11_digit_64 (by decide) ?_
    refine V_goto (tgt := 69) dX11_digit_65 (by decide) ?_
    refine V_iadd_n dX11_digit_69 ?_
    refine V_putI (k := 29) (ty := .int) dX11_digit_70 (Or.inr ⟨rfl, Nat.le_of_ble_eq_true rfl⟩) rfl rfl rfl (Nat.le_of_ble_eq_true rfl) flRX11_260 rfl (by decide +kernel) rfl rfl ?_
    refine V_iload_n (i := 1) dX11_digit_73 rfl rfl ?_
    refine V_iret dX11_digit_74 rfl rfl ?_
    exact Or.inr (⟨isD_no (by omega), rfl, ((hW.setb (b1 := 1) rfl).setp (p1 := p) rfl (by omega)), (((Fz.nil (P := PPr)).i1 (by omega) (by unfold PPr; omega)).i1 (by omega) (by unfold PPr; omega))⟩)
set_option maxRecDepth 100000 in
set_option maxHeartbeats 1000000 in
theorem m_digit1 {l : List Nat} {p : Nat} {w : Wd} (hW : PW w l p 1) : Ct 1 MX11_digit 2 0 0 [.ref 47] w (Mt (some (.int (nI 0))) fun w1 => PW w1 l p 1 ∧ Fz PPr w w1) := by
  refine Ct_of (by decide +kernel) rfl (Nat.le_of_ble_eq_true rfl) rfl ?_
  have hlo := hW.2.1.1
  have hpl := hW.2.2.1.2
  refine V_aload_n (i := 0) dX11_digit_0 rfl rfl ?_
  refine V_aload_n (i := 0) dX11_digit_1 rfl rfl ?_
  refine V_getI (k := 31) dX11_digit_2 (Or.inr ⟨rfl, Nat.le_of_ble_eq_true rfl⟩) rfl rfl rfl (Nat.le_of_ble_eq_true rfl) flRX11_266 ?_
  refine V_top (y := nI 1) hW.2.2.2.2.1 ?_
  refine V_if_ne_n (tgt := 25) dX11_digit_5 (by decide) (by omega) (fun h5 => ?_) (fun h5 => by exfalso; omega)
  refine V_iconst_n (v := 1) dX11_digit_25 (by decide) ?_
  refine V_goto (tgt := 30) dX11_digit_26 (by decide) ?_
  refine V_putI (k := 31) (ty := .boolean) dX11_digit_30 (Or.inr ⟨rfl, Nat.le_of_ble_eq_true rfl⟩) rfl rfl rfl (Nat.le_of_ble_eq_true rfl) flRX11_266 rfl (by decide +kernel) (nar_bool (by omega)) (fit_bool (by omega)) ?_
  refine V_aload_n (i := 0) dX11_digit_33 rfl rfl ?_
  refine V_getI (k := 31) dX11_digit_34 (Or.inr ⟨rfl, Nat.le_of_ble_eq_true rfl⟩) rfl rfl rfl (Nat.le_of_ble_eq_true rfl) flRX11_266 ?_
  refine V_top (y := nI 1) pI_at ?_
  refine V_if_eq_n (tgt := 44) dX11_digit_37 (by decide) (by omega) (fun h37 => by exfalso; omega) (fun h37 => ?_)
  refine V_iconst_n (v := 0) dX11_digit_40 (by decide) ?_
  refine V_goto (tgt := 51) dX11_digit_41 (by decide) ?_
  refine V_istore_n (i := 1) dX11_digit_51 rfl (Nat.le_of_ble_eq_true rfl) rfl rfl ?_
  refine V_aload_n (i := 0) dX11_digit_52 rfl rfl ?_
  refine V_dup dX11_digit_53 rfl ?_
  refine V_getI (k := 29) dX11_digit_54 (Or.inr ⟨rfl, Nat.le_of_ble_eq_true rfl⟩) rfl rfl rfl (Nat.le_of_ble_eq_true rfl) flRX11_260 ?_
  refine V_top (y := nI p) (pI_ne (by omega) hW.2.2.1.1) ?_
  refine V_aload_n (i := 0) dX11_digit_57 rfl rfl ?_
  refine V_getI (k := 31) dX11_digit_58 (Or.inr ⟨rfl, Nat.le_of_ble_eq_true rfl⟩) rfl rfl rfl (Nat.le_of_ble_eq_true rfl) flRX11_266 ?_
  refine V_top (y := nI 1) pI_at ?_
  refine V_if_eq_n (tgt := 68) dX11_digit_61 (by decide) (by omega) (fun h61 => by exfalso; omega) (fun h61 => ?_)
  refine V_iconst_n (v := 0) dX11_digit_64 (by decide) ?_
  refine V_goto (tgt := 69) dX11_digit_65 (by decide) ?_
  refine V_iadd_n dX11_digit_69 ?_
  refine V_putI (k := 29) (ty := .int) dX11_digit_70 (Or.inr ⟨rfl, Nat.le_of_ble_eq_true rfl⟩) rfl rfl rfl (Nat.le_of_ble_eq_true rfl) flRX11_260 rfl (by decide +kernel) rfl rfl ?_
  refine V_iload_n (i := 1) dX11_digit_73 rfl rfl ?_
  refine V_iret dX11_digit_74 rfl rfl ?_
  exact ⟨rfl, ((hW.setb rfl).setp (p1 := p) rfl (by omega)), (((Fz.nil (P := PPr)).i1 (by omega) (by unfold PPr; omega)).i1 (by omega) (by unfold PPr; omega))⟩
set_option maxRecDepth 100000 in
set_option maxHeartbeats 1000000 in
theorem m_number {l : List Nat} {p : Nat} {w : Wd} (hW : PW w l p 0) : Ct 1 MX11_number 3 0 0 [.ref 47] w (fun o w1 => (isD (sg l p) = false ∧ o = Sum.inl (some (Value.int (nI 0))) ∧ PW w1 l p 1 ∧ Fz PPr w w1) ∨ ((isD (sg l p) = true ∧ isD (sg l (p + 1)) = false) ∧ o = Sum.inl (some (Value.int (nI (sg l p - 48)))) ∧ PW w1 l (p + 1) 0 ∧ Fz PPr w w1) ∨ ((isD (sg l p) = true ∧ isD (sg l (p + 1)) = true) ∧ o = Sum.inl (some (Value.int (nI (10 * (sg l p - 48) + (sg l (p + 1) - 48))))) ∧ PW w1 l (p + 1 + 1) 0 ∧ Fz PPr w w1)) := by
  refine Ct_of (by decide +kernel) rfl (Nat.le_of_ble_eq_true rfl) rfl ?_
  have hlo := hW.2.1.1
  have hpl := hW.2.2.1.2
  refine V_aload_n (i := 0) dX11_number_0 rfl rfl ?_
  refine V_callV dX11_number_1 (m_digit0 hW) okX11_digit lkRX11_277 (Or.inr ⟨rfl, Nat.le_of_ble_eq_true rfl⟩) rfl rfl rfl rfl (Nat.le_of_ble_eq_true rfl) ⟨Nat.le_of_ble_eq_true rfl, Nat.le_of_ble_eq_true rfl⟩ rfl ⟨Nat.zero_le _, Nat.zero_le _⟩ (fun v9 u1 hu1 => ?_) (fun E9 w9 h9 => by rcases h9 with h9 | h9 <;> cases h9.2.1)
  rcases hu1 with ⟨hu1f, e9, hu1⟩ | ⟨hu1f, e9, hu1⟩
  · cases e9
    have hplu1 := hu1.1.2.2.1.2
    have hdgu1 := isD_iff.mp hu1f
    refine V_istore_n (i := 1) dX11_number_4 rfl (Nat.le_of_ble_eq_true rfl) rfl rfl ?_
    refine V_aload_n (i := 0) dX11_number_5 rfl rfl ?_
    refine V_getI (k := 31) dX11_number_6 (Or.inr ⟨rfl, Nat.le_of_ble_eq_true rfl⟩) rfl rfl rfl (Nat.le_of_ble_eq_true rfl) flRX11_266 ?_
    refine V_top (y := nI 0) hu1.1.2.2.2.2.1 ?_
    refine V_if_ne_n (tgt := 41) dX11_number_9 (by decide) (by omega) (fun h9 => by exfalso; omega) (fun h9 => ?_)
    refine V_aload_n (i := 0) dX11_number_12 rfl rfl ?_
    have hsg79 := hr_sg (p := (p + 1)) hu1.1.2.1.2
    refine V_callVF dX11_number_13 (m_here hu1.1) okX11_here lkRX11_270 (Or.inr ⟨rfl, Nat.le_of_ble_eq_true rfl⟩) rfl rfl rfl rfl (Nat.le_of_ble_eq_true rfl) ⟨Nat.le_of_ble_eq_true rfl, Nat.le_of_ble_eq_true rfl⟩ rfl ?_
    refine V_i2l dX11_number_16 ?_
    refine V_topL (y := zL ((hrZ l (p + 1)))) (zI_zL (by omega) (by omega)) ?_
    refine V_ldc2 dX11_number_17 csRX11_273 ?_
    refine V_topL (y := zL 48) (by decide) ?_
    refine V_ldc2 dX11_number_20 csRX11_275 ?_
    refine V_topL (y := zL 57) (by decide) ?_
    refine V_callSF dX11_number_23 (c_in (a := ((hrZ l (p + 1)))) (b := 48) (c := 57) (by omega) (by omega) (by omega) (by omega) (by omega) (by omega)) okX11_in lkRX11_93 rfl rfl (Nat.le_of_ble_eq_true rfl) ⟨Nat.le_of_ble_eq_true rfl, Nat.le_of_ble_eq_true rfl⟩ rfl ?_
    refine V_if_eq_n (tgt := 41) dX11_number_26 (by decide) (Nat.lt_of_lt_of_le ite_le (by decide)) (fun h26 => ?_) (fun h26 => ?_)
    · have hi26 := ite_f h26
      refine V_iload_n (i := 1) dX11_number_41 rfl rfl ?_
      refine V_iret dX11_number_42 rfl rfl ?_
      exact Or.inr (Or.inl ⟨⟨hu1f, isD_no (by omega)⟩, rfl, hu1.1, ((Fz.nil (P := PPr)).trans (hu1.2.mono (fun b j q => by unfold PPr; omega)))⟩)
    · have hi26 := ite_t h26
      refine V_bipush_n (v := 10) dX11_number_29 (by decide) ?_
      refine V_iload_n (i := 1) dX11_number_31 rfl rfl ?_
      refine V_imul_n dX11_number_32 ?_
      refine V_aload_n (i := 0) dX11_number_33 rfl rfl ?_
      refine V_callV dX11_number_34 (m_digit0 hu1.1) okX11_digit lkRX11_277 (Or.inr ⟨rfl, Nat.le_of_ble_eq_true rfl⟩) rfl rfl rfl rfl (Nat.le_of_ble_eq_true rfl) ⟨Nat.le_of_ble_eq_true rfl, Nat.le_of_ble_eq_true rfl⟩ rfl ⟨Nat.zero_le _, Nat.zero_le _⟩ (fun v9 u2 hu2 => ?_) (fun E9 w9 h9 => by rcases h9 with h9 | h9 <;> cases h9.2.1)
      rcases hu2 with ⟨hu2f, e9, hu2⟩ | ⟨hu2f, e9, hu2⟩
      · cases e9
        have hplu2 := hu2.1.2.2.1.2
        refine V_iadd_n dX11_number_37 ?_
        refine V_goto (tgt := 42) dX11_number_38 (by decide) ?_
        refine V_iret dX11_number_42 rfl rfl ?_
        exact Or.inr (Or.inr ⟨⟨hu1f, hu2f⟩, rfl, hu2.1, (((Fz.nil (P := PPr)).trans (hu1.2.mono (fun b j q => by unfold PPr; omega))).trans (hu2.2.mono (fun b j q => by unfold PPr; omega)))⟩)
      · cases e9
        exact absurd ((isD_iff (x := sg l (p + 1))).mpr (by omega)) (by rw [hu2f]; decide)
  · cases e9
    refine V_istore_n (i := 1) dX11_number_4 rfl (Nat.le_of_ble_eq_true rfl) rfl rfl ?_
    refine V_aload_n (i := 0) dX11_number_5 rfl rfl ?_
    refine V_getI (k := 31) dX11_number_6 (Or.inr ⟨rfl, Nat.le_of_ble_eq_true rfl⟩) rfl rfl rfl (Nat.le_of_ble_eq_true rfl) flRX11_266 ?_
    refine V_top (y := nI 1) hu1.1.2.2.2.2.1 ?_
    refine V_if_ne_n (tgt := 41) dX11_number_9 (by decide) (by omega) (fun h9 => ?_) (fun h9 => by exfalso; omega)
    refine V_iload_n (i := 1) dX11_number_41 rfl rfl ?_
    refine V_iret dX11_number_42 rfl rfl ?_
    exact Or.inl ⟨hu1f, rfl, hu1.1, ((Fz.nil (P := PPr)).trans (hu1.2.mono (fun b j q => by unfold PPr; omega)))⟩
set_option maxRecDepth 100000 in
set_option maxHeartbeats 1000000 in
theorem m_letter0 {l : List Nat} {p : Nat} {w : Wd} (hW : PW w l p 0) : Ct 1 MX11_letter 2 0 0 [.ref 47, .int (nI 0)] w (Mt (some (.int (nI 0))) fun w1 => PW w1 l p 1 ∧ Fz PPr w w1) := by
  refine Ct_of (by decide +kernel) rfl (Nat.le_of_ble_eq_true rfl) rfl ?_
  have hlo := hW.2.1.1
  have hpl := hW.2.2.1.2
  refine V_aload_n (i := 0) dX11_letter_0 rfl rfl ?_
  refine V_aload_n (i := 0) dX11_letter_1 rfl rfl ?_
  refine V_getI (k := 31) dX11_letter_2 (Or.inr ⟨rfl, Nat.le_of_ble_eq_true rfl⟩) rfl rfl rfl (Nat.le_of_ble_eq_true rfl) flRX11_266 ?_
  refine V_top (y := nI 0) hW.2.2.2.2.1 ?_
  refine V_if_ne_n (tgt := 12) dX11_letter_5 (by decide) (by omega) (fun h5 => by exfalso; omega) (fun h5 => ?_)
  refine V_iload_n (i := 1) dX11_letter_8 rfl rfl ?_
  refine V_if_ne_n (tgt := 16) dX11_letter_9 (by decide) (by omega) (fun h9 => by exfalso; omega) (fun h9 => ?_)
  refine V_iconst_n (v := 1) dX11_letter_12 (by decide) ?_
  refine V_goto (tgt := 17) dX11_letter_13 (by decide) ?_
  refine V_putI (k := 31) (ty := .boolean) dX11_letter_17 (Or.inr ⟨rfl, Nat.le_of_ble_eq_true rfl⟩) rfl rfl rfl (Nat.le_of_ble_eq_true rfl) flRX11_266 rfl (by decide +kernel) (nar_bool (by omega)) (fit_bool (by omega)) ?_
  refine V_aload_n (i := 0) dX11_letter_20 rfl rfl ?_
  refine V_getI (k := 31) dX11_letter_21 (Or.inr ⟨rfl, Nat.le_of_ble_eq_true rfl⟩) rfl rfl rfl (Nat.le_of_ble_eq_true rfl) flRX11_266 ?_
  refine V_top (y := nI 1) pI_at ?_
  refine V_if_eq_n (tgt := 31) dX11_letter_24 (by decide) (by omega) (fun h24 => by exfalso; omega) (fun h24 => ?_)
  refine V_iconst_n (v := 0) dX11_letter_27 (by decide) ?_
  refine V_goto (tgt := 35) dX11_letter_28 (by decide) ?_
  refine V_istore_n (i := 2) dX11_letter_35 rfl (Nat.le_of_ble_eq_true rfl) rfl rfl ?_
  refine V_aload_n (i := 0) dX11_letter_36 rfl rfl ?_
  refine V_dup dX11_letter_37 rfl ?_
  refine V_getI (k := 29) dX11_letter_38 (Or.inr ⟨rfl, Nat.le_of_ble_eq_true rfl⟩) rfl rfl rfl (Nat.le_of_ble_eq_true rfl) flRX11_260 ?_
  refine V_top (y := nI p) (pI_ne (by omega) hW.2.2.1.1) ?_
  refine V_aload_n (i := 0) dX11_letter_41 rfl rfl ?_
  refine V_getI (k := 31) dX11_letter_42 (Or.inr ⟨rfl, Nat.le_of_ble_eq_true rfl⟩) rfl rfl rfl (Nat.le_of_ble_eq_true rfl) flRX11_266 ?_
  refine V_top (y := nI 1) pI_at ?_
  refine V_if_eq_n (tgt := 52) dX11_letter_45 (by decide) (by omega) (fun h45 => by exfalso; omega) (fun h45 => ?_)
  refine V_iconst_n (v := 0) dX11_letter_48 (by decide) ?_
  refine V_goto (tgt := 53) dX11_letter_49 (by decide) ?_
  refine V_iadd_n dX11_letter_53 ?_
  refine V_putI (k := 29) (ty := .int) dX11_letter_54 (Or.inr ⟨rfl, Nat.le_of_ble_eq_true rfl⟩) rfl rfl rfl (Nat.le_of_ble_eq_true rfl) flRX11_260 rfl (by decide +kernel) rfl rfl ?_
  refine V_iload_n (i := 2) dX11_letter_57 rfl rfl ?_
  refine V_iret dX11_letter_58 rfl rfl ?_
  exact ⟨rfl, ((hW.setb rfl).setp (p1 := p) rfl (by omega)), (((Fz.nil (P := PPr)).i1 (by omega) (by unfold PPr; omega)).i1 (by omega) (by unfold PPr; omega))⟩
set_option maxRecDepth 100000 in
set_option maxHeartbeats 1000000 in
theorem m_letter1 {f : Nat} {l : List Nat} {p : Nat} {w : Wd} (hW : PW w l p 1) : Ct 1 MX11_letter 2 0 0 [.ref 47, .int (nI f)] w (Mt (some (.int (nI 0))) fun w1 => PW w1 l p 1 ∧ Fz PPr w w1) := by
  refine Ct_of (by decide +kernel) rfl (Nat.le_of_ble_eq_true rfl) rfl ?_
  have hlo := hW.2.1.1
  have hpl := hW.2.2.1.2
  refine V_aload_n (i := 0) dX11_letter_0 rfl rfl ?_
  refine V_aload_n (i := 0) dX11_letter_1 rfl rfl ?_
  refine V_getI (k := 31) dX11_letter_2 (Or.inr ⟨rfl, Nat.le_of_ble_eq_true rfl⟩) rfl rfl rfl (Nat.le_of_ble_eq_true rfl) flRX11_266 ?_
  refine V_top (y := nI 1) hW.2.2.2.2.1 ?_
  refine V_if_ne_n (tgt := 12) dX11_letter_5 (by decide) (by omega) (fun h5 => ?_) (fun h5 => by exfalso; omega)
  refine V_iconst_n (v := 1) dX11_letter_12 (by decide) ?_
  refine V_goto (tgt := 17) dX11_letter_13 (by decide) ?_
  refine V_putI (k := 31) (ty := .boolean) dX11_letter_17 (Or.inr ⟨rfl, Nat.le_of_ble_eq_true rfl⟩) rfl rfl rfl (Nat.le_of_ble_eq_true rfl) flRX11_266 rfl (by decide +kernel) (nar_bool (by omega)) (fit_bool (by omega)) ?_
  refine V_aload_n (i := 0) dX11_letter_20 rfl rfl ?_
  refine V_getI (k := 31) dX11_letter_21 (Or.inr ⟨rfl, Nat.le_of_ble_eq_true rfl⟩) rfl rfl rfl (Nat.le_of_ble_eq_true rfl) flRX11_266 ?_
  refine V_top (y := nI 1) pI_at ?_
  refine V_if_eq_n (tgt := 31) dX11_letter_24 (by decide) (by omega) (fun h24 => by exfalso; omega) (fun h24 => ?_)
  refine V_iconst_n (v := 0) dX11_letter_27 (by decide) ?_
  refine V_goto (tgt := 35) dX11_letter_28 (by decide) ?_
  refine V_istore_n (i := 2) dX11_letter_35 rfl (Nat.le_of_ble_eq_true rfl) rfl rfl ?_
  refine V_aload_n (i := 0) dX11_letter_36 rfl rfl ?_
  refine V_dup dX11_letter_37 rfl ?_
  refine V_getI (k := 29) dX11_letter_38 (Or.inr ⟨rfl, Nat.le_of_ble_eq_true rfl⟩) rfl rfl rfl (Nat.le_of_ble_eq_true rfl) flRX11_260 ?_
  refine V_top (y := nI p) (pI_ne (by omega) hW.2.2.1.1) ?_
  refine V_aload_n (i := 0) dX11_letter_41 rfl rfl ?_
  refine V_getI (k := 31) dX11_letter_42 (Or.inr ⟨rfl, Nat.le_of_ble_eq_true rfl⟩) rfl rfl rfl (Nat.le_of_ble_eq_true rfl) flRX11_266 ?_
  refine V_top (y := nI 1) pI_at ?_
  refine V_if_eq_n (tgt := 52) dX11_letter_45 (by decide) (by omega) (fun h45 => by exfalso; omega) (fun h45 => ?_)
  refine V_iconst_n (v := 0) dX11_letter_48 (by decide) ?_
  refine V_goto (tgt := 53) dX11_letter_49 (by decide) ?_
  refine V_iadd_n dX11_letter_53 ?_
  refine V_putI (k := 29) (ty := .int) dX11_letter_54 (Or.inr ⟨rfl, Nat.le_of_ble_eq_true rfl⟩) rfl rfl rfl (Nat.le_of_ble_eq_true rfl) flRX11_260 rfl (by decide +kernel) rfl rfl ?_
  refine V_iload_n (i := 2) dX11_letter_57 rfl rfl ?_
  refine V_iret dX11_letter_58 rfl rfl ?_
  exact ⟨rfl, ((hW.setb rfl).setp (p1 := p) rfl (by omega)), (((Fz.nil (P := PPr)).i1 (by omega) (by unfold PPr; omega)).i1 (by omega) (by unfold PPr; omega))⟩
set_option maxRecDepth 100000 in
set_option maxHeartbeats 1000000 in
theorem m_letterF {l : List Nat} {p : Nat} {w : Wd} (hW : PW w l p 0) (hp : p < l.length) : Ct 1 MX11_letter 2 0 0 [.ref 47, .int (nI 1)] w (Mt (some (.int (nI (sg l p)))) fun w1 => PW w1 l (p + 1) 0 ∧ Fz PPr w w1) := by
  refine Ct_of (by decide +kernel) rfl (Nat.le_of_ble_eq_true rfl) rfl ?_
  have hlo := hW.2.1.1
  have hpl := hW.2.2.1.2
  refine V_aload_n (i := 0) dX11_letter_0 rfl rfl ?_
  refine V_aload_n (i := 0) dX11_letter_1 rfl rfl ?_
  refine V_getI (k := 31) dX11_letter_2 (Or.inr ⟨rfl, Nat.le_of_ble_eq_true rfl⟩) rfl rfl rfl (Nat.le_of_ble_eq_true rfl) flRX11_266 ?_
  refine V_top (y := nI 0) hW.2.2.2.2.1 ?_
  refine V_if_ne_n (tgt := 12) dX11_letter_5 (by decide) (by omega) (fun h5 => by exfalso; omega) (fun h5 => ?_)
  refine V_iload_n (i := 1) dX11_letter_8 rfl rfl ?_
  refine V_if_ne_n (tgt := 16) dX11_letter_9 (by decide) (by omega) (fun h9 => ?_) (fun h9 => by exfalso; omega)
  refine V_iconst_n (v := 0) dX11_letter_16 (by decide) ?_
  refine V_putI (k := 31) (ty := .boolean) dX11_letter_17 (Or.inr ⟨rfl, Nat.le_of_ble_eq_true rfl⟩) rfl rfl rfl (Nat.le_of_ble_eq_true rfl) flRX11_266 rfl (by decide +kernel) (nar_bool (by omega)) (fit_bool (by omega)) ?_
  refine V_aload_n (i := 0) dX11_letter_20 rfl rfl ?_
  refine V_getI (k := 31) dX11_letter_21 (Or.inr ⟨rfl, Nat.le_of_ble_eq_true rfl⟩) rfl rfl rfl (Nat.le_of_ble_eq_true rfl) flRX11_266 ?_
  refine V_top (y := nI 0) pI_at ?_
  refine V_if_eq_n (tgt := 31) dX11_letter_24 (by decide) (by omega) (fun h24 => ?_) (fun h24 => by exfalso; omega)
  refine V_aload_n (i := 0) dX11_letter_31 rfl rfl ?_
  have hsg := hr_sg (p := p) hW.2.1.2
  refine V_callVF dX11_letter_32 (m_here (hW.setb rfl)) okX11_here lkRX11_270 (Or.inr ⟨rfl, Nat.le_of_ble_eq_true rfl⟩) rfl rfl rfl rfl (Nat.le_of_ble_eq_true rfl) ⟨Nat.le_of_ble_eq_true rfl, Nat.le_of_ble_eq_true rfl⟩ rfl ?_
  refine V_istore_n (i := 2) dX11_letter_35 rfl (Nat.le_of_ble_eq_true rfl) rfl rfl ?_
  refine V_aload_n (i := 0) dX11_letter_36 rfl rfl ?_
  refine V_dup dX11_letter_37 rfl ?_
  refine V_getI (k := 29) dX11_letter_38 (Or.inr ⟨rfl, Nat.le_of_ble_eq_true rfl⟩) rfl rfl rfl (Nat.le_of_ble_eq_true rfl) flRX11_260 ?_
  refine V_top (y := nI p) (pI_ne (by omega) hW.2.2.1.1) ?_
  refine V_aload_n (i := 0) dX11_letter_41 rfl rfl ?_
  refine V_getI (k := 31) dX11_letter_42 (Or.inr ⟨rfl, Nat.le_of_ble_eq_true rfl⟩) rfl rfl rfl (Nat.le_of_ble_eq_true rfl) flRX11_266 ?_
  refine V_top (y := nI 0) pI_at ?_
  refine V_if_eq_n (tgt := 52) dX11_letter_45 (by decide) (by omega) (fun h45 => ?_) (fun h45 => by exfalso; omega)
  refine V_iconst_n (v := 1) dX11_letter_52 (by decide) ?_
  refine V_iadd_n dX11_letter_53 ?_
  refine V_putI (k := 29) (ty := .int) dX11_letter_54 (Or.inr ⟨rfl, Nat.le_of_ble_eq_true rfl⟩) rfl rfl rfl (Nat.le_of_ble_eq_true rfl) flRX11_260 rfl (by decide +kernel) rfl rfl ?_
  refine V_iload_n (i := 2) dX11_letter_57 rfl rfl ?_
  refine V_iret dX11_letter_58 rfl rfl ?_
  exact ⟨by rw [show hrZ l p = ((sg l p : Nat) : Int) by omega, ← zI_n], ((hW.setb rfl).setp (p1 := p + 1) rfl (by omega)), (((Fz.nil (P := PPr)).i1 (by omega) (by unfold PPr; omega)).i1 (by omega) (by unfold PPr; omega))⟩
theorem bg_ok {v : Nat} (hv : v < 7) : bgT.getD v 0 ≤ bgT.getD (v + 1) 0 ∧ bgT.getD (v + 1) 0 - bgT.getD v 0 = (tx (1120 + v)).length ∧ bgT.getD v 0 + (tx (1120 + v)).length ≤ 43 ∧ bgT.getD (v + 1) 0 < 44 := vb_cases (P := fun v => bgT.getD v 0 ≤ bgT.getD (v + 1) 0 ∧ bgT.getD (v + 1) 0 - bgT.getD v 0 = (tx (1120 + v)).length ∧ bgT.getD v 0 + (tx (1120 + v)).length ≤ 43 ∧ bgT.getD (v + 1) 0 < 44) (by decide +kernel) (by decide +kernel) (by decide +kernel) (by decide +kernel) (by decide +kernel) (by decide +kernel) (by decide +kernel) hv
theorem le_ok {v : Nat} (hv : v < 7) : ∀ k, k < (tx (1120 + v)).length → leT.getD (bgT.getD v 0 + k) 0 = (tx (1120 + v)).getD k 0 ∧ 0 < (tx (1120 + v)).getD k 0 ∧ (tx (1120 + v)).getD k 0 < 128 := vb_cases (P := fun v => ∀ k, k < (tx (1120 + v)).length → leT.getD (bgT.getD v 0 + k) 0 = (tx (1120 + v)).getD k 0 ∧ 0 < (tx (1120 + v)).getD k 0 ∧ (tx (1120 + v)).getD k 0 < 128) (by decide +kernel) (by decide +kernel) (by decide +kernel) (by decide +kernel) (by decide +kernel) (by decide +kernel) (by decide +kernel) hv
set_option maxRecDepth 100000 in
set_option maxHeartbeats 1000000 in
theorem m_likeness {v : Nat} {l : List Nat} {p b : Nat} {w : Wd} (hW : PW w l p b) (hv : v < 7) : Ct 1 MX11_likeness 1 0 0 [.ref 47, .int (nI v)] w (Rt (some (.int (nI (lk l p (1120 + v))))) w) := by
  refine Ct_of (by decide +kernel) rfl (Nat.le_of_ble_eq_true rfl) rfl ?_
  have hlo := hW.2.1.1
  have hpl := hW.2.2.1.2
  have hbg := bg_ok hv
  have lp : ∀ (fu i : Nat) , i ≤ (tx (1120 + v)).length → (tx (1120 + v)).length - i < fu → mtc l p (tx (1120 + v)) i = i → V 1 MX11_likeness 1 0 0 (Rt (some (.int (nI (lk l p (1120 + v))))) w) (fun _ _ => True) 0 0 18 [some (.ref 47), some (.int (nI v)), some (.int (nI i)), some (.int (nI (tx (1120 + v)).length))] [] w := by
    intro fu
    induction fu with
    | zero => intro i  h1 h2; omega
    | succ fu ih =>
      intro i  hib hfu hmt
      refine V_iload_n (i := 2) dX11_likeness_18 rfl rfl ?_
      refine V_iload_n (i := 3) dX11_likeness_19 rfl rfl ?_
      refine V_icmp_ge_n (tgt := 69) dX11_likeness_20 (by decide) (by omega) (by omega) (fun h20 => ?_) (fun h20 => ?_)
      · refine V_iload_n (i := 2) dX11_likeness_69 rfl rfl ?_
        refine V_iret dX11_likeness_70 rfl rfl ?_
        have ei : i = (tx (1120 + v)).length := by omega
        have el : lk l p (1120 + v) = i := by unfold lk; rw [← ei]; exact hmt
        exact ⟨by rw [el], rfl⟩
      · have hle := le_ok hv i (by omega)
        have hsg := hr_sg (p := p + i) hW.2.1.2
        have hs1 : p + i < l.length → sg l (p + i) = l.getD (p + i) 0 := fun q => if_pos q
        refine V_aload_n (i := 0) dX11_likeness_23 rfl rfl ?_
        refine V_getI (k := 29) dX11_likeness_24 (Or.inr ⟨rfl, Nat.le_of_ble_eq_true rfl⟩) rfl rfl rfl (Nat.le_of_ble_eq_true rfl) flRX11_260 ?_
        refine V_top (y := nI p) hW.2.2.1.1 ?_
        refine V_iload_n (i := 2) dX11_likeness_27 rfl rfl ?_
        refine V_iadd_n dX11_likeness_28 ?_
        refine V_aload_n (i := 0) dX11_likeness_29 rfl rfl ?_
        refine V_getI (k := 30) dX11_likeness_30 (Or.inr ⟨rfl, Nat.le_of_ble_eq_true rfl⟩) rfl rfl rfl (Nat.le_of_ble_eq_true rfl) flRX11_263 ?_
        refine V_top (y := nI l.length) hW.2.2.2.1 ?_
        refine V_icmp_ge_n (tgt := 69) dX11_likeness_33 (by decide) (by omega) (by omega) (fun h33 => ?_) (fun h33 => ?_)
        · refine V_iload_n (i := 2) dX11_likeness_69 rfl rfl ?_
          refine V_iret dX11_likeness_70 rfl rfl ?_
          have el : lk l p (1120 + v) = i := lk_stop h20 hmt (by omega)
          exact ⟨by rw [el], rfl⟩
        · have hs2 := hs1 h33
          have hrg := hW.2.1.2 (p + i) h33
          refine V_aload_n (i := 0) dX11_likeness_36 rfl rfl ?_
          refine V_getC (k := 10) (q := 54) dX11_likeness_37 (Or.inr ⟨rfl, Nat.le_of_ble_eq_true rfl⟩) rfl rfl rfl (Nat.le_of_ble_eq_true rfl) flRX11_32 ?_
          refine V_aload_n (i := 0) dX11_likeness_40 rfl rfl ?_
          refine V_getI (k := 29) dX11_likeness_41 (Or.inr ⟨rfl, Nat.le_of_ble_eq_true rfl⟩) rfl rfl rfl (Nat.le_of_ble_eq_true rfl) flRX11_260 ?_
          refine V_top (y := nI p) hW.2.2.1.1 ?_
          refine V_iload_n (i := 2) dX11_likeness_44 rfl rfl ?_
          refine V_iadd_n dX11_likeness_45 ?_
          refine V_iald_n (i := (p + i)) dX11_likeness_46 (Or.inr ⟨rfl, Nat.le_of_ble_eq_true rfl⟩) rfl (by omega) (by decide) ?_
          refine V_top (y := nI (l.getD (p + i) 0)) (hW.1 _ (by omega)) ?_
          refine V_aload_n (i := 0) dX11_likeness_47 rfl rfl ?_
          refine V_getC (k := 25) (q := 62) dX11_likeness_48 (Or.inr ⟨rfl, Nat.le_of_ble_eq_true rfl⟩) rfl rfl rfl (Nat.le_of_ble_eq_true rfl) flRX11_57 ?_
          refine V_aload_n (i := 0) dX11_likeness_51 rfl rfl ?_
          refine V_getC (k := 26) (q := 63) dX11_likeness_52 (Or.inr ⟨rfl, Nat.le_of_ble_eq_true rfl⟩) rfl rfl rfl (Nat.le_of_ble_eq_true rfl) flRX11_60 ?_
          refine V_iload_n (i := 1) dX11_likeness_55 rfl rfl ?_
          refine V_iald_n (i := v) dX11_likeness_56 (Or.inr ⟨rfl, Nat.le_of_ble_eq_true rfl⟩) rfl (by omega) (by decide) ?_
          refine V_top (y := nI (bgT.getD v 0)) (hW.2.2.2.2.2.2.2.2.2 _ (by omega)) ?_
          refine V_iload_n (i := 2) dX11_likeness_57 rfl rfl ?_
          refine V_iadd_n dX11_likeness_58 ?_
          refine V_cald_n (i := ((bgT.getD v 0) + i)) dX11_likeness_59 (Or.inr ⟨rfl, Nat.le_of_ble_eq_true rfl⟩) rfl (by omega) (by decide) ?_
          refine V_top (y := nI (leT.getD ((bgT.getD v 0) + i) 0)) (hW.2.2.2.2.2.2.2.2.1 _ (by omega)) ?_
          refine V_icmp_ne_n (tgt := 69) dX11_likeness_60 (by decide) (by omega) (by omega) (fun h60 => ?_) (fun h60 => ?_)
          · refine V_iload_n (i := 2) dX11_likeness_69 rfl rfl ?_
            refine V_iret dX11_likeness_70 rfl rfl ?_
            have el : lk l p (1120 + v) = i := lk_stop h20 hmt (by rw [hs2]; omega)
            exact ⟨by rw [el], rfl⟩
          · have hmt2 : mtc l p (tx (1120 + v)) (i + 1) = i + 1 := by rw [mtc_s, if_pos ⟨hmt, by omega⟩]
            refine V_iinc_n (b := (i + 1)) dX11_likeness_63 rfl (nI_add _ _) rfl rfl ?_
            refine V_goto (tgt := 18) dX11_likeness_66 (by decide) ?_
            exact ih (i + 1) (by omega) (by omega) hmt2
  refine V_iconst_n (v := 0) dX11_likeness_0 (by decide) ?_
  refine V_istore_n (i := 2) dX11_likeness_1 rfl (Nat.le_of_ble_eq_true rfl) rfl rfl ?_
  refine V_aload_n (i := 0) dX11_likeness_2 rfl rfl ?_
  refine V_getC (k := 26) (q := 63) dX11_likeness_3 (Or.inr ⟨rfl, Nat.le_of_ble_eq_true rfl⟩) rfl rfl rfl (Nat.le_of_ble_eq_true rfl) flRX11_60 ?_
  refine V_iload_n (i := 1) dX11_likeness_6 rfl rfl ?_
  refine V_iconst_n (v := 1) dX11_likeness_7 (by decide) ?_
  refine V_iadd_n dX11_likeness_8 ?_
  refine V_iald_n (i := (v + 1)) dX11_likeness_9 (Or.inr ⟨rfl, Nat.le_of_ble_eq_true rfl⟩) rfl (by omega) (by decide) ?_
  refine V_top (y := nI (bgT.getD (v + 1) 0)) (hW.2.2.2.2.2.2.2.2.2 _ (by omega)) ?_
  refine V_aload_n (i := 0) dX11_likeness_10 rfl rfl ?_
  refine V_getC (k := 26) (q := 63) dX11_likeness_11 (Or.inr ⟨rfl, Nat.le_of_ble_eq_true rfl⟩) rfl rfl rfl (Nat.le_of_ble_eq_true rfl) flRX11_60 ?_
  refine V_iload_n (i := 1) dX11_likeness_14 rfl rfl ?_
  refine V_iald_n (i := v) dX11_likeness_15 (Or.inr ⟨rfl, Nat.le_of_ble_eq_true rfl⟩) rfl (by omega) (by decide) ?_
  refine V_top (y := nI (bgT.getD v 0)) (hW.2.2.2.2.2.2.2.2.2 _ (by omega)) ?_
  refine V_isub_n dX11_likeness_16 (by omega) ?_
  refine V_top (y := nI (tx (1120 + v)).length) (by rw [hbg.2.1]) ?_
  refine V_istore_n (i := 3) dX11_likeness_17 rfl (Nat.le_of_ble_eq_true rfl) rfl rfl ?_
  exact lp ((tx (1120 + v)).length + 1) 0 (by omega) (by omega) rfl
end MMPAR
