/-! PATTERNS IN A STATE, THE SEA, THE HISTORY. Printed by wip/whole/gen/mk16.py. -/
section MSEA
/-- the first cell of a pattern that is taken, among its first i -/
def ftk (C : Nat → Nat) (p r c : Nat) : Nat → Option Nat
  | 0 => none
  | i + 1 => match ftk C p r c i with
    | some x => some x
    | none => if C (pcl p r c i) = 0 then none else some (pcl p r c i)
def fti (C : Nat → Nat) (p r c : Nat) : Int := match ftk C p r c (psz p) with
  | some x => (x : Int)
  | none => -1
theorem ftk_mono {C : Nat → Nat} {p r c x i : Nat} (h : ftk C p r c i = some x) : ∀ n, ftk C p r c (i + n) = some x := by
  intro n
  induction n with
  | zero => exact h
  | succ n ih => show (match ftk C p r c (i + n) with | some x => some x | none => _) = _; rw [ih]
theorem ftk_new {C : Nat → Nat} {p r c i : Nat} (h : ftk C p r c i = none) (hc : ¬ C (pcl p r c i) = 0) : ftk C p r c (i + 1) = some (pcl p r c i) := by
  show (match ftk C p r c i with | some x => some x | none => if C (pcl p r c i) = 0 then none else some (pcl p r c i)) = _
  rw [h]; exact if_neg hc
theorem ftk_old {C : Nat → Nat} {p r c i : Nat} (h : ftk C p r c i = none) (hc : C (pcl p r c i) = 0) : ftk C p r c (i + 1) = none := by
  show (match ftk C p r c i with | some x => some x | none => if C (pcl p r c i) = 0 then none else some (pcl p r c i)) = _
  rw [h]; exact if_pos hc
theorem fti_some {C : Nat → Nat} {p r c i : Nat} (hi : i < psz p) (h : ftk C p r c i = none) (hc : ¬ C (pcl p r c i) = 0) : fti C p r c = (pcl p r c i : Int) := by
  have h1 := ftk_mono (ftk_new h hc) (psz p - (i + 1))
  rw [show i + 1 + (psz p - (i + 1)) = psz p by omega] at h1
  unfold fti
  rw [h1]
theorem fti_none {C : Nat → Nat} {p r c : Nat} (h : ftk C p r c (psz p) = none) : fti C p r c = -1 := by unfold fti; rw [h]
def allin (p r c : Nat) : Bool := (List.range (psz p)).all (pin p r c)
theorem allin_iff {p r c : Nat} : allin p r c = true ↔ ∀ k, k < psz p → pin p r c k = true := by
  unfold allin
  rw [List.all_eq_true]
  exact ⟨fun h k hk => h k (List.mem_range.mpr hk), fun h k hk => h k (List.mem_range.mp hk)⟩
theorem pci_in {p r c k : Nat} (h : pin p r c k = true) : pci p r c k = (pcl p r c k : Int) ∧ pcl p r c k < 64 := by
  unfold pci
  rw [if_pos h]
  unfold pin at h
  have h1 := of_decide_eq_true h
  exact ⟨rfl, by unfold pcl; omega⟩
theorem pci_out {p r c k : Nat} (h : ¬ pin p r c k = true) : pci p r c k = -1 := by unfold pci; rw [if_neg h]
theorem pci_bd {p r c k : Nat} : -1 ≤ pci p r c k ∧ pci p r c k < 64 := by
  by_cases h : pin p r c k = true
  · have := pci_in h; omega
  · rw [pci_out h]; omega
theorem ftk_lt {C : Nat → Nat} {p r c : Nat} (h : ∀ k, k < psz p → pin p r c k = true) : ∀ i, i ≤ psz p → ∀ x, ftk C p r c i = some x → x < 64 := by
  intro i
  induction i with
  | zero => intro _ x hx; cases hx
  | succ i ih =>
    intro hi x hx
    cases e : ftk C p r c i with
    | some y =>
      have h1 := ftk_mono e 1
      rw [h1] at hx
      cases hx
      exact ih (by omega) _ e
    | none =>
      by_cases hc : C (pcl p r c i) = 0
      · rw [ftk_old e hc] at hx; cases hx
      · rw [ftk_new e hc] at hx
        cases hx
        exact (pci_in (h i (by omega))).2
theorem fti_bd {C : Nat → Nat} {p r c : Nat} (h : ∀ k, k < psz p → pin p r c k = true) : -1 ≤ fti C p r c ∧ fti C p r c < 64 := by
  cases e : ftk C p r c (psz p) with
  | some x =>
    have h1 := ftk_lt h (psz p) (Nat.le_refl _) x e
    have h2 : fti C p r c = (x : Int) := by unfold fti; rw [e]
    omega
  | none => have h2 := fti_none e; omega
def rsL (s : St) (p r c : Nat) : Nat := if allin p r c = true then (if fti s.1 p r c < 0 then 0 else 1) else 4
theorem rsL_lt {s : St} {p r c : Nat} : rsL s p r c < 5 := by unfold rsL; split <;> (try split) <;> omega
/-- a pattern's first i buttons put -/
def plt (s : St) (p r c q : Nat) : Nat → St
  | 0 => s
  | i + 1 => sCnt (sPut (plt s p r c q i) (pcl p r c i) (10 + 10 * (q - 97) + 0)) 1 (nI 1)
set_option maxRecDepth 100000 in
set_option maxHeartbeats 1000000 in
theorem c_firstTakenCell {a p r c : Nat} {s : St} {w : Wd} (hR : Repr w a s) (hp : p < 4) (hr : r < 8) (hc : c < 8) (hin : ∀ k, k < psz p → pin p r c k = true) : Ct 1 MX8_firstTakenCell 7 0 0 [.ref a, .int (nI r), .int (nI c), .ref (1010 + p)] w (Rt (some (.int (zI (fti s.1 p r c)))) w) := by
  refine Ct_of (by decide +kernel) rfl (Nat.le_of_ble_eq_true rfl) rfl ?_
  have hz := pt_len hp
  have lp : ∀ (fu i : Nat) , i ≤ psz p → psz p - i < fu → ftk s.1 p r c i = none → V 1 MX8_firstTakenCell 7 0 0 (Rt (some (.int (zI (fti s.1 p r c)))) w) (fun _ _ => True) 0 0 3 [some (.ref a), some (.int (nI r)), some (.int (nI c)), some (.ref (1010 + p)), some (.int (nI i)), none] [] w := by
    intro fu
    induction fu with
    | zero => intro i  h1 h2; omega
    | succ fu ih =>
      intro i  hib hfu hst
      have hz := pt_len hp
      refine V_iload dX8_firstTakenCell_3 rfl ?_
      refine V_aload_n (i := 3) dX8_firstTakenCell_5 rfl rfl ?_
      refine V_callVOF dX8_firstTakenCell_6 (c_psize (p := p) hp) okX5_size lkRX8_98 (pt_O hp) rfl rfl (Nat.le_of_ble_eq_true rfl) ⟨Nat.le_of_ble_eq_true rfl, Nat.le_of_ble_eq_true rfl⟩ rfl ?_
      refine V_icmp_ge_n (tgt := 40) dX8_firstTakenCell_9 (by decide) (by omega) (by omega) (fun h9 => ?_) (fun h9 => ?_)
      · refine V_iconst_z (v := -1) dX8_firstTakenCell_40 (by decide) ?_
        refine V_iret dX8_firstTakenCell_41 rfl rfl ?_
        obtain rfl : i = psz p := by omega
        exact ⟨by rw [fti_none hst], rfl⟩
      · have hpi := pci_in (hin i (by omega))
        have hkc := kc_lt (hR.2.1 (pcl p r c i) hpi.2)
        refine V_aload_n (i := 3) dX8_firstTakenCell_12 rfl rfl ?_
        refine V_iload_n (i := 1) dX8_firstTakenCell_13 rfl rfl ?_
        refine V_iload_n (i := 2) dX8_firstTakenCell_14 rfl rfl ?_
        refine V_iload dX8_firstTakenCell_15 rfl ?_
        refine V_callVOF dX8_firstTakenCell_17 (c_cellFrom (p := p) hp (r := r) (c := c) (k := i) (by omega) (by omega) (by omega)) okX5_cellFrom lkRX8_104 (pt_O hp) rfl rfl (Nat.le_of_ble_eq_true rfl) ⟨Nat.le_of_ble_eq_true rfl, Nat.le_of_ble_eq_true rfl⟩ rfl ?_
        refine V_top (y := nI (pcl p r c i)) (by rw [hpi.1]; exact (zI_n _).symm) ?_
        refine V_istore dX8_firstTakenCell_20 (Nat.le_of_ble_eq_true rfl) rfl rfl ?_
        refine V_aload_n (i := 0) dX8_firstTakenCell_22 rfl rfl ?_
        refine V_iload dX8_firstTakenCell_23 rfl ?_
        refine V_callVF dX8_firstTakenCell_25 (c_kindOf hR (k := (pcl p r c i)) (by omega)) okX8_kindOf lkRX8_53 hR.1.mk0 hR.1.sh.1 rfl rfl rfl (Nat.le_of_ble_eq_true rfl) ⟨Nat.le_of_ble_eq_true rfl, Nat.le_of_ble_eq_true rfl⟩ rfl ?_
        refine V_if_eq_n (tgt := 34) dX8_firstTakenCell_28 (by decide) (by omega) (fun h28 => ?_) (fun h28 => ?_)
        · have hk8 := (kc_none (hR.2.1 (pcl p r c i) (by omega))).mp h28
          refine V_iinc_n (b := (i + 1)) dX8_firstTakenCell_34 rfl (nI_add _ _) rfl rfl ?_
          refine V_goto (tgt := 3) dX8_firstTakenCell_37 (by decide) ?_
          exact (ih (i + 1) (by omega) (by omega) (ftk_old hst hk8)).sub (by repeat' (first | exact trivial | exact rfl | constructor))
        · refine V_iload dX8_firstTakenCell_31 rfl ?_
          refine V_iret dX8_firstTakenCell_33 rfl rfl ?_
          have e9 := fti_some (by omega) hst (fun q => h28 (by rw [q]; rfl))
          exact ⟨by rw [e9]; exact congrArg (fun z => (Sum.inl (some (Value.int z)) : Out)) (zI_n _), rfl⟩
  refine V_iconst_n (v := 0) dX8_firstTakenCell_0 (by decide) ?_
  refine V_istore dX8_firstTakenCell_1 (Nat.le_of_ble_eq_true rfl) rfl rfl ?_
  exact (lp (psz p + 1) 0 (by omega) (by omega) rfl).sub (by repeat' (first | exact trivial | exact rfl | constructor))
set_option maxRecDepth 100000 in
set_option maxHeartbeats 1000000 in
theorem c_reasonAgainstPlanting {a p r c : Nat} {s : St} {w : Wd} (hR : Repr w a s) (hp : p < 4) (hr : r < 8) (hc : c < 8) : Ct 1 MX8_reasonAgainstPlanting 8 0 0 [.ref a, .int (nI r), .int (nI c), .ref (1010 + p)] w (Rt (some (.int (nI (rsL s p r c)))) w) := by
  refine Ct_of (by decide +kernel) rfl (Nat.le_of_ble_eq_true rfl) rfl ?_
  have hz := pt_len hp
  have lp : ∀ (fu i : Nat) , i ≤ psz p → psz p - i < fu → (∀ k, k < i → pin p r c k = true) → V 1 MX8_reasonAgainstPlanting 8 0 0 (Rt (some (.int (nI (rsL s p r c)))) w) (fun _ _ => True) 0 0 3 [some (.ref a), some (.int (nI r)), some (.int (nI c)), some (.ref (1010 + p)), some (.int (nI i))] [] w := by
    intro fu
    induction fu with
    | zero => intro i  h1 h2; omega
    | succ fu ih =>
      intro i  hib hfu hst
      have hz := pt_len hp
      refine V_iload dX8_reasonAgainstPlanting_3 rfl ?_
      refine V_aload_n (i := 3) dX8_reasonAgainstPlanting_5 rfl rfl ?_
      refine V_callVOF dX8_reasonAgainstPlanting_6 (c_psize (p := p) hp) okX5_size lkRX8_98 (pt_O hp) rfl rfl (Nat.le_of_ble_eq_true rfl) ⟨Nat.le_of_ble_eq_true rfl, Nat.le_of_ble_eq_true rfl⟩ rfl ?_
      refine V_icmp_ge_n (tgt := 31) dX8_reasonAgainstPlanting_9 (by decide) (by omega) (by omega) (fun h9 => ?_) (fun h9 => ?_)
      · have hin : ∀ k, k < psz p → pin p r c k = true := fun k hk => hst k (by omega)
        have hb := fti_bd (C := s.1) hin
        refine V_aload_n (i := 0) dX8_reasonAgainstPlanting_31 rfl rfl ?_
        refine V_iload_n (i := 1) dX8_reasonAgainstPlanting_32 rfl rfl ?_
        refine V_iload_n (i := 2) dX8_reasonAgainstPlanting_33 rfl rfl ?_
        refine V_aload_n (i := 3) dX8_reasonAgainstPlanting_34 rfl rfl ?_
        refine V_callVF dX8_reasonAgainstPlanting_35 (c_firstTakenCell hR (p := p) (r := r) (c := c) hp (by omega) (by omega) (fun k hk => hst k (by omega))) okX8_firstTakenCell lkRX8_108 hR.1.mk0 hR.1.sh.1 rfl rfl rfl (Nat.le_of_ble_eq_true rfl) ⟨Nat.le_of_ble_eq_true rfl, Nat.le_of_ble_eq_true rfl⟩ rfl ?_
        refine V_if_ge_z (tgt := 45) dX8_reasonAgainstPlanting_38 (by decide) rfl (by omega) (by omega) (fun h38 => ?_) (fun h38 => ?_)
        · refine V_iconst_n (v := 1) dX8_reasonAgainstPlanting_45 (by decide) ?_
          refine V_iret dX8_reasonAgainstPlanting_46 rfl rfl ?_
          exact ⟨by unfold rsL; rw [if_pos (allin_iff.mpr hin)]; grind, rfl⟩
        · refine V_iconst_n (v := 0) dX8_reasonAgainstPlanting_41 (by decide) ?_
          refine V_goto (tgt := 46) dX8_reasonAgainstPlanting_42 (by decide) ?_
          refine V_iret dX8_reasonAgainstPlanting_46 rfl rfl ?_
          exact ⟨by unfold rsL; rw [if_pos (allin_iff.mpr hin)]; grind, rfl⟩
      · refine V_aload_n (i := 3) dX8_reasonAgainstPlanting_12 rfl rfl ?_
        refine V_iload_n (i := 1) dX8_reasonAgainstPlanting_13 rfl rfl ?_
        refine V_iload_n (i := 2) dX8_reasonAgainstPlanting_14 rfl rfl ?_
        refine V_iload dX8_reasonAgainstPlanting_15 rfl ?_
        refine V_callVOF dX8_reasonAgainstPlanting_17 (c_cellFrom (p := p) hp (r := r) (c := c) (k := i) (by omega) (by omega) (by omega)) okX5_cellFrom lkRX8_104 (pt_O hp) rfl rfl (Nat.le_of_ble_eq_true rfl) ⟨Nat.le_of_ble_eq_true rfl, Nat.le_of_ble_eq_true rfl⟩ rfl ?_
        have hb := @pci_bd p r c i
        refine V_if_ge_z (tgt := 25) dX8_reasonAgainstPlanting_20 (by decide) rfl (by omega) (by omega) (fun h20 => ?_) (fun h20 => ?_)
        · refine V_iinc_n (b := (i + 1)) dX8_reasonAgainstPlanting_25 rfl (nI_add _ _) rfl rfl ?_
          refine V_goto (tgt := 3) dX8_reasonAgainstPlanting_28 (by decide) ?_
          exact ih (i + 1) (by omega) (by omega) (fun k hk => (Decidable.em (k = i)).elim (fun e => by subst e; exact Decidable.by_contra fun q => by have := pci_out q; omega) (fun e => hst k (by omega)))
        · refine V_iconst_n (v := 4) dX8_reasonAgainstPlanting_23 (by decide) ?_
          refine V_iret dX8_reasonAgainstPlanting_24 rfl rfl ?_
          exact ⟨by unfold rsL; rw [if_neg (fun q => by have q1 := (pci_in (allin_iff.mp q i (by omega))).1; omega)], rfl⟩
  refine V_iconst_n (v := 0) dX8_reasonAgainstPlanting_0 (by decide) ?_
  refine V_istore dX8_reasonAgainstPlanting_1 (Nat.le_of_ble_eq_true rfl) rfl rfl ?_
  exact lp (psz p + 1) 0 (by omega) (by omega) (fun k hk => by omega)
set_option maxRecDepth 100000 in
set_option maxHeartbeats 1000000 in
theorem c_putPattern {a p r c q : Nat} {s : St} {w : Wd} (hR : Repr w a s) (hp : p < 4) (hr : r < 8) (hc : c < 8) (hq : 97 ≤ q ∧ q ≤ 100) (hin : ∀ k, k < psz p → pin p r c k = true) : Ct 1 MX8_putPattern 7 0 0 [.ref a, .int (nI r), .int (nI c), .ref (1010 + p), .int (nI q)] w (Mt none fun w1 => Repr w1 a (plt s p r c q (psz p)) ∧ FrS a w w1) := by
  refine Ct_of (by decide +kernel) rfl (Nat.le_of_ble_eq_true rfl) rfl ?_
  have hz := pt_len hp
  have lp : ∀ (fu i : Nat) (w1 : Wd), i ≤ psz p → psz p - i < fu → Repr w1 a (plt s p r c q i) → FrS a w w1 → V 1 MX8_putPattern 7 0 0 (Mt none fun w1 => Repr w1 a (plt s p r c q (psz p)) ∧ FrS a w w1) (fun _ _ => True) 0 0 3 [some (.ref a), some (.int (nI r)), some (.int (nI c)), some (.ref (1010 + p)), some (.int (nI q)), some (.int (nI i))] [] w1 := by
    intro fu
    induction fu with
    | zero => intro i w1 h1 h2; omega
    | succ fu ih =>
      intro i w1 hib hfu hR1 hF1
      have hz := pt_len hp
      refine V_iload dX8_putPattern_3 rfl ?_
      refine V_aload_n (i := 3) dX8_putPattern_5 rfl rfl ?_
      refine V_callVOF dX8_putPattern_6 (c_psize (p := p) hp) okX5_size lkRX8_98 (pt_O hp) rfl rfl (Nat.le_of_ble_eq_true rfl) ⟨Nat.le_of_ble_eq_true rfl, Nat.le_of_ble_eq_true rfl⟩ rfl ?_
      refine V_icmp_ge_n (tgt := 32) dX8_putPattern_9 (by decide) (by omega) (by omega) (fun h9 => ?_) (fun h9 => ?_)
      · refine V_vret dX8_putPattern_32 rfl ?_
        obtain rfl : i = psz p := by omega
        exact ⟨rfl, hR1, hF1⟩
      · have hpi := pci_in (hin i (by omega))
        refine V_aload_n (i := 0) dX8_putPattern_12 rfl rfl ?_
        refine V_aload_n (i := 3) dX8_putPattern_13 rfl rfl ?_
        refine V_iload_n (i := 1) dX8_putPattern_14 rfl rfl ?_
        refine V_iload_n (i := 2) dX8_putPattern_15 rfl rfl ?_
        refine V_iload dX8_putPattern_16 rfl ?_
        refine V_callVOF dX8_putPattern_18 (c_cellFrom (p := p) hp (r := r) (c := c) (k := i) (by omega) (by omega) (by omega)) okX5_cellFrom lkRX8_104 (pt_O hp) rfl rfl (Nat.le_of_ble_eq_true rfl) ⟨Nat.le_of_ble_eq_true rfl, Nat.le_of_ble_eq_true rfl⟩ rfl ?_
        refine V_top (y := nI (pcl p r c i)) (by rw [hpi.1]; exact (zI_n _).symm) ?_
        refine V_iload dX8_putPattern_21 rfl ?_
        refine V_callVM dX8_putPattern_23 (c_putPlaced hR1 (k := (pcl p r c i)) (q := q) (by omega) (by omega)) okX8_putPlaced lkRX8_116 hR.1.mk0 hR.1.sh.1 rfl rfl rfl (Nat.le_of_ble_eq_true rfl) ⟨Nat.le_of_ble_eq_true rfl, Nat.le_of_ble_eq_true rfl⟩ rfl ?_
        intro u1 hu1
        refine V_iinc_n (b := (i + 1)) dX8_putPattern_26 rfl (nI_add _ _) rfl rfl ?_
        refine V_goto (tgt := 3) dX8_putPattern_29 (by decide) ?_
        exact ih (i + 1) u1 (by omega) (by omega) hu1.1 (hF1.trans hu1.2)
  refine V_iconst_n (v := 0) dX8_putPattern_0 (by decide) ?_
  refine V_istore dX8_putPattern_1 (Nat.le_of_ble_eq_true rfl) rfl rfl ?_
  exact lp (psz p + 1) 0 w (by omega) (by omega) hR Fr.nil
theorem tid_cells {s : St} {i k v : Nat} (hv : v = nextc s i) : up (tidP s i).1 i v k = (tidP s (i + 1)).1 k := by
  subst hv
  unfold up tidP
  simp only []
  by_cases e : k = i
  · subst e; rw [if_pos rfl, if_pos (by omega)]
  · rw [if_neg e]
    by_cases h : k < i
    · rw [if_pos h, if_pos (by omega)]
    · rw [if_neg h, if_neg (by omega)]
theorem tid_cnt {s : St} {i j : Nat} : (tidP s (i + 1)).2.2 j = (tidP s i).2.2 j + nI (if j = 3 then tBorn s i else if j = 4 then tPale s i else if j = 5 then tWash s i else 0) := by
  unfold tidP
  simp only []
  by_cases h3 : j = 3
  · rw [if_pos h3, if_pos h3, if_pos h3]
    show _ + nI (sm (tBorn s) i + tBorn s i) = _
    rw [← nI_add, Int32.add_assoc]
  · rw [if_neg h3, if_neg h3, if_neg h3]
    by_cases h4 : j = 4
    · rw [if_pos h4, if_pos h4, if_pos h4]
      show _ + nI (sm (tPale s) i + tPale s i) = _
      rw [← nI_add, Int32.add_assoc]
    · rw [if_neg h4, if_neg h4, if_neg h4]
      by_cases h5 : j = 5
      · rw [if_pos h5, if_pos h5, if_pos h5]
        show _ + nI (sm (tWash s) i + tWash s i) = _
        rw [← nI_add, Int32.add_assoc]
      · rw [if_neg h5, if_neg h5, if_neg h5, nI_0, Int32.add_zero]
theorem tid_go {s : St} {i v cj : Nat} (hv : v = nextc s i) (h : ∀ j, (if j = 3 then tBorn s i else if j = 4 then tPale s i else if j = 5 then tWash s i else 0) = if j = cj then 1 else 0) : sCnt (sPut (tidP s i) i v) cj (nI 1) = tidP s (i + 1) := by
  refine Prod.ext (funext fun k => tid_cells hv) (Prod.ext rfl (funext fun j => ?_))
  rw [tid_cnt, h j]
  show bump (tidP s i).2.2 cj (nI 1) j = _
  unfold bump
  by_cases e : j = cj
  · rw [if_pos e, if_pos e]
  · rw [if_neg e, if_neg e, nI_0, Int32.add_zero]
theorem tid_go0 {s : St} {i v : Nat} (hv : v = nextc s i) (h : tBorn s i = 0 ∧ tPale s i = 0 ∧ tWash s i = 0) : sPut (tidP s i) i v = tidP s (i + 1) := by
  refine Prod.ext (funext fun k => tid_cells hv) (Prod.ext rfl (funext fun j => ?_))
  rw [tid_cnt, h.1, h.2.1, h.2.2, show (if j = 3 then 0 else if j = 4 then 0 else if j = 5 then 0 else 0 : Nat) = 0 by split <;> (try split) <;> (try split) <;> rfl, nI_0, Int32.add_zero]
  rfl
theorem tidP_0 {s : St} : tidP s 0 = s := Prod.ext (funext fun k => by unfold tidP; simp only []; rw [if_neg (by omega)]) (Prod.ext rfl (funext fun j => by unfold tidP; show (if j = 3 then s.2.2 j + nI 0 else if j = 4 then s.2.2 j + nI 0 else if j = 5 then s.2.2 j + nI 0 else s.2.2 j) = _; rw [nI_0, Int32.add_zero]; split <;> (try split) <;> (try split) <;> rfl))
theorem tid_at {s : St} {i : Nat} : (tidP s i).1 i = s.1 i := by unfold tidP; simp only []; rw [if_neg (by omega)]
theorem tid_same {s : St} {i : Nat} (hv : s.1 i = nextc s i) (h : tBorn s i = 0 ∧ tPale s i = 0 ∧ tWash s i = 0) : tidP s i = tidP s (i + 1) := by
  rw [← tid_go0 hv h]
  refine Prod.ext (funext fun k => ?_) rfl
  show _ = up (tidP s i).1 i (s.1 i) k
  unfold up
  by_cases e : k = i
  · rw [if_pos e, e, tid_at]
  · rw [if_neg e]
theorem tid_pale {s : St} {i : Nat} (h : 10 ≤ s.1 i) (hc : chg s i = true) : sCnt (sPut (tidP s i) i 1) 4 (nI 1) = tidP s (i + 1) := tid_go (by unfold nextc; rw [if_neg (by omega), if_neg (by omega), if_pos hc]) (fun j => by
  have h3 : tBorn s i = 0 := if_neg (by omega)
  have h4 : tPale s i = 1 := if_pos ⟨h, hc⟩
  have h5 : tWash s i = 0 := if_neg (by omega)
  rw [h3, h4, h5]; grind)
theorem tid_wash {s : St} {i : Nat} (h : s.1 i ≠ 0 ∧ s.1 i < 10) (hc : chg s i = true) : sCnt (sPut (tidP s i) i 0) 5 (nI 1) = tidP s (i + 1) := tid_go (by unfold nextc; rw [if_neg h.1, if_pos h.2, if_pos hc]) (fun j => by
  have h3 : tBorn s i = 0 := if_neg (by omega)
  have h4 : tPale s i = 0 := if_neg (by omega)
  have h5 : tWash s i = 1 := if_pos ⟨h, hc⟩
  rw [h3, h4, h5]; grind)
theorem tid_born {s : St} {i : Nat} (h : s.1 i = 0) (hc : chg s i = true) : sCnt (sPut (tidP s i) i (10 + 10 * (most s.1 i - 97) + 0)) 3 (nI 1) = tidP s (i + 1) := tid_go (by unfold nextc; rw [if_pos h, if_pos hc]; rfl) (fun j => by
  have h3 : tBorn s i = 1 := if_pos ⟨h, hc⟩
  have h4 : tPale s i = 0 := if_neg (by omega)
  have h5 : tWash s i = 0 := if_neg (by omega)
  rw [h3, h4, h5]; grind)
theorem tid_old {s : St} {i : Nat} (h : 10 ≤ s.1 i) (hc : ¬ chg s i = true) : sPut (tidP s i) i (older ((tidP s i).1 i)) = tidP s (i + 1) := tid_go0 (by rw [tid_at]; unfold nextc; rw [if_neg (by omega), if_neg (by omega), if_neg hc]) ⟨if_neg (fun q => hc q.2), if_neg (fun q => hc q.2), if_neg (fun q => hc q.2)⟩
theorem tid_none {s : St} {i : Nat} (h : s.1 i = 0 ∨ s.1 i = 1) (hc : ¬ chg s i = true) : tidP s i = tidP s (i + 1) := tid_same (by
  unfold nextc
  rcases h with h | h
  · rw [h, if_pos rfl, if_neg hc]
  · rw [h, if_neg (by decide), if_pos (by decide), if_neg hc]) ⟨if_neg (fun q => hc q.2), if_neg (fun q => hc q.2), if_neg (fun q => hc q.2)⟩
theorem nb_col {C : Nat → Nat} {k i j : Nat} (hk : k < 64) (h : ∀ k, k < 64 → okc (C k)) : nb C k 0 i j = nb C k 97 i j + nb C k 98 i j + nb C k 99 i j + nb C k 100 i j := by
  by_cases hin : 1 ≤ k / 8 + i ∧ k / 8 + i ≤ 8 ∧ 1 ≤ k % 8 + j ∧ k % 8 + j ≤ 8
  · by_cases h2 : i = 1 ∧ j = 1
    · rw [nb_0 (Or.inr h2), nb_0 (Or.inr h2), nb_0 (Or.inr h2), nb_0 (Or.inr h2), nb_0 (Or.inr h2)]
    · have hok := h (8 * (k / 8 + i - 1) + (k % 8 + j - 1)) (by omega)
      have hl := kc_live hok
      rw [nb_in hin h2 rfl, nb_in hin h2 rfl, nb_in hin h2 rfl, nb_in hin h2 rfl, nb_in hin h2 rfl]
      grind
  · rw [nb_0 (Or.inl hin), nb_0 (Or.inl hin), nb_0 (Or.inl hin), nb_0 (Or.inl hin), nb_0 (Or.inl hin)]
theorem near_col {C : Nat → Nat} {k : Nat} (hk : k < 64) (h : ∀ k, k < 64 → okc (C k)) : near C k 0 = near C k 97 + near C k 98 + near C k 99 + near C k 100 := by
  show 0 + (0 + nb C k 0 0 0 + nb C k 0 0 1 + nb C k 0 0 2) + (0 + nb C k 0 1 0 + nb C k 0 1 1 + nb C k 0 1 2) + (0 + nb C k 0 2 0 + nb C k 0 2 1 + nb C k 0 2 2) = (0 + (0 + nb C k 97 0 0 + nb C k 97 0 1 + nb C k 97 0 2) + (0 + nb C k 97 1 0 + nb C k 97 1 1 + nb C k 97 1 2) + (0 + nb C k 97 2 0 + nb C k 97 2 1 + nb C k 97 2 2)) + (0 + (0 + nb C k 98 0 0 + nb C k 98 0 1 + nb C k 98 0 2) + (0 + nb C k 98 1 0 + nb C k 98 1 1 + nb C k 98 1 2) + (0 + nb C k 98 2 0 + nb C k 98 2 1 + nb C k 98 2 2)) + (0 + (0 + nb C k 99 0 0 + nb C k 99 0 1 + nb C k 99 0 2) + (0 + nb C k 99 1 0 + nb C k 99 1 1 + nb C k 99 1 2) + (0 + nb C k 99 2 0 + nb C k 99 2 1 + nb C k 99 2 2)) + (0 + (0 + nb C k 100 0 0 + nb C k 100 0 1 + nb C k 100 0 2) + (0 + nb C k 100 1 0 + nb C k 100 1 1 + nb C k 100 1 2) + (0 + nb C k 100 2 0 + nb C k 100 2 1 + nb C k 100 2 2))
  have e := fun i j => nb_col (i := i) (j := j) hk h
  have e00 := e 0 0; have e01 := e 0 1; have e02 := e 0 2; have e10 := e 1 0; have e11 := e 1 1; have e12 := e 1 2; have e20 := e 2 0; have e21 := e 2 1; have e22 := e 2 2
  omega
theorem mostN_s {C : Nat → Nat} {k i : Nat} : mostN C k (i + 1) = if (mostN C k i).1 < near C k (97 + i) then (near C k (97 + i), 97 + i) else mostN C k i := rfl
theorem mostN_z {C : Nat → Nat} {k : Nat} : ∀ n, (mostN C k n).2 = 0 → (mostN C k n).1 = 0 := by
  intro n
  induction n with
  | zero => intro _; rfl
  | succ n ih =>
    intro hq
    rw [mostN_s] at hq ⊢
    by_cases h : (mostN C k n).1 < near C k (97 + n)
    · rw [if_pos h] at hq
      exact absurd hq (by show ¬ 97 + n = 0; omega)
    · rw [if_neg h] at hq ⊢
      exact ih hq
theorem mostN_pos {C : Nat → Nat} {k : Nat} : ∀ i, (∃ j, j < i ∧ 0 < near C k (97 + j)) → 97 ≤ (mostN C k i).2 ∧ 0 < (mostN C k i).1 := by
  intro i
  induction i with
  | zero => rintro ⟨j, hj, -⟩; omega
  | succ i ih =>
    rintro ⟨j, hj, h⟩
    rw [mostN_s]
    by_cases h2 : (mostN C k i).1 < near C k (97 + i)
    · rw [if_pos h2]
      exact ⟨Nat.le_add_right _ _, Nat.lt_of_le_of_lt (Nat.zero_le _) h2⟩
    · rw [if_neg h2]
      by_cases e : j = i
      · subst e
        have h3 := mostN_le (C := C) (k := k) j
        have h4 := mostN_z (C := C) (k := k) j
        refine ⟨?_, by omega⟩
        rcases h3.2 with q | q
        · have := h4 q; omega
        · exact q.1
      · exact ih ⟨j, by omega, h⟩
theorem most_ok {C : Nat → Nat} {k : Nat} (hk : k < 64) (h : ∀ k, k < 64 → okc (C k)) (hn : 0 < near C k 0) : 97 ≤ most C k ∧ most C k ≤ 100 := by
  have h1 := near_col hk h
  have h2 : ∃ j, j < 4 ∧ 0 < near C k (97 + j) := by
    by_cases a0 : 0 < near C k 97
    · exact ⟨0, by omega, a0⟩
    · by_cases a1 : 0 < near C k 98
      · exact ⟨1, by omega, a1⟩
      · by_cases a2 : 0 < near C k 99
        · exact ⟨2, by omega, a2⟩
        · exact ⟨3, by omega, show 0 < near C k 100 by omega⟩
  have h3 := mostN_pos 4 h2
  have h4 := mostN_le (C := C) (k := k) 4
  unfold most
  omega
theorem chg_born {s : St} {k : Nat} (h : s.1 k = 0) (hc : chg s k = true) : 0 < near s.1 k 0 := by
  unfold chg at hc
  rw [if_pos h] at hc
  unfold bears at hc
  grind
set_option maxRecDepth 100000 in
set_option maxHeartbeats 1000000 in
theorem c_pass {a : Nat} {s : St} {w : Wd} (hR : Repr w a s) (hne : a ≠ 37) : Ct 1 MX7_pass 6 0 0 [.ref 36, .ref a] w (Mt none fun w1 => Repr w1 a (tide s) ∧ Fr (fun b => InSt a b ∨ InSt 37 b) w w1) := by
  refine Ct_of (by decide +kernel) rfl (Nat.le_of_ble_eq_true rfl) rfl ?_
  have lp : ∀ (fu i : Nat) (w1 : Wd), i ≤ 64 → 64 - i < fu → Repr w1 37 s → Repr w1 a (tidP s i) → Fr (fun b => InSt a b ∨ InSt 37 b) w w1 → V 1 MX7_pass 6 0 0 (Mt none fun w1 => Repr w1 a (tide s) ∧ Fr (fun b => InSt a b ∨ InSt 37 b) w w1) (fun _ _ => True) 0 0 10 [some (.ref 36), some (.ref a), some (.int (nI i)), none, none] [] w1 := by
    intro fu
    induction fu with
    | zero => intro i w1 h1 h2; omega
    | succ fu ih =>
      intro i w1 hib hfu hA1 hR1 hF1
      have hti := @tid_at s i
      refine V_iload_n (i := 2) dX7_pass_10 rfl rfl ?_
      refine V_bipush_n (v := 64) dX7_pass_11 (by decide) ?_
      refine V_icmp_ge_n (tgt := 113) dX7_pass_13 (by decide) (by omega) (by omega) (fun h13 => ?_) (fun h13 => ?_)
      · refine V_aload_n (i := 1) dX7_pass_113 rfl rfl ?_
        refine V_dup dX7_pass_114 rfl ?_
        refine V_getI (k := 3) dX7_pass_115 hR.1.mk0 hR.1.sh.1 rfl rfl (Nat.le_of_ble_eq_true rfl) flRX7_58 ?_
        refine V_iconst_n (v := 1) dX7_pass_118 (by decide) ?_
        refine V_iadd dX7_pass_119 ?_
        refine V_putI (k := 3) (ty := .int) dX7_pass_120 hR.1.mk0 hR.1.sh.1 rfl rfl (Nat.le_of_ble_eq_true rfl) flRX7_58 rfl (by decide +kernel) rfl rfl ?_
        refine V_vret dX7_pass_123 rfl ?_
        obtain rfl : i = 64 := by omega
        exact ⟨rfl, hR1.cnt (j := 0) (by decide) (congrArg (· + nI 1) (hR1.2.2.2.2.2.2 0 (by decide))), hF1.i1 (Or.inl (by unfold InSt; omega))⟩
      · have hk9 := kc_lt (hR.2.1 i (by omega))
        have hk7 := kc_live (hR.2.1 i (by omega))
        have hk6 := kc_none (hR.2.1 i (by omega))
        have hk5 := kc_pale (hR.2.1 i (by omega))
        have hok := hR.2.1 i (by omega)
        unfold okc at hok
        refine V_aload_n (i := 0) dX7_pass_16 rfl rfl ?_
        refine V_getC (k := 0) (q := 37) dX7_pass_17 (Or.inr ⟨rfl, Nat.le_of_ble_eq_true rfl⟩) rfl rfl rfl (Nat.le_of_ble_eq_true rfl) flRX7_12 ?_
        refine V_iload_n (i := 2) dX7_pass_20 rfl rfl ?_
        refine V_callVF dX7_pass_21 (c_kindOf hA1 (k := i) (by omega)) okX8_kindOf lkRX7_29 (Or.inr ⟨rfl, Nat.le_of_ble_eq_true rfl⟩) rfl rfl rfl rfl (Nat.le_of_ble_eq_true rfl) ⟨Nat.le_of_ble_eq_true rfl, Nat.le_of_ble_eq_true rfl⟩ rfl ?_
        refine V_istore_n (i := 3) dX7_pass_24 rfl (Nat.le_of_ble_eq_true rfl) rfl rfl ?_
        refine V_aload_n (i := 0) dX7_pass_25 rfl rfl ?_
        refine V_getC (k := 0) (q := 37) dX7_pass_26 (Or.inr ⟨rfl, Nat.le_of_ble_eq_true rfl⟩) rfl rfl rfl (Nat.le_of_ble_eq_true rfl) flRX7_12 ?_
        refine V_iload_n (i := 2) dX7_pass_29 rfl rfl ?_
        refine V_callVF dX7_pass_30 (c_changesInTide hA1 (k := i) (by omega)) okX8_changesInTide lkRX7_33 (Or.inr ⟨rfl, Nat.le_of_ble_eq_true rfl⟩) rfl rfl rfl rfl (Nat.le_of_ble_eq_true rfl) ⟨Nat.le_of_ble_eq_true rfl, Nat.le_of_ble_eq_true rfl⟩ rfl ?_
        refine V_istore dX7_pass_33 (Nat.le_of_ble_eq_true rfl) rfl rfl ?_
        refine V_iload_n (i := 3) dX7_pass_35 rfl rfl ?_
        refine V_callSNF (host := "ButtonReef") dX7_pass_36 (c_isColour (q := (kc (s.1 i))) (by omega)) okX10_isColour (by decide +kernel) rfl rfl (Nat.le_of_ble_eq_true rfl) ⟨Nat.le_of_ble_eq_true rfl, Nat.le_of_ble_eq_true rfl⟩ rfl ?_
        refine V_if_eq_n (tgt := 55) dX7_pass_39 (by decide) (Nat.lt_of_lt_of_le ite_le (by decide)) (fun hc0 => ?_) (fun hc0 => ?_)
        · have hnl := ite_f hc0
          refine V_iload_n (i := 3) dX7_pass_55 rfl rfl ?_
          refine V_callSNF (host := "ButtonReef") dX7_pass_56 (c_isColour (q := (kc (s.1 i))) (by omega)) okX10_isColour (by decide +kernel) rfl rfl (Nat.le_of_ble_eq_true rfl) ⟨Nat.le_of_ble_eq_true rfl, Nat.le_of_ble_eq_true rfl⟩ rfl ?_
          refine V_if_eq_n (tgt := 70) dX7_pass_59 (by decide) (Nat.lt_of_lt_of_le ite_le (by decide)) (fun hc1 => ?_) (fun hc1 => by exfalso; omega)
          refine V_iload_n (i := 3) dX7_pass_70 rfl rfl ?_
          refine V_bipush_n (v := 35) dX7_pass_71 (by decide) ?_
          refine V_icmp_ne_n (tgt := 89) dX7_pass_73 (by decide) (by omega) (by omega) (fun h73 => ?_) (fun h73 => ?_)
          · refine V_iload dX7_pass_89 rfl ?_
            refine V_if_eq_n (tgt := 107) dX7_pass_91 (by decide) (Nat.lt_of_lt_of_le ite_le (by decide)) (fun hg2 => ?_) (fun hg2 => ?_)
            · have hch : ¬ chg s i = true := ite_f hg2
              refine V_iinc_n (b := (i + 1)) dX7_pass_107 rfl (nI_add _ _) rfl rfl ?_
              refine V_goto (tgt := 10) dX7_pass_110 (by decide) ?_
              exact (ih (i + 1) w1 (by omega) (by omega) hA1 (tid_none (s := s) (i := i) (by omega) hch ▸ hR1) hF1).sub (by repeat' (first | exact trivial | exact rfl | constructor))
            · have hch : chg s i = true := ite_t hg2
              have hmo := most_ok (by omega) hR.2.1 (chg_born (by omega) hch)
              refine V_aload_n (i := 1) dX7_pass_94 rfl rfl ?_
              refine V_iload_n (i := 2) dX7_pass_95 rfl rfl ?_
              refine V_aload_n (i := 0) dX7_pass_96 rfl rfl ?_
              refine V_getC (k := 0) (q := 37) dX7_pass_97 (Or.inr ⟨rfl, Nat.le_of_ble_eq_true rfl⟩) rfl rfl rfl (Nat.le_of_ble_eq_true rfl) flRX7_12 ?_
              refine V_iload_n (i := 2) dX7_pass_100 rfl rfl ?_
              refine V_callVF dX7_pass_101 (c_mostColourAround hA1 (k := i) (by omega)) okX8_mostColourAround lkRX7_51 (Or.inr ⟨rfl, Nat.le_of_ble_eq_true rfl⟩) rfl rfl rfl rfl (Nat.le_of_ble_eq_true rfl) ⟨Nat.le_of_ble_eq_true rfl, Nat.le_of_ble_eq_true rfl⟩ rfl ?_
              refine V_callVM dX7_pass_104 (c_putBorn hR1 (k := i) (q := (most s.1 i)) (by omega) (by omega)) okX8_putBorn lkRX7_54 hR.1.mk0 hR.1.sh.1 rfl rfl rfl (Nat.le_of_ble_eq_true rfl) ⟨Nat.le_of_ble_eq_true rfl, Nat.le_of_ble_eq_true rfl⟩ rfl ?_
              intro u1 hu1
              have hK1 := hA1.keepS hR.1 (Ne.symm hne) hu1.2
              refine V_iinc_n (b := (i + 1)) dX7_pass_107 rfl (nI_add _ _) rfl rfl ?_
              refine V_goto (tgt := 10) dX7_pass_110 (by decide) ?_
              exact (ih (i + 1) u1 (by omega) (by omega) hK1 ((tid_born (by omega) hch) ▸ hu1.1) (hF1.trans (hu1.2.mono fun b hb => Or.inl hb))).sub (by repeat' (first | exact trivial | exact rfl | constructor))
          · refine V_iload dX7_pass_76 rfl ?_
            refine V_if_eq_n (tgt := 89) dX7_pass_78 (by decide) (Nat.lt_of_lt_of_le ite_le (by decide)) (fun hg1 => ?_) (fun hg1 => ?_)
            · have hch : ¬ chg s i = true := ite_f hg1
              refine V_iload dX7_pass_89 rfl ?_
              refine V_if_eq_n (tgt := 107) dX7_pass_91 (by decide) (Nat.lt_of_lt_of_le ite_le (by decide)) (fun hg2 => ?_) (fun hg2 => by exfalso; omega)
              refine V_iinc_n (b := (i + 1)) dX7_pass_107 rfl (nI_add _ _) rfl rfl ?_
              refine V_goto (tgt := 10) dX7_pass_110 (by decide) ?_
              exact (ih (i + 1) w1 (by omega) (by omega) hA1 (tid_none (s := s) (i := i) (by omega) hch ▸ hR1) hF1).sub (by repeat' (first | exact trivial | exact rfl | constructor))
            · have hch : chg s i = true := ite_t hg1
              refine V_aload_n (i := 1) dX7_pass_81 rfl rfl ?_
              refine V_iload_n (i := 2) dX7_pass_82 rfl rfl ?_
              refine V_callVM dX7_pass_83 (c_takeWashed hR1 (k := i) (by omega)) okX8_takeWashed lkRX7_48 hR.1.mk0 hR.1.sh.1 rfl rfl rfl (Nat.le_of_ble_eq_true rfl) ⟨Nat.le_of_ble_eq_true rfl, Nat.le_of_ble_eq_true rfl⟩ rfl ?_
              intro u1 hu1
              have hK2 := hA1.keepS hR.1 (Ne.symm hne) hu1.2
              refine V_goto (tgt := 107) dX7_pass_86 (by decide) ?_
              refine V_iinc_n (b := (i + 1)) dX7_pass_107 rfl (nI_add _ _) rfl rfl ?_
              refine V_goto (tgt := 10) dX7_pass_110 (by decide) ?_
              exact (ih (i + 1) u1 (by omega) (by omega) hK2 ((tid_wash (by omega) hch) ▸ hu1.1) (hF1.trans (hu1.2.mono fun b hb => Or.inl hb))).sub (by repeat' (first | exact trivial | exact rfl | constructor))
        · refine V_iload dX7_pass_42 rfl ?_
          refine V_if_eq_n (tgt := 55) dX7_pass_44 (by decide) (Nat.lt_of_lt_of_le ite_le (by decide)) (fun hg0 => ?_) (fun hg0 => ?_)
          · have hch : ¬ chg s i = true := ite_f hg0
            have hlv := ite_t hc0
            refine V_iload_n (i := 3) dX7_pass_55 rfl rfl ?_
            refine V_callSNF (host := "ButtonReef") dX7_pass_56 (c_isColour (q := (kc (s.1 i))) (by omega)) okX10_isColour (by decide +kernel) rfl rfl (Nat.le_of_ble_eq_true rfl) ⟨Nat.le_of_ble_eq_true rfl, Nat.le_of_ble_eq_true rfl⟩ rfl ?_
            refine V_if_eq_n (tgt := 70) dX7_pass_59 (by decide) (Nat.lt_of_lt_of_le ite_le (by decide)) (fun hc1 => by exfalso; omega) (fun hc1 => ?_)
            refine V_aload_n (i := 1) dX7_pass_62 rfl rfl ?_
            refine V_iload_n (i := 2) dX7_pass_63 rfl rfl ?_
            refine V_callVM dX7_pass_64 (c_growOlder hR1 (k := i) (by omega) (by omega)) okX8_growOlder lkRX7_45 hR.1.mk0 hR.1.sh.1 rfl rfl rfl (Nat.le_of_ble_eq_true rfl) ⟨Nat.le_of_ble_eq_true rfl, Nat.le_of_ble_eq_true rfl⟩ rfl ?_
            intro u1 hu1
            have hK3 := hA1.keepS hR.1 (Ne.symm hne) hu1.2
            refine V_goto (tgt := 107) dX7_pass_67 (by decide) ?_
            refine V_iinc_n (b := (i + 1)) dX7_pass_107 rfl (nI_add _ _) rfl rfl ?_
            refine V_goto (tgt := 10) dX7_pass_110 (by decide) ?_
            exact (ih (i + 1) u1 (by omega) (by omega) hK3 ((tid_old (by omega) hch) ▸ hu1.1) (hF1.trans (hu1.2.mono fun b hb => Or.inl hb))).sub (by repeat' (first | exact trivial | exact rfl | constructor))
          · have hch : chg s i = true := ite_t hg0
            have hlv := ite_t hc0
            refine V_aload_n (i := 1) dX7_pass_47 rfl rfl ?_
            refine V_iload_n (i := 2) dX7_pass_48 rfl rfl ?_
            refine V_callVM dX7_pass_49 (c_turnPale hR1 (k := i) (by omega)) okX8_turnPale lkRX7_41 hR.1.mk0 hR.1.sh.1 rfl rfl rfl (Nat.le_of_ble_eq_true rfl) ⟨Nat.le_of_ble_eq_true rfl, Nat.le_of_ble_eq_true rfl⟩ rfl ?_
            intro u1 hu1
            have hK4 := hA1.keepS hR.1 (Ne.symm hne) hu1.2
            refine V_goto (tgt := 107) dX7_pass_52 (by decide) ?_
            refine V_iinc_n (b := (i + 1)) dX7_pass_107 rfl (nI_add _ _) rfl rfl ?_
            refine V_goto (tgt := 10) dX7_pass_110 (by decide) ?_
            exact (ih (i + 1) u1 (by omega) (by omega) hK4 ((tid_pale (by omega) hch) ▸ hu1.1) (hF1.trans (hu1.2.mono fun b hb => Or.inl hb))).sub (by repeat' (first | exact trivial | exact rfl | constructor))
  refine V_aload_n (i := 0) dX7_pass_0 rfl rfl ?_
  refine V_getC (k := 0) (q := 37) dX7_pass_1 (Or.inr ⟨rfl, Nat.le_of_ble_eq_true rfl⟩) rfl rfl rfl (Nat.le_of_ble_eq_true rfl) flRX7_12 ?_
  refine V_aload_n (i := 1) dX7_pass_4 rfl rfl ?_
  refine V_callVM dX7_pass_5 (c_copyFrom (st_37) hR hne) okX8_copyFrom lkRX7_26 (Or.inr ⟨rfl, Nat.le_of_ble_eq_true rfl⟩) rfl rfl rfl rfl (Nat.le_of_ble_eq_true rfl) ⟨Nat.le_of_ble_eq_true rfl, Nat.le_of_ble_eq_true rfl⟩ rfl ?_
  intro u1 hu1
  have hK5 := hR.keepS st_37 hne hu1.2
  refine V_iconst_n (v := 0) dX7_pass_8 (by decide) ?_
  refine V_istore_n (i := 2) dX7_pass_9 rfl (Nat.le_of_ble_eq_true rfl) rfl rfl ?_
  exact (lp 65 0 u1 (by omega) (by omega) hu1.1 (by rw [tidP_0]; exact hK5) (hu1.2.mono fun b hb => Or.inr hb)).sub (by repeat' (first | exact trivial | exact rfl | constructor))
set_option maxRecDepth 100000 in
set_option maxHeartbeats 1000000 in
theorem c_passSeveral {a n : Nat} {s : St} {w : Wd} (hR : Repr w a s) (hne : a ≠ 37) (hn : n < 2 ^ 31) : Ct 1 MX7_passSeveral 7 0 0 [.ref 36, .ref a, .int (nI n)] w (Mt (some (.int ((tideN s n).2.2 3 - s.2.2 3))) fun w1 => Repr w1 a (tideN s n) ∧ Fr (fun b => InSt a b ∨ InSt 37 b) w w1) := by
  refine Ct_of (by decide +kernel) rfl (Nat.le_of_ble_eq_true rfl) rfl ?_
  have lp : ∀ (fu i : Nat) (w1 : Wd), i ≤ n → n - i < fu → Repr w1 a (tideN s i) → Fr (fun b => InSt a b ∨ InSt 37 b) w w1 → V 1 MX7_passSeveral 7 0 0 (Mt (some (.int ((tideN s n).2.2 3 - s.2.2 3))) fun w1 => Repr w1 a (tideN s n) ∧ Fr (fun b => InSt a b ∨ InSt 37 b) w w1) (fun _ _ => True) 0 0 8 [some (.ref 36), some (.ref a), some (.int (nI n)), some (.int (s.2.2 3)), some (.int (nI i))] [] w1 := by
    intro fu
    induction fu with
    | zero => intro i w1 h1 h2; omega
    | succ fu ih =>
      intro i w1 hib hfu hR1 hF1
      refine V_iload dX7_passSeveral_8 rfl ?_
      refine V_iload_n (i := 2) dX7_passSeveral_10 rfl rfl ?_
      refine V_icmp_ge_n (tgt := 25) dX7_passSeveral_11 (by decide) (by omega) (by omega) (fun h11 => ?_) (fun h11 => ?_)
      · refine V_aload_n (i := 1) dX7_passSeveral_25 rfl rfl ?_
        refine V_getI (k := 6) dX7_passSeveral_26 hR.1.mk0 hR.1.sh.1 rfl rfl (Nat.le_of_ble_eq_true rfl) flRX7_18 ?_
        refine V_top (y := (tideN s i).2.2 3) (hR1.2.2.2.2.2.2 3 (by decide)) ?_
        refine V_iload_n (i := 3) dX7_passSeveral_29 rfl rfl ?_
        refine V_isub dX7_passSeveral_30 ?_
        refine V_iret dX7_passSeveral_31 rfl rfl ?_
        obtain rfl : i = n := by omega
        exact ⟨rfl, hR1, hF1⟩
      · refine V_aload_n (i := 0) dX7_passSeveral_14 rfl rfl ?_
        refine V_aload_n (i := 1) dX7_passSeveral_15 rfl rfl ?_
        refine V_callVM dX7_passSeveral_16 (c_pass hR1 hne) okX7_pass lkRX7_22 (Or.inr ⟨rfl, Nat.le_of_ble_eq_true rfl⟩) rfl rfl rfl rfl (Nat.le_of_ble_eq_true rfl) ⟨Nat.le_of_ble_eq_true rfl, Nat.le_of_ble_eq_true rfl⟩ rfl ?_
        intro u1 hu1
        refine V_iinc_n (b := (i + 1)) dX7_passSeveral_19 rfl (nI_add _ _) rfl rfl ?_
        refine V_goto (tgt := 8) dX7_passSeveral_22 (by decide) ?_
        exact ih (i + 1) u1 (by omega) (by omega) hu1.1 (hF1.trans hu1.2)
  refine V_aload_n (i := 1) dX7_passSeveral_0 rfl rfl ?_
  refine V_getI (k := 6) dX7_passSeveral_1 hR.1.mk0 hR.1.sh.1 rfl rfl (Nat.le_of_ble_eq_true rfl) flRX7_18 ?_
  refine V_top (y := s.2.2 3) (hR.2.2.2.2.2.2 3 (by decide)) ?_
  refine V_istore_n (i := 3) dX7_passSeveral_4 rfl (Nat.le_of_ble_eq_true rfl) rfl rfl ?_
  refine V_iconst_n (v := 0) dX7_passSeveral_5 (by decide) ?_
  refine V_istore dX7_passSeveral_6 (Nat.le_of_ble_eq_true rfl) rfl rfl ?_
  exact lp (n + 1) 0 w (by omega) (by omega) hR Fr.nil
end MSEA
