/-! THE FACE: what its calls share. Printed by wip/whole/gen/mk25.py. -/
section MFACE
/-- the buttons; the totals are balanced -/
def nbt (C : Nat → Nat) : Nat := sm (fun k => if C k = 0 then 0 else 1) 64
def Bal (s : St) : Prop := s.2.2 1 + s.2.2 3 - s.2.2 2 - s.2.2 5 = nI (nbt s.1)
def ciR (w : Wd) (s : St) : Prop := Repr w 1 s ∧ Bal s
def ciH (w : Wd) (H : Nat × Nat × (Nat → St)) : Prop := HistI w H.1 H.2.1 H.2.2 ∧ ∀ j, j < 8 → Bal (H.2.2 j)
def ciN (w : Wd) (s : St) : Prop := Repr w 7 s ∧ Bal s
def ciO (w : Wd) (l : List Nat) : Prop := OutI w 43 1 44 l ∧ l.length ≤ 32 ∧ ∀ i, i < l.length → l.getD i 0 < 128
def ciT (w : Wd) (l : List Nat) : Prop := ∃ p v ro co nu wl cq pt rl : Nat, TxW w l p v ro co nu wl cq pt rl
def ci0 (w : Wd) (hs : Nat) (sy : Int) (rj : Nat × Int32 × Nat) : Prop := (gI w 0 8 = nI hs ∧ hs < 2) ∧ (gI w 0 9 = zI sy ∧ -1 ≤ sy ∧ sy ≤ 60) ∧ (gI w 0 10 = nI rj.1 ∧ rj.1 ≤ 6) ∧ gI w 0 11 = rj.2.1 ∧ (gI w 0 12 = nI rj.2.2 ∧ rj.2.2 ≤ 5) ∧ (rj.1 = 6 ↔ rj.2.2 ≠ 0)
theorem ciR.keep {w w1 : Wd} {s : St} {P : Nat → Prop} (h : ciR w s) (hF : Fr P w w1) (n : ∀ b, 1 ≤ b ∧ b ≤ 3 → ¬ P b) : ciR w1 s := ⟨h.1.keep hF (n _ (by omega)) (n _ (by omega)) (n _ (by omega)), h.2⟩
theorem ciN.keep {w w1 : Wd} {s : St} {P : Nat → Prop} (h : ciN w s) (hF : Fr P w w1) (n : ∀ b, 7 ≤ b ∧ b ≤ 9 → ¬ P b) : ciN w1 s := ⟨h.1.keep hF (n _ (by omega)) (n _ (by omega)) (n _ (by omega)), h.2⟩
theorem ciH.keep {w w1 : Wd} {H : Nat × Nat × (Nat → St)} {P : Nat → Prop} (h : ciH w H) (hF : Fr P w w1) (n : ∀ b, 10 ≤ b ∧ b ≤ 35 → ¬ P b) : ciH w1 H := ⟨h.1.keep hF (fun b h1 h2 => n b ⟨h1, h2⟩), h.2⟩
theorem ciO.keep {w w1 : Wd} {l : List Nat} {P : Nat → Prop} (h : ciO w l) (hF : Fr P w w1) (n : ∀ b, 43 ≤ b ∧ b ≤ 44 → ¬ P b) : ciO w1 l := ⟨h.1.keep hF (n _ (by omega)) (n _ (by omega)), h.2⟩
theorem ciT.keep {w w1 : Wd} {l : List Nat} {P : Nat → Prop} (h : ciT w l) (hF : Fr P w w1) (n : ∀ b, 45 ≤ b ∧ b ≤ 46 → ¬ P b) : ciT w1 l := by
  obtain ⟨p, v, ro, co, nu, wl, cq, pt, rl, hT⟩ := h
  exact ⟨p, v, ro, co, nu, wl, cq, pt, rl, hT.keep hF (n _ (by omega)) (n _ (by omega))⟩
theorem ci0.keep {w w1 : Wd} {hs : Nat} {sy : Int} {rj : Nat × Int32 × Nat} {P : Nat → Prop} (h : ci0 w hs sy rj) (hF : Fr P w w1) (n : ∀ b, 0 ≤ b ∧ b ≤ 0 → ¬ P b) : ci0 w1 hs sy rj := by
  have g := fun j => hF.gi (n 0 (by omega)) j
  exact ⟨⟨(g 8).trans h.1.1, h.1.2⟩, ⟨(g 9).trans h.2.1.1, h.2.1.2⟩, ⟨(g 10).trans h.2.2.1.1, h.2.2.1.2⟩, (g 11).trans h.2.2.2.1, ⟨(g 12).trans h.2.2.2.2.1.1, h.2.2.2.2.1.2⟩, h.2.2.2.2.2⟩
def CI (w : Wd) (S : Sys) : Prop := ciR w S.1 ∧ ciH w S.2.1 ∧ ciN w S.2.2.1.2 ∧ ciO w S.2.2.2.1 ∧ ciT w S.2.2.2.2.1 ∧ ci0 w S.2.2.1.1 S.2.2.2.2.2.1 S.2.2.2.2.2.2
def InC (b : Nat) : Prop := b < 47
def In0 (b : Nat) : Prop := b = 0
/-- the outcome that an answer tells -/
def Out3 (es : List String) (R : Res) (o : Out) : Prop := (R.1 = 0 ∧ o = Sum.inl (some (.int R.2.1))) ∨ (0 < R.1 ∧ o = Sum.inr (es.getD (R.1 - 1) ""))
def PoF (es : List String) (R : Res) (w : Wd) : Out → Wd → Prop := fun o w1 => Out3 es R o ∧ CI w1 R.2.2 ∧ Fr InC w w1
theorem ins_iff {r c : Int} : ins r c = true ↔ (0 ≤ r ∧ r < 8 ∧ 0 ≤ c ∧ c < 8) := by unfold ins; exact decide_eq_true_iff
theorem ins_nat {r c : Nat} (h : r < 8 ∧ c < 8) : ins (r : Int) (c : Int) = true := ins_iff.mpr (by omega)
theorem cl_nat {r c : Nat} : cl (r : Int) (c : Int) = 8 * r + c := by unfold cl; simp
theorem isC_iff {q : Nat} : isC q = true ↔ (97 ≤ q ∧ q ≤ 100) := by unfold isC; exact decide_eq_true_iff
set_option maxRecDepth 100000 in
set_option maxHeartbeats 1000000 in
theorem c_requireCell {x y : Int32} {r c : Int} {w : Wd} (hx : x = zI r) (hy : y = zI c) (r1 : -2147483648 ≤ r) (r2 : r < 2147483648) (c1 : -2147483648 ≤ c) (c2 : c < 2147483648) : Ct 1 MX10_requireCell 7 1 6 [.int x, .int y] w (fun o w1 => (ins r c = true ∧ o = Sum.inl (none : Option Value) ∧ w1 = w) ∨ (ins r c = false ∧ o = Sum.inr "java/lang/IndexOutOfBoundsException" ∧ w1 = w)) := by
  refine Ct_of (by decide +kernel) rfl (Nat.le_of_ble_eq_true rfl) rfl ?_
  subst hx hy
  refine V_iload_n (i := 0) dX10_requireCell_0 rfl rfl ?_
  refine V_iload_n (i := 1) dX10_requireCell_1 rfl rfl ?_
  refine V_callSF dX10_requireCell_2 (c_isInside (r := r) (c := c) rfl rfl (by omega) (by omega) (by omega) (by omega)) okX10_isInside lkRX10_403 rfl rfl (Nat.le_of_ble_eq_true rfl) ⟨Nat.le_of_ble_eq_true rfl, Nat.le_of_ble_eq_true rfl⟩ rfl ?_
  refine V_if_ne_n (tgt := 19) dX10_requireCell_5 (by decide) (Nat.lt_of_lt_of_le ite_le (by decide)) (fun h5 => ?_) (fun h5 => ?_)
  · have hi := ite_t h5
    refine V_vret dX10_requireCell_19 rfl ?_
    exact Or.inl ⟨ins_iff.mpr hi, rfl, rfl⟩
  · have hi := ite_f h5
    refine V_throwW dX10_requireCell_8 dX10_requireCell_11 dX10_requireCell_12 dX10_requireCell_15 dX10_requireCell_18 thr_IOOBE (List.mem_of_getElem? (i := 16) rfl) rfl (Nat.le_of_ble_eq_true rfl) (by decide) (by decide) ?_
    exact Or.inr (⟨Bool.eq_false_iff.mpr (fun q => hi (ins_iff.mp q)), rfl, rfl⟩)
set_option maxRecDepth 100000 in
set_option maxHeartbeats 1000000 in
theorem c_requireColour {q : Nat} {w : Wd} (hq : q < 65536) : Ct 1 MX10_requireColour 7 1 6 [.int (nI q)] w (fun o w1 => (isC q = true ∧ o = Sum.inl (none : Option Value) ∧ w1 = w) ∨ (isC q = false ∧ o = Sum.inr "java/lang/IllegalArgumentException" ∧ w1 = w)) := by
  refine Ct_of (by decide +kernel) rfl (Nat.le_of_ble_eq_true rfl) rfl ?_
  refine V_iload_n (i := 0) dX10_requireColour_0 rfl rfl ?_
  refine V_callSF dX10_requireColour_1 (c_isColour (q := q) (by omega)) okX10_isColour lkRX10_176 rfl rfl (Nat.le_of_ble_eq_true rfl) ⟨Nat.le_of_ble_eq_true rfl, Nat.le_of_ble_eq_true rfl⟩ rfl ?_
  refine V_if_ne_n (tgt := 18) dX10_requireColour_4 (by decide) (Nat.lt_of_lt_of_le ite_le (by decide)) (fun h4 => ?_) (fun h4 => ?_)
  · have hi := ite_t h4
    refine V_vret dX10_requireColour_18 rfl ?_
    exact Or.inl ⟨isC_iff.mpr hi, rfl, rfl⟩
  · have hi := ite_f h4
    refine V_throwW dX10_requireColour_7 dX10_requireColour_10 dX10_requireColour_11 dX10_requireColour_14 dX10_requireColour_17 thr_IAE (List.mem_of_getElem? (i := 17) rfl) rfl (Nat.le_of_ble_eq_true rfl) (by decide) (by decide) ?_
    exact Or.inr (⟨Bool.eq_false_iff.mpr (fun q => hi (isC_iff.mp q)), rfl, rfl⟩)
set_option maxRecDepth 100000 in
set_option maxHeartbeats 1000000 in
theorem c_requireNeighbours {x : Int32} {n : Int} {w : Wd} (hx : x = zI n) (n1 : -2147483648 ≤ n) (n2 : n < 2147483648) : Ct 1 MX10_requireNeighbours 7 1 6 [.int x] w (fun o w1 => ((0 ≤ n ∧ n ≤ 8) ∧ o = Sum.inl (none : Option Value) ∧ w1 = w) ∨ (¬ (0 ≤ n ∧ n ≤ 8) ∧ o = Sum.inr "java/lang/IllegalArgumentException" ∧ w1 = w)) := by
  refine Ct_of (by decide +kernel) rfl (Nat.le_of_ble_eq_true rfl) rfl ?_
  subst hx
  refine V_iload_n (i := 0) dX10_requireNeighbours_0 rfl rfl ?_
  refine V_if_lt_z (tgt := 10) dX10_requireNeighbours_1 (by decide) rfl (by omega) (by omega) (fun h1 => ?_) (fun h1 => ?_)
  · refine V_throwW dX10_requireNeighbours_10 dX10_requireNeighbours_13 dX10_requireNeighbours_14 dX10_requireNeighbours_17 dX10_requireNeighbours_20 thr_IAE (List.mem_of_getElem? (i := 26) rfl) rfl (Nat.le_of_ble_eq_true rfl) (by decide) (by decide) ?_
    exact Or.inr (⟨by omega, rfl, rfl⟩)
  · refine V_iload_n (i := 0) dX10_requireNeighbours_4 rfl rfl ?_
    refine V_bipush_n (v := 8) dX10_requireNeighbours_5 (by decide) ?_
    refine V_icmp_le_z (tgt := 21) dX10_requireNeighbours_7 (by decide) rfl (zI_n _) (by omega) (by omega) (by omega) (by omega) (fun h7 => ?_) (fun h7 => ?_)
    · refine V_vret dX10_requireNeighbours_21 rfl ?_
      exact Or.inl ⟨by omega, rfl, rfl⟩
    · refine V_throwW dX10_requireNeighbours_10 dX10_requireNeighbours_13 dX10_requireNeighbours_14 dX10_requireNeighbours_17 dX10_requireNeighbours_20 thr_IAE (List.mem_of_getElem? (i := 26) rfl) rfl (Nat.le_of_ble_eq_true rfl) (by decide) (by decide) ?_
      exact Or.inr (⟨by omega, rfl, rfl⟩)
set_option maxRecDepth 100000 in
set_option maxHeartbeats 1000000 in
theorem c_noteRejection {rs cs : Nat} {x : Int32} {hs : Nat} {sy : Int} {rj : Nat × Int32 × Nat} {w : Wd} (h0 : ci0 w hs sy rj) (h1 : rs ≤ 6) (h2 : cs ≤ 5) (h3 : rs = 6 ↔ cs ≠ 0) : Ct 1 MX10_noteRejection 1 0 0 [.ref 0, .int (nI rs), .int x, .int (nI cs)] w (Mt none fun w1 => ci0 w1 hs sy (rs, x, cs) ∧ Fr In0 w w1) := by
  refine Ct_of (by decide +kernel) rfl (Nat.le_of_ble_eq_true rfl) rfl ?_
  refine V_aload_n (i := 0) dX10_noteRejection_0 rfl rfl ?_
  refine V_iload_n (i := 1) dX10_noteRejection_1 rfl rfl ?_
  refine V_putI (k := 10) (ty := .int) dX10_noteRejection_2 (Or.inr ⟨rfl, Nat.le_of_ble_eq_true rfl⟩) rfl rfl rfl (Nat.le_of_ble_eq_true rfl) flRX10_65 rfl (by decide +kernel) rfl rfl ?_
  refine V_aload_n (i := 0) dX10_noteRejection_5 rfl rfl ?_
  refine V_iload_n (i := 2) dX10_noteRejection_6 rfl rfl ?_
  refine V_putI (k := 11) (ty := .int) dX10_noteRejection_7 (Or.inr ⟨rfl, Nat.le_of_ble_eq_true rfl⟩) rfl rfl rfl (Nat.le_of_ble_eq_true rfl) flRX10_68 rfl (by decide +kernel) rfl rfl ?_
  refine V_aload_n (i := 0) dX10_noteRejection_10 rfl rfl ?_
  refine V_iload_n (i := 3) dX10_noteRejection_11 rfl rfl ?_
  refine V_putI (k := 12) (ty := .int) dX10_noteRejection_12 (Or.inr ⟨rfl, Nat.le_of_ble_eq_true rfl⟩) rfl rfl rfl (Nat.le_of_ble_eq_true rfl) flRX10_71 rfl (by decide +kernel) rfl rfl ?_
  refine V_vret dX10_noteRejection_15 rfl ?_
  exact ⟨rfl, ⟨⟨pI_ne (by omega) (pI_ne (by omega) (pI_ne (by omega) h0.1.1)), h0.1.2⟩, ⟨pI_ne (by omega) (pI_ne (by omega) (pI_ne (by omega) h0.2.1.1)), h0.2.1.2⟩, ⟨pI_ne (by omega) (pI_ne (by omega) pI_at), h1⟩, pI_ne (by omega) pI_at, ⟨pI_at, h2⟩, h3⟩, ((Fr.nil.i1 (by rfl)).i1 (by rfl)).i1 (by rfl)⟩
set_option maxRecDepth 100000 in
set_option maxHeartbeats 1000000 in
theorem c_rejectFor {rs : Nat} {x : Int32} {hs : Nat} {sy : Int} {rj : Nat × Int32 × Nat} {w : Wd} (h0 : ci0 w hs sy rj) (h1 : rs ≤ 5) : Ct 1 MX10_rejectFor 7 1 6 [.ref 0, .int (nI rs), .int x] w (fun o w1 => (rs = 0 ∧ o = Sum.inl (none : Option Value) ∧ w1 = w) ∨ (rs ≠ 0 ∧ o = Sum.inr "java/lang/UnsupportedOperationException" ∧ (ci0 w1 hs sy (rs, x, 0) ∧ Fr In0 w w1))) := by
  refine Ct_of (by decide +kernel) rfl (Nat.le_of_ble_eq_true rfl) rfl ?_
  refine V_iload_n (i := 1) dX10_rejectFor_0 rfl rfl ?_
  refine V_if_eq_n (tgt := 22) dX10_rejectFor_1 (by decide) (by omega) (fun h1 => ?_) (fun h1 => ?_)
  · refine V_vret dX10_rejectFor_22 rfl ?_
    exact Or.inl ⟨h1, rfl, rfl⟩
  · refine V_aload_n (i := 0) dX10_rejectFor_4 rfl rfl ?_
    refine V_iload_n (i := 1) dX10_rejectFor_5 rfl rfl ?_
    refine V_iload_n (i := 2) dX10_rejectFor_6 rfl rfl ?_
    refine V_iconst_n (v := 0) dX10_rejectFor_7 (by decide) ?_
    refine V_callVM dX10_rejectFor_8 (c_noteRejection h0 (rs := rs) (cs := 0) (x := x) (by omega) (by omega) (by omega)) okX10_noteRejection lkRX10_367 (Or.inr ⟨rfl, Nat.le_of_ble_eq_true rfl⟩) rfl rfl rfl rfl (Nat.le_of_ble_eq_true rfl) ⟨Nat.le_of_ble_eq_true rfl, Nat.le_of_ble_eq_true rfl⟩ rfl ?_
    intro u1 hu1
    refine V_throwW dX10_rejectFor_11 dX10_rejectFor_14 dX10_rejectFor_15 dX10_rejectFor_18 dX10_rejectFor_21 thr_UOE (List.mem_of_getElem? (i := 18) rfl) rfl (Nat.le_of_ble_eq_true rfl) (by decide) (by decide) ?_
    exact Or.inr (⟨h1, rfl, hu1⟩)
end MFACE
