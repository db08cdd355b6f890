/-! THE PLAIN FORM: islands. Printed by wip/whole/gen/mk37.py. -/
section MMISL
abbrev PIs2 (b j : Nat) : Prop := b = 57 ∨ (b = 58 ∧ j = j)
def MkM (w : Wd) (g : Nat → Nat) : Prop := ∀ k, k < 64 → gI w 57 k = nI (g k) ∧ g k ≤ 64
def QM (w : Wd) (q : Nat → Nat) (n : Nat) : Prop := ∀ j, j < n → gI w 58 j = nI (q j)
theorem MkM.ext {w : Wd} {g h : Nat → Nat} (hM : MkM w g) (e : ∀ k, k < 64 → g k = h k) : MkM w h := fun k hk => by rw [← e k hk]; exact hM k hk
theorem MkM.put {w : Wd} {g : Nat → Nat} {c m : Nat} {x : Int32} (hM : MkM w g) (hm : m ≤ 64) (hx : x = nI m) : MkM (pI w 57 c x) (up g c m) := fun k hk => by
  subst hx
  unfold up
  by_cases e : k = c
  · rw [if_pos e, e]; exact ⟨pI_at, hm⟩
  · rw [if_neg e]; exact ⟨pI_ne (fun q => e q.2) (hM k hk).1, (hM k hk).2⟩
theorem MkM.wr {w : Wd} {g : Nat → Nat} {b j : Nat} {x : Int32} (hM : MkM w g) (h : ¬ b = 57) : MkM (pI w b j x) g := fun k hk => ⟨pI_ne (fun q => h q.1.symm) (hM k hk).1, (hM k hk).2⟩
theorem QM.wr {w : Wd} {q : Nat → Nat} {n b j : Nat} {x : Int32} (hQ : QM w q n) (h : ¬ b = 58) : QM (pI w b j x) q n := fun k hk => pI_ne (fun z => h z.1.symm) (hQ k hk)
theorem QM.push {w : Wd} {q : Nat → Nat} {n c : Nat} {x : Int32} (hQ : QM w q n) (hx : x = nI c) : QM (pI w 58 n x) (up q n c) (n + 1) := fun k hk => by
  subst hx
  unfold up
  by_cases e : k = n
  · rw [if_pos e, e]; exact pI_at
  · rw [if_neg e]; exact pI_ne (fun z => e z.2) (hQ k (by omega))
/-- what the plain form's question for a kind asks: 0 any -/
def qOk (q cq : Nat) : Prop := (q = 0 ∧ cq = 42) ∨ (97 ≤ q ∧ q ≤ 100 ∧ cq = q)
theorem hkq {v q cq : Nat} (hv : okc v) (h : qOk q cq) : hk v cq = true ↔ (10 ≤ v ∧ (q = 0 ∨ kc v = q)) := by
  rcases h with ⟨rfl, rfl⟩ | ⟨h1, h2, rfl⟩
  · rw [hk42]; omega
  · have hl := kc_live hv
    unfold hk
    rw [if_neg (by omega), decide_eq_true_iff]
    omega
/-- the cell (r, c) is on the side k of p -/
def dirOk (p k : Nat) (r c : Int) : Prop := (k = 0 ∧ r = ((p / 8 : Nat) : Int) - 1 ∧ c = ((p % 8 : Nat) : Int)) ∨ (k = 1 ∧ r = ((p / 8 : Nat) : Int) + 1 ∧ c = ((p % 8 : Nat) : Int)) ∨ (k = 2 ∧ r = ((p / 8 : Nat) : Int) ∧ c = ((p % 8 : Nat) : Int) - 1) ∨ (k = 3 ∧ r = ((p / 8 : Nat) : Int) ∧ c = ((p % 8 : Nat) : Int) + 1)
def dirA (p k d : Nat) : Prop := (k = 0 ∧ p = d + 8) ∨ (k = 1 ∧ d = p + 8) ∨ (k = 2 ∧ p = d + 1 ∧ d % 8 < 7) ∨ (k = 3 ∧ d = p + 1 ∧ p % 8 < 7)
theorem dirA_adj {p k d : Nat} (h : dirA p k d) : adj p d := by unfold dirA at h; unfold adj; omega
theorem adj_dirA {p d : Nat} (h : adj p d) : ∃ k, k < 4 ∧ dirA p k d := by
  unfold adj at h
  unfold dirA
  rcases h with h | h | h | h
  · exact ⟨3, by omega, by omega⟩
  · exact ⟨2, by omega, by omega⟩
  · exact ⟨1, by omega, by omega⟩
  · exact ⟨0, by omega, by omega⟩
theorem dir_cell {p k d : Nat} {r c : Int} (hp : p < 64) (hd : d < 64) (h : dirOk p k r c) (ha : dirA p k d) : (0 ≤ r ∧ r < 8 ∧ 0 ≤ c ∧ c < 8) ∧ d = 8 * r.toNat + c.toNat := by unfold dirOk at h; unfold dirA at ha; omega
theorem cell_dir {p k : Nat} {r c : Int} (hp : p < 64) (h : dirOk p k r c) (hi : 0 ≤ r ∧ r < 8 ∧ 0 ≤ c ∧ c < 8) : dirA p k (8 * r.toNat + c.toNat) := by unfold dirOk at h; unfold dirA; omega
/-- the sides below k of the x-th are done -/
def SD (H : Nat → Bool) (m p : Nat) (g : Nat → Nat) (k : Nat) : Prop := ∀ j, j < k → ∀ d, Hd H d → dirA p j d → g d = m
section DIR
variable {H : Nat → Bool} {i m n x p k : Nat} {f g qu : Nat → Nat} {r c : Int}
theorem SD.no (h : SD H m p g k) (hp : p < 64) (hd : dirOk p k r c) (hn : ¬ ((0 ≤ r ∧ r < 8 ∧ 0 ≤ c ∧ c < 8) ∧ H (8 * r.toNat + c.toNat) = true)) : SD H m p g (k + 1) := fun j hj d h1 h2 => by
  by_cases e : j = k
  · subst e
    have h3 := dir_cell hp h1.1 hd h2
    exact absurd ⟨h3.1, by rw [← h3.2]; exact h1.2⟩ hn
  · exact h j (by omega) d h1 h2
theorem SD.old (h : SD H m p g k) (hp : p < 64) (hd : dirOk p k r c) (hi : 0 ≤ r ∧ r < 8 ∧ 0 ≤ c ∧ c < 8) (hH : H (8 * r.toNat + c.toNat) = true) (hS : SP H i m f g qu n x) (hz : ∀ d, Cn H i d → f d = 0) (hc : Cn H i p) (h0 : ¬ g (8 * r.toNat + c.toNat) = 0) : SD H m p g (k + 1) := fun j hj d h1 h2 => by
  by_cases e : j = k
  · subst e
    have h3 := dir_cell hp h1.1 hd h2
    refine Decidable.by_contra fun q => h0 ?_
    rw [← h3.2, hS.2.2.1 d h1.1 q]
    exact hz d (cn_step hc h1 (dirA_adj h2))
  · exact h j (by omega) d h1 h2
theorem SD.new (h : SD H m p g k) (hp : p < 64) (hd : dirOk p k r c) (hi : 0 ≤ r ∧ r < 8 ∧ 0 ≤ c ∧ c < 8) (hH : H (8 * r.toNat + c.toNat) = true) (hm : 0 < m) (hS : SP H i m f g qu n x) (hc : Cn H i p) (h0 : g (8 * r.toNat + c.toNat) = 0) : SD H m p (up g (8 * r.toNat + c.toNat) m) (k + 1) ∧ SP H i m f (up g (8 * r.toNat + c.toNat) m) (up qu n (8 * r.toNat + c.toNat)) (n + 1) x ∧ n < 64 := by
  have hda := cell_dir hp hd hi
  have hh : Hd H (8 * r.toNat + c.toNat) := ⟨by omega, hH⟩
  have hcn := cn_step hc hh (dirA_adj hda)
  refine ⟨fun j hj d h1 h2 => ?_, hS.push hh hcn (by omega), hS.room hh.1 (by omega)⟩
  unfold up
  by_cases e : d = 8 * r.toNat + c.toNat
  · rw [if_pos e]
  · rw [if_neg e]
    by_cases e2 : j = k
    · subst e2
      exact absurd (dir_cell hp h1.1 hd h2).2 e
    · exact h j (by omega) d h1 h2
theorem SD.fin (h : SD H m (qu x) g 4) (hS : SP H i m f g qu n x) (hx : x < n) : SP H i m f g qu n (x + 1) := hS.next hx fun d h1 h2 => by
  obtain ⟨k, hk, ha⟩ := adj_dirA h2
  exact h k hk d h1 ha
end DIR
set_option maxRecDepth 100000 in
set_option maxHeartbeats 1000000 in
theorem m_counts {x y : Int32} {r c : Int} {q cq : Nat} {s : St} {w : Wd} (hM : Bk w 48 0 s) (hx : x = zI r) (hy : y = zI c) (r1 : -2147483648 ≤ r) (r2 : r < 2147483648) (c1 : -2147483648 ≤ c) (c2 : c < 2147483648) (hqo : qOk q cq) (hq : q < 65536) : Ct 1 MX11_counts 3 0 0 [.ref 47, .int x, .int y, .int (nI q)] w (Rt (some (.int (nI (if ((0 ≤ r ∧ r < 8 ∧ 0 ≤ c ∧ c < 8) ∧ Hq s cq (8 * r.toNat + c.toNat) = true) then 1 else 0)))) w) := by
  refine Ct_of (by decide +kernel) rfl (Nat.le_of_ble_eq_true rfl) rfl ?_
  subst hx hy
  refine V_iload_n (i := 1) dX11_counts_0 rfl rfl ?_
  refine V_iload_n (i := 2) dX11_counts_1 rfl rfl ?_
  refine V_callSF dX11_counts_2 (m_isCell (r := r) (c := c) rfl rfl (by omega) (by omega) (by omega) (by omega)) okX11_isCell lkRX11_104 rfl rfl (Nat.le_of_ble_eq_true rfl) ⟨Nat.le_of_ble_eq_true rfl, Nat.le_of_ble_eq_true rfl⟩ rfl ?_
  refine V_if_eq_n (tgt := 44) dX11_counts_5 (by decide) (Nat.lt_of_lt_of_le ite_le (by decide)) (fun h5 => ?_) (fun h5 => ?_)
  · have hi5 := ite_f h5
    refine V_iconst_n (v := 0) dX11_counts_44 (by decide) ?_
    refine V_iret dX11_counts_45 rfl (nar_bool (by decide)) ?_
    have e8 : (if ((0 ≤ r ∧ r < 8 ∧ 0 ≤ c ∧ c < 8) ∧ Hq s cq (8 * r.toNat + c.toNat) = true) then 1 else 0 : Nat) = 0 := if_neg (fun z => hi5 z.1)
    rw [e8]
    exact ⟨rfl, rfl⟩
  · have hi5 := ite_t h5
    have hq9 := hkq (cq := cq) (hM.1.1 (8 * r.toNat + c.toNat) (by omega)) hqo
    refine V_aload_n (i := 0) dX11_counts_8 rfl rfl ?_
    refine V_iload_n (i := 1) dX11_counts_9 rfl rfl ?_
    refine V_iload_n (i := 2) dX11_counts_10 rfl rfl ?_
    refine V_callSF dX11_counts_11 (m_cellOf (r := (r).toNat) (c := (c).toNat) (zI_nn (by omega)) (zI_nn (by omega))) okX11_cellOf lkRX11_108 rfl rfl (Nat.le_of_ble_eq_true rfl) ⟨Nat.le_of_ble_eq_true rfl, Nat.le_of_ble_eq_true rfl⟩ rfl ?_
    have hv74 := hM.1.1 ((8 * (r).toNat + (c).toNat)) (by omega)
    unfold okc at hv74
    refine V_callVF dX11_counts_14 (m_isLivingAt hM (k := (8 * (r).toNat + (c).toNat)) (by omega)) okX11_isLivingAt lkRX11_214 (Or.inr ⟨rfl, Nat.le_of_ble_eq_true rfl⟩) rfl rfl rfl rfl (Nat.le_of_ble_eq_true rfl) ⟨Nat.le_of_ble_eq_true rfl, Nat.le_of_ble_eq_true rfl⟩ rfl ?_
    refine V_if_eq_n (tgt := 44) dX11_counts_17 (by decide) (Nat.lt_of_lt_of_le ite_le (by decide)) (fun h17 => ?_) (fun h17 => ?_)
    · have hi17 := ite_f h17
      refine V_iconst_n (v := 0) dX11_counts_44 (by decide) ?_
      refine V_iret dX11_counts_45 rfl (nar_bool (by decide)) ?_
      have e8 : (if ((0 ≤ r ∧ r < 8 ∧ 0 ≤ c ∧ c < 8) ∧ Hq s cq (8 * r.toNat + c.toNat) = true) then 1 else 0 : Nat) = 0 := if_neg (fun z => hi17 (hq9.mp z.2).1)
      rw [e8]
      exact ⟨rfl, rfl⟩
    · have hi17 := ite_t h17
      refine V_iload_n (i := 3) dX11_counts_20 rfl rfl ?_
      refine V_if_eq_n (tgt := 40) dX11_counts_21 (by decide) (by omega) (fun h21 => ?_) (fun h21 => ?_)
      · refine V_iconst_n (v := 1) dX11_counts_40 (by decide) ?_
        refine V_goto (tgt := 45) dX11_counts_41 (by decide) ?_
        refine V_iret dX11_counts_45 rfl (nar_bool (by decide)) ?_
        have e8 : (if ((0 ≤ r ∧ r < 8 ∧ 0 ≤ c ∧ c < 8) ∧ Hq s cq (8 * r.toNat + c.toNat) = true) then 1 else 0 : Nat) = 1 := if_pos ⟨hi5, hq9.mpr ⟨hi17, by omega⟩⟩
        rw [e8]
        exact ⟨rfl, rfl⟩
      · refine V_aload_n (i := 0) dX11_counts_24 rfl rfl ?_
        refine V_iload_n (i := 1) dX11_counts_25 rfl rfl ?_
        refine V_iload_n (i := 2) dX11_counts_26 rfl rfl ?_
        refine V_callSF dX11_counts_27 (m_cellOf (r := (r).toNat) (c := (c).toNat) (zI_nn (by omega)) (zI_nn (by omega))) okX11_cellOf lkRX11_108 rfl rfl (Nat.le_of_ble_eq_true rfl) ⟨Nat.le_of_ble_eq_true rfl, Nat.le_of_ble_eq_true rfl⟩ rfl ?_
        have hv75 := hM.1.1 ((8 * (r).toNat + (c).toNat)) (by omega)
        unfold okc at hv75
        refine V_callVF dX11_counts_30 (m_at hM (k := (8 * (r).toNat + (c).toNat)) (by omega)) okX11_at lkRX11_101 (Or.inr ⟨rfl, Nat.le_of_ble_eq_true rfl⟩) rfl rfl rfl rfl (Nat.le_of_ble_eq_true rfl) ⟨Nat.le_of_ble_eq_true rfl, Nat.le_of_ble_eq_true rfl⟩ rfl ?_
        have hc76 := kc_in (v := (s.1 (8 * (r).toNat + (c).toNat))) (by omega) (by omega)
        refine V_callSF dX11_counts_33 (m_colourOf (v := (s.1 (8 * (r).toNat + (c).toNat))) (by omega) (by omega)) okX11_colourOf lkRX11_112 rfl rfl (Nat.le_of_ble_eq_true rfl) ⟨Nat.le_of_ble_eq_true rfl, Nat.le_of_ble_eq_true rfl⟩ rfl ?_
        refine V_iload_n (i := 3) dX11_counts_36 rfl rfl ?_
        refine V_icmp_ne_n (tgt := 44) dX11_counts_37 (by decide) (by omega) (by omega) (fun h37 => ?_) (fun h37 => ?_)
        · refine V_iconst_n (v := 0) dX11_counts_44 (by decide) ?_
          refine V_iret dX11_counts_45 rfl (nar_bool (by decide)) ?_
          have e8 : (if ((0 ≤ r ∧ r < 8 ∧ 0 ≤ c ∧ c < 8) ∧ Hq s cq (8 * r.toNat + c.toNat) = true) then 1 else 0 : Nat) = 0 := if_neg (fun z => by have := (hq9.mp z.2).2; omega)
          rw [e8]
          exact ⟨rfl, rfl⟩
        · refine V_iconst_n (v := 1) dX11_counts_40 (by decide) ?_
          refine V_goto (tgt := 45) dX11_counts_41 (by decide) ?_
          refine V_iret dX11_counts_45 rfl (nar_bool (by decide)) ?_
          have e8 : (if ((0 ≤ r ∧ r < 8 ∧ 0 ≤ c ∧ c < 8) ∧ Hq s cq (8 * r.toNat + c.toNat) = true) then 1 else 0 : Nat) = 1 := if_pos ⟨hi5, hq9.mpr ⟨hi17, by omega⟩⟩
          rw [e8]
          exact ⟨rfl, rfl⟩
set_option maxRecDepth 100000 in
set_option maxHeartbeats 1000000 in
theorem m_spreads {k0 m q cq : Nat} {f : Nat → Nat} {s : St} {w : Wd} (hM : Bk w 48 0 s) (hqo : qOk q cq) (hq : q < 65536) (hMf : MkM w f) (hk0 : Hd (Hq s cq) k0) (hz : ∀ d, Cn (Hq s cq) k0 d → f d = 0) (hff : ∀ d, d < 64 → f d ≠ m) (hm0 : 0 < m) (hm : m ≤ 64) : Ct 1 MX11_spreads 4 0 0 [.ref 47, .int (nI k0), .int (nI m), .int (nI q)] w (fun o w1 => ∃ (n1 : Nat) (g1 : Nat → Nat), (MkM w1 g1 ∧ n1 = sm (mkd g1 m) 64 ∧ ∀ d, d < 64 → (Cn (Hq s cq) k0 d → g1 d = m) ∧ (¬ Cn (Hq s cq) k0 d → g1 d = f d)) ∧ o = Sum.inl (some (Value.int (nI n1))) ∧ Fz PIs2 w w1) := by
  refine Ct_of (by decide +kernel) rfl (Nat.le_of_ble_eq_true rfl) rfl ?_
  have hk8 := hk0.1
  have lpx : ∀ (fu x : Nat) (w1 : Wd) (g qu : Nat → Nat) (n : Nat), x ≤ 64 → 64 - x < fu → Bk w1 48 0 s → MkM w1 g → QM w1 qu n → SP (Hq s cq) k0 m f g qu n x → Fz PIs2 w w1 → V 1 MX11_spreads 4 0 0 (fun o w1 => ∃ (n1 : Nat) (g1 : Nat → Nat), (MkM w1 g1 ∧ n1 = sm (mkd g1 m) 64 ∧ ∀ d, d < 64 → (Cn (Hq s cq) k0 d → g1 d = m) ∧ (¬ Cn (Hq s cq) k0 d → g1 d = f d)) ∧ o = Sum.inl (some (Value.int (nI n1))) ∧ Fz PIs2 w w1) (fun _ _ => True) 0 0 20 [some (.ref 47), some (.int (nI k0)), some (.int (nI m)), some (.int (nI q)), some (.int (nI x)), some (.int (nI n)), none, none, none, none, none] [] w1 := by
    intro fu
    induction fu with
    | zero => intro x w1 g qu n h1 h2; omega
    | succ fu ihx =>
      intro x w1 g qu n hib hfu hB hMk hQ hS hf
      have hln := hS.len
      have hxn := hS.2.2.2.2.2.2
      have lpi : ∀ (fu sd : Nat) (w1 : Wd) (g qu : Nat → Nat) (n : Nat), sd ≤ 4 → 4 - sd < fu → x < n → Bk w1 48 0 s → MkM w1 g → QM w1 qu n → SP (Hq s cq) k0 m f g qu n x → Fz PIs2 w w1 → SD (Hq s cq) m (qu x) g sd → V 1 MX11_spreads 4 0 0 (fun o w1 => ∃ (n1 : Nat) (g1 : Nat → Nat), (MkM w1 g1 ∧ n1 = sm (mkd g1 m) 64 ∧ ∀ d, d < 64 → (Cn (Hq s cq) k0 d → g1 d = m) ∧ (¬ Cn (Hq s cq) k0 d → g1 d = f d)) ∧ o = Sum.inl (some (Value.int (nI n1))) ∧ Fz PIs2 w w1) (fun _ _ => True) 0 0 57 [some (.ref 47), some (.int (nI k0)), some (.int (nI m)), some (.int (nI q)), some (.int (nI (x + 1))), some (.int (nI n)), some (.int (nI (qu x / 8))), some (.int (nI (qu x % 8))), some (.int (nI sd)), none, none] [] w1 := by
        intro fu
        induction fu with
        | zero => intro sd w1 g qu n h1 h2; omega
        | succ fu ihi =>
          intro sd w1 g qu n hib hfu hx hB hMk hQ hS hf hSD
          have hcx := (hS.1 x hx).1
          have hqx := (cn_hd hcx).1
          have hln := hS.len
          refine V_iload dX11_spreads_57 rfl ?_
          refine V_iconst_n (v := 4) dX11_spreads_59 (by decide) ?_
          refine V_icmp_ge_n (tgt := 177) dX11_spreads_60 (by decide) (by omega) (by omega) (fun h60 => ?_) (fun h60 => ?_)
          · obtain rfl : sd = 4 := by omega
            refine V_goto (tgt := 20) dX11_spreads_177 (by decide) ?_
            exact (ihx (x + 1) w1 g qu n (by omega) (by omega) hB hMk hQ (hSD.fin hS hx) hf).sub (by repeat' (first | exact trivial | exact rfl | constructor))
          · rcases (show sd = 0 ∨ sd = 1 ∨ sd = 2 ∨ sd = 3 by omega) with rfl | rfl | rfl | rfl
            · refine V_iload dX11_spreads_63 rfl ?_
              refine V_iload dX11_spreads_65 rfl ?_
              refine V_if_ne_n (tgt := 74) dX11_spreads_67 (by decide) (by omega) (fun h67 => by exfalso; omega) (fun h67 => ?_)
              refine V_iconst_z (v := -1) dX11_spreads_70 (by decide) ?_
              refine V_goto (tgt := 85) dX11_spreads_71 (by decide) ?_
              refine V_iadd_z dX11_spreads_85 (zI_n _) rfl ?_
              refine V_istore dX11_spreads_86 (Nat.le_of_ble_eq_true rfl) rfl rfl ?_
              refine V_iload dX11_spreads_88 rfl ?_
              refine V_iload dX11_spreads_90 rfl ?_
              refine V_iconst_n (v := 2) dX11_spreads_92 (by decide) ?_
              refine V_icmp_ne_n (tgt := 100) dX11_spreads_93 (by decide) (by omega) (by omega) (fun h93 => ?_) (fun h93 => by exfalso; omega)
              refine V_iload dX11_spreads_100 rfl ?_
              refine V_iconst_n (v := 3) dX11_spreads_102 (by decide) ?_
              refine V_icmp_ne_n (tgt := 110) dX11_spreads_103 (by decide) (by omega) (by omega) (fun h103 => ?_) (fun h103 => by exfalso; omega)
              refine V_iconst_n (v := 0) dX11_spreads_110 (by decide) ?_
              refine V_iadd_n dX11_spreads_111 ?_
              refine V_istore dX11_spreads_112 (Nat.le_of_ble_eq_true rfl) rfl rfl ?_
              rw [zI_n ((qu x % 8) + 0)]
              refine V_aload_n (i := 0) dX11_spreads_114 rfl rfl ?_
              refine V_iload dX11_spreads_115 rfl ?_
              refine V_iload dX11_spreads_117 rfl ?_
              refine V_iload_n (i := 3) dX11_spreads_119 rfl rfl ?_
              refine V_callVF dX11_spreads_120 (m_counts hB (r := ((((qu x / 8) : Nat) : Int) + (-1))) (c := ((((qu x % 8) + 0) : Nat) : Int)) rfl rfl (by omega) (by omega) (by omega) (by omega) hqo (by omega)) okX11_counts lkRX11_221 (Or.inr ⟨rfl, Nat.le_of_ble_eq_true rfl⟩) rfl rfl rfl rfl (Nat.le_of_ble_eq_true rfl) ⟨Nat.le_of_ble_eq_true rfl, Nat.le_of_ble_eq_true rfl⟩ rfl ?_
              refine V_if_eq_n (tgt := 171) dX11_spreads_123 (by decide) (Nat.lt_of_lt_of_le ite_le (by decide)) (fun h123 => ?_) (fun h123 => ?_)
              · have hi123 := ite_f h123
                refine V_iinc_n (b := 1) dX11_spreads_171 rfl (nI_add _ _) rfl rfl ?_
                refine V_goto (tgt := 57) dX11_spreads_174 (by decide) ?_
                have hdo : dirOk (qu x) 0 ((((qu x / 8) : Nat) : Int) + (-1)) ((((qu x % 8) + 0) : Nat) : Int) := by unfold dirOk; omega
                exact (ihi 1 w1 g qu n (by omega) (by omega) hx hB hMk hQ hS hf (hSD.no hqx hdo hi123)).sub (by repeat' (first | exact trivial | exact rfl | constructor))
              · have hi123 := ite_t h123
                have hgl := (hMk (8 * (((((qu x / 8) : Nat) : Int) + (-1))).toNat + (((((qu x % 8) + 0) : Nat) : Int)).toNat) (by omega)).2
                refine V_aload_n (i := 0) dX11_spreads_126 rfl rfl ?_
                refine V_getC (k := 19) (q := 57) dX11_spreads_127 (Or.inr ⟨rfl, Nat.le_of_ble_eq_true rfl⟩) rfl rfl rfl (Nat.le_of_ble_eq_true rfl) flRX11_41 ?_
                refine V_iload dX11_spreads_130 rfl ?_
                refine V_iload dX11_spreads_132 rfl ?_
                refine V_callSF dX11_spreads_134 (m_cellOf (r := (((((qu x / 8) : Nat) : Int) + (-1))).toNat) (c := (((((qu x % 8) + 0) : Nat) : Int)).toNat) (zI_nn (by omega)) (zI_nn (by omega))) okX11_cellOf lkRX11_108 rfl rfl (Nat.le_of_ble_eq_true rfl) ⟨Nat.le_of_ble_eq_true rfl, Nat.le_of_ble_eq_true rfl⟩ rfl ?_
                refine V_iald_n (i := (8 * (((((qu x / 8) : Nat) : Int) + (-1))).toNat + (((((qu x % 8) + 0) : Nat) : Int)).toNat)) dX11_spreads_137 (Or.inr ⟨rfl, Nat.le_of_ble_eq_true rfl⟩) rfl (by omega) (by decide) ?_
                refine V_top (y := nI (g (8 * (((((qu x / 8) : Nat) : Int) + (-1))).toNat + (((((qu x % 8) + 0) : Nat) : Int)).toNat))) (hMk (8 * (((((qu x / 8) : Nat) : Int) + (-1))).toNat + (((((qu x % 8) + 0) : Nat) : Int)).toNat) (by omega)).1 ?_
                refine V_if_ne_n (tgt := 171) dX11_spreads_138 (by decide) (by omega) (fun h138 => ?_) (fun h138 => ?_)
                · refine V_iinc_n (b := 1) dX11_spreads_171 rfl (nI_add _ _) rfl rfl ?_
                  refine V_goto (tgt := 57) dX11_spreads_174 (by decide) ?_
                  have hdo : dirOk (qu x) 0 ((((qu x / 8) : Nat) : Int) + (-1)) ((((qu x % 8) + 0) : Nat) : Int) := by unfold dirOk; omega
                  exact (ihi 1 w1 g qu n (by omega) (by omega) hx hB hMk hQ hS hf (hSD.old hqx hdo hi123.1 hi123.2 hS hz hcx h138)).sub (by repeat' (first | exact trivial | exact rfl | constructor))
                · have hrm := hS.room (c := 8 * (((((qu x / 8) : Nat) : Int) + (-1))).toNat + (((((qu x % 8) + 0) : Nat) : Int)).toNat) (by omega) (by omega)
                  refine V_aload_n (i := 0) dX11_spreads_141 rfl rfl ?_
                  refine V_getC (k := 19) (q := 57) dX11_spreads_142 (Or.inr ⟨rfl, Nat.le_of_ble_eq_true rfl⟩) rfl rfl rfl (Nat.le_of_ble_eq_true rfl) flRX11_41 ?_
                  refine V_iload dX11_spreads_145 rfl ?_
                  refine V_iload dX11_spreads_147 rfl ?_
                  refine V_callSF dX11_spreads_149 (m_cellOf (r := (((((qu x / 8) : Nat) : Int) + (-1))).toNat) (c := (((((qu x % 8) + 0) : Nat) : Int)).toNat) (zI_nn (by omega)) (zI_nn (by omega))) okX11_cellOf lkRX11_108 rfl rfl (Nat.le_of_ble_eq_true rfl) ⟨Nat.le_of_ble_eq_true rfl, Nat.le_of_ble_eq_true rfl⟩ rfl ?_
                  refine V_iload_n (i := 2) dX11_spreads_152 rfl rfl ?_
                  refine V_iast_n (i := (8 * (((((qu x / 8) : Nat) : Int) + (-1))).toNat + (((((qu x % 8) + 0) : Nat) : Int)).toNat)) dX11_spreads_153 (Or.inr ⟨rfl, Nat.le_of_ble_eq_true rfl⟩) rfl (by omega) (by decide) ?_
                  refine V_aload_n (i := 0) dX11_spreads_154 rfl rfl ?_
                  refine V_getC (k := 20) (q := 58) dX11_spreads_155 (Or.inr ⟨rfl, Nat.le_of_ble_eq_true rfl⟩) rfl rfl rfl (Nat.le_of_ble_eq_true rfl) flRX11_44 ?_
                  refine V_iload dX11_spreads_158 rfl ?_
                  refine V_iload dX11_spreads_160 rfl ?_
                  refine V_iload dX11_spreads_162 rfl ?_
                  refine V_callSF dX11_spreads_164 (m_cellOf (r := (((((qu x / 8) : Nat) : Int) + (-1))).toNat) (c := (((((qu x % 8) + 0) : Nat) : Int)).toNat) (zI_nn (by omega)) (zI_nn (by omega))) okX11_cellOf lkRX11_108 rfl rfl (Nat.le_of_ble_eq_true rfl) ⟨Nat.le_of_ble_eq_true rfl, Nat.le_of_ble_eq_true rfl⟩ rfl ?_
                  refine V_iast_n (i := n) dX11_spreads_167 (Or.inr ⟨rfl, Nat.le_of_ble_eq_true rfl⟩) rfl (by omega) (by decide) ?_
                  refine V_iinc_n (b := (n + 1)) dX11_spreads_168 rfl (nI_add _ _) rfl rfl ?_
                  refine V_iinc_n (b := 1) dX11_spreads_171 rfl (nI_add _ _) rfl rfl ?_
                  refine V_goto (tgt := 57) dX11_spreads_174 (by decide) ?_
                  have hdo : dirOk (qu x) 0 ((((qu x / 8) : Nat) : Int) + (-1)) ((((qu x % 8) + 0) : Nat) : Int) := by unfold dirOk; omega
                  have hnw := hSD.new hqx hdo hi123.1 hi123.2 hm0 hS hcx h138
                  have hux : up qu n (8 * (((((qu x / 8) : Nat) : Int) + (-1))).toNat + (((((qu x % 8) + 0) : Nat) : Int)).toNat) x = qu x := if_neg (by omega)
                  have k9 := ihi 1 _ (up g (8 * (((((qu x / 8) : Nat) : Int) + (-1))).toNat + (((((qu x % 8) + 0) : Nat) : Int)).toNat) m) (up qu n (8 * (((((qu x / 8) : Nat) : Int) + (-1))).toNat + (((((qu x % 8) + 0) : Nat) : Int)).toNat)) (n + 1) (by omega) (by omega) (by omega) ((hB.wr (by decide)).wr (by decide)) ((hMk.put hm rfl).wr (by decide)) ((hQ.wr (by decide)).push rfl) hnw.2.1 ((hf.i1 (by omega) (by unfold PIs2; omega)).i1 (by omega) (by unfold PIs2; omega)) (by rw [hux]; exact hnw.1)
                  rw [hux] at k9
                  exact k9.sub (by repeat' (first | exact trivial | exact rfl | constructor))
            · refine V_iload dX11_spreads_63 rfl ?_
              refine V_iload dX11_spreads_65 rfl ?_
              refine V_if_ne_n (tgt := 74) dX11_spreads_67 (by decide) (by omega) (fun h67 => ?_) (fun h67 => by exfalso; omega)
              refine V_iload dX11_spreads_74 rfl ?_
              refine V_iconst_n (v := 1) dX11_spreads_76 (by decide) ?_
              refine V_icmp_ne_n (tgt := 84) dX11_spreads_77 (by decide) (by omega) (by omega) (fun h77 => by exfalso; omega) (fun h77 => ?_)
              refine V_iconst_n (v := 1) dX11_spreads_80 (by decide) ?_
              refine V_goto (tgt := 85) dX11_spreads_81 (by decide) ?_
              refine V_iadd_n dX11_spreads_85 ?_
              refine V_istore dX11_spreads_86 (Nat.le_of_ble_eq_true rfl) rfl rfl ?_
              refine V_iload dX11_spreads_88 rfl ?_
              refine V_iload dX11_spreads_90 rfl ?_
              refine V_iconst_n (v := 2) dX11_spreads_92 (by decide) ?_
              refine V_icmp_ne_n (tgt := 100) dX11_spreads_93 (by decide) (by omega) (by omega) (fun h93 => ?_) (fun h93 => by exfalso; omega)
              refine V_iload dX11_spreads_100 rfl ?_
              refine V_iconst_n (v := 3) dX11_spreads_102 (by decide) ?_
              refine V_icmp_ne_n (tgt := 110) dX11_spreads_103 (by decide) (by omega) (by omega) (fun h103 => ?_) (fun h103 => by exfalso; omega)
              refine V_iconst_n (v := 0) dX11_spreads_110 (by decide) ?_
              refine V_iadd_n dX11_spreads_111 ?_
              refine V_istore dX11_spreads_112 (Nat.le_of_ble_eq_true rfl) rfl rfl ?_
              rw [zI_n ((qu x / 8) + 1)]
              rw [zI_n ((qu x % 8) + 0)]
              refine V_aload_n (i := 0) dX11_spreads_114 rfl rfl ?_
              refine V_iload dX11_spreads_115 rfl ?_
              refine V_iload dX11_spreads_117 rfl ?_
              refine V_iload_n (i := 3) dX11_spreads_119 rfl rfl ?_
              refine V_callVF dX11_spreads_120 (m_counts hB (r := ((((qu x / 8) + 1) : Nat) : Int)) (c := ((((qu x % 8) + 0) : Nat) : Int)) rfl rfl (by omega) (by omega) (by omega) (by omega) hqo (by omega)) okX11_counts lkRX11_221 (Or.inr ⟨rfl, Nat.le_of_ble_eq_true rfl⟩) rfl rfl rfl rfl (Nat.le_of_ble_eq_true rfl) ⟨Nat.le_of_ble_eq_true rfl, Nat.le_of_ble_eq_true rfl⟩ rfl ?_
              refine V_if_eq_n (tgt := 171) dX11_spreads_123 (by decide) (Nat.lt_of_lt_of_le ite_le (by decide)) (fun h123 => ?_) (fun h123 => ?_)
              · have hi123 := ite_f h123
                refine V_iinc_n (b := 2) dX11_spreads_171 rfl (nI_add _ _) rfl rfl ?_
                refine V_goto (tgt := 57) dX11_spreads_174 (by decide) ?_
                have hdo : dirOk (qu x) 1 ((((qu x / 8) + 1) : Nat) : Int) ((((qu x % 8) + 0) : Nat) : Int) := by unfold dirOk; omega
                exact (ihi 2 w1 g qu n (by omega) (by omega) hx hB hMk hQ hS hf (hSD.no hqx hdo hi123)).sub (by repeat' (first | exact trivial | exact rfl | constructor))
              · have hi123 := ite_t h123
                have hgl := (hMk (8 * (((((qu x / 8) + 1) : Nat) : Int)).toNat + (((((qu x % 8) + 0) : Nat) : Int)).toNat) (by omega)).2
                refine V_aload_n (i := 0) dX11_spreads_126 rfl rfl ?_
                refine V_getC (k := 19) (q := 57) dX11_spreads_127 (Or.inr ⟨rfl, Nat.le_of_ble_eq_true rfl⟩) rfl rfl rfl (Nat.le_of_ble_eq_true rfl) flRX11_41 ?_
                refine V_iload dX11_spreads_130 rfl ?_
                refine V_iload dX11_spreads_132 rfl ?_
                refine V_callSF dX11_spreads_134 (m_cellOf (r := (((((qu x / 8) + 1) : Nat) : Int)).toNat) (c := (((((qu x % 8) + 0) : Nat) : Int)).toNat) (zI_nn (by omega)) (zI_nn (by omega))) okX11_cellOf lkRX11_108 rfl rfl (Nat.le_of_ble_eq_true rfl) ⟨Nat.le_of_ble_eq_true rfl, Nat.le_of_ble_eq_true rfl⟩ rfl ?_
                refine V_iald_n (i := (8 * (((((qu x / 8) + 1) : Nat) : Int)).toNat + (((((qu x % 8) + 0) : Nat) : Int)).toNat)) dX11_spreads_137 (Or.inr ⟨rfl, Nat.le_of_ble_eq_true rfl⟩) rfl (by omega) (by decide) ?_
                refine V_top (y := nI (g (8 * (((((qu x / 8) + 1) : Nat) : Int)).toNat + (((((qu x % 8) + 0) : Nat) : Int)).toNat))) (hMk (8 * (((((qu x / 8) + 1) : Nat) : Int)).toNat + (((((qu x % 8) + 0) : Nat) : Int)).toNat) (by omega)).1 ?_
                refine V_if_ne_n (tgt := 171) dX11_spreads_138 (by decide) (by omega) (fun h138 => ?_) (fun h138 => ?_)
                · refine V_iinc_n (b := 2) dX11_spreads_171 rfl (nI_add _ _) rfl rfl ?_
                  refine V_goto (tgt := 57) dX11_spreads_174 (by decide) ?_
                  have hdo : dirOk (qu x) 1 ((((qu x / 8) + 1) : Nat) : Int) ((((qu x % 8) + 0) : Nat) : Int) := by unfold dirOk; omega
                  exact (ihi 2 w1 g qu n (by omega) (by omega) hx hB hMk hQ hS hf (hSD.old hqx hdo hi123.1 hi123.2 hS hz hcx h138)).sub (by repeat' (first | exact trivial | exact rfl | constructor))
                · have hrm := hS.room (c := 8 * (((((qu x / 8) + 1) : Nat) : Int)).toNat + (((((qu x % 8) + 0) : Nat) : Int)).toNat) (by omega) (by omega)
                  refine V_aload_n (i := 0) dX11_spreads_141 rfl rfl ?_
                  refine V_getC (k := 19) (q := 57) dX11_spreads_142 (Or.inr ⟨rfl, Nat.le_of_ble_eq_true rfl⟩) rfl rfl rfl (Nat.le_of_ble_eq_true rfl) flRX11_41 ?_
                  refine V_iload dX11_spreads_145 rfl ?_
                  refine V_iload dX11_spreads_147 rfl ?_
                  refine V_callSF dX11_spreads_149 (m_cellOf (r := (((((qu x / 8) + 1) : Nat) : Int)).toNat) (c := (((((qu x % 8) + 0) : Nat) : Int)).toNat) (zI_nn (by omega)) (zI_nn (by omega))) okX11_cellOf lkRX11_108 rfl rfl (Nat.le_of_ble_eq_true rfl) ⟨Nat.le_of_ble_eq_true rfl, Nat.le_of_ble_eq_true rfl⟩ rfl ?_
                  refine V_iload_n (i := 2) dX11_spreads_152 rfl rfl ?_
                  refine V_iast_n (i := (8 * (((((qu x / 8) + 1) : Nat) : Int)).toNat + (((((qu x % 8) + 0) : Nat) : Int)).toNat)) dX11_spreads_153 (Or.inr ⟨rfl, Nat.le_of_ble_eq_true rfl⟩) rfl (by omega) (by decide) ?_
                  refine V_aload_n (i := 0) dX11_spreads_154 rfl rfl ?_
                  refine V_getC (k := 20) (q := 58) dX11_spreads_155 (Or.inr ⟨rfl, Nat.le_of_ble_eq_true rfl⟩) rfl rfl rfl (Nat.le_of_ble_eq_true rfl) flRX11_44 ?_
                  refine V_iload dX11_spreads_158 rfl ?_
                  refine V_iload dX11_spreads_160 rfl ?_
                  refine V_iload dX11_spreads_162 rfl ?_
                  refine V_callSF dX11_spreads_164 (m_cellOf (r := (((((qu x / 8) + 1) : Nat) : Int)).toNat) (c := (((((qu x % 8) + 0) : Nat) : Int)).toNat) (zI_nn (by omega)) (zI_nn (by omega))) okX11_cellOf lkRX11_108 rfl rfl (Nat.le_of_ble_eq_true rfl) ⟨Nat.le_of_ble_eq_true rfl, Nat.le_of_ble_eq_true rfl⟩ rfl ?_
                  refine V_iast_n (i := n) dX11_spreads_167 (Or.inr ⟨rfl, Nat.le_of_ble_eq_true rfl⟩) rfl (by omega) (by decide) ?_
                  refine V_iinc_n (b := (n + 1)) dX11_spreads_168 rfl (nI_add _ _) rfl rfl ?_
                  refine V_iinc_n (b := 2) dX11_spreads_171 rfl (nI_add _ _) rfl rfl ?_
                  refine V_goto (tgt := 57) dX11_spreads_174 (by decide) ?_
                  have hdo : dirOk (qu x) 1 ((((qu x / 8) + 1) : Nat) : Int) ((((qu x % 8) + 0) : Nat) : Int) := by unfold dirOk; omega
                  have hnw := hSD.new hqx hdo hi123.1 hi123.2 hm0 hS hcx h138
                  have hux : up qu n (8 * (((((qu x / 8) + 1) : Nat) : Int)).toNat + (((((qu x % 8) + 0) : Nat) : Int)).toNat) x = qu x := if_neg (by omega)
                  have k9 := ihi 2 _ (up g (8 * (((((qu x / 8) + 1) : Nat) : Int)).toNat + (((((qu x % 8) + 0) : Nat) : Int)).toNat) m) (up qu n (8 * (((((qu x / 8) + 1) : Nat) : Int)).toNat + (((((qu x % 8) + 0) : Nat) : Int)).toNat)) (n + 1) (by omega) (by omega) (by omega) ((hB.wr (by decide)).wr (by decide)) ((hMk.put hm rfl).wr (by decide)) ((hQ.wr (by decide)).push rfl) hnw.2.1 ((hf.i1 (by omega) (by unfold PIs2; omega)).i1 (by omega) (by unfold PIs2; omega)) (by rw [hux]; exact hnw.1)
                  rw [hux] at k9
                  exact k9.sub (by repeat' (first | exact trivial | exact rfl | constructor))
            · refine V_iload dX11_spreads_63 rfl ?_
              refine V_iload dX11_spreads_65 rfl ?_
              refine V_if_ne_n (tgt := 74) dX11_spreads_67 (by decide) (by omega) (fun h67 => ?_) (fun h67 => by exfalso; omega)
              refine V_iload dX11_spreads_74 rfl ?_
              refine V_iconst_n (v := 1) dX11_spreads_76 (by decide) ?_
              refine V_icmp_ne_n (tgt := 84) dX11_spreads_77 (by decide) (by omega) (by omega) (fun h77 => ?_) (fun h77 => by exfalso; omega)
              refine V_iconst_n (v := 0) dX11_spreads_84 (by decide) ?_
              refine V_iadd_n dX11_spreads_85 ?_
              refine V_istore dX11_spreads_86 (Nat.le_of_ble_eq_true rfl) rfl rfl ?_
              refine V_iload dX11_spreads_88 rfl ?_
              refine V_iload dX11_spreads_90 rfl ?_
              refine V_iconst_n (v := 2) dX11_spreads_92 (by decide) ?_
              refine V_icmp_ne_n (tgt := 100) dX11_spreads_93 (by decide) (by omega) (by omega) (fun h93 => by exfalso; omega) (fun h93 => ?_)
              refine V_iconst_z (v := -1) dX11_spreads_96 (by decide) ?_
              refine V_goto (tgt := 111) dX11_spreads_97 (by decide) ?_
              refine V_iadd_z dX11_spreads_111 (zI_n _) rfl ?_
              refine V_istore dX11_spreads_112 (Nat.le_of_ble_eq_true rfl) rfl rfl ?_
              rw [zI_n ((qu x / 8) + 0)]
              refine V_aload_n (i := 0) dX11_spreads_114 rfl rfl ?_
              refine V_iload dX11_spreads_115 rfl ?_
              refine V_iload dX11_spreads_117 rfl ?_
              refine V_iload_n (i := 3) dX11_spreads_119 rfl rfl ?_
              refine V_callVF dX11_spreads_120 (m_counts hB (r := ((((qu x / 8) + 0) : Nat) : Int)) (c := ((((qu x % 8) : Nat) : Int) + (-1))) rfl rfl (by omega) (by omega) (by omega) (by omega) hqo (by omega)) okX11_counts lkRX11_221 (Or.inr ⟨rfl, Nat.le_of_ble_eq_true rfl⟩) rfl rfl rfl rfl (Nat.le_of_ble_eq_true rfl) ⟨Nat.le_of_ble_eq_true rfl, Nat.le_of_ble_eq_true rfl⟩ rfl ?_
              refine V_if_eq_n (tgt := 171) dX11_spreads_123 (by decide) (Nat.lt_of_lt_of_le ite_le (by decide)) (fun h123 => ?_) (fun h123 => ?_)
              · have hi123 := ite_f h123
                refine V_iinc_n (b := 3) dX11_spreads_171 rfl (nI_add _ _) rfl rfl ?_
                refine V_goto (tgt := 57) dX11_spreads_174 (by decide) ?_
                have hdo : dirOk (qu x) 2 ((((qu x / 8) + 0) : Nat) : Int) ((((qu x % 8) : Nat) : Int) + (-1)) := by unfold dirOk; omega
                exact (ihi 3 w1 g qu n (by omega) (by omega) hx hB hMk hQ hS hf (hSD.no hqx hdo hi123)).sub (by repeat' (first | exact trivial | exact rfl | constructor))
              · have hi123 := ite_t h123
                have hgl := (hMk (8 * (((((qu x / 8) + 0) : Nat) : Int)).toNat + (((((qu x % 8) : Nat) : Int) + (-1))).toNat) (by omega)).2
                refine V_aload_n (i := 0) dX11_spreads_126 rfl rfl ?_
                refine V_getC (k := 19) (q := 57) dX11_spreads_127 (Or.inr ⟨rfl, Nat.le_of_ble_eq_true rfl⟩) rfl rfl rfl (Nat.le_of_ble_eq_true rfl) flRX11_41 ?_
                refine V_iload dX11_spreads_130 rfl ?_
                refine V_iload dX11_spreads_132 rfl ?_
                refine V_callSF dX11_spreads_134 (m_cellOf (r := (((((qu x / 8) + 0) : Nat) : Int)).toNat) (c := (((((qu x % 8) : Nat) : Int) + (-1))).toNat) (zI_nn (by omega)) (zI_nn (by omega))) okX11_cellOf lkRX11_108 rfl rfl (Nat.le_of_ble_eq_true rfl) ⟨Nat.le_of_ble_eq_true rfl, Nat.le_of_ble_eq_true rfl⟩ rfl ?_
                refine V_iald_n (i := (8 * (((((qu x / 8) + 0) : Nat) : Int)).toNat + (((((qu x % 8) : Nat) : Int) + (-1))).toNat)) dX11_spreads_137 (Or.inr ⟨rfl, Nat.le_of_ble_eq_true rfl⟩) rfl (by omega) (by decide) ?_
                refine V_top (y := nI (g (8 * (((((qu x / 8) + 0) : Nat) : Int)).toNat + (((((qu x % 8) : Nat) : Int) + (-1))).toNat))) (hMk (8 * (((((qu x / 8) + 0) : Nat) : Int)).toNat + (((((qu x % 8) : Nat) : Int) + (-1))).toNat) (by omega)).1 ?_
                refine V_if_ne_n (tgt := 171) dX11_spreads_138 (by decide) (by omega) (fun h138 => ?_) (fun h138 => ?_)
                · refine V_iinc_n (b := 3) dX11_spreads_171 rfl (nI_add _ _) rfl rfl ?_
                  refine V_goto (tgt := 57) dX11_spreads_174 (by decide) ?_
                  have hdo : dirOk (qu x) 2 ((((qu x / 8) + 0) : Nat) : Int) ((((qu x % 8) : Nat) : Int) + (-1)) := by unfold dirOk; omega
                  exact (ihi 3 w1 g qu n (by omega) (by omega) hx hB hMk hQ hS hf (hSD.old hqx hdo hi123.1 hi123.2 hS hz hcx h138)).sub (by repeat' (first | exact trivial | exact rfl | constructor))
                · have hrm := hS.room (c := 8 * (((((qu x / 8) + 0) : Nat) : Int)).toNat + (((((qu x % 8) : Nat) : Int) + (-1))).toNat) (by omega) (by omega)
                  refine V_aload_n (i := 0) dX11_spreads_141 rfl rfl ?_
                  refine V_getC (k := 19) (q := 57) dX11_spreads_142 (Or.inr ⟨rfl, Nat.le_of_ble_eq_true rfl⟩) rfl rfl rfl (Nat.le_of_ble_eq_true rfl) flRX11_41 ?_
                  refine V_iload dX11_spreads_145 rfl ?_
                  refine V_iload dX11_spreads_147 rfl ?_
                  refine V_callSF dX11_spreads_149 (m_cellOf (r := (((((qu x / 8) + 0) : Nat) : Int)).toNat) (c := (((((qu x % 8) : Nat) : Int) + (-1))).toNat) (zI_nn (by omega)) (zI_nn (by omega))) okX11_cellOf lkRX11_108 rfl rfl (Nat.le_of_ble_eq_true rfl) ⟨Nat.le_of_ble_eq_true rfl, Nat.le_of_ble_eq_true rfl⟩ rfl ?_
                  refine V_iload_n (i := 2) dX11_spreads_152 rfl rfl ?_
                  refine V_iast_n (i := (8 * (((((qu x / 8) + 0) : Nat) : Int)).toNat + (((((qu x % 8) : Nat) : Int) + (-1))).toNat)) dX11_spreads_153 (Or.inr ⟨rfl, Nat.le_of_ble_eq_true rfl⟩) rfl (by omega) (by decide) ?_
                  refine V_aload_n (i := 0) dX11_spreads_154 rfl rfl ?_
                  refine V_getC (k := 20) (q := 58) dX11_spreads_155 (Or.inr ⟨rfl, Nat.le_of_ble_eq_true rfl⟩) rfl rfl rfl (Nat.le_of_ble_eq_true rfl) flRX11_44 ?_
                  refine V_iload dX11_spreads_158 rfl ?_
                  refine V_iload dX11_spreads_160 rfl ?_
                  refine V_iload dX11_spreads_162 rfl ?_
                  refine V_callSF dX11_spreads_164 (m_cellOf (r := (((((qu x / 8) + 0) : Nat) : Int)).toNat) (c := (((((qu x % 8) : Nat) : Int) + (-1))).toNat) (zI_nn (by omega)) (zI_nn (by omega))) okX11_cellOf lkRX11_108 rfl rfl (Nat.le_of_ble_eq_true rfl) ⟨Nat.le_of_ble_eq_true rfl, Nat.le_of_ble_eq_true rfl⟩ rfl ?_
                  refine V_iast_n (i := n) dX11_spreads_167 (Or.inr ⟨rfl, Nat.le_of_ble_eq_true rfl⟩) rfl (by omega) (by decide) ?_
                  refine V_iinc_n (b := (n + 1)) dX11_spreads_168 rfl (nI_add _ _) rfl rfl ?_
                  refine V_iinc_n (b := 3) dX11_spreads_171 rfl (nI_add _ _) rfl rfl ?_
                  refine V_goto (tgt := 57) dX11_spreads_174 (by decide) ?_
                  have hdo : dirOk (qu x) 2 ((((qu x / 8) + 0) : Nat) : Int) ((((qu x % 8) : Nat) : Int) + (-1)) := by unfold dirOk; omega
                  have hnw := hSD.new hqx hdo hi123.1 hi123.2 hm0 hS hcx h138
                  have hux : up qu n (8 * (((((qu x / 8) + 0) : Nat) : Int)).toNat + (((((qu x % 8) : Nat) : Int) + (-1))).toNat) x = qu x := if_neg (by omega)
                  have k9 := ihi 3 _ (up g (8 * (((((qu x / 8) + 0) : Nat) : Int)).toNat + (((((qu x % 8) : Nat) : Int) + (-1))).toNat) m) (up qu n (8 * (((((qu x / 8) + 0) : Nat) : Int)).toNat + (((((qu x % 8) : Nat) : Int) + (-1))).toNat)) (n + 1) (by omega) (by omega) (by omega) ((hB.wr (by decide)).wr (by decide)) ((hMk.put hm rfl).wr (by decide)) ((hQ.wr (by decide)).push rfl) hnw.2.1 ((hf.i1 (by omega) (by unfold PIs2; omega)).i1 (by omega) (by unfold PIs2; omega)) (by rw [hux]; exact hnw.1)
                  rw [hux] at k9
                  exact k9.sub (by repeat' (first | exact trivial | exact rfl | constructor))
            · refine V_iload dX11_spreads_63 rfl ?_
              refine V_iload dX11_spreads_65 rfl ?_
              refine V_if_ne_n (tgt := 74) dX11_spreads_67 (by decide) (by omega) (fun h67 => ?_) (fun h67 => by exfalso; omega)
              refine V_iload dX11_spreads_74 rfl ?_
              refine V_iconst_n (v := 1) dX11_spreads_76 (by decide) ?_
              refine V_icmp_ne_n (tgt := 84) dX11_spreads_77 (by decide) (by omega) (by omega) (fun h77 => ?_) (fun h77 => by exfalso; omega)
              refine V_iconst_n (v := 0) dX11_spreads_84 (by decide) ?_
              refine V_iadd_n dX11_spreads_85 ?_
              refine V_istore dX11_spreads_86 (Nat.le_of_ble_eq_true rfl) rfl rfl ?_
              refine V_iload dX11_spreads_88 rfl ?_
              refine V_iload dX11_spreads_90 rfl ?_
              refine V_iconst_n (v := 2) dX11_spreads_92 (by decide) ?_
              refine V_icmp_ne_n (tgt := 100) dX11_spreads_93 (by decide) (by omega) (by omega) (fun h93 => ?_) (fun h93 => by exfalso; omega)
              refine V_iload dX11_spreads_100 rfl ?_
              refine V_iconst_n (v := 3) dX11_spreads_102 (by decide) ?_
              refine V_icmp_ne_n (tgt := 110) dX11_spreads_103 (by decide) (by omega) (by omega) (fun h103 => by exfalso; omega) (fun h103 => ?_)
              refine V_iconst_n (v := 1) dX11_spreads_106 (by decide) ?_
              refine V_goto (tgt := 111) dX11_spreads_107 (by decide) ?_
              refine V_iadd_n dX11_spreads_111 ?_
              refine V_istore dX11_spreads_112 (Nat.le_of_ble_eq_true rfl) rfl rfl ?_
              rw [zI_n ((qu x / 8) + 0)]
              rw [zI_n ((qu x % 8) + 1)]
              refine V_aload_n (i := 0) dX11_spreads_114 rfl rfl ?_
              refine V_iload dX11_spreads_115 rfl ?_
              refine V_iload dX11_spreads_117 rfl ?_
              refine V_iload_n (i := 3) dX11_spreads_119 rfl rfl ?_
              refine V_callVF dX11_spreads_120 (m_counts hB (r := ((((qu x / 8) + 0) : Nat) : Int)) (c := ((((qu x % 8) + 1) : Nat) : Int)) rfl rfl (by omega) (by omega) (by omega) (by omega) hqo (by omega)) okX11_counts lkRX11_221 (Or.inr ⟨rfl, Nat.le_of_ble_eq_true rfl⟩) rfl rfl rfl rfl (Nat.le_of_ble_eq_true rfl) ⟨Nat.le_of_ble_eq_true rfl, Nat.le_of_ble_eq_true rfl⟩ rfl ?_
              refine V_if_eq_n (tgt := 171) dX11_spreads_123 (by decide) (Nat.lt_of_lt_of_le ite_le (by decide)) (fun h123 => ?_) (fun h123 => ?_)
              · have hi123 := ite_f h123
                refine V_iinc_n (b := 4) dX11_spreads_171 rfl (nI_add _ _) rfl rfl ?_
                refine V_goto (tgt := 57) dX11_spreads_174 (by decide) ?_
                have hdo : dirOk (qu x) 3 ((((qu x / 8) + 0) : Nat) : Int) ((((qu x % 8) + 1) : Nat) : Int) := by unfold dirOk; omega
                exact (ihi 4 w1 g qu n (by omega) (by omega) hx hB hMk hQ hS hf (hSD.no hqx hdo hi123)).sub (by repeat' (first | exact trivial | exact rfl | constructor))
              · have hi123 := ite_t h123
                have hgl := (hMk (8 * (((((qu x / 8) + 0) : Nat) : Int)).toNat + (((((qu x % 8) + 1) : Nat) : Int)).toNat) (by omega)).2
                refine V_aload_n (i := 0) dX11_spreads_126 rfl rfl ?_
                refine V_getC (k := 19) (q := 57) dX11_spreads_127 (Or.inr ⟨rfl, Nat.le_of_ble_eq_true rfl⟩) rfl rfl rfl (Nat.le_of_ble_eq_true rfl) flRX11_41 ?_
                refine V_iload dX11_spreads_130 rfl ?_
                refine V_iload dX11_spreads_132 rfl ?_
                refine V_callSF dX11_spreads_134 (m_cellOf (r := (((((qu x / 8) + 0) : Nat) : Int)).toNat) (c := (((((qu x % 8) + 1) : Nat) : Int)).toNat) (zI_nn (by omega)) (zI_nn (by omega))) okX11_cellOf lkRX11_108 rfl rfl (Nat.le_of_ble_eq_true rfl) ⟨Nat.le_of_ble_eq_true rfl, Nat.le_of_ble_eq_true rfl⟩ rfl ?_
                refine V_iald_n (i := (8 * (((((qu x / 8) + 0) : Nat) : Int)).toNat + (((((qu x % 8) + 1) : Nat) : Int)).toNat)) dX11_spreads_137 (Or.inr ⟨rfl, Nat.le_of_ble_eq_true rfl⟩) rfl (by omega) (by decide) ?_
                refine V_top (y := nI (g (8 * (((((qu x / 8) + 0) : Nat) : Int)).toNat + (((((qu x % 8) + 1) : Nat) : Int)).toNat))) (hMk (8 * (((((qu x / 8) + 0) : Nat) : Int)).toNat + (((((qu x % 8) + 1) : Nat) : Int)).toNat) (by omega)).1 ?_
                refine V_if_ne_n (tgt := 171) dX11_spreads_138 (by decide) (by omega) (fun h138 => ?_) (fun h138 => ?_)
                · refine V_iinc_n (b := 4) dX11_spreads_171 rfl (nI_add _ _) rfl rfl ?_
                  refine V_goto (tgt := 57) dX11_spreads_174 (by decide) ?_
                  have hdo : dirOk (qu x) 3 ((((qu x / 8) + 0) : Nat) : Int) ((((qu x % 8) + 1) : Nat) : Int) := by unfold dirOk; omega
                  exact (ihi 4 w1 g qu n (by omega) (by omega) hx hB hMk hQ hS hf (hSD.old hqx hdo hi123.1 hi123.2 hS hz hcx h138)).sub (by repeat' (first | exact trivial | exact rfl | constructor))
                · have hrm := hS.room (c := 8 * (((((qu x / 8) + 0) : Nat) : Int)).toNat + (((((qu x % 8) + 1) : Nat) : Int)).toNat) (by omega) (by omega)
                  refine V_aload_n (i := 0) dX11_spreads_141 rfl rfl ?_
                  refine V_getC (k := 19) (q := 57) dX11_spreads_142 (Or.inr ⟨rfl, Nat.le_of_ble_eq_true rfl⟩) rfl rfl rfl (Nat.le_of_ble_eq_true rfl) flRX11_41 ?_
                  refine V_iload dX11_spreads_145 rfl ?_
                  refine V_iload dX11_spreads_147 rfl ?_
                  refine V_callSF dX11_spreads_149 (m_cellOf (r := (((((qu x / 8) + 0) : Nat) : Int)).toNat) (c := (((((qu x % 8) + 1) : Nat) : Int)).toNat) (zI_nn (by omega)) (zI_nn (by omega))) okX11_cellOf lkRX11_108 rfl rfl (Nat.le_of_ble_eq_true rfl) ⟨Nat.le_of_ble_eq_true rfl, Nat.le_of_ble_eq_true rfl⟩ rfl ?_
                  refine V_iload_n (i := 2) dX11_spreads_152 rfl rfl ?_
                  refine V_iast_n (i := (8 * (((((qu x / 8) + 0) : Nat) : Int)).toNat + (((((qu x % 8) + 1) : Nat) : Int)).toNat)) dX11_spreads_153 (Or.inr ⟨rfl, Nat.le_of_ble_eq_true rfl⟩) rfl (by omega) (by decide) ?_
                  refine V_aload_n (i := 0) dX11_spreads_154 rfl rfl ?_
                  refine V_getC (k := 20) (q := 58) dX11_spreads_155 (Or.inr ⟨rfl, Nat.le_of_ble_eq_true rfl⟩) rfl rfl rfl (Nat.le_of_ble_eq_true rfl) flRX11_44 ?_
                  refine V_iload dX11_spreads_158 rfl ?_
                  refine V_iload dX11_spreads_160 rfl ?_
                  refine V_iload dX11_spreads_162 rfl ?_
                  refine V_callSF dX11_spreads_164 (m_cellOf (r := (((((qu x / 8) + 0) : Nat) : Int)).toNat) (c := (((((qu x % 8) + 1) : Nat) : Int)).toNat) (zI_nn (by omega)) (zI_nn (by omega))) okX11_cellOf lkRX11_108 rfl rfl (Nat.le_of_ble_eq_true rfl) ⟨Nat.le_of_ble_eq_true rfl, Nat.le_of_ble_eq_true rfl⟩ rfl ?_
                  refine V_iast_n (i := n) dX11_spreads_167 (Or.inr ⟨rfl, Nat.le_of_ble_eq_true rfl⟩) rfl (by omega) (by decide) ?_
                  refine V_iinc_n (b := (n + 1)) dX11_spreads_168 rfl (nI_add _ _) rfl rfl ?_
                  refine V_iinc_n (b := 4) dX11_spreads_171 rfl (nI_add _ _) rfl rfl ?_
                  refine V_goto (tgt := 57) dX11_spreads_174 (by decide) ?_
                  have hdo : dirOk (qu x) 3 ((((qu x / 8) + 0) : Nat) : Int) ((((qu x % 8) + 1) : Nat) : Int) := by unfold dirOk; omega
                  have hnw := hSD.new hqx hdo hi123.1 hi123.2 hm0 hS hcx h138
                  have hux : up qu n (8 * (((((qu x / 8) + 0) : Nat) : Int)).toNat + (((((qu x % 8) + 1) : Nat) : Int)).toNat) x = qu x := if_neg (by omega)
                  have k9 := ihi 4 _ (up g (8 * (((((qu x / 8) + 0) : Nat) : Int)).toNat + (((((qu x % 8) + 1) : Nat) : Int)).toNat) m) (up qu n (8 * (((((qu x / 8) + 0) : Nat) : Int)).toNat + (((((qu x % 8) + 1) : Nat) : Int)).toNat)) (n + 1) (by omega) (by omega) (by omega) ((hB.wr (by decide)).wr (by decide)) ((hMk.put hm rfl).wr (by decide)) ((hQ.wr (by decide)).push rfl) hnw.2.1 ((hf.i1 (by omega) (by unfold PIs2; omega)).i1 (by omega) (by unfold PIs2; omega)) (by rw [hux]; exact hnw.1)
                  rw [hux] at k9
                  exact k9.sub (by repeat' (first | exact trivial | exact rfl | constructor))
      refine V_iload dX11_spreads_20 rfl ?_
      refine V_iload dX11_spreads_22 rfl ?_
      refine V_icmp_ge_n (tgt := 180) dX11_spreads_24 (by decide) (by omega) (by omega) (fun h24 => ?_) (fun h24 => ?_)
      · refine V_iload dX11_spreads_180 rfl ?_
        refine V_iret dX11_spreads_182 rfl rfl ?_
        obtain rfl : x = n := by omega
        exact ⟨x, g, ⟨hMk, hS.2.2.2.1, hS.fin⟩, rfl, hf⟩
      · have hqx := (cn_hd (hS.1 x h24).1).1
        refine V_aload_n (i := 0) dX11_spreads_27 rfl rfl ?_
        refine V_getC (k := 20) (q := 58) dX11_spreads_28 (Or.inr ⟨rfl, Nat.le_of_ble_eq_true rfl⟩) rfl rfl rfl (Nat.le_of_ble_eq_true rfl) flRX11_44 ?_
        refine V_iload dX11_spreads_31 rfl ?_
        refine V_iald_n (i := x) dX11_spreads_33 (Or.inr ⟨rfl, Nat.le_of_ble_eq_true rfl⟩) rfl (by omega) (by decide) ?_
        refine V_top (y := nI (qu x)) (hQ x (by omega)) ?_
        refine V_bipush_n (v := 8) dX11_spreads_34 (by decide) ?_
        refine V_idiv_n dX11_spreads_36 (by omega) (by omega) (by omega) ?_
        refine V_istore dX11_spreads_37 (Nat.le_of_ble_eq_true rfl) rfl rfl ?_
        refine V_aload_n (i := 0) dX11_spreads_39 rfl rfl ?_
        refine V_getC (k := 20) (q := 58) dX11_spreads_40 (Or.inr ⟨rfl, Nat.le_of_ble_eq_true rfl⟩) rfl rfl rfl (Nat.le_of_ble_eq_true rfl) flRX11_44 ?_
        refine V_iload dX11_spreads_43 rfl ?_
        refine V_iald_n (i := x) dX11_spreads_45 (Or.inr ⟨rfl, Nat.le_of_ble_eq_true rfl⟩) rfl (by omega) (by decide) ?_
        refine V_top (y := nI (qu x)) (hQ x (by omega)) ?_
        refine V_bipush_n (v := 8) dX11_spreads_46 (by decide) ?_
        refine V_irem_n dX11_spreads_48 (by omega) (by omega) (by omega) ?_
        refine V_istore dX11_spreads_49 (Nat.le_of_ble_eq_true rfl) rfl rfl ?_
        refine V_iinc_n (b := (x + 1)) dX11_spreads_51 rfl (nI_add _ _) rfl rfl ?_
        refine V_iconst_n (v := 0) dX11_spreads_54 (by decide) ?_
        refine V_istore dX11_spreads_55 (Nat.le_of_ble_eq_true rfl) rfl rfl ?_
        exact (lpi 5 0 w1 g qu n (by omega) (by omega) h24 hB hMk hQ hS hf (fun j hj => by omega)).sub (by repeat' (first | exact trivial | exact rfl | constructor))
  refine V_iconst_n (v := 0) dX11_spreads_0 (by decide) ?_
  refine V_istore dX11_spreads_1 (Nat.le_of_ble_eq_true rfl) rfl rfl ?_
  refine V_iconst_n (v := 1) dX11_spreads_3 (by decide) ?_
  refine V_istore dX11_spreads_4 (Nat.le_of_ble_eq_true rfl) rfl rfl ?_
  refine V_aload_n (i := 0) dX11_spreads_6 rfl rfl ?_
  refine V_getC (k := 20) (q := 58) dX11_spreads_7 (Or.inr ⟨rfl, Nat.le_of_ble_eq_true rfl⟩) rfl rfl rfl (Nat.le_of_ble_eq_true rfl) flRX11_44 ?_
  refine V_iconst_n (v := 0) dX11_spreads_10 (by decide) ?_
  refine V_iload_n (i := 1) dX11_spreads_11 rfl rfl ?_
  refine V_iast_n (i := 0) dX11_spreads_12 (Or.inr ⟨rfl, Nat.le_of_ble_eq_true rfl⟩) rfl (by omega) (by decide) ?_
  refine V_aload_n (i := 0) dX11_spreads_13 rfl rfl ?_
  refine V_getC (k := 19) (q := 57) dX11_spreads_14 (Or.inr ⟨rfl, Nat.le_of_ble_eq_true rfl⟩) rfl rfl rfl (Nat.le_of_ble_eq_true rfl) flRX11_41 ?_
  refine V_iload_n (i := 1) dX11_spreads_17 rfl rfl ?_
  refine V_iload_n (i := 2) dX11_spreads_18 rfl rfl ?_
  refine V_iast_n (i := k0) dX11_spreads_19 (Or.inr ⟨rfl, Nat.le_of_ble_eq_true rfl⟩) rfl (by omega) (by decide) ?_
  exact (lpx 65 0 _ (up f k0 m) (fun _ => k0) 1 (by omega) (by omega) ((hM.wr (by decide)).wr (by decide)) ((hMf.wr (by decide)).put hm rfl) (QM.wr (fun j hj => by obtain rfl : j = 0 := (by omega); exact pI_at) (by decide)) (SP.init hk0 hff rfl) (((Fz.nil (P := PIs2)).i1 (by omega) (by unfold PIs2; omega)).i1 (by omega) (by unfold PIs2; omega))).sub (by repeat' (first | exact trivial | exact rfl | constructor))
def SzM (w : Wd) (H : Nat → Bool) (n : Nat) : Prop := ∀ m, 0 < m → m ≤ n → gI w 59 m = nI (szi H m)
theorem SzM.keepZ {P : Nat → Nat → Prop} {w w1 : Wd} {H : Nat → Bool} {n : Nat} (h : SzM w H n) (hF : Fz P w w1) (n9 : ∀ j, ¬ P 59 j) : SzM w1 H n := fun m h1 h2 => (hF.gi (n9 m)).trans (h m h1 h2)
theorem szi_fmi {H : Nat → Bool} {i m : Nat} (h0 : 0 < m) (hi : i ≤ 64) (hm : m ≤ ns H i) : sm (mkd (fmi H i) m) 64 = szi H m := by
  unfold szi
  refine sm_congr 64 fun k hk => ?_
  have h := fmi_stays (H := H) (k := k) (n := i) h0 hm (64 - i)
  rw [show i + (64 - i) = 64 by omega] at h
  unfold mkd
  by_cases e : fmi H i k = m
  · rw [if_pos e, if_pos (h.mpr e)]
  · rw [if_neg e, if_neg (fun q => e (h.mp q))]
set_option maxRecDepth 100000 in
set_option maxHeartbeats 1000000 in
theorem m_finds {q cq : Nat} {s : St} {w : Wd} (hM : Bk w 48 0 s) (hqo : qOk q cq) (hq : q < 65536) : Ct 1 MX11_finds 5 0 0 [.ref 47, .int (nI q)] w (Mt (some (.int (nI (ns (Hq s cq) 64)))) fun w1 => MkM w1 (fmi (Hq s cq) 64) ∧ SzM w1 (Hq s cq) (ns (Hq s cq) 64) ∧ Fz PIs w w1) := by
  refine Ct_of (by decide +kernel) rfl (Nat.le_of_ble_eq_true rfl) rfl ?_
  have lp2 : ∀ (fu i : Nat) (w1 : Wd), i ≤ 64 → 64 - i < fu → Bk w1 48 0 s → MkM w1 (fmi (Hq s cq) i) → SzM w1 (Hq s cq) (ns (Hq s cq) i) → Fz PIs w w1 → V 1 MX11_finds 5 0 0 (Mt (some (.int (nI (ns (Hq s cq) 64)))) fun w1 => MkM w1 (fmi (Hq s cq) 64) ∧ SzM w1 (Hq s cq) (ns (Hq s cq) 64) ∧ Fz PIs w w1) (fun _ _ => True) 0 0 25 [some (.ref 47), some (.int (nI q)), some (.int (nI (ns (Hq s cq) i))), some (.int (nI i))] [] w1 := by
    intro fu
    induction fu with
    | zero => intro i w1 h1 h2; omega
    | succ fu ih2 =>
      intro i w1 hib hfu hB hMk hSz hf
      have hnl := ns_le (H := (Hq s cq)) i
      refine V_iload_n (i := 3) dX11_finds_25 rfl rfl ?_
      refine V_bipush_n (v := 64) dX11_finds_26 (by decide) ?_
      refine V_icmp_ge_n (tgt := 78) dX11_finds_28 (by decide) (by omega) (by omega) (fun h28 => ?_) (fun h28 => ?_)
      · obtain rfl : i = 64 := by omega
        refine V_iload_n (i := 2) dX11_finds_78 rfl rfl ?_
        refine V_iret dX11_finds_79 rfl rfl ?_
        exact ⟨rfl, hMk, hSz, hf⟩
      · have hfb := (hMk i (by omega)).2
        refine V_aload_n (i := 0) dX11_finds_31 rfl rfl ?_
        refine V_getC (k := 19) (q := 57) dX11_finds_32 (Or.inr ⟨rfl, Nat.le_of_ble_eq_true rfl⟩) rfl rfl rfl (Nat.le_of_ble_eq_true rfl) flRX11_41 ?_
        refine V_iload_n (i := 3) dX11_finds_35 rfl rfl ?_
        refine V_iald_n (i := i) dX11_finds_36 (Or.inr ⟨rfl, Nat.le_of_ble_eq_true rfl⟩) rfl (by omega) (by decide) ?_
        refine V_top (y := nI (fmi (Hq s cq) i i)) (hMk i (by omega)).1 ?_
        refine V_if_ne_n (tgt := 72) dX11_finds_37 (by decide) (by omega) (fun h37 => ?_) (fun h37 => ?_)
        · refine V_iinc_n (b := (i + 1)) dX11_finds_72 rfl (nI_add _ _) rfl rfl ?_
          refine V_goto (tgt := 25) dX11_finds_75 (by decide) ?_
          have hns : ¬ Sta (Hq s cq) i := fun z => h37 ((fmi_sta z.1).mpr z)
          have k9 := ih2 (i + 1) w1 (by omega) (by omega) hB (hMk.ext fun k hk => (fmi_s0 fun z => hns z.1).symm) (by rw [ns_s0 hns]; exact hSz) hf
          rw [ns_s0 hns] at k9
          exact k9.sub (by repeat' (first | exact trivial | exact rfl | constructor))
        · refine V_aload_n (i := 0) dX11_finds_40 rfl rfl ?_
          refine V_iload_n (i := 3) dX11_finds_41 rfl rfl ?_
          refine V_bipush_n (v := 8) dX11_finds_42 (by decide) ?_
          refine V_idiv_n dX11_finds_44 (by omega) (by omega) (by omega) ?_
          refine V_iload_n (i := 3) dX11_finds_45 rfl rfl ?_
          refine V_bipush_n (v := 8) dX11_finds_46 (by decide) ?_
          refine V_irem_n dX11_finds_48 (by omega) (by omega) (by omega) ?_
          refine V_iload_n (i := 1) dX11_finds_49 rfl rfl ?_
          refine V_callVF dX11_finds_50 (m_counts hB (r := (((i / 8) : Nat) : Int)) (c := (((i % 8) : Nat) : Int)) (zI_n _) (zI_n _) (by omega) (by omega) (by omega) (by omega) hqo (by omega)) okX11_counts lkRX11_221 (Or.inr ⟨rfl, Nat.le_of_ble_eq_true rfl⟩) rfl rfl rfl rfl (Nat.le_of_ble_eq_true rfl) ⟨Nat.le_of_ble_eq_true rfl, Nat.le_of_ble_eq_true rfl⟩ rfl ?_
          refine V_if_eq_n (tgt := 72) dX11_finds_53 (by decide) (Nat.lt_of_lt_of_le ite_le (by decide)) (fun h53 => ?_) (fun h53 => ?_)
          · have hi53 := ite_f h53
            refine V_iinc_n (b := (i + 1)) dX11_finds_72 rfl (nI_add _ _) rfl rfl ?_
            refine V_goto (tgt := 25) dX11_finds_75 (by decide) ?_
            have hns : ¬ Sta (Hq s cq) i := fun z => hi53 ⟨by omega, by rw [show 8 * (((i / 8 : Nat) : Int)).toNat + (((i % 8 : Nat) : Int)).toNat = i by omega]; exact z.1.2⟩
            have k9 := ih2 (i + 1) w1 (by omega) (by omega) hB (hMk.ext fun k hk => (fmi_s0 fun z => hns z.1).symm) (by rw [ns_s0 hns]; exact hSz) hf
            rw [ns_s0 hns] at k9
            exact k9.sub (by repeat' (first | exact trivial | exact rfl | constructor))
          · have hi53 := ite_t h53
            have hHi : (Hq s cq) i = true := by
              have h8 := hi53.2
              rw [show 8 * (((i / 8 : Nat) : Int)).toNat + (((i % 8 : Nat) : Int)).toNat = i by omega] at h8
              exact h8
            have hst : Sta (Hq s cq) i := (fmi_sta ⟨by omega, hHi⟩).mp h37
            refine V_iinc_n (b := ((ns (Hq s cq) i) + 1)) dX11_finds_56 rfl (nI_add _ _) rfl rfl ?_
            refine V_aload_n (i := 0) dX11_finds_59 rfl rfl ?_
            refine V_getC (k := 21) (q := 59) dX11_finds_60 (Or.inr ⟨rfl, Nat.le_of_ble_eq_true rfl⟩) rfl rfl rfl (Nat.le_of_ble_eq_true rfl) flRX11_47 ?_
            refine V_iload_n (i := 2) dX11_finds_63 rfl rfl ?_
            refine V_aload_n (i := 0) dX11_finds_64 rfl rfl ?_
            refine V_iload_n (i := 3) dX11_finds_65 rfl rfl ?_
            refine V_iload_n (i := 2) dX11_finds_66 rfl rfl ?_
            refine V_iload_n (i := 1) dX11_finds_67 rfl rfl ?_
            refine V_callV dX11_finds_68 (m_spreads (s := s) (cq := cq) (k0 := i) (m := ns (Hq s cq) i + 1) (q := q) hB hqo (by omega) hMk hst.1 (fun d hd => by have := fmi_new (H := (Hq s cq)) (n := i) (k := d) hst hd; exact this) (fun d hd hx => by have := fmi_le (H := (Hq s cq)) (k := d) i; omega) (by omega) (by omega)) okX11_spreads lkRX11_225 (Or.inr ⟨rfl, Nat.le_of_ble_eq_true rfl⟩) rfl rfl rfl rfl (Nat.le_of_ble_eq_true rfl) ⟨Nat.le_of_ble_eq_true rfl, Nat.le_of_ble_eq_true rfl⟩ rfl ⟨Nat.zero_le _, Nat.zero_le _⟩ (fun v9 u1 hu1 => ?_) (fun E9 w9 h9 => by rcases h9 with ⟨n1, g1, h9⟩ <;> cases h9.2.1)
            rcases hu1 with ⟨n1, g1, hu1f, e9, hu1⟩
            · cases e9
              obtain ⟨hg1, hn1, hg2⟩ := hu1f
              have hmn : MkM u1 (fmi (Hq s cq) (i + 1)) := hg1.ext fun k hk => fmi_go hst rfl rfl (hg2 k hk)
              have hsz : n1 = szi (Hq s cq) (ns (Hq s cq) i + 1) := by
                rw [hn1, ← szi_fmi (i := i + 1) (by omega) (by omega) (by rw [ns_s1 hst]; omega)]
                refine sm_congr 64 fun k hk => ?_
                unfold mkd
                rw [fmi_go hst rfl rfl (hg2 k hk)]
              have hn64 := @szi_le (Hq s cq) (ns (Hq s cq) i + 1)
              refine V_iast_n (i := ((ns (Hq s cq) i) + 1)) dX11_finds_71 (Or.inr ⟨rfl, Nat.le_of_ble_eq_true rfl⟩) rfl (by omega) (by decide) ?_
              refine V_iinc_n (b := (i + 1)) dX11_finds_72 rfl (nI_add _ _) rfl rfl ?_
              refine V_goto (tgt := 25) dX11_finds_75 (by decide) ?_
              have hSz9 : SzM (pI u1 59 (ns (Hq s cq) i + 1) (nI n1)) (Hq s cq) (ns (Hq s cq) i + 1) := fun m h1 h2 => by
                by_cases e : m = ns (Hq s cq) i + 1
                · rw [e, hsz]; exact pI_at
                · exact pI_ne (fun z => e z.2) ((hu1.gi (by omega)).trans (hSz m h1 (by omega)))
              have k9 := ih2 (i + 1) (pI u1 59 (ns (Hq s cq) i + 1) (nI n1)) (by omega) (by omega) ((hB.keep hu1 (fun k _ => by omega)).wr (by decide)) (hmn.wr (by decide)) (by rw [ns_s1 hst]; exact hSz9) ((hf.trans (hu1.mono (fun b j z => by unfold PIs; omega))).i1 (by omega) (by unfold PIs; omega))
              rw [ns_s1 hst] at k9
              exact k9.sub (by repeat' (first | exact trivial | exact rfl | constructor))
  have lp1 : ∀ (fu i : Nat) (w1 : Wd), i ≤ 64 → 64 - i < fu → Bk w1 48 0 s → (∀ j, j < i → gI w1 57 j = nI 0) → Fz PIs w w1 → V 1 MX11_finds 5 0 0 (Mt (some (.int (nI (ns (Hq s cq) 64)))) fun w1 => MkM w1 (fmi (Hq s cq) 64) ∧ SzM w1 (Hq s cq) (ns (Hq s cq) 64) ∧ Fz PIs w w1) (fun _ _ => True) 0 0 2 [some (.ref 47), some (.int (nI q)), some (.int (nI i)), none] [] w1 := by
    intro fu
    induction fu with
    | zero => intro i w1 h1 h2; omega
    | succ fu ih1 =>
      intro i w1 hib hfu hB hZ hf
      refine V_iload_n (i := 2) dX11_finds_2 rfl rfl ?_
      refine V_bipush_n (v := 64) dX11_finds_3 (by decide) ?_
      refine V_icmp_ge_n (tgt := 21) dX11_finds_5 (by decide) (by omega) (by omega) (fun h5 => ?_) (fun h5 => ?_)
      · refine V_iconst_n (v := 0) dX11_finds_21 (by decide) ?_
        refine V_istore_n (i := 2) dX11_finds_22 rfl (Nat.le_of_ble_eq_true rfl) rfl rfl ?_
        refine V_iconst_n (v := 0) dX11_finds_23 (by decide) ?_
        refine V_istore_n (i := 3) dX11_finds_24 rfl (Nat.le_of_ble_eq_true rfl) rfl rfl ?_
        obtain rfl : i = 64 := by omega
        exact (lp2 65 0 w1 (by omega) (by omega) hB (fun k hk => ⟨hZ k hk, Nat.zero_le _⟩) (fun m h1 h2 => by have h3 : m ≤ 0 := h2; omega) hf).sub (by repeat' (first | exact trivial | exact rfl | constructor))
      · refine V_aload_n (i := 0) dX11_finds_8 rfl rfl ?_
        refine V_getC (k := 19) (q := 57) dX11_finds_9 (Or.inr ⟨rfl, Nat.le_of_ble_eq_true rfl⟩) rfl rfl rfl (Nat.le_of_ble_eq_true rfl) flRX11_41 ?_
        refine V_iload_n (i := 2) dX11_finds_12 rfl rfl ?_
        refine V_iconst_n (v := 0) dX11_finds_13 (by decide) ?_
        refine V_iast_n (i := i) dX11_finds_14 (Or.inr ⟨rfl, Nat.le_of_ble_eq_true rfl⟩) rfl (by omega) (by decide) ?_
        refine V_iinc_n (b := (i + 1)) dX11_finds_15 rfl (nI_add _ _) rfl rfl ?_
        refine V_goto (tgt := 2) dX11_finds_18 (by decide) ?_
        exact (ih1 (i + 1) _ (by omega) (by omega) (hB.wr (by decide)) (cp0 (f := fun _ => nI 0) hZ rfl) (hf.i1 (by omega) (by unfold PIs; omega))).sub (by repeat' (first | exact trivial | exact rfl | constructor))
  refine V_iconst_n (v := 0) dX11_finds_0 (by decide) ?_
  refine V_istore_n (i := 2) dX11_finds_1 rfl (Nat.le_of_ble_eq_true rfl) rfl rfl ?_
  exact (lp1 65 0 w (by omega) (by omega) hM (fun j hj => by omega) Fz.nil).sub (by repeat' (first | exact trivial | exact rfl | constructor))
set_option maxRecDepth 100000 in
set_option maxHeartbeats 1000000 in
theorem m_islandCount {S : Sys} {w : Wd} (hC : MI w S) : Ct 1 MX11_islandCount 8 0 0 [.ref 47] w (PoM (fIslandCount S) w) := by
  refine Ct_of (by decide +kernel) rfl (Nat.le_of_ble_eq_true rfl) rfl ?_
  refine V_aload_n (i := 0) dX11_islandCount_0 rfl rfl ?_
  refine V_iconst_n (v := 0) dX11_islandCount_1 (by decide) ?_
  refine V_putI (k := 9) (ty := .int) dX11_islandCount_2 (Or.inr ⟨rfl, Nat.le_of_ble_eq_true rfl⟩) rfl rfl rfl (Nat.le_of_ble_eq_true rfl) flRX11_66 rfl (by decide +kernel) rfl rfl ?_
  refine V_aload_n (i := 0) dX11_islandCount_5 rfl rfl ?_
  refine V_iconst_n (v := 0) dX11_islandCount_6 (by decide) ?_
  refine V_callVM dX11_islandCount_7 (m_finds (q := 0) (cq := 42) (hC.1.wr (by decide)) (Or.inl ⟨rfl, rfl⟩) (by omega)) okX11_finds lkRX11_228 (Or.inr ⟨rfl, Nat.le_of_ble_eq_true rfl⟩) rfl rfl rfl rfl (Nat.le_of_ble_eq_true rfl) ⟨Nat.le_of_ble_eq_true rfl, Nat.le_of_ble_eq_true rfl⟩ rfl ?_
  intro u1 hu1
  have hns := ns_le (H := (Hq S.1 42)) 64
  refine V_iret dX11_islandCount_10 rfl rfl ?_
  have e9 : fIslandCount S = (0, nI (ns (Hq S.1 42) 64), S) := by simp [fIslandCount, fCell, fLive, q2, cl_nat, b2, H0]
  rw [e9]
  exact ⟨⟨_, rfl, fun _ => rfl⟩, hC.scr (((Fz.nil (P := PScr)).i1 (by omega) (by unfold PScr; omega)).trans (hu1.2.2.mono (fun b j q => by unfold PScr; omega))), ((hu1.2.2.gi (by omega)).trans pI_at), (((Fz.nil (P := PScr)).i1 (by omega) (by unfold PScr; omega)).trans (hu1.2.2.mono (fun b j q => by unfold PScr; omega))).1⟩
set_option maxRecDepth 100000 in
set_option maxHeartbeats 1000000 in
theorem m_islandCountByMerging {S : Sys} {w : Wd} (hC : MI w S) : Ct 1 MX11_islandCountByMerging 9 0 0 [.ref 47] w (PoM (fIslandCount S) w) := by
  refine Ct_of (by decide +kernel) rfl (Nat.le_of_ble_eq_true rfl) rfl ?_
  refine V_aload_n (i := 0) dX11_islandCountByMerging_0 rfl rfl ?_
  refine V_callV dX11_islandCountByMerging_1 (m_islandCount hC) okX11_islandCount lkRX11_231 (Or.inr ⟨rfl, Nat.le_of_ble_eq_true rfl⟩) rfl rfl rfl rfl (Nat.le_of_ble_eq_true rfl) ⟨Nat.le_of_ble_eq_true rfl, Nat.le_of_ble_eq_true rfl⟩ rfl ⟨Nat.zero_le _, Nat.zero_le _⟩ (fun v9 u1 hu1 => ?_) (fun E9 w9 h9 => by obtain ⟨⟨x9, h9, _⟩, _⟩ := h9; cases h9)
  obtain ⟨⟨x1, e9, hx1⟩, hu1⟩ := hu1
  cases e9
  refine V_iret dX11_islandCountByMerging_4 rfl rfl ?_
  exact ⟨⟨_, rfl, hx1⟩, hu1⟩
set_option maxRecDepth 100000 in
set_option maxHeartbeats 1000000 in
theorem m_islandsOf {q : Nat} {S : Sys} {w : Wd} (hC : MI w S) (hq : q < 65536) : Ct 1 MX11_islandsOf 8 0 0 [.ref 47, .int (nI q)] w (PoM (fIslandsOf S q) w) := by
  refine Ct_of (by decide +kernel) rfl (Nat.le_of_ble_eq_true rfl) rfl ?_
  refine V_aload_n (i := 0) dX11_islandsOf_0 rfl rfl ?_
  refine V_iconst_n (v := 0) dX11_islandsOf_1 (by decide) ?_
  refine V_putI (k := 9) (ty := .int) dX11_islandsOf_2 (Or.inr ⟨rfl, Nat.le_of_ble_eq_true rfl⟩) rfl rfl rfl (Nat.le_of_ble_eq_true rfl) flRX11_66 rfl (by decide +kernel) rfl rfl ?_
  refine V_iload_n (i := 1) dX11_islandsOf_5 rfl rfl ?_
  refine V_callSF dX11_islandsOf_6 (m_isColour (q := ((q : Nat) : Int)) (zI_n _) (by omega) (by omega)) okX11_isColour lkRX11_127 rfl rfl (Nat.le_of_ble_eq_true rfl) ⟨Nat.le_of_ble_eq_true rfl, Nat.le_of_ble_eq_true rfl⟩ rfl ?_
  refine V_if_eq_n (tgt := 20) dX11_islandsOf_9 (by decide) (Nat.lt_of_lt_of_le ite_le (by decide)) (fun h9 => ?_) (fun h9 => ?_)
  · have hi9 := ite_f h9
    have hcq : isC q = false := Bool.eq_false_iff.mpr (fun z => by have := isC_iff.mp z; omega)
    refine V_aload_n (i := 0) dX11_islandsOf_20 rfl rfl ?_
    refine V_iconst_n (v := 1) dX11_islandsOf_21 (by decide) ?_
    refine V_callVM dX11_islandsOf_22 (m_throwing (w := _) (n := 1)) okX11_throwing lkRX11_75 (Or.inr ⟨rfl, Nat.le_of_ble_eq_true rfl⟩) rfl rfl rfl rfl (Nat.le_of_ble_eq_true rfl) ⟨Nat.le_of_ble_eq_true rfl, Nat.le_of_ble_eq_true rfl⟩ rfl ?_
    intro u1 hu1
    refine V_iret dX11_islandsOf_25 rfl rfl ?_
    have e9 : fIslandsOf S q = (1, 0, S) := by simp [fIslandsOf, fCell, fLive, q2, cl_nat, b2, hcq]
    rw [e9]
    exact ⟨⟨_, rfl, fun q => by simp at q⟩, hC.scr (((Fz.nil (P := PScr)).i1 (by omega) (by unfold PScr; omega)).trans (hu1.2.mono (fun b j q => by unfold PScr; omega))), hu1.1, (((Fz.nil (P := PScr)).i1 (by omega) (by unfold PScr; omega)).trans (hu1.2.mono (fun b j q => by unfold PScr; omega))).1⟩
  · have hi9 := ite_t h9
    have hcq : isC q = true := isC_iff.mpr (by omega)
    refine V_aload_n (i := 0) dX11_islandsOf_12 rfl rfl ?_
    refine V_iload_n (i := 1) dX11_islandsOf_13 rfl rfl ?_
    refine V_callVM dX11_islandsOf_14 (m_finds (q := q) (cq := q) (hC.1.wr (by decide)) (Or.inr ⟨by omega, by omega, rfl⟩) (by omega)) okX11_finds lkRX11_228 (Or.inr ⟨rfl, Nat.le_of_ble_eq_true rfl⟩) rfl rfl rfl rfl (Nat.le_of_ble_eq_true rfl) ⟨Nat.le_of_ble_eq_true rfl, Nat.le_of_ble_eq_true rfl⟩ rfl ?_
    intro u1 hu1
    have hns := ns_le (H := (Hq S.1 q)) 64
    refine V_goto (tgt := 25) dX11_islandsOf_17 (by decide) ?_
    refine V_iret dX11_islandsOf_25 rfl rfl ?_
    have e9 : fIslandsOf S q = (0, nI (ns (Hq S.1 q) 64), S) := by simp [fIslandsOf, fCell, fLive, q2, cl_nat, b2, hcq]
    rw [e9]
    exact ⟨⟨_, rfl, fun _ => rfl⟩, hC.scr (((Fz.nil (P := PScr)).i1 (by omega) (by unfold PScr; omega)).trans (hu1.2.2.mono (fun b j q => by unfold PScr; omega))), ((hu1.2.2.gi (by omega)).trans pI_at), (((Fz.nil (P := PScr)).i1 (by omega) (by unfold PScr; omega)).trans (hu1.2.2.mono (fun b j q => by unfold PScr; omega))).1⟩
set_option maxRecDepth 100000 in
set_option maxHeartbeats 1000000 in
theorem m_islandSize {x y : Int32} {r c : Int} {S : Sys} {w : Wd} (hC : MI w S) (hx : x = zI r) (hy : y = zI c) (r1 : -2147483648 ≤ r) (r2 : r < 2147483648) (c1 : -2147483648 ≤ c) (c2 : c < 2147483648) : Ct 1 MX11_islandSize 8 0 0 [.ref 47, .int x, .int y] w (PoM (fIslandSize S r c) w) := by
  refine Ct_of (by decide +kernel) rfl (Nat.le_of_ble_eq_true rfl) rfl ?_
  subst hx hy
  refine V_aload_n (i := 0) dX11_islandSize_0 rfl rfl ?_
  refine V_iload_n (i := 1) dX11_islandSize_1 rfl rfl ?_
  refine V_iload_n (i := 2) dX11_islandSize_2 rfl rfl ?_
  refine V_callV dX11_islandSize_3 (m_asksLiving hC.1 rfl rfl r1 r2 c1 c2) okX11_asksLiving lkRX11_217 (Or.inr ⟨rfl, Nat.le_of_ble_eq_true rfl⟩) rfl rfl rfl rfl (Nat.le_of_ble_eq_true rfl) ⟨Nat.le_of_ble_eq_true rfl, Nat.le_of_ble_eq_true rfl⟩ rfl ⟨Nat.zero_le _, Nat.zero_le _⟩ (fun v9 u1 hu1 => ?_) (fun E9 w9 h9 => by rcases h9 with h9 | h9 | h9 <;> cases h9.2.1)
  rcases hu1 with ⟨hu1f, e9, hu1⟩ | ⟨hu1f, e9, hu1⟩ | ⟨hu1f, e9, hu1⟩
  · cases e9
    have hin := hu1f.1
    have hlv := hu1f.2
    have hii := ins_iff.mp hin
    obtain ⟨r0, rfl⟩ : ∃ n : Nat, r = (n : Int) := ⟨r.toNat, by omega⟩
    obtain ⟨c0, rfl⟩ : ∃ n : Nat, c = (n : Int) := ⟨c.toNat, by omega⟩
    simp only [← zI_n]
    have hcc : 8 * r0 + c0 < 64 := by omega
    have hok := hC.1.1.1 (8 * r0 + c0) hcc
    unfold okc at hok
    rw [cl_nat] at hlv
    have hlv9 : ¬ S.1.1 (8 * r0 + c0) < 10 := by omega
    refine V_if_ne_n (tgt := 11) dX11_islandSize_6 (by decide) (by omega) (fun h6 => ?_) (fun h6 => by exfalso; omega)
    refine V_aload_n (i := 0) dX11_islandSize_11 rfl rfl ?_
    refine V_iconst_n (v := 0) dX11_islandSize_12 (by decide) ?_
    refine V_callVM dX11_islandSize_13 (m_finds (q := 0) (cq := 42) (hC.1.keep hu1.2 (fun k _ => by omega)) (Or.inl ⟨rfl, rfl⟩) (by omega)) okX11_finds lkRX11_228 (Or.inr ⟨rfl, Nat.le_of_ble_eq_true rfl⟩) rfl rfl rfl rfl (Nat.le_of_ble_eq_true rfl) ⟨Nat.le_of_ble_eq_true rfl, Nat.le_of_ble_eq_true rfl⟩ rfl ?_
    intro u2 hu2
    have hns := ns_le (H := (Hq S.1 42)) 64
    refine V_pop dX11_islandSize_16 rfl ?_
    refine V_aload_n (i := 0) dX11_islandSize_17 rfl rfl ?_
    refine V_getC (k := 21) (q := 59) dX11_islandSize_18 (Or.inr ⟨rfl, Nat.le_of_ble_eq_true rfl⟩) rfl rfl rfl (Nat.le_of_ble_eq_true rfl) flRX11_47 ?_
    refine V_aload_n (i := 0) dX11_islandSize_21 rfl rfl ?_
    refine V_getC (k := 19) (q := 57) dX11_islandSize_22 (Or.inr ⟨rfl, Nat.le_of_ble_eq_true rfl⟩) rfl rfl rfl (Nat.le_of_ble_eq_true rfl) flRX11_41 ?_
    refine V_iload_n (i := 1) dX11_islandSize_25 rfl rfl ?_
    refine V_iload_n (i := 2) dX11_islandSize_26 rfl rfl ?_
    refine V_callSF dX11_islandSize_27 (m_cellOf (r := r0) (c := c0) (rfl) (rfl)) okX11_cellOf lkRX11_108 rfl rfl (Nat.le_of_ble_eq_true rfl) ⟨Nat.le_of_ble_eq_true rfl, Nat.le_of_ble_eq_true rfl⟩ rfl ?_
    have hHd : Hd (Hq S.1 42) (8 * r0 + c0) := ⟨hcc, hk42.mpr hlv⟩
    have hfp : 0 < fmi (Hq S.1 42) 64 (8 * r0 + c0) := by
      obtain ⟨r9, h91, h92, h93⟩ := sta_ex (8 * r0 + c0) hHd
      exact fmi_pos 64 ⟨r9, by omega, h91, h92⟩
    have hfl1 := fmi_le (H := (Hq S.1 42)) (k := (8 * r0 + c0)) 64
    refine V_iald_n (i := (8 * r0 + c0)) dX11_islandSize_30 (Or.inr ⟨rfl, Nat.le_of_ble_eq_true rfl⟩) rfl (by omega) (by decide) ?_
    refine V_top (y := nI (fmi (Hq S.1 42) 64 (8 * r0 + c0))) (hu2.1 (8 * r0 + c0) (by omega)).1 ?_
    refine V_iald_n (i := (fmi (Hq S.1 42) 64 (8 * r0 + c0))) dX11_islandSize_31 (Or.inr ⟨rfl, Nat.le_of_ble_eq_true rfl⟩) rfl (by omega) (by decide) ?_
    refine V_top (y := nI (szi (Hq S.1 42) (fmi (Hq S.1 42) 64 (8 * r0 + c0)))) (hu2.2.1 (fmi (Hq S.1 42) 64 (8 * r0 + c0)) (by omega) (by omega)) ?_
    refine V_iret dX11_islandSize_32 rfl rfl ?_
    have e9 : fIslandSize S (r0 : Int) (c0 : Int) = (0, nI (szi (Hq S.1 42) (fmi (Hq S.1 42) 64 (8 * r0 + c0))), S) := by simp [fIslandSize, fCell, fLive, q2, cl_nat, b2, hin, hlv9, H0]
    rw [e9]
    exact ⟨⟨_, rfl, fun _ => rfl⟩, hC.scr (((Fz.nil (P := PScr)).trans (hu1.2.mono (fun b j q => by unfold PScr; omega))).trans (hu2.2.2.mono (fun b j q => by unfold PScr; omega))), ((hu2.2.2.gi (by omega)).trans hu1.1), (((Fz.nil (P := PScr)).trans (hu1.2.mono (fun b j q => by unfold PScr; omega))).trans (hu2.2.2.mono (fun b j q => by unfold PScr; omega))).1⟩
  · cases e9
    have hin := hu1f
    refine V_if_ne_n (tgt := 11) dX11_islandSize_6 (by decide) (by omega) (fun h6 => by exfalso; omega) (fun h6 => ?_)
    refine V_iconst_z (v := -1) dX11_islandSize_9 (by decide) ?_
    refine V_iret dX11_islandSize_10 rfl rfl ?_
    have e9 : fIslandSize S r c = (1, 0, S) := by simp [fIslandSize, fCell, fLive, q2, cl_nat, b2, hin]
    rw [e9]
    exact ⟨⟨_, rfl, fun q => by simp at q⟩, hC.scr ((Fz.nil (P := PScr)).trans (hu1.2.mono (fun b j q => by unfold PScr; omega))), hu1.1, ((Fz.nil (P := PScr)).trans (hu1.2.mono (fun b j q => by unfold PScr; omega))).1⟩
  · cases e9
    refine V_if_ne_n (tgt := 11) dX11_islandSize_6 (by decide) (by omega) (fun h6 => by exfalso; omega) (fun h6 => ?_)
    refine V_iconst_z (v := -1) dX11_islandSize_9 (by decide) ?_
    refine V_iret dX11_islandSize_10 rfl rfl ?_
    have e9 : fIslandSize S r c = (2, 0, S) := by simp [fIslandSize, fCell, fLive, q2, cl_nat, b2, hu1f.1, hu1f.2]
    rw [e9]
    exact ⟨⟨_, rfl, fun q => by simp at q⟩, hC.scr ((Fz.nil (P := PScr)).trans (hu1.2.mono (fun b j q => by unfold PScr; omega))), hu1.1, ((Fz.nil (P := PScr)).trans (hu1.2.mono (fun b j q => by unfold PScr; omega))).1⟩
set_option maxRecDepth 100000 in
set_option maxHeartbeats 1000000 in
theorem m_isJoined {x y x2 y2 : Int32} {r c rr cc : Int} {S : Sys} {w : Wd} (hC : MI w S) (hx : x = zI r) (hy : y = zI c) (hx2 : x2 = zI rr) (hy2 : y2 = zI cc) (bb1 : -2147483648 ≤ r) (bb2 : r < 2147483648) (bb3 : -2147483648 ≤ c) (bb4 : c < 2147483648) (bb5 : -2147483648 ≤ rr) (bb6 : rr < 2147483648) (bb7 : -2147483648 ≤ cc) (bb8 : cc < 2147483648) : Ct 1 MX11_isJoined 8 0 0 [.ref 47, .int x, .int y, .int x2, .int y2] w (PoM (fIsJoined S r c rr cc) w) := by
  refine Ct_of (by decide +kernel) rfl (Nat.le_of_ble_eq_true rfl) rfl ?_
  subst hx hy hx2 hy2
  refine V_aload_n (i := 0) dX11_isJoined_0 rfl rfl ?_
  refine V_iconst_n (v := 0) dX11_isJoined_1 (by decide) ?_
  refine V_putI (k := 9) (ty := .int) dX11_isJoined_2 (Or.inr ⟨rfl, Nat.le_of_ble_eq_true rfl⟩) rfl rfl rfl (Nat.le_of_ble_eq_true rfl) flRX11_66 rfl (by decide +kernel) rfl rfl ?_
  refine V_iload_n (i := 1) dX11_isJoined_5 rfl rfl ?_
  refine V_iload_n (i := 2) dX11_isJoined_6 rfl rfl ?_
  refine V_callSF dX11_isJoined_7 (m_isCell (r := r) (c := c) rfl rfl (by omega) (by omega) (by omega) (by omega)) okX11_isCell lkRX11_104 rfl rfl (Nat.le_of_ble_eq_true rfl) ⟨Nat.le_of_ble_eq_true rfl, Nat.le_of_ble_eq_true rfl⟩ rfl ?_
  refine V_if_eq_n (tgt := 22) dX11_isJoined_10 (by decide) (Nat.lt_of_lt_of_le ite_le (by decide)) (fun h10 => ?_) (fun h10 => ?_)
  · have hi10 := ite_f h10
    have hin : ins r c = false := Bool.eq_false_iff.mpr (fun q => hi10 (ins_iff.mp q))
    refine V_aload_n (i := 0) dX11_isJoined_22 rfl rfl ?_
    refine V_iconst_n (v := 1) dX11_isJoined_23 (by decide) ?_
    refine V_callVM dX11_isJoined_24 (m_throwing (w := _) (n := 1)) okX11_throwing lkRX11_75 (Or.inr ⟨rfl, Nat.le_of_ble_eq_true rfl⟩) rfl rfl rfl rfl (Nat.le_of_ble_eq_true rfl) ⟨Nat.le_of_ble_eq_true rfl, Nat.le_of_ble_eq_true rfl⟩ rfl ?_
    intro u1 hu1
    refine V_pop dX11_isJoined_27 rfl ?_
    refine V_iconst_n (v := 0) dX11_isJoined_28 (by decide) ?_
    refine V_iret dX11_isJoined_29 rfl (nar_bool (by decide)) ?_
    have e9 : fIsJoined S r c rr cc = (1, 0, S) := by simp [fIsJoined, fCell, fLive, q2, cl_nat, b2, hin]
    rw [e9]
    exact ⟨⟨_, rfl, fun q => by simp at q⟩, hC.scr (((Fz.nil (P := PScr)).i1 (by omega) (by unfold PScr; omega)).trans (hu1.2.mono (fun b j q => by unfold PScr; omega))), hu1.1, (((Fz.nil (P := PScr)).i1 (by omega) (by unfold PScr; omega)).trans (hu1.2.mono (fun b j q => by unfold PScr; omega))).1⟩
  · have hi10 := ite_t h10
    have hin : ins r c = true := ins_iff.mpr hi10
    refine V_iload_n (i := 3) dX11_isJoined_13 rfl rfl ?_
    refine V_iload dX11_isJoined_14 rfl ?_
    refine V_callSF dX11_isJoined_16 (m_isCell (r := rr) (c := cc) rfl rfl (by omega) (by omega) (by omega) (by omega)) okX11_isCell lkRX11_104 rfl rfl (Nat.le_of_ble_eq_true rfl) ⟨Nat.le_of_ble_eq_true rfl, Nat.le_of_ble_eq_true rfl⟩ rfl ?_
    refine V_if_ne_n (tgt := 30) dX11_isJoined_19 (by decide) (Nat.lt_of_lt_of_le ite_le (by decide)) (fun h19 => ?_) (fun h19 => ?_)
    · have hi19 := ite_t h19
      obtain ⟨r0, rfl⟩ : ∃ n : Nat, r = (n : Int) := ⟨r.toNat, by omega⟩
      obtain ⟨c0, rfl⟩ : ∃ n : Nat, c = (n : Int) := ⟨c.toNat, by omega⟩
      obtain ⟨r1, rfl⟩ : ∃ n : Nat, rr = (n : Int) := ⟨rr.toNat, by omega⟩
      obtain ⟨c1, rfl⟩ : ∃ n : Nat, cc = (n : Int) := ⟨cc.toNat, by omega⟩
      simp only [← zI_n]
      have hin : ins (r0 : Int) (c0 : Int) = true := ins_iff.mpr (by omega)
      have hin2 : ins (r1 : Int) (c1 : Int) = true := ins_iff.mpr (by omega)
      have hcc : 8 * r0 + c0 < 64 := by omega
      have hcc2 : 8 * r1 + c1 < 64 := by omega
      refine V_aload_n (i := 0) dX11_isJoined_30 rfl rfl ?_
      refine V_iconst_n (v := 0) dX11_isJoined_31 (by decide) ?_
      refine V_callVM dX11_isJoined_32 (m_finds (q := 0) (cq := 42) (hC.1.wr (by decide)) (Or.inl ⟨rfl, rfl⟩) (by omega)) okX11_finds lkRX11_228 (Or.inr ⟨rfl, Nat.le_of_ble_eq_true rfl⟩) rfl rfl rfl rfl (Nat.le_of_ble_eq_true rfl) ⟨Nat.le_of_ble_eq_true rfl, Nat.le_of_ble_eq_true rfl⟩ rfl ?_
      intro u1 hu1
      have hns := ns_le (H := (Hq S.1 42)) 64
      refine V_pop dX11_isJoined_35 rfl ?_
      refine V_aload_n (i := 0) dX11_isJoined_36 rfl rfl ?_
      refine V_getC (k := 19) (q := 57) dX11_isJoined_37 (Or.inr ⟨rfl, Nat.le_of_ble_eq_true rfl⟩) rfl rfl rfl (Nat.le_of_ble_eq_true rfl) flRX11_41 ?_
      refine V_iload_n (i := 1) dX11_isJoined_40 rfl rfl ?_
      refine V_iload_n (i := 2) dX11_isJoined_41 rfl rfl ?_
      refine V_callSF dX11_isJoined_42 (m_cellOf (r := r0) (c := c0) (rfl) (rfl)) okX11_cellOf lkRX11_108 rfl rfl (Nat.le_of_ble_eq_true rfl) ⟨Nat.le_of_ble_eq_true rfl, Nat.le_of_ble_eq_true rfl⟩ rfl ?_
      have hfl1 := fmi_le (H := (Hq S.1 42)) (k := (8 * r0 + c0)) 64
      refine V_iald_n (i := (8 * r0 + c0)) dX11_isJoined_45 (Or.inr ⟨rfl, Nat.le_of_ble_eq_true rfl⟩) rfl (by omega) (by decide) ?_
      refine V_top (y := nI (fmi (Hq S.1 42) 64 (8 * r0 + c0))) (hu1.1 (8 * r0 + c0) (by omega)).1 ?_
      refine V_istore dX11_isJoined_46 (Nat.le_of_ble_eq_true rfl) rfl rfl ?_
      refine V_iload dX11_isJoined_48 rfl ?_
      refine V_if_le_n (tgt := 73) dX11_isJoined_50 (by decide) (by omega) (fun h50 => ?_) (fun h50 => ?_)
      · refine V_iconst_n (v := 0) dX11_isJoined_73 (by decide) ?_
        refine V_iret dX11_isJoined_74 rfl (nar_bool (by decide)) ?_
        have hj : fmi (Hq S.1 42) 64 (8 * r0 + c0) = 0 := by omega
        have e9 : fIsJoined S (r0 : Int) (c0 : Int) (r1 : Int) (c1 : Int) = (0, nI 0, S) := by simp [fIsJoined, fCell, fLive, q2, cl_nat, b2, hin, hin2, H0, hj]
        rw [e9]
        exact ⟨⟨_, rfl, fun _ => rfl⟩, hC.scr (((Fz.nil (P := PScr)).i1 (by omega) (by unfold PScr; omega)).trans (hu1.2.2.mono (fun b j q => by unfold PScr; omega))), ((hu1.2.2.gi (by omega)).trans pI_at), (((Fz.nil (P := PScr)).i1 (by omega) (by unfold PScr; omega)).trans (hu1.2.2.mono (fun b j q => by unfold PScr; omega))).1⟩
      · refine V_iload dX11_isJoined_53 rfl ?_
        refine V_aload_n (i := 0) dX11_isJoined_55 rfl rfl ?_
        refine V_getC (k := 19) (q := 57) dX11_isJoined_56 (Or.inr ⟨rfl, Nat.le_of_ble_eq_true rfl⟩) rfl rfl rfl (Nat.le_of_ble_eq_true rfl) flRX11_41 ?_
        refine V_iload_n (i := 3) dX11_isJoined_59 rfl rfl ?_
        refine V_iload dX11_isJoined_60 rfl ?_
        refine V_callSF dX11_isJoined_62 (m_cellOf (r := r1) (c := c1) (rfl) (rfl)) okX11_cellOf lkRX11_108 rfl rfl (Nat.le_of_ble_eq_true rfl) ⟨Nat.le_of_ble_eq_true rfl, Nat.le_of_ble_eq_true rfl⟩ rfl ?_
        have hfl2 := fmi_le (H := (Hq S.1 42)) (k := (8 * r1 + c1)) 64
        refine V_iald_n (i := (8 * r1 + c1)) dX11_isJoined_65 (Or.inr ⟨rfl, Nat.le_of_ble_eq_true rfl⟩) rfl (by omega) (by decide) ?_
        refine V_top (y := nI (fmi (Hq S.1 42) 64 (8 * r1 + c1))) (hu1.1 (8 * r1 + c1) (by omega)).1 ?_
        refine V_icmp_ne_n (tgt := 73) dX11_isJoined_66 (by decide) (by omega) (by omega) (fun h66 => ?_) (fun h66 => ?_)
        · refine V_iconst_n (v := 0) dX11_isJoined_73 (by decide) ?_
          refine V_iret dX11_isJoined_74 rfl (nar_bool (by decide)) ?_
          have hj1 : ¬ fmi (Hq S.1 42) 64 (8 * r0 + c0) = 0 := by omega
          have e9 : fIsJoined S (r0 : Int) (c0 : Int) (r1 : Int) (c1 : Int) = (0, nI 0, S) := by simp [fIsJoined, fCell, fLive, q2, cl_nat, b2, hin, hin2, H0, hj1, h66]
          rw [e9]
          exact ⟨⟨_, rfl, fun _ => rfl⟩, hC.scr (((Fz.nil (P := PScr)).i1 (by omega) (by unfold PScr; omega)).trans (hu1.2.2.mono (fun b j q => by unfold PScr; omega))), ((hu1.2.2.gi (by omega)).trans pI_at), (((Fz.nil (P := PScr)).i1 (by omega) (by unfold PScr; omega)).trans (hu1.2.2.mono (fun b j q => by unfold PScr; omega))).1⟩
        · refine V_iconst_n (v := 1) dX11_isJoined_69 (by decide) ?_
          refine V_goto (tgt := 74) dX11_isJoined_70 (by decide) ?_
          refine V_iret dX11_isJoined_74 rfl (nar_bool (by decide)) ?_
          have hj1 : ¬ fmi (Hq S.1 42) 64 (8 * r0 + c0) = 0 := by omega
          have hj2 : ¬ fmi (Hq S.1 42) 64 (8 * r1 + c1) = 0 := by omega
          have e9 : fIsJoined S (r0 : Int) (c0 : Int) (r1 : Int) (c1 : Int) = (0, nI 1, S) := by simp [fIsJoined, fCell, fLive, q2, cl_nat, b2, hin, hin2, H0, hj1, h66, hj2]
          rw [e9]
          exact ⟨⟨_, rfl, fun _ => rfl⟩, hC.scr (((Fz.nil (P := PScr)).i1 (by omega) (by unfold PScr; omega)).trans (hu1.2.2.mono (fun b j q => by unfold PScr; omega))), ((hu1.2.2.gi (by omega)).trans pI_at), (((Fz.nil (P := PScr)).i1 (by omega) (by unfold PScr; omega)).trans (hu1.2.2.mono (fun b j q => by unfold PScr; omega))).1⟩
    · have hi19 := ite_f h19
      have hin2 : ins rr cc = false := Bool.eq_false_iff.mpr (fun q => hi19 (ins_iff.mp q))
      refine V_aload_n (i := 0) dX11_isJoined_22 rfl rfl ?_
      refine V_iconst_n (v := 1) dX11_isJoined_23 (by decide) ?_
      refine V_callVM dX11_isJoined_24 (m_throwing (w := _) (n := 1)) okX11_throwing lkRX11_75 (Or.inr ⟨rfl, Nat.le_of_ble_eq_true rfl⟩) rfl rfl rfl rfl (Nat.le_of_ble_eq_true rfl) ⟨Nat.le_of_ble_eq_true rfl, Nat.le_of_ble_eq_true rfl⟩ rfl ?_
      intro u1 hu1
      refine V_pop dX11_isJoined_27 rfl ?_
      refine V_iconst_n (v := 0) dX11_isJoined_28 (by decide) ?_
      refine V_iret dX11_isJoined_29 rfl (nar_bool (by decide)) ?_
      have e9 : fIsJoined S r c rr cc = (1, 0, S) := by simp [fIsJoined, fCell, fLive, q2, cl_nat, b2, hin, hin2]
      rw [e9]
      exact ⟨⟨_, rfl, fun q => by simp at q⟩, hC.scr (((Fz.nil (P := PScr)).i1 (by omega) (by unfold PScr; omega)).trans (hu1.2.mono (fun b j q => by unfold PScr; omega))), hu1.1, (((Fz.nil (P := PScr)).i1 (by omega) (by unfold PScr; omega)).trans (hu1.2.mono (fun b j q => by unfold PScr; omega))).1⟩
set_option maxRecDepth 100000 in
set_option maxHeartbeats 1000000 in
theorem m_largestIsland {S : Sys} {w : Wd} (hC : MI w S) : Ct 1 MX11_largestIsland 8 0 0 [.ref 47] w (PoM (fLargestIsland S) w) := by
  refine Ct_of (by decide +kernel) rfl (Nat.le_of_ble_eq_true rfl) rfl ?_
  refine V_aload_n (i := 0) dX11_largestIsland_0 rfl rfl ?_
  refine V_iconst_n (v := 0) dX11_largestIsland_1 (by decide) ?_
  refine V_putI (k := 9) (ty := .int) dX11_largestIsland_2 (Or.inr ⟨rfl, Nat.le_of_ble_eq_true rfl⟩) rfl rfl rfl (Nat.le_of_ble_eq_true rfl) flRX11_66 rfl (by decide +kernel) rfl rfl ?_
  refine V_aload_n (i := 0) dX11_largestIsland_5 rfl rfl ?_
  refine V_iconst_n (v := 0) dX11_largestIsland_6 (by decide) ?_
  refine V_callVM dX11_largestIsland_7 (m_finds (q := 0) (cq := 42) (hC.1.wr (by decide)) (Or.inl ⟨rfl, rfl⟩) (by omega)) okX11_finds lkRX11_228 (Or.inr ⟨rfl, Nat.le_of_ble_eq_true rfl⟩) rfl rfl rfl rfl (Nat.le_of_ble_eq_true rfl) ⟨Nat.le_of_ble_eq_true rfl, Nat.le_of_ble_eq_true rfl⟩ rfl ?_
  intro u1 hu1
  have hns := ns_le (H := (Hq S.1 42)) 64
  refine V_istore_n (i := 1) dX11_largestIsland_10 rfl (Nat.le_of_ble_eq_true rfl) rfl rfl ?_
  refine V_iconst_n (v := 0) dX11_largestIsland_11 (by decide) ?_
  refine V_istore_n (i := 2) dX11_largestIsland_12 rfl (Nat.le_of_ble_eq_true rfl) rfl rfl ?_
  refine V_iconst_n (v := 1) dX11_largestIsland_13 (by decide) ?_
  refine V_istore_n (i := 3) dX11_largestIsland_14 rfl (Nat.le_of_ble_eq_true rfl) rfl rfl ?_
  have hSz := hu1.2.1
  have hf : Fz PScr w u1 := (((Fz.nil (P := PScr)).i1 (by omega) (by unfold PScr; omega)).trans (hu1.2.2.mono (fun b j q => by unfold PScr; omega)))
  have h9 : gI u1 47 9 = nI 0 := ((hu1.2.2.gi (by omega)).trans pI_at)
  generalize u1 = w1 at *
  have lp : ∀ (fu i : Nat) , i ≤ ns (Hq S.1 42) 64 → ns (Hq S.1 42) 64 - i < fu → V 1 MX11_largestIsland 8 0 0 (PoM (fLargestIsland S) w) (fun _ _ => True) 0 0 15 [some (.ref 47), some (.int (nI (ns (Hq S.1 42) 64))), some (.int (nI (lgi (Hq S.1 42) i))), some (.int (nI (i + 1)))] [] w1 := by
    intro fu
    induction fu with
    | zero => intro i  h1 h2; omega
    | succ fu ih =>
      intro i  hib hfu
      have hns := ns_le (H := (Hq S.1 42)) 64
      have hl1 := lgi_le (H := (Hq S.1 42)) i
      have hs1 := @szi_le (Hq S.1 42) (i + 1)
      have e1 := @lgi_s (Hq S.1 42) i
      refine V_iload_n (i := 3) dX11_largestIsland_15 rfl rfl ?_
      refine V_iload_n (i := 1) dX11_largestIsland_16 rfl rfl ?_
      refine V_icmp_gt_n (tgt := 37) dX11_largestIsland_17 (by decide) (by omega) (by omega) (fun h17 => ?_) (fun h17 => ?_)
      · refine V_iload_n (i := 2) dX11_largestIsland_37 rfl rfl ?_
        refine V_iret dX11_largestIsland_38 rfl rfl ?_
        have ei : i = ns (Hq S.1 42) 64 := by omega
        rw [ei]
        have e9 : fLargestIsland S = (0, nI (lgi (Hq S.1 42) (ns (Hq S.1 42) 64)), S) := rfl
        rw [e9]
        exact ⟨⟨_, rfl, fun _ => rfl⟩, hC.scr hf, h9, hf.1⟩
      · refine V_iload_n (i := 2) dX11_largestIsland_20 rfl rfl ?_
        refine V_aload_n (i := 0) dX11_largestIsland_21 rfl rfl ?_
        refine V_getC (k := 21) (q := 59) dX11_largestIsland_22 (Or.inr ⟨rfl, Nat.le_of_ble_eq_true rfl⟩) rfl rfl rfl (Nat.le_of_ble_eq_true rfl) flRX11_47 ?_
        refine V_iload_n (i := 3) dX11_largestIsland_25 rfl rfl ?_
        refine V_iald_n (i := (i + 1)) dX11_largestIsland_26 (Or.inr ⟨rfl, Nat.le_of_ble_eq_true rfl⟩) rfl (by omega) (by decide) ?_
        refine V_top (y := nI (szi (Hq S.1 42) (i + 1))) (hSz (i + 1) (by omega) (by omega)) ?_
        refine V_max dX11_largestIsland_27 lkRX11_234 (by omega) (by omega) (Nat.le_of_ble_eq_true rfl) (by decide) ?_
        refine V_istore_n (i := 2) dX11_largestIsland_30 rfl (Nat.le_of_ble_eq_true rfl) rfl rfl ?_
        refine V_iinc_n (b := ((i + 1) + 1)) dX11_largestIsland_31 rfl (nI_add _ _) rfl rfl ?_
        refine V_goto (tgt := 15) dX11_largestIsland_34 (by decide) ?_
        have k9 := ih (i + 1) (by omega) (by omega)
        rw [e1] at k9
        exact k9.sub (by repeat' (first | exact trivial | exact rfl | constructor))
  exact (lp (ns (Hq S.1 42) 64 + 1) 0 (by omega) (by omega)).sub (by repeat' (first | exact trivial | exact rfl | constructor))
end MMISL
