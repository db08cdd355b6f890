/-! ISLANDS: the walks. Printed by wip/whole/gen/mk19.py. -/
section MISLES
def InI (b : Nat) : Prop := 40 ≤ b ∧ b ≤ 42
/-- the marks; the queue -/
def MkW (w : Wd) (g : Nat → Nat) : Prop := ∀ k, k < 64 → gI w 41 k = nI (g k) ∧ g k ≤ 64
def QW (w : Wd) (q : Nat → Nat) (n : Nat) : Prop := (∀ j, j < n → gI w 42 j = nI (q j)) ∧ gI w 40 2 = nI n
abbrev Hq (s : St) (q : Nat) : Nat → Bool := fun k => hk (s.1 k) q
theorem st_isl {a : Nat} (h : IsSt a) : ¬ InI a ∧ ¬ InI (a + 1) ∧ ¬ InI (a + 2) := by
  have := (by decide : ∀ a ∈ stL, a + 2 < 40) a h
  unfold InI; omega
theorem Repr.keepI {w w1 : Wd} {a : Nat} {s : St} (hR : Repr w a s) (hF : Fr InI w w1) : Repr w1 a s := hR.keep hF (st_isl hR.1).1 (st_isl hR.1).2.1 (st_isl hR.1).2.2
theorem MkW.ext {w : Wd} {g h : Nat → Nat} (hM : MkW w g) (e : ∀ k, k < 64 → g k = h k) : MkW w h := fun k hk => by rw [← e k hk]; exact hM k hk
theorem MkW.keep {w w1 : Wd} {g : Nat → Nat} {P : Nat → Prop} (hM : MkW w g) (hF : Fr P w w1) (h : ¬ P 41) : MkW w1 g := fun k hk => by rw [hF.gi h]; exact hM k hk
theorem nI_dec {n : Nat} (h : 0 < n) : nI n + Int32.ofInt (-1) = nI (n - 1) := by
  obtain ⟨m, rfl⟩ : ∃ m, n = m + 1 := ⟨n - 1, by omega⟩
  rw [← nI_add, Int32.add_assoc, show nI 1 + Int32.ofInt (-1) = 0 by decide, Int32.add_zero]
  rfl
set_option maxRecDepth 100000 in
set_option maxHeartbeats 1000000 in
theorem c_markOf {k : Nat} {g : Nat → Nat} {w : Wd} (hM : MkW w g) (hk : k < 2 ^ 31) : Ct 1 MX3_markOf 1 0 0 [.ref 40, .int (nI k)] w (Rt (some (.int (nI (if k < 64 then g k else 0)))) w) := by
  refine Ct_of (by decide +kernel) rfl (Nat.le_of_ble_eq_true rfl) rfl ?_
  refine V_iload_n (i := 1) dX3_markOf_0 rfl rfl ?_
  refine V_if_lt_n (tgt := 19) dX3_markOf_1 (by decide) (by omega) ?_
  refine V_iload_n (i := 1) dX3_markOf_4 rfl rfl ?_
  refine V_bipush_n (v := 64) dX3_markOf_5 (by decide) ?_
  refine V_icmp_ge_n (tgt := 19) dX3_markOf_7 (by decide) (by omega) (by omega) (fun h7 => ?_) (fun h7 => ?_)
  · refine V_iconst_n (v := 0) dX3_markOf_19 (by decide) ?_
    refine V_iret dX3_markOf_20 rfl rfl ?_
    exact ⟨by rw [if_neg (by omega)], rfl⟩
  · refine V_aload_n (i := 0) dX3_markOf_10 rfl rfl ?_
    refine V_getC (k := 0) (q := 41) dX3_markOf_11 (Or.inr ⟨rfl, Nat.le_of_ble_eq_true rfl⟩) rfl rfl rfl (Nat.le_of_ble_eq_true rfl) flRX3_9 ?_
    refine V_iload_n (i := 1) dX3_markOf_14 rfl rfl ?_
    refine V_iald_n (i := k) dX3_markOf_15 (Or.inr ⟨rfl, Nat.le_of_ble_eq_true rfl⟩) rfl (by omega) (by decide) ?_
    refine V_top (y := nI (g k)) (hM k h7).1 ?_
    refine V_goto (tgt := 20) dX3_markOf_16 (by decide) ?_
    refine V_iret dX3_markOf_20 rfl rfl ?_
    exact ⟨by rw [if_pos h7], rfl⟩
set_option maxRecDepth 100000 in
set_option maxHeartbeats 1000000 in
theorem c_sizeOf {m : Nat} {g : Nat → Nat} {w : Wd} (hM : MkW w g) (hm : m < 2 ^ 31) : Ct 1 MX3_sizeOf 1 0 0 [.ref 40, .int (nI m)] w (Rt (some (.int (nI (sm (mkd g m) 64)))) w) := by
  refine Ct_of (by decide +kernel) rfl (Nat.le_of_ble_eq_true rfl) rfl ?_
  have lp : ∀ (fu i : Nat) , i ≤ 64 → 64 - i < fu → V 1 MX3_sizeOf 1 0 0 (Rt (some (.int (nI (sm (mkd g m) 64)))) w) (fun _ _ => True) 0 0 4 [some (.ref 40), some (.int (nI m)), some (.int (nI (sm (mkd g m) i))), some (.int (nI i))] [] w := by
    intro fu
    induction fu with
    | zero => intro i  h1 h2; omega
    | succ fu ih =>
      intro i  hib hfu
      have hle := sm_le (f := mkd g m) (c := 1) (fun _ => mkd_le) i
      have e1 : sm (mkd g m) (i + 1) = sm (mkd g m) i + mkd g m i := rfl
      refine V_iload_n (i := 3) dX3_sizeOf_4 rfl rfl ?_
      refine V_bipush_n (v := 64) dX3_sizeOf_5 (by decide) ?_
      refine V_icmp_ge_n (tgt := 29) dX3_sizeOf_7 (by decide) (by omega) (by omega) (fun h7 => ?_) (fun h7 => ?_)
      · refine V_iload_n (i := 2) dX3_sizeOf_29 rfl rfl ?_
        refine V_iret dX3_sizeOf_30 rfl rfl ?_
        obtain rfl : i = 64 := by omega
        exact ⟨rfl, rfl⟩
      · have hg := (hM i (by omega)).2
        refine V_aload_n (i := 0) dX3_sizeOf_10 rfl rfl ?_
        refine V_getC (k := 0) (q := 41) dX3_sizeOf_11 (Or.inr ⟨rfl, Nat.le_of_ble_eq_true rfl⟩) rfl rfl rfl (Nat.le_of_ble_eq_true rfl) flRX3_9 ?_
        refine V_iload_n (i := 3) dX3_sizeOf_14 rfl rfl ?_
        refine V_iald_n (i := i) dX3_sizeOf_15 (Or.inr ⟨rfl, Nat.le_of_ble_eq_true rfl⟩) rfl (by omega) (by decide) ?_
        refine V_top (y := nI (g i)) (hM i (by omega)).1 ?_
        refine V_iload_n (i := 1) dX3_sizeOf_16 rfl rfl ?_
        refine V_icmp_ne_n (tgt := 23) dX3_sizeOf_17 (by decide) (by omega) (by omega) (fun h17 => ?_) (fun h17 => ?_)
        · rw [show mkd g m i = 0 from if_neg h17] at e1
          refine V_iinc_n (b := (i + 1)) dX3_sizeOf_23 rfl (nI_add _ _) rfl rfl ?_
          refine V_goto (tgt := 4) dX3_sizeOf_26 (by decide) ?_
          have k := ih (i + 1) (by omega) (by omega)
          rw [e1] at k
          exact k
        · rw [show mkd g m i = 1 from if_pos h17] at e1
          refine V_iinc_n (b := ((sm (mkd g m) i) + 1)) dX3_sizeOf_20 rfl (nI_add _ _) rfl rfl ?_
          refine V_iinc_n (b := (i + 1)) dX3_sizeOf_23 rfl (nI_add _ _) rfl rfl ?_
          refine V_goto (tgt := 4) dX3_sizeOf_26 (by decide) ?_
          have k := ih (i + 1) (by omega) (by omega)
          rw [e1] at k
          exact k
  refine V_iconst_n (v := 0) dX3_sizeOf_0 (by decide) ?_
  refine V_istore_n (i := 2) dX3_sizeOf_1 rfl (Nat.le_of_ble_eq_true rfl) rfl rfl ?_
  refine V_iconst_n (v := 0) dX3_sizeOf_2 (by decide) ?_
  refine V_istore_n (i := 3) dX3_sizeOf_3 rfl (Nat.le_of_ble_eq_true rfl) rfl rfl ?_
  exact lp 65 0 (by omega) (by omega)
set_option maxRecDepth 100000 in
set_option maxHeartbeats 1000000 in
theorem c_reach {a : Nat} {s : St} {x : Int32} {c : Int} {cq m n : Nat} {g qu : Nat → Nat} {w : Wd} (hR : Repr w a s) (hM : MkW w g) (hQ : QW w qu n) (hn : n ≤ 64) (hcq : cq < 65536) (hm : m ≤ 64) (hx : x = zI c) (c1 : -2147483648 ≤ c) (c2 : c < 2147483648) : Ct 1 MX3_reach 3 0 0 [.ref 40, .ref a, .int x, .int (nI cq), .int (nI m)] w (Mt none fun w1 => ((0 ≤ c ∧ c < 64 ∧ n < 64 ∧ g c.toNat = 0 ∧ hk (s.1 c.toNat) cq = true) → MkW w1 (up g c.toNat m) ∧ QW w1 (up qu n c.toNat) (n + 1)) ∧ (¬ (0 ≤ c ∧ c < 64 ∧ n < 64 ∧ g c.toNat = 0 ∧ hk (s.1 c.toNat) cq = true) → MkW w1 g ∧ QW w1 qu n) ∧ Fr InI w w1) := by
  refine Ct_of (by decide +kernel) rfl (Nat.le_of_ble_eq_true rfl) rfl ?_
  subst hx
  refine V_iload_n (i := 2) dX3_reach_0 rfl rfl ?_
  refine V_if_lt_z (tgt := 26) dX3_reach_1 (by decide) rfl (by omega) (by omega) (fun h1 => ?_) (fun h1 => ?_)
  · refine V_vret dX3_reach_26 rfl ?_
    exact ⟨rfl, fun q9 => by exfalso; omega, fun _ => ⟨hM, hQ⟩, Fr.nil⟩
  · refine V_iload_n (i := 2) dX3_reach_4 rfl rfl ?_
    refine V_bipush_n (v := 64) dX3_reach_5 (by decide) ?_
    refine V_icmp_ge_z (tgt := 26) dX3_reach_7 (by decide) rfl (zI_n _) (by omega) (by omega) (by omega) (by omega) (fun h7 => ?_) (fun h7 => ?_)
    · refine V_vret dX3_reach_26 rfl ?_
      exact ⟨rfl, fun q9 => by exfalso; omega, fun _ => ⟨hM, hQ⟩, Fr.nil⟩
    · refine V_aload_n (i := 0) dX3_reach_10 rfl rfl ?_
      refine V_getI (k := 2) dX3_reach_11 (Or.inr ⟨rfl, Nat.le_of_ble_eq_true rfl⟩) rfl rfl rfl (Nat.le_of_ble_eq_true rfl) flRX3_18 ?_
      refine V_top (y := nI n) hQ.2 ?_
      refine V_if_lt_n (tgt := 26) dX3_reach_14 (by decide) (by omega) ?_
      refine V_aload_n (i := 0) dX3_reach_17 rfl rfl ?_
      refine V_getI (k := 2) dX3_reach_18 (Or.inr ⟨rfl, Nat.le_of_ble_eq_true rfl⟩) rfl rfl rfl (Nat.le_of_ble_eq_true rfl) flRX3_18 ?_
      refine V_top (y := nI n) hQ.2 ?_
      refine V_bipush_n (v := 64) dX3_reach_21 (by decide) ?_
      refine V_icmp_lt_n (tgt := 27) dX3_reach_23 (by decide) (by omega) (by omega) (fun h23 => ?_) (fun h23 => ?_)
      · obtain ⟨k, rfl⟩ : ∃ k : Nat, c = (k : Int) := ⟨c.toNat, by omega⟩
        simp only [Int.toNat_natCast]
        rw [← zI_n]
        have hgk := (hM k (by omega)).2
        refine V_aload_n (i := 0) dX3_reach_27 rfl rfl ?_
        refine V_getC (k := 0) (q := 41) dX3_reach_28 (Or.inr ⟨rfl, Nat.le_of_ble_eq_true rfl⟩) rfl rfl rfl (Nat.le_of_ble_eq_true rfl) flRX3_9 ?_
        refine V_iload_n (i := 2) dX3_reach_31 rfl rfl ?_
        refine V_iald_n (i := k) dX3_reach_32 (Or.inr ⟨rfl, Nat.le_of_ble_eq_true rfl⟩) rfl (by omega) (by decide) ?_
        refine V_top (y := nI (g k)) (hM k (by omega)).1 ?_
        refine V_if_ne_n (tgt := 73) dX3_reach_33 (by decide) (by omega) (fun h33 => ?_) (fun h33 => ?_)
        · refine V_vret dX3_reach_73 rfl ?_
          exact ⟨rfl, fun q9 => by grind, fun _ => ⟨hM, hQ⟩, Fr.nil⟩
        · refine V_aload_n (i := 1) dX3_reach_36 rfl rfl ?_
          refine V_iload_n (i := 2) dX3_reach_37 rfl rfl ?_
          refine V_iload_n (i := 3) dX3_reach_38 rfl rfl ?_
          refine V_callVF dX3_reach_39 (c_holds hR (k := k) (q := cq) (by omega) (by omega)) okX8_holds lkRX3_22 hR.1.mk0 hR.1.sh.1 rfl rfl rfl (Nat.le_of_ble_eq_true rfl) ⟨Nat.le_of_ble_eq_true rfl, Nat.le_of_ble_eq_true rfl⟩ rfl ?_
          refine V_if_eq_n (tgt := 73) dX3_reach_42 (by decide) (Nat.lt_of_lt_of_le ite_le (by decide)) (fun h42 => ?_) (fun h42 => ?_)
          · refine V_vret dX3_reach_73 rfl ?_
            exact ⟨rfl, fun q9 => by grind, fun _ => ⟨hM, hQ⟩, Fr.nil⟩
          · refine V_aload_n (i := 0) dX3_reach_45 rfl rfl ?_
            refine V_getC (k := 0) (q := 41) dX3_reach_46 (Or.inr ⟨rfl, Nat.le_of_ble_eq_true rfl⟩) rfl rfl rfl (Nat.le_of_ble_eq_true rfl) flRX3_9 ?_
            refine V_iload_n (i := 2) dX3_reach_49 rfl rfl ?_
            refine V_iload dX3_reach_50 rfl ?_
            refine V_iast_n (i := k) dX3_reach_52 (Or.inr ⟨rfl, Nat.le_of_ble_eq_true rfl⟩) rfl (by omega) (by decide) ?_
            refine V_aload_n (i := 0) dX3_reach_53 rfl rfl ?_
            refine V_getC (k := 1) (q := 42) dX3_reach_54 (Or.inr ⟨rfl, Nat.le_of_ble_eq_true rfl⟩) rfl rfl rfl (Nat.le_of_ble_eq_true rfl) flRX3_15 ?_
            refine V_aload_n (i := 0) dX3_reach_57 rfl rfl ?_
            refine V_getI (k := 2) dX3_reach_58 (Or.inr ⟨rfl, Nat.le_of_ble_eq_true rfl⟩) rfl rfl rfl (Nat.le_of_ble_eq_true rfl) flRX3_18 ?_
            refine V_top (y := nI n) (pI_ne (by omega) hQ.2) ?_
            refine V_iload_n (i := 2) dX3_reach_61 rfl rfl ?_
            refine V_iast_n (i := n) dX3_reach_62 (Or.inr ⟨rfl, Nat.le_of_ble_eq_true rfl⟩) rfl (by omega) (by decide) ?_
            refine V_aload_n (i := 0) dX3_reach_63 rfl rfl ?_
            refine V_dup dX3_reach_64 rfl ?_
            refine V_getI (k := 2) dX3_reach_65 (Or.inr ⟨rfl, Nat.le_of_ble_eq_true rfl⟩) rfl rfl rfl (Nat.le_of_ble_eq_true rfl) flRX3_18 ?_
            refine V_top (y := nI n) (pI_ne (by omega) (pI_ne (by omega) hQ.2)) ?_
            refine V_iconst_n (v := 1) dX3_reach_68 (by decide) ?_
            refine V_iadd_n dX3_reach_69 ?_
            refine V_putI (k := 2) (ty := .int) dX3_reach_70 (Or.inr ⟨rfl, Nat.le_of_ble_eq_true rfl⟩) rfl rfl rfl (Nat.le_of_ble_eq_true rfl) flRX3_18 rfl (by decide +kernel) rfl rfl ?_
            refine V_vret dX3_reach_73 rfl ?_
            refine ⟨rfl, fun q9 => ⟨fun j hj => ?_, fun j hj => ?_, pI_at⟩, fun q9 => ?_, ((Fr.nil.i1 (by unfold InI; omega)).i1 (by unfold InI; omega)).i1 (by unfold InI; omega)⟩
            · have h8 := hM j hj
              unfold up
              by_cases e : j = k
              · rw [if_pos e]; subst e; exact ⟨pI_ne (by omega) (pI_ne (by omega) pI_at), hm⟩
              · rw [if_neg e]; exact ⟨pI_ne (by omega) (pI_ne (by omega) (pI_ne (by omega) h8.1)), h8.2⟩
            · unfold up
              by_cases e : j = n
              · rw [if_pos e]; subst e; exact pI_ne (by omega) pI_at
              · rw [if_neg e]; exact pI_ne (by omega) (pI_ne (by omega) (pI_ne (by omega) (hQ.1 j (by omega))))
            · exact absurd ⟨by omega, by omega, by omega, h33, ite_t h42⟩ q9
      · refine V_vret dX3_reach_26 rfl ?_
        exact ⟨rfl, fun q9 => by exfalso; omega, fun _ => ⟨hM, hQ⟩, Fr.nil⟩
theorem reach_SP {H : Nat → Bool} {i m n x cq : Nat} {f g qu : Nat → Nat} {c : Int} {w1 : Wd} {s : St} (hS : SP (Hq s cq) i m f g qu n x) (hm : 0 < m) (hz : ∀ d, Cn (Hq s cq) i d → f d = 0) (hc : ∀ d : Nat, c = (d : Int) → Hd (Hq s cq) d → Cn (Hq s cq) i d)
    (h1 : (0 ≤ c ∧ c < 64 ∧ n < 64 ∧ g c.toNat = 0 ∧ hk (s.1 c.toNat) cq = true) → MkW w1 (up g c.toNat m) ∧ QW w1 (up qu n c.toNat) (n + 1)) (h2 : ¬ (0 ≤ c ∧ c < 64 ∧ n < 64 ∧ g c.toNat = 0 ∧ hk (s.1 c.toNat) cq = true) → MkW w1 g ∧ QW w1 qu n) :
    ∃ (g1 q1 : Nat → Nat) (n1 : Nat), MkW w1 g1 ∧ QW w1 q1 n1 ∧ SP (Hq s cq) i m f g1 q1 n1 x ∧ (∀ k, g k = m → g1 k = m) ∧ (∀ j, j < n → q1 j = qu j) ∧ n ≤ n1 ∧ ∀ d : Nat, c = (d : Int) → Hd (Hq s cq) d → g1 d = m := by
  by_cases e : 0 ≤ c ∧ c < 64 ∧ n < 64 ∧ g c.toNat = 0 ∧ hk (s.1 c.toNat) cq = true
  · obtain ⟨hM, hQ⟩ := h1 e
    have hd : Hd (Hq s cq) c.toNat := ⟨by omega, e.2.2.2.2⟩
    refine ⟨_, _, _, hM, hQ, hS.push hd (hc _ (by omega) hd) (by omega), fun k hk => ?_, fun j hj => if_neg (by omega), by omega, fun d hd1 _ => if_pos (by omega)⟩
    show (if k = c.toNat then m else g k) = m
    split
    · rfl
    · exact hk
  · obtain ⟨hM, hQ⟩ := h2 e
    refine ⟨_, _, _, hM, hQ, hS, fun k hk => hk, fun j hj => rfl, Nat.le_refl _, fun d hd1 hd2 => ?_⟩
    subst hd1
    rw [Int.toNat_natCast] at e
    refine Decidable.by_contra fun q => e ⟨by omega, by have := hd2.1; omega, hS.room hd2.1 q, ?_, hd2.2⟩
    rw [hS.2.2.1 d hd2.1 q]
    exact hz d (hc d rfl hd2)
set_option maxRecDepth 100000 in
set_option maxHeartbeats 1000000 in
theorem c_spread {a k cq m : Nat} {s : St} {f : Nat → Nat} {w : Wd} (hR : Repr w a s) (hM : MkW w f) (hcq : cq < 65536) (hk : Hd (Hq s cq) k) (hz : ∀ d, Cn (Hq s cq) k d → f d = 0) (hf : ∀ d, d < 64 → f d ≠ m) (hm0 : 0 < m) (hm : m ≤ 64) : Ct 1 MX3_spread 4 0 0 [.ref 40, .ref a, .int (nI k), .int (nI cq), .int (nI m)] w (Mt none fun w1 => (∃ (g1 : Nat → Nat), MkW w1 g1 ∧ sm (mkd g1 m) 64 ≤ 64 ∧ ∀ d, d < 64 → (Cn (Hq s cq) k d → g1 d = m) ∧ (¬ Cn (Hq s cq) k d → g1 d = f d)) ∧ Fr InI w w1) := by
  refine Ct_of (by decide +kernel) rfl (Nat.le_of_ble_eq_true rfl) rfl ?_
  have hk8 := hk.1
  have lp : ∀ (fu x : Nat) (w1 : Wd) (g qu : Nat → Nat) (n : Nat), x ≤ 64 → 64 - x < fu → MkW w1 g → QW w1 qu n → SP (Hq s cq) k m f g qu n x → Fr InI w w1 → Repr w1 a s → V 1 MX3_spread 4 0 0 (Mt none fun w1 => (∃ (g1 : Nat → Nat), MkW w1 g1 ∧ sm (mkd g1 m) 64 ≤ 64 ∧ ∀ d, d < 64 → (Cn (Hq s cq) k d → g1 d = m) ∧ (¬ Cn (Hq s cq) k d → g1 d = f d)) ∧ Fr InI w w1) (fun _ _ => True) 0 0 17 [some (.ref 40), some (.ref a), some (.int (nI k)), some (.int (nI cq)), some (.int (nI m)), some (.int (nI x)), none] [] w1 := by
    intro fu
    induction fu with
    | zero => intro x w1 g qu n h1 h2; omega
    | succ fu ih =>
      intro x w1 g qu n hib hfu hM1 hQ1 hS1 hF1 hR1
      have hlen := hS1.len
      have hxn := hS1.2.2.2.2.2.2
      refine V_iload dX3_spread_17 rfl ?_
      refine V_aload_n (i := 0) dX3_spread_19 rfl rfl ?_
      refine V_getI (k := 2) dX3_spread_20 (Or.inr ⟨rfl, Nat.le_of_ble_eq_true rfl⟩) rfl rfl rfl (Nat.le_of_ble_eq_true rfl) flRX3_18 ?_
      refine V_top (y := nI n) hQ1.2 ?_
      refine V_icmp_ge_n (tgt := 116) dX3_spread_23 (by decide) (by omega) (by omega) (fun h23 => ?_) (fun h23 => ?_)
      · refine V_vret dX3_spread_116 rfl ?_
        obtain rfl : x = n := by omega
        exact ⟨rfl, ⟨g, hM1, by have := hS1.2.2.2.1; omega, hS1.fin⟩, hF1⟩
      · refine V_iload dX3_spread_26 rfl ?_
        refine V_bipush_n (v := 64) dX3_spread_28 (by decide) ?_
        refine V_icmp_ge_n (tgt := 116) dX3_spread_30 (by decide) (by omega) (by omega) (fun h30 => by exfalso; omega) (fun h30 => ?_)
        have hqx0 := cn_hd (hS1.1 x (by omega)).1
        have hqx := hqx0.1
        refine V_aload_n (i := 0) dX3_spread_33 rfl rfl ?_
        refine V_getC (k := 1) (q := 42) dX3_spread_34 (Or.inr ⟨rfl, Nat.le_of_ble_eq_true rfl⟩) rfl rfl rfl (Nat.le_of_ble_eq_true rfl) flRX3_15 ?_
        refine V_iload dX3_spread_37 rfl ?_
        refine V_iald_n (i := x) dX3_spread_39 (Or.inr ⟨rfl, Nat.le_of_ble_eq_true rfl⟩) rfl (by omega) (by decide) ?_
        refine V_top (y := nI (qu x)) (hQ1.1 x (by omega)) ?_
        refine V_istore dX3_spread_40 (Nat.le_of_ble_eq_true rfl) rfl rfl ?_
        refine V_iload dX3_spread_42 rfl ?_
        refine V_bipush_n (v := 8) dX3_spread_44 (by decide) ?_
        refine V_irem_n dX3_spread_46 (by omega) (by omega) (by omega) ?_
        refine V_if_le_n (tgt := 62) dX3_spread_47 (by decide) (by omega) (fun h47 => ?_) (fun h47 => ?_)
        · refine V_iload dX3_spread_62 rfl ?_
          refine V_bipush_n (v := 8) dX3_spread_64 (by decide) ?_
          refine V_irem_n dX3_spread_66 (by omega) (by omega) (by omega) ?_
          refine V_bipush_n (v := 7) dX3_spread_67 (by decide) ?_
          refine V_icmp_ge_n (tgt := 84) dX3_spread_69 (by decide) (by omega) (by omega) (fun h69 => ?_) (fun h69 => ?_)
          · refine V_aload_n (i := 0) dX3_spread_84 rfl rfl ?_
            refine V_aload_n (i := 1) dX3_spread_85 rfl rfl ?_
            refine V_iload dX3_spread_86 rfl ?_
            refine V_bipush_n (v := 8) dX3_spread_88 (by decide) ?_
            refine V_isub_z dX3_spread_90 (zI_n _) (zI_n _) ?_
            refine V_iload_n (i := 3) dX3_spread_91 rfl rfl ?_
            refine V_iload dX3_spread_92 rfl ?_
            refine V_callVM dX3_spread_94 (c_reach hR1 hM1 hQ1 hS1.len (cq := cq) (m := m) (by omega) (by omega) (c := ((((qu x) : Nat) : Int) - ((8 : Nat) : Int))) rfl (by omega) (by omega)) okX3_reach lkRX3_32 (Or.inr ⟨rfl, Nat.le_of_ble_eq_true rfl⟩) rfl rfl rfl rfl (Nat.le_of_ble_eq_true rfl) ⟨Nat.le_of_ble_eq_true rfl, Nat.le_of_ble_eq_true rfl⟩ rfl ?_
            intro u1 hu1
            obtain ⟨g1, q1, n1, hM1, hQ1, hS1, hm1, hq1, hn1, hd1⟩ := reach_SP (H := Hq s cq) hS1 hm0 hz (fun d e hd => cn_step (hS1.1 x (by omega)).1 hd (by rw [(Eq.refl (qu x))]; unfold adj; omega)) hu1.1 hu1.2.1
            have hfr1 := hu1.2.2
            clear hu1
            have hqx1 : q1 x = qu x := (hq1 x (by omega)).trans rfl
            refine V_aload_n (i := 0) dX3_spread_97 rfl rfl ?_
            refine V_aload_n (i := 1) dX3_spread_98 rfl rfl ?_
            refine V_iload dX3_spread_99 rfl ?_
            refine V_bipush_n (v := 8) dX3_spread_101 (by decide) ?_
            refine V_iadd_n dX3_spread_103 ?_
            refine V_iload_n (i := 3) dX3_spread_104 rfl rfl ?_
            refine V_iload dX3_spread_105 rfl ?_
            refine V_callVM dX3_spread_107 (c_reach (hR1.keepI hfr1) hM1 hQ1 hS1.len (cq := cq) (m := m) (by omega) (by omega) (c := ((((qu x) + 8) : Nat) : Int)) (zI_n _) (by omega) (by omega)) okX3_reach lkRX3_32 (Or.inr ⟨rfl, Nat.le_of_ble_eq_true rfl⟩) rfl rfl rfl rfl (Nat.le_of_ble_eq_true rfl) ⟨Nat.le_of_ble_eq_true rfl, Nat.le_of_ble_eq_true rfl⟩ rfl ?_
            intro u2 hu2
            obtain ⟨g2, q2, n2, hM2, hQ2, hS2, hm2, hq2, hn2, hd2⟩ := reach_SP (H := Hq s cq) hS1 hm0 hz (fun d e hd => cn_step (hS1.1 x (by omega)).1 hd (by rw [hqx1]; unfold adj; omega)) hu2.1 hu2.2.1
            have hfr2 := hu2.2.2
            clear hu2
            have hqx2 : q2 x = qu x := (hq2 x (by omega)).trans hqx1
            refine V_iinc_n (b := (x + 1)) dX3_spread_110 rfl (nI_add _ _) rfl rfl ?_
            refine V_goto (tgt := 17) dX3_spread_113 (by decide) ?_
            refine ih (x + 1) u2 g2 q2 n2 (by omega) (by omega) hM2 hQ2 (hS2.next (by omega) (fun d hd9 ha9 => ?_)) ((hF1.trans hfr1).trans hfr2) ((hR1.keepI hfr1).keepI hfr2) |>.sub (by repeat' (first | exact trivial | exact rfl | constructor))
            rw [hqx2] at ha9
            have hd8 := hd9.1
            unfold adj at ha9
            rcases ha9 with h | h | h | h <;> first | (exfalso; omega) | exact hm2 d (hd1 d (by omega) hd9) | exact hd2 d (by omega) hd9
          · refine V_aload_n (i := 0) dX3_spread_72 rfl rfl ?_
            refine V_aload_n (i := 1) dX3_spread_73 rfl rfl ?_
            refine V_iload dX3_spread_74 rfl ?_
            refine V_iconst_n (v := 1) dX3_spread_76 (by decide) ?_
            refine V_iadd_n dX3_spread_77 ?_
            refine V_iload_n (i := 3) dX3_spread_78 rfl rfl ?_
            refine V_iload dX3_spread_79 rfl ?_
            refine V_callVM dX3_spread_81 (c_reach hR1 hM1 hQ1 hS1.len (cq := cq) (m := m) (by omega) (by omega) (c := ((((qu x) + 1) : Nat) : Int)) (zI_n _) (by omega) (by omega)) okX3_reach lkRX3_32 (Or.inr ⟨rfl, Nat.le_of_ble_eq_true rfl⟩) rfl rfl rfl rfl (Nat.le_of_ble_eq_true rfl) ⟨Nat.le_of_ble_eq_true rfl, Nat.le_of_ble_eq_true rfl⟩ rfl ?_
            intro u1 hu1
            obtain ⟨g1, q1, n1, hM1, hQ1, hS1, hm1, hq1, hn1, hd1⟩ := reach_SP (H := Hq s cq) hS1 hm0 hz (fun d e hd => cn_step (hS1.1 x (by omega)).1 hd (by rw [(Eq.refl (qu x))]; unfold adj; omega)) hu1.1 hu1.2.1
            have hfr1 := hu1.2.2
            clear hu1
            have hqx1 : q1 x = qu x := (hq1 x (by omega)).trans rfl
            refine V_aload_n (i := 0) dX3_spread_84 rfl rfl ?_
            refine V_aload_n (i := 1) dX3_spread_85 rfl rfl ?_
            refine V_iload dX3_spread_86 rfl ?_
            refine V_bipush_n (v := 8) dX3_spread_88 (by decide) ?_
            refine V_isub_z dX3_spread_90 (zI_n _) (zI_n _) ?_
            refine V_iload_n (i := 3) dX3_spread_91 rfl rfl ?_
            refine V_iload dX3_spread_92 rfl ?_
            refine V_callVM dX3_spread_94 (c_reach (hR1.keepI hfr1) hM1 hQ1 hS1.len (cq := cq) (m := m) (by omega) (by omega) (c := ((((qu x) : Nat) : Int) - ((8 : Nat) : Int))) rfl (by omega) (by omega)) okX3_reach lkRX3_32 (Or.inr ⟨rfl, Nat.le_of_ble_eq_true rfl⟩) rfl rfl rfl rfl (Nat.le_of_ble_eq_true rfl) ⟨Nat.le_of_ble_eq_true rfl, Nat.le_of_ble_eq_true rfl⟩ rfl ?_
            intro u2 hu2
            obtain ⟨g2, q2, n2, hM2, hQ2, hS2, hm2, hq2, hn2, hd2⟩ := reach_SP (H := Hq s cq) hS1 hm0 hz (fun d e hd => cn_step (hS1.1 x (by omega)).1 hd (by rw [hqx1]; unfold adj; omega)) hu2.1 hu2.2.1
            have hfr2 := hu2.2.2
            clear hu2
            have hqx2 : q2 x = qu x := (hq2 x (by omega)).trans hqx1
            refine V_aload_n (i := 0) dX3_spread_97 rfl rfl ?_
            refine V_aload_n (i := 1) dX3_spread_98 rfl rfl ?_
            refine V_iload dX3_spread_99 rfl ?_
            refine V_bipush_n (v := 8) dX3_spread_101 (by decide) ?_
            refine V_iadd_n dX3_spread_103 ?_
            refine V_iload_n (i := 3) dX3_spread_104 rfl rfl ?_
            refine V_iload dX3_spread_105 rfl ?_
            refine V_callVM dX3_spread_107 (c_reach ((hR1.keepI hfr1).keepI hfr2) hM2 hQ2 hS2.len (cq := cq) (m := m) (by omega) (by omega) (c := ((((qu x) + 8) : Nat) : Int)) (zI_n _) (by omega) (by omega)) okX3_reach lkRX3_32 (Or.inr ⟨rfl, Nat.le_of_ble_eq_true rfl⟩) rfl rfl rfl rfl (Nat.le_of_ble_eq_true rfl) ⟨Nat.le_of_ble_eq_true rfl, Nat.le_of_ble_eq_true rfl⟩ rfl ?_
            intro u3 hu3
            obtain ⟨g3, q3, n3, hM3, hQ3, hS3, hm3, hq3, hn3, hd3⟩ := reach_SP (H := Hq s cq) hS2 hm0 hz (fun d e hd => cn_step (hS2.1 x (by omega)).1 hd (by rw [hqx2]; unfold adj; omega)) hu3.1 hu3.2.1
            have hfr3 := hu3.2.2
            clear hu3
            have hqx3 : q3 x = qu x := (hq3 x (by omega)).trans hqx2
            refine V_iinc_n (b := (x + 1)) dX3_spread_110 rfl (nI_add _ _) rfl rfl ?_
            refine V_goto (tgt := 17) dX3_spread_113 (by decide) ?_
            refine ih (x + 1) u3 g3 q3 n3 (by omega) (by omega) hM3 hQ3 (hS3.next (by omega) (fun d hd9 ha9 => ?_)) (((hF1.trans hfr1).trans hfr2).trans hfr3) (((hR1.keepI hfr1).keepI hfr2).keepI hfr3) |>.sub (by repeat' (first | exact trivial | exact rfl | constructor))
            rw [hqx3] at ha9
            have hd8 := hd9.1
            unfold adj at ha9
            rcases ha9 with h | h | h | h <;> first | (exfalso; omega) | exact hm3 d (hm2 d (hd1 d (by omega) hd9)) | exact hm3 d (hd2 d (by omega) hd9) | exact hd3 d (by omega) hd9
        · refine V_aload_n (i := 0) dX3_spread_50 rfl rfl ?_
          refine V_aload_n (i := 1) dX3_spread_51 rfl rfl ?_
          refine V_iload dX3_spread_52 rfl ?_
          refine V_iconst_n (v := 1) dX3_spread_54 (by decide) ?_
          refine V_isub_n dX3_spread_55 (by omega) ?_
          refine V_iload_n (i := 3) dX3_spread_56 rfl rfl ?_
          refine V_iload dX3_spread_57 rfl ?_
          refine V_callVM dX3_spread_59 (c_reach hR1 hM1 hQ1 hS1.len (cq := cq) (m := m) (by omega) (by omega) (c := ((((qu x) - 1) : Nat) : Int)) (zI_n _) (by omega) (by omega)) okX3_reach lkRX3_32 (Or.inr ⟨rfl, Nat.le_of_ble_eq_true rfl⟩) rfl rfl rfl rfl (Nat.le_of_ble_eq_true rfl) ⟨Nat.le_of_ble_eq_true rfl, Nat.le_of_ble_eq_true rfl⟩ rfl ?_
          intro u1 hu1
          obtain ⟨g1, q1, n1, hM1, hQ1, hS1, hm1, hq1, hn1, hd1⟩ := reach_SP (H := Hq s cq) hS1 hm0 hz (fun d e hd => cn_step (hS1.1 x (by omega)).1 hd (by rw [(Eq.refl (qu x))]; unfold adj; omega)) hu1.1 hu1.2.1
          have hfr1 := hu1.2.2
          clear hu1
          have hqx1 : q1 x = qu x := (hq1 x (by omega)).trans rfl
          refine V_iload dX3_spread_62 rfl ?_
          refine V_bipush_n (v := 8) dX3_spread_64 (by decide) ?_
          refine V_irem_n dX3_spread_66 (by omega) (by omega) (by omega) ?_
          refine V_bipush_n (v := 7) dX3_spread_67 (by decide) ?_
          refine V_icmp_ge_n (tgt := 84) dX3_spread_69 (by decide) (by omega) (by omega) (fun h69 => ?_) (fun h69 => ?_)
          · refine V_aload_n (i := 0) dX3_spread_84 rfl rfl ?_
            refine V_aload_n (i := 1) dX3_spread_85 rfl rfl ?_
            refine V_iload dX3_spread_86 rfl ?_
            refine V_bipush_n (v := 8) dX3_spread_88 (by decide) ?_
            refine V_isub_z dX3_spread_90 (zI_n _) (zI_n _) ?_
            refine V_iload_n (i := 3) dX3_spread_91 rfl rfl ?_
            refine V_iload dX3_spread_92 rfl ?_
            refine V_callVM dX3_spread_94 (c_reach (hR1.keepI hfr1) hM1 hQ1 hS1.len (cq := cq) (m := m) (by omega) (by omega) (c := ((((qu x) : Nat) : Int) - ((8 : Nat) : Int))) rfl (by omega) (by omega)) okX3_reach lkRX3_32 (Or.inr ⟨rfl, Nat.le_of_ble_eq_true rfl⟩) rfl rfl rfl rfl (Nat.le_of_ble_eq_true rfl) ⟨Nat.le_of_ble_eq_true rfl, Nat.le_of_ble_eq_true rfl⟩ rfl ?_
            intro u2 hu2
            obtain ⟨g2, q2, n2, hM2, hQ2, hS2, hm2, hq2, hn2, hd2⟩ := reach_SP (H := Hq s cq) hS1 hm0 hz (fun d e hd => cn_step (hS1.1 x (by omega)).1 hd (by rw [hqx1]; unfold adj; omega)) hu2.1 hu2.2.1
            have hfr2 := hu2.2.2
            clear hu2
            have hqx2 : q2 x = qu x := (hq2 x (by omega)).trans hqx1
            refine V_aload_n (i := 0) dX3_spread_97 rfl rfl ?_
            refine V_aload_n (i := 1) dX3_spread_98 rfl rfl ?_
            refine V_iload dX3_spread_99 rfl ?_
            refine V_bipush_n (v := 8) dX3_spread_101 (by decide) ?_
            refine V_iadd_n dX3_spread_103 ?_
            refine V_iload_n (i := 3) dX3_spread_104 rfl rfl ?_
            refine V_iload dX3_spread_105 rfl ?_
            refine V_callVM dX3_spread_107 (c_reach ((hR1.keepI hfr1).keepI hfr2) hM2 hQ2 hS2.len (cq := cq) (m := m) (by omega) (by omega) (c := ((((qu x) + 8) : Nat) : Int)) (zI_n _) (by omega) (by omega)) okX3_reach lkRX3_32 (Or.inr ⟨rfl, Nat.le_of_ble_eq_true rfl⟩) rfl rfl rfl rfl (Nat.le_of_ble_eq_true rfl) ⟨Nat.le_of_ble_eq_true rfl, Nat.le_of_ble_eq_true rfl⟩ rfl ?_
            intro u3 hu3
            obtain ⟨g3, q3, n3, hM3, hQ3, hS3, hm3, hq3, hn3, hd3⟩ := reach_SP (H := Hq s cq) hS2 hm0 hz (fun d e hd => cn_step (hS2.1 x (by omega)).1 hd (by rw [hqx2]; unfold adj; omega)) hu3.1 hu3.2.1
            have hfr3 := hu3.2.2
            clear hu3
            have hqx3 : q3 x = qu x := (hq3 x (by omega)).trans hqx2
            refine V_iinc_n (b := (x + 1)) dX3_spread_110 rfl (nI_add _ _) rfl rfl ?_
            refine V_goto (tgt := 17) dX3_spread_113 (by decide) ?_
            refine ih (x + 1) u3 g3 q3 n3 (by omega) (by omega) hM3 hQ3 (hS3.next (by omega) (fun d hd9 ha9 => ?_)) (((hF1.trans hfr1).trans hfr2).trans hfr3) (((hR1.keepI hfr1).keepI hfr2).keepI hfr3) |>.sub (by repeat' (first | exact trivial | exact rfl | constructor))
            rw [hqx3] at ha9
            have hd8 := hd9.1
            unfold adj at ha9
            rcases ha9 with h | h | h | h <;> first | (exfalso; omega) | exact hm3 d (hm2 d (hd1 d (by omega) hd9)) | exact hm3 d (hd2 d (by omega) hd9) | exact hd3 d (by omega) hd9
          · refine V_aload_n (i := 0) dX3_spread_72 rfl rfl ?_
            refine V_aload_n (i := 1) dX3_spread_73 rfl rfl ?_
            refine V_iload dX3_spread_74 rfl ?_
            refine V_iconst_n (v := 1) dX3_spread_76 (by decide) ?_
            refine V_iadd_n dX3_spread_77 ?_
            refine V_iload_n (i := 3) dX3_spread_78 rfl rfl ?_
            refine V_iload dX3_spread_79 rfl ?_
            refine V_callVM dX3_spread_81 (c_reach (hR1.keepI hfr1) hM1 hQ1 hS1.len (cq := cq) (m := m) (by omega) (by omega) (c := ((((qu x) + 1) : Nat) : Int)) (zI_n _) (by omega) (by omega)) okX3_reach lkRX3_32 (Or.inr ⟨rfl, Nat.le_of_ble_eq_true rfl⟩) rfl rfl rfl rfl (Nat.le_of_ble_eq_true rfl) ⟨Nat.le_of_ble_eq_true rfl, Nat.le_of_ble_eq_true rfl⟩ rfl ?_
            intro u2 hu2
            obtain ⟨g2, q2, n2, hM2, hQ2, hS2, hm2, hq2, hn2, hd2⟩ := reach_SP (H := Hq s cq) hS1 hm0 hz (fun d e hd => cn_step (hS1.1 x (by omega)).1 hd (by rw [hqx1]; unfold adj; omega)) hu2.1 hu2.2.1
            have hfr2 := hu2.2.2
            clear hu2
            have hqx2 : q2 x = qu x := (hq2 x (by omega)).trans hqx1
            refine V_aload_n (i := 0) dX3_spread_84 rfl rfl ?_
            refine V_aload_n (i := 1) dX3_spread_85 rfl rfl ?_
            refine V_iload dX3_spread_86 rfl ?_
            refine V_bipush_n (v := 8) dX3_spread_88 (by decide) ?_
            refine V_isub_z dX3_spread_90 (zI_n _) (zI_n _) ?_
            refine V_iload_n (i := 3) dX3_spread_91 rfl rfl ?_
            refine V_iload dX3_spread_92 rfl ?_
            refine V_callVM dX3_spread_94 (c_reach ((hR1.keepI hfr1).keepI hfr2) hM2 hQ2 hS2.len (cq := cq) (m := m) (by omega) (by omega) (c := ((((qu x) : Nat) : Int) - ((8 : Nat) : Int))) rfl (by omega) (by omega)) okX3_reach lkRX3_32 (Or.inr ⟨rfl, Nat.le_of_ble_eq_true rfl⟩) rfl rfl rfl rfl (Nat.le_of_ble_eq_true rfl) ⟨Nat.le_of_ble_eq_true rfl, Nat.le_of_ble_eq_true rfl⟩ rfl ?_
            intro u3 hu3
            obtain ⟨g3, q3, n3, hM3, hQ3, hS3, hm3, hq3, hn3, hd3⟩ := reach_SP (H := Hq s cq) hS2 hm0 hz (fun d e hd => cn_step (hS2.1 x (by omega)).1 hd (by rw [hqx2]; unfold adj; omega)) hu3.1 hu3.2.1
            have hfr3 := hu3.2.2
            clear hu3
            have hqx3 : q3 x = qu x := (hq3 x (by omega)).trans hqx2
            refine V_aload_n (i := 0) dX3_spread_97 rfl rfl ?_
            refine V_aload_n (i := 1) dX3_spread_98 rfl rfl ?_
            refine V_iload dX3_spread_99 rfl ?_
            refine V_bipush_n (v := 8) dX3_spread_101 (by decide) ?_
            refine V_iadd_n dX3_spread_103 ?_
            refine V_iload_n (i := 3) dX3_spread_104 rfl rfl ?_
            refine V_iload dX3_spread_105 rfl ?_
            refine V_callVM dX3_spread_107 (c_reach (((hR1.keepI hfr1).keepI hfr2).keepI hfr3) hM3 hQ3 hS3.len (cq := cq) (m := m) (by omega) (by omega) (c := ((((qu x) + 8) : Nat) : Int)) (zI_n _) (by omega) (by omega)) okX3_reach lkRX3_32 (Or.inr ⟨rfl, Nat.le_of_ble_eq_true rfl⟩) rfl rfl rfl rfl (Nat.le_of_ble_eq_true rfl) ⟨Nat.le_of_ble_eq_true rfl, Nat.le_of_ble_eq_true rfl⟩ rfl ?_
            intro u4 hu4
            obtain ⟨g4, q4, n4, hM4, hQ4, hS4, hm4, hq4, hn4, hd4⟩ := reach_SP (H := Hq s cq) hS3 hm0 hz (fun d e hd => cn_step (hS3.1 x (by omega)).1 hd (by rw [hqx3]; unfold adj; omega)) hu4.1 hu4.2.1
            have hfr4 := hu4.2.2
            clear hu4
            have hqx4 : q4 x = qu x := (hq4 x (by omega)).trans hqx3
            refine V_iinc_n (b := (x + 1)) dX3_spread_110 rfl (nI_add _ _) rfl rfl ?_
            refine V_goto (tgt := 17) dX3_spread_113 (by decide) ?_
            refine ih (x + 1) u4 g4 q4 n4 (by omega) (by omega) hM4 hQ4 (hS4.next (by omega) (fun d hd9 ha9 => ?_)) ((((hF1.trans hfr1).trans hfr2).trans hfr3).trans hfr4) ((((hR1.keepI hfr1).keepI hfr2).keepI hfr3).keepI hfr4) |>.sub (by repeat' (first | exact trivial | exact rfl | constructor))
            rw [hqx4] at ha9
            have hd8 := hd9.1
            unfold adj at ha9
            rcases ha9 with h | h | h | h <;> first | (exfalso; omega) | exact hm4 d (hm3 d (hm2 d (hd1 d (by omega) hd9))) | exact hm4 d (hm3 d (hd2 d (by omega) hd9)) | exact hm4 d (hd3 d (by omega) hd9) | exact hd4 d (by omega) hd9
  refine V_aload_n (i := 0) dX3_spread_0 rfl rfl ?_
  refine V_iconst_n (v := 0) dX3_spread_1 (by decide) ?_
  refine V_putI (k := 2) (ty := .int) dX3_spread_2 (Or.inr ⟨rfl, Nat.le_of_ble_eq_true rfl⟩) rfl rfl rfl (Nat.le_of_ble_eq_true rfl) flRX3_18 rfl (by decide +kernel) rfl rfl ?_
  refine V_aload_n (i := 0) dX3_spread_5 rfl rfl ?_
  refine V_aload_n (i := 1) dX3_spread_6 rfl rfl ?_
  refine V_iload_n (i := 2) dX3_spread_7 rfl rfl ?_
  refine V_iload_n (i := 3) dX3_spread_8 rfl rfl ?_
  refine V_iload dX3_spread_9 rfl ?_
  refine V_callVM dX3_spread_11 (c_reach (w := pI w 40 2 (nI 0)) (g := f) (qu := fun _ => k) (n := 0) (hR.keepI (Fr.nil.i1 (by unfold InI; omega))) (hM.keep (P := fun b => b = 40) (Fr.nil.i1 (by rfl)) (by omega)) ⟨fun j hj => by omega, pI_at⟩ (by omega) (cq := cq) (m := m) (by omega) (by omega) (c := (k : Int)) (zI_n _) (by omega) (by omega)) okX3_reach lkRX3_32 (Or.inr ⟨rfl, Nat.le_of_ble_eq_true rfl⟩) rfl rfl rfl rfl (Nat.le_of_ble_eq_true rfl) ⟨Nat.le_of_ble_eq_true rfl, Nat.le_of_ble_eq_true rfl⟩ rfl ?_
  intro u1 hu1
  refine V_iconst_n (v := 0) dX3_spread_14 (by decide) ?_
  refine V_istore dX3_spread_15 (Nat.le_of_ble_eq_true rfl) rfl rfl ?_
  have h9 := hu1.1 ⟨by omega, by omega, by omega, by rw [Int.toNat_natCast]; exact hz k (cn_refl hk), by rw [Int.toNat_natCast]; exact hk.2⟩
  rw [Int.toNat_natCast] at h9
  exact (lp 65 0 u1 _ _ _ (by omega) (by omega) h9.1 h9.2 (SP.init hk hf (if_pos rfl)) ((Fr.nil.i1 (by unfold InI; omega)).trans hu1.2.2) ((hR.keepI (Fr.nil.i1 (by unfold InI; omega))).keepI hu1.2.2)).sub (by repeat' (first | exact trivial | exact rfl | constructor))
end MISLES
