/-! ISLANDS: searching and merging. Printed by wip/whole/gen/mk195.py. -/
section MISLES2
set_option maxRecDepth 100000 in
set_option maxHeartbeats 1000000 in
theorem c_search {a cq : Nat} {s : St} {w : Wd} (hR : Repr w a s) (hcq : cq < 65536) : Ct 1 MX3_search 5 0 0 [.ref 40, .ref a, .int (nI cq)] w (Mt (some (.int (nI (ns (Hq s cq) 64)))) fun w1 => MkW w1 (fmi (Hq s cq) 64) ∧ Fr InI w w1) := by
  refine Ct_of (by decide +kernel) rfl (Nat.le_of_ble_eq_true rfl) rfl ?_
  have lp2 : ∀ (fu i : Nat) (w1 : Wd), i ≤ 64 → 64 - i < fu → MkW w1 (fmi (Hq s cq) i) → Fr InI w w1 → Repr w1 a s → V 1 MX3_search 5 0 0 (Mt (some (.int (nI (ns (Hq s cq) 64)))) fun w1 => MkW w1 (fmi (Hq s cq) 64) ∧ Fr InI w w1) (fun _ _ => True) 0 0 26 [some (.ref 40), some (.ref a), some (.int (nI cq)), some (.int (nI (ns (Hq s cq) i))), some (.int (nI i))] [] w1 := by
    intro fu
    induction fu with
    | zero => intro i w1 h1 h2; omega
    | succ fu ih =>
      intro i w1 hib hfu hM1 hF1 hR1
      have hnl := ns_le (H := (Hq s cq)) i
      refine V_iload dX3_search_26 rfl ?_
      refine V_bipush_n (v := 64) dX3_search_28 (by decide) ?_
      refine V_icmp_ge_n (tgt := 71) dX3_search_30 (by decide) (by omega) (by omega) (fun h30 => ?_) (fun h30 => ?_)
      · refine V_iload_n (i := 3) dX3_search_71 rfl rfl ?_
        refine V_iret dX3_search_72 rfl rfl ?_
        obtain rfl : i = 64 := by omega
        exact ⟨rfl, hM1, hF1⟩
      · refine V_aload_n (i := 0) dX3_search_33 rfl rfl ?_
        refine V_getC (k := 0) (q := 41) dX3_search_34 (Or.inr ⟨rfl, Nat.le_of_ble_eq_true rfl⟩) rfl rfl rfl (Nat.le_of_ble_eq_true rfl) flRX3_9 ?_
        refine V_iload dX3_search_37 rfl ?_
        refine V_iald_n (i := i) dX3_search_39 (Or.inr ⟨rfl, Nat.le_of_ble_eq_true rfl⟩) rfl (by omega) (by decide) ?_
        refine V_top (y := nI (fmi (Hq s cq) i i)) (hM1 i (by omega)).1 ?_
        have hfb := (hM1 i (by omega)).2
        refine V_if_ne_n (tgt := 65) dX3_search_40 (by decide) (by omega) (fun h40 => ?_) (fun h40 => ?_)
        · have hns : ¬ Sta (Hq s cq) i := fun q => h40 ((fmi_sta (H := (Hq s cq)) q.1).mpr q)
          refine V_iinc_n (b := (i + 1)) dX3_search_65 rfl (nI_add _ _) rfl rfl ?_
          refine V_goto (tgt := 26) dX3_search_68 (by decide) ?_
          have k9 := ih (i + 1) w1 (by omega) (by omega) (hM1.ext fun k hk => (fmi_s0 fun q => hns q.1).symm) hF1 hR1
          rw [ns_s0 hns] at k9
          exact k9
        · refine V_aload_n (i := 1) dX3_search_43 rfl rfl ?_
          refine V_iload dX3_search_44 rfl ?_
          refine V_iload_n (i := 2) dX3_search_46 rfl rfl ?_
          refine V_callVF dX3_search_47 (c_holds hR1 (k := i) (q := cq) (by omega) (by omega)) okX8_holds lkRX3_22 hR.1.mk0 hR.1.sh.1 rfl rfl rfl (Nat.le_of_ble_eq_true rfl) ⟨Nat.le_of_ble_eq_true rfl, Nat.le_of_ble_eq_true rfl⟩ rfl ?_
          refine V_if_eq_n (tgt := 65) dX3_search_50 (by decide) (Nat.lt_of_lt_of_le ite_le (by decide)) (fun h50 => ?_) (fun h50 => ?_)
          · have hns : ¬ Sta (Hq s cq) i := fun q => ite_f h50 q.1.2
            refine V_iinc_n (b := (i + 1)) dX3_search_65 rfl (nI_add _ _) rfl rfl ?_
            refine V_goto (tgt := 26) dX3_search_68 (by decide) ?_
            have k9 := ih (i + 1) w1 (by omega) (by omega) (hM1.ext fun k hk => (fmi_s0 fun q => hns q.1).symm) hF1 hR1
            rw [ns_s0 hns] at k9
            exact k9
          · have hst : Sta (Hq s cq) i := (fmi_sta (H := (Hq s cq)) ⟨by omega, ite_t h50⟩).mp h40
            refine V_iinc_n (b := ((ns (Hq s cq) i) + 1)) dX3_search_53 rfl (nI_add _ _) rfl rfl ?_
            refine V_aload_n (i := 0) dX3_search_56 rfl rfl ?_
            refine V_aload_n (i := 1) dX3_search_57 rfl rfl ?_
            refine V_iload dX3_search_58 rfl ?_
            refine V_iload_n (i := 2) dX3_search_60 rfl rfl ?_
            refine V_iload_n (i := 3) dX3_search_61 rfl rfl ?_
            refine V_callVM dX3_search_62 (c_spread hR1 hM1 (cq := cq) (by omega) (k := i) (m := (ns (Hq s cq) i + 1)) hst.1 (fun d hd => fmi_new hst hd) (fun d hd => by have := fmi_le (H := (Hq s cq)) (k := d) i; omega) (by omega) (by omega)) okX3_spread lkRX3_28 (Or.inr ⟨rfl, Nat.le_of_ble_eq_true rfl⟩) rfl rfl rfl rfl (Nat.le_of_ble_eq_true rfl) ⟨Nat.le_of_ble_eq_true rfl, Nat.le_of_ble_eq_true rfl⟩ rfl ?_
            intro u1 hu1
            obtain ⟨⟨g1, hg1, -, hg2⟩, hfr⟩ := hu1
            refine V_iinc_n (b := (i + 1)) dX3_search_65 rfl (nI_add _ _) rfl rfl ?_
            refine V_goto (tgt := 26) dX3_search_68 (by decide) ?_
            have k9 := ih (i + 1) u1 (by omega) (by omega) (hg1.ext fun k hk => fmi_go hst rfl rfl (hg2 k hk)) (hF1.trans hfr) (hR1.keepI hfr)
            rw [ns_s1 hst] at k9
            exact k9
  have lp1 : ∀ (fu i : Nat) (w1 : Wd), i ≤ 64 → 64 - i < fu → (∀ j, j < i → gI w1 41 j = nI 0) → Fr InI w w1 → V 1 MX3_search 5 0 0 (Mt (some (.int (nI (ns (Hq s cq) 64)))) fun w1 => MkW w1 (fmi (Hq s cq) 64) ∧ Fr InI w w1) (fun _ _ => True) 0 0 2 [some (.ref 40), some (.ref a), some (.int (nI cq)), some (.int (nI i)), none] [] w1 := by
    intro fu
    induction fu with
    | zero => intro i w1 h1 h2; omega
    | succ fu ih =>
      intro i w1 hib hfu hZ hF1
      refine V_iload_n (i := 3) dX3_search_2 rfl rfl ?_
      refine V_bipush_n (v := 64) dX3_search_3 (by decide) ?_
      refine V_icmp_ge_n (tgt := 21) dX3_search_5 (by decide) (by omega) (by omega) (fun h5 => ?_) (fun h5 => ?_)
      · refine V_iconst_n (v := 0) dX3_search_21 (by decide) ?_
        refine V_istore_n (i := 3) dX3_search_22 rfl (Nat.le_of_ble_eq_true rfl) rfl rfl ?_
        refine V_iconst_n (v := 0) dX3_search_23 (by decide) ?_
        refine V_istore dX3_search_24 (Nat.le_of_ble_eq_true rfl) rfl rfl ?_
        obtain rfl : i = 64 := by omega
        exact (lp2 65 0 w1 (by omega) (by omega) (fun k hk => ⟨hZ k hk, Nat.zero_le _⟩) hF1 (hR.keepI hF1)).sub (by repeat' (first | exact trivial | exact rfl | constructor))
      · refine V_aload_n (i := 0) dX3_search_8 rfl rfl ?_
        refine V_getC (k := 0) (q := 41) dX3_search_9 (Or.inr ⟨rfl, Nat.le_of_ble_eq_true rfl⟩) rfl rfl rfl (Nat.le_of_ble_eq_true rfl) flRX3_9 ?_
        refine V_iload_n (i := 3) dX3_search_12 rfl rfl ?_
        refine V_iconst_n (v := 0) dX3_search_13 (by decide) ?_
        refine V_iast_n (i := i) dX3_search_14 (Or.inr ⟨rfl, Nat.le_of_ble_eq_true rfl⟩) rfl (by omega) (by decide) ?_
        refine V_iinc_n (b := (i + 1)) dX3_search_15 rfl (nI_add _ _) rfl rfl ?_
        refine V_goto (tgt := 2) dX3_search_18 (by decide) ?_
        refine (ih (i + 1) _ (by omega) (by omega) (fun j hj => ?_) (hF1.i1 (by unfold InI; omega)))
        by_cases e : j = i
        · subst e; exact pI_at
        · exact pI_ne (by omega) (hZ j (by omega))
  refine V_iconst_n (v := 0) dX3_search_0 (by decide) ?_
  refine V_istore_n (i := 3) dX3_search_1 rfl (Nat.le_of_ble_eq_true rfl) rfl rfl ?_
  exact (lp1 65 0 w (by omega) (by omega) (fun j hj => by omega) Fr.nil).sub (by repeat' (first | exact trivial | exact rfl | constructor))
theorem ite_b {p : Prop} [Decidable p] {x : Nat} (h : p → x ≤ 64) : (if p then x else 0) ≤ 64 := by
  by_cases q : p
  · rw [if_pos q]; exact h q
  · rw [if_neg q]; exact Nat.zero_le _
def jn (g : Nat → Nat) (a b : Nat) : Nat → Nat := fun k => if (a ≠ 0 ∧ b ≠ 0 ∧ a ≠ b) ∧ g k = b then a else g k
theorem MG.two {H : Nat → Bool} {i j n : Nat} {g : Nat → Nat} (h : MG H g n) (hi : i < 64) (hij : adj i j) :
    ((g i ≠ 0 ∧ (if j < 64 then g j else 0) ≠ 0 ∧ g i ≠ (if j < 64 then g j else 0)) → 0 < n ∧ MG H (jn g (g i) (if j < 64 then g j else 0)) (n - 1)) ∧ (¬ (g i ≠ 0 ∧ (if j < 64 then g j else 0) ≠ 0 ∧ g i ≠ (if j < 64 then g j else 0)) → MG H (jn g (g i) (if j < 64 then g j else 0)) n) ∧ (Hd H i → Hd H j → jn g (g i) (if j < 64 then g j else 0) i = jn g (g i) (if j < 64 then g j else 0) j) ∧ ∀ x y, g x = g y → jn g (g i) (if j < 64 then g j else 0) x = jn g (g i) (if j < 64 then g j else 0) y := by
  refine ⟨fun q => ?_, fun q => ?_, fun h1 h2 => ?_, fun x y e => ?_⟩
  · have hj : j < 64 := by
      refine Decidable.by_contra fun z => ?_
      rw [if_neg z] at q; exact q.2.1 rfl
    rw [if_pos hj] at q ⊢
    have hdi : Hd H i := Classical.byContradiction fun z => q.1 (h.1 i hi z)
    have hdj : Hd H j := Classical.byContradiction fun z => q.2.1 (h.1 j hj z)
    have e : jn g (g i) (g j) = fun k => if g k = g j then g i else g k := by
      funext k
      unfold jn
      by_cases z : g k = g j
      · rw [if_pos ⟨q, z⟩, if_pos z]
      · rw [if_neg (fun y => z y.2), if_neg z]
    rw [e]
    exact h.join hdi hdj hij q.2.2
  · have e : jn g (g i) (if j < 64 then g j else 0) = g := by
      funext k
      exact if_neg fun z => q z.1
    rw [e]; exact h
  · rw [if_pos h2.1]
    unfold jn
    have a1 := (h.2.1 i h1).1
    have a2 := (h.2.1 j h2).1
    by_cases z : g i = g j
    · rw [z]
    · rw [if_neg (fun y => z y.2), if_pos ⟨⟨by omega, by omega, z⟩, rfl⟩]
  · unfold jn; rw [e]
set_option maxRecDepth 100000 in
set_option maxHeartbeats 1000000 in
theorem c_joinSets {ka la : Nat} {g : Nat → Nat} {w : Wd} (hM : MkW w g) (ha : ka ≤ 64) (hl : la ≤ 64) : Ct 1 MX3_joinSets 1 0 0 [.ref 40, .int (nI ka), .int (nI la)] w (Mt (some (.int (nI (if (ka ≠ 0 ∧ la ≠ 0 ∧ ka ≠ la) then 1 else 0)))) fun w1 => MkW w1 (jn g ka la) ∧ Fr InI w w1) := by
  refine Ct_of (by decide +kernel) rfl (Nat.le_of_ble_eq_true rfl) rfl ?_
  refine V_iload_n (i := 1) dX3_joinSets_0 rfl rfl ?_
  refine V_if_eq_n (tgt := 13) dX3_joinSets_1 (by decide) (by omega) (fun h1 => ?_) (fun h1 => ?_)
  · refine V_iconst_n (v := 0) dX3_joinSets_13 (by decide) ?_
    refine V_iret dX3_joinSets_14 rfl (nar_bool (by grind)) ?_
    exact ⟨by rw [if_neg (by omega)], hM.ext fun k hk => (if_neg (by omega)).symm, Fr.nil⟩
  · refine V_iload_n (i := 2) dX3_joinSets_4 rfl rfl ?_
    refine V_if_eq_n (tgt := 13) dX3_joinSets_5 (by decide) (by omega) (fun h5 => ?_) (fun h5 => ?_)
    · refine V_iconst_n (v := 0) dX3_joinSets_13 (by decide) ?_
      refine V_iret dX3_joinSets_14 rfl (nar_bool (by grind)) ?_
      exact ⟨by rw [if_neg (by omega)], hM.ext fun k hk => (if_neg (by omega)).symm, Fr.nil⟩
    · refine V_iload_n (i := 1) dX3_joinSets_8 rfl rfl ?_
      refine V_iload_n (i := 2) dX3_joinSets_9 rfl rfl ?_
      refine V_icmp_ne_n (tgt := 15) dX3_joinSets_10 (by decide) (by omega) (by omega) (fun h10 => ?_) (fun h10 => ?_)
      · have hco : (ka ≠ 0 ∧ la ≠ 0 ∧ ka ≠ la) := by omega
        have lp : ∀ (fu i : Nat) (w1 : Wd), i ≤ 64 → 64 - i < fu → MkW w1 (fun k => if k < i ∧ g k = la then ka else g k) → Fr InI w w1 → V 1 MX3_joinSets 1 0 0 (Mt (some (.int (nI (if (ka ≠ 0 ∧ la ≠ 0 ∧ ka ≠ la) then 1 else 0)))) fun w1 => MkW w1 (jn g ka la) ∧ Fr InI w w1) (fun _ _ => True) 0 0 17 [some (.ref 40), some (.int (nI ka)), some (.int (nI la)), some (.int (nI i))] [] w1 := by
          intro fu
          induction fu with
          | zero => intro i w1 h1 h2; omega
          | succ fu ih =>
            intro i w1 hib hfu hM1 hF1
            refine V_iload_n (i := 3) dX3_joinSets_17 rfl rfl ?_
            refine V_bipush_n (v := 64) dX3_joinSets_18 (by decide) ?_
            refine V_icmp_ge_n (tgt := 46) dX3_joinSets_20 (by decide) (by omega) (by omega) (fun h20 => ?_) (fun h20 => ?_)
            · refine V_iconst_n (v := 1) dX3_joinSets_46 (by decide) ?_
              refine V_iret dX3_joinSets_47 rfl (nar_bool (by omega)) ?_
              obtain rfl : i = 64 := by omega
              exact ⟨by rw [if_pos hco], hM1.ext fun k hk => by unfold jn; grind, hF1⟩
            · have hg9 := (hM i (by omega)).2
              refine V_aload_n (i := 0) dX3_joinSets_23 rfl rfl ?_
              refine V_getC (k := 0) (q := 41) dX3_joinSets_24 (Or.inr ⟨rfl, Nat.le_of_ble_eq_true rfl⟩) rfl rfl rfl (Nat.le_of_ble_eq_true rfl) flRX3_9 ?_
              refine V_iload_n (i := 3) dX3_joinSets_27 rfl rfl ?_
              refine V_iald_n (i := i) dX3_joinSets_28 (Or.inr ⟨rfl, Nat.le_of_ble_eq_true rfl⟩) rfl (by omega) (by decide) ?_
              refine V_top (y := nI (g i)) ((hM1 i (by omega)).1.trans (congrArg nI (if_neg (by omega)))) ?_
              refine V_iload_n (i := 2) dX3_joinSets_29 rfl rfl ?_
              refine V_icmp_ne_n (tgt := 40) dX3_joinSets_30 (by decide) (by omega) (by omega) (fun h30 => ?_) (fun h30 => ?_)
              · refine V_iinc_n (b := (i + 1)) dX3_joinSets_40 rfl (nI_add _ _) rfl rfl ?_
                refine V_goto (tgt := 17) dX3_joinSets_43 (by decide) ?_
                exact ih (i + 1) w1 (by omega) (by omega) (hM1.ext fun k hk => by grind) hF1
              · refine V_aload_n (i := 0) dX3_joinSets_33 rfl rfl ?_
                refine V_getC (k := 0) (q := 41) dX3_joinSets_34 (Or.inr ⟨rfl, Nat.le_of_ble_eq_true rfl⟩) rfl rfl rfl (Nat.le_of_ble_eq_true rfl) flRX3_9 ?_
                refine V_iload_n (i := 3) dX3_joinSets_37 rfl rfl ?_
                refine V_iload_n (i := 1) dX3_joinSets_38 rfl rfl ?_
                refine V_iast_n (i := i) dX3_joinSets_39 (Or.inr ⟨rfl, Nat.le_of_ble_eq_true rfl⟩) rfl (by omega) (by decide) ?_
                refine V_iinc_n (b := (i + 1)) dX3_joinSets_40 rfl (nI_add _ _) rfl rfl ?_
                refine V_goto (tgt := 17) dX3_joinSets_43 (by decide) ?_
                exact ih (i + 1) _ (by omega) (by omega) (fun k hk => by
                  have h8 := hM1 k hk
                  dsimp only at h8 ⊢
                  by_cases e : k = i
                  · subst e; rw [if_pos ⟨by omega, h30⟩]; exact ⟨pI_at, ha⟩
                  · rw [gI_pI, if_neg (fun z => e z.2)]; rw [h8.1]; exact ⟨by congr 1; grind, by grind⟩) (hF1.i1 (by unfold InI; omega))
        refine V_iconst_n (v := 0) dX3_joinSets_15 (by decide) ?_
        refine V_istore_n (i := 3) dX3_joinSets_16 rfl (Nat.le_of_ble_eq_true rfl) rfl rfl ?_
        exact (lp 65 0 w (by omega) (by omega) (hM.ext fun k hk => by rw [if_neg (by omega)]) Fr.nil).sub (by repeat' (first | exact trivial | exact rfl | constructor))
      · refine V_iconst_n (v := 0) dX3_joinSets_13 (by decide) ?_
        refine V_iret dX3_joinSets_14 rfl (nar_bool (by grind)) ?_
        exact ⟨by rw [if_neg (by omega)], hM.ext fun k hk => (if_neg (by omega)).symm, Fr.nil⟩
set_option maxRecDepth 100000 in
set_option maxHeartbeats 1000000 in
theorem c_merge {a : Nat} {s : St} {w : Wd} (hR : Repr w a s) : Ct 1 MX3_merge 5 0 0 [.ref 40, .ref a] w (Mt (some (.int (nI (ns (Hq s 42) 64)))) fun w1 => Fr InI w w1) := by
  refine Ct_of (by decide +kernel) rfl (Nat.le_of_ble_eq_true rfl) rfl ?_
  have lp2 : ∀ (fu i : Nat) (w1 : Wd) (g : Nat → Nat) (n : Nat), i ≤ 64 → 64 - i < fu → MkW w1 g → MG (Hq s 42) g n → (∀ x, x < i → (x % 8 < 7 → Hd (Hq s 42) x → Hd (Hq s 42) (x + 1) → g x = g (x + 1)) ∧ (Hd (Hq s 42) x → Hd (Hq s 42) (x + 8) → g x = g (x + 8))) → Fr InI w w1 → Repr w1 a s → V 1 MX3_merge 5 0 0 (Mt (some (.int (nI (ns (Hq s 42) 64)))) fun w1 => Fr InI w w1) (fun _ _ => True) 0 0 58 [some (.ref 40), some (.ref a), some (.int (nI n)), some (.int (nI i)), none] [] w1 := by
    intro fu
    induction fu with
    | zero => intro i w1 g n h1 h2; omega
    | succ fu ih =>
      intro i w1 g n hib hfu hM1 hG1 hPR hF1 hR1
      refine V_iload_n (i := 3) dX3_merge_58 rfl rfl ?_
      refine V_bipush_n (v := 64) dX3_merge_59 (by decide) ?_
      refine V_icmp_ge_n (tgt := 124) dX3_merge_61 (by decide) (by omega) (by omega) (fun h61 => ?_) (fun h61 => ?_)
      · refine V_iload_n (i := 2) dX3_merge_124 rfl rfl ?_
        refine V_iret dX3_merge_125 rfl rfl ?_
        obtain rfl : i = 64 := by omega
        have hfin := hG1.fin (fun x y hx hy hxy => by
          have x8 := hx.1
          have y8 := hy.1
          unfold adj at hxy
          rcases hxy with h | h | h | h
          · obtain ⟨h, h7⟩ := h
            subst h
            exact (hPR x x8).1 h7 hx hy
          · obtain ⟨h, h7⟩ := h
            subst h
            exact ((hPR y y8).1 h7 hy hx).symm
          · subst h
            exact (hPR x x8).2 hx hy
          · subst h
            exact ((hPR y y8).2 hy hx).symm)
        rw [hfin]
        exact ⟨rfl, hF1⟩
      · have hgi := (hM1 i (by omega)).2
        refine V_iload_n (i := 3) dX3_merge_64 rfl rfl ?_
        refine V_bipush_n (v := 8) dX3_merge_65 (by decide) ?_
        refine V_irem_n dX3_merge_67 (by omega) (by omega) (by omega) ?_
        refine V_bipush_n (v := 7) dX3_merge_68 (by decide) ?_
        refine V_icmp_ge_n (tgt := 95) dX3_merge_70 (by decide) (by omega) (by omega) (fun h70 => ?_) (fun h70 => ?_)
        · have hG1 := hG1
          have hE1 : i % 8 < 7 → Hd (Hq s 42) i → Hd (Hq s 42) (i + 1) → g i = g (i + 1) := fun q => by omega
          have hC1 : ∀ x y, g x = g y → g x = g y := fun x y e => e
          have hgi2 := (hM1 i (by omega)).2
          have hgj2 : (if (i + 8) < 64 then g (i + 8) else 0) ≤ 64 := ite_b (fun q => (hM1 (i + 8) q).2)
          refine V_aload_n (i := 0) dX3_merge_95 rfl rfl ?_
          refine V_aload_n (i := 0) dX3_merge_96 rfl rfl ?_
          refine V_iload_n (i := 3) dX3_merge_97 rfl rfl ?_
          refine V_callVF dX3_merge_98 (c_markOf hM1 (k := i) (by omega)) okX3_markOf lkRX3_35 (Or.inr ⟨rfl, Nat.le_of_ble_eq_true rfl⟩) rfl rfl rfl rfl (Nat.le_of_ble_eq_true rfl) ⟨Nat.le_of_ble_eq_true rfl, Nat.le_of_ble_eq_true rfl⟩ rfl ?_
          refine V_top (y := nI (g i)) (by rw [if_pos (by omega)]) ?_
          refine V_aload_n (i := 0) dX3_merge_101 rfl rfl ?_
          refine V_iload_n (i := 3) dX3_merge_102 rfl rfl ?_
          refine V_bipush_n (v := 8) dX3_merge_103 (by decide) ?_
          refine V_iadd_n dX3_merge_105 ?_
          refine V_callVF dX3_merge_106 (c_markOf hM1 (k := (i + 8)) (by omega)) okX3_markOf lkRX3_35 (Or.inr ⟨rfl, Nat.le_of_ble_eq_true rfl⟩) rfl rfl rfl rfl (Nat.le_of_ble_eq_true rfl) ⟨Nat.le_of_ble_eq_true rfl, Nat.le_of_ble_eq_true rfl⟩ rfl ?_
          refine V_callVM dX3_merge_109 (c_joinSets hM1 (ka := (g i)) (la := (if (i + 8) < 64 then g (i + 8) else 0)) (by omega) (by omega)) okX3_joinSets lkRX3_39 (Or.inr ⟨rfl, Nat.le_of_ble_eq_true rfl⟩) rfl rfl rfl rfl (Nat.le_of_ble_eq_true rfl) ⟨Nat.le_of_ble_eq_true rfl, Nat.le_of_ble_eq_true rfl⟩ rfl ?_
          intro u1 hu1
          have t2 := MG.two hG1 (i := i) (j := i + 8) (by omega) (by unfold adj; omega)
          refine V_if_eq_n (tgt := 118) dX3_merge_112 (by decide) (Nat.lt_of_lt_of_le ite_le (by decide)) (fun h112 => ?_) (fun h112 => ?_)
          · refine V_iinc_n (b := (i + 1)) dX3_merge_118 rfl (nI_add _ _) rfl rfl ?_
            refine V_goto (tgt := 58) dX3_merge_121 (by decide) ?_
            have hG2 := t2.2.1 (ite_f h112)
            refine (ih (i + 1) u1 _ _ (by omega) (by omega) hu1.1 hG2 (fun x hx => ?_) (hF1.trans hu1.2) (hR1.keepI hu1.2)).sub (by repeat' (first | exact trivial | exact rfl | constructor))
            by_cases e : x = i
            · subst e
              exact ⟨fun h7 d1 d2 => t2.2.2.2 _ _ (hE1 h7 d1 d2), t2.2.2.1⟩
            · have h9 := hPR x (by omega)
              exact ⟨fun h7 d1 d2 => t2.2.2.2 _ _ (hC1 _ _ (h9.1 h7 d1 d2)), fun d1 d2 => t2.2.2.2 _ _ (hC1 _ _ (h9.2 d1 d2))⟩
          · refine V_iinc_n (b := (n - 1)) dX3_merge_115 rfl (nI_dec (t2.1 (ite_t h112)).1) rfl rfl ?_
            refine V_iinc_n (b := (i + 1)) dX3_merge_118 rfl (nI_add _ _) rfl rfl ?_
            refine V_goto (tgt := 58) dX3_merge_121 (by decide) ?_
            have hG2 := (t2.1 (ite_t h112)).2
            refine (ih (i + 1) u1 _ _ (by omega) (by omega) hu1.1 hG2 (fun x hx => ?_) (hF1.trans hu1.2) (hR1.keepI hu1.2)).sub (by repeat' (first | exact trivial | exact rfl | constructor))
            by_cases e : x = i
            · subst e
              exact ⟨fun h7 d1 d2 => t2.2.2.2 _ _ (hE1 h7 d1 d2), t2.2.2.1⟩
            · have h9 := hPR x (by omega)
              exact ⟨fun h7 d1 d2 => t2.2.2.2 _ _ (hC1 _ _ (h9.1 h7 d1 d2)), fun d1 d2 => t2.2.2.2 _ _ (hC1 _ _ (h9.2 d1 d2))⟩
        · refine V_aload_n (i := 0) dX3_merge_73 rfl rfl ?_
          refine V_aload_n (i := 0) dX3_merge_74 rfl rfl ?_
          refine V_iload_n (i := 3) dX3_merge_75 rfl rfl ?_
          refine V_callVF dX3_merge_76 (c_markOf hM1 (k := i) (by omega)) okX3_markOf lkRX3_35 (Or.inr ⟨rfl, Nat.le_of_ble_eq_true rfl⟩) rfl rfl rfl rfl (Nat.le_of_ble_eq_true rfl) ⟨Nat.le_of_ble_eq_true rfl, Nat.le_of_ble_eq_true rfl⟩ rfl ?_
          refine V_top (y := nI (g i)) (by rw [if_pos (by omega)]) ?_
          refine V_aload_n (i := 0) dX3_merge_79 rfl rfl ?_
          refine V_iload_n (i := 3) dX3_merge_80 rfl rfl ?_
          refine V_iconst_n (v := 1) dX3_merge_81 (by decide) ?_
          refine V_iadd_n dX3_merge_82 ?_
          refine V_callVF dX3_merge_83 (c_markOf hM1 (k := (i + 1)) (by omega)) okX3_markOf lkRX3_35 (Or.inr ⟨rfl, Nat.le_of_ble_eq_true rfl⟩) rfl rfl rfl rfl (Nat.le_of_ble_eq_true rfl) ⟨Nat.le_of_ble_eq_true rfl, Nat.le_of_ble_eq_true rfl⟩ rfl ?_
          have hgj := (hM1 (i + 1) (by omega)).2
          have hgj1 : (if (i + 1) < 64 then g (i + 1) else 0) ≤ 64 := by rw [if_pos (by omega)]; exact hgj
          refine V_callVM dX3_merge_86 (c_joinSets hM1 (ka := (g i)) (la := (if (i + 1) < 64 then g (i + 1) else 0)) (by omega) (by omega)) okX3_joinSets lkRX3_39 (Or.inr ⟨rfl, Nat.le_of_ble_eq_true rfl⟩) rfl rfl rfl rfl (Nat.le_of_ble_eq_true rfl) ⟨Nat.le_of_ble_eq_true rfl, Nat.le_of_ble_eq_true rfl⟩ rfl ?_
          intro u1 hu1
          have t1 := MG.two hG1 (i := i) (j := i + 1) (by omega) (by unfold adj; omega)
          refine V_if_eq_n (tgt := 95) dX3_merge_89 (by decide) (Nat.lt_of_lt_of_le ite_le (by decide)) (fun h89 => ?_) (fun h89 => ?_)
          · have hG1 := t1.2.1 (ite_f h89)
            have hE1 : i % 8 < 7 → _ := fun _ => t1.2.2.1
            have hC1 := t1.2.2.2
            have hgi2 := (hu1.1 i (by omega)).2
            have hgj2 : (if (i + 8) < 64 then (jn g (g i) (if (i + 1) < 64 then g (i + 1) else 0)) (i + 8) else 0) ≤ 64 := ite_b (fun q => (hu1.1 (i + 8) q).2)
            refine V_aload_n (i := 0) dX3_merge_95 rfl rfl ?_
            refine V_aload_n (i := 0) dX3_merge_96 rfl rfl ?_
            refine V_iload_n (i := 3) dX3_merge_97 rfl rfl ?_
            refine V_callVF dX3_merge_98 (c_markOf hu1.1 (k := i) (by omega)) okX3_markOf lkRX3_35 (Or.inr ⟨rfl, Nat.le_of_ble_eq_true rfl⟩) rfl rfl rfl rfl (Nat.le_of_ble_eq_true rfl) ⟨Nat.le_of_ble_eq_true rfl, Nat.le_of_ble_eq_true rfl⟩ rfl ?_
            refine V_top (y := nI ((jn g (g i) (if (i + 1) < 64 then g (i + 1) else 0)) i)) (by rw [if_pos (by omega)]) ?_
            refine V_aload_n (i := 0) dX3_merge_101 rfl rfl ?_
            refine V_iload_n (i := 3) dX3_merge_102 rfl rfl ?_
            refine V_bipush_n (v := 8) dX3_merge_103 (by decide) ?_
            refine V_iadd_n dX3_merge_105 ?_
            refine V_callVF dX3_merge_106 (c_markOf hu1.1 (k := (i + 8)) (by omega)) okX3_markOf lkRX3_35 (Or.inr ⟨rfl, Nat.le_of_ble_eq_true rfl⟩) rfl rfl rfl rfl (Nat.le_of_ble_eq_true rfl) ⟨Nat.le_of_ble_eq_true rfl, Nat.le_of_ble_eq_true rfl⟩ rfl ?_
            refine V_callVM dX3_merge_109 (c_joinSets hu1.1 (ka := ((jn g (g i) (if (i + 1) < 64 then g (i + 1) else 0)) i)) (la := (if (i + 8) < 64 then (jn g (g i) (if (i + 1) < 64 then g (i + 1) else 0)) (i + 8) else 0)) (by omega) (by omega)) okX3_joinSets lkRX3_39 (Or.inr ⟨rfl, Nat.le_of_ble_eq_true rfl⟩) rfl rfl rfl rfl (Nat.le_of_ble_eq_true rfl) ⟨Nat.le_of_ble_eq_true rfl, Nat.le_of_ble_eq_true rfl⟩ rfl ?_
            intro u2 hu2
            have t2 := MG.two hG1 (i := i) (j := i + 8) (by omega) (by unfold adj; omega)
            refine V_if_eq_n (tgt := 118) dX3_merge_112 (by decide) (Nat.lt_of_lt_of_le ite_le (by decide)) (fun h112 => ?_) (fun h112 => ?_)
            · refine V_iinc_n (b := (i + 1)) dX3_merge_118 rfl (nI_add _ _) rfl rfl ?_
              refine V_goto (tgt := 58) dX3_merge_121 (by decide) ?_
              have hG2 := t2.2.1 (ite_f h112)
              refine (ih (i + 1) u2 _ _ (by omega) (by omega) hu2.1 hG2 (fun x hx => ?_) ((hF1.trans hu1.2).trans hu2.2) ((hR1.keepI hu1.2).keepI hu2.2)).sub (by repeat' (first | exact trivial | exact rfl | constructor))
              by_cases e : x = i
              · subst e
                exact ⟨fun h7 d1 d2 => t2.2.2.2 _ _ (hE1 h7 d1 d2), t2.2.2.1⟩
              · have h9 := hPR x (by omega)
                exact ⟨fun h7 d1 d2 => t2.2.2.2 _ _ (hC1 _ _ (h9.1 h7 d1 d2)), fun d1 d2 => t2.2.2.2 _ _ (hC1 _ _ (h9.2 d1 d2))⟩
            · refine V_iinc_n (b := (n - 1)) dX3_merge_115 rfl (nI_dec (t2.1 (ite_t h112)).1) rfl rfl ?_
              refine V_iinc_n (b := (i + 1)) dX3_merge_118 rfl (nI_add _ _) rfl rfl ?_
              refine V_goto (tgt := 58) dX3_merge_121 (by decide) ?_
              have hG2 := (t2.1 (ite_t h112)).2
              refine (ih (i + 1) u2 _ _ (by omega) (by omega) hu2.1 hG2 (fun x hx => ?_) ((hF1.trans hu1.2).trans hu2.2) ((hR1.keepI hu1.2).keepI hu2.2)).sub (by repeat' (first | exact trivial | exact rfl | constructor))
              by_cases e : x = i
              · subst e
                exact ⟨fun h7 d1 d2 => t2.2.2.2 _ _ (hE1 h7 d1 d2), t2.2.2.1⟩
              · have h9 := hPR x (by omega)
                exact ⟨fun h7 d1 d2 => t2.2.2.2 _ _ (hC1 _ _ (h9.1 h7 d1 d2)), fun d1 d2 => t2.2.2.2 _ _ (hC1 _ _ (h9.2 d1 d2))⟩
          · refine V_iinc_n (b := (n - 1)) dX3_merge_92 rfl (nI_dec (t1.1 (ite_t h89)).1) rfl rfl ?_
            have hG1 := (t1.1 (ite_t h89)).2
            have hE1 : i % 8 < 7 → _ := fun _ => t1.2.2.1
            have hC1 := t1.2.2.2
            have hgi2 := (hu1.1 i (by omega)).2
            have hgj2 : (if (i + 8) < 64 then (jn g (g i) (if (i + 1) < 64 then g (i + 1) else 0)) (i + 8) else 0) ≤ 64 := ite_b (fun q => (hu1.1 (i + 8) q).2)
            refine V_aload_n (i := 0) dX3_merge_95 rfl rfl ?_
            refine V_aload_n (i := 0) dX3_merge_96 rfl rfl ?_
            refine V_iload_n (i := 3) dX3_merge_97 rfl rfl ?_
            refine V_callVF dX3_merge_98 (c_markOf hu1.1 (k := i) (by omega)) okX3_markOf lkRX3_35 (Or.inr ⟨rfl, Nat.le_of_ble_eq_true rfl⟩) rfl rfl rfl rfl (Nat.le_of_ble_eq_true rfl) ⟨Nat.le_of_ble_eq_true rfl, Nat.le_of_ble_eq_true rfl⟩ rfl ?_
            refine V_top (y := nI ((jn g (g i) (if (i + 1) < 64 then g (i + 1) else 0)) i)) (by rw [if_pos (by omega)]) ?_
            refine V_aload_n (i := 0) dX3_merge_101 rfl rfl ?_
            refine V_iload_n (i := 3) dX3_merge_102 rfl rfl ?_
            refine V_bipush_n (v := 8) dX3_merge_103 (by decide) ?_
            refine V_iadd_n dX3_merge_105 ?_
            refine V_callVF dX3_merge_106 (c_markOf hu1.1 (k := (i + 8)) (by omega)) okX3_markOf lkRX3_35 (Or.inr ⟨rfl, Nat.le_of_ble_eq_true rfl⟩) rfl rfl rfl rfl (Nat.le_of_ble_eq_true rfl) ⟨Nat.le_of_ble_eq_true rfl, Nat.le_of_ble_eq_true rfl⟩ rfl ?_
            refine V_callVM dX3_merge_109 (c_joinSets hu1.1 (ka := ((jn g (g i) (if (i + 1) < 64 then g (i + 1) else 0)) i)) (la := (if (i + 8) < 64 then (jn g (g i) (if (i + 1) < 64 then g (i + 1) else 0)) (i + 8) else 0)) (by omega) (by omega)) okX3_joinSets lkRX3_39 (Or.inr ⟨rfl, Nat.le_of_ble_eq_true rfl⟩) rfl rfl rfl rfl (Nat.le_of_ble_eq_true rfl) ⟨Nat.le_of_ble_eq_true rfl, Nat.le_of_ble_eq_true rfl⟩ rfl ?_
            intro u2 hu2
            have t2 := MG.two hG1 (i := i) (j := i + 8) (by omega) (by unfold adj; omega)
            refine V_if_eq_n (tgt := 118) dX3_merge_112 (by decide) (Nat.lt_of_lt_of_le ite_le (by decide)) (fun h112 => ?_) (fun h112 => ?_)
            · refine V_iinc_n (b := (i + 1)) dX3_merge_118 rfl (nI_add _ _) rfl rfl ?_
              refine V_goto (tgt := 58) dX3_merge_121 (by decide) ?_
              have hG2 := t2.2.1 (ite_f h112)
              refine (ih (i + 1) u2 _ _ (by omega) (by omega) hu2.1 hG2 (fun x hx => ?_) ((hF1.trans hu1.2).trans hu2.2) ((hR1.keepI hu1.2).keepI hu2.2)).sub (by repeat' (first | exact trivial | exact rfl | constructor))
              by_cases e : x = i
              · subst e
                exact ⟨fun h7 d1 d2 => t2.2.2.2 _ _ (hE1 h7 d1 d2), t2.2.2.1⟩
              · have h9 := hPR x (by omega)
                exact ⟨fun h7 d1 d2 => t2.2.2.2 _ _ (hC1 _ _ (h9.1 h7 d1 d2)), fun d1 d2 => t2.2.2.2 _ _ (hC1 _ _ (h9.2 d1 d2))⟩
            · refine V_iinc_n (b := ((n - 1) - 1)) dX3_merge_115 rfl (nI_dec (t2.1 (ite_t h112)).1) rfl rfl ?_
              refine V_iinc_n (b := (i + 1)) dX3_merge_118 rfl (nI_add _ _) rfl rfl ?_
              refine V_goto (tgt := 58) dX3_merge_121 (by decide) ?_
              have hG2 := (t2.1 (ite_t h112)).2
              refine (ih (i + 1) u2 _ _ (by omega) (by omega) hu2.1 hG2 (fun x hx => ?_) ((hF1.trans hu1.2).trans hu2.2) ((hR1.keepI hu1.2).keepI hu2.2)).sub (by repeat' (first | exact trivial | exact rfl | constructor))
              by_cases e : x = i
              · subst e
                exact ⟨fun h7 d1 d2 => t2.2.2.2 _ _ (hE1 h7 d1 d2), t2.2.2.1⟩
              · have h9 := hPR x (by omega)
                exact ⟨fun h7 d1 d2 => t2.2.2.2 _ _ (hC1 _ _ (h9.1 h7 d1 d2)), fun d1 d2 => t2.2.2.2 _ _ (hC1 _ _ (h9.2 d1 d2))⟩
  have lp1 : ∀ (fu i : Nat) (w1 : Wd), i ≤ 64 → 64 - i < fu → (∀ j, j < i → gI w1 41 j = nI (if (Hq s 42) j = true then j + 1 else 0)) → Fr InI w w1 → Repr w1 a s → V 1 MX3_merge 5 0 0 (Mt (some (.int (nI (ns (Hq s 42) 64)))) fun w1 => Fr InI w w1) (fun _ _ => True) 0 0 4 [some (.ref 40), some (.ref a), some (.int (nI (sm (fun k => if (Hq s 42) k = true then 1 else 0) i))), some (.int (nI i)), none] [] w1 := by
    intro fu
    induction fu with
    | zero => intro i w1 h1 h2; omega
    | succ fu ih =>
      intro i w1 hib hfu hZ hF1 hR1
      have hle := sm_le (f := fun k => if (Hq s 42) k = true then 1 else 0) (c := 1) (fun k => by split <;> omega) i
      have e1 : sm (fun k => if (Hq s 42) k = true then 1 else 0) (i + 1) = (sm (fun k => if (Hq s 42) k = true then 1 else 0) i) + (if (Hq s 42) i = true then 1 else 0) := rfl
      refine V_iload_n (i := 3) dX3_merge_4 rfl rfl ?_
      refine V_bipush_n (v := 64) dX3_merge_5 (by decide) ?_
      refine V_icmp_ge_n (tgt := 56) dX3_merge_7 (by decide) (by omega) (by omega) (fun h7 => ?_) (fun h7 => ?_)
      · refine V_iconst_n (v := 0) dX3_merge_56 (by decide) ?_
        refine V_istore_n (i := 3) dX3_merge_57 rfl (Nat.le_of_ble_eq_true rfl) rfl rfl ?_
        obtain rfl : i = 64 := by omega
        exact (lp2 65 0 w1 (fun k => if (Hq s 42) k = true then k + 1 else 0) _ (by omega) (by omega) (fun k hk => ⟨hZ k hk, by dsimp only; split <;> omega⟩) MG.init (fun x hx => by omega) hF1 hR1).sub (by repeat' (first | exact trivial | exact rfl | constructor))
      · refine V_aload_n (i := 1) dX3_merge_10 rfl rfl ?_
        refine V_iload_n (i := 3) dX3_merge_11 rfl rfl ?_
        refine V_bipush_n (v := 42) dX3_merge_12 (by decide) ?_
        refine V_callVF dX3_merge_14 (c_holds hR1 (k := i) (q := 42) (by omega) (by omega)) okX8_holds lkRX3_22 hR.1.mk0 hR.1.sh.1 rfl rfl rfl (Nat.le_of_ble_eq_true rfl) ⟨Nat.le_of_ble_eq_true rfl, Nat.le_of_ble_eq_true rfl⟩ rfl ?_
        refine V_istore dX3_merge_17 (Nat.le_of_ble_eq_true rfl) rfl rfl ?_
        refine V_aload_n (i := 0) dX3_merge_19 rfl rfl ?_
        refine V_getC (k := 0) (q := 41) dX3_merge_20 (Or.inr ⟨rfl, Nat.le_of_ble_eq_true rfl⟩) rfl rfl rfl (Nat.le_of_ble_eq_true rfl) flRX3_9 ?_
        refine V_iload_n (i := 3) dX3_merge_23 rfl rfl ?_
        refine V_iload dX3_merge_24 rfl ?_
        refine V_if_eq_n (tgt := 35) dX3_merge_26 (by decide) (Nat.lt_of_lt_of_le ite_le (by decide)) (fun h26 => ?_) (fun h26 => ?_)
        · have hh := ite_f h26
          rw [if_neg hh] at e1
          refine V_iconst_n (v := 0) dX3_merge_35 (by decide) ?_
          refine V_iast_n (i := i) dX3_merge_36 (Or.inr ⟨rfl, Nat.le_of_ble_eq_true rfl⟩) rfl (by omega) (by decide) ?_
          refine V_iload_n (i := 2) dX3_merge_37 rfl rfl ?_
          refine V_iload dX3_merge_38 rfl ?_
          refine V_if_eq_n (tgt := 47) dX3_merge_40 (by decide) (Nat.lt_of_lt_of_le ite_le (by decide)) (fun h40 => ?_) (fun h40 => by exfalso; omega)
          refine V_iconst_n (v := 0) dX3_merge_47 (by decide) ?_
          refine V_iadd_n dX3_merge_48 ?_
          refine V_istore_n (i := 2) dX3_merge_49 rfl (Nat.le_of_ble_eq_true rfl) rfl rfl ?_
          refine V_iinc_n (b := (i + 1)) dX3_merge_50 rfl (nI_add _ _) rfl rfl ?_
          refine V_goto (tgt := 4) dX3_merge_53 (by decide) ?_
          have k9 := ih (i + 1) _ (by omega) (by omega) (fun j hj => by
            by_cases e : j = i
            · subst e; rw [if_neg hh]; exact pI_at
            · exact pI_ne (by omega) (hZ j (by omega))) (hF1.i1 (by unfold InI; omega)) (hR1.keepI (Fr.nil.i1 (by unfold InI; omega)))
          rw [e1] at k9
          exact k9.sub (by repeat' (first | exact trivial | exact rfl | constructor))
        · have hh := ite_t h26
          rw [if_pos hh] at e1
          refine V_iload_n (i := 3) dX3_merge_29 rfl rfl ?_
          refine V_iconst_n (v := 1) dX3_merge_30 (by decide) ?_
          refine V_iadd_n dX3_merge_31 ?_
          refine V_goto (tgt := 36) dX3_merge_32 (by decide) ?_
          refine V_iast_n (i := i) dX3_merge_36 (Or.inr ⟨rfl, Nat.le_of_ble_eq_true rfl⟩) rfl (by omega) (by decide) ?_
          refine V_iload_n (i := 2) dX3_merge_37 rfl rfl ?_
          refine V_iload dX3_merge_38 rfl ?_
          refine V_if_eq_n (tgt := 47) dX3_merge_40 (by decide) (Nat.lt_of_lt_of_le ite_le (by decide)) (fun h40 => by exfalso; omega) (fun h40 => ?_)
          refine V_iconst_n (v := 1) dX3_merge_43 (by decide) ?_
          refine V_goto (tgt := 48) dX3_merge_44 (by decide) ?_
          refine V_iadd_n dX3_merge_48 ?_
          refine V_istore_n (i := 2) dX3_merge_49 rfl (Nat.le_of_ble_eq_true rfl) rfl rfl ?_
          refine V_iinc_n (b := (i + 1)) dX3_merge_50 rfl (nI_add _ _) rfl rfl ?_
          refine V_goto (tgt := 4) dX3_merge_53 (by decide) ?_
          have k9 := ih (i + 1) _ (by omega) (by omega) (fun j hj => by
            by_cases e : j = i
            · subst e; rw [if_pos hh]; exact pI_at
            · exact pI_ne (by omega) (hZ j (by omega))) (hF1.i1 (by unfold InI; omega)) (hR1.keepI (Fr.nil.i1 (by unfold InI; omega)))
          rw [e1] at k9
          exact k9.sub (by repeat' (first | exact trivial | exact rfl | constructor))
  refine V_iconst_n (v := 0) dX3_merge_0 (by decide) ?_
  refine V_istore_n (i := 2) dX3_merge_1 rfl (Nat.le_of_ble_eq_true rfl) rfl rfl ?_
  refine V_iconst_n (v := 0) dX3_merge_2 (by decide) ?_
  refine V_istore_n (i := 3) dX3_merge_3 rfl (Nat.le_of_ble_eq_true rfl) rfl rfl ?_
  exact (lp1 65 0 w (by omega) (by omega) (fun j hj => by omega) Fr.nil hR).sub (by repeat' (first | exact trivial | exact rfl | constructor))
end MISLES2
