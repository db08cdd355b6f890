/-! THE LAW: its loop. Printed by wip/whole/gen/mk44.py. -/
section LLOOP
theorem and63 (x : Int32) : ∃ c, c < 64 ∧ x &&& nI 63 = nI c := by
  refine ⟨(x &&& nI 63).toBitVec.toNat, ?_, ?_⟩
  · rw [Int32.toBitVec_and, BitVec.toNat_and]
    have e : (nI 63).toBitVec.toNat = 63 := by decide
    rw [e]
    exact Nat.lt_of_le_of_lt Nat.and_le_right (by decide)
  · refine Int32.toBitVec_inj.mp ?_
    show (x &&& nI 63).toBitVec = (Int32.ofNat (x &&& nI 63).toBitVec.toNat).toBitVec
    generalize (x &&& nI 63).toBitVec = y
    show y = BitVec.ofNat 32 y.toNat
    simp
theorem five_next (t : Nat) : nI (5 * t) + Int32.ofInt 5 = nI (5 * (t + 1)) := by
  rw [show Int32.ofInt 5 = nI 5 by decide, nI_add]; rfl
section
variable {b n : Nat} {xs : Nat → Int32}
set_option maxRecDepth 100000 in
set_option maxHeartbeats 1000000 in
theorem law_sw {t kc ks c : Nat} {S : Sys} {w : Wd} (hc : c < 64) (hC : CI w S) (hM : MI w S) (ht : 5 * t + 5 ≤ n) (hn : n ≤ 2560) (hk : 4 ≤ kc) (hs : 24 ≤ ks) (hb : LBack b n xs t (kc - 4) (ks - 24)) : LV b n xs kc ks 44 [some (.ref 1999), some (.ref 0), some (.ref 47), some (.ref 65), some (.ref 66), some (.int (nI (5 * t))), none, none, none] [.int (nI c)] w := by
  match c, hc with
  | 0, _ => exact V_tsIn (tgt := 276) (off := 232) dL_law_44 (by decide) (by decide) rfl (by decide) (law_c0 hC hM ht hn hk hs hb)
  | 1, _ => exact V_tsIn (tgt := 358) (off := 314) dL_law_44 (by decide) (by decide) rfl (by decide) (law_c1 hC hM ht hn hk hs hb)
  | 2, _ => exact V_tsIn (tgt := 426) (off := 382) dL_law_44 (by decide) (by decide) rfl (by decide) (law_c2 hC hM ht hn hk hs hb)
  | 3, _ => exact V_tsIn (tgt := 494) (off := 450) dL_law_44 (by decide) (by decide) rfl (by decide) (law_c3 hC hM ht hn hk hs hb)
  | 4, _ => exact V_tsIn (tgt := 576) (off := 532) dL_law_44 (by decide) (by decide) rfl (by decide) (law_c4 hC hM ht hn hk hs hb)
  | 5, _ => exact V_tsIn (tgt := 672) (off := 628) dL_law_44 (by decide) (by decide) rfl (by decide) (law_c5 hC hM ht hn hk hs hb)
  | 6, _ => exact V_tsIn (tgt := 730) (off := 686) dL_law_44 (by decide) (by decide) rfl (by decide) (law_c6 hC hM ht hn hk hs hb)
  | 7, _ => exact V_tsIn (tgt := 805) (off := 761) dL_law_44 (by decide) (by decide) rfl (by decide) (law_c7 hC hM ht hn hk hs hb)
  | 8, _ => exact V_tsIn (tgt := 880) (off := 836) dL_law_44 (by decide) (by decide) rfl (by decide) (law_c8 hC hM ht hn hk hs hb)
  | 9, _ => exact V_tsIn (tgt := 955) (off := 911) dL_law_44 (by decide) (by decide) rfl (by decide) (law_c9 hC hM ht hn hk hs hb)
  | 10, _ => exact V_tsIn (tgt := 1023) (off := 979) dL_law_44 (by decide) (by decide) rfl (by decide) (law_c10 hC hM ht hn hk hs hb)
  | 11, _ => exact V_tsIn (tgt := 1091) (off := 1047) dL_law_44 (by decide) (by decide) rfl (by decide) (law_c11 hC hM ht hn hk hs hb)
  | 12, _ => exact V_tsIn (tgt := 1159) (off := 1115) dL_law_44 (by decide) (by decide) rfl (by decide) (law_c12 hC hM ht hn hk hs hb)
  | 13, _ => exact V_tsIn (tgt := 1241) (off := 1197) dL_law_44 (by decide) (by decide) rfl (by decide) (law_c13 hC hM ht hn hk hs hb)
  | 14, _ => exact V_tsIn (tgt := 1309) (off := 1265) dL_law_44 (by decide) (by decide) rfl (by decide) (law_c14 hC hM ht hn hk hs hb)
  | 15, _ => exact V_tsIn (tgt := 1322) (off := 1278) dL_law_44 (by decide) (by decide) rfl (by decide) (law_c15 hC hM ht hn hk hs hb)
  | 16, _ => exact V_tsIn (tgt := 1335) (off := 1291) dL_law_44 (by decide) (by decide) rfl (by decide) (law_c16 hC hM ht hn hk hs hb)
  | 17, _ => exact V_tsIn (tgt := 1393) (off := 1349) dL_law_44 (by decide) (by decide) rfl (by decide) (law_c17 hC hM ht hn hk hs hb)
  | 18, _ => exact V_tsIn (tgt := 1406) (off := 1362) dL_law_44 (by decide) (by decide) rfl (by decide) (law_c18 hC hM ht hn hk hs hb)
  | 19, _ => exact V_tsIn (tgt := 1419) (off := 1375) dL_law_44 (by decide) (by decide) rfl (by decide) (law_c19 hC hM ht hn hk hs hb)
  | 20, _ => exact V_tsIn (tgt := 1487) (off := 1443) dL_law_44 (by decide) (by decide) rfl (by decide) (law_c20 hC hM ht hn hk hs hb)
  | 21, _ => exact V_tsIn (tgt := 1500) (off := 1456) dL_law_44 (by decide) (by decide) rfl (by decide) (law_c21 hC hM ht hn hk hs hb)
  | 22, _ => exact V_tsIn (tgt := 1558) (off := 1514) dL_law_44 (by decide) (by decide) rfl (by decide) (law_c22 hC hM ht hn hk hs hb)
  | 23, _ => exact V_tsIn (tgt := 1657) (off := 1613) dL_law_44 (by decide) (by decide) rfl (by decide) (law_c23 hC hM ht hn hk hs hb)
  | 24, _ => exact V_tsIn (tgt := 1713) (off := 1669) dL_law_44 (by decide) (by decide) rfl (by decide) (law_c24 hC hM ht hn hk hs hb)
  | 25, _ => exact V_tsIn (tgt := 1788) (off := 1744) dL_law_44 (by decide) (by decide) rfl (by decide) (law_c25 hC hM ht hn hk hs hb)
  | 26, _ => exact V_tsIn (tgt := 1844) (off := 1800) dL_law_44 (by decide) (by decide) rfl (by decide) (law_c26 hC hM ht hn hk hs hb)
  | 27, _ => exact V_tsIn (tgt := 1857) (off := 1813) dL_law_44 (by decide) (by decide) rfl (by decide) (law_c27 hC hM ht hn hk hs hb)
  | 28, _ => exact V_tsIn (tgt := 1901) (off := 1857) dL_law_44 (by decide) (by decide) rfl (by decide) (law_c28 hC hM ht hn hk hs hb)
  | 29, _ => exact V_tsIn (tgt := 1914) (off := 1870) dL_law_44 (by decide) (by decide) rfl (by decide) (law_c29 hC hM ht hn hk hs hb)
  | 30, _ => exact V_tsIn (tgt := 1977) (off := 1933) dL_law_44 (by decide) (by decide) rfl (by decide) (law_c30 hC hM ht hn hk hs hb)
  | 31, _ => exact V_tsIn (tgt := 2040) (off := 1996) dL_law_44 (by decide) (by decide) rfl (by decide) (law_c31 hC hM ht hn hk hs hb)
  | 32, _ => exact V_tsIn (tgt := 2053) (off := 2009) dL_law_44 (by decide) (by decide) rfl (by decide) (law_c32 hC hM ht hn hk hs hb)
  | 33, _ => exact V_tsIn (tgt := 2066) (off := 2022) dL_law_44 (by decide) (by decide) rfl (by decide) (law_c33 hC hM ht hn hk hs hb)
  | 34, _ => exact V_tsIn (tgt := 2079) (off := 2035) dL_law_44 (by decide) (by decide) rfl (by decide) (law_c34 hC hM ht hn hk hs hb)
  | 35, _ => exact V_tsIn (tgt := 2092) (off := 2048) dL_law_44 (by decide) (by decide) rfl (by decide) (law_c35 hC hM ht hn hk hs hb)
  | 36, _ => exact V_tsIn (tgt := 2105) (off := 2061) dL_law_44 (by decide) (by decide) rfl (by decide) (law_c36 hC hM ht hn hk hs hb)
  | 37, _ => exact V_tsIn (tgt := 2118) (off := 2074) dL_law_44 (by decide) (by decide) rfl (by decide) (law_c37 hC hM ht hn hk hs hb)
  | 38, _ => exact V_tsIn (tgt := 2174) (off := 2130) dL_law_44 (by decide) (by decide) rfl (by decide) (law_c38 hC hM ht hn hk hs hb)
  | 39, _ => exact V_tsIn (tgt := 2230) (off := 2186) dL_law_44 (by decide) (by decide) rfl (by decide) (law_c39 hC hM ht hn hk hs hb)
  | 40, _ => exact V_tsIn (tgt := 2295) (off := 2251) dL_law_44 (by decide) (by decide) rfl (by decide) (law_c40 hC hM ht hn hk hs hb)
  | 41, _ => exact V_tsIn (tgt := 2361) (off := 2317) dL_law_44 (by decide) (by decide) rfl (by decide) (law_c41 hC hM ht hn hk hs hb)
  | 42, _ => exact V_tsIn (tgt := 2374) (off := 2330) dL_law_44 (by decide) (by decide) rfl (by decide) (law_c42 hC hM ht hn hk hs hb)
  | 43, _ => exact V_tsIn (tgt := 2430) (off := 2386) dL_law_44 (by decide) (by decide) rfl (by decide) (law_c43 hC hM ht hn hk hs hb)
  | 44, _ => exact V_tsIn (tgt := 2443) (off := 2399) dL_law_44 (by decide) (by decide) rfl (by decide) (law_c44 hC hM ht hn hk hs hb)
  | 45, _ => exact V_tsIn (tgt := 2499) (off := 2455) dL_law_44 (by decide) (by decide) rfl (by decide) (law_c45 hC hM ht hn hk hs hb)
  | 46, _ => exact V_tsIn (tgt := 2557) (off := 2513) dL_law_44 (by decide) (by decide) rfl (by decide) (law_c46 hC hM ht hn hk hs hb)
  | 47, _ => exact V_tsIn (tgt := 2601) (off := 2557) dL_law_44 (by decide) (by decide) rfl (by decide) (law_c47 hC hM ht hn hk hs hb)
  | 48, _ => exact V_tsIn (tgt := 2645) (off := 2601) dL_law_44 (by decide) (by decide) rfl (by decide) (law_c48 hC hM ht hn hk hs hb)
  | 49, _ => exact V_tsIn (tgt := 2689) (off := 2645) dL_law_44 (by decide) (by decide) rfl (by decide) (law_c49 hC hM ht hn hk hs hb)
  | 50, _ => exact V_tsIn (tgt := 2733) (off := 2689) dL_law_44 (by decide) (by decide) rfl (by decide) (law_c50 hC hM ht hn hk hs hb)
  | 51, _ => exact V_tsIn (tgt := 2777) (off := 2733) dL_law_44 (by decide) (by decide) rfl (by decide) (law_c51 hC hM ht hn hk hs hb)
  | 52, _ => exact V_tsIn (tgt := 2821) (off := 2777) dL_law_44 (by decide) (by decide) rfl (by decide) (law_c52 hC hM ht hn hk hs hb)
  | 53, _ => exact V_tsIn (tgt := 2834) (off := 2790) dL_law_44 (by decide) (by decide) rfl (by decide) (law_c53 hC hM ht hn hk hs hb)
  | j + 54, hj => exact V_tsOut (tgt := 2878) dL_law_44 (Or.inr (by rw [nI_toInt (by omega)]; omega)) (by decide) (V_w (by omega) (by omega) (hb S w hC hM))
set_option maxRecDepth 100000 in
set_option maxHeartbeats 1000000 in
theorem law_loop (hn : n ≤ 2560) : ∀ (k t kc ks : Nat) (S : Sys) (w : Wd), t + k = 513 → CI w S → MI w S → 4 * k ≤ kc → 24 * k ≤ ks → LV b n xs kc ks 28 [some (.ref 1999), some (.ref 0), some (.ref 47), some (.ref 65), some (.ref 66), some (.int (nI (5 * t))), none, none, none] [] w := by
  intro k
  induction k with
  | zero =>
    intro t kc ks S w htk hC hM hkc hks
    refine V_iload dL_law_28 rfl ?_
    refine V_aload_n (i := 0) dL_law_30 rfl rfl ?_
    refine V_slen dL_law_31 ?_
    refine V_iconst_n (v := 5) dL_law_32 (by decide) ?_
    refine V_isub_z dL_law_33 (zI_n n) (zI_n 5) ?_
    refine V_icmp_gt_z (tgt := 2884) dL_law_34 (by decide) (zI_n (5 * t)) rfl (by omega) (by omega) (by omega) (by omega) (fun h34 => ?_) (fun h34 => by exfalso; omega)
    refine V_iconst_n (v := 1) dL_law_2884 (by decide) ?_
    exact V_iret dL_law_2885 rfl (by decide) rfl
  | succ k ih =>
    intro t kc ks S w htk hC hM hkc hks
    refine V_iload dL_law_28 rfl ?_
    refine V_aload_n (i := 0) dL_law_30 rfl rfl ?_
    refine V_slen dL_law_31 ?_
    refine V_iconst_n (v := 5) dL_law_32 (by decide) ?_
    refine V_isub_z dL_law_33 (zI_n n) (zI_n 5) ?_
    refine V_icmp_gt_z (tgt := 2884) dL_law_34 (by decide) (zI_n (5 * t)) rfl (by omega) (by omega) (by omega) (by omega) (fun h34 => ?_) (fun h34 => ?_)
    · refine V_iconst_n (v := 1) dL_law_2884 (by decide) ?_
      exact V_iret dL_law_2885 rfl (by decide) rfl
    · refine V_aload_n (i := 0) dL_law_37 rfl rfl ?_
      refine V_iload dL_law_38 rfl ?_
      refine V_sld (i := 5 * t) dL_law_40 (by omega) (by omega) ?_
      refine V_bipush_n (v := 63) dL_law_41 (by decide) ?_
      refine V_iand dL_law_43 ?_
      obtain ⟨c, hc, e9⟩ := and63 (xs (5 * t))
      refine V_top e9 ?_
      refine law_sw hc hC hM (by omega) hn (by omega) (by omega) (fun S1 w1 hC1 hM1 => ?_)
      refine V_iinc (i := 5) (v := nI (5 * (t + 1))) dL_law_2878 rfl (five_next t) rfl rfl ?_
      refine V_goto (tgt := 28) dL_law_2881 (by decide) ?_
      exact ih (t + 1) (kc - 4) (ks - 24) S1 w1 (by omega) hC1 hM1 (by omega) (by omega)
end
end LLOOP
