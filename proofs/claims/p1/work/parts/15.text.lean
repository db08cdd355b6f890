/-! TEXTS: length and charAt of the constants; the patterns. Printed by wip/whole/gen/mk15.py. -/
section MTEXT
/-- the texts that the class asks -/
def txL : List (Nat × List Nat) := [(1100, [99, 97, 108, 109]), (1101, [98, 117, 115, 121]), (1102, [115, 108, 111, 119]), (1110, [48, 48, 48, 49, 49, 48, 49, 49]), (1111, [48, 48, 48, 49, 48, 50]), (1112, [48, 49, 49, 48, 49, 49, 49, 50, 50, 49]), (1113, [48, 49, 49, 50, 50, 48, 50, 49, 50, 50]), (1120, [112, 108, 97, 99, 101, 32]), (1121, [114, 101, 109, 111, 118, 101, 32]), (1122, [98, 108, 101, 97, 99, 104, 32]), (1123, [99, 111, 108, 111, 117, 114, 32]), (1124, [112, 108, 97, 110, 116, 32]), (1125, [114, 117, 108, 101, 32]), (1126, [116, 105, 100, 101, 32]), (1130, [32, 98]), (1131, [47, 115])]
def tx (t : Nat) : List Nat := (txL.lookup t).getD []
def IsT (t : Nat) : Prop := t ∈ [1100, 1101, 1102, 1110, 1111, 1112, 1113, 1120, 1121, 1122, 1123, 1124, 1125, 1126, 1130, 1131]
theorem IsT.all {P : Nat → Prop} (h1100 : P 1100) (h1101 : P 1101) (h1102 : P 1102) (h1110 : P 1110) (h1111 : P 1111) (h1112 : P 1112) (h1113 : P 1113) (h1120 : P 1120) (h1121 : P 1121) (h1122 : P 1122) (h1123 : P 1123) (h1124 : P 1124) (h1125 : P 1125) (h1126 : P 1126) (h1130 : P 1130) (h1131 : P 1131) {t : Nat} (ht : IsT t) : P t := by
  unfold IsT at ht
  simp only [List.mem_cons, List.not_mem_nil, or_false] at ht
  rcases ht with rfl | rfl | rfl | rfl | rfl | rfl | rfl | rfl | rfl | rfl | rfl | rfl | rfl | rfl | rfl | rfl <;> assumption
theorem tx_O {t : Nat} (ht : IsT t) : (RJ0, t) ∈ cO := IsT.all (P := fun t => (RJ0, t) ∈ cO) (List.mem_of_getElem? (i := 14) rfl) (List.mem_of_getElem? (i := 15) rfl) (List.mem_of_getElem? (i := 16) rfl) (List.mem_of_getElem? (i := 17) rfl) (List.mem_of_getElem? (i := 18) rfl) (List.mem_of_getElem? (i := 19) rfl) (List.mem_of_getElem? (i := 20) rfl) (List.mem_of_getElem? (i := 21) rfl) (List.mem_of_getElem? (i := 22) rfl) (List.mem_of_getElem? (i := 23) rfl) (List.mem_of_getElem? (i := 24) rfl) (List.mem_of_getElem? (i := 25) rfl) (List.mem_of_getElem? (i := 26) rfl) (List.mem_of_getElem? (i := 27) rfl) (List.mem_of_getElem? (i := 28) rfl) (List.mem_of_getElem? (i := 29) rfl) ht
theorem tx_value {t : Nat} (ht : IsT t) : (RJ0, "value", "[B", .ref (t + 100), t) ∈ cF := IsT.all (P := fun t => (RJ0, "value", "[B", .ref (t + 100), t) ∈ cF) (List.mem_of_getElem? (i := 56) rfl) (List.mem_of_getElem? (i := 58) rfl) (List.mem_of_getElem? (i := 60) rfl) (List.mem_of_getElem? (i := 62) rfl) (List.mem_of_getElem? (i := 64) rfl) (List.mem_of_getElem? (i := 66) rfl) (List.mem_of_getElem? (i := 68) rfl) (List.mem_of_getElem? (i := 70) rfl) (List.mem_of_getElem? (i := 72) rfl) (List.mem_of_getElem? (i := 74) rfl) (List.mem_of_getElem? (i := 76) rfl) (List.mem_of_getElem? (i := 78) rfl) (List.mem_of_getElem? (i := 80) rfl) (List.mem_of_getElem? (i := 82) rfl) (List.mem_of_getElem? (i := 84) rfl) (List.mem_of_getElem? (i := 86) rfl) ht
theorem tx_coder {t : Nat} (ht : IsT t) : (RJ0, "coder", "B", .int (nI 0), t) ∈ cF := IsT.all (P := fun t => (RJ0, "coder", "B", .int (nI 0), t) ∈ cF) (List.mem_of_getElem? (i := 55) rfl) (List.mem_of_getElem? (i := 57) rfl) (List.mem_of_getElem? (i := 59) rfl) (List.mem_of_getElem? (i := 61) rfl) (List.mem_of_getElem? (i := 63) rfl) (List.mem_of_getElem? (i := 65) rfl) (List.mem_of_getElem? (i := 67) rfl) (List.mem_of_getElem? (i := 69) rfl) (List.mem_of_getElem? (i := 71) rfl) (List.mem_of_getElem? (i := 73) rfl) (List.mem_of_getElem? (i := 75) rfl) (List.mem_of_getElem? (i := 77) rfl) (List.mem_of_getElem? (i := 79) rfl) (List.mem_of_getElem? (i := 81) rfl) (List.mem_of_getElem? (i := 83) rfl) (List.mem_of_getElem? (i := 85) rfl) ht
theorem tx_T {t : Nat} (ht : IsT t) : (.byte, t + 100, (tx t).length, fun j => .int (((tx t).map nI).getD j 0)) ∈ cT := IsT.all (P := fun t => (.byte, t + 100, (tx t).length, fun j => .int (((tx t).map nI).getD j 0)) ∈ cT) (List.mem_of_getElem? (i := 4) rfl) (List.mem_of_getElem? (i := 5) rfl) (List.mem_of_getElem? (i := 6) rfl) (List.mem_of_getElem? (i := 7) rfl) (List.mem_of_getElem? (i := 8) rfl) (List.mem_of_getElem? (i := 9) rfl) (List.mem_of_getElem? (i := 10) rfl) (List.mem_of_getElem? (i := 11) rfl) (List.mem_of_getElem? (i := 12) rfl) (List.mem_of_getElem? (i := 13) rfl) (List.mem_of_getElem? (i := 14) rfl) (List.mem_of_getElem? (i := 15) rfl) (List.mem_of_getElem? (i := 16) rfl) (List.mem_of_getElem? (i := 17) rfl) (List.mem_of_getElem? (i := 18) rfl) (List.mem_of_getElem? (i := 19) rfl) ht
theorem tx_len {t : Nat} (ht : IsT t) : (tx t).length < 12 := (by decide +kernel : ∀ t ∈ [1100, 1101, 1102, 1110, 1111, 1112, 1113, 1120, 1121, 1122, 1123, 1124, 1125, 1126, 1130, 1131], (tx t).length < 12) t ht
theorem tx_asc {t : Nat} (ht : IsT t) : ∀ i, i < (tx t).length → (tx t).getD i 0 < 128 := (by decide +kernel : ∀ t ∈ [1100, 1101, 1102, 1110, 1111, 1112, 1113, 1120, 1121, 1122, 1123, 1124, 1125, 1126, 1130, 1131], ∀ i, i < (tx t).length → (tx t).getD i 0 < 128) t ht
theorem map_nI {l : List Nat} {i : Nat} : (l.map nI).getD i 0 = nI (l.getD i 0) := by
  rw [List.getD_eq_getElem?_getD, List.getD_eq_getElem?_getD, List.getElem?_map]
  cases l[i]? <;> rfl
theorem tx_get {t i : Nat} (hi : i < 2 ^ 31) : (fun j => Value.int (((tx t).map nI).getD j 0)) (nI i).toNatClampNeg = .int (nI ((tx t).getD i 0)) := by
  show Value.int (((tx t).map nI).getD (nI i).toNatClampNeg 0) = _
  rw [nI_clamp hi, map_nI]
theorem shr_0 {a : Nat} (h : a < 128) : nI a >>> (nI 0 &&& 31) = nI a := (by decide +kernel : ∀ a < 128, nI a >>> (nI 0 &&& 31) = nI a) a h
theorem and_255 {a : Nat} (h : a < 128) : nI a &&& nI 255 = nI a := (by decide +kernel : ∀ a < 128, nI a &&& nI 255 = nI a) a h
set_option maxRecDepth 100000 in
set_option maxHeartbeats 1000000 in
theorem c_coder {t : Nat} {w : Wd} (ht : IsT t) : Ct 1 MJ0_coder_7d493 1 0 0 [.ref t] w (Rt (some (.int (nI 0))) w) := by
  refine Ct_of (by decide +kernel) rfl (Nat.le_of_ble_eq_true rfl) rfl ?_
  refine V_gets dJ0_coder_7d493_0 (List.mem_of_getElem? (i := 18) rfl) flRJ0_38 ?_
  refine V_top (y := nI 1) rfl ?_
  refine V_if_eq_n (tgt := 13) dJ0_coder_7d493_3 (by decide) (by omega) (fun h3 => by exfalso; omega) (fun h3 => ?_)
  refine V_aload_n (i := 0) dJ0_coder_7d493_6 rfl rfl ?_
  refine V_getK dJ0_coder_7d493_7 (tx_coder ht) flRJ0_15 ?_
  refine V_goto (tgt := 14) dJ0_coder_7d493_10 (by decide) ?_
  refine V_iret dJ0_coder_7d493_14 rfl rfl ?_
  exact ⟨rfl, rfl⟩
set_option maxRecDepth 100000 in
set_option maxHeartbeats 1000000 in
theorem c_isLatin1 {t : Nat} {w : Wd} (ht : IsT t) : Ct 1 MJ0_isLatin1_aae02 1 0 0 [.ref t] w (Rt (some (.int (nI 1))) w) := by
  refine Ct_of (by decide +kernel) rfl (Nat.le_of_ble_eq_true rfl) rfl ?_
  refine V_gets dJ0_isLatin1_aae02_0 (List.mem_of_getElem? (i := 18) rfl) flRJ0_38 ?_
  refine V_top (y := nI 1) rfl ?_
  refine V_if_eq_n (tgt := 17) dJ0_isLatin1_aae02_3 (by decide) (by omega) (fun h3 => by exfalso; omega) (fun h3 => ?_)
  refine V_aload_n (i := 0) dJ0_isLatin1_aae02_6 rfl rfl ?_
  refine V_getK dJ0_isLatin1_aae02_7 (tx_coder ht) flRJ0_15 ?_
  refine V_if_ne_n (tgt := 17) dJ0_isLatin1_aae02_10 (by decide) (by omega) (fun h10 => by exfalso; omega) (fun h10 => ?_)
  refine V_iconst_n (v := 1) dJ0_isLatin1_aae02_13 (by decide) ?_
  refine V_goto (tgt := 18) dJ0_isLatin1_aae02_14 (by decide) ?_
  refine V_iret dJ0_isLatin1_aae02_18 rfl (nar_bool (by omega)) ?_
  exact ⟨rfl, rfl⟩
set_option maxRecDepth 100000 in
set_option maxHeartbeats 1000000 in
theorem c_length {t : Nat} {w : Wd} (ht : IsT t) : Ct 1 MJ0_length_8abf5 2 0 0 [.ref t] w (Rt (some (.int (nI (tx t).length))) w) := by
  refine Ct_of (by decide +kernel) rfl (Nat.le_of_ble_eq_true rfl) rfl ?_
  have hl9 := tx_len ht
  refine V_aload_n (i := 0) dJ0_length_8abf5_0 rfl rfl ?_
  refine V_getK dJ0_length_8abf5_1 (tx_value ht) flRJ0_9 ?_
  refine V_tlen (v := nI (tx t).length) dJ0_length_8abf5_4 (tx_T ht) rfl ?_
  refine V_aload_n (i := 0) dJ0_length_8abf5_5 rfl rfl ?_
  refine V_callVOF dJ0_length_8abf5_6 (c_coder ht) okJ0_coder_7d493 lkRJ0_335 (tx_O ht) rfl rfl (Nat.le_of_ble_eq_true rfl) ⟨Nat.le_of_ble_eq_true rfl, Nat.le_of_ble_eq_true rfl⟩ rfl ?_
  refine V_ishr dJ0_length_8abf5_9 ?_
  refine V_top (y := nI (tx t).length) (shr_0 (by omega)) ?_
  refine V_iret dJ0_length_8abf5_10 rfl rfl ?_
  exact ⟨rfl, rfl⟩
set_option maxRecDepth 100000 in
set_option maxHeartbeats 1000000 in
theorem c_chkN {i n : Nat} {w : Wd} (hi : i < n) (hn : n < 2 ^ 31) : Ct 1 MJ3_checkIndex_8e157 1 0 0 [.int (nI i), .int (nI n), .null] w (Rt (some (.int (nI i))) w) := by
  refine Ct_of (by decide +kernel) rfl (Nat.le_of_ble_eq_true rfl) rfl ?_
  refine V_iload_n (i := 0) dJ3_checkIndex_8e157_0 rfl rfl ?_
  refine V_if_lt_n (tgt := 9) dJ3_checkIndex_8e157_1 (by decide) (by omega) ?_
  refine V_iload_n (i := 0) dJ3_checkIndex_8e157_4 rfl rfl ?_
  refine V_iload_n (i := 1) dJ3_checkIndex_8e157_5 rfl rfl ?_
  refine V_icmp_lt_n (tgt := 16) dJ3_checkIndex_8e157_6 (by decide) (by omega) (by omega) (fun h6 => ?_) (fun h6 => by exfalso; omega)
  refine V_iload_n (i := 0) dJ3_checkIndex_8e157_16 rfl rfl ?_
  refine V_iret dJ3_checkIndex_8e157_17 rfl rfl ?_
  exact ⟨rfl, rfl⟩
set_option maxRecDepth 100000 in
set_option maxHeartbeats 1000000 in
theorem c_chkR {i n : Nat} {w : Wd} (hi : i < n) (hn : n < 2 ^ 31) : Ct 1 MJ3_checkIndex_8e157 1 0 0 [.int (nI i), .int (nI n), .ref 1900] w (Rt (some (.int (nI i))) w) := by
  refine Ct_of (by decide +kernel) rfl (Nat.le_of_ble_eq_true rfl) rfl ?_
  refine V_iload_n (i := 0) dJ3_checkIndex_8e157_0 rfl rfl ?_
  refine V_if_lt_n (tgt := 9) dJ3_checkIndex_8e157_1 (by decide) (by omega) ?_
  refine V_iload_n (i := 0) dJ3_checkIndex_8e157_4 rfl rfl ?_
  refine V_iload_n (i := 1) dJ3_checkIndex_8e157_5 rfl rfl ?_
  refine V_icmp_lt_n (tgt := 16) dJ3_checkIndex_8e157_6 (by decide) (by omega) (by omega) (fun h6 => ?_) (fun h6 => by exfalso; omega)
  refine V_iload_n (i := 0) dJ3_checkIndex_8e157_16 rfl rfl ?_
  refine V_iret dJ3_checkIndex_8e157_17 rfl rfl ?_
  exact ⟨rfl, rfl⟩
set_option maxRecDepth 100000 in
set_option maxHeartbeats 1000000 in
theorem c_checkIndex {i n : Nat} {w : Wd} (hi : i < n) (hn : n < 2 ^ 31) : Ct 1 MJ0_checkIndex_df160 2 0 0 [.int (nI i), .int (nI n)] w (Rt none w) := by
  refine Ct_of (by decide +kernel) rfl (Nat.le_of_ble_eq_true rfl) rfl ?_
  refine V_iload_n (i := 0) dJ0_checkIndex_df160_0 rfl rfl ?_
  refine V_iload_n (i := 1) dJ0_checkIndex_df160_1 rfl rfl ?_
  refine V_getsQ dJ0_checkIndex_df160_2 flRJ0_1053 ?_ ?_
  · refine V_callSF dJ0_checkIndex_df160_5 (c_chkN (i := i) (n := n) (by omega) (by omega)) okJ3_checkIndex_8e157 lkRJ0_1059 rfl rfl (Nat.le_of_ble_eq_true rfl) ⟨Nat.le_of_ble_eq_true rfl, Nat.le_of_ble_eq_true rfl⟩ rfl ?_
    refine V_pop dJ0_checkIndex_df160_8 rfl ?_
    refine V_vret dJ0_checkIndex_df160_9 rfl ?_
    exact ⟨rfl, rfl⟩
  · refine V_callSF dJ0_checkIndex_df160_5 (c_chkR (i := i) (n := n) (by omega) (by omega)) okJ3_checkIndex_8e157 lkRJ0_1059 rfl rfl (Nat.le_of_ble_eq_true rfl) ⟨Nat.le_of_ble_eq_true rfl, Nat.le_of_ble_eq_true rfl⟩ rfl ?_
    refine V_pop dJ0_checkIndex_df160_8 rfl ?_
    refine V_vret dJ0_checkIndex_df160_9 rfl ?_
    exact ⟨rfl, rfl⟩
set_option maxRecDepth 100000 in
set_option maxHeartbeats 1000000 in
theorem c_charAt1 {t i : Nat} {w : Wd} (ht : IsT t) (hi : i < (tx t).length) : Ct 1 MJ1_charAt_3b067 3 0 0 [.ref (t + 100), .int (nI i)] w (Rt (some (.int (nI ((tx t).getD i 0)))) w) := by
  refine Ct_of (by decide +kernel) rfl (Nat.le_of_ble_eq_true rfl) rfl ?_
  have hl9 := tx_len ht
  have ha9 := tx_asc ht i hi
  refine V_iload_n (i := 1) dJ1_charAt_3b067_0 rfl rfl ?_
  refine V_aload_n (i := 0) dJ1_charAt_3b067_1 rfl rfl ?_
  refine V_tlen (v := nI (tx t).length) dJ1_charAt_3b067_2 (tx_T ht) rfl ?_
  refine V_callSF dJ1_charAt_3b067_3 (c_checkIndex (i := i) (n := (tx t).length) (by omega) (by omega)) okJ0_checkIndex_df160 lkRJ1_9 rfl rfl (Nat.le_of_ble_eq_true rfl) ⟨Nat.le_of_ble_eq_true rfl, Nat.le_of_ble_eq_true rfl⟩ rfl ?_
  refine V_aload_n (i := 0) dJ1_charAt_3b067_6 rfl rfl ?_
  refine V_iload_n (i := 1) dJ1_charAt_3b067_7 rfl rfl ?_
  refine V_tbald dJ1_charAt_3b067_8 (tx_T ht) (in_n hi (by omega)) (tx_get (by omega)) ?_
  refine V_sipush_n (v := 255) dJ1_charAt_3b067_9 (by decide) ?_
  refine V_iand dJ1_charAt_3b067_12 ?_
  refine V_top (y := nI ((tx t).getD i 0)) (and_255 ha9) ?_
  refine V_i2c_n dJ1_charAt_3b067_13 (by omega) ?_
  refine V_iret dJ1_charAt_3b067_14 rfl (nar_char (by omega)) ?_
  exact ⟨rfl, rfl⟩
set_option maxRecDepth 100000 in
set_option maxHeartbeats 1000000 in
theorem c_charAt {t i : Nat} {w : Wd} (ht : IsT t) (hi : i < (tx t).length) : Ct 1 MJ0_charAt_5068e 4 0 0 [.ref t, .int (nI i)] w (Rt (some (.int (nI ((tx t).getD i 0)))) w) := by
  refine Ct_of (by decide +kernel) rfl (Nat.le_of_ble_eq_true rfl) rfl ?_
  have hl9 := tx_len ht
  have ha9 := tx_asc ht i hi
  refine V_aload_n (i := 0) dJ0_charAt_5068e_0 rfl rfl ?_
  refine V_callVOF dJ0_charAt_5068e_1 (c_isLatin1 ht) okJ0_isLatin1_aae02 lkRJ0_492 (tx_O ht) rfl rfl (Nat.le_of_ble_eq_true rfl) ⟨Nat.le_of_ble_eq_true rfl, Nat.le_of_ble_eq_true rfl⟩ rfl ?_
  refine V_if_eq_n (tgt := 16) dJ0_charAt_5068e_4 (by decide) (by omega) (fun h4 => by exfalso; omega) (fun h4 => ?_)
  refine V_aload_n (i := 0) dJ0_charAt_5068e_7 rfl rfl ?_
  refine V_getK dJ0_charAt_5068e_8 (tx_value ht) flRJ0_9 ?_
  refine V_iload_n (i := 1) dJ0_charAt_5068e_11 rfl rfl ?_
  refine V_callSF dJ0_charAt_5068e_12 (c_charAt1 ht (i := i) (by omega)) okJ1_charAt_3b067 lkRJ0_495 rfl rfl (Nat.le_of_ble_eq_true rfl) ⟨Nat.le_of_ble_eq_true rfl, Nat.le_of_ble_eq_true rfl⟩ rfl ?_
  refine V_iret dJ0_charAt_5068e_15 rfl (nar_char (by omega)) ?_
  exact ⟨rfl, rfl⟩
def ptL (p : Nat) : Nat := if p = 0 then 113 else if p = 1 then 108 else if p = 2 then 120 else 103
theorem pt_cases {P : Nat → Prop} (h0 : P 0) (h1 : P 1) (h2 : P 2) (h3 : P 3) {p : Nat} (hp : p < 4) : P p := by
  match p, hp with
  | 0, _ => exact h0
  | 1, _ => exact h1
  | 2, _ => exact h2
  | 3, _ => exact h3
theorem pt_T {p : Nat} (hp : p < 4) : IsT (1110 + p) := pt_cases (P := fun p => IsT (1110 + p)) (by unfold IsT; decide) (by unfold IsT; decide) (by unfold IsT; decide) (by unfold IsT; decide) hp
theorem pt_O {p : Nat} (hp : p < 4) : (RX5, 1010 + p) ∈ cO := pt_cases (P := fun p => (RX5, 1010 + p) ∈ cO) (List.mem_of_getElem? (i := 3) rfl) (List.mem_of_getElem? (i := 4) rfl) (List.mem_of_getElem? (i := 5) rfl) (List.mem_of_getElem? (i := 6) rfl) hp
theorem pt_letter {p : Nat} (hp : p < 4) : (RX5, "letter", "I", .int (nI (ptL p)), 1010 + p) ∈ cF := pt_cases (P := fun p => (RX5, "letter", "I", .int (nI (ptL p)), 1010 + p) ∈ cF) (List.mem_of_getElem? (i := 16) rfl) (List.mem_of_getElem? (i := 19) rfl) (List.mem_of_getElem? (i := 22) rfl) (List.mem_of_getElem? (i := 25) rfl) hp
theorem pt_dist {p : Nat} (hp : p < 4) : (RX5, "distances", "Ljava/lang/String;", .ref (1110 + p), 1010 + p) ∈ cF := pt_cases (P := fun p => (RX5, "distances", "Ljava/lang/String;", .ref (1110 + p), 1010 + p) ∈ cF) (List.mem_of_getElem? (i := 17) rfl) (List.mem_of_getElem? (i := 20) rfl) (List.mem_of_getElem? (i := 23) rfl) (List.mem_of_getElem? (i := 26) rfl) hp
/-- how many cells a pattern has; the distances of the k-th -/
def psz (p : Nat) : Nat := (tx (1110 + p)).length / 2
def pdg (p i : Nat) : Nat := (tx (1110 + p)).getD i 0 - 48
theorem pt_len {p : Nat} (hp : p < 4) : (tx (1110 + p)).length = 2 * psz p ∧ psz p ≤ 5 ∧ 3 ≤ psz p := pt_cases (P := fun p => (tx (1110 + p)).length = 2 * psz p ∧ psz p ≤ 5 ∧ 3 ≤ psz p) (by decide +kernel) (by decide +kernel) (by decide +kernel) (by decide +kernel) hp
theorem pt_dig {p : Nat} (hp : p < 4) : ∀ i, i < 2 * psz p → 48 ≤ (tx (1110 + p)).getD i 0 ∧ (tx (1110 + p)).getD i 0 ≤ 50 := pt_cases (P := fun p => ∀ i, i < 2 * psz p → 48 ≤ (tx (1110 + p)).getD i 0 ∧ (tx (1110 + p)).getD i 0 ≤ 50) (by decide +kernel) (by decide +kernel) (by decide +kernel) (by decide +kernel) hp
/-- the cell of a pattern's k-th button at (r, c); whether it lies inside -/
def pin (p r c k : Nat) : Bool := decide (r + pdg p (2 * k) < 8 ∧ c + pdg p (2 * k + 1) < 8)
def pcl (p r c k : Nat) : Nat := 8 * (r + pdg p (2 * k)) + (c + pdg p (2 * k + 1))
/-- as an int: -1 outside -/
def pci (p r c k : Nat) : Int := if pin p r c k = true then (pcl p r c k : Int) else -1
set_option maxRecDepth 100000 in
set_option maxHeartbeats 1000000 in
theorem c_psize {p : Nat} {w : Wd} (hp : p < 4) : Ct 1 MX5_size 3 0 0 [.ref (1010 + p)] w (Rt (some (.int (nI (psz p)))) w) := by
  refine Ct_of (by decide +kernel) rfl (Nat.le_of_ble_eq_true rfl) rfl ?_
  have hz := pt_len hp
  refine V_aload_n (i := 0) dX5_size_0 rfl rfl ?_
  refine V_getK dX5_size_1 (pt_dist hp) flRX5_39 ?_
  refine V_callVOF dX5_size_4 (c_length (pt_T hp)) okJ0_length_8abf5 lkRX5_43 (tx_O (pt_T hp)) rfl rfl (Nat.le_of_ble_eq_true rfl) ⟨Nat.le_of_ble_eq_true rfl, Nat.le_of_ble_eq_true rfl⟩ rfl ?_
  refine V_iconst_n (v := 2) dX5_size_7 (by decide) ?_
  refine V_idiv_n dX5_size_8 (by omega) (by omega) (by omega) ?_
  refine V_iret dX5_size_9 rfl rfl ?_
  exact ⟨rfl, rfl⟩
set_option maxRecDepth 100000 in
set_option maxHeartbeats 1000000 in
theorem c_pdigit {p i : Nat} {w : Wd} (hp : p < 4) (hi : i < 2 * psz p) : Ct 1 MX5_digit 5 0 0 [.ref (1010 + p), .int (nI i)] w (Rt (some (.int (nI (pdg p i)))) w) := by
  refine Ct_of (by decide +kernel) rfl (Nat.le_of_ble_eq_true rfl) rfl ?_
  have hz := pt_len hp
  have hd := pt_dig hp i hi
  refine V_iload_n (i := 1) dX5_digit_0 rfl rfl ?_
  refine V_if_lt_n (tgt := 29) dX5_digit_1 (by decide) (by omega) ?_
  refine V_iload_n (i := 1) dX5_digit_4 rfl rfl ?_
  refine V_aload_n (i := 0) dX5_digit_5 rfl rfl ?_
  refine V_getK dX5_digit_6 (pt_dist hp) flRX5_39 ?_
  refine V_callVOF dX5_digit_9 (c_length (pt_T hp)) okJ0_length_8abf5 lkRX5_43 (tx_O (pt_T hp)) rfl rfl (Nat.le_of_ble_eq_true rfl) ⟨Nat.le_of_ble_eq_true rfl, Nat.le_of_ble_eq_true rfl⟩ rfl ?_
  refine V_icmp_ge_n (tgt := 29) dX5_digit_12 (by decide) (by omega) (by omega) (fun h12 => by exfalso; omega) (fun h12 => ?_)
  refine V_aload_n (i := 0) dX5_digit_15 rfl rfl ?_
  refine V_getK dX5_digit_16 (pt_dist hp) flRX5_39 ?_
  refine V_iload_n (i := 1) dX5_digit_19 rfl rfl ?_
  refine V_callVOF dX5_digit_20 (c_charAt (pt_T hp) (i := i) (by omega)) okJ0_charAt_5068e lkRX5_63 (tx_O (pt_T hp)) rfl rfl (Nat.le_of_ble_eq_true rfl) ⟨Nat.le_of_ble_eq_true rfl, Nat.le_of_ble_eq_true rfl⟩ rfl ?_
  refine V_bipush_n (v := 48) dX5_digit_23 (by decide) ?_
  refine V_isub_n dX5_digit_25 (by omega) ?_
  refine V_goto (tgt := 30) dX5_digit_26 (by decide) ?_
  refine V_iret dX5_digit_30 rfl rfl ?_
  exact ⟨rfl, rfl⟩
set_option maxRecDepth 100000 in
set_option maxHeartbeats 1000000 in
theorem c_cellFrom {p r c k : Nat} {w : Wd} (hp : p < 4) (hk : k < psz p) (hr : r < 8) (hc : c < 8) : Ct 1 MX5_cellFrom 6 0 0 [.ref (1010 + p), .int (nI r), .int (nI c), .int (nI k)] w (Rt (some (.int (zI (pci p r c k)))) w) := by
  refine Ct_of (by decide +kernel) rfl (Nat.le_of_ble_eq_true rfl) rfl ?_
  have hz := pt_len hp
  have hd1 := pt_dig hp (2 * k) (by omega)
  have hd2 := pt_dig hp (2 * k + 1) (by omega)
  have hg1 : pdg p (2 * k) ≤ 2 := by unfold pdg; omega
  have hg2 : pdg p (2 * k + 1) ≤ 2 := by unfold pdg; omega
  refine V_iload_n (i := 1) dX5_cellFrom_0 rfl rfl ?_
  refine V_aload_n (i := 0) dX5_cellFrom_1 rfl rfl ?_
  refine V_iconst_n (v := 2) dX5_cellFrom_2 (by decide) ?_
  refine V_iload_n (i := 3) dX5_cellFrom_3 rfl rfl ?_
  refine V_imul_n dX5_cellFrom_4 ?_
  refine V_callVOF dX5_cellFrom_5 (c_pdigit (p := p) hp (i := (2 * k)) (by omega)) okX5_digit lkRX5_49 (pt_O hp) rfl rfl (Nat.le_of_ble_eq_true rfl) ⟨Nat.le_of_ble_eq_true rfl, Nat.le_of_ble_eq_true rfl⟩ rfl ?_
  refine V_iadd_n dX5_cellFrom_8 ?_
  refine V_istore dX5_cellFrom_9 (Nat.le_of_ble_eq_true rfl) rfl rfl ?_
  refine V_iload_n (i := 2) dX5_cellFrom_11 rfl rfl ?_
  refine V_aload_n (i := 0) dX5_cellFrom_12 rfl rfl ?_
  refine V_iconst_n (v := 2) dX5_cellFrom_13 (by decide) ?_
  refine V_iload_n (i := 3) dX5_cellFrom_14 rfl rfl ?_
  refine V_imul_n dX5_cellFrom_15 ?_
  refine V_iconst_n (v := 1) dX5_cellFrom_16 (by decide) ?_
  refine V_iadd_n dX5_cellFrom_17 ?_
  refine V_callVOF dX5_cellFrom_18 (c_pdigit (p := p) hp (i := ((2 * k) + 1)) (by omega)) okX5_digit lkRX5_49 (pt_O hp) rfl rfl (Nat.le_of_ble_eq_true rfl) ⟨Nat.le_of_ble_eq_true rfl, Nat.le_of_ble_eq_true rfl⟩ rfl ?_
  refine V_iadd_n dX5_cellFrom_21 ?_
  refine V_istore dX5_cellFrom_22 (Nat.le_of_ble_eq_true rfl) rfl rfl ?_
  refine V_iload dX5_cellFrom_24 rfl ?_
  refine V_iload dX5_cellFrom_26 rfl ?_
  refine V_callSNF (host := "ButtonReef") dX5_cellFrom_28 (c_isInside (r := (((r + (pdg p (2 * k))) : Nat) : Int)) (c := (((c + (pdg p ((2 * k) + 1))) : Nat) : Int)) (zI_n _) (zI_n _) (by omega) (by omega) (by omega) (by omega)) okX10_isInside (by decide +kernel) rfl rfl (Nat.le_of_ble_eq_true rfl) ⟨Nat.le_of_ble_eq_true rfl, Nat.le_of_ble_eq_true rfl⟩ rfl ?_
  refine V_if_eq_n (tgt := 44) dX5_cellFrom_31 (by decide) (Nat.lt_of_lt_of_le ite_le (by decide)) (fun h31 => ?_) (fun h31 => ?_)
  · refine V_iconst_z (v := -1) dX5_cellFrom_44 (by decide) ?_
    refine V_iret dX5_cellFrom_45 rfl rfl ?_
    have hb : pin p r c k = false := by unfold pin; grind
    exact ⟨by unfold pci; rw [hb]; rfl, rfl⟩
  · refine V_iload dX5_cellFrom_34 rfl ?_
    refine V_iload dX5_cellFrom_36 rfl ?_
    refine V_callSNF (host := "ButtonReef") dX5_cellFrom_38 (c_cellNumber (r := (r + (pdg p (2 * k)))) (c := (c + (pdg p ((2 * k) + 1)))) (rfl) (rfl)) okX10_cellNumber (by decide +kernel) rfl rfl (Nat.le_of_ble_eq_true rfl) ⟨Nat.le_of_ble_eq_true rfl, Nat.le_of_ble_eq_true rfl⟩ rfl ?_
    refine V_goto (tgt := 45) dX5_cellFrom_41 (by decide) ?_
    refine V_iret dX5_cellFrom_45 rfl rfl ?_
    have hb : pin p r c k = true := by unfold pin; grind
    exact ⟨by unfold pci; rw [if_pos hb]; exact congrArg (fun z => (Sum.inl (some (Value.int z)) : Out)) (zI_n _), rfl⟩
end MTEXT
