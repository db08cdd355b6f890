/-! THE PLAIN FORM: longs, in(). Printed by wip/whole/gen/mk31.py. -/
section MLONG
variable {M : kM} {d mc ms : Nat} {Po : Out → Wd → Prop} {X : kG → State → Prop} {kc ks pc : Nat} {L : List (Option Value)} {st : List Value} {w : Wd}
def zL (z : Int) : Int64 := Int64.ofInt z
theorem zL_toInt {z : Int} (h1 : -2147483648 ≤ z) (h2 : z < 2147483648) : (zL z).toInt = z := by
  unfold zL
  rw [Int64.toInt_ofInt]
  unfold Int.bmod
  simp only [Int64.size]
  omega
theorem zL_lt {a b : Int} (a1 : -2147483648 ≤ a) (a2 : a < 2147483648) (b1 : -2147483648 ≤ b) (b2 : b < 2147483648) : zL a < zL b ↔ a < b := by rw [Int64.lt_iff_toInt_lt, zL_toInt a1 a2, zL_toInt b1 b2]
theorem nI_zL {n : Nat} (h : n < 2147483648) : (nI n).toInt64 = zL (n : Int) := Int64.toInt_inj.mp (by rw [Int32.toInt_toInt64, nI_toInt (by omega), zL_toInt (by omega) (by omega)])
theorem zI_zL {z : Int} (h1 : -2147483648 ≤ z) (h2 : z < 2147483648) : (zI z).toInt64 = zL z := Int64.toInt_inj.mp (by rw [Int32.toInt_toInt64, zI_toInt h1 h2, zL_toInt h1 h2])
theorem V_topL {x y : Int64} (h : x = y) (k : V 1 M d mc ms Po X kc ks pc L (.long y :: st) w) : V 1 M d mc ms Po X kc ks pc L (.long x :: st) w := by rw [h]; exact k
theorem Ct_ofL {av : List Value} {L0' : List (Option Value)} (hp : plainName (mY M).cls = true) (hh : mH M = []) (hn : ∀ G, (lg_sl (av.map (rv G))).length ≤ mN M) (hL : ∀ G, ∀ q ∈ lvl G L0', q ∈ lv_args 0 (av.map (rv G)))
    (k : V 1 M d mc ms Po (fun _ _ => True) mc ms 0 L0' [] w) : Ct 1 M d mc ms av w Po := by
  intro l G hls
  have hws : wsM M = Cond.code (mY M) (mC M) (mN M) (mR M) :: TG := by unfold wsM wM; rw [hh]
  refine vx_ofW (cc := mC M) (maxL := mN M) (ret := mR M) (ws' := TG) hp hws ?_
  intro p e s m args below meth c s₁ B hml ht hv
  obtain ⟨rfl, hR, hE⟩ := hv
  have hts := atoms_spec (ws := wsM M) B.pre
  have htab : c.exceptionTable.toList = tableOf (mH M) := by
    rw [hh]
    cases h9 : c.exceptionTable.toList with
    | nil => rfl
    | cons x xs => rw [h9] at ht; exact absurd (ht x List.mem_cons_self) id
  have hl := lv_entry (av.map (rv G)) (n := mN M) (hn G)
  rw [lg_entry_eq]
  exact k p l e _ s m _ below meth c G ⟨B.exec, B.bytes, hml, findClass_of_methodNamed B.named, fun w hw => hts w (List.mem_cons_of_mem _ hw), B.notSynchronized, B.returns, (name_of_methodNamed B.named B.method).1, htab, hls, ⟨Nat.le_refl _, Nat.le_refl _, Nat.le_refl _, Nat.le_refl _⟩, hE, trivial⟩ s.heap [] _ 0 0 hR va_S.rf (lv_mono hl (hL G)) (by omega) (by omega)
set_option maxRecDepth 100000 in
set_option maxHeartbeats 1000000 in
theorem c_in {a b c : Int} {w : Wd} (a1 : -2147483648 ≤ a) (a2 : a < 2147483648) (b1 : -2147483648 ≤ b) (b2 : b < 2147483648) (c1 : -2147483648 ≤ c) (c2 : c < 2147483648) : Ct 1 MX11_in 1 0 0 [.long (zL a), .long (zL b), .long (zL c)] w (Rt (some (.int (nI (if b ≤ a ∧ a ≤ c then 1 else 0)))) w) := by
  refine Ct_ofL (L0' := [some (.long (zL a)), none, some (.long (zL b)), none, some (.long (zL c)), none]) (by decide +kernel) rfl (fun G => Nat.le_of_ble_eq_true rfl) (fun G q hq => ?_) ?_
  · have h : lvl G [some (.long (zL a)), none, some (.long (zL b)), none, some (.long (zL c)), none] = [(0, .long (zL a)), (2, .long (zL b)), (4, .long (zL c))] := rfl
    rw [h] at hq
    exact hq
  refine V_lload_n (i := 0) dX11_in_0 rfl rfl ?_
  refine V_lload_n (i := 2) dX11_in_1 rfl rfl ?_
  refine V_lcmp dX11_in_2 ?_
  refine V_if_lt (tgt := 17) dX11_in_3 (by decide) (fun h3 => ?_) (fun h3 => ?_)
  · have q1 := (zL_lt a1 a2 b1 b2).mp ((lg_cmp_lt _ _).mp h3)
    refine V_iconst_n (v := 0) dX11_in_17 (by decide) ?_
    refine V_iret dX11_in_18 rfl (nar_bool (by omega)) ?_
    exact ⟨by grind, rfl⟩
  · have q1 : ¬ a < b := fun q => h3 ((lg_cmp_lt _ _).mpr ((zL_lt a1 a2 b1 b2).mpr q))
    refine V_lload_n (i := 0) dX11_in_6 rfl rfl ?_
    refine V_lload dX11_in_7 rfl ?_
    refine V_lcmp dX11_in_9 ?_
    refine V_if_gt (tgt := 17) dX11_in_10 (by decide) (fun h10 => ?_) (fun h10 => ?_)
    · have q2 := (zL_lt c1 c2 a1 a2).mp ((lg_cmp_gt _ _).mp h10)
      refine V_iconst_n (v := 0) dX11_in_17 (by decide) ?_
      refine V_iret dX11_in_18 rfl (nar_bool (by omega)) ?_
      exact ⟨by grind, rfl⟩
    · have q2 : ¬ c < a := fun q => h10 ((lg_cmp_gt _ _).mpr ((zL_lt c1 c2 a1 a2).mpr q))
      refine V_iconst_n (v := 1) dX11_in_13 (by decide) ?_
      refine V_goto (tgt := 18) dX11_in_14 (by decide) ?_
      refine V_iret dX11_in_18 rfl (nar_bool (by omega)) ?_
      exact ⟨by grind, rfl⟩
end MLONG
