/-! NEW CELLS: rows of phase 0. -/
section NEWROWS
def mkC (a : Nat) (w : Wd) : Wd := (a + 1, (fun b j => if b = a then 0 else w.2.1 b j), (fun b j => if b = a then none else w.2.2.1 b j), (fun b j => if b = a then 0 else w.2.2.2.1 b j), fun b j => if b = a then 0 else w.2.2.2.2 b j)
theorem gI_mk {a j : Nat} {w : Wd} : gI (mkC a w) a j = 0 := if_pos rfl
theorem gR_mk {a j : Nat} {w : Wd} : gR (mkC a w) a j = none := if_pos rfl
theorem gL_mk {a j : Nat} {w : Wd} : gL (mkC a w) a j = 0 := if_pos rfl
theorem gF_mk {a j : Nat} {w : Wd} : gF (mkC a w) a j = 0 := if_pos rfl
theorem cell_mkC_ne {G : kG} {w : Wd} {a b : Nat} {s : Shp} (h : b ≠ a) : cellOf G (mkC a w) b s = cellOf G w b s := by
  have e1 : gI (mkC a w) b = gI w b := by funext j; exact if_neg h
  have e2 : gR (mkC a w) b = gR w b := by funext j; exact if_neg h
  have e3 : gL (mkC a w) b = gL w b := by funext j; exact if_neg h
  have e4 : gF (mkC a w) b = gF w b := by funext j; exact if_neg h
  unfold cellOf
  split <;> first | rfl | (simp only [slotV, e1, e2, e3, e4]; try rfl) | skip
theorem Rl.more {G : kG} {H H1 : Heap} {a : Nat} {w : Wd} (hR : Rl G 0 w H) (hG : Gok G) (hn : wn w = a) (ha : a < 67) (hat : va_at (gD G) kCl (gA G a, cellOf G (mkC a w) a (shp 0 a)) H1) (z : H1.size = H.size + 1) (oq : ∀ q, q < H.size → H1[q]? = H[q]?) : Rl G 0 (mkC a w) H1 := by
  subst hn
  have e : wl G (shp 0) (mkC (wn w) w) = wl G (shp 0) w ++ [(gA G (wn w), cellOf G (mkC (wn w) w) (wn w) (shp 0 (wn w)))] := by
    unfold wl
    show (List.range (wn w + 1)).map _ = _
    rw [List.range_succ, List.map_append]
    congr 1
    exact List.map_congr_left fun b hb => by rw [cell_mkC_ne (Nat.ne_of_lt (List.mem_range.mp hb))]
  obtain ⟨h1, h2, h3, h4, h5⟩ := hR
  refine ⟨?_, ?_, ?_, fun _ => ?_, fun h => by cases h⟩
  · rw [e]
    refine (h1.kept (fun k x hx => oq x.1 ((h1 k x hx).lt))).app (fun k x hx => ?_)
    have hz : k < 1 := (List.getElem?_eq_some_iff.mp hx).1
    rw [show k = 0 by omega] at hx
    cases hx
    exact hat
  · show wn w + 1 ≤ 67; omega
  · show gB G + (wn w + 1) ≤ H1.size; rw [z]; omega
  · show H1.size = gB G + (wn w + 1); rw [z, h4 rfl]; omega
theorem sS_grow {A : Nat → Prop} {H0 H H1 : Heap} {locs : List Loc} (hS : va_S A H0 H locs) (z : H1.size = H.size + 1) (oq : ∀ q, q < H.size → H1[q]? = H[q]?) : va_S A H0 H1 locs := ⟨Nat.le_trans hS.1 (by omega), fun x h1 h2 => (oq x (Nat.lt_of_lt_of_le h1 hS.1)).trans (hS.2.1 x h1 h2), hS.2.2⟩
theorem objI_i : Cond.instanceMethod Lib.objectInit ∈ TG := tg_of 110 (by decide +kernel) (by decide +kernel)
theorem objI_c : Cond.code Lib.objectInit ⟨#[0xb1]⟩ 1 none ∈ TG := tg_of 111 (by decide +kernel) (by decide +kernel)
theorem nI_nn9 {n : Nat} (h : n ≤ 1000) : ¬ nI n < 0 := fun q => (in_n (a := n) (n := 1001) (by omega) (by decide)) (Or.inl q)
def dfl (x : Nat) : Value := match x with
  | 0 => .int 0
  | _ => .null
theorem slot_mk {G : kG} {a j x : Nat} {w : Wd} (hx : x ≤ 1) : slotV G (mkC a w) a j x = dfl x := by
  match x, hx with
  | 0, _ => show Value.int (gI (mkC a w) a j) = _; rw [gI_mk]; rfl
  | 1, _ => show va_rf ((gR (mkC a w) a j).map (gA G)) = _; rw [gR_mk]; rfl
section
variable {M : kM} {d mc ms : Nat} {Po : Out → Wd → Prop} {X : kG → State → Prop} {kc ks pc : Nat} {L : List (Option Value)} {st : List Value} {w : Wd}
theorem V_new {idx a ci N : Nat} {C : String} {T : u_T} {kl : List Nat} {ty : Nat → FieldType} (hd : decode (mC M) pc = .ok (.new idx, 3)) (hn : wn w = a) (ha : a < 67) (hs : shp 0 a = (0, ci, kl)) (hc : kCl[ci]? = some (C, T, N)) (hw : Cond.classLink (mY M).cls idx C ∈ TG) (hi : Cond.instantiable C N ∈ TG) (hini : Cond.initialized C ∈ TG)
    (hty : ∀ j, j < N → parseFieldDescriptor (T j).2.2.1 = some (ty j)) (hkl : kl.length = N) (hk1 : ∀ j, j < N → kl.getD j 0 ≤ 1) (hdf : ∀ j, j < N → defaultValue (ty j) = dfl (kl.getD j 0)) (hb : 1 ≤ kc ∧ N ≤ ks)
    (k : V 0 M d mc ms Po X (kc - 1) (ks - N) (pc + 3) L (.ref a :: st) (mkC a w)) : V 0 M d mc ms Po X kc ks pc L st w := by
  intro p l e R s m args below meth c G F H locs ls cells slots hR hS hl h1 h2
  obtain ⟨hx, hbb, -, hown, hts, -, -, -, -, -, ⟨-, -, hd3, hd4⟩, hE, -⟩ := id F
  have hG := hE.2.2.2.2
  obtain ⟨hin, -, -, -⟩ := kOk hc
  have hKn := hE.1.1 ci _ hc
  have hz : H.size = gA G a := by rw [hR.2.2.2.1 rfl, hn, hG a (by omega)]
  refine W.newcK hx hbb hown (hts _ hw) (hts _ hi) (hts _ hini) rfl hd (by omega) (by omega) hKn.2.1 hz fun H1 kC hkC e1 z1 o1 => ?_
  refine k p l e R s m args below meth c G F H1 locs ls (cells + 1) (slots + N) (hR.more hG hn ha ?_ (by rw [z1, hz]) (fun q hq => o1 q (by omega))) (sS_grow hS (by rw [z1, hz]) (fun q hq => o1 q (by omega))) hl (by omega) (by omega)
  rw [hs]
  refine ⟨_, hc, (u_born ty hts hin hKn hkC e1 hty).to fun j hj => ?_⟩
  rw [hdf j hj, ← slot_mk (G := G) (a := a) (j := j) (w := w) (hk1 j hj)]
  show _ = vp_V ((List.range kl.length).map fun j => slotV G (mkC a w) a j (kl.getD j 0)) j
  simp [vp_V, hkl, hj]
theorem V_newI {a n : Nat} {kl : List Nat} (hd : decode (mC M) pc = .ok (.newarray .int, 2)) (hn : wn w = a) (ha : a < 67) (hs : shp 0 a = (1, n, kl)) (hw : Cond.arrayClass .int ∈ TG) (hsz : n ≤ 1000) (hb : 1 ≤ kc ∧ n ≤ ks)
    (k : V 0 M d mc ms Po X (kc - 1) (ks - n) (pc + 2) L (.ref a :: st) (mkC a w)) : V 0 M d mc ms Po X kc ks pc L (.int (nI n) :: st) w := by
  intro p l e R s m args below meth c G F H locs ls cells slots hR hS hl h1 h2
  obtain ⟨hx, hbb, -, hown, hts, -, -, -, -, -, ⟨-, -, hd3, hd4⟩, hE, -⟩ := id F
  have hG := hE.2.2.2.2
  have hz : H.size = gA G a := by rw [hR.2.2.2.1 rfl, hn, hG a (by omega)]
  refine va_newaK (atype := .int) (n := nI n) (N := n) hx hbb (hts _ hw) rfl hd rfl (nI_nn9 (by omega)) (nI_clamp (by omega)) (by show n * 4 ≤ _; omega) (by omega) (by omega) hz fun H1 cA e1 z1 o1 hAr hNm => ?_
  have hcA : cA = gC G 0 := Option.some.inj (hNm.symm.trans (hE.1.2 0 _ rfl).2)
  subst hcA
  refine k p l e R s m args below meth c G F H1 locs ls (cells + 1) (slots + n) (hR.more hG hn ha ?_ (by rw [z1, hz]) (fun q hq => o1 q (by omega))) (sS_grow hS (by rw [z1, hz]) (fun q hq => o1 q (by omega))) hl (by omega) (by omega)
  rw [hs]
  show H1[gA G a]? = some (arrV (gC G 0) n (fun j => Value.int (gI (mkC a w) a j)))
  rw [show (fun j => Value.int (gI (mkC a w) a j)) = fun _ => defaultValue .int from funext fun j => by rw [gI_mk]; rfl]
  exact e1
theorem V_newCh {a n : Nat} {kl : List Nat} (hd : decode (mC M) pc = .ok (.newarray .char, 2)) (hn : wn w = a) (ha : a < 67) (hs : shp 0 a = (2, n, kl)) (hw : Cond.arrayClass .char ∈ TG) (hsz : n ≤ 1000) (hb : 1 ≤ kc ∧ n ≤ ks)
    (k : V 0 M d mc ms Po X (kc - 1) (ks - n) (pc + 2) L (.ref a :: st) (mkC a w)) : V 0 M d mc ms Po X kc ks pc L (.int (nI n) :: st) w := by
  intro p l e R s m args below meth c G F H locs ls cells slots hR hS hl h1 h2
  obtain ⟨hx, hbb, -, hown, hts, -, -, -, -, -, ⟨-, -, hd3, hd4⟩, hE, -⟩ := id F
  have hG := hE.2.2.2.2
  have hz : H.size = gA G a := by rw [hR.2.2.2.1 rfl, hn, hG a (by omega)]
  refine va_newaK (atype := .char) (n := nI n) (N := n) hx hbb (hts _ hw) rfl hd rfl (nI_nn9 (by omega)) (nI_clamp (by omega)) (by show n * 2 ≤ _; omega) (by omega) (by omega) hz fun H1 cA e1 z1 o1 hAr hNm => ?_
  have hcA : cA = gC G 1 := Option.some.inj (hNm.symm.trans (hE.1.2 1 _ rfl).2)
  subst hcA
  refine k p l e R s m args below meth c G F H1 locs ls (cells + 1) (slots + n) (hR.more hG hn ha ?_ (by rw [z1, hz]) (fun q hq => o1 q (by omega))) (sS_grow hS (by rw [z1, hz]) (fun q hq => o1 q (by omega))) hl (by omega) (by omega)
  rw [hs]
  show H1[gA G a]? = some (arrV (gC G 1) n (fun j => Value.int (gI (mkC a w) a j)))
  rw [show (fun j => Value.int (gI (mkC a w) a j)) = fun _ => defaultValue .char from funext fun j => by rw [gI_mk]; rfl]
  exact e1
theorem V_newL {a n : Nat} {kl : List Nat} (hd : decode (mC M) pc = .ok (.newarray .long, 2)) (hn : wn w = a) (ha : a < 67) (hs : shp 0 a = (3, n, kl)) (hw : Cond.arrayClass .long ∈ TG) (hsz : n ≤ 1000) (hb : 1 ≤ kc ∧ n ≤ ks)
    (k : V 0 M d mc ms Po X (kc - 1) (ks - n) (pc + 2) L (.ref a :: st) (mkC a w)) : V 0 M d mc ms Po X kc ks pc L (.int (nI n) :: st) w := by
  intro p l e R s m args below meth c G F H locs ls cells slots hR hS hl h1 h2
  obtain ⟨hx, hbb, -, hown, hts, -, -, -, -, -, ⟨-, -, hd3, hd4⟩, hE, -⟩ := id F
  have hG := hE.2.2.2.2
  have hz : H.size = gA G a := by rw [hR.2.2.2.1 rfl, hn, hG a (by omega)]
  refine va_newaK (atype := .long) (n := nI n) (N := n) hx hbb (hts _ hw) rfl hd rfl (nI_nn9 (by omega)) (nI_clamp (by omega)) (by show n * 8 ≤ _; omega) (by omega) (by omega) hz fun H1 cA e1 z1 o1 hAr hNm => ?_
  have hcA : cA = gC G 2 := Option.some.inj (hNm.symm.trans (hE.1.2 2 _ rfl).2)
  subst hcA
  refine k p l e R s m args below meth c G F H1 locs ls (cells + 1) (slots + n) (hR.more hG hn ha ?_ (by rw [z1, hz]) (fun q hq => o1 q (by omega))) (sS_grow hS (by rw [z1, hz]) (fun q hq => o1 q (by omega))) hl (by omega) (by omega)
  rw [hs]
  show H1[gA G a]? = some (arrV (gC G 2) n (fun j => Value.long (gL (mkC a w) a j)))
  rw [show (fun j => Value.long (gL (mkC a w) a j)) = fun _ => defaultValue .long from funext fun j => by rw [gL_mk]; rfl]
  exact e1
theorem V_newD {a n : Nat} {kl : List Nat} (hd : decode (mC M) pc = .ok (.newarray .double, 2)) (hn : wn w = a) (ha : a < 67) (hs : shp 0 a = (4, n, kl)) (hw : Cond.arrayClass .double ∈ TG) (hsz : n ≤ 1000) (hb : 1 ≤ kc ∧ n ≤ ks)
    (k : V 0 M d mc ms Po X (kc - 1) (ks - n) (pc + 2) L (.ref a :: st) (mkC a w)) : V 0 M d mc ms Po X kc ks pc L (.int (nI n) :: st) w := by
  intro p l e R s m args below meth c G F H locs ls cells slots hR hS hl h1 h2
  obtain ⟨hx, hbb, -, hown, hts, -, -, -, -, -, ⟨-, -, hd3, hd4⟩, hE, -⟩ := id F
  have hG := hE.2.2.2.2
  have hz : H.size = gA G a := by rw [hR.2.2.2.1 rfl, hn, hG a (by omega)]
  refine va_newaK (atype := .double) (n := nI n) (N := n) hx hbb (hts _ hw) rfl hd rfl (nI_nn9 (by omega)) (nI_clamp (by omega)) (by show n * 8 ≤ _; omega) (by omega) (by omega) hz fun H1 cA e1 z1 o1 hAr hNm => ?_
  have hcA : cA = gC G 3 := Option.some.inj (hNm.symm.trans (hE.1.2 3 _ rfl).2)
  subst hcA
  refine k p l e R s m args below meth c G F H1 locs ls (cells + 1) (slots + n) (hR.more hG hn ha ?_ (by rw [z1, hz]) (fun q hq => o1 q (by omega))) (sS_grow hS (by rw [z1, hz]) (fun q hq => o1 q (by omega))) hl (by omega) (by omega)
  rw [hs]
  show H1[gA G a]? = some (arrV (gC G 3) n (fun j => Value.double (gF (mkC a w) a j)))
  rw [show (fun j => Value.double (gF (mkC a w) a j)) = fun _ => defaultValue .double from funext fun j => by rw [gF_mk]; rfl]
  exact e1
theorem V_newQ {idx a n : Nat} {kl : List Nat} (hd : decode (mC M) pc = .ok (.anewarray idx, 3)) (hn : wn w = a) (ha : a < 67) (hs : shp 0 a = (5, n, kl)) (hw : Cond.classLink (mY M).cls idx "ButtonReef$State" ∈ TG) (hX : ∀ G s, X G s → va_AO "ButtonReef$State" s) (hsz : n ≤ 1000) (hb : 1 ≤ kc ∧ n ≤ ks)
    (k : V 0 M d mc ms Po X (kc - 1) (ks - n) (pc + 3) L (.ref a :: st) (mkC a w)) : V 0 M d mc ms Po X kc ks pc L (.int (nI n) :: st) w := by
  intro p l e R s m args below meth c G F H locs ls cells slots hR hS hl h1 h2
  obtain ⟨hx, hbb, -, hown, hts, -, -, -, -, -, ⟨-, -, hd3, hd4⟩, hE, hXX⟩ := id F
  have hG := hE.2.2.2.2
  have hz : H.size = gA G a := by rw [hR.2.2.2.1 rfl, hn, hG a (by omega)]
  have hcl : (nI n).toNatClampNeg = n := nI_clamp (by omega)
  refine W.anew (n := nI n) hx hbb hown (hts _ hw) (va_AO.use (hX G s hXX)) rfl hd rfl (nI_nn9 (by omega)) (by rw [hcl]; omega) (by omega) (by rw [hcl]; omega) fun cA kA comp f1 f2 f3 f4 => ?_
  obtain ⟨kA2, comp2, g2, g3, g4, g1⟩ := (hE.1.2 4 _ rfl).2
  have hcA : cA = gC G 4 := Option.some.inj (f1.symm.trans g1)
  subst hcA
  rw [hcl]
  generalize hH1 : H.push ({ cls := gC G 4, slots := Array.replicate n .null, vm := .none } : Cell) = H1
  have z1 : H1.size = H.size + 1 := by rw [← hH1, Array.size_push]
  have e1 : H1[H.size]? = some (arrV (gC G 4) n (fun _ => .null)) := by rw [← hH1, Array.getElem?_push_size, ← arrV_new]
  have o1 : ∀ q : Nat, q < H.size → H1[q]? = H[q]? := fun q hq => by rw [← hH1, Array.getElem?_push, if_neg (Nat.ne_of_lt hq)]
  rw [hz]
  rw [hz] at e1
  refine k p l e R s m args below meth c G F H1 locs ls (cells + 1) (slots + n) (hR.more hG hn ha ?_ z1 o1) (sS_grow hS z1 o1) hl (by omega) (by omega)
  rw [hs]
  show H1[gA G a]? = some (vp_cell _ _)
  rw [vp_cell_q, show (fun j => va_rf ((gR (mkC a w) a j).map (gA G))) = fun _ => Value.null from funext fun j => by rw [gR_mk]; rfl]
  exact e1
end
section
variable {ph : Nat} {M : kM} {d mc ms : Nat} {Po : Out → Wd → Prop} {X : kG → State → Prop} {kc ks pc : Nat} {L : List (Option Value)} {st : List Value} {w : Wd}
theorem V_qast {a b n ci N i : Nat} {T : u_T} {kl kl2 : List Nat} (hd : decode (mC M) pc = .ok (.aastore, 1)) (ha : Mk ph w a) (hb9 : Mk ph w b) (hs : shp ph a = (5, n, kl)) (hs2 : shp ph b = (0, ci, kl2)) (hc : kCl[ci]? = some ("ButtonReef$State", T, N)) (hi : i < n) (hn : n < 2 ^ 31)
    (kk : V ph M d mc ms Po X kc ks (pc + 1) L st (pR w a i (some b))) : V ph M d mc ms Po X kc ks pc L (.ref b :: .int (nI i) :: .ref a :: st) w := by
  intro p l e R s m args below meth c G F H locs ls cells slots hR hS hl h1 h2
  have hlt := ha.lt hR
  have he := wl_at (G := G) (sh := shp ph) hlt
  rw [hs] at he
  have hv := wl_at (G := G) (sh := shp ph) (hb9.lt hR)
  rw [hs2] at hv
  obtain ⟨hx, hb, -, -, -, -, -, -, -, -, -, hE, -⟩ := id F
  have hG := hE.2.2.2.2
  have hcl : (nI i).toNatClampNeg = i := nI_clamp (by omega)
  obtain ⟨r', hr', cellV, g1, g2, g3, -⟩ := hR.1 b _ hv
  have hcls := (hE.1.1 ci _ hc).2
  obtain ⟨kA, comp, k1, k2, k3, -⟩ := (hE.1.2 4 _ rfl).2
  have hcomp : comp = (gD G).1 ci := Option.some.inj (k3.symm.trans hcls.1)
  subst hcomp
  obtain ⟨kC, hkC, -⟩ := hcls.2
  refine W.aast hx hb (hR.1 a _ he) (fun q h => by cases h) (fun h => by cases h) k1 k2 rfl hkC ⟨fun q => (in_n hi hn) (Or.inl q), by show _ < (arrV _ _ _).slots.size; rw [arrV_size, hcl]; exact hi⟩ g1 (fun q h => by rw [g3] at h; cases h) (by rw [g2]; exact hkC) (by rw [g2]; exact va_assign hcls) rfl rfl hd fun H1 e1 e2 e3 => ?_
  refine kk p l e R s m args below meth c G F H1 _ ls cells slots (hR.put hG hlt rfl (fun b h => cell_pR_ne h) ?_ e2 e3) (hS.put e2 e3 (AG_at hG (by have := hR.2.1; omega))) hl h1 h2
  rw [hs]
  show H1[gA G a]? = some (vp_cell _ _)
  rw [e1, vp_cell_q, vp_cell_q, arrV_store, hcl]
  congr 2
  funext q
  show updV (fun j => va_rf ((gR w a j).map (gA G))) _ _ q = va_rf ((gR (pR w a i (some b)) a q).map (gA G))
  rw [gR_pR]
  by_cases hq : q = i
  · subst hq; simp [updV, va_rf, rv]
  · simp [updV, hq]
theorem V_objI {idx b : Nat} (hd : decode (mC M) pc = .ok (.invokespecial idx, 3)) (hw : Cond.methodLink (mY M).cls idx Lib.objectInit ∈ TG) (hcat : (st.map fun v => v.category).sum ≤ 8) (hdd : 1 ≤ d)
    (k : V ph M d mc ms Po X kc ks (pc + 3) L st w) : V ph M d mc ms Po X kc ks pc L (.ref b :: st) w := by
  intro p l e R s m args below meth c G F H locs ls cells slots hR hS hl h1 h2
  obtain ⟨hx, hb, hml, hown, hts, -, -, -, -, -, ⟨hd1, hd2, -, -⟩, -, -⟩ := id F
  have hr : 2 * (F0 m pc ls ((Value.ref b :: st).map (rv G))).monitorRoom + ((st.map (rv G)).map fun v => v.category).sum ≤ 8 := lv_room (cats_le hcat)
  refine W.objInit hx hb hown (hts _ hw) (hts _ objI_i) (hts _ objI_c) rfl (by rw [hml]; exact hl.1) rfl hd (by omega) (by omega) ?_
  exact W.eq (g2 := F0 m (pc + 3) ls (st.map (rv G))) rfl (k p l e R s m args below meth c G F H locs ls cells slots hR hS hl h1 h2)
end
/-! contracts of constructors: with what else holds around them -/
abbrev XA (s : State) : Prop := va_AO "ButtonReef$State" s
theorem XA.to {s U : State} (hW : s.WarmedH U.vm) (h : XA s) : XA U := va_AO.moved hW.alike h
def CtX (M : kM) (d mc ms : Nat) (av : List Value) (w : Wd) (Po : Out → Wd → Prop) : Prop :=
  ∀ (l : Launch) (G : kG), l.stackTraces = false → vx_Met l (mY M) (wsM M) (rmD d mc ms) (va_Pc (av.map (rv G)) (fun U => (Rl G 0 w U.heap ∧ Ev G U U.heap) ∧ XA U)) (QcP G 0 Po) (XCP G 0 Po) mc ms (AG G)
theorem CtX_of {M : kM} {d mc ms : Nat} {av : List Value} {w : Wd} {Po : Out → Wd → Prop} (hp : plainName (mY M).cls = true) (hh : mH M = []) (hn : av.length ≤ mN M) (hc0 : (av.all fun v => v.category == 1) = true)
    (k : V 0 M d mc ms Po (fun _ s => XA s) mc ms 0 (L0 (mN M) av) [] w) : CtX M d mc ms av w Po := by
  have hc : ∀ x ∈ av, x.category = 1 := fun x hx => by have := List.all_eq_true.mp hc0 x hx; simpa using this
  intro l G hls
  have hws : wsM M = Cond.code (mY M) (mC M) (mN M) (mR M) :: TG := by unfold wsM wM; rw [hh]
  refine vx_ofW (cc := mC M) (maxL := mN M) (ret := mR M) (ws' := TG) hp hws ?_
  intro p e s m args below meth c s₁ B hml ht hv
  obtain ⟨rfl, ⟨hR, hE⟩, hX⟩ := hv
  have hts := atoms_spec (ws := wsM M) B.pre
  have htab : c.exceptionTable.toList = tableOf (mH M) := by
    rw [hh]
    cases h9 : c.exceptionTable.toList with
    | nil => rfl
    | cons x xs => rw [h9] at ht; exact absurd (ht x List.mem_cons_self) id
  have hl := lv_entry (av.map (rv G)) (n := mN M) (by rw [lg_sl_len _ (rv_cats hc), List.length_map]; exact hn)
  rw [lg_entry_eq]
  exact k p l e _ s m _ below meth c G ⟨B.exec, B.bytes, hml, findClass_of_methodNamed B.named, fun w hw => hts w (List.mem_cons_of_mem _ hw), B.notSynchronized, B.returns, (name_of_methodNamed B.named B.method).1, htab, hls, ⟨Nat.le_refl _, Nat.le_refl _, Nat.le_refl _, Nat.le_refl _⟩, hE, hX⟩ s.heap [] _ 0 0 hR va_S.rf (lv_mono hl (L0_mem hc)) (by omega) (by omega)
theorem preX_blind {G : kG} {av : List Value} {w : Wd} : FrameBlind (va_Pc av (fun U => (Rl G 0 w U.heap ∧ Ev G U U.heap) ∧ XA U)) := by
  intro a U g mk q
  exact ⟨q.1, ⟨q.2.1.1, Ev.to (s := U) (U := U.calling g mk a) (State.WarmedH.refl U) q.2.1.2 (fun _ _ _ => rfl)⟩, XA.to (s := U) (U := U.calling g mk a) (State.WarmedH.refl U) q.2.2⟩
theorem preX_at {G : kG} {av : List Value} {w : Wd} {s : State} {H : Heap} {locs : List Loc} (hR : Rl G 0 w H) (hE : Ev G s s.heap) (hX : XA s) (hS : va_S (AG G) s.heap H locs) : ∀ U : State, U.heap = H → s.WarmedH U.vm → va_Pc av (fun U => (Rl G 0 w U.heap ∧ Ev G U U.heap) ∧ XA U) av.toArray U := by
  intro U hU hW
  exact ⟨rfl, ⟨by rw [hU]; exact hR, Ev.to hW hE (fun a h1 h2 => by rw [hU]; exact hS.2.1 a h1 h2)⟩, hX.to hW⟩
section
variable {M : kM} {d mc ms : Nat} {Po : Out → Wd → Prop} {X : kG → State → Prop} {kc ks pc : Nat} {L : List (Option Value)} {st : List Value} {w : Wd}
theorem V_callI {idx b dy mcy msy : Nat} {My : kM} {w1 : Wd} (hd : decode (mC M) pc = .ok (.invokespecial idx, 3)) (hC : CtX My dy mcy msy [.ref b] w (Rt none w1)) (ok : okI My 0) (hw : Cond.methodLink (mY M).cls idx (mY My) ∈ TG) (hX : ∀ G s, X G s → XA s) (hcat : (st.map fun v => v.category).sum ≤ 8) (hdd : dy + 1 ≤ d ∧ 8 + (mN My + 11) + 200 * dy ≤ 200 * d) (hh : mH M = []) (hbud : mcy ≤ kc ∧ msy ≤ ks)
    (kr : V 0 M d mc ms Po X (kc - mcy) (ks - msy) (pc + 3) L st w1) : V 0 M d mc ms Po X kc ks pc L (.ref b :: st) w := by
  intro p l e R s m args below meth c G F H locs ls cells slots hR hS hl h1 h2
  obtain ⟨hx, hb, hml, hown, hts, -, -, -, -, hls, ⟨hd1, hd2, hd3, hd4⟩, hE, hXX⟩ := id F
  obtain ⟨⟨hhy, hcode, hini, hy1, hy2, hy3⟩, hin, hnm, hrt⟩ := ok
  have e9 : wM My = Cond.code (mY My) (mC My) (mN My) none := by rw [wM_nil hhy, hrt]
  refine V_core (dy := dy) (As2 := []) hh hbud (PoY := Rt none w1) (fun v w' q => by obtain ⟨q1, q2⟩ := q; cases q1; subst q2; exact kr) (fun E w' q => by obtain ⟨q1, -⟩ := q; cases q1) F hS hl h1 h2 (st0 := (Value.ref b :: st).map (rv G)) (a' := #[Value.ref (gA G b)]) ?_
  refine vx_runI (bytes := mC My) (maxL := mN My) (n := 0) (As := []) (b := gA G b) (Ts := TG) (own := (mY M).cls) ⟨hx, hb, hml, hown, hts⟩ (hC l G hls) ⟨⟨rfl, rfl, by show dy + 1 ≤ R.frames; omega, by show 8 + (mN My + 11) + 200 * dy ≤ R.locals; omega, ws_warm hts hcode, by rw [← e9]; exact List.mem_cons_self, by rw [← e9]; exact hts _ hcode, hts _ hini, ⟨hy1, hy2⟩, fun sig h => ?_, hts _ hw⟩, hnm, hts _ hin⟩ ⟨preX_blind, preX_at hR hE (hX G s hXX) hS⟩ rfl rfl hl.1 rfl (lv_room (cats_le hcat)) hd ⟨by omega, by omega⟩
  rw [h] at hy3
  exact (Option.some.inj hy3).symm
theorem V_callIN {idx b dy mcy msy : Nat} {host : String} {My : kM} {w1 : Wd} (hd : decode (mC M) pc = .ok (.invokespecial idx, 3)) (hC : CtX My dy mcy msy [.ref b] w (Rt none w1)) (ok : okI My 0) (hw : ((mY M).cls, idx, mY My, host) ∈ cNm) (hX : ∀ G s, X G s → XA s) (hcat : (st.map fun v => v.category).sum ≤ 8) (hdd : dy + 1 ≤ d ∧ 8 + (mN My + 11) + 200 * dy ≤ 200 * d) (hh : mH M = []) (hbud : mcy ≤ kc ∧ msy ≤ ks)
    (kr : V 0 M d mc ms Po X (kc - mcy) (ks - msy) (pc + 3) L st w1) : V 0 M d mc ms Po X kc ks pc L (.ref b :: st) w := by
  intro p l e R s m args below meth c G F H locs ls cells slots hR hS hl h1 h2
  obtain ⟨hx, hb, hml, hown, hts, -, -, -, -, hls, ⟨hd1, hd2, hd3, hd4⟩, hE, hXX⟩ := id F
  obtain ⟨⟨hhy, hcode, hini, hy1, hy2, hy3⟩, hin, hnm, hrt⟩ := ok
  have e9 : wM My = Cond.code (mY My) (mC My) (mN My) none := by rw [wM_nil hhy, hrt]
  refine V_core (dy := dy) (As2 := []) hh hbud (PoY := Rt none w1) (fun v w' q => by obtain ⟨q1, q2⟩ := q; cases q1; subst q2; exact kr) (fun E w' q => by obtain ⟨q1, -⟩ := q; cases q1) F hS hl h1 h2 (st0 := (Value.ref b :: st).map (rv G)) (a' := #[Value.ref (gA G b)]) ?_
  refine vx_runIN (host := host) (bytes := mC My) (maxL := mN My) (n := 0) (As := []) (b := gA G b) (Ts := TG) (own := (mY M).cls) ⟨hx, hb, hml, hown, hts⟩ (hC l G hls) ⟨⟨⟨rfl, rfl, by show dy + 1 ≤ R.frames; omega, by show 8 + (mN My + 11) + 200 * dy ≤ R.locals; omega, ws_warm hts hcode, by rw [← e9]; exact List.mem_cons_self⟩, by rw [← e9]; exact hts _ hcode, hts _ hini, ⟨hy1, hy2⟩, fun sig h => ?_, va_Nw.use rfl (hE.2.1.1 _ hw)⟩, hnm, hts _ hin⟩ ⟨preX_blind, preX_at hR hE (hX G s hXX) hS⟩ rfl rfl hl.1 rfl (lv_room (cats_le hcat)) hd ⟨by omega, by omega⟩
  rw [h] at hy3
  exact (Option.some.inj hy3).symm
end
end NEWROWS
