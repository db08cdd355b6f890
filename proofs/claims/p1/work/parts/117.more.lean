/-! COPIES, CALLS WHOSE WORLD IS TOLD BY WHAT HOLDS OF IT, FRAMES. Printed by wip/whole/gen/mk117.py. -/
section MOREROWS
variable {M : kM} {d mc ms : Nat} {Po : Out → Wd → Prop} {X : kG → State → Prop} {kc ks pc : Nat} {L : List (Option Value)} {st : List Value} {w : Wd}
theorem lkCopy : Cond.methodLink RX8 47 arraycopyName ∈ TG := tg_of 535 (by decide +kernel) (by decide +kernel)
theorem natCopy : Cond.native arraycopyName ∈ TG := tg_of 537 (by decide +kernel) (by decide +kernel)
theorem staCopy : Cond.static arraycopyName ∈ TG := tg_of 536 (by decide +kernel) (by decide +kernel)
def pA (w : Wd) (a : Nat) (f : Nat → Int32) : Wd := (w.1, (fun b => if b = a then f else w.2.1 b), w.2.2)
theorem gI_pA (w : Wd) (a b j : Nat) (f : Nat → Int32) : gI (pA w a f) b j = if b = a then f j else gI w b j := by
  show (if b = a then f else w.2.1 b) j = _
  split <;> rfl
theorem gR_pA (w : Wd) (a b j : Nat) (f : Nat → Int32) : gR (pA w a f) b j = gR w b j := rfl
theorem gL_pA (w : Wd) (a b j : Nat) (f : Nat → Int32) : gL (pA w a f) b j = gL w b j := rfl
theorem gF_pA (w : Wd) (a b j : Nat) (f : Nat → Int32) : gF (pA w a f) b j = gF w b j := rfl
theorem cell_pA_ne {G : kG} {w : Wd} {a b : Nat} {f : Nat → Int32} {s : Shp} (h : b ≠ a) : cellOf G (pA w a f) b s = cellOf G w b s := by
  have e : gI (pA w a f) b = gI w b := by funext j; rw [gI_pA, if_neg h]
  unfold cellOf
  split <;> first | rfl | (simp only [slotV, e, gR_pA, gL_pA, gF_pA]; try rfl) | skip
theorem copyRoom : nativeFrameWords "java/lang/System" "arraycopy" 5 + 11 ≤ 192 := by decide +kernel
/-- what a copy of 64 places leaves -/
def cpy (f g : Nat → Int32) : Nat → Int32 := fun k => if k < 64 then f k else g k
theorem cpy_eq (f g : Nat → Int32) : va_cpy f g (nI 0).toNatClampNeg (nI 0).toNatClampNeg (nI 64).toNatClampNeg = cpy f g := by
  rw [nI_clamp (by decide), nI_clamp (by decide)]
  funext k
  unfold va_cpy cpy
  by_cases h : k < 64
  · rw [if_pos ⟨Nat.zero_le _, by omega⟩, if_pos h]; congr 1; omega
  · rw [if_neg (by omega), if_neg h]
theorem V_copyI {idx q0 q1 : Nat} {kl0 kl1 : List Nat} (hd : decode (mC M) pc = .ok (.invokestatic idx, 3)) (hw : Cond.methodLink (mY M).cls idx arraycopyName ∈ TG) (m0 : Mk 1 w q0) (m1 : Mk 1 w q1) (s0 : shp 1 q0 = (1, 64, kl0)) (s1 : shp 1 q1 = (1, 64, kl1)) (hcat : (st.map fun v => v.category).sum ≤ 8) (hdd : 1 ≤ d)
    (k : V 1 M d mc ms Po X kc ks (pc + 3) L st (pA w q1 (cpy (gI w q0) (gI w q1)))) : V 1 M d mc ms Po X kc ks pc L (.int (nI 64) :: .int (nI 0) :: .ref q1 :: .int (nI 0) :: .ref q0 :: st) w := by
  intro p l e R s m args below meth c G F H locs ls cells slots hR hS hl h1 h2
  obtain ⟨hx, hb, hml, hown, hts, -, -, -, -, -, ⟨hd1, hd2, hd3, hd4⟩, hE, -⟩ := id F
  have hG := hE.2.2.2.2
  have l0 := m0.lt hR
  have l1 := m1.lt hR
  have e0 := wl_at (G := G) (sh := shp 1) l0
  rw [s0] at e0
  have e1 := wl_at (G := G) (sh := shp 1) l1
  rw [s1] at e1
  have hrm := copyRoom
  have hc9 := cats_le (G := G) hcat
  refine va_copyi (ty := .int) (f := gI w q0) (g := gI w q1) (n0 := 64) (n1 := 64) hx hb (by rw [hml, hl.1]) hown (hts _ hw) (hts _ natCopy) (hts _ staCopy) (hts _ injava_lang_System) hE.1 hR.1 (hR.D hG) hS q0 q1 0 0 e0 e1 rfl rfl rfl (by decide) (by decide) (by decide) (by decide) (by decide) (fun _ _ => rfl) (by omega) (by omega) hd (fun H1 locs1 hP1 hD1 hS1 => ?_)
  rw [cpy_eq] at hP1
  have e9 : wl G (shp 1) (pA w q1 (cpy (gI w q0) (gI w q1))) = (wl G (shp 1) w).set q1 (gA G q1, .inl (gC G 0, 64, .inl (cpy (gI w q0) (gI w q1)))) := by
    rw [wl_ext (w := w) (w' := pA w q1 (cpy (gI w q0) (gI w q1))) rfl l1 (fun b _ hb => cell_pA_ne hb), s1]
    have e8 : gI (pA w q1 (cpy (gI w q0) (gI w q1))) q1 = cpy (gI w q0) (gI w q1) := by funext j; rw [gI_pA, if_pos rfl]
    show (wl G (shp 1) w).set q1 (gA G q1, .inl (gC G 0, 64, .inl (gI (pA w q1 (cpy (gI w q0) (gI w q1))) q1))) = _
    rw [e8]
  refine k p l e R s m args below meth c G F H1 locs1 ls cells slots ⟨by rw [e9]; exact hP1, hR.2.1, ?_, (fun h => by cases h), hR.2.2.2.2⟩ hS1 hl h1 h2
  have hn := hR.2.2.2.2 rfl
  have hlast := (show va_P (gD G) kCl (wl G (shp 1) (pA w q1 (cpy (gI w q0) (gI w q1)))) H1 by rw [e9]; exact hP1) 66 _ (wl_at (show 66 < wn w by omega))
  have h7 := hlast.lt
  have h8 : gA G 66 = gB G + 66 := hG 66 (by decide)
  show gB G + wn w ≤ H1.size
  have h9 : gA G 66 < H1.size := h7
  omega
theorem V_copyC {idx q0 q1 : Nat} {kl0 kl1 : List Nat} (hd : decode (mC M) pc = .ok (.invokestatic idx, 3)) (hw : Cond.methodLink (mY M).cls idx arraycopyName ∈ TG) (m0 : Mk 1 w q0) (m1 : Mk 1 w q1) (s0 : shp 1 q0 = (2, 64, kl0)) (s1 : shp 1 q1 = (2, 64, kl1)) (hf : ∀ i, i < 64 → fits .char (.int (gI w q0 i)) = true) (hcat : (st.map fun v => v.category).sum ≤ 8) (hdd : 1 ≤ d)
    (k : V 1 M d mc ms Po X kc ks (pc + 3) L st (pA w q1 (cpy (gI w q0) (gI w q1)))) : V 1 M d mc ms Po X kc ks pc L (.int (nI 64) :: .int (nI 0) :: .ref q1 :: .int (nI 0) :: .ref q0 :: st) w := by
  intro p l e R s m args below meth c G F H locs ls cells slots hR hS hl h1 h2
  obtain ⟨hx, hb, hml, hown, hts, -, -, -, -, -, ⟨hd1, hd2, hd3, hd4⟩, hE, -⟩ := id F
  have hG := hE.2.2.2.2
  have l0 := m0.lt hR
  have l1 := m1.lt hR
  have e0 := wl_at (G := G) (sh := shp 1) l0
  rw [s0] at e0
  have e1 := wl_at (G := G) (sh := shp 1) l1
  rw [s1] at e1
  have hrm := copyRoom
  have hc9 := cats_le (G := G) hcat
  refine va_copyi (ty := .char) (f := gI w q0) (g := gI w q1) (n0 := 64) (n1 := 64) hx hb (by rw [hml, hl.1]) hown (hts _ hw) (hts _ natCopy) (hts _ staCopy) (hts _ injava_lang_System) hE.1 hR.1 (hR.D hG) hS q0 q1 1 1 e0 e1 rfl rfl rfl (by decide) (by decide) (by decide) (by decide) (by decide) (fun i hi => by rw [nI_clamp (by decide)] at hi; rw [nI_clamp (by decide), Nat.zero_add]; exact hf i hi) (by omega) (by omega) hd (fun H1 locs1 hP1 hD1 hS1 => ?_)
  rw [cpy_eq] at hP1
  have e9 : wl G (shp 1) (pA w q1 (cpy (gI w q0) (gI w q1))) = (wl G (shp 1) w).set q1 (gA G q1, .inl (gC G 1, 64, .inl (cpy (gI w q0) (gI w q1)))) := by
    rw [wl_ext (w := w) (w' := pA w q1 (cpy (gI w q0) (gI w q1))) rfl l1 (fun b _ hb => cell_pA_ne hb), s1]
    have e8 : gI (pA w q1 (cpy (gI w q0) (gI w q1))) q1 = cpy (gI w q0) (gI w q1) := by funext j; rw [gI_pA, if_pos rfl]
    show (wl G (shp 1) w).set q1 (gA G q1, .inl (gC G 1, 64, .inl (gI (pA w q1 (cpy (gI w q0) (gI w q1))) q1))) = _
    rw [e8]
  refine k p l e R s m args below meth c G F H1 locs1 ls cells slots ⟨by rw [e9]; exact hP1, hR.2.1, ?_, (fun h => by cases h), hR.2.2.2.2⟩ hS1 hl h1 h2
  have hn := hR.2.2.2.2 rfl
  have hlast := (show va_P (gD G) kCl (wl G (shp 1) (pA w q1 (cpy (gI w q0) (gI w q1)))) H1 by rw [e9]; exact hP1) 66 _ (wl_at (show 66 < wn w by omega))
  have h7 := hlast.lt
  have h8 : gA G 66 = gB G + 66 := hG 66 (by decide)
  show gB G + wn w ≤ H1.size
  have h9 : gA G 66 < H1.size := h7
  omega
theorem V_getsQ {idx : Nat} (hd : decode (mC M) pc = .ok (.getstatic idx, 3)) (hw : Cond.fieldLink (mY M).cls idx "jdk/internal/util/Preconditions" "SIOOBE_FORMATTER" "Ljava/util/function/BiFunction;" ∈ TG)
    (kn : V 1 M d mc ms Po X kc ks (pc + 3) L (.null :: st) w) (kr : V 1 M d mc ms Po X kc ks (pc + 3) L (.ref 1900 :: st) w) : V 1 M d mc ms Po X kc ks pc L st w := by
  intro p l e R s m args below meth c G F H locs ls cells slots hR hS hl h1 h2
  obtain ⟨hx, hb, -, hown, hts, -, -, -, -, -, -, hE, -⟩ := id F
  rcases hE.2.2.1.2.2.2.2.1 with h | h
  · exact va_gets hx hb h hS hown (hts _ hw) (fun _ h => h) hd (kn p l e R s m args below meth c G F H locs ls cells slots hR hS hl h1 h2)
  · exact va_gets hx hb h hS hown (hts _ hw) (fun _ h => h) hd (kr p l e R s m args below meth c G F H locs ls cells slots hR hS hl h1 h2)
/-- answers v, in a world of which P holds -/
def Mt (v : Option Value) (P : Wd → Prop) : Out → Wd → Prop := fun o w' => o = .inl v ∧ P w'
theorem V_callVM {idx b ci n dy N : Nat} {My : kM} {As rest : List Value} {T : u_T} {kl : List Nat} {v : Option Value} {P : Wd → Prop} (hd : decode (mC M) pc = .ok (.invokevirtual idx, 3)) (hC : Ct 1 My dy 0 0 (.ref b :: As) w (Mt v P)) (ok : okV My n) (hw : Cond.methodLink (mY M).cls idx (mY My) ∈ TG) (hb9 : Mk 1 w b) (hs : shp 1 b = (0, ci, kl)) (hc : kCl[ci]? = some ((mY My).cls, T, N)) (hn : As.length = n) (hst : st = As.reverse ++ .ref b :: rest) (hcat : (rest.map fun v => v.category).sum ≤ 8) (hdd : dy + 1 ≤ d ∧ 8 + (mN My + 11) + 200 * dy ≤ 200 * d) (hh : mH M = [])
    (kr : ∀ w' : Wd, P w' → V 1 M d mc ms Po X kc ks (pc + 3) L (v.toList ++ rest) w') : V 1 M d mc ms Po X kc ks pc L st w :=
  V_callV hd hC ok hw hb9 hs hc hn hst hcat hdd hh ⟨Nat.zero_le _, Nat.zero_le _⟩ (fun v' w' h => by obtain ⟨h1, h2⟩ := h; cases h1; exact kr w' h2) (fun E w' h => by cases h.1)
theorem V_callVOM {idx b n dy : Nat} {My : kM} {As rest : List Value} {v : Option Value} {P : Wd → Prop} (hd : decode (mC M) pc = .ok (.invokevirtual idx, 3)) (hC : Ct 1 My dy 0 0 (.ref b :: As) w (Mt v P)) (ok : okV My n) (hw : Cond.methodLink (mY M).cls idx (mY My) ∈ TG) (hb9 : ((mY My).cls, b) ∈ cO) (hn : As.length = n) (hst : st = As.reverse ++ .ref b :: rest) (hcat : (rest.map fun v => v.category).sum ≤ 8) (hdd : dy + 1 ≤ d ∧ 8 + (mN My + 11) + 200 * dy ≤ 200 * d) (hh : mH M = [])
    (kr : ∀ w' : Wd, P w' → V 1 M d mc ms Po X kc ks (pc + 3) L (v.toList ++ rest) w') : V 1 M d mc ms Po X kc ks pc L st w :=
  V_callVO hd hC ok hw hb9 hn hst hcat hdd hh ⟨Nat.zero_le _, Nat.zero_le _⟩ (fun v' w' h => by obtain ⟨h1, h2⟩ := h; cases h1; exact kr w' h2) (fun E w' h => by cases h.1)
theorem V_callSM {idx n dy : Nat} {My : kM} {As rest : List Value} {v : Option Value} {P : Wd → Prop} (hd : decode (mC M) pc = .ok (.invokestatic idx, 3)) (hC : Ct 1 My dy 0 0 As w (Mt v P)) (ok : okS My n) (hw : Cond.methodLink (mY M).cls idx (mY My) ∈ TG) (hn : As.length = n) (hst : st = As.reverse ++ rest) (hcat : (rest.map fun v => v.category).sum ≤ 8) (hdd : dy + 1 ≤ d ∧ 8 + (mN My + 11) + 200 * dy ≤ 200 * d) (hh : mH M = [])
    (kr : ∀ w' : Wd, P w' → V 1 M d mc ms Po X kc ks (pc + 3) L (v.toList ++ rest) w') : V 1 M d mc ms Po X kc ks pc L st w :=
  V_callS hd hC ok hw hn hst hcat hdd hh ⟨Nat.zero_le _, Nat.zero_le _⟩ (fun v' w' h => by obtain ⟨h1, h2⟩ := h; cases h1; exact kr w' h2) (fun E w' h => by cases h.1)
theorem V_callSNM {idx n dy : Nat} {host : String} {My : kM} {As rest : List Value} {v : Option Value} {P : Wd → Prop} (hd : decode (mC M) pc = .ok (.invokestatic idx, 3)) (hC : Ct 1 My dy 0 0 As w (Mt v P)) (ok : okS My n) (hw : ((mY M).cls, idx, mY My, host) ∈ cNm) (hn : As.length = n) (hst : st = As.reverse ++ rest) (hcat : (rest.map fun v => v.category).sum ≤ 8) (hdd : dy + 1 ≤ d ∧ 8 + (mN My + 11) + 200 * dy ≤ 200 * d) (hh : mH M = [])
    (kr : ∀ w' : Wd, P w' → V 1 M d mc ms Po X kc ks (pc + 3) L (v.toList ++ rest) w') : V 1 M d mc ms Po X kc ks pc L st w :=
  V_callSN hd hC ok hw hn hst hcat hdd hh ⟨Nat.zero_le _, Nat.zero_le _⟩ (fun v' w' h => by obtain ⟨h1, h2⟩ := h; cases h1; exact kr w' h2) (fun E w' h => by cases h.1)
/-- the same in the cell b -/
def sb (b : Nat) (w w1 : Wd) : Prop := gI w1 b = gI w b ∧ gR w1 b = gR w b ∧ gL w1 b = gL w b ∧ gF w1 b = gF w b
/-- nothing changes but in cells of P -/
def Fr (P : Nat → Prop) (w w1 : Wd) : Prop := wn w1 = wn w ∧ ∀ b, ¬ P b → sb b w w1
theorem sb.nil {b : Nat} {w : Wd} : sb b w w := ⟨Eq.refl _, Eq.refl _, Eq.refl _, Eq.refl _⟩
theorem sb.trans {b : Nat} {w w1 w2 : Wd} (h : sb b w w1) (k : sb b w1 w2) : sb b w w2 := ⟨k.1.trans h.1, k.2.1.trans h.2.1, k.2.2.1.trans h.2.2.1, k.2.2.2.trans h.2.2.2⟩
theorem Fr.nil {P : Nat → Prop} {w : Wd} : Fr P w w := ⟨Eq.refl _, fun _ _ => sb.nil⟩
theorem Fr.trans {P : Nat → Prop} {w w1 w2 : Wd} (h : Fr P w w1) (k : Fr P w1 w2) : Fr P w w2 := ⟨k.1.trans h.1, fun b hb => (h.2 b hb).trans (k.2 b hb)⟩
theorem Fr.mono {P Q : Nat → Prop} {w w1 : Wd} (h : Fr P w w1) (hs : ∀ b, P b → Q b) : Fr Q w w1 := ⟨h.1, fun b hb => h.2 b fun q => hb (hs b q)⟩
theorem Fr.i1 {P : Nat → Prop} {w w1 : Wd} {a k : Nat} {v : Int32} (h : Fr P w w1) (ha : P a) : Fr P w (pI w1 a k v) := ⟨h.1, fun b hb => (h.2 b hb).trans ⟨by funext j; rw [gI_pI, if_neg (fun q => hb (by rw [q.1]; exact ha))], Eq.refl _, Eq.refl _, Eq.refl _⟩⟩
theorem Fr.r1 {P : Nat → Prop} {w w1 : Wd} {a k : Nat} {v : Option Nat} (h : Fr P w w1) (ha : P a) : Fr P w (pR w1 a k v) := ⟨h.1, fun b hb => (h.2 b hb).trans ⟨Eq.refl _, by funext j; rw [gR_pR, if_neg (fun q => hb (by rw [q.1]; exact ha))], Eq.refl _, Eq.refl _⟩⟩
theorem Fr.l1 {P : Nat → Prop} {w w1 : Wd} {a k : Nat} {v : Int64} (h : Fr P w w1) (ha : P a) : Fr P w (pL w1 a k v) := ⟨h.1, fun b hb => (h.2 b hb).trans ⟨Eq.refl _, Eq.refl _, by funext j; rw [gL_pL, if_neg (fun q => hb (by rw [q.1]; exact ha))], Eq.refl _⟩⟩
theorem Fr.f1 {P : Nat → Prop} {w w1 : Wd} {a k : Nat} {v : UInt64} (h : Fr P w w1) (ha : P a) : Fr P w (pF w1 a k v) := ⟨h.1, fun b hb => (h.2 b hb).trans ⟨Eq.refl _, Eq.refl _, Eq.refl _, by funext j; rw [gF_pF, if_neg (fun q => hb (by rw [q.1]; exact ha))]⟩⟩
theorem Fr.a1 {P : Nat → Prop} {w w1 : Wd} {a : Nat} {f : Nat → Int32} (h : Fr P w w1) (ha : P a) : Fr P w (pA w1 a f) := ⟨h.1, fun b hb => (h.2 b hb).trans ⟨by funext j; rw [gI_pA, if_neg (fun q => hb (by rw [q]; exact ha))], Eq.refl _, Eq.refl _, Eq.refl _⟩⟩
theorem Fr.gi {P : Nat → Prop} {w w1 : Wd} (h : Fr P w w1) {b : Nat} (hb : ¬ P b) (j : Nat) : gI w1 b j = gI w b j := congrFun (h.2 b hb).1 j
theorem Fr.gr {P : Nat → Prop} {w w1 : Wd} (h : Fr P w w1) {b : Nat} (hb : ¬ P b) (j : Nat) : gR w1 b j = gR w b j := congrFun (h.2 b hb).2.1 j
theorem Fr.gl {P : Nat → Prop} {w w1 : Wd} (h : Fr P w w1) {b : Nat} (hb : ¬ P b) (j : Nat) : gL w1 b j = gL w b j := congrFun (h.2 b hb).2.2.1 j
theorem Fr.gf {P : Nat → Prop} {w w1 : Wd} (h : Fr P w w1) {b : Nat} (hb : ¬ P b) (j : Nat) : gF w1 b j = gF w b j := congrFun (h.2 b hb).2.2.2 j
end MOREROWS
