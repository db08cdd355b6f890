/-! FLOATS: no NaN; texts by a wide index; returns of floats. -/
section FPT
theorem fpt1 : ∀ a < 577, ∀ b < 65, 0 < b → vf_n64 (FP.ddiv (FP.i2d (nI a)) (FP.i2d (nI b))) := by
  unfold vf_n64
  decide +kernel
theorem fpt2 : ∀ a < 65, ∀ b < 65, 0 < b → vf_n32 (FP.fdiv (FP.i2f (nI a)) (FP.i2f (nI b))) := by
  unfold vf_n32
  decide +kernel
theorem fpt3 : ∀ a < 65, ∀ b < 65, 0 < b → vf_n64 (FP.f2d (FP.fdiv (FP.i2f (nI a)) (FP.i2f (nI b)))) := by
  unfold vf_n64
  decide +kernel
variable {M : kM} {d mc ms : Nat} {Po : Out → Wd → Prop} {X : kG → State → Prop} {kc ks pc : Nat} {L : List (Option Value)} {st : List Value} {w : Wd}
theorem V_ldcwS {is sa : Nat} {text : String} (hd : decode (mC M) pc = .ok (.ldc_w is, 3)) (hstr : ((mY M).cls, is, text, sa) ∈ cS) (k : V 1 M d mc ms Po X kc ks (pc + 3) L (.ref sa :: st) w) : V 1 M d mc ms Po X kc ks pc L st w := by
  intro p l e R s m args below meth c G F H locs ls cells slots hR hS hl h1 h2
  obtain ⟨hx, hb, -, hown, -, -, -, -, -, -, -, hE, -⟩ := id F
  have hZ := hE.2.1.2.2.2.2.1 _ hstr
  intro T hT XX
  obtain ⟨t, a1, b1⟩ := k p l e R s m args below meth c G F H locs ls cells slots hR hS hl h1 h2 T hT XX
  exact ⟨t, XX.ldcStringW hx hown (text := text) (a := gA G sa) hZ.1 hZ.2 (g := F0 m pc ls (st.map (rv G))) rfl (by rw [hb]; exact hd) t a1, b1⟩
theorem V_dret {v : UInt64} (hd : decode (mC M) pc = .ok (.dreturn, 1)) (hr : mR M = some .double) (k : Po (.inl (some (.double v))) w) : V 1 M d mc ms Po X kc ks pc L [.double v] w := by
  intro p l e R s m args below meth c G F H locs ls cells slots hR hS hl h1 h2
  obtain ⟨hx, hb, -, -, -, hlk, hrt, -⟩ := F
  exact W.widen (k := mc) (n := ms) (by omega) (by omega) (vx_ret (W.dret hx hb (hrt.trans hr) (fun t ht hW => ⟨⟨some (.double v), w, rfl, k, by rw [ht]; exact hR⟩, hS.F ht⟩) hS.2.2 hd hlk))
theorem V_fret {v : UInt32} (hd : decode (mC M) pc = .ok (.freturn, 1)) (hr : mR M = some .float) (k : Po (.inl (some (.float v))) w) : V 1 M d mc ms Po X kc ks pc L [.float v] w := by
  intro p l e R s m args below meth c G F H locs ls cells slots hR hS hl h1 h2
  obtain ⟨hx, hb, -, -, -, hlk, hrt, -⟩ := F
  exact W.widen (k := mc) (n := ms) (by omega) (by omega) (vx_ret (W.fret hx hb (hrt.trans hr) (fun t ht hW => ⟨⟨some (.float v), w, rfl, k, by rw [ht]; exact hR⟩, hS.F ht⟩) hS.2.2 hd hlk))
end FPT
