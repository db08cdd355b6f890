/-! REFERENCES READ FROM AN ARRAY OF THE WORLD. -/
section RALD
variable {M : kM} {d mc ms : Nat} {Po : Out → Wd → Prop} {X : kG → State → Prop} {kc ks pc : Nat} {L : List (Option Value)} {st : List Value} {w : Wd}
theorem V_rald {a n q : Nat} {kl : List Nat} {i : Nat} (hd : decode (mC M) pc = .ok (.aaload, 1)) (ha : Mk 1 w a) (hs : shp 1 a = (5, n, kl)) (hi : i < n) (hn : n < 2 ^ 31) (hq : gR w a i = some q)
    (kk : V 1 M d mc ms Po X kc ks (pc + 1) L (.ref q :: st) w) : V 1 M d mc ms Po X kc ks pc L (.int (nI i) :: .ref a :: st) w := by
  intro p l e R s m args below meth c G F H locs ls cells slots hR hS hl h1 h2
  have he := wl_at (G := G) (sh := shp 1) (ha.lt hR)
  rw [hs] at he
  obtain ⟨hx, hb, -, -, -, -, -, -, -, -, -, hE, -⟩ := id F
  refine va_aldq hx hb hE.1 hR.1 a 4 he rfl (in_n hi hn) hd ?_
  show W p l e R s m args below meth c H locs cells slots _ (F0 m (pc + 1) ls (va_rf ((gR w a (nI i).toNatClampNeg).map (gA G)) :: st.map (rv G)))
  rw [nI_clamp (by omega), hq]
  exact kk p l e R s m args below meth c G F H locs ls cells slots hR hS hl h1 h2
theorem pI_at {w : Wd} {a k : Nat} {v : Int32} : gI (pI w a k v) a k = v := if_pos ⟨rfl, rfl⟩
theorem pI_ne {w : Wd} {a k b j : Nat} {v x : Int32} (h : ¬ (b = a ∧ j = k)) (e : gI w b j = x) : gI (pI w a k v) b j = x := Eq.trans (if_neg h) e
theorem pR_at {w : Wd} {a k : Nat} {v : Option Nat} : gR (pR w a k v) a k = v := if_pos ⟨rfl, rfl⟩
theorem pR_ne {w : Wd} {a k b j : Nat} {v x : Option Nat} (h : ¬ (b = a ∧ j = k)) (e : gR w b j = x) : gR (pR w a k v) b j = x := Eq.trans (if_neg h) e
theorem pL_at {w : Wd} {a k : Nat} {v : Int64} : gL (pL w a k v) a k = v := if_pos ⟨rfl, rfl⟩
theorem pF_at {w : Wd} {a k : Nat} {v : UInt64} : gF (pF w a k v) a k = v := if_pos ⟨rfl, rfl⟩
end RALD
