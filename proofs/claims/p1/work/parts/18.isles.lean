/-! ISLANDS: what is connected, how islands are numbered, how a spreading and a merging come to it. -/
section ISLES
def adj (a b : Nat) : Prop := (b = a + 1 ∧ a % 8 < 7) ∨ (a = b + 1 ∧ b % 8 < 7) ∨ b = a + 8 ∨ a = b + 8
theorem adj_sym {a b : Nat} (h : adj a b) : adj b a := by unfold adj at *; omega
def Hd (H : Nat → Bool) (k : Nat) : Prop := k < 64 ∧ H k = true
def Cn (H : Nat → Bool) (a b : Nat) : Prop := Hd H a ∧ ∀ P : Nat → Prop, P a → (∀ c d, P c → Hd H d → adj c d → P d) → P b
section CN
variable {H : Nat → Bool} {a b c d i j k n m r x : Nat}
theorem cn_refl (h : Hd H a) : Cn H a a := ⟨h, fun _ h0 _ => h0⟩
theorem cn_step (h : Cn H a c) (h1 : Hd H d) (ha : adj c d) : Cn H a d := ⟨h.1, fun P h0 hs => hs c d (h.2 P h0 hs) h1 ha⟩
theorem cn_hd (h : Cn H a b) : Hd H b := h.2 (Hd H) h.1 (fun _ _ _ h _ => h)
theorem cn_trans (h : Cn H a b) (k : Cn H b c) : Cn H a c := ⟨h.1, fun P h0 hs => k.2 P (h.2 P h0 hs) hs⟩
theorem cn_sym (h : Cn H a b) : Cn H b a :=
  (h.2 (fun x => Hd H x ∧ Cn H x a) ⟨h.1, cn_refl h.1⟩ (fun c d hc h1 ha => ⟨h1, cn_trans (cn_step (cn_refl h1) hc.1 (adj_sym ha)) hc.2⟩)).2
/-- the first cell of an island -/
def Sta (H : Nat → Bool) (k : Nat) : Prop := Hd H k ∧ ∀ j, j < k → ¬ Cn H j k
theorem sta_ex : ∀ k, Hd H k → ∃ r, Sta H r ∧ Cn H r k ∧ r ≤ k := by
  intro k
  induction k using Nat.strongRecOn with
  | ind k ih =>
    intro h
    by_cases hs : Sta H k
    · exact ⟨k, hs, cn_refl h, Nat.le_refl k⟩
    · have h1 : ∃ j, j < k ∧ Cn H j k := Classical.byContradiction fun q => hs ⟨h, fun j hj hc => q ⟨j, hj, hc⟩⟩
      obtain ⟨j, hj, hc⟩ := h1
      obtain ⟨r, h2, h3, h4⟩ := ih j hj hc.1
      exact ⟨r, h2, cn_trans h3 hc, by omega⟩
theorem sta_uni {r1 : Nat} (h : Sta H r) (h1 : Sta H r1) (hk : Cn H r k) (hk1 : Cn H r1 k) : r = r1 := by
  rcases Nat.lt_trichotomy r r1 with q | q | q
  · exact absurd (cn_trans hk (cn_sym hk1)) (h1.2 r q)
  · exact q
  · exact absurd (cn_trans hk1 (cn_sym hk)) (h.2 r1 q)
noncomputable def ind (p : Prop) : Nat := @ite Nat p (Classical.propDecidable p) 1 0
theorem ind_t {p : Prop} (h : p) : ind p = 1 := by unfold ind; rw [if_pos h]
theorem ind_f {p : Prop} (h : ¬ p) : ind p = 0 := by unfold ind; rw [if_neg h]
theorem ind_le {p : Prop} : ind p ≤ 1 := by by_cases h : p; rw [ind_t h]; exact Nat.le_refl 1; rw [ind_f h]; exact Nat.zero_le 1
/-- how many islands begin below n -/
noncomputable def ns (H : Nat → Bool) (n : Nat) : Nat := sm (fun k => ind (Sta H k)) n
theorem ns_s1 (h : Sta H n) : ns H (n + 1) = ns H n + 1 := by show sm _ n + ind (Sta H n) = _; rw [ind_t h]; rfl
theorem ns_s0 (h : ¬ Sta H n) : ns H (n + 1) = ns H n := by show sm _ n + ind (Sta H n) = _; rw [ind_f h]; rfl
theorem ns_le : ∀ n, ns H n ≤ n := fun n => by have := sm_le (f := fun k => ind (Sta H k)) (c := 1) (fun _ => ind_le) n; unfold ns; omega
theorem ns_mono : ∀ k, ns H n ≤ ns H (n + k) := by
  intro k
  induction k with
  | zero => exact Nat.le_refl _
  | succ k ih => exact Nat.le_trans ih (Nat.le_add_right _ _)
/-- the number of a cell's island, when those below n are numbered; 0 for none -/
noncomputable def fmi (H : Nat → Bool) (n k : Nat) : Nat := sm (fun r => ind (Sta H r ∧ Cn H r k) * ns H (r + 1)) n
theorem fmi_s1 (h : Sta H n) (hc : Cn H n k) : fmi H (n + 1) k = fmi H n k + ns H (n + 1) := by show sm _ n + ind _ * _ = _; rw [ind_t ⟨h, hc⟩, Nat.one_mul]; rfl
theorem fmi_s0 (h : ¬ (Sta H n ∧ Cn H n k)) : fmi H (n + 1) k = fmi H n k := by show sm _ n + ind _ * _ = _; rw [ind_f h, Nat.zero_mul]; rfl
theorem fmi_0 : ∀ n, (∀ r, r < n → ¬ (Sta H r ∧ Cn H r k)) → fmi H n k = 0 := by
  intro n
  induction n with
  | zero => intro _; rfl
  | succ n ih => intro h; rw [fmi_s0 (h n (by omega))]; exact ih fun r hr => h r (by omega)
theorem fmi_pos : ∀ n, (∃ r, r < n ∧ Sta H r ∧ Cn H r k) → 0 < fmi H n k := by
  intro n
  induction n with
  | zero => rintro ⟨r, hr, -⟩; omega
  | succ n ih =>
    rintro ⟨r, hr, h1, h2⟩
    by_cases e : r = n
    · subst e
      rw [fmi_s1 h1 h2, ns_s1 h1]; omega
    · have h3 := ih ⟨r, by omega, h1, h2⟩
      exact Nat.lt_of_lt_of_le h3 (Nat.le_add_right _ _)
theorem fmi_new (h : Sta H n) (hc : Cn H n k) : fmi H n k = 0 := fmi_0 n fun r hr q => h.2 r hr (cn_trans q.2 (cn_sym hc))
theorem fmi_sta (h : Hd H i) : fmi H i i = 0 ↔ Sta H i := by
  constructor
  · intro h0
    obtain ⟨r, h1, h2, h3⟩ := sta_ex i h
    by_cases e : r = i
    · rw [← e]; exact h1
    · have := fmi_pos i ⟨r, by omega, h1, h2⟩; omega
  · intro hs
    exact fmi_new hs (cn_refl h)
theorem fmi_le : ∀ n, fmi H n k ≤ ns H n := by
  intro n
  induction n with
  | zero => exact Nat.le_refl 0
  | succ n ih =>
    by_cases h : Sta H n ∧ Cn H n k
    · rw [fmi_s1 h.1 h.2, fmi_new h.1 h.2]; omega
    · rw [fmi_s0 h]; exact Nat.le_trans ih (ns_mono 1)
theorem fmi_no (h : ¬ Hd H k) : ∀ n, fmi H n k = 0 := fun n => fmi_0 n fun r _ q => h (cn_hd q.2)
/-- the numbers told before stay -/
theorem fmi_stay (h1 : 0 < m) (h2 : m ≤ ns H n) : fmi H (n + 1) k = m ↔ fmi H n k = m := by
  by_cases h : Sta H n ∧ Cn H n k
  · rw [fmi_s1 h.1 h.2, fmi_new h.1 h.2, ns_s1 h.1]; omega
  · rw [fmi_s0 h]
theorem fmi_stays (h1 : 0 < m) (h2 : m ≤ ns H n) : ∀ j, fmi H (n + j) k = m ↔ fmi H n k = m := by
  intro j
  induction j with
  | zero => exact Iff.rfl
  | succ j ih => rw [← ih]; exact fmi_stay h1 (Nat.le_trans h2 (ns_mono j))
end CN
/-! sums -/
theorem sm_up {f g : Nat → Nat} {c : Nat} (h0 : f c = 0) (h1 : g c = 1) (he : ∀ k, k ≠ c → g k = f k) : ∀ n, c < n → sm g n = sm f n + 1 := by
  intro n
  induction n with
  | zero => intro h; omega
  | succ n ih =>
    intro h
    show sm g n + g n = sm f n + f n + 1
    by_cases e : c = n
    · subst e
      rw [h0, h1, sm_congr c fun k hk => he k (by omega)]
    · rw [ih (by omega), he n (fun q => e q.symm)]; omega
theorem sm_lt {f : Nat → Nat} {c : Nat} (h : ∀ k, f k ≤ 1) (h0 : f c = 0) : ∀ n, c < n → sm f n < n := by
  intro n
  induction n with
  | zero => intro h; omega
  | succ n ih =>
    intro hc
    show sm f n + f n < n + 1
    by_cases e : c = n
    · subst e
      have := sm_le h c
      rw [h0]; omega
    · have := ih (by omega); have := h n; omega
theorem sm_add (f g : Nat → Nat) : ∀ n, sm (fun k => f k + g k) n = sm f n + sm g n := by
  intro n
  induction n with
  | zero => rfl
  | succ n ih => show sm _ n + (f n + g n) = sm f n + f n + (sm g n + g n); rw [ih]; omega
theorem sm_0 {f : Nat → Nat} : ∀ n, (∀ k, k < n → f k = 0) → sm f n = 0 := by
  intro n
  induction n with
  | zero => intro _; rfl
  | succ n ih => intro h; show sm f n + f n = 0; rw [ih fun k hk => h k (by omega), h n (by omega)]
theorem sm_one {f : Nat → Nat} {c : Nat} (h1 : f c = 1) (he : ∀ k, k ≠ c → f k = 0) {n : Nat} (hc : c < n) : sm f n = 1 := by
  have := sm_up (f := fun _ => 0) (g := f) rfl h1 he n hc
  rw [this, sm_0 n fun _ _ => rfl]
theorem sm_swap (F : Nat → Nat → Nat) (m : Nat) : ∀ n, sm (fun k => sm (F k) m) n = sm (fun r => sm (fun k => F k r) n) m := by
  intro n
  induction n with
  | zero => exact (sm_0 m fun _ _ => rfl).symm
  | succ n ih =>
    show sm _ n + sm (F n) m = _
    rw [ih, ← sm_add]
    exact sm_congr m fun r _ => rfl
/-! a spreading from i: marks g, the queue q of length n, the next x -/
def mkd (g : Nat → Nat) (m : Nat) : Nat → Nat := fun k => if g k = m then 1 else 0
theorem mkd_le {g : Nat → Nat} {m k : Nat} : mkd g m k ≤ 1 := by unfold mkd; split <;> omega
def SP (H : Nat → Bool) (i m : Nat) (f g q : Nat → Nat) (n x : Nat) : Prop := (∀ j, j < n → Cn H i (q j) ∧ g (q j) = m) ∧ (∀ k, k < 64 → g k = m → ∃ j, j < n ∧ q j = k) ∧ (∀ k, k < 64 → g k ≠ m → g k = f k) ∧ n = sm (mkd g m) 64 ∧ (∀ j, j < x → ∀ d, Hd H d → adj (q j) d → g d = m) ∧ g i = m ∧ x ≤ n
section SPS
variable {H : Nat → Bool} {c i m n x : Nat} {f g q : Nat → Nat}
theorem SP.room (h : SP H i m f g q n x) (hc : c < 64) (h0 : g c ≠ m) : n < 64 := by
  rw [h.2.2.2.1]; exact sm_lt (f := mkd g m) (c := c) (fun _ => mkd_le) (if_neg h0) 64 hc
theorem SP.len (h : SP H i m f g q n x) : n ≤ 64 := by
  rw [h.2.2.2.1]; have := sm_le (f := mkd g m) (c := 1) (fun _ => mkd_le) 64; omega
theorem SP.push (h : SP H i m f g q n x) (hc : Hd H c) (hcn : Cn H i c) (h0 : g c ≠ m) : SP H i m f (up g c m) (up q n c) (n + 1) x := by
  obtain ⟨h1, h2, h3, h4, h5, h6, h7⟩ := h
  refine ⟨fun j hj => ?_, fun k hk hg => ?_, fun k hk hg => ?_, ?_, fun j hj d hd ha => ?_, ?_, by omega⟩
  · by_cases e : j = n
    · subst e
      have e1 : up q j c j = c := if_pos rfl
      rw [e1]; exact ⟨hcn, if_pos rfl⟩
    · have e1 : up q n c j = q j := if_neg e
      rw [e1]
      have h9 := h1 j (by omega)
      refine ⟨h9.1, ?_⟩
      show (if q j = c then m else g (q j)) = m
      split
      · rfl
      · exact h9.2
  · by_cases e : k = c
    · exact ⟨n, by omega, by rw [e]; exact if_pos rfl⟩
    · have e1 : up g c m k = g k := if_neg e
      obtain ⟨j, hj, hq⟩ := h2 k hk (e1 ▸ hg)
      exact ⟨j, by omega, by rw [← hq]; exact if_neg (by omega)⟩
  · have e : k ≠ c := fun z => hg (by rw [z]; exact if_pos rfl)
    have e1 : up g c m k = g k := if_neg e
    rw [e1] at hg ⊢
    exact h3 k hk hg
  · rw [h4]
    refine (sm_up (c := c) (if_neg h0) ?_ (fun k hk => ?_) 64 hc.1).symm
    · show (if up g c m c = m then 1 else 0) = 1
      exact if_pos (if_pos rfl)
    · show (if up g c m k = m then 1 else 0) = (if g k = m then 1 else 0)
      rw [show up g c m k = g k from if_neg hk]
  · have e1 : up q n c j = q j := if_neg (by omega)
    rw [e1] at ha
    show (if d = c then m else g d) = m
    split
    · rfl
    · exact h5 j hj d hd ha
  · show (if i = c then m else g i) = m
    split
    · rfl
    · exact h6
theorem SP.init (hi : Hd H i) (hf : ∀ k, k < 64 → f k ≠ m) (hq : q 0 = i) : SP H i m f (up f i m) q 1 0 := by
  refine ⟨fun j hj => ?_, fun k hk hg => ?_, fun k hk hg => ?_, ?_, fun j hj => by omega, if_pos rfl, by omega⟩
  · obtain rfl : j = 0 := by omega
    rw [hq]; exact ⟨cn_refl hi, if_pos rfl⟩
  · by_cases e : k = i
    · exact ⟨0, by omega, by rw [hq, e]⟩
    · exact absurd ((if_neg e).symm.trans hg) (hf k hk)
  · exact if_neg fun z => hg (by rw [z]; exact if_pos rfl)
  · refine (sm_one (f := fun k => if k = i then 1 else 0) (c := i) (if_pos rfl) (fun k hk => if_neg hk) hi.1).symm.trans (sm_congr 64 fun k hk => ?_)
    show (if k = i then 1 else 0) = if up f i m k = m then 1 else 0
    by_cases e : k = i
    · rw [if_pos e, if_pos (show up f i m k = m from if_pos e)]
    · rw [if_neg e, if_neg (show ¬ up f i m k = m from fun z => hf k hk ((if_neg e).symm.trans z))]
theorem SP.next (h : SP H i m f g q n x) (hx : x < n) (ha : ∀ d, Hd H d → adj (q x) d → g d = m) : SP H i m f g q n (x + 1) :=
  ⟨h.1, h.2.1, h.2.2.1, h.2.2.2.1, fun j hj d hd hj2 => by
    by_cases e : j = x
    · subst e; exact ha d hd hj2
    · exact h.2.2.2.2.1 j (by omega) d hd hj2, h.2.2.2.2.2.1, hx⟩
theorem SP.fin (h : SP H i m f g q n n) (k : Nat) (hk : k < 64) : (Cn H i k → g k = m) ∧ (¬ Cn H i k → g k = f k) := by
  obtain ⟨h1, h2, h3, h4, h5, h6, h7⟩ := h
  refine ⟨fun hc => ?_, fun hc => h3 k hk fun hg => ?_⟩
  · have := hc.2 (fun x => x < 64 ∧ g x = m) ⟨hc.1.1, h6⟩ (fun c d hc2 hd ha => ⟨hd.1, by
      obtain ⟨j, hj, hq⟩ := h2 c hc2.1 hc2.2
      exact h5 j hj d hd (by rw [hq]; exact ha)⟩)
    exact this.2
  · obtain ⟨j, hj, hq⟩ := h2 k hk hg
    exact hc (by rw [← hq]; exact (h1 j hj).1)
end SPS
/-- a search's step: the island of i is marked -/
theorem fmi_go {H : Nat → Bool} {i m k : Nat} {f g : Nat → Nat} (hs : Sta H i) (hm : m = ns H i + 1) (hf : f k = fmi H i k) (h : (Cn H i k → g k = m) ∧ (¬ Cn H i k → g k = f k)) : g k = fmi H (i + 1) k := by
  by_cases hc : Cn H i k
  · rw [h.1 hc, fmi_s1 hs hc, fmi_new hs hc, ns_s1 hs]; omega
  · rw [h.2 hc, hf, fmi_s0 fun q => hc q.2]
/-! a merging: labels g, each the number of its root and one -/
def MG (H : Nat → Bool) (g : Nat → Nat) (n : Nat) : Prop := (∀ k, k < 64 → ¬ Hd H k → g k = 0) ∧ (∀ k, Hd H k → 0 < g k ∧ g (g k - 1) = g k ∧ Cn H k (g k - 1)) ∧ n = sm (fun k => if g k = k + 1 then 1 else 0) 64
section MGS
variable {H : Nat → Bool} {i j k n : Nat} {g : Nat → Nat}
theorem MG.init : MG H (fun k => if H k = true then k + 1 else 0) (sm (fun k => if H k = true then 1 else 0) 64) := by
  refine ⟨fun k hk h => if_neg fun q => h ⟨hk, q⟩, fun k h => ?_, sm_congr 64 fun k _ => ?_⟩
  · have e : (fun k => if H k = true then k + 1 else 0) k = k + 1 := if_pos h.2
    rw [e]
    refine ⟨by omega, ?_, ?_⟩
    · show (if H (k + 1 - 1) = true then k + 1 - 1 + 1 else 0) = k + 1
      rw [show k + 1 - 1 = k by omega]; exact if_pos h.2
    · rw [show k + 1 - 1 = k by omega]; exact cn_refl h
  · show (if H k = true then 1 else 0) = if (if H k = true then k + 1 else 0) = k + 1 then 1 else 0
    by_cases e : H k = true
    · rw [if_pos e, if_pos (if_pos e)]
    · rw [if_neg e, if_neg (by rw [if_neg e]; omega)]
theorem MG.join (h : MG H g n) {a b : Nat} (ha : Hd H a) (hb : Hd H b) (hab : adj a b) (hne : g a ≠ g b) : 0 < n ∧ MG H (fun k => if g k = g b then g a else g k) (n - 1) := by
  obtain ⟨h1, h2, h3⟩ := h
  obtain ⟨a1, a2, a3⟩ := h2 a ha
  obtain ⟨b1, b2, b3⟩ := h2 b hb
  have hs : sm (fun k => if g k = k + 1 then 1 else 0) 64 = sm (fun k => if (if g k = g b then g a else g k) = k + 1 then 1 else 0) 64 + 1 := by
    refine sm_up (c := g b - 1) ?_ ?_ (fun k hk => ?_) 64 (cn_hd b3).1
    · show (if (if g (g b - 1) = g b then g a else g (g b - 1)) = g b - 1 + 1 then 1 else 0) = 0
      rw [if_pos b2]; exact if_neg (by omega)
    · show (if g (g b - 1) = g b - 1 + 1 then 1 else 0) = 1
      rw [b2]; exact if_pos (by omega)
    · show (if g k = k + 1 then 1 else 0) = if (if g k = g b then g a else g k) = k + 1 then 1 else 0
      by_cases e : g k = g b
      · rw [if_pos e, if_neg (by omega), if_neg]
        intro q
        apply hne
        have e2 : k = g a - 1 := by omega
        rw [e2, a2] at e
        exact e
      · rw [if_neg e]
  have hn : n - 1 = sm (fun k => if (if g k = g b then g a else g k) = k + 1 then 1 else 0) 64 := by rw [h3, hs]; omega
  refine ⟨by rw [h3, hs]; omega, fun k hk hq => ?_, fun k hq => ?_, hn⟩
  · show (if g k = g b then g a else g k) = 0
    rw [if_neg (by rw [h1 k hk hq]; omega)]; exact h1 k hk hq
  · obtain ⟨k1, k2, k3⟩ := h2 k hq
    by_cases e : g k = g b
    · have e1 : (fun k => if g k = g b then g a else g k) k = g a := if_pos e
      rw [e1]
      refine ⟨a1, ?_, ?_⟩
      · show (if g (g a - 1) = g b then g a else g (g a - 1)) = g a
        rw [if_neg (by rw [a2]; exact hne)]; exact a2
      · rw [e] at k3
        exact cn_trans k3 (cn_trans (cn_sym b3) (cn_trans (cn_step (cn_refl hb) ha (adj_sym hab)) a3))
    · have e1 : (fun k => if g k = g b then g a else g k) k = g k := if_neg e
      rw [e1]
      refine ⟨k1, ?_, k3⟩
      show (if g (g k - 1) = g b then g a else g (g k - 1)) = g k
      rw [if_neg (by rw [k2]; exact e)]; exact k2
/-- where all neighbours have one label there are as many roots as islands -/
theorem MG.fin (h : MG H g n) (ha : ∀ a b, Hd H a → Hd H b → adj a b → g a = g b) : n = ns H 64 := by
  obtain ⟨h1, h2, h3⟩ := h
  have hc : ∀ a b, Cn H a b → g a = g b := fun a b q => (q.2 (fun x => Hd H x ∧ g a = g x) ⟨q.1, rfl⟩ (fun c d hc hd hcd => ⟨hd, hc.2.trans (ha c d hc.1 hd hcd)⟩)).2
  have rt : ∀ k, k < 64 → g k = k + 1 → Hd H k := fun k hk e => Classical.byContradiction fun q => by rw [h1 k hk q] at e; omega
  have e1 : sm (fun k => if g k = k + 1 then 1 else 0) 64 = sm (fun k => sm (fun r => ind ((g k = k + 1 ∧ k < 64) ∧ Sta H r ∧ Cn H r k)) 64) 64 := sm_congr 64 fun k hk => by
    by_cases e : g k = k + 1
    · rw [if_pos e]
      obtain ⟨r, r1, r2, r3⟩ := sta_ex k (rt k hk e)
      exact (sm_one (c := r) (ind_t ⟨⟨e, hk⟩, r1, r2⟩) (fun r9 hr => ind_f fun q => hr (sta_uni q.2.1 r1 q.2.2 r2)) (by omega)).symm
    · rw [if_neg e]
      exact (sm_0 64 fun r _ => ind_f fun q => e q.1.1).symm
  rw [h3, e1, sm_swap]
  refine sm_congr 64 fun r hr => ?_
  by_cases hs : Sta H r
  · rw [ind_t hs]
    obtain ⟨r1, r2, r3⟩ := h2 r hs.1
    refine sm_one (c := g r - 1) (ind_t ⟨⟨by omega, (cn_hd r3).1⟩, hs, r3⟩) (fun k hk => ind_f fun q => hk ?_) (cn_hd r3).1
    have := hc r k q.2.2
    omega
  · rw [ind_f hs]
    exact sm_0 64 fun k _ => ind_f fun q => hs q.2.1
/-- each held cell is in just one island of the numbers 1 to ns -/
theorem isl_sum (H : Nat → Bool) : sm (fun m => sm (mkd (fmi H 64) (m + 1)) 64) (ns H 64) = sm (fun k => if H k = true then 1 else 0) 64 := by
  rw [sm_swap (fun m k => mkd (fmi H 64) (m + 1) k)]
  refine sm_congr 64 fun k hk => ?_
  by_cases e : H k = true
  · rw [if_pos e]
    obtain ⟨r, r1, r2, r3⟩ := sta_ex k ⟨hk, e⟩
    have hp := fmi_pos 64 ⟨r, by omega, r1, r2⟩
    have hl := fmi_le (H := H) (k := k) 64
    refine sm_one (c := fmi H 64 k - 1) ?_ (fun m hm => ?_) (by omega)
    · show (if fmi H 64 k = fmi H 64 k - 1 + 1 then 1 else 0) = 1
      exact if_pos (by omega)
    · show (if fmi H 64 k = m + 1 then 1 else 0) = 0
      exact if_neg (by omega)
  · rw [if_neg e]
    refine sm_0 _ fun m _ => ?_
    show (if fmi H 64 k = m + 1 then 1 else 0) = 0
    rw [fmi_no (fun q => e q.2) 64]
    exact if_neg (by omega)
end MGS
end ISLES
