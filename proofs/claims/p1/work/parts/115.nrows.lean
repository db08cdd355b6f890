/-! MORE ROWS: numbers nI, the small ones. Printed by wip/whole/gen/mk115.py. -/
section NROWS
variable {ph : Nat} {M : kM} {d mc ms : Nat} {Po : Out → Wd → Prop} {X : kG → State → Prop} {kc ks pc : Nat} {L : List (Option Value)} {st : List Value} {w : Wd}
theorem V_idiv {x y : Int32} (hd : decode (mC M) pc = .ok (.idiv, 1)) (hne : ¬ y = 0) (k : V ph M d mc ms Po X kc ks (pc + 1) L (.int (x / y) :: st) w) : V ph M d mc ms Po X kc ks pc L (.int y :: .int x :: st) w :=
  fun p l e R s m args below meth c G F H locs ls cells slots hR hS hl h1 h2 => lv_idiv F.1 F.2.1 hd hne (k p l e R s m args below meth c G F H locs ls cells slots hR hS hl h1 h2)
theorem V_irem {x y : Int32} (hd : decode (mC M) pc = .ok (.irem, 1)) (hne : ¬ y = 0) (k : V ph M d mc ms Po X kc ks (pc + 1) L (.int (x - x / y * y) :: st) w) : V ph M d mc ms Po X kc ks pc L (.int y :: .int x :: st) w :=
  fun p l e R s m args below meth c G F H locs ls cells slots hR hS hl h1 h2 => lv_irem F.1 F.2.1 hd hne (k p l e R s m args below meth c G F H locs ls cells slots hR hS hl h1 h2)
theorem V_ishr {x y : Int32} (hd : decode (mC M) pc = .ok (.ishr, 1)) (k : V ph M d mc ms Po X kc ks (pc + 1) L (.int (x >>> (y &&& 31)) :: st) w) : V ph M d mc ms Po X kc ks pc L (.int y :: .int x :: st) w :=
  fun p l e R s m args below meth c G F H locs ls cells slots hR hS hl h1 h2 => lv_ishr F.1 F.2.1 hd (k p l e R s m args below meth c G F H locs ls cells slots hR hS hl h1 h2)
theorem V_i2l {x : Int32} (hd : decode (mC M) pc = .ok (.i2l, 1)) (k : V ph M d mc ms Po X kc ks (pc + 1) L (.long x.toInt64 :: st) w) : V ph M d mc ms Po X kc ks pc L (.int x :: st) w :=
  fun p l e R s m args below meth c G F H locs ls cells slots hR hS hl h1 h2 => lv_i2l F.1 F.2.1 hd rfl (k p l e R s m args below meth c G F H locs ls cells slots hR hS hl h1 h2)
theorem V_i2c {x : Int32} (hd : decode (mC M) pc = .ok (.i2c, 1)) (k : V ph M d mc ms Po X kc ks (pc + 1) L (.int (nI (x.toBitVec.toNat % 65536)) :: st) w) : V ph M d mc ms Po X kc ks pc L (.int x :: st) w :=
  fun p l e R s m args below meth c G F H locs ls cells slots hR hS hl h1 h2 => lv_i2c F.1 F.2.1 hd (pk_char x) (k p l e R s m args below meth c G F H locs ls cells slots hR hS hl h1 h2)
theorem V_dup {v : Value} (hd : decode (mC M) pc = .ok (.dup, 1)) (hv : v.category = 1) (k : V ph M d mc ms Po X kc ks (pc + 1) L (v :: v :: st) w) : V ph M d mc ms Po X kc ks pc L (v :: st) w :=
  fun p l e R s m args below meth c G F H locs ls cells slots hR hS hl h1 h2 => lv_dup F.1 F.2.1 hd (by rw [rv_cat]; exact hv) (k p l e R s m args below meth c G F H locs ls cells slots hR hS hl h1 h2)
theorem V_pop {v : Value} (hd : decode (mC M) pc = .ok (.pop, 1)) (hv : v.category = 1) (k : V ph M d mc ms Po X kc ks (pc + 1) L st w) : V ph M d mc ms Po X kc ks pc L (v :: st) w :=
  fun p l e R s m args below meth c G F H locs ls cells slots hR hS hl h1 h2 => lv_pop F.1 F.2.1 hd (by rw [rv_cat]; exact hv) (k p l e R s m args below meth c G F H locs ls cells slots hR hS hl h1 h2)
theorem V_dup2 {v u : Value} (hd : decode (mC M) pc = .ok (.dup2, 1)) (hv : v.category = 1) (hu : u.category = 1) (k : V ph M d mc ms Po X kc ks (pc + 1) L (v :: u :: v :: u :: st) w) : V ph M d mc ms Po X kc ks pc L (v :: u :: st) w :=
  fun p l e R s m args below meth c G F H locs ls cells slots hR hS hl h1 h2 => lv_dup2_11 F.1 F.2.1 hd (by rw [rv_cat]; exact hv) (by rw [rv_cat]; exact hu) (k p l e R s m args below meth c G F H locs ls cells slots hR hS hl h1 h2)
theorem V_i2d {x : Int32} (hd : decode (mC M) pc = .ok (.i2d, 1)) (k : V ph M d mc ms Po X kc ks (pc + 1) L (.double (FP.i2d x) :: st) w) : V ph M d mc ms Po X kc ks pc L (.int x :: st) w :=
  fun p l e R s m args below meth c G F H locs ls cells slots hR hS hl h1 h2 => lv_i2d F.1 F.2.1 hd (k p l e R s m args below meth c G F H locs ls cells slots hR hS hl h1 h2)
theorem V_i2f {x : Int32} (hd : decode (mC M) pc = .ok (.i2f, 1)) (k : V ph M d mc ms Po X kc ks (pc + 1) L (.float (FP.i2f x) :: st) w) : V ph M d mc ms Po X kc ks pc L (.int x :: st) w :=
  fun p l e R s m args below meth c G F H locs ls cells slots hR hS hl h1 h2 => lv_i2f F.1 F.2.1 hd (k p l e R s m args below meth c G F H locs ls cells slots hR hS hl h1 h2)
theorem V_ddiv {x y : UInt64} (hd : decode (mC M) pc = .ok (.ddiv, 1)) (hne : vf_n64 (FP.ddiv x y)) (k : V ph M d mc ms Po X kc ks (pc + 1) L (.double (FP.ddiv x y) :: st) w) : V ph M d mc ms Po X kc ks pc L (.double y :: .double x :: st) w :=
  fun p l e R s m args below meth c G F H locs ls cells slots hR hS hl h1 h2 => lv_ddiv F.1 F.2.1 hd hne (k p l e R s m args below meth c G F H locs ls cells slots hR hS hl h1 h2)
theorem V_fdiv {x y : UInt32} (hd : decode (mC M) pc = .ok (.fdiv, 1)) (hne : vf_n32 (FP.fdiv x y)) (k : V ph M d mc ms Po X kc ks (pc + 1) L (.float (FP.fdiv x y) :: st) w) : V ph M d mc ms Po X kc ks pc L (.float y :: .float x :: st) w :=
  fun p l e R s m args below meth c G F H locs ls cells slots hR hS hl h1 h2 => lv_fdiv F.1 F.2.1 hd hne (k p l e R s m args below meth c G F H locs ls cells slots hR hS hl h1 h2)
theorem V_f2d {x : UInt32} (hd : decode (mC M) pc = .ok (.f2d, 1)) (hne : vf_n64 (FP.f2d x)) (k : V ph M d mc ms Po X kc ks (pc + 1) L (.double (FP.f2d x) :: st) w) : V ph M d mc ms Po X kc ks pc L (.float x :: st) w :=
  fun p l e R s m args below meth c G F H locs ls cells slots hR hS hl h1 h2 => lv_f2d F.1 F.2.1 hd hne (k p l e R s m args below meth c G F H locs ls cells slots hR hS hl h1 h2)
theorem V_dcmp {x y : UInt64} {op : CmpOp} (hd : decode (mC M) pc = .ok (.dcmp op, 1)) (k : V ph M d mc ms Po X kc ks (pc + 1) L (.int (Op.cmpValue (FP.dcmp x y) op) :: st) w) : V ph M d mc ms Po X kc ks pc L (.double y :: .double x :: st) w :=
  fun p l e R s m args below meth c G F H locs ls cells slots hR hS hl h1 h2 => lv_dcmp F.1 F.2.1 hd (k p l e R s m args below meth c G F H locs ls cells slots hR hS hl h1 h2)
theorem V_fcmp {x y : UInt32} {op : CmpOp} (hd : decode (mC M) pc = .ok (.fcmp op, 1)) (k : V ph M d mc ms Po X kc ks (pc + 1) L (.int (Op.cmpValue (FP.fcmp x y) op) :: st) w) : V ph M d mc ms Po X kc ks pc L (.float y :: .float x :: st) w :=
  fun p l e R s m args below meth c G F H locs ls cells slots hR hS hl h1 h2 => lv_fcmp F.1 F.2.1 hd (k p l e R s m args below meth c G F H locs ls cells slots hR hS hl h1 h2)
theorem V_null  (hd : decode (mC M) pc = .ok (.aconst_null, 1)) (k : V ph M d mc ms Po X kc ks (pc + 1) L (.null :: st) w) : V ph M d mc ms Po X kc ks pc L st w :=
  fun p l e R s m args below meth c G F H locs ls cells slots hR hS hl h1 h2 => lv_null F.1 F.2.1 hd (k p l e R s m args below meth c G F H locs ls cells slots hR hS hl h1 h2)
theorem V_fconst0  (hd : decode (mC M) pc = .ok (.fconst 0, 1)) (k : V ph M d mc ms Po X kc ks (pc + 1) L (.float FP.fconst0 :: st) w) : V ph M d mc ms Po X kc ks pc L st w :=
  fun p l e R s m args below meth c G F H locs ls cells slots hR hS hl h1 h2 => lv_fconst0 F.1 F.2.1 hd (k p l e R s m args below meth c G F H locs ls cells slots hR hS hl h1 h2)
theorem V_dconst0  (hd : decode (mC M) pc = .ok (.dconst 0, 1)) (k : V ph M d mc ms Po X kc ks (pc + 1) L (.double FP.dconst0 :: st) w) : V ph M d mc ms Po X kc ks pc L st w :=
  fun p l e R s m args below meth c G F H locs ls cells slots hR hS hl h1 h2 => lv_dconst0 F.1 F.2.1 hd (k p l e R s m args below meth c G F H locs ls cells slots hR hS hl h1 h2)
theorem V_lcmp {x y : Int64} (hd : decode (mC M) pc = .ok (.lcmp, 1)) (k : V ph M d mc ms Po X kc ks (pc + 1) L (.int (lg_cmp x y) :: st) w) : V ph M d mc ms Po X kc ks pc L (.long y :: .long x :: st) w :=
  fun p l e R s m args below meth c G F H locs ls cells slots hR hS hl h1 h2 => W.lcmp F.1 F.2.1 hd (k p l e R s m args below meth c G F H locs ls cells slots hR hS hl h1 h2)
theorem V_ldc2 {idx : Nat} {v : Int64} (hd : decode (mC M) pc = .ok (.ldc2_w idx, 3)) (hw : Cond.constantLong (mY M).cls idx v ∈ TG) (k : V ph M d mc ms Po X kc ks (pc + 3) L (.long v :: st) w) : V ph M d mc ms Po X kc ks pc L st w :=
  fun p l e R s m args below meth c G F H locs ls cells slots hR hS hl h1 h2 => lv_ldc2 F.1 F.2.1 F.2.2.2.1 (F.2.2.2.2.1 _ hw) hd (k p l e R s m args below meth c G F H locs ls cells slots hR hS hl h1 h2)
theorem V_ldc {idx : Nat} {v : Int32} (hd : decode (mC M) pc = .ok (.ldc idx, 2)) (hw : Cond.constant (mY M).cls idx v ∈ TG) (k : V ph M d mc ms Po X kc ks (pc + 2) L (.int v :: st) w) : V ph M d mc ms Po X kc ks pc L st w :=
  fun p l e R s m args below meth c G F H locs ls cells slots hR hS hl h1 h2 => lv_ldc F.1 F.2.1 F.2.2.2.1 (F.2.2.2.2.1 _ hw) hd (k p l e R s m args below meth c G F H locs ls cells slots hR hS hl h1 h2)
theorem V_iconst_n {n : Int} {v : Nat} (hd : decode (mC M) pc = .ok (.iconst n, 1)) (hv : Int32.ofInt n = nI v) (k : V ph M d mc ms Po X kc ks (pc + 1) L (.int (nI v) :: st) w) : V ph M d mc ms Po X kc ks pc L st w := V_iconst hd hv k
theorem V_bipush_n {n : Int} {v : Nat} (hd : decode (mC M) pc = .ok (.bipush n, 2)) (hv : (Int8.ofInt n).toInt32 = nI v) (k : V ph M d mc ms Po X kc ks (pc + 2) L (.int (nI v) :: st) w) : V ph M d mc ms Po X kc ks pc L st w := V_bipush hd hv k
theorem V_sipush_n {n : Int} {v : Nat} (hd : decode (mC M) pc = .ok (.sipush n, 3)) (hv : (Int16.ofInt n).toInt32 = nI v) (k : V ph M d mc ms Po X kc ks (pc + 3) L (.int (nI v) :: st) w) : V ph M d mc ms Po X kc ks pc L st w := V_sipush hd hv k
theorem V_iadd_n {a b : Nat} (hd : decode (mC M) pc = .ok (.iadd, 1)) (k : V ph M d mc ms Po X kc ks (pc + 1) L (.int (nI (a + b)) :: st) w) : V ph M d mc ms Po X kc ks pc L (.int (nI b) :: .int (nI a) :: st) w := V_iadd hd (by have e := (nI_add a b).symm; rw [e] at k; exact k)
theorem V_imul_n {a b : Nat} (hd : decode (mC M) pc = .ok (.imul, 1)) (k : V ph M d mc ms Po X kc ks (pc + 1) L (.int (nI (a * b)) :: st) w) : V ph M d mc ms Po X kc ks pc L (.int (nI b) :: .int (nI a) :: st) w := V_imul hd (by have e := (pk_mul a b).symm; rw [e] at k; exact k)
theorem V_isub_n {a b : Nat} (hd : decode (mC M) pc = .ok (.isub, 1)) (hle : b ≤ a) (k : V ph M d mc ms Po X kc ks (pc + 1) L (.int (nI (a - b)) :: st) w) : V ph M d mc ms Po X kc ks pc L (.int (nI b) :: .int (nI a) :: st) w := V_isub hd (by have e := (pk_sub hle).symm; rw [e] at k; exact k)
theorem V_idiv_n {a b : Nat} (hd : decode (mC M) pc = .ok (.idiv, 1)) (ha : a < 2 ^ 31) (h0 : 0 < b) (hb : b < 2 ^ 31) (k : V ph M d mc ms Po X kc ks (pc + 1) L (.int (nI (a / b)) :: st) w) : V ph M d mc ms Po X kc ks pc L (.int (nI b) :: .int (nI a) :: st) w := V_idiv hd (nI_ne0 h0 hb) (by rw [pk_div ha h0 hb]; exact k)
theorem V_irem_n {a b : Nat} (hd : decode (mC M) pc = .ok (.irem, 1)) (ha : a < 2 ^ 31) (h0 : 0 < b) (hb : b < 2 ^ 31) (k : V ph M d mc ms Po X kc ks (pc + 1) L (.int (nI (a % b)) :: st) w) : V ph M d mc ms Po X kc ks pc L (.int (nI b) :: .int (nI a) :: st) w := V_irem hd (nI_ne0 h0 hb) (by rw [pk_rem ha h0 hb]; exact k)
theorem V_i2c_n {a : Nat} (hd : decode (mC M) pc = .ok (.i2c, 1)) (ha : a < 65536) (k : V ph M d mc ms Po X kc ks (pc + 1) L (.int (nI a) :: st) w) : V ph M d mc ms Po X kc ks pc L (.int (nI a) :: st) w := V_i2c hd (by rw [pk_tn (by omega), Nat.mod_eq_of_lt ha]; exact k)
theorem V_i2l_n {a : Nat} (hd : decode (mC M) pc = .ok (.i2l, 1)) (ha : a < 2 ^ 31) (k : V ph M d mc ms Po X kc ks (pc + 1) L (.long (lN a) :: st) w) : V ph M d mc ms Po X kc ks pc L (.int (nI a) :: st) w := V_i2l hd (by rw [nI_l ha]; exact k)
theorem V_iinc_n {i a b : Nat} {n : Int} (hd : decode (mC M) pc = .ok (.iinc i n, 3)) (hL : L[i]? = some (some (.int (nI a)))) (hv : nI a + Int32.ofInt n = nI b) (hn : nod L i = true) (hlen : L.length = mN M) (k : V ph M d mc ms Po X kc ks (pc + 3) (L.set i (some (.int (nI b)))) st w) : V ph M d mc ms Po X kc ks pc L st w := V_iinc hd hL hv hn hlen k
theorem V_icmp_eq_n {a b : Nat} {off : Int} {tgt : Nat} (hd : decode (mC M) pc = .ok (.if_icmp .eq off, 3)) (ht : (pc : Int) + off = (tgt : Int)) (ha : a < 2 ^ 31) (hb : b < 2 ^ 31) (kt : a = b → V ph M d mc ms Po X kc ks tgt L st w) (kf : ¬ a = b → V ph M d mc ms Po X kc ks (pc + 3) L st w) : V ph M d mc ms Po X kc ks pc L (.int (nI b) :: .int (nI a) :: st) w := V_icmp_eq hd ht (fun h => kt ((nI_eq ha hb).mp h)) (fun h => kf (fun q => h ((nI_eq ha hb).mpr q)))
theorem V_icmp_ne_n {a b : Nat} {off : Int} {tgt : Nat} (hd : decode (mC M) pc = .ok (.if_icmp .ne off, 3)) (ht : (pc : Int) + off = (tgt : Int)) (ha : a < 2 ^ 31) (hb : b < 2 ^ 31) (kt : ¬ a = b → V ph M d mc ms Po X kc ks tgt L st w) (kf : a = b → V ph M d mc ms Po X kc ks (pc + 3) L st w) : V ph M d mc ms Po X kc ks pc L (.int (nI b) :: .int (nI a) :: st) w := V_icmp_ne hd ht (fun h => kt (fun q => h ((nI_eq ha hb).mpr q))) (fun h => kf ((nI_eq ha hb).mp h))
theorem V_icmp_lt_n {a b : Nat} {off : Int} {tgt : Nat} (hd : decode (mC M) pc = .ok (.if_icmp .lt off, 3)) (ht : (pc : Int) + off = (tgt : Int)) (ha : a < 2 ^ 31) (hb : b < 2 ^ 31) (kt : a < b → V ph M d mc ms Po X kc ks tgt L st w) (kf : b ≤ a → V ph M d mc ms Po X kc ks (pc + 3) L st w) : V ph M d mc ms Po X kc ks pc L (.int (nI b) :: .int (nI a) :: st) w := V_icmp_lt hd ht (fun h => kt ((nI_ltI ha hb).mp h)) (fun h => kf (Nat.not_lt.mp fun q => h ((nI_ltI ha hb).mpr q)))
theorem V_icmp_ge_n {a b : Nat} {off : Int} {tgt : Nat} (hd : decode (mC M) pc = .ok (.if_icmp .ge off, 3)) (ht : (pc : Int) + off = (tgt : Int)) (ha : a < 2 ^ 31) (hb : b < 2 ^ 31) (kt : b ≤ a → V ph M d mc ms Po X kc ks tgt L st w) (kf : a < b → V ph M d mc ms Po X kc ks (pc + 3) L st w) : V ph M d mc ms Po X kc ks pc L (.int (nI b) :: .int (nI a) :: st) w := V_icmp_ge hd ht (fun h => kt ((nI_leI hb ha).mp h)) (fun h => kf (Nat.not_le.mp fun q => h ((nI_leI hb ha).mpr q)))
theorem V_icmp_gt_n {a b : Nat} {off : Int} {tgt : Nat} (hd : decode (mC M) pc = .ok (.if_icmp .gt off, 3)) (ht : (pc : Int) + off = (tgt : Int)) (ha : a < 2 ^ 31) (hb : b < 2 ^ 31) (kt : b < a → V ph M d mc ms Po X kc ks tgt L st w) (kf : a ≤ b → V ph M d mc ms Po X kc ks (pc + 3) L st w) : V ph M d mc ms Po X kc ks pc L (.int (nI b) :: .int (nI a) :: st) w := V_icmp_gt hd ht (fun h => kt ((nI_ltI hb ha).mp h)) (fun h => kf (Nat.not_lt.mp fun q => h ((nI_ltI hb ha).mpr q)))
theorem V_icmp_le_n {a b : Nat} {off : Int} {tgt : Nat} (hd : decode (mC M) pc = .ok (.if_icmp .le off, 3)) (ht : (pc : Int) + off = (tgt : Int)) (ha : a < 2 ^ 31) (hb : b < 2 ^ 31) (kt : a ≤ b → V ph M d mc ms Po X kc ks tgt L st w) (kf : b < a → V ph M d mc ms Po X kc ks (pc + 3) L st w) : V ph M d mc ms Po X kc ks pc L (.int (nI b) :: .int (nI a) :: st) w := V_icmp_le hd ht (fun h => kt ((nI_leI ha hb).mp h)) (fun h => kf (Nat.not_le.mp fun q => h ((nI_leI ha hb).mpr q)))
theorem nI_z {a : Nat} (ha : a < 2 ^ 31) : nI a = 0 ↔ a = 0 := by rw [← nI_0]; exact nI_eq ha (by decide)
theorem V_if_eq_n {a : Nat} {off : Int} {tgt : Nat} (hd : decode (mC M) pc = .ok (.ifCond .eq off, 3)) (ht : (pc : Int) + off = (tgt : Int)) (ha : a < 2 ^ 31) (kt : a = 0 → V ph M d mc ms Po X kc ks tgt L st w) (kf : ¬ a = 0 → V ph M d mc ms Po X kc ks (pc + 3) L st w) : V ph M d mc ms Po X kc ks pc L (.int (nI a) :: st) w := V_if_eq hd ht (fun h => kt ((nI_z ha).mp h)) (fun h => kf (fun q => h ((nI_z ha).mpr q)))
theorem V_if_ne_n {a : Nat} {off : Int} {tgt : Nat} (hd : decode (mC M) pc = .ok (.ifCond .ne off, 3)) (ht : (pc : Int) + off = (tgt : Int)) (ha : a < 2 ^ 31) (kt : ¬ a = 0 → V ph M d mc ms Po X kc ks tgt L st w) (kf : a = 0 → V ph M d mc ms Po X kc ks (pc + 3) L st w) : V ph M d mc ms Po X kc ks pc L (.int (nI a) :: st) w := V_if_ne hd ht (fun h => kt (fun q => h ((nI_z ha).mpr q))) (fun h => kf ((nI_z ha).mp h))
theorem V_if_lt_n {a : Nat} {off : Int} {tgt : Nat} (hd : decode (mC M) pc = .ok (.ifCond .lt off, 3)) (ht : (pc : Int) + off = (tgt : Int)) (ha : a < 2 ^ 31) (kf : V ph M d mc ms Po X kc ks (pc + 3) L st w) : V ph M d mc ms Po X kc ks pc L (.int (nI a) :: st) w := V_if_lt hd ht (fun h => absurd h (nI_pos ha)) (fun _ => kf)
theorem V_if_ge_n {a : Nat} {off : Int} {tgt : Nat} (hd : decode (mC M) pc = .ok (.ifCond .ge off, 3)) (ht : (pc : Int) + off = (tgt : Int)) (ha : a < 2 ^ 31) (kt : V ph M d mc ms Po X kc ks tgt L st w) : V ph M d mc ms Po X kc ks pc L (.int (nI a) :: st) w := V_if_ge hd ht (fun _ => kt) (fun h => absurd (nI_pos' ha) h)
theorem V_if_gt_n {a : Nat} {off : Int} {tgt : Nat} (hd : decode (mC M) pc = .ok (.ifCond .gt off, 3)) (ht : (pc : Int) + off = (tgt : Int)) (ha : a < 2 ^ 31) (kt : 0 < a → V ph M d mc ms Po X kc ks tgt L st w) (kf : a = 0 → V ph M d mc ms Po X kc ks (pc + 3) L st w) : V ph M d mc ms Po X kc ks pc L (.int (nI a) :: st) w := V_if_gt hd ht (fun h => kt (Nat.pos_of_ne_zero fun q => by subst q; exact absurd h (by decide))) (fun h => kf (Nat.eq_zero_of_not_pos fun q => h (by rw [← nI_0]; exact nI_lt q ha)))
theorem V_if_le_n {a : Nat} {off : Int} {tgt : Nat} (hd : decode (mC M) pc = .ok (.ifCond .le off, 3)) (ht : (pc : Int) + off = (tgt : Int)) (ha : a < 2 ^ 31) (kt : a = 0 → V ph M d mc ms Po X kc ks tgt L st w) (kf : 0 < a → V ph M d mc ms Po X kc ks (pc + 3) L st w) : V ph M d mc ms Po X kc ks pc L (.int (nI a) :: st) w := V_if_le hd ht (fun h => kt (Nat.eq_zero_of_not_pos fun q => nI_nle q ha h)) (fun h => kf (Nat.pos_of_ne_zero fun q => by subst q; exact absurd (by decide) h))
theorem in_n {a n : Nat} (h : a < n) (hn : n < 2 ^ 31) : vp_in (nI a) n := vp_in_nI h hn
theorem V_iald_n {a n i : Nat} {kl : List Nat} (hd : decode (mC M) pc = .ok (.iaload, 1)) (ha : Mk ph w a) (hs : shp ph a = (1, n, kl)) (hi : i < n) (hn : n < 2 ^ 31)
    (kk : V ph M d mc ms Po X kc ks (pc + 1) L (.int (gI w a i) :: st) w) : V ph M d mc ms Po X kc ks pc L (.int (nI i) :: .ref a :: st) w := V_iald hd ha hs (in_n hi hn) (by rw [nI_clamp (by omega)]; exact kk)
theorem V_cald_n {a n i : Nat} {kl : List Nat} (hd : decode (mC M) pc = .ok (.caload, 1)) (ha : Mk ph w a) (hs : shp ph a = (2, n, kl)) (hi : i < n) (hn : n < 2 ^ 31)
    (kk : V ph M d mc ms Po X kc ks (pc + 1) L (.int (gI w a i) :: st) w) : V ph M d mc ms Po X kc ks pc L (.int (nI i) :: .ref a :: st) w := V_cald hd ha hs (in_n hi hn) (by rw [nI_clamp (by omega)]; exact kk)
theorem V_iast_n {a n i : Nat} {kl : List Nat} {z : Int32} (hd : decode (mC M) pc = .ok (.iastore, 1)) (ha : Mk ph w a) (hs : shp ph a = (1, n, kl)) (hi : i < n) (hn : n < 2 ^ 31)
    (kk : V ph M d mc ms Po X kc ks (pc + 1) L st (pI w a i z)) : V ph M d mc ms Po X kc ks pc L (.int z :: .int (nI i) :: .ref a :: st) w := V_iast hd ha hs (in_n hi hn) (by rw [nI_clamp (by omega)]; exact kk)
theorem V_cast_n {a n i : Nat} {kl : List Nat} {z : Int32} (hd : decode (mC M) pc = .ok (.castore, 1)) (ha : Mk ph w a) (hs : shp ph a = (2, n, kl)) (hi : i < n) (hn : n < 2 ^ 31) (hz : narrow .char (.int z) = .int z)
    (kk : V ph M d mc ms Po X kc ks (pc + 1) L st (pI w a i z)) : V ph M d mc ms Po X kc ks pc L (.int z :: .int (nI i) :: .ref a :: st) w := V_cast hd ha hs (in_n hi hn) hz (by rw [nI_clamp (by omega)]; exact kk)
theorem nar_char {k : Nat} (h : k < 65536) : narrow .char (.int (nI k)) = .int (nI k) := (pk_charN h).1
theorem nar_bool {k : Nat} (h : k < 2) : narrow .boolean (.int (nI k)) = .int (nI k) := by
  rcases (show k = 0 ∨ k = 1 by omega) with rfl | rfl <;> rfl
theorem fit_char {k : Nat} (h : k < 65536) : fits .char (.int (nI k)) = true := (pk_charN h).2
theorem fit_bool {k : Nat} (h : k < 2) : fits .boolean (.int (nI k)) = true := by
  rcases (show k = 0 ∨ k = 1 by omega) with rfl | rfl <;> rfl
/-- Math.max, Math.min -/
theorem V_max {idx a b : Nat} (hd : decode (mC M) pc = .ok (.invokestatic idx, 3)) (hw : Cond.methodLink (mY M).cls idx (mY MJ9_max_7cf53) ∈ TG) (ha : a < 2 ^ 31) (hb : b < 2 ^ 31) (hcat : (st.map fun v => v.category).sum ≤ 8) (hdd : 1 ≤ d ∧ 21 ≤ 200 * d) (k : V ph M d mc ms Po X kc ks (pc + 3) L (.int (nI (max a b)) :: st) w) : V ph M d mc ms Po X kc ks pc L (.int (nI b) :: .int (nI a) :: st) w := by
  intro p l e R s m args below meth c G F H locs ls cells slots hR hS hl h1 h2
  obtain ⟨hx, hb9, hml, hown, hts, -, -, -, -, -, ⟨hd1, hd2, hd3, hd4⟩, -⟩ := id F
  have ok := okJ9_max_7cf53
  refine va_mmax hx hb9 (by rw [hml, hl.1]) hown (hts _ hw) (hts _ ok.2) (hts _ ok.1.2.2.1) (hts _ ok.1.2.1) (by omega) (by have := cats_le (G := G) hcat; omega) (by omega) (by omega) hd ?_
  have e9 : (if nI a < nI b then nI b else nI a) = nI (max a b) := by
    by_cases h : a < b
    · rw [if_pos ((nI_ltI ha hb).mpr h), Nat.max_eq_right (by omega)]
    · rw [if_neg (fun q => h ((nI_ltI ha hb).mp q)), Nat.max_eq_left (by omega)]
  rw [e9]
  exact k p l e R s m args below meth c G F H locs ls cells slots hR hS hl h1 h2
theorem V_min {idx a b : Nat} (hd : decode (mC M) pc = .ok (.invokestatic idx, 3)) (hw : Cond.methodLink (mY M).cls idx (mY MJ9_min_7cf53) ∈ TG) (ha : a < 2 ^ 31) (hb : b < 2 ^ 31) (hcat : (st.map fun v => v.category).sum ≤ 8) (hdd : 1 ≤ d ∧ 21 ≤ 200 * d) (k : V ph M d mc ms Po X kc ks (pc + 3) L (.int (nI (min a b)) :: st) w) : V ph M d mc ms Po X kc ks pc L (.int (nI b) :: .int (nI a) :: st) w := by
  intro p l e R s m args below meth c G F H locs ls cells slots hR hS hl h1 h2
  obtain ⟨hx, hb9, hml, hown, hts, -, -, -, -, -, ⟨hd1, hd2, hd3, hd4⟩, -⟩ := id F
  have ok := okJ9_min_7cf53
  refine va_mmin hx hb9 (by rw [hml, hl.1]) hown (hts _ hw) (hts _ ok.2) (hts _ ok.1.2.2.1) (hts _ ok.1.2.1) (by omega) (by have := cats_le (G := G) hcat; omega) (by omega) (by omega) hd ?_
  have e9 : (if nI b < nI a then nI b else nI a) = nI (min a b) := by
    by_cases h : b < a
    · rw [if_pos ((nI_ltI hb ha).mpr h), Nat.min_eq_right (by omega)]
    · rw [if_neg (fun q => h ((nI_ltI hb ha).mp q)), Nat.min_eq_left (by omega)]
  rw [e9]
  exact k p l e R s m args below meth c G F H locs ls cells slots hR hS hl h1 h2
end NROWS
