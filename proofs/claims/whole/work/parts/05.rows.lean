/-! a row for each plain instruction -/
section ROWS
variable {M : MT} {Z : ZT} {pc n' : Nat} {ls ls' : List (Option Value)} {st : List Value} {mem : Mem}
theorem w_iconst {n : Int} {v : Int32} (hd : decode M.2.1 pc = .ok (.iconst n, 1)) (hn : pc + 1 = n') (hv : Int32.ofInt n = v) (k : Wm M Z n' ls (.int v :: st) mem) : Wm M Z pc ls (st) mem := by
  subst hn
  intro g p l e s m args below meth c H locs la C hP hS hl
  exact lv_iconst C.1 C.2.1 hd hv (k g p l e s m args below meth c H locs la C hP hS hl)
theorem w_bipush {n : Int} {v : Int32} (hd : decode M.2.1 pc = .ok (.bipush n, 2)) (hn : pc + 2 = n') (hv : (Int8.ofInt n).toInt32 = v) (k : Wm M Z n' ls (.int v :: st) mem) : Wm M Z pc ls (st) mem := by
  subst hn
  intro g p l e s m args below meth c H locs la C hP hS hl
  exact lv_bipush C.1 C.2.1 hd hv (k g p l e s m args below meth c H locs la C hP hS hl)
theorem w_sipush {n : Int} {v : Int32} (hd : decode M.2.1 pc = .ok (.sipush n, 3)) (hn : pc + 3 = n') (hv : (Int16.ofInt n).toInt32 = v) (k : Wm M Z n' ls (.int v :: st) mem) : Wm M Z pc ls (st) mem := by
  subst hn
  intro g p l e s m args below meth c H locs la C hP hS hl
  exact lv_sipush C.1 C.2.1 hd hv (k g p l e s m args below meth c H locs la C hP hS hl)
theorem w_lconst {n : Fin 2} {v : Int64} (hd : decode M.2.1 pc = .ok (.lconst n, 1)) (hn : pc + 1 = n') (hv : Int64.ofNat (n : Nat) = v) (k : Wm M Z n' ls (.long v :: st) mem) : Wm M Z pc ls (st) mem := by
  subst hn
  intro g p l e s m args below meth c H locs la C hP hS hl
  exact lv_lconst C.1 C.2.1 hd hv (k g p l e s m args below meth c H locs la C hP hS hl)
theorem w_iadd {x y : Int32} (hd : decode M.2.1 pc = .ok (.iadd, 1)) (hn : pc + 1 = n')  (k : Wm M Z n' ls (.int (x + y) :: st) mem) : Wm M Z pc ls (.int y :: .int x :: st) mem := by
  subst hn
  intro g p l e s m args below meth c H locs la C hP hS hl
  exact lv_iadd C.1 C.2.1 hd (k g p l e s m args below meth c H locs la C hP hS hl)
theorem w_isub {x y : Int32} (hd : decode M.2.1 pc = .ok (.isub, 1)) (hn : pc + 1 = n')  (k : Wm M Z n' ls (.int (x - y) :: st) mem) : Wm M Z pc ls (.int y :: .int x :: st) mem := by
  subst hn
  intro g p l e s m args below meth c H locs la C hP hS hl
  exact lv_isub C.1 C.2.1 hd (k g p l e s m args below meth c H locs la C hP hS hl)
theorem w_imul {x y : Int32} (hd : decode M.2.1 pc = .ok (.imul, 1)) (hn : pc + 1 = n')  (k : Wm M Z n' ls (.int (x * y) :: st) mem) : Wm M Z pc ls (.int y :: .int x :: st) mem := by
  subst hn
  intro g p l e s m args below meth c H locs la C hP hS hl
  exact lv_imul C.1 C.2.1 hd (k g p l e s m args below meth c H locs la C hP hS hl)
theorem w_iand {x y : Int32} (hd : decode M.2.1 pc = .ok (.iand, 1)) (hn : pc + 1 = n')  (k : Wm M Z n' ls (.int (x &&& y) :: st) mem) : Wm M Z pc ls (.int y :: .int x :: st) mem := by
  subst hn
  intro g p l e s m args below meth c H locs la C hP hS hl
  exact lv_iand C.1 C.2.1 hd (k g p l e s m args below meth c H locs la C hP hS hl)
theorem w_ior {x y : Int32} (hd : decode M.2.1 pc = .ok (.ior, 1)) (hn : pc + 1 = n')  (k : Wm M Z n' ls (.int (x ||| y) :: st) mem) : Wm M Z pc ls (.int y :: .int x :: st) mem := by
  subst hn
  intro g p l e s m args below meth c H locs la C hP hS hl
  exact lv_ior C.1 C.2.1 hd (k g p l e s m args below meth c H locs la C hP hS hl)
theorem w_ishl {x y : Int32} (hd : decode M.2.1 pc = .ok (.ishl, 1)) (hn : pc + 1 = n')  (k : Wm M Z n' ls (.int (x <<< (y &&& 31)) :: st) mem) : Wm M Z pc ls (.int y :: .int x :: st) mem := by
  subst hn
  intro g p l e s m args below meth c H locs la C hP hS hl
  exact lv_ishl C.1 C.2.1 hd (k g p l e s m args below meth c H locs la C hP hS hl)
theorem w_ishr {x y : Int32} (hd : decode M.2.1 pc = .ok (.ishr, 1)) (hn : pc + 1 = n')  (k : Wm M Z n' ls (.int (x >>> (y &&& 31)) :: st) mem) : Wm M Z pc ls (.int y :: .int x :: st) mem := by
  subst hn
  intro g p l e s m args below meth c H locs la C hP hS hl
  exact lv_ishr C.1 C.2.1 hd (k g p l e s m args below meth c H locs la C hP hS hl)
theorem w_iushr {x y v : Int32} (hd : decode M.2.1 pc = .ok (.iushr, 1)) (hn : pc + 1 = n') (hv : (x.toUInt32 >>> (y.toUInt32 &&& Int32.toUInt32 31)).toInt32 = v) (k : Wm M Z n' ls (.int v :: st) mem) : Wm M Z pc ls (.int y :: .int x :: st) mem := by
  subst hn
  intro g p l e s m args below meth c H locs la C hP hS hl
  exact lv_iushr C.1 C.2.1 hd hv (k g p l e s m args below meth c H locs la C hP hS hl)
theorem w_idiv {x y : Int32} (hd : decode M.2.1 pc = .ok (.idiv, 1)) (hn : pc + 1 = n') (hne : ¬ y = 0) (k : Wm M Z n' ls (.int (x / y) :: st) mem) : Wm M Z pc ls (.int y :: .int x :: st) mem := by
  subst hn
  intro g p l e s m args below meth c H locs la C hP hS hl
  exact lv_idiv C.1 C.2.1 hd hne (k g p l e s m args below meth c H locs la C hP hS hl)
theorem w_irem {x y : Int32} (hd : decode M.2.1 pc = .ok (.irem, 1)) (hn : pc + 1 = n') (hne : ¬ y = 0) (k : Wm M Z n' ls (.int (x - x / y * y) :: st) mem) : Wm M Z pc ls (.int y :: .int x :: st) mem := by
  subst hn
  intro g p l e s m args below meth c H locs la C hP hS hl
  exact lv_irem C.1 C.2.1 hd hne (k g p l e s m args below meth c H locs la C hP hS hl)
theorem w_ineg {x : Int32} (hd : decode M.2.1 pc = .ok (.ineg, 1)) (hn : pc + 1 = n')  (k : Wm M Z n' ls (.int (0 - x) :: st) mem) : Wm M Z pc ls (.int x :: st) mem := by
  subst hn
  intro g p l e s m args below meth c H locs la C hP hS hl
  exact lv_ineg C.1 C.2.1 hd (k g p l e s m args below meth c H locs la C hP hS hl)
theorem w_lmul {x y : Int64} (hd : decode M.2.1 pc = .ok (.lmul, 1)) (hn : pc + 1 = n')  (k : Wm M Z n' ls (.long (x * y) :: st) mem) : Wm M Z pc ls (.long y :: .long x :: st) mem := by
  subst hn
  intro g p l e s m args below meth c H locs la C hP hS hl
  exact lv_lmul C.1 C.2.1 hd (k g p l e s m args below meth c H locs la C hP hS hl)
theorem w_lcmp {x y : Int64} (hd : decode M.2.1 pc = .ok (.lcmp, 1)) (hn : pc + 1 = n')  (k : Wm M Z n' ls (.int (lg_cmp x y) :: st) mem) : Wm M Z pc ls (.long y :: .long x :: st) mem := by
  subst hn
  intro g p l e s m args below meth c H locs la C hP hS hl
  exact W.lcmp C.1 C.2.1 hd (k g p l e s m args below meth c H locs la C hP hS hl)
theorem w_i2l {x : Int32} {v : Int64} (hd : decode M.2.1 pc = .ok (.i2l, 1)) (hn : pc + 1 = n') (hv : x.toInt64 = v) (k : Wm M Z n' ls (.long v :: st) mem) : Wm M Z pc ls (.int x :: st) mem := by
  subst hn
  intro g p l e s m args below meth c H locs la C hP hS hl
  exact lv_i2l C.1 C.2.1 hd hv (k g p l e s m args below meth c H locs la C hP hS hl)
theorem w_i2b {x v : Int32} (hd : decode M.2.1 pc = .ok (.i2b, 1)) (hn : pc + 1 = n') (hv : x.toInt8.toInt32 = v) (k : Wm M Z n' ls (.int v :: st) mem) : Wm M Z pc ls (.int x :: st) mem := by
  subst hn
  intro g p l e s m args below meth c H locs la C hP hS hl
  exact lv_i2b C.1 C.2.1 hd hv (k g p l e s m args below meth c H locs la C hP hS hl)
theorem w_i2s {x v : Int32} (hd : decode M.2.1 pc = .ok (.i2s, 1)) (hn : pc + 1 = n') (hv : x.toInt16.toInt32 = v) (k : Wm M Z n' ls (.int v :: st) mem) : Wm M Z pc ls (.int x :: st) mem := by
  subst hn
  intro g p l e s m args below meth c H locs la C hP hS hl
  exact lv_i2s C.1 C.2.1 hd hv (k g p l e s m args below meth c H locs la C hP hS hl)
theorem w_i2c {x v : Int32} (hd : decode M.2.1 pc = .ok (.i2c, 1)) (hn : pc + 1 = n') (hv : (x.toUInt32 % 65536).toInt32 = v) (k : Wm M Z n' ls (.int v :: st) mem) : Wm M Z pc ls (.int x :: st) mem := by
  subst hn
  intro g p l e s m args below meth c H locs la C hP hS hl
  exact lv_i2c C.1 C.2.1 hd hv (k g p l e s m args below meth c H locs la C hP hS hl)
theorem w_dup {v : Value} (hd : decode M.2.1 pc = .ok (.dup, 1)) (hn : pc + 1 = n') (hc : v.category = 1) (k : Wm M Z n' ls (v :: v :: st) mem) : Wm M Z pc ls (v :: st) mem := by
  subst hn
  intro g p l e s m args below meth c H locs la C hP hS hl
  exact lv_dup C.1 C.2.1 hd ((rv_cat g v).trans hc) (k g p l e s m args below meth c H locs la C hP hS hl)
theorem w_pop {v : Value} (hd : decode M.2.1 pc = .ok (.pop, 1)) (hn : pc + 1 = n') (hc : v.category = 1) (k : Wm M Z n' ls (st) mem) : Wm M Z pc ls (v :: st) mem := by
  subst hn
  intro g p l e s m args below meth c H locs la C hP hS hl
  exact lv_pop C.1 C.2.1 hd ((rv_cat g v).trans hc) (k g p l e s m args below meth c H locs la C hP hS hl)
theorem w_dup2 {v w : Value} (hd : decode M.2.1 pc = .ok (.dup2, 1)) (hn : pc + 1 = n') (hc : v.category = 1) (hc2 : w.category = 1) (k : Wm M Z n' ls (v :: w :: v :: w :: st) mem) : Wm M Z pc ls (v :: w :: st) mem := by
  subst hn
  intro g p l e s m args below meth c H locs la C hP hS hl
  exact lv_dup2_11 C.1 C.2.1 hd ((rv_cat g v).trans hc) ((rv_cat g w).trans hc2) (k g p l e s m args below meth c H locs la C hP hS hl)
theorem w_iload_n {q : Fin 4} {i : Nat} {x : Int32} (hd : decode M.2.1 pc = .ok (.iload_n q, 1)) (hn : pc + 1 = n') (hi : (q : Nat) = i) (hx : ls[i]? = some (some (.int x))) (k : Wm M Z n' ls (.int x :: st) mem) : Wm M Z pc ls (st) mem := by
  subst hn
  intro g p l e s m args below meth c H locs la C hP hS hl
  exact lv_iload_n C.1 C.2.1 hd hi (hl.2.2 _ _ hx) (k g p l e s m args below meth c H locs la C hP hS hl)
theorem w_iload {i : Nat} {x : Int32} (hd : decode M.2.1 pc = .ok (.iload i, 2)) (hn : pc + 2 = n') (hx : ls[i]? = some (some (.int x))) (k : Wm M Z n' ls (.int x :: st) mem) : Wm M Z pc ls (st) mem := by
  subst hn
  intro g p l e s m args below meth c H locs la C hP hS hl
  exact lv_iload C.1 C.2.1 hd (hl.2.2 _ _ hx) (k g p l e s m args below meth c H locs la C hP hS hl)
theorem w_lload_n {q : Fin 4} {i : Nat} {x : Int64} (hd : decode M.2.1 pc = .ok (.lload_n q, 1)) (hn : pc + 1 = n') (hi : (q : Nat) = i) (hx : ls[i]? = some (some (.long x))) (k : Wm M Z n' ls (.long x :: st) mem) : Wm M Z pc ls (st) mem := by
  subst hn
  intro g p l e s m args below meth c H locs la C hP hS hl
  exact lv_lload_n C.1 C.2.1 hd hi (hl.2.2 _ _ hx) (k g p l e s m args below meth c H locs la C hP hS hl)
theorem w_lload {i : Nat} {x : Int64} (hd : decode M.2.1 pc = .ok (.lload i, 2)) (hn : pc + 2 = n') (hx : ls[i]? = some (some (.long x))) (k : Wm M Z n' ls (.long x :: st) mem) : Wm M Z pc ls (st) mem := by
  subst hn
  intro g p l e s m args below meth c H locs la C hP hS hl
  exact lv_lload C.1 C.2.1 hd (hl.2.2 _ _ hx) (k g p l e s m args below meth c H locs la C hP hS hl)
theorem w_aload_n {q : Fin 4} {i : Nat} {x : Nat} (hd : decode M.2.1 pc = .ok (.aload_n q, 1)) (hn : pc + 1 = n') (hi : (q : Nat) = i) (hx : ls[i]? = some (some (.ref x))) (k : Wm M Z n' ls (.ref x :: st) mem) : Wm M Z pc ls (st) mem := by
  subst hn
  intro g p l e s m args below meth c H locs la C hP hS hl
  exact lv_aload_n C.1 C.2.1 hd hi (hl.2.2 _ _ hx) (k g p l e s m args below meth c H locs la C hP hS hl)
theorem w_aload {i : Nat} {x : Nat} (hd : decode M.2.1 pc = .ok (.aload i, 2)) (hn : pc + 2 = n') (hx : ls[i]? = some (some (.ref x))) (k : Wm M Z n' ls (.ref x :: st) mem) : Wm M Z pc ls (st) mem := by
  subst hn
  intro g p l e s m args below meth c H locs la C hP hS hl
  exact lv_aload C.1 C.2.1 hd (hl.2.2 _ _ hx) (k g p l e s m args below meth c H locs la C hP hS hl)
theorem w_goto {off : Int} {tgt : Nat} (hd : decode M.2.1 pc = .ok (.goto off, 3)) (ht : (pc : Int) + off = (tgt : Int)) (k : Wm M Z tgt ls st mem) : Wm M Z pc ls st mem := by
  intro g p l e s m args below meth c H locs la C hP hS hl
  exact lv_goto C.1 C.2.1 hd ht (k g p l e s m args below meth c H locs la C hP hS hl)
theorem w_if_eq {x : Int32} {off : Int} {tgt : Nat} (hd : decode M.2.1 pc = .ok (.ifCond .eq off, 3)) (hn : pc + 3 = n') (ht : (pc : Int) + off = (tgt : Int)) (kt : x = 0 → Wm M Z tgt ls st mem) (kf : ¬ x = 0 → Wm M Z n' ls st mem) : Wm M Z pc ls (.int x :: st) mem := by
  subst hn
  intro g p l e s m args below meth c H locs la C hP hS hl
  exact lv_if_eq C.1 C.2.1 hd ht (fun q => kt q g p l e s m args below meth c H locs la C hP hS hl) (fun q => kf q g p l e s m args below meth c H locs la C hP hS hl)
theorem w_icmp_eq {x y : Int32} {off : Int} {tgt : Nat} (hd : decode M.2.1 pc = .ok (.if_icmp .eq off, 3)) (hn : pc + 3 = n') (ht : (pc : Int) + off = (tgt : Int)) (kt : x = y → Wm M Z tgt ls st mem) (kf : ¬ x = y → Wm M Z n' ls st mem) : Wm M Z pc ls (.int y :: .int x :: st) mem := by
  subst hn
  intro g p l e s m args below meth c H locs la C hP hS hl
  exact lv_icmp_eq C.1 C.2.1 hd ht (fun q => kt q g p l e s m args below meth c H locs la C hP hS hl) (fun q => kf q g p l e s m args below meth c H locs la C hP hS hl)
theorem w_if_ne {x : Int32} {off : Int} {tgt : Nat} (hd : decode M.2.1 pc = .ok (.ifCond .ne off, 3)) (hn : pc + 3 = n') (ht : (pc : Int) + off = (tgt : Int)) (kt : ¬ x = 0 → Wm M Z tgt ls st mem) (kf : x = 0 → Wm M Z n' ls st mem) : Wm M Z pc ls (.int x :: st) mem := by
  subst hn
  intro g p l e s m args below meth c H locs la C hP hS hl
  exact lv_if_ne C.1 C.2.1 hd ht (fun q => kt q g p l e s m args below meth c H locs la C hP hS hl) (fun q => kf q g p l e s m args below meth c H locs la C hP hS hl)
theorem w_icmp_ne {x y : Int32} {off : Int} {tgt : Nat} (hd : decode M.2.1 pc = .ok (.if_icmp .ne off, 3)) (hn : pc + 3 = n') (ht : (pc : Int) + off = (tgt : Int)) (kt : ¬ x = y → Wm M Z tgt ls st mem) (kf : x = y → Wm M Z n' ls st mem) : Wm M Z pc ls (.int y :: .int x :: st) mem := by
  subst hn
  intro g p l e s m args below meth c H locs la C hP hS hl
  exact lv_icmp_ne C.1 C.2.1 hd ht (fun q => kt q g p l e s m args below meth c H locs la C hP hS hl) (fun q => kf q g p l e s m args below meth c H locs la C hP hS hl)
theorem w_if_lt {x : Int32} {off : Int} {tgt : Nat} (hd : decode M.2.1 pc = .ok (.ifCond .lt off, 3)) (hn : pc + 3 = n') (ht : (pc : Int) + off = (tgt : Int)) (kt : x < 0 → Wm M Z tgt ls st mem) (kf : ¬ x < 0 → Wm M Z n' ls st mem) : Wm M Z pc ls (.int x :: st) mem := by
  subst hn
  intro g p l e s m args below meth c H locs la C hP hS hl
  exact lv_if_lt C.1 C.2.1 hd ht (fun q => kt q g p l e s m args below meth c H locs la C hP hS hl) (fun q => kf q g p l e s m args below meth c H locs la C hP hS hl)
theorem w_icmp_lt {x y : Int32} {off : Int} {tgt : Nat} (hd : decode M.2.1 pc = .ok (.if_icmp .lt off, 3)) (hn : pc + 3 = n') (ht : (pc : Int) + off = (tgt : Int)) (kt : x < y → Wm M Z tgt ls st mem) (kf : ¬ x < y → Wm M Z n' ls st mem) : Wm M Z pc ls (.int y :: .int x :: st) mem := by
  subst hn
  intro g p l e s m args below meth c H locs la C hP hS hl
  exact lv_icmp_lt C.1 C.2.1 hd ht (fun q => kt q g p l e s m args below meth c H locs la C hP hS hl) (fun q => kf q g p l e s m args below meth c H locs la C hP hS hl)
theorem w_if_ge {x : Int32} {off : Int} {tgt : Nat} (hd : decode M.2.1 pc = .ok (.ifCond .ge off, 3)) (hn : pc + 3 = n') (ht : (pc : Int) + off = (tgt : Int)) (kt : 0 ≤ x → Wm M Z tgt ls st mem) (kf : ¬ 0 ≤ x → Wm M Z n' ls st mem) : Wm M Z pc ls (.int x :: st) mem := by
  subst hn
  intro g p l e s m args below meth c H locs la C hP hS hl
  exact lv_if_ge C.1 C.2.1 hd ht (fun q => kt q g p l e s m args below meth c H locs la C hP hS hl) (fun q => kf q g p l e s m args below meth c H locs la C hP hS hl)
theorem w_icmp_ge {x y : Int32} {off : Int} {tgt : Nat} (hd : decode M.2.1 pc = .ok (.if_icmp .ge off, 3)) (hn : pc + 3 = n') (ht : (pc : Int) + off = (tgt : Int)) (kt : y ≤ x → Wm M Z tgt ls st mem) (kf : ¬ y ≤ x → Wm M Z n' ls st mem) : Wm M Z pc ls (.int y :: .int x :: st) mem := by
  subst hn
  intro g p l e s m args below meth c H locs la C hP hS hl
  exact lv_icmp_ge C.1 C.2.1 hd ht (fun q => kt q g p l e s m args below meth c H locs la C hP hS hl) (fun q => kf q g p l e s m args below meth c H locs la C hP hS hl)
theorem w_if_gt {x : Int32} {off : Int} {tgt : Nat} (hd : decode M.2.1 pc = .ok (.ifCond .gt off, 3)) (hn : pc + 3 = n') (ht : (pc : Int) + off = (tgt : Int)) (kt : 0 < x → Wm M Z tgt ls st mem) (kf : ¬ 0 < x → Wm M Z n' ls st mem) : Wm M Z pc ls (.int x :: st) mem := by
  subst hn
  intro g p l e s m args below meth c H locs la C hP hS hl
  exact lv_if_gt C.1 C.2.1 hd ht (fun q => kt q g p l e s m args below meth c H locs la C hP hS hl) (fun q => kf q g p l e s m args below meth c H locs la C hP hS hl)
theorem w_icmp_gt {x y : Int32} {off : Int} {tgt : Nat} (hd : decode M.2.1 pc = .ok (.if_icmp .gt off, 3)) (hn : pc + 3 = n') (ht : (pc : Int) + off = (tgt : Int)) (kt : y < x → Wm M Z tgt ls st mem) (kf : ¬ y < x → Wm M Z n' ls st mem) : Wm M Z pc ls (.int y :: .int x :: st) mem := by
  subst hn
  intro g p l e s m args below meth c H locs la C hP hS hl
  exact lv_icmp_gt C.1 C.2.1 hd ht (fun q => kt q g p l e s m args below meth c H locs la C hP hS hl) (fun q => kf q g p l e s m args below meth c H locs la C hP hS hl)
theorem w_if_le {x : Int32} {off : Int} {tgt : Nat} (hd : decode M.2.1 pc = .ok (.ifCond .le off, 3)) (hn : pc + 3 = n') (ht : (pc : Int) + off = (tgt : Int)) (kt : x ≤ 0 → Wm M Z tgt ls st mem) (kf : ¬ x ≤ 0 → Wm M Z n' ls st mem) : Wm M Z pc ls (.int x :: st) mem := by
  subst hn
  intro g p l e s m args below meth c H locs la C hP hS hl
  exact lv_if_le C.1 C.2.1 hd ht (fun q => kt q g p l e s m args below meth c H locs la C hP hS hl) (fun q => kf q g p l e s m args below meth c H locs la C hP hS hl)
theorem w_icmp_le {x y : Int32} {off : Int} {tgt : Nat} (hd : decode M.2.1 pc = .ok (.if_icmp .le off, 3)) (hn : pc + 3 = n') (ht : (pc : Int) + off = (tgt : Int)) (kt : x ≤ y → Wm M Z tgt ls st mem) (kf : ¬ x ≤ y → Wm M Z n' ls st mem) : Wm M Z pc ls (.int y :: .int x :: st) mem := by
  subst hn
  intro g p l e s m args below meth c H locs la C hP hS hl
  exact lv_icmp_le C.1 C.2.1 hd ht (fun q => kt q g p l e s m args below meth c H locs la C hP hS hl) (fun q => kf q g p l e s m args below meth c H locs la C hP hS hl)
theorem w_lookup {dflt : Int} {ps : Array (Int × Int)} {len : Nat} {x : Int32} {off : Int} {tgt : Nat} (hd : decode M.2.1 pc = .ok (.lookupswitch dflt ps, len)) (hp : (ps.toList.zip (ps.toList.drop 1)).all (fun (a, next) => a.1 < next.1) = true) (ho : Op.lookupswitch.offset ps.toList dflt x.toInt = off) (ht : (pc : Int) + off = (tgt : Int)) (k : Wm M Z tgt ls st mem) : Wm M Z pc ls (.int x :: st) mem := by
  intro g p l e s m args below meth c H locs la C hP hS hl
  exact lv_lookup C.1 C.2.1 hd hp ho ht (k g p l e s m args below meth c H locs la C hP hS hl)
theorem w_tableOut {dflt lo hi : Int} {offs : Array Int} {len : Nat} {x : Int32} {tgt : Nat} (hd : decode M.2.1 pc = .ok (.tableswitch dflt lo hi offs, len)) (h : x.toInt < lo ∨ hi < x.toInt) (ht : (pc : Int) + dflt = (tgt : Int)) (k : Wm M Z tgt ls st mem) : Wm M Z pc ls (.int x :: st) mem := by
  intro g p l e s m args below meth c H locs la C hP hS hl
  exact lv_tableOut C.1 C.2.1 hd h ht (k g p l e s m args below meth c H locs la C hP hS hl)
theorem w_tableIn {dflt lo hi : Int} {offs : Array Int} {len : Nat} {x : Int32} {off : Int} {tgt : Nat} (hd : decode M.2.1 pc = .ok (.tableswitch dflt lo hi offs, len)) (h1 : ¬ x.toInt < lo) (h2 : ¬ hi < x.toInt) (ho : offs[(x.toInt - lo).toNat]? = some off) (ht : (pc : Int) + off = (tgt : Int)) (k : Wm M Z tgt ls st mem) : Wm M Z pc ls (.int x :: st) mem := by
  intro g p l e s m args below meth c H locs la C hP hS hl
  exact lv_tableIn C.1 C.2.1 hd h1 h2 ho ht (k g p l e s m args below meth c H locs la C hP hS hl)
def okS (ls : List (Option Value)) : Nat → Bool
  | 0 => true
  | j + 1 => match ls[j]? with
    | some (some (.long _)) => false
    | some (some (.double _)) => false
    | _ => true
def pairs (g : GH) (ls : List (Option Value)) : List (Nat × Value) := (List.range ls.length).filterMap (fun i => match ls[i]? with
  | some (some v) => some (i, rv g v)
  | _ => none)
theorem pairs_in {g : GH} {ls : List (Option Value)} {q : Nat × Value} : q ∈ pairs g ls ↔ ∃ v, ls[q.1]? = some (some v) ∧ q.2 = rv g v := by
  unfold pairs
  rw [List.mem_filterMap]
  constructor
  · rintro ⟨i, -, h⟩
    split at h
    · next v hv => cases h; exact ⟨v, hv, rfl⟩
    · cases h
  · rintro ⟨v, hv, h2⟩
    refine ⟨q.1, List.mem_range.mpr (List.getElem?_eq_some_iff.mp hv).1, ?_⟩
    rw [hv]
    show some (q.1, rv g v) = some q
    rw [← h2]
theorem lhas.toHas {g : GH} {la : Array Slot} {n : Nat} {ls : List (Option Value)} (h : lhas g la n ls) : lv_has la n (pairs g ls) := by
  refine ⟨h.1, h.2.1, fun q hq => ?_⟩
  obtain ⟨v, h1, h2⟩ := pairs_in.mp hq
  rw [h2]
  exact h.2.2 _ _ h1
theorem lhas.st1 {g : GH} {la : Array Slot} {n i : Nat} {ls : List (Option Value)} {v : Value} (hk : okS ls i = true) (h : lv_has la n ((i, rv g v) :: (pairs g ls).filter (fun q => !(q.1 == i) && !(q.1 + 1 == i && q.2.category == 2)))) : lhas g la n (ls.set i (some v)) := by
  refine ⟨h.1, h.2.1, fun j w hw => ?_⟩
  by_cases hj : j = i
  · subst hj
    have hlt : j < (ls.set j (some v)).length := (List.getElem?_eq_some_iff.mp hw).1
    rw [List.length_set] at hlt
    rw [List.getElem?_set_self hlt] at hw
    cases hw
    exact h.2.2 (j, rv g v) List.mem_cons_self
  · rw [List.getElem?_set_ne (Ne.symm hj)] at hw
    refine h.2.2 (j, rv g w) (List.mem_cons_of_mem _ (List.mem_filter.mpr ⟨pairs_in.mpr ⟨w, hw, rfl⟩, ?_⟩))
    have h1 : (j == i) = false := by simpa using hj
    simp only [h1, Bool.not_false, Bool.true_and, Bool.not_eq_true', Bool.and_eq_false_iff]
    by_cases h2 : j + 1 = i
    · right
      subst h2
      rw [rv_cat]
      simp only [okS, hw] at hk
      cases w <;> simp_all [Value.category]
    · left
      simpa using h2
theorem lhas.st2 {g : GH} {la : Array Slot} {n i : Nat} {ls : List (Option Value)} {v : Value} (hk : okS ls i = true) (h : lv_has la n ((i, rv g v) :: (pairs g ls).filter (fun q => !(q.1 == i) && (!(q.1 == i + 1) && !(q.1 + 1 == i && q.2.category == 2))))) : lhas g la n ((ls.set i (some v)).set (i + 1) none) := by
  refine ⟨h.1, h.2.1, fun j w hw => ?_⟩
  by_cases hj2 : j = i + 1
  · subst hj2
    have hlt : i + 1 < ((ls.set i (some v)).set (i + 1) none).length := (List.getElem?_eq_some_iff.mp hw).1
    rw [List.length_set] at hlt
    rw [List.getElem?_set_self hlt] at hw
    cases hw
  · rw [List.getElem?_set_ne (Ne.symm hj2)] at hw
    by_cases hj : j = i
    · subst hj
      have hlt : j < (ls.set j (some v)).length := (List.getElem?_eq_some_iff.mp hw).1
      rw [List.length_set] at hlt
      rw [List.getElem?_set_self hlt] at hw
      cases hw
      exact h.2.2 (j, rv g v) List.mem_cons_self
    · rw [List.getElem?_set_ne (Ne.symm hj)] at hw
      refine h.2.2 (j, rv g w) (List.mem_cons_of_mem _ (List.mem_filter.mpr ⟨pairs_in.mpr ⟨w, hw, rfl⟩, ?_⟩))
      have h1 : (j == i) = false := by simpa using hj
      have h3 : (j == i + 1) = false := by simpa using hj2
      simp only [h1, h3, Bool.not_false, Bool.true_and, Bool.not_eq_true', Bool.and_eq_false_iff]
      by_cases h2 : j + 1 = i
      · right
        subst h2
        rw [rv_cat]
        simp only [okS, hw] at hk
        cases w <;> simp_all [Value.category]
      · left
        simpa using h2
theorem w_istore_n {q : Fin 4} {i : Nat} {x : Int32} (hd : decode M.2.1 pc = .ok (.istore_n q, 1)) (hn : pc + 1 = n') (hi : (q : Nat) = i) (hlt : i < M.2.2.1) (hk : okS ls i = true) (hs : ls.set i (some (.int x)) = ls') (k : Wm M Z n' ls' st mem) : Wm M Z pc ls (.int x :: st) mem := by
  subst hn
  subst hs
  intro g p l e s m args below meth c H locs la C hP hS hl
  exact lv_istore_n C.1 C.2.1 hd hi hl.toHas hlt rfl (fun la' h => k g p l e s m args below meth c H locs la' C hP hS (lhas.st1 (v := .int x) hk h))
theorem w_istore {i : Nat} {x : Int32} (hd : decode M.2.1 pc = .ok (.istore i, 2)) (hn : pc + 2 = n') (hlt : i < M.2.2.1) (hk : okS ls i = true) (hs : ls.set i (some (.int x)) = ls') (k : Wm M Z n' ls' st mem) : Wm M Z pc ls (.int x :: st) mem := by
  subst hn
  subst hs
  intro g p l e s m args below meth c H locs la C hP hS hl
  exact lv_istore C.1 C.2.1 hd hl.toHas hlt rfl (fun la' h => k g p l e s m args below meth c H locs la' C hP hS (lhas.st1 (v := .int x) hk h))
theorem w_astore_n {q : Fin 4} {i : Nat} {x : Nat} (hd : decode M.2.1 pc = .ok (.astore_n q, 1)) (hn : pc + 1 = n') (hi : (q : Nat) = i) (hlt : i < M.2.2.1) (hk : okS ls i = true) (hs : ls.set i (some (.ref x)) = ls') (k : Wm M Z n' ls' st mem) : Wm M Z pc ls (.ref x :: st) mem := by
  subst hn
  subst hs
  intro g p l e s m args below meth c H locs la C hP hS hl
  exact lv_astore_n C.1 C.2.1 hd hi hl.toHas hlt rfl (fun la' h => k g p l e s m args below meth c H locs la' C hP hS (lhas.st1 (v := .ref x) hk h))
theorem w_astore {i : Nat} {x : Nat} (hd : decode M.2.1 pc = .ok (.astore i, 2)) (hn : pc + 2 = n') (hlt : i < M.2.2.1) (hk : okS ls i = true) (hs : ls.set i (some (.ref x)) = ls') (k : Wm M Z n' ls' st mem) : Wm M Z pc ls (.ref x :: st) mem := by
  subst hn
  subst hs
  intro g p l e s m args below meth c H locs la C hP hS hl
  exact lv_astore C.1 C.2.1 hd hl.toHas hlt rfl (fun la' h => k g p l e s m args below meth c H locs la' C hP hS (lhas.st1 (v := .ref x) hk h))
theorem w_lstore_n {q : Fin 4} {i : Nat} {x : Int64} (hd : decode M.2.1 pc = .ok (.lstore_n q, 1)) (hn : pc + 1 = n') (hi : (q : Nat) = i) (hlt : i + 1 < M.2.2.1) (hk : okS ls i = true) (hs : (ls.set i (some (.long x))).set (i + 1) none = ls') (k : Wm M Z n' ls' st mem) : Wm M Z pc ls (.long x :: st) mem := by
  subst hn
  subst hs
  intro g p l e s m args below meth c H locs la C hP hS hl
  exact lv_lstore_n C.1 C.2.1 hd hi hl.toHas hlt rfl (fun la' h => k g p l e s m args below meth c H locs la' C hP hS (lhas.st2 (v := .long x) hk h))
theorem w_lstore {i : Nat} {x : Int64} (hd : decode M.2.1 pc = .ok (.lstore i, 2)) (hn : pc + 2 = n') (hlt : i + 1 < M.2.2.1) (hk : okS ls i = true) (hs : (ls.set i (some (.long x))).set (i + 1) none = ls') (k : Wm M Z n' ls' st mem) : Wm M Z pc ls (.long x :: st) mem := by
  subst hn
  subst hs
  intro g p l e s m args below meth c H locs la C hP hS hl
  exact lv_lstore C.1 C.2.1 hd hl.toHas hlt rfl (fun la' h => k g p l e s m args below meth c H locs la' C hP hS (lhas.st2 (v := .long x) hk h))
theorem w_iinc {i : Nat} {n : Int} {x v : Int32} (hd : decode M.2.1 pc = .ok (.iinc i n, 3)) (hn : pc + 3 = n') (hx : ls[i]? = some (some (.int x))) (hv : x + Int32.ofInt n = v) (hlt : i < M.2.2.1) (hk : okS ls i = true) (hs : ls.set i (some (.int v)) = ls') (k : Wm M Z n' ls' st mem) : Wm M Z pc ls st mem := by
  subst hn
  subst hs
  intro g p l e s m args below meth c H locs la C hP hS hl
  obtain ⟨q, hq⟩ := List.getElem?_of_mem (pairs_in (g := g) (q := (i, .int x)) |>.mpr ⟨.int x, hx, rfl⟩)
  exact lv_iinc C.1 C.2.1 hd hl.toHas hq hv hlt rfl (fun la' h => k g p l e s m args below meth c H locs la' C hP hS (lhas.st1 (v := .int v) hk h))
theorem tb_at {w : Cond} {Z : ZT} {g : GH} {p : Program} {s : State} {m : MethodId} {args : Array Value} {meth : Method} {c : Code} (C : Ctx M Z g p s m args meth c) (h : w ∈ tb) : w.before args s = true := C.2.2.2.2.2.1 w h
theorem w_ldc {idx : Nat} {v : Int32} (hd : decode M.2.1 pc = .ok (.ldc idx, 2)) (hn : pc + 2 = n') (hc : Cond.constant M.1.cls idx v ∈ tb) (k : Wm M Z n' ls (.int v :: st) mem) : Wm M Z pc ls st mem := by
  subst hn
  intro g p l e s m args below meth c H locs la C hP hS hl
  exact lv_ldc C.1 C.2.1 C.2.2.2.2.1 (tb_at C hc) hd (k g p l e s m args below meth c H locs la C hP hS hl)
theorem w_ldcw {idx : Nat} {v : Int32} (hd : decode M.2.1 pc = .ok (.ldc_w idx, 3)) (hn : pc + 3 = n') (hc : Cond.constant M.1.cls idx v ∈ tb) (k : Wm M Z n' ls (.int v :: st) mem) : Wm M Z pc ls st mem := by
  subst hn
  intro g p l e s m args below meth c H locs la C hP hS hl
  exact lv_ldcw C.1 C.2.1 C.2.2.2.2.1 (tb_at C hc) hd (k g p l e s m args below meth c H locs la C hP hS hl)
theorem w_ldc2 {idx : Nat} {v : Int64} (hd : decode M.2.1 pc = .ok (.ldc2_w idx, 3)) (hn : pc + 3 = n') (hc : Cond.constantLong M.1.cls idx v ∈ tb) (k : Wm M Z n' ls (.long v :: st) mem) : Wm M Z pc ls st mem := by
  subst hn
  intro g p l e s m args below meth c H locs la C hP hS hl
  exact lv_ldc2 C.1 C.2.1 C.2.2.2.2.1 (tb_at C hc) hd (k g p l e s m args below meth c H locs la C hP hS hl)
end ROWS
