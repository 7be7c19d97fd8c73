section JR
variable {l : Launch} {G : jG} {M : jM} {QF : jF} {ck sk pc : Nat} {L L' : List (Nat × Value)} {st : List Value} {h : jH}
theorem j_iadd {x y : Int32} (hd : decode M.cc pc = .ok (.iadd, 1)) (k : J l G M QF ck sk (pc + 1) L (.int (x + y) :: st) h) : J l G M QF ck sk pc L (.int y :: .int x :: st) h := by
  intro p e s m args below meth c H locs cells slots ls S hR hS hl hc hs
  exact lv_iadd S.1 S.2.1 hd (k p e s m args below meth c H locs cells slots ls S hR hS hl hc hs)
theorem j_isub {x y : Int32} (hd : decode M.cc pc = .ok (.isub, 1)) (k : J l G M QF ck sk (pc + 1) L (.int (x - y) :: st) h) : J l G M QF ck sk pc L (.int y :: .int x :: st) h := by
  intro p e s m args below meth c H locs cells slots ls S hR hS hl hc hs
  exact lv_isub S.1 S.2.1 hd (k p e s m args below meth c H locs cells slots ls S hR hS hl hc hs)
theorem j_imul {x y : Int32} (hd : decode M.cc pc = .ok (.imul, 1)) (k : J l G M QF ck sk (pc + 1) L (.int (x * y) :: st) h) : J l G M QF ck sk pc L (.int y :: .int x :: st) h := by
  intro p e s m args below meth c H locs cells slots ls S hR hS hl hc hs
  exact lv_imul S.1 S.2.1 hd (k p e s m args below meth c H locs cells slots ls S hR hS hl hc hs)
theorem j_iand {x y : Int32} (hd : decode M.cc pc = .ok (.iand, 1)) (k : J l G M QF ck sk (pc + 1) L (.int (x &&& y) :: st) h) : J l G M QF ck sk pc L (.int y :: .int x :: st) h := by
  intro p e s m args below meth c H locs cells slots ls S hR hS hl hc hs
  exact lv_iand S.1 S.2.1 hd (k p e s m args below meth c H locs cells slots ls S hR hS hl hc hs)
theorem j_ior {x y : Int32} (hd : decode M.cc pc = .ok (.ior, 1)) (k : J l G M QF ck sk (pc + 1) L (.int (x ||| y) :: st) h) : J l G M QF ck sk pc L (.int y :: .int x :: st) h := by
  intro p e s m args below meth c H locs cells slots ls S hR hS hl hc hs
  exact lv_ior S.1 S.2.1 hd (k p e s m args below meth c H locs cells slots ls S hR hS hl hc hs)
theorem j_ishl {x y : Int32} (hd : decode M.cc pc = .ok (.ishl, 1)) (k : J l G M QF ck sk (pc + 1) L (.int (x <<< (y &&& 31)) :: st) h) : J l G M QF ck sk pc L (.int y :: .int x :: st) h := by
  intro p e s m args below meth c H locs cells slots ls S hR hS hl hc hs
  exact lv_ishl S.1 S.2.1 hd (k p e s m args below meth c H locs cells slots ls S hR hS hl hc hs)
theorem j_ishr {x y : Int32} (hd : decode M.cc pc = .ok (.ishr, 1)) (k : J l G M QF ck sk (pc + 1) L (.int (x >>> (y &&& 31)) :: st) h) : J l G M QF ck sk pc L (.int y :: .int x :: st) h := by
  intro p e s m args below meth c H locs cells slots ls S hR hS hl hc hs
  exact lv_ishr S.1 S.2.1 hd (k p e s m args below meth c H locs cells slots ls S hR hS hl hc hs)
theorem j_iushr {x y : Int32} (hd : decode M.cc pc = .ok (.iushr, 1)) (k : J l G M QF ck sk (pc + 1) L (.int (x.toUInt32 >>> (y.toUInt32 &&& Int32.toUInt32 31)).toInt32 :: st) h) : J l G M QF ck sk pc L (.int y :: .int x :: st) h := by
  intro p e s m args below meth c H locs cells slots ls S hR hS hl hc hs
  exact lv_iushr S.1 S.2.1 hd rfl (k p e s m args below meth c H locs cells slots ls S hR hS hl hc hs)
theorem j_idiv {x y : Int32} (hd : decode M.cc pc = .ok (.idiv, 1)) (hne : ¬ y = 0) (k : J l G M QF ck sk (pc + 1) L (.int (x / y) :: st) h) : J l G M QF ck sk pc L (.int y :: .int x :: st) h := by
  intro p e s m args below meth c H locs cells slots ls S hR hS hl hc hs
  exact lv_idiv S.1 S.2.1 hd hne (k p e s m args below meth c H locs cells slots ls S hR hS hl hc hs)
theorem j_irem {x y : Int32} (hd : decode M.cc pc = .ok (.irem, 1)) (hne : ¬ y = 0) (k : J l G M QF ck sk (pc + 1) L (.int (x - x / y * y) :: st) h) : J l G M QF ck sk pc L (.int y :: .int x :: st) h := by
  intro p e s m args below meth c H locs cells slots ls S hR hS hl hc hs
  exact lv_irem S.1 S.2.1 hd hne (k p e s m args below meth c H locs cells slots ls S hR hS hl hc hs)
theorem j_ineg {x : Int32} (hd : decode M.cc pc = .ok (.ineg, 1)) (k : J l G M QF ck sk (pc + 1) L (.int (-x) :: st) h) : J l G M QF ck sk pc L (.int x :: st) h := by
  intro p e s m args below meth c H locs cells slots ls S hR hS hl hc hs
  exact lv_ineg S.1 S.2.1 hd (k p e s m args below meth c H locs cells slots ls S hR hS hl hc hs)
theorem j_ladd {x y : Int64} (hd : decode M.cc pc = .ok (.ladd, 1)) (k : J l G M QF ck sk (pc + 1) L (.long (x + y) :: st) h) : J l G M QF ck sk pc L (.long y :: .long x :: st) h := by
  intro p e s m args below meth c H locs cells slots ls S hR hS hl hc hs
  exact lv_ladd S.1 S.2.1 hd (k p e s m args below meth c H locs cells slots ls S hR hS hl hc hs)
theorem j_lmul {x y : Int64} (hd : decode M.cc pc = .ok (.lmul, 1)) (k : J l G M QF ck sk (pc + 1) L (.long (x * y) :: st) h) : J l G M QF ck sk pc L (.long y :: .long x :: st) h := by
  intro p e s m args below meth c H locs cells slots ls S hR hS hl hc hs
  exact lv_lmul S.1 S.2.1 hd (k p e s m args below meth c H locs cells slots ls S hR hS hl hc hs)
theorem j_i2l {x : Int32} (hd : decode M.cc pc = .ok (.i2l, 1)) (k : J l G M QF ck sk (pc + 1) L (.long x.toInt64 :: st) h) : J l G M QF ck sk pc L (.int x :: st) h := by
  intro p e s m args below meth c H locs cells slots ls S hR hS hl hc hs
  exact lv_i2l S.1 S.2.1 hd rfl (k p e s m args below meth c H locs cells slots ls S hR hS hl hc hs)
theorem j_i2d {x : Int32} (hd : decode M.cc pc = .ok (.i2d, 1)) (k : J l G M QF ck sk (pc + 1) L (.double (FP.i2d x) :: st) h) : J l G M QF ck sk pc L (.int x :: st) h := by
  intro p e s m args below meth c H locs cells slots ls S hR hS hl hc hs
  exact lv_i2d S.1 S.2.1 hd (k p e s m args below meth c H locs cells slots ls S hR hS hl hc hs)
theorem j_lcmp {x y : Int64} (hd : decode M.cc pc = .ok (.lcmp, 1)) (k : J l G M QF ck sk (pc + 1) L (.int (lg_cmp x y) :: st) h) : J l G M QF ck sk pc L (.long y :: .long x :: st) h := by
  intro p e s m args below meth c H locs cells slots ls S hR hS hl hc hs
  exact W.lcmp S.1 S.2.1 hd (k p e s m args below meth c H locs cells slots ls S hR hS hl hc hs)
theorem j_dcmp {x y : UInt64} {op : CmpOp} (hd : decode M.cc pc = .ok (.dcmp op, 1)) (k : J l G M QF ck sk (pc + 1) L (.int (Op.cmpValue (FP.dcmp x y) op) :: st) h) : J l G M QF ck sk pc L (.double y :: .double x :: st) h := by
  intro p e s m args below meth c H locs cells slots ls S hR hS hl hc hs
  exact lv_dcmp S.1 S.2.1 hd (k p e s m args below meth c H locs cells slots ls S hR hS hl hc hs)
theorem j_ddiv {x y : UInt64} (hd : decode M.cc pc = .ok (.ddiv, 1)) (hne : vf_n64 (FP.ddiv x y)) (k : J l G M QF ck sk (pc + 1) L (.double (FP.ddiv x y) :: st) h) : J l G M QF ck sk pc L (.double y :: .double x :: st) h := by
  intro p e s m args below meth c H locs cells slots ls S hR hS hl hc hs
  exact lv_ddiv S.1 S.2.1 hd hne (k p e s m args below meth c H locs cells slots ls S hR hS hl hc hs)
theorem j_iconst {n : Int} (v : Int32) (hd : decode M.cc pc = .ok (.iconst n, 1)) (hv : Int32.ofInt n = v) (k : J l G M QF ck sk (pc + 1) L (.int v :: st) h) : J l G M QF ck sk pc L (st) h := by
  intro p e s m args below meth c H locs cells slots ls S hR hS hl hc hs
  exact lv_iconst S.1 S.2.1 hd hv (k p e s m args below meth c H locs cells slots ls S hR hS hl hc hs)
theorem j_bipush {n : Int} (v : Int32) (hd : decode M.cc pc = .ok (.bipush n, 2)) (hv : (Int8.ofInt n).toInt32 = v) (k : J l G M QF ck sk (pc + 2) L (.int v :: st) h) : J l G M QF ck sk pc L (st) h := by
  intro p e s m args below meth c H locs cells slots ls S hR hS hl hc hs
  exact lv_bipush S.1 S.2.1 hd hv (k p e s m args below meth c H locs cells slots ls S hR hS hl hc hs)
theorem j_sipush {n : Int} (v : Int32) (hd : decode M.cc pc = .ok (.sipush n, 3)) (hv : (Int16.ofInt n).toInt32 = v) (k : J l G M QF ck sk (pc + 3) L (.int v :: st) h) : J l G M QF ck sk pc L (st) h := by
  intro p e s m args below meth c H locs cells slots ls S hR hS hl hc hs
  exact lv_sipush S.1 S.2.1 hd hv (k p e s m args below meth c H locs cells slots ls S hR hS hl hc hs)
theorem j_lconst {n : Fin 2} (v : Int64) (hd : decode M.cc pc = .ok (.lconst n, 1)) (hv : Int64.ofNat (n : Nat) = v) (k : J l G M QF ck sk (pc + 1) L (.long v :: st) h) : J l G M QF ck sk pc L (st) h := by
  intro p e s m args below meth c H locs cells slots ls S hR hS hl hc hs
  exact lv_lconst S.1 S.2.1 hd hv (k p e s m args below meth c H locs cells slots ls S hR hS hl hc hs)
theorem j_dconst0  (hd : decode M.cc pc = .ok (.dconst 0, 1)) (k : J l G M QF ck sk (pc + 1) L (.double FP.dconst0 :: st) h) : J l G M QF ck sk pc L (st) h := by
  intro p e s m args below meth c H locs cells slots ls S hR hS hl hc hs
  exact lv_dconst0 S.1 S.2.1 hd (k p e s m args below meth c H locs cells slots ls S hR hS hl hc hs)
theorem j_dup {v : Value} (hd : decode M.cc pc = .ok (.dup, 1)) (hv : v.category = 1) (k : J l G M QF ck sk (pc + 1) L (v :: v :: st) h) : J l G M QF ck sk pc L (v :: st) h := by
  intro p e s m args below meth c H locs cells slots ls S hR hS hl hc hs
  exact lv_dup S.1 S.2.1 hd hv (k p e s m args below meth c H locs cells slots ls S hR hS hl hc hs)
theorem j_pop {v : Value} (hd : decode M.cc pc = .ok (.pop, 1)) (hv : v.category = 1) (k : J l G M QF ck sk (pc + 1) L (st) h) : J l G M QF ck sk pc L (v :: st) h := by
  intro p e s m args below meth c H locs cells slots ls S hR hS hl hc hs
  exact lv_pop S.1 S.2.1 hd hv (k p e s m args below meth c H locs cells slots ls S hR hS hl hc hs)
theorem j_dup_x1 {v w : Value} (hd : decode M.cc pc = .ok (.dup_x1, 1)) (hv : v.category = 1) (hw : w.category = 1) (k : J l G M QF ck sk (pc + 1) L (v :: w :: v :: st) h) : J l G M QF ck sk pc L (v :: w :: st) h := by
  intro p e s m args below meth c H locs cells slots ls S hR hS hl hc hs
  exact lv_dup_x1 S.1 S.2.1 hd hv hw (k p e s m args below meth c H locs cells slots ls S hR hS hl hc hs)
theorem j_dup2 {v w : Value} (hd : decode M.cc pc = .ok (.dup2, 1)) (hv : v.category = 1) (hw : w.category = 1) (k : J l G M QF ck sk (pc + 1) L (v :: w :: v :: w :: st) h) : J l G M QF ck sk pc L (v :: w :: st) h := by
  intro p e s m args below meth c H locs cells slots ls S hR hS hl hc hs
  exact lv_dup2_11 S.1 S.2.1 hd hv hw (k p e s m args below meth c H locs cells slots ls S hR hS hl hc hs)
theorem j_ldc {n : Nat} (v : Int32) (hd : decode M.cc pc = .ok (.ldc n, 2)) (hw : Cond.constant M.own n v ∈ WT) (k : J l G M QF ck sk (pc + 2) L (.int v :: st) h) : J l G M QF ck sk pc L (st) h := by
  intro p e s m args below meth c H locs cells slots ls S hR hS hl hc hs
  exact lv_ldc S.1 S.2.1 S.2.2.2.2.2.2.2.1 (S.2.2.2.2.2.2.2.2.1 _ hw) hd (k p e s m args below meth c H locs cells slots ls S hR hS hl hc hs)
theorem j_ldcw {n : Nat} (v : Int32) (hd : decode M.cc pc = .ok (.ldc_w n, 3)) (hw : Cond.constant M.own n v ∈ WT) (k : J l G M QF ck sk (pc + 3) L (.int v :: st) h) : J l G M QF ck sk pc L (st) h := by
  intro p e s m args below meth c H locs cells slots ls S hR hS hl hc hs
  exact lv_ldcw S.1 S.2.1 S.2.2.2.2.2.2.2.1 (S.2.2.2.2.2.2.2.2.1 _ hw) hd (k p e s m args below meth c H locs cells slots ls S hR hS hl hc hs)
theorem j_ldc2 {n : Nat} (v : Int64) (hd : decode M.cc pc = .ok (.ldc2_w n, 3)) (hw : Cond.constantLong M.own n v ∈ WT) (k : J l G M QF ck sk (pc + 3) L (.long v :: st) h) : J l G M QF ck sk pc L (st) h := by
  intro p e s m args below meth c H locs cells slots ls S hR hS hl hc hs
  exact lv_ldc2 S.1 S.2.1 S.2.2.2.2.2.2.2.1 (S.2.2.2.2.2.2.2.2.1 _ hw) hd (k p e s m args below meth c H locs cells slots ls S hR hS hl hc hs)
theorem j_if_eq {x : Int32} {off : Int} (tgt : Nat) (hd : decode M.cc pc = .ok (.ifCond .eq off, 3)) (ht : (pc : Int) + off = (tgt : Int)) (kt : x = 0 → J l G M QF ck sk tgt L st h) (kf : ¬ x = 0 → J l G M QF ck sk (pc + 3) L st h) : J l G M QF ck sk pc L (.int x :: st) h := by
  intro p e s m args below meth c H locs cells slots ls S hR hS hl hc hs
  exact lv_if_eq S.1 S.2.1 hd ht (fun q => kt q p e s m args below meth c H locs cells slots ls S hR hS hl hc hs) (fun q => kf q p e s m args below meth c H locs cells slots ls S hR hS hl hc hs)
theorem j_icmp_eq {x y : Int32} {off : Int} (tgt : Nat) (hd : decode M.cc pc = .ok (.if_icmp .eq off, 3)) (ht : (pc : Int) + off = (tgt : Int)) (kt : x = y → J l G M QF ck sk tgt L st h) (kf : ¬ x = y → J l G M QF ck sk (pc + 3) L st h) : J l G M QF ck sk pc L (.int y :: .int x :: st) h := by
  intro p e s m args below meth c H locs cells slots ls S hR hS hl hc hs
  exact lv_icmp_eq S.1 S.2.1 hd ht (fun q => kt q p e s m args below meth c H locs cells slots ls S hR hS hl hc hs) (fun q => kf q p e s m args below meth c H locs cells slots ls S hR hS hl hc hs)
theorem j_if_ne {x : Int32} {off : Int} (tgt : Nat) (hd : decode M.cc pc = .ok (.ifCond .ne off, 3)) (ht : (pc : Int) + off = (tgt : Int)) (kt : ¬ x = 0 → J l G M QF ck sk tgt L st h) (kf : x = 0 → J l G M QF ck sk (pc + 3) L st h) : J l G M QF ck sk pc L (.int x :: st) h := by
  intro p e s m args below meth c H locs cells slots ls S hR hS hl hc hs
  exact lv_if_ne S.1 S.2.1 hd ht (fun q => kt q p e s m args below meth c H locs cells slots ls S hR hS hl hc hs) (fun q => kf q p e s m args below meth c H locs cells slots ls S hR hS hl hc hs)
theorem j_icmp_ne {x y : Int32} {off : Int} (tgt : Nat) (hd : decode M.cc pc = .ok (.if_icmp .ne off, 3)) (ht : (pc : Int) + off = (tgt : Int)) (kt : ¬ x = y → J l G M QF ck sk tgt L st h) (kf : x = y → J l G M QF ck sk (pc + 3) L st h) : J l G M QF ck sk pc L (.int y :: .int x :: st) h := by
  intro p e s m args below meth c H locs cells slots ls S hR hS hl hc hs
  exact lv_icmp_ne S.1 S.2.1 hd ht (fun q => kt q p e s m args below meth c H locs cells slots ls S hR hS hl hc hs) (fun q => kf q p e s m args below meth c H locs cells slots ls S hR hS hl hc hs)
theorem j_if_lt {x : Int32} {off : Int} (tgt : Nat) (hd : decode M.cc pc = .ok (.ifCond .lt off, 3)) (ht : (pc : Int) + off = (tgt : Int)) (kt : x < 0 → J l G M QF ck sk tgt L st h) (kf : ¬ x < 0 → J l G M QF ck sk (pc + 3) L st h) : J l G M QF ck sk pc L (.int x :: st) h := by
  intro p e s m args below meth c H locs cells slots ls S hR hS hl hc hs
  exact lv_if_lt S.1 S.2.1 hd ht (fun q => kt q p e s m args below meth c H locs cells slots ls S hR hS hl hc hs) (fun q => kf q p e s m args below meth c H locs cells slots ls S hR hS hl hc hs)
theorem j_icmp_lt {x y : Int32} {off : Int} (tgt : Nat) (hd : decode M.cc pc = .ok (.if_icmp .lt off, 3)) (ht : (pc : Int) + off = (tgt : Int)) (kt : x < y → J l G M QF ck sk tgt L st h) (kf : ¬ x < y → J l G M QF ck sk (pc + 3) L st h) : J l G M QF ck sk pc L (.int y :: .int x :: st) h := by
  intro p e s m args below meth c H locs cells slots ls S hR hS hl hc hs
  exact lv_icmp_lt S.1 S.2.1 hd ht (fun q => kt q p e s m args below meth c H locs cells slots ls S hR hS hl hc hs) (fun q => kf q p e s m args below meth c H locs cells slots ls S hR hS hl hc hs)
theorem j_if_ge {x : Int32} {off : Int} (tgt : Nat) (hd : decode M.cc pc = .ok (.ifCond .ge off, 3)) (ht : (pc : Int) + off = (tgt : Int)) (kt : 0 ≤ x → J l G M QF ck sk tgt L st h) (kf : ¬ 0 ≤ x → J l G M QF ck sk (pc + 3) L st h) : J l G M QF ck sk pc L (.int x :: st) h := by
  intro p e s m args below meth c H locs cells slots ls S hR hS hl hc hs
  exact lv_if_ge S.1 S.2.1 hd ht (fun q => kt q p e s m args below meth c H locs cells slots ls S hR hS hl hc hs) (fun q => kf q p e s m args below meth c H locs cells slots ls S hR hS hl hc hs)
theorem j_icmp_ge {x y : Int32} {off : Int} (tgt : Nat) (hd : decode M.cc pc = .ok (.if_icmp .ge off, 3)) (ht : (pc : Int) + off = (tgt : Int)) (kt : y ≤ x → J l G M QF ck sk tgt L st h) (kf : ¬ y ≤ x → J l G M QF ck sk (pc + 3) L st h) : J l G M QF ck sk pc L (.int y :: .int x :: st) h := by
  intro p e s m args below meth c H locs cells slots ls S hR hS hl hc hs
  exact lv_icmp_ge S.1 S.2.1 hd ht (fun q => kt q p e s m args below meth c H locs cells slots ls S hR hS hl hc hs) (fun q => kf q p e s m args below meth c H locs cells slots ls S hR hS hl hc hs)
theorem j_if_gt {x : Int32} {off : Int} (tgt : Nat) (hd : decode M.cc pc = .ok (.ifCond .gt off, 3)) (ht : (pc : Int) + off = (tgt : Int)) (kt : 0 < x → J l G M QF ck sk tgt L st h) (kf : ¬ 0 < x → J l G M QF ck sk (pc + 3) L st h) : J l G M QF ck sk pc L (.int x :: st) h := by
  intro p e s m args below meth c H locs cells slots ls S hR hS hl hc hs
  exact lv_if_gt S.1 S.2.1 hd ht (fun q => kt q p e s m args below meth c H locs cells slots ls S hR hS hl hc hs) (fun q => kf q p e s m args below meth c H locs cells slots ls S hR hS hl hc hs)
theorem j_icmp_gt {x y : Int32} {off : Int} (tgt : Nat) (hd : decode M.cc pc = .ok (.if_icmp .gt off, 3)) (ht : (pc : Int) + off = (tgt : Int)) (kt : y < x → J l G M QF ck sk tgt L st h) (kf : ¬ y < x → J l G M QF ck sk (pc + 3) L st h) : J l G M QF ck sk pc L (.int y :: .int x :: st) h := by
  intro p e s m args below meth c H locs cells slots ls S hR hS hl hc hs
  exact lv_icmp_gt S.1 S.2.1 hd ht (fun q => kt q p e s m args below meth c H locs cells slots ls S hR hS hl hc hs) (fun q => kf q p e s m args below meth c H locs cells slots ls S hR hS hl hc hs)
theorem j_if_le {x : Int32} {off : Int} (tgt : Nat) (hd : decode M.cc pc = .ok (.ifCond .le off, 3)) (ht : (pc : Int) + off = (tgt : Int)) (kt : x ≤ 0 → J l G M QF ck sk tgt L st h) (kf : ¬ x ≤ 0 → J l G M QF ck sk (pc + 3) L st h) : J l G M QF ck sk pc L (.int x :: st) h := by
  intro p e s m args below meth c H locs cells slots ls S hR hS hl hc hs
  exact lv_if_le S.1 S.2.1 hd ht (fun q => kt q p e s m args below meth c H locs cells slots ls S hR hS hl hc hs) (fun q => kf q p e s m args below meth c H locs cells slots ls S hR hS hl hc hs)
theorem j_icmp_le {x y : Int32} {off : Int} (tgt : Nat) (hd : decode M.cc pc = .ok (.if_icmp .le off, 3)) (ht : (pc : Int) + off = (tgt : Int)) (kt : x ≤ y → J l G M QF ck sk tgt L st h) (kf : ¬ x ≤ y → J l G M QF ck sk (pc + 3) L st h) : J l G M QF ck sk pc L (.int y :: .int x :: st) h := by
  intro p e s m args below meth c H locs cells slots ls S hR hS hl hc hs
  exact lv_icmp_le S.1 S.2.1 hd ht (fun q => kt q p e s m args below meth c H locs cells slots ls S hR hS hl hc hs) (fun q => kf q p e s m args below meth c H locs cells slots ls S hR hS hl hc hs)
theorem j_goto {off : Int} (tgt : Nat) (hd : decode M.cc pc = .ok (.goto off, 3)) (ht : (pc : Int) + off = (tgt : Int)) (k : J l G M QF ck sk tgt L st h) : J l G M QF ck sk pc L st h := by
  intro p e s m args below meth c H locs cells slots ls S hR hS hl hc hs
  exact lv_goto S.1 S.2.1 hd ht (k p e s m args below meth c H locs cells slots ls S hR hS hl hc hs)
theorem j_tableOut {dflt lo hi : Int} {offs : Array Int} {len : Nat} {x : Int32} (tgt : Nat) (hd : decode M.cc pc = .ok (.tableswitch dflt lo hi offs, len)) (hx : x.toInt < lo ∨ hi < x.toInt) (ht : (pc : Int) + dflt = (tgt : Int)) (k : J l G M QF ck sk tgt L st h) : J l G M QF ck sk pc L (.int x :: st) h := by
  intro p e s m args below meth c H locs cells slots ls S hR hS hl hc hs
  exact lv_tableOut S.1 S.2.1 hd hx ht (k p e s m args below meth c H locs cells slots ls S hR hS hl hc hs)
theorem j_tableIn {dflt lo hi : Int} {offs : Array Int} {len : Nat} {x : Int32} {off : Int} (tgt : Nat) (hd : decode M.cc pc = .ok (.tableswitch dflt lo hi offs, len)) (h1 : ¬ x.toInt < lo) (h2 : ¬ hi < x.toInt) (ho : offs[(x.toInt - lo).toNat]? = some off) (ht : (pc : Int) + off = (tgt : Int)) (k : J l G M QF ck sk tgt L st h) : J l G M QF ck sk pc L (.int x :: st) h := by
  intro p e s m args below meth c H locs cells slots ls S hR hS hl hc hs
  exact lv_tableIn S.1 S.2.1 hd h1 h2 ho ht (k p e s m args below meth c H locs cells slots ls S hR hS hl hc hs)
def jget : List (Nat × Value) → Nat → Option Value
  | [], _ => none
  | q :: L, i => if q.1 == i then some q.2 else jget L i
theorem jget_mem : ∀ (L : List (Nat × Value)) (i : Nat) (v : Value), jget L i = some v → (i, v) ∈ L
  | [], i, v, h => by cases h
  | q :: L, i, v, h => by
    unfold jget at h
    by_cases hq : (q.1 == i) = true
    · rw [if_pos hq] at h
      cases h
      have e : q.1 = i := by simpa using hq
      subst e
      exact List.mem_cons_self
    · rw [if_neg hq] at h
      exact List.mem_cons_of_mem _ (jget_mem L i v h)
theorem jget_at {ls : Array Slot} {nL : Nat} {L : List (Nat × Value)} (hl : lv_has ls nL L) {i : Nat} {v : Value} (hg : jget L i = some v) : ls[i]? = some (.val v) := hl.2.2 _ (jget_mem L i v hg)
def jput (L : List (Nat × Value)) (i : Nat) (v : Value) : List (Nat × Value) := (i, v) :: L.filter (fun q => !(q.1 == i) && !(q.1 + 1 == i && q.2.category == 2))
def jput2 (L : List (Nat × Value)) (i : Nat) (v : Value) : List (Nat × Value) := (i, v) :: L.filter (fun q => !(q.1 == i) && (!(q.1 == i + 1) && !(q.1 + 1 == i && q.2.category == 2)))
theorem j_iload_n {k : Fin 4} {x : Int32} (i : Nat) (hd : decode M.cc pc = .ok (.iload_n k, 1)) (hi : (k : Nat) = i) (hg : jget L i = some (.int x)) (k : J l G M QF ck sk (pc + 1) L (.int x :: st) h) : J l G M QF ck sk pc L st h := by
  intro p e s m args below meth c H locs cells slots ls S hR hS hl hc hs
  exact lv_iload_n S.1 S.2.1 hd hi (jget_at hl hg) (k p e s m args below meth c H locs cells slots ls S hR hS hl hc hs)
theorem j_iload {i : Nat} {x : Int32} (hd : decode M.cc pc = .ok (.iload i, 2)) (hg : jget L i = some (.int x)) (k : J l G M QF ck sk (pc + 2) L (.int x :: st) h) : J l G M QF ck sk pc L st h := by
  intro p e s m args below meth c H locs cells slots ls S hR hS hl hc hs
  exact lv_iload S.1 S.2.1 hd (jget_at hl hg) (k p e s m args below meth c H locs cells slots ls S hR hS hl hc hs)
theorem j_istore_n {k : Fin 4} {x : Int32} (i : Nat) (hd : decode M.cc pc = .ok (.istore_n k, 1)) (hi : (k : Nat) = i) (hn : Nat.blt (i) M.nL = true) (hp : jput L i (.int x) = L') (k : J l G M QF ck sk (pc + 1) L' st h) : J l G M QF ck sk pc L (.int x :: st) h := by
  intro p e s m args below meth c H locs cells slots ls S hR hS hl hc hs
  exact lv_istore_n S.1 S.2.1 hd hi hl (Nat.le_of_ble_eq_true hn) hp (fun ls hl => k p e s m args below meth c H locs cells slots ls S hR hS hl hc hs)
theorem j_istore {i : Nat} {x : Int32} (hd : decode M.cc pc = .ok (.istore i, 2)) (hn : Nat.blt (i) M.nL = true) (hp : jput L i (.int x) = L') (k : J l G M QF ck sk (pc + 2) L' st h) : J l G M QF ck sk pc L (.int x :: st) h := by
  intro p e s m args below meth c H locs cells slots ls S hR hS hl hc hs
  exact lv_istore S.1 S.2.1 hd hl (Nat.le_of_ble_eq_true hn) hp (fun ls hl => k p e s m args below meth c H locs cells slots ls S hR hS hl hc hs)
theorem j_aload_n {k : Fin 4} {x : Nat} (i : Nat) (hd : decode M.cc pc = .ok (.aload_n k, 1)) (hi : (k : Nat) = i) (hg : jget L i = some (.ref x)) (k : J l G M QF ck sk (pc + 1) L (.ref x :: st) h) : J l G M QF ck sk pc L st h := by
  intro p e s m args below meth c H locs cells slots ls S hR hS hl hc hs
  exact lv_aload_n S.1 S.2.1 hd hi (jget_at hl hg) (k p e s m args below meth c H locs cells slots ls S hR hS hl hc hs)
theorem j_aload {i : Nat} {x : Nat} (hd : decode M.cc pc = .ok (.aload i, 2)) (hg : jget L i = some (.ref x)) (k : J l G M QF ck sk (pc + 2) L (.ref x :: st) h) : J l G M QF ck sk pc L st h := by
  intro p e s m args below meth c H locs cells slots ls S hR hS hl hc hs
  exact lv_aload S.1 S.2.1 hd (jget_at hl hg) (k p e s m args below meth c H locs cells slots ls S hR hS hl hc hs)
theorem j_astore_n {k : Fin 4} {x : Nat} (i : Nat) (hd : decode M.cc pc = .ok (.astore_n k, 1)) (hi : (k : Nat) = i) (hn : Nat.blt (i) M.nL = true) (hp : jput L i (.ref x) = L') (k : J l G M QF ck sk (pc + 1) L' st h) : J l G M QF ck sk pc L (.ref x :: st) h := by
  intro p e s m args below meth c H locs cells slots ls S hR hS hl hc hs
  exact lv_astore_n S.1 S.2.1 hd hi hl (Nat.le_of_ble_eq_true hn) hp (fun ls hl => k p e s m args below meth c H locs cells slots ls S hR hS hl hc hs)
theorem j_astore {i : Nat} {x : Nat} (hd : decode M.cc pc = .ok (.astore i, 2)) (hn : Nat.blt (i) M.nL = true) (hp : jput L i (.ref x) = L') (k : J l G M QF ck sk (pc + 2) L' st h) : J l G M QF ck sk pc L (.ref x :: st) h := by
  intro p e s m args below meth c H locs cells slots ls S hR hS hl hc hs
  exact lv_astore S.1 S.2.1 hd hl (Nat.le_of_ble_eq_true hn) hp (fun ls hl => k p e s m args below meth c H locs cells slots ls S hR hS hl hc hs)
theorem j_lload_n {k : Fin 4} {x : Int64} (i : Nat) (hd : decode M.cc pc = .ok (.lload_n k, 1)) (hi : (k : Nat) = i) (hg : jget L i = some (.long x)) (k : J l G M QF ck sk (pc + 1) L (.long x :: st) h) : J l G M QF ck sk pc L st h := by
  intro p e s m args below meth c H locs cells slots ls S hR hS hl hc hs
  exact lv_lload_n S.1 S.2.1 hd hi (jget_at hl hg) (k p e s m args below meth c H locs cells slots ls S hR hS hl hc hs)
theorem j_lload {i : Nat} {x : Int64} (hd : decode M.cc pc = .ok (.lload i, 2)) (hg : jget L i = some (.long x)) (k : J l G M QF ck sk (pc + 2) L (.long x :: st) h) : J l G M QF ck sk pc L st h := by
  intro p e s m args below meth c H locs cells slots ls S hR hS hl hc hs
  exact lv_lload S.1 S.2.1 hd (jget_at hl hg) (k p e s m args below meth c H locs cells slots ls S hR hS hl hc hs)
theorem j_lstore_n {k : Fin 4} {x : Int64} (i : Nat) (hd : decode M.cc pc = .ok (.lstore_n k, 1)) (hi : (k : Nat) = i) (hn : Nat.blt (i + 1) M.nL = true) (hp : jput2 L i (.long x) = L') (k : J l G M QF ck sk (pc + 1) L' st h) : J l G M QF ck sk pc L (.long x :: st) h := by
  intro p e s m args below meth c H locs cells slots ls S hR hS hl hc hs
  exact lv_lstore_n S.1 S.2.1 hd hi hl (Nat.le_of_ble_eq_true hn) hp (fun ls hl => k p e s m args below meth c H locs cells slots ls S hR hS hl hc hs)
theorem j_lstore {i : Nat} {x : Int64} (hd : decode M.cc pc = .ok (.lstore i, 2)) (hn : Nat.blt (i + 1) M.nL = true) (hp : jput2 L i (.long x) = L') (k : J l G M QF ck sk (pc + 2) L' st h) : J l G M QF ck sk pc L (.long x :: st) h := by
  intro p e s m args below meth c H locs cells slots ls S hR hS hl hc hs
  exact lv_lstore S.1 S.2.1 hd hl (Nat.le_of_ble_eq_true hn) hp (fun ls hl => k p e s m args below meth c H locs cells slots ls S hR hS hl hc hs)
theorem j_dload_n {k : Fin 4} {x : UInt64} (i : Nat) (hd : decode M.cc pc = .ok (.dload_n k, 1)) (hi : (k : Nat) = i) (hg : jget L i = some (.double x)) (k : J l G M QF ck sk (pc + 1) L (.double x :: st) h) : J l G M QF ck sk pc L st h := by
  intro p e s m args below meth c H locs cells slots ls S hR hS hl hc hs
  exact lv_dload_n S.1 S.2.1 hd hi (jget_at hl hg) (k p e s m args below meth c H locs cells slots ls S hR hS hl hc hs)
theorem j_dload {i : Nat} {x : UInt64} (hd : decode M.cc pc = .ok (.dload i, 2)) (hg : jget L i = some (.double x)) (k : J l G M QF ck sk (pc + 2) L (.double x :: st) h) : J l G M QF ck sk pc L st h := by
  intro p e s m args below meth c H locs cells slots ls S hR hS hl hc hs
  exact lv_dload S.1 S.2.1 hd (jget_at hl hg) (k p e s m args below meth c H locs cells slots ls S hR hS hl hc hs)
theorem j_dstore_n {k : Fin 4} {x : UInt64} (i : Nat) (hd : decode M.cc pc = .ok (.dstore_n k, 1)) (hi : (k : Nat) = i) (hn : Nat.blt (i + 1) M.nL = true) (hp : jput2 L i (.double x) = L') (k : J l G M QF ck sk (pc + 1) L' st h) : J l G M QF ck sk pc L (.double x :: st) h := by
  intro p e s m args below meth c H locs cells slots ls S hR hS hl hc hs
  exact lv_dstore_n S.1 S.2.1 hd hi hl (Nat.le_of_ble_eq_true hn) hp (fun ls hl => k p e s m args below meth c H locs cells slots ls S hR hS hl hc hs)
theorem j_dstore {i : Nat} {x : UInt64} (hd : decode M.cc pc = .ok (.dstore i, 2)) (hn : Nat.blt (i + 1) M.nL = true) (hp : jput2 L i (.double x) = L') (k : J l G M QF ck sk (pc + 2) L' st h) : J l G M QF ck sk pc L (.double x :: st) h := by
  intro p e s m args below meth c H locs cells slots ls S hR hS hl hc hs
  exact lv_dstore S.1 S.2.1 hd hl (Nat.le_of_ble_eq_true hn) hp (fun ls hl => k p e s m args below meth c H locs cells slots ls S hR hS hl hc hs)
theorem jget_place : ∀ (L : List (Nat × Value)) (i : Nat) (v : Value), jget L i = some v → ∃ k : Nat, L[k]? = some (i, v) := fun L i v h => List.getElem?_of_mem (jget_mem L i v h)
theorem j_iinc {i : Nat} {n : Int} {x : Int32} (v : Int32) (hd : decode M.cc pc = .ok (.iinc i n, 3)) (hg : jget L i = some (.int x)) (hv : x + Int32.ofInt n = v) (hn : Nat.blt i M.nL = true) (hp : jput L i (.int v) = L') (k : J l G M QF ck sk (pc + 3) L' st h) : J l G M QF ck sk pc L st h := by
  intro p e s m args below meth c H locs cells slots ls S hR hS hl hc hs
  obtain ⟨j, hj⟩ := jget_place L i _ hg
  exact lv_iinc S.1 S.2.1 hd hl hj hv (Nat.le_of_ble_eq_true hn) hp (fun ls hl => k p e s m args below meth c H locs cells slots ls S hR hS hl hc hs)
/-- fewer locals, less room -/
theorem j_sub (hsub : ∀ q ∈ L', q ∈ L) (k : J l G M QF ck sk pc L' st h) : J l G M QF ck sk pc L st h := by
  intro p e s m args below meth c H locs cells slots ls S hR hS hl hc hs
  exact k p e s m args below meth c H locs cells slots ls S hR hS ⟨hl.1, hl.2.1, fun q hq => hl.2.2 q (hsub q hq)⟩ hc hs
def jle : List (Nat × Value) → List (Nat × Value) → Prop
  | [], _ => True
  | q :: L', L => jget L q.1 = some q.2 ∧ jle L' L
theorem jle_sub : ∀ (L' L : List (Nat × Value)), jle L' L → ∀ q ∈ L', q ∈ L
  | [], _, _, q, hq => by cases hq
  | a :: L', L, hh, q, hq => by
    rcases List.mem_cons.mp hq with e | e
    · rw [e]; exact jget_mem L a.1 a.2 hh.1
    · exact jle_sub L' L hh.2 q e
theorem j_loc (hsub : jle L' L) (k : J l G M QF ck sk pc L' st h) : J l G M QF ck sk pc L st h := j_sub (jle_sub L' L hsub) k
theorem j_room {ck' sk' : Nat} (h1 : ck' ≤ ck) (h2 : sk' ≤ sk) (k : J l G M QF ck' sk' pc L st h) : J l G M QF ck sk pc L st h := by
  intro p e s m args below meth c H locs cells slots ls S hR hS hl hc hs
  exact k p e s m args below meth c H locs cells slots ls S hR hS hl (Nat.le_trans (Nat.add_le_add_left h1 _) hc) (Nat.le_trans (Nat.add_le_add_left h2 _) hs)
/-- a number on the stack gets a name -/
theorem j_top {v : Value} (k : ∀ w, w = v → J l G M QF ck sk pc L (w :: st) h) : J l G M QF ck sk pc L (v :: st) h := k v rfl
theorem j_topi {x y : Int32} (e : x = y) (k : J l G M QF ck sk pc L (.int y :: st) h) : J l G M QF ck sk pc L (.int x :: st) h := by rw [e]; exact k
theorem j_eq {st' : List Value} (e : st = st') (k : J l G M QF ck sk pc L st' h) : J l G M QF ck sk pc L st h := by rw [e]; exact k
end JR
