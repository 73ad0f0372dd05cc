section RULES
variable {G : vG} {l : Launch} {y : MethodName} {cc : ByteArray} {nL : Nat} {ret : Option FieldType} {d mc ms : Nat} {Q : Option Value → VW → Prop} {pc : Nat} {lv : List (Option Value)} {st : List Value} {w : VW} {k n : Nat}
theorem R_iadd {a b : Int32} (hdg : decode cc pc = .ok (.iadd, 1)) (kk : R G l y cc nL ret d mc ms Q (pc + 1) lv (.int (a + b) :: st) w k n) : R G l y cc nL ret d mc ms Q pc lv (.int b :: .int a :: st) w k n := by
  intro p e Rm s m args below meth c Qt C hret H locs ls hH hS hl
  exact lv_iadd C.1 C.2.1 hdg (kk p e Rm s m args below meth c Qt C hret H locs ls hH hS hl)
theorem R_isub {a b : Int32} (hdg : decode cc pc = .ok (.isub, 1)) (kk : R G l y cc nL ret d mc ms Q (pc + 1) lv (.int (a - b) :: st) w k n) : R G l y cc nL ret d mc ms Q pc lv (.int b :: .int a :: st) w k n := by
  intro p e Rm s m args below meth c Qt C hret H locs ls hH hS hl
  exact lv_isub C.1 C.2.1 hdg (kk p e Rm s m args below meth c Qt C hret H locs ls hH hS hl)
theorem R_imul {a b : Int32} (hdg : decode cc pc = .ok (.imul, 1)) (kk : R G l y cc nL ret d mc ms Q (pc + 1) lv (.int (a * b) :: st) w k n) : R G l y cc nL ret d mc ms Q pc lv (.int b :: .int a :: st) w k n := by
  intro p e Rm s m args below meth c Qt C hret H locs ls hH hS hl
  exact lv_imul C.1 C.2.1 hdg (kk p e Rm s m args below meth c Qt C hret H locs ls hH hS hl)
theorem R_iand {a b : Int32} (hdg : decode cc pc = .ok (.iand, 1)) (kk : R G l y cc nL ret d mc ms Q (pc + 1) lv (.int (a &&& b) :: st) w k n) : R G l y cc nL ret d mc ms Q pc lv (.int b :: .int a :: st) w k n := by
  intro p e Rm s m args below meth c Qt C hret H locs ls hH hS hl
  exact lv_iand C.1 C.2.1 hdg (kk p e Rm s m args below meth c Qt C hret H locs ls hH hS hl)
theorem R_ior {a b : Int32} (hdg : decode cc pc = .ok (.ior, 1)) (kk : R G l y cc nL ret d mc ms Q (pc + 1) lv (.int (a ||| b) :: st) w k n) : R G l y cc nL ret d mc ms Q pc lv (.int b :: .int a :: st) w k n := by
  intro p e Rm s m args below meth c Qt C hret H locs ls hH hS hl
  exact lv_ior C.1 C.2.1 hdg (kk p e Rm s m args below meth c Qt C hret H locs ls hH hS hl)
theorem R_ixor {a b : Int32} (hdg : decode cc pc = .ok (.ixor, 1)) (kk : R G l y cc nL ret d mc ms Q (pc + 1) lv (.int (a ^^^ b) :: st) w k n) : R G l y cc nL ret d mc ms Q pc lv (.int b :: .int a :: st) w k n := by
  intro p e Rm s m args below meth c Qt C hret H locs ls hH hS hl
  exact lv_ixor C.1 C.2.1 hdg (kk p e Rm s m args below meth c Qt C hret H locs ls hH hS hl)
theorem R_idiv {a b : Int32} (hdg : decode cc pc = .ok (.idiv, 1)) (hne : ¬ b = 0) (kk : R G l y cc nL ret d mc ms Q (pc + 1) lv (.int (a / b) :: st) w k n) : R G l y cc nL ret d mc ms Q pc lv (.int b :: .int a :: st) w k n := by
  intro p e Rm s m args below meth c Qt C hret H locs ls hH hS hl
  exact lv_idiv C.1 C.2.1 hdg hne (kk p e Rm s m args below meth c Qt C hret H locs ls hH hS hl)
theorem R_irem {a b : Int32} (hdg : decode cc pc = .ok (.irem, 1)) (hne : ¬ b = 0) (kk : R G l y cc nL ret d mc ms Q (pc + 1) lv (.int (a - a / b * b) :: st) w k n) : R G l y cc nL ret d mc ms Q pc lv (.int b :: .int a :: st) w k n := by
  intro p e Rm s m args below meth c Qt C hret H locs ls hH hS hl
  exact lv_irem C.1 C.2.1 hdg hne (kk p e Rm s m args below meth c Qt C hret H locs ls hH hS hl)
theorem R_ishl {a b : Int32} (hdg : decode cc pc = .ok (.ishl, 1)) (kk : R G l y cc nL ret d mc ms Q (pc + 1) lv (.int (a <<< (b &&& 31)) :: st) w k n) : R G l y cc nL ret d mc ms Q pc lv (.int b :: .int a :: st) w k n := by
  intro p e Rm s m args below meth c Qt C hret H locs ls hH hS hl
  exact lv_ishl C.1 C.2.1 hdg (kk p e Rm s m args below meth c Qt C hret H locs ls hH hS hl)
theorem R_ishr {a b : Int32} (hdg : decode cc pc = .ok (.ishr, 1)) (kk : R G l y cc nL ret d mc ms Q (pc + 1) lv (.int (a >>> (b &&& 31)) :: st) w k n) : R G l y cc nL ret d mc ms Q pc lv (.int b :: .int a :: st) w k n := by
  intro p e Rm s m args below meth c Qt C hret H locs ls hH hS hl
  exact lv_ishr C.1 C.2.1 hdg (kk p e Rm s m args below meth c Qt C hret H locs ls hH hS hl)
theorem R_iushr {a b : Int32} (hdg : decode cc pc = .ok (.iushr, 1)) (kk : R G l y cc nL ret d mc ms Q (pc + 1) lv (.int ((a.toUInt32 >>> (b.toUInt32 &&& Int32.toUInt32 31)).toInt32) :: st) w k n) : R G l y cc nL ret d mc ms Q pc lv (.int b :: .int a :: st) w k n := by
  intro p e Rm s m args below meth c Qt C hret H locs ls hH hS hl
  exact lv_iushr C.1 C.2.1 hdg rfl (kk p e Rm s m args below meth c Qt C hret H locs ls hH hS hl)
theorem R_ineg {a : Int32} (hdg : decode cc pc = .ok (.ineg, 1)) (kk : R G l y cc nL ret d mc ms Q (pc + 1) lv (.int (-a) :: st) w k n) : R G l y cc nL ret d mc ms Q pc lv (.int a :: st) w k n := by
  intro p e Rm s m args below meth c Qt C hret H locs ls hH hS hl
  exact lv_ineg C.1 C.2.1 hdg (kk p e Rm s m args below meth c Qt C hret H locs ls hH hS hl)
theorem R_ladd {a b : Int64} (hdg : decode cc pc = .ok (.ladd, 1)) (kk : R G l y cc nL ret d mc ms Q (pc + 1) lv (.long (a + b) :: st) w k n) : R G l y cc nL ret d mc ms Q pc lv (.long b :: .long a :: st) w k n := by
  intro p e Rm s m args below meth c Qt C hret H locs ls hH hS hl
  exact lv_ladd C.1 C.2.1 hdg (kk p e Rm s m args below meth c Qt C hret H locs ls hH hS hl)
theorem R_lsub {a b : Int64} (hdg : decode cc pc = .ok (.lsub, 1)) (kk : R G l y cc nL ret d mc ms Q (pc + 1) lv (.long (a - b) :: st) w k n) : R G l y cc nL ret d mc ms Q pc lv (.long b :: .long a :: st) w k n := by
  intro p e Rm s m args below meth c Qt C hret H locs ls hH hS hl
  exact lv_lsub C.1 C.2.1 hdg (kk p e Rm s m args below meth c Qt C hret H locs ls hH hS hl)
theorem R_lmul {a b : Int64} (hdg : decode cc pc = .ok (.lmul, 1)) (kk : R G l y cc nL ret d mc ms Q (pc + 1) lv (.long (a * b) :: st) w k n) : R G l y cc nL ret d mc ms Q pc lv (.long b :: .long a :: st) w k n := by
  intro p e Rm s m args below meth c Qt C hret H locs ls hH hS hl
  exact lv_lmul C.1 C.2.1 hdg (kk p e Rm s m args below meth c Qt C hret H locs ls hH hS hl)
theorem R_land {a b : Int64} (hdg : decode cc pc = .ok (.land, 1)) (kk : R G l y cc nL ret d mc ms Q (pc + 1) lv (.long (a &&& b) :: st) w k n) : R G l y cc nL ret d mc ms Q pc lv (.long b :: .long a :: st) w k n := by
  intro p e Rm s m args below meth c Qt C hret H locs ls hH hS hl
  exact lv_land C.1 C.2.1 hdg (kk p e Rm s m args below meth c Qt C hret H locs ls hH hS hl)
theorem R_lor {a b : Int64} (hdg : decode cc pc = .ok (.lor, 1)) (kk : R G l y cc nL ret d mc ms Q (pc + 1) lv (.long (a ||| b) :: st) w k n) : R G l y cc nL ret d mc ms Q pc lv (.long b :: .long a :: st) w k n := by
  intro p e Rm s m args below meth c Qt C hret H locs ls hH hS hl
  exact lv_lor C.1 C.2.1 hdg (kk p e Rm s m args below meth c Qt C hret H locs ls hH hS hl)
theorem R_lxor {a b : Int64} (hdg : decode cc pc = .ok (.lxor, 1)) (kk : R G l y cc nL ret d mc ms Q (pc + 1) lv (.long (a ^^^ b) :: st) w k n) : R G l y cc nL ret d mc ms Q pc lv (.long b :: .long a :: st) w k n := by
  intro p e Rm s m args below meth c Qt C hret H locs ls hH hS hl
  exact lv_lxor C.1 C.2.1 hdg (kk p e Rm s m args below meth c Qt C hret H locs ls hH hS hl)
theorem R_lcmp {a b : Int64} (hdg : decode cc pc = .ok (.lcmp, 1)) (kk : R G l y cc nL ret d mc ms Q (pc + 1) lv (.int (lg_cmp a b) :: st) w k n) : R G l y cc nL ret d mc ms Q pc lv (.long b :: .long a :: st) w k n := by
  intro p e Rm s m args below meth c Qt C hret H locs ls hH hS hl
  exact W.lcmp C.1 C.2.1 hdg (kk p e Rm s m args below meth c Qt C hret H locs ls hH hS hl)
theorem R_lshl {a : Int64} {b : Int32} (hdg : decode cc pc = .ok (.lshl, 1)) (kk : R G l y cc nL ret d mc ms Q (pc + 1) lv (.long (a <<< (b.toInt64 &&& 63)) :: st) w k n) : R G l y cc nL ret d mc ms Q pc lv (.int b :: .long a :: st) w k n := by
  intro p e Rm s m args below meth c Qt C hret H locs ls hH hS hl
  exact lv_lshl C.1 C.2.1 hdg rfl (kk p e Rm s m args below meth c Qt C hret H locs ls hH hS hl)
theorem R_lshr {a : Int64} {b : Int32} (hdg : decode cc pc = .ok (.lshr, 1)) (kk : R G l y cc nL ret d mc ms Q (pc + 1) lv (.long (a >>> (b.toInt64 &&& 63)) :: st) w k n) : R G l y cc nL ret d mc ms Q pc lv (.int b :: .long a :: st) w k n := by
  intro p e Rm s m args below meth c Qt C hret H locs ls hH hS hl
  exact lv_lshr C.1 C.2.1 hdg rfl (kk p e Rm s m args below meth c Qt C hret H locs ls hH hS hl)
theorem R_lushr {a : Int64} {b : Int32} (hdg : decode cc pc = .ok (.lushr, 1)) (kk : R G l y cc nL ret d mc ms Q (pc + 1) lv (.long ((a.toUInt64 >>> (b.toInt64.toUInt64 &&& Int64.toUInt64 63)).toInt64) :: st) w k n) : R G l y cc nL ret d mc ms Q pc lv (.int b :: .long a :: st) w k n := by
  intro p e Rm s m args below meth c Qt C hret H locs ls hH hS hl
  exact lv_lushr C.1 C.2.1 hdg rfl (kk p e Rm s m args below meth c Qt C hret H locs ls hH hS hl)
theorem R_i2l {a : Int32} (hdg : decode cc pc = .ok (.i2l, 1)) (kk : R G l y cc nL ret d mc ms Q (pc + 1) lv (.long a.toInt64 :: st) w k n) : R G l y cc nL ret d mc ms Q pc lv (.int a :: st) w k n := by
  intro p e Rm s m args below meth c Qt C hret H locs ls hH hS hl
  exact lv_i2l C.1 C.2.1 hdg rfl (kk p e Rm s m args below meth c Qt C hret H locs ls hH hS hl)
theorem R_l2i {a : Int64} (hdg : decode cc pc = .ok (.l2i, 1)) (kk : R G l y cc nL ret d mc ms Q (pc + 1) lv (.int a.toInt32 :: st) w k n) : R G l y cc nL ret d mc ms Q pc lv (.long a :: st) w k n := by
  intro p e Rm s m args below meth c Qt C hret H locs ls hH hS hl
  exact lv_l2i C.1 C.2.1 hdg rfl (kk p e Rm s m args below meth c Qt C hret H locs ls hH hS hl)
theorem R_i2c {a : Int32} (hdg : decode cc pc = .ok (.i2c, 1)) (kk : R G l y cc nL ret d mc ms Q (pc + 1) lv (.int (a.toUInt32 % 65536).toInt32 :: st) w k n) : R G l y cc nL ret d mc ms Q pc lv (.int a :: st) w k n := by
  intro p e Rm s m args below meth c Qt C hret H locs ls hH hS hl
  exact lv_i2c C.1 C.2.1 hdg rfl (kk p e Rm s m args below meth c Qt C hret H locs ls hH hS hl)
theorem R_iconst {i : Int} {v : Int32} (hdg : decode cc pc = .ok (.iconst i, 1)) (hv : Int32.ofInt i = v) (kk : R G l y cc nL ret d mc ms Q (pc + 1) lv (.int v :: st) w k n) : R G l y cc nL ret d mc ms Q pc lv st w k n := by
  intro p e Rm s m args below meth c Qt C hret H locs ls hH hS hl
  exact lv_iconst C.1 C.2.1 hdg hv (kk p e Rm s m args below meth c Qt C hret H locs ls hH hS hl)
theorem R_bipush {i : Int} {v : Int32} (hdg : decode cc pc = .ok (.bipush i, 2)) (hv : (Int8.ofInt i).toInt32 = v) (kk : R G l y cc nL ret d mc ms Q (pc + 2) lv (.int v :: st) w k n) : R G l y cc nL ret d mc ms Q pc lv st w k n := by
  intro p e Rm s m args below meth c Qt C hret H locs ls hH hS hl
  exact lv_bipush C.1 C.2.1 hdg hv (kk p e Rm s m args below meth c Qt C hret H locs ls hH hS hl)
theorem R_sipush {i : Int} {v : Int32} (hdg : decode cc pc = .ok (.sipush i, 3)) (hv : (Int16.ofInt i).toInt32 = v) (kk : R G l y cc nL ret d mc ms Q (pc + 3) lv (.int v :: st) w k n) : R G l y cc nL ret d mc ms Q pc lv st w k n := by
  intro p e Rm s m args below meth c Qt C hret H locs ls hH hS hl
  exact lv_sipush C.1 C.2.1 hdg hv (kk p e Rm s m args below meth c Qt C hret H locs ls hH hS hl)
theorem R_lconst {i : Fin 2} {v : Int64} (hdg : decode cc pc = .ok (.lconst i, 1)) (hv : Int64.ofNat (i : Nat) = v) (kk : R G l y cc nL ret d mc ms Q (pc + 1) lv (.long v :: st) w k n) : R G l y cc nL ret d mc ms Q pc lv st w k n := by
  intro p e Rm s m args below meth c Qt C hret H locs ls hH hS hl
  exact lv_lconst C.1 C.2.1 hdg hv (kk p e Rm s m args below meth c Qt C hret H locs ls hH hS hl)
theorem R_dup {v : Value} (hdg : decode cc pc = .ok (.dup, 1)) (hv : v.category = 1) (kk : R G l y cc nL ret d mc ms Q (pc + 1) lv (v :: v :: st) w k n) : R G l y cc nL ret d mc ms Q pc lv (v :: st) w k n := by
  intro p e Rm s m args below meth c Qt C hret H locs ls hH hS hl
  exact lv_dup C.1 C.2.1 hdg ((tv_cat G v).trans hv) (kk p e Rm s m args below meth c Qt C hret H locs ls hH hS hl)
theorem R_pop {v : Value} (hdg : decode cc pc = .ok (.pop, 1)) (hv : v.category = 1) (kk : R G l y cc nL ret d mc ms Q (pc + 1) lv st w k n) : R G l y cc nL ret d mc ms Q pc lv (v :: st) w k n := by
  intro p e Rm s m args below meth c Qt C hret H locs ls hH hS hl
  exact lv_pop C.1 C.2.1 hdg ((tv_cat G v).trans hv) (kk p e Rm s m args below meth c Qt C hret H locs ls hH hS hl)
theorem R_dup2 {v u : Value} (hdg : decode cc pc = .ok (.dup2, 1)) (hv : v.category = 1) (hu : u.category = 1) (kk : R G l y cc nL ret d mc ms Q (pc + 1) lv (v :: u :: v :: u :: st) w k n) : R G l y cc nL ret d mc ms Q pc lv (v :: u :: st) w k n := by
  intro p e Rm s m args below meth c Qt C hret H locs ls hH hS hl
  exact lv_dup2_11 C.1 C.2.1 hdg ((tv_cat G v).trans hv) ((tv_cat G u).trans hu) (kk p e Rm s m args below meth c Qt C hret H locs ls hH hS hl)
theorem R_ifeq {a : Int32} {off : Int} (tgt : Nat) (hdg : decode cc pc = .ok (.ifCond .eq off, 3)) (ht : (pc : Int) + off = (tgt : Int)) (kt : a = 0 → R G l y cc nL ret d mc ms Q tgt lv st w k n) (kf : ¬ a = 0 → R G l y cc nL ret d mc ms Q (pc + 3) lv st w k n) : R G l y cc nL ret d mc ms Q pc lv (.int a :: st) w k n := by
  intro p e Rm s m args below meth c Qt C hret H locs ls hH hS hl
  exact lv_if_eq C.1 C.2.1 hdg ht (fun h => kt h p e Rm s m args below meth c Qt C hret H locs ls hH hS hl) (fun h => kf h p e Rm s m args below meth c Qt C hret H locs ls hH hS hl)
theorem R_iflt {a : Int32} {off : Int} (tgt : Nat) (hdg : decode cc pc = .ok (.ifCond .lt off, 3)) (ht : (pc : Int) + off = (tgt : Int)) (kt : a < 0 → R G l y cc nL ret d mc ms Q tgt lv st w k n) (kf : ¬ a < 0 → R G l y cc nL ret d mc ms Q (pc + 3) lv st w k n) : R G l y cc nL ret d mc ms Q pc lv (.int a :: st) w k n := by
  intro p e Rm s m args below meth c Qt C hret H locs ls hH hS hl
  exact lv_if_lt C.1 C.2.1 hdg ht (fun h => kt h p e Rm s m args below meth c Qt C hret H locs ls hH hS hl) (fun h => kf h p e Rm s m args below meth c Qt C hret H locs ls hH hS hl)
theorem R_ifge {a : Int32} {off : Int} (tgt : Nat) (hdg : decode cc pc = .ok (.ifCond .ge off, 3)) (ht : (pc : Int) + off = (tgt : Int)) (kt : 0 ≤ a → R G l y cc nL ret d mc ms Q tgt lv st w k n) (kf : ¬ 0 ≤ a → R G l y cc nL ret d mc ms Q (pc + 3) lv st w k n) : R G l y cc nL ret d mc ms Q pc lv (.int a :: st) w k n := by
  intro p e Rm s m args below meth c Qt C hret H locs ls hH hS hl
  exact lv_if_ge C.1 C.2.1 hdg ht (fun h => kt h p e Rm s m args below meth c Qt C hret H locs ls hH hS hl) (fun h => kf h p e Rm s m args below meth c Qt C hret H locs ls hH hS hl)
theorem R_ifgt {a : Int32} {off : Int} (tgt : Nat) (hdg : decode cc pc = .ok (.ifCond .gt off, 3)) (ht : (pc : Int) + off = (tgt : Int)) (kt : 0 < a → R G l y cc nL ret d mc ms Q tgt lv st w k n) (kf : ¬ 0 < a → R G l y cc nL ret d mc ms Q (pc + 3) lv st w k n) : R G l y cc nL ret d mc ms Q pc lv (.int a :: st) w k n := by
  intro p e Rm s m args below meth c Qt C hret H locs ls hH hS hl
  exact lv_if_gt C.1 C.2.1 hdg ht (fun h => kt h p e Rm s m args below meth c Qt C hret H locs ls hH hS hl) (fun h => kf h p e Rm s m args below meth c Qt C hret H locs ls hH hS hl)
theorem R_ifle {a : Int32} {off : Int} (tgt : Nat) (hdg : decode cc pc = .ok (.ifCond .le off, 3)) (ht : (pc : Int) + off = (tgt : Int)) (kt : a ≤ 0 → R G l y cc nL ret d mc ms Q tgt lv st w k n) (kf : ¬ a ≤ 0 → R G l y cc nL ret d mc ms Q (pc + 3) lv st w k n) : R G l y cc nL ret d mc ms Q pc lv (.int a :: st) w k n := by
  intro p e Rm s m args below meth c Qt C hret H locs ls hH hS hl
  exact lv_if_le C.1 C.2.1 hdg ht (fun h => kt h p e Rm s m args below meth c Qt C hret H locs ls hH hS hl) (fun h => kf h p e Rm s m args below meth c Qt C hret H locs ls hH hS hl)
theorem R_iceq {a b : Int32} {off : Int} (tgt : Nat) (hdg : decode cc pc = .ok (.if_icmp .eq off, 3)) (ht : (pc : Int) + off = (tgt : Int)) (kt : a = b → R G l y cc nL ret d mc ms Q tgt lv st w k n) (kf : ¬ a = b → R G l y cc nL ret d mc ms Q (pc + 3) lv st w k n) : R G l y cc nL ret d mc ms Q pc lv (.int b :: .int a :: st) w k n := by
  intro p e Rm s m args below meth c Qt C hret H locs ls hH hS hl
  exact lv_icmp_eq C.1 C.2.1 hdg ht (fun h => kt h p e Rm s m args below meth c Qt C hret H locs ls hH hS hl) (fun h => kf h p e Rm s m args below meth c Qt C hret H locs ls hH hS hl)
theorem R_iclt {a b : Int32} {off : Int} (tgt : Nat) (hdg : decode cc pc = .ok (.if_icmp .lt off, 3)) (ht : (pc : Int) + off = (tgt : Int)) (kt : a < b → R G l y cc nL ret d mc ms Q tgt lv st w k n) (kf : ¬ a < b → R G l y cc nL ret d mc ms Q (pc + 3) lv st w k n) : R G l y cc nL ret d mc ms Q pc lv (.int b :: .int a :: st) w k n := by
  intro p e Rm s m args below meth c Qt C hret H locs ls hH hS hl
  exact lv_icmp_lt C.1 C.2.1 hdg ht (fun h => kt h p e Rm s m args below meth c Qt C hret H locs ls hH hS hl) (fun h => kf h p e Rm s m args below meth c Qt C hret H locs ls hH hS hl)
theorem R_icge {a b : Int32} {off : Int} (tgt : Nat) (hdg : decode cc pc = .ok (.if_icmp .ge off, 3)) (ht : (pc : Int) + off = (tgt : Int)) (kt : b ≤ a → R G l y cc nL ret d mc ms Q tgt lv st w k n) (kf : ¬ b ≤ a → R G l y cc nL ret d mc ms Q (pc + 3) lv st w k n) : R G l y cc nL ret d mc ms Q pc lv (.int b :: .int a :: st) w k n := by
  intro p e Rm s m args below meth c Qt C hret H locs ls hH hS hl
  exact lv_icmp_ge C.1 C.2.1 hdg ht (fun h => kt h p e Rm s m args below meth c Qt C hret H locs ls hH hS hl) (fun h => kf h p e Rm s m args below meth c Qt C hret H locs ls hH hS hl)
theorem R_icgt {a b : Int32} {off : Int} (tgt : Nat) (hdg : decode cc pc = .ok (.if_icmp .gt off, 3)) (ht : (pc : Int) + off = (tgt : Int)) (kt : b < a → R G l y cc nL ret d mc ms Q tgt lv st w k n) (kf : ¬ b < a → R G l y cc nL ret d mc ms Q (pc + 3) lv st w k n) : R G l y cc nL ret d mc ms Q pc lv (.int b :: .int a :: st) w k n := by
  intro p e Rm s m args below meth c Qt C hret H locs ls hH hS hl
  exact lv_icmp_gt C.1 C.2.1 hdg ht (fun h => kt h p e Rm s m args below meth c Qt C hret H locs ls hH hS hl) (fun h => kf h p e Rm s m args below meth c Qt C hret H locs ls hH hS hl)
theorem R_icle {a b : Int32} {off : Int} (tgt : Nat) (hdg : decode cc pc = .ok (.if_icmp .le off, 3)) (ht : (pc : Int) + off = (tgt : Int)) (kt : a ≤ b → R G l y cc nL ret d mc ms Q tgt lv st w k n) (kf : ¬ a ≤ b → R G l y cc nL ret d mc ms Q (pc + 3) lv st w k n) : R G l y cc nL ret d mc ms Q pc lv (.int b :: .int a :: st) w k n := by
  intro p e Rm s m args below meth c Qt C hret H locs ls hH hS hl
  exact lv_icmp_le C.1 C.2.1 hdg ht (fun h => kt h p e Rm s m args below meth c Qt C hret H locs ls hH hS hl) (fun h => kf h p e Rm s m args below meth c Qt C hret H locs ls hH hS hl)
theorem R_ifne {a : Int32} {off : Int} (tgt : Nat) (hdg : decode cc pc = .ok (.ifCond .ne off, 3)) (ht : (pc : Int) + off = (tgt : Int)) (kt : ¬ a = 0 → R G l y cc nL ret d mc ms Q tgt lv st w k n) (kf : a = 0 → R G l y cc nL ret d mc ms Q (pc + 3) lv st w k n) : R G l y cc nL ret d mc ms Q pc lv (.int a :: st) w k n := by
  intro p e Rm s m args below meth c Qt C hret H locs ls hH hS hl
  exact lv_if_ne C.1 C.2.1 hdg ht (fun h => kt h p e Rm s m args below meth c Qt C hret H locs ls hH hS hl) (fun h => kf h p e Rm s m args below meth c Qt C hret H locs ls hH hS hl)
theorem R_icne {a b : Int32} {off : Int} (tgt : Nat) (hdg : decode cc pc = .ok (.if_icmp .ne off, 3)) (ht : (pc : Int) + off = (tgt : Int)) (kt : ¬ a = b → R G l y cc nL ret d mc ms Q tgt lv st w k n) (kf : a = b → R G l y cc nL ret d mc ms Q (pc + 3) lv st w k n) : R G l y cc nL ret d mc ms Q pc lv (.int b :: .int a :: st) w k n := by
  intro p e Rm s m args below meth c Qt C hret H locs ls hH hS hl
  exact lv_icmp_ne C.1 C.2.1 hdg ht (fun h => kt h p e Rm s m args below meth c Qt C hret H locs ls hH hS hl) (fun h => kf h p e Rm s m args below meth c Qt C hret H locs ls hH hS hl)
theorem R_goto {off : Int} (tgt : Nat) (hdg : decode cc pc = .ok (.goto off, 3)) (ht : (pc : Int) + off = (tgt : Int)) (kk : R G l y cc nL ret d mc ms Q tgt lv st w k n) : R G l y cc nL ret d mc ms Q pc lv st w k n := by
  intro p e Rm s m args below meth c Qt C hret H locs ls hH hS hl
  exact lv_goto C.1 C.2.1 hdg ht (kk p e Rm s m args below meth c Qt C hret H locs ls hH hS hl)
theorem R_tin {dflt lo hi : Int} {offs : Array Int} {len : Nat} {a : Int32} {off : Int} (tgt : Nat) (hdg : decode cc pc = .ok (.tableswitch dflt lo hi offs, len)) (h1 : ¬ a.toInt < lo) (h2 : ¬ hi < a.toInt) (ho : offs[(a.toInt - lo).toNat]? = some off) (ht : (pc : Int) + off = (tgt : Int)) (kk : R G l y cc nL ret d mc ms Q tgt lv st w k n) : R G l y cc nL ret d mc ms Q pc lv (.int a :: st) w k n := by
  intro p e Rm s m args below meth c Qt C hret H locs ls hH hS hl
  exact lv_tableIn C.1 C.2.1 hdg h1 h2 ho ht (kk p e Rm s m args below meth c Qt C hret H locs ls hH hS hl)
theorem R_tout {dflt lo hi : Int} {offs : Array Int} {len : Nat} {a : Int32} (tgt : Nat) (hdg : decode cc pc = .ok (.tableswitch dflt lo hi offs, len)) (h : a.toInt < lo ∨ hi < a.toInt) (ht : (pc : Int) + dflt = (tgt : Int)) (kk : R G l y cc nL ret d mc ms Q tgt lv st w k n) : R G l y cc nL ret d mc ms Q pc lv (.int a :: st) w k n := by
  intro p e Rm s m args below meth c Qt C hret H locs ls hH hS hl
  exact lv_tableOut C.1 C.2.1 hdg h ht (kk p e Rm s m args below meth c Qt C hret H locs ls hH hS hl)
theorem R_iret {v : Int32} {ty : FieldType} (hdg : decode cc pc = .ok (.ireturn, 1)) (hr : ret = some ty) (hv : narrow ty (.int v) = .int v) (hk : k ≤ mc) (hn : n ≤ ms) (hq : Q (some (.int v)) w) : R G l y cc nL ret d mc ms Q pc lv [.int v] w k n := by
  intro p e Rm s m args below meth c Qt C hret H locs ls hH hS hl
  exact hret (some (.int v)) w H locs k n pc ls hq hH hS hk hn hdg ⟨ty, hr, hv⟩
theorem R_lret {v : Int64} (hdg : decode cc pc = .ok (.lreturn, 1)) (hr : ret = some .long) (hk : k ≤ mc) (hn : n ≤ ms) (hq : Q (some (.long v)) w) : R G l y cc nL ret d mc ms Q pc lv [.long v] w k n := by
  intro p e Rm s m args below meth c Qt C hret H locs ls hH hS hl
  exact hret (some (.long v)) w H locs k n pc ls hq hH hS hk hn hdg hr
theorem R_vret (hdg : decode cc pc = .ok (.return_, 1)) (hr : ret = none) (hk : k ≤ mc) (hn : n ≤ ms) (hq : Q none w) : R G l y cc nL ret d mc ms Q pc lv [] w k n := by
  intro p e Rm s m args below meth c Qt C hret H locs ls hH hS hl
  exact hret none w H locs k n pc ls hq hH hS hk hn hdg hr
theorem R_ldc {index : Nat} {v : Int32} (hc : (Jvm.Cond.constant y.cls index v) ∈ TW) (hdg : decode cc pc = .ok (.ldc index, 2)) (kk : R G l y cc nL ret d mc ms Q (pc + 2) lv (.int v :: st) w k n) : R G l y cc nL ret d mc ms Q pc lv st w k n := by
  intro p e Rm s m args below meth c Qt C hret H locs ls hH hS hl
  exact lv_ldc C.1 C.2.1 C.2.2.2.1 (C.2.2.2.2.1 _ hc) hdg (kk p e Rm s m args below meth c Qt C hret H locs ls hH hS hl)
theorem R_ldc2 {index : Nat} {v : Int64} (hc : (Jvm.Cond.constantLong y.cls index v) ∈ TW) (hdg : decode cc pc = .ok (.ldc2_w index, 3)) (kk : R G l y cc nL ret d mc ms Q (pc + 3) lv (.long v :: st) w k n) : R G l y cc nL ret d mc ms Q pc lv st w k n := by
  intro p e Rm s m args below meth c Qt C hret H locs ls hH hS hl
  exact lv_ldc2 C.1 C.2.1 C.2.2.2.1 (C.2.2.2.2.1 _ hc) hdg (kk p e Rm s m args below meth c Qt C hret H locs ls hH hS hl)
theorem R_iload_n {j : Fin 4} {i : Nat} {x : Int32} (hdg : decode cc pc = .ok (.iload_n j, 1)) (hj : (j : Nat) = i) (h : lv[i]? = some (some (.int x))) (kk : R G l y cc nL ret d mc ms Q (pc + 1) lv (.int x :: st) w k n) : R G l y cc nL ret d mc ms Q pc lv st w k n := by
  intro p e Rm s m args below meth c Qt C hret H locs ls hH hS hl
  exact lv_iload_n C.1 C.2.1 hdg hj (hl.2.2 _ _ h) (kk p e Rm s m args below meth c Qt C hret H locs ls hH hS hl)
theorem R_iload {i : Nat} {x : Int32} (hdg : decode cc pc = .ok (.iload i, 2)) (h : lv[i]? = some (some (.int x))) (kk : R G l y cc nL ret d mc ms Q (pc + 2) lv (.int x :: st) w k n) : R G l y cc nL ret d mc ms Q pc lv st w k n := by
  intro p e Rm s m args below meth c Qt C hret H locs ls hH hS hl
  exact lv_iload C.1 C.2.1 hdg (hl.2.2 _ _ h) (kk p e Rm s m args below meth c Qt C hret H locs ls hH hS hl)
theorem R_lload_n {j : Fin 4} {i : Nat} {x : Int64} (hdg : decode cc pc = .ok (.lload_n j, 1)) (hj : (j : Nat) = i) (h : lv[i]? = some (some (.long x))) (kk : R G l y cc nL ret d mc ms Q (pc + 1) lv (.long x :: st) w k n) : R G l y cc nL ret d mc ms Q pc lv st w k n := by
  intro p e Rm s m args below meth c Qt C hret H locs ls hH hS hl
  exact lv_lload_n C.1 C.2.1 hdg hj (hl.2.2 _ _ h) (kk p e Rm s m args below meth c Qt C hret H locs ls hH hS hl)
theorem R_lload {i : Nat} {x : Int64} (hdg : decode cc pc = .ok (.lload i, 2)) (h : lv[i]? = some (some (.long x))) (kk : R G l y cc nL ret d mc ms Q (pc + 2) lv (.long x :: st) w k n) : R G l y cc nL ret d mc ms Q pc lv st w k n := by
  intro p e Rm s m args below meth c Qt C hret H locs ls hH hS hl
  exact lv_lload C.1 C.2.1 hdg (hl.2.2 _ _ h) (kk p e Rm s m args below meth c Qt C hret H locs ls hH hS hl)
theorem R_aload_n {j : Fin 4} {i : Nat} {x : Nat} (hdg : decode cc pc = .ok (.aload_n j, 1)) (hj : (j : Nat) = i) (h : lv[i]? = some (some (.ref x))) (kk : R G l y cc nL ret d mc ms Q (pc + 1) lv (.ref x :: st) w k n) : R G l y cc nL ret d mc ms Q pc lv st w k n := by
  intro p e Rm s m args below meth c Qt C hret H locs ls hH hS hl
  exact lv_aload_n C.1 C.2.1 hdg hj (hl.2.2 _ _ h) (kk p e Rm s m args below meth c Qt C hret H locs ls hH hS hl)
theorem R_aload {i : Nat} {x : Nat} (hdg : decode cc pc = .ok (.aload i, 2)) (h : lv[i]? = some (some (.ref x))) (kk : R G l y cc nL ret d mc ms Q (pc + 2) lv (.ref x :: st) w k n) : R G l y cc nL ret d mc ms Q pc lv st w k n := by
  intro p e Rm s m args below meth c Qt C hret H locs ls hH hS hl
  exact lv_aload C.1 C.2.1 hdg (hl.2.2 _ _ h) (kk p e Rm s m args below meth c Qt C hret H locs ls hH hS hl)
end RULES
def asL (G : vG) (lv : List (Option Value)) : List (Nat × Value) := lv.zipIdx.filterMap (fun q => q.1.map (fun v => (q.2, tv G v)))
theorem asL_mem {G : vG} {lv : List (Option Value)} {i : Nat} {v : Value} (h : lv[i]? = some (some v)) : (i, tv G v) ∈ asL G lv := by
  unfold asL
  refine List.mem_filterMap.mpr ⟨(some v, i), ?_, rfl⟩
  exact List.mem_zipIdx_iff_getElem?.mpr h
theorem asL_inv {G : vG} {lv : List (Option Value)} {q : Nat × Value} (h : q ∈ asL G lv) : ∃ v, lv[q.1]? = some (some v) ∧ q.2 = tv G v := by
  unfold asL at h
  obtain ⟨⟨o, i⟩, h1, h2⟩ := List.mem_filterMap.mp h
  have h3 := List.mem_zipIdx_iff_getElem?.mp h1
  cases o with
  | none => simp at h2
  | some v =>
    have : (i, tv G v) = q := by simpa using h2
    subst this
    exact ⟨v, h3, rfl⟩
theorem hasL_as {G : vG} {ls : Array Slot} {nL : Nat} {lv : List (Option Value)} (h : hasL G ls nL lv) : lv_has ls nL (asL G lv) := by
  refine ⟨h.1, h.2.1, fun q hq => ?_⟩
  obtain ⟨v, h1, h2⟩ := asL_inv hq
  rw [h2]
  exact h.2.2 _ _ h1
/-- one store of a value of one slot -/
theorem hasL_set1 {G : vG} {ls : Array Slot} {nL i : Nat} {lv lv' : List (Option Value)} {x : Value} (h : lv_has ls nL ((i, tv G x) :: (asL G lv).filter (fun q => !(q.1 == i) && !(q.1 + 1 == i && q.2.category == 2))))
    (h2 : ∀ (j : Nat) (v : Value), lv'[j]? = some (some v) → (j = i ∧ v = x) ∨ (j ≠ i ∧ lv[j]? = some (some v) ∧ (j + 1 = i → v.category ≠ 2))) : hasL G ls nL lv' := by
  refine ⟨h.1, h.2.1, fun j v hj => ?_⟩
  rcases h2 j v hj with ⟨rfl, rfl⟩ | ⟨h3, h4, h5⟩
  · exact h.2.2 _ List.mem_cons_self
  · refine h.2.2 (j, tv G v) (List.mem_cons_of_mem _ (List.mem_filter.mpr ⟨asL_mem h4, ?_⟩))
    by_cases h6 : j + 1 = i
    · simp [h3, tv_cat, h5 h6]
    · simp [h3, h6]
theorem hasL_set2 {G : vG} {ls : Array Slot} {nL i : Nat} {lv lv' : List (Option Value)} {x : Value} (h : lv_has ls nL ((i, tv G x) :: (asL G lv).filter (fun q => !(q.1 == i) && (!(q.1 == i + 1) && !(q.1 + 1 == i && q.2.category == 2)))))
    (h2 : ∀ (j : Nat) (v : Value), lv'[j]? = some (some v) → (j = i ∧ v = x) ∨ (j ≠ i ∧ j ≠ i + 1 ∧ lv[j]? = some (some v) ∧ (j + 1 = i → v.category ≠ 2))) : hasL G ls nL lv' := by
  refine ⟨h.1, h.2.1, fun j v hj => ?_⟩
  rcases h2 j v hj with ⟨rfl, rfl⟩ | ⟨h3, h3', h4, h5⟩
  · exact h.2.2 _ List.mem_cons_self
  · refine h.2.2 (j, tv G v) (List.mem_cons_of_mem _ (List.mem_filter.mpr ⟨asL_mem h4, ?_⟩))
    by_cases h6 : j + 1 = i
    · simp [h3, h3', tv_cat, h5 h6]
    · simp [h3, h3', h6]
