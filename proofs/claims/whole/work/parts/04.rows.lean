section XROWS
variable {E : XE} {y : XM} {d mc ms kc ks pc q : Nat} {Q : XQ} {ls : List (Option Value)} {st : List Value} {sh : XSh} {I : XI} {R : XRf} {L : XL}
theorem xv_iadd {a b : Int32} (hq : pc + 1 = q) (hd : decode y.2.1 pc = .ok (.iadd, 1))  (k : XV E y d mc ms Q kc ks q ls (.int (a + b) :: st) sh I R L) : XV E y d mc ms Q kc ks pc ls (.int b :: .int a :: st) sh I R L := by
  subst hq
  intro p e s m args below meth c H locs cells slots arr hB hR hS hc hk hn hl
  exact lv_iadd hB.1 hB.2.1 hd (k p e s m args below meth c H locs cells slots arr hB hR hS hc hk hn hl)
theorem xv_isub {a b : Int32} (hq : pc + 1 = q) (hd : decode y.2.1 pc = .ok (.isub, 1))  (k : XV E y d mc ms Q kc ks q ls (.int (a - b) :: st) sh I R L) : XV E y d mc ms Q kc ks pc ls (.int b :: .int a :: st) sh I R L := by
  subst hq
  intro p e s m args below meth c H locs cells slots arr hB hR hS hc hk hn hl
  exact lv_isub hB.1 hB.2.1 hd (k p e s m args below meth c H locs cells slots arr hB hR hS hc hk hn hl)
theorem xv_imul {a b : Int32} (hq : pc + 1 = q) (hd : decode y.2.1 pc = .ok (.imul, 1))  (k : XV E y d mc ms Q kc ks q ls (.int (a * b) :: st) sh I R L) : XV E y d mc ms Q kc ks pc ls (.int b :: .int a :: st) sh I R L := by
  subst hq
  intro p e s m args below meth c H locs cells slots arr hB hR hS hc hk hn hl
  exact lv_imul hB.1 hB.2.1 hd (k p e s m args below meth c H locs cells slots arr hB hR hS hc hk hn hl)
theorem xv_iand {a b : Int32} (hq : pc + 1 = q) (hd : decode y.2.1 pc = .ok (.iand, 1))  (k : XV E y d mc ms Q kc ks q ls (.int (a &&& b) :: st) sh I R L) : XV E y d mc ms Q kc ks pc ls (.int b :: .int a :: st) sh I R L := by
  subst hq
  intro p e s m args below meth c H locs cells slots arr hB hR hS hc hk hn hl
  exact lv_iand hB.1 hB.2.1 hd (k p e s m args below meth c H locs cells slots arr hB hR hS hc hk hn hl)
theorem xv_ior {a b : Int32} (hq : pc + 1 = q) (hd : decode y.2.1 pc = .ok (.ior, 1))  (k : XV E y d mc ms Q kc ks q ls (.int (a ||| b) :: st) sh I R L) : XV E y d mc ms Q kc ks pc ls (.int b :: .int a :: st) sh I R L := by
  subst hq
  intro p e s m args below meth c H locs cells slots arr hB hR hS hc hk hn hl
  exact lv_ior hB.1 hB.2.1 hd (k p e s m args below meth c H locs cells slots arr hB hR hS hc hk hn hl)
theorem xv_ixor {a b : Int32} (hq : pc + 1 = q) (hd : decode y.2.1 pc = .ok (.ixor, 1))  (k : XV E y d mc ms Q kc ks q ls (.int (a ^^^ b) :: st) sh I R L) : XV E y d mc ms Q kc ks pc ls (.int b :: .int a :: st) sh I R L := by
  subst hq
  intro p e s m args below meth c H locs cells slots arr hB hR hS hc hk hn hl
  exact lv_ixor hB.1 hB.2.1 hd (k p e s m args below meth c H locs cells slots arr hB hR hS hc hk hn hl)
theorem xv_ishl {a b : Int32} (hq : pc + 1 = q) (hd : decode y.2.1 pc = .ok (.ishl, 1))  (k : XV E y d mc ms Q kc ks q ls (.int (a <<< (b &&& 31)) :: st) sh I R L) : XV E y d mc ms Q kc ks pc ls (.int b :: .int a :: st) sh I R L := by
  subst hq
  intro p e s m args below meth c H locs cells slots arr hB hR hS hc hk hn hl
  exact lv_ishl hB.1 hB.2.1 hd (k p e s m args below meth c H locs cells slots arr hB hR hS hc hk hn hl)
theorem xv_ishr {a b : Int32} (hq : pc + 1 = q) (hd : decode y.2.1 pc = .ok (.ishr, 1))  (k : XV E y d mc ms Q kc ks q ls (.int (a >>> (b &&& 31)) :: st) sh I R L) : XV E y d mc ms Q kc ks pc ls (.int b :: .int a :: st) sh I R L := by
  subst hq
  intro p e s m args below meth c H locs cells slots arr hB hR hS hc hk hn hl
  exact lv_ishr hB.1 hB.2.1 hd (k p e s m args below meth c H locs cells slots arr hB hR hS hc hk hn hl)
theorem xv_iushr {a b : Int32} (hq : pc + 1 = q) (hd : decode y.2.1 pc = .ok (.iushr, 1))  (k : XV E y d mc ms Q kc ks q ls (.int ((a.toUInt32 >>> (b.toUInt32 &&& Int32.toUInt32 31)).toInt32) :: st) sh I R L) : XV E y d mc ms Q kc ks pc ls (.int b :: .int a :: st) sh I R L := by
  subst hq
  intro p e s m args below meth c H locs cells slots arr hB hR hS hc hk hn hl
  exact lv_iushr hB.1 hB.2.1 hd rfl (k p e s m args below meth c H locs cells slots arr hB hR hS hc hk hn hl)
theorem xv_idiv {a b : Int32} (hq : pc + 1 = q) (hd : decode y.2.1 pc = .ok (.idiv, 1)) (hne : ¬ b = 0) (k : XV E y d mc ms Q kc ks q ls (.int (a / b) :: st) sh I R L) : XV E y d mc ms Q kc ks pc ls (.int b :: .int a :: st) sh I R L := by
  subst hq
  intro p e s m args below meth c H locs cells slots arr hB hR hS hc hk hn hl
  exact lv_idiv hB.1 hB.2.1 hd hne (k p e s m args below meth c H locs cells slots arr hB hR hS hc hk hn hl)
theorem xv_irem {a b : Int32} (hq : pc + 1 = q) (hd : decode y.2.1 pc = .ok (.irem, 1)) (hne : ¬ b = 0) (k : XV E y d mc ms Q kc ks q ls (.int (a - a / b * b) :: st) sh I R L) : XV E y d mc ms Q kc ks pc ls (.int b :: .int a :: st) sh I R L := by
  subst hq
  intro p e s m args below meth c H locs cells slots arr hB hR hS hc hk hn hl
  exact lv_irem hB.1 hB.2.1 hd hne (k p e s m args below meth c H locs cells slots arr hB hR hS hc hk hn hl)
theorem xv_ladd {a b : Int64} (hq : pc + 1 = q) (hd : decode y.2.1 pc = .ok (.ladd, 1))  (k : XV E y d mc ms Q kc ks q ls (.long (a + b) :: st) sh I R L) : XV E y d mc ms Q kc ks pc ls (.long b :: .long a :: st) sh I R L := by
  subst hq
  intro p e s m args below meth c H locs cells slots arr hB hR hS hc hk hn hl
  exact lv_ladd hB.1 hB.2.1 hd (k p e s m args below meth c H locs cells slots arr hB hR hS hc hk hn hl)
theorem xv_lsub {a b : Int64} (hq : pc + 1 = q) (hd : decode y.2.1 pc = .ok (.lsub, 1))  (k : XV E y d mc ms Q kc ks q ls (.long (a - b) :: st) sh I R L) : XV E y d mc ms Q kc ks pc ls (.long b :: .long a :: st) sh I R L := by
  subst hq
  intro p e s m args below meth c H locs cells slots arr hB hR hS hc hk hn hl
  exact lv_lsub hB.1 hB.2.1 hd (k p e s m args below meth c H locs cells slots arr hB hR hS hc hk hn hl)
theorem xv_lmul {a b : Int64} (hq : pc + 1 = q) (hd : decode y.2.1 pc = .ok (.lmul, 1))  (k : XV E y d mc ms Q kc ks q ls (.long (a * b) :: st) sh I R L) : XV E y d mc ms Q kc ks pc ls (.long b :: .long a :: st) sh I R L := by
  subst hq
  intro p e s m args below meth c H locs cells slots arr hB hR hS hc hk hn hl
  exact lv_lmul hB.1 hB.2.1 hd (k p e s m args below meth c H locs cells slots arr hB hR hS hc hk hn hl)
theorem xv_ldiv {a b : Int64} (hq : pc + 1 = q) (hd : decode y.2.1 pc = .ok (.ldiv, 1)) (hne : ¬ b = 0) (k : XV E y d mc ms Q kc ks q ls (.long (a / b) :: st) sh I R L) : XV E y d mc ms Q kc ks pc ls (.long b :: .long a :: st) sh I R L := by
  subst hq
  intro p e s m args below meth c H locs cells slots arr hB hR hS hc hk hn hl
  exact lv_ldiv hB.1 hB.2.1 hd hne (k p e s m args below meth c H locs cells slots arr hB hR hS hc hk hn hl)
theorem xv_lrem {a b : Int64} (hq : pc + 1 = q) (hd : decode y.2.1 pc = .ok (.lrem, 1)) (hne : ¬ b = 0) (k : XV E y d mc ms Q kc ks q ls (.long (a - a / b * b) :: st) sh I R L) : XV E y d mc ms Q kc ks pc ls (.long b :: .long a :: st) sh I R L := by
  subst hq
  intro p e s m args below meth c H locs cells slots arr hB hR hS hc hk hn hl
  exact lv_lrem hB.1 hB.2.1 hd hne (k p e s m args below meth c H locs cells slots arr hB hR hS hc hk hn hl)
theorem xv_ineg {a : Int32} (hq : pc + 1 = q) (hd : decode y.2.1 pc = .ok (.ineg, 1))  (k : XV E y d mc ms Q kc ks q ls (.int (-a) :: st) sh I R L) : XV E y d mc ms Q kc ks pc ls (.int a :: st) sh I R L := by
  subst hq
  intro p e s m args below meth c H locs cells slots arr hB hR hS hc hk hn hl
  exact lv_ineg hB.1 hB.2.1 hd (k p e s m args below meth c H locs cells slots arr hB hR hS hc hk hn hl)
theorem xv_i2l {a : Int32} (hq : pc + 1 = q) (hd : decode y.2.1 pc = .ok (.i2l, 1))  (k : XV E y d mc ms Q kc ks q ls (.long a.toInt64 :: st) sh I R L) : XV E y d mc ms Q kc ks pc ls (.int a :: st) sh I R L := by
  subst hq
  intro p e s m args below meth c H locs cells slots arr hB hR hS hc hk hn hl
  exact lv_i2l hB.1 hB.2.1 hd rfl (k p e s m args below meth c H locs cells slots arr hB hR hS hc hk hn hl)
theorem xv_l2i {a : Int64} (hq : pc + 1 = q) (hd : decode y.2.1 pc = .ok (.l2i, 1))  (k : XV E y d mc ms Q kc ks q ls (.int a.toInt32 :: st) sh I R L) : XV E y d mc ms Q kc ks pc ls (.long a :: st) sh I R L := by
  subst hq
  intro p e s m args below meth c H locs cells slots arr hB hR hS hc hk hn hl
  exact lv_l2i hB.1 hB.2.1 hd rfl (k p e s m args below meth c H locs cells slots arr hB hR hS hc hk hn hl)
theorem xv_i2b {a : Int32} (hq : pc + 1 = q) (hd : decode y.2.1 pc = .ok (.i2b, 1))  (k : XV E y d mc ms Q kc ks q ls (.int a.toInt8.toInt32 :: st) sh I R L) : XV E y d mc ms Q kc ks pc ls (.int a :: st) sh I R L := by
  subst hq
  intro p e s m args below meth c H locs cells slots arr hB hR hS hc hk hn hl
  exact lv_i2b hB.1 hB.2.1 hd rfl (k p e s m args below meth c H locs cells slots arr hB hR hS hc hk hn hl)
theorem xv_i2s {a : Int32} (hq : pc + 1 = q) (hd : decode y.2.1 pc = .ok (.i2s, 1))  (k : XV E y d mc ms Q kc ks q ls (.int a.toInt16.toInt32 :: st) sh I R L) : XV E y d mc ms Q kc ks pc ls (.int a :: st) sh I R L := by
  subst hq
  intro p e s m args below meth c H locs cells slots arr hB hR hS hc hk hn hl
  exact lv_i2s hB.1 hB.2.1 hd rfl (k p e s m args below meth c H locs cells slots arr hB hR hS hc hk hn hl)
theorem xv_i2c {a : Int32} (hq : pc + 1 = q) (hd : decode y.2.1 pc = .ok (.i2c, 1))  (k : XV E y d mc ms Q kc ks q ls (.int (a.toUInt32 % 65536).toInt32 :: st) sh I R L) : XV E y d mc ms Q kc ks pc ls (.int a :: st) sh I R L := by
  subst hq
  intro p e s m args below meth c H locs cells slots arr hB hR hS hc hk hn hl
  exact lv_i2c hB.1 hB.2.1 hd rfl (k p e s m args below meth c H locs cells slots arr hB hR hS hc hk hn hl)
theorem xv_lcmp {a b : Int64} (hq : pc + 1 = q) (hd : decode y.2.1 pc = .ok (.lcmp, 1))  (k : XV E y d mc ms Q kc ks q ls (.int (lg_cmp a b) :: st) sh I R L) : XV E y d mc ms Q kc ks pc ls (.long b :: .long a :: st) sh I R L := by
  subst hq
  intro p e s m args below meth c H locs cells slots arr hB hR hS hc hk hn hl
  exact W.lcmp hB.1 hB.2.1 hd (k p e s m args below meth c H locs cells slots arr hB hR hS hc hk hn hl)
theorem xv_iconst {n : Int} {v : Int32} (hq : pc + 1 = q) (hd : decode y.2.1 pc = .ok (.iconst n, 1)) (hv : Int32.ofInt n = v) (k : XV E y d mc ms Q kc ks q ls (.int v :: st) sh I R L) : XV E y d mc ms Q kc ks pc ls st sh I R L := by
  subst hq
  intro p e s m args below meth c H locs cells slots arr hB hR hS hc hk hn hl
  exact lv_iconst hB.1 hB.2.1 hd hv (k p e s m args below meth c H locs cells slots arr hB hR hS hc hk hn hl)
theorem xv_bipush {n : Int} {v : Int32} (hq : pc + 2 = q) (hd : decode y.2.1 pc = .ok (.bipush n, 2)) (hv : (Int8.ofInt n).toInt32 = v) (k : XV E y d mc ms Q kc ks q ls (.int v :: st) sh I R L) : XV E y d mc ms Q kc ks pc ls st sh I R L := by
  subst hq
  intro p e s m args below meth c H locs cells slots arr hB hR hS hc hk hn hl
  exact lv_bipush hB.1 hB.2.1 hd hv (k p e s m args below meth c H locs cells slots arr hB hR hS hc hk hn hl)
theorem xv_sipush {n : Int} {v : Int32} (hq : pc + 3 = q) (hd : decode y.2.1 pc = .ok (.sipush n, 3)) (hv : (Int16.ofInt n).toInt32 = v) (k : XV E y d mc ms Q kc ks q ls (.int v :: st) sh I R L) : XV E y d mc ms Q kc ks pc ls st sh I R L := by
  subst hq
  intro p e s m args below meth c H locs cells slots arr hB hR hS hc hk hn hl
  exact lv_sipush hB.1 hB.2.1 hd hv (k p e s m args below meth c H locs cells slots arr hB hR hS hc hk hn hl)
theorem xv_lconst {n : Fin 2} {v : Int64} (hq : pc + 1 = q) (hd : decode y.2.1 pc = .ok (.lconst n, 1)) (hv : Int64.ofNat (n : Nat) = v) (k : XV E y d mc ms Q kc ks q ls (.long v :: st) sh I R L) : XV E y d mc ms Q kc ks pc ls st sh I R L := by
  subst hq
  intro p e s m args below meth c H locs cells slots arr hB hR hS hc hk hn hl
  exact lv_lconst hB.1 hB.2.1 hd hv (k p e s m args below meth c H locs cells slots arr hB hR hS hc hk hn hl)
theorem xv_ldc {n : Nat} {v : Int32} (hq : pc + 2 = q) (hd : decode y.2.1 pc = .ok (.ldc n, 2)) (hv : Cond.constant y.1.cls n v ∈ GT) (k : XV E y d mc ms Q kc ks q ls (.int v :: st) sh I R L) : XV E y d mc ms Q kc ks pc ls st sh I R L := by
  subst hq
  intro p e s m args below meth c H locs cells slots arr hB hR hS hc hk hn hl
  exact lv_ldc hB.1 hB.2.1 hB.2.2.2.2.1 (hB.2.2.2.2.2.1 _ (List.mem_cons_of_mem _ hv)) hd (k p e s m args below meth c H locs cells slots arr hB hR hS hc hk hn hl)
theorem xv_ldcw {n : Nat} {v : Int32} (hq : pc + 3 = q) (hd : decode y.2.1 pc = .ok (.ldc_w n, 3)) (hv : Cond.constant y.1.cls n v ∈ GT) (k : XV E y d mc ms Q kc ks q ls (.int v :: st) sh I R L) : XV E y d mc ms Q kc ks pc ls st sh I R L := by
  subst hq
  intro p e s m args below meth c H locs cells slots arr hB hR hS hc hk hn hl
  exact lv_ldcw hB.1 hB.2.1 hB.2.2.2.2.1 (hB.2.2.2.2.2.1 _ (List.mem_cons_of_mem _ hv)) hd (k p e s m args below meth c H locs cells slots arr hB hR hS hc hk hn hl)
theorem xv_ldc2 {n : Nat} {v : Int64} (hq : pc + 3 = q) (hd : decode y.2.1 pc = .ok (.ldc2_w n, 3)) (hv : Cond.constantLong y.1.cls n v ∈ GT) (k : XV E y d mc ms Q kc ks q ls (.long v :: st) sh I R L) : XV E y d mc ms Q kc ks pc ls st sh I R L := by
  subst hq
  intro p e s m args below meth c H locs cells slots arr hB hR hS hc hk hn hl
  exact lv_ldc2 hB.1 hB.2.1 hB.2.2.2.2.1 (hB.2.2.2.2.2.1 _ (List.mem_cons_of_mem _ hv)) hd (k p e s m args below meth c H locs cells slots arr hB hR hS hc hk hn hl)
theorem xv_null  (hq : pc + 1 = q) (hd : decode y.2.1 pc = .ok (.aconst_null, 1))  (k : XV E y d mc ms Q kc ks q ls (.null :: st) sh I R L) : XV E y d mc ms Q kc ks pc ls st sh I R L := by
  subst hq
  intro p e s m args below meth c H locs cells slots arr hB hR hS hc hk hn hl
  exact lv_null hB.1 hB.2.1 hd (k p e s m args below meth c H locs cells slots arr hB hR hS hc hk hn hl)
theorem xv_iload_n {n : Fin 4} {i : Nat} {a : Int32} (hq : pc + 1 = q) (hd : decode y.2.1 pc = .ok (.iload_n n, 1)) (hi : (n : Nat) = i) (ha : lg ls i = some (.int a)) (k : XV E y d mc ms Q kc ks q ls (.int a :: st) sh I R L) : XV E y d mc ms Q kc ks pc ls st sh I R L := by
  subst hq
  intro p e s m args below meth c H locs cells slots arr hB hR hS hc hk hn hl
  exact lv_iload_n hB.1 hB.2.1 hd hi (hl.2.2 i _ ha) (k p e s m args below meth c H locs cells slots arr hB hR hS hc hk hn hl)
theorem xv_iload {i : Nat} {a : Int32} (hq : pc + 2 = q) (hd : decode y.2.1 pc = .ok (.iload i, 2)) (ha : lg ls i = some (.int a)) (k : XV E y d mc ms Q kc ks q ls (.int a :: st) sh I R L) : XV E y d mc ms Q kc ks pc ls st sh I R L := by
  subst hq
  intro p e s m args below meth c H locs cells slots arr hB hR hS hc hk hn hl
  exact lv_iload hB.1 hB.2.1 hd (hl.2.2 i _ ha) (k p e s m args below meth c H locs cells slots arr hB hR hS hc hk hn hl)
theorem xv_lload_n {n : Fin 4} {i : Nat} {a : Int64} (hq : pc + 1 = q) (hd : decode y.2.1 pc = .ok (.lload_n n, 1)) (hi : (n : Nat) = i) (ha : lg ls i = some (.long a)) (k : XV E y d mc ms Q kc ks q ls (.long a :: st) sh I R L) : XV E y d mc ms Q kc ks pc ls st sh I R L := by
  subst hq
  intro p e s m args below meth c H locs cells slots arr hB hR hS hc hk hn hl
  exact lv_lload_n hB.1 hB.2.1 hd hi (hl.2.2 i _ ha) (k p e s m args below meth c H locs cells slots arr hB hR hS hc hk hn hl)
theorem xv_lload {i : Nat} {a : Int64} (hq : pc + 2 = q) (hd : decode y.2.1 pc = .ok (.lload i, 2)) (ha : lg ls i = some (.long a)) (k : XV E y d mc ms Q kc ks q ls (.long a :: st) sh I R L) : XV E y d mc ms Q kc ks pc ls st sh I R L := by
  subst hq
  intro p e s m args below meth c H locs cells slots arr hB hR hS hc hk hn hl
  exact lv_lload hB.1 hB.2.1 hd (hl.2.2 i _ ha) (k p e s m args below meth c H locs cells slots arr hB hR hS hc hk hn hl)
theorem xv_aload_n {n : Fin 4} {i : Nat} {a : Nat} (hq : pc + 1 = q) (hd : decode y.2.1 pc = .ok (.aload_n n, 1)) (hi : (n : Nat) = i) (ha : lg ls i = some (.ref a)) (k : XV E y d mc ms Q kc ks q ls (.ref a :: st) sh I R L) : XV E y d mc ms Q kc ks pc ls st sh I R L := by
  subst hq
  intro p e s m args below meth c H locs cells slots arr hB hR hS hc hk hn hl
  exact lv_aload_n hB.1 hB.2.1 hd hi (hl.2.2 i _ ha) (k p e s m args below meth c H locs cells slots arr hB hR hS hc hk hn hl)
theorem xv_aload {i : Nat} {a : Nat} (hq : pc + 2 = q) (hd : decode y.2.1 pc = .ok (.aload i, 2)) (ha : lg ls i = some (.ref a)) (k : XV E y d mc ms Q kc ks q ls (.ref a :: st) sh I R L) : XV E y d mc ms Q kc ks pc ls st sh I R L := by
  subst hq
  intro p e s m args below meth c H locs cells slots arr hB hR hS hc hk hn hl
  exact lv_aload hB.1 hB.2.1 hd (hl.2.2 i _ ha) (k p e s m args below meth c H locs cells slots arr hB hR hS hc hk hn hl)
theorem xv_aloadF_n {n : Fin 4} {i : Nat} {a : UInt32} (hq : pc + 1 = q) (hd : decode y.2.1 pc = .ok (.aload_n n, 1)) (hi : (n : Nat) = i) (ha : lg ls i = some (.float a)) (k : XV E y d mc ms Q kc ks q ls (.float a :: st) sh I R L) : XV E y d mc ms Q kc ks pc ls st sh I R L := by
  subst hq
  intro p e s m args below meth c H locs cells slots arr hB hR hS hc hk hn hl
  exact lv_aload_n hB.1 hB.2.1 hd hi (hl.2.2 i _ ha) (k p e s m args below meth c H locs cells slots arr hB hR hS hc hk hn hl)
theorem xv_aloadF {i : Nat} {a : UInt32} (hq : pc + 2 = q) (hd : decode y.2.1 pc = .ok (.aload i, 2)) (ha : lg ls i = some (.float a)) (k : XV E y d mc ms Q kc ks q ls (.float a :: st) sh I R L) : XV E y d mc ms Q kc ks pc ls st sh I R L := by
  subst hq
  intro p e s m args below meth c H locs cells slots arr hB hR hS hc hk hn hl
  exact lv_aload hB.1 hB.2.1 hd (hl.2.2 i _ ha) (k p e s m args below meth c H locs cells slots arr hB hR hS hc hk hn hl)
theorem xv_dup {a : Value} (hq : pc + 1 = q) (hd : decode y.2.1 pc = .ok (.dup, 1)) (ha : a.category = 1) (k : XV E y d mc ms Q kc ks q ls (a :: a :: st) sh I R L) : XV E y d mc ms Q kc ks pc ls (a :: st) sh I R L := by
  subst hq
  intro p e s m args below meth c H locs cells slots arr hB hR hS hc hk hn hl
  exact lv_dup hB.1 hB.2.1 hd (by rw [sv_cat]; exact ha) (k p e s m args below meth c H locs cells slots arr hB hR hS hc hk hn hl)
theorem xv_pop {a : Value} (hq : pc + 1 = q) (hd : decode y.2.1 pc = .ok (.pop, 1)) (ha : a.category = 1) (k : XV E y d mc ms Q kc ks q ls st sh I R L) : XV E y d mc ms Q kc ks pc ls (a :: st) sh I R L := by
  subst hq
  intro p e s m args below meth c H locs cells slots arr hB hR hS hc hk hn hl
  exact lv_pop hB.1 hB.2.1 hd (by rw [sv_cat]; exact ha) (k p e s m args below meth c H locs cells slots arr hB hR hS hc hk hn hl)
theorem xv_dup2 {a b : Value} (hq : pc + 1 = q) (hd : decode y.2.1 pc = .ok (.dup2, 1)) (ha : a.category = 1) (hb : b.category = 1) (k : XV E y d mc ms Q kc ks q ls (a :: b :: a :: b :: st) sh I R L) : XV E y d mc ms Q kc ks pc ls (a :: b :: st) sh I R L := by
  subst hq
  intro p e s m args below meth c H locs cells slots arr hB hR hS hc hk hn hl
  exact lv_dup2_11 hB.1 hB.2.1 hd (by rw [sv_cat]; exact ha) (by rw [sv_cat]; exact hb) (k p e s m args below meth c H locs cells slots arr hB hR hS hc hk hn hl)
theorem xv_istore_n {n : Fin 4} {i : Nat} {a : Int32} (hq : pc + 1 = q) (hd : decode y.2.1 pc = .ok (.istore_n n, 1)) (hi : (n : Nat) = i) (hi2 : Nat.ble (i + 1) ls.length = true) (k : XV E y d mc ms Q kc ks q (ls1 ls i (.int a)) st sh I R L) : XV E y d mc ms Q kc ks pc ls (.int a :: st) sh I R L := by
  subst hq
  intro p e s m args below meth c H locs cells slots arr hB hR hS hc hk hn hl
  have hi3 : i < ls.length := Nat.le_of_ble_eq_true hi2
  exact lv_istore_n hB.1 hB.2.1 hd hi (xloc_has.mp hl) hi3 rfl (fun arr' h' => k p e s m args below meth c H locs cells slots arr' hB hR hS hc hk (by rw [ls1_len]; exact hn) (xloc_st1 (v := .int a) hi3 h' rfl))
theorem xv_istore {i : Nat} {a : Int32} (hq : pc + 2 = q) (hd : decode y.2.1 pc = .ok (.istore i, 2)) (hi2 : Nat.ble (i + 1) ls.length = true) (k : XV E y d mc ms Q kc ks q (ls1 ls i (.int a)) st sh I R L) : XV E y d mc ms Q kc ks pc ls (.int a :: st) sh I R L := by
  subst hq
  intro p e s m args below meth c H locs cells slots arr hB hR hS hc hk hn hl
  have hi3 : i < ls.length := Nat.le_of_ble_eq_true hi2
  exact lv_istore hB.1 hB.2.1 hd (xloc_has.mp hl) hi3 rfl (fun arr' h' => k p e s m args below meth c H locs cells slots arr' hB hR hS hc hk (by rw [ls1_len]; exact hn) (xloc_st1 (v := .int a) hi3 h' rfl))
theorem xv_lstore_n {n : Fin 4} {i : Nat} {a : Int64} (hq : pc + 1 = q) (hd : decode y.2.1 pc = .ok (.lstore_n n, 1)) (hi : (n : Nat) = i) (hi2 : Nat.ble (i + 2) ls.length = true) (k : XV E y d mc ms Q kc ks q (ls2 ls i (.long a)) st sh I R L) : XV E y d mc ms Q kc ks pc ls (.long a :: st) sh I R L := by
  subst hq
  intro p e s m args below meth c H locs cells slots arr hB hR hS hc hk hn hl
  have hi3 : i + 1 < ls.length := Nat.le_of_ble_eq_true hi2
  exact lv_lstore_n hB.1 hB.2.1 hd hi (xloc_has.mp hl) hi3 rfl (fun arr' h' => k p e s m args below meth c H locs cells slots arr' hB hR hS hc hk (by rw [ls2_len]; exact hn) (xloc_st2 (v := .long a) (Nat.lt_of_succ_lt hi3) h' rfl))
theorem xv_lstore {i : Nat} {a : Int64} (hq : pc + 2 = q) (hd : decode y.2.1 pc = .ok (.lstore i, 2)) (hi2 : Nat.ble (i + 2) ls.length = true) (k : XV E y d mc ms Q kc ks q (ls2 ls i (.long a)) st sh I R L) : XV E y d mc ms Q kc ks pc ls (.long a :: st) sh I R L := by
  subst hq
  intro p e s m args below meth c H locs cells slots arr hB hR hS hc hk hn hl
  have hi3 : i + 1 < ls.length := Nat.le_of_ble_eq_true hi2
  exact lv_lstore hB.1 hB.2.1 hd (xloc_has.mp hl) hi3 rfl (fun arr' h' => k p e s m args below meth c H locs cells slots arr' hB hR hS hc hk (by rw [ls2_len]; exact hn) (xloc_st2 (v := .long a) (Nat.lt_of_succ_lt hi3) h' rfl))
theorem xv_astore_n {n : Fin 4} {i : Nat} {a : Nat} (hq : pc + 1 = q) (hd : decode y.2.1 pc = .ok (.astore_n n, 1)) (hi : (n : Nat) = i) (hi2 : Nat.ble (i + 1) ls.length = true) (k : XV E y d mc ms Q kc ks q (ls1 ls i (.ref a)) st sh I R L) : XV E y d mc ms Q kc ks pc ls (.ref a :: st) sh I R L := by
  subst hq
  intro p e s m args below meth c H locs cells slots arr hB hR hS hc hk hn hl
  have hi3 : i < ls.length := Nat.le_of_ble_eq_true hi2
  exact lv_astore_n hB.1 hB.2.1 hd hi (xloc_has.mp hl) hi3 rfl (fun arr' h' => k p e s m args below meth c H locs cells slots arr' hB hR hS hc hk (by rw [ls1_len]; exact hn) (xloc_st1 (v := .ref a) hi3 h' rfl))
theorem xv_astore {i : Nat} {a : Nat} (hq : pc + 2 = q) (hd : decode y.2.1 pc = .ok (.astore i, 2)) (hi2 : Nat.ble (i + 1) ls.length = true) (k : XV E y d mc ms Q kc ks q (ls1 ls i (.ref a)) st sh I R L) : XV E y d mc ms Q kc ks pc ls (.ref a :: st) sh I R L := by
  subst hq
  intro p e s m args below meth c H locs cells slots arr hB hR hS hc hk hn hl
  have hi3 : i < ls.length := Nat.le_of_ble_eq_true hi2
  exact lv_astore hB.1 hB.2.1 hd (xloc_has.mp hl) hi3 rfl (fun arr' h' => k p e s m args below meth c H locs cells slots arr' hB hR hS hc hk (by rw [ls1_len]; exact hn) (xloc_st1 (v := .ref a) hi3 h' rfl))
theorem xv_iinc {i : Nat} {n : Int} {a v : Int32} (hq : pc + 3 = q) (hd : decode y.2.1 pc = .ok (.iinc i n, 3)) (ha : lg ls i = some (.int a)) (hv : Int32.ofInt n = v) (k : XV E y d mc ms Q kc ks q (ls1 ls i (.int (a + v))) st sh I R L) : XV E y d mc ms Q kc ks pc ls st sh I R L := by
  subst hq
  subst hv
  intro p e s m args below meth c H locs cells slots arr hB hR hS hc hk hn hl
  have hi3 : i < ls.length := lg_lt _ _ _ ha
  obtain ⟨w, hw⟩ := List.getElem?_of_mem (xas_mem (E := E) (q := (i, .int a)) |>.mpr ⟨.int a, ha, rfl⟩)
  exact lv_iinc hB.1 hB.2.1 hd (xloc_has.mp hl) hw rfl hi3 rfl (fun arr' h' => k p e s m args below meth c H locs cells slots arr' hB hR hS hc hk (by rw [ls1_len]; exact hn) (xloc_st1 (v := .int (a + Int32.ofInt n)) hi3 h' rfl))
theorem xv_if_eq {a : Int32} {off : Int} {t : Nat} (hq : pc + 3 = q) (ht : (pc : Int) + off = (t : Int)) (hd : decode y.2.1 pc = .ok (.ifCond .eq off, 3)) (k1 : a = 0 → XV E y d mc ms Q kc ks t ls st sh I R L) (k2 : ¬ a = 0 → XV E y d mc ms Q kc ks q ls st sh I R L) : XV E y d mc ms Q kc ks pc ls (.int a :: st) sh I R L := by
  subst hq
  intro p e s m args below meth c H locs cells slots arr hB hR hS hc hk hn hl
  exact lv_if_eq hB.1 hB.2.1 hd ht (fun z => k1 z p e s m args below meth c H locs cells slots arr hB hR hS hc hk hn hl) (fun z => k2 z p e s m args below meth c H locs cells slots arr hB hR hS hc hk hn hl)
theorem xv_if_ne {a : Int32} {off : Int} {t : Nat} (hq : pc + 3 = q) (ht : (pc : Int) + off = (t : Int)) (hd : decode y.2.1 pc = .ok (.ifCond .ne off, 3)) (k1 : ¬ a = 0 → XV E y d mc ms Q kc ks t ls st sh I R L) (k2 : a = 0 → XV E y d mc ms Q kc ks q ls st sh I R L) : XV E y d mc ms Q kc ks pc ls (.int a :: st) sh I R L := by
  subst hq
  intro p e s m args below meth c H locs cells slots arr hB hR hS hc hk hn hl
  exact lv_if_ne hB.1 hB.2.1 hd ht (fun z => k1 z p e s m args below meth c H locs cells slots arr hB hR hS hc hk hn hl) (fun z => k2 z p e s m args below meth c H locs cells slots arr hB hR hS hc hk hn hl)
theorem xv_if_lt {a : Int32} {off : Int} {t : Nat} (hq : pc + 3 = q) (ht : (pc : Int) + off = (t : Int)) (hd : decode y.2.1 pc = .ok (.ifCond .lt off, 3)) (k1 : a < 0 → XV E y d mc ms Q kc ks t ls st sh I R L) (k2 : ¬ a < 0 → XV E y d mc ms Q kc ks q ls st sh I R L) : XV E y d mc ms Q kc ks pc ls (.int a :: st) sh I R L := by
  subst hq
  intro p e s m args below meth c H locs cells slots arr hB hR hS hc hk hn hl
  exact lv_if_lt hB.1 hB.2.1 hd ht (fun z => k1 z p e s m args below meth c H locs cells slots arr hB hR hS hc hk hn hl) (fun z => k2 z p e s m args below meth c H locs cells slots arr hB hR hS hc hk hn hl)
theorem xv_if_ge {a : Int32} {off : Int} {t : Nat} (hq : pc + 3 = q) (ht : (pc : Int) + off = (t : Int)) (hd : decode y.2.1 pc = .ok (.ifCond .ge off, 3)) (k1 : 0 ≤ a → XV E y d mc ms Q kc ks t ls st sh I R L) (k2 : ¬ 0 ≤ a → XV E y d mc ms Q kc ks q ls st sh I R L) : XV E y d mc ms Q kc ks pc ls (.int a :: st) sh I R L := by
  subst hq
  intro p e s m args below meth c H locs cells slots arr hB hR hS hc hk hn hl
  exact lv_if_ge hB.1 hB.2.1 hd ht (fun z => k1 z p e s m args below meth c H locs cells slots arr hB hR hS hc hk hn hl) (fun z => k2 z p e s m args below meth c H locs cells slots arr hB hR hS hc hk hn hl)
theorem xv_if_gt {a : Int32} {off : Int} {t : Nat} (hq : pc + 3 = q) (ht : (pc : Int) + off = (t : Int)) (hd : decode y.2.1 pc = .ok (.ifCond .gt off, 3)) (k1 : 0 < a → XV E y d mc ms Q kc ks t ls st sh I R L) (k2 : ¬ 0 < a → XV E y d mc ms Q kc ks q ls st sh I R L) : XV E y d mc ms Q kc ks pc ls (.int a :: st) sh I R L := by
  subst hq
  intro p e s m args below meth c H locs cells slots arr hB hR hS hc hk hn hl
  exact lv_if_gt hB.1 hB.2.1 hd ht (fun z => k1 z p e s m args below meth c H locs cells slots arr hB hR hS hc hk hn hl) (fun z => k2 z p e s m args below meth c H locs cells slots arr hB hR hS hc hk hn hl)
theorem xv_if_le {a : Int32} {off : Int} {t : Nat} (hq : pc + 3 = q) (ht : (pc : Int) + off = (t : Int)) (hd : decode y.2.1 pc = .ok (.ifCond .le off, 3)) (k1 : a ≤ 0 → XV E y d mc ms Q kc ks t ls st sh I R L) (k2 : ¬ a ≤ 0 → XV E y d mc ms Q kc ks q ls st sh I R L) : XV E y d mc ms Q kc ks pc ls (.int a :: st) sh I R L := by
  subst hq
  intro p e s m args below meth c H locs cells slots arr hB hR hS hc hk hn hl
  exact lv_if_le hB.1 hB.2.1 hd ht (fun z => k1 z p e s m args below meth c H locs cells slots arr hB hR hS hc hk hn hl) (fun z => k2 z p e s m args below meth c H locs cells slots arr hB hR hS hc hk hn hl)
theorem xv_icmp_eq {a b : Int32} {off : Int} {t : Nat} (hq : pc + 3 = q) (ht : (pc : Int) + off = (t : Int)) (hd : decode y.2.1 pc = .ok (.if_icmp .eq off, 3)) (k1 : a = b → XV E y d mc ms Q kc ks t ls st sh I R L) (k2 : ¬ a = b → XV E y d mc ms Q kc ks q ls st sh I R L) : XV E y d mc ms Q kc ks pc ls (.int b :: .int a :: st) sh I R L := by
  subst hq
  intro p e s m args below meth c H locs cells slots arr hB hR hS hc hk hn hl
  exact lv_icmp_eq hB.1 hB.2.1 hd ht (fun z => k1 z p e s m args below meth c H locs cells slots arr hB hR hS hc hk hn hl) (fun z => k2 z p e s m args below meth c H locs cells slots arr hB hR hS hc hk hn hl)
theorem xv_icmp_ne {a b : Int32} {off : Int} {t : Nat} (hq : pc + 3 = q) (ht : (pc : Int) + off = (t : Int)) (hd : decode y.2.1 pc = .ok (.if_icmp .ne off, 3)) (k1 : ¬ a = b → XV E y d mc ms Q kc ks t ls st sh I R L) (k2 : a = b → XV E y d mc ms Q kc ks q ls st sh I R L) : XV E y d mc ms Q kc ks pc ls (.int b :: .int a :: st) sh I R L := by
  subst hq
  intro p e s m args below meth c H locs cells slots arr hB hR hS hc hk hn hl
  exact lv_icmp_ne hB.1 hB.2.1 hd ht (fun z => k1 z p e s m args below meth c H locs cells slots arr hB hR hS hc hk hn hl) (fun z => k2 z p e s m args below meth c H locs cells slots arr hB hR hS hc hk hn hl)
theorem xv_icmp_lt {a b : Int32} {off : Int} {t : Nat} (hq : pc + 3 = q) (ht : (pc : Int) + off = (t : Int)) (hd : decode y.2.1 pc = .ok (.if_icmp .lt off, 3)) (k1 : a < b → XV E y d mc ms Q kc ks t ls st sh I R L) (k2 : ¬ a < b → XV E y d mc ms Q kc ks q ls st sh I R L) : XV E y d mc ms Q kc ks pc ls (.int b :: .int a :: st) sh I R L := by
  subst hq
  intro p e s m args below meth c H locs cells slots arr hB hR hS hc hk hn hl
  exact lv_icmp_lt hB.1 hB.2.1 hd ht (fun z => k1 z p e s m args below meth c H locs cells slots arr hB hR hS hc hk hn hl) (fun z => k2 z p e s m args below meth c H locs cells slots arr hB hR hS hc hk hn hl)
theorem xv_icmp_ge {a b : Int32} {off : Int} {t : Nat} (hq : pc + 3 = q) (ht : (pc : Int) + off = (t : Int)) (hd : decode y.2.1 pc = .ok (.if_icmp .ge off, 3)) (k1 : b ≤ a → XV E y d mc ms Q kc ks t ls st sh I R L) (k2 : ¬ b ≤ a → XV E y d mc ms Q kc ks q ls st sh I R L) : XV E y d mc ms Q kc ks pc ls (.int b :: .int a :: st) sh I R L := by
  subst hq
  intro p e s m args below meth c H locs cells slots arr hB hR hS hc hk hn hl
  exact lv_icmp_ge hB.1 hB.2.1 hd ht (fun z => k1 z p e s m args below meth c H locs cells slots arr hB hR hS hc hk hn hl) (fun z => k2 z p e s m args below meth c H locs cells slots arr hB hR hS hc hk hn hl)
theorem xv_icmp_gt {a b : Int32} {off : Int} {t : Nat} (hq : pc + 3 = q) (ht : (pc : Int) + off = (t : Int)) (hd : decode y.2.1 pc = .ok (.if_icmp .gt off, 3)) (k1 : b < a → XV E y d mc ms Q kc ks t ls st sh I R L) (k2 : ¬ b < a → XV E y d mc ms Q kc ks q ls st sh I R L) : XV E y d mc ms Q kc ks pc ls (.int b :: .int a :: st) sh I R L := by
  subst hq
  intro p e s m args below meth c H locs cells slots arr hB hR hS hc hk hn hl
  exact lv_icmp_gt hB.1 hB.2.1 hd ht (fun z => k1 z p e s m args below meth c H locs cells slots arr hB hR hS hc hk hn hl) (fun z => k2 z p e s m args below meth c H locs cells slots arr hB hR hS hc hk hn hl)
theorem xv_icmp_le {a b : Int32} {off : Int} {t : Nat} (hq : pc + 3 = q) (ht : (pc : Int) + off = (t : Int)) (hd : decode y.2.1 pc = .ok (.if_icmp .le off, 3)) (k1 : a ≤ b → XV E y d mc ms Q kc ks t ls st sh I R L) (k2 : ¬ a ≤ b → XV E y d mc ms Q kc ks q ls st sh I R L) : XV E y d mc ms Q kc ks pc ls (.int b :: .int a :: st) sh I R L := by
  subst hq
  intro p e s m args below meth c H locs cells slots arr hB hR hS hc hk hn hl
  exact lv_icmp_le hB.1 hB.2.1 hd ht (fun z => k1 z p e s m args below meth c H locs cells slots arr hB hR hS hc hk hn hl) (fun z => k2 z p e s m args below meth c H locs cells slots arr hB hR hS hc hk hn hl)
theorem xv_goto {off : Int} {t : Nat} (ht : (pc : Int) + off = (t : Int)) (hd : decode y.2.1 pc = .ok (.goto off, 3)) (k : XV E y d mc ms Q kc ks t ls st sh I R L) : XV E y d mc ms Q kc ks pc ls st sh I R L := by
  intro p e s m args below meth c H locs cells slots arr hB hR hS hc hk hn hl
  exact lv_goto hB.1 hB.2.1 hd ht (k p e s m args below meth c H locs cells slots arr hB hR hS hc hk hn hl)
theorem xv_ifnonnull {a : Nat} {off : Int} {t : Nat} (ht : (pc : Int) + off = (t : Int)) (hd : decode y.2.1 pc = .ok (.ifnonnull off, 3)) (k : XV E y d mc ms Q kc ks t ls st sh I R L) : XV E y d mc ms Q kc ks pc ls (.ref a :: st) sh I R L := by
  intro p e s m args below meth c H locs cells slots arr hB hR hS hc hk hn hl
  exact lv_ifnonnull hB.1 hB.2.1 hd ht (k p e s m args below meth c H locs cells slots arr hB hR hS hc hk hn hl)
theorem xv_ifnonnullN {off : Int} (hq : pc + 3 = q) (hd : decode y.2.1 pc = .ok (.ifnonnull off, 3)) (k : XV E y d mc ms Q kc ks q ls st sh I R L) : XV E y d mc ms Q kc ks pc ls (.null :: st) sh I R L := by
  subst hq
  intro p e s m args below meth c H locs cells slots arr hB hR hS hc hk hn hl
  exact lv_ifnonnullN hB.1 hB.2.1 hd (k p e s m args below meth c H locs cells slots arr hB hR hS hc hk hn hl)
theorem xv_tableOut {dflt lo hi : Int} {offs : Array Int} {len : Nat} {a : Int32} {t : Nat} (hd : decode y.2.1 pc = .ok (.tableswitch dflt lo hi offs, len)) (h : a.toInt < lo ∨ hi < a.toInt) (ht : (pc : Int) + dflt = (t : Int)) (k : XV E y d mc ms Q kc ks t ls st sh I R L) : XV E y d mc ms Q kc ks pc ls (.int a :: st) sh I R L := by
  intro p e s m args below meth c H locs cells slots arr hB hR hS hc hk hn hl
  exact lv_tableOut hB.1 hB.2.1 hd h ht (k p e s m args below meth c H locs cells slots arr hB hR hS hc hk hn hl)
theorem xv_tableIn {dflt lo hi : Int} {offs : Array Int} {len : Nat} {a : Int32} {off : Int} {t : Nat} (hd : decode y.2.1 pc = .ok (.tableswitch dflt lo hi offs, len)) (h1 : ¬ a.toInt < lo) (h2 : ¬ hi < a.toInt) (ho : offs[(a.toInt - lo).toNat]? = some off) (ht : (pc : Int) + off = (t : Int)) (k : XV E y d mc ms Q kc ks t ls st sh I R L) : XV E y d mc ms Q kc ks pc ls (.int a :: st) sh I R L := by
  intro p e s m args below meth c H locs cells slots arr hB hR hS hc hk hn hl
  exact lv_tableIn hB.1 hB.2.1 hd h1 h2 ho ht (k p e s m args below meth c H locs cells slots arr hB hR hS hc hk hn hl)
theorem xv_lookup {dflt : Int} {ps : Array (Int × Int)} {len : Nat} {a : Int32} {off : Int} {t : Nat} (hd : decode y.2.1 pc = .ok (.lookupswitch dflt ps, len)) (hp : (ps.toList.zip (ps.toList.drop 1)).all (fun (a, next) => a.1 < next.1) = true) (ho : Op.lookupswitch.offset ps.toList dflt a.toInt = off) (ht : (pc : Int) + off = (t : Int)) (k : XV E y d mc ms Q kc ks t ls st sh I R L) : XV E y d mc ms Q kc ks pc ls (.int a :: st) sh I R L := by
  intro p e s m args below meth c H locs cells slots arr hB hR hS hc hk hn hl
  exact lv_lookup hB.1 hB.2.1 hd hp ho ht (k p e s m args below meth c H locs cells slots arr hB hR hS hc hk hn hl)
/-- fewer locals are known -/
theorem xv_mask (bs : List Bool) (k : XV E y d mc ms Q kc ks pc (lmask bs ls) st sh I R L) : XV E y d mc ms Q kc ks pc ls st sh I R L := by
  intro p e s m args below meth c H locs cells slots arr hB hR hS hc hk hn hl
  exact k p e s m args below meth c H locs cells slots arr hB hR hS hc hk (by rw [lmask_len]; exact hn) ⟨by rw [lmask_len]; exact hl.1, hl.2.1, fun i v h => hl.2.2 i v (lg_lmask bs ls i v h)⟩
/-- the budget may be rounded down -/
theorem xv_less {kc' ks' : Nat} (h1 : kc' ≤ kc) (h2 : ks' ≤ ks) (k : XV E y d mc ms Q kc' ks' pc ls st sh I R L) : XV E y d mc ms Q kc ks pc ls st sh I R L := by
  intro p e s m args below meth c H locs cells slots arr hB hR hS hc hk hn hl
  exact k p e s m args below meth c H locs cells slots arr hB hR hS (by omega) (by omega) hn hl
theorem xv_iret {a : Int32} (hd : decode y.2.1 pc = .ok (.ireturn, 1)) (hr : y.2.2.2 = some .int)  (hQ : Q (some (.int a)) sh I R L) : XV E y d mc ms Q kc ks pc ls [.int a] sh I R L := by
  intro p e s m args below meth c H locs cells slots arr hB hR hS hc hk hn hl
  refine W.widen (k := mc) (n := ms) (by omega) (by omega) ?_
  exact W.iret hB.1 hB.2.1 (hB.2.2.1.trans hr) (fun t ht hW => ⟨⟨(some (.int a)), sh, I, R, L, rfl, hQ, by rw [ht]; exact hR.warm hW⟩, by rw [ht]; exact hS.1⟩) hS.2.2 hd hB.2.2.2.2.2.2.1
theorem xv_zret {a : Int32} {ty : FieldType} (hd : decode y.2.1 pc = .ok (.ireturn, 1)) (hr : y.2.2.2 = some ty) (hz : narrow ty (.int a) = .int a) (hQ : Q (some (.int a)) sh I R L) : XV E y d mc ms Q kc ks pc ls [.int a] sh I R L := by
  intro p e s m args below meth c H locs cells slots arr hB hR hS hc hk hn hl
  refine W.widen (k := mc) (n := ms) (by omega) (by omega) ?_
  exact W.zret hB.1 hB.2.1 (hB.2.2.1.trans hr) hz (fun t ht hW => ⟨⟨(some (.int a)), sh, I, R, L, rfl, hQ, by rw [ht]; exact hR.warm hW⟩, by rw [ht]; exact hS.1⟩) hS.2.2 hd hB.2.2.2.2.2.2.1
theorem xv_lret {a : Int64} (hd : decode y.2.1 pc = .ok (.lreturn, 1)) (hr : y.2.2.2 = some .long)  (hQ : Q (some (.long a)) sh I R L) : XV E y d mc ms Q kc ks pc ls [.long a] sh I R L := by
  intro p e s m args below meth c H locs cells slots arr hB hR hS hc hk hn hl
  refine W.widen (k := mc) (n := ms) (by omega) (by omega) ?_
  exact W.lret hB.1 hB.2.1 (hB.2.2.1.trans hr) (fun t ht hW => ⟨⟨(some (.long a)), sh, I, R, L, rfl, hQ, by rw [ht]; exact hR.warm hW⟩, by rw [ht]; exact hS.1⟩) hS.2.2 hd hB.2.2.2.2.2.2.1
theorem xv_vret  (hd : decode y.2.1 pc = .ok (.return_, 1)) (hr : y.2.2.2 = none)  (hQ : Q none sh I R L) : XV E y d mc ms Q kc ks pc ls [] sh I R L := by
  intro p e s m args below meth c H locs cells slots arr hB hR hS hc hk hn hl
  refine W.widen (k := mc) (n := ms) (by omega) (by omega) ?_
  exact W.vret hB.1 hB.2.1 (hB.2.2.1.trans hr) (fun t ht hW => ⟨⟨none, sh, I, R, L, rfl, hQ, by rw [ht]; exact hR.warm hW⟩, by rw [ht]; exact hS.1⟩) hS.2.2 hd hB.2.2.2.2.2.2.1
theorem xv_aret {a : Nat} {ty : FieldType} (hd : decode y.2.1 pc = .ok (.areturn, 1)) (hr : y.2.2.2 = some ty) (hz : (∃ n, ty = .object n) ∨ ∃ t, ty = .array t) (hQ : Q (some (.ref a)) sh I R L) : XV E y d mc ms Q kc ks pc ls [.ref a] sh I R L := by
  intro p e s m args below meth c H locs cells slots arr hB hR hS hc hk hn hl
  refine W.widen (k := mc) (n := ms) (by omega) (by omega) ?_
  exact W.aret hB.1 hB.2.1 (hB.2.2.1.trans hr) hz (Or.inr ⟨_, rfl⟩) (fun t ht hW => ⟨⟨(some (.ref a)), sh, I, R, L, rfl, hQ, by rw [ht]; exact hR.warm hW⟩, by rw [ht]; exact hS.1⟩) hS.2.2 hd hB.2.2.2.2.2.2.1
theorem xv_aretF {a : UInt32} {ty : FieldType} (hd : decode y.2.1 pc = .ok (.areturn, 1)) (hr : y.2.2.2 = some ty) (hz : (∃ n, ty = .object n) ∨ ∃ t, ty = .array t) (hQ : Q (some (.float a)) sh I R L) : XV E y d mc ms Q kc ks pc ls [.float a] sh I R L := by
  intro p e s m args below meth c H locs cells slots arr hB hR hS hc hk hn hl
  refine W.widen (k := mc) (n := ms) (by omega) (by omega) ?_
  exact W.aret hB.1 hB.2.1 (hB.2.2.1.trans hr) hz (Or.inr ⟨_, rfl⟩) (fun t ht hW => ⟨⟨(some (.float a)), sh, I, R, L, rfl, hQ, by rw [ht]; exact hR.warm hW⟩, by rw [ht]; exact hS.1⟩) hS.2.2 hd hB.2.2.2.2.2.2.1
end XROWS
