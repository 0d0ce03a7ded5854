section RA
variable {E : vE} {l : Launch} {mi : vMI} {pc : Nat} {lv st : List Value} {S : vS} {M : vM} {kc ks : Nat} {Q : Option Value → vS → vM → Prop}
theorem x_iconst {n : Int} {v : Int32} (hd : decode (ib mi) pc = .ok (.iconst n, 1)) (hv : Int32.ofInt n = v) (k : PM E l mi (pc + 1) lv (.int v :: st) S M kc ks Q) : PM E l mi pc lv (st) S M kc ks Q := by
  intro p e s m args below meth c H locs ls Z F O hlo hL h1 h2 hR
  exact lv_iconst F.1 F.2.1 hd hv (k p e s m args below meth c H locs ls Z F O hlo hL h1 h2 hR)
theorem x_bipush {n : Int} {v : Int32} (hd : decode (ib mi) pc = .ok (.bipush n, 2)) (hv : (Int8.ofInt n).toInt32 = v) (k : PM E l mi (pc + 2) lv (.int v :: st) S M kc ks Q) : PM E l mi pc lv (st) S M kc ks Q := by
  intro p e s m args below meth c H locs ls Z F O hlo hL h1 h2 hR
  exact lv_bipush F.1 F.2.1 hd hv (k p e s m args below meth c H locs ls Z F O hlo hL h1 h2 hR)
theorem x_sipush {n : Int} {v : Int32} (hd : decode (ib mi) pc = .ok (.sipush n, 3)) (hv : (Int16.ofInt n).toInt32 = v) (k : PM E l mi (pc + 3) lv (.int v :: st) S M kc ks Q) : PM E l mi pc lv (st) S M kc ks Q := by
  intro p e s m args below meth c H locs ls Z F O hlo hL h1 h2 hR
  exact lv_sipush F.1 F.2.1 hd hv (k p e s m args below meth c H locs ls Z F O hlo hL h1 h2 hR)
theorem x_lconst {n : Fin 2} {v : Int64} (hd : decode (ib mi) pc = .ok (.lconst n, 1)) (hv : Int64.ofNat (n : Nat) = v) (k : PM E l mi (pc + 1) lv (.long v :: st) S M kc ks Q) : PM E l mi pc lv (st) S M kc ks Q := by
  intro p e s m args below meth c H locs ls Z F O hlo hL h1 h2 hR
  exact lv_lconst F.1 F.2.1 hd hv (k p e s m args below meth c H locs ls Z F O hlo hL h1 h2 hR)
theorem x_ldc {i : Nat} {v : Int32} (hc : Cond.constant (iy mi).cls i v ∈ gTbl) (hd : decode (ib mi) pc = .ok (.ldc i, 2)) (k : PM E l mi (pc + 2) lv (.int v :: st) S M kc ks Q) : PM E l mi pc lv (st) S M kc ks Q := by
  intro p e s m args below meth c H locs ls Z F O hlo hL h1 h2 hR
  exact lv_ldc F.1 F.2.1 F.2.2.2.1 (F.2.2.2.2.1 _ hc) hd (k p e s m args below meth c H locs ls Z F O hlo hL h1 h2 hR)
theorem x_ldcw {i : Nat} {v : Int32} (hc : Cond.constant (iy mi).cls i v ∈ gTbl) (hd : decode (ib mi) pc = .ok (.ldc_w i, 3)) (k : PM E l mi (pc + 3) lv (.int v :: st) S M kc ks Q) : PM E l mi pc lv (st) S M kc ks Q := by
  intro p e s m args below meth c H locs ls Z F O hlo hL h1 h2 hR
  exact lv_ldcw F.1 F.2.1 F.2.2.2.1 (F.2.2.2.2.1 _ hc) hd (k p e s m args below meth c H locs ls Z F O hlo hL h1 h2 hR)
theorem x_ldc2 {i : Nat} {v : Int64} (hc : Cond.constantLong (iy mi).cls i v ∈ gTbl) (hd : decode (ib mi) pc = .ok (.ldc2_w i, 3)) (k : PM E l mi (pc + 3) lv (.long v :: st) S M kc ks Q) : PM E l mi pc lv (st) S M kc ks Q := by
  intro p e s m args below meth c H locs ls Z F O hlo hL h1 h2 hR
  exact lv_ldc2 F.1 F.2.1 F.2.2.2.1 (F.2.2.2.2.1 _ hc) hd (k p e s m args below meth c H locs ls Z F O hlo hL h1 h2 hR)
theorem x_iload_n {i : Fin 4} {x : Int32} (hd : decode (ib mi) pc = .ok (.iload_n i, 1)) (hl : lv[(i : Nat)]? = some (.int x)) (k : PM E l mi (pc + 1) lv (.int x :: st) S M kc ks Q) : PM E l mi pc lv (st) S M kc ks Q := by
  intro p e s m args below meth c H locs ls Z F O hlo hL h1 h2 hR
  exact lv_iload_n F.1 F.2.1 hd rfl (hL.2.2.2 _ _ hl (fun q => by cases q)) (k p e s m args below meth c H locs ls Z F O hlo hL h1 h2 hR)
theorem x_iload {i : Nat} {x : Int32} (hd : decode (ib mi) pc = .ok (.iload i, 2)) (hl : lv[i]? = some (.int x)) (k : PM E l mi (pc + 2) lv (.int x :: st) S M kc ks Q) : PM E l mi pc lv (st) S M kc ks Q := by
  intro p e s m args below meth c H locs ls Z F O hlo hL h1 h2 hR
  exact lv_iload F.1 F.2.1 hd (hL.2.2.2 _ _ hl (fun q => by cases q)) (k p e s m args below meth c H locs ls Z F O hlo hL h1 h2 hR)
theorem x_lload_n {i : Fin 4} {x : Int64} (hd : decode (ib mi) pc = .ok (.lload_n i, 1)) (hl : lv[(i : Nat)]? = some (.long x)) (k : PM E l mi (pc + 1) lv (.long x :: st) S M kc ks Q) : PM E l mi pc lv (st) S M kc ks Q := by
  intro p e s m args below meth c H locs ls Z F O hlo hL h1 h2 hR
  exact lv_lload_n F.1 F.2.1 hd rfl (hL.2.2.2 _ _ hl (fun q => by cases q)) (k p e s m args below meth c H locs ls Z F O hlo hL h1 h2 hR)
theorem x_lload {i : Nat} {x : Int64} (hd : decode (ib mi) pc = .ok (.lload i, 2)) (hl : lv[i]? = some (.long x)) (k : PM E l mi (pc + 2) lv (.long x :: st) S M kc ks Q) : PM E l mi pc lv (st) S M kc ks Q := by
  intro p e s m args below meth c H locs ls Z F O hlo hL h1 h2 hR
  exact lv_lload F.1 F.2.1 hd (hL.2.2.2 _ _ hl (fun q => by cases q)) (k p e s m args below meth c H locs ls Z F O hlo hL h1 h2 hR)
theorem x_aload_n {i : Fin 4} {x : Nat} (hd : decode (ib mi) pc = .ok (.aload_n i, 1)) (hl : lv[(i : Nat)]? = some (.ref x)) (k : PM E l mi (pc + 1) lv (.ref x :: st) S M kc ks Q) : PM E l mi pc lv (st) S M kc ks Q := by
  intro p e s m args below meth c H locs ls Z F O hlo hL h1 h2 hR
  exact lv_aload_n F.1 F.2.1 hd rfl (hL.2.2.2 _ _ hl (fun q => by cases q)) (k p e s m args below meth c H locs ls Z F O hlo hL h1 h2 hR)
theorem x_aload {i : Nat} {x : Nat} (hd : decode (ib mi) pc = .ok (.aload i, 2)) (hl : lv[i]? = some (.ref x)) (k : PM E l mi (pc + 2) lv (.ref x :: st) S M kc ks Q) : PM E l mi pc lv (st) S M kc ks Q := by
  intro p e s m args below meth c H locs ls Z F O hlo hL h1 h2 hR
  exact lv_aload F.1 F.2.1 hd (hL.2.2.2 _ _ hl (fun q => by cases q)) (k p e s m args below meth c H locs ls Z F O hlo hL h1 h2 hR)
theorem x_iadd {x y : Int32} (hd : decode (ib mi) pc = .ok (.iadd, 1)) (k : PM E l mi (pc + 1) lv (.int (x + y) :: st) S M kc ks Q) : PM E l mi pc lv (.int y :: .int x :: st) S M kc ks Q := by
  intro p e s m args below meth c H locs ls Z F O hlo hL h1 h2 hR
  exact lv_iadd F.1 F.2.1 hd (k p e s m args below meth c H locs ls Z F O hlo hL h1 h2 hR)
theorem x_isub {x y : Int32} (hd : decode (ib mi) pc = .ok (.isub, 1)) (k : PM E l mi (pc + 1) lv (.int (x - y) :: st) S M kc ks Q) : PM E l mi pc lv (.int y :: .int x :: st) S M kc ks Q := by
  intro p e s m args below meth c H locs ls Z F O hlo hL h1 h2 hR
  exact lv_isub F.1 F.2.1 hd (k p e s m args below meth c H locs ls Z F O hlo hL h1 h2 hR)
theorem x_imul {x y : Int32} (hd : decode (ib mi) pc = .ok (.imul, 1)) (k : PM E l mi (pc + 1) lv (.int (x * y) :: st) S M kc ks Q) : PM E l mi pc lv (.int y :: .int x :: st) S M kc ks Q := by
  intro p e s m args below meth c H locs ls Z F O hlo hL h1 h2 hR
  exact lv_imul F.1 F.2.1 hd (k p e s m args below meth c H locs ls Z F O hlo hL h1 h2 hR)
theorem x_iand {x y : Int32} (hd : decode (ib mi) pc = .ok (.iand, 1)) (k : PM E l mi (pc + 1) lv (.int (x &&& y) :: st) S M kc ks Q) : PM E l mi pc lv (.int y :: .int x :: st) S M kc ks Q := by
  intro p e s m args below meth c H locs ls Z F O hlo hL h1 h2 hR
  exact lv_iand F.1 F.2.1 hd (k p e s m args below meth c H locs ls Z F O hlo hL h1 h2 hR)
theorem x_ior {x y : Int32} (hd : decode (ib mi) pc = .ok (.ior, 1)) (k : PM E l mi (pc + 1) lv (.int (x ||| y) :: st) S M kc ks Q) : PM E l mi pc lv (.int y :: .int x :: st) S M kc ks Q := by
  intro p e s m args below meth c H locs ls Z F O hlo hL h1 h2 hR
  exact lv_ior F.1 F.2.1 hd (k p e s m args below meth c H locs ls Z F O hlo hL h1 h2 hR)
theorem x_ixor {x y : Int32} (hd : decode (ib mi) pc = .ok (.ixor, 1)) (k : PM E l mi (pc + 1) lv (.int (x ^^^ y) :: st) S M kc ks Q) : PM E l mi pc lv (.int y :: .int x :: st) S M kc ks Q := by
  intro p e s m args below meth c H locs ls Z F O hlo hL h1 h2 hR
  exact lv_ixor F.1 F.2.1 hd (k p e s m args below meth c H locs ls Z F O hlo hL h1 h2 hR)
theorem x_ishl {x y : Int32} (hd : decode (ib mi) pc = .ok (.ishl, 1)) (k : PM E l mi (pc + 1) lv (.int (x <<< (y &&& 31)) :: st) S M kc ks Q) : PM E l mi pc lv (.int y :: .int x :: st) S M kc ks Q := by
  intro p e s m args below meth c H locs ls Z F O hlo hL h1 h2 hR
  exact lv_ishl F.1 F.2.1 hd (k p e s m args below meth c H locs ls Z F O hlo hL h1 h2 hR)
theorem x_ishr {x y : Int32} (hd : decode (ib mi) pc = .ok (.ishr, 1)) (k : PM E l mi (pc + 1) lv (.int (x >>> (y &&& 31)) :: st) S M kc ks Q) : PM E l mi pc lv (.int y :: .int x :: st) S M kc ks Q := by
  intro p e s m args below meth c H locs ls Z F O hlo hL h1 h2 hR
  exact lv_ishr F.1 F.2.1 hd (k p e s m args below meth c H locs ls Z F O hlo hL h1 h2 hR)
theorem x_iushr {x y : Int32} (hd : decode (ib mi) pc = .ok (.iushr, 1)) (k : PM E l mi (pc + 1) lv (.int ((x.toUInt32 >>> (y.toUInt32 &&& Int32.toUInt32 31)).toInt32) :: st) S M kc ks Q) : PM E l mi pc lv (.int y :: .int x :: st) S M kc ks Q := by
  intro p e s m args below meth c H locs ls Z F O hlo hL h1 h2 hR
  exact lv_iushr F.1 F.2.1 hd rfl (k p e s m args below meth c H locs ls Z F O hlo hL h1 h2 hR)
theorem x_idiv {x y : Int32} (hd : decode (ib mi) pc = .ok (.idiv, 1)) (hn : ¬ y = 0) (k : PM E l mi (pc + 1) lv (.int (x / y) :: st) S M kc ks Q) : PM E l mi pc lv (.int y :: .int x :: st) S M kc ks Q := by
  intro p e s m args below meth c H locs ls Z F O hlo hL h1 h2 hR
  exact lv_idiv F.1 F.2.1 hd hn (k p e s m args below meth c H locs ls Z F O hlo hL h1 h2 hR)
theorem x_irem {x y : Int32} (hd : decode (ib mi) pc = .ok (.irem, 1)) (hn : ¬ y = 0) (k : PM E l mi (pc + 1) lv (.int (x - x / y * y) :: st) S M kc ks Q) : PM E l mi pc lv (.int y :: .int x :: st) S M kc ks Q := by
  intro p e s m args below meth c H locs ls Z F O hlo hL h1 h2 hR
  exact lv_irem F.1 F.2.1 hd hn (k p e s m args below meth c H locs ls Z F O hlo hL h1 h2 hR)
theorem x_ineg {x : Int32} (hd : decode (ib mi) pc = .ok (.ineg, 1)) (k : PM E l mi (pc + 1) lv (.int (-x) :: st) S M kc ks Q) : PM E l mi pc lv (.int x :: st) S M kc ks Q := by
  intro p e s m args below meth c H locs ls Z F O hlo hL h1 h2 hR
  exact lv_ineg F.1 F.2.1 hd (k p e s m args below meth c H locs ls Z F O hlo hL h1 h2 hR)
theorem x_i2l {x : Int32} (hd : decode (ib mi) pc = .ok (.i2l, 1)) (k : PM E l mi (pc + 1) lv (.long x.toInt64 :: st) S M kc ks Q) : PM E l mi pc lv (.int x :: st) S M kc ks Q := by
  intro p e s m args below meth c H locs ls Z F O hlo hL h1 h2 hR
  exact lv_i2l F.1 F.2.1 hd rfl (k p e s m args below meth c H locs ls Z F O hlo hL h1 h2 hR)
theorem x_lcmp {x y : Int64} (hd : decode (ib mi) pc = .ok (.lcmp, 1)) (k : PM E l mi (pc + 1) lv (.int (lg_cmp x y) :: st) S M kc ks Q) : PM E l mi pc lv (.long y :: .long x :: st) S M kc ks Q := by
  intro p e s m args below meth c H locs ls Z F O hlo hL h1 h2 hR
  exact W.lcmp F.1 F.2.1 hd (k p e s m args below meth c H locs ls Z F O hlo hL h1 h2 hR)
theorem x_dup {v : Value} (hd : decode (ib mi) pc = .ok (.dup, 1)) (hv : v.category = 1) (k : PM E l mi (pc + 1) lv (v :: v :: st) S M kc ks Q) : PM E l mi pc lv (v :: st) S M kc ks Q := by
  intro p e s m args below meth c H locs ls Z F O hlo hL h1 h2 hR
  exact lv_dup F.1 F.2.1 hd ((cv_cat E v).trans hv) (k p e s m args below meth c H locs ls Z F O hlo hL h1 h2 hR)
theorem x_pop {v : Value} (hd : decode (ib mi) pc = .ok (.pop, 1)) (hv : v.category = 1) (k : PM E l mi (pc + 1) lv (st) S M kc ks Q) : PM E l mi pc lv (v :: st) S M kc ks Q := by
  intro p e s m args below meth c H locs ls Z F O hlo hL h1 h2 hR
  exact lv_pop F.1 F.2.1 hd ((cv_cat E v).trans hv) (k p e s m args below meth c H locs ls Z F O hlo hL h1 h2 hR)
theorem x_dup_x1 {v w : Value} (hd : decode (ib mi) pc = .ok (.dup_x1, 1)) (hv : v.category = 1) (hw : w.category = 1) (k : PM E l mi (pc + 1) lv (v :: w :: v :: st) S M kc ks Q) : PM E l mi pc lv (v :: w :: st) S M kc ks Q := by
  intro p e s m args below meth c H locs ls Z F O hlo hL h1 h2 hR
  exact lv_dup_x1 F.1 F.2.1 hd ((cv_cat E v).trans hv) ((cv_cat E w).trans hw) (k p e s m args below meth c H locs ls Z F O hlo hL h1 h2 hR)
theorem x_dup2 {v w : Value} (hd : decode (ib mi) pc = .ok (.dup2, 1)) (hv : v.category = 1) (hw : w.category = 1) (k : PM E l mi (pc + 1) lv (v :: w :: v :: w :: st) S M kc ks Q) : PM E l mi pc lv (v :: w :: st) S M kc ks Q := by
  intro p e s m args below meth c H locs ls Z F O hlo hL h1 h2 hR
  exact lv_dup2_11 F.1 F.2.1 hd ((cv_cat E v).trans hv) ((cv_cat E w).trans hw) (k p e s m args below meth c H locs ls Z F O hlo hL h1 h2 hR)
theorem x_if_eq {x : Int32} {off : Int} (tgt : Nat) (hd : decode (ib mi) pc = .ok (.ifCond .eq off, 3)) (ht : (pc : Int) + off = (tgt : Int)) (kt : x = 0 → PM E l mi tgt lv st S M kc ks Q) (kf : ¬ x = 0 → PM E l mi (pc + 3) lv st S M kc ks Q) : PM E l mi pc lv (.int x :: st) S M kc ks Q := by
  intro p e s m args below meth c H locs ls Z F O hlo hL h1 h2 hR
  exact lv_if_eq F.1 F.2.1 hd ht (fun z => kt z p e s m args below meth c H locs ls Z F O hlo hL h1 h2 hR) (fun z => kf z p e s m args below meth c H locs ls Z F O hlo hL h1 h2 hR)
theorem x_icmp_eq {x y : Int32} {off : Int} (tgt : Nat) (hd : decode (ib mi) pc = .ok (.if_icmp .eq off, 3)) (ht : (pc : Int) + off = (tgt : Int)) (kt : x = y → PM E l mi tgt lv st S M kc ks Q) (kf : ¬ x = y → PM E l mi (pc + 3) lv st S M kc ks Q) : PM E l mi pc lv (.int y :: .int x :: st) S M kc ks Q := by
  intro p e s m args below meth c H locs ls Z F O hlo hL h1 h2 hR
  exact lv_icmp_eq F.1 F.2.1 hd ht (fun z => kt z p e s m args below meth c H locs ls Z F O hlo hL h1 h2 hR) (fun z => kf z p e s m args below meth c H locs ls Z F O hlo hL h1 h2 hR)
theorem x_if_ne {x : Int32} {off : Int} (tgt : Nat) (hd : decode (ib mi) pc = .ok (.ifCond .ne off, 3)) (ht : (pc : Int) + off = (tgt : Int)) (kt : ¬ x = 0 → PM E l mi tgt lv st S M kc ks Q) (kf : x = 0 → PM E l mi (pc + 3) lv st S M kc ks Q) : PM E l mi pc lv (.int x :: st) S M kc ks Q := by
  intro p e s m args below meth c H locs ls Z F O hlo hL h1 h2 hR
  exact lv_if_ne F.1 F.2.1 hd ht (fun z => kt z p e s m args below meth c H locs ls Z F O hlo hL h1 h2 hR) (fun z => kf z p e s m args below meth c H locs ls Z F O hlo hL h1 h2 hR)
theorem x_icmp_ne {x y : Int32} {off : Int} (tgt : Nat) (hd : decode (ib mi) pc = .ok (.if_icmp .ne off, 3)) (ht : (pc : Int) + off = (tgt : Int)) (kt : ¬ x = y → PM E l mi tgt lv st S M kc ks Q) (kf : x = y → PM E l mi (pc + 3) lv st S M kc ks Q) : PM E l mi pc lv (.int y :: .int x :: st) S M kc ks Q := by
  intro p e s m args below meth c H locs ls Z F O hlo hL h1 h2 hR
  exact lv_icmp_ne F.1 F.2.1 hd ht (fun z => kt z p e s m args below meth c H locs ls Z F O hlo hL h1 h2 hR) (fun z => kf z p e s m args below meth c H locs ls Z F O hlo hL h1 h2 hR)
theorem x_if_lt {x : Int32} {off : Int} (tgt : Nat) (hd : decode (ib mi) pc = .ok (.ifCond .lt off, 3)) (ht : (pc : Int) + off = (tgt : Int)) (kt : x < 0 → PM E l mi tgt lv st S M kc ks Q) (kf : ¬ x < 0 → PM E l mi (pc + 3) lv st S M kc ks Q) : PM E l mi pc lv (.int x :: st) S M kc ks Q := by
  intro p e s m args below meth c H locs ls Z F O hlo hL h1 h2 hR
  exact lv_if_lt F.1 F.2.1 hd ht (fun z => kt z p e s m args below meth c H locs ls Z F O hlo hL h1 h2 hR) (fun z => kf z p e s m args below meth c H locs ls Z F O hlo hL h1 h2 hR)
theorem x_icmp_lt {x y : Int32} {off : Int} (tgt : Nat) (hd : decode (ib mi) pc = .ok (.if_icmp .lt off, 3)) (ht : (pc : Int) + off = (tgt : Int)) (kt : x < y → PM E l mi tgt lv st S M kc ks Q) (kf : ¬ x < y → PM E l mi (pc + 3) lv st S M kc ks Q) : PM E l mi pc lv (.int y :: .int x :: st) S M kc ks Q := by
  intro p e s m args below meth c H locs ls Z F O hlo hL h1 h2 hR
  exact lv_icmp_lt F.1 F.2.1 hd ht (fun z => kt z p e s m args below meth c H locs ls Z F O hlo hL h1 h2 hR) (fun z => kf z p e s m args below meth c H locs ls Z F O hlo hL h1 h2 hR)
theorem x_if_ge {x : Int32} {off : Int} (tgt : Nat) (hd : decode (ib mi) pc = .ok (.ifCond .ge off, 3)) (ht : (pc : Int) + off = (tgt : Int)) (kt : 0 ≤ x → PM E l mi tgt lv st S M kc ks Q) (kf : ¬ 0 ≤ x → PM E l mi (pc + 3) lv st S M kc ks Q) : PM E l mi pc lv (.int x :: st) S M kc ks Q := by
  intro p e s m args below meth c H locs ls Z F O hlo hL h1 h2 hR
  exact lv_if_ge F.1 F.2.1 hd ht (fun z => kt z p e s m args below meth c H locs ls Z F O hlo hL h1 h2 hR) (fun z => kf z p e s m args below meth c H locs ls Z F O hlo hL h1 h2 hR)
theorem x_icmp_ge {x y : Int32} {off : Int} (tgt : Nat) (hd : decode (ib mi) pc = .ok (.if_icmp .ge off, 3)) (ht : (pc : Int) + off = (tgt : Int)) (kt : y ≤ x → PM E l mi tgt lv st S M kc ks Q) (kf : ¬ y ≤ x → PM E l mi (pc + 3) lv st S M kc ks Q) : PM E l mi pc lv (.int y :: .int x :: st) S M kc ks Q := by
  intro p e s m args below meth c H locs ls Z F O hlo hL h1 h2 hR
  exact lv_icmp_ge F.1 F.2.1 hd ht (fun z => kt z p e s m args below meth c H locs ls Z F O hlo hL h1 h2 hR) (fun z => kf z p e s m args below meth c H locs ls Z F O hlo hL h1 h2 hR)
theorem x_if_gt {x : Int32} {off : Int} (tgt : Nat) (hd : decode (ib mi) pc = .ok (.ifCond .gt off, 3)) (ht : (pc : Int) + off = (tgt : Int)) (kt : 0 < x → PM E l mi tgt lv st S M kc ks Q) (kf : ¬ 0 < x → PM E l mi (pc + 3) lv st S M kc ks Q) : PM E l mi pc lv (.int x :: st) S M kc ks Q := by
  intro p e s m args below meth c H locs ls Z F O hlo hL h1 h2 hR
  exact lv_if_gt F.1 F.2.1 hd ht (fun z => kt z p e s m args below meth c H locs ls Z F O hlo hL h1 h2 hR) (fun z => kf z p e s m args below meth c H locs ls Z F O hlo hL h1 h2 hR)
theorem x_icmp_gt {x y : Int32} {off : Int} (tgt : Nat) (hd : decode (ib mi) pc = .ok (.if_icmp .gt off, 3)) (ht : (pc : Int) + off = (tgt : Int)) (kt : y < x → PM E l mi tgt lv st S M kc ks Q) (kf : ¬ y < x → PM E l mi (pc + 3) lv st S M kc ks Q) : PM E l mi pc lv (.int y :: .int x :: st) S M kc ks Q := by
  intro p e s m args below meth c H locs ls Z F O hlo hL h1 h2 hR
  exact lv_icmp_gt F.1 F.2.1 hd ht (fun z => kt z p e s m args below meth c H locs ls Z F O hlo hL h1 h2 hR) (fun z => kf z p e s m args below meth c H locs ls Z F O hlo hL h1 h2 hR)
theorem x_if_le {x : Int32} {off : Int} (tgt : Nat) (hd : decode (ib mi) pc = .ok (.ifCond .le off, 3)) (ht : (pc : Int) + off = (tgt : Int)) (kt : x ≤ 0 → PM E l mi tgt lv st S M kc ks Q) (kf : ¬ x ≤ 0 → PM E l mi (pc + 3) lv st S M kc ks Q) : PM E l mi pc lv (.int x :: st) S M kc ks Q := by
  intro p e s m args below meth c H locs ls Z F O hlo hL h1 h2 hR
  exact lv_if_le F.1 F.2.1 hd ht (fun z => kt z p e s m args below meth c H locs ls Z F O hlo hL h1 h2 hR) (fun z => kf z p e s m args below meth c H locs ls Z F O hlo hL h1 h2 hR)
theorem x_icmp_le {x y : Int32} {off : Int} (tgt : Nat) (hd : decode (ib mi) pc = .ok (.if_icmp .le off, 3)) (ht : (pc : Int) + off = (tgt : Int)) (kt : x ≤ y → PM E l mi tgt lv st S M kc ks Q) (kf : ¬ x ≤ y → PM E l mi (pc + 3) lv st S M kc ks Q) : PM E l mi pc lv (.int y :: .int x :: st) S M kc ks Q := by
  intro p e s m args below meth c H locs ls Z F O hlo hL h1 h2 hR
  exact lv_icmp_le F.1 F.2.1 hd ht (fun z => kt z p e s m args below meth c H locs ls Z F O hlo hL h1 h2 hR) (fun z => kf z p e s m args below meth c H locs ls Z F O hlo hL h1 h2 hR)
theorem x_goto {off : Int} (tgt : Nat) (hd : decode (ib mi) pc = .ok (.goto off, 3)) (ht : (pc : Int) + off = (tgt : Int)) (k : PM E l mi tgt lv st S M kc ks Q) : PM E l mi pc lv st S M kc ks Q := by
  intro p e s m args below meth c H locs ls Z F O hlo hL h1 h2 hR
  exact lv_goto F.1 F.2.1 hd ht (k p e s m args below meth c H locs ls Z F O hlo hL h1 h2 hR)
theorem x_tabOut {dflt lo hi : Int} {offs : Array Int} {len : Nat} {x : Int32} (tgt : Nat) (hd : decode (ib mi) pc = .ok (.tableswitch dflt lo hi offs, len)) (h : x.toInt < lo ∨ hi < x.toInt) (ht : (pc : Int) + dflt = (tgt : Int)) (k : PM E l mi tgt lv st S M kc ks Q) : PM E l mi pc lv (.int x :: st) S M kc ks Q := by
  intro p e s m args below meth c H locs ls Z F O hlo hL h1 h2 hR
  exact lv_tableOut F.1 F.2.1 hd h ht (k p e s m args below meth c H locs ls Z F O hlo hL h1 h2 hR)
theorem x_tabIn {dflt lo hi : Int} {offs : Array Int} {len : Nat} {x : Int32} {off : Int} (tgt : Nat) (hd : decode (ib mi) pc = .ok (.tableswitch dflt lo hi offs, len)) (g1 : ¬ x.toInt < lo) (g2 : ¬ hi < x.toInt) (ho : offs[(x.toInt - lo).toNat]? = some off) (ht : (pc : Int) + off = (tgt : Int)) (k : PM E l mi tgt lv st S M kc ks Q) : PM E l mi pc lv (.int x :: st) S M kc ks Q := by
  intro p e s m args below meth c H locs ls Z F O hlo hL h1 h2 hR
  exact lv_tableIn F.1 F.2.1 hd g1 g2 ho ht (k p e s m args below meth c H locs ls Z F O hlo hL h1 h2 hR)
theorem x_lookup {dflt : Int} {ps : Array (Int × Int)} {len : Nat} {x : Int32} {off : Int} (tgt : Nat) (hd : decode (ib mi) pc = .ok (.lookupswitch dflt ps, len)) (hp : (ps.toList.zip (ps.toList.drop 1)).all (fun (a, next) => a.1 < next.1) = true) (ho : Op.lookupswitch.offset ps.toList dflt x.toInt = off) (ht : (pc : Int) + off = (tgt : Int)) (k : PM E l mi tgt lv st S M kc ks Q) : PM E l mi pc lv (.int x :: st) S M kc ks Q := by
  intro p e s m args below meth c H locs ls Z F O hlo hL h1 h2 hR
  exact lv_lookup F.1 F.2.1 hd hp ho ht (k p e s m args below meth c H locs ls Z F O hlo hL h1 h2 hR)
end RA

def prl (E : vE) (lv : List Value) : List (Nat × Value) := (List.range lv.length).filterMap (fun i => match (lv[i]? : Option Value) with
  | some Value.null => none
  | some v => some (i, cv E v)
  | none => none)
theorem prl_in {E : vE} {lv : List Value} {i : Nat} {v : Value} (h : lv[i]? = some v) (hv : v ≠ .null) : (i, cv E v) ∈ prl E lv := by
  unfold prl
  refine List.mem_filterMap.mpr ⟨i, List.mem_range.mpr (List.getElem?_eq_some_iff.mp h).1, ?_⟩
  rw [h]
  cases v <;> first | rfl | exact absurd rfl hv
theorem prl_of {E : vE} {lv : List Value} {q : Nat × Value} (h : q ∈ prl E lv) : ∃ v, lv[q.1]? = some v ∧ v ≠ .null ∧ q.2 = cv E v := by
  unfold prl at h
  obtain ⟨i, -, h1⟩ := List.mem_filterMap.mp h
  cases hv : lv[i]? with
  | none => rw [hv] at h1; cases h1
  | some v =>
    rw [hv] at h1
    cases v <;> first | (cases h1; exact ⟨_, hv, (fun q => by cases q), rfl⟩) | cases h1
theorem Lr.has {E : vE} {ls : Array Slot} {lv : List Value} {n : Nat} (h : Lr E ls lv n) : lv_has ls n (prl E lv) := by
  refine ⟨h.1, h.2.1, fun q hq => ?_⟩
  obtain ⟨v, h1, h2, h3⟩ := prl_of hq
  rw [h3]
  exact h.2.2.2 _ _ h1 h2
theorem Lr.put {E : vE} {ls : Array Slot} {lv : List Value} {n i : Nat} {v : Value} (hn : lv.length = n) (hc : lv.all (fun v => v.category == 1) = true) (h : lv_has ls n ((i, cv E v) :: (prl E lv).filter (fun q => !(q.1 == i) && !(q.1 + 1 == i && q.2.category == 2)))) : Lr E ls (lv.set i v) n := by
  refine ⟨h.1, h.2.1, by rw [List.length_set]; exact hn, fun j w hj hw => ?_⟩
  by_cases hji : j = i
  · subst hji
    have hl : j < lv.length := by
      have := (List.getElem?_eq_some_iff.mp hj).1
      rw [List.length_set] at this
      exact this
    rw [List.getElem?_set_self hl] at hj
    cases hj
    exact h.2.2 (j, cv E v) List.mem_cons_self
  · rw [List.getElem?_set_ne (Ne.symm hji)] at hj
    have h1 := List.all_eq_true.mp hc w (List.mem_of_getElem? hj)
    refine h.2.2 (j, cv E w) (List.mem_cons_of_mem _ (List.mem_filter.mpr ⟨prl_in hj hw, ?_⟩))
    simp only [beq_iff_eq] at h1
    simp [hji, cv_cat, h1]

section RB
variable {E : vE} {l : Launch} {mi : vMI} {pc : Nat} {lv st : List Value} {S : vS} {M : vM} {kc ks : Nat} {Q : Option Value → vS → vM → Prop}
theorem x_istore_n {i : Fin 4} {x : Int32} (hd : decode (ib mi) pc = .ok (.istore_n i, 1)) (hi : (i : Nat) < im mi) (hc : lv.all (fun v => v.category == 1) = true) (k : PM E l mi (pc + 1) (lv.set (i : Nat) (.int x)) st S M kc ks Q) : PM E l mi pc lv (.int x :: st) S M kc ks Q := by
  intro p e s m args below meth c H locs ls Z F O hlo hL h1 h2 hR
  exact lv_istore_n F.1 F.2.1 hd rfl hL.has hi rfl (fun ls' hl' => k p e s m args below meth c H locs ls' Z F O hlo (Lr.put hL.2.2.1 hc hl') h1 h2 hR)
theorem x_istore {i : Nat} {x : Int32} (hd : decode (ib mi) pc = .ok (.istore i, 2)) (hi : (i : Nat) < im mi) (hc : lv.all (fun v => v.category == 1) = true) (k : PM E l mi (pc + 2) (lv.set (i : Nat) (.int x)) st S M kc ks Q) : PM E l mi pc lv (.int x :: st) S M kc ks Q := by
  intro p e s m args below meth c H locs ls Z F O hlo hL h1 h2 hR
  exact lv_istore F.1 F.2.1 hd hL.has hi rfl (fun ls' hl' => k p e s m args below meth c H locs ls' Z F O hlo (Lr.put hL.2.2.1 hc hl') h1 h2 hR)
theorem x_astore_n {i : Fin 4} {x : Nat} (hd : decode (ib mi) pc = .ok (.astore_n i, 1)) (hi : (i : Nat) < im mi) (hc : lv.all (fun v => v.category == 1) = true) (k : PM E l mi (pc + 1) (lv.set (i : Nat) (.ref x)) st S M kc ks Q) : PM E l mi pc lv (.ref x :: st) S M kc ks Q := by
  intro p e s m args below meth c H locs ls Z F O hlo hL h1 h2 hR
  exact lv_astore_n F.1 F.2.1 hd rfl hL.has hi rfl (fun ls' hl' => k p e s m args below meth c H locs ls' Z F O hlo (Lr.put hL.2.2.1 hc hl') h1 h2 hR)
theorem x_astore {i : Nat} {x : Nat} (hd : decode (ib mi) pc = .ok (.astore i, 2)) (hi : (i : Nat) < im mi) (hc : lv.all (fun v => v.category == 1) = true) (k : PM E l mi (pc + 2) (lv.set (i : Nat) (.ref x)) st S M kc ks Q) : PM E l mi pc lv (.ref x :: st) S M kc ks Q := by
  intro p e s m args below meth c H locs ls Z F O hlo hL h1 h2 hR
  exact lv_astore F.1 F.2.1 hd hL.has hi rfl (fun ls' hl' => k p e s m args below meth c H locs ls' Z F O hlo (Lr.put hL.2.2.1 hc hl') h1 h2 hR)
theorem x_iinc {i : Nat} {n : Int} {x v : Int32} (hd : decode (ib mi) pc = .ok (.iinc i n, 3)) (hl : lv[i]? = some (.int x)) (hv : x + Int32.ofInt n = v) (hc : lv.all (fun v => v.category == 1) = true) (k : PM E l mi (pc + 3) (lv.set i (.int v)) st S M kc ks Q) : PM E l mi pc lv st S M kc ks Q := by
  intro p e s m args below meth c H locs ls Z F O hlo hL h1 h2 hR
  have hm := prl_in (E := E) hl (fun q => by cases q)
  obtain ⟨kk, hk⟩ := List.getElem?_of_mem hm
  have hi : i < im mi := by
    have h5 := (List.getElem?_eq_some_iff.mp hl).1
    rw [hL.2.2.1] at h5
    exact h5
  exact lv_iinc F.1 F.2.1 hd hL.has (k := kk) hk hv hi rfl (fun ls' hl' => k p e s m args below meth c H locs ls' Z F O hlo (Lr.put hL.2.2.1 hc hl') h1 h2 hR)
theorem PM.mono {Q2 : Option Value → vS → vM → Prop} (h : ∀ r S M, Q r S M → Q2 r S M) (k : PM E l mi pc lv st S M kc ks Q) : PM E l mi pc lv st S M kc ks Q2 := by
  intro p e s m args below meth c H locs ls Z F O hlo hL h1 h2 hR
  exact k p e s m args below meth c H locs ls Z F O hlo hL h1 h2 (fun r S M kc ks H locs ls pc hq => hR r S M kc ks H locs ls pc (h r S M hq))
theorem x_iret {v : Int32} {ty : FieldType} (hd : decode (ib mi) pc = .ok (.ireturn, 1)) (hr : ir mi = some ty) (hn : narrow ty (.int v) = .int v) (hq : Q (some (.int v)) S M) : PM E l mi pc lv [.int v] S M kc ks Q := by
  intro p e s m args below meth c H locs ls Z F O hlo hL h1 h2 hR
  exact hR (some (.int v)) S M kc ks H locs ls pc hq O hlo h1 h2 (Or.inl ⟨hd, v, ty, rfl, hr, hn⟩)
theorem x_vret (hd : decode (ib mi) pc = .ok (.return_, 1)) (hr : ir mi = none) (hq : Q none S M) : PM E l mi pc lv [] S M kc ks Q := by
  intro p e s m args below meth c H locs ls Z F O hlo hL h1 h2 hR
  exact hR none S M kc ks H locs ls pc hq O hlo h1 h2 (Or.inr (Or.inl ⟨hd, rfl, hr⟩))
theorem x_aret {q : Nat} {n : String} (hd : decode (ib mi) pc = .ok (.areturn, 1)) (hr : ir mi = some (.object n)) (hq : Q (some (.ref q)) S M) : PM E l mi pc lv [.ref q] S M kc ks Q := by
  intro p e s m args below meth c H locs ls Z F O hlo hL h1 h2 hR
  exact hR (some (.ref q)) S M kc ks H locs ls pc hq O hlo h1 h2 (Or.inr (Or.inr ⟨hd, q, n, rfl, hr⟩))
end RB
