section Rows
variable {M : r_M} {h : Nat} {X : r_X} {Post : Option Value → r_Sg → Prop} {pc : Nat} {L S : List Value} {σ : r_Sg}
theorem g_iconst {n : Int} {v : Int32} (d : decode M.2.1 pc = .ok (.iconst n, 1)) (hv : Int32.ofInt n = v) (k : G M h X Post (pc + 1) L (.int v :: S) σ) : G M h X Post pc L S σ := by
  intro E p l e R s m args below meth c A cells slots Q C H locs ls hP hD hS hL
  exact lv_iconst C.1 C.2.1 d hv (k E p l e R s m args below meth c A cells slots Q C H locs ls hP hD hS hL)
theorem g_bipush {n : Int} {v : Int32} (d : decode M.2.1 pc = .ok (.bipush n, 2)) (hv : (Int8.ofInt n).toInt32 = v) (k : G M h X Post (pc + 2) L (.int v :: S) σ) : G M h X Post pc L S σ := by
  intro E p l e R s m args below meth c A cells slots Q C H locs ls hP hD hS hL
  exact lv_bipush C.1 C.2.1 d hv (k E p l e R s m args below meth c A cells slots Q C H locs ls hP hD hS hL)
theorem g_sipush {n : Int} {v : Int32} (d : decode M.2.1 pc = .ok (.sipush n, 3)) (hv : (Int16.ofInt n).toInt32 = v) (k : G M h X Post (pc + 3) L (.int v :: S) σ) : G M h X Post pc L S σ := by
  intro E p l e R s m args below meth c A cells slots Q C H locs ls hP hD hS hL
  exact lv_sipush C.1 C.2.1 d hv (k E p l e R s m args below meth c A cells slots Q C H locs ls hP hD hS hL)
theorem g_lconst {n : Fin 2} {v : Int64} (d : decode M.2.1 pc = .ok (.lconst n, 1)) (hv : Int64.ofNat (n : Nat) = v) (k : G M h X Post (pc + 1) L (.long v :: S) σ) : G M h X Post pc L S σ := by
  intro E p l e R s m args below meth c A cells slots Q C H locs ls hP hD hS hL
  exact lv_lconst C.1 C.2.1 d hv (k E p l e R s m args below meth c A cells slots Q C H locs ls hP hD hS hL)
theorem g_ldcw {n : Nat} {v : Int32} (d : decode M.2.1 pc = .ok (.ldc_w n, 3)) (hv : Cond.constant M.1.cls n v ∈ r_tbl) (k : G M h X Post (pc + 3) L (.int v :: S) σ) : G M h X Post pc L S σ := by
  intro E p l e R s m args below meth c A cells slots Q C H locs ls hP hD hS hL
  exact lv_ldcw C.1 C.2.1 C.2.2.2.1 (C.2.2.2.2.1 _ hv) d (k E p l e R s m args below meth c A cells slots Q C H locs ls hP hD hS hL)
theorem g_ldc2 {n : Nat} {v : Int64} (d : decode M.2.1 pc = .ok (.ldc2_w n, 3)) (hv : Cond.constantLong M.1.cls n v ∈ r_tbl) (k : G M h X Post (pc + 3) L (.long v :: S) σ) : G M h X Post pc L S σ := by
  intro E p l e R s m args below meth c A cells slots Q C H locs ls hP hD hS hL
  exact lv_ldc2 C.1 C.2.1 C.2.2.2.1 (C.2.2.2.2.1 _ hv) d (k E p l e R s m args below meth c A cells slots Q C H locs ls hP hD hS hL)
theorem g_iload_n {n : Fin 4} {x : Int32} (d : decode M.2.1 pc = .ok (.iload_n n, 1)) (hl : r_lg L n = .int x) (k : G M h X Post (pc + 1) L (.int x :: S) σ) : G M h X Post pc L S σ := by
  intro E p l e R s m args below meth c A cells slots Q C H locs ls hP hD hS hL
  exact lv_iload_n C.1 C.2.1 d rfl (hL.2.2 n _ (r_lg_some hl (by intro q; cases q)) (by intro q; cases q)) (k E p l e R s m args below meth c A cells slots Q C H locs ls hP hD hS hL)
theorem g_iload {n : Nat} {x : Int32} (d : decode M.2.1 pc = .ok (.iload n, 2)) (hl : r_lg L n = .int x) (k : G M h X Post (pc + 2) L (.int x :: S) σ) : G M h X Post pc L S σ := by
  intro E p l e R s m args below meth c A cells slots Q C H locs ls hP hD hS hL
  exact lv_iload C.1 C.2.1 d (hL.2.2 n _ (r_lg_some hl (by intro q; cases q)) (by intro q; cases q)) (k E p l e R s m args below meth c A cells slots Q C H locs ls hP hD hS hL)
theorem g_lload_n {n : Fin 4} {x : Int64} (d : decode M.2.1 pc = .ok (.lload_n n, 1)) (hl : r_lg L n = .long x) (k : G M h X Post (pc + 1) L (.long x :: S) σ) : G M h X Post pc L S σ := by
  intro E p l e R s m args below meth c A cells slots Q C H locs ls hP hD hS hL
  exact lv_lload_n C.1 C.2.1 d rfl (hL.2.2 n _ (r_lg_some hl (by intro q; cases q)) (by intro q; cases q)) (k E p l e R s m args below meth c A cells slots Q C H locs ls hP hD hS hL)
theorem g_lload {n : Nat} {x : Int64} (d : decode M.2.1 pc = .ok (.lload n, 2)) (hl : r_lg L n = .long x) (k : G M h X Post (pc + 2) L (.long x :: S) σ) : G M h X Post pc L S σ := by
  intro E p l e R s m args below meth c A cells slots Q C H locs ls hP hD hS hL
  exact lv_lload C.1 C.2.1 d (hL.2.2 n _ (r_lg_some hl (by intro q; cases q)) (by intro q; cases q)) (k E p l e R s m args below meth c A cells slots Q C H locs ls hP hD hS hL)
theorem g_aload_n {n : Fin 4} {x : Nat} (d : decode M.2.1 pc = .ok (.aload_n n, 1)) (hl : r_lg L n = .ref x) (k : G M h X Post (pc + 1) L (.ref x :: S) σ) : G M h X Post pc L S σ := by
  intro E p l e R s m args below meth c A cells slots Q C H locs ls hP hD hS hL
  exact lv_aload_n C.1 C.2.1 d rfl (hL.2.2 n _ (r_lg_some hl (by intro q; cases q)) (by intro q; cases q)) (k E p l e R s m args below meth c A cells slots Q C H locs ls hP hD hS hL)
theorem g_aload {n : Nat} {x : Nat} (d : decode M.2.1 pc = .ok (.aload n, 2)) (hl : r_lg L n = .ref x) (k : G M h X Post (pc + 2) L (.ref x :: S) σ) : G M h X Post pc L S σ := by
  intro E p l e R s m args below meth c A cells slots Q C H locs ls hP hD hS hL
  exact lv_aload C.1 C.2.1 d (hL.2.2 n _ (r_lg_some hl (by intro q; cases q)) (by intro q; cases q)) (k E p l e R s m args below meth c A cells slots Q C H locs ls hP hD hS hL)
theorem g_istore_n {n : Fin 4} {x : Int32} (d : decode M.2.1 pc = .ok (.istore_n n, 1)) (hn : n.val < M.2.2.1) (hp : r_pv L n.val = true) (k : G M h X Post (pc + 1) (r_ls L n.val (.int x)) S σ) : G M h X Post pc L ((.int x) :: S) σ := by
  intro E p l e R s m args below meth c A cells slots Q C H locs ls hP hD hS hL
  exact lv_istore_n C.1 C.2.1 d rfl hL.has hn rfl (fun ls2 hl2 => k E p l e R s m args below meth c A cells slots Q C H locs ls2 hP hD hS (hL.set hp hl2))
theorem g_istore {n : Nat} {x : Int32} (d : decode M.2.1 pc = .ok (.istore n, 2)) (hn : n < M.2.2.1) (hp : r_pv L n = true) (k : G M h X Post (pc + 2) (r_ls L n (.int x)) S σ) : G M h X Post pc L ((.int x) :: S) σ := by
  intro E p l e R s m args below meth c A cells slots Q C H locs ls hP hD hS hL
  exact lv_istore C.1 C.2.1 d hL.has hn rfl (fun ls2 hl2 => k E p l e R s m args below meth c A cells slots Q C H locs ls2 hP hD hS (hL.set hp hl2))
theorem g_lstore_n {n : Fin 4} {x : Int64} (d : decode M.2.1 pc = .ok (.lstore_n n, 1)) (hn : n.val + 1 < M.2.2.1) (hp : r_pv L n.val = true) (k : G M h X Post (pc + 1) (r_ls (r_ls L n.val (.long x)) (n.val + 1) .null) S σ) : G M h X Post pc L ((.long x) :: S) σ := by
  intro E p l e R s m args below meth c A cells slots Q C H locs ls hP hD hS hL
  exact lv_lstore_n C.1 C.2.1 d rfl hL.has hn rfl (fun ls2 hl2 => k E p l e R s m args below meth c A cells slots Q C H locs ls2 hP hD hS (hL.set2 hp hl2))
theorem g_lstore {n : Nat} {x : Int64} (d : decode M.2.1 pc = .ok (.lstore n, 2)) (hn : n + 1 < M.2.2.1) (hp : r_pv L n = true) (k : G M h X Post (pc + 2) (r_ls (r_ls L n (.long x)) (n + 1) .null) S σ) : G M h X Post pc L ((.long x) :: S) σ := by
  intro E p l e R s m args below meth c A cells slots Q C H locs ls hP hD hS hL
  exact lv_lstore C.1 C.2.1 d hL.has hn rfl (fun ls2 hl2 => k E p l e R s m args below meth c A cells slots Q C H locs ls2 hP hD hS (hL.set2 hp hl2))
theorem g_astore_n {n : Fin 4} {x : Nat} (d : decode M.2.1 pc = .ok (.astore_n n, 1)) (hn : n.val < M.2.2.1) (hp : r_pv L n.val = true) (k : G M h X Post (pc + 1) (r_ls L n.val (.ref x)) S σ) : G M h X Post pc L ((.ref x) :: S) σ := by
  intro E p l e R s m args below meth c A cells slots Q C H locs ls hP hD hS hL
  exact lv_astore_n C.1 C.2.1 d rfl hL.has hn rfl (fun ls2 hl2 => k E p l e R s m args below meth c A cells slots Q C H locs ls2 hP hD hS (hL.set hp hl2))
theorem g_iinc {n : Nat} {z : Int} {x v : Int32} (d : decode M.2.1 pc = .ok (.iinc n z, 3)) (hx : r_lg L n = .int x) (hv : x + Int32.ofInt z = v) (hn : n < M.2.2.1) (hp : r_pv L n = true) (k : G M h X Post (pc + 3) (r_ls L n (.int v)) S σ) : G M h X Post pc L S σ := by
  intro E p l e R s m args below meth c A cells slots Q C H locs ls hP hD hS hL
  have hm : (n, Value.int x) ∈ r_lv E.2.1 0 L := by simpa [r_v] using r_lv_mem E.2.1 L 0 n (.int x) (r_lg_some hx (by intro q; cases q)) (by intro q; cases q)
  obtain ⟨j, hj⟩ := List.getElem?_of_mem hm
  exact lv_iinc C.1 C.2.1 d hL.has hj hv hn rfl (fun ls2 hl2 => k E p l e R s m args below meth c A cells slots Q C H locs ls2 hP hD hS (hL.set hp hl2))
theorem g_iadd {x y : Int32} (d : decode M.2.1 pc = .ok (.iadd, 1))  (k : G M h X Post (pc + 1) L (.int (x + y) :: S) σ) : G M h X Post pc L (.int y :: .int x :: S) σ := by
  intro E p l e R s m args below meth c A cells slots Q C H locs ls hP hD hS hL
  exact lv_iadd C.1 C.2.1 d (k E p l e R s m args below meth c A cells slots Q C H locs ls hP hD hS hL)
theorem g_isub {x y : Int32} (d : decode M.2.1 pc = .ok (.isub, 1))  (k : G M h X Post (pc + 1) L (.int (x - y) :: S) σ) : G M h X Post pc L (.int y :: .int x :: S) σ := by
  intro E p l e R s m args below meth c A cells slots Q C H locs ls hP hD hS hL
  exact lv_isub C.1 C.2.1 d (k E p l e R s m args below meth c A cells slots Q C H locs ls hP hD hS hL)
theorem g_imul {x y : Int32} (d : decode M.2.1 pc = .ok (.imul, 1))  (k : G M h X Post (pc + 1) L (.int (x * y) :: S) σ) : G M h X Post pc L (.int y :: .int x :: S) σ := by
  intro E p l e R s m args below meth c A cells slots Q C H locs ls hP hD hS hL
  exact lv_imul C.1 C.2.1 d (k E p l e R s m args below meth c A cells slots Q C H locs ls hP hD hS hL)
theorem g_iand {x y : Int32} (d : decode M.2.1 pc = .ok (.iand, 1))  (k : G M h X Post (pc + 1) L (.int (x &&& y) :: S) σ) : G M h X Post pc L (.int y :: .int x :: S) σ := by
  intro E p l e R s m args below meth c A cells slots Q C H locs ls hP hD hS hL
  exact lv_iand C.1 C.2.1 d (k E p l e R s m args below meth c A cells slots Q C H locs ls hP hD hS hL)
theorem g_ior {x y : Int32} (d : decode M.2.1 pc = .ok (.ior, 1))  (k : G M h X Post (pc + 1) L (.int (x ||| y) :: S) σ) : G M h X Post pc L (.int y :: .int x :: S) σ := by
  intro E p l e R s m args below meth c A cells slots Q C H locs ls hP hD hS hL
  exact lv_ior C.1 C.2.1 d (k E p l e R s m args below meth c A cells slots Q C H locs ls hP hD hS hL)
theorem g_ixor {x y : Int32} (d : decode M.2.1 pc = .ok (.ixor, 1))  (k : G M h X Post (pc + 1) L (.int (x ^^^ y) :: S) σ) : G M h X Post pc L (.int y :: .int x :: S) σ := by
  intro E p l e R s m args below meth c A cells slots Q C H locs ls hP hD hS hL
  exact lv_ixor C.1 C.2.1 d (k E p l e R s m args below meth c A cells slots Q C H locs ls hP hD hS hL)
theorem g_ishl {x y : Int32} (d : decode M.2.1 pc = .ok (.ishl, 1))  (k : G M h X Post (pc + 1) L (.int (x <<< (y &&& 31)) :: S) σ) : G M h X Post pc L (.int y :: .int x :: S) σ := by
  intro E p l e R s m args below meth c A cells slots Q C H locs ls hP hD hS hL
  exact lv_ishl C.1 C.2.1 d (k E p l e R s m args below meth c A cells slots Q C H locs ls hP hD hS hL)
theorem g_ishr {x y : Int32} (d : decode M.2.1 pc = .ok (.ishr, 1))  (k : G M h X Post (pc + 1) L (.int (x >>> (y &&& 31)) :: S) σ) : G M h X Post pc L (.int y :: .int x :: S) σ := by
  intro E p l e R s m args below meth c A cells slots Q C H locs ls hP hD hS hL
  exact lv_ishr C.1 C.2.1 d (k E p l e R s m args below meth c A cells slots Q C H locs ls hP hD hS hL)
theorem g_iushr {x y v : Int32} (d : decode M.2.1 pc = .ok (.iushr, 1)) (hv : (x.toUInt32 >>> (y.toUInt32 &&& Int32.toUInt32 31)).toInt32 = v) (k : G M h X Post (pc + 1) L (.int v :: S) σ) : G M h X Post pc L (.int y :: .int x :: S) σ := by
  intro E p l e R s m args below meth c A cells slots Q C H locs ls hP hD hS hL
  exact lv_iushr C.1 C.2.1 d hv (k E p l e R s m args below meth c A cells slots Q C H locs ls hP hD hS hL)
theorem g_idiv {x y : Int32} (d : decode M.2.1 pc = .ok (.idiv, 1)) (hy : ¬ y = 0) (k : G M h X Post (pc + 1) L (.int (x / y) :: S) σ) : G M h X Post pc L (.int y :: .int x :: S) σ := by
  intro E p l e R s m args below meth c A cells slots Q C H locs ls hP hD hS hL
  exact lv_idiv C.1 C.2.1 d hy (k E p l e R s m args below meth c A cells slots Q C H locs ls hP hD hS hL)
theorem g_irem {x y : Int32} (d : decode M.2.1 pc = .ok (.irem, 1)) (hy : ¬ y = 0) (k : G M h X Post (pc + 1) L (.int (x - x / y * y) :: S) σ) : G M h X Post pc L (.int y :: .int x :: S) σ := by
  intro E p l e R s m args below meth c A cells slots Q C H locs ls hP hD hS hL
  exact lv_irem C.1 C.2.1 d hy (k E p l e R s m args below meth c A cells slots Q C H locs ls hP hD hS hL)
theorem g_ineg {x : Int32} (d : decode M.2.1 pc = .ok (.ineg, 1))  (k : G M h X Post (pc + 1) L (.int (-x) :: S) σ) : G M h X Post pc L (.int x :: S) σ := by
  intro E p l e R s m args below meth c A cells slots Q C H locs ls hP hD hS hL
  exact lv_ineg C.1 C.2.1 d (k E p l e R s m args below meth c A cells slots Q C H locs ls hP hD hS hL)
theorem g_lmul {x y : Int64} (d : decode M.2.1 pc = .ok (.lmul, 1))  (k : G M h X Post (pc + 1) L (.long (x * y) :: S) σ) : G M h X Post pc L (.long y :: .long x :: S) σ := by
  intro E p l e R s m args below meth c A cells slots Q C H locs ls hP hD hS hL
  exact lv_lmul C.1 C.2.1 d (k E p l e R s m args below meth c A cells slots Q C H locs ls hP hD hS hL)
theorem g_land {x y : Int64} (d : decode M.2.1 pc = .ok (.land, 1))  (k : G M h X Post (pc + 1) L (.long (x &&& y) :: S) σ) : G M h X Post pc L (.long y :: .long x :: S) σ := by
  intro E p l e R s m args below meth c A cells slots Q C H locs ls hP hD hS hL
  exact lv_land C.1 C.2.1 d (k E p l e R s m args below meth c A cells slots Q C H locs ls hP hD hS hL)
theorem g_ldiv {x y : Int64} (d : decode M.2.1 pc = .ok (.ldiv, 1)) (hy : ¬ y = 0) (k : G M h X Post (pc + 1) L (.long (x / y) :: S) σ) : G M h X Post pc L (.long y :: .long x :: S) σ := by
  intro E p l e R s m args below meth c A cells slots Q C H locs ls hP hD hS hL
  exact lv_ldiv C.1 C.2.1 d hy (k E p l e R s m args below meth c A cells slots Q C H locs ls hP hD hS hL)
theorem g_lrem {x y : Int64} (d : decode M.2.1 pc = .ok (.lrem, 1)) (hy : ¬ y = 0) (k : G M h X Post (pc + 1) L (.long (x - x / y * y) :: S) σ) : G M h X Post pc L (.long y :: .long x :: S) σ := by
  intro E p l e R s m args below meth c A cells slots Q C H locs ls hP hD hS hL
  exact lv_lrem C.1 C.2.1 d hy (k E p l e R s m args below meth c A cells slots Q C H locs ls hP hD hS hL)
theorem g_lshl {x : Int64} {y : Int32} (d : decode M.2.1 pc = .ok (.lshl, 1))  (k : G M h X Post (pc + 1) L (.long (x <<< (y.toInt64 &&& 63)) :: S) σ) : G M h X Post pc L (.int y :: .long x :: S) σ := by
  intro E p l e R s m args below meth c A cells slots Q C H locs ls hP hD hS hL
  exact lv_lshl C.1 C.2.1 d rfl (k E p l e R s m args below meth c A cells slots Q C H locs ls hP hD hS hL)
theorem g_lshr {x : Int64} {y : Int32} (d : decode M.2.1 pc = .ok (.lshr, 1))  (k : G M h X Post (pc + 1) L (.long (x >>> (y.toInt64 &&& 63)) :: S) σ) : G M h X Post pc L (.int y :: .long x :: S) σ := by
  intro E p l e R s m args below meth c A cells slots Q C H locs ls hP hD hS hL
  exact lv_lshr C.1 C.2.1 d rfl (k E p l e R s m args below meth c A cells slots Q C H locs ls hP hD hS hL)
theorem g_i2l {x : Int32} (d : decode M.2.1 pc = .ok (.i2l, 1))  (k : G M h X Post (pc + 1) L (.long x.toInt64 :: S) σ) : G M h X Post pc L (.int x :: S) σ := by
  intro E p l e R s m args below meth c A cells slots Q C H locs ls hP hD hS hL
  exact lv_i2l C.1 C.2.1 d rfl (k E p l e R s m args below meth c A cells slots Q C H locs ls hP hD hS hL)
theorem g_dup {v : Value} (d : decode M.2.1 pc = .ok (.dup, 1)) (hv : v.category = 1) (k : G M h X Post (pc + 1) L (v :: v :: S) σ) : G M h X Post pc L (v :: S) σ := by
  intro E p l e R s m args below meth c A cells slots Q C H locs ls hP hD hS hL
  exact lv_dup C.1 C.2.1 d (by rw [r_v_cat]; exact hv) (k E p l e R s m args below meth c A cells slots Q C H locs ls hP hD hS hL)
theorem g_dup2 {v w : Value} (d : decode M.2.1 pc = .ok (.dup2, 1)) (hv : v.category = 1) (hw : w.category = 1) (k : G M h X Post (pc + 1) L (v :: w :: v :: w :: S) σ) : G M h X Post pc L (v :: w :: S) σ := by
  intro E p l e R s m args below meth c A cells slots Q C H locs ls hP hD hS hL
  exact lv_dup2_11 C.1 C.2.1 d (by rw [r_v_cat]; exact hv) (by rw [r_v_cat]; exact hw) (k E p l e R s m args below meth c A cells slots Q C H locs ls hP hD hS hL)
theorem g_pop {v : Value} (d : decode M.2.1 pc = .ok (.pop, 1)) (hv : v.category = 1) (k : G M h X Post (pc + 1) L S σ) : G M h X Post pc L (v :: S) σ := by
  intro E p l e R s m args below meth c A cells slots Q C H locs ls hP hD hS hL
  exact lv_pop C.1 C.2.1 d (by rw [r_v_cat]; exact hv) (k E p l e R s m args below meth c A cells slots Q C H locs ls hP hD hS hL)
theorem g_ifeq {x : Int32} {off : Int} {tgt : Nat} (d : decode M.2.1 pc = .ok (.ifCond .eq off, 3)) (ht : (pc : Int) + off = (tgt : Int)) (kt : x = 0 → G M h X Post tgt L S σ) (kf : ¬ x = 0 → G M h X Post (pc + 3) L S σ) : G M h X Post pc L (.int x :: S) σ := by
  intro E p l e R s m args below meth c A cells slots Q C H locs ls hP hD hS hL
  exact lv_if_eq C.1 C.2.1 d ht (fun q => kt q E p l e R s m args below meth c A cells slots Q C H locs ls hP hD hS hL) (fun q => kf q E p l e R s m args below meth c A cells slots Q C H locs ls hP hD hS hL)
theorem g_ifne {x : Int32} {off : Int} {tgt : Nat} (d : decode M.2.1 pc = .ok (.ifCond .ne off, 3)) (ht : (pc : Int) + off = (tgt : Int)) (kt : ¬ x = 0 → G M h X Post tgt L S σ) (kf : x = 0 → G M h X Post (pc + 3) L S σ) : G M h X Post pc L (.int x :: S) σ := by
  intro E p l e R s m args below meth c A cells slots Q C H locs ls hP hD hS hL
  exact lv_if_ne C.1 C.2.1 d ht (fun q => kt q E p l e R s m args below meth c A cells slots Q C H locs ls hP hD hS hL) (fun q => kf q E p l e R s m args below meth c A cells slots Q C H locs ls hP hD hS hL)
theorem g_iflt {x : Int32} {off : Int} {tgt : Nat} (d : decode M.2.1 pc = .ok (.ifCond .lt off, 3)) (ht : (pc : Int) + off = (tgt : Int)) (kt : x < 0 → G M h X Post tgt L S σ) (kf : ¬ x < 0 → G M h X Post (pc + 3) L S σ) : G M h X Post pc L (.int x :: S) σ := by
  intro E p l e R s m args below meth c A cells slots Q C H locs ls hP hD hS hL
  exact lv_if_lt C.1 C.2.1 d ht (fun q => kt q E p l e R s m args below meth c A cells slots Q C H locs ls hP hD hS hL) (fun q => kf q E p l e R s m args below meth c A cells slots Q C H locs ls hP hD hS hL)
theorem g_ifge {x : Int32} {off : Int} {tgt : Nat} (d : decode M.2.1 pc = .ok (.ifCond .ge off, 3)) (ht : (pc : Int) + off = (tgt : Int)) (kt : 0 ≤ x → G M h X Post tgt L S σ) (kf : ¬ 0 ≤ x → G M h X Post (pc + 3) L S σ) : G M h X Post pc L (.int x :: S) σ := by
  intro E p l e R s m args below meth c A cells slots Q C H locs ls hP hD hS hL
  exact lv_if_ge C.1 C.2.1 d ht (fun q => kt q E p l e R s m args below meth c A cells slots Q C H locs ls hP hD hS hL) (fun q => kf q E p l e R s m args below meth c A cells slots Q C H locs ls hP hD hS hL)
theorem g_ifgt {x : Int32} {off : Int} {tgt : Nat} (d : decode M.2.1 pc = .ok (.ifCond .gt off, 3)) (ht : (pc : Int) + off = (tgt : Int)) (kt : 0 < x → G M h X Post tgt L S σ) (kf : ¬ 0 < x → G M h X Post (pc + 3) L S σ) : G M h X Post pc L (.int x :: S) σ := by
  intro E p l e R s m args below meth c A cells slots Q C H locs ls hP hD hS hL
  exact lv_if_gt C.1 C.2.1 d ht (fun q => kt q E p l e R s m args below meth c A cells slots Q C H locs ls hP hD hS hL) (fun q => kf q E p l e R s m args below meth c A cells slots Q C H locs ls hP hD hS hL)
theorem g_ifle {x : Int32} {off : Int} {tgt : Nat} (d : decode M.2.1 pc = .ok (.ifCond .le off, 3)) (ht : (pc : Int) + off = (tgt : Int)) (kt : x ≤ 0 → G M h X Post tgt L S σ) (kf : ¬ x ≤ 0 → G M h X Post (pc + 3) L S σ) : G M h X Post pc L (.int x :: S) σ := by
  intro E p l e R s m args below meth c A cells slots Q C H locs ls hP hD hS hL
  exact lv_if_le C.1 C.2.1 d ht (fun q => kt q E p l e R s m args below meth c A cells slots Q C H locs ls hP hD hS hL) (fun q => kf q E p l e R s m args below meth c A cells slots Q C H locs ls hP hD hS hL)
theorem g_iceq {x y : Int32} {off : Int} {tgt : Nat} (d : decode M.2.1 pc = .ok (.if_icmp .eq off, 3)) (ht : (pc : Int) + off = (tgt : Int)) (kt : x = y → G M h X Post tgt L S σ) (kf : ¬ x = y → G M h X Post (pc + 3) L S σ) : G M h X Post pc L (.int y :: .int x :: S) σ := by
  intro E p l e R s m args below meth c A cells slots Q C H locs ls hP hD hS hL
  exact lv_icmp_eq C.1 C.2.1 d ht (fun q => kt q E p l e R s m args below meth c A cells slots Q C H locs ls hP hD hS hL) (fun q => kf q E p l e R s m args below meth c A cells slots Q C H locs ls hP hD hS hL)
theorem g_icne {x y : Int32} {off : Int} {tgt : Nat} (d : decode M.2.1 pc = .ok (.if_icmp .ne off, 3)) (ht : (pc : Int) + off = (tgt : Int)) (kt : ¬ x = y → G M h X Post tgt L S σ) (kf : x = y → G M h X Post (pc + 3) L S σ) : G M h X Post pc L (.int y :: .int x :: S) σ := by
  intro E p l e R s m args below meth c A cells slots Q C H locs ls hP hD hS hL
  exact lv_icmp_ne C.1 C.2.1 d ht (fun q => kt q E p l e R s m args below meth c A cells slots Q C H locs ls hP hD hS hL) (fun q => kf q E p l e R s m args below meth c A cells slots Q C H locs ls hP hD hS hL)
theorem g_iclt {x y : Int32} {off : Int} {tgt : Nat} (d : decode M.2.1 pc = .ok (.if_icmp .lt off, 3)) (ht : (pc : Int) + off = (tgt : Int)) (kt : x < y → G M h X Post tgt L S σ) (kf : ¬ x < y → G M h X Post (pc + 3) L S σ) : G M h X Post pc L (.int y :: .int x :: S) σ := by
  intro E p l e R s m args below meth c A cells slots Q C H locs ls hP hD hS hL
  exact lv_icmp_lt C.1 C.2.1 d ht (fun q => kt q E p l e R s m args below meth c A cells slots Q C H locs ls hP hD hS hL) (fun q => kf q E p l e R s m args below meth c A cells slots Q C H locs ls hP hD hS hL)
theorem g_icge {x y : Int32} {off : Int} {tgt : Nat} (d : decode M.2.1 pc = .ok (.if_icmp .ge off, 3)) (ht : (pc : Int) + off = (tgt : Int)) (kt : y ≤ x → G M h X Post tgt L S σ) (kf : ¬ y ≤ x → G M h X Post (pc + 3) L S σ) : G M h X Post pc L (.int y :: .int x :: S) σ := by
  intro E p l e R s m args below meth c A cells slots Q C H locs ls hP hD hS hL
  exact lv_icmp_ge C.1 C.2.1 d ht (fun q => kt q E p l e R s m args below meth c A cells slots Q C H locs ls hP hD hS hL) (fun q => kf q E p l e R s m args below meth c A cells slots Q C H locs ls hP hD hS hL)
theorem g_icgt {x y : Int32} {off : Int} {tgt : Nat} (d : decode M.2.1 pc = .ok (.if_icmp .gt off, 3)) (ht : (pc : Int) + off = (tgt : Int)) (kt : y < x → G M h X Post tgt L S σ) (kf : ¬ y < x → G M h X Post (pc + 3) L S σ) : G M h X Post pc L (.int y :: .int x :: S) σ := by
  intro E p l e R s m args below meth c A cells slots Q C H locs ls hP hD hS hL
  exact lv_icmp_gt C.1 C.2.1 d ht (fun q => kt q E p l e R s m args below meth c A cells slots Q C H locs ls hP hD hS hL) (fun q => kf q E p l e R s m args below meth c A cells slots Q C H locs ls hP hD hS hL)
theorem g_icle {x y : Int32} {off : Int} {tgt : Nat} (d : decode M.2.1 pc = .ok (.if_icmp .le off, 3)) (ht : (pc : Int) + off = (tgt : Int)) (kt : x ≤ y → G M h X Post tgt L S σ) (kf : ¬ x ≤ y → G M h X Post (pc + 3) L S σ) : G M h X Post pc L (.int y :: .int x :: S) σ := by
  intro E p l e R s m args below meth c A cells slots Q C H locs ls hP hD hS hL
  exact lv_icmp_le C.1 C.2.1 d ht (fun q => kt q E p l e R s m args below meth c A cells slots Q C H locs ls hP hD hS hL) (fun q => kf q E p l e R s m args below meth c A cells slots Q C H locs ls hP hD hS hL)
theorem g_goto {off : Int} {tgt : Nat} (d : decode M.2.1 pc = .ok (.goto off, 3)) (ht : (pc : Int) + off = (tgt : Int)) (k : G M h X Post tgt L S σ) : G M h X Post pc L S σ := by
  intro E p l e R s m args below meth c A cells slots Q C H locs ls hP hD hS hL
  exact lv_goto C.1 C.2.1 d ht (k E p l e R s m args below meth c A cells slots Q C H locs ls hP hD hS hL)
theorem g_tabIn {dflt lo hi : Int} {offs : Array Int} {len : Nat} {x : Int32} {off : Int} {tgt : Nat} (d : decode M.2.1 pc = .ok (.tableswitch dflt lo hi offs, len)) (h1 : ¬ x.toInt < lo) (h2 : ¬ hi < x.toInt) (ho : offs[(x.toInt - lo).toNat]? = some off) (ht : (pc : Int) + off = (tgt : Int)) (k : G M h X Post tgt L S σ) : G M h X Post pc L (.int x :: S) σ := by
  intro E p l e R s m args below meth c A cells slots Q C H locs ls hP hD hS hL
  exact lv_tableIn C.1 C.2.1 d h1 h2 ho ht (k E p l e R s m args below meth c A cells slots Q C H locs ls hP hD hS hL)
theorem g_tabOut {dflt lo hi : Int} {offs : Array Int} {len : Nat} {x : Int32} {tgt : Nat} (d : decode M.2.1 pc = .ok (.tableswitch dflt lo hi offs, len)) (h1 : x.toInt < lo ∨ hi < x.toInt) (ht : (pc : Int) + dflt = (tgt : Int)) (k : G M h X Post tgt L S σ) : G M h X Post pc L (.int x :: S) σ := by
  intro E p l e R s m args below meth c A cells slots Q C H locs ls hP hD hS hL
  exact lv_tableOut C.1 C.2.1 d h1 ht (k E p l e R s m args below meth c A cells slots Q C H locs ls hP hD hS hL)
theorem g_iret {v : Int32} (d : decode M.2.1 pc = .ok (.ireturn, 1)) (hr : M.2.2.2 = some .int) (k : Post (some (.int v)) σ) : G M h X Post pc L [.int v] σ := by
  intro E p l e R s m args below meth c A cells slots Q C H locs ls hP hD hS hL
  exact C.2.2.2.2.2.2.2.2.2.2.2.2 pc _ (some (.int v)) σ _ H locs ls d rfl (by rw [hr]; exact ⟨rfl, Or.inl rfl⟩) k hP hD hS
theorem g_zret {v : Int32} (d : decode M.2.1 pc = .ok (.ireturn, 1)) (hr : M.2.2.2 = some .boolean) (hz : v = 0 ∨ v = 1) (k : Post (some (.int v)) σ) : G M h X Post pc L [.int v] σ := by
  intro E p l e R s m args below meth c A cells slots Q C H locs ls hP hD hS hL
  exact C.2.2.2.2.2.2.2.2.2.2.2.2 pc _ (some (.int v)) σ _ H locs ls d rfl (by rw [hr]; refine ⟨?_, Or.inr rfl⟩; rcases hz with rfl | rfl <;> rfl) k hP hD hS
theorem g_lret {v : Int64} (d : decode M.2.1 pc = .ok (.lreturn, 1)) (hr : M.2.2.2 = some .long) (k : Post (some (.long v)) σ) : G M h X Post pc L [.long v] σ := by
  intro E p l e R s m args below meth c A cells slots Q C H locs ls hP hD hS hL
  exact C.2.2.2.2.2.2.2.2.2.2.2.2 pc _ (some (.long v)) σ _ H locs ls d rfl (by rw [hr]; exact rfl) k hP hD hS
theorem g_aret {v : Nat} (d : decode M.2.1 pc = .ok (.areturn, 1)) {cn : String} (hr : M.2.2.2 = some (.object cn)) (k : Post (some (.ref v)) σ) : G M h X Post pc L [.ref v] σ := by
  intro E p l e R s m args below meth c A cells slots Q C H locs ls hP hD hS hL
  exact C.2.2.2.2.2.2.2.2.2.2.2.2 pc _ (some (.ref v)) σ _ H locs ls d rfl (by rw [hr]; exact ⟨_, rfl⟩) k hP hD hS
theorem g_ret (d : decode M.2.1 pc = .ok (.return_, 1)) (hr : M.2.2.2 = none) (k : Post none σ) : G M h X Post pc L [] σ := by
  intro E p l e R s m args below meth c A cells slots Q C H locs ls hP hD hS hL
  exact C.2.2.2.2.2.2.2.2.2.2.2.2 pc _ none σ _ H locs ls d trivial (by rw [hr]; exact trivial) k hP hD hS
-- fields and arrays
def r_Fl (own : String) (idx ci k : Nat) : Prop := ∃ (C : String) (T : u_T) (N : Nat), vwCl[ci]? = some (C, T, N) ∧ (∀ w ∈ u_ws C T N, w ∈ r_tbl) ∧ k < N ∧ Cond.fieldLink own idx C (T k).2.1 (T k).2.2.1 ∈ r_tbl ∧ (T k).1 = C
def r_Fp (own : String) (idx ci k : Nat) (ty : FieldType) : Prop := ∃ (C : String) (T : u_T) (N : Nat), vwCl[ci]? = some (C, T, N) ∧ (∀ w ∈ u_ws C T N, w ∈ r_tbl) ∧ k < N ∧ Cond.fieldLink own idx C (T k).2.1 (T k).2.2.1 ∈ r_tbl ∧ (T k).1 = C ∧
  ∃ (ty0 : Nat → FieldType), (∀ k, k < N → parseFieldDescriptor (T k).2.2.1 = some (ty0 k)) ∧ (∀ a, a < N → ∀ b, b < N → a ≠ b → (T a).2.1 ≠ (T b).2.1) ∧ (T k).2.2.2 = false ∧ parseFieldDescriptor (T k).2.2.1 = some ty
theorem r_fs_at {ad : Nat → Nat} {k i j : Nat} {fl : List (Option Nat)} (h : fl[i]? = some (some j)) : (r_fs ad σ k fl)[i]? = some (.ref (ad j)) := by simp [r_fs, List.getElem?_mapIdx, h]
theorem r_fs_at0 {ad : Nat → Nat} {k i : Nat} {fl : List (Option Nat)} (h : fl[i]? = some none) : (r_fs ad σ k fl)[i]? = some (.int (σ k i)) := by simp [r_fs, List.getElem?_mapIdx, h]
theorem g_getI {idx ci f q : Nat} {fl : List (Option Nat)} (d : decode M.2.1 pc = .ok (.getfield idx, 3)) (hf : r_Fl M.1.cls idx ci f) (hs : r_SH[q]? = some (.inr (ci, fl))) (hk : fl[f]? = some none) (k : G M h X Post (pc + 3) L (.int (σ q f) :: S) σ) : G M h X Post pc L (.ref q :: S) σ := by
  intro E p l e R s m args below meth c A cells slots Q C H locs ls hP hD hS hL
  obtain ⟨Cn, T, N, h1, h2, h3, h4, h5⟩ := hf
  exact va_get C.1 C.2.1 C.2.2.2.2.1 h2 C.2.2.2.1 C.2.2.2.2.2.1 hP q (r_at E σ hs) h1 f h3 (C.2.2.2.2.1 _ h4) (fun _ h9 => by rw [h5] at h9; exact h9) (r_fs_at0 hk) d (k E p l e R s m args below meth c A cells slots Q C H locs ls hP hD hS hL)
theorem g_getR {idx ci f q j : Nat} {fl : List (Option Nat)} (d : decode M.2.1 pc = .ok (.getfield idx, 3)) (hf : r_Fl M.1.cls idx ci f) (hs : r_SH[q]? = some (.inr (ci, fl))) (hk : fl[f]? = some (some j)) (k : G M h X Post (pc + 3) L (.ref j :: S) σ) : G M h X Post pc L (.ref q :: S) σ := by
  intro E p l e R s m args below meth c A cells slots Q C H locs ls hP hD hS hL
  obtain ⟨Cn, T, N, h1, h2, h3, h4, h5⟩ := hf
  exact va_get C.1 C.2.1 C.2.2.2.2.1 h2 C.2.2.2.1 C.2.2.2.2.2.1 hP q (r_at E σ hs) h1 f h3 (C.2.2.2.2.1 _ h4) (fun _ h9 => by rw [h5] at h9; exact h9) (r_fs_at hk) d (k E p l e R s m args below meth c A cells slots Q C H locs ls hP hD hS hL)
theorem g_put0 {idx ci f q : Nat} {fl : List (Option Nat)} {ty : FieldType} {v : Int32} (d : decode M.2.1 pc = .ok (.putfield idx, 3)) (hf : r_Fp M.1.cls idx ci f ty) (hs : r_SH[q]? = some (.inr (ci, fl))) (hk : fl[f]? = some none) (hn : narrow ty (.int v) = .int v) (hfit : fits ty (.int v) = true) (k : G M h X Post (pc + 3) L S (r_up σ q f v)) : G M h X Post pc L (.int v :: .ref q :: S) σ := by
  intro E p l e R s m args below meth c A cells slots Q C H locs ls hP hD hS hL
  obtain ⟨Cn, T, N, h1, h2, h3, h4, h5, ty0, h6, h7, h8, h9⟩ := hf
  refine va_put C.1 C.2.1 C.2.2.2.2.1 h2 ty0 h6 h7 C.2.2.2.1 C.2.2.2.2.2.1 hP hD hS q (r_at E σ hs) h1 f h3 (C.2.2.2.2.1 _ h4) (fun _ h9 => by rw [h5] at h9; exact h9) h8 h9 hn hfit (by simpa [r_fs] using (List.getElem?_eq_some_iff.mp hk).1) d (fun H1 locs1 hP1 hD1 hS1 => ?_)
  have e1 := r_setF E σ hs hk v
  exact k E p l e R s m args below meth c A cells slots Q C H1 locs1 ls (by rw [← e1]; exact hP1) (by rw [← e1]; exact hD1) hS1 hL
theorem g_putI {idx ci f q : Nat} {fl : List (Option Nat)} {v : Int32} (d : decode M.2.1 pc = .ok (.putfield idx, 3)) (hf : r_Fp M.1.cls idx ci f .int) (hs : r_SH[q]? = some (.inr (ci, fl))) (hk : fl[f]? = some none) (k : G M h X Post (pc + 3) L S (r_up σ q f v)) : G M h X Post pc L (.int v :: .ref q :: S) σ := g_put0 d hf hs hk rfl rfl k
theorem g_putZ {idx ci f q : Nat} {fl : List (Option Nat)} {v : Int32} (d : decode M.2.1 pc = .ok (.putfield idx, 3)) (hf : r_Fp M.1.cls idx ci f .boolean) (hs : r_SH[q]? = some (.inr (ci, fl))) (hk : fl[f]? = some none) (hv : v = 0 ∨ v = 1) (k : G M h X Post (pc + 3) L S (r_up σ q f v)) : G M h X Post pc L (.int v :: .ref q :: S) σ := g_put0 d hf hs hk (by rcases hv with rfl | rfl <;> rfl) (by rcases hv with rfl | rfl <;> rfl) k
theorem g_iald {q n : Nat} {i : Int32} (d : decode M.2.1 pc = .ok (.iaload, 1)) (hs : r_SH[q]? = some (.inl (n, false))) (hi : vp_in i n) (k : G M h X Post (pc + 1) L (.int (σ q i.toNatClampNeg) :: S) σ) : G M h X Post pc L (.int i :: .ref q :: S) σ := by
  intro E p l e R s m args below meth c A cells slots Q C H locs ls hP hD hS hL
  exact va_iald C.1 C.2.1 C.2.2.2.2.2.1 hP q 0 (r_at E σ hs) rfl hi d (k E p l e R s m args below meth c A cells slots Q C H locs ls hP hD hS hL)
theorem g_zald {q n : Nat} {i : Int32} (d : decode M.2.1 pc = .ok (.baload, 1)) (hs : r_SH[q]? = some (.inl (n, true))) (hi : vp_in i n) (k : G M h X Post (pc + 1) L (.int (σ q i.toNatClampNeg) :: S) σ) : G M h X Post pc L (.int i :: .ref q :: S) σ := by
  intro E p l e R s m args below meth c A cells slots Q C H locs ls hP hD hS hL
  exact va_zald C.1 C.2.1 C.2.2.2.2.2.1 hP q 1 (r_at E σ hs) rfl hi d (k E p l e R s m args below meth c A cells slots Q C H locs ls hP hD hS hL)
theorem g_iast {q n : Nat} {i v : Int32} (d : decode M.2.1 pc = .ok (.iastore, 1)) (hs : r_SH[q]? = some (.inl (n, false))) (hi : vp_in i n) (k : G M h X Post (pc + 1) L S (r_up σ q i.toNatClampNeg v)) : G M h X Post pc L (.int v :: .int i :: .ref q :: S) σ := by
  intro E p l e R s m args below meth c A cells slots Q C H locs ls hP hD hS hL
  refine va_iast C.1 C.2.1 C.2.2.2.2.2.1 hP hD hS q 0 (r_at E σ hs) rfl hi d (fun H1 locs1 hP1 hD1 hS1 => ?_)
  have e1 := r_setA E σ hs i.toNatClampNeg v
  exact k E p l e R s m args below meth c A cells slots Q C H1 locs1 ls (by rw [← e1]; exact hP1) (by rw [← e1]; exact hD1) hS1 hL
theorem g_zast {q n : Nat} {i v : Int32} (d : decode M.2.1 pc = .ok (.bastore, 1)) (hs : r_SH[q]? = some (.inl (n, true))) (hi : vp_in i n) (hv : v = 0 ∨ v = 1) (k : G M h X Post (pc + 1) L S (r_up σ q i.toNatClampNeg v)) : G M h X Post pc L (.int v :: .int i :: .ref q :: S) σ := by
  intro E p l e R s m args below meth c A cells slots Q C H locs ls hP hD hS hL
  refine va_zast C.1 C.2.1 C.2.2.2.2.2.1 hP hD hS q 1 (r_at E σ hs) rfl hi d (fun H1 locs1 hP1 hD1 hS1 => ?_)
  have e0 : vp_nar .boolean v = v := by rcases hv with rfl | rfl <;> rfl
  rw [e0] at hP1 hD1
  have e1 := r_setA E σ hs i.toNatClampNeg v
  exact k E p l e R s m args below meth c A cells slots Q C H1 locs1 ls (by rw [← e1]; exact hP1) (by rw [← e1]; exact hD1) hS1 hL
theorem g_alen {q n : Nat} {b : Bool} {v : Int32} (d : decode M.2.1 pc = .ok (.arraylength, 1)) (hs : r_SH[q]? = some (.inl (n, b))) (hv : Int32.ofNat n = v) (k : G M h X Post (pc + 1) L (.int v :: S) σ) : G M h X Post pc L (.ref q :: S) σ := by
  intro E p l e R s m args below meth c A cells slots Q C H locs ls hP hD hS hL
  cases b with
  | false => exact va_alen C.1 C.2.1 C.2.2.2.2.2.1 hP q 0 (r_at E σ hs) rfl hv d (k E p l e R s m args below meth c A cells slots Q C H locs ls hP hD hS hL)
  | true => exact va_alen C.1 C.2.1 C.2.2.2.2.2.1 hP q 1 (r_at E σ hs) rfl hv d (k E p l e R s m args below meth c A cells slots Q C H locs ls hP hD hS hL)
-- the static array, the script
theorem g_gets {idx : Nat} (d : decode M.2.1 pc = .ok (.getstatic idx, 3)) (hl : Cond.fieldLink M.1.cls idx "MendedBank$Code" "MOST_DATA" "[I" ∈ r_tbl) (k : G M h X Post (pc + 3) L (.ref 98 :: S) σ) : G M h X Post pc L S σ := by
  intro E p l e R s m args below meth c A cells slots Q C H locs ls hP hD hS hL
  exact va_gets C.1 C.2.1 C.2.2.2.2.2.2.2.2.1.1 hS C.2.2.2.1 (C.2.2.2.2.1 _ hl) (fun _ h9 => h9) d (k E p l e R s m args below meth c A cells slots Q C H locs ls hP hD hS hL)
theorem g_tld {i v : Int32} (d : decode M.2.1 pc = .ok (.iaload, 1)) (hi : vp_in i 3) (hv : r_md i.toNatClampNeg = .int v) (k : G M h X Post (pc + 1) L (.int v :: S) σ) : G M h X Post pc L (.int i :: .ref 98 :: S) σ := by
  intro E p l e R s m args below meth c A cells slots Q C H locs ls hP hD hS hL
  obtain ⟨cell, h1, h2, h3, h4, h5, h6, h7⟩ := C.2.2.2.2.2.2.2.2.1.2
  have hlt : i.toNatClampNeg < 3 := Nat.not_le.mp fun q => hi (Or.inr q)
  have hb : E.2.1 98 < s.heap.size := (Array.getElem?_eq_some_iff.mp h1).1
  exact W.iald (v := .int v) C.1 C.2.1 (by rw [hS.2.1 _ hb h7]; exact h1) h2 h3 (fun q => q.elim (fun z => hi (Or.inl z)) (fun z => by omega)) (by rw [h6 _ hlt, hv]) rfl rfl d (k E p l e R s m args below meth c A cells slots Q C H locs ls hP hD hS hL)
theorem g_sld {N : Nat} {xs : Nat → Int32} {i : Int32} (d : decode M.2.1 pc = .ok (.iaload, 1)) (hi : vp_in i N) (k : G M h (some (N, xs)) Post (pc + 1) L (.int (xs i.toNatClampNeg) :: S) σ) : G M h (some (N, xs)) Post pc L (.int i :: .ref 99 :: S) σ := by
  intro E p l e R s m args below meth c A cells slots Q C H locs ls hP hD hS hL
  obtain ⟨h1, h2, h3⟩ := C.2.2.2.2.2.2.2.2.2.1 _ rfl
  exact va_sld C.1 C.2.1 h1 h2 h3 hS hi d (k E p l e R s m args below meth c A cells slots Q C H locs ls hP hD hS hL)
theorem g_slen {N : Nat} {xs : Nat → Int32} (d : decode M.2.1 pc = .ok (.arraylength, 1)) (k : G M h (some (N, xs)) Post (pc + 1) L (.int (Int32.ofNat N) :: S) σ) : G M h (some (N, xs)) Post pc L (.ref 99 :: S) σ := by
  intro E p l e R s m args below meth c A cells slots Q C H locs ls hP hD hS hL
  obtain ⟨h1, h2, h3⟩ := C.2.2.2.2.2.2.2.2.2.1 _ rfl
  exact va_slen C.1 C.2.1 h1 h2 h3 hS d (k E p l e R s m args below meth c A cells slots Q C H locs ls hP hD hS hL)
end Rows
