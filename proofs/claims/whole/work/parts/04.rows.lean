section AMR
variable {V : am_V} {M : am_M} {d kc ks pc : Nat} {L : List (Option Value)} {st : List Value} {h : List va_E} {R : Option Value → List va_E → Prop}
theorem aw_iconst {n : Int} {v : Int32} (hd : decode M.2.1 pc = .ok (.iconst n, 1)) (hv : Int32.ofInt n = v) (k : AW V M d kc ks (pc + 1) L (.int v :: st) h R) : AW V M d kc ks pc L (st) h R := by
  intro p e s m args below meth c C H locs ls cells slots mc ms hc hs hS hF hL
  exact lv_iconst C.1 C.2.1 hd hv (k p e s m args below meth c C H locs ls cells slots mc ms hc hs hS hF hL)
theorem aw_bipush {n : Int} {v : Int32} (hd : decode M.2.1 pc = .ok (.bipush n, 2)) (hv : (Int8.ofInt n).toInt32 = v) (k : AW V M d kc ks (pc + 2) L (.int v :: st) h R) : AW V M d kc ks pc L (st) h R := by
  intro p e s m args below meth c C H locs ls cells slots mc ms hc hs hS hF hL
  exact lv_bipush C.1 C.2.1 hd hv (k p e s m args below meth c C H locs ls cells slots mc ms hc hs hS hF hL)
theorem aw_sipush {n : Int} {v : Int32} (hd : decode M.2.1 pc = .ok (.sipush n, 3)) (hv : (Int16.ofInt n).toInt32 = v) (k : AW V M d kc ks (pc + 3) L (.int v :: st) h R) : AW V M d kc ks pc L (st) h R := by
  intro p e s m args below meth c C H locs ls cells slots mc ms hc hs hS hF hL
  exact lv_sipush C.1 C.2.1 hd hv (k p e s m args below meth c C H locs ls cells slots mc ms hc hs hS hF hL)
theorem aw_lconst {n : Fin 2} {v : Int64} (hd : decode M.2.1 pc = .ok (.lconst n, 1)) (hv : Int64.ofNat (n : Nat) = v) (k : AW V M d kc ks (pc + 1) L (.long v :: st) h R) : AW V M d kc ks pc L (st) h R := by
  intro p e s m args below meth c C H locs ls cells slots mc ms hc hs hS hF hL
  exact lv_lconst C.1 C.2.1 hd hv (k p e s m args below meth c C H locs ls cells slots mc ms hc hs hS hF hL)
theorem aw_ldc {idx : Nat} {v : Int32} (hd : decode M.2.1 pc = .ok (.ldc idx, 2)) (hk : Cond.constant M.1.cls idx v ∈ am_T) (k : AW V M d kc ks (pc + 2) L (.int v :: st) h R) : AW V M d kc ks pc L st h R := by
  intro p e s m args below meth c C H locs ls cells slots mc ms hc hs hS hF hL
  exact lv_ldc C.1 C.2.1 C.2.2.2.2.1 (C.2.2.2.2.2.1 _ hk) hd (k p e s m args below meth c C H locs ls cells slots mc ms hc hs hS hF hL)
theorem aw_ldcw {idx : Nat} {v : Int32} (hd : decode M.2.1 pc = .ok (.ldc_w idx, 3)) (hk : Cond.constant M.1.cls idx v ∈ am_T) (k : AW V M d kc ks (pc + 3) L (.int v :: st) h R) : AW V M d kc ks pc L st h R := by
  intro p e s m args below meth c C H locs ls cells slots mc ms hc hs hS hF hL
  exact lv_ldcw C.1 C.2.1 C.2.2.2.2.1 (C.2.2.2.2.2.1 _ hk) hd (k p e s m args below meth c C H locs ls cells slots mc ms hc hs hS hF hL)
theorem aw_ldc2 {idx : Nat} {v : Int64} (hd : decode M.2.1 pc = .ok (.ldc2_w idx, 3)) (hk : Cond.constantLong M.1.cls idx v ∈ am_T) (k : AW V M d kc ks (pc + 3) L (.long v :: st) h R) : AW V M d kc ks pc L st h R := by
  intro p e s m args below meth c C H locs ls cells slots mc ms hc hs hS hF hL
  exact lv_ldc2 C.1 C.2.1 C.2.2.2.2.1 (C.2.2.2.2.2.1 _ hk) hd (k p e s m args below meth c C H locs ls cells slots mc ms hc hs hS hF hL)
theorem aw_iload_n {n : Fin 4} {i : Nat} {x : Int32} (hd : decode M.2.1 pc = .ok (.iload_n n, 1)) (hi : (n : Nat) = i) (hl : L[i]? = some (some (.int x))) (k : AW V M d kc ks (pc + 1) L (.int x :: st) h R) : AW V M d kc ks pc L st h R := by
  intro p e s m args below meth c C H locs ls cells slots mc ms hc hs hS hF hL
  exact lv_iload_n C.1 C.2.1 hd hi (hL.at hl) (k p e s m args below meth c C H locs ls cells slots mc ms hc hs hS hF hL)
theorem aw_iload {i : Nat} {x : Int32} (hd : decode M.2.1 pc = .ok (.iload i, 2)) (hl : L[i]? = some (some (.int x))) (k : AW V M d kc ks (pc + 2) L (.int x :: st) h R) : AW V M d kc ks pc L st h R := by
  intro p e s m args below meth c C H locs ls cells slots mc ms hc hs hS hF hL
  exact lv_iload C.1 C.2.1 hd (hL.at hl) (k p e s m args below meth c C H locs ls cells slots mc ms hc hs hS hF hL)
theorem aw_lload_n {n : Fin 4} {i : Nat} {x : Int64} (hd : decode M.2.1 pc = .ok (.lload_n n, 1)) (hi : (n : Nat) = i) (hl : L[i]? = some (some (.long x))) (k : AW V M d kc ks (pc + 1) L (.long x :: st) h R) : AW V M d kc ks pc L st h R := by
  intro p e s m args below meth c C H locs ls cells slots mc ms hc hs hS hF hL
  exact lv_lload_n C.1 C.2.1 hd hi (hL.at hl) (k p e s m args below meth c C H locs ls cells slots mc ms hc hs hS hF hL)
theorem aw_lload {i : Nat} {x : Int64} (hd : decode M.2.1 pc = .ok (.lload i, 2)) (hl : L[i]? = some (some (.long x))) (k : AW V M d kc ks (pc + 2) L (.long x :: st) h R) : AW V M d kc ks pc L st h R := by
  intro p e s m args below meth c C H locs ls cells slots mc ms hc hs hS hF hL
  exact lv_lload C.1 C.2.1 hd (hL.at hl) (k p e s m args below meth c C H locs ls cells slots mc ms hc hs hS hF hL)
theorem aw_aload_n {n : Fin 4} {i : Nat} {x : Nat} (hd : decode M.2.1 pc = .ok (.aload_n n, 1)) (hi : (n : Nat) = i) (hl : L[i]? = some (some (.ref x))) (k : AW V M d kc ks (pc + 1) L (.ref x :: st) h R) : AW V M d kc ks pc L st h R := by
  intro p e s m args below meth c C H locs ls cells slots mc ms hc hs hS hF hL
  exact lv_aload_n C.1 C.2.1 hd hi (hL.at hl) (k p e s m args below meth c C H locs ls cells slots mc ms hc hs hS hF hL)
theorem aw_aload {i : Nat} {x : Nat} (hd : decode M.2.1 pc = .ok (.aload i, 2)) (hl : L[i]? = some (some (.ref x))) (k : AW V M d kc ks (pc + 2) L (.ref x :: st) h R) : AW V M d kc ks pc L st h R := by
  intro p e s m args below meth c C H locs ls cells slots mc ms hc hs hS hF hL
  exact lv_aload C.1 C.2.1 hd (hL.at hl) (k p e s m args below meth c C H locs ls cells slots mc ms hc hs hS hF hL)
theorem aw_istore_n {n : Fin 4} {i : Nat} {x : Int32} {L' : List (Option Value)} (hd : decode M.2.1 pc = .ok (.istore_n n, 1)) (hi : (n : Nat) = i) (hn : i < M.2.2.1) (ho : am_ok1 L i = true) (hl : L.set i (some (.int x)) = L') (k : AW V M d kc ks (pc + 1) L' st h R) : AW V M d kc ks pc L (.int x :: st) h R := by
  subst hl
  intro p e s m args below meth c C H locs ls cells slots mc ms hc hs hS hF hL
  exact lv_istore_n C.1 C.2.1 hd hi hL.2 hn rfl (fun ls' h' => k p e s m args below meth c C H locs ls' cells slots mc ms hc hs hS hF (hL.st1 (v := .int x) hn rfl ho h'))
theorem aw_lstore_n {n : Fin 4} {i : Nat} {x : Int64} {L' : List (Option Value)} (hd : decode M.2.1 pc = .ok (.lstore_n n, 1)) (hi : (n : Nat) = i) (hn : i + 1 < M.2.2.1) (ho : am_ok1 L i = true) (hl : (L.set i (some (.long x))).set (i + 1) none = L') (k : AW V M d kc ks (pc + 1) L' st h R) : AW V M d kc ks pc L (.long x :: st) h R := by
  subst hl
  intro p e s m args below meth c C H locs ls cells slots mc ms hc hs hS hF hL
  exact lv_lstore_n C.1 C.2.1 hd hi hL.2 hn rfl (fun ls' h' => k p e s m args below meth c C H locs ls' cells slots mc ms hc hs hS hF (hL.st2 (v := .long x) hn rfl ho h'))
theorem aw_astore_n {n : Fin 4} {i : Nat} {x : Nat} {L' : List (Option Value)} (hd : decode M.2.1 pc = .ok (.astore_n n, 1)) (hi : (n : Nat) = i) (hn : i < M.2.2.1) (ho : am_ok1 L i = true) (hl : L.set i (some (.ref x)) = L') (k : AW V M d kc ks (pc + 1) L' st h R) : AW V M d kc ks pc L (.ref x :: st) h R := by
  subst hl
  intro p e s m args below meth c C H locs ls cells slots mc ms hc hs hS hF hL
  exact lv_astore_n C.1 C.2.1 hd hi hL.2 hn rfl (fun ls' h' => k p e s m args below meth c C H locs ls' cells slots mc ms hc hs hS hF (hL.st1 (v := .ref x) hn rfl ho h'))
theorem aw_istore {i : Nat} {x : Int32} {L' : List (Option Value)} (hd : decode M.2.1 pc = .ok (.istore i, 2)) (hn : i < M.2.2.1) (ho : am_ok1 L i = true) (hl : L.set i (some (.int x)) = L') (k : AW V M d kc ks (pc + 2) L' st h R) : AW V M d kc ks pc L (.int x :: st) h R := by
  subst hl
  intro p e s m args below meth c C H locs ls cells slots mc ms hc hs hS hF hL
  exact lv_istore C.1 C.2.1 hd hL.2 hn rfl (fun ls' h' => k p e s m args below meth c C H locs ls' cells slots mc ms hc hs hS hF (hL.st1 (v := .int x) hn rfl ho h'))
theorem aw_lstore {i : Nat} {x : Int64} {L' : List (Option Value)} (hd : decode M.2.1 pc = .ok (.lstore i, 2)) (hn : i + 1 < M.2.2.1) (ho : am_ok1 L i = true) (hl : (L.set i (some (.long x))).set (i + 1) none = L') (k : AW V M d kc ks (pc + 2) L' st h R) : AW V M d kc ks pc L (.long x :: st) h R := by
  subst hl
  intro p e s m args below meth c C H locs ls cells slots mc ms hc hs hS hF hL
  exact lv_lstore C.1 C.2.1 hd hL.2 hn rfl (fun ls' h' => k p e s m args below meth c C H locs ls' cells slots mc ms hc hs hS hF (hL.st2 (v := .long x) hn rfl ho h'))
theorem aw_astore {i : Nat} {x : Nat} {L' : List (Option Value)} (hd : decode M.2.1 pc = .ok (.astore i, 2)) (hn : i < M.2.2.1) (ho : am_ok1 L i = true) (hl : L.set i (some (.ref x)) = L') (k : AW V M d kc ks (pc + 2) L' st h R) : AW V M d kc ks pc L (.ref x :: st) h R := by
  subst hl
  intro p e s m args below meth c C H locs ls cells slots mc ms hc hs hS hF hL
  exact lv_astore C.1 C.2.1 hd hL.2 hn rfl (fun ls' h' => k p e s m args below meth c C H locs ls' cells slots mc ms hc hs hS hF (hL.st1 (v := .ref x) hn rfl ho h'))
theorem aw_iinc {i : Nat} {n : Int} {x v : Int32} {L' : List (Option Value)} (hd : decode M.2.1 pc = .ok (.iinc i n, 3)) (hx : L[i]? = some (some (.int x))) (hv : x + Int32.ofInt n = v) (hn : i < M.2.2.1) (ho : am_ok1 L i = true) (hl : L.set i (some (.int v)) = L') (k : AW V M d kc ks (pc + 3) L' st h R) : AW V M d kc ks pc L st h R := by
  subst hl
  intro p e s m args below meth c C H locs ls cells slots mc ms hc hs hS hF hL
  obtain ⟨q, hq⟩ := List.getElem?_of_mem ((am_al_mem (V := V) L 0 i _).mpr ⟨i, .int x, by omega, hx, rfl⟩)
  exact lv_iinc C.1 C.2.1 hd hL.2 hq hv hn rfl (fun ls' h' => k p e s m args below meth c C H locs ls' cells slots mc ms hc hs hS hF (hL.st1 (v := .int v) hn rfl ho h'))
theorem aw_iadd {x y : Int32} (hd : decode M.2.1 pc = .ok (.iadd, 1)) (k : AW V M d kc ks (pc + 1) L (.int (x + y) :: st) h R) : AW V M d kc ks pc L (.int y :: .int x :: st) h R := by
  intro p e s m args below meth c C H locs ls cells slots mc ms hc hs hS hF hL
  exact lv_iadd C.1 C.2.1 hd (k p e s m args below meth c C H locs ls cells slots mc ms hc hs hS hF hL)
theorem aw_isub {x y : Int32} (hd : decode M.2.1 pc = .ok (.isub, 1)) (k : AW V M d kc ks (pc + 1) L (.int (x - y) :: st) h R) : AW V M d kc ks pc L (.int y :: .int x :: st) h R := by
  intro p e s m args below meth c C H locs ls cells slots mc ms hc hs hS hF hL
  exact lv_isub C.1 C.2.1 hd (k p e s m args below meth c C H locs ls cells slots mc ms hc hs hS hF hL)
theorem aw_imul {x y : Int32} (hd : decode M.2.1 pc = .ok (.imul, 1)) (k : AW V M d kc ks (pc + 1) L (.int (x * y) :: st) h R) : AW V M d kc ks pc L (.int y :: .int x :: st) h R := by
  intro p e s m args below meth c C H locs ls cells slots mc ms hc hs hS hF hL
  exact lv_imul C.1 C.2.1 hd (k p e s m args below meth c C H locs ls cells slots mc ms hc hs hS hF hL)
theorem aw_iand {x y : Int32} (hd : decode M.2.1 pc = .ok (.iand, 1)) (k : AW V M d kc ks (pc + 1) L (.int (x &&& y) :: st) h R) : AW V M d kc ks pc L (.int y :: .int x :: st) h R := by
  intro p e s m args below meth c C H locs ls cells slots mc ms hc hs hS hF hL
  exact lv_iand C.1 C.2.1 hd (k p e s m args below meth c C H locs ls cells slots mc ms hc hs hS hF hL)
theorem aw_ior {x y : Int32} (hd : decode M.2.1 pc = .ok (.ior, 1)) (k : AW V M d kc ks (pc + 1) L (.int (x ||| y) :: st) h R) : AW V M d kc ks pc L (.int y :: .int x :: st) h R := by
  intro p e s m args below meth c C H locs ls cells slots mc ms hc hs hS hF hL
  exact lv_ior C.1 C.2.1 hd (k p e s m args below meth c C H locs ls cells slots mc ms hc hs hS hF hL)
theorem aw_ixor {x y : Int32} (hd : decode M.2.1 pc = .ok (.ixor, 1)) (k : AW V M d kc ks (pc + 1) L (.int (x ^^^ y) :: st) h R) : AW V M d kc ks pc L (.int y :: .int x :: st) h R := by
  intro p e s m args below meth c C H locs ls cells slots mc ms hc hs hS hF hL
  exact lv_ixor C.1 C.2.1 hd (k p e s m args below meth c C H locs ls cells slots mc ms hc hs hS hF hL)
theorem aw_irem {x y : Int32} (hd : decode M.2.1 pc = .ok (.irem, 1)) (hne : ¬ y = 0) (k : AW V M d kc ks (pc + 1) L (.int (x - x / y * y) :: st) h R) : AW V M d kc ks pc L (.int y :: .int x :: st) h R := by
  intro p e s m args below meth c C H locs ls cells slots mc ms hc hs hS hF hL
  exact lv_irem C.1 C.2.1 hd hne (k p e s m args below meth c C H locs ls cells slots mc ms hc hs hS hF hL)
theorem aw_ineg {x : Int32} (hd : decode M.2.1 pc = .ok (.ineg, 1)) (k : AW V M d kc ks (pc + 1) L (.int (-x) :: st) h R) : AW V M d kc ks pc L (.int x :: st) h R := by
  intro p e s m args below meth c C H locs ls cells slots mc ms hc hs hS hF hL
  exact lv_ineg C.1 C.2.1 hd (k p e s m args below meth c C H locs ls cells slots mc ms hc hs hS hF hL)
theorem aw_ishl {x y : Int32} (hd : decode M.2.1 pc = .ok (.ishl, 1)) (k : AW V M d kc ks (pc + 1) L (.int (x <<< (y &&& 31)) :: st) h R) : AW V M d kc ks pc L (.int y :: .int x :: st) h R := by
  intro p e s m args below meth c C H locs ls cells slots mc ms hc hs hS hF hL
  exact lv_ishl C.1 C.2.1 hd (k p e s m args below meth c C H locs ls cells slots mc ms hc hs hS hF hL)
theorem aw_ishr {x y : Int32} (hd : decode M.2.1 pc = .ok (.ishr, 1)) (k : AW V M d kc ks (pc + 1) L (.int (x >>> (y &&& 31)) :: st) h R) : AW V M d kc ks pc L (.int y :: .int x :: st) h R := by
  intro p e s m args below meth c C H locs ls cells slots mc ms hc hs hS hF hL
  exact lv_ishr C.1 C.2.1 hd (k p e s m args below meth c C H locs ls cells slots mc ms hc hs hS hF hL)
theorem aw_ladd {x y : Int64} (hd : decode M.2.1 pc = .ok (.ladd, 1)) (k : AW V M d kc ks (pc + 1) L (.long (x + y) :: st) h R) : AW V M d kc ks pc L (.long y :: .long x :: st) h R := by
  intro p e s m args below meth c C H locs ls cells slots mc ms hc hs hS hF hL
  exact lv_ladd C.1 C.2.1 hd (k p e s m args below meth c C H locs ls cells slots mc ms hc hs hS hF hL)
theorem aw_lmul {x y : Int64} (hd : decode M.2.1 pc = .ok (.lmul, 1)) (k : AW V M d kc ks (pc + 1) L (.long (x * y) :: st) h R) : AW V M d kc ks pc L (.long y :: .long x :: st) h R := by
  intro p e s m args below meth c C H locs ls cells slots mc ms hc hs hS hF hL
  exact lv_lmul C.1 C.2.1 hd (k p e s m args below meth c C H locs ls cells slots mc ms hc hs hS hF hL)
theorem aw_ldiv {x y : Int64} (hd : decode M.2.1 pc = .ok (.ldiv, 1)) (hne : ¬ y = 0) (k : AW V M d kc ks (pc + 1) L (.long (x / y) :: st) h R) : AW V M d kc ks pc L (.long y :: .long x :: st) h R := by
  intro p e s m args below meth c C H locs ls cells slots mc ms hc hs hS hF hL
  exact lv_ldiv C.1 C.2.1 hd hne (k p e s m args below meth c C H locs ls cells slots mc ms hc hs hS hF hL)
theorem aw_lrem {x y : Int64} (hd : decode M.2.1 pc = .ok (.lrem, 1)) (hne : ¬ y = 0) (k : AW V M d kc ks (pc + 1) L (.long (x - x / y * y) :: st) h R) : AW V M d kc ks pc L (.long y :: .long x :: st) h R := by
  intro p e s m args below meth c C H locs ls cells slots mc ms hc hs hS hF hL
  exact lv_lrem C.1 C.2.1 hd hne (k p e s m args below meth c C H locs ls cells slots mc ms hc hs hS hF hL)
theorem aw_lcmp {x y : Int64} (hd : decode M.2.1 pc = .ok (.lcmp, 1)) (k : AW V M d kc ks (pc + 1) L (.int (lg_cmp x y) :: st) h R) : AW V M d kc ks pc L (.long y :: .long x :: st) h R := by
  intro p e s m args below meth c C H locs ls cells slots mc ms hc hs hS hF hL
  exact W.lcmp C.1 C.2.1 hd (k p e s m args below meth c C H locs ls cells slots mc ms hc hs hS hF hL)
theorem aw_i2l {x : Int32} (hd : decode M.2.1 pc = .ok (.i2l, 1)) (k : AW V M d kc ks (pc + 1) L (.long x.toInt64 :: st) h R) : AW V M d kc ks pc L (.int x :: st) h R := by
  intro p e s m args below meth c C H locs ls cells slots mc ms hc hs hS hF hL
  exact lv_i2l C.1 C.2.1 hd rfl (k p e s m args below meth c C H locs ls cells slots mc ms hc hs hS hF hL)
theorem aw_i2b {x : Int32} (hd : decode M.2.1 pc = .ok (.i2b, 1)) (k : AW V M d kc ks (pc + 1) L (.int x.toInt8.toInt32 :: st) h R) : AW V M d kc ks pc L (.int x :: st) h R := by
  intro p e s m args below meth c C H locs ls cells slots mc ms hc hs hS hF hL
  exact lv_i2b C.1 C.2.1 hd rfl (k p e s m args below meth c C H locs ls cells slots mc ms hc hs hS hF hL)
theorem aw_i2s {x : Int32} (hd : decode M.2.1 pc = .ok (.i2s, 1)) (k : AW V M d kc ks (pc + 1) L (.int x.toInt16.toInt32 :: st) h R) : AW V M d kc ks pc L (.int x :: st) h R := by
  intro p e s m args below meth c C H locs ls cells slots mc ms hc hs hS hF hL
  exact lv_i2s C.1 C.2.1 hd rfl (k p e s m args below meth c C H locs ls cells slots mc ms hc hs hS hF hL)
theorem aw_dup {v : Value} (hd : decode M.2.1 pc = .ok (.dup, 1)) (hv : v.category = 1) (k : AW V M d kc ks (pc + 1) L (v :: v :: st) h R) : AW V M d kc ks pc L (v :: st) h R := by
  intro p e s m args below meth c C H locs ls cells slots mc ms hc hs hS hF hL
  exact lv_dup C.1 C.2.1 hd (by rw [am_cat]; exact hv) (k p e s m args below meth c C H locs ls cells slots mc ms hc hs hS hF hL)
theorem aw_pop {v : Value} (hd : decode M.2.1 pc = .ok (.pop, 1)) (hv : v.category = 1) (k : AW V M d kc ks (pc + 1) L st h R) : AW V M d kc ks pc L (v :: st) h R := by
  intro p e s m args below meth c C H locs ls cells slots mc ms hc hs hS hF hL
  exact lv_pop C.1 C.2.1 hd (va := am_cv V v) (by rw [am_cat]; exact hv) (k p e s m args below meth c C H locs ls cells slots mc ms hc hs hS hF hL)
theorem aw_dup2 {v u : Value} (hd : decode M.2.1 pc = .ok (.dup2, 1)) (hv : v.category = 1) (hu : u.category = 1) (k : AW V M d kc ks (pc + 1) L (v :: u :: v :: u :: st) h R) : AW V M d kc ks pc L (v :: u :: st) h R := by
  intro p e s m args below meth c C H locs ls cells slots mc ms hc hs hS hF hL
  exact lv_dup2_11 C.1 C.2.1 hd (by rw [am_cat]; exact hv) (by rw [am_cat]; exact hu) (k p e s m args below meth c C H locs ls cells slots mc ms hc hs hS hF hL)
theorem aw_if_eq {x : Int32} {off : Int} {tgt : Nat} (hd : decode M.2.1 pc = .ok (.ifCond .eq off, 3)) (ht : (pc : Int) + off = (tgt : Int)) (kt : x = 0 → AW V M d kc ks tgt L st h R) (kf : ¬ x = 0 → AW V M d kc ks (pc + 3) L st h R) : AW V M d kc ks pc L (.int x :: st) h R := by
  intro p e s m args below meth c C H locs ls cells slots mc ms hc hs hS hF hL
  exact lv_if_eq C.1 C.2.1 hd ht (fun z => kt z p e s m args below meth c C H locs ls cells slots mc ms hc hs hS hF hL) (fun z => kf z p e s m args below meth c C H locs ls cells slots mc ms hc hs hS hF hL)
theorem aw_icmp_eq {x y : Int32} {off : Int} {tgt : Nat} (hd : decode M.2.1 pc = .ok (.if_icmp .eq off, 3)) (ht : (pc : Int) + off = (tgt : Int)) (kt : x = y → AW V M d kc ks tgt L st h R) (kf : ¬ x = y → AW V M d kc ks (pc + 3) L st h R) : AW V M d kc ks pc L (.int y :: .int x :: st) h R := by
  intro p e s m args below meth c C H locs ls cells slots mc ms hc hs hS hF hL
  exact lv_icmp_eq C.1 C.2.1 hd ht (fun z => kt z p e s m args below meth c C H locs ls cells slots mc ms hc hs hS hF hL) (fun z => kf z p e s m args below meth c C H locs ls cells slots mc ms hc hs hS hF hL)
theorem aw_if_ne {x : Int32} {off : Int} {tgt : Nat} (hd : decode M.2.1 pc = .ok (.ifCond .ne off, 3)) (ht : (pc : Int) + off = (tgt : Int)) (kt : ¬ x = 0 → AW V M d kc ks tgt L st h R) (kf : x = 0 → AW V M d kc ks (pc + 3) L st h R) : AW V M d kc ks pc L (.int x :: st) h R := by
  intro p e s m args below meth c C H locs ls cells slots mc ms hc hs hS hF hL
  exact lv_if_ne C.1 C.2.1 hd ht (fun z => kt z p e s m args below meth c C H locs ls cells slots mc ms hc hs hS hF hL) (fun z => kf z p e s m args below meth c C H locs ls cells slots mc ms hc hs hS hF hL)
theorem aw_icmp_ne {x y : Int32} {off : Int} {tgt : Nat} (hd : decode M.2.1 pc = .ok (.if_icmp .ne off, 3)) (ht : (pc : Int) + off = (tgt : Int)) (kt : ¬ x = y → AW V M d kc ks tgt L st h R) (kf : x = y → AW V M d kc ks (pc + 3) L st h R) : AW V M d kc ks pc L (.int y :: .int x :: st) h R := by
  intro p e s m args below meth c C H locs ls cells slots mc ms hc hs hS hF hL
  exact lv_icmp_ne C.1 C.2.1 hd ht (fun z => kt z p e s m args below meth c C H locs ls cells slots mc ms hc hs hS hF hL) (fun z => kf z p e s m args below meth c C H locs ls cells slots mc ms hc hs hS hF hL)
theorem aw_if_lt {x : Int32} {off : Int} {tgt : Nat} (hd : decode M.2.1 pc = .ok (.ifCond .lt off, 3)) (ht : (pc : Int) + off = (tgt : Int)) (kt : x < 0 → AW V M d kc ks tgt L st h R) (kf : ¬ x < 0 → AW V M d kc ks (pc + 3) L st h R) : AW V M d kc ks pc L (.int x :: st) h R := by
  intro p e s m args below meth c C H locs ls cells slots mc ms hc hs hS hF hL
  exact lv_if_lt C.1 C.2.1 hd ht (fun z => kt z p e s m args below meth c C H locs ls cells slots mc ms hc hs hS hF hL) (fun z => kf z p e s m args below meth c C H locs ls cells slots mc ms hc hs hS hF hL)
theorem aw_icmp_lt {x y : Int32} {off : Int} {tgt : Nat} (hd : decode M.2.1 pc = .ok (.if_icmp .lt off, 3)) (ht : (pc : Int) + off = (tgt : Int)) (kt : x < y → AW V M d kc ks tgt L st h R) (kf : ¬ x < y → AW V M d kc ks (pc + 3) L st h R) : AW V M d kc ks pc L (.int y :: .int x :: st) h R := by
  intro p e s m args below meth c C H locs ls cells slots mc ms hc hs hS hF hL
  exact lv_icmp_lt C.1 C.2.1 hd ht (fun z => kt z p e s m args below meth c C H locs ls cells slots mc ms hc hs hS hF hL) (fun z => kf z p e s m args below meth c C H locs ls cells slots mc ms hc hs hS hF hL)
theorem aw_if_ge {x : Int32} {off : Int} {tgt : Nat} (hd : decode M.2.1 pc = .ok (.ifCond .ge off, 3)) (ht : (pc : Int) + off = (tgt : Int)) (kt : 0 ≤ x → AW V M d kc ks tgt L st h R) (kf : ¬ 0 ≤ x → AW V M d kc ks (pc + 3) L st h R) : AW V M d kc ks pc L (.int x :: st) h R := by
  intro p e s m args below meth c C H locs ls cells slots mc ms hc hs hS hF hL
  exact lv_if_ge C.1 C.2.1 hd ht (fun z => kt z p e s m args below meth c C H locs ls cells slots mc ms hc hs hS hF hL) (fun z => kf z p e s m args below meth c C H locs ls cells slots mc ms hc hs hS hF hL)
theorem aw_icmp_ge {x y : Int32} {off : Int} {tgt : Nat} (hd : decode M.2.1 pc = .ok (.if_icmp .ge off, 3)) (ht : (pc : Int) + off = (tgt : Int)) (kt : y ≤ x → AW V M d kc ks tgt L st h R) (kf : ¬ y ≤ x → AW V M d kc ks (pc + 3) L st h R) : AW V M d kc ks pc L (.int y :: .int x :: st) h R := by
  intro p e s m args below meth c C H locs ls cells slots mc ms hc hs hS hF hL
  exact lv_icmp_ge C.1 C.2.1 hd ht (fun z => kt z p e s m args below meth c C H locs ls cells slots mc ms hc hs hS hF hL) (fun z => kf z p e s m args below meth c C H locs ls cells slots mc ms hc hs hS hF hL)
theorem aw_if_gt {x : Int32} {off : Int} {tgt : Nat} (hd : decode M.2.1 pc = .ok (.ifCond .gt off, 3)) (ht : (pc : Int) + off = (tgt : Int)) (kt : 0 < x → AW V M d kc ks tgt L st h R) (kf : ¬ 0 < x → AW V M d kc ks (pc + 3) L st h R) : AW V M d kc ks pc L (.int x :: st) h R := by
  intro p e s m args below meth c C H locs ls cells slots mc ms hc hs hS hF hL
  exact lv_if_gt C.1 C.2.1 hd ht (fun z => kt z p e s m args below meth c C H locs ls cells slots mc ms hc hs hS hF hL) (fun z => kf z p e s m args below meth c C H locs ls cells slots mc ms hc hs hS hF hL)
theorem aw_icmp_gt {x y : Int32} {off : Int} {tgt : Nat} (hd : decode M.2.1 pc = .ok (.if_icmp .gt off, 3)) (ht : (pc : Int) + off = (tgt : Int)) (kt : y < x → AW V M d kc ks tgt L st h R) (kf : ¬ y < x → AW V M d kc ks (pc + 3) L st h R) : AW V M d kc ks pc L (.int y :: .int x :: st) h R := by
  intro p e s m args below meth c C H locs ls cells slots mc ms hc hs hS hF hL
  exact lv_icmp_gt C.1 C.2.1 hd ht (fun z => kt z p e s m args below meth c C H locs ls cells slots mc ms hc hs hS hF hL) (fun z => kf z p e s m args below meth c C H locs ls cells slots mc ms hc hs hS hF hL)
theorem aw_if_le {x : Int32} {off : Int} {tgt : Nat} (hd : decode M.2.1 pc = .ok (.ifCond .le off, 3)) (ht : (pc : Int) + off = (tgt : Int)) (kt : x ≤ 0 → AW V M d kc ks tgt L st h R) (kf : ¬ x ≤ 0 → AW V M d kc ks (pc + 3) L st h R) : AW V M d kc ks pc L (.int x :: st) h R := by
  intro p e s m args below meth c C H locs ls cells slots mc ms hc hs hS hF hL
  exact lv_if_le C.1 C.2.1 hd ht (fun z => kt z p e s m args below meth c C H locs ls cells slots mc ms hc hs hS hF hL) (fun z => kf z p e s m args below meth c C H locs ls cells slots mc ms hc hs hS hF hL)
theorem aw_icmp_le {x y : Int32} {off : Int} {tgt : Nat} (hd : decode M.2.1 pc = .ok (.if_icmp .le off, 3)) (ht : (pc : Int) + off = (tgt : Int)) (kt : x ≤ y → AW V M d kc ks tgt L st h R) (kf : ¬ x ≤ y → AW V M d kc ks (pc + 3) L st h R) : AW V M d kc ks pc L (.int y :: .int x :: st) h R := by
  intro p e s m args below meth c C H locs ls cells slots mc ms hc hs hS hF hL
  exact lv_icmp_le C.1 C.2.1 hd ht (fun z => kt z p e s m args below meth c C H locs ls cells slots mc ms hc hs hS hF hL) (fun z => kf z p e s m args below meth c C H locs ls cells slots mc ms hc hs hS hF hL)
theorem aw_goto {off : Int} {tgt : Nat} (hd : decode M.2.1 pc = .ok (.goto off, 3)) (ht : (pc : Int) + off = (tgt : Int)) (k : AW V M d kc ks tgt L st h R) : AW V M d kc ks pc L st h R := by
  intro p e s m args below meth c C H locs ls cells slots mc ms hc hs hS hF hL
  exact lv_goto C.1 C.2.1 hd ht (k p e s m args below meth c C H locs ls cells slots mc ms hc hs hS hF hL)
theorem aw_tableOut {dflt lo hi : Int} {offs : Array Int} {len : Nat} {x : Int32} {tgt : Nat} (hd : decode M.2.1 pc = .ok (.tableswitch dflt lo hi offs, len)) (hx : x.toInt < lo ∨ hi < x.toInt) (ht : (pc : Int) + dflt = (tgt : Int)) (k : AW V M d kc ks tgt L st h R) : AW V M d kc ks pc L (.int x :: st) h R := by
  intro p e s m args below meth c C H locs ls cells slots mc ms hc hs hS hF hL
  exact lv_tableOut C.1 C.2.1 hd hx ht (k p e s m args below meth c C H locs ls cells slots mc ms hc hs hS hF hL)
theorem aw_tableIn {dflt lo hi : Int} {offs : Array Int} {len : Nat} {x : Int32} {off : Int} {tgt : Nat} (hd : decode M.2.1 pc = .ok (.tableswitch dflt lo hi offs, len)) (h1 : ¬ x.toInt < lo) (h2 : ¬ hi < x.toInt) (ho : offs[(x.toInt - lo).toNat]? = some off) (ht : (pc : Int) + off = (tgt : Int)) (k : AW V M d kc ks tgt L st h R) : AW V M d kc ks pc L (.int x :: st) h R := by
  intro p e s m args below meth c C H locs ls cells slots mc ms hc hs hS hF hL
  exact lv_tableIn C.1 C.2.1 hd h1 h2 ho ht (k p e s m args below meth c C H locs ls cells slots mc ms hc hs hS hF hL)
theorem aw_lookup {dflt : Int} {ps : Array (Int × Int)} {len : Nat} {x : Int32} {off : Int} {tgt : Nat} (hd : decode M.2.1 pc = .ok (.lookupswitch dflt ps, len)) (hp : (ps.toList.zip (ps.toList.drop 1)).all (fun (a, next) => a.1 < next.1) = true) (ho : Op.lookupswitch.offset ps.toList dflt x.toInt = off) (ht : (pc : Int) + off = (tgt : Int)) (k : AW V M d kc ks tgt L st h R) : AW V M d kc ks pc L (.int x :: st) h R := by
  intro p e s m args below meth c C H locs ls cells slots mc ms hc hs hS hF hL
  exact lv_lookup C.1 C.2.1 hd hp ho ht (k p e s m args below meth c C H locs ls cells slots mc ms hc hs hS hF hL)
theorem aw_ireturn {v : Int32} {ty : FieldType} (hd : decode M.2.1 pc = .ok (.ireturn, 1)) (hr : M.2.2.2 = some ty) (hn : narrow ty (.int v) = .int v) (hR : R (some (.int v)) h) : AW V M d kc ks pc L [.int v] h R := by
  intro p e s m args below meth c C H locs ls cells slots mc ms hc hs hS hF hL
  refine W.widen (k := mc) (n := ms) (by omega) (by omega) ?_
  exact W.zret (Qc := am_Q V R) (free := am_A V) C.1 C.2.1 (C.2.2.2.1.trans hr) hn (fun t ht _ => ⟨⟨some (.int v), h, rfl, hR, by rw [ht]; exact hS⟩, hF.F ht⟩) hF.2.2 hd (hlocks := C.2.2.2.2.2.2.2.2.1)
theorem aw_lreturn {v : Int64} (hd : decode M.2.1 pc = .ok (.lreturn, 1)) (hr : M.2.2.2 = some .long) (hR : R (some (.long v)) h) : AW V M d kc ks pc L [.long v] h R := by
  intro p e s m args below meth c C H locs ls cells slots mc ms hc hs hS hF hL
  refine W.widen (k := mc) (n := ms) (by omega) (by omega) ?_
  exact W.lret (Qc := am_Q V R) (free := am_A V) C.1 C.2.1 (C.2.2.2.1.trans hr) (fun t ht _ => ⟨⟨some (.long v), h, rfl, hR, by rw [ht]; exact hS⟩, hF.F ht⟩) hF.2.2 hd (hlocks := C.2.2.2.2.2.2.2.2.1)
theorem aw_areturn {a : Nat} {nm : String} (hd : decode M.2.1 pc = .ok (.areturn, 1)) (hr : M.2.2.2 = some (.object nm)) (hR : R (some (.ref a)) h) : AW V M d kc ks pc L [.ref a] h R := by
  intro p e s m args below meth c C H locs ls cells slots mc ms hc hs hS hF hL
  refine W.widen (k := mc) (n := ms) (by omega) (by omega) ?_
  exact W.aret (Qc := am_Q V R) (free := am_A V) (v := .ref (am_ad V a)) C.1 C.2.1 (C.2.2.2.1.trans hr) (Or.inl ⟨nm, rfl⟩) (Or.inr ⟨_, rfl⟩) (fun t ht _ => ⟨⟨some (.ref a), h, rfl, hR, by rw [ht]; exact hS⟩, hF.F ht⟩) hF.2.2 hd (hlocks := C.2.2.2.2.2.2.2.2.1)
theorem aw_return (hd : decode M.2.1 pc = .ok (.return_, 1)) (hr : M.2.2.2 = none) (hR : R none h) : AW V M d kc ks pc L [] h R := by
  intro p e s m args below meth c C H locs ls cells slots mc ms hc hs hS hF hL
  refine W.widen (k := mc) (n := ms) (by omega) (by omega) ?_
  exact W.vret (Qc := am_Q V R) (free := am_A V) C.1 C.2.1 (C.2.2.2.1.trans hr) (fun t ht _ => ⟨⟨none, h, rfl, hR, by rw [ht]; exact hS⟩, hF.F ht⟩) hF.2.2 hd (hlocks := C.2.2.2.2.2.2.2.2.1)
end AMR
