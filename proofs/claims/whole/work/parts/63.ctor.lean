/-! THE CONSTRUCTORS over raw heaps. -/
theorem ap_at {pre X : List va_E} {b k : Nat} {e : va_E} (hb : pre.length = b) (hX : X[k]? = some e) : (pre ++ X)[b + k]? = some e := by
  subst hb
  rw [List.getElem?_append_right (Nat.le_add_right _ _), Nat.add_sub_cancel_left]
  exact hX
theorem ap_set {pre X X' : List va_E} {b k : Nat} {e : va_E} (hb : pre.length = b) (hX : X.set k e = X') : (pre ++ X).set (b + k) e = pre ++ X' := by
  subst hb
  subst hX
  rw [List.set_append_right _ _ (Nat.le_add_right _ _), Nat.add_sub_cancel_left]
theorem ap_len {pre X : List va_E} {b k : Nat} (hb : pre.length = b) (hX : X.length = k) : (pre ++ X).length = b + k := by
  rw [List.length_append, hb, hX]
theorem ap_app {pre X X' : List va_E} {e : va_E} (hX : X ++ [e] = X') : (pre ++ X) ++ [e] = pre ++ X' := by
  subst hX
  exact List.append_assoc _ _ _
section AMC
variable {V : am_V} {M : am_M} {d pc : Nat} {L : List (Option Value)} {st : List Value} {h h' : List va_E} {R : Option Value → List va_E → Prop}
theorem an_new {ci idx n N : Nat} {q : vw_C} {fs : List Value} (kc ks : Nat) (hn : h.length = n) (hm : n < 1000000) (hd : decode M.2.1 pc = .ok (.new idx, 3)) (hq : am_cl[ci]? = some q) (hl : Cond.classLink M.1.cls idx q.1 ∈ am_T) (hi : Cond.instantiable q.1 q.2.2 ∈ am_T) (hni : Cond.initialized q.1 ∈ am_T) (hN : q.2.2 = N) (hcv : fs.map (am_cv V) = fs) (hfs : ∀ j, j < q.2.2 → defaultValue (am_fty ci j) = vp_V fs j) (hh : h ++ [.inr (ci, fs)] = h') (kk : AW V M d kc ks (pc + 3) L (.ref n :: st) h' R) : AW V M d (1 + kc) (N + ks) pc L st h R := by
  subst hn
  subst hh
  subst hN
  exact aw_new hd hq hl hi hni hcv hfs hm kk
theorem an_newa {t N n : Nat} {atype : ArrayType} {ty : FieldType} {x : Int32} (kc ks : Nat) (hn : h.length = n) (hm : n < 1000000) (hd : decode M.2.1 pc = .ok (.newarray atype, 2)) (hty : newarray.typeOf atype = ty) (ht : (am_tys V)[t]? = some (V.2.2.1 t, ty)) (hpr : ∀ U cA, va_RA U cA ty → U.vm.findClass ("[" ++ ty.toString) = some cA) (hdf : defaultValue ty = .int 0) (hw : Cond.arrayClass ty ∈ am_T) (hx : ¬ x < 0) (hN : x.toNatClampNeg = N) (hby : N * componentBytes ty ≤ 536870912) (hh : h ++ [.inl (t, N, .inl (fun _ => 0))] = h') (kk : AW V M d kc ks (pc + 2) L (.ref n :: st) h' R) : AW V M d (1 + kc) (N + ks) pc L (.int x :: st) h R := by
  subst hn
  subst hh
  exact aw_newa hd hty ht hpr hdf hw hx hN hby hm kk
theorem an_newI {N n : Nat} {x : Int32} (kc ks : Nat) (hn : h.length = n) (hm : n < 1000000) (hd : decode M.2.1 pc = .ok (.newarray .int, 2)) (hx : ¬ x < 0) (hN : x.toNatClampNeg = N) (hby : N * componentBytes .int ≤ 536870912) (hh : h ++ [.inl (0, N, .inl (fun _ => 0))] = h') (kk : AW V M d kc ks (pc + 2) L (.ref n :: st) h' R) : AW V M d (1 + kc) (N + ks) pc L (.int x :: st) h R := an_newa kc ks hn hm hd rfl rfl (fun _ _ z => z) rfl am_ac_i hx hN hby hh kk
theorem an_newB {N n : Nat} {x : Int32} (kc ks : Nat) (hn : h.length = n) (hm : n < 1000000) (hd : decode M.2.1 pc = .ok (.newarray .byte, 2)) (hx : ¬ x < 0) (hN : x.toNatClampNeg = N) (hby : N * componentBytes .byte ≤ 536870912) (hh : h ++ [.inl (1, N, .inl (fun _ => 0))] = h') (kk : AW V M d kc ks (pc + 2) L (.ref n :: st) h' R) : AW V M d (1 + kc) (N + ks) pc L (.int x :: st) h R := an_newa kc ks hn hm hd rfl rfl (fun _ _ z => z) rfl am_ac_b hx hN hby hh kk
theorem an_newZ {N n : Nat} {x : Int32} (kc ks : Nat) (hn : h.length = n) (hm : n < 1000000) (hd : decode M.2.1 pc = .ok (.newarray .boolean, 2)) (hx : ¬ x < 0) (hN : x.toNatClampNeg = N) (hby : N * componentBytes .boolean ≤ 536870912) (hh : h ++ [.inl (2, N, .inl (fun _ => 0))] = h') (kk : AW V M d kc ks (pc + 2) L (.ref n :: st) h' R) : AW V M d (1 + kc) (N + ks) pc L (.int x :: st) h R := an_newa kc ks hn hm hd rfl rfl (fun _ _ z => z) rfl am_ac_z hx hN hby hh kk
theorem an_anew {t N n idx : Nat} {cn : String} {x : Int32} (kc ks : Nat) (hn : h.length = n) (hm : n < 1000000) (hd : decode M.2.1 pc = .ok (.anewarray idx, 3)) (hl : Cond.classLink M.1.cls idx cn ∈ am_T) (hao : ∀ U, am_N V U → va_AO cn U) (ht : (am_tys V)[t]? = some (V.2.2.1 t, .object cn)) (hx : ¬ x < 0) (hN : x.toNatClampNeg = N) (hby : N * 4 ≤ 536870912) (hh : h ++ [.inl (t, N, .inr (.inr (.inr (.inr (fun _ => none)))))] = h') (kk : AW V M d kc ks (pc + 3) L (.ref n :: st) h' R) : AW V M d (1 + kc) (N + ks) pc L (.int x :: st) h R := by
  subst hn
  subst hh
  exact aw_anew hd hl hao ht hx hN hby hm kk
theorem an_aast {kc ks a n t ci v j : Nat} {r : vw_C} {g : Nat → Option Nat} {i : Int32} {vs : List Value} (hd : decode M.2.1 pc = .ok (.aastore, 1)) (he : h[a]? = some (.inl (t, n, .inr (.inr (.inr (.inr g)))))) (ht : (am_tys V)[t]? = some (V.2.2.1 t, .object r.1)) (hv : h[v]? = some (.inr (ci, vs))) (hq : am_cl[ci]? = some r) (hi : ¬ i < 0) (hj : i.toNatClampNeg = j) (hjn : j < n) (hh : h.set a (.inl (t, n, .inr (.inr (.inr (.inr (va_up g j (some v))))))) = h') (kk : AW V M d kc ks (pc + 1) L st h' R) : AW V M d kc ks pc L (.ref v :: .int i :: .ref a :: st) h R := by
  subst hj
  exact aw_aast hd he ht hv hq (fun z => z.elim hi (fun y => absurd hjn (Nat.not_lt.mpr y))) hh kk
theorem an_callI {M' : am_M} {b idx kc' ks' : Nat} {as stk : List Value} (kc ks : Nat) (hd : decode M.2.1 pc = .ok (.invokespecial idx, 3)) (hl : Cond.methodLink M.1.cls idx M'.1 ∈ am_T) (hrt : M'.2.2.2 = none) (ho : am_okI M') (hn : (parseMethodDescriptor M'.1.desc).map (fun d => d.parameters.length) = some as.length) (hst : as.reverse ++ .ref b :: st = stk) (hw : (st.map fun v => v.category).sum ≤ 8) (hc : AM V M' d kc' ks' (.ref b :: as) h (fun r h1 => r = none ∧ h1 = h')) (kk : AW V M (d + 1) kc ks (pc + 3) L st h' R) : AW V M (d + 1) (kc' + kc) (ks' + ks) pc L stk h R :=
  aw_callI (ci := 0) (q := (RX0, TX0, 12)) (fs := []) (host := "") hd hl hrt ho hn hst hw (hc.weaken (fun r h1 e => by obtain ⟨rfl, rfl⟩ := e; exact kk))
theorem an_callIN {M' : am_M} {b idx kc' ks' : Nat} {host : String} {as stk : List Value} (kc ks : Nat) (hd : decode M.2.1 pc = .ok (.invokespecial idx, 3)) (hl : Cond.methodLinkNest M.1.cls idx M'.1 host ∈ am_nest) (hrt : M'.2.2.2 = none) (ho : am_okI M') (hn : (parseMethodDescriptor M'.1.desc).map (fun d => d.parameters.length) = some as.length) (hst : as.reverse ++ .ref b :: st = stk) (hw : (st.map fun v => v.category).sum ≤ 8) (hc : AM V M' d kc' ks' (.ref b :: as) h (fun r h1 => r = none ∧ h1 = h')) (kk : AW V M (d + 1) kc ks (pc + 3) L st h' R) : AW V M (d + 1) (kc' + kc) (ks' + ks) pc L stk h R :=
  aw_callIN (ci := 0) (q := (RX0, TX0, 12)) (fs := []) hd hl hrt ho hn hst hw (hc.weaken (fun r h1 e => by obtain ⟨rfl, rfl⟩ := e; exact kk))
end AMC
def E_key : va_E := .inr (1, [.int 0, .int 0, .int 0, .int 0, .int 0, .int 0, .int 0, .int 0, .int 0])
def E_int (n : Nat) : va_E := .inl (0, n, .inl (fun _ => 0))
def E_ref (t n : Nat) (g : Nat → Option Nat) : va_E := .inl (t, n, .inr (.inr (.inr (.inr g))))
theorem h_X1_init {V : am_V} {d a : Nat} {h : List va_E} : AM V MX1_init (d + 1) 0 0 [.ref a] h (fun r h1 => r = none ∧ h1 = h) := by
  refine AM.of (L := [some (.ref a)]) (by decide +kernel) (Nat.le_of_ble_eq_true rfl) rfl ?_
  refine aw_aload_n (i := 0) dX1_init_0 rfl rfl ?_
  refine aw_obj dX1_init_1 loX1 (Nat.le_of_ble_eq_true rfl) ?_
  exact aw_return dX1_init_4 rfl ⟨rfl, rfl⟩
def bdC (b : Nat) : List va_E := [.inr (0, [.ref (b + 1), .int 0, .ref (b + 6), .ref (b + 7), .ref (b + 8), .int 0, .int 1, .int 0, .ref (b + 9), .ref (b + 10), .ref (b + 11), .int 0]), E_ref 3 4 (fun j => [b + 2, b + 3, b + 4, b + 5][j]?), E_key, E_key, E_key, E_key, E_int 8, E_int 8, E_int 8, E_int 6, E_int 6, E_int 6]
def bd0 : va_E := .inr (0, [.null, .int 0, .null, .null, .null, .int 0, .int 0, .int 0, .null, .null, .null, .int 0])
theorem up4 (a b c e : Nat) : va_up (va_up (va_up (va_up (fun _ => none) 0 (some a)) 1 (some b)) 2 (some c)) 3 (some e) = fun j => [a, b, c, e][j]? := by
  funext j
  match j with
  | 0 => rfl
  | 1 => rfl
  | 2 => rfl
  | 3 => rfl
  | j + 4 => simp [va_up]
theorem up2q (a b : Nat) : va_up (va_up (fun _ => none) 0 (some a)) 1 (some b) = fun j => [a, b][j]? := by
  funext j
  match j with
  | 0 => rfl
  | 1 => rfl
  | j + 2 => simp [va_up]
set_option maxRecDepth 100000 in
set_option maxHeartbeats 2000000 in
theorem h_X0_init {V : am_V} {d b : Nat} {pre : List va_E} (hb : pre.length = b) (hb9 : b < 900000) : AM V MX0_init (d + 2) 11 82 [.ref b] (pre ++ [bd0]) (fun r h1 => r = none ∧ h1 = pre ++ bdC b) := by
  refine AM.of (L := [some (.ref (b + 0)), none]) (by decide +kernel) (Nat.le_of_ble_eq_true rfl) rfl ?_
  show AW V MX0_init (d + 2) 11 82 0 [some (.ref (b + 0)), none] [] (pre ++ [.inr (0, [.null, .int 0, .null, .null, .null, .int 0, .int 0, .int 0, .null, .null, .null, .int 0])]) _
  refine aw_aload_n (i := 0) dX0_init_0 rfl rfl ?_
  refine aw_obj dX0_init_1 loX0 (Nat.le_of_ble_eq_true rfl) ?_
  refine aw_aload_n (i := 0) dX0_init_4 rfl rfl ?_
  refine aw_iconst (v := 4) dX0_init_5 (by decide) ?_
  refine an_anew (t := 3) (N := 4) (n := (b + 1)) (h' := (pre ++ [.inr (0, [.null, .int 0, .null, .null, .null, .int 0, .int 0, .int 0, .null, .null, .null, .int 0]), E_ref 3 4 (fun _ => none)])) 10 78 (ap_len hb rfl) (by omega) dX0_init_6 cl_01 (fun _ z => z.2.1) rfl (by decide) (by decide) (Nat.le_of_ble_eq_true rfl) (ap_app rfl) ?_
  refine aw_putF (ci := 0) (h' := (pre ++ [.inr (0, [.ref (b + 1), .int 0, .null, .null, .null, .int 0, .int 0, .int 0, .null, .null, .null, .int 0]), E_ref 3 4 (fun _ => none)])) 0 dX0_init_9 rfl lfX0_11 (by decide) (by decide) rfl rfl (ap_at hb rfl) rfl rfl (Nat.le_of_ble_eq_true rfl) (ap_set hb rfl) ?_
  refine aw_iconst (v := 0) dX0_init_12 (by decide) ?_
  refine aw_istore_n (i := 1) (L' := [some (.ref (b + 0)), some (.int 0)]) dX0_init_13 rfl (Nat.le_of_ble_eq_true rfl) rfl rfl ?_
  refine aw_iload_n (i := 1) dX0_init_14 rfl rfl ?_
  refine aw_iconst (v := 4) dX0_init_15 (by decide) ?_
  refine aw_icmp_ge (tgt := 38) dX0_init_16 (by decide) (fun z => absurd z (by decide)) (fun _ => ?_)
  refine aw_aload_n (i := 0) dX0_init_19 rfl rfl ?_
  refine aw_get (ci := 0) 0 dX0_init_20 rfl lfX0_11 (by decide) (ap_at hb rfl) rfl ?_
  refine aw_iload_n (i := 1) dX0_init_23 rfl rfl ?_
  refine an_new (ci := 1) (N := 9) (n := (b + 2)) (fs := [.int 0, .int 0, .int 0, .int 0, .int 0, .int 0, .int 0, .int 0, .int 0]) (h' := (pre ++ [.inr (0, [.ref (b + 1), .int 0, .null, .null, .null, .int 0, .int 0, .int 0, .null, .null, .null, .int 0]), E_ref 3 4 (fun _ => none), E_key])) 9 69 (ap_len hb rfl) (by omega) dX0_init_24 rfl cl_01 ni_1 nn_1 rfl rfl (by decide +kernel) (ap_app rfl) ?_
  refine aw_dup dX0_init_27 rfl ?_
  refine an_callIN (M' := MX1_init) (as := []) 9 69 dX0_init_28 (List.mem_of_getElem? (i := 0) rfl) rfl oX1_init (by decide +kernel) rfl (Nat.le_of_ble_eq_true rfl) h_X1_init ?_
  refine an_aast (t := 3) (n := 4) (ci := 1) (j := 0) (h' := (pre ++ [.inr (0, [.ref (b + 1), .int 0, .null, .null, .null, .int 0, .int 0, .int 0, .null, .null, .null, .int 0]), E_ref 3 4 (va_up (fun _ => none) 0 (some (b + 2))), E_key])) dX0_init_31 (ap_at hb rfl) rfl (ap_at hb rfl) rfl (by decide) (by decide) (by decide) (ap_set hb rfl) ?_
  refine aw_iinc (v := 1) (L' := [some (.ref (b + 0)), some (.int 1)]) dX0_init_32 rfl (by decide) (Nat.le_of_ble_eq_true rfl) rfl rfl ?_
  refine aw_goto (tgt := 14) dX0_init_35 (by decide) ?_
  refine aw_iload_n (i := 1) dX0_init_14 rfl rfl ?_
  refine aw_iconst (v := 4) dX0_init_15 (by decide) ?_
  refine aw_icmp_ge (tgt := 38) dX0_init_16 (by decide) (fun z => absurd z (by decide)) (fun _ => ?_)
  refine aw_aload_n (i := 0) dX0_init_19 rfl rfl ?_
  refine aw_get (ci := 0) 0 dX0_init_20 rfl lfX0_11 (by decide) (ap_at hb rfl) rfl ?_
  refine aw_iload_n (i := 1) dX0_init_23 rfl rfl ?_
  refine an_new (ci := 1) (N := 9) (n := (b + 3)) (fs := [.int 0, .int 0, .int 0, .int 0, .int 0, .int 0, .int 0, .int 0, .int 0]) (h' := (pre ++ [.inr (0, [.ref (b + 1), .int 0, .null, .null, .null, .int 0, .int 0, .int 0, .null, .null, .null, .int 0]), E_ref 3 4 (va_up (fun _ => none) 0 (some (b + 2))), E_key, E_key])) 8 60 (ap_len hb rfl) (by omega) dX0_init_24 rfl cl_01 ni_1 nn_1 rfl rfl (by decide +kernel) (ap_app rfl) ?_
  refine aw_dup dX0_init_27 rfl ?_
  refine an_callIN (M' := MX1_init) (as := []) 8 60 dX0_init_28 (List.mem_of_getElem? (i := 0) rfl) rfl oX1_init (by decide +kernel) rfl (Nat.le_of_ble_eq_true rfl) h_X1_init ?_
  refine an_aast (t := 3) (n := 4) (ci := 1) (j := 1) (h' := (pre ++ [.inr (0, [.ref (b + 1), .int 0, .null, .null, .null, .int 0, .int 0, .int 0, .null, .null, .null, .int 0]), E_ref 3 4 (va_up (va_up (fun _ => none) 0 (some (b + 2))) 1 (some (b + 3))), E_key, E_key])) dX0_init_31 (ap_at hb rfl) rfl (ap_at hb rfl) rfl (by decide) (by decide) (by decide) (ap_set hb rfl) ?_
  refine aw_iinc (v := 2) (L' := [some (.ref (b + 0)), some (.int 2)]) dX0_init_32 rfl (by decide) (Nat.le_of_ble_eq_true rfl) rfl rfl ?_
  refine aw_goto (tgt := 14) dX0_init_35 (by decide) ?_
  refine aw_iload_n (i := 1) dX0_init_14 rfl rfl ?_
  refine aw_iconst (v := 4) dX0_init_15 (by decide) ?_
  refine aw_icmp_ge (tgt := 38) dX0_init_16 (by decide) (fun z => absurd z (by decide)) (fun _ => ?_)
  refine aw_aload_n (i := 0) dX0_init_19 rfl rfl ?_
  refine aw_get (ci := 0) 0 dX0_init_20 rfl lfX0_11 (by decide) (ap_at hb rfl) rfl ?_
  refine aw_iload_n (i := 1) dX0_init_23 rfl rfl ?_
  refine an_new (ci := 1) (N := 9) (n := (b + 4)) (fs := [.int 0, .int 0, .int 0, .int 0, .int 0, .int 0, .int 0, .int 0, .int 0]) (h' := (pre ++ [.inr (0, [.ref (b + 1), .int 0, .null, .null, .null, .int 0, .int 0, .int 0, .null, .null, .null, .int 0]), E_ref 3 4 (va_up (va_up (fun _ => none) 0 (some (b + 2))) 1 (some (b + 3))), E_key, E_key, E_key])) 7 51 (ap_len hb rfl) (by omega) dX0_init_24 rfl cl_01 ni_1 nn_1 rfl rfl (by decide +kernel) (ap_app rfl) ?_
  refine aw_dup dX0_init_27 rfl ?_
  refine an_callIN (M' := MX1_init) (as := []) 7 51 dX0_init_28 (List.mem_of_getElem? (i := 0) rfl) rfl oX1_init (by decide +kernel) rfl (Nat.le_of_ble_eq_true rfl) h_X1_init ?_
  refine an_aast (t := 3) (n := 4) (ci := 1) (j := 2) (h' := (pre ++ [.inr (0, [.ref (b + 1), .int 0, .null, .null, .null, .int 0, .int 0, .int 0, .null, .null, .null, .int 0]), E_ref 3 4 (va_up (va_up (va_up (fun _ => none) 0 (some (b + 2))) 1 (some (b + 3))) 2 (some (b + 4))), E_key, E_key, E_key])) dX0_init_31 (ap_at hb rfl) rfl (ap_at hb rfl) rfl (by decide) (by decide) (by decide) (ap_set hb rfl) ?_
  refine aw_iinc (v := 3) (L' := [some (.ref (b + 0)), some (.int 3)]) dX0_init_32 rfl (by decide) (Nat.le_of_ble_eq_true rfl) rfl rfl ?_
  refine aw_goto (tgt := 14) dX0_init_35 (by decide) ?_
  refine aw_iload_n (i := 1) dX0_init_14 rfl rfl ?_
  refine aw_iconst (v := 4) dX0_init_15 (by decide) ?_
  refine aw_icmp_ge (tgt := 38) dX0_init_16 (by decide) (fun z => absurd z (by decide)) (fun _ => ?_)
  refine aw_aload_n (i := 0) dX0_init_19 rfl rfl ?_
  refine aw_get (ci := 0) 0 dX0_init_20 rfl lfX0_11 (by decide) (ap_at hb rfl) rfl ?_
  refine aw_iload_n (i := 1) dX0_init_23 rfl rfl ?_
  refine an_new (ci := 1) (N := 9) (n := (b + 5)) (fs := [.int 0, .int 0, .int 0, .int 0, .int 0, .int 0, .int 0, .int 0, .int 0]) (h' := (pre ++ [.inr (0, [.ref (b + 1), .int 0, .null, .null, .null, .int 0, .int 0, .int 0, .null, .null, .null, .int 0]), E_ref 3 4 (va_up (va_up (va_up (fun _ => none) 0 (some (b + 2))) 1 (some (b + 3))) 2 (some (b + 4))), E_key, E_key, E_key, E_key])) 6 42 (ap_len hb rfl) (by omega) dX0_init_24 rfl cl_01 ni_1 nn_1 rfl rfl (by decide +kernel) (ap_app rfl) ?_
  refine aw_dup dX0_init_27 rfl ?_
  refine an_callIN (M' := MX1_init) (as := []) 6 42 dX0_init_28 (List.mem_of_getElem? (i := 0) rfl) rfl oX1_init (by decide +kernel) rfl (Nat.le_of_ble_eq_true rfl) h_X1_init ?_
  refine an_aast (t := 3) (n := 4) (ci := 1) (j := 3) (h' := (pre ++ [.inr (0, [.ref (b + 1), .int 0, .null, .null, .null, .int 0, .int 0, .int 0, .null, .null, .null, .int 0]), E_ref 3 4 (va_up (va_up (va_up (va_up (fun _ => none) 0 (some (b + 2))) 1 (some (b + 3))) 2 (some (b + 4))) 3 (some (b + 5))), E_key, E_key, E_key, E_key])) dX0_init_31 (ap_at hb rfl) rfl (ap_at hb rfl) rfl (by decide) (by decide) (by decide) (ap_set hb rfl) ?_
  refine aw_iinc (v := 4) (L' := [some (.ref (b + 0)), some (.int 4)]) dX0_init_32 rfl (by decide) (Nat.le_of_ble_eq_true rfl) rfl rfl ?_
  refine aw_goto (tgt := 14) dX0_init_35 (by decide) ?_
  refine aw_iload_n (i := 1) dX0_init_14 rfl rfl ?_
  refine aw_iconst (v := 4) dX0_init_15 (by decide) ?_
  refine aw_icmp_ge (tgt := 38) dX0_init_16 (by decide) (fun _ => ?_) (fun z => absurd (by decide) z)
  refine aw_aload_n (i := 0) dX0_init_38 rfl rfl ?_
  refine aw_bipush (v := 8) dX0_init_39 (by decide) ?_
  refine an_newI (N := 8) (n := (b + 6)) (h' := (pre ++ [.inr (0, [.ref (b + 1), .int 0, .null, .null, .null, .int 0, .int 0, .int 0, .null, .null, .null, .int 0]), E_ref 3 4 (va_up (va_up (va_up (va_up (fun _ => none) 0 (some (b + 2))) 1 (some (b + 3))) 2 (some (b + 4))) 3 (some (b + 5))), E_key, E_key, E_key, E_key, E_int 8])) 5 34 (ap_len hb rfl) (by omega) dX0_init_41 (by decide) (by decide) (Nat.le_of_ble_eq_true rfl) (ap_app rfl) ?_
  refine aw_putF (ci := 0) (h' := (pre ++ [.inr (0, [.ref (b + 1), .int 0, .ref (b + 6), .null, .null, .int 0, .int 0, .int 0, .null, .null, .null, .int 0]), E_ref 3 4 (va_up (va_up (va_up (va_up (fun _ => none) 0 (some (b + 2))) 1 (some (b + 3))) 2 (some (b + 4))) 3 (some (b + 5))), E_key, E_key, E_key, E_key, E_int 8])) 2 dX0_init_43 rfl lfX0_18 (by decide) (by decide) rfl rfl (ap_at hb rfl) rfl rfl (Nat.le_of_ble_eq_true rfl) (ap_set hb rfl) ?_
  refine aw_aload_n (i := 0) dX0_init_46 rfl rfl ?_
  refine aw_bipush (v := 8) dX0_init_47 (by decide) ?_
  refine an_newI (N := 8) (n := (b + 7)) (h' := (pre ++ [.inr (0, [.ref (b + 1), .int 0, .ref (b + 6), .null, .null, .int 0, .int 0, .int 0, .null, .null, .null, .int 0]), E_ref 3 4 (va_up (va_up (va_up (va_up (fun _ => none) 0 (some (b + 2))) 1 (some (b + 3))) 2 (some (b + 4))) 3 (some (b + 5))), E_key, E_key, E_key, E_key, E_int 8, E_int 8])) 4 26 (ap_len hb rfl) (by omega) dX0_init_49 (by decide) (by decide) (Nat.le_of_ble_eq_true rfl) (ap_app rfl) ?_
  refine aw_putF (ci := 0) (h' := (pre ++ [.inr (0, [.ref (b + 1), .int 0, .ref (b + 6), .ref (b + 7), .null, .int 0, .int 0, .int 0, .null, .null, .null, .int 0]), E_ref 3 4 (va_up (va_up (va_up (va_up (fun _ => none) 0 (some (b + 2))) 1 (some (b + 3))) 2 (some (b + 4))) 3 (some (b + 5))), E_key, E_key, E_key, E_key, E_int 8, E_int 8])) 3 dX0_init_51 rfl lfX0_22 (by decide) (by decide) rfl rfl (ap_at hb rfl) rfl rfl (Nat.le_of_ble_eq_true rfl) (ap_set hb rfl) ?_
  refine aw_aload_n (i := 0) dX0_init_54 rfl rfl ?_
  refine aw_bipush (v := 8) dX0_init_55 (by decide) ?_
  refine an_newI (N := 8) (n := (b + 8)) (h' := (pre ++ [.inr (0, [.ref (b + 1), .int 0, .ref (b + 6), .ref (b + 7), .null, .int 0, .int 0, .int 0, .null, .null, .null, .int 0]), E_ref 3 4 (va_up (va_up (va_up (va_up (fun _ => none) 0 (some (b + 2))) 1 (some (b + 3))) 2 (some (b + 4))) 3 (some (b + 5))), E_key, E_key, E_key, E_key, E_int 8, E_int 8, E_int 8])) 3 18 (ap_len hb rfl) (by omega) dX0_init_57 (by decide) (by decide) (Nat.le_of_ble_eq_true rfl) (ap_app rfl) ?_
  refine aw_putF (ci := 0) (h' := (pre ++ [.inr (0, [.ref (b + 1), .int 0, .ref (b + 6), .ref (b + 7), .ref (b + 8), .int 0, .int 0, .int 0, .null, .null, .null, .int 0]), E_ref 3 4 (va_up (va_up (va_up (va_up (fun _ => none) 0 (some (b + 2))) 1 (some (b + 3))) 2 (some (b + 4))) 3 (some (b + 5))), E_key, E_key, E_key, E_key, E_int 8, E_int 8, E_int 8])) 4 dX0_init_59 rfl lfX0_25 (by decide) (by decide) rfl rfl (ap_at hb rfl) rfl rfl (Nat.le_of_ble_eq_true rfl) (ap_set hb rfl) ?_
  refine aw_aload_n (i := 0) dX0_init_62 rfl rfl ?_
  refine aw_bipush (v := 6) dX0_init_63 (by decide) ?_
  refine an_newI (N := 6) (n := (b + 9)) (h' := (pre ++ [.inr (0, [.ref (b + 1), .int 0, .ref (b + 6), .ref (b + 7), .ref (b + 8), .int 0, .int 0, .int 0, .null, .null, .null, .int 0]), E_ref 3 4 (va_up (va_up (va_up (va_up (fun _ => none) 0 (some (b + 2))) 1 (some (b + 3))) 2 (some (b + 4))) 3 (some (b + 5))), E_key, E_key, E_key, E_key, E_int 8, E_int 8, E_int 8, E_int 6])) 2 12 (ap_len hb rfl) (by omega) dX0_init_65 (by decide) (by decide) (Nat.le_of_ble_eq_true rfl) (ap_app rfl) ?_
  refine aw_putF (ci := 0) (h' := (pre ++ [.inr (0, [.ref (b + 1), .int 0, .ref (b + 6), .ref (b + 7), .ref (b + 8), .int 0, .int 0, .int 0, .ref (b + 9), .null, .null, .int 0]), E_ref 3 4 (va_up (va_up (va_up (va_up (fun _ => none) 0 (some (b + 2))) 1 (some (b + 3))) 2 (some (b + 4))) 3 (some (b + 5))), E_key, E_key, E_key, E_key, E_int 8, E_int 8, E_int 8, E_int 6])) 8 dX0_init_67 rfl lfX0_28 (by decide) (by decide) rfl rfl (ap_at hb rfl) rfl rfl (Nat.le_of_ble_eq_true rfl) (ap_set hb rfl) ?_
  refine aw_aload_n (i := 0) dX0_init_70 rfl rfl ?_
  refine aw_bipush (v := 6) dX0_init_71 (by decide) ?_
  refine an_newI (N := 6) (n := (b + 10)) (h' := (pre ++ [.inr (0, [.ref (b + 1), .int 0, .ref (b + 6), .ref (b + 7), .ref (b + 8), .int 0, .int 0, .int 0, .ref (b + 9), .null, .null, .int 0]), E_ref 3 4 (va_up (va_up (va_up (va_up (fun _ => none) 0 (some (b + 2))) 1 (some (b + 3))) 2 (some (b + 4))) 3 (some (b + 5))), E_key, E_key, E_key, E_key, E_int 8, E_int 8, E_int 8, E_int 6, E_int 6])) 1 6 (ap_len hb rfl) (by omega) dX0_init_73 (by decide) (by decide) (Nat.le_of_ble_eq_true rfl) (ap_app rfl) ?_
  refine aw_putF (ci := 0) (h' := (pre ++ [.inr (0, [.ref (b + 1), .int 0, .ref (b + 6), .ref (b + 7), .ref (b + 8), .int 0, .int 0, .int 0, .ref (b + 9), .ref (b + 10), .null, .int 0]), E_ref 3 4 (va_up (va_up (va_up (va_up (fun _ => none) 0 (some (b + 2))) 1 (some (b + 3))) 2 (some (b + 4))) 3 (some (b + 5))), E_key, E_key, E_key, E_key, E_int 8, E_int 8, E_int 8, E_int 6, E_int 6])) 9 dX0_init_75 rfl lfX0_31 (by decide) (by decide) rfl rfl (ap_at hb rfl) rfl rfl (Nat.le_of_ble_eq_true rfl) (ap_set hb rfl) ?_
  refine aw_aload_n (i := 0) dX0_init_78 rfl rfl ?_
  refine aw_bipush (v := 6) dX0_init_79 (by decide) ?_
  refine an_newI (N := 6) (n := (b + 11)) (h' := (pre ++ [.inr (0, [.ref (b + 1), .int 0, .ref (b + 6), .ref (b + 7), .ref (b + 8), .int 0, .int 0, .int 0, .ref (b + 9), .ref (b + 10), .null, .int 0]), E_ref 3 4 (va_up (va_up (va_up (va_up (fun _ => none) 0 (some (b + 2))) 1 (some (b + 3))) 2 (some (b + 4))) 3 (some (b + 5))), E_key, E_key, E_key, E_key, E_int 8, E_int 8, E_int 8, E_int 6, E_int 6, E_int 6])) 0 0 (ap_len hb rfl) (by omega) dX0_init_81 (by decide) (by decide) (Nat.le_of_ble_eq_true rfl) (ap_app rfl) ?_
  refine aw_putF (ci := 0) (h' := (pre ++ [.inr (0, [.ref (b + 1), .int 0, .ref (b + 6), .ref (b + 7), .ref (b + 8), .int 0, .int 0, .int 0, .ref (b + 9), .ref (b + 10), .ref (b + 11), .int 0]), E_ref 3 4 (va_up (va_up (va_up (va_up (fun _ => none) 0 (some (b + 2))) 1 (some (b + 3))) 2 (some (b + 4))) 3 (some (b + 5))), E_key, E_key, E_key, E_key, E_int 8, E_int 8, E_int 8, E_int 6, E_int 6, E_int 6])) 10 dX0_init_83 rfl lfX0_34 (by decide) (by decide) rfl rfl (ap_at hb rfl) rfl rfl (Nat.le_of_ble_eq_true rfl) (ap_set hb rfl) ?_
  refine aw_aload_n (i := 0) dX0_init_86 rfl rfl ?_
  refine aw_iconst (v := 1) dX0_init_87 (by decide) ?_
  refine aw_put (ci := 0) (h' := (pre ++ [.inr (0, [.ref (b + 1), .int 0, .ref (b + 6), .ref (b + 7), .ref (b + 8), .int 0, .int 1, .int 0, .ref (b + 9), .ref (b + 10), .ref (b + 11), .int 0]), E_ref 3 4 (va_up (va_up (va_up (va_up (fun _ => none) 0 (some (b + 2))) 1 (some (b + 3))) 2 (some (b + 4))) 3 (some (b + 5))), E_key, E_key, E_key, E_key, E_int 8, E_int 8, E_int 8, E_int 6, E_int 6, E_int 6])) 6 dX0_init_88 rfl lfX0_37 (by decide) (by decide) (ap_at hb rfl) rfl rfl (Nat.le_of_ble_eq_true rfl) (ap_set hb rfl) ?_
  refine aw_return dX0_init_91 rfl ?_
  refine ⟨rfl, ?_⟩
  rw [up4]
  rfl
def shC (b : Nat) : List va_E := [.inr (2, [.ref (b + 1), .int (-1), .int 0]), E_int 40]
def sh0 : va_E := .inr (2, [.null, .int 0, .int 0])
set_option maxRecDepth 100000 in
set_option maxHeartbeats 2000000 in
theorem h_X2_init {V : am_V} {d b : Nat} {pre : List va_E} (hb : pre.length = b) (hb9 : b < 900000) : AM V MX2_init (d + 1) 1 40 [.ref b] (pre ++ [sh0]) (fun r h1 => r = none ∧ h1 = pre ++ shC b) := by
  refine AM.of (L := [some (.ref (b + 0))]) (by decide +kernel) (Nat.le_of_ble_eq_true rfl) rfl ?_
  show AW V MX2_init (d + 1) 1 40 0 [some (.ref (b + 0))] [] (pre ++ [.inr (2, [.null, .int 0, .int 0])]) _
  refine aw_aload_n (i := 0) dX2_init_0 rfl rfl ?_
  refine aw_obj dX2_init_1 loX2 (Nat.le_of_ble_eq_true rfl) ?_
  refine aw_aload_n (i := 0) dX2_init_4 rfl rfl ?_
  refine aw_bipush (v := 40) dX2_init_5 (by decide) ?_
  refine an_newI (N := 40) (n := (b + 1)) (h' := (pre ++ [.inr (2, [.null, .int 0, .int 0]), E_int 40])) 0 0 (ap_len hb rfl) (by omega) dX2_init_7 (by decide) (by decide) (Nat.le_of_ble_eq_true rfl) (ap_app rfl) ?_
  refine aw_putF (ci := 2) (h' := (pre ++ [.inr (2, [.ref (b + 1), .int 0, .int 0]), E_int 40])) 0 dX2_init_9 rfl lfX2_9 (by decide) (by decide) rfl rfl (ap_at hb rfl) rfl rfl (Nat.le_of_ble_eq_true rfl) (ap_set hb rfl) ?_
  refine aw_aload_n (i := 0) dX2_init_12 rfl rfl ?_
  refine aw_iconst (v := -1) dX2_init_13 (by decide) ?_
  refine aw_put (ci := 2) (h' := (pre ++ [.inr (2, [.ref (b + 1), .int (-1), .int 0]), E_int 40])) 1 dX2_init_14 rfl lfX2_15 (by decide) (by decide) (ap_at hb rfl) rfl rfl (Nat.le_of_ble_eq_true rfl) (ap_set hb rfl) ?_
  refine aw_return dX2_init_17 rfl ?_
  exact ⟨rfl, rfl⟩
def rdE (u v : Nat) : va_E := .inr (3, [.ref u, .ref v, .int 0, .int 0, .int 0, .int 0, .int 0, .int 0, .int 0, .int 0])
def rd0 : va_E := .inr (3, [.null, .null, .int 0, .int 0, .int 0, .int 0, .int 0, .int 0, .int 0, .int 0])
set_option maxRecDepth 100000 in
set_option maxHeartbeats 2000000 in
theorem h_X3_init {V : am_V} {d b u v : Nat} {pre : List va_E} (hb : pre.length = b) : AM V MX3_init (d + 1) 0 0 [.ref b, .ref u, .ref v] (pre ++ [rd0]) (fun r h1 => r = none ∧ h1 = pre ++ [rdE u v]) := by
  refine AM.of (L := [some (.ref (b + 0)), some (.ref u), some (.ref v)]) (by decide +kernel) (Nat.le_of_ble_eq_true rfl) rfl ?_
  show AW V MX3_init (d + 1) 0 0 0 [some (.ref (b + 0)), some (.ref u), some (.ref v)] [] (pre ++ [.inr (3, [.null, .null, .int 0, .int 0, .int 0, .int 0, .int 0, .int 0, .int 0, .int 0])]) _
  refine aw_aload_n (i := 0) dX3_init_0 rfl rfl ?_
  refine aw_obj dX3_init_1 loX3 (Nat.le_of_ble_eq_true rfl) ?_
  refine aw_aload_n (i := 0) dX3_init_4 rfl rfl ?_
  refine aw_aload_n (i := 1) dX3_init_5 rfl rfl ?_
  refine aw_putF (ci := 3) (h' := (pre ++ [.inr (3, [.ref u, .null, .int 0, .int 0, .int 0, .int 0, .int 0, .int 0, .int 0, .int 0])])) 0 dX3_init_6 rfl lfX3_9 (by decide) (by decide) rfl rfl (ap_at hb rfl) rfl rfl (Nat.le_of_ble_eq_true rfl) (ap_set hb rfl) ?_
  refine aw_aload_n (i := 0) dX3_init_9 rfl rfl ?_
  refine aw_aload_n (i := 2) dX3_init_10 rfl rfl ?_
  refine aw_putF (ci := 3) (h' := (pre ++ [.inr (3, [.ref u, .ref v, .int 0, .int 0, .int 0, .int 0, .int 0, .int 0, .int 0, .int 0])])) 1 dX3_init_11 rfl lfX3_15 (by decide) (by decide) rfl rfl (ap_at hb rfl) rfl rfl (Nat.le_of_ble_eq_true rfl) (ap_set hb rfl) ?_
  refine aw_return dX3_init_14 rfl ?_
  exact ⟨rfl, rfl⟩
def ks0 : va_E := .inr (4, [.null, .int 0, .null, .null, .null, .null, .null, .null, .int 0, .int 0, .null, .null])
def ksC : List va_E := ([.inr (4, [.ref 1, .int 0, .ref 2, .ref 14, .ref 26, .ref 27, .ref 52, .ref 61, .int 0, .int 0, .ref 62, .ref 63]), .inl (1, 160, .inl (fun _ => 0))] ++ (bdC 2 ++ (bdC 14 ++ ([E_ref 4 2 (fun j => [28, 40][j]?), .inl (2, 2, .inl (fun _ => 0))] ++ (bdC 28 ++ (bdC 40 ++ ([E_ref 5 4 (fun j => [53, 55, 57, 59][j]?)] ++ (shC 53 ++ (shC 55 ++ (shC 57 ++ (shC 59 ++ ([rdE 1 14, E_int 8, E_int 41]))))))))))))
set_option maxRecDepth 100000 in
set_option maxHeartbeats 2000000 in
theorem h_X4_init {V : am_V} {d : Nat} : AM V MX4_init (d + 3) 63 775 [.ref 0] [ks0] (fun r h1 => r = none ∧ h1 = ksC) := by
  refine AM.of (L := [some (.ref 0), none]) (by decide +kernel) (Nat.le_of_ble_eq_true rfl) rfl ?_
  show AW V MX4_init (d + 3) 63 775 0 [some (.ref 0), none] [] [.inr (4, [.null, .int 0, .null, .null, .null, .null, .null, .null, .int 0, .int 0, .null, .null])] _
  refine aw_aload_n (i := 0) dX4_init_0 rfl rfl ?_
  refine aw_obj dX4_init_1 loX4 (Nat.le_of_ble_eq_true rfl) ?_
  refine aw_aload_n (i := 0) dX4_init_4 rfl rfl ?_
  refine aw_sipush (v := 160) dX4_init_5 (by decide) ?_
  refine an_newB (N := 160) (n := 1) (h' := ([.inr (4, [.null, .int 0, .null, .null, .null, .null, .null, .null, .int 0, .int 0, .null, .null]), .inl (1, 160, .inl (fun _ => 0))])) 62 615 rfl (Nat.le_of_ble_eq_true rfl) dX4_init_8 (by decide) (by decide) (Nat.le_of_ble_eq_true rfl) rfl ?_
  refine aw_putF (ci := 4) (h' := ([.inr (4, [.ref 1, .int 0, .null, .null, .null, .null, .null, .null, .int 0, .int 0, .null, .null]), .inl (1, 160, .inl (fun _ => 0))])) 0 dX4_init_10 rfl lfX4_9 (by decide) (by decide) rfl rfl rfl rfl rfl (Nat.le_of_ble_eq_true rfl) rfl ?_
  refine aw_aload_n (i := 0) dX4_init_13 rfl rfl ?_
  refine an_new (ci := 0) (N := 12) (n := 2) (fs := [.null, .int 0, .null, .null, .null, .int 0, .int 0, .int 0, .null, .null, .null, .int 0]) (h' := ([.inr (4, [.ref 1, .int 0, .null, .null, .null, .null, .null, .null, .int 0, .int 0, .null, .null]), .inl (1, 160, .inl (fun _ => 0)), .inr (0, [.null, .int 0, .null, .null, .null, .int 0, .int 0, .int 0, .null, .null, .null, .int 0])])) 61 603 rfl (Nat.le_of_ble_eq_true rfl) dX4_init_14 rfl cl_40 ni_0 nn_0 rfl rfl (by decide +kernel) rfl ?_
  refine aw_dup dX4_init_17 rfl ?_
  refine an_callI (M' := MX0_init) (as := []) (h' := ([.inr (4, [.ref 1, .int 0, .null, .null, .null, .null, .null, .null, .int 0, .int 0, .null, .null]), .inl (1, 160, .inl (fun _ => 0))]) ++ bdC 2) 50 521 dX4_init_18 lmX4_15 rfl oX0_init (by decide +kernel) rfl (Nat.le_of_ble_eq_true rfl) (h_X0_init (pre := ([.inr (4, [.ref 1, .int 0, .null, .null, .null, .null, .null, .null, .int 0, .int 0, .null, .null]), .inl (1, 160, .inl (fun _ => 0))])) (b := 2) rfl (Nat.le_of_ble_eq_true rfl)) ?_
  refine aw_putF (ci := 4) (h' := ([.inr (4, [.ref 1, .int 0, .ref 2, .null, .null, .null, .null, .null, .int 0, .int 0, .null, .null]), .inl (1, 160, .inl (fun _ => 0))] ++ (bdC 2))) 2 dX4_init_21 rfl lfX4_16 (by decide) (by decide) rfl rfl rfl rfl rfl (Nat.le_of_ble_eq_true rfl) rfl ?_
  refine aw_aload_n (i := 0) dX4_init_24 rfl rfl ?_
  refine an_new (ci := 0) (N := 12) (n := 14) (fs := [.null, .int 0, .null, .null, .null, .int 0, .int 0, .int 0, .null, .null, .null, .int 0]) (h' := ([.inr (4, [.ref 1, .int 0, .ref 2, .null, .null, .null, .null, .null, .int 0, .int 0, .null, .null]), .inl (1, 160, .inl (fun _ => 0))] ++ (bdC 2 ++ ([.inr (0, [.null, .int 0, .null, .null, .null, .int 0, .int 0, .int 0, .null, .null, .null, .int 0])])))) 49 509 rfl (Nat.le_of_ble_eq_true rfl) dX4_init_25 rfl cl_40 ni_0 nn_0 rfl rfl (by decide +kernel) rfl ?_
  refine aw_dup dX4_init_28 rfl ?_
  refine an_callI (M' := MX0_init) (as := []) (h' := ([.inr (4, [.ref 1, .int 0, .ref 2, .null, .null, .null, .null, .null, .int 0, .int 0, .null, .null]), .inl (1, 160, .inl (fun _ => 0))] ++ (bdC 2)) ++ bdC 14) 38 427 dX4_init_29 lmX4_15 rfl oX0_init (by decide +kernel) rfl (Nat.le_of_ble_eq_true rfl) (h_X0_init (pre := ([.inr (4, [.ref 1, .int 0, .ref 2, .null, .null, .null, .null, .null, .int 0, .int 0, .null, .null]), .inl (1, 160, .inl (fun _ => 0))] ++ (bdC 2))) (b := 14) rfl (Nat.le_of_ble_eq_true rfl)) ?_
  refine aw_putF (ci := 4) (h' := ([.inr (4, [.ref 1, .int 0, .ref 2, .ref 14, .null, .null, .null, .null, .int 0, .int 0, .null, .null]), .inl (1, 160, .inl (fun _ => 0))] ++ (bdC 2 ++ (bdC 14)))) 3 dX4_init_32 rfl lfX4_20 (by decide) (by decide) rfl rfl rfl rfl rfl (Nat.le_of_ble_eq_true rfl) rfl ?_
  refine aw_aload_n (i := 0) dX4_init_35 rfl rfl ?_
  refine aw_iconst (v := 2) dX4_init_36 (by decide) ?_
  refine an_anew (t := 4) (N := 2) (n := 26) (h' := ([.inr (4, [.ref 1, .int 0, .ref 2, .ref 14, .null, .null, .null, .null, .int 0, .int 0, .null, .null]), .inl (1, 160, .inl (fun _ => 0))] ++ (bdC 2 ++ (bdC 14 ++ ([E_ref 4 2 (fun _ => none)]))))) 37 425 rfl (Nat.le_of_ble_eq_true rfl) dX4_init_37 cl_40 (fun _ z => z.2.2.1) rfl (by decide) (by decide) (Nat.le_of_ble_eq_true rfl) rfl ?_
  refine aw_putF (ci := 4) (h' := ([.inr (4, [.ref 1, .int 0, .ref 2, .ref 14, .ref 26, .null, .null, .null, .int 0, .int 0, .null, .null]), .inl (1, 160, .inl (fun _ => 0))] ++ (bdC 2 ++ (bdC 14 ++ ([E_ref 4 2 (fun _ => none)]))))) 4 dX4_init_40 rfl lfX4_23 (by decide) (by decide) rfl rfl rfl rfl rfl (Nat.le_of_ble_eq_true rfl) rfl ?_
  refine aw_aload_n (i := 0) dX4_init_43 rfl rfl ?_
  refine aw_iconst (v := 2) dX4_init_44 (by decide) ?_
  refine an_newZ (N := 2) (n := 27) (h' := ([.inr (4, [.ref 1, .int 0, .ref 2, .ref 14, .ref 26, .null, .null, .null, .int 0, .int 0, .null, .null]), .inl (1, 160, .inl (fun _ => 0))] ++ (bdC 2 ++ (bdC 14 ++ ([E_ref 4 2 (fun _ => none), .inl (2, 2, .inl (fun _ => 0))]))))) 36 423 rfl (Nat.le_of_ble_eq_true rfl) dX4_init_45 (by decide) (by decide) (Nat.le_of_ble_eq_true rfl) rfl ?_
  refine aw_putF (ci := 4) (h' := ([.inr (4, [.ref 1, .int 0, .ref 2, .ref 14, .ref 26, .ref 27, .null, .null, .int 0, .int 0, .null, .null]), .inl (1, 160, .inl (fun _ => 0))] ++ (bdC 2 ++ (bdC 14 ++ ([E_ref 4 2 (fun _ => none), .inl (2, 2, .inl (fun _ => 0))]))))) 5 dX4_init_47 rfl lfX4_27 (by decide) (by decide) rfl rfl rfl rfl rfl (Nat.le_of_ble_eq_true rfl) rfl ?_
  refine aw_iconst (v := 0) dX4_init_50 (by decide) ?_
  refine aw_istore_n (i := 1) (L' := [some (.ref 0), some (.int 0)]) dX4_init_51 rfl (Nat.le_of_ble_eq_true rfl) rfl rfl ?_
  refine aw_iload_n (i := 1) dX4_init_52 rfl rfl ?_
  refine aw_iconst (v := 2) dX4_init_53 (by decide) ?_
  refine aw_icmp_ge (tgt := 76) dX4_init_54 (by decide) (fun z => absurd z (by decide)) (fun _ => ?_)
  refine aw_aload_n (i := 0) dX4_init_57 rfl rfl ?_
  refine aw_get (ci := 4) 4 dX4_init_58 rfl lfX4_23 (by decide) rfl rfl ?_
  refine aw_iload_n (i := 1) dX4_init_61 rfl rfl ?_
  refine an_new (ci := 0) (N := 12) (n := 28) (fs := [.null, .int 0, .null, .null, .null, .int 0, .int 0, .int 0, .null, .null, .null, .int 0]) (h' := ([.inr (4, [.ref 1, .int 0, .ref 2, .ref 14, .ref 26, .ref 27, .null, .null, .int 0, .int 0, .null, .null]), .inl (1, 160, .inl (fun _ => 0))] ++ (bdC 2 ++ (bdC 14 ++ ([E_ref 4 2 (fun _ => none), .inl (2, 2, .inl (fun _ => 0)), .inr (0, [.null, .int 0, .null, .null, .null, .int 0, .int 0, .int 0, .null, .null, .null, .int 0])]))))) 35 411 rfl (Nat.le_of_ble_eq_true rfl) dX4_init_62 rfl cl_40 ni_0 nn_0 rfl rfl (by decide +kernel) rfl ?_
  refine aw_dup dX4_init_65 rfl ?_
  refine an_callI (M' := MX0_init) (as := []) (h' := ([.inr (4, [.ref 1, .int 0, .ref 2, .ref 14, .ref 26, .ref 27, .null, .null, .int 0, .int 0, .null, .null]), .inl (1, 160, .inl (fun _ => 0))] ++ (bdC 2 ++ (bdC 14 ++ ([E_ref 4 2 (fun _ => none), .inl (2, 2, .inl (fun _ => 0))])))) ++ bdC 28) 24 329 dX4_init_66 lmX4_15 rfl oX0_init (by decide +kernel) rfl (Nat.le_of_ble_eq_true rfl) (h_X0_init (pre := ([.inr (4, [.ref 1, .int 0, .ref 2, .ref 14, .ref 26, .ref 27, .null, .null, .int 0, .int 0, .null, .null]), .inl (1, 160, .inl (fun _ => 0))] ++ (bdC 2 ++ (bdC 14 ++ ([E_ref 4 2 (fun _ => none), .inl (2, 2, .inl (fun _ => 0))]))))) (b := 28) rfl (Nat.le_of_ble_eq_true rfl)) ?_
  refine an_aast (t := 4) (n := 2) (ci := 0) (j := 0) (h' := ([.inr (4, [.ref 1, .int 0, .ref 2, .ref 14, .ref 26, .ref 27, .null, .null, .int 0, .int 0, .null, .null]), .inl (1, 160, .inl (fun _ => 0))] ++ (bdC 2 ++ (bdC 14 ++ ([E_ref 4 2 (va_up (fun _ => none) 0 (some 28)), .inl (2, 2, .inl (fun _ => 0))] ++ (bdC 28)))))) dX4_init_69 rfl rfl rfl rfl (by decide) (by decide) (by decide) rfl ?_
  refine aw_iinc (v := 1) (L' := [some (.ref 0), some (.int 1)]) dX4_init_70 rfl (by decide) (Nat.le_of_ble_eq_true rfl) rfl rfl ?_
  refine aw_goto (tgt := 52) dX4_init_73 (by decide) ?_
  refine aw_iload_n (i := 1) dX4_init_52 rfl rfl ?_
  refine aw_iconst (v := 2) dX4_init_53 (by decide) ?_
  refine aw_icmp_ge (tgt := 76) dX4_init_54 (by decide) (fun z => absurd z (by decide)) (fun _ => ?_)
  refine aw_aload_n (i := 0) dX4_init_57 rfl rfl ?_
  refine aw_get (ci := 4) 4 dX4_init_58 rfl lfX4_23 (by decide) rfl rfl ?_
  refine aw_iload_n (i := 1) dX4_init_61 rfl rfl ?_
  refine an_new (ci := 0) (N := 12) (n := 40) (fs := [.null, .int 0, .null, .null, .null, .int 0, .int 0, .int 0, .null, .null, .null, .int 0]) (h' := ([.inr (4, [.ref 1, .int 0, .ref 2, .ref 14, .ref 26, .ref 27, .null, .null, .int 0, .int 0, .null, .null]), .inl (1, 160, .inl (fun _ => 0))] ++ (bdC 2 ++ (bdC 14 ++ ([E_ref 4 2 (va_up (fun _ => none) 0 (some 28)), .inl (2, 2, .inl (fun _ => 0))] ++ (bdC 28 ++ ([.inr (0, [.null, .int 0, .null, .null, .null, .int 0, .int 0, .int 0, .null, .null, .null, .int 0])]))))))) 23 317 rfl (Nat.le_of_ble_eq_true rfl) dX4_init_62 rfl cl_40 ni_0 nn_0 rfl rfl (by decide +kernel) rfl ?_
  refine aw_dup dX4_init_65 rfl ?_
  refine an_callI (M' := MX0_init) (as := []) (h' := ([.inr (4, [.ref 1, .int 0, .ref 2, .ref 14, .ref 26, .ref 27, .null, .null, .int 0, .int 0, .null, .null]), .inl (1, 160, .inl (fun _ => 0))] ++ (bdC 2 ++ (bdC 14 ++ ([E_ref 4 2 (va_up (fun _ => none) 0 (some 28)), .inl (2, 2, .inl (fun _ => 0))] ++ (bdC 28))))) ++ bdC 40) 12 235 dX4_init_66 lmX4_15 rfl oX0_init (by decide +kernel) rfl (Nat.le_of_ble_eq_true rfl) (h_X0_init (pre := ([.inr (4, [.ref 1, .int 0, .ref 2, .ref 14, .ref 26, .ref 27, .null, .null, .int 0, .int 0, .null, .null]), .inl (1, 160, .inl (fun _ => 0))] ++ (bdC 2 ++ (bdC 14 ++ ([E_ref 4 2 (va_up (fun _ => none) 0 (some 28)), .inl (2, 2, .inl (fun _ => 0))] ++ (bdC 28)))))) (b := 40) rfl (Nat.le_of_ble_eq_true rfl)) ?_
  refine an_aast (t := 4) (n := 2) (ci := 0) (j := 1) (h' := ([.inr (4, [.ref 1, .int 0, .ref 2, .ref 14, .ref 26, .ref 27, .null, .null, .int 0, .int 0, .null, .null]), .inl (1, 160, .inl (fun _ => 0))] ++ (bdC 2 ++ (bdC 14 ++ ([E_ref 4 2 (va_up (va_up (fun _ => none) 0 (some 28)) 1 (some 40)), .inl (2, 2, .inl (fun _ => 0))] ++ (bdC 28 ++ (bdC 40))))))) dX4_init_69 rfl rfl rfl rfl (by decide) (by decide) (by decide) rfl ?_
  refine aw_iinc (v := 2) (L' := [some (.ref 0), some (.int 2)]) dX4_init_70 rfl (by decide) (Nat.le_of_ble_eq_true rfl) rfl rfl ?_
  refine aw_goto (tgt := 52) dX4_init_73 (by decide) ?_
  refine aw_iload_n (i := 1) dX4_init_52 rfl rfl ?_
  refine aw_iconst (v := 2) dX4_init_53 (by decide) ?_
  refine aw_icmp_ge (tgt := 76) dX4_init_54 (by decide) (fun _ => ?_) (fun z => absurd (by decide) z)
  refine aw_aload_n (i := 0) dX4_init_76 rfl rfl ?_
  refine aw_iconst (v := 4) dX4_init_77 (by decide) ?_
  refine an_anew (t := 5) (N := 4) (n := 52) (h' := ([.inr (4, [.ref 1, .int 0, .ref 2, .ref 14, .ref 26, .ref 27, .null, .null, .int 0, .int 0, .null, .null]), .inl (1, 160, .inl (fun _ => 0))] ++ (bdC 2 ++ (bdC 14 ++ ([E_ref 4 2 (va_up (va_up (fun _ => none) 0 (some 28)) 1 (some 40)), .inl (2, 2, .inl (fun _ => 0))] ++ (bdC 28 ++ (bdC 40 ++ ([E_ref 5 4 (fun _ => none)])))))))) 11 231 rfl (Nat.le_of_ble_eq_true rfl) dX4_init_78 cl_42 (fun _ z => z.2.2.2.1) rfl (by decide) (by decide) (Nat.le_of_ble_eq_true rfl) rfl ?_
  refine aw_putF (ci := 4) (h' := ([.inr (4, [.ref 1, .int 0, .ref 2, .ref 14, .ref 26, .ref 27, .ref 52, .null, .int 0, .int 0, .null, .null]), .inl (1, 160, .inl (fun _ => 0))] ++ (bdC 2 ++ (bdC 14 ++ ([E_ref 4 2 (va_up (va_up (fun _ => none) 0 (some 28)) 1 (some 40)), .inl (2, 2, .inl (fun _ => 0))] ++ (bdC 28 ++ (bdC 40 ++ ([E_ref 5 4 (fun _ => none)])))))))) 6 dX4_init_81 rfl lfX4_33 (by decide) (by decide) rfl rfl rfl rfl rfl (Nat.le_of_ble_eq_true rfl) rfl ?_
  refine aw_iconst (v := 0) dX4_init_84 (by decide) ?_
  refine aw_istore_n (i := 1) (L' := [some (.ref 0), some (.int 0)]) dX4_init_85 rfl (Nat.le_of_ble_eq_true rfl) rfl rfl ?_
  refine aw_iload_n (i := 1) dX4_init_86 rfl rfl ?_
  refine aw_iconst (v := 4) dX4_init_87 (by decide) ?_
  refine aw_icmp_ge (tgt := 110) dX4_init_88 (by decide) (fun z => absurd z (by decide)) (fun _ => ?_)
  refine aw_aload_n (i := 0) dX4_init_91 rfl rfl ?_
  refine aw_get (ci := 4) 6 dX4_init_92 rfl lfX4_33 (by decide) rfl rfl ?_
  refine aw_iload_n (i := 1) dX4_init_95 rfl rfl ?_
  refine an_new (ci := 2) (N := 3) (n := 53) (fs := [.null, .int 0, .int 0]) (h' := ([.inr (4, [.ref 1, .int 0, .ref 2, .ref 14, .ref 26, .ref 27, .ref 52, .null, .int 0, .int 0, .null, .null]), .inl (1, 160, .inl (fun _ => 0))] ++ (bdC 2 ++ (bdC 14 ++ ([E_ref 4 2 (va_up (va_up (fun _ => none) 0 (some 28)) 1 (some 40)), .inl (2, 2, .inl (fun _ => 0))] ++ (bdC 28 ++ (bdC 40 ++ ([E_ref 5 4 (fun _ => none), .inr (2, [.null, .int 0, .int 0])])))))))) 10 228 rfl (Nat.le_of_ble_eq_true rfl) dX4_init_96 rfl cl_42 ni_2 nn_2 rfl rfl (by decide +kernel) rfl ?_
  refine aw_dup dX4_init_99 rfl ?_
  refine an_callI (M' := MX2_init) (as := []) (h' := ([.inr (4, [.ref 1, .int 0, .ref 2, .ref 14, .ref 26, .ref 27, .ref 52, .null, .int 0, .int 0, .null, .null]), .inl (1, 160, .inl (fun _ => 0))] ++ (bdC 2 ++ (bdC 14 ++ ([E_ref 4 2 (va_up (va_up (fun _ => none) 0 (some 28)) 1 (some 40)), .inl (2, 2, .inl (fun _ => 0))] ++ (bdC 28 ++ (bdC 40 ++ ([E_ref 5 4 (fun _ => none)]))))))) ++ shC 53) 9 188 dX4_init_100 lmX4_37 rfl oX2_init (by decide +kernel) rfl (Nat.le_of_ble_eq_true rfl) (h_X2_init (pre := ([.inr (4, [.ref 1, .int 0, .ref 2, .ref 14, .ref 26, .ref 27, .ref 52, .null, .int 0, .int 0, .null, .null]), .inl (1, 160, .inl (fun _ => 0))] ++ (bdC 2 ++ (bdC 14 ++ ([E_ref 4 2 (va_up (va_up (fun _ => none) 0 (some 28)) 1 (some 40)), .inl (2, 2, .inl (fun _ => 0))] ++ (bdC 28 ++ (bdC 40 ++ ([E_ref 5 4 (fun _ => none)])))))))) (b := 53) rfl (Nat.le_of_ble_eq_true rfl)) ?_
  refine an_aast (t := 5) (n := 4) (ci := 2) (j := 0) (h' := ([.inr (4, [.ref 1, .int 0, .ref 2, .ref 14, .ref 26, .ref 27, .ref 52, .null, .int 0, .int 0, .null, .null]), .inl (1, 160, .inl (fun _ => 0))] ++ (bdC 2 ++ (bdC 14 ++ ([E_ref 4 2 (va_up (va_up (fun _ => none) 0 (some 28)) 1 (some 40)), .inl (2, 2, .inl (fun _ => 0))] ++ (bdC 28 ++ (bdC 40 ++ ([E_ref 5 4 (va_up (fun _ => none) 0 (some 53))] ++ (shC 53))))))))) dX4_init_103 rfl rfl rfl rfl (by decide) (by decide) (by decide) rfl ?_
  refine aw_iinc (v := 1) (L' := [some (.ref 0), some (.int 1)]) dX4_init_104 rfl (by decide) (Nat.le_of_ble_eq_true rfl) rfl rfl ?_
  refine aw_goto (tgt := 86) dX4_init_107 (by decide) ?_
  refine aw_iload_n (i := 1) dX4_init_86 rfl rfl ?_
  refine aw_iconst (v := 4) dX4_init_87 (by decide) ?_
  refine aw_icmp_ge (tgt := 110) dX4_init_88 (by decide) (fun z => absurd z (by decide)) (fun _ => ?_)
  refine aw_aload_n (i := 0) dX4_init_91 rfl rfl ?_
  refine aw_get (ci := 4) 6 dX4_init_92 rfl lfX4_33 (by decide) rfl rfl ?_
  refine aw_iload_n (i := 1) dX4_init_95 rfl rfl ?_
  refine an_new (ci := 2) (N := 3) (n := 55) (fs := [.null, .int 0, .int 0]) (h' := ([.inr (4, [.ref 1, .int 0, .ref 2, .ref 14, .ref 26, .ref 27, .ref 52, .null, .int 0, .int 0, .null, .null]), .inl (1, 160, .inl (fun _ => 0))] ++ (bdC 2 ++ (bdC 14 ++ ([E_ref 4 2 (va_up (va_up (fun _ => none) 0 (some 28)) 1 (some 40)), .inl (2, 2, .inl (fun _ => 0))] ++ (bdC 28 ++ (bdC 40 ++ ([E_ref 5 4 (va_up (fun _ => none) 0 (some 53))] ++ (shC 53 ++ ([.inr (2, [.null, .int 0, .int 0])])))))))))) 8 185 rfl (Nat.le_of_ble_eq_true rfl) dX4_init_96 rfl cl_42 ni_2 nn_2 rfl rfl (by decide +kernel) rfl ?_
  refine aw_dup dX4_init_99 rfl ?_
  refine an_callI (M' := MX2_init) (as := []) (h' := ([.inr (4, [.ref 1, .int 0, .ref 2, .ref 14, .ref 26, .ref 27, .ref 52, .null, .int 0, .int 0, .null, .null]), .inl (1, 160, .inl (fun _ => 0))] ++ (bdC 2 ++ (bdC 14 ++ ([E_ref 4 2 (va_up (va_up (fun _ => none) 0 (some 28)) 1 (some 40)), .inl (2, 2, .inl (fun _ => 0))] ++ (bdC 28 ++ (bdC 40 ++ ([E_ref 5 4 (va_up (fun _ => none) 0 (some 53))] ++ (shC 53)))))))) ++ shC 55) 7 145 dX4_init_100 lmX4_37 rfl oX2_init (by decide +kernel) rfl (Nat.le_of_ble_eq_true rfl) (h_X2_init (pre := ([.inr (4, [.ref 1, .int 0, .ref 2, .ref 14, .ref 26, .ref 27, .ref 52, .null, .int 0, .int 0, .null, .null]), .inl (1, 160, .inl (fun _ => 0))] ++ (bdC 2 ++ (bdC 14 ++ ([E_ref 4 2 (va_up (va_up (fun _ => none) 0 (some 28)) 1 (some 40)), .inl (2, 2, .inl (fun _ => 0))] ++ (bdC 28 ++ (bdC 40 ++ ([E_ref 5 4 (va_up (fun _ => none) 0 (some 53))] ++ (shC 53))))))))) (b := 55) rfl (Nat.le_of_ble_eq_true rfl)) ?_
  refine an_aast (t := 5) (n := 4) (ci := 2) (j := 1) (h' := ([.inr (4, [.ref 1, .int 0, .ref 2, .ref 14, .ref 26, .ref 27, .ref 52, .null, .int 0, .int 0, .null, .null]), .inl (1, 160, .inl (fun _ => 0))] ++ (bdC 2 ++ (bdC 14 ++ ([E_ref 4 2 (va_up (va_up (fun _ => none) 0 (some 28)) 1 (some 40)), .inl (2, 2, .inl (fun _ => 0))] ++ (bdC 28 ++ (bdC 40 ++ ([E_ref 5 4 (va_up (va_up (fun _ => none) 0 (some 53)) 1 (some 55))] ++ (shC 53 ++ (shC 55)))))))))) dX4_init_103 rfl rfl rfl rfl (by decide) (by decide) (by decide) rfl ?_
  refine aw_iinc (v := 2) (L' := [some (.ref 0), some (.int 2)]) dX4_init_104 rfl (by decide) (Nat.le_of_ble_eq_true rfl) rfl rfl ?_
  refine aw_goto (tgt := 86) dX4_init_107 (by decide) ?_
  refine aw_iload_n (i := 1) dX4_init_86 rfl rfl ?_
  refine aw_iconst (v := 4) dX4_init_87 (by decide) ?_
  refine aw_icmp_ge (tgt := 110) dX4_init_88 (by decide) (fun z => absurd z (by decide)) (fun _ => ?_)
  refine aw_aload_n (i := 0) dX4_init_91 rfl rfl ?_
  refine aw_get (ci := 4) 6 dX4_init_92 rfl lfX4_33 (by decide) rfl rfl ?_
  refine aw_iload_n (i := 1) dX4_init_95 rfl rfl ?_
  refine an_new (ci := 2) (N := 3) (n := 57) (fs := [.null, .int 0, .int 0]) (h' := ([.inr (4, [.ref 1, .int 0, .ref 2, .ref 14, .ref 26, .ref 27, .ref 52, .null, .int 0, .int 0, .null, .null]), .inl (1, 160, .inl (fun _ => 0))] ++ (bdC 2 ++ (bdC 14 ++ ([E_ref 4 2 (va_up (va_up (fun _ => none) 0 (some 28)) 1 (some 40)), .inl (2, 2, .inl (fun _ => 0))] ++ (bdC 28 ++ (bdC 40 ++ ([E_ref 5 4 (va_up (va_up (fun _ => none) 0 (some 53)) 1 (some 55))] ++ (shC 53 ++ (shC 55 ++ ([.inr (2, [.null, .int 0, .int 0])]))))))))))) 6 142 rfl (Nat.le_of_ble_eq_true rfl) dX4_init_96 rfl cl_42 ni_2 nn_2 rfl rfl (by decide +kernel) rfl ?_
  refine aw_dup dX4_init_99 rfl ?_
  refine an_callI (M' := MX2_init) (as := []) (h' := ([.inr (4, [.ref 1, .int 0, .ref 2, .ref 14, .ref 26, .ref 27, .ref 52, .null, .int 0, .int 0, .null, .null]), .inl (1, 160, .inl (fun _ => 0))] ++ (bdC 2 ++ (bdC 14 ++ ([E_ref 4 2 (va_up (va_up (fun _ => none) 0 (some 28)) 1 (some 40)), .inl (2, 2, .inl (fun _ => 0))] ++ (bdC 28 ++ (bdC 40 ++ ([E_ref 5 4 (va_up (va_up (fun _ => none) 0 (some 53)) 1 (some 55))] ++ (shC 53 ++ (shC 55))))))))) ++ shC 57) 5 102 dX4_init_100 lmX4_37 rfl oX2_init (by decide +kernel) rfl (Nat.le_of_ble_eq_true rfl) (h_X2_init (pre := ([.inr (4, [.ref 1, .int 0, .ref 2, .ref 14, .ref 26, .ref 27, .ref 52, .null, .int 0, .int 0, .null, .null]), .inl (1, 160, .inl (fun _ => 0))] ++ (bdC 2 ++ (bdC 14 ++ ([E_ref 4 2 (va_up (va_up (fun _ => none) 0 (some 28)) 1 (some 40)), .inl (2, 2, .inl (fun _ => 0))] ++ (bdC 28 ++ (bdC 40 ++ ([E_ref 5 4 (va_up (va_up (fun _ => none) 0 (some 53)) 1 (some 55))] ++ (shC 53 ++ (shC 55)))))))))) (b := 57) rfl (Nat.le_of_ble_eq_true rfl)) ?_
  refine an_aast (t := 5) (n := 4) (ci := 2) (j := 2) (h' := ([.inr (4, [.ref 1, .int 0, .ref 2, .ref 14, .ref 26, .ref 27, .ref 52, .null, .int 0, .int 0, .null, .null]), .inl (1, 160, .inl (fun _ => 0))] ++ (bdC 2 ++ (bdC 14 ++ ([E_ref 4 2 (va_up (va_up (fun _ => none) 0 (some 28)) 1 (some 40)), .inl (2, 2, .inl (fun _ => 0))] ++ (bdC 28 ++ (bdC 40 ++ ([E_ref 5 4 (va_up (va_up (va_up (fun _ => none) 0 (some 53)) 1 (some 55)) 2 (some 57))] ++ (shC 53 ++ (shC 55 ++ (shC 57))))))))))) dX4_init_103 rfl rfl rfl rfl (by decide) (by decide) (by decide) rfl ?_
  refine aw_iinc (v := 3) (L' := [some (.ref 0), some (.int 3)]) dX4_init_104 rfl (by decide) (Nat.le_of_ble_eq_true rfl) rfl rfl ?_
  refine aw_goto (tgt := 86) dX4_init_107 (by decide) ?_
  refine aw_iload_n (i := 1) dX4_init_86 rfl rfl ?_
  refine aw_iconst (v := 4) dX4_init_87 (by decide) ?_
  refine aw_icmp_ge (tgt := 110) dX4_init_88 (by decide) (fun z => absurd z (by decide)) (fun _ => ?_)
  refine aw_aload_n (i := 0) dX4_init_91 rfl rfl ?_
  refine aw_get (ci := 4) 6 dX4_init_92 rfl lfX4_33 (by decide) rfl rfl ?_
  refine aw_iload_n (i := 1) dX4_init_95 rfl rfl ?_
  refine an_new (ci := 2) (N := 3) (n := 59) (fs := [.null, .int 0, .int 0]) (h' := ([.inr (4, [.ref 1, .int 0, .ref 2, .ref 14, .ref 26, .ref 27, .ref 52, .null, .int 0, .int 0, .null, .null]), .inl (1, 160, .inl (fun _ => 0))] ++ (bdC 2 ++ (bdC 14 ++ ([E_ref 4 2 (va_up (va_up (fun _ => none) 0 (some 28)) 1 (some 40)), .inl (2, 2, .inl (fun _ => 0))] ++ (bdC 28 ++ (bdC 40 ++ ([E_ref 5 4 (va_up (va_up (va_up (fun _ => none) 0 (some 53)) 1 (some 55)) 2 (some 57))] ++ (shC 53 ++ (shC 55 ++ (shC 57 ++ ([.inr (2, [.null, .int 0, .int 0])])))))))))))) 4 99 rfl (Nat.le_of_ble_eq_true rfl) dX4_init_96 rfl cl_42 ni_2 nn_2 rfl rfl (by decide +kernel) rfl ?_
  refine aw_dup dX4_init_99 rfl ?_
  refine an_callI (M' := MX2_init) (as := []) (h' := ([.inr (4, [.ref 1, .int 0, .ref 2, .ref 14, .ref 26, .ref 27, .ref 52, .null, .int 0, .int 0, .null, .null]), .inl (1, 160, .inl (fun _ => 0))] ++ (bdC 2 ++ (bdC 14 ++ ([E_ref 4 2 (va_up (va_up (fun _ => none) 0 (some 28)) 1 (some 40)), .inl (2, 2, .inl (fun _ => 0))] ++ (bdC 28 ++ (bdC 40 ++ ([E_ref 5 4 (va_up (va_up (va_up (fun _ => none) 0 (some 53)) 1 (some 55)) 2 (some 57))] ++ (shC 53 ++ (shC 55 ++ (shC 57)))))))))) ++ shC 59) 3 59 dX4_init_100 lmX4_37 rfl oX2_init (by decide +kernel) rfl (Nat.le_of_ble_eq_true rfl) (h_X2_init (pre := ([.inr (4, [.ref 1, .int 0, .ref 2, .ref 14, .ref 26, .ref 27, .ref 52, .null, .int 0, .int 0, .null, .null]), .inl (1, 160, .inl (fun _ => 0))] ++ (bdC 2 ++ (bdC 14 ++ ([E_ref 4 2 (va_up (va_up (fun _ => none) 0 (some 28)) 1 (some 40)), .inl (2, 2, .inl (fun _ => 0))] ++ (bdC 28 ++ (bdC 40 ++ ([E_ref 5 4 (va_up (va_up (va_up (fun _ => none) 0 (some 53)) 1 (some 55)) 2 (some 57))] ++ (shC 53 ++ (shC 55 ++ (shC 57))))))))))) (b := 59) rfl (Nat.le_of_ble_eq_true rfl)) ?_
  refine an_aast (t := 5) (n := 4) (ci := 2) (j := 3) (h' := ([.inr (4, [.ref 1, .int 0, .ref 2, .ref 14, .ref 26, .ref 27, .ref 52, .null, .int 0, .int 0, .null, .null]), .inl (1, 160, .inl (fun _ => 0))] ++ (bdC 2 ++ (bdC 14 ++ ([E_ref 4 2 (va_up (va_up (fun _ => none) 0 (some 28)) 1 (some 40)), .inl (2, 2, .inl (fun _ => 0))] ++ (bdC 28 ++ (bdC 40 ++ ([E_ref 5 4 (va_up (va_up (va_up (va_up (fun _ => none) 0 (some 53)) 1 (some 55)) 2 (some 57)) 3 (some 59))] ++ (shC 53 ++ (shC 55 ++ (shC 57 ++ (shC 59)))))))))))) dX4_init_103 rfl rfl rfl rfl (by decide) (by decide) (by decide) rfl ?_
  refine aw_iinc (v := 4) (L' := [some (.ref 0), some (.int 4)]) dX4_init_104 rfl (by decide) (Nat.le_of_ble_eq_true rfl) rfl rfl ?_
  refine aw_goto (tgt := 86) dX4_init_107 (by decide) ?_
  refine aw_iload_n (i := 1) dX4_init_86 rfl rfl ?_
  refine aw_iconst (v := 4) dX4_init_87 (by decide) ?_
  refine aw_icmp_ge (tgt := 110) dX4_init_88 (by decide) (fun _ => ?_) (fun z => absurd (by decide) z)
  refine aw_aload_n (i := 0) dX4_init_110 rfl rfl ?_
  refine an_new (ci := 3) (N := 10) (n := 61) (fs := [.null, .null, .int 0, .int 0, .int 0, .int 0, .int 0, .int 0, .int 0, .int 0]) (h' := ([.inr (4, [.ref 1, .int 0, .ref 2, .ref 14, .ref 26, .ref 27, .ref 52, .null, .int 0, .int 0, .null, .null]), .inl (1, 160, .inl (fun _ => 0))] ++ (bdC 2 ++ (bdC 14 ++ ([E_ref 4 2 (va_up (va_up (fun _ => none) 0 (some 28)) 1 (some 40)), .inl (2, 2, .inl (fun _ => 0))] ++ (bdC 28 ++ (bdC 40 ++ ([E_ref 5 4 (va_up (va_up (va_up (va_up (fun _ => none) 0 (some 53)) 1 (some 55)) 2 (some 57)) 3 (some 59))] ++ (shC 53 ++ (shC 55 ++ (shC 57 ++ (shC 59 ++ ([.inr (3, [.null, .null, .int 0, .int 0, .int 0, .int 0, .int 0, .int 0, .int 0, .int 0])]))))))))))))) 2 49 rfl (Nat.le_of_ble_eq_true rfl) dX4_init_111 rfl cl_43 ni_3 nn_3 rfl rfl (by decide +kernel) rfl ?_
  refine aw_dup dX4_init_114 rfl ?_
  refine aw_aload_n (i := 0) dX4_init_115 rfl rfl ?_
  refine aw_get (ci := 4) 0 dX4_init_116 rfl lfX4_9 (by decide) rfl rfl ?_
  refine aw_aload_n (i := 0) dX4_init_119 rfl rfl ?_
  refine aw_get (ci := 4) 3 dX4_init_120 rfl lfX4_20 (by decide) rfl rfl ?_
  refine an_callI (M' := MX3_init) (as := [.ref 1, .ref 14]) (h' := ([.inr (4, [.ref 1, .int 0, .ref 2, .ref 14, .ref 26, .ref 27, .ref 52, .null, .int 0, .int 0, .null, .null]), .inl (1, 160, .inl (fun _ => 0))] ++ (bdC 2 ++ (bdC 14 ++ ([E_ref 4 2 (va_up (va_up (fun _ => none) 0 (some 28)) 1 (some 40)), .inl (2, 2, .inl (fun _ => 0))] ++ (bdC 28 ++ (bdC 40 ++ ([E_ref 5 4 (va_up (va_up (va_up (va_up (fun _ => none) 0 (some 53)) 1 (some 55)) 2 (some 57)) 3 (some 59))] ++ (shC 53 ++ (shC 55 ++ (shC 57 ++ (shC 59))))))))))) ++ [rdE 1 14]) 2 49 dX4_init_123 lmX4_40 rfl oX3_init (by decide +kernel) rfl (Nat.le_of_ble_eq_true rfl) (h_X3_init (pre := ([.inr (4, [.ref 1, .int 0, .ref 2, .ref 14, .ref 26, .ref 27, .ref 52, .null, .int 0, .int 0, .null, .null]), .inl (1, 160, .inl (fun _ => 0))] ++ (bdC 2 ++ (bdC 14 ++ ([E_ref 4 2 (va_up (va_up (fun _ => none) 0 (some 28)) 1 (some 40)), .inl (2, 2, .inl (fun _ => 0))] ++ (bdC 28 ++ (bdC 40 ++ ([E_ref 5 4 (va_up (va_up (va_up (va_up (fun _ => none) 0 (some 53)) 1 (some 55)) 2 (some 57)) 3 (some 59))] ++ (shC 53 ++ (shC 55 ++ (shC 57 ++ (shC 59)))))))))))) (b := 61) rfl) ?_
  refine aw_putF (ci := 4) (h' := ([.inr (4, [.ref 1, .int 0, .ref 2, .ref 14, .ref 26, .ref 27, .ref 52, .ref 61, .int 0, .int 0, .null, .null]), .inl (1, 160, .inl (fun _ => 0))] ++ (bdC 2 ++ (bdC 14 ++ ([E_ref 4 2 (va_up (va_up (fun _ => none) 0 (some 28)) 1 (some 40)), .inl (2, 2, .inl (fun _ => 0))] ++ (bdC 28 ++ (bdC 40 ++ ([E_ref 5 4 (va_up (va_up (va_up (va_up (fun _ => none) 0 (some 53)) 1 (some 55)) 2 (some 57)) 3 (some 59))] ++ (shC 53 ++ (shC 55 ++ (shC 57 ++ (shC 59 ++ ([rdE 1 14]))))))))))))) 7 dX4_init_126 rfl lfX4_43 (by decide) (by decide) rfl rfl rfl rfl rfl (Nat.le_of_ble_eq_true rfl) rfl ?_
  refine aw_aload_n (i := 0) dX4_init_129 rfl rfl ?_
  refine aw_bipush (v := 8) dX4_init_130 (by decide) ?_
  refine an_newI (N := 8) (n := 62) (h' := ([.inr (4, [.ref 1, .int 0, .ref 2, .ref 14, .ref 26, .ref 27, .ref 52, .ref 61, .int 0, .int 0, .null, .null]), .inl (1, 160, .inl (fun _ => 0))] ++ (bdC 2 ++ (bdC 14 ++ ([E_ref 4 2 (va_up (va_up (fun _ => none) 0 (some 28)) 1 (some 40)), .inl (2, 2, .inl (fun _ => 0))] ++ (bdC 28 ++ (bdC 40 ++ ([E_ref 5 4 (va_up (va_up (va_up (va_up (fun _ => none) 0 (some 53)) 1 (some 55)) 2 (some 57)) 3 (some 59))] ++ (shC 53 ++ (shC 55 ++ (shC 57 ++ (shC 59 ++ ([rdE 1 14, E_int 8]))))))))))))) 1 41 rfl (Nat.le_of_ble_eq_true rfl) dX4_init_132 (by decide) (by decide) (Nat.le_of_ble_eq_true rfl) rfl ?_
  refine aw_putF (ci := 4) (h' := ([.inr (4, [.ref 1, .int 0, .ref 2, .ref 14, .ref 26, .ref 27, .ref 52, .ref 61, .int 0, .int 0, .ref 62, .null]), .inl (1, 160, .inl (fun _ => 0))] ++ (bdC 2 ++ (bdC 14 ++ ([E_ref 4 2 (va_up (va_up (fun _ => none) 0 (some 28)) 1 (some 40)), .inl (2, 2, .inl (fun _ => 0))] ++ (bdC 28 ++ (bdC 40 ++ ([E_ref 5 4 (va_up (va_up (va_up (va_up (fun _ => none) 0 (some 53)) 1 (some 55)) 2 (some 57)) 3 (some 59))] ++ (shC 53 ++ (shC 55 ++ (shC 57 ++ (shC 59 ++ ([rdE 1 14, E_int 8]))))))))))))) 10 dX4_init_134 rfl lfX4_47 (by decide) (by decide) rfl rfl rfl rfl rfl (Nat.le_of_ble_eq_true rfl) rfl ?_
  refine aw_aload_n (i := 0) dX4_init_137 rfl rfl ?_
  refine aw_bipush (v := 41) dX4_init_138 (by decide) ?_
  refine an_newI (N := 41) (n := 63) (h' := ([.inr (4, [.ref 1, .int 0, .ref 2, .ref 14, .ref 26, .ref 27, .ref 52, .ref 61, .int 0, .int 0, .ref 62, .null]), .inl (1, 160, .inl (fun _ => 0))] ++ (bdC 2 ++ (bdC 14 ++ ([E_ref 4 2 (va_up (va_up (fun _ => none) 0 (some 28)) 1 (some 40)), .inl (2, 2, .inl (fun _ => 0))] ++ (bdC 28 ++ (bdC 40 ++ ([E_ref 5 4 (va_up (va_up (va_up (va_up (fun _ => none) 0 (some 53)) 1 (some 55)) 2 (some 57)) 3 (some 59))] ++ (shC 53 ++ (shC 55 ++ (shC 57 ++ (shC 59 ++ ([rdE 1 14, E_int 8, E_int 41]))))))))))))) 0 0 rfl (Nat.le_of_ble_eq_true rfl) dX4_init_140 (by decide) (by decide) (Nat.le_of_ble_eq_true rfl) rfl ?_
  refine aw_putF (ci := 4) (h' := ([.inr (4, [.ref 1, .int 0, .ref 2, .ref 14, .ref 26, .ref 27, .ref 52, .ref 61, .int 0, .int 0, .ref 62, .ref 63]), .inl (1, 160, .inl (fun _ => 0))] ++ (bdC 2 ++ (bdC 14 ++ ([E_ref 4 2 (va_up (va_up (fun _ => none) 0 (some 28)) 1 (some 40)), .inl (2, 2, .inl (fun _ => 0))] ++ (bdC 28 ++ (bdC 40 ++ ([E_ref 5 4 (va_up (va_up (va_up (va_up (fun _ => none) 0 (some 53)) 1 (some 55)) 2 (some 57)) 3 (some 59))] ++ (shC 53 ++ (shC 55 ++ (shC 57 ++ (shC 59 ++ ([rdE 1 14, E_int 8, E_int 41]))))))))))))) 11 dX4_init_142 rfl lfX4_51 (by decide) (by decide) rfl rfl rfl rfl rfl (Nat.le_of_ble_eq_true rfl) rfl ?_
  refine aw_return dX4_init_145 rfl ?_
  refine ⟨rfl, ?_⟩
  rw [up2q, up4]
  rfl
def mdC (b : Nat) : List va_E := [.inr (5, [.ref (b + 1), .ref (b + 2), .ref (b + 3), .ref (b + 4), .int 0, .int 0, .ref (b + 5), .int 0, .int 0, .int 0, .int 0, .int 0, .int 0, .int 0, .ref (b + 6), .int 0, .int 0, .int 0, .int 0, .long 0, .long 0, .long 0, .ref (b + 7), .ref (b + 8), .ref (b + 9), .ref (b + 10), .ref (b + 11), .int 0, .ref (b + 12)]), E_int 225, E_int 75, .inl (2, 2, .inl (fun _ => 0)), E_int 75, E_int 160, E_int 4, E_int 41, E_int 41, E_int 4, E_int 4, E_int 160, E_int 75]
def md0 : va_E := .inr (5, [.null, .null, .null, .null, .int 0, .int 0, .null, .int 0, .int 0, .int 0, .int 0, .int 0, .int 0, .int 0, .null, .int 0, .int 0, .int 0, .int 0, .long 0, .long 0, .long 0, .null, .null, .null, .null, .null, .int 0, .null])
set_option maxRecDepth 100000 in
set_option maxHeartbeats 2000000 in
theorem h_X5_make {V : am_V} {d b : Nat} {pre : List va_E} {R : Option Value → List va_E → Prop} (hb : pre.length = b) (hb9 : b < 900000) (kk : AW V MX5_init (d + 1) 0 0 99 [some (.ref b), none] [] (pre ++ mdC b) R) : AW V MX5_init (d + 1) 12 866 0 [some (.ref b), none] [] (pre ++ [md0]) R := by
  show AW V MX5_init (d + 1) 12 866 0 [some (.ref (b + 0)), none] [] (pre ++ [.inr (5, [.null, .null, .null, .null, .int 0, .int 0, .null, .int 0, .int 0, .int 0, .int 0, .int 0, .int 0, .int 0, .null, .int 0, .int 0, .int 0, .int 0, .long 0, .long 0, .long 0, .null, .null, .null, .null, .null, .int 0, .null])]) R
  refine aw_aload_n (i := 0) dX5_init_0 rfl rfl ?_
  refine aw_obj dX5_init_1 loX5 (Nat.le_of_ble_eq_true rfl) ?_
  refine aw_aload_n (i := 0) dX5_init_4 rfl rfl ?_
  refine aw_sipush (v := 225) dX5_init_5 (by decide) ?_
  refine an_newI (N := 225) (n := (b + 1)) (h' := (pre ++ [.inr (5, [.null, .null, .null, .null, .int 0, .int 0, .null, .int 0, .int 0, .int 0, .int 0, .int 0, .int 0, .int 0, .null, .int 0, .int 0, .int 0, .int 0, .long 0, .long 0, .long 0, .null, .null, .null, .null, .null, .int 0, .null]), E_int 225])) 11 641 (ap_len hb rfl) (by omega) dX5_init_8 (by decide) (by decide) (Nat.le_of_ble_eq_true rfl) (ap_app rfl) ?_
  refine aw_putF (ci := 5) (h' := (pre ++ [.inr (5, [.ref (b + 1), .null, .null, .null, .int 0, .int 0, .null, .int 0, .int 0, .int 0, .int 0, .int 0, .int 0, .int 0, .null, .int 0, .int 0, .int 0, .int 0, .long 0, .long 0, .long 0, .null, .null, .null, .null, .null, .int 0, .null]), E_int 225])) 0 dX5_init_10 rfl lfX5_7 (by decide) (by decide) rfl rfl (ap_at hb rfl) rfl rfl (Nat.le_of_ble_eq_true rfl) (ap_set hb rfl) ?_
  refine aw_aload_n (i := 0) dX5_init_13 rfl rfl ?_
  refine aw_bipush (v := 75) dX5_init_14 (by decide) ?_
  refine an_newI (N := 75) (n := (b + 2)) (h' := (pre ++ [.inr (5, [.ref (b + 1), .null, .null, .null, .int 0, .int 0, .null, .int 0, .int 0, .int 0, .int 0, .int 0, .int 0, .int 0, .null, .int 0, .int 0, .int 0, .int 0, .long 0, .long 0, .long 0, .null, .null, .null, .null, .null, .int 0, .null]), E_int 225, E_int 75])) 10 566 (ap_len hb rfl) (by omega) dX5_init_16 (by decide) (by decide) (Nat.le_of_ble_eq_true rfl) (ap_app rfl) ?_
  refine aw_putF (ci := 5) (h' := (pre ++ [.inr (5, [.ref (b + 1), .ref (b + 2), .null, .null, .int 0, .int 0, .null, .int 0, .int 0, .int 0, .int 0, .int 0, .int 0, .int 0, .null, .int 0, .int 0, .int 0, .int 0, .long 0, .long 0, .long 0, .null, .null, .null, .null, .null, .int 0, .null]), E_int 225, E_int 75])) 1 dX5_init_18 rfl lfX5_13 (by decide) (by decide) rfl rfl (ap_at hb rfl) rfl rfl (Nat.le_of_ble_eq_true rfl) (ap_set hb rfl) ?_
  refine aw_aload_n (i := 0) dX5_init_21 rfl rfl ?_
  refine aw_iconst (v := 2) dX5_init_22 (by decide) ?_
  refine an_newZ (N := 2) (n := (b + 3)) (h' := (pre ++ [.inr (5, [.ref (b + 1), .ref (b + 2), .null, .null, .int 0, .int 0, .null, .int 0, .int 0, .int 0, .int 0, .int 0, .int 0, .int 0, .null, .int 0, .int 0, .int 0, .int 0, .long 0, .long 0, .long 0, .null, .null, .null, .null, .null, .int 0, .null]), E_int 225, E_int 75, .inl (2, 2, .inl (fun _ => 0))])) 9 564 (ap_len hb rfl) (by omega) dX5_init_23 (by decide) (by decide) (Nat.le_of_ble_eq_true rfl) (ap_app rfl) ?_
  refine aw_putF (ci := 5) (h' := (pre ++ [.inr (5, [.ref (b + 1), .ref (b + 2), .ref (b + 3), .null, .int 0, .int 0, .null, .int 0, .int 0, .int 0, .int 0, .int 0, .int 0, .int 0, .null, .int 0, .int 0, .int 0, .int 0, .long 0, .long 0, .long 0, .null, .null, .null, .null, .null, .int 0, .null]), E_int 225, E_int 75, .inl (2, 2, .inl (fun _ => 0))])) 2 dX5_init_25 rfl lfX5_16 (by decide) (by decide) rfl rfl (ap_at hb rfl) rfl rfl (Nat.le_of_ble_eq_true rfl) (ap_set hb rfl) ?_
  refine aw_aload_n (i := 0) dX5_init_28 rfl rfl ?_
  refine aw_bipush (v := 75) dX5_init_29 (by decide) ?_
  refine an_newI (N := 75) (n := (b + 4)) (h' := (pre ++ [.inr (5, [.ref (b + 1), .ref (b + 2), .ref (b + 3), .null, .int 0, .int 0, .null, .int 0, .int 0, .int 0, .int 0, .int 0, .int 0, .int 0, .null, .int 0, .int 0, .int 0, .int 0, .long 0, .long 0, .long 0, .null, .null, .null, .null, .null, .int 0, .null]), E_int 225, E_int 75, .inl (2, 2, .inl (fun _ => 0)), E_int 75])) 8 489 (ap_len hb rfl) (by omega) dX5_init_31 (by decide) (by decide) (Nat.le_of_ble_eq_true rfl) (ap_app rfl) ?_
  refine aw_putF (ci := 5) (h' := (pre ++ [.inr (5, [.ref (b + 1), .ref (b + 2), .ref (b + 3), .ref (b + 4), .int 0, .int 0, .null, .int 0, .int 0, .int 0, .int 0, .int 0, .int 0, .int 0, .null, .int 0, .int 0, .int 0, .int 0, .long 0, .long 0, .long 0, .null, .null, .null, .null, .null, .int 0, .null]), E_int 225, E_int 75, .inl (2, 2, .inl (fun _ => 0)), E_int 75])) 3 dX5_init_33 rfl lfX5_20 (by decide) (by decide) rfl rfl (ap_at hb rfl) rfl rfl (Nat.le_of_ble_eq_true rfl) (ap_set hb rfl) ?_
  refine aw_aload_n (i := 0) dX5_init_36 rfl rfl ?_
  refine aw_sipush (v := 160) dX5_init_37 (by decide) ?_
  refine an_newI (N := 160) (n := (b + 5)) (h' := (pre ++ [.inr (5, [.ref (b + 1), .ref (b + 2), .ref (b + 3), .ref (b + 4), .int 0, .int 0, .null, .int 0, .int 0, .int 0, .int 0, .int 0, .int 0, .int 0, .null, .int 0, .int 0, .int 0, .int 0, .long 0, .long 0, .long 0, .null, .null, .null, .null, .null, .int 0, .null]), E_int 225, E_int 75, .inl (2, 2, .inl (fun _ => 0)), E_int 75, E_int 160])) 7 329 (ap_len hb rfl) (by omega) dX5_init_40 (by decide) (by decide) (Nat.le_of_ble_eq_true rfl) (ap_app rfl) ?_
  refine aw_putF (ci := 5) (h' := (pre ++ [.inr (5, [.ref (b + 1), .ref (b + 2), .ref (b + 3), .ref (b + 4), .int 0, .int 0, .ref (b + 5), .int 0, .int 0, .int 0, .int 0, .int 0, .int 0, .int 0, .null, .int 0, .int 0, .int 0, .int 0, .long 0, .long 0, .long 0, .null, .null, .null, .null, .null, .int 0, .null]), E_int 225, E_int 75, .inl (2, 2, .inl (fun _ => 0)), E_int 75, E_int 160])) 6 dX5_init_42 rfl lfX5_23 (by decide) (by decide) rfl rfl (ap_at hb rfl) rfl rfl (Nat.le_of_ble_eq_true rfl) (ap_set hb rfl) ?_
  refine aw_aload_n (i := 0) dX5_init_45 rfl rfl ?_
  refine aw_iconst (v := 4) dX5_init_46 (by decide) ?_
  refine an_newI (N := 4) (n := (b + 6)) (h' := (pre ++ [.inr (5, [.ref (b + 1), .ref (b + 2), .ref (b + 3), .ref (b + 4), .int 0, .int 0, .ref (b + 5), .int 0, .int 0, .int 0, .int 0, .int 0, .int 0, .int 0, .null, .int 0, .int 0, .int 0, .int 0, .long 0, .long 0, .long 0, .null, .null, .null, .null, .null, .int 0, .null]), E_int 225, E_int 75, .inl (2, 2, .inl (fun _ => 0)), E_int 75, E_int 160, E_int 4])) 6 325 (ap_len hb rfl) (by omega) dX5_init_47 (by decide) (by decide) (Nat.le_of_ble_eq_true rfl) (ap_app rfl) ?_
  refine aw_putF (ci := 5) (h' := (pre ++ [.inr (5, [.ref (b + 1), .ref (b + 2), .ref (b + 3), .ref (b + 4), .int 0, .int 0, .ref (b + 5), .int 0, .int 0, .int 0, .int 0, .int 0, .int 0, .int 0, .ref (b + 6), .int 0, .int 0, .int 0, .int 0, .long 0, .long 0, .long 0, .null, .null, .null, .null, .null, .int 0, .null]), E_int 225, E_int 75, .inl (2, 2, .inl (fun _ => 0)), E_int 75, E_int 160, E_int 4])) 14 dX5_init_49 rfl lfX5_26 (by decide) (by decide) rfl rfl (ap_at hb rfl) rfl rfl (Nat.le_of_ble_eq_true rfl) (ap_set hb rfl) ?_
  refine aw_aload_n (i := 0) dX5_init_52 rfl rfl ?_
  refine aw_bipush (v := 41) dX5_init_53 (by decide) ?_
  refine an_newI (N := 41) (n := (b + 7)) (h' := (pre ++ [.inr (5, [.ref (b + 1), .ref (b + 2), .ref (b + 3), .ref (b + 4), .int 0, .int 0, .ref (b + 5), .int 0, .int 0, .int 0, .int 0, .int 0, .int 0, .int 0, .ref (b + 6), .int 0, .int 0, .int 0, .int 0, .long 0, .long 0, .long 0, .null, .null, .null, .null, .null, .int 0, .null]), E_int 225, E_int 75, .inl (2, 2, .inl (fun _ => 0)), E_int 75, E_int 160, E_int 4, E_int 41])) 5 284 (ap_len hb rfl) (by omega) dX5_init_55 (by decide) (by decide) (Nat.le_of_ble_eq_true rfl) (ap_app rfl) ?_
  refine aw_putF (ci := 5) (h' := (pre ++ [.inr (5, [.ref (b + 1), .ref (b + 2), .ref (b + 3), .ref (b + 4), .int 0, .int 0, .ref (b + 5), .int 0, .int 0, .int 0, .int 0, .int 0, .int 0, .int 0, .ref (b + 6), .int 0, .int 0, .int 0, .int 0, .long 0, .long 0, .long 0, .ref (b + 7), .null, .null, .null, .null, .int 0, .null]), E_int 225, E_int 75, .inl (2, 2, .inl (fun _ => 0)), E_int 75, E_int 160, E_int 4, E_int 41])) 22 dX5_init_57 rfl lfX5_29 (by decide) (by decide) rfl rfl (ap_at hb rfl) rfl rfl (Nat.le_of_ble_eq_true rfl) (ap_set hb rfl) ?_
  refine aw_aload_n (i := 0) dX5_init_60 rfl rfl ?_
  refine aw_bipush (v := 41) dX5_init_61 (by decide) ?_
  refine an_newI (N := 41) (n := (b + 8)) (h' := (pre ++ [.inr (5, [.ref (b + 1), .ref (b + 2), .ref (b + 3), .ref (b + 4), .int 0, .int 0, .ref (b + 5), .int 0, .int 0, .int 0, .int 0, .int 0, .int 0, .int 0, .ref (b + 6), .int 0, .int 0, .int 0, .int 0, .long 0, .long 0, .long 0, .ref (b + 7), .null, .null, .null, .null, .int 0, .null]), E_int 225, E_int 75, .inl (2, 2, .inl (fun _ => 0)), E_int 75, E_int 160, E_int 4, E_int 41, E_int 41])) 4 243 (ap_len hb rfl) (by omega) dX5_init_63 (by decide) (by decide) (Nat.le_of_ble_eq_true rfl) (ap_app rfl) ?_
  refine aw_putF (ci := 5) (h' := (pre ++ [.inr (5, [.ref (b + 1), .ref (b + 2), .ref (b + 3), .ref (b + 4), .int 0, .int 0, .ref (b + 5), .int 0, .int 0, .int 0, .int 0, .int 0, .int 0, .int 0, .ref (b + 6), .int 0, .int 0, .int 0, .int 0, .long 0, .long 0, .long 0, .ref (b + 7), .ref (b + 8), .null, .null, .null, .int 0, .null]), E_int 225, E_int 75, .inl (2, 2, .inl (fun _ => 0)), E_int 75, E_int 160, E_int 4, E_int 41, E_int 41])) 23 dX5_init_65 rfl lfX5_32 (by decide) (by decide) rfl rfl (ap_at hb rfl) rfl rfl (Nat.le_of_ble_eq_true rfl) (ap_set hb rfl) ?_
  refine aw_aload_n (i := 0) dX5_init_68 rfl rfl ?_
  refine aw_iconst (v := 4) dX5_init_69 (by decide) ?_
  refine an_newI (N := 4) (n := (b + 9)) (h' := (pre ++ [.inr (5, [.ref (b + 1), .ref (b + 2), .ref (b + 3), .ref (b + 4), .int 0, .int 0, .ref (b + 5), .int 0, .int 0, .int 0, .int 0, .int 0, .int 0, .int 0, .ref (b + 6), .int 0, .int 0, .int 0, .int 0, .long 0, .long 0, .long 0, .ref (b + 7), .ref (b + 8), .null, .null, .null, .int 0, .null]), E_int 225, E_int 75, .inl (2, 2, .inl (fun _ => 0)), E_int 75, E_int 160, E_int 4, E_int 41, E_int 41, E_int 4])) 3 239 (ap_len hb rfl) (by omega) dX5_init_70 (by decide) (by decide) (Nat.le_of_ble_eq_true rfl) (ap_app rfl) ?_
  refine aw_putF (ci := 5) (h' := (pre ++ [.inr (5, [.ref (b + 1), .ref (b + 2), .ref (b + 3), .ref (b + 4), .int 0, .int 0, .ref (b + 5), .int 0, .int 0, .int 0, .int 0, .int 0, .int 0, .int 0, .ref (b + 6), .int 0, .int 0, .int 0, .int 0, .long 0, .long 0, .long 0, .ref (b + 7), .ref (b + 8), .ref (b + 9), .null, .null, .int 0, .null]), E_int 225, E_int 75, .inl (2, 2, .inl (fun _ => 0)), E_int 75, E_int 160, E_int 4, E_int 41, E_int 41, E_int 4])) 24 dX5_init_72 rfl lfX5_35 (by decide) (by decide) rfl rfl (ap_at hb rfl) rfl rfl (Nat.le_of_ble_eq_true rfl) (ap_set hb rfl) ?_
  refine aw_aload_n (i := 0) dX5_init_75 rfl rfl ?_
  refine aw_iconst (v := 4) dX5_init_76 (by decide) ?_
  refine an_newI (N := 4) (n := (b + 10)) (h' := (pre ++ [.inr (5, [.ref (b + 1), .ref (b + 2), .ref (b + 3), .ref (b + 4), .int 0, .int 0, .ref (b + 5), .int 0, .int 0, .int 0, .int 0, .int 0, .int 0, .int 0, .ref (b + 6), .int 0, .int 0, .int 0, .int 0, .long 0, .long 0, .long 0, .ref (b + 7), .ref (b + 8), .ref (b + 9), .null, .null, .int 0, .null]), E_int 225, E_int 75, .inl (2, 2, .inl (fun _ => 0)), E_int 75, E_int 160, E_int 4, E_int 41, E_int 41, E_int 4, E_int 4])) 2 235 (ap_len hb rfl) (by omega) dX5_init_77 (by decide) (by decide) (Nat.le_of_ble_eq_true rfl) (ap_app rfl) ?_
  refine aw_putF (ci := 5) (h' := (pre ++ [.inr (5, [.ref (b + 1), .ref (b + 2), .ref (b + 3), .ref (b + 4), .int 0, .int 0, .ref (b + 5), .int 0, .int 0, .int 0, .int 0, .int 0, .int 0, .int 0, .ref (b + 6), .int 0, .int 0, .int 0, .int 0, .long 0, .long 0, .long 0, .ref (b + 7), .ref (b + 8), .ref (b + 9), .ref (b + 10), .null, .int 0, .null]), E_int 225, E_int 75, .inl (2, 2, .inl (fun _ => 0)), E_int 75, E_int 160, E_int 4, E_int 41, E_int 41, E_int 4, E_int 4])) 25 dX5_init_79 rfl lfX5_38 (by decide) (by decide) rfl rfl (ap_at hb rfl) rfl rfl (Nat.le_of_ble_eq_true rfl) (ap_set hb rfl) ?_
  refine aw_aload_n (i := 0) dX5_init_82 rfl rfl ?_
  refine aw_sipush (v := 160) dX5_init_83 (by decide) ?_
  refine an_newI (N := 160) (n := (b + 11)) (h' := (pre ++ [.inr (5, [.ref (b + 1), .ref (b + 2), .ref (b + 3), .ref (b + 4), .int 0, .int 0, .ref (b + 5), .int 0, .int 0, .int 0, .int 0, .int 0, .int 0, .int 0, .ref (b + 6), .int 0, .int 0, .int 0, .int 0, .long 0, .long 0, .long 0, .ref (b + 7), .ref (b + 8), .ref (b + 9), .ref (b + 10), .null, .int 0, .null]), E_int 225, E_int 75, .inl (2, 2, .inl (fun _ => 0)), E_int 75, E_int 160, E_int 4, E_int 41, E_int 41, E_int 4, E_int 4, E_int 160])) 1 75 (ap_len hb rfl) (by omega) dX5_init_86 (by decide) (by decide) (Nat.le_of_ble_eq_true rfl) (ap_app rfl) ?_
  refine aw_putF (ci := 5) (h' := (pre ++ [.inr (5, [.ref (b + 1), .ref (b + 2), .ref (b + 3), .ref (b + 4), .int 0, .int 0, .ref (b + 5), .int 0, .int 0, .int 0, .int 0, .int 0, .int 0, .int 0, .ref (b + 6), .int 0, .int 0, .int 0, .int 0, .long 0, .long 0, .long 0, .ref (b + 7), .ref (b + 8), .ref (b + 9), .ref (b + 10), .ref (b + 11), .int 0, .null]), E_int 225, E_int 75, .inl (2, 2, .inl (fun _ => 0)), E_int 75, E_int 160, E_int 4, E_int 41, E_int 41, E_int 4, E_int 4, E_int 160])) 26 dX5_init_88 rfl lfX5_41 (by decide) (by decide) rfl rfl (ap_at hb rfl) rfl rfl (Nat.le_of_ble_eq_true rfl) (ap_set hb rfl) ?_
  refine aw_aload_n (i := 0) dX5_init_91 rfl rfl ?_
  refine aw_bipush (v := 75) dX5_init_92 (by decide) ?_
  refine an_newI (N := 75) (n := (b + 12)) (h' := (pre ++ [.inr (5, [.ref (b + 1), .ref (b + 2), .ref (b + 3), .ref (b + 4), .int 0, .int 0, .ref (b + 5), .int 0, .int 0, .int 0, .int 0, .int 0, .int 0, .int 0, .ref (b + 6), .int 0, .int 0, .int 0, .int 0, .long 0, .long 0, .long 0, .ref (b + 7), .ref (b + 8), .ref (b + 9), .ref (b + 10), .ref (b + 11), .int 0, .null]), E_int 225, E_int 75, .inl (2, 2, .inl (fun _ => 0)), E_int 75, E_int 160, E_int 4, E_int 41, E_int 41, E_int 4, E_int 4, E_int 160, E_int 75])) 0 0 (ap_len hb rfl) (by omega) dX5_init_94 (by decide) (by decide) (Nat.le_of_ble_eq_true rfl) (ap_app rfl) ?_
  refine aw_putF (ci := 5) (h' := (pre ++ [.inr (5, [.ref (b + 1), .ref (b + 2), .ref (b + 3), .ref (b + 4), .int 0, .int 0, .ref (b + 5), .int 0, .int 0, .int 0, .int 0, .int 0, .int 0, .int 0, .ref (b + 6), .int 0, .int 0, .int 0, .int 0, .long 0, .long 0, .long 0, .ref (b + 7), .ref (b + 8), .ref (b + 9), .ref (b + 10), .ref (b + 11), .int 0, .ref (b + 12)]), E_int 225, E_int 75, .inl (2, 2, .inl (fun _ => 0)), E_int 75, E_int 160, E_int 4, E_int 41, E_int 41, E_int 4, E_int 4, E_int 160, E_int 75])) 28 dX5_init_96 rfl lfX5_44 (by decide) (by decide) rfl rfl (ap_at hb rfl) rfl rfl (Nat.le_of_ble_eq_true rfl) (ap_set hb rfl) ?_
  exact kk
/-- the memory as it is made -/
def fi0 : Nat → Nat → Int32 := fun a k => if a = 2 then (if k = 6 then 1 else 0) else if a = 14 then (if k = 6 then 1 else 0) else if a = 28 then (if k = 6 then 1 else 0) else if a = 40 then (if k = 6 then 1 else 0) else if a = 53 then (if k = 1 then -1 else 0) else if a = 55 then (if k = 1 then -1 else 0) else if a = 57 then (if k = 1 then -1 else 0) else if a = 59 then (if k = 1 then -1 else 0) else 0
set_option maxRecDepth 100000 in
set_option maxHeartbeats 2000000 in
theorem hp_fi0 : ksC ++ mdC 64 = hp (fi0, fun _ _ => 0) := by rfl
