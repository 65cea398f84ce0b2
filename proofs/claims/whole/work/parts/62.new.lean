theorem am_obj_i : Cond.instanceMethod Lib.objectInit ∈ am_T := am_in 91 (by decide +kernel) (by decide +kernel)
theorem am_obj_c : Cond.code Lib.objectInit ⟨#[0xb1]⟩ 1 none ∈ am_T := am_in 92 (by decide +kernel) (by decide +kernel)
theorem am_ac_b : Cond.arrayClass .byte ∈ am_T := am_in 144 (by decide +kernel) (by decide +kernel)
theorem am_ac_i : Cond.arrayClass .int ∈ am_T := am_in 194 (by decide +kernel) (by decide +kernel)
theorem am_ac_z : Cond.arrayClass .boolean ∈ am_T := am_in 214 (by decide +kernel) (by decide +kernel)
theorem loX0 : Cond.methodLink RX0 3 Lib.objectInit ∈ am_T := am_in 98 (by decide +kernel) (by decide +kernel)
theorem loX1 : Cond.methodLink RX1 3 Lib.objectInit ∈ am_T := am_in 105 (by decide +kernel) (by decide +kernel)
theorem loX2 : Cond.methodLink RX2 3 Lib.objectInit ∈ am_T := am_in 202 (by decide +kernel) (by decide +kernel)
theorem loX3 : Cond.methodLink RX3 3 Lib.objectInit ∈ am_T := am_in 220 (by decide +kernel) (by decide +kernel)
theorem loX4 : Cond.methodLink RX4 1 Lib.objectInit ∈ am_T := am_in 90 (by decide +kernel) (by decide +kernel)
theorem loX5 : Cond.methodLink RX5 1 Lib.objectInit ∈ am_T := am_in 837 (by decide +kernel) (by decide +kernel)
theorem cl_L4 : Cond.classLink RL 7 RX4 ∈ am_T := am_in 85 (by decide +kernel) (by decide +kernel)
theorem cl_L5 : Cond.classLink RL 10 RX5 ∈ am_T := am_in 832 (by decide +kernel) (by decide +kernel)
theorem cl_40 : Cond.classLink RX4 13 RX0 ∈ am_T := am_in 93 (by decide +kernel) (by decide +kernel)
theorem cl_01 : Cond.classLink RX0 9 RX1 ∈ am_T := am_in 99 (by decide +kernel) (by decide +kernel)
theorem cl_42 : Cond.classLink RX4 31 RX2 ∈ am_T := am_in 196 (by decide +kernel) (by decide +kernel)
theorem cl_43 : Cond.classLink RX4 38 RX3 ∈ am_T := am_in 215 (by decide +kernel) (by decide +kernel)
theorem ni_0 : Cond.instantiable RX0 12 ∈ am_T := am_in 94 (by decide +kernel) (by decide +kernel)
theorem nn_0 : Cond.initialized RX0 ∈ am_T := am_in 74 (by decide +kernel) (by decide +kernel)
theorem ni_1 : Cond.instantiable RX1 9 ∈ am_T := am_in 101 (by decide +kernel) (by decide +kernel)
theorem nn_1 : Cond.initialized RX1 ∈ am_T := am_in 75 (by decide +kernel) (by decide +kernel)
theorem ni_2 : Cond.instantiable RX2 3 ∈ am_T := am_in 198 (by decide +kernel) (by decide +kernel)
theorem nn_2 : Cond.initialized RX2 ∈ am_T := am_in 76 (by decide +kernel) (by decide +kernel)
theorem ni_3 : Cond.instantiable RX3 10 ∈ am_T := am_in 216 (by decide +kernel) (by decide +kernel)
theorem nn_3 : Cond.initialized RX3 ∈ am_T := am_in 77 (by decide +kernel) (by decide +kernel)
theorem ni_4 : Cond.instantiable RX4 12 ∈ am_T := am_in 86 (by decide +kernel) (by decide +kernel)
theorem nn_4 : Cond.initialized RX4 ∈ am_T := am_in 73 (by decide +kernel) (by decide +kernel)
theorem ni_5 : Cond.instantiable RX5 29 ∈ am_T := am_in 833 (by decide +kernel) (by decide +kernel)
theorem nn_5 : Cond.initialized RX5 ∈ am_T := am_in 78 (by decide +kernel) (by decide +kernel)
section AMN
variable {V : am_V} {M : am_M} {d kc ks pc : Nat} {L : List (Option Value)} {st : List Value} {h : List va_E} {R : Option Value → List va_E → Prop}
theorem am_top {H : Heap} (hS : am_S V h H) (hm : h.length < 1000000) : am_cv V (.ref h.length) = .ref H.size := by
  show Value.ref (am_ad V h.length) = _
  rw [am_ad_lt hm, hS.2.1]
theorem aw_new {ci idx : Nat} {q : vw_C} {fs : List Value} (hd : decode M.2.1 pc = .ok (.new idx, 3)) (hq : am_cl[ci]? = some q) (hl : Cond.classLink M.1.cls idx q.1 ∈ am_T) (hi : Cond.instantiable q.1 q.2.2 ∈ am_T) (hn : Cond.initialized q.1 ∈ am_T) (hcv : fs.map (am_cv V) = fs) (hfs : ∀ j, j < q.2.2 → defaultValue (am_fty ci j) = vp_V fs j) (hm : h.length < 1000000) (kk : AW V M d kc ks (pc + 3) L (.ref h.length :: st) (h ++ [.inr (ci, fs)]) R) : AW V M d (1 + kc) (q.2.2 + ks) pc L st h R := by
  intro p e s m args below meth c C H locs ls cells slots mc ms hc hs hS hF hL
  have hts := C.2.2.2.2.2.1
  have hown := C.2.2.2.2.1
  have hK := C.2.2.2.2.2.2.2.1
  have hKn := hK.1 ci _ hq
  refine W.newcK C.1 C.2.1 hown (hts _ hl) (hts _ hi) (hts _ hn) rfl hd (by show cells + 1 ≤ mc; omega) (by show slots + q.2.2 ≤ ms; omega) hKn.2.1 rfl fun H1 kC hkC e1 z1 o1 => ?_
  have hx : va_at V.2.1 am_cl (H.size, am_ce V (.inr (ci, fs))) H1 := ⟨_, hq, by rw [hcv]; exact (u_born (am_fty ci) hts (am_cl_in hq) hKn hkC e1 (am_cl_ty hq)).to hfs⟩
  have k1 := kk p e s m args below meth c C H1 locs ls (cells + 1) (slots + q.2.2) mc ms (by omega) (by omega) (hS.push hm hx z1 o1) ⟨Nat.le_trans hF.1 (by omega), fun x h1 h2 => (o1 x (Nat.lt_of_lt_of_le h1 hF.1)).trans (hF.2.1 x h1 h2), hF.2.2⟩ hL
  rw [List.map_cons, am_top hS hm] at k1
  exact k1
theorem aw_newa {t N : Nat} {atype : ArrayType} {ty : FieldType} {n : Int32} (hd : decode M.2.1 pc = .ok (.newarray atype, 2)) (hty : newarray.typeOf atype = ty) (ht : (am_tys V)[t]? = some (V.2.2.1 t, ty)) (hpr : ∀ U cA, va_RA U cA ty → U.vm.findClass ("[" ++ ty.toString) = some cA) (hdf : defaultValue ty = .int 0) (hw : Cond.arrayClass ty ∈ am_T) (hn : ¬ n < 0) (hN : n.toNatClampNeg = N) (hby : N * componentBytes ty ≤ 536870912) (hm : h.length < 1000000) (kk : AW V M d kc ks (pc + 2) L (.ref h.length :: st) (h ++ [.inl (t, N, .inl (fun _ => 0))]) R) : AW V M d (1 + kc) (N + ks) pc L (.int n :: st) h R := by
  subst hty
  intro p e s m args below meth c C H locs ls cells slots mc ms hc hs hS hF hL
  have hts := C.2.2.2.2.2.1
  have hown := C.2.2.2.2.1
  have hK := C.2.2.2.2.2.2.2.1
  refine va_newaK C.1 C.2.1 (hts _ hw) rfl hd rfl hn hN hby (by show cells + 1 ≤ mc; omega) (by show slots + N ≤ ms; omega) rfl fun H1 cA e1 z1 o1 hAr hNm => ?_
  have hcA : cA = V.2.2.1 t := Option.some.inj (hNm.symm.trans (hpr _ _ (hK.2 t _ ht).2))
  subst hcA
  have hx : va_at V.2.1 am_cl (H.size, am_ce V (.inl (t, N, .inl (fun _ => 0)))) H1 := by
    show H1[H.size]? = some (vp_cell _ _)
    rw [e1, hdf]
    rfl
  have k1 := kk p e s m args below meth c C H1 locs ls (cells + 1) (slots + N) mc ms (by omega) (by omega) (hS.push hm hx z1 o1) ⟨Nat.le_trans hF.1 (by omega), fun x h1 h2 => (o1 x (Nat.lt_of_lt_of_le h1 hF.1)).trans (hF.2.1 x h1 h2), hF.2.2⟩ hL
  rw [List.map_cons, am_top hS hm] at k1
  exact k1
theorem aw_anew {t N idx : Nat} {cn : String} {n : Int32} (hd : decode M.2.1 pc = .ok (.anewarray idx, 3)) (hl : Cond.classLink M.1.cls idx cn ∈ am_T) (hao : ∀ U, am_N V U → va_AO cn U) (ht : (am_tys V)[t]? = some (V.2.2.1 t, .object cn)) (hn : ¬ n < 0) (hN : n.toNatClampNeg = N) (hby : N * 4 ≤ 536870912) (hm : h.length < 1000000) (kk : AW V M d kc ks (pc + 3) L (.ref h.length :: st) (h ++ [.inl (t, N, .inr (.inr (.inr (.inr (fun _ => none)))))]) R) : AW V M d (1 + kc) (N + ks) pc L (.int n :: st) h R := by
  subst hN
  intro p e s m args below meth c C H locs ls cells slots mc ms hc hs hS hF hL
  have hts := C.2.2.2.2.2.1
  have hown := C.2.2.2.2.1
  have hK := C.2.2.2.2.2.2.2.1
  refine W.anew C.1 C.2.1 hown (hts _ hl) (va_AO.use (hao s C.2.2.2.2.2.2.1)) rfl hd rfl hn hby (by show cells + 1 ≤ mc; omega) (by show slots + n.toNatClampNeg ≤ ms; omega) fun cA kA comp f1 f2 f3 f4 => ?_
  obtain ⟨kA', comp', -, -, -, g4⟩ := (hK.2 t _ ht).2
  have hcA : cA = V.2.2.1 t := Option.some.inj (f1.symm.trans g4)
  subst hcA
  generalize hH1 : H.push ({ cls := V.2.2.1 t, slots := Array.replicate n.toNatClampNeg .null, vm := .none } : Cell) = H1
  have z1 : H1.size = H.size + 1 := by rw [← hH1, Array.size_push]
  have e1 : H1[H.size]? = some (arrV (V.2.2.1 t) n.toNatClampNeg (fun _ => .null)) := by rw [← hH1, Array.getElem?_push_size, ← arrV_new]
  have o1 : ∀ q : Nat, q < H.size → H1[q]? = H[q]? := fun q hq => by rw [← hH1, Array.getElem?_push, if_neg (Nat.ne_of_lt hq)]
  have hx : va_at V.2.1 am_cl (H.size, am_ce V (.inl (t, n.toNatClampNeg, .inr (.inr (.inr (.inr (fun _ => none))))))) H1 := by
    show H1[H.size]? = some (vp_cell _ _)
    rw [e1]
    rfl
  have k1 := kk p e s m args below meth c C H1 locs ls (cells + 1) (slots + n.toNatClampNeg) mc ms (by omega) (by omega) (hS.push hm hx z1 o1) ⟨Nat.le_trans hF.1 (by omega), fun x h1 h2 => (o1 x (Nat.lt_of_lt_of_le h1 hF.1)).trans (hF.2.1 x h1 h2), hF.2.2⟩ hL
  rw [List.map_cons, am_top hS hm] at k1
  exact k1
theorem aw_aast {a n t ci v : Nat} {r : vw_C} {g : Nat → Option Nat} {i : Int32} {vs : List Value} {h' : List va_E} (hd : decode M.2.1 pc = .ok (.aastore, 1)) (he : h[a]? = some (.inl (t, n, .inr (.inr (.inr (.inr g)))))) (ht : (am_tys V)[t]? = some (V.2.2.1 t, .object r.1)) (hv : h[v]? = some (.inr (ci, vs))) (hq : am_cl[ci]? = some r) (hin : vp_in i n) (hh : h.set a (.inl (t, n, .inr (.inr (.inr (.inr (va_up g i.toNatClampNeg (some v))))))) = h') (kk : AW V M d kc ks (pc + 1) L st h' R) : AW V M d kc ks pc L (.ref v :: .int i :: .ref a :: st) h R := by
  subst hh
  intro p e s m args below meth c C H locs ls cells slots mc ms hc hs hS hF hL
  have hts := C.2.2.2.2.2.1
  have hown := C.2.2.2.2.1
  have hK := C.2.2.2.2.2.2.2.1
  have hlt : i.toNatClampNeg < n := Nat.not_le.mp fun q => hin (Or.inr q)
  have h0 : ¬ i < 0 := fun q => hin (Or.inl q)
  obtain ⟨r', hr', cellV, g1, g2, g3, -⟩ := hS.at hv
  have hcls := (hK.1 ci r hq).2
  obtain ⟨kA, comp, k1, k2, k3, -⟩ := (hK.2 t _ ht).2
  have hcomp : comp = V.2.1.1 ci := Option.some.inj (k3.symm.trans hcls.1)
  subst hcomp
  obtain ⟨kC, hkC, -⟩ := hcls.2
  have hat : H[am_ad V a]? = some (vp_cell (V.2.2.1 t) (n, .inr (.inr (.inr (.inr (fun j => (g j).map (am_ad V))))))) := hS.at he
  refine W.aast C.1 C.2.1 hat (fun q h => by cases h) (fun h => by cases h) k1 k2 rfl hkC ⟨h0, by show _ < (arrV _ _ _).slots.size; rw [arrV_size]; exact hlt⟩ g1 (fun q h => by rw [g3] at h; cases h) (by rw [g2]; exact hkC) (by rw [g2]; exact va_assign hcls) rfl rfl hd fun H1 e1 z oq => ?_
  refine kk p e s m args below meth c C H1 _ ls cells slots mc ms hc hs (hS.set he ?_ z oq) (hF.put z oq (hS.in he)) hL
  show H1[am_ad V a]? = some (vp_cell _ _)
  rw [e1]
  simp only [am_ca]
  rw [vp_cell_q, vp_cell_q, arrV_store]
  congr 2
  funext q
  by_cases hq : q = i.toNatClampNeg
  · subst hq
    simp [updV, va_up, va_rf]
  · simp [updV, va_up, hq]
theorem aw_obj {a idx : Nat} (hd : decode M.2.1 pc = .ok (.invokespecial idx, 3)) (hl : Cond.methodLink M.1.cls idx Lib.objectInit ∈ am_T) (hw : (st.map fun v => v.category).sum ≤ 8) (kk : AW V M (d + 1) kc ks (pc + 3) L st h R) : AW V M (d + 1) kc ks pc L (.ref a :: st) h R := by
  intro p e s m args below meth c C H locs ls cells slots mc ms hc hs hS hF hL
  have hts := C.2.2.2.2.2.1
  have hown := C.2.2.2.2.1
  have hK := C.2.2.2.2.2.2.2.1
  have hr := lv_room (m := m) (pc := pc) (ls := ls) (rest := Value.ref (am_ad V a) :: st.map (am_cv V)) (am_restC (V := V) hw)
  exact W.objInit C.1 C.2.1 hown (hts _ hl) (hts _ am_obj_i) (hts _ am_obj_c) rfl (by rw [C.2.2.1]; exact hL.2.1) rfl hd (Nat.succ_le_succ (Nat.zero_le d)) (by show _ + 12 ≤ 40 * (d + 1); exact Nat.le_trans (Nat.add_le_add_right hr 12) (by omega)) (kk p e s m args below meth c C H locs ls cells slots mc ms hc hs hS hF hL)
end AMN
