theorem am_math_in : Cond.initialized "java/lang/Math" ∈ am_T := am_in 79 (by decide +kernel) (by decide +kernel)
theorem am_mmin_st : Cond.static Lib.Math.min.name ∈ am_T := am_in 315 (by decide +kernel) (by decide +kernel)
theorem am_mmin_co : Cond.code Lib.Math.min.name Lib.Math.min.code 2 (some .int) ∈ am_T := am_in 316 (by decide +kernel) (by decide +kernel)
theorem am_mmax_st : Cond.static Lib.Math.max.name ∈ am_T := am_in 569 (by decide +kernel) (by decide +kernel)
theorem am_mmax_co : Cond.code Lib.Math.max.name Lib.Math.max.code 2 (some .int) ∈ am_T := am_in 570 (by decide +kernel) (by decide +kernel)
theorem am_mabs_st : Cond.static Lib.Math.abs.name ∈ am_T := am_in 647 (by decide +kernel) (by decide +kernel)
theorem am_mabs_co : Cond.code Lib.Math.abs.name Lib.Math.abs.code 1 (some .int) ∈ am_T := am_in 648 (by decide +kernel) (by decide +kernel)
def am_fty (ci k : Nat) : FieldType := match ci with
  | 0 => tyX0 k
  | 1 => tyX1 k
  | 2 => tyX2 k
  | 3 => tyX3 k
  | 4 => tyX4 k
  | _ => tyX5 k
theorem am_cl_in {ci : Nat} {q : vw_C} (hq : am_cl[ci]? = some q) : ∀ x ∈ u_ws q.1 q.2.1 q.2.2, x ∈ am_T := by
  match ci, hq with
  | 0, hq => cases hq; exact am_lay0
  | 1, hq => cases hq; exact am_lay1
  | 2, hq => cases hq; exact am_lay2
  | 3, hq => cases hq; exact am_lay3
  | 4, hq => cases hq; exact am_lay4
  | 5, hq => cases hq; exact am_lay5
  | k + 6, hq => simp [am_cl] at hq
theorem am_cl_ty {ci : Nat} {q : vw_C} (hq : am_cl[ci]? = some q) : ∀ k, k < q.2.2 → parseFieldDescriptor (q.2.1 k).2.2.1 = some (am_fty ci k) := by
  match ci, hq with
  | 0, hq => cases hq; exact tyX0_ok
  | 1, hq => cases hq; exact tyX1_ok
  | 2, hq => cases hq; exact tyX2_ok
  | 3, hq => cases hq; exact tyX3_ok
  | 4, hq => cases hq; exact tyX4_ok
  | 5, hq => cases hq; exact tyX5_ok
  | k + 6, hq => simp [am_cl] at hq
theorem am_cl_nm {ci : Nat} {q : vw_C} (hq : am_cl[ci]? = some q) : ∀ a, a < q.2.2 → ∀ b, b < q.2.2 → a ≠ b → (q.2.1 a).2.1 ≠ (q.2.1 b).2.1 := by
  match ci, hq with
  | 0, hq => cases hq; exact nmX0
  | 1, hq => cases hq; exact nmX1
  | 2, hq => cases hq; exact nmX2
  | 3, hq => cases hq; exact nmX3
  | 4, hq => cases hq; exact nmX4
  | 5, hq => cases hq; exact nmX5
  | k + 6, hq => simp [am_cl] at hq
theorem am_good {w : Cond} (hw : w ∈ am_T) : w ∈ am_T ∧ ((w.onTables && w.keeps) = true ∨ ∃ ty, w = .arrayClass ty) := ⟨hw, good_of_word (List.mem_filter.mp hw).2⟩
theorem am_ws_good {M : am_M} (h : am_okC M) : GoodIn am_T (am_ws M) := by
  intro w hw
  rcases List.mem_cons.mp hw with rfl | hw
  · exact am_good h.1
  · exact am_good hw
section AMH
variable {V : am_V} {h : List va_E} {H H1 : Heap}
theorem am_S.at (hS : am_S V h H) {a : Nat} {e : va_E} (he : h[a]? = some e) : va_at V.2.1 am_cl (am_ad V a, am_ce V e) H := by
  have hl : a < h.length := (List.getElem?_eq_some_iff.mp he).1
  rw [am_ad_lt (by have := hS.1; omega)]
  exact hS.2.2 a e he
theorem am_S.one (hS : am_S V h H) {a : Nat} {e : va_E} (he : h[a]? = some e) : va_P V.2.1 am_cl [(am_ad V a, am_ce V e)] H := by
  intro k q hk
  cases k with
  | zero => cases hk; exact hS.at he
  | succ k => simp at hk
theorem am_S.in (hS : am_S V h H) {a : Nat} {e : va_E} (he : h[a]? = some e) : am_A V (am_ad V a) := by
  have hl : a < h.length := (List.getElem?_eq_some_iff.mp he).1
  rw [am_ad_lt (by have := hS.1; omega)]
  exact Nat.le_add_right _ _
theorem am_S.set (hS : am_S V h H) {a : Nat} {e0 e : va_E} (he : h[a]? = some e0) (h1 : va_at V.2.1 am_cl (am_ad V a, am_ce V e) H1) (z : H1.size = H.size) (oq : ∀ q : Nat, q ≠ am_ad V a → H1[q]? = H[q]?) : am_S V (h.set a e) H1 := by
  have hl : a < h.length := (List.getElem?_eq_some_iff.mp he).1
  have hm := hS.1
  have ha : am_ad V a = V.2.2.2.1 + a := am_ad_lt (by omega)
  refine ⟨by rw [List.length_set]; exact hS.1, by rw [z, List.length_set]; exact hS.2.1, fun b e' hb => ?_⟩
  by_cases hba : b = a
  · subst hba
    rw [List.getElem?_set_self hl] at hb
    cases hb
    rw [← ha]
    exact h1
  · rw [List.getElem?_set_ne (Ne.symm hba)] at hb
    exact (hS.2.2 b e' hb).kept (oq _ (by rw [ha]; omega))
theorem am_S.push (hS : am_S V h H) {e : va_E} (hm : h.length < 1000000) (h1 : va_at V.2.1 am_cl (H.size, am_ce V e) H1) (z : H1.size = H.size + 1) (oq : ∀ q : Nat, q < H.size → H1[q]? = H[q]?) : am_S V (h ++ [e]) H1 := by
  refine ⟨by simp; omega, by rw [z, hS.2.1]; simp; omega, fun b e' hb => ?_⟩
  by_cases hl : b < h.length
  · rw [List.getElem?_append_left hl] at hb
    exact (hS.2.2 b e' hb).kept (oq _ (by show V.2.2.2.1 + b < H.size; rw [hS.2.1]; omega))
  · rw [List.getElem?_append_right (by omega)] at hb
    have hz : b - h.length < 1 := (List.getElem?_eq_some_iff.mp hb).1
    have hbl : b = h.length := by omega
    subst hbl
    rw [Nat.sub_self] at hb
    cases hb
    rw [← hS.2.1]
    exact h1
end AMH
section AMF
variable {V : am_V} {M : am_M} {d kc ks pc : Nat} {L : List (Option Value)} {st : List Value} {h : List va_E} {R : Option Value → List va_E → Prop}

theorem aw_get {a ci idx : Nat} {q : vw_C} {fs : List Value} {v : Value} (k : Nat) (hd : decode M.2.1 pc = .ok (.getfield idx, 3)) (hq : am_cl[ci]? = some q) (hl : Cond.fieldLink M.1.cls idx (q.2.1 k).1 (q.2.1 k).2.1 (q.2.1 k).2.2.1 ∈ am_T) (hk : k < q.2.2) (he : h[a]? = some (.inr (ci, fs))) (hv : fs[k]? = some v) (kk : AW V M d kc ks (pc + 3) L (v :: st) h R) : AW V M d kc ks pc L (.ref a :: st) h R := by
  intro p e s m args below meth c C H locs ls cells slots mc ms hc hs hS hF hL
  have hts := C.2.2.2.2.2.1
  have hown := C.2.2.2.2.1
  have hK := C.2.2.2.2.2.2.2.1
  exact va_get (D := V.2.1) (cl := am_cl) (tys := am_tys V) (ws := [(am_ad V a, am_ce V (.inr (ci, fs)))]) (ci := ci) (C := q.1) (T := q.2.1) (N := q.2.2) (fs := fs.map (am_cv V)) (v := am_cv V v) C.1 C.2.1 hts (am_cl_in hq) hown hK (hS.one he) 0 rfl hq k hk (hts _ hl) (fun _ z => z) (by rw [List.getElem?_map, hv]; rfl) hd (kk p e s m args below meth c C H locs ls cells slots mc ms hc hs hS hF hL)
theorem aw_put {a ci idx : Nat} {q : vw_C} {fs : List Value} {v : Value} {h' : List va_E} (k : Nat) (hd : decode M.2.1 pc = .ok (.putfield idx, 3)) (hq : am_cl[ci]? = some q) (hl : Cond.fieldLink M.1.cls idx (q.2.1 k).1 (q.2.1 k).2.1 (q.2.1 k).2.2.1 ∈ am_T) (hk : k < q.2.2) (hf : (q.2.1 k).2.2.2 = false) (he : h[a]? = some (.inr (ci, fs))) (hn : narrow (am_fty ci k) (am_cv V v) = am_cv V v) (hfit : fits (am_fty ci k) (am_cv V v) = true) (hlen : k < fs.length) (hh : h.set a (.inr (ci, fs.set k v)) = h') (kk : AW V M d kc ks (pc + 3) L st h' R) : AW V M d kc ks pc L (v :: .ref a :: st) h R := by
  subst hh
  intro p e s m args below meth c C H locs ls cells slots mc ms hc hs hS hF hL
  have hts := C.2.2.2.2.2.1
  have hown := C.2.2.2.2.1
  have hK := C.2.2.2.2.2.2.2.1
  have hap := va_apart (own := M.1.cls) (D := V.2.1) (cl := am_cl) (tys := am_tys V) (ci := ci) (C := q.1) (T := q.2.1) (N := q.2.2) hts (am_cl_in hq) (am_fty ci) (am_cl_ty hq) (am_cl_nm hq) hK hq
  have hat := hS.at he
  obtain ⟨r, h1, cell, q1, q2, q3, q4⟩ := hat
  have hr : r = q := Option.some.inj (h1.symm.trans hq)
  subst hr
  obtain ⟨hSl, hfc, kC, hkC, hkind⟩ := hK.1 ci _ hq
  obtain ⟨cf, kf, fi, f, hi, hsl⟩ := hSl k hk
  have hlay := hts _ (am_cl_in hq _ (u_in_lay hk))
  unfold u_lay at hlay
  rw [if_neg (by rw [hf]; decide)] at hlay
  have hst := (u_facts hfc hkC (u_lays hts (am_cl_in hq) hk) hi).1
  have h6 := u_store hfc hkC hkind hlay hi (am_cl_ty hq k hk) hn hfit
  refine W.putK C.1 C.2.1 (f := f) ⟨hown, hts _ hl, ⟨_, _, _, hi⟩, hst⟩ (by rw [q2]; exact h6) q1 q3 (by rw [hsl]; exact k2_hasslot (q4 k hk)) rfl rfl hd fun H' e1 e2 e3 => ?_
  rw [hsl] at e1 ⊢
  exact kk p e s m args below meth c C H' _ ls cells slots mc ms hc hs (hS.set he ⟨_, hq, t_OB.to (V := updV (vp_V (fs.map (am_cv V))) k (am_cv V v)) ⟨_, e1, q2, q3, t_set q4 hap hk (am_cv V v)⟩ (fun j _ => by rw [List.map_set]; exact vp_updV_set (by rw [List.length_map]; exact hlen) (am_cv V v) j)⟩ e2 e3) (hF.put e2 e3 (hS.in he)) hL
theorem aw_putF {a ci idx : Nat} {q : vw_C} {fs : List Value} {v : Value} {h' : List va_E} (k : Nat) (hd : decode M.2.1 pc = .ok (.putfield idx, 3)) (hq : am_cl[ci]? = some q) (hl : Cond.fieldLink M.1.cls idx (q.2.1 k).1 (q.2.1 k).2.1 (q.2.1 k).2.2.1 ∈ am_T) (hk : k < q.2.2) (hf : (q.2.1 k).2.2.2 = true) (hini : M.1.name = "<init>") (hdecl : (q.2.1 k).1 = M.1.cls) (he : h[a]? = some (.inr (ci, fs))) (hn : narrow (am_fty ci k) (am_cv V v) = am_cv V v) (hfit : fits (am_fty ci k) (am_cv V v) = true) (hlen : k < fs.length) (hh : h.set a (.inr (ci, fs.set k v)) = h') (kk : AW V M d kc ks (pc + 3) L st h' R) : AW V M d kc ks pc L (v :: .ref a :: st) h R := by
  subst hh
  intro p e s m args below meth c C H locs ls cells slots mc ms hc hs hS hF hL
  have hts := C.2.2.2.2.2.1
  have hown := C.2.2.2.2.1
  have hK := C.2.2.2.2.2.2.2.1
  have hap := va_apart (own := M.1.cls) (D := V.2.1) (cl := am_cl) (tys := am_tys V) (ci := ci) (C := q.1) (T := q.2.1) (N := q.2.2) hts (am_cl_in hq) (am_fty ci) (am_cl_ty hq) (am_cl_nm hq) hK hq
  have hat := hS.at he
  obtain ⟨r, h1, cell, q1, q2, q3, q4⟩ := hat
  have hr : r = q := Option.some.inj (h1.symm.trans hq)
  subst hr
  obtain ⟨hSl, hfc, kC, hkC, hkind⟩ := hK.1 ci _ hq
  obtain ⟨cf, kf, fi, f, hi, hsl⟩ := hSl k hk
  have hlay := hts _ (am_cl_in hq _ (u_in_lay hk))
  unfold u_lay at hlay
  rw [if_pos hf] at hlay
  have hst := (u_facts hfc hkC (u_lays hts (am_cl_in hq) hk) hi).1
  have hcf : m.cls = cf := by
    obtain ⟨_, _, c', _, _, _, -, -, hf', -, -, -, hown2, -⟩ := Cond.laysFinal_spec hlay
    have e1 : c' = cf := by have := hi.symm.trans hf'; simp at this; exact this.1.symm
    rw [hdecl] at hown2
    rw [← e1]; exact Option.some.inj (hown.symm.trans hown2)
  have h6 := u_fits hfc hkC hkind (Or.inr hlay) hi (am_cl_ty hq k hk) hn hfit
  refine W.putFinK C.1 C.2.1 hown (hts _ hl) hi hst hcf (C.2.2.2.2.2.2.2.2.2.1.trans hini) (by rw [q2]; exact h6) q1 q3 (by rw [hsl]; exact k2_hasslot (q4 k hk)) rfl rfl hd fun H' e1 e2 e3 => ?_
  rw [hsl] at e1 ⊢
  exact kk p e s m args below meth c C H' _ ls cells slots mc ms hc hs (hS.set he ⟨_, hq, t_OB.to (V := updV (vp_V (fs.map (am_cv V))) k (am_cv V v)) ⟨_, e1, q2, q3, t_set q4 hap hk (am_cv V v)⟩ (fun j _ => by rw [List.map_set]; exact vp_updV_set (by rw [List.length_map]; exact hlen) (am_cv V v) j)⟩ e2 e3) (hF.put e2 e3 (hS.in he)) hL
theorem aw_iald {a n : Nat} {f : Nat → Int32} {i : Int32} (hd : decode M.2.1 pc = .ok (.iaload, 1)) (he : h[a]? = some (.inl (0, n, .inl f))) (hin : vp_in i n) (kk : AW V M d kc ks (pc + 1) L (.int (f i.toNatClampNeg) :: st) h R) : AW V M d kc ks pc L (.int i :: .ref a :: st) h R := by
  intro p e s m args below meth c C H locs ls cells slots mc ms hc hs hS hF hL
  have hts := C.2.2.2.2.2.1
  have hown := C.2.2.2.2.1
  have hK := C.2.2.2.2.2.2.2.1
  exact va_iald (D := V.2.1) (cl := am_cl) (tys := am_tys V) (ws := [(am_ad V a, am_ce V (.inl (0, n, .inl f)))]) C.1 C.2.1 hK (hS.one he) 0 0 rfl rfl hin hd (kk p e s m args below meth c C H locs ls cells slots mc ms hc hs hS hF hL)
theorem aw_bald {a n : Nat} {f : Nat → Int32} {i : Int32} (hd : decode M.2.1 pc = .ok (.baload, 1)) (he : h[a]? = some (.inl (1, n, .inl f))) (hin : vp_in i n) (kk : AW V M d kc ks (pc + 1) L (.int (f i.toNatClampNeg) :: st) h R) : AW V M d kc ks pc L (.int i :: .ref a :: st) h R := by
  intro p e s m args below meth c C H locs ls cells slots mc ms hc hs hS hF hL
  have hts := C.2.2.2.2.2.1
  have hown := C.2.2.2.2.1
  have hK := C.2.2.2.2.2.2.2.1
  exact va_bald (D := V.2.1) (cl := am_cl) (tys := am_tys V) (ws := [(am_ad V a, am_ce V (.inl (1, n, .inl f)))]) C.1 C.2.1 hK (hS.one he) 0 1 rfl rfl hin hd (kk p e s m args below meth c C H locs ls cells slots mc ms hc hs hS hF hL)
theorem aw_zald {a n : Nat} {f : Nat → Int32} {i : Int32} (hd : decode M.2.1 pc = .ok (.baload, 1)) (he : h[a]? = some (.inl (2, n, .inl f))) (hin : vp_in i n) (kk : AW V M d kc ks (pc + 1) L (.int (f i.toNatClampNeg) :: st) h R) : AW V M d kc ks pc L (.int i :: .ref a :: st) h R := by
  intro p e s m args below meth c C H locs ls cells slots mc ms hc hs hS hF hL
  have hts := C.2.2.2.2.2.1
  have hown := C.2.2.2.2.1
  have hK := C.2.2.2.2.2.2.2.1
  exact va_zald (D := V.2.1) (cl := am_cl) (tys := am_tys V) (ws := [(am_ad V a, am_ce V (.inl (2, n, .inl f)))]) C.1 C.2.1 hK (hS.one he) 0 2 rfl rfl hin hd (kk p e s m args below meth c C H locs ls cells slots mc ms hc hs hS hF hL)
theorem aw_aald {a n t b : Nat} {g : Nat → Option Nat} {i : Int32} {cn : String} (hd : decode M.2.1 pc = .ok (.aaload, 1)) (he : h[a]? = some (.inl (t, n, .inr (.inr (.inr (.inr g)))))) (ht : (am_tys V)[t]? = some (V.2.2.1 t, .object cn)) (hin : vp_in i n) (hg : g i.toNatClampNeg = some b) (kk : AW V M d kc ks (pc + 1) L (.ref b :: st) h R) : AW V M d kc ks pc L (.int i :: .ref a :: st) h R := by
  intro p e s m args below meth c C H locs ls cells slots mc ms hc hs hS hF hL
  have hts := C.2.2.2.2.2.1
  have hown := C.2.2.2.2.1
  have hK := C.2.2.2.2.2.2.2.1
  refine va_aldq (D := V.2.1) (cl := am_cl) (tys := am_tys V) (ws := [(am_ad V a, am_ce V (.inl (t, n, .inr (.inr (.inr (.inr g))))))]) (C := cn) C.1 C.2.1 hK (hS.one he) 0 t rfl ht hin hd ?_
  have e1 : va_rf ((fun j => (g j).map (am_ad V)) i.toNatClampNeg) = Value.ref (am_ad V b) := by simp [hg, va_rf]
  rw [e1]
  exact kk p e s m args below meth c C H locs ls cells slots mc ms hc hs hS hF hL
theorem aw_iast {a n : Nat} {f : Nat → Int32} {i x : Int32} {h' : List va_E} (hd : decode M.2.1 pc = .ok (.iastore, 1)) (he : h[a]? = some (.inl (0, n, .inl f))) (hin : vp_in i n) (hh : h.set a (.inl (0, n, .inl (upd f i.toNatClampNeg x))) = h') (kk : AW V M d kc ks (pc + 1) L st h' R) : AW V M d kc ks pc L (.int x :: .int i :: .ref a :: st) h R := by
  subst hh
  intro p e s m args below meth c C H locs ls cells slots mc ms hc hs hS hF hL
  have hts := C.2.2.2.2.2.1
  have hown := C.2.2.2.2.1
  have hK := C.2.2.2.2.2.2.2.1
  have hat : H[am_ad V a]? = some (vp_cell (V.2.2.1 0) (n, .inl f)) := hS.at he
  refine W.iast C.1 C.2.1 hat ((hK.2 0 _ rfl).1 n (fun j => .int (f j))) (fun q => by cases q) (by show ¬ (i < 0 ∨ (arrV _ _ _).slots.size ≤ _); rw [arrV_size]; exact hin) rfl rfl hd fun H1 e1 z oq => ?_
  refine kk p e s m args below meth c C H1 _ ls cells slots mc ms hc hs (hS.set he ?_ z oq) (hF.put z oq (hS.in he)) hL
  show H1[am_ad V a]? = some (vp_cell _ _)
  rw [e1]
  simp only [am_ca]
  rw [vp_cell_i, vp_cell_i, arrV_store]
  congr 2
  funext q
  by_cases hq : q = i.toNatClampNeg
  · subst hq
    simp [updV, upd, vp_nar]
    try rfl
  · simp [updV, upd, hq]
theorem aw_bast {a n : Nat} {f : Nat → Int32} {i x : Int32} {h' : List va_E} (hd : decode M.2.1 pc = .ok (.bastore, 1)) (he : h[a]? = some (.inl (1, n, .inl f))) (hin : vp_in i n) (hh : h.set a (.inl (1, n, .inl (upd f i.toNatClampNeg (vp_nar .byte x)))) = h') (kk : AW V M d kc ks (pc + 1) L st h' R) : AW V M d kc ks pc L (.int x :: .int i :: .ref a :: st) h R := by
  subst hh
  intro p e s m args below meth c C H locs ls cells slots mc ms hc hs hS hF hL
  have hts := C.2.2.2.2.2.1
  have hown := C.2.2.2.2.1
  have hK := C.2.2.2.2.2.2.2.1
  have hat : H[am_ad V a]? = some (vp_cell (V.2.2.1 1) (n, .inl f)) := hS.at he
  refine W.bast C.1 C.2.1 hat ((hK.2 1 _ rfl).1 n (fun j => .int (f j))) (fun q => by cases q) (by show ¬ (i < 0 ∨ (arrV _ _ _).slots.size ≤ _); rw [arrV_size]; exact hin) rfl rfl hd fun H1 e1 z oq => ?_
  refine kk p e s m args below meth c C H1 _ ls cells slots mc ms hc hs (hS.set he ?_ z oq) (hF.put z oq (hS.in he)) hL
  show H1[am_ad V a]? = some (vp_cell _ _)
  rw [e1]
  simp only [am_ca]
  rw [vp_cell_i, vp_cell_i, arrV_store]
  congr 2
  funext q
  by_cases hq : q = i.toNatClampNeg
  · subst hq
    simp [updV, upd, vp_nar]
    try rfl
  · simp [updV, upd, hq]
theorem aw_zast {a n : Nat} {f : Nat → Int32} {i x : Int32} {h' : List va_E} (hd : decode M.2.1 pc = .ok (.bastore, 1)) (he : h[a]? = some (.inl (2, n, .inl f))) (hin : vp_in i n) (hh : h.set a (.inl (2, n, .inl (upd f i.toNatClampNeg (vp_nar .boolean x)))) = h') (kk : AW V M d kc ks (pc + 1) L st h' R) : AW V M d kc ks pc L (.int x :: .int i :: .ref a :: st) h R := by
  subst hh
  intro p e s m args below meth c C H locs ls cells slots mc ms hc hs hS hF hL
  have hts := C.2.2.2.2.2.1
  have hown := C.2.2.2.2.1
  have hK := C.2.2.2.2.2.2.2.1
  have hat : H[am_ad V a]? = some (vp_cell (V.2.2.1 2) (n, .inl f)) := hS.at he
  refine W.zast C.1 C.2.1 hat ((hK.2 2 _ rfl).1 n (fun j => .int (f j))) (fun q => by cases q) (by show ¬ (i < 0 ∨ (arrV _ _ _).slots.size ≤ _); rw [arrV_size]; exact hin) rfl rfl hd fun H1 e1 z oq => ?_
  refine kk p e s m args below meth c C H1 _ ls cells slots mc ms hc hs (hS.set he ?_ z oq) (hF.put z oq (hS.in he)) hL
  show H1[am_ad V a]? = some (vp_cell _ _)
  rw [e1]
  simp only [am_ca]
  rw [vp_cell_i, vp_cell_i, arrV_store]
  congr 2
  funext q
  by_cases hq : q = i.toNatClampNeg
  · subst hq
    simp [updV, upd, vp_nar]
    try rfl
  · simp [updV, upd, hq]
theorem aw_alen {a n t : Nat} {x : (Nat → Int32) ⊕ (Nat → Int64) ⊕ (Nat → UInt32) ⊕ (Nat → UInt64) ⊕ (Nat → Option Nat)} {ty : FieldType} (hd : decode M.2.1 pc = .ok (.arraylength, 1)) (he : h[a]? = some (.inl (t, n, x))) (ht : (am_tys V)[t]? = some (V.2.2.1 t, ty)) (kk : AW V M d kc ks (pc + 1) L (.int (Int32.ofNat n) :: st) h R) : AW V M d kc ks pc L (.ref a :: st) h R := by
  intro p e s m args below meth c C H locs ls cells slots mc ms hc hs hS hF hL
  have hts := C.2.2.2.2.2.1
  have hown := C.2.2.2.2.1
  have hK := C.2.2.2.2.2.2.2.1
  have hn : (am_ca V (n, x)).1 = n := by
    rcases x with x | x | x | x | x <;> rfl
  exact va_alen (D := V.2.1) (cl := am_cl) (tys := am_tys V) (ws := [(am_ad V a, am_ce V (.inl (t, n, x)))]) C.1 C.2.1 hK (hS.one he) 0 t rfl ht (by rw [hn]) hd (kk p e s m args below meth c C H locs ls cells slots mc ms hc hs hS hF hL)
theorem aw_mmin {idx : Nat} {x y : Int32} (hd : decode M.2.1 pc = .ok (.invokestatic idx, 3)) (hl : Cond.methodLink M.1.cls idx Lib.Math.min.name ∈ am_T) (hw : (st.map fun v => v.category).sum ≤ 8) (kk : AW V M (d + 1) kc ks (pc + 3) L (.int (if y < x then y else x) :: st) h R) : AW V M (d + 1) kc ks pc L (.int y :: .int x :: st) h R := by
  intro p e s m args below meth c C H locs ls cells slots mc ms hc hs hS hF hL
  have hts := C.2.2.2.2.2.1
  have hown := C.2.2.2.2.1
  have hK := C.2.2.2.2.2.2.2.1
  have hcat : ((st.map (am_cv V)).map fun v => v.category).sum ≤ 8 := by
    rw [List.map_map, show ((fun v : Value => v.category) ∘ am_cv V) = (fun v => v.category) from funext (am_cat V)]
    exact hw
  exact va_mmin C.1 C.2.1 (C.2.2.1.trans hL.2.1.symm) hown (hts _ hl) (hts _ am_mmin_st) (hts _ am_math_in) (hts _ am_mmin_co) (Nat.succ_le_succ (Nat.zero_le d)) (by show _ + 13 ≤ 40 * (d + 1); omega) (by show cells ≤ mc; omega) (by show slots ≤ ms; omega) hd (kk p e s m args below meth c C H locs ls cells slots mc ms hc hs hS hF hL)
theorem aw_mmax {idx : Nat} {x y : Int32} (hd : decode M.2.1 pc = .ok (.invokestatic idx, 3)) (hl : Cond.methodLink M.1.cls idx Lib.Math.max.name ∈ am_T) (hw : (st.map fun v => v.category).sum ≤ 8) (kk : AW V M (d + 1) kc ks (pc + 3) L (.int (if x < y then y else x) :: st) h R) : AW V M (d + 1) kc ks pc L (.int y :: .int x :: st) h R := by
  intro p e s m args below meth c C H locs ls cells slots mc ms hc hs hS hF hL
  have hts := C.2.2.2.2.2.1
  have hown := C.2.2.2.2.1
  have hK := C.2.2.2.2.2.2.2.1
  have hcat : ((st.map (am_cv V)).map fun v => v.category).sum ≤ 8 := by
    rw [List.map_map, show ((fun v : Value => v.category) ∘ am_cv V) = (fun v => v.category) from funext (am_cat V)]
    exact hw
  exact va_mmax C.1 C.2.1 (C.2.2.1.trans hL.2.1.symm) hown (hts _ hl) (hts _ am_mmax_st) (hts _ am_math_in) (hts _ am_mmax_co) (Nat.succ_le_succ (Nat.zero_le d)) (by show _ + 13 ≤ 40 * (d + 1); omega) (by show cells ≤ mc; omega) (by show slots ≤ ms; omega) hd (kk p e s m args below meth c C H locs ls cells slots mc ms hc hs hS hF hL)
theorem aw_mabs {idx : Nat} {x : Int32} (hd : decode M.2.1 pc = .ok (.invokestatic idx, 3)) (hl : Cond.methodLink M.1.cls idx Lib.Math.abs.name ∈ am_T) (hw : (st.map fun v => v.category).sum ≤ 8) (kk : AW V M (d + 1) kc ks (pc + 3) L (.int (if 0 ≤ x then x else 0 - x) :: st) h R) : AW V M (d + 1) kc ks pc L (.int x :: st) h R := by
  intro p e s m args below meth c C H locs ls cells slots mc ms hc hs hS hF hL
  have hts := C.2.2.2.2.2.1
  have hown := C.2.2.2.2.1
  have hK := C.2.2.2.2.2.2.2.1
  have hcat : ((st.map (am_cv V)).map fun v => v.category).sum ≤ 8 := by
    rw [List.map_map, show ((fun v : Value => v.category) ∘ am_cv V) = (fun v => v.category) from funext (am_cat V)]
    exact hw
  exact va_mabs C.1 C.2.1 (C.2.2.1.trans hL.2.1.symm) hown (hts _ hl) (hts _ am_mabs_st) (hts _ am_math_in) (hts _ am_mabs_co) (Nat.succ_le_succ (Nat.zero_le d)) (by show _ + 13 ≤ 40 * (d + 1); omega) (by show cells ≤ mc; omega) (by show slots ≤ ms; omega) hd (kk p e s m args below meth c C H locs ls cells slots mc ms hc hs hS hF hL)
theorem am_call {p : Program} {l : Launch} {e : Env} {Rm : Room} {s : State} {m : MethodId} {args : Array Value} {below : List Frame} {meth : Method} {c : Code} {H H0 : Heap} {locs : List Loc} {cells slots mc ms : Nat} {Q : State → Prop} {ls : Array Slot} {rest st0 : List Value} {a : Array Value} {R' : Option Value → List va_E → Prop}
    (hr : va_Run p l e Rm s m args below meth c H locs cells slots mc ms (F0 m pc ls st0) rest (am_Q V R' a) (am_A V)) (hS : va_S (am_A V) H0 H locs)
    (kk : ∀ (r : Option Value) (h' : List va_E) (H1 : Heap) (locs1 : List Loc), R' r h' → am_S V h' H1 → va_S (am_A V) H0 H1 locs1 → W p l e Rm s m args below meth c H1 locs1 (cells + mc) (slots + ms) Q (F0 m (pc + 3) ls ((r.map (am_cv V)).toList ++ rest))) : W p l e Rm s m args below meth c H locs cells slots Q (F0 m pc ls st0) := by
  intro T hT X
  obtain ⟨v, st₀, t, T', L', h0, X', hL, e1, e2, ⟨⟨r, h', hv, hp, hb⟩, hz, hk⟩, st⟩ := hr T hT X
  cases hv
  rw [h0] at hz hk
  obtain ⟨t2, a1, b1⟩ := kk r h' T'.heap (locs ++ L') hp (by rw [e1]; exact hb)
    ⟨Nat.le_trans hS.1 (by rw [e1]; exact hz), fun q h1 h2 => by rw [e1, hk q (Nat.lt_of_lt_of_le h1 hS.1) h2]; exact hS.2.1 q h1 h2, fun q hq => by
      rcases List.mem_append.mp hq with h | h
      · exact hS.2.2 q h
      · exact hL q h⟩ T' rfl X'
  exact ⟨t2, st t2 a1, b1⟩
theorem am_restL {r : Option Value} : (r.map (am_cv V)).toList ++ st.map (am_cv V) = (r.toList ++ st).map (am_cv V) := by cases r <;> rfl
theorem am_restC (hw : (st.map fun v => v.category).sum ≤ 8) : ((st.map (am_cv V)).map fun v => v.category).sum ≤ 8 := by
  rw [List.map_map, show ((fun v : Value => v.category) ∘ am_cv V) = (fun v => v.category) from funext (am_cat V)]
  exact hw
theorem aw_callV {M' : am_M} {b ci idx kc' ks' : Nat} {q : vw_C} {fs : List Value} {host : String} {as stk : List Value} (hd : decode M.2.1 pc = .ok (.invokevirtual idx, 3)) (hl : Cond.methodLink M.1.cls idx M'.1 ∈ am_T) (ho : am_okV M') (hn : (parseMethodDescriptor M'.1.desc).map (fun d => d.parameters.length) = some as.length) (he : h[b]? = some (.inr (ci, fs))) (hq : am_cl[ci]? = some q) (hqc : q.1 = M'.1.cls) (hst : as.reverse ++ .ref b :: st = stk) (hw : (st.map fun v => v.category).sum ≤ 8) (kk : AM V M' d kc' ks' (.ref b :: as) h (fun r h' => AW V M (d + 1) kc ks (pc + 3) L (r.toList ++ st) h' R)) : AW V M (d + 1) (kc' + kc) (ks' + ks) pc L stk h R := by
  subst hst
  intro p e s m args below meth c C H locs ls cells slots mc ms hc hs hS hF hL
  have hts := C.2.2.2.2.2.1
  have hown := C.2.2.2.2.1
  have hK := C.2.2.2.2.2.2.2.1
  have hrm : (am_rm d kc' ks').frames + 1 ≤ (am_rm (d + 1) mc ms).frames ∧ 8 + (M'.2.2.1 + 11) + (am_rm d kc' ks').locals ≤ (am_rm (d + 1) mc ms).locals := ⟨Nat.le_refl _, by show 8 + (M'.2.2.1 + 11) + 40 * d ≤ 40 * (d + 1); have := ho.1.2.2.2.2.2; omega⟩
  refine am_call (R' := fun r h' => AW V M (d + 1) kc ks (pc + 3) L (r.toList ++ st) h' R) (va_runV (As := as.map (am_cv V)) (rest := st.map (am_cv V)) (b := am_ad V b) ⟨C.1, C.2.1, C.2.2.1, hown, hts⟩ kk ⟨callB_of as.length hts (am_ws_good ho.1) rfl rfl rfl (hts _ ho.1.2.1) (hts _ hl) ⟨ho.1.2.2.1, ho.1.2.2.2.1, hn⟩ hrm, hts _ ho.2.1, hts _ ho.2.2⟩ ⟨am_P.blind, by rw [← hqc]; exact va_recv hK (hS.one he) hq (q0 := 0) rfl, fun U hU hW => ⟨rfl, C.2.2.2.2.2.2.1.warm hW hU hF, va_K.moved hW.alike hK, by rw [hU]; exact hS⟩⟩ rfl (by rw [List.length_map]) hL.2.1 (by simp [am_cv]) (lv_room (am_restC hw)) hd ⟨by show cells + kc' ≤ mc; omega, by show slots + ks' ≤ ms; omega⟩) hF (fun r h' H1 locs1 hR hS1 hF1 => ?_)
  rw [am_restL]
  exact hR p e s m args below meth c C H1 locs1 ls (cells + kc') (slots + ks') mc ms (by omega) (by omega) hS1 hF1 hL
theorem aw_callS {M' : am_M} {b ci idx kc' ks' : Nat} {q : vw_C} {fs : List Value} {host : String} {as stk : List Value} (hd : decode M.2.1 pc = .ok (.invokestatic idx, 3)) (hl : Cond.methodLink M.1.cls idx M'.1 ∈ am_T) (ho : am_okS M') (hn : (parseMethodDescriptor M'.1.desc).map (fun d => d.parameters.length) = some as.length) (hst : as.reverse ++ st = stk) (hw : (st.map fun v => v.category).sum ≤ 8) (kk : AM V M' d kc' ks' as h (fun r h' => AW V M (d + 1) kc ks (pc + 3) L (r.toList ++ st) h' R)) : AW V M (d + 1) (kc' + kc) (ks' + ks) pc L stk h R := by
  subst hst
  intro p e s m args below meth c C H locs ls cells slots mc ms hc hs hS hF hL
  have hts := C.2.2.2.2.2.1
  have hown := C.2.2.2.2.1
  have hK := C.2.2.2.2.2.2.2.1
  have hrm : (am_rm d kc' ks').frames + 1 ≤ (am_rm (d + 1) mc ms).frames ∧ 8 + (M'.2.2.1 + 11) + (am_rm d kc' ks').locals ≤ (am_rm (d + 1) mc ms).locals := ⟨Nat.le_refl _, by show 8 + (M'.2.2.1 + 11) + 40 * d ≤ 40 * (d + 1); have := ho.1.2.2.2.2.2; omega⟩
  refine am_call (R' := fun r h' => AW V M (d + 1) kc ks (pc + 3) L (r.toList ++ st) h' R) (va_runS (As := as.map (am_cv V)) (rest := st.map (am_cv V)) ⟨C.1, C.2.1, C.2.2.1, hown, hts⟩ kk ⟨callB_of as.length hts (am_ws_good ho.1) rfl rfl rfl (hts _ ho.1.2.1) (hts _ hl) ⟨ho.1.2.2.1, ho.1.2.2.2.1, hn⟩ hrm, hts _ ho.2⟩ ⟨am_P.blind, fun U hU hW => ⟨rfl, C.2.2.2.2.2.2.1.warm hW hU hF, va_K.moved hW.alike hK, by rw [hU]; exact hS⟩⟩ rfl (by rw [List.length_map]) hL.2.1 (by simp [am_cv]) (lv_room (am_restC hw)) hd ⟨by show cells + kc' ≤ mc; omega, by show slots + ks' ≤ ms; omega⟩) hF (fun r h' H1 locs1 hR hS1 hF1 => ?_)
  rw [am_restL]
  exact hR p e s m args below meth c C H1 locs1 ls (cells + kc') (slots + ks') mc ms (by omega) (by omega) hS1 hF1 hL
theorem aw_callSN {M' : am_M} {b ci idx kc' ks' : Nat} {q : vw_C} {fs : List Value} {host : String} {as stk : List Value} (hd : decode M.2.1 pc = .ok (.invokestatic idx, 3)) (hl : Cond.methodLinkNest M.1.cls idx M'.1 host ∈ am_nest) (ho : am_okS M') (hn : (parseMethodDescriptor M'.1.desc).map (fun d => d.parameters.length) = some as.length) (hst : as.reverse ++ st = stk) (hw : (st.map fun v => v.category).sum ≤ 8) (kk : AM V M' d kc' ks' as h (fun r h' => AW V M (d + 1) kc ks (pc + 3) L (r.toList ++ st) h' R)) : AW V M (d + 1) (kc' + kc) (ks' + ks) pc L stk h R := by
  subst hst
  intro p e s m args below meth c C H locs ls cells slots mc ms hc hs hS hF hL
  have hts := C.2.2.2.2.2.1
  have hown := C.2.2.2.2.1
  have hK := C.2.2.2.2.2.2.2.1
  have hrm : (am_rm d kc' ks').frames + 1 ≤ (am_rm (d + 1) mc ms).frames ∧ 8 + (M'.2.2.1 + 11) + (am_rm d kc' ks').locals ≤ (am_rm (d + 1) mc ms).locals := ⟨Nat.le_refl _, by show 8 + (M'.2.2.1 + 11) + 40 * d ≤ 40 * (d + 1); have := ho.1.2.2.2.2.2; omega⟩
  refine am_call (R' := fun r h' => AW V M (d + 1) kc ks (pc + 3) L (r.toList ++ st) h' R) (va_runSN (As := as.map (am_cv V)) (rest := st.map (am_cv V)) ⟨C.1, C.2.1, C.2.2.1, hown, hts⟩ kk ⟨va_cnB as.length hts (am_ws_good ho.1) rfl rfl rfl (C.2.2.2.2.2.2.1.1 _ hl) (hts _ ho.1.2.1) ⟨ho.1.2.2.1, ho.1.2.2.2.1, hn⟩ hrm, hts _ ho.2, trivial⟩ ⟨am_P.blind, fun U hU hW => ⟨rfl, C.2.2.2.2.2.2.1.warm hW hU hF, va_K.moved hW.alike hK, by rw [hU]; exact hS⟩⟩ rfl (by rw [List.length_map]) hL.2.1 (by simp [am_cv]) (lv_room (am_restC hw)) hd ⟨by show cells + kc' ≤ mc; omega, by show slots + ks' ≤ ms; omega⟩) hF (fun r h' H1 locs1 hR hS1 hF1 => ?_)
  rw [am_restL]
  exact hR p e s m args below meth c C H1 locs1 ls (cells + kc') (slots + ks') mc ms (by omega) (by omega) hS1 hF1 hL
theorem aw_callI {M' : am_M} {b ci idx kc' ks' : Nat} {q : vw_C} {fs : List Value} {host : String} {as stk : List Value} (hd : decode M.2.1 pc = .ok (.invokespecial idx, 3)) (hl : Cond.methodLink M.1.cls idx M'.1 ∈ am_T) (hrt : M'.2.2.2 = none) (ho : am_okI M') (hn : (parseMethodDescriptor M'.1.desc).map (fun d => d.parameters.length) = some as.length) (hst : as.reverse ++ .ref b :: st = stk) (hw : (st.map fun v => v.category).sum ≤ 8) (kk : AM V M' d kc' ks' (.ref b :: as) h (fun r h' => AW V M (d + 1) kc ks (pc + 3) L (r.toList ++ st) h' R)) : AW V M (d + 1) (kc' + kc) (ks' + ks) pc L stk h R := by
  subst hst
  intro p e s m args below meth c C H locs ls cells slots mc ms hc hs hS hF hL
  have hts := C.2.2.2.2.2.1
  have hown := C.2.2.2.2.1
  have hK := C.2.2.2.2.2.2.2.1
  have hrm : (am_rm d kc' ks').frames + 1 ≤ (am_rm (d + 1) mc ms).frames ∧ 8 + (M'.2.2.1 + 11) + (am_rm d kc' ks').locals ≤ (am_rm (d + 1) mc ms).locals := ⟨Nat.le_refl _, by show 8 + (M'.2.2.1 + 11) + 40 * d ≤ 40 * (d + 1); have := ho.1.2.2.2.2.2; omega⟩
  refine am_call (R' := fun r h' => AW V M (d + 1) kc ks (pc + 3) L (r.toList ++ st) h' R) (va_runI (As := as.map (am_cv V)) (rest := st.map (am_cv V)) (b := am_ad V b) ⟨C.1, C.2.1, C.2.2.1, hown, hts⟩ kk ⟨callB_of as.length hts (am_ws_good ho.1) (show am_ws M' = Cond.code M'.1 M'.2.1 M'.2.2.1 none :: am_T by rw [am_ws, hrt]) rfl rfl (hts _ ho.1.2.1) (hts _ hl) ⟨ho.1.2.2.1, ho.1.2.2.2.1, hn⟩ hrm, ho.2.2, hts _ ho.2.1⟩ ⟨am_P.blind, fun U hU hW => ⟨rfl, C.2.2.2.2.2.2.1.warm hW hU hF, va_K.moved hW.alike hK, by rw [hU]; exact hS⟩⟩ rfl (by rw [List.length_map]) hL.2.1 (by simp [am_cv]) (lv_room (am_restC hw)) hd ⟨by show cells + kc' ≤ mc; omega, by show slots + ks' ≤ ms; omega⟩) hF (fun r h' H1 locs1 hR hS1 hF1 => ?_)
  rw [am_restL]
  exact hR p e s m args below meth c C H1 locs1 ls (cells + kc') (slots + ks') mc ms (by omega) (by omega) hS1 hF1 hL
theorem aw_callIN {M' : am_M} {b ci idx kc' ks' : Nat} {q : vw_C} {fs : List Value} {host : String} {as stk : List Value} (hd : decode M.2.1 pc = .ok (.invokespecial idx, 3)) (hl : Cond.methodLinkNest M.1.cls idx M'.1 host ∈ am_nest) (hrt : M'.2.2.2 = none) (ho : am_okI M') (hn : (parseMethodDescriptor M'.1.desc).map (fun d => d.parameters.length) = some as.length) (hst : as.reverse ++ .ref b :: st = stk) (hw : (st.map fun v => v.category).sum ≤ 8) (kk : AM V M' d kc' ks' (.ref b :: as) h (fun r h' => AW V M (d + 1) kc ks (pc + 3) L (r.toList ++ st) h' R)) : AW V M (d + 1) (kc' + kc) (ks' + ks) pc L stk h R := by
  subst hst
  intro p e s m args below meth c C H locs ls cells slots mc ms hc hs hS hF hL
  have hts := C.2.2.2.2.2.1
  have hown := C.2.2.2.2.1
  have hK := C.2.2.2.2.2.2.2.1
  have hrm : (am_rm d kc' ks').frames + 1 ≤ (am_rm (d + 1) mc ms).frames ∧ 8 + (M'.2.2.1 + 11) + (am_rm d kc' ks').locals ≤ (am_rm (d + 1) mc ms).locals := ⟨Nat.le_refl _, by show 8 + (M'.2.2.1 + 11) + 40 * d ≤ 40 * (d + 1); have := ho.1.2.2.2.2.2; omega⟩
  refine am_call (R' := fun r h' => AW V M (d + 1) kc ks (pc + 3) L (r.toList ++ st) h' R) (va_runIN (As := as.map (am_cv V)) (rest := st.map (am_cv V)) (b := am_ad V b) ⟨C.1, C.2.1, C.2.2.1, hown, hts⟩ kk ⟨va_cnB as.length hts (am_ws_good ho.1) (show am_ws M' = Cond.code M'.1 M'.2.1 M'.2.2.1 none :: am_T by rw [am_ws, hrt]) rfl rfl (C.2.2.2.2.2.2.1.1 _ hl) (hts _ ho.1.2.1) ⟨ho.1.2.2.1, ho.1.2.2.2.1, hn⟩ hrm, ho.2.2, hts _ ho.2.1⟩ ⟨am_P.blind, fun U hU hW => ⟨rfl, C.2.2.2.2.2.2.1.warm hW hU hF, va_K.moved hW.alike hK, by rw [hU]; exact hS⟩⟩ rfl (by rw [List.length_map]) hL.2.1 (by simp [am_cv]) (lv_room (am_restC hw)) hd ⟨by show cells + kc' ≤ mc; omega, by show slots + ks' ≤ ms; omega⟩) hF (fun r h' H1 locs1 hR hS1 hF1 => ?_)
  rw [am_restL]
  exact hR p e s m args below meth c C H1 locs1 ls (cells + kc') (slots + ks') mc ms (by omega) (by omega) hS1 hF1 hL
end AMF
