section AMSW
variable {V : am_V} {M : am_M} {d kc ks pc : Nat} {L : List (Option Value)} {st : List Value} {h : List va_E} {R : Option Value → List va_E → Prop}
theorem aw_tab3 {dflt o0 o1 o2 : Int} {len : Nat} {x : Int32} {td t0 t1 t2 : Nat} (hd : decode M.2.1 pc = .ok (.tableswitch dflt 0 2 #[o0, o1, o2], len)) (hdf : (pc : Int) + dflt = (td : Int)) (h0 : (pc : Int) + o0 = (t0 : Int)) (h1 : (pc : Int) + o1 = (t1 : Int)) (h2 : (pc : Int) + o2 = (t2 : Int)) (k0 : x = 0 → AW V M d kc ks t0 L st h R) (k1 : ¬ x = 0 → x = 1 → AW V M d kc ks t1 L st h R) (k2 : ¬ x = 0 → ¬ x = 1 → x = 2 → AW V M d kc ks t2 L st h R) (kd : ¬ x = 0 → ¬ x = 1 → ¬ x = 2 → AW V M d kc ks td L st h R) : AW V M d kc ks pc L (.int x :: st) h R := by
  by_cases c0 : x = 0
  · exact aw_tableIn (off := o0) hd (by rw [c0]; decide) (by rw [c0]; decide) (by rw [c0]; rfl) h0 (k0 c0)
  by_cases c1 : x = 1
  · exact aw_tableIn (off := o1) hd (by rw [c1]; decide) (by rw [c1]; decide) (by rw [c1]; rfl) h1 (k1 c0 c1)
  by_cases c2 : x = 2
  · exact aw_tableIn (off := o2) hd (by rw [c2]; decide) (by rw [c2]; decide) (by rw [c2]; rfl) h2 (k2 c0 c1 c2)
  refine aw_tableOut hd ?_ hdf (kd c0 c1 c2)
  rcases (show x.toInt < 0 ∨ 2 < x.toInt ∨ x.toInt = 0 ∨ x.toInt = 1 ∨ x.toInt = 2 by omega) with q | q | q | q | q
  · exact Or.inl q
  · exact Or.inr q
  · exact absurd (Int32.toInt_inj.mp (by rw [q]; rfl)) c0
  · exact absurd (Int32.toInt_inj.mp (by rw [q]; rfl)) c1
  · exact absurd (Int32.toInt_inj.mp (by rw [q]; rfl)) c2
theorem aw_tab5 {dflt o0 o1 o2 o3 o4 : Int} {len : Nat} {x : Int32} {td t0 t1 t2 t3 t4 : Nat} (hd : decode M.2.1 pc = .ok (.tableswitch dflt 0 4 #[o0, o1, o2, o3, o4], len)) (hdf : (pc : Int) + dflt = (td : Int)) (h0 : (pc : Int) + o0 = (t0 : Int)) (h1 : (pc : Int) + o1 = (t1 : Int)) (h2 : (pc : Int) + o2 = (t2 : Int)) (h3 : (pc : Int) + o3 = (t3 : Int)) (h4 : (pc : Int) + o4 = (t4 : Int)) (k0 : x = 0 → AW V M d kc ks t0 L st h R) (k1 : ¬ x = 0 → x = 1 → AW V M d kc ks t1 L st h R) (k2 : ¬ x = 0 → ¬ x = 1 → x = 2 → AW V M d kc ks t2 L st h R) (k3 : ¬ x = 0 → ¬ x = 1 → ¬ x = 2 → x = 3 → AW V M d kc ks t3 L st h R) (k4 : ¬ x = 0 → ¬ x = 1 → ¬ x = 2 → ¬ x = 3 → x = 4 → AW V M d kc ks t4 L st h R) (kd : ¬ x = 0 → ¬ x = 1 → ¬ x = 2 → ¬ x = 3 → ¬ x = 4 → AW V M d kc ks td L st h R) : AW V M d kc ks pc L (.int x :: st) h R := by
  by_cases c0 : x = 0
  · exact aw_tableIn (off := o0) hd (by rw [c0]; decide) (by rw [c0]; decide) (by rw [c0]; rfl) h0 (k0 c0)
  by_cases c1 : x = 1
  · exact aw_tableIn (off := o1) hd (by rw [c1]; decide) (by rw [c1]; decide) (by rw [c1]; rfl) h1 (k1 c0 c1)
  by_cases c2 : x = 2
  · exact aw_tableIn (off := o2) hd (by rw [c2]; decide) (by rw [c2]; decide) (by rw [c2]; rfl) h2 (k2 c0 c1 c2)
  by_cases c3 : x = 3
  · exact aw_tableIn (off := o3) hd (by rw [c3]; decide) (by rw [c3]; decide) (by rw [c3]; rfl) h3 (k3 c0 c1 c2 c3)
  by_cases c4 : x = 4
  · exact aw_tableIn (off := o4) hd (by rw [c4]; decide) (by rw [c4]; decide) (by rw [c4]; rfl) h4 (k4 c0 c1 c2 c3 c4)
  refine aw_tableOut hd ?_ hdf (kd c0 c1 c2 c3 c4)
  rcases (show x.toInt < 0 ∨ 4 < x.toInt ∨ x.toInt = 0 ∨ x.toInt = 1 ∨ x.toInt = 2 ∨ x.toInt = 3 ∨ x.toInt = 4 by omega) with q | q | q | q | q | q | q
  · exact Or.inl q
  · exact Or.inr q
  · exact absurd (Int32.toInt_inj.mp (by rw [q]; rfl)) c0
  · exact absurd (Int32.toInt_inj.mp (by rw [q]; rfl)) c1
  · exact absurd (Int32.toInt_inj.mp (by rw [q]; rfl)) c2
  · exact absurd (Int32.toInt_inj.mp (by rw [q]; rfl)) c3
  · exact absurd (Int32.toInt_inj.mp (by rw [q]; rfl)) c4
theorem aw_tab6 {dflt o0 o1 o2 o3 o4 o5 : Int} {len : Nat} {x : Int32} {td t0 t1 t2 t3 t4 t5 : Nat} (hd : decode M.2.1 pc = .ok (.tableswitch dflt 0 5 #[o0, o1, o2, o3, o4, o5], len)) (hdf : (pc : Int) + dflt = (td : Int)) (h0 : (pc : Int) + o0 = (t0 : Int)) (h1 : (pc : Int) + o1 = (t1 : Int)) (h2 : (pc : Int) + o2 = (t2 : Int)) (h3 : (pc : Int) + o3 = (t3 : Int)) (h4 : (pc : Int) + o4 = (t4 : Int)) (h5 : (pc : Int) + o5 = (t5 : Int)) (k0 : x = 0 → AW V M d kc ks t0 L st h R) (k1 : ¬ x = 0 → x = 1 → AW V M d kc ks t1 L st h R) (k2 : ¬ x = 0 → ¬ x = 1 → x = 2 → AW V M d kc ks t2 L st h R) (k3 : ¬ x = 0 → ¬ x = 1 → ¬ x = 2 → x = 3 → AW V M d kc ks t3 L st h R) (k4 : ¬ x = 0 → ¬ x = 1 → ¬ x = 2 → ¬ x = 3 → x = 4 → AW V M d kc ks t4 L st h R) (k5 : ¬ x = 0 → ¬ x = 1 → ¬ x = 2 → ¬ x = 3 → ¬ x = 4 → x = 5 → AW V M d kc ks t5 L st h R) (kd : ¬ x = 0 → ¬ x = 1 → ¬ x = 2 → ¬ x = 3 → ¬ x = 4 → ¬ x = 5 → AW V M d kc ks td L st h R) : AW V M d kc ks pc L (.int x :: st) h R := by
  by_cases c0 : x = 0
  · exact aw_tableIn (off := o0) hd (by rw [c0]; decide) (by rw [c0]; decide) (by rw [c0]; rfl) h0 (k0 c0)
  by_cases c1 : x = 1
  · exact aw_tableIn (off := o1) hd (by rw [c1]; decide) (by rw [c1]; decide) (by rw [c1]; rfl) h1 (k1 c0 c1)
  by_cases c2 : x = 2
  · exact aw_tableIn (off := o2) hd (by rw [c2]; decide) (by rw [c2]; decide) (by rw [c2]; rfl) h2 (k2 c0 c1 c2)
  by_cases c3 : x = 3
  · exact aw_tableIn (off := o3) hd (by rw [c3]; decide) (by rw [c3]; decide) (by rw [c3]; rfl) h3 (k3 c0 c1 c2 c3)
  by_cases c4 : x = 4
  · exact aw_tableIn (off := o4) hd (by rw [c4]; decide) (by rw [c4]; decide) (by rw [c4]; rfl) h4 (k4 c0 c1 c2 c3 c4)
  by_cases c5 : x = 5
  · exact aw_tableIn (off := o5) hd (by rw [c5]; decide) (by rw [c5]; decide) (by rw [c5]; rfl) h5 (k5 c0 c1 c2 c3 c4 c5)
  refine aw_tableOut hd ?_ hdf (kd c0 c1 c2 c3 c4 c5)
  rcases (show x.toInt < 0 ∨ 5 < x.toInt ∨ x.toInt = 0 ∨ x.toInt = 1 ∨ x.toInt = 2 ∨ x.toInt = 3 ∨ x.toInt = 4 ∨ x.toInt = 5 by omega) with q | q | q | q | q | q | q | q
  · exact Or.inl q
  · exact Or.inr q
  · exact absurd (Int32.toInt_inj.mp (by rw [q]; rfl)) c0
  · exact absurd (Int32.toInt_inj.mp (by rw [q]; rfl)) c1
  · exact absurd (Int32.toInt_inj.mp (by rw [q]; rfl)) c2
  · exact absurd (Int32.toInt_inj.mp (by rw [q]; rfl)) c3
  · exact absurd (Int32.toInt_inj.mp (by rw [q]; rfl)) c4
  · exact absurd (Int32.toInt_inj.mp (by rw [q]; rfl)) c5
theorem aw_tab7 {dflt o0 o1 o2 o3 o4 o5 o6 : Int} {len : Nat} {x : Int32} {td t0 t1 t2 t3 t4 t5 t6 : Nat} (hd : decode M.2.1 pc = .ok (.tableswitch dflt 0 6 #[o0, o1, o2, o3, o4, o5, o6], len)) (hdf : (pc : Int) + dflt = (td : Int)) (h0 : (pc : Int) + o0 = (t0 : Int)) (h1 : (pc : Int) + o1 = (t1 : Int)) (h2 : (pc : Int) + o2 = (t2 : Int)) (h3 : (pc : Int) + o3 = (t3 : Int)) (h4 : (pc : Int) + o4 = (t4 : Int)) (h5 : (pc : Int) + o5 = (t5 : Int)) (h6 : (pc : Int) + o6 = (t6 : Int)) (k0 : x = 0 → AW V M d kc ks t0 L st h R) (k1 : ¬ x = 0 → x = 1 → AW V M d kc ks t1 L st h R) (k2 : ¬ x = 0 → ¬ x = 1 → x = 2 → AW V M d kc ks t2 L st h R) (k3 : ¬ x = 0 → ¬ x = 1 → ¬ x = 2 → x = 3 → AW V M d kc ks t3 L st h R) (k4 : ¬ x = 0 → ¬ x = 1 → ¬ x = 2 → ¬ x = 3 → x = 4 → AW V M d kc ks t4 L st h R) (k5 : ¬ x = 0 → ¬ x = 1 → ¬ x = 2 → ¬ x = 3 → ¬ x = 4 → x = 5 → AW V M d kc ks t5 L st h R) (k6 : ¬ x = 0 → ¬ x = 1 → ¬ x = 2 → ¬ x = 3 → ¬ x = 4 → ¬ x = 5 → x = 6 → AW V M d kc ks t6 L st h R) (kd : ¬ x = 0 → ¬ x = 1 → ¬ x = 2 → ¬ x = 3 → ¬ x = 4 → ¬ x = 5 → ¬ x = 6 → AW V M d kc ks td L st h R) : AW V M d kc ks pc L (.int x :: st) h R := by
  by_cases c0 : x = 0
  · exact aw_tableIn (off := o0) hd (by rw [c0]; decide) (by rw [c0]; decide) (by rw [c0]; rfl) h0 (k0 c0)
  by_cases c1 : x = 1
  · exact aw_tableIn (off := o1) hd (by rw [c1]; decide) (by rw [c1]; decide) (by rw [c1]; rfl) h1 (k1 c0 c1)
  by_cases c2 : x = 2
  · exact aw_tableIn (off := o2) hd (by rw [c2]; decide) (by rw [c2]; decide) (by rw [c2]; rfl) h2 (k2 c0 c1 c2)
  by_cases c3 : x = 3
  · exact aw_tableIn (off := o3) hd (by rw [c3]; decide) (by rw [c3]; decide) (by rw [c3]; rfl) h3 (k3 c0 c1 c2 c3)
  by_cases c4 : x = 4
  · exact aw_tableIn (off := o4) hd (by rw [c4]; decide) (by rw [c4]; decide) (by rw [c4]; rfl) h4 (k4 c0 c1 c2 c3 c4)
  by_cases c5 : x = 5
  · exact aw_tableIn (off := o5) hd (by rw [c5]; decide) (by rw [c5]; decide) (by rw [c5]; rfl) h5 (k5 c0 c1 c2 c3 c4 c5)
  by_cases c6 : x = 6
  · exact aw_tableIn (off := o6) hd (by rw [c6]; decide) (by rw [c6]; decide) (by rw [c6]; rfl) h6 (k6 c0 c1 c2 c3 c4 c5 c6)
  refine aw_tableOut hd ?_ hdf (kd c0 c1 c2 c3 c4 c5 c6)
  rcases (show x.toInt < 0 ∨ 6 < x.toInt ∨ x.toInt = 0 ∨ x.toInt = 1 ∨ x.toInt = 2 ∨ x.toInt = 3 ∨ x.toInt = 4 ∨ x.toInt = 5 ∨ x.toInt = 6 by omega) with q | q | q | q | q | q | q | q | q
  · exact Or.inl q
  · exact Or.inr q
  · exact absurd (Int32.toInt_inj.mp (by rw [q]; rfl)) c0
  · exact absurd (Int32.toInt_inj.mp (by rw [q]; rfl)) c1
  · exact absurd (Int32.toInt_inj.mp (by rw [q]; rfl)) c2
  · exact absurd (Int32.toInt_inj.mp (by rw [q]; rfl)) c3
  · exact absurd (Int32.toInt_inj.mp (by rw [q]; rfl)) c4
  · exact absurd (Int32.toInt_inj.mp (by rw [q]; rfl)) c5
  · exact absurd (Int32.toInt_inj.mp (by rw [q]; rfl)) c6
theorem aw_look2 {dflt a1 o1 a2 o2 : Int} {len : Nat} {x : Int32} {td t1 t2 : Nat} (v1 v2 : Int32) (hd : decode M.2.1 pc = .ok (.lookupswitch dflt #[(a1, o1), (a2, o2)], len)) (e1 : v1.toInt = a1) (e2 : v2.toInt = a2) (hlt : a1 < a2) (hdf : (pc : Int) + dflt = (td : Int)) (h1 : (pc : Int) + o1 = (t1 : Int)) (h2 : (pc : Int) + o2 = (t2 : Int)) (k1 : x = v1 → AW V M d kc ks t1 L st h R) (k2 : ¬ x = v1 → x = v2 → AW V M d kc ks t2 L st h R) (kd : ¬ x = v1 → ¬ x = v2 → AW V M d kc ks td L st h R) : AW V M d kc ks pc L (.int x :: st) h R := by
  have hp : ((#[(a1, o1), (a2, o2)] : Array (Int × Int)).toList.zip ((#[(a1, o1), (a2, o2)] : Array (Int × Int)).toList.drop 1)).all (fun (a, next) => a.1 < next.1) = true := by simp [hlt]
  by_cases c1 : x = v1
  · refine aw_lookup (off := o1) hd hp ?_ h1 (k1 c1)
    show Op.lookupswitch.offset [(a1, o1), (a2, o2)] dflt x.toInt = o1
    rw [Op.lookupswitch.offset_cons, if_pos (by rw [c1, e1])]
  by_cases c2 : x = v2
  · refine aw_lookup (off := o2) hd hp ?_ h2 (k2 c1 c2)
    show Op.lookupswitch.offset [(a1, o1), (a2, o2)] dflt x.toInt = o2
    rw [lv_osw c1 e1, Op.lookupswitch.offset_cons, if_pos (by rw [c2, e2])]
  · refine aw_lookup (off := dflt) hd hp ?_ hdf (kd c1 c2)
    show Op.lookupswitch.offset [(a1, o1), (a2, o2)] dflt x.toInt = dflt
    rw [lv_osw c1 e1, lv_osw c2 e2]
    rfl
theorem aw_tE {x : Int32} (y : Int32) (e : x = y) (k : AW V M d kc ks pc L (.int y :: st) h R) : AW V M d kc ks pc L (.int x :: st) h R := by rw [e]; exact k
theorem aw_tEl {x : Int64} (y : Int64) (e : x = y) (k : AW V M d kc ks pc L (.long y :: st) h R) : AW V M d kc ks pc L (.long x :: st) h R := by rw [e]; exact k
end AMSW
/-- a cell of the flat memory as a whole -/
def upk (f : Nat → Nat → Int32) (a : Nat) (g : Nat → Int32) : Nat → Nat → Int32 := fun b j => if b = a then g j else f b j
theorem upk_at (f : Nat → Nat → Int32) (a : Nat) (g : Nat → Int32) (k : Nat) : upk f a g a k = g k := by simp [upk]
theorem upk_ne {f : Nat → Nat → Int32} {a b : Nat} {g : Nat → Int32} (h : b ≠ a) (k : Nat) : upk f a g b k = f b k := by simp [upk, h]
theorem upk_row (f : Nat → Nat → Int32) (a : Nat) (g : Nat → Int32) : upk f a g a = g := by funext k; simp [upk]
theorem upk_rne {f : Nat → Nat → Int32} {a b : Nat} {g : Nat → Int32} (h : b ≠ a) : upk f a g b = f b := by funext k; simp [upk, h]
theorem upk_self (f : Nat → Nat → Int32) (a : Nat) : upk f a (f a) = f := by
  funext b j
  by_cases h : b = a
  · subst h; simp [upk]
  · simp [upk, h]
theorem upk_upk (f : Nat → Nat → Int32) (a : Nat) (g g' : Nat → Int32) : upk (upk f a g) a g' = upk f a g' := by
  funext b j
  by_cases h : b = a <;> simp [upk, h]
theorem up2_upk (f : Nat → Nat → Int32) (a k : Nat) (g : Nat → Int32) (x : Int32) : up2 (upk f a g) a k x = upk f a (upd g k x) := by
  funext b j
  by_cases h : b = a
  · subst h
    by_cases hj : j = k <;> simp [up2, upk, upd, hj]
  · simp [up2, upk, h]
theorem up2_eq (f : Nat → Nat → Int32) (a k : Nat) (x : Int32) : up2 f a k x = upk f a (upd (f a) k x) := by
  funext b j
  by_cases h : b = a
  · subst h
    by_cases hj : j = k <;> simp [up2, upk, upd, hj]
  · simp [up2, upk, h]
theorem upk_comm (f : Nat → Nat → Int32) {a b : Nat} (g g' : Nat → Int32) (h : a ≠ b) : upk (upk f a g) b g' = upk (upk f b g') a g := by
  funext c j
  by_cases h1 : c = a
  · subst h1; simp [upk, h]
  · by_cases h2 : c = b
    · subst h2; simp [upk, h1]
    · simp [upk, h1, h2]
section AXK
variable {V : am_V} {M : am_M} {d kc ks pc : Nat} {L : List (Option Value)} {st : List Value} {R : Option Value → List va_E → Prop} {f : Nat → Nat → Int32} {g : Nat → Int32} {τ : Nat → Nat → Int64}
theorem ax_getK {a ci idx : Nat} {q : vw_C} {ts : List Nat} (k : Nat) (hd : decode M.2.1 pc = .ok (.getfield idx, 3)) (hq : am_cl[ci]? = some q) (hl : Cond.fieldLink M.1.cls idx (q.2.1 k).1 (q.2.1 k).2.1 (q.2.1 k).2.2.1 ∈ am_T) (hk : k < q.2.2) (ht : am_tab[a]? = some (.inl (ci, ts))) (hv : ts[k]? = some 0) (kk : AW V M d kc ks (pc + 3) L (.int (g k) :: st) (hp (upk f a g, τ)) R) : AW V M d kc ks pc L (.ref a :: st) (hp (upk f a g, τ)) R := by
  refine ax_geti k hd hq hl hk ht hv ?_
  rw [show upk f a g a k = g k from upk_at f a g k]
  exact kk
theorem ax_putK {a ci idx : Nat} {q : vw_C} {ts : List Nat} {x : Int32} (k : Nat) (hd : decode M.2.1 pc = .ok (.putfield idx, 3)) (hq : am_cl[ci]? = some q) (hl : Cond.fieldLink M.1.cls idx (q.2.1 k).1 (q.2.1 k).2.1 (q.2.1 k).2.2.1 ∈ am_T) (hk : k < q.2.2) (ht : am_tab[a]? = some (.inl (ci, ts))) (hv : ts[k]? = some 0) (hf : (q.2.1 k).2.2.2 = false) (hty : am_fty ci k = .int) (kk : AW V M d kc ks (pc + 3) L st (hp (upk f a (upd g k x), τ)) R) : AW V M d kc ks pc L (.int x :: .ref a :: st) (hp (upk f a g, τ)) R := by
  refine ax_puti k hd hq hl hk ht hv hf hty ?_
  rw [show up2 (upk f a g) a k x = upk f a (upd g k x) from up2_upk f a k g x]
  exact kk
end AXK
