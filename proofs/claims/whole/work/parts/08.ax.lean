section AXR
variable {V : am_V} {M : am_M} {d kc ks pc : Nat} {L : List (Option Value)} {st : List Value} {S : fm} {f : Nat → Nat → Int32} {τ : Nat → Nat → Int64} {R : Option Value → List va_E → Prop}

theorem ax_geti {a ci idx : Nat} {q : vw_C} {ts : List Nat} (k : Nat) (hd : decode M.2.1 pc = .ok (.getfield idx, 3)) (hq : am_cl[ci]? = some q) (hl : Cond.fieldLink M.1.cls idx (q.2.1 k).1 (q.2.1 k).2.1 (q.2.1 k).2.2.1 ∈ am_T) (hk : k < q.2.2) (ht : am_tab[a]? = some (.inl (ci, ts))) (hv : ts[k]? = some 0) (kk : AW V M d kc ks (pc + 3) L (.int (f a k) :: st) (hp (f, τ)) R) : AW V M d kc ks pc L (.ref a :: st) (hp (f, τ)) R :=
  aw_get k hd hq hl hk (hp_at ht) (by rw [List.getElem?_mapIdx, hv]; rfl) kk
theorem ax_getl {a ci idx : Nat} {q : vw_C} {ts : List Nat} (k : Nat) (hd : decode M.2.1 pc = .ok (.getfield idx, 3)) (hq : am_cl[ci]? = some q) (hl : Cond.fieldLink M.1.cls idx (q.2.1 k).1 (q.2.1 k).2.1 (q.2.1 k).2.2.1 ∈ am_T) (hk : k < q.2.2) (ht : am_tab[a]? = some (.inl (ci, ts))) (hv : ts[k]? = some 1) (kk : AW V M d kc ks (pc + 3) L (.long (τ a k) :: st) (hp (f, τ)) R) : AW V M d kc ks pc L (.ref a :: st) (hp (f, τ)) R :=
  aw_get k hd hq hl hk (hp_at ht) (by rw [List.getElem?_mapIdx, hv]; rfl) kk
theorem ax_getr {a ci idx : Nat} {q : vw_C} {ts : List Nat} {b : Nat} (k : Nat) (hd : decode M.2.1 pc = .ok (.getfield idx, 3)) (hq : am_cl[ci]? = some q) (hl : Cond.fieldLink M.1.cls idx (q.2.1 k).1 (q.2.1 k).2.1 (q.2.1 k).2.2.1 ∈ am_T) (hk : k < q.2.2) (ht : am_tab[a]? = some (.inl (ci, ts))) (hv : ts[k]? = some (b + 2)) (kk : AW V M d kc ks (pc + 3) L (.ref b :: st) (hp (f, τ)) R) : AW V M d kc ks pc L (.ref a :: st) (hp (f, τ)) R :=
  aw_get k hd hq hl hk (hp_at ht) (by rw [List.getElem?_mapIdx, hv]; rfl) kk
theorem ax_puti {a ci idx : Nat} {q : vw_C} {ts : List Nat} {x : Int32} (k : Nat) (hd : decode M.2.1 pc = .ok (.putfield idx, 3)) (hq : am_cl[ci]? = some q) (hl : Cond.fieldLink M.1.cls idx (q.2.1 k).1 (q.2.1 k).2.1 (q.2.1 k).2.2.1 ∈ am_T) (hk : k < q.2.2) (ht : am_tab[a]? = some (.inl (ci, ts))) (hv : ts[k]? = some 0) (hf : (q.2.1 k).2.2.2 = false) (hty : am_fty ci k = .int) (kk : AW V M d kc ks (pc + 3) L st (hp (up2 f a k x, τ)) R) : AW V M d kc ks pc L (.int x :: .ref a :: st) (hp (f, τ)) R :=
  aw_put k hd hq hl hk hf (hp_at ht) (by rw [hty]; rfl) (by rw [hty]; rfl) (by rw [List.length_mapIdx]; exact (List.getElem?_eq_some_iff.mp hv).1) (hp_put ht hv) kk
theorem ax_putz {a ci idx : Nat} {q : vw_C} {ts : List Nat} {x : Int32} (k : Nat) (hd : decode M.2.1 pc = .ok (.putfield idx, 3)) (hq : am_cl[ci]? = some q) (hl : Cond.fieldLink M.1.cls idx (q.2.1 k).1 (q.2.1 k).2.1 (q.2.1 k).2.2.1 ∈ am_T) (hk : k < q.2.2) (ht : am_tab[a]? = some (.inl (ci, ts))) (hv : ts[k]? = some 0) (hf : (q.2.1 k).2.2.2 = false) (hty : am_fty ci k = .boolean) (hx : x = 0 ∨ x = 1) (kk : AW V M d kc ks (pc + 3) L st (hp (up2 f a k x, τ)) R) : AW V M d kc ks pc L (.int x :: .ref a :: st) (hp (f, τ)) R :=
  aw_put k hd hq hl hk hf (hp_at ht) (by rw [hty]; rcases hx with rfl | rfl <;> rfl) (by rw [hty]; rcases hx with rfl | rfl <;> rfl) (by rw [List.length_mapIdx]; exact (List.getElem?_eq_some_iff.mp hv).1) (hp_put ht hv) kk
theorem ax_putl {a ci idx : Nat} {q : vw_C} {ts : List Nat} {x : Int64} (k : Nat) (hd : decode M.2.1 pc = .ok (.putfield idx, 3)) (hq : am_cl[ci]? = some q) (hl : Cond.fieldLink M.1.cls idx (q.2.1 k).1 (q.2.1 k).2.1 (q.2.1 k).2.2.1 ∈ am_T) (hk : k < q.2.2) (ht : am_tab[a]? = some (.inl (ci, ts))) (hv : ts[k]? = some 1) (hf : (q.2.1 k).2.2.2 = false) (hty : am_fty ci k = .long) (kk : AW V M d kc ks (pc + 3) L st (hp (f, up2 τ a k x)) R) : AW V M d kc ks pc L (.long x :: .ref a :: st) (hp (f, τ)) R :=
  aw_put k hd hq hl hk hf (hp_at ht) (by rw [hty]; rfl) (by rw [hty]; rfl) (by rw [List.length_mapIdx]; exact (List.getElem?_eq_some_iff.mp hv).1) (hp_putL ht hv) kk
theorem ax_iald {a n : Nat} {i : Int32} (hd : decode M.2.1 pc = .ok (.iaload, 1)) (ht : am_tab[a]? = some (.inr (.inl (0, n)))) (hin : vp_in i n) (kk : AW V M d kc ks (pc + 1) L (.int (f a i.toNatClampNeg) :: st) (hp (f, τ)) R) : AW V M d kc ks pc L (.int i :: .ref a :: st) (hp (f, τ)) R :=
  aw_iald hd (hp_at ht) hin kk
theorem ax_bald {a n : Nat} {i : Int32} (hd : decode M.2.1 pc = .ok (.baload, 1)) (ht : am_tab[a]? = some (.inr (.inl (1, n)))) (hin : vp_in i n) (kk : AW V M d kc ks (pc + 1) L (.int (f a i.toNatClampNeg) :: st) (hp (f, τ)) R) : AW V M d kc ks pc L (.int i :: .ref a :: st) (hp (f, τ)) R :=
  aw_bald hd (hp_at ht) hin kk
theorem ax_zald {a n : Nat} {i : Int32} (hd : decode M.2.1 pc = .ok (.baload, 1)) (ht : am_tab[a]? = some (.inr (.inl (2, n)))) (hin : vp_in i n) (kk : AW V M d kc ks (pc + 1) L (.int (f a i.toNatClampNeg) :: st) (hp (f, τ)) R) : AW V M d kc ks pc L (.int i :: .ref a :: st) (hp (f, τ)) R :=
  aw_zald hd (hp_at ht) hin kk
theorem ax_aald {a t b : Nat} {ts : List Nat} {i : Int32} {cn : String} (hd : decode M.2.1 pc = .ok (.aaload, 1)) (ht : am_tab[a]? = some (.inr (.inr (t, ts)))) (hty : (am_tys V)[t]? = some (V.2.2.1 t, .object cn)) (hin : vp_in i ts.length) (hg : ts[i.toNatClampNeg]? = some b) (kk : AW V M d kc ks (pc + 1) L (.ref b :: st) (hp (f, τ)) R) : AW V M d kc ks pc L (.int i :: .ref a :: st) (hp (f, τ)) R :=
  aw_aald hd (hp_at ht) hty hin hg kk
theorem ax_iast {a n : Nat} {i x : Int32} (hd : decode M.2.1 pc = .ok (.iastore, 1)) (ht : am_tab[a]? = some (.inr (.inl (0, n)))) (hin : vp_in i n) (kk : AW V M d kc ks (pc + 1) L st (hp (up2 f a i.toNatClampNeg x, τ)) R) : AW V M d kc ks pc L (.int x :: .int i :: .ref a :: st) (hp (f, τ)) R :=
  aw_iast hd (hp_at ht) hin (hp_ast ht) kk
theorem ax_bast {a n : Nat} {i x : Int32} (hd : decode M.2.1 pc = .ok (.bastore, 1)) (ht : am_tab[a]? = some (.inr (.inl (1, n)))) (hin : vp_in i n) (kk : AW V M d kc ks (pc + 1) L st (hp (up2 f a i.toNatClampNeg (vp_nar .byte x), τ)) R) : AW V M d kc ks pc L (.int x :: .int i :: .ref a :: st) (hp (f, τ)) R :=
  aw_bast hd (hp_at ht) hin (hp_ast ht) kk
theorem ax_zast {a n : Nat} {i x : Int32} (hd : decode M.2.1 pc = .ok (.bastore, 1)) (ht : am_tab[a]? = some (.inr (.inl (2, n)))) (hin : vp_in i n) (kk : AW V M d kc ks (pc + 1) L st (hp (up2 f a i.toNatClampNeg (vp_nar .boolean x), τ)) R) : AW V M d kc ks pc L (.int x :: .int i :: .ref a :: st) (hp (f, τ)) R :=
  aw_zast hd (hp_at ht) hin (hp_ast ht) kk
theorem ax_alen {a n t : Nat} {ty : FieldType} (hd : decode M.2.1 pc = .ok (.arraylength, 1)) (ht : am_tab[a]? = some (.inr (.inl (t, n)))) (hty : (am_tys V)[t]? = some (V.2.2.1 t, ty)) (kk : AW V M d kc ks (pc + 1) L (.int (Int32.ofNat n) :: st) (hp (f, τ)) R) : AW V M d kc ks pc L (.ref a :: st) (hp (f, τ)) R :=
  aw_alen hd (hp_at ht) hty kk
theorem ax_callV0i {M' : am_M} {idx : Nat} {b ci : Nat} {q : vw_C} {ts : List Nat} {r : Int32} {S' : fm} (hd : decode M.2.1 pc = .ok (.invokevirtual idx, 3)) (hl : Cond.methodLink M.1.cls idx M'.1 ∈ am_T) (ho : am_okV M') (hn : (parseMethodDescriptor M'.1.desc).map (fun d => d.parameters.length) = some 0) (ht : am_tab[b]? = some (.inl (ci, ts))) (hq : am_cl[ci]? = some q) (hqc : q.1 = M'.1.cls) (hw : (st.map fun v => v.category).sum ≤ 8) (kk : AF V M' d [.ref b] S (some (.int r)) S') (k : AW V M (d + 1) kc ks (pc + 3) L (.int r :: st) (hp S') R) : AW V M (d + 1) kc ks pc L (.ref b :: st) (hp S) R := by
  unfold AF at kk
  have k1 : AM V M' d 0 0 (.ref b :: []) (hp S) (fun r' h' => AW V M (d + 1) kc ks (pc + 3) L (r'.toList ++ st) h' R) := by
    refine AM.weaken ?_ kk
    intro r' h' z
    rw [z.1, z.2]
    exact k
  have k2 := aw_callV (V := V) (M := M) (M' := M') (d := d) (kc := kc) (ks := ks) (pc := pc) (kc' := 0) (ks' := 0) (as := []) (st := st) (L := L) (h := hp S) (R := R) (b := b) (host := "") hd hl ho hn (hp_at (S := S) ht) hq hqc rfl hw k1
  rw [Nat.zero_add, Nat.zero_add] at k2
  exact k2
theorem ax_callV0v {M' : am_M} {idx : Nat} {b ci : Nat} {q : vw_C} {ts : List Nat} {S' : fm} (hd : decode M.2.1 pc = .ok (.invokevirtual idx, 3)) (hl : Cond.methodLink M.1.cls idx M'.1 ∈ am_T) (ho : am_okV M') (hn : (parseMethodDescriptor M'.1.desc).map (fun d => d.parameters.length) = some 0) (ht : am_tab[b]? = some (.inl (ci, ts))) (hq : am_cl[ci]? = some q) (hqc : q.1 = M'.1.cls) (hw : (st.map fun v => v.category).sum ≤ 8) (kk : AF V M' d [.ref b] S none S') (k : AW V M (d + 1) kc ks (pc + 3) L (st) (hp S') R) : AW V M (d + 1) kc ks pc L (.ref b :: st) (hp S) R := by
  unfold AF at kk
  have k1 : AM V M' d 0 0 (.ref b :: []) (hp S) (fun r' h' => AW V M (d + 1) kc ks (pc + 3) L (r'.toList ++ st) h' R) := by
    refine AM.weaken ?_ kk
    intro r' h' z
    rw [z.1, z.2]
    exact k
  have k2 := aw_callV (V := V) (M := M) (M' := M') (d := d) (kc := kc) (ks := ks) (pc := pc) (kc' := 0) (ks' := 0) (as := []) (st := st) (L := L) (h := hp S) (R := R) (b := b) (host := "") hd hl ho hn (hp_at (S := S) ht) hq hqc rfl hw k1
  rw [Nat.zero_add, Nat.zero_add] at k2
  exact k2
theorem ax_callV0l {M' : am_M} {idx : Nat} {b ci : Nat} {q : vw_C} {ts : List Nat} {r : Int64} {S' : fm} (hd : decode M.2.1 pc = .ok (.invokevirtual idx, 3)) (hl : Cond.methodLink M.1.cls idx M'.1 ∈ am_T) (ho : am_okV M') (hn : (parseMethodDescriptor M'.1.desc).map (fun d => d.parameters.length) = some 0) (ht : am_tab[b]? = some (.inl (ci, ts))) (hq : am_cl[ci]? = some q) (hqc : q.1 = M'.1.cls) (hw : (st.map fun v => v.category).sum ≤ 8) (kk : AF V M' d [.ref b] S (some (.long r)) S') (k : AW V M (d + 1) kc ks (pc + 3) L (.long r :: st) (hp S') R) : AW V M (d + 1) kc ks pc L (.ref b :: st) (hp S) R := by
  unfold AF at kk
  have k1 : AM V M' d 0 0 (.ref b :: []) (hp S) (fun r' h' => AW V M (d + 1) kc ks (pc + 3) L (r'.toList ++ st) h' R) := by
    refine AM.weaken ?_ kk
    intro r' h' z
    rw [z.1, z.2]
    exact k
  have k2 := aw_callV (V := V) (M := M) (M' := M') (d := d) (kc := kc) (ks := ks) (pc := pc) (kc' := 0) (ks' := 0) (as := []) (st := st) (L := L) (h := hp S) (R := R) (b := b) (host := "") hd hl ho hn (hp_at (S := S) ht) hq hqc rfl hw k1
  rw [Nat.zero_add, Nat.zero_add] at k2
  exact k2
theorem ax_callV0r {M' : am_M} {idx : Nat} {b ci : Nat} {q : vw_C} {ts : List Nat} {r : Nat} {S' : fm} (hd : decode M.2.1 pc = .ok (.invokevirtual idx, 3)) (hl : Cond.methodLink M.1.cls idx M'.1 ∈ am_T) (ho : am_okV M') (hn : (parseMethodDescriptor M'.1.desc).map (fun d => d.parameters.length) = some 0) (ht : am_tab[b]? = some (.inl (ci, ts))) (hq : am_cl[ci]? = some q) (hqc : q.1 = M'.1.cls) (hw : (st.map fun v => v.category).sum ≤ 8) (kk : AF V M' d [.ref b] S (some (.ref r)) S') (k : AW V M (d + 1) kc ks (pc + 3) L (.ref r :: st) (hp S') R) : AW V M (d + 1) kc ks pc L (.ref b :: st) (hp S) R := by
  unfold AF at kk
  have k1 : AM V M' d 0 0 (.ref b :: []) (hp S) (fun r' h' => AW V M (d + 1) kc ks (pc + 3) L (r'.toList ++ st) h' R) := by
    refine AM.weaken ?_ kk
    intro r' h' z
    rw [z.1, z.2]
    exact k
  have k2 := aw_callV (V := V) (M := M) (M' := M') (d := d) (kc := kc) (ks := ks) (pc := pc) (kc' := 0) (ks' := 0) (as := []) (st := st) (L := L) (h := hp S) (R := R) (b := b) (host := "") hd hl ho hn (hp_at (S := S) ht) hq hqc rfl hw k1
  rw [Nat.zero_add, Nat.zero_add] at k2
  exact k2
theorem ax_callV1i {M' : am_M} {idx : Nat} {b ci : Nat} {q : vw_C} {ts : List Nat} {x1 : Value} {r : Int32} {S' : fm} (hd : decode M.2.1 pc = .ok (.invokevirtual idx, 3)) (hl : Cond.methodLink M.1.cls idx M'.1 ∈ am_T) (ho : am_okV M') (hn : (parseMethodDescriptor M'.1.desc).map (fun d => d.parameters.length) = some 1) (ht : am_tab[b]? = some (.inl (ci, ts))) (hq : am_cl[ci]? = some q) (hqc : q.1 = M'.1.cls) (hw : (st.map fun v => v.category).sum ≤ 8) (kk : AF V M' d [.ref b, x1] S (some (.int r)) S') (k : AW V M (d + 1) kc ks (pc + 3) L (.int r :: st) (hp S') R) : AW V M (d + 1) kc ks pc L (x1 :: .ref b :: st) (hp S) R := by
  unfold AF at kk
  have k1 : AM V M' d 0 0 (.ref b :: [x1]) (hp S) (fun r' h' => AW V M (d + 1) kc ks (pc + 3) L (r'.toList ++ st) h' R) := by
    refine AM.weaken ?_ kk
    intro r' h' z
    rw [z.1, z.2]
    exact k
  have k2 := aw_callV (V := V) (M := M) (M' := M') (d := d) (kc := kc) (ks := ks) (pc := pc) (kc' := 0) (ks' := 0) (as := [x1]) (st := st) (L := L) (h := hp S) (R := R) (b := b) (host := "") hd hl ho hn (hp_at (S := S) ht) hq hqc rfl hw k1
  rw [Nat.zero_add, Nat.zero_add] at k2
  exact k2
theorem ax_callV1v {M' : am_M} {idx : Nat} {b ci : Nat} {q : vw_C} {ts : List Nat} {x1 : Value} {S' : fm} (hd : decode M.2.1 pc = .ok (.invokevirtual idx, 3)) (hl : Cond.methodLink M.1.cls idx M'.1 ∈ am_T) (ho : am_okV M') (hn : (parseMethodDescriptor M'.1.desc).map (fun d => d.parameters.length) = some 1) (ht : am_tab[b]? = some (.inl (ci, ts))) (hq : am_cl[ci]? = some q) (hqc : q.1 = M'.1.cls) (hw : (st.map fun v => v.category).sum ≤ 8) (kk : AF V M' d [.ref b, x1] S none S') (k : AW V M (d + 1) kc ks (pc + 3) L (st) (hp S') R) : AW V M (d + 1) kc ks pc L (x1 :: .ref b :: st) (hp S) R := by
  unfold AF at kk
  have k1 : AM V M' d 0 0 (.ref b :: [x1]) (hp S) (fun r' h' => AW V M (d + 1) kc ks (pc + 3) L (r'.toList ++ st) h' R) := by
    refine AM.weaken ?_ kk
    intro r' h' z
    rw [z.1, z.2]
    exact k
  have k2 := aw_callV (V := V) (M := M) (M' := M') (d := d) (kc := kc) (ks := ks) (pc := pc) (kc' := 0) (ks' := 0) (as := [x1]) (st := st) (L := L) (h := hp S) (R := R) (b := b) (host := "") hd hl ho hn (hp_at (S := S) ht) hq hqc rfl hw k1
  rw [Nat.zero_add, Nat.zero_add] at k2
  exact k2
theorem ax_callV1l {M' : am_M} {idx : Nat} {b ci : Nat} {q : vw_C} {ts : List Nat} {x1 : Value} {r : Int64} {S' : fm} (hd : decode M.2.1 pc = .ok (.invokevirtual idx, 3)) (hl : Cond.methodLink M.1.cls idx M'.1 ∈ am_T) (ho : am_okV M') (hn : (parseMethodDescriptor M'.1.desc).map (fun d => d.parameters.length) = some 1) (ht : am_tab[b]? = some (.inl (ci, ts))) (hq : am_cl[ci]? = some q) (hqc : q.1 = M'.1.cls) (hw : (st.map fun v => v.category).sum ≤ 8) (kk : AF V M' d [.ref b, x1] S (some (.long r)) S') (k : AW V M (d + 1) kc ks (pc + 3) L (.long r :: st) (hp S') R) : AW V M (d + 1) kc ks pc L (x1 :: .ref b :: st) (hp S) R := by
  unfold AF at kk
  have k1 : AM V M' d 0 0 (.ref b :: [x1]) (hp S) (fun r' h' => AW V M (d + 1) kc ks (pc + 3) L (r'.toList ++ st) h' R) := by
    refine AM.weaken ?_ kk
    intro r' h' z
    rw [z.1, z.2]
    exact k
  have k2 := aw_callV (V := V) (M := M) (M' := M') (d := d) (kc := kc) (ks := ks) (pc := pc) (kc' := 0) (ks' := 0) (as := [x1]) (st := st) (L := L) (h := hp S) (R := R) (b := b) (host := "") hd hl ho hn (hp_at (S := S) ht) hq hqc rfl hw k1
  rw [Nat.zero_add, Nat.zero_add] at k2
  exact k2
theorem ax_callV1r {M' : am_M} {idx : Nat} {b ci : Nat} {q : vw_C} {ts : List Nat} {x1 : Value} {r : Nat} {S' : fm} (hd : decode M.2.1 pc = .ok (.invokevirtual idx, 3)) (hl : Cond.methodLink M.1.cls idx M'.1 ∈ am_T) (ho : am_okV M') (hn : (parseMethodDescriptor M'.1.desc).map (fun d => d.parameters.length) = some 1) (ht : am_tab[b]? = some (.inl (ci, ts))) (hq : am_cl[ci]? = some q) (hqc : q.1 = M'.1.cls) (hw : (st.map fun v => v.category).sum ≤ 8) (kk : AF V M' d [.ref b, x1] S (some (.ref r)) S') (k : AW V M (d + 1) kc ks (pc + 3) L (.ref r :: st) (hp S') R) : AW V M (d + 1) kc ks pc L (x1 :: .ref b :: st) (hp S) R := by
  unfold AF at kk
  have k1 : AM V M' d 0 0 (.ref b :: [x1]) (hp S) (fun r' h' => AW V M (d + 1) kc ks (pc + 3) L (r'.toList ++ st) h' R) := by
    refine AM.weaken ?_ kk
    intro r' h' z
    rw [z.1, z.2]
    exact k
  have k2 := aw_callV (V := V) (M := M) (M' := M') (d := d) (kc := kc) (ks := ks) (pc := pc) (kc' := 0) (ks' := 0) (as := [x1]) (st := st) (L := L) (h := hp S) (R := R) (b := b) (host := "") hd hl ho hn (hp_at (S := S) ht) hq hqc rfl hw k1
  rw [Nat.zero_add, Nat.zero_add] at k2
  exact k2
theorem ax_callV2i {M' : am_M} {idx : Nat} {b ci : Nat} {q : vw_C} {ts : List Nat} {x1 x2 : Value} {r : Int32} {S' : fm} (hd : decode M.2.1 pc = .ok (.invokevirtual idx, 3)) (hl : Cond.methodLink M.1.cls idx M'.1 ∈ am_T) (ho : am_okV M') (hn : (parseMethodDescriptor M'.1.desc).map (fun d => d.parameters.length) = some 2) (ht : am_tab[b]? = some (.inl (ci, ts))) (hq : am_cl[ci]? = some q) (hqc : q.1 = M'.1.cls) (hw : (st.map fun v => v.category).sum ≤ 8) (kk : AF V M' d [.ref b, x1, x2] S (some (.int r)) S') (k : AW V M (d + 1) kc ks (pc + 3) L (.int r :: st) (hp S') R) : AW V M (d + 1) kc ks pc L (x2 :: x1 :: .ref b :: st) (hp S) R := by
  unfold AF at kk
  have k1 : AM V M' d 0 0 (.ref b :: [x1, x2]) (hp S) (fun r' h' => AW V M (d + 1) kc ks (pc + 3) L (r'.toList ++ st) h' R) := by
    refine AM.weaken ?_ kk
    intro r' h' z
    rw [z.1, z.2]
    exact k
  have k2 := aw_callV (V := V) (M := M) (M' := M') (d := d) (kc := kc) (ks := ks) (pc := pc) (kc' := 0) (ks' := 0) (as := [x1, x2]) (st := st) (L := L) (h := hp S) (R := R) (b := b) (host := "") hd hl ho hn (hp_at (S := S) ht) hq hqc rfl hw k1
  rw [Nat.zero_add, Nat.zero_add] at k2
  exact k2
theorem ax_callV2v {M' : am_M} {idx : Nat} {b ci : Nat} {q : vw_C} {ts : List Nat} {x1 x2 : Value} {S' : fm} (hd : decode M.2.1 pc = .ok (.invokevirtual idx, 3)) (hl : Cond.methodLink M.1.cls idx M'.1 ∈ am_T) (ho : am_okV M') (hn : (parseMethodDescriptor M'.1.desc).map (fun d => d.parameters.length) = some 2) (ht : am_tab[b]? = some (.inl (ci, ts))) (hq : am_cl[ci]? = some q) (hqc : q.1 = M'.1.cls) (hw : (st.map fun v => v.category).sum ≤ 8) (kk : AF V M' d [.ref b, x1, x2] S none S') (k : AW V M (d + 1) kc ks (pc + 3) L (st) (hp S') R) : AW V M (d + 1) kc ks pc L (x2 :: x1 :: .ref b :: st) (hp S) R := by
  unfold AF at kk
  have k1 : AM V M' d 0 0 (.ref b :: [x1, x2]) (hp S) (fun r' h' => AW V M (d + 1) kc ks (pc + 3) L (r'.toList ++ st) h' R) := by
    refine AM.weaken ?_ kk
    intro r' h' z
    rw [z.1, z.2]
    exact k
  have k2 := aw_callV (V := V) (M := M) (M' := M') (d := d) (kc := kc) (ks := ks) (pc := pc) (kc' := 0) (ks' := 0) (as := [x1, x2]) (st := st) (L := L) (h := hp S) (R := R) (b := b) (host := "") hd hl ho hn (hp_at (S := S) ht) hq hqc rfl hw k1
  rw [Nat.zero_add, Nat.zero_add] at k2
  exact k2
theorem ax_callV2l {M' : am_M} {idx : Nat} {b ci : Nat} {q : vw_C} {ts : List Nat} {x1 x2 : Value} {r : Int64} {S' : fm} (hd : decode M.2.1 pc = .ok (.invokevirtual idx, 3)) (hl : Cond.methodLink M.1.cls idx M'.1 ∈ am_T) (ho : am_okV M') (hn : (parseMethodDescriptor M'.1.desc).map (fun d => d.parameters.length) = some 2) (ht : am_tab[b]? = some (.inl (ci, ts))) (hq : am_cl[ci]? = some q) (hqc : q.1 = M'.1.cls) (hw : (st.map fun v => v.category).sum ≤ 8) (kk : AF V M' d [.ref b, x1, x2] S (some (.long r)) S') (k : AW V M (d + 1) kc ks (pc + 3) L (.long r :: st) (hp S') R) : AW V M (d + 1) kc ks pc L (x2 :: x1 :: .ref b :: st) (hp S) R := by
  unfold AF at kk
  have k1 : AM V M' d 0 0 (.ref b :: [x1, x2]) (hp S) (fun r' h' => AW V M (d + 1) kc ks (pc + 3) L (r'.toList ++ st) h' R) := by
    refine AM.weaken ?_ kk
    intro r' h' z
    rw [z.1, z.2]
    exact k
  have k2 := aw_callV (V := V) (M := M) (M' := M') (d := d) (kc := kc) (ks := ks) (pc := pc) (kc' := 0) (ks' := 0) (as := [x1, x2]) (st := st) (L := L) (h := hp S) (R := R) (b := b) (host := "") hd hl ho hn (hp_at (S := S) ht) hq hqc rfl hw k1
  rw [Nat.zero_add, Nat.zero_add] at k2
  exact k2
theorem ax_callV2r {M' : am_M} {idx : Nat} {b ci : Nat} {q : vw_C} {ts : List Nat} {x1 x2 : Value} {r : Nat} {S' : fm} (hd : decode M.2.1 pc = .ok (.invokevirtual idx, 3)) (hl : Cond.methodLink M.1.cls idx M'.1 ∈ am_T) (ho : am_okV M') (hn : (parseMethodDescriptor M'.1.desc).map (fun d => d.parameters.length) = some 2) (ht : am_tab[b]? = some (.inl (ci, ts))) (hq : am_cl[ci]? = some q) (hqc : q.1 = M'.1.cls) (hw : (st.map fun v => v.category).sum ≤ 8) (kk : AF V M' d [.ref b, x1, x2] S (some (.ref r)) S') (k : AW V M (d + 1) kc ks (pc + 3) L (.ref r :: st) (hp S') R) : AW V M (d + 1) kc ks pc L (x2 :: x1 :: .ref b :: st) (hp S) R := by
  unfold AF at kk
  have k1 : AM V M' d 0 0 (.ref b :: [x1, x2]) (hp S) (fun r' h' => AW V M (d + 1) kc ks (pc + 3) L (r'.toList ++ st) h' R) := by
    refine AM.weaken ?_ kk
    intro r' h' z
    rw [z.1, z.2]
    exact k
  have k2 := aw_callV (V := V) (M := M) (M' := M') (d := d) (kc := kc) (ks := ks) (pc := pc) (kc' := 0) (ks' := 0) (as := [x1, x2]) (st := st) (L := L) (h := hp S) (R := R) (b := b) (host := "") hd hl ho hn (hp_at (S := S) ht) hq hqc rfl hw k1
  rw [Nat.zero_add, Nat.zero_add] at k2
  exact k2
theorem ax_callV3i {M' : am_M} {idx : Nat} {b ci : Nat} {q : vw_C} {ts : List Nat} {x1 x2 x3 : Value} {r : Int32} {S' : fm} (hd : decode M.2.1 pc = .ok (.invokevirtual idx, 3)) (hl : Cond.methodLink M.1.cls idx M'.1 ∈ am_T) (ho : am_okV M') (hn : (parseMethodDescriptor M'.1.desc).map (fun d => d.parameters.length) = some 3) (ht : am_tab[b]? = some (.inl (ci, ts))) (hq : am_cl[ci]? = some q) (hqc : q.1 = M'.1.cls) (hw : (st.map fun v => v.category).sum ≤ 8) (kk : AF V M' d [.ref b, x1, x2, x3] S (some (.int r)) S') (k : AW V M (d + 1) kc ks (pc + 3) L (.int r :: st) (hp S') R) : AW V M (d + 1) kc ks pc L (x3 :: x2 :: x1 :: .ref b :: st) (hp S) R := by
  unfold AF at kk
  have k1 : AM V M' d 0 0 (.ref b :: [x1, x2, x3]) (hp S) (fun r' h' => AW V M (d + 1) kc ks (pc + 3) L (r'.toList ++ st) h' R) := by
    refine AM.weaken ?_ kk
    intro r' h' z
    rw [z.1, z.2]
    exact k
  have k2 := aw_callV (V := V) (M := M) (M' := M') (d := d) (kc := kc) (ks := ks) (pc := pc) (kc' := 0) (ks' := 0) (as := [x1, x2, x3]) (st := st) (L := L) (h := hp S) (R := R) (b := b) (host := "") hd hl ho hn (hp_at (S := S) ht) hq hqc rfl hw k1
  rw [Nat.zero_add, Nat.zero_add] at k2
  exact k2
theorem ax_callV3v {M' : am_M} {idx : Nat} {b ci : Nat} {q : vw_C} {ts : List Nat} {x1 x2 x3 : Value} {S' : fm} (hd : decode M.2.1 pc = .ok (.invokevirtual idx, 3)) (hl : Cond.methodLink M.1.cls idx M'.1 ∈ am_T) (ho : am_okV M') (hn : (parseMethodDescriptor M'.1.desc).map (fun d => d.parameters.length) = some 3) (ht : am_tab[b]? = some (.inl (ci, ts))) (hq : am_cl[ci]? = some q) (hqc : q.1 = M'.1.cls) (hw : (st.map fun v => v.category).sum ≤ 8) (kk : AF V M' d [.ref b, x1, x2, x3] S none S') (k : AW V M (d + 1) kc ks (pc + 3) L (st) (hp S') R) : AW V M (d + 1) kc ks pc L (x3 :: x2 :: x1 :: .ref b :: st) (hp S) R := by
  unfold AF at kk
  have k1 : AM V M' d 0 0 (.ref b :: [x1, x2, x3]) (hp S) (fun r' h' => AW V M (d + 1) kc ks (pc + 3) L (r'.toList ++ st) h' R) := by
    refine AM.weaken ?_ kk
    intro r' h' z
    rw [z.1, z.2]
    exact k
  have k2 := aw_callV (V := V) (M := M) (M' := M') (d := d) (kc := kc) (ks := ks) (pc := pc) (kc' := 0) (ks' := 0) (as := [x1, x2, x3]) (st := st) (L := L) (h := hp S) (R := R) (b := b) (host := "") hd hl ho hn (hp_at (S := S) ht) hq hqc rfl hw k1
  rw [Nat.zero_add, Nat.zero_add] at k2
  exact k2
theorem ax_callV3l {M' : am_M} {idx : Nat} {b ci : Nat} {q : vw_C} {ts : List Nat} {x1 x2 x3 : Value} {r : Int64} {S' : fm} (hd : decode M.2.1 pc = .ok (.invokevirtual idx, 3)) (hl : Cond.methodLink M.1.cls idx M'.1 ∈ am_T) (ho : am_okV M') (hn : (parseMethodDescriptor M'.1.desc).map (fun d => d.parameters.length) = some 3) (ht : am_tab[b]? = some (.inl (ci, ts))) (hq : am_cl[ci]? = some q) (hqc : q.1 = M'.1.cls) (hw : (st.map fun v => v.category).sum ≤ 8) (kk : AF V M' d [.ref b, x1, x2, x3] S (some (.long r)) S') (k : AW V M (d + 1) kc ks (pc + 3) L (.long r :: st) (hp S') R) : AW V M (d + 1) kc ks pc L (x3 :: x2 :: x1 :: .ref b :: st) (hp S) R := by
  unfold AF at kk
  have k1 : AM V M' d 0 0 (.ref b :: [x1, x2, x3]) (hp S) (fun r' h' => AW V M (d + 1) kc ks (pc + 3) L (r'.toList ++ st) h' R) := by
    refine AM.weaken ?_ kk
    intro r' h' z
    rw [z.1, z.2]
    exact k
  have k2 := aw_callV (V := V) (M := M) (M' := M') (d := d) (kc := kc) (ks := ks) (pc := pc) (kc' := 0) (ks' := 0) (as := [x1, x2, x3]) (st := st) (L := L) (h := hp S) (R := R) (b := b) (host := "") hd hl ho hn (hp_at (S := S) ht) hq hqc rfl hw k1
  rw [Nat.zero_add, Nat.zero_add] at k2
  exact k2
theorem ax_callV3r {M' : am_M} {idx : Nat} {b ci : Nat} {q : vw_C} {ts : List Nat} {x1 x2 x3 : Value} {r : Nat} {S' : fm} (hd : decode M.2.1 pc = .ok (.invokevirtual idx, 3)) (hl : Cond.methodLink M.1.cls idx M'.1 ∈ am_T) (ho : am_okV M') (hn : (parseMethodDescriptor M'.1.desc).map (fun d => d.parameters.length) = some 3) (ht : am_tab[b]? = some (.inl (ci, ts))) (hq : am_cl[ci]? = some q) (hqc : q.1 = M'.1.cls) (hw : (st.map fun v => v.category).sum ≤ 8) (kk : AF V M' d [.ref b, x1, x2, x3] S (some (.ref r)) S') (k : AW V M (d + 1) kc ks (pc + 3) L (.ref r :: st) (hp S') R) : AW V M (d + 1) kc ks pc L (x3 :: x2 :: x1 :: .ref b :: st) (hp S) R := by
  unfold AF at kk
  have k1 : AM V M' d 0 0 (.ref b :: [x1, x2, x3]) (hp S) (fun r' h' => AW V M (d + 1) kc ks (pc + 3) L (r'.toList ++ st) h' R) := by
    refine AM.weaken ?_ kk
    intro r' h' z
    rw [z.1, z.2]
    exact k
  have k2 := aw_callV (V := V) (M := M) (M' := M') (d := d) (kc := kc) (ks := ks) (pc := pc) (kc' := 0) (ks' := 0) (as := [x1, x2, x3]) (st := st) (L := L) (h := hp S) (R := R) (b := b) (host := "") hd hl ho hn (hp_at (S := S) ht) hq hqc rfl hw k1
  rw [Nat.zero_add, Nat.zero_add] at k2
  exact k2
theorem ax_callV4i {M' : am_M} {idx : Nat} {b ci : Nat} {q : vw_C} {ts : List Nat} {x1 x2 x3 x4 : Value} {r : Int32} {S' : fm} (hd : decode M.2.1 pc = .ok (.invokevirtual idx, 3)) (hl : Cond.methodLink M.1.cls idx M'.1 ∈ am_T) (ho : am_okV M') (hn : (parseMethodDescriptor M'.1.desc).map (fun d => d.parameters.length) = some 4) (ht : am_tab[b]? = some (.inl (ci, ts))) (hq : am_cl[ci]? = some q) (hqc : q.1 = M'.1.cls) (hw : (st.map fun v => v.category).sum ≤ 8) (kk : AF V M' d [.ref b, x1, x2, x3, x4] S (some (.int r)) S') (k : AW V M (d + 1) kc ks (pc + 3) L (.int r :: st) (hp S') R) : AW V M (d + 1) kc ks pc L (x4 :: x3 :: x2 :: x1 :: .ref b :: st) (hp S) R := by
  unfold AF at kk
  have k1 : AM V M' d 0 0 (.ref b :: [x1, x2, x3, x4]) (hp S) (fun r' h' => AW V M (d + 1) kc ks (pc + 3) L (r'.toList ++ st) h' R) := by
    refine AM.weaken ?_ kk
    intro r' h' z
    rw [z.1, z.2]
    exact k
  have k2 := aw_callV (V := V) (M := M) (M' := M') (d := d) (kc := kc) (ks := ks) (pc := pc) (kc' := 0) (ks' := 0) (as := [x1, x2, x3, x4]) (st := st) (L := L) (h := hp S) (R := R) (b := b) (host := "") hd hl ho hn (hp_at (S := S) ht) hq hqc rfl hw k1
  rw [Nat.zero_add, Nat.zero_add] at k2
  exact k2
theorem ax_callV4v {M' : am_M} {idx : Nat} {b ci : Nat} {q : vw_C} {ts : List Nat} {x1 x2 x3 x4 : Value} {S' : fm} (hd : decode M.2.1 pc = .ok (.invokevirtual idx, 3)) (hl : Cond.methodLink M.1.cls idx M'.1 ∈ am_T) (ho : am_okV M') (hn : (parseMethodDescriptor M'.1.desc).map (fun d => d.parameters.length) = some 4) (ht : am_tab[b]? = some (.inl (ci, ts))) (hq : am_cl[ci]? = some q) (hqc : q.1 = M'.1.cls) (hw : (st.map fun v => v.category).sum ≤ 8) (kk : AF V M' d [.ref b, x1, x2, x3, x4] S none S') (k : AW V M (d + 1) kc ks (pc + 3) L (st) (hp S') R) : AW V M (d + 1) kc ks pc L (x4 :: x3 :: x2 :: x1 :: .ref b :: st) (hp S) R := by
  unfold AF at kk
  have k1 : AM V M' d 0 0 (.ref b :: [x1, x2, x3, x4]) (hp S) (fun r' h' => AW V M (d + 1) kc ks (pc + 3) L (r'.toList ++ st) h' R) := by
    refine AM.weaken ?_ kk
    intro r' h' z
    rw [z.1, z.2]
    exact k
  have k2 := aw_callV (V := V) (M := M) (M' := M') (d := d) (kc := kc) (ks := ks) (pc := pc) (kc' := 0) (ks' := 0) (as := [x1, x2, x3, x4]) (st := st) (L := L) (h := hp S) (R := R) (b := b) (host := "") hd hl ho hn (hp_at (S := S) ht) hq hqc rfl hw k1
  rw [Nat.zero_add, Nat.zero_add] at k2
  exact k2
theorem ax_callV4l {M' : am_M} {idx : Nat} {b ci : Nat} {q : vw_C} {ts : List Nat} {x1 x2 x3 x4 : Value} {r : Int64} {S' : fm} (hd : decode M.2.1 pc = .ok (.invokevirtual idx, 3)) (hl : Cond.methodLink M.1.cls idx M'.1 ∈ am_T) (ho : am_okV M') (hn : (parseMethodDescriptor M'.1.desc).map (fun d => d.parameters.length) = some 4) (ht : am_tab[b]? = some (.inl (ci, ts))) (hq : am_cl[ci]? = some q) (hqc : q.1 = M'.1.cls) (hw : (st.map fun v => v.category).sum ≤ 8) (kk : AF V M' d [.ref b, x1, x2, x3, x4] S (some (.long r)) S') (k : AW V M (d + 1) kc ks (pc + 3) L (.long r :: st) (hp S') R) : AW V M (d + 1) kc ks pc L (x4 :: x3 :: x2 :: x1 :: .ref b :: st) (hp S) R := by
  unfold AF at kk
  have k1 : AM V M' d 0 0 (.ref b :: [x1, x2, x3, x4]) (hp S) (fun r' h' => AW V M (d + 1) kc ks (pc + 3) L (r'.toList ++ st) h' R) := by
    refine AM.weaken ?_ kk
    intro r' h' z
    rw [z.1, z.2]
    exact k
  have k2 := aw_callV (V := V) (M := M) (M' := M') (d := d) (kc := kc) (ks := ks) (pc := pc) (kc' := 0) (ks' := 0) (as := [x1, x2, x3, x4]) (st := st) (L := L) (h := hp S) (R := R) (b := b) (host := "") hd hl ho hn (hp_at (S := S) ht) hq hqc rfl hw k1
  rw [Nat.zero_add, Nat.zero_add] at k2
  exact k2
theorem ax_callV4r {M' : am_M} {idx : Nat} {b ci : Nat} {q : vw_C} {ts : List Nat} {x1 x2 x3 x4 : Value} {r : Nat} {S' : fm} (hd : decode M.2.1 pc = .ok (.invokevirtual idx, 3)) (hl : Cond.methodLink M.1.cls idx M'.1 ∈ am_T) (ho : am_okV M') (hn : (parseMethodDescriptor M'.1.desc).map (fun d => d.parameters.length) = some 4) (ht : am_tab[b]? = some (.inl (ci, ts))) (hq : am_cl[ci]? = some q) (hqc : q.1 = M'.1.cls) (hw : (st.map fun v => v.category).sum ≤ 8) (kk : AF V M' d [.ref b, x1, x2, x3, x4] S (some (.ref r)) S') (k : AW V M (d + 1) kc ks (pc + 3) L (.ref r :: st) (hp S') R) : AW V M (d + 1) kc ks pc L (x4 :: x3 :: x2 :: x1 :: .ref b :: st) (hp S) R := by
  unfold AF at kk
  have k1 : AM V M' d 0 0 (.ref b :: [x1, x2, x3, x4]) (hp S) (fun r' h' => AW V M (d + 1) kc ks (pc + 3) L (r'.toList ++ st) h' R) := by
    refine AM.weaken ?_ kk
    intro r' h' z
    rw [z.1, z.2]
    exact k
  have k2 := aw_callV (V := V) (M := M) (M' := M') (d := d) (kc := kc) (ks := ks) (pc := pc) (kc' := 0) (ks' := 0) (as := [x1, x2, x3, x4]) (st := st) (L := L) (h := hp S) (R := R) (b := b) (host := "") hd hl ho hn (hp_at (S := S) ht) hq hqc rfl hw k1
  rw [Nat.zero_add, Nat.zero_add] at k2
  exact k2
theorem ax_callV5i {M' : am_M} {idx : Nat} {b ci : Nat} {q : vw_C} {ts : List Nat} {x1 x2 x3 x4 x5 : Value} {r : Int32} {S' : fm} (hd : decode M.2.1 pc = .ok (.invokevirtual idx, 3)) (hl : Cond.methodLink M.1.cls idx M'.1 ∈ am_T) (ho : am_okV M') (hn : (parseMethodDescriptor M'.1.desc).map (fun d => d.parameters.length) = some 5) (ht : am_tab[b]? = some (.inl (ci, ts))) (hq : am_cl[ci]? = some q) (hqc : q.1 = M'.1.cls) (hw : (st.map fun v => v.category).sum ≤ 8) (kk : AF V M' d [.ref b, x1, x2, x3, x4, x5] S (some (.int r)) S') (k : AW V M (d + 1) kc ks (pc + 3) L (.int r :: st) (hp S') R) : AW V M (d + 1) kc ks pc L (x5 :: x4 :: x3 :: x2 :: x1 :: .ref b :: st) (hp S) R := by
  unfold AF at kk
  have k1 : AM V M' d 0 0 (.ref b :: [x1, x2, x3, x4, x5]) (hp S) (fun r' h' => AW V M (d + 1) kc ks (pc + 3) L (r'.toList ++ st) h' R) := by
    refine AM.weaken ?_ kk
    intro r' h' z
    rw [z.1, z.2]
    exact k
  have k2 := aw_callV (V := V) (M := M) (M' := M') (d := d) (kc := kc) (ks := ks) (pc := pc) (kc' := 0) (ks' := 0) (as := [x1, x2, x3, x4, x5]) (st := st) (L := L) (h := hp S) (R := R) (b := b) (host := "") hd hl ho hn (hp_at (S := S) ht) hq hqc rfl hw k1
  rw [Nat.zero_add, Nat.zero_add] at k2
  exact k2
theorem ax_callV5v {M' : am_M} {idx : Nat} {b ci : Nat} {q : vw_C} {ts : List Nat} {x1 x2 x3 x4 x5 : Value} {S' : fm} (hd : decode M.2.1 pc = .ok (.invokevirtual idx, 3)) (hl : Cond.methodLink M.1.cls idx M'.1 ∈ am_T) (ho : am_okV M') (hn : (parseMethodDescriptor M'.1.desc).map (fun d => d.parameters.length) = some 5) (ht : am_tab[b]? = some (.inl (ci, ts))) (hq : am_cl[ci]? = some q) (hqc : q.1 = M'.1.cls) (hw : (st.map fun v => v.category).sum ≤ 8) (kk : AF V M' d [.ref b, x1, x2, x3, x4, x5] S none S') (k : AW V M (d + 1) kc ks (pc + 3) L (st) (hp S') R) : AW V M (d + 1) kc ks pc L (x5 :: x4 :: x3 :: x2 :: x1 :: .ref b :: st) (hp S) R := by
  unfold AF at kk
  have k1 : AM V M' d 0 0 (.ref b :: [x1, x2, x3, x4, x5]) (hp S) (fun r' h' => AW V M (d + 1) kc ks (pc + 3) L (r'.toList ++ st) h' R) := by
    refine AM.weaken ?_ kk
    intro r' h' z
    rw [z.1, z.2]
    exact k
  have k2 := aw_callV (V := V) (M := M) (M' := M') (d := d) (kc := kc) (ks := ks) (pc := pc) (kc' := 0) (ks' := 0) (as := [x1, x2, x3, x4, x5]) (st := st) (L := L) (h := hp S) (R := R) (b := b) (host := "") hd hl ho hn (hp_at (S := S) ht) hq hqc rfl hw k1
  rw [Nat.zero_add, Nat.zero_add] at k2
  exact k2
theorem ax_callV5l {M' : am_M} {idx : Nat} {b ci : Nat} {q : vw_C} {ts : List Nat} {x1 x2 x3 x4 x5 : Value} {r : Int64} {S' : fm} (hd : decode M.2.1 pc = .ok (.invokevirtual idx, 3)) (hl : Cond.methodLink M.1.cls idx M'.1 ∈ am_T) (ho : am_okV M') (hn : (parseMethodDescriptor M'.1.desc).map (fun d => d.parameters.length) = some 5) (ht : am_tab[b]? = some (.inl (ci, ts))) (hq : am_cl[ci]? = some q) (hqc : q.1 = M'.1.cls) (hw : (st.map fun v => v.category).sum ≤ 8) (kk : AF V M' d [.ref b, x1, x2, x3, x4, x5] S (some (.long r)) S') (k : AW V M (d + 1) kc ks (pc + 3) L (.long r :: st) (hp S') R) : AW V M (d + 1) kc ks pc L (x5 :: x4 :: x3 :: x2 :: x1 :: .ref b :: st) (hp S) R := by
  unfold AF at kk
  have k1 : AM V M' d 0 0 (.ref b :: [x1, x2, x3, x4, x5]) (hp S) (fun r' h' => AW V M (d + 1) kc ks (pc + 3) L (r'.toList ++ st) h' R) := by
    refine AM.weaken ?_ kk
    intro r' h' z
    rw [z.1, z.2]
    exact k
  have k2 := aw_callV (V := V) (M := M) (M' := M') (d := d) (kc := kc) (ks := ks) (pc := pc) (kc' := 0) (ks' := 0) (as := [x1, x2, x3, x4, x5]) (st := st) (L := L) (h := hp S) (R := R) (b := b) (host := "") hd hl ho hn (hp_at (S := S) ht) hq hqc rfl hw k1
  rw [Nat.zero_add, Nat.zero_add] at k2
  exact k2
theorem ax_callV5r {M' : am_M} {idx : Nat} {b ci : Nat} {q : vw_C} {ts : List Nat} {x1 x2 x3 x4 x5 : Value} {r : Nat} {S' : fm} (hd : decode M.2.1 pc = .ok (.invokevirtual idx, 3)) (hl : Cond.methodLink M.1.cls idx M'.1 ∈ am_T) (ho : am_okV M') (hn : (parseMethodDescriptor M'.1.desc).map (fun d => d.parameters.length) = some 5) (ht : am_tab[b]? = some (.inl (ci, ts))) (hq : am_cl[ci]? = some q) (hqc : q.1 = M'.1.cls) (hw : (st.map fun v => v.category).sum ≤ 8) (kk : AF V M' d [.ref b, x1, x2, x3, x4, x5] S (some (.ref r)) S') (k : AW V M (d + 1) kc ks (pc + 3) L (.ref r :: st) (hp S') R) : AW V M (d + 1) kc ks pc L (x5 :: x4 :: x3 :: x2 :: x1 :: .ref b :: st) (hp S) R := by
  unfold AF at kk
  have k1 : AM V M' d 0 0 (.ref b :: [x1, x2, x3, x4, x5]) (hp S) (fun r' h' => AW V M (d + 1) kc ks (pc + 3) L (r'.toList ++ st) h' R) := by
    refine AM.weaken ?_ kk
    intro r' h' z
    rw [z.1, z.2]
    exact k
  have k2 := aw_callV (V := V) (M := M) (M' := M') (d := d) (kc := kc) (ks := ks) (pc := pc) (kc' := 0) (ks' := 0) (as := [x1, x2, x3, x4, x5]) (st := st) (L := L) (h := hp S) (R := R) (b := b) (host := "") hd hl ho hn (hp_at (S := S) ht) hq hqc rfl hw k1
  rw [Nat.zero_add, Nat.zero_add] at k2
  exact k2
theorem ax_callS0i {M' : am_M} {idx : Nat} {r : Int32} {S' : fm} (hd : decode M.2.1 pc = .ok (.invokestatic idx, 3)) (hl : Cond.methodLink M.1.cls idx M'.1 ∈ am_T) (ho : am_okS M') (hn : (parseMethodDescriptor M'.1.desc).map (fun d => d.parameters.length) = some 0) (hw : (st.map fun v => v.category).sum ≤ 8) (kk : AF V M' d [] S (some (.int r)) S') (k : AW V M (d + 1) kc ks (pc + 3) L (.int r :: st) (hp S') R) : AW V M (d + 1) kc ks pc L (st) (hp S) R := by
  unfold AF at kk
  have k1 : AM V M' d 0 0 [] (hp S) (fun r' h' => AW V M (d + 1) kc ks (pc + 3) L (r'.toList ++ st) h' R) := by
    refine AM.weaken ?_ kk
    intro r' h' z
    rw [z.1, z.2]
    exact k
  have k2 := aw_callS (V := V) (M := M) (M' := M') (d := d) (kc := kc) (ks := ks) (pc := pc) (kc' := 0) (ks' := 0) (as := []) (st := st) (L := L) (h := hp S) (R := R) (b := 0) (ci := 0) (q := (RX0, TX0, 12)) (fs := []) (host := "") hd hl ho hn rfl hw k1
  rw [Nat.zero_add, Nat.zero_add] at k2
  exact k2
theorem ax_callS0v {M' : am_M} {idx : Nat} {S' : fm} (hd : decode M.2.1 pc = .ok (.invokestatic idx, 3)) (hl : Cond.methodLink M.1.cls idx M'.1 ∈ am_T) (ho : am_okS M') (hn : (parseMethodDescriptor M'.1.desc).map (fun d => d.parameters.length) = some 0) (hw : (st.map fun v => v.category).sum ≤ 8) (kk : AF V M' d [] S none S') (k : AW V M (d + 1) kc ks (pc + 3) L (st) (hp S') R) : AW V M (d + 1) kc ks pc L (st) (hp S) R := by
  unfold AF at kk
  have k1 : AM V M' d 0 0 [] (hp S) (fun r' h' => AW V M (d + 1) kc ks (pc + 3) L (r'.toList ++ st) h' R) := by
    refine AM.weaken ?_ kk
    intro r' h' z
    rw [z.1, z.2]
    exact k
  have k2 := aw_callS (V := V) (M := M) (M' := M') (d := d) (kc := kc) (ks := ks) (pc := pc) (kc' := 0) (ks' := 0) (as := []) (st := st) (L := L) (h := hp S) (R := R) (b := 0) (ci := 0) (q := (RX0, TX0, 12)) (fs := []) (host := "") hd hl ho hn rfl hw k1
  rw [Nat.zero_add, Nat.zero_add] at k2
  exact k2
theorem ax_callS1i {M' : am_M} {idx : Nat} {x1 : Value} {r : Int32} {S' : fm} (hd : decode M.2.1 pc = .ok (.invokestatic idx, 3)) (hl : Cond.methodLink M.1.cls idx M'.1 ∈ am_T) (ho : am_okS M') (hn : (parseMethodDescriptor M'.1.desc).map (fun d => d.parameters.length) = some 1) (hw : (st.map fun v => v.category).sum ≤ 8) (kk : AF V M' d [x1] S (some (.int r)) S') (k : AW V M (d + 1) kc ks (pc + 3) L (.int r :: st) (hp S') R) : AW V M (d + 1) kc ks pc L (x1 :: st) (hp S) R := by
  unfold AF at kk
  have k1 : AM V M' d 0 0 [x1] (hp S) (fun r' h' => AW V M (d + 1) kc ks (pc + 3) L (r'.toList ++ st) h' R) := by
    refine AM.weaken ?_ kk
    intro r' h' z
    rw [z.1, z.2]
    exact k
  have k2 := aw_callS (V := V) (M := M) (M' := M') (d := d) (kc := kc) (ks := ks) (pc := pc) (kc' := 0) (ks' := 0) (as := [x1]) (st := st) (L := L) (h := hp S) (R := R) (b := 0) (ci := 0) (q := (RX0, TX0, 12)) (fs := []) (host := "") hd hl ho hn rfl hw k1
  rw [Nat.zero_add, Nat.zero_add] at k2
  exact k2
theorem ax_callS1v {M' : am_M} {idx : Nat} {x1 : Value} {S' : fm} (hd : decode M.2.1 pc = .ok (.invokestatic idx, 3)) (hl : Cond.methodLink M.1.cls idx M'.1 ∈ am_T) (ho : am_okS M') (hn : (parseMethodDescriptor M'.1.desc).map (fun d => d.parameters.length) = some 1) (hw : (st.map fun v => v.category).sum ≤ 8) (kk : AF V M' d [x1] S none S') (k : AW V M (d + 1) kc ks (pc + 3) L (st) (hp S') R) : AW V M (d + 1) kc ks pc L (x1 :: st) (hp S) R := by
  unfold AF at kk
  have k1 : AM V M' d 0 0 [x1] (hp S) (fun r' h' => AW V M (d + 1) kc ks (pc + 3) L (r'.toList ++ st) h' R) := by
    refine AM.weaken ?_ kk
    intro r' h' z
    rw [z.1, z.2]
    exact k
  have k2 := aw_callS (V := V) (M := M) (M' := M') (d := d) (kc := kc) (ks := ks) (pc := pc) (kc' := 0) (ks' := 0) (as := [x1]) (st := st) (L := L) (h := hp S) (R := R) (b := 0) (ci := 0) (q := (RX0, TX0, 12)) (fs := []) (host := "") hd hl ho hn rfl hw k1
  rw [Nat.zero_add, Nat.zero_add] at k2
  exact k2
theorem ax_callS1l {M' : am_M} {idx : Nat} {x1 : Value} {r : Int64} {S' : fm} (hd : decode M.2.1 pc = .ok (.invokestatic idx, 3)) (hl : Cond.methodLink M.1.cls idx M'.1 ∈ am_T) (ho : am_okS M') (hn : (parseMethodDescriptor M'.1.desc).map (fun d => d.parameters.length) = some 1) (hw : (st.map fun v => v.category).sum ≤ 8) (kk : AF V M' d [x1] S (some (.long r)) S') (k : AW V M (d + 1) kc ks (pc + 3) L (.long r :: st) (hp S') R) : AW V M (d + 1) kc ks pc L (x1 :: st) (hp S) R := by
  unfold AF at kk
  have k1 : AM V M' d 0 0 [x1] (hp S) (fun r' h' => AW V M (d + 1) kc ks (pc + 3) L (r'.toList ++ st) h' R) := by
    refine AM.weaken ?_ kk
    intro r' h' z
    rw [z.1, z.2]
    exact k
  have k2 := aw_callS (V := V) (M := M) (M' := M') (d := d) (kc := kc) (ks := ks) (pc := pc) (kc' := 0) (ks' := 0) (as := [x1]) (st := st) (L := L) (h := hp S) (R := R) (b := 0) (ci := 0) (q := (RX0, TX0, 12)) (fs := []) (host := "") hd hl ho hn rfl hw k1
  rw [Nat.zero_add, Nat.zero_add] at k2
  exact k2
theorem ax_callS1r {M' : am_M} {idx : Nat} {x1 : Value} {r : Nat} {S' : fm} (hd : decode M.2.1 pc = .ok (.invokestatic idx, 3)) (hl : Cond.methodLink M.1.cls idx M'.1 ∈ am_T) (ho : am_okS M') (hn : (parseMethodDescriptor M'.1.desc).map (fun d => d.parameters.length) = some 1) (hw : (st.map fun v => v.category).sum ≤ 8) (kk : AF V M' d [x1] S (some (.ref r)) S') (k : AW V M (d + 1) kc ks (pc + 3) L (.ref r :: st) (hp S') R) : AW V M (d + 1) kc ks pc L (x1 :: st) (hp S) R := by
  unfold AF at kk
  have k1 : AM V M' d 0 0 [x1] (hp S) (fun r' h' => AW V M (d + 1) kc ks (pc + 3) L (r'.toList ++ st) h' R) := by
    refine AM.weaken ?_ kk
    intro r' h' z
    rw [z.1, z.2]
    exact k
  have k2 := aw_callS (V := V) (M := M) (M' := M') (d := d) (kc := kc) (ks := ks) (pc := pc) (kc' := 0) (ks' := 0) (as := [x1]) (st := st) (L := L) (h := hp S) (R := R) (b := 0) (ci := 0) (q := (RX0, TX0, 12)) (fs := []) (host := "") hd hl ho hn rfl hw k1
  rw [Nat.zero_add, Nat.zero_add] at k2
  exact k2
theorem ax_callS2i {M' : am_M} {idx : Nat} {x1 x2 : Value} {r : Int32} {S' : fm} (hd : decode M.2.1 pc = .ok (.invokestatic idx, 3)) (hl : Cond.methodLink M.1.cls idx M'.1 ∈ am_T) (ho : am_okS M') (hn : (parseMethodDescriptor M'.1.desc).map (fun d => d.parameters.length) = some 2) (hw : (st.map fun v => v.category).sum ≤ 8) (kk : AF V M' d [x1, x2] S (some (.int r)) S') (k : AW V M (d + 1) kc ks (pc + 3) L (.int r :: st) (hp S') R) : AW V M (d + 1) kc ks pc L (x2 :: x1 :: st) (hp S) R := by
  unfold AF at kk
  have k1 : AM V M' d 0 0 [x1, x2] (hp S) (fun r' h' => AW V M (d + 1) kc ks (pc + 3) L (r'.toList ++ st) h' R) := by
    refine AM.weaken ?_ kk
    intro r' h' z
    rw [z.1, z.2]
    exact k
  have k2 := aw_callS (V := V) (M := M) (M' := M') (d := d) (kc := kc) (ks := ks) (pc := pc) (kc' := 0) (ks' := 0) (as := [x1, x2]) (st := st) (L := L) (h := hp S) (R := R) (b := 0) (ci := 0) (q := (RX0, TX0, 12)) (fs := []) (host := "") hd hl ho hn rfl hw k1
  rw [Nat.zero_add, Nat.zero_add] at k2
  exact k2
theorem ax_callS2v {M' : am_M} {idx : Nat} {x1 x2 : Value} {S' : fm} (hd : decode M.2.1 pc = .ok (.invokestatic idx, 3)) (hl : Cond.methodLink M.1.cls idx M'.1 ∈ am_T) (ho : am_okS M') (hn : (parseMethodDescriptor M'.1.desc).map (fun d => d.parameters.length) = some 2) (hw : (st.map fun v => v.category).sum ≤ 8) (kk : AF V M' d [x1, x2] S none S') (k : AW V M (d + 1) kc ks (pc + 3) L (st) (hp S') R) : AW V M (d + 1) kc ks pc L (x2 :: x1 :: st) (hp S) R := by
  unfold AF at kk
  have k1 : AM V M' d 0 0 [x1, x2] (hp S) (fun r' h' => AW V M (d + 1) kc ks (pc + 3) L (r'.toList ++ st) h' R) := by
    refine AM.weaken ?_ kk
    intro r' h' z
    rw [z.1, z.2]
    exact k
  have k2 := aw_callS (V := V) (M := M) (M' := M') (d := d) (kc := kc) (ks := ks) (pc := pc) (kc' := 0) (ks' := 0) (as := [x1, x2]) (st := st) (L := L) (h := hp S) (R := R) (b := 0) (ci := 0) (q := (RX0, TX0, 12)) (fs := []) (host := "") hd hl ho hn rfl hw k1
  rw [Nat.zero_add, Nat.zero_add] at k2
  exact k2
theorem ax_callS2l {M' : am_M} {idx : Nat} {x1 x2 : Value} {r : Int64} {S' : fm} (hd : decode M.2.1 pc = .ok (.invokestatic idx, 3)) (hl : Cond.methodLink M.1.cls idx M'.1 ∈ am_T) (ho : am_okS M') (hn : (parseMethodDescriptor M'.1.desc).map (fun d => d.parameters.length) = some 2) (hw : (st.map fun v => v.category).sum ≤ 8) (kk : AF V M' d [x1, x2] S (some (.long r)) S') (k : AW V M (d + 1) kc ks (pc + 3) L (.long r :: st) (hp S') R) : AW V M (d + 1) kc ks pc L (x2 :: x1 :: st) (hp S) R := by
  unfold AF at kk
  have k1 : AM V M' d 0 0 [x1, x2] (hp S) (fun r' h' => AW V M (d + 1) kc ks (pc + 3) L (r'.toList ++ st) h' R) := by
    refine AM.weaken ?_ kk
    intro r' h' z
    rw [z.1, z.2]
    exact k
  have k2 := aw_callS (V := V) (M := M) (M' := M') (d := d) (kc := kc) (ks := ks) (pc := pc) (kc' := 0) (ks' := 0) (as := [x1, x2]) (st := st) (L := L) (h := hp S) (R := R) (b := 0) (ci := 0) (q := (RX0, TX0, 12)) (fs := []) (host := "") hd hl ho hn rfl hw k1
  rw [Nat.zero_add, Nat.zero_add] at k2
  exact k2
theorem ax_callS2r {M' : am_M} {idx : Nat} {x1 x2 : Value} {r : Nat} {S' : fm} (hd : decode M.2.1 pc = .ok (.invokestatic idx, 3)) (hl : Cond.methodLink M.1.cls idx M'.1 ∈ am_T) (ho : am_okS M') (hn : (parseMethodDescriptor M'.1.desc).map (fun d => d.parameters.length) = some 2) (hw : (st.map fun v => v.category).sum ≤ 8) (kk : AF V M' d [x1, x2] S (some (.ref r)) S') (k : AW V M (d + 1) kc ks (pc + 3) L (.ref r :: st) (hp S') R) : AW V M (d + 1) kc ks pc L (x2 :: x1 :: st) (hp S) R := by
  unfold AF at kk
  have k1 : AM V M' d 0 0 [x1, x2] (hp S) (fun r' h' => AW V M (d + 1) kc ks (pc + 3) L (r'.toList ++ st) h' R) := by
    refine AM.weaken ?_ kk
    intro r' h' z
    rw [z.1, z.2]
    exact k
  have k2 := aw_callS (V := V) (M := M) (M' := M') (d := d) (kc := kc) (ks := ks) (pc := pc) (kc' := 0) (ks' := 0) (as := [x1, x2]) (st := st) (L := L) (h := hp S) (R := R) (b := 0) (ci := 0) (q := (RX0, TX0, 12)) (fs := []) (host := "") hd hl ho hn rfl hw k1
  rw [Nat.zero_add, Nat.zero_add] at k2
  exact k2
theorem ax_callS3i {M' : am_M} {idx : Nat} {x1 x2 x3 : Value} {r : Int32} {S' : fm} (hd : decode M.2.1 pc = .ok (.invokestatic idx, 3)) (hl : Cond.methodLink M.1.cls idx M'.1 ∈ am_T) (ho : am_okS M') (hn : (parseMethodDescriptor M'.1.desc).map (fun d => d.parameters.length) = some 3) (hw : (st.map fun v => v.category).sum ≤ 8) (kk : AF V M' d [x1, x2, x3] S (some (.int r)) S') (k : AW V M (d + 1) kc ks (pc + 3) L (.int r :: st) (hp S') R) : AW V M (d + 1) kc ks pc L (x3 :: x2 :: x1 :: st) (hp S) R := by
  unfold AF at kk
  have k1 : AM V M' d 0 0 [x1, x2, x3] (hp S) (fun r' h' => AW V M (d + 1) kc ks (pc + 3) L (r'.toList ++ st) h' R) := by
    refine AM.weaken ?_ kk
    intro r' h' z
    rw [z.1, z.2]
    exact k
  have k2 := aw_callS (V := V) (M := M) (M' := M') (d := d) (kc := kc) (ks := ks) (pc := pc) (kc' := 0) (ks' := 0) (as := [x1, x2, x3]) (st := st) (L := L) (h := hp S) (R := R) (b := 0) (ci := 0) (q := (RX0, TX0, 12)) (fs := []) (host := "") hd hl ho hn rfl hw k1
  rw [Nat.zero_add, Nat.zero_add] at k2
  exact k2
theorem ax_callS3v {M' : am_M} {idx : Nat} {x1 x2 x3 : Value} {S' : fm} (hd : decode M.2.1 pc = .ok (.invokestatic idx, 3)) (hl : Cond.methodLink M.1.cls idx M'.1 ∈ am_T) (ho : am_okS M') (hn : (parseMethodDescriptor M'.1.desc).map (fun d => d.parameters.length) = some 3) (hw : (st.map fun v => v.category).sum ≤ 8) (kk : AF V M' d [x1, x2, x3] S none S') (k : AW V M (d + 1) kc ks (pc + 3) L (st) (hp S') R) : AW V M (d + 1) kc ks pc L (x3 :: x2 :: x1 :: st) (hp S) R := by
  unfold AF at kk
  have k1 : AM V M' d 0 0 [x1, x2, x3] (hp S) (fun r' h' => AW V M (d + 1) kc ks (pc + 3) L (r'.toList ++ st) h' R) := by
    refine AM.weaken ?_ kk
    intro r' h' z
    rw [z.1, z.2]
    exact k
  have k2 := aw_callS (V := V) (M := M) (M' := M') (d := d) (kc := kc) (ks := ks) (pc := pc) (kc' := 0) (ks' := 0) (as := [x1, x2, x3]) (st := st) (L := L) (h := hp S) (R := R) (b := 0) (ci := 0) (q := (RX0, TX0, 12)) (fs := []) (host := "") hd hl ho hn rfl hw k1
  rw [Nat.zero_add, Nat.zero_add] at k2
  exact k2
theorem ax_callS3l {M' : am_M} {idx : Nat} {x1 x2 x3 : Value} {r : Int64} {S' : fm} (hd : decode M.2.1 pc = .ok (.invokestatic idx, 3)) (hl : Cond.methodLink M.1.cls idx M'.1 ∈ am_T) (ho : am_okS M') (hn : (parseMethodDescriptor M'.1.desc).map (fun d => d.parameters.length) = some 3) (hw : (st.map fun v => v.category).sum ≤ 8) (kk : AF V M' d [x1, x2, x3] S (some (.long r)) S') (k : AW V M (d + 1) kc ks (pc + 3) L (.long r :: st) (hp S') R) : AW V M (d + 1) kc ks pc L (x3 :: x2 :: x1 :: st) (hp S) R := by
  unfold AF at kk
  have k1 : AM V M' d 0 0 [x1, x2, x3] (hp S) (fun r' h' => AW V M (d + 1) kc ks (pc + 3) L (r'.toList ++ st) h' R) := by
    refine AM.weaken ?_ kk
    intro r' h' z
    rw [z.1, z.2]
    exact k
  have k2 := aw_callS (V := V) (M := M) (M' := M') (d := d) (kc := kc) (ks := ks) (pc := pc) (kc' := 0) (ks' := 0) (as := [x1, x2, x3]) (st := st) (L := L) (h := hp S) (R := R) (b := 0) (ci := 0) (q := (RX0, TX0, 12)) (fs := []) (host := "") hd hl ho hn rfl hw k1
  rw [Nat.zero_add, Nat.zero_add] at k2
  exact k2
theorem ax_callS3r {M' : am_M} {idx : Nat} {x1 x2 x3 : Value} {r : Nat} {S' : fm} (hd : decode M.2.1 pc = .ok (.invokestatic idx, 3)) (hl : Cond.methodLink M.1.cls idx M'.1 ∈ am_T) (ho : am_okS M') (hn : (parseMethodDescriptor M'.1.desc).map (fun d => d.parameters.length) = some 3) (hw : (st.map fun v => v.category).sum ≤ 8) (kk : AF V M' d [x1, x2, x3] S (some (.ref r)) S') (k : AW V M (d + 1) kc ks (pc + 3) L (.ref r :: st) (hp S') R) : AW V M (d + 1) kc ks pc L (x3 :: x2 :: x1 :: st) (hp S) R := by
  unfold AF at kk
  have k1 : AM V M' d 0 0 [x1, x2, x3] (hp S) (fun r' h' => AW V M (d + 1) kc ks (pc + 3) L (r'.toList ++ st) h' R) := by
    refine AM.weaken ?_ kk
    intro r' h' z
    rw [z.1, z.2]
    exact k
  have k2 := aw_callS (V := V) (M := M) (M' := M') (d := d) (kc := kc) (ks := ks) (pc := pc) (kc' := 0) (ks' := 0) (as := [x1, x2, x3]) (st := st) (L := L) (h := hp S) (R := R) (b := 0) (ci := 0) (q := (RX0, TX0, 12)) (fs := []) (host := "") hd hl ho hn rfl hw k1
  rw [Nat.zero_add, Nat.zero_add] at k2
  exact k2
theorem ax_callS4i {M' : am_M} {idx : Nat} {x1 x2 x3 x4 : Value} {r : Int32} {S' : fm} (hd : decode M.2.1 pc = .ok (.invokestatic idx, 3)) (hl : Cond.methodLink M.1.cls idx M'.1 ∈ am_T) (ho : am_okS M') (hn : (parseMethodDescriptor M'.1.desc).map (fun d => d.parameters.length) = some 4) (hw : (st.map fun v => v.category).sum ≤ 8) (kk : AF V M' d [x1, x2, x3, x4] S (some (.int r)) S') (k : AW V M (d + 1) kc ks (pc + 3) L (.int r :: st) (hp S') R) : AW V M (d + 1) kc ks pc L (x4 :: x3 :: x2 :: x1 :: st) (hp S) R := by
  unfold AF at kk
  have k1 : AM V M' d 0 0 [x1, x2, x3, x4] (hp S) (fun r' h' => AW V M (d + 1) kc ks (pc + 3) L (r'.toList ++ st) h' R) := by
    refine AM.weaken ?_ kk
    intro r' h' z
    rw [z.1, z.2]
    exact k
  have k2 := aw_callS (V := V) (M := M) (M' := M') (d := d) (kc := kc) (ks := ks) (pc := pc) (kc' := 0) (ks' := 0) (as := [x1, x2, x3, x4]) (st := st) (L := L) (h := hp S) (R := R) (b := 0) (ci := 0) (q := (RX0, TX0, 12)) (fs := []) (host := "") hd hl ho hn rfl hw k1
  rw [Nat.zero_add, Nat.zero_add] at k2
  exact k2
theorem ax_callS4v {M' : am_M} {idx : Nat} {x1 x2 x3 x4 : Value} {S' : fm} (hd : decode M.2.1 pc = .ok (.invokestatic idx, 3)) (hl : Cond.methodLink M.1.cls idx M'.1 ∈ am_T) (ho : am_okS M') (hn : (parseMethodDescriptor M'.1.desc).map (fun d => d.parameters.length) = some 4) (hw : (st.map fun v => v.category).sum ≤ 8) (kk : AF V M' d [x1, x2, x3, x4] S none S') (k : AW V M (d + 1) kc ks (pc + 3) L (st) (hp S') R) : AW V M (d + 1) kc ks pc L (x4 :: x3 :: x2 :: x1 :: st) (hp S) R := by
  unfold AF at kk
  have k1 : AM V M' d 0 0 [x1, x2, x3, x4] (hp S) (fun r' h' => AW V M (d + 1) kc ks (pc + 3) L (r'.toList ++ st) h' R) := by
    refine AM.weaken ?_ kk
    intro r' h' z
    rw [z.1, z.2]
    exact k
  have k2 := aw_callS (V := V) (M := M) (M' := M') (d := d) (kc := kc) (ks := ks) (pc := pc) (kc' := 0) (ks' := 0) (as := [x1, x2, x3, x4]) (st := st) (L := L) (h := hp S) (R := R) (b := 0) (ci := 0) (q := (RX0, TX0, 12)) (fs := []) (host := "") hd hl ho hn rfl hw k1
  rw [Nat.zero_add, Nat.zero_add] at k2
  exact k2
theorem ax_callS4l {M' : am_M} {idx : Nat} {x1 x2 x3 x4 : Value} {r : Int64} {S' : fm} (hd : decode M.2.1 pc = .ok (.invokestatic idx, 3)) (hl : Cond.methodLink M.1.cls idx M'.1 ∈ am_T) (ho : am_okS M') (hn : (parseMethodDescriptor M'.1.desc).map (fun d => d.parameters.length) = some 4) (hw : (st.map fun v => v.category).sum ≤ 8) (kk : AF V M' d [x1, x2, x3, x4] S (some (.long r)) S') (k : AW V M (d + 1) kc ks (pc + 3) L (.long r :: st) (hp S') R) : AW V M (d + 1) kc ks pc L (x4 :: x3 :: x2 :: x1 :: st) (hp S) R := by
  unfold AF at kk
  have k1 : AM V M' d 0 0 [x1, x2, x3, x4] (hp S) (fun r' h' => AW V M (d + 1) kc ks (pc + 3) L (r'.toList ++ st) h' R) := by
    refine AM.weaken ?_ kk
    intro r' h' z
    rw [z.1, z.2]
    exact k
  have k2 := aw_callS (V := V) (M := M) (M' := M') (d := d) (kc := kc) (ks := ks) (pc := pc) (kc' := 0) (ks' := 0) (as := [x1, x2, x3, x4]) (st := st) (L := L) (h := hp S) (R := R) (b := 0) (ci := 0) (q := (RX0, TX0, 12)) (fs := []) (host := "") hd hl ho hn rfl hw k1
  rw [Nat.zero_add, Nat.zero_add] at k2
  exact k2
theorem ax_callS4r {M' : am_M} {idx : Nat} {x1 x2 x3 x4 : Value} {r : Nat} {S' : fm} (hd : decode M.2.1 pc = .ok (.invokestatic idx, 3)) (hl : Cond.methodLink M.1.cls idx M'.1 ∈ am_T) (ho : am_okS M') (hn : (parseMethodDescriptor M'.1.desc).map (fun d => d.parameters.length) = some 4) (hw : (st.map fun v => v.category).sum ≤ 8) (kk : AF V M' d [x1, x2, x3, x4] S (some (.ref r)) S') (k : AW V M (d + 1) kc ks (pc + 3) L (.ref r :: st) (hp S') R) : AW V M (d + 1) kc ks pc L (x4 :: x3 :: x2 :: x1 :: st) (hp S) R := by
  unfold AF at kk
  have k1 : AM V M' d 0 0 [x1, x2, x3, x4] (hp S) (fun r' h' => AW V M (d + 1) kc ks (pc + 3) L (r'.toList ++ st) h' R) := by
    refine AM.weaken ?_ kk
    intro r' h' z
    rw [z.1, z.2]
    exact k
  have k2 := aw_callS (V := V) (M := M) (M' := M') (d := d) (kc := kc) (ks := ks) (pc := pc) (kc' := 0) (ks' := 0) (as := [x1, x2, x3, x4]) (st := st) (L := L) (h := hp S) (R := R) (b := 0) (ci := 0) (q := (RX0, TX0, 12)) (fs := []) (host := "") hd hl ho hn rfl hw k1
  rw [Nat.zero_add, Nat.zero_add] at k2
  exact k2
theorem ax_callS5i {M' : am_M} {idx : Nat} {x1 x2 x3 x4 x5 : Value} {r : Int32} {S' : fm} (hd : decode M.2.1 pc = .ok (.invokestatic idx, 3)) (hl : Cond.methodLink M.1.cls idx M'.1 ∈ am_T) (ho : am_okS M') (hn : (parseMethodDescriptor M'.1.desc).map (fun d => d.parameters.length) = some 5) (hw : (st.map fun v => v.category).sum ≤ 8) (kk : AF V M' d [x1, x2, x3, x4, x5] S (some (.int r)) S') (k : AW V M (d + 1) kc ks (pc + 3) L (.int r :: st) (hp S') R) : AW V M (d + 1) kc ks pc L (x5 :: x4 :: x3 :: x2 :: x1 :: st) (hp S) R := by
  unfold AF at kk
  have k1 : AM V M' d 0 0 [x1, x2, x3, x4, x5] (hp S) (fun r' h' => AW V M (d + 1) kc ks (pc + 3) L (r'.toList ++ st) h' R) := by
    refine AM.weaken ?_ kk
    intro r' h' z
    rw [z.1, z.2]
    exact k
  have k2 := aw_callS (V := V) (M := M) (M' := M') (d := d) (kc := kc) (ks := ks) (pc := pc) (kc' := 0) (ks' := 0) (as := [x1, x2, x3, x4, x5]) (st := st) (L := L) (h := hp S) (R := R) (b := 0) (ci := 0) (q := (RX0, TX0, 12)) (fs := []) (host := "") hd hl ho hn rfl hw k1
  rw [Nat.zero_add, Nat.zero_add] at k2
  exact k2
theorem ax_callS5v {M' : am_M} {idx : Nat} {x1 x2 x3 x4 x5 : Value} {S' : fm} (hd : decode M.2.1 pc = .ok (.invokestatic idx, 3)) (hl : Cond.methodLink M.1.cls idx M'.1 ∈ am_T) (ho : am_okS M') (hn : (parseMethodDescriptor M'.1.desc).map (fun d => d.parameters.length) = some 5) (hw : (st.map fun v => v.category).sum ≤ 8) (kk : AF V M' d [x1, x2, x3, x4, x5] S none S') (k : AW V M (d + 1) kc ks (pc + 3) L (st) (hp S') R) : AW V M (d + 1) kc ks pc L (x5 :: x4 :: x3 :: x2 :: x1 :: st) (hp S) R := by
  unfold AF at kk
  have k1 : AM V M' d 0 0 [x1, x2, x3, x4, x5] (hp S) (fun r' h' => AW V M (d + 1) kc ks (pc + 3) L (r'.toList ++ st) h' R) := by
    refine AM.weaken ?_ kk
    intro r' h' z
    rw [z.1, z.2]
    exact k
  have k2 := aw_callS (V := V) (M := M) (M' := M') (d := d) (kc := kc) (ks := ks) (pc := pc) (kc' := 0) (ks' := 0) (as := [x1, x2, x3, x4, x5]) (st := st) (L := L) (h := hp S) (R := R) (b := 0) (ci := 0) (q := (RX0, TX0, 12)) (fs := []) (host := "") hd hl ho hn rfl hw k1
  rw [Nat.zero_add, Nat.zero_add] at k2
  exact k2
theorem ax_callS5l {M' : am_M} {idx : Nat} {x1 x2 x3 x4 x5 : Value} {r : Int64} {S' : fm} (hd : decode M.2.1 pc = .ok (.invokestatic idx, 3)) (hl : Cond.methodLink M.1.cls idx M'.1 ∈ am_T) (ho : am_okS M') (hn : (parseMethodDescriptor M'.1.desc).map (fun d => d.parameters.length) = some 5) (hw : (st.map fun v => v.category).sum ≤ 8) (kk : AF V M' d [x1, x2, x3, x4, x5] S (some (.long r)) S') (k : AW V M (d + 1) kc ks (pc + 3) L (.long r :: st) (hp S') R) : AW V M (d + 1) kc ks pc L (x5 :: x4 :: x3 :: x2 :: x1 :: st) (hp S) R := by
  unfold AF at kk
  have k1 : AM V M' d 0 0 [x1, x2, x3, x4, x5] (hp S) (fun r' h' => AW V M (d + 1) kc ks (pc + 3) L (r'.toList ++ st) h' R) := by
    refine AM.weaken ?_ kk
    intro r' h' z
    rw [z.1, z.2]
    exact k
  have k2 := aw_callS (V := V) (M := M) (M' := M') (d := d) (kc := kc) (ks := ks) (pc := pc) (kc' := 0) (ks' := 0) (as := [x1, x2, x3, x4, x5]) (st := st) (L := L) (h := hp S) (R := R) (b := 0) (ci := 0) (q := (RX0, TX0, 12)) (fs := []) (host := "") hd hl ho hn rfl hw k1
  rw [Nat.zero_add, Nat.zero_add] at k2
  exact k2
theorem ax_callS5r {M' : am_M} {idx : Nat} {x1 x2 x3 x4 x5 : Value} {r : Nat} {S' : fm} (hd : decode M.2.1 pc = .ok (.invokestatic idx, 3)) (hl : Cond.methodLink M.1.cls idx M'.1 ∈ am_T) (ho : am_okS M') (hn : (parseMethodDescriptor M'.1.desc).map (fun d => d.parameters.length) = some 5) (hw : (st.map fun v => v.category).sum ≤ 8) (kk : AF V M' d [x1, x2, x3, x4, x5] S (some (.ref r)) S') (k : AW V M (d + 1) kc ks (pc + 3) L (.ref r :: st) (hp S') R) : AW V M (d + 1) kc ks pc L (x5 :: x4 :: x3 :: x2 :: x1 :: st) (hp S) R := by
  unfold AF at kk
  have k1 : AM V M' d 0 0 [x1, x2, x3, x4, x5] (hp S) (fun r' h' => AW V M (d + 1) kc ks (pc + 3) L (r'.toList ++ st) h' R) := by
    refine AM.weaken ?_ kk
    intro r' h' z
    rw [z.1, z.2]
    exact k
  have k2 := aw_callS (V := V) (M := M) (M' := M') (d := d) (kc := kc) (ks := ks) (pc := pc) (kc' := 0) (ks' := 0) (as := [x1, x2, x3, x4, x5]) (st := st) (L := L) (h := hp S) (R := R) (b := 0) (ci := 0) (q := (RX0, TX0, 12)) (fs := []) (host := "") hd hl ho hn rfl hw k1
  rw [Nat.zero_add, Nat.zero_add] at k2
  exact k2
theorem ax_callSN0i {M' : am_M} {idx : Nat} {host : String} {r : Int32} {S' : fm} (hd : decode M.2.1 pc = .ok (.invokestatic idx, 3)) (hl : Cond.methodLinkNest M.1.cls idx M'.1 host ∈ am_nest) (ho : am_okS M') (hn : (parseMethodDescriptor M'.1.desc).map (fun d => d.parameters.length) = some 0) (hw : (st.map fun v => v.category).sum ≤ 8) (kk : AF V M' d [] S (some (.int r)) S') (k : AW V M (d + 1) kc ks (pc + 3) L (.int r :: st) (hp S') R) : AW V M (d + 1) kc ks pc L (st) (hp S) R := by
  unfold AF at kk
  have k1 : AM V M' d 0 0 [] (hp S) (fun r' h' => AW V M (d + 1) kc ks (pc + 3) L (r'.toList ++ st) h' R) := by
    refine AM.weaken ?_ kk
    intro r' h' z
    rw [z.1, z.2]
    exact k
  have k2 := aw_callSN (V := V) (M := M) (M' := M') (d := d) (kc := kc) (ks := ks) (pc := pc) (kc' := 0) (ks' := 0) (as := []) (st := st) (L := L) (h := hp S) (R := R) (b := 0) (ci := 0) (q := (RX0, TX0, 12)) (fs := []) hd hl ho hn rfl hw k1
  rw [Nat.zero_add, Nat.zero_add] at k2
  exact k2
theorem ax_callSN0v {M' : am_M} {idx : Nat} {host : String} {S' : fm} (hd : decode M.2.1 pc = .ok (.invokestatic idx, 3)) (hl : Cond.methodLinkNest M.1.cls idx M'.1 host ∈ am_nest) (ho : am_okS M') (hn : (parseMethodDescriptor M'.1.desc).map (fun d => d.parameters.length) = some 0) (hw : (st.map fun v => v.category).sum ≤ 8) (kk : AF V M' d [] S none S') (k : AW V M (d + 1) kc ks (pc + 3) L (st) (hp S') R) : AW V M (d + 1) kc ks pc L (st) (hp S) R := by
  unfold AF at kk
  have k1 : AM V M' d 0 0 [] (hp S) (fun r' h' => AW V M (d + 1) kc ks (pc + 3) L (r'.toList ++ st) h' R) := by
    refine AM.weaken ?_ kk
    intro r' h' z
    rw [z.1, z.2]
    exact k
  have k2 := aw_callSN (V := V) (M := M) (M' := M') (d := d) (kc := kc) (ks := ks) (pc := pc) (kc' := 0) (ks' := 0) (as := []) (st := st) (L := L) (h := hp S) (R := R) (b := 0) (ci := 0) (q := (RX0, TX0, 12)) (fs := []) hd hl ho hn rfl hw k1
  rw [Nat.zero_add, Nat.zero_add] at k2
  exact k2
theorem ax_callSN1i {M' : am_M} {idx : Nat} {host : String} {x1 : Value} {r : Int32} {S' : fm} (hd : decode M.2.1 pc = .ok (.invokestatic idx, 3)) (hl : Cond.methodLinkNest M.1.cls idx M'.1 host ∈ am_nest) (ho : am_okS M') (hn : (parseMethodDescriptor M'.1.desc).map (fun d => d.parameters.length) = some 1) (hw : (st.map fun v => v.category).sum ≤ 8) (kk : AF V M' d [x1] S (some (.int r)) S') (k : AW V M (d + 1) kc ks (pc + 3) L (.int r :: st) (hp S') R) : AW V M (d + 1) kc ks pc L (x1 :: st) (hp S) R := by
  unfold AF at kk
  have k1 : AM V M' d 0 0 [x1] (hp S) (fun r' h' => AW V M (d + 1) kc ks (pc + 3) L (r'.toList ++ st) h' R) := by
    refine AM.weaken ?_ kk
    intro r' h' z
    rw [z.1, z.2]
    exact k
  have k2 := aw_callSN (V := V) (M := M) (M' := M') (d := d) (kc := kc) (ks := ks) (pc := pc) (kc' := 0) (ks' := 0) (as := [x1]) (st := st) (L := L) (h := hp S) (R := R) (b := 0) (ci := 0) (q := (RX0, TX0, 12)) (fs := []) hd hl ho hn rfl hw k1
  rw [Nat.zero_add, Nat.zero_add] at k2
  exact k2
theorem ax_callSN1v {M' : am_M} {idx : Nat} {host : String} {x1 : Value} {S' : fm} (hd : decode M.2.1 pc = .ok (.invokestatic idx, 3)) (hl : Cond.methodLinkNest M.1.cls idx M'.1 host ∈ am_nest) (ho : am_okS M') (hn : (parseMethodDescriptor M'.1.desc).map (fun d => d.parameters.length) = some 1) (hw : (st.map fun v => v.category).sum ≤ 8) (kk : AF V M' d [x1] S none S') (k : AW V M (d + 1) kc ks (pc + 3) L (st) (hp S') R) : AW V M (d + 1) kc ks pc L (x1 :: st) (hp S) R := by
  unfold AF at kk
  have k1 : AM V M' d 0 0 [x1] (hp S) (fun r' h' => AW V M (d + 1) kc ks (pc + 3) L (r'.toList ++ st) h' R) := by
    refine AM.weaken ?_ kk
    intro r' h' z
    rw [z.1, z.2]
    exact k
  have k2 := aw_callSN (V := V) (M := M) (M' := M') (d := d) (kc := kc) (ks := ks) (pc := pc) (kc' := 0) (ks' := 0) (as := [x1]) (st := st) (L := L) (h := hp S) (R := R) (b := 0) (ci := 0) (q := (RX0, TX0, 12)) (fs := []) hd hl ho hn rfl hw k1
  rw [Nat.zero_add, Nat.zero_add] at k2
  exact k2
theorem ax_callSN1l {M' : am_M} {idx : Nat} {host : String} {x1 : Value} {r : Int64} {S' : fm} (hd : decode M.2.1 pc = .ok (.invokestatic idx, 3)) (hl : Cond.methodLinkNest M.1.cls idx M'.1 host ∈ am_nest) (ho : am_okS M') (hn : (parseMethodDescriptor M'.1.desc).map (fun d => d.parameters.length) = some 1) (hw : (st.map fun v => v.category).sum ≤ 8) (kk : AF V M' d [x1] S (some (.long r)) S') (k : AW V M (d + 1) kc ks (pc + 3) L (.long r :: st) (hp S') R) : AW V M (d + 1) kc ks pc L (x1 :: st) (hp S) R := by
  unfold AF at kk
  have k1 : AM V M' d 0 0 [x1] (hp S) (fun r' h' => AW V M (d + 1) kc ks (pc + 3) L (r'.toList ++ st) h' R) := by
    refine AM.weaken ?_ kk
    intro r' h' z
    rw [z.1, z.2]
    exact k
  have k2 := aw_callSN (V := V) (M := M) (M' := M') (d := d) (kc := kc) (ks := ks) (pc := pc) (kc' := 0) (ks' := 0) (as := [x1]) (st := st) (L := L) (h := hp S) (R := R) (b := 0) (ci := 0) (q := (RX0, TX0, 12)) (fs := []) hd hl ho hn rfl hw k1
  rw [Nat.zero_add, Nat.zero_add] at k2
  exact k2
theorem ax_callSN1r {M' : am_M} {idx : Nat} {host : String} {x1 : Value} {r : Nat} {S' : fm} (hd : decode M.2.1 pc = .ok (.invokestatic idx, 3)) (hl : Cond.methodLinkNest M.1.cls idx M'.1 host ∈ am_nest) (ho : am_okS M') (hn : (parseMethodDescriptor M'.1.desc).map (fun d => d.parameters.length) = some 1) (hw : (st.map fun v => v.category).sum ≤ 8) (kk : AF V M' d [x1] S (some (.ref r)) S') (k : AW V M (d + 1) kc ks (pc + 3) L (.ref r :: st) (hp S') R) : AW V M (d + 1) kc ks pc L (x1 :: st) (hp S) R := by
  unfold AF at kk
  have k1 : AM V M' d 0 0 [x1] (hp S) (fun r' h' => AW V M (d + 1) kc ks (pc + 3) L (r'.toList ++ st) h' R) := by
    refine AM.weaken ?_ kk
    intro r' h' z
    rw [z.1, z.2]
    exact k
  have k2 := aw_callSN (V := V) (M := M) (M' := M') (d := d) (kc := kc) (ks := ks) (pc := pc) (kc' := 0) (ks' := 0) (as := [x1]) (st := st) (L := L) (h := hp S) (R := R) (b := 0) (ci := 0) (q := (RX0, TX0, 12)) (fs := []) hd hl ho hn rfl hw k1
  rw [Nat.zero_add, Nat.zero_add] at k2
  exact k2
theorem ax_callSN2i {M' : am_M} {idx : Nat} {host : String} {x1 x2 : Value} {r : Int32} {S' : fm} (hd : decode M.2.1 pc = .ok (.invokestatic idx, 3)) (hl : Cond.methodLinkNest M.1.cls idx M'.1 host ∈ am_nest) (ho : am_okS M') (hn : (parseMethodDescriptor M'.1.desc).map (fun d => d.parameters.length) = some 2) (hw : (st.map fun v => v.category).sum ≤ 8) (kk : AF V M' d [x1, x2] S (some (.int r)) S') (k : AW V M (d + 1) kc ks (pc + 3) L (.int r :: st) (hp S') R) : AW V M (d + 1) kc ks pc L (x2 :: x1 :: st) (hp S) R := by
  unfold AF at kk
  have k1 : AM V M' d 0 0 [x1, x2] (hp S) (fun r' h' => AW V M (d + 1) kc ks (pc + 3) L (r'.toList ++ st) h' R) := by
    refine AM.weaken ?_ kk
    intro r' h' z
    rw [z.1, z.2]
    exact k
  have k2 := aw_callSN (V := V) (M := M) (M' := M') (d := d) (kc := kc) (ks := ks) (pc := pc) (kc' := 0) (ks' := 0) (as := [x1, x2]) (st := st) (L := L) (h := hp S) (R := R) (b := 0) (ci := 0) (q := (RX0, TX0, 12)) (fs := []) hd hl ho hn rfl hw k1
  rw [Nat.zero_add, Nat.zero_add] at k2
  exact k2
theorem ax_callSN2v {M' : am_M} {idx : Nat} {host : String} {x1 x2 : Value} {S' : fm} (hd : decode M.2.1 pc = .ok (.invokestatic idx, 3)) (hl : Cond.methodLinkNest M.1.cls idx M'.1 host ∈ am_nest) (ho : am_okS M') (hn : (parseMethodDescriptor M'.1.desc).map (fun d => d.parameters.length) = some 2) (hw : (st.map fun v => v.category).sum ≤ 8) (kk : AF V M' d [x1, x2] S none S') (k : AW V M (d + 1) kc ks (pc + 3) L (st) (hp S') R) : AW V M (d + 1) kc ks pc L (x2 :: x1 :: st) (hp S) R := by
  unfold AF at kk
  have k1 : AM V M' d 0 0 [x1, x2] (hp S) (fun r' h' => AW V M (d + 1) kc ks (pc + 3) L (r'.toList ++ st) h' R) := by
    refine AM.weaken ?_ kk
    intro r' h' z
    rw [z.1, z.2]
    exact k
  have k2 := aw_callSN (V := V) (M := M) (M' := M') (d := d) (kc := kc) (ks := ks) (pc := pc) (kc' := 0) (ks' := 0) (as := [x1, x2]) (st := st) (L := L) (h := hp S) (R := R) (b := 0) (ci := 0) (q := (RX0, TX0, 12)) (fs := []) hd hl ho hn rfl hw k1
  rw [Nat.zero_add, Nat.zero_add] at k2
  exact k2
theorem ax_callSN2l {M' : am_M} {idx : Nat} {host : String} {x1 x2 : Value} {r : Int64} {S' : fm} (hd : decode M.2.1 pc = .ok (.invokestatic idx, 3)) (hl : Cond.methodLinkNest M.1.cls idx M'.1 host ∈ am_nest) (ho : am_okS M') (hn : (parseMethodDescriptor M'.1.desc).map (fun d => d.parameters.length) = some 2) (hw : (st.map fun v => v.category).sum ≤ 8) (kk : AF V M' d [x1, x2] S (some (.long r)) S') (k : AW V M (d + 1) kc ks (pc + 3) L (.long r :: st) (hp S') R) : AW V M (d + 1) kc ks pc L (x2 :: x1 :: st) (hp S) R := by
  unfold AF at kk
  have k1 : AM V M' d 0 0 [x1, x2] (hp S) (fun r' h' => AW V M (d + 1) kc ks (pc + 3) L (r'.toList ++ st) h' R) := by
    refine AM.weaken ?_ kk
    intro r' h' z
    rw [z.1, z.2]
    exact k
  have k2 := aw_callSN (V := V) (M := M) (M' := M') (d := d) (kc := kc) (ks := ks) (pc := pc) (kc' := 0) (ks' := 0) (as := [x1, x2]) (st := st) (L := L) (h := hp S) (R := R) (b := 0) (ci := 0) (q := (RX0, TX0, 12)) (fs := []) hd hl ho hn rfl hw k1
  rw [Nat.zero_add, Nat.zero_add] at k2
  exact k2
theorem ax_callSN2r {M' : am_M} {idx : Nat} {host : String} {x1 x2 : Value} {r : Nat} {S' : fm} (hd : decode M.2.1 pc = .ok (.invokestatic idx, 3)) (hl : Cond.methodLinkNest M.1.cls idx M'.1 host ∈ am_nest) (ho : am_okS M') (hn : (parseMethodDescriptor M'.1.desc).map (fun d => d.parameters.length) = some 2) (hw : (st.map fun v => v.category).sum ≤ 8) (kk : AF V M' d [x1, x2] S (some (.ref r)) S') (k : AW V M (d + 1) kc ks (pc + 3) L (.ref r :: st) (hp S') R) : AW V M (d + 1) kc ks pc L (x2 :: x1 :: st) (hp S) R := by
  unfold AF at kk
  have k1 : AM V M' d 0 0 [x1, x2] (hp S) (fun r' h' => AW V M (d + 1) kc ks (pc + 3) L (r'.toList ++ st) h' R) := by
    refine AM.weaken ?_ kk
    intro r' h' z
    rw [z.1, z.2]
    exact k
  have k2 := aw_callSN (V := V) (M := M) (M' := M') (d := d) (kc := kc) (ks := ks) (pc := pc) (kc' := 0) (ks' := 0) (as := [x1, x2]) (st := st) (L := L) (h := hp S) (R := R) (b := 0) (ci := 0) (q := (RX0, TX0, 12)) (fs := []) hd hl ho hn rfl hw k1
  rw [Nat.zero_add, Nat.zero_add] at k2
  exact k2
theorem ax_callSN3i {M' : am_M} {idx : Nat} {host : String} {x1 x2 x3 : Value} {r : Int32} {S' : fm} (hd : decode M.2.1 pc = .ok (.invokestatic idx, 3)) (hl : Cond.methodLinkNest M.1.cls idx M'.1 host ∈ am_nest) (ho : am_okS M') (hn : (parseMethodDescriptor M'.1.desc).map (fun d => d.parameters.length) = some 3) (hw : (st.map fun v => v.category).sum ≤ 8) (kk : AF V M' d [x1, x2, x3] S (some (.int r)) S') (k : AW V M (d + 1) kc ks (pc + 3) L (.int r :: st) (hp S') R) : AW V M (d + 1) kc ks pc L (x3 :: x2 :: x1 :: st) (hp S) R := by
  unfold AF at kk
  have k1 : AM V M' d 0 0 [x1, x2, x3] (hp S) (fun r' h' => AW V M (d + 1) kc ks (pc + 3) L (r'.toList ++ st) h' R) := by
    refine AM.weaken ?_ kk
    intro r' h' z
    rw [z.1, z.2]
    exact k
  have k2 := aw_callSN (V := V) (M := M) (M' := M') (d := d) (kc := kc) (ks := ks) (pc := pc) (kc' := 0) (ks' := 0) (as := [x1, x2, x3]) (st := st) (L := L) (h := hp S) (R := R) (b := 0) (ci := 0) (q := (RX0, TX0, 12)) (fs := []) hd hl ho hn rfl hw k1
  rw [Nat.zero_add, Nat.zero_add] at k2
  exact k2
theorem ax_callSN3v {M' : am_M} {idx : Nat} {host : String} {x1 x2 x3 : Value} {S' : fm} (hd : decode M.2.1 pc = .ok (.invokestatic idx, 3)) (hl : Cond.methodLinkNest M.1.cls idx M'.1 host ∈ am_nest) (ho : am_okS M') (hn : (parseMethodDescriptor M'.1.desc).map (fun d => d.parameters.length) = some 3) (hw : (st.map fun v => v.category).sum ≤ 8) (kk : AF V M' d [x1, x2, x3] S none S') (k : AW V M (d + 1) kc ks (pc + 3) L (st) (hp S') R) : AW V M (d + 1) kc ks pc L (x3 :: x2 :: x1 :: st) (hp S) R := by
  unfold AF at kk
  have k1 : AM V M' d 0 0 [x1, x2, x3] (hp S) (fun r' h' => AW V M (d + 1) kc ks (pc + 3) L (r'.toList ++ st) h' R) := by
    refine AM.weaken ?_ kk
    intro r' h' z
    rw [z.1, z.2]
    exact k
  have k2 := aw_callSN (V := V) (M := M) (M' := M') (d := d) (kc := kc) (ks := ks) (pc := pc) (kc' := 0) (ks' := 0) (as := [x1, x2, x3]) (st := st) (L := L) (h := hp S) (R := R) (b := 0) (ci := 0) (q := (RX0, TX0, 12)) (fs := []) hd hl ho hn rfl hw k1
  rw [Nat.zero_add, Nat.zero_add] at k2
  exact k2
theorem ax_callSN3l {M' : am_M} {idx : Nat} {host : String} {x1 x2 x3 : Value} {r : Int64} {S' : fm} (hd : decode M.2.1 pc = .ok (.invokestatic idx, 3)) (hl : Cond.methodLinkNest M.1.cls idx M'.1 host ∈ am_nest) (ho : am_okS M') (hn : (parseMethodDescriptor M'.1.desc).map (fun d => d.parameters.length) = some 3) (hw : (st.map fun v => v.category).sum ≤ 8) (kk : AF V M' d [x1, x2, x3] S (some (.long r)) S') (k : AW V M (d + 1) kc ks (pc + 3) L (.long r :: st) (hp S') R) : AW V M (d + 1) kc ks pc L (x3 :: x2 :: x1 :: st) (hp S) R := by
  unfold AF at kk
  have k1 : AM V M' d 0 0 [x1, x2, x3] (hp S) (fun r' h' => AW V M (d + 1) kc ks (pc + 3) L (r'.toList ++ st) h' R) := by
    refine AM.weaken ?_ kk
    intro r' h' z
    rw [z.1, z.2]
    exact k
  have k2 := aw_callSN (V := V) (M := M) (M' := M') (d := d) (kc := kc) (ks := ks) (pc := pc) (kc' := 0) (ks' := 0) (as := [x1, x2, x3]) (st := st) (L := L) (h := hp S) (R := R) (b := 0) (ci := 0) (q := (RX0, TX0, 12)) (fs := []) hd hl ho hn rfl hw k1
  rw [Nat.zero_add, Nat.zero_add] at k2
  exact k2
theorem ax_callSN3r {M' : am_M} {idx : Nat} {host : String} {x1 x2 x3 : Value} {r : Nat} {S' : fm} (hd : decode M.2.1 pc = .ok (.invokestatic idx, 3)) (hl : Cond.methodLinkNest M.1.cls idx M'.1 host ∈ am_nest) (ho : am_okS M') (hn : (parseMethodDescriptor M'.1.desc).map (fun d => d.parameters.length) = some 3) (hw : (st.map fun v => v.category).sum ≤ 8) (kk : AF V M' d [x1, x2, x3] S (some (.ref r)) S') (k : AW V M (d + 1) kc ks (pc + 3) L (.ref r :: st) (hp S') R) : AW V M (d + 1) kc ks pc L (x3 :: x2 :: x1 :: st) (hp S) R := by
  unfold AF at kk
  have k1 : AM V M' d 0 0 [x1, x2, x3] (hp S) (fun r' h' => AW V M (d + 1) kc ks (pc + 3) L (r'.toList ++ st) h' R) := by
    refine AM.weaken ?_ kk
    intro r' h' z
    rw [z.1, z.2]
    exact k
  have k2 := aw_callSN (V := V) (M := M) (M' := M') (d := d) (kc := kc) (ks := ks) (pc := pc) (kc' := 0) (ks' := 0) (as := [x1, x2, x3]) (st := st) (L := L) (h := hp S) (R := R) (b := 0) (ci := 0) (q := (RX0, TX0, 12)) (fs := []) hd hl ho hn rfl hw k1
  rw [Nat.zero_add, Nat.zero_add] at k2
  exact k2
theorem ax_callSN4i {M' : am_M} {idx : Nat} {host : String} {x1 x2 x3 x4 : Value} {r : Int32} {S' : fm} (hd : decode M.2.1 pc = .ok (.invokestatic idx, 3)) (hl : Cond.methodLinkNest M.1.cls idx M'.1 host ∈ am_nest) (ho : am_okS M') (hn : (parseMethodDescriptor M'.1.desc).map (fun d => d.parameters.length) = some 4) (hw : (st.map fun v => v.category).sum ≤ 8) (kk : AF V M' d [x1, x2, x3, x4] S (some (.int r)) S') (k : AW V M (d + 1) kc ks (pc + 3) L (.int r :: st) (hp S') R) : AW V M (d + 1) kc ks pc L (x4 :: x3 :: x2 :: x1 :: st) (hp S) R := by
  unfold AF at kk
  have k1 : AM V M' d 0 0 [x1, x2, x3, x4] (hp S) (fun r' h' => AW V M (d + 1) kc ks (pc + 3) L (r'.toList ++ st) h' R) := by
    refine AM.weaken ?_ kk
    intro r' h' z
    rw [z.1, z.2]
    exact k
  have k2 := aw_callSN (V := V) (M := M) (M' := M') (d := d) (kc := kc) (ks := ks) (pc := pc) (kc' := 0) (ks' := 0) (as := [x1, x2, x3, x4]) (st := st) (L := L) (h := hp S) (R := R) (b := 0) (ci := 0) (q := (RX0, TX0, 12)) (fs := []) hd hl ho hn rfl hw k1
  rw [Nat.zero_add, Nat.zero_add] at k2
  exact k2
theorem ax_callSN4v {M' : am_M} {idx : Nat} {host : String} {x1 x2 x3 x4 : Value} {S' : fm} (hd : decode M.2.1 pc = .ok (.invokestatic idx, 3)) (hl : Cond.methodLinkNest M.1.cls idx M'.1 host ∈ am_nest) (ho : am_okS M') (hn : (parseMethodDescriptor M'.1.desc).map (fun d => d.parameters.length) = some 4) (hw : (st.map fun v => v.category).sum ≤ 8) (kk : AF V M' d [x1, x2, x3, x4] S none S') (k : AW V M (d + 1) kc ks (pc + 3) L (st) (hp S') R) : AW V M (d + 1) kc ks pc L (x4 :: x3 :: x2 :: x1 :: st) (hp S) R := by
  unfold AF at kk
  have k1 : AM V M' d 0 0 [x1, x2, x3, x4] (hp S) (fun r' h' => AW V M (d + 1) kc ks (pc + 3) L (r'.toList ++ st) h' R) := by
    refine AM.weaken ?_ kk
    intro r' h' z
    rw [z.1, z.2]
    exact k
  have k2 := aw_callSN (V := V) (M := M) (M' := M') (d := d) (kc := kc) (ks := ks) (pc := pc) (kc' := 0) (ks' := 0) (as := [x1, x2, x3, x4]) (st := st) (L := L) (h := hp S) (R := R) (b := 0) (ci := 0) (q := (RX0, TX0, 12)) (fs := []) hd hl ho hn rfl hw k1
  rw [Nat.zero_add, Nat.zero_add] at k2
  exact k2
theorem ax_callSN4l {M' : am_M} {idx : Nat} {host : String} {x1 x2 x3 x4 : Value} {r : Int64} {S' : fm} (hd : decode M.2.1 pc = .ok (.invokestatic idx, 3)) (hl : Cond.methodLinkNest M.1.cls idx M'.1 host ∈ am_nest) (ho : am_okS M') (hn : (parseMethodDescriptor M'.1.desc).map (fun d => d.parameters.length) = some 4) (hw : (st.map fun v => v.category).sum ≤ 8) (kk : AF V M' d [x1, x2, x3, x4] S (some (.long r)) S') (k : AW V M (d + 1) kc ks (pc + 3) L (.long r :: st) (hp S') R) : AW V M (d + 1) kc ks pc L (x4 :: x3 :: x2 :: x1 :: st) (hp S) R := by
  unfold AF at kk
  have k1 : AM V M' d 0 0 [x1, x2, x3, x4] (hp S) (fun r' h' => AW V M (d + 1) kc ks (pc + 3) L (r'.toList ++ st) h' R) := by
    refine AM.weaken ?_ kk
    intro r' h' z
    rw [z.1, z.2]
    exact k
  have k2 := aw_callSN (V := V) (M := M) (M' := M') (d := d) (kc := kc) (ks := ks) (pc := pc) (kc' := 0) (ks' := 0) (as := [x1, x2, x3, x4]) (st := st) (L := L) (h := hp S) (R := R) (b := 0) (ci := 0) (q := (RX0, TX0, 12)) (fs := []) hd hl ho hn rfl hw k1
  rw [Nat.zero_add, Nat.zero_add] at k2
  exact k2
theorem ax_callSN4r {M' : am_M} {idx : Nat} {host : String} {x1 x2 x3 x4 : Value} {r : Nat} {S' : fm} (hd : decode M.2.1 pc = .ok (.invokestatic idx, 3)) (hl : Cond.methodLinkNest M.1.cls idx M'.1 host ∈ am_nest) (ho : am_okS M') (hn : (parseMethodDescriptor M'.1.desc).map (fun d => d.parameters.length) = some 4) (hw : (st.map fun v => v.category).sum ≤ 8) (kk : AF V M' d [x1, x2, x3, x4] S (some (.ref r)) S') (k : AW V M (d + 1) kc ks (pc + 3) L (.ref r :: st) (hp S') R) : AW V M (d + 1) kc ks pc L (x4 :: x3 :: x2 :: x1 :: st) (hp S) R := by
  unfold AF at kk
  have k1 : AM V M' d 0 0 [x1, x2, x3, x4] (hp S) (fun r' h' => AW V M (d + 1) kc ks (pc + 3) L (r'.toList ++ st) h' R) := by
    refine AM.weaken ?_ kk
    intro r' h' z
    rw [z.1, z.2]
    exact k
  have k2 := aw_callSN (V := V) (M := M) (M' := M') (d := d) (kc := kc) (ks := ks) (pc := pc) (kc' := 0) (ks' := 0) (as := [x1, x2, x3, x4]) (st := st) (L := L) (h := hp S) (R := R) (b := 0) (ci := 0) (q := (RX0, TX0, 12)) (fs := []) hd hl ho hn rfl hw k1
  rw [Nat.zero_add, Nat.zero_add] at k2
  exact k2
theorem ax_callSN5i {M' : am_M} {idx : Nat} {host : String} {x1 x2 x3 x4 x5 : Value} {r : Int32} {S' : fm} (hd : decode M.2.1 pc = .ok (.invokestatic idx, 3)) (hl : Cond.methodLinkNest M.1.cls idx M'.1 host ∈ am_nest) (ho : am_okS M') (hn : (parseMethodDescriptor M'.1.desc).map (fun d => d.parameters.length) = some 5) (hw : (st.map fun v => v.category).sum ≤ 8) (kk : AF V M' d [x1, x2, x3, x4, x5] S (some (.int r)) S') (k : AW V M (d + 1) kc ks (pc + 3) L (.int r :: st) (hp S') R) : AW V M (d + 1) kc ks pc L (x5 :: x4 :: x3 :: x2 :: x1 :: st) (hp S) R := by
  unfold AF at kk
  have k1 : AM V M' d 0 0 [x1, x2, x3, x4, x5] (hp S) (fun r' h' => AW V M (d + 1) kc ks (pc + 3) L (r'.toList ++ st) h' R) := by
    refine AM.weaken ?_ kk
    intro r' h' z
    rw [z.1, z.2]
    exact k
  have k2 := aw_callSN (V := V) (M := M) (M' := M') (d := d) (kc := kc) (ks := ks) (pc := pc) (kc' := 0) (ks' := 0) (as := [x1, x2, x3, x4, x5]) (st := st) (L := L) (h := hp S) (R := R) (b := 0) (ci := 0) (q := (RX0, TX0, 12)) (fs := []) hd hl ho hn rfl hw k1
  rw [Nat.zero_add, Nat.zero_add] at k2
  exact k2
theorem ax_callSN5v {M' : am_M} {idx : Nat} {host : String} {x1 x2 x3 x4 x5 : Value} {S' : fm} (hd : decode M.2.1 pc = .ok (.invokestatic idx, 3)) (hl : Cond.methodLinkNest M.1.cls idx M'.1 host ∈ am_nest) (ho : am_okS M') (hn : (parseMethodDescriptor M'.1.desc).map (fun d => d.parameters.length) = some 5) (hw : (st.map fun v => v.category).sum ≤ 8) (kk : AF V M' d [x1, x2, x3, x4, x5] S none S') (k : AW V M (d + 1) kc ks (pc + 3) L (st) (hp S') R) : AW V M (d + 1) kc ks pc L (x5 :: x4 :: x3 :: x2 :: x1 :: st) (hp S) R := by
  unfold AF at kk
  have k1 : AM V M' d 0 0 [x1, x2, x3, x4, x5] (hp S) (fun r' h' => AW V M (d + 1) kc ks (pc + 3) L (r'.toList ++ st) h' R) := by
    refine AM.weaken ?_ kk
    intro r' h' z
    rw [z.1, z.2]
    exact k
  have k2 := aw_callSN (V := V) (M := M) (M' := M') (d := d) (kc := kc) (ks := ks) (pc := pc) (kc' := 0) (ks' := 0) (as := [x1, x2, x3, x4, x5]) (st := st) (L := L) (h := hp S) (R := R) (b := 0) (ci := 0) (q := (RX0, TX0, 12)) (fs := []) hd hl ho hn rfl hw k1
  rw [Nat.zero_add, Nat.zero_add] at k2
  exact k2
theorem ax_callSN5l {M' : am_M} {idx : Nat} {host : String} {x1 x2 x3 x4 x5 : Value} {r : Int64} {S' : fm} (hd : decode M.2.1 pc = .ok (.invokestatic idx, 3)) (hl : Cond.methodLinkNest M.1.cls idx M'.1 host ∈ am_nest) (ho : am_okS M') (hn : (parseMethodDescriptor M'.1.desc).map (fun d => d.parameters.length) = some 5) (hw : (st.map fun v => v.category).sum ≤ 8) (kk : AF V M' d [x1, x2, x3, x4, x5] S (some (.long r)) S') (k : AW V M (d + 1) kc ks (pc + 3) L (.long r :: st) (hp S') R) : AW V M (d + 1) kc ks pc L (x5 :: x4 :: x3 :: x2 :: x1 :: st) (hp S) R := by
  unfold AF at kk
  have k1 : AM V M' d 0 0 [x1, x2, x3, x4, x5] (hp S) (fun r' h' => AW V M (d + 1) kc ks (pc + 3) L (r'.toList ++ st) h' R) := by
    refine AM.weaken ?_ kk
    intro r' h' z
    rw [z.1, z.2]
    exact k
  have k2 := aw_callSN (V := V) (M := M) (M' := M') (d := d) (kc := kc) (ks := ks) (pc := pc) (kc' := 0) (ks' := 0) (as := [x1, x2, x3, x4, x5]) (st := st) (L := L) (h := hp S) (R := R) (b := 0) (ci := 0) (q := (RX0, TX0, 12)) (fs := []) hd hl ho hn rfl hw k1
  rw [Nat.zero_add, Nat.zero_add] at k2
  exact k2
theorem ax_callSN5r {M' : am_M} {idx : Nat} {host : String} {x1 x2 x3 x4 x5 : Value} {r : Nat} {S' : fm} (hd : decode M.2.1 pc = .ok (.invokestatic idx, 3)) (hl : Cond.methodLinkNest M.1.cls idx M'.1 host ∈ am_nest) (ho : am_okS M') (hn : (parseMethodDescriptor M'.1.desc).map (fun d => d.parameters.length) = some 5) (hw : (st.map fun v => v.category).sum ≤ 8) (kk : AF V M' d [x1, x2, x3, x4, x5] S (some (.ref r)) S') (k : AW V M (d + 1) kc ks (pc + 3) L (.ref r :: st) (hp S') R) : AW V M (d + 1) kc ks pc L (x5 :: x4 :: x3 :: x2 :: x1 :: st) (hp S) R := by
  unfold AF at kk
  have k1 : AM V M' d 0 0 [x1, x2, x3, x4, x5] (hp S) (fun r' h' => AW V M (d + 1) kc ks (pc + 3) L (r'.toList ++ st) h' R) := by
    refine AM.weaken ?_ kk
    intro r' h' z
    rw [z.1, z.2]
    exact k
  have k2 := aw_callSN (V := V) (M := M) (M' := M') (d := d) (kc := kc) (ks := ks) (pc := pc) (kc' := 0) (ks' := 0) (as := [x1, x2, x3, x4, x5]) (st := st) (L := L) (h := hp S) (R := R) (b := 0) (ci := 0) (q := (RX0, TX0, 12)) (fs := []) hd hl ho hn rfl hw k1
  rw [Nat.zero_add, Nat.zero_add] at k2
  exact k2
end AXR
