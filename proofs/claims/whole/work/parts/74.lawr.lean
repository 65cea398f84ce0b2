/-! THE CLAIM OUT OF ONE WALK OF THE LAW'S BODY. Your part is whole_start (and what it stands on); all else here is the same for every law, but numbers. -/
def R_law : String := "KeySievesLaw"
def lw_P (b : Addr) (xs : List Int32) (args : Array Value) (s : State) : Prop := args = #[.ref b] ∧ s.IntsAt b xs ∧ xs.length ≤ 2560 ∧ (Jvm.Cond.and given_1 narrow_1).before args s = true
def lw_Q (_ : Array Value) (s : State) (o : Outcome) (t : State) : Prop := o = .returned (some (.int 1)) ∧ Framed s o t [] 600000 7302250
def lw_Z (below : List Frame) (a : Array Value) (s : State) : State → Prop := fun t => ∃ o, t.status = .running ∧ Ended t below o ∧ lw_Q a s o t
/-- the law's own end, with 1 on the stack, nothing written that was there before, its room as the claim has it -/
theorem lw_ret {p : Program} {l : Launch} {e : Env} {s : State} {m : MethodId} {below : List Frame} {meth : Method} {c : Code} {b : Nat} (hx : p.tables.exec = Jvm.exec) (hb : c.code = code) (hr : meth.sig.returnType = ret) (hlocks : meth.locks = false) {pc : Nat} {H : Heap} {ls : Array Slot} (hdg : decode code pc = .ok (.ireturn, 1)) : W p l e room_1 s m #[Value.ref b] below meth c H [] 600000 7302250 (lw_Z below #[Value.ref b] s) (F0 m pc ls [.int 1]) := by
  intro T hT X
  obtain ⟨fs, hret, hrun, hended, hW, hframe⟩ := X.leave (v := some (.int 1)) (hlocks := hlocks) (fun h => by rw [hr] at h; cases h)
  have hmeth' : T.vm.method? m = some meth := X.method'
  refine ⟨T.setFrames fs, ?_, .returned (some (.int 1)), hrun, hended, rfl, ⟨_, rfl⟩, hW, hframe⟩
  jvm_step X.here [X.here.top, hx, hb, hdg, hmeth', hr, ret, narrow_b1]
  (try refine ⟨rfl, ?_⟩); (try refine ⟨rfl, ?_⟩)
  first | (intro acts; rw [hret _ acts rfl rfl rfl]) | rw [hret _ _ rfl rfl rfl]
  exact Steps.refl _
/-- what holds at the law's entry: the machine, the code, the tables' words (any of lw_tbl by 'hts w (by decide +kernel)'), the script of L ints xs at the cell b, what the Statement gives of the start (any of its parts by flat_of_before) -/
def lw_At (p : Program) (s : State) (m : MethodId) (meth : Method) (c : Code) (b L : Nat) (xs : Nat → Int32) : Prop :=
  p.tables.exec = Jvm.exec ∧ c.code = code ∧ meth.sig.returnType = ret ∧ c.maxLocals = 4 ∧ s.vm.findClass R_law = some m.cls ∧ (∀ w ∈ lw_tbl, w.before #[Value.ref b] s = true) ∧ va_X b L xs s s.heap ∧ b < s.heap.size ∧ meth.locks = false ∧ (Jvm.Cond.and given_1 narrow_1).before #[Value.ref b] s = true
/-! THE LAW'S WALK. The script stands at the abstract address 1000300. -/
def LC (V : am_V) (b Ln : Nat) (xs : Nat → Int32) (p : Program) (s : State) (m : MethodId) (meth : Method) (c : Code) : Prop :=
  p.tables.exec = Jvm.exec ∧ c.code = code ∧ c.maxLocals = 4 ∧ meth.sig.returnType = ret ∧ s.vm.findClass RL = some m.cls ∧ (∀ w ∈ am_T, w.before #[Value.ref b] s = true) ∧ am_N V s ∧ va_K V.2.1 am_cl (am_tys V) s ∧ meth.locks = false ∧ V.2.2.2.1 = s.heap.size ∧ va_X b Ln xs s s.heap ∧ b < s.heap.size ∧ V.2.2.2.2 300 = b
def AL (V : am_V) (b Ln : Nat) (xs : Nat → Int32) (kc ks pc : Nat) (L : List (Option Value)) (st : List Value) (h : List va_E) : Prop :=
  ∀ (p : Program) (e : Env) (s : State) (m : MethodId) (below : List Frame) (meth : Method) (c : Code), LC V b Ln xs p s m meth c →
    ∀ (H : Heap) (locs : List Loc) (ls : Array Slot) (cells slots : Nat), cells + kc = 600000 → slots + ks = 7302250 → am_S V h H → va_S (am_A V) s.heap H locs → am_L V ls 4 L →
      W p V.1 e room_1 s m #[Value.ref b] below meth c H locs cells slots (lw_Z below #[Value.ref b] s) (F0 m pc ls (st.map (am_cv V)))
section AML
variable {V : am_V} {b Ln kc ks pc : Nat} {xs : Nat → Int32} {L : List (Option Value)} {st : List Value} {h h' : List va_E}
theorem al_iconst {n : Int} {v : Int32} (hd : decode code pc = .ok (.iconst n, 1)) (hv : Int32.ofInt n = v) (k : AL V b Ln xs kc ks (pc + 1) L (.int v :: st) h) : AL V b Ln xs kc ks pc L st h := by
  intro p e s m below meth c C H locs ls cells slots hc hs hS hF hL
  exact lv_iconst C.1 C.2.1 hd hv (k p e s m below meth c C H locs ls cells slots hc hs hS hF hL)
theorem al_bipush {n : Int} {v : Int32} (hd : decode code pc = .ok (.bipush n, 2)) (hv : (Int8.ofInt n).toInt32 = v) (k : AL V b Ln xs kc ks (pc + 2) L (.int v :: st) h) : AL V b Ln xs kc ks pc L st h := by
  intro p e s m below meth c C H locs ls cells slots hc hs hS hF hL
  exact lv_bipush C.1 C.2.1 hd hv (k p e s m below meth c C H locs ls cells slots hc hs hS hF hL)
theorem al_iload {n : Fin 4} {i : Nat} {x : Int32} (hd : decode code pc = .ok (.iload_n n, 1)) (hi : (n : Nat) = i) (hl : L[i]? = some (some (.int x))) (k : AL V b Ln xs kc ks (pc + 1) L (.int x :: st) h) : AL V b Ln xs kc ks pc L st h := by
  intro p e s m below meth c C H locs ls cells slots hc hs hS hF hL
  exact lv_iload_n C.1 C.2.1 hd hi (hL.at hl) (k p e s m below meth c C H locs ls cells slots hc hs hS hF hL)
theorem al_aload {n : Fin 4} {i : Nat} {x : Nat} (hd : decode code pc = .ok (.aload_n n, 1)) (hi : (n : Nat) = i) (hl : L[i]? = some (some (.ref x))) (k : AL V b Ln xs kc ks (pc + 1) L (.ref x :: st) h) : AL V b Ln xs kc ks pc L st h := by
  intro p e s m below meth c C H locs ls cells slots hc hs hS hF hL
  exact lv_aload_n C.1 C.2.1 hd hi (hL.at hl) (k p e s m below meth c C H locs ls cells slots hc hs hS hF hL)
theorem al_iadd {x y : Int32} (hd : decode code pc = .ok (.iadd, 1)) (k : AL V b Ln xs kc ks (pc + 1) L (.int (x + y) :: st) h) : AL V b Ln xs kc ks pc L (.int y :: .int x :: st) h := by
  intro p e s m below meth c C H locs ls cells slots hc hs hS hF hL
  exact lv_iadd C.1 C.2.1 hd (k p e s m below meth c C H locs ls cells slots hc hs hS hF hL)
theorem al_isub {x y : Int32} (hd : decode code pc = .ok (.isub, 1)) (k : AL V b Ln xs kc ks (pc + 1) L (.int (x - y) :: st) h) : AL V b Ln xs kc ks pc L (.int y :: .int x :: st) h := by
  intro p e s m below meth c C H locs ls cells slots hc hs hS hF hL
  exact lv_isub C.1 C.2.1 hd (k p e s m below meth c C H locs ls cells slots hc hs hS hF hL)
theorem al_iand {x y : Int32} (hd : decode code pc = .ok (.iand, 1)) (k : AL V b Ln xs kc ks (pc + 1) L (.int (x &&& y) :: st) h) : AL V b Ln xs kc ks pc L (.int y :: .int x :: st) h := by
  intro p e s m below meth c C H locs ls cells slots hc hs hS hF hL
  exact lv_iand C.1 C.2.1 hd (k p e s m below meth c C H locs ls cells slots hc hs hS hF hL)
theorem al_dup {v : Value} (hd : decode code pc = .ok (.dup, 1)) (hv : v.category = 1) (k : AL V b Ln xs kc ks (pc + 1) L (v :: v :: st) h) : AL V b Ln xs kc ks pc L (v :: st) h := by
  intro p e s m below meth c C H locs ls cells slots hc hs hS hF hL
  exact lv_dup C.1 C.2.1 hd (by rw [am_cat]; exact hv) (k p e s m below meth c C H locs ls cells slots hc hs hS hF hL)
theorem al_goto {off : Int} {tgt : Nat} (hd : decode code pc = .ok (.goto off, 3)) (ht : (pc : Int) + off = (tgt : Int)) (k : AL V b Ln xs kc ks tgt L st h) : AL V b Ln xs kc ks pc L st h := by
  intro p e s m below meth c C H locs ls cells slots hc hs hS hF hL
  exact lv_goto C.1 C.2.1 hd ht (k p e s m below meth c C H locs ls cells slots hc hs hS hF hL)
theorem al_lcmp {x y : Int64} (hd : decode code pc = .ok (.lcmp, 1)) (k : AL V b Ln xs kc ks (pc + 1) L (.int (lg_cmp x y) :: st) h) : AL V b Ln xs kc ks pc L (.long y :: .long x :: st) h := by
  intro p e s m below meth c C H locs ls cells slots hc hs hS hF hL
  exact W.lcmp C.1 C.2.1 hd (k p e s m below meth c C H locs ls cells slots hc hs hS hF hL)
theorem al_istore {n : Fin 4} {i : Nat} {x : Int32} {L' : List (Option Value)} (hd : decode code pc = .ok (.istore_n n, 1)) (hi : (n : Nat) = i) (hn : i < 4) (ho : am_ok1 L i = true) (hl : L.set i (some (.int x)) = L') (k : AL V b Ln xs kc ks (pc + 1) L' st h) : AL V b Ln xs kc ks pc L (.int x :: st) h := by
  subst hl
  intro p e s m below meth c C H locs ls cells slots hc hs hS hF hL
  exact lv_istore_n C.1 C.2.1 hd hi hL.2 hn rfl (fun ls' h' => k p e s m below meth c C H locs ls' cells slots hc hs hS hF (hL.st1 (v := .int x) hn rfl ho h'))
theorem al_astore {n : Fin 4} {i : Nat} {x : Nat} {L' : List (Option Value)} (hd : decode code pc = .ok (.astore_n n, 1)) (hi : (n : Nat) = i) (hn : i < 4) (ho : am_ok1 L i = true) (hl : L.set i (some (.ref x)) = L') (k : AL V b Ln xs kc ks (pc + 1) L' st h) : AL V b Ln xs kc ks pc L (.ref x :: st) h := by
  subst hl
  intro p e s m below meth c C H locs ls cells slots hc hs hS hF hL
  exact lv_astore_n C.1 C.2.1 hd hi hL.2 hn rfl (fun ls' h' => k p e s m below meth c C H locs ls' cells slots hc hs hS hF (hL.st1 (v := .ref x) hn rfl ho h'))
theorem al_iinc {i : Nat} {n : Int} {x v : Int32} {L' : List (Option Value)} (hd : decode code pc = .ok (.iinc i n, 3)) (hx : L[i]? = some (some (.int x))) (hv : x + Int32.ofInt n = v) (hn : i < 4) (ho : am_ok1 L i = true) (hl : L.set i (some (.int v)) = L') (k : AL V b Ln xs kc ks (pc + 3) L' st h) : AL V b Ln xs kc ks pc L st h := by
  subst hl
  intro p e s m below meth c C H locs ls cells slots hc hs hS hF hL
  obtain ⟨q, hq⟩ := List.getElem?_of_mem ((am_al_mem (V := V) L 0 i _).mpr ⟨i, .int x, by omega, hx, rfl⟩)
  exact lv_iinc C.1 C.2.1 hd hL.2 hq hv hn rfl (fun ls' h' => k p e s m below meth c C H locs ls' cells slots hc hs hS hF (hL.st1 (v := .int v) hn rfl ho h'))
theorem al_icmp_gt {x y : Int32} {off : Int} {tgt : Nat} (hd : decode code pc = .ok (.if_icmp .gt off, 3)) (ht : (pc : Int) + off = (tgt : Int)) (kt : y < x → AL V b Ln xs kc ks tgt L st h) (kf : ¬ y < x → AL V b Ln xs kc ks (pc + 3) L st h) : AL V b Ln xs kc ks pc L (.int y :: .int x :: st) h := by
  intro p e s m below meth c C H locs ls cells slots hc hs hS hF hL
  exact lv_icmp_gt C.1 C.2.1 hd ht (fun z => kt z p e s m below meth c C H locs ls cells slots hc hs hS hF hL) (fun z => kf z p e s m below meth c C H locs ls cells slots hc hs hS hF hL)
theorem al_same {x y : Int32} {off : Int} {tgt : Nat} (hd : decode code pc = .ok (.if_icmp .eq off, 3)) (ht : (pc : Int) + off = (tgt : Int)) (e : y = x) (k : AL V b Ln xs kc ks tgt L st h) : AL V b Ln xs kc ks pc L (.int y :: .int x :: st) h := by
  intro p e' s m below meth c C H locs ls cells slots hc hs hS hF hL
  exact lv_icmp_eq C.1 C.2.1 hd ht (fun z => k p e' s m below meth c C H locs ls cells slots hc hs hS hF hL) (fun z => absurd e.symm z)
theorem lg_same (x : Int64) : lg_cmp x x = 0 := by
  unfold lg_cmp
  rw [if_neg (fun z => absurd z (Int64.lt_irrefl)), if_pos rfl]
theorem al_sameL {x y : Int64} {off : Int} {tgt : Nat} (hd : decode code pc = .ok (.lcmp, 1)) (hd2 : decode code (pc + 1) = .ok (.ifCond .eq off, 3)) (ht : ((pc + 1 : Nat) : Int) + off = (tgt : Int)) (e : y = x) (k : AL V b Ln xs kc ks tgt L st h) : AL V b Ln xs kc ks pc L (.long y :: .long x :: st) h := by
  subst e
  refine al_lcmp hd ?_
  rw [lg_same]
  intro p e' s m below meth c C H locs ls cells slots hc hs hS hF hL
  exact lv_if_eq C.1 C.2.1 hd2 ht (fun z => k p e' s m below meth c C H locs ls cells slots hc hs hS hF hL) (fun z => absurd rfl z)
theorem al_tableOut {dflt lo hi : Int} {offs : Array Int} {len : Nat} {x : Int32} {tgt : Nat} (hd : decode code pc = .ok (.tableswitch dflt lo hi offs, len)) (hx : x.toInt < lo ∨ hi < x.toInt) (ht : (pc : Int) + dflt = (tgt : Int)) (k : AL V b Ln xs kc ks tgt L st h) : AL V b Ln xs kc ks pc L (.int x :: st) h := by
  intro p e s m below meth c C H locs ls cells slots hc hs hS hF hL
  exact lv_tableOut C.1 C.2.1 hd hx ht (k p e s m below meth c C H locs ls cells slots hc hs hS hF hL)
theorem al_tableIn {dflt lo hi : Int} {offs : Array Int} {len : Nat} {x : Int32} {off : Int} {tgt : Nat} (hd : decode code pc = .ok (.tableswitch dflt lo hi offs, len)) (h1 : ¬ x.toInt < lo) (h2 : ¬ hi < x.toInt) (ho : offs[(x.toInt - lo).toNat]? = some off) (ht : (pc : Int) + off = (tgt : Int)) (k : AL V b Ln xs kc ks tgt L st h) : AL V b Ln xs kc ks pc L (.int x :: st) h := by
  intro p e s m below meth c C H locs ls cells slots hc hs hS hF hL
  exact lv_tableIn C.1 C.2.1 hd h1 h2 ho ht (k p e s m below meth c C H locs ls cells slots hc hs hS hF hL)
theorem LC.ad {p : Program} {s : State} {m : MethodId} {meth : Method} {c : Code} (C : LC V b Ln xs p s m meth c) : am_cv V (.ref 1000300) = .ref b := by
  show Value.ref (am_ad V 1000300) = _
  have h := C.2.2.2.2.2.2.2.2.2.2.2.2
  unfold am_ad
  rw [if_neg (by omega)]
  exact congrArg Value.ref h
theorem LC.no {p : Program} {s : State} {m : MethodId} {meth : Method} {c : Code} (C : LC V b Ln xs p s m meth c) : ¬ am_A V b := by
  unfold am_A
  rw [C.2.2.2.2.2.2.2.2.2.1]
  exact Nat.not_le.mpr C.2.2.2.2.2.2.2.2.2.2.2.1
theorem al_slen (hd : decode code pc = .ok (.arraylength, 1)) (k : AL V b Ln xs kc ks (pc + 1) L (.int (nI Ln) :: st) h) : AL V b Ln xs kc ks pc L (.ref 1000300 :: st) h := by
  intro p e s m below meth c C H locs ls cells slots hc hs hS hF hL
  rw [List.map_cons, C.ad]
  exact va_slen C.1 C.2.1 C.2.2.2.2.2.2.2.2.2.2.1 C.2.2.2.2.2.2.2.2.2.2.2.1 C.no hF hd (k p e s m below meth c C H locs ls cells slots hc hs hS hF hL)
theorem al_sld {i : Nat} (hi : i < Ln) (hi2 : i < 2 ^ 31) (hd : decode code pc = .ok (.iaload, 1)) (k : AL V b Ln xs kc ks (pc + 1) L (.int (xs i) :: st) h) : AL V b Ln xs kc ks pc L (.int (nI i) :: .ref 1000300 :: st) h := by
  intro p e s m below meth c C H locs ls cells slots hc hs hS hF hL
  rw [List.map_cons, List.map_cons, C.ad]
  refine va_sld (i := nI i) C.1 C.2.1 C.2.2.2.2.2.2.2.2.2.2.1 C.2.2.2.2.2.2.2.2.2.2.2.1 C.no hF (fun z => z.elim (nI_pos hi2) (fun y => by rw [nI_clamp hi2] at y; omega)) hd ?_
  rw [nI_clamp hi2]
  exact k p e s m below meth c C H locs ls cells slots hc hs hS hF hL
def LL (i : Nat) : List (Option Value) := [some (.ref 1000300), some (.ref 0), some (.ref 64), some (.int (nI i))]
theorem al_arg {i j : Nat} {v : Int} (hLn : Ln ≤ 2560) (hi : i + 5 ≤ Ln) (hj : j < 5) (h0 : decode code pc = .ok (.aload_n 0, 1)) (h1 : decode code (pc + 1) = .ok (.iload_n 3, 1)) (h2 : decode code (pc + 2) = .ok (.iconst v, 1)) (hv : Int32.ofInt v = nI j) (h3 : decode code (pc + 3) = .ok (.iadd, 1)) (h4 : decode code (pc + 4) = .ok (.iaload, 1)) (k : AL V b Ln xs kc ks (pc + 5) (LL i) (.int (xs (i + j)) :: st) h) : AL V b Ln xs kc ks pc (LL i) st h := by
  refine al_aload (i := 0) (x := 1000300) h0 rfl rfl ?_
  refine al_iload (i := 3) (x := nI i) h1 rfl rfl ?_
  refine al_iconst h2 hv ?_
  refine al_iadd h3 ?_
  rw [nI_add]
  exact al_sld (by omega) (by omega) h4 k
theorem al_callVr {M' : am_M} {a ci idx kc' ks' : Nat} {q : vw_C} {fs : List Value} {as stk : List Value} (hd : decode code pc = .ok (.invokevirtual idx, 3)) (hl : Cond.methodLink RL idx M'.1 ∈ am_T) (ho : am_okV M') (hn : (parseMethodDescriptor M'.1.desc).map (fun d => d.parameters.length) = some as.length) (he : h[a]? = some (.inr (ci, fs))) (hq : am_cl[ci]? = some q) (hqc : q.1 = M'.1.cls) (hst : as.reverse ++ .ref a :: st = stk) (hw : (st.map fun v => v.category).sum ≤ 8) (kk : AM V M' 9 kc' ks' (.ref a :: as) h (fun r h' => AL V b Ln xs kc ks (pc + 3) L (r.toList ++ st) h')) : AL V b Ln xs (kc' + kc) (ks' + ks) pc L stk h := by
  subst hst
  intro p e s m below meth c C H locs ls cells slots hc hs hS hF hL
  have hts := C.2.2.2.2.2.1
  have hown := C.2.2.2.2.1
  have hK := C.2.2.2.2.2.2.2.1
  have hrm : (am_rm 9 kc' ks').frames + 1 ≤ room_1.frames ∧ 8 + (M'.2.2.1 + 11) + (am_rm 9 kc' ks').locals ≤ room_1.locals := ⟨Nat.le_of_ble_eq_true rfl, by show 8 + (M'.2.2.1 + 11) + 360 ≤ 430; have := ho.1.2.2.2.2.2; omega⟩
  refine am_call (R' := fun r h' => AL V b Ln xs kc ks (pc + 3) L (r.toList ++ st) h') (va_runV (As := as.map (am_cv V)) (rest := st.map (am_cv V)) (b := am_ad V a) ⟨C.1, C.2.1, C.2.2.1, hown, hts⟩ kk ⟨callB_of as.length hts (am_ws_good ho.1) rfl rfl rfl (hts _ ho.1.2.1) (hts _ hl) ⟨ho.1.2.2.1, ho.1.2.2.2.1, hn⟩ hrm, hts _ ho.2.1, hts _ ho.2.2⟩ ⟨am_P.blind, by rw [← hqc]; exact va_recv hK (hS.one he) hq (q0 := 0) rfl, fun U hU hW => ⟨rfl, C.2.2.2.2.2.2.1.warm hW hU hF, va_K.moved hW.alike hK, by rw [hU]; exact hS⟩⟩ rfl (by rw [List.length_map]) hL.2.1 (by simp [am_cv]) (lv_room (am_restC hw)) hd ⟨by show cells + kc' ≤ 600000; omega, by show slots + ks' ≤ 7302250; omega⟩) hF (fun r h' H1 locs1 hR hS1 hF1 => ?_)
  rw [am_restL]
  exact hR p e s m below meth c C H1 locs1 ls (cells + kc') (slots + ks') (by omega) (by omega) hS1 hF1 hL
theorem al_callV {M' : am_M} {a ci idx : Nat} {q : vw_C} {ts : List Nat} {as stk : List Value} {S : fm} {P : Int32 → fm → Prop} (hd : decode code pc = .ok (.invokevirtual idx, 3)) (hl : Cond.methodLink RL idx M'.1 ∈ am_T) (ho : am_okV M') (hn : (parseMethodDescriptor M'.1.desc).map (fun d => d.parameters.length) = some as.length) (ht : am_tab[a]? = some (.inl (ci, ts))) (hq : am_cl[ci]? = some q) (hqc : q.1 = M'.1.cls) (hst : as.reverse ++ .ref a :: st = stk) (hw : (st.map fun v => v.category).sum ≤ 8) (kk : AGi V M' 9 (.ref a :: as) S P) (k : ∀ (r : Int32) (S' : fm), P r S' → AL V b Ln xs kc ks (pc + 3) L (.int r :: st) (hp S')) : AL V b Ln xs kc ks pc L stk (hp S) := by
  unfold AGi at kk
  have k1 : AM V M' 9 0 0 (.ref a :: as) (hp S) (fun r' h' => AL V b Ln xs kc ks (pc + 3) L (r'.toList ++ st) h') := by
    refine AM.weaken ?_ kk
    rintro r' h' ⟨x, S', e1, e2, hP⟩
    rw [e1, e2]
    exact k x S' hP
  have k2 := al_callVr (V := V) (b := b) (Ln := Ln) (xs := xs) (M' := M') (kc := kc) (ks := ks) (pc := pc) (kc' := 0) (ks' := 0) (as := as) (st := st) (stk := stk) (L := L) (h := hp S) (a := a) hd hl ho hn (hp_at (S := S) ht) hq hqc hst hw k1
  rw [Nat.zero_add, Nat.zero_add] at k2
  exact k2
theorem al_callVL {M' : am_M} {a ci idx : Nat} {q : vw_C} {ts : List Nat} {as stk : List Value} {S : fm} {P : Int64 → fm → Prop} (hd : decode code pc = .ok (.invokevirtual idx, 3)) (hl : Cond.methodLink RL idx M'.1 ∈ am_T) (ho : am_okV M') (hn : (parseMethodDescriptor M'.1.desc).map (fun d => d.parameters.length) = some as.length) (ht : am_tab[a]? = some (.inl (ci, ts))) (hq : am_cl[ci]? = some q) (hqc : q.1 = M'.1.cls) (hst : as.reverse ++ .ref a :: st = stk) (hw : (st.map fun v => v.category).sum ≤ 8) (kk : AGl V M' 9 (.ref a :: as) S P) (k : ∀ (r : Int64) (S' : fm), P r S' → AL V b Ln xs kc ks (pc + 3) L (.long r :: st) (hp S')) : AL V b Ln xs kc ks pc L stk (hp S) := by
  unfold AGl at kk
  have k1 : AM V M' 9 0 0 (.ref a :: as) (hp S) (fun r' h' => AL V b Ln xs kc ks (pc + 3) L (r'.toList ++ st) h') := by
    refine AM.weaken ?_ kk
    rintro r' h' ⟨x, S', e1, e2, hP⟩
    rw [e1, e2]
    exact k x S' hP
  have k2 := al_callVr (V := V) (b := b) (Ln := Ln) (xs := xs) (M' := M') (kc := kc) (ks := ks) (pc := pc) (kc' := 0) (ks' := 0) (as := as) (st := st) (stk := stk) (L := L) (h := hp S) (a := a) hd hl ho hn (hp_at (S := S) ht) hq hqc hst hw k1
  rw [Nat.zero_add, Nat.zero_add] at k2
  exact k2
theorem al_callI {M' : am_M} {a idx kc' ks' : Nat} {as stk : List Value} (kc ks : Nat) (hd : decode code pc = .ok (.invokespecial idx, 3)) (hl : Cond.methodLink RL idx M'.1 ∈ am_T) (hrt : M'.2.2.2 = none) (ho : am_okI M') (hn : (parseMethodDescriptor M'.1.desc).map (fun d => d.parameters.length) = some as.length) (hst : as.reverse ++ .ref a :: st = stk) (hw : (st.map fun v => v.category).sum ≤ 8) (kk : AM V M' 9 kc' ks' (.ref a :: as) h (fun r h1 => r = none ∧ h1 = h')) (k : AL V b Ln xs kc ks (pc + 3) L st h') : AL V b Ln xs (kc' + kc) (ks' + ks) pc L stk h := by
  subst hst
  intro p e s m below meth c C H locs ls cells slots hc hs hS hF hL
  have hts := C.2.2.2.2.2.1
  have hown := C.2.2.2.2.1
  have hK := C.2.2.2.2.2.2.2.1
  have hrm : (am_rm 9 kc' ks').frames + 1 ≤ room_1.frames ∧ 8 + (M'.2.2.1 + 11) + (am_rm 9 kc' ks').locals ≤ room_1.locals := ⟨Nat.le_of_ble_eq_true rfl, by show 8 + (M'.2.2.1 + 11) + 360 ≤ 430; have := ho.1.2.2.2.2.2; omega⟩
  refine am_call (R' := fun r h1 => r = none ∧ h1 = h') (va_runI (As := as.map (am_cv V)) (rest := st.map (am_cv V)) (b := am_ad V a) ⟨C.1, C.2.1, C.2.2.1, hown, hts⟩ kk ⟨callB_of as.length hts (am_ws_good ho.1) (show am_ws M' = Cond.code M'.1 M'.2.1 M'.2.2.1 none :: am_T by rw [am_ws, hrt]) rfl rfl (hts _ ho.1.2.1) (hts _ hl) ⟨ho.1.2.2.1, ho.1.2.2.2.1, hn⟩ hrm, ho.2.2, hts _ ho.2.1⟩ ⟨am_P.blind, fun U hU hW => ⟨rfl, C.2.2.2.2.2.2.1.warm hW hU hF, va_K.moved hW.alike hK, by rw [hU]; exact hS⟩⟩ rfl (by rw [List.length_map]) hL.2.1 (by simp [am_cv]) (lv_room (am_restC hw)) hd ⟨by show cells + kc' ≤ 600000; omega, by show slots + ks' ≤ 7302250; omega⟩) hF (fun r h1 H1 locs1 hR hS1 hF1 => ?_)
  obtain ⟨rfl, rfl⟩ := hR
  exact k p e s m below meth c C H1 locs1 ls (cells + kc') (slots + ks') (by omega) (by omega) hS1 hF1 hL
theorem al_new {ci idx n N : Nat} {q : vw_C} {fs : List Value} (kc ks : Nat) (hlen : h.length = n) (hm : n < 1000000) (hd : decode code pc = .ok (.new idx, 3)) (hq : am_cl[ci]? = some q) (hl : Cond.classLink RL idx q.1 ∈ am_T) (hi : Cond.instantiable q.1 q.2.2 ∈ am_T) (hn : Cond.initialized q.1 ∈ am_T) (hN : q.2.2 = N) (hcv : fs.map (am_cv V) = fs) (hfs : ∀ j, j < q.2.2 → defaultValue (am_fty ci j) = vp_V fs j) (hh : h ++ [.inr (ci, fs)] = h') (k : AL V b Ln xs kc ks (pc + 3) L (.ref n :: st) h') : AL V b Ln xs (1 + kc) (N + ks) pc L st h := by
  subst hlen
  subst hh
  subst hN
  intro p e s m below meth c C H locs ls cells slots hc hs hS hF hL
  have hts := C.2.2.2.2.2.1
  have hown := C.2.2.2.2.1
  have hK := C.2.2.2.2.2.2.2.1
  have hKn := hK.1 ci _ hq
  refine W.newcK C.1 C.2.1 hown (hts _ hl) (hts _ hi) (hts _ hn) rfl hd (by show cells + 1 ≤ 600000; omega) (by show slots + q.2.2 ≤ 7302250; omega) hKn.2.1 rfl fun H1 kC hkC e1 z1 o1 => ?_
  have hx : va_at V.2.1 am_cl (H.size, am_ce V (.inr (ci, fs))) H1 := ⟨_, hq, by rw [hcv]; exact (u_born (am_fty ci) hts (am_cl_in hq) hKn hkC e1 (am_cl_ty hq)).to hfs⟩
  have k1 := k p e s m below meth c C H1 locs ls (cells + 1) (slots + q.2.2) (by omega) (by omega) (hS.push hm hx z1 o1) ⟨Nat.le_trans hF.1 (by omega), fun x h1 h2 => (o1 x (Nat.lt_of_lt_of_le h1 hF.1)).trans (hF.2.1 x h1 h2), hF.2.2⟩ hL
  rw [List.map_cons, am_top hS hm] at k1
  exact k1
theorem al_ret (hd : decode code pc = .ok (.ireturn, 1)) : AL V b Ln xs kc ks pc L [.int 1] h := by
  intro p e s m below meth c C H locs ls cells slots hc hs hS hF hL
  refine va_forget (fun q hq => ?_) (W.widen (k := 600000) (n := 7302250) (by omega) (by omega) (lw_ret C.1 C.2.1 C.2.2.2.1 C.2.2.2.2.2.2.2.2.1 hd))
  have := hF.2.2 q hq
  unfold am_A at this
  rw [C.2.2.2.2.2.2.2.2.2.1] at this
  exact this
end AML
