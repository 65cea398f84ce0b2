/-! THE JUDGEMENTS. A value, a heap, a frame have their own addresses 0, 1, 2 ..; the machine's are s0 + these.
V = (launch, class ids and slots, ids of array classes by kind, s0, addresses of texts). -/
abbrev am_V : Type := Launch × va_G × (Nat → ClassId) × Nat × (Nat → Nat)
def am_ad (V : am_V) (a : Nat) : Nat := if a < 1000000 then V.2.2.2.1 + a else V.2.2.2.2 (a - 1000000)
def am_cv (V : am_V) (v : Value) : Value := match v with
  | .ref a => .ref (am_ad V a)
  | v => v
def am_ca (V : am_V) (x : vp_A) : vp_A := match x with
  | (n, .inr (.inr (.inr (.inr g)))) => (n, .inr (.inr (.inr (.inr (fun j => (g j).map (am_ad V))))))
  | x => x
def am_ce (V : am_V) (e : va_E) : va_E := match e with
  | .inl (k, x) => .inl (V.2.2.1 k, am_ca V x)
  | .inr (ci, fs) => .inr (ci, fs.map (am_cv V))
def am_tys (V : am_V) : List (ClassId × FieldType) := [(V.2.2.1 0, .int), (V.2.2.1 1, .byte), (V.2.2.1 2, .boolean), (V.2.2.1 3, .object "KeySieves$Key"), (V.2.2.1 4, .object "KeySieves$Board"), (V.2.2.1 5, .object "KeySieves$Sheet")]
def am_S (V : am_V) (h : List va_E) (H : Heap) : Prop := h.length ≤ 1000000 ∧ H.size = V.2.2.2.1 + h.length ∧ ∀ (a : Nat) (e : va_E), h[a]? = some e → va_at V.2.1 am_cl (V.2.2.2.1 + a, am_ce V e) H
def am_A (V : am_V) : Nat → Prop := fun q => V.2.2.2.1 ≤ q
def am_nest : List Cond := [.methodLinkNest "KeySieves$Board" 17 yX1_init "KeySieves", .methodLinkNest "KeySieves$TextReader" 106 yX4_within "KeySieves", .methodLinkNest "KeySieves$Board" 61 yX4_within "KeySieves", .methodLinkNest "KeySieves$Key" 42 yX4_within "KeySieves", .methodLinkNest "KeySieves$Sheet" 19 yX4_within "KeySieves"]
/-- the six names of lines: the constant's entry, its text, its length, its bytes; their addresses and those of their rows stand in V from 1000000 on -/
def am_txI : List Nat := [139, 141, 143, 145, 147, 149]
def am_txT : List String := ["alike", "scale", "shut", "both", "press", "every"]
def am_txL : List Nat := [5, 5, 4, 4, 5, 5]
def am_txB : List (List Int32) := [[97, 108, 105, 107, 101], [115, 99, 97, 108, 101], [115, 104, 117, 116], [98, 111, 116, 104], [112, 114, 101, 115, 115], [101, 118, 101, 114, 121]]
def am_adK (V : am_V) (i : Nat) : Nat := V.2.2.2.2 i
def am_adV (V : am_V) (i : Nat) : Nat := V.2.2.2.2 (100 + i)
def am_X (V : am_V) (U : State) : Prop := (∀ i : Nat, i < 6 → vk_R "KeySieves$TextReader" (am_txI.getD i 0) (am_txT.getD i "") (am_adK V i) U) ∧ vk_S 6 am_txL am_txB (am_adK V) (am_adV V) (am_A V) U U.heap ∧ va_Z "java/lang/String" "COMPACT_STRINGS" "Z" (.int 1) (am_A V) U U.heap ∧ (va_Z "jdk/internal/util/Preconditions" "SIOOBE_FORMATTER" "Ljava/util/function/BiFunction;" .null (am_A V) U U.heap ∨ va_Z "jdk/internal/util/Preconditions" "SIOOBE_FORMATTER" "Ljava/util/function/BiFunction;" (.ref (V.2.2.2.2 200)) (am_A V) U U.heap)
def am_N (V : am_V) (U : State) : Prop := (∀ w ∈ am_nest, va_Nw w U) ∧ va_AO "KeySieves$Key" U ∧ va_AO "KeySieves$Board" U ∧ va_AO "KeySieves$Sheet" U ∧ am_X V U
theorem am_X.moved {V : am_V} {s U : State} (hR : ∀ (own tx : String) (k a : Nat), vk_R own k tx a s → vk_R own k tx a U) (hvm : s.vm.Alike U.vm) (hq : ∀ a : Nat, a < s.heap.size → ¬ am_A V a → U.heap[a]? = s.heap[a]?) (h : am_X V s) : am_X V U := by
  obtain ⟨h1, h2, h3, h4⟩ := h
  refine ⟨fun i hi => hR _ _ _ _ (h1 i hi), (vk_S.moved hvm h2).kept hq, (va_Z.moved hvm h3).kept hq, ?_⟩
  rcases h4 with h4 | h4
  · exact Or.inl ((va_Z.moved hvm h4).kept hq)
  · exact Or.inr ((va_Z.moved hvm h4).kept hq)
def am_al (V : am_V) : Nat → List (Option Value) → List (Nat × Value)
  | _, [] => []
  | i, none :: L => am_al V (i + 1) L
  | i, some v :: L => (i, am_cv V v) :: am_al V (i + 1) L
def am_L (V : am_V) (ls : Array Slot) (nL : Nat) (L : List (Option Value)) : Prop := L.length = nL ∧ lv_has ls nL (am_al V 0 L)
def am_rm (d mc ms : Nat) : Room := { frames := d, cells := mc, slots := ms, locals := 40 * d }
def am_P (V : am_V) (h : List va_E) (U : State) : Prop := am_N V U ∧ va_K V.2.1 am_cl (am_tys V) U ∧ am_S V h U.heap
def am_Q (V : am_V) (R : Option Value → List va_E → Prop) : Array Value → State → Outcome → State → Prop := fun _ st oc t => (∃ (r : Option Value) (h' : List va_E), oc = .returned (r.map (am_cv V)) ∧ R r h' ∧ am_S V h' t.heap) ∧ va_F (am_A V) st t
def am_ws (M : am_M) : List Cond := .code M.1 M.2.1 M.2.2.1 M.2.2.2 :: am_T
/-- a contract: method M with these arguments, over this heap, returns, and R holds of its answer and the heap behind it; d frames, kc new cells of ks slots at most -/
def AM (V : am_V) (M : am_M) (d kc ks : Nat) (args : List Value) (h : List va_E) (R : Option Value → List va_E → Prop) : Prop :=
  Met V.1 M.1 (am_ws M) (am_rm d kc ks) (va_Pc (args.map (am_cv V)) (am_P V h)) (am_Q V R) kc ks (am_A V)
def am_C (V : am_V) (M : am_M) (p : Program) (s : State) (m : MethodId) (args : Array Value) (meth : Method) (c : Code) : Prop :=
  p.tables.exec = Jvm.exec ∧ c.code = M.2.1 ∧ c.maxLocals = M.2.2.1 ∧ meth.sig.returnType = M.2.2.2 ∧ s.vm.findClass M.1.cls = some m.cls ∧ (∀ w ∈ am_T, w.before args s = true) ∧ am_N V s ∧ va_K V.2.1 am_cl (am_tys V) s ∧ meth.locks = false ∧ meth.name = M.1.name ∧ V.2.2.2.1 ≤ s.heap.size
/-- a walk: the machine, at pc of method M, with these locals, this stack and heap, comes to M's return with R -/
def AW (V : am_V) (M : am_M) (d kc ks pc : Nat) (L : List (Option Value)) (st : List Value) (h : List va_E) (R : Option Value → List va_E → Prop) : Prop :=
  ∀ (p : Program) (e : Env) (s : State) (m : MethodId) (args : Array Value) (below : List Frame) (meth : Method) (c : Code), am_C V M p s m args meth c →
    ∀ (H : Heap) (locs : List Loc) (ls : Array Slot) (cells slots mc ms : Nat), cells + kc = mc → slots + ks = ms → am_S V h H → va_S (am_A V) s.heap H locs → am_L V ls M.2.2.1 L →
      W p V.1 e (am_rm d mc ms) s m args below meth c H locs cells slots (MQ below (am_Q V R) args s mc ms (am_A V)) (F0 m pc ls (st.map (am_cv V)))
theorem am_cat (V : am_V) (v : Value) : (am_cv V v).category = v.category := by cases v <;> rfl
theorem am_ad_lt {V : am_V} {a : Nat} (h : a < 1000000) : am_ad V a = V.2.2.2.1 + a := by unfold am_ad; rw [if_pos h]
theorem am_al_mem {V : am_V} : ∀ (L : List (Option Value)) (i j : Nat) (x : Value), (j, x) ∈ am_al V i L ↔ ∃ (k : Nat) (v : Value), j = i + k ∧ L[k]? = some (some v) ∧ x = am_cv V v := by
  intro L
  induction L with
  | nil => intro i j x; simp [am_al]
  | cons o L ih =>
    intro i j x
    cases o with
    | none =>
      simp only [am_al]
      rw [ih]
      constructor
      · rintro ⟨k, v, h1, h2, h3⟩
        exact ⟨k + 1, v, by omega, by simpa using h2, h3⟩
      · rintro ⟨k, v, h1, h2, h3⟩
        cases k with
        | zero => simp at h2
        | succ k => exact ⟨k, v, by omega, by simpa using h2, h3⟩
    | some u =>
      simp only [am_al, List.mem_cons, Prod.mk.injEq]
      rw [ih]
      constructor
      · rintro (⟨rfl, rfl⟩ | ⟨k, v, h1, h2, h3⟩)
        · exact ⟨0, u, rfl, rfl, rfl⟩
        · exact ⟨k + 1, v, by omega, by simpa using h2, h3⟩
      · rintro ⟨k, v, h1, h2, h3⟩
        cases k with
        | zero =>
          simp at h2
          subst h2
          exact Or.inl ⟨h1, h3⟩
        | succ k => exact Or.inr ⟨k, v, by omega, by simpa using h2, h3⟩
theorem am_L.at {V : am_V} {ls : Array Slot} {nL : Nat} {L : List (Option Value)} (h : am_L V ls nL L) {i : Nat} {v : Value} (hi : L[i]? = some (some v)) : ls[i]? = some (.val (am_cv V v)) :=
  h.2.2.2 (i, am_cv V v) ((am_al_mem L 0 i _).mpr ⟨i, v, by omega, hi, rfl⟩)
/-- may a value be stored at place i: what stands ahead of it is no long -/
def am_ok1 (L : List (Option Value)) (i : Nat) : Bool := match i with
  | 0 => true
  | j + 1 => match L[j]? with
    | some (some v) => v.category != 2
    | _ => true
theorem am_ok1_ne {L : List (Option Value)} {i j : Nat} {v : Value} (h : am_ok1 L i = true) (hj : j + 1 = i) (hv : L[j]? = some (some v)) : ¬ v.category = 2 := by
  subst hj
  simp [am_ok1, hv] at h
  exact h
theorem am_L.st1 {V : am_V} {ls : Array Slot} {nL : Nat} {L : List (Option Value)} (h : am_L V ls nL L) {i : Nat} {v : Value} (hi : i < nL) (hc : v.category = 1) (hk : am_ok1 L i = true) {ls' : Array Slot}
    (h' : lv_has ls' nL ((i, am_cv V v) :: (am_al V 0 L).filter (fun q => !(q.1 == i) && !(q.1 + 1 == i && q.2.category == 2)))) : am_L V ls' nL (L.set i (some v)) := by
  refine ⟨by rw [List.length_set]; exact h.1, h'.1, h'.2.1, ?_⟩
  rintro ⟨j, x⟩ hq
  obtain ⟨k, u, h1, h2, h3⟩ := (am_al_mem _ _ _ _).mp hq
  have hjk : j = k := by omega
  subst hjk
  by_cases hji : j = i
  · subst hji
    rw [List.getElem?_set_self (by rw [h.1]; exact hi)] at h2
    cases h2
    rw [h3]
    exact h'.2.2 _ List.mem_cons_self
  · rw [List.getElem?_set_ne (Ne.symm hji)] at h2
    refine h'.2.2 (j, x) (List.mem_cons_of_mem _ (List.mem_filter.mpr ⟨(am_al_mem _ _ _ _).mpr ⟨j, u, by omega, h2, h3⟩, ?_⟩))
    have : ¬ (j + 1 = i ∧ x.category = 2) := by
      rintro ⟨e1, e2⟩
      rw [h3, am_cat] at e2
      exact am_ok1_ne hk e1 h2 e2
    simp [hji]
    by_cases e1 : j + 1 = i
    · exact Or.inr (fun e2 => this ⟨e1, e2⟩)
    · exact Or.inl e1
theorem am_L.st2 {V : am_V} {ls : Array Slot} {nL : Nat} {L : List (Option Value)} (h : am_L V ls nL L) {i : Nat} {v : Value} (hi : i + 1 < nL) (hc : v.category = 2) (hk : am_ok1 L i = true) {ls' : Array Slot}
    (h' : lv_has ls' nL ((i, am_cv V v) :: (am_al V 0 L).filter (fun q => !(q.1 == i) && (!(q.1 == i + 1) && !(q.1 + 1 == i && q.2.category == 2))))) : am_L V ls' nL ((L.set i (some v)).set (i + 1) none) := by
  refine ⟨by rw [List.length_set, List.length_set]; exact h.1, h'.1, h'.2.1, ?_⟩
  rintro ⟨j, x⟩ hq
  obtain ⟨k, u, h1, h2, h3⟩ := (am_al_mem _ _ _ _).mp hq
  have hjk : j = k := by omega
  subst hjk
  by_cases hj1 : j = i + 1
  · subst hj1
    rw [List.getElem?_set_self (by rw [List.length_set, h.1]; exact hi)] at h2
    cases h2
  rw [List.getElem?_set_ne (Ne.symm hj1)] at h2
  by_cases hji : j = i
  · subst hji
    rw [List.getElem?_set_self (by rw [h.1]; omega)] at h2
    cases h2
    rw [h3]
    exact h'.2.2 _ List.mem_cons_self
  · rw [List.getElem?_set_ne (Ne.symm hji)] at h2
    refine h'.2.2 (j, x) (List.mem_cons_of_mem _ (List.mem_filter.mpr ⟨(am_al_mem _ _ _ _).mpr ⟨j, u, by omega, h2, h3⟩, ?_⟩))
    have : ¬ (j + 1 = i ∧ x.category = 2) := by
      rintro ⟨e1, e2⟩
      rw [h3, am_cat] at e2
      exact am_ok1_ne hk e1 h2 e2
    simp [hji, hj1]
    by_cases e1 : j + 1 = i
    · exact Or.inr (fun e2 => this ⟨e1, e2⟩)
    · exact Or.inl e1
/-- the locals at a method's entry -/
def am_exp (vs : List Value) : List (Option Value) := vs.flatMap fun v => if v.category = 2 then [some v, none] else [some v]
def am_ent (vs : List Value) (n : Nat) : List (Option Value) := am_exp vs ++ List.replicate (n - (am_exp vs).length) none
theorem am_exp_len (V : am_V) (vs : List Value) : (am_exp vs).length = (lg_sl (vs.map (am_cv V))).length := by
  induction vs with
  | nil => rfl
  | cons v vs ih =>
    simp only [am_exp, lg_sl, List.flatMap_cons, List.map_cons, List.length_append, am_cat] at ih ⊢
    rw [ih]
    by_cases hc : v.category = 2 <;> simp [hc]
theorem am_ent_mem (V : am_V) : ∀ (vs : List Value) (n i j : Nat) (x : Value), (j, x) ∈ am_al V i (am_exp vs ++ List.replicate n none) → (j, x) ∈ lv_args i (vs.map (am_cv V)) := by
  intro vs
  induction vs with
  | nil =>
    intro n i j x hm
    exfalso
    obtain ⟨k, v, -, h2, -⟩ := (am_al_mem _ _ _ _).mp hm
    simp only [am_exp, List.flatMap_nil, List.nil_append, List.getElem?_replicate] at h2
    split at h2 <;> cases h2
  | cons v vs ih =>
    intro n i j x hm
    by_cases hc : v.category = 2
    · have e : am_exp (v :: vs) ++ List.replicate n none = some v :: none :: (am_exp vs ++ List.replicate n none) := by simp [am_exp, hc]
      rw [e] at hm
      simp only [am_al, List.mem_cons] at hm
      simp only [List.map_cons, lv_args, am_cat, hc, List.mem_cons]
      rcases hm with hm | hm
      · exact Or.inl hm
      · exact Or.inr (ih n _ j x hm)
    · have e : am_exp (v :: vs) ++ List.replicate n none = some v :: (am_exp vs ++ List.replicate n none) := by simp [am_exp, hc]
      rw [e] at hm
      simp only [am_al, List.mem_cons] at hm
      simp only [List.map_cons, lv_args, am_cat, hc, List.mem_cons]
      rcases hm with hm | hm
      · exact Or.inl hm
      · exact Or.inr (ih n _ j x hm)
theorem am_L.entry (V : am_V) (vs : List Value) {n : Nat} (h : (am_exp vs).length ≤ n) : am_L V ((lg_sl (vs.map (am_cv V)) ++ List.replicate (n - (lg_sl (vs.map (am_cv V))).length) Slot.unset).toArray) n (am_ent vs n) := by
  have e := lv_entry (vs.map (am_cv V)) (n := n) (by rw [← am_exp_len]; exact h)
  refine ⟨by simp [am_ent]; omega, e.1, e.2.1, ?_⟩
  rintro ⟨j, x⟩ hq
  exact e.2.2 (j, x) (am_ent_mem V vs _ 0 j x hq)
theorem am_P.blind {V : am_V} {h : List va_E} {av : List Value} : FrameBlind (va_Pc av (am_P V h)) := by
  intro a U g mk q
  obtain ⟨q0, ⟨q1, q2, q3, q4, q5⟩, qK, qS⟩ := q
  exact ⟨q0, ⟨fun w hw => va_Nw.same (u := U) (U := U.calling g mk a) (by revert w; decide +kernel) rfl (q1 w hw), va_AO.moved (u := U) (U := U.calling g mk a) (Vm.Alike.refl U.vm) q2, va_AO.moved (u := U) (U := U.calling g mk a) (Vm.Alike.refl U.vm) q3, va_AO.moved (u := U) (U := U.calling g mk a) (Vm.Alike.refl U.vm) q4, am_X.moved (s := U) (U := U.calling g mk a) (fun _ _ _ _ z => vk_R.same rfl z) (Vm.Alike.refl U.vm) (fun _ _ _ => rfl) q5⟩, va_K.moved (u := U) (U := U.calling g mk a) (Vm.Alike.refl U.vm) qK, qS⟩
theorem am_N.warm {V : am_V} {s U : State} {H : Heap} {locs : List Loc} (hW : s.WarmedH U.vm) (hU : U.heap = H) (hF : va_S (am_A V) s.heap H locs) (h : am_N V s) : am_N V U := by
  obtain ⟨q1, q2, q3, q4, q5⟩ := h
  refine ⟨?_, va_AO.moved hW.alike q2, va_AO.moved hW.alike q3, va_AO.moved hW.alike q4, am_X.moved (fun _ _ _ _ z => vk_R.warm hW z) hW.alike (fun a h1 h2 => by rw [hU]; exact hF.2.1 a h1 h2) q5⟩
  intro w hw
  have hZ := q1 w hw
  simp only [am_nest, List.mem_cons, List.not_mem_nil, or_false] at hw
  rcases hw with rfl | rfl | rfl | rfl | rfl <;> exact va_Nw.warmM hW hZ
/-- a contract out of a walk from the method's first instruction -/
theorem AM.of {V : am_V} {M : am_M} {d kc ks : Nat} {args : List Value} {h : List va_E} {R : Option Value → List va_E → Prop} (hy : plainName M.1.cls = true) (hn : (am_exp args).length ≤ M.2.2.1) {L : List (Option Value)} (hL : am_ent args M.2.2.1 = L) (k : AW V M d kc ks 0 L [] h R) : AM V M d kc ks args h R := by
  subst hL
  refine Met.ofW (cc := M.2.1) (maxL := M.2.2.1) (ret := M.2.2.2) hy rfl ?_
  intro p e s m args' below meth c s₁ B hml hv
  obtain ⟨rfl, hN, hK, hS⟩ := hv
  have hts := atoms_spec (ws := am_ws M) B.pre
  have hown : s.vm.findClass M.1.cls = some m.cls := findClass_of_methodNamed B.named
  rw [lg_entry_eq]
  exact k p e s m _ below meth c ⟨B.exec, B.bytes, hml, B.returns, hown, fun w hw => hts w (List.mem_cons_of_mem _ hw), hN, hK, B.notSynchronized, (name_of_methodNamed B.named B.method).1, by rw [hS.2.1]; exact Nat.le_add_right _ _⟩
    s.heap [] _ 0 0 kc ks (Nat.zero_add _) (Nat.zero_add _) hS va_S.rf (am_L.entry V args hn)
theorem AM.weaken {V : am_V} {M : am_M} {d kc ks : Nat} {args : List Value} {h : List va_E} {R R' : Option Value → List va_E → Prop} (hR : ∀ r h', R r h' → R' r h') (k : AM V M d kc ks args h R) : AM V M d kc ks args h R' := by
  intro p e ha hc hk s m args' below hf hfit hP hC
  obtain ⟨t, o, h1, h2, h3, ⟨⟨r, h', e1, e2, e3⟩, e4⟩, h5⟩ := k p e ha hc hk s m args' below hf hfit hP hC
  exact ⟨t, o, h1, h2, h3, ⟨⟨r, h', e1, hR r h' e2, e3⟩, e4⟩, h5⟩
theorem AW.weaken {V : am_V} {M : am_M} {d kc ks pc : Nat} {L : List (Option Value)} {st : List Value} {h : List va_E} {R R' : Option Value → List va_E → Prop} (hR : ∀ r h', R r h' → R' r h') (k : AW V M d kc ks pc L st h R) : AW V M d kc ks pc L st h R' := by
  intro p e s m args below meth c C H locs ls cells slots mc ms hc hs hS hF hL T hT X
  obtain ⟨t, a, o, b1, b2, ⟨⟨r, h', e1, e2, e3⟩, e4⟩, b4⟩ := k p e s m args below meth c C H locs ls cells slots mc ms hc hs hS hF hL T hT X
  exact ⟨t, a, o, b1, b2, ⟨⟨r, h', e1, hR r h' e2, e3⟩, e4⟩, b4⟩

