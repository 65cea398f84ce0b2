/-! THE START: what the Statement gives of the machine. -/
def tmS (i : Nat) : Term := .string "KeySieves$TextReader" (am_txI.getD i 0)
theorem st_ex : ∀ i, i < 6 → Cond.exactly (tmS i) "java/lang/String" ∈ flatC (Cond.and given_1 narrow_1) := by decide +kernel
theorem st_co : ∀ i, i < 6 → Cond.eq (.field (tmS i) "java/lang/String" "coder" "B") (.int 0) ∈ flatC (Cond.and given_1 narrow_1) := by decide +kernel
theorem st_ar : ∀ i, i < 6 → Cond.arrayOf (.field (tmS i) "java/lang/String" "value" "[B") .byte ∈ flatC (Cond.and given_1 narrow_1) := by decide +kernel
theorem st_le : ∀ i, i < 6 → Cond.eq (.length (.field (tmS i) "java/lang/String" "value" "[B")) (.int (Int32.ofNat (am_txL.getD i 0))) ∈ flatC (Cond.and given_1 narrow_1) := by decide +kernel
theorem st_el : ∀ i, i < 6 → ∀ j, j < am_txL.getD i 0 → Cond.eq (.elem (.field (tmS i) "java/lang/String" "value" "[B") (.int (Int32.ofNat j))) (.int ((am_txB.getD i []).getD j 0)) ∈ flatC (Cond.and given_1 narrow_1) := by decide +kernel
theorem st_ne : ∀ i, i < 6 → ∀ j, j < 6 → i ≠ j → Cond.not (Cond.eq (tmS i) (tmS j)) ∈ flatC (Cond.and given_1 narrow_1) ∨ Cond.not (Cond.eq (tmS j) (tmS i)) ∈ flatC (Cond.and given_1 narrow_1) := by decide +kernel
theorem st_cs : Cond.eq (.static "java/lang/String" "COMPACT_STRINGS" "Z") (.int 1) ∈ flatC (Cond.and given_1 narrow_1) := by decide +kernel
theorem st_fm : Cond.isRef (.static "jdk/internal/util/Preconditions" "SIOOBE_FORMATTER" "Ljava/util/function/BiFunction;") ∈ flatC (Cond.and given_1 narrow_1) := by decide +kernel
theorem st_lc : Cond.laysStatic "java/lang/String" "COMPACT_STRINGS" "Z" ∈ lw_tbl := List.mem_of_getElem? (i := 369) (by decide +kernel)
theorem st_lf : Cond.laysStatic "jdk/internal/util/Preconditions" "SIOOBE_FORMATTER" "Ljava/util/function/BiFunction;" ∈ lw_tbl := List.mem_of_getElem? (i := 385) (by decide +kernel)
theorem st_ic : Cond.initialized "java/lang/String" ∈ lw_tbl := List.mem_of_getElem? (i := 80) (by decide +kernel)
theorem st_if : Cond.initialized "jdk/internal/util/Preconditions" ∈ lw_tbl := List.mem_of_getElem? (i := 82) (by decide +kernel)
theorem st_nest : ∀ w ∈ am_nest, w ∈ lw_tbl := by decide +kernel
theorem st_nestT : ∀ w ∈ am_nest, w.onTables = true := by decide +kernel
theorem st_oK : Cond.arrayOver (.object "KeySieves$Key") ∈ lw_tbl := List.mem_of_getElem? (i := 100) (by decide +kernel)
theorem st_oB : Cond.arrayOver (.object "KeySieves$Board") ∈ lw_tbl := List.mem_of_getElem? (i := 195) (by decide +kernel)
theorem st_oS : Cond.arrayOver (.object "KeySieves$Sheet") ∈ lw_tbl := List.mem_of_getElem? (i := 197) (by decide +kernel)
theorem st_sr : ∀ i, i < 6 → Cond.stringRef "KeySieves$TextReader" (am_txI.getD i 0) (am_txT.getD i "") ∈ lw_tbl := by decide +kernel
theorem st_arr {s : State} {A : Array Value} {ty : FieldType} (h : (Cond.arrayClass ty).before A s = true) (hp : ∀ U cA, U.vm.findClass ("[" ++ ty.toString) = some cA → va_RA U cA ty) : ∃ cA, ArrOfT s cA ty ∧ va_RA s cA ty := by
  obtain ⟨c, k, comp, h1, h2, h3⟩ := Cond.arrayClass_spec h
  exact ⟨c, fun n z => ⟨fun k h => (by cases h), k, h2, comp, h3⟩, hp _ _ h1⟩
theorem st_ovr {s : State} {A : Array Value} {C : String} (h : (Cond.arrayOver (.object C)).before A s = true) : ∃ cA, ArrOfT s cA (.object C) ∧ va_RA s cA (.object C) := by
  obtain ⟨comp, c, k, h1, h2, h3, h4, h5⟩ := Cond.arrayOver_spec h
  exact ⟨c, fun n z => ⟨fun k h => (by cases h), k, h3, comp, h4⟩, k, comp, h3, h4, h1, h5⟩
theorem law_make {V : am_V} {b Ln : Nat} {xs : Nat → Int32} (hLn : Ln ≤ 2560) : AL V b Ln xs 600000 7302250 0 [some (.ref 1000300), none, none, none] [] [] := by
  refine al_new (ci := 4) (n := 0) (N := 12) (fs := [.null, .int 0, .null, .null, .null, .null, .null, .null, .int 0, .int 0, .null, .null]) (h' := [ks0]) 599999 7302238 rfl (Nat.le_of_ble_eq_true rfl) dL_0 rfl cl_L4 ni_4 nn_4 rfl rfl (by decide +kernel) rfl ?_
  refine al_dup dL_3 rfl ?_
  refine al_callI (M' := MX4_init) (as := []) (kc' := 63) (ks' := 775) (h' := ksC) 599936 7301463 dL_4 lmL_9 rfl oX4_init (by decide +kernel) rfl (Nat.le_of_ble_eq_true rfl) (h_X4_init (d := 6)) ?_
  refine al_astore (i := 1) (L' := [some (.ref 1000300), some (.ref 0), none, none]) dL_7 rfl (by omega) rfl rfl ?_
  refine al_new (ci := 5) (n := 64) (N := 29) (fs := [.null, .null, .null, .null, .int 0, .int 0, .null, .int 0, .int 0, .int 0, .int 0, .int 0, .int 0, .int 0, .null, .int 0, .int 0, .int 0, .int 0, .long 0, .long 0, .long 0, .null, .null, .null, .null, .null, .int 0, .null]) (h' := ksC ++ [md0]) 599935 7301434 rfl (Nat.le_of_ble_eq_true rfl) dL_8 rfl cl_L5 ni_5 nn_5 rfl rfl (by decide +kernel) rfl ?_
  refine al_dup dL_11 rfl ?_
  refine al_callI (M' := MX5_init) (as := []) (kc' := 12) (ks' := 866) (h' := hp (kdF fi2, fun _ _ => 0)) 599923 7300568 dL_12 lmL_12 rfl oX5_init (by decide +kernel) rfl (Nat.le_of_ble_eq_true rfl) (h_X5_init (d := 8)) ?_
  refine al_astore (i := 2) (L' := [some (.ref 1000300), some (.ref 0), some (.ref 64), none]) dL_15 rfl (by omega) rfl rfl ?_
  refine al_iconst (v := nI 0) dL_16 (by decide) ?_
  refine al_istore (i := 3) (L' := LL 0) dL_17 rfl (by omega) rfl rfl ?_
  exact law_loop hLn (Ln + 1) 0 _ (Nat.zero_le _) (by omega) INV_0
