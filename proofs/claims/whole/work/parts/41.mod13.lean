/-- the model's ticks have gone by: what is left of the board -/
def tkQ (f : Nat → Nat → Int32) (n : Nat) (K2 : Nat → Nat → Int32) (T2 : Nat) (f' : Nat → Nat → Int32) : Prop :=
  (∀ c q, c ≠ 65 → c ≠ 66 → c ≠ 70 → c ≠ 71 → c ≠ 72 → c ≠ 76 → ¬ (c = 64 ∧ 15 ≤ q ∧ q ≤ 18) → f' c q = f c q) ∧ (∀ q, 28 ≤ q → q ≠ 55 → f' 65 q = f 65 q) ∧ f' 65 55 = nI T2 ∧ ∀ k, k < n → kOK (K2 k) ∧ ∀ j, j < 7 → f' 65 (7 * k + j) = K2 k j
theorem seF_65 {f : Nat → Nat → Int32} {j : Nat} (h : j < 75) : seF f 65 j = f 66 j := by
  have e := cpR_i (f := f) (c0 := 65) (o0 := 0) (c1 := 66) (o1 := 0) (i := 75) (j := j) h
  rw [Nat.zero_add] at e
  exact e
theorem seF_o {f : Nat → Nat → Int32} {c j : Nat} (h : ¬ (c = 65 ∧ j < 75)) : seF f c j = f c j := cpR_o (by omega)
set_option maxRecDepth 100000 in
set_option maxHeartbeats 1000000 in
theorem n_ticks {V : am_V} {d : Nat} {f : Nat → Nat → Int32} {τ : Nat → Nat → Int64} {n p e T : Nat} {pk pt ps : Nat → Int32} {K : Nat → Nat → Int32} (hM : BM f n p pk pt ps e K T) (x : Int32) : AGi V MX5_ticks (d + 6) [.ref 64, .int x] (f, τ) (fun r S' => (∃ N, x = nI N ∧ N ≤ 100 ∧ T + N ≤ 999 ∧ r = sumF (fun k => (avK pk pt ps n p (nI e) K (nI T) N).1 k 7) n ∧ ∃ f', S' = (f', τ) ∧ tkQ f n (avK pk pt ps n p (nI e) K (nI T) N).1 (T + N) f') ∨ (0 ≤ x ∧ x ≤ 100 ∧ ¬ nI T + x ≤ 999 ∧ r = -3 ∧ S' = (f, τ)) ∨ (¬ (0 ≤ x ∧ x ≤ 100) ∧ r = -1 ∧ S' = (f, τ))) := by
  have hn4 : n ≤ 4 := hM.1.1
  have hp8 : p ≤ 8 := hM.1.2.1
  have he : 1 ≤ e ∧ e ≤ 4 := ⟨hM.1.2.2.1, hM.1.2.2.2.1⟩
  have hT9 : T ≤ 999 := hM.1.2.2.2.2
  have tM := tb_M
  have m65 := tb_65
  have m66 := tb_66
  have m67 := tb_67
  have m68 := tb_68
  have m69 := tb_69
  have m70 := tb_70
  have m71 := tb_71
  have m72 := tb_72
  have m73 := tb_73
  have m74 := tb_74
  have m75 := tb_75
  have m76 := tb_76
  refine AM.of (L := [some (.ref 64), some (.int x)]) (by decide +kernel) (Nat.le_of_ble_eq_true rfl) rfl ?_
  refine aw_iload_n (i := 1) dX5_ticks_0 rfl rfl ?_
  refine aw_i2l dX5_ticks_1 ?_
  refine aw_lconst (v := 0) dX5_ticks_2 (by decide) ?_
  refine aw_ldc2 dX5_ticks_3 lkX5_221 ?_
  refine ax_callS3i (M' := MX5_in) dX5_ticks_6 lmX5_63 oX5_in (by decide +kernel) (Nat.le_of_ble_eq_true rfl) (e_in _ 0 100) ?_
  refine aw_bne (tgt := 14) dX5_ticks_9 (by decide) (fun c9 => ?_) (fun c9 => ?_)
  · refine aw_aload_n (i := 0) dX5_ticks_14 rfl rfl ?_
    refine ax_getr (ci := 5) 0 dX5_ticks_15 rfl lfX5_7 (by decide) (by assumption) (by rfl) ?_
    refine aw_bipush (v := 55) dX5_ticks_18 (by decide) ?_
    refine ax_ialdN (i := 55) dX5_ticks_20 (by assumption) (by omega) (Nat.le_of_ble_eq_true rfl) ?_
    refine aw_tE (nI T) hM.2.1.2.2.2 ?_
    refine aw_iload_n (i := 1) dX5_ticks_21 rfl rfl ?_
    refine aw_iadd dX5_ticks_22 ?_
    refine aw_sipush (v := 999) dX5_ticks_23 (by decide) ?_
    refine aw_icmp_le (tgt := 32) dX5_ticks_26 (by decide) (fun c26 => ?_) (fun c26 => ?_)
    · obtain ⟨N, hN, rfl⟩ := rng_of (n := 100) (by omega) c9
      have hTN : T + N ≤ 999 := (nI_leI (a := T + N) (b := 999) (by omega) (by omega)).mp (by rw [← nI_add]; exact c26)
      refine aw_aload_n (i := 0) dX5_ticks_32 rfl rfl ?_
      refine ax_gV0v (M' := MX5_starts) (ci := 5) dX5_ticks_33 lmX5_183 oX5_starts (by decide +kernel) (by assumption) rfl rfl (Nat.le_of_ble_eq_true rfl) ((f_X5_starts (f := f)).toGv (P := fun S' => ∃ f', S' = (f', τ) ∧ MR f n p pk pt ps e K T f' ∧ f' = stF f) ⟨_, rfl, stF_MRb hM eqM.rf, rfl⟩) (fun S_ h_ => ?_)
      obtain ⟨f33, rfl, T33, Q33⟩ := h_
      refine aw_aload_n (i := 0) dX5_ticks_36 rfl rfl ?_
      refine aw_iload_n (i := 1) dX5_ticks_37 rfl rfl ?_
      refine ax_gV1v (M' := MX5_ticksGo) (ci := 5) dX5_ticks_38 lmX5_223 oX5_ticksGo (by decide +kernel) (by assumption) rfl rfl (Nat.le_of_ble_eq_true rfl) (n_ticksGo hn4 he T33 (N := N) (by omega)) (fun S_ h_ => ?_)
      obtain ⟨f38, rfl, T38, Q38⟩ := h_
      refine aw_aload_n (i := 0) dX5_ticks_41 rfl rfl ?_
      refine ax_callV0v (M' := MX5_settles) (ci := 5) dX5_ticks_42 lmX5_214 oX5_settles (by decide +kernel) (by assumption) rfl rfl (Nat.le_of_ble_eq_true rfl) (f_X5_settles) ?_
      refine aw_aload_n (i := 0) dX5_ticks_45 rfl rfl ?_
      refine ax_callV0i (M' := MX5_struckByAll) (ci := 5) dX5_ticks_46 lmX5_226 oX5_struckByAll (by decide +kernel) (by assumption) rfl rfl (Nat.le_of_ble_eq_true rfl) (f_X5_struckByAll) ?_
      refine aw_ireturn (ty := .int) dX5_ticks_49 rfl rfl ?_
      refine ⟨_, _, rfl, rfl, Or.inl ⟨N, rfl, hN, hTN, ?_, _, rfl, ?_, ?_, ?_, ?_⟩⟩
      · rw [← T38.sum hn4]
        exact sumF_congr 4 (fun k _ => seF_o (by omega))
      · intro c q h1 h2 h3 h4 h5 h6 h7
        rw [seF_o (by omega)]
        exact T38.1 c q h2 h3 h4 h5 h6 h7
      · intro q h1 h2
        by_cases q75 : q < 75
        · rw [seF_65 q75, Q38 66 q (by omega), Q33, stF_66 q75]
        · rw [seF_o (by omega)]
          exact T38.1 65 q (by omega) (by omega) (by omega) (by omega) (by omega) (by omega)
      · rw [seF_65 (by omega)]
        exact T38.2.1.2.2.2.1
      · intro k hk
        refine ⟨T38.2.2 k hk, fun j hj => ?_⟩
        rw [seF_65 (by omega)]
        exact T38.2.1.2.2.2.2.1 k hk j hj
    · refine aw_bipush (v := -3) dX5_ticks_29 (by decide) ?_
      refine aw_ireturn (ty := .int) dX5_ticks_31 rfl rfl ?_
      exact ⟨_, _, rfl, rfl, Or.inr (Or.inl ⟨c9.1, c9.2, c26, rfl, rfl⟩)⟩
  · refine aw_iconst (v := -1) dX5_ticks_12 (by decide) ?_
    refine aw_ireturn (ty := .int) dX5_ticks_13 rfl rfl ?_
    exact ⟨_, _, rfl, rfl, Or.inr (Or.inr ⟨c9, rfl, rfl⟩)⟩
def lowI (what : Int32) : Int32 := if what = 2 then 1 else 0
def mostI (what : Int32) : Int32 := if what = 1 then 3 else if what = 0 then 9 else 9
set_option maxRecDepth 100000 in
set_option maxHeartbeats 1000000 in
theorem q_lowOf {V : am_V} {d : Nat} {S : fm} (x : Int32) : AF V MX5_lowOf d [.int x] S (some (.int (lowI x))) S := by
  refine AM.of (L := [some (.int x)]) (by decide +kernel) (Nat.le_of_ble_eq_true rfl) rfl ?_
  refine aw_iload_n (i := 0) dX5_lowOf_0 rfl rfl ?_
  refine aw_iconst (v := 2) dX5_lowOf_1 (by decide) ?_
  refine aw_icmp_ne (tgt := 9) dX5_lowOf_2 (by decide) (fun c2 => ?_) (fun c2 => ?_)
  · refine aw_iconst (v := 0) dX5_lowOf_9 (by decide) ?_
    refine aw_ireturn (ty := .int) dX5_lowOf_10 rfl rfl ?_
    exact ⟨congrArg (fun z => some (Value.int z)) (if_neg c2).symm, rfl⟩
  · refine aw_iconst (v := 1) dX5_lowOf_5 (by decide) ?_
    refine aw_goto (tgt := 10) dX5_lowOf_6 (by decide) ?_
    refine aw_ireturn (ty := .int) dX5_lowOf_10 rfl rfl ?_
    exact ⟨congrArg (fun z => some (Value.int z)) (if_pos c2).symm, rfl⟩
set_option maxRecDepth 100000 in
set_option maxHeartbeats 1000000 in
theorem q_mostOf {V : am_V} {d : Nat} {S : fm} (x : Int32) : AF V MX5_mostOf d [.int x] S (some (.int (mostI x))) S := by
  refine AM.of (L := [some (.int x)]) (by decide +kernel) (Nat.le_of_ble_eq_true rfl) rfl ?_
  refine aw_iload_n (i := 0) dX5_mostOf_0 rfl rfl ?_
  refine aw_iconst (v := 1) dX5_mostOf_1 (by decide) ?_
  refine aw_icmp_ne (tgt := 9) dX5_mostOf_2 (by decide) (fun c2 => ?_) (fun c2 => ?_)
  · refine aw_iload_n (i := 0) dX5_mostOf_9 rfl rfl ?_
    refine aw_if_ne (tgt := 18) dX5_mostOf_10 (by decide) (fun c10 => ?_) (fun c10 => ?_)
    · refine aw_bipush (v := 9) dX5_mostOf_18 (by decide) ?_
      refine aw_ireturn (ty := .int) dX5_mostOf_20 rfl rfl ?_
      exact ⟨congrArg (fun z => some (Value.int z)) ((if_neg c2).trans (if_neg c10)).symm, rfl⟩
    · refine aw_bipush (v := 9) dX5_mostOf_13 (by decide) ?_
      refine aw_goto (tgt := 20) dX5_mostOf_15 (by decide) ?_
      refine aw_ireturn (ty := .int) dX5_mostOf_20 rfl rfl ?_
      exact ⟨congrArg (fun z => some (Value.int z)) ((if_neg c2).trans (if_pos c10)).symm, rfl⟩
  · refine aw_iconst (v := 3) dX5_mostOf_5 (by decide) ?_
    refine aw_goto (tgt := 20) dX5_mostOf_6 (by decide) ?_
    refine aw_ireturn (ty := .int) dX5_mostOf_20 rfl rfl ?_
    exact ⟨congrArg (fun z => some (Value.int z)) (if_pos c2).symm, rfl⟩
def mr_alter (f : Nat → Nat → Int32) (k what v : Int32) : Int32 := if 0 ≤ k ∧ k ≤ f 65 28 - 1 then (if 0 ≤ what ∧ what ≤ 2 then (if lowI what ≤ v ∧ v ≤ mostI what then f 65 (7 * k.toNatClampNeg + what.toNatClampNeg) else -1) else -1) else -1
def alM (f : Nat → Nat → Int32) (j u : Nat) (v : Int32) : Nat → Nat → Int32 := seF (cuF (stF (up2 f 65 (7 * j + u) v)) j)
def ms_alter (f : Nat → Nat → Int32) (k what v : Int32) : Nat → Nat → Int32 := if 0 ≤ k ∧ k ≤ f 65 28 - 1 then (if 0 ≤ what ∧ what ≤ 2 then (if lowI what ≤ v ∧ v ≤ mostI what then alM f k.toNatClampNeg what.toNatClampNeg v else f) else f) else f
set_option maxRecDepth 100000 in
set_option maxHeartbeats 1000000 in
theorem q_alter {V : am_V} {d : Nat} {f : Nat → Nat → Int32} {τ : Nat → Nat → Int64} {n : Nat} (hn4 : n ≤ 4) (hn : f 65 28 = nI n) (k what v : Int32) : AF V MX5_alter (d + 2) [.ref 64, .int k, .int what, .int v] (f, τ) (some (.int (mr_alter f k what v))) (ms_alter f k what v, τ) := by
  have tM := tb_M
  have m65 := tb_65
  have m66 := tb_66
  have m67 := tb_67
  have m68 := tb_68
  have m69 := tb_69
  have m70 := tb_70
  have m71 := tb_71
  have m72 := tb_72
  have m73 := tb_73
  have m74 := tb_74
  have m75 := tb_75
  have m76 := tb_76
  refine AM.of (L := [some (.ref 64), some (.int k), some (.int what), some (.int v), none]) (by decide +kernel) (Nat.le_of_ble_eq_true rfl) rfl ?_
  refine aw_aload_n (i := 0) dX5_alter_0 rfl rfl ?_
  refine aw_iload_n (i := 1) dX5_alter_1 rfl rfl ?_
  refine ax_callV1i (M' := MX5_isKey) (ci := 5) dX5_alter_2 lmX5_192 oX5_isKey (by decide +kernel) (by assumption) rfl rfl (Nat.le_of_ble_eq_true rfl) (f_X5_isKey _) ?_
  refine aw_beq (tgt := 38) dX5_alter_5 (by decide) (fun c5 => ?_) (fun c5 => ?_)
  · refine aw_iconst (v := -1) dX5_alter_38 (by decide) ?_
    refine aw_ireturn (ty := .int) dX5_alter_39 rfl rfl ?_
    exact ⟨congrArg (fun z => some (Value.int z)) (if_neg c5).symm, congrArg (fun z => hp (z, τ)) (if_neg c5).symm⟩
  · refine aw_iload_n (i := 2) dX5_alter_8 rfl rfl ?_
    refine aw_i2l dX5_alter_9 ?_
    refine aw_lconst (v := 0) dX5_alter_10 (by decide) ?_
    refine aw_ldc2 dX5_alter_11 lkX5_198 ?_
    refine ax_callS3i (M' := MX5_in) dX5_alter_14 lmX5_63 oX5_in (by decide +kernel) (Nat.le_of_ble_eq_true rfl) (e_in _ 0 2) ?_
    refine aw_beq (tgt := 38) dX5_alter_17 (by decide) (fun c17 => ?_) (fun c17 => ?_)
    · refine aw_iconst (v := -1) dX5_alter_38 (by decide) ?_
      refine aw_ireturn (ty := .int) dX5_alter_39 rfl rfl ?_
      exact ⟨congrArg (fun z => some (Value.int z)) ((if_pos c5).trans (if_neg c17)).symm, congrArg (fun z => hp (z, τ)) ((if_pos c5).trans (if_neg c17)).symm⟩
    · refine aw_iload_n (i := 3) dX5_alter_20 rfl rfl ?_
      refine aw_i2l dX5_alter_21 ?_
      refine aw_iload_n (i := 2) dX5_alter_22 rfl rfl ?_
      refine ax_callS1i (M' := MX5_lowOf) dX5_alter_23 lmX5_202 oX5_lowOf (by decide +kernel) (Nat.le_of_ble_eq_true rfl) (q_lowOf _) ?_
      refine aw_i2l dX5_alter_26 ?_
      refine aw_iload_n (i := 2) dX5_alter_27 rfl rfl ?_
      refine ax_callS1i (M' := MX5_mostOf) dX5_alter_28 lmX5_205 oX5_mostOf (by decide +kernel) (Nat.le_of_ble_eq_true rfl) (q_mostOf _) ?_
      refine aw_i2l dX5_alter_31 ?_
      refine ax_callS3i (M' := MX5_in) dX5_alter_32 lmX5_63 oX5_in (by decide +kernel) (Nat.le_of_ble_eq_true rfl) (e_in _ _ _) ?_
      refine aw_bne (tgt := 40) dX5_alter_35 (by decide) (fun c35 => ?_) (fun c35 => ?_)
      · obtain ⟨j, hj, rfl⟩ := key_of hn4 (show 0 ≤ k ∧ k ≤ nI n - 1 by rw [← hn]; exact c5)
        obtain ⟨u, hu, rfl⟩ := rng_of (n := 2) (by omega) c17
        refine aw_aload_n (i := 0) dX5_alter_40 rfl rfl ?_
        refine aw_bipush (v := 7) dX5_alter_41 (by decide) ?_
        refine aw_iload_n (i := 1) dX5_alter_43 rfl rfl ?_
        refine aw_imul dX5_alter_44 ?_
        refine aw_iload_n (i := 2) dX5_alter_45 rfl rfl ?_
        refine aw_iadd dX5_alter_46 ?_
        refine aw_tE (nI (7 * j + u)) (by rw [show (7 : Int32) = nI 7 from rfl, pk_mul, nI_add]) ?_
        refine aw_iload_n (i := 3) dX5_alter_47 rfl rfl ?_
        refine ax_callV2i (M' := MX5_becomes) (ci := 5) dX5_alter_48 lmX5_208 oX5_becomes (by decide +kernel) (by assumption) rfl rfl (Nat.le_of_ble_eq_true rfl) (q_becomes (c := 7 * j + u) (by omega) _) ?_
        refine aw_istore (i := 4) (L' := [_, _, _, _, _]) dX5_alter_51 (Nat.le_of_ble_eq_true rfl) rfl rfl ?_
        refine aw_aload_n (i := 0) dX5_alter_53 rfl rfl ?_
        refine ax_callV0v (M' := MX5_starts) (ci := 5) dX5_alter_54 lmX5_183 oX5_starts (by decide +kernel) (by assumption) rfl rfl (Nat.le_of_ble_eq_true rfl) (f_X5_starts) ?_
        refine aw_aload_n (i := 0) dX5_alter_57 rfl rfl ?_
        refine aw_iload_n (i := 1) dX5_alter_58 rfl rfl ?_
        refine ax_callV1v (M' := MX5_cutsSum) (ci := 5) dX5_alter_59 lmX5_211 oX5_cutsSum (by decide +kernel) (by assumption) rfl rfl (Nat.le_of_ble_eq_true rfl) (f_X5_cutsSum (by omega)) ?_
        refine aw_aload_n (i := 0) dX5_alter_62 rfl rfl ?_
        refine ax_callV0v (M' := MX5_settles) (ci := 5) dX5_alter_63 lmX5_214 oX5_settles (by decide +kernel) (by assumption) rfl rfl (Nat.le_of_ble_eq_true rfl) (f_X5_settles) ?_
        refine aw_iload dX5_alter_66 rfl ?_
        refine aw_ireturn (ty := .int) dX5_alter_68 rfl rfl ?_
        refine ⟨congrArg (fun z => some (Value.int z)) ?_, congrArg (fun z => hp (z, τ)) ?_⟩
        · unfold mr_alter
          rw [nI_clamp (show j < 2 ^ 31 by omega), nI_clamp (show u < 2 ^ 31 by omega)]
          exact ((if_pos c5).trans ((if_pos c17).trans (if_pos c35))).symm
        · unfold ms_alter
          rw [nI_clamp (show j < 2 ^ 31 by omega), nI_clamp (show u < 2 ^ 31 by omega)]
          exact ((if_pos c5).trans ((if_pos c17).trans (if_pos c35))).symm
      · refine aw_iconst (v := -1) dX5_alter_38 (by decide) ?_
        refine aw_ireturn (ty := .int) dX5_alter_39 rfl rfl ?_
        exact ⟨congrArg (fun z => some (Value.int z)) ((if_pos c5).trans ((if_pos c17).trans (if_neg c35))).symm, congrArg (fun z => hp (z, τ)) ((if_pos c5).trans ((if_pos c17).trans (if_neg c35))).symm⟩
