theorem cpR_65 {f : Nat → Nat → Int32} {a b i : Nat} (h : a + 75 ≤ b ∨ b + 75 ≤ a) (hi : i < 75) : cpR f 65 a 65 b i 65 (b + i) = f 65 (b + i) := cpR_o (by omega)
set_option maxRecDepth 100000 in
set_option maxHeartbeats 1000000 in
theorem q_copies {V : am_V} {d : Nat} {f : Nat → Nat → Int32} {τ : Nat → Nat → Int64} {a b : Nat} (ha : a + 75 ≤ 225) (hb2 : b + 75 ≤ 225) (hab : a + 75 ≤ b ∨ b + 75 ≤ a) : AF V MX5_copies d [.ref 64, .int (nI a), .int (nI b)] (f, τ) none (cpR f 65 a 65 b 75, τ) := by
  have tM := tb_M
  have m65 := tb_65
  have m66 := tb_66
  have m67 := tb_67
  have m68 := tb_68
  have m69 := tb_69
  have m70 := tb_70
  have m71 := tb_71
  have m72 := tb_72
  have m73 := tb_73
  have m74 := tb_74
  have m75 := tb_75
  have m76 := tb_76
  refine AM.of (L := [some (.ref 64), some (.int (nI a)), some (.int (nI b)), none]) (by decide +kernel) (Nat.le_of_ble_eq_true rfl) rfl ?_
  have loop : ∀ (m i : Nat), i ≤ 75 → 75 - i < m → AW V MX5_copies (d) 0 0 2 [some (.ref 64), some (.int (nI a)), some (.int (nI b)), some (.int (nI i))] [] (hp (cpR f 65 a 65 b i, τ)) (fun r' h' => r' = none ∧ h' = hp (cpR f 65 a 65 b 75, τ)) := by
    intro m
    induction m with
    | zero => intro i h1 h2; omega
    | succ m ih =>
      intro i h1 h2
      refine aw_iload_n (i := 3) dX5_copies_2 rfl rfl ?_
      refine aw_bipush (v := 75) dX5_copies_3 (by decide) ?_
      refine aw_tE (nI 75) rfl ?_
      refine aw_icmp_ge (tgt := 30) dX5_copies_5 (by decide) (fun c5 => ?_) (fun c5 => ?_)
      · refine aw_return dX5_copies_30 rfl ?_
        have hip : i = 75 := by have := (nI_leI (a := 75) (b := i) (by omega) (by omega)).mp c5; omega
        subst hip
        exact ⟨rfl, rfl⟩
      · have hi : i < 75 := Nat.not_le.mp (fun z => c5 (nI_le z (by omega)))
        refine aw_aload_n (i := 0) dX5_copies_8 rfl rfl ?_
        refine ax_getr (ci := 5) 0 dX5_copies_9 rfl lfX5_7 (by decide) (by assumption) (by rfl) ?_
        refine aw_iload_n (i := 1) dX5_copies_12 rfl rfl ?_
        refine aw_iload_n (i := 3) dX5_copies_13 rfl rfl ?_
        refine aw_iadd dX5_copies_14 ?_
        refine aw_tE (nI (a + i)) (nI_add a i) ?_
        refine aw_aload_n (i := 0) dX5_copies_15 rfl rfl ?_
        refine ax_getr (ci := 5) 0 dX5_copies_16 rfl lfX5_7 (by decide) (by assumption) (by rfl) ?_
        refine aw_iload_n (i := 2) dX5_copies_19 rfl rfl ?_
        refine aw_iload_n (i := 3) dX5_copies_20 rfl rfl ?_
        refine aw_iadd dX5_copies_21 ?_
        refine aw_tE (nI (b + i)) (nI_add b i) ?_
        refine ax_ialdN dX5_copies_22 (by assumption) (by omega) (Nat.le_of_ble_eq_true rfl) ?_
        refine aw_tE (f 65 (b + i)) (cpR_65 hab hi) ?_
        refine ax_iastN dX5_copies_23 (by assumption) (by omega) (Nat.le_of_ble_eq_true rfl) ?_
        refine aw_incN (L' := [_, _, _, _]) dX5_copies_24 rfl (Nat.le_of_ble_eq_true rfl) rfl rfl ?_
        refine aw_goto (tgt := 2) dX5_copies_27 (by decide) ?_
        have e := ih (i + 1) hi (by omega)
        rw [← cpR_s] at e
        exact e
  refine aw_iconst (v := 0) dX5_copies_0 (by decide) ?_
  refine aw_istore_n (i := 3) (L' := [_, _, _, _]) dX5_copies_1 rfl (Nat.le_of_ble_eq_true rfl) rfl rfl ?_
  have e := loop (75 + 1) 0 (Nat.zero_le _) (by omega)
  rw [cpR_0] at e
  exact e
def mr_keep (f : Nat → Nat → Int32) (k : Int32) : Int32 := if 0 ≤ k ∧ k ≤ 1 then f 67 k.toNatClampNeg else -1
def ms_keep (f : Nat → Nat → Int32) (k : Int32) : Nat → Nat → Int32 := if 0 ≤ k ∧ k ≤ 1 then cpR (up2 f 67 k.toNatClampNeg 1) 65 (75 * (k.toNatClampNeg + 1)) 65 0 75 else f
def mr_back (f : Nat → Nat → Int32) (k : Int32) : Int32 := if 0 ≤ k ∧ k ≤ 1 then (if f 67 k.toNatClampNeg = 0 then -2 else f 65 (75 * (k.toNatClampNeg + 1) + 55)) else -1
def ms_back (f : Nat → Nat → Int32) (k : Int32) : Nat → Nat → Int32 := if 0 ≤ k ∧ k ≤ 1 then (if f 67 k.toNatClampNeg = 0 then f else cpR f 65 0 65 (75 * (k.toNatClampNeg + 1)) 75) else f
theorem f_X5_flag01 {V : am_V} {d : Nat} {S : fm} {x : Int32} (h : x = 0 ∨ x = 1) : AF V MX5_flag d [.int x] S (some (.int x)) S := by
  rcases h with rfl | rfl
  · exact f_X5_flagc0
  · exact f_X5_flagc1
set_option maxRecDepth 100000 in
set_option maxHeartbeats 1000000 in
theorem q_keep {V : am_V} {d : Nat} {f : Nat → Nat → Int32} {τ : Nat → Nat → Int64} (h67 : ∀ j, j < 2 → f 67 j = 0 ∨ f 67 j = 1) (k : Int32) : AF V MX5_keep (d + 1) [.ref 64, .int k] (f, τ) (some (.int (mr_keep f k))) (ms_keep f k, τ) := by
  have tM := tb_M
  have m65 := tb_65
  have m66 := tb_66
  have m67 := tb_67
  have m68 := tb_68
  have m69 := tb_69
  have m70 := tb_70
  have m71 := tb_71
  have m72 := tb_72
  have m73 := tb_73
  have m74 := tb_74
  have m75 := tb_75
  have m76 := tb_76
  refine AM.of (L := [some (.ref 64), some (.int k), none]) (by decide +kernel) (Nat.le_of_ble_eq_true rfl) rfl ?_
  refine aw_iload_n (i := 1) dX5_keep_0 rfl rfl ?_
  refine aw_i2l dX5_keep_1 ?_
  refine aw_lconst (v := 0) dX5_keep_2 (by decide) ?_
  refine aw_lconst (v := 1) dX5_keep_3 (by decide) ?_
  refine ax_callS3i (M' := MX5_in) dX5_keep_4 lmX5_63 oX5_in (by decide +kernel) (Nat.le_of_ble_eq_true rfl) (e_in _ 0 1) ?_
  refine aw_bne (tgt := 12) dX5_keep_7 (by decide) (fun c7 => ?_) (fun c7 => ?_)
  · obtain ⟨j, hj1, rfl⟩ := rng_of (n := 1) (by omega) c7
    have hj : j < 2 := by omega
    refine aw_aload_n (i := 0) dX5_keep_12 rfl rfl ?_
    refine ax_getr (ci := 5) 2 dX5_keep_13 rfl lfX5_16 (by decide) (by assumption) (by rfl) ?_
    refine aw_iload_n (i := 1) dX5_keep_16 rfl rfl ?_
    refine ax_zaldN dX5_keep_17 m67 hj (Nat.le_of_ble_eq_true rfl) ?_
    refine ax_callS1i (M' := MX5_flag) dX5_keep_18 lmX5_236 oX5_flag (by decide +kernel) (Nat.le_of_ble_eq_true rfl) (f_X5_flag01 (h67 j hj)) ?_
    refine aw_istore_n (i := 2) (L' := [_, _, _]) dX5_keep_21 rfl (Nat.le_of_ble_eq_true rfl) rfl rfl ?_
    refine aw_aload_n (i := 0) dX5_keep_22 rfl rfl ?_
    refine ax_getr (ci := 5) 2 dX5_keep_23 rfl lfX5_16 (by decide) (by assumption) (by rfl) ?_
    refine aw_iload_n (i := 1) dX5_keep_26 rfl rfl ?_
    refine aw_iconst (v := 1) dX5_keep_27 (by decide) ?_
    refine ax_zastN dX5_keep_28 m67 hj (Nat.le_of_ble_eq_true rfl) (Or.inr rfl) ?_
    refine aw_aload_n (i := 0) dX5_keep_29 rfl rfl ?_
    refine aw_bipush (v := 75) dX5_keep_30 (by decide) ?_
    refine aw_iload_n (i := 1) dX5_keep_32 rfl rfl ?_
    refine aw_iconst (v := 1) dX5_keep_33 (by decide) ?_
    refine aw_iadd dX5_keep_34 ?_
    refine aw_imul dX5_keep_35 ?_
    refine aw_tE (nI (75 * (j + 1))) (by rw [nI_1, show (75 : Int32) = nI 75 from rfl, pk_mul]) ?_
    refine aw_iconst (v := 0) dX5_keep_36 (by decide) ?_
    refine ax_callV2v (M' := MX5_copies) (ci := 5) dX5_keep_37 lmX5_308 oX5_copies (by decide +kernel) (by assumption) rfl rfl (Nat.le_of_ble_eq_true rfl) (q_copies (a := 75 * (j + 1)) (b := 0) (by omega) (by omega) (by omega)) ?_
    refine aw_iload_n (i := 2) dX5_keep_40 rfl rfl ?_
    refine aw_ireturn (ty := .int) dX5_keep_41 rfl rfl ?_
    refine ⟨congrArg (fun z => some (Value.int z)) ?_, congrArg (fun z => hp (z, τ)) ?_⟩
    · unfold mr_keep
      rw [nI_clamp (show j < 2 ^ 31 by omega)]
      exact (if_pos c7).symm
    · unfold ms_keep
      rw [nI_clamp (show j < 2 ^ 31 by omega)]
      exact (if_pos c7).symm
  · refine aw_iconst (v := -1) dX5_keep_10 (by decide) ?_
    refine aw_ireturn (ty := .int) dX5_keep_11 rfl rfl ?_
    exact ⟨congrArg (fun z => some (Value.int z)) (if_neg c7).symm, congrArg (fun z => hp (z, τ)) (if_neg c7).symm⟩
set_option maxRecDepth 100000 in
set_option maxHeartbeats 1000000 in
theorem q_back {V : am_V} {d : Nat} {f : Nat → Nat → Int32} {τ : Nat → Nat → Int64}  (k : Int32) : AF V MX5_back (d + 1) [.ref 64, .int k] (f, τ) (some (.int (mr_back f k))) (ms_back f k, τ) := by
  have tM := tb_M
  have m65 := tb_65
  have m66 := tb_66
  have m67 := tb_67
  have m68 := tb_68
  have m69 := tb_69
  have m70 := tb_70
  have m71 := tb_71
  have m72 := tb_72
  have m73 := tb_73
  have m74 := tb_74
  have m75 := tb_75
  have m76 := tb_76
  refine AM.of (L := [some (.ref 64), some (.int k)]) (by decide +kernel) (Nat.le_of_ble_eq_true rfl) rfl ?_
  refine aw_iload_n (i := 1) dX5_back_0 rfl rfl ?_
  refine aw_i2l dX5_back_1 ?_
  refine aw_lconst (v := 0) dX5_back_2 (by decide) ?_
  refine aw_lconst (v := 1) dX5_back_3 (by decide) ?_
  refine ax_callS3i (M' := MX5_in) dX5_back_4 lmX5_63 oX5_in (by decide +kernel) (Nat.le_of_ble_eq_true rfl) (e_in _ 0 1) ?_
  refine aw_bne (tgt := 12) dX5_back_7 (by decide) (fun c7 => ?_) (fun c7 => ?_)
  · obtain ⟨j, hj1, rfl⟩ := rng_of (n := 1) (by omega) c7
    have hj : j < 2 := by omega
    refine aw_aload_n (i := 0) dX5_back_12 rfl rfl ?_
    refine ax_getr (ci := 5) 2 dX5_back_13 rfl lfX5_16 (by decide) (by assumption) (by rfl) ?_
    refine aw_iload_n (i := 1) dX5_back_16 rfl rfl ?_
    refine ax_zaldN dX5_back_17 m67 hj (Nat.le_of_ble_eq_true rfl) ?_
    refine aw_if_ne (tgt := 24) dX5_back_18 (by decide) (fun c18 => ?_) (fun c18 => ?_)
    · refine aw_aload_n (i := 0) dX5_back_24 rfl rfl ?_
      refine aw_iconst (v := 0) dX5_back_25 (by decide) ?_
      refine aw_bipush (v := 75) dX5_back_26 (by decide) ?_
      refine aw_iload_n (i := 1) dX5_back_28 rfl rfl ?_
      refine aw_iconst (v := 1) dX5_back_29 (by decide) ?_
      refine aw_iadd dX5_back_30 ?_
      refine aw_imul dX5_back_31 ?_
      refine aw_tE (nI (75 * (j + 1))) (by rw [nI_1, show (75 : Int32) = nI 75 from rfl, pk_mul]) ?_
      refine ax_callV2v (M' := MX5_copies) (ci := 5) dX5_back_32 lmX5_308 oX5_copies (by decide +kernel) (by assumption) rfl rfl (Nat.le_of_ble_eq_true rfl) (q_copies (a := 0) (b := 75 * (j + 1)) (by omega) (by omega) (by omega)) ?_
      refine aw_aload_n (i := 0) dX5_back_35 rfl rfl ?_
      refine ax_getr (ci := 5) 0 dX5_back_36 rfl lfX5_7 (by decide) (by assumption) (by rfl) ?_
      refine aw_bipush (v := 55) dX5_back_39 (by decide) ?_
      refine ax_ialdN (i := 55) dX5_back_41 (by assumption) (by omega) (Nat.le_of_ble_eq_true rfl) ?_
      refine aw_tE (f 65 (75 * (j + 1) + 55)) (cpR_i (f := f) (c0 := 65) (o0 := 0) (c1 := 65) (o1 := 75 * (j + 1)) (i := 75) (j := 55) (by omega)) ?_
      refine aw_ireturn (ty := .int) dX5_back_42 rfl rfl ?_
      refine ⟨congrArg (fun z => some (Value.int z)) ?_, congrArg (fun z => hp (z, τ)) ?_⟩
      · unfold mr_back
        rw [nI_clamp (show j < 2 ^ 31 by omega)]
        exact ((if_pos c7).trans (if_neg c18)).symm
      · unfold ms_back
        rw [nI_clamp (show j < 2 ^ 31 by omega)]
        exact ((if_pos c7).trans (if_neg c18)).symm
    · refine aw_bipush (v := -2) dX5_back_21 (by decide) ?_
      refine aw_ireturn (ty := .int) dX5_back_23 rfl rfl ?_
      refine ⟨congrArg (fun z => some (Value.int z)) ?_, congrArg (fun z => hp (z, τ)) ?_⟩
      · unfold mr_back
        rw [nI_clamp (show j < 2 ^ 31 by omega)]
        exact ((if_pos c7).trans (if_pos c18)).symm
      · unfold ms_back
        rw [nI_clamp (show j < 2 ^ 31 by omega)]
        exact ((if_pos c7).trans (if_pos c18)).symm
  · refine aw_iconst (v := -1) dX5_back_10 (by decide) ?_
    refine aw_ireturn (ty := .int) dX5_back_11 rfl rfl ?_
    exact ⟨congrArg (fun z => some (Value.int z)) (if_neg c7).symm, congrArg (fun z => hp (z, τ)) (if_neg c7).symm⟩
set_option maxRecDepth 100000 in
set_option maxHeartbeats 1000000 in
theorem f_X5_isSheet {V : am_V} {d : Nat} {S : fm} (k ln : Int32) : AF V MX5_isSheet (d + 1) [.int k, .int ln] S (some (.int (b2i ((0 ≤ k ∧ k ≤ 3) ∧ 0 ≤ ln ∧ ln ≤ 2)))) S := by
  refine AM.of (L := [some (.int k), some (.int ln)]) (by decide +kernel) (Nat.le_of_ble_eq_true rfl) rfl ?_
  refine aw_iload_n (i := 0) dX5_isSheet_0 rfl rfl ?_
  refine aw_i2l dX5_isSheet_1 ?_
  refine aw_lconst (v := 0) dX5_isSheet_2 (by decide) ?_
  refine aw_ldc2 dX5_isSheet_3 lkX5_234 ?_
  refine ax_callS3i (M' := MX5_in) dX5_isSheet_6 lmX5_63 oX5_in (by decide +kernel) (Nat.le_of_ble_eq_true rfl) (e_in _ 0 3) ?_
  refine aw_beq (tgt := 28) dX5_isSheet_9 (by decide) (fun c9 => ?_) (fun c9 => ?_)
  · refine aw_iconst (v := 0) dX5_isSheet_28 (by decide) ?_
    refine aw_ireturn (ty := .boolean) dX5_isSheet_29 rfl (by decide) ?_
    first | exact ⟨congrArg (fun z => some (Value.int z)) (b2i_t ⟨c9, c21⟩).symm, rfl⟩ | exact ⟨congrArg (fun z => some (Value.int z)) (b2i_f (fun z => c21 z.2)).symm, rfl⟩ | exact ⟨congrArg (fun z => some (Value.int z)) (b2i_f (fun z => c9 z.1)).symm, rfl⟩
  · refine aw_iload_n (i := 1) dX5_isSheet_12 rfl rfl ?_
    refine aw_i2l dX5_isSheet_13 ?_
    refine aw_lconst (v := 0) dX5_isSheet_14 (by decide) ?_
    refine aw_ldc2 dX5_isSheet_15 lkX5_198 ?_
    refine ax_callS3i (M' := MX5_in) dX5_isSheet_18 lmX5_63 oX5_in (by decide +kernel) (Nat.le_of_ble_eq_true rfl) (e_in _ 0 2) ?_
    refine aw_beq (tgt := 28) dX5_isSheet_21 (by decide) (fun c21 => ?_) (fun c21 => ?_)
    · refine aw_iconst (v := 0) dX5_isSheet_28 (by decide) ?_
      refine aw_ireturn (ty := .boolean) dX5_isSheet_29 rfl (by decide) ?_
      first | exact ⟨congrArg (fun z => some (Value.int z)) (b2i_t ⟨c9, c21⟩).symm, rfl⟩ | exact ⟨congrArg (fun z => some (Value.int z)) (b2i_f (fun z => c21 z.2)).symm, rfl⟩ | exact ⟨congrArg (fun z => some (Value.int z)) (b2i_f (fun z => c9 z.1)).symm, rfl⟩
    · refine aw_iconst (v := 1) dX5_isSheet_24 (by decide) ?_
      refine aw_goto (tgt := 29) dX5_isSheet_25 (by decide) ?_
      refine aw_ireturn (ty := .boolean) dX5_isSheet_29 rfl (by decide) ?_
      first | exact ⟨congrArg (fun z => some (Value.int z)) (b2i_t ⟨c9, c21⟩).symm, rfl⟩ | exact ⟨congrArg (fun z => some (Value.int z)) (b2i_f (fun z => c21 z.2)).symm, rfl⟩ | exact ⟨congrArg (fun z => some (Value.int z)) (b2i_f (fun z => c9 z.1)).symm, rfl⟩
def mr_sheet (k ln n : Int32) : Int32 := if (0 ≤ k ∧ k ≤ 3) ∧ 0 ≤ ln ∧ ln ≤ 2 then (if n ≤ 40 then (if 0 ≤ n then 1 else -14) else -1) else -1
def zrQ (f : Nat → Nat → Int32) (o i : Nat) : Nat → Nat → Int32 := fun c j => if c = 75 ∧ o ≤ j ∧ j < o + i then 0 else f c j
def ms_sheet (f : Nat → Nat → Int32) (k ln n : Int32) : Nat → Nat → Int32 := if (0 ≤ k ∧ k ≤ 3) ∧ 0 ≤ ln ∧ ln ≤ 2 then (if n ≤ 40 then (if 0 ≤ n then zrQ (up2 (up2 f 73 k.toNatClampNeg ln) 74 k.toNatClampNeg n) (40 * k.toNatClampNeg) 40 else f) else f) else f
theorem zrQ_0 (f : Nat → Nat → Int32) (o : Nat) : zrQ f o 0 = f := by
  funext c j
  unfold zrQ
  rw [if_neg (by omega)]
theorem zrQ_s (f : Nat → Nat → Int32) (o i : Nat) : up2 (zrQ f o i) 75 (o + i) 0 = zrQ f o (i + 1) := by
  funext c j
  by_cases q : c = 75 ∧ j = o + i
  · obtain ⟨rfl, rfl⟩ := q
    rw [up2_self]
    unfold zrQ
    rw [if_pos (by omega)]
  · rw [up2_ne q]
    unfold zrQ
    by_cases q2 : c = 75 ∧ o ≤ j ∧ j < o + i
    · rw [if_pos q2, if_pos (by omega)]
    · rw [if_neg q2, if_neg (by omega)]
set_option maxRecDepth 100000 in
set_option maxHeartbeats 1000000 in
theorem q_sheet {V : am_V} {d : Nat} {f : Nat → Nat → Int32} {τ : Nat → Nat → Int64} (k ln n : Int32) : AF V MX5_sheet (d + 2) [.ref 64, .int k, .int ln, .int n] (f, τ) (some (.int (mr_sheet k ln n))) (ms_sheet f k ln n, τ) := by
  have tM := tb_M
  have m65 := tb_65
  have m66 := tb_66
  have m67 := tb_67
  have m68 := tb_68
  have m69 := tb_69
  have m70 := tb_70
  have m71 := tb_71
  have m72 := tb_72
  have m73 := tb_73
  have m74 := tb_74
  have m75 := tb_75
  have m76 := tb_76
  refine AM.of (L := [some (.ref 64), some (.int k), some (.int ln), some (.int n), none]) (by decide +kernel) (Nat.le_of_ble_eq_true rfl) rfl ?_
  have loop : ∀ (m i j : Nat) (g : Nat → Nat → Int32), j < 4 → i ≤ 40 → 40 - i < m → AW V MX5_sheet (d + 2) 0 0 40 [some (.ref 64), some (.int (nI j)), some (.int ln), some (.int n), some (.int (nI i))] [] (hp (zrQ g (40 * j) i, τ)) (fun r' h' => r' = some (.int 1) ∧ h' = hp (zrQ g (40 * j) 40, τ)) := by
    intro m
    induction m with
    | zero => intro i j g hj h1 h2; omega
    | succ m ih =>
      intro i j g hj h1 h2
      refine aw_iload dX5_sheet_40 rfl ?_
      refine aw_bipush (v := 40) dX5_sheet_42 (by decide) ?_
      refine aw_tE (nI 40) rfl ?_
      refine aw_icmp_ge (tgt := 66) dX5_sheet_44 (by decide) (fun c44 => ?_) (fun c44 => ?_)
      · refine aw_iconst (v := 1) dX5_sheet_66 (by decide) ?_
        refine aw_ireturn (ty := .int) dX5_sheet_67 rfl rfl ?_
        have hip : i = 40 := by have := (nI_leI (a := 40) (b := i) (by omega) (by omega)).mp c44; omega
        subst hip
        exact ⟨rfl, rfl⟩
      · have hi : i < 40 := Nat.not_le.mp (fun z => c44 (nI_le z (by omega)))
        refine aw_aload_n (i := 0) dX5_sheet_47 rfl rfl ?_
        refine ax_getr (ci := 5) 26 dX5_sheet_48 rfl lfX5_41 (by decide) (by assumption) (by rfl) ?_
        refine aw_bipush (v := 40) dX5_sheet_51 (by decide) ?_
        refine aw_iload_n (i := 1) dX5_sheet_53 rfl rfl ?_
        refine aw_imul dX5_sheet_54 ?_
        refine aw_iload dX5_sheet_55 rfl ?_
        refine aw_iadd dX5_sheet_57 ?_
        refine aw_tE (nI (40 * j + i)) (by rw [show (40 : Int32) = nI 40 from rfl, pk_mul, nI_add]) ?_
        refine aw_iconst (v := 0) dX5_sheet_58 (by decide) ?_
        refine ax_iastN dX5_sheet_59 (by assumption) (by omega) (Nat.le_of_ble_eq_true rfl) ?_
        refine aw_incN (L' := [_, _, _, _, _]) dX5_sheet_60 rfl (Nat.le_of_ble_eq_true rfl) rfl rfl ?_
        refine aw_goto (tgt := 40) dX5_sheet_63 (by decide) ?_
        have e := ih (i + 1) j g hj hi (by omega)
        rw [← zrQ_s] at e
        exact e
  refine aw_iload_n (i := 1) dX5_sheet_0 rfl rfl ?_
  refine aw_iload_n (i := 2) dX5_sheet_1 rfl rfl ?_
  refine ax_callS2i (M' := MX5_isSheet) dX5_sheet_2 lmX5_311 oX5_isSheet (by decide +kernel) (Nat.le_of_ble_eq_true rfl) (f_X5_isSheet _ _) ?_
  refine aw_beq (tgt := 14) dX5_sheet_5 (by decide) (fun c5 => ?_) (fun c5 => ?_)
  · refine aw_iconst (v := -1) dX5_sheet_14 (by decide) ?_
    refine aw_ireturn (ty := .int) dX5_sheet_15 rfl rfl ?_
    exact ⟨congrArg (fun z => some (Value.int z)) (if_neg c5).symm, congrArg (fun z => hp (z, τ)) (if_neg c5).symm⟩
  · refine aw_iload_n (i := 3) dX5_sheet_8 rfl rfl ?_
    refine aw_bipush (v := 40) dX5_sheet_9 (by decide) ?_
    refine aw_icmp_le (tgt := 16) dX5_sheet_11 (by decide) (fun c11 => ?_) (fun c11 => ?_)
    · refine aw_iload_n (i := 3) dX5_sheet_16 rfl rfl ?_
      refine aw_if_ge (tgt := 23) dX5_sheet_17 (by decide) (fun c17 => ?_) (fun c17 => ?_)
      · obtain ⟨j, hj3, rfl⟩ := rng_of (n := 3) (by omega) c5.1
        have hj : j < 4 := by omega
        refine aw_aload_n (i := 0) dX5_sheet_23 rfl rfl ?_
        refine ax_getr (ci := 5) 24 dX5_sheet_24 rfl lfX5_35 (by decide) (by assumption) (by rfl) ?_
        refine aw_iload_n (i := 1) dX5_sheet_27 rfl rfl ?_
        refine aw_iload_n (i := 2) dX5_sheet_28 rfl rfl ?_
        refine ax_iastN dX5_sheet_29 (by assumption) (by omega) (Nat.le_of_ble_eq_true rfl) ?_
        refine aw_aload_n (i := 0) dX5_sheet_30 rfl rfl ?_
        refine ax_getr (ci := 5) 25 dX5_sheet_31 rfl lfX5_38 (by decide) (by assumption) (by rfl) ?_
        refine aw_iload_n (i := 1) dX5_sheet_34 rfl rfl ?_
        refine aw_iload_n (i := 3) dX5_sheet_35 rfl rfl ?_
        refine ax_iastN dX5_sheet_36 (by assumption) (by omega) (Nat.le_of_ble_eq_true rfl) ?_
        refine aw_iconst (v := 0) dX5_sheet_37 (by decide) ?_
        refine aw_istore (i := 4) (L' := [_, _, _, _, _]) dX5_sheet_38 (Nat.le_of_ble_eq_true rfl) rfl rfl ?_
        have e := loop 41 0 j (up2 (up2 f 73 j ln) 74 j n) hj (by omega) (by omega)
        rw [zrQ_0] at e
        rw [show mr_sheet (nI j) ln n = 1 from ((if_pos c5).trans ((if_pos c11).trans (if_pos c17))), show ms_sheet f (nI j) ln n = zrQ (up2 (up2 f 73 j ln) 74 j n) (40 * j) 40 by unfold ms_sheet; rw [nI_clamp (show j < 2 ^ 31 by omega)]; exact ((if_pos c5).trans ((if_pos c11).trans (if_pos c17)))]
        exact e
      · refine aw_bipush (v := -14) dX5_sheet_20 (by decide) ?_
        refine aw_ireturn (ty := .int) dX5_sheet_22 rfl rfl ?_
        exact ⟨congrArg (fun z => some (Value.int z)) ((if_pos c5).trans ((if_pos c11).trans (if_neg c17))).symm, congrArg (fun z => hp (z, τ)) ((if_pos c5).trans ((if_pos c11).trans (if_neg c17))).symm⟩
    · refine aw_iconst (v := -1) dX5_sheet_14 (by decide) ?_
      refine aw_ireturn (ty := .int) dX5_sheet_15 rfl rfl ?_
      exact ⟨congrArg (fun z => some (Value.int z)) ((if_pos c5).trans (if_neg c11)).symm, congrArg (fun z => hp (z, τ)) ((if_pos c5).trans (if_neg c11)).symm⟩
def mr_lay (f : Nat → Nat → Int32) (k i : Int32) : Int32 := if (0 ≤ k ∧ k ≤ 3) ∧ 0 ≤ (0 : Int32) ∧ (0 : Int32) ≤ 2 then (if f 73 k.toNatClampNeg = -4 then -11 else if 0 ≤ i ∧ i ≤ f 74 k.toNatClampNeg - 1 then 1 else -12) else -1
def layV (ln v : Int32) : Int32 := if ln = 0 then v.toInt8.toInt32 else if ln = 1 then v.toInt16.toInt32 else v
def ms_lay (f : Nat → Nat → Int32) (k i v : Int32) : Nat → Nat → Int32 := if (0 ≤ k ∧ k ≤ 3) ∧ 0 ≤ (0 : Int32) ∧ (0 : Int32) ≤ 2 then (if f 73 k.toNatClampNeg = -4 then f else if 0 ≤ i ∧ i ≤ f 74 k.toNatClampNeg - 1 then up2 f 75 (40 * k.toNatClampNeg + i.toNatClampNeg) (layV (f 73 k.toNatClampNeg) v) else f) else f
set_option maxRecDepth 100000 in
set_option maxHeartbeats 1000000 in
theorem q_lay {V : am_V} {d : Nat} {f : Nat → Nat → Int32} {τ : Nat → Nat → Int64} (h74 : ∀ j, j < 4 → ∃ z, z ≤ 40 ∧ f 74 j = nI z) (k i v : Int32) : AF V MX5_lay (d + 2) [.ref 64, .int k, .int i, .int v] (f, τ) (some (.int (mr_lay f k i))) (ms_lay f k i v, τ) := by
  have tM := tb_M
  have m65 := tb_65
  have m66 := tb_66
  have m67 := tb_67
  have m68 := tb_68
  have m69 := tb_69
  have m70 := tb_70
  have m71 := tb_71
  have m72 := tb_72
  have m73 := tb_73
  have m74 := tb_74
  have m75 := tb_75
  have m76 := tb_76
  refine AM.of (L := [some (.ref 64), some (.int k), some (.int i), some (.int v)]) (by decide +kernel) (Nat.le_of_ble_eq_true rfl) rfl ?_
  refine aw_iload_n (i := 1) dX5_lay_0 rfl rfl ?_
  refine aw_iconst (v := 0) dX5_lay_1 (by decide) ?_
  refine ax_callS2i (M' := MX5_isSheet) dX5_lay_2 lmX5_311 oX5_isSheet (by decide +kernel) (Nat.le_of_ble_eq_true rfl) (f_X5_isSheet _ _) ?_
  refine aw_bne (tgt := 10) dX5_lay_5 (by decide) (fun c5 => ?_) (fun c5 => ?_)
  · obtain ⟨j, hj3, rfl⟩ := rng_of (n := 3) (by omega) c5.1
    have hj : j < 4 := by omega
    obtain ⟨z, hz, ez⟩ := h74 j hj
    refine aw_aload_n (i := 0) dX5_lay_10 rfl rfl ?_
    refine ax_getr (ci := 5) 24 dX5_lay_11 rfl lfX5_35 (by decide) (by assumption) (by rfl) ?_
    refine aw_iload_n (i := 1) dX5_lay_14 rfl rfl ?_
    refine ax_ialdN dX5_lay_15 (by assumption) (by omega) (Nat.le_of_ble_eq_true rfl) ?_
    refine aw_bipush (v := -4) dX5_lay_16 (by decide) ?_
    refine aw_icmp_ne (tgt := 24) dX5_lay_18 (by decide) (fun c18 => ?_) (fun c18 => ?_)
    · refine aw_iload_n (i := 2) dX5_lay_24 rfl rfl ?_
      refine aw_i2l dX5_lay_25 ?_
      refine aw_lconst (v := 0) dX5_lay_26 (by decide) ?_
      refine aw_aload_n (i := 0) dX5_lay_27 rfl rfl ?_
      refine ax_getr (ci := 5) 25 dX5_lay_28 rfl lfX5_38 (by decide) (by assumption) (by rfl) ?_
      refine aw_iload_n (i := 1) dX5_lay_31 rfl rfl ?_
      refine ax_ialdN dX5_lay_32 (by assumption) (by omega) (Nat.le_of_ble_eq_true rfl) ?_
      refine aw_iconst (v := 1) dX5_lay_33 (by decide) ?_
      refine aw_isub dX5_lay_34 ?_
      refine aw_i2l dX5_lay_35 ?_
      refine ax_callS3i (M' := MX5_in) dX5_lay_36 lmX5_63 oX5_in (by decide +kernel) (Nat.le_of_ble_eq_true rfl) (e_in _ 0 _) ?_
      refine aw_bne (tgt := 45) dX5_lay_39 (by decide) (fun c39 => ?_) (fun c39 => ?_)
      · obtain ⟨u, hu, rfl⟩ := key_in (n := z) (by omega) (by rw [← ez]; exact c39)
        refine aw_aload_n (i := 0) dX5_lay_45 rfl rfl ?_
        refine ax_getr (ci := 5) 26 dX5_lay_46 rfl lfX5_41 (by decide) (by assumption) (by rfl) ?_
        refine aw_bipush (v := 40) dX5_lay_49 (by decide) ?_
        refine aw_iload_n (i := 1) dX5_lay_51 rfl rfl ?_
        refine aw_imul dX5_lay_52 ?_
        refine aw_iload_n (i := 2) dX5_lay_53 rfl rfl ?_
        refine aw_iadd dX5_lay_54 ?_
        refine aw_tE (nI (40 * j + u)) (by rw [show (40 : Int32) = nI 40 from rfl, pk_mul, nI_add]) ?_
        refine aw_aload_n (i := 0) dX5_lay_55 rfl rfl ?_
        refine ax_getr (ci := 5) 24 dX5_lay_56 rfl lfX5_35 (by decide) (by assumption) (by rfl) ?_
        refine aw_iload_n (i := 1) dX5_lay_59 rfl rfl ?_
        refine ax_ialdN dX5_lay_60 (by assumption) (by omega) (Nat.le_of_ble_eq_true rfl) ?_
        refine aw_if_ne (tgt := 69) dX5_lay_61 (by decide) (fun c61 => ?_) (fun c61 => ?_)
        · refine aw_aload_n (i := 0) dX5_lay_69 rfl rfl ?_
          refine ax_getr (ci := 5) 24 dX5_lay_70 rfl lfX5_35 (by decide) (by assumption) (by rfl) ?_
          refine aw_iload_n (i := 1) dX5_lay_73 rfl rfl ?_
          refine ax_ialdN dX5_lay_74 (by assumption) (by omega) (Nat.le_of_ble_eq_true rfl) ?_
          refine aw_iconst (v := 1) dX5_lay_75 (by decide) ?_
          refine aw_icmp_ne (tgt := 84) dX5_lay_76 (by decide) (fun c76 => ?_) (fun c76 => ?_)
          · refine aw_iload_n (i := 3) dX5_lay_84 rfl rfl ?_
            first | refine aw_tE (layV (f 73 j) v) (if_pos c61).symm ?_ | refine aw_tE (layV (f 73 j) v) ((if_neg c61).trans (if_pos c76)).symm ?_ | refine aw_tE (layV (f 73 j) v) ((if_neg c61).trans (if_neg c76)).symm ?_
            refine ax_iastN dX5_lay_85 (by assumption) (by omega) (Nat.le_of_ble_eq_true rfl) ?_
            refine aw_iconst (v := 1) dX5_lay_86 (by decide) ?_
            refine aw_ireturn (ty := .int) dX5_lay_87 rfl rfl ?_
            refine ⟨congrArg (fun z => some (Value.int z)) ?_, congrArg (fun z => hp (z, τ)) ?_⟩
            · unfold mr_lay
              rw [nI_clamp (show j < 2 ^ 31 by omega)]
              exact ((if_pos c5).trans ((if_neg c18).trans (if_pos c39))).symm
            · unfold ms_lay
              rw [nI_clamp (show j < 2 ^ 31 by omega), nI_clamp (show u < 2 ^ 31 by omega)]
              exact ((if_pos c5).trans ((if_neg c18).trans (if_pos c39))).symm
          · refine aw_iload_n (i := 3) dX5_lay_79 rfl rfl ?_
            refine aw_i2s dX5_lay_80 ?_
            refine aw_goto (tgt := 85) dX5_lay_81 (by decide) ?_
            first | refine aw_tE (layV (f 73 j) v) (if_pos c61).symm ?_ | refine aw_tE (layV (f 73 j) v) ((if_neg c61).trans (if_pos c76)).symm ?_ | refine aw_tE (layV (f 73 j) v) ((if_neg c61).trans (if_neg c76)).symm ?_
            refine ax_iastN dX5_lay_85 (by assumption) (by omega) (Nat.le_of_ble_eq_true rfl) ?_
            refine aw_iconst (v := 1) dX5_lay_86 (by decide) ?_
            refine aw_ireturn (ty := .int) dX5_lay_87 rfl rfl ?_
            refine ⟨congrArg (fun z => some (Value.int z)) ?_, congrArg (fun z => hp (z, τ)) ?_⟩
            · unfold mr_lay
              rw [nI_clamp (show j < 2 ^ 31 by omega)]
              exact ((if_pos c5).trans ((if_neg c18).trans (if_pos c39))).symm
            · unfold ms_lay
              rw [nI_clamp (show j < 2 ^ 31 by omega), nI_clamp (show u < 2 ^ 31 by omega)]
              exact ((if_pos c5).trans ((if_neg c18).trans (if_pos c39))).symm
        · refine aw_iload_n (i := 3) dX5_lay_64 rfl rfl ?_
          refine aw_i2b dX5_lay_65 ?_
          refine aw_goto (tgt := 85) dX5_lay_66 (by decide) ?_
          first | refine aw_tE (layV (f 73 j) v) (if_pos c61).symm ?_ | refine aw_tE (layV (f 73 j) v) ((if_neg c61).trans (if_pos c76)).symm ?_ | refine aw_tE (layV (f 73 j) v) ((if_neg c61).trans (if_neg c76)).symm ?_
          refine ax_iastN dX5_lay_85 (by assumption) (by omega) (Nat.le_of_ble_eq_true rfl) ?_
          refine aw_iconst (v := 1) dX5_lay_86 (by decide) ?_
          refine aw_ireturn (ty := .int) dX5_lay_87 rfl rfl ?_
          refine ⟨congrArg (fun z => some (Value.int z)) ?_, congrArg (fun z => hp (z, τ)) ?_⟩
          · unfold mr_lay
            rw [nI_clamp (show j < 2 ^ 31 by omega)]
            exact ((if_pos c5).trans ((if_neg c18).trans (if_pos c39))).symm
          · unfold ms_lay
            rw [nI_clamp (show j < 2 ^ 31 by omega), nI_clamp (show u < 2 ^ 31 by omega)]
            exact ((if_pos c5).trans ((if_neg c18).trans (if_pos c39))).symm
      · refine aw_bipush (v := -12) dX5_lay_42 (by decide) ?_
        refine aw_ireturn (ty := .int) dX5_lay_44 rfl rfl ?_
        refine ⟨congrArg (fun z => some (Value.int z)) ?_, congrArg (fun z => hp (z, τ)) ?_⟩
        · unfold mr_lay
          rw [nI_clamp (show j < 2 ^ 31 by omega)]
          exact ((if_pos c5).trans ((if_neg c18).trans (if_neg c39))).symm
        · unfold ms_lay
          rw [nI_clamp (show j < 2 ^ 31 by omega)]
          exact ((if_pos c5).trans ((if_neg c18).trans (if_neg c39))).symm
    · refine aw_bipush (v := -11) dX5_lay_21 (by decide) ?_
      refine aw_ireturn (ty := .int) dX5_lay_23 rfl rfl ?_
      refine ⟨congrArg (fun z => some (Value.int z)) ?_, congrArg (fun z => hp (z, τ)) ?_⟩
      · unfold mr_lay
        rw [nI_clamp (show j < 2 ^ 31 by omega)]
        exact ((if_pos c5).trans (if_pos c18)).symm
      · unfold ms_lay
        rw [nI_clamp (show j < 2 ^ 31 by omega)]
        exact ((if_pos c5).trans (if_pos c18)).symm
  · refine aw_iconst (v := -1) dX5_lay_8 (by decide) ?_
    refine aw_ireturn (ty := .int) dX5_lay_9 rfl rfl ?_
    exact ⟨congrArg (fun z => some (Value.int z)) (if_neg c5).symm, congrArg (fun z => hp (z, τ)) (if_neg c5).symm⟩
