theorem tb_M : am_tab[64]? = some (.inl (5, [67, 68, 69, 70, 0, 0, 71, 0, 0, 0, 0, 0, 0, 0, 72, 0, 0, 0, 0, 1, 1, 1, 73, 74, 75, 76, 77, 0, 78])) := rfl
theorem tb_65 : am_tab[65]? = some (.inr (.inl (0, 225))) := rfl
theorem tb_66 : am_tab[66]? = some (.inr (.inl (0, 75))) := rfl
theorem tb_67 : am_tab[67]? = some (.inr (.inl (2, 2))) := rfl
theorem tb_68 : am_tab[68]? = some (.inr (.inl (0, 75))) := rfl
theorem tb_69 : am_tab[69]? = some (.inr (.inl (0, 160))) := rfl
theorem tb_70 : am_tab[70]? = some (.inr (.inl (0, 4))) := rfl
theorem tb_71 : am_tab[71]? = some (.inr (.inl (0, 41))) := rfl
theorem tb_72 : am_tab[72]? = some (.inr (.inl (0, 41))) := rfl
theorem tb_73 : am_tab[73]? = some (.inr (.inl (0, 4))) := rfl
theorem tb_74 : am_tab[74]? = some (.inr (.inl (0, 4))) := rfl
theorem tb_75 : am_tab[75]? = some (.inr (.inl (0, 160))) := rfl
theorem tb_76 : am_tab[76]? = some (.inr (.inl (0, 75))) := rfl
theorem i2l_le (x y : Int32) : x.toInt64 ≤ y.toInt64 ↔ x ≤ y := by
  rw [Int64.le_iff_toInt_le, Int32.le_iff_toInt_le, Int32.toInt_toInt64, Int32.toInt_toInt64]
def clampI (v most : Int32) : Int32 := if 0 ≤ v then (if v ≤ most then v else most) else 0
set_option maxRecDepth 100000 in
set_option maxHeartbeats 1000000 in
theorem f_X5_in {V : am_V} {d : Nat} {S : fm} (a b c : Int64) : AF V MX5_in d [.long a, .long b, .long c] S (some (.int (b2i (b ≤ a ∧ a ≤ c)))) S := by
  refine AM.of (L := [some (.long a), none, some (.long b), none, some (.long c), none]) (by decide +kernel) (Nat.le_of_ble_eq_true rfl) rfl ?_
  refine aw_lload_n (i := 0) dX5_in_0 rfl rfl ?_
  refine aw_lload_n (i := 2) dX5_in_1 rfl rfl ?_
  refine aw_lcmp dX5_in_2 ?_
  refine aw_if_lt (tgt := 17) dX5_in_3 (by decide) (fun c3 => ?_) (fun c3 => ?_)
  · refine aw_iconst (v := 0) dX5_in_17 (by decide) ?_
    refine aw_ireturn (ty := .boolean) dX5_in_18 rfl (by decide) ?_
    first | exact ⟨congrArg (fun z => some (Value.int z)) (b2i_t ⟨Int64.not_lt.mp (fun q => c3 ((lg_cmp_lt _ _).mpr q)), Int64.not_lt.mp (fun q => c10 ((lg_cmp_gt _ _).mpr q))⟩).symm, rfl⟩ | exact ⟨congrArg (fun z => some (Value.int z)) (b2i_f (fun z => absurd ((lg_cmp_gt _ _).mp c10) (Int64.not_lt.mpr z.2))).symm, rfl⟩ | exact ⟨congrArg (fun z => some (Value.int z)) (b2i_f (fun z => absurd ((lg_cmp_lt _ _).mp c3) (Int64.not_lt.mpr z.1))).symm, rfl⟩
  · refine aw_lload_n (i := 0) dX5_in_6 rfl rfl ?_
    refine aw_lload dX5_in_7 rfl ?_
    refine aw_lcmp dX5_in_9 ?_
    refine aw_if_gt (tgt := 17) dX5_in_10 (by decide) (fun c10 => ?_) (fun c10 => ?_)
    · refine aw_iconst (v := 0) dX5_in_17 (by decide) ?_
      refine aw_ireturn (ty := .boolean) dX5_in_18 rfl (by decide) ?_
      first | exact ⟨congrArg (fun z => some (Value.int z)) (b2i_t ⟨Int64.not_lt.mp (fun q => c3 ((lg_cmp_lt _ _).mpr q)), Int64.not_lt.mp (fun q => c10 ((lg_cmp_gt _ _).mpr q))⟩).symm, rfl⟩ | exact ⟨congrArg (fun z => some (Value.int z)) (b2i_f (fun z => absurd ((lg_cmp_gt _ _).mp c10) (Int64.not_lt.mpr z.2))).symm, rfl⟩ | exact ⟨congrArg (fun z => some (Value.int z)) (b2i_f (fun z => absurd ((lg_cmp_lt _ _).mp c3) (Int64.not_lt.mpr z.1))).symm, rfl⟩
    · refine aw_iconst (v := 1) dX5_in_13 (by decide) ?_
      refine aw_goto (tgt := 18) dX5_in_14 (by decide) ?_
      refine aw_ireturn (ty := .boolean) dX5_in_18 rfl (by decide) ?_
      first | exact ⟨congrArg (fun z => some (Value.int z)) (b2i_t ⟨Int64.not_lt.mp (fun q => c3 ((lg_cmp_lt _ _).mpr q)), Int64.not_lt.mp (fun q => c10 ((lg_cmp_gt _ _).mpr q))⟩).symm, rfl⟩ | exact ⟨congrArg (fun z => some (Value.int z)) (b2i_f (fun z => absurd ((lg_cmp_gt _ _).mp c10) (Int64.not_lt.mpr z.2))).symm, rfl⟩ | exact ⟨congrArg (fun z => some (Value.int z)) (b2i_f (fun z => absurd ((lg_cmp_lt _ _).mp c3) (Int64.not_lt.mpr z.1))).symm, rfl⟩
theorem e_in {V : am_V} {d : Nat} {S : fm} (v lo hi : Int32) : AF V MX5_in d [.long v.toInt64, .long lo.toInt64, .long hi.toInt64] S (some (.int (b2i (lo ≤ v ∧ v ≤ hi)))) S := by
  have e := f_X5_in (V := V) (d := d) (S := S) v.toInt64 lo.toInt64 hi.toInt64
  rw [b2i_congr (show (lo.toInt64 ≤ v.toInt64 ∧ v.toInt64 ≤ hi.toInt64) ↔ (lo ≤ v ∧ v ≤ hi) by rw [i2l_le, i2l_le])] at e
  exact e
set_option maxRecDepth 100000 in
set_option maxHeartbeats 1000000 in
theorem f_X5_flag {V : am_V} {d : Nat} {S : fm} (P : Prop) [Decidable P] : AF V MX5_flag d [.int (b2i P)] S (some (.int (b2i P))) S := by
  refine AM.of (L := [some (.int (b2i P))]) (by decide +kernel) (Nat.le_of_ble_eq_true rfl) rfl ?_
  refine aw_iload_n (i := 0) dX5_flag_0 rfl rfl ?_
  refine aw_beq (tgt := 8) dX5_flag_1 (by decide) (fun c1 => ?_) (fun c1 => ?_)
  · refine aw_iconst (v := 0) dX5_flag_8 (by decide) ?_
    refine aw_ireturn (ty := .int) dX5_flag_9 rfl rfl ?_
    exact ⟨congrArg (fun z => some (Value.int z)) (b2i_f c1).symm, rfl⟩
  · refine aw_iconst (v := 1) dX5_flag_4 (by decide) ?_
    refine aw_goto (tgt := 9) dX5_flag_5 (by decide) ?_
    refine aw_ireturn (ty := .int) dX5_flag_9 rfl rfl ?_
    exact ⟨congrArg (fun z => some (Value.int z)) (b2i_t c1).symm, rfl⟩
set_option maxRecDepth 100000 in
set_option maxHeartbeats 1000000 in
theorem f_X5_within {V : am_V} {d : Nat} {S : fm} (v most : Int32) : AF V MX5_within d [.int v, .int most] S (some (.int (clampI v most))) S := by
  refine AM.of (L := [some (.int v), some (.int most)]) (by decide +kernel) (Nat.le_of_ble_eq_true rfl) rfl ?_
  refine aw_iload_n (i := 0) dX5_within_0 rfl rfl ?_
  refine aw_if_ge (tgt := 8) dX5_within_1 (by decide) (fun c1 => ?_) (fun c1 => ?_)
  · refine aw_iload_n (i := 0) dX5_within_8 rfl rfl ?_
    refine aw_iload_n (i := 1) dX5_within_9 rfl rfl ?_
    refine aw_icmp_le (tgt := 17) dX5_within_10 (by decide) (fun c10 => ?_) (fun c10 => ?_)
    · refine aw_iload_n (i := 0) dX5_within_17 rfl rfl ?_
      refine aw_ireturn (ty := .int) dX5_within_18 rfl rfl ?_
      exact ⟨congrArg (fun z => some (Value.int z)) ((if_pos c1).trans (if_pos c10)).symm, rfl⟩
    · refine aw_iload_n (i := 1) dX5_within_13 rfl rfl ?_
      refine aw_goto (tgt := 18) dX5_within_14 (by decide) ?_
      refine aw_ireturn (ty := .int) dX5_within_18 rfl rfl ?_
      exact ⟨congrArg (fun z => some (Value.int z)) ((if_pos c1).trans (if_neg c10)).symm, rfl⟩
  · refine aw_iconst (v := 0) dX5_within_4 (by decide) ?_
    refine aw_goto (tgt := 18) dX5_within_5 (by decide) ?_
    refine aw_ireturn (ty := .int) dX5_within_18 rfl rfl ?_
    exact ⟨congrArg (fun z => some (Value.int z)) (if_neg c1).symm, rfl⟩
set_option maxRecDepth 100000 in
set_option maxHeartbeats 1000000 in
theorem f_X5_isKey {V : am_V} {d : Nat} {f : Nat → Nat → Int32} {τ : Nat → Nat → Int64} (k : Int32) : AF V MX5_isKey (d + 1) [.ref 64, .int k] (f, τ) (some (.int (b2i (0 ≤ k ∧ k ≤ f 65 28 - 1)))) (f, τ) := by
  have tM := tb_M
  have m65 := tb_65
  have m66 := tb_66
  have m67 := tb_67
  have m68 := tb_68
  have m69 := tb_69
  have m70 := tb_70
  have m71 := tb_71
  have m72 := tb_72
  have m73 := tb_73
  have m74 := tb_74
  have m75 := tb_75
  have m76 := tb_76
  refine AM.of (L := [some (.ref 64), some (.int k)]) (by decide +kernel) (Nat.le_of_ble_eq_true rfl) rfl ?_
  refine aw_iload_n (i := 1) dX5_isKey_0 rfl rfl ?_
  refine aw_i2l dX5_isKey_1 ?_
  refine aw_lconst (v := 0) dX5_isKey_2 (by decide) ?_
  refine aw_aload_n (i := 0) dX5_isKey_3 rfl rfl ?_
  refine ax_getr (ci := 5) 0 dX5_isKey_4 rfl lfX5_7 (by decide) (by assumption) (by rfl) ?_
  refine aw_bipush (v := 28) dX5_isKey_7 (by decide) ?_
  refine ax_ialdN (i := 28) dX5_isKey_9 (by assumption) (by omega) (Nat.le_of_ble_eq_true rfl) ?_
  refine aw_iconst (v := 1) dX5_isKey_10 (by decide) ?_
  refine aw_isub dX5_isKey_11 ?_
  refine aw_i2l dX5_isKey_12 ?_
  refine ax_callS3i (M' := MX5_in) dX5_isKey_13 lmX5_63 oX5_in (by decide +kernel) (Nat.le_of_ble_eq_true rfl) (e_in _ 0 _) ?_
  refine aw_ireturn (ty := .boolean) dX5_isKey_16 rfl (b2i_z _) ?_
  exact ⟨rfl, rfl⟩
set_option maxRecDepth 100000 in
set_option maxHeartbeats 1000000 in
theorem f_X5_isPart {V : am_V} {d : Nat} {S : fm} (k : Int32) : AF V MX5_isPart (d + 1) [.int k] S (some (.int (b2i (0 ≤ k ∧ k ≤ 1)))) S := by
  refine AM.of (L := [some (.int k)]) (by decide +kernel) (Nat.le_of_ble_eq_true rfl) rfl ?_
  refine aw_iload_n (i := 0) dX5_isPart_0 rfl rfl ?_
  refine aw_i2l dX5_isPart_1 ?_
  refine aw_lconst (v := 0) dX5_isPart_2 (by decide) ?_
  refine aw_lconst (v := 1) dX5_isPart_3 (by decide) ?_
  refine ax_callS3i (M' := MX5_in) dX5_isPart_4 lmX5_63 oX5_in (by decide +kernel) (Nat.le_of_ble_eq_true rfl) (e_in _ 0 1) ?_
  refine aw_ireturn (ty := .boolean) dX5_isPart_7 rfl (b2i_z _) ?_
  exact ⟨rfl, rfl⟩
set_option maxRecDepth 100000 in
set_option maxHeartbeats 1000000 in
theorem f_X5_isFar {V : am_V} {d : Nat} {S : fm} (k : Int32) : AF V MX5_isFar (d + 1) [.int k] S (some (.int (b2i (0 ≤ k ∧ k ≤ 200)))) S := by
  refine AM.of (L := [some (.int k)]) (by decide +kernel) (Nat.le_of_ble_eq_true rfl) rfl ?_
  refine aw_iload_n (i := 0) dX5_isFar_0 rfl rfl ?_
  refine aw_i2l dX5_isFar_1 ?_
  refine aw_lconst (v := 0) dX5_isFar_2 (by decide) ?_
  refine aw_ldc2 dX5_isFar_3 lkX5_229 ?_
  refine ax_callS3i (M' := MX5_in) dX5_isFar_6 lmX5_63 oX5_in (by decide +kernel) (Nat.le_of_ble_eq_true rfl) (e_in _ 0 200) ?_
  refine aw_ireturn (ty := .boolean) dX5_isFar_9 rfl (b2i_z _) ?_
  exact ⟨rfl, rfl⟩
/-- the row of key k at hand: seven fields, its strokes, the changes of all -/
def rowM (f : Nat → Nat → Int32) (k : Nat) : Nat → Int32 := fun j => if j < 7 then f 66 (7 * k + j) else if j = 7 then f 70 k else f 64 15
def wrM (f : Nat → Nat → Int32) (k : Nat) (g : Nat → Int32) : Nat → Nat → Int32 := fun c j => if c = 66 ∧ 7 * k ≤ j ∧ j < 7 * k + 7 then g (j - 7 * k) else if c = 70 ∧ j = k then g 7 else if c = 64 ∧ j = 15 then g 8 else f c j
theorem wrM_of {f : Nat → Nat → Int32} {k j : Nat} {g : Nat → Int32} (h : j < 7) : wrM f k g 66 (7 * k + j) = g j := by
  unfold wrM
  rw [if_pos (by omega), show 7 * k + j - 7 * k = j by omega]
theorem wrM_7 {f : Nat → Nat → Int32} {k : Nat} {g : Nat → Int32} : wrM f k g 70 k = g 7 := by
  unfold wrM
  rw [if_neg (by omega), if_pos ⟨rfl, rfl⟩]
theorem wrM_8 {f : Nat → Nat → Int32} {k : Nat} {g : Nat → Int32} : wrM f k g 64 15 = g 8 := by
  unfold wrM
  rw [if_neg (by omega), if_neg (by omega), if_pos ⟨rfl, rfl⟩]
theorem wrM_o {f : Nat → Nat → Int32} {k c j : Nat} {g : Nat → Int32} (h : ¬ (c = 66 ∧ 7 * k ≤ j ∧ j < 7 * k + 7) ∧ ¬ (c = 70 ∧ j = k) ∧ ¬ (c = 64 ∧ j = 15)) : wrM f k g c j = f c j := by
  unfold wrM
  rw [if_neg h.1, if_neg h.2.1, if_neg h.2.2]
theorem wrM_row (f : Nat → Nat → Int32) (k : Nat) : wrM f k (rowM f k) = f := by
  funext c j
  unfold wrM rowM
  by_cases q : c = 66 ∧ 7 * k ≤ j ∧ j < 7 * k + 7
  · rw [if_pos q, if_pos (by omega), show 7 * k + (j - 7 * k) = j by omega, q.1]
  · rw [if_neg q]
    by_cases q2 : c = 70 ∧ j = k
    · rw [if_pos q2, if_neg (by omega), if_pos rfl, q2.1, q2.2]
    · rw [if_neg q2]
      by_cases q3 : c = 64 ∧ j = 15
      · rw [if_pos q3, if_neg (by omega), if_neg (by omega), q3.1, q3.2]
      · rw [if_neg q3]
theorem wrM_up {f : Nat → Nat → Int32} {k j : Nat} {g : Nat → Int32} {x : Int32} (h : j < 7) : up2 (wrM f k g) 66 (7 * k + j) x = wrM f k (upd g j x) := by
  funext c i
  by_cases q : c = 66 ∧ i = 7 * k + j
  · obtain ⟨rfl, rfl⟩ := q
    rw [up2_self, wrM_of h]
    simp [upd]
  · rw [up2_ne q]
    unfold wrM upd
    by_cases q1 : c = 66 ∧ 7 * k ≤ i ∧ i < 7 * k + 7
    · rw [if_pos q1, if_pos q1, if_neg (by omega)]
    · rw [if_neg q1, if_neg q1, if_neg (show ¬ 7 = j by omega), if_neg (show ¬ 8 = j by omega)]
theorem wrM_up7 {f : Nat → Nat → Int32} {k : Nat} {g : Nat → Int32} {x : Int32} : up2 (wrM f k g) 70 k x = wrM f k (upd g 7 x) := by
  funext c i
  by_cases q : c = 70 ∧ i = k
  · obtain ⟨rfl, rfl⟩ := q
    rw [up2_self, wrM_7]
    simp [upd]
  · rw [up2_ne q]
    unfold wrM upd
    by_cases q1 : c = 66 ∧ 7 * k ≤ i ∧ i < 7 * k + 7
    · rw [if_pos q1, if_pos q1, if_neg (by omega)]
    · rw [if_neg q1, if_neg q1, if_neg q, if_neg q, if_neg (show ¬ (8 : Nat) = 7 by decide)]
theorem wrM_up8 {f : Nat → Nat → Int32} {k : Nat} {g : Nat → Int32} {x : Int32} : up2 (wrM f k g) 64 15 x = wrM f k (upd g 8 x) := by
  funext c i
  by_cases q : c = 64 ∧ i = 15
  · obtain ⟨rfl, rfl⟩ := q
    rw [up2_self, wrM_8]
    simp [upd]
  · rw [up2_ne q]
    unfold wrM upd
    by_cases q1 : c = 66 ∧ 7 * k ≤ i ∧ i < 7 * k + 7
    · rw [if_pos q1, if_pos q1, if_neg (by omega)]
    · rw [if_neg q1, if_neg q1]
      by_cases q2 : c = 70 ∧ i = k
      · rw [if_pos q2, if_pos q2, if_neg (by omega)]
      · rw [if_neg q2, if_neg q2, if_neg q, if_neg q]
set_option maxRecDepth 100000 in
set_option maxHeartbeats 1000000 in
theorem f_X5_of {V : am_V} {d : Nat} {f : Nat → Nat → Int32} {τ : Nat → Nat → Int64} {k j : Nat} (h : 7 * k + j < 75) : AF V MX5_of d [.ref 64, .int (nI k), .int (nI j)] (f, τ) (some (.int (f 66 (7 * k + j)))) (f, τ) := by
  have tM := tb_M
  have m65 := tb_65
  have m66 := tb_66
  have m67 := tb_67
  have m68 := tb_68
  have m69 := tb_69
  have m70 := tb_70
  have m71 := tb_71
  have m72 := tb_72
  have m73 := tb_73
  have m74 := tb_74
  have m75 := tb_75
  have m76 := tb_76
  refine AM.of (L := [some (.ref 64), some (.int (nI k)), some (.int (nI j))]) (by decide +kernel) (Nat.le_of_ble_eq_true rfl) rfl ?_
  refine aw_aload_n (i := 0) dX5_of_0 rfl rfl ?_
  refine ax_getr (ci := 5) 1 dX5_of_1 rfl lfX5_13 (by decide) (by assumption) (by rfl) ?_
  refine aw_bipush (v := 7) dX5_of_4 (by decide) ?_
  refine aw_iload_n (i := 1) dX5_of_6 rfl rfl ?_
  refine aw_imul dX5_of_7 ?_
  refine aw_iload_n (i := 2) dX5_of_8 rfl rfl ?_
  refine aw_iadd dX5_of_9 ?_
  refine aw_tE (nI (7 * k + j)) (by rw [show (7 : Int32) = nI 7 from rfl, pk_mul, nI_add]) ?_
  refine ax_ialdN dX5_of_10 (by assumption) (by omega) (Nat.le_of_ble_eq_true rfl) ?_
  refine aw_ireturn (ty := .int) dX5_of_11 rfl rfl ?_
  exact ⟨rfl, rfl⟩
set_option maxRecDepth 100000 in
set_option maxHeartbeats 1000000 in
theorem f_X5_becomesOf {V : am_V} {d : Nat} {f : Nat → Nat → Int32} {τ : Nat → Nat → Int64} {k j : Nat} (h : 7 * k + j < 75) (v : Int32) : AF V MX5_becomesOf d [.ref 64, .int (nI k), .int (nI j), .int v] (f, τ) none (up2 f 66 (7 * k + j) v, τ) := by
  have tM := tb_M
  have m65 := tb_65
  have m66 := tb_66
  have m67 := tb_67
  have m68 := tb_68
  have m69 := tb_69
  have m70 := tb_70
  have m71 := tb_71
  have m72 := tb_72
  have m73 := tb_73
  have m74 := tb_74
  have m75 := tb_75
  have m76 := tb_76
  refine AM.of (L := [some (.ref 64), some (.int (nI k)), some (.int (nI j)), some (.int v)]) (by decide +kernel) (Nat.le_of_ble_eq_true rfl) rfl ?_
  refine aw_aload_n (i := 0) dX5_becomesOf_0 rfl rfl ?_
  refine ax_getr (ci := 5) 1 dX5_becomesOf_1 rfl lfX5_13 (by decide) (by assumption) (by rfl) ?_
  refine aw_bipush (v := 7) dX5_becomesOf_4 (by decide) ?_
  refine aw_iload_n (i := 1) dX5_becomesOf_6 rfl rfl ?_
  refine aw_imul dX5_becomesOf_7 ?_
  refine aw_iload_n (i := 2) dX5_becomesOf_8 rfl rfl ?_
  refine aw_iadd dX5_becomesOf_9 ?_
  refine aw_tE (nI (7 * k + j)) (by rw [show (7 : Int32) = nI 7 from rfl, pk_mul, nI_add]) ?_
  refine aw_iload_n (i := 3) dX5_becomesOf_10 rfl rfl ?_
  refine ax_iastN dX5_becomesOf_11 (by assumption) (by omega) (Nat.le_of_ble_eq_true rfl) ?_
  refine aw_return dX5_becomesOf_12 rfl ?_
  exact ⟨rfl, rfl⟩
theorem e_X5_of {V : am_V} {d k : Nat} {f : Nat → Nat → Int32} {g : Nat → Int32} {τ : Nat → Nat → Int64} (hk : k < 4) (j : Nat) (hj : j < 7) : AF V MX5_of d [.ref 64, .int (nI k), .int (nI j)] (wrM f k g, τ) (some (.int (g j))) (wrM f k g, τ) := by
  have e := f_X5_of (V := V) (d := d) (f := wrM f k g) (τ := τ) (k := k) (j := j) (by omega)
  rw [wrM_of hj] at e
  exact e
theorem e_X5_becomesOf {V : am_V} {d k : Nat} {f : Nat → Nat → Int32} {g : Nat → Int32} {τ : Nat → Nat → Int64} (hk : k < 4) (j : Nat) (hj : j < 7) (v : Int32) : AF V MX5_becomesOf d [.ref 64, .int (nI k), .int (nI j), .int v] (wrM f k g, τ) none (wrM f k (upd g j v), τ) := by
  have e := f_X5_becomesOf (V := V) (d := d) (f := wrM f k g) (τ := τ) (k := k) (j := j) (by omega) v
  rw [wrM_up hj] at e
  exact e
def m_wants (g : Nat → Int32) : Int32 := if g 1 = 2 then 1 else g 2
def m_shuts (g : Nat → Int32) : Int32 := if g 1 = 2 then g 2 else if g 1 = 3 then g 2 else 0
def m_say (g : Nat → Int32) (v : Int32) : Nat → Int32 := if g 3 = v then g else if v = 1 then upd (upd (upd (upd g 8 (g 8 + 1)) 3 v) 7 (g 7 + 1)) 6 (clampI (g 6 + 1) 999) else upd (upd g 8 (g 8 + 1)) 3 v
def m_sum (g : Nat → Int32) (c : Int32) : Int32 := clampI (g 4 + (if c = 1 then 1 else -1)) (g 2)
def m_weigh (g : Nat → Int32) (c : Int32) : Nat → Int32 := if m_sum g c = g 2 then m_say (upd g 4 (m_sum g c)) 1 else if m_sum g c = 0 then m_say (upd g 4 (m_sum g c)) 0 else upd g 4 (m_sum g c)
def m_count (g : Nat → Int32) (c : Int32) : Nat → Int32 := if c = g 3 then upd g 4 0 else if g 4 + 1 < m_wants g then upd g 4 (g 4 + 1) else upd (upd (m_say (upd g 4 (g 4 + 1)) c) 4 0) 5 (m_shuts (upd (m_say (upd g 4 (g 4 + 1)) c) 4 0))
def m_look (g : Nat → Int32) (c : Int32) : Nat → Int32 := if g 5 ≤ 0 then (if g 1 = 1 then m_weigh g c else m_count g c) else upd g 5 (g 5 - 1)
set_option maxRecDepth 100000 in
set_option maxHeartbeats 1000000 in
theorem f_X5_wants {V : am_V} {d k : Nat} {f : Nat → Nat → Int32} {g : Nat → Int32} {τ : Nat → Nat → Int64} (hk : k < 4) : AF V MX5_wants (d + 1) [.ref 64, .int (nI k)] (wrM f k g, τ) (some (.int (m_wants g))) (wrM f k g, τ) := by
  have tM := tb_M
  have m65 := tb_65
  have m66 := tb_66
  have m67 := tb_67
  have m68 := tb_68
  have m69 := tb_69
  have m70 := tb_70
  have m71 := tb_71
  have m72 := tb_72
  have m73 := tb_73
  have m74 := tb_74
  have m75 := tb_75
  have m76 := tb_76
  refine AM.of (L := [some (.ref 64), some (.int (nI k))]) (by decide +kernel) (Nat.le_of_ble_eq_true rfl) rfl ?_
  refine aw_aload_n (i := 0) dX5_wants_0 rfl rfl ?_
  refine aw_iload_n (i := 1) dX5_wants_1 rfl rfl ?_
  refine aw_iconst (v := 1) dX5_wants_2 (by decide) ?_
  refine ax_callV2i (M' := MX5_of) (ci := 5) dX5_wants_3 lmX5_145 oX5_of (by decide +kernel) (by assumption) rfl rfl (Nat.le_of_ble_eq_true rfl) (e_X5_of hk 1 (by decide)) ?_
  refine aw_iconst (v := 2) dX5_wants_6 (by decide) ?_
  refine aw_icmp_ne (tgt := 14) dX5_wants_7 (by decide) (fun c7 => ?_) (fun c7 => ?_)
  · refine aw_aload_n (i := 0) dX5_wants_14 rfl rfl ?_
    refine aw_iload_n (i := 1) dX5_wants_15 rfl rfl ?_
    refine aw_iconst (v := 2) dX5_wants_16 (by decide) ?_
    refine ax_callV2i (M' := MX5_of) (ci := 5) dX5_wants_17 lmX5_145 oX5_of (by decide +kernel) (by assumption) rfl rfl (Nat.le_of_ble_eq_true rfl) (e_X5_of hk 2 (by decide)) ?_
    refine aw_ireturn (ty := .int) dX5_wants_20 rfl rfl ?_
    exact ⟨congrArg (fun z => some (Value.int z)) (if_neg c7).symm, rfl⟩
  · refine aw_iconst (v := 1) dX5_wants_10 (by decide) ?_
    refine aw_goto (tgt := 20) dX5_wants_11 (by decide) ?_
    refine aw_ireturn (ty := .int) dX5_wants_20 rfl rfl ?_
    exact ⟨congrArg (fun z => some (Value.int z)) (if_pos c7).symm, rfl⟩
set_option maxRecDepth 100000 in
set_option maxHeartbeats 1000000 in
theorem f_X5_shuts {V : am_V} {d k : Nat} {f : Nat → Nat → Int32} {g : Nat → Int32} {τ : Nat → Nat → Int64} (hk : k < 4) : AF V MX5_shuts (d + 1) [.ref 64, .int (nI k)] (wrM f k g, τ) (some (.int (m_shuts g))) (wrM f k g, τ) := by
  have tM := tb_M
  have m65 := tb_65
  have m66 := tb_66
  have m67 := tb_67
  have m68 := tb_68
  have m69 := tb_69
  have m70 := tb_70
  have m71 := tb_71
  have m72 := tb_72
  have m73 := tb_73
  have m74 := tb_74
  have m75 := tb_75
  have m76 := tb_76
  refine AM.of (L := [some (.ref 64), some (.int (nI k))]) (by decide +kernel) (Nat.le_of_ble_eq_true rfl) rfl ?_
  refine aw_aload_n (i := 0) dX5_shuts_0 rfl rfl ?_
  refine aw_iload_n (i := 1) dX5_shuts_1 rfl rfl ?_
  refine aw_iconst (v := 1) dX5_shuts_2 (by decide) ?_
  refine ax_callV2i (M' := MX5_of) (ci := 5) dX5_shuts_3 lmX5_145 oX5_of (by decide +kernel) (by assumption) rfl rfl (Nat.le_of_ble_eq_true rfl) (e_X5_of hk 1 (by decide)) ?_
  refine aw_iconst (v := 2) dX5_shuts_6 (by decide) ?_
  refine aw_icmp_eq (tgt := 20) dX5_shuts_7 (by decide) (fun c7 => ?_) (fun c7 => ?_)
  · refine aw_aload_n (i := 0) dX5_shuts_20 rfl rfl ?_
    refine aw_iload_n (i := 1) dX5_shuts_21 rfl rfl ?_
    refine aw_iconst (v := 2) dX5_shuts_22 (by decide) ?_
    refine ax_callV2i (M' := MX5_of) (ci := 5) dX5_shuts_23 lmX5_145 oX5_of (by decide +kernel) (by assumption) rfl rfl (Nat.le_of_ble_eq_true rfl) (e_X5_of hk 2 (by decide)) ?_
    refine aw_goto (tgt := 30) dX5_shuts_26 (by decide) ?_
    refine aw_ireturn (ty := .int) dX5_shuts_30 rfl rfl ?_
    exact ⟨congrArg (fun z => some (Value.int z)) (if_pos c7).symm, rfl⟩
  · refine aw_aload_n (i := 0) dX5_shuts_10 rfl rfl ?_
    refine aw_iload_n (i := 1) dX5_shuts_11 rfl rfl ?_
    refine aw_iconst (v := 1) dX5_shuts_12 (by decide) ?_
    refine ax_callV2i (M' := MX5_of) (ci := 5) dX5_shuts_13 lmX5_145 oX5_of (by decide +kernel) (by assumption) rfl rfl (Nat.le_of_ble_eq_true rfl) (e_X5_of hk 1 (by decide)) ?_
    refine aw_iconst (v := 3) dX5_shuts_16 (by decide) ?_
    refine aw_icmp_ne (tgt := 29) dX5_shuts_17 (by decide) (fun c17 => ?_) (fun c17 => ?_)
    · refine aw_iconst (v := 0) dX5_shuts_29 (by decide) ?_
      refine aw_ireturn (ty := .int) dX5_shuts_30 rfl rfl ?_
      exact ⟨congrArg (fun z => some (Value.int z)) ((if_neg c7).trans (if_neg c17)).symm, rfl⟩
    · refine aw_aload_n (i := 0) dX5_shuts_20 rfl rfl ?_
      refine aw_iload_n (i := 1) dX5_shuts_21 rfl rfl ?_
      refine aw_iconst (v := 2) dX5_shuts_22 (by decide) ?_
      refine ax_callV2i (M' := MX5_of) (ci := 5) dX5_shuts_23 lmX5_145 oX5_of (by decide +kernel) (by assumption) rfl rfl (Nat.le_of_ble_eq_true rfl) (e_X5_of hk 2 (by decide)) ?_
      refine aw_goto (tgt := 30) dX5_shuts_26 (by decide) ?_
      refine aw_ireturn (ty := .int) dX5_shuts_30 rfl rfl ?_
      exact ⟨congrArg (fun z => some (Value.int z)) ((if_neg c7).trans (if_pos c17)).symm, rfl⟩
set_option maxRecDepth 100000 in
set_option maxHeartbeats 1000000 in
theorem f_X5_comesToSay {V : am_V} {d k : Nat} {f : Nat → Nat → Int32} {g : Nat → Int32} {τ : Nat → Nat → Int64} (hk : k < 4) (v : Int32) : AF V MX5_comesToSay (d + 1) [.ref 64, .int (nI k), .int v] (wrM f k g, τ) none (wrM f k (m_say g v), τ) := by
  have tM := tb_M
  have m65 := tb_65
  have m66 := tb_66
  have m67 := tb_67
  have m68 := tb_68
  have m69 := tb_69
  have m70 := tb_70
  have m71 := tb_71
  have m72 := tb_72
  have m73 := tb_73
  have m74 := tb_74
  have m75 := tb_75
  have m76 := tb_76
  refine AM.of (L := [some (.ref 64), some (.int (nI k)), some (.int v)]) (by decide +kernel) (Nat.le_of_ble_eq_true rfl) rfl ?_
  refine aw_aload_n (i := 0) dX5_comesToSay_0 rfl rfl ?_
  refine aw_iload_n (i := 1) dX5_comesToSay_1 rfl rfl ?_
  refine aw_iconst (v := 3) dX5_comesToSay_2 (by decide) ?_
  refine ax_callV2i (M' := MX5_of) (ci := 5) dX5_comesToSay_3 lmX5_145 oX5_of (by decide +kernel) (by assumption) rfl rfl (Nat.le_of_ble_eq_true rfl) (e_X5_of hk 3 (by decide)) ?_
  refine aw_iload_n (i := 2) dX5_comesToSay_6 rfl rfl ?_
  refine aw_icmp_ne (tgt := 11) dX5_comesToSay_7 (by decide) (fun c7 => ?_) (fun c7 => ?_)
  · refine aw_aload_n (i := 0) dX5_comesToSay_11 rfl rfl ?_
    refine aw_dup dX5_comesToSay_12 rfl ?_
    refine ax_geti (ci := 5) 15 dX5_comesToSay_13 rfl lfX5_133 (by decide) (by assumption) (by rfl) ?_
    refine aw_tE (g 8) wrM_8 ?_
    refine aw_iconst (v := 1) dX5_comesToSay_16 (by decide) ?_
    refine aw_iadd dX5_comesToSay_17 ?_
    refine ax_puti (ci := 5) 15 dX5_comesToSay_18 rfl lfX5_133 (by decide) (by assumption) (by rfl) rfl rfl ?_
    rw [wrM_up8]
    refine aw_aload_n (i := 0) dX5_comesToSay_21 rfl rfl ?_
    refine aw_iload_n (i := 1) dX5_comesToSay_22 rfl rfl ?_
    refine aw_iconst (v := 3) dX5_comesToSay_23 (by decide) ?_
    refine aw_iload_n (i := 2) dX5_comesToSay_24 rfl rfl ?_
    refine ax_callV3v (M' := MX5_becomesOf) (ci := 5) dX5_comesToSay_25 lmX5_148 oX5_becomesOf (by decide +kernel) (by assumption) rfl rfl (Nat.le_of_ble_eq_true rfl) (e_X5_becomesOf hk 3 (by decide) _) ?_
    refine aw_iload_n (i := 2) dX5_comesToSay_28 rfl rfl ?_
    refine aw_iconst (v := 1) dX5_comesToSay_29 (by decide) ?_
    refine aw_icmp_ne (tgt := 65) dX5_comesToSay_30 (by decide) (fun c30 => ?_) (fun c30 => ?_)
    · refine aw_return dX5_comesToSay_65 rfl ?_
      exact ⟨rfl, congrArg (fun z => hp (wrM f k z, τ)) ((if_neg c7).trans (if_neg c30)).symm⟩
    · refine aw_aload_n (i := 0) dX5_comesToSay_33 rfl rfl ?_
      refine ax_getr (ci := 5) 14 dX5_comesToSay_34 rfl lfX5_26 (by decide) (by assumption) (by rfl) ?_
      refine aw_iload_n (i := 1) dX5_comesToSay_37 rfl rfl ?_
      refine aw_dup2 dX5_comesToSay_38 rfl rfl ?_
      refine ax_ialdN dX5_comesToSay_39 (by assumption) (by omega) (Nat.le_of_ble_eq_true rfl) ?_
      refine aw_tE (upd (upd g 8 (g 8 + 1)) 3 v 7) wrM_7 ?_
      refine aw_iconst (v := 1) dX5_comesToSay_40 (by decide) ?_
      refine aw_iadd dX5_comesToSay_41 ?_
      refine ax_iastN dX5_comesToSay_42 (by assumption) (by omega) (Nat.le_of_ble_eq_true rfl) ?_
      rw [wrM_up7]
      refine aw_aload_n (i := 0) dX5_comesToSay_43 rfl rfl ?_
      refine aw_iload_n (i := 1) dX5_comesToSay_44 rfl rfl ?_
      refine aw_bipush (v := 6) dX5_comesToSay_45 (by decide) ?_
      refine aw_aload_n (i := 0) dX5_comesToSay_47 rfl rfl ?_
      refine aw_iload_n (i := 1) dX5_comesToSay_48 rfl rfl ?_
      refine aw_bipush (v := 6) dX5_comesToSay_49 (by decide) ?_
      refine ax_callV2i (M' := MX5_of) (ci := 5) dX5_comesToSay_51 lmX5_145 oX5_of (by decide +kernel) (by assumption) rfl rfl (Nat.le_of_ble_eq_true rfl) (e_X5_of hk 6 (by decide)) ?_
      refine aw_iconst (v := 1) dX5_comesToSay_54 (by decide) ?_
      refine aw_iadd dX5_comesToSay_55 ?_
      refine aw_sipush (v := 999) dX5_comesToSay_56 (by decide) ?_
      refine ax_callS2i (M' := MX5_within) dX5_comesToSay_59 lmX5_152 oX5_within (by decide +kernel) (Nat.le_of_ble_eq_true rfl) (f_X5_within _ _) ?_
      refine ax_callV3v (M' := MX5_becomesOf) (ci := 5) dX5_comesToSay_62 lmX5_148 oX5_becomesOf (by decide +kernel) (by assumption) rfl rfl (Nat.le_of_ble_eq_true rfl) (e_X5_becomesOf hk 6 (by decide) _) ?_
      refine aw_return dX5_comesToSay_65 rfl ?_
      exact ⟨rfl, congrArg (fun z => hp (wrM f k z, τ)) ((if_neg c7).trans (if_pos c30)).symm⟩
  · refine aw_return dX5_comesToSay_10 rfl ?_
    exact ⟨rfl, congrArg (fun z => hp (wrM f k z, τ)) (if_pos c7).symm⟩
set_option maxRecDepth 100000 in
set_option maxHeartbeats 1000000 in
theorem f_X5_weighs {V : am_V} {d k : Nat} {f : Nat → Nat → Int32} {g : Nat → Int32} {τ : Nat → Nat → Int64} (hk : k < 4) (c : Int32) : AF V MX5_weighs (d + 2) [.ref 64, .int (nI k), .int c] (wrM f k g, τ) none (wrM f k (m_weigh g c), τ) := by
  have tM := tb_M
  have m65 := tb_65
  have m66 := tb_66
  have m67 := tb_67
  have m68 := tb_68
  have m69 := tb_69
  have m70 := tb_70
  have m71 := tb_71
  have m72 := tb_72
  have m73 := tb_73
  have m74 := tb_74
  have m75 := tb_75
  have m76 := tb_76
  refine AM.of (L := [some (.ref 64), some (.int (nI k)), some (.int c), none]) (by decide +kernel) (Nat.le_of_ble_eq_true rfl) rfl ?_
  refine aw_aload_n (i := 0) dX5_weighs_0 rfl rfl ?_
  refine aw_iload_n (i := 1) dX5_weighs_1 rfl rfl ?_
  refine aw_iconst (v := 4) dX5_weighs_2 (by decide) ?_
  refine ax_callV2i (M' := MX5_of) (ci := 5) dX5_weighs_3 lmX5_145 oX5_of (by decide +kernel) (by assumption) rfl rfl (Nat.le_of_ble_eq_true rfl) (e_X5_of hk 4 (by decide)) ?_
  refine aw_iload_n (i := 2) dX5_weighs_6 rfl rfl ?_
  refine aw_iconst (v := 1) dX5_weighs_7 (by decide) ?_
  refine aw_icmp_ne (tgt := 15) dX5_weighs_8 (by decide) (fun c8 => ?_) (fun c8 => ?_)
  · refine aw_iconst (v := -1) dX5_weighs_15 (by decide) ?_
    refine aw_iadd dX5_weighs_16 ?_
    refine aw_aload_n (i := 0) dX5_weighs_17 rfl rfl ?_
    refine aw_iload_n (i := 1) dX5_weighs_18 rfl rfl ?_
    refine aw_iconst (v := 2) dX5_weighs_19 (by decide) ?_
    refine ax_callV2i (M' := MX5_of) (ci := 5) dX5_weighs_20 lmX5_145 oX5_of (by decide +kernel) (by assumption) rfl rfl (Nat.le_of_ble_eq_true rfl) (e_X5_of hk 2 (by decide)) ?_
    refine ax_callS2i (M' := MX5_within) dX5_weighs_23 lmX5_152 oX5_within (by decide +kernel) (Nat.le_of_ble_eq_true rfl) (f_X5_within _ _) ?_
    first | refine aw_tE (m_sum g c) (by unfold m_sum; rw [if_pos c8]) ?_ | refine aw_tE (m_sum g c) (by unfold m_sum; rw [if_neg c8]) ?_
    refine aw_istore_n (i := 3) (L' := [_, _, _, _]) dX5_weighs_26 rfl (Nat.le_of_ble_eq_true rfl) rfl rfl ?_
    refine aw_aload_n (i := 0) dX5_weighs_27 rfl rfl ?_
    refine aw_iload_n (i := 1) dX5_weighs_28 rfl rfl ?_
    refine aw_iconst (v := 4) dX5_weighs_29 (by decide) ?_
    refine aw_iload_n (i := 3) dX5_weighs_30 rfl rfl ?_
    refine ax_callV3v (M' := MX5_becomesOf) (ci := 5) dX5_weighs_31 lmX5_148 oX5_becomesOf (by decide +kernel) (by assumption) rfl rfl (Nat.le_of_ble_eq_true rfl) (e_X5_becomesOf hk 4 (by decide) _) ?_
    refine aw_iload_n (i := 3) dX5_weighs_34 rfl rfl ?_
    refine aw_aload_n (i := 0) dX5_weighs_35 rfl rfl ?_
    refine aw_iload_n (i := 1) dX5_weighs_36 rfl rfl ?_
    refine aw_iconst (v := 2) dX5_weighs_37 (by decide) ?_
    refine ax_callV2i (M' := MX5_of) (ci := 5) dX5_weighs_38 lmX5_145 oX5_of (by decide +kernel) (by assumption) rfl rfl (Nat.le_of_ble_eq_true rfl) (e_X5_of hk 2 (by decide)) ?_
    refine aw_icmp_ne (tgt := 53) dX5_weighs_41 (by decide) (fun c41 => ?_) (fun c41 => ?_)
    · refine aw_iload_n (i := 3) dX5_weighs_53 rfl rfl ?_
      refine aw_if_ne (tgt := 63) dX5_weighs_54 (by decide) (fun c54 => ?_) (fun c54 => ?_)
      · refine aw_return dX5_weighs_63 rfl ?_
        exact ⟨rfl, congrArg (fun z => hp (wrM f k z, τ)) ((if_neg c41).trans (if_neg c54)).symm⟩
      · refine aw_aload_n (i := 0) dX5_weighs_57 rfl rfl ?_
        refine aw_iload_n (i := 1) dX5_weighs_58 rfl rfl ?_
        refine aw_iconst (v := 0) dX5_weighs_59 (by decide) ?_
        refine ax_callV2v (M' := MX5_comesToSay) (ci := 5) dX5_weighs_60 lmX5_155 oX5_comesToSay (by decide +kernel) (by assumption) rfl rfl (Nat.le_of_ble_eq_true rfl) (f_X5_comesToSay hk _) ?_
        refine aw_return dX5_weighs_63 rfl ?_
        exact ⟨rfl, congrArg (fun z => hp (wrM f k z, τ)) ((if_neg c41).trans (if_pos c54)).symm⟩
    · refine aw_aload_n (i := 0) dX5_weighs_44 rfl rfl ?_
      refine aw_iload_n (i := 1) dX5_weighs_45 rfl rfl ?_
      refine aw_iconst (v := 1) dX5_weighs_46 (by decide) ?_
      refine ax_callV2v (M' := MX5_comesToSay) (ci := 5) dX5_weighs_47 lmX5_155 oX5_comesToSay (by decide +kernel) (by assumption) rfl rfl (Nat.le_of_ble_eq_true rfl) (f_X5_comesToSay hk _) ?_
      refine aw_goto (tgt := 63) dX5_weighs_50 (by decide) ?_
      refine aw_return dX5_weighs_63 rfl ?_
      exact ⟨rfl, congrArg (fun z => hp (wrM f k z, τ)) (if_pos c41).symm⟩
  · refine aw_iconst (v := 1) dX5_weighs_11 (by decide) ?_
    refine aw_goto (tgt := 16) dX5_weighs_12 (by decide) ?_
    refine aw_iadd dX5_weighs_16 ?_
    refine aw_aload_n (i := 0) dX5_weighs_17 rfl rfl ?_
    refine aw_iload_n (i := 1) dX5_weighs_18 rfl rfl ?_
    refine aw_iconst (v := 2) dX5_weighs_19 (by decide) ?_
    refine ax_callV2i (M' := MX5_of) (ci := 5) dX5_weighs_20 lmX5_145 oX5_of (by decide +kernel) (by assumption) rfl rfl (Nat.le_of_ble_eq_true rfl) (e_X5_of hk 2 (by decide)) ?_
    refine ax_callS2i (M' := MX5_within) dX5_weighs_23 lmX5_152 oX5_within (by decide +kernel) (Nat.le_of_ble_eq_true rfl) (f_X5_within _ _) ?_
    first | refine aw_tE (m_sum g c) (by unfold m_sum; rw [if_pos c8]) ?_ | refine aw_tE (m_sum g c) (by unfold m_sum; rw [if_neg c8]) ?_
    refine aw_istore_n (i := 3) (L' := [_, _, _, _]) dX5_weighs_26 rfl (Nat.le_of_ble_eq_true rfl) rfl rfl ?_
    refine aw_aload_n (i := 0) dX5_weighs_27 rfl rfl ?_
    refine aw_iload_n (i := 1) dX5_weighs_28 rfl rfl ?_
    refine aw_iconst (v := 4) dX5_weighs_29 (by decide) ?_
    refine aw_iload_n (i := 3) dX5_weighs_30 rfl rfl ?_
    refine ax_callV3v (M' := MX5_becomesOf) (ci := 5) dX5_weighs_31 lmX5_148 oX5_becomesOf (by decide +kernel) (by assumption) rfl rfl (Nat.le_of_ble_eq_true rfl) (e_X5_becomesOf hk 4 (by decide) _) ?_
    refine aw_iload_n (i := 3) dX5_weighs_34 rfl rfl ?_
    refine aw_aload_n (i := 0) dX5_weighs_35 rfl rfl ?_
    refine aw_iload_n (i := 1) dX5_weighs_36 rfl rfl ?_
    refine aw_iconst (v := 2) dX5_weighs_37 (by decide) ?_
    refine ax_callV2i (M' := MX5_of) (ci := 5) dX5_weighs_38 lmX5_145 oX5_of (by decide +kernel) (by assumption) rfl rfl (Nat.le_of_ble_eq_true rfl) (e_X5_of hk 2 (by decide)) ?_
    refine aw_icmp_ne (tgt := 53) dX5_weighs_41 (by decide) (fun c41 => ?_) (fun c41 => ?_)
    · refine aw_iload_n (i := 3) dX5_weighs_53 rfl rfl ?_
      refine aw_if_ne (tgt := 63) dX5_weighs_54 (by decide) (fun c54 => ?_) (fun c54 => ?_)
      · refine aw_return dX5_weighs_63 rfl ?_
        exact ⟨rfl, congrArg (fun z => hp (wrM f k z, τ)) ((if_neg c41).trans (if_neg c54)).symm⟩
      · refine aw_aload_n (i := 0) dX5_weighs_57 rfl rfl ?_
        refine aw_iload_n (i := 1) dX5_weighs_58 rfl rfl ?_
        refine aw_iconst (v := 0) dX5_weighs_59 (by decide) ?_
        refine ax_callV2v (M' := MX5_comesToSay) (ci := 5) dX5_weighs_60 lmX5_155 oX5_comesToSay (by decide +kernel) (by assumption) rfl rfl (Nat.le_of_ble_eq_true rfl) (f_X5_comesToSay hk _) ?_
        refine aw_return dX5_weighs_63 rfl ?_
        exact ⟨rfl, congrArg (fun z => hp (wrM f k z, τ)) ((if_neg c41).trans (if_pos c54)).symm⟩
    · refine aw_aload_n (i := 0) dX5_weighs_44 rfl rfl ?_
      refine aw_iload_n (i := 1) dX5_weighs_45 rfl rfl ?_
      refine aw_iconst (v := 1) dX5_weighs_46 (by decide) ?_
      refine ax_callV2v (M' := MX5_comesToSay) (ci := 5) dX5_weighs_47 lmX5_155 oX5_comesToSay (by decide +kernel) (by assumption) rfl rfl (Nat.le_of_ble_eq_true rfl) (f_X5_comesToSay hk _) ?_
      refine aw_goto (tgt := 63) dX5_weighs_50 (by decide) ?_
      refine aw_return dX5_weighs_63 rfl ?_
      exact ⟨rfl, congrArg (fun z => hp (wrM f k z, τ)) (if_pos c41).symm⟩
set_option maxRecDepth 100000 in
set_option maxHeartbeats 1000000 in
theorem f_X5_countsUp {V : am_V} {d k : Nat} {f : Nat → Nat → Int32} {g : Nat → Int32} {τ : Nat → Nat → Int64} (hk : k < 4) (c : Int32) : AF V MX5_countsUp (d + 2) [.ref 64, .int (nI k), .int c] (wrM f k g, τ) none (wrM f k (m_count g c), τ) := by
  have tM := tb_M
  have m65 := tb_65
  have m66 := tb_66
  have m67 := tb_67
  have m68 := tb_68
  have m69 := tb_69
  have m70 := tb_70
  have m71 := tb_71
  have m72 := tb_72
  have m73 := tb_73
  have m74 := tb_74
  have m75 := tb_75
  have m76 := tb_76
  refine AM.of (L := [some (.ref 64), some (.int (nI k)), some (.int c)]) (by decide +kernel) (Nat.le_of_ble_eq_true rfl) rfl ?_
  refine aw_iload_n (i := 2) dX5_countsUp_0 rfl rfl ?_
  refine aw_aload_n (i := 0) dX5_countsUp_1 rfl rfl ?_
  refine aw_iload_n (i := 1) dX5_countsUp_2 rfl rfl ?_
  refine aw_iconst (v := 3) dX5_countsUp_3 (by decide) ?_
  refine ax_callV2i (M' := MX5_of) (ci := 5) dX5_countsUp_4 lmX5_145 oX5_of (by decide +kernel) (by assumption) rfl rfl (Nat.le_of_ble_eq_true rfl) (e_X5_of hk 3 (by decide)) ?_
  refine aw_icmp_ne (tgt := 18) dX5_countsUp_7 (by decide) (fun c7 => ?_) (fun c7 => ?_)
  · refine aw_aload_n (i := 0) dX5_countsUp_18 rfl rfl ?_
    refine aw_iload_n (i := 1) dX5_countsUp_19 rfl rfl ?_
    refine aw_iconst (v := 4) dX5_countsUp_20 (by decide) ?_
    refine aw_aload_n (i := 0) dX5_countsUp_21 rfl rfl ?_
    refine aw_iload_n (i := 1) dX5_countsUp_22 rfl rfl ?_
    refine aw_iconst (v := 4) dX5_countsUp_23 (by decide) ?_
    refine ax_callV2i (M' := MX5_of) (ci := 5) dX5_countsUp_24 lmX5_145 oX5_of (by decide +kernel) (by assumption) rfl rfl (Nat.le_of_ble_eq_true rfl) (e_X5_of hk 4 (by decide)) ?_
    refine aw_iconst (v := 1) dX5_countsUp_27 (by decide) ?_
    refine aw_iadd dX5_countsUp_28 ?_
    refine ax_callV3v (M' := MX5_becomesOf) (ci := 5) dX5_countsUp_29 lmX5_148 oX5_becomesOf (by decide +kernel) (by assumption) rfl rfl (Nat.le_of_ble_eq_true rfl) (e_X5_becomesOf hk 4 (by decide) _) ?_
    refine aw_aload_n (i := 0) dX5_countsUp_32 rfl rfl ?_
    refine aw_iload_n (i := 1) dX5_countsUp_33 rfl rfl ?_
    refine aw_iconst (v := 4) dX5_countsUp_34 (by decide) ?_
    refine ax_callV2i (M' := MX5_of) (ci := 5) dX5_countsUp_35 lmX5_145 oX5_of (by decide +kernel) (by assumption) rfl rfl (Nat.le_of_ble_eq_true rfl) (e_X5_of hk 4 (by decide)) ?_
    refine aw_aload_n (i := 0) dX5_countsUp_38 rfl rfl ?_
    refine aw_iload_n (i := 1) dX5_countsUp_39 rfl rfl ?_
    refine ax_callV1i (M' := MX5_wants) (ci := 5) dX5_countsUp_40 lmX5_159 oX5_wants (by decide +kernel) (by assumption) rfl rfl (Nat.le_of_ble_eq_true rfl) (f_X5_wants hk) ?_
    refine aw_icmp_lt (tgt := 70) dX5_countsUp_43 (by decide) (fun c43 => ?_) (fun c43 => ?_)
    · refine aw_return dX5_countsUp_70 rfl ?_
      exact ⟨rfl, congrArg (fun z => hp (wrM f k z, τ)) ((if_neg c7).trans (if_pos c43)).symm⟩
    · refine aw_aload_n (i := 0) dX5_countsUp_46 rfl rfl ?_
      refine aw_iload_n (i := 1) dX5_countsUp_47 rfl rfl ?_
      refine aw_iload_n (i := 2) dX5_countsUp_48 rfl rfl ?_
      refine ax_callV2v (M' := MX5_comesToSay) (ci := 5) dX5_countsUp_49 lmX5_155 oX5_comesToSay (by decide +kernel) (by assumption) rfl rfl (Nat.le_of_ble_eq_true rfl) (f_X5_comesToSay hk _) ?_
      refine aw_aload_n (i := 0) dX5_countsUp_52 rfl rfl ?_
      refine aw_iload_n (i := 1) dX5_countsUp_53 rfl rfl ?_
      refine aw_iconst (v := 4) dX5_countsUp_54 (by decide) ?_
      refine aw_iconst (v := 0) dX5_countsUp_55 (by decide) ?_
      refine ax_callV3v (M' := MX5_becomesOf) (ci := 5) dX5_countsUp_56 lmX5_148 oX5_becomesOf (by decide +kernel) (by assumption) rfl rfl (Nat.le_of_ble_eq_true rfl) (e_X5_becomesOf hk 4 (by decide) _) ?_
      refine aw_aload_n (i := 0) dX5_countsUp_59 rfl rfl ?_
      refine aw_iload_n (i := 1) dX5_countsUp_60 rfl rfl ?_
      refine aw_iconst (v := 5) dX5_countsUp_61 (by decide) ?_
      refine aw_aload_n (i := 0) dX5_countsUp_62 rfl rfl ?_
      refine aw_iload_n (i := 1) dX5_countsUp_63 rfl rfl ?_
      refine ax_callV1i (M' := MX5_shuts) (ci := 5) dX5_countsUp_64 lmX5_162 oX5_shuts (by decide +kernel) (by assumption) rfl rfl (Nat.le_of_ble_eq_true rfl) (f_X5_shuts hk) ?_
      refine ax_callV3v (M' := MX5_becomesOf) (ci := 5) dX5_countsUp_67 lmX5_148 oX5_becomesOf (by decide +kernel) (by assumption) rfl rfl (Nat.le_of_ble_eq_true rfl) (e_X5_becomesOf hk 5 (by decide) _) ?_
      refine aw_return dX5_countsUp_70 rfl ?_
      exact ⟨rfl, congrArg (fun z => hp (wrM f k z, τ)) ((if_neg c7).trans (if_neg c43)).symm⟩
  · refine aw_aload_n (i := 0) dX5_countsUp_10 rfl rfl ?_
    refine aw_iload_n (i := 1) dX5_countsUp_11 rfl rfl ?_
    refine aw_iconst (v := 4) dX5_countsUp_12 (by decide) ?_
    refine aw_iconst (v := 0) dX5_countsUp_13 (by decide) ?_
    refine ax_callV3v (M' := MX5_becomesOf) (ci := 5) dX5_countsUp_14 lmX5_148 oX5_becomesOf (by decide +kernel) (by assumption) rfl rfl (Nat.le_of_ble_eq_true rfl) (e_X5_becomesOf hk 4 (by decide) _) ?_
    refine aw_return dX5_countsUp_17 rfl ?_
    exact ⟨rfl, congrArg (fun z => hp (wrM f k z, τ)) (if_pos c7).symm⟩
set_option maxRecDepth 100000 in
set_option maxHeartbeats 1000000 in
theorem f_X5_looks {V : am_V} {d k : Nat} {f : Nat → Nat → Int32} {g : Nat → Int32} {τ : Nat → Nat → Int64} (hk : k < 4) (c : Int32) : AF V MX5_looks (d + 3) [.ref 64, .int (nI k), .int c] (wrM f k g, τ) none (wrM f k (m_look g c), τ) := by
  have tM := tb_M
  have m65 := tb_65
  have m66 := tb_66
  have m67 := tb_67
  have m68 := tb_68
  have m69 := tb_69
  have m70 := tb_70
  have m71 := tb_71
  have m72 := tb_72
  have m73 := tb_73
  have m74 := tb_74
  have m75 := tb_75
  have m76 := tb_76
  refine AM.of (L := [some (.ref 64), some (.int (nI k)), some (.int c)]) (by decide +kernel) (Nat.le_of_ble_eq_true rfl) rfl ?_
  refine aw_aload_n (i := 0) dX5_looks_0 rfl rfl ?_
  refine aw_iload_n (i := 1) dX5_looks_1 rfl rfl ?_
  refine aw_iconst (v := 5) dX5_looks_2 (by decide) ?_
  refine ax_callV2i (M' := MX5_of) (ci := 5) dX5_looks_3 lmX5_145 oX5_of (by decide +kernel) (by assumption) rfl rfl (Nat.le_of_ble_eq_true rfl) (e_X5_of hk 5 (by decide)) ?_
  refine aw_if_le (tgt := 26) dX5_looks_6 (by decide) (fun c6 => ?_) (fun c6 => ?_)
  · refine aw_aload_n (i := 0) dX5_looks_26 rfl rfl ?_
    refine aw_iload_n (i := 1) dX5_looks_27 rfl rfl ?_
    refine aw_iconst (v := 1) dX5_looks_28 (by decide) ?_
    refine ax_callV2i (M' := MX5_of) (ci := 5) dX5_looks_29 lmX5_145 oX5_of (by decide +kernel) (by assumption) rfl rfl (Nat.le_of_ble_eq_true rfl) (e_X5_of hk 1 (by decide)) ?_
    refine aw_iconst (v := 1) dX5_looks_32 (by decide) ?_
    refine aw_icmp_ne (tgt := 45) dX5_looks_33 (by decide) (fun c33 => ?_) (fun c33 => ?_)
    · refine aw_aload_n (i := 0) dX5_looks_45 rfl rfl ?_
      refine aw_iload_n (i := 1) dX5_looks_46 rfl rfl ?_
      refine aw_iload_n (i := 2) dX5_looks_47 rfl rfl ?_
      refine ax_callV2v (M' := MX5_countsUp) (ci := 5) dX5_looks_48 lmX5_168 oX5_countsUp (by decide +kernel) (by assumption) rfl rfl (Nat.le_of_ble_eq_true rfl) (f_X5_countsUp hk _) ?_
      refine aw_return dX5_looks_51 rfl ?_
      exact ⟨rfl, congrArg (fun z => hp (wrM f k z, τ)) ((if_pos c6).trans (if_neg c33)).symm⟩
    · refine aw_aload_n (i := 0) dX5_looks_36 rfl rfl ?_
      refine aw_iload_n (i := 1) dX5_looks_37 rfl rfl ?_
      refine aw_iload_n (i := 2) dX5_looks_38 rfl rfl ?_
      refine ax_callV2v (M' := MX5_weighs) (ci := 5) dX5_looks_39 lmX5_165 oX5_weighs (by decide +kernel) (by assumption) rfl rfl (Nat.le_of_ble_eq_true rfl) (f_X5_weighs hk _) ?_
      refine aw_goto (tgt := 51) dX5_looks_42 (by decide) ?_
      refine aw_return dX5_looks_51 rfl ?_
      exact ⟨rfl, congrArg (fun z => hp (wrM f k z, τ)) ((if_pos c6).trans (if_pos c33)).symm⟩
  · refine aw_aload_n (i := 0) dX5_looks_9 rfl rfl ?_
    refine aw_iload_n (i := 1) dX5_looks_10 rfl rfl ?_
    refine aw_iconst (v := 5) dX5_looks_11 (by decide) ?_
    refine aw_aload_n (i := 0) dX5_looks_12 rfl rfl ?_
    refine aw_iload_n (i := 1) dX5_looks_13 rfl rfl ?_
    refine aw_iconst (v := 5) dX5_looks_14 (by decide) ?_
    refine ax_callV2i (M' := MX5_of) (ci := 5) dX5_looks_15 lmX5_145 oX5_of (by decide +kernel) (by assumption) rfl rfl (Nat.le_of_ble_eq_true rfl) (e_X5_of hk 5 (by decide)) ?_
    refine aw_iconst (v := 1) dX5_looks_18 (by decide) ?_
    refine aw_isub dX5_looks_19 ?_
    refine ax_callV3v (M' := MX5_becomesOf) (ci := 5) dX5_looks_20 lmX5_148 oX5_becomesOf (by decide +kernel) (by assumption) rfl rfl (Nat.le_of_ble_eq_true rfl) (e_X5_becomesOf hk 5 (by decide) _) ?_
    refine aw_goto (tgt := 51) dX5_looks_23 (by decide) ?_
    refine aw_return dX5_looks_51 rfl ?_
    exact ⟨rfl, congrArg (fun z => hp (wrM f k z, τ)) (if_neg c6).symm⟩
theorem e_X5_looks {V : am_V} {d k : Nat} {f : Nat → Nat → Int32} {τ : Nat → Nat → Int64} (hk : k < 4) (c : Int32) : AF V MX5_looks (d + 3) [.ref 64, .int (nI k), .int c] (f, τ) none (wrM f k (m_look (rowM f k) c), τ) := by
  have e := f_X5_looks (V := V) (d := d) (f := f) (g := rowM f k) (τ := τ) hk c
  rw [wrM_row] at e
  exact e
