theorem BR.st {f : Nat → Nat → Int32} {n p s e T k j : Nat} (hB : BR f 2 0 n p s e T) (hk : k < n) (hj : j < 7) : f 65 (7 * k + j) = f (2 + 2 + k) j := by
  have g := (hB.2.2.2.1 k hk).2 j hj
  rw [Nat.zero_add] at g
  exact g
theorem BR.pr {f : Nat → Nat → Int32} {n p s e T i : Nat} (hB : BR f 2 0 n p s e T) (hi : i < p) : f 65 (29 + 3 * i + 0) = f 8 i ∧ f 65 (29 + 3 * i + 1) = f 9 i ∧ f 65 (29 + 3 * i + 2) = f 10 i := by
  obtain ⟨-, -, -, g1, g2, g3⟩ := hB.2.2.2.2.1 i hi
  rw [Nat.zero_add] at g1 g2 g3
  exact ⟨g1, g2, g3⟩
theorem K0_k {f : Nat → Nat → Int32} {k j : Nat} (hk : k < 4) (hj : j < 7) : K0 f k j = f (2 + 2 + k) j := by
  unfold K0 kst
  rw [if_pos hj, Nat.mod_eq_of_lt hk]
theorem BR_cb {f : Nat → Nat → Int32} {n p T : Nat} (hn4 : n ≤ 4) (ev7 : f 2 7 = nI T) : cbK (f 9) (f 8) (f 10) n p (K0 f) (nI T) = cbF f 2 n p := by
  unfold cbK cbF
  refine orF_congr n (fun k hk => ?_)
  rw [K0_k (by omega) (by omega), ev7]
theorem r_key_in {f : Nat → Nat → Int32} {n j u : Nat} (hn4 : n ≤ 4) (hn : f 2 1 = nI n) (hj : j < n) (hu : u ≤ 6) : f (2 + 2 + j) u = r_key f (nI j) (nI u) := by
  unfold r_key
  rw [if_pos ⟨nI_pos' (by omega), by rw [hn, show (1 : Int32) = nI 1 from rfl, pk_sub (by omega)]; exact nI_le (by omega) (by omega)⟩, nI_clamp (by omega)]
  rcases (show u = 0 ∨ u = 1 ∨ u = 2 ∨ u = 3 ∨ u = 4 ∨ u = 5 ∨ u = 6 by omega) with rfl | rfl | rfl | rfl | rfl | rfl | rfl <;> rfl
theorem r_key_out {f : Nat → Nat → Int32} {k w : Int32} (h : ¬ (0 ≤ w ∧ w ≤ 6)) : -1 = r_key f k w := by
  have a : ∀ x : Int32, 0 ≤ x → x ≤ 6 → ¬ w = x := fun x h1 h2 e => h ⟨by rw [e]; exact h1, by rw [e]; exact h2⟩
  unfold r_key
  split
  · rw [if_neg (a 0 (by decide) (by decide)), if_neg (a 1 (by decide) (by decide)), if_neg (a 2 (by decide) (by decide)), if_neg (a 3 (by decide) (by decide)), if_neg (a 4 (by decide) (by decide)), if_neg (a 5 (by decide) (by decide)), if_neg (a 6 (by decide) (by decide))]
  · rfl
theorem r_press_in {f : Nat → Nat → Int32} {p i u : Nat} (hp8 : p ≤ 8) (hp1 : f 2 5 = nI p) (hi : i < p) (hu : u ≤ 2) {x : Int32} (hx : (u = 0 → x = f 8 i) ∧ (u = 1 → x = f 9 i) ∧ (u = 2 → x = f 10 i)) : x = r_press f (nI i) (nI u) := by
  unfold r_press
  rw [if_pos ⟨nI_pos' (by omega), by rw [hp1, show (1 : Int32) = nI 1 from rfl, pk_sub (by omega)]; exact nI_le (by omega) (by omega)⟩, nI_clamp (by omega)]
  rcases (show u = 0 ∨ u = 1 ∨ u = 2 by omega) with rfl | rfl | rfl
  · exact hx.1 rfl
  · exact hx.2.1 rfl
  · exact hx.2.2 rfl
theorem r_press_out {f : Nat → Nat → Int32} {k w : Int32} (h : ¬ (0 ≤ w ∧ w ≤ 2)) : -1 = r_press f k w := by
  have a : ∀ x : Int32, 0 ≤ x → x ≤ 2 → ¬ w = x := fun x h1 h2 e => h ⟨by rw [e]; exact h1, by rw [e]; exact h2⟩
  unfold r_press
  split
  · rw [if_neg (a 0 (by decide) (by decide)), if_neg (a 1 (by decide) (by decide)), if_neg (a 2 (by decide) (by decide))]
  · rfl
theorem n_contactOf {V : am_V} {d : Nat} {f : Nat → Nat → Int32} {τ : Nat → Nat → Int64} {f0 : Nat → Nat → Int32} {n p e T k : Nat} {pk pt ps : Nat → Int32} {K : Nat → Nat → Int32} (hn4 : n ≤ 4) (h : MR f0 n p pk pt ps e K T f) (hk : k < n) {U : Nat} (hU : U < 2 ^ 20) : AF V MX5_contactOf (d + 2) [.ref 64, .int (nI k), .int (nI U)] (f, τ) (some (.int (conF pk pt ps p (K k 0) (nI k) (nI U)))) (f, τ) := by
  obtain ⟨q, hq8, hq, hC⟩ := h.2.1.2.1
  rw [← hC _ _ U hU, ← h.2.1.2.2.2.2.1 k hk 0 (by omega)]
  exact f_X5_contactOf hq8 hq (by omega) _
set_option maxRecDepth 100000 in
set_option maxHeartbeats 1000000 in
theorem n_rule {V : am_V} {d : Nat} {f : Nat → Nat → Int32} {τ : Nat → Nat → Int64} {n p s e T : Nat} (hB : BR f 2 0 n p s e T) (what : Int32) : AGi V MX5_rule (d + 4) [.ref 64, .int what] (f, τ) (GM τ f (r_rule f n p what)) := by
  have hn4 : n ≤ 4 := hB.1.1
  have hp8 : p ≤ 8 := hB.1.2.1
  have he : 1 ≤ e ∧ e ≤ 4 := ⟨hB.1.2.2.2.1, hB.1.2.2.2.2.1⟩
  have hT9 : T ≤ 999 := hB.1.2.2.2.2.2
  have ev6 : f 2 6 = nI e := hB.2.1.2.2.2.1
  have ev7 : f 2 7 = nI T := hB.2.1.2.2.2.2
  have hG : eqM f f := eqM.rf
  have tM := tb_M
  have m65 := tb_65
  have m66 := tb_66
  have m67 := tb_67
  have m68 := tb_68
  have m69 := tb_69
  have m70 := tb_70
  have m71 := tb_71
  have m72 := tb_72
  have m73 := tb_73
  have m74 := tb_74
  have m75 := tb_75
  have m76 := tb_76
  refine AM.of (L := [some (.ref 64), some (.int what)]) (by decide +kernel) (Nat.le_of_ble_eq_true rfl) rfl ?_
  refine aw_aload_n (i := 0) dX5_rule_0 rfl rfl ?_
  refine ax_gV0v (M' := MX5_starts) (ci := 5) dX5_rule_1 lmX5_183 oX5_starts (by decide +kernel) (by assumption) rfl rfl (Nat.le_of_ble_eq_true rfl) (n_starts hB hG) (fun S_ h_ => ?_)
  obtain ⟨f1, rfl, T1, Q1⟩ := h_
  have e65 : ∀ q, f1 65 q = f 65 q := fun q => T1.1 65 q (by omega) (by omega) (by omega) (by omega) (by omega) (by omega)
  refine aw_iload_n (i := 1) dX5_rule_4 rfl rfl ?_
  refine aw_tab7 (t0 := 48) (t1 := 56) (t2 := 64) (t3 := 72) (t4 := 80) (t5 := 85) (t6 := 90) (td := 97) dX5_rule_5 (by decide) (by decide) (by decide) (by decide) (by decide) (by decide) (by decide) (by decide) (fun c5_0 => ?_) (fun c5_0 c5_1 => ?_) (fun c5_0 c5_1 c5_2 => ?_) (fun c5_0 c5_1 c5_2 c5_3 => ?_) (fun c5_0 c5_1 c5_2 c5_3 c5_4 => ?_) (fun c5_0 c5_1 c5_2 c5_3 c5_4 c5_5 => ?_) (fun c5_0 c5_1 c5_2 c5_3 c5_4 c5_5 c5_6 => ?_) (fun c5_0 c5_1 c5_2 c5_3 c5_4 c5_5 c5_6 => ?_)
  · refine aw_aload_n (i := 0) dX5_rule_48 rfl rfl ?_
    refine ax_getr (ci := 5) 0 dX5_rule_49 rfl lfX5_7 (by decide) (by assumption) (by rfl) ?_
    refine aw_bipush (v := 28) dX5_rule_52 (by decide) ?_
    refine ax_ialdN (i := 28) dX5_rule_54 (by assumption) (by omega) (Nat.le_of_ble_eq_true rfl) ?_
    refine aw_ireturn (ty := .int) dX5_rule_55 rfl rfl ?_
    refine ⟨_, _, rfl, rfl, ?_, _, rfl, T1.1⟩
    unfold r_rule
    exact (((e65 _).trans hB.2.2.1.1).trans hB.2.1.1.symm).trans (if_pos c5_0).symm
  · refine aw_aload_n (i := 0) dX5_rule_56 rfl rfl ?_
    refine ax_getr (ci := 5) 0 dX5_rule_57 rfl lfX5_7 (by decide) (by assumption) (by rfl) ?_
    refine aw_bipush (v := 53) dX5_rule_60 (by decide) ?_
    refine ax_ialdN (i := 53) dX5_rule_62 (by assumption) (by omega) (Nat.le_of_ble_eq_true rfl) ?_
    refine aw_ireturn (ty := .int) dX5_rule_63 rfl rfl ?_
    refine ⟨_, _, rfl, rfl, ?_, _, rfl, T1.1⟩
    unfold r_rule
    exact (((e65 _).trans hB.2.2.1.2.1).trans hB.2.1.2.1.symm).trans ((if_neg c5_0).trans (if_pos c5_1)).symm
  · refine aw_aload_n (i := 0) dX5_rule_64 rfl rfl ?_
    refine ax_getr (ci := 5) 0 dX5_rule_65 rfl lfX5_7 (by decide) (by assumption) (by rfl) ?_
    refine aw_bipush (v := 55) dX5_rule_68 (by decide) ?_
    refine ax_ialdN (i := 55) dX5_rule_70 (by assumption) (by omega) (Nat.le_of_ble_eq_true rfl) ?_
    refine aw_ireturn (ty := .int) dX5_rule_71 rfl rfl ?_
    refine ⟨_, _, rfl, rfl, ?_, _, rfl, T1.1⟩
    unfold r_rule
    exact (((e65 _).trans hB.2.2.1.2.2.2.2).trans ev7.symm).trans ((if_neg c5_0).trans ((if_neg c5_1).trans (if_pos c5_2))).symm
  · refine aw_aload_n (i := 0) dX5_rule_72 rfl rfl ?_
    refine ax_getr (ci := 5) 0 dX5_rule_73 rfl lfX5_7 (by decide) (by assumption) (by rfl) ?_
    refine aw_bipush (v := 54) dX5_rule_76 (by decide) ?_
    refine ax_ialdN (i := 54) dX5_rule_78 (by assumption) (by omega) (Nat.le_of_ble_eq_true rfl) ?_
    refine aw_ireturn (ty := .int) dX5_rule_79 rfl rfl ?_
    refine ⟨_, _, rfl, rfl, ?_, _, rfl, T1.1⟩
    unfold r_rule
    exact (((e65 _).trans hB.2.2.1.2.2.2.1).trans ev6.symm).trans ((if_neg c5_0).trans ((if_neg c5_1).trans ((if_neg c5_2).trans (if_pos c5_3)))).symm
  · refine aw_aload_n (i := 0) dX5_rule_80 rfl rfl ?_
    refine ax_callV0i (M' := MX5_says) (ci := 5) dX5_rule_81 lmX5_186 oX5_says (by decide +kernel) (by assumption) rfl rfl (Nat.le_of_ble_eq_true rfl) (n_says hn4 T1) ?_
    refine aw_ireturn (ty := .int) dX5_rule_84 rfl rfl ?_
    refine ⟨_, _, rfl, rfl, ?_, _, rfl, T1.1⟩
    unfold r_rule
    exact (orF_congr n (fun k hk => K0_k (by omega) (by omega))).trans ((if_neg c5_0).trans ((if_neg c5_1).trans ((if_neg c5_2).trans ((if_neg c5_3).trans (if_pos c5_4))))).symm
  · refine aw_aload_n (i := 0) dX5_rule_85 rfl rfl ?_
    refine ax_callV0i (M' := MX5_contactsNow) (ci := 5) dX5_rule_86 lmX5_177 oX5_contactsNow (by decide +kernel) (by assumption) rfl rfl (Nat.le_of_ble_eq_true rfl) (n_contactsNow hn4 (by omega) T1) ?_
    refine aw_ireturn (ty := .int) dX5_rule_89 rfl rfl ?_
    refine ⟨_, _, rfl, rfl, ?_, _, rfl, T1.1⟩
    unfold r_rule
    exact (BR_cb hn4 ev7).trans ((if_neg c5_0).trans ((if_neg c5_1).trans ((if_neg c5_2).trans ((if_neg c5_3).trans ((if_neg c5_4).trans (if_pos c5_5)))))).symm
  · refine aw_aload_n (i := 0) dX5_rule_90 rfl rfl ?_
    refine aw_bipush (v := 6) dX5_rule_91 (by decide) ?_
    refine ax_callV1i (M' := MX5_sumOf) (ci := 5) dX5_rule_93 lmX5_189 oX5_sumOf (by decide +kernel) (by assumption) rfl rfl (Nat.le_of_ble_eq_true rfl) (f_X5_sumOf (j := 6) hn4 (by omega) ((e65 _).trans hB.2.2.1.1)) ?_
    refine aw_ireturn (ty := .int) dX5_rule_96 rfl rfl ?_
    refine ⟨_, _, rfl, rfl, ?_, _, rfl, T1.1⟩
    unfold r_rule
    exact (sumF_congr n (fun k hk => (e65 _).trans (hB.st hk (by omega)))).trans ((if_neg c5_0).trans ((if_neg c5_1).trans ((if_neg c5_2).trans ((if_neg c5_3).trans ((if_neg c5_4).trans ((if_neg c5_5).trans (if_pos c5_6))))))).symm
  · refine aw_iconst (v := -1) dX5_rule_97 (by decide) ?_
    refine aw_ireturn (ty := .int) dX5_rule_98 rfl rfl ?_
    refine ⟨_, _, rfl, rfl, ?_, _, rfl, T1.1⟩
    unfold r_rule
    exact (rfl).trans ((if_neg c5_0).trans ((if_neg c5_1).trans ((if_neg c5_2).trans ((if_neg c5_3).trans ((if_neg c5_4).trans ((if_neg c5_5).trans (if_neg c5_6))))))).symm
set_option maxRecDepth 100000 in
set_option maxHeartbeats 1000000 in
theorem n_key {V : am_V} {d : Nat} {f : Nat → Nat → Int32} {τ : Nat → Nat → Int64} {n p s e T : Nat} (hB : BR f 2 0 n p s e T) (k what : Int32) : AF V MX5_key (d + 2) [.ref 64, .int k, .int what] (f, τ) (some (.int (r_key f k what))) (f, τ) := by
  have hn4 : n ≤ 4 := hB.1.1
  have hp8 : p ≤ 8 := hB.1.2.1
  have he : 1 ≤ e ∧ e ≤ 4 := ⟨hB.1.2.2.2.1, hB.1.2.2.2.2.1⟩
  have hT9 : T ≤ 999 := hB.1.2.2.2.2.2
  have ev6 : f 2 6 = nI e := hB.2.1.2.2.2.1
  have ev7 : f 2 7 = nI T := hB.2.1.2.2.2.2
  have hG : eqM f f := eqM.rf
  have tM := tb_M
  have m65 := tb_65
  have m66 := tb_66
  have m67 := tb_67
  have m68 := tb_68
  have m69 := tb_69
  have m70 := tb_70
  have m71 := tb_71
  have m72 := tb_72
  have m73 := tb_73
  have m74 := tb_74
  have m75 := tb_75
  have m76 := tb_76
  refine AM.of (L := [some (.ref 64), some (.int k), some (.int what)]) (by decide +kernel) (Nat.le_of_ble_eq_true rfl) rfl ?_
  refine aw_aload_n (i := 0) dX5_key_0 rfl rfl ?_
  refine aw_iload_n (i := 1) dX5_key_1 rfl rfl ?_
  refine ax_callV1i (M' := MX5_isKey) (ci := 5) dX5_key_2 lmX5_192 oX5_isKey (by decide +kernel) (by assumption) rfl rfl (Nat.le_of_ble_eq_true rfl) (n_isKey hB _) ?_
  refine aw_beq (tgt := 34) dX5_key_5 (by decide) (fun c5 => ?_) (fun c5 => ?_)
  · refine aw_iconst (v := -1) dX5_key_34 (by decide) ?_
    refine aw_ireturn (ty := .int) dX5_key_35 rfl rfl ?_
    first | exact ⟨congrArg (fun z => some (Value.int z)) ((hB.st hj (by omega)).trans (r_key_in hn4 hB.2.1.1 hj hu)), rfl⟩ | exact ⟨congrArg (fun z => some (Value.int z)) (if_neg c5).symm, rfl⟩ | exact ⟨congrArg (fun z => some (Value.int z)) (r_key_out c17), rfl⟩
  · refine aw_iload_n (i := 2) dX5_key_8 rfl rfl ?_
    refine aw_i2l dX5_key_9 ?_
    refine aw_lconst (v := 0) dX5_key_10 (by decide) ?_
    refine aw_ldc2 dX5_key_11 lkX5_196 ?_
    refine ax_callS3i (M' := MX5_in) dX5_key_14 lmX5_63 oX5_in (by decide +kernel) (Nat.le_of_ble_eq_true rfl) (e_in _ 0 6) ?_
    refine aw_beq (tgt := 34) dX5_key_17 (by decide) (fun c17 => ?_) (fun c17 => ?_)
    · refine aw_iconst (v := -1) dX5_key_34 (by decide) ?_
      refine aw_ireturn (ty := .int) dX5_key_35 rfl rfl ?_
      first | exact ⟨congrArg (fun z => some (Value.int z)) ((hB.st hj (by omega)).trans (r_key_in hn4 hB.2.1.1 hj hu)), rfl⟩ | exact ⟨congrArg (fun z => some (Value.int z)) (if_neg c5).symm, rfl⟩ | exact ⟨congrArg (fun z => some (Value.int z)) (r_key_out c17), rfl⟩
    · obtain ⟨j, hj, rfl⟩ := key_of hn4 (show 0 ≤ k ∧ k ≤ nI n - 1 by rw [← hB.2.1.1]; exact c5)
      obtain ⟨u, hu, rfl⟩ := rng_of (n := 6) (by omega) c17
      refine aw_aload_n (i := 0) dX5_key_20 rfl rfl ?_
      refine ax_getr (ci := 5) 0 dX5_key_21 rfl lfX5_7 (by decide) (by assumption) (by rfl) ?_
      refine aw_bipush (v := 7) dX5_key_24 (by decide) ?_
      refine aw_iload_n (i := 1) dX5_key_26 rfl rfl ?_
      refine aw_imul dX5_key_27 ?_
      refine aw_iload_n (i := 2) dX5_key_28 rfl rfl ?_
      refine aw_iadd dX5_key_29 ?_
      refine aw_tE (nI (7 * j + u)) (by rw [show (7 : Int32) = nI 7 from rfl, pk_mul, nI_add]) ?_
      refine ax_ialdN dX5_key_30 (by assumption) (by omega) (Nat.le_of_ble_eq_true rfl) ?_
      refine aw_goto (tgt := 35) dX5_key_31 (by decide) ?_
      refine aw_ireturn (ty := .int) dX5_key_35 rfl rfl ?_
      first | exact ⟨congrArg (fun z => some (Value.int z)) ((hB.st hj (by omega)).trans (r_key_in hn4 hB.2.1.1 hj hu)), rfl⟩ | exact ⟨congrArg (fun z => some (Value.int z)) (if_neg c5).symm, rfl⟩ | exact ⟨congrArg (fun z => some (Value.int z)) (r_key_out c17), rfl⟩
set_option maxRecDepth 100000 in
set_option maxHeartbeats 1000000 in
theorem n_press {V : am_V} {d : Nat} {f : Nat → Nat → Int32} {τ : Nat → Nat → Int64} {n p s e T : Nat} (hB : BR f 2 0 n p s e T) (i what : Int32) : AF V MX5_press (d + 2) [.ref 64, .int i, .int what] (f, τ) (some (.int (r_press f i what))) (f, τ) := by
  have hn4 : n ≤ 4 := hB.1.1
  have hp8 : p ≤ 8 := hB.1.2.1
  have he : 1 ≤ e ∧ e ≤ 4 := ⟨hB.1.2.2.2.1, hB.1.2.2.2.2.1⟩
  have hT9 : T ≤ 999 := hB.1.2.2.2.2.2
  have ev6 : f 2 6 = nI e := hB.2.1.2.2.2.1
  have ev7 : f 2 7 = nI T := hB.2.1.2.2.2.2
  have hG : eqM f f := eqM.rf
  have tM := tb_M
  have m65 := tb_65
  have m66 := tb_66
  have m67 := tb_67
  have m68 := tb_68
  have m69 := tb_69
  have m70 := tb_70
  have m71 := tb_71
  have m72 := tb_72
  have m73 := tb_73
  have m74 := tb_74
  have m75 := tb_75
  have m76 := tb_76
  refine AM.of (L := [some (.ref 64), some (.int i), some (.int what)]) (by decide +kernel) (Nat.le_of_ble_eq_true rfl) rfl ?_
  refine aw_iload_n (i := 1) dX5_press_0 rfl rfl ?_
  refine aw_i2l dX5_press_1 ?_
  refine aw_lconst (v := 0) dX5_press_2 (by decide) ?_
  refine aw_aload_n (i := 0) dX5_press_3 rfl rfl ?_
  refine ax_getr (ci := 5) 0 dX5_press_4 rfl lfX5_7 (by decide) (by assumption) (by rfl) ?_
  refine aw_bipush (v := 53) dX5_press_7 (by decide) ?_
  refine ax_ialdN (i := 53) dX5_press_9 (by assumption) (by omega) (Nat.le_of_ble_eq_true rfl) ?_
  refine aw_tE (f 2 5) (hB.2.2.1.2.1.trans hB.2.1.2.1.symm) ?_
  refine aw_iconst (v := 1) dX5_press_10 (by decide) ?_
  refine aw_isub dX5_press_11 ?_
  refine aw_i2l dX5_press_12 ?_
  refine ax_callS3i (M' := MX5_in) dX5_press_13 lmX5_63 oX5_in (by decide +kernel) (Nat.le_of_ble_eq_true rfl) (e_in _ 0 _) ?_
  refine aw_beq (tgt := 47) dX5_press_16 (by decide) (fun c16 => ?_) (fun c16 => ?_)
  · refine aw_iconst (v := -1) dX5_press_47 (by decide) ?_
    refine aw_ireturn (ty := .int) dX5_press_48 rfl rfl ?_
    first | exact ⟨congrArg (fun z => some (Value.int z)) (r_press_in hp8 hB.2.1.2.1 hj hu ⟨fun z => by rw [z]; exact (hB.pr hj).1, fun z => by rw [z]; exact (hB.pr hj).2.1, fun z => by rw [z]; exact (hB.pr hj).2.2⟩), rfl⟩ | exact ⟨congrArg (fun z => some (Value.int z)) (if_neg c16).symm, rfl⟩ | exact ⟨congrArg (fun z => some (Value.int z)) (r_press_out c28), rfl⟩
  · refine aw_iload_n (i := 2) dX5_press_19 rfl rfl ?_
    refine aw_i2l dX5_press_20 ?_
    refine aw_lconst (v := 0) dX5_press_21 (by decide) ?_
    refine aw_ldc2 dX5_press_22 lkX5_198 ?_
    refine ax_callS3i (M' := MX5_in) dX5_press_25 lmX5_63 oX5_in (by decide +kernel) (Nat.le_of_ble_eq_true rfl) (e_in _ 0 2) ?_
    refine aw_beq (tgt := 47) dX5_press_28 (by decide) (fun c28 => ?_) (fun c28 => ?_)
    · refine aw_iconst (v := -1) dX5_press_47 (by decide) ?_
      refine aw_ireturn (ty := .int) dX5_press_48 rfl rfl ?_
      first | exact ⟨congrArg (fun z => some (Value.int z)) (r_press_in hp8 hB.2.1.2.1 hj hu ⟨fun z => by rw [z]; exact (hB.pr hj).1, fun z => by rw [z]; exact (hB.pr hj).2.1, fun z => by rw [z]; exact (hB.pr hj).2.2⟩), rfl⟩ | exact ⟨congrArg (fun z => some (Value.int z)) (if_neg c16).symm, rfl⟩ | exact ⟨congrArg (fun z => some (Value.int z)) (r_press_out c28), rfl⟩
    · obtain ⟨j, hj, rfl⟩ := key_in (n := p) (by omega) (show 0 ≤ i ∧ i ≤ nI p - 1 by rw [← hB.2.1.2.1]; exact c16)
      obtain ⟨u, hu, rfl⟩ := rng_of (n := 2) (by omega) c28
      refine aw_aload_n (i := 0) dX5_press_31 rfl rfl ?_
      refine ax_getr (ci := 5) 0 dX5_press_32 rfl lfX5_7 (by decide) (by assumption) (by rfl) ?_
      refine aw_bipush (v := 29) dX5_press_35 (by decide) ?_
      refine aw_iconst (v := 3) dX5_press_37 (by decide) ?_
      refine aw_iload_n (i := 1) dX5_press_38 rfl rfl ?_
      refine aw_imul dX5_press_39 ?_
      refine aw_iadd dX5_press_40 ?_
      refine aw_iload_n (i := 2) dX5_press_41 rfl rfl ?_
      refine aw_iadd dX5_press_42 ?_
      refine aw_tE (nI (29 + 3 * j + u)) (by rw [show (3 : Int32) = nI 3 from rfl, pk_mul, show (29 : Int32) = nI 29 from rfl, nI_add, nI_add]) ?_
      refine ax_ialdN dX5_press_43 (by assumption) (by omega) (Nat.le_of_ble_eq_true rfl) ?_
      refine aw_goto (tgt := 48) dX5_press_44 (by decide) ?_
      refine aw_ireturn (ty := .int) dX5_press_48 rfl rfl ?_
      first | exact ⟨congrArg (fun z => some (Value.int z)) (r_press_in hp8 hB.2.1.2.1 hj hu ⟨fun z => by rw [z]; exact (hB.pr hj).1, fun z => by rw [z]; exact (hB.pr hj).2.1, fun z => by rw [z]; exact (hB.pr hj).2.2⟩), rfl⟩ | exact ⟨congrArg (fun z => some (Value.int z)) (if_neg c16).symm, rfl⟩ | exact ⟨congrArg (fun z => some (Value.int z)) (r_press_out c28), rfl⟩
set_option maxRecDepth 100000 in
set_option maxHeartbeats 1000000 in
theorem n_contact {V : am_V} {d : Nat} {f : Nat → Nat → Int32} {τ : Nat → Nat → Int64} {n p s e T : Nat} (hB : BR f 2 0 n p s e T) (k t : Int32) : AGi V MX5_contact (d + 3) [.ref 64, .int k, .int t] (f, τ) (GM τ f (r_contact f p k t)) := by
  have hn4 : n ≤ 4 := hB.1.1
  have hp8 : p ≤ 8 := hB.1.2.1
  have he : 1 ≤ e ∧ e ≤ 4 := ⟨hB.1.2.2.2.1, hB.1.2.2.2.2.1⟩
  have hT9 : T ≤ 999 := hB.1.2.2.2.2.2
  have ev6 : f 2 6 = nI e := hB.2.1.2.2.2.1
  have ev7 : f 2 7 = nI T := hB.2.1.2.2.2.2
  have hG : eqM f f := eqM.rf
  have tM := tb_M
  have m65 := tb_65
  have m66 := tb_66
  have m67 := tb_67
  have m68 := tb_68
  have m69 := tb_69
  have m70 := tb_70
  have m71 := tb_71
  have m72 := tb_72
  have m73 := tb_73
  have m74 := tb_74
  have m75 := tb_75
  have m76 := tb_76
  refine AM.of (L := [some (.ref 64), some (.int k), some (.int t)]) (by decide +kernel) (Nat.le_of_ble_eq_true rfl) rfl ?_
  refine aw_aload_n (i := 0) dX5_contact_0 rfl rfl ?_
  refine aw_iload_n (i := 1) dX5_contact_1 rfl rfl ?_
  refine ax_callV1i (M' := MX5_isKey) (ci := 5) dX5_contact_2 lmX5_192 oX5_isKey (by decide +kernel) (by assumption) rfl rfl (Nat.le_of_ble_eq_true rfl) (n_isKey hB _) ?_
  refine aw_beq (tgt := 20) dX5_contact_5 (by decide) (fun c5 => ?_) (fun c5 => ?_)
  · refine aw_iconst (v := -1) dX5_contact_20 (by decide) ?_
    refine aw_ireturn (ty := .int) dX5_contact_21 rfl rfl ?_
    refine ⟨_, _, rfl, rfl, ?_, _, rfl, hG⟩
    unfold r_contact
    try rw [nI_clamp (show N < 2 ^ 31 by omega)]
    try rw [nI_clamp (show j < 2 ^ 31 by omega)]
    exact (if_neg c5).symm
  · refine aw_iload_n (i := 2) dX5_contact_8 rfl rfl ?_
    refine aw_i2l dX5_contact_9 ?_
    refine aw_lconst (v := 0) dX5_contact_10 (by decide) ?_
    refine aw_ldc2 dX5_contact_11 lkX5_200 ?_
    refine ax_callS3i (M' := MX5_in) dX5_contact_14 lmX5_63 oX5_in (by decide +kernel) (Nat.le_of_ble_eq_true rfl) (e_in _ 0 999) ?_
    refine aw_bne (tgt := 22) dX5_contact_17 (by decide) (fun c17 => ?_) (fun c17 => ?_)
    · obtain ⟨j, hj, rfl⟩ := key_of hn4 (show 0 ≤ k ∧ k ≤ nI n - 1 by rw [← hB.2.1.1]; exact c5)
      obtain ⟨u, hu, rfl⟩ := rng_of (n := 999) (by omega) c17
      refine aw_aload_n (i := 0) dX5_contact_22 rfl rfl ?_
      refine ax_gV0v (M' := MX5_starts) (ci := 5) dX5_contact_23 lmX5_183 oX5_starts (by decide +kernel) (by assumption) rfl rfl (Nat.le_of_ble_eq_true rfl) (n_starts hB hG) (fun S_ h_ => ?_)
      obtain ⟨f1, rfl, T1, Q1⟩ := h_
      refine aw_aload_n (i := 0) dX5_contact_26 rfl rfl ?_
      refine aw_iload_n (i := 1) dX5_contact_27 rfl rfl ?_
      refine aw_iload_n (i := 2) dX5_contact_28 rfl rfl ?_
      refine ax_callV2i (M' := MX5_contactOf) (ci := 5) dX5_contact_29 lmX5_171 oX5_contactOf (by decide +kernel) (by assumption) rfl rfl (Nat.le_of_ble_eq_true rfl) (n_contactOf hn4 T1 hj (U := u) (by omega)) ?_
      refine aw_ireturn (ty := .int) dX5_contact_32 rfl rfl ?_
      refine ⟨_, _, rfl, rfl, ?_, _, rfl, T1.1⟩
      rw [K0_k (by omega) (by omega)]
      unfold r_contact
      rw [nI_clamp (show j < 2 ^ 31 by omega)]
      exact ((if_pos c5).trans (if_pos c17)).symm
    · refine aw_iconst (v := -1) dX5_contact_20 (by decide) ?_
      refine aw_ireturn (ty := .int) dX5_contact_21 rfl rfl ?_
      refine ⟨_, _, rfl, rfl, ?_, _, rfl, hG⟩
      unfold r_contact
      try rw [nI_clamp (show N < 2 ^ 31 by omega)]
      try rw [nI_clamp (show j < 2 ^ 31 by omega)]
      exact ((if_pos c5).trans (if_neg c17)).symm
set_option maxRecDepth 100000 in
set_option maxHeartbeats 1000000 in
theorem n_count {V : am_V} {d : Nat} {f : Nat → Nat → Int32} {τ : Nat → Nat → Int64} {n p s e T : Nat} (hB : BR f 2 0 n p s e T) (h67 : ∀ j, j < 2 → (f 67 j = 0 ∨ f 67 j = 1) ∧ f 27 j = f 67 j) (hL : f 64 7 = f 0 1) (hS : (f 73 0 = -4 ↔ f 53 1 = -1) ∧ f 74 0 = f 53 2) (what : Int32) : AF V MX5_count (d + 2) [.ref 64, .int what] (f, τ) (some (.int (r_count f n what))) (f, τ) := by
  have hn4 : n ≤ 4 := hB.1.1
  have hp8 : p ≤ 8 := hB.1.2.1
  have he : 1 ≤ e ∧ e ≤ 4 := ⟨hB.1.2.2.2.1, hB.1.2.2.2.2.1⟩
  have hT9 : T ≤ 999 := hB.1.2.2.2.2.2
  have ev6 : f 2 6 = nI e := hB.2.1.2.2.2.1
  have ev7 : f 2 7 = nI T := hB.2.1.2.2.2.2
  have hG : eqM f f := eqM.rf
  have tM := tb_M
  have m65 := tb_65
  have m66 := tb_66
  have m67 := tb_67
  have m68 := tb_68
  have m69 := tb_69
  have m70 := tb_70
  have m71 := tb_71
  have m72 := tb_72
  have m73 := tb_73
  have m74 := tb_74
  have m75 := tb_75
  have m76 := tb_76
  refine AM.of (L := [some (.ref 64), some (.int what)]) (by decide +kernel) (Nat.le_of_ble_eq_true rfl) rfl ?_
  refine aw_iload_n (i := 1) dX5_count_0 rfl rfl ?_
  refine aw_tab6 (t0 := 40) (t1 := 48) (t2 := 68) (t3 := 73) (t4 := 96) (t5 := 102) (td := 108) dX5_count_1 (by decide) (by decide) (by decide) (by decide) (by decide) (by decide) (by decide) (fun c1_0 => ?_) (fun c1_0 c1_1 => ?_) (fun c1_0 c1_1 c1_2 => ?_) (fun c1_0 c1_1 c1_2 c1_3 => ?_) (fun c1_0 c1_1 c1_2 c1_3 c1_4 => ?_) (fun c1_0 c1_1 c1_2 c1_3 c1_4 c1_5 => ?_) (fun c1_0 c1_1 c1_2 c1_3 c1_4 c1_5 => ?_)
  · refine aw_aload_n (i := 0) dX5_count_40 rfl rfl ?_
    refine ax_getr (ci := 5) 0 dX5_count_41 rfl lfX5_7 (by decide) (by assumption) (by rfl) ?_
    refine aw_bipush (v := 56) dX5_count_44 (by decide) ?_
    refine ax_ialdN (i := 56) dX5_count_46 (by assumption) (by omega) (Nat.le_of_ble_eq_true rfl) ?_
    refine aw_ireturn (ty := .int) dX5_count_47 rfl rfl ?_
    exact ⟨congrArg (fun z => some (Value.int z)) ((hB.2.2.1.2.2.1.trans hB.2.1.2.2.1.symm).trans (if_pos c1_0).symm), rfl⟩
  · refine aw_aload_n (i := 0) dX5_count_48 rfl rfl ?_
    refine ax_getr (ci := 5) 2 dX5_count_49 rfl lfX5_16 (by decide) (by assumption) (by rfl) ?_
    refine aw_iconst (v := 0) dX5_count_52 (by decide) ?_
    refine ax_zaldN (i := 0) dX5_count_53 m67 (by omega) (Nat.le_of_ble_eq_true rfl) ?_
    refine ax_callS1i (M' := MX5_flag) dX5_count_54 lmX5_236 oX5_flag (by decide +kernel) (Nat.le_of_ble_eq_true rfl) (f_X5_flag01 (h67 0 (by omega)).1) ?_
    refine aw_aload_n (i := 0) dX5_count_57 rfl rfl ?_
    refine ax_getr (ci := 5) 2 dX5_count_58 rfl lfX5_16 (by decide) (by assumption) (by rfl) ?_
    refine aw_iconst (v := 1) dX5_count_61 (by decide) ?_
    refine ax_zaldN (i := 1) dX5_count_62 m67 (by omega) (Nat.le_of_ble_eq_true rfl) ?_
    refine ax_callS1i (M' := MX5_flag) dX5_count_63 lmX5_236 oX5_flag (by decide +kernel) (Nat.le_of_ble_eq_true rfl) (f_X5_flag01 (h67 1 (by omega)).1) ?_
    refine aw_iadd dX5_count_66 ?_
    refine aw_ireturn (ty := .int) dX5_count_67 rfl rfl ?_
    refine ⟨congrArg (fun z => some (Value.int z)) ?_, rfl⟩
    have a0 : (if f 27 0 = 0 then (0 : Int32) else 1) = f 67 0 := by
      rw [(h67 0 (by omega)).2]
      rcases (h67 0 (by omega)).1 with q | q
      · rw [if_pos q, q]
      · rw [if_neg (by rw [q]; decide), q]
    have a1 : (if f 27 1 = 0 then (0 : Int32) else 1) = f 67 1 := by
      rw [(h67 1 (by omega)).2]
      rcases (h67 1 (by omega)).1 with q | q
      · rw [if_pos q, q]
      · rw [if_neg (by rw [q]; decide), q]
    unfold r_count
    rw [a0, a1]
    exact ((if_neg c1_0).trans (if_pos c1_1)).symm
  · refine aw_aload_n (i := 0) dX5_count_68 rfl rfl ?_
    refine ax_geti (ci := 5) 7 dX5_count_69 rfl lfX5_67 (by decide) (by assumption) (by rfl) ?_
    refine aw_ireturn (ty := .int) dX5_count_72 rfl rfl ?_
    exact ⟨congrArg (fun z => some (Value.int z)) (hL.trans ((if_neg c1_0).trans ((if_neg c1_1).trans (if_pos c1_2))).symm), rfl⟩
  · refine aw_aload_n (i := 0) dX5_count_73 rfl rfl ?_
    refine ax_getr (ci := 5) 24 dX5_count_74 rfl lfX5_35 (by decide) (by assumption) (by rfl) ?_
    refine aw_iconst (v := 0) dX5_count_77 (by decide) ?_
    refine ax_ialdN (i := 0) dX5_count_78 (by assumption) (by omega) (Nat.le_of_ble_eq_true rfl) ?_
    refine aw_bipush (v := -4) dX5_count_79 (by decide) ?_
    refine aw_icmp_ne (tgt := 89) dX5_count_81 (by decide) (fun c81 => ?_) (fun c81 => ?_)
    · refine aw_aload_n (i := 0) dX5_count_89 rfl rfl ?_
      refine ax_getr (ci := 5) 25 dX5_count_90 rfl lfX5_38 (by decide) (by assumption) (by rfl) ?_
      refine aw_iconst (v := 0) dX5_count_93 (by decide) ?_
      refine ax_ialdN (i := 0) dX5_count_94 (by assumption) (by omega) (Nat.le_of_ble_eq_true rfl) ?_
      refine aw_ireturn (ty := .int) dX5_count_95 rfl rfl ?_
      refine ⟨congrArg (fun z => some (Value.int z)) ?_, rfl⟩
      unfold r_count
      rw [((if_neg c1_0).trans ((if_neg c1_1).trans ((if_neg c1_2).trans (if_pos c1_3))))]
      first | exact (if_pos (hS.1.mp c81)).symm | exact hS.2.trans (if_neg (fun z => c81 (hS.1.mpr z))).symm
    · refine aw_bipush (v := -4) dX5_count_84 (by decide) ?_
      refine aw_goto (tgt := 95) dX5_count_86 (by decide) ?_
      refine aw_ireturn (ty := .int) dX5_count_95 rfl rfl ?_
      refine ⟨congrArg (fun z => some (Value.int z)) ?_, rfl⟩
      unfold r_count
      rw [((if_neg c1_0).trans ((if_neg c1_1).trans ((if_neg c1_2).trans (if_pos c1_3))))]
      first | exact (if_pos (hS.1.mp c81)).symm | exact hS.2.trans (if_neg (fun z => c81 (hS.1.mpr z))).symm
  · refine aw_aload_n (i := 0) dX5_count_96 rfl rfl ?_
    refine aw_iconst (v := 0) dX5_count_97 (by decide) ?_
    refine ax_callV1i (M' := MX5_sumOf) (ci := 5) dX5_count_98 lmX5_189 oX5_sumOf (by decide +kernel) (by assumption) rfl rfl (Nat.le_of_ble_eq_true rfl) (f_X5_sumOf (j := 0) hn4 (by omega) hB.2.2.1.1) ?_
    refine aw_ireturn (ty := .int) dX5_count_101 rfl rfl ?_
    exact ⟨congrArg (fun z => some (Value.int z)) ((sumF_congr n (fun k hk => (hB.st hk (by omega)).trans rfl)).trans ((if_neg c1_0).trans ((if_neg c1_1).trans ((if_neg c1_2).trans ((if_neg c1_3).trans (if_pos c1_4))))).symm), rfl⟩
  · refine aw_aload_n (i := 0) dX5_count_102 rfl rfl ?_
    refine aw_iconst (v := 2) dX5_count_103 (by decide) ?_
    refine ax_callV1i (M' := MX5_sumOf) (ci := 5) dX5_count_104 lmX5_189 oX5_sumOf (by decide +kernel) (by assumption) rfl rfl (Nat.le_of_ble_eq_true rfl) (f_X5_sumOf (j := 2) hn4 (by omega) hB.2.2.1.1) ?_
    refine aw_ireturn (ty := .int) dX5_count_107 rfl rfl ?_
    exact ⟨congrArg (fun z => some (Value.int z)) ((sumF_congr n (fun k hk => (hB.st hk (by omega)).trans rfl)).trans ((if_neg c1_0).trans ((if_neg c1_1).trans ((if_neg c1_2).trans ((if_neg c1_3).trans ((if_neg c1_4).trans (if_pos c1_5)))))).symm), rfl⟩
  · refine aw_iconst (v := -1) dX5_count_108 (by decide) ?_
    refine aw_ireturn (ty := .int) dX5_count_109 rfl rfl ?_
    exact ⟨congrArg (fun z => some (Value.int z)) ((if_neg c1_0).trans ((if_neg c1_1).trans ((if_neg c1_2).trans ((if_neg c1_3).trans ((if_neg c1_4).trans (if_neg c1_5)))))).symm, rfl⟩
