set_option maxRecDepth 100000 in
set_option maxHeartbeats 4000000 in
theorem f_X4_isRun {V : am_V} {d : Nat} {S : fm} (v : Int32) : AF V MX4_isRun (d + 1) [.int v] S (some (.int (b2i (0 ≤ v ∧ v ≤ 200)))) S := by
  refine AM.of (L := [some (.int v)]) (by decide +kernel) (Nat.le_of_ble_eq_true rfl) rfl ?_
  refine aw_iload_n (i := 0) dX4_isRun_0 rfl rfl ?_
  refine aw_iconst (v := 0) dX4_isRun_1 (by decide) ?_
  refine aw_sipush (v := 200) dX4_isRun_2 (by decide) ?_
  refine ax_callS3i (M' := MX4_within) dX4_isRun_5 lmX4_54 oX4_within (by decide +kernel) (Nat.le_of_ble_eq_true rfl) (f_X4_within _ _ _) ?_
  refine aw_ireturn (ty := .boolean) dX4_isRun_8 rfl (b2i_z _) ?_
  exact ⟨rfl, rfl⟩
set_option maxRecDepth 100000 in
set_option maxHeartbeats 4000000 in
theorem f_X4_isSheet {V : am_V} {d : Nat} {S : fm} (v : Int32) : AF V MX4_isSheet (d + 1) [.int v] S (some (.int (b2i (0 ≤ v ∧ v ≤ 3)))) S := by
  refine AM.of (L := [some (.int v)]) (by decide +kernel) (Nat.le_of_ble_eq_true rfl) rfl ?_
  refine aw_iload_n (i := 0) dX4_isSheet_0 rfl rfl ?_
  refine aw_iconst (v := 0) dX4_isSheet_1 (by decide) ?_
  refine aw_iconst (v := 3) dX4_isSheet_2 (by decide) ?_
  refine ax_callS3i (M' := MX4_within) dX4_isSheet_3 lmX4_54 oX4_within (by decide +kernel) (Nat.le_of_ble_eq_true rfl) (f_X4_within _ _ _) ?_
  refine aw_ireturn (ty := .boolean) dX4_isSheet_6 rfl (b2i_z _) ?_
  exact ⟨rfl, rfl⟩
def r_feed (L : Nat) (c : Int32) : Int32 := if 0 ≤ c ∧ c ≤ 127 then (if nI L < 160 then nI (L + 1) else -3) else -1
def s_feed (f : Nat → Nat → Int32) (L : Nat) (c : Int32) : Nat → Nat → Int32 := if 0 ≤ c ∧ c ≤ 127 then (if nI L < 160 then up2 (up2 f 1 L c.toInt8.toInt32.toInt8.toInt32) 0 1 (nI (L + 1)) else f) else f
set_option maxRecDepth 100000 in
set_option maxHeartbeats 4000000 in
theorem f_X4_feed {V : am_V} {d : Nat} {f : Nat → Nat → Int32} {τ : Nat → Nat → Int64} {L : Nat} (hL6 : L ≤ 160) (hL : f 0 1 = nI L) (c : Int32) : AF V MX4_feed (d + 1) [.ref 0, .int c] (f, τ) (some (.int (r_feed L c))) (s_feed f L c, τ) := by
  have t0 := tb_0
  have ttp := tb_tp
  have tkp := tb_kp
  have tB := tb_B isB2
  have tk := tb_Bk isB2
  have t6 := tb_B6 isB2
  have t7 := tb_B7 isB2
  have t8 := tb_B8 isB2
  refine AM.of (L := [some (.ref 0), some (.int c)]) (by decide +kernel) (Nat.le_of_ble_eq_true rfl) rfl ?_
  refine aw_iload_n (i := 1) dX4_feed_0 rfl rfl ?_
  refine aw_iconst (v := 0) dX4_feed_1 (by decide) ?_
  refine aw_bipush (v := 127) dX4_feed_2 (by decide) ?_
  refine ax_callS3i (M' := MX4_within) dX4_feed_4 lmX4_54 oX4_within (by decide +kernel) (Nat.le_of_ble_eq_true rfl) (f_X4_within _ _ _) ?_
  refine aw_bne (tgt := 12) dX4_feed_7 (by decide) (fun c7 => ?_) (fun c7 => ?_)
  · refine aw_aload_n (i := 0) dX4_feed_12 rfl rfl ?_
    refine ax_geti (ci := 4) 1 dX4_feed_13 rfl lfX4_58 (by decide) (by assumption) (by rfl) ?_
    refine aw_tE (nI L) hL ?_
    refine aw_sipush (v := 160) dX4_feed_16 (by decide) ?_
    refine aw_icmp_lt (tgt := 25) dX4_feed_19 (by decide) (fun c19 => ?_) (fun c19 => ?_)
    · have hlt : L < 160 := (nI_ltI (a := L) (b := 160) (by omega) (by omega)).mp c19
      refine aw_aload_n (i := 0) dX4_feed_25 rfl rfl ?_
      refine ax_getr (ci := 4) 0 dX4_feed_26 rfl lfX4_9 (by decide) (by assumption) (by rfl) ?_
      refine aw_aload_n (i := 0) dX4_feed_29 rfl rfl ?_
      refine ax_geti (ci := 4) 1 dX4_feed_30 rfl lfX4_58 (by decide) (by assumption) (by rfl) ?_
      refine aw_tE (nI L) hL ?_
      refine aw_iload_n (i := 1) dX4_feed_33 rfl rfl ?_
      refine aw_i2b dX4_feed_34 ?_
      refine ax_bastN dX4_feed_35 ttp hlt (Nat.le_of_ble_eq_true rfl) ?_
      refine aw_aload_n (i := 0) dX4_feed_36 rfl rfl ?_
      refine aw_dup dX4_feed_37 rfl ?_
      refine ax_geti (ci := 4) 1 dX4_feed_38 rfl lfX4_58 (by decide) (by assumption) (by rfl) ?_
      refine aw_tE (nI L) (by rw [up2_ne (by omega)]; exact hL) ?_
      refine aw_iconst (v := 1) dX4_feed_41 (by decide) ?_
      refine aw_iadd dX4_feed_42 ?_
      refine aw_tE (nI (L + 1)) (nI_1 L) ?_
      refine ax_puti (ci := 4) 1 dX4_feed_43 rfl lfX4_58 (by decide) (by assumption) (by rfl) rfl rfl ?_
      refine aw_aload_n (i := 0) dX4_feed_46 rfl rfl ?_
      refine ax_geti (ci := 4) 1 dX4_feed_47 rfl lfX4_58 (by decide) (by assumption) (by rfl) ?_
      refine aw_tE (nI (L + 1)) (by rw [up2_self]) ?_
      refine aw_ireturn (ty := .int) dX4_feed_50 rfl rfl ?_
      exact ⟨congrArg (fun z => some (Value.int z)) ((if_pos c7).trans (if_pos c19)).symm, congrArg (fun z => hp (z, τ)) ((if_pos c7).trans (if_pos c19)).symm⟩
    · refine aw_bipush (v := -3) dX4_feed_22 (by decide) ?_
      refine aw_ireturn (ty := .int) dX4_feed_24 rfl rfl ?_
      exact ⟨congrArg (fun z => some (Value.int z)) ((if_pos c7).trans (if_neg c19)).symm, congrArg (fun z => hp (z, τ)) ((if_pos c7).trans (if_neg c19)).symm⟩
  · refine aw_iconst (v := -1) dX4_feed_10 (by decide) ?_
    refine aw_ireturn (ty := .int) dX4_feed_11 rfl rfl ?_
    exact ⟨congrArg (fun z => some (Value.int z)) (if_neg c7).symm, congrArg (fun z => hp (z, τ)) (if_neg c7).symm⟩
def r_end (f : Nat → Nat → Int32) (n : Int32) : Int32 := if 0 ≤ n ∧ n ≤ f 0 1 then f 0 1 else -1
def s_end (f : Nat → Nat → Int32) (n : Int32) : Nat → Nat → Int32 := if 0 ≤ n ∧ n ≤ f 0 1 then up2 f 0 1 n else f
set_option maxRecDepth 100000 in
set_option maxHeartbeats 4000000 in
theorem f_X4_end {V : am_V} {d : Nat} {f : Nat → Nat → Int32} {τ : Nat → Nat → Int64}  (n : Int32) : AF V MX4_end (d + 1) [.ref 0, .int n] (f, τ) (some (.int (r_end f n))) (s_end f n, τ) := by
  have t0 := tb_0
  have ttp := tb_tp
  have tkp := tb_kp
  have tB := tb_B isB2
  have tk := tb_Bk isB2
  have t6 := tb_B6 isB2
  have t7 := tb_B7 isB2
  have t8 := tb_B8 isB2
  refine AM.of (L := [some (.ref 0), some (.int n), none]) (by decide +kernel) (Nat.le_of_ble_eq_true rfl) rfl ?_
  refine aw_iload_n (i := 1) dX4_end_0 rfl rfl ?_
  refine aw_iconst (v := 0) dX4_end_1 (by decide) ?_
  refine aw_aload_n (i := 0) dX4_end_2 rfl rfl ?_
  refine ax_geti (ci := 4) 1 dX4_end_3 rfl lfX4_58 (by decide) (by assumption) (by rfl) ?_
  refine ax_callS3i (M' := MX4_within) dX4_end_6 lmX4_54 oX4_within (by decide +kernel) (Nat.le_of_ble_eq_true rfl) (f_X4_within _ _ _) ?_
  refine aw_bne (tgt := 14) dX4_end_9 (by decide) (fun c9 => ?_) (fun c9 => ?_)
  · refine aw_aload_n (i := 0) dX4_end_14 rfl rfl ?_
    refine ax_geti (ci := 4) 1 dX4_end_15 rfl lfX4_58 (by decide) (by assumption) (by rfl) ?_
    refine aw_istore_n (i := 2) (L' := [_, _, _]) dX4_end_18 rfl (Nat.le_of_ble_eq_true rfl) rfl rfl ?_
    refine aw_aload_n (i := 0) dX4_end_19 rfl rfl ?_
    refine aw_iload_n (i := 1) dX4_end_20 rfl rfl ?_
    refine ax_puti (ci := 4) 1 dX4_end_21 rfl lfX4_58 (by decide) (by assumption) (by rfl) rfl rfl ?_
    refine aw_iload_n (i := 2) dX4_end_24 rfl rfl ?_
    refine aw_ireturn (ty := .int) dX4_end_25 rfl rfl ?_
    exact ⟨congrArg (fun z => some (Value.int z)) (if_pos c9).symm, congrArg (fun z => hp (z, τ)) (if_pos c9).symm⟩
  · refine aw_iconst (v := -1) dX4_end_12 (by decide) ?_
    refine aw_ireturn (ty := .int) dX4_end_13 rfl rfl ?_
    exact ⟨congrArg (fun z => some (Value.int z)) (if_neg c9).symm, congrArg (fun z => hp (z, τ)) (if_neg c9).symm⟩
set_option maxRecDepth 100000 in
set_option maxHeartbeats 4000000 in
theorem f_X4_fault {V : am_V} {d : Nat} {f : Nat → Nat → Int32} {τ : Nat → Nat → Int64}  : AF V MX4_fault (d) [.ref 0] (f, τ) (some (.int (f 0 8))) (f, τ) := by
  have t0 := tb_0
  have ttp := tb_tp
  have tkp := tb_kp
  have tB := tb_B isB2
  have tk := tb_Bk isB2
  have t6 := tb_B6 isB2
  have t7 := tb_B7 isB2
  have t8 := tb_B8 isB2
  refine AM.of (L := [some (.ref 0)]) (by decide +kernel) (Nat.le_of_ble_eq_true rfl) rfl ?_
  refine aw_aload_n (i := 0) dX4_fault_0 rfl rfl ?_
  refine ax_geti (ci := 4) 8 dX4_fault_1 rfl lfX4_69 (by decide) (by assumption) (by rfl) ?_
  refine aw_ireturn (ty := .int) dX4_fault_4 rfl rfl ?_
  exact ⟨congrArg (fun z => some (Value.int z)) rfl.symm, rfl⟩
set_option maxRecDepth 100000 in
set_option maxHeartbeats 4000000 in
theorem f_X4_torn {V : am_V} {d : Nat} {f : Nat → Nat → Int32} {τ : Nat → Nat → Int64}  : AF V MX4_torn (d) [.ref 0] (f, τ) (some (.int (f 0 9))) (f, τ) := by
  have t0 := tb_0
  have ttp := tb_tp
  have tkp := tb_kp
  have tB := tb_B isB2
  have tk := tb_Bk isB2
  have t6 := tb_B6 isB2
  have t7 := tb_B7 isB2
  have t8 := tb_B8 isB2
  refine AM.of (L := [some (.ref 0)]) (by decide +kernel) (Nat.le_of_ble_eq_true rfl) rfl ?_
  refine aw_aload_n (i := 0) dX4_torn_0 rfl rfl ?_
  refine ax_geti (ci := 4) 9 dX4_torn_1 rfl lfX4_292 (by decide) (by assumption) (by rfl) ?_
  refine aw_ireturn (ty := .int) dX4_torn_4 rfl rfl ?_
  exact ⟨congrArg (fun z => some (Value.int z)) rfl.symm, rfl⟩
def r_rule (f : Nat → Nat → Int32) (n p : Nat) (what : Int32) : Int32 := if what = 0 then f 2 1 else if what = 1 then f 2 5 else if what = 2 then f 2 7 else if what = 3 then f 2 6 else if what = 4 then orF (fun k => f (2 + 2 + k) 3) n else if what = 5 then cbF f 2 n p else if what = 6 then sumF (fun k => f (2 + 2 + k) 6) n else -1
set_option maxRecDepth 100000 in
set_option maxHeartbeats 4000000 in
theorem f_X4_rule {V : am_V} {d : Nat} {f : Nat → Nat → Int32} {τ : Nat → Nat → Int64} {n : Nat} (hn4 : n ≤ 4) (hn : f 2 1 = nI n) {p : Nat} (hp8 : p ≤ 8) (hp1 : f 2 5 = nI p) (what : Int32) : AF V MX4_rule (d + 3) [.ref 0, .int what] (f, τ) (some (.int (r_rule f n p what))) (f, τ) := by
  have t0 := tb_0
  have ttp := tb_tp
  have tkp := tb_kp
  have tB := tb_B isB2
  have tk := tb_Bk isB2
  have t6 := tb_B6 isB2
  have t7 := tb_B7 isB2
  have t8 := tb_B8 isB2
  refine AM.of (L := [some (.ref 0), some (.int what)]) (by decide +kernel) (Nat.le_of_ble_eq_true rfl) rfl ?_
  refine aw_iload_n (i := 1) dX4_rule_0 rfl rfl ?_
  refine aw_tab7 (t0 := 44) (t1 := 52) (t2 := 60) (t3 := 68) (t4 := 76) (t5 := 84) (t6 := 92) (td := 100) dX4_rule_1 (by decide) (by decide) (by decide) (by decide) (by decide) (by decide) (by decide) (by decide) (fun c1_0 => ?_) (fun c1_0 c1_1 => ?_) (fun c1_0 c1_1 c1_2 => ?_) (fun c1_0 c1_1 c1_2 c1_3 => ?_) (fun c1_0 c1_1 c1_2 c1_3 c1_4 => ?_) (fun c1_0 c1_1 c1_2 c1_3 c1_4 c1_5 => ?_) (fun c1_0 c1_1 c1_2 c1_3 c1_4 c1_5 c1_6 => ?_) (fun c1_0 c1_1 c1_2 c1_3 c1_4 c1_5 c1_6 => ?_)
  · refine aw_aload_n (i := 0) dX4_rule_44 rfl rfl ?_
    refine ax_getr (ci := 4) 2 dX4_rule_45 rfl lfX4_16 (by decide) (by assumption) (by rfl) ?_
    refine ax_geti (ci := 0) 1 dX4_rule_48 rfl lfX4_79 (by decide) (by assumption) (by rfl) ?_
    refine aw_ireturn (ty := .int) dX4_rule_51 rfl rfl ?_
    exact ⟨congrArg (fun z => some (Value.int z)) (if_pos c1_0).symm, rfl⟩
  · refine aw_aload_n (i := 0) dX4_rule_52 rfl rfl ?_
    refine ax_getr (ci := 4) 2 dX4_rule_53 rfl lfX4_16 (by decide) (by assumption) (by rfl) ?_
    refine ax_geti (ci := 0) 5 dX4_rule_56 rfl lfX4_82 (by decide) (by assumption) (by rfl) ?_
    refine aw_ireturn (ty := .int) dX4_rule_59 rfl rfl ?_
    exact ⟨congrArg (fun z => some (Value.int z)) ((if_neg c1_0).trans (if_pos c1_1)).symm, rfl⟩
  · refine aw_aload_n (i := 0) dX4_rule_60 rfl rfl ?_
    refine ax_getr (ci := 4) 2 dX4_rule_61 rfl lfX4_16 (by decide) (by assumption) (by rfl) ?_
    refine ax_geti (ci := 0) 7 dX4_rule_64 rfl lfX4_85 (by decide) (by assumption) (by rfl) ?_
    refine aw_ireturn (ty := .int) dX4_rule_67 rfl rfl ?_
    exact ⟨congrArg (fun z => some (Value.int z)) ((if_neg c1_0).trans ((if_neg c1_1).trans (if_pos c1_2))).symm, rfl⟩
  · refine aw_aload_n (i := 0) dX4_rule_68 rfl rfl ?_
    refine ax_getr (ci := 4) 2 dX4_rule_69 rfl lfX4_16 (by decide) (by assumption) (by rfl) ?_
    refine ax_geti (ci := 0) 6 dX4_rule_72 rfl lfX4_88 (by decide) (by assumption) (by rfl) ?_
    refine aw_ireturn (ty := .int) dX4_rule_75 rfl rfl ?_
    exact ⟨congrArg (fun z => some (Value.int z)) ((if_neg c1_0).trans ((if_neg c1_1).trans ((if_neg c1_2).trans (if_pos c1_3)))).symm, rfl⟩
  · refine aw_aload_n (i := 0) dX4_rule_76 rfl rfl ?_
    refine ax_getr (ci := 4) 2 dX4_rule_77 rfl lfX4_16 (by decide) (by assumption) (by rfl) ?_
    refine ax_callV0i (M' := MX0_saysBits) (ci := 0) dX4_rule_80 lmX4_91 oX0_saysBits (by decide +kernel) (by assumption) rfl rfl (Nat.le_of_ble_eq_true rfl) (f_X0_saysBits isB2 hn4 hn) ?_
    refine aw_ireturn (ty := .int) dX4_rule_83 rfl rfl ?_
    exact ⟨congrArg (fun z => some (Value.int z)) ((if_neg c1_0).trans ((if_neg c1_1).trans ((if_neg c1_2).trans ((if_neg c1_3).trans (if_pos c1_4))))).symm, rfl⟩
  · refine aw_aload_n (i := 0) dX4_rule_84 rfl rfl ?_
    refine ax_getr (ci := 4) 2 dX4_rule_85 rfl lfX4_16 (by decide) (by assumption) (by rfl) ?_
    refine ax_callV0i (M' := MX0_contactBits) (ci := 0) dX4_rule_88 lmX4_95 oX0_contactBits (by decide +kernel) (by assumption) rfl rfl (Nat.le_of_ble_eq_true rfl) (f_X0_contactBits isB2 hn4 hn hp8 hp1) ?_
    refine aw_ireturn (ty := .int) dX4_rule_91 rfl rfl ?_
    exact ⟨congrArg (fun z => some (Value.int z)) ((if_neg c1_0).trans ((if_neg c1_1).trans ((if_neg c1_2).trans ((if_neg c1_3).trans ((if_neg c1_4).trans (if_pos c1_5)))))).symm, rfl⟩
  · refine aw_aload_n (i := 0) dX4_rule_92 rfl rfl ?_
    refine ax_getr (ci := 4) 2 dX4_rule_93 rfl lfX4_16 (by decide) (by assumption) (by rfl) ?_
    refine ax_callV0i (M' := MX0_strokesOfAll) (ci := 0) dX4_rule_96 lmX4_98 oX0_strokesOfAll (by decide +kernel) (by assumption) rfl rfl (Nat.le_of_ble_eq_true rfl) (f_X0_strokesOfAll isB2 hn4 hn) ?_
    refine aw_ireturn (ty := .int) dX4_rule_99 rfl rfl ?_
    exact ⟨congrArg (fun z => some (Value.int z)) ((if_neg c1_0).trans ((if_neg c1_1).trans ((if_neg c1_2).trans ((if_neg c1_3).trans ((if_neg c1_4).trans ((if_neg c1_5).trans (if_pos c1_6))))))).symm, rfl⟩
  · refine aw_iconst (v := -1) dX4_rule_100 (by decide) ?_
    refine aw_ireturn (ty := .int) dX4_rule_101 rfl rfl ?_
    exact ⟨congrArg (fun z => some (Value.int z)) ((if_neg c1_0).trans ((if_neg c1_1).trans ((if_neg c1_2).trans ((if_neg c1_3).trans ((if_neg c1_4).trans ((if_neg c1_5).trans (if_neg c1_6))))))).symm, rfl⟩
def r_key (f : Nat → Nat → Int32) (k what : Int32) : Int32 := if 0 ≤ k ∧ k ≤ f 2 1 - 1 then (if what = 0 then k_part (f (2 + 2 + k.toNatClampNeg)) what else if what = 1 then k_part (f (2 + 2 + k.toNatClampNeg)) what else if what = 2 then k_part (f (2 + 2 + k.toNatClampNeg)) what else if what = 3 then f (2 + 2 + k.toNatClampNeg) 3 else if what = 4 then f (2 + 2 + k.toNatClampNeg) 4 else if what = 5 then f (2 + 2 + k.toNatClampNeg) 5 else if what = 6 then f (2 + 2 + k.toNatClampNeg) 6 else -1) else -1
set_option maxRecDepth 100000 in
set_option maxHeartbeats 4000000 in
theorem f_X4_key {V : am_V} {d : Nat} {f : Nat → Nat → Int32} {τ : Nat → Nat → Int64} {n : Nat} (hn4 : n ≤ 4) (hn : f 2 1 = nI n) (k what : Int32) : AF V MX4_key (d + 2) [.ref 0, .int k, .int what] (f, τ) (some (.int (r_key f k what))) (f, τ) := by
  have t0 := tb_0
  have ttp := tb_tp
  have tkp := tb_kp
  have tB := tb_B isB2
  have tk := tb_Bk isB2
  have t6 := tb_B6 isB2
  have t7 := tb_B7 isB2
  have t8 := tb_B8 isB2
  refine AM.of (L := [some (.ref 0), some (.int k), some (.int what), none]) (by decide +kernel) (Nat.le_of_ble_eq_true rfl) rfl ?_
  refine aw_aload_n (i := 0) dX4_key_0 rfl rfl ?_
  refine ax_getr (ci := 4) 2 dX4_key_1 rfl lfX4_16 (by decide) (by assumption) (by rfl) ?_
  refine aw_iload_n (i := 1) dX4_key_4 rfl rfl ?_
  refine ax_callV1i (M' := MX0_hasKey) (ci := 0) dX4_key_5 lmX4_101 oX0_hasKey (by decide +kernel) (by assumption) rfl rfl (Nat.le_of_ble_eq_true rfl) (f_X0_hasKey isB2 _) ?_
  refine aw_bne (tgt := 13) dX4_key_8 (by decide) (fun c8 => ?_) (fun c8 => ?_)
  · obtain ⟨j, hj, rfl⟩ := key_of hn4 (show 0 ≤ k ∧ k ≤ nI n - 1 by rw [← hn]; exact c8)
    have tK := tb_K isB2 (k := j) (by omega)
    refine aw_aload_n (i := 0) dX4_key_13 rfl rfl ?_
    refine ax_getr (ci := 4) 2 dX4_key_14 rfl lfX4_16 (by decide) (by assumption) (by rfl) ?_
    refine ax_getr (ci := 0) 0 dX4_key_17 rfl lfX4_105 (by decide) (by assumption) (by rfl) ?_
    refine aw_iload_n (i := 1) dX4_key_20 rfl rfl ?_
    refine ax_keyN dX4_key_21 (by assumption) (by omega) ?_
    refine aw_astore_n (i := 3) (L' := [_, _, _, _]) dX4_key_22 rfl (Nat.le_of_ble_eq_true rfl) rfl rfl ?_
    refine aw_iload_n (i := 2) dX4_key_23 rfl rfl ?_
    refine aw_tab7 (t0 := 68) (t1 := 68) (t2 := 68) (t3 := 74) (t4 := 79) (t5 := 84) (t6 := 89) (td := 94) dX4_key_24 (by decide) (by decide) (by decide) (by decide) (by decide) (by decide) (by decide) (by decide) (fun c24_0 => ?_) (fun c24_0 c24_1 => ?_) (fun c24_0 c24_1 c24_2 => ?_) (fun c24_0 c24_1 c24_2 c24_3 => ?_) (fun c24_0 c24_1 c24_2 c24_3 c24_4 => ?_) (fun c24_0 c24_1 c24_2 c24_3 c24_4 c24_5 => ?_) (fun c24_0 c24_1 c24_2 c24_3 c24_4 c24_5 c24_6 => ?_) (fun c24_0 c24_1 c24_2 c24_3 c24_4 c24_5 c24_6 => ?_)
    · refine aw_aload_n (i := 3) dX4_key_68 rfl rfl ?_
      refine aw_iload_n (i := 2) dX4_key_69 rfl rfl ?_
      refine ax_callV1i (M' := MX1_part) (ci := 1) dX4_key_70 lmX4_109 oX1_part (by decide +kernel) (by assumption) rfl rfl (Nat.le_of_ble_eq_true rfl) (e_X1_part tK _) ?_
      refine aw_ireturn (ty := .int) dX4_key_73 rfl rfl ?_
      refine ⟨congrArg (fun z => some (Value.int z)) ?_, rfl⟩
      unfold r_key
      try rw [nI_clamp (show j < 2 ^ 31 by omega)]
      exact ((if_pos c8).trans (if_pos c24_0)).symm
    · refine aw_aload_n (i := 3) dX4_key_68 rfl rfl ?_
      refine aw_iload_n (i := 2) dX4_key_69 rfl rfl ?_
      refine ax_callV1i (M' := MX1_part) (ci := 1) dX4_key_70 lmX4_109 oX1_part (by decide +kernel) (by assumption) rfl rfl (Nat.le_of_ble_eq_true rfl) (e_X1_part tK _) ?_
      refine aw_ireturn (ty := .int) dX4_key_73 rfl rfl ?_
      refine ⟨congrArg (fun z => some (Value.int z)) ?_, rfl⟩
      unfold r_key
      try rw [nI_clamp (show j < 2 ^ 31 by omega)]
      exact ((if_pos c8).trans ((if_neg c24_0).trans (if_pos c24_1))).symm
    · refine aw_aload_n (i := 3) dX4_key_68 rfl rfl ?_
      refine aw_iload_n (i := 2) dX4_key_69 rfl rfl ?_
      refine ax_callV1i (M' := MX1_part) (ci := 1) dX4_key_70 lmX4_109 oX1_part (by decide +kernel) (by assumption) rfl rfl (Nat.le_of_ble_eq_true rfl) (e_X1_part tK _) ?_
      refine aw_ireturn (ty := .int) dX4_key_73 rfl rfl ?_
      refine ⟨congrArg (fun z => some (Value.int z)) ?_, rfl⟩
      unfold r_key
      try rw [nI_clamp (show j < 2 ^ 31 by omega)]
      exact ((if_pos c8).trans ((if_neg c24_0).trans ((if_neg c24_1).trans (if_pos c24_2)))).symm
    · refine aw_aload_n (i := 3) dX4_key_74 rfl rfl ?_
      refine ax_geti (ci := 1) 3 dX4_key_75 rfl lfX4_114 (by decide) (by assumption) (by rfl) ?_
      refine aw_ireturn (ty := .int) dX4_key_78 rfl rfl ?_
      refine ⟨congrArg (fun z => some (Value.int z)) ?_, rfl⟩
      unfold r_key
      try rw [nI_clamp (show j < 2 ^ 31 by omega)]
      exact ((if_pos c8).trans ((if_neg c24_0).trans ((if_neg c24_1).trans ((if_neg c24_2).trans (if_pos c24_3))))).symm
    · refine aw_aload_n (i := 3) dX4_key_79 rfl rfl ?_
      refine ax_geti (ci := 1) 4 dX4_key_80 rfl lfX4_117 (by decide) (by assumption) (by rfl) ?_
      refine aw_ireturn (ty := .int) dX4_key_83 rfl rfl ?_
      refine ⟨congrArg (fun z => some (Value.int z)) ?_, rfl⟩
      unfold r_key
      try rw [nI_clamp (show j < 2 ^ 31 by omega)]
      exact ((if_pos c8).trans ((if_neg c24_0).trans ((if_neg c24_1).trans ((if_neg c24_2).trans ((if_neg c24_3).trans (if_pos c24_4)))))).symm
    · refine aw_aload_n (i := 3) dX4_key_84 rfl rfl ?_
      refine ax_geti (ci := 1) 5 dX4_key_85 rfl lfX4_120 (by decide) (by assumption) (by rfl) ?_
      refine aw_ireturn (ty := .int) dX4_key_88 rfl rfl ?_
      refine ⟨congrArg (fun z => some (Value.int z)) ?_, rfl⟩
      unfold r_key
      try rw [nI_clamp (show j < 2 ^ 31 by omega)]
      exact ((if_pos c8).trans ((if_neg c24_0).trans ((if_neg c24_1).trans ((if_neg c24_2).trans ((if_neg c24_3).trans ((if_neg c24_4).trans (if_pos c24_5))))))).symm
    · refine aw_aload_n (i := 3) dX4_key_89 rfl rfl ?_
      refine ax_geti (ci := 1) 6 dX4_key_90 rfl lfX4_123 (by decide) (by assumption) (by rfl) ?_
      refine aw_ireturn (ty := .int) dX4_key_93 rfl rfl ?_
      refine ⟨congrArg (fun z => some (Value.int z)) ?_, rfl⟩
      unfold r_key
      try rw [nI_clamp (show j < 2 ^ 31 by omega)]
      exact ((if_pos c8).trans ((if_neg c24_0).trans ((if_neg c24_1).trans ((if_neg c24_2).trans ((if_neg c24_3).trans ((if_neg c24_4).trans ((if_neg c24_5).trans (if_pos c24_6)))))))).symm
    · refine aw_iconst (v := -1) dX4_key_94 (by decide) ?_
      refine aw_ireturn (ty := .int) dX4_key_95 rfl rfl ?_
      refine ⟨congrArg (fun z => some (Value.int z)) ?_, rfl⟩
      unfold r_key
      try rw [nI_clamp (show j < 2 ^ 31 by omega)]
      exact ((if_pos c8).trans ((if_neg c24_0).trans ((if_neg c24_1).trans ((if_neg c24_2).trans ((if_neg c24_3).trans ((if_neg c24_4).trans ((if_neg c24_5).trans (if_neg c24_6)))))))).symm
  · refine aw_iconst (v := -1) dX4_key_11 (by decide) ?_
    refine aw_ireturn (ty := .int) dX4_key_12 rfl rfl ?_
    refine ⟨congrArg (fun z => some (Value.int z)) ?_, rfl⟩
    unfold r_key
    try rw [nI_clamp (show j < 2 ^ 31 by omega)]
    exact (if_neg c8).symm
def r_press (f : Nat → Nat → Int32) (i what : Int32) : Int32 := if 0 ≤ i ∧ i ≤ f 2 5 - 1 then (if what = 0 then f (2 + 6) i.toNatClampNeg else if what = 1 then f (2 + 7) i.toNatClampNeg else if what = 2 then f (2 + 8) i.toNatClampNeg else -1) else -1
set_option maxRecDepth 100000 in
set_option maxHeartbeats 4000000 in
theorem f_X4_press {V : am_V} {d : Nat} {f : Nat → Nat → Int32} {τ : Nat → Nat → Int64} {p : Nat} (hp8 : p ≤ 8) (hp1 : f 2 5 = nI p) (i what : Int32) : AF V MX4_press (d + 1) [.ref 0, .int i, .int what] (f, τ) (some (.int (r_press f i what))) (f, τ) := by
  have t0 := tb_0
  have ttp := tb_tp
  have tkp := tb_kp
  have tB := tb_B isB2
  have tk := tb_Bk isB2
  have t6 := tb_B6 isB2
  have t7 := tb_B7 isB2
  have t8 := tb_B8 isB2
  refine AM.of (L := [some (.ref 0), some (.int i), some (.int what)]) (by decide +kernel) (Nat.le_of_ble_eq_true rfl) rfl ?_
  refine aw_iload_n (i := 1) dX4_press_0 rfl rfl ?_
  refine aw_iconst (v := 0) dX4_press_1 (by decide) ?_
  refine aw_aload_n (i := 0) dX4_press_2 rfl rfl ?_
  refine ax_getr (ci := 4) 2 dX4_press_3 rfl lfX4_16 (by decide) (by assumption) (by rfl) ?_
  refine ax_geti (ci := 0) 5 dX4_press_6 rfl lfX4_82 (by decide) (by assumption) (by rfl) ?_
  refine aw_iconst (v := 1) dX4_press_9 (by decide) ?_
  refine aw_isub dX4_press_10 ?_
  refine ax_callS3i (M' := MX4_within) dX4_press_11 lmX4_54 oX4_within (by decide +kernel) (Nat.le_of_ble_eq_true rfl) (f_X4_within _ _ _) ?_
  refine aw_bne (tgt := 19) dX4_press_14 (by decide) (fun c14 => ?_) (fun c14 => ?_)
  · obtain ⟨j, hj, rfl⟩ := key_in (n := p) (by omega) (show 0 ≤ i ∧ i ≤ nI p - 1 by rw [← hp1]; exact c14)
    refine aw_iload_n (i := 2) dX4_press_19 rfl rfl ?_
    refine aw_tab3 (t0 := 48) (t1 := 58) (t2 := 68) (td := 78) dX4_press_20 (by decide) (by decide) (by decide) (by decide) (fun c20_0 => ?_) (fun c20_0 c20_1 => ?_) (fun c20_0 c20_1 c20_2 => ?_) (fun c20_0 c20_1 c20_2 => ?_)
    · refine aw_aload_n (i := 0) dX4_press_48 rfl rfl ?_
      refine ax_getr (ci := 4) 2 dX4_press_49 rfl lfX4_16 (by decide) (by assumption) (by rfl) ?_
      refine ax_getr (ci := 0) 2 dX4_press_52 rfl lfX4_126 (by decide) (by assumption) (by rfl) ?_
      refine aw_iload_n (i := 1) dX4_press_55 rfl rfl ?_
      refine ax_ialdN dX4_press_56 (by assumption) (by omega) (Nat.le_of_ble_eq_true rfl) ?_
      refine aw_ireturn (ty := .int) dX4_press_57 rfl rfl ?_
      refine ⟨congrArg (fun z => some (Value.int z)) ?_, rfl⟩
      unfold r_press
      try rw [nI_clamp (show j < 2 ^ 31 by omega)]
      exact ((if_pos c14).trans (if_pos c20_0)).symm
    · refine aw_aload_n (i := 0) dX4_press_58 rfl rfl ?_
      refine ax_getr (ci := 4) 2 dX4_press_59 rfl lfX4_16 (by decide) (by assumption) (by rfl) ?_
      refine ax_getr (ci := 0) 3 dX4_press_62 rfl lfX4_129 (by decide) (by assumption) (by rfl) ?_
      refine aw_iload_n (i := 1) dX4_press_65 rfl rfl ?_
      refine ax_ialdN dX4_press_66 (by assumption) (by omega) (Nat.le_of_ble_eq_true rfl) ?_
      refine aw_ireturn (ty := .int) dX4_press_67 rfl rfl ?_
      refine ⟨congrArg (fun z => some (Value.int z)) ?_, rfl⟩
      unfold r_press
      try rw [nI_clamp (show j < 2 ^ 31 by omega)]
      exact ((if_pos c14).trans ((if_neg c20_0).trans (if_pos c20_1))).symm
    · refine aw_aload_n (i := 0) dX4_press_68 rfl rfl ?_
      refine ax_getr (ci := 4) 2 dX4_press_69 rfl lfX4_16 (by decide) (by assumption) (by rfl) ?_
      refine ax_getr (ci := 0) 4 dX4_press_72 rfl lfX4_132 (by decide) (by assumption) (by rfl) ?_
      refine aw_iload_n (i := 1) dX4_press_75 rfl rfl ?_
      refine ax_ialdN dX4_press_76 (by assumption) (by omega) (Nat.le_of_ble_eq_true rfl) ?_
      refine aw_ireturn (ty := .int) dX4_press_77 rfl rfl ?_
      refine ⟨congrArg (fun z => some (Value.int z)) ?_, rfl⟩
      unfold r_press
      try rw [nI_clamp (show j < 2 ^ 31 by omega)]
      exact ((if_pos c14).trans ((if_neg c20_0).trans ((if_neg c20_1).trans (if_pos c20_2)))).symm
    · refine aw_iconst (v := -1) dX4_press_78 (by decide) ?_
      refine aw_ireturn (ty := .int) dX4_press_79 rfl rfl ?_
      refine ⟨congrArg (fun z => some (Value.int z)) ?_, rfl⟩
      unfold r_press
      try rw [nI_clamp (show j < 2 ^ 31 by omega)]
      exact ((if_pos c14).trans ((if_neg c20_0).trans ((if_neg c20_1).trans (if_neg c20_2)))).symm
  · refine aw_iconst (v := -1) dX4_press_17 (by decide) ?_
    refine aw_ireturn (ty := .int) dX4_press_18 rfl rfl ?_
    refine ⟨congrArg (fun z => some (Value.int z)) ?_, rfl⟩
    unfold r_press
    try rw [nI_clamp (show j < 2 ^ 31 by omega)]
    exact (if_neg c14).symm
def r_contact (f : Nat → Nat → Int32) (p : Nat) (k t : Int32) : Int32 := if 0 ≤ k ∧ k ≤ f 2 1 - 1 then (if 0 ≤ t ∧ t ≤ 999 then conF (f (2 + 7)) (f (2 + 6)) (f (2 + 8)) p (f (2 + 2 + k.toNatClampNeg) 0) k t else -1) else -1
set_option maxRecDepth 100000 in
set_option maxHeartbeats 4000000 in
theorem f_X4_contact {V : am_V} {d : Nat} {f : Nat → Nat → Int32} {τ : Nat → Nat → Int64} {n : Nat} (hn4 : n ≤ 4) (hn : f 2 1 = nI n) {p : Nat} (hp8 : p ≤ 8) (hp1 : f 2 5 = nI p) (k t : Int32) : AF V MX4_contact (d + 2) [.ref 0, .int k, .int t] (f, τ) (some (.int (r_contact f p k t))) (f, τ) := by
  have t0 := tb_0
  have ttp := tb_tp
  have tkp := tb_kp
  have tB := tb_B isB2
  have tk := tb_Bk isB2
  have t6 := tb_B6 isB2
  have t7 := tb_B7 isB2
  have t8 := tb_B8 isB2
  refine AM.of (L := [some (.ref 0), some (.int k), some (.int t)]) (by decide +kernel) (Nat.le_of_ble_eq_true rfl) rfl ?_
  refine aw_aload_n (i := 0) dX4_contact_0 rfl rfl ?_
  refine ax_getr (ci := 4) 2 dX4_contact_1 rfl lfX4_16 (by decide) (by assumption) (by rfl) ?_
  refine aw_iload_n (i := 1) dX4_contact_4 rfl rfl ?_
  refine ax_callV1i (M' := MX0_hasKey) (ci := 0) dX4_contact_5 lmX4_101 oX0_hasKey (by decide +kernel) (by assumption) rfl rfl (Nat.le_of_ble_eq_true rfl) (f_X0_hasKey isB2 _) ?_
  refine aw_beq (tgt := 22) dX4_contact_8 (by decide) (fun c8 => ?_) (fun c8 => ?_)
  · refine aw_iconst (v := -1) dX4_contact_22 (by decide) ?_
    refine aw_ireturn (ty := .int) dX4_contact_23 rfl rfl ?_
    refine ⟨congrArg (fun z => some (Value.int z)) ?_, rfl⟩
    unfold r_contact
    try rw [nI_clamp (show j < 2 ^ 31 by omega)]
    exact (if_neg c8).symm
  · refine aw_iload_n (i := 2) dX4_contact_11 rfl rfl ?_
    refine aw_iconst (v := 0) dX4_contact_12 (by decide) ?_
    refine aw_sipush (v := 999) dX4_contact_13 (by decide) ?_
    refine ax_callS3i (M' := MX4_within) dX4_contact_16 lmX4_54 oX4_within (by decide +kernel) (Nat.le_of_ble_eq_true rfl) (f_X4_within _ _ _) ?_
    refine aw_bne (tgt := 24) dX4_contact_19 (by decide) (fun c19 => ?_) (fun c19 => ?_)
    · obtain ⟨j, hj, rfl⟩ := key_of hn4 (show 0 ≤ k ∧ k ≤ nI n - 1 by rw [← hn]; exact c8)
      have tK := tb_K isB2 (k := j) (by omega)
      refine aw_aload_n (i := 0) dX4_contact_24 rfl rfl ?_
      refine ax_getr (ci := 4) 2 dX4_contact_25 rfl lfX4_16 (by decide) (by assumption) (by rfl) ?_
      refine aw_iload_n (i := 1) dX4_contact_28 rfl rfl ?_
      refine aw_iload_n (i := 2) dX4_contact_29 rfl rfl ?_
      refine ax_callV2i (M' := MX0_contactAt) (ci := 0) dX4_contact_30 lmX4_135 oX0_contactAt (by decide +kernel) (by assumption) rfl rfl (Nat.le_of_ble_eq_true rfl) (f_X0_contactAt (p := p) isB2 hp8 hp1 (by omega) _) ?_
      refine aw_ireturn (ty := .int) dX4_contact_33 rfl rfl ?_
      refine ⟨congrArg (fun z => some (Value.int z)) ?_, rfl⟩
      unfold r_contact
      try rw [nI_clamp (show j < 2 ^ 31 by omega)]
      exact ((if_pos c8).trans (if_pos c19)).symm
    · refine aw_iconst (v := -1) dX4_contact_22 (by decide) ?_
      refine aw_ireturn (ty := .int) dX4_contact_23 rfl rfl ?_
      refine ⟨congrArg (fun z => some (Value.int z)) ?_, rfl⟩
      unfold r_contact
      try rw [nI_clamp (show j < 2 ^ 31 by omega)]
      exact ((if_pos c8).trans (if_neg c19)).symm
def r_alter (f : Nat → Nat → Int32) (k what v : Int32) : Int32 := if 0 ≤ k ∧ k ≤ f 2 1 - 1 then (if k_mayP what v then k_part (f (2 + 2 + k.toNatClampNeg)) what else -1) else -1
def s_alter (f : Nat → Nat → Int32) (k what v : Int32) : Nat → Nat → Int32 := if 0 ≤ k ∧ k ≤ f 2 1 - 1 then (if k_mayP what v then upk f (2 + 2 + k.toNatClampNeg) (k_become (f (2 + 2 + k.toNatClampNeg)) what v) else f) else f
set_option maxRecDepth 100000 in
set_option maxHeartbeats 4000000 in
theorem f_X4_alter {V : am_V} {d : Nat} {f : Nat → Nat → Int32} {τ : Nat → Nat → Int64} {n : Nat} (hn4 : n ≤ 4) (hn : f 2 1 = nI n) (k what v : Int32) : AF V MX4_alter (d + 2) [.ref 0, .int k, .int what, .int v] (f, τ) (some (.int (r_alter f k what v))) (s_alter f k what v, τ) := by
  have t0 := tb_0
  have ttp := tb_tp
  have tkp := tb_kp
  have tB := tb_B isB2
  have tk := tb_Bk isB2
  have t6 := tb_B6 isB2
  have t7 := tb_B7 isB2
  have t8 := tb_B8 isB2
  refine AM.of (L := [some (.ref 0), some (.int k), some (.int what), some (.int v), none]) (by decide +kernel) (Nat.le_of_ble_eq_true rfl) rfl ?_
  refine aw_aload_n (i := 0) dX4_alter_0 rfl rfl ?_
  refine ax_getr (ci := 4) 2 dX4_alter_1 rfl lfX4_16 (by decide) (by assumption) (by rfl) ?_
  refine aw_iload_n (i := 1) dX4_alter_4 rfl rfl ?_
  refine ax_callV1i (M' := MX0_hasKey) (ci := 0) dX4_alter_5 lmX4_101 oX0_hasKey (by decide +kernel) (by assumption) rfl rfl (Nat.le_of_ble_eq_true rfl) (f_X0_hasKey isB2 _) ?_
  refine aw_beq (tgt := 19) dX4_alter_8 (by decide) (fun c8 => ?_) (fun c8 => ?_)
  · refine aw_iconst (v := -1) dX4_alter_19 (by decide) ?_
    refine aw_ireturn (ty := .int) dX4_alter_20 rfl rfl ?_
    refine ⟨congrArg (fun z => some (Value.int z)) ?_, congrArg (fun z => hp (z, τ)) ?_⟩
    · unfold r_alter
      try rw [nI_clamp (show j < 2 ^ 31 by omega)]
      exact (if_neg c8).symm
    · unfold s_alter
      try rw [nI_clamp (show j < 2 ^ 31 by omega)]
      exact (if_neg c8).symm
  · refine aw_iload_n (i := 2) dX4_alter_11 rfl rfl ?_
    refine aw_iload_n (i := 3) dX4_alter_12 rfl rfl ?_
    refine ax_callS2i (M' := MX1_mayBe) dX4_alter_13 lmX4_139 oX1_mayBe (by decide +kernel) (Nat.le_of_ble_eq_true rfl) (e_X1_mayBe _ _) ?_
    refine aw_bne (tgt := 21) dX4_alter_16 (by decide) (fun c16 => ?_) (fun c16 => ?_)
    · obtain ⟨j, hj, rfl⟩ := key_of hn4 (show 0 ≤ k ∧ k ≤ nI n - 1 by rw [← hn]; exact c8)
      have tK := tb_K isB2 (k := j) (by omega)
      refine aw_aload_n (i := 0) dX4_alter_21 rfl rfl ?_
      refine ax_getr (ci := 4) 2 dX4_alter_22 rfl lfX4_16 (by decide) (by assumption) (by rfl) ?_
      refine ax_getr (ci := 0) 0 dX4_alter_25 rfl lfX4_105 (by decide) (by assumption) (by rfl) ?_
      refine aw_iload_n (i := 1) dX4_alter_28 rfl rfl ?_
      refine ax_keyN dX4_alter_29 (by assumption) (by omega) ?_
      refine aw_iload_n (i := 2) dX4_alter_30 rfl rfl ?_
      refine ax_callV1i (M' := MX1_part) (ci := 1) dX4_alter_31 lmX4_109 oX1_part (by decide +kernel) (by assumption) rfl rfl (Nat.le_of_ble_eq_true rfl) (e_X1_part tK _) ?_
      refine aw_istore (i := 4) (L' := [_, _, _, _, _]) dX4_alter_34 (Nat.le_of_ble_eq_true rfl) rfl rfl ?_
      refine aw_aload_n (i := 0) dX4_alter_36 rfl rfl ?_
      refine ax_getr (ci := 4) 2 dX4_alter_37 rfl lfX4_16 (by decide) (by assumption) (by rfl) ?_
      refine ax_getr (ci := 0) 0 dX4_alter_40 rfl lfX4_105 (by decide) (by assumption) (by rfl) ?_
      refine aw_iload_n (i := 1) dX4_alter_43 rfl rfl ?_
      refine ax_keyN dX4_alter_44 (by assumption) (by omega) ?_
      refine aw_iload_n (i := 2) dX4_alter_45 rfl rfl ?_
      refine aw_iload_n (i := 3) dX4_alter_46 rfl rfl ?_
      refine ax_callV2v (M' := MX1_become) (ci := 1) dX4_alter_47 lmX4_143 oX1_become (by decide +kernel) (by assumption) rfl rfl (Nat.le_of_ble_eq_true rfl) (e_X1_become _ tK rfl _ _) ?_
      refine aw_iload dX4_alter_50 rfl ?_
      refine aw_ireturn (ty := .int) dX4_alter_52 rfl rfl ?_
      refine ⟨congrArg (fun z => some (Value.int z)) ?_, congrArg (fun z => hp (z, τ)) ?_⟩
      · unfold r_alter
        try rw [nI_clamp (show j < 2 ^ 31 by omega)]
        exact ((if_pos c8).trans (if_pos c16)).symm
      · unfold s_alter
        try rw [nI_clamp (show j < 2 ^ 31 by omega)]
        exact ((if_pos c8).trans (if_pos c16)).symm
    · refine aw_iconst (v := -1) dX4_alter_19 (by decide) ?_
      refine aw_ireturn (ty := .int) dX4_alter_20 rfl rfl ?_
      refine ⟨congrArg (fun z => some (Value.int z)) ?_, congrArg (fun z => hp (z, τ)) ?_⟩
      · unfold r_alter
        try rw [nI_clamp (show j < 2 ^ 31 by omega)]
        exact ((if_pos c8).trans (if_neg c16)).symm
      · unfold s_alter
        try rw [nI_clamp (show j < 2 ^ 31 by omega)]
        exact ((if_pos c8).trans (if_neg c16)).symm
def r_every (f : Nat → Nat → Int32) (v : Int32) : Int32 := if 1 ≤ v ∧ v ≤ 4 then f 2 6 else -1
def s_every (f : Nat → Nat → Int32) (v : Int32) : Nat → Nat → Int32 := if 1 ≤ v ∧ v ≤ 4 then up2 f 2 6 v else f
def r_drop (f : Nat → Nat → Int32) (v : Int32) : Int32 := if 0 ≤ v ∧ v ≤ f 2 5 then f 2 5 else -1
def s_drop (f : Nat → Nat → Int32) (v : Int32) : Nat → Nat → Int32 := if 0 ≤ v ∧ v ≤ f 2 5 then up2 f 2 5 v else f
def r_forget (f : Nat → Nat → Int32) (v : Int32) : Int32 := if 0 ≤ v ∧ v ≤ f 2 11 then f 2 11 else -1
def s_forget (f : Nat → Nat → Int32) (v : Int32) : Nat → Nat → Int32 := if 0 ≤ v ∧ v ≤ f 2 11 then up2 f 2 11 v else f
set_option maxRecDepth 100000 in
set_option maxHeartbeats 4000000 in
theorem f_X4_every {V : am_V} {d : Nat} {f : Nat → Nat → Int32} {τ : Nat → Nat → Int64}  (v : Int32) : AF V MX4_every (d + 1) [.ref 0, .int v] (f, τ) (some (.int (r_every f v))) (s_every f v, τ) := by
  have t0 := tb_0
  have ttp := tb_tp
  have tkp := tb_kp
  have tB := tb_B isB2
  have tk := tb_Bk isB2
  have t6 := tb_B6 isB2
  have t7 := tb_B7 isB2
  have t8 := tb_B8 isB2
  refine AM.of (L := [some (.ref 0), some (.int v), none]) (by decide +kernel) (Nat.le_of_ble_eq_true rfl) rfl ?_
  refine aw_iload_n (i := 1) dX4_every_0 rfl rfl ?_
  refine aw_iconst (v := 1) dX4_every_1 (by decide) ?_
  refine aw_iconst (v := 4) dX4_every_2 (by decide) ?_
  refine ax_callS3i (M' := MX4_within) dX4_every_3 lmX4_54 oX4_within (by decide +kernel) (Nat.le_of_ble_eq_true rfl) (f_X4_within _ _ _) ?_
  refine aw_bne (tgt := 11) dX4_every_6 (by decide) (fun c6 => ?_) (fun c6 => ?_)
  · refine aw_aload_n (i := 0) dX4_every_11 rfl rfl ?_
    refine ax_getr (ci := 4) 2 dX4_every_12 rfl lfX4_16 (by decide) (by assumption) (by rfl) ?_
    refine ax_geti (ci := 0) 6 dX4_every_15 rfl lfX4_88 (by decide) (by assumption) (by rfl) ?_
    refine aw_istore_n (i := 2) (L' := [_, _, _]) dX4_every_18 rfl (Nat.le_of_ble_eq_true rfl) rfl rfl ?_
    refine aw_aload_n (i := 0) dX4_every_19 rfl rfl ?_
    refine ax_getr (ci := 4) 2 dX4_every_20 rfl lfX4_16 (by decide) (by assumption) (by rfl) ?_
    refine aw_iload_n (i := 1) dX4_every_23 rfl rfl ?_
    refine ax_puti (ci := 0) 6 dX4_every_24 rfl lfX4_88 (by decide) (by assumption) (by rfl) rfl rfl ?_
    refine aw_iload_n (i := 2) dX4_every_27 rfl rfl ?_
    refine aw_ireturn (ty := .int) dX4_every_28 rfl rfl ?_
    exact ⟨congrArg (fun z => some (Value.int z)) (if_pos c6).symm, congrArg (fun z => hp (z, τ)) (if_pos c6).symm⟩
  · refine aw_iconst (v := -1) dX4_every_9 (by decide) ?_
    refine aw_ireturn (ty := .int) dX4_every_10 rfl rfl ?_
    exact ⟨congrArg (fun z => some (Value.int z)) (if_neg c6).symm, congrArg (fun z => hp (z, τ)) (if_neg c6).symm⟩
set_option maxRecDepth 100000 in
set_option maxHeartbeats 4000000 in
theorem f_X4_drop {V : am_V} {d : Nat} {f : Nat → Nat → Int32} {τ : Nat → Nat → Int64}  (v : Int32) : AF V MX4_drop (d + 1) [.ref 0, .int v] (f, τ) (some (.int (r_drop f v))) (s_drop f v, τ) := by
  have t0 := tb_0
  have ttp := tb_tp
  have tkp := tb_kp
  have tB := tb_B isB2
  have tk := tb_Bk isB2
  have t6 := tb_B6 isB2
  have t7 := tb_B7 isB2
  have t8 := tb_B8 isB2
  refine AM.of (L := [some (.ref 0), some (.int v), none]) (by decide +kernel) (Nat.le_of_ble_eq_true rfl) rfl ?_
  refine aw_iload_n (i := 1) dX4_drop_0 rfl rfl ?_
  refine aw_iconst (v := 0) dX4_drop_1 (by decide) ?_
  refine aw_aload_n (i := 0) dX4_drop_2 rfl rfl ?_
  refine ax_getr (ci := 4) 2 dX4_drop_3 rfl lfX4_16 (by decide) (by assumption) (by rfl) ?_
  refine ax_geti (ci := 0) 5 dX4_drop_6 rfl lfX4_82 (by decide) (by assumption) (by rfl) ?_
  refine ax_callS3i (M' := MX4_within) dX4_drop_9 lmX4_54 oX4_within (by decide +kernel) (Nat.le_of_ble_eq_true rfl) (f_X4_within _ _ _) ?_
  refine aw_bne (tgt := 17) dX4_drop_12 (by decide) (fun c12 => ?_) (fun c12 => ?_)
  · refine aw_aload_n (i := 0) dX4_drop_17 rfl rfl ?_
    refine ax_getr (ci := 4) 2 dX4_drop_18 rfl lfX4_16 (by decide) (by assumption) (by rfl) ?_
    refine ax_geti (ci := 0) 5 dX4_drop_21 rfl lfX4_82 (by decide) (by assumption) (by rfl) ?_
    refine aw_istore_n (i := 2) (L' := [_, _, _]) dX4_drop_24 rfl (Nat.le_of_ble_eq_true rfl) rfl rfl ?_
    refine aw_aload_n (i := 0) dX4_drop_25 rfl rfl ?_
    refine ax_getr (ci := 4) 2 dX4_drop_26 rfl lfX4_16 (by decide) (by assumption) (by rfl) ?_
    refine aw_iload_n (i := 1) dX4_drop_29 rfl rfl ?_
    refine ax_puti (ci := 0) 5 dX4_drop_30 rfl lfX4_82 (by decide) (by assumption) (by rfl) rfl rfl ?_
    refine aw_iload_n (i := 2) dX4_drop_33 rfl rfl ?_
    refine aw_ireturn (ty := .int) dX4_drop_34 rfl rfl ?_
    exact ⟨congrArg (fun z => some (Value.int z)) (if_pos c12).symm, congrArg (fun z => hp (z, τ)) (if_pos c12).symm⟩
  · refine aw_iconst (v := -1) dX4_drop_15 (by decide) ?_
    refine aw_ireturn (ty := .int) dX4_drop_16 rfl rfl ?_
    exact ⟨congrArg (fun z => some (Value.int z)) (if_neg c12).symm, congrArg (fun z => hp (z, τ)) (if_neg c12).symm⟩
set_option maxRecDepth 100000 in
set_option maxHeartbeats 4000000 in
theorem f_X4_forget {V : am_V} {d : Nat} {f : Nat → Nat → Int32} {τ : Nat → Nat → Int64}  (v : Int32) : AF V MX4_forget (d + 1) [.ref 0, .int v] (f, τ) (some (.int (r_forget f v))) (s_forget f v, τ) := by
  have t0 := tb_0
  have ttp := tb_tp
  have tkp := tb_kp
  have tB := tb_B isB2
  have tk := tb_Bk isB2
  have t6 := tb_B6 isB2
  have t7 := tb_B7 isB2
  have t8 := tb_B8 isB2
  refine AM.of (L := [some (.ref 0), some (.int v), none]) (by decide +kernel) (Nat.le_of_ble_eq_true rfl) rfl ?_
  refine aw_iload_n (i := 1) dX4_forget_0 rfl rfl ?_
  refine aw_iconst (v := 0) dX4_forget_1 (by decide) ?_
  refine aw_aload_n (i := 0) dX4_forget_2 rfl rfl ?_
  refine ax_getr (ci := 4) 2 dX4_forget_3 rfl lfX4_16 (by decide) (by assumption) (by rfl) ?_
  refine ax_geti (ci := 0) 11 dX4_forget_6 rfl lfX4_247 (by decide) (by assumption) (by rfl) ?_
  refine ax_callS3i (M' := MX4_within) dX4_forget_9 lmX4_54 oX4_within (by decide +kernel) (Nat.le_of_ble_eq_true rfl) (f_X4_within _ _ _) ?_
  refine aw_bne (tgt := 17) dX4_forget_12 (by decide) (fun c12 => ?_) (fun c12 => ?_)
  · refine aw_aload_n (i := 0) dX4_forget_17 rfl rfl ?_
    refine ax_getr (ci := 4) 2 dX4_forget_18 rfl lfX4_16 (by decide) (by assumption) (by rfl) ?_
    refine ax_geti (ci := 0) 11 dX4_forget_21 rfl lfX4_247 (by decide) (by assumption) (by rfl) ?_
    refine aw_istore_n (i := 2) (L' := [_, _, _]) dX4_forget_24 rfl (Nat.le_of_ble_eq_true rfl) rfl rfl ?_
    refine aw_aload_n (i := 0) dX4_forget_25 rfl rfl ?_
    refine ax_getr (ci := 4) 2 dX4_forget_26 rfl lfX4_16 (by decide) (by assumption) (by rfl) ?_
    refine aw_iload_n (i := 1) dX4_forget_29 rfl rfl ?_
    refine ax_puti (ci := 0) 11 dX4_forget_30 rfl lfX4_247 (by decide) (by assumption) (by rfl) rfl rfl ?_
    refine aw_iload_n (i := 2) dX4_forget_33 rfl rfl ?_
    refine aw_ireturn (ty := .int) dX4_forget_34 rfl rfl ?_
    exact ⟨congrArg (fun z => some (Value.int z)) (if_pos c12).symm, congrArg (fun z => hp (z, τ)) (if_pos c12).symm⟩
  · refine aw_iconst (v := -1) dX4_forget_15 (by decide) ?_
    refine aw_ireturn (ty := .int) dX4_forget_16 rfl rfl ?_
    exact ⟨congrArg (fun z => some (Value.int z)) (if_neg c12).symm, congrArg (fun z => hp (z, τ)) (if_neg c12).symm⟩
def r_strike (f : Nat → Nat → Int32) (p : Nat) (t k s : Int32) : Int32 := if 0 ≤ t ∧ t ≤ 99 then (if 0 ≤ k ∧ k ≤ f 2 1 - 1 then (if 0 ≤ s ∧ s ≤ 1 then (if nI p < 8 then nI (p + 1) else -3) else -1) else -1) else -1
def s_strike (f : Nat → Nat → Int32) (p : Nat) (t k s : Int32) : Nat → Nat → Int32 := if 0 ≤ t ∧ t ≤ 99 then (if 0 ≤ k ∧ k ≤ f 2 1 - 1 then (if 0 ≤ s ∧ s ≤ 1 then (if nI p < 8 then apF f 2 6 5 p t k s else f) else f) else f) else f
def r_see (f : Nat → Nat → Int32) (p : Nat) (t k s : Int32) : Int32 := if 0 ≤ t ∧ t ≤ 40 then (if 0 ≤ k ∧ k ≤ f 2 1 - 1 then (if 0 ≤ s ∧ s ≤ 1 then (if nI p < 6 then nI (p + 1) else -3) else -1) else -1) else -1
def s_see (f : Nat → Nat → Int32) (p : Nat) (t k s : Int32) : Nat → Nat → Int32 := if 0 ≤ t ∧ t ≤ 40 then (if 0 ≤ k ∧ k ≤ f 2 1 - 1 then (if 0 ≤ s ∧ s ≤ 1 then (if nI p < 6 then apF f 2 9 11 p t k s else f) else f) else f) else f
theorem apF_q {f : Nat → Nat → Int32} {b m q p : Nat} {x y z : Int32} : apF f b m q p x y z b q = nI (p + 1) := up2_self _ _ _ _
set_option maxRecDepth 100000 in
set_option maxHeartbeats 4000000 in
theorem f_X4_putPress {V : am_V} {d : Nat} {f : Nat → Nat → Int32} {τ : Nat → Nat → Int64} {p : Nat} (hp8 : p ≤ 8) (hp1 : f 2 5 = nI p) (t k s : Int32) : AF V MX4_putPress (d + 2) [.ref 0, .int t, .int k, .int s] (f, τ) (some (.int (r_strike f p t k s))) (s_strike f p t k s, τ) := by
  have t0 := tb_0
  have ttp := tb_tp
  have tkp := tb_kp
  have tB := tb_B isB2
  have tk := tb_Bk isB2
  have t6 := tb_B6 isB2
  have t7 := tb_B7 isB2
  have t8 := tb_B8 isB2
  refine AM.of (L := [some (.ref 0), some (.int t), some (.int k), some (.int s)]) (by decide +kernel) (Nat.le_of_ble_eq_true rfl) rfl ?_
  refine aw_iload_n (i := 1) dX4_putPress_0 rfl rfl ?_
  refine aw_iconst (v := 0) dX4_putPress_1 (by decide) ?_
  refine aw_bipush (v := 99) dX4_putPress_2 (by decide) ?_
  refine ax_callS3i (M' := MX4_within) dX4_putPress_4 lmX4_54 oX4_within (by decide +kernel) (Nat.le_of_ble_eq_true rfl) (f_X4_within _ _ _) ?_
  refine aw_beq (tgt := 30) dX4_putPress_7 (by decide) (fun c7 => ?_) (fun c7 => ?_)
  · refine aw_iconst (v := -1) dX4_putPress_30 (by decide) ?_
    refine aw_ireturn (ty := .int) dX4_putPress_31 rfl rfl ?_
    exact ⟨congrArg (fun z => some (Value.int z)) (if_neg c7).symm, congrArg (fun z => hp (z, τ)) (if_neg c7).symm⟩
  · refine aw_aload_n (i := 0) dX4_putPress_10 rfl rfl ?_
    refine ax_getr (ci := 4) 2 dX4_putPress_11 rfl lfX4_16 (by decide) (by assumption) (by rfl) ?_
    refine aw_iload_n (i := 2) dX4_putPress_14 rfl rfl ?_
    refine ax_callV1i (M' := MX0_hasKey) (ci := 0) dX4_putPress_15 lmX4_101 oX0_hasKey (by decide +kernel) (by assumption) rfl rfl (Nat.le_of_ble_eq_true rfl) (f_X0_hasKey isB2 _) ?_
    refine aw_beq (tgt := 30) dX4_putPress_18 (by decide) (fun c18 => ?_) (fun c18 => ?_)
    · refine aw_iconst (v := -1) dX4_putPress_30 (by decide) ?_
      refine aw_ireturn (ty := .int) dX4_putPress_31 rfl rfl ?_
      exact ⟨congrArg (fun z => some (Value.int z)) ((if_pos c7).trans (if_neg c18)).symm, congrArg (fun z => hp (z, τ)) ((if_pos c7).trans (if_neg c18)).symm⟩
    · refine aw_iload_n (i := 3) dX4_putPress_21 rfl rfl ?_
      refine aw_iconst (v := 0) dX4_putPress_22 (by decide) ?_
      refine aw_iconst (v := 1) dX4_putPress_23 (by decide) ?_
      refine ax_callS3i (M' := MX4_within) dX4_putPress_24 lmX4_54 oX4_within (by decide +kernel) (Nat.le_of_ble_eq_true rfl) (f_X4_within _ _ _) ?_
      refine aw_bne (tgt := 32) dX4_putPress_27 (by decide) (fun c27 => ?_) (fun c27 => ?_)
      · refine aw_aload_n (i := 0) dX4_putPress_32 rfl rfl ?_
        refine ax_getr (ci := 4) 2 dX4_putPress_33 rfl lfX4_16 (by decide) (by assumption) (by rfl) ?_
        refine ax_geti (ci := 0) 5 dX4_putPress_36 rfl lfX4_82 (by decide) (by assumption) (by rfl) ?_
        refine aw_tE (nI p) hp1 ?_
        refine aw_bipush (v := 8) dX4_putPress_39 (by decide) ?_
        refine aw_icmp_lt (tgt := 47) dX4_putPress_41 (by decide) (fun c41 => ?_) (fun c41 => ?_)
        · refine aw_aload_n (i := 0) dX4_putPress_47 rfl rfl ?_
          refine ax_getr (ci := 4) 2 dX4_putPress_48 rfl lfX4_16 (by decide) (by assumption) (by rfl) ?_
          refine aw_iload_n (i := 1) dX4_putPress_51 rfl rfl ?_
          refine aw_iload_n (i := 2) dX4_putPress_52 rfl rfl ?_
          refine aw_iload_n (i := 3) dX4_putPress_53 rfl rfl ?_
          refine ax_callV3v (M' := MX0_addPress) (ci := 0) dX4_putPress_54 lmX4_151 oX0_addPress (by decide +kernel) (by assumption) rfl rfl (Nat.le_of_ble_eq_true rfl) (f_X0_addPress isB2 ((nI_ltI (a := p) (b := 8) (by omega) (by omega)).mp c41) hp1 _ _ _) ?_
          refine aw_aload_n (i := 0) dX4_putPress_57 rfl rfl ?_
          refine ax_getr (ci := 4) 2 dX4_putPress_58 rfl lfX4_16 (by decide) (by assumption) (by rfl) ?_
          refine ax_geti (ci := 0) 5 dX4_putPress_61 rfl lfX4_82 (by decide) (by assumption) (by rfl) ?_
          refine aw_tE (nI (p + 1)) apF_q ?_
          refine aw_ireturn (ty := .int) dX4_putPress_64 rfl rfl ?_
          exact ⟨congrArg (fun z => some (Value.int z)) ((if_pos c7).trans ((if_pos c18).trans ((if_pos c27).trans (if_pos c41)))).symm, congrArg (fun z => hp (z, τ)) ((if_pos c7).trans ((if_pos c18).trans ((if_pos c27).trans (if_pos c41)))).symm⟩
        · refine aw_bipush (v := -3) dX4_putPress_44 (by decide) ?_
          refine aw_ireturn (ty := .int) dX4_putPress_46 rfl rfl ?_
          exact ⟨congrArg (fun z => some (Value.int z)) ((if_pos c7).trans ((if_pos c18).trans ((if_pos c27).trans (if_neg c41)))).symm, congrArg (fun z => hp (z, τ)) ((if_pos c7).trans ((if_pos c18).trans ((if_pos c27).trans (if_neg c41)))).symm⟩
      · refine aw_iconst (v := -1) dX4_putPress_30 (by decide) ?_
        refine aw_ireturn (ty := .int) dX4_putPress_31 rfl rfl ?_
        exact ⟨congrArg (fun z => some (Value.int z)) ((if_pos c7).trans ((if_pos c18).trans (if_neg c27))).symm, congrArg (fun z => hp (z, τ)) ((if_pos c7).trans ((if_pos c18).trans (if_neg c27))).symm⟩
set_option maxRecDepth 100000 in
set_option maxHeartbeats 4000000 in
theorem f_X4_see {V : am_V} {d : Nat} {f : Nat → Nat → Int32} {τ : Nat → Nat → Int64} {p : Nat} (hp8 : p ≤ 6) (hp1 : f 2 11 = nI p) (t k s : Int32) : AF V MX4_see (d + 2) [.ref 0, .int t, .int k, .int s] (f, τ) (some (.int (r_see f p t k s))) (s_see f p t k s, τ) := by
  have t0 := tb_0
  have ttp := tb_tp
  have tkp := tb_kp
  have tB := tb_B isB2
  have tk := tb_Bk isB2
  have t6 := tb_B6 isB2
  have t7 := tb_B7 isB2
  have t8 := tb_B8 isB2
  refine AM.of (L := [some (.ref 0), some (.int t), some (.int k), some (.int s)]) (by decide +kernel) (Nat.le_of_ble_eq_true rfl) rfl ?_
  refine aw_iload_n (i := 1) dX4_see_0 rfl rfl ?_
  refine aw_iconst (v := 0) dX4_see_1 (by decide) ?_
  refine aw_bipush (v := 40) dX4_see_2 (by decide) ?_
  refine ax_callS3i (M' := MX4_within) dX4_see_4 lmX4_54 oX4_within (by decide +kernel) (Nat.le_of_ble_eq_true rfl) (f_X4_within _ _ _) ?_
  refine aw_beq (tgt := 30) dX4_see_7 (by decide) (fun c7 => ?_) (fun c7 => ?_)
  · refine aw_iconst (v := -1) dX4_see_30 (by decide) ?_
    refine aw_ireturn (ty := .int) dX4_see_31 rfl rfl ?_
    exact ⟨congrArg (fun z => some (Value.int z)) (if_neg c7).symm, congrArg (fun z => hp (z, τ)) (if_neg c7).symm⟩
  · refine aw_aload_n (i := 0) dX4_see_10 rfl rfl ?_
    refine ax_getr (ci := 4) 2 dX4_see_11 rfl lfX4_16 (by decide) (by assumption) (by rfl) ?_
    refine aw_iload_n (i := 2) dX4_see_14 rfl rfl ?_
    refine ax_callV1i (M' := MX0_hasKey) (ci := 0) dX4_see_15 lmX4_101 oX0_hasKey (by decide +kernel) (by assumption) rfl rfl (Nat.le_of_ble_eq_true rfl) (f_X0_hasKey isB2 _) ?_
    refine aw_beq (tgt := 30) dX4_see_18 (by decide) (fun c18 => ?_) (fun c18 => ?_)
    · refine aw_iconst (v := -1) dX4_see_30 (by decide) ?_
      refine aw_ireturn (ty := .int) dX4_see_31 rfl rfl ?_
      exact ⟨congrArg (fun z => some (Value.int z)) ((if_pos c7).trans (if_neg c18)).symm, congrArg (fun z => hp (z, τ)) ((if_pos c7).trans (if_neg c18)).symm⟩
    · refine aw_iload_n (i := 3) dX4_see_21 rfl rfl ?_
      refine aw_iconst (v := 0) dX4_see_22 (by decide) ?_
      refine aw_iconst (v := 1) dX4_see_23 (by decide) ?_
      refine ax_callS3i (M' := MX4_within) dX4_see_24 lmX4_54 oX4_within (by decide +kernel) (Nat.le_of_ble_eq_true rfl) (f_X4_within _ _ _) ?_
      refine aw_bne (tgt := 32) dX4_see_27 (by decide) (fun c27 => ?_) (fun c27 => ?_)
      · refine aw_aload_n (i := 0) dX4_see_32 rfl rfl ?_
        refine ax_getr (ci := 4) 2 dX4_see_33 rfl lfX4_16 (by decide) (by assumption) (by rfl) ?_
        refine ax_geti (ci := 0) 11 dX4_see_36 rfl lfX4_247 (by decide) (by assumption) (by rfl) ?_
        refine aw_tE (nI p) hp1 ?_
        refine aw_bipush (v := 6) dX4_see_39 (by decide) ?_
        refine aw_icmp_lt (tgt := 47) dX4_see_41 (by decide) (fun c41 => ?_) (fun c41 => ?_)
        · refine aw_aload_n (i := 0) dX4_see_47 rfl rfl ?_
          refine ax_getr (ci := 4) 2 dX4_see_48 rfl lfX4_16 (by decide) (by assumption) (by rfl) ?_
          refine aw_iload_n (i := 1) dX4_see_51 rfl rfl ?_
          refine aw_iload_n (i := 2) dX4_see_52 rfl rfl ?_
          refine aw_iload_n (i := 3) dX4_see_53 rfl rfl ?_
          refine ax_callV3v (M' := MX0_addSeen) (ci := 0) dX4_see_54 lmX4_250 oX0_addSeen (by decide +kernel) (by assumption) rfl rfl (Nat.le_of_ble_eq_true rfl) (f_X0_addSeen isB2 ((nI_ltI (a := p) (b := 6) (by omega) (by omega)).mp c41) hp1 _ _ _) ?_
          refine aw_aload_n (i := 0) dX4_see_57 rfl rfl ?_
          refine ax_getr (ci := 4) 2 dX4_see_58 rfl lfX4_16 (by decide) (by assumption) (by rfl) ?_
          refine ax_geti (ci := 0) 11 dX4_see_61 rfl lfX4_247 (by decide) (by assumption) (by rfl) ?_
          refine aw_tE (nI (p + 1)) apF_q ?_
          refine aw_ireturn (ty := .int) dX4_see_64 rfl rfl ?_
          exact ⟨congrArg (fun z => some (Value.int z)) ((if_pos c7).trans ((if_pos c18).trans ((if_pos c27).trans (if_pos c41)))).symm, congrArg (fun z => hp (z, τ)) ((if_pos c7).trans ((if_pos c18).trans ((if_pos c27).trans (if_pos c41)))).symm⟩
        · refine aw_bipush (v := -3) dX4_see_44 (by decide) ?_
          refine aw_ireturn (ty := .int) dX4_see_46 rfl rfl ?_
          exact ⟨congrArg (fun z => some (Value.int z)) ((if_pos c7).trans ((if_pos c18).trans ((if_pos c27).trans (if_neg c41)))).symm, congrArg (fun z => hp (z, τ)) ((if_pos c7).trans ((if_pos c18).trans ((if_pos c27).trans (if_neg c41)))).symm⟩
      · refine aw_iconst (v := -1) dX4_see_30 (by decide) ?_
        refine aw_ireturn (ty := .int) dX4_see_31 rfl rfl ?_
        exact ⟨congrArg (fun z => some (Value.int z)) ((if_pos c7).trans ((if_pos c18).trans (if_neg c27))).symm, congrArg (fun z => hp (z, τ)) ((if_pos c7).trans ((if_pos c18).trans (if_neg c27))).symm⟩
set_option maxRecDepth 100000 in
set_option maxHeartbeats 4000000 in
theorem f_X4_strike {V : am_V} {d : Nat} {f : Nat → Nat → Int32} {τ : Nat → Nat → Int64} {p : Nat} (hp8 : p ≤ 8) (hp1 : f 2 5 = nI p) (t k s : Int32) : AF V MX4_strike (d + 3) [.ref 0, .int t, .int k, .int s] (f, τ) (some (.int (r_strike f p t k s))) (s_strike f p t k s, τ) := by
  have t0 := tb_0
  have ttp := tb_tp
  have tkp := tb_kp
  have tB := tb_B isB2
  have tk := tb_Bk isB2
  have t6 := tb_B6 isB2
  have t7 := tb_B7 isB2
  have t8 := tb_B8 isB2
  refine AM.of (L := [some (.ref 0), some (.int t), some (.int k), some (.int s)]) (by decide +kernel) (Nat.le_of_ble_eq_true rfl) rfl ?_
  refine aw_aload_n (i := 0) dX4_strike_0 rfl rfl ?_
  refine aw_iload_n (i := 1) dX4_strike_1 rfl rfl ?_
  refine aw_iload_n (i := 2) dX4_strike_2 rfl rfl ?_
  refine aw_iload_n (i := 3) dX4_strike_3 rfl rfl ?_
  refine ax_callV3i (M' := MX4_putPress) (ci := 4) dX4_strike_4 lmX4_147 oX4_putPress (by decide +kernel) (by assumption) rfl rfl (Nat.le_of_ble_eq_true rfl) (f_X4_putPress hp8 hp1 _ _ _) ?_
  refine aw_ireturn (ty := .int) dX4_strike_7 rfl rfl ?_
  exact ⟨rfl, rfl⟩
def r_due (f : Nat → Nat → Int32) (p : Nat) (n : Int32) : Int32 := if 0 ≤ n ∧ n ≤ 200 then dueF (f (2 + 6)) (f (2 + 8)) (f 2 7) (f 2 7 + n - 1) p else -1
set_option maxRecDepth 100000 in
set_option maxHeartbeats 4000000 in
theorem f_X4_due {V : am_V} {d : Nat} {f : Nat → Nat → Int32} {τ : Nat → Nat → Int64} {p : Nat} (hp8 : p ≤ 8) (hp1 : f 2 5 = nI p) (n : Int32) : AF V MX4_due (d + 2) [.ref 0, .int n] (f, τ) (some (.int (r_due f p n))) (f, τ) := by
  have t0 := tb_0
  have ttp := tb_tp
  have tkp := tb_kp
  have tB := tb_B isB2
  have tk := tb_Bk isB2
  have t6 := tb_B6 isB2
  have t7 := tb_B7 isB2
  have t8 := tb_B8 isB2
  refine AM.of (L := [some (.ref 0), some (.int n)]) (by decide +kernel) (Nat.le_of_ble_eq_true rfl) rfl ?_
  refine aw_iload_n (i := 1) dX4_due_0 rfl rfl ?_
  refine ax_callS1i (M' := MX4_isRun) dX4_due_1 lmX4_165 oX4_isRun (by decide +kernel) (Nat.le_of_ble_eq_true rfl) (f_X4_isRun _) ?_
  refine aw_beq (tgt := 18) dX4_due_4 (by decide) (fun c4 => ?_) (fun c4 => ?_)
  · refine aw_iconst (v := -1) dX4_due_18 (by decide) ?_
    refine aw_ireturn (ty := .int) dX4_due_19 rfl rfl ?_
    exact ⟨congrArg (fun z => some (Value.int z)) (if_neg c4).symm, rfl⟩
  · refine aw_aload_n (i := 0) dX4_due_7 rfl rfl ?_
    refine ax_getr (ci := 4) 2 dX4_due_8 rfl lfX4_16 (by decide) (by assumption) (by rfl) ?_
    refine aw_iload_n (i := 1) dX4_due_11 rfl rfl ?_
    refine ax_callV1i (M' := MX0_dueIn) (ci := 0) dX4_due_12 lmX4_181 oX0_dueIn (by decide +kernel) (by assumption) rfl rfl (Nat.le_of_ble_eq_true rfl) (f_X0_dueIn isB2 hp8 hp1 _) ?_
    refine aw_goto (tgt := 19) dX4_due_15 (by decide) ?_
    refine aw_ireturn (ty := .int) dX4_due_19 rfl rfl ?_
    exact ⟨congrArg (fun z => some (Value.int z)) (if_pos c4).symm, rfl⟩
def s_tk0 (f : Nat → Nat → Int32) (n : Nat) : Nat → Nat → Int32 := upn f 2 n (fun k => k_start (f (2 + 2 + k)))
def r_ticks (f : Nat → Nat → Int32) (n p : Nat) (x : Int32) : Int32 := if 0 ≤ x ∧ x ≤ 100 then (if f 2 7 + x ≤ 999 then sumF (fun k => advF (s_tk0 f n) 2 n p x.toNatClampNeg (2 + 2 + k) 7) n else -3) else -1
def s_ticks (f : Nat → Nat → Int32) (n p : Nat) (x : Int32) : Nat → Nat → Int32 := if 0 ≤ x ∧ x ≤ 100 then (if f 2 7 + x ≤ 999 then advF (s_tk0 f n) 2 n p x.toNatClampNeg else f) else f
theorem tk0_b {f : Nat → Nat → Int32} {n j : Nat} : s_tk0 f n 2 j = f 2 j := congrFun (upn_out (Or.inl (by omega))) j
set_option maxRecDepth 100000 in
set_option maxHeartbeats 4000000 in
theorem f_X4_ticks {V : am_V} {d : Nat} {f : Nat → Nat → Int32} {τ : Nat → Nat → Int64} {n : Nat} (hn4 : n ≤ 4) (hn : f 2 1 = nI n) {p : Nat} (hp8 : p ≤ 8) (hp1 : f 2 5 = nI p) (x : Int32) : AF V MX4_ticks (d + 5) [.ref 0, .int x] (f, τ) (some (.int (r_ticks f n p x))) (s_ticks f n p x, τ) := by
  have t0 := tb_0
  have ttp := tb_tp
  have tkp := tb_kp
  have tB := tb_B isB2
  have tk := tb_Bk isB2
  have t6 := tb_B6 isB2
  have t7 := tb_B7 isB2
  have t8 := tb_B8 isB2
  refine AM.of (L := [some (.ref 0), some (.int x)]) (by decide +kernel) (Nat.le_of_ble_eq_true rfl) rfl ?_
  refine aw_iload_n (i := 1) dX4_ticks_0 rfl rfl ?_
  refine aw_iconst (v := 0) dX4_ticks_1 (by decide) ?_
  refine aw_bipush (v := 100) dX4_ticks_2 (by decide) ?_
  refine ax_callS3i (M' := MX4_within) dX4_ticks_4 lmX4_54 oX4_within (by decide +kernel) (Nat.le_of_ble_eq_true rfl) (f_X4_within _ _ _) ?_
  refine aw_bne (tgt := 12) dX4_ticks_7 (by decide) (fun c7 => ?_) (fun c7 => ?_)
  · refine aw_aload_n (i := 0) dX4_ticks_12 rfl rfl ?_
    refine ax_getr (ci := 4) 2 dX4_ticks_13 rfl lfX4_16 (by decide) (by assumption) (by rfl) ?_
    refine ax_geti (ci := 0) 7 dX4_ticks_16 rfl lfX4_85 (by decide) (by assumption) (by rfl) ?_
    refine aw_iload_n (i := 1) dX4_ticks_19 rfl rfl ?_
    refine aw_iadd dX4_ticks_20 ?_
    refine aw_sipush (v := 999) dX4_ticks_21 (by decide) ?_
    refine aw_icmp_le (tgt := 30) dX4_ticks_24 (by decide) (fun c24 => ?_) (fun c24 => ?_)
    · obtain ⟨j, hj, rfl⟩ := rng_of (n := 100) (by omega) c7
      refine aw_aload_n (i := 0) dX4_ticks_30 rfl rfl ?_
      refine ax_getr (ci := 4) 2 dX4_ticks_31 rfl lfX4_16 (by decide) (by assumption) (by rfl) ?_
      refine ax_callV0v (M' := MX0_startRun) (ci := 0) dX4_ticks_34 lmX4_155 oX0_startRun (by decide +kernel) (by assumption) rfl rfl (Nat.le_of_ble_eq_true rfl) (f_X0_startRun isB2 hn4 hn) ?_
      refine aw_aload_n (i := 0) dX4_ticks_37 rfl rfl ?_
      refine ax_getr (ci := 4) 2 dX4_ticks_38 rfl lfX4_16 (by decide) (by assumption) (by rfl) ?_
      refine aw_iload_n (i := 1) dX4_ticks_41 rfl rfl ?_
      refine ax_callV1v (M' := MX0_advance) (ci := 0) dX4_ticks_42 lmX4_158 oX0_advance (by decide +kernel) (by assumption) rfl rfl (Nat.le_of_ble_eq_true rfl) (f_X0_advance (f := s_tk0 f n) (N := j) isB2 hn4 (tk0_b.trans hn) hp8 (tk0_b.trans hp1) (by omega)) ?_
      refine aw_aload_n (i := 0) dX4_ticks_45 rfl rfl ?_
      refine ax_getr (ci := 4) 2 dX4_ticks_46 rfl lfX4_16 (by decide) (by assumption) (by rfl) ?_
      refine ax_callV0i (M' := MX0_struckInRun) (ci := 0) dX4_ticks_49 lmX4_162 oX0_struckInRun (by decide +kernel) (by assumption) rfl rfl (Nat.le_of_ble_eq_true rfl) (f_X0_struckInRun isB2 hn4 (by rw [advF_b (by decide)]; exact tk0_b.trans hn)) ?_
      refine aw_ireturn (ty := .int) dX4_ticks_52 rfl rfl ?_
      refine ⟨congrArg (fun z => some (Value.int z)) ?_, congrArg (fun z => hp (z, τ)) ?_⟩
      · unfold r_ticks
        try rw [nI_clamp (show j < 2 ^ 31 by omega)]
        exact ((if_pos c7).trans (if_pos c24)).symm
      · unfold s_ticks
        try rw [nI_clamp (show j < 2 ^ 31 by omega)]
        exact ((if_pos c7).trans (if_pos c24)).symm
    · refine aw_bipush (v := -3) dX4_ticks_27 (by decide) ?_
      refine aw_ireturn (ty := .int) dX4_ticks_29 rfl rfl ?_
      refine ⟨congrArg (fun z => some (Value.int z)) ?_, congrArg (fun z => hp (z, τ)) ?_⟩
      · unfold r_ticks
        try rw [nI_clamp (show j < 2 ^ 31 by omega)]
        exact ((if_pos c7).trans (if_neg c24)).symm
      · unfold s_ticks
        try rw [nI_clamp (show j < 2 ^ 31 by omega)]
        exact ((if_pos c7).trans (if_neg c24)).symm
  · refine aw_iconst (v := -1) dX4_ticks_10 (by decide) ?_
    refine aw_ireturn (ty := .int) dX4_ticks_11 rfl rfl ?_
    refine ⟨congrArg (fun z => some (Value.int z)) ?_, congrArg (fun z => hp (z, τ)) ?_⟩
    · unfold r_ticks
      try rw [nI_clamp (show j < 2 ^ 31 by omega)]
      exact (if_neg c7).symm
    · unfold s_ticks
      try rw [nI_clamp (show j < 2 ^ 31 by omega)]
      exact (if_neg c7).symm
def r_keep (f : Nat → Nat → Int32) (k : Int32) : Int32 := if 0 ≤ k ∧ k ≤ 1 then (if f 27 k.toNatClampNeg = 0 then 0 else 1) else -1
def s_keep (f : Nat → Nat → Int32) (k : Int32) : Nat → Nat → Int32 := if 0 ≤ k ∧ k ≤ 1 then up2 (caF f (28 + 12 * k.toNatClampNeg) 2) 27 k.toNatClampNeg 1 else f
def r_back (f : Nat → Nat → Int32) (k : Int32) : Int32 := if 0 ≤ k ∧ k ≤ 1 then (if f 27 k.toNatClampNeg = 0 then -2 else f (28 + 12 * k.toNatClampNeg) 7) else -1
def s_back (f : Nat → Nat → Int32) (k : Int32) : Nat → Nat → Int32 := if 0 ≤ k ∧ k ≤ 1 then (if f 27 k.toNatClampNeg = 0 then f else caF f 2 (28 + 12 * k.toNatClampNeg)) else f
theorem isBi {k : Nat} (hk : k < 2) : am_isB (28 + 12 * k) := by
  rcases (show k = 0 ∨ k = 1 by omega) with rfl | rfl
  · exact Or.inr (Or.inr (Or.inl rfl))
  · exact Or.inr (Or.inr (Or.inr rfl))
set_option maxRecDepth 100000 in
set_option maxHeartbeats 4000000 in
theorem f_X4_keep {V : am_V} {d : Nat} {f : Nat → Nat → Int32} {τ : Nat → Nat → Int64}  (k : Int32) : AF V MX4_keep (d + 3) [.ref 0, .int k] (f, τ) (some (.int (r_keep f k))) (s_keep f k, τ) := by
  have t0 := tb_0
  have ttp := tb_tp
  have tkp := tb_kp
  have tB := tb_B isB2
  have tk := tb_Bk isB2
  have t6 := tb_B6 isB2
  have t7 := tb_B7 isB2
  have t8 := tb_B8 isB2
  refine AM.of (L := [some (.ref 0), some (.int k), none]) (by decide +kernel) (Nat.le_of_ble_eq_true rfl) rfl ?_
  refine aw_iload_n (i := 1) dX4_keep_0 rfl rfl ?_
  refine aw_iconst (v := 0) dX4_keep_1 (by decide) ?_
  refine aw_iconst (v := 1) dX4_keep_2 (by decide) ?_
  refine ax_callS3i (M' := MX4_within) dX4_keep_3 lmX4_54 oX4_within (by decide +kernel) (Nat.le_of_ble_eq_true rfl) (f_X4_within _ _ _) ?_
  refine aw_bne (tgt := 11) dX4_keep_6 (by decide) (fun c6 => ?_) (fun c6 => ?_)
  · obtain ⟨j, hj0, rfl⟩ := rng_of (n := 1) (by omega) c6
    have hj : j < 2 := by omega
    have tI := tb_B (isBi hj)
    refine aw_aload_n (i := 0) dX4_keep_11 rfl rfl ?_
    refine ax_getr (ci := 4) 5 dX4_keep_12 rfl lfX4_27 (by decide) (by assumption) (by rfl) ?_
    refine aw_iload_n (i := 1) dX4_keep_15 rfl rfl ?_
    refine ax_zaldN dX4_keep_16 tkp hj (Nat.le_of_ble_eq_true rfl) ?_
    refine aw_if_eq (tgt := 24) dX4_keep_17 (by decide) (fun c17 => ?_) (fun c17 => ?_)
    · refine aw_iconst (v := 0) dX4_keep_24 (by decide) ?_
      refine aw_istore_n (i := 2) (L' := [_, _, _]) dX4_keep_25 rfl (Nat.le_of_ble_eq_true rfl) rfl rfl ?_
      refine aw_aload_n (i := 0) dX4_keep_26 rfl rfl ?_
      refine ax_getr (ci := 4) 4 dX4_keep_27 rfl lfX4_23 (by decide) (by assumption) (by rfl) ?_
      refine aw_iload_n (i := 1) dX4_keep_30 rfl rfl ?_
      refine ax_imgN dX4_keep_31 hj ?_
      refine aw_aload_n (i := 0) dX4_keep_32 rfl rfl ?_
      refine ax_getr (ci := 4) 2 dX4_keep_33 rfl lfX4_16 (by decide) (by assumption) (by rfl) ?_
      refine ax_callV1v (M' := MX0_copyFrom) (ci := 0) dX4_keep_36 lmX4_75 oX0_copyFrom (by decide +kernel) (by assumption) rfl rfl (Nat.le_of_ble_eq_true rfl) (f_X0_copyFrom (isBi hj) isB2 (Or.inr (by omega))) ?_
      refine aw_aload_n (i := 0) dX4_keep_39 rfl rfl ?_
      refine ax_getr (ci := 4) 5 dX4_keep_40 rfl lfX4_27 (by decide) (by assumption) (by rfl) ?_
      refine aw_iload_n (i := 1) dX4_keep_43 rfl rfl ?_
      refine aw_iconst (v := 1) dX4_keep_44 (by decide) ?_
      refine ax_zastN dX4_keep_45 tkp hj (Nat.le_of_ble_eq_true rfl) (Or.inr rfl) ?_
      refine aw_iload_n (i := 2) dX4_keep_46 rfl rfl ?_
      refine aw_ireturn (ty := .int) dX4_keep_47 rfl rfl ?_
      refine ⟨congrArg (fun z => some (Value.int z)) ?_, congrArg (fun z => hp (z, τ)) ?_⟩
      · unfold r_keep
        rw [nI_clamp (show j < 2 ^ 31 by omega)]
        exact ((if_pos c6).trans (if_pos c17)).symm
      · unfold s_keep
        rw [nI_clamp (show j < 2 ^ 31 by omega)]
        exact (if_pos c6).symm
    · refine aw_iconst (v := 1) dX4_keep_20 (by decide) ?_
      refine aw_goto (tgt := 25) dX4_keep_21 (by decide) ?_
      refine aw_istore_n (i := 2) (L' := [_, _, _]) dX4_keep_25 rfl (Nat.le_of_ble_eq_true rfl) rfl rfl ?_
      refine aw_aload_n (i := 0) dX4_keep_26 rfl rfl ?_
      refine ax_getr (ci := 4) 4 dX4_keep_27 rfl lfX4_23 (by decide) (by assumption) (by rfl) ?_
      refine aw_iload_n (i := 1) dX4_keep_30 rfl rfl ?_
      refine ax_imgN dX4_keep_31 hj ?_
      refine aw_aload_n (i := 0) dX4_keep_32 rfl rfl ?_
      refine ax_getr (ci := 4) 2 dX4_keep_33 rfl lfX4_16 (by decide) (by assumption) (by rfl) ?_
      refine ax_callV1v (M' := MX0_copyFrom) (ci := 0) dX4_keep_36 lmX4_75 oX0_copyFrom (by decide +kernel) (by assumption) rfl rfl (Nat.le_of_ble_eq_true rfl) (f_X0_copyFrom (isBi hj) isB2 (Or.inr (by omega))) ?_
      refine aw_aload_n (i := 0) dX4_keep_39 rfl rfl ?_
      refine ax_getr (ci := 4) 5 dX4_keep_40 rfl lfX4_27 (by decide) (by assumption) (by rfl) ?_
      refine aw_iload_n (i := 1) dX4_keep_43 rfl rfl ?_
      refine aw_iconst (v := 1) dX4_keep_44 (by decide) ?_
      refine ax_zastN dX4_keep_45 tkp hj (Nat.le_of_ble_eq_true rfl) (Or.inr rfl) ?_
      refine aw_iload_n (i := 2) dX4_keep_46 rfl rfl ?_
      refine aw_ireturn (ty := .int) dX4_keep_47 rfl rfl ?_
      refine ⟨congrArg (fun z => some (Value.int z)) ?_, congrArg (fun z => hp (z, τ)) ?_⟩
      · unfold r_keep
        rw [nI_clamp (show j < 2 ^ 31 by omega)]
        exact ((if_pos c6).trans (if_neg c17)).symm
      · unfold s_keep
        rw [nI_clamp (show j < 2 ^ 31 by omega)]
        exact (if_pos c6).symm
  · refine aw_iconst (v := -1) dX4_keep_9 (by decide) ?_
    refine aw_ireturn (ty := .int) dX4_keep_10 rfl rfl ?_
    exact ⟨congrArg (fun z => some (Value.int z)) (if_neg c6).symm, congrArg (fun z => hp (z, τ)) (if_neg c6).symm⟩
set_option maxRecDepth 100000 in
set_option maxHeartbeats 4000000 in
theorem f_X4_back {V : am_V} {d : Nat} {f : Nat → Nat → Int32} {τ : Nat → Nat → Int64}  (k : Int32) : AF V MX4_back (d + 3) [.ref 0, .int k] (f, τ) (some (.int (r_back f k))) (s_back f k, τ) := by
  have t0 := tb_0
  have ttp := tb_tp
  have tkp := tb_kp
  have tB := tb_B isB2
  have tk := tb_Bk isB2
  have t6 := tb_B6 isB2
  have t7 := tb_B7 isB2
  have t8 := tb_B8 isB2
  refine AM.of (L := [some (.ref 0), some (.int k)]) (by decide +kernel) (Nat.le_of_ble_eq_true rfl) rfl ?_
  refine aw_iload_n (i := 1) dX4_back_0 rfl rfl ?_
  refine aw_iconst (v := 0) dX4_back_1 (by decide) ?_
  refine aw_iconst (v := 1) dX4_back_2 (by decide) ?_
  refine ax_callS3i (M' := MX4_within) dX4_back_3 lmX4_54 oX4_within (by decide +kernel) (Nat.le_of_ble_eq_true rfl) (f_X4_within _ _ _) ?_
  refine aw_bne (tgt := 11) dX4_back_6 (by decide) (fun c6 => ?_) (fun c6 => ?_)
  · obtain ⟨j, hj0, rfl⟩ := rng_of (n := 1) (by omega) c6
    have hj : j < 2 := by omega
    have tI := tb_B (isBi hj)
    refine aw_aload_n (i := 0) dX4_back_11 rfl rfl ?_
    refine ax_getr (ci := 4) 5 dX4_back_12 rfl lfX4_27 (by decide) (by assumption) (by rfl) ?_
    refine aw_iload_n (i := 1) dX4_back_15 rfl rfl ?_
    refine ax_zaldN dX4_back_16 tkp hj (Nat.le_of_ble_eq_true rfl) ?_
    refine aw_if_ne (tgt := 23) dX4_back_17 (by decide) (fun c17 => ?_) (fun c17 => ?_)
    · refine aw_aload_n (i := 0) dX4_back_23 rfl rfl ?_
      refine ax_getr (ci := 4) 2 dX4_back_24 rfl lfX4_16 (by decide) (by assumption) (by rfl) ?_
      refine aw_aload_n (i := 0) dX4_back_27 rfl rfl ?_
      refine ax_getr (ci := 4) 4 dX4_back_28 rfl lfX4_23 (by decide) (by assumption) (by rfl) ?_
      refine aw_iload_n (i := 1) dX4_back_31 rfl rfl ?_
      refine ax_imgN dX4_back_32 hj ?_
      refine ax_callV1v (M' := MX0_copyFrom) (ci := 0) dX4_back_33 lmX4_75 oX0_copyFrom (by decide +kernel) (by assumption) rfl rfl (Nat.le_of_ble_eq_true rfl) (f_X0_copyFrom isB2 (isBi hj) (Or.inl (by omega))) ?_
      refine aw_aload_n (i := 0) dX4_back_36 rfl rfl ?_
      refine ax_getr (ci := 4) 2 dX4_back_37 rfl lfX4_16 (by decide) (by assumption) (by rfl) ?_
      refine ax_geti (ci := 0) 7 dX4_back_40 rfl lfX4_85 (by decide) (by assumption) (by rfl) ?_
      refine aw_tE (f (28 + 12 * j) 7) (caF_b (by omega)) ?_
      refine aw_ireturn (ty := .int) dX4_back_43 rfl rfl ?_
      refine ⟨congrArg (fun z => some (Value.int z)) ?_, congrArg (fun z => hp (z, τ)) ?_⟩
      · unfold r_back
        try rw [nI_clamp (show j < 2 ^ 31 by omega)]
        exact ((if_pos c6).trans (if_neg c17)).symm
      · unfold s_back
        try rw [nI_clamp (show j < 2 ^ 31 by omega)]
        exact ((if_pos c6).trans (if_neg c17)).symm
    · refine aw_bipush (v := -2) dX4_back_20 (by decide) ?_
      refine aw_ireturn (ty := .int) dX4_back_22 rfl rfl ?_
      refine ⟨congrArg (fun z => some (Value.int z)) ?_, congrArg (fun z => hp (z, τ)) ?_⟩
      · unfold r_back
        try rw [nI_clamp (show j < 2 ^ 31 by omega)]
        exact ((if_pos c6).trans (if_pos c17)).symm
      · unfold s_back
        try rw [nI_clamp (show j < 2 ^ 31 by omega)]
        exact ((if_pos c6).trans (if_pos c17)).symm
  · refine aw_iconst (v := -1) dX4_back_9 (by decide) ?_
    refine aw_ireturn (ty := .int) dX4_back_10 rfl rfl ?_
    refine ⟨congrArg (fun z => some (Value.int z)) ?_, congrArg (fun z => hp (z, τ)) ?_⟩
    · unfold r_back
      try rw [nI_clamp (show j < 2 ^ 31 by omega)]
      exact (if_neg c6).symm
    · unfold s_back
      try rw [nI_clamp (show j < 2 ^ 31 by omega)]
      exact (if_neg c6).symm
def r_sheet (k ln n : Int32) : Int32 := if 0 ≤ k ∧ k ≤ 3 then (if 0 ≤ ln ∧ ln ≤ 2 then (if n ≤ 40 then (if 0 ≤ n then 1 else -14) else -1) else -1) else -1
def s_sheet (f : Nat → Nat → Int32) (k ln n : Int32) : Nat → Nat → Int32 := if 0 ≤ k ∧ k ≤ 3 then (if 0 ≤ ln ∧ ln ≤ 2 then (if n ≤ 40 then (if 0 ≤ n then rnF f (53 + 2 * k.toNatClampNeg) ln n else f) else f) else f) else f
def r_lay (f : Nat → Nat → Int32) (k i : Int32) : Int32 := if 0 ≤ k ∧ k ≤ 3 then (if faF f (53 + 2 * k.toNatClampNeg) i = 0 then 1 else -10 - faF f (53 + 2 * k.toNatClampNeg) i) else -1
def s_lay (f : Nat → Nat → Int32) (k i v : Int32) : Nat → Nat → Int32 := if 0 ≤ k ∧ k ≤ 3 then (if faF f (53 + 2 * k.toNatClampNeg) i = 0 then ptF f (53 + 2 * k.toNatClampNeg) i v else f) else f
theorem isSi {k : Nat} (hk : k < 4) : am_isS (53 + 2 * k) := by
  rcases (show k = 0 ∨ k = 1 ∨ k = 2 ∨ k = 3 by omega) with rfl | rfl | rfl | rfl
  · exact Or.inl rfl
  · exact Or.inr (Or.inl rfl)
  · exact Or.inr (Or.inr (Or.inl rfl))
  · exact Or.inr (Or.inr (Or.inr rfl))
set_option maxRecDepth 100000 in
set_option maxHeartbeats 4000000 in
theorem f_X4_sheet {V : am_V} {d : Nat} {f : Nat → Nat → Int32} {τ : Nat → Nat → Int64}  (k ln n : Int32) : AF V MX4_sheet (d + 2) [.ref 0, .int k, .int ln, .int n] (f, τ) (some (.int (r_sheet k ln n))) (s_sheet f k ln n, τ) := by
  have t0 := tb_0
  have ttp := tb_tp
  have tkp := tb_kp
  have tB := tb_B isB2
  have tk := tb_Bk isB2
  have t6 := tb_B6 isB2
  have t7 := tb_B7 isB2
  have t8 := tb_B8 isB2
  refine AM.of (L := [some (.ref 0), some (.int k), some (.int ln), some (.int n)]) (by decide +kernel) (Nat.le_of_ble_eq_true rfl) rfl ?_
  refine aw_iload_n (i := 1) dX4_sheet_0 rfl rfl ?_
  refine ax_callS1i (M' := MX4_isSheet) dX4_sheet_1 lmX4_271 oX4_isSheet (by decide +kernel) (Nat.le_of_ble_eq_true rfl) (f_X4_isSheet _) ?_
  refine aw_beq (tgt := 20) dX4_sheet_4 (by decide) (fun c4 => ?_) (fun c4 => ?_)
  · refine aw_iconst (v := -1) dX4_sheet_20 (by decide) ?_
    refine aw_ireturn (ty := .int) dX4_sheet_21 rfl rfl ?_
    refine ⟨congrArg (fun z => some (Value.int z)) ?_, congrArg (fun z => hp (z, τ)) ?_⟩
    · unfold r_sheet
      try rw [nI_clamp (show j < 2 ^ 31 by omega)]
      exact (if_neg c4).symm
    · unfold s_sheet
      try rw [nI_clamp (show j < 2 ^ 31 by omega)]
      exact (if_neg c4).symm
  · refine aw_iload_n (i := 2) dX4_sheet_7 rfl rfl ?_
    refine ax_callS1i (M' := MX2_isLane) dX4_sheet_8 lmX4_274 oX2_isLane (by decide +kernel) (Nat.le_of_ble_eq_true rfl) (f_X2_isLane _) ?_
    refine aw_beq (tgt := 20) dX4_sheet_11 (by decide) (fun c11 => ?_) (fun c11 => ?_)
    · refine aw_iconst (v := -1) dX4_sheet_20 (by decide) ?_
      refine aw_ireturn (ty := .int) dX4_sheet_21 rfl rfl ?_
      refine ⟨congrArg (fun z => some (Value.int z)) ?_, congrArg (fun z => hp (z, τ)) ?_⟩
      · unfold r_sheet
        try rw [nI_clamp (show j < 2 ^ 31 by omega)]
        exact ((if_pos c4).trans (if_neg c11)).symm
      · unfold s_sheet
        try rw [nI_clamp (show j < 2 ^ 31 by omega)]
        exact ((if_pos c4).trans (if_neg c11)).symm
    · refine aw_iload_n (i := 3) dX4_sheet_14 rfl rfl ?_
      refine aw_bipush (v := 40) dX4_sheet_15 (by decide) ?_
      refine aw_icmp_le (tgt := 22) dX4_sheet_17 (by decide) (fun c17 => ?_) (fun c17 => ?_)
      · refine aw_iload_n (i := 3) dX4_sheet_22 rfl rfl ?_
        refine aw_if_ge (tgt := 29) dX4_sheet_23 (by decide) (fun c23 => ?_) (fun c23 => ?_)
        · obtain ⟨j, hj0, rfl⟩ := rng_of (n := 3) (by omega) c4
          have hj : j < 4 := by omega
          have tS := tb_S (isSi hj)
          refine aw_aload_n (i := 0) dX4_sheet_29 rfl rfl ?_
          refine ax_getr (ci := 4) 6 dX4_sheet_30 rfl lfX4_33 (by decide) (by assumption) (by rfl) ?_
          refine aw_iload_n (i := 1) dX4_sheet_33 rfl rfl ?_
          refine ax_shtN dX4_sheet_34 hj ?_
          refine aw_iload_n (i := 2) dX4_sheet_35 rfl rfl ?_
          refine aw_iload_n (i := 3) dX4_sheet_36 rfl rfl ?_
          refine ax_callV2v (M' := MX2_renew) (ci := 2) dX4_sheet_37 lmX4_277 oX2_renew (by decide +kernel) (by assumption) rfl rfl (Nat.le_of_ble_eq_true rfl) (f_X2_renew (isSi hj) _ _) ?_
          refine aw_iconst (v := 1) dX4_sheet_40 (by decide) ?_
          refine aw_ireturn (ty := .int) dX4_sheet_41 rfl rfl ?_
          refine ⟨congrArg (fun z => some (Value.int z)) ?_, congrArg (fun z => hp (z, τ)) ?_⟩
          · unfold r_sheet
            try rw [nI_clamp (show j < 2 ^ 31 by omega)]
            exact ((if_pos c4).trans ((if_pos c11).trans ((if_pos c17).trans (if_pos c23)))).symm
          · unfold s_sheet
            try rw [nI_clamp (show j < 2 ^ 31 by omega)]
            exact ((if_pos c4).trans ((if_pos c11).trans ((if_pos c17).trans (if_pos c23)))).symm
        · refine aw_bipush (v := -14) dX4_sheet_26 (by decide) ?_
          refine aw_ireturn (ty := .int) dX4_sheet_28 rfl rfl ?_
          refine ⟨congrArg (fun z => some (Value.int z)) ?_, congrArg (fun z => hp (z, τ)) ?_⟩
          · unfold r_sheet
            try rw [nI_clamp (show j < 2 ^ 31 by omega)]
            exact ((if_pos c4).trans ((if_pos c11).trans ((if_pos c17).trans (if_neg c23)))).symm
          · unfold s_sheet
            try rw [nI_clamp (show j < 2 ^ 31 by omega)]
            exact ((if_pos c4).trans ((if_pos c11).trans ((if_pos c17).trans (if_neg c23)))).symm
      · refine aw_iconst (v := -1) dX4_sheet_20 (by decide) ?_
        refine aw_ireturn (ty := .int) dX4_sheet_21 rfl rfl ?_
        refine ⟨congrArg (fun z => some (Value.int z)) ?_, congrArg (fun z => hp (z, τ)) ?_⟩
        · unfold r_sheet
          try rw [nI_clamp (show j < 2 ^ 31 by omega)]
          exact ((if_pos c4).trans ((if_pos c11).trans (if_neg c17))).symm
        · unfold s_sheet
          try rw [nI_clamp (show j < 2 ^ 31 by omega)]
          exact ((if_pos c4).trans ((if_pos c11).trans (if_neg c17))).symm
set_option maxRecDepth 100000 in
set_option maxHeartbeats 4000000 in
theorem f_X4_lay {V : am_V} {d : Nat} {f : Nat → Nat → Int32} {τ : Nat → Nat → Int64} (hsz : ∀ j, j < 4 → ∃ z, z ≤ 40 ∧ f (53 + 2 * j) 2 = nI z) (k i v : Int32) : AF V MX4_lay (d + 3) [.ref 0, .int k, .int i, .int v] (f, τ) (some (.int (r_lay f k i))) (s_lay f k i v, τ) := by
  have t0 := tb_0
  have ttp := tb_tp
  have tkp := tb_kp
  have tB := tb_B isB2
  have tk := tb_Bk isB2
  have t6 := tb_B6 isB2
  have t7 := tb_B7 isB2
  have t8 := tb_B8 isB2
  refine AM.of (L := [some (.ref 0), some (.int k), some (.int i), some (.int v), none]) (by decide +kernel) (Nat.le_of_ble_eq_true rfl) rfl ?_
  refine aw_iload_n (i := 1) dX4_lay_0 rfl rfl ?_
  refine ax_callS1i (M' := MX4_isSheet) dX4_lay_1 lmX4_271 oX4_isSheet (by decide +kernel) (Nat.le_of_ble_eq_true rfl) (f_X4_isSheet _) ?_
  refine aw_bne (tgt := 9) dX4_lay_4 (by decide) (fun c4 => ?_) (fun c4 => ?_)
  · obtain ⟨j, hj0, rfl⟩ := rng_of (n := 3) (by omega) c4
    have hj : j < 4 := by omega
    have tS := tb_S (isSi hj)
    obtain ⟨z, hz, ez⟩ := hsz j hj
    refine aw_aload_n (i := 0) dX4_lay_9 rfl rfl ?_
    refine ax_getr (ci := 4) 6 dX4_lay_10 rfl lfX4_33 (by decide) (by assumption) (by rfl) ?_
    refine aw_iload_n (i := 1) dX4_lay_13 rfl rfl ?_
    refine ax_shtN dX4_lay_14 hj ?_
    refine aw_iload_n (i := 2) dX4_lay_15 rfl rfl ?_
    refine ax_callV1i (M' := MX2_faultAt) (ci := 2) dX4_lay_16 lmX4_280 oX2_faultAt (by decide +kernel) (by assumption) rfl rfl (Nat.le_of_ble_eq_true rfl) (f_X2_faultAt (isSi hj) _) ?_
    refine aw_istore (i := 4) (L' := [_, _, _, _, _]) dX4_lay_19 (Nat.le_of_ble_eq_true rfl) rfl rfl ?_
    refine aw_iload dX4_lay_21 rfl ?_
    refine aw_if_eq (tgt := 32) dX4_lay_23 (by decide) (fun c23 => ?_) (fun c23 => ?_)
    · refine aw_aload_n (i := 0) dX4_lay_32 rfl rfl ?_
      refine ax_getr (ci := 4) 6 dX4_lay_33 rfl lfX4_33 (by decide) (by assumption) (by rfl) ?_
      refine aw_iload_n (i := 1) dX4_lay_36 rfl rfl ?_
      refine ax_shtN dX4_lay_37 hj ?_
      refine aw_iload_n (i := 2) dX4_lay_38 rfl rfl ?_
      refine aw_iload_n (i := 3) dX4_lay_39 rfl rfl ?_
      refine ax_callV2v (M' := MX2_put) (ci := 2) dX4_lay_40 lmX4_283 oX2_put (by decide +kernel) (by assumption) rfl rfl (Nat.le_of_ble_eq_true rfl) (f_X2_put (isSi hj) hz ez _ _) ?_
      refine aw_iconst (v := 1) dX4_lay_43 (by decide) ?_
      refine aw_ireturn (ty := .int) dX4_lay_44 rfl rfl ?_
      refine ⟨congrArg (fun z => some (Value.int z)) ?_, congrArg (fun z => hp (z, τ)) ?_⟩
      · unfold r_lay
        try rw [nI_clamp (show j < 2 ^ 31 by omega)]
        exact ((if_pos c4).trans (if_pos c23)).symm
      · unfold s_lay
        try rw [nI_clamp (show j < 2 ^ 31 by omega)]
        exact ((if_pos c4).trans (if_pos c23)).symm
    · refine aw_bipush (v := -10) dX4_lay_26 (by decide) ?_
      refine aw_iload dX4_lay_28 rfl ?_
      refine aw_isub dX4_lay_30 ?_
      refine aw_ireturn (ty := .int) dX4_lay_31 rfl rfl ?_
      refine ⟨congrArg (fun z => some (Value.int z)) ?_, congrArg (fun z => hp (z, τ)) ?_⟩
      · unfold r_lay
        try rw [nI_clamp (show j < 2 ^ 31 by omega)]
        exact ((if_pos c4).trans (if_neg c23)).symm
      · unfold s_lay
        try rw [nI_clamp (show j < 2 ^ 31 by omega)]
        exact ((if_pos c4).trans (if_neg c23)).symm
  · refine aw_iconst (v := -1) dX4_lay_7 (by decide) ?_
    refine aw_ireturn (ty := .int) dX4_lay_8 rfl rfl ?_
    refine ⟨congrArg (fun z => some (Value.int z)) ?_, congrArg (fun z => hp (z, τ)) ?_⟩
    · unfold r_lay
      try rw [nI_clamp (show j < 2 ^ 31 by omega)]
      exact (if_neg c4).symm
    · unfold s_lay
      try rw [nI_clamp (show j < 2 ^ 31 by omega)]
      exact (if_neg c4).symm
def r_count (f : Nat → Nat → Int32) (n : Nat) (what : Int32) : Int32 := if what = 0 then f 2 11 else if what = 1 then (if f 27 0 = 0 then 0 else 1) + (if f 27 1 = 0 then 0 else 1) else if what = 2 then f 0 1 else if what = 3 then (if f 53 1 = -1 then -4 else f 53 2) else if what = 4 then sumF (fun k => k_part (f (2 + 2 + k)) 0) n else if what = 5 then sumF (fun k => k_part (f (2 + 2 + k)) 2) n else -1
set_option maxRecDepth 100000 in
set_option maxHeartbeats 4000000 in
theorem f_X4_count {V : am_V} {d : Nat} {f : Nat → Nat → Int32} {τ : Nat → Nat → Int64} {n : Nat} (hn4 : n ≤ 4) (hn : f 2 1 = nI n) (what : Int32) : AF V MX4_count (d + 2) [.ref 0, .int what] (f, τ) (some (.int (r_count f n what))) (f, τ) := by
  have t0 := tb_0
  have ttp := tb_tp
  have tkp := tb_kp
  have tB := tb_B isB2
  have tk := tb_Bk isB2
  have t6 := tb_B6 isB2
  have t7 := tb_B7 isB2
  have t8 := tb_B8 isB2
  have tS := tb_S (a := 53) (Or.inl rfl)
  refine AM.of (L := [some (.ref 0), some (.int what)]) (by decide +kernel) (Nat.le_of_ble_eq_true rfl) rfl ?_
  refine aw_iload_n (i := 1) dX4_count_0 rfl rfl ?_
  refine aw_tab6 (t0 := 40) (t1 := 48) (t2 := 78) (t3 := 83) (t4 := 110) (t5 := 119) (td := 128) dX4_count_1 (by decide) (by decide) (by decide) (by decide) (by decide) (by decide) (by decide) (fun c1_0 => ?_) (fun c1_0 c1_1 => ?_) (fun c1_0 c1_1 c1_2 => ?_) (fun c1_0 c1_1 c1_2 c1_3 => ?_) (fun c1_0 c1_1 c1_2 c1_3 c1_4 => ?_) (fun c1_0 c1_1 c1_2 c1_3 c1_4 c1_5 => ?_) (fun c1_0 c1_1 c1_2 c1_3 c1_4 c1_5 => ?_)
  · refine aw_aload_n (i := 0) dX4_count_40 rfl rfl ?_
    refine ax_getr (ci := 4) 2 dX4_count_41 rfl lfX4_16 (by decide) (by assumption) (by rfl) ?_
    refine ax_geti (ci := 0) 11 dX4_count_44 rfl lfX4_247 (by decide) (by assumption) (by rfl) ?_
    refine aw_ireturn (ty := .int) dX4_count_47 rfl rfl ?_
    exact ⟨congrArg (fun z => some (Value.int z)) (if_pos c1_0).symm, rfl⟩
  · refine aw_aload_n (i := 0) dX4_count_48 rfl rfl ?_
    refine ax_getr (ci := 4) 5 dX4_count_49 rfl lfX4_27 (by decide) (by assumption) (by rfl) ?_
    refine aw_iconst (v := 0) dX4_count_52 (by decide) ?_
    refine ax_zaldN (i := 0) dX4_count_53 tkp (by omega) (Nat.le_of_ble_eq_true rfl) ?_
    refine aw_if_eq (tgt := 61) dX4_count_54 (by decide) (fun c54 => ?_) (fun c54 => ?_)
    · refine aw_iconst (v := 0) dX4_count_61 (by decide) ?_
      refine aw_aload_n (i := 0) dX4_count_62 rfl rfl ?_
      refine ax_getr (ci := 4) 5 dX4_count_63 rfl lfX4_27 (by decide) (by assumption) (by rfl) ?_
      refine aw_iconst (v := 1) dX4_count_66 (by decide) ?_
      refine ax_zaldN (i := 1) dX4_count_67 tkp (by omega) (Nat.le_of_ble_eq_true rfl) ?_
      refine aw_if_eq (tgt := 75) dX4_count_68 (by decide) (fun c68 => ?_) (fun c68 => ?_)
      · refine aw_iconst (v := 0) dX4_count_75 (by decide) ?_
        refine aw_iadd dX4_count_76 ?_
        refine aw_ireturn (ty := .int) dX4_count_77 rfl rfl ?_
        refine ⟨congrArg (fun z => some (Value.int z)) ?_, rfl⟩
        unfold r_count
        rw [if_neg c1_0, if_pos c1_1]
        first | rw [if_pos c54, if_pos c68] | rw [if_pos c54, if_neg c68] | rw [if_neg c54, if_pos c68] | rw [if_neg c54, if_neg c68]
      · refine aw_iconst (v := 1) dX4_count_71 (by decide) ?_
        refine aw_goto (tgt := 76) dX4_count_72 (by decide) ?_
        refine aw_iadd dX4_count_76 ?_
        refine aw_ireturn (ty := .int) dX4_count_77 rfl rfl ?_
        refine ⟨congrArg (fun z => some (Value.int z)) ?_, rfl⟩
        unfold r_count
        rw [if_neg c1_0, if_pos c1_1]
        first | rw [if_pos c54, if_pos c68] | rw [if_pos c54, if_neg c68] | rw [if_neg c54, if_pos c68] | rw [if_neg c54, if_neg c68]
    · refine aw_iconst (v := 1) dX4_count_57 (by decide) ?_
      refine aw_goto (tgt := 62) dX4_count_58 (by decide) ?_
      refine aw_aload_n (i := 0) dX4_count_62 rfl rfl ?_
      refine ax_getr (ci := 4) 5 dX4_count_63 rfl lfX4_27 (by decide) (by assumption) (by rfl) ?_
      refine aw_iconst (v := 1) dX4_count_66 (by decide) ?_
      refine ax_zaldN (i := 1) dX4_count_67 tkp (by omega) (Nat.le_of_ble_eq_true rfl) ?_
      refine aw_if_eq (tgt := 75) dX4_count_68 (by decide) (fun c68 => ?_) (fun c68 => ?_)
      · refine aw_iconst (v := 0) dX4_count_75 (by decide) ?_
        refine aw_iadd dX4_count_76 ?_
        refine aw_ireturn (ty := .int) dX4_count_77 rfl rfl ?_
        refine ⟨congrArg (fun z => some (Value.int z)) ?_, rfl⟩
        unfold r_count
        rw [if_neg c1_0, if_pos c1_1]
        first | rw [if_pos c54, if_pos c68] | rw [if_pos c54, if_neg c68] | rw [if_neg c54, if_pos c68] | rw [if_neg c54, if_neg c68]
      · refine aw_iconst (v := 1) dX4_count_71 (by decide) ?_
        refine aw_goto (tgt := 76) dX4_count_72 (by decide) ?_
        refine aw_iadd dX4_count_76 ?_
        refine aw_ireturn (ty := .int) dX4_count_77 rfl rfl ?_
        refine ⟨congrArg (fun z => some (Value.int z)) ?_, rfl⟩
        unfold r_count
        rw [if_neg c1_0, if_pos c1_1]
        first | rw [if_pos c54, if_pos c68] | rw [if_pos c54, if_neg c68] | rw [if_neg c54, if_pos c68] | rw [if_neg c54, if_neg c68]
  · refine aw_aload_n (i := 0) dX4_count_78 rfl rfl ?_
    refine ax_geti (ci := 4) 1 dX4_count_79 rfl lfX4_58 (by decide) (by assumption) (by rfl) ?_
    refine aw_ireturn (ty := .int) dX4_count_82 rfl rfl ?_
    exact ⟨congrArg (fun z => some (Value.int z)) ((if_neg c1_0).trans ((if_neg c1_1).trans (if_pos c1_2))).symm, rfl⟩
  · refine aw_aload_n (i := 0) dX4_count_83 rfl rfl ?_
    refine ax_getr (ci := 4) 6 dX4_count_84 rfl lfX4_33 (by decide) (by assumption) (by rfl) ?_
    refine aw_iconst (v := 0) dX4_count_87 (by decide) ?_
    refine ax_shtN (k := 0) dX4_count_88 (by omega) ?_
    refine ax_callV0i (M' := MX2_isNothing) (ci := 2) dX4_count_89 lmX4_295 oX2_isNothing (by decide +kernel) (by assumption) rfl rfl (Nat.le_of_ble_eq_true rfl) (f_X2_isNothing (a := 53) (Or.inl rfl)) ?_
    refine aw_beq (tgt := 100) dX4_count_92 (by decide) (fun c92 => ?_) (fun c92 => ?_)
    · refine aw_aload_n (i := 0) dX4_count_100 rfl rfl ?_
      refine ax_getr (ci := 4) 6 dX4_count_101 rfl lfX4_33 (by decide) (by assumption) (by rfl) ?_
      refine aw_iconst (v := 0) dX4_count_104 (by decide) ?_
      refine ax_shtN (k := 0) dX4_count_105 (by omega) ?_
      refine ax_geti (ci := 2) 2 dX4_count_106 rfl lfX4_298 (by decide) (by assumption) (by rfl) ?_
      refine aw_ireturn (ty := .int) dX4_count_109 rfl rfl ?_
      exact ⟨congrArg (fun z => some (Value.int z)) ((if_neg c1_0).trans ((if_neg c1_1).trans ((if_neg c1_2).trans ((if_pos c1_3).trans (if_neg c92))))).symm, rfl⟩
    · refine aw_bipush (v := -4) dX4_count_95 (by decide) ?_
      refine aw_goto (tgt := 109) dX4_count_97 (by decide) ?_
      refine aw_ireturn (ty := .int) dX4_count_109 rfl rfl ?_
      exact ⟨congrArg (fun z => some (Value.int z)) ((if_neg c1_0).trans ((if_neg c1_1).trans ((if_neg c1_2).trans ((if_pos c1_3).trans (if_pos c92))))).symm, rfl⟩
  · refine aw_aload_n (i := 0) dX4_count_110 rfl rfl ?_
    refine ax_getr (ci := 4) 2 dX4_count_111 rfl lfX4_16 (by decide) (by assumption) (by rfl) ?_
    refine aw_iconst (v := 0) dX4_count_114 (by decide) ?_
    refine ax_callV1i (M' := MX0_sumOfPart) (ci := 0) dX4_count_115 lmX4_301 oX0_sumOfPart (by decide +kernel) (by assumption) rfl rfl (Nat.le_of_ble_eq_true rfl) (f_X0_sumOfPart isB2 hn4 hn _) ?_
    refine aw_ireturn (ty := .int) dX4_count_118 rfl rfl ?_
    exact ⟨congrArg (fun z => some (Value.int z)) ((if_neg c1_0).trans ((if_neg c1_1).trans ((if_neg c1_2).trans ((if_neg c1_3).trans (if_pos c1_4))))).symm, rfl⟩
  · refine aw_aload_n (i := 0) dX4_count_119 rfl rfl ?_
    refine ax_getr (ci := 4) 2 dX4_count_120 rfl lfX4_16 (by decide) (by assumption) (by rfl) ?_
    refine aw_iconst (v := 2) dX4_count_123 (by decide) ?_
    refine ax_callV1i (M' := MX0_sumOfPart) (ci := 0) dX4_count_124 lmX4_301 oX0_sumOfPart (by decide +kernel) (by assumption) rfl rfl (Nat.le_of_ble_eq_true rfl) (f_X0_sumOfPart isB2 hn4 hn _) ?_
    refine aw_ireturn (ty := .int) dX4_count_127 rfl rfl ?_
    exact ⟨congrArg (fun z => some (Value.int z)) ((if_neg c1_0).trans ((if_neg c1_1).trans ((if_neg c1_2).trans ((if_neg c1_3).trans ((if_neg c1_4).trans (if_pos c1_5)))))).symm, rfl⟩
  · refine aw_iconst (v := -1) dX4_count_128 (by decide) ?_
    refine aw_ireturn (ty := .int) dX4_count_129 rfl rfl ?_
    exact ⟨congrArg (fun z => some (Value.int z)) ((if_neg c1_0).trans ((if_neg c1_1).trans ((if_neg c1_2).trans ((if_neg c1_3).trans ((if_neg c1_4).trans (if_neg c1_5)))))).symm, rfl⟩
