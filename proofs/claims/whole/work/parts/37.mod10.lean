set_option maxRecDepth 100000 in
set_option maxHeartbeats 1000000 in
theorem q_becomes {V : am_V} {d : Nat} {f : Nat → Nat → Int32} {τ : Nat → Nat → Int64} {c : Nat} (hc : c < 225) (v : Int32) : AF V MX5_becomes d [.ref 64, .int (nI c), .int v] (f, τ) (some (.int (f 65 c))) (up2 f 65 c v, τ) := by
  have tM := tb_M
  have m65 := tb_65
  have m66 := tb_66
  have m67 := tb_67
  have m68 := tb_68
  have m69 := tb_69
  have m70 := tb_70
  have m71 := tb_71
  have m72 := tb_72
  have m73 := tb_73
  have m74 := tb_74
  have m75 := tb_75
  have m76 := tb_76
  refine AM.of (L := [some (.ref 64), some (.int (nI c)), some (.int v), none]) (by decide +kernel) (Nat.le_of_ble_eq_true rfl) rfl ?_
  refine aw_aload_n (i := 0) dX5_becomes_0 rfl rfl ?_
  refine ax_getr (ci := 5) 0 dX5_becomes_1 rfl lfX5_7 (by decide) (by assumption) (by rfl) ?_
  refine aw_iload_n (i := 1) dX5_becomes_4 rfl rfl ?_
  refine ax_ialdN dX5_becomes_5 (by assumption) (by omega) (Nat.le_of_ble_eq_true rfl) ?_
  refine aw_istore_n (i := 3) (L' := [_, _, _, _]) dX5_becomes_6 rfl (Nat.le_of_ble_eq_true rfl) rfl rfl ?_
  refine aw_aload_n (i := 0) dX5_becomes_7 rfl rfl ?_
  refine ax_getr (ci := 5) 0 dX5_becomes_8 rfl lfX5_7 (by decide) (by assumption) (by rfl) ?_
  refine aw_iload_n (i := 1) dX5_becomes_11 rfl rfl ?_
  refine aw_iload_n (i := 2) dX5_becomes_12 rfl rfl ?_
  refine ax_iastN dX5_becomes_13 (by assumption) (by omega) (Nat.le_of_ble_eq_true rfl) ?_
  refine aw_iload_n (i := 3) dX5_becomes_14 rfl rfl ?_
  refine aw_ireturn (ty := .int) dX5_becomes_15 rfl rfl ?_
  exact ⟨rfl, rfl⟩
def mr_every (f : Nat → Nat → Int32) (v : Int32) : Int32 := if 1 ≤ v ∧ v ≤ 4 then f 65 54 else -1
def ms_every (f : Nat → Nat → Int32) (v : Int32) : Nat → Nat → Int32 := if 1 ≤ v ∧ v ≤ 4 then up2 f 65 54 v else f
def mr_many (f : Nat → Nat → Int32) (c : Nat) (v : Int32) : Int32 := if 0 ≤ v ∧ v ≤ f 65 c then f 65 c else -1
def ms_many (f : Nat → Nat → Int32) (c : Nat) (v : Int32) : Nat → Nat → Int32 := if 0 ≤ v ∧ v ≤ f 65 c then up2 f 65 c v else f
def mr_put (f : Nat → Nat → Int32) (m : Int32) (p : Nat) (full t k s : Int32) : Int32 := if 0 ≤ t ∧ t ≤ m then (if 0 ≤ k ∧ k ≤ f 65 28 - 1 then (if 0 ≤ s ∧ s ≤ 1 then (if nI p = full then -3 else nI (p + 1)) else -1) else -1) else -1
def pu4 (f : Nat → Nat → Int32) (o c p : Nat) (t k s : Int32) : Nat → Nat → Int32 := up2 (up2 (up2 (up2 f 65 (o + 3 * p + 0) t) 65 (o + 3 * p + 1) k) 65 (o + 3 * p + 2) s) 65 c (nI (p + 1))
def ms_put (f : Nat → Nat → Int32) (m : Int32) (o c p : Nat) (full t k s : Int32) : Nat → Nat → Int32 := if 0 ≤ t ∧ t ≤ m then (if 0 ≤ k ∧ k ≤ f 65 28 - 1 then (if 0 ≤ s ∧ s ≤ 1 then (if nI p = full then f else pu4 f o c p t k s) else f) else f) else f
def mr_feed (L : Nat) (c : Int32) : Int32 := if 0 ≤ c ∧ c ≤ 127 then (if nI L = 160 then -3 else nI (L + 1)) else -1
def ms_feed (f : Nat → Nat → Int32) (L : Nat) (c : Int32) : Nat → Nat → Int32 := if 0 ≤ c ∧ c ≤ 127 then (if nI L = 160 then f else up2 (up2 f 69 L c) 64 7 (nI (L + 1))) else f
def mr_end (f : Nat → Nat → Int32) (n : Int32) : Int32 := if 0 ≤ n ∧ n ≤ f 64 7 then f 64 7 else -1
def ms_end (f : Nat → Nat → Int32) (n : Int32) : Nat → Nat → Int32 := if 0 ≤ n ∧ n ≤ f 64 7 then up2 f 64 7 n else f
set_option maxRecDepth 100000 in
set_option maxHeartbeats 1000000 in
theorem q_every {V : am_V} {d : Nat} {f : Nat → Nat → Int32} {τ : Nat → Nat → Int64}  (v : Int32) : AF V MX5_every (d + 1) [.ref 64, .int v] (f, τ) (some (.int (mr_every f v))) (ms_every f v, τ) := by
  have tM := tb_M
  have m65 := tb_65
  have m66 := tb_66
  have m67 := tb_67
  have m68 := tb_68
  have m69 := tb_69
  have m70 := tb_70
  have m71 := tb_71
  have m72 := tb_72
  have m73 := tb_73
  have m74 := tb_74
  have m75 := tb_75
  have m76 := tb_76
  refine AM.of (L := [some (.ref 64), some (.int v)]) (by decide +kernel) (Nat.le_of_ble_eq_true rfl) rfl ?_
  refine aw_iload_n (i := 1) dX5_every_0 rfl rfl ?_
  refine aw_i2l dX5_every_1 ?_
  refine aw_lconst (v := 1) dX5_every_2 (by decide) ?_
  refine aw_ldc2 dX5_every_3 lkX5_217 ?_
  refine ax_callS3i (M' := MX5_in) dX5_every_6 lmX5_63 oX5_in (by decide +kernel) (Nat.le_of_ble_eq_true rfl) (e_in _ 1 4) ?_
  refine aw_beq (tgt := 22) dX5_every_9 (by decide) (fun c9 => ?_) (fun c9 => ?_)
  · refine aw_iconst (v := -1) dX5_every_22 (by decide) ?_
    refine aw_ireturn (ty := .int) dX5_every_23 rfl rfl ?_
    exact ⟨congrArg (fun z => some (Value.int z)) (if_neg c9).symm, congrArg (fun z => hp (z, τ)) (if_neg c9).symm⟩
  · refine aw_aload_n (i := 0) dX5_every_12 rfl rfl ?_
    refine aw_bipush (v := 54) dX5_every_13 (by decide) ?_
    refine aw_iload_n (i := 1) dX5_every_15 rfl rfl ?_
    refine ax_callV2i (M' := MX5_becomes) (ci := 5) dX5_every_16 lmX5_208 oX5_becomes (by decide +kernel) (by assumption) rfl rfl (Nat.le_of_ble_eq_true rfl) (q_becomes (c := 54) (by omega) _) ?_
    refine aw_goto (tgt := 23) dX5_every_19 (by decide) ?_
    refine aw_ireturn (ty := .int) dX5_every_23 rfl rfl ?_
    exact ⟨congrArg (fun z => some (Value.int z)) (if_pos c9).symm, congrArg (fun z => hp (z, τ)) (if_pos c9).symm⟩
set_option maxRecDepth 100000 in
set_option maxHeartbeats 1000000 in
theorem q_drop {V : am_V} {d : Nat} {f : Nat → Nat → Int32} {τ : Nat → Nat → Int64}  (v : Int32) : AF V MX5_drop (d + 1) [.ref 64, .int v] (f, τ) (some (.int (mr_many f 53 v))) (ms_many f 53 v, τ) := by
  have tM := tb_M
  have m65 := tb_65
  have m66 := tb_66
  have m67 := tb_67
  have m68 := tb_68
  have m69 := tb_69
  have m70 := tb_70
  have m71 := tb_71
  have m72 := tb_72
  have m73 := tb_73
  have m74 := tb_74
  have m75 := tb_75
  have m76 := tb_76
  refine AM.of (L := [some (.ref 64), some (.int v)]) (by decide +kernel) (Nat.le_of_ble_eq_true rfl) rfl ?_
  refine aw_iload_n (i := 1) dX5_drop_0 rfl rfl ?_
  refine aw_i2l dX5_drop_1 ?_
  refine aw_lconst (v := 0) dX5_drop_2 (by decide) ?_
  refine aw_aload_n (i := 0) dX5_drop_3 rfl rfl ?_
  refine ax_getr (ci := 5) 0 dX5_drop_4 rfl lfX5_7 (by decide) (by assumption) (by rfl) ?_
  refine aw_bipush (v := 53) dX5_drop_7 (by decide) ?_
  refine ax_ialdN (i := 53) dX5_drop_9 (by assumption) (by omega) (Nat.le_of_ble_eq_true rfl) ?_
  refine aw_i2l dX5_drop_10 ?_
  refine ax_callS3i (M' := MX5_in) dX5_drop_11 lmX5_63 oX5_in (by decide +kernel) (Nat.le_of_ble_eq_true rfl) (e_in _ 0 _) ?_
  refine aw_beq (tgt := 27) dX5_drop_14 (by decide) (fun c14 => ?_) (fun c14 => ?_)
  · refine aw_iconst (v := -1) dX5_drop_27 (by decide) ?_
    refine aw_ireturn (ty := .int) dX5_drop_28 rfl rfl ?_
    exact ⟨congrArg (fun z => some (Value.int z)) (if_neg c14).symm, congrArg (fun z => hp (z, τ)) (if_neg c14).symm⟩
  · refine aw_aload_n (i := 0) dX5_drop_17 rfl rfl ?_
    refine aw_bipush (v := 53) dX5_drop_18 (by decide) ?_
    refine aw_iload_n (i := 1) dX5_drop_20 rfl rfl ?_
    refine ax_callV2i (M' := MX5_becomes) (ci := 5) dX5_drop_21 lmX5_208 oX5_becomes (by decide +kernel) (by assumption) rfl rfl (Nat.le_of_ble_eq_true rfl) (q_becomes (c := 53) (by omega) _) ?_
    refine aw_goto (tgt := 28) dX5_drop_24 (by decide) ?_
    refine aw_ireturn (ty := .int) dX5_drop_28 rfl rfl ?_
    exact ⟨congrArg (fun z => some (Value.int z)) (if_pos c14).symm, congrArg (fun z => hp (z, τ)) (if_pos c14).symm⟩
set_option maxRecDepth 100000 in
set_option maxHeartbeats 1000000 in
theorem q_forget {V : am_V} {d : Nat} {f : Nat → Nat → Int32} {τ : Nat → Nat → Int64}  (v : Int32) : AF V MX5_forget (d + 1) [.ref 64, .int v] (f, τ) (some (.int (mr_many f 56 v))) (ms_many f 56 v, τ) := by
  have tM := tb_M
  have m65 := tb_65
  have m66 := tb_66
  have m67 := tb_67
  have m68 := tb_68
  have m69 := tb_69
  have m70 := tb_70
  have m71 := tb_71
  have m72 := tb_72
  have m73 := tb_73
  have m74 := tb_74
  have m75 := tb_75
  have m76 := tb_76
  refine AM.of (L := [some (.ref 64), some (.int v)]) (by decide +kernel) (Nat.le_of_ble_eq_true rfl) rfl ?_
  refine aw_iload_n (i := 1) dX5_forget_0 rfl rfl ?_
  refine aw_i2l dX5_forget_1 ?_
  refine aw_lconst (v := 0) dX5_forget_2 (by decide) ?_
  refine aw_aload_n (i := 0) dX5_forget_3 rfl rfl ?_
  refine ax_getr (ci := 5) 0 dX5_forget_4 rfl lfX5_7 (by decide) (by assumption) (by rfl) ?_
  refine aw_bipush (v := 56) dX5_forget_7 (by decide) ?_
  refine ax_ialdN (i := 56) dX5_forget_9 (by assumption) (by omega) (Nat.le_of_ble_eq_true rfl) ?_
  refine aw_i2l dX5_forget_10 ?_
  refine ax_callS3i (M' := MX5_in) dX5_forget_11 lmX5_63 oX5_in (by decide +kernel) (Nat.le_of_ble_eq_true rfl) (e_in _ 0 _) ?_
  refine aw_beq (tgt := 27) dX5_forget_14 (by decide) (fun c14 => ?_) (fun c14 => ?_)
  · refine aw_iconst (v := -1) dX5_forget_27 (by decide) ?_
    refine aw_ireturn (ty := .int) dX5_forget_28 rfl rfl ?_
    exact ⟨congrArg (fun z => some (Value.int z)) (if_neg c14).symm, congrArg (fun z => hp (z, τ)) (if_neg c14).symm⟩
  · refine aw_aload_n (i := 0) dX5_forget_17 rfl rfl ?_
    refine aw_bipush (v := 56) dX5_forget_18 (by decide) ?_
    refine aw_iload_n (i := 1) dX5_forget_20 rfl rfl ?_
    refine ax_callV2i (M' := MX5_becomes) (ci := 5) dX5_forget_21 lmX5_208 oX5_becomes (by decide +kernel) (by assumption) rfl rfl (Nat.le_of_ble_eq_true rfl) (q_becomes (c := 56) (by omega) _) ?_
    refine aw_goto (tgt := 28) dX5_forget_24 (by decide) ?_
    refine aw_ireturn (ty := .int) dX5_forget_28 rfl rfl ?_
    exact ⟨congrArg (fun z => some (Value.int z)) (if_pos c14).symm, congrArg (fun z => hp (z, τ)) (if_pos c14).symm⟩
set_option maxRecDepth 100000 in
set_option maxHeartbeats 1000000 in
theorem q_strike {V : am_V} {d : Nat} {f : Nat → Nat → Int32} {τ : Nat → Nat → Int64} {p : Nat} (hp8 : p ≤ 8) (hp1 : f 65 53 = nI p) (t k s : Int32) : AF V MX5_strike (d + 2) [.ref 64, .int t, .int k, .int s] (f, τ) (some (.int (mr_put f 99 p 8 t k s))) (ms_put f 99 29 53 p 8 t k s, τ) := by
  have tM := tb_M
  have m65 := tb_65
  have m66 := tb_66
  have m67 := tb_67
  have m68 := tb_68
  have m69 := tb_69
  have m70 := tb_70
  have m71 := tb_71
  have m72 := tb_72
  have m73 := tb_73
  have m74 := tb_74
  have m75 := tb_75
  have m76 := tb_76
  refine AM.of (L := [some (.ref 64), some (.int t), some (.int k), some (.int s), none]) (by decide +kernel) (Nat.le_of_ble_eq_true rfl) rfl ?_
  refine aw_iload_n (i := 1) dX5_strike_0 rfl rfl ?_
  refine aw_i2l dX5_strike_1 ?_
  refine aw_lconst (v := 0) dX5_strike_2 (by decide) ?_
  refine aw_ldc2 dX5_strike_3 lkX5_219 ?_
  refine ax_callS3i (M' := MX5_in) dX5_strike_6 lmX5_63 oX5_in (by decide +kernel) (Nat.le_of_ble_eq_true rfl) (e_in _ 0 99) ?_
  refine aw_beq (tgt := 30) dX5_strike_9 (by decide) (fun c9 => ?_) (fun c9 => ?_)
  · refine aw_iconst (v := -1) dX5_strike_30 (by decide) ?_
    refine aw_ireturn (ty := .int) dX5_strike_31 rfl rfl ?_
    exact ⟨congrArg (fun z => some (Value.int z)) (if_neg c9).symm, congrArg (fun z => hp (z, τ)) (if_neg c9).symm⟩
  · refine aw_aload_n (i := 0) dX5_strike_12 rfl rfl ?_
    refine aw_iload_n (i := 2) dX5_strike_13 rfl rfl ?_
    refine ax_callV1i (M' := MX5_isKey) (ci := 5) dX5_strike_14 lmX5_192 oX5_isKey (by decide +kernel) (by assumption) rfl rfl (Nat.le_of_ble_eq_true rfl) (f_X5_isKey _) ?_
    refine aw_beq (tgt := 30) dX5_strike_17 (by decide) (fun c17 => ?_) (fun c17 => ?_)
    · refine aw_iconst (v := -1) dX5_strike_30 (by decide) ?_
      refine aw_ireturn (ty := .int) dX5_strike_31 rfl rfl ?_
      exact ⟨congrArg (fun z => some (Value.int z)) ((if_pos c9).trans (if_neg c17)).symm, congrArg (fun z => hp (z, τ)) ((if_pos c9).trans (if_neg c17)).symm⟩
    · refine aw_iload_n (i := 3) dX5_strike_20 rfl rfl ?_
      refine aw_i2l dX5_strike_21 ?_
      refine aw_lconst (v := 0) dX5_strike_22 (by decide) ?_
      refine aw_lconst (v := 1) dX5_strike_23 (by decide) ?_
      refine ax_callS3i (M' := MX5_in) dX5_strike_24 lmX5_63 oX5_in (by decide +kernel) (Nat.le_of_ble_eq_true rfl) (e_in _ 0 1) ?_
      refine aw_bne (tgt := 32) dX5_strike_27 (by decide) (fun c27 => ?_) (fun c27 => ?_)
      · refine aw_aload_n (i := 0) dX5_strike_32 rfl rfl ?_
        refine ax_getr (ci := 5) 0 dX5_strike_33 rfl lfX5_7 (by decide) (by assumption) (by rfl) ?_
        refine aw_bipush (v := 53) dX5_strike_36 (by decide) ?_
        refine ax_ialdN (i := 53) dX5_strike_38 (by assumption) (by omega) (Nat.le_of_ble_eq_true rfl) ?_
        refine aw_tE (nI p) hp1 ?_
        refine aw_bipush (v := 8) dX5_strike_39 (by decide) ?_
        refine aw_icmp_ne (tgt := 47) dX5_strike_41 (by decide) (fun c41 => ?_) (fun c41 => ?_)
        · have hp7 : p < 8 := by
            rcases (show p = 8 ∨ p < 8 by omega) with rfl | q
            · exact absurd rfl c41
            · exact q
          refine aw_bipush (v := 29) dX5_strike_47 (by decide) ?_
          refine aw_iconst (v := 3) dX5_strike_49 (by decide) ?_
          refine aw_aload_n (i := 0) dX5_strike_50 rfl rfl ?_
          refine ax_getr (ci := 5) 0 dX5_strike_51 rfl lfX5_7 (by decide) (by assumption) (by rfl) ?_
          refine aw_bipush (v := 53) dX5_strike_54 (by decide) ?_
          refine ax_ialdN (i := 53) dX5_strike_56 (by assumption) (by omega) (Nat.le_of_ble_eq_true rfl) ?_
          refine aw_tE (nI p) hp1 ?_
          refine aw_imul dX5_strike_57 ?_
          refine aw_iadd dX5_strike_58 ?_
          refine aw_tE (nI (29 + 3 * p + 0)) (by rw [show (3 : Int32) = nI 3 from rfl, pk_mul, show (29 : Int32) = nI 29 from rfl, nI_add]; rfl) ?_
          refine aw_istore (i := 4) (L' := [_, _, _, _, _]) dX5_strike_59 (Nat.le_of_ble_eq_true rfl) rfl rfl ?_
          refine aw_aload_n (i := 0) dX5_strike_61 rfl rfl ?_
          refine ax_getr (ci := 5) 0 dX5_strike_62 rfl lfX5_7 (by decide) (by assumption) (by rfl) ?_
          refine aw_iload dX5_strike_65 rfl ?_
          refine aw_iconst (v := 0) dX5_strike_67 (by decide) ?_
          refine aw_iadd dX5_strike_68 ?_
          refine aw_tE (nI (29 + 3 * p + 0)) (Int32.add_zero _) ?_
          refine aw_iload_n (i := 1) dX5_strike_69 rfl rfl ?_
          refine ax_iastN dX5_strike_70 (by assumption) (by omega) (Nat.le_of_ble_eq_true rfl) ?_
          refine aw_aload_n (i := 0) dX5_strike_71 rfl rfl ?_
          refine ax_getr (ci := 5) 0 dX5_strike_72 rfl lfX5_7 (by decide) (by assumption) (by rfl) ?_
          refine aw_iload dX5_strike_75 rfl ?_
          refine aw_iconst (v := 1) dX5_strike_77 (by decide) ?_
          refine aw_iadd dX5_strike_78 ?_
          refine aw_tE (nI (29 + 3 * p + 1)) (nI_1 _) ?_
          refine aw_iload_n (i := 2) dX5_strike_79 rfl rfl ?_
          refine ax_iastN dX5_strike_80 (by assumption) (by omega) (Nat.le_of_ble_eq_true rfl) ?_
          refine aw_aload_n (i := 0) dX5_strike_81 rfl rfl ?_
          refine ax_getr (ci := 5) 0 dX5_strike_82 rfl lfX5_7 (by decide) (by assumption) (by rfl) ?_
          refine aw_iload dX5_strike_85 rfl ?_
          refine aw_iconst (v := 2) dX5_strike_87 (by decide) ?_
          refine aw_iadd dX5_strike_88 ?_
          refine aw_tE (nI (29 + 3 * p + 2)) (nI_add _ 2) ?_
          refine aw_iload_n (i := 3) dX5_strike_89 rfl rfl ?_
          refine ax_iastN dX5_strike_90 (by assumption) (by omega) (Nat.le_of_ble_eq_true rfl) ?_
          refine aw_aload_n (i := 0) dX5_strike_91 rfl rfl ?_
          refine ax_getr (ci := 5) 0 dX5_strike_92 rfl lfX5_7 (by decide) (by assumption) (by rfl) ?_
          refine aw_bipush (v := 53) dX5_strike_95 (by decide) ?_
          refine aw_dup2 dX5_strike_97 rfl rfl ?_
          refine ax_ialdN (i := 53) dX5_strike_98 (by assumption) (by omega) (Nat.le_of_ble_eq_true rfl) ?_
          refine aw_tE (nI p) (by rw [up2_ne (by omega), up2_ne (by omega), up2_ne (by omega)]; exact hp1) ?_
          refine aw_iconst (v := 1) dX5_strike_99 (by decide) ?_
          refine aw_iadd dX5_strike_100 ?_
          refine aw_tE (nI (p + 1)) (nI_1 p) ?_
          refine ax_iastN (i := 53) dX5_strike_101 (by assumption) (by omega) (Nat.le_of_ble_eq_true rfl) ?_
          refine aw_aload_n (i := 0) dX5_strike_102 rfl rfl ?_
          refine ax_getr (ci := 5) 0 dX5_strike_103 rfl lfX5_7 (by decide) (by assumption) (by rfl) ?_
          refine aw_bipush (v := 53) dX5_strike_106 (by decide) ?_
          refine ax_ialdN (i := 53) dX5_strike_108 (by assumption) (by omega) (Nat.le_of_ble_eq_true rfl) ?_
          refine aw_tE (nI (p + 1)) (up2_self _ _ _ _) ?_
          refine aw_ireturn (ty := .int) dX5_strike_109 rfl rfl ?_
          exact ⟨congrArg (fun z => some (Value.int z)) ((if_pos c9).trans ((if_pos c17).trans ((if_pos c27).trans (if_neg c41)))).symm, congrArg (fun z => hp (z, τ)) ((if_pos c9).trans ((if_pos c17).trans ((if_pos c27).trans (if_neg c41)))).symm⟩
        · refine aw_bipush (v := -3) dX5_strike_44 (by decide) ?_
          refine aw_ireturn (ty := .int) dX5_strike_46 rfl rfl ?_
          exact ⟨congrArg (fun z => some (Value.int z)) ((if_pos c9).trans ((if_pos c17).trans ((if_pos c27).trans (if_pos c41)))).symm, congrArg (fun z => hp (z, τ)) ((if_pos c9).trans ((if_pos c17).trans ((if_pos c27).trans (if_pos c41)))).symm⟩
      · refine aw_iconst (v := -1) dX5_strike_30 (by decide) ?_
        refine aw_ireturn (ty := .int) dX5_strike_31 rfl rfl ?_
        exact ⟨congrArg (fun z => some (Value.int z)) ((if_pos c9).trans ((if_pos c17).trans (if_neg c27))).symm, congrArg (fun z => hp (z, τ)) ((if_pos c9).trans ((if_pos c17).trans (if_neg c27))).symm⟩
set_option maxRecDepth 100000 in
set_option maxHeartbeats 1000000 in
theorem q_see {V : am_V} {d : Nat} {f : Nat → Nat → Int32} {τ : Nat → Nat → Int64} {p : Nat} (hp8 : p ≤ 6) (hp1 : f 65 56 = nI p) (t k s : Int32) : AF V MX5_see (d + 2) [.ref 64, .int t, .int k, .int s] (f, τ) (some (.int (mr_put f 40 p 6 t k s))) (ms_put f 40 57 56 p 6 t k s, τ) := by
  have tM := tb_M
  have m65 := tb_65
  have m66 := tb_66
  have m67 := tb_67
  have m68 := tb_68
  have m69 := tb_69
  have m70 := tb_70
  have m71 := tb_71
  have m72 := tb_72
  have m73 := tb_73
  have m74 := tb_74
  have m75 := tb_75
  have m76 := tb_76
  refine AM.of (L := [some (.ref 64), some (.int t), some (.int k), some (.int s), none]) (by decide +kernel) (Nat.le_of_ble_eq_true rfl) rfl ?_
  refine aw_iload_n (i := 1) dX5_see_0 rfl rfl ?_
  refine aw_i2l dX5_see_1 ?_
  refine aw_lconst (v := 0) dX5_see_2 (by decide) ?_
  refine aw_ldc2 dX5_see_3 lkX5_298 ?_
  refine ax_callS3i (M' := MX5_in) dX5_see_6 lmX5_63 oX5_in (by decide +kernel) (Nat.le_of_ble_eq_true rfl) (e_in _ 0 40) ?_
  refine aw_beq (tgt := 30) dX5_see_9 (by decide) (fun c9 => ?_) (fun c9 => ?_)
  · refine aw_iconst (v := -1) dX5_see_30 (by decide) ?_
    refine aw_ireturn (ty := .int) dX5_see_31 rfl rfl ?_
    exact ⟨congrArg (fun z => some (Value.int z)) (if_neg c9).symm, congrArg (fun z => hp (z, τ)) (if_neg c9).symm⟩
  · refine aw_aload_n (i := 0) dX5_see_12 rfl rfl ?_
    refine aw_iload_n (i := 2) dX5_see_13 rfl rfl ?_
    refine ax_callV1i (M' := MX5_isKey) (ci := 5) dX5_see_14 lmX5_192 oX5_isKey (by decide +kernel) (by assumption) rfl rfl (Nat.le_of_ble_eq_true rfl) (f_X5_isKey _) ?_
    refine aw_beq (tgt := 30) dX5_see_17 (by decide) (fun c17 => ?_) (fun c17 => ?_)
    · refine aw_iconst (v := -1) dX5_see_30 (by decide) ?_
      refine aw_ireturn (ty := .int) dX5_see_31 rfl rfl ?_
      exact ⟨congrArg (fun z => some (Value.int z)) ((if_pos c9).trans (if_neg c17)).symm, congrArg (fun z => hp (z, τ)) ((if_pos c9).trans (if_neg c17)).symm⟩
    · refine aw_iload_n (i := 3) dX5_see_20 rfl rfl ?_
      refine aw_i2l dX5_see_21 ?_
      refine aw_lconst (v := 0) dX5_see_22 (by decide) ?_
      refine aw_lconst (v := 1) dX5_see_23 (by decide) ?_
      refine ax_callS3i (M' := MX5_in) dX5_see_24 lmX5_63 oX5_in (by decide +kernel) (Nat.le_of_ble_eq_true rfl) (e_in _ 0 1) ?_
      refine aw_bne (tgt := 32) dX5_see_27 (by decide) (fun c27 => ?_) (fun c27 => ?_)
      · refine aw_aload_n (i := 0) dX5_see_32 rfl rfl ?_
        refine ax_getr (ci := 5) 0 dX5_see_33 rfl lfX5_7 (by decide) (by assumption) (by rfl) ?_
        refine aw_bipush (v := 56) dX5_see_36 (by decide) ?_
        refine ax_ialdN (i := 56) dX5_see_38 (by assumption) (by omega) (Nat.le_of_ble_eq_true rfl) ?_
        refine aw_tE (nI p) hp1 ?_
        refine aw_bipush (v := 6) dX5_see_39 (by decide) ?_
        refine aw_icmp_ne (tgt := 47) dX5_see_41 (by decide) (fun c41 => ?_) (fun c41 => ?_)
        · have hp7 : p < 6 := by
            rcases (show p = 6 ∨ p < 6 by omega) with rfl | q
            · exact absurd rfl c41
            · exact q
          refine aw_bipush (v := 57) dX5_see_47 (by decide) ?_
          refine aw_iconst (v := 3) dX5_see_49 (by decide) ?_
          refine aw_aload_n (i := 0) dX5_see_50 rfl rfl ?_
          refine ax_getr (ci := 5) 0 dX5_see_51 rfl lfX5_7 (by decide) (by assumption) (by rfl) ?_
          refine aw_bipush (v := 56) dX5_see_54 (by decide) ?_
          refine ax_ialdN (i := 56) dX5_see_56 (by assumption) (by omega) (Nat.le_of_ble_eq_true rfl) ?_
          refine aw_tE (nI p) hp1 ?_
          refine aw_imul dX5_see_57 ?_
          refine aw_iadd dX5_see_58 ?_
          refine aw_tE (nI (57 + 3 * p + 0)) (by rw [show (3 : Int32) = nI 3 from rfl, pk_mul, show (57 : Int32) = nI 57 from rfl, nI_add]; rfl) ?_
          refine aw_istore (i := 4) (L' := [_, _, _, _, _]) dX5_see_59 (Nat.le_of_ble_eq_true rfl) rfl rfl ?_
          refine aw_aload_n (i := 0) dX5_see_61 rfl rfl ?_
          refine ax_getr (ci := 5) 0 dX5_see_62 rfl lfX5_7 (by decide) (by assumption) (by rfl) ?_
          refine aw_iload dX5_see_65 rfl ?_
          refine aw_iload_n (i := 1) dX5_see_67 rfl rfl ?_
          refine ax_iastN dX5_see_68 (by assumption) (by omega) (Nat.le_of_ble_eq_true rfl) ?_
          refine aw_aload_n (i := 0) dX5_see_69 rfl rfl ?_
          refine ax_getr (ci := 5) 0 dX5_see_70 rfl lfX5_7 (by decide) (by assumption) (by rfl) ?_
          refine aw_iload dX5_see_73 rfl ?_
          refine aw_iconst (v := 1) dX5_see_75 (by decide) ?_
          refine aw_iadd dX5_see_76 ?_
          refine aw_tE (nI (57 + 3 * p + 1)) (nI_1 _) ?_
          refine aw_iload_n (i := 2) dX5_see_77 rfl rfl ?_
          refine ax_iastN dX5_see_78 (by assumption) (by omega) (Nat.le_of_ble_eq_true rfl) ?_
          refine aw_aload_n (i := 0) dX5_see_79 rfl rfl ?_
          refine ax_getr (ci := 5) 0 dX5_see_80 rfl lfX5_7 (by decide) (by assumption) (by rfl) ?_
          refine aw_iload dX5_see_83 rfl ?_
          refine aw_iconst (v := 2) dX5_see_85 (by decide) ?_
          refine aw_iadd dX5_see_86 ?_
          refine aw_tE (nI (57 + 3 * p + 2)) (nI_add _ 2) ?_
          refine aw_iload_n (i := 3) dX5_see_87 rfl rfl ?_
          refine ax_iastN dX5_see_88 (by assumption) (by omega) (Nat.le_of_ble_eq_true rfl) ?_
          refine aw_aload_n (i := 0) dX5_see_89 rfl rfl ?_
          refine ax_getr (ci := 5) 0 dX5_see_90 rfl lfX5_7 (by decide) (by assumption) (by rfl) ?_
          refine aw_bipush (v := 56) dX5_see_93 (by decide) ?_
          refine aw_dup2 dX5_see_95 rfl rfl ?_
          refine ax_ialdN (i := 56) dX5_see_96 (by assumption) (by omega) (Nat.le_of_ble_eq_true rfl) ?_
          refine aw_tE (nI p) (by rw [up2_ne (by omega), up2_ne (by omega), up2_ne (by omega)]; exact hp1) ?_
          refine aw_iconst (v := 1) dX5_see_97 (by decide) ?_
          refine aw_iadd dX5_see_98 ?_
          refine aw_tE (nI (p + 1)) (nI_1 p) ?_
          refine ax_iastN (i := 56) dX5_see_99 (by assumption) (by omega) (Nat.le_of_ble_eq_true rfl) ?_
          refine aw_aload_n (i := 0) dX5_see_100 rfl rfl ?_
          refine ax_getr (ci := 5) 0 dX5_see_101 rfl lfX5_7 (by decide) (by assumption) (by rfl) ?_
          refine aw_bipush (v := 56) dX5_see_104 (by decide) ?_
          refine ax_ialdN (i := 56) dX5_see_106 (by assumption) (by omega) (Nat.le_of_ble_eq_true rfl) ?_
          refine aw_tE (nI (p + 1)) (up2_self _ _ _ _) ?_
          refine aw_ireturn (ty := .int) dX5_see_107 rfl rfl ?_
          exact ⟨congrArg (fun z => some (Value.int z)) ((if_pos c9).trans ((if_pos c17).trans ((if_pos c27).trans (if_neg c41)))).symm, congrArg (fun z => hp (z, τ)) ((if_pos c9).trans ((if_pos c17).trans ((if_pos c27).trans (if_neg c41)))).symm⟩
        · refine aw_bipush (v := -3) dX5_see_44 (by decide) ?_
          refine aw_ireturn (ty := .int) dX5_see_46 rfl rfl ?_
          exact ⟨congrArg (fun z => some (Value.int z)) ((if_pos c9).trans ((if_pos c17).trans ((if_pos c27).trans (if_pos c41)))).symm, congrArg (fun z => hp (z, τ)) ((if_pos c9).trans ((if_pos c17).trans ((if_pos c27).trans (if_pos c41)))).symm⟩
      · refine aw_iconst (v := -1) dX5_see_30 (by decide) ?_
        refine aw_ireturn (ty := .int) dX5_see_31 rfl rfl ?_
        exact ⟨congrArg (fun z => some (Value.int z)) ((if_pos c9).trans ((if_pos c17).trans (if_neg c27))).symm, congrArg (fun z => hp (z, τ)) ((if_pos c9).trans ((if_pos c17).trans (if_neg c27))).symm⟩
set_option maxRecDepth 100000 in
set_option maxHeartbeats 1000000 in
theorem q_feed {V : am_V} {d : Nat} {f : Nat → Nat → Int32} {τ : Nat → Nat → Int64} {L : Nat} (hL6 : L ≤ 160) (hL : f 64 7 = nI L) (c : Int32) : AF V MX5_feed (d + 1) [.ref 64, .int c] (f, τ) (some (.int (mr_feed L c))) (ms_feed f L c, τ) := by
  have tM := tb_M
  have m65 := tb_65
  have m66 := tb_66
  have m67 := tb_67
  have m68 := tb_68
  have m69 := tb_69
  have m70 := tb_70
  have m71 := tb_71
  have m72 := tb_72
  have m73 := tb_73
  have m74 := tb_74
  have m75 := tb_75
  have m76 := tb_76
  refine AM.of (L := [some (.ref 64), some (.int c)]) (by decide +kernel) (Nat.le_of_ble_eq_true rfl) rfl ?_
  refine aw_iload_n (i := 1) dX5_feed_0 rfl rfl ?_
  refine aw_i2l dX5_feed_1 ?_
  refine aw_lconst (v := 0) dX5_feed_2 (by decide) ?_
  refine aw_ldc2 dX5_feed_3 lkX5_61 ?_
  refine ax_callS3i (M' := MX5_in) dX5_feed_6 lmX5_63 oX5_in (by decide +kernel) (Nat.le_of_ble_eq_true rfl) (e_in _ 0 127) ?_
  refine aw_bne (tgt := 14) dX5_feed_9 (by decide) (fun c9 => ?_) (fun c9 => ?_)
  · refine aw_aload_n (i := 0) dX5_feed_14 rfl rfl ?_
    refine ax_geti (ci := 5) 7 dX5_feed_15 rfl lfX5_67 (by decide) (by assumption) (by rfl) ?_
    refine aw_tE (nI L) hL ?_
    refine aw_sipush (v := 160) dX5_feed_18 (by decide) ?_
    refine aw_icmp_ne (tgt := 27) dX5_feed_21 (by decide) (fun c21 => ?_) (fun c21 => ?_)
    · have hL7 : L < 160 := by
        rcases (show L = 160 ∨ L < 160 by omega) with rfl | q
        · exact absurd rfl c21
        · exact q
      refine aw_aload_n (i := 0) dX5_feed_27 rfl rfl ?_
      refine ax_getr (ci := 5) 6 dX5_feed_28 rfl lfX5_23 (by decide) (by assumption) (by rfl) ?_
      refine aw_aload_n (i := 0) dX5_feed_31 rfl rfl ?_
      refine ax_geti (ci := 5) 7 dX5_feed_32 rfl lfX5_67 (by decide) (by assumption) (by rfl) ?_
      refine aw_tE (nI L) hL ?_
      refine aw_iload_n (i := 1) dX5_feed_35 rfl rfl ?_
      refine ax_iastN dX5_feed_36 (by assumption) (by omega) (Nat.le_of_ble_eq_true rfl) ?_
      refine aw_aload_n (i := 0) dX5_feed_37 rfl rfl ?_
      refine aw_dup dX5_feed_38 rfl ?_
      refine ax_geti (ci := 5) 7 dX5_feed_39 rfl lfX5_67 (by decide) (by assumption) (by rfl) ?_
      refine aw_tE (nI L) (by rw [up2_ne (by omega)]; exact hL) ?_
      refine aw_iconst (v := 1) dX5_feed_42 (by decide) ?_
      refine aw_iadd dX5_feed_43 ?_
      refine aw_tE (nI (L + 1)) (nI_1 L) ?_
      refine ax_puti (ci := 5) 7 dX5_feed_44 rfl lfX5_67 (by decide) (by assumption) (by rfl) rfl rfl ?_
      refine aw_aload_n (i := 0) dX5_feed_47 rfl rfl ?_
      refine ax_geti (ci := 5) 7 dX5_feed_48 rfl lfX5_67 (by decide) (by assumption) (by rfl) ?_
      refine aw_tE (nI (L + 1)) (up2_self _ _ _ _) ?_
      refine aw_ireturn (ty := .int) dX5_feed_51 rfl rfl ?_
      exact ⟨congrArg (fun z => some (Value.int z)) ((if_pos c9).trans (if_neg c21)).symm, congrArg (fun z => hp (z, τ)) ((if_pos c9).trans (if_neg c21)).symm⟩
    · refine aw_bipush (v := -3) dX5_feed_24 (by decide) ?_
      refine aw_ireturn (ty := .int) dX5_feed_26 rfl rfl ?_
      exact ⟨congrArg (fun z => some (Value.int z)) ((if_pos c9).trans (if_pos c21)).symm, congrArg (fun z => hp (z, τ)) ((if_pos c9).trans (if_pos c21)).symm⟩
  · refine aw_iconst (v := -1) dX5_feed_12 (by decide) ?_
    refine aw_ireturn (ty := .int) dX5_feed_13 rfl rfl ?_
    exact ⟨congrArg (fun z => some (Value.int z)) (if_neg c9).symm, congrArg (fun z => hp (z, τ)) (if_neg c9).symm⟩
set_option maxRecDepth 100000 in
set_option maxHeartbeats 1000000 in
theorem q_end {V : am_V} {d : Nat} {f : Nat → Nat → Int32} {τ : Nat → Nat → Int64}  (n : Int32) : AF V MX5_end (d + 1) [.ref 64, .int n] (f, τ) (some (.int (mr_end f n))) (ms_end f n, τ) := by
  have tM := tb_M
  have m65 := tb_65
  have m66 := tb_66
  have m67 := tb_67
  have m68 := tb_68
  have m69 := tb_69
  have m70 := tb_70
  have m71 := tb_71
  have m72 := tb_72
  have m73 := tb_73
  have m74 := tb_74
  have m75 := tb_75
  have m76 := tb_76
  refine AM.of (L := [some (.ref 64), some (.int n), none]) (by decide +kernel) (Nat.le_of_ble_eq_true rfl) rfl ?_
  refine aw_iload_n (i := 1) dX5_end_0 rfl rfl ?_
  refine aw_i2l dX5_end_1 ?_
  refine aw_lconst (v := 0) dX5_end_2 (by decide) ?_
  refine aw_aload_n (i := 0) dX5_end_3 rfl rfl ?_
  refine ax_geti (ci := 5) 7 dX5_end_4 rfl lfX5_67 (by decide) (by assumption) (by rfl) ?_
  refine aw_i2l dX5_end_7 ?_
  refine ax_callS3i (M' := MX5_in) dX5_end_8 lmX5_63 oX5_in (by decide +kernel) (Nat.le_of_ble_eq_true rfl) (e_in _ 0 _) ?_
  refine aw_bne (tgt := 16) dX5_end_11 (by decide) (fun c11 => ?_) (fun c11 => ?_)
  · refine aw_aload_n (i := 0) dX5_end_16 rfl rfl ?_
    refine ax_geti (ci := 5) 7 dX5_end_17 rfl lfX5_67 (by decide) (by assumption) (by rfl) ?_
    refine aw_istore_n (i := 2) (L' := [_, _, _]) dX5_end_20 rfl (Nat.le_of_ble_eq_true rfl) rfl rfl ?_
    refine aw_aload_n (i := 0) dX5_end_21 rfl rfl ?_
    refine aw_iload_n (i := 1) dX5_end_22 rfl rfl ?_
    refine ax_puti (ci := 5) 7 dX5_end_23 rfl lfX5_67 (by decide) (by assumption) (by rfl) rfl rfl ?_
    refine aw_iload_n (i := 2) dX5_end_26 rfl rfl ?_
    refine aw_ireturn (ty := .int) dX5_end_27 rfl rfl ?_
    exact ⟨congrArg (fun z => some (Value.int z)) (if_pos c11).symm, congrArg (fun z => hp (z, τ)) (if_pos c11).symm⟩
  · refine aw_iconst (v := -1) dX5_end_14 (by decide) ?_
    refine aw_ireturn (ty := .int) dX5_end_15 rfl rfl ?_
    exact ⟨congrArg (fun z => some (Value.int z)) (if_neg c11).symm, congrArg (fun z => hp (z, τ)) (if_neg c11).symm⟩
set_option maxRecDepth 100000 in
set_option maxHeartbeats 1000000 in
theorem q_fault {V : am_V} {d : Nat} {f : Nat → Nat → Int32} {τ : Nat → Nat → Int64}  : AF V MX5_fault (d) [.ref 64] (f, τ) (some (.int (f 64 12))) (f, τ) := by
  have tM := tb_M
  have m65 := tb_65
  have m66 := tb_66
  have m67 := tb_67
  have m68 := tb_68
  have m69 := tb_69
  have m70 := tb_70
  have m71 := tb_71
  have m72 := tb_72
  have m73 := tb_73
  have m74 := tb_74
  have m75 := tb_75
  have m76 := tb_76
  refine AM.of (L := [some (.ref 64)]) (by decide +kernel) (Nat.le_of_ble_eq_true rfl) rfl ?_
  refine aw_aload_n (i := 0) dX5_fault_0 rfl rfl ?_
  refine ax_geti (ci := 5) 12 dX5_fault_1 rfl lfX5_70 (by decide) (by assumption) (by rfl) ?_
  refine aw_ireturn (ty := .int) dX5_fault_4 rfl rfl ?_
  exact ⟨rfl, rfl⟩
set_option maxRecDepth 100000 in
set_option maxHeartbeats 1000000 in
theorem q_torn {V : am_V} {d : Nat} {f : Nat → Nat → Int32} {τ : Nat → Nat → Int64}  : AF V MX5_torn (d) [.ref 64] (f, τ) (some (.int (f 64 27))) (f, τ) := by
  have tM := tb_M
  have m65 := tb_65
  have m66 := tb_66
  have m67 := tb_67
  have m68 := tb_68
  have m69 := tb_69
  have m70 := tb_70
  have m71 := tb_71
  have m72 := tb_72
  have m73 := tb_73
  have m74 := tb_74
  have m75 := tb_75
  have m76 := tb_76
  refine AM.of (L := [some (.ref 64)]) (by decide +kernel) (Nat.le_of_ble_eq_true rfl) rfl ?_
  refine aw_aload_n (i := 0) dX5_torn_0 rfl rfl ?_
  refine ax_geti (ci := 5) 27 dX5_torn_1 rfl lfX5_320 (by decide) (by assumption) (by rfl) ?_
  refine aw_ireturn (ty := .int) dX5_torn_4 rfl rfl ?_
  exact ⟨rfl, rfl⟩
