def fi1 : Nat → Nat → Int32 := up2 (up2 (up2 (up2 fi0 73 0 (-4)) 73 1 (-4)) 73 2 (-4)) 73 3 (-4)
def fi2 : Nat → Nat → Int32 := upk (upk fi1 68 (upd (zD (fi1 68) 75) 54 1)) 64 (upd (upd (fi1 64) 4 0) 5 (-1))
theorem fi2_df {V : am_V} {d : Nat} {τ : Nat → Nat → Int64} : AF V MX5_firstDraft d [.ref 64] (fi1, τ) none (fi2, τ) := by
  have h := f_firstDraft (V := V) (d := d) (f := fi1) (D := fi1 68) (g := fi1 64) (τ := τ)
  rw [upk_self, upk_self] at h
  exact h
theorem INV_0 : INV (kdF fi2) := by
  refine ⟨⟨0, 0, 0, 1, 0, ⟨by omega, by omega, by omega, by omega, by omega, by omega⟩, ⟨by decide +kernel, by decide +kernel, by decide +kernel, by decide +kernel, by decide +kernel⟩, ⟨by decide +kernel, by decide +kernel, by decide +kernel, by decide +kernel, by decide +kernel⟩, fun k hk => absurd hk (Nat.not_lt_zero _), fun k hk => absurd hk (Nat.not_lt_zero _), fun k hk => absurd hk (Nat.not_lt_zero _)⟩, ⟨0, by omega, by decide +kernel, by decide +kernel, fun k hk => absurd hk (Nat.not_lt_zero _)⟩, ⟨by decide +kernel, by decide +kernel⟩, fun j hj => ?_, fun k hk => ?_⟩
  · rcases (show j = 0 ∨ j = 1 by omega) with rfl | rfl
    · exact ⟨Or.inl (by decide +kernel), by decide +kernel, fun y => absurd y (by decide +kernel)⟩
    · exact ⟨Or.inl (by decide +kernel), by decide +kernel, fun y => absurd y (by decide +kernel)⟩
  · rcases (show k = 0 ∨ k = 1 ∨ k = 2 ∨ k = 3 by omega) with rfl | rfl | rfl | rfl
    · exact ⟨Or.inl ⟨by decide +kernel, by decide +kernel⟩, ⟨0, by omega, by decide +kernel, by decide +kernel⟩, by decide +kernel⟩
    · exact ⟨Or.inl ⟨by decide +kernel, by decide +kernel⟩, ⟨0, by omega, by decide +kernel, by decide +kernel⟩, by decide +kernel⟩
    · exact ⟨Or.inl ⟨by decide +kernel, by decide +kernel⟩, ⟨0, by omega, by decide +kernel, by decide +kernel⟩, by decide +kernel⟩
    · exact ⟨Or.inl ⟨by decide +kernel, by decide +kernel⟩, ⟨0, by omega, by decide +kernel, by decide +kernel⟩, by decide +kernel⟩
set_option maxRecDepth 100000 in
set_option maxHeartbeats 2000000 in
theorem h_X5_init {V : am_V} {d : Nat} : AM V MX5_init (d + 1) 12 866 [.ref 64] (ksC ++ [md0]) (fun r h1 => r = none ∧ h1 = hp (kdF fi2, fun _ _ => 0)) := by
  have tM := tb_M
  have t73 := tb_73
  refine AM.of (L := [some (.ref 64), none]) (by decide +kernel) (Nat.le_of_ble_eq_true rfl) rfl ?_
  refine h_X5_make (pre := ksC) (b := 64) rfl (Nat.le_of_ble_eq_true rfl) ?_
  rw [hp_fi0]
  refine aw_iconst (v := 0) dX5_init_99 (by decide) ?_
  refine aw_istore_n (i := 1) (L' := [some (.ref 64), some (.int 0)]) dX5_init_100 rfl (Nat.le_of_ble_eq_true rfl) rfl rfl ?_
  refine aw_iload_n (i := 1) dX5_init_101 rfl rfl ?_
  refine aw_iconst (v := 4) dX5_init_102 (by decide) ?_
  refine aw_icmp_ge (tgt := 120) dX5_init_103 (by decide) (fun z => absurd z (by decide)) (fun _ => ?_)
  refine aw_aload_n (i := 0) dX5_init_106 rfl rfl ?_
  refine ax_getr (ci := 5) 24 dX5_init_107 rfl lfX5_35 (by decide) tM (by rfl) ?_
  refine aw_iload_n (i := 1) dX5_init_110 rfl rfl ?_
  refine aw_bipush (v := -4) dX5_init_111 (by decide) ?_
  refine ax_iastN (i := 0) dX5_init_113 t73 (by omega) (Nat.le_of_ble_eq_true rfl) ?_
  refine aw_iinc (v := 1) (L' := [some (.ref 64), some (.int 1)]) dX5_init_114 rfl (by decide) (Nat.le_of_ble_eq_true rfl) rfl rfl ?_
  refine aw_goto (tgt := 101) dX5_init_117 (by decide) ?_
  refine aw_iload_n (i := 1) dX5_init_101 rfl rfl ?_
  refine aw_iconst (v := 4) dX5_init_102 (by decide) ?_
  refine aw_icmp_ge (tgt := 120) dX5_init_103 (by decide) (fun z => absurd z (by decide)) (fun _ => ?_)
  refine aw_aload_n (i := 0) dX5_init_106 rfl rfl ?_
  refine ax_getr (ci := 5) 24 dX5_init_107 rfl lfX5_35 (by decide) tM (by rfl) ?_
  refine aw_iload_n (i := 1) dX5_init_110 rfl rfl ?_
  refine aw_bipush (v := -4) dX5_init_111 (by decide) ?_
  refine ax_iastN (i := 1) dX5_init_113 t73 (by omega) (Nat.le_of_ble_eq_true rfl) ?_
  refine aw_iinc (v := 2) (L' := [some (.ref 64), some (.int 2)]) dX5_init_114 rfl (by decide) (Nat.le_of_ble_eq_true rfl) rfl rfl ?_
  refine aw_goto (tgt := 101) dX5_init_117 (by decide) ?_
  refine aw_iload_n (i := 1) dX5_init_101 rfl rfl ?_
  refine aw_iconst (v := 4) dX5_init_102 (by decide) ?_
  refine aw_icmp_ge (tgt := 120) dX5_init_103 (by decide) (fun z => absurd z (by decide)) (fun _ => ?_)
  refine aw_aload_n (i := 0) dX5_init_106 rfl rfl ?_
  refine ax_getr (ci := 5) 24 dX5_init_107 rfl lfX5_35 (by decide) tM (by rfl) ?_
  refine aw_iload_n (i := 1) dX5_init_110 rfl rfl ?_
  refine aw_bipush (v := -4) dX5_init_111 (by decide) ?_
  refine ax_iastN (i := 2) dX5_init_113 t73 (by omega) (Nat.le_of_ble_eq_true rfl) ?_
  refine aw_iinc (v := 3) (L' := [some (.ref 64), some (.int 3)]) dX5_init_114 rfl (by decide) (Nat.le_of_ble_eq_true rfl) rfl rfl ?_
  refine aw_goto (tgt := 101) dX5_init_117 (by decide) ?_
  refine aw_iload_n (i := 1) dX5_init_101 rfl rfl ?_
  refine aw_iconst (v := 4) dX5_init_102 (by decide) ?_
  refine aw_icmp_ge (tgt := 120) dX5_init_103 (by decide) (fun z => absurd z (by decide)) (fun _ => ?_)
  refine aw_aload_n (i := 0) dX5_init_106 rfl rfl ?_
  refine ax_getr (ci := 5) 24 dX5_init_107 rfl lfX5_35 (by decide) tM (by rfl) ?_
  refine aw_iload_n (i := 1) dX5_init_110 rfl rfl ?_
  refine aw_bipush (v := -4) dX5_init_111 (by decide) ?_
  refine ax_iastN (i := 3) dX5_init_113 t73 (by omega) (Nat.le_of_ble_eq_true rfl) ?_
  refine aw_iinc (v := 4) (L' := [some (.ref 64), some (.int 4)]) dX5_init_114 rfl (by decide) (Nat.le_of_ble_eq_true rfl) rfl rfl ?_
  refine aw_goto (tgt := 101) dX5_init_117 (by decide) ?_
  refine aw_iload_n (i := 1) dX5_init_101 rfl rfl ?_
  refine aw_iconst (v := 4) dX5_init_102 (by decide) ?_
  refine aw_icmp_ge (tgt := 120) dX5_init_103 (by decide) (fun _ => ?_) (fun z => absurd (by decide) z)
  refine aw_aload_n (i := 0) dX5_init_120 rfl rfl ?_
  refine ax_callV0v (M' := MX5_firstDraft) (ci := 5) dX5_init_121 lmX5_47 oX5_firstDraft (by decide +kernel) tM rfl rfl (Nat.le_of_ble_eq_true rfl) fi2_df ?_
  refine aw_aload_n (i := 0) dX5_init_124 rfl rfl ?_
  refine ax_callV0v (M' := MX5_keepDraft) (ci := 5) dX5_init_125 lmX5_50 oX5_keepDraft (by decide +kernel) tM rfl rfl (Nat.le_of_ble_eq_true rfl) f_keepDraft ?_
  exact aw_return dX5_init_128 rfl ⟨rfl, rfl⟩
