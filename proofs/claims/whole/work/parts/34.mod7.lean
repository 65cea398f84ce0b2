theorem bit_msk {c a b : Int32} {k : Int32} (ha : (a >>> (k &&& 31)) &&& 1 = 1) (hb : (b >>> (k &&& 31)) &&& 1 = 1) : ((c &&& a) >>> (k &&& 31)) &&& 1 = ((c &&& b) >>> (k &&& 31)) &&& 1 := by
  rw [Int32.shiftRight_and, Int32.shiftRight_and, Int32.and_assoc, Int32.and_assoc, ha, hb]
theorem dkF_t {f : Nat → Nat → Int32} {T : Nat} (h : f 2 7 = nI T) {seed msk : Int32} : ∀ i, (dkF f seed msk i).2 = nI (T + i) := by
  intro i
  induction i with
  | zero => exact h
  | succ i ih => rw [dkF, ih, nI_1]; rfl
theorem dkF_msk {f : Nat → Nat → Int32} {seed : Int32} : ∀ i, (dkF f seed 15 i).2 = (dkF f seed 32767 i).2 ∧ ∀ k, k < 4 → (dkF f seed 15 i).1 k = (dkF f seed 32767 i).1 k := by
  intro i
  induction i with
  | zero => exact ⟨rfl, fun _ _ => rfl⟩
  | succ i ih =>
    refine ⟨by rw [dkF, dkF, ih.1], fun k hk => ?_⟩
    rw [dkF, dkF]
    show tkK _ _ _ _ k = tkK _ _ _ _ k
    unfold tkK
    rw [ih.1, ih.2 k hk, bit_msk (c := drF seed (i + 1) >>> ((16 : Int32) &&& 31)) (a := 15) (b := 32767) (k := nI k) (by rcases (show k = 0 ∨ k = 1 ∨ k = 2 ∨ k = 3 by omega) with rfl | rfl | rfl | rfl <;> decide) (by rcases (show k = 0 ∨ k = 1 ∨ k = 2 ∨ k = 3 by omega) with rfl | rfl | rfl | rfl <;> decide)]
set_option maxRecDepth 100000 in
set_option maxHeartbeats 1000000 in
theorem n_drift {V : am_V} {d : Nat} {f : Nat → Nat → Int32} {τ : Nat → Nat → Int64} {n p s e T : Nat} (hB : BR f 2 0 n p s e T) (seed x what : Int32) : AGi V MX5_drift (d + 5) [.ref 64, .int seed, .int x, .int what] (f, τ) (GM τ f (r_drift f n seed x what)) := by
  have hn4 : n ≤ 4 := hB.1.1
  have hp8 : p ≤ 8 := hB.1.2.1
  have he : 1 ≤ e ∧ e ≤ 4 := ⟨hB.1.2.2.2.1, hB.1.2.2.2.2.1⟩
  have hT9 : T ≤ 999 := hB.1.2.2.2.2.2
  have ev6 : f 2 6 = nI e := hB.2.1.2.2.2.1
  have ev7 : f 2 7 = nI T := hB.2.1.2.2.2.2
  have hG : eqM f f := eqM.rf
  have tM := tb_M
  have m65 := tb_65
  have m66 := tb_66
  have m67 := tb_67
  have m68 := tb_68
  have m69 := tb_69
  have m70 := tb_70
  have m71 := tb_71
  have m72 := tb_72
  have m73 := tb_73
  have m74 := tb_74
  have m75 := tb_75
  have m76 := tb_76
  refine AM.of (L := [some (.ref 64), some (.int seed), some (.int x), some (.int what), none, none]) (by decide +kernel) (Nat.le_of_ble_eq_true rfl) rfl ?_
  have loop : ∀ (m : Nat) (i N : Nat) (g : Nat → Nat → Int32), i ≤ N → N - i < m → N ≤ 200 → MR f n p (f 9) (f 8) (f 10) e (dkF f seed 15 i).1 (T + i) g → AW V MX5_drift (d + 5) 0 0 44 [some (.ref 64), some (.int seed), some (.int (nI N)), some (.int what), some (.int (drF seed i)), some (.int (nI i))] [] (hp (g, τ)) (fun r' h' => ∃ (x : Int32) (S' : fm), r' = some (.int x) ∧ h' = hp S' ∧ GM τ f ((if what = 0 then sumF (fun k => (dkF f seed 32767 N).1 k 7) n else orF (fun k => (dkF f seed 32767 N).1 k 3) n)) x S') := by
    intro m
    induction m with
    | zero =>
      intro i N g h1 h2; omega
    | succ m ih =>
      intro i N g h1 h2 hN hT
      refine aw_iload dX5_drift_44 rfl ?_
      refine aw_iload_n (i := 2) dX5_drift_46 rfl rfl ?_
      refine aw_icmp_ge (tgt := 80) dX5_drift_47 (by decide) (fun c47 => ?_) (fun c47 => ?_)
      · have hip : i = N := by have := (nI_leI (a := N) (b := i) (by omega) (by omega)).mp c47; omega
        subst hip
        refine aw_iload_n (i := 3) dX5_drift_80 rfl rfl ?_
        refine aw_if_ne (tgt := 91) dX5_drift_81 (by decide) (fun c81 => ?_) (fun c81 => ?_)
        · refine aw_aload_n (i := 0) dX5_drift_91 rfl rfl ?_
          refine ax_callV0i (M' := MX5_says) (ci := 5) dX5_drift_92 lmX5_186 oX5_says (by decide +kernel) (by assumption) rfl rfl (Nat.le_of_ble_eq_true rfl) (n_says hn4 hT) ?_
          refine aw_ireturn (ty := .int) dX5_drift_95 rfl rfl ?_
          first | exact ⟨_, _, rfl, rfl, ((sumF_congr n (fun k hk => by rw [dkF_msk i |>.2 k (by omega)])).trans (if_pos c81).symm), _, rfl, hT.1⟩ | exact ⟨_, _, rfl, rfl, ((orF_congr n (fun k hk => by rw [dkF_msk i |>.2 k (by omega)])).trans (if_neg c81).symm), _, rfl, hT.1⟩
        · refine aw_aload_n (i := 0) dX5_drift_84 rfl rfl ?_
          refine ax_callV0i (M' := MX5_struckByAll) (ci := 5) dX5_drift_85 lmX5_226 oX5_struckByAll (by decide +kernel) (by assumption) rfl rfl (Nat.le_of_ble_eq_true rfl) (n_struckByAll hn4 hT) ?_
          refine aw_goto (tgt := 95) dX5_drift_88 (by decide) ?_
          refine aw_ireturn (ty := .int) dX5_drift_95 rfl rfl ?_
          first | exact ⟨_, _, rfl, rfl, ((sumF_congr n (fun k hk => by rw [dkF_msk i |>.2 k (by omega)])).trans (if_pos c81).symm), _, rfl, hT.1⟩ | exact ⟨_, _, rfl, rfl, ((orF_congr n (fun k hk => by rw [dkF_msk i |>.2 k (by omega)])).trans (if_neg c81).symm), _, rfl, hT.1⟩
      · have hi : i < N := Nat.not_le.mp (fun z => c47 (nI_le z (by omega)))
        refine aw_iload dX5_drift_50 rfl ?_
        refine aw_ldcw dX5_drift_52 lkX5_307 ?_
        refine aw_imul dX5_drift_55 ?_
        refine aw_sipush (v := 12345) dX5_drift_56 (by decide) ?_
        refine aw_iadd dX5_drift_59 ?_
        refine aw_istore (i := 4) (L' := [_, _, _, _, _, _]) dX5_drift_60 (Nat.le_of_ble_eq_true rfl) rfl rfl ?_
        refine aw_aload_n (i := 0) dX5_drift_62 rfl rfl ?_
        refine aw_iload dX5_drift_63 rfl ?_
        refine aw_bipush (v := 16) dX5_drift_65 (by decide) ?_
        refine aw_ishr dX5_drift_67 ?_
        refine aw_bipush (v := 15) dX5_drift_68 (by decide) ?_
        refine aw_iand dX5_drift_70 ?_
        refine ax_gV1v (M' := MX5_tickGoesBy) (ci := 5) dX5_drift_71 lmX5_180 oX5_tickGoesBy (by decide +kernel) (by assumption) rfl rfl (Nat.le_of_ble_eq_true rfl) (n_tickGoesBy hn4 he hT _) (fun S_ h_ => ?_)
        obtain ⟨f71, rfl, T71⟩ := h_
        refine aw_incN (L' := [_, _, _, _, _, _]) dX5_drift_74 rfl (Nat.le_of_ble_eq_true rfl) rfl rfl ?_
        refine aw_goto (tgt := 44) dX5_drift_77 (by decide) ?_
        refine ih (i + 1) N f71 hi (by omega) hN ?_
        rw [show (dkF f seed 15 (i + 1)).1 = _ by rw [dkF, dkF_t ev7, ev6]]
        exact T71
  refine aw_iload_n (i := 2) dX5_drift_0 rfl rfl ?_
  refine aw_i2l dX5_drift_1 ?_
  refine aw_lconst (v := 1) dX5_drift_2 (by decide) ?_
  refine aw_ldc2 dX5_drift_3 lkX5_229 ?_
  refine ax_callS3i (M' := MX5_in) dX5_drift_6 lmX5_63 oX5_in (by decide +kernel) (Nat.le_of_ble_eq_true rfl) (e_in _ 1 200) ?_
  refine aw_beq (tgt := 19) dX5_drift_9 (by decide) (fun c9 => ?_) (fun c9 => ?_)
  · refine aw_iconst (v := -1) dX5_drift_19 (by decide) ?_
    refine aw_ireturn (ty := .int) dX5_drift_20 rfl rfl ?_
    refine ⟨_, _, rfl, rfl, ?_, _, rfl, hG⟩
    unfold r_drift
    try rw [nI_clamp (show N < 2 ^ 31 by omega)]
    try rw [nI_clamp (show j < 2 ^ 31 by omega)]
    exact (if_neg c9).symm
  · refine aw_iload_n (i := 3) dX5_drift_12 rfl rfl ?_
    refine ax_callS1i (M' := MX5_isPart) dX5_drift_13 lmX5_240 oX5_isPart (by decide +kernel) (Nat.le_of_ble_eq_true rfl) (f_X5_isPart _) ?_
    refine aw_bne (tgt := 21) dX5_drift_16 (by decide) (fun c16 => ?_) (fun c16 => ?_)
    · obtain ⟨N, hN, rfl⟩ := rng1_of (n := 200) (by omega) c9
      refine aw_aload_n (i := 0) dX5_drift_21 rfl rfl ?_
      refine ax_getr (ci := 5) 0 dX5_drift_22 rfl lfX5_7 (by decide) (by assumption) (by rfl) ?_
      refine aw_bipush (v := 28) dX5_drift_25 (by decide) ?_
      refine ax_ialdN (i := 28) dX5_drift_27 (by assumption) (by omega) (Nat.le_of_ble_eq_true rfl) ?_
      refine aw_tE (f 2 1) (hB.2.2.1.1.trans hB.2.1.1.symm) ?_
      refine aw_if_ne (tgt := 34) dX5_drift_28 (by decide) (fun c28 => ?_) (fun c28 => ?_)
      · refine aw_iload_n (i := 1) dX5_drift_34 rfl rfl ?_
        refine aw_istore (i := 4) (L' := [_, _, _, _, _, _]) dX5_drift_35 (Nat.le_of_ble_eq_true rfl) rfl rfl ?_
        refine aw_aload_n (i := 0) dX5_drift_37 rfl rfl ?_
        refine ax_gV0v (M' := MX5_starts) (ci := 5) dX5_drift_38 lmX5_183 oX5_starts (by decide +kernel) (by assumption) rfl rfl (Nat.le_of_ble_eq_true rfl) (n_starts hB hG) (fun S_ h_ => ?_)
        obtain ⟨f38, rfl, T38, Q38⟩ := h_
        refine aw_iconst (v := 0) dX5_drift_41 (by decide) ?_
        refine aw_istore (i := 5) (L' := [_, _, _, _, _, _]) dX5_drift_42 (Nat.le_of_ble_eq_true rfl) rfl rfl ?_
        have e9 := loop (N + 1) 0 N f38 (by omega) (by omega) hN T38
        rw [show r_drift f n seed (nI N) what = _ by unfold r_drift; rw [if_pos c9, if_pos c16, if_neg c28, nI_clamp (by omega)]]
        exact e9
      · refine aw_bipush (v := -2) dX5_drift_31 (by decide) ?_
        refine aw_ireturn (ty := .int) dX5_drift_33 rfl rfl ?_
        refine ⟨_, _, rfl, rfl, ?_, _, rfl, hG⟩
        unfold r_drift
        try rw [nI_clamp (show N < 2 ^ 31 by omega)]
        try rw [nI_clamp (show j < 2 ^ 31 by omega)]
        exact ((if_pos c9).trans ((if_pos c16).trans (if_pos c28))).symm
    · refine aw_iconst (v := -1) dX5_drift_19 (by decide) ?_
      refine aw_ireturn (ty := .int) dX5_drift_20 rfl rfl ?_
      refine ⟨_, _, rfl, rfl, ?_, _, rfl, hG⟩
      unfold r_drift
      try rw [nI_clamp (show N < 2 ^ 31 by omega)]
      try rw [nI_clamp (show j < 2 ^ 31 by omega)]
      exact ((if_pos c9).trans (if_neg c16)).symm
