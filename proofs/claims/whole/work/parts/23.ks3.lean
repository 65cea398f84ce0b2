def jdU (cd c : Nat → Int32) (b0 l0 : Int32) : Nat → Int32 × Int32
  | 0 => (b0, l0)
  | i + 1 => if c i < (jdU cd c b0 l0 i).2 then (cd i, c i) else jdU cd c b0 l0 i
def jdM (c : Nat → Int32) (b0 l0 : Int32) : Nat → Int32 × Int32
  | 0 => (b0, l0)
  | i + 1 => if c i ≤ (jdM c b0 l0 i).2 then jdM c b0 l0 i else (nI i, c i)
def kdC (f : Nat → Nat → Int32) (n p j N : Nat) : Nat → Int32 := fun i => iabs (sumF (fun k => (av0 f n p (altK (K0 f) j 1 (nI i)) N).1 k 7) n - dueF (f 8) (f 10) (f 2 7) (f 2 7 + nI N - 1) p)
def slC (f : Nat → Nat → Int32) (n p N : Nat) : Nat → Int32 := fun i => iabs (sumF (fun k => (avK (f 9) (f 8) (f 10) n p (nI (4 - i)) (K0 f) (f 2 7) N).1 k 7) n - dueF (f 8) (f 10) (f 2 7) (f 2 7 + nI N - 1) p)
def loC (f : Nat → Nat → Int32) (n p N : Nat) : Nat → Int32 := fun i => sumF (fun k => (avK (rmR (f 9) i) (rmR (f 8) i) (rmR (f 10) i) n (p - 1) (f 2 6) (K0 f) (f 2 7) N).1 k 7) n
def r_kind (f : Nat → Nat → Int32) (n p : Nat) (k x what : Int32) : Int32 := if 0 ≤ k ∧ k ≤ f 2 1 - 1 then (if 0 ≤ x ∧ x ≤ 200 then (if 0 ≤ what ∧ what ≤ 1 then (if what = 0 then (jdU nI (kdC f n p k.toNatClampNeg x.toNatClampNeg) 0 1000000 4).1 else (jdU nI (kdC f n p k.toNatClampNeg x.toNatClampNeg) 0 1000000 4).2) else -1) else -1) else -1
def r_slow (f : Nat → Nat → Int32) (n p : Nat) (x what : Int32) : Int32 := if 0 ≤ x ∧ x ≤ 200 then (if 0 ≤ what ∧ what ≤ 1 then (if what = 0 then (jdU (fun i => nI (4 - i)) (slC f n p x.toNatClampNeg) 4 1000000 4).1 else (jdU (fun i => nI (4 - i)) (slC f n p x.toNatClampNeg) 4 1000000 4).2) else -1) else -1
def loJ (f : Nat → Nat → Int32) (n p N : Nat) : Nat → Int32 × Int32 := jdM (loC f n p N) (-4) (sumF (fun k => (av0 f n p (K0 f) N).1 k 7) n)
def r_lose (f : Nat → Nat → Int32) (n p : Nat) (x what : Int32) : Int32 := if 0 ≤ x ∧ x ≤ 200 then (if 0 ≤ what ∧ what ≤ 1 then (if (loJ f n p x.toNatClampNeg p).1 = -4 then -4 else if what = 0 then (loJ f n p x.toNatClampNeg p).1 else (loJ f n p x.toNatClampNeg p).2) else -1) else -1
set_option maxRecDepth 100000 in
set_option maxHeartbeats 1000000 in
theorem g_kind {V : am_V} {d : Nat} {f : Nat → Nat → Int32} {τ : Nat → Nat → Int64} {n p : Nat} (hn4 : n ≤ 4) (hn : f 2 1 = nI n) (hp8 : p ≤ 8) (hp1 : f 2 5 = nI p) (k x what : Int32) : AGi V MX4_kind (d + 7) [.ref 0, .int k, .int x, .int what] (f, τ) (GT τ f (r_kind f n p k x what)) := by
  have t0 := tb_0
  have tB := tb_B isB2
  have uB := tb_B isB14
  have uk := tb_Bk isB14
  have tk := tb_Bk isB2
  have hE : eqT f f := eqT.rf
  refine AM.of (L := [some (.ref 0), some (.int k), some (.int x), some (.int what), none, none, none, none]) (by decide +kernel) (Nat.le_of_ble_eq_true rfl) rfl ?_
  have loop : ∀ (m i : Nat) (j N : Nat) (z : Option Value) (g : Nat → Nat → Int32), i ≤ 4 → 4 - i < m → j < n → N ≤ 200 → eqT g f → AW V MX4_kind (d + 7) 0 0 39 [some (.ref 0), some (.int (nI j)), some (.int (nI N)), some (.int what), some (.int (jdU nI (kdC f n p j N) 0 1000000 i).1), some (.int (jdU nI (kdC f n p j N) 0 1000000 i).2), some (.int (nI i)), z] [] (hp (g, τ)) (fun r' h' => ∃ (x : Int32) (S' : fm), r' = some (.int x) ∧ h' = hp S' ∧ GT τ f ((if what = 0 then (jdU nI (kdC f n p j N) 0 1000000 4).1 else (jdU nI (kdC f n p j N) 0 1000000 4).2)) x S') := by
    intro m
    induction m with
    | zero => intro i j N z g h1 h2; omega
    | succ m ih =>
      intro i j N z g h1 h2 hj hN hG
      have kY : kdC f n p j N i < (jdU nI (kdC f n p j N) 0 1000000 i).2 → jdU nI (kdC f n p j N) 0 1000000 (i + 1) = (nI i, kdC f n p j N i) := fun q => if_pos q
      have kN : ¬ kdC f n p j N i < (jdU nI (kdC f n p j N) 0 1000000 i).2 → jdU nI (kdC f n p j N) 0 1000000 (i + 1) = (jdU nI (kdC f n p j N) 0 1000000 i) := fun q => if_neg q
      refine aw_iload dX4_kind_39 rfl ?_
      refine aw_iconst (v := 3) dX4_kind_41 (by decide) ?_
      refine aw_tE (nI 3) rfl ?_
      refine aw_icmp_gt (tgt := 80) dX4_kind_42 (by decide) (fun c42 => ?_) (fun c42 => ?_)
      · have hip : i = 4 := by have := (nI_ltI (a := 3) (b := i) (by omega) (by omega)).mp c42; omega
        subst hip
        refine aw_iload_n (i := 3) dX4_kind_80 rfl rfl ?_
        refine aw_if_ne (tgt := 89) dX4_kind_81 (by decide) (fun c81 => ?_) (fun c81 => ?_)
        · refine aw_iload dX4_kind_89 rfl ?_
          refine aw_ireturn (ty := .int) dX4_kind_91 rfl rfl ?_
          first | exact ⟨_, _, rfl, rfl, (if_neg c81).symm, _, rfl, hG⟩ | exact ⟨_, _, rfl, rfl, (if_pos c81).symm, _, rfl, hG⟩
        · refine aw_iload dX4_kind_84 rfl ?_
          refine aw_goto (tgt := 91) dX4_kind_86 (by decide) ?_
          refine aw_ireturn (ty := .int) dX4_kind_91 rfl rfl ?_
          first | exact ⟨_, _, rfl, rfl, (if_neg c81).symm, _, rfl, hG⟩ | exact ⟨_, _, rfl, rfl, (if_pos c81).symm, _, rfl, hG⟩
      · have hi : i < 4 := Nat.not_le.mp (fun q => c42 ((nI_ltI (a := 3) (b := i) (by omega) (by omega)).mpr (by omega)))
        refine aw_aload_n (i := 0) dX4_kind_45 rfl rfl ?_
        refine aw_iload_n (i := 1) dX4_kind_46 rfl rfl ?_
        refine aw_iconst (v := 1) dX4_kind_47 (by decide) ?_
        refine aw_iload dX4_kind_48 rfl ?_
        refine ax_gV3r (M' := MX4_copyAltered) (ci := 4) dX4_kind_50 lmX4_189 oX4_copyAltered (by decide +kernel) (by assumption) rfl rfl (Nat.le_of_ble_eq_true rfl) (g_copyAltered hn4 hn hp8 hp1 hj hG _ _) (fun r_ S_ h_ => ?_)
        obtain ⟨rfl, f50, rfl, T50⟩ := h_
        refine aw_iload_n (i := 2) dX4_kind_53 rfl rfl ?_
        refine ax_gS2i (M' := MX4_missOf) dX4_kind_54 lmX4_193 oX4_missOf (by decide +kernel) (Nat.le_of_ble_eq_true rfl) (g_missOf hn4 hp8 T50 (N := N) (by omega)) (fun r_ S_ h_ => ?_)
        obtain ⟨rfl, f54, rfl, T54⟩ := h_
        refine aw_istore (i := 7) (L' := [_, _, _, _, _, _, _, _]) dX4_kind_57 (Nat.le_of_ble_eq_true rfl) rfl rfl ?_
        refine aw_iload dX4_kind_59 rfl ?_
        refine aw_iload dX4_kind_61 rfl ?_
        refine aw_icmp_ge (tgt := 74) dX4_kind_63 (by decide) (fun c63 => ?_) (fun c63 => ?_)
        · refine aw_incN (L' := [_, _, _, _, _, _, _, _]) dX4_kind_74 rfl (Nat.le_of_ble_eq_true rfl) rfl rfl ?_
          refine aw_goto (tgt := 39) dX4_kind_77 (by decide) ?_
          have e := fun z => ih (i + 1) j N z f54 hi (by omega) hj hN T54.1
          first | (rw [kN (Int32.not_lt.mpr c63)] at e; exact e _) | (rw [kY (Int32.not_le.mp c63)] at e; exact e _)
        · refine aw_iload dX4_kind_66 rfl ?_
          refine aw_istore (i := 5) (L' := [_, _, _, _, _, _, _, _]) dX4_kind_68 (Nat.le_of_ble_eq_true rfl) rfl rfl ?_
          refine aw_iload dX4_kind_70 rfl ?_
          refine aw_istore (i := 4) (L' := [_, _, _, _, _, _, _, _]) dX4_kind_72 (Nat.le_of_ble_eq_true rfl) rfl rfl ?_
          refine aw_incN (L' := [_, _, _, _, _, _, _, _]) dX4_kind_74 rfl (Nat.le_of_ble_eq_true rfl) rfl rfl ?_
          refine aw_goto (tgt := 39) dX4_kind_77 (by decide) ?_
          have e := fun z => ih (i + 1) j N z f54 hi (by omega) hj hN T54.1
          first | (rw [kN (Int32.not_lt.mpr c63)] at e; exact e _) | (rw [kY (Int32.not_le.mp c63)] at e; exact e _)
  refine aw_aload_n (i := 0) dX4_kind_0 rfl rfl ?_
  refine ax_getr (ci := 4) 2 dX4_kind_1 rfl lfX4_16 (by decide) (by assumption) (by rfl) ?_
  refine aw_iload_n (i := 1) dX4_kind_4 rfl rfl ?_
  refine ax_callV1i (M' := MX0_hasKey) (ci := 0) dX4_kind_5 lmX4_101 oX0_hasKey (by decide +kernel) (by assumption) rfl rfl (Nat.le_of_ble_eq_true rfl) (f_X0_hasKey isB2 _) ?_
  refine aw_beq (tgt := 27) dX4_kind_8 (by decide) (fun c8 => ?_) (fun c8 => ?_)
  · refine aw_iconst (v := -1) dX4_kind_27 (by decide) ?_
    refine aw_ireturn (ty := .int) dX4_kind_28 rfl rfl ?_
    refine ⟨_, _, rfl, rfl, ?_, _, rfl, hE⟩
    unfold r_kind
    try rw [nI_clamp (show N < 2 ^ 31 by omega)]
    try rw [nI_clamp (show j < 2 ^ 31 by omega)]
    exact (if_neg c8).symm
  · refine aw_iload_n (i := 2) dX4_kind_11 rfl rfl ?_
    refine ax_callS1i (M' := MX4_isRun) dX4_kind_12 lmX4_165 oX4_isRun (by decide +kernel) (Nat.le_of_ble_eq_true rfl) (f_X4_isRun _) ?_
    refine aw_beq (tgt := 27) dX4_kind_15 (by decide) (fun c15 => ?_) (fun c15 => ?_)
    · refine aw_iconst (v := -1) dX4_kind_27 (by decide) ?_
      refine aw_ireturn (ty := .int) dX4_kind_28 rfl rfl ?_
      refine ⟨_, _, rfl, rfl, ?_, _, rfl, hE⟩
      unfold r_kind
      try rw [nI_clamp (show N < 2 ^ 31 by omega)]
      try rw [nI_clamp (show j < 2 ^ 31 by omega)]
      exact ((if_pos c8).trans (if_neg c15)).symm
    · refine aw_iload_n (i := 3) dX4_kind_18 rfl rfl ?_
      refine aw_iconst (v := 0) dX4_kind_19 (by decide) ?_
      refine aw_iconst (v := 1) dX4_kind_20 (by decide) ?_
      refine ax_callS3i (M' := MX4_within) dX4_kind_21 lmX4_54 oX4_within (by decide +kernel) (Nat.le_of_ble_eq_true rfl) (f_X4_within _ _ _) ?_
      refine aw_bne (tgt := 29) dX4_kind_24 (by decide) (fun c24 => ?_) (fun c24 => ?_)
      · obtain ⟨j, hj, rfl⟩ := key_of hn4 (show 0 ≤ k ∧ k ≤ nI n - 1 by rw [← hn]; exact c8)
        obtain ⟨N, hN, rfl⟩ := rng_of (n := 200) (by omega) c15
        refine aw_iconst (v := 0) dX4_kind_29 (by decide) ?_
        refine aw_istore (i := 4) (L' := [_, _, _, _, _, _, _, _]) dX4_kind_30 (Nat.le_of_ble_eq_true rfl) rfl rfl ?_
        refine aw_ldc dX4_kind_32 lkX4_188 ?_
        refine aw_istore (i := 5) (L' := [_, _, _, _, _, _, _, _]) dX4_kind_34 (Nat.le_of_ble_eq_true rfl) rfl rfl ?_
        refine aw_iconst (v := 0) dX4_kind_36 (by decide) ?_
        refine aw_istore (i := 6) (L' := [_, _, _, _, _, _, _, _]) dX4_kind_37 (Nat.le_of_ble_eq_true rfl) rfl rfl ?_
        have e := loop 5 0 j N none f (by omega) (by omega) hj hN hE
        rw [show r_kind f n p (nI j) (nI N) what = _ by unfold r_kind; rw [if_pos c8, if_pos c15, if_pos c24, nI_clamp (by omega), nI_clamp (by omega)]]
        exact e
      · refine aw_iconst (v := -1) dX4_kind_27 (by decide) ?_
        refine aw_ireturn (ty := .int) dX4_kind_28 rfl rfl ?_
        refine ⟨_, _, rfl, rfl, ?_, _, rfl, hE⟩
        unfold r_kind
        try rw [nI_clamp (show N < 2 ^ 31 by omega)]
        try rw [nI_clamp (show j < 2 ^ 31 by omega)]
        exact ((if_pos c8).trans ((if_pos c15).trans (if_neg c24))).symm
set_option maxRecDepth 100000 in
set_option maxHeartbeats 1000000 in
theorem g_slow {V : am_V} {d : Nat} {f : Nat → Nat → Int32} {τ : Nat → Nat → Int64} {n p : Nat} (hn4 : n ≤ 4) (hn : f 2 1 = nI n) (hp8 : p ≤ 8) (hp1 : f 2 5 = nI p) (x what : Int32) : AGi V MX4_slow (d + 7) [.ref 0, .int x, .int what] (f, τ) (GT τ f (r_slow f n p x what)) := by
  have t0 := tb_0
  have tB := tb_B isB2
  have uB := tb_B isB14
  have uk := tb_Bk isB14
  have tk := tb_Bk isB2
  have hE : eqT f f := eqT.rf
  refine AM.of (L := [some (.ref 0), some (.int x), some (.int what), none, none, none, none, none]) (by decide +kernel) (Nat.le_of_ble_eq_true rfl) rfl ?_
  have loop : ∀ (m i : Nat) (N : Nat) (z z2 : Option Value) (g : Nat → Nat → Int32), i ≤ 4 → 4 - i < m → N ≤ 200 → eqT g f → AW V MX4_slow (d + 7) 0 0 27 [some (.ref 0), some (.int (nI N)), some (.int what), some (.int (jdU (fun i => nI (4 - i)) (slC f n p N) 4 1000000 i).1), some (.int (jdU (fun i => nI (4 - i)) (slC f n p N) 4 1000000 i).2), some (.int (nI (4 - i))), z, z2] [] (hp (g, τ)) (fun r' h' => ∃ (x : Int32) (S' : fm), r' = some (.int x) ∧ h' = hp S' ∧ GT τ f ((if what = 0 then (jdU (fun i => nI (4 - i)) (slC f n p N) 4 1000000 4).1 else (jdU (fun i => nI (4 - i)) (slC f n p N) 4 1000000 4).2)) x S') := by
    intro m
    induction m with
    | zero => intro i N z z2 g h1 h2; omega
    | succ m ih =>
      intro i N z z2 g h1 h2 hN hG
      have kY : slC f n p N i < (jdU (fun i => nI (4 - i)) (slC f n p N) 4 1000000 i).2 → jdU (fun i => nI (4 - i)) (slC f n p N) 4 1000000 (i + 1) = (nI (4 - i), slC f n p N i) := fun q => if_pos q
      have kN : ¬ slC f n p N i < (jdU (fun i => nI (4 - i)) (slC f n p N) 4 1000000 i).2 → jdU (fun i => nI (4 - i)) (slC f n p N) 4 1000000 (i + 1) = (jdU (fun i => nI (4 - i)) (slC f n p N) 4 1000000 i) := fun q => if_neg q
      have ed : 4 - (i + 1) = 4 - i - 1 := by omega
      refine aw_iload dX4_slow_27 rfl ?_
      refine aw_iconst (v := 1) dX4_slow_29 (by decide) ?_
      refine aw_tE (nI 1) rfl ?_
      refine aw_icmp_lt (tgt := 74) dX4_slow_30 (by decide) (fun c30 => ?_) (fun c30 => ?_)
      · have hip : i = 4 := by have := (nI_ltI (a := 4 - i) (b := 1) (by omega) (by omega)).mp c30; omega
        subst hip
        refine aw_iload_n (i := 2) dX4_slow_74 rfl rfl ?_
        refine aw_if_ne (tgt := 82) dX4_slow_75 (by decide) (fun c75 => ?_) (fun c75 => ?_)
        · refine aw_iload dX4_slow_82 rfl ?_
          refine aw_ireturn (ty := .int) dX4_slow_84 rfl rfl ?_
          first | exact ⟨_, _, rfl, rfl, (if_neg c75).symm, _, rfl, hG⟩ | exact ⟨_, _, rfl, rfl, (if_pos c75).symm, _, rfl, hG⟩
        · refine aw_iload_n (i := 3) dX4_slow_78 rfl rfl ?_
          refine aw_goto (tgt := 84) dX4_slow_79 (by decide) ?_
          refine aw_ireturn (ty := .int) dX4_slow_84 rfl rfl ?_
          first | exact ⟨_, _, rfl, rfl, (if_neg c75).symm, _, rfl, hG⟩ | exact ⟨_, _, rfl, rfl, (if_pos c75).symm, _, rfl, hG⟩
      · have hi : i < 4 := Nat.not_le.mp (fun q => c30 ((nI_ltI (a := 4 - i) (b := 1) (by omega) (by omega)).mpr (by omega)))
        refine aw_aload_n (i := 0) dX4_slow_33 rfl rfl ?_
        refine ax_gV0r (M' := MX4_copyToTry) (ci := 4) dX4_slow_34 lmX4_168 oX4_copyToTry (by decide +kernel) (by assumption) rfl rfl (Nat.le_of_ble_eq_true rfl) (g_copyToTry hn4 hn hp8 hp1 hG) (fun r_ S_ h_ => ?_)
        obtain ⟨rfl, f34, rfl, T34⟩ := h_
        refine aw_astore (i := 6) (L' := [_, _, _, _, _, _, _, _]) dX4_slow_37 (Nat.le_of_ble_eq_true rfl) rfl rfl ?_
        refine aw_aload dX4_slow_39 rfl ?_
        refine aw_iload dX4_slow_41 rfl ?_
        refine ax_puti (ci := 0) 6 dX4_slow_43 rfl lfX4_88 (by decide) (by assumption) (by rfl) rfl rfl ?_
        refine aw_aload dX4_slow_46 rfl ?_
        refine aw_iload_n (i := 1) dX4_slow_48 rfl rfl ?_
        refine ax_gS2i (M' := MX4_missOf) dX4_slow_49 lmX4_193 oX4_missOf (by decide +kernel) (Nat.le_of_ble_eq_true rfl) (g_missOf hn4 hp8 (TR.ev T34 (nI (4 - i))) (N := N) (by omega)) (fun r_ S_ h_ => ?_)
        obtain ⟨rfl, f49, rfl, T49⟩ := h_
        refine aw_istore (i := 7) (L' := [_, _, _, _, _, _, _, _]) dX4_slow_52 (Nat.le_of_ble_eq_true rfl) rfl rfl ?_
        refine aw_iload dX4_slow_54 rfl ?_
        refine aw_iload dX4_slow_56 rfl ?_
        refine aw_icmp_ge (tgt := 68) dX4_slow_58 (by decide) (fun c58 => ?_) (fun c58 => ?_)
        · refine aw_iinc (v := nI (4 - (i + 1))) (L' := [_, _, _, _, _, _, _, _]) dX4_slow_68 rfl ((am_dec _).trans (by rw [ed]; exact pk_sub (a := 4 - i) (b := 1) (by omega))) (Nat.le_of_ble_eq_true rfl) rfl rfl ?_
          refine aw_goto (tgt := 27) dX4_slow_71 (by decide) ?_
          have e := fun z z2 => ih (i + 1) N z z2 f49 hi (by omega) hN T49.1
          first | (rw [kN (Int32.not_lt.mpr c58)] at e; exact e _ _) | (rw [kY (Int32.not_le.mp c58)] at e; exact e _ _)
        · refine aw_iload dX4_slow_61 rfl ?_
          refine aw_istore (i := 4) (L' := [_, _, _, _, _, _, _, _]) dX4_slow_63 (Nat.le_of_ble_eq_true rfl) rfl rfl ?_
          refine aw_iload dX4_slow_65 rfl ?_
          refine aw_istore_n (i := 3) (L' := [_, _, _, _, _, _, _, _]) dX4_slow_67 rfl (Nat.le_of_ble_eq_true rfl) rfl rfl ?_
          refine aw_iinc (v := nI (4 - (i + 1))) (L' := [_, _, _, _, _, _, _, _]) dX4_slow_68 rfl ((am_dec _).trans (by rw [ed]; exact pk_sub (a := 4 - i) (b := 1) (by omega))) (Nat.le_of_ble_eq_true rfl) rfl rfl ?_
          refine aw_goto (tgt := 27) dX4_slow_71 (by decide) ?_
          have e := fun z z2 => ih (i + 1) N z z2 f49 hi (by omega) hN T49.1
          first | (rw [kN (Int32.not_lt.mpr c58)] at e; exact e _ _) | (rw [kY (Int32.not_le.mp c58)] at e; exact e _ _)
  refine aw_iload_n (i := 1) dX4_slow_0 rfl rfl ?_
  refine ax_callS1i (M' := MX4_isRun) dX4_slow_1 lmX4_165 oX4_isRun (by decide +kernel) (Nat.le_of_ble_eq_true rfl) (f_X4_isRun _) ?_
  refine aw_beq (tgt := 16) dX4_slow_4 (by decide) (fun c4 => ?_) (fun c4 => ?_)
  · refine aw_iconst (v := -1) dX4_slow_16 (by decide) ?_
    refine aw_ireturn (ty := .int) dX4_slow_17 rfl rfl ?_
    refine ⟨_, _, rfl, rfl, ?_, _, rfl, hE⟩
    unfold r_slow
    try rw [nI_clamp (show N < 2 ^ 31 by omega)]
    try rw [nI_clamp (show j < 2 ^ 31 by omega)]
    exact (if_neg c4).symm
  · refine aw_iload_n (i := 2) dX4_slow_7 rfl rfl ?_
    refine aw_iconst (v := 0) dX4_slow_8 (by decide) ?_
    refine aw_iconst (v := 1) dX4_slow_9 (by decide) ?_
    refine ax_callS3i (M' := MX4_within) dX4_slow_10 lmX4_54 oX4_within (by decide +kernel) (Nat.le_of_ble_eq_true rfl) (f_X4_within _ _ _) ?_
    refine aw_bne (tgt := 18) dX4_slow_13 (by decide) (fun c13 => ?_) (fun c13 => ?_)
    · obtain ⟨N, hN, rfl⟩ := rng_of (n := 200) (by omega) c4
      refine aw_iconst (v := 4) dX4_slow_18 (by decide) ?_
      refine aw_istore_n (i := 3) (L' := [_, _, _, _, _, _, _, _]) dX4_slow_19 rfl (Nat.le_of_ble_eq_true rfl) rfl rfl ?_
      refine aw_ldc dX4_slow_20 lkX4_188 ?_
      refine aw_istore (i := 4) (L' := [_, _, _, _, _, _, _, _]) dX4_slow_22 (Nat.le_of_ble_eq_true rfl) rfl rfl ?_
      refine aw_iconst (v := 4) dX4_slow_24 (by decide) ?_
      refine aw_istore (i := 5) (L' := [_, _, _, _, _, _, _, _]) dX4_slow_25 (Nat.le_of_ble_eq_true rfl) rfl rfl ?_
      have e := loop 5 0 N none none f (by omega) (by omega) hN hE
      rw [show r_slow f n p (nI N) what = _ by unfold r_slow; rw [if_pos c4, if_pos c13, nI_clamp (by omega)]]
      exact e
    · refine aw_iconst (v := -1) dX4_slow_16 (by decide) ?_
      refine aw_ireturn (ty := .int) dX4_slow_17 rfl rfl ?_
      refine ⟨_, _, rfl, rfl, ?_, _, rfl, hE⟩
      unfold r_slow
      try rw [nI_clamp (show N < 2 ^ 31 by omega)]
      try rw [nI_clamp (show j < 2 ^ 31 by omega)]
      exact ((if_pos c4).trans (if_neg c13)).symm
set_option maxRecDepth 100000 in
set_option maxHeartbeats 1000000 in
theorem g_lose {V : am_V} {d : Nat} {f : Nat → Nat → Int32} {τ : Nat → Nat → Int64} {n p : Nat} (hn4 : n ≤ 4) (hn : f 2 1 = nI n) (hp8 : p ≤ 8) (hp1 : f 2 5 = nI p) (x what : Int32) : AGi V MX4_lose (d + 6) [.ref 0, .int x, .int what] (f, τ) (GT τ f (r_lose f n p x what)) := by
  have t0 := tb_0
  have tB := tb_B isB2
  have uB := tb_B isB14
  have uk := tb_Bk isB14
  have tk := tb_Bk isB2
  have hE : eqT f f := eqT.rf
  refine AM.of (L := [some (.ref 0), some (.int x), some (.int what), none, none, none, none, none]) (by decide +kernel) (Nat.le_of_ble_eq_true rfl) rfl ?_
  have loop : ∀ (m i : Nat) (N : Nat) (z z2 : Option Value) (g : Nat → Nat → Int32), i ≤ p → p - i < m → N ≤ 200 → eqT g f → AW V MX4_lose (d + 6) 0 0 34 [some (.ref 0), some (.int (nI N)), some (.int what), some (.int (loJ f n p N i).1), some (.int (loJ f n p N i).2), some (.int (nI i)), z, z2] [] (hp (g, τ)) (fun r' h' => ∃ (x : Int32) (S' : fm), r' = some (.int x) ∧ h' = hp S' ∧ GT τ f ((if (loJ f n p N p).1 = -4 then -4 else if what = 0 then (loJ f n p N p).1 else (loJ f n p N p).2)) x S') := by
    intro m
    induction m with
    | zero => intro i N z z2 g h1 h2; omega
    | succ m ih =>
      intro i N z z2 g h1 h2 hN hG
      have kY : loC f n p N i ≤ (loJ f n p N i).2 → loJ f n p N (i + 1) = (loJ f n p N i) := fun q => if_pos q
      have kN : ¬ loC f n p N i ≤ (loJ f n p N i).2 → loJ f n p N (i + 1) = (nI i, loC f n p N i) := fun q => if_neg q
      refine aw_iload dX4_lose_34 rfl ?_
      refine aw_aload_n (i := 0) dX4_lose_36 rfl rfl ?_
      refine ax_getr (ci := 4) 2 dX4_lose_37 rfl lfX4_16 (by decide) (by assumption) (by rfl) ?_
      refine ax_geti (ci := 0) 5 dX4_lose_40 rfl lfX4_82 (by decide) (by assumption) (by rfl) ?_
      refine aw_tE (nI p) ((congrFun (hG 2 (Or.inl (by omega)) (by omega) (by omega)) 5).trans hp1) ?_
      refine aw_icmp_ge (tgt := 87) dX4_lose_43 (by decide) (fun c43 => ?_) (fun c43 => ?_)
      · have hip : i = p := by have := (nI_leI (a := p) (b := i) (by omega) (by omega)).mp c43; omega
        subst hip
        refine aw_iload_n (i := 3) dX4_lose_87 rfl rfl ?_
        refine aw_bipush (v := -4) dX4_lose_88 (by decide) ?_
        refine aw_icmp_ne (tgt := 96) dX4_lose_90 (by decide) (fun c90 => ?_) (fun c90 => ?_)
        · refine aw_iload_n (i := 2) dX4_lose_96 rfl rfl ?_
          refine aw_if_ne (tgt := 104) dX4_lose_97 (by decide) (fun c97 => ?_) (fun c97 => ?_)
          · refine aw_iload dX4_lose_104 rfl ?_
            refine aw_ireturn (ty := .int) dX4_lose_106 rfl rfl ?_
            first | exact ⟨_, _, rfl, rfl, ((if_neg c90).trans (if_neg c97)).symm, _, rfl, hG⟩ | exact ⟨_, _, rfl, rfl, ((if_neg c90).trans (if_pos c97)).symm, _, rfl, hG⟩
          · refine aw_iload_n (i := 3) dX4_lose_100 rfl rfl ?_
            refine aw_goto (tgt := 106) dX4_lose_101 (by decide) ?_
            refine aw_ireturn (ty := .int) dX4_lose_106 rfl rfl ?_
            first | exact ⟨_, _, rfl, rfl, ((if_neg c90).trans (if_neg c97)).symm, _, rfl, hG⟩ | exact ⟨_, _, rfl, rfl, ((if_neg c90).trans (if_pos c97)).symm, _, rfl, hG⟩
        · refine aw_bipush (v := -4) dX4_lose_93 (by decide) ?_
          refine aw_ireturn (ty := .int) dX4_lose_95 rfl rfl ?_
          exact ⟨_, _, rfl, rfl, (if_pos c90).symm, _, rfl, hG⟩
      · have hi : i < p := Nat.not_le.mp (fun z => c43 (nI_le z (by omega)))
        refine aw_aload_n (i := 0) dX4_lose_46 rfl rfl ?_
        refine ax_gV0r (M' := MX4_copyToTry) (ci := 4) dX4_lose_47 lmX4_168 oX4_copyToTry (by decide +kernel) (by assumption) rfl rfl (Nat.le_of_ble_eq_true rfl) (g_copyToTry hn4 hn hp8 hp1 hG) (fun r_ S_ h_ => ?_)
        obtain ⟨rfl, f47, rfl, T47⟩ := h_
        refine aw_astore (i := 6) (L' := [_, _, _, _, _, _, _, _]) dX4_lose_50 (Nat.le_of_ble_eq_true rfl) rfl rfl ?_
        refine aw_aload dX4_lose_52 rfl ?_
        refine aw_iload dX4_lose_54 rfl ?_
        refine ax_callV1v (M' := MX0_removePress) (ci := 0) dX4_lose_56 lmX4_200 oX0_removePress (by decide +kernel) (by assumption) rfl rfl (Nat.le_of_ble_eq_true rfl) (f_X0_removePress isB14 hp8 T47.2.1.2.1 hi) ?_
        refine aw_aload dX4_lose_59 rfl ?_
        refine aw_iload_n (i := 1) dX4_lose_61 rfl rfl ?_
        refine ax_gS2i (M' := MX4_strokesIn) dX4_lose_62 lmX4_197 oX4_strokesIn (by decide +kernel) (Nat.le_of_ble_eq_true rfl) (g_strokesIn hn4 (by omega) (T47.rm hn4 hi) (N := N) (by omega)) (fun r_ S_ h_ => ?_)
        obtain ⟨rfl, f62, rfl, T62⟩ := h_
        refine aw_istore (i := 7) (L' := [_, _, _, _, _, _, _, _]) dX4_lose_65 (Nat.le_of_ble_eq_true rfl) rfl rfl ?_
        refine aw_iload dX4_lose_67 rfl ?_
        refine aw_iload dX4_lose_69 rfl ?_
        refine aw_icmp_le (tgt := 81) dX4_lose_71 (by decide) (fun c71 => ?_) (fun c71 => ?_)
        · refine aw_incN (L' := [_, _, _, _, _, _, _, _]) dX4_lose_81 rfl (Nat.le_of_ble_eq_true rfl) rfl rfl ?_
          refine aw_goto (tgt := 34) dX4_lose_84 (by decide) ?_
          have e := fun z z2 => ih (i + 1) N z z2 f62 hi (by omega) hN T62.1
          first | (rw [kY c71] at e; exact e _ _) | (rw [kN c71] at e; exact e _ _)
        · refine aw_iload dX4_lose_74 rfl ?_
          refine aw_istore (i := 4) (L' := [_, _, _, _, _, _, _, _]) dX4_lose_76 (Nat.le_of_ble_eq_true rfl) rfl rfl ?_
          refine aw_iload dX4_lose_78 rfl ?_
          refine aw_istore_n (i := 3) (L' := [_, _, _, _, _, _, _, _]) dX4_lose_80 rfl (Nat.le_of_ble_eq_true rfl) rfl rfl ?_
          refine aw_incN (L' := [_, _, _, _, _, _, _, _]) dX4_lose_81 rfl (Nat.le_of_ble_eq_true rfl) rfl rfl ?_
          refine aw_goto (tgt := 34) dX4_lose_84 (by decide) ?_
          have e := fun z z2 => ih (i + 1) N z z2 f62 hi (by omega) hN T62.1
          first | (rw [kY c71] at e; exact e _ _) | (rw [kN c71] at e; exact e _ _)
  refine aw_iload_n (i := 1) dX4_lose_0 rfl rfl ?_
  refine ax_callS1i (M' := MX4_isRun) dX4_lose_1 lmX4_165 oX4_isRun (by decide +kernel) (Nat.le_of_ble_eq_true rfl) (f_X4_isRun _) ?_
  refine aw_beq (tgt := 16) dX4_lose_4 (by decide) (fun c4 => ?_) (fun c4 => ?_)
  · refine aw_iconst (v := -1) dX4_lose_16 (by decide) ?_
    refine aw_ireturn (ty := .int) dX4_lose_17 rfl rfl ?_
    refine ⟨_, _, rfl, rfl, ?_, _, rfl, hE⟩
    unfold r_lose
    try rw [nI_clamp (show N < 2 ^ 31 by omega)]
    try rw [nI_clamp (show j < 2 ^ 31 by omega)]
    exact (if_neg c4).symm
  · refine aw_iload_n (i := 2) dX4_lose_7 rfl rfl ?_
    refine aw_iconst (v := 0) dX4_lose_8 (by decide) ?_
    refine aw_iconst (v := 1) dX4_lose_9 (by decide) ?_
    refine ax_callS3i (M' := MX4_within) dX4_lose_10 lmX4_54 oX4_within (by decide +kernel) (Nat.le_of_ble_eq_true rfl) (f_X4_within _ _ _) ?_
    refine aw_bne (tgt := 18) dX4_lose_13 (by decide) (fun c13 => ?_) (fun c13 => ?_)
    · obtain ⟨N, hN, rfl⟩ := rng_of (n := 200) (by omega) c4
      have hG := hE
      refine aw_bipush (v := -4) dX4_lose_18 (by decide) ?_
      refine aw_istore_n (i := 3) (L' := [_, _, _, _, _, _, _, _]) dX4_lose_20 rfl (Nat.le_of_ble_eq_true rfl) rfl rfl ?_
      refine aw_aload_n (i := 0) dX4_lose_21 rfl rfl ?_
      refine ax_gV0r (M' := MX4_copyToTry) (ci := 4) dX4_lose_22 lmX4_168 oX4_copyToTry (by decide +kernel) (by assumption) rfl rfl (Nat.le_of_ble_eq_true rfl) (g_copyToTry hn4 hn hp8 hp1 hG) (fun r_ S_ h_ => ?_)
      obtain ⟨rfl, f22, rfl, T22⟩ := h_
      refine aw_iload_n (i := 1) dX4_lose_25 rfl rfl ?_
      refine ax_gS2i (M' := MX4_strokesIn) dX4_lose_26 lmX4_197 oX4_strokesIn (by decide +kernel) (Nat.le_of_ble_eq_true rfl) (g_strokesIn hn4 hp8 T22 (N := N) (by omega)) (fun r_ S_ h_ => ?_)
      obtain ⟨rfl, f26, rfl, T26⟩ := h_
      refine aw_istore (i := 4) (L' := [_, _, _, _, _, _, _, _]) dX4_lose_29 (Nat.le_of_ble_eq_true rfl) rfl rfl ?_
      refine aw_iconst (v := 0) dX4_lose_31 (by decide) ?_
      refine aw_istore (i := 5) (L' := [_, _, _, _, _, _, _, _]) dX4_lose_32 (Nat.le_of_ble_eq_true rfl) rfl rfl ?_
      have e := loop (p + 1) 0 N none none f26 (by omega) (by omega) hN T26.1
      rw [show r_lose f n p (nI N) what = _ by unfold r_lose; rw [if_pos c4, if_pos c13, nI_clamp (by omega)]]
      exact e
    · refine aw_iconst (v := -1) dX4_lose_16 (by decide) ?_
      refine aw_ireturn (ty := .int) dX4_lose_17 rfl rfl ?_
      refine ⟨_, _, rfl, rfl, ?_, _, rfl, hE⟩
      unfold r_lose
      try rw [nI_clamp (show N < 2 ^ 31 by omega)]
      try rw [nI_clamp (show j < 2 ^ 31 by omega)]
      exact ((if_pos c4).trans (if_neg c13)).symm
def drF (seed : Int32) : Nat → Int32
  | 0 => seed
  | i + 1 => drF seed i * 1103515245 + 12345
def dkF (f : Nat → Nat → Int32) (seed msk : Int32) : Nat → (Nat → Nat → Int32) × Int32
  | 0 => (K0 f, f 2 7)
  | i + 1 => (tkK (f 2 6) ((drF seed (i + 1) >>> ((16 : Int32) &&& 31)) &&& msk) (dkF f seed msk i).1 (dkF f seed msk i).2, (dkF f seed msk i).2 + 1)
def r_drift (f : Nat → Nat → Int32) (n : Nat) (seed x what : Int32) : Int32 := if 1 ≤ x ∧ x ≤ 200 then (if 0 ≤ what ∧ what ≤ 1 then (if f 2 1 = 0 then -2 else if what = 0 then sumF (fun k => (dkF f seed 32767 x.toNatClampNeg).1 k 7) n else orF (fun k => (dkF f seed 32767 x.toNatClampNeg).1 k 3) n) else -1) else -1
theorem rng1_of {k : Int32} {n : Nat} (hn : n < 2 ^ 31) (h : 1 ≤ k ∧ k ≤ nI n) : ∃ j, j ≤ n ∧ k = nI j := rng_of hn ⟨Int32.le_trans (by decide) h.1, h.2⟩
set_option maxRecDepth 100000 in
set_option maxHeartbeats 1000000 in
theorem g_drift {V : am_V} {d : Nat} {f : Nat → Nat → Int32} {τ : Nat → Nat → Int64} {n p : Nat} (hn4 : n ≤ 4) (hn : f 2 1 = nI n) (hp8 : p ≤ 8) (hp1 : f 2 5 = nI p) (seed x what : Int32) : AGi V MX4_drift (d + 4) [.ref 0, .int seed, .int x, .int what] (f, τ) (GT τ f (r_drift f n seed x what)) := by
  have t0 := tb_0
  have tB := tb_B isB2
  have uB := tb_B isB14
  have uk := tb_Bk isB14
  have tk := tb_Bk isB2
  have hE : eqT f f := eqT.rf
  refine AM.of (L := [some (.ref 0), some (.int seed), some (.int x), some (.int what), none, none, none]) (by decide +kernel) (Nat.le_of_ble_eq_true rfl) rfl ?_
  by_cases hx : ¬ (1 ≤ x ∧ x ≤ 200)
  · refine aw_iload_n (i := 2) dX4_drift_0 rfl rfl ?_
    refine aw_iconst (v := 1) dX4_drift_1 (by decide) ?_
    refine aw_sipush (v := 200) dX4_drift_2 (by decide) ?_
    refine ax_callS3i (M' := MX4_within) dX4_drift_5 lmX4_54 oX4_within (by decide +kernel) (Nat.le_of_ble_eq_true rfl) (f_X4_within _ _ _) ?_
    refine aw_beq (tgt := 20) dX4_drift_8 (by decide) (fun c8 => ?_) (fun c8 => absurd c8 hx)
    refine aw_iconst (v := -1) dX4_drift_20 (by decide) ?_
    refine aw_ireturn (ty := .int) dX4_drift_21 rfl rfl ?_
    exact ⟨_, _, rfl, rfl, (if_neg c8).symm, _, rfl, hE⟩
  obtain ⟨N, hN, rfl⟩ := rng1_of (n := 200) (by omega) (Decidable.not_not.mp hx)
  have loop : ∀ (m i : Nat) (g : Nat → Nat → Int32), i ≤ N → N - i < m → TR f n p (f 9) (f 8) (f 10) (f 2 6) (dkF f seed 32767 i).1 (dkF f seed 32767 i).2 g → AW V MX4_drift (d + 4) 0 0 47 [some (.ref 0), some (.int seed), some (.int (nI N)), some (.int what), some (.ref 14), some (.int (drF seed i)), some (.int (nI i))] [] (hp (g, τ)) (fun r' h' => ∃ (x : Int32) (S' : fm), r' = some (.int x) ∧ h' = hp S' ∧ GT τ f ((if what = 0 then sumF (fun k => (dkF f seed 32767 N).1 k 7) n else orF (fun k => (dkF f seed 32767 N).1 k 3) n)) x S') := by
    intro m
    induction m with
    | zero => intro i g h1 h2; omega
    | succ m ih =>
      intro i g h1 h2 hT
      refine aw_iload dX4_drift_47 rfl ?_
      refine aw_iload_n (i := 2) dX4_drift_49 rfl rfl ?_
      refine aw_icmp_ge (tgt := 85) dX4_drift_50 (by decide) (fun c50 => ?_) (fun c50 => ?_)
      · have hip : i = N := by have := (nI_leI (a := N) (b := i) (by omega) (by omega)).mp c50; omega
        subst hip
        refine aw_iload_n (i := 3) dX4_drift_85 rfl rfl ?_
        refine aw_if_ne (tgt := 97) dX4_drift_86 (by decide) (fun c86 => ?_) (fun c86 => ?_)
        · refine aw_aload dX4_drift_97 rfl ?_
          refine ax_callV0i (M' := MX0_saysBits) (ci := 0) dX4_drift_99 lmX4_91 oX0_saysBits (by decide +kernel) (by assumption) rfl rfl (Nat.le_of_ble_eq_true rfl) (e_X0_saysBits hn4 hT) ?_
          refine aw_ireturn (ty := .int) dX4_drift_102 rfl rfl ?_
          first | exact ⟨_, _, rfl, rfl, (if_neg c86).symm, _, rfl, hT.1⟩ | exact ⟨_, _, rfl, rfl, (if_pos c86).symm, _, rfl, hT.1⟩
        · refine aw_aload dX4_drift_89 rfl ?_
          refine ax_callV0i (M' := MX0_struckInRun) (ci := 0) dX4_drift_91 lmX4_162 oX0_struckInRun (by decide +kernel) (by assumption) rfl rfl (Nat.le_of_ble_eq_true rfl) (e_X0_struckInRun hn4 hT) ?_
          refine aw_goto (tgt := 102) dX4_drift_94 (by decide) ?_
          refine aw_ireturn (ty := .int) dX4_drift_102 rfl rfl ?_
          first | exact ⟨_, _, rfl, rfl, (if_neg c86).symm, _, rfl, hT.1⟩ | exact ⟨_, _, rfl, rfl, (if_pos c86).symm, _, rfl, hT.1⟩
      · have hi : i < N := Nat.not_le.mp (fun z => c50 (nI_le z (by omega)))
        refine aw_iload dX4_drift_53 rfl ?_
        refine aw_ldcw dX4_drift_55 lkX4_270 ?_
        refine aw_imul dX4_drift_58 ?_
        refine aw_sipush (v := 12345) dX4_drift_59 (by decide) ?_
        refine aw_iadd dX4_drift_62 ?_
        refine aw_istore (i := 5) (L' := [_, _, _, _, _, _, _]) dX4_drift_63 (Nat.le_of_ble_eq_true rfl) rfl rfl ?_
        refine aw_aload dX4_drift_65 rfl ?_
        refine aw_iload dX4_drift_67 rfl ?_
        refine aw_bipush (v := 16) dX4_drift_69 (by decide) ?_
        refine aw_ishr dX4_drift_71 ?_
        refine aw_sipush (v := 32767) dX4_drift_72 (by decide) ?_
        refine aw_iand dX4_drift_75 ?_
        refine ax_gV1v (M' := MX0_tickWith) (ci := 0) dX4_drift_76 lmX4_235 oX0_tickWith (by decide +kernel) (by assumption) rfl rfl (Nat.le_of_ble_eq_true rfl) (g_tickWith hn4 hT _) (fun S_ h_ => ?_)
        obtain ⟨f76, rfl, T76⟩ := h_
        refine aw_incN (L' := [_, _, _, _, _, _, _]) dX4_drift_79 rfl (Nat.le_of_ble_eq_true rfl) rfl rfl ?_
        refine aw_goto (tgt := 47) dX4_drift_82 (by decide) ?_
        exact ih (i + 1) f76 hi (by omega) T76
  refine aw_iload_n (i := 2) dX4_drift_0 rfl rfl ?_
  refine aw_iconst (v := 1) dX4_drift_1 (by decide) ?_
  refine aw_sipush (v := 200) dX4_drift_2 (by decide) ?_
  refine ax_callS3i (M' := MX4_within) dX4_drift_5 lmX4_54 oX4_within (by decide +kernel) (Nat.le_of_ble_eq_true rfl) (f_X4_within _ _ _) ?_
  refine aw_beq (tgt := 20) dX4_drift_8 (by decide) (fun c8 => ?_) (fun c8 => ?_)
  · refine aw_iconst (v := -1) dX4_drift_20 (by decide) ?_
    refine aw_ireturn (ty := .int) dX4_drift_21 rfl rfl ?_
    refine ⟨_, _, rfl, rfl, ?_, _, rfl, hE⟩
    unfold r_drift
    try rw [nI_clamp (show N < 2 ^ 31 by omega)]
    try rw [nI_clamp (show j < 2 ^ 31 by omega)]
    exact (if_neg c8).symm
  · refine aw_iload_n (i := 3) dX4_drift_11 rfl rfl ?_
    refine aw_iconst (v := 0) dX4_drift_12 (by decide) ?_
    refine aw_iconst (v := 1) dX4_drift_13 (by decide) ?_
    refine ax_callS3i (M' := MX4_within) dX4_drift_14 lmX4_54 oX4_within (by decide +kernel) (Nat.le_of_ble_eq_true rfl) (f_X4_within _ _ _) ?_
    refine aw_bne (tgt := 22) dX4_drift_17 (by decide) (fun c17 => ?_) (fun c17 => ?_)
    · refine aw_aload_n (i := 0) dX4_drift_22 rfl rfl ?_
      refine ax_getr (ci := 4) 2 dX4_drift_23 rfl lfX4_16 (by decide) (by assumption) (by rfl) ?_
      refine ax_geti (ci := 0) 1 dX4_drift_26 rfl lfX4_79 (by decide) (by assumption) (by rfl) ?_
      refine aw_if_ne (tgt := 35) dX4_drift_29 (by decide) (fun c29 => ?_) (fun c29 => ?_)
      · have hG := hE
        refine aw_aload_n (i := 0) dX4_drift_35 rfl rfl ?_
        refine ax_gV0r (M' := MX4_copyToTry) (ci := 4) dX4_drift_36 lmX4_168 oX4_copyToTry (by decide +kernel) (by assumption) rfl rfl (Nat.le_of_ble_eq_true rfl) (g_copyToTry hn4 hn hp8 hp1 hG) (fun r_ S_ h_ => ?_)
        obtain ⟨rfl, f36, rfl, T36⟩ := h_
        refine aw_astore (i := 4) (L' := [_, _, _, _, _, _, _]) dX4_drift_39 (Nat.le_of_ble_eq_true rfl) rfl rfl ?_
        refine aw_iload_n (i := 1) dX4_drift_41 rfl rfl ?_
        refine aw_istore (i := 5) (L' := [_, _, _, _, _, _, _]) dX4_drift_42 (Nat.le_of_ble_eq_true rfl) rfl rfl ?_
        refine aw_iconst (v := 0) dX4_drift_44 (by decide) ?_
        refine aw_istore (i := 6) (L' := [_, _, _, _, _, _, _]) dX4_drift_45 (Nat.le_of_ble_eq_true rfl) rfl rfl ?_
        have e := loop (N + 1) 0 f36 (by omega) (by omega) T36
        rw [show r_drift f n seed (nI N) what = _ by unfold r_drift; rw [if_pos c8, if_pos c17, if_neg c29, nI_clamp (by omega)]]
        exact e
      · refine aw_bipush (v := -2) dX4_drift_32 (by decide) ?_
        refine aw_ireturn (ty := .int) dX4_drift_34 rfl rfl ?_
        refine ⟨_, _, rfl, rfl, ?_, _, rfl, hE⟩
        unfold r_drift
        try rw [nI_clamp (show N < 2 ^ 31 by omega)]
        try rw [nI_clamp (show j < 2 ^ 31 by omega)]
        exact ((if_pos c8).trans ((if_pos c17).trans (if_pos c29))).symm
    · refine aw_iconst (v := -1) dX4_drift_20 (by decide) ?_
      refine aw_ireturn (ty := .int) dX4_drift_21 rfl rfl ?_
      refine ⟨_, _, rfl, rfl, ?_, _, rfl, hE⟩
      unfold r_drift
      try rw [nI_clamp (show N < 2 ^ 31 by omega)]
      try rw [nI_clamp (show j < 2 ^ 31 by omega)]
      exact ((if_pos c8).trans (if_neg c17)).symm
