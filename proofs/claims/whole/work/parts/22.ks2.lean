abbrev av0 (f : Nat → Nat → Int32) (n p : Nat) (K : Nat → Nat → Int32) (N : Nat) : (Nat → Nat → Int32) × Int32 := avK (f 9) (f 8) (f 10) n p (f 2 6) K (f 2 7) N
def GT (τ : Nat → Nat → Int64) (f : Nat → Nat → Int32) (v : Int32) : Int32 → fm → Prop := fun x S' => x = v ∧ ∃ f', S' = (f', τ) ∧ eqT f' f
theorem TR.k {f0 f : Nat → Nat → Int32} {n p : Nat} {pk pt ps : Nat → Int32} {ev t : Int32} {K : Nat → Nat → Int32} (h : TR f0 n p pk pt ps ev K t f) {j i : Nat} (hj : j < n) (hi : i < 9) : f (14 + 2 + j) i = K j i := h.2.1.2.2.2.2.1 j hj i hi
theorem am_dec (x : Int32) : x + Int32.ofInt (-1) = x - 1 := by rw [Int32.sub_eq_add_neg]; rfl
def iabs (x : Int32) : Int32 := if 0 ≤ x then x else 0 - x
set_option maxRecDepth 100000 in
set_option maxHeartbeats 1000000 in
theorem g_copyAltered {V : am_V} {d : Nat} {f : Nat → Nat → Int32} {τ : Nat → Nat → Int64} {f0 : Nat → Nat → Int32} {n p : Nat} (hn4 : n ≤ 4) (hn : f0 2 1 = nI n) (hp8 : p ≤ 8) (hp1 : f0 2 5 = nI p) {j : Nat} (hj : j < n) (hE : eqT f f0) (x y : Int32) : AGr V MX4_copyAltered (d + 4) [.ref 0, .int (nI j), .int x, .int y] (f, τ) (fun r S' => r = 14 ∧ ∃ f', S' = (f', τ) ∧ TR f0 n p (f0 9) (f0 8) (f0 10) (f0 2 6) (altK (K0 f0) j x y) (f0 2 7) f') := by
  have t0 := tb_0
  have tB := tb_B isB2
  have uB := tb_B isB14
  have uk := tb_Bk isB14
  have tk := tb_Bk isB2
  refine AM.of (L := [some (.ref 0), some (.int (nI j)), some (.int x), some (.int y), none]) (by decide +kernel) (Nat.le_of_ble_eq_true rfl) rfl ?_
  refine aw_aload_n (i := 0) dX4_copyAltered_0 rfl rfl ?_
  refine ax_gV0r (M' := MX4_copyToTry) (ci := 4) dX4_copyAltered_1 lmX4_168 oX4_copyToTry (by decide +kernel) (by assumption) rfl rfl (Nat.le_of_ble_eq_true rfl) (g_copyToTry hn4 hn hp8 hp1 hE) (fun r_ S_ h_ => ?_)
  obtain ⟨rfl, f1, rfl, T1⟩ := h_
  refine aw_astore (i := 4) (L' := [_, _, _, _, _]) dX4_copyAltered_4 (Nat.le_of_ble_eq_true rfl) rfl rfl ?_
  refine aw_aload dX4_copyAltered_6 rfl ?_
  refine aw_iload_n (i := 1) dX4_copyAltered_8 rfl rfl ?_
  refine ax_callV1i (M' := MX0_hasKey) (ci := 0) dX4_copyAltered_9 lmX4_101 oX0_hasKey (by decide +kernel) (by assumption) rfl rfl (Nat.le_of_ble_eq_true rfl) (e_X0_hasKey isB14 hn4 T1.2.1.1 hj) ?_
  refine aw_if_eq (tgt := 27) dX4_copyAltered_12 (by decide) (fun c12 => ?_) (fun c12 => ?_)
  · exact absurd c12 (by decide)
  · refine aw_aload dX4_copyAltered_15 rfl ?_
    refine ax_getr (ci := 0) 0 dX4_copyAltered_17 rfl lfX4_105 (by decide) (by assumption) (by rfl) ?_
    have tK := tb_K isB14 (k := j) (by omega)
    refine aw_iload_n (i := 1) dX4_copyAltered_20 rfl rfl ?_
    refine ax_keyN dX4_copyAltered_21 (by assumption) (by omega) ?_
    refine aw_iload_n (i := 2) dX4_copyAltered_22 rfl rfl ?_
    refine aw_iload_n (i := 3) dX4_copyAltered_23 rfl rfl ?_
    refine ax_callV2v (M' := MX1_become) (ci := 1) dX4_copyAltered_24 lmX4_143 oX1_become (by decide +kernel) (by assumption) rfl rfl (Nat.le_of_ble_eq_true rfl) (e_X1_become _ (tb_K isB14 (k := j) (by omega)) rfl _ _) ?_
    refine aw_aload dX4_copyAltered_27 rfl ?_
    refine aw_areturn dX4_copyAltered_29 rfl ?_
    exact ⟨_, _, rfl, rfl, rfl, _, rfl, T1.alt hn4 hj x y⟩
set_option maxRecDepth 100000 in
set_option maxHeartbeats 1000000 in
theorem g_strokesIn {V : am_V} {d : Nat} {f : Nat → Nat → Int32} {τ : Nat → Nat → Int64} {f0 : Nat → Nat → Int32} {n p : Nat} {pk pt ps : Nat → Int32} {ev t : Int32} {K : Nat → Nat → Int32} (hn4 : n ≤ 4) (hp8 : p ≤ 8) (h : TR f0 n p pk pt ps ev K t f) {N : Nat} (hN : N < 2 ^ 31) : AGi V MX4_strokesIn (d + 5) [.ref 14, .int (nI N)] (f, τ) (fun x S' => x = sumF (fun k => (avK pk pt ps n p ev K t N).1 k 7) n ∧ ∃ f', S' = (f', τ) ∧ TR f0 n p pk pt ps ev (avK pk pt ps n p ev K t N).1 (avK pk pt ps n p ev K t N).2 f') := by
  have uB := tb_B isB14
  refine AM.of (L := [some (.ref 14), some (.int (nI N))]) (by decide +kernel) (Nat.le_of_ble_eq_true rfl) rfl ?_
  refine aw_aload_n (i := 0) dX4_strokesIn_0 rfl rfl ?_
  refine aw_iload_n (i := 1) dX4_strokesIn_1 rfl rfl ?_
  refine ax_gV1v (M' := MX0_advance) (ci := 0) dX4_strokesIn_2 lmX4_158 oX0_advance (by decide +kernel) (by assumption) rfl rfl (Nat.le_of_ble_eq_true rfl) (g_advance hn4 hp8 h (N := N) hN) (fun S_ h_ => ?_)
  obtain ⟨f2, rfl, T2⟩ := h_
  refine aw_aload_n (i := 0) dX4_strokesIn_5 rfl rfl ?_
  refine ax_callV0i (M' := MX0_struckInRun) (ci := 0) dX4_strokesIn_6 lmX4_162 oX0_struckInRun (by decide +kernel) (by assumption) rfl rfl (Nat.le_of_ble_eq_true rfl) (e_X0_struckInRun hn4 T2) ?_
  refine aw_ireturn (ty := .int) dX4_strokesIn_9 rfl rfl ?_
  exact ⟨_, _, rfl, rfl, rfl, _, rfl, T2⟩
set_option maxRecDepth 100000 in
set_option maxHeartbeats 1000000 in
theorem g_missOf {V : am_V} {d : Nat} {f : Nat → Nat → Int32} {τ : Nat → Nat → Int64} {f0 : Nat → Nat → Int32} {n p : Nat} {pk pt ps : Nat → Int32} {ev t : Int32} {K : Nat → Nat → Int32} (hn4 : n ≤ 4) (hp8 : p ≤ 8) (h : TR f0 n p pk pt ps ev K t f) {N : Nat} (hN : N < 2 ^ 31) : AGi V MX4_missOf (d + 6) [.ref 14, .int (nI N)] (f, τ) (fun x S' => x = iabs (sumF (fun k => (avK pk pt ps n p ev K t N).1 k 7) n - dueF pt ps t (t + nI N - 1) p) ∧ ∃ f', S' = (f', τ) ∧ TR f0 n p pk pt ps ev (avK pk pt ps n p ev K t N).1 (avK pk pt ps n p ev K t N).2 f') := by
  have uB := tb_B isB14
  refine AM.of (L := [some (.ref 14), some (.int (nI N)), none]) (by decide +kernel) (Nat.le_of_ble_eq_true rfl) rfl ?_
  refine aw_aload_n (i := 0) dX4_missOf_0 rfl rfl ?_
  refine aw_iload_n (i := 1) dX4_missOf_1 rfl rfl ?_
  refine ax_callV1i (M' := MX0_dueIn) (ci := 0) dX4_missOf_2 lmX4_181 oX0_dueIn (by decide +kernel) (by assumption) rfl rfl (Nat.le_of_ble_eq_true rfl) (e_X0_dueIn hp8 h _) ?_
  refine aw_istore_n (i := 2) (L' := [_, _, _]) dX4_missOf_5 rfl (Nat.le_of_ble_eq_true rfl) rfl rfl ?_
  refine aw_aload_n (i := 0) dX4_missOf_6 rfl rfl ?_
  refine aw_iload_n (i := 1) dX4_missOf_7 rfl rfl ?_
  refine ax_gS2i (M' := MX4_strokesIn) dX4_missOf_8 lmX4_197 oX4_strokesIn (by decide +kernel) (Nat.le_of_ble_eq_true rfl) (g_strokesIn hn4 hp8 h hN) (fun r_ S_ h_ => ?_)
  obtain ⟨rfl, f8, rfl, T8⟩ := h_
  refine aw_iload_n (i := 2) dX4_missOf_11 rfl rfl ?_
  refine aw_isub dX4_missOf_12 ?_
  refine aw_mabs dX4_missOf_13 lmX4_203 (Nat.le_of_ble_eq_true rfl) ?_
  refine aw_ireturn (ty := .int) dX4_missOf_16 rfl rfl ?_
  exact ⟨_, _, rfl, rfl, rfl, _, rfl, T8⟩
set_option maxRecDepth 100000 in
set_option maxHeartbeats 1000000 in
theorem g_strokesOfOne {V : am_V} {d : Nat} {f : Nat → Nat → Int32} {τ : Nat → Nat → Int64} {f0 : Nat → Nat → Int32} {n p : Nat} (hn4 : n ≤ 4) (hn : f0 2 1 = nI n) (hp8 : p ≤ 8) (hp1 : f0 2 5 = nI p) {j : Nat} (hj : j < n) (hE : eqT f f0) (x y : Int32) {N : Nat} (hN : N < 2 ^ 31) : AGi V MX4_strokesOfOne (d + 5) [.ref 0, .int (nI j), .int x, .int y, .int (nI N)] (f, τ) (GT τ f0 ((av0 f0 n p (altK (K0 f0) j x y) N).1 j 7)) := by
  have t0 := tb_0
  have tB := tb_B isB2
  have uB := tb_B isB14
  have uk := tb_Bk isB14
  have tk := tb_Bk isB2
  refine AM.of (L := [some (.ref 0), some (.int (nI j)), some (.int x), some (.int y), some (.int (nI N)), none]) (by decide +kernel) (Nat.le_of_ble_eq_true rfl) rfl ?_
  refine aw_aload_n (i := 0) dX4_strokesOfOne_0 rfl rfl ?_
  refine aw_iload_n (i := 1) dX4_strokesOfOne_1 rfl rfl ?_
  refine aw_iload_n (i := 2) dX4_strokesOfOne_2 rfl rfl ?_
  refine aw_iload_n (i := 3) dX4_strokesOfOne_3 rfl rfl ?_
  refine ax_gV3r (M' := MX4_copyAltered) (ci := 4) dX4_strokesOfOne_4 lmX4_189 oX4_copyAltered (by decide +kernel) (by assumption) rfl rfl (Nat.le_of_ble_eq_true rfl) (g_copyAltered hn4 hn hp8 hp1 hj hE _ _) (fun r_ S_ h_ => ?_)
  obtain ⟨rfl, f4, rfl, T4⟩ := h_
  refine aw_astore (i := 5) (L' := [_, _, _, _, _, _]) dX4_strokesOfOne_7 (Nat.le_of_ble_eq_true rfl) rfl rfl ?_
  refine aw_aload dX4_strokesOfOne_9 rfl ?_
  refine aw_iload dX4_strokesOfOne_11 rfl ?_
  refine ax_gV1v (M' := MX0_advance) (ci := 0) dX4_strokesOfOne_13 lmX4_158 oX0_advance (by decide +kernel) (by assumption) rfl rfl (Nat.le_of_ble_eq_true rfl) (g_advance hn4 hp8 T4 (N := N) hN) (fun S_ h_ => ?_)
  obtain ⟨f13, rfl, T13⟩ := h_
  have tK := tb_K isB14 (k := j) (by omega)
  refine aw_aload dX4_strokesOfOne_16 rfl ?_
  refine ax_getr (ci := 0) 0 dX4_strokesOfOne_18 rfl lfX4_105 (by decide) (by assumption) (by rfl) ?_
  refine aw_iload_n (i := 1) dX4_strokesOfOne_21 rfl rfl ?_
  refine ax_keyN dX4_strokesOfOne_22 (by assumption) (by omega) ?_
  refine ax_geti (ci := 1) 7 dX4_strokesOfOne_23 rfl lfX4_178 (by decide) (by assumption) (by rfl) ?_
  refine aw_tE _ (T13.k hj (by decide)) ?_
  refine aw_ireturn (ty := .int) dX4_strokesOfOne_26 rfl rfl ?_
  exact ⟨_, _, rfl, rfl, rfl, _, rfl, T13.1⟩
def r_runs (f : Nat → Nat → Int32) (n p : Nat) (x what : Int32) : Int32 := if 0 ≤ x ∧ x ≤ 200 then (if 0 ≤ what ∧ what ≤ 3 then (if what = 3 then wrK (f 9) (f 8) (f 10) n p (f 2 6) (K0 f) (f 2 7) x.toNatClampNeg else if what = 0 then sumF (fun k => (av0 f n p (K0 f) x.toNatClampNeg).1 k 7) n else if what = 1 then orF (fun k => (av0 f n p (K0 f) x.toNatClampNeg).1 k 3) n else sumF (fun k => (av0 f n p (K0 f) x.toNatClampNeg).1 k 8) n) else -1) else -1
set_option maxRecDepth 100000 in
set_option maxHeartbeats 1000000 in
theorem g_runs {V : am_V} {d : Nat} {f : Nat → Nat → Int32} {τ : Nat → Nat → Int64} {n p : Nat} (hn4 : n ≤ 4) (hn : f 2 1 = nI n) (hp8 : p ≤ 8) (hp1 : f 2 5 = nI p) (x what : Int32) : AGi V MX4_runs (d + 5) [.ref 0, .int x, .int what] (f, τ) (GT τ f (r_runs f n p x what)) := by
  have t0 := tb_0
  have tB := tb_B isB2
  have uB := tb_B isB14
  have uk := tb_Bk isB14
  have tk := tb_Bk isB2
  have hE : eqT f f := eqT.rf
  refine AM.of (L := [some (.ref 0), some (.int x), some (.int what), none]) (by decide +kernel) (Nat.le_of_ble_eq_true rfl) rfl ?_
  refine aw_iload_n (i := 1) dX4_runs_0 rfl rfl ?_
  refine ax_callS1i (M' := MX4_isRun) dX4_runs_1 lmX4_165 oX4_isRun (by decide +kernel) (Nat.le_of_ble_eq_true rfl) (f_X4_isRun _) ?_
  refine aw_beq (tgt := 16) dX4_runs_4 (by decide) (fun c4 => ?_) (fun c4 => ?_)
  · refine aw_iconst (v := -1) dX4_runs_16 (by decide) ?_
    refine aw_ireturn (ty := .int) dX4_runs_17 rfl rfl ?_
    refine ⟨_, _, rfl, rfl, ?_, _, rfl, hE⟩
    unfold r_runs
    try rw [nI_clamp (show N < 2 ^ 31 by omega)]
    try rw [nI_clamp (show j < 2 ^ 31 by omega)]
    exact (if_neg c4).symm
  · refine aw_iload_n (i := 2) dX4_runs_7 rfl rfl ?_
    refine aw_iconst (v := 0) dX4_runs_8 (by decide) ?_
    refine aw_iconst (v := 3) dX4_runs_9 (by decide) ?_
    refine ax_callS3i (M' := MX4_within) dX4_runs_10 lmX4_54 oX4_within (by decide +kernel) (Nat.le_of_ble_eq_true rfl) (f_X4_within _ _ _) ?_
    refine aw_bne (tgt := 18) dX4_runs_13 (by decide) (fun c13 => ?_) (fun c13 => ?_)
    · obtain ⟨N, hN, rfl⟩ := rng_of (n := 200) (by omega) c4
      refine aw_aload_n (i := 0) dX4_runs_18 rfl rfl ?_
      refine ax_gV0r (M' := MX4_copyToTry) (ci := 4) dX4_runs_19 lmX4_168 oX4_copyToTry (by decide +kernel) (by assumption) rfl rfl (Nat.le_of_ble_eq_true rfl) (g_copyToTry hn4 hn hp8 hp1 hE) (fun r_ S_ h_ => ?_)
      obtain ⟨rfl, f19, rfl, T19⟩ := h_
      refine aw_astore_n (i := 3) (L' := [_, _, _, _]) dX4_runs_22 rfl (Nat.le_of_ble_eq_true rfl) rfl rfl ?_
      refine aw_iload_n (i := 2) dX4_runs_23 rfl rfl ?_
      refine aw_iconst (v := 3) dX4_runs_24 (by decide) ?_
      refine aw_icmp_ne (tgt := 34) dX4_runs_25 (by decide) (fun c25 => ?_) (fun c25 => ?_)
      · refine aw_aload_n (i := 3) dX4_runs_34 rfl rfl ?_
        refine aw_iload_n (i := 1) dX4_runs_35 rfl rfl ?_
        refine ax_gV1v (M' := MX0_advance) (ci := 0) dX4_runs_36 lmX4_158 oX0_advance (by decide +kernel) (by assumption) rfl rfl (Nat.le_of_ble_eq_true rfl) (g_advance hn4 hp8 T19 (N := N) (by omega)) (fun S_ h_ => ?_)
        obtain ⟨f36, rfl, T36⟩ := h_
        refine aw_iload_n (i := 2) dX4_runs_39 rfl rfl ?_
        refine aw_look2 (t1 := 68) (t2 := 73) (td := 78) 0 1 dX4_runs_40 rfl rfl (by decide) (by decide) (by decide) (by decide) (fun c40_0 => ?_) (fun c40_0 c40_1 => ?_) (fun c40_0 c40_1 => ?_)
        · refine aw_aload_n (i := 3) dX4_runs_68 rfl rfl ?_
          refine ax_callV0i (M' := MX0_struckInRun) (ci := 0) dX4_runs_69 lmX4_162 oX0_struckInRun (by decide +kernel) (by assumption) rfl rfl (Nat.le_of_ble_eq_true rfl) (e_X0_struckInRun hn4 T36) ?_
          refine aw_ireturn (ty := .int) dX4_runs_72 rfl rfl ?_
          refine ⟨_, _, rfl, rfl, ?_, _, rfl, T36.1⟩
          unfold r_runs
          try rw [nI_clamp (show N < 2 ^ 31 by omega)]
          try rw [nI_clamp (show j < 2 ^ 31 by omega)]
          exact ((if_pos c4).trans ((if_pos c13).trans ((if_neg c25).trans (if_pos c40_0)))).symm
        · refine aw_aload_n (i := 3) dX4_runs_73 rfl rfl ?_
          refine ax_callV0i (M' := MX0_saysBits) (ci := 0) dX4_runs_74 lmX4_91 oX0_saysBits (by decide +kernel) (by assumption) rfl rfl (Nat.le_of_ble_eq_true rfl) (e_X0_saysBits hn4 T36) ?_
          refine aw_ireturn (ty := .int) dX4_runs_77 rfl rfl ?_
          refine ⟨_, _, rfl, rfl, ?_, _, rfl, T36.1⟩
          unfold r_runs
          try rw [nI_clamp (show N < 2 ^ 31 by omega)]
          try rw [nI_clamp (show j < 2 ^ 31 by omega)]
          exact ((if_pos c4).trans ((if_pos c13).trans ((if_neg c25).trans ((if_neg c40_0).trans (if_pos c40_1))))).symm
        · refine aw_aload_n (i := 3) dX4_runs_78 rfl rfl ?_
          refine ax_callV0i (M' := MX0_changedInRun) (ci := 0) dX4_runs_79 lmX4_175 oX0_changedInRun (by decide +kernel) (by assumption) rfl rfl (Nat.le_of_ble_eq_true rfl) (e_X0_changedInRun hn4 T36) ?_
          refine aw_ireturn (ty := .int) dX4_runs_82 rfl rfl ?_
          refine ⟨_, _, rfl, rfl, ?_, _, rfl, T36.1⟩
          unfold r_runs
          try rw [nI_clamp (show N < 2 ^ 31 by omega)]
          try rw [nI_clamp (show j < 2 ^ 31 by omega)]
          exact ((if_pos c4).trans ((if_pos c13).trans ((if_neg c25).trans ((if_neg c40_0).trans (if_neg c40_1))))).symm
      · refine aw_aload_n (i := 3) dX4_runs_28 rfl rfl ?_
        refine aw_iload_n (i := 1) dX4_runs_29 rfl rfl ?_
        refine ax_gV1i (M' := MX0_advanceCountingWrong) (ci := 0) dX4_runs_30 lmX4_172 oX0_advanceCountingWrong (by decide +kernel) (by assumption) rfl rfl (Nat.le_of_ble_eq_true rfl) (g_aCW hn4 hp8 T19 (N := N) (by omega)) (fun r_ S_ h_ => ?_)
        obtain ⟨rfl, f30, rfl, T30⟩ := h_
        refine aw_ireturn (ty := .int) dX4_runs_33 rfl rfl ?_
        refine ⟨_, _, rfl, rfl, ?_, _, rfl, T30.1⟩
        unfold r_runs
        try rw [nI_clamp (show N < 2 ^ 31 by omega)]
        try rw [nI_clamp (show j < 2 ^ 31 by omega)]
        exact ((if_pos c4).trans ((if_pos c13).trans (if_pos c25))).symm
    · refine aw_iconst (v := -1) dX4_runs_16 (by decide) ?_
      refine aw_ireturn (ty := .int) dX4_runs_17 rfl rfl ?_
      refine ⟨_, _, rfl, rfl, ?_, _, rfl, hE⟩
      unfold r_runs
      try rw [nI_clamp (show N < 2 ^ 31 by omega)]
      try rw [nI_clamp (show j < 2 ^ 31 by omega)]
      exact ((if_pos c4).trans (if_neg c13)).symm
def r_ahead (f : Nat → Nat → Int32) (n p : Nat) (k x what : Int32) : Int32 := if 0 ≤ k ∧ k ≤ f 2 1 - 1 then (if 0 ≤ x ∧ x ≤ 200 then (if 0 ≤ what ∧ what ≤ 1 then (if what = 0 then (av0 f n p (K0 f) x.toNatClampNeg).1 k.toNatClampNeg 3 else (av0 f n p (K0 f) x.toNatClampNeg).1 k.toNatClampNeg 7) else -1) else -1) else -1
set_option maxRecDepth 100000 in
set_option maxHeartbeats 1000000 in
theorem g_ahead {V : am_V} {d : Nat} {f : Nat → Nat → Int32} {τ : Nat → Nat → Int64} {n p : Nat} (hn4 : n ≤ 4) (hn : f 2 1 = nI n) (hp8 : p ≤ 8) (hp1 : f 2 5 = nI p) (k x what : Int32) : AGi V MX4_ahead (d + 5) [.ref 0, .int k, .int x, .int what] (f, τ) (GT τ f (r_ahead f n p k x what)) := by
  have t0 := tb_0
  have tB := tb_B isB2
  have uB := tb_B isB14
  have uk := tb_Bk isB14
  have tk := tb_Bk isB2
  have hE : eqT f f := eqT.rf
  refine AM.of (L := [some (.ref 0), some (.int k), some (.int x), some (.int what), none]) (by decide +kernel) (Nat.le_of_ble_eq_true rfl) rfl ?_
  refine aw_aload_n (i := 0) dX4_ahead_0 rfl rfl ?_
  refine ax_getr (ci := 4) 2 dX4_ahead_1 rfl lfX4_16 (by decide) (by assumption) (by rfl) ?_
  refine aw_iload_n (i := 1) dX4_ahead_4 rfl rfl ?_
  refine ax_callV1i (M' := MX0_hasKey) (ci := 0) dX4_ahead_5 lmX4_101 oX0_hasKey (by decide +kernel) (by assumption) rfl rfl (Nat.le_of_ble_eq_true rfl) (f_X0_hasKey isB2 _) ?_
  refine aw_beq (tgt := 27) dX4_ahead_8 (by decide) (fun c8 => ?_) (fun c8 => ?_)
  · refine aw_iconst (v := -1) dX4_ahead_27 (by decide) ?_
    refine aw_ireturn (ty := .int) dX4_ahead_28 rfl rfl ?_
    refine ⟨_, _, rfl, rfl, ?_, _, rfl, hE⟩
    unfold r_ahead
    try rw [nI_clamp (show N < 2 ^ 31 by omega)]
    try rw [nI_clamp (show j < 2 ^ 31 by omega)]
    exact (if_neg c8).symm
  · refine aw_iload_n (i := 2) dX4_ahead_11 rfl rfl ?_
    refine ax_callS1i (M' := MX4_isRun) dX4_ahead_12 lmX4_165 oX4_isRun (by decide +kernel) (Nat.le_of_ble_eq_true rfl) (f_X4_isRun _) ?_
    refine aw_beq (tgt := 27) dX4_ahead_15 (by decide) (fun c15 => ?_) (fun c15 => ?_)
    · refine aw_iconst (v := -1) dX4_ahead_27 (by decide) ?_
      refine aw_ireturn (ty := .int) dX4_ahead_28 rfl rfl ?_
      refine ⟨_, _, rfl, rfl, ?_, _, rfl, hE⟩
      unfold r_ahead
      try rw [nI_clamp (show N < 2 ^ 31 by omega)]
      try rw [nI_clamp (show j < 2 ^ 31 by omega)]
      exact ((if_pos c8).trans (if_neg c15)).symm
    · refine aw_iload_n (i := 3) dX4_ahead_18 rfl rfl ?_
      refine aw_iconst (v := 0) dX4_ahead_19 (by decide) ?_
      refine aw_iconst (v := 1) dX4_ahead_20 (by decide) ?_
      refine ax_callS3i (M' := MX4_within) dX4_ahead_21 lmX4_54 oX4_within (by decide +kernel) (Nat.le_of_ble_eq_true rfl) (f_X4_within _ _ _) ?_
      refine aw_bne (tgt := 29) dX4_ahead_24 (by decide) (fun c24 => ?_) (fun c24 => ?_)
      · obtain ⟨N, hN, rfl⟩ := rng_of (n := 200) (by omega) c15
        obtain ⟨j, hj, rfl⟩ := key_of hn4 (show 0 ≤ k ∧ k ≤ nI n - 1 by rw [← hn]; exact c8)
        have tK := tb_K isB14 (k := j) (by omega)
        refine aw_aload_n (i := 0) dX4_ahead_29 rfl rfl ?_
        refine ax_gV0r (M' := MX4_copyToTry) (ci := 4) dX4_ahead_30 lmX4_168 oX4_copyToTry (by decide +kernel) (by assumption) rfl rfl (Nat.le_of_ble_eq_true rfl) (g_copyToTry hn4 hn hp8 hp1 hE) (fun r_ S_ h_ => ?_)
        obtain ⟨rfl, f30, rfl, T30⟩ := h_
        refine aw_astore (i := 4) (L' := [_, _, _, _, _]) dX4_ahead_33 (Nat.le_of_ble_eq_true rfl) rfl rfl ?_
        refine aw_aload dX4_ahead_35 rfl ?_
        refine aw_iload_n (i := 2) dX4_ahead_37 rfl rfl ?_
        refine ax_gV1v (M' := MX0_advance) (ci := 0) dX4_ahead_38 lmX4_158 oX0_advance (by decide +kernel) (by assumption) rfl rfl (Nat.le_of_ble_eq_true rfl) (g_advance hn4 hp8 T30 (N := N) (by omega)) (fun S_ h_ => ?_)
        obtain ⟨f38, rfl, T38⟩ := h_
        refine aw_iload_n (i := 3) dX4_ahead_41 rfl rfl ?_
        refine aw_if_ne (tgt := 58) dX4_ahead_42 (by decide) (fun c42 => ?_) (fun c42 => ?_)
        · refine aw_aload dX4_ahead_58 rfl ?_
          refine ax_getr (ci := 0) 0 dX4_ahead_60 rfl lfX4_105 (by decide) (by assumption) (by rfl) ?_
          refine aw_iload_n (i := 1) dX4_ahead_63 rfl rfl ?_
          refine ax_keyN dX4_ahead_64 (by assumption) (by omega) ?_
          refine ax_geti (ci := 1) 7 dX4_ahead_65 rfl lfX4_178 (by decide) (by assumption) (by rfl) ?_
          try refine aw_tE _ (T38.k hj (by decide)) ?_
          refine aw_ireturn (ty := .int) dX4_ahead_68 rfl rfl ?_
          refine ⟨_, _, rfl, rfl, ?_, _, rfl, T38.1⟩
          unfold r_ahead
          try rw [nI_clamp (show N < 2 ^ 31 by omega)]
          try rw [nI_clamp (show j < 2 ^ 31 by omega)]
          exact ((if_pos c8).trans ((if_pos c15).trans ((if_pos c24).trans (if_neg c42)))).symm
        · refine aw_aload dX4_ahead_45 rfl ?_
          refine ax_getr (ci := 0) 0 dX4_ahead_47 rfl lfX4_105 (by decide) (by assumption) (by rfl) ?_
          refine aw_iload_n (i := 1) dX4_ahead_50 rfl rfl ?_
          refine ax_keyN dX4_ahead_51 (by assumption) (by omega) ?_
          refine ax_geti (ci := 1) 3 dX4_ahead_52 rfl lfX4_114 (by decide) (by assumption) (by rfl) ?_
          refine aw_tE _ (T38.k hj (by decide)) ?_
          refine aw_goto (tgt := 68) dX4_ahead_55 (by decide) ?_
          try refine aw_tE _ (T38.k hj (by decide)) ?_
          refine aw_ireturn (ty := .int) dX4_ahead_68 rfl rfl ?_
          refine ⟨_, _, rfl, rfl, ?_, _, rfl, T38.1⟩
          unfold r_ahead
          try rw [nI_clamp (show N < 2 ^ 31 by omega)]
          try rw [nI_clamp (show j < 2 ^ 31 by omega)]
          exact ((if_pos c8).trans ((if_pos c15).trans ((if_pos c24).trans (if_pos c42)))).symm
      · refine aw_iconst (v := -1) dX4_ahead_27 (by decide) ?_
        refine aw_ireturn (ty := .int) dX4_ahead_28 rfl rfl ?_
        refine ⟨_, _, rfl, rfl, ?_, _, rfl, hE⟩
        unfold r_ahead
        try rw [nI_clamp (show N < 2 ^ 31 by omega)]
        try rw [nI_clamp (show j < 2 ^ 31 by omega)]
        exact ((if_pos c8).trans ((if_pos c15).trans (if_neg c24))).symm
/-- the first of m numbers from i on by which c is v, or -4 -/
def fndU (c : Nat → Int32) (v : Int32) : Nat → Nat → Int32
  | 0, _ => -4
  | m + 1, i => if c i = v then nI i else fndU c v m (i + 1)
def fndD (c : Nat → Int32) (v : Int32) : Nat → Int32
  | 0 => -4
  | i + 1 => if c i = v then nI i else fndD c v i
theorem av0_s {f : Nat → Nat → Int32} {n p : Nat} {K : Nat → Nat → Int32} {i : Nat} : avK (f 9) (f 8) (f 10) n p (f 2 6) (av0 f n p K i).1 (av0 f n p K i).2 1 = av0 f n p K (i + 1) := rfl
def r_when (f : Nat → Nat → Int32) (n p : Nat) (k v : Int32) : Int32 := if 0 ≤ k ∧ k ≤ f 2 1 - 1 then (if 0 ≤ v ∧ v ≤ 1 then fndU (fun N => (av0 f n p (K0 f) N).1 k.toNatClampNeg 3) v 201 0 else -1) else -1
set_option maxRecDepth 100000 in
set_option maxHeartbeats 1000000 in
theorem g_when {V : am_V} {d : Nat} {f : Nat → Nat → Int32} {τ : Nat → Nat → Int64} {n p : Nat} (hn4 : n ≤ 4) (hn : f 2 1 = nI n) (hp8 : p ≤ 8) (hp1 : f 2 5 = nI p) (k v : Int32) : AGi V MX4_when (d + 5) [.ref 0, .int k, .int v] (f, τ) (GT τ f (r_when f n p k v)) := by
  have t0 := tb_0
  have tB := tb_B isB2
  have uB := tb_B isB14
  have uk := tb_Bk isB14
  have tk := tb_Bk isB2
  have hE : eqT f f := eqT.rf
  refine AM.of (L := [some (.ref 0), some (.int k), some (.int v), none, none]) (by decide +kernel) (Nat.le_of_ble_eq_true rfl) rfl ?_
  have loop : ∀ (m : Nat) (i j : Nat) (g : Nat → Nat → Int32), j < n → i + m = 201 → TR f n p (f 9) (f 8) (f 10) (f 2 6) (av0 f n p (K0 f) i).1 (av0 f n p (K0 f) i).2 g → AW V MX4_when (d + 5) 0 0 30 [some (.ref 0), some (.int (nI j)), some (.int v), some (.ref 14), some (.int (nI i))] [] (hp (g, τ)) (fun r' h' => ∃ (x : Int32) (S' : fm), r' = some (.int x) ∧ h' = hp S' ∧ GT τ f (fndU (fun N => (av0 f n p (K0 f) N).1 j 3) v m i) x S') := by
    intro m
    induction m with
    | zero =>
      intro i j g hj hm hT
      have hi : i = 201 := by omega
      subst hi
      refine aw_iload dX4_when_30 rfl ?_
      refine aw_sipush (v := 200) dX4_when_32 (by decide) ?_
      refine aw_icmp_gt (tgt := 65) dX4_when_35 (by decide) (fun c35 => ?_) (fun c35 => absurd (by decide) c35)
      refine aw_bipush (v := -4) dX4_when_65 (by decide) ?_
      refine aw_ireturn (ty := .int) dX4_when_67 rfl rfl ?_
      exact ⟨_, _, rfl, rfl, rfl, _, rfl, hT.1⟩
    | succ m ih =>
      intro i j g hj hm hT
      refine aw_iload dX4_when_30 rfl ?_
      refine aw_sipush (v := 200) dX4_when_32 (by decide) ?_
      refine aw_tE (nI 200) rfl ?_
      refine aw_icmp_gt (tgt := 65) dX4_when_35 (by decide) (fun c35 => ?_) (fun c35 => ?_)
      · exact absurd ((nI_ltI (a := 200) (b := i) (by omega) (by omega)).mp c35) (by omega)
      · have tK := tb_K isB14 (k := j) (by omega)
        refine aw_aload_n (i := 3) dX4_when_38 rfl rfl ?_
        refine ax_getr (ci := 0) 0 dX4_when_39 rfl lfX4_105 (by decide) (by assumption) (by rfl) ?_
        refine aw_iload_n (i := 1) dX4_when_42 rfl rfl ?_
        refine ax_keyN dX4_when_43 (by assumption) (by omega) ?_
        refine ax_geti (ci := 1) 3 dX4_when_44 rfl lfX4_114 (by decide) (by assumption) (by rfl) ?_
        refine aw_tE _ (hT.k hj (by decide)) ?_
        refine aw_iload_n (i := 2) dX4_when_47 rfl rfl ?_
        refine aw_icmp_ne (tgt := 54) dX4_when_48 (by decide) (fun c48 => ?_) (fun c48 => ?_)
        · refine aw_aload_n (i := 3) dX4_when_54 rfl rfl ?_
          refine aw_iconst (v := 1) dX4_when_55 (by decide) ?_
          refine ax_gV1v (M' := MX0_advance) (ci := 0) dX4_when_56 lmX4_158 oX0_advance (by decide +kernel) (by assumption) rfl rfl (Nat.le_of_ble_eq_true rfl) (g_advance hn4 hp8 hT (N := 1) (by omega)) (fun S_ h_ => ?_)
          obtain ⟨f56, rfl, T56⟩ := h_
          refine aw_incN (L' := [_, _, _, _, _]) dX4_when_59 rfl (Nat.le_of_ble_eq_true rfl) rfl rfl ?_
          refine aw_goto (tgt := 30) dX4_when_62 (by decide) ?_
          have e := ih (i + 1) j f56 hj (by omega) T56
          rw [show fndU (fun N => (av0 f n p (K0 f) N).1 j 3) v (m + 1) i = fndU (fun N => (av0 f n p (K0 f) N).1 j 3) v m (i + 1) from if_neg c48]
          exact e
        · refine aw_iload dX4_when_51 rfl ?_
          refine aw_ireturn (ty := .int) dX4_when_53 rfl rfl ?_
          exact ⟨_, _, rfl, rfl, (if_pos c48).symm, _, rfl, hT.1⟩
  refine aw_aload_n (i := 0) dX4_when_0 rfl rfl ?_
  refine ax_getr (ci := 4) 2 dX4_when_1 rfl lfX4_16 (by decide) (by assumption) (by rfl) ?_
  refine aw_iload_n (i := 1) dX4_when_4 rfl rfl ?_
  refine ax_callV1i (M' := MX0_hasKey) (ci := 0) dX4_when_5 lmX4_101 oX0_hasKey (by decide +kernel) (by assumption) rfl rfl (Nat.le_of_ble_eq_true rfl) (f_X0_hasKey isB2 _) ?_
  refine aw_beq (tgt := 20) dX4_when_8 (by decide) (fun c8 => ?_) (fun c8 => ?_)
  · refine aw_iconst (v := -1) dX4_when_20 (by decide) ?_
    refine aw_ireturn (ty := .int) dX4_when_21 rfl rfl ?_
    refine ⟨_, _, rfl, rfl, ?_, _, rfl, hE⟩
    unfold r_when
    try rw [nI_clamp (show N < 2 ^ 31 by omega)]
    try rw [nI_clamp (show j < 2 ^ 31 by omega)]
    exact (if_neg c8).symm
  · refine aw_iload_n (i := 2) dX4_when_11 rfl rfl ?_
    refine aw_iconst (v := 0) dX4_when_12 (by decide) ?_
    refine aw_iconst (v := 1) dX4_when_13 (by decide) ?_
    refine ax_callS3i (M' := MX4_within) dX4_when_14 lmX4_54 oX4_within (by decide +kernel) (Nat.le_of_ble_eq_true rfl) (f_X4_within _ _ _) ?_
    refine aw_bne (tgt := 22) dX4_when_17 (by decide) (fun c17 => ?_) (fun c17 => ?_)
    · obtain ⟨j, hj, rfl⟩ := key_of hn4 (show 0 ≤ k ∧ k ≤ nI n - 1 by rw [← hn]; exact c8)
      refine aw_aload_n (i := 0) dX4_when_22 rfl rfl ?_
      refine ax_gV0r (M' := MX4_copyToTry) (ci := 4) dX4_when_23 lmX4_168 oX4_copyToTry (by decide +kernel) (by assumption) rfl rfl (Nat.le_of_ble_eq_true rfl) (g_copyToTry hn4 hn hp8 hp1 hE) (fun r_ S_ h_ => ?_)
      obtain ⟨rfl, f23, rfl, T23⟩ := h_
      refine aw_astore_n (i := 3) (L' := [_, _, _, _, _]) dX4_when_26 rfl (Nat.le_of_ble_eq_true rfl) rfl rfl ?_
      refine aw_iconst (v := 0) dX4_when_27 (by decide) ?_
      refine aw_istore (i := 4) (L' := [_, _, _, _, _]) dX4_when_28 (Nat.le_of_ble_eq_true rfl) rfl rfl ?_
      have e := loop 201 0 j f23 hj rfl T23
      rw [show r_when f n p (nI j) v = fndU (fun N => (av0 f n p (K0 f) N).1 j 3) v 201 0 by unfold r_when; rw [if_pos c8, if_pos c17, nI_clamp (by omega)]]
      exact e
    · refine aw_iconst (v := -1) dX4_when_20 (by decide) ?_
      refine aw_ireturn (ty := .int) dX4_when_21 rfl rfl ?_
      refine ⟨_, _, rfl, rfl, ?_, _, rfl, hE⟩
      unfold r_when
      try rw [nI_clamp (show N < 2 ^ 31 by omega)]
      try rw [nI_clamp (show j < 2 ^ 31 by omega)]
      exact ((if_pos c8).trans (if_neg c17)).symm
def r_need (f : Nat → Nat → Int32) (n p : Nat) (k x m : Int32) : Int32 := if 0 ≤ k ∧ k ≤ f 2 1 - 1 then (if 0 ≤ x ∧ x ≤ 200 then (if 0 ≤ m ∧ m ≤ 20 then fndU (fun v => (av0 f n p (altK (K0 f) k.toNatClampNeg 2 (nI v)) x.toNatClampNeg).1 k.toNatClampNeg 7) m 9 1 else -1) else -1) else -1
def r_bear (f : Nat → Nat → Int32) (n p : Nat) (k x m : Int32) : Int32 := if 0 ≤ k ∧ k ≤ f 2 1 - 1 then (if 0 ≤ x ∧ x ≤ 200 then (if 0 ≤ m ∧ m ≤ 20 then fndD (fun v => (av0 f n p (altK (K0 f) k.toNatClampNeg 0 (nI v)) x.toNatClampNeg).1 k.toNatClampNeg 7) m 10 else -1) else -1) else -1
set_option maxRecDepth 100000 in
set_option maxHeartbeats 1000000 in
theorem g_need {V : am_V} {d : Nat} {f : Nat → Nat → Int32} {τ : Nat → Nat → Int64} {n p : Nat} (hn4 : n ≤ 4) (hn : f 2 1 = nI n) (hp8 : p ≤ 8) (hp1 : f 2 5 = nI p) (k x mm : Int32) : AGi V MX4_need (d + 6) [.ref 0, .int k, .int x, .int mm] (f, τ) (GT τ f (r_need f n p k x mm)) := by
  have t0 := tb_0
  have tB := tb_B isB2
  have uB := tb_B isB14
  have uk := tb_Bk isB14
  have tk := tb_Bk isB2
  have hE : eqT f f := eqT.rf
  refine AM.of (L := [some (.ref 0), some (.int k), some (.int x), some (.int mm), none]) (by decide +kernel) (Nat.le_of_ble_eq_true rfl) rfl ?_
  have loop : ∀ (m : Nat) (i j N : Nat) (g : Nat → Nat → Int32), j < n → N ≤ 200 → i + m = 10 → eqT g f → AW V MX4_need (d + 6) 0 0 33 [some (.ref 0), some (.int (nI j)), some (.int (nI N)), some (.int mm), some (.int (nI i))] [] (hp (g, τ)) (fun r' h' => ∃ (x : Int32) (S' : fm), r' = some (.int x) ∧ h' = hp S' ∧ GT τ f (fndU (fun v => (av0 f n p (altK (K0 f) j 2 (nI v)) N).1 j 7) mm m i) x S') := by
    intro m
    induction m with
    | zero =>
      intro i j N g hj hN hm hG
      have hi : i = 10 := by omega
      subst hi
      refine aw_iload dX4_need_33 rfl ?_
      refine aw_bipush (v := 9) dX4_need_35 (by decide) ?_
      refine aw_icmp_gt (tgt := 62) dX4_need_37 (by decide) (fun c37 => ?_) (fun c37 => absurd (by decide) c37)
      refine aw_bipush (v := -4) dX4_need_62 (by decide) ?_
      refine aw_ireturn (ty := .int) dX4_need_64 rfl rfl ?_
      exact ⟨_, _, rfl, rfl, rfl, _, rfl, hG⟩
    | succ m ih =>
      intro i j N g hj hN hm hG
      refine aw_iload dX4_need_33 rfl ?_
      refine aw_bipush (v := 9) dX4_need_35 (by decide) ?_
      refine aw_tE (nI 9) rfl ?_
      refine aw_icmp_gt (tgt := 62) dX4_need_37 (by decide) (fun c37 => ?_) (fun c37 => ?_)
      · exact absurd ((nI_ltI (a := 9) (b := i) (by omega) (by omega)).mp c37) (by omega)
      · refine aw_aload_n (i := 0) dX4_need_40 rfl rfl ?_
        refine aw_iload_n (i := 1) dX4_need_41 rfl rfl ?_
        refine aw_iconst (v := 2) dX4_need_42 (by decide) ?_
        refine aw_iload dX4_need_43 rfl ?_
        refine aw_iload_n (i := 2) dX4_need_45 rfl rfl ?_
        refine ax_gV4i (M' := MX4_strokesOfOne) (ci := 4) dX4_need_46 lmX4_184 oX4_strokesOfOne (by decide +kernel) (by assumption) rfl rfl (Nat.le_of_ble_eq_true rfl) (g_strokesOfOne hn4 hn hp8 hp1 hj hG _ _ (N := N) (by omega)) (fun r_ S_ h_ => ?_)
        obtain ⟨rfl, f46, rfl, T46⟩ := h_
        refine aw_iload_n (i := 3) dX4_need_49 rfl rfl ?_
        refine aw_icmp_ne (tgt := 56) dX4_need_50 (by decide) (fun c50 => ?_) (fun c50 => ?_)
        · refine aw_incN (L' := [_, _, _, _, _]) dX4_need_56 rfl (Nat.le_of_ble_eq_true rfl) rfl rfl ?_
          refine aw_goto (tgt := 33) dX4_need_59 (by decide) ?_
          have e := ih (i + 1) j N f46 hj hN (by omega) T46
          rw [show fndU (fun v => (av0 f n p (altK (K0 f) j 2 (nI v)) N).1 j 7) mm (m + 1) i = fndU (fun v => (av0 f n p (altK (K0 f) j 2 (nI v)) N).1 j 7) mm m (i + 1) from if_neg c50]
          exact e
        · refine aw_iload dX4_need_53 rfl ?_
          refine aw_ireturn (ty := .int) dX4_need_55 rfl rfl ?_
          exact ⟨_, _, rfl, rfl, (if_pos c50).symm, _, rfl, T46⟩
  refine aw_aload_n (i := 0) dX4_need_0 rfl rfl ?_
  refine ax_getr (ci := 4) 2 dX4_need_1 rfl lfX4_16 (by decide) (by assumption) (by rfl) ?_
  refine aw_iload_n (i := 1) dX4_need_4 rfl rfl ?_
  refine ax_callV1i (M' := MX0_hasKey) (ci := 0) dX4_need_5 lmX4_101 oX0_hasKey (by decide +kernel) (by assumption) rfl rfl (Nat.le_of_ble_eq_true rfl) (f_X0_hasKey isB2 _) ?_
  refine aw_beq (tgt := 28) dX4_need_8 (by decide) (fun c8 => ?_) (fun c8 => ?_)
  · refine aw_iconst (v := -1) dX4_need_28 (by decide) ?_
    refine aw_ireturn (ty := .int) dX4_need_29 rfl rfl ?_
    refine ⟨_, _, rfl, rfl, ?_, _, rfl, hE⟩
    unfold r_need
    try rw [nI_clamp (show N < 2 ^ 31 by omega)]
    try rw [nI_clamp (show j < 2 ^ 31 by omega)]
    exact (if_neg c8).symm
  · refine aw_iload_n (i := 2) dX4_need_11 rfl rfl ?_
    refine ax_callS1i (M' := MX4_isRun) dX4_need_12 lmX4_165 oX4_isRun (by decide +kernel) (Nat.le_of_ble_eq_true rfl) (f_X4_isRun _) ?_
    refine aw_beq (tgt := 28) dX4_need_15 (by decide) (fun c15 => ?_) (fun c15 => ?_)
    · refine aw_iconst (v := -1) dX4_need_28 (by decide) ?_
      refine aw_ireturn (ty := .int) dX4_need_29 rfl rfl ?_
      refine ⟨_, _, rfl, rfl, ?_, _, rfl, hE⟩
      unfold r_need
      try rw [nI_clamp (show N < 2 ^ 31 by omega)]
      try rw [nI_clamp (show j < 2 ^ 31 by omega)]
      exact ((if_pos c8).trans (if_neg c15)).symm
    · refine aw_iload_n (i := 3) dX4_need_18 rfl rfl ?_
      refine aw_iconst (v := 0) dX4_need_19 (by decide) ?_
      refine aw_bipush (v := 20) dX4_need_20 (by decide) ?_
      refine ax_callS3i (M' := MX4_within) dX4_need_22 lmX4_54 oX4_within (by decide +kernel) (Nat.le_of_ble_eq_true rfl) (f_X4_within _ _ _) ?_
      refine aw_bne (tgt := 30) dX4_need_25 (by decide) (fun c25 => ?_) (fun c25 => ?_)
      · obtain ⟨j, hj, rfl⟩ := key_of hn4 (show 0 ≤ k ∧ k ≤ nI n - 1 by rw [← hn]; exact c8)
        obtain ⟨N, hN, rfl⟩ := rng_of (n := 200) (by omega) c15
        refine aw_iconst (v := 1) dX4_need_30 (by decide) ?_
        refine aw_istore (i := 4) (L' := [_, _, _, _, _]) dX4_need_31 (Nat.le_of_ble_eq_true rfl) rfl rfl ?_
        have e := loop 9 1 j N f hj hN rfl hE
        rw [show r_need f n p (nI j) (nI N) mm = fndU (fun v => (av0 f n p (altK (K0 f) j 2 (nI v)) N).1 j 7) mm 9 1 by unfold r_need; rw [if_pos c8, if_pos c15, if_pos c25, nI_clamp (by omega), nI_clamp (by omega)]]
        exact e
      · refine aw_iconst (v := -1) dX4_need_28 (by decide) ?_
        refine aw_ireturn (ty := .int) dX4_need_29 rfl rfl ?_
        refine ⟨_, _, rfl, rfl, ?_, _, rfl, hE⟩
        unfold r_need
        try rw [nI_clamp (show N < 2 ^ 31 by omega)]
        try rw [nI_clamp (show j < 2 ^ 31 by omega)]
        exact ((if_pos c8).trans ((if_pos c15).trans (if_neg c25))).symm
set_option maxRecDepth 100000 in
set_option maxHeartbeats 1000000 in
theorem g_bear {V : am_V} {d : Nat} {f : Nat → Nat → Int32} {τ : Nat → Nat → Int64} {n p : Nat} (hn4 : n ≤ 4) (hn : f 2 1 = nI n) (hp8 : p ≤ 8) (hp1 : f 2 5 = nI p) (k x mm : Int32) : AGi V MX4_bear (d + 6) [.ref 0, .int k, .int x, .int mm] (f, τ) (GT τ f (r_bear f n p k x mm)) := by
  have t0 := tb_0
  have tB := tb_B isB2
  have uB := tb_B isB14
  have uk := tb_Bk isB14
  have tk := tb_Bk isB2
  have hE : eqT f f := eqT.rf
  refine AM.of (L := [some (.ref 0), some (.int k), some (.int x), some (.int mm), none]) (by decide +kernel) (Nat.le_of_ble_eq_true rfl) rfl ?_
  have loop : ∀ (m : Nat) (j N : Nat) (g : Nat → Nat → Int32), j < n → N ≤ 200 → m ≤ 10 → eqT g f → AW V MX4_bear (d + 6) 0 0 34 [some (.ref 0), some (.int (nI j)), some (.int (nI N)), some (.int mm), some (.int (nI m - 1))] [] (hp (g, τ)) (fun r' h' => ∃ (x : Int32) (S' : fm), r' = some (.int x) ∧ h' = hp S' ∧ GT τ f (fndD (fun v => (av0 f n p (altK (K0 f) j 0 (nI v)) N).1 j 7) mm m) x S') := by
    intro m
    induction m with
    | zero =>
      intro j N g hj hN hm hG
      refine aw_iload dX4_bear_34 rfl ?_
      refine aw_if_lt (tgt := 61) dX4_bear_36 (by decide) (fun c36 => ?_) (fun c36 => absurd (by decide) c36)
      refine aw_bipush (v := -4) dX4_bear_61 (by decide) ?_
      refine aw_ireturn (ty := .int) dX4_bear_63 rfl rfl ?_
      exact ⟨_, _, rfl, rfl, rfl, _, rfl, hG⟩
    | succ m ih =>
      intro j N g hj hN hm hG
      rw [nI_pred]
      refine aw_iload dX4_bear_34 rfl ?_
      refine aw_if_lt (tgt := 61) dX4_bear_36 (by decide) (fun c36 => ?_) (fun c36 => ?_)
      · exact absurd c36 (nI_pos (by omega))
      · refine aw_aload_n (i := 0) dX4_bear_39 rfl rfl ?_
        refine aw_iload_n (i := 1) dX4_bear_40 rfl rfl ?_
        refine aw_iconst (v := 0) dX4_bear_41 (by decide) ?_
        refine aw_iload dX4_bear_42 rfl ?_
        refine aw_iload_n (i := 2) dX4_bear_44 rfl rfl ?_
        refine ax_gV4i (M' := MX4_strokesOfOne) (ci := 4) dX4_bear_45 lmX4_184 oX4_strokesOfOne (by decide +kernel) (by assumption) rfl rfl (Nat.le_of_ble_eq_true rfl) (g_strokesOfOne hn4 hn hp8 hp1 hj hG _ _ (N := N) (by omega)) (fun r_ S_ h_ => ?_)
        obtain ⟨rfl, f45, rfl, T45⟩ := h_
        refine aw_iload_n (i := 3) dX4_bear_48 rfl rfl ?_
        refine aw_icmp_ne (tgt := 55) dX4_bear_49 (by decide) (fun c49 => ?_) (fun c49 => ?_)
        · refine aw_iinc (v := nI m - 1) (L' := [_, _, _, _, _]) dX4_bear_55 rfl (am_dec _) (Nat.le_of_ble_eq_true rfl) rfl rfl ?_
          refine aw_goto (tgt := 34) dX4_bear_58 (by decide) ?_
          have e := ih j N f45 hj hN (by omega) T45
          rw [show fndD (fun v => (av0 f n p (altK (K0 f) j 0 (nI v)) N).1 j 7) mm (m + 1) = fndD (fun v => (av0 f n p (altK (K0 f) j 0 (nI v)) N).1 j 7) mm m from if_neg c49]
          exact e
        · refine aw_iload dX4_bear_52 rfl ?_
          refine aw_ireturn (ty := .int) dX4_bear_54 rfl rfl ?_
          exact ⟨_, _, rfl, rfl, (if_pos c49).symm, _, rfl, T45⟩
  refine aw_aload_n (i := 0) dX4_bear_0 rfl rfl ?_
  refine ax_getr (ci := 4) 2 dX4_bear_1 rfl lfX4_16 (by decide) (by assumption) (by rfl) ?_
  refine aw_iload_n (i := 1) dX4_bear_4 rfl rfl ?_
  refine ax_callV1i (M' := MX0_hasKey) (ci := 0) dX4_bear_5 lmX4_101 oX0_hasKey (by decide +kernel) (by assumption) rfl rfl (Nat.le_of_ble_eq_true rfl) (f_X0_hasKey isB2 _) ?_
  refine aw_beq (tgt := 28) dX4_bear_8 (by decide) (fun c8 => ?_) (fun c8 => ?_)
  · refine aw_iconst (v := -1) dX4_bear_28 (by decide) ?_
    refine aw_ireturn (ty := .int) dX4_bear_29 rfl rfl ?_
    refine ⟨_, _, rfl, rfl, ?_, _, rfl, hE⟩
    unfold r_bear
    try rw [nI_clamp (show N < 2 ^ 31 by omega)]
    try rw [nI_clamp (show j < 2 ^ 31 by omega)]
    exact (if_neg c8).symm
  · refine aw_iload_n (i := 2) dX4_bear_11 rfl rfl ?_
    refine ax_callS1i (M' := MX4_isRun) dX4_bear_12 lmX4_165 oX4_isRun (by decide +kernel) (Nat.le_of_ble_eq_true rfl) (f_X4_isRun _) ?_
    refine aw_beq (tgt := 28) dX4_bear_15 (by decide) (fun c15 => ?_) (fun c15 => ?_)
    · refine aw_iconst (v := -1) dX4_bear_28 (by decide) ?_
      refine aw_ireturn (ty := .int) dX4_bear_29 rfl rfl ?_
      refine ⟨_, _, rfl, rfl, ?_, _, rfl, hE⟩
      unfold r_bear
      try rw [nI_clamp (show N < 2 ^ 31 by omega)]
      try rw [nI_clamp (show j < 2 ^ 31 by omega)]
      exact ((if_pos c8).trans (if_neg c15)).symm
    · refine aw_iload_n (i := 3) dX4_bear_18 rfl rfl ?_
      refine aw_iconst (v := 0) dX4_bear_19 (by decide) ?_
      refine aw_bipush (v := 20) dX4_bear_20 (by decide) ?_
      refine ax_callS3i (M' := MX4_within) dX4_bear_22 lmX4_54 oX4_within (by decide +kernel) (Nat.le_of_ble_eq_true rfl) (f_X4_within _ _ _) ?_
      refine aw_bne (tgt := 30) dX4_bear_25 (by decide) (fun c25 => ?_) (fun c25 => ?_)
      · obtain ⟨j, hj, rfl⟩ := key_of hn4 (show 0 ≤ k ∧ k ≤ nI n - 1 by rw [← hn]; exact c8)
        obtain ⟨N, hN, rfl⟩ := rng_of (n := 200) (by omega) c15
        refine aw_bipush (v := 9) dX4_bear_30 (by decide) ?_
        refine aw_istore (i := 4) (L' := [_, _, _, _, _]) dX4_bear_32 (Nat.le_of_ble_eq_true rfl) rfl rfl ?_
        have e := loop 10 j N f hj hN (Nat.le_refl _) hE
        rw [show r_bear f n p (nI j) (nI N) mm = fndD (fun v => (av0 f n p (altK (K0 f) j 0 (nI v)) N).1 j 7) mm 10 by unfold r_bear; rw [if_pos c8, if_pos c15, if_pos c25, nI_clamp (by omega), nI_clamp (by omega)]]
        exact e
      · refine aw_iconst (v := -1) dX4_bear_28 (by decide) ?_
        refine aw_ireturn (ty := .int) dX4_bear_29 rfl rfl ?_
        refine ⟨_, _, rfl, rfl, ?_, _, rfl, hE⟩
        unfold r_bear
        try rw [nI_clamp (show N < 2 ^ 31 by omega)]
        try rw [nI_clamp (show j < 2 ^ 31 by omega)]
        exact ((if_pos c8).trans ((if_pos c15).trans (if_neg c25))).symm
