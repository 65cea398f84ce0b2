theorem MR.ev {f0 f : Nat → Nat → Int32} {n p e e2 T : Nat} {pk pt ps : Nat → Int32} {K : Nat → Nat → Int32} (h : MR f0 n p pk pt ps e K T f) (hn4 : n ≤ 4) : MR f0 n p pk pt ps e2 K T (up2 f 66 54 (nI e2)) := by
  obtain ⟨h0, ⟨h1, ⟨q, hq, eq, hC⟩, h3, h4, h5, h6, h7, h8⟩, hK⟩ := h
  have eo : ∀ c i, ¬ (c = 66 ∧ i = 54) → up2 f 66 54 (nI e2) c i = f c i := fun c i hc => up2_ne hc
  have row : ∀ i, i < 8 → pkM (up2 f 66 54 (nI e2)) i = pkM f i ∧ ptM (up2 f 66 54 (nI e2)) i = ptM f i ∧ psM (up2 f 66 54 (nI e2)) i = psM f i := fun i hi => ⟨eo _ _ (by omega), eo _ _ (by omega), eo _ _ (by omega)⟩
  refine ⟨h0.step (fun c i g1 g2 g3 g4 g5 g6 => eo c i (by omega)), ⟨by rw [eo _ _ (by omega)]; exact h1, ⟨q, hq, by rw [eo _ _ (by omega)]; exact eq, fun b k U hU => ?_⟩, by rw [up2_self], by rw [eo _ _ (by omega)]; exact h4, fun k hk j hj => by rw [eo _ _ (by omega)]; exact h5 k hk j hj, fun k hk => by rw [eo _ _ (by omega)]; exact h6 k hk, fun k a1 a2 => by rw [eo _ _ (by omega)]; exact h7 k a1 a2, by rw [eo _ _ (by omega)]; exact h8⟩, hK⟩
  rw [eo 64 16 (by omega), ← hC b k U hU]
  have el : ∀ i, i ≤ 8 → latS (f 64 16) (pkM (up2 f 66 54 (nI e2))) (ptM (up2 f 66 54 (nI e2))) k (nI U) i = latS (f 64 16) (pkM f) (ptM f) k (nI U) i := by
    intro i
    induction i with
    | zero => intro _; rfl
    | succ i ih =>
      intro hi
      unfold latS
      rw [ih (by omega), (row i (by omega)).1, (row i (by omega)).2.1]
      rcases latS_or (f 64 16) (pkM f) (ptM f) k (nI U) i with z | ⟨j, hj, z⟩
      · rw [z]
        simp only [true_or]
      · rw [z, nI_clamp (by omega), (row j (by omega)).2.1]
  unfold conS
  rw [el q hq]
  rcases latS_or (f 64 16) (pkM f) (ptM f) k (nI U) q with z | ⟨j, hj, z⟩
  · rw [z, if_pos rfl, if_pos rfl]
  · rw [z, nI_clamp (by omega), (row j (by omega)).2.1, (row j (by omega)).2.2]
set_option maxRecDepth 100000 in
set_option maxHeartbeats 1000000 in
theorem n_slow {V : am_V} {d : Nat} {f : Nat → Nat → Int32} {τ : Nat → Nat → Int64} {n p s e T : Nat} (hB : BR f 2 0 n p s e T) (x what : Int32) : AGi V MX5_slow (d + 7) [.ref 64, .int x, .int what] (f, τ) (GM τ f (r_slow f n p x what)) := by
  have hn4 : n ≤ 4 := hB.1.1
  have hp8 : p ≤ 8 := hB.1.2.1
  have he : 1 ≤ e ∧ e ≤ 4 := ⟨hB.1.2.2.2.1, hB.1.2.2.2.2.1⟩
  have hT9 : T ≤ 999 := hB.1.2.2.2.2.2
  have ev6 : f 2 6 = nI e := hB.2.1.2.2.2.1
  have ev7 : f 2 7 = nI T := hB.2.1.2.2.2.2
  have hG : eqM f f := eqM.rf
  have tM := tb_M
  have m65 := tb_65
  have m66 := tb_66
  have m67 := tb_67
  have m68 := tb_68
  have m69 := tb_69
  have m70 := tb_70
  have m71 := tb_71
  have m72 := tb_72
  have m73 := tb_73
  have m74 := tb_74
  have m75 := tb_75
  have m76 := tb_76
  refine AM.of (L := [some (.ref 64), some (.int x), some (.int what), none]) (by decide +kernel) (Nat.le_of_ble_eq_true rfl) rfl ?_
  have loop : ∀ (m i : Nat) (N : Nat) (g : Nat → Nat → Int32), i ≤ 4 → 4 - i < m → N ≤ 200 → eqM g f → (g 64 17, g 64 18) = (jdU (fun i => nI (4 - i)) (slC f n p N) (-4) 1000000 i) → AW V MX5_slow (d + 7) 0 0 25 [some (.ref 64), some (.int (nI N)), some (.int what), some (.int (nI (4 - i)))] [] (hp (g, τ)) (fun r' h' => ∃ (x : Int32) (S' : fm), r' = some (.int x) ∧ h' = hp S' ∧ GM τ f ((if what = 0 then (jdU (fun i => nI (4 - i)) (slC f n p N) (-4) 1000000 4).1 else (jdU (fun i => nI (4 - i)) (slC f n p N) (-4) 1000000 4).2)) x S') := by
    intro m
    induction m with
    | zero => intro i N g h1 h2; omega
    | succ m ih =>
      intro i N g h1 h2 hN hG hJ
      have ed : 4 - (i + 1) = 4 - i - 1 := by omega
      refine aw_iload_n (i := 3) dX5_slow_25 rfl rfl ?_
      refine aw_if_le (tgt := 57) dX5_slow_26 (by decide) (fun c26 => ?_) (fun c26 => ?_)
      · have hip : i = 4 := by
          rcases (show i = 4 ∨ i < 4 by omega) with q | q
          · exact q
          · exact absurd c26 (nI_nle (by omega) (by omega))
        subst hip
        refine aw_iload_n (i := 2) dX5_slow_57 rfl rfl ?_
        refine aw_if_ne (tgt := 68) dX5_slow_58 (by decide) (fun c58 => ?_) (fun c58 => ?_)
        · refine aw_aload_n (i := 0) dX5_slow_68 rfl rfl ?_
          refine ax_geti (ci := 5) 18 dX5_slow_69 rfl lfX5_249 (by decide) (by assumption) (by rfl) ?_
          refine aw_ireturn (ty := .int) dX5_slow_72 rfl rfl ?_
          first | exact ⟨_, _, rfl, rfl, ((congrArg Prod.fst hJ).trans (if_pos c58).symm), _, rfl, hG⟩ | exact ⟨_, _, rfl, rfl, ((congrArg Prod.snd hJ).trans (if_neg c58).symm), _, rfl, hG⟩
        · refine aw_aload_n (i := 0) dX5_slow_61 rfl rfl ?_
          refine ax_geti (ci := 5) 17 dX5_slow_62 rfl lfX5_246 (by decide) (by assumption) (by rfl) ?_
          refine aw_goto (tgt := 72) dX5_slow_65 (by decide) ?_
          refine aw_ireturn (ty := .int) dX5_slow_72 rfl rfl ?_
          first | exact ⟨_, _, rfl, rfl, ((congrArg Prod.fst hJ).trans (if_pos c58).symm), _, rfl, hG⟩ | exact ⟨_, _, rfl, rfl, ((congrArg Prod.snd hJ).trans (if_neg c58).symm), _, rfl, hG⟩
      · have hi : i < 4 := Nat.not_le.mp (fun q => c26 (by rw [show 4 - i = 0 by omega]; decide))
        refine aw_aload_n (i := 0) dX5_slow_29 rfl rfl ?_
        refine ax_gV0v (M' := MX5_starts) (ci := 5) dX5_slow_30 lmX5_183 oX5_starts (by decide +kernel) (by assumption) rfl rfl (Nat.le_of_ble_eq_true rfl) (n_starts hB hG) (fun S_ h_ => ?_)
        obtain ⟨f30, rfl, T30, Q30⟩ := h_
        refine aw_aload_n (i := 0) dX5_slow_33 rfl rfl ?_
        refine ax_getr (ci := 5) 1 dX5_slow_34 rfl lfX5_13 (by decide) (by assumption) (by rfl) ?_
        refine aw_bipush (v := 54) dX5_slow_37 (by decide) ?_
        refine aw_iload_n (i := 3) dX5_slow_39 rfl rfl ?_
        refine ax_iastN (i := 54) dX5_slow_40 (by assumption) (by omega) (Nat.le_of_ble_eq_true rfl) ?_
        refine aw_aload_n (i := 0) dX5_slow_41 rfl rfl ?_
        refine aw_iload_n (i := 3) dX5_slow_42 rfl rfl ?_
        refine aw_aload_n (i := 0) dX5_slow_43 rfl rfl ?_
        refine aw_iload_n (i := 1) dX5_slow_44 rfl rfl ?_
        refine ax_gV1i (M' := MX5_offIn) (ci := 5) dX5_slow_45 lmX5_265 oX5_offIn (by decide +kernel) (by assumption) rfl rfl (Nat.le_of_ble_eq_true rfl) (n_offIn hB (show 1 ≤ 4 - i ∧ 4 - i ≤ 4 by omega) (T30.ev (e2 := 4 - i) hn4) hN) (fun r_ S_ h_ => ?_)
        obtain ⟨rfl, f45, rfl, T45, A45, B45⟩ := h_
        refine aw_tE (slC f n p N i) (by rw [← ev7]; rfl) ?_
        refine ax_callV2v (M' := MX5_judges) (ci := 5) dX5_slow_48 lmX5_268 oX5_judges (by decide +kernel) (by assumption) rfl rfl (Nat.le_of_ble_eq_true rfl) (f_X5_judges _ _) ?_
        refine aw_iinc (v := nI (4 - (i + 1))) (L' := [_, _, _, _]) dX5_slow_51 rfl ((am_dec _).trans (by rw [ed]; exact pk_sub (a := 4 - i) (b := 1) (by omega))) (Nat.le_of_ble_eq_true rfl) rfl rfl ?_
        refine aw_goto (tgt := 25) dX5_slow_54 (by decide) ?_
        refine ih (i + 1) N _ hi (by omega) hN (T45.step (fun c q g1 g2 g3 g4 g5 g6 => jgF_o (by omega))) ?_
        rw [jg_pair, A45, B45, up2_ne (by omega), up2_ne (by omega), Q30, stF_o (by omega), stF_o (by omega), hJ, show g 64 18 = _ from congrArg Prod.snd hJ]
        rfl
  refine aw_iload_n (i := 1) dX5_slow_0 rfl rfl ?_
  refine ax_callS1i (M' := MX5_isFar) dX5_slow_1 lmX5_231 oX5_isFar (by decide +kernel) (Nat.le_of_ble_eq_true rfl) (f_X5_isFar _) ?_
  refine aw_beq (tgt := 14) dX5_slow_4 (by decide) (fun c4 => ?_) (fun c4 => ?_)
  · refine aw_iconst (v := -1) dX5_slow_14 (by decide) ?_
    refine aw_ireturn (ty := .int) dX5_slow_15 rfl rfl ?_
    refine ⟨_, _, rfl, rfl, ?_, _, rfl, hG⟩
    unfold r_slow
    try rw [nI_clamp (show N < 2 ^ 31 by omega)]
    try rw [nI_clamp (show j < 2 ^ 31 by omega)]
    exact (if_neg c4).symm
  · refine aw_iload_n (i := 2) dX5_slow_7 rfl rfl ?_
    refine ax_callS1i (M' := MX5_isPart) dX5_slow_8 lmX5_240 oX5_isPart (by decide +kernel) (Nat.le_of_ble_eq_true rfl) (f_X5_isPart _) ?_
    refine aw_bne (tgt := 16) dX5_slow_11 (by decide) (fun c11 => ?_) (fun c11 => ?_)
    · obtain ⟨N, hN, rfl⟩ := rng_of (n := 200) (by omega) c4
      refine aw_aload_n (i := 0) dX5_slow_16 rfl rfl ?_
      refine aw_ldcw dX5_slow_17 lkX5_261 ?_
      refine ax_callV1v (M' := MX5_startsJudging) (ci := 5) dX5_slow_20 lmX5_262 oX5_startsJudging (by decide +kernel) (by assumption) rfl rfl (Nat.le_of_ble_eq_true rfl) (f_X5_startsJudging _) ?_
      refine aw_iconst (v := 4) dX5_slow_23 (by decide) ?_
      refine aw_istore_n (i := 3) (L' := [_, _, _, _]) dX5_slow_24 rfl (Nat.le_of_ble_eq_true rfl) rfl rfl ?_
      have hlt : slC f n p N 0 < 1000000 := by unfold slC; exact off_lt (K0_7 f) hn4 hp8 hN
      have e4 : jdU (fun i => nI (4 - i)) (slC f n p N) 4 1000000 4 = jdU (fun i => nI (4 - i)) (slC f n p N) (-4) 1000000 4 := jdU_b0 hlt 3
      have e9 := loop 5 0 N _ (by omega) (by omega) hN (hG.step (fun c q g1 g2 g3 g4 g5 g6 => by unfold sjF; rw [up2_ne (by omega), up2_ne (by omega)])) (show (sjF f 1000000 64 17, sjF f 1000000 64 18) = _ by unfold sjF; rw [up2_self, up2_ne (by omega), up2_self]; rfl)
      rw [show r_slow f n p (nI N) what = _ by unfold r_slow; rw [if_pos c4, if_pos c11, nI_clamp (by omega), e4]]
      exact e9
    · refine aw_iconst (v := -1) dX5_slow_14 (by decide) ?_
      refine aw_ireturn (ty := .int) dX5_slow_15 rfl rfl ?_
      refine ⟨_, _, rfl, rfl, ?_, _, rfl, hG⟩
      unfold r_slow
      try rw [nI_clamp (show N < 2 ^ 31 by omega)]
      try rw [nI_clamp (show j < 2 ^ 31 by omega)]
      exact ((if_pos c4).trans (if_neg c11)).symm
theorem stF_lost {f f0 : Nat → Nat → Int32} {n p s e T i0 : Nat} (hB : BR f0 2 0 n p s e T) (hE : eqM f f0) (h0 : i0 < p) : MR f0 n (p - 1) (rmR (f0 9) i0) (rmR (f0 8) i0) (rmR (f0 10) i0) e (K0 f0) T (up2 (stF f) 64 16 (nI i0)) := by
  obtain ⟨g0, ⟨g1, -, g3, g4, g5, g6, g7, g8⟩, gK⟩ := stF_MR hB hE
  obtain ⟨⟨n4, p8, s6, e1, e4, T9⟩, -, ⟨b1, b2, b3, b4, b5⟩, hk, hp, -⟩ := hB
  have e65 : ∀ j, f 65 j = f0 65 j := fun j => hE 65 j (by omega) (by omega) (by omega) (by omega) (by omega) (by omega)
  have eo : ∀ c i, ¬ (c = 64 ∧ i = 16) → up2 (stF f) 64 16 (nI i0) c i = stF f c i := fun c i hc => up2_ne hc
  have r66 : ∀ j, j < 75 → up2 (stF f) 64 16 (nI i0) 66 j = f0 65 j := fun j hj => (eo _ _ (by omega)).trans ((stF_66 hj).trans (e65 j))
  have row : ∀ i, i < p → pkM (up2 (stF f) 64 16 (nI i0)) i = f0 9 i ∧ ptM (up2 (stF f) 64 16 (nI i0)) i = f0 8 i ∧ psM (up2 (stF f) 64 16 (nI i0)) i = f0 10 i := by
    intro i hi
    obtain ⟨-, -, -, q1, q2, q3⟩ := hp i hi
    rw [Nat.zero_add] at q1 q2 q3
    exact ⟨(r66 _ (by omega)).trans q2, (r66 _ (by omega)).trans q1, (r66 _ (by omega)).trans q3⟩
  refine ⟨g0.step (fun c i a1 a2 a3 a4 a5 a6 => eo c i (by omega)), ⟨by rw [eo _ _ (by omega)]; exact g1, ⟨p, p8, (r66 53 (by omega)).trans b2, fun b k U hU => ?_⟩, by rw [eo _ _ (by omega)]; exact g3, by rw [eo _ _ (by omega)]; exact g4, fun k hk j hj => by rw [eo _ _ (by omega)]; exact g5 k hk j hj, fun k hk => by rw [eo _ _ (by omega)]; exact g6 k hk, fun k a1 a2 => by rw [eo _ _ (by omega)]; exact g7 k a1 a2, by rw [eo _ _ (by omega)]; exact g8⟩, gK⟩
  rw [up2_self, conS_skip p8 h0 (fun i hi => by rw [(row i hi).2.1]; exact (hp i hi).1) hU]
  refine conF_congr (by omega) (fun i hi => ?_)
  unfold rmR
  by_cases q : i0 ≤ i
  · rw [if_pos q, if_pos q, if_pos q, if_pos q, if_pos q, if_pos q]
    exact row (i + 1) (by omega)
  · rw [if_neg q, if_neg q, if_neg q, if_neg q, if_neg q, if_neg q]
    exact row i (by omega)
theorem loC_b {f : Nat → Nat → Int32} {n p N i : Nat} (hn4 : n ≤ 4) (hN : N ≤ 200) : ∃ q, q ≤ 800 ∧ loC f n p N i = nI q := by
  unfold loC
  obtain ⟨q, hq, e⟩ := sumF_b (avK_7 (pk := rmR (f 9) i) (pt := rmR (f 8) i) (ps := rmR (f 10) i) (n := n) (p := p - 1) (ev := f 2 6) (t := f 2 7) (K0_7 f) N) n
  have hm : n * N ≤ 4 * 200 := Nat.mul_le_mul hn4 hN
  exact ⟨q, by omega, e⟩
theorem loJ_b {f : Nat → Nat → Int32} {n p N : Nat} (hn4 : n ≤ 4) (hN : N ≤ 200) : ∀ i, ∃ q, q ≤ 800 ∧ (loJ f n p N i).2 = nI q := by
  intro i
  induction i with
  | zero =>
    obtain ⟨q, hq, e⟩ := sumF_b (avK_7 (pk := f 9) (pt := f 8) (ps := f 10) (n := n) (p := p) (ev := f 2 6) (t := f 2 7) (K0_7 f) N) n
    have hm : n * N ≤ 4 * 200 := Nat.mul_le_mul hn4 hN
    exact ⟨q, by omega, e⟩
  | succ i ih =>
    show ∃ q, q ≤ 800 ∧ (if loC f n p N i ≤ (loJ f n p N i).2 then loJ f n p N i else (nI i, loC f n p N i)).2 = nI q
    split
    · exact ih
    · exact loC_b hn4 hN
theorem lo_step {f : Nat → Nat → Int32} {n p N i : Nat} (hn4 : n ≤ 4) (hN : N ≤ 200) : (if -(loC f n p N i) < -(loJ f n p N i).2 then (nI i, -(loC f n p N i)) else ((loJ f n p N i).1, -(loJ f n p N i).2)) = ((loJ f n p N (i + 1)).1, -(loJ f n p N (i + 1)).2) := by
  obtain ⟨a, ha, ea⟩ := loC_b (f := f) (n := n) (p := p) (N := N) (i := i) hn4 hN
  obtain ⟨b, hb, eb⟩ := loJ_b (f := f) (n := n) (p := p) (N := N) hn4 hN i
  have es : loJ f n p N (i + 1) = if loC f n p N i ≤ (loJ f n p N i).2 then loJ f n p N i else (nI i, loC f n p N i) := rfl
  rw [es]
  by_cases q : a ≤ b
  · rw [if_neg (by rw [ea, eb, sb_nlt (by omega) (by omega)]; omega), if_pos (by rw [ea, eb]; exact nI_le q (by omega))]
  · rw [if_pos (by rw [ea, eb, sb_nlt (by omega) (by omega)]; omega), if_neg (by rw [ea, eb, nI_leI (by omega) (by omega)]; omega)]
set_option maxRecDepth 100000 in
set_option maxHeartbeats 1000000 in
theorem n_lose {V : am_V} {d : Nat} {f : Nat → Nat → Int32} {τ : Nat → Nat → Int64} {n p s e T : Nat} (hB : BR f 2 0 n p s e T) (x what : Int32) : AGi V MX5_lose (d + 6) [.ref 64, .int x, .int what] (f, τ) (GM τ f (r_lose f n p x what)) := by
  have hn4 : n ≤ 4 := hB.1.1
  have hp8 : p ≤ 8 := hB.1.2.1
  have he : 1 ≤ e ∧ e ≤ 4 := ⟨hB.1.2.2.2.1, hB.1.2.2.2.2.1⟩
  have hT9 : T ≤ 999 := hB.1.2.2.2.2.2
  have ev6 : f 2 6 = nI e := hB.2.1.2.2.2.1
  have ev7 : f 2 7 = nI T := hB.2.1.2.2.2.2
  have hG : eqM f f := eqM.rf
  have tM := tb_M
  have m65 := tb_65
  have m66 := tb_66
  have m67 := tb_67
  have m68 := tb_68
  have m69 := tb_69
  have m70 := tb_70
  have m71 := tb_71
  have m72 := tb_72
  have m73 := tb_73
  have m74 := tb_74
  have m75 := tb_75
  have m76 := tb_76
  refine AM.of (L := [some (.ref 64), some (.int x), some (.int what), none]) (by decide +kernel) (Nat.le_of_ble_eq_true rfl) rfl ?_
  have loop : ∀ (m i : Nat) (N : Nat) (g : Nat → Nat → Int32), i ≤ p → p - i < m → N ≤ 200 → eqM g f → (g 64 17, g 64 18) = ((loJ f n p N i).1, -(loJ f n p N i).2) → AW V MX5_lose (d + 6) 0 0 36 [some (.ref 64), some (.int (nI N)), some (.int what), some (.int (nI i))] [] (hp (g, τ)) (fun r' h' => ∃ (x : Int32) (S' : fm), r' = some (.int x) ∧ h' = hp S' ∧ GM τ f ((if (loJ f n p N p).1 = -4 then -4 else if what = 0 then (loJ f n p N p).1 else (loJ f n p N p).2)) x S') := by
    intro m
    induction m with
    | zero => intro i N g h1 h2; omega
    | succ m ih =>
      intro i N g h1 h2 hN hG hJ
      refine aw_iload_n (i := 3) dX5_lose_36 rfl rfl ?_
      refine aw_aload_n (i := 0) dX5_lose_37 rfl rfl ?_
      refine ax_getr (ci := 5) 0 dX5_lose_38 rfl lfX5_7 (by decide) (by assumption) (by rfl) ?_
      refine aw_bipush (v := 53) dX5_lose_41 (by decide) ?_
      refine ax_ialdN (i := 53) dX5_lose_43 (by assumption) (by omega) (Nat.le_of_ble_eq_true rfl) ?_
      refine aw_tE (nI p) ((hG 65 53 (by omega) (by omega) (by omega) (by omega) (by omega) (by omega)).trans hB.2.2.1.2.1) ?_
      refine aw_icmp_ge (tgt := 77) dX5_lose_44 (by decide) (fun c44 => ?_) (fun c44 => ?_)
      · have hip : i = p := by have := (nI_leI (a := p) (b := i) (by omega) (by omega)).mp c44; omega
        subst hip
        refine aw_aload_n (i := 0) dX5_lose_77 rfl rfl ?_
        refine ax_geti (ci := 5) 17 dX5_lose_78 rfl lfX5_246 (by decide) (by assumption) (by rfl) ?_
        refine aw_tE _ (congrArg Prod.fst hJ) ?_
        refine aw_bipush (v := -4) dX5_lose_81 (by decide) ?_
        refine aw_icmp_ne (tgt := 91) dX5_lose_83 (by decide) (fun c83 => ?_) (fun c83 => ?_)
        · refine aw_iload_n (i := 2) dX5_lose_91 rfl rfl ?_
          refine aw_if_ne (tgt := 102) dX5_lose_92 (by decide) (fun c92 => ?_) (fun c92 => ?_)
          · refine aw_aload_n (i := 0) dX5_lose_102 rfl rfl ?_
            refine ax_geti (ci := 5) 18 dX5_lose_103 rfl lfX5_249 (by decide) (by assumption) (by rfl) ?_
            refine aw_tE _ (congrArg Prod.snd hJ) ?_
            refine aw_ineg dX5_lose_106 ?_
            refine aw_ireturn (ty := .int) dX5_lose_107 rfl rfl ?_
            first | exact ⟨_, _, rfl, rfl, (if_pos c83).symm, _, rfl, hG⟩ | exact ⟨_, _, rfl, rfl, ((if_neg c83).trans (if_pos c92)).symm, _, rfl, hG⟩ | exact ⟨_, _, rfl, rfl, (Int32.neg_neg.trans ((if_neg c83).trans (if_neg c92)).symm), _, rfl, hG⟩
          · refine aw_aload_n (i := 0) dX5_lose_95 rfl rfl ?_
            refine ax_geti (ci := 5) 17 dX5_lose_96 rfl lfX5_246 (by decide) (by assumption) (by rfl) ?_
            refine aw_tE _ (congrArg Prod.fst hJ) ?_
            refine aw_goto (tgt := 107) dX5_lose_99 (by decide) ?_
            refine aw_ireturn (ty := .int) dX5_lose_107 rfl rfl ?_
            first | exact ⟨_, _, rfl, rfl, (if_pos c83).symm, _, rfl, hG⟩ | exact ⟨_, _, rfl, rfl, ((if_neg c83).trans (if_pos c92)).symm, _, rfl, hG⟩ | exact ⟨_, _, rfl, rfl, (Int32.neg_neg.trans ((if_neg c83).trans (if_neg c92)).symm), _, rfl, hG⟩
        · refine aw_bipush (v := -4) dX5_lose_86 (by decide) ?_
          refine aw_goto (tgt := 107) dX5_lose_88 (by decide) ?_
          refine aw_ireturn (ty := .int) dX5_lose_107 rfl rfl ?_
          first | exact ⟨_, _, rfl, rfl, (if_pos c83).symm, _, rfl, hG⟩ | exact ⟨_, _, rfl, rfl, ((if_neg c83).trans (if_pos c92)).symm, _, rfl, hG⟩ | exact ⟨_, _, rfl, rfl, (Int32.neg_neg.trans ((if_neg c83).trans (if_neg c92)).symm), _, rfl, hG⟩
      · have hi : i < p := Nat.not_le.mp (fun z => c44 (nI_le z (by omega)))
        refine aw_aload_n (i := 0) dX5_lose_47 rfl rfl ?_
        refine ax_gV0v (M' := MX5_starts) (ci := 5) dX5_lose_48 lmX5_183 oX5_starts (by decide +kernel) (by assumption) rfl rfl (Nat.le_of_ble_eq_true rfl) (n_starts hB hG) (fun S_ h_ => ?_)
        obtain ⟨f48, rfl, T48, Q48⟩ := h_
        rw [Q48]
        have T51 := stF_lost hB hG hi
        refine aw_aload_n (i := 0) dX5_lose_51 rfl rfl ?_
        refine aw_iload_n (i := 3) dX5_lose_52 rfl rfl ?_
        refine ax_puti (ci := 5) 16 dX5_lose_53 rfl lfX5_136 (by decide) (by assumption) (by rfl) rfl rfl ?_
        refine aw_aload_n (i := 0) dX5_lose_56 rfl rfl ?_
        refine aw_iload_n (i := 1) dX5_lose_57 rfl rfl ?_
        refine ax_gV1v (M' := MX5_ticksGo) (ci := 5) dX5_lose_58 lmX5_223 oX5_ticksGo (by decide +kernel) (by assumption) rfl rfl (Nat.le_of_ble_eq_true rfl) (n_ticksGo hn4 he T51 (N := N) (by omega)) (fun S_ h_ => ?_)
        obtain ⟨f58, rfl, T58, Q58⟩ := h_
        refine aw_aload_n (i := 0) dX5_lose_61 rfl rfl ?_
        refine aw_iload_n (i := 3) dX5_lose_62 rfl rfl ?_
        refine aw_aload_n (i := 0) dX5_lose_63 rfl rfl ?_
        refine ax_callV0i (M' := MX5_struckByAll) (ci := 5) dX5_lose_64 lmX5_226 oX5_struckByAll (by decide +kernel) (by assumption) rfl rfl (Nat.le_of_ble_eq_true rfl) (n_struckByAll hn4 T58) ?_
        refine aw_tE (loC f n p N i) (by rw [← ev6, ← ev7]; rfl) ?_
        refine aw_ineg dX5_lose_67 ?_
        refine ax_callV2v (M' := MX5_judges) (ci := 5) dX5_lose_68 lmX5_268 oX5_judges (by decide +kernel) (by assumption) rfl rfl (Nat.le_of_ble_eq_true rfl) (f_X5_judges _ _) ?_
        refine aw_incN (L' := [_, _, _, _]) dX5_lose_71 rfl (Nat.le_of_ble_eq_true rfl) rfl rfl ?_
        refine aw_goto (tgt := 36) dX5_lose_74 (by decide) ?_
        refine ih (i + 1) N _ hi (by omega) hN (T58.1.step (fun c q g1 g2 g3 g4 g5 g6 => jgF_o (by omega))) ?_
        rw [jg_pair, Q58 _ _ (by omega), Q58 _ _ (by omega), up2_ne (by omega), up2_ne (by omega), stF_o (by omega), stF_o (by omega), hJ, show g 64 18 = _ from congrArg Prod.snd hJ]
        exact lo_step hn4 hN
  refine aw_iload_n (i := 1) dX5_lose_0 rfl rfl ?_
  refine ax_callS1i (M' := MX5_isFar) dX5_lose_1 lmX5_231 oX5_isFar (by decide +kernel) (Nat.le_of_ble_eq_true rfl) (f_X5_isFar _) ?_
  refine aw_beq (tgt := 14) dX5_lose_4 (by decide) (fun c4 => ?_) (fun c4 => ?_)
  · refine aw_iconst (v := -1) dX5_lose_14 (by decide) ?_
    refine aw_ireturn (ty := .int) dX5_lose_15 rfl rfl ?_
    refine ⟨_, _, rfl, rfl, ?_, _, rfl, hG⟩
    unfold r_lose
    try rw [nI_clamp (show N < 2 ^ 31 by omega)]
    try rw [nI_clamp (show j < 2 ^ 31 by omega)]
    exact (if_neg c4).symm
  · refine aw_iload_n (i := 2) dX5_lose_7 rfl rfl ?_
    refine ax_callS1i (M' := MX5_isPart) dX5_lose_8 lmX5_240 oX5_isPart (by decide +kernel) (Nat.le_of_ble_eq_true rfl) (f_X5_isPart _) ?_
    refine aw_bne (tgt := 16) dX5_lose_11 (by decide) (fun c11 => ?_) (fun c11 => ?_)
    · obtain ⟨N, hN, rfl⟩ := rng_of (n := 200) (by omega) c4
      refine aw_aload_n (i := 0) dX5_lose_16 rfl rfl ?_
      refine ax_gV0v (M' := MX5_starts) (ci := 5) dX5_lose_17 lmX5_183 oX5_starts (by decide +kernel) (by assumption) rfl rfl (Nat.le_of_ble_eq_true rfl) (n_starts hB hG) (fun S_ h_ => ?_)
      obtain ⟨f17, rfl, T17, Q17⟩ := h_
      refine aw_aload_n (i := 0) dX5_lose_20 rfl rfl ?_
      refine aw_iload_n (i := 1) dX5_lose_21 rfl rfl ?_
      refine ax_gV1v (M' := MX5_ticksGo) (ci := 5) dX5_lose_22 lmX5_223 oX5_ticksGo (by decide +kernel) (by assumption) rfl rfl (Nat.le_of_ble_eq_true rfl) (n_ticksGo hn4 he T17 (N := N) (by omega)) (fun S_ h_ => ?_)
      obtain ⟨f22, rfl, T22, Q22⟩ := h_
      refine aw_aload_n (i := 0) dX5_lose_25 rfl rfl ?_
      refine aw_aload_n (i := 0) dX5_lose_26 rfl rfl ?_
      refine ax_callV0i (M' := MX5_struckByAll) (ci := 5) dX5_lose_27 lmX5_226 oX5_struckByAll (by decide +kernel) (by assumption) rfl rfl (Nat.le_of_ble_eq_true rfl) (n_struckByAll hn4 T22) ?_
      refine aw_ineg dX5_lose_30 ?_
      refine ax_callV1v (M' := MX5_startsJudging) (ci := 5) dX5_lose_31 lmX5_262 oX5_startsJudging (by decide +kernel) (by assumption) rfl rfl (Nat.le_of_ble_eq_true rfl) (f_X5_startsJudging _) ?_
      refine aw_iconst (v := 0) dX5_lose_34 (by decide) ?_
      refine aw_istore_n (i := 3) (L' := [_, _, _, _]) dX5_lose_35 rfl (Nat.le_of_ble_eq_true rfl) rfl rfl ?_
      have e9 := loop (p + 1) 0 N _ (by omega) (by omega) hN (T22.1.step (fun c q g1 g2 g3 g4 g5 g6 => by unfold sjF; rw [up2_ne (by omega), up2_ne (by omega)])) (show (sjF f22 (-sumF (fun k => (avK (f 9) (f 8) (f 10) n p (nI e) (K0 f) (nI T) N).1 k 7) n) 64 17, sjF f22 (-sumF (fun k => (avK (f 9) (f 8) (f 10) n p (nI e) (K0 f) (nI T) N).1 k 7) n) 64 18) = _ by unfold sjF; rw [up2_self, up2_ne (by omega), up2_self, ← ev6, ← ev7]; rfl)
      rw [show r_lose f n p (nI N) what = _ by unfold r_lose; rw [if_pos c4, if_pos c11, nI_clamp (by omega)]]
      exact e9
    · refine aw_iconst (v := -1) dX5_lose_14 (by decide) ?_
      refine aw_ireturn (ty := .int) dX5_lose_15 rfl rfl ?_
      refine ⟨_, _, rfl, rfl, ?_, _, rfl, hG⟩
      unfold r_lose
      try rw [nI_clamp (show N < 2 ^ 31 by omega)]
      try rw [nI_clamp (show j < 2 ^ 31 by omega)]
      exact ((if_pos c4).trans (if_neg c11)).symm
