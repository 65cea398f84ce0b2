theorem avK_s2 {pk pt ps : Nat → Int32} {n p T i : Nat} {ev : Int32} {K : Nat → Nat → Int32} : (avK pk pt ps n p ev (avK pk pt ps n p ev K (nI T) i).1 (nI (T + i)) 1).1 = (avK pk pt ps n p ev K (nI T) (i + 1)).1 := by
  rw [← avK_t (pk := pk) (pt := pt) (ps := ps) (n := n) (p := p) (ev := ev) (K := K) i]
  rfl
set_option maxRecDepth 100000 in
set_option maxHeartbeats 1000000 in
theorem n_when {V : am_V} {d : Nat} {f : Nat → Nat → Int32} {τ : Nat → Nat → Int64} {n p s e T : Nat} (hB : BR f 2 0 n p s e T) (k v : Int32) : AGi V MX5_when (d + 6) [.ref 64, .int k, .int v] (f, τ) (GM τ f (r_when f n p k v)) := by
  have hn4 : n ≤ 4 := hB.1.1
  have hp8 : p ≤ 8 := hB.1.2.1
  have he : 1 ≤ e ∧ e ≤ 4 := ⟨hB.1.2.2.2.1, hB.1.2.2.2.2.1⟩
  have hT9 : T ≤ 999 := hB.1.2.2.2.2.2
  have ev6 : f 2 6 = nI e := hB.2.1.2.2.2.1
  have ev7 : f 2 7 = nI T := hB.2.1.2.2.2.2
  have hG : eqM f f := eqM.rf
  have tM := tb_M
  have m65 := tb_65
  have m66 := tb_66
  have m67 := tb_67
  have m68 := tb_68
  have m69 := tb_69
  have m70 := tb_70
  have m71 := tb_71
  have m72 := tb_72
  have m73 := tb_73
  have m74 := tb_74
  have m75 := tb_75
  have m76 := tb_76
  refine AM.of (L := [some (.ref 64), some (.int k), some (.int v), none]) (by decide +kernel) (Nat.le_of_ble_eq_true rfl) rfl ?_
  have loop : ∀ (m : Nat) (i j : Nat) (g : Nat → Nat → Int32), j < n → i + m = 201 → MR f n p (f 9) (f 8) (f 10) e (avK (f 9) (f 8) (f 10) n p (nI e) (K0 f) (nI T) i).1 (T + i) g → AW V MX5_when (d + 6) 0 0 26 [some (.ref 64), some (.int (nI j)), some (.int v), some (.int (nI i))] [] (hp (g, τ)) (fun r' h' => ∃ (x : Int32) (S' : fm), r' = some (.int x) ∧ h' = hp S' ∧ GM τ f (fndU (fun N => (avK (f 9) (f 8) (f 10) n p (nI e) (K0 f) (nI T) N).1 j 3) v m i) x S') := by
    intro m
    induction m with
    | zero =>
      intro i j g hj hm hT
      have hi : i = 201 := by omega
      subst hi
      refine aw_iload_n (i := 3) dX5_when_26 rfl rfl ?_
      refine aw_sipush (v := 200) dX5_when_27 (by decide) ?_
      refine aw_icmp_gt (tgt := 56) dX5_when_30 (by decide) (fun c30 => ?_) (fun c30 => absurd (by decide) c30)
      refine aw_bipush (v := -4) dX5_when_56 (by decide) ?_
      refine aw_ireturn (ty := .int) dX5_when_58 rfl rfl ?_
      exact ⟨_, _, rfl, rfl, rfl, _, rfl, hT.1⟩
    | succ m ih =>
      intro i j g hj hm hT
      refine aw_iload_n (i := 3) dX5_when_26 rfl rfl ?_
      refine aw_sipush (v := 200) dX5_when_27 (by decide) ?_
      refine aw_tE (nI 200) rfl ?_
      refine aw_icmp_gt (tgt := 56) dX5_when_30 (by decide) (fun c30 => ?_) (fun c30 => ?_)
      · exact absurd ((nI_ltI (a := 200) (b := i) (by omega) (by omega)).mp c30) (by omega)
      · refine aw_aload_n (i := 0) dX5_when_33 rfl rfl ?_
        refine aw_iload_n (i := 1) dX5_when_34 rfl rfl ?_
        refine aw_iconst (v := 3) dX5_when_35 (by decide) ?_
        refine ax_callV2i (M' := MX5_of) (ci := 5) dX5_when_36 lmX5_145 oX5_of (by decide +kernel) (by assumption) rfl rfl (Nat.le_of_ble_eq_true rfl) (n_of hn4 hT hj (by decide)) ?_
        refine aw_iload_n (i := 2) dX5_when_39 rfl rfl ?_
        refine aw_icmp_ne (tgt := 45) dX5_when_40 (by decide) (fun c40 => ?_) (fun c40 => ?_)
        · refine aw_aload_n (i := 0) dX5_when_45 rfl rfl ?_
          refine aw_iconst (v := 1) dX5_when_46 (by decide) ?_
          refine ax_gV1v (M' := MX5_ticksGo) (ci := 5) dX5_when_47 lmX5_223 oX5_ticksGo (by decide +kernel) (by assumption) rfl rfl (Nat.le_of_ble_eq_true rfl) (n_ticksGo hn4 he hT (N := 1) (by omega)) (fun S_ h_ => ?_)
          obtain ⟨f47, rfl, T47, Q47⟩ := h_
          refine aw_incN (L' := [_, _, _, _]) dX5_when_50 rfl (Nat.le_of_ble_eq_true rfl) rfl rfl ?_
          refine aw_goto (tgt := 26) dX5_when_53 (by decide) ?_
          rw [avK_s2] at T47
          have e9 := ih (i + 1) j f47 hj (by omega) T47
          rw [show fndU (fun N => (avK (f 9) (f 8) (f 10) n p (nI e) (K0 f) (nI T) N).1 j 3) v (m + 1) i = fndU (fun N => (avK (f 9) (f 8) (f 10) n p (nI e) (K0 f) (nI T) N).1 j 3) v m (i + 1) from if_neg c40]
          exact e9
        · refine aw_iload_n (i := 3) dX5_when_43 rfl rfl ?_
          refine aw_ireturn (ty := .int) dX5_when_44 rfl rfl ?_
          exact ⟨_, _, rfl, rfl, (if_pos c40).symm, _, rfl, hT.1⟩
  refine aw_aload_n (i := 0) dX5_when_0 rfl rfl ?_
  refine aw_iload_n (i := 1) dX5_when_1 rfl rfl ?_
  refine ax_callV1i (M' := MX5_isKey) (ci := 5) dX5_when_2 lmX5_192 oX5_isKey (by decide +kernel) (by assumption) rfl rfl (Nat.le_of_ble_eq_true rfl) (n_isKey hB _) ?_
  refine aw_beq (tgt := 18) dX5_when_5 (by decide) (fun c5 => ?_) (fun c5 => ?_)
  · refine aw_iconst (v := -1) dX5_when_18 (by decide) ?_
    refine aw_ireturn (ty := .int) dX5_when_19 rfl rfl ?_
    refine ⟨_, _, rfl, rfl, ?_, _, rfl, hG⟩
    unfold r_when
    try rw [nI_clamp (show N < 2 ^ 31 by omega)]
    try rw [nI_clamp (show j < 2 ^ 31 by omega)]
    exact (if_neg c5).symm
  · refine aw_iload_n (i := 2) dX5_when_8 rfl rfl ?_
    refine aw_i2l dX5_when_9 ?_
    refine aw_lconst (v := 0) dX5_when_10 (by decide) ?_
    refine aw_lconst (v := 1) dX5_when_11 (by decide) ?_
    refine ax_callS3i (M' := MX5_in) dX5_when_12 lmX5_63 oX5_in (by decide +kernel) (Nat.le_of_ble_eq_true rfl) (e_in _ 0 1) ?_
    refine aw_bne (tgt := 20) dX5_when_15 (by decide) (fun c15 => ?_) (fun c15 => ?_)
    · obtain ⟨j, hj, rfl⟩ := key_of hn4 (show 0 ≤ k ∧ k ≤ nI n - 1 by rw [← hB.2.1.1]; exact c5)
      refine aw_aload_n (i := 0) dX5_when_20 rfl rfl ?_
      refine ax_gV0v (M' := MX5_starts) (ci := 5) dX5_when_21 lmX5_183 oX5_starts (by decide +kernel) (by assumption) rfl rfl (Nat.le_of_ble_eq_true rfl) (n_starts hB hG) (fun S_ h_ => ?_)
      obtain ⟨f21, rfl, T21, Q21⟩ := h_
      refine aw_iconst (v := 0) dX5_when_24 (by decide) ?_
      refine aw_istore_n (i := 3) (L' := [_, _, _, _]) dX5_when_25 rfl (Nat.le_of_ble_eq_true rfl) rfl rfl ?_
      have e9 := loop 201 0 j f21 hj rfl T21
      rw [show r_when f n p (nI j) v = fndU (fun N => (avK (f 9) (f 8) (f 10) n p (nI e) (K0 f) (nI T) N).1 j 3) v 201 0 by unfold r_when; rw [if_pos c5, if_pos c15, nI_clamp (by omega), ← ev6, ← ev7]]
      exact e9
    · refine aw_iconst (v := -1) dX5_when_18 (by decide) ?_
      refine aw_ireturn (ty := .int) dX5_when_19 rfl rfl ?_
      refine ⟨_, _, rfl, rfl, ?_, _, rfl, hG⟩
      unfold r_when
      try rw [nI_clamp (show N < 2 ^ 31 by omega)]
      try rw [nI_clamp (show j < 2 ^ 31 by omega)]
      exact ((if_pos c5).trans (if_neg c15)).symm
set_option maxRecDepth 100000 in
set_option maxHeartbeats 1000000 in
theorem n_need {V : am_V} {d : Nat} {f : Nat → Nat → Int32} {τ : Nat → Nat → Int64} {n p s e T : Nat} (hB : BR f 2 0 n p s e T) (k x mm : Int32) : AGi V MX5_need (d + 7) [.ref 64, .int k, .int x, .int mm] (f, τ) (GM τ f (r_need f n p k x mm)) := by
  have hn4 : n ≤ 4 := hB.1.1
  have hp8 : p ≤ 8 := hB.1.2.1
  have he : 1 ≤ e ∧ e ≤ 4 := ⟨hB.1.2.2.2.1, hB.1.2.2.2.2.1⟩
  have hT9 : T ≤ 999 := hB.1.2.2.2.2.2
  have ev6 : f 2 6 = nI e := hB.2.1.2.2.2.1
  have ev7 : f 2 7 = nI T := hB.2.1.2.2.2.2
  have hG : eqM f f := eqM.rf
  have tM := tb_M
  have m65 := tb_65
  have m66 := tb_66
  have m67 := tb_67
  have m68 := tb_68
  have m69 := tb_69
  have m70 := tb_70
  have m71 := tb_71
  have m72 := tb_72
  have m73 := tb_73
  have m74 := tb_74
  have m75 := tb_75
  have m76 := tb_76
  refine AM.of (L := [some (.ref 64), some (.int k), some (.int x), some (.int mm), none]) (by decide +kernel) (Nat.le_of_ble_eq_true rfl) rfl ?_
  have loop : ∀ (m : Nat) (i j N : Nat) (g : Nat → Nat → Int32), j < n → N ≤ 200 → 1 ≤ i → i + m = 10 → eqM g f → AW V MX5_need (d + 7) 0 0 32 [some (.ref 64), some (.int (nI j)), some (.int (nI N)), some (.int mm), some (.int (nI i))] [] (hp (g, τ)) (fun r' h' => ∃ (x : Int32) (S' : fm), r' = some (.int x) ∧ h' = hp S' ∧ GM τ f (fndU (fun v => (avK (f 9) (f 8) (f 10) n p (nI e) (altK (K0 f) j 2 (nI v)) (nI T) N).1 j 7) mm m i) x S') := by
    intro m
    induction m with
    | zero =>
      intro i j N g hj hN h1 hm hG
      have hi : i = 10 := by omega
      subst hi
      refine aw_iload dX5_need_32 rfl ?_
      refine aw_bipush (v := 9) dX5_need_34 (by decide) ?_
      refine aw_icmp_gt (tgt := 61) dX5_need_36 (by decide) (fun c36 => ?_) (fun c36 => absurd (by decide) c36)
      refine aw_bipush (v := -4) dX5_need_61 (by decide) ?_
      refine aw_ireturn (ty := .int) dX5_need_63 rfl rfl ?_
      exact ⟨_, _, rfl, rfl, rfl, _, rfl, hG⟩
    | succ m ih =>
      intro i j N g hj hN h1 hm hG
      refine aw_iload dX5_need_32 rfl ?_
      refine aw_bipush (v := 9) dX5_need_34 (by decide) ?_
      refine aw_tE (nI 9) rfl ?_
      refine aw_icmp_gt (tgt := 61) dX5_need_36 (by decide) (fun c36 => ?_) (fun c36 => ?_)
      · exact absurd ((nI_ltI (a := 9) (b := i) (by omega) (by omega)).mp c36) (by omega)
      · refine aw_aload_n (i := 0) dX5_need_39 rfl rfl ?_
        refine aw_iload_n (i := 1) dX5_need_40 rfl rfl ?_
        refine aw_iconst (v := 2) dX5_need_41 (by decide) ?_
        refine aw_iload dX5_need_42 rfl ?_
        refine aw_iload_n (i := 2) dX5_need_44 rfl rfl ?_
        refine aw_iload_n (i := 3) dX5_need_45 rfl rfl ?_
        refine ax_gV5i (M' := MX5_strikesJust) (ci := 5) dX5_need_46 lmX5_257 oX5_strikesJust (by decide +kernel) (by assumption) rfl rfl (Nat.le_of_ble_eq_true rfl) (n_strikesJust hB hj (part := 2) (by omega) _ _ (Or.inr (Or.inr ⟨rfl, nI_le (a := 1) h1 (by omega), nI_le (b := 9) (by omega) (by omega)⟩)) hN hG) (fun r_ S_ h_ => ?_)
        obtain ⟨rfl, f46, rfl, T46⟩ := h_
        refine aw_beq (tgt := 55) dX5_need_49 (by decide) (fun c49 => ?_) (fun c49 => ?_)
        · refine aw_incN (L' := [_, _, _, _, _]) dX5_need_55 rfl (Nat.le_of_ble_eq_true rfl) rfl rfl ?_
          refine aw_goto (tgt := 32) dX5_need_58 (by decide) ?_
          have e9 := ih (i + 1) j N f46 hj hN (by omega) (by omega) T46
          rw [show fndU (fun v => (avK (f 9) (f 8) (f 10) n p (nI e) (altK (K0 f) j 2 (nI v)) (nI T) N).1 j 7) mm (m + 1) i = fndU (fun v => (avK (f 9) (f 8) (f 10) n p (nI e) (altK (K0 f) j 2 (nI v)) (nI T) N).1 j 7) mm m (i + 1) from if_neg c49]
          exact e9
        · refine aw_iload dX5_need_52 rfl ?_
          refine aw_ireturn (ty := .int) dX5_need_54 rfl rfl ?_
          exact ⟨_, _, rfl, rfl, (if_pos c49).symm, _, rfl, T46⟩
  refine aw_aload_n (i := 0) dX5_need_0 rfl rfl ?_
  refine aw_iload_n (i := 1) dX5_need_1 rfl rfl ?_
  refine ax_callV1i (M' := MX5_isKey) (ci := 5) dX5_need_2 lmX5_192 oX5_isKey (by decide +kernel) (by assumption) rfl rfl (Nat.le_of_ble_eq_true rfl) (n_isKey hB _) ?_
  refine aw_beq (tgt := 27) dX5_need_5 (by decide) (fun c5 => ?_) (fun c5 => ?_)
  · refine aw_iconst (v := -1) dX5_need_27 (by decide) ?_
    refine aw_ireturn (ty := .int) dX5_need_28 rfl rfl ?_
    refine ⟨_, _, rfl, rfl, ?_, _, rfl, hG⟩
    unfold r_need
    try rw [nI_clamp (show N < 2 ^ 31 by omega)]
    try rw [nI_clamp (show j < 2 ^ 31 by omega)]
    exact (if_neg c5).symm
  · refine aw_iload_n (i := 2) dX5_need_8 rfl rfl ?_
    refine ax_callS1i (M' := MX5_isFar) dX5_need_9 lmX5_231 oX5_isFar (by decide +kernel) (Nat.le_of_ble_eq_true rfl) (f_X5_isFar _) ?_
    refine aw_beq (tgt := 27) dX5_need_12 (by decide) (fun c12 => ?_) (fun c12 => ?_)
    · refine aw_iconst (v := -1) dX5_need_27 (by decide) ?_
      refine aw_ireturn (ty := .int) dX5_need_28 rfl rfl ?_
      refine ⟨_, _, rfl, rfl, ?_, _, rfl, hG⟩
      unfold r_need
      try rw [nI_clamp (show N < 2 ^ 31 by omega)]
      try rw [nI_clamp (show j < 2 ^ 31 by omega)]
      exact ((if_pos c5).trans (if_neg c12)).symm
    · refine aw_iload_n (i := 3) dX5_need_15 rfl rfl ?_
      refine aw_i2l dX5_need_16 ?_
      refine aw_lconst (v := 0) dX5_need_17 (by decide) ?_
      refine aw_ldc2 dX5_need_18 lkX5_255 ?_
      refine ax_callS3i (M' := MX5_in) dX5_need_21 lmX5_63 oX5_in (by decide +kernel) (Nat.le_of_ble_eq_true rfl) (e_in _ 0 20) ?_
      refine aw_bne (tgt := 29) dX5_need_24 (by decide) (fun c24 => ?_) (fun c24 => ?_)
      · obtain ⟨j, hj, rfl⟩ := key_of hn4 (show 0 ≤ k ∧ k ≤ nI n - 1 by rw [← hB.2.1.1]; exact c5)
        obtain ⟨N, hN, rfl⟩ := rng_of (n := 200) (by omega) c12
        refine aw_iconst (v := 1) dX5_need_29 (by decide) ?_
        refine aw_istore (i := 4) (L' := [_, _, _, _, _]) dX5_need_30 (Nat.le_of_ble_eq_true rfl) rfl rfl ?_
        have e9 := loop 9 1 j N f hj hN (by omega) rfl hG
        rw [show r_need f n p (nI j) (nI N) mm = fndU (fun v => (avK (f 9) (f 8) (f 10) n p (nI e) (altK (K0 f) j 2 (nI v)) (nI T) N).1 j 7) mm 9 1 by unfold r_need; rw [if_pos c5, if_pos c12, if_pos c24, nI_clamp (by omega), nI_clamp (by omega), ← ev6, ← ev7]]
        exact e9
      · refine aw_iconst (v := -1) dX5_need_27 (by decide) ?_
        refine aw_ireturn (ty := .int) dX5_need_28 rfl rfl ?_
        refine ⟨_, _, rfl, rfl, ?_, _, rfl, hG⟩
        unfold r_need
        try rw [nI_clamp (show N < 2 ^ 31 by omega)]
        try rw [nI_clamp (show j < 2 ^ 31 by omega)]
        exact ((if_pos c5).trans ((if_pos c12).trans (if_neg c24))).symm
set_option maxRecDepth 100000 in
set_option maxHeartbeats 1000000 in
theorem n_bear {V : am_V} {d : Nat} {f : Nat → Nat → Int32} {τ : Nat → Nat → Int64} {n p s e T : Nat} (hB : BR f 2 0 n p s e T) (k x mm : Int32) : AGi V MX5_bear (d + 7) [.ref 64, .int k, .int x, .int mm] (f, τ) (GM τ f (r_bear f n p k x mm)) := by
  have hn4 : n ≤ 4 := hB.1.1
  have hp8 : p ≤ 8 := hB.1.2.1
  have he : 1 ≤ e ∧ e ≤ 4 := ⟨hB.1.2.2.2.1, hB.1.2.2.2.2.1⟩
  have hT9 : T ≤ 999 := hB.1.2.2.2.2.2
  have ev6 : f 2 6 = nI e := hB.2.1.2.2.2.1
  have ev7 : f 2 7 = nI T := hB.2.1.2.2.2.2
  have hG : eqM f f := eqM.rf
  have tM := tb_M
  have m65 := tb_65
  have m66 := tb_66
  have m67 := tb_67
  have m68 := tb_68
  have m69 := tb_69
  have m70 := tb_70
  have m71 := tb_71
  have m72 := tb_72
  have m73 := tb_73
  have m74 := tb_74
  have m75 := tb_75
  have m76 := tb_76
  refine AM.of (L := [some (.ref 64), some (.int k), some (.int x), some (.int mm), none]) (by decide +kernel) (Nat.le_of_ble_eq_true rfl) rfl ?_
  have loop : ∀ (m : Nat) (j N : Nat) (g : Nat → Nat → Int32), j < n → N ≤ 200 → m ≤ 10 → eqM g f → AW V MX5_bear (d + 7) 0 0 33 [some (.ref 64), some (.int (nI j)), some (.int (nI N)), some (.int mm), some (.int (nI m - 1))] [] (hp (g, τ)) (fun r' h' => ∃ (x : Int32) (S' : fm), r' = some (.int x) ∧ h' = hp S' ∧ GM τ f (fndD (fun v => (avK (f 9) (f 8) (f 10) n p (nI e) (altK (K0 f) j 0 (nI v)) (nI T) N).1 j 7) mm m) x S') := by
    intro m
    induction m with
    | zero =>
      intro j N g hj hN hm hG
      refine aw_iload dX5_bear_33 rfl ?_
      refine aw_if_lt (tgt := 60) dX5_bear_35 (by decide) (fun c35 => ?_) (fun c35 => absurd (by decide) c35)
      refine aw_bipush (v := -4) dX5_bear_60 (by decide) ?_
      refine aw_ireturn (ty := .int) dX5_bear_62 rfl rfl ?_
      exact ⟨_, _, rfl, rfl, rfl, _, rfl, hG⟩
    | succ m ih =>
      intro j N g hj hN hm hG
      rw [nI_pred]
      refine aw_iload dX5_bear_33 rfl ?_
      refine aw_if_lt (tgt := 60) dX5_bear_35 (by decide) (fun c35 => ?_) (fun c35 => ?_)
      · exact absurd c35 (nI_pos (by omega))
      · refine aw_aload_n (i := 0) dX5_bear_38 rfl rfl ?_
        refine aw_iload_n (i := 1) dX5_bear_39 rfl rfl ?_
        refine aw_iconst (v := 0) dX5_bear_40 (by decide) ?_
        refine aw_iload dX5_bear_41 rfl ?_
        refine aw_iload_n (i := 2) dX5_bear_43 rfl rfl ?_
        refine aw_iload_n (i := 3) dX5_bear_44 rfl rfl ?_
        refine ax_gV5i (M' := MX5_strikesJust) (ci := 5) dX5_bear_45 lmX5_257 oX5_strikesJust (by decide +kernel) (by assumption) rfl rfl (Nat.le_of_ble_eq_true rfl) (n_strikesJust hB hj (part := 0) (by omega) _ _ (Or.inl ⟨rfl, nI_pos' (by omega), nI_le (b := 9) (by omega) (by omega)⟩) hN hG) (fun r_ S_ h_ => ?_)
        obtain ⟨rfl, f45, rfl, T45⟩ := h_
        refine aw_beq (tgt := 54) dX5_bear_48 (by decide) (fun c48 => ?_) (fun c48 => ?_)
        · refine aw_iinc (v := nI m - 1) (L' := [_, _, _, _, _]) dX5_bear_54 rfl (am_dec _) (Nat.le_of_ble_eq_true rfl) rfl rfl ?_
          refine aw_goto (tgt := 33) dX5_bear_57 (by decide) ?_
          have e9 := ih j N f45 hj hN (by omega) T45
          rw [show fndD (fun v => (avK (f 9) (f 8) (f 10) n p (nI e) (altK (K0 f) j 0 (nI v)) (nI T) N).1 j 7) mm (m + 1) = fndD (fun v => (avK (f 9) (f 8) (f 10) n p (nI e) (altK (K0 f) j 0 (nI v)) (nI T) N).1 j 7) mm m from if_neg c48]
          exact e9
        · refine aw_iload dX5_bear_51 rfl ?_
          refine aw_ireturn (ty := .int) dX5_bear_53 rfl rfl ?_
          exact ⟨_, _, rfl, rfl, (if_pos c48).symm, _, rfl, T45⟩
  refine aw_aload_n (i := 0) dX5_bear_0 rfl rfl ?_
  refine aw_iload_n (i := 1) dX5_bear_1 rfl rfl ?_
  refine ax_callV1i (M' := MX5_isKey) (ci := 5) dX5_bear_2 lmX5_192 oX5_isKey (by decide +kernel) (by assumption) rfl rfl (Nat.le_of_ble_eq_true rfl) (n_isKey hB _) ?_
  refine aw_beq (tgt := 27) dX5_bear_5 (by decide) (fun c5 => ?_) (fun c5 => ?_)
  · refine aw_iconst (v := -1) dX5_bear_27 (by decide) ?_
    refine aw_ireturn (ty := .int) dX5_bear_28 rfl rfl ?_
    refine ⟨_, _, rfl, rfl, ?_, _, rfl, hG⟩
    unfold r_bear
    try rw [nI_clamp (show N < 2 ^ 31 by omega)]
    try rw [nI_clamp (show j < 2 ^ 31 by omega)]
    exact (if_neg c5).symm
  · refine aw_iload_n (i := 2) dX5_bear_8 rfl rfl ?_
    refine ax_callS1i (M' := MX5_isFar) dX5_bear_9 lmX5_231 oX5_isFar (by decide +kernel) (Nat.le_of_ble_eq_true rfl) (f_X5_isFar _) ?_
    refine aw_beq (tgt := 27) dX5_bear_12 (by decide) (fun c12 => ?_) (fun c12 => ?_)
    · refine aw_iconst (v := -1) dX5_bear_27 (by decide) ?_
      refine aw_ireturn (ty := .int) dX5_bear_28 rfl rfl ?_
      refine ⟨_, _, rfl, rfl, ?_, _, rfl, hG⟩
      unfold r_bear
      try rw [nI_clamp (show N < 2 ^ 31 by omega)]
      try rw [nI_clamp (show j < 2 ^ 31 by omega)]
      exact ((if_pos c5).trans (if_neg c12)).symm
    · refine aw_iload_n (i := 3) dX5_bear_15 rfl rfl ?_
      refine aw_i2l dX5_bear_16 ?_
      refine aw_lconst (v := 0) dX5_bear_17 (by decide) ?_
      refine aw_ldc2 dX5_bear_18 lkX5_255 ?_
      refine ax_callS3i (M' := MX5_in) dX5_bear_21 lmX5_63 oX5_in (by decide +kernel) (Nat.le_of_ble_eq_true rfl) (e_in _ 0 20) ?_
      refine aw_bne (tgt := 29) dX5_bear_24 (by decide) (fun c24 => ?_) (fun c24 => ?_)
      · obtain ⟨j, hj, rfl⟩ := key_of hn4 (show 0 ≤ k ∧ k ≤ nI n - 1 by rw [← hB.2.1.1]; exact c5)
        obtain ⟨N, hN, rfl⟩ := rng_of (n := 200) (by omega) c12
        refine aw_bipush (v := 9) dX5_bear_29 (by decide) ?_
        refine aw_istore (i := 4) (L' := [_, _, _, _, _]) dX5_bear_31 (Nat.le_of_ble_eq_true rfl) rfl rfl ?_
        have e9 := loop 10 j N f hj hN (Nat.le_refl _) hG
        rw [show r_bear f n p (nI j) (nI N) mm = fndD (fun v => (avK (f 9) (f 8) (f 10) n p (nI e) (altK (K0 f) j 0 (nI v)) (nI T) N).1 j 7) mm 10 by unfold r_bear; rw [if_pos c5, if_pos c12, if_pos c24, nI_clamp (by omega), nI_clamp (by omega), ← ev6, ← ev7]]
        exact e9
      · refine aw_iconst (v := -1) dX5_bear_27 (by decide) ?_
        refine aw_ireturn (ty := .int) dX5_bear_28 rfl rfl ?_
        refine ⟨_, _, rfl, rfl, ?_, _, rfl, hG⟩
        unfold r_bear
        try rw [nI_clamp (show N < 2 ^ 31 by omega)]
        try rw [nI_clamp (show j < 2 ^ 31 by omega)]
        exact ((if_pos c5).trans ((if_pos c12).trans (if_neg c24))).symm
set_option maxRecDepth 100000 in
set_option maxHeartbeats 1000000 in
theorem n_runs {V : am_V} {d : Nat} {f : Nat → Nat → Int32} {τ : Nat → Nat → Int64} {n p s e T : Nat} (hB : BR f 2 0 n p s e T) (x what : Int32) : AGi V MX5_runs (d + 5) [.ref 64, .int x, .int what] (f, τ) (GM τ f (r_runs f n p x what)) := by
  have hn4 : n ≤ 4 := hB.1.1
  have hp8 : p ≤ 8 := hB.1.2.1
  have he : 1 ≤ e ∧ e ≤ 4 := ⟨hB.1.2.2.2.1, hB.1.2.2.2.2.1⟩
  have hT9 : T ≤ 999 := hB.1.2.2.2.2.2
  have ev6 : f 2 6 = nI e := hB.2.1.2.2.2.1
  have ev7 : f 2 7 = nI T := hB.2.1.2.2.2.2
  have hG : eqM f f := eqM.rf
  have tM := tb_M
  have m65 := tb_65
  have m66 := tb_66
  have m67 := tb_67
  have m68 := tb_68
  have m69 := tb_69
  have m70 := tb_70
  have m71 := tb_71
  have m72 := tb_72
  have m73 := tb_73
  have m74 := tb_74
  have m75 := tb_75
  have m76 := tb_76
  refine AM.of (L := [some (.ref 64), some (.int x), some (.int what), none, none, none]) (by decide +kernel) (Nat.le_of_ble_eq_true rfl) rfl ?_
  have loop : ∀ (m : Nat) (i N : Nat) (z : Option Value) (g : Nat → Nat → Int32), i ≤ N → N - i < m → N ≤ 200 → (0 ≤ what ∧ what ≤ 3) → MR f n p (f 9) (f 8) (f 10) e (avK (f 9) (f 8) (f 10) n p (nI e) (K0 f) (nI T) i).1 (T + i) g → AW V MX5_runs (d + 5) 0 0 30 [some (.ref 64), some (.int (nI N)), some (.int what), some (.int (wrK (f 9) (f 8) (f 10) n p (nI e) (K0 f) (nI T) i)), some (.int (nI i)), z] [] (hp (g, τ)) (fun r' h' => ∃ (x : Int32) (S' : fm), r' = some (.int x) ∧ h' = hp S' ∧ GM τ f ((if what = 3 then (wrK (f 9) (f 8) (f 10) n p (nI e) (K0 f) (nI T) N) else if what = 0 then sumF (fun k => (avK (f 9) (f 8) (f 10) n p (nI e) (K0 f) (nI T) N).1 k 7) n else if what = 1 then orF (fun k => (avK (f 9) (f 8) (f 10) n p (nI e) (K0 f) (nI T) N).1 k 3) n else sumF (fun k => (avK (f 9) (f 8) (f 10) n p (nI e) (K0 f) (nI T) N).1 k 8) n)) x S') := by
    intro m
    induction m with
    | zero =>
      intro i N z g h1 h2; omega
    | succ m ih =>
      intro i N z g h1 h2 hN hw hT
      have e2 : tkK (nI e) (cbK (f 9) (f 8) (f 10) n p (avK (f 9) (f 8) (f 10) n p (nI e) (K0 f) (nI T) i).1 (nI (T + i))) (avK (f 9) (f 8) (f 10) n p (nI e) (K0 f) (nI T) i).1 (nI (T + i)) = (avK (f 9) (f 8) (f 10) n p (nI e) (K0 f) (nI T) (i + 1)).1 := by rw [avK, avK_t]
      have kY : cbK (f 9) (f 8) (f 10) n p (avK (f 9) (f 8) (f 10) n p (nI e) (K0 f) (nI T) i).1 (nI (T + i)) = orF (fun k => (avK (f 9) (f 8) (f 10) n p (nI e) (K0 f) (nI T) (i + 1)).1 k 3) n → (wrK (f 9) (f 8) (f 10) n p (nI e) (K0 f) (nI T) (i + 1)) = (wrK (f 9) (f 8) (f 10) n p (nI e) (K0 f) (nI T) i) := fun q => by rw [wrK, avK_t, if_pos q]
      have kN : ¬ cbK (f 9) (f 8) (f 10) n p (avK (f 9) (f 8) (f 10) n p (nI e) (K0 f) (nI T) i).1 (nI (T + i)) = orF (fun k => (avK (f 9) (f 8) (f 10) n p (nI e) (K0 f) (nI T) (i + 1)).1 k 3) n → (wrK (f 9) (f 8) (f 10) n p (nI e) (K0 f) (nI T) (i + 1)) = (wrK (f 9) (f 8) (f 10) n p (nI e) (K0 f) (nI T) i) + 1 := fun q => by rw [wrK, avK_t, if_neg q]
      refine aw_iload dX5_runs_30 rfl ?_
      refine aw_iload_n (i := 1) dX5_runs_32 rfl rfl ?_
      refine aw_icmp_ge (tgt := 74) dX5_runs_33 (by decide) (fun c33 => ?_) (fun c33 => ?_)
      · have hip : i = N := by have := (nI_leI (a := N) (b := i) (by omega) (by omega)).mp c33; omega
        subst hip
        refine aw_iload_n (i := 2) dX5_runs_74 rfl rfl ?_
        refine aw_tab3 (t0 := 100) (t1 := 105) (t2 := 110) (td := 115) dX5_runs_75 (by decide) (by decide) (by decide) (by decide) (fun c75_0 => ?_) (fun c75_0 c75_1 => ?_) (fun c75_0 c75_1 c75_2 => ?_) (fun c75_0 c75_1 c75_2 => ?_)
        · refine aw_aload_n (i := 0) dX5_runs_100 rfl rfl ?_
          refine ax_callV0i (M' := MX5_struckByAll) (ci := 5) dX5_runs_101 lmX5_226 oX5_struckByAll (by decide +kernel) (by assumption) rfl rfl (Nat.le_of_ble_eq_true rfl) (n_struckByAll hn4 hT) ?_
          refine aw_ireturn (ty := .int) dX5_runs_104 rfl rfl ?_
          exact ⟨_, _, rfl, rfl, ((if_neg (by rw [c75_0]; decide)).trans (if_pos c75_0)).symm, _, rfl, hT.1⟩
        · refine aw_aload_n (i := 0) dX5_runs_105 rfl rfl ?_
          refine ax_callV0i (M' := MX5_says) (ci := 5) dX5_runs_106 lmX5_186 oX5_says (by decide +kernel) (by assumption) rfl rfl (Nat.le_of_ble_eq_true rfl) (n_says hn4 hT) ?_
          refine aw_ireturn (ty := .int) dX5_runs_109 rfl rfl ?_
          exact ⟨_, _, rfl, rfl, ((if_neg (by rw [c75_1]; decide)).trans ((if_neg c75_0).trans (if_pos c75_1))).symm, _, rfl, hT.1⟩
        · refine aw_aload_n (i := 0) dX5_runs_110 rfl rfl ?_
          refine ax_geti (ci := 5) 15 dX5_runs_111 rfl lfX5_133 (by decide) (by assumption) (by rfl) ?_
          refine aw_ireturn (ty := .int) dX5_runs_114 rfl rfl ?_
          exact ⟨_, _, rfl, rfl, (hT.2.1.2.2.2.2.2.2.2.trans ((if_neg (by rw [c75_2]; decide)).trans ((if_neg c75_0).trans (if_neg c75_1))).symm), _, rfl, hT.1⟩
        · refine aw_iload_n (i := 3) dX5_runs_115 rfl rfl ?_
          refine aw_ireturn (ty := .int) dX5_runs_116 rfl rfl ?_
          obtain ⟨y, hy, rfl⟩ := rng_of (n := 3) (by omega) hw
          have h3 : nI y = 3 := by
            rcases (show y = 0 ∨ y = 1 ∨ y = 2 ∨ y = 3 by omega) with rfl | rfl | rfl | rfl
            · exact absurd rfl c75_0
            · exact absurd rfl c75_1
            · exact absurd rfl c75_2
            · rfl
          exact ⟨_, _, rfl, rfl, (if_pos h3).symm, _, rfl, hT.1⟩
      · have hi : i < N := Nat.not_le.mp (fun z => c33 (nI_le z (by omega)))
        refine aw_aload_n (i := 0) dX5_runs_36 rfl rfl ?_
        refine ax_callV0i (M' := MX5_contactsNow) (ci := 5) dX5_runs_37 lmX5_177 oX5_contactsNow (by decide +kernel) (by assumption) rfl rfl (Nat.le_of_ble_eq_true rfl) (n_contactsNow hn4 (by omega) hT) ?_
        refine aw_istore (i := 5) (L' := [_, _, _, _, _, _]) dX5_runs_40 (Nat.le_of_ble_eq_true rfl) rfl rfl ?_
        refine aw_aload_n (i := 0) dX5_runs_42 rfl rfl ?_
        refine aw_iload dX5_runs_43 rfl ?_
        refine ax_gV1v (M' := MX5_tickGoesBy) (ci := 5) dX5_runs_45 lmX5_180 oX5_tickGoesBy (by decide +kernel) (by assumption) rfl rfl (Nat.le_of_ble_eq_true rfl) (n_tickGoesBy hn4 he hT _) (fun S_ h_ => ?_)
        obtain ⟨f45, rfl, T45⟩ := h_
        rw [e2] at T45
        refine aw_iload_n (i := 3) dX5_runs_48 rfl rfl ?_
        refine aw_iload dX5_runs_49 rfl ?_
        refine aw_aload_n (i := 0) dX5_runs_51 rfl rfl ?_
        refine ax_callV0i (M' := MX5_says) (ci := 5) dX5_runs_52 lmX5_186 oX5_says (by decide +kernel) (by assumption) rfl rfl (Nat.le_of_ble_eq_true rfl) (n_says hn4 T45) ?_
        refine aw_icmp_eq (tgt := 62) dX5_runs_55 (by decide) (fun c55 => ?_) (fun c55 => ?_)
        · refine aw_iconst (v := 0) dX5_runs_62 (by decide) ?_
          refine ax_callS1i (M' := MX5_flag) dX5_runs_63 lmX5_236 oX5_flag (by decide +kernel) (Nat.le_of_ble_eq_true rfl) (f_X5_flagc0) ?_
          refine aw_iadd dX5_runs_66 ?_
          refine aw_istore_n (i := 3) (L' := [_, _, _, _, _, _]) dX5_runs_67 rfl (Nat.le_of_ble_eq_true rfl) rfl rfl ?_
          refine aw_incN (L' := [_, _, _, _, _, _]) dX5_runs_68 rfl (Nat.le_of_ble_eq_true rfl) rfl rfl ?_
          refine aw_goto (tgt := 30) dX5_runs_71 (by decide) ?_
          have e9 := fun z => ih (i + 1) N z f45 hi (by omega) hN hw T45
          first | (rw [kY c55, ← Int32.add_zero (wrK (f 9) (f 8) (f 10) n p (nI e) (K0 f) (nI T) i)] at e9; exact e9 _) | (rw [kN c55] at e9; exact e9 _)
        · refine aw_iconst (v := 1) dX5_runs_58 (by decide) ?_
          refine aw_goto (tgt := 63) dX5_runs_59 (by decide) ?_
          refine ax_callS1i (M' := MX5_flag) dX5_runs_63 lmX5_236 oX5_flag (by decide +kernel) (Nat.le_of_ble_eq_true rfl) (f_X5_flagc1) ?_
          refine aw_iadd dX5_runs_66 ?_
          refine aw_istore_n (i := 3) (L' := [_, _, _, _, _, _]) dX5_runs_67 rfl (Nat.le_of_ble_eq_true rfl) rfl rfl ?_
          refine aw_incN (L' := [_, _, _, _, _, _]) dX5_runs_68 rfl (Nat.le_of_ble_eq_true rfl) rfl rfl ?_
          refine aw_goto (tgt := 30) dX5_runs_71 (by decide) ?_
          have e9 := fun z => ih (i + 1) N z f45 hi (by omega) hN hw T45
          first | (rw [kY c55, ← Int32.add_zero (wrK (f 9) (f 8) (f 10) n p (nI e) (K0 f) (nI T) i)] at e9; exact e9 _) | (rw [kN c55] at e9; exact e9 _)
  refine aw_iload_n (i := 1) dX5_runs_0 rfl rfl ?_
  refine ax_callS1i (M' := MX5_isFar) dX5_runs_1 lmX5_231 oX5_isFar (by decide +kernel) (Nat.le_of_ble_eq_true rfl) (f_X5_isFar _) ?_
  refine aw_beq (tgt := 19) dX5_runs_4 (by decide) (fun c4 => ?_) (fun c4 => ?_)
  · refine aw_iconst (v := -1) dX5_runs_19 (by decide) ?_
    refine aw_ireturn (ty := .int) dX5_runs_20 rfl rfl ?_
    refine ⟨_, _, rfl, rfl, ?_, _, rfl, hG⟩
    unfold r_runs
    try rw [nI_clamp (show N < 2 ^ 31 by omega)]
    try rw [nI_clamp (show j < 2 ^ 31 by omega)]
    exact (if_neg c4).symm
  · refine aw_iload_n (i := 2) dX5_runs_7 rfl rfl ?_
    refine aw_i2l dX5_runs_8 ?_
    refine aw_lconst (v := 0) dX5_runs_9 (by decide) ?_
    refine aw_ldc2 dX5_runs_10 lkX5_234 ?_
    refine ax_callS3i (M' := MX5_in) dX5_runs_13 lmX5_63 oX5_in (by decide +kernel) (Nat.le_of_ble_eq_true rfl) (e_in _ 0 3) ?_
    refine aw_bne (tgt := 21) dX5_runs_16 (by decide) (fun c16 => ?_) (fun c16 => ?_)
    · obtain ⟨N, hN, rfl⟩ := rng_of (n := 200) (by omega) c4
      refine aw_iconst (v := 0) dX5_runs_21 (by decide) ?_
      refine aw_istore_n (i := 3) (L' := [_, _, _, _, _, _]) dX5_runs_22 rfl (Nat.le_of_ble_eq_true rfl) rfl rfl ?_
      refine aw_aload_n (i := 0) dX5_runs_23 rfl rfl ?_
      refine ax_gV0v (M' := MX5_starts) (ci := 5) dX5_runs_24 lmX5_183 oX5_starts (by decide +kernel) (by assumption) rfl rfl (Nat.le_of_ble_eq_true rfl) (n_starts hB hG) (fun S_ h_ => ?_)
      obtain ⟨f24, rfl, T24, Q24⟩ := h_
      refine aw_iconst (v := 0) dX5_runs_27 (by decide) ?_
      refine aw_istore (i := 4) (L' := [_, _, _, _, _, _]) dX5_runs_28 (Nat.le_of_ble_eq_true rfl) rfl rfl ?_
      have e9 := loop (N + 1) 0 N none f24 (by omega) (by omega) hN c16 T24
      rw [show r_runs f n p (nI N) what = _ by unfold r_runs; rw [if_pos c4, if_pos c16, nI_clamp (by omega)]]
      rw [← ev6, ← ev7] at e9
      exact e9
    · refine aw_iconst (v := -1) dX5_runs_19 (by decide) ?_
      refine aw_ireturn (ty := .int) dX5_runs_20 rfl rfl ?_
      refine ⟨_, _, rfl, rfl, ?_, _, rfl, hG⟩
      unfold r_runs
      try rw [nI_clamp (show N < 2 ^ 31 by omega)]
      try rw [nI_clamp (show j < 2 ^ 31 by omega)]
      exact ((if_pos c4).trans (if_neg c16)).symm
