def r_luck (f : Nat → Nat → Int32) (n p : Nat) (v k x what : Int32) : Int64 := if (0 ≤ k ∧ k ≤ f 2 1 - 1) ∧ (0 ≤ v ∧ v ≤ 10) ∧ (0 ≤ x ∧ x ≤ 8) ∧ (0 ≤ what ∧ what ≤ 1) then lN (fracN (lkN f n p v.toNatClampNeg x.toNatClampNeg k.toNatClampNeg (2 ^ x.toNatClampNeg)) (10 ^ x.toNatClampNeg) what) else -1
def r_mean (f : Nat → Nat → Int32) (n p : Nat) (v x what : Int32) : Int64 := if (0 ≤ v ∧ v ≤ 10) ∧ (0 ≤ x ∧ x ≤ 8) ∧ (0 ≤ what ∧ what ≤ 1) then lN (fracN (meN f n p v.toNatClampNeg x.toNatClampNeg (2 ^ x.toNatClampNeg)) (10 ^ x.toNatClampNeg) what) else -1
def GTl (τ : Nat → Nat → Int64) (f : Nat → Nat → Int32) (v : Int64) : Int64 → fm → Prop := fun x S' => x = v ∧ ∃ f', S' = (f', τ) ∧ eqT f' f
theorem lN_0 : lN 0 = 0 := rfl
set_option maxRecDepth 100000 in
set_option maxHeartbeats 1000000 in
theorem g_luck {V : am_V} {d : Nat} {f : Nat → Nat → Int32} {τ : Nat → Nat → Int64} {n p : Nat} (hn4 : n ≤ 4) (hn : f 2 1 = nI n) (hp8 : p ≤ 8) (hp1 : f 2 5 = nI p) (v k x what : Int32) : AGl V MX4_luck (d + 6) [.ref 0, .int v, .int k, .int x, .int what] (f, τ) (GTl τ f (r_luck f n p v k x what)) := by
  have t0 := tb_0
  have tB := tb_B isB2
  have uB := tb_B isB14
  have uk := tb_Bk isB14
  have tk := tb_Bk isB2
  have hE : eqT f f := eqT.rf
  refine AM.of (L := [some (.ref 0), some (.int v), some (.int k), some (.int x), some (.int what), none, none, none, none, none]) (by decide +kernel) (Nat.le_of_ble_eq_true rfl) rfl ?_
  have loop : ∀ (u m v N j : Nat) (z8 : Option Value) (g : Nat → Nat → Int32), v ≤ 10 → N ≤ 8 → j < n → m + u = 2 ^ N → NQ f n p N g → AW V MX4_luck (d + 6) 0 0 44 [some (.ref 0), some (.int (nI v)), some (.int (nI j)), some (.int (nI N)), some (.int what), some (.long (lN (lkN f n p v N j m))), none, some (.int (nI m)), z8, none] [] (hp (g, τ)) (fun r' h' => ∃ (x : Int64) (S' : fm), r' = some (.long x) ∧ h' = hp S' ∧ GTl τ f (lN (fracN (lkN f n p v N j (2 ^ N)) (10 ^ N) what)) x S') := by
    intro u
    induction u with
    | zero =>
      intro m v N j z8 g hv hN hj hu hQ
      have hi : m = 2 ^ N := by omega
      subst hi
      obtain ⟨⟨K, t, ev, hT⟩, hQ2⟩ := hQ
      have hb := lkN_b (f := f) (n := n) (p := p) (j := j) hv hN (2 ^ N)
      have h2N := p2_8 hN
      have h10 := p10_8 hN
      have h10p : 0 < 10 ^ N := Nat.pow_pos (by omega)
      have hb2 : lkN f n p v N j (2 ^ N) < 2 ^ 62 := Nat.lt_of_le_of_lt hb (by omega)
      refine aw_iload dX4_luck_44 rfl ?_
      refine aw_iconst (v := 1) dX4_luck_46 (by decide) ?_
      refine aw_iload_n (i := 3) dX4_luck_47 rfl rfl ?_
      refine aw_ishl dX4_luck_48 ?_
      refine aw_tE (nI (2 ^ N)) (shl_1 hN) ?_
      refine aw_icmp_ge (tgt := 100) dX4_luck_49 (by decide) (fun c49 => ?_) (fun c49 => ?_)
      · refine aw_lload dX4_luck_100 rfl ?_
        refine aw_bipush (v := 10) dX4_luck_102 (by decide) ?_
        refine aw_iload_n (i := 3) dX4_luck_104 rfl rfl ?_
        refine ax_callS2l (M' := MX4_power) dX4_luck_105 lmX4_224 oX4_power (by decide +kernel) (Nat.le_of_ble_eq_true rfl) (f_X4_power (b := 10) (e9 := N) (by omega) hN) ?_
        refine aw_iload dX4_luck_108 rfl ?_
        refine ax_callS3l (M' := MX4_partOfFraction) dX4_luck_110 lmX4_228 oX4_partOfFraction (by decide +kernel) (Nat.le_of_ble_eq_true rfl) (f_X4_partOfFraction hb2 h10p (by omega) _) ?_
        refine aw_lreturn dX4_luck_113 rfl ?_
        exact ⟨_, _, rfl, rfl, rfl, _, rfl, hT.1⟩
      · exact absurd (Int32.le_refl _) c49
    | succ u ih =>
      intro m v N j z8 g hv hN hj hu hQ
      have h2N := p2_8 hN
      have hm : m < 2 ^ N := by omega
      have tK := tb_K isB14 (k := j) (by omega)
      refine aw_iload dX4_luck_44 rfl ?_
      refine aw_iconst (v := 1) dX4_luck_46 (by decide) ?_
      refine aw_iload_n (i := 3) dX4_luck_47 rfl rfl ?_
      refine aw_ishl dX4_luck_48 ?_
      refine aw_tE (nI (2 ^ N)) (shl_1 hN) ?_
      refine aw_icmp_ge (tgt := 100) dX4_luck_49 (by decide) (fun c49 => ?_) (fun c49 => ?_)
      · exact absurd ((nI_leI (a := 2 ^ N) (b := m) (by omega) (by omega)).mp c49) (by omega)
      · refine aw_iload dX4_luck_52 rfl ?_
        refine aw_iload_n (i := 1) dX4_luck_54 rfl rfl ?_
        refine aw_iload_n (i := 3) dX4_luck_55 rfl rfl ?_
        refine ax_callS3l (M' := MX4_weightOf) dX4_luck_56 lmX4_216 oX4_weightOf (by decide +kernel) (Nat.le_of_ble_eq_true rfl) (f_X4_weightOf hv hN hm) ?_
        refine aw_lstore (i := 8) (L' := [_, _, _, _, _, _, _, _, _, _]) dX4_luck_59 (Nat.le_of_ble_eq_true rfl) rfl rfl ?_
        refine aw_lload dX4_luck_61 rfl ?_
        refine aw_lconst (v := 0) dX4_luck_63 (by decide) ?_
        refine aw_lcmp dX4_luck_64 ?_
        refine aw_if_le (tgt := 94) dX4_luck_65 (by decide) (fun c65 => ?_) (fun c65 => ?_)
        · have hw0 : wN v m N = 0 := by have := (pk_lLE (a := wN v m N) (b := 0) (by have := wN_b (m := m) hv hN; omega) (by omega)).mp ((lg_cmp_le _ _).mp c65); omega
          refine aw_incN (L' := [_, _, _, _, _, _, _, _, _, _]) dX4_luck_94 rfl (Nat.le_of_ble_eq_true rfl) rfl rfl ?_
          refine aw_goto (tgt := 44) dX4_luck_97 (by decide) ?_
          have e9 := ih (m + 1) v N j (some (.long (lN (wN v m N)))) g hv hN hj (by omega) hQ
          rw [show lkN f n p v N j (m + 1) = lkN f n p v N j m by rw [lkN, hw0]; split <;> rfl] at e9
          exact e9
        · refine aw_aload_n (i := 0) dX4_luck_68 rfl rfl ?_
          refine aw_iload dX4_luck_69 rfl ?_
          refine aw_iload_n (i := 3) dX4_luck_71 rfl rfl ?_
          refine ax_gV2r (M' := MX4_runNoisily) (ci := 4) dX4_luck_72 lmX4_220 oX4_runNoisily (by decide +kernel) (by assumption) rfl rfl (Nat.le_of_ble_eq_true rfl) (g_runNoisily hn4 hn hp8 hp1 hN hm hQ) (fun r_ S_ h_ => ?_)
          obtain ⟨rfl, f72, rfl, T72, Q72⟩ := h_
          refine ax_getr (ci := 0) 0 dX4_luck_75 rfl lfX4_105 (by decide) (by assumption) (by rfl) ?_
          refine aw_iload_n (i := 2) dX4_luck_78 rfl rfl ?_
          refine ax_keyN dX4_luck_79 (by assumption) (by omega) ?_
          refine ax_geti (ci := 1) 3 dX4_luck_80 rfl lfX4_114 (by decide) (by assumption) (by rfl) ?_
          refine aw_tE _ (T72.k hj (by decide)) ?_
          refine aw_iconst (v := 1) dX4_luck_83 (by decide) ?_
          refine aw_icmp_ne (tgt := 94) dX4_luck_84 (by decide) (fun c84 => ?_) (fun c84 => ?_)
          · refine aw_incN (L' := [_, _, _, _, _, _, _, _, _, _]) dX4_luck_94 rfl (Nat.le_of_ble_eq_true rfl) rfl rfl ?_
            refine aw_goto (tgt := 44) dX4_luck_97 (by decide) ?_
            first | exact ih (m + 1) v N j _ f72 hv hN hj (by omega) Q72 | (have e9 := ih (m + 1) v N j (some (.long (lN (wN v m N)))) f72 hv hN hj (by omega) Q72; rw [show lkN f n p v N j (m + 1) = lkN f n p v N j m by rw [lkN, if_neg c84]; rfl] at e9; exact e9)
          · refine aw_lload dX4_luck_87 rfl ?_
            refine aw_lload dX4_luck_89 rfl ?_
            refine aw_ladd dX4_luck_91 ?_
            refine aw_tEl (lN (lkN f n p v N j (m + 1))) (by rw [lN_add, lkN, if_pos c84]) ?_
            refine aw_lstore (i := 5) (L' := [_, _, _, _, _, _, _, _, _, _]) dX4_luck_92 (Nat.le_of_ble_eq_true rfl) rfl rfl ?_
            refine aw_incN (L' := [_, _, _, _, _, _, _, _, _, _]) dX4_luck_94 rfl (Nat.le_of_ble_eq_true rfl) rfl rfl ?_
            refine aw_goto (tgt := 44) dX4_luck_97 (by decide) ?_
            first | exact ih (m + 1) v N j _ f72 hv hN hj (by omega) Q72 | (have e9 := ih (m + 1) v N j (some (.long (lN (wN v m N)))) f72 hv hN hj (by omega) Q72; rw [show lkN f n p v N j (m + 1) = lkN f n p v N j m by rw [lkN, if_neg c84]; rfl] at e9; exact e9)
  refine aw_aload_n (i := 0) dX4_luck_0 rfl rfl ?_
  refine ax_getr (ci := 4) 2 dX4_luck_1 rfl lfX4_16 (by decide) (by assumption) (by rfl) ?_
  refine aw_iload_n (i := 2) dX4_luck_4 rfl rfl ?_
  refine ax_callV1i (M' := MX0_hasKey) (ci := 0) dX4_luck_5 lmX4_101 oX0_hasKey (by decide +kernel) (by assumption) rfl rfl (Nat.le_of_ble_eq_true rfl) (f_X0_hasKey isB2 _) ?_
  refine aw_beq (tgt := 29) dX4_luck_8 (by decide) (fun c8 => ?_) (fun c8 => ?_)
  · refine aw_ldc2 dX4_luck_29 lkX4_211 ?_
    refine aw_lreturn dX4_luck_32 rfl ?_
    first | exact ⟨_, _, rfl, rfl, (if_neg (fun z => c8 z.1)).symm, _, rfl, hE⟩ | exact ⟨_, _, rfl, rfl, (if_neg (fun z => c16 ⟨z.2.1, z.2.2.1⟩)).symm, _, rfl, hE⟩ | exact ⟨_, _, rfl, rfl, (if_neg (fun z => c26 z.2.2.2)).symm, _, rfl, hE⟩
  · refine aw_iload_n (i := 1) dX4_luck_11 rfl rfl ?_
    refine aw_iload_n (i := 3) dX4_luck_12 rfl rfl ?_
    refine ax_callS2i (M' := MX4_isNoise) dX4_luck_13 lmX4_208 oX4_isNoise (by decide +kernel) (Nat.le_of_ble_eq_true rfl) (f_X4_isNoise _ _) ?_
    refine aw_beq (tgt := 29) dX4_luck_16 (by decide) (fun c16 => ?_) (fun c16 => ?_)
    · refine aw_ldc2 dX4_luck_29 lkX4_211 ?_
      refine aw_lreturn dX4_luck_32 rfl ?_
      first | exact ⟨_, _, rfl, rfl, (if_neg (fun z => c8 z.1)).symm, _, rfl, hE⟩ | exact ⟨_, _, rfl, rfl, (if_neg (fun z => c16 ⟨z.2.1, z.2.2.1⟩)).symm, _, rfl, hE⟩ | exact ⟨_, _, rfl, rfl, (if_neg (fun z => c26 z.2.2.2)).symm, _, rfl, hE⟩
    · refine aw_iload dX4_luck_19 rfl ?_
      refine aw_iconst (v := 0) dX4_luck_21 (by decide) ?_
      refine aw_iconst (v := 1) dX4_luck_22 (by decide) ?_
      refine ax_callS3i (M' := MX4_within) dX4_luck_23 lmX4_54 oX4_within (by decide +kernel) (Nat.le_of_ble_eq_true rfl) (f_X4_within _ _ _) ?_
      refine aw_bne (tgt := 33) dX4_luck_26 (by decide) (fun c26 => ?_) (fun c26 => ?_)
      · obtain ⟨j, hj, rfl⟩ := key_of hn4 (show 0 ≤ k ∧ k ≤ nI n - 1 by rw [← hn]; exact c8)
        obtain ⟨u, hu, rfl⟩ := rng_of (n := 10) (by omega) c16.1
        obtain ⟨N, hN, rfl⟩ := rng_of (n := 8) (by omega) c16.2
        refine aw_lconst (v := 0) dX4_luck_33 (by decide) ?_
        refine aw_lstore (i := 5) (L' := [_, _, _, _, _, _, _, _, _, _]) dX4_luck_34 (Nat.le_of_ble_eq_true rfl) rfl rfl ?_
        refine aw_aload_n (i := 0) dX4_luck_36 rfl rfl ?_
        refine aw_iload_n (i := 3) dX4_luck_37 rfl rfl ?_
        refine ax_gV1v (M' := MX4_listenQuietly) (ci := 4) dX4_luck_38 lmX4_213 oX4_listenQuietly (by decide +kernel) (by assumption) rfl rfl (Nat.le_of_ble_eq_true rfl) (g_listenQuietly hn4 hn hp8 hp1 hN) (fun S_ h_ => ?_)
        obtain ⟨f38, rfl, Q38⟩ := h_
        refine aw_iconst (v := 0) dX4_luck_41 (by decide) ?_
        refine aw_istore (i := 7) (L' := [_, _, _, _, _, _, _, _, _, _]) dX4_luck_42 (Nat.le_of_ble_eq_true rfl) rfl rfl ?_
        have e9 := loop (2 ^ N) 0 u N j none f38 hu hN hj (by omega) Q38
        rw [show r_luck f n p (nI u) (nI j) (nI N) what = _ by unfold r_luck; rw [if_pos ⟨c8, c16.1, c16.2, c26⟩, nI_clamp (by omega), nI_clamp (by omega), nI_clamp (by omega)]]
        exact e9
      · refine aw_ldc2 dX4_luck_29 lkX4_211 ?_
        refine aw_lreturn dX4_luck_32 rfl ?_
        first | exact ⟨_, _, rfl, rfl, (if_neg (fun z => c8 z.1)).symm, _, rfl, hE⟩ | exact ⟨_, _, rfl, rfl, (if_neg (fun z => c16 ⟨z.2.1, z.2.2.1⟩)).symm, _, rfl, hE⟩ | exact ⟨_, _, rfl, rfl, (if_neg (fun z => c26 z.2.2.2)).symm, _, rfl, hE⟩
set_option maxRecDepth 100000 in
set_option maxHeartbeats 1000000 in
theorem g_mean {V : am_V} {d : Nat} {f : Nat → Nat → Int32} {τ : Nat → Nat → Int64} {n p : Nat} (hn4 : n ≤ 4) (hn : f 2 1 = nI n) (hp8 : p ≤ 8) (hp1 : f 2 5 = nI p) (v x what : Int32) : AGl V MX4_mean (d + 6) [.ref 0, .int v, .int x, .int what] (f, τ) (GTl τ f (r_mean f n p v x what)) := by
  have t0 := tb_0
  have tB := tb_B isB2
  have uB := tb_B isB14
  have uk := tb_Bk isB14
  have tk := tb_Bk isB2
  have hE : eqT f f := eqT.rf
  refine AM.of (L := [some (.ref 0), some (.int v), some (.int x), some (.int what), none, none, none, none, none]) (by decide +kernel) (Nat.le_of_ble_eq_true rfl) rfl ?_
  have loop : ∀ (u m v N : Nat) (z8 : Option Value) (g : Nat → Nat → Int32), v ≤ 10 → N ≤ 8 → m + u = 2 ^ N → NQ f n p N g → AW V MX4_mean (d + 6) 0 0 32 [some (.ref 0), some (.int (nI v)), some (.int (nI N)), some (.int what), some (.long (lN (meN f n p v N m))), none, some (.int (nI m)), z8, none] [] (hp (g, τ)) (fun r' h' => ∃ (x : Int64) (S' : fm), r' = some (.long x) ∧ h' = hp S' ∧ GTl τ f (lN (fracN (meN f n p v N (2 ^ N)) (10 ^ N) what)) x S') := by
    intro u
    induction u with
    | zero =>
      intro m v N z8 g hv hN hu hQ
      have hi : m = 2 ^ N := by omega
      subst hi
      obtain ⟨⟨K, t, ev, hT⟩, hQ2⟩ := hQ
      have hb := meN_b (f := f) (n := n) (p := p) hn4 hv hN (2 ^ N)
      have h2N := p2_8 hN
      have h10 := p10_8 hN
      have h10p : 0 < 10 ^ N := Nat.pow_pos (by omega)
      have hb2 : meN f n p v N (2 ^ N) < 2 ^ 62 := Nat.lt_of_le_of_lt hb (by omega)
      refine aw_iload dX4_mean_32 rfl ?_
      refine aw_iconst (v := 1) dX4_mean_34 (by decide) ?_
      refine aw_iload_n (i := 2) dX4_mean_35 rfl rfl ?_
      refine aw_ishl dX4_mean_36 ?_
      refine aw_tE (nI (2 ^ N)) (shl_1 hN) ?_
      refine aw_icmp_ge (tgt := 81) dX4_mean_37 (by decide) (fun c37 => ?_) (fun c37 => ?_)
      · refine aw_lload dX4_mean_81 rfl ?_
        refine aw_bipush (v := 10) dX4_mean_83 (by decide) ?_
        refine aw_iload_n (i := 2) dX4_mean_85 rfl rfl ?_
        refine ax_callS2l (M' := MX4_power) dX4_mean_86 lmX4_224 oX4_power (by decide +kernel) (Nat.le_of_ble_eq_true rfl) (f_X4_power (b := 10) (e9 := N) (by omega) hN) ?_
        refine aw_iload_n (i := 3) dX4_mean_89 rfl rfl ?_
        refine ax_callS3l (M' := MX4_partOfFraction) dX4_mean_90 lmX4_228 oX4_partOfFraction (by decide +kernel) (Nat.le_of_ble_eq_true rfl) (f_X4_partOfFraction hb2 h10p (by omega) _) ?_
        refine aw_lreturn dX4_mean_93 rfl ?_
        exact ⟨_, _, rfl, rfl, rfl, _, rfl, hT.1⟩
      · exact absurd (Int32.le_refl _) c37
    | succ u ih =>
      intro m v N z8 g hv hN hu hQ
      have h2N := p2_8 hN
      have hm : m < 2 ^ N := by omega
      obtain ⟨hst, est⟩ := stN_b (f := f) (n := n) (p := p) (m := m) hn4 hN
      refine aw_iload dX4_mean_32 rfl ?_
      refine aw_iconst (v := 1) dX4_mean_34 (by decide) ?_
      refine aw_iload_n (i := 2) dX4_mean_35 rfl rfl ?_
      refine aw_ishl dX4_mean_36 ?_
      refine aw_tE (nI (2 ^ N)) (shl_1 hN) ?_
      refine aw_icmp_ge (tgt := 81) dX4_mean_37 (by decide) (fun c37 => ?_) (fun c37 => ?_)
      · exact absurd ((nI_leI (a := 2 ^ N) (b := m) (by omega) (by omega)).mp c37) (by omega)
      · refine aw_iload dX4_mean_40 rfl ?_
        refine aw_iload_n (i := 1) dX4_mean_42 rfl rfl ?_
        refine aw_iload_n (i := 2) dX4_mean_43 rfl rfl ?_
        refine ax_callS3l (M' := MX4_weightOf) dX4_mean_44 lmX4_216 oX4_weightOf (by decide +kernel) (Nat.le_of_ble_eq_true rfl) (f_X4_weightOf hv hN hm) ?_
        refine aw_lstore (i := 7) (L' := [_, _, _, _, _, _, _, _, _]) dX4_mean_47 (Nat.le_of_ble_eq_true rfl) rfl rfl ?_
        refine aw_lload dX4_mean_49 rfl ?_
        refine aw_lconst (v := 0) dX4_mean_51 (by decide) ?_
        refine aw_lcmp dX4_mean_52 ?_
        refine aw_if_le (tgt := 75) dX4_mean_53 (by decide) (fun c53 => ?_) (fun c53 => ?_)
        · have hw0 : wN v m N = 0 := by have := (pk_lLE (a := wN v m N) (b := 0) (by have := wN_b (m := m) hv hN; omega) (by omega)).mp ((lg_cmp_le _ _).mp c53); omega
          refine aw_incN (L' := [_, _, _, _, _, _, _, _, _]) dX4_mean_75 rfl (Nat.le_of_ble_eq_true rfl) rfl rfl ?_
          refine aw_goto (tgt := 32) dX4_mean_78 (by decide) ?_
          have e9 := ih (m + 1) v N (some (.long (lN (wN v m N)))) g hv hN (by omega) hQ
          rw [show meN f n p v N (m + 1) = meN f n p v N m by rw [meN, hw0, Nat.zero_mul]; rfl] at e9
          exact e9
        · refine aw_lload dX4_mean_56 rfl ?_
          refine aw_lload dX4_mean_58 rfl ?_
          refine aw_aload_n (i := 0) dX4_mean_60 rfl rfl ?_
          refine aw_iload dX4_mean_61 rfl ?_
          refine aw_iload_n (i := 2) dX4_mean_63 rfl rfl ?_
          refine ax_gV2r (M' := MX4_runNoisily) (ci := 4) dX4_mean_64 lmX4_220 oX4_runNoisily (by decide +kernel) (by assumption) rfl rfl (Nat.le_of_ble_eq_true rfl) (g_runNoisily hn4 hn hp8 hp1 hN hm hQ) (fun r_ S_ h_ => ?_)
          obtain ⟨rfl, f64, rfl, T64, Q64⟩ := h_
          refine ax_callV0i (M' := MX0_struckInRun) (ci := 0) dX4_mean_67 lmX4_162 oX0_struckInRun (by decide +kernel) (by assumption) rfl rfl (Nat.le_of_ble_eq_true rfl) (e_X0_struckInRun hn4 T64) ?_
          refine aw_tE (nI (stN f n p N m)) est ?_
          refine aw_i2l dX4_mean_70 ?_
          refine aw_lmul dX4_mean_71 ?_
          refine aw_ladd dX4_mean_72 ?_
          refine aw_tEl (lN (meN f n p v N (m + 1))) (by rw [nI_l (by omega), lN_mul, lN_add, meN]) ?_
          refine aw_lstore (i := 4) (L' := [_, _, _, _, _, _, _, _, _]) dX4_mean_73 (Nat.le_of_ble_eq_true rfl) rfl rfl ?_
          refine aw_incN (L' := [_, _, _, _, _, _, _, _, _]) dX4_mean_75 rfl (Nat.le_of_ble_eq_true rfl) rfl rfl ?_
          refine aw_goto (tgt := 32) dX4_mean_78 (by decide) ?_
          exact ih (m + 1) v N _ f64 hv hN (by omega) Q64
  refine aw_iload_n (i := 1) dX4_mean_0 rfl rfl ?_
  refine aw_iload_n (i := 2) dX4_mean_1 rfl rfl ?_
  refine ax_callS2i (M' := MX4_isNoise) dX4_mean_2 lmX4_208 oX4_isNoise (by decide +kernel) (Nat.le_of_ble_eq_true rfl) (f_X4_isNoise _ _) ?_
  refine aw_beq (tgt := 17) dX4_mean_5 (by decide) (fun c5 => ?_) (fun c5 => ?_)
  · refine aw_ldc2 dX4_mean_17 lkX4_211 ?_
    refine aw_lreturn dX4_mean_20 rfl ?_
    first | exact ⟨_, _, rfl, rfl, (if_neg (fun z => c5 ⟨z.1, z.2.1⟩)).symm, _, rfl, hE⟩ | exact ⟨_, _, rfl, rfl, (if_neg (fun z => c14 z.2.2)).symm, _, rfl, hE⟩
  · refine aw_iload_n (i := 3) dX4_mean_8 rfl rfl ?_
    refine aw_iconst (v := 0) dX4_mean_9 (by decide) ?_
    refine aw_iconst (v := 1) dX4_mean_10 (by decide) ?_
    refine ax_callS3i (M' := MX4_within) dX4_mean_11 lmX4_54 oX4_within (by decide +kernel) (Nat.le_of_ble_eq_true rfl) (f_X4_within _ _ _) ?_
    refine aw_bne (tgt := 21) dX4_mean_14 (by decide) (fun c14 => ?_) (fun c14 => ?_)
    · obtain ⟨u, hu, rfl⟩ := rng_of (n := 10) (by omega) c5.1
      obtain ⟨N, hN, rfl⟩ := rng_of (n := 8) (by omega) c5.2
      refine aw_lconst (v := 0) dX4_mean_21 (by decide) ?_
      refine aw_lstore (i := 4) (L' := [_, _, _, _, _, _, _, _, _]) dX4_mean_22 (Nat.le_of_ble_eq_true rfl) rfl rfl ?_
      refine aw_aload_n (i := 0) dX4_mean_24 rfl rfl ?_
      refine aw_iload_n (i := 2) dX4_mean_25 rfl rfl ?_
      refine ax_gV1v (M' := MX4_listenQuietly) (ci := 4) dX4_mean_26 lmX4_213 oX4_listenQuietly (by decide +kernel) (by assumption) rfl rfl (Nat.le_of_ble_eq_true rfl) (g_listenQuietly hn4 hn hp8 hp1 hN) (fun S_ h_ => ?_)
      obtain ⟨f38, rfl, Q38⟩ := h_
      refine aw_iconst (v := 0) dX4_mean_29 (by decide) ?_
      refine aw_istore (i := 6) (L' := [_, _, _, _, _, _, _, _, _]) dX4_mean_30 (Nat.le_of_ble_eq_true rfl) rfl rfl ?_
      have e9 := loop (2 ^ N) 0 u N none f38 hu hN (by omega) Q38
      rw [show r_mean f n p (nI u) (nI N) what = _ by unfold r_mean; rw [if_pos ⟨c5.1, c5.2, c14⟩, nI_clamp (by omega), nI_clamp (by omega)]]
      exact e9
    · refine aw_ldc2 dX4_mean_17 lkX4_211 ?_
      refine aw_lreturn dX4_mean_20 rfl ?_
      first | exact ⟨_, _, rfl, rfl, (if_neg (fun z => c5 ⟨z.1, z.2.1⟩)).symm, _, rfl, hE⟩ | exact ⟨_, _, rfl, rfl, (if_neg (fun z => c14 z.2.2)).symm, _, rfl, hE⟩
