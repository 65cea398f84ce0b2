def wN (v : Nat) (m : Nat) : Nat → Nat
  | 0 => 1
  | i + 1 => wN v m i * (if m / 2 ^ i % 2 = 1 then v else 10 - v)
set_option maxRecDepth 100000 in
theorem w_tab : ∀ v, v < 11 → ∀ N, N < 9 → ∀ m, m < 2 ^ N → pcN m ≤ N ∧ v ^ pcN m * (10 - v) ^ (N - pcN m) = wN v m N := by decide +kernel
theorem wN_le (v m : Nat) (hv : v ≤ 10) : ∀ i, wN v m i ≤ 10 ^ i := by
  intro i
  induction i with
  | zero => exact Nat.le_refl 1
  | succ i ih =>
    rw [wN, Nat.pow_succ]
    refine Nat.mul_le_mul ih ?_
    split <;> omega
theorem p10_8 {N : Nat} (h : N ≤ 8) : 10 ^ N ≤ 100000000 := by
  rcases (show N = 0 ∨ N = 1 ∨ N = 2 ∨ N = 3 ∨ N = 4 ∨ N = 5 ∨ N = 6 ∨ N = 7 ∨ N = 8 by omega) with rfl | rfl | rfl | rfl | rfl | rfl | rfl | rfl | rfl <;> decide
theorem mod_half {x y : Nat} (h0 : 0 < y) (h : y ≤ x) : 2 * (y * (x % y)) ≤ x * y := by
  have h1 := Nat.mod_lt x h0
  have h2 := Nat.div_add_mod x y
  have h3 : 1 ≤ x / y := Nat.div_pos h h0
  have h4 : y * 1 ≤ y * (x / y) := Nat.mul_le_mul_left y h3
  have h5 : 2 * (x % y) ≤ x := by omega
  have h6 := Nat.mul_le_mul_left y h5
  rw [Nat.mul_comm x y, show 2 * (y * (x % y)) = y * (2 * (x % y)) by rw [Nat.mul_left_comm]]
  exact h6
set_option maxRecDepth 100000 in
set_option maxHeartbeats 1000000 in
theorem f_X4_power {V : am_V} {d : Nat} {S : fm} {b e9 : Nat} (hb : b ≤ 10) (he : e9 ≤ 8) : AF V MX4_power d [.int (nI b), .int (nI e9)] S (some (.long (lN (b ^ e9)))) S := by
  refine AM.of (L := [some (.int (nI b)), some (.int (nI e9)), none, none, none]) (by decide +kernel) (Nat.le_of_ble_eq_true rfl) rfl ?_
  have loop : ∀ (m i : Nat), i + m = e9 → AW V MX4_power d 0 0 5 [some (.int (nI b)), some (.int (nI e9)), some (.long (lN (b ^ i))), none, some (.int (nI i))] [] (hp S) (fun r' h' => r' = some (.long (lN (b ^ e9))) ∧ h' = hp S) := by
    intro m
    induction m with
    | zero =>
      intro i hm
      have hi : i = e9 := by omega
      subst hi
      refine aw_iload dX4_power_5 rfl ?_
      refine aw_iload_n (i := 1) dX4_power_7 rfl rfl ?_
      refine aw_icmp_ge (tgt := 22) dX4_power_8 (by decide) (fun c8 => ?_) (fun c8 => ?_)
      · refine aw_lload_n (i := 2) dX4_power_22 rfl rfl ?_
        refine aw_lreturn dX4_power_23 rfl ?_
        exact ⟨rfl, rfl⟩
      · exact absurd (Int32.le_refl _) c8
    | succ m ih =>
      intro i hm
      refine aw_iload dX4_power_5 rfl ?_
      refine aw_iload_n (i := 1) dX4_power_7 rfl rfl ?_
      refine aw_icmp_ge (tgt := 22) dX4_power_8 (by decide) (fun c8 => ?_) (fun c8 => ?_)
      · exact absurd ((nI_leI (a := e9) (b := i) (by omega) (by omega)).mp c8) (by omega)
      · refine aw_lload_n (i := 2) dX4_power_11 rfl rfl ?_
        refine aw_iload_n (i := 0) dX4_power_12 rfl rfl ?_
        refine aw_i2l dX4_power_13 ?_
        refine aw_lmul dX4_power_14 ?_
        refine aw_tEl (lN (b ^ (i + 1))) (by rw [nI_l (by omega), lN_mul, Nat.pow_succ]) ?_
        refine aw_lstore_n (i := 2) (L' := [_, _, _, _, _]) dX4_power_15 rfl (Nat.le_of_ble_eq_true rfl) rfl rfl ?_
        refine aw_incN (L' := [_, _, _, _, _]) dX4_power_16 rfl (Nat.le_of_ble_eq_true rfl) rfl rfl ?_
        refine aw_goto (tgt := 5) dX4_power_19 (by decide) ?_
        exact ih (i + 1) (by omega)
  refine aw_lconst (v := 1) dX4_power_0 (by decide) ?_
  refine aw_tEl (lN (b ^ 0)) rfl ?_
  refine aw_lstore_n (i := 2) (L' := [_, _, _, _, _]) dX4_power_1 rfl (Nat.le_of_ble_eq_true rfl) rfl rfl ?_
  refine aw_iconst (v := 0) dX4_power_2 (by decide) ?_
  refine aw_istore (i := 4) (L' := [_, _, _, _, _]) dX4_power_3 (Nat.le_of_ble_eq_true rfl) rfl rfl ?_
  exact loop e9 0 (by omega)
set_option maxRecDepth 100000 in
set_option maxHeartbeats 1000000 in
theorem f_X4_commonDivisor {V : am_V} {d : Nat} {S : fm} {a b : Nat} (ha : a < 2 ^ 62) (hb : 0 < b) (hb2 : b < 2 ^ 40) : AF V MX4_commonDivisor d [.long (lN a), .long (lN b)] S (some (.long (lN (Nat.gcd a b)))) S := by
  refine AM.of (L := [some (.long (lN a)), none, some (.long (lN b)), none, none, none, none, none, none, none, none]) (by decide +kernel) (Nat.le_of_ble_eq_true rfl) rfl ?_
  have loop : ∀ (m i x y : Nat) (z9 : Option Value), i + m = 100 → y ≤ x → x < 2 ^ 62 → x * y < 2 ^ m → Nat.gcd x y = Nat.gcd a b → AW V MX4_commonDivisor d 0 0 9 [some (.long (lN a)), none, some (.long (lN b)), none, some (.long (lN x)), none, some (.long (lN y)), none, some (.int (nI i)), z9, none] [] (hp S) (fun r' h' => r' = some (.long (lN (Nat.gcd a b))) ∧ h' = hp S) := by
    intro m
    induction m with
    | zero =>
      intro i x y z9 hm hyx hx hxy hg
      have hi : i = 100 := by omega
      subst hi
      have hy : y = 0 := by
        rcases Nat.eq_zero_or_pos y with q | q
        · exact q
        · have := Nat.mul_pos (show 0 < x by omega) q
          omega
      subst hy
      rw [Nat.gcd_zero_right] at hg
      rw [← hg]
      refine aw_iload dX4_commonDivisor_9 rfl ?_
      refine aw_bipush (v := 100) dX4_commonDivisor_11 (by decide) ?_
      refine aw_icmp_ge (tgt := 44) dX4_commonDivisor_13 (by decide) (fun c13 => ?_) (fun c13 => ?_)
      · refine aw_lload dX4_commonDivisor_44 rfl ?_
        refine aw_lreturn dX4_commonDivisor_46 rfl ?_
        exact ⟨rfl, rfl⟩
      · exact absurd (by decide) c13
    | succ m ih =>
      intro i x y z9 hm hyx hx hxy hg
      refine aw_iload dX4_commonDivisor_9 rfl ?_
      refine aw_bipush (v := 100) dX4_commonDivisor_11 (by decide) ?_
      refine aw_tE (nI 100) rfl ?_
      refine aw_icmp_ge (tgt := 44) dX4_commonDivisor_13 (by decide) (fun c13 => ?_) (fun c13 => ?_)
      · exact absurd ((nI_leI (a := 100) (b := i) (by omega) (by omega)).mp c13) (by omega)
      · refine aw_lload dX4_commonDivisor_16 rfl ?_
        refine aw_lconst (v := 0) dX4_commonDivisor_18 (by decide) ?_
        refine aw_lcmp dX4_commonDivisor_19 ?_
        refine aw_if_eq (tgt := 44) dX4_commonDivisor_20 (by decide) (fun c20 => ?_) (fun c20 => ?_)
        · have hy : y = 0 := (pk_lEQ (a := y) (b := 0) (by omega) (by omega)).mp ((lg_cmp_eq _ _).mp c20)
          subst hy
          rw [Nat.gcd_zero_right] at hg
          rw [← hg]
          refine aw_lload dX4_commonDivisor_44 rfl ?_
          refine aw_lreturn dX4_commonDivisor_46 rfl ?_
          exact ⟨rfl, rfl⟩
        · have hy0 : ¬ lN y = 0 := fun z => c20 ((lg_cmp_eq _ _).mpr z)
          have hyp : 0 < y := by
            rcases Nat.eq_zero_or_pos y with q | q
            · exact absurd (by rw [q]; rfl) hy0
            · exact q
          refine aw_lload dX4_commonDivisor_23 rfl ?_
          refine aw_lload dX4_commonDivisor_25 rfl ?_
          refine aw_lrem dX4_commonDivisor_27 hy0 ?_
          refine aw_tEl (lN (x % y)) (pk_lRem (by omega) hyp (by omega)) ?_
          refine aw_lstore (i := 9) (L' := [_, _, _, _, _, _, _, _, _, _, _]) dX4_commonDivisor_28 (Nat.le_of_ble_eq_true rfl) rfl rfl ?_
          refine aw_lload dX4_commonDivisor_30 rfl ?_
          refine aw_lstore (i := 4) (L' := [_, _, _, _, _, _, _, _, _, _, _]) dX4_commonDivisor_32 (Nat.le_of_ble_eq_true rfl) rfl rfl ?_
          refine aw_lload dX4_commonDivisor_34 rfl ?_
          refine aw_lstore (i := 6) (L' := [_, _, _, _, _, _, _, _, _, _, _]) dX4_commonDivisor_36 (Nat.le_of_ble_eq_true rfl) rfl rfl ?_
          refine aw_incN (L' := [_, _, _, _, _, _, _, _, _, _, _]) dX4_commonDivisor_38 rfl (Nat.le_of_ble_eq_true rfl) rfl rfl ?_
          refine aw_goto (tgt := 9) dX4_commonDivisor_41 (by decide) ?_
          refine ih (i + 1) y (x % y) _ (by omega) (Nat.le_of_lt (Nat.mod_lt x hyp)) (by omega) ?_ ?_
          · have := mod_half hyp hyx
            rw [Nat.pow_succ] at hxy
            omega
          · rw [← hg, Nat.gcd_comm x y, Nat.gcd_rec y x]
            exact Nat.gcd_comm _ _
  refine aw_lload_n (i := 0) dX4_commonDivisor_0 rfl rfl ?_
  refine aw_lstore (i := 4) (L' := [_, _, _, _, _, _, _, _, _, _, _]) dX4_commonDivisor_1 (Nat.le_of_ble_eq_true rfl) rfl rfl ?_
  refine aw_lload_n (i := 2) dX4_commonDivisor_3 rfl rfl ?_
  refine aw_lstore (i := 6) (L' := [_, _, _, _, _, _, _, _, _, _, _]) dX4_commonDivisor_4 (Nat.le_of_ble_eq_true rfl) rfl rfl ?_
  refine aw_iconst (v := 0) dX4_commonDivisor_6 (by decide) ?_
  refine aw_istore (i := 8) (L' := [_, _, _, _, _, _, _, _, _, _, _]) dX4_commonDivisor_7 (Nat.le_of_ble_eq_true rfl) rfl rfl ?_
  have hb0 : ¬ lN b = 0 := fun z => absurd ((pk_lEQ (a := b) (b := 0) (by omega) (by omega)).mp z) (by omega)
  refine aw_iload dX4_commonDivisor_9 rfl ?_
  refine aw_bipush (v := 100) dX4_commonDivisor_11 (by decide) ?_
  refine aw_icmp_ge (tgt := 44) dX4_commonDivisor_13 (by decide) (fun c13 => ?_) (fun c13 => ?_)
  · exact absurd c13 (by decide)
  · refine aw_lload dX4_commonDivisor_16 rfl ?_
    refine aw_lconst (v := 0) dX4_commonDivisor_18 (by decide) ?_
    refine aw_lcmp dX4_commonDivisor_19 ?_
    refine aw_if_eq (tgt := 44) dX4_commonDivisor_20 (by decide) (fun c20 => ?_) (fun c20 => ?_)
    · exact absurd ((lg_cmp_eq _ _).mp c20) hb0
    · refine aw_lload dX4_commonDivisor_23 rfl ?_
      refine aw_lload dX4_commonDivisor_25 rfl ?_
      refine aw_lrem dX4_commonDivisor_27 hb0 ?_
      refine aw_tEl (lN (a % b)) (pk_lRem (by omega) hb (by omega)) ?_
      refine aw_lstore (i := 9) (L' := [_, _, _, _, _, _, _, _, _, _, _]) dX4_commonDivisor_28 (Nat.le_of_ble_eq_true rfl) rfl rfl ?_
      refine aw_lload dX4_commonDivisor_30 rfl ?_
      refine aw_lstore (i := 4) (L' := [_, _, _, _, _, _, _, _, _, _, _]) dX4_commonDivisor_32 (Nat.le_of_ble_eq_true rfl) rfl rfl ?_
      refine aw_lload dX4_commonDivisor_34 rfl ?_
      refine aw_lstore (i := 6) (L' := [_, _, _, _, _, _, _, _, _, _, _]) dX4_commonDivisor_36 (Nat.le_of_ble_eq_true rfl) rfl rfl ?_
      refine aw_iinc (v := nI 1) (L' := [_, _, _, _, _, _, _, _, _, _, _]) dX4_commonDivisor_38 rfl rfl (Nat.le_of_ble_eq_true rfl) rfl rfl ?_
      refine aw_goto (tgt := 9) dX4_commonDivisor_41 (by decide) ?_
      refine loop 99 1 b (a % b) _ rfl (Nat.le_of_lt (Nat.mod_lt a hb)) (by omega) ?_ ?_
      · have h1 := Nat.mod_lt a hb
        have h2 : b * (a % b) ≤ 2 ^ 40 * 2 ^ 40 := Nat.mul_le_mul (by omega) (by omega)
        exact Nat.lt_of_le_of_lt h2 (by decide)
      · rw [Nat.gcd_comm a b, Nat.gcd_rec b a]
        exact Nat.gcd_comm _ _
def fracN (a b : Nat) (what : Int32) : Nat := if what = 0 then a / Nat.gcd a b else b / Nat.gcd a b
set_option maxRecDepth 100000 in
set_option maxHeartbeats 1000000 in
theorem f_X4_partOfFraction {V : am_V} {d : Nat} {S : fm} {a b : Nat} (ha : a < 2 ^ 62) (hb : 0 < b) (hb2 : b < 2 ^ 40) (what : Int32) : AF V MX4_partOfFraction (d + 1) [.long (lN a), .long (lN b), .int what] S (some (.long (lN (fracN a b what)))) S := by
  have hg : 0 < Nat.gcd a b := Nat.gcd_pos_of_pos_right a hb
  have hg2 : Nat.gcd a b < 2 ^ 40 := Nat.lt_of_le_of_lt (Nat.gcd_le_right a hb) hb2
  have hg0 : ¬ lN (Nat.gcd a b) = 0 := fun z => absurd ((pk_lEQ (a := Nat.gcd a b) (b := 0) (by omega) (by omega)).mp z) (by omega)
  refine AM.of (L := [some (.long (lN a)), none, some (.long (lN b)), none, some (.int what), none, none, none, none]) (by decide +kernel) (Nat.le_of_ble_eq_true rfl) rfl ?_
  refine aw_lload_n (i := 0) dX4_partOfFraction_0 rfl rfl ?_
  refine aw_lload_n (i := 2) dX4_partOfFraction_1 rfl rfl ?_
  refine ax_callS2l (M' := MX4_commonDivisor) dX4_partOfFraction_2 lmX4_243 oX4_commonDivisor (by decide +kernel) (Nat.le_of_ble_eq_true rfl) (f_X4_commonDivisor ha hb hb2) ?_
  refine aw_lstore (i := 5) (L' := [_, _, _, _, _, _, _, _, _]) dX4_partOfFraction_5 (Nat.le_of_ble_eq_true rfl) rfl rfl ?_
  refine aw_iload dX4_partOfFraction_7 rfl ?_
  refine aw_if_ne (tgt := 16) dX4_partOfFraction_9 (by decide) (fun c9 => ?_) (fun c9 => ?_)
  · refine aw_lload_n (i := 2) dX4_partOfFraction_16 rfl rfl ?_
    refine aw_lstore (i := 7) (L' := [_, _, _, _, _, _, _, _, _]) dX4_partOfFraction_17 (Nat.le_of_ble_eq_true rfl) rfl rfl ?_
    refine aw_lload dX4_partOfFraction_19 rfl ?_
    refine aw_lconst (v := 0) dX4_partOfFraction_21 (by decide) ?_
    refine aw_lcmp dX4_partOfFraction_22 ?_
    refine aw_if_le (tgt := 34) dX4_partOfFraction_23 (by decide) (fun c23 => ?_) (fun c23 => ?_)
    · exact absurd ((pk_lLE (a := Nat.gcd a b) (b := 0) (by omega) (by omega)).mp ((lg_cmp_le _ _).mp c23)) (by omega)
    · refine aw_lload dX4_partOfFraction_26 rfl ?_
      refine aw_lload dX4_partOfFraction_28 rfl ?_
      refine aw_ldiv dX4_partOfFraction_30 hg0 ?_
      refine aw_goto (tgt := 36) dX4_partOfFraction_31 (by decide) ?_
      refine aw_lreturn dX4_partOfFraction_36 rfl ?_
      first | exact ⟨congrArg (fun z => some (Value.long z)) ((pk_lDiv (a := a) (by omega) hg (by omega)).trans (congrArg lN (if_pos c9).symm)), rfl⟩ | exact ⟨congrArg (fun z => some (Value.long z)) ((pk_lDiv (a := b) (by omega) hg (by omega)).trans (congrArg lN (if_neg c9).symm)), rfl⟩
  · refine aw_lload_n (i := 0) dX4_partOfFraction_12 rfl rfl ?_
    refine aw_goto (tgt := 17) dX4_partOfFraction_13 (by decide) ?_
    refine aw_lstore (i := 7) (L' := [_, _, _, _, _, _, _, _, _]) dX4_partOfFraction_17 (Nat.le_of_ble_eq_true rfl) rfl rfl ?_
    refine aw_lload dX4_partOfFraction_19 rfl ?_
    refine aw_lconst (v := 0) dX4_partOfFraction_21 (by decide) ?_
    refine aw_lcmp dX4_partOfFraction_22 ?_
    refine aw_if_le (tgt := 34) dX4_partOfFraction_23 (by decide) (fun c23 => ?_) (fun c23 => ?_)
    · exact absurd ((pk_lLE (a := Nat.gcd a b) (b := 0) (by omega) (by omega)).mp ((lg_cmp_le _ _).mp c23)) (by omega)
    · refine aw_lload dX4_partOfFraction_26 rfl ?_
      refine aw_lload dX4_partOfFraction_28 rfl ?_
      refine aw_ldiv dX4_partOfFraction_30 hg0 ?_
      refine aw_goto (tgt := 36) dX4_partOfFraction_31 (by decide) ?_
      refine aw_lreturn dX4_partOfFraction_36 rfl ?_
      first | exact ⟨congrArg (fun z => some (Value.long z)) ((pk_lDiv (a := a) (by omega) hg (by omega)).trans (congrArg lN (if_pos c9).symm)), rfl⟩ | exact ⟨congrArg (fun z => some (Value.long z)) ((pk_lDiv (a := b) (by omega) hg (by omega)).trans (congrArg lN (if_neg c9).symm)), rfl⟩
set_option maxRecDepth 100000 in
set_option maxHeartbeats 1000000 in
theorem f_X4_weightOf {V : am_V} {d : Nat} {S : fm} {m v N : Nat} (hv : v ≤ 10) (hN : N ≤ 8) (hm : m < 2 ^ N) : AF V MX4_weightOf (d + 1) [.int (nI m), .int (nI v), .int (nI N)] S (some (.long (lN (wN v m N)))) S := by
  obtain ⟨hp, hw⟩ := w_tab v (by omega) N (by omega) m hm
  have hm10 : m < 1024 := Nat.lt_of_lt_of_le hm (Nat.le_trans (Nat.pow_le_pow_right (by omega) hN) (by decide))
  refine AM.of (L := [some (.int (nI m)), some (.int (nI v)), some (.int (nI N)), none]) (by decide +kernel) (Nat.le_of_ble_eq_true rfl) rfl ?_
  refine aw_iload_n (i := 0) dX4_weightOf_0 rfl rfl ?_
  refine ax_callS1i (M' := MJ6_bitCount_0f7a4) dX4_weightOf_1 lmX4_238 oJ6_bitCount_0f7a4 (by decide +kernel) (Nat.le_of_ble_eq_true rfl) (f_J6_bitCount_0f7a4 _) ?_
  refine aw_tE (nI (pcN m)) (pc_tab m hm10) ?_
  refine aw_istore_n (i := 3) (L' := [_, _, _, _]) dX4_weightOf_4 rfl (Nat.le_of_ble_eq_true rfl) rfl rfl ?_
  refine aw_iload_n (i := 1) dX4_weightOf_5 rfl rfl ?_
  refine aw_iload_n (i := 3) dX4_weightOf_6 rfl rfl ?_
  refine ax_callS2l (M' := MX4_power) dX4_weightOf_7 lmX4_224 oX4_power (by decide +kernel) (Nat.le_of_ble_eq_true rfl) (f_X4_power (b := v) (e9 := pcN m) hv (by omega)) ?_
  refine aw_bipush (v := 10) dX4_weightOf_10 (by decide) ?_
  refine aw_iload_n (i := 1) dX4_weightOf_12 rfl rfl ?_
  refine aw_isub dX4_weightOf_13 ?_
  refine aw_tE (nI (10 - v)) (pk_sub (a := 10) (b := v) hv) ?_
  refine aw_iload_n (i := 2) dX4_weightOf_14 rfl rfl ?_
  refine aw_iload_n (i := 3) dX4_weightOf_15 rfl rfl ?_
  refine aw_isub dX4_weightOf_16 ?_
  refine aw_tE (nI (N - pcN m)) (pk_sub hp) ?_
  refine ax_callS2l (M' := MX4_power) dX4_weightOf_17 lmX4_224 oX4_power (by decide +kernel) (Nat.le_of_ble_eq_true rfl) (f_X4_power (b := 10 - v) (e9 := N - pcN m) (by omega) (by omega)) ?_
  refine aw_lmul dX4_weightOf_20 ?_
  refine aw_tEl (lN (wN v m N)) (by rw [lN_mul, hw]) ?_
  refine aw_lreturn dX4_weightOf_21 rfl ?_
  exact ⟨rfl, rfl⟩
set_option maxRecDepth 100000 in
set_option maxHeartbeats 1000000 in
theorem f_X4_isNoise {V : am_V} {d : Nat} {S : fm} (v n : Int32) : AF V MX4_isNoise (d + 1) [.int v, .int n] S (some (.int (b2i ((0 ≤ v ∧ v ≤ 10) ∧ 0 ≤ n ∧ n ≤ 8)))) S := by
  refine AM.of (L := [some (.int v), some (.int n)]) (by decide +kernel) (Nat.le_of_ble_eq_true rfl) rfl ?_
  refine aw_iload_n (i := 0) dX4_isNoise_0 rfl rfl ?_
  refine aw_iconst (v := 0) dX4_isNoise_1 (by decide) ?_
  refine aw_bipush (v := 10) dX4_isNoise_2 (by decide) ?_
  refine ax_callS3i (M' := MX4_within) dX4_isNoise_4 lmX4_54 oX4_within (by decide +kernel) (Nat.le_of_ble_eq_true rfl) (f_X4_within _ _ _) ?_
  refine aw_beq (tgt := 24) dX4_isNoise_7 (by decide) (fun c7 => ?_) (fun c7 => ?_)
  · refine aw_iconst (v := 0) dX4_isNoise_24 (by decide) ?_
    refine aw_ireturn (ty := .boolean) dX4_isNoise_25 rfl (by decide) ?_
    first | exact ⟨congrArg (fun z => some (Value.int z)) (b2i_t ⟨c7, c17⟩).symm, rfl⟩ | exact ⟨congrArg (fun z => some (Value.int z)) (b2i_f (fun z => c17 z.2)).symm, rfl⟩ | exact ⟨congrArg (fun z => some (Value.int z)) (b2i_f (fun z => c7 z.1)).symm, rfl⟩
  · refine aw_iload_n (i := 1) dX4_isNoise_10 rfl rfl ?_
    refine aw_iconst (v := 0) dX4_isNoise_11 (by decide) ?_
    refine aw_bipush (v := 8) dX4_isNoise_12 (by decide) ?_
    refine ax_callS3i (M' := MX4_within) dX4_isNoise_14 lmX4_54 oX4_within (by decide +kernel) (Nat.le_of_ble_eq_true rfl) (f_X4_within _ _ _) ?_
    refine aw_beq (tgt := 24) dX4_isNoise_17 (by decide) (fun c17 => ?_) (fun c17 => ?_)
    · refine aw_iconst (v := 0) dX4_isNoise_24 (by decide) ?_
      refine aw_ireturn (ty := .boolean) dX4_isNoise_25 rfl (by decide) ?_
      first | exact ⟨congrArg (fun z => some (Value.int z)) (b2i_t ⟨c7, c17⟩).symm, rfl⟩ | exact ⟨congrArg (fun z => some (Value.int z)) (b2i_f (fun z => c17 z.2)).symm, rfl⟩ | exact ⟨congrArg (fun z => some (Value.int z)) (b2i_f (fun z => c7 z.1)).symm, rfl⟩
    · refine aw_iconst (v := 1) dX4_isNoise_20 (by decide) ?_
      refine aw_goto (tgt := 25) dX4_isNoise_21 (by decide) ?_
      refine aw_ireturn (ty := .boolean) dX4_isNoise_25 rfl (by decide) ?_
      first | exact ⟨congrArg (fun z => some (Value.int z)) (b2i_t ⟨c7, c17⟩).symm, rfl⟩ | exact ⟨congrArg (fun z => some (Value.int z)) (b2i_f (fun z => c17 z.2)).symm, rfl⟩ | exact ⟨congrArg (fun z => some (Value.int z)) (b2i_f (fun z => c7 z.1)).symm, rfl⟩
set_option maxRecDepth 100000 in
set_option maxHeartbeats 1000000 in
theorem f_X5_common {V : am_V} {d : Nat} {S : fm} {a b : Nat} (ha : a < 2 ^ 62) (hb : b < 2 ^ 62) : AF V MX5_common d [.long (lN a), .long (lN b)] S (some (.long (lN (Nat.gcd a b)))) S := by
  refine AM.of (L := [some (.long (lN a)), none, some (.long (lN b)), none, none, none, none, none, none, none]) (by decide +kernel) (Nat.le_of_ble_eq_true rfl) rfl ?_
  have loop : ∀ (m x y : Nat) (z8 : Option Value), y < m → x < 2 ^ 62 → y < 2 ^ 62 → Nat.gcd x y = Nat.gcd a b → AW V MX5_common d 0 0 6 [some (.long (lN a)), none, some (.long (lN b)), none, some (.long (lN x)), none, some (.long (lN y)), none, z8, none] [] (hp S) (fun r' h' => r' = some (.long (lN (Nat.gcd a b))) ∧ h' = hp S) := by
    intro m
    induction m with
    | zero => intro x y z8 h; omega
    | succ m ih =>
      intro x y z8 hm hx hy hg
      refine aw_lload dX5_common_6 rfl ?_
      refine aw_lconst (v := 0) dX5_common_8 (by decide) ?_
      refine aw_lcmp dX5_common_9 ?_
      refine aw_if_eq (tgt := 31) dX5_common_10 (by decide) (fun c10 => ?_) (fun c10 => ?_)
      · have hy : y = 0 := (pk_lEQ (a := y) (b := 0) (by omega) (by omega)).mp ((lg_cmp_eq _ _).mp c10)
        subst hy
        rw [Nat.gcd_zero_right] at hg
        rw [← hg]
        refine aw_lload dX5_common_31 rfl ?_
        refine aw_lreturn dX5_common_33 rfl ?_
        exact ⟨rfl, rfl⟩
      · have hy0 : ¬ lN y = 0 := fun z => c10 ((lg_cmp_eq _ _).mpr z)
        have hyp : 0 < y := by
          rcases Nat.eq_zero_or_pos y with q | q
          · exact absurd (by rw [q]; rfl) hy0
          · exact q
        refine aw_lload dX5_common_13 rfl ?_
        refine aw_lload dX5_common_15 rfl ?_
        refine aw_lrem dX5_common_17 hy0 ?_
        refine aw_tEl (lN (x % y)) (pk_lRem (by omega) hyp (by omega)) ?_
        refine aw_lstore (i := 8) (L' := [_, _, _, _, _, _, _, _, _, _]) dX5_common_18 (Nat.le_of_ble_eq_true rfl) rfl rfl ?_
        refine aw_lload dX5_common_20 rfl ?_
        refine aw_lstore (i := 4) (L' := [_, _, _, _, _, _, _, _, _, _]) dX5_common_22 (Nat.le_of_ble_eq_true rfl) rfl rfl ?_
        refine aw_lload dX5_common_24 rfl ?_
        refine aw_lstore (i := 6) (L' := [_, _, _, _, _, _, _, _, _, _]) dX5_common_26 (Nat.le_of_ble_eq_true rfl) rfl rfl ?_
        refine aw_goto (tgt := 6) dX5_common_28 (by decide) ?_
        have hlt := Nat.mod_lt x hyp
        refine ih y (x % y) _ (by omega) (by omega) (by omega) ?_
        rw [← hg, Nat.gcd_comm x y, Nat.gcd_rec y x]
        exact Nat.gcd_comm _ _
  refine aw_lload_n (i := 0) dX5_common_0 rfl rfl ?_
  refine aw_lstore (i := 4) (L' := [_, _, _, _, _, _, _, _, _, _]) dX5_common_1 (Nat.le_of_ble_eq_true rfl) rfl rfl ?_
  refine aw_lload_n (i := 2) dX5_common_3 rfl rfl ?_
  refine aw_lstore (i := 6) (L' := [_, _, _, _, _, _, _, _, _, _]) dX5_common_4 (Nat.le_of_ble_eq_true rfl) rfl rfl ?_
  exact loop (b + 1) a b none (Nat.lt_succ_self b) ha hb rfl
set_option maxRecDepth 100000 in
set_option maxHeartbeats 1000000 in
theorem f_X5_lowest {V : am_V} {d : Nat} {S : fm} {a b : Nat} (ha : a < 2 ^ 62) (hb : 0 < b) (hb2 : b < 2 ^ 40) (what : Int32) : AF V MX5_lowest (d + 1) [.long (lN a), .long (lN b), .int what] S (some (.long (lN (fracN a b what)))) S := by
  have hg : 0 < Nat.gcd a b := Nat.gcd_pos_of_pos_right a hb
  have hg2 : Nat.gcd a b < 2 ^ 40 := Nat.lt_of_le_of_lt (Nat.gcd_le_right a hb) hb2
  have hg0 : ¬ lN (Nat.gcd a b) = 0 := fun z => absurd ((pk_lEQ (a := Nat.gcd a b) (b := 0) (by omega) (by omega)).mp z) (by omega)
  refine AM.of (L := [some (.long (lN a)), none, some (.long (lN b)), none, some (.int what), none, none]) (by decide +kernel) (Nat.le_of_ble_eq_true rfl) rfl ?_
  refine aw_lload_n (i := 2) dX5_lowest_0 rfl rfl ?_
  refine aw_lload_n (i := 0) dX5_lowest_1 rfl rfl ?_
  refine ax_callS2l (M' := MX5_common) dX5_lowest_2 lmX5_271 oX5_common (by decide +kernel) (Nat.le_of_ble_eq_true rfl) (f_X5_common (a := b) (b := a) (by omega) ha) ?_
  refine aw_tEl (lN (Nat.gcd a b)) (congrArg lN (Nat.gcd_comm b a)) ?_
  refine aw_lstore (i := 5) (L' := [_, _, _, _, _, _, _]) dX5_lowest_5 (Nat.le_of_ble_eq_true rfl) rfl rfl ?_
  refine aw_iload dX5_lowest_7 rfl ?_
  refine aw_if_ne (tgt := 19) dX5_lowest_9 (by decide) (fun c9 => ?_) (fun c9 => ?_)
  · refine aw_lload_n (i := 2) dX5_lowest_19 rfl rfl ?_
    refine aw_lload dX5_lowest_20 rfl ?_
    refine aw_ldiv dX5_lowest_22 hg0 ?_
    refine aw_lreturn dX5_lowest_23 rfl ?_
    first | exact ⟨congrArg (fun z => some (Value.long z)) ((pk_lDiv (a := a) (by omega) hg (by omega)).trans (congrArg lN (if_pos c9).symm)), rfl⟩ | exact ⟨congrArg (fun z => some (Value.long z)) ((pk_lDiv (a := b) (by omega) hg (by omega)).trans (congrArg lN (if_neg c9).symm)), rfl⟩
  · refine aw_lload_n (i := 0) dX5_lowest_12 rfl rfl ?_
    refine aw_lload dX5_lowest_13 rfl ?_
    refine aw_ldiv dX5_lowest_15 hg0 ?_
    refine aw_goto (tgt := 23) dX5_lowest_16 (by decide) ?_
    refine aw_lreturn dX5_lowest_23 rfl ?_
    first | exact ⟨congrArg (fun z => some (Value.long z)) ((pk_lDiv (a := a) (by omega) hg (by omega)).trans (congrArg lN (if_pos c9).symm)), rfl⟩ | exact ⟨congrArg (fun z => some (Value.long z)) ((pk_lDiv (a := b) (by omega) hg (by omega)).trans (congrArg lN (if_neg c9).symm)), rfl⟩
