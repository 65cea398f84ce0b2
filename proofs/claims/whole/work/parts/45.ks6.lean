def pcN (m : Nat) : Nat := m % 2 + m / 2 % 2 + m / 4 % 2 + m / 8 % 2 + m / 16 % 2 + m / 32 % 2 + m / 64 % 2 + m / 128 % 2 + m / 256 % 2 + m / 512 % 2
set_option maxRecDepth 100000 in
theorem pc_tab : ∀ m, m < 1024 → pcF (nI m) = nI (pcN m) := by decide +kernel
set_option maxRecDepth 100000 in
theorem or_tab : ∀ i, i < 10 → ∀ m, m < 2 ^ i → nI m ||| ((1 : Int32) <<< (nI i &&& 31)) = nI (m + 2 ^ i) := by decide +kernel
set_option maxRecDepth 100000 in
theorem pc_add : ∀ i, i < 10 → ∀ m, m < 2 ^ i → pcN (m + 2 ^ i) = pcN m + 1 := by decide +kernel
set_option maxRecDepth 100000 in
theorem bit_add : ∀ i, i < 10 → ∀ m, m < 2 ^ i → (m + 2 ^ i) / 2 ^ i % 2 = 1 ∧ m / 2 ^ i % 2 = 0 ∧ ∀ v, v < i → (m + 2 ^ i) / 2 ^ v % 2 = m / 2 ^ v % 2 := by decide +kernel
theorem bit_tst {m v : Nat} (hm : m < 2 ^ 10) (hv : v < 10) : (nI m >>> (nI v &&& 31)) &&& 1 = nI (m / 2 ^ v % 2) := by
  have hs : ((nI v &&& 31).toBitVec.smod 32).toNat = v := by
    rcases (show v = 0 ∨ v = 1 ∨ v = 2 ∨ v = 3 ∨ v = 4 ∨ v = 5 ∨ v = 6 ∨ v = 7 ∨ v = 8 ∨ v = 9 by omega) with rfl | rfl | rfl | rfl | rfl | rfl | rfl | rfl | rfl | rfl <;> decide
  rw [pk_shrN (by omega) _ v hs, pk_andN (by have := Nat.div_le_self m (2 ^ v); omega) (m := 1) 1 (by decide)]
theorem ft_bits {f : Nat → Nat → Int32} {n p s j : Nat} : ∀ i, i ≤ 10 → ∃ m, m < 2 ^ i ∧ ftF f n p s j 2 i = nI m ∧ (∀ v, v < i → (m / 2 ^ v % 2 = 1 ↔ (k_mayP 2 (nI v) ∧ fitP f n p s j 2 (nI v)))) ∧ (1 ≤ i → nI (pcN m) = ctN f n p s j (i - 1)) := by
  intro i
  induction i with
  | zero => intro _; exact ⟨0, by omega, rfl, fun v hv => absurd hv (by omega), fun h => absurd h (by omega)⟩
  | succ i ih =>
    intro hi
    obtain ⟨m, hm, e, hb, hc⟩ := ih (by omega)
    obtain ⟨b1, b2, b3⟩ := bit_add i (by omega) m hm
    have hp2 : m + 2 ^ i < 2 ^ (i + 1) := by rw [Nat.pow_succ]; omega
    have hlt : m < 2 ^ (i + 1) := by omega
    rw [ftF]
    by_cases q : k_mayP 2 (nI i)
    · have h1 : 1 ≤ i := by
        rcases q with ⟨z, _⟩ | ⟨z, _⟩ | ⟨_, z, _⟩
        · exact absurd z (by decide)
        · exact absurd z (by decide)
        · exact (nI_leI (a := 1) (b := i) (by omega) (by omega)).mp z
      have eci : i + 1 - 1 = (i - 1) + 1 := by omega
      rw [if_pos q]
      by_cases q2 : fitP f n p s j 2 (nI i)
      · rw [if_pos q2, e, or_tab i (by omega) m hm]
        refine ⟨m + 2 ^ i, hp2, rfl, fun v hv => ?_, fun _ => ?_⟩
        · rcases (show v = i ∨ v < i by omega) with rfl | hv
          · exact ⟨fun _ => ⟨q, q2⟩, fun _ => b1⟩
          · rw [b3 v hv]; exact hb v hv
        · rw [pc_add i (by omega) m hm, eci, ctN, show i - 1 + 1 = i by omega, if_pos q2, ← hc h1, nI_1]
      · rw [if_neg q2]
        refine ⟨m, hlt, e, fun v hv => ?_, fun _ => ?_⟩
        · rcases (show v = i ∨ v < i by omega) with rfl | hv
          · exact ⟨fun z => absurd z (by omega), fun z => absurd z.2 q2⟩
          · exact hb v hv
        · rw [eci, ctN, show i - 1 + 1 = i by omega, if_neg q2, ← hc h1]
    · rw [if_neg q]
      refine ⟨m, hlt, e, fun v hv => ?_, fun _ => ?_⟩
      · rcases (show v = i ∨ v < i by omega) with rfl | hv
        · exact ⟨fun z => absurd z (by omega), fun z => absurd z.1 q⟩
        · exact hb v hv
      · have h0 : i = 0 := by
          rcases (show i = 0 ∨ 1 ≤ i by omega) with z | z
          · exact z
          · exact absurd (Or.inr (Or.inr ⟨rfl, nI_le (a := 1) z (by omega), nI_le (b := 9) (by omega) (by omega)⟩)) q
        subst h0
        have : m = 0 := by omega
        subst this
        rfl
theorem cand_ct {f : Nat → Nat → Int32} {n p s j : Nat} : pcF (ftF f n p s j 2 10) = ctN f n p s j 9 := by
  obtain ⟨m, hm, e, -, hc⟩ := ft_bits (f := f) (n := n) (p := p) (s := s) (j := j) 10 (Nat.le_refl _)
  rw [e, pc_tab m hm]
  exact hc (by omega)
theorem cs_sy {f : Nat → Nat → Int32} {n p s j q : Nat} : ∀ v, v ≤ 9 → csN f n p j (ftF f n p s j 2 10) q v = syN f n p s j q v := by
  obtain ⟨m, hm, e, hb, -⟩ := ft_bits (f := f) (n := n) (p := p) (s := s) (j := j) 10 (Nat.le_refl _)
  intro v
  induction v with
  | zero => intro _; rfl
  | succ v ih =>
    intro hv
    have hmay : k_mayP 2 (nI (v + 1)) := Or.inr (Or.inr ⟨rfl, nI_le (a := 1) (by omega) (by omega), nI_le (b := 9) (by omega) (by omega)⟩)
    have hx := hb (v + 1) (by omega)
    rw [csN, syN, ih (by omega), e, bit_tst hm (by omega)]
    by_cases q2 : fitP f n p s j 2 (nI (v + 1))
    · rw [if_pos q2, hx.mpr ⟨hmay, q2⟩, if_pos (show nI 1 = 1 from rfl)]
    · have y0 : m / 2 ^ (v + 1) % 2 = 0 := by
        rcases (show m / 2 ^ (v + 1) % 2 = 0 ∨ m / 2 ^ (v + 1) % 2 = 1 by omega) with y | y
        · exact y
        · exact absurd (hx.mp y).2 q2
      rw [if_neg q2, y0, if_neg (show ¬ nI 0 = 1 by decide)]
set_option maxRecDepth 100000 in
set_option maxHeartbeats 1000000 in
theorem g_ask {V : am_V} {d : Nat} {f : Nat → Nat → Int32} {τ : Nat → Nat → Int64} {n p : Nat} (hn4 : n ≤ 4) (hn : f 2 1 = nI n) (hp8 : p ≤ 8) (hp1 : f 2 5 = nI p) {s : Nat} (hs6 : s ≤ 6) (hs : f 2 11 = nI s) (hseen : ∀ i, i < s → ∃ q, q ≤ 40 ∧ f 11 i = nI q) (k what : Int32) : AGi V MX4_ask (d + 7) [.ref 0, .int k, .int what] (f, τ) (GT τ f (r_ask f n p s k what)) := by
  have t0 := tb_0
  have tB := tb_B isB2
  have uB := tb_B isB14
  have uk := tb_Bk isB14
  have tk := tb_Bk isB2
  have hE : eqT f f := eqT.rf
  have t63 := tb_so
  refine AM.of (L := [some (.ref 0), some (.int k), some (.int what), none, none, none, none, none, none]) (by decide +kernel) (Nat.le_of_ble_eq_true rfl) rfl ?_
  have loop : ∀ (m i j : Nat) (z3 z8 : Option Value) (b l : Int32) (g : Nat → Nat → Int32), i + m = 41 → eqT g f → (∀ q, q < 41 → g 63 q = syN f n p s j q 9) → (b, l) = akJ f n p s j i → AW V MX4_ask (d + 7) 0 0 52 [some (.ref 0), some (.int (nI j)), some (.int what), z3, some (.int (ctN f n p s j 9)), some (.int b), some (.int l), some (.int (nI i)), z8] [] (hp (g, τ)) (fun r' h' => ∃ (x : Int32) (S' : fm), r' = some (.int x) ∧ h' = hp S' ∧ GT τ f ((if (akJ f n p s j 41).1 = -4 then -4 else if what = 0 then (akJ f n p s j 41).1 else (akJ f n p s j 41).2)) x S') := by
    intro m
    induction m with
    | zero =>
      intro i j z3 z8 b l g hm hG hS hJ
      have hi : i = 41 := by omega
      subst hi
      rw [show b = (akJ f n p s j 41).1 from congrArg Prod.fst hJ, show l = (akJ f n p s j 41).2 from congrArg Prod.snd hJ]
      refine aw_iload dX4_ask_52 rfl ?_
      refine aw_bipush (v := 40) dX4_ask_54 (by decide) ?_
      refine aw_icmp_gt (tgt := 102) dX4_ask_56 (by decide) (fun c56 => ?_) (fun c56 => absurd (by decide) c56)
      refine aw_iload dX4_ask_102 rfl ?_
      refine aw_bipush (v := -4) dX4_ask_104 (by decide) ?_
      refine aw_icmp_ne (tgt := 112) dX4_ask_106 (by decide) (fun c106 => ?_) (fun c106 => ?_)
      · refine aw_iload_n (i := 2) dX4_ask_112 rfl rfl ?_
        refine aw_if_ne (tgt := 121) dX4_ask_113 (by decide) (fun c113 => ?_) (fun c113 => ?_)
        · refine aw_iload dX4_ask_121 rfl ?_
          refine aw_ireturn (ty := .int) dX4_ask_123 rfl rfl ?_
          exact ⟨_, _, rfl, rfl, ((if_neg c106).trans (if_neg c113)).symm, _, rfl, hG⟩
        · refine aw_iload dX4_ask_116 rfl ?_
          refine aw_goto (tgt := 123) dX4_ask_118 (by decide) ?_
          refine aw_ireturn (ty := .int) dX4_ask_123 rfl rfl ?_
          exact ⟨_, _, rfl, rfl, ((if_neg c106).trans (if_pos c113)).symm, _, rfl, hG⟩
      · refine aw_bipush (v := -4) dX4_ask_109 (by decide) ?_
        refine aw_ireturn (ty := .int) dX4_ask_111 rfl rfl ?_
        exact ⟨_, _, rfl, rfl, (if_pos c106).symm, _, rfl, hG⟩
    | succ m ih =>
      intro i j z3 z8 b l g hm hG hS hJ
      obtain ⟨eb, el⟩ : b = (akJ f n p s j i).1 ∧ l = (akJ f n p s j i).2 := ⟨congrArg Prod.fst hJ, congrArg Prod.snd hJ⟩
      refine aw_iload dX4_ask_52 rfl ?_
      refine aw_bipush (v := 40) dX4_ask_54 (by decide) ?_
      refine aw_tE (nI 40) rfl ?_
      refine aw_icmp_gt (tgt := 102) dX4_ask_56 (by decide) (fun c56 => ?_) (fun c56 => ?_)
      · exact absurd ((nI_ltI (a := 40) (b := i) (by omega) (by omega)).mp c56) (by omega)
      · refine aw_aload_n (i := 0) dX4_ask_59 rfl rfl ?_
        refine ax_getr (ci := 4) 11 dX4_ask_60 rfl lfX4_51 (by decide) (by assumption) (by rfl) ?_
        refine aw_iload dX4_ask_63 rfl ?_
        refine ax_ialdN dX4_ask_65 (by assumption) (by omega) (Nat.le_of_ble_eq_true rfl) ?_
        refine aw_tE _ (hS i (by omega)) ?_
        refine aw_iload dX4_ask_66 rfl ?_
        refine aw_aload_n (i := 0) dX4_ask_68 rfl rfl ?_
        refine ax_getr (ci := 4) 11 dX4_ask_69 rfl lfX4_51 (by decide) (by assumption) (by rfl) ?_
        refine aw_iload dX4_ask_72 rfl ?_
        refine ax_ialdN dX4_ask_74 (by assumption) (by omega) (Nat.le_of_ble_eq_true rfl) ?_
        refine aw_tE _ (hS i (by omega)) ?_
        refine aw_isub dX4_ask_75 ?_
        refine aw_mmax dX4_ask_76 lmX4_259 (Nat.le_of_ble_eq_true rfl) ?_
        refine aw_tE (imax (syN f n p s j i 9) (ctN f n p s j 9 - syN f n p s j i 9)) rfl ?_
        refine aw_istore (i := 8) (L' := [_, _, _, _, _, _, _, _, _]) dX4_ask_79 (Nat.le_of_ble_eq_true rfl) rfl rfl ?_
        refine aw_iload dX4_ask_81 rfl ?_
        refine aw_iload dX4_ask_83 rfl ?_
        refine aw_icmp_ge (tgt := 96) dX4_ask_85 (by decide) (fun c85 => ?_) (fun c85 => ?_)
        · refine aw_incN (L' := [_, _, _, _, _, _, _, _, _]) dX4_ask_96 rfl (Nat.le_of_ble_eq_true rfl) rfl rfl ?_
          refine aw_goto (tgt := 52) dX4_ask_99 (by decide) ?_
          refine ih (i + 1) j z3 _ _ _ g (by omega) hG hS ?_
          rw [ak_st, ← hJ]
          first | rw [if_neg (Int32.not_lt.mpr c85)] | rw [if_pos (Int32.not_le.mp c85)]
        · refine aw_iload dX4_ask_88 rfl ?_
          refine aw_istore (i := 6) (L' := [_, _, _, _, _, _, _, _, _]) dX4_ask_90 (Nat.le_of_ble_eq_true rfl) rfl rfl ?_
          refine aw_iload dX4_ask_92 rfl ?_
          refine aw_istore (i := 5) (L' := [_, _, _, _, _, _, _, _, _]) dX4_ask_94 (Nat.le_of_ble_eq_true rfl) rfl rfl ?_
          refine aw_incN (L' := [_, _, _, _, _, _, _, _, _]) dX4_ask_96 rfl (Nat.le_of_ble_eq_true rfl) rfl rfl ?_
          refine aw_goto (tgt := 52) dX4_ask_99 (by decide) ?_
          refine ih (i + 1) j z3 _ _ _ g (by omega) hG hS ?_
          rw [ak_st, ← hJ]
          first | rw [if_neg (Int32.not_lt.mpr c85)] | rw [if_pos (Int32.not_le.mp c85)]
  refine aw_aload_n (i := 0) dX4_ask_0 rfl rfl ?_
  refine ax_getr (ci := 4) 2 dX4_ask_1 rfl lfX4_16 (by decide) (by assumption) (by rfl) ?_
  refine aw_iload_n (i := 1) dX4_ask_4 rfl rfl ?_
  refine ax_callV1i (M' := MX0_hasKey) (ci := 0) dX4_ask_5 lmX4_101 oX0_hasKey (by decide +kernel) (by assumption) rfl rfl (Nat.le_of_ble_eq_true rfl) (f_X0_hasKey isB2 _) ?_
  refine aw_beq (tgt := 20) dX4_ask_8 (by decide) (fun c8 => ?_) (fun c8 => ?_)
  · refine aw_iconst (v := -1) dX4_ask_20 (by decide) ?_
    refine aw_ireturn (ty := .int) dX4_ask_21 rfl rfl ?_
    refine ⟨_, _, rfl, rfl, ?_, _, rfl, hE⟩
    unfold r_ask
    try rw [nI_clamp (show N < 2 ^ 31 by omega)]
    try rw [nI_clamp (show j < 2 ^ 31 by omega)]
    exact (if_neg c8).symm
  · refine aw_iload_n (i := 2) dX4_ask_11 rfl rfl ?_
    refine aw_iconst (v := 0) dX4_ask_12 (by decide) ?_
    refine aw_iconst (v := 1) dX4_ask_13 (by decide) ?_
    refine ax_callS3i (M' := MX4_within) dX4_ask_14 lmX4_54 oX4_within (by decide +kernel) (Nat.le_of_ble_eq_true rfl) (f_X4_within _ _ _) ?_
    refine aw_bne (tgt := 22) dX4_ask_17 (by decide) (fun c17 => ?_) (fun c17 => ?_)
    · obtain ⟨j, hj, rfl⟩ := key_of hn4 (show 0 ≤ k ∧ k ≤ nI n - 1 by rw [← hn]; exact c8)
      refine aw_aload_n (i := 0) dX4_ask_22 rfl rfl ?_
      refine aw_iload_n (i := 1) dX4_ask_23 rfl rfl ?_
      refine aw_iconst (v := 2) dX4_ask_24 (by decide) ?_
      refine ax_gV2i (M' := MX4_fitting) (ci := 4) dX4_ask_25 lmX4_253 oX4_fitting (by decide +kernel) (by assumption) rfl rfl (Nat.le_of_ble_eq_true rfl) (g_fitting hn4 hn hp8 hp1 hs6 hs hseen hj _) (fun r_ S_ h_ => ?_)
      obtain ⟨rfl, f25, rfl, T25⟩ := h_
      have H := T25.lo
      refine aw_istore_n (i := 3) (L' := [_, _, _, _, _, _, _, _, _]) dX4_ask_28 rfl (Nat.le_of_ble_eq_true rfl) rfl rfl ?_
      refine aw_iload_n (i := 3) dX4_ask_29 rfl rfl ?_
      refine ax_callS1i (M' := MJ6_bitCount_0f7a4) dX4_ask_30 lmX4_238 oJ6_bitCount_0f7a4 (by decide +kernel) (Nat.le_of_ble_eq_true rfl) (f_J6_bitCount_0f7a4 _) ?_
      refine aw_tE (ctN f n p s j 9) cand_ct ?_
      refine aw_istore (i := 4) (L' := [_, _, _, _, _, _, _, _, _]) dX4_ask_33 (Nat.le_of_ble_eq_true rfl) rfl rfl ?_
      refine aw_aload_n (i := 0) dX4_ask_35 rfl rfl ?_
      refine aw_iload_n (i := 1) dX4_ask_36 rfl rfl ?_
      refine aw_iload_n (i := 3) dX4_ask_37 rfl rfl ?_
      refine ax_gV2v (M' := MX4_countSayers) (ci := 4) dX4_ask_38 lmX4_256 oX4_countSayers (by decide +kernel) (by assumption) rfl rfl (Nat.le_of_ble_eq_true rfl) (g_countSayers (f := f25) hn4 ((congrFun (H 2 (by omega)) 1).trans hn) hp8 ((congrFun (H 2 (by omega)) 5).trans hp1) hj _) (fun S_ h_ => ?_)
      obtain ⟨f38, rfl, T38, S38⟩ := h_
      refine aw_bipush (v := -4) dX4_ask_41 (by decide) ?_
      refine aw_istore (i := 5) (L' := [_, _, _, _, _, _, _, _, _]) dX4_ask_43 (Nat.le_of_ble_eq_true rfl) rfl rfl ?_
      refine aw_iload dX4_ask_45 rfl ?_
      refine aw_istore (i := 6) (L' := [_, _, _, _, _, _, _, _, _]) dX4_ask_47 (Nat.le_of_ble_eq_true rfl) rfl rfl ?_
      refine aw_iconst (v := 0) dX4_ask_49 (by decide) ?_
      refine aw_istore (i := 7) (L' := [_, _, _, _, _, _, _, _, _]) dX4_ask_50 (Nat.le_of_ble_eq_true rfl) rfl rfl ?_
      have e9 := loop 41 0 j (some (.int (ftF f n p s j 2 10))) none (-4) (ctN f n p s j 9) f38 rfl (T25.step (fun c h1 h2 h3 => T38 c h1 h2 h3)) (fun q hq => by rw [S38 q hq, cg_cs H, cs_sy 9 (Nat.le_refl _)]) (ak_0 f n p s j).symm
      rw [show r_ask f n p s (nI j) what = _ by unfold r_ask; rw [if_pos c8, if_pos c17, nI_clamp (by omega)]]
      exact e9
    · refine aw_iconst (v := -1) dX4_ask_20 (by decide) ?_
      refine aw_ireturn (ty := .int) dX4_ask_21 rfl rfl ?_
      refine ⟨_, _, rfl, rfl, ?_, _, rfl, hE⟩
      unfold r_ask
      try rw [nI_clamp (show N < 2 ^ 31 by omega)]
      try rw [nI_clamp (show j < 2 ^ 31 by omega)]
      exact ((if_pos c8).trans (if_neg c17)).symm
