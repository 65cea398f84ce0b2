theorem csF_o {f : Nat → Nat → Int32} {b b2 c j : Nat} (h : c < b ∨ c = b + 1 ∨ b + 6 ≤ c) : csF f b b2 c j = f c j := by
  unfold csF
  rw [up2_ne (by omega), up2_ne (by omega), up2_ne (by omega), upn_out (by omega)]
/-- three rows of the board at b copied from the board at b2, the first i of each -/
def cpP (f : Nat → Nat → Int32) (b b2 m i : Nat) : Nat → Nat → Int32 := fun c j => if (c = b + m ∨ c = b + m + 1 ∨ c = b + m + 2) ∧ j < i then f (c + b2 - b) j else f c j
theorem cpP_0 (f : Nat → Nat → Int32) (b b2 m : Nat) : cpP f b b2 m 0 = f := by
  funext c j
  unfold cpP
  rw [if_neg (by omega)]
theorem cpP_o {f : Nat → Nat → Int32} {b b2 m i c j : Nat} (h : ¬ (c = b + m ∨ c = b + m + 1 ∨ c = b + m + 2)) : cpP f b b2 m i c j = f c j := by
  unfold cpP
  rw [if_neg (by omega)]
theorem cpP_i {f : Nat → Nat → Int32} {b b2 m i c c2 j : Nat} (h : c = b + m ∨ c = b + m + 1 ∨ c = b + m + 2) (hj : j < i) (hc : c2 = c + b2 - b) : cpP f b b2 m i c j = f c2 j := by
  unfold cpP
  rw [if_pos ⟨h, hj⟩, hc]
theorem cpP_s (f : Nat → Nat → Int32) (b b2 m i : Nat) {a0 a1 a2 e0 e1 e2 : Nat} (h0 : a0 = b + m) (h1 : a1 = b + m + 1) (h2 : a2 = b + m + 2) (k0 : e0 = b2 + m) (k1 : e1 = b2 + m + 1) (k2 : e2 = b2 + m + 2) : up2 (up2 (up2 (cpP f b b2 m i) a0 i (f e0 i)) a1 i (f e1 i)) a2 i (f e2 i) = cpP f b b2 m (i + 1) := by
  funext c j
  by_cases c2 : c = a2 ∧ j = i
  · obtain ⟨rfl, rfl⟩ := c2
    rw [up2_self, cpP_i (c2 := e2) (by omega) (by omega) (by omega)]
  rw [up2_ne c2]
  by_cases c1 : c = a1 ∧ j = i
  · obtain ⟨rfl, rfl⟩ := c1
    rw [up2_self, cpP_i (c2 := e1) (by omega) (by omega) (by omega)]
  rw [up2_ne c1]
  by_cases c0 : c = a0 ∧ j = i
  · obtain ⟨rfl, rfl⟩ := c0
    rw [up2_self, cpP_i (c2 := e0) (by omega) (by omega) (by omega)]
  rw [up2_ne c0]
  unfold cpP
  by_cases q : (c = b + m ∨ c = b + m + 1 ∨ c = b + m + 2) ∧ j < i
  · rw [if_pos q, if_pos (by omega)]
  · rw [if_neg q, if_neg (by omega)]
def cq1 (f : Nat → Nat → Int32) (b b2 : Nat) : Nat → Nat → Int32 := up2 (cpP (csF f b b2) b b2 6 8) b 5 (f b2 5)
def caF (f : Nat → Nat → Int32) (b b2 : Nat) : Nat → Nat → Int32 := up2 (cpP (cq1 f b b2) b b2 9 6) b 11 (f b2 11)
theorem cq1_o {f : Nat → Nat → Int32} {b b2 c j : Nat} (h : c < b ∨ c = b + 1 ∨ b + 9 ≤ c) : cq1 f b b2 c j = f c j := by
  unfold cq1
  rw [up2_ne (by omega), cpP_o (by omega), csF_o (by omega)]
theorem caF_o {f : Nat → Nat → Int32} {b b2 c j : Nat} (h : c < b ∨ c = b + 1 ∨ b + 12 ≤ c) : caF f b b2 c j = f c j := by
  unfold caF
  rw [up2_ne (by omega), cpP_o (by omega), cq1_o (by omega)]
theorem caF_b {f : Nat → Nat → Int32} {b b2 j : Nat} (h : j = 1 ∨ j = 5 ∨ j = 6 ∨ j = 7 ∨ j = 11) : caF f b b2 b j = f b2 j := by
  unfold caF cq1 csF
  rcases h with rfl | rfl | rfl | rfl | rfl
  · rw [up2_ne (by omega), cpP_o (by omega), up2_ne (by omega), cpP_o (by omega), up2_ne (by omega), up2_ne (by omega), up2_self]
  · rw [up2_ne (by omega), cpP_o (by omega), up2_self]
  · rw [up2_ne (by omega), cpP_o (by omega), up2_ne (by omega), cpP_o (by omega), up2_ne (by omega), up2_self]
  · rw [up2_ne (by omega), cpP_o (by omega), up2_ne (by omega), cpP_o (by omega), up2_self]
  · rw [up2_self]
theorem caF_k {f : Nat → Nat → Int32} {b b2 k : Nat} (hk : k < 4) : caF f b b2 (b + 2 + k) = k_copy (f (b + 2 + k)) (f (b2 + 2 + k)) := by
  funext j
  unfold caF cq1 csF
  rw [up2_ne (by omega), cpP_o (by omega), up2_ne (by omega), cpP_o (by omega), up2_ne (by omega), up2_ne (by omega), up2_ne (by omega), upn_in hk]
  rfl
theorem k_copy_lt (g g2 : Nat → Int32) {j : Nat} (h : j < 7) : k_copy g g2 j = g2 j := by
  rcases (show j = 0 ∨ j = 1 ∨ j = 2 ∨ j = 3 ∨ j = 4 ∨ j = 5 ∨ j = 6 by omega) with rfl | rfl | rfl | rfl | rfl | rfl | rfl <;> rfl
theorem caF_p {f : Nat → Nat → Int32} {b b2 m j : Nat} (hap : am_ap b b2) (hm : m = 6 ∨ m = 7 ∨ m = 8) (hj : j < 8) : caF f b b2 (b + m) j = f (b2 + m) j := by
  have h : b + 12 ≤ b2 ∨ b2 + 12 ≤ b := hap
  unfold caF cq1
  rw [up2_ne (by omega), cpP_o (by omega), up2_ne (by omega), cpP_i (c2 := b2 + m) (by omega) hj (by omega), csF_o (by omega)]
theorem caF_s {f : Nat → Nat → Int32} {b b2 m j : Nat} (hap : am_ap b b2) (hm : m = 9 ∨ m = 10 ∨ m = 11) (hj : j < 6) : caF f b b2 (b + m) j = f (b2 + m) j := by
  have h : b + 12 ≤ b2 ∨ b2 + 12 ≤ b := hap
  unfold caF
  rw [up2_ne (by omega), cpP_i (c2 := b2 + m) (by omega) hj (by omega), cq1_o (by omega)]
set_option maxRecDepth 100000 in
set_option maxHeartbeats 4000000 in
theorem f_X0_copyFrom {V : am_V} {d b b2 : Nat} {f : Nat → Nat → Int32} {τ : Nat → Nat → Int64} (hb : am_isB b) (hb2 : am_isB b2) (hap : am_ap b b2) : AF V MX0_copyFrom (d + 2) [.ref b, .ref b2] (f, τ) none (caF f b b2, τ) := by
  have tB := tb_B hb
  have tk := tb_Bk hb
  have t6 := tb_B6 hb
  have t7 := tb_B7 hb
  have t8 := tb_B8 hb
  have t9 := tb_B9 hb
  have t10 := tb_B10 hb
  have t11 := tb_B11 hb
  have uB := tb_B hb2
  have uk := tb_Bk hb2
  have u6 := tb_B6 hb2
  have u7 := tb_B7 hb2
  have u8 := tb_B8 hb2
  have u9 := tb_B9 hb2
  have u10 := tb_B10 hb2
  have u11 := tb_B11 hb2
  have hap2 : b + 12 ≤ b2 ∨ b2 + 12 ≤ b := hap
  refine AM.of (L := [some (.ref b), some (.ref b2), none]) (by decide +kernel) (Nat.le_of_ble_eq_true rfl) rfl ?_
  have loop2 : ∀ (m i : Nat), i ≤ 6 → 6 - i < m → AW V MX0_copyFrom (d + 2) 0 0 65 [some (.ref b), some (.ref b2), some (.int (nI i))] [] (hp (cpP (cq1 f b b2) b b2 9 i, τ)) (fun r' h' => r' = none ∧ h' = hp (caF f b b2, τ)) := by
    intro m
    induction m with
    | zero => intro i h1 h2; omega
    | succ m ih =>
      intro i h1 h2
      refine aw_iload_n (i := 2) dX0_copyFrom_65 rfl rfl ?_
      refine aw_bipush (v := 6) dX0_copyFrom_66 (by decide) ?_
      refine aw_tE (nI 6) rfl ?_
      refine aw_icmp_ge (tgt := 113) dX0_copyFrom_68 (by decide) (fun c68 => ?_) (fun c68 => ?_)
      · refine aw_aload_n (i := 0) dX0_copyFrom_113 rfl rfl ?_
        refine aw_aload_n (i := 1) dX0_copyFrom_114 rfl rfl ?_
        refine ax_geti (ci := 0) 11 dX0_copyFrom_115 rfl lfX0_50 (by decide) (by assumption) (by rfl) ?_
        refine aw_tE (f b2 11) (by rw [cpP_o (by omega), cq1_o (by omega)]) ?_
        refine ax_puti (ci := 0) 11 dX0_copyFrom_118 rfl lfX0_50 (by decide) (by assumption) (by rfl) rfl rfl ?_
        refine aw_return dX0_copyFrom_121 rfl ?_
        have hip : i = 6 := by have := (nI_leI (a := 6) (b := i) (by omega) (by omega)).mp c68; omega
        subst hip
        exact ⟨rfl, rfl⟩
      · have hi : i < 6 := Nat.not_le.mp (fun z => c68 (nI_le z (by omega)))
        refine aw_aload_n (i := 0) dX0_copyFrom_71 rfl rfl ?_
        refine ax_getr (ci := 0) 8 dX0_copyFrom_72 rfl lfX0_28 (by decide) (by assumption) (by rfl) ?_
        refine aw_iload_n (i := 2) dX0_copyFrom_75 rfl rfl ?_
        refine aw_aload_n (i := 1) dX0_copyFrom_76 rfl rfl ?_
        refine ax_getr (ci := 0) 8 dX0_copyFrom_77 rfl lfX0_28 (by decide) (by assumption) (by rfl) ?_
        refine aw_iload_n (i := 2) dX0_copyFrom_80 rfl rfl ?_
        refine ax_ialdN dX0_copyFrom_81 (by assumption) (by omega) (Nat.le_of_ble_eq_true rfl) ?_
        refine aw_tE ((cq1 f b b2) (b2 + 9) i) (by rw [cpP_o (by omega)]) ?_
        refine ax_iastN dX0_copyFrom_82 (by assumption) (by omega) (Nat.le_of_ble_eq_true rfl) ?_
        refine aw_aload_n (i := 0) dX0_copyFrom_83 rfl rfl ?_
        refine ax_getr (ci := 0) 9 dX0_copyFrom_84 rfl lfX0_31 (by decide) (by assumption) (by rfl) ?_
        refine aw_iload_n (i := 2) dX0_copyFrom_87 rfl rfl ?_
        refine aw_aload_n (i := 1) dX0_copyFrom_88 rfl rfl ?_
        refine ax_getr (ci := 0) 9 dX0_copyFrom_89 rfl lfX0_31 (by decide) (by assumption) (by rfl) ?_
        refine aw_iload_n (i := 2) dX0_copyFrom_92 rfl rfl ?_
        refine ax_ialdN dX0_copyFrom_93 (by assumption) (by omega) (Nat.le_of_ble_eq_true rfl) ?_
        refine aw_tE ((cq1 f b b2) (b2 + 10) i) (by rw [up2_ne (by omega), cpP_o (by omega)]) ?_
        refine ax_iastN dX0_copyFrom_94 (by assumption) (by omega) (Nat.le_of_ble_eq_true rfl) ?_
        refine aw_aload_n (i := 0) dX0_copyFrom_95 rfl rfl ?_
        refine ax_getr (ci := 0) 10 dX0_copyFrom_96 rfl lfX0_34 (by decide) (by assumption) (by rfl) ?_
        refine aw_iload_n (i := 2) dX0_copyFrom_99 rfl rfl ?_
        refine aw_aload_n (i := 1) dX0_copyFrom_100 rfl rfl ?_
        refine ax_getr (ci := 0) 10 dX0_copyFrom_101 rfl lfX0_34 (by decide) (by assumption) (by rfl) ?_
        refine aw_iload_n (i := 2) dX0_copyFrom_104 rfl rfl ?_
        refine ax_ialdN dX0_copyFrom_105 (by assumption) (by omega) (Nat.le_of_ble_eq_true rfl) ?_
        refine aw_tE ((cq1 f b b2) (b2 + 11) i) (by rw [up2_ne (by omega), up2_ne (by omega), cpP_o (by omega)]) ?_
        refine ax_iastN dX0_copyFrom_106 (by assumption) (by omega) (Nat.le_of_ble_eq_true rfl) ?_
        refine aw_incN (L' := [_, _, _]) dX0_copyFrom_107 rfl (Nat.le_of_ble_eq_true rfl) rfl rfl ?_
        refine aw_goto (tgt := 65) dX0_copyFrom_110 (by decide) ?_
        have e := ih (i + 1) hi (by omega)
        rw [← cpP_s (cq1 f b b2) b b2 9 i (a0 := b + 9) (a1 := b + 10) (a2 := b + 11) (e0 := b2 + 9) (e1 := b2 + 10) (e2 := b2 + 11) rfl (by omega) (by omega) rfl (by omega) (by omega)] at e
        exact e
  have loop1 : ∀ (m i : Nat), i ≤ 8 → 8 - i < m → AW V MX0_copyFrom (d + 2) 0 0 7 [some (.ref b), some (.ref b2), some (.int (nI i))] [] (hp (cpP (csF f b b2) b b2 6 i, τ)) (fun r' h' => r' = none ∧ h' = hp (caF f b b2, τ)) := by
    intro m
    induction m with
    | zero => intro i h1 h2; omega
    | succ m ih =>
      intro i h1 h2
      refine aw_iload_n (i := 2) dX0_copyFrom_7 rfl rfl ?_
      refine aw_bipush (v := 8) dX0_copyFrom_8 (by decide) ?_
      refine aw_tE (nI 8) rfl ?_
      refine aw_icmp_ge (tgt := 55) dX0_copyFrom_10 (by decide) (fun c10 => ?_) (fun c10 => ?_)
      · refine aw_aload_n (i := 0) dX0_copyFrom_55 rfl rfl ?_
        refine aw_aload_n (i := 1) dX0_copyFrom_56 rfl rfl ?_
        refine ax_geti (ci := 0) 5 dX0_copyFrom_57 rfl lfX0_44 (by decide) (by assumption) (by rfl) ?_
        refine aw_tE (f b2 5) (by rw [cpP_o (by omega), csF_o (by omega)]) ?_
        refine ax_puti (ci := 0) 5 dX0_copyFrom_60 rfl lfX0_44 (by decide) (by assumption) (by rfl) rfl rfl ?_
        refine aw_iconst (v := 0) dX0_copyFrom_63 (by decide) ?_
        refine aw_istore_n (i := 2) (L' := [_, _, _]) dX0_copyFrom_64 rfl (Nat.le_of_ble_eq_true rfl) rfl rfl ?_
        have hip : i = 8 := by have := (nI_leI (a := 8) (b := i) (by omega) (by omega)).mp c10; omega
        subst hip
        have e := loop2 (6 + 1) 0 (Nat.zero_le _) (by omega)
        rw [cpP_0] at e
        exact e
      · have hi : i < 8 := Nat.not_le.mp (fun z => c10 (nI_le z (by omega)))
        refine aw_aload_n (i := 0) dX0_copyFrom_13 rfl rfl ?_
        refine ax_getr (ci := 0) 2 dX0_copyFrom_14 rfl lfX0_18 (by decide) (by assumption) (by rfl) ?_
        refine aw_iload_n (i := 2) dX0_copyFrom_17 rfl rfl ?_
        refine aw_aload_n (i := 1) dX0_copyFrom_18 rfl rfl ?_
        refine ax_getr (ci := 0) 2 dX0_copyFrom_19 rfl lfX0_18 (by decide) (by assumption) (by rfl) ?_
        refine aw_iload_n (i := 2) dX0_copyFrom_22 rfl rfl ?_
        refine ax_ialdN dX0_copyFrom_23 (by assumption) (by omega) (Nat.le_of_ble_eq_true rfl) ?_
        refine aw_tE ((csF f b b2) (b2 + 6) i) (by rw [cpP_o (by omega)]) ?_
        refine ax_iastN dX0_copyFrom_24 (by assumption) (by omega) (Nat.le_of_ble_eq_true rfl) ?_
        refine aw_aload_n (i := 0) dX0_copyFrom_25 rfl rfl ?_
        refine ax_getr (ci := 0) 3 dX0_copyFrom_26 rfl lfX0_22 (by decide) (by assumption) (by rfl) ?_
        refine aw_iload_n (i := 2) dX0_copyFrom_29 rfl rfl ?_
        refine aw_aload_n (i := 1) dX0_copyFrom_30 rfl rfl ?_
        refine ax_getr (ci := 0) 3 dX0_copyFrom_31 rfl lfX0_22 (by decide) (by assumption) (by rfl) ?_
        refine aw_iload_n (i := 2) dX0_copyFrom_34 rfl rfl ?_
        refine ax_ialdN dX0_copyFrom_35 (by assumption) (by omega) (Nat.le_of_ble_eq_true rfl) ?_
        refine aw_tE ((csF f b b2) (b2 + 7) i) (by rw [up2_ne (by omega), cpP_o (by omega)]) ?_
        refine ax_iastN dX0_copyFrom_36 (by assumption) (by omega) (Nat.le_of_ble_eq_true rfl) ?_
        refine aw_aload_n (i := 0) dX0_copyFrom_37 rfl rfl ?_
        refine ax_getr (ci := 0) 4 dX0_copyFrom_38 rfl lfX0_25 (by decide) (by assumption) (by rfl) ?_
        refine aw_iload_n (i := 2) dX0_copyFrom_41 rfl rfl ?_
        refine aw_aload_n (i := 1) dX0_copyFrom_42 rfl rfl ?_
        refine ax_getr (ci := 0) 4 dX0_copyFrom_43 rfl lfX0_25 (by decide) (by assumption) (by rfl) ?_
        refine aw_iload_n (i := 2) dX0_copyFrom_46 rfl rfl ?_
        refine ax_ialdN dX0_copyFrom_47 (by assumption) (by omega) (Nat.le_of_ble_eq_true rfl) ?_
        refine aw_tE ((csF f b b2) (b2 + 8) i) (by rw [up2_ne (by omega), up2_ne (by omega), cpP_o (by omega)]) ?_
        refine ax_iastN dX0_copyFrom_48 (by assumption) (by omega) (Nat.le_of_ble_eq_true rfl) ?_
        refine aw_incN (L' := [_, _, _]) dX0_copyFrom_49 rfl (Nat.le_of_ble_eq_true rfl) rfl rfl ?_
        refine aw_goto (tgt := 7) dX0_copyFrom_52 (by decide) ?_
        have e := ih (i + 1) hi (by omega)
        rw [← cpP_s (csF f b b2) b b2 6 i (a0 := b + 6) (a1 := b + 7) (a2 := b + 8) (e0 := b2 + 6) (e1 := b2 + 7) (e2 := b2 + 8) rfl (by omega) (by omega) rfl (by omega) (by omega)] at e
        exact e
  refine aw_aload_n (i := 0) dX0_copyFrom_0 rfl rfl ?_
  refine aw_aload_n (i := 1) dX0_copyFrom_1 rfl rfl ?_
  refine ax_callV1v (M' := MX0_copySievesFrom) (ci := 0) dX0_copyFrom_2 lmX0_53 oX0_copySievesFrom (by decide +kernel) (by assumption) rfl rfl (Nat.le_of_ble_eq_true rfl) (f_X0_copySievesFrom hb hb2 hap) ?_
  refine aw_iconst (v := 0) dX0_copyFrom_5 (by decide) ?_
  refine aw_istore_n (i := 2) (L' := [_, _, _]) dX0_copyFrom_6 rfl (Nat.le_of_ble_eq_true rfl) rfl rfl ?_
  have e := loop1 (8 + 1) 0 (Nat.zero_le _) (by omega)
  rw [cpP_0] at e
  exact e
abbrev seenP (f : Nat → Nat → Int32) (b : Nat) (t : Int32) (i : Nat) : Prop := ¬ (f (b + 9) i = t ∧ (0 ≤ f (b + 10) i ∧ f (b + 10) i ≤ f b 1 - 1) ∧ ¬ f (b + 2 + (f (b + 10) i).toNatClampNeg) 3 = f (b + 11) i)
set_option maxRecDepth 100000 in
set_option maxHeartbeats 4000000 in
theorem f_X0_saysAsSeenBehind {V : am_V} {d b : Nat} {f : Nat → Nat → Int32} {τ : Nat → Nat → Int64} (hb : am_isB b) {n s : Nat} (hn4 : n ≤ 4) (hn : f b 1 = nI n) (hs6 : s ≤ 6) (hs : f b 11 = nI s) (t : Int32) : AF V MX0_saysAsSeenBehind (d + 2) [.ref b, .int t] (f, τ) (some (.int (b2i (∀ i, i < s → seenP f b t i)))) (f, τ) := by
  have tB := tb_B hb
  have tk := tb_Bk hb
  have t6 := tb_B6 hb
  have t7 := tb_B7 hb
  have t8 := tb_B8 hb
  have t9 := tb_B9 hb
  have t10 := tb_B10 hb
  have t11 := tb_B11 hb
  refine AM.of (L := [some (.ref b), some (.int t), none, none]) (by decide +kernel) (Nat.le_of_ble_eq_true rfl) rfl ?_
  have loop : ∀ (m i : Nat) (z : Option Value) (ha : ∀ j, j < i → seenP f b t j), i ≤ s → s - i < m → AW V MX0_saysAsSeenBehind (d + 2) 0 0 2 [some (.ref b), some (.int t), some (.int (nI i)), z] [] (hp (f, τ)) (fun r' h' => r' = some (.int (b2i (∀ i, i < s → seenP f b t i))) ∧ h' = hp (f, τ)) := by
    intro m
    induction m with
    | zero => intro i z ha h1 h2; omega
    | succ m ih =>
      intro i z ha h1 h2
      refine aw_iload_n (i := 2) dX0_saysAsSeenBehind_2 rfl rfl ?_
      refine aw_aload_n (i := 0) dX0_saysAsSeenBehind_3 rfl rfl ?_
      refine ax_geti (ci := 0) 11 dX0_saysAsSeenBehind_4 rfl lfX0_50 (by decide) (by assumption) (by rfl) ?_
      refine aw_tE (nI s) hs ?_
      refine aw_icmp_ge (tgt := 61) dX0_saysAsSeenBehind_7 (by decide) (fun c7 => ?_) (fun c7 => ?_)
      · refine aw_iconst (v := 1) dX0_saysAsSeenBehind_61 (by decide) ?_
        refine aw_ireturn (ty := .boolean) dX0_saysAsSeenBehind_62 rfl (by decide) ?_
        have hip : i = s := by have := (nI_leI (a := s) (b := i) (by omega) (by omega)).mp c7; omega
        subst hip
        exact ⟨congrArg (fun z => some (Value.int z)) (b2i_t ha).symm, rfl⟩
      · have hi : i < s := Nat.not_le.mp (fun z => c7 (nI_le z (by omega)))
        refine aw_aload_n (i := 0) dX0_saysAsSeenBehind_10 rfl rfl ?_
        refine ax_getr (ci := 0) 9 dX0_saysAsSeenBehind_11 rfl lfX0_31 (by decide) (by assumption) (by rfl) ?_
        refine aw_iload_n (i := 2) dX0_saysAsSeenBehind_14 rfl rfl ?_
        refine ax_ialdN dX0_saysAsSeenBehind_15 (by assumption) (by omega) (Nat.le_of_ble_eq_true rfl) ?_
        refine aw_istore_n (i := 3) (L' := [_, _, _, _]) dX0_saysAsSeenBehind_16 rfl (Nat.le_of_ble_eq_true rfl) rfl rfl ?_
        refine aw_aload_n (i := 0) dX0_saysAsSeenBehind_17 rfl rfl ?_
        refine ax_getr (ci := 0) 8 dX0_saysAsSeenBehind_18 rfl lfX0_28 (by decide) (by assumption) (by rfl) ?_
        refine aw_iload_n (i := 2) dX0_saysAsSeenBehind_21 rfl rfl ?_
        refine ax_ialdN dX0_saysAsSeenBehind_22 (by assumption) (by omega) (Nat.le_of_ble_eq_true rfl) ?_
        refine aw_iload_n (i := 1) dX0_saysAsSeenBehind_23 rfl rfl ?_
        refine aw_icmp_ne (tgt := 55) dX0_saysAsSeenBehind_24 (by decide) (fun c24 => ?_) (fun c24 => ?_)
        · refine aw_incN (L' := [_, _, _, _]) dX0_saysAsSeenBehind_55 rfl (Nat.le_of_ble_eq_true rfl) rfl rfl ?_
          refine aw_goto (tgt := 2) dX0_saysAsSeenBehind_58 (by decide) ?_
          first | exact ih (i + 1) _ (lt_s ha (fun q => c24 q.1)) hi (by omega) | exact ih (i + 1) _ (lt_s ha (fun q => by rw [b2i_t q.2.1] at c32; exact absurd c32 (by decide))) hi (by omega) | exact ih (i + 1) _ (lt_s ha (fun q => q.2.2 (by rw [ej, nI_clamp (by omega)]; exact c50))) hi (by omega)
        · refine aw_aload_n (i := 0) dX0_saysAsSeenBehind_27 rfl rfl ?_
          refine aw_iload_n (i := 3) dX0_saysAsSeenBehind_28 rfl rfl ?_
          refine ax_callV1i (M' := MX0_hasKey) (ci := 0) dX0_saysAsSeenBehind_29 lmX0_127 oX0_hasKey (by decide +kernel) (by assumption) rfl rfl (Nat.le_of_ble_eq_true rfl) (f_X0_hasKey hb _) ?_
          refine aw_if_eq (tgt := 55) dX0_saysAsSeenBehind_32 (by decide) (fun c32 => ?_) (fun c32 => ?_)
          · refine aw_incN (L' := [_, _, _, _]) dX0_saysAsSeenBehind_55 rfl (Nat.le_of_ble_eq_true rfl) rfl rfl ?_
            refine aw_goto (tgt := 2) dX0_saysAsSeenBehind_58 (by decide) ?_
            first | exact ih (i + 1) _ (lt_s ha (fun q => c24 q.1)) hi (by omega) | exact ih (i + 1) _ (lt_s ha (fun q => by rw [b2i_t q.2.1] at c32; exact absurd c32 (by decide))) hi (by omega) | exact ih (i + 1) _ (lt_s ha (fun q => q.2.2 (by rw [ej, nI_clamp (by omega)]; exact c50))) hi (by omega)
          · have hk : 0 ≤ f (b + 10) i ∧ f (b + 10) i ≤ f b 1 - 1 := Decidable.not_not.mp (fun q => c32 (b2i_f q))
            obtain ⟨j, hj, ej⟩ : ∃ j, j < n ∧ f (b + 10) i = nI j := key_of hn4 (by rw [← hn]; exact hk)
            have tK := tb_K hb (k := j) (by omega)
            refine aw_aload_n (i := 0) dX0_saysAsSeenBehind_35 rfl rfl ?_
            refine ax_getr (ci := 0) 0 dX0_saysAsSeenBehind_36 rfl lfX0_11 (by decide) (by assumption) (by rfl) ?_
            refine aw_iload_n (i := 3) dX0_saysAsSeenBehind_39 rfl rfl ?_
            refine aw_tE (nI j) ej ?_
            refine ax_keyN dX0_saysAsSeenBehind_40 (by assumption) (by omega) ?_
            refine ax_geti (ci := 1) 3 dX0_saysAsSeenBehind_41 rfl lfX0_79 (by decide) (by assumption) (by rfl) ?_
            refine aw_aload_n (i := 0) dX0_saysAsSeenBehind_44 rfl rfl ?_
            refine ax_getr (ci := 0) 10 dX0_saysAsSeenBehind_45 rfl lfX0_34 (by decide) (by assumption) (by rfl) ?_
            refine aw_iload_n (i := 2) dX0_saysAsSeenBehind_48 rfl rfl ?_
            refine ax_ialdN dX0_saysAsSeenBehind_49 (by assumption) (by omega) (Nat.le_of_ble_eq_true rfl) ?_
            refine aw_icmp_eq (tgt := 55) dX0_saysAsSeenBehind_50 (by decide) (fun c50 => ?_) (fun c50 => ?_)
            · refine aw_incN (L' := [_, _, _, _]) dX0_saysAsSeenBehind_55 rfl (Nat.le_of_ble_eq_true rfl) rfl rfl ?_
              refine aw_goto (tgt := 2) dX0_saysAsSeenBehind_58 (by decide) ?_
              first | exact ih (i + 1) _ (lt_s ha (fun q => c24 q.1)) hi (by omega) | exact ih (i + 1) _ (lt_s ha (fun q => by rw [b2i_t q.2.1] at c32; exact absurd c32 (by decide))) hi (by omega) | exact ih (i + 1) _ (lt_s ha (fun q => q.2.2 (by rw [ej, nI_clamp (by omega)]; exact c50))) hi (by omega)
            · refine aw_iconst (v := 0) dX0_saysAsSeenBehind_53 (by decide) ?_
              refine aw_ireturn (ty := .boolean) dX0_saysAsSeenBehind_54 rfl (by decide) ?_
              exact ⟨congrArg (fun z => some (Value.int z)) (b2i_f (fun q => q i hi ⟨c24, hk, by rw [ej, nI_clamp (by omega)]; exact c50⟩)).symm, rfl⟩
  refine aw_iconst (v := 0) dX0_saysAsSeenBehind_0 (by decide) ?_
  refine aw_istore_n (i := 2) (L' := [_, _, _, _]) dX0_saysAsSeenBehind_1 rfl (Nat.le_of_ble_eq_true rfl) rfl rfl ?_
  exact loop (s + 1) 0 _ (fun _ q => absurd q (Nat.not_lt_zero _)) (Nat.zero_le _) (by omega)
/-- how many counts of ticks must be looked at -/
def lastN (f : Nat → Nat → Int32) (b s : Nat) : Nat := if lastF (f (b + 9)) s < 0 then 0 else (lastF (f (b + 9)) s).toNatClampNeg + 1
theorem lastF_or (g : Nat → Int32) : ∀ s, (∀ i, i < s → ∃ q, q ≤ 40 ∧ g i = nI q) → lastF g s = -4 ∨ ∃ q, q ≤ 40 ∧ lastF g s = nI q := by
  intro s
  induction s with
  | zero => intro _; exact Or.inl rfl
  | succ s ih =>
    intro h
    obtain ⟨q, hq, eq⟩ := h s (Nat.lt_succ_self s)
    rw [lastF, imax, eq]
    rcases ih (fun i hi => h i (Nat.lt_succ_of_lt hi)) with e | ⟨q2, hq2, e⟩
    · rw [e, if_pos (Int32.lt_of_lt_of_le (by decide) (nI_pos' (by omega)))]
      exact Or.inr ⟨q, hq, rfl⟩
    · rw [e]
      split
      · exact Or.inr ⟨q, hq, rfl⟩
      · exact Or.inr ⟨q2, hq2, rfl⟩
abbrev asSeenP (f : Nat → Nat → Int32) (b n p s T : Nat) : Prop := ∀ t, t < T → ∀ i, i < s → seenP (advF f b n p t) b (nI t) i
set_option maxRecDepth 100000 in
set_option maxHeartbeats 4000000 in
theorem f_X0_isAsSeen {V : am_V} {d b : Nat} {f : Nat → Nat → Int32} {τ : Nat → Nat → Int64} (hb : am_isB b) {n p s : Nat} (hn4 : n ≤ 4) (hn : f b 1 = nI n) (hp8 : p ≤ 8) (hp1 : f b 5 = nI p) (hs6 : s ≤ 6) (hs : f b 11 = nI s) (hseen : ∀ i, i < s → ∃ q, q ≤ 40 ∧ f (b + 9) i = nI q) : AGi V MX0_isAsSeen (d + 5) [.ref b] (f, τ) (fun x S' => x = b2i (asSeenP f b n p s (lastN f b s)) ∧ ∃ t, S' = (advF f b n p t, τ)) := by
  have tB := tb_B hb
  have tk := tb_Bk hb
  have t6 := tb_B6 hb
  have t7 := tb_B7 hb
  have t8 := tb_B8 hb
  have t9 := tb_B9 hb
  have t10 := tb_B10 hb
  have t11 := tb_B11 hb
  refine AM.of (L := [some (.ref b), none, none]) (by decide +kernel) (Nat.le_of_ble_eq_true rfl) rfl ?_
  have hl := lastF_or (f (b + 9)) s hseen
  have hT : ∃ T, T ≤ 41 ∧ lastN f b s = T ∧ ∀ i, i ≤ T → (lastF (f (b + 9)) s < nI i ↔ T ≤ i) := by
    rcases hl with e | ⟨q, hq, e⟩
    · refine ⟨0, by omega, by rw [lastN, e, if_pos (by decide)], fun i hi => ⟨fun _ => Nat.zero_le _, fun _ => by rw [e]; exact Int32.lt_of_lt_of_le (by decide) (nI_pos' (by omega))⟩⟩
    · refine ⟨q + 1, by omega, by rw [lastN, e, if_neg (nI_pos (by omega)), nI_clamp (by omega)], fun i hi => by rw [e, nI_ltI (by omega) (by omega)]; omega⟩
  obtain ⟨T, hT41, eT, hTi⟩ := hT
  rw [eT]
  have loop : ∀ (m i : Nat), i ≤ T → T - i < m → (∀ t, t < i → ∀ j, j < s → seenP (advF f b n p t) b (nI t) j) → AW V MX0_isAsSeen (d + 5) 0 0 7 [some (.ref b), some (.int (lastF (f (b + 9)) s)), some (.int (nI i))] [] (hp (advF f b n p i, τ)) (fun r' h' => ∃ (x : Int32) (S' : fm), r' = some (.int x) ∧ h' = hp S' ∧ (x = b2i (asSeenP f b n p s T) ∧ ∃ t, S' = (advF f b n p t, τ))) := by
    intro m
    induction m with
    | zero => intro i h1 h2; omega
    | succ m ih =>
      intro i h1 h2 ha
      refine aw_iload_n (i := 2) dX0_isAsSeen_7 rfl rfl ?_
      refine aw_iload_n (i := 1) dX0_isAsSeen_8 rfl rfl ?_
      refine aw_icmp_gt (tgt := 33) dX0_isAsSeen_9 (by decide) (fun c9 => ?_) (fun c9 => ?_)
      · refine aw_iconst (v := 1) dX0_isAsSeen_33 (by decide) ?_
        refine aw_ireturn (ty := .boolean) dX0_isAsSeen_34 rfl (by decide) ?_
        have hip : T = i := Nat.le_antisymm ((hTi i h1).mp c9) h1
        subst hip
        exact ⟨_, _, rfl, rfl, (b2i_t ha).symm, _, rfl⟩
      · have hi : i < T := Nat.not_le.mp (fun z => c9 ((hTi i h1).mpr z))
        refine aw_aload_n (i := 0) dX0_isAsSeen_12 rfl rfl ?_
        refine aw_iload_n (i := 2) dX0_isAsSeen_13 rfl rfl ?_
        refine ax_callV1i (M' := MX0_saysAsSeenBehind) (ci := 0) dX0_isAsSeen_14 lmX0_115 oX0_saysAsSeenBehind (by decide +kernel) (by assumption) rfl rfl (Nat.le_of_ble_eq_true rfl) (f_X0_saysAsSeenBehind (s := s) hb hn4 (by rw [advF_b (by decide)]; exact hn) hs6 (by rw [advF_b (by decide)]; exact hs) (nI i)) ?_
        refine aw_if_ne (tgt := 22) dX0_isAsSeen_17 (by decide) (fun c17 => ?_) (fun c17 => ?_)
        · refine aw_aload_n (i := 0) dX0_isAsSeen_22 rfl rfl ?_
          refine aw_iconst (v := 1) dX0_isAsSeen_23 (by decide) ?_
          refine ax_callV1v (M' := MX0_advance) (ci := 0) dX0_isAsSeen_24 lmX0_119 oX0_advance (by decide +kernel) (by assumption) rfl rfl (Nat.le_of_ble_eq_true rfl) (f_X0_advance (N := 1) hb hn4 (by rw [advF_b (by decide)]; exact hn) hp8 (by rw [advF_b (by decide)]; exact hp1) (by omega)) ?_
          refine aw_incN (L' := [_, _, _]) dX0_isAsSeen_27 rfl (Nat.le_of_ble_eq_true rfl) rfl rfl ?_
          refine aw_goto (tgt := 7) dX0_isAsSeen_30 (by decide) ?_
          exact ih (i + 1) hi (by omega) (lt_s ha (Decidable.not_not.mp (fun q => c17 (b2i_f q))))
        · refine aw_iconst (v := 0) dX0_isAsSeen_20 (by decide) ?_
          refine aw_ireturn (ty := .boolean) dX0_isAsSeen_21 rfl (by decide) ?_
          exact ⟨_, _, rfl, rfl, (b2i_f (fun q => by rw [b2i_t (q i hi)] at c17; exact absurd c17 (by decide))).symm, i, rfl⟩
  refine aw_aload_n (i := 0) dX0_isAsSeen_0 rfl rfl ?_
  refine ax_callV0i (M' := MX0_lastSeenTicks) (ci := 0) dX0_isAsSeen_1 lmX0_112 oX0_lastSeenTicks (by decide +kernel) (by assumption) rfl rfl (Nat.le_of_ble_eq_true rfl) (f_X0_lastSeenTicks hb hs6 hs) ?_
  refine aw_istore_n (i := 1) (L' := [_, _, _]) dX0_isAsSeen_4 rfl (Nat.le_of_ble_eq_true rfl) rfl rfl ?_
  refine aw_iconst (v := 0) dX0_isAsSeen_5 (by decide) ?_
  refine aw_istore_n (i := 2) (L' := [_, _, _]) dX0_isAsSeen_6 rfl (Nat.le_of_ble_eq_true rfl) rfl rfl ?_
  exact loop (T + 1) 0 (Nat.zero_le _) (by omega) (fun _ q => absurd q (Nat.not_lt_zero _))
def rsP (f : Nat → Nat → Int32) (b i0 i : Nat) : Nat → Nat → Int32 := fun c j => if (c = b + 6 ∨ c = b + 7 ∨ c = b + 8) ∧ i0 ≤ j ∧ j < i then f c (j + 1) else f c j
theorem rsP_0 (f : Nat → Nat → Int32) (b i0 : Nat) : rsP f b i0 i0 = f := by
  funext c j
  unfold rsP
  rw [if_neg (by omega)]
theorem rsP_o {f : Nat → Nat → Int32} {b i0 i c j : Nat} (h : ¬ (c = b + 6 ∨ c = b + 7 ∨ c = b + 8) ∨ i ≤ j) : rsP f b i0 i c j = f c j := by
  unfold rsP
  rw [if_neg (by omega)]
theorem rsP_s (f : Nat → Nat → Int32) (b i0 i : Nat) (h : i0 ≤ i) : up2 (up2 (up2 (rsP f b i0 i) (b + 6) i (f (b + 6) (i + 1))) (b + 7) i (f (b + 7) (i + 1))) (b + 8) i (f (b + 8) (i + 1)) = rsP f b i0 (i + 1) := by
  funext c j
  by_cases q : (c = b + 6 ∨ c = b + 7 ∨ c = b + 8) ∧ j = i
  · obtain ⟨q1, rfl⟩ := q
    have e : rsP f b i0 (j + 1) c j = f c (j + 1) := by unfold rsP; rw [if_pos ⟨q1, h, Nat.lt_succ_self j⟩]
    rw [e]
    rcases q1 with rfl | rfl | rfl
    · rw [up2_ne (by omega), up2_ne (by omega), up2_self]
    · rw [up2_ne (by omega), up2_self]
    · rw [up2_self]
  · rw [up2_ne (by omega), up2_ne (by omega), up2_ne (by omega)]
    unfold rsP
    by_cases q2 : (c = b + 6 ∨ c = b + 7 ∨ c = b + 8) ∧ i0 ≤ j ∧ j < i
    · rw [if_pos q2, if_pos (by omega)]
    · rw [if_neg q2, if_neg (by omega)]
def rmF (f : Nat → Nat → Int32) (b p i0 : Nat) : Nat → Nat → Int32 := up2 (rsP f b i0 (p - 1)) b 5 (nI (p - 1))
set_option maxRecDepth 100000 in
set_option maxHeartbeats 4000000 in
theorem f_X0_removePress {V : am_V} {d b : Nat} {f : Nat → Nat → Int32} {τ : Nat → Nat → Int64} (hb : am_isB b) {p i0 : Nat} (hp8 : p ≤ 8) (hp1 : f b 5 = nI p) (hi0 : i0 < p) : AF V MX0_removePress d [.ref b, .int (nI i0)] (f, τ) none (rmF f b p i0, τ) := by
  have tB := tb_B hb
  have tk := tb_Bk hb
  have t6 := tb_B6 hb
  have t7 := tb_B7 hb
  have t8 := tb_B8 hb
  have t9 := tb_B9 hb
  have t10 := tb_B10 hb
  have t11 := tb_B11 hb
  refine AM.of (L := [some (.ref b), some (.int (nI i0)), none]) (by decide +kernel) (Nat.le_of_ble_eq_true rfl) rfl ?_
  have loop : ∀ (m i : Nat), i0 ≤ i → i ≤ p - 1 → p - i < m → AW V MX0_removePress d 0 0 2 [some (.ref b), some (.int (nI i0)), some (.int (nI i))] [] (hp (rsP f b i0 i, τ)) (fun r' h' => r' = none ∧ h' = hp (rmF f b p i0, τ)) := by
    intro m
    induction m with
    | zero => intro i h0 h1 h2; omega
    | succ m ih =>
      intro i h0 h1 h2
      refine aw_iload_n (i := 2) dX0_removePress_2 rfl rfl ?_
      refine aw_iconst (v := 1) dX0_removePress_3 (by decide) ?_
      refine aw_iadd dX0_removePress_4 ?_
      refine aw_tE (nI (i + 1)) (nI_1 i) ?_
      refine aw_aload_n (i := 0) dX0_removePress_5 rfl rfl ?_
      refine ax_geti (ci := 0) 5 dX0_removePress_6 rfl lfX0_44 (by decide) (by assumption) (by rfl) ?_
      refine aw_tE (nI p) (by rw [rsP_o (by omega)]; exact hp1) ?_
      refine aw_icmp_ge (tgt := 60) dX0_removePress_9 (by decide) (fun c9 => ?_) (fun c9 => ?_)
      · refine aw_aload_n (i := 0) dX0_removePress_60 rfl rfl ?_
        refine aw_dup dX0_removePress_61 rfl ?_
        refine ax_geti (ci := 0) 5 dX0_removePress_62 rfl lfX0_44 (by decide) (by assumption) (by rfl) ?_
        refine aw_tE (nI p) (by rw [rsP_o (by omega)]; exact hp1) ?_
        refine aw_iconst (v := 1) dX0_removePress_65 (by decide) ?_
        refine aw_isub dX0_removePress_66 ?_
        refine aw_tE (nI (p - 1)) (pk_sub (a := p) (b := 1) (by omega)) ?_
        refine ax_puti (ci := 0) 5 dX0_removePress_67 rfl lfX0_44 (by decide) (by assumption) (by rfl) rfl rfl ?_
        refine aw_return dX0_removePress_70 rfl ?_
        have hip : i = p - 1 := by have := (nI_leI (a := p) (b := i + 1) (by omega) (by omega)).mp c9; omega
        subst hip
        exact ⟨rfl, rfl⟩
      · have hi : i + 1 < p := Nat.not_le.mp (fun z => c9 (nI_le z (by omega)))
        refine aw_aload_n (i := 0) dX0_removePress_12 rfl rfl ?_
        refine ax_getr (ci := 0) 2 dX0_removePress_13 rfl lfX0_18 (by decide) (by assumption) (by rfl) ?_
        refine aw_iload_n (i := 2) dX0_removePress_16 rfl rfl ?_
        refine aw_aload_n (i := 0) dX0_removePress_17 rfl rfl ?_
        refine ax_getr (ci := 0) 2 dX0_removePress_18 rfl lfX0_18 (by decide) (by assumption) (by rfl) ?_
        refine aw_iload_n (i := 2) dX0_removePress_21 rfl rfl ?_
        refine aw_iconst (v := 1) dX0_removePress_22 (by decide) ?_
        refine aw_iadd dX0_removePress_23 ?_
        refine aw_tE (nI (i + 1)) (nI_1 i) ?_
        refine ax_ialdN dX0_removePress_24 (by assumption) (by omega) (Nat.le_of_ble_eq_true rfl) ?_
        refine aw_tE (f (b + 6) (i + 1)) (by rw [rsP_o (by omega)]) ?_
        refine ax_iastN dX0_removePress_25 (by assumption) (by omega) (Nat.le_of_ble_eq_true rfl) ?_
        refine aw_aload_n (i := 0) dX0_removePress_26 rfl rfl ?_
        refine ax_getr (ci := 0) 3 dX0_removePress_27 rfl lfX0_22 (by decide) (by assumption) (by rfl) ?_
        refine aw_iload_n (i := 2) dX0_removePress_30 rfl rfl ?_
        refine aw_aload_n (i := 0) dX0_removePress_31 rfl rfl ?_
        refine ax_getr (ci := 0) 3 dX0_removePress_32 rfl lfX0_22 (by decide) (by assumption) (by rfl) ?_
        refine aw_iload_n (i := 2) dX0_removePress_35 rfl rfl ?_
        refine aw_iconst (v := 1) dX0_removePress_36 (by decide) ?_
        refine aw_iadd dX0_removePress_37 ?_
        refine aw_tE (nI (i + 1)) (nI_1 i) ?_
        refine ax_ialdN dX0_removePress_38 (by assumption) (by omega) (Nat.le_of_ble_eq_true rfl) ?_
        refine aw_tE (f (b + 7) (i + 1)) (by rw [up2_ne (by omega), rsP_o (by omega)]) ?_
        refine ax_iastN dX0_removePress_39 (by assumption) (by omega) (Nat.le_of_ble_eq_true rfl) ?_
        refine aw_aload_n (i := 0) dX0_removePress_40 rfl rfl ?_
        refine ax_getr (ci := 0) 4 dX0_removePress_41 rfl lfX0_25 (by decide) (by assumption) (by rfl) ?_
        refine aw_iload_n (i := 2) dX0_removePress_44 rfl rfl ?_
        refine aw_aload_n (i := 0) dX0_removePress_45 rfl rfl ?_
        refine ax_getr (ci := 0) 4 dX0_removePress_46 rfl lfX0_25 (by decide) (by assumption) (by rfl) ?_
        refine aw_iload_n (i := 2) dX0_removePress_49 rfl rfl ?_
        refine aw_iconst (v := 1) dX0_removePress_50 (by decide) ?_
        refine aw_iadd dX0_removePress_51 ?_
        refine aw_tE (nI (i + 1)) (nI_1 i) ?_
        refine ax_ialdN dX0_removePress_52 (by assumption) (by omega) (Nat.le_of_ble_eq_true rfl) ?_
        refine aw_tE (f (b + 8) (i + 1)) (by rw [up2_ne (by omega), up2_ne (by omega), rsP_o (by omega)]) ?_
        refine ax_iastN dX0_removePress_53 (by assumption) (by omega) (Nat.le_of_ble_eq_true rfl) ?_
        refine aw_incN (L' := [_, _, _]) dX0_removePress_54 rfl (Nat.le_of_ble_eq_true rfl) rfl rfl ?_
        refine aw_goto (tgt := 2) dX0_removePress_57 (by decide) ?_
        have e := ih (i + 1) (by omega) (by omega) (by omega)
        rw [← rsP_s f b i0 i h0] at e
        exact e
  refine aw_iload_n (i := 1) dX0_removePress_0 rfl rfl ?_
  refine aw_istore_n (i := 2) (L' := [_, _, _]) dX0_removePress_1 rfl (Nat.le_of_ble_eq_true rfl) rfl rfl ?_
  have e := loop (p + 1) i0 (Nat.le_refl _) (by omega) (by omega)
  rw [rsP_0] at e
  exact e
