def cpR (f : Nat → Nat → Int32) (c0 o0 c1 o1 i : Nat) : Nat → Nat → Int32 := fun c j => if c = c0 ∧ o0 ≤ j ∧ j < o0 + i then f c1 (j - o0 + o1) else f c j
theorem cpR_0 (f : Nat → Nat → Int32) (c0 o0 c1 o1 : Nat) : cpR f c0 o0 c1 o1 0 = f := by
  funext c j
  unfold cpR
  rw [if_neg (by omega)]
theorem cpR_o {f : Nat → Nat → Int32} {c0 o0 c1 o1 i c j : Nat} (h : ¬ (c = c0 ∧ o0 ≤ j ∧ j < o0 + i)) : cpR f c0 o0 c1 o1 i c j = f c j := by
  unfold cpR
  rw [if_neg h]
theorem cpR_i {f : Nat → Nat → Int32} {c0 o0 c1 o1 i j : Nat} (h : j < i) : cpR f c0 o0 c1 o1 i c0 (o0 + j) = f c1 (o1 + j) := by
  unfold cpR
  rw [if_pos (by omega), show o0 + j - o0 + o1 = o1 + j by omega]
theorem cpR_s (f : Nat → Nat → Int32) (c0 o0 c1 o1 i : Nat) : up2 (cpR f c0 o0 c1 o1 i) c0 (o0 + i) (f c1 (o1 + i)) = cpR f c0 o0 c1 o1 (i + 1) := by
  funext c j
  by_cases q : c = c0 ∧ j = o0 + i
  · obtain ⟨rfl, rfl⟩ := q
    rw [up2_self, cpR_i (Nat.lt_succ_self i)]
  · rw [up2_ne q]
    unfold cpR
    by_cases q2 : c = c0 ∧ o0 ≤ j ∧ j < o0 + i
    · rw [if_pos q2, if_pos (by omega)]
    · rw [if_neg q2, if_neg (by omega)]
theorem cpR_s0 (f : Nat → Nat → Int32) (c0 c1 i : Nat) : up2 (cpR f c0 0 c1 0 i) c0 i (f c1 i) = cpR f c0 0 c1 0 (i + 1) := by
  have e := cpR_s f c0 0 c1 0 i
  rw [Nat.zero_add] at e
  exact e
def stF (f : Nat → Nat → Int32) : Nat → Nat → Int32 := up2 (up2 (zrP (cpR f 66 0 65 0 75) 70 4) 64 15 0) 64 16 (-4)
def seF (f : Nat → Nat → Int32) : Nat → Nat → Int32 := cpR f 65 0 66 0 75
set_option maxRecDepth 100000 in
set_option maxHeartbeats 1000000 in
theorem f_X5_starts {V : am_V} {d : Nat} {f : Nat → Nat → Int32} {τ : Nat → Nat → Int64} : AF V MX5_starts d [.ref 64] (f, τ) none (stF f, τ) := by
  have tM := tb_M
  have m65 := tb_65
  have m66 := tb_66
  have m67 := tb_67
  have m68 := tb_68
  have m69 := tb_69
  have m70 := tb_70
  have m71 := tb_71
  have m72 := tb_72
  have m73 := tb_73
  have m74 := tb_74
  have m75 := tb_75
  have m76 := tb_76
  refine AM.of (L := [some (.ref 64), none]) (by decide +kernel) (Nat.le_of_ble_eq_true rfl) rfl ?_
  have loop2 : ∀ (m i : Nat), i ≤ 4 → 4 - i < m → AW V MX5_starts d 0 0 28 [some (.ref 64), some (.int (nI i))] [] (hp (zrP (cpR f 66 0 65 0 75) 70 i, τ)) (fun r' h' => r' = none ∧ h' = hp (stF f, τ)) := by
    intro m
    induction m with
    | zero => intro i h1 h2; omega
    | succ m ih =>
      intro i h1 h2
      refine aw_iload_n (i := 1) dX5_starts_28 rfl rfl ?_
      refine aw_iconst (v := 4) dX5_starts_29 (by decide) ?_
      refine aw_tE (nI 4) rfl ?_
      refine aw_icmp_ge (tgt := 46) dX5_starts_30 (by decide) (fun c30 => ?_) (fun c30 => ?_)
      · refine aw_aload_n (i := 0) dX5_starts_46 rfl rfl ?_
        refine aw_iconst (v := 0) dX5_starts_47 (by decide) ?_
        refine ax_puti (ci := 5) 15 dX5_starts_48 rfl lfX5_133 (by decide) (by assumption) (by rfl) rfl rfl ?_
        refine aw_aload_n (i := 0) dX5_starts_51 rfl rfl ?_
        refine aw_bipush (v := -4) dX5_starts_52 (by decide) ?_
        refine ax_puti (ci := 5) 16 dX5_starts_54 rfl lfX5_136 (by decide) (by assumption) (by rfl) rfl rfl ?_
        refine aw_return dX5_starts_57 rfl ?_
        have hip : i = 4 := by have := (nI_leI (a := 4) (b := i) (by omega) (by omega)).mp c30; omega
        subst hip
        exact ⟨rfl, rfl⟩
      · have hi : i < 4 := Nat.not_le.mp (fun z => c30 (nI_le z (by omega)))
        refine aw_aload_n (i := 0) dX5_starts_33 rfl rfl ?_
        refine ax_getr (ci := 5) 14 dX5_starts_34 rfl lfX5_26 (by decide) (by assumption) (by rfl) ?_
        refine aw_iload_n (i := 1) dX5_starts_37 rfl rfl ?_
        refine aw_iconst (v := 0) dX5_starts_38 (by decide) ?_
        refine ax_iastN dX5_starts_39 (by assumption) (by omega) (Nat.le_of_ble_eq_true rfl) ?_
        refine aw_incN (L' := [_, _]) dX5_starts_40 rfl (Nat.le_of_ble_eq_true rfl) rfl rfl ?_
        refine aw_goto (tgt := 28) dX5_starts_43 (by decide) ?_
        have e := ih (i + 1) hi (by omega)
        rw [← zrP_s] at e
        exact e
  have loop1 : ∀ (m i : Nat), i ≤ 75 → 75 - i < m → AW V MX5_starts d 0 0 2 [some (.ref 64), some (.int (nI i))] [] (hp (cpR f 66 0 65 0 i, τ)) (fun r' h' => r' = none ∧ h' = hp (stF f, τ)) := by
    intro m
    induction m with
    | zero => intro i h1 h2; omega
    | succ m ih =>
      intro i h1 h2
      refine aw_iload_n (i := 1) dX5_starts_2 rfl rfl ?_
      refine aw_bipush (v := 75) dX5_starts_3 (by decide) ?_
      refine aw_tE (nI 75) rfl ?_
      refine aw_icmp_ge (tgt := 26) dX5_starts_5 (by decide) (fun c5 => ?_) (fun c5 => ?_)
      · refine aw_iconst (v := 0) dX5_starts_26 (by decide) ?_
        refine aw_istore_n (i := 1) (L' := [_, _]) dX5_starts_27 rfl (Nat.le_of_ble_eq_true rfl) rfl rfl ?_
        have hip : i = 75 := by have := (nI_leI (a := 75) (b := i) (by omega) (by omega)).mp c5; omega
        subst hip
        have e := loop2 5 0 (by omega) (by omega)
        rw [zrP_0] at e
        exact e
      · have hi : i < 75 := Nat.not_le.mp (fun z => c5 (nI_le z (by omega)))
        refine aw_aload_n (i := 0) dX5_starts_8 rfl rfl ?_
        refine ax_getr (ci := 5) 1 dX5_starts_9 rfl lfX5_13 (by decide) (by assumption) (by rfl) ?_
        refine aw_iload_n (i := 1) dX5_starts_12 rfl rfl ?_
        refine aw_aload_n (i := 0) dX5_starts_13 rfl rfl ?_
        refine ax_getr (ci := 5) 0 dX5_starts_14 rfl lfX5_7 (by decide) (by assumption) (by rfl) ?_
        refine aw_iload_n (i := 1) dX5_starts_17 rfl rfl ?_
        refine ax_ialdN dX5_starts_18 (by assumption) (by omega) (Nat.le_of_ble_eq_true rfl) ?_
        refine aw_tE (f 65 i) (cpR_o (by omega)) ?_
        refine ax_iastN dX5_starts_19 (by assumption) (by omega) (Nat.le_of_ble_eq_true rfl) ?_
        refine aw_incN (L' := [_, _]) dX5_starts_20 rfl (Nat.le_of_ble_eq_true rfl) rfl rfl ?_
        refine aw_goto (tgt := 2) dX5_starts_23 (by decide) ?_
        have e := ih (i + 1) hi (by omega)
        rw [← cpR_s0] at e
        exact e
  refine aw_iconst (v := 0) dX5_starts_0 (by decide) ?_
  refine aw_istore_n (i := 1) (L' := [_, _]) dX5_starts_1 rfl (Nat.le_of_ble_eq_true rfl) rfl rfl ?_
  have e := loop1 76 0 (by omega) (by omega)
  rw [cpR_0] at e
  exact e
set_option maxRecDepth 100000 in
set_option maxHeartbeats 1000000 in
theorem f_X5_settles {V : am_V} {d : Nat} {f : Nat → Nat → Int32} {τ : Nat → Nat → Int64} : AF V MX5_settles d [.ref 64] (f, τ) none (seF f, τ) := by
  have tM := tb_M
  have m65 := tb_65
  have m66 := tb_66
  have m67 := tb_67
  have m68 := tb_68
  have m69 := tb_69
  have m70 := tb_70
  have m71 := tb_71
  have m72 := tb_72
  have m73 := tb_73
  have m74 := tb_74
  have m75 := tb_75
  have m76 := tb_76
  refine AM.of (L := [some (.ref 64), none]) (by decide +kernel) (Nat.le_of_ble_eq_true rfl) rfl ?_
  have loop : ∀ (m i : Nat), i ≤ 75 → 75 - i < m → AW V MX5_settles (d) 0 0 2 [some (.ref 64), some (.int (nI i))] [] (hp (cpR f 65 0 66 0 i, τ)) (fun r' h' => r' = none ∧ h' = hp (seF f, τ)) := by
    intro m
    induction m with
    | zero => intro i h1 h2; omega
    | succ m ih =>
      intro i h1 h2
      refine aw_iload_n (i := 1) dX5_settles_2 rfl rfl ?_
      refine aw_bipush (v := 75) dX5_settles_3 (by decide) ?_
      refine aw_tE (nI 75) rfl ?_
      refine aw_icmp_ge (tgt := 26) dX5_settles_5 (by decide) (fun c5 => ?_) (fun c5 => ?_)
      · refine aw_return dX5_settles_26 rfl ?_
        have hip : i = 75 := by have := (nI_leI (a := 75) (b := i) (by omega) (by omega)).mp c5; omega
        subst hip
        exact ⟨rfl, rfl⟩
      · have hi : i < 75 := Nat.not_le.mp (fun z => c5 (nI_le z (by omega)))
        refine aw_aload_n (i := 0) dX5_settles_8 rfl rfl ?_
        refine ax_getr (ci := 5) 0 dX5_settles_9 rfl lfX5_7 (by decide) (by assumption) (by rfl) ?_
        refine aw_iload_n (i := 1) dX5_settles_12 rfl rfl ?_
        refine aw_aload_n (i := 0) dX5_settles_13 rfl rfl ?_
        refine ax_getr (ci := 5) 1 dX5_settles_14 rfl lfX5_13 (by decide) (by assumption) (by rfl) ?_
        refine aw_iload_n (i := 1) dX5_settles_17 rfl rfl ?_
        refine ax_ialdN dX5_settles_18 (by assumption) (by omega) (Nat.le_of_ble_eq_true rfl) ?_
        refine aw_tE (f 66 i) (cpR_o (by omega)) ?_
        refine ax_iastN dX5_settles_19 (by assumption) (by omega) (Nat.le_of_ble_eq_true rfl) ?_
        refine aw_incN (L' := [_, _]) dX5_settles_20 rfl (Nat.le_of_ble_eq_true rfl) rfl rfl ?_
        refine aw_goto (tgt := 2) dX5_settles_23 (by decide) ?_
        have e := ih (i + 1) hi (by omega)
        rw [← cpR_s0] at e
        exact e
  refine aw_iconst (v := 0) dX5_settles_0 (by decide) ?_
  refine aw_istore_n (i := 1) (L' := [_, _]) dX5_settles_1 rfl (Nat.le_of_ble_eq_true rfl) rfl rfl ?_
  have e := loop 76 0 (by omega) (by omega)
  rw [cpR_0] at e
  exact e
set_option maxRecDepth 100000 in
set_option maxHeartbeats 1000000 in
theorem f_X5_ofPress {V : am_V} {d : Nat} {f : Nat → Nat → Int32} {τ : Nat → Nat → Int64} {i j : Nat} (h : 29 + 3 * i + j < 75) : AF V MX5_ofPress d [.ref 64, .int (nI i), .int (nI j)] (f, τ) (some (.int (f 66 (29 + 3 * i + j)))) (f, τ) := by
  have tM := tb_M
  have m65 := tb_65
  have m66 := tb_66
  have m67 := tb_67
  have m68 := tb_68
  have m69 := tb_69
  have m70 := tb_70
  have m71 := tb_71
  have m72 := tb_72
  have m73 := tb_73
  have m74 := tb_74
  have m75 := tb_75
  have m76 := tb_76
  refine AM.of (L := [some (.ref 64), some (.int (nI i)), some (.int (nI j))]) (by decide +kernel) (Nat.le_of_ble_eq_true rfl) rfl ?_
  refine aw_aload_n (i := 0) dX5_ofPress_0 rfl rfl ?_
  refine ax_getr (ci := 5) 1 dX5_ofPress_1 rfl lfX5_13 (by decide) (by assumption) (by rfl) ?_
  refine aw_bipush (v := 29) dX5_ofPress_4 (by decide) ?_
  refine aw_iconst (v := 3) dX5_ofPress_6 (by decide) ?_
  refine aw_iload_n (i := 1) dX5_ofPress_7 rfl rfl ?_
  refine aw_imul dX5_ofPress_8 ?_
  refine aw_iadd dX5_ofPress_9 ?_
  refine aw_iload_n (i := 2) dX5_ofPress_10 rfl rfl ?_
  refine aw_iadd dX5_ofPress_11 ?_
  refine aw_tE (nI (29 + 3 * i + j)) (by rw [show (3 : Int32) = nI 3 from rfl, show (29 : Int32) = nI 29 from rfl, pk_mul, nI_add, nI_add]) ?_
  refine ax_ialdN dX5_ofPress_12 (by assumption) (by omega) (Nat.le_of_ble_eq_true rfl) ?_
  refine aw_ireturn (ty := .int) dX5_ofPress_13 rfl rfl ?_
  exact ⟨rfl, rfl⟩
def pkM (f : Nat → Nat → Int32) : Nat → Int32 := fun i => f 66 (29 + 3 * i + 1)
def ptM (f : Nat → Nat → Int32) : Nat → Int32 := fun i => f 66 (29 + 3 * i + 0)
def psM (f : Nat → Nat → Int32) : Nat → Int32 := fun i => f 66 (29 + 3 * i + 2)
/-- as latF, but press 'lost' is passed over -/
def latS (lost : Int32) (pk pt : Nat → Int32) (k t : Int32) : Nat → Int32
  | 0 => -4
  | i + 1 => if ¬ nI i = lost ∧ pk i = k ∧ pt i ≤ t ∧ (latS lost pk pt k t i = -4 ∨ pt (latS lost pk pt k t i).toNatClampNeg ≤ pt i) then nI i else latS lost pk pt k t i
theorem latS_or (lost : Int32) (pk pt : Nat → Int32) (k t : Int32) : ∀ i, latS lost pk pt k t i = -4 ∨ ∃ j, j < i ∧ latS lost pk pt k t i = nI j := by
  intro i
  induction i with
  | zero => exact Or.inl rfl
  | succ i ih =>
    unfold latS
    split
    · exact Or.inr ⟨i, Nat.lt_succ_self i, rfl⟩
    · rcases ih with h | ⟨j, h1, h2⟩
      · exact Or.inl h
      · exact Or.inr ⟨j, Nat.lt_succ_of_lt h1, h2⟩
def conS (lost : Int32) (pk pt ps : Nat → Int32) (p : Nat) (bounce k t : Int32) : Int32 :=
  if latS lost pk pt k t p = -4 then 0 else if t - pt (latS lost pk pt k t p).toNatClampNeg < bounce ∧ (t - pt (latS lost pk pt k t p).toNatClampNeg) - (t - pt (latS lost pk pt k t p).toNatClampNeg) / 2 * 2 = 1 then 1 - ps (latS lost pk pt k t p).toNatClampNeg else ps (latS lost pk pt k t p).toNatClampNeg
set_option maxRecDepth 100000 in
set_option maxHeartbeats 1000000 in
theorem f_X5_latestPress {V : am_V} {d : Nat} {f : Nat → Nat → Int32} {τ : Nat → Nat → Int64} {p : Nat} (hp8 : p ≤ 8) (hp1 : f 66 53 = nI p) (k t : Int32) : AF V MX5_latestPress (d + 1) [.ref 64, .int k, .int t] (f, τ) (some (.int (latS (f 64 16) (pkM f) (ptM f) k t  p))) (f, τ) := by
  have tM := tb_M
  have m65 := tb_65
  have m66 := tb_66
  have m67 := tb_67
  have m68 := tb_68
  have m69 := tb_69
  have m70 := tb_70
  have m71 := tb_71
  have m72 := tb_72
  have m73 := tb_73
  have m74 := tb_74
  have m75 := tb_75
  have m76 := tb_76
  refine AM.of (L := [some (.ref 64), some (.int k), some (.int t), none, none, none]) (by decide +kernel) (Nat.le_of_ble_eq_true rfl) rfl ?_
  have loop : ∀ (m i : Nat) (z : Option Value), i ≤ p → p - i < m → AW V MX5_latestPress (d + 1) 0 0 6 [some (.ref 64), some (.int k), some (.int t), some (.int (latS (f 64 16) (pkM f) (ptM f) k t  i)), some (.int (nI i)), z] [] (hp (f, τ)) (fun r' h' => r' = some (.int (latS (f 64 16) (pkM f) (ptM f) k t  p)) ∧ h' = hp (f, τ)) := by
    intro m
    induction m with
    | zero => intro i z h1 h2; omega
    | succ m ih =>
      intro i z h1 h2
      have hl := latS_or (f 64 16) (pkM f) (ptM f) k t i
      have kY : i < p → (¬ nI i = f 64 16 ∧ pkM f i = k ∧ ptM f i ≤ t ∧ ((latS (f 64 16) (pkM f) (ptM f) k t i) = -4 ∨ ptM f (latS (f 64 16) (pkM f) (ptM f) k t i).toNatClampNeg ≤ ptM f i)) → ∀ z, AW V MX5_latestPress (d + 1) 0 0 6 [some (.ref 64), some (.int k), some (.int t), some (.int (nI i)), some (.int (nI (i + 1))), z] [] (hp (f, τ)) (fun r' h' => r' = some (.int (latS (f 64 16) (pkM f) (ptM f) k t  p)) ∧ h' = hp (f, τ)) := fun a q z => by have e := ih (i + 1) z a (by omega); rw [latS, if_pos q] at e; exact e
      have kN : i < p → ¬ (¬ nI i = f 64 16 ∧ pkM f i = k ∧ ptM f i ≤ t ∧ ((latS (f 64 16) (pkM f) (ptM f) k t i) = -4 ∨ ptM f (latS (f 64 16) (pkM f) (ptM f) k t i).toNatClampNeg ≤ ptM f i)) → ∀ z, AW V MX5_latestPress (d + 1) 0 0 6 [some (.ref 64), some (.int k), some (.int t), some (.int (latS (f 64 16) (pkM f) (ptM f) k t i)), some (.int (nI (i + 1))), z] [] (hp (f, τ)) (fun r' h' => r' = some (.int (latS (f 64 16) (pkM f) (ptM f) k t  p)) ∧ h' = hp (f, τ)) := fun a q z => by have e := ih (i + 1) z a (by omega); rw [latS, if_neg q] at e; exact e
      generalize hle : latS (f 64 16) (pkM f) (ptM f) k t i = l at hl kY kN ⊢
      refine aw_iload dX5_latestPress_6 rfl ?_
      refine aw_aload_n (i := 0) dX5_latestPress_8 rfl rfl ?_
      refine ax_getr (ci := 5) 1 dX5_latestPress_9 rfl lfX5_13 (by decide) (by assumption) (by rfl) ?_
      refine aw_bipush (v := 53) dX5_latestPress_12 (by decide) ?_
      refine ax_ialdN (i := 53) dX5_latestPress_14 (by assumption) (by omega) (Nat.le_of_ble_eq_true rfl) ?_
      refine aw_tE (nI p) hp1 ?_
      refine aw_icmp_ge (tgt := 96) dX5_latestPress_15 (by decide) (fun c15 => ?_) (fun c15 => ?_)
      · refine aw_iload_n (i := 3) dX5_latestPress_96 rfl rfl ?_
        refine aw_ireturn (ty := .int) dX5_latestPress_97 rfl rfl ?_
        have hip : i = p := by have := (nI_leI (a := p) (b := i) (by omega) (by omega)).mp c15; omega
        subst hip
        exact ⟨by rw [← hle], rfl⟩
      · have hi : i < p := Nat.not_le.mp (fun z => c15 (nI_le z (by omega)))
        refine aw_iload dX5_latestPress_18 rfl ?_
        refine aw_aload_n (i := 0) dX5_latestPress_20 rfl rfl ?_
        refine ax_geti (ci := 5) 16 dX5_latestPress_21 rfl lfX5_136 (by decide) (by assumption) (by rfl) ?_
        refine aw_icmp_eq (tgt := 53) dX5_latestPress_24 (by decide) (fun c24 => ?_) (fun c24 => ?_)
        · refine aw_iconst (v := 0) dX5_latestPress_53 (by decide) ?_
          refine aw_istore (i := 5) (L' := [_, _, _, _, _, _]) dX5_latestPress_54 (Nat.le_of_ble_eq_true rfl) rfl rfl ?_
          refine aw_iload dX5_latestPress_56 rfl ?_
          refine aw_if_eq (tgt := 88) dX5_latestPress_58 (by decide) (fun _ => ?_) (fun z => absurd (by decide) z)
          refine aw_iload_n (i := 3) dX5_latestPress_88 rfl rfl ?_
          refine aw_istore_n (i := 3) (L' := [_, _, _, _, _, _]) dX5_latestPress_89 rfl (Nat.le_of_ble_eq_true rfl) rfl rfl ?_
          refine aw_incN (L' := [_, _, _, _, _, _]) dX5_latestPress_90 rfl (Nat.le_of_ble_eq_true rfl) rfl rfl ?_
          refine aw_goto (tgt := 6) dX5_latestPress_93 (by decide) ?_
          first | exact kN hi (fun q => q.1 c24) _ | exact kN hi (fun q => c35 q.2.1) _ | exact kN hi (fun q => absurd c46 (Int32.not_lt.mpr q.2.2.1)) _ | exact kY hi ⟨c24, c35, Int32.not_lt.mp c46, Or.inl c64⟩ _ | exact kY hi ⟨c24, c35, Int32.not_lt.mp c46, Or.inr (by rw [nI_clamp (by omega)]; exact Int32.not_lt.mp c80)⟩ _ | exact kN hi (fun q => q.2.2.2.elim c64 (fun q => by rw [nI_clamp (by omega)] at q; exact absurd c80 (Int32.not_lt.mpr q))) _
        · refine aw_aload_n (i := 0) dX5_latestPress_27 rfl rfl ?_
          refine aw_iload dX5_latestPress_28 rfl ?_
          refine aw_iconst (v := 1) dX5_latestPress_30 (by decide) ?_
          refine ax_callV2i (M' := MX5_ofPress) (ci := 5) dX5_latestPress_31 lmX5_139 oX5_ofPress (by decide +kernel) (by assumption) rfl rfl (Nat.le_of_ble_eq_true rfl) (f_X5_ofPress (i := i) (j := 1) (by omega)) ?_
          refine aw_iload_n (i := 1) dX5_latestPress_34 rfl rfl ?_
          refine aw_icmp_ne (tgt := 53) dX5_latestPress_35 (by decide) (fun c35 => ?_) (fun c35 => ?_)
          · refine aw_iconst (v := 0) dX5_latestPress_53 (by decide) ?_
            refine aw_istore (i := 5) (L' := [_, _, _, _, _, _]) dX5_latestPress_54 (Nat.le_of_ble_eq_true rfl) rfl rfl ?_
            refine aw_iload dX5_latestPress_56 rfl ?_
            refine aw_if_eq (tgt := 88) dX5_latestPress_58 (by decide) (fun _ => ?_) (fun z => absurd (by decide) z)
            refine aw_iload_n (i := 3) dX5_latestPress_88 rfl rfl ?_
            refine aw_istore_n (i := 3) (L' := [_, _, _, _, _, _]) dX5_latestPress_89 rfl (Nat.le_of_ble_eq_true rfl) rfl rfl ?_
            refine aw_incN (L' := [_, _, _, _, _, _]) dX5_latestPress_90 rfl (Nat.le_of_ble_eq_true rfl) rfl rfl ?_
            refine aw_goto (tgt := 6) dX5_latestPress_93 (by decide) ?_
            first | exact kN hi (fun q => q.1 c24) _ | exact kN hi (fun q => c35 q.2.1) _ | exact kN hi (fun q => absurd c46 (Int32.not_lt.mpr q.2.2.1)) _ | exact kY hi ⟨c24, c35, Int32.not_lt.mp c46, Or.inl c64⟩ _ | exact kY hi ⟨c24, c35, Int32.not_lt.mp c46, Or.inr (by rw [nI_clamp (by omega)]; exact Int32.not_lt.mp c80)⟩ _ | exact kN hi (fun q => q.2.2.2.elim c64 (fun q => by rw [nI_clamp (by omega)] at q; exact absurd c80 (Int32.not_lt.mpr q))) _
          · refine aw_aload_n (i := 0) dX5_latestPress_38 rfl rfl ?_
            refine aw_iload dX5_latestPress_39 rfl ?_
            refine aw_iconst (v := 0) dX5_latestPress_41 (by decide) ?_
            refine ax_callV2i (M' := MX5_ofPress) (ci := 5) dX5_latestPress_42 lmX5_139 oX5_ofPress (by decide +kernel) (by assumption) rfl rfl (Nat.le_of_ble_eq_true rfl) (f_X5_ofPress (i := i) (j := 0) (by omega)) ?_
            refine aw_iload_n (i := 2) dX5_latestPress_45 rfl rfl ?_
            refine aw_icmp_gt (tgt := 53) dX5_latestPress_46 (by decide) (fun c46 => ?_) (fun c46 => ?_)
            · refine aw_iconst (v := 0) dX5_latestPress_53 (by decide) ?_
              refine aw_istore (i := 5) (L' := [_, _, _, _, _, _]) dX5_latestPress_54 (Nat.le_of_ble_eq_true rfl) rfl rfl ?_
              refine aw_iload dX5_latestPress_56 rfl ?_
              refine aw_if_eq (tgt := 88) dX5_latestPress_58 (by decide) (fun _ => ?_) (fun z => absurd (by decide) z)
              refine aw_iload_n (i := 3) dX5_latestPress_88 rfl rfl ?_
              refine aw_istore_n (i := 3) (L' := [_, _, _, _, _, _]) dX5_latestPress_89 rfl (Nat.le_of_ble_eq_true rfl) rfl rfl ?_
              refine aw_incN (L' := [_, _, _, _, _, _]) dX5_latestPress_90 rfl (Nat.le_of_ble_eq_true rfl) rfl rfl ?_
              refine aw_goto (tgt := 6) dX5_latestPress_93 (by decide) ?_
              first | exact kN hi (fun q => q.1 c24) _ | exact kN hi (fun q => c35 q.2.1) _ | exact kN hi (fun q => absurd c46 (Int32.not_lt.mpr q.2.2.1)) _ | exact kY hi ⟨c24, c35, Int32.not_lt.mp c46, Or.inl c64⟩ _ | exact kY hi ⟨c24, c35, Int32.not_lt.mp c46, Or.inr (by rw [nI_clamp (by omega)]; exact Int32.not_lt.mp c80)⟩ _ | exact kN hi (fun q => q.2.2.2.elim c64 (fun q => by rw [nI_clamp (by omega)] at q; exact absurd c80 (Int32.not_lt.mpr q))) _
            · refine aw_iconst (v := 1) dX5_latestPress_49 (by decide) ?_
              refine aw_goto (tgt := 54) dX5_latestPress_50 (by decide) ?_
              refine aw_istore (i := 5) (L' := [_, _, _, _, _, _]) dX5_latestPress_54 (Nat.le_of_ble_eq_true rfl) rfl rfl ?_
              refine aw_iload dX5_latestPress_56 rfl ?_
              refine aw_if_eq (tgt := 88) dX5_latestPress_58 (by decide) (fun z => absurd z (by decide)) (fun _ => ?_)
              refine aw_iload_n (i := 3) dX5_latestPress_61 rfl rfl ?_
              refine aw_bipush (v := -4) dX5_latestPress_62 (by decide) ?_
              refine aw_icmp_eq (tgt := 83) dX5_latestPress_64 (by decide) (fun c64 => ?_) (fun c64 => ?_)
              · refine aw_iload dX5_latestPress_83 rfl ?_
                refine aw_goto (tgt := 89) dX5_latestPress_85 (by decide) ?_
                refine aw_istore_n (i := 3) (L' := [_, _, _, _, _, _]) dX5_latestPress_89 rfl (Nat.le_of_ble_eq_true rfl) rfl rfl ?_
                refine aw_incN (L' := [_, _, _, _, _, _]) dX5_latestPress_90 rfl (Nat.le_of_ble_eq_true rfl) rfl rfl ?_
                refine aw_goto (tgt := 6) dX5_latestPress_93 (by decide) ?_
                first | exact kN hi (fun q => q.1 c24) _ | exact kN hi (fun q => c35 q.2.1) _ | exact kN hi (fun q => absurd c46 (Int32.not_lt.mpr q.2.2.1)) _ | exact kY hi ⟨c24, c35, Int32.not_lt.mp c46, Or.inl c64⟩ _ | exact kY hi ⟨c24, c35, Int32.not_lt.mp c46, Or.inr (by rw [nI_clamp (by omega)]; exact Int32.not_lt.mp c80)⟩ _ | exact kN hi (fun q => q.2.2.2.elim c64 (fun q => by rw [nI_clamp (by omega)] at q; exact absurd c80 (Int32.not_lt.mpr q))) _
              · refine aw_aload_n (i := 0) dX5_latestPress_67 rfl rfl ?_
                refine aw_iload dX5_latestPress_68 rfl ?_
                refine aw_iconst (v := 0) dX5_latestPress_70 (by decide) ?_
                refine ax_callV2i (M' := MX5_ofPress) (ci := 5) dX5_latestPress_71 lmX5_139 oX5_ofPress (by decide +kernel) (by assumption) rfl rfl (Nat.le_of_ble_eq_true rfl) (f_X5_ofPress (i := i) (j := 0) (by omega)) ?_
                obtain ⟨j, hj, rfl⟩ : ∃ j, j < i ∧ l = nI j := hl.resolve_left c64
                refine aw_aload_n (i := 0) dX5_latestPress_74 rfl rfl ?_
                refine aw_iload_n (i := 3) dX5_latestPress_75 rfl rfl ?_
                refine aw_iconst (v := 0) dX5_latestPress_76 (by decide) ?_
                refine ax_callV2i (M' := MX5_ofPress) (ci := 5) dX5_latestPress_77 lmX5_139 oX5_ofPress (by decide +kernel) (by assumption) rfl rfl (Nat.le_of_ble_eq_true rfl) (f_X5_ofPress (i := j) (j := 0) (by omega)) ?_
                refine aw_icmp_lt (tgt := 88) dX5_latestPress_80 (by decide) (fun c80 => ?_) (fun c80 => ?_)
                · refine aw_iload_n (i := 3) dX5_latestPress_88 rfl rfl ?_
                  refine aw_istore_n (i := 3) (L' := [_, _, _, _, _, _]) dX5_latestPress_89 rfl (Nat.le_of_ble_eq_true rfl) rfl rfl ?_
                  refine aw_incN (L' := [_, _, _, _, _, _]) dX5_latestPress_90 rfl (Nat.le_of_ble_eq_true rfl) rfl rfl ?_
                  refine aw_goto (tgt := 6) dX5_latestPress_93 (by decide) ?_
                  first | exact kN hi (fun q => q.1 c24) _ | exact kN hi (fun q => c35 q.2.1) _ | exact kN hi (fun q => absurd c46 (Int32.not_lt.mpr q.2.2.1)) _ | exact kY hi ⟨c24, c35, Int32.not_lt.mp c46, Or.inl c64⟩ _ | exact kY hi ⟨c24, c35, Int32.not_lt.mp c46, Or.inr (by rw [nI_clamp (by omega)]; exact Int32.not_lt.mp c80)⟩ _ | exact kN hi (fun q => q.2.2.2.elim c64 (fun q => by rw [nI_clamp (by omega)] at q; exact absurd c80 (Int32.not_lt.mpr q))) _
                · refine aw_iload dX5_latestPress_83 rfl ?_
                  refine aw_goto (tgt := 89) dX5_latestPress_85 (by decide) ?_
                  refine aw_istore_n (i := 3) (L' := [_, _, _, _, _, _]) dX5_latestPress_89 rfl (Nat.le_of_ble_eq_true rfl) rfl rfl ?_
                  refine aw_incN (L' := [_, _, _, _, _, _]) dX5_latestPress_90 rfl (Nat.le_of_ble_eq_true rfl) rfl rfl ?_
                  refine aw_goto (tgt := 6) dX5_latestPress_93 (by decide) ?_
                  first | exact kN hi (fun q => q.1 c24) _ | exact kN hi (fun q => c35 q.2.1) _ | exact kN hi (fun q => absurd c46 (Int32.not_lt.mpr q.2.2.1)) _ | exact kY hi ⟨c24, c35, Int32.not_lt.mp c46, Or.inl c64⟩ _ | exact kY hi ⟨c24, c35, Int32.not_lt.mp c46, Or.inr (by rw [nI_clamp (by omega)]; exact Int32.not_lt.mp c80)⟩ _ | exact kN hi (fun q => q.2.2.2.elim c64 (fun q => by rw [nI_clamp (by omega)] at q; exact absurd c80 (Int32.not_lt.mpr q))) _
  refine aw_bipush (v := -4) dX5_latestPress_0 (by decide) ?_
  refine aw_istore_n (i := 3) (L' := [_, _, _, _, _, _]) dX5_latestPress_2 rfl (Nat.le_of_ble_eq_true rfl) rfl rfl ?_
  refine aw_iconst (v := 0) dX5_latestPress_3 (by decide) ?_
  refine aw_istore (i := 4) (L' := [_, _, _, _, _, _]) dX5_latestPress_4 (Nat.le_of_ble_eq_true rfl) rfl rfl ?_
  exact loop (p + 1) 0 _ (Nat.zero_le _) (by omega)
set_option maxRecDepth 100000 in
set_option maxHeartbeats 1000000 in
theorem f_X5_contactOf {V : am_V} {d : Nat} {f : Nat → Nat → Int32} {τ : Nat → Nat → Int64} {p k : Nat} (hp8 : p ≤ 8) (hp1 : f 66 53 = nI p) (hk : k < 4) (t : Int32) : AF V MX5_contactOf (d + 2) [.ref 64, .int (nI k), .int t] (f, τ) (some (.int (conS (f 64 16) (pkM f) (ptM f) (psM f) p (f 66 (7 * k + 0)) (nI k) t))) (f, τ) := by
  have tM := tb_M
  have m65 := tb_65
  have m66 := tb_66
  have m67 := tb_67
  have m68 := tb_68
  have m69 := tb_69
  have m70 := tb_70
  have m71 := tb_71
  have m72 := tb_72
  have m73 := tb_73
  have m74 := tb_74
  have m75 := tb_75
  have m76 := tb_76
  have hl := latS_or (f 64 16) (pkM f) (ptM f) (nI k) t p
  generalize hle : latS (f 64 16) (pkM f) (ptM f) (nI k) t p = l at hl
  refine AM.of (L := [some (.ref 64), some (.int (nI k)), some (.int t), none, none]) (by decide +kernel) (Nat.le_of_ble_eq_true rfl) rfl ?_
  refine aw_aload_n (i := 0) dX5_contactOf_0 rfl rfl ?_
  refine aw_iload_n (i := 1) dX5_contactOf_1 rfl rfl ?_
  refine aw_iload_n (i := 2) dX5_contactOf_2 rfl rfl ?_
  refine ax_callV2i (M' := MX5_latestPress) (ci := 5) dX5_contactOf_3 lmX5_142 oX5_latestPress (by decide +kernel) (by assumption) rfl rfl (Nat.le_of_ble_eq_true rfl) (f_X5_latestPress hp8 hp1 _ _) ?_
  rw [hle]
  refine aw_istore_n (i := 3) (L' := [_, _, _, _, _]) dX5_contactOf_6 rfl (Nat.le_of_ble_eq_true rfl) rfl rfl ?_
  refine aw_iload_n (i := 3) dX5_contactOf_7 rfl rfl ?_
  refine aw_bipush (v := -4) dX5_contactOf_8 (by decide) ?_
  refine aw_icmp_ne (tgt := 15) dX5_contactOf_10 (by decide) (fun c10 => ?_) (fun c10 => ?_)
  · obtain ⟨j, hj, rfl⟩ : ∃ j, j < p ∧ l = nI j := hl.resolve_left c10
    have hj31 : j < 2 ^ 31 := by omega
    refine aw_iload_n (i := 2) dX5_contactOf_15 rfl rfl ?_
    refine aw_aload_n (i := 0) dX5_contactOf_16 rfl rfl ?_
    refine aw_iload_n (i := 3) dX5_contactOf_17 rfl rfl ?_
    refine aw_iconst (v := 0) dX5_contactOf_18 (by decide) ?_
    refine ax_callV2i (M' := MX5_ofPress) (ci := 5) dX5_contactOf_19 lmX5_139 oX5_ofPress (by decide +kernel) (by assumption) rfl rfl (Nat.le_of_ble_eq_true rfl) (f_X5_ofPress (i := j) (j := 0) (by omega)) ?_
    refine aw_isub dX5_contactOf_22 ?_
    refine aw_istore (i := 4) (L' := [_, _, _, _, _]) dX5_contactOf_23 (Nat.le_of_ble_eq_true rfl) rfl rfl ?_
    refine aw_iload dX5_contactOf_25 rfl ?_
    refine aw_aload_n (i := 0) dX5_contactOf_27 rfl rfl ?_
    refine aw_iload_n (i := 1) dX5_contactOf_28 rfl rfl ?_
    refine aw_iconst (v := 0) dX5_contactOf_29 (by decide) ?_
    refine ax_callV2i (M' := MX5_of) (ci := 5) dX5_contactOf_30 lmX5_145 oX5_of (by decide +kernel) (by assumption) rfl rfl (Nat.le_of_ble_eq_true rfl) (f_X5_of (k := k) (j := 0) (by omega)) ?_
    refine aw_icmp_ge (tgt := 55) dX5_contactOf_33 (by decide) (fun c33 => ?_) (fun c33 => ?_)
    · refine aw_aload_n (i := 0) dX5_contactOf_55 rfl rfl ?_
      refine aw_iload_n (i := 3) dX5_contactOf_56 rfl rfl ?_
      refine aw_iconst (v := 2) dX5_contactOf_57 (by decide) ?_
      refine ax_callV2i (M' := MX5_ofPress) (ci := 5) dX5_contactOf_58 lmX5_139 oX5_ofPress (by decide +kernel) (by assumption) rfl rfl (Nat.le_of_ble_eq_true rfl) (f_X5_ofPress (i := j) (j := 2) (by omega)) ?_
      refine aw_ireturn (ty := .int) dX5_contactOf_61 rfl rfl ?_
      refine ⟨congrArg (fun z => some (Value.int z)) ?_, rfl⟩
      unfold conS
      rw [hle, nI_clamp hj31, if_neg c10]
      first | exact (if_neg (fun q => absurd q.1 (Int32.not_lt.mpr c33))).symm | exact (if_pos ⟨Int32.not_le.mp c33, c41⟩).symm | exact (if_neg (fun q => c41 q.2)).symm
    · refine aw_iload dX5_contactOf_36 rfl ?_
      refine aw_iconst (v := 2) dX5_contactOf_38 (by decide) ?_
      refine aw_irem dX5_contactOf_39 (by decide) ?_
      refine aw_iconst (v := 1) dX5_contactOf_40 (by decide) ?_
      refine aw_icmp_ne (tgt := 55) dX5_contactOf_41 (by decide) (fun c41 => ?_) (fun c41 => ?_)
      · refine aw_aload_n (i := 0) dX5_contactOf_55 rfl rfl ?_
        refine aw_iload_n (i := 3) dX5_contactOf_56 rfl rfl ?_
        refine aw_iconst (v := 2) dX5_contactOf_57 (by decide) ?_
        refine ax_callV2i (M' := MX5_ofPress) (ci := 5) dX5_contactOf_58 lmX5_139 oX5_ofPress (by decide +kernel) (by assumption) rfl rfl (Nat.le_of_ble_eq_true rfl) (f_X5_ofPress (i := j) (j := 2) (by omega)) ?_
        refine aw_ireturn (ty := .int) dX5_contactOf_61 rfl rfl ?_
        refine ⟨congrArg (fun z => some (Value.int z)) ?_, rfl⟩
        unfold conS
        rw [hle, nI_clamp hj31, if_neg c10]
        first | exact (if_neg (fun q => absurd q.1 (Int32.not_lt.mpr c33))).symm | exact (if_pos ⟨Int32.not_le.mp c33, c41⟩).symm | exact (if_neg (fun q => c41 q.2)).symm
      · refine aw_iconst (v := 1) dX5_contactOf_44 (by decide) ?_
        refine aw_aload_n (i := 0) dX5_contactOf_45 rfl rfl ?_
        refine aw_iload_n (i := 3) dX5_contactOf_46 rfl rfl ?_
        refine aw_iconst (v := 2) dX5_contactOf_47 (by decide) ?_
        refine ax_callV2i (M' := MX5_ofPress) (ci := 5) dX5_contactOf_48 lmX5_139 oX5_ofPress (by decide +kernel) (by assumption) rfl rfl (Nat.le_of_ble_eq_true rfl) (f_X5_ofPress (i := j) (j := 2) (by omega)) ?_
        refine aw_isub dX5_contactOf_51 ?_
        refine aw_goto (tgt := 61) dX5_contactOf_52 (by decide) ?_
        refine aw_ireturn (ty := .int) dX5_contactOf_61 rfl rfl ?_
        refine ⟨congrArg (fun z => some (Value.int z)) ?_, rfl⟩
        unfold conS
        rw [hle, nI_clamp hj31, if_neg c10]
        first | exact (if_neg (fun q => absurd q.1 (Int32.not_lt.mpr c33))).symm | exact (if_pos ⟨Int32.not_le.mp c33, c41⟩).symm | exact (if_neg (fun q => c41 q.2)).symm
  · refine aw_iconst (v := 0) dX5_contactOf_13 (by decide) ?_
    refine aw_ireturn (ty := .int) dX5_contactOf_14 rfl rfl ?_
    exact ⟨congrArg (fun z => some (Value.int z)) (by unfold conS; rw [hle]; exact (if_pos c10).symm), rfl⟩
def cbM (f : Nat → Nat → Int32) (n p : Nat) : Int32 := orF (fun k => conS (f 64 16) (pkM f) (ptM f) (psM f) p (f 66 (7 * k + 0)) (nI k) (f 66 55)) n
set_option maxRecDepth 100000 in
set_option maxHeartbeats 1000000 in
theorem f_X5_contactsNow {V : am_V} {d : Nat} {f : Nat → Nat → Int32} {τ : Nat → Nat → Int64} {n p : Nat} (hn4 : n ≤ 4) (hn : f 66 28 = nI n) (hp8 : p ≤ 8) (hp1 : f 66 53 = nI p) : AF V MX5_contactsNow (d + 3) [.ref 64] (f, τ) (some (.int (cbM f n p))) (f, τ) := by
  have tM := tb_M
  have m65 := tb_65
  have m66 := tb_66
  have m67 := tb_67
  have m68 := tb_68
  have m69 := tb_69
  have m70 := tb_70
  have m71 := tb_71
  have m72 := tb_72
  have m73 := tb_73
  have m74 := tb_74
  have m75 := tb_75
  have m76 := tb_76
  refine AM.of (L := [some (.ref 64), none, none]) (by decide +kernel) (Nat.le_of_ble_eq_true rfl) rfl ?_
  have loop : ∀ (m i : Nat), i ≤ n → n - i < m → AW V MX5_contactsNow (d + 3) 0 0 4 [some (.ref 64), some (.int (orF (fun k => conS (f 64 16) (pkM f) (ptM f) (psM f) p (f 66 (7 * k + 0)) (nI k) (f 66 55)) i)), some (.int (nI i))] [] (hp (f, τ)) (fun r' h' => r' = some (.int (cbM f n p)) ∧ h' = hp (f, τ)) := by
    intro m
    induction m with
    | zero => intro i h1 h2; omega
    | succ m ih =>
      intro i h1 h2
      refine aw_iload_n (i := 2) dX5_contactsNow_4 rfl rfl ?_
      refine aw_aload_n (i := 0) dX5_contactsNow_5 rfl rfl ?_
      refine ax_getr (ci := 5) 1 dX5_contactsNow_6 rfl lfX5_13 (by decide) (by assumption) (by rfl) ?_
      refine aw_bipush (v := 28) dX5_contactsNow_9 (by decide) ?_
      refine ax_ialdN (i := 28) dX5_contactsNow_11 (by assumption) (by omega) (Nat.le_of_ble_eq_true rfl) ?_
      refine aw_tE (nI n) hn ?_
      refine aw_icmp_ge (tgt := 38) dX5_contactsNow_12 (by decide) (fun c12 => ?_) (fun c12 => ?_)
      · refine aw_iload_n (i := 1) dX5_contactsNow_38 rfl rfl ?_
        refine aw_ireturn (ty := .int) dX5_contactsNow_39 rfl rfl ?_
        have hip : i = n := by have := (nI_leI (a := n) (b := i) (by omega) (by omega)).mp c12; omega
        subst hip
        exact ⟨rfl, rfl⟩
      · have hi : i < n := Nat.not_le.mp (fun z => c12 (nI_le z (by omega)))
        refine aw_iload_n (i := 1) dX5_contactsNow_15 rfl rfl ?_
        refine aw_aload_n (i := 0) dX5_contactsNow_16 rfl rfl ?_
        refine aw_iload_n (i := 2) dX5_contactsNow_17 rfl rfl ?_
        refine aw_aload_n (i := 0) dX5_contactsNow_18 rfl rfl ?_
        refine ax_getr (ci := 5) 1 dX5_contactsNow_19 rfl lfX5_13 (by decide) (by assumption) (by rfl) ?_
        refine aw_bipush (v := 55) dX5_contactsNow_22 (by decide) ?_
        refine ax_ialdN (i := 55) dX5_contactsNow_24 (by assumption) (by omega) (Nat.le_of_ble_eq_true rfl) ?_
        refine ax_callV2i (M' := MX5_contactOf) (ci := 5) dX5_contactsNow_25 lmX5_171 oX5_contactOf (by decide +kernel) (by assumption) rfl rfl (Nat.le_of_ble_eq_true rfl) (f_X5_contactOf (p := p) hp8 hp1 (by omega) _) ?_
        refine aw_iload_n (i := 2) dX5_contactsNow_28 rfl rfl ?_
        refine aw_ishl dX5_contactsNow_29 ?_
        refine aw_ior dX5_contactsNow_30 ?_
        refine aw_istore_n (i := 1) (L' := [_, _, _]) dX5_contactsNow_31 rfl (Nat.le_of_ble_eq_true rfl) rfl rfl ?_
        refine aw_incN (L' := [_, _, _]) dX5_contactsNow_32 rfl (Nat.le_of_ble_eq_true rfl) rfl rfl ?_
        refine aw_goto (tgt := 4) dX5_contactsNow_35 (by decide) ?_
        exact ih (i + 1) hi (by omega)
  refine aw_iconst (v := 0) dX5_contactsNow_0 (by decide) ?_
  refine aw_istore_n (i := 1) (L' := [_, _, _]) dX5_contactsNow_1 rfl (Nat.le_of_ble_eq_true rfl) rfl rfl ?_
  refine aw_iconst (v := 0) dX5_contactsNow_2 (by decide) ?_
  refine aw_istore_n (i := 2) (L' := [_, _, _]) dX5_contactsNow_3 rfl (Nat.le_of_ble_eq_true rfl) rfl rfl ?_
  exact loop (n + 1) 0 (Nat.zero_le _) (by omega)
set_option maxRecDepth 100000 in
set_option maxHeartbeats 1000000 in
theorem f_X5_says {V : am_V} {d : Nat} {f : Nat → Nat → Int32} {τ : Nat → Nat → Int64} {n : Nat} (hn4 : n ≤ 4) (hn : f 66 28 = nI n) : AF V MX5_says (d + 1) [.ref 64] (f, τ) (some (.int (orF (fun k => f 66 (7 * k + 3)) n))) (f, τ) := by
  have tM := tb_M
  have m65 := tb_65
  have m66 := tb_66
  have m67 := tb_67
  have m68 := tb_68
  have m69 := tb_69
  have m70 := tb_70
  have m71 := tb_71
  have m72 := tb_72
  have m73 := tb_73
  have m74 := tb_74
  have m75 := tb_75
  have m76 := tb_76
  refine AM.of (L := [some (.ref 64), none, none]) (by decide +kernel) (Nat.le_of_ble_eq_true rfl) rfl ?_
  have loop : ∀ (m i : Nat), i ≤ n → n - i < m → AW V MX5_says (d + 1) 0 0 4 [some (.ref 64), some (.int (orF (fun k => f 66 (7 * k + 3)) i)), some (.int (nI i))] [] (hp (f, τ)) (fun r' h' => r' = some (.int (orF (fun k => f 66 (7 * k + 3)) n)) ∧ h' = hp (f, τ)) := by
    intro m
    induction m with
    | zero => intro i h1 h2; omega
    | succ m ih =>
      intro i h1 h2
      refine aw_iload_n (i := 2) dX5_says_4 rfl rfl ?_
      refine aw_aload_n (i := 0) dX5_says_5 rfl rfl ?_
      refine ax_getr (ci := 5) 1 dX5_says_6 rfl lfX5_13 (by decide) (by assumption) (by rfl) ?_
      refine aw_bipush (v := 28) dX5_says_9 (by decide) ?_
      refine ax_ialdN (i := 28) dX5_says_11 (by assumption) (by omega) (Nat.le_of_ble_eq_true rfl) ?_
      refine aw_tE (nI n) hn ?_
      refine aw_icmp_ge (tgt := 32) dX5_says_12 (by decide) (fun c12 => ?_) (fun c12 => ?_)
      · refine aw_iload_n (i := 1) dX5_says_32 rfl rfl ?_
        refine aw_ireturn (ty := .int) dX5_says_33 rfl rfl ?_
        have hip : i = n := by have := (nI_leI (a := n) (b := i) (by omega) (by omega)).mp c12; omega
        subst hip
        exact ⟨rfl, rfl⟩
      · have hi : i < n := Nat.not_le.mp (fun z => c12 (nI_le z (by omega)))
        refine aw_iload_n (i := 1) dX5_says_15 rfl rfl ?_
        refine aw_aload_n (i := 0) dX5_says_16 rfl rfl ?_
        refine aw_iload_n (i := 2) dX5_says_17 rfl rfl ?_
        refine aw_iconst (v := 3) dX5_says_18 (by decide) ?_
        refine ax_callV2i (M' := MX5_of) (ci := 5) dX5_says_19 lmX5_145 oX5_of (by decide +kernel) (by assumption) rfl rfl (Nat.le_of_ble_eq_true rfl) (f_X5_of (k := i) (j := 3) (by omega)) ?_
        refine aw_iload_n (i := 2) dX5_says_22 rfl rfl ?_
        refine aw_ishl dX5_says_23 ?_
        refine aw_ior dX5_says_24 ?_
        refine aw_istore_n (i := 1) (L' := [_, _, _]) dX5_says_25 rfl (Nat.le_of_ble_eq_true rfl) rfl rfl ?_
        refine aw_incN (L' := [_, _, _]) dX5_says_26 rfl (Nat.le_of_ble_eq_true rfl) rfl rfl ?_
        refine aw_goto (tgt := 4) dX5_says_29 (by decide) ?_
        exact ih (i + 1) hi (by omega)
  refine aw_iconst (v := 0) dX5_says_0 (by decide) ?_
  refine aw_istore_n (i := 1) (L' := [_, _, _]) dX5_says_1 rfl (Nat.le_of_ble_eq_true rfl) rfl rfl ?_
  refine aw_iconst (v := 0) dX5_says_2 (by decide) ?_
  refine aw_istore_n (i := 2) (L' := [_, _, _]) dX5_says_3 rfl (Nat.le_of_ble_eq_true rfl) rfl rfl ?_
  exact loop (n + 1) 0 (Nat.zero_le _) (by omega)
set_option maxRecDepth 100000 in
set_option maxHeartbeats 1000000 in
theorem f_X5_struckByAll {V : am_V} {d : Nat} {f : Nat → Nat → Int32} {τ : Nat → Nat → Int64} : AF V MX5_struckByAll d [.ref 64] (f, τ) (some (.int (sumF (f 70) 4))) (f, τ) := by
  have tM := tb_M
  have m65 := tb_65
  have m66 := tb_66
  have m67 := tb_67
  have m68 := tb_68
  have m69 := tb_69
  have m70 := tb_70
  have m71 := tb_71
  have m72 := tb_72
  have m73 := tb_73
  have m74 := tb_74
  have m75 := tb_75
  have m76 := tb_76
  refine AM.of (L := [some (.ref 64), none, none]) (by decide +kernel) (Nat.le_of_ble_eq_true rfl) rfl ?_
  have loop : ∀ (m i : Nat), i ≤ 4 → 4 - i < m → AW V MX5_struckByAll (d) 0 0 4 [some (.ref 64), some (.int (sumF (f 70) i)), some (.int (nI i))] [] (hp (f, τ)) (fun r' h' => r' = some (.int (sumF (f 70) 4)) ∧ h' = hp (f, τ)) := by
    intro m
    induction m with
    | zero => intro i h1 h2; omega
    | succ m ih =>
      intro i h1 h2
      refine aw_iload_n (i := 2) dX5_struckByAll_4 rfl rfl ?_
      refine aw_iconst (v := 4) dX5_struckByAll_5 (by decide) ?_
      refine aw_tE (nI 4) rfl ?_
      refine aw_icmp_ge (tgt := 24) dX5_struckByAll_6 (by decide) (fun c6 => ?_) (fun c6 => ?_)
      · refine aw_iload_n (i := 1) dX5_struckByAll_24 rfl rfl ?_
        refine aw_ireturn (ty := .int) dX5_struckByAll_25 rfl rfl ?_
        have hip : i = 4 := by have := (nI_leI (a := 4) (b := i) (by omega) (by omega)).mp c6; omega
        subst hip
        exact ⟨rfl, rfl⟩
      · have hi : i < 4 := Nat.not_le.mp (fun z => c6 (nI_le z (by omega)))
        refine aw_iload_n (i := 1) dX5_struckByAll_9 rfl rfl ?_
        refine aw_aload_n (i := 0) dX5_struckByAll_10 rfl rfl ?_
        refine ax_getr (ci := 5) 14 dX5_struckByAll_11 rfl lfX5_26 (by decide) (by assumption) (by rfl) ?_
        refine aw_iload_n (i := 2) dX5_struckByAll_14 rfl rfl ?_
        refine ax_ialdN dX5_struckByAll_15 (by assumption) (by omega) (Nat.le_of_ble_eq_true rfl) ?_
        refine aw_iadd dX5_struckByAll_16 ?_
        refine aw_istore_n (i := 1) (L' := [_, _, _]) dX5_struckByAll_17 rfl (Nat.le_of_ble_eq_true rfl) rfl rfl ?_
        refine aw_incN (L' := [_, _, _]) dX5_struckByAll_18 rfl (Nat.le_of_ble_eq_true rfl) rfl rfl ?_
        refine aw_goto (tgt := 4) dX5_struckByAll_21 (by decide) ?_
        exact ih (i + 1) hi (by omega)
  refine aw_iconst (v := 0) dX5_struckByAll_0 (by decide) ?_
  refine aw_istore_n (i := 1) (L' := [_, _, _]) dX5_struckByAll_1 rfl (Nat.le_of_ble_eq_true rfl) rfl rfl ?_
  refine aw_iconst (v := 0) dX5_struckByAll_2 (by decide) ?_
  refine aw_istore_n (i := 2) (L' := [_, _, _]) dX5_struckByAll_3 rfl (Nat.le_of_ble_eq_true rfl) rfl rfl ?_
  exact loop 5 0 (Nat.zero_le _) (by omega)
set_option maxRecDepth 100000 in
set_option maxHeartbeats 1000000 in
theorem f_X5_sumOf {V : am_V} {d : Nat} {f : Nat → Nat → Int32} {τ : Nat → Nat → Int64} {n j : Nat} (hn4 : n ≤ 4) (hj : j < 7) (hn : f 65 28 = nI n) : AF V MX5_sumOf d [.ref 64, .int (nI j)] (f, τ) (some (.int (sumF (fun k => f 65 (7 * k + j)) n))) (f, τ) := by
  have tM := tb_M
  have m65 := tb_65
  have m66 := tb_66
  have m67 := tb_67
  have m68 := tb_68
  have m69 := tb_69
  have m70 := tb_70
  have m71 := tb_71
  have m72 := tb_72
  have m73 := tb_73
  have m74 := tb_74
  have m75 := tb_75
  have m76 := tb_76
  refine AM.of (L := [some (.ref 64), some (.int (nI j)), none, none]) (by decide +kernel) (Nat.le_of_ble_eq_true rfl) rfl ?_
  have loop : ∀ (m i : Nat), i ≤ n → n - i < m → AW V MX5_sumOf (d) 0 0 4 [some (.ref 64), some (.int (nI j)), some (.int (sumF (fun k => f 65 (7 * k + j)) i)), some (.int (nI i))] [] (hp (f, τ)) (fun r' h' => r' = some (.int (sumF (fun k => f 65 (7 * k + j)) n)) ∧ h' = hp (f, τ)) := by
    intro m
    induction m with
    | zero => intro i h1 h2; omega
    | succ m ih =>
      intro i h1 h2
      refine aw_iload_n (i := 3) dX5_sumOf_4 rfl rfl ?_
      refine aw_aload_n (i := 0) dX5_sumOf_5 rfl rfl ?_
      refine ax_getr (ci := 5) 0 dX5_sumOf_6 rfl lfX5_7 (by decide) (by assumption) (by rfl) ?_
      refine aw_bipush (v := 28) dX5_sumOf_9 (by decide) ?_
      refine ax_ialdN (i := 28) dX5_sumOf_11 (by assumption) (by omega) (Nat.le_of_ble_eq_true rfl) ?_
      refine aw_tE (nI n) hn ?_
      refine aw_icmp_ge (tgt := 35) dX5_sumOf_12 (by decide) (fun c12 => ?_) (fun c12 => ?_)
      · refine aw_iload_n (i := 2) dX5_sumOf_35 rfl rfl ?_
        refine aw_ireturn (ty := .int) dX5_sumOf_36 rfl rfl ?_
        have hip : i = n := by have := (nI_leI (a := n) (b := i) (by omega) (by omega)).mp c12; omega
        subst hip
        exact ⟨rfl, rfl⟩
      · have hi : i < n := Nat.not_le.mp (fun z => c12 (nI_le z (by omega)))
        refine aw_iload_n (i := 2) dX5_sumOf_15 rfl rfl ?_
        refine aw_aload_n (i := 0) dX5_sumOf_16 rfl rfl ?_
        refine ax_getr (ci := 5) 0 dX5_sumOf_17 rfl lfX5_7 (by decide) (by assumption) (by rfl) ?_
        refine aw_bipush (v := 7) dX5_sumOf_20 (by decide) ?_
        refine aw_iload_n (i := 3) dX5_sumOf_22 rfl rfl ?_
        refine aw_imul dX5_sumOf_23 ?_
        refine aw_iload_n (i := 1) dX5_sumOf_24 rfl rfl ?_
        refine aw_iadd dX5_sumOf_25 ?_
        refine aw_tE (nI (7 * i + j)) (by rw [show (7 : Int32) = nI 7 from rfl, pk_mul, nI_add]) ?_
        refine ax_ialdN dX5_sumOf_26 (by assumption) (by omega) (Nat.le_of_ble_eq_true rfl) ?_
        refine aw_iadd dX5_sumOf_27 ?_
        refine aw_istore_n (i := 2) (L' := [_, _, _, _]) dX5_sumOf_28 rfl (Nat.le_of_ble_eq_true rfl) rfl rfl ?_
        refine aw_incN (L' := [_, _, _, _]) dX5_sumOf_29 rfl (Nat.le_of_ble_eq_true rfl) rfl rfl ?_
        refine aw_goto (tgt := 4) dX5_sumOf_32 (by decide) ?_
        exact ih (i + 1) hi (by omega)
  refine aw_iconst (v := 0) dX5_sumOf_0 (by decide) ?_
  refine aw_istore_n (i := 2) (L' := [_, _, _, _]) dX5_sumOf_1 rfl (Nat.le_of_ble_eq_true rfl) rfl rfl ?_
  refine aw_iconst (v := 0) dX5_sumOf_2 (by decide) ?_
  refine aw_istore_n (i := 3) (L' := [_, _, _, _]) dX5_sumOf_3 rfl (Nat.le_of_ble_eq_true rfl) rfl rfl ?_
  exact loop (n + 1) 0 (Nat.zero_le _) (by omega)
def cuF (f : Nat → Nat → Int32) (k : Nat) : Nat → Nat → Int32 := up2 f 66 (7 * k + 4) (clampI (f 66 (7 * k + 4)) (f 66 (7 * k + 2)))
set_option maxRecDepth 100000 in
set_option maxHeartbeats 1000000 in
theorem f_X5_cutsSum {V : am_V} {d : Nat} {f : Nat → Nat → Int32} {τ : Nat → Nat → Int64} {k : Nat} (hk : k < 4) : AF V MX5_cutsSum (d + 1) [.ref 64, .int (nI k)] (f, τ) none (cuF f k, τ) := by
  have tM := tb_M
  have m65 := tb_65
  have m66 := tb_66
  have m67 := tb_67
  have m68 := tb_68
  have m69 := tb_69
  have m70 := tb_70
  have m71 := tb_71
  have m72 := tb_72
  have m73 := tb_73
  have m74 := tb_74
  have m75 := tb_75
  have m76 := tb_76
  refine AM.of (L := [some (.ref 64), some (.int (nI k))]) (by decide +kernel) (Nat.le_of_ble_eq_true rfl) rfl ?_
  refine aw_aload_n (i := 0) dX5_cutsSum_0 rfl rfl ?_
  refine aw_iload_n (i := 1) dX5_cutsSum_1 rfl rfl ?_
  refine aw_iconst (v := 4) dX5_cutsSum_2 (by decide) ?_
  refine aw_aload_n (i := 0) dX5_cutsSum_3 rfl rfl ?_
  refine aw_iload_n (i := 1) dX5_cutsSum_4 rfl rfl ?_
  refine aw_iconst (v := 4) dX5_cutsSum_5 (by decide) ?_
  refine ax_callV2i (M' := MX5_of) (ci := 5) dX5_cutsSum_6 lmX5_145 oX5_of (by decide +kernel) (by assumption) rfl rfl (Nat.le_of_ble_eq_true rfl) (f_X5_of (k := k) (j := 4) (by omega)) ?_
  refine aw_aload_n (i := 0) dX5_cutsSum_9 rfl rfl ?_
  refine aw_iload_n (i := 1) dX5_cutsSum_10 rfl rfl ?_
  refine aw_iconst (v := 2) dX5_cutsSum_11 (by decide) ?_
  refine ax_callV2i (M' := MX5_of) (ci := 5) dX5_cutsSum_12 lmX5_145 oX5_of (by decide +kernel) (by assumption) rfl rfl (Nat.le_of_ble_eq_true rfl) (f_X5_of (k := k) (j := 2) (by omega)) ?_
  refine ax_callS2i (M' := MX5_within) dX5_cutsSum_15 lmX5_152 oX5_within (by decide +kernel) (Nat.le_of_ble_eq_true rfl) (f_X5_within _ _) ?_
  refine ax_callV3v (M' := MX5_becomesOf) (ci := 5) dX5_cutsSum_18 lmX5_148 oX5_becomesOf (by decide +kernel) (by assumption) rfl rfl (Nat.le_of_ble_eq_true rfl) (f_X5_becomesOf (k := k) (j := 4) (by omega) _) ?_
  refine aw_return dX5_cutsSum_21 rfl ?_
  exact ⟨rfl, rfl⟩
def lkM (f : Nat → Nat → Int32) (c : Int32) : Nat → Nat → Nat → Int32
  | 0 => f
  | i + 1 => wrM (lkM f c i) i (m_look (rowM (lkM f c i) i) ((c >>> (nI i &&& 31)) &&& 1))
theorem lkM_o {f : Nat → Nat → Int32} {c : Int32} {a j : Nat} (h : (a = 66 → 28 ≤ j) ∧ a ≠ 70 ∧ ¬ (a = 64 ∧ j = 15)) : ∀ i, i ≤ 4 → lkM f c i a j = f a j := by
  intro i
  induction i with
  | zero => intro _; rfl
  | succ i ih =>
    intro hi
    rw [lkM, wrM_o (by omega), ih (by omega)]
def tkM0 (f : Nat → Nat → Int32) (n : Nat) (c : Int32) : Nat → Nat → Int32 := if f 66 55 - f 66 55 / f 66 54 * f 66 54 = 0 then lkM f c n else f
def tkM (f : Nat → Nat → Int32) (n : Nat) (c : Int32) : Nat → Nat → Int32 := up2 (tkM0 f n c) 66 55 (tkM0 f n c 66 55 + 1)
set_option maxRecDepth 100000 in
set_option maxHeartbeats 1000000 in
theorem f_X5_tickGoesBy {V : am_V} {d : Nat} {f : Nat → Nat → Int32} {τ : Nat → Nat → Int64} {n : Nat} (hn4 : n ≤ 4) (hn : f 66 28 = nI n) (hev : ¬ f 66 54 = 0) (c : Int32) : AF V MX5_tickGoesBy (d + 4) [.ref 64, .int c] (f, τ) none (tkM f n c, τ) := by
  have tM := tb_M
  have m65 := tb_65
  have m66 := tb_66
  have m67 := tb_67
  have m68 := tb_68
  have m69 := tb_69
  have m70 := tb_70
  have m71 := tb_71
  have m72 := tb_72
  have m73 := tb_73
  have m74 := tb_74
  have m75 := tb_75
  have m76 := tb_76
  refine AM.of (L := [some (.ref 64), some (.int c), none]) (by decide +kernel) (Nat.le_of_ble_eq_true rfl) rfl ?_
  have loop : ∀ (m i : Nat) (hc : f 66 55 - f 66 55 / f 66 54 * f 66 54 = 0), i ≤ n → n - i < m → AW V MX5_tickGoesBy (d + 4) 0 0 20 [some (.ref 64), some (.int c), some (.int (nI i))] [] (hp (lkM f c i, τ)) (fun r' h' => r' = none ∧ h' = hp (tkM f n c, τ)) := by
    intro m
    induction m with
    | zero => intro i hc h1 h2; omega
    | succ m ih =>
      intro i hc h1 h2
      refine aw_iload_n (i := 2) dX5_tickGoesBy_20 rfl rfl ?_
      refine aw_aload_n (i := 0) dX5_tickGoesBy_21 rfl rfl ?_
      refine ax_getr (ci := 5) 1 dX5_tickGoesBy_22 rfl lfX5_13 (by decide) (by assumption) (by rfl) ?_
      refine aw_bipush (v := 28) dX5_tickGoesBy_25 (by decide) ?_
      refine ax_ialdN (i := 28) dX5_tickGoesBy_27 (by assumption) (by omega) (Nat.le_of_ble_eq_true rfl) ?_
      refine aw_tE (nI n) (by rw [lkM_o (by omega) i (by omega)]; exact hn) ?_
      refine aw_icmp_ge (tgt := 47) dX5_tickGoesBy_28 (by decide) (fun c28 => ?_) (fun c28 => ?_)
      · refine aw_aload_n (i := 0) dX5_tickGoesBy_47 rfl rfl ?_
        refine ax_getr (ci := 5) 1 dX5_tickGoesBy_48 rfl lfX5_13 (by decide) (by assumption) (by rfl) ?_
        refine aw_bipush (v := 55) dX5_tickGoesBy_51 (by decide) ?_
        refine aw_dup2 dX5_tickGoesBy_53 rfl rfl ?_
        refine ax_ialdN (i := 55) dX5_tickGoesBy_54 (by assumption) (by omega) (Nat.le_of_ble_eq_true rfl) ?_
        refine aw_iconst (v := 1) dX5_tickGoesBy_55 (by decide) ?_
        refine aw_iadd dX5_tickGoesBy_56 ?_
        refine ax_iastN (i := 55) dX5_tickGoesBy_57 (by assumption) (by omega) (Nat.le_of_ble_eq_true rfl) ?_
        refine aw_return dX5_tickGoesBy_58 rfl ?_
        first | (have hip : i = n := (by have := (nI_leI (a := n) (b := i) (by omega) (by omega)).mp c28; omega); subst hip; exact ⟨rfl, by rw [tkM, tkM0, if_pos hc]⟩) | exact ⟨rfl, by rw [tkM, tkM0, if_neg c15]⟩
      · have hi : i < n := Nat.not_le.mp (fun z => c28 (nI_le z (by omega)))
        refine aw_aload_n (i := 0) dX5_tickGoesBy_31 rfl rfl ?_
        refine aw_iload_n (i := 2) dX5_tickGoesBy_32 rfl rfl ?_
        refine aw_iload_n (i := 1) dX5_tickGoesBy_33 rfl rfl ?_
        refine aw_iload_n (i := 2) dX5_tickGoesBy_34 rfl rfl ?_
        refine aw_ishr dX5_tickGoesBy_35 ?_
        refine aw_iconst (v := 1) dX5_tickGoesBy_36 (by decide) ?_
        refine aw_iand dX5_tickGoesBy_37 ?_
        refine ax_callV2v (M' := MX5_looks) (ci := 5) dX5_tickGoesBy_38 lmX5_174 oX5_looks (by decide +kernel) (by assumption) rfl rfl (Nat.le_of_ble_eq_true rfl) (e_X5_looks (k := i) (by omega) _) ?_
        refine aw_incN (L' := [_, _, _]) dX5_tickGoesBy_41 rfl (Nat.le_of_ble_eq_true rfl) rfl rfl ?_
        refine aw_goto (tgt := 20) dX5_tickGoesBy_44 (by decide) ?_
        exact ih (i + 1) hc hi (by omega)
  refine aw_aload_n (i := 0) dX5_tickGoesBy_0 rfl rfl ?_
  refine ax_getr (ci := 5) 1 dX5_tickGoesBy_1 rfl lfX5_13 (by decide) (by assumption) (by rfl) ?_
  refine aw_bipush (v := 55) dX5_tickGoesBy_4 (by decide) ?_
  refine ax_ialdN (i := 55) dX5_tickGoesBy_6 (by assumption) (by omega) (Nat.le_of_ble_eq_true rfl) ?_
  refine aw_aload_n (i := 0) dX5_tickGoesBy_7 rfl rfl ?_
  refine ax_getr (ci := 5) 1 dX5_tickGoesBy_8 rfl lfX5_13 (by decide) (by assumption) (by rfl) ?_
  refine aw_bipush (v := 54) dX5_tickGoesBy_11 (by decide) ?_
  refine ax_ialdN (i := 54) dX5_tickGoesBy_13 (by assumption) (by omega) (Nat.le_of_ble_eq_true rfl) ?_
  refine aw_irem dX5_tickGoesBy_14 hev ?_
  refine aw_if_ne (tgt := 47) dX5_tickGoesBy_15 (by decide) (fun c15 => ?_) (fun c15 => ?_)
  · refine aw_aload_n (i := 0) dX5_tickGoesBy_47 rfl rfl ?_
    refine ax_getr (ci := 5) 1 dX5_tickGoesBy_48 rfl lfX5_13 (by decide) (by assumption) (by rfl) ?_
    refine aw_bipush (v := 55) dX5_tickGoesBy_51 (by decide) ?_
    refine aw_dup2 dX5_tickGoesBy_53 rfl rfl ?_
    refine ax_ialdN (i := 55) dX5_tickGoesBy_54 (by assumption) (by omega) (Nat.le_of_ble_eq_true rfl) ?_
    refine aw_iconst (v := 1) dX5_tickGoesBy_55 (by decide) ?_
    refine aw_iadd dX5_tickGoesBy_56 ?_
    refine ax_iastN (i := 55) dX5_tickGoesBy_57 (by assumption) (by omega) (Nat.le_of_ble_eq_true rfl) ?_
    refine aw_return dX5_tickGoesBy_58 rfl ?_
    first | (have hip : i = n := (by have := (nI_leI (a := n) (b := i) (by omega) (by omega)).mp c28; omega); subst hip; exact ⟨rfl, by rw [tkM, tkM0, if_pos hc]⟩) | exact ⟨rfl, by rw [tkM, tkM0, if_neg c15]⟩
  · refine aw_iconst (v := 0) dX5_tickGoesBy_18 (by decide) ?_
    refine aw_istore_n (i := 2) (L' := [_, _, _]) dX5_tickGoesBy_19 rfl (Nat.le_of_ble_eq_true rfl) rfl rfl ?_
    exact loop (n + 1) 0 c15 (Nat.zero_le _) (by omega)
theorem tkM_o {f : Nat → Nat → Int32} {n : Nat} {c : Int32} {a j : Nat} (hn4 : n ≤ 4) (h : (a = 66 → 28 ≤ j ∧ j ≠ 55) ∧ a ≠ 70 ∧ ¬ (a = 64 ∧ j = 15)) : tkM f n c a j = f a j := by
  unfold tkM
  rw [up2_ne (by omega)]
  unfold tkM0
  split
  · exact lkM_o (by omega) n hn4
  · rfl
def avM (f : Nat → Nat → Int32) (n p : Nat) : Nat → Nat → Nat → Int32
  | 0 => f
  | i + 1 => tkM (avM f n p i) n (cbM (avM f n p i) n p)
theorem avM_o {f : Nat → Nat → Int32} {n p a j : Nat} (hn4 : n ≤ 4) (h : (a = 66 → 28 ≤ j ∧ j ≠ 55) ∧ a ≠ 70 ∧ ¬ (a = 64 ∧ j = 15)) : ∀ i, avM f n p i a j = f a j := by
  intro i
  induction i with
  | zero => rfl
  | succ i ih => rw [avM, tkM_o hn4 h, ih]
set_option maxRecDepth 100000 in
set_option maxHeartbeats 1000000 in
theorem f_X5_ticksGo {V : am_V} {d : Nat} {f : Nat → Nat → Int32} {τ : Nat → Nat → Int64} {n p : Nat} (hn4 : n ≤ 4) (hn : f 66 28 = nI n) (hp8 : p ≤ 8) (hp1 : f 66 53 = nI p) (hev : ¬ f 66 54 = 0) {N : Nat} (hN : N < 2 ^ 31) : AF V MX5_ticksGo (d + 5) [.ref 64, .int (nI N)] (f, τ) none (avM f n p N, τ) := by
  have tM := tb_M
  have m65 := tb_65
  have m66 := tb_66
  have m67 := tb_67
  have m68 := tb_68
  have m69 := tb_69
  have m70 := tb_70
  have m71 := tb_71
  have m72 := tb_72
  have m73 := tb_73
  have m74 := tb_74
  have m75 := tb_75
  have m76 := tb_76
  refine AM.of (L := [some (.ref 64), some (.int (nI N)), none]) (by decide +kernel) (Nat.le_of_ble_eq_true rfl) rfl ?_
  have loop : ∀ (m i : Nat), i ≤ N → N - i < m → AW V MX5_ticksGo (d + 5) 0 0 2 [some (.ref 64), some (.int (nI N)), some (.int (nI i))] [] (hp (avM f n p i, τ)) (fun r' h' => r' = none ∧ h' = hp (avM f n p N, τ)) := by
    intro m
    induction m with
    | zero => intro i h1 h2; omega
    | succ m ih =>
      intro i h1 h2
      refine aw_iload_n (i := 2) dX5_ticksGo_2 rfl rfl ?_
      refine aw_iload_n (i := 1) dX5_ticksGo_3 rfl rfl ?_
      refine aw_icmp_ge (tgt := 21) dX5_ticksGo_4 (by decide) (fun c4 => ?_) (fun c4 => ?_)
      · refine aw_return dX5_ticksGo_21 rfl ?_
        have hip : i = N := by have := (nI_leI (a := N) (b := i) (by omega) (by omega)).mp c4; omega
        subst hip
        exact ⟨rfl, rfl⟩
      · have hi : i < N := Nat.not_le.mp (fun z => c4 (nI_le z (by omega)))
        refine aw_aload_n (i := 0) dX5_ticksGo_7 rfl rfl ?_
        refine aw_aload_n (i := 0) dX5_ticksGo_8 rfl rfl ?_
        refine ax_callV0i (M' := MX5_contactsNow) (ci := 5) dX5_ticksGo_9 lmX5_177 oX5_contactsNow (by decide +kernel) (by assumption) rfl rfl (Nat.le_of_ble_eq_true rfl) (f_X5_contactsNow hn4 ((avM_o hn4 (by omega) i).trans hn) hp8 ((avM_o hn4 (by omega) i).trans hp1)) ?_
        refine ax_callV1v (M' := MX5_tickGoesBy) (ci := 5) dX5_ticksGo_12 lmX5_180 oX5_tickGoesBy (by decide +kernel) (by assumption) rfl rfl (Nat.le_of_ble_eq_true rfl) (f_X5_tickGoesBy hn4 ((avM_o hn4 (by omega) i).trans hn) (by rw [avM_o hn4 (by omega)]; exact hev) _) ?_
        refine aw_incN (L' := [_, _, _]) dX5_ticksGo_15 rfl (Nat.le_of_ble_eq_true rfl) rfl rfl ?_
        refine aw_goto (tgt := 2) dX5_ticksGo_18 (by decide) ?_
        exact ih (i + 1) hi (by omega)
  refine aw_iconst (v := 0) dX5_ticksGo_0 (by decide) ?_
  refine aw_istore_n (i := 2) (L' := [_, _, _]) dX5_ticksGo_1 rfl (Nat.le_of_ble_eq_true rfl) rfl rfl ?_
  exact loop (N + 1) 0 (Nat.zero_le _) (by omega)
