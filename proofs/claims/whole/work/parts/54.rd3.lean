theorem up2_upk_ne (f : Nat → Nat → Int32) {a b : Nat} (k : Nat) (g : Nat → Int32) (x : Int32) (h : a ≠ b) : up2 (upk f b g) a k x = upk (up2 f a k x) b g := by
  funext c j
  unfold up2 upk
  by_cases h1 : c = a
  · subst h1; simp [h]
  · simp [h1]
theorem akF_upk (f : Nat → Nat → Int32) {n : Nat} (hn : n < 4) (g : Nat → Int32) (x y z : Int32) : akF (upk f 61 g) 14 n x y z = upk (akF f 14 n x y z) 61 g := by
  unfold akF
  rw [upk_rne (by omega), upk_comm f g _ (by omega), up2_upk_ne _ _ _ _ (by omega)]
theorem apF_upk (f : Nat → Nat → Int32) {p : Nat} (g : Nat → Int32) (x y z : Int32) : apF (upk f 61 g) 14 6 5 p x y z = upk (apF f 14 6 5 p x y z) 61 g := by
  unfold apF
  rw [up2_upk_ne _ _ _ _ (by omega), up2_upk_ne _ _ _ _ (by omega), up2_upk_ne _ _ _ _ (by omega), up2_upk_ne _ _ _ _ (by omega)]
theorem clF_upk (f : Nat → Nat → Int32) (g : Nat → Int32) : clF (upk f 61 g) 14 = upk (clF f 14) 61 g := by
  unfold clF
  rw [up2_upk_ne _ _ _ _ (by omega), up2_upk_ne _ _ _ _ (by omega), up2_upk_ne _ _ _ _ (by omega), up2_upk_ne _ _ _ _ (by omega), up2_upk_ne _ _ _ _ (by omega)]
theorem CS_l {L : Nat} {g : Nat → Int32} {s : sg} (h : CS L g s) (h8 : g 8 = 0) : ∃ p, s = .inl p := by
  cases s with
  | inl p => exact ⟨p, rfl⟩
  | inr x => exact absurd (h.1.symm.trans h8) (nI_6 h.2.1)
theorem CS_r {L : Nat} {g : Nat → Int32} {s : sg} (h : CS L g s) (h8 : ¬ g 8 = 0) : ∃ x, s = .inr x := by
  cases s with
  | inl p => exact absurd h.1 h8
  | inr x => exact ⟨x, rfl⟩
theorem CS_f {L q c : Nat} {g : Nat → Int32} {r : Nat} (h : CS L g (.inl r)) (h5 : g 5 = nI q) (hc : 1 ≤ c ∧ c ≤ 6) : CS L (flG g (nI c) (g 5)) (.inr (c, q)) := by
  rw [flG_t h.1]
  exact ⟨rfl, hc, h5, h.2.2.2⟩
set_option maxRecDepth 100000 in
set_option maxHeartbeats 1000000 in
theorem g_X3_readKey {V : am_V} {d L : Nat} {f : Nat → Nat → Int32} {g ch : Nat → Int32} {τ : Nat → Nat → Int64} (hT : tpOK f 1 L ch) {q r : Nat} (hs : CS L g (.inl r)) (h5 : g 5 = nI q) {n : Nat} (hn4 : n ≤ 4) (hn : f 14 1 = nI n) (kind : Int32) : AGv V MX3_readKey (d + 4) [.ref 61, .int kind] (upk f 61 g, τ) (fun S' => ∃ f' g', S' = (upk f' 61 g', τ) ∧ CS L g' (if n < 4 then (pNum ch 1 9 (pNum ch 0 9 (.inl r)).2).2 else .inr (5, q)) ∧ g' 7 = g 7 ∧ (∀ p', (if n < 4 then (pNum ch 1 9 (pNum ch 0 9 (.inl r)).2).2 else .inr (5, q)) = .inl p' → f' = akF f 14 n kind (pNum ch 0 9 (.inl r)).1 (pNum ch 1 9 (pNum ch 0 9 (.inl r)).2).1) ∧ (∀ x, (if n < 4 then (pNum ch 1 9 (pNum ch 0 9 (.inl r)).2).2 else .inr (5, q)) = .inr x → f' = f)) := by
  have tR := tb_rd
  have tT := tb_tp
  have t14 := tb_B isB14
  refine AM.of (L := [some (.ref 61), some (.int kind), none, none]) (by decide +kernel) (Nat.le_of_ble_eq_true rfl) rfl ?_
  have rest : ∀ (g0 : Nat → Int32) (s : sg), CS L g0 s → g0 7 = g 7 → (∀ p, s = .inl p → n < 4) → AW V MX3_readKey (d + 4) 0 0 20 [some (.ref 61), some (.int kind), none, none] [] (hp (upk f 61 g0, τ)) (fun r' h' => ∃ S' : fm, r' = none ∧ h' = hp S' ∧ ∃ f' g', S' = (upk f' 61 g', τ) ∧ CS L g' ((pNum ch 1 9 (pNum ch 0 9 s).2).2) ∧ g' 7 = g 7 ∧ (∀ p', (pNum ch 1 9 (pNum ch 0 9 s).2).2 = .inl p' → f' = akF f 14 n kind (pNum ch 0 9 s).1 (pNum ch 1 9 (pNum ch 0 9 s).2).1) ∧ (∀ x, (pNum ch 1 9 (pNum ch 0 9 s).2).2 = .inr x → f' = f)) := by
    intro g0 s hC0 h70 hns
    refine aw_aload_n (i := 0) dX3_readKey_20 rfl rfl ?_
    refine aw_iconst (v := 0) dX3_readKey_21 (by decide) ?_
    refine aw_bipush (v := 9) dX3_readKey_22 (by decide) ?_
    refine ax_gV2i (M' := MX3_readNumber) (ci := 3) dX3_readKey_24 lmX3_87 oX3_readNumber (by decide +kernel) (by assumption) rfl rfl (Nat.le_of_ble_eq_true rfl) (g_X3_readNumber hT hC0 _ _) (fun r_ S_ h_ => ?_)
    obtain ⟨g1, rfl, hC1, hv1, h71⟩ := h_
    obtain ⟨x1, rfl⟩ : ∃ z, z = r_ := ⟨_, rfl⟩
    refine aw_istore_n (i := 2) (L' := [_, _, _, _]) dX3_readKey_27 rfl (Nat.le_of_ble_eq_true rfl) rfl rfl ?_
    refine aw_aload_n (i := 0) dX3_readKey_28 rfl rfl ?_
    refine aw_iconst (v := 1) dX3_readKey_29 (by decide) ?_
    refine aw_bipush (v := 9) dX3_readKey_30 (by decide) ?_
    refine ax_gV2i (M' := MX3_readNumber) (ci := 3) dX3_readKey_32 lmX3_87 oX3_readNumber (by decide +kernel) (by assumption) rfl rfl (Nat.le_of_ble_eq_true rfl) (g_X3_readNumber hT hC1 _ _) (fun r_ S_ h_ => ?_)
    obtain ⟨g2, rfl, hC2, hv2, h72⟩ := h_
    obtain ⟨x2, rfl⟩ : ∃ z, z = r_ := ⟨_, rfl⟩
    refine aw_istore_n (i := 3) (L' := [_, _, _, _]) dX3_readKey_35 rfl (Nat.le_of_ble_eq_true rfl) rfl rfl ?_
    refine aw_aload_n (i := 0) dX3_readKey_36 rfl rfl ?_
    refine ax_getK (ci := 3) 8 dX3_readKey_37 rfl lfX3_41 (by decide) (by assumption) (by rfl) ?_
    refine aw_if_ne (tgt := 53) dX3_readKey_40 (by decide) (fun c40 => ?_) (fun c40 => ?_)
    · refine aw_return dX3_readKey_53 rfl ?_
      first
        | (obtain ⟨x3, hg⟩ := CS_r hC2 c40
           exact ⟨_, rfl, rfl, f, g2, rfl, hC2, h72.trans (h71.trans h70), fun p' z => absurd (hg.symm.trans z) (by intro z; cases z), fun _ _ => rfl⟩)
        | exact ⟨_, rfl, rfl, akF f 14 n kind x1 x2, g2, (by rw [akF_upk f hn3]), hC2, h72.trans (h71.trans h70), fun p' z => by rw [e1, e2], fun x z => absurd (hg.symm.trans z) (by intro z; cases z)⟩
    · obtain ⟨p3, hg⟩ := CS_l hC2 c40
      obtain ⟨p2, hg1⟩ := pNum_src hg
      obtain ⟨p1, hg0⟩ := pNum_src hg1
      have hn3 := hns p1 hg0
      have e1 := hv1 p2 hg1
      have e2 := hv2 p3 hg
      refine aw_aload_n (i := 0) dX3_readKey_43 rfl rfl ?_
      refine ax_getr (ci := 3) 1 dX3_readKey_44 rfl lfX3_15 (by decide) (by assumption) (by rfl) ?_
      refine aw_iload_n (i := 1) dX3_readKey_47 rfl rfl ?_
      refine aw_iload_n (i := 2) dX3_readKey_48 rfl rfl ?_
      refine aw_iload_n (i := 3) dX3_readKey_49 rfl rfl ?_
      refine ax_callV3v (M' := MX0_addKey) (ci := 0) dX3_readKey_50 lmX3_90 oX0_addKey (by decide +kernel) (by assumption) rfl rfl (Nat.le_of_ble_eq_true rfl) (f_X0_addKey isB14 hn3 (by rw [upk_ne (by omega)]; exact hn) _ _ _) ?_
      refine aw_return dX3_readKey_53 rfl ?_
      first
        | (obtain ⟨x3, hg⟩ := CS_r hC2 c40
           exact ⟨_, rfl, rfl, f, g2, rfl, hC2, h72.trans (h71.trans h70), fun p' z => absurd (hg.symm.trans z) (by intro z; cases z), fun _ _ => rfl⟩)
        | exact ⟨_, rfl, rfl, akF f 14 n kind x1 x2, g2, (by rw [akF_upk f hn3]), hC2, h72.trans (h71.trans h70), fun p' z => by rw [e1, e2], fun x z => absurd (hg.symm.trans z) (by intro z; cases z)⟩
  refine aw_aload_n (i := 0) dX3_readKey_0 rfl rfl ?_
  refine ax_getr (ci := 3) 1 dX3_readKey_1 rfl lfX3_15 (by decide) (by assumption) (by rfl) ?_
  refine ax_geti (ci := 0) 1 dX3_readKey_4 rfl lfX3_84 (by decide) (by assumption) (by rfl) ?_
  refine aw_tE (nI n) (by rw [upk_ne (by omega)]; exact hn) ?_
  refine aw_iconst (v := 4) dX3_readKey_7 (by decide) ?_
  refine aw_icmp_lt (tgt := 20) dX3_readKey_8 (by decide) (fun c8 => ?_) (fun c8 => ?_)
  · first
      | (have hn3 : n < 4 := (nI_ltI (b := 4) (by omega) (by omega)).mp c8
         rw [if_pos hn3]
         exact rest g (.inl r) hs rfl (fun _ _ => hn3))
      | (have hn3 : ¬ n < 4 := fun z => c8 ((nI_ltI (b := 4) (by omega) (by omega)).mpr z)
         rw [if_neg hn3]
         refine AW.weaken ?_ (rest (flG g 5 (g 5)) (.inr (5, q)) (CS_f (c := 5) hs h5 (by omega)) (flG_7 _ _ _) (fun _ z => by cases z))
         rintro r9 h9 ⟨S9, e1, e2, f9, g9, e3, e4, e5, e6, e7⟩
         exact ⟨S9, e1, e2, f9, g9, e3, e4, e5, fun p9 z => (by cases z), e7⟩)
  · refine aw_aload_n (i := 0) dX3_readKey_11 rfl rfl ?_
    refine aw_iconst (v := 5) dX3_readKey_12 (by decide) ?_
    refine aw_aload_n (i := 0) dX3_readKey_13 rfl rfl ?_
    refine ax_getK (ci := 3) 5 dX3_readKey_14 rfl lfX3_68 (by decide) (by assumption) (by rfl) ?_
    refine ax_callV2v (M' := MX3_fail) (ci := 3) dX3_readKey_17 lmX3_60 oX3_fail (by decide +kernel) (by assumption) rfl rfl (Nat.le_of_ble_eq_true rfl) (f_X3_fail _ _) ?_
    first
      | (have hn3 : n < 4 := (nI_ltI (b := 4) (by omega) (by omega)).mp c8
         rw [if_pos hn3]
         exact rest g (.inl r) hs rfl (fun _ _ => hn3))
      | (have hn3 : ¬ n < 4 := fun z => c8 ((nI_ltI (b := 4) (by omega) (by omega)).mpr z)
         rw [if_neg hn3]
         refine AW.weaken ?_ (rest (flG g 5 (g 5)) (.inr (5, q)) (CS_f (c := 5) hs h5 (by omega)) (flG_7 _ _ _) (fun _ z => by cases z))
         rintro r9 h9 ⟨S9, e1, e2, f9, g9, e3, e4, e5, e6, e7⟩
         exact ⟨S9, e1, e2, f9, g9, e3, e4, e5, fun p9 z => (by cases z), e7⟩)
set_option maxRecDepth 100000 in
set_option maxHeartbeats 1000000 in
theorem g_X3_readPress {V : am_V} {d L : Nat} {f : Nat → Nat → Int32} {g ch : Nat → Int32} {τ : Nat → Nat → Int64} (hT : tpOK f 1 L ch) {q r : Nat} (hs : CS L g (.inl r)) (h5 : g 5 = nI q) {np : Nat} (hn8 : np ≤ 8) (hn : f 14 5 = nI np) : AGv V MX3_readPress (d + 4) [.ref 61] (upk f 61 g, τ) (fun S' => ∃ f' g', S' = (upk f' 61 g', τ) ∧ CS L g' (if np < 8 then (pNum ch 0 1 (pNum ch 0 3 (pNum ch 0 99 (.inl r)).2).2).2 else .inr (5, q)) ∧ g' 7 = g 7 ∧ (∀ p', (if np < 8 then (pNum ch 0 1 (pNum ch 0 3 (pNum ch 0 99 (.inl r)).2).2).2 else .inr (5, q)) = .inl p' → f' = apF f 14 6 5 np (pNum ch 0 99 (.inl r)).1 (pNum ch 0 3 (pNum ch 0 99 (.inl r)).2).1 (pNum ch 0 1 (pNum ch 0 3 (pNum ch 0 99 (.inl r)).2).2).1) ∧ (∀ x, (if np < 8 then (pNum ch 0 1 (pNum ch 0 3 (pNum ch 0 99 (.inl r)).2).2).2 else .inr (5, q)) = .inr x → f' = f)) := by
  have tR := tb_rd
  have tT := tb_tp
  have t14 := tb_B isB14
  refine AM.of (L := [some (.ref 61), none, none, none]) (by decide +kernel) (Nat.le_of_ble_eq_true rfl) rfl ?_
  have rest : ∀ (g0 : Nat → Int32) (s : sg), CS L g0 s → g0 7 = g 7 → (∀ p, s = .inl p → np < 8) → AW V MX3_readPress (d + 4) 0 0 21 [some (.ref 61), none, none, none] [] (hp (upk f 61 g0, τ)) (fun r' h' => ∃ S' : fm, r' = none ∧ h' = hp S' ∧ ∃ f' g', S' = (upk f' 61 g', τ) ∧ CS L g' ((pNum ch 0 1 (pNum ch 0 3 (pNum ch 0 99 s).2).2).2) ∧ g' 7 = g 7 ∧ (∀ p', (pNum ch 0 1 (pNum ch 0 3 (pNum ch 0 99 s).2).2).2 = .inl p' → f' = apF f 14 6 5 np (pNum ch 0 99 s).1 (pNum ch 0 3 (pNum ch 0 99 s).2).1 (pNum ch 0 1 (pNum ch 0 3 (pNum ch 0 99 s).2).2).1) ∧ (∀ x, (pNum ch 0 1 (pNum ch 0 3 (pNum ch 0 99 s).2).2).2 = .inr x → f' = f)) := by
    intro g0 s hC0 h70 hns
    refine aw_aload_n (i := 0) dX3_readPress_21 rfl rfl ?_
    refine aw_iconst (v := 0) dX3_readPress_22 (by decide) ?_
    refine aw_bipush (v := 99) dX3_readPress_23 (by decide) ?_
    refine ax_gV2i (M' := MX3_readNumber) (ci := 3) dX3_readPress_25 lmX3_87 oX3_readNumber (by decide +kernel) (by assumption) rfl rfl (Nat.le_of_ble_eq_true rfl) (g_X3_readNumber hT hC0 _ _) (fun r_ S_ h_ => ?_)
    obtain ⟨g1, rfl, hC1, hv1, h71⟩ := h_
    obtain ⟨x1, rfl⟩ : ∃ z, z = r_ := ⟨_, rfl⟩
    refine aw_istore_n (i := 1) (L' := [_, _, _, _]) dX3_readPress_28 rfl (Nat.le_of_ble_eq_true rfl) rfl rfl ?_
    refine aw_aload_n (i := 0) dX3_readPress_29 rfl rfl ?_
    refine aw_iconst (v := 0) dX3_readPress_30 (by decide) ?_
    refine aw_iconst (v := 3) dX3_readPress_31 (by decide) ?_
    refine ax_gV2i (M' := MX3_readNumber) (ci := 3) dX3_readPress_32 lmX3_87 oX3_readNumber (by decide +kernel) (by assumption) rfl rfl (Nat.le_of_ble_eq_true rfl) (g_X3_readNumber hT hC1 _ _) (fun r_ S_ h_ => ?_)
    obtain ⟨g2, rfl, hC2, hv2, h72⟩ := h_
    obtain ⟨x2, rfl⟩ : ∃ z, z = r_ := ⟨_, rfl⟩
    refine aw_istore_n (i := 2) (L' := [_, _, _, _]) dX3_readPress_35 rfl (Nat.le_of_ble_eq_true rfl) rfl rfl ?_
    refine aw_aload_n (i := 0) dX3_readPress_36 rfl rfl ?_
    refine aw_iconst (v := 0) dX3_readPress_37 (by decide) ?_
    refine aw_iconst (v := 1) dX3_readPress_38 (by decide) ?_
    refine ax_gV2i (M' := MX3_readNumber) (ci := 3) dX3_readPress_39 lmX3_87 oX3_readNumber (by decide +kernel) (by assumption) rfl rfl (Nat.le_of_ble_eq_true rfl) (g_X3_readNumber hT hC2 _ _) (fun r_ S_ h_ => ?_)
    obtain ⟨g3, rfl, hC3, hv3, h73⟩ := h_
    obtain ⟨x3, rfl⟩ : ∃ z, z = r_ := ⟨_, rfl⟩
    refine aw_istore_n (i := 3) (L' := [_, _, _, _]) dX3_readPress_42 rfl (Nat.le_of_ble_eq_true rfl) rfl rfl ?_
    refine aw_aload_n (i := 0) dX3_readPress_43 rfl rfl ?_
    refine ax_getK (ci := 3) 8 dX3_readPress_44 rfl lfX3_41 (by decide) (by assumption) (by rfl) ?_
    refine aw_if_ne (tgt := 60) dX3_readPress_47 (by decide) (fun c47 => ?_) (fun c47 => ?_)
    · refine aw_return dX3_readPress_60 rfl ?_
      first
        | (obtain ⟨x3, hg⟩ := CS_r hC3 c47
           exact ⟨_, rfl, rfl, f, g3, rfl, hC3, h73.trans (h72.trans (h71.trans h70)), fun p' z => absurd (hg.symm.trans z) (by intro z; cases z), fun _ _ => rfl⟩)
        | exact ⟨_, rfl, rfl, apF f 14 6 5 np x1 x2 x3, g3, (by rw [apF_upk]), hC3, h73.trans (h72.trans (h71.trans h70)), fun p' z => by rw [e1, e2, e3], fun x z => absurd (hg3.symm.trans z) (by intro z; cases z)⟩
    · obtain ⟨p4, hg3⟩ := CS_l hC3 c47
      obtain ⟨p3, hg2⟩ := pNum_src hg3
      obtain ⟨p2, hg1⟩ := pNum_src hg2
      obtain ⟨p1, hg0⟩ := pNum_src hg1
      have hn3 := hns p1 hg0
      have e1 := hv1 p2 hg1
      have e2 := hv2 p3 hg2
      have e3 := hv3 p4 hg3
      refine aw_aload_n (i := 0) dX3_readPress_50 rfl rfl ?_
      refine ax_getr (ci := 3) 1 dX3_readPress_51 rfl lfX3_15 (by decide) (by assumption) (by rfl) ?_
      refine aw_iload_n (i := 1) dX3_readPress_54 rfl rfl ?_
      refine aw_iload_n (i := 2) dX3_readPress_55 rfl rfl ?_
      refine aw_iload_n (i := 3) dX3_readPress_56 rfl rfl ?_
      refine ax_callV3v (M' := MX0_addPress) (ci := 0) dX3_readPress_57 lmX3_97 oX0_addPress (by decide +kernel) (by assumption) rfl rfl (Nat.le_of_ble_eq_true rfl) (f_X0_addPress isB14 hn3 (by rw [upk_ne (by omega)]; exact hn) _ _ _) ?_
      refine aw_return dX3_readPress_60 rfl ?_
      first
        | (obtain ⟨x3, hg⟩ := CS_r hC3 c47
           exact ⟨_, rfl, rfl, f, g3, rfl, hC3, h73.trans (h72.trans (h71.trans h70)), fun p' z => absurd (hg.symm.trans z) (by intro z; cases z), fun _ _ => rfl⟩)
        | exact ⟨_, rfl, rfl, apF f 14 6 5 np x1 x2 x3, g3, (by rw [apF_upk]), hC3, h73.trans (h72.trans (h71.trans h70)), fun p' z => by rw [e1, e2, e3], fun x z => absurd (hg3.symm.trans z) (by intro z; cases z)⟩
  refine aw_aload_n (i := 0) dX3_readPress_0 rfl rfl ?_
  refine ax_getr (ci := 3) 1 dX3_readPress_1 rfl lfX3_15 (by decide) (by assumption) (by rfl) ?_
  refine ax_geti (ci := 0) 5 dX3_readPress_4 rfl lfX3_94 (by decide) (by assumption) (by rfl) ?_
  refine aw_tE (nI np) (by rw [upk_ne (by omega)]; exact hn) ?_
  refine aw_bipush (v := 8) dX3_readPress_7 (by decide) ?_
  refine aw_icmp_lt (tgt := 21) dX3_readPress_9 (by decide) (fun c9 => ?_) (fun c9 => ?_)
  · first
      | (have hn3 : np < 8 := (nI_ltI (b := 8) (by omega) (by omega)).mp c9
         rw [if_pos hn3]
         exact rest g (.inl r) hs rfl (fun _ _ => hn3))
      | (have hn3 : ¬ np < 8 := fun z => c9 ((nI_ltI (b := 8) (by omega) (by omega)).mpr z)
         rw [if_neg hn3]
         refine AW.weaken ?_ (rest (flG g 5 (g 5)) (.inr (5, q)) (CS_f (c := 5) hs h5 (by omega)) (flG_7 _ _ _) (fun _ z => by cases z))
         rintro r9 h9 ⟨S9, e1, e2, f9, g9, e3, e4, e5, e6, e7⟩
         exact ⟨S9, e1, e2, f9, g9, e3, e4, e5, fun p9 z => (by cases z), e7⟩)
  · refine aw_aload_n (i := 0) dX3_readPress_12 rfl rfl ?_
    refine aw_iconst (v := 5) dX3_readPress_13 (by decide) ?_
    refine aw_aload_n (i := 0) dX3_readPress_14 rfl rfl ?_
    refine ax_getK (ci := 3) 5 dX3_readPress_15 rfl lfX3_68 (by decide) (by assumption) (by rfl) ?_
    refine ax_callV2v (M' := MX3_fail) (ci := 3) dX3_readPress_18 lmX3_60 oX3_fail (by decide +kernel) (by assumption) rfl rfl (Nat.le_of_ble_eq_true rfl) (f_X3_fail _ _) ?_
    first
      | (have hn3 : np < 8 := (nI_ltI (b := 8) (by omega) (by omega)).mp c9
         rw [if_pos hn3]
         exact rest g (.inl r) hs rfl (fun _ _ => hn3))
      | (have hn3 : ¬ np < 8 := fun z => c9 ((nI_ltI (b := 8) (by omega) (by omega)).mpr z)
         rw [if_neg hn3]
         refine AW.weaken ?_ (rest (flG g 5 (g 5)) (.inr (5, q)) (CS_f (c := 5) hs h5 (by omega)) (flG_7 _ _ _) (fun _ z => by cases z))
         rintro r9 h9 ⟨S9, e1, e2, f9, g9, e3, e4, e5, e6, e7⟩
         exact ⟨S9, e1, e2, f9, g9, e3, e4, e5, fun p9 z => (by cases z), e7⟩)
set_option maxRecDepth 100000 in
set_option maxHeartbeats 1000000 in
theorem g_X3_readEvery {V : am_V} {d L : Nat} {f : Nat → Nat → Int32} {g ch : Nat → Int32} {τ : Nat → Nat → Int64} (hT : tpOK f 1 L ch) {q r : Nat} (hs : CS L g (.inl r)) (h5 : g 5 = nI q) {told : Nat} (ht : told ≤ 1) (h7 : g 7 = nI told) : AGv V MX3_readEvery (d + 4) [.ref 61] (upk f 61 g, τ) (fun S' => ∃ f' g', S' = (upk f' 61 g', τ) ∧ CS L g' (if told = 0 then (pNum ch 1 4 (.inl r)).2 else .inr (4, q)) ∧ g' 7 = 1 ∧ (∀ p', (if told = 0 then (pNum ch 1 4 (.inl r)).2 else .inr (4, q)) = .inl p' → f' = up2 f 14 6 (pNum ch 1 4 (.inl r)).1) ∧ (∀ x, (if told = 0 then (pNum ch 1 4 (.inl r)).2 else .inr (4, q)) = .inr x → f' = f)) := by
  have tR := tb_rd
  have tT := tb_tp
  have t14 := tb_B isB14
  refine AM.of (L := [some (.ref 61), none]) (by decide +kernel) (Nat.le_of_ble_eq_true rfl) rfl ?_
  have rest : ∀ (g0 : Nat → Int32) (s : sg), CS L g0 s → AW V MX3_readEvery (d + 4) 0 0 16 [some (.ref 61), none] [] (hp (upk f 61 g0, τ)) (fun r' h' => ∃ S' : fm, r' = none ∧ h' = hp S' ∧ ∃ f' g', S' = (upk f' 61 g', τ) ∧ CS L g' ((pNum ch 1 4 s).2) ∧ g' 7 = 1 ∧ (∀ p', (pNum ch 1 4 s).2 = .inl p' → f' = up2 f 14 6 (pNum ch 1 4 s).1) ∧ (∀ x, (pNum ch 1 4 s).2 = .inr x → f' = f)) := by
    intro g0 s hC0
    have hC9 : CS L (upd g0 7 1) s := by cases s <;> exact hC0
    refine aw_aload_n (i := 0) dX3_readEvery_16 rfl rfl ?_
    refine aw_iconst (v := 1) dX3_readEvery_17 (by decide) ?_
    refine ax_putKz (ci := 3) 7 dX3_readEvery_18 rfl lfX3_37 (by decide) (by assumption) (by rfl) rfl rfl (Or.inr rfl) ?_
    refine aw_aload_n (i := 0) dX3_readEvery_21 rfl rfl ?_
    refine aw_iconst (v := 1) dX3_readEvery_22 (by decide) ?_
    refine aw_iconst (v := 4) dX3_readEvery_23 (by decide) ?_
    refine ax_gV2i (M' := MX3_readNumber) (ci := 3) dX3_readEvery_24 lmX3_87 oX3_readNumber (by decide +kernel) (by assumption) rfl rfl (Nat.le_of_ble_eq_true rfl) (g_X3_readNumber hT hC9 _ _) (fun r_ S_ h_ => ?_)
    obtain ⟨g1, rfl, hC1, hv1, h71⟩ := h_
    obtain ⟨x1, rfl⟩ : ∃ z, z = r_ := ⟨_, rfl⟩
    refine aw_istore_n (i := 1) (L' := [_, _]) dX3_readEvery_27 rfl (Nat.le_of_ble_eq_true rfl) rfl rfl ?_
    refine aw_aload_n (i := 0) dX3_readEvery_28 rfl rfl ?_
    refine ax_getK (ci := 3) 8 dX3_readEvery_29 rfl lfX3_41 (by decide) (by assumption) (by rfl) ?_
    refine aw_if_ne (tgt := 43) dX3_readEvery_32 (by decide) (fun c32 => ?_) (fun c32 => ?_)
    · refine aw_return dX3_readEvery_43 rfl ?_
      first
        | (obtain ⟨x3, hg⟩ := CS_r hC1 c32
           exact ⟨_, rfl, rfl, f, g1, rfl, hC1, h71, fun p' z => absurd (hg.symm.trans z) (by intro z; cases z), fun _ _ => rfl⟩)
        | exact ⟨_, rfl, rfl, up2 f 14 6 x1, g1, (by rw [up2_upk_ne _ _ _ _ (by omega)]), hC1, h71, fun p' z => by rw [e1], fun x z => absurd (hg.symm.trans z) (by intro z; cases z)⟩
    · obtain ⟨p3, hg⟩ := CS_l hC1 c32
      have e1 := hv1 p3 hg
      refine aw_aload_n (i := 0) dX3_readEvery_35 rfl rfl ?_
      refine ax_getr (ci := 3) 1 dX3_readEvery_36 rfl lfX3_15 (by decide) (by assumption) (by rfl) ?_
      refine aw_iload_n (i := 1) dX3_readEvery_39 rfl rfl ?_
      refine ax_puti (ci := 0) 6 dX3_readEvery_40 rfl lfX3_100 (by decide) (by assumption) (by rfl) rfl rfl ?_
      refine aw_return dX3_readEvery_43 rfl ?_
      first
        | (obtain ⟨x3, hg⟩ := CS_r hC1 c32
           exact ⟨_, rfl, rfl, f, g1, rfl, hC1, h71, fun p' z => absurd (hg.symm.trans z) (by intro z; cases z), fun _ _ => rfl⟩)
        | exact ⟨_, rfl, rfl, up2 f 14 6 x1, g1, (by rw [up2_upk_ne _ _ _ _ (by omega)]), hC1, h71, fun p' z => by rw [e1], fun x z => absurd (hg.symm.trans z) (by intro z; cases z)⟩
  refine aw_aload_n (i := 0) dX3_readEvery_0 rfl rfl ?_
  refine ax_getK (ci := 3) 7 dX3_readEvery_1 rfl lfX3_37 (by decide) (by assumption) (by rfl) ?_
  refine aw_tE (nI told) h7 ?_
  refine aw_if_eq (tgt := 16) dX3_readEvery_4 (by decide) (fun c4 => ?_) (fun c4 => ?_)
  · first
      | (have hn3 : told = 0 := (nI_eq (b := 0) (by omega) (by omega)).mp c4
         rw [if_pos hn3]
         exact rest g (.inl r) hs)
      | (have hn3 : ¬ told = 0 := fun z => c4 (by rw [z]; rfl)
         rw [if_neg hn3]
         refine AW.weaken ?_ (rest (flG g 4 (g 5)) (.inr (4, q)) (CS_f (c := 4) hs h5 (by omega)))
         rintro r9 h9 ⟨S9, e1, e2, f9, g9, e3, e4, e5, e6, e7⟩
         exact ⟨S9, e1, e2, f9, g9, e3, e4, e5, fun p9 z => (by cases z), e7⟩)
  · refine aw_aload_n (i := 0) dX3_readEvery_7 rfl rfl ?_
    refine aw_iconst (v := 4) dX3_readEvery_8 (by decide) ?_
    refine aw_aload_n (i := 0) dX3_readEvery_9 rfl rfl ?_
    refine ax_getK (ci := 3) 5 dX3_readEvery_10 rfl lfX3_68 (by decide) (by assumption) (by rfl) ?_
    refine ax_callV2v (M' := MX3_fail) (ci := 3) dX3_readEvery_13 lmX3_60 oX3_fail (by decide +kernel) (by assumption) rfl rfl (Nat.le_of_ble_eq_true rfl) (f_X3_fail _ _) ?_
    first
      | (have hn3 : told = 0 := (nI_eq (b := 0) (by omega) (by omega)).mp c4
         rw [if_pos hn3]
         exact rest g (.inl r) hs)
      | (have hn3 : ¬ told = 0 := fun z => c4 (by rw [z]; rfl)
         rw [if_neg hn3]
         refine AW.weaken ?_ (rest (flG g 4 (g 5)) (.inr (4, q)) (CS_f (c := 4) hs h5 (by omega)))
         rintro r9 h9 ⟨S9, e1, e2, f9, g9, e3, e4, e5, e6, e7⟩
         exact ⟨S9, e1, e2, f9, g9, e3, e4, e5, fun p9 z => (by cases z), e7⟩)
/-- what a line does to the board that is read -/
def bStep (ch : Nat → Int32) (q : Nat) (f : Nat → Nat → Int32) (n np : Nat) : Nat → Nat → Int32 := if lnN ch q = 5 then up2 f 14 6 (pEv ch q).1 else if lnN ch q = 4 then apF f 14 6 5 np (pP1 ch q).1 (pP2 ch q).1 (pP3 ch q).1 else akF f 14 n (lnN ch q) (pK1 ch q).1 (pK2 ch q).1
def tStep (ch : Nat → Int32) (q told : Nat) : Nat := if lnN ch q = 5 then 1 else told
theorem akF_o {f : Nat → Nat → Int32} {n c : Nat} (hn : n < 4) (hc : c < 14 ∨ 26 ≤ c) (x y z : Int32) : akF f 14 n x y z c = f c := by
  funext j
  unfold akF
  rw [up2_ne (by omega), upk_ne (by omega)]
theorem apF_o {f : Nat → Nat → Int32} {p c : Nat} (hc : c < 14 ∨ 26 ≤ c) (x y z : Int32) : apF f 14 6 5 p x y z c = f c := by
  funext j
  unfold apF
  rw [up2_ne (by omega), up2_ne (by omega), up2_ne (by omega), up2_ne (by omega)]
theorem tpOK.mv {f f2 : Nat → Nat → Int32} {c L : Nat} {ch : Nat → Int32} (h : f2 c = f c) (hT : tpOK f c L ch) : tpOK f2 c L ch := by
  refine ⟨hT.1, fun u hu => ?_, hT.2.2⟩
  rw [h]
  exact hT.2.1 u hu
set_option maxRecDepth 100000 in
set_option maxHeartbeats 1000000 in
theorem g_X3_readLine {V : am_V} {d L : Nat} {f : Nat → Nat → Int32} {g ch : Nat → Int32} {τ : Nat → Nat → Int64} (hT : tpOK f 1 L ch) {q n np told : Nat} (hC : CT ch L g q) (hk : zk ch q ≠ 4) (hn4 : n ≤ 4) (hn : f 14 1 = nI n) (hn8 : np ≤ 8) (hnp : f 14 5 = nI np) (ht : told ≤ 1) (h7 : g 7 = nI told) : AGv V MX3_readLine (d + 6) [.ref 61] (upk f 61 g, τ) (fun S' => ∃ f' g', S' = (upk f' 61 g', τ) ∧ CS L g' (pL ch q n np told) ∧ (∀ c, (c < 14 ∨ 26 ≤ c) → f' c = f c) ∧ (∀ p', pL ch q n np told = .inl p' → f' = bStep ch q f n np ∧ g' 7 = nI (tStep ch q told))) := by
  have tR := tb_rd
  have tT := tb_tp
  have t14 := tb_B isB14
  obtain ⟨h8, h4, h5, h3, h6⟩ := hC.2.2.2 hk
  have hzr := zr_le hT hC.2.1
  have hs : CS L g (.inl (zr ch q)) := ⟨h8, h3, hzr, hC.1⟩
  refine AM.of (L := [some (.ref 61), none]) (by decide +kernel) (Nat.le_of_ble_eq_true rfl) rfl ?_
  have mid : AW V MX3_readLine (d + 6) 0 0 17 [some (.ref 61), none] [.int (lnN ch q)] (hp (upk f 61 g, τ)) (fun r' h' => ∃ S' : fm, r' = none ∧ h' = hp S' ∧ ∃ f' g', S' = (upk f' 61 g', τ) ∧ CS L g' (pL ch q n np told) ∧ (∀ c, (c < 14 ∨ 26 ≤ c) → f' c = f c) ∧ (∀ p', pL ch q n np told = .inl p' → f' = bStep ch q f n np ∧ g' 7 = nI (tStep ch q told))) := by
    refine aw_istore_n (i := 1) (L' := [_, _]) dX3_readLine_17 rfl (Nat.le_of_ble_eq_true rfl) rfl rfl ?_
    refine aw_iload_n (i := 1) dX3_readLine_18 rfl rfl ?_
    refine aw_bipush (v := -4) dX3_readLine_19 (by decide) ?_
    refine aw_icmp_ne (tgt := 36) dX3_readLine_21 (by decide) (fun c21 => ?_) (fun c21 => ?_)
    · refine aw_iload_n (i := 1) dX3_readLine_36 rfl rfl ?_
      refine aw_iconst (v := 5) dX3_readLine_37 (by decide) ?_
      refine aw_icmp_ne (tgt := 48) dX3_readLine_38 (by decide) (fun c38 => ?_) (fun c38 => ?_)
      · refine aw_iload_n (i := 1) dX3_readLine_48 rfl rfl ?_
        refine aw_iconst (v := 4) dX3_readLine_49 (by decide) ?_
        refine aw_icmp_ne (tgt := 60) dX3_readLine_50 (by decide) (fun c50 => ?_) (fun c50 => ?_)
        · refine aw_aload_n (i := 0) dX3_readLine_60 rfl rfl ?_
          refine aw_iload_n (i := 1) dX3_readLine_61 rfl rfl ?_
          refine ax_gV1v (M' := MX3_readKey) (ci := 3) dX3_readLine_62 lmX3_77 oX3_readKey (by decide +kernel) (by assumption) rfl rfl (Nat.le_of_ble_eq_true rfl) (g_X3_readKey hT hs h5 hn4 hn (lnN ch q)) (fun S_ h_ => ?_)
          obtain ⟨f2, g2, rfl, hC2, h72, hb, hx⟩ := h_
          have hq2 : ∀ c, (c < 14 ∨ 26 ≤ c) → f2 c = f c := by
            intro c hc
            cases hσ : (if n < 4 then (pNum ch 1 9 (pNum ch 0 9 (.inl (zr ch q))).2).2 else .inr (5, q)) with
            | inl p9 =>
              rw [hb p9 hσ]
              by_cases hn3 : n < 4
              · exact akF_o hn3 hc _ _ _
              · rw [if_neg hn3] at hσ; cases hσ
            | inr x9 => rw [hx x9 hσ]
          have hT2 : tpOK f2 1 L ch := hT.mv (hq2 1 (Or.inl (by omega)))
          refine aw_aload_n (i := 0) dX3_readLine_65 rfl rfl ?_
          refine ax_gV0v (M' := MX3_readSemicolon) (ci := 3) dX3_readLine_66 lmX3_81 oX3_readSemicolon (by decide +kernel) (by assumption) rfl rfl (Nat.le_of_ble_eq_true rfl) (g_X3_readSemicolon hT2 hC2) (fun S_ h_ => ?_)
          obtain ⟨g3, rfl, hC3, h73⟩ := h_
          refine aw_return dX3_readLine_69 rfl ?_
          have e9 : pL ch q n np told = pSemi ch (if n < 4 then (pNum ch 1 9 (pNum ch 0 9 (.inl (zr ch q))).2).2 else .inr (5, q)) := by
            unfold pL
            rw [if_neg c21, if_neg c38, if_neg c50]
            split <;> rfl
          refine ⟨_, rfl, rfl, f2, g3, rfl, by rw [e9]; exact hC3, hq2, fun p' z => ?_⟩
          rw [e9] at z
          obtain ⟨p5, h5'⟩ := pSemi_src z
          refine ⟨?_, ?_⟩
          · rw [hb p5 h5']
            unfold bStep
            rw [if_neg c38, if_neg c50]
            rfl
          · rw [h73, h72]
            unfold tStep
            rw [if_neg c38]; exact h7
        · refine aw_aload_n (i := 0) dX3_readLine_53 rfl rfl ?_
          refine ax_gV0v (M' := MX3_readPress) (ci := 3) dX3_readLine_54 lmX3_74 oX3_readPress (by decide +kernel) (by assumption) rfl rfl (Nat.le_of_ble_eq_true rfl) (g_X3_readPress hT hs h5 hn8 hnp) (fun S_ h_ => ?_)
          obtain ⟨f2, g2, rfl, hC2, h72, hb, hx⟩ := h_
          have hq2 : ∀ c, (c < 14 ∨ 26 ≤ c) → f2 c = f c := by
            intro c hc
            cases hσ : (if np < 8 then (pNum ch 0 1 (pNum ch 0 3 (pNum ch 0 99 (.inl (zr ch q))).2).2).2 else .inr (5, q)) with
            | inl p9 =>
              rw [hb p9 hσ]
              exact apF_o hc _ _ _
            | inr x9 => rw [hx x9 hσ]
          have hT2 : tpOK f2 1 L ch := hT.mv (hq2 1 (Or.inl (by omega)))
          refine aw_goto (tgt := 65) dX3_readLine_57 (by decide) ?_
          refine aw_aload_n (i := 0) dX3_readLine_65 rfl rfl ?_
          refine ax_gV0v (M' := MX3_readSemicolon) (ci := 3) dX3_readLine_66 lmX3_81 oX3_readSemicolon (by decide +kernel) (by assumption) rfl rfl (Nat.le_of_ble_eq_true rfl) (g_X3_readSemicolon hT2 hC2) (fun S_ h_ => ?_)
          obtain ⟨g3, rfl, hC3, h73⟩ := h_
          refine aw_return dX3_readLine_69 rfl ?_
          have e9 : pL ch q n np told = pSemi ch (if np < 8 then (pNum ch 0 1 (pNum ch 0 3 (pNum ch 0 99 (.inl (zr ch q))).2).2).2 else .inr (5, q)) := by
            unfold pL
            rw [if_neg c21, if_neg c38, if_pos c50]
            split <;> rfl
          refine ⟨_, rfl, rfl, f2, g3, rfl, by rw [e9]; exact hC3, hq2, fun p' z => ?_⟩
          rw [e9] at z
          obtain ⟨p5, h5'⟩ := pSemi_src z
          refine ⟨?_, ?_⟩
          · rw [hb p5 h5']
            unfold bStep
            rw [if_neg c38, if_pos c50]
            rfl
          · rw [h73, h72]
            unfold tStep
            rw [if_neg c38]; exact h7
      · refine aw_aload_n (i := 0) dX3_readLine_41 rfl rfl ?_
        refine ax_gV0v (M' := MX3_readEvery) (ci := 3) dX3_readLine_42 lmX3_71 oX3_readEvery (by decide +kernel) (by assumption) rfl rfl (Nat.le_of_ble_eq_true rfl) (g_X3_readEvery hT hs h5 ht h7) (fun S_ h_ => ?_)
        obtain ⟨f2, g2, rfl, hC2, h72, hb, hx⟩ := h_
        have hq2 : ∀ c, (c < 14 ∨ 26 ≤ c) → f2 c = f c := by
          intro c hc
          cases hσ : (if told = 0 then (pNum ch 1 4 (.inl (zr ch q))).2 else .inr (4, q)) with
          | inl p9 =>
            rw [hb p9 hσ]
            funext j; exact up2_ne (by omega)
          | inr x9 => rw [hx x9 hσ]
        have hT2 : tpOK f2 1 L ch := hT.mv (hq2 1 (Or.inl (by omega)))
        refine aw_goto (tgt := 65) dX3_readLine_45 (by decide) ?_
        refine aw_aload_n (i := 0) dX3_readLine_65 rfl rfl ?_
        refine ax_gV0v (M' := MX3_readSemicolon) (ci := 3) dX3_readLine_66 lmX3_81 oX3_readSemicolon (by decide +kernel) (by assumption) rfl rfl (Nat.le_of_ble_eq_true rfl) (g_X3_readSemicolon hT2 hC2) (fun S_ h_ => ?_)
        obtain ⟨g3, rfl, hC3, h73⟩ := h_
        refine aw_return dX3_readLine_69 rfl ?_
        have e9 : pL ch q n np told = pSemi ch (if told = 0 then (pNum ch 1 4 (.inl (zr ch q))).2 else .inr (4, q)) := by
          unfold pL
          rw [if_neg c21, if_pos c38]
          split <;> rfl
        refine ⟨_, rfl, rfl, f2, g3, rfl, by rw [e9]; exact hC3, hq2, fun p' z => ?_⟩
        rw [e9] at z
        obtain ⟨p5, h5'⟩ := pSemi_src z
        refine ⟨?_, ?_⟩
        · rw [hb p5 h5']
          unfold bStep
          rw [if_pos c38]
          rfl
        · rw [h73, h72]
          unfold tStep
          rw [if_pos c38]; rfl
    · refine aw_aload_n (i := 0) dX3_readLine_24 rfl rfl ?_
      refine aw_iconst (v := 2) dX3_readLine_25 (by decide) ?_
      refine aw_aload_n (i := 0) dX3_readLine_26 rfl rfl ?_
      refine ax_getK (ci := 3) 5 dX3_readLine_27 rfl lfX3_68 (by decide) (by assumption) (by rfl) ?_
      refine ax_callV2v (M' := MX3_fail) (ci := 3) dX3_readLine_30 lmX3_60 oX3_fail (by decide +kernel) (by assumption) rfl rfl (Nat.le_of_ble_eq_true rfl) (f_X3_fail _ _) ?_
      refine aw_goto (tgt := 65) dX3_readLine_33 (by decide) ?_
      refine aw_aload_n (i := 0) dX3_readLine_65 rfl rfl ?_
      refine ax_gV0v (M' := MX3_readSemicolon) (ci := 3) dX3_readLine_66 lmX3_81 oX3_readSemicolon (by decide +kernel) (by assumption) rfl rfl (Nat.le_of_ble_eq_true rfl) (g_X3_readSemicolon hT (CS_f (c := 2) hs h5 (by omega))) (fun S_ h_ => ?_)
      obtain ⟨g3, rfl, hC3, h73⟩ := h_
      refine aw_return dX3_readLine_69 rfl ?_
      have e9 : pL ch q n np told = .inr (2, q) := by
        unfold pL
        rw [if_pos c21]
      exact ⟨_, rfl, rfl, f, g3, rfl, by rw [e9]; exact hC3, fun _ _ => rfl, fun p' z => absurd (e9.symm.trans z) (by intro z; cases z)⟩
  refine aw_aload_n (i := 0) dX3_readLine_0 rfl rfl ?_
  refine ax_getK (ci := 3) 4 dX3_readLine_1 rfl lfX3_50 (by decide) (by assumption) (by rfl) ?_
  refine aw_iconst (v := 1) dX3_readLine_4 (by decide) ?_
  refine aw_icmp_ne (tgt := 15) dX3_readLine_5 (by decide) (fun c5 => ?_) (fun c5 => ?_)
  · refine aw_bipush (v := -4) dX3_readLine_15 (by decide) ?_
    first | exact mid | (refine aw_tE (lnN ch q) (if_neg (fun z => c5 ((CT_4 (k := 1) hC (by omega)).mpr z))).symm ?_; exact mid)
  · refine aw_aload_n (i := 0) dX3_readLine_8 rfl rfl ?_
    refine ax_callV0i (M' := MX3_lineNamed) (ci := 3) dX3_readLine_9 lmX3_64 oX3_lineNamed (by decide +kernel) (by assumption) rfl rfl (Nat.le_of_ble_eq_true rfl) (f_X3_lineNamed hT (zr_ge ch q) hzr h3 h5) ?_
    refine aw_tE (lnN ch q) (if_pos ((CT_4 (k := 1) hC (by omega)).mp c5)).symm ?_
    refine aw_goto (tgt := 17) dX3_readLine_12 (by decide) ?_
    first | exact mid | (refine aw_tE (lnN ch q) (if_neg (fun z => c5 ((CT_4 (k := 1) hC (by omega)).mpr z))).symm ?_; exact mid)
