def TXq (o : sg × Nat × pst) (f f' : Nat → Nat → Int32) (x : Int32) : sg → Prop
  | .inr y => x = -10 - nI y.2 ∧ f' 0 8 = nI y.1 ∧ f' 0 1 = 0 ∧ (∀ c j, (c < 14 ∨ 26 ≤ c) → c ≠ 61 → ¬ (c = 0 ∧ (j = 1 ∨ j = 8)) → f' c j = f c j)
  | .inl i => x = nI i ∧ f' 0 8 = 0 ∧ f' 0 1 = 0 ∧ f' 27 0 = 0 ∧ f' 27 1 = 0 ∧ TB f' 2 o.2.2 ∧ (∀ c j, ¬ (2 ≤ c ∧ c < 26) → c ≠ 61 → c ≠ 27 → ¬ (c = 0 ∧ (j = 1 ∨ j = 8)) → f' c j = f c j)
theorem h_readLines {V : am_V} {d L : Nat} {f : Nat → Nat → Int32} {ch : Nat → Int32} {τ : Nat → Nat → Int64} (hT : tpOK f 1 L ch) : AGi V MX3_readLines (d + 7) [.ref 61, .int (nI L)] (f, τ) (fun x S' => ∃ f' g', S' = (upk f' 61 g', τ) ∧ (∀ c, (c < 14 ∨ 26 ≤ c) → f' c = f c) ∧ RLp L (pLo ch 161 0 0 ps0) f' g' x (pEnd L (pLo ch 161 0 0 ps0))) := by
  have h := g_X3_readLines (V := V) (d := d) (g := f 61) (τ := τ) hT
  rw [upk_self] at h
  exact h
set_option maxRecDepth 100000 in
set_option maxHeartbeats 1000000 in
theorem g_text {V : am_V} {d L : Nat} {f : Nat → Nat → Int32} {ch : Nat → Int32} {τ : Nat → Nat → Int64} (hT : tpOK f 1 L ch) (hL : f 0 1 = nI L) : AGi V MX4_text (d + 8) [.ref 0] (f, τ) (fun x S' => ∃ f', S' = (f', τ) ∧ TXq (pLo ch 161 0 0 ps0) f f' x (pEnd L (pLo ch 161 0 0 ps0))) := by
  have t0 := tb_0
  have tR := tb_rd
  have tk := tb_kp
  have t2 := tb_B isB2
  have t14 := tb_B isB14
  refine AM.of (L := [some (.ref 0), none, none]) (by decide +kernel) (Nat.le_of_ble_eq_true rfl) rfl ?_
  have loop : ∀ (m i : Nat) (x : Int32) (F : Nat → Nat → Int32), i + m = 2 → TXq (pLo ch 161 0 0 ps0) f (zrP F 27 2) x (pEnd L (pLo ch 161 0 0 ps0)) → AW V MX4_text (d + 8) 0 0 59 [some (.ref 0), some (.int x), some (.int (nI i))] [] (hp (zrP F 27 i, τ)) (fun r' h' => ∃ (x : Int32) (S' : fm), r' = some (.int x) ∧ h' = hp S' ∧ ∃ f', S' = (f', τ) ∧ TXq (pLo ch 161 0 0 ps0) f f' x (pEnd L (pLo ch 161 0 0 ps0))) := by
    intro m
    induction m with
    | zero =>
      intro i x F hm hX
      have hi : i = 2 := by omega
      subst hi
      refine aw_iload_n (i := 2) dX4_text_59 rfl rfl ?_
      refine aw_iconst (v := 2) dX4_text_60 (by decide) ?_
      refine aw_icmp_ge (tgt := 77) dX4_text_61 (by decide) (fun c61 => ?_) (fun c61 => ?_)
      · refine aw_iload_n (i := 1) dX4_text_77 rfl rfl ?_
        refine aw_ireturn (ty := .int) dX4_text_78 rfl rfl ?_
        exact ⟨_, _, rfl, rfl, _, rfl, hX⟩
      · exact absurd (show nI 2 ≤ nI 2 from Int32.le_refl _) c61
    | succ m ih =>
      intro i x F hm hX
      refine aw_iload_n (i := 2) dX4_text_59 rfl rfl ?_
      refine aw_iconst (v := 2) dX4_text_60 (by decide) ?_
      refine aw_icmp_ge (tgt := 77) dX4_text_61 (by decide) (fun c61 => ?_) (fun c61 => ?_)
      · exact absurd ((nI_leI (a := 2) (by omega) (by omega)).mp c61) (by omega)
      · refine aw_aload_n (i := 0) dX4_text_64 rfl rfl ?_
        refine ax_getr (ci := 4) 5 dX4_text_65 rfl lfX4_27 (by decide) (by assumption) (by rfl) ?_
        refine aw_iload_n (i := 2) dX4_text_68 rfl rfl ?_
        refine aw_iconst (v := 0) dX4_text_69 (by decide) ?_
        refine ax_zastN dX4_text_70 tk (by omega) (Nat.le_of_ble_eq_true rfl) (Or.inl rfl) ?_
        rw [zrP_s]
        refine aw_incN (L' := [_, _, _]) dX4_text_71 rfl (Nat.le_of_ble_eq_true rfl) rfl rfl ?_
        refine aw_goto (tgt := 59) dX4_text_74 (by decide) ?_
        exact ih (i + 1) x F (by omega) hX
  refine aw_aload_n (i := 0) dX4_text_0 rfl rfl ?_
  refine ax_getr (ci := 4) 7 dX4_text_1 rfl lfX4_43 (by decide) (by assumption) (by rfl) ?_
  refine aw_aload_n (i := 0) dX4_text_4 rfl rfl ?_
  refine ax_geti (ci := 4) 1 dX4_text_5 rfl lfX4_58 (by decide) (by assumption) (by rfl) ?_
  refine aw_tE (nI L) hL ?_
  refine ax_gV1i (M' := MX3_readLines) (ci := 3) dX4_text_8 lmX4_62 oX3_readLines (by decide +kernel) (by assumption) rfl rfl (Nat.le_of_ble_eq_true rfl) (h_readLines hT) (fun r_ S_ h_ => ?_)
  obtain ⟨f1, g1, rfl, hE, hR⟩ := h_
  refine aw_istore_n (i := 1) (L' := [_, _, _]) dX4_text_11 rfl (Nat.le_of_ble_eq_true rfl) rfl rfl ?_
  refine aw_aload_n (i := 0) dX4_text_12 rfl rfl ?_
  refine aw_iconst (v := 0) dX4_text_13 (by decide) ?_
  refine ax_puti (ci := 4) 1 dX4_text_14 rfl lfX4_58 (by decide) (by assumption) (by rfl) rfl rfl ?_
  refine aw_aload_n (i := 0) dX4_text_17 rfl rfl ?_
  refine aw_aload_n (i := 0) dX4_text_18 rfl rfl ?_
  refine ax_getr (ci := 4) 7 dX4_text_19 rfl lfX4_43 (by decide) (by assumption) (by rfl) ?_
  refine ax_geti (ci := 3) 8 dX4_text_22 rfl lfX4_66 (by decide) (by assumption) (by rfl) ?_
  refine aw_tE (g1 8) (by rw [up2_ne (by omega), upk_at]) ?_
  refine ax_puti (ci := 4) 8 dX4_text_25 rfl lfX4_69 (by decide) (by assumption) (by rfl) rfl rfl ?_
  refine aw_aload_n (i := 0) dX4_text_28 rfl rfl ?_
  refine ax_geti (ci := 4) 8 dX4_text_29 rfl lfX4_69 (by decide) (by assumption) (by rfl) ?_
  refine aw_tE (g1 8) (up2_self _ _ _ _) ?_
  refine aw_if_eq (tgt := 46) dX4_text_32 (by decide) (fun c32 => ?_) (fun c32 => ?_)
  · refine aw_aload_n (i := 0) dX4_text_46 rfl rfl ?_
    refine ax_getr (ci := 4) 2 dX4_text_47 rfl lfX4_16 (by decide) (by assumption) (by rfl) ?_
    refine aw_aload_n (i := 0) dX4_text_50 rfl rfl ?_
    refine ax_getr (ci := 4) 3 dX4_text_51 rfl lfX4_20 (by decide) (by assumption) (by rfl) ?_
    refine ax_callV1v (M' := MX0_copyFrom) (ci := 0) dX4_text_54 lmX4_75 oX0_copyFrom (by decide +kernel) (by assumption) rfl rfl (Nat.le_of_ble_eq_true rfl) (f_X0_copyFrom isB2 isB14 (Or.inl (by omega))) ?_
    refine aw_iconst (v := 0) dX4_text_57 (by decide) ?_
    refine aw_istore_n (i := 2) (L' := [_, _, _]) dX4_text_58 rfl (Nat.le_of_ble_eq_true rfl) rfl rfl ?_
    have hlo := loop 2 0 r_ (caF (up2 (up2 (upk f1 61 g1) 0 1 0) 0 8 (g1 8)) 2 14) rfl ?_
    · rw [zrP_0] at hlo
      exact hlo
    · cases hσ : pEnd L (pLo ch 161 0 0 ps0) with
      | inr y => rw [hσ] at hR; exact absurd (hR.1.symm.trans c32) (nI_6 hR.2.1)
      | inl i =>
        rw [hσ] at hR
        obtain ⟨h8, hx, hB⟩ := hR
        have eo : ∀ c j, ¬ (2 ≤ c ∧ c < 14) → c ≠ 27 → zrP (caF (up2 (up2 (upk f1 61 g1) 0 1 0) 0 8 (g1 8)) 2 14) 27 2 c j = up2 (up2 (upk f1 61 g1) 0 1 0) 0 8 (g1 8) c j := fun c j h1 h2 => by rw [zrP_o h2, caF_o (by omega)]
        have eb : ∀ c j, c ≠ 0 → c ≠ 61 → up2 (up2 (upk f1 61 g1) 0 1 0) 0 8 (g1 8) c j = f1 c j := fun c j h1 h2 => by rw [up2_ne (by omega), up2_ne (by omega), upk_ne h2]
        obtain ⟨⟨a1, a2, a3⟩, ⟨b1, b2, b3, b4, b5⟩, hk, hpr, hz⟩ := hB
        refine ⟨hx, ?_, ?_, zrP_i (by omega), zrP_i (by omega), ⟨⟨a1, a2, a3⟩, ⟨?_, ?_, ?_, ?_, ?_⟩, fun k hk1 j hj => ?_, fun j hj => ⟨?_, ?_, ?_⟩, hz⟩, fun c j h1 h2 h3 h4 => ?_⟩
        · rw [eo 0 8 (by omega) (by omega), up2_self]; exact h8
        · rw [eo 0 1 (by omega) (by omega), up2_ne (by omega), up2_self]
        · rw [zrP_o (by omega), caF_b (by omega), eb _ _ (by omega) (by omega)]; exact b1
        · rw [zrP_o (by omega), caF_b (by omega), eb _ _ (by omega) (by omega)]; exact b2
        · rw [zrP_o (by omega), caF_b (by omega), eb _ _ (by omega) (by omega)]; exact b3
        · rw [zrP_o (by omega), caF_b (by omega), eb _ _ (by omega) (by omega)]; exact b4
        · rw [zrP_o (by omega), caF_b (by omega), eb _ _ (by omega) (by omega)]; exact b5
        · rw [zrP_o (by omega), caF_k (by omega), k_copy_lt _ _ hj, eb _ _ (by omega) (by omega)]; exact hk k hk1 j hj
        · rw [zrP_o (by omega), caF_p (Or.inl (by omega)) (by omega) (by omega), eb _ _ (by omega) (by omega)]; exact (hpr j hj).1
        · rw [zrP_o (by omega), caF_p (Or.inl (by omega)) (by omega) (by omega), eb _ _ (by omega) (by omega)]; exact (hpr j hj).2.1
        · rw [zrP_o (by omega), caF_p (Or.inl (by omega)) (by omega) (by omega), eb _ _ (by omega) (by omega)]; exact (hpr j hj).2.2
        · rw [eo c j (by omega) h3, up2_ne (by omega), up2_ne (by omega), upk_ne h2, hE c (by omega)]
  · refine aw_bipush (v := -10) dX4_text_35 (by decide) ?_
    refine aw_aload_n (i := 0) dX4_text_37 rfl rfl ?_
    refine ax_getr (ci := 4) 7 dX4_text_38 rfl lfX4_43 (by decide) (by assumption) (by rfl) ?_
    refine ax_geti (ci := 3) 9 dX4_text_41 rfl lfX4_72 (by decide) (by assumption) (by rfl) ?_
    refine aw_tE (g1 9) (by rw [up2_ne (by omega), up2_ne (by omega), upk_at]) ?_
    refine aw_isub dX4_text_44 ?_
    refine aw_ireturn (ty := .int) dX4_text_45 rfl rfl ?_
    refine ⟨_, _, rfl, rfl, _, rfl, ?_⟩
    cases hσ : pEnd L (pLo ch 161 0 0 ps0) with
    | inl i => rw [hσ] at hR; exact absurd hR.1 c32
    | inr y =>
      rw [hσ] at hR
      refine ⟨by rw [hR.2.2], by rw [up2_self]; exact hR.1, by rw [up2_ne (by omega), up2_self], fun c j h1 h2 h3 => ?_⟩
      rw [up2_ne (by omega), up2_ne (by omega), upk_ne h2, hE c h1]
