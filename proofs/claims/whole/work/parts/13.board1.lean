set_option maxRecDepth 100000 in
set_option maxHeartbeats 4000000 in
theorem f_X0_hasKey {V : am_V} {d b : Nat} {f : Nat → Nat → Int32} {τ : Nat → Nat → Int64} (hb : am_isB b) (k : Int32) : AF V MX0_hasKey (d + 1) [.ref b, .int k] (f, τ) (some (.int (b2i (0 ≤ k ∧ k ≤ f b 1 - 1)))) (f, τ) := by
  have tB := tb_B hb
  have tk := tb_Bk hb
  have t6 := tb_B6 hb
  have t7 := tb_B7 hb
  have t8 := tb_B8 hb
  have t9 := tb_B9 hb
  have t10 := tb_B10 hb
  have t11 := tb_B11 hb
  refine AM.of (L := [some (.ref b), some (.int k)]) (by decide +kernel) (Nat.le_of_ble_eq_true rfl) rfl ?_
  refine aw_iload_n (i := 1) dX0_hasKey_0 rfl rfl ?_
  refine aw_iconst (v := 0) dX0_hasKey_1 (by decide) ?_
  refine aw_aload_n (i := 0) dX0_hasKey_2 rfl rfl ?_
  refine ax_geti (ci := 0) 1 dX0_hasKey_3 rfl lfX0_41 (by decide) (by assumption) (by rfl) ?_
  refine aw_iconst (v := 1) dX0_hasKey_6 (by decide) ?_
  refine aw_isub dX0_hasKey_7 ?_
  refine ax_callSN3i (M' := MX4_within) dX0_hasKey_8 (List.mem_of_getElem? (i := 2) rfl) oX4_within (by decide +kernel) (Nat.le_of_ble_eq_true rfl) (f_X4_within _ _ _) ?_
  refine aw_ireturn (ty := .boolean) dX0_hasKey_11 rfl (b2i_z _) ?_
  exact ⟨rfl, rfl⟩
set_option maxRecDepth 100000 in
set_option maxHeartbeats 4000000 in
theorem f_X0_latestPress {V : am_V} {d b : Nat} {f : Nat → Nat → Int32} {τ : Nat → Nat → Int64} (hb : am_isB b) {p : Nat} (hp8 : p ≤ 8) (hp1 : f b 5 = nI p) (k t : Int32) : AF V MX0_latestPress d [.ref b, .int k, .int t] (f, τ) (some (.int (latF (f (b + 7)) (f (b + 6)) k t  p))) (f, τ) := by
  have tB := tb_B hb
  have tk := tb_Bk hb
  have t6 := tb_B6 hb
  have t7 := tb_B7 hb
  have t8 := tb_B8 hb
  have t9 := tb_B9 hb
  have t10 := tb_B10 hb
  have t11 := tb_B11 hb
  refine AM.of (L := [some (.ref b), some (.int k), some (.int t), none, none, none]) (by decide +kernel) (Nat.le_of_ble_eq_true rfl) rfl ?_
  have loop : ∀ (m i : Nat) (z : Option Value), i ≤ p → p - i < m → AW V MX0_latestPress (d) 0 0 6 [some (.ref b), some (.int k), some (.int t), some (.int (latF (f (b + 7)) (f (b + 6)) k t  i)), some (.int (nI i)), z] [] (hp (f, τ)) (fun r' h' => r' = some (.int (latF (f (b + 7)) (f (b + 6)) k t  p)) ∧ h' = hp (f, τ)) := by
    intro m
    induction m with
    | zero => intro i z h1 h2; omega
    | succ m ih =>
      intro i z h1 h2
      have hl := latF_or (f (b + 7)) (f (b + 6)) k t i
      have kY : i < p → (f (b + 7) i = k ∧ f (b + 6) i ≤ t ∧ ((latF (f (b + 7)) (f (b + 6)) k t i) < 0 ∨ f (b + 6) (latF (f (b + 7)) (f (b + 6)) k t i).toNatClampNeg ≤ f (b + 6) i)) → ∀ z, AW V MX0_latestPress d 0 0 6 [some (.ref b), some (.int k), some (.int t), some (.int (nI i)), some (.int (nI (i + 1))), z] [] (hp (f, τ)) (fun r' h' => r' = some (.int (latF (f (b + 7)) (f (b + 6)) k t  p)) ∧ h' = hp (f, τ)) := fun a q z => by have e := ih (i + 1) z a (by omega); rw [latF, if_pos q] at e; exact e
      have kN : i < p → ¬ (f (b + 7) i = k ∧ f (b + 6) i ≤ t ∧ ((latF (f (b + 7)) (f (b + 6)) k t i) < 0 ∨ f (b + 6) (latF (f (b + 7)) (f (b + 6)) k t i).toNatClampNeg ≤ f (b + 6) i)) → ∀ z, AW V MX0_latestPress d 0 0 6 [some (.ref b), some (.int k), some (.int t), some (.int (latF (f (b + 7)) (f (b + 6)) k t i)), some (.int (nI (i + 1))), z] [] (hp (f, τ)) (fun r' h' => r' = some (.int (latF (f (b + 7)) (f (b + 6)) k t  p)) ∧ h' = hp (f, τ)) := fun a q z => by have e := ih (i + 1) z a (by omega); rw [latF, if_neg q] at e; exact e
      generalize hle : latF (f (b + 7)) (f (b + 6)) k t i = l at hl kY kN ⊢
      refine aw_iload dX0_latestPress_6 rfl ?_
      refine aw_aload_n (i := 0) dX0_latestPress_8 rfl rfl ?_
      refine ax_geti (ci := 0) 5 dX0_latestPress_9 rfl lfX0_44 (by decide) (by assumption) (by rfl) ?_
      refine aw_tE (nI p) hp1 ?_
      refine aw_icmp_ge (tgt := 78) dX0_latestPress_12 (by decide) (fun c12 => ?_) (fun c12 => ?_)
      · refine aw_iload_n (i := 3) dX0_latestPress_78 rfl rfl ?_
        refine aw_ireturn (ty := .int) dX0_latestPress_79 rfl rfl ?_
        have hip : i = p := by have := (nI_leI (a := p) (b := i) (by omega) (by omega)).mp c12; omega
        subst hip
        exact ⟨by rw [← hle], rfl⟩
      · have hi : i < p := Nat.not_le.mp (fun z => c12 (nI_le z (by omega)))
        refine aw_aload_n (i := 0) dX0_latestPress_15 rfl rfl ?_
        refine ax_getr (ci := 0) 3 dX0_latestPress_16 rfl lfX0_22 (by decide) (by assumption) (by rfl) ?_
        refine aw_iload dX0_latestPress_19 rfl ?_
        refine ax_ialdN dX0_latestPress_21 (by assumption) (by omega) (Nat.le_of_ble_eq_true rfl) ?_
        refine aw_iload_n (i := 1) dX0_latestPress_22 rfl rfl ?_
        refine aw_icmp_ne (tgt := 41) dX0_latestPress_23 (by decide) (fun c23 => ?_) (fun c23 => ?_)
        · refine aw_iconst (v := 0) dX0_latestPress_41 (by decide) ?_
          refine aw_istore (i := 5) (L' := [_, _, _, _, _, _]) dX0_latestPress_42 (Nat.le_of_ble_eq_true rfl) rfl rfl ?_
          refine aw_iload dX0_latestPress_44 rfl ?_
          refine aw_if_eq (tgt := 72) dX0_latestPress_46 (by decide) (fun _ => ?_) (fun z => absurd (by decide) z)
          refine aw_incN (L' := [_, _, _, _, _, _]) dX0_latestPress_72 rfl (Nat.le_of_ble_eq_true rfl) rfl rfl ?_
          refine aw_goto (tgt := 6) dX0_latestPress_75 (by decide) ?_
          first | exact kN hi (fun q => c23 q.1) _ | exact kN hi (fun q => absurd c34 (Int32.not_lt.mpr q.2.1)) _ | exact kY hi ⟨c23, Int32.not_lt.mp c34, Or.inl c50⟩ _ | exact kY hi ⟨c23, Int32.not_lt.mp c34, Or.inr (by rw [nI_clamp (by omega)]; exact Int32.not_lt.mp c66)⟩ _ | exact kN hi (fun q => q.2.2.elim c50 (fun q => by rw [nI_clamp (by omega)] at q; exact absurd c66 (Int32.not_lt.mpr q))) _
        · refine aw_aload_n (i := 0) dX0_latestPress_26 rfl rfl ?_
          refine ax_getr (ci := 0) 2 dX0_latestPress_27 rfl lfX0_18 (by decide) (by assumption) (by rfl) ?_
          refine aw_iload dX0_latestPress_30 rfl ?_
          refine ax_ialdN dX0_latestPress_32 (by assumption) (by omega) (Nat.le_of_ble_eq_true rfl) ?_
          refine aw_iload_n (i := 2) dX0_latestPress_33 rfl rfl ?_
          refine aw_icmp_gt (tgt := 41) dX0_latestPress_34 (by decide) (fun c34 => ?_) (fun c34 => ?_)
          · refine aw_iconst (v := 0) dX0_latestPress_41 (by decide) ?_
            refine aw_istore (i := 5) (L' := [_, _, _, _, _, _]) dX0_latestPress_42 (Nat.le_of_ble_eq_true rfl) rfl rfl ?_
            refine aw_iload dX0_latestPress_44 rfl ?_
            refine aw_if_eq (tgt := 72) dX0_latestPress_46 (by decide) (fun _ => ?_) (fun z => absurd (by decide) z)
            refine aw_incN (L' := [_, _, _, _, _, _]) dX0_latestPress_72 rfl (Nat.le_of_ble_eq_true rfl) rfl rfl ?_
            refine aw_goto (tgt := 6) dX0_latestPress_75 (by decide) ?_
            first | exact kN hi (fun q => c23 q.1) _ | exact kN hi (fun q => absurd c34 (Int32.not_lt.mpr q.2.1)) _ | exact kY hi ⟨c23, Int32.not_lt.mp c34, Or.inl c50⟩ _ | exact kY hi ⟨c23, Int32.not_lt.mp c34, Or.inr (by rw [nI_clamp (by omega)]; exact Int32.not_lt.mp c66)⟩ _ | exact kN hi (fun q => q.2.2.elim c50 (fun q => by rw [nI_clamp (by omega)] at q; exact absurd c66 (Int32.not_lt.mpr q))) _
          · refine aw_iconst (v := 1) dX0_latestPress_37 (by decide) ?_
            refine aw_goto (tgt := 42) dX0_latestPress_38 (by decide) ?_
            refine aw_istore (i := 5) (L' := [_, _, _, _, _, _]) dX0_latestPress_42 (Nat.le_of_ble_eq_true rfl) rfl rfl ?_
            refine aw_iload dX0_latestPress_44 rfl ?_
            refine aw_if_eq (tgt := 72) dX0_latestPress_46 (by decide) (fun z => absurd z (by decide)) (fun _ => ?_)
            refine aw_iload_n (i := 3) dX0_latestPress_49 rfl rfl ?_
            refine aw_if_lt (tgt := 69) dX0_latestPress_50 (by decide) (fun c50 => ?_) (fun c50 => ?_)
            · refine aw_iload dX0_latestPress_69 rfl ?_
              refine aw_istore_n (i := 3) (L' := [_, _, _, _, _, _]) dX0_latestPress_71 rfl (Nat.le_of_ble_eq_true rfl) rfl rfl ?_
              refine aw_incN (L' := [_, _, _, _, _, _]) dX0_latestPress_72 rfl (Nat.le_of_ble_eq_true rfl) rfl rfl ?_
              refine aw_goto (tgt := 6) dX0_latestPress_75 (by decide) ?_
              first | exact kN hi (fun q => c23 q.1) _ | exact kN hi (fun q => absurd c34 (Int32.not_lt.mpr q.2.1)) _ | exact kY hi ⟨c23, Int32.not_lt.mp c34, Or.inl c50⟩ _ | exact kY hi ⟨c23, Int32.not_lt.mp c34, Or.inr (by rw [nI_clamp (by omega)]; exact Int32.not_lt.mp c66)⟩ _ | exact kN hi (fun q => q.2.2.elim c50 (fun q => by rw [nI_clamp (by omega)] at q; exact absurd c66 (Int32.not_lt.mpr q))) _
            · refine aw_aload_n (i := 0) dX0_latestPress_53 rfl rfl ?_
              refine ax_getr (ci := 0) 2 dX0_latestPress_54 rfl lfX0_18 (by decide) (by assumption) (by rfl) ?_
              refine aw_iload dX0_latestPress_57 rfl ?_
              refine ax_ialdN dX0_latestPress_59 (by assumption) (by omega) (Nat.le_of_ble_eq_true rfl) ?_
              refine aw_aload_n (i := 0) dX0_latestPress_60 rfl rfl ?_
              obtain ⟨j, hj, rfl⟩ : ∃ j, j < i ∧ l = nI j := hl.resolve_left (fun z => absurd c50 (by rw [z]; decide))
              refine ax_getr (ci := 0) 2 dX0_latestPress_61 rfl lfX0_18 (by decide) (by assumption) (by rfl) ?_
              refine aw_iload_n (i := 3) dX0_latestPress_64 rfl rfl ?_
              refine ax_ialdN dX0_latestPress_65 (by assumption) (by omega) (Nat.le_of_ble_eq_true rfl) ?_
              skip
              refine aw_icmp_lt (tgt := 72) dX0_latestPress_66 (by decide) (fun c66 => ?_) (fun c66 => ?_)
              · refine aw_incN (L' := [_, _, _, _, _, _]) dX0_latestPress_72 rfl (Nat.le_of_ble_eq_true rfl) rfl rfl ?_
                refine aw_goto (tgt := 6) dX0_latestPress_75 (by decide) ?_
                first | exact kN hi (fun q => c23 q.1) _ | exact kN hi (fun q => absurd c34 (Int32.not_lt.mpr q.2.1)) _ | exact kY hi ⟨c23, Int32.not_lt.mp c34, Or.inl c50⟩ _ | exact kY hi ⟨c23, Int32.not_lt.mp c34, Or.inr (by rw [nI_clamp (by omega)]; exact Int32.not_lt.mp c66)⟩ _ | exact kN hi (fun q => q.2.2.elim c50 (fun q => by rw [nI_clamp (by omega)] at q; exact absurd c66 (Int32.not_lt.mpr q))) _
              · refine aw_iload dX0_latestPress_69 rfl ?_
                refine aw_istore_n (i := 3) (L' := [_, _, _, _, _, _]) dX0_latestPress_71 rfl (Nat.le_of_ble_eq_true rfl) rfl rfl ?_
                refine aw_incN (L' := [_, _, _, _, _, _]) dX0_latestPress_72 rfl (Nat.le_of_ble_eq_true rfl) rfl rfl ?_
                refine aw_goto (tgt := 6) dX0_latestPress_75 (by decide) ?_
                first | exact kN hi (fun q => c23 q.1) _ | exact kN hi (fun q => absurd c34 (Int32.not_lt.mpr q.2.1)) _ | exact kY hi ⟨c23, Int32.not_lt.mp c34, Or.inl c50⟩ _ | exact kY hi ⟨c23, Int32.not_lt.mp c34, Or.inr (by rw [nI_clamp (by omega)]; exact Int32.not_lt.mp c66)⟩ _ | exact kN hi (fun q => q.2.2.elim c50 (fun q => by rw [nI_clamp (by omega)] at q; exact absurd c66 (Int32.not_lt.mpr q))) _
  refine aw_bipush (v := -4) dX0_latestPress_0 (by decide) ?_
  refine aw_istore_n (i := 3) (L' := [_, _, _, _, _, _]) dX0_latestPress_2 rfl (Nat.le_of_ble_eq_true rfl) rfl rfl ?_
  refine aw_iconst (v := 0) dX0_latestPress_3 (by decide) ?_
  refine aw_istore (i := 4) (L' := [_, _, _, _, _, _]) dX0_latestPress_4 (Nat.le_of_ble_eq_true rfl) rfl rfl ?_
  exact loop (p + 1) 0 _ (Nat.zero_le _) (by omega)
set_option maxRecDepth 100000 in
set_option maxHeartbeats 4000000 in
theorem f_X0_contactAt {V : am_V} {d b : Nat} {f : Nat → Nat → Int32} {τ : Nat → Nat → Int64} (hb : am_isB b) {p k : Nat} (hp8 : p ≤ 8) (hp1 : f b 5 = nI p) (hk : k < 4) (t : Int32) : AF V MX0_contactAt (d + 1) [.ref b, .int (nI k), .int t] (f, τ) (some (.int (conF (f (b + 7)) (f (b + 6)) (f (b + 8)) p (f (b + 2 + k) 0) (nI k) t))) (f, τ) := by
  have tB := tb_B hb
  have tk := tb_Bk hb
  have t6 := tb_B6 hb
  have t7 := tb_B7 hb
  have t8 := tb_B8 hb
  have t9 := tb_B9 hb
  have t10 := tb_B10 hb
  have t11 := tb_B11 hb
  have tK := tb_K hb hk
  have hl := latF_or (f (b + 7)) (f (b + 6)) (nI k) t p
  generalize hle : latF (f (b + 7)) (f (b + 6)) (nI k) t p = l at hl
  refine AM.of (L := [some (.ref b), some (.int (nI k)), some (.int t), none, none, none]) (by decide +kernel) (Nat.le_of_ble_eq_true rfl) rfl ?_
  refine aw_aload_n (i := 0) dX0_contactAt_0 rfl rfl ?_
  refine aw_iload_n (i := 1) dX0_contactAt_1 rfl rfl ?_
  refine aw_iload_n (i := 2) dX0_contactAt_2 rfl rfl ?_
  refine ax_callV2i (M' := MX0_latestPress) (ci := 0) dX0_contactAt_3 lmX0_69 oX0_latestPress (by decide +kernel) (by assumption) rfl rfl (Nat.le_of_ble_eq_true rfl) (f_X0_latestPress hb hp8 hp1 _ _) ?_
  rw [hle]
  refine aw_istore_n (i := 3) (L' := [_, _, _, _, _, _]) dX0_contactAt_6 rfl (Nat.le_of_ble_eq_true rfl) rfl rfl ?_
  refine aw_iload_n (i := 3) dX0_contactAt_7 rfl rfl ?_
  refine aw_if_ge (tgt := 13) dX0_contactAt_8 (by decide) (fun c8 => ?_) (fun c8 => ?_)
  · obtain ⟨j, hj, rfl⟩ : ∃ j, j < p ∧ l = nI j := hl.resolve_left (fun z => absurd c8 (by rw [z]; decide))
    have hj31 : j < 2 ^ 31 := by omega
    refine aw_iload_n (i := 2) dX0_contactAt_13 rfl rfl ?_
    refine aw_aload_n (i := 0) dX0_contactAt_14 rfl rfl ?_
    refine ax_getr (ci := 0) 2 dX0_contactAt_15 rfl lfX0_18 (by decide) (by assumption) (by rfl) ?_
    refine aw_iload_n (i := 3) dX0_contactAt_18 rfl rfl ?_
    refine ax_ialdN dX0_contactAt_19 (by assumption) (by omega) (Nat.le_of_ble_eq_true rfl) ?_
    refine aw_isub dX0_contactAt_20 ?_
    refine aw_istore (i := 4) (L' := [_, _, _, _, _, _]) dX0_contactAt_21 (Nat.le_of_ble_eq_true rfl) rfl rfl ?_
    refine aw_iload dX0_contactAt_23 rfl ?_
    refine aw_aload_n (i := 0) dX0_contactAt_25 rfl rfl ?_
    refine ax_getr (ci := 0) 0 dX0_contactAt_26 rfl lfX0_11 (by decide) (by assumption) (by rfl) ?_
    refine aw_iload_n (i := 1) dX0_contactAt_29 rfl rfl ?_
    refine ax_keyN dX0_contactAt_30 (by assumption) (by omega) ?_
    refine ax_geti (ci := 1) 0 dX0_contactAt_31 rfl lfX0_73 (by decide) (by assumption) (by rfl) ?_
    refine aw_icmp_ge (tgt := 49) dX0_contactAt_34 (by decide) (fun c34 => ?_) (fun c34 => ?_)
    · refine aw_iconst (v := 0) dX0_contactAt_49 (by decide) ?_
      refine aw_istore (i := 5) (L' := [_, _, _, _, _, _]) dX0_contactAt_50 (Nat.le_of_ble_eq_true rfl) rfl rfl ?_
      refine aw_iload dX0_contactAt_52 rfl ?_
      refine aw_if_eq (tgt := 68) dX0_contactAt_54 (by decide) (fun _ => ?_) (fun z => absurd (by decide) z)
      refine aw_aload_n (i := 0) dX0_contactAt_68 rfl rfl ?_
      refine ax_getr (ci := 0) 4 dX0_contactAt_69 rfl lfX0_25 (by decide) (by assumption) (by rfl) ?_
      refine aw_iload_n (i := 3) dX0_contactAt_72 rfl rfl ?_
      refine ax_ialdN dX0_contactAt_73 (by assumption) (by omega) (Nat.le_of_ble_eq_true rfl) ?_
      refine aw_ireturn (ty := .int) dX0_contactAt_74 rfl rfl ?_
      refine ⟨congrArg (fun z => some (Value.int z)) ?_, rfl⟩
      unfold conF
      rw [hle, nI_clamp hj31, if_neg (Int32.not_lt.mpr c8)]
      first | exact (if_neg (fun q => absurd q.1 (Int32.not_lt.mpr c34))).symm | exact (if_pos ⟨Int32.not_le.mp c34, c42⟩).symm | exact (if_neg (fun q => c42 q.2)).symm
    · refine aw_iload dX0_contactAt_37 rfl ?_
      refine aw_iconst (v := 1) dX0_contactAt_39 (by decide) ?_
      refine aw_iand dX0_contactAt_40 ?_
      refine aw_iconst (v := 1) dX0_contactAt_41 (by decide) ?_
      refine aw_icmp_ne (tgt := 49) dX0_contactAt_42 (by decide) (fun c42 => ?_) (fun c42 => ?_)
      · refine aw_iconst (v := 0) dX0_contactAt_49 (by decide) ?_
        refine aw_istore (i := 5) (L' := [_, _, _, _, _, _]) dX0_contactAt_50 (Nat.le_of_ble_eq_true rfl) rfl rfl ?_
        refine aw_iload dX0_contactAt_52 rfl ?_
        refine aw_if_eq (tgt := 68) dX0_contactAt_54 (by decide) (fun _ => ?_) (fun z => absurd (by decide) z)
        refine aw_aload_n (i := 0) dX0_contactAt_68 rfl rfl ?_
        refine ax_getr (ci := 0) 4 dX0_contactAt_69 rfl lfX0_25 (by decide) (by assumption) (by rfl) ?_
        refine aw_iload_n (i := 3) dX0_contactAt_72 rfl rfl ?_
        refine ax_ialdN dX0_contactAt_73 (by assumption) (by omega) (Nat.le_of_ble_eq_true rfl) ?_
        refine aw_ireturn (ty := .int) dX0_contactAt_74 rfl rfl ?_
        refine ⟨congrArg (fun z => some (Value.int z)) ?_, rfl⟩
        unfold conF
        rw [hle, nI_clamp hj31, if_neg (Int32.not_lt.mpr c8)]
        first | exact (if_neg (fun q => absurd q.1 (Int32.not_lt.mpr c34))).symm | exact (if_pos ⟨Int32.not_le.mp c34, c42⟩).symm | exact (if_neg (fun q => c42 q.2)).symm
      · refine aw_iconst (v := 1) dX0_contactAt_45 (by decide) ?_
        refine aw_goto (tgt := 50) dX0_contactAt_46 (by decide) ?_
        refine aw_istore (i := 5) (L' := [_, _, _, _, _, _]) dX0_contactAt_50 (Nat.le_of_ble_eq_true rfl) rfl rfl ?_
        refine aw_iload dX0_contactAt_52 rfl ?_
        refine aw_if_eq (tgt := 68) dX0_contactAt_54 (by decide) (fun z => absurd z (by decide)) (fun _ => ?_)
        refine aw_iconst (v := 1) dX0_contactAt_57 (by decide) ?_
        refine aw_aload_n (i := 0) dX0_contactAt_58 rfl rfl ?_
        refine ax_getr (ci := 0) 4 dX0_contactAt_59 rfl lfX0_25 (by decide) (by assumption) (by rfl) ?_
        refine aw_iload_n (i := 3) dX0_contactAt_62 rfl rfl ?_
        refine ax_ialdN dX0_contactAt_63 (by assumption) (by omega) (Nat.le_of_ble_eq_true rfl) ?_
        refine aw_isub dX0_contactAt_64 ?_
        refine aw_goto (tgt := 74) dX0_contactAt_65 (by decide) ?_
        refine aw_ireturn (ty := .int) dX0_contactAt_74 rfl rfl ?_
        refine ⟨congrArg (fun z => some (Value.int z)) ?_, rfl⟩
        unfold conF
        rw [hle, nI_clamp hj31, if_neg (Int32.not_lt.mpr c8)]
        first | exact (if_neg (fun q => absurd q.1 (Int32.not_lt.mpr c34))).symm | exact (if_pos ⟨Int32.not_le.mp c34, c42⟩).symm | exact (if_neg (fun q => c42 q.2)).symm
  · refine aw_iconst (v := 0) dX0_contactAt_11 (by decide) ?_
    refine aw_ireturn (ty := .int) dX0_contactAt_12 rfl rfl ?_
    exact ⟨congrArg (fun z => some (Value.int z)) (by unfold conF; rw [hle]; exact (if_pos (Int32.not_le.mp c8)).symm), rfl⟩
set_option maxRecDepth 100000 in
set_option maxHeartbeats 4000000 in
theorem f_X0_contactBits {V : am_V} {d b : Nat} {f : Nat → Nat → Int32} {τ : Nat → Nat → Int64} (hb : am_isB b) {n p : Nat} (hn4 : n ≤ 4) (hn : f b 1 = nI n) (hp8 : p ≤ 8) (hp1 : f b 5 = nI p) : AF V MX0_contactBits (d + 2) [.ref b] (f, τ) (some (.int (cbF f b n p))) (f, τ) := by
  have tB := tb_B hb
  have tk := tb_Bk hb
  have t6 := tb_B6 hb
  have t7 := tb_B7 hb
  have t8 := tb_B8 hb
  have t9 := tb_B9 hb
  have t10 := tb_B10 hb
  have t11 := tb_B11 hb
  refine AM.of (L := [some (.ref b), none, none]) (by decide +kernel) (Nat.le_of_ble_eq_true rfl) rfl ?_
  have loop : ∀ (m i : Nat), i ≤ n → n - i < m → AW V MX0_contactBits (d + 2) 0 0 4 [some (.ref b), some (.int (orF (fun k => conF (f (b + 7)) (f (b + 6)) (f (b + 8)) p (f (b + 2 + k) 0) (nI k) (f b 7)) i)), some (.int (nI i))] [] (hp (f, τ)) (fun r' h' => r' = some (.int (cbF f b n p)) ∧ h' = hp (f, τ)) := by
    intro m
    induction m with
    | zero => intro i h1 h2; omega
    | succ m ih =>
      intro i h1 h2
      refine aw_iload_n (i := 2) dX0_contactBits_4 rfl rfl ?_
      refine aw_aload_n (i := 0) dX0_contactBits_5 rfl rfl ?_
      refine ax_geti (ci := 0) 1 dX0_contactBits_6 rfl lfX0_41 (by decide) (by assumption) (by rfl) ?_
      refine aw_tE (nI n) hn ?_
      refine aw_icmp_ge (tgt := 32) dX0_contactBits_9 (by decide) (fun c9 => ?_) (fun c9 => ?_)
      · refine aw_iload_n (i := 1) dX0_contactBits_32 rfl rfl ?_
        refine aw_ireturn (ty := .int) dX0_contactBits_33 rfl rfl ?_
        have hip : i = n := by have := (nI_leI (a := n) (b := i) (by omega) (by omega)).mp c9; omega
        subst hip
        exact ⟨rfl, rfl⟩
      · have hi : i < n := Nat.not_le.mp (fun z => c9 (nI_le z (by omega)))
        refine aw_iload_n (i := 1) dX0_contactBits_12 rfl rfl ?_
        refine aw_aload_n (i := 0) dX0_contactBits_13 rfl rfl ?_
        refine aw_iload_n (i := 2) dX0_contactBits_14 rfl rfl ?_
        refine aw_aload_n (i := 0) dX0_contactBits_15 rfl rfl ?_
        refine ax_geti (ci := 0) 7 dX0_contactBits_16 rfl lfX0_47 (by decide) (by assumption) (by rfl) ?_
        refine ax_callV2i (M' := MX0_contactAt) (ci := 0) dX0_contactBits_19 lmX0_76 oX0_contactAt (by decide +kernel) (by assumption) rfl rfl (Nat.le_of_ble_eq_true rfl) (f_X0_contactAt (p := p) hb hp8 hp1 (by omega) _) ?_
        refine aw_iload_n (i := 2) dX0_contactBits_22 rfl rfl ?_
        refine aw_ishl dX0_contactBits_23 ?_
        refine aw_ior dX0_contactBits_24 ?_
        refine aw_istore_n (i := 1) (L' := [_, _, _]) dX0_contactBits_25 rfl (Nat.le_of_ble_eq_true rfl) rfl rfl ?_
        refine aw_incN (L' := [_, _, _]) dX0_contactBits_26 rfl (Nat.le_of_ble_eq_true rfl) rfl rfl ?_
        refine aw_goto (tgt := 4) dX0_contactBits_29 (by decide) ?_
        exact ih (i + 1) hi (by omega)
  refine aw_iconst (v := 0) dX0_contactBits_0 (by decide) ?_
  refine aw_istore_n (i := 1) (L' := [_, _, _]) dX0_contactBits_1 rfl (Nat.le_of_ble_eq_true rfl) rfl rfl ?_
  refine aw_iconst (v := 0) dX0_contactBits_2 (by decide) ?_
  refine aw_istore_n (i := 2) (L' := [_, _, _]) dX0_contactBits_3 rfl (Nat.le_of_ble_eq_true rfl) rfl rfl ?_
  exact loop (n + 1) 0 (Nat.zero_le _) (by omega)
set_option maxRecDepth 100000 in
set_option maxHeartbeats 4000000 in
theorem f_X0_saysBits {V : am_V} {d b : Nat} {f : Nat → Nat → Int32} {τ : Nat → Nat → Int64} (hb : am_isB b) {n : Nat} (hn4 : n ≤ 4) (hn : f b 1 = nI n) : AF V MX0_saysBits d [.ref b] (f, τ) (some (.int (orF (fun k => f (b + 2 + k) 3) n))) (f, τ) := by
  have tB := tb_B hb
  have tk := tb_Bk hb
  have t6 := tb_B6 hb
  have t7 := tb_B7 hb
  have t8 := tb_B8 hb
  have t9 := tb_B9 hb
  have t10 := tb_B10 hb
  have t11 := tb_B11 hb
  refine AM.of (L := [some (.ref b), none, none]) (by decide +kernel) (Nat.le_of_ble_eq_true rfl) rfl ?_
  have loop : ∀ (m i : Nat), i ≤ n → n - i < m → AW V MX0_saysBits (d) 0 0 4 [some (.ref b), some (.int (orF (fun k => f (b + 2 + k) 3) i)), some (.int (nI i))] [] (hp (f, τ)) (fun r' h' => r' = some (.int (orF (fun k => f (b + 2 + k) 3) n)) ∧ h' = hp (f, τ)) := by
    intro m
    induction m with
    | zero => intro i h1 h2; omega
    | succ m ih =>
      intro i h1 h2
      refine aw_iload_n (i := 2) dX0_saysBits_4 rfl rfl ?_
      refine aw_aload_n (i := 0) dX0_saysBits_5 rfl rfl ?_
      refine ax_geti (ci := 0) 1 dX0_saysBits_6 rfl lfX0_41 (by decide) (by assumption) (by rfl) ?_
      refine aw_tE (nI n) hn ?_
      refine aw_icmp_ge (tgt := 32) dX0_saysBits_9 (by decide) (fun c9 => ?_) (fun c9 => ?_)
      · refine aw_iload_n (i := 1) dX0_saysBits_32 rfl rfl ?_
        refine aw_ireturn (ty := .int) dX0_saysBits_33 rfl rfl ?_
        have hip : i = n := by have := (nI_leI (a := n) (b := i) (by omega) (by omega)).mp c9; omega
        subst hip
        exact ⟨rfl, rfl⟩
      · have hi : i < n := Nat.not_le.mp (fun z => c9 (nI_le z (by omega)))
        have tK := tb_K hb (k := i) (by omega)
        refine aw_iload_n (i := 1) dX0_saysBits_12 rfl rfl ?_
        refine aw_aload_n (i := 0) dX0_saysBits_13 rfl rfl ?_
        refine ax_getr (ci := 0) 0 dX0_saysBits_14 rfl lfX0_11 (by decide) (by assumption) (by rfl) ?_
        refine aw_iload_n (i := 2) dX0_saysBits_17 rfl rfl ?_
        refine ax_keyN dX0_saysBits_18 (by assumption) (by omega) ?_
        refine ax_geti (ci := 1) 3 dX0_saysBits_19 rfl lfX0_79 (by decide) (by assumption) (by rfl) ?_
        refine aw_iload_n (i := 2) dX0_saysBits_22 rfl rfl ?_
        refine aw_ishl dX0_saysBits_23 ?_
        refine aw_ior dX0_saysBits_24 ?_
        refine aw_istore_n (i := 1) (L' := [_, _, _]) dX0_saysBits_25 rfl (Nat.le_of_ble_eq_true rfl) rfl rfl ?_
        refine aw_incN (L' := [_, _, _]) dX0_saysBits_26 rfl (Nat.le_of_ble_eq_true rfl) rfl rfl ?_
        refine aw_goto (tgt := 4) dX0_saysBits_29 (by decide) ?_
        exact ih (i + 1) hi (by omega)
  refine aw_iconst (v := 0) dX0_saysBits_0 (by decide) ?_
  refine aw_istore_n (i := 1) (L' := [_, _, _]) dX0_saysBits_1 rfl (Nat.le_of_ble_eq_true rfl) rfl rfl ?_
  refine aw_iconst (v := 0) dX0_saysBits_2 (by decide) ?_
  refine aw_istore_n (i := 2) (L' := [_, _, _]) dX0_saysBits_3 rfl (Nat.le_of_ble_eq_true rfl) rfl rfl ?_
  exact loop (n + 1) 0 (Nat.zero_le _) (by omega)
set_option maxRecDepth 100000 in
set_option maxHeartbeats 4000000 in
theorem f_X0_strokesOfAll {V : am_V} {d b : Nat} {f : Nat → Nat → Int32} {τ : Nat → Nat → Int64} (hb : am_isB b) {n : Nat} (hn4 : n ≤ 4) (hn : f b 1 = nI n) : AF V MX0_strokesOfAll d [.ref b] (f, τ) (some (.int (sumF (fun k => f (b + 2 + k) 6) n))) (f, τ) := by
  have tB := tb_B hb
  have tk := tb_Bk hb
  have t6 := tb_B6 hb
  have t7 := tb_B7 hb
  have t8 := tb_B8 hb
  have t9 := tb_B9 hb
  have t10 := tb_B10 hb
  have t11 := tb_B11 hb
  refine AM.of (L := [some (.ref b), none, none]) (by decide +kernel) (Nat.le_of_ble_eq_true rfl) rfl ?_
  have loop : ∀ (m i : Nat), i ≤ n → n - i < m → AW V MX0_strokesOfAll (d) 0 0 4 [some (.ref b), some (.int (sumF (fun k => f (b + 2 + k) 6) i)), some (.int (nI i))] [] (hp (f, τ)) (fun r' h' => r' = some (.int (sumF (fun k => f (b + 2 + k) 6) n)) ∧ h' = hp (f, τ)) := by
    intro m
    induction m with
    | zero => intro i h1 h2; omega
    | succ m ih =>
      intro i h1 h2
      refine aw_iload_n (i := 2) dX0_strokesOfAll_4 rfl rfl ?_
      refine aw_aload_n (i := 0) dX0_strokesOfAll_5 rfl rfl ?_
      refine ax_geti (ci := 0) 1 dX0_strokesOfAll_6 rfl lfX0_41 (by decide) (by assumption) (by rfl) ?_
      refine aw_tE (nI n) hn ?_
      refine aw_icmp_ge (tgt := 30) dX0_strokesOfAll_9 (by decide) (fun c9 => ?_) (fun c9 => ?_)
      · refine aw_iload_n (i := 1) dX0_strokesOfAll_30 rfl rfl ?_
        refine aw_ireturn (ty := .int) dX0_strokesOfAll_31 rfl rfl ?_
        have hip : i = n := by have := (nI_leI (a := n) (b := i) (by omega) (by omega)).mp c9; omega
        subst hip
        exact ⟨rfl, rfl⟩
      · have hi : i < n := Nat.not_le.mp (fun z => c9 (nI_le z (by omega)))
        have tK := tb_K hb (k := i) (by omega)
        refine aw_iload_n (i := 1) dX0_strokesOfAll_12 rfl rfl ?_
        refine aw_aload_n (i := 0) dX0_strokesOfAll_13 rfl rfl ?_
        refine ax_getr (ci := 0) 0 dX0_strokesOfAll_14 rfl lfX0_11 (by decide) (by assumption) (by rfl) ?_
        refine aw_iload_n (i := 2) dX0_strokesOfAll_17 rfl rfl ?_
        refine ax_keyN dX0_strokesOfAll_18 (by assumption) (by omega) ?_
        refine ax_geti (ci := 1) 6 dX0_strokesOfAll_19 rfl lfX0_82 (by decide) (by assumption) (by rfl) ?_
        refine aw_iadd dX0_strokesOfAll_22 ?_
        refine aw_istore_n (i := 1) (L' := [_, _, _]) dX0_strokesOfAll_23 rfl (Nat.le_of_ble_eq_true rfl) rfl rfl ?_
        refine aw_incN (L' := [_, _, _]) dX0_strokesOfAll_24 rfl (Nat.le_of_ble_eq_true rfl) rfl rfl ?_
        refine aw_goto (tgt := 4) dX0_strokesOfAll_27 (by decide) ?_
        exact ih (i + 1) hi (by omega)
  refine aw_iconst (v := 0) dX0_strokesOfAll_0 (by decide) ?_
  refine aw_istore_n (i := 1) (L' := [_, _, _]) dX0_strokesOfAll_1 rfl (Nat.le_of_ble_eq_true rfl) rfl rfl ?_
  refine aw_iconst (v := 0) dX0_strokesOfAll_2 (by decide) ?_
  refine aw_istore_n (i := 2) (L' := [_, _, _]) dX0_strokesOfAll_3 rfl (Nat.le_of_ble_eq_true rfl) rfl rfl ?_
  exact loop (n + 1) 0 (Nat.zero_le _) (by omega)
set_option maxRecDepth 100000 in
set_option maxHeartbeats 4000000 in
theorem f_X0_struckInRun {V : am_V} {d b : Nat} {f : Nat → Nat → Int32} {τ : Nat → Nat → Int64} (hb : am_isB b) {n : Nat} (hn4 : n ≤ 4) (hn : f b 1 = nI n) : AF V MX0_struckInRun d [.ref b] (f, τ) (some (.int (sumF (fun k => f (b + 2 + k) 7) n))) (f, τ) := by
  have tB := tb_B hb
  have tk := tb_Bk hb
  have t6 := tb_B6 hb
  have t7 := tb_B7 hb
  have t8 := tb_B8 hb
  have t9 := tb_B9 hb
  have t10 := tb_B10 hb
  have t11 := tb_B11 hb
  refine AM.of (L := [some (.ref b), none, none]) (by decide +kernel) (Nat.le_of_ble_eq_true rfl) rfl ?_
  have loop : ∀ (m i : Nat), i ≤ n → n - i < m → AW V MX0_struckInRun (d) 0 0 4 [some (.ref b), some (.int (sumF (fun k => f (b + 2 + k) 7) i)), some (.int (nI i))] [] (hp (f, τ)) (fun r' h' => r' = some (.int (sumF (fun k => f (b + 2 + k) 7) n)) ∧ h' = hp (f, τ)) := by
    intro m
    induction m with
    | zero => intro i h1 h2; omega
    | succ m ih =>
      intro i h1 h2
      refine aw_iload_n (i := 2) dX0_struckInRun_4 rfl rfl ?_
      refine aw_aload_n (i := 0) dX0_struckInRun_5 rfl rfl ?_
      refine ax_geti (ci := 0) 1 dX0_struckInRun_6 rfl lfX0_41 (by decide) (by assumption) (by rfl) ?_
      refine aw_tE (nI n) hn ?_
      refine aw_icmp_ge (tgt := 30) dX0_struckInRun_9 (by decide) (fun c9 => ?_) (fun c9 => ?_)
      · refine aw_iload_n (i := 1) dX0_struckInRun_30 rfl rfl ?_
        refine aw_ireturn (ty := .int) dX0_struckInRun_31 rfl rfl ?_
        have hip : i = n := by have := (nI_leI (a := n) (b := i) (by omega) (by omega)).mp c9; omega
        subst hip
        exact ⟨rfl, rfl⟩
      · have hi : i < n := Nat.not_le.mp (fun z => c9 (nI_le z (by omega)))
        have tK := tb_K hb (k := i) (by omega)
        refine aw_iload_n (i := 1) dX0_struckInRun_12 rfl rfl ?_
        refine aw_aload_n (i := 0) dX0_struckInRun_13 rfl rfl ?_
        refine ax_getr (ci := 0) 0 dX0_struckInRun_14 rfl lfX0_11 (by decide) (by assumption) (by rfl) ?_
        refine aw_iload_n (i := 2) dX0_struckInRun_17 rfl rfl ?_
        refine ax_keyN dX0_struckInRun_18 (by assumption) (by omega) ?_
        refine ax_geti (ci := 1) 7 dX0_struckInRun_19 rfl lfX0_92 (by decide) (by assumption) (by rfl) ?_
        refine aw_iadd dX0_struckInRun_22 ?_
        refine aw_istore_n (i := 1) (L' := [_, _, _]) dX0_struckInRun_23 rfl (Nat.le_of_ble_eq_true rfl) rfl rfl ?_
        refine aw_incN (L' := [_, _, _]) dX0_struckInRun_24 rfl (Nat.le_of_ble_eq_true rfl) rfl rfl ?_
        refine aw_goto (tgt := 4) dX0_struckInRun_27 (by decide) ?_
        exact ih (i + 1) hi (by omega)
  refine aw_iconst (v := 0) dX0_struckInRun_0 (by decide) ?_
  refine aw_istore_n (i := 1) (L' := [_, _, _]) dX0_struckInRun_1 rfl (Nat.le_of_ble_eq_true rfl) rfl rfl ?_
  refine aw_iconst (v := 0) dX0_struckInRun_2 (by decide) ?_
  refine aw_istore_n (i := 2) (L' := [_, _, _]) dX0_struckInRun_3 rfl (Nat.le_of_ble_eq_true rfl) rfl rfl ?_
  exact loop (n + 1) 0 (Nat.zero_le _) (by omega)
set_option maxRecDepth 100000 in
set_option maxHeartbeats 4000000 in
theorem f_X0_changedInRun {V : am_V} {d b : Nat} {f : Nat → Nat → Int32} {τ : Nat → Nat → Int64} (hb : am_isB b) {n : Nat} (hn4 : n ≤ 4) (hn : f b 1 = nI n) : AF V MX0_changedInRun d [.ref b] (f, τ) (some (.int (sumF (fun k => f (b + 2 + k) 8) n))) (f, τ) := by
  have tB := tb_B hb
  have tk := tb_Bk hb
  have t6 := tb_B6 hb
  have t7 := tb_B7 hb
  have t8 := tb_B8 hb
  have t9 := tb_B9 hb
  have t10 := tb_B10 hb
  have t11 := tb_B11 hb
  refine AM.of (L := [some (.ref b), none, none]) (by decide +kernel) (Nat.le_of_ble_eq_true rfl) rfl ?_
  have loop : ∀ (m i : Nat), i ≤ n → n - i < m → AW V MX0_changedInRun (d) 0 0 4 [some (.ref b), some (.int (sumF (fun k => f (b + 2 + k) 8) i)), some (.int (nI i))] [] (hp (f, τ)) (fun r' h' => r' = some (.int (sumF (fun k => f (b + 2 + k) 8) n)) ∧ h' = hp (f, τ)) := by
    intro m
    induction m with
    | zero => intro i h1 h2; omega
    | succ m ih =>
      intro i h1 h2
      refine aw_iload_n (i := 2) dX0_changedInRun_4 rfl rfl ?_
      refine aw_aload_n (i := 0) dX0_changedInRun_5 rfl rfl ?_
      refine ax_geti (ci := 0) 1 dX0_changedInRun_6 rfl lfX0_41 (by decide) (by assumption) (by rfl) ?_
      refine aw_tE (nI n) hn ?_
      refine aw_icmp_ge (tgt := 30) dX0_changedInRun_9 (by decide) (fun c9 => ?_) (fun c9 => ?_)
      · refine aw_iload_n (i := 1) dX0_changedInRun_30 rfl rfl ?_
        refine aw_ireturn (ty := .int) dX0_changedInRun_31 rfl rfl ?_
        have hip : i = n := by have := (nI_leI (a := n) (b := i) (by omega) (by omega)).mp c9; omega
        subst hip
        exact ⟨rfl, rfl⟩
      · have hi : i < n := Nat.not_le.mp (fun z => c9 (nI_le z (by omega)))
        have tK := tb_K hb (k := i) (by omega)
        refine aw_iload_n (i := 1) dX0_changedInRun_12 rfl rfl ?_
        refine aw_aload_n (i := 0) dX0_changedInRun_13 rfl rfl ?_
        refine ax_getr (ci := 0) 0 dX0_changedInRun_14 rfl lfX0_11 (by decide) (by assumption) (by rfl) ?_
        refine aw_iload_n (i := 2) dX0_changedInRun_17 rfl rfl ?_
        refine ax_keyN dX0_changedInRun_18 (by assumption) (by omega) ?_
        refine ax_geti (ci := 1) 8 dX0_changedInRun_19 rfl lfX0_95 (by decide) (by assumption) (by rfl) ?_
        refine aw_iadd dX0_changedInRun_22 ?_
        refine aw_istore_n (i := 1) (L' := [_, _, _]) dX0_changedInRun_23 rfl (Nat.le_of_ble_eq_true rfl) rfl rfl ?_
        refine aw_incN (L' := [_, _, _]) dX0_changedInRun_24 rfl (Nat.le_of_ble_eq_true rfl) rfl rfl ?_
        refine aw_goto (tgt := 4) dX0_changedInRun_27 (by decide) ?_
        exact ih (i + 1) hi (by omega)
  refine aw_iconst (v := 0) dX0_changedInRun_0 (by decide) ?_
  refine aw_istore_n (i := 1) (L' := [_, _, _]) dX0_changedInRun_1 rfl (Nat.le_of_ble_eq_true rfl) rfl rfl ?_
  refine aw_iconst (v := 0) dX0_changedInRun_2 (by decide) ?_
  refine aw_istore_n (i := 2) (L' := [_, _, _]) dX0_changedInRun_3 rfl (Nat.le_of_ble_eq_true rfl) rfl rfl ?_
  exact loop (n + 1) 0 (Nat.zero_le _) (by omega)
