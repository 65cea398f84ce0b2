theorem f_X5_flagc1 {V : am_V} {d : Nat} {S : fm} : AF V MX5_flag d [.int 1] S (some (.int 1)) S := f_X5_flag True
theorem f_X5_flagc0 {V : am_V} {d : Nat} {S : fm} : AF V MX5_flag d [.int 0] S (some (.int 0)) S := f_X5_flag False
theorem MR.alt {f0 f : Nat → Nat → Int32} {n p e T j part : Nat} {pk pt ps : Nat → Int32} {K : Nat → Nat → Int32} {v : Int32} (hn4 : n ≤ 4) (hj : j < n) (hpt : part ≤ 2) (hv : k_mayP (nI part) v) (h : MR f0 n p pk pt ps e K T f) : MR f0 n p pk pt ps e (altK K j (nI part) v) T (cuF (up2 f 66 (7 * j + part) v) j) := by
  obtain ⟨h0, ⟨h1, ⟨q, hq, eq, hC⟩, h3, h4, h5, h6, h7, h8⟩, hK⟩ := h
  have hk := hK j hj
  obtain ⟨k0, k1, ⟨nu, nu1, nu9, e2, su, hsu, e4⟩, k3, k5, k6⟩ := hk
  have hvr : ∃ z, v = nI z ∧ (part = 0 → z ≤ 9) ∧ (part = 1 → z ≤ 3) ∧ (part = 2 → 1 ≤ z ∧ z ≤ 9) := by
    rcases hv with ⟨a, b⟩ | ⟨a, b⟩ | ⟨a, b⟩
    · have := (nI_eq (a := part) (b := 0) (by omega) (by omega)).mp a
      obtain ⟨z, hz, rfl⟩ := rng_of (n := 9) (by omega) b
      exact ⟨z, rfl, fun _ => hz, fun _ => by omega, fun _ => by omega⟩
    · have := (nI_eq (a := part) (b := 1) (by omega) (by omega)).mp a
      obtain ⟨z, hz, rfl⟩ := rng_of (n := 3) (by omega) b
      exact ⟨z, rfl, fun _ => by omega, fun _ => hz, fun _ => by omega⟩
    · have := (nI_eq (a := part) (b := 2) (by omega) (by omega)).mp a
      obtain ⟨z, hz, rfl⟩ := rng1_of (n := 9) (by omega) b
      have h1z : 1 ≤ z := (nI_leI (a := 1) (b := z) (by omega) (by omega)).mp b.1
      exact ⟨z, rfl, fun _ => by omega, fun _ => by omega, fun _ => ⟨h1z, hz⟩⟩
  obtain ⟨z, rfl, z0, z1, z2⟩ := hvr
  have hidx : (if nI part = 0 then 0 else if nI part = 1 then 1 else 2) = part := by
    rcases (show part = 0 ∨ part = 1 ∨ part = 2 by omega) with rfl | rfl | rfl <;> rfl
  -- the row behind it
  have row : ∀ i, i < 7 → up2 f 66 (7 * j + part) (nI z) 66 (7 * j + i) = upd (K j) part (nI z) i := by
    intro i hi
    unfold upd
    by_cases c : i = part
    · subst c; rw [up2_self, if_pos rfl]
    · rw [up2_ne (by omega), if_neg c]; exact h5 j hj i hi
  have hnum : ∃ m s2, 1 ≤ m ∧ m ≤ 9 ∧ upd (K j) part (nI z) 2 = nI m ∧ upd (K j) part (nI z) 4 = nI s2 ∧ s2 ≤ 9 := by
    unfold upd
    by_cases c : part = 2
    · subst c
      exact ⟨z, su, (z2 rfl).1, (z2 rfl).2, rfl, e4, by omega⟩
    · rw [if_neg (by omega), if_neg (by omega)]
      exact ⟨nu, su, nu1, nu9, e2, e4, by omega⟩
  obtain ⟨mm, s2, mm1, mm9, en, es, hs2⟩ := hnum
  have ecl : clampI (up2 f 66 (7 * j + part) (nI z) 66 (7 * j + 4)) (up2 f 66 (7 * j + part) (nI z) 66 (7 * j + 2)) = imin (upd (K j) part (nI z) 4) (upd (K j) part (nI z) 2) := by
    rw [row 4 (by omega), row 2 (by omega), en, es]
    exact clamp_min (by omega) (by omega)
  have ekb : k_become (K j) (nI part) (nI z) = upd (upd (K j) part (nI z)) 4 (imin (upd (K j) part (nI z) 4) (upd (K j) part (nI z) 2)) := by
    unfold k_become
    rw [hidx]
  have eo : ∀ c i, ¬ (c = 66 ∧ 7 * j ≤ i ∧ i < 7 * j + 7) → cuF (up2 f 66 (7 * j + part) (nI z)) j c i = f c i := by
    intro c i hc
    unfold cuF
    rw [up2_ne (by omega), up2_ne (by omega)]
  have ej : ∀ i, i < 7 → cuF (up2 f 66 (7 * j + part) (nI z)) j 66 (7 * j + i) = k_become (K j) (nI part) (nI z) i := by
    intro i hi
    rw [ekb]
    unfold cuF
    rw [ecl]
    by_cases c : i = 4
    · subst c
      rw [up2_self]
      rfl
    · rw [up2_ne (by omega), row i hi]
      show _ = upd (upd (K j) part (nI z)) 4 _ i
      rw [show upd (upd (K j) part (nI z)) 4 (imin (upd (K j) part (nI z) 4) (upd (K j) part (nI z) 2)) i = upd (K j) part (nI z) i by unfold upd; rw [if_neg c]]
  have e78 : ∀ i, 7 ≤ i → k_become (K j) (nI part) (nI z) i = K j i := by
    intro i hi
    rw [ekb]
    unfold upd
    rw [if_neg (by omega), if_neg (by omega)]
  have ealt : ∀ k i, 7 ≤ i → altK K j (nI part) (nI z) k i = K k i := by
    intro k i hi
    unfold altK
    by_cases c : k = j
    · subst c; rw [if_pos rfl, e78 i hi]
    · rw [if_neg c]
  have epk : pkM (cuF (up2 f 66 (7 * j + part) (nI z)) j) = pkM f := by funext i; unfold pkM; exact eo _ _ (by omega)
  have ept : ptM (cuF (up2 f 66 (7 * j + part) (nI z)) j) = ptM f := by funext i; unfold ptM; exact eo _ _ (by omega)
  have eps : psM (cuF (up2 f 66 (7 * j + part) (nI z)) j) = psM f := by funext i; unfold psM; exact eo _ _ (by omega)
  refine ⟨h0.step (fun c i g1 g2 g3 g4 g5 g6 => eo c i (by omega)), ⟨by rw [eo _ _ (by omega)]; exact h1, ⟨q, hq, by rw [eo _ _ (by omega)]; exact eq, fun b k U hU => by rw [eo 64 16 (by omega), epk, ept, eps]; exact hC b k U hU⟩, by rw [eo _ _ (by omega)]; exact h3, by rw [eo _ _ (by omega)]; exact h4, ?_, ?_, ?_, ?_⟩, ?_⟩
  · intro k hk i hi
    unfold altK
    by_cases c : k = j
    · subst c; rw [if_pos rfl]; exact ej i hi
    · rw [if_neg c, eo _ _ (by omega)]; exact h5 k hk i hi
  · intro k hk
    rw [eo _ _ (by omega), ealt k 7 (by omega)]
    exact h6 k hk
  · intro k hk hk4
    rw [eo _ _ (by omega)]
    exact h7 k hk hk4
  · rw [eo _ _ (by omega), h8]
    exact sumF_congr n (fun k hk => (ealt k 8 (by omega)).symm)
  · intro k hk
    unfold altK
    by_cases c : k = j
    · subst c
      rw [if_pos rfl, ekb, en, es]
      have r : ∀ i, i ≠ part → i ≠ 4 → upd (upd (K k) part (nI z)) 4 (imin (nI s2) (nI mm)) i = K k i := by
        intro i a b
        unfold upd
        rw [if_neg b, if_neg a]
      have r2 : upd (upd (K k) part (nI z)) 4 (imin (nI s2) (nI mm)) 2 = nI mm := by
        show upd (K k) part (nI z) 2 = nI mm
        exact en
      have r4 : ∃ s3, s3 ≤ mm ∧ upd (upd (K k) part (nI z)) 4 (imin (nI s2) (nI mm)) 4 = nI s3 := by
        show ∃ s3, s3 ≤ mm ∧ imin (nI s2) (nI mm) = nI s3
        unfold imin
        by_cases y : mm < s2
        · rw [if_pos (nI_lt y (by omega))]; exact ⟨mm, Nat.le_refl _, rfl⟩
        · rw [if_neg (nI_nlt (by omega) (by omega))]; exact ⟨s2, by omega, rfl⟩
      refine ⟨?_, ?_, ⟨mm, mm1, mm9, r2, r4⟩, by rw [r 3 (by omega) (by omega)]; exact k3, by rw [r 5 (by omega) (by omega)]; exact k5, by rw [r 6 (by omega) (by omega)]; exact k6⟩
      · by_cases y : part = 0
        · subst y; exact ⟨z, z0 rfl, rfl⟩
        · rw [r 0 (by omega) (by omega)]; exact k0
      · by_cases y : part = 1
        · subst y; exact ⟨z, z1 rfl, rfl⟩
        · rw [r 1 (by omega) (by omega)]; exact k1
    · rw [if_neg c]
      exact hK k hk
set_option maxRecDepth 100000 in
set_option maxHeartbeats 1000000 in
theorem n_startsWith {V : am_V} {d : Nat} {f : Nat → Nat → Int32} {τ : Nat → Nat → Int64} {f0 : Nat → Nat → Int32} {n p s e T : Nat} (hB : BR f0 2 0 n p s e T) {j part : Nat} (hj : j < n) (hpt : part ≤ 2) (v : Int32) (hv : k_mayP (nI part) v) (hG : eqM f f0) : AGv V MX5_startsWith (d + 2) [.ref 64, .int (nI j), .int (nI part), .int v] (f, τ) (fun S' => ∃ f', S' = (f', τ) ∧ MR f0 n p (f0 9) (f0 8) (f0 10) e (altK (K0 f0) j (nI part) v) T f' ∧ ∀ c i, c ≠ 66 → c ≠ 70 → ¬ (c = 64 ∧ 15 ≤ i ∧ i ≤ 16) → f' c i = f c i) := by
  have hn4 : n ≤ 4 := hB.1.1
  have hp8 : p ≤ 8 := hB.1.2.1
  have he : 1 ≤ e ∧ e ≤ 4 := ⟨hB.1.2.2.2.1, hB.1.2.2.2.2.1⟩
  have hT9 : T ≤ 999 := hB.1.2.2.2.2.2
  have tM := tb_M
  have m65 := tb_65
  have m66 := tb_66
  have m67 := tb_67
  have m68 := tb_68
  have m69 := tb_69
  have m70 := tb_70
  have m71 := tb_71
  have m72 := tb_72
  have m73 := tb_73
  have m74 := tb_74
  have m75 := tb_75
  have m76 := tb_76
  refine AM.of (L := [some (.ref 64), some (.int (nI j)), some (.int (nI part)), some (.int v)]) (by decide +kernel) (Nat.le_of_ble_eq_true rfl) rfl ?_
  refine aw_aload_n (i := 0) dX5_startsWith_0 rfl rfl ?_
  refine ax_gV0v (M' := MX5_starts) (ci := 5) dX5_startsWith_1 lmX5_183 oX5_starts (by decide +kernel) (by assumption) rfl rfl (Nat.le_of_ble_eq_true rfl) (n_starts hB hG) (fun S_ h_ => ?_)
  obtain ⟨f1, rfl, T1, Q1⟩ := h_
  refine aw_aload_n (i := 0) dX5_startsWith_4 rfl rfl ?_
  refine aw_iload_n (i := 1) dX5_startsWith_5 rfl rfl ?_
  refine aw_iload_n (i := 2) dX5_startsWith_6 rfl rfl ?_
  refine aw_iload_n (i := 3) dX5_startsWith_7 rfl rfl ?_
  refine ax_callV3v (M' := MX5_becomesOf) (ci := 5) dX5_startsWith_8 lmX5_148 oX5_becomesOf (by decide +kernel) (by assumption) rfl rfl (Nat.le_of_ble_eq_true rfl) (f_X5_becomesOf (k := j) (j := part) (by omega) _) ?_
  refine aw_aload_n (i := 0) dX5_startsWith_11 rfl rfl ?_
  refine aw_iload_n (i := 1) dX5_startsWith_12 rfl rfl ?_
  refine ax_callV1v (M' := MX5_cutsSum) (ci := 5) dX5_startsWith_13 lmX5_211 oX5_cutsSum (by decide +kernel) (by assumption) rfl rfl (Nat.le_of_ble_eq_true rfl) (f_X5_cutsSum (k := j) (by omega)) ?_
  refine aw_return dX5_startsWith_16 rfl ?_
  exact ⟨_, rfl, rfl, _, rfl, T1.alt hn4 hj hpt hv, fun c i h1 h2 h3 => by unfold cuF; rw [up2_ne (by omega), up2_ne (by omega), Q1, stF_o (by omega)]⟩
set_option maxRecDepth 100000 in
set_option maxHeartbeats 1000000 in
theorem f_X5_dueIn {V : am_V} {d : Nat} {f : Nat → Nat → Int32} {τ : Nat → Nat → Int64} {p : Nat} (hp8 : p ≤ 8) (hp1 : f 65 53 = nI p) (x : Int32) : AF V MX5_dueIn (d + 1) [.ref 64, .int x] (f, τ) (some (.int (dueF (fun i => f 65 (29 + 3 * i + 0)) (fun i => f 65 (29 + 3 * i + 2)) (f 65 55) (f 65 55 + x - 1) p))) (f, τ) := by
  have tM := tb_M
  have m65 := tb_65
  have m66 := tb_66
  have m67 := tb_67
  have m68 := tb_68
  have m69 := tb_69
  have m70 := tb_70
  have m71 := tb_71
  have m72 := tb_72
  have m73 := tb_73
  have m74 := tb_74
  have m75 := tb_75
  have m76 := tb_76
  refine AM.of (L := [some (.ref 64), some (.int x), none, none, none]) (by decide +kernel) (Nat.le_of_ble_eq_true rfl) rfl ?_
  have loop : ∀ (m i : Nat) (z : Option Value), i ≤ p → p - i < m → AW V MX5_dueIn (d + 1) 0 0 4 [some (.ref 64), some (.int x), some (.int (dueF (fun i => f 65 (29 + 3 * i + 0)) (fun i => f 65 (29 + 3 * i + 2)) (f 65 55) (f 65 55 + x - 1) i)), some (.int (nI i)), z] [] (hp (f, τ)) (fun r' h' => r' = some (.int (dueF (fun i => f 65 (29 + 3 * i + 0)) (fun i => f 65 (29 + 3 * i + 2)) (f 65 55) (f 65 55 + x - 1) p)) ∧ h' = hp (f, τ)) := by
    intro m
    induction m with
    | zero => intro i z h1 h2; omega
    | succ m ih =>
      intro i z h1 h2
      have kY : (f 65 (29 + 3 * i + 2) = 1 ∧ f 65 55 ≤ f 65 (29 + 3 * i + 0) ∧ f 65 (29 + 3 * i + 0) ≤ f 65 55 + x - 1) → dueF (fun i => f 65 (29 + 3 * i + 0)) (fun i => f 65 (29 + 3 * i + 2)) (f 65 55) (f 65 55 + x - 1) (i + 1) = dueF (fun i => f 65 (29 + 3 * i + 0)) (fun i => f 65 (29 + 3 * i + 2)) (f 65 55) (f 65 55 + x - 1) i + 1 := fun q => by rw [dueF, if_pos q]
      have kN : ¬ (f 65 (29 + 3 * i + 2) = 1 ∧ f 65 55 ≤ f 65 (29 + 3 * i + 0) ∧ f 65 (29 + 3 * i + 0) ≤ f 65 55 + x - 1) → dueF (fun i => f 65 (29 + 3 * i + 0)) (fun i => f 65 (29 + 3 * i + 2)) (f 65 55) (f 65 55 + x - 1) (i + 1) = dueF (fun i => f 65 (29 + 3 * i + 0)) (fun i => f 65 (29 + 3 * i + 2)) (f 65 55) (f 65 55 + x - 1) i := fun q => by rw [dueF, if_neg q]
      refine aw_iload_n (i := 3) dX5_dueIn_4 rfl rfl ?_
      refine aw_aload_n (i := 0) dX5_dueIn_5 rfl rfl ?_
      refine ax_getr (ci := 5) 0 dX5_dueIn_6 rfl lfX5_7 (by decide) (by assumption) (by rfl) ?_
      refine aw_bipush (v := 53) dX5_dueIn_9 (by decide) ?_
      refine ax_ialdN (i := 53) dX5_dueIn_11 (by assumption) (by omega) (Nat.le_of_ble_eq_true rfl) ?_
      refine aw_tE (nI p) hp1 ?_
      refine aw_icmp_ge (tgt := 89) dX5_dueIn_12 (by decide) (fun c12 => ?_) (fun c12 => ?_)
      · refine aw_iload_n (i := 2) dX5_dueIn_89 rfl rfl ?_
        refine aw_ireturn (ty := .int) dX5_dueIn_90 rfl rfl ?_
        have hip : i = p := by have := (nI_leI (a := p) (b := i) (by omega) (by omega)).mp c12; omega
        subst hip
        exact ⟨rfl, rfl⟩
      · have hi : i < p := Nat.not_le.mp (fun z => c12 (nI_le z (by omega)))
        refine aw_bipush (v := 29) dX5_dueIn_15 (by decide) ?_
        refine aw_iconst (v := 3) dX5_dueIn_17 (by decide) ?_
        refine aw_iload_n (i := 3) dX5_dueIn_18 rfl rfl ?_
        refine aw_imul dX5_dueIn_19 ?_
        refine aw_iadd dX5_dueIn_20 ?_
        refine aw_istore (i := 4) (L' := [_, _, _, _, _]) dX5_dueIn_21 (Nat.le_of_ble_eq_true rfl) rfl rfl ?_
        refine aw_iload_n (i := 2) dX5_dueIn_23 rfl rfl ?_
        refine aw_aload_n (i := 0) dX5_dueIn_24 rfl rfl ?_
        refine ax_getr (ci := 5) 0 dX5_dueIn_25 rfl lfX5_7 (by decide) (by assumption) (by rfl) ?_
        refine aw_iload dX5_dueIn_28 rfl ?_
        refine aw_iconst (v := 2) dX5_dueIn_30 (by decide) ?_
        refine aw_iadd dX5_dueIn_31 ?_
        refine aw_tE (nI (29 + 3 * i + 2)) (by rw [show (3 : Int32) = nI 3 from rfl, show (29 : Int32) = nI 29 from rfl, pk_mul, nI_add]; exact nI_add _ 2) ?_
        refine ax_ialdN dX5_dueIn_32 (by assumption) (by omega) (Nat.le_of_ble_eq_true rfl) ?_
        refine aw_iconst (v := 1) dX5_dueIn_33 (by decide) ?_
        refine aw_icmp_ne (tgt := 77) dX5_dueIn_34 (by decide) (fun c34 => ?_) (fun c34 => ?_)
        · refine aw_iconst (v := 0) dX5_dueIn_77 (by decide) ?_
          refine ax_callS1i (M' := MX5_flag) dX5_dueIn_78 lmX5_236 oX5_flag (by decide +kernel) (Nat.le_of_ble_eq_true rfl) (f_X5_flagc0) ?_
          refine aw_iadd dX5_dueIn_81 ?_
          refine aw_istore_n (i := 2) (L' := [_, _, _, _, _]) dX5_dueIn_82 rfl (Nat.le_of_ble_eq_true rfl) rfl rfl ?_
          refine aw_incN (L' := [_, _, _, _, _]) dX5_dueIn_83 rfl (Nat.le_of_ble_eq_true rfl) rfl rfl ?_
          refine aw_goto (tgt := 4) dX5_dueIn_86 (by decide) ?_
          have e := fun z => ih (i + 1) z hi (by omega)
          first | (rw [kN (fun q => c34 q.1), ← Int32.add_zero (dueF (fun i => f 65 (29 + 3 * i + 0)) (fun i => f 65 (29 + 3 * i + 2)) (f 65 55) (f 65 55 + x - 1) i)] at e; exact e _) | (rw [kN (fun q => c70 q.2), ← Int32.add_zero (dueF (fun i => f 65 (29 + 3 * i + 0)) (fun i => f 65 (29 + 3 * i + 2)) (f 65 55) (f 65 55 + x - 1) i)] at e; exact e _) | (rw [kY ⟨c34, c70⟩] at e; exact e _)
        · refine aw_aload_n (i := 0) dX5_dueIn_37 rfl rfl ?_
          refine ax_getr (ci := 5) 0 dX5_dueIn_38 rfl lfX5_7 (by decide) (by assumption) (by rfl) ?_
          refine aw_iload dX5_dueIn_41 rfl ?_
          refine aw_iconst (v := 0) dX5_dueIn_43 (by decide) ?_
          refine aw_iadd dX5_dueIn_44 ?_
          refine aw_tE (nI (29 + 3 * i + 0)) (by rw [show (3 : Int32) = nI 3 from rfl, show (29 : Int32) = nI 29 from rfl, pk_mul, nI_add]; exact nI_add _ 0) ?_
          refine ax_ialdN dX5_dueIn_45 (by assumption) (by omega) (Nat.le_of_ble_eq_true rfl) ?_
          refine aw_i2l dX5_dueIn_46 ?_
          refine aw_aload_n (i := 0) dX5_dueIn_47 rfl rfl ?_
          refine ax_getr (ci := 5) 0 dX5_dueIn_48 rfl lfX5_7 (by decide) (by assumption) (by rfl) ?_
          refine aw_bipush (v := 55) dX5_dueIn_51 (by decide) ?_
          refine ax_ialdN (i := 55) dX5_dueIn_53 (by assumption) (by omega) (Nat.le_of_ble_eq_true rfl) ?_
          refine aw_i2l dX5_dueIn_54 ?_
          refine aw_aload_n (i := 0) dX5_dueIn_55 rfl rfl ?_
          refine ax_getr (ci := 5) 0 dX5_dueIn_56 rfl lfX5_7 (by decide) (by assumption) (by rfl) ?_
          refine aw_bipush (v := 55) dX5_dueIn_59 (by decide) ?_
          refine ax_ialdN (i := 55) dX5_dueIn_61 (by assumption) (by omega) (Nat.le_of_ble_eq_true rfl) ?_
          refine aw_iload_n (i := 1) dX5_dueIn_62 rfl rfl ?_
          refine aw_iadd dX5_dueIn_63 ?_
          refine aw_iconst (v := 1) dX5_dueIn_64 (by decide) ?_
          refine aw_isub dX5_dueIn_65 ?_
          refine aw_i2l dX5_dueIn_66 ?_
          refine ax_callS3i (M' := MX5_in) dX5_dueIn_67 lmX5_63 oX5_in (by decide +kernel) (Nat.le_of_ble_eq_true rfl) (e_in _ _ _) ?_
          refine aw_beq (tgt := 77) dX5_dueIn_70 (by decide) (fun c70 => ?_) (fun c70 => ?_)
          · refine aw_iconst (v := 0) dX5_dueIn_77 (by decide) ?_
            refine ax_callS1i (M' := MX5_flag) dX5_dueIn_78 lmX5_236 oX5_flag (by decide +kernel) (Nat.le_of_ble_eq_true rfl) (f_X5_flagc0) ?_
            refine aw_iadd dX5_dueIn_81 ?_
            refine aw_istore_n (i := 2) (L' := [_, _, _, _, _]) dX5_dueIn_82 rfl (Nat.le_of_ble_eq_true rfl) rfl rfl ?_
            refine aw_incN (L' := [_, _, _, _, _]) dX5_dueIn_83 rfl (Nat.le_of_ble_eq_true rfl) rfl rfl ?_
            refine aw_goto (tgt := 4) dX5_dueIn_86 (by decide) ?_
            have e := fun z => ih (i + 1) z hi (by omega)
            first | (rw [kN (fun q => c34 q.1), ← Int32.add_zero (dueF (fun i => f 65 (29 + 3 * i + 0)) (fun i => f 65 (29 + 3 * i + 2)) (f 65 55) (f 65 55 + x - 1) i)] at e; exact e _) | (rw [kN (fun q => c70 q.2), ← Int32.add_zero (dueF (fun i => f 65 (29 + 3 * i + 0)) (fun i => f 65 (29 + 3 * i + 2)) (f 65 55) (f 65 55 + x - 1) i)] at e; exact e _) | (rw [kY ⟨c34, c70⟩] at e; exact e _)
          · refine aw_iconst (v := 1) dX5_dueIn_73 (by decide) ?_
            refine aw_goto (tgt := 78) dX5_dueIn_74 (by decide) ?_
            refine ax_callS1i (M' := MX5_flag) dX5_dueIn_78 lmX5_236 oX5_flag (by decide +kernel) (Nat.le_of_ble_eq_true rfl) (f_X5_flagc1) ?_
            refine aw_iadd dX5_dueIn_81 ?_
            refine aw_istore_n (i := 2) (L' := [_, _, _, _, _]) dX5_dueIn_82 rfl (Nat.le_of_ble_eq_true rfl) rfl rfl ?_
            refine aw_incN (L' := [_, _, _, _, _]) dX5_dueIn_83 rfl (Nat.le_of_ble_eq_true rfl) rfl rfl ?_
            refine aw_goto (tgt := 4) dX5_dueIn_86 (by decide) ?_
            have e := fun z => ih (i + 1) z hi (by omega)
            first | (rw [kN (fun q => c34 q.1), ← Int32.add_zero (dueF (fun i => f 65 (29 + 3 * i + 0)) (fun i => f 65 (29 + 3 * i + 2)) (f 65 55) (f 65 55 + x - 1) i)] at e; exact e _) | (rw [kN (fun q => c70 q.2), ← Int32.add_zero (dueF (fun i => f 65 (29 + 3 * i + 0)) (fun i => f 65 (29 + 3 * i + 2)) (f 65 55) (f 65 55 + x - 1) i)] at e; exact e _) | (rw [kY ⟨c34, c70⟩] at e; exact e _)
  refine aw_iconst (v := 0) dX5_dueIn_0 (by decide) ?_
  refine aw_istore_n (i := 2) (L' := [_, _, _, _, _]) dX5_dueIn_1 rfl (Nat.le_of_ble_eq_true rfl) rfl rfl ?_
  refine aw_iconst (v := 0) dX5_dueIn_2 (by decide) ?_
  refine aw_istore_n (i := 3) (L' := [_, _, _, _, _]) dX5_dueIn_3 rfl (Nat.le_of_ble_eq_true rfl) rfl rfl ?_
  exact loop (p + 1) 0 _ (Nat.zero_le _) (by omega)
theorem due_BR {f : Nat → Nat → Int32} {n p s e T : Nat} (hB : BR f 2 0 n p s e T) (x : Int32) : dueF (fun i => f 65 (29 + 3 * i + 0)) (fun i => f 65 (29 + 3 * i + 2)) (f 65 55) (f 65 55 + x - 1) p = dueF (f 8) (f 10) (f 2 7) (f 2 7 + x - 1) p := by
  have h7 : f 65 55 = f 2 7 := hB.2.2.1.2.2.2.2.trans hB.2.1.2.2.2.2.symm
  rw [h7]
  refine dueF_congr p (fun i hi => ?_)
  obtain ⟨-, -, -, g1, g2, g3⟩ := hB.2.2.2.2.1 i hi
  rw [Nat.zero_add] at g1 g3
  exact ⟨g1, g3⟩
theorem due_eqM {f f0 : Nat → Nat → Int32} {p : Nat} {x : Int32} (hG : eqM f f0) : dueF (fun i => f 65 (29 + 3 * i + 0)) (fun i => f 65 (29 + 3 * i + 2)) (f 65 55) (f 65 55 + x - 1) p = dueF (fun i => f0 65 (29 + 3 * i + 0)) (fun i => f0 65 (29 + 3 * i + 2)) (f0 65 55) (f0 65 55 + x - 1) p := by
  have e65 : f 65 = f0 65 := by funext j; exact hG 65 j (by omega) (by omega) (by omega) (by omega) (by omega) (by omega)
  rw [e65]
theorem n_dueIn {V : am_V} {d : Nat} {f : Nat → Nat → Int32} {τ : Nat → Nat → Int64} {f0 : Nat → Nat → Int32} {n p s e T : Nat} (hB : BR f0 2 0 n p s e T) (hG : eqM f f0) (x : Int32) : AF V MX5_dueIn (d + 1) [.ref 64, .int x] (f, τ) (some (.int (dueF (f0 8) (f0 10) (f0 2 7) (f0 2 7 + x - 1) p))) (f, τ) := by
  rw [← due_BR hB, ← due_eqM hG]
  exact f_X5_dueIn hB.1.2.1 ((hG 65 53 (by omega) (by omega) (by omega) (by omega) (by omega) (by omega)).trans hB.2.2.1.2.1) x
set_option maxRecDepth 100000 in
set_option maxHeartbeats 1000000 in
theorem n_due {V : am_V} {d : Nat} {f : Nat → Nat → Int32} {τ : Nat → Nat → Int64} {n p s e T : Nat} (hB : BR f 2 0 n p s e T) (x : Int32) : AGi V MX5_due (d + 2) [.ref 64, .int x] (f, τ) (GM τ f (r_due f p x)) := by
  have hn4 : n ≤ 4 := hB.1.1
  have hp8 : p ≤ 8 := hB.1.2.1
  have he : 1 ≤ e ∧ e ≤ 4 := ⟨hB.1.2.2.2.1, hB.1.2.2.2.2.1⟩
  have hT9 : T ≤ 999 := hB.1.2.2.2.2.2
  have tM := tb_M
  have m65 := tb_65
  have m66 := tb_66
  have m67 := tb_67
  have m68 := tb_68
  have m69 := tb_69
  have m70 := tb_70
  have m71 := tb_71
  have m72 := tb_72
  have m73 := tb_73
  have m74 := tb_74
  have m75 := tb_75
  have m76 := tb_76
  refine AM.of (L := [some (.ref 64), some (.int x)]) (by decide +kernel) (Nat.le_of_ble_eq_true rfl) rfl ?_
  refine aw_iload_n (i := 1) dX5_due_0 rfl rfl ?_
  refine ax_callS1i (M' := MX5_isFar) dX5_due_1 lmX5_231 oX5_isFar (by decide +kernel) (Nat.le_of_ble_eq_true rfl) (f_X5_isFar _) ?_
  refine aw_beq (tgt := 15) dX5_due_4 (by decide) (fun c4 => ?_) (fun c4 => ?_)
  · refine aw_iconst (v := -1) dX5_due_15 (by decide) ?_
    refine aw_ireturn (ty := .int) dX5_due_16 rfl rfl ?_
    exact ⟨_, _, rfl, rfl, (if_neg c4).symm, _, rfl, eqM.rf⟩
  · refine aw_aload_n (i := 0) dX5_due_7 rfl rfl ?_
    refine aw_iload_n (i := 1) dX5_due_8 rfl rfl ?_
    refine ax_callV1i (M' := MX5_dueIn) (ci := 5) dX5_due_9 lmX5_243 oX5_dueIn (by decide +kernel) (by assumption) rfl rfl (Nat.le_of_ble_eq_true rfl) (n_dueIn hB eqM.rf _) ?_
    refine aw_goto (tgt := 16) dX5_due_12 (by decide) ?_
    refine aw_ireturn (ty := .int) dX5_due_16 rfl rfl ?_
    exact ⟨_, _, rfl, rfl, (if_pos c4).symm, _, rfl, eqM.rf⟩
theorem n_isKey {V : am_V} {d : Nat} {f : Nat → Nat → Int32} {τ : Nat → Nat → Int64} {n p s e T : Nat} (hB : BR f 2 0 n p s e T) (k : Int32) : AF V MX5_isKey (d + 1) [.ref 64, .int k] (f, τ) (some (.int (b2i (0 ≤ k ∧ k ≤ f 2 1 - 1)))) (f, τ) := by
  have e : f 65 28 = f 2 1 := hB.2.2.1.1.trans hB.2.1.1.symm
  rw [← e]
  exact f_X5_isKey k
set_option maxRecDepth 100000 in
set_option maxHeartbeats 1000000 in
theorem n_ahead {V : am_V} {d : Nat} {f : Nat → Nat → Int32} {τ : Nat → Nat → Int64} {n p s e T : Nat} (hB : BR f 2 0 n p s e T) (k x what : Int32) : AGi V MX5_ahead (d + 6) [.ref 64, .int k, .int x, .int what] (f, τ) (GM τ f (r_ahead f n p k x what)) := by
  have hn4 : n ≤ 4 := hB.1.1
  have hp8 : p ≤ 8 := hB.1.2.1
  have he : 1 ≤ e ∧ e ≤ 4 := ⟨hB.1.2.2.2.1, hB.1.2.2.2.2.1⟩
  have hT9 : T ≤ 999 := hB.1.2.2.2.2.2
  have ev6 : f 2 6 = nI e := hB.2.1.2.2.2.1
  have ev7 : f 2 7 = nI T := hB.2.1.2.2.2.2
  have hG : eqM f f := eqM.rf
  have tM := tb_M
  have m65 := tb_65
  have m66 := tb_66
  have m67 := tb_67
  have m68 := tb_68
  have m69 := tb_69
  have m70 := tb_70
  have m71 := tb_71
  have m72 := tb_72
  have m73 := tb_73
  have m74 := tb_74
  have m75 := tb_75
  have m76 := tb_76
  refine AM.of (L := [some (.ref 64), some (.int k), some (.int x), some (.int what)]) (by decide +kernel) (Nat.le_of_ble_eq_true rfl) rfl ?_
  refine aw_aload_n (i := 0) dX5_ahead_0 rfl rfl ?_
  refine aw_iload_n (i := 1) dX5_ahead_1 rfl rfl ?_
  refine ax_callV1i (M' := MX5_isKey) (ci := 5) dX5_ahead_2 lmX5_192 oX5_isKey (by decide +kernel) (by assumption) rfl rfl (Nat.le_of_ble_eq_true rfl) (n_isKey hB _) ?_
  refine aw_beq (tgt := 22) dX5_ahead_5 (by decide) (fun c5 => ?_) (fun c5 => ?_)
  · refine aw_iconst (v := -1) dX5_ahead_22 (by decide) ?_
    refine aw_ireturn (ty := .int) dX5_ahead_23 rfl rfl ?_
    refine ⟨_, _, rfl, rfl, ?_, _, rfl, hG⟩
    unfold r_ahead
    try rw [nI_clamp (show N < 2 ^ 31 by omega)]
    try rw [nI_clamp (show j < 2 ^ 31 by omega)]
    exact (if_neg c5).symm
  · refine aw_iload_n (i := 2) dX5_ahead_8 rfl rfl ?_
    refine ax_callS1i (M' := MX5_isFar) dX5_ahead_9 lmX5_231 oX5_isFar (by decide +kernel) (Nat.le_of_ble_eq_true rfl) (f_X5_isFar _) ?_
    refine aw_beq (tgt := 22) dX5_ahead_12 (by decide) (fun c12 => ?_) (fun c12 => ?_)
    · refine aw_iconst (v := -1) dX5_ahead_22 (by decide) ?_
      refine aw_ireturn (ty := .int) dX5_ahead_23 rfl rfl ?_
      refine ⟨_, _, rfl, rfl, ?_, _, rfl, hG⟩
      unfold r_ahead
      try rw [nI_clamp (show N < 2 ^ 31 by omega)]
      try rw [nI_clamp (show j < 2 ^ 31 by omega)]
      exact ((if_pos c5).trans (if_neg c12)).symm
    · refine aw_iload_n (i := 3) dX5_ahead_15 rfl rfl ?_
      refine ax_callS1i (M' := MX5_isPart) dX5_ahead_16 lmX5_240 oX5_isPart (by decide +kernel) (Nat.le_of_ble_eq_true rfl) (f_X5_isPart _) ?_
      refine aw_bne (tgt := 24) dX5_ahead_19 (by decide) (fun c19 => ?_) (fun c19 => ?_)
      · obtain ⟨j, hj, rfl⟩ := key_of hn4 (show 0 ≤ k ∧ k ≤ nI n - 1 by rw [← hB.2.1.1]; exact c5)
        obtain ⟨N, hN, rfl⟩ := rng_of (n := 200) (by omega) c12
        refine aw_aload_n (i := 0) dX5_ahead_24 rfl rfl ?_
        refine ax_gV0v (M' := MX5_starts) (ci := 5) dX5_ahead_25 lmX5_183 oX5_starts (by decide +kernel) (by assumption) rfl rfl (Nat.le_of_ble_eq_true rfl) (n_starts hB hG) (fun S_ h_ => ?_)
        obtain ⟨f25, rfl, T25, Q25⟩ := h_
        refine aw_aload_n (i := 0) dX5_ahead_28 rfl rfl ?_
        refine aw_iload_n (i := 2) dX5_ahead_29 rfl rfl ?_
        refine ax_gV1v (M' := MX5_ticksGo) (ci := 5) dX5_ahead_30 lmX5_223 oX5_ticksGo (by decide +kernel) (by assumption) rfl rfl (Nat.le_of_ble_eq_true rfl) (n_ticksGo hn4 he T25 (N := N) (by omega)) (fun S_ h_ => ?_)
        obtain ⟨f30, rfl, T30, Q30⟩ := h_
        refine aw_iload_n (i := 3) dX5_ahead_33 rfl rfl ?_
        refine aw_if_ne (tgt := 46) dX5_ahead_34 (by decide) (fun c34 => ?_) (fun c34 => ?_)
        · refine aw_aload_n (i := 0) dX5_ahead_46 rfl rfl ?_
          refine ax_getr (ci := 5) 14 dX5_ahead_47 rfl lfX5_26 (by decide) (by assumption) (by rfl) ?_
          refine aw_iload_n (i := 1) dX5_ahead_50 rfl rfl ?_
          refine ax_ialdN dX5_ahead_51 (by assumption) (by omega) (Nat.le_of_ble_eq_true rfl) ?_
          try refine aw_tE _ (T30.2.1.2.2.2.2.2.1 j hj) ?_
          refine aw_ireturn (ty := .int) dX5_ahead_52 rfl rfl ?_
          refine ⟨_, _, rfl, rfl, ?_, _, rfl, T30.1⟩
          rw [← ev6, ← ev7]
          unfold r_ahead
          try rw [nI_clamp (show N < 2 ^ 31 by omega)]
          try rw [nI_clamp (show j < 2 ^ 31 by omega)]
          exact ((if_pos c5).trans ((if_pos c12).trans ((if_pos c19).trans (if_neg c34)))).symm
        · refine aw_aload_n (i := 0) dX5_ahead_37 rfl rfl ?_
          refine aw_iload_n (i := 1) dX5_ahead_38 rfl rfl ?_
          refine aw_iconst (v := 3) dX5_ahead_39 (by decide) ?_
          refine ax_callV2i (M' := MX5_of) (ci := 5) dX5_ahead_40 lmX5_145 oX5_of (by decide +kernel) (by assumption) rfl rfl (Nat.le_of_ble_eq_true rfl) (n_of hn4 T30 hj (by decide)) ?_
          refine aw_goto (tgt := 52) dX5_ahead_43 (by decide) ?_
          try refine aw_tE _ (T30.2.1.2.2.2.2.2.1 j hj) ?_
          refine aw_ireturn (ty := .int) dX5_ahead_52 rfl rfl ?_
          refine ⟨_, _, rfl, rfl, ?_, _, rfl, T30.1⟩
          rw [← ev6, ← ev7]
          unfold r_ahead
          try rw [nI_clamp (show N < 2 ^ 31 by omega)]
          try rw [nI_clamp (show j < 2 ^ 31 by omega)]
          exact ((if_pos c5).trans ((if_pos c12).trans ((if_pos c19).trans (if_pos c34)))).symm
      · refine aw_iconst (v := -1) dX5_ahead_22 (by decide) ?_
        refine aw_ireturn (ty := .int) dX5_ahead_23 rfl rfl ?_
        refine ⟨_, _, rfl, rfl, ?_, _, rfl, hG⟩
        unfold r_ahead
        try rw [nI_clamp (show N < 2 ^ 31 by omega)]
        try rw [nI_clamp (show j < 2 ^ 31 by omega)]
        exact ((if_pos c5).trans ((if_pos c12).trans (if_neg c19))).symm
set_option maxRecDepth 100000 in
set_option maxHeartbeats 1000000 in
theorem n_strikesJust {V : am_V} {d : Nat} {f : Nat → Nat → Int32} {τ : Nat → Nat → Int64} {f0 : Nat → Nat → Int32} {n p s e T : Nat} (hB : BR f0 2 0 n p s e T) {j part N : Nat} (hj : j < n) (hpt : part ≤ 2) (v mm : Int32) (hv : k_mayP (nI part) v) (hN : N ≤ 200) (hG : eqM f f0) : AGi V MX5_strikesJust (d + 6) [.ref 64, .int (nI j), .int (nI part), .int v, .int (nI N), .int mm] (f, τ) (GM τ f0 (b2i ((avK (f0 9) (f0 8) (f0 10) n p (nI e) (altK (K0 f0) j (nI part) v) (nI T) N).1 j 7 = mm))) := by
  have hn4 : n ≤ 4 := hB.1.1
  have hp8 : p ≤ 8 := hB.1.2.1
  have he : 1 ≤ e ∧ e ≤ 4 := ⟨hB.1.2.2.2.1, hB.1.2.2.2.2.1⟩
  have hT9 : T ≤ 999 := hB.1.2.2.2.2.2
  have tM := tb_M
  have m65 := tb_65
  have m66 := tb_66
  have m67 := tb_67
  have m68 := tb_68
  have m69 := tb_69
  have m70 := tb_70
  have m71 := tb_71
  have m72 := tb_72
  have m73 := tb_73
  have m74 := tb_74
  have m75 := tb_75
  have m76 := tb_76
  refine AM.of (L := [some (.ref 64), some (.int (nI j)), some (.int (nI part)), some (.int v), some (.int (nI N)), some (.int mm)]) (by decide +kernel) (Nat.le_of_ble_eq_true rfl) rfl ?_
  refine aw_aload_n (i := 0) dX5_strikesJust_0 rfl rfl ?_
  refine aw_iload_n (i := 1) dX5_strikesJust_1 rfl rfl ?_
  refine aw_iload_n (i := 2) dX5_strikesJust_2 rfl rfl ?_
  refine aw_iload_n (i := 3) dX5_strikesJust_3 rfl rfl ?_
  refine ax_gV3v (M' := MX5_startsWith) (ci := 5) dX5_strikesJust_4 lmX5_252 oX5_startsWith (by decide +kernel) (by assumption) rfl rfl (Nat.le_of_ble_eq_true rfl) (n_startsWith hB hj hpt _ hv hG) (fun S_ h_ => ?_)
  obtain ⟨f4, rfl, T4, Q4⟩ := h_
  refine aw_aload_n (i := 0) dX5_strikesJust_7 rfl rfl ?_
  refine aw_iload dX5_strikesJust_8 rfl ?_
  refine ax_gV1v (M' := MX5_ticksGo) (ci := 5) dX5_strikesJust_10 lmX5_223 oX5_ticksGo (by decide +kernel) (by assumption) rfl rfl (Nat.le_of_ble_eq_true rfl) (n_ticksGo hn4 he T4 (N := N) (by omega)) (fun S_ h_ => ?_)
  obtain ⟨f10, rfl, T10, Q10⟩ := h_
  refine aw_aload_n (i := 0) dX5_strikesJust_13 rfl rfl ?_
  refine ax_getr (ci := 5) 14 dX5_strikesJust_14 rfl lfX5_26 (by decide) (by assumption) (by rfl) ?_
  refine aw_iload_n (i := 1) dX5_strikesJust_17 rfl rfl ?_
  refine ax_ialdN dX5_strikesJust_18 (by assumption) (by omega) (Nat.le_of_ble_eq_true rfl) ?_
  refine aw_tE _ (T10.2.1.2.2.2.2.2.1 j hj) ?_
  refine aw_iload dX5_strikesJust_19 rfl ?_
  refine aw_icmp_ne (tgt := 28) dX5_strikesJust_21 (by decide) (fun c21 => ?_) (fun c21 => ?_)
  · refine aw_iconst (v := 0) dX5_strikesJust_28 (by decide) ?_
    refine aw_ireturn (ty := .boolean) dX5_strikesJust_29 rfl (by decide) ?_
    first | exact ⟨_, _, rfl, rfl, (b2i_t c21).symm, _, rfl, T10.1⟩ | exact ⟨_, _, rfl, rfl, (b2i_f c21).symm, _, rfl, T10.1⟩
  · refine aw_iconst (v := 1) dX5_strikesJust_24 (by decide) ?_
    refine aw_goto (tgt := 29) dX5_strikesJust_25 (by decide) ?_
    refine aw_ireturn (ty := .boolean) dX5_strikesJust_29 rfl (by decide) ?_
    first | exact ⟨_, _, rfl, rfl, (b2i_t c21).symm, _, rfl, T10.1⟩ | exact ⟨_, _, rfl, rfl, (b2i_f c21).symm, _, rfl, T10.1⟩
