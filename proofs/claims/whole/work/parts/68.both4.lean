section BS4
variable {V : am_V} {f : Nat → Nat → Int32} {τ : Nat → Nat → Int64}
theorem r4_of {k : Int32} (h : 0 ≤ k ∧ k ≤ 3) : ∃ j, j < 4 ∧ k = nI j := by
  obtain ⟨j, hj, e⟩ := rng_of (n := 3) (by omega) h
  exact ⟨j, by omega, e⟩
/-- only sheet j has changed -/
theorem INV.sh {f' : Nat → Nat → Int32} {j0 : Nat} (hI : INV f) (hj0 : j0 < 4) (h : ∀ c j, c ≠ 53 + 2 * j0 → c ≠ 53 + 2 * j0 + 1 → ¬ (c = 73 ∧ j = j0) → ¬ (c = 74 ∧ j = j0) → ¬ (c = 75 ∧ 40 * j0 ≤ j ∧ j < 40 * j0 + 40) → f' c j = f c j) (hS : IS f' j0) : INV f' := by
  obtain ⟨hB, hT, ⟨hf1, hf2⟩, hM, hS0⟩ := hI
  refine ⟨hB.cg (fun c j q => h c j (by omega) (by omega) (by omega) (by omega) (by omega)), hT.cg (h _ _ (by omega) (by omega) (by omega) (by omega) (by omega)) (h _ _ (by omega) (by omega) (by omega) (by omega) (by omega)) (fun q _ => h _ _ (by omega) (by omega) (by omega) (by omega) (by omega)) (fun q _ => h _ _ (by omega) (by omega) (by omega) (by omega) (by omega)), ⟨?_, ?_⟩, fun j hj => (hM j hj).cg (h _ _ (by omega) (by omega) (by omega) (by omega) (by omega)) (h _ _ (by omega) (by omega) (by omega) (by omega) (by omega)) (fun c i q => h c i (by omega) (by omega) (by omega) (by omega) (by omega)), fun k hk => ?_⟩
  · rw [h 0 8 (by omega) (by omega) (by omega) (by omega) (by omega), h 64 12 (by omega) (by omega) (by omega) (by omega) (by omega)]; exact hf1
  · rw [h 0 9 (by omega) (by omega) (by omega) (by omega) (by omega), h 64 27 (by omega) (by omega) (by omega) (by omega) (by omega)]; exact hf2
  · by_cases q : k = j0
    · subst q; exact hS
    · exact (hS0 k hk).cg (funext fun i => h _ _ (by omega) (by omega) (by omega) (by omega) (by omega)) (funext fun i => h _ _ (by omega) (by omega) (by omega) (by omega) (by omega)) (h _ _ (by omega) (by omega) (by omega) (by omega) (by omega)) (h _ _ (by omega) (by omega) (by omega) (by omega) (by omega)) (fun i _ => h _ _ (by omega) (by omega) (by omega) (by omega) (by omega))
theorem b_sheet (hI : INV f) (k ln n : Int32) : Both V MX4_sheet MX5_sheet 9 [.int k, .int ln, .int n] (f, τ) := by
  refine Both.ff (f_X4_sheet (d := 7) k ln n) (q_sheet (d := 7) k ln n) ?_ ?_
  · unfold mr_sheet r_sheet
    by_cases q1 : 0 ≤ k ∧ k ≤ 3
    · rw [if_pos q1]
      by_cases q2 : 0 ≤ ln ∧ ln ≤ 2
      · rw [if_pos q2, if_pos ⟨q1, q2⟩]
      · rw [if_neg q2, if_neg (fun z => q2 z.2)]
    · rw [if_neg q1, if_neg (fun z => q1 z.1)]
  · show INV (ms_sheet (s_sheet f k ln n) k ln n)
    unfold ms_sheet s_sheet
    by_cases q1 : 0 ≤ k ∧ k ≤ 3
    · rw [if_pos q1]
      by_cases q2 : 0 ≤ ln ∧ ln ≤ 2
      · rw [if_pos q2, if_pos ⟨q1, q2⟩]
        by_cases q3 : n ≤ 40
        · rw [if_pos q3, if_pos q3]
          by_cases q4 : 0 ≤ n
          · rw [if_pos q4, if_pos q4]
            obtain ⟨j, hj, rfl⟩ := r4_of q1
            obtain ⟨q, hq, rfl⟩ := rng_of (n := 2) (by omega) q2
            obtain ⟨z, hz, rfl⟩ := rng_of (n := 40) (by omega) ⟨q4, q3⟩
            rw [nI_clamp (by omega)]
            have em : imin (nI z) 40 = nI z := by unfold imin; exact if_neg (nI_nlt (a := 40) (b := z) hz (by omega))
            unfold rnF
            rw [em]
            generalize hg : zrQ (up2 (up2 (zrP (up2 (up2 f (53 + 2 * j) 1 (nI q)) (53 + 2 * j) 2 (nI z)) (53 + 2 * j + 1) 40) 73 j (nI q)) 74 j (nI z)) (40 * j) 40 = f'
            have eo : ∀ c i, ¬ (c = 75 ∧ 40 * j ≤ i ∧ i < 40 * j + 40) → f' c i = up2 (up2 (zrP (up2 (up2 f (53 + 2 * j) 1 (nI q)) (53 + 2 * j) 2 (nI z)) (53 + 2 * j + 1) 40) 73 j (nI q)) 74 j (nI z) c i := fun c i h => by rw [← hg]; exact if_neg h
            have e : ∀ c i, c ≠ 53 + 2 * j → c ≠ 53 + 2 * j + 1 → ¬ (c = 73 ∧ i = j) → ¬ (c = 74 ∧ i = j) → ¬ (c = 75 ∧ 40 * j ≤ i ∧ i < 40 * j + 40) → f' c i = f c i := fun c i x1 x2 x3 x4 x5 => by
              rw [eo c i x5, up2_ne x4, up2_ne x3, zrP_o x2, up2_ne (by omega), up2_ne (by omega)]
            refine hI.sh hj e ⟨Or.inr ⟨q, hq, ?_, ?_⟩, ⟨z, hz, ?_, ?_⟩, fun i hi => ?_⟩
            · rw [eo _ _ (by omega), up2_ne (by omega), up2_ne (by omega), zrP_o (by omega), up2_ne (by omega), up2_self]
            · rw [eo _ _ (by omega), up2_ne (by omega), up2_self]
            · rw [eo _ _ (by omega), up2_ne (by omega), up2_ne (by omega), zrP_o (by omega), up2_self]
            · rw [eo _ _ (by omega), up2_self]
            · have l1 : f' 75 (40 * j + i) = 0 := by rw [← hg]; exact if_pos ⟨rfl, by omega, by omega⟩
              have l2 : f' (53 + 2 * j + 1) i = 0 := by rw [eo _ _ (by omega), up2_ne (by omega), up2_ne (by omega), zrP_i hi]
              rw [l1, l2]
          · rw [if_neg q4, if_neg q4]
            exact hI
        · rw [if_neg q3, if_neg q3]
          exact hI
      · rw [if_neg q2, if_neg (fun z => q2 z.2)]
        exact hI
    · rw [if_neg q1, if_neg (fun z => q1 z.1)]
      exact hI
theorem b_lay (hI : INV f) (k i v : Int32) : Both V MX4_lay MX5_lay 9 [.int k, .int i, .int v] (f, τ) := by
  have hS := hI.2.2.2.2
  have ptV_layV : ∀ a b : Int32, ptV a b = layV a b := fun _ _ => rfl
  have z02 : (0 : Int32) ≤ 0 ∧ (0 : Int32) ≤ 2 := by decide
  have o : ∀ c u, (∀ j, j < 4 → c ≠ 53 + 2 * j + 1) → s_lay f k i v c u = f c u := by
    intro c u h
    unfold s_lay
    split
    · rename_i q1
      obtain ⟨j, hj, rfl⟩ := r4_of q1
      rw [nI_clamp (by omega)]
      split
      · rename_i q2
        unfold ptF
        rw [if_pos q2, up2_ne (fun z => h j hj z.1)]
      · rfl
    · rfl
  have h74 : ∀ j, j < 4 → ∃ z, z ≤ 40 ∧ s_lay f k i v 74 j = nI z := fun j hj => by
    obtain ⟨z, hz, -, z2⟩ := (hS j hj).2.1
    exact ⟨z, hz, (o 74 j (fun _ _ => by omega)).trans z2⟩
  refine Both.ff (f_X4_lay (d := 6) (fun j hj => by obtain ⟨z, hz, z1, -⟩ := (hS j hj).2.1; exact ⟨z, hz, z1⟩) k i v) (q_lay (d := 7) h74 k i v) ?_ ?_
  · unfold mr_lay r_lay
    by_cases q1 : 0 ≤ k ∧ k ≤ 3
    · rw [if_pos q1, if_pos ⟨q1, z02⟩, o 73 _ (fun _ _ => by omega), o 74 _ (fun _ _ => by omega)]
      obtain ⟨j, hj, rfl⟩ := r4_of q1
      rw [nI_clamp (by omega)]
      obtain ⟨h1, ⟨z, hz, z1, z2⟩, -⟩ := hS j hj
      unfold faF
      rw [z1, z2]
      rcases h1 with ⟨h1, h2⟩ | ⟨q, hq, h1, h2⟩
      · rw [if_pos h1, if_pos h2, if_neg (by decide)]
        decide
      · have g1 : ¬ nI q = -1 := fun y => absurd (show nI q < 0 by rw [y]; decide) (nI_pos (by omega))
        have g2 : ¬ nI q = -4 := nI_ne4 (by omega)
        rw [h1, h2, if_neg g1, if_neg g2]
        by_cases q5 : 0 ≤ i ∧ i ≤ nI z - 1
        · rw [if_pos q5, if_pos q5, if_pos rfl]
        · rw [if_neg q5, if_neg q5, if_neg (by decide)]
          decide
    · rw [if_neg q1, if_neg (fun z => q1 z.1)]
  · show INV (ms_lay (s_lay f k i v) k i v)
    unfold ms_lay
    by_cases q1 : 0 ≤ k ∧ k ≤ 3
    · rw [if_pos ⟨q1, z02⟩, o 73 _ (fun _ _ => by omega), o 74 _ (fun _ _ => by omega)]
      unfold s_lay
      rw [if_pos q1]
      obtain ⟨j, hj, rfl⟩ := r4_of q1
      rw [nI_clamp (by omega)]
      obtain ⟨h1, ⟨z, hz, z1, z2⟩, hc⟩ := hS j hj
      unfold faF
      rw [z1, z2]
      rcases h1 with ⟨h1, h2⟩ | ⟨q, hq, h1, h2⟩
      · rw [if_pos h1, if_pos h2, if_neg (by decide)]
        exact hI
      · have g1 : ¬ nI q = -1 := fun y => absurd (show nI q < 0 by rw [y]; decide) (nI_pos (by omega))
        have g2 : ¬ nI q = -4 := nI_ne4 (by omega)
        rw [h1, h2, if_neg g1, if_neg g2]
        by_cases q5 : 0 ≤ i ∧ i ≤ nI z - 1
        · rw [if_pos q5, if_pos q5, if_pos rfl]
          obtain ⟨u, hu, rfl⟩ := key_in (by omega) q5
          have fa : faF f (53 + 2 * j) (nI u) = 0 := by
            unfold faF
            rw [h1, if_neg g1, z1, if_pos q5]
          unfold ptF
          rw [if_pos fa, nI_clamp (by omega), h1, ptV_layV]
          generalize layV (nI q) v = w
          generalize hg : up2 (up2 f (53 + 2 * j + 1) u w) 75 (40 * j + u) w = f'
          have e : ∀ c i, ¬ (c = 53 + 2 * j + 1 ∧ i = u) → ¬ (c = 75 ∧ i = 40 * j + u) → f' c i = f c i := fun c i x1 x2 => by rw [← hg, up2_ne x2, up2_ne x1]
          refine hI.sh hj (fun c i _ _ _ _ _ => e c i (by omega) (by omega)) ⟨Or.inr ⟨q, hq, ?_, ?_⟩, ⟨z, hz, ?_, ?_⟩, fun i hi => ?_⟩
          · rw [e _ _ (by omega) (by omega)]; exact h1
          · rw [e _ _ (by omega) (by omega)]; exact h2
          · rw [e _ _ (by omega) (by omega)]; exact z1
          · rw [e _ _ (by omega) (by omega)]; exact z2
          · by_cases y : i = u
            · subst y
              have l1 : f' 75 (40 * j + i) = w := by rw [← hg, up2_self]
              have l2 : f' (53 + 2 * j + 1) i = w := by rw [← hg, up2_ne (by omega), up2_self]
              rw [l1, l2]
            · rw [e _ _ (by omega) (by omega), e _ _ (by omega) (by omega)]
              exact hc i hi
        · rw [if_neg q5, if_neg q5, if_neg (by decide)]
          exact hI
    · rw [if_neg (fun z => q1 z.1)]
      unfold s_lay
      rw [if_neg q1]
      exact hI
theorem b_keep (hI : INV f) (k : Int32) : Both V MX4_keep MX5_keep 9 [.int k] (f, τ) := by
  have hM := hI.2.2.2.1
  have o : ∀ c u, ¬ (28 ≤ c ∧ c < 52) → c ≠ 27 → s_keep f k c u = f c u := by
    intro c u h h27
    unfold s_keep
    split
    · rename_i q1
      obtain ⟨j, hj, rfl⟩ := rng_of (n := 1) (by omega) q1
      rw [nI_clamp (by omega), up2_ne (by omega), caF_o (by omega)]
    · rfl
  have h67 : ∀ j, j < 2 → s_keep f k 67 j = 0 ∨ s_keep f k 67 j = 1 := fun j hj => by
    rw [o 67 j (by omega) (by omega)]
    exact (hM j hj).1
  refine Both.ff (f_X4_keep (d := 6) k) (q_keep (d := 8) h67 k) ?_ ?_
  · unfold mr_keep r_keep
    by_cases q1 : 0 ≤ k ∧ k ≤ 1
    · rw [if_pos q1, if_pos q1, o 67 _ (by omega) (by omega)]
      obtain ⟨j, hj, rfl⟩ := rng_of (n := 1) (by omega) q1
      rw [nI_clamp (by omega)]
      obtain ⟨h1, h2, -⟩ := hM j (by omega)
      rw [h2]
      rcases h1 with h1 | h1
      · rw [h1, if_pos rfl]
      · rw [h1, if_neg (by decide)]
    · rw [if_neg q1, if_neg q1]
  · show INV (ms_keep (s_keep f k) k)
    unfold ms_keep s_keep
    by_cases q1 : 0 ≤ k ∧ k ≤ 1
    · rw [if_pos q1, if_pos q1]
      obtain ⟨j, hj, rfl⟩ := rng_of (n := 1) (by omega) q1
      rw [nI_clamp (by omega)]
      generalize hg : cpR (up2 (up2 (caF f (28 + 12 * j) 2) 27 j 1) 67 j 1) 65 (75 * (j + 1)) 65 0 75 = f'
      have e : ∀ c i, ¬ (28 + 12 * j ≤ c ∧ c < 28 + 12 * j + 12) → ¬ (c = 27 ∧ i = j) → ¬ (c = 67 ∧ i = j) → ¬ (c = 65 ∧ 75 * (j + 1) ≤ i ∧ i < 75 * (j + 1) + 75) → f' c i = f c i := fun c i x1 x2 x3 x4 => by
        rw [← hg, cpR_o x4, up2_ne x3, up2_ne x2, caF_o (by omega)]
      have eb : ∀ c i, c < 65 → c ≠ 27 → f' c i = caF f (28 + 12 * j) 2 c i := fun c i x1 x2 => by
        rw [← hg, cpR_o (by omega), up2_ne (by omega), up2_ne (by omega)]
      have e65 : ∀ i, i < 75 → f' 65 (75 * (j + 1) + i) = f 65 (0 + i) := fun i hi => by
        rw [← hg, cpR_i hi, up2_ne (by omega), up2_ne (by omega), caF_o (by omega)]
      have hap : am_ap (28 + 12 * j) 2 := by unfold am_ap; omega
      obtain ⟨hB, hT, ⟨hf1, hf2⟩, -, hS⟩ := hI
      have hB0 := hB
      obtain ⟨n, p, s, ev, T, hB1⟩ := hB0
      refine ⟨hB.cg (fun c i q => e c i (by omega) (by omega) (by omega) (by omega)), hT.cg (e _ _ (by omega) (by omega) (by omega) (by omega)) (e _ _ (by omega) (by omega) (by omega) (by omega)) (fun q _ => e _ _ (by omega) (by omega) (by omega) (by omega)) (fun q _ => e _ _ (by omega) (by omega) (by omega) (by omega)), ⟨?_, ?_⟩, fun j' hj' => ?_, fun k hk => (hS k hk).cg (funext fun i => e _ _ (by omega) (by omega) (by omega) (by omega)) (funext fun i => e _ _ (by omega) (by omega) (by omega) (by omega)) (e _ _ (by omega) (by omega) (by omega) (by omega)) (e _ _ (by omega) (by omega) (by omega) (by omega)) (fun i _ => e _ _ (by omega) (by omega) (by omega) (by omega))⟩
      · rw [e 0 8 (by omega) (by omega) (by omega) (by omega), e 64 12 (by omega) (by omega) (by omega) (by omega)]; exact hf1
      · rw [e 0 9 (by omega) (by omega) (by omega) (by omega), e 64 27 (by omega) (by omega) (by omega) (by omega)]; exact hf2
      · by_cases y : j' = j
        · subst y
          have l67 : f' 67 j' = 1 := by rw [← hg, cpR_o (by omega), up2_self]
          have l27 : f' 27 j' = 1 := by rw [← hg, cpR_o (by omega), up2_ne (by omega), up2_self]
          refine ⟨Or.inr l67, l27.trans l67.symm, fun _ => ⟨n, p, s, ev, T, hB1.copy (fun q hq => ?_) (fun k hk i hi => ?_) (fun m i hm hi => ?_) (fun m i hm hi => ?_) e65⟩⟩
          · rw [eb _ _ (by omega) (by omega), caF_b (by omega)]
          · rw [eb _ _ (by omega) (by omega), caF_k hk, k_copy_lt _ _ hi]
          · rw [eb _ _ (by omega) (by omega), caF_p hap hm hi]
          · rw [eb _ _ (by omega) (by omega), caF_s hap hm hi]
        · exact (hM j' hj').cg (e _ _ (by omega) (by omega) (by omega) (by omega)) (e _ _ (by omega) (by omega) (by omega) (by omega)) (fun c i q => e c i (by omega) (by omega) (by omega) (by omega))
    · rw [if_neg q1, if_neg q1]
      exact hI
theorem b_back (hI : INV f) (k : Int32) : Both V MX4_back MX5_back 9 [.int k] (f, τ) := by
  have hM := hI.2.2.2.1
  have o : ∀ c u, ¬ (2 ≤ c ∧ c < 14) → s_back f k c u = f c u := by
    intro c u h
    unfold s_back
    split
    · split
      · rfl
      · rw [caF_o (by omega)]
    · rfl
  refine Both.ff (f_X4_back (d := 6) k) (q_back (d := 8) k) ?_ ?_
  · unfold mr_back r_back
    by_cases q1 : 0 ≤ k ∧ k ≤ 1
    · rw [if_pos q1, if_pos q1, o 67 _ (by omega), o 65 _ (by omega)]
      obtain ⟨j, hj, rfl⟩ := rng_of (n := 1) (by omega) q1
      rw [nI_clamp (by omega)]
      obtain ⟨h1, h2, h3⟩ := hM j (by omega)
      rw [h2]
      rcases h1 with h1 | h1
      · rw [h1, if_pos rfl, if_pos rfl]
      · obtain ⟨n, p, s, e, T, hB⟩ := h3 h1
        rw [h1, if_neg (by decide), if_neg (by decide), hB.2.2.1.2.2.2.2, hB.2.1.2.2.2.2]
    · rw [if_neg q1, if_neg q1]
  · show INV (ms_back (s_back f k) k)
    unfold ms_back
    by_cases q1 : 0 ≤ k ∧ k ≤ 1
    · rw [if_pos q1, o 67 _ (by omega)]
      unfold s_back
      rw [if_pos q1]
      obtain ⟨j, hj, rfl⟩ := rng_of (n := 1) (by omega) q1
      rw [nI_clamp (by omega)]
      obtain ⟨h1, h2, h3⟩ := hM j (by omega)
      rw [h2]
      rcases h1 with h1 | h1
      · rw [h1, if_pos rfl, if_pos rfl]
        exact hI
      · obtain ⟨n, p, s, ev, T, hB⟩ := h3 h1
        rw [h1, if_neg (by decide), if_neg (by decide)]
        generalize hg : cpR (caF f 2 (28 + 12 * j)) 65 0 65 (75 * (j + 1)) 75 = f'
        have e : ∀ c i, ¬ (2 ≤ c ∧ c < 14) → ¬ (c = 65 ∧ i < 75) → f' c i = f c i := fun c i x1 x4 => by
          rw [← hg, cpR_o (by omega), caF_o (by omega)]
        have eb : ∀ c i, c < 65 → f' c i = caF f 2 (28 + 12 * j) c i := fun c i x1 => by
          rw [← hg, cpR_o (by omega)]
        have e65 : ∀ i, i < 75 → f' 65 (0 + i) = f 65 (75 * (j + 1) + i) := fun i hi => by
          rw [← hg, cpR_i hi, caF_o (by omega)]
        have hap : am_ap 2 (28 + 12 * j) := by unfold am_ap; omega
        refine hI.bd (fun c i _ _ g1 g2 => e c i (by omega) (by omega)) ⟨n, p, s, ev, T, hB.copy (fun q hq => ?_) (fun k hk i hi => ?_) (fun m i hm hi => ?_) (fun m i hm hi => ?_) e65⟩
        · rw [eb _ _ (by omega), caF_b (by omega)]
        · rw [eb _ _ (by omega), caF_k hk, k_copy_lt _ _ hi]
        · rw [eb _ _ (by omega), caF_p hap hm hi]
        · rw [eb _ _ (by omega), caF_s hap hm hi]
    · rw [if_neg q1]
      unfold s_back
      rw [if_neg q1]
      exact hI
end BS4
