theorem kOK.cg {g g' : Nat → Int32} (h : ∀ j, j < 7 → g' j = g j) (hk : kOK g) : kOK g' := by
  unfold kOK at hk ⊢
  rw [h 0 (by omega), h 1 (by omega), h 2 (by omega), h 3 (by omega), h 4 (by omega), h 5 (by omega), h 6 (by omega)]
  exact hk
theorem BR.copy {f f' : Nat → Nat → Int32} {b o b2 o2 n p s e T : Nat} (hB : BR f b2 o2 n p s e T) (h1 : ∀ q, q = 1 ∨ q = 5 ∨ q = 6 ∨ q = 7 ∨ q = 11 → f' b q = f b2 q) (hk : ∀ k, k < 4 → ∀ j, j < 7 → f' (b + 2 + k) j = f (b2 + 2 + k) j) (hp : ∀ m i, m = 6 ∨ m = 7 ∨ m = 8 → i < 8 → f' (b + m) i = f (b2 + m) i) (hs : ∀ m i, m = 9 ∨ m = 10 ∨ m = 11 → i < 6 → f' (b + m) i = f (b2 + m) i) (h65 : ∀ j, j < 75 → f' 65 (o + j) = f 65 (o2 + j)) : BR f' b o n p s e T := by
  obtain ⟨hA, ⟨a1, a2, a3, a4, a5⟩, ⟨b1, b2, b3, b4, b5⟩, gk, gp, gs⟩ := hB
  have hA0 := hA
  obtain ⟨n4, p8, s6, -⟩ := hA0
  refine ⟨hA, ⟨(h1 1 (by omega)).trans a1, (h1 5 (by omega)).trans a2, (h1 11 (by omega)).trans a3, (h1 6 (by omega)).trans a4, (h1 7 (by omega)).trans a5⟩, ⟨(h65 28 (by omega)).trans b1, (h65 53 (by omega)).trans b2, (h65 56 (by omega)).trans b3, (h65 54 (by omega)).trans b4, (h65 55 (by omega)).trans b5⟩, fun k hk1 => ⟨(gk k hk1).1.cg (hk k (by omega)), fun j hj => ?_⟩, fun i hi => ?_, fun i hi => ?_⟩
  · rw [h65 _ (by omega), hk k (by omega) j hj]
    exact (gk k hk1).2 j hj
  · rw [hp 6 i (by omega) (by omega), hp 7 i (by omega) (by omega), hp 8 i (by omega) (by omega), h65 _ (by omega), h65 _ (by omega), h65 _ (by omega)]
    exact gp i hi
  · rw [hs 9 i (by omega) (by omega), hs 10 i (by omega) (by omega), hs 11 i (by omega) (by omega), h65 (57 + 3 * i) (by omega), h65 (57 + 3 * i + 1) (by omega), h65 (57 + 3 * i + 2) (by omega)]
    exact gs i hi
section BS3
variable {V : am_V} {f : Nat → Nat → Int32} {τ : Nat → Nat → Int64}
theorem s_strike_o {p : Nat} {t k s : Int32} {c j : Nat} (h8 : c ≠ 8) (h9 : c ≠ 9) (h10 : c ≠ 10) (h2 : ¬ (c = 2 ∧ j = 5)) : s_strike f p t k s c j = f c j := by
  unfold s_strike
  repeat' split
  all_goals first
    | rfl
    | (unfold apF; rw [up2_ne (by omega), up2_ne (by omega), up2_ne (by omega), up2_ne (by omega)])
theorem s_see_o {p : Nat} {t k s : Int32} {c j : Nat} (h8 : c ≠ 11) (h9 : c ≠ 12) (h10 : c ≠ 13) (h2 : ¬ (c = 2 ∧ j = 11)) : s_see f p t k s c j = f c j := by
  unfold s_see
  repeat' split
  all_goals first
    | rfl
    | (unfold apF; rw [up2_ne (by omega), up2_ne (by omega), up2_ne (by omega), up2_ne (by omega)])
theorem b_strike (hI : INV f) (t k s : Int32) : Both V MX4_strike MX5_strike 9 [.int t, .int k, .int s] (f, τ) := by
  obtain ⟨n, p, s', e, T, hB⟩ := hI.1
  obtain ⟨⟨n4, p8, s6, e1, e4, T9⟩, ⟨a1, a2, a3, a4, a5⟩, ⟨b1, b2, b3, b4, b5⟩, hk, hp, hs⟩ := hB
  rw [Nat.zero_add] at b1 b2 b3 b4 b5
  have c53 : s_strike f p t k s 65 53 = nI p := (s_strike_o (by omega) (by omega) (by omega) (by omega)).trans b2
  have c28 : s_strike f p t k s 65 28 = nI n := (s_strike_o (by omega) (by omega) (by omega) (by omega)).trans b1
  refine Both.ff (f_X4_strike (d := 6) p8 a2 t k s) (q_strike (d := 7) p8 c53 t k s) ?_ ?_
  · unfold mr_put r_strike
    rw [c28, a1]
    by_cases q1 : 0 ≤ t ∧ t ≤ 99
    · rw [if_pos q1, if_pos q1]
      by_cases q2 : 0 ≤ k ∧ k ≤ nI n - 1
      · rw [if_pos q2, if_pos q2]
        by_cases q3 : 0 ≤ s ∧ s ≤ 1
        · rw [if_pos q3, if_pos q3]
          by_cases z : p = 8
          · have g1 : nI p = 8 := by rw [z]; rfl
            have g2 : ¬ nI p < 8 := by rw [z]; decide
            rw [if_pos g1, if_neg g2]
          · have g1 : ¬ nI p = 8 := fun y => z ((nI_eq (a := p) (b := 8) (by omega) (by omega)).mp y)
            have g2 : nI p < 8 := nI_lt (b := 8) (by omega) (by omega)
            rw [if_neg g1, if_pos g2]
        · rw [if_neg q3, if_neg q3]
      · rw [if_neg q2, if_neg q2]
    · rw [if_neg q1, if_neg q1]
  · show INV (ms_put (s_strike f p t k s) 99 29 53 p 8 t k s)
    unfold ms_put
    rw [c28]
    unfold s_strike
    rw [a1]
    by_cases q1 : 0 ≤ t ∧ t ≤ 99
    · rw [if_pos q1, if_pos q1]
      by_cases q2 : 0 ≤ k ∧ k ≤ nI n - 1
      · rw [if_pos q2, if_pos q2]
        by_cases q3 : 0 ≤ s ∧ s ≤ 1
        · rw [if_pos q3, if_pos q3]
          by_cases z : p = 8
          · have g1 : nI p = 8 := by rw [z]; rfl
            have g2 : ¬ nI p < 8 := by rw [z]; decide
            rw [if_pos g1, if_neg g2]
            exact hI
          · have g1 : ¬ nI p = 8 := fun y => z ((nI_eq (a := p) (b := 8) (by omega) (by omega)).mp y)
            have g2 : nI p < 8 := nI_lt (b := 8) (by omega) (by omega)
            rw [if_neg g1, if_pos g2]
            have qt := rng_of (n := 99) (by omega) q1
            have qk := key_in (by omega) q2
            have qs := rng_of (n := 1) (by omega) q3
            generalize hg : pu4 (apF f 2 6 5 p t k s) 29 53 p t k s = f'
            unfold pu4 apF at hg
            have e : ∀ c' j, ¬ (c' = 8 ∧ j = p) → ¬ (c' = 9 ∧ j = p) → ¬ (c' = 10 ∧ j = p) → ¬ (c' = 2 ∧ j = 5) → ¬ (c' = 65 ∧ 29 + 3 * p ≤ j ∧ j < 29 + 3 * p + 3) → ¬ (c' = 65 ∧ j = 53) → f' c' j = f c' j := fun c' j x1 x2 x3 x4 x5 x6 => by
              rw [← hg, up2_ne (by omega), up2_ne (by omega), up2_ne (by omega), up2_ne (by omega), up2_ne (by omega), up2_ne (by omega), up2_ne (by omega), up2_ne (by omega)]
            have z5 : f' 2 5 = nI (p + 1) := by rw [← hg, up2_ne (by omega), up2_ne (by omega), up2_ne (by omega), up2_ne (by omega)]; exact up2_self _ _ _ _
            have z53 : f' 65 53 = nI (p + 1) := by rw [← hg]; exact up2_self _ _ _ _
            have z8 : f' 8 p = t := by rw [← hg, up2_ne (by omega), up2_ne (by omega), up2_ne (by omega), up2_ne (by omega), up2_ne (by omega), up2_ne (by omega), up2_ne (by omega)]; exact up2_self _ _ _ _
            have z9 : f' 9 p = k := by rw [← hg, up2_ne (by omega), up2_ne (by omega), up2_ne (by omega), up2_ne (by omega), up2_ne (by omega), up2_ne (by omega)]; exact up2_self _ _ _ _
            have z10 : f' 10 p = s := by rw [← hg, up2_ne (by omega), up2_ne (by omega), up2_ne (by omega), up2_ne (by omega), up2_ne (by omega)]; exact up2_self _ _ _ _
            have y0 : f' 65 (29 + 3 * p + 0) = t := by rw [← hg, up2_ne (by omega), up2_ne (by omega), up2_ne (by omega)]; exact up2_self _ _ _ _
            have y1 : f' 65 (29 + 3 * p + 1) = k := by rw [← hg, up2_ne (by omega), up2_ne (by omega)]; exact up2_self _ _ _ _
            have y2 : f' 65 (29 + 3 * p + 2) = s := by rw [← hg, up2_ne (by omega)]; exact up2_self _ _ _ _
            refine hI.bd (fun c j _ _ g1 g2 => e c j (by omega) (by omega) (by omega) (by omega) (by omega) (by omega)) ⟨n, p + 1, s', _, T, ⟨n4, by omega, s6, e1, e4, T9⟩, ⟨(e _ _ (by omega) (by omega) (by omega) (by omega) (by omega) (by omega)).trans a1, z5, (e _ _ (by omega) (by omega) (by omega) (by omega) (by omega) (by omega)).trans a3, (e _ _ (by omega) (by omega) (by omega) (by omega) (by omega) (by omega)).trans a4, (e _ _ (by omega) (by omega) (by omega) (by omega) (by omega) (by omega)).trans a5⟩, ⟨(e _ _ (by omega) (by omega) (by omega) (by omega) (by omega) (by omega)).trans b1, z53, (e _ _ (by omega) (by omega) (by omega) (by omega) (by omega) (by omega)).trans b3, (e _ _ (by omega) (by omega) (by omega) (by omega) (by omega) (by omega)).trans b4, (e _ _ (by omega) (by omega) (by omega) (by omega) (by omega) (by omega)).trans b5⟩, ?_, ?_, ?_⟩
            · exact BRk.cg hk (fun k _ => funext fun j => e _ _ (by omega) (by omega) (by omega) (by omega) (by omega) (by omega)) (fun j _ => e _ _ (by omega) (by omega) (by omega) (by omega) (by omega) (by omega))
            · refine BRp.sn (BRp.cg hp (Nat.le_refl _) (fun i _ => ⟨e _ _ (by omega) (by omega) (by omega) (by omega) (by omega) (by omega), e _ _ (by omega) (by omega) (by omega) (by omega) (by omega) (by omega), e _ _ (by omega) (by omega) (by omega) (by omega) (by omega) (by omega)⟩) (fun j _ _ => e _ _ (by omega) (by omega) (by omega) (by omega) (by omega) (by omega))) ⟨by rw [z8]; exact qt, by rw [z9]; exact qk, by rw [z10]; exact qs, ?_, ?_, ?_⟩
              · rw [Nat.zero_add, y0, z8]
              · rw [Nat.zero_add, y1, z9]
              · rw [Nat.zero_add, y2, z10]
            · exact BRs.cg hs (Nat.le_refl _) (fun i _ => ⟨e _ _ (by omega) (by omega) (by omega) (by omega) (by omega) (by omega), e _ _ (by omega) (by omega) (by omega) (by omega) (by omega) (by omega), e _ _ (by omega) (by omega) (by omega) (by omega) (by omega) (by omega)⟩) (fun j _ _ => e _ _ (by omega) (by omega) (by omega) (by omega) (by omega) (by omega))
        · rw [if_neg q3, if_neg q3]
          exact hI
      · rw [if_neg q2, if_neg q2]
        exact hI
    · rw [if_neg q1, if_neg q1]
      exact hI
theorem b_see (hI : INV f) (t k s : Int32) : Both V MX4_see MX5_see 9 [.int t, .int k, .int s] (f, τ) := by
  obtain ⟨n, p', p, e, T, hB⟩ := hI.1
  obtain ⟨⟨n4, s6, p8, e1, e4, T9⟩, ⟨a1, a3, a2, a4, a5⟩, ⟨b1, b3, b2, b4, b5⟩, hk, hs, hp⟩ := hB
  rw [Nat.zero_add] at b1 b2 b3 b4 b5
  have c56 : s_see f p t k s 65 56 = nI p := (s_see_o (by omega) (by omega) (by omega) (by omega)).trans b2
  have c28 : s_see f p t k s 65 28 = nI n := (s_see_o (by omega) (by omega) (by omega) (by omega)).trans b1
  refine Both.ff (f_X4_see (d := 7) p8 a2 t k s) (q_see (d := 7) p8 c56 t k s) ?_ ?_
  · unfold mr_put r_see
    rw [c28, a1]
    by_cases q1 : 0 ≤ t ∧ t ≤ 40
    · rw [if_pos q1, if_pos q1]
      by_cases q2 : 0 ≤ k ∧ k ≤ nI n - 1
      · rw [if_pos q2, if_pos q2]
        by_cases q3 : 0 ≤ s ∧ s ≤ 1
        · rw [if_pos q3, if_pos q3]
          by_cases z : p = 6
          · have g1 : nI p = 6 := by rw [z]; rfl
            have g2 : ¬ nI p < 6 := by rw [z]; decide
            rw [if_pos g1, if_neg g2]
          · have g1 : ¬ nI p = 6 := fun y => z ((nI_eq (a := p) (b := 6) (by omega) (by omega)).mp y)
            have g2 : nI p < 6 := nI_lt (b := 6) (by omega) (by omega)
            rw [if_neg g1, if_pos g2]
        · rw [if_neg q3, if_neg q3]
      · rw [if_neg q2, if_neg q2]
    · rw [if_neg q1, if_neg q1]
  · show INV (ms_put (s_see f p t k s) 40 57 56 p 6 t k s)
    unfold ms_put
    rw [c28]
    unfold s_see
    rw [a1]
    by_cases q1 : 0 ≤ t ∧ t ≤ 40
    · rw [if_pos q1, if_pos q1]
      by_cases q2 : 0 ≤ k ∧ k ≤ nI n - 1
      · rw [if_pos q2, if_pos q2]
        by_cases q3 : 0 ≤ s ∧ s ≤ 1
        · rw [if_pos q3, if_pos q3]
          by_cases z : p = 6
          · have g1 : nI p = 6 := by rw [z]; rfl
            have g2 : ¬ nI p < 6 := by rw [z]; decide
            rw [if_pos g1, if_neg g2]
            exact hI
          · have g1 : ¬ nI p = 6 := fun y => z ((nI_eq (a := p) (b := 6) (by omega) (by omega)).mp y)
            have g2 : nI p < 6 := nI_lt (b := 6) (by omega) (by omega)
            rw [if_neg g1, if_pos g2]
            have qt := rng_of (n := 40) (by omega) q1
            have qk := key_in (by omega) q2
            have qs := rng_of (n := 1) (by omega) q3
            generalize hg : pu4 (apF f 2 9 11 p t k s) 57 56 p t k s = f'
            unfold pu4 apF at hg
            have e : ∀ c' j, ¬ (c' = 11 ∧ j = p) → ¬ (c' = 12 ∧ j = p) → ¬ (c' = 13 ∧ j = p) → ¬ (c' = 2 ∧ j = 11) → ¬ (c' = 65 ∧ 57 + 3 * p ≤ j ∧ j < 57 + 3 * p + 3) → ¬ (c' = 65 ∧ j = 56) → f' c' j = f c' j := fun c' j x1 x2 x3 x4 x5 x6 => by
              rw [← hg, up2_ne (by omega), up2_ne (by omega), up2_ne (by omega), up2_ne (by omega), up2_ne (by omega), up2_ne (by omega), up2_ne (by omega), up2_ne (by omega)]
            have z5 : f' 2 11 = nI (p + 1) := by rw [← hg, up2_ne (by omega), up2_ne (by omega), up2_ne (by omega), up2_ne (by omega)]; exact up2_self _ _ _ _
            have z53 : f' 65 56 = nI (p + 1) := by rw [← hg]; exact up2_self _ _ _ _
            have z8 : f' 11 p = t := by rw [← hg, up2_ne (by omega), up2_ne (by omega), up2_ne (by omega), up2_ne (by omega), up2_ne (by omega), up2_ne (by omega), up2_ne (by omega)]; exact up2_self _ _ _ _
            have z9 : f' 12 p = k := by rw [← hg, up2_ne (by omega), up2_ne (by omega), up2_ne (by omega), up2_ne (by omega), up2_ne (by omega), up2_ne (by omega)]; exact up2_self _ _ _ _
            have z10 : f' 13 p = s := by rw [← hg, up2_ne (by omega), up2_ne (by omega), up2_ne (by omega), up2_ne (by omega), up2_ne (by omega)]; exact up2_self _ _ _ _
            have y0 : f' 65 (57 + 3 * p + 0) = t := by rw [← hg, up2_ne (by omega), up2_ne (by omega), up2_ne (by omega)]; exact up2_self _ _ _ _
            have y1 : f' 65 (57 + 3 * p + 1) = k := by rw [← hg, up2_ne (by omega), up2_ne (by omega)]; exact up2_self _ _ _ _
            have y2 : f' 65 (57 + 3 * p + 2) = s := by rw [← hg, up2_ne (by omega)]; exact up2_self _ _ _ _
            refine hI.bd (fun c j _ _ g1 g2 => e c j (by omega) (by omega) (by omega) (by omega) (by omega) (by omega)) ⟨n, p', p + 1, _, T, ⟨n4, s6, by omega, e1, e4, T9⟩, ⟨(e _ _ (by omega) (by omega) (by omega) (by omega) (by omega) (by omega)).trans a1, (e _ _ (by omega) (by omega) (by omega) (by omega) (by omega) (by omega)).trans a3, z5, (e _ _ (by omega) (by omega) (by omega) (by omega) (by omega) (by omega)).trans a4, (e _ _ (by omega) (by omega) (by omega) (by omega) (by omega) (by omega)).trans a5⟩, ⟨(e _ _ (by omega) (by omega) (by omega) (by omega) (by omega) (by omega)).trans b1, (e _ _ (by omega) (by omega) (by omega) (by omega) (by omega) (by omega)).trans b3, z53, (e _ _ (by omega) (by omega) (by omega) (by omega) (by omega) (by omega)).trans b4, (e _ _ (by omega) (by omega) (by omega) (by omega) (by omega) (by omega)).trans b5⟩, ?_, ?_, ?_⟩
            · exact BRk.cg hk (fun k _ => funext fun j => e _ _ (by omega) (by omega) (by omega) (by omega) (by omega) (by omega)) (fun j _ => e _ _ (by omega) (by omega) (by omega) (by omega) (by omega) (by omega))
            · exact BRp.cg hs (Nat.le_refl _) (fun i _ => ⟨e _ _ (by omega) (by omega) (by omega) (by omega) (by omega) (by omega), e _ _ (by omega) (by omega) (by omega) (by omega) (by omega) (by omega), e _ _ (by omega) (by omega) (by omega) (by omega) (by omega) (by omega)⟩) (fun j _ _ => e _ _ (by omega) (by omega) (by omega) (by omega) (by omega) (by omega))
            · refine BRs.sn (BRs.cg hp (Nat.le_refl _) (fun i _ => ⟨e _ _ (by omega) (by omega) (by omega) (by omega) (by omega) (by omega), e _ _ (by omega) (by omega) (by omega) (by omega) (by omega) (by omega), e _ _ (by omega) (by omega) (by omega) (by omega) (by omega) (by omega)⟩) (fun j _ _ => e _ _ (by omega) (by omega) (by omega) (by omega) (by omega) (by omega))) ⟨by rw [z8]; exact qt, by rw [z9]; exact qk, by rw [z10]; exact qs, ?_, ?_, ?_⟩
              · rw [Nat.zero_add, z8]; exact y0
              · rw [Nat.zero_add, y1, z9]
              · rw [Nat.zero_add, y2, z10]
        · rw [if_neg q3, if_neg q3]
          exact hI
      · rw [if_neg q2, if_neg q2]
        exact hI
    · rw [if_neg q1, if_neg q1]
      exact hI
end BS3
