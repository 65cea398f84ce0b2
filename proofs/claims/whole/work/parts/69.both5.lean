theorem imin_n {a b : Nat} (ha : a < 2 ^ 30) (hb : b < 2 ^ 30) : imin (nI a) (nI b) = nI (min a b) := by
  unfold imin
  by_cases q : b < a
  · rw [if_pos (nI_lt q (by omega)), Nat.min_eq_right (by omega)]
  · rw [if_neg (nI_nlt (by omega) (by omega)), Nat.min_eq_left (by omega)]
theorem may_iff (what v : Int32) : k_mayP what v ↔ (0 ≤ what ∧ what ≤ 2) ∧ lowI what ≤ v ∧ v ≤ mostI what := by
  constructor
  · rintro (⟨rfl, h⟩ | ⟨rfl, h⟩ | ⟨rfl, h⟩)
    · exact ⟨by decide, h⟩
    · exact ⟨by decide, h⟩
    · exact ⟨by decide, h⟩
  · rintro ⟨h1, h2⟩
    obtain ⟨u, hu, rfl⟩ := rng_of (n := 2) (by omega) h1
    rcases (show u = 0 ∨ u = 1 ∨ u = 2 by omega) with rfl | rfl | rfl
    · exact Or.inl ⟨rfl, h2⟩
    · exact Or.inr (Or.inl ⟨rfl, h2⟩)
    · exact Or.inr (Or.inr ⟨rfl, h2⟩)
theorem part_u {G : Nat → Int32} {u : Nat} (hu : u ≤ 2) : k_part G (nI u) = G u := by
  rcases (show u = 0 ∨ u = 1 ∨ u = 2 by omega) with rfl | rfl | rfl <;> rfl
theorem become_u {G : Nat → Int32} {u : Nat} {v : Int32} (hu : u ≤ 2) : k_become G (nI u) v = upd (upd G u v) 4 (imin (G 4) (upd G u v 2)) := by
  rcases (show u = 0 ∨ u = 1 ∨ u = 2 by omega) with rfl | rfl | rfl <;> rfl
theorem become_OK {G : Nat → Int32} {u : Nat} {v : Int32} (hu : u ≤ 2) (hG : kOK G) (hm : k_mayP (nI u) v) : kOK (upd (upd G u v) 4 (imin (G 4) (upd G u v 2))) ∧ clampI (G 4) (upd G u v 2) = imin (G 4) (upd G u v 2) := by
  obtain ⟨h0, h1, ⟨q, q1, q9, e2, s, hs, e4⟩, h3, h5, h6⟩ := hG
  have hm' := (may_iff _ _).mp hm
  rcases (show u = 0 ∨ u = 1 ∨ u = 2 by omega) with rfl | rfl | rfl
  · obtain ⟨w, hw, rfl⟩ := rng_of (n := 9) (by omega) hm'.2
    have r : upd G 0 (nI w) 2 = nI q := e2
    rw [r, e4, clamp_min (by omega) (by omega), imin_n (by omega) (by omega)]
    exact ⟨⟨⟨w, hw, rfl⟩, h1, ⟨q, q1, q9, e2, min s q, by omega, rfl⟩, h3, h5, h6⟩, rfl⟩
  · obtain ⟨w, hw, rfl⟩ := rng_of (n := 3) (by omega) hm'.2
    have r : upd G 1 (nI w) 2 = nI q := e2
    rw [r, e4, clamp_min (by omega) (by omega), imin_n (by omega) (by omega)]
    exact ⟨⟨h0, ⟨w, hw, rfl⟩, ⟨q, q1, q9, e2, min s q, by omega, rfl⟩, h3, h5, h6⟩, rfl⟩
  · have h19 : 1 ≤ v ∧ v ≤ 9 := hm'.2
    obtain ⟨w, hw, rfl⟩ := rng1_of (n := 9) (by omega) h19
    have hw1 : 1 ≤ w := (nI_leI (a := 1) (b := w) (by omega) (by omega)).mp h19.1
    have r : upd G 2 (nI w) 2 = nI w := rfl
    rw [r, e4, clamp_min (by omega) (by omega), imin_n (by omega) (by omega)]
    exact ⟨⟨h0, h1, ⟨w, hw1, hw, rfl, min s w, by omega, rfl⟩, h3, h5, h6⟩, rfl⟩
section BS5
variable {V : am_V} {f : Nat → Nat → Int32} {τ : Nat → Nat → Int64}
theorem b_alter (hI : INV f) (k what v : Int32) : Both V MX4_alter MX5_alter 9 [.int k, .int what, .int v] (f, τ) := by
  obtain ⟨n, p, s, e, T, hB⟩ := hI.1
  obtain ⟨⟨n4, p8, s6, e1, e4, T9⟩, ⟨a1, a2, a3, a4, a5⟩, ⟨b1, b2, b3, b4, b5⟩, hk, hp, hs⟩ := hB
  rw [Nat.zero_add] at b1 b2 b3 b4 b5
  have o65 : ∀ i, s_alter f k what v 65 i = f 65 i := by
    intro i
    unfold s_alter
    rw [a1]
    split
    · rename_i q1
      obtain ⟨j, hj, rfl⟩ := key_in (by omega) q1
      rw [nI_clamp (by omega)]
      split
      · rw [upk_ne (by omega)]
      · rfl
    · rfl
  refine Both.ff (f_X4_alter (d := 7) n4 a1 k what v) (q_alter (d := 7) n4 ((o65 28).trans b1) k what v) ?_ ?_
  · unfold mr_alter r_alter
    rw [o65, b1, a1]
    by_cases q1 : 0 ≤ k ∧ k ≤ nI n - 1
    · rw [if_pos q1, if_pos q1]
      by_cases q2 : k_mayP what v
      · have q3 := (may_iff _ _).mp q2
        rw [if_pos q2, if_pos q3.1, if_pos q3.2, o65]
        obtain ⟨j, hj, rfl⟩ := key_in (by omega) q1
        obtain ⟨u, hu, rfl⟩ := rng_of (n := 2) (by omega) q3.1
        rw [nI_clamp (by omega), nI_clamp (by omega), part_u hu]
        have g := (hk j hj).2 u (by omega)
        rw [Nat.zero_add] at g
        exact g
      · rw [if_neg q2]
        by_cases q3 : 0 ≤ what ∧ what ≤ 2
        · rw [if_pos q3, if_neg (fun z => q2 ((may_iff _ _).mpr ⟨q3, z⟩))]
        · rw [if_neg q3]
    · rw [if_neg q1, if_neg q1]
  · show INV (ms_alter (s_alter f k what v) k what v)
    unfold ms_alter
    rw [o65, b1]
    by_cases q1 : 0 ≤ k ∧ k ≤ nI n - 1
    · rw [if_pos q1]
      unfold s_alter
      rw [a1, if_pos q1]
      by_cases q2 : k_mayP what v
      · have q3 := (may_iff _ _).mp q2
        rw [if_pos q2, if_pos q3.1, if_pos q3.2]
        obtain ⟨j, hj, rfl⟩ := key_in (by omega) q1
        obtain ⟨u, hu, rfl⟩ := rng_of (n := 2) (by omega) q3.1
        rw [nI_clamp (by omega), nI_clamp (by omega), become_u hu]
        obtain ⟨hG, hrow⟩ := hk j hj
        obtain ⟨hK, hcl⟩ := become_OK hu hG q2
        have hr : ∀ i, i < 7 → f 65 (7 * j + i) = f (2 + 2 + j) i := fun i hi => by
          have g := hrow i hi
          rw [Nat.zero_add] at g
          exact g
        generalize hR : upd (upd (f (2 + 2 + j)) u v) 4 (imin (f (2 + 2 + j) 4) (upd (f (2 + 2 + j)) u v 2)) = R at hK ⊢
        generalize hg : alM (upk f (2 + 2 + j) R) j u v = f'
        unfold alM cuF at hg
        have g66 : ∀ i, i < 75 → stF (up2 (upk f (2 + 2 + j) R) 65 (7 * j + u) v) 66 i = up2 f 65 (7 * j + u) v 65 i := fun i hi => by
          rw [stF_66 hi]
          by_cases y : i = 7 * j + u
          · rw [y, up2_self, up2_self]
          · rw [up2_ne (by omega), up2_ne (by omega), upk_ne (by omega)]
        have eo : ∀ c i, c ≠ 65 → c ≠ 66 → c ≠ 70 → ¬ (c = 64 ∧ 15 ≤ i ∧ i ≤ 16) → f' c i = upk f (2 + 2 + j) R c i := fun c i x1 x2 x3 x4 => by
          rw [← hg, seF_o (by omega), up2_ne (by omega), stF_o ⟨by omega, by omega, by omega⟩, up2_ne (by omega)]
        have e65 : ∀ i, i < 75 → i ≠ 7 * j + 4 → f' 65 i = up2 f 65 (7 * j + u) v 65 i := fun i hi x1 => by
          rw [← hg, seF_65 hi, up2_ne (by omega), g66 i hi]
        have e65h : ∀ i, 75 ≤ i → f' 65 i = f 65 i := fun i hi => by
          rw [← hg, seF_o (by omega), up2_ne (by omega), stF_o ⟨by omega, by omega, by omega⟩, up2_ne (by omega), upk_ne (by omega)]
        have e4' : f' 65 (7 * j + 4) = R 4 := by
          rw [← hg, seF_65 (by omega), up2_self, g66 _ (by omega), g66 _ (by omega), up2_ne (by omega), hr 4 (by omega)]
          have l2 : up2 f 65 (7 * j + u) v 65 (7 * j + 2) = upd (f (2 + 2 + j)) u v 2 := by
            by_cases y : u = 2
            · subst y
              rw [up2_self]
              rfl
            · rw [up2_ne (by omega), hr 2 (by omega)]
              unfold upd
              rw [if_neg (by omega)]
          rw [l2, hcl, ← hR]
          rfl
        have e65o : ∀ i, ¬ (7 * j ≤ i ∧ i < 7 * j + 7) → f' 65 i = f 65 i := fun i hi => by
          by_cases y : i < 75
          · rw [e65 i y (by omega), up2_ne (by omega)]
          · exact e65h i (by omega)
        have eo' : ∀ c i, c ≠ 2 + 2 + j → c ≠ 65 → c ≠ 66 → c ≠ 70 → ¬ (c = 64 ∧ 15 ≤ i ∧ i ≤ 16) → f' c i = f c i := fun c i x0 x1 x2 x3 x4 => by
          rw [eo c i x1 x2 x3 x4, upk_ne x0]
        have eR : f' (2 + 2 + j) = R := funext fun i => by rw [eo _ _ (by omega) (by omega) (by omega) (by omega), upk_at]
        refine hI.bd (fun c i g1 g3 g2 g4 => ?_) ⟨n, p, s, _, T, ⟨n4, p8, s6, e1, e4, T9⟩, ⟨(eo' _ _ (by omega) (by omega) (by omega) (by omega) (by omega)).trans a1, (eo' _ _ (by omega) (by omega) (by omega) (by omega) (by omega)).trans a2, (eo' _ _ (by omega) (by omega) (by omega) (by omega) (by omega)).trans a3, (eo' _ _ (by omega) (by omega) (by omega) (by omega) (by omega)).trans a4, (eo' _ _ (by omega) (by omega) (by omega) (by omega) (by omega)).trans a5⟩, ⟨(e65o _ (by omega)).trans b1, (e65o _ (by omega)).trans b2, (e65o _ (by omega)).trans b3, (e65o _ (by omega)).trans b4, (e65o _ (by omega)).trans b5⟩, fun k' hk' => ?_, ?_, ?_⟩
        · by_cases y : c = 65
          · subst y; exact e65o i (by omega)
          · exact eo' c i (by omega) y (by omega) (by omega) (by omega)
        · by_cases y : k' = j
          · subst y
            rw [eR]
            refine ⟨hK, fun i hi => ?_⟩
            rw [Nat.zero_add]
            by_cases y4 : i = 4
            · rw [y4]; exact e4'
            · rw [e65 _ (by omega) (by omega), ← hR]
              unfold upd
              rw [if_neg y4]
              by_cases yu : i = u
              · rw [if_pos yu, yu, up2_self]
              · rw [if_neg yu, up2_ne (by omega), hr i hi]
          · rw [show f' (2 + 2 + k') = f (2 + 2 + k') from funext fun i => eo' _ _ (by omega) (by omega) (by omega) (by omega) (by omega)]
            exact ⟨(hk k' hk').1, fun i hi => (e65o _ (by omega)).trans ((hk k' hk').2 i hi)⟩
        · exact BRp.cg hp (Nat.le_refl _) (fun i _ => ⟨eo' _ _ (by omega) (by omega) (by omega) (by omega) (by omega), eo' _ _ (by omega) (by omega) (by omega) (by omega) (by omega), eo' _ _ (by omega) (by omega) (by omega) (by omega) (by omega)⟩) (fun i _ _ => e65o _ (by omega))
        · exact BRs.cg hs (Nat.le_refl _) (fun i _ => ⟨eo' _ _ (by omega) (by omega) (by omega) (by omega) (by omega), eo' _ _ (by omega) (by omega) (by omega) (by omega) (by omega), eo' _ _ (by omega) (by omega) (by omega) (by omega) (by omega)⟩) (fun i _ _ => e65o _ (by omega))
      · rw [if_neg q2]
        split
        · rename_i q3
          rw [if_neg (fun z => q2 ((may_iff _ _).mpr ⟨q3, z⟩))]
          exact hI
        · exact hI
    · rw [if_neg q1]
      unfold s_alter
      rw [a1, if_neg q1]
      exact hI
theorem tk0_Bd {n p e T s : Nat} (hB : BR f 2 0 n p s e T) : isBd 2 n p (f 9) (f 8) (f 10) (nI e) (K0 f) (nI T) (s_tk0 f n) := by
  obtain ⟨⟨n4, p8, s6, e1, e4, T9⟩, ⟨a1, a2, a3, a4, a5⟩, -, hk, hp, hs⟩ := hB
  unfold s_tk0
  refine ⟨?_, ?_, ?_, ?_, fun k hk => ?_, fun i hi => ?_⟩
  · rw [upn_out (by omega)]; exact a1
  · rw [upn_out (by omega)]; exact a2
  · rw [upn_out (by omega)]; exact a4
  · rw [upn_out (by omega)]; exact a5
  · rw [upn_in hk]
    intro j hj
    unfold K0 k_start kst upd
    rw [Nat.mod_eq_of_lt (show k < 4 by omega)]
    by_cases q8 : j = 8
    · rw [if_pos q8, if_neg (by omega)]
    · rw [if_neg q8]
      by_cases q7 : j = 7
      · rw [if_pos q7, if_neg (by omega)]
      · rw [if_neg q7, if_pos (by omega)]
  · rw [upn_out (by omega), upn_out (by omega), upn_out (by omega)]
    exact ⟨rfl, rfl, rfl⟩
theorem b_ticks (hI : INV f) (x : Int32) : Both V MX4_ticks MX5_ticks 9 [.int x] (f, τ) := by
  obtain ⟨n, p, s, e, T, hB⟩ := hI.1
  have hB0 := hB
  have hbm := BR_BM hB
  obtain ⟨⟨n4, p8, s6, e1, e4, T9⟩, ⟨a1, a2, a3, a4, a5⟩, ⟨b1, b2, b3, b4, b5⟩, hk, hp, hs⟩ := hB
  rw [Nat.zero_add] at b1 b2 b3 b4 b5
  have out : ∀ N c, (c < 2 ∨ c = 3 ∨ 8 ≤ c) → advF (s_tk0 f n) 2 n p N c = f c := fun N c h => by
    rw [advF_out (by omega)]
    unfold s_tk0
    rw [upn_out (by omega)]
  have o65 : s_ticks f n p x 65 = f 65 := by
    unfold s_ticks
    split
    · split
      · exact out _ 65 (by omega)
      · rfl
    · rfl
  have hbm1 : BM (s_ticks f n p x) n p (f 9) (f 8) (f 10) e (K0 f) T := by
    unfold BM at hbm ⊢
    rw [o65]
    exact hbm
  refine (f_X4_ticks (d := 4) n4 a1 p8 a2 x).gi ((n_ticks (d := 3) hbm1 x).mono ?_)
  rintro y S' (⟨N, rfl, hN, hTN, rfl, f', rfl, t1, t2, t3, t4⟩ | ⟨g0, g1, g2, rfl, rfl⟩ | ⟨g0, rfl, rfl⟩)
  · have gx : (0 : Int32) ≤ nI N ∧ nI N ≤ 100 := ⟨nI_pos' (by omega), nI_le (b := 100) hN (by omega)⟩
    have gt : f 2 7 + nI N ≤ 999 := by rw [a5, nI_add]; exact nI_le (b := 999) hTN (by omega)
    have es : s_ticks f n p (nI N) = advF (s_tk0 f n) 2 n p N := by unfold s_ticks; rw [if_pos gx, if_pos gt, nI_clamp (by omega)]
    have hBd := advF_Bd n4 p8 (tk0_Bd hB0) N
    constructor
    · unfold r_ticks
      rw [if_pos gx, if_pos gt, nI_clamp (by omega)]
      exact (Bd_sum hBd (by omega)).symm
    · show INV f'
      rw [es] at t1 t2
      obtain ⟨d1, d2, d3, d4, d5, -⟩ := hBd
      have eo : ∀ c q, (c < 2 ∨ c = 3 ∨ 8 ≤ c) → c ≠ 65 → c ≠ 66 → c ≠ 70 → c ≠ 71 → c ≠ 72 → c ≠ 76 → ¬ (c = 64 ∧ 15 ≤ q ∧ q ≤ 18) → f' c q = f c q := fun c q x0 x1 x2 x3 x4 x5 x6 x7 => by
        rw [t1 c q x1 x2 x3 x4 x5 x6 x7, out N c x0]
      have e65 : ∀ q, 28 ≤ q → q ≠ 55 → f' 65 q = f 65 q := fun q x0 x1 => by rw [t2 q x0 x1, out N 65 (by omega)]
      have e2 : ∀ q, f' 2 q = advF (s_tk0 f n) 2 n p N 2 q := fun q => t1 2 q (by omega) (by omega) (by omega) (by omega) (by omega) (by omega) (by omega)
      have e2s : f' 2 11 = nI s := by
        rw [e2, advF_b (by omega)]
        unfold s_tk0
        rw [upn_out (by omega)]
        exact a3
      have hap : ∀ k, k < n → ∀ j, j < 9 → f' (2 + 2 + k) j = (avK (f 9) (f 8) (f 10) n p (nI e) (K0 f) (nI T) N).1 k j := fun k hk j hj => by
        rw [t1 _ _ (by omega) (by omega) (by omega) (by omega) (by omega) (by omega) (by omega)]
        exact d5 k hk j hj
      refine hI.bd (fun c i g1 g3 g2 g4 => ?_) ⟨n, p, s, e, T + N, ⟨n4, p8, s6, e1, e4, hTN⟩, ⟨(e2 _).trans d1, (e2 _).trans d2, e2s, (e2 _).trans d3, (e2 _).trans (d4.trans (avK_t N))⟩, ⟨(e65 _ (by omega) (by omega)).trans b1, (e65 _ (by omega) (by omega)).trans b2, (e65 _ (by omega) (by omega)).trans b3, (e65 _ (by omega) (by omega)).trans b4, t3⟩, fun k hk1 => ⟨(t4 k hk1).1.cg (fun j hj => hap k hk1 j (by omega)), fun j hj => ?_⟩, ?_, ?_⟩
      · by_cases y : c = 65
        · subst y; exact e65 i (by omega) (by omega)
        · exact eo c i (by omega) y (by omega) (by omega) (by omega) (by omega) (by omega) (by omega)
      · rw [Nat.zero_add, hap k hk1 j (by omega)]
        exact (t4 k hk1).2 j hj
      · exact BRp.cg hp (Nat.le_refl _) (fun i _ => ⟨eo _ _ (by omega) (by omega) (by omega) (by omega) (by omega) (by omega) (by omega) (by omega), eo _ _ (by omega) (by omega) (by omega) (by omega) (by omega) (by omega) (by omega) (by omega), eo _ _ (by omega) (by omega) (by omega) (by omega) (by omega) (by omega) (by omega) (by omega)⟩) (fun i _ _ => e65 _ (by omega) (by omega))
      · exact BRs.cg hs (Nat.le_refl _) (fun i _ => ⟨eo _ _ (by omega) (by omega) (by omega) (by omega) (by omega) (by omega) (by omega) (by omega), eo _ _ (by omega) (by omega) (by omega) (by omega) (by omega) (by omega) (by omega) (by omega), eo _ _ (by omega) (by omega) (by omega) (by omega) (by omega) (by omega) (by omega) (by omega)⟩) (fun i _ _ => e65 _ (by omega) (by omega))
  · rw [← a5] at g2
    have es : s_ticks f n p x = f := by unfold s_ticks; rw [if_pos ⟨g0, g1⟩, if_neg g2]
    constructor
    · unfold r_ticks
      rw [if_pos ⟨g0, g1⟩, if_neg g2]
    · show INV (s_ticks f n p x)
      rw [es]
      exact hI
  · have es : s_ticks f n p x = f := by unfold s_ticks; rw [if_neg g0]
    constructor
    · unfold r_ticks
      rw [if_neg g0]
    · show INV (s_ticks f n p x)
      rw [es]
      exact hI
end BS5
