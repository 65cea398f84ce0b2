/-! THE MODEL'S SIEVES ARE THE PURE ONES -/
def eq8 (g' g : Nat → Int32) : Prop := ∀ j, j < 8 → g' j = g j
theorem eq8_upd {g' g : Nat → Int32} (h : eq8 g' g) (k : Nat) (x : Int32) : eq8 (upd g' k x) (upd g k x) := by
  intro j hj
  unfold upd
  by_cases q : j = k
  · rw [if_pos q, if_pos q]
  · rw [if_neg q, if_neg q, h j hj]
/-- what a key's row may hold -/
def kOK (g : Nat → Int32) : Prop := (∃ q, q ≤ 9 ∧ g 0 = nI q) ∧ (∃ q, q ≤ 3 ∧ g 1 = nI q) ∧ (∃ q, 1 ≤ q ∧ q ≤ 9 ∧ g 2 = nI q ∧ ∃ s, s ≤ q ∧ g 4 = nI s) ∧ (∃ q, q ≤ 1 ∧ g 3 = nI q) ∧ (∃ q, q ≤ 9 ∧ g 5 = nI q) ∧ (∃ q, q ≤ 999 ∧ g 6 = nI q)
theorem clamp_min {a m : Nat} (ha : a < 2 ^ 30) (hm : m < 2 ^ 30) : clampI (nI a) (nI m) = imin (nI a) (nI m) := by
  unfold clampI imin
  rw [if_pos (nI_pos' (by omega))]
  by_cases q : a ≤ m
  · rw [if_pos (nI_le q (by omega)), if_neg (nI_nlt q (by omega))]
  · rw [if_neg (fun z => q ((nI_leI (by omega) (by omega)).mp z)), if_pos (nI_lt (by omega) (by omega))]
theorem m_say_rel {g' g : Nat → Int32} (h : eq8 g' g) (hst : ∃ q, q ≤ 999 ∧ g 6 = nI q) (v : Int32) : eq8 (m_say g' v) (k_say g v) ∧ m_say g' v 8 + g 8 = k_say g v 8 + g' 8 := by
  obtain ⟨q, hq, eq⟩ := hst
  have ec : clampI (g 6 + 1) 999 = imin (g 6 + 1) 999 := by
    rw [eq, nI_1]
    exact clamp_min (m := 999) (by omega) (by omega)
  unfold m_say k_say
  rw [h 3 (by decide), h 7 (by decide), h 6 (by decide), ec]
  by_cases q1 : v = g 3
  · rw [if_pos q1, if_pos q1.symm]
    exact ⟨h, Int32.add_comm _ _⟩
  · rw [if_neg q1, if_neg (fun z => q1 z.symm)]
    by_cases q2 : v = 1
    · rw [if_pos q2, if_pos q2]
      refine ⟨fun j hj => ?_, ?_⟩
      · unfold upd
        by_cases z6 : j = 6
        · rw [if_pos z6, if_pos z6]
        · rw [if_neg z6, if_neg z6]
          by_cases z7 : j = 7
          · rw [if_pos z7, if_pos z7]
          · rw [if_neg z7, if_neg z7, if_neg (show ¬ j = 8 by omega), if_neg (show ¬ j = 8 by omega)]
            by_cases z3 : j = 3
            · rw [if_pos z3, if_pos z3]
            · rw [if_neg z3, if_neg z3, h j hj]
      · show g' 8 + 1 + g 8 = g 8 + 1 + g' 8
        rw [Int32.add_assoc, Int32.add_comm (g' 8), Int32.add_comm 1]
    · rw [if_neg q2, if_neg q2]
      refine ⟨fun j hj => ?_, ?_⟩
      · unfold upd
        by_cases z3 : j = 3
        · rw [if_pos z3, if_neg (show ¬ j = 8 by omega), if_pos z3]
        · rw [if_neg z3, if_neg (show ¬ j = 8 by omega), if_neg (show ¬ j = 8 by omega), if_neg z3, h j hj]
      · show g' 8 + 1 + g 8 = g 8 + 1 + g' 8
        rw [Int32.add_assoc, Int32.add_comm (g' 8), Int32.add_comm 1]
theorem m_sum_rel {g' g : Nat → Int32} (h : eq8 g' g) (hk : kOK g) {c : Int32} (hc : c = 0 ∨ c = 1) : m_sum g' c = k_sum g c := by
  obtain ⟨-, -, ⟨q, hq1, hq9, e2, s, hs, e4⟩, -⟩ := hk
  unfold m_sum k_sum
  rw [h 4 (by decide), h 2 (by decide), e2, e4]
  rcases hc with rfl | rfl
  · rw [if_neg (by decide), if_neg (by decide)]
    unfold clampI imax
    rcases (show s = 0 ∨ 0 < s by omega) with rfl | hs0
    · rw [if_neg (by decide), if_pos (by decide)]
    · rw [show nI s + -1 = nI (s - 1) from sb_m1 hs0, show nI s - 1 = nI (s - 1) from pk_sub (a := s) (b := 1) (by omega), if_pos (nI_pos' (by omega)), if_pos (nI_le (by omega) (by omega)), if_neg (nI_pos (by omega))]
  · rw [if_pos rfl, if_pos rfl, nI_1]
    exact clamp_min (by omega) (by omega)
theorem k_say_upd {g : Nat → Int32} {i : Nat} (hi : i = 4 ∨ i = 5) (x v : Int32) : k_say (upd g i x) v = upd (k_say g v) i x := by
  have r3 : upd g i x 3 = g 3 := by unfold upd; rw [if_neg (by omega)]
  have r6 : upd g i x 6 = g 6 := by unfold upd; rw [if_neg (by omega)]
  have r7 : upd g i x 7 = g 7 := by unfold upd; rw [if_neg (by omega)]
  have r8 : upd g i x 8 = g 8 := by unfold upd; rw [if_neg (by omega)]
  have cm : ∀ (a : Nat → Int32) (k : Nat) (y : Int32), k ≠ i → upd (upd a i x) k y = upd (upd a k y) i x := by
    intro a k y hk
    funext j
    unfold upd
    by_cases q : j = k
    · rw [if_pos q, if_neg (by omega), if_pos q]
    · rw [if_neg q]
      by_cases q2 : j = i
      · rw [if_pos q2, if_pos q2]
      · rw [if_neg q2, if_neg q2, if_neg q]
  unfold k_say
  rw [r3, r6, r7, r8]
  by_cases q1 : v = g 3
  · rw [if_pos q1, if_pos q1]
  · rw [if_neg q1, if_neg q1]
    by_cases q2 : v = 1
    · rw [if_pos q2, if_pos q2, cm _ 3 _ (by omega), cm _ 8 _ (by omega), cm _ 7 _ (by omega), cm _ 6 _ (by omega)]
    · rw [if_neg q2, if_neg q2, cm _ 3 _ (by omega), cm _ 8 _ (by omega)]
theorem k_say_same (g : Nat → Int32) : k_say g (g 3) = g := if_pos rfl
theorem k_say_j {g : Nat → Int32} {v : Int32} {j : Nat} (hj : j = 0 ∨ j = 1 ∨ j = 2 ∨ j = 4 ∨ j = 5) : k_say g v j = g j := by
  unfold k_say
  split
  · rfl
  · split
    · show upd (upd (upd (upd g 3 v) 8 (g 8 + 1)) 7 (g 7 + 1)) 6 (imin (g 6 + 1) 999) j = g j
      unfold upd
      rw [if_neg (by omega), if_neg (by omega), if_neg (by omega), if_neg (by omega)]
    · show upd (upd g 3 v) 8 (g 8 + 1) j = g j
      unfold upd
      rw [if_neg (by omega), if_neg (by omega)]
theorem k_say_3 {g : Nat → Int32} {v : Int32} : k_say g v 3 = v := by
  unfold k_say
  by_cases q : v = g 3
  · rw [if_pos q]; exact q.symm
  · rw [if_neg q]
    split <;> rfl
theorem k_say_OK {g : Nat → Int32} (hk : kOK g) {v : Int32} (hv : ∃ q, q ≤ 1 ∧ v = nI q) : kOK (k_say g v) := by
  obtain ⟨h0, h1, h2, h3, h5, q, hq, e6⟩ := hk
  refine ⟨by rw [k_say_j (by omega)]; exact h0, by rw [k_say_j (by omega)]; exact h1, by rw [k_say_j (j := 2) (by omega), k_say_j (j := 4) (by omega)]; exact h2, by rw [k_say_3]; exact hv, by rw [k_say_j (by omega)]; exact h5, ?_⟩
  unfold k_say
  split
  · exact ⟨q, hq, e6⟩
  · split
    · show ∃ z, z ≤ 999 ∧ imin (g 6 + 1) 999 = nI z
      rw [e6, nI_1, show (999 : Int32) = nI 999 from rfl]
      unfold imin
      by_cases z : 999 < q + 1
      · rw [if_pos (nI_lt (a := 999) z (by omega))]
        exact ⟨999, Nat.le_refl _, rfl⟩
      · rw [if_neg (nI_nlt (a := 999) (by omega) (by omega))]
        exact ⟨q + 1, by omega, rfl⟩
    · exact ⟨q, hq, e6⟩
theorem k_sum_OK {g : Nat → Int32} (hk : kOK g) {c : Int32} : ∃ q s, 1 ≤ q ∧ q ≤ 9 ∧ g 2 = nI q ∧ s ≤ q ∧ k_sum g c = nI s := by
  obtain ⟨-, -, ⟨q, hq1, hq9, e2, s, hs, e4⟩, -⟩ := hk
  unfold k_sum
  rw [e2, e4]
  by_cases hc : c = 1
  · rw [if_pos hc, nI_1]
    unfold imin
    by_cases z : q < s + 1
    · rw [if_pos (nI_lt z (by omega))]
      exact ⟨q, q, hq1, hq9, rfl, Nat.le_refl _, rfl⟩
    · rw [if_neg (nI_nlt (by omega) (by omega))]
      exact ⟨q, s + 1, hq1, hq9, rfl, by omega, rfl⟩
  · rw [if_neg hc]
    unfold imax
    rcases (show s = 0 ∨ 0 < s by omega) with rfl | hs0
    · rw [if_pos (by decide)]
      exact ⟨q, 0, hq1, hq9, rfl, by omega, rfl⟩
    · rw [show nI s - 1 = nI (s - 1) from pk_sub (a := s) (b := 1) (by omega), if_neg (nI_pos (by omega))]
      exact ⟨q, s - 1, hq1, hq9, rfl, by omega, rfl⟩
theorem upd4_OK {g : Nat → Int32} (hk : kOK g) {x : Int32} (hx : ∃ q s, 1 ≤ q ∧ q ≤ 9 ∧ g 2 = nI q ∧ s ≤ q ∧ x = nI s) : kOK (upd g 4 x) := by
  obtain ⟨h0, h1, -, h3, h5, h6⟩ := hk
  obtain ⟨q, s, a1, a2, a3, a4, a5⟩ := hx
  exact ⟨h0, h1, ⟨q, a1, a2, a3, s, a4, a5⟩, h3, h5, h6⟩
theorem upd5_OK {g : Nat → Int32} (hk : kOK g) {x : Int32} (hx : ∃ q, q ≤ 9 ∧ x = nI q) : kOK (upd g 5 x) := by
  obtain ⟨h0, h1, h2, h3, -, h6⟩ := hk
  exact ⟨h0, h1, h2, h3, hx, h6⟩
theorem m_look_rel {g' g : Nat → Int32} (h : eq8 g' g) (hk : kOK g) {c : Int32} (hc : c = 0 ∨ c = 1) : eq8 (m_look g' c) (k_look g c) ∧ m_look g' c 8 + g 8 = k_look g c 8 + g' 8 ∧ kOK (k_look g c) := by
  have hk0 := hk
  obtain ⟨-, ⟨kd, hkd, e1⟩, ⟨q, hq1, hq9, e2, s, hs, e4⟩, ⟨sy, hsy, e3⟩, ⟨r, hr, e5⟩, hst⟩ := hk
  have hcn : ∃ q, q ≤ 1 ∧ c = nI q := by
    rcases hc with rfl | rfl
    · exact ⟨0, by omega, rfl⟩
    · exact ⟨1, by omega, rfl⟩
  unfold m_look k_look
  rw [h 5 (by decide), h 1 (by decide)]
  by_cases q5 : 0 < g 5
  · rw [if_pos q5, if_neg (fun z => absurd q5 (Int32.not_lt.mpr z))]
    refine ⟨eq8_upd h _ _, Int32.add_comm _ _, upd5_OK hk0 ?_⟩
    rw [e5] at q5 ⊢
    have hr0 : 0 < r := by
      rcases (show r = 0 ∨ 0 < r by omega) with rfl | z
      · exact absurd q5 (by decide)
      · exact z
    exact ⟨r - 1, by omega, pk_sub (a := r) (b := 1) (by omega)⟩
  · rw [if_neg q5, if_pos (Int32.not_lt.mp q5)]
    by_cases qk : g 1 = 1
    · rw [if_pos qk, if_pos qk]
      have es := m_sum_rel h hk0 hc
      have h4 : eq8 (upd g' 4 (k_sum g c)) (upd g 4 (k_sum g c)) := eq8_upd h _ _
      have hk4 := upd4_OK hk0 (k_sum_OK hk0 (c := c))
      unfold m_weigh k_weigh k_weighR
      rw [es, h 2 (by decide)]
      by_cases z1 : k_sum g c = g 2
      · rw [if_pos z1, if_pos z1]
        have e := m_say_rel h4 hst 1
        exact ⟨e.1, e.2, k_say_OK hk4 ⟨1, by omega, rfl⟩⟩
      · rw [if_neg z1, if_neg z1]
        by_cases z0 : k_sum g c = 0
        · rw [if_pos z0, if_pos z0]
          have e := m_say_rel h4 hst 0
          exact ⟨e.1, e.2, k_say_OK hk4 ⟨0, by omega, rfl⟩⟩
        · rw [if_neg z0, if_neg z0]
          have e : k_say (upd g 4 (k_sum g c)) (g 3) = upd g 4 (k_sum g c) := k_say_same (upd g 4 (k_sum g c))
          rw [e]
          exact ⟨h4, Int32.add_comm _ _, hk4⟩
    · rw [if_neg qk, if_neg qk]
      unfold m_count k_comp k_compR
      have ew : m_wants g' = k_wants g := by
        unfold m_wants k_wants
        rw [h 1 (by decide), h 2 (by decide)]
      rw [ew, h 3 (by decide), h 4 (by decide)]
      by_cases z1 : c = g 3
      · rw [if_pos z1, if_pos z1, if_pos z1]
        have e : k_say (upd g 4 0) (g 3) = upd g 4 0 := k_say_same (upd g 4 0)
        rw [e]
        exact ⟨eq8_upd h _ _, Int32.add_comm _ _, upd4_OK hk0 ⟨q, 0, hq1, hq9, e2, by omega, rfl⟩⟩
      · rw [if_neg z1, if_neg z1, if_neg z1]
        by_cases z2 : g 4 + 1 < k_wants g
        · rw [if_pos z2, if_pos z2, if_pos z2]
          have e : k_say (upd g 4 (g 4 + 1)) (g 3) = upd g 4 (g 4 + 1) := k_say_same (upd g 4 (g 4 + 1))
          rw [e]
          refine ⟨eq8_upd h _ _, Int32.add_comm _ _, upd4_OK hk0 ⟨q, s + 1, hq1, hq9, e2, ?_, by rw [e4, nI_1]⟩⟩
          unfold k_wants at z2
          rw [e4, nI_1, e2] at z2
          by_cases zk : g 1 = 2
          · rw [if_pos zk] at z2
            have := (nI_ltI (a := s + 1) (b := 1) (by omega) (by omega)).mp z2
            omega
          · rw [if_neg zk] at z2
            have := (nI_ltI (a := s + 1) (b := q) (by omega) (by omega)).mp z2
            omega
        · rw [if_neg z2, if_neg z2, if_neg z2]
          have hG : eq8 (upd g' 4 (g 4 + 1)) (upd g 4 (g 4 + 1)) := eq8_upd h _ _
          have e := m_say_rel hG hst c
          have esh : m_shuts (upd (m_say (upd g' 4 (g 4 + 1)) c) 4 0) = if g 1 = 0 then 0 else g 2 := by
            have r1 : upd (m_say (upd g' 4 (g 4 + 1)) c) 4 0 1 = g 1 := by
              show m_say (upd g' 4 (g 4 + 1)) c 1 = g 1
              rw [e.1 1 (by decide), k_say_j (by omega)]
              rfl
            have r2 : upd (m_say (upd g' 4 (g 4 + 1)) c) 4 0 2 = g 2 := by
              show m_say (upd g' 4 (g 4 + 1)) c 2 = g 2
              rw [e.1 2 (by decide), k_say_j (by omega)]
              rfl
            unfold m_shuts
            rw [r1, r2, e1]
            rcases (show kd = 0 ∨ kd = 1 ∨ kd = 2 ∨ kd = 3 by omega) with rfl | rfl | rfl | rfl
            · rw [if_neg (by decide), if_neg (by decide), if_pos (show nI 0 = 0 from rfl)]
            · exact absurd e1 qk
            · rw [if_pos (show nI 2 = 2 from rfl), if_neg (by decide)]
            · rw [if_neg (by decide), if_pos (show nI 3 = 3 from rfl), if_neg (by decide)]
          rw [esh, k_say_upd (Or.inr rfl), k_say_upd (Or.inl rfl)]
          refine ⟨eq8_upd (eq8_upd e.1 _ _) _ _, e.2, ?_⟩
          have hk1 : kOK (upd (upd (upd g 4 (g 4 + 1)) 4 0) 5 (if g 1 = 0 then 0 else g 2)) := by
            refine ⟨hk0.1, hk0.2.1, ⟨q, hq1, hq9, e2, 0, by omega, rfl⟩, hk0.2.2.2.1, ?_, hst⟩
            show ∃ z, z ≤ 9 ∧ (if g 1 = 0 then 0 else g 2) = nI z
            split
            · exact ⟨0, by omega, rfl⟩
            · exact ⟨q, hq9, e2⟩
          have := k_say_OK hk1 hcn
          rw [k_say_upd (Or.inr rfl), k_say_upd (Or.inl rfl)] at this
          exact this
theorem and1 (x : Int32) : x &&& 1 = 0 ∨ x &&& 1 = 1 := by
  obtain ⟨j, hj, e⟩ := pk_andE x (m := 1) 1 rfl
  rcases (show j = 0 ∨ j = 1 by omega) with rfl | rfl
  · exact Or.inl e
  · exact Or.inr e
