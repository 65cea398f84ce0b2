/-- what is told keeps its bounds -/
def PO (s : pst) : Prop :=
  (s.2.1 ≤ 4 ∧ s.2.2.1 ≤ 8) ∧ (s.1 28 = nI s.2.1 ∧ s.1 53 = nI s.2.2.1 ∧ s.1 55 = 0 ∧ s.1 56 = 0) ∧ (∃ e, 1 ≤ e ∧ e ≤ 4 ∧ s.1 54 = nI e) ∧
  (∀ k, k < s.2.1 → (∃ q, q ≤ 9 ∧ s.1 (7 * k + 0) = nI q) ∧ (∃ q, q ≤ 3 ∧ s.1 (7 * k + 1) = nI q) ∧ (∃ q, 1 ≤ q ∧ q ≤ 9 ∧ s.1 (7 * k + 2) = nI q)) ∧
  (∀ k j, k < 4 → 3 ≤ j → j < 7 → s.1 (7 * k + j) = 0) ∧
  (∀ i, i < s.2.2.1 → (∃ q, q ≤ 99 ∧ s.1 (29 + 3 * i + 0) = nI q) ∧ (∃ q, q ≤ 1 ∧ s.1 (29 + 3 * i + 2) = nI q))
theorem PO_0 : PO ps0 := by
  refine ⟨⟨by decide, by decide⟩, ⟨rfl, rfl, rfl, rfl⟩, ⟨1, by omega, by omega, rfl⟩, fun k hk => absurd hk (Nat.not_lt_zero _), fun k j h1 h2 h3 => ?_, fun i hi => absurd hi (Nat.not_lt_zero _)⟩
  show upd (fun _ => (0 : Int32)) 54 1 (7 * k + j) = 0
  rw [upd_ne (by omega)]
theorem PO_step {s : pst} {ch : Nat → Int32} {q p' : Nat} (h : PO s) (hp' : pL ch q s.2.1 s.2.2.1 s.2.2.2 = .inl p') : PO (pStep ch q s) := by
  obtain ⟨⟨n4, p8⟩, ⟨h28, h53, h55, h56⟩, h54, hk, hz, hp⟩ := h
  obtain ⟨g0, g5, g4, gk⟩ := pL_lt hp'
  unfold pStep
  by_cases z5 : lnN ch q = 5
  · rw [if_pos z5]
    obtain ⟨-, r, hr⟩ := g5 z5
    have hv : 1 ≤ (pEv ch q).1 ∧ (pEv ch q).1 ≤ 4 := pNum_in hr
    obtain ⟨e, he, ev⟩ := rng1_of (n := 4) (by omega) hv
    have he1 : 1 ≤ e := (nI_leI (a := 1) (b := e) (by omega) (by omega)).mp (by rw [← ev]; exact hv.1)
    have hD : ∀ j, j ≠ 54 → upd s.1 54 (pEv ch q).1 j = s.1 j := fun j a => upd_ne a
    have hE : upd s.1 54 (pEv ch q).1 54 = nI e := (upd_eq _ _ _).trans ev
    refine ⟨⟨n4, p8⟩, ⟨(hD _ (by omega)).trans h28, (hD _ (by omega)).trans h53, (hD _ (by omega)).trans h55, (hD _ (by omega)).trans h56⟩, ⟨e, he1, he, hE⟩, fun k hk1 => ?_, fun k j a b c => (hD _ (by omega)).trans (hz k j a b c), fun i hi => ?_⟩
    · have hk1 : k < s.2.1 := hk1
      show (∃ q, q ≤ 9 ∧ upd s.1 54 _ (7 * k + 0) = nI q) ∧ (∃ q, q ≤ 3 ∧ upd s.1 54 _ (7 * k + 1) = nI q) ∧ (∃ q, 1 ≤ q ∧ q ≤ 9 ∧ upd s.1 54 _ (7 * k + 2) = nI q)
      rw [upd_ne (by omega), upd_ne (by omega), upd_ne (by omega)]
      exact hk k hk1
    · have hi : i < s.2.2.1 := hi
      show (∃ q, q ≤ 99 ∧ upd s.1 54 _ (29 + 3 * i + 0) = nI q) ∧ (∃ q, q ≤ 1 ∧ upd s.1 54 _ (29 + 3 * i + 2) = nI q)
      rw [upd_ne (by omega), upd_ne (by omega)]
      exact hp i hi
  · rw [if_neg z5]
    by_cases z4 : lnN ch q = 4
    · rw [if_pos z4]
      obtain ⟨l8, r, hr⟩ := g4 z5 z4
      have v3 : 0 ≤ (pP3 ch q).1 ∧ (pP3 ch q).1 ≤ 1 := pNum_in hr
      obtain ⟨r2, hr2⟩ := pNum_src hr
      obtain ⟨r1, hr1⟩ := pNum_src hr2
      have v1 : 0 ≤ (pP1 ch q).1 ∧ (pP1 ch q).1 ≤ 99 := pNum_in hr1
      obtain ⟨w1, hw1, e1⟩ := rng_of (n := 99) (by omega) v1
      obtain ⟨w3, hw3, e3⟩ := rng_of (n := 1) (by omega) v3
      have hD : ∀ j, ¬ (29 + 3 * s.2.2.1 ≤ j ∧ j < 29 + 3 * s.2.2.1 + 3) → j ≠ 53 → upd (upd (upd (upd s.1 (29 + 3 * s.2.2.1 + 0) (pP1 ch q).1) (29 + 3 * s.2.2.1 + 1) (pP2 ch q).1) (29 + 3 * s.2.2.1 + 2) (pP3 ch q).1) 53 (nI (s.2.2.1 + 1)) j = s.1 j := fun j a b => by
        rw [upd_ne b, upd_ne (by omega), upd_ne (by omega), upd_ne (by omega)]
      have hE : upd (upd (upd (upd s.1 (29 + 3 * s.2.2.1 + 0) (pP1 ch q).1) (29 + 3 * s.2.2.1 + 1) (pP2 ch q).1) (29 + 3 * s.2.2.1 + 2) (pP3 ch q).1) 53 (nI (s.2.2.1 + 1)) 53 = nI (s.2.2.1 + 1) := upd_eq _ _ _
      refine ⟨⟨n4, l8⟩, ⟨(hD _ (by omega) (by omega)).trans h28, hE, (hD _ (by omega) (by omega)).trans h55, (hD _ (by omega) (by omega)).trans h56⟩, ?_, fun k hk1 => ?_, fun k j a b c => (hD _ (by omega) (by omega)).trans (hz k j a b c), fun i hi => ?_⟩
      · obtain ⟨e, a, b, c⟩ := h54
        exact ⟨e, a, b, (hD _ (by omega) (by omega)).trans c⟩
      · have hk1 : k < s.2.1 := hk1
        obtain ⟨⟨y1, a1, b1⟩, ⟨y2, a2, b2⟩, y3, a3, b3, c3⟩ := hk k hk1
        exact ⟨⟨y1, a1, (hD _ (by omega) (by omega)).trans b1⟩, ⟨y2, a2, (hD _ (by omega) (by omega)).trans b2⟩, y3, a3, b3, (hD _ (by omega) (by omega)).trans c3⟩
      · have hi : i < s.2.2.1 + 1 := hi
        rcases (show i = s.2.2.1 ∨ i < s.2.2.1 by omega) with rfl | y
        · refine ⟨⟨w1, hw1, ?_⟩, w3, hw3, ?_⟩
          · show upd (upd (upd (upd s.1 (29 + 3 * s.2.2.1 + 0) (pP1 ch q).1) (29 + 3 * s.2.2.1 + 1) (pP2 ch q).1) (29 + 3 * s.2.2.1 + 2) (pP3 ch q).1) 53 (nI (s.2.2.1 + 1)) (29 + 3 * s.2.2.1 + 0) = _
            rw [upd_ne (by omega), upd_ne (by omega), upd_ne (by omega)]
            exact (upd_eq _ _ _).trans e1
          · show upd (upd (upd (upd s.1 (29 + 3 * s.2.2.1 + 0) (pP1 ch q).1) (29 + 3 * s.2.2.1 + 1) (pP2 ch q).1) (29 + 3 * s.2.2.1 + 2) (pP3 ch q).1) 53 (nI (s.2.2.1 + 1)) (29 + 3 * s.2.2.1 + 2) = _
            rw [upd_ne (by omega)]
            exact (upd_eq _ _ _).trans e3
        · obtain ⟨⟨y1, a1, b1⟩, y2, a2, b2⟩ := hp i y
          exact ⟨⟨y1, a1, (hD _ (by omega) (by omega)).trans b1⟩, y2, a2, (hD _ (by omega) (by omega)).trans b2⟩
    · rw [if_neg z4]
      obtain ⟨l4, r, hr⟩ := gk z5 z4
      have v2 : 1 ≤ (pK2 ch q).1 ∧ (pK2 ch q).1 ≤ 9 := pNum_in hr
      obtain ⟨r1, hr1⟩ := pNum_src hr
      have v1 : 0 ≤ (pK1 ch q).1 ∧ (pK1 ch q).1 ≤ 9 := pNum_in hr1
      obtain ⟨w1, hw1, e1⟩ := rng_of (n := 9) (by omega) v1
      obtain ⟨w2, hw2, e2⟩ := rng1_of (n := 9) (by omega) v2
      have hw21 : 1 ≤ w2 := (nI_leI (a := 1) (b := w2) (by omega) (by omega)).mp (by rw [← e2]; exact v2.1)
      have hln : ∃ j, j ≤ 3 ∧ lnN ch q = nI j := by
        rcases lnN_or ch q with y | ⟨j, hj, y⟩
        · exact absurd y g0
        · refine ⟨j, ?_, y⟩
          have y5 : j ≠ 5 := fun w => z5 (by rw [y, w]; rfl)
          have y4 : j ≠ 4 := fun w => z4 (by rw [y, w]; rfl)
          omega
      obtain ⟨w0, hw0, e0⟩ := hln
      have hD : ∀ j, ¬ (7 * s.2.1 ≤ j ∧ j < 7 * s.2.1 + 3) → j ≠ 28 → upd (upd (upd (upd s.1 (7 * s.2.1 + 1) (lnN ch q)) (7 * s.2.1 + 0) (pK1 ch q).1) (7 * s.2.1 + 2) (pK2 ch q).1) 28 (nI (s.2.1 + 1)) j = s.1 j := fun j a b => by
        rw [upd_ne b, upd_ne (by omega), upd_ne (by omega), upd_ne (by omega)]
      have hE : upd (upd (upd (upd s.1 (7 * s.2.1 + 1) (lnN ch q)) (7 * s.2.1 + 0) (pK1 ch q).1) (7 * s.2.1 + 2) (pK2 ch q).1) 28 (nI (s.2.1 + 1)) 28 = nI (s.2.1 + 1) := upd_eq _ _ _
      refine ⟨⟨l4, p8⟩, ⟨hE, (hD _ (by omega) (by omega)).trans h53, (hD _ (by omega) (by omega)).trans h55, (hD _ (by omega) (by omega)).trans h56⟩, ?_, fun k hk1 => ?_, fun k j a b c => (hD _ (by omega) (by omega)).trans (hz k j a b c), fun i hi => ?_⟩
      · obtain ⟨e, a, b, c⟩ := h54
        exact ⟨e, a, b, (hD _ (by omega) (by omega)).trans c⟩
      · have hk1 : k < s.2.1 + 1 := hk1
        rcases (show k = s.2.1 ∨ k < s.2.1 by omega) with rfl | y
        · refine ⟨⟨w1, hw1, ?_⟩, ⟨w0, hw0, ?_⟩, w2, hw21, hw2, ?_⟩
          · show upd (upd (upd (upd s.1 (7 * s.2.1 + 1) (lnN ch q)) (7 * s.2.1 + 0) (pK1 ch q).1) (7 * s.2.1 + 2) (pK2 ch q).1) 28 (nI (s.2.1 + 1)) (7 * s.2.1 + 0) = _
            rw [upd_ne (by omega), upd_ne (by omega)]
            exact (upd_eq _ _ _).trans e1
          · show upd (upd (upd (upd s.1 (7 * s.2.1 + 1) (lnN ch q)) (7 * s.2.1 + 0) (pK1 ch q).1) (7 * s.2.1 + 2) (pK2 ch q).1) 28 (nI (s.2.1 + 1)) (7 * s.2.1 + 1) = _
            rw [upd_ne (by omega), upd_ne (by omega), upd_ne (by omega)]
            exact (upd_eq _ _ _).trans e0
          · show upd (upd (upd (upd s.1 (7 * s.2.1 + 1) (lnN ch q)) (7 * s.2.1 + 0) (pK1 ch q).1) (7 * s.2.1 + 2) (pK2 ch q).1) 28 (nI (s.2.1 + 1)) (7 * s.2.1 + 2) = _
            rw [upd_ne (by omega)]
            exact (upd_eq _ _ _).trans e2
        · obtain ⟨⟨y1, a1, b1⟩, ⟨y2, a2, b2⟩, y3, a3, b3, c3⟩ := hk k y
          exact ⟨⟨y1, a1, (hD _ (by omega) (by omega)).trans b1⟩, ⟨y2, a2, (hD _ (by omega) (by omega)).trans b2⟩, y3, a3, b3, (hD _ (by omega) (by omega)).trans c3⟩
      · have hi : i < s.2.2.1 := hi
        obtain ⟨⟨y1, a1, b1⟩, y2, a2, b2⟩ := hp i hi
        exact ⟨⟨y1, a1, (hD _ (by omega) (by omega)).trans b1⟩, y2, a2, (hD _ (by omega) (by omega)).trans b2⟩
theorem PO_lo (ch : Nat → Int32) : ∀ (m p i : Nat) (s : pst), PO s → PO (pLo ch m p i s).2.2 := by
  intro m
  induction m with
  | zero => intro p i s h; exact h
  | succ m ih =>
    intro p i s h
    rw [pLo_s]
    split
    · exact h
    · split
      · exact h
      · cases hL : pL ch (zQ ch p) s.2.1 s.2.2.1 s.2.2.2 with
        | inr x => exact h
        | inl p' => exact ih p' (i + 1) _ (PO_step h hL)
section BS6
variable {V : am_V} {f : Nat → Nat → Int32} {τ : Nat → Nat → Int64}
theorem b_text (hI : INV f) : Both V MX4_text MX5_text 9 [] (f, τ) := by
  obtain ⟨hB, ⟨L, hL, h1, h7, hq⟩, ⟨hf1, hf2⟩, hM, hS⟩ := hI
  have hT1 : tpOK f 1 L (fun q => if q < L then f 1 q else -1) := ⟨hL, fun q hq1 => by
    show f 1 q = (if q < L then f 1 q else -1) ∧ ¬ (if q < L then f 1 q else -1) < 0
    rw [if_pos hq1]; exact ⟨rfl, (hq q hq1).2⟩, fun q hq1 => if_neg (by omega)⟩
  generalize hch : (fun q => if q < L then f 1 q else -1) = ch at hT1
  have hPO := PO_lo ch 161 0 0 ps0 PO_0
  refine (g_text (d := 1) hT1 h1).mono ?_
  rintro x S1 ⟨f1, rfl, hX⟩
  cases hE : pEnd L (pLo ch 161 0 0 ps0) with
  | inr y =>
    rw [hE] at hX
    obtain ⟨x1, x2, x3, x4⟩ := hX
    have hT2 : tpOK f1 69 L ch := ⟨hL, fun q hq1 => by
      rw [x4 69 q (by omega) (by omega) (by omega), (hq q hq1).1]
      exact hT1.2.1 q hq1, hT1.2.2⟩
    refine (g_mText (d := 3) hT2 ((x4 64 7 (by omega) (by omega) (by omega)).trans h7)).mono ?_
    rintro x' S2 ⟨f2, rfl, hY⟩
    rw [hE] at hY
    obtain ⟨y1, y2, y3, y4, y5⟩ := hY
    refine ⟨y1.trans x1.symm, ?_⟩
    show INV f2
    have e : ∀ c j, (c < 14 ∨ 26 ≤ c) → c ≠ 61 → ¬ (c = 0 ∧ (j = 1 ∨ j = 8)) → c ≠ 68 → c ≠ 64 → f2 c j = f c j := fun c j a b d g i => (y5 c j g i).trans (x4 c j a b d)
    refine ⟨hB.cg (fun c j q => e c j (by omega) (by omega) (by omega) (by omega) (by omega)), ⟨0, by omega, ?_, y3, fun q hq1 => absurd hq1 (Nat.not_lt_zero _)⟩, ⟨?_, ?_⟩, fun j hj => (hM j hj).cg (e _ _ (by omega) (by omega) (by omega) (by omega) (by omega)) (e _ _ (by omega) (by omega) (by omega) (by omega) (by omega)) (fun c i q => e c i (by omega) (by omega) (by omega) (by omega) (by omega)), fun k hk => (hS k hk).cg (funext fun i => e _ _ (by omega) (by omega) (by omega) (by omega) (by omega)) (funext fun i => e _ _ (by omega) (by omega) (by omega) (by omega) (by omega)) (e _ _ (by omega) (by omega) (by omega) (by omega) (by omega)) (e _ _ (by omega) (by omega) (by omega) (by omega) (by omega)) (fun i _ => e _ _ (by omega) (by omega) (by omega) (by omega) (by omega))⟩
    · exact (y5 0 1 (by omega) (by omega)).trans x3
    · rw [y5 0 8 (by omega) (by omega), x2, y2]
    · rw [e 0 9 (by omega) (by omega) (by omega) (by omega) (by omega), y4 27 (by omega), x4 64 27 (by omega) (by omega) (by omega)]
      exact hf2
  | inl i =>
    rw [hE] at hX
    obtain ⟨x1, x2, x3, x27a, x27b, hTB, x4⟩ := hX
    have hT2 : tpOK f1 69 L ch := ⟨hL, fun q hq1 => by
      rw [x4 69 q (by omega) (by omega) (by omega) (by omega), (hq q hq1).1]
      exact hT1.2.1 q hq1, hT1.2.2⟩
    refine (g_mText (d := 3) hT2 ((x4 64 7 (by omega) (by omega) (by omega) (by omega)).trans h7)).mono ?_
    rintro x' S2 ⟨f2, rfl, hY⟩
    rw [hE] at hY
    obtain ⟨y1, y2, y3, y4, y67a, y67b, y65, y5⟩ := hY
    refine ⟨y1.trans x1.symm, ?_⟩
    show INV f2
    have hky : kyOK (pLo ch 161 0 0 ps0).2.2 := by
      unfold pEnd at hE
      split at hE
      · cases hE
      · split at hE
        · assumption
        · cases hE
    revert hPO hTB y65 hky
    generalize (pLo ch 161 0 0 ps0).2.2 = s
    intro hPO hTB y65 hky
    obtain ⟨⟨n4, p8⟩, ⟨h28, h53, h55, h56⟩, ⟨ev, ev1, ev4, h54⟩, hk, hz, hp⟩ := hPO
    obtain ⟨-, ⟨t1, t2, t3, t4, t5⟩, tk, tp, -⟩ := hTB
    have e1 : ∀ c j, c ≠ 68 → c ≠ 64 → c ≠ 65 → c ≠ 67 → f2 c j = f1 c j := fun c j a b d g => y5 c j a b (by omega) g
    have e : ∀ c j, ¬ (2 ≤ c ∧ c < 26) → c ≠ 61 → c ≠ 27 → ¬ (c = 0 ∧ (j = 1 ∨ j = 8)) → c ≠ 68 → c ≠ 64 → ¬ (c = 65 ∧ j < 75) → c ≠ 67 → f2 c j = f c j := fun c j a b d g i k l m => (y5 c j i k l m).trans (x4 c j a b d g)
    refine ⟨⟨s.2.1, s.2.2.1, 0, ev, 0, ⟨n4, p8, by omega, ev1, ev4, by omega⟩, ⟨?_, ?_, ?_, ?_, ?_⟩, ⟨?_, ?_, ?_, ?_, ?_⟩, fun k hk1 => ?_, fun j hj => ?_, fun j hj => absurd hj (Nat.not_lt_zero _)⟩, ⟨0, by omega, ?_, y3, fun q hq1 => absurd hq1 (Nat.not_lt_zero _)⟩, ⟨?_, ?_⟩, fun j hj => ?_, fun k hk => (hS k hk).cg (funext fun i => e _ _ (by omega) (by omega) (by omega) (by omega) (by omega) (by omega) (by omega) (by omega)) (funext fun i => e _ _ (by omega) (by omega) (by omega) (by omega) (by omega) (by omega) (by omega) (by omega)) (e _ _ (by omega) (by omega) (by omega) (by omega) (by omega) (by omega) (by omega) (by omega)) (e _ _ (by omega) (by omega) (by omega) (by omega) (by omega) (by omega) (by omega) (by omega)) (fun i _ => e _ _ (by omega) (by omega) (by omega) (by omega) (by omega) (by omega) (by omega) (by omega))⟩
    · rw [e1 _ _ (by omega) (by omega) (by omega) (by omega)]; exact t1
    · rw [e1 _ _ (by omega) (by omega) (by omega) (by omega)]; exact t2
    · rw [e1 _ _ (by omega) (by omega) (by omega) (by omega)]; exact t5
    · rw [e1 _ _ (by omega) (by omega) (by omega) (by omega), t3]; exact h54
    · rw [e1 _ _ (by omega) (by omega) (by omega) (by omega)]; exact t4
    · rw [Nat.zero_add, y65 _ (by omega)]; exact h28
    · rw [Nat.zero_add, y65 _ (by omega)]; exact h53
    · rw [Nat.zero_add, y65 _ (by omega)]; exact h56
    · rw [Nat.zero_add, y65 _ (by omega)]; exact h54
    · rw [Nat.zero_add, y65 _ (by omega)]; exact h55
    · have r : ∀ j, j < 7 → f2 (2 + 2 + k) j = s.1 (7 * k + j) := fun j hj => (e1 _ _ (by omega) (by omega) (by omega) (by omega)).trans (tk k hk1 j hj)
      refine ⟨?_, fun j hj => ?_⟩
      · obtain ⟨⟨q1, a1, b1⟩, ⟨q2, a2, b2⟩, q3, a3, b3, c3⟩ := hk k hk1
        refine ⟨⟨q1, a1, (r 0 (by omega)).trans b1⟩, ⟨q2, a2, (r 1 (by omega)).trans b2⟩, ⟨q3, a3, b3, (r 2 (by omega)).trans c3, 0, by omega, (r 4 (by omega)).trans (hz k 4 (by omega) (by omega) (by omega))⟩, ⟨0, by omega, (r 3 (by omega)).trans (hz k 3 (by omega) (by omega) (by omega))⟩, ⟨0, by omega, (r 5 (by omega)).trans (hz k 5 (by omega) (by omega) (by omega))⟩, ⟨0, by omega, (r 6 (by omega)).trans (hz k 6 (by omega) (by omega) (by omega))⟩⟩
      · rw [Nat.zero_add, y65 _ (by omega), r j hj]
    · obtain ⟨u1, u2, u3⟩ := tp j hj
      obtain ⟨q1, q3⟩ := hp j hj
      have q2 := key_in (by omega) (hky j hj)
      rw [e1 _ _ (by omega) (by omega) (by omega) (by omega), e1 _ _ (by omega) (by omega) (by omega) (by omega), e1 _ _ (by omega) (by omega) (by omega) (by omega), Nat.zero_add, Nat.zero_add, Nat.zero_add, y65 _ (by omega), y65 _ (by omega), y65 _ (by omega), u1, u2, u3]
      exact ⟨q1, q2, q3, rfl, rfl, rfl⟩
    · exact (e1 0 1 (by omega) (by omega) (by omega) (by omega)).trans x3
    · rw [e1 0 8 (by omega) (by omega) (by omega) (by omega), x2, y2]
    · rw [e 0 9 (by omega) (by omega) (by omega) (by omega) (by omega) (by omega) (by omega) (by omega), y4 27 (by omega), x4 64 27 (by omega) (by omega) (by omega) (by omega)]
      exact hf2
    · have l67 : f2 67 j = 0 := by
        rcases (show j = 0 ∨ j = 1 by omega) with rfl | rfl
        · exact y67a
        · exact y67b
      have l27 : f2 27 j = 0 := by
        rw [e1 27 j (by omega) (by omega) (by omega) (by omega)]
        rcases (show j = 0 ∨ j = 1 by omega) with rfl | rfl
        · exact x27a
        · exact x27b
      exact ⟨Or.inl l67, l27.trans l67.symm, fun y => absurd (l67.symm.trans y) (by decide)⟩
end BS6
