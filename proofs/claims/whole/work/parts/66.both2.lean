/-! the pieces of a board -/
def BRk (f : Nat → Nat → Int32) (b o n : Nat) : Prop := ∀ k, k < n → kOK (f (b + 2 + k)) ∧ ∀ j, j < 7 → f 65 (o + (7 * k + j)) = f (b + 2 + k) j
def BRp (f : Nat → Nat → Int32) (b o n p : Nat) : Prop := ∀ i, i < p → (∃ q, q ≤ 99 ∧ f (b + 6) i = nI q) ∧ (∃ q, q < n ∧ f (b + 7) i = nI q) ∧ (∃ q, q ≤ 1 ∧ f (b + 8) i = nI q) ∧ f 65 (o + (29 + 3 * i + 0)) = f (b + 6) i ∧ f 65 (o + (29 + 3 * i + 1)) = f (b + 7) i ∧ f 65 (o + (29 + 3 * i + 2)) = f (b + 8) i
def BRs (f : Nat → Nat → Int32) (b o n s : Nat) : Prop := ∀ i, i < s → (∃ q, q ≤ 40 ∧ f (b + 9) i = nI q) ∧ (∃ q, q < n ∧ f (b + 10) i = nI q) ∧ (∃ q, q ≤ 1 ∧ f (b + 11) i = nI q) ∧ f 65 (o + (57 + 3 * i)) = f (b + 9) i ∧ f 65 (o + (57 + 3 * i + 1)) = f (b + 10) i ∧ f 65 (o + (57 + 3 * i + 2)) = f (b + 11) i
theorem BR.k {f : Nat → Nat → Int32} {b o n p s e T : Nat} (h : BR f b o n p s e T) : BRk f b o n := h.2.2.2.1
theorem BR.p {f : Nat → Nat → Int32} {b o n p s e T : Nat} (h : BR f b o n p s e T) : BRp f b o n p := h.2.2.2.2.1
theorem BR.s {f : Nat → Nat → Int32} {b o n p s e T : Nat} (h : BR f b o n p s e T) : BRs f b o n s := h.2.2.2.2.2
theorem BRk.cg {f f' : Nat → Nat → Int32} {b o n : Nat} (hk : BRk f b o n) (h : ∀ k, k < n → f' (b + 2 + k) = f (b + 2 + k)) (h' : ∀ j, j < 7 * n → f' 65 (o + j) = f 65 (o + j)) : BRk f' b o n := fun k hk1 => by
  rw [h k hk1]
  exact ⟨(hk k hk1).1, fun j hj => by rw [h' _ (by omega)]; exact (hk k hk1).2 j hj⟩
theorem BRp.cg {f f' : Nat → Nat → Int32} {b o n p p' : Nat} (hp : BRp f b o n p) (hpp : p' ≤ p) (h : ∀ i, i < p' → f' (b + 6) i = f (b + 6) i ∧ f' (b + 7) i = f (b + 7) i ∧ f' (b + 8) i = f (b + 8) i) (h' : ∀ j, 29 ≤ j → j < 29 + 3 * p' → f' 65 (o + j) = f 65 (o + j)) : BRp f' b o n p' := fun i hi => by
  obtain ⟨e1, e2, e3⟩ := h i hi
  rw [e1, e2, e3, h' _ (by omega) (by omega), h' _ (by omega) (by omega), h' _ (by omega) (by omega)]
  exact hp i (by omega)
theorem BRs.cg {f f' : Nat → Nat → Int32} {b o n s s' : Nat} (hs : BRs f b o n s) (hss : s' ≤ s) (h : ∀ i, i < s' → f' (b + 9) i = f (b + 9) i ∧ f' (b + 10) i = f (b + 10) i ∧ f' (b + 11) i = f (b + 11) i) (h' : ∀ j, 57 ≤ j → j < 57 + 3 * s' → f' 65 (o + j) = f 65 (o + j)) : BRs f' b o n s' := fun i hi => by
  obtain ⟨e1, e2, e3⟩ := h i hi
  rw [e1, e2, e3, h' (57 + 3 * i) (by omega) (by omega), h' (57 + 3 * i + 1) (by omega) (by omega), h' (57 + 3 * i + 2) (by omega) (by omega)]
  exact hs i (by omega)
theorem BRp.sn {f : Nat → Nat → Int32} {b o n p : Nat} (hp : BRp f b o n p) (h : (∃ q, q ≤ 99 ∧ f (b + 6) p = nI q) ∧ (∃ q, q < n ∧ f (b + 7) p = nI q) ∧ (∃ q, q ≤ 1 ∧ f (b + 8) p = nI q) ∧ f 65 (o + (29 + 3 * p + 0)) = f (b + 6) p ∧ f 65 (o + (29 + 3 * p + 1)) = f (b + 7) p ∧ f 65 (o + (29 + 3 * p + 2)) = f (b + 8) p) : BRp f b o n (p + 1) := fun i hi => by
  rcases (show i = p ∨ i < p by omega) with rfl | q
  · exact h
  · exact hp i q
theorem BRs.sn {f : Nat → Nat → Int32} {b o n s : Nat} (hs : BRs f b o n s) (h : (∃ q, q ≤ 40 ∧ f (b + 9) s = nI q) ∧ (∃ q, q < n ∧ f (b + 10) s = nI q) ∧ (∃ q, q ≤ 1 ∧ f (b + 11) s = nI q) ∧ f 65 (o + (57 + 3 * s)) = f (b + 9) s ∧ f 65 (o + (57 + 3 * s + 1)) = f (b + 10) s ∧ f 65 (o + (57 + 3 * s + 2)) = f (b + 11) s) : BRs f b o n (s + 1) := fun i hi => by
  rcases (show i = s ∨ i < s by omega) with rfl | q
  · exact h
  · exact hs i q
/-- only the board has changed -/
theorem INV.bd {f f' : Nat → Nat → Int32} (hI : INV f) (h : ∀ c j, (c < 14 ∨ (26 ≤ c ∧ c ≠ 61 ∧ c ≠ 62 ∧ c ≠ 63 ∧ c ≠ 66 ∧ c ≠ 68 ∧ c ≠ 70 ∧ c ≠ 71 ∧ c ≠ 72 ∧ c ≠ 76)) → (c = 64 → j = 7 ∨ j = 12 ∨ j = 27) → ¬ (2 ≤ c ∧ c < 14) → ¬ (c = 65 ∧ j < 75) → f' c j = f c j) (hB : IB f') : INV f' := by
  obtain ⟨-, hT, ⟨hf1, hf2⟩, hM, hS⟩ := hI
  refine ⟨hB, hT.cg (h _ _ (by omega) (by omega) (by omega) (by omega)) (h _ _ (by omega) (by omega) (by omega) (by omega)) (fun q _ => h _ _ (by omega) (by omega) (by omega) (by omega)) (fun q _ => h _ _ (by omega) (by omega) (by omega) (by omega)), ⟨?_, ?_⟩, fun j hj => (hM j hj).cg (h _ _ (by omega) (by omega) (by omega) (by omega)) (h _ _ (by omega) (by omega) (by omega) (by omega)) (fun c i q => h c i (by omega) (by omega) (by omega) (by omega)), fun k hk => (hS k hk).cg (funext fun i => h _ _ (by omega) (by omega) (by omega) (by omega)) (funext fun i => h _ _ (by omega) (by omega) (by omega) (by omega)) (h _ _ (by omega) (by omega) (by omega) (by omega)) (h _ _ (by omega) (by omega) (by omega) (by omega)) (fun i _ => h _ _ (by omega) (by omega) (by omega) (by omega))⟩
  · rw [h 0 8 (by omega) (by omega) (by omega) (by omega), h 64 12 (by omega) (by omega) (by omega) (by omega)]; exact hf1
  · rw [h 0 9 (by omega) (by omega) (by omega) (by omega), h 64 27 (by omega) (by omega) (by omega) (by omega)]; exact hf2
section BS
variable {V : am_V} {f : Nat → Nat → Int32} {τ : Nat → Nat → Int64}
theorem byte_id {c : Int32} (h : 0 ≤ c ∧ c ≤ 127) : c.toInt8.toInt32 = c ∧ ¬ c < 0 := by
  obtain ⟨j, hj, rfl⟩ := rng_of (n := 127) (by omega) h
  exact ⟨(show ∀ j, j < 128 → (nI j).toInt8.toInt32 = nI j by decide +kernel) j (by omega), nI_pos (by omega)⟩
theorem b_feed (hI : INV f) (c : Int32) : Both V MX4_feed MX5_feed 9 [.int c] (f, τ) := by
  obtain ⟨hB, ⟨L, hL, h1, h7, hq⟩, hF, hM, hS⟩ := hI
  have hI : INV f := ⟨hB, ⟨L, hL, h1, h7, hq⟩, hF, hM, hS⟩
  have e7 : s_feed f L c 64 7 = nI L := by
    unfold s_feed
    split
    · split
      · rw [up2_ne (by omega), up2_ne (by omega)]; exact h7
      · exact h7
    · exact h7
  refine Both.ff (f_X4_feed (d := 8) hL h1 c) (q_feed (d := 8) hL e7 c) ?_ ?_
  · unfold mr_feed r_feed
    by_cases q : 0 ≤ c ∧ c ≤ 127
    · rw [if_pos q, if_pos q]
      by_cases z : L = 160
      · have g1 : nI L = 160 := by rw [z]; rfl
        have g2 : ¬ nI L < 160 := by rw [z]; decide
        rw [if_pos g1, if_neg g2]
      · have g1 : ¬ nI L = 160 := fun y => z ((nI_eq (a := L) (b := 160) (by omega) (by omega)).mp y)
        have g2 : nI L < 160 := nI_lt (b := 160) (by omega) (by omega)
        rw [if_neg g1, if_pos g2]
    · rw [if_neg q, if_neg q]
  · show INV (ms_feed (s_feed f L c) L c)
    unfold ms_feed s_feed
    by_cases q : 0 ≤ c ∧ c ≤ 127
    · rw [if_pos q, if_pos q]
      by_cases z : L = 160
      · have g1 : nI L = 160 := by rw [z]; rfl
        have g2 : ¬ nI L < 160 := by rw [z]; decide
        rw [if_pos g1, if_neg g2]
        exact hI
      · have g1 : ¬ nI L = 160 := fun y => z ((nI_eq (a := L) (b := 160) (by omega) (by omega)).mp y)
        have g2 : nI L < 160 := nI_lt (b := 160) (by omega) (by omega)
        rw [if_neg g1, if_pos g2, (byte_id q).1, (byte_id q).1]
        have hn : ¬ c < 0 := (byte_id q).2
        generalize hg : up2 (up2 (up2 (up2 f 1 L c) 0 1 (nI (L + 1))) 69 L c) 64 7 (nI (L + 1)) = f'
        have e : ∀ c' j, ¬ (c' = 1 ∧ j = L) → ¬ (c' = 0 ∧ j = 1) → ¬ (c' = 69 ∧ j = L) → ¬ (c' = 64 ∧ j = 7) → f' c' j = f c' j := fun c' j a1 a2 a3 a4 => by rw [← hg, up2_ne a4, up2_ne a3, up2_ne a2, up2_ne a1]
        refine ⟨hB.cg (fun c' j q => e c' j (by omega) (by omega) (by omega) (by omega)), ⟨L + 1, by omega, ?_, ?_, fun q hq1 => ?_⟩, ⟨?_, ?_⟩, fun j hj => (hM j hj).cg (e _ _ (by omega) (by omega) (by omega) (by omega)) (e _ _ (by omega) (by omega) (by omega) (by omega)) (fun c' i q => e c' i (by omega) (by omega) (by omega) (by omega)), fun k hk => (hS k hk).cg (funext fun i => e _ _ (by omega) (by omega) (by omega) (by omega)) (funext fun i => e _ _ (by omega) (by omega) (by omega) (by omega)) (e _ _ (by omega) (by omega) (by omega) (by omega)) (e _ _ (by omega) (by omega) (by omega) (by omega)) (fun i _ => e _ _ (by omega) (by omega) (by omega) (by omega))⟩
        · rw [← hg, up2_ne (by omega), up2_ne (by omega), up2_self]
        · rw [← hg, up2_self]
        · rcases (show q = L ∨ q < L by omega) with rfl | y
          · have e69 : f' 69 q = c := by rw [← hg, up2_ne (by omega), up2_self]
            have e1 : f' 1 q = c := by rw [← hg, up2_ne (by omega), up2_ne (by omega), up2_ne (by omega), up2_self]
            rw [e69, e1]
            exact ⟨rfl, hn⟩
          · rw [e 69 q (by omega) (by omega) (by omega) (by omega), e 1 q (by omega) (by omega) (by omega) (by omega)]
            exact hq q y
        · rw [e 0 8 (by omega) (by omega) (by omega) (by omega), e 64 12 (by omega) (by omega) (by omega) (by omega)]; exact hF.1
        · rw [e 0 9 (by omega) (by omega) (by omega) (by omega), e 64 27 (by omega) (by omega) (by omega) (by omega)]; exact hF.2
    · rw [if_neg q, if_neg q]
      exact hI
theorem b_end (hI : INV f) (n : Int32) : Both V MX4_end MX5_end 9 [.int n] (f, τ) := by
  obtain ⟨hB, ⟨L, hL, h1, h7, hq⟩, hF, hM, hS⟩ := hI
  have hI : INV f := ⟨hB, ⟨L, hL, h1, h7, hq⟩, hF, hM, hS⟩
  have e7 : s_end f n 64 7 = nI L := by
    unfold s_end
    split
    · rw [up2_ne (by omega)]; exact h7
    · exact h7
  refine Both.ff (f_X4_end (d := 8) n) (q_end (d := 8) n) ?_ ?_
  · unfold mr_end r_end
    rw [e7, h1]
  · show INV (ms_end (s_end f n) n)
    unfold ms_end
    rw [e7]
    unfold s_end
    rw [h1]
    by_cases q : 0 ≤ n ∧ n ≤ nI L
    · rw [if_pos q, if_pos q]
      obtain ⟨N, hN, rfl⟩ := rng_of (by omega) q
      generalize hg : up2 (up2 f 0 1 (nI N)) 64 7 (nI N) = f'
      have e : ∀ c' j, ¬ (c' = 0 ∧ j = 1) → ¬ (c' = 64 ∧ j = 7) → f' c' j = f c' j := fun c' j a2 a4 => by rw [← hg, up2_ne a4, up2_ne a2]
      refine ⟨hB.cg (fun c' j q => e c' j (by omega) (by omega)), ⟨N, by omega, ?_, ?_, fun q hq1 => ?_⟩, ⟨?_, ?_⟩, fun j hj => (hM j hj).cg (e _ _ (by omega) (by omega)) (e _ _ (by omega) (by omega)) (fun c' i q => e c' i (by omega) (by omega)), fun k hk => (hS k hk).cg (funext fun i => e _ _ (by omega) (by omega)) (funext fun i => e _ _ (by omega) (by omega)) (e _ _ (by omega) (by omega)) (e _ _ (by omega) (by omega)) (fun i _ => e _ _ (by omega) (by omega))⟩
      · rw [← hg, up2_ne (by omega), up2_self]
      · rw [← hg, up2_self]
      · rw [e 69 q (by omega) (by omega), e 1 q (by omega) (by omega)]
        exact hq q (by omega)
      · rw [e 0 8 (by omega) (by omega), e 64 12 (by omega) (by omega)]; exact hF.1
      · rw [e 0 9 (by omega) (by omega), e 64 27 (by omega) (by omega)]; exact hF.2
    · rw [if_neg q, if_neg q]
      exact hI
theorem b_every (hI : INV f) (v : Int32) : Both V MX4_every MX5_every 9 [.int v] (f, τ) := by
  obtain ⟨n, p, s, e, T, hB⟩ := hI.1
  obtain ⟨⟨n4, p8, s6, e1, e4, T9⟩, ⟨a1, a2, a3, a4, a5⟩, ⟨b1, b2, b3, b4, b5⟩, hk, hp, hs⟩ := hB
  rw [Nat.zero_add] at b1 b2 b3 b4 b5
  have e54 : s_every f v 65 54 = nI e := by
    unfold s_every
    split
    · rw [up2_ne (by omega)]; exact b4
    · exact b4
  refine Both.ff (f_X4_every (d := 8) v) (q_every (d := 8) v) ?_ ?_
  · unfold mr_every r_every
    rw [e54, a4]
  · show INV (ms_every (s_every f v) v)
    unfold ms_every s_every
    by_cases q : 1 ≤ v ∧ v ≤ 4
    · rw [if_pos q, if_pos q]
      obtain ⟨E, hE, rfl⟩ := rng1_of (n := 4) (by omega) q
      have hE1 : 1 ≤ E := (nI_leI (a := 1) (b := E) (by omega) (by omega)).mp q.1
      generalize hg : up2 (up2 f 2 6 (nI E)) 65 54 (nI E) = f'
      have e : ∀ c' j, ¬ (c' = 2 ∧ j = 6) → ¬ (c' = 65 ∧ j = 54) → f' c' j = f c' j := fun c' j a2 a4 => by rw [← hg, up2_ne a4, up2_ne a2]
      have z6 : f' 2 6 = nI E := by rw [← hg, up2_ne (by omega), up2_self]
      have z54 : f' 65 54 = nI E := by rw [← hg, up2_self]
      refine hI.bd (fun c j _ _ g1 g2 => e c j (by omega) (by omega)) ⟨n, p, s, E, T, ⟨n4, p8, s6, hE1, hE, T9⟩, ⟨(e _ _ (by omega) (by omega)).trans a1, (e _ _ (by omega) (by omega)).trans a2, (e _ _ (by omega) (by omega)).trans a3, z6, (e _ _ (by omega) (by omega)).trans a5⟩, ⟨(e _ _ (by omega) (by omega)).trans b1, (e _ _ (by omega) (by omega)).trans b2, (e _ _ (by omega) (by omega)).trans b3, z54, (e _ _ (by omega) (by omega)).trans b5⟩, ?_, ?_, ?_⟩
      · exact BRk.cg hk (fun k _ => funext fun j => e _ _ (by omega) (by omega)) (fun j _ => e _ _ (by omega) (by omega))
      · exact BRp.cg hp (Nat.le_refl _) (fun i _ => ⟨e _ _ (by omega) (by omega), e _ _ (by omega) (by omega), e _ _ (by omega) (by omega)⟩) (fun j _ _ => e _ _ (by omega) (by omega))
      · exact BRs.cg hs (Nat.le_refl _) (fun i _ => ⟨e _ _ (by omega) (by omega), e _ _ (by omega) (by omega), e _ _ (by omega) (by omega)⟩) (fun j _ _ => e _ _ (by omega) (by omega))
    · rw [if_neg q, if_neg q]
      exact hI
theorem b_drop (hI : INV f) (v : Int32) : Both V MX4_drop MX5_drop 9 [.int v] (f, τ) := by
  obtain ⟨n, p, s, e, T, hB⟩ := hI.1
  obtain ⟨⟨n4, p8, s6, e1, e4, T9⟩, ⟨a1, a2, a3, a4, a5⟩, ⟨b1, b2, b3, b4, b5⟩, hk, hp, hs⟩ := hB
  rw [Nat.zero_add] at b1 b2 b3 b4 b5
  have e53 : s_drop f v 65 53 = nI p := by
    unfold s_drop
    split
    · rw [up2_ne (by omega)]; exact b2
    · exact b2
  refine Both.ff (f_X4_drop (d := 8) v) (q_drop (d := 8) v) ?_ ?_
  · unfold mr_many r_drop
    rw [e53, a2]
  · show INV (ms_many (s_drop f v) 53 v)
    unfold ms_many
    rw [e53]
    unfold s_drop
    rw [a2]
    by_cases q : 0 ≤ v ∧ v ≤ nI p
    · rw [if_pos q, if_pos q]
      obtain ⟨N, hN, rfl⟩ := rng_of (by omega) q
      generalize hg : up2 (up2 f 2 5 (nI N)) 65 53 (nI N) = f'
      have e : ∀ c' j, ¬ (c' = 2 ∧ j = 5) → ¬ (c' = 65 ∧ j = 53) → f' c' j = f c' j := fun c' j a2 a4 => by rw [← hg, up2_ne a4, up2_ne a2]
      have z5 : f' 2 5 = nI N := by rw [← hg, up2_ne (by omega), up2_self]
      have z53 : f' 65 53 = nI N := by rw [← hg, up2_self]
      refine hI.bd (fun c j _ _ g1 g2 => e c j (by omega) (by omega)) ⟨n, N, s, _, T, ⟨n4, by omega, s6, e1, e4, T9⟩, ⟨(e _ _ (by omega) (by omega)).trans a1, z5, (e _ _ (by omega) (by omega)).trans a3, (e _ _ (by omega) (by omega)).trans a4, (e _ _ (by omega) (by omega)).trans a5⟩, ⟨(e _ _ (by omega) (by omega)).trans b1, z53, (e _ _ (by omega) (by omega)).trans b3, (e _ _ (by omega) (by omega)).trans b4, (e _ _ (by omega) (by omega)).trans b5⟩, ?_, ?_, ?_⟩
      · exact BRk.cg hk (fun k _ => funext fun j => e _ _ (by omega) (by omega)) (fun j _ => e _ _ (by omega) (by omega))
      · exact BRp.cg hp hN (fun i _ => ⟨e _ _ (by omega) (by omega), e _ _ (by omega) (by omega), e _ _ (by omega) (by omega)⟩) (fun j _ _ => e _ _ (by omega) (by omega))
      · exact BRs.cg hs (Nat.le_refl _) (fun i _ => ⟨e _ _ (by omega) (by omega), e _ _ (by omega) (by omega), e _ _ (by omega) (by omega)⟩) (fun j _ _ => e _ _ (by omega) (by omega))
    · rw [if_neg q, if_neg q]
      exact hI
theorem b_forget (hI : INV f) (v : Int32) : Both V MX4_forget MX5_forget 9 [.int v] (f, τ) := by
  obtain ⟨n, p, s, e, T, hB⟩ := hI.1
  obtain ⟨⟨n4, p8, s6, e1, e4, T9⟩, ⟨a1, a2, a3, a4, a5⟩, ⟨b1, b2, b3, b4, b5⟩, hk, hp, hs⟩ := hB
  rw [Nat.zero_add] at b1 b2 b3 b4 b5
  have e56 : s_forget f v 65 56 = nI s := by
    unfold s_forget
    split
    · rw [up2_ne (by omega)]; exact b3
    · exact b3
  refine Both.ff (f_X4_forget (d := 8) v) (q_forget (d := 8) v) ?_ ?_
  · unfold mr_many r_forget
    rw [e56, a3]
  · show INV (ms_many (s_forget f v) 56 v)
    unfold ms_many
    rw [e56]
    unfold s_forget
    rw [a3]
    by_cases q : 0 ≤ v ∧ v ≤ nI s
    · rw [if_pos q, if_pos q]
      obtain ⟨N, hN, rfl⟩ := rng_of (by omega) q
      generalize hg : up2 (up2 f 2 11 (nI N)) 65 56 (nI N) = f'
      have e : ∀ c' j, ¬ (c' = 2 ∧ j = 11) → ¬ (c' = 65 ∧ j = 56) → f' c' j = f c' j := fun c' j a2 a4 => by rw [← hg, up2_ne a4, up2_ne a2]
      have z11 : f' 2 11 = nI N := by rw [← hg, up2_ne (by omega), up2_self]
      have z56 : f' 65 56 = nI N := by rw [← hg, up2_self]
      refine hI.bd (fun c j _ _ g1 g2 => e c j (by omega) (by omega)) ⟨n, p, N, _, T, ⟨n4, p8, by omega, e1, e4, T9⟩, ⟨(e _ _ (by omega) (by omega)).trans a1, (e _ _ (by omega) (by omega)).trans a2, z11, (e _ _ (by omega) (by omega)).trans a4, (e _ _ (by omega) (by omega)).trans a5⟩, ⟨(e _ _ (by omega) (by omega)).trans b1, (e _ _ (by omega) (by omega)).trans b2, z56, (e _ _ (by omega) (by omega)).trans b4, (e _ _ (by omega) (by omega)).trans b5⟩, ?_, ?_, ?_⟩
      · exact BRk.cg hk (fun k _ => funext fun j => e _ _ (by omega) (by omega)) (fun j _ => e _ _ (by omega) (by omega))
      · exact BRp.cg hp (Nat.le_refl _) (fun i _ => ⟨e _ _ (by omega) (by omega), e _ _ (by omega) (by omega), e _ _ (by omega) (by omega)⟩) (fun j _ _ => e _ _ (by omega) (by omega))
      · exact BRs.cg hs hN (fun i _ => ⟨e _ _ (by omega) (by omega), e _ _ (by omega) (by omega), e _ _ (by omega) (by omega)⟩) (fun j _ _ => e _ _ (by omega) (by omega))
    · rw [if_neg q, if_neg q]
      exact hI
end BS
