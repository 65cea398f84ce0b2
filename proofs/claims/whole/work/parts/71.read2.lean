theorem bm32 {x : Int} (h1 : -2147483648 ≤ x) (h2 : x < 6442450944) : x.bmod (2 ^ 32) = if x < 2147483648 then x else x - 4294967296 := by
  rw [show (2 ^ 32 : Nat) = 4294967296 from rfl]
  unfold Int.bmod
  by_cases q : x < 2147483648
  · rw [if_pos q]
    show (if x % (4294967296 : Int) < ((4294967296 : Int) + 1) / 2 then x % (4294967296 : Int) else x % (4294967296 : Int) - 4294967296) = x
    split <;> omega
  · rw [if_neg q]
    show (if x % (4294967296 : Int) < ((4294967296 : Int) + 1) / 2 then x % (4294967296 : Int) else x % (4294967296 : Int) - 4294967296) = x - 4294967296
    split <;> omega
theorem bm64 {x : Int} (h1 : -4611686018427387904 ≤ x) (h2 : x < 4611686018427387904) : x.bmod (2 ^ 64) = x := by
  rw [show (2 ^ 64 : Nat) = 18446744073709551616 from rfl]
  unfold Int.bmod
  show (if x % (18446744073709551616 : Int) < ((18446744073709551616 : Int) + 1) / 2 then x % (18446744073709551616 : Int) else x % (18446744073709551616 : Int) - 18446744073709551616) = x
  split <;> omega
theorem rd32 (F : Int32) {a : Nat} (ha : a < 100) : (F + nI a).toInt = if F.toInt + a < 2147483648 then F.toInt + a else F.toInt + a - 4294967296 := by
  have l1 : F.toInt < 2147483648 := F.toInt_lt
  have l2 : -2147483648 ≤ F.toInt := F.le_toInt
  rw [Int32.toInt_add, nI_toInt (by omega), bm32 (by omega) (by omega)]
theorem rd64 (F : Int32) {a b : Nat} (ha : a < 100) (hb : b < 100) : (F.toInt64 + (nI a).toInt64 + (nI b).toInt64).toInt = F.toInt + a + b := by
  have l1 : F.toInt < 2147483648 := F.toInt_lt
  have l2 : -2147483648 ≤ F.toInt := F.le_toInt
  rw [Int64.toInt_add, Int64.toInt_add, Int32.toInt_toInt64, Int32.toInt_toInt64, Int32.toInt_toInt64, nI_toInt (by omega), nI_toInt (by omega), bm64 (x := F.toInt + a) (by omega) (by omega), bm64 (by omega) (by omega)]
theorem rd_cmp (F : Int32) {a b z : Nat} (ha : a < 50) (hb : b < 50) (hz : z ≤ 40) : (if F.toInt64 + (nI a).toInt64 + (nI b).toInt64 < 0 then (2 : Int32) else if F.toInt64 + (nI a).toInt64 + (nI b).toInt64 < (nI z).toInt64 then 0 else 2) = if 0 ≤ F + nI a + nI b ∧ F + nI a + nI b ≤ nI z - 1 then 0 else 2 := by
  have l1 : F.toInt < 2147483648 := F.toInt_lt
  have l2 : -2147483648 ≤ F.toInt := F.le_toInt
  have e64 := rd64 F (a := a) (b := b) (by omega) (by omega)
  have e32 : (F + nI a + nI b).toInt = if F.toInt + (a + b : Nat) < 2147483648 then F.toInt + (a + b : Nat) else F.toInt + (a + b : Nat) - 4294967296 := by
    rw [Int32.add_assoc, nI_add, rd32 F (by omega)]
  have ez : (nI z).toInt64.toInt = z := by rw [Int32.toInt_toInt64, nI_toInt (by omega)]
  have e1 : (nI z - 1).toInt = (z : Int) - 1 := by
    rw [show (1 : Int32) = nI 1 from rfl, pk_sub_toInt (by omega) (by omega)]
    rfl
  have c1 : F.toInt64 + (nI a).toInt64 + (nI b).toInt64 < 0 ↔ F.toInt + a + b < 0 := by
    rw [Int64.lt_iff_toInt_lt, e64]
    exact Iff.rfl
  have c2 : F.toInt64 + (nI a).toInt64 + (nI b).toInt64 < (nI z).toInt64 ↔ F.toInt + a + b < z := by
    rw [Int64.lt_iff_toInt_lt, e64, ez]
  have c3 : (0 ≤ F + nI a + nI b ∧ F + nI a + nI b ≤ nI z - 1) ↔ (0 ≤ F.toInt + a + b ∧ F.toInt + a + b < z) := by
    rw [Int32.le_iff_toInt_le, Int32.le_iff_toInt_le, e32, e1, show (0 : Int32).toInt = 0 from rfl]
    split <;> omega
  by_cases q1 : F.toInt + a + b < 0
  · rw [if_pos (c1.mpr q1), if_neg (fun y => by have := c3.mp y; omega)]
  · rw [if_neg (fun y => q1 (c1.mp y))]
    by_cases q2 : F.toInt + a + b < z
    · rw [if_pos (c2.mpr q2), if_pos (c3.mpr ⟨by omega, q2⟩)]
    · rw [if_neg (fun y => q2 (c2.mp y)), if_neg (fun y => by have := c3.mp y; omega)]
section BS7
variable {V : am_V} {f : Nat → Nat → Int32} {τ : Nat → Nat → Int64}
theorem m3_f3 {j i : Nat} (hS : IS f j) (hi : i < 13) (ln F : Int32) : m3 f j ln F i 3 = rdFl f (53 + 2 * j) ln F i := by
  unfold rdFl
  obtain ⟨h1, ⟨z, hz, z1, z2⟩, -⟩ := hS
  rcases h1 with ⟨h1, h2⟩ | ⟨q, hq, h1, h2⟩
  · have v : ∀ c, m3V f j ln F i c = 1 := fun c => by unfold m3V; rw [if_pos h2]
    have w : ∀ x, faF f (53 + 2 * j) x = 1 := fun x => by unfold faF; rw [if_pos h1]
    have w0 : fsF f (53 + 2 * j) ln = 0 := by unfold fsF; rw [if_pos h1]
    simp only [m3, f3F, v, w, w0]
  · have g1 : ¬ nI q = -1 := fun y => absurd (show nI q < 0 by rw [y]; decide) (nI_pos (by omega))
    have g2 : ¬ nI q = -4 := nI_ne4 (by omega)
    by_cases ql : nI q = ln
    · have v : ∀ c, c < 3 → m3V f j ln F i c = faF f (53 + 2 * j) (F + nI (3 * i) + nI c) := fun c hc => by
        unfold m3V faF
        rw [h2, h1, if_neg g2, if_neg g1, if_pos ql, z2, z1]
        exact rd_cmp F (by omega) (by omega) hz
      have w0 : fsF f (53 + 2 * j) ln = 0 := by unfold fsF; rw [h1, if_neg g1, if_pos ql]
      simp only [m3, f3F, v 0 (by omega), v 1 (by omega), v 2 (by omega), w0]
    · have v : ∀ c, m3V f j ln F i c = 3 := fun c => by unfold m3V; rw [h2, if_neg g2, if_neg ql]
      have w0 : fsF f (53 + 2 * j) ln = 3 := by unfold fsF; rw [h1, if_neg g1, if_neg ql]
      simp [m3, f3F, v, w0]
theorem rd_cells {j i : Nat} (hS : IS f j) (ln F : Int32) (h0 : rdFl f (53 + 2 * j) ln F i = 0) : ∃ u, u + 2 < 40 ∧ nI (40 * j) + F + nI (3 * i) = nI (40 * j + u) ∧ f 75 (40 * j + u) = rdC f (53 + 2 * j) F 0 i ∧ f 75 (40 * j + u + 1) = rdC f (53 + 2 * j) F 1 i ∧ f 75 (40 * j + u + 2) = rdC f (53 + 2 * j) F 2 i := by
  obtain ⟨h1, ⟨z, hz, z1, z2⟩, hc⟩ := hS
  have k0 : faF f (53 + 2 * j) (F + nI (3 * i) + nI 0) = 0 ∧ faF f (53 + 2 * j) (F + nI (3 * i) + nI 1) = 0 ∧ faF f (53 + 2 * j) (F + nI (3 * i) + nI 2) = 0 := by
    unfold rdFl at h0
    have y2 : f3F f (53 + 2 * j) ln (F + nI (3 * i)) 2 = 0 := Classical.byContradiction fun y => y ((f3F_stop y 1).symm.trans h0)
    have y1 : f3F f (53 + 2 * j) ln (F + nI (3 * i)) 1 = 0 := Classical.byContradiction fun y => y ((f3F_stop y 1).symm.trans y2)
    have y0 : f3F f (53 + 2 * j) ln (F + nI (3 * i)) 0 = 0 := Classical.byContradiction fun y => y ((f3F_stop y 1).symm.trans y1)
    have r2 := h0
    have r1 := y2
    have r0 := y1
    rw [f3F, if_pos y2] at r2
    rw [f3F, if_pos y1] at r1
    rw [f3F, if_pos y0] at r0
    exact ⟨r0, r1, r2⟩
  obtain ⟨k0, k1, k2⟩ := k0
  have fa : ∀ x, faF f (53 + 2 * j) x = 0 → 0 ≤ x ∧ x ≤ nI z - 1 := by
    intro x hx
    unfold faF at hx
    split at hx
    · exact absurd hx (by decide)
    · split at hx
      · rename_i y; rw [z1] at y; exact y
      · exact absurd hx (by decide)
  obtain ⟨u, hu, eu⟩ := key_in (by omega) (fa _ k0)
  obtain ⟨u2, hu2, eu2⟩ := key_in (by omega) (fa _ k2)
  have eF : F + nI (3 * i) = nI u := by
    rw [← eu]
    exact (Int32.add_zero _).symm
  rw [eF, nI_add] at eu2
  have hu2' : u + 2 = u2 := (nI_eq (by omega) (by omega)).mp eu2
  have c : ∀ v, v < 3 → faF f (53 + 2 * j) (F + nI (3 * i) + nI v) = 0 → f 75 (40 * j + (u + v)) = rdC f (53 + 2 * j) F v i := fun v hv hx => by
    unfold rdC gtF
    rw [if_pos hx, eF, nI_add, nI_clamp (by omega), hc (u + v) (by omega)]
  refine ⟨u, by omega, ?_, c 0 (by omega) k0, ?_, ?_⟩
  · rw [Int32.add_assoc, eF, nI_add]
  · exact c 1 (by omega) k1
  · exact c 2 (by omega) k2
theorem rdO_ok {fl : Nat → Int32} {ok : Nat → Prop} [DecidablePred ok] : ∀ m i, i ≤ (rdO fl ok m i).1 ∧ ∀ u, i ≤ u → u < (rdO fl ok m i).1 → ok u := by
  intro m
  induction m with
  | zero => intro i; exact ⟨Nat.le_refl _, fun u h1 h2 => absurd (show u < i from h2) (by omega)⟩
  | succ m ih =>
    intro i
    rw [rdO]
    split
    · split
      · rename_i q
        obtain ⟨a, b⟩ := ih (i + 1)
        refine ⟨by omega, fun u h1 h2 => ?_⟩
        rcases (show u = i ∨ i + 1 ≤ u by omega) with rfl | y
        · exact q
        · exact b u y h2
      · exact ⟨Nat.le_refl _, fun u h1 h2 => absurd (show u < i from h2) (by omega)⟩
    · exact ⟨Nat.le_refl _, fun u h1 h2 => absurd (show u < i from h2) (by omega)⟩
theorem b_read (hI : INV f) (k ln F x : Int32) : Both V MX4_read MX5_read 9 [.int k, .int ln, .int F, .int x] (f, τ) := by
  obtain ⟨n, p, s, e, T, hB⟩ := hI.1
  obtain ⟨⟨n4, p8, s6, e1, e4, T9⟩, ⟨a1, a2, a3, a4, a5⟩, ⟨b1, b2, b3, b4, b5⟩, hk, hp, hs⟩ := hB
  rw [Nat.zero_add] at b1 b2 b3 b4 b5
  obtain ⟨hB, hT, ⟨hf1, hf2⟩, hM, hS⟩ := hI
  have hI : INV f := ⟨hB, hT, ⟨hf1, hf2⟩, hM, hS⟩
  have key : ∀ f1 : Nat → Nat → Int32, (∀ c q, c ≠ 8 → c ≠ 9 → c ≠ 10 → ¬ (c = 2 ∧ q = 5) → ¬ (c = 0 ∧ q = 9) → f1 c q = f c q) → _ := fun f1 hx => n_read (V := V) (d := 6) (f := f1) (τ := τ) (p := p) n4 ((hx 65 28 (by omega) (by omega) (by omega) (by omega) (by omega)).trans b1) p8 ((hx 65 53 (by omega) (by omega) (by omega) (by omega) (by omega)).trans b2) (fl := fun j i => rdFl f (53 + 2 * j) ln F i) (T := fun j i => rdC f (53 + 2 * j) F 0 i) (K := fun j i => rdC f (53 + 2 * j) F 1 i) (S := fun j i => rdC f (53 + 2 * j) F 2 i) ln F
    (fun j i hj hi => by
      rw [← m3_f3 (hS j hj) hi]
      have r73 : f1 73 = f 73 := funext fun q => hx 73 q (by omega) (by omega) (by omega) (by omega) (by omega)
      have r74 : f1 74 = f 74 := funext fun q => hx 74 q (by omega) (by omega) (by omega) (by omega) (by omega)
      simp only [m3, m3V, r73, r74])
    (fun j i hj hi h0 => by
      have r75 : f1 75 = f 75 := funext fun q => hx 75 q (by omega) (by omega) (by omega) (by omega) (by omega)
      rw [r75]
      exact rd_cells (hS j hj) ln F h0) k x
  refine (g_read (d := 6) n4 a1 p8 a2 (fun j hj => by obtain ⟨z, hz, z1, -⟩ := (hS j hj).2.1; exact ⟨z, hz, z1⟩) k ln F x).mono ?_
  rintro r S1 (⟨j, N, hj, hN, rfl, rfl, hln, hr, f1, rfl, x1, x2, x3, x4, x5⟩ | ⟨hno, rfl, rfl⟩)
  · refine (key f1 x3).mono ?_
    rintro r2 S2 (⟨j', N', hj', hN', ej, eN, -, hr2, f2, rfl, y1, y2, y3, y4, y5⟩ | ⟨hno, -, -⟩)
    · have ej' : j' = j := ((nI_eq (by omega) (by omega)).mp ej).symm
      have eN' : N' = N := ((nI_eq (by omega) (by omega)).mp eN).symm
      subst ej'
      subst eN'
      refine ⟨hr2.trans hr.symm, ?_⟩
      show INV f2
      have hok := rdO_ok (fl := rdFl f (53 + 2 * j') ln F) (ok := okP n p (rdC f (53 + 2 * j') F 0) (rdC f (53 + 2 * j') F 1) (rdC f (53 + 2 * j') F 2)) N' 0
      revert hok x1 x2 x5 y1 y2 y5
      unfold rdX
      generalize hO : rdO (rdFl f (53 + 2 * j') ln F) (okP n p (rdC f (53 + 2 * j') F 0) (rdC f (53 + 2 * j') F 1) (rdC f (53 + 2 * j') F 2)) N' 0 = O
      intro y1 y2 y5 x1 x2 x5 hok
      have e : ∀ c q, c ≠ 8 → c ≠ 9 → c ≠ 10 → ¬ (c = 2 ∧ q = 5) → ¬ (c = 0 ∧ q = 9) → c ≠ 65 → c ≠ 76 → ¬ (c = 64 ∧ q = 27) → f2 c q = f c q := fun c q a b d g i k l m => (y3 c q k l m).trans (x3 c q a b d g i)
      have e65 : ∀ q, q < 29 + 3 * p ∨ 54 ≤ q → f2 65 q = f 65 q := fun q hq => (y4 q hq).trans (x3 65 q (by omega) (by omega) (by omega) (by omega) (by omega))
      have c1 : ∀ c q, c < 64 → f2 c q = f1 c q := fun c q hc => y3 c q (by omega) (by omega) (by omega)
      have hp0 : BRp f2 2 0 n p := BRp.cg hp (Nat.le_refl _) (fun i hi => by
        obtain ⟨u1, u2, u3⟩ := x4 i hi
        exact ⟨(c1 8 i (by omega)).trans u1, (c1 9 i (by omega)).trans u2, (c1 10 i (by omega)).trans u3⟩) (fun i _ _ => e65 _ (by omega))
      have hp1 : BRp f2 2 0 n (rdP p O) ∧ rdP p O ≤ 8 := by
        unfold rdP
        by_cases q2 : O.2 = 2
        · rw [if_pos q2]; exact ⟨hp0, p8⟩
        · rw [if_neg q2]
          have l8 : p + O.1 ≤ 8 := by
            rcases (show O.1 = 0 ∨ 0 < O.1 by omega) with y | y
            · omega
            · have := (hok.2 (O.1 - 1) (by omega) (by omega)).2.2.2
              omega
          refine ⟨fun i hi => ?_, l8⟩
          by_cases yi : i < p
          · exact hp0 i yi
          · obtain ⟨v, rfl⟩ : ∃ v, i = p + v := ⟨i - p, by omega⟩
            have hv : v < O.1 := by omega
            obtain ⟨u1, u2, u3⟩ := x5 q2 v hv
            obtain ⟨w1, w2, w3⟩ := y5 q2 v hv
            obtain ⟨o1, o2, o3, -⟩ := hok.2 v (by omega) hv
            have g1 : f2 (2 + 6) (p + v) = rdC f (53 + 2 * j') F 0 v := (c1 8 _ (by omega)).trans u1
            have g2 : f2 (2 + 7) (p + v) = rdC f (53 + 2 * j') F 1 v := (c1 9 _ (by omega)).trans u2
            have g3 : f2 (2 + 8) (p + v) = rdC f (53 + 2 * j') F 2 v := (c1 10 _ (by omega)).trans u3
            rw [g1, g2, g3, Nat.zero_add, Nat.zero_add, Nat.zero_add]
            exact ⟨rng_of (n := 99) (by omega) o1, key_in (by omega) o2, rng_of (n := 1) (by omega) o3, w1, w2, w3⟩
      refine ⟨⟨n, rdP p O, s, _, T, ⟨n4, hp1.2, s6, e1, e4, T9⟩, ⟨(e _ _ (by omega) (by omega) (by omega) (by omega) (by omega) (by omega) (by omega) (by omega)).trans a1, (c1 2 5 (by omega)).trans x1, (e _ _ (by omega) (by omega) (by omega) (by omega) (by omega) (by omega) (by omega) (by omega)).trans a3, (e _ _ (by omega) (by omega) (by omega) (by omega) (by omega) (by omega) (by omega) (by omega)).trans a4, (e _ _ (by omega) (by omega) (by omega) (by omega) (by omega) (by omega) (by omega) (by omega)).trans a5⟩, ⟨(e65 _ (by omega)).trans b1, y1, (e65 _ (by omega)).trans b3, (e65 _ (by omega)).trans b4, (e65 _ (by omega)).trans b5⟩, ?_, hp1.1, ?_⟩, hT.cg (e _ _ (by omega) (by omega) (by omega) (by omega) (by omega) (by omega) (by omega) (by omega)) (e _ _ (by omega) (by omega) (by omega) (by omega) (by omega) (by omega) (by omega) (by omega)) (fun q _ => e _ _ (by omega) (by omega) (by omega) (by omega) (by omega) (by omega) (by omega) (by omega)) (fun q _ => e _ _ (by omega) (by omega) (by omega) (by omega) (by omega) (by omega) (by omega) (by omega)), ⟨?_, ?_⟩, fun j hj => (hM j hj).cg (e _ _ (by omega) (by omega) (by omega) (by omega) (by omega) (by omega) (by omega) (by omega)) (e _ _ (by omega) (by omega) (by omega) (by omega) (by omega) (by omega) (by omega) (by omega)) (fun c i q => ?_), fun k hk => (hS k hk).cg (funext fun i => e _ _ (by omega) (by omega) (by omega) (by omega) (by omega) (by omega) (by omega) (by omega)) (funext fun i => e _ _ (by omega) (by omega) (by omega) (by omega) (by omega) (by omega) (by omega) (by omega)) (e _ _ (by omega) (by omega) (by omega) (by omega) (by omega) (by omega) (by omega) (by omega)) (e _ _ (by omega) (by omega) (by omega) (by omega) (by omega) (by omega) (by omega) (by omega)) (fun i _ => e _ _ (by omega) (by omega) (by omega) (by omega) (by omega) (by omega) (by omega) (by omega))⟩
      · exact BRk.cg hk (fun k _ => funext fun j => e _ _ (by omega) (by omega) (by omega) (by omega) (by omega) (by omega) (by omega) (by omega)) (fun j _ => e65 _ (by omega))
      · exact BRs.cg hs (Nat.le_refl _) (fun i _ => ⟨e _ _ (by omega) (by omega) (by omega) (by omega) (by omega) (by omega) (by omega) (by omega), e _ _ (by omega) (by omega) (by omega) (by omega) (by omega) (by omega) (by omega) (by omega), e _ _ (by omega) (by omega) (by omega) (by omega) (by omega) (by omega) (by omega) (by omega)⟩) (fun j _ _ => e65 _ (by omega))
      · rw [e 0 8 (by omega) (by omega) (by omega) (by omega) (by omega) (by omega) (by omega) (by omega), e 64 12 (by omega) (by omega) (by omega) (by omega) (by omega) (by omega) (by omega) (by omega)]
        exact hf1
      · rw [c1 0 9 (by omega), x2, y2, x3 64 27 (by omega) (by omega) (by omega) (by omega) (by omega), hf2]
      · rcases q with q | q
        · exact e c i (by omega) (by omega) (by omega) (by omega) (by omega) (by omega) (by omega) (by omega)
        · rw [q.1]; exact e65 i (by omega)
    · exact absurd ⟨⟨nI_pos' (by omega), nI_le (b := 3) (by omega) (by omega)⟩, hln, nI_pos' (by omega), nI_le (b := 13) hN (by omega)⟩ hno
  · refine (key f (fun _ _ _ _ _ _ _ => rfl)).mono ?_
    rintro r2 S2 (⟨j', N', hj', hN', rfl, rfl, hln, -⟩ | ⟨-, rfl, rfl⟩)
    · exact absurd ⟨⟨nI_pos' (by omega), nI_le (b := 3) (by omega) (by omega)⟩, hln, nI_pos' (by omega), nI_le (b := 13) hN' (by omega)⟩ hno
    · exact ⟨rfl, hI⟩
end BS7
