/-! THE LAW'S INVARIANT: the class's cells and the model's tell the same. -/
def IB (f : Nat → Nat → Int32) : Prop := ∃ n p s e T, BR f 2 0 n p s e T
def IT (f : Nat → Nat → Int32) : Prop := ∃ L, L ≤ 160 ∧ f 0 1 = nI L ∧ f 64 7 = nI L ∧ ∀ q, q < L → f 69 q = f 1 q ∧ ¬ f 1 q < 0
def IM (f : Nat → Nat → Int32) (j : Nat) : Prop := (f 67 j = 0 ∨ f 67 j = 1) ∧ f 27 j = f 67 j ∧ (f 67 j = 1 → ∃ n p s e T, BR f (28 + 12 * j) (75 * (j + 1)) n p s e T)
def IS (f : Nat → Nat → Int32) (k : Nat) : Prop := ((f (53 + 2 * k) 1 = -1 ∧ f 73 k = -4) ∨ ∃ q, q ≤ 2 ∧ f (53 + 2 * k) 1 = nI q ∧ f 73 k = nI q) ∧ (∃ z, z ≤ 40 ∧ f (53 + 2 * k) 2 = nI z ∧ f 74 k = nI z) ∧ ∀ i, i < 40 → f 75 (40 * k + i) = f (53 + 2 * k + 1) i
def INV (f : Nat → Nat → Int32) : Prop := IB f ∧ IT f ∧ (f 0 8 = f 64 12 ∧ f 0 9 = f 64 27) ∧ (∀ j, j < 2 → IM f j) ∧ ∀ k, k < 4 → IS f k
theorem BR.cg {f f' : Nat → Nat → Int32} {b o n p s e T : Nat} (h : ∀ c j, (b ≤ c ∧ c < b + 12) ∨ (c = 65 ∧ o ≤ j ∧ j < o + 75) → f' c j = f c j) (hB : BR f b o n p s e T) : BR f' b o n p s e T := by
  have er : ∀ c, b ≤ c → c < b + 12 → f' c = f c := fun c h1 h2 => funext fun j => h c j (Or.inl ⟨h1, h2⟩)
  have eo : ∀ j, j < 75 → f' 65 (o + j) = f 65 (o + j) := fun j hj => h 65 (o + j) (Or.inr ⟨rfl, by omega, by omega⟩)
  obtain ⟨hA, ⟨a1, a2, a3, a4, a5⟩, ⟨b1, b2, b3, b4, b5⟩, hk, hp, hs⟩ := hB
  have hA0 := hA
  obtain ⟨n4, p8, s6, -⟩ := hA0
  have e0 := er b (by omega) (by omega)
  refine ⟨hA, ⟨by rw [e0]; exact a1, by rw [e0]; exact a2, by rw [e0]; exact a3, by rw [e0]; exact a4, by rw [e0]; exact a5⟩, ⟨by rw [eo 28 (by omega)]; exact b1, by rw [eo 53 (by omega)]; exact b2, by rw [eo 56 (by omega)]; exact b3, by rw [eo 54 (by omega)]; exact b4, by rw [eo 55 (by omega)]; exact b5⟩, fun k hk1 => ?_, fun i hi => ?_, fun i hi => ?_⟩
  · obtain ⟨g1, g2⟩ := hk k hk1
    rw [er (b + 2 + k) (by omega) (by omega)]
    exact ⟨g1, fun j hj => by rw [eo _ (by omega)]; exact g2 j hj⟩
  · obtain ⟨g1, g2, g3, g4, g5, g6⟩ := hp i hi
    rw [er (b + 6) (by omega) (by omega), er (b + 7) (by omega) (by omega), er (b + 8) (by omega) (by omega), eo _ (by omega), eo _ (by omega), eo _ (by omega)]
    exact ⟨g1, g2, g3, g4, g5, g6⟩
  · obtain ⟨g1, g2, g3, g4, g5, g6⟩ := hs i hi
    rw [er (b + 9) (by omega) (by omega), er (b + 10) (by omega) (by omega), er (b + 11) (by omega) (by omega), eo _ (by omega), eo (57 + 3 * i + 1) (by omega), eo (57 + 3 * i + 2) (by omega)]
    exact ⟨g1, g2, g3, g4, g5, g6⟩
theorem IB.cg {f f' : Nat → Nat → Int32} (h : ∀ c j, (2 ≤ c ∧ c < 14) ∨ (c = 65 ∧ j < 75) → f' c j = f c j) (hB : IB f) : IB f' := by
  obtain ⟨n, p, s, e, T, hB⟩ := hB
  exact ⟨n, p, s, e, T, hB.cg (fun c j q => h c j (by omega))⟩
theorem IT.cg {f f' : Nat → Nat → Int32} (h0 : f' 0 1 = f 0 1) (h7 : f' 64 7 = f 64 7) (h1 : ∀ q, q < 160 → f' 1 q = f 1 q) (h69 : ∀ q, q < 160 → f' 69 q = f 69 q) (hI : IT f) : IT f' := by
  obtain ⟨L, h, a, b, c⟩ := hI
  exact ⟨L, h, h0.trans a, h7.trans b, fun q hq => by rw [h1 q (by omega), h69 q (by omega)]; exact c q hq⟩
theorem IM.cg {f f' : Nat → Nat → Int32} {j : Nat} (h67 : f' 67 j = f 67 j) (h27 : f' 27 j = f 27 j) (h : ∀ c i, (28 + 12 * j ≤ c ∧ c < 28 + 12 * j + 12) ∨ (c = 65 ∧ 75 * (j + 1) ≤ i ∧ i < 75 * (j + 1) + 75) → f' c i = f c i) (hI : IM f j) : IM f' j := by
  obtain ⟨a, b, c⟩ := hI
  refine ⟨by rw [h67]; exact a, by rw [h67, h27]; exact b, fun q => ?_⟩
  obtain ⟨n, p, s, e, T, hB⟩ := c (by rw [← h67]; exact q)
  exact ⟨n, p, s, e, T, hB.cg h⟩
theorem IS.cg {f f' : Nat → Nat → Int32} {k : Nat} (h1 : f' (53 + 2 * k) = f (53 + 2 * k)) (h2 : f' (53 + 2 * k + 1) = f (53 + 2 * k + 1)) (h73 : f' 73 k = f 73 k) (h74 : f' 74 k = f 74 k) (h75 : ∀ i, i < 40 → f' 75 (40 * k + i) = f 75 (40 * k + i)) (hI : IS f k) : IS f' k := by
  obtain ⟨a, b, c⟩ := hI
  exact ⟨by rw [h1, h73]; exact a, by rw [h1, h74]; exact b, fun i hi => by rw [h75 i hi, h2]; exact c i hi⟩
/-- the cells that the invariant looks at -/
def eqR (f' f : Nat → Nat → Int32) : Prop := ∀ c j, (c < 14 ∨ (26 ≤ c ∧ c ≠ 61 ∧ c ≠ 62 ∧ c ≠ 63 ∧ c ≠ 66 ∧ c ≠ 68 ∧ c ≠ 70 ∧ c ≠ 71 ∧ c ≠ 72 ∧ c ≠ 76)) → (c = 64 → j = 7 ∨ j = 12 ∨ j = 27) → f' c j = f c j
theorem INV.cg {f f' : Nat → Nat → Int32} (h : eqR f' f) (hI : INV f) : INV f' := by
  obtain ⟨hB, hT, ⟨hf1, hf2⟩, hM, hS⟩ := hI
  refine ⟨hB.cg (fun c j q => h c j (by omega) (by omega)), hT.cg (h _ _ (by omega) (by omega)) (h _ _ (by omega) (by omega)) (fun q _ => h _ _ (by omega) (by omega)) (fun q _ => h _ _ (by omega) (by omega)), ⟨?_, ?_⟩, fun j hj => (hM j hj).cg (h _ _ (by omega) (by omega)) (h _ _ (by omega) (by omega)) (fun c i q => h c i (by omega) (by omega)), fun k hk => (hS k hk).cg (funext fun i => h _ _ (by omega) (by omega)) (funext fun i => h _ _ (by omega) (by omega)) (h _ _ (by omega) (by omega)) (h _ _ (by omega) (by omega)) (fun i _ => h _ _ (by omega) (by omega))⟩
  · rw [h 0 8 (by omega) (by omega), h 64 12 (by omega) (by omega)]; exact hf1
  · rw [h 0 9 (by omega) (by omega), h 64 27 (by omega) (by omega)]; exact hf2
theorem eqT.R {f' f : Nat → Nat → Int32} (h : eqT f' f) : eqR f' f := fun c j h1 _ => congrFun (h c (by omega) (by omega) (by omega)) j
theorem eqM.R {f' f : Nat → Nat → Int32} (h : eqM f' f) : eqR f' f := fun c j h1 h2 => h c j (by omega) (by omega) (by omega) (by omega) (by omega) (by omega)
theorem eqT.BR {f' f : Nat → Nat → Int32} {n p s e T : Nat} (h : eqT f' f) (hB : BR f 2 0 n p s e T) : BR f' 2 0 n p s e T := hB.cg (fun c j q => congrFun (h c (by omega) (by omega) (by omega)) j)
/-- both sides answer alike, and the invariant holds behind it -/
def Both (V : am_V) (M1 M2 : am_M) (d : Nat) (as : List Value) (S : fm) : Prop := AGi V M1 d (.ref 0 :: as) S (fun x S1 => AGi V M2 d (.ref 64 :: as) S1 (fun y S2 => y = x ∧ INV S2.1))
def BothL (V : am_V) (M1 M2 : am_M) (d : Nat) (as : List Value) (S : fm) : Prop := AGl V M1 d (.ref 0 :: as) S (fun x S1 => AGl V M2 d (.ref 64 :: as) S1 (fun y S2 => y = x ∧ INV S2.1))
theorem AGi.mono {V : am_V} {M : am_M} {d : Nat} {args : List Value} {S : fm} {P Q : Int32 → fm → Prop} (h : AGi V M d args S P) (k : ∀ x S', P x S' → Q x S') : AGi V M d args S Q := AM.weaken (fun _ _ ⟨x, S', e1, e2, e3⟩ => ⟨x, S', e1, e2, k x S' e3⟩) h
theorem AGl.mono {V : am_V} {M : am_M} {d : Nat} {args : List Value} {S : fm} {P Q : Int64 → fm → Prop} (h : AGl V M d args S P) (k : ∀ x S', P x S' → Q x S') : AGl V M d args S Q := AM.weaken (fun _ _ ⟨x, S', e1, e2, e3⟩ => ⟨x, S', e1, e2, k x S' e3⟩) h
theorem AF.gi {V : am_V} {M : am_M} {d : Nat} {args : List Value} {S S' : fm} {x : Int32} {Q : Int32 → fm → Prop} (h : AF V M d args S (some (.int x)) S') (k : Q x S') : AGi V M d args S Q := AM.weaken (fun _ _ ⟨e1, e2⟩ => ⟨x, S', e1, e2, k⟩) h
theorem Both.ff {V : am_V} {M1 M2 : am_M} {d : Nat} {as : List Value} {S S1 S2 : fm} {x y : Int32} (h1 : AF V M1 d (.ref 0 :: as) S (some (.int x)) S1) (h2 : AF V M2 d (.ref 64 :: as) S1 (some (.int y)) S2) (e : y = x) (hI : INV S2.1) : Both V M1 M2 d as S := h1.gi (h2.gi ⟨e, hI⟩)
theorem Both.fm {V : am_V} {M1 M2 : am_M} {d : Nat} {as : List Value} {f : Nat → Nat → Int32} {τ : Nat → Nat → Int64} {x : Int32} (hI : INV f) (h1 : AF V M1 d (.ref 0 :: as) (f, τ) (some (.int x)) (f, τ)) (h2 : AGi V M2 d (.ref 64 :: as) (f, τ) (GM τ f x)) : Both V M1 M2 d as (f, τ) := h1.gi (h2.mono (fun y S' ⟨e, f', e2, g⟩ => ⟨e, by rw [e2]; exact hI.cg g.R⟩))
theorem Both.tm {V : am_V} {M1 M2 : am_M} {d : Nat} {as : List Value} {f : Nat → Nat → Int32} {τ : Nat → Nat → Int64} {x : Int32} (hI : INV f) (h1 : AGi V M1 d (.ref 0 :: as) (f, τ) (GT τ f x)) (h2 : ∀ f1, eqT f1 f → ∃ y, y = x ∧ AGi V M2 d (.ref 64 :: as) (f1, τ) (GM τ f1 y)) : Both V M1 M2 d as (f, τ) := h1.mono (fun x' S1 ⟨e1, f1, e2, g1⟩ => by
  subst e1
  subst e2
  obtain ⟨y, ey, h⟩ := h2 f1 g1
  exact h.mono (fun y' S' ⟨e, f', e3, g⟩ => ⟨e.trans ey, by rw [e3]; exact (hI.cg g1.R).cg g.R⟩))
theorem BothL.tm {V : am_V} {M1 M2 : am_M} {d : Nat} {as : List Value} {f : Nat → Nat → Int32} {τ : Nat → Nat → Int64} {x : Int64} (hI : INV f) (h1 : AGl V M1 d (.ref 0 :: as) (f, τ) (GTl τ f x)) (h2 : ∀ f1, eqT f1 f → ∃ y, y = x ∧ AGl V M2 d (.ref 64 :: as) (f1, τ) (GMl f1 y)) : BothL V M1 M2 d as (f, τ) := h1.mono (fun x' S1 ⟨e1, f1, e2, g1⟩ => by
  subst e1
  subst e2
  obtain ⟨y, ey, h⟩ := h2 f1 g1
  exact h.mono (fun y' S' ⟨e, g⟩ => ⟨e.trans ey, (hI.cg g1.R).cg g.R⟩))
/-- what the answers look at -/
theorem cg_K0 {f1 f : Nat → Nat → Int32} (h : ∀ c, c < 14 → f1 c = f c) : K0 f1 = K0 f := by
  funext k
  unfold K0
  rw [h _ (by omega)]
theorem cg_nzK {f1 f : Nat → Nat → Int32} (h : ∀ c, c < 14 → f1 c = f c) (n p m : Nat) : ∀ i, nzK f1 n p m i = nzK f n p m i := by
  intro i
  induction i with
  | zero => simp only [nzK, h 2 (by omega), cg_K0 h]
  | succ i ih => simp only [nzK, qcK, av0, ih, h 2 (by omega), h 8 (by omega), h 9 (by omega), h 10 (by omega), cg_K0 h]
theorem cg_lkN {f1 f : Nat → Nat → Int32} (h : ∀ c, c < 14 → f1 c = f c) (n p v N j : Nat) : ∀ i, lkN f1 n p v N j i = lkN f n p v N j i := by
  intro i
  induction i with
  | zero => rfl
  | succ i ih => simp only [lkN, ih, cg_nzK h]
theorem cg_meN {f1 f : Nat → Nat → Int32} (h : ∀ c, c < 14 → f1 c = f c) (n p v N : Nat) : ∀ i, meN f1 n p v N i = meN f n p v N i := by
  intro i
  induction i with
  | zero => rfl
  | succ i ih => simp only [meN, stN, ih, cg_nzK h]
theorem cg_luck {f1 f : Nat → Nat → Int32} (h : ∀ c, c < 14 → f1 c = f c) (n p : Nat) (v k x what : Int32) : r_luck f1 n p v k x what = r_luck f n p v k x what := by
  simp only [r_luck, cg_lkN h, h 2 (by omega)]
theorem cg_mean {f1 f : Nat → Nat → Int32} (h : ∀ c, c < 14 → f1 c = f c) (n p : Nat) (v x what : Int32) : r_mean f1 n p v x what = r_mean f n p v x what := by
  simp only [r_mean, cg_meN h, h 2 (by omega)]
