/-- the class's board at b and the model's cells from o on tell the same -/
def BR (f : Nat → Nat → Int32) (b o n p s e T : Nat) : Prop :=
  (n ≤ 4 ∧ p ≤ 8 ∧ s ≤ 6 ∧ 1 ≤ e ∧ e ≤ 4 ∧ T ≤ 999) ∧
  (f b 1 = nI n ∧ f b 5 = nI p ∧ f b 11 = nI s ∧ f b 6 = nI e ∧ f b 7 = nI T) ∧
  (f 65 (o + 28) = nI n ∧ f 65 (o + 53) = nI p ∧ f 65 (o + 56) = nI s ∧ f 65 (o + 54) = nI e ∧ f 65 (o + 55) = nI T) ∧
  (∀ k, k < n → kOK (f (b + 2 + k)) ∧ ∀ j, j < 7 → f 65 (o + (7 * k + j)) = f (b + 2 + k) j) ∧
  (∀ i, i < p → (∃ q, q ≤ 99 ∧ f (b + 6) i = nI q) ∧ (∃ q, q < n ∧ f (b + 7) i = nI q) ∧ (∃ q, q ≤ 1 ∧ f (b + 8) i = nI q) ∧ f 65 (o + (29 + 3 * i + 0)) = f (b + 6) i ∧ f 65 (o + (29 + 3 * i + 1)) = f (b + 7) i ∧ f 65 (o + (29 + 3 * i + 2)) = f (b + 8) i) ∧
  (∀ i, i < s → (∃ q, q ≤ 40 ∧ f (b + 9) i = nI q) ∧ (∃ q, q < n ∧ f (b + 10) i = nI q) ∧ (∃ q, q ≤ 1 ∧ f (b + 11) i = nI q) ∧ f 65 (o + (57 + 3 * i)) = f (b + 9) i ∧ f 65 (o + (57 + 3 * i + 1)) = f (b + 10) i ∧ f 65 (o + (57 + 3 * i + 2)) = f (b + 11) i)
/-- all but the model's own cells of use is as in f0 -/
def eqM (f f0 : Nat → Nat → Int32) : Prop := ∀ c j, c ≠ 66 → c ≠ 70 → c ≠ 71 → c ≠ 72 → c ≠ 76 → ¬ (c = 64 ∧ 15 ≤ j ∧ j ≤ 18) → f c j = f0 c j
theorem eqM.rf {f : Nat → Nat → Int32} : eqM f f := fun _ _ _ _ _ _ _ _ => rfl
theorem eqM.step {f f' f0 : Nat → Nat → Int32} (h : eqM f f0) (h' : ∀ c j, c ≠ 66 → c ≠ 70 → c ≠ 71 → c ≠ 72 → c ≠ 76 → ¬ (c = 64 ∧ 15 ≤ j ∧ j ≤ 18) → f' c j = f c j) : eqM f' f0 := fun c j h1 h2 h3 h4 h5 h6 => (h' c j h1 h2 h3 h4 h5 h6).trans (h c j h1 h2 h3 h4 h5 h6)
def MR (f0 : Nat → Nat → Int32) (n p : Nat) (pk pt ps : Nat → Int32) (e : Nat) (K : Nat → Nat → Int32) (T : Nat) (f : Nat → Nat → Int32) : Prop := eqM f f0 ∧ isMd n p pk pt ps (nI e) K T f ∧ ∀ k, k < n → kOK (K k)
theorem stF_66 {f : Nat → Nat → Int32} {j : Nat} (h : j < 75) : stF f 66 j = f 65 j := by
  unfold stF
  rw [up2_ne (by omega), up2_ne (by omega), zrP_o (by omega)]
  have e := cpR_i (f := f) (c0 := 66) (o0 := 0) (c1 := 65) (o1 := 0) (i := 75) (j := j) h
  rw [Nat.zero_add] at e
  exact e
theorem stF_o {f : Nat → Nat → Int32} {c j : Nat} (h : c ≠ 66 ∧ c ≠ 70 ∧ ¬ (c = 64 ∧ 15 ≤ j ∧ j ≤ 16)) : stF f c j = f c j := by
  unfold stF
  rw [up2_ne (by omega), up2_ne (by omega), zrP_o (by omega), cpR_o (by omega)]
theorem sumF_0 : ∀ n, sumF (fun _ => 0) n = 0 := by
  intro n
  induction n with
  | zero => rfl
  | succ n ih => rw [sumF, ih]; rfl
def BM (f : Nat → Nat → Int32) (n p : Nat) (pk pt ps : Nat → Int32) (e : Nat) (K : Nat → Nat → Int32) (T : Nat) : Prop :=
  (n ≤ 4 ∧ p ≤ 8 ∧ 1 ≤ e ∧ e ≤ 4 ∧ T ≤ 999) ∧ (f 65 28 = nI n ∧ f 65 53 = nI p ∧ f 65 54 = nI e ∧ f 65 55 = nI T) ∧
  (∀ k, k < n → kOK (K k) ∧ K k 7 = 0 ∧ K k 8 = 0 ∧ ∀ j, j < 7 → f 65 (7 * k + j) = K k j) ∧
  (∀ i, i < p → (∃ q, q ≤ 99 ∧ pt i = nI q) ∧ f 65 (29 + 3 * i + 0) = pt i ∧ f 65 (29 + 3 * i + 1) = pk i ∧ f 65 (29 + 3 * i + 2) = ps i)
theorem kOK_kst {g : Nat → Int32} (h : kOK g) : kOK (kst g) := h
theorem BR_BM {f0 : Nat → Nat → Int32} {n p s e T : Nat} (hB : BR f0 2 0 n p s e T) : BM f0 n p (f0 9) (f0 8) (f0 10) e (K0 f0) T := by
  obtain ⟨⟨n4, p8, s6, e1, e4, T9⟩, -, ⟨b1, b2, b3, b4, b5⟩, hk, hp, -⟩ := hB
  have z : ∀ j, (0 : Nat) + j = j := Nat.zero_add
  refine ⟨⟨n4, p8, e1, e4, T9⟩, ⟨b1, b2, b4, b5⟩, fun k hk2 => ⟨?_, rfl, rfl, fun j hj => ?_⟩, fun i hi => ?_⟩
  · unfold K0
    rw [Nat.mod_eq_of_lt (by omega)]
    exact kOK_kst (hk k hk2).1
  · have g := (hk k hk2).2 j hj
    rw [z] at g
    rw [g]
    unfold K0 kst
    rw [if_pos hj, Nat.mod_eq_of_lt (by omega)]
  · obtain ⟨g0, -, -, g1, g2, g3⟩ := hp i hi
    rw [z] at g1 g2 g3
    exact ⟨g0, g1, g2, g3⟩
theorem sumF_z {c : Nat → Int32} : ∀ n, (∀ k, k < n → c k = 0) → sumF c n = 0 := by
  intro n h
  rw [sumF_congr n h]
  exact sumF_0 n
theorem stF_MRb {f f0 : Nat → Nat → Int32} {n p e T : Nat} {pk pt ps : Nat → Int32} {K : Nat → Nat → Int32} (hB : BM f0 n p pk pt ps e K T) (hE : eqM f f0) : MR f0 n p pk pt ps e K T (stF f) := by
  obtain ⟨⟨n4, p8, e1, e4, T9⟩, ⟨b1, b2, b4, b5⟩, hk, hp⟩ := hB
  have e65 : ∀ j, f 65 j = f0 65 j := fun j => hE 65 j (by omega) (by omega) (by omega) (by omega) (by omega) (by omega)
  have r66 : ∀ j, j < 75 → stF f 66 j = f0 65 j := fun j hj => (stF_66 hj).trans (e65 j)
  have r16 : stF f 64 16 = -4 := by unfold stF; rw [up2_self]
  have r15 : stF f 64 15 = 0 := by unfold stF; rw [up2_ne (by omega), up2_self]
  have r70 : ∀ k, k < 4 → stF f 70 k = 0 := fun k hk => by unfold stF; rw [up2_ne (by omega), up2_ne (by omega), zrP_i hk]
  refine ⟨hE.step (fun c j h1 h2 h3 h4 h5 h6 => stF_o (by omega)), ⟨(r66 28 (by omega)).trans b1, ⟨p, p8, (r66 53 (by omega)).trans b2, ?_⟩, (r66 54 (by omega)).trans b4, (r66 55 (by omega)).trans b5, ?_, ?_, ?_, ?_⟩, ?_⟩
  · intro b k U hU
    have row : ∀ i, i < p → pkM (stF f) i = pk i ∧ ptM (stF f) i = pt i ∧ psM (stF f) i = ps i := by
      intro i hi
      obtain ⟨-, g1, g2, g3⟩ := hp i hi
      exact ⟨(r66 _ (by omega)).trans g2, (r66 _ (by omega)).trans g1, (r66 _ (by omega)).trans g3⟩
    rw [r16, conS_none p8 (fun i hi => by rw [(row i hi).2.1]; exact (hp i hi).1) hU]
    exact conF_congr p8 row
  · intro k hk2 j hj
    rw [r66 _ (by omega)]
    exact (hk k hk2).2.2.2 j hj
  · intro k hk2
    rw [r70 k (by omega)]
    exact (hk k hk2).2.1.symm
  · intro k _ hk4
    exact r70 k hk4
  · rw [r15]
    exact (sumF_z n (fun k hk2 => (hk k hk2).2.2.1)).symm
  · intro k hk2
    exact (hk k hk2).1
theorem stF_MR {f f0 : Nat → Nat → Int32} {n p s e T : Nat} (hB : BR f0 2 0 n p s e T) (hE : eqM f f0) : MR f0 n p (f0 9) (f0 8) (f0 10) e (K0 f0) T (stF f) := stF_MRb (BR_BM hB) hE
theorem avK_t {pk pt ps : Nat → Int32} {n p T : Nat} {ev : Int32} {K : Nat → Nat → Int32} : ∀ i, (avK pk pt ps n p ev K (nI T) i).2 = nI (T + i) := by
  intro i
  induction i with
  | zero => rfl
  | succ i ih => rw [avK, ih, nI_1]; rfl
theorem MR.tick {f0 f : Nat → Nat → Int32} {n p e T : Nat} {pk pt ps : Nat → Int32} {K : Nat → Nat → Int32} (hn4 : n ≤ 4) (he : 1 ≤ e ∧ e ≤ 4) (h : MR f0 n p pk pt ps e K T f) (c : Int32) : MR f0 n p pk pt ps e (tkK (nI e) c K (nI T)) (T + 1) (tkM f n c) := by
  have r := tkM_Md hn4 he h.2.2 h.2.1 c
  exact ⟨h.1.step (fun c j h1 h2 h3 h4 h5 h6 => tkM_o hn4 (by omega)), r.1, r.2⟩
theorem MR.adv {f0 f : Nat → Nat → Int32} {n p e T q : Nat} {pk pt ps : Nat → Int32} {K : Nat → Nat → Int32} (hn4 : n ≤ 4) (he : 1 ≤ e ∧ e ≤ 4) (h : MR f0 n p pk pt ps e K T f) (hq8 : q ≤ 8) (hq : f 66 53 = nI q) : ∀ i, T + i < 2 ^ 20 → MR f0 n p pk pt ps e (avK pk pt ps n p (nI e) K (nI T) i).1 (T + i) (avM f n q i) := by
  intro i
  induction i with
  | zero => intro _; exact h
  | succ i ih =>
    intro hi
    have hT := ih (by omega)
    have hq' : avM f n q i 66 53 = nI q := (avM_o hn4 (by omega) i).trans hq
    have r := hT.tick hn4 he (cbM (avM f n q i) n q)
    unfold avM
    rw [cbM_Md (by omega) hT.2.1 hq' hq8] at r ⊢
    have e2 : (avK pk pt ps n p (nI e) K (nI T) (i + 1)).1 = tkK (nI e) (cbK pk pt ps n p (avK pk pt ps n p (nI e) K (nI T) i).1 (nI (T + i))) (avK pk pt ps n p (nI e) K (nI T) i).1 (nI (T + i)) := by
      rw [avK, avK_t]
    rw [e2]
    exact r
theorem MR.sum {f0 f : Nat → Nat → Int32} {n p e T : Nat} {pk pt ps : Nat → Int32} {K : Nat → Nat → Int32} (hn4 : n ≤ 4) (h : MR f0 n p pk pt ps e K T f) : sumF (f 70) 4 = sumF (fun k => K k 7) n := by
  obtain ⟨-, ⟨-, -, -, -, -, h6, h7, -⟩, -⟩ := h
  have key : ∀ m, m + n ≤ 4 → sumF (f 70) (n + m) = sumF (fun k => K k 7) n := by
    intro m
    induction m with
    | zero => intro _; exact sumF_congr n (fun k hk => h6 k hk)
    | succ m ih =>
      intro hm
      rw [← Nat.add_assoc, sumF, ih (by omega), h7 (n + m) (by omega) (by omega), Int32.add_zero]
  have e := key (4 - n) (by omega)
  rw [show n + (4 - n) = 4 by omega] at e
  exact e
theorem MR.or {f0 f : Nat → Nat → Int32} {n p e T : Nat} {pk pt ps : Nat → Int32} {K : Nat → Nat → Int32} (h : MR f0 n p pk pt ps e K T f) : orF (fun k => f 66 (7 * k + 3)) n = orF (fun k => K k 3) n := orF_congr n (fun k hk => h.2.1.2.2.2.2.1 k hk 3 (by decide))
def GM (τ : Nat → Nat → Int64) (f : Nat → Nat → Int32) (v : Int32) : Int32 → fm → Prop := fun x S' => x = v ∧ ∃ f', S' = (f', τ) ∧ eqM f' f
theorem n_starts {V : am_V} {d : Nat} {f : Nat → Nat → Int32} {τ : Nat → Nat → Int64} {f0 : Nat → Nat → Int32} {n p s e T : Nat} (hB : BR f0 2 0 n p s e T) (hE : eqM f f0) : AGv V MX5_starts d [.ref 64] (f, τ) (fun S' => ∃ f', S' = (f', τ) ∧ MR f0 n p (f0 9) (f0 8) (f0 10) e (K0 f0) T f' ∧ f' = stF f) :=
  f_X5_starts.toGv ⟨_, rfl, stF_MR hB hE, rfl⟩
theorem n_ticksGo {V : am_V} {d : Nat} {f : Nat → Nat → Int32} {τ : Nat → Nat → Int64} {f0 : Nat → Nat → Int32} {n p e T : Nat} {pk pt ps : Nat → Int32} {K : Nat → Nat → Int32} (hn4 : n ≤ 4) (he : 1 ≤ e ∧ e ≤ 4) (h : MR f0 n p pk pt ps e K T f) {N : Nat} (hN : T + N < 2 ^ 20) : AGv V MX5_ticksGo (d + 5) [.ref 64, .int (nI N)] (f, τ) (fun S' => ∃ f', S' = (f', τ) ∧ MR f0 n p pk pt ps e (avK pk pt ps n p (nI e) K (nI T) N).1 (T + N) f' ∧ ∀ c j, (c = 66 → 28 ≤ j ∧ j ≠ 55) ∧ c ≠ 70 ∧ ¬ (c = 64 ∧ j = 15) → f' c j = f c j) := by
  obtain ⟨q, hq8, hq, -⟩ := h.2.1.2.1
  refine (f_X5_ticksGo hn4 h.2.1.1 hq8 hq (by rw [h.2.1.2.2.1]; exact nI_ne0 (by omega) (by omega)) (by omega)).toGv ⟨_, rfl, h.adv hn4 he hq8 hq N hN, fun c j hh => avM_o hn4 hh N⟩
theorem n_tickGoesBy {V : am_V} {d : Nat} {f : Nat → Nat → Int32} {τ : Nat → Nat → Int64} {f0 : Nat → Nat → Int32} {n p e T : Nat} {pk pt ps : Nat → Int32} {K : Nat → Nat → Int32} (hn4 : n ≤ 4) (he : 1 ≤ e ∧ e ≤ 4) (h : MR f0 n p pk pt ps e K T f) (c : Int32) : AGv V MX5_tickGoesBy (d + 4) [.ref 64, .int c] (f, τ) (fun S' => ∃ f', S' = (f', τ) ∧ MR f0 n p pk pt ps e (tkK (nI e) c K (nI T)) (T + 1) f') :=
  (f_X5_tickGoesBy hn4 h.2.1.1 (by rw [h.2.1.2.2.1]; exact nI_ne0 (by omega) (by omega)) c).toGv ⟨_, rfl, h.tick hn4 he c⟩
theorem n_struckByAll {V : am_V} {d : Nat} {f : Nat → Nat → Int32} {τ : Nat → Nat → Int64} {f0 : Nat → Nat → Int32} {n p e T : Nat} {pk pt ps : Nat → Int32} {K : Nat → Nat → Int32} (hn4 : n ≤ 4) (h : MR f0 n p pk pt ps e K T f) : AF V MX5_struckByAll d [.ref 64] (f, τ) (some (.int (sumF (fun k => K k 7) n))) (f, τ) := by
  rw [← h.sum hn4]
  exact f_X5_struckByAll
theorem n_says {V : am_V} {d : Nat} {f : Nat → Nat → Int32} {τ : Nat → Nat → Int64} {f0 : Nat → Nat → Int32} {n p e T : Nat} {pk pt ps : Nat → Int32} {K : Nat → Nat → Int32} (hn4 : n ≤ 4) (h : MR f0 n p pk pt ps e K T f) : AF V MX5_says (d + 1) [.ref 64] (f, τ) (some (.int (orF (fun k => K k 3) n))) (f, τ) := by
  rw [← h.or]
  exact f_X5_says hn4 h.2.1.1
theorem n_contactsNow {V : am_V} {d : Nat} {f : Nat → Nat → Int32} {τ : Nat → Nat → Int64} {f0 : Nat → Nat → Int32} {n p e T : Nat} {pk pt ps : Nat → Int32} {K : Nat → Nat → Int32} (hn4 : n ≤ 4) (hT : T < 2 ^ 20) (h : MR f0 n p pk pt ps e K T f) : AF V MX5_contactsNow (d + 3) [.ref 64] (f, τ) (some (.int (cbK pk pt ps n p K (nI T)))) (f, τ) := by
  obtain ⟨q, hq8, hq, -⟩ := h.2.1.2.1
  rw [← cbM_Md hT h.2.1 hq hq8]
  exact f_X5_contactsNow hn4 h.2.1.1 hq8 hq
theorem n_of {V : am_V} {d : Nat} {f : Nat → Nat → Int32} {τ : Nat → Nat → Int64} {f0 : Nat → Nat → Int32} {n p e T k j : Nat} {pk pt ps : Nat → Int32} {K : Nat → Nat → Int32} (hn4 : n ≤ 4) (h : MR f0 n p pk pt ps e K T f) (hk : k < n) (hj : j < 7) : AF V MX5_of d [.ref 64, .int (nI k), .int (nI j)] (f, τ) (some (.int (K k j))) (f, τ) := by
  rw [← h.2.1.2.2.2.2.1 k hk j hj]
  exact f_X5_of (by omega)
