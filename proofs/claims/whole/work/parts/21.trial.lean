theorem AF.toGr {V : am_V} {M : am_M} {d : Nat} {args : List Value} {S S' : fm} {x : Nat} {P : Nat → fm → Prop} (h : AF V M d args S (some (.ref x)) S') (hP : P x S') : AGr V M d args S P := AM.weaken (fun r h' z => ⟨x, S', z.1, z.2, hP⟩) h
theorem AF.toGi {V : am_V} {M : am_M} {d : Nat} {args : List Value} {S S' : fm} {x : Int32} {P : Int32 → fm → Prop} (h : AF V M d args S (some (.int x)) S') (hP : P x S') : AGi V M d args S P := AM.weaken (fun r h' z => ⟨x, S', z.1, z.2, hP⟩) h
theorem AF.toGv {V : am_V} {M : am_M} {d : Nat} {args : List Value} {S S' : fm} {P : fm → Prop} (h : AF V M d args S none S') (hP : P S') : AGv V M d args S P := AM.weaken (fun r h' z => ⟨S', z.1, z.2, hP⟩) h
/-- all but the trial board and the two rows of use is as in f0 -/
def eqT (f f0 : Nat → Nat → Int32) : Prop := ∀ c, (c < 14 ∨ 26 ≤ c) → c ≠ 62 → c ≠ 63 → f c = f0 c
theorem eqT.rf {f : Nat → Nat → Int32} : eqT f f := fun _ _ _ _ => rfl
theorem eqT.step {f f' f0 : Nat → Nat → Int32} (h : eqT f f0) (h' : ∀ c, (c < 14 ∨ 26 ≤ c) → c ≠ 62 → c ≠ 63 → f' c = f c) : eqT f' f0 := fun c h1 h2 h3 => (h' c h1 h2 h3).trans (h c h1 h2 h3)
def isSn (f0 f : Nat → Nat → Int32) : Prop := f 14 11 = f0 2 11 ∧ ∀ i, i < 6 → f 23 i = f0 11 i ∧ f 24 i = f0 12 i ∧ f 25 i = f0 13 i
def TR (f0 : Nat → Nat → Int32) (n p : Nat) (pk pt ps : Nat → Int32) (ev : Int32) (K : Nat → Nat → Int32) (t : Int32) (f : Nat → Nat → Int32) : Prop := eqT f f0 ∧ isBd 14 n p pk pt ps ev K t f ∧ isSn f0 f
def K0 (f0 : Nat → Nat → Int32) : Nat → Nat → Int32 := fun k => kst (f0 (2 + 2 + k % 4))
def ttF (f : Nat → Nat → Int32) (n : Nat) : Nat → Nat → Int32 := upn (caF f 14 2) 14 n (fun k => k_start (caF f 14 2 (14 + 2 + k)))
theorem ttF_b {f : Nat → Nat → Int32} {n j : Nat} (h : j = 1 ∨ j = 5 ∨ j = 6 ∨ j = 7 ∨ j = 11) : ttF f n 14 j = f 2 j := by
  unfold ttF
  rw [upn_out (Or.inl (by omega)), caF_b h]
theorem kst_start (g g2 : Nat → Int32) : eq9 (k_start (k_copy g g2)) (kst g2) := by
  intro j hj
  unfold k_start kst upd
  by_cases q8 : j = 8
  · rw [if_pos q8, if_neg (by omega)]
  · rw [if_neg q8]
    by_cases q7 : j = 7
    · rw [if_pos q7, if_neg (by omega)]
    · rw [if_neg q7, if_pos (by omega)]
      exact k_copy_lt g g2 (by omega)
theorem ttF_TR {f f0 : Nat → Nat → Int32} {n p : Nat} (hn4 : n ≤ 4) (hn : f0 2 1 = nI n) (hp8 : p ≤ 8) (hp1 : f0 2 5 = nI p) (hE : eqT f f0) : TR f0 n p (f0 9) (f0 8) (f0 10) (f0 2 6) (K0 f0) (f0 2 7) (ttF f n) := by
  have e : ∀ c, c < 14 → f c = f0 c := fun c hc => hE c (Or.inl hc) (by omega) (by omega)
  refine ⟨hE.step (fun c h1 h2 h3 => ?_), ⟨?_, ?_, ?_, ?_, ?_, ?_⟩, ?_, ?_⟩
  · funext j
    unfold ttF
    rw [upn_out (by omega), caF_o (by omega)]
  · rw [ttF_b (by omega), e 2 (by omega)]; exact hn
  · rw [ttF_b (by omega), e 2 (by omega)]; exact hp1
  · rw [ttF_b (by omega), e 2 (by omega)]
  · rw [ttF_b (by omega), e 2 (by omega)]
  · intro k hk
    unfold ttF
    rw [upn_in hk, caF_k (by omega)]
    intro j hj
    rw [kst_start _ _ j hj, e (2 + 2 + k) (by omega)]
    unfold K0
    rw [Nat.mod_eq_of_lt (show k < 4 by omega)]
  · intro i hi
    unfold ttF
    rw [upn_out (by omega), upn_out (by omega), upn_out (by omega)]
    rw [caF_p (m := 7) (Or.inr (by omega)) (by omega) (by omega), caF_p (m := 6) (Or.inr (by omega)) (by omega) (by omega), caF_p (m := 8) (Or.inr (by omega)) (by omega) (by omega), e (2 + 7) (by omega), e (2 + 6) (by omega), e (2 + 8) (by omega)]
    exact ⟨rfl, rfl, rfl⟩
  · rw [ttF_b (by omega), e 2 (by omega)]
  · intro i hi
    have h9 : ttF f n 23 i = f0 11 i := by
      unfold ttF
      rw [upn_out (by omega), show (23 : Nat) = 14 + 9 from rfl, caF_s (m := 9) (Or.inr (by omega)) (by omega) hi, e (2 + 9) (by omega)]
    have h10 : ttF f n 24 i = f0 12 i := by
      unfold ttF
      rw [upn_out (by omega), show (24 : Nat) = 14 + 10 from rfl, caF_s (m := 10) (Or.inr (by omega)) (by omega) hi, e (2 + 10) (by omega)]
    have h11 : ttF f n 25 i = f0 13 i := by
      unfold ttF
      rw [upn_out (by omega), show (25 : Nat) = 14 + 11 from rfl, caF_s (m := 11) (Or.inr (by omega)) (by omega) hi, e (2 + 11) (by omega)]
    exact ⟨h9, h10, h11⟩
set_option maxRecDepth 100000 in
set_option maxHeartbeats 1000000 in
theorem f_X4_copyToTry {V : am_V} {d : Nat} {f : Nat → Nat → Int32} {τ : Nat → Nat → Int64} {n : Nat} (hn4 : n ≤ 4) (hn : f 2 1 = nI n) : AF V MX4_copyToTry (d + 3) [.ref 0] (f, τ) (some (.ref 14)) (ttF f n, τ) := by
  have t0 := tb_0
  have tB := tb_B isB2
  have uB := tb_B isB14
  have uk := tb_Bk isB14
  have tk := tb_Bk isB2
  refine AM.of (L := [some (.ref 0)]) (by decide +kernel) (Nat.le_of_ble_eq_true rfl) rfl ?_
  refine aw_aload_n (i := 0) dX4_copyToTry_0 rfl rfl ?_
  refine ax_getr (ci := 4) 3 dX4_copyToTry_1 rfl lfX4_20 (by decide) (by assumption) (by rfl) ?_
  refine aw_aload_n (i := 0) dX4_copyToTry_4 rfl rfl ?_
  refine ax_getr (ci := 4) 2 dX4_copyToTry_5 rfl lfX4_16 (by decide) (by assumption) (by rfl) ?_
  refine ax_callV1v (M' := MX0_copyFrom) (ci := 0) dX4_copyToTry_8 lmX4_75 oX0_copyFrom (by decide +kernel) (by assumption) rfl rfl (Nat.le_of_ble_eq_true rfl) (f_X0_copyFrom isB14 isB2 (Or.inr (by omega))) ?_
  refine aw_aload_n (i := 0) dX4_copyToTry_11 rfl rfl ?_
  refine ax_getr (ci := 4) 3 dX4_copyToTry_12 rfl lfX4_20 (by decide) (by assumption) (by rfl) ?_
  refine ax_callV0v (M' := MX0_startRun) (ci := 0) dX4_copyToTry_15 lmX4_155 oX0_startRun (by decide +kernel) (by assumption) rfl rfl (Nat.le_of_ble_eq_true rfl) (f_X0_startRun isB14 hn4 (by rw [caF_b (by omega)]; exact hn)) ?_
  refine aw_aload_n (i := 0) dX4_copyToTry_18 rfl rfl ?_
  refine ax_getr (ci := 4) 3 dX4_copyToTry_19 rfl lfX4_20 (by decide) (by assumption) (by rfl) ?_
  refine aw_areturn dX4_copyToTry_22 rfl ?_
  exact ⟨rfl, rfl⟩
theorem g_copyToTry {V : am_V} {d : Nat} {f : Nat → Nat → Int32} {τ : Nat → Nat → Int64} {f0 : Nat → Nat → Int32} {n p : Nat} (hn4 : n ≤ 4) (hn : f0 2 1 = nI n) (hp8 : p ≤ 8) (hp1 : f0 2 5 = nI p) (hE : eqT f f0) : AGr V MX4_copyToTry (d + 3) [.ref 0] (f, τ) (fun x S' => x = 14 ∧ ∃ f', S' = (f', τ) ∧ TR f0 n p (f0 9) (f0 8) (f0 10) (f0 2 6) (K0 f0) (f0 2 7) f') :=
  (f_X4_copyToTry hn4 ((congrFun (hE 2 (Or.inl (by omega)) (by omega) (by omega)) 1).trans hn)).toGr ⟨rfl, _, rfl, ttF_TR hn4 hn hp8 hp1 hE⟩
theorem TR.adv {f0 : Nat → Nat → Int32} {n p : Nat} {pk pt ps : Nat → Int32} {ev t : Int32} {K : Nat → Nat → Int32} {f : Nat → Nat → Int32} (hn4 : n ≤ 4) (hp8 : p ≤ 8) (h : TR f0 n p pk pt ps ev K t f) (i : Nat) : TR f0 n p pk pt ps ev (avK pk pt ps n p ev K t i).1 (avK pk pt ps n p ev K t i).2 (advF f 14 n p i) :=
  ⟨h.1.step (fun c h1 h2 h3 => advF_out (by omega) i), advF_Bd hn4 hp8 h.2.1 i, by rw [advF_b (by decide)]; exact h.2.2.1, by rw [advF_out (by omega), advF_out (by omega), advF_out (by omega)]; exact h.2.2.2⟩
theorem TR.tick {f0 : Nat → Nat → Int32} {n p : Nat} {pk pt ps : Nat → Int32} {ev t : Int32} {K : Nat → Nat → Int32} {f : Nat → Nat → Int32} (hn4 : n ≤ 4) (h : TR f0 n p pk pt ps ev K t f) (c : Int32) : TR f0 n p pk pt ps ev (tkK ev c K t) (t + 1) (tkF f 14 n c) :=
  ⟨h.1.step (fun c h1 h2 h3 => tkF_out (by omega)), tkF_Bd hn4 h.2.1 c, by rw [tkF_b (by decide)]; exact h.2.2.1, by rw [tkF_out (by omega), tkF_out (by omega), tkF_out (by omega)]; exact h.2.2.2⟩
theorem g_advance {V : am_V} {d : Nat} {f : Nat → Nat → Int32} {τ : Nat → Nat → Int64} {f0 : Nat → Nat → Int32} {n p : Nat} {pk pt ps : Nat → Int32} {ev t : Int32} {K : Nat → Nat → Int32} (hn4 : n ≤ 4) (hp8 : p ≤ 8) (h : TR f0 n p pk pt ps ev K t f) {N : Nat} (hN : N < 2 ^ 31) : AGv V MX0_advance (d + 4) [.ref 14, .int (nI N)] (f, τ) (fun S' => ∃ f', S' = (f', τ) ∧ TR f0 n p pk pt ps ev (avK pk pt ps n p ev K t N).1 (avK pk pt ps n p ev K t N).2 f') :=
  (f_X0_advance isB14 hn4 h.2.1.1 hp8 h.2.1.2.1 hN).toGv ⟨_, rfl, h.adv hn4 hp8 N⟩
theorem g_tickWith {V : am_V} {d : Nat} {f : Nat → Nat → Int32} {τ : Nat → Nat → Int64} {f0 : Nat → Nat → Int32} {n p : Nat} {pk pt ps : Nat → Int32} {ev t : Int32} {K : Nat → Nat → Int32} (hn4 : n ≤ 4) (h : TR f0 n p pk pt ps ev K t f) (c : Int32) : AGv V MX0_tickWith (d + 3) [.ref 14, .int c] (f, τ) (fun S' => ∃ f', S' = (f', τ) ∧ TR f0 n p pk pt ps ev (tkK ev c K t) (t + 1) f') :=
  (f_X0_tickWith isB14 hn4 h.2.1.1 c).toGv ⟨_, rfl, h.tick hn4 c⟩
theorem g_aCW {V : am_V} {d : Nat} {f : Nat → Nat → Int32} {τ : Nat → Nat → Int64} {f0 : Nat → Nat → Int32} {n p : Nat} {pk pt ps : Nat → Int32} {ev t : Int32} {K : Nat → Nat → Int32} (hn4 : n ≤ 4) (hp8 : p ≤ 8) (h : TR f0 n p pk pt ps ev K t f) {N : Nat} (hN : N < 2 ^ 31) : AGi V MX0_advanceCountingWrong (d + 4) [.ref 14, .int (nI N)] (f, τ) (fun x S' => x = wrK pk pt ps n p ev K t N ∧ ∃ f', S' = (f', τ) ∧ TR f0 n p pk pt ps ev (avK pk pt ps n p ev K t N).1 (avK pk pt ps n p ev K t N).2 f') :=
  (f_X0_advanceCountingWrong isB14 hn4 h.2.1.1 hp8 h.2.1.2.1 hN).toGi ⟨wrF_Bd hn4 hp8 h.2.1 N, _, rfl, h.adv hn4 hp8 N⟩
theorem e_X0_struckInRun {V : am_V} {d : Nat} {f : Nat → Nat → Int32} {τ : Nat → Nat → Int64} {f0 : Nat → Nat → Int32} {n p : Nat} {pk pt ps : Nat → Int32} {ev t : Int32} {K : Nat → Nat → Int32} (hn4 : n ≤ 4) (h : TR f0 n p pk pt ps ev K t f) : AF V MX0_struckInRun d [.ref 14] (f, τ) (some (.int (sumF (fun k => K k 7) n))) (f, τ) := by
  rw [← Bd_sum h.2.1 (j := 7) (by decide)]
  exact f_X0_struckInRun isB14 hn4 h.2.1.1
theorem e_X0_changedInRun {V : am_V} {d : Nat} {f : Nat → Nat → Int32} {τ : Nat → Nat → Int64} {f0 : Nat → Nat → Int32} {n p : Nat} {pk pt ps : Nat → Int32} {ev t : Int32} {K : Nat → Nat → Int32} (hn4 : n ≤ 4) (h : TR f0 n p pk pt ps ev K t f) : AF V MX0_changedInRun d [.ref 14] (f, τ) (some (.int (sumF (fun k => K k 8) n))) (f, τ) := by
  rw [← Bd_sum h.2.1 (j := 8) (by decide)]
  exact f_X0_changedInRun isB14 hn4 h.2.1.1
theorem e_X0_saysBits {V : am_V} {d : Nat} {f : Nat → Nat → Int32} {τ : Nat → Nat → Int64} {f0 : Nat → Nat → Int32} {n p : Nat} {pk pt ps : Nat → Int32} {ev t : Int32} {K : Nat → Nat → Int32} (hn4 : n ≤ 4) (h : TR f0 n p pk pt ps ev K t f) : AF V MX0_saysBits d [.ref 14] (f, τ) (some (.int (orF (fun k => K k 3) n))) (f, τ) := by
  rw [← Bd_or h.2.1 (j := 3) (by decide)]
  exact f_X0_saysBits isB14 hn4 h.2.1.1
theorem e_X0_contactBits {V : am_V} {d : Nat} {f : Nat → Nat → Int32} {τ : Nat → Nat → Int64} {f0 : Nat → Nat → Int32} {n p : Nat} {pk pt ps : Nat → Int32} {ev t : Int32} {K : Nat → Nat → Int32} (hn4 : n ≤ 4) (hp8 : p ≤ 8) (h : TR f0 n p pk pt ps ev K t f) : AF V MX0_contactBits (d + 2) [.ref 14] (f, τ) (some (.int (cbK pk pt ps n p K t))) (f, τ) := by
  rw [← cbF_Bd hp8 h.2.1]
  exact f_X0_contactBits isB14 hn4 h.2.1.1 hp8 h.2.1.2.1
theorem e_X0_dueIn {V : am_V} {d : Nat} {f : Nat → Nat → Int32} {τ : Nat → Nat → Int64} {f0 : Nat → Nat → Int32} {n p : Nat} {pk pt ps : Nat → Int32} {ev t : Int32} {K : Nat → Nat → Int32} (hp8 : p ≤ 8) (h : TR f0 n p pk pt ps ev K t f) (x : Int32) : AF V MX0_dueIn (d + 1) [.ref 14, .int x] (f, τ) (some (.int (dueF pt ps t (t + x - 1) p))) (f, τ) := by
  rw [← Bd_due h.2.1 x]
  exact f_X0_dueIn isB14 hp8 h.2.1.2.1 x
theorem e_X0_hasKey {V : am_V} {d b n j : Nat} {f : Nat → Nat → Int32} {τ : Nat → Nat → Int64} (hb : am_isB b) (hn4 : n ≤ 4) (hn : f b 1 = nI n) (hj : j < n) : AF V MX0_hasKey (d + 1) [.ref b, .int (nI j)] (f, τ) (some (.int 1)) (f, τ) := by
  have e := f_X0_hasKey (V := V) (d := d) (f := f) (τ := τ) hb (nI j)
  rw [hn, b2i_t ((key_iff hn4 (by omega)).mpr hj)] at e
  exact e
/-- key j with a part altered -/
def altK (K : Nat → Nat → Int32) (j : Nat) (x y : Int32) : Nat → Nat → Int32 := fun k => if k = j then k_become (K k) x y else K k
theorem TR.alt {f0 : Nat → Nat → Int32} {n p : Nat} {pk pt ps : Nat → Int32} {ev t : Int32} {K : Nat → Nat → Int32} {f : Nat → Nat → Int32} {j : Nat} (hn4 : n ≤ 4) (hj : j < n) (h : TR f0 n p pk pt ps ev K t f) (x y : Int32) : TR f0 n p pk pt ps ev (altK K j x y) t (upk f (14 + 2 + j) (k_become (f (14 + 2 + j)) x y)) := by
  obtain ⟨h0, ⟨h1, h2, h3, h4, h5, h6⟩, h7, h8⟩ := h
  refine ⟨h0.step (fun c g1 g2 g3 => upk_rne (by omega)), ⟨by rw [upk_ne (by omega)]; exact h1, by rw [upk_ne (by omega)]; exact h2, by rw [upk_ne (by omega)]; exact h3, by rw [upk_ne (by omega)]; exact h4, ?_, ?_⟩, by rw [upk_ne (by omega)]; exact h7, ?_⟩
  · intro k hk
    unfold altK
    by_cases q : k = j
    · subst q
      rw [if_pos rfl, upk_row]
      exact k_become_eq9 (h5 k hk) x y
    · rw [if_neg q, upk_rne (by omega)]
      exact h5 k hk
  · intro i hi
    rw [upk_ne (by omega), upk_ne (by omega), upk_ne (by omega)]
    exact h6 i hi
  · intro i hi
    rw [upk_ne (by omega), upk_ne (by omega), upk_ne (by omega)]
    exact h8 i hi
theorem TR.ev {f0 : Nat → Nat → Int32} {n p : Nat} {pk pt ps : Nat → Int32} {ev t : Int32} {K : Nat → Nat → Int32} {f : Nat → Nat → Int32} (h : TR f0 n p pk pt ps ev K t f) (x : Int32) : TR f0 n p pk pt ps x K t (up2 f 14 6 x) := by
  obtain ⟨h0, ⟨h1, h2, h3, h4, h5, h6⟩, h7, h8⟩ := h
  have e : ∀ c, c ≠ 14 → up2 f 14 6 x c = f c := fun c hc => by funext j; rw [up2_ne (by omega)]
  refine ⟨h0.step (fun c g1 g2 g3 => e c (by omega)), ⟨by rw [up2_ne (by omega)]; exact h1, by rw [up2_ne (by omega)]; exact h2, by rw [up2_self], by rw [up2_ne (by omega)]; exact h4, fun k hk => by rw [e _ (by omega)]; exact h5 k hk, fun i hi => by rw [e _ (by omega), e _ (by omega), e _ (by omega)]; exact h6 i hi⟩, by rw [up2_ne (by omega)]; exact h7, fun i hi => by rw [e _ (by omega), e _ (by omega), e _ (by omega)]; exact h8 i hi⟩
theorem rsP_o' {f : Nat → Nat → Int32} {b i0 i c j : Nat} (h : j < i0) : rsP f b i0 i c j = f c j := by
  unfold rsP
  rw [if_neg (by omega)]
def rmR (g : Nat → Int32) (i0 : Nat) : Nat → Int32 := fun i => if i0 ≤ i then g (i + 1) else g i
theorem TR.rm {f0 : Nat → Nat → Int32} {n p : Nat} {pk pt ps : Nat → Int32} {ev t : Int32} {K : Nat → Nat → Int32} {f : Nat → Nat → Int32} {i0 : Nat} (hn4 : n ≤ 4) (h : TR f0 n p pk pt ps ev K t f) (hi0 : i0 < p) : TR f0 n (p - 1) (rmR pk i0) (rmR pt i0) (rmR ps i0) ev K t (rmF f 14 p i0) := by
  obtain ⟨h0, ⟨h1, h2, h3, h4, h5, h6⟩, h7, h8⟩ := h
  have e : ∀ c, c ≠ 14 → c ≠ 20 → c ≠ 21 → c ≠ 22 → rmF f 14 p i0 c = f c := fun c g1 g2 g3 g4 => by funext j; unfold rmF; rw [up2_ne (by omega), rsP_o (by omega)]
  have eb : ∀ j, j ≠ 5 → rmF f 14 p i0 14 j = f 14 j := fun j hj => by unfold rmF; rw [up2_ne (by omega), rsP_o (by omega)]
  refine ⟨h0.step (fun c g1 g2 g3 => e c (by omega) (by omega) (by omega) (by omega)), ⟨by rw [eb 1 (by omega)]; exact h1, by unfold rmF; rw [up2_self], by rw [eb 6 (by omega)]; exact h3, by rw [eb 7 (by omega)]; exact h4, fun k hk => ?_, fun i hi => ?_⟩, by rw [eb 11 (by omega)]; exact h7, fun i hi => by rw [e _ (by omega) (by omega) (by omega) (by omega), e _ (by omega) (by omega) (by omega) (by omega), e _ (by omega) (by omega) (by omega) (by omega)]; exact h8 i hi⟩
  · rw [e _ (by omega) (by omega) (by omega) (by omega)]
    exact h5 k hk
  · have g := h6 i (by omega)
    have g' := h6 (i + 1) (by omega)
    unfold rmF rmR
    rw [up2_ne (by omega), up2_ne (by omega), up2_ne (by omega)]
    by_cases q : i0 ≤ i
    · rw [if_pos q, if_pos q, if_pos q]
      unfold rsP
      rw [if_pos (by omega), if_pos (by omega), if_pos (by omega)]
      exact g'
    · rw [if_neg q, if_neg q, if_neg q, rsP_o' (by omega), rsP_o' (by omega), rsP_o' (by omega)]
      exact g
