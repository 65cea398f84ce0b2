def qcK (f : Nat → Nat → Int32) (n p i : Nat) : Int32 := cbK (f 9) (f 8) (f 10) n p (av0 f n p (K0 f) i).1 (av0 f n p (K0 f) i).2
def nzC (c : Int32) (b : Nat) : Int32 := if b = 1 then c ^^^ (-1) else c
def nzK (f : Nat → Nat → Int32) (n p m : Nat) : Nat → (Nat → Nat → Int32) × Int32
  | 0 => (K0 f, f 2 7)
  | i + 1 => (tkK (f 2 6) (nzC (qcK f n p i) (m / 2 ^ i % 2)) (nzK f n p m i).1 (nzK f n p m i).2, (nzK f n p m i).2 + 1)
def lkN (f : Nat → Nat → Int32) (n p v N j : Nat) : Nat → Nat
  | 0 => 0
  | m + 1 => lkN f n p v N j m + (if (nzK f n p m N).1 j 3 = 1 then wN v m N else 0)
def stN (f : Nat → Nat → Int32) (n p N m : Nat) : Nat := (sumF (fun k => (nzK f n p m N).1 k 7) n).toNatClampNeg
def meN (f : Nat → Nat → Int32) (n p v N : Nat) : Nat → Nat
  | 0 => 0
  | m + 1 => meN f n p v N m + wN v m N * stN f n p N m
theorem nzK_7 {f : Nat → Nat → Int32} {n p m : Nat} : ∀ i k, ∃ q, q ≤ i ∧ (nzK f n p m i).1 k 7 = nI q := by
  intro i
  induction i with
  | zero => intro k; exact ⟨0, Nat.le_refl _, rfl⟩
  | succ i ih =>
    intro k
    obtain ⟨q, hq, e⟩ := ih k
    rw [nzK]
    show ∃ q, q ≤ i + 1 ∧ tkK _ _ _ _ k 7 = nI q
    unfold tkK
    split
    · rcases k_look_7 ((nzK f n p m i).1 k) ((nzC (qcK f n p i) (m / 2 ^ i % 2) >>> (nI k &&& 31)) &&& 1) with z | z
      · exact ⟨q, by omega, z.trans e⟩
      · exact ⟨q + 1, by omega, by rw [z, e, nI_1]⟩
    · exact ⟨q, by omega, e⟩
theorem stN_b {f : Nat → Nat → Int32} {n p N m : Nat} (hn4 : n ≤ 4) (hN : N ≤ 8) : stN f n p N m ≤ 32 ∧ sumF (fun k => (nzK f n p m N).1 k 7) n = nI (stN f n p N m) := by
  obtain ⟨q, hq, e⟩ := sumF_b (c := fun k => (nzK f n p m N).1 k 7) (nzK_7 N) n
  have hm : n * N ≤ 4 * 8 := Nat.mul_le_mul hn4 hN
  unfold stN
  rw [e, nI_clamp (by omega)]
  exact ⟨by omega, rfl⟩
theorem wN_b {v m N : Nat} (hv : v ≤ 10) (hN : N ≤ 8) : wN v m N ≤ 100000000 := Nat.le_trans (wN_le v m hv N) (p10_8 hN)
theorem lkN_b {f : Nat → Nat → Int32} {n p v N j : Nat} (hv : v ≤ 10) (hN : N ≤ 8) : ∀ m, lkN f n p v N j m ≤ m * 100000000 := by
  intro m
  induction m with
  | zero => exact Nat.zero_le _
  | succ m ih =>
    rw [lkN, Nat.succ_mul]
    refine Nat.add_le_add ih ?_
    by_cases q : (nzK f n p m N).1 j 3 = 1
    · rw [if_pos q]; exact wN_b hv hN
    · rw [if_neg q]; exact Nat.zero_le _
theorem meN_b {f : Nat → Nat → Int32} {n p v N : Nat} (hn4 : n ≤ 4) (hv : v ≤ 10) (hN : N ≤ 8) : ∀ m, meN f n p v N m ≤ m * 3200000000 := by
  intro m
  induction m with
  | zero => exact Nat.zero_le _
  | succ m ih =>
    rw [meN, Nat.succ_mul]
    have h1 := Nat.mul_le_mul (wN_b (m := m) hv hN) (stN_b (f := f) (n := n) (p := p) (m := m) hn4 hN).1
    omega
theorem p2_8 {N : Nat} (h : N ≤ 8) : 2 ^ N ≤ 256 := Nat.le_trans (Nat.pow_le_pow_right (by omega) h) (by decide)
theorem shl_1 {N : Nat} (h : N ≤ 8) : (1 : Int32) <<< (nI N &&& 31) = nI (2 ^ N) := by
  rcases (show N = 0 ∨ N = 1 ∨ N = 2 ∨ N = 3 ∨ N = 4 ∨ N = 5 ∨ N = 6 ∨ N = 7 ∨ N = 8 by omega) with rfl | rfl | rfl | rfl | rfl | rfl | rfl | rfl | rfl <;> decide
def rnZ (f : Nat → Nat → Int32) (n : Nat) : Nat → Nat → Int32 := upn (csF f 14 2) 14 n (fun k => k_start (csF f 14 2 (14 + 2 + k)))
theorem csF_b {f : Nat → Nat → Int32} {j : Nat} : csF f 14 2 14 j = if j = 1 ∨ j = 6 ∨ j = 7 then f 2 j else f 14 j := by
  unfold csF
  by_cases h7 : j = 7
  · subst h7; rw [up2_self, if_pos (by omega)]
  · rw [up2_ne (by omega)]
    by_cases h6 : j = 6
    · subst h6; rw [up2_self, if_pos (by omega)]
    · rw [up2_ne (by omega)]
      by_cases h1 : j = 1
      · subst h1; rw [up2_self, if_pos (by omega)]
      · rw [up2_ne (by omega), upn_out (by omega), if_neg (by omega)]
theorem csF_key {f : Nat → Nat → Int32} {k : Nat} (hk : k < 4) : csF f 14 2 (14 + 2 + k) = k_copy (f (14 + 2 + k)) (f (2 + 2 + k)) := by
  funext j
  unfold csF
  rw [up2_ne (by omega), up2_ne (by omega), up2_ne (by omega), upn_in hk]
  rfl
theorem rnZ_TR {f0 g : Nat → Nat → Int32} {n p : Nat} {K : Nat → Nat → Int32} {ev t : Int32} (hn4 : n ≤ 4) (hn : f0 2 1 = nI n) (h : TR f0 n p (f0 9) (f0 8) (f0 10) ev K t g) : TR f0 n p (f0 9) (f0 8) (f0 10) (f0 2 6) (K0 f0) (f0 2 7) (rnZ g n) := by
  obtain ⟨h0, ⟨h1, h2, h3, h4, h5, h6⟩, h7, h8⟩ := h
  have lo := h0.lo
  have out : ∀ c, (c < 14 ∨ c = 15 ∨ 20 ≤ c) → rnZ g n c = g c := by
    intro c hc
    funext j
    unfold rnZ
    rw [upn_out (by omega), csF_o (by omega)]
  have b14 : ∀ j, rnZ g n 14 j = if j = 1 ∨ j = 6 ∨ j = 7 then g 2 j else g 14 j := by
    intro j
    unfold rnZ
    rw [upn_out (by omega), csF_b]
  refine ⟨h0.step (fun c q1 q2 q3 => out c (by omega)), ⟨?_, ?_, ?_, ?_, ?_, ?_⟩, ?_, ?_⟩
  · rw [b14, if_pos (by omega), lo 2 (by omega)]; exact hn
  · rw [b14, if_neg (by omega)]; exact h2
  · rw [b14, if_pos (by omega), lo 2 (by omega)]
  · rw [b14, if_pos (by omega), lo 2 (by omega)]
  · intro k hk
    unfold rnZ
    rw [upn_in hk, csF_key (by omega)]
    intro j hj
    rw [kst_start _ _ j hj, lo (2 + 2 + k) (by omega)]
    unfold K0
    rw [Nat.mod_eq_of_lt (show k < 4 by omega)]
  · intro i hi
    rw [out _ (by omega), out _ (by omega), out _ (by omega)]
    exact h6 i hi
  · rw [b14, if_neg (by omega)]; exact h7
  · intro i hi
    rw [out _ (by omega), out _ (by omega), out _ (by omega)]
    exact h8 i hi
/-- the trial board may be spoiled, its presses are there, and what was listened to -/
def NQ (f : Nat → Nat → Int32) (n p N : Nat) (g : Nat → Nat → Int32) : Prop := (∃ K t ev, TR f n p (f 9) (f 8) (f 10) ev K t g) ∧ ∀ i, i < N → g 62 i = qcK f n p i
theorem advF_62 {g : Nat → Nat → Int32} {n p q : Nat} (hn4 : n ≤ 4) : ∀ {i : Nat}, advF g 14 n p i 62 q = g 62 q := by
  intro i
  induction i with
  | zero => rfl
  | succ i ih => rw [advF, tkF_out (by omega), ih]
set_option maxRecDepth 100000 in
set_option maxHeartbeats 1000000 in
theorem g_listenQuietly {V : am_V} {d : Nat} {f : Nat → Nat → Int32} {τ : Nat → Nat → Int64} {n p : Nat} (hn4 : n ≤ 4) (hn : f 2 1 = nI n) (hp8 : p ≤ 8) (hp1 : f 2 5 = nI p) {N : Nat} (hN : N ≤ 8) : AGv V MX4_listenQuietly (d + 5) [.ref 0, .int (nI N)] (f, τ) (fun S' => ∃ f', S' = (f', τ) ∧ NQ f n p N f') := by
  have t0 := tb_0
  have tB := tb_B isB2
  have uB := tb_B isB14
  have uk := tb_Bk isB14
  have tk := tb_Bk isB2
  have hE : eqT f f := eqT.rf
  have tq := tb_qu
  refine AM.of (L := [some (.ref 0), some (.int (nI N)), none, none]) (by decide +kernel) (Nat.le_of_ble_eq_true rfl) rfl ?_
  have loop : ∀ (m i : Nat) (g : Nat → Nat → Int32), i + m = N → TR f n p (f 9) (f 8) (f 10) (f 2 6) (av0 f n p (K0 f) i).1 (av0 f n p (K0 f) i).2 g → (∀ q, q < i → g 62 q = qcK f n p q) → AW V MX4_listenQuietly (d + 5) 0 0 7 [some (.ref 0), some (.int (nI N)), some (.ref 14), some (.int (nI i))] [] (hp (g, τ)) (fun r' h' => ∃ S' : fm, r' = none ∧ h' = hp S' ∧ ∃ f', S' = (f', τ) ∧ NQ f n p N f') := by
    intro m
    induction m with
    | zero =>
      intro i g hm hT hQ
      have hi : i = N := by omega
      subst hi
      refine aw_iload_n (i := 3) dX4_listenQuietly_7 rfl rfl ?_
      refine aw_iload_n (i := 1) dX4_listenQuietly_8 rfl rfl ?_
      refine aw_icmp_ge (tgt := 39) dX4_listenQuietly_9 (by decide) (fun c9 => ?_) (fun c9 => ?_)
      · refine aw_return dX4_listenQuietly_39 rfl ?_
        exact ⟨_, rfl, rfl, _, rfl, ⟨_, _, _, hT⟩, hQ⟩
      · exact absurd (Int32.le_refl _) c9
    | succ m ih =>
      intro i g hm hT hQ
      refine aw_iload_n (i := 3) dX4_listenQuietly_7 rfl rfl ?_
      refine aw_iload_n (i := 1) dX4_listenQuietly_8 rfl rfl ?_
      refine aw_icmp_ge (tgt := 39) dX4_listenQuietly_9 (by decide) (fun c9 => ?_) (fun c9 => ?_)
      · exact absurd ((nI_leI (a := N) (b := i) (by omega) (by omega)).mp c9) (by omega)
      · refine aw_iload_n (i := 3) dX4_listenQuietly_12 rfl rfl ?_
        refine aw_bipush (v := 8) dX4_listenQuietly_13 (by decide) ?_
        refine aw_icmp_ge (tgt := 39) dX4_listenQuietly_15 (by decide) (fun c15 => ?_) (fun c15 => ?_)
        · exact absurd ((nI_leI (a := 8) (b := i) (by omega) (by omega)).mp c15) (by omega)
        · refine aw_aload_n (i := 0) dX4_listenQuietly_18 rfl rfl ?_
          refine ax_getr (ci := 4) 10 dX4_listenQuietly_19 rfl lfX4_47 (by decide) (by assumption) (by rfl) ?_
          refine aw_iload_n (i := 3) dX4_listenQuietly_22 rfl rfl ?_
          refine aw_aload_n (i := 2) dX4_listenQuietly_23 rfl rfl ?_
          refine ax_callV0i (M' := MX0_contactBits) (ci := 0) dX4_listenQuietly_24 lmX4_95 oX0_contactBits (by decide +kernel) (by assumption) rfl rfl (Nat.le_of_ble_eq_true rfl) (e_X0_contactBits hn4 hp8 hT) ?_
          refine ax_iastN dX4_listenQuietly_27 (by assumption) (by omega) (Nat.le_of_ble_eq_true rfl) ?_
          refine aw_aload_n (i := 2) dX4_listenQuietly_28 rfl rfl ?_
          refine aw_iconst (v := 1) dX4_listenQuietly_29 (by decide) ?_
          refine ax_callV1v (M' := MX0_advance) (ci := 0) dX4_listenQuietly_30 lmX4_158 oX0_advance (by decide +kernel) (by assumption) rfl rfl (Nat.le_of_ble_eq_true rfl) (f_X0_advance isB14 hn4 (hT.up63 hn4 (Or.inl rfl) i _).2.1.1 hp8 (hT.up63 hn4 (Or.inl rfl) i _).2.1.2.1 (N := 1) (by omega)) ?_
          refine aw_incN (L' := [_, _, _, _]) dX4_listenQuietly_33 rfl (Nat.le_of_ble_eq_true rfl) rfl rfl ?_
          refine aw_goto (tgt := 7) dX4_listenQuietly_36 (by decide) ?_
          refine ih (i + 1) _ (by omega) ((hT.up63 hn4 (Or.inl rfl) i _).adv hn4 hp8 1) (fun q hq => ?_)
          rw [show (62 : Nat) = 62 from rfl, advF_62 hn4]
          rcases (show q = i ∨ q ≠ i by omega) with rfl | q2
          · exact up2_self _ _ _ _
          · rw [up2_ne (by omega)]; exact hQ q (by omega)
  refine aw_aload_n (i := 0) dX4_listenQuietly_0 rfl rfl ?_
  refine ax_gV0r (M' := MX4_copyToTry) (ci := 4) dX4_listenQuietly_1 lmX4_168 oX4_copyToTry (by decide +kernel) (by assumption) rfl rfl (Nat.le_of_ble_eq_true rfl) (g_copyToTry hn4 hn hp8 hp1 hE) (fun r_ S_ h_ => ?_)
  obtain ⟨rfl, f1, rfl, T1⟩ := h_
  refine aw_astore_n (i := 2) (L' := [_, _, _, _]) dX4_listenQuietly_4 rfl (Nat.le_of_ble_eq_true rfl) rfl rfl ?_
  refine aw_iconst (v := 0) dX4_listenQuietly_5 (by decide) ?_
  refine aw_istore_n (i := 3) (L' := [_, _, _, _]) dX4_listenQuietly_6 rfl (Nat.le_of_ble_eq_true rfl) rfl rfl ?_
  exact loop N 0 f1 (by omega) T1 (fun q hq => by omega)
set_option maxRecDepth 100000 in
set_option maxHeartbeats 1000000 in
theorem g_runNoisily {V : am_V} {d : Nat} {f : Nat → Nat → Int32} {τ : Nat → Nat → Int64} {f0 : Nat → Nat → Int32} {n p : Nat} (hn4 : n ≤ 4) (hn : f 2 1 = nI n) (hp8 : p ≤ 8) (hp1 : f 2 5 = nI p) {m N : Nat} (hN : N ≤ 8) (hm : m < 2 ^ N) (h : NQ f n p N f0) : AGr V MX4_runNoisily (d + 4) [.ref 0, .int (nI m), .int (nI N)] (f0, τ) (fun x S' => x = 14 ∧ ∃ f', S' = (f', τ) ∧ TR f n p (f 9) (f 8) (f 10) (f 2 6) (nzK f n p m N).1 (nzK f n p m N).2 f' ∧ NQ f n p N f') := by
  have t0 := tb_0
  have tB := tb_B isB2
  have uB := tb_B isB14
  have uk := tb_Bk isB14
  have tk := tb_Bk isB2
  have hE : eqT f f := eqT.rf
  have tq := tb_qu
  refine AM.of (L := [some (.ref 0), some (.int (nI m)), some (.int (nI N)), none, none]) (by decide +kernel) (Nat.le_of_ble_eq_true rfl) rfl ?_
  have hm10 : m < 2 ^ 10 := Nat.lt_of_lt_of_le hm (Nat.pow_le_pow_right (by omega) (by omega))
  have loop : ∀ (u i : Nat) (z4 : Option Value) (g : Nat → Nat → Int32), i + u = N → TR f n p (f 9) (f 8) (f 10) (f 2 6) (nzK f n p m i).1 (nzK f n p m i).2 g → (∀ q, q < N → g 62 q = qcK f n p q) → AW V MX4_runNoisily (d + 4) 0 0 20 [some (.ref 0), some (.int (nI m)), some (.int (nI N)), some (.int (nI i)), z4] [] (hp (g, τ)) (fun r' h' => ∃ (x : Nat) (S' : fm), r' = some (.ref x) ∧ h' = hp S' ∧ x = 14 ∧ ∃ f', S' = (f', τ) ∧ TR f n p (f 9) (f 8) (f 10) (f 2 6) (nzK f n p m N).1 (nzK f n p m N).2 f' ∧ NQ f n p N f') := by
    intro u
    induction u with
    | zero =>
      intro i z4 g hu hT hQ
      have hi : i = N := by omega
      subst hi
      refine aw_iload_n (i := 3) dX4_runNoisily_20 rfl rfl ?_
      refine aw_iload_n (i := 2) dX4_runNoisily_21 rfl rfl ?_
      refine aw_icmp_ge (tgt := 82) dX4_runNoisily_22 (by decide) (fun c22 => ?_) (fun c22 => ?_)
      · refine aw_aload_n (i := 0) dX4_runNoisily_82 rfl rfl ?_
        refine ax_getr (ci := 4) 3 dX4_runNoisily_83 rfl lfX4_20 (by decide) (by assumption) (by rfl) ?_
        refine aw_areturn dX4_runNoisily_86 rfl ?_
        exact ⟨_, _, rfl, rfl, rfl, _, rfl, hT, ⟨_, _, _, hT⟩, hQ⟩
      · exact absurd (Int32.le_refl _) c22
    | succ u ih =>
      intro i z4 g hu hT hQ
      refine aw_iload_n (i := 3) dX4_runNoisily_20 rfl rfl ?_
      refine aw_iload_n (i := 2) dX4_runNoisily_21 rfl rfl ?_
      refine aw_icmp_ge (tgt := 82) dX4_runNoisily_22 (by decide) (fun c22 => ?_) (fun c22 => ?_)
      · exact absurd ((nI_leI (a := N) (b := i) (by omega) (by omega)).mp c22) (by omega)
      · refine aw_iload_n (i := 3) dX4_runNoisily_25 rfl rfl ?_
        refine aw_bipush (v := 8) dX4_runNoisily_26 (by decide) ?_
        refine aw_icmp_ge (tgt := 82) dX4_runNoisily_28 (by decide) (fun c28 => ?_) (fun c28 => ?_)
        · exact absurd ((nI_leI (a := 8) (b := i) (by omega) (by omega)).mp c28) (by omega)
        · refine aw_iload_n (i := 1) dX4_runNoisily_31 rfl rfl ?_
          refine aw_iload_n (i := 3) dX4_runNoisily_32 rfl rfl ?_
          refine aw_ishr dX4_runNoisily_33 ?_
          refine aw_iconst (v := 1) dX4_runNoisily_34 (by decide) ?_
          refine aw_iand dX4_runNoisily_35 ?_
          refine aw_tE (nI (m / 2 ^ i % 2)) (bit_tst hm10 (by omega)) ?_
          refine aw_iconst (v := 1) dX4_runNoisily_36 (by decide) ?_
          refine aw_icmp_ne (tgt := 44) dX4_runNoisily_37 (by decide) (fun c37 => ?_) (fun c37 => ?_)
          · refine aw_iconst (v := 0) dX4_runNoisily_44 (by decide) ?_
            refine aw_istore (i := 4) (L' := [_, _, _, _, _]) dX4_runNoisily_45 (Nat.le_of_ble_eq_true rfl) rfl rfl ?_
            refine aw_aload_n (i := 0) dX4_runNoisily_47 rfl rfl ?_
            refine ax_getr (ci := 4) 3 dX4_runNoisily_48 rfl lfX4_20 (by decide) (by assumption) (by rfl) ?_
            refine aw_iload dX4_runNoisily_51 rfl ?_
            refine aw_if_eq (tgt := 67) dX4_runNoisily_53 (by decide) (fun _ => ?_) (fun z => absurd (by decide) z)
            refine aw_aload_n (i := 0) dX4_runNoisily_67 rfl rfl ?_
            refine ax_getr (ci := 4) 10 dX4_runNoisily_68 rfl lfX4_47 (by decide) (by assumption) (by rfl) ?_
            refine aw_iload_n (i := 3) dX4_runNoisily_71 rfl rfl ?_
            refine ax_ialdN dX4_runNoisily_72 (by assumption) (by omega) (Nat.le_of_ble_eq_true rfl) ?_
            try refine aw_tE (qcK f n p i) (hQ i (by omega)) ?_
            refine ax_callV1v (M' := MX0_tickWith) (ci := 0) dX4_runNoisily_73 lmX4_235 oX0_tickWith (by decide +kernel) (by assumption) rfl rfl (Nat.le_of_ble_eq_true rfl) (f_X0_tickWith isB14 hn4 hT.2.1.1 _) ?_
            refine aw_incN (L' := [_, _, _, _, _]) dX4_runNoisily_76 rfl (Nat.le_of_ble_eq_true rfl) rfl rfl ?_
            refine aw_goto (tgt := 20) dX4_runNoisily_79 (by decide) ?_
            first | (have hb : m / 2 ^ i % 2 = 1 := (nI_eq (a := m / 2 ^ i % 2) (b := 1) (by omega) (by omega)).mp c37; refine ih (i + 1) _ _ (by omega) ?_ (fun q hq => by rw [tkF_out (by omega)]; exact hQ q hq); rw [nzK]; rw [show nzC (qcK f n p i) (m / 2 ^ i % 2) = qcK f n p i ^^^ (-1) from if_pos hb]; exact hT.tick hn4 _) | (have hb : ¬ m / 2 ^ i % 2 = 1 := fun z => c37 (by rw [z]; rfl); refine ih (i + 1) _ _ (by omega) ?_ (fun q hq => by rw [tkF_out (by omega)]; exact hQ q hq); rw [nzK]; rw [show nzC (qcK f n p i) (m / 2 ^ i % 2) = qcK f n p i from if_neg hb]; exact hT.tick hn4 _)
          · refine aw_iconst (v := 1) dX4_runNoisily_40 (by decide) ?_
            refine aw_goto (tgt := 45) dX4_runNoisily_41 (by decide) ?_
            refine aw_istore (i := 4) (L' := [_, _, _, _, _]) dX4_runNoisily_45 (Nat.le_of_ble_eq_true rfl) rfl rfl ?_
            refine aw_aload_n (i := 0) dX4_runNoisily_47 rfl rfl ?_
            refine ax_getr (ci := 4) 3 dX4_runNoisily_48 rfl lfX4_20 (by decide) (by assumption) (by rfl) ?_
            refine aw_iload dX4_runNoisily_51 rfl ?_
            refine aw_if_eq (tgt := 67) dX4_runNoisily_53 (by decide) (fun z => absurd z (by decide)) (fun _ => ?_)
            refine aw_aload_n (i := 0) dX4_runNoisily_56 rfl rfl ?_
            refine ax_getr (ci := 4) 10 dX4_runNoisily_57 rfl lfX4_47 (by decide) (by assumption) (by rfl) ?_
            refine aw_iload_n (i := 3) dX4_runNoisily_60 rfl rfl ?_
            refine ax_ialdN dX4_runNoisily_61 (by assumption) (by omega) (Nat.le_of_ble_eq_true rfl) ?_
            refine aw_tE _ (hQ i (by omega)) ?_
            refine aw_iconst (v := -1) dX4_runNoisily_62 (by decide) ?_
            refine aw_ixor dX4_runNoisily_63 ?_
            refine aw_goto (tgt := 73) dX4_runNoisily_64 (by decide) ?_
            try refine aw_tE (qcK f n p i) (hQ i (by omega)) ?_
            refine ax_callV1v (M' := MX0_tickWith) (ci := 0) dX4_runNoisily_73 lmX4_235 oX0_tickWith (by decide +kernel) (by assumption) rfl rfl (Nat.le_of_ble_eq_true rfl) (f_X0_tickWith isB14 hn4 hT.2.1.1 _) ?_
            refine aw_incN (L' := [_, _, _, _, _]) dX4_runNoisily_76 rfl (Nat.le_of_ble_eq_true rfl) rfl rfl ?_
            refine aw_goto (tgt := 20) dX4_runNoisily_79 (by decide) ?_
            first | (have hb : m / 2 ^ i % 2 = 1 := (nI_eq (a := m / 2 ^ i % 2) (b := 1) (by omega) (by omega)).mp c37; refine ih (i + 1) _ _ (by omega) ?_ (fun q hq => by rw [tkF_out (by omega)]; exact hQ q hq); rw [nzK]; rw [show nzC (qcK f n p i) (m / 2 ^ i % 2) = qcK f n p i ^^^ (-1) from if_pos hb]; exact hT.tick hn4 _) | (have hb : ¬ m / 2 ^ i % 2 = 1 := fun z => c37 (by rw [z]; rfl); refine ih (i + 1) _ _ (by omega) ?_ (fun q hq => by rw [tkF_out (by omega)]; exact hQ q hq); rw [nzK]; rw [show nzC (qcK f n p i) (m / 2 ^ i % 2) = qcK f n p i from if_neg hb]; exact hT.tick hn4 _)
  refine aw_aload_n (i := 0) dX4_runNoisily_0 rfl rfl ?_
  refine ax_getr (ci := 4) 3 dX4_runNoisily_1 rfl lfX4_20 (by decide) (by assumption) (by rfl) ?_
  refine aw_aload_n (i := 0) dX4_runNoisily_4 rfl rfl ?_
  refine ax_getr (ci := 4) 2 dX4_runNoisily_5 rfl lfX4_16 (by decide) (by assumption) (by rfl) ?_
  refine ax_callV1v (M' := MX0_copySievesFrom) (ci := 0) dX4_runNoisily_8 lmX4_232 oX0_copySievesFrom (by decide +kernel) (by assumption) rfl rfl (Nat.le_of_ble_eq_true rfl) (f_X0_copySievesFrom isB14 isB2 (Or.inr (by omega))) ?_
  obtain ⟨⟨K, t, ev, hT0⟩, hQ0⟩ := h
  have hTz := rnZ_TR hn4 hn hT0
  have e141 : csF f0 14 2 14 1 = nI n := by rw [csF_b, if_pos (by omega), hT0.1.lo 2 (by omega)]; exact hn
  refine aw_aload_n (i := 0) dX4_runNoisily_11 rfl rfl ?_
  refine ax_getr (ci := 4) 3 dX4_runNoisily_12 rfl lfX4_20 (by decide) (by assumption) (by rfl) ?_
  refine ax_callV0v (M' := MX0_startRun) (ci := 0) dX4_runNoisily_15 lmX4_155 oX0_startRun (by decide +kernel) (by assumption) rfl rfl (Nat.le_of_ble_eq_true rfl) (f_X0_startRun isB14 hn4 e141) ?_
  refine aw_iconst (v := 0) dX4_runNoisily_18 (by decide) ?_
  refine aw_istore_n (i := 3) (L' := [_, _, _, _, _]) dX4_runNoisily_19 rfl (Nat.le_of_ble_eq_true rfl) rfl rfl ?_
  exact loop N 0 none (rnZ f0 n) (by omega) hTz (fun q hq => by unfold rnZ; rw [upn_out (by omega), csF_o (by omega)]; exact hQ0 q hq)
