theorem e_X1_startRun {V : am_V} {d a : Nat} {f : Nat → Nat → Int32} {τ : Nat → Nat → Int64} (g : Nat → Int32) (ht : am_tab[a]? = some (.inl (1, [0, 0, 0, 0, 0, 0, 0, 0, 0]))) (hg : f a = g) : AF V MX1_startRun d [.ref a] (f, τ) none (upk f a (k_start g), τ) := by
  have e := f_X1_startRun (V := V) (d := d) (f := f) (g := g) (τ := τ) ht
  rw [← hg, upk_self] at e
  rw [← hg]
  exact e
theorem e_X1_look {V : am_V} {d a : Nat} {f : Nat → Nat → Int32} {τ : Nat → Nat → Int64} (g : Nat → Int32) (ht : am_tab[a]? = some (.inl (1, [0, 0, 0, 0, 0, 0, 0, 0, 0]))) (hg : f a = g) (seen : Int32) : AF V MX1_look (d + 2) [.ref a, .int seen] (f, τ) none (upk f a (k_look g seen), τ) := by
  have e := f_X1_look (V := V) (d := d) (f := f) (g := g) (τ := τ) ht seen
  rw [← hg, upk_self] at e
  rw [← hg]
  exact e
theorem e_X1_begin {V : am_V} {d a : Nat} {f : Nat → Nat → Int32} {τ : Nat → Nat → Int64} (g : Nat → Int32) (ht : am_tab[a]? = some (.inl (1, [0, 0, 0, 0, 0, 0, 0, 0, 0]))) (hg : f a = g) (x y z : Int32) : AF V MX1_begin (d + 1) [.ref a, .int x, .int y, .int z] (f, τ) none (upk f a (k_begin g x y z), τ) := by
  have e := f_X1_begin (V := V) (d := d) (f := f) (g := g) (τ := τ) ht x y z
  rw [← hg, upk_self] at e
  rw [← hg]
  exact e
theorem e_X1_become {V : am_V} {d a : Nat} {f : Nat → Nat → Int32} {τ : Nat → Nat → Int64} (g : Nat → Int32) (ht : am_tab[a]? = some (.inl (1, [0, 0, 0, 0, 0, 0, 0, 0, 0]))) (hg : f a = g) (x y : Int32) : AF V MX1_become (d + 1) [.ref a, .int x, .int y] (f, τ) none (upk f a (k_become g x y), τ) := by
  have e := f_X1_become (V := V) (d := d) (f := f) (g := g) (τ := τ) ht x y
  rw [← hg, upk_self] at e
  rw [← hg]
  exact e
theorem e_X1_part {V : am_V} {d a : Nat} {f : Nat → Nat → Int32} {τ : Nat → Nat → Int64} (ht : am_tab[a]? = some (.inl (1, [0, 0, 0, 0, 0, 0, 0, 0, 0]))) (what : Int32) : AF V MX1_part d [.ref a, .int what] (f, τ) (some (.int (k_part (f a) what))) (f, τ) := by
  have e := f_X1_part (V := V) (d := d) (f := f) (g := f a) (τ := τ) ht what
  rw [upk_self] at e
  exact e
set_option maxRecDepth 100000 in
set_option maxHeartbeats 4000000 in
theorem f_X0_startRun {V : am_V} {d b : Nat} {f : Nat → Nat → Int32} {τ : Nat → Nat → Int64} (hb : am_isB b) {n : Nat} (hn4 : n ≤ 4) (hn : f b 1 = nI n) : AF V MX0_startRun (d + 1) [.ref b] (f, τ) none (upn f b n (fun k => k_start (f (b + 2 + k))), τ) := by
  have tB := tb_B hb
  have tk := tb_Bk hb
  have t6 := tb_B6 hb
  have t7 := tb_B7 hb
  have t8 := tb_B8 hb
  have t9 := tb_B9 hb
  have t10 := tb_B10 hb
  have t11 := tb_B11 hb
  refine AM.of (L := [some (.ref b), none]) (by decide +kernel) (Nat.le_of_ble_eq_true rfl) rfl ?_
  have loop : ∀ (m i : Nat), i ≤ n → n - i < m → AW V MX0_startRun (d + 1) 0 0 2 [some (.ref b), some (.int (nI i))] [] (hp (upn f b i (fun k => k_start (f (b + 2 + k))), τ)) (fun r' h' => r' = none ∧ h' = hp (upn f b n (fun k => k_start (f (b + 2 + k))), τ)) := by
    intro m
    induction m with
    | zero => intro i h1 h2; omega
    | succ m ih =>
      intro i h1 h2
      refine aw_iload_n (i := 1) dX0_startRun_2 rfl rfl ?_
      refine aw_aload_n (i := 0) dX0_startRun_3 rfl rfl ?_
      refine ax_geti (ci := 0) 1 dX0_startRun_4 rfl lfX0_41 (by decide) (by assumption) (by rfl) ?_
      refine aw_tE (nI n) (by rw [upn_out (Or.inl (by omega))]; exact hn) ?_
      refine aw_icmp_ge (tgt := 25) dX0_startRun_7 (by decide) (fun c7 => ?_) (fun c7 => ?_)
      · refine aw_return dX0_startRun_25 rfl ?_
        have hip : i = n := by have := (nI_leI (a := n) (b := i) (by omega) (by omega)).mp c7; omega
        subst hip
        exact ⟨rfl, rfl⟩
      · have hi : i < n := Nat.not_le.mp (fun z => c7 (nI_le z (by omega)))
        have tK := tb_K hb (k := i) (by omega)
        refine aw_aload_n (i := 0) dX0_startRun_10 rfl rfl ?_
        refine ax_getr (ci := 0) 0 dX0_startRun_11 rfl lfX0_11 (by decide) (by assumption) (by rfl) ?_
        refine aw_iload_n (i := 1) dX0_startRun_14 rfl rfl ?_
        refine ax_keyN dX0_startRun_15 (by assumption) (by omega) ?_
        refine ax_callV0v (M' := MX1_startRun) (ci := 1) dX0_startRun_16 lmX0_89 oX1_startRun (by decide +kernel) (by assumption) rfl rfl (Nat.le_of_ble_eq_true rfl) (e_X1_startRun (f (b + 2 + i)) tK (upn_out (Or.inr (Nat.le_refl _)))) ?_
        refine aw_incN (L' := [_, _]) dX0_startRun_19 rfl (Nat.le_of_ble_eq_true rfl) rfl rfl ?_
        refine aw_goto (tgt := 2) dX0_startRun_22 (by decide) ?_
        have e := ih (i + 1) hi (by omega)
        rw [← upn_s] at e
        exact e
  refine aw_iconst (v := 0) dX0_startRun_0 (by decide) ?_
  refine aw_istore_n (i := 1) (L' := [_, _]) dX0_startRun_1 rfl (Nat.le_of_ble_eq_true rfl) rfl rfl ?_
  have e := loop (n + 1) 0 (Nat.zero_le _) (by omega)
  rw [upn_0] at e
  exact e
/-- what a tick with contacts c does to the board at b with n keys: the sieves look, if it is time; the tick goes on -/
def tkL (f : Nat → Nat → Int32) (b n : Nat) (c : Int32) : Nat → Nat → Int32 := if 0 < f b 6 ∧ f b 7 - f b 7 / f b 6 * f b 6 = 0 then upn f b n (fun k => k_look (f (b + 2 + k)) ((c >>> (nI k &&& 31)) &&& 1)) else f
def tkF (f : Nat → Nat → Int32) (b n : Nat) (c : Int32) : Nat → Nat → Int32 := up2 (tkL f b n c) b 7 (tkL f b n c b 7 + 1)
theorem tkL_out {f : Nat → Nat → Int32} {b n c' : Nat} {c : Int32} (h : c' < b + 2 ∨ b + 2 + n ≤ c') : tkL f b n c c' = f c' := by
  unfold tkL
  split
  · exact upn_out h
  · rfl
theorem tkF_out {f : Nat → Nat → Int32} {b n c' : Nat} {c : Int32} (h : c' < b ∨ c' = b + 1 ∨ b + 2 + n ≤ c') : tkF f b n c c' = f c' := by
  funext j
  unfold tkF
  rw [up2_ne (by omega), tkL_out (by omega)]
theorem tkF_b {f : Nat → Nat → Int32} {b n j : Nat} {c : Int32} (h : j ≠ 7) : tkF f b n c b j = f b j := by
  unfold tkF
  rw [up2_ne (by omega), tkL_out (by omega)]
theorem tkF_t {f : Nat → Nat → Int32} {b n : Nat} {c : Int32} : tkF f b n c b 7 = f b 7 + 1 := by
  unfold tkF
  rw [up2_self, tkL_out (by omega)]
set_option maxRecDepth 100000 in
set_option maxHeartbeats 4000000 in
theorem f_X0_tickWith {V : am_V} {d b : Nat} {f : Nat → Nat → Int32} {τ : Nat → Nat → Int64} (hb : am_isB b) {n : Nat} (hn4 : n ≤ 4) (hn : f b 1 = nI n) (c : Int32) : AF V MX0_tickWith (d + 3) [.ref b, .int c] (f, τ) none (tkF f b n c, τ) := by
  have tB := tb_B hb
  have tk := tb_Bk hb
  have t6 := tb_B6 hb
  have t7 := tb_B7 hb
  have t8 := tb_B8 hb
  have t9 := tb_B9 hb
  have t10 := tb_B10 hb
  have t11 := tb_B11 hb
  refine AM.of (L := [some (.ref b), some (.int c), none]) (by decide +kernel) (Nat.le_of_ble_eq_true rfl) rfl ?_
  have loop : ∀ (m i : Nat) (hc : 0 < f b 6 ∧ f b 7 - f b 7 / f b 6 * f b 6 = 0), i ≤ n → n - i < m → AW V MX0_tickWith (d + 3) 0 0 21 [some (.ref b), some (.int c), some (.int (nI i))] [] (hp (upn f b i (fun k => k_look (f (b + 2 + k)) ((c >>> (nI k &&& 31)) &&& 1)), τ)) (fun r' h' => r' = none ∧ h' = hp (tkF f b n c, τ)) := by
    intro m
    induction m with
    | zero => intro i hc h1 h2; omega
    | succ m ih =>
      intro i hc h1 h2
      refine aw_iload_n (i := 2) dX0_tickWith_21 rfl rfl ?_
      refine aw_aload_n (i := 0) dX0_tickWith_22 rfl rfl ?_
      refine ax_geti (ci := 0) 1 dX0_tickWith_23 rfl lfX0_41 (by decide) (by assumption) (by rfl) ?_
      refine aw_tE (nI n) (by rw [upn_out (Or.inl (by omega))]; exact hn) ?_
      refine aw_icmp_ge (tgt := 49) dX0_tickWith_26 (by decide) (fun c26 => ?_) (fun c26 => ?_)
      · refine aw_aload_n (i := 0) dX0_tickWith_49 rfl rfl ?_
        refine aw_dup dX0_tickWith_50 rfl ?_
        refine ax_geti (ci := 0) 7 dX0_tickWith_51 rfl lfX0_47 (by decide) (by assumption) (by rfl) ?_
        refine aw_iconst (v := 1) dX0_tickWith_54 (by decide) ?_
        refine aw_iadd dX0_tickWith_55 ?_
        refine ax_puti (ci := 0) 7 dX0_tickWith_56 rfl lfX0_47 (by decide) (by assumption) (by rfl) rfl rfl ?_
        refine aw_return dX0_tickWith_59 rfl ?_
        first | (have hip : i = n := (by have := (nI_leI (a := n) (b := i) (by omega) (by omega)).mp c26; omega); subst hip; exact ⟨rfl, by rw [tkF, tkL, if_pos hc]⟩) | exact ⟨rfl, by rw [tkF, tkL, if_neg (fun q => absurd q.1 (Int32.not_lt.mpr c4))]⟩ | exact ⟨rfl, by rw [tkF, tkL, if_neg (fun q => c16 q.2)]⟩
      · have hi : i < n := Nat.not_le.mp (fun z => c26 (nI_le z (by omega)))
        have tK := tb_K hb (k := i) (by omega)
        refine aw_aload_n (i := 0) dX0_tickWith_29 rfl rfl ?_
        refine ax_getr (ci := 0) 0 dX0_tickWith_30 rfl lfX0_11 (by decide) (by assumption) (by rfl) ?_
        refine aw_iload_n (i := 2) dX0_tickWith_33 rfl rfl ?_
        refine ax_keyN dX0_tickWith_34 (by assumption) (by omega) ?_
        refine aw_iload_n (i := 1) dX0_tickWith_35 rfl rfl ?_
        refine aw_iload_n (i := 2) dX0_tickWith_36 rfl rfl ?_
        refine aw_ishr dX0_tickWith_37 ?_
        refine aw_iconst (v := 1) dX0_tickWith_38 (by decide) ?_
        refine aw_iand dX0_tickWith_39 ?_
        refine ax_callV1v (M' := MX1_look) (ci := 1) dX0_tickWith_40 lmX0_98 oX1_look (by decide +kernel) (by assumption) rfl rfl (Nat.le_of_ble_eq_true rfl) (e_X1_look (f (b + 2 + i)) tK (upn_out (Or.inr (Nat.le_refl _))) _) ?_
        refine aw_incN (L' := [_, _, _]) dX0_tickWith_43 rfl (Nat.le_of_ble_eq_true rfl) rfl rfl ?_
        refine aw_goto (tgt := 21) dX0_tickWith_46 (by decide) ?_
        have e := ih (i + 1) hc hi (by omega)
        rw [← upn_s] at e
        exact e
  refine aw_aload_n (i := 0) dX0_tickWith_0 rfl rfl ?_
  refine ax_geti (ci := 0) 6 dX0_tickWith_1 rfl lfX0_37 (by decide) (by assumption) (by rfl) ?_
  refine aw_if_le (tgt := 49) dX0_tickWith_4 (by decide) (fun c4 => ?_) (fun c4 => ?_)
  · refine aw_aload_n (i := 0) dX0_tickWith_49 rfl rfl ?_
    refine aw_dup dX0_tickWith_50 rfl ?_
    refine ax_geti (ci := 0) 7 dX0_tickWith_51 rfl lfX0_47 (by decide) (by assumption) (by rfl) ?_
    refine aw_iconst (v := 1) dX0_tickWith_54 (by decide) ?_
    refine aw_iadd dX0_tickWith_55 ?_
    refine ax_puti (ci := 0) 7 dX0_tickWith_56 rfl lfX0_47 (by decide) (by assumption) (by rfl) rfl rfl ?_
    refine aw_return dX0_tickWith_59 rfl ?_
    first | (have hip : i = n := (by have := (nI_leI (a := n) (b := i) (by omega) (by omega)).mp c26; omega); subst hip; exact ⟨rfl, by rw [tkF, tkL, if_pos hc]⟩) | exact ⟨rfl, by rw [tkF, tkL, if_neg (fun q => absurd q.1 (Int32.not_lt.mpr c4))]⟩ | exact ⟨rfl, by rw [tkF, tkL, if_neg (fun q => c16 q.2)]⟩
  · refine aw_aload_n (i := 0) dX0_tickWith_7 rfl rfl ?_
    refine ax_geti (ci := 0) 7 dX0_tickWith_8 rfl lfX0_47 (by decide) (by assumption) (by rfl) ?_
    refine aw_aload_n (i := 0) dX0_tickWith_11 rfl rfl ?_
    refine ax_geti (ci := 0) 6 dX0_tickWith_12 rfl lfX0_37 (by decide) (by assumption) (by rfl) ?_
    refine aw_irem dX0_tickWith_15 (fun z => absurd (Int32.not_le.mp c4) (by rw [show f b 6 = 0 from z]; decide)) ?_
    refine aw_if_ne (tgt := 49) dX0_tickWith_16 (by decide) (fun c16 => ?_) (fun c16 => ?_)
    · refine aw_aload_n (i := 0) dX0_tickWith_49 rfl rfl ?_
      refine aw_dup dX0_tickWith_50 rfl ?_
      refine ax_geti (ci := 0) 7 dX0_tickWith_51 rfl lfX0_47 (by decide) (by assumption) (by rfl) ?_
      refine aw_iconst (v := 1) dX0_tickWith_54 (by decide) ?_
      refine aw_iadd dX0_tickWith_55 ?_
      refine ax_puti (ci := 0) 7 dX0_tickWith_56 rfl lfX0_47 (by decide) (by assumption) (by rfl) rfl rfl ?_
      refine aw_return dX0_tickWith_59 rfl ?_
      first | (have hip : i = n := (by have := (nI_leI (a := n) (b := i) (by omega) (by omega)).mp c26; omega); subst hip; exact ⟨rfl, by rw [tkF, tkL, if_pos hc]⟩) | exact ⟨rfl, by rw [tkF, tkL, if_neg (fun q => absurd q.1 (Int32.not_lt.mpr c4))]⟩ | exact ⟨rfl, by rw [tkF, tkL, if_neg (fun q => c16 q.2)]⟩
    · refine aw_iconst (v := 0) dX0_tickWith_19 (by decide) ?_
      refine aw_istore_n (i := 2) (L' := [_, _, _]) dX0_tickWith_20 rfl (Nat.le_of_ble_eq_true rfl) rfl rfl ?_
      have e := loop (n + 1) 0 ⟨Int32.not_le.mp c4, c16⟩ (Nat.zero_le _) (by omega)
      rw [upn_0] at e
      exact e
/-- the board at b behind i ticks -/
def advF (f : Nat → Nat → Int32) (b n p : Nat) : Nat → Nat → Nat → Int32
  | 0 => f
  | i + 1 => tkF (advF f b n p i) b n (cbF (advF f b n p i) b n p)
theorem advF_out {f : Nat → Nat → Int32} {b n p c' : Nat} (h : c' < b ∨ c' = b + 1 ∨ b + 2 + n ≤ c') : ∀ i, advF f b n p i c' = f c' := by
  intro i
  induction i with
  | zero => rfl
  | succ i ih => rw [advF, tkF_out h, ih]
theorem advF_b {f : Nat → Nat → Int32} {b n p j : Nat} (h : j ≠ 7) : ∀ i, advF f b n p i b j = f b j := by
  intro i
  induction i with
  | zero => rfl
  | succ i ih => rw [advF, tkF_b h, ih]
def wrF (f : Nat → Nat → Int32) (b n p : Nat) : Nat → Int32
  | 0 => 0
  | i + 1 => if cbF (advF f b n p i) b n p = orF (fun k => advF f b n p (i + 1) (b + 2 + k) 3) n then wrF f b n p i else wrF f b n p i + 1
def dueF (pt ps : Nat → Int32) (lo hi : Int32) : Nat → Int32
  | 0 => 0
  | i + 1 => if ps i = 1 ∧ lo ≤ pt i ∧ pt i ≤ hi then dueF pt ps lo hi i + 1 else dueF pt ps lo hi i
def lastF (st : Nat → Int32) : Nat → Int32
  | 0 => -4
  | i + 1 => imax (lastF st i) (st i)
set_option maxRecDepth 100000 in
set_option maxHeartbeats 4000000 in
theorem f_X0_advance {V : am_V} {d b : Nat} {f : Nat → Nat → Int32} {τ : Nat → Nat → Int64} (hb : am_isB b) {n p : Nat} (hn4 : n ≤ 4) (hn : f b 1 = nI n) (hp8 : p ≤ 8) (hp1 : f b 5 = nI p) {N : Nat} (hN : N < 2 ^ 31) : AF V MX0_advance (d + 4) [.ref b, .int (nI N)] (f, τ) none (advF f b n p N, τ) := by
  have tB := tb_B hb
  have tk := tb_Bk hb
  have t6 := tb_B6 hb
  have t7 := tb_B7 hb
  have t8 := tb_B8 hb
  have t9 := tb_B9 hb
  have t10 := tb_B10 hb
  have t11 := tb_B11 hb
  refine AM.of (L := [some (.ref b), some (.int (nI N)), none]) (by decide +kernel) (Nat.le_of_ble_eq_true rfl) rfl ?_
  have loop : ∀ (m i : Nat), i ≤ N → N - i < m → AW V MX0_advance (d + 4) 0 0 2 [some (.ref b), some (.int (nI N)), some (.int (nI i))] [] (hp (advF f b n p i, τ)) (fun r' h' => r' = none ∧ h' = hp (advF f b n p N, τ)) := by
    intro m
    induction m with
    | zero => intro i h1 h2; omega
    | succ m ih =>
      intro i h1 h2
      refine aw_iload_n (i := 2) dX0_advance_2 rfl rfl ?_
      refine aw_iload_n (i := 1) dX0_advance_3 rfl rfl ?_
      refine aw_icmp_ge (tgt := 21) dX0_advance_4 (by decide) (fun c4 => ?_) (fun c4 => ?_)
      · refine aw_return dX0_advance_21 rfl ?_
        have hip : i = N := by have := (nI_leI (a := N) (b := i) (by omega) (by omega)).mp c4; omega
        subst hip
        exact ⟨rfl, rfl⟩
      · have hi : i < N := Nat.not_le.mp (fun z => c4 (nI_le z (by omega)))
        refine aw_aload_n (i := 0) dX0_advance_7 rfl rfl ?_
        refine aw_aload_n (i := 0) dX0_advance_8 rfl rfl ?_
        refine ax_callV0i (M' := MX0_contactBits) (ci := 0) dX0_advance_9 lmX0_102 oX0_contactBits (by decide +kernel) (by assumption) rfl rfl (Nat.le_of_ble_eq_true rfl) (f_X0_contactBits hb hn4 (by rw [advF_b (by decide)]; exact hn) hp8 (by rw [advF_b (by decide)]; exact hp1)) ?_
        refine ax_callV1v (M' := MX0_tickWith) (ci := 0) dX0_advance_12 lmX0_106 oX0_tickWith (by decide +kernel) (by assumption) rfl rfl (Nat.le_of_ble_eq_true rfl) (f_X0_tickWith hb hn4 (by rw [advF_b (by decide)]; exact hn) _) ?_
        refine aw_incN (L' := [_, _, _]) dX0_advance_15 rfl (Nat.le_of_ble_eq_true rfl) rfl rfl ?_
        refine aw_goto (tgt := 2) dX0_advance_18 (by decide) ?_
        exact ih (i + 1) hi (by omega)
  refine aw_iconst (v := 0) dX0_advance_0 (by decide) ?_
  refine aw_istore_n (i := 2) (L' := [_, _, _]) dX0_advance_1 rfl (Nat.le_of_ble_eq_true rfl) rfl rfl ?_
  exact loop (N + 1) 0 (Nat.zero_le _) (by omega)
set_option maxRecDepth 100000 in
set_option maxHeartbeats 4000000 in
theorem f_X0_advanceCountingWrong {V : am_V} {d b : Nat} {f : Nat → Nat → Int32} {τ : Nat → Nat → Int64} (hb : am_isB b) {n p : Nat} (hn4 : n ≤ 4) (hn : f b 1 = nI n) (hp8 : p ≤ 8) (hp1 : f b 5 = nI p) {N : Nat} (hN : N < 2 ^ 31) : AF V MX0_advanceCountingWrong (d + 4) [.ref b, .int (nI N)] (f, τ) (some (.int (wrF f b n p N))) (advF f b n p N, τ) := by
  have tB := tb_B hb
  have tk := tb_Bk hb
  have t6 := tb_B6 hb
  have t7 := tb_B7 hb
  have t8 := tb_B8 hb
  have t9 := tb_B9 hb
  have t10 := tb_B10 hb
  have t11 := tb_B11 hb
  refine AM.of (L := [some (.ref b), some (.int (nI N)), none, none, none]) (by decide +kernel) (Nat.le_of_ble_eq_true rfl) rfl ?_
  have loop : ∀ (m i : Nat) (z : Option Value), i ≤ N → N - i < m → AW V MX0_advanceCountingWrong (d + 4) 0 0 4 [some (.ref b), some (.int (nI N)), some (.int (wrF f b n p i)), some (.int (nI i)), z] [] (hp (advF f b n p i, τ)) (fun r' h' => r' = some (.int (wrF f b n p N)) ∧ h' = hp (advF f b n p N, τ)) := by
    intro m
    induction m with
    | zero => intro i z h1 h2; omega
    | succ m ih =>
      intro i z h1 h2
      have kY : i < N → cbF (advF f b n p i) b n p = orF (fun k => advF f b n p (i + 1) (b + 2 + k) 3) n → wrF f b n p (i + 1) = wrF f b n p i := fun _ q => by rw [wrF, if_pos q]
      have kN : i < N → ¬ cbF (advF f b n p i) b n p = orF (fun k => advF f b n p (i + 1) (b + 2 + k) 3) n → wrF f b n p (i + 1) = wrF f b n p i + 1 := fun _ q => by rw [wrF, if_neg q]
      refine aw_iload_n (i := 3) dX0_advanceCountingWrong_4 rfl rfl ?_
      refine aw_iload_n (i := 1) dX0_advanceCountingWrong_5 rfl rfl ?_
      refine aw_icmp_ge (tgt := 39) dX0_advanceCountingWrong_6 (by decide) (fun c6 => ?_) (fun c6 => ?_)
      · refine aw_iload_n (i := 2) dX0_advanceCountingWrong_39 rfl rfl ?_
        refine aw_ireturn (ty := .int) dX0_advanceCountingWrong_40 rfl rfl ?_
        have hip : i = N := by have := (nI_leI (a := N) (b := i) (by omega) (by omega)).mp c6; omega
        subst hip
        exact ⟨rfl, rfl⟩
      · have hi : i < N := Nat.not_le.mp (fun z => c6 (nI_le z (by omega)))
        refine aw_aload_n (i := 0) dX0_advanceCountingWrong_9 rfl rfl ?_
        refine ax_callV0i (M' := MX0_contactBits) (ci := 0) dX0_advanceCountingWrong_10 lmX0_102 oX0_contactBits (by decide +kernel) (by assumption) rfl rfl (Nat.le_of_ble_eq_true rfl) (f_X0_contactBits hb hn4 (by rw [advF_b (by decide)]; exact hn) hp8 (by rw [advF_b (by decide)]; exact hp1)) ?_
        refine aw_istore (i := 4) (L' := [_, _, _, _, _]) dX0_advanceCountingWrong_13 (Nat.le_of_ble_eq_true rfl) rfl rfl ?_
        refine aw_aload_n (i := 0) dX0_advanceCountingWrong_15 rfl rfl ?_
        refine aw_iload dX0_advanceCountingWrong_16 rfl ?_
        refine ax_callV1v (M' := MX0_tickWith) (ci := 0) dX0_advanceCountingWrong_18 lmX0_106 oX0_tickWith (by decide +kernel) (by assumption) rfl rfl (Nat.le_of_ble_eq_true rfl) (f_X0_tickWith hb hn4 (by rw [advF_b (by decide)]; exact hn) _) ?_
        refine aw_iload dX0_advanceCountingWrong_21 rfl ?_
        refine aw_aload_n (i := 0) dX0_advanceCountingWrong_23 rfl rfl ?_
        refine ax_callV0i (M' := MX0_saysBits) (ci := 0) dX0_advanceCountingWrong_24 lmX0_109 oX0_saysBits (by decide +kernel) (by assumption) rfl rfl (Nat.le_of_ble_eq_true rfl) (f_X0_saysBits hb hn4 (by rw [tkF_b (by decide), advF_b (by decide)]; exact hn)) ?_
        refine aw_icmp_eq (tgt := 33) dX0_advanceCountingWrong_27 (by decide) (fun c27 => ?_) (fun c27 => ?_)
        · refine aw_incN (L' := [_, _, _, _, _]) dX0_advanceCountingWrong_33 rfl (Nat.le_of_ble_eq_true rfl) rfl rfl ?_
          refine aw_goto (tgt := 4) dX0_advanceCountingWrong_36 (by decide) ?_
          have e := fun z => ih (i + 1) z hi (by omega)
          first | (rw [kY hi c27] at e; exact e _) | (rw [kN hi c27] at e; exact e _)
        · refine aw_iinc (v := wrF f b n p i + 1) (L' := [_, _, _, _, _]) dX0_advanceCountingWrong_30 rfl rfl (Nat.le_of_ble_eq_true rfl) rfl rfl ?_
          refine aw_incN (L' := [_, _, _, _, _]) dX0_advanceCountingWrong_33 rfl (Nat.le_of_ble_eq_true rfl) rfl rfl ?_
          refine aw_goto (tgt := 4) dX0_advanceCountingWrong_36 (by decide) ?_
          have e := fun z => ih (i + 1) z hi (by omega)
          first | (rw [kY hi c27] at e; exact e _) | (rw [kN hi c27] at e; exact e _)
  refine aw_iconst (v := 0) dX0_advanceCountingWrong_0 (by decide) ?_
  refine aw_istore_n (i := 2) (L' := [_, _, _, _, _]) dX0_advanceCountingWrong_1 rfl (Nat.le_of_ble_eq_true rfl) rfl rfl ?_
  refine aw_iconst (v := 0) dX0_advanceCountingWrong_2 (by decide) ?_
  refine aw_istore_n (i := 3) (L' := [_, _, _, _, _]) dX0_advanceCountingWrong_3 rfl (Nat.le_of_ble_eq_true rfl) rfl rfl ?_
  exact loop (N + 1) 0 _ (Nat.zero_le _) (by omega)
set_option maxRecDepth 100000 in
set_option maxHeartbeats 4000000 in
theorem f_X0_dueIn {V : am_V} {d b : Nat} {f : Nat → Nat → Int32} {τ : Nat → Nat → Int64} (hb : am_isB b) {p : Nat} (hp8 : p ≤ 8) (hp1 : f b 5 = nI p) (x : Int32) : AF V MX0_dueIn (d + 1) [.ref b, .int x] (f, τ) (some (.int (dueF (f (b + 6)) (f (b + 8)) (f b 7) (f b 7 + x - 1) p))) (f, τ) := by
  have tB := tb_B hb
  have tk := tb_Bk hb
  have t6 := tb_B6 hb
  have t7 := tb_B7 hb
  have t8 := tb_B8 hb
  have t9 := tb_B9 hb
  have t10 := tb_B10 hb
  have t11 := tb_B11 hb
  refine AM.of (L := [some (.ref b), some (.int x), none, none]) (by decide +kernel) (Nat.le_of_ble_eq_true rfl) rfl ?_
  have loop : ∀ (m i : Nat), i ≤ p → p - i < m → AW V MX0_dueIn (d + 1) 0 0 4 [some (.ref b), some (.int x), some (.int (dueF (f (b + 6)) (f (b + 8)) (f b 7) (f b 7 + x - 1) i)), some (.int (nI i))] [] (hp (f, τ)) (fun r' h' => r' = some (.int (dueF (f (b + 6)) (f (b + 8)) (f b 7) (f b 7 + x - 1) p)) ∧ h' = hp (f, τ)) := by
    intro m
    induction m with
    | zero => intro i h1 h2; omega
    | succ m ih =>
      intro i h1 h2
      have kY : (f (b + 8) i = 1 ∧ f b 7 ≤ f (b + 6) i ∧ f (b + 6) i ≤ f b 7 + x - 1) → dueF (f (b + 6)) (f (b + 8)) (f b 7) (f b 7 + x - 1) (i + 1) = dueF (f (b + 6)) (f (b + 8)) (f b 7) (f b 7 + x - 1) i + 1 := fun q => by rw [dueF, if_pos q]
      have kN : ¬ (f (b + 8) i = 1 ∧ f b 7 ≤ f (b + 6) i ∧ f (b + 6) i ≤ f b 7 + x - 1) → dueF (f (b + 6)) (f (b + 8)) (f b 7) (f b 7 + x - 1) (i + 1) = dueF (f (b + 6)) (f (b + 8)) (f b 7) (f b 7 + x - 1) i := fun q => by rw [dueF, if_neg q]
      refine aw_iload_n (i := 3) dX0_dueIn_4 rfl rfl ?_
      refine aw_aload_n (i := 0) dX0_dueIn_5 rfl rfl ?_
      refine ax_geti (ci := 0) 5 dX0_dueIn_6 rfl lfX0_44 (by decide) (by assumption) (by rfl) ?_
      refine aw_tE (nI p) hp1 ?_
      refine aw_icmp_ge (tgt := 55) dX0_dueIn_9 (by decide) (fun c9 => ?_) (fun c9 => ?_)
      · refine aw_iload_n (i := 2) dX0_dueIn_55 rfl rfl ?_
        refine aw_ireturn (ty := .int) dX0_dueIn_56 rfl rfl ?_
        have hip : i = p := by have := (nI_leI (a := p) (b := i) (by omega) (by omega)).mp c9; omega
        subst hip
        exact ⟨rfl, rfl⟩
      · have hi : i < p := Nat.not_le.mp (fun z => c9 (nI_le z (by omega)))
        refine aw_aload_n (i := 0) dX0_dueIn_12 rfl rfl ?_
        refine ax_getr (ci := 0) 4 dX0_dueIn_13 rfl lfX0_25 (by decide) (by assumption) (by rfl) ?_
        refine aw_iload_n (i := 3) dX0_dueIn_16 rfl rfl ?_
        refine ax_ialdN dX0_dueIn_17 (by assumption) (by omega) (Nat.le_of_ble_eq_true rfl) ?_
        refine aw_iconst (v := 1) dX0_dueIn_18 (by decide) ?_
        refine aw_icmp_ne (tgt := 49) dX0_dueIn_19 (by decide) (fun c19 => ?_) (fun c19 => ?_)
        · refine aw_incN (L' := [_, _, _, _]) dX0_dueIn_49 rfl (Nat.le_of_ble_eq_true rfl) rfl rfl ?_
          refine aw_goto (tgt := 4) dX0_dueIn_52 (by decide) ?_
          have e := ih (i + 1) hi (by omega)
          first | (rw [kN (fun q => c19 q.1)] at e; exact e) | (rw [kN (fun q => absurd c43 (by rw [b2i_t q.2]; decide))] at e; exact e) | (rw [kY ⟨c19, Decidable.not_not.mp (fun q => c43 (b2i_f q))⟩] at e; exact e)
        · refine aw_aload_n (i := 0) dX0_dueIn_22 rfl rfl ?_
          refine ax_getr (ci := 0) 2 dX0_dueIn_23 rfl lfX0_18 (by decide) (by assumption) (by rfl) ?_
          refine aw_iload_n (i := 3) dX0_dueIn_26 rfl rfl ?_
          refine ax_ialdN dX0_dueIn_27 (by assumption) (by omega) (Nat.le_of_ble_eq_true rfl) ?_
          refine aw_aload_n (i := 0) dX0_dueIn_28 rfl rfl ?_
          refine ax_geti (ci := 0) 7 dX0_dueIn_29 rfl lfX0_47 (by decide) (by assumption) (by rfl) ?_
          refine aw_aload_n (i := 0) dX0_dueIn_32 rfl rfl ?_
          refine ax_geti (ci := 0) 7 dX0_dueIn_33 rfl lfX0_47 (by decide) (by assumption) (by rfl) ?_
          refine aw_iload_n (i := 1) dX0_dueIn_36 rfl rfl ?_
          refine aw_iadd dX0_dueIn_37 ?_
          refine aw_iconst (v := 1) dX0_dueIn_38 (by decide) ?_
          refine aw_isub dX0_dueIn_39 ?_
          refine ax_callSN3i (M' := MX4_within) dX0_dueIn_40 (List.mem_of_getElem? (i := 2) rfl) oX4_within (by decide +kernel) (Nat.le_of_ble_eq_true rfl) (f_X4_within _ _ _) ?_
          refine aw_if_eq (tgt := 49) dX0_dueIn_43 (by decide) (fun c43 => ?_) (fun c43 => ?_)
          · refine aw_incN (L' := [_, _, _, _]) dX0_dueIn_49 rfl (Nat.le_of_ble_eq_true rfl) rfl rfl ?_
            refine aw_goto (tgt := 4) dX0_dueIn_52 (by decide) ?_
            have e := ih (i + 1) hi (by omega)
            first | (rw [kN (fun q => c19 q.1)] at e; exact e) | (rw [kN (fun q => absurd c43 (by rw [b2i_t q.2]; decide))] at e; exact e) | (rw [kY ⟨c19, Decidable.not_not.mp (fun q => c43 (b2i_f q))⟩] at e; exact e)
          · refine aw_iinc (v := dueF (f (b + 6)) (f (b + 8)) (f b 7) (f b 7 + x - 1) i + 1) (L' := [_, _, _, _]) dX0_dueIn_46 rfl rfl (Nat.le_of_ble_eq_true rfl) rfl rfl ?_
            refine aw_incN (L' := [_, _, _, _]) dX0_dueIn_49 rfl (Nat.le_of_ble_eq_true rfl) rfl rfl ?_
            refine aw_goto (tgt := 4) dX0_dueIn_52 (by decide) ?_
            have e := ih (i + 1) hi (by omega)
            first | (rw [kN (fun q => c19 q.1)] at e; exact e) | (rw [kN (fun q => absurd c43 (by rw [b2i_t q.2]; decide))] at e; exact e) | (rw [kY ⟨c19, Decidable.not_not.mp (fun q => c43 (b2i_f q))⟩] at e; exact e)
  refine aw_iconst (v := 0) dX0_dueIn_0 (by decide) ?_
  refine aw_istore_n (i := 2) (L' := [_, _, _, _]) dX0_dueIn_1 rfl (Nat.le_of_ble_eq_true rfl) rfl rfl ?_
  refine aw_iconst (v := 0) dX0_dueIn_2 (by decide) ?_
  refine aw_istore_n (i := 3) (L' := [_, _, _, _]) dX0_dueIn_3 rfl (Nat.le_of_ble_eq_true rfl) rfl rfl ?_
  exact loop (p + 1) 0 (Nat.zero_le _) (by omega)
set_option maxRecDepth 100000 in
set_option maxHeartbeats 4000000 in
theorem f_X0_lastSeenTicks {V : am_V} {d b : Nat} {f : Nat → Nat → Int32} {τ : Nat → Nat → Int64} (hb : am_isB b) {s : Nat} (hs6 : s ≤ 6) (hs : f b 11 = nI s) : AF V MX0_lastSeenTicks (d + 1) [.ref b] (f, τ) (some (.int (lastF (f (b + 9)) s))) (f, τ) := by
  have tB := tb_B hb
  have tk := tb_Bk hb
  have t6 := tb_B6 hb
  have t7 := tb_B7 hb
  have t8 := tb_B8 hb
  have t9 := tb_B9 hb
  have t10 := tb_B10 hb
  have t11 := tb_B11 hb
  refine AM.of (L := [some (.ref b), none, none]) (by decide +kernel) (Nat.le_of_ble_eq_true rfl) rfl ?_
  have loop : ∀ (m i : Nat), i ≤ s → s - i < m → AW V MX0_lastSeenTicks (d + 1) 0 0 5 [some (.ref b), some (.int (lastF (f (b + 9)) i)), some (.int (nI i))] [] (hp (f, τ)) (fun r' h' => r' = some (.int (lastF (f (b + 9)) s)) ∧ h' = hp (f, τ)) := by
    intro m
    induction m with
    | zero => intro i h1 h2; omega
    | succ m ih =>
      intro i h1 h2
      refine aw_iload_n (i := 2) dX0_lastSeenTicks_5 rfl rfl ?_
      refine aw_aload_n (i := 0) dX0_lastSeenTicks_6 rfl rfl ?_
      refine ax_geti (ci := 0) 11 dX0_lastSeenTicks_7 rfl lfX0_50 (by decide) (by assumption) (by rfl) ?_
      refine aw_tE (nI s) hs ?_
      refine aw_icmp_ge (tgt := 30) dX0_lastSeenTicks_10 (by decide) (fun c10 => ?_) (fun c10 => ?_)
      · refine aw_iload_n (i := 1) dX0_lastSeenTicks_30 rfl rfl ?_
        refine aw_ireturn (ty := .int) dX0_lastSeenTicks_31 rfl rfl ?_
        have hip : i = s := by have := (nI_leI (a := s) (b := i) (by omega) (by omega)).mp c10; omega
        subst hip
        exact ⟨rfl, rfl⟩
      · have hi : i < s := Nat.not_le.mp (fun z => c10 (nI_le z (by omega)))
        refine aw_iload_n (i := 1) dX0_lastSeenTicks_13 rfl rfl ?_
        refine aw_aload_n (i := 0) dX0_lastSeenTicks_14 rfl rfl ?_
        refine ax_getr (ci := 0) 8 dX0_lastSeenTicks_15 rfl lfX0_28 (by decide) (by assumption) (by rfl) ?_
        refine aw_iload_n (i := 2) dX0_lastSeenTicks_18 rfl rfl ?_
        refine ax_ialdN dX0_lastSeenTicks_19 (by assumption) (by omega) (Nat.le_of_ble_eq_true rfl) ?_
        refine aw_mmax dX0_lastSeenTicks_20 lmX0_122 (Nat.le_of_ble_eq_true rfl) ?_
        refine aw_istore_n (i := 1) (L' := [_, _, _]) dX0_lastSeenTicks_23 rfl (Nat.le_of_ble_eq_true rfl) rfl rfl ?_
        refine aw_incN (L' := [_, _, _]) dX0_lastSeenTicks_24 rfl (Nat.le_of_ble_eq_true rfl) rfl rfl ?_
        refine aw_goto (tgt := 5) dX0_lastSeenTicks_27 (by decide) ?_
        exact ih (i + 1) hi (by omega)
  refine aw_bipush (v := -4) dX0_lastSeenTicks_0 (by decide) ?_
  refine aw_istore_n (i := 1) (L' := [_, _, _]) dX0_lastSeenTicks_2 rfl (Nat.le_of_ble_eq_true rfl) rfl rfl ?_
  refine aw_iconst (v := 0) dX0_lastSeenTicks_3 (by decide) ?_
  refine aw_istore_n (i := 2) (L' := [_, _, _]) dX0_lastSeenTicks_4 rfl (Nat.le_of_ble_eq_true rfl) rfl rfl ?_
  exact loop (s + 1) 0 (Nat.zero_le _) (by omega)
set_option maxRecDepth 100000 in
set_option maxHeartbeats 4000000 in
theorem f_X0_sumOfPart {V : am_V} {d b : Nat} {f : Nat → Nat → Int32} {τ : Nat → Nat → Int64} (hb : am_isB b) {n : Nat} (hn4 : n ≤ 4) (hn : f b 1 = nI n) (what : Int32) : AF V MX0_sumOfPart (d + 1) [.ref b, .int what] (f, τ) (some (.int (sumF (fun k => k_part (f (b + 2 + k)) what) n))) (f, τ) := by
  have tB := tb_B hb
  have tk := tb_Bk hb
  have t6 := tb_B6 hb
  have t7 := tb_B7 hb
  have t8 := tb_B8 hb
  have t9 := tb_B9 hb
  have t10 := tb_B10 hb
  have t11 := tb_B11 hb
  refine AM.of (L := [some (.ref b), some (.int what), none, none]) (by decide +kernel) (Nat.le_of_ble_eq_true rfl) rfl ?_
  have loop : ∀ (m i : Nat), i ≤ n → n - i < m → AW V MX0_sumOfPart (d + 1) 0 0 4 [some (.ref b), some (.int what), some (.int (sumF (fun k => k_part (f (b + 2 + k)) what) i)), some (.int (nI i))] [] (hp (f, τ)) (fun r' h' => r' = some (.int (sumF (fun k => k_part (f (b + 2 + k)) what) n)) ∧ h' = hp (f, τ)) := by
    intro m
    induction m with
    | zero => intro i h1 h2; omega
    | succ m ih =>
      intro i h1 h2
      refine aw_iload_n (i := 3) dX0_sumOfPart_4 rfl rfl ?_
      refine aw_aload_n (i := 0) dX0_sumOfPart_5 rfl rfl ?_
      refine ax_geti (ci := 0) 1 dX0_sumOfPart_6 rfl lfX0_41 (by decide) (by assumption) (by rfl) ?_
      refine aw_tE (nI n) hn ?_
      refine aw_icmp_ge (tgt := 31) dX0_sumOfPart_9 (by decide) (fun c9 => ?_) (fun c9 => ?_)
      · refine aw_iload_n (i := 2) dX0_sumOfPart_31 rfl rfl ?_
        refine aw_ireturn (ty := .int) dX0_sumOfPart_32 rfl rfl ?_
        have hip : i = n := by have := (nI_leI (a := n) (b := i) (by omega) (by omega)).mp c9; omega
        subst hip
        exact ⟨rfl, rfl⟩
      · have hi : i < n := Nat.not_le.mp (fun z => c9 (nI_le z (by omega)))
        have tK := tb_K hb (k := i) (by omega)
        refine aw_iload_n (i := 2) dX0_sumOfPart_12 rfl rfl ?_
        refine aw_aload_n (i := 0) dX0_sumOfPart_13 rfl rfl ?_
        refine ax_getr (ci := 0) 0 dX0_sumOfPart_14 rfl lfX0_11 (by decide) (by assumption) (by rfl) ?_
        refine aw_iload_n (i := 3) dX0_sumOfPart_17 rfl rfl ?_
        refine ax_keyN dX0_sumOfPart_18 (by assumption) (by omega) ?_
        refine aw_iload_n (i := 1) dX0_sumOfPart_19 rfl rfl ?_
        refine ax_callV1i (M' := MX1_part) (ci := 1) dX0_sumOfPart_20 lmX0_85 oX1_part (by decide +kernel) (by assumption) rfl rfl (Nat.le_of_ble_eq_true rfl) (e_X1_part tK _) ?_
        refine aw_iadd dX0_sumOfPart_23 ?_
        refine aw_istore_n (i := 2) (L' := [_, _, _, _]) dX0_sumOfPart_24 rfl (Nat.le_of_ble_eq_true rfl) rfl rfl ?_
        refine aw_incN (L' := [_, _, _, _]) dX0_sumOfPart_25 rfl (Nat.le_of_ble_eq_true rfl) rfl rfl ?_
        refine aw_goto (tgt := 4) dX0_sumOfPart_28 (by decide) ?_
        exact ih (i + 1) hi (by omega)
  refine aw_iconst (v := 0) dX0_sumOfPart_0 (by decide) ?_
  refine aw_istore_n (i := 2) (L' := [_, _, _, _]) dX0_sumOfPart_1 rfl (Nat.le_of_ble_eq_true rfl) rfl rfl ?_
  refine aw_iconst (v := 0) dX0_sumOfPart_2 (by decide) ?_
  refine aw_istore_n (i := 3) (L' := [_, _, _, _]) dX0_sumOfPart_3 rfl (Nat.le_of_ble_eq_true rfl) rfl rfl ?_
  exact loop (n + 1) 0 (Nat.zero_le _) (by omega)
