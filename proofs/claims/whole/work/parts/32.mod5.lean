theorem k_say_7 (g : Nat → Int32) (v : Int32) : k_say g v 7 = g 7 ∨ k_say g v 7 = g 7 + 1 := by
  unfold k_say
  split
  · exact Or.inl rfl
  · split
    · exact Or.inr rfl
    · exact Or.inl rfl
theorem k_look_7 (g : Nat → Int32) (c : Int32) : k_look g c 7 = g 7 ∨ k_look g c 7 = g 7 + 1 := by
  unfold k_look
  split
  · exact Or.inl rfl
  · split
    · exact k_say_7 (k_weigh g c) _
    · have e : k_comp g c 7 = g 7 := by
        unfold k_comp
        split
        · rfl
        · split <;> rfl
      rcases k_say_7 (k_comp g c) (k_compR g c) with q | q
      · exact Or.inl (q.trans e)
      · exact Or.inr (q.trans (by rw [e]))
theorem avK_7 {pk pt ps : Nat → Int32} {n p : Nat} {ev t : Int32} {K : Nat → Nat → Int32} (h : ∀ k, K k 7 = 0) : ∀ i k, ∃ m, m ≤ i ∧ (avK pk pt ps n p ev K t i).1 k 7 = nI m := by
  intro i
  induction i with
  | zero => intro k; exact ⟨0, Nat.le_refl _, h k⟩
  | succ i ih =>
    intro k
    obtain ⟨m, hm, e⟩ := ih k
    rw [avK]
    show ∃ m, m ≤ i + 1 ∧ tkK _ _ _ _ k 7 = nI m
    unfold tkK
    split
    · rcases k_look_7 ((avK pk pt ps n p ev K t i).1 k) ((cbK pk pt ps n p (avK pk pt ps n p ev K t i).1 (avK pk pt ps n p ev K t i).2 >>> (nI k &&& 31)) &&& 1) with q | q
      · exact ⟨m, by omega, q.trans e⟩
      · exact ⟨m + 1, by omega, by rw [q, e, nI_1]⟩
    · exact ⟨m, by omega, e⟩
theorem sumF_b {c : Nat → Int32} {M : Nat} (h : ∀ k, ∃ m, m ≤ M ∧ c k = nI m) : ∀ n, ∃ q, q ≤ n * M ∧ sumF c n = nI q := by
  intro n
  induction n with
  | zero => exact ⟨0, by omega, rfl⟩
  | succ n ih =>
    obtain ⟨q, hq, e⟩ := ih
    obtain ⟨m, hm, e2⟩ := h n
    refine ⟨q + m, ?_, by rw [sumF, e, e2, nI_add]⟩
    rw [Nat.succ_mul]
    omega
theorem dueF_b {pt ps : Nat → Int32} {lo hi : Int32} : ∀ p, ∃ q, q ≤ p ∧ dueF pt ps lo hi p = nI q := by
  intro p
  induction p with
  | zero => exact ⟨0, by omega, rfl⟩
  | succ p ih =>
    obtain ⟨q, hq, e⟩ := ih
    rw [dueF]
    split
    · exact ⟨q + 1, by omega, by rw [e, nI_1]⟩
    · exact ⟨q, by omega, e⟩
theorem iabs_b {a b : Nat} (ha : a ≤ 800) (hb : b ≤ 8) : ∃ z, z ≤ 800 ∧ iabs (nI a - nI b) = nI z := by
  unfold iabs
  by_cases q : b ≤ a
  · rw [pk_sub q, if_pos (nI_pos' (by omega))]
    exact ⟨a - b, by omega, rfl⟩
  · rw [if_neg (Int32.not_le.mpr (pk_sneg (by omega) (by omega))), Int32.zero_sub, Int32.neg_sub, pk_sub (by omega)]
    exact ⟨b - a, by omega, rfl⟩
theorem off_lt {K : Nat → Nat → Int32} {pk pt ps pt' ps' : Nat → Int32} {n p p' N : Nat} {ev t lo hi : Int32} (hK : ∀ k, K k 7 = 0) (hn4 : n ≤ 4) (hp : p' ≤ 8) (hN : N ≤ 200) : iabs (sumF (fun k => (avK pk pt ps n p ev K t N).1 k 7) n - dueF pt' ps' lo hi p') < 1000000 := by
  obtain ⟨a, ha, ea⟩ := sumF_b (avK_7 (pk := pk) (pt := pt) (ps := ps) (n := n) (p := p) (ev := ev) (t := t) hK N) n
  obtain ⟨b, hb, eb⟩ := dueF_b (pt := pt') (ps := ps') (lo := lo) (hi := hi) p'
  have hm : n * N ≤ 4 * 200 := Nat.mul_le_mul hn4 hN
  obtain ⟨z, hz, ez⟩ := iabs_b (a := a) (b := b) (by omega) (by omega)
  rw [ea, eb, ez]
  exact nI_lt (b := 1000000) (by omega) (by omega)
theorem jdU_b0 {cd c : Nat → Int32} {b0 b1 l0 : Int32} (h : c 0 < l0) : ∀ i, jdU cd c b0 l0 (i + 1) = jdU cd c b1 l0 (i + 1) := by
  intro i
  induction i with
  | zero =>
    show (if c 0 < l0 then (cd 0, c 0) else (b0, l0)) = (if c 0 < l0 then (cd 0, c 0) else (b1, l0))
    rw [if_pos h, if_pos h]
  | succ i ih =>
    show (if c (i + 1) < (jdU cd c b0 l0 (i + 1)).2 then (cd (i + 1), c (i + 1)) else jdU cd c b0 l0 (i + 1)) = (if c (i + 1) < (jdU cd c b1 l0 (i + 1)).2 then (cd (i + 1), c (i + 1)) else jdU cd c b1 l0 (i + 1))
    rw [ih]
theorem K0_7 (f : Nat → Nat → Int32) (k : Nat) : K0 f k 7 = 0 := rfl
theorem altK_7 {K : Nat → Nat → Int32} {j : Nat} {x y : Int32} (h : ∀ k, K k 7 = 0) (k : Nat) : altK K j x y k 7 = 0 := by
  unfold altK
  split
  · unfold k_become upd
    rw [if_neg (by decide), if_neg (by split <;> (try decide); split <;> decide)]
    exact h k
  · exact h k
def sjF (f : Nat → Nat → Int32) (m : Int32) : Nat → Nat → Int32 := up2 (up2 f 64 17 (-4)) 64 18 m
def jgF (f : Nat → Nat → Int32) (c m : Int32) : Nat → Nat → Int32 := if f 64 18 ≤ m then f else up2 (up2 f 64 17 c) 64 18 m
theorem jg_pair (f : Nat → Nat → Int32) (c m : Int32) : (jgF f c m 64 17, jgF f c m 64 18) = if m < f 64 18 then (c, m) else (f 64 17, f 64 18) := by
  unfold jgF
  by_cases q : f 64 18 ≤ m
  · rw [if_pos q, if_neg (Int32.not_lt.mpr q)]
  · rw [if_neg q, if_pos (Int32.not_le.mp q), up2_self, up2_ne (by omega), up2_self]
theorem jgF_o {f : Nat → Nat → Int32} {c m : Int32} {a j : Nat} (h : ¬ (a = 64 ∧ 17 ≤ j ∧ j ≤ 18)) : jgF f c m a j = f a j := by
  unfold jgF
  split
  · rfl
  · rw [up2_ne (by omega), up2_ne (by omega)]
set_option maxRecDepth 100000 in
set_option maxHeartbeats 1000000 in
theorem f_X5_startsJudging {V : am_V} {d : Nat} {f : Nat → Nat → Int32} {τ : Nat → Nat → Int64} (m : Int32) : AF V MX5_startsJudging d [.ref 64, .int m] (f, τ) none (sjF f m, τ) := by
  have tM := tb_M
  have m65 := tb_65
  have m66 := tb_66
  have m67 := tb_67
  have m68 := tb_68
  have m69 := tb_69
  have m70 := tb_70
  have m71 := tb_71
  have m72 := tb_72
  have m73 := tb_73
  have m74 := tb_74
  have m75 := tb_75
  have m76 := tb_76
  refine AM.of (L := [some (.ref 64), some (.int m)]) (by decide +kernel) (Nat.le_of_ble_eq_true rfl) rfl ?_
  refine aw_aload_n (i := 0) dX5_startsJudging_0 rfl rfl ?_
  refine aw_bipush (v := -4) dX5_startsJudging_1 (by decide) ?_
  refine ax_puti (ci := 5) 17 dX5_startsJudging_3 rfl lfX5_246 (by decide) (by assumption) (by rfl) rfl rfl ?_
  refine aw_aload_n (i := 0) dX5_startsJudging_6 rfl rfl ?_
  refine aw_iload_n (i := 1) dX5_startsJudging_7 rfl rfl ?_
  refine ax_puti (ci := 5) 18 dX5_startsJudging_8 rfl lfX5_249 (by decide) (by assumption) (by rfl) rfl rfl ?_
  refine aw_return dX5_startsJudging_11 rfl ?_
  exact ⟨rfl, rfl⟩
set_option maxRecDepth 100000 in
set_option maxHeartbeats 1000000 in
theorem f_X5_judges {V : am_V} {d : Nat} {f : Nat → Nat → Int32} {τ : Nat → Nat → Int64} (c m : Int32) : AF V MX5_judges d [.ref 64, .int c, .int m] (f, τ) none (jgF f c m, τ) := by
  have tM := tb_M
  have m65 := tb_65
  have m66 := tb_66
  have m67 := tb_67
  have m68 := tb_68
  have m69 := tb_69
  have m70 := tb_70
  have m71 := tb_71
  have m72 := tb_72
  have m73 := tb_73
  have m74 := tb_74
  have m75 := tb_75
  have m76 := tb_76
  refine AM.of (L := [some (.ref 64), some (.int c), some (.int m)]) (by decide +kernel) (Nat.le_of_ble_eq_true rfl) rfl ?_
  refine aw_iload_n (i := 2) dX5_judges_0 rfl rfl ?_
  refine aw_aload_n (i := 0) dX5_judges_1 rfl rfl ?_
  refine ax_geti (ci := 5) 18 dX5_judges_2 rfl lfX5_249 (by decide) (by assumption) (by rfl) ?_
  refine aw_icmp_ge (tgt := 18) dX5_judges_5 (by decide) (fun c5 => ?_) (fun c5 => ?_)
  · refine aw_return dX5_judges_18 rfl ?_
    exact ⟨rfl, congrArg (fun z => hp (z, τ)) (if_pos c5).symm⟩
  · refine aw_aload_n (i := 0) dX5_judges_8 rfl rfl ?_
    refine aw_iload_n (i := 1) dX5_judges_9 rfl rfl ?_
    refine ax_puti (ci := 5) 17 dX5_judges_10 rfl lfX5_246 (by decide) (by assumption) (by rfl) rfl rfl ?_
    refine aw_aload_n (i := 0) dX5_judges_13 rfl rfl ?_
    refine aw_iload_n (i := 2) dX5_judges_14 rfl rfl ?_
    refine ax_puti (ci := 5) 18 dX5_judges_15 rfl lfX5_249 (by decide) (by assumption) (by rfl) rfl rfl ?_
    refine aw_return dX5_judges_18 rfl ?_
    exact ⟨rfl, congrArg (fun z => hp (z, τ)) (if_neg c5).symm⟩
set_option maxRecDepth 100000 in
set_option maxHeartbeats 1000000 in
theorem n_offIn {V : am_V} {d : Nat} {f : Nat → Nat → Int32} {τ : Nat → Nat → Int64} {f0 : Nat → Nat → Int32} {n p s e T : Nat} (hB : BR f0 2 0 n p s e T) {p2 e2 : Nat} {pk pt ps : Nat → Int32} {K : Nat → Nat → Int32} (he2 : 1 ≤ e2 ∧ e2 ≤ 4) (h : MR f0 n p2 pk pt ps e2 K T f) {N : Nat} (hN : N ≤ 200) : AGi V MX5_offIn (d + 6) [.ref 64, .int (nI N)] (f, τ) (fun x S' => x = iabs (sumF (fun k => (avK pk pt ps n p2 (nI e2) K (nI T) N).1 k 7) n - dueF (f0 8) (f0 10) (f0 2 7) (f0 2 7 + nI N - 1) p) ∧ ∃ f', S' = (f', τ) ∧ eqM f' f0 ∧ f' 64 17 = f 64 17 ∧ f' 64 18 = f 64 18) := by
  have hn4 : n ≤ 4 := hB.1.1
  have hp8 : p ≤ 8 := hB.1.2.1
  have he : 1 ≤ e ∧ e ≤ 4 := ⟨hB.1.2.2.2.1, hB.1.2.2.2.2.1⟩
  have hT9 : T ≤ 999 := hB.1.2.2.2.2.2
  have tM := tb_M
  have m65 := tb_65
  have m66 := tb_66
  have m67 := tb_67
  have m68 := tb_68
  have m69 := tb_69
  have m70 := tb_70
  have m71 := tb_71
  have m72 := tb_72
  have m73 := tb_73
  have m74 := tb_74
  have m75 := tb_75
  have m76 := tb_76
  refine AM.of (L := [some (.ref 64), some (.int (nI N)), none]) (by decide +kernel) (Nat.le_of_ble_eq_true rfl) rfl ?_
  refine aw_aload_n (i := 0) dX5_offIn_0 rfl rfl ?_
  refine aw_iload_n (i := 1) dX5_offIn_1 rfl rfl ?_
  refine ax_gV1v (M' := MX5_ticksGo) (ci := 5) dX5_offIn_2 lmX5_223 oX5_ticksGo (by decide +kernel) (by assumption) rfl rfl (Nat.le_of_ble_eq_true rfl) (n_ticksGo hn4 he2 h (N := N) (by omega)) (fun S_ h_ => ?_)
  obtain ⟨f2, rfl, T2, Q2⟩ := h_
  refine aw_aload_n (i := 0) dX5_offIn_5 rfl rfl ?_
  refine ax_callV0i (M' := MX5_struckByAll) (ci := 5) dX5_offIn_6 lmX5_226 oX5_struckByAll (by decide +kernel) (by assumption) rfl rfl (Nat.le_of_ble_eq_true rfl) (n_struckByAll hn4 T2) ?_
  refine aw_aload_n (i := 0) dX5_offIn_9 rfl rfl ?_
  refine aw_iload_n (i := 1) dX5_offIn_10 rfl rfl ?_
  refine ax_callV1i (M' := MX5_dueIn) (ci := 5) dX5_offIn_11 lmX5_243 oX5_dueIn (by decide +kernel) (by assumption) rfl rfl (Nat.le_of_ble_eq_true rfl) (n_dueIn hB T2.1 _) ?_
  refine aw_isub dX5_offIn_14 ?_
  refine aw_istore_n (i := 2) (L' := [_, _, _]) dX5_offIn_15 rfl (Nat.le_of_ble_eq_true rfl) rfl rfl ?_
  refine aw_iload_n (i := 2) dX5_offIn_16 rfl rfl ?_
  refine aw_if_ge (tgt := 25) dX5_offIn_17 (by decide) (fun c17 => ?_) (fun c17 => ?_)
  · refine aw_iload_n (i := 2) dX5_offIn_25 rfl rfl ?_
    refine aw_ireturn (ty := .int) dX5_offIn_26 rfl rfl ?_
    first | exact ⟨_, _, rfl, rfl, (if_pos c17).symm, _, rfl, T2.1, Q2 _ _ (by omega), Q2 _ _ (by omega)⟩ | exact ⟨_, _, rfl, rfl, ((if_neg c17).trans (Int32.zero_sub _)).symm, _, rfl, T2.1, Q2 _ _ (by omega), Q2 _ _ (by omega)⟩
  · refine aw_iload_n (i := 2) dX5_offIn_20 rfl rfl ?_
    refine aw_ineg dX5_offIn_21 ?_
    refine aw_goto (tgt := 26) dX5_offIn_22 (by decide) ?_
    refine aw_ireturn (ty := .int) dX5_offIn_26 rfl rfl ?_
    first | exact ⟨_, _, rfl, rfl, (if_pos c17).symm, _, rfl, T2.1, Q2 _ _ (by omega), Q2 _ _ (by omega)⟩ | exact ⟨_, _, rfl, rfl, ((if_neg c17).trans (Int32.zero_sub _)).symm, _, rfl, T2.1, Q2 _ _ (by omega), Q2 _ _ (by omega)⟩
set_option maxRecDepth 100000 in
set_option maxHeartbeats 1000000 in
theorem n_kind {V : am_V} {d : Nat} {f : Nat → Nat → Int32} {τ : Nat → Nat → Int64} {n p s e T : Nat} (hB : BR f 2 0 n p s e T) (k x what : Int32) : AGi V MX5_kind (d + 7) [.ref 64, .int k, .int x, .int what] (f, τ) (GM τ f (r_kind f n p k x what)) := by
  have hn4 : n ≤ 4 := hB.1.1
  have hp8 : p ≤ 8 := hB.1.2.1
  have he : 1 ≤ e ∧ e ≤ 4 := ⟨hB.1.2.2.2.1, hB.1.2.2.2.2.1⟩
  have hT9 : T ≤ 999 := hB.1.2.2.2.2.2
  have ev6 : f 2 6 = nI e := hB.2.1.2.2.2.1
  have ev7 : f 2 7 = nI T := hB.2.1.2.2.2.2
  have hG : eqM f f := eqM.rf
  have tM := tb_M
  have m65 := tb_65
  have m66 := tb_66
  have m67 := tb_67
  have m68 := tb_68
  have m69 := tb_69
  have m70 := tb_70
  have m71 := tb_71
  have m72 := tb_72
  have m73 := tb_73
  have m74 := tb_74
  have m75 := tb_75
  have m76 := tb_76
  refine AM.of (L := [some (.ref 64), some (.int k), some (.int x), some (.int what), none]) (by decide +kernel) (Nat.le_of_ble_eq_true rfl) rfl ?_
  have loop : ∀ (m i : Nat) (j N : Nat) (g : Nat → Nat → Int32), i ≤ 4 → 4 - i < m → j < n → N ≤ 200 → eqM g f → (g 64 17, g 64 18) = (jdU nI (kdC f n p j N) (-4) 1000000 i) → AW V MX5_kind (d + 7) 0 0 34 [some (.ref 64), some (.int (nI j)), some (.int (nI N)), some (.int what), some (.int (nI i))] [] (hp (g, τ)) (fun r' h' => ∃ (x : Int32) (S' : fm), r' = some (.int x) ∧ h' = hp S' ∧ GM τ f ((if what = 0 then (jdU nI (kdC f n p j N) (-4) 1000000 4).1 else (jdU nI (kdC f n p j N) (-4) 1000000 4).2)) x S') := by
    intro m
    induction m with
    | zero => intro i j N g h1 h2; omega
    | succ m ih =>
      intro i j N g h1 h2 hj hN hG hJ
      refine aw_iload dX5_kind_34 rfl ?_
      refine aw_iconst (v := 4) dX5_kind_36 (by decide) ?_
      refine aw_tE (nI 4) rfl ?_
      refine aw_icmp_ge (tgt := 65) dX5_kind_37 (by decide) (fun c37 => ?_) (fun c37 => ?_)
      · have hip : i = 4 := by have := (nI_leI (a := 4) (b := i) (by omega) (by omega)).mp c37; omega
        subst hip
        refine aw_iload_n (i := 3) dX5_kind_65 rfl rfl ?_
        refine aw_if_ne (tgt := 76) dX5_kind_66 (by decide) (fun c66 => ?_) (fun c66 => ?_)
        · refine aw_aload_n (i := 0) dX5_kind_76 rfl rfl ?_
          refine ax_geti (ci := 5) 18 dX5_kind_77 rfl lfX5_249 (by decide) (by assumption) (by rfl) ?_
          refine aw_ireturn (ty := .int) dX5_kind_80 rfl rfl ?_
          first | exact ⟨_, _, rfl, rfl, ((congrArg Prod.fst hJ).trans (if_pos c66).symm), _, rfl, hG⟩ | exact ⟨_, _, rfl, rfl, ((congrArg Prod.snd hJ).trans (if_neg c66).symm), _, rfl, hG⟩
        · refine aw_aload_n (i := 0) dX5_kind_69 rfl rfl ?_
          refine ax_geti (ci := 5) 17 dX5_kind_70 rfl lfX5_246 (by decide) (by assumption) (by rfl) ?_
          refine aw_goto (tgt := 80) dX5_kind_73 (by decide) ?_
          refine aw_ireturn (ty := .int) dX5_kind_80 rfl rfl ?_
          first | exact ⟨_, _, rfl, rfl, ((congrArg Prod.fst hJ).trans (if_pos c66).symm), _, rfl, hG⟩ | exact ⟨_, _, rfl, rfl, ((congrArg Prod.snd hJ).trans (if_neg c66).symm), _, rfl, hG⟩
      · have hi : i < 4 := Nat.not_le.mp (fun z => c37 (nI_le z (by omega)))
        refine aw_aload_n (i := 0) dX5_kind_40 rfl rfl ?_
        refine aw_iload_n (i := 1) dX5_kind_41 rfl rfl ?_
        refine aw_iconst (v := 1) dX5_kind_42 (by decide) ?_
        refine aw_iload dX5_kind_43 rfl ?_
        refine ax_gV3v (M' := MX5_startsWith) (ci := 5) dX5_kind_45 lmX5_252 oX5_startsWith (by decide +kernel) (by assumption) rfl rfl (Nat.le_of_ble_eq_true rfl) (n_startsWith hB hj (part := 1) (by omega) _ (Or.inr (Or.inl ⟨rfl, nI_pos' (by omega), nI_le (b := 3) (by omega) (by omega)⟩)) hG) (fun S_ h_ => ?_)
        obtain ⟨f45, rfl, T45, Q45⟩ := h_
        refine aw_aload_n (i := 0) dX5_kind_48 rfl rfl ?_
        refine aw_iload dX5_kind_49 rfl ?_
        refine aw_aload_n (i := 0) dX5_kind_51 rfl rfl ?_
        refine aw_iload_n (i := 2) dX5_kind_52 rfl rfl ?_
        refine ax_gV1i (M' := MX5_offIn) (ci := 5) dX5_kind_53 lmX5_265 oX5_offIn (by decide +kernel) (by assumption) rfl rfl (Nat.le_of_ble_eq_true rfl) (n_offIn hB he T45 hN) (fun r_ S_ h_ => ?_)
        obtain ⟨rfl, f53, rfl, T53, A53, B53⟩ := h_
        refine aw_tE (kdC f n p j N i) (by rw [← ev6, ← ev7]; rfl) ?_
        refine ax_callV2v (M' := MX5_judges) (ci := 5) dX5_kind_56 lmX5_268 oX5_judges (by decide +kernel) (by assumption) rfl rfl (Nat.le_of_ble_eq_true rfl) (f_X5_judges _ _) ?_
        refine aw_incN (L' := [_, _, _, _, _]) dX5_kind_59 rfl (Nat.le_of_ble_eq_true rfl) rfl rfl ?_
        refine aw_goto (tgt := 34) dX5_kind_62 (by decide) ?_
        refine ih (i + 1) j N _ hi (by omega) hj hN (T53.step (fun c q g1 g2 g3 g4 g5 g6 => jgF_o (by omega))) ?_
        rw [jg_pair, A53, B53, Q45 _ _ (by omega) (by omega) (by omega), Q45 _ _ (by omega) (by omega) (by omega), hJ, show g 64 18 = _ from congrArg Prod.snd hJ]
        rfl
  refine aw_aload_n (i := 0) dX5_kind_0 rfl rfl ?_
  refine aw_iload_n (i := 1) dX5_kind_1 rfl rfl ?_
  refine ax_callV1i (M' := MX5_isKey) (ci := 5) dX5_kind_2 lmX5_192 oX5_isKey (by decide +kernel) (by assumption) rfl rfl (Nat.le_of_ble_eq_true rfl) (n_isKey hB _) ?_
  refine aw_beq (tgt := 22) dX5_kind_5 (by decide) (fun c5 => ?_) (fun c5 => ?_)
  · refine aw_iconst (v := -1) dX5_kind_22 (by decide) ?_
    refine aw_ireturn (ty := .int) dX5_kind_23 rfl rfl ?_
    refine ⟨_, _, rfl, rfl, ?_, _, rfl, hG⟩
    unfold r_kind
    try rw [nI_clamp (show N < 2 ^ 31 by omega)]
    try rw [nI_clamp (show j < 2 ^ 31 by omega)]
    exact (if_neg c5).symm
  · refine aw_iload_n (i := 2) dX5_kind_8 rfl rfl ?_
    refine ax_callS1i (M' := MX5_isFar) dX5_kind_9 lmX5_231 oX5_isFar (by decide +kernel) (Nat.le_of_ble_eq_true rfl) (f_X5_isFar _) ?_
    refine aw_beq (tgt := 22) dX5_kind_12 (by decide) (fun c12 => ?_) (fun c12 => ?_)
    · refine aw_iconst (v := -1) dX5_kind_22 (by decide) ?_
      refine aw_ireturn (ty := .int) dX5_kind_23 rfl rfl ?_
      refine ⟨_, _, rfl, rfl, ?_, _, rfl, hG⟩
      unfold r_kind
      try rw [nI_clamp (show N < 2 ^ 31 by omega)]
      try rw [nI_clamp (show j < 2 ^ 31 by omega)]
      exact ((if_pos c5).trans (if_neg c12)).symm
    · refine aw_iload_n (i := 3) dX5_kind_15 rfl rfl ?_
      refine ax_callS1i (M' := MX5_isPart) dX5_kind_16 lmX5_240 oX5_isPart (by decide +kernel) (Nat.le_of_ble_eq_true rfl) (f_X5_isPart _) ?_
      refine aw_bne (tgt := 24) dX5_kind_19 (by decide) (fun c19 => ?_) (fun c19 => ?_)
      · obtain ⟨j, hj, rfl⟩ := key_of hn4 (show 0 ≤ k ∧ k ≤ nI n - 1 by rw [← hB.2.1.1]; exact c5)
        obtain ⟨N, hN, rfl⟩ := rng_of (n := 200) (by omega) c12
        refine aw_aload_n (i := 0) dX5_kind_24 rfl rfl ?_
        refine aw_ldcw dX5_kind_25 lkX5_261 ?_
        refine ax_callV1v (M' := MX5_startsJudging) (ci := 5) dX5_kind_28 lmX5_262 oX5_startsJudging (by decide +kernel) (by assumption) rfl rfl (Nat.le_of_ble_eq_true rfl) (f_X5_startsJudging _) ?_
        refine aw_iconst (v := 0) dX5_kind_31 (by decide) ?_
        refine aw_istore (i := 4) (L' := [_, _, _, _, _]) dX5_kind_32 (Nat.le_of_ble_eq_true rfl) rfl rfl ?_
        have hlt : kdC f n p j N 0 < 1000000 := by unfold kdC; exact off_lt (altK_7 (K0_7 f)) hn4 hp8 hN
        have e4 : jdU nI (kdC f n p j N) 0 1000000 4 = jdU nI (kdC f n p j N) (-4) 1000000 4 := jdU_b0 hlt 3
        have e9 := loop 5 0 j N _ (by omega) (by omega) hj hN (hG.step (fun c q g1 g2 g3 g4 g5 g6 => by unfold sjF; rw [up2_ne (by omega), up2_ne (by omega)])) (show (sjF f 1000000 64 17, sjF f 1000000 64 18) = _ by unfold sjF; rw [up2_self, up2_ne (by omega), up2_self]; rfl)
        rw [show r_kind f n p (nI j) (nI N) what = _ by unfold r_kind; rw [if_pos c5, if_pos c12, if_pos c19, nI_clamp (by omega), nI_clamp (by omega), e4]]
        exact e9
      · refine aw_iconst (v := -1) dX5_kind_22 (by decide) ?_
        refine aw_ireturn (ty := .int) dX5_kind_23 rfl rfl ?_
        refine ⟨_, _, rfl, rfl, ?_, _, rfl, hG⟩
        unfold r_kind
        try rw [nI_clamp (show N < 2 ^ 31 by omega)]
        try rw [nI_clamp (show j < 2 ^ 31 by omega)]
        exact ((if_pos c5).trans ((if_pos c12).trans (if_neg c19))).symm
