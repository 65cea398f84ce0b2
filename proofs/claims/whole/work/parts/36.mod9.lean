abbrev loMo (part lo mo : Nat) : Prop := (part = 0 ∧ lo = 0 ∧ mo = 9) ∨ (part = 1 ∧ lo = 0 ∧ mo = 3) ∨ (part = 2 ∧ lo = 1 ∧ mo = 9)
theorem f_X5_lowOf {V : am_V} {d : Nat} {S : fm} {part lo mo : Nat} (h : loMo part lo mo) : AF V MX5_lowOf d [.int (nI part)] S (some (.int (nI lo))) S := by
  refine AM.of (L := [some (.int (nI part))]) (by decide +kernel) (Nat.le_of_ble_eq_true rfl) rfl ?_
  refine aw_iload_n (i := 0) dX5_lowOf_0 rfl rfl ?_
  refine aw_iconst (v := 2) dX5_lowOf_1 (by decide) ?_
  refine aw_icmp_ne (tgt := 9) dX5_lowOf_2 (by decide) (fun c2 => ?_) (fun c2 => ?_)
  · refine aw_iconst (v := 0) dX5_lowOf_9 (by decide) ?_
    refine aw_ireturn (ty := .int) dX5_lowOf_10 rfl rfl ?_
    rcases h with ⟨rfl, rfl, rfl⟩ | ⟨rfl, rfl, rfl⟩ | ⟨rfl, rfl, rfl⟩
    · exact ⟨rfl, rfl⟩
    · exact ⟨rfl, rfl⟩
    · exact absurd rfl c2
  · refine aw_iconst (v := 1) dX5_lowOf_5 (by decide) ?_
    refine aw_goto (tgt := 10) dX5_lowOf_6 (by decide) ?_
    refine aw_ireturn (ty := .int) dX5_lowOf_10 rfl rfl ?_
    rcases h with ⟨rfl, rfl, rfl⟩ | ⟨rfl, rfl, rfl⟩ | ⟨rfl, rfl, rfl⟩
    · exact absurd c2 (by decide)
    · exact absurd c2 (by decide)
    · exact ⟨rfl, rfl⟩
theorem f_X5_mostOf {V : am_V} {d : Nat} {S : fm} {part lo mo : Nat} (h : loMo part lo mo) : AF V MX5_mostOf d [.int (nI part)] S (some (.int (nI mo))) S := by
  refine AM.of (L := [some (.int (nI part))]) (by decide +kernel) (Nat.le_of_ble_eq_true rfl) rfl ?_
  refine aw_iload_n (i := 0) dX5_mostOf_0 rfl rfl ?_
  refine aw_iconst (v := 1) dX5_mostOf_1 (by decide) ?_
  refine aw_icmp_ne (tgt := 9) dX5_mostOf_2 (by decide) (fun c2 => ?_) (fun c2 => ?_)
  · refine aw_iload_n (i := 0) dX5_mostOf_9 rfl rfl ?_
    refine aw_if_ne (tgt := 18) dX5_mostOf_10 (by decide) (fun c10 => ?_) (fun c10 => ?_)
    · refine aw_bipush (v := 9) dX5_mostOf_18 (by decide) ?_
      refine aw_ireturn (ty := .int) dX5_mostOf_20 rfl rfl ?_
      rcases h with ⟨rfl, rfl, rfl⟩ | ⟨rfl, rfl, rfl⟩ | ⟨rfl, rfl, rfl⟩ <;> first | exact ⟨rfl, rfl⟩ | exact absurd rfl c2 | exact absurd c2 (by decide)
    · refine aw_bipush (v := 9) dX5_mostOf_13 (by decide) ?_
      refine aw_goto (tgt := 20) dX5_mostOf_15 (by decide) ?_
      refine aw_ireturn (ty := .int) dX5_mostOf_20 rfl rfl ?_
      rcases h with ⟨rfl, rfl, rfl⟩ | ⟨rfl, rfl, rfl⟩ | ⟨rfl, rfl, rfl⟩ <;> first | exact ⟨rfl, rfl⟩ | exact absurd rfl c2 | exact absurd c2 (by decide)
  · refine aw_iconst (v := 3) dX5_mostOf_5 (by decide) ?_
    refine aw_goto (tgt := 20) dX5_mostOf_6 (by decide) ?_
    refine aw_ireturn (ty := .int) dX5_mostOf_20 rfl rfl ?_
    rcases h with ⟨rfl, rfl, rfl⟩ | ⟨rfl, rfl, rfl⟩ | ⟨rfl, rfl, rfl⟩ <;> first | exact ⟨rfl, rfl⟩ | exact absurd rfl c2 | exact absurd c2 (by decide)
theorem may_lm {part lo mo i : Nat} (h : loMo part lo mo) (h1 : lo ≤ i) (h2 : i ≤ mo) : k_mayP (nI part) (nI i) := by
  rcases h with ⟨rfl, rfl, rfl⟩ | ⟨rfl, rfl, rfl⟩ | ⟨rfl, rfl, rfl⟩
  · exact Or.inl ⟨rfl, nI_pos' (by omega), nI_le (b := 9) h2 (by omega)⟩
  · exact Or.inr (Or.inl ⟨rfl, nI_pos' (by omega), nI_le (b := 3) h2 (by omega)⟩)
  · exact Or.inr (Or.inr ⟨rfl, nI_le (a := 1) h1 (by omega), nI_le (b := 9) h2 (by omega)⟩)
theorem ft_lo {f : Nat → Nat → Int32} {n p s j part lo mo : Nat} (h : loMo part lo mo) : ftF f n p s j (nI part) lo = 0 := by
  rcases h with ⟨rfl, rfl, rfl⟩ | ⟨rfl, rfl, rfl⟩ | ⟨rfl, rfl, rfl⟩
  · rfl
  · rfl
  · rw [ftF, if_neg (by decide)]; rfl
theorem ft_mo {f : Nat → Nat → Int32} {n p s j part lo mo : Nat} (h : loMo part lo mo) : ftF f n p s j (nI part) 10 = ftF f n p s j (nI part) (mo + 1) := by
  rcases h with ⟨rfl, rfl, rfl⟩ | ⟨rfl, rfl, rfl⟩ | ⟨rfl, rfl, rfl⟩
  · rfl
  · rw [ftF, if_neg (by decide), ftF, if_neg (by decide), ftF, if_neg (by decide), ftF, if_neg (by decide), ftF, if_neg (by decide), ftF, if_neg (by decide)]
  · rfl
theorem ft_st {f : Nat → Nat → Int32} {n p s j i : Nat} {part : Int32} (h : k_mayP part (nI i)) : ftF f n p s j part i ||| (b2i (fitP f n p s j part (nI i)) <<< (nI i &&& 31)) = ftF f n p s j part (i + 1) := by
  rw [ftF, if_pos h]
  by_cases q : fitP f n p s j part (nI i)
  · rw [b2i_t q, if_pos q]
  · rw [b2i_f q, if_neg q, Int32.zero_shiftLeft, Int32.or_zero]
def r_which (f : Nat → Nat → Int32) (n p s : Nat) (part k : Int32) : Int32 := if 0 ≤ k ∧ k ≤ f 2 1 - 1 then ftF f n p s k.toNatClampNeg part 10 else -1
set_option maxRecDepth 100000 in
set_option maxHeartbeats 1000000 in
theorem n_which {V : am_V} {d : Nat} {f : Nat → Nat → Int32} {τ : Nat → Nat → Int64} {n p s e T : Nat} (hB : BR f 2 0 n p s e T) {part lo mo : Nat} (hP : loMo part lo mo) (k : Int32) : AGi V MX5_which (d + 7) [.ref 64, .int k, .int (nI part)] (f, τ) (GM τ f (r_which f n p s (nI part) k)) := by
  have hn4 : n ≤ 4 := hB.1.1
  have hp8 : p ≤ 8 := hB.1.2.1
  have he : 1 ≤ e ∧ e ≤ 4 := ⟨hB.1.2.2.2.1, hB.1.2.2.2.2.1⟩
  have hT9 : T ≤ 999 := hB.1.2.2.2.2.2
  have ev6 : f 2 6 = nI e := hB.2.1.2.2.2.1
  have ev7 : f 2 7 = nI T := hB.2.1.2.2.2.2
  have hG : eqM f f := eqM.rf
  have hm9 : lo ≤ 1 ∧ mo ≤ 9 ∧ lo ≤ mo ∧ part ≤ 2 := by rcases hP with ⟨rfl, rfl, rfl⟩ | ⟨rfl, rfl, rfl⟩ | ⟨rfl, rfl, rfl⟩ <;> decide
  have tM := tb_M
  have m65 := tb_65
  have m66 := tb_66
  have m67 := tb_67
  have m68 := tb_68
  have m69 := tb_69
  have m70 := tb_70
  have m71 := tb_71
  have m72 := tb_72
  have m73 := tb_73
  have m74 := tb_74
  have m75 := tb_75
  have m76 := tb_76
  refine AM.of (L := [some (.ref 64), some (.int k), some (.int (nI part)), none, none]) (by decide +kernel) (Nat.le_of_ble_eq_true rfl) rfl ?_
  have loop : ∀ (m i j : Nat) (g : Nat → Nat → Int32), j < n → lo ≤ i → i + m = mo + 1 → eqM g f → AW V MX5_which (d + 7) 0 0 18 [some (.ref 64), some (.int (nI j)), some (.int (nI part)), some (.int (ftF f n p s j (nI part) i)), some (.int (nI i))] [] (hp (g, τ)) (fun r' h' => ∃ (x : Int32) (S' : fm), r' = some (.int x) ∧ h' = hp S' ∧ GM τ f (ftF f n p s j (nI part) 10) x S') := by
    intro m
    induction m with
    | zero =>
      intro i j g hj h1 hm hG7
      have hi : i = mo + 1 := by omega
      subst hi
      refine aw_iload dX5_which_18 rfl ?_
      refine aw_iload_n (i := 2) dX5_which_20 rfl rfl ?_
      refine ax_callS1i (M' := MX5_mostOf) dX5_which_21 lmX5_205 oX5_mostOf (by decide +kernel) (Nat.le_of_ble_eq_true rfl) (f_X5_mostOf hP) ?_
      refine aw_icmp_gt (tgt := 50) dX5_which_24 (by decide) (fun c24 => ?_) (fun c24 => ?_)
      · refine aw_iload_n (i := 3) dX5_which_50 rfl rfl ?_
        refine aw_ireturn (ty := .int) dX5_which_51 rfl rfl ?_
        exact ⟨_, _, rfl, rfl, (ft_mo hP).symm, _, rfl, hG7⟩
      · exact absurd (nI_lt (by omega) (by omega)) c24
    | succ m ih =>
      intro i j g hj h1 hm hG7
      refine aw_iload dX5_which_18 rfl ?_
      refine aw_iload_n (i := 2) dX5_which_20 rfl rfl ?_
      refine ax_callS1i (M' := MX5_mostOf) dX5_which_21 lmX5_205 oX5_mostOf (by decide +kernel) (Nat.le_of_ble_eq_true rfl) (f_X5_mostOf hP) ?_
      refine aw_icmp_gt (tgt := 50) dX5_which_24 (by decide) (fun c24 => ?_) (fun c24 => ?_)
      · exact absurd ((nI_ltI (a := mo) (b := i) (by omega) (by omega)).mp c24) (by omega)
      · refine aw_iload_n (i := 3) dX5_which_27 rfl rfl ?_
        refine aw_aload_n (i := 0) dX5_which_28 rfl rfl ?_
        refine aw_iload_n (i := 1) dX5_which_29 rfl rfl ?_
        refine aw_iload_n (i := 2) dX5_which_30 rfl rfl ?_
        refine aw_iload dX5_which_31 rfl ?_
        refine ax_gV3i (M' := MX5_isSoWith) (ci := 5) dX5_which_33 lmX5_300 oX5_isSoWith (by decide +kernel) (by assumption) rfl rfl (Nat.le_of_ble_eq_true rfl) (n_isSoWith hB hj (part := part) (by omega) _ (may_lm hP h1 (by omega)) hG7) (fun r_ S_ h_ => ?_)
        obtain ⟨rfl, f33, rfl, G33, S33, Z33, W33⟩ := h_
        refine ax_callS1i (M' := MX5_flag) dX5_which_36 lmX5_236 oX5_flag (by decide +kernel) (Nat.le_of_ble_eq_true rfl) (f_X5_flag _) ?_
        refine aw_iload dX5_which_39 rfl ?_
        refine aw_ishl dX5_which_41 ?_
        refine aw_ior dX5_which_42 ?_
        refine aw_tE _ (ft_st (may_lm hP h1 (by omega))) ?_
        refine aw_istore_n (i := 3) (L' := [_, _, _, _, _]) dX5_which_43 rfl (Nat.le_of_ble_eq_true rfl) rfl rfl ?_
        refine aw_incN (L' := [_, _, _, _, _]) dX5_which_44 rfl (Nat.le_of_ble_eq_true rfl) rfl rfl ?_
        refine aw_goto (tgt := 18) dX5_which_47 (by decide) ?_
        exact ih (i + 1) j f33 hj (by omega) (by omega) G33
  refine aw_aload_n (i := 0) dX5_which_0 rfl rfl ?_
  refine aw_iload_n (i := 1) dX5_which_1 rfl rfl ?_
  refine ax_callV1i (M' := MX5_isKey) (ci := 5) dX5_which_2 lmX5_192 oX5_isKey (by decide +kernel) (by assumption) rfl rfl (Nat.le_of_ble_eq_true rfl) (n_isKey hB _) ?_
  refine aw_bne (tgt := 10) dX5_which_5 (by decide) (fun c5 => ?_) (fun c5 => ?_)
  · refine aw_iconst (v := 0) dX5_which_10 (by decide) ?_
    refine aw_istore_n (i := 3) (L' := [_, _, _, _, _]) dX5_which_11 rfl (Nat.le_of_ble_eq_true rfl) rfl rfl ?_
    refine aw_iload_n (i := 2) dX5_which_12 rfl rfl ?_
    refine ax_callS1i (M' := MX5_lowOf) dX5_which_13 lmX5_202 oX5_lowOf (by decide +kernel) (Nat.le_of_ble_eq_true rfl) (f_X5_lowOf hP) ?_
    refine aw_istore (i := 4) (L' := [_, _, _, _, _]) dX5_which_16 (Nat.le_of_ble_eq_true rfl) rfl rfl ?_
    obtain ⟨j, hj, rfl⟩ := key_of hn4 (show 0 ≤ k ∧ k ≤ nI n - 1 by rw [← hB.2.1.1]; exact c5)
    have e9 := loop (mo + 1 - lo) lo j f hj (Nat.le_refl _) (by omega) hG
    rw [show r_which f n p s (nI part) (nI j) = _ by unfold r_which; rw [if_pos c5, nI_clamp (by omega)]]
    rw [ft_lo hP] at e9
    exact e9
  · refine aw_iconst (v := -1) dX5_which_8 (by decide) ?_
    refine aw_ireturn (ty := .int) dX5_which_9 rfl rfl ?_
    exact ⟨_, _, rfl, rfl, (if_neg c5).symm, _, rfl, hG⟩
set_option maxRecDepth 100000 in
set_option maxHeartbeats 1000000 in
theorem n_kinds {V : am_V} {d : Nat} {f : Nat → Nat → Int32} {τ : Nat → Nat → Int64} {n p s e T : Nat} (hB : BR f 2 0 n p s e T) (k : Int32) : AGi V MX5_kinds (d + 8) [.ref 64, .int k] (f, τ) (GM τ f (r_kinds f n p s k)) := by
  have tM := tb_M
  have m65 := tb_65
  have m66 := tb_66
  have m67 := tb_67
  have m68 := tb_68
  have m69 := tb_69
  have m70 := tb_70
  have m71 := tb_71
  have m72 := tb_72
  have m73 := tb_73
  have m74 := tb_74
  have m75 := tb_75
  have m76 := tb_76
  have hP : loMo 1 0 3 := by decide
  refine AM.of (L := [some (.ref 64), some (.int k)]) (by decide +kernel) (Nat.le_of_ble_eq_true rfl) rfl ?_
  refine aw_aload_n (i := 0) dX5_kinds_0 rfl rfl ?_
  refine aw_iload_n (i := 1) dX5_kinds_1 rfl rfl ?_
  refine aw_iconst (v := 1) dX5_kinds_2 (by decide) ?_
  refine ax_gV2i (M' := MX5_which) (ci := 5) dX5_kinds_3 lmX5_304 oX5_which (by decide +kernel) (by assumption) rfl rfl (Nat.le_of_ble_eq_true rfl) (n_which hB (part := 1) hP k) (fun r_ S_ h_ => ?_)
  obtain ⟨rfl, f3, rfl, G3⟩ := h_
  refine aw_ireturn (ty := .int) dX5_kinds_6 rfl rfl ?_
  exact ⟨_, _, rfl, rfl, rfl, _, rfl, G3⟩
set_option maxRecDepth 100000 in
set_option maxHeartbeats 1000000 in
theorem n_numbers {V : am_V} {d : Nat} {f : Nat → Nat → Int32} {τ : Nat → Nat → Int64} {n p s e T : Nat} (hB : BR f 2 0 n p s e T) (k : Int32) : AGi V MX5_numbers (d + 8) [.ref 64, .int k] (f, τ) (GM τ f (r_numbers f n p s k)) := by
  have tM := tb_M
  have m65 := tb_65
  have m66 := tb_66
  have m67 := tb_67
  have m68 := tb_68
  have m69 := tb_69
  have m70 := tb_70
  have m71 := tb_71
  have m72 := tb_72
  have m73 := tb_73
  have m74 := tb_74
  have m75 := tb_75
  have m76 := tb_76
  have hP : loMo 2 1 9 := by decide
  refine AM.of (L := [some (.ref 64), some (.int k)]) (by decide +kernel) (Nat.le_of_ble_eq_true rfl) rfl ?_
  refine aw_aload_n (i := 0) dX5_numbers_0 rfl rfl ?_
  refine aw_iload_n (i := 1) dX5_numbers_1 rfl rfl ?_
  refine aw_iconst (v := 2) dX5_numbers_2 (by decide) ?_
  refine ax_gV2i (M' := MX5_which) (ci := 5) dX5_numbers_3 lmX5_304 oX5_which (by decide +kernel) (by assumption) rfl rfl (Nat.le_of_ble_eq_true rfl) (n_which hB (part := 2) hP k) (fun r_ S_ h_ => ?_)
  obtain ⟨rfl, f3, rfl, G3⟩ := h_
  refine aw_ireturn (ty := .int) dX5_numbers_6 rfl rfl ?_
  exact ⟨_, _, rfl, rfl, rfl, _, rfl, G3⟩
set_option maxRecDepth 100000 in
set_option maxHeartbeats 1000000 in
theorem n_bounces {V : am_V} {d : Nat} {f : Nat → Nat → Int32} {τ : Nat → Nat → Int64} {n p s e T : Nat} (hB : BR f 2 0 n p s e T) (k : Int32) : AGi V MX5_bounces (d + 8) [.ref 64, .int k] (f, τ) (GM τ f (r_bounces f n p s k)) := by
  have tM := tb_M
  have m65 := tb_65
  have m66 := tb_66
  have m67 := tb_67
  have m68 := tb_68
  have m69 := tb_69
  have m70 := tb_70
  have m71 := tb_71
  have m72 := tb_72
  have m73 := tb_73
  have m74 := tb_74
  have m75 := tb_75
  have m76 := tb_76
  have hP : loMo 0 0 9 := by decide
  refine AM.of (L := [some (.ref 64), some (.int k)]) (by decide +kernel) (Nat.le_of_ble_eq_true rfl) rfl ?_
  refine aw_aload_n (i := 0) dX5_bounces_0 rfl rfl ?_
  refine aw_iload_n (i := 1) dX5_bounces_1 rfl rfl ?_
  refine aw_iconst (v := 0) dX5_bounces_2 (by decide) ?_
  refine ax_gV2i (M' := MX5_which) (ci := 5) dX5_bounces_3 lmX5_304 oX5_which (by decide +kernel) (by assumption) rfl rfl (Nat.le_of_ble_eq_true rfl) (n_which hB (part := 0) hP k) (fun r_ S_ h_ => ?_)
  obtain ⟨rfl, f3, rfl, G3⟩ := h_
  refine aw_ireturn (ty := .int) dX5_bounces_6 rfl rfl ?_
  exact ⟨_, _, rfl, rfl, rfl, _, rfl, G3⟩
def ctN (f : Nat → Nat → Int32) (n p s j : Nat) : Nat → Int32
  | 0 => 0
  | v + 1 => if fitP f n p s j 2 (nI (v + 1)) then ctN f n p s j v + 1 else ctN f n p s j v
def syN (f : Nat → Nat → Int32) (n p s j q : Nat) : Nat → Int32
  | 0 => 0
  | v + 1 => if fitP f n p s j 2 (nI (v + 1)) then syN f n p s j q v + (av0 f n p (altK (K0 f) j 2 (nI (v + 1))) q).1 j 3 else syN f n p s j q v
def akJ (f : Nat → Nat → Int32) (n p s j : Nat) (i : Nat) : Int32 × Int32 := jdU nI (fun q => imax (syN f n p s j q 9) (ctN f n p s j 9 - syN f n p s j q 9)) (-4) (ctN f n p s j 9) i
def r_ask (f : Nat → Nat → Int32) (n p s : Nat) (k what : Int32) : Int32 := if 0 ≤ k ∧ k ≤ f 2 1 - 1 then (if 0 ≤ what ∧ what ≤ 1 then (if (akJ f n p s k.toNatClampNeg 41).1 = -4 then -4 else if what = 0 then (akJ f n p s k.toNatClampNeg 41).1 else (akJ f n p s k.toNatClampNeg 41).2) else -1) else -1
theorem imax_le (a b : Int32) : (if a ≤ b then b else a) = imax a b := by
  unfold imax
  by_cases q : a < b
  · rw [if_pos q, if_pos (Int32.le_of_lt q)]
  · rw [if_neg q]
    by_cases q2 : a ≤ b
    · rw [if_pos q2]; exact Int32.le_antisymm (Int32.not_lt.mp q) q2
    · rw [if_neg q2]
theorem ak_st (f : Nat → Nat → Int32) (n p s j i : Nat) : akJ f n p s j (i + 1) = if imax (syN f n p s j i 9) (ctN f n p s j 9 - syN f n p s j i 9) < (akJ f n p s j i).2 then (nI i, imax (syN f n p s j i 9) (ctN f n p s j 9 - syN f n p s j i 9)) else akJ f n p s j i := rfl
theorem ak_0 (f : Nat → Nat → Int32) (n p s j : Nat) : akJ f n p s j 0 = (-4, ctN f n p s j 9) := rfl
set_option maxRecDepth 100000 in
set_option maxHeartbeats 1000000 in
theorem n_ask {V : am_V} {d : Nat} {f : Nat → Nat → Int32} {τ : Nat → Nat → Int64} {n p s e T : Nat} (hB : BR f 2 0 n p s e T) (k what : Int32) : AGi V MX5_ask (d + 7) [.ref 64, .int k, .int what] (f, τ) (GM τ f (r_ask f n p s k what)) := by
  have hn4 : n ≤ 4 := hB.1.1
  have hp8 : p ≤ 8 := hB.1.2.1
  have he : 1 ≤ e ∧ e ≤ 4 := ⟨hB.1.2.2.2.1, hB.1.2.2.2.2.1⟩
  have hT9 : T ≤ 999 := hB.1.2.2.2.2.2
  have ev6 : f 2 6 = nI e := hB.2.1.2.2.2.1
  have ev7 : f 2 7 = nI T := hB.2.1.2.2.2.2
  have hG : eqM f f := eqM.rf
  have tM := tb_M
  have m65 := tb_65
  have m66 := tb_66
  have m67 := tb_67
  have m68 := tb_68
  have m69 := tb_69
  have m70 := tb_70
  have m71 := tb_71
  have m72 := tb_72
  have m73 := tb_73
  have m74 := tb_74
  have m75 := tb_75
  have m76 := tb_76
  refine AM.of (L := [some (.ref 64), some (.int k), some (.int what), none, none, none]) (by decide +kernel) (Nat.le_of_ble_eq_true rfl) rfl ?_
  have loopD : ∀ (m i j : Nat) (z5 : Option Value) (g : Nat → Nat → Int32), i + m = 41 → eqM g f → (∀ q, q < 41 → g 72 q = syN f n p s j q 9) → (g 64 17, g 64 18) = akJ f n p s j i → AW V MX5_ask (d + 7) 0 0 118 [some (.ref 64), some (.int (nI j)), some (.int what), some (.int (ctN f n p s j 9)), some (.int (nI i)), z5] [] (hp (g, τ)) (fun r' h' => ∃ (x : Int32) (S' : fm), r' = some (.int x) ∧ h' = hp S' ∧ GM τ f ((if (akJ f n p s j 41).1 = -4 then -4 else if what = 0 then (akJ f n p s j 41).1 else (akJ f n p s j 41).2)) x S') := by
    intro m
    induction m with
    | zero =>
      intro i j z5 g hm hG7 h72 hJ
      have hi : i = 41 := by omega
      subst hi
      refine aw_iload dX5_ask_118 rfl ?_
      refine aw_bipush (v := 40) dX5_ask_120 (by decide) ?_
      refine aw_icmp_gt (tgt := 175) dX5_ask_122 (by decide) (fun c122 => ?_) (fun c122 => absurd (by decide) c122)
      refine aw_aload_n (i := 0) dX5_ask_175 rfl rfl ?_
      refine ax_geti (ci := 5) 17 dX5_ask_176 rfl lfX5_246 (by decide) (by assumption) (by rfl) ?_
      refine aw_tE (akJ f n p s j 41).1 (congrArg Prod.fst hJ) ?_
      refine aw_bipush (v := -4) dX5_ask_179 (by decide) ?_
      refine aw_icmp_ne (tgt := 189) dX5_ask_181 (by decide) (fun c181 => ?_) (fun c181 => ?_)
      · refine aw_iload_n (i := 2) dX5_ask_189 rfl rfl ?_
        refine aw_if_ne (tgt := 200) dX5_ask_190 (by decide) (fun c190 => ?_) (fun c190 => ?_)
        · refine aw_aload_n (i := 0) dX5_ask_200 rfl rfl ?_
          refine ax_geti (ci := 5) 18 dX5_ask_201 rfl lfX5_249 (by decide) (by assumption) (by rfl) ?_
          refine aw_tE (akJ f n p s j 41).2 (congrArg Prod.snd hJ) ?_
          refine aw_ireturn (ty := .int) dX5_ask_204 rfl rfl ?_
          exact ⟨_, _, rfl, rfl, ((if_neg c181).trans (if_neg c190)).symm, _, rfl, hG7⟩
        · refine aw_aload_n (i := 0) dX5_ask_193 rfl rfl ?_
          refine ax_geti (ci := 5) 17 dX5_ask_194 rfl lfX5_246 (by decide) (by assumption) (by rfl) ?_
          refine aw_tE (akJ f n p s j 41).1 (congrArg Prod.fst hJ) ?_
          refine aw_goto (tgt := 204) dX5_ask_197 (by decide) ?_
          refine aw_ireturn (ty := .int) dX5_ask_204 rfl rfl ?_
          exact ⟨_, _, rfl, rfl, ((if_neg c181).trans (if_pos c190)).symm, _, rfl, hG7⟩
      · refine aw_bipush (v := -4) dX5_ask_184 (by decide) ?_
        refine aw_goto (tgt := 204) dX5_ask_186 (by decide) ?_
        refine aw_ireturn (ty := .int) dX5_ask_204 rfl rfl ?_
        exact ⟨_, _, rfl, rfl, (if_pos c181).symm, _, rfl, hG7⟩
    | succ m ih =>
      intro i j z5 g hm hG7 h72 hJ
      refine aw_iload dX5_ask_118 rfl ?_
      refine aw_bipush (v := 40) dX5_ask_120 (by decide) ?_
      refine aw_tE (nI 40) rfl ?_
      refine aw_icmp_gt (tgt := 175) dX5_ask_122 (by decide) (fun c122 => ?_) (fun c122 => ?_)
      · exact absurd ((nI_ltI (a := 40) (b := i) (by omega) (by omega)).mp c122) (by omega)
      · refine aw_aload_n (i := 0) dX5_ask_125 rfl rfl ?_
        refine aw_iload dX5_ask_126 rfl ?_
        refine aw_aload_n (i := 0) dX5_ask_128 rfl rfl ?_
        refine ax_getr (ci := 5) 23 dX5_ask_129 rfl lfX5_32 (by decide) (by assumption) (by rfl) ?_
        refine aw_iload dX5_ask_132 rfl ?_
        refine ax_ialdN dX5_ask_134 (by assumption) (by omega) (Nat.le_of_ble_eq_true rfl) ?_
        refine aw_tE _ (h72 i (by omega)) ?_
        refine aw_iload_n (i := 3) dX5_ask_135 rfl rfl ?_
        refine aw_aload_n (i := 0) dX5_ask_136 rfl rfl ?_
        refine ax_getr (ci := 5) 23 dX5_ask_137 rfl lfX5_32 (by decide) (by assumption) (by rfl) ?_
        refine aw_iload dX5_ask_140 rfl ?_
        refine ax_ialdN dX5_ask_142 (by assumption) (by omega) (Nat.le_of_ble_eq_true rfl) ?_
        refine aw_tE _ (h72 i (by omega)) ?_
        refine aw_isub dX5_ask_143 ?_
        refine aw_icmp_le (tgt := 157) dX5_ask_144 (by decide) (fun c144 => ?_) (fun c144 => ?_)
        · refine aw_iload_n (i := 3) dX5_ask_157 rfl rfl ?_
          refine aw_aload_n (i := 0) dX5_ask_158 rfl rfl ?_
          refine ax_getr (ci := 5) 23 dX5_ask_159 rfl lfX5_32 (by decide) (by assumption) (by rfl) ?_
          refine aw_iload dX5_ask_162 rfl ?_
          refine ax_ialdN dX5_ask_164 (by assumption) (by omega) (Nat.le_of_ble_eq_true rfl) ?_
          refine aw_tE _ (h72 i (by omega)) ?_
          refine aw_isub dX5_ask_165 ?_
          first | refine aw_tE _ ((if_pos c144).symm.trans (imax_le _ _)) ?_ | refine aw_tE _ ((if_neg c144).symm.trans (imax_le _ _)) ?_
          refine ax_callV2v (M' := MX5_judges) (ci := 5) dX5_ask_166 lmX5_268 oX5_judges (by decide +kernel) (by assumption) rfl rfl (Nat.le_of_ble_eq_true rfl) (f_X5_judges _ _) ?_
          refine aw_incN (L' := [_, _, _, _, _, _]) dX5_ask_169 rfl (Nat.le_of_ble_eq_true rfl) rfl rfl ?_
          refine aw_goto (tgt := 118) dX5_ask_172 (by decide) ?_
          refine ih (i + 1) j z5 _ (by omega) (hG7.step (fun c q g1 g2 g3 g4 g5 g6 => jgF_o (by omega))) (fun q hq => by rw [jgF_o (by omega)]; exact h72 q hq) ?_
          rw [jg_pair, ak_st, hJ, show g 64 18 = _ from congrArg Prod.snd hJ]
        · refine aw_aload_n (i := 0) dX5_ask_147 rfl rfl ?_
          refine ax_getr (ci := 5) 23 dX5_ask_148 rfl lfX5_32 (by decide) (by assumption) (by rfl) ?_
          refine aw_iload dX5_ask_151 rfl ?_
          refine ax_ialdN dX5_ask_153 (by assumption) (by omega) (Nat.le_of_ble_eq_true rfl) ?_
          refine aw_tE _ (h72 i (by omega)) ?_
          refine aw_goto (tgt := 166) dX5_ask_154 (by decide) ?_
          first | refine aw_tE _ ((if_pos c144).symm.trans (imax_le _ _)) ?_ | refine aw_tE _ ((if_neg c144).symm.trans (imax_le _ _)) ?_
          refine ax_callV2v (M' := MX5_judges) (ci := 5) dX5_ask_166 lmX5_268 oX5_judges (by decide +kernel) (by assumption) rfl rfl (Nat.le_of_ble_eq_true rfl) (f_X5_judges _ _) ?_
          refine aw_incN (L' := [_, _, _, _, _, _]) dX5_ask_169 rfl (Nat.le_of_ble_eq_true rfl) rfl rfl ?_
          refine aw_goto (tgt := 118) dX5_ask_172 (by decide) ?_
          refine ih (i + 1) j z5 _ (by omega) (hG7.step (fun c q g1 g2 g3 g4 g5 g6 => jgF_o (by omega))) (fun q hq => by rw [jgF_o (by omega)]; exact h72 q hq) ?_
          rw [jg_pair, ak_st, hJ, show g 64 18 = _ from congrArg Prod.snd hJ]
  have loopB : ∀ (m i j : Nat) (z5 : Option Value) (g : Nat → Nat → Int32), j < n → i + m = 9 → eqM g f → (∀ q, q < 41 → g 72 q = syN f n p s j q i) → AW V MX5_ask (d + 7) 0 0 46 [some (.ref 64), some (.int (nI j)), some (.int what), some (.int (ctN f n p s j i)), some (.int (nI (i + 1))), z5] [] (hp (g, τ)) (fun r' h' => ∃ (x : Int32) (S' : fm), r' = some (.int x) ∧ h' = hp S' ∧ GM τ f ((if (akJ f n p s j 41).1 = -4 then -4 else if what = 0 then (akJ f n p s j 41).1 else (akJ f n p s j 41).2)) x S') := by
    intro m
    induction m with
    | zero =>
      intro i j z5 g hj hm hG7 h72
      have hi : i = 9 := by omega
      subst hi
      refine aw_iload dX5_ask_46 rfl ?_
      refine aw_bipush (v := 9) dX5_ask_48 (by decide) ?_
      refine aw_icmp_gt (tgt := 110) dX5_ask_50 (by decide) (fun c50 => ?_) (fun c50 => absurd (by decide) c50)
      refine aw_aload_n (i := 0) dX5_ask_110 rfl rfl ?_
      refine aw_iload_n (i := 3) dX5_ask_111 rfl rfl ?_
      refine ax_callV1v (M' := MX5_startsJudging) (ci := 5) dX5_ask_112 lmX5_262 oX5_startsJudging (by decide +kernel) (by assumption) rfl rfl (Nat.le_of_ble_eq_true rfl) (f_X5_startsJudging _) ?_
      refine aw_iconst (v := 0) dX5_ask_115 (by decide) ?_
      refine aw_istore (i := 4) (L' := [_, _, _, _, _, _]) dX5_ask_116 (Nat.le_of_ble_eq_true rfl) rfl rfl ?_
      exact loopD 41 0 j z5 _ rfl (hG7.step (fun c q g1 g2 g3 g4 g5 g6 => by unfold sjF; rw [up2_ne (by omega), up2_ne (by omega)])) (fun q hq => by unfold sjF; rw [up2_ne (by omega), up2_ne (by omega)]; exact h72 q hq) (by unfold sjF; rw [up2_self, up2_ne (by omega), up2_self, ak_0])
    | succ m ih =>
      intro i j z5 g hj hm hG7 h72
      have hS9 : k_mayP (nI 2) (nI (i + 1)) := may_lm (lo := 1) (mo := 9) (by decide) (by omega) (by omega)
      have loopC : ∀ (m2 u : Nat) (g2 : Nat → Nat → Int32), u + m2 = 41 → fitP f n p s j 2 (nI (i + 1)) → eqM g2 f → (∀ q, q < 41 → g2 71 q = orF (fun k => (avK (f 9) (f 8) (f 10) n p (nI e) (altK (K0 f) j (nI 2) (nI (i + 1))) (nI T) q).1 k 3) n) → (∀ q, q < 41 → ∀ k, k < n → ∃ z, z ≤ 1 ∧ (avK (f 9) (f 8) (f 10) n p (nI e) (altK (K0 f) j (nI 2) (nI (i + 1))) (nI T) q).1 k 3 = nI z) → (∀ q, q < 41 → g2 72 q = syN f n p s j q (if q < u then i + 1 else i)) → AW V MX5_ask (d + 7) 0 0 67 [some (.ref 64), some (.int (nI j)), some (.int what), some (.int (ctN f n p s j i)), some (.int (nI (i + 1))), some (.int (nI u))] [] (hp (g2, τ)) (fun r' h' => ∃ (x : Int32) (S' : fm), r' = some (.int x) ∧ h' = hp S' ∧ GM τ f ((if (akJ f n p s j 41).1 = -4 then -4 else if what = 0 then (akJ f n p s j 41).1 else (akJ f n p s j 41).2)) x S') := by
        intro m2
        induction m2 with
        | zero =>
          intro u g2 hu hF hG8 h71 hZ h72
          have hi : u = 41 := by omega
          subst hi
          refine aw_iload dX5_ask_67 rfl ?_
          refine aw_bipush (v := 40) dX5_ask_69 (by decide) ?_
          refine aw_icmp_gt (tgt := 101) dX5_ask_71 (by decide) (fun c71 => ?_) (fun c71 => absurd (by decide) c71)
          refine aw_iinc (v := ctN f n p s j (i + 1)) (L' := [_, _, _, _, _, _]) dX5_ask_101 rfl (show ctN f n p s j i + 1 = ctN f n p s j (i + 1) by rw [ctN, if_pos hF]) (Nat.le_of_ble_eq_true rfl) rfl rfl ?_
          refine aw_incN (L' := [_, _, _, _, _, _]) dX5_ask_104 rfl (Nat.le_of_ble_eq_true rfl) rfl rfl ?_
          refine aw_goto (tgt := 46) dX5_ask_107 (by decide) ?_
          exact ih (i + 1) j _ g2 hj (by omega) hG8 (fun q hq => by rw [h72 q hq, if_pos hq])
        | succ m2 ih2 =>
          intro u g2 hu hF hG8 h71 hZ h72
          refine aw_iload dX5_ask_67 rfl ?_
          refine aw_bipush (v := 40) dX5_ask_69 (by decide) ?_
          refine aw_tE (nI 40) rfl ?_
          refine aw_icmp_gt (tgt := 101) dX5_ask_71 (by decide) (fun c71 => ?_) (fun c71 => ?_)
          · exact absurd ((nI_ltI (a := 40) (b := u) (by omega) (by omega)).mp c71) (by omega)
          · refine aw_aload_n (i := 0) dX5_ask_74 rfl rfl ?_
            refine ax_getr (ci := 5) 23 dX5_ask_75 rfl lfX5_32 (by decide) (by assumption) (by rfl) ?_
            refine aw_iload dX5_ask_78 rfl ?_
            refine aw_dup2 dX5_ask_80 rfl rfl ?_
            refine ax_ialdN dX5_ask_81 (by assumption) (by omega) (Nat.le_of_ble_eq_true rfl) ?_
            refine aw_tE _ ((h72 u (by omega)).trans (by rw [if_neg (Nat.lt_irrefl u)])) ?_
            refine aw_aload_n (i := 0) dX5_ask_82 rfl rfl ?_
            refine ax_getr (ci := 5) 22 dX5_ask_83 rfl lfX5_29 (by decide) (by assumption) (by rfl) ?_
            refine aw_iload dX5_ask_86 rfl ?_
            refine ax_ialdN dX5_ask_88 (by assumption) (by omega) (Nat.le_of_ble_eq_true rfl) ?_
            refine aw_tE _ (h71 u (by omega)) ?_
            refine aw_iload_n (i := 1) dX5_ask_89 rfl rfl ?_
            refine aw_ishr dX5_ask_90 ?_
            refine aw_iconst (v := 1) dX5_ask_91 (by decide) ?_
            refine aw_iand dX5_ask_92 ?_
            refine aw_tE _ (or_bit hn4 (hZ u (by omega)) hj) ?_
            refine aw_iadd dX5_ask_93 ?_
            refine ax_iastN dX5_ask_94 (by assumption) (by omega) (Nat.le_of_ble_eq_true rfl) ?_
            refine aw_incN (L' := [_, _, _, _, _, _]) dX5_ask_95 rfl (Nat.le_of_ble_eq_true rfl) rfl rfl ?_
            refine aw_goto (tgt := 67) dX5_ask_98 (by decide) ?_
            refine ih2 (u + 1) _ (by omega) hF (hG8.step (fun c q g1 g2 g3 g4 g5 g6 => up2_ne (by omega))) (fun q hq => by rw [up2_ne (by omega)]; exact h71 q hq) hZ (fun q hq => ?_)
            rcases (show q = u ∨ q ≠ u by omega) with rfl | q3
            · rw [up2_self, if_pos (Nat.lt_succ_self q), syN, if_pos hF]
              show _ = _ + (avK (f 9) (f 8) (f 10) n p (f 2 6) _ (f 2 7) _).1 j 3
              rw [ev6, ev7]
              rfl
            · rw [up2_ne (by omega), h72 q hq]
              congr 1
              by_cases q4 : q < u
              · rw [if_pos q4, if_pos (by omega)]
              · rw [if_neg q4, if_neg (by omega)]
      refine aw_iload dX5_ask_46 rfl ?_
      refine aw_bipush (v := 9) dX5_ask_48 (by decide) ?_
      refine aw_tE (nI 9) rfl ?_
      refine aw_icmp_gt (tgt := 110) dX5_ask_50 (by decide) (fun c50 => ?_) (fun c50 => ?_)
      · exact absurd ((nI_ltI (a := 9) (b := i + 1) (by omega) (by omega)).mp c50) (by omega)
      · refine aw_aload_n (i := 0) dX5_ask_53 rfl rfl ?_
        refine aw_iload_n (i := 1) dX5_ask_54 rfl rfl ?_
        refine aw_iconst (v := 2) dX5_ask_55 (by decide) ?_
        refine aw_iload dX5_ask_56 rfl ?_
        refine ax_gV3i (M' := MX5_isSoWith) (ci := 5) dX5_ask_58 lmX5_300 oX5_isSoWith (by decide +kernel) (by assumption) rfl rfl (Nat.le_of_ble_eq_true rfl) (n_isSoWith hB hj (part := 2) (by omega) _ hS9 hG7) (fun r_ S_ h_ => ?_)
        obtain ⟨rfl, f58, rfl, G58, S58, Z58, W58⟩ := h_
        refine aw_beq (tgt := 104) dX5_ask_61 (by decide) (fun c61 => ?_) (fun c61 => ?_)
        · refine aw_incN (L' := [_, _, _, _, _, _]) dX5_ask_104 rfl (Nat.le_of_ble_eq_true rfl) rfl rfl ?_
          refine aw_goto (tgt := 46) dX5_ask_107 (by decide) ?_
          have c61b : ¬ fitP f n p s j 2 (nI (i + 1)) := c61
          have e9 := ih (i + 1) j z5 f58 hj (by omega) G58 (fun q hq => by rw [W58, h72 q hq, syN, if_neg c61b])
          rw [show ctN f n p s j (i + 1) = ctN f n p s j i by rw [ctN, if_neg c61b]] at e9
          exact e9
        · refine aw_iconst (v := 0) dX5_ask_64 (by decide) ?_
          refine aw_istore (i := 5) (L' := [_, _, _, _, _, _]) dX5_ask_65 (Nat.le_of_ble_eq_true rfl) rfl rfl ?_
          exact loopC 41 0 f58 rfl c61 G58 S58 Z58 (fun q hq => by rw [if_neg (by omega), W58]; exact h72 q hq)
  have loopA : ∀ (m i j : Nat) (g : Nat → Nat → Int32), j < n → i + m = 41 → eqM g f → (∀ q, q < i → g 72 q = 0) → AW V MX5_ask (d + 7) 0 0 22 [some (.ref 64), some (.int (nI j)), some (.int what), some (.int 0), some (.int (nI i)), none] [] (hp (g, τ)) (fun r' h' => ∃ (x : Int32) (S' : fm), r' = some (.int x) ∧ h' = hp S' ∧ GM τ f ((if (akJ f n p s j 41).1 = -4 then -4 else if what = 0 then (akJ f n p s j 41).1 else (akJ f n p s j 41).2)) x S') := by
    intro m
    induction m with
    | zero =>
      intro i j g hj hm hG7 h72
      have hi : i = 41 := by omega
      subst hi
      refine aw_iload dX5_ask_22 rfl ?_
      refine aw_bipush (v := 40) dX5_ask_24 (by decide) ?_
      refine aw_icmp_gt (tgt := 43) dX5_ask_26 (by decide) (fun c26 => ?_) (fun c26 => absurd (by decide) c26)
      refine aw_iconst (v := 1) dX5_ask_43 (by decide) ?_
      refine aw_istore (i := 4) (L' := [_, _, _, _, _, _]) dX5_ask_44 (Nat.le_of_ble_eq_true rfl) rfl rfl ?_
      exact loopB 9 0 j none g hj rfl hG7 h72
    | succ m ih =>
      intro i j g hj hm hG7 h72
      refine aw_iload dX5_ask_22 rfl ?_
      refine aw_bipush (v := 40) dX5_ask_24 (by decide) ?_
      refine aw_tE (nI 40) rfl ?_
      refine aw_icmp_gt (tgt := 43) dX5_ask_26 (by decide) (fun c26 => ?_) (fun c26 => ?_)
      · exact absurd ((nI_ltI (a := 40) (b := i) (by omega) (by omega)).mp c26) (by omega)
      · refine aw_aload_n (i := 0) dX5_ask_29 rfl rfl ?_
        refine ax_getr (ci := 5) 23 dX5_ask_30 rfl lfX5_32 (by decide) (by assumption) (by rfl) ?_
        refine aw_iload dX5_ask_33 rfl ?_
        refine aw_iconst (v := 0) dX5_ask_35 (by decide) ?_
        refine ax_iastN dX5_ask_36 (by assumption) (by omega) (Nat.le_of_ble_eq_true rfl) ?_
        refine aw_incN (L' := [_, _, _, _, _, _]) dX5_ask_37 rfl (Nat.le_of_ble_eq_true rfl) rfl rfl ?_
        refine aw_goto (tgt := 22) dX5_ask_40 (by decide) ?_
        refine ih (i + 1) j _ hj (by omega) (hG7.step (fun c q g1 g2 g3 g4 g5 g6 => up2_ne (by omega))) (fun q hq => ?_)
        rcases (show q = i ∨ q ≠ i by omega) with rfl | q3
        · rw [up2_self]
        · rw [up2_ne (by omega)]
          exact h72 q (by omega)
  refine aw_aload_n (i := 0) dX5_ask_0 rfl rfl ?_
  refine aw_iload_n (i := 1) dX5_ask_1 rfl rfl ?_
  refine ax_callV1i (M' := MX5_isKey) (ci := 5) dX5_ask_2 lmX5_192 oX5_isKey (by decide +kernel) (by assumption) rfl rfl (Nat.le_of_ble_eq_true rfl) (n_isKey hB _) ?_
  refine aw_beq (tgt := 15) dX5_ask_5 (by decide) (fun c5 => ?_) (fun c5 => ?_)
  · refine aw_iconst (v := -1) dX5_ask_15 (by decide) ?_
    refine aw_ireturn (ty := .int) dX5_ask_16 rfl rfl ?_
    refine ⟨_, _, rfl, rfl, ?_, _, rfl, hG⟩
    unfold r_ask
    try rw [nI_clamp (show N < 2 ^ 31 by omega)]
    try rw [nI_clamp (show j < 2 ^ 31 by omega)]
    exact (if_neg c5).symm
  · refine aw_iload_n (i := 2) dX5_ask_8 rfl rfl ?_
    refine ax_callS1i (M' := MX5_isPart) dX5_ask_9 lmX5_240 oX5_isPart (by decide +kernel) (Nat.le_of_ble_eq_true rfl) (f_X5_isPart _) ?_
    refine aw_bne (tgt := 17) dX5_ask_12 (by decide) (fun c12 => ?_) (fun c12 => ?_)
    · refine aw_iconst (v := 0) dX5_ask_17 (by decide) ?_
      refine aw_istore_n (i := 3) (L' := [_, _, _, _, _, _]) dX5_ask_18 rfl (Nat.le_of_ble_eq_true rfl) rfl rfl ?_
      refine aw_iconst (v := 0) dX5_ask_19 (by decide) ?_
      refine aw_istore (i := 4) (L' := [_, _, _, _, _, _]) dX5_ask_20 (Nat.le_of_ble_eq_true rfl) rfl rfl ?_
      obtain ⟨j, hj, rfl⟩ := key_of hn4 (show 0 ≤ k ∧ k ≤ nI n - 1 by rw [← hB.2.1.1]; exact c5)
      have e9 := loopA 41 0 j f hj rfl hG (fun q hq => by omega)
      rw [show r_ask f n p s (nI j) what = _ by unfold r_ask; rw [if_pos c5, if_pos c12, nI_clamp (by omega)]]
      exact e9
    · refine aw_iconst (v := -1) dX5_ask_15 (by decide) ?_
      refine aw_ireturn (ty := .int) dX5_ask_16 rfl rfl ?_
      refine ⟨_, _, rfl, rfl, ?_, _, rfl, hG⟩
      unfold r_ask
      try rw [nI_clamp (show N < 2 ^ 31 by omega)]
      try rw [nI_clamp (show j < 2 ^ 31 by omega)]
      exact ((if_pos c5).trans (if_neg c12)).symm
