theorem b2i_congr {P Q : Prop} [Decidable P] [Decidable Q] (h : P ↔ Q) : b2i P = b2i Q := by
  by_cases q : P
  · rw [b2i_t q, b2i_t (h.mp q)]
  · rw [b2i_f q, b2i_f (fun z => q (h.mpr z))]
theorem lastF_congr {g g' : Nat → Int32} : ∀ s, (∀ i, i < s → g i = g' i) → lastF g s = lastF g' s := by
  intro s
  induction s with
  | zero => intro _; rfl
  | succ s ih => intro h; rw [lastF, lastF, ih (fun i hi => h i (Nat.lt_succ_of_lt hi)), h s (Nat.lt_succ_self s)]
def lastS (g : Nat → Int32) (s : Nat) : Nat := if lastF g s < 0 then 0 else (lastF g s).toNatClampNeg + 1
abbrev asK (sT sK sS : Nat → Int32) (n s : Nat) (KK : Nat → Nat → Nat → Int32) (T : Nat) : Prop := ∀ t, t < T → ∀ i, i < s → ¬ (sT i = nI t ∧ (0 ≤ sK i ∧ sK i ≤ nI n - 1) ∧ ¬ KK t (sK i).toNatClampNeg 3 = sS i)
theorem asSeen_TR {f0 f : Nat → Nat → Int32} {n p s : Nat} {pk pt ps : Nat → Int32} {ev t : Int32} {K : Nat → Nat → Int32} (hn4 : n ≤ 4) (hp8 : p ≤ 8) (hs6 : s ≤ 6) (h : TR f0 n p pk pt ps ev K t f) : asSeenP f 14 n p s (lastN f 14 s) ↔ asK (f0 11) (f0 12) (f0 13) n s (fun i => (avK pk pt ps n p ev K t i).1) (lastS (f0 11) s) := by
  have eL : lastN f 14 s = lastS (f0 11) s := by
    unfold lastN lastS
    rw [lastF_congr s (fun i hi => (h.2.2.2 i (by omega)).1)]
  rw [eL]
  have key : ∀ u i, i < s → (seenP (advF f 14 n p u) 14 (nI u) i ↔ ¬ (f0 11 i = nI u ∧ (0 ≤ f0 12 i ∧ f0 12 i ≤ nI n - 1) ∧ ¬ (avK pk pt ps n p ev K t u).1 (f0 12 i).toNatClampNeg 3 = f0 13 i)) := by
    intro u i hi
    have hT := h.adv hn4 hp8 u
    have r := hT.2.2.2 i (by omega)
    have r9 : advF f 14 n p u (14 + 9) i = f0 11 i := r.1
    have r10 : advF f 14 n p u (14 + 10) i = f0 12 i := r.2.1
    have r11 : advF f 14 n p u (14 + 11) i = f0 13 i := r.2.2
    unfold seenP
    rw [r9, r10, r11, hT.2.1.1]
    constructor
    · intro g q
      obtain ⟨q1, q2, q3⟩ := q
      obtain ⟨j, hj, ej⟩ := key_of hn4 q2
      rw [ej, nI_clamp (by omega)] at q3
      exact g ⟨q1, q2, fun z => q3 (by rw [ej, nI_clamp (by omega), hT.2.1.2.2.2.2.1 j hj 3 (by decide)] at z; exact z)⟩
    · intro g q
      obtain ⟨q1, q2, q3⟩ := q
      obtain ⟨j, hj, ej⟩ := key_of hn4 q2
      rw [ej, nI_clamp (by omega)] at q3
      exact g ⟨q1, q2, fun z => q3 (by rw [ej, nI_clamp (by omega)] at z; rw [hT.2.1.2.2.2.2.1 j hj 3 (by decide)]; exact z)⟩
  constructor
  · intro g u hu i hi
    exact (key u i hi).mp (g u hu i hi)
  · intro g u hu i hi
    exact (key u i hi).mpr (g u hu i hi)
abbrev fitP (f : Nat → Nat → Int32) (n p s j : Nat) (part v : Int32) : Prop := asK (f 11) (f 12) (f 13) n s (fun i => (av0 f n p (altK (K0 f) j part v) i).1) (lastS (f 11) s)
def ftF (f : Nat → Nat → Int32) (n p s j : Nat) (part : Int32) : Nat → Int32
  | 0 => 0
  | v + 1 => if k_mayP part (nI v) then (if fitP f n p s j part (nI v) then ftF f n p s j part v ||| ((1 : Int32) <<< (nI v &&& 31)) else ftF f n p s j part v) else ftF f n p s j part v
theorem g_isAsSeen {V : am_V} {d : Nat} {f : Nat → Nat → Int32} {τ : Nat → Nat → Int64} {f0 : Nat → Nat → Int32} {n p s : Nat} {pk pt ps : Nat → Int32} {ev t : Int32} {K : Nat → Nat → Int32} (hn4 : n ≤ 4) (hp8 : p ≤ 8) (hs6 : s ≤ 6) (hs : f0 2 11 = nI s) (hseen : ∀ i, i < s → ∃ q, q ≤ 40 ∧ f0 11 i = nI q) (h : TR f0 n p pk pt ps ev K t f) : AGi V MX0_isAsSeen (d + 5) [.ref 14] (f, τ) (GT τ f0 (b2i (asK (f0 11) (f0 12) (f0 13) n s (fun i => (avK pk pt ps n p ev K t i).1) (lastS (f0 11) s)))) := by
  refine AM.weaken ?_ (f_X0_isAsSeen (s := s) isB14 hn4 h.2.1.1 hp8 h.2.1.2.1 hs6 (h.2.2.1.trans hs) (fun i hi => by rw [(h.2.2.2 i (by omega)).1]; exact hseen i hi))
  rintro r h' ⟨x, S', e1, e2, e3, u, rfl⟩
  exact ⟨x, _, e1, e2, by rw [e3]; exact b2i_congr (asSeen_TR hn4 hp8 hs6 h), _, rfl, (h.adv hn4 hp8 u).1⟩
set_option maxRecDepth 100000 in
set_option maxHeartbeats 1000000 in
theorem g_fitting {V : am_V} {d : Nat} {f : Nat → Nat → Int32} {τ : Nat → Nat → Int64} {n p : Nat} (hn4 : n ≤ 4) (hn : f 2 1 = nI n) (hp8 : p ≤ 8) (hp1 : f 2 5 = nI p) {s : Nat} (hs6 : s ≤ 6) (hs : f 2 11 = nI s) (hseen : ∀ i, i < s → ∃ q, q ≤ 40 ∧ f 11 i = nI q) {j : Nat} (hj : j < n) (part : Int32) : AGi V MX4_fitting (d + 6) [.ref 0, .int (nI j), .int part] (f, τ) (GT τ f (ftF f n p s j part 10)) := by
  have t0 := tb_0
  have tB := tb_B isB2
  have uB := tb_B isB14
  have uk := tb_Bk isB14
  have tk := tb_Bk isB2
  have hE : eqT f f := eqT.rf
  refine AM.of (L := [some (.ref 0), some (.int (nI j)), some (.int part), none, none]) (by decide +kernel) (Nat.le_of_ble_eq_true rfl) rfl ?_
  have loop : ∀ (m i : Nat) (g : Nat → Nat → Int32), i ≤ 10 → 10 - i < m → eqT g f → AW V MX4_fitting (d + 6) 0 0 5 [some (.ref 0), some (.int (nI j)), some (.int part), some (.int (ftF f n p s j part i)), some (.int (nI i))] [] (hp (g, τ)) (fun r' h' => ∃ (x : Int32) (S' : fm), r' = some (.int x) ∧ h' = hp S' ∧ GT τ f (ftF f n p s j part 10) x S') := by
    intro m
    induction m with
    | zero => intro i g h1 h2; omega
    | succ m ih =>
      intro i g h1 h2 hG
      have k1 : ¬ k_mayP part (nI i) → ftF f n p s j part (i + 1) = (ftF f n p s j part i) := fun q => if_neg q
      have k2 : k_mayP part (nI i) → fitP f n p s j part (nI i) → ftF f n p s j part (i + 1) = (ftF f n p s j part i) ||| ((1 : Int32) <<< (nI i &&& 31)) := fun q q2 => (if_pos q).trans (if_pos q2)
      have k3 : k_mayP part (nI i) → ¬ fitP f n p s j part (nI i) → ftF f n p s j part (i + 1) = (ftF f n p s j part i) := fun q q2 => (if_pos q).trans (if_neg q2)
      refine aw_iload dX4_fitting_5 rfl ?_
      refine aw_bipush (v := 9) dX4_fitting_7 (by decide) ?_
      refine aw_tE (nI 9) rfl ?_
      refine aw_icmp_gt (tgt := 48) dX4_fitting_9 (by decide) (fun c9 => ?_) (fun c9 => ?_)
      · have hip : i = 10 := by have := (nI_ltI (a := 9) (b := i) (by omega) (by omega)).mp c9; omega
        subst hip
        refine aw_iload_n (i := 3) dX4_fitting_48 rfl rfl ?_
        refine aw_ireturn (ty := .int) dX4_fitting_49 rfl rfl ?_
        exact ⟨_, _, rfl, rfl, rfl, _, rfl, hG⟩
      · have hi : i < 10 := Nat.not_le.mp (fun q => c9 ((nI_ltI (a := 9) (b := i) (by omega) (by omega)).mpr (by omega)))
        refine aw_iload_n (i := 2) dX4_fitting_12 rfl rfl ?_
        refine aw_iload dX4_fitting_13 rfl ?_
        refine ax_callS2i (M' := MX1_mayBe) dX4_fitting_15 lmX4_139 oX1_mayBe (by decide +kernel) (Nat.le_of_ble_eq_true rfl) (e_X1_mayBe _ _) ?_
        refine aw_beq (tgt := 42) dX4_fitting_18 (by decide) (fun c18 => ?_) (fun c18 => ?_)
        · refine aw_incN (L' := [_, _, _, _, _]) dX4_fitting_42 rfl (Nat.le_of_ble_eq_true rfl) rfl rfl ?_
          refine aw_goto (tgt := 5) dX4_fitting_45 (by decide) ?_
          first | (have e := ih (i + 1) f29 hi (by omega) T29; rw [k3 c18 c32] at e; exact e) | (have e := ih (i + 1) f29 hi (by omega) T29; rw [k2 c18 c32] at e; exact e) | (have e := ih (i + 1) g hi (by omega) hG; rw [k1 c18] at e; exact e)
        · refine aw_aload_n (i := 0) dX4_fitting_21 rfl rfl ?_
          refine aw_iload_n (i := 1) dX4_fitting_22 rfl rfl ?_
          refine aw_iload_n (i := 2) dX4_fitting_23 rfl rfl ?_
          refine aw_iload dX4_fitting_24 rfl ?_
          refine ax_gV3r (M' := MX4_copyAltered) (ci := 4) dX4_fitting_26 lmX4_189 oX4_copyAltered (by decide +kernel) (by assumption) rfl rfl (Nat.le_of_ble_eq_true rfl) (g_copyAltered hn4 hn hp8 hp1 hj hG _ _) (fun r_ S_ h_ => ?_)
          obtain ⟨rfl, f26, rfl, T26⟩ := h_
          refine ax_gV0i (M' := MX0_isAsSeen) (ci := 0) dX4_fitting_29 lmX4_262 oX0_isAsSeen (by decide +kernel) (by assumption) rfl rfl (Nat.le_of_ble_eq_true rfl) (g_isAsSeen hn4 hp8 hs6 hs hseen T26) (fun r_ S_ h_ => ?_)
          obtain ⟨rfl, f29, rfl, T29⟩ := h_
          refine aw_beq (tgt := 42) dX4_fitting_32 (by decide) (fun c32 => ?_) (fun c32 => ?_)
          · refine aw_incN (L' := [_, _, _, _, _]) dX4_fitting_42 rfl (Nat.le_of_ble_eq_true rfl) rfl rfl ?_
            refine aw_goto (tgt := 5) dX4_fitting_45 (by decide) ?_
            first | (have e := ih (i + 1) f29 hi (by omega) T29; rw [k3 c18 c32] at e; exact e) | (have e := ih (i + 1) f29 hi (by omega) T29; rw [k2 c18 c32] at e; exact e) | (have e := ih (i + 1) g hi (by omega) hG; rw [k1 c18] at e; exact e)
          · refine aw_iload_n (i := 3) dX4_fitting_35 rfl rfl ?_
            refine aw_iconst (v := 1) dX4_fitting_36 (by decide) ?_
            refine aw_iload dX4_fitting_37 rfl ?_
            refine aw_ishl dX4_fitting_39 ?_
            refine aw_ior dX4_fitting_40 ?_
            refine aw_istore_n (i := 3) (L' := [_, _, _, _, _]) dX4_fitting_41 rfl (Nat.le_of_ble_eq_true rfl) rfl rfl ?_
            refine aw_incN (L' := [_, _, _, _, _]) dX4_fitting_42 rfl (Nat.le_of_ble_eq_true rfl) rfl rfl ?_
            refine aw_goto (tgt := 5) dX4_fitting_45 (by decide) ?_
            first | (have e := ih (i + 1) f29 hi (by omega) T29; rw [k3 c18 c32] at e; exact e) | (have e := ih (i + 1) f29 hi (by omega) T29; rw [k2 c18 c32] at e; exact e) | (have e := ih (i + 1) g hi (by omega) hG; rw [k1 c18] at e; exact e)
  refine aw_iconst (v := 0) dX4_fitting_0 (by decide) ?_
  refine aw_istore_n (i := 3) (L' := [_, _, _, _, _]) dX4_fitting_1 rfl (Nat.le_of_ble_eq_true rfl) rfl rfl ?_
  refine aw_iconst (v := 0) dX4_fitting_2 (by decide) ?_
  refine aw_istore (i := 4) (L' := [_, _, _, _, _]) dX4_fitting_3 (Nat.le_of_ble_eq_true rfl) rfl rfl ?_
  exact loop 11 0 f (by omega) (by omega) hE
def r_kinds (f : Nat → Nat → Int32) (n p s : Nat) (k : Int32) : Int32 := if 0 ≤ k ∧ k ≤ f 2 1 - 1 then ftF f n p s k.toNatClampNeg 1 10 else -1
set_option maxRecDepth 100000 in
set_option maxHeartbeats 1000000 in
theorem g_kinds {V : am_V} {d : Nat} {f : Nat → Nat → Int32} {τ : Nat → Nat → Int64} {n p : Nat} (hn4 : n ≤ 4) (hn : f 2 1 = nI n) (hp8 : p ≤ 8) (hp1 : f 2 5 = nI p) {s : Nat} (hs6 : s ≤ 6) (hs : f 2 11 = nI s) (hseen : ∀ i, i < s → ∃ q, q ≤ 40 ∧ f 11 i = nI q) (k : Int32) : AGi V MX4_kinds (d + 7) [.ref 0, .int k] (f, τ) (GT τ f (r_kinds f n p s k)) := by
  have t0 := tb_0
  have tB := tb_B isB2
  have uB := tb_B isB14
  have uk := tb_Bk isB14
  have tk := tb_Bk isB2
  have hE : eqT f f := eqT.rf
  refine AM.of (L := [some (.ref 0), some (.int k)]) (by decide +kernel) (Nat.le_of_ble_eq_true rfl) rfl ?_
  refine aw_aload_n (i := 0) dX4_kinds_0 rfl rfl ?_
  refine ax_getr (ci := 4) 2 dX4_kinds_1 rfl lfX4_16 (by decide) (by assumption) (by rfl) ?_
  refine aw_iload_n (i := 1) dX4_kinds_4 rfl rfl ?_
  refine ax_callV1i (M' := MX0_hasKey) (ci := 0) dX4_kinds_5 lmX4_101 oX0_hasKey (by decide +kernel) (by assumption) rfl rfl (Nat.le_of_ble_eq_true rfl) (f_X0_hasKey isB2 _) ?_
  refine aw_beq (tgt := 20) dX4_kinds_8 (by decide) (fun c8 => ?_) (fun c8 => ?_)
  · refine aw_iconst (v := -1) dX4_kinds_20 (by decide) ?_
    refine aw_ireturn (ty := .int) dX4_kinds_21 rfl rfl ?_
    first | (refine ⟨_, _, rfl, rfl, ?_, _, rfl, T14⟩; unfold r_kinds; rw [nI_clamp (by omega)]; exact (if_neg c8).symm) | exact ⟨_, _, rfl, rfl, (if_neg c8).symm, _, rfl, hE⟩
  · obtain ⟨j, hj, rfl⟩ := key_of hn4 (show 0 ≤ k ∧ k ≤ nI n - 1 by rw [← hn]; exact c8)
    refine aw_aload_n (i := 0) dX4_kinds_11 rfl rfl ?_
    refine aw_iload_n (i := 1) dX4_kinds_12 rfl rfl ?_
    refine aw_iconst (v := 1) dX4_kinds_13 (by decide) ?_
    refine ax_gV2i (M' := MX4_fitting) (ci := 4) dX4_kinds_14 lmX4_253 oX4_fitting (by decide +kernel) (by assumption) rfl rfl (Nat.le_of_ble_eq_true rfl) (g_fitting hn4 hn hp8 hp1 hs6 hs hseen hj _) (fun r_ S_ h_ => ?_)
    obtain ⟨rfl, f14, rfl, T14⟩ := h_
    refine aw_goto (tgt := 21) dX4_kinds_17 (by decide) ?_
    refine aw_ireturn (ty := .int) dX4_kinds_21 rfl rfl ?_
    first | (refine ⟨_, _, rfl, rfl, ?_, _, rfl, T14⟩; unfold r_kinds; rw [nI_clamp (by omega)]; exact (if_pos c8).symm) | exact ⟨_, _, rfl, rfl, (if_pos c8).symm, _, rfl, hE⟩
def r_numbers (f : Nat → Nat → Int32) (n p s : Nat) (k : Int32) : Int32 := if 0 ≤ k ∧ k ≤ f 2 1 - 1 then ftF f n p s k.toNatClampNeg 2 10 else -1
set_option maxRecDepth 100000 in
set_option maxHeartbeats 1000000 in
theorem g_numbers {V : am_V} {d : Nat} {f : Nat → Nat → Int32} {τ : Nat → Nat → Int64} {n p : Nat} (hn4 : n ≤ 4) (hn : f 2 1 = nI n) (hp8 : p ≤ 8) (hp1 : f 2 5 = nI p) {s : Nat} (hs6 : s ≤ 6) (hs : f 2 11 = nI s) (hseen : ∀ i, i < s → ∃ q, q ≤ 40 ∧ f 11 i = nI q) (k : Int32) : AGi V MX4_numbers (d + 7) [.ref 0, .int k] (f, τ) (GT τ f (r_numbers f n p s k)) := by
  have t0 := tb_0
  have tB := tb_B isB2
  have uB := tb_B isB14
  have uk := tb_Bk isB14
  have tk := tb_Bk isB2
  have hE : eqT f f := eqT.rf
  refine AM.of (L := [some (.ref 0), some (.int k)]) (by decide +kernel) (Nat.le_of_ble_eq_true rfl) rfl ?_
  refine aw_aload_n (i := 0) dX4_numbers_0 rfl rfl ?_
  refine ax_getr (ci := 4) 2 dX4_numbers_1 rfl lfX4_16 (by decide) (by assumption) (by rfl) ?_
  refine aw_iload_n (i := 1) dX4_numbers_4 rfl rfl ?_
  refine ax_callV1i (M' := MX0_hasKey) (ci := 0) dX4_numbers_5 lmX4_101 oX0_hasKey (by decide +kernel) (by assumption) rfl rfl (Nat.le_of_ble_eq_true rfl) (f_X0_hasKey isB2 _) ?_
  refine aw_beq (tgt := 20) dX4_numbers_8 (by decide) (fun c8 => ?_) (fun c8 => ?_)
  · refine aw_iconst (v := -1) dX4_numbers_20 (by decide) ?_
    refine aw_ireturn (ty := .int) dX4_numbers_21 rfl rfl ?_
    first | (refine ⟨_, _, rfl, rfl, ?_, _, rfl, T14⟩; unfold r_numbers; rw [nI_clamp (by omega)]; exact (if_neg c8).symm) | exact ⟨_, _, rfl, rfl, (if_neg c8).symm, _, rfl, hE⟩
  · obtain ⟨j, hj, rfl⟩ := key_of hn4 (show 0 ≤ k ∧ k ≤ nI n - 1 by rw [← hn]; exact c8)
    refine aw_aload_n (i := 0) dX4_numbers_11 rfl rfl ?_
    refine aw_iload_n (i := 1) dX4_numbers_12 rfl rfl ?_
    refine aw_iconst (v := 2) dX4_numbers_13 (by decide) ?_
    refine ax_gV2i (M' := MX4_fitting) (ci := 4) dX4_numbers_14 lmX4_253 oX4_fitting (by decide +kernel) (by assumption) rfl rfl (Nat.le_of_ble_eq_true rfl) (g_fitting hn4 hn hp8 hp1 hs6 hs hseen hj _) (fun r_ S_ h_ => ?_)
    obtain ⟨rfl, f14, rfl, T14⟩ := h_
    refine aw_goto (tgt := 21) dX4_numbers_17 (by decide) ?_
    refine aw_ireturn (ty := .int) dX4_numbers_21 rfl rfl ?_
    first | (refine ⟨_, _, rfl, rfl, ?_, _, rfl, T14⟩; unfold r_numbers; rw [nI_clamp (by omega)]; exact (if_pos c8).symm) | exact ⟨_, _, rfl, rfl, (if_pos c8).symm, _, rfl, hE⟩
def r_bounces (f : Nat → Nat → Int32) (n p s : Nat) (k : Int32) : Int32 := if 0 ≤ k ∧ k ≤ f 2 1 - 1 then ftF f n p s k.toNatClampNeg 0 10 else -1
set_option maxRecDepth 100000 in
set_option maxHeartbeats 1000000 in
theorem g_bounces {V : am_V} {d : Nat} {f : Nat → Nat → Int32} {τ : Nat → Nat → Int64} {n p : Nat} (hn4 : n ≤ 4) (hn : f 2 1 = nI n) (hp8 : p ≤ 8) (hp1 : f 2 5 = nI p) {s : Nat} (hs6 : s ≤ 6) (hs : f 2 11 = nI s) (hseen : ∀ i, i < s → ∃ q, q ≤ 40 ∧ f 11 i = nI q) (k : Int32) : AGi V MX4_bounces (d + 7) [.ref 0, .int k] (f, τ) (GT τ f (r_bounces f n p s k)) := by
  have t0 := tb_0
  have tB := tb_B isB2
  have uB := tb_B isB14
  have uk := tb_Bk isB14
  have tk := tb_Bk isB2
  have hE : eqT f f := eqT.rf
  refine AM.of (L := [some (.ref 0), some (.int k)]) (by decide +kernel) (Nat.le_of_ble_eq_true rfl) rfl ?_
  refine aw_aload_n (i := 0) dX4_bounces_0 rfl rfl ?_
  refine ax_getr (ci := 4) 2 dX4_bounces_1 rfl lfX4_16 (by decide) (by assumption) (by rfl) ?_
  refine aw_iload_n (i := 1) dX4_bounces_4 rfl rfl ?_
  refine ax_callV1i (M' := MX0_hasKey) (ci := 0) dX4_bounces_5 lmX4_101 oX0_hasKey (by decide +kernel) (by assumption) rfl rfl (Nat.le_of_ble_eq_true rfl) (f_X0_hasKey isB2 _) ?_
  refine aw_beq (tgt := 20) dX4_bounces_8 (by decide) (fun c8 => ?_) (fun c8 => ?_)
  · refine aw_iconst (v := -1) dX4_bounces_20 (by decide) ?_
    refine aw_ireturn (ty := .int) dX4_bounces_21 rfl rfl ?_
    first | (refine ⟨_, _, rfl, rfl, ?_, _, rfl, T14⟩; unfold r_bounces; rw [nI_clamp (by omega)]; exact (if_neg c8).symm) | exact ⟨_, _, rfl, rfl, (if_neg c8).symm, _, rfl, hE⟩
  · obtain ⟨j, hj, rfl⟩ := key_of hn4 (show 0 ≤ k ∧ k ≤ nI n - 1 by rw [← hn]; exact c8)
    refine aw_aload_n (i := 0) dX4_bounces_11 rfl rfl ?_
    refine aw_iload_n (i := 1) dX4_bounces_12 rfl rfl ?_
    refine aw_iconst (v := 0) dX4_bounces_13 (by decide) ?_
    refine ax_gV2i (M' := MX4_fitting) (ci := 4) dX4_bounces_14 lmX4_253 oX4_fitting (by decide +kernel) (by assumption) rfl rfl (Nat.le_of_ble_eq_true rfl) (g_fitting hn4 hn hp8 hp1 hs6 hs hseen hj _) (fun r_ S_ h_ => ?_)
    obtain ⟨rfl, f14, rfl, T14⟩ := h_
    refine aw_goto (tgt := 21) dX4_bounces_17 (by decide) ?_
    refine aw_ireturn (ty := .int) dX4_bounces_21 rfl rfl ?_
    first | (refine ⟨_, _, rfl, rfl, ?_, _, rfl, T14⟩; unfold r_bounces; rw [nI_clamp (by omega)]; exact (if_pos c8).symm) | exact ⟨_, _, rfl, rfl, (if_pos c8).symm, _, rfl, hE⟩
theorem TR.up63 {f0 f : Nat → Nat → Int32} {n p : Nat} {pk pt ps : Nat → Int32} {ev t : Int32} {K : Nat → Nat → Int32} {c : Nat} (hn4 : n ≤ 4) (hc : c = 62 ∨ c = 63) (h : TR f0 n p pk pt ps ev K t f) (i : Nat) (x : Int32) : TR f0 n p pk pt ps ev K t (up2 f c i x) := by
  obtain ⟨h0, ⟨h1, h2, h3, h4, h5, h6⟩, h7, h8⟩ := h
  have e : ∀ c', c' ≠ c → up2 f c i x c' = f c' := fun c' hc' => by funext j; rw [up2_ne (by omega)]
  refine ⟨h0.step (fun c g1 g2 g3 => e c (by omega)), ⟨by rw [e _ (by omega)]; exact h1, by rw [e _ (by omega)]; exact h2, by rw [e _ (by omega)]; exact h3, by rw [e _ (by omega)]; exact h4, fun k hk => by rw [e _ (by omega)]; exact h5 k hk, fun i hi => by rw [e _ (by omega), e _ (by omega), e _ (by omega)]; exact h6 i hi⟩, by rw [e _ (by omega)]; exact h7, fun i hi => by rw [e _ (by omega), e _ (by omega), e _ (by omega)]; exact h8 i hi⟩
theorem avK_s {pk pt ps : Nat → Int32} {n p : Nat} {ev t : Int32} {K : Nat → Nat → Int32} {i : Nat} : avK pk pt ps n p ev (avK pk pt ps n p ev K t i).1 (avK pk pt ps n p ev K t i).2 1 = avK pk pt ps n p ev K t (i + 1) := rfl
set_option maxRecDepth 100000 in
set_option maxHeartbeats 1000000 in
theorem g_addSayings {V : am_V} {d : Nat} {f : Nat → Nat → Int32} {τ : Nat → Nat → Int64} {f0 : Nat → Nat → Int32} {n p : Nat} {pk pt ps : Nat → Int32} {ev t : Int32} {K : Nat → Nat → Int32} {j : Nat} (hn4 : n ≤ 4) (hp8 : p ≤ 8) (hj : j < n) (h : TR f0 n p pk pt ps ev K t f) : AGv V MX4_addSayings (d + 5) [.ref 0, .ref 14, .int (nI j)] (f, τ) (fun S' => ∃ f', S' = (f', τ) ∧ eqT f' f0 ∧ ∀ q, q < 41 → f' 63 q = f 63 q + (avK pk pt ps n p ev K t q).1 j 3) := by
  have t0 := tb_0
  have tB := tb_B isB2
  have uB := tb_B isB14
  have uk := tb_Bk isB14
  have tk := tb_Bk isB2
  have t63 := tb_so
  have tK := tb_K isB14 (k := j) (by omega)
  refine AM.of (L := [some (.ref 0), some (.ref 14), some (.int (nI j)), none]) (by decide +kernel) (Nat.le_of_ble_eq_true rfl) rfl ?_
  have loop : ∀ (m i : Nat) (g : Nat → Nat → Int32), i ≤ 41 → 41 - i < m → TR f0 n p pk pt ps ev (avK pk pt ps n p ev K t i).1 (avK pk pt ps n p ev K t i).2 g → (∀ q, q < i → g 63 q = f 63 q + (avK pk pt ps n p ev K t q).1 j 3) → (∀ q, i ≤ q → g 63 q = f 63 q) → AW V MX4_addSayings (d + 5) 0 0 2 [some (.ref 0), some (.ref 14), some (.int (nI j)), some (.int (nI i))] [] (hp (g, τ)) (fun r' h' => ∃ S' : fm, r' = none ∧ h' = hp S' ∧ (fun S' => ∃ f', S' = (f', τ) ∧ eqT f' f0 ∧ ∀ q, q < 41 → f' 63 q = f 63 q + (avK pk pt ps n p ev K t q).1 j 3) S') := by
    intro m
    induction m with
    | zero => intro i g h1 h2; omega
    | succ m ih =>
      intro i g h1 h2 hT hA hB
      refine aw_iload_n (i := 3) dX4_addSayings_2 rfl rfl ?_
      refine aw_bipush (v := 40) dX4_addSayings_3 (by decide) ?_
      refine aw_tE (nI 40) rfl ?_
      refine aw_icmp_gt (tgt := 37) dX4_addSayings_5 (by decide) (fun c5 => ?_) (fun c5 => ?_)
      · refine aw_return dX4_addSayings_37 rfl ?_
        have hip : i = 41 := by have := (nI_ltI (a := 40) (b := i) (by omega) (by omega)).mp c5; omega
        subst hip
        exact ⟨_, rfl, rfl, _, rfl, hT.1, hA⟩
      · have hi : i < 41 := Nat.not_le.mp (fun q => c5 ((nI_ltI (a := 40) (b := i) (by omega) (by omega)).mpr (by omega)))
        refine aw_aload_n (i := 0) dX4_addSayings_8 rfl rfl ?_
        refine ax_getr (ci := 4) 11 dX4_addSayings_9 rfl lfX4_51 (by decide) (by assumption) (by rfl) ?_
        refine aw_iload_n (i := 3) dX4_addSayings_12 rfl rfl ?_
        refine aw_dup2 dX4_addSayings_13 rfl rfl ?_
        refine ax_ialdN dX4_addSayings_14 (by assumption) (by omega) (Nat.le_of_ble_eq_true rfl) ?_
        refine aw_tE (f 63 i) (hB i (Nat.le_refl i)) ?_
        refine aw_aload_n (i := 1) dX4_addSayings_15 rfl rfl ?_
        refine ax_getr (ci := 0) 0 dX4_addSayings_16 rfl lfX4_105 (by decide) (by assumption) (by rfl) ?_
        refine aw_iload_n (i := 2) dX4_addSayings_19 rfl rfl ?_
        refine ax_keyN dX4_addSayings_20 (by assumption) (by omega) ?_
        refine ax_geti (ci := 1) 3 dX4_addSayings_21 rfl lfX4_114 (by decide) (by assumption) (by rfl) ?_
        refine aw_tE _ (hT.k hj (by decide)) ?_
        refine aw_iadd dX4_addSayings_24 ?_
        refine ax_iastN dX4_addSayings_25 (by assumption) (by omega) (Nat.le_of_ble_eq_true rfl) ?_
        refine aw_aload_n (i := 1) dX4_addSayings_26 rfl rfl ?_
        refine aw_iconst (v := 1) dX4_addSayings_27 (by decide) ?_
        have hT2 := TR.up63 hn4 (Or.inr rfl) hT i (f 63 i + (avK pk pt ps n p ev K t i).1 j 3)
        refine ax_callV1v (M' := MX0_advance) (ci := 0) dX4_addSayings_28 lmX4_158 oX0_advance (by decide +kernel) (by assumption) rfl rfl (Nat.le_of_ble_eq_true rfl) (f_X0_advance (N := 1) isB14 hn4 hT2.2.1.1 hp8 hT2.2.1.2.1 (by omega)) ?_
        refine aw_incN (L' := [_, _, _, _]) dX4_addSayings_31 rfl (Nat.le_of_ble_eq_true rfl) rfl rfl ?_
        refine aw_goto (tgt := 2) dX4_addSayings_34 (by decide) ?_
        refine ih (i + 1) _ hi (by omega) (hT2.adv hn4 hp8 1) (fun q hq => ?_) (fun q hq => ?_)
        · rw [advF_out (by omega)]
          by_cases z : q = i
          · subst z; rw [up2_self]
          · rw [up2_ne (by omega)]; exact hA q (by omega)
        · rw [advF_out (by omega), up2_ne (by omega)]; exact hB q (by omega)
  refine aw_iconst (v := 0) dX4_addSayings_0 (by decide) ?_
  refine aw_istore_n (i := 3) (L' := [_, _, _, _]) dX4_addSayings_1 rfl (Nat.le_of_ble_eq_true rfl) rfl rfl ?_
  exact loop 42 0 f (by omega) (by omega) h (fun q hq => absurd hq (Nat.not_lt_zero _)) (fun q _ => rfl)
set_option maxRecDepth 100000 in
set_option maxHeartbeats 1000000 in
theorem f_X4_copyAltered {V : am_V} {d : Nat} {f : Nat → Nat → Int32} {τ : Nat → Nat → Int64} {n : Nat} (hn4 : n ≤ 4) (hn : f 2 1 = nI n) {j : Nat} (hj : j < n) (x y : Int32) : AF V MX4_copyAltered (d + 4) [.ref 0, .int (nI j), .int x, .int y] (f, τ) (some (.ref 14)) (upk (ttF f n) (14 + 2 + j) (k_become (ttF f n (14 + 2 + j)) x y), τ) := by
  have t0 := tb_0
  have tB := tb_B isB2
  have uB := tb_B isB14
  have uk := tb_Bk isB14
  have tk := tb_Bk isB2
  refine AM.of (L := [some (.ref 0), some (.int (nI j)), some (.int x), some (.int y), none]) (by decide +kernel) (Nat.le_of_ble_eq_true rfl) rfl ?_
  refine aw_aload_n (i := 0) dX4_copyAltered_0 rfl rfl ?_
  refine ax_callV0r (M' := MX4_copyToTry) (ci := 4) dX4_copyAltered_1 lmX4_168 oX4_copyToTry (by decide +kernel) (by assumption) rfl rfl (Nat.le_of_ble_eq_true rfl) (f_X4_copyToTry hn4 hn) ?_
  refine aw_astore (i := 4) (L' := [_, _, _, _, _]) dX4_copyAltered_4 (Nat.le_of_ble_eq_true rfl) rfl rfl ?_
  refine aw_aload dX4_copyAltered_6 rfl ?_
  refine aw_iload_n (i := 1) dX4_copyAltered_8 rfl rfl ?_
  refine ax_callV1i (M' := MX0_hasKey) (ci := 0) dX4_copyAltered_9 lmX4_101 oX0_hasKey (by decide +kernel) (by assumption) rfl rfl (Nat.le_of_ble_eq_true rfl) (e_X0_hasKey isB14 hn4 ((ttF_b (by omega)).trans hn) hj) ?_
  refine aw_if_eq (tgt := 27) dX4_copyAltered_12 (by decide) (fun c12 => ?_) (fun c12 => ?_)
  · exact absurd c12 (by decide)
  · refine aw_aload dX4_copyAltered_15 rfl ?_
    refine ax_getr (ci := 0) 0 dX4_copyAltered_17 rfl lfX4_105 (by decide) (by assumption) (by rfl) ?_
    have tK := tb_K isB14 (k := j) (by omega)
    refine aw_iload_n (i := 1) dX4_copyAltered_20 rfl rfl ?_
    refine ax_keyN dX4_copyAltered_21 (by assumption) (by omega) ?_
    refine aw_iload_n (i := 2) dX4_copyAltered_22 rfl rfl ?_
    refine aw_iload_n (i := 3) dX4_copyAltered_23 rfl rfl ?_
    refine ax_callV2v (M' := MX1_become) (ci := 1) dX4_copyAltered_24 lmX4_143 oX1_become (by decide +kernel) (by assumption) rfl rfl (Nat.le_of_ble_eq_true rfl) (e_X1_become _ (tb_K isB14 (k := j) (by omega)) rfl _ _) ?_
    refine aw_aload dX4_copyAltered_27 rfl ?_
    refine aw_areturn dX4_copyAltered_29 rfl ?_
    exact ⟨rfl, rfl⟩
theorem g_copyAltered2 {V : am_V} {d : Nat} {f : Nat → Nat → Int32} {τ : Nat → Nat → Int64} {f0 : Nat → Nat → Int32} {n p : Nat} (hn4 : n ≤ 4) (hn : f0 2 1 = nI n) (hp8 : p ≤ 8) (hp1 : f0 2 5 = nI p) {j : Nat} (hj : j < n) (hE : eqT f f0) (x y : Int32) : AGr V MX4_copyAltered (d + 4) [.ref 0, .int (nI j), .int x, .int y] (f, τ) (fun r S' => r = 14 ∧ ∃ f', S' = (f', τ) ∧ TR f0 n p (f0 9) (f0 8) (f0 10) (f0 2 6) (altK (K0 f0) j x y) (f0 2 7) f' ∧ f' 62 = f 62 ∧ f' 63 = f 63) := by
  refine (f_X4_copyAltered hn4 ((congrFun (hE 2 (Or.inl (by omega)) (by omega) (by omega)) 1).trans hn) hj x y).toGr ⟨rfl, _, rfl, (ttF_TR hn4 hn hp8 hp1 hE).alt hn4 hj x y, ?_, ?_⟩
  · rw [upk_rne (by omega)]
    funext q
    unfold ttF
    rw [upn_out (by omega), caF_o (by omega)]
  · rw [upk_rne (by omega)]
    funext q
    unfold ttF
    rw [upn_out (by omega), caF_o (by omega)]
def csN (f : Nat → Nat → Int32) (n p j : Nat) (bits : Int32) (q : Nat) : Nat → Int32
  | 0 => 0
  | v + 1 => if (bits >>> (nI (v + 1) &&& 31)) &&& 1 = 1 then csN f n p j bits q v + (av0 f n p (altK (K0 f) j 2 (nI (v + 1))) q).1 j 3 else csN f n p j bits q v
set_option maxRecDepth 100000 in
set_option maxHeartbeats 1000000 in
theorem g_countSayers {V : am_V} {d : Nat} {f : Nat → Nat → Int32} {τ : Nat → Nat → Int64} {n p : Nat} (hn4 : n ≤ 4) (hn : f 2 1 = nI n) (hp8 : p ≤ 8) (hp1 : f 2 5 = nI p) {j : Nat} (hj : j < n) (bits : Int32) : AGv V MX4_countSayers (d + 6) [.ref 0, .int (nI j), .int bits] (f, τ) (fun S' => ∃ f', S' = (f', τ) ∧ eqT f' f ∧ ∀ q, q < 41 → f' 63 q = csN f n p j bits q 9) := by
  have t0 := tb_0
  have tB := tb_B isB2
  have uB := tb_B isB14
  have uk := tb_Bk isB14
  have tk := tb_Bk isB2
  have hE : eqT f f := eqT.rf
  have t63 := tb_so
  refine AM.of (L := [some (.ref 0), some (.int (nI j)), some (.int bits), none]) (by decide +kernel) (Nat.le_of_ble_eq_true rfl) rfl ?_
  have loop2 : ∀ (m i : Nat) (g : Nat → Nat → Int32), i ≤ 9 → 9 - i < m → eqT g f → (∀ q, q < 41 → g 63 q = csN f n p j bits q i) → AW V MX4_countSayers (d + 6) 0 0 23 [some (.ref 0), some (.int (nI j)), some (.int bits), some (.int (nI (i + 1)))] [] (hp (g, τ)) (fun r' h' => ∃ S' : fm, r' = none ∧ h' = hp S' ∧ (fun S' => ∃ f', S' = (f', τ) ∧ eqT f' f ∧ ∀ q, q < 41 → f' 63 q = csN f n p j bits q 9) S') := by
    intro m
    induction m with
    | zero => intro i g h1 h2; omega
    | succ m ih =>
      intro i g h1 h2 hG hA
      refine aw_iload_n (i := 3) dX4_countSayers_23 rfl rfl ?_
      refine aw_bipush (v := 9) dX4_countSayers_24 (by decide) ?_
      refine aw_tE (nI 9) rfl ?_
      refine aw_icmp_gt (tgt := 56) dX4_countSayers_26 (by decide) (fun c26 => ?_) (fun c26 => ?_)
      · refine aw_return dX4_countSayers_56 rfl ?_
        have hip : i = 9 := by have := (nI_ltI (a := 9) (b := i + 1) (by omega) (by omega)).mp c26; omega
        subst hip
        exact ⟨_, rfl, rfl, _, rfl, hG, hA⟩
      · have hi : i < 9 := Nat.not_le.mp (fun q => c26 ((nI_ltI (a := 9) (b := i + 1) (by omega) (by omega)).mpr (by omega)))
        refine aw_iload_n (i := 2) dX4_countSayers_29 rfl rfl ?_
        refine aw_iload_n (i := 3) dX4_countSayers_30 rfl rfl ?_
        refine aw_ishr dX4_countSayers_31 ?_
        refine aw_iconst (v := 1) dX4_countSayers_32 (by decide) ?_
        refine aw_iand dX4_countSayers_33 ?_
        refine aw_iconst (v := 1) dX4_countSayers_34 (by decide) ?_
        refine aw_icmp_ne (tgt := 50) dX4_countSayers_35 (by decide) (fun c35 => ?_) (fun c35 => ?_)
        · refine aw_incN (L' := [_, _, _, _]) dX4_countSayers_50 rfl (Nat.le_of_ble_eq_true rfl) rfl rfl ?_
          refine aw_goto (tgt := 23) dX4_countSayers_53 (by decide) ?_
          exact ih (i + 1) g hi (by omega) hG (fun q hq => (hA q hq).trans (if_neg c35).symm)
        · refine aw_aload_n (i := 0) dX4_countSayers_38 rfl rfl ?_
          refine aw_aload_n (i := 0) dX4_countSayers_39 rfl rfl ?_
          refine aw_iload_n (i := 1) dX4_countSayers_40 rfl rfl ?_
          refine aw_iconst (v := 2) dX4_countSayers_41 (by decide) ?_
          refine aw_iload_n (i := 3) dX4_countSayers_42 rfl rfl ?_
          refine ax_gV3r (M' := MX4_copyAltered) (ci := 4) dX4_countSayers_43 lmX4_189 oX4_copyAltered (by decide +kernel) (by assumption) rfl rfl (Nat.le_of_ble_eq_true rfl) (g_copyAltered2 hn4 hn hp8 hp1 hj hG _ _) (fun r_ S_ h_ => ?_)
          obtain ⟨rfl, f43, rfl, T43, Q43, P43⟩ := h_
          refine aw_iload_n (i := 1) dX4_countSayers_46 rfl rfl ?_
          refine ax_gV2v (M' := MX4_addSayings) (ci := 4) dX4_countSayers_47 lmX4_266 oX4_addSayings (by decide +kernel) (by assumption) rfl rfl (Nat.le_of_ble_eq_true rfl) (g_addSayings hn4 hp8 hj T43) (fun S_ h_ => ?_)
          obtain ⟨f47, rfl, T47, A47⟩ := h_
          refine aw_incN (L' := [_, _, _, _]) dX4_countSayers_50 rfl (Nat.le_of_ble_eq_true rfl) rfl rfl ?_
          refine aw_goto (tgt := 23) dX4_countSayers_53 (by decide) ?_
          exact ih (i + 1) f47 hi (by omega) T47 (fun q hq => (A47 q hq).trans (by rw [P43, hA q hq]; exact (if_pos c35).symm))
  have loop1 : ∀ (m i : Nat), i ≤ 41 → 41 - i < m → AW V MX4_countSayers (d + 6) 0 0 2 [some (.ref 0), some (.int (nI j)), some (.int bits), some (.int (nI i))] [] (hp (zrP f 63 i, τ)) (fun r' h' => ∃ S' : fm, r' = none ∧ h' = hp S' ∧ (fun S' => ∃ f', S' = (f', τ) ∧ eqT f' f ∧ ∀ q, q < 41 → f' 63 q = csN f n p j bits q 9) S') := by
    intro m
    induction m with
    | zero => intro i h1 h2; omega
    | succ m ih =>
      intro i h1 h2
      refine aw_iload_n (i := 3) dX4_countSayers_2 rfl rfl ?_
      refine aw_bipush (v := 40) dX4_countSayers_3 (by decide) ?_
      refine aw_tE (nI 40) rfl ?_
      refine aw_icmp_gt (tgt := 21) dX4_countSayers_5 (by decide) (fun c5 => ?_) (fun c5 => ?_)
      · refine aw_iconst (v := 1) dX4_countSayers_21 (by decide) ?_
        refine aw_istore_n (i := 3) (L' := [_, _, _, _]) dX4_countSayers_22 rfl (Nat.le_of_ble_eq_true rfl) rfl rfl ?_
        have hip : i = 41 := by have := (nI_ltI (a := 40) (b := i) (by omega) (by omega)).mp c5; omega
        subst hip
        exact loop2 10 0 _ (by omega) (by omega) (fun c h1 h2 h3 => by funext q; rw [zrP_o h3]) (fun q hq => by rw [zrP_i hq]; rfl)
      · have hi : i < 41 := Nat.not_le.mp (fun q => c5 ((nI_ltI (a := 40) (b := i) (by omega) (by omega)).mpr (by omega)))
        refine aw_aload_n (i := 0) dX4_countSayers_8 rfl rfl ?_
        refine ax_getr (ci := 4) 11 dX4_countSayers_9 rfl lfX4_51 (by decide) (by assumption) (by rfl) ?_
        refine aw_iload_n (i := 3) dX4_countSayers_12 rfl rfl ?_
        refine aw_iconst (v := 0) dX4_countSayers_13 (by decide) ?_
        refine ax_iastN dX4_countSayers_14 (by assumption) (by omega) (Nat.le_of_ble_eq_true rfl) ?_
        refine aw_incN (L' := [_, _, _, _]) dX4_countSayers_15 rfl (Nat.le_of_ble_eq_true rfl) rfl rfl ?_
        refine aw_goto (tgt := 2) dX4_countSayers_18 (by decide) ?_
        have e := ih (i + 1) hi (by omega)
        rw [← zrP_s] at e
        exact e
  refine aw_iconst (v := 0) dX4_countSayers_0 (by decide) ?_
  refine aw_istore_n (i := 3) (L' := [_, _, _, _]) dX4_countSayers_1 rfl (Nat.le_of_ble_eq_true rfl) rfl rfl ?_
  have e := loop1 42 0 (by omega) (by omega)
  rw [zrP_0] at e
  exact e
