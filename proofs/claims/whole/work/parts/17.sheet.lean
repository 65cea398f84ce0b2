def am_isS (a : Nat) : Prop := a = 53 ∨ a = 55 ∨ a = 57 ∨ a = 59
theorem tb_S {a : Nat} (h : am_isS a) : am_tab[a]? = some (.inl (2, [a + 3, 0, 0])) := by rcases h with rfl | rfl | rfl | rfl <;> rfl
theorem tb_Sc {a : Nat} (h : am_isS a) : am_tab[a + 1]? = some (.inr (.inl (0, 40))) := by rcases h with rfl | rfl | rfl | rfl <;> rfl
/-- an array's first i places are 0 -/
def zrP (f : Nat → Nat → Int32) (c0 i : Nat) : Nat → Nat → Int32 := fun c j => if c = c0 ∧ j < i then 0 else f c j
theorem zrP_0 (f : Nat → Nat → Int32) (c0 : Nat) : zrP f c0 0 = f := by
  funext c j
  unfold zrP
  rw [if_neg (by omega)]
theorem zrP_s (f : Nat → Nat → Int32) (c0 i : Nat) : up2 (zrP f c0 i) c0 i 0 = zrP f c0 (i + 1) := by
  funext c j
  by_cases q : c = c0 ∧ j = i
  · obtain ⟨rfl, rfl⟩ := q
    rw [up2_self]
    unfold zrP
    rw [if_pos ⟨rfl, Nat.lt_succ_self _⟩]
  · rw [up2_ne q]
    unfold zrP
    by_cases q2 : c = c0 ∧ j < i
    · rw [if_pos q2, if_pos (by omega)]
    · rw [if_neg q2, if_neg (by omega)]
theorem zrP_o {f : Nat → Nat → Int32} {c0 i c j : Nat} (h : c ≠ c0) : zrP f c0 i c j = f c j := by
  unfold zrP
  rw [if_neg (by omega)]
theorem zrP_i {f : Nat → Nat → Int32} {c0 i j : Nat} (h : j < i) : zrP f c0 i c0 j = 0 := by
  unfold zrP
  rw [if_pos ⟨rfl, h⟩]
def faF (f : Nat → Nat → Int32) (a : Nat) (i : Int32) : Int32 := if f a 1 = -1 then 1 else if 0 ≤ i ∧ i ≤ f a 2 - 1 then 0 else 2
def fsF (f : Nat → Nat → Int32) (a : Nat) (ln : Int32) : Int32 := if f a 1 = -1 then 0 else if f a 1 = ln then 0 else 3
def f3F (f : Nat → Nat → Int32) (a : Nat) (ln at_ : Int32) : Nat → Int32
  | 0 => fsF f a ln
  | i + 1 => if f3F f a ln at_ i = 0 then faF f a (at_ + nI i) else f3F f a ln at_ i
theorem f3F_stop {f : Nat → Nat → Int32} {a : Nat} {ln at_ : Int32} {i : Nat} (h : ¬ f3F f a ln at_ i = 0) : ∀ j, f3F f a ln at_ (i + j) = f3F f a ln at_ i := by
  intro j
  induction j with
  | zero => rfl
  | succ j ih => rw [show i + (j + 1) = (i + j) + 1 by omega, f3F, ih, if_neg h]
def gtF (f : Nat → Nat → Int32) (a : Nat) (i : Int32) : Int32 := if faF f a i = 0 then f (a + 1) i.toNatClampNeg else 0
def ptV (ln v : Int32) : Int32 := if ln = 0 then v.toInt8.toInt32 else if ln = 1 then v.toInt16.toInt32 else v
def ptF (f : Nat → Nat → Int32) (a : Nat) (i v : Int32) : Nat → Nat → Int32 := if faF f a i = 0 then up2 f (a + 1) i.toNatClampNeg (ptV (f a 1) v) else f
def rnF (f : Nat → Nat → Int32) (a : Nat) (ln sz : Int32) : Nat → Nat → Int32 := zrP (up2 (up2 f a 1 ln) a 2 (imin sz 40)) (a + 1) 40
theorem faF_in {f : Nat → Nat → Int32} {a z : Nat} {i : Int32} (hz : z ≤ 40) (h2 : f a 2 = nI z) (h : faF f a i = 0) : vp_in i 40 := by
  unfold faF at h
  split at h
  · exact absurd h (by decide)
  · split at h
    · rename_i q
      obtain ⟨j, hj, rfl⟩ := nI_of (Int32.not_lt.mpr q.1)
      have h3 := Int32.le_iff_toInt_le.mp q.2
      rw [h2, nI_toInt hj, show (1 : Int32) = nI 1 from rfl, pk_sub_toInt (by omega) (by omega)] at h3
      exact vp_in_nI (by omega) (by omega)
    · exact absurd h (by decide)
set_option maxRecDepth 100000 in
set_option maxHeartbeats 4000000 in
theorem f_X2_isLane {V : am_V} {d : Nat} {S : fm} (v : Int32) : AF V MX2_isLane (d + 1) [.int v] S (some (.int (b2i (0 ≤ v ∧ v ≤ 2)))) S := by
  refine AM.of (L := [some (.int v)]) (by decide +kernel) (Nat.le_of_ble_eq_true rfl) rfl ?_
  refine aw_iload_n (i := 0) dX2_isLane_0 rfl rfl ?_
  refine aw_iconst (v := 0) dX2_isLane_1 (by decide) ?_
  refine aw_iconst (v := 2) dX2_isLane_2 (by decide) ?_
  refine ax_callSN3i (M' := MX4_within) dX2_isLane_3 (List.mem_of_getElem? (i := 4) rfl) oX4_within (by decide +kernel) (Nat.le_of_ble_eq_true rfl) (f_X4_within _ _ _) ?_
  refine aw_ireturn (ty := .boolean) dX2_isLane_6 rfl (b2i_z _) ?_
  exact ⟨rfl, rfl⟩
set_option maxRecDepth 100000 in
set_option maxHeartbeats 4000000 in
theorem f_X2_isNothing {V : am_V} {d a : Nat} {f : Nat → Nat → Int32} {τ : Nat → Nat → Int64} (hs : am_isS a) : AF V MX2_isNothing d [.ref a] (f, τ) (some (.int (b2i (f a 1 = -1)))) (f, τ) := by
  have tS := tb_S hs
  have tC := tb_Sc hs
  refine AM.of (L := [some (.ref a)]) (by decide +kernel) (Nat.le_of_ble_eq_true rfl) rfl ?_
  refine aw_aload_n (i := 0) dX2_isNothing_0 rfl rfl ?_
  refine ax_geti (ci := 2) 1 dX2_isNothing_1 rfl lfX2_15 (by decide) (by assumption) (by rfl) ?_
  refine aw_iconst (v := -1) dX2_isNothing_4 (by decide) ?_
  refine aw_icmp_ne (tgt := 12) dX2_isNothing_5 (by decide) (fun c5 => ?_) (fun c5 => ?_)
  · refine aw_iconst (v := 0) dX2_isNothing_12 (by decide) ?_
    refine aw_ireturn (ty := .boolean) dX2_isNothing_13 rfl (by decide) ?_
    first | exact ⟨congrArg (fun z => some (Value.int z)) (b2i_t c5).symm, rfl⟩ | exact ⟨congrArg (fun z => some (Value.int z)) (b2i_f c5).symm, rfl⟩
  · refine aw_iconst (v := 1) dX2_isNothing_8 (by decide) ?_
    refine aw_goto (tgt := 13) dX2_isNothing_9 (by decide) ?_
    refine aw_ireturn (ty := .boolean) dX2_isNothing_13 rfl (by decide) ?_
    first | exact ⟨congrArg (fun z => some (Value.int z)) (b2i_t c5).symm, rfl⟩ | exact ⟨congrArg (fun z => some (Value.int z)) (b2i_f c5).symm, rfl⟩
set_option maxRecDepth 100000 in
set_option maxHeartbeats 4000000 in
theorem f_X2_faultAt {V : am_V} {d a : Nat} {f : Nat → Nat → Int32} {τ : Nat → Nat → Int64} (hs : am_isS a) (i : Int32) : AF V MX2_faultAt (d + 1) [.ref a, .int i] (f, τ) (some (.int (faF f a i))) (f, τ) := by
  have tS := tb_S hs
  have tC := tb_Sc hs
  refine AM.of (L := [some (.ref a), some (.int i)]) (by decide +kernel) (Nat.le_of_ble_eq_true rfl) rfl ?_
  refine aw_aload_n (i := 0) dX2_faultAt_0 rfl rfl ?_
  refine ax_callV0i (M' := MX2_isNothing) (ci := 2) dX2_faultAt_1 lmX2_32 oX2_isNothing (by decide +kernel) (by assumption) rfl rfl (Nat.le_of_ble_eq_true rfl) (f_X2_isNothing hs) ?_
  refine aw_if_eq (tgt := 9) dX2_faultAt_4 (by decide) (fun c4 => ?_) (fun c4 => ?_)
  · refine aw_iload_n (i := 1) dX2_faultAt_9 rfl rfl ?_
    refine aw_iconst (v := 0) dX2_faultAt_10 (by decide) ?_
    refine aw_aload_n (i := 0) dX2_faultAt_11 rfl rfl ?_
    refine ax_geti (ci := 2) 2 dX2_faultAt_12 rfl lfX2_29 (by decide) (by assumption) (by rfl) ?_
    refine aw_iconst (v := 1) dX2_faultAt_15 (by decide) ?_
    refine aw_isub dX2_faultAt_16 ?_
    refine ax_callSN3i (M' := MX4_within) dX2_faultAt_17 (List.mem_of_getElem? (i := 4) rfl) oX4_within (by decide +kernel) (Nat.le_of_ble_eq_true rfl) (f_X4_within _ _ _) ?_
    refine aw_if_eq (tgt := 27) dX2_faultAt_20 (by decide) (fun c20 => ?_) (fun c20 => ?_)
    · refine aw_iconst (v := 2) dX2_faultAt_27 (by decide) ?_
      refine aw_ireturn (ty := .int) dX2_faultAt_28 rfl rfl ?_
      first | exact ⟨congrArg (fun z => some (Value.int z)) ((if_neg (fun q => by rw [b2i_t q] at c4; exact absurd c4 (by decide))).trans (if_pos (Decidable.not_not.mp (fun q => c20 (b2i_f q))))).symm, rfl⟩ | exact ⟨congrArg (fun z => some (Value.int z)) ((if_neg (fun q => by rw [b2i_t q] at c4; exact absurd c4 (by decide))).trans (if_neg (fun q => by rw [b2i_t q] at c20; exact absurd c20 (by decide)))).symm, rfl⟩
    · refine aw_iconst (v := 0) dX2_faultAt_23 (by decide) ?_
      refine aw_goto (tgt := 28) dX2_faultAt_24 (by decide) ?_
      refine aw_ireturn (ty := .int) dX2_faultAt_28 rfl rfl ?_
      first | exact ⟨congrArg (fun z => some (Value.int z)) ((if_neg (fun q => by rw [b2i_t q] at c4; exact absurd c4 (by decide))).trans (if_pos (Decidable.not_not.mp (fun q => c20 (b2i_f q))))).symm, rfl⟩ | exact ⟨congrArg (fun z => some (Value.int z)) ((if_neg (fun q => by rw [b2i_t q] at c4; exact absurd c4 (by decide))).trans (if_neg (fun q => by rw [b2i_t q] at c20; exact absurd c20 (by decide)))).symm, rfl⟩
  · refine aw_iconst (v := 1) dX2_faultAt_7 (by decide) ?_
    refine aw_ireturn (ty := .int) dX2_faultAt_8 rfl rfl ?_
    exact ⟨congrArg (fun z => some (Value.int z)) (if_pos (Decidable.not_not.mp (fun q => c4 (b2i_f q)))).symm, rfl⟩
set_option maxRecDepth 100000 in
set_option maxHeartbeats 4000000 in
theorem f_X2_faultAs {V : am_V} {d a : Nat} {f : Nat → Nat → Int32} {τ : Nat → Nat → Int64} (hs : am_isS a) (ln : Int32) : AF V MX2_faultAs (d + 1) [.ref a, .int ln] (f, τ) (some (.int (fsF f a ln))) (f, τ) := by
  have tS := tb_S hs
  have tC := tb_Sc hs
  refine AM.of (L := [some (.ref a), some (.int ln)]) (by decide +kernel) (Nat.le_of_ble_eq_true rfl) rfl ?_
  refine aw_aload_n (i := 0) dX2_faultAs_0 rfl rfl ?_
  refine ax_callV0i (M' := MX2_isNothing) (ci := 2) dX2_faultAs_1 lmX2_32 oX2_isNothing (by decide +kernel) (by assumption) rfl rfl (Nat.le_of_ble_eq_true rfl) (f_X2_isNothing hs) ?_
  refine aw_if_ne (tgt := 15) dX2_faultAs_4 (by decide) (fun c4 => ?_) (fun c4 => ?_)
  · refine aw_iconst (v := 0) dX2_faultAs_15 (by decide) ?_
    refine aw_goto (tgt := 20) dX2_faultAs_16 (by decide) ?_
    refine aw_ireturn (ty := .int) dX2_faultAs_20 rfl rfl ?_
    first | exact ⟨congrArg (fun z => some (Value.int z)) (if_pos (Decidable.not_not.mp (fun q => c4 (b2i_f q)))).symm, rfl⟩ | exact ⟨congrArg (fun z => some (Value.int z)) ((if_neg (fun q => by rw [b2i_t q] at c4; exact absurd c4 (by decide))).trans (if_pos c12)).symm, rfl⟩ | exact ⟨congrArg (fun z => some (Value.int z)) ((if_neg (fun q => by rw [b2i_t q] at c4; exact absurd c4 (by decide))).trans (if_neg c12)).symm, rfl⟩
  · refine aw_aload_n (i := 0) dX2_faultAs_7 rfl rfl ?_
    refine ax_geti (ci := 2) 1 dX2_faultAs_8 rfl lfX2_15 (by decide) (by assumption) (by rfl) ?_
    refine aw_iload_n (i := 1) dX2_faultAs_11 rfl rfl ?_
    refine aw_icmp_ne (tgt := 19) dX2_faultAs_12 (by decide) (fun c12 => ?_) (fun c12 => ?_)
    · refine aw_iconst (v := 3) dX2_faultAs_19 (by decide) ?_
      refine aw_ireturn (ty := .int) dX2_faultAs_20 rfl rfl ?_
      first | exact ⟨congrArg (fun z => some (Value.int z)) (if_pos (Decidable.not_not.mp (fun q => c4 (b2i_f q)))).symm, rfl⟩ | exact ⟨congrArg (fun z => some (Value.int z)) ((if_neg (fun q => by rw [b2i_t q] at c4; exact absurd c4 (by decide))).trans (if_pos c12)).symm, rfl⟩ | exact ⟨congrArg (fun z => some (Value.int z)) ((if_neg (fun q => by rw [b2i_t q] at c4; exact absurd c4 (by decide))).trans (if_neg c12)).symm, rfl⟩
    · refine aw_iconst (v := 0) dX2_faultAs_15 (by decide) ?_
      refine aw_goto (tgt := 20) dX2_faultAs_16 (by decide) ?_
      refine aw_ireturn (ty := .int) dX2_faultAs_20 rfl rfl ?_
      first | exact ⟨congrArg (fun z => some (Value.int z)) (if_pos (Decidable.not_not.mp (fun q => c4 (b2i_f q)))).symm, rfl⟩ | exact ⟨congrArg (fun z => some (Value.int z)) ((if_neg (fun q => by rw [b2i_t q] at c4; exact absurd c4 (by decide))).trans (if_pos c12)).symm, rfl⟩ | exact ⟨congrArg (fun z => some (Value.int z)) ((if_neg (fun q => by rw [b2i_t q] at c4; exact absurd c4 (by decide))).trans (if_neg c12)).symm, rfl⟩
set_option maxRecDepth 100000 in
set_option maxHeartbeats 4000000 in
theorem f_X2_faultOfThree {V : am_V} {d a : Nat} {f : Nat → Nat → Int32} {τ : Nat → Nat → Int64} (hs : am_isS a) (ln at_ : Int32) : AF V MX2_faultOfThree (d + 2) [.ref a, .int ln, .int at_] (f, τ) (some (.int (f3F f a ln at_ 3))) (f, τ) := by
  have tS := tb_S hs
  have tC := tb_Sc hs
  refine AM.of (L := [some (.ref a), some (.int ln), some (.int at_), none, none]) (by decide +kernel) (Nat.le_of_ble_eq_true rfl) rfl ?_
  have loop : ∀ (m i : Nat), i ≤ 3 → 3 - i < m → AW V MX2_faultOfThree (d + 2) 0 0 9 [some (.ref a), some (.int ln), some (.int at_), some (.int (f3F f a ln at_ i)), some (.int (nI i))] [] (hp (f, τ)) (fun r' h' => r' = some (.int (f3F f a ln at_ 3)) ∧ h' = hp (f, τ)) := by
    intro m
    induction m with
    | zero => intro i h1 h2; omega
    | succ m ih =>
      intro i h1 h2
      refine aw_iload dX2_faultOfThree_9 rfl ?_
      refine aw_iconst (v := 3) dX2_faultOfThree_11 (by decide) ?_
      refine aw_tE (nI 3) rfl ?_
      refine aw_icmp_ge (tgt := 34) dX2_faultOfThree_12 (by decide) (fun c12 => ?_) (fun c12 => ?_)
      · refine aw_iload_n (i := 3) dX2_faultOfThree_34 rfl rfl ?_
        refine aw_ireturn (ty := .int) dX2_faultOfThree_35 rfl rfl ?_
        first | (have hip : i = 3 := (by have := (nI_leI (a := 3) (b := i) (by omega) (by omega)).mp c12; omega); subst hip; exact ⟨rfl, rfl⟩) | exact ⟨by rw [← f3F_stop c16 (3 - i), show i + (3 - i) = 3 by omega], rfl⟩
      · have hi : i < 3 := Nat.not_le.mp (fun z => c12 (nI_le z (by omega)))
        refine aw_iload_n (i := 3) dX2_faultOfThree_15 rfl rfl ?_
        refine aw_if_ne (tgt := 34) dX2_faultOfThree_16 (by decide) (fun c16 => ?_) (fun c16 => ?_)
        · refine aw_iload_n (i := 3) dX2_faultOfThree_34 rfl rfl ?_
          refine aw_ireturn (ty := .int) dX2_faultOfThree_35 rfl rfl ?_
          first | (have hip : i = 3 := (by have := (nI_leI (a := 3) (b := i) (by omega) (by omega)).mp c12; omega); subst hip; exact ⟨rfl, rfl⟩) | exact ⟨by rw [← f3F_stop c16 (3 - i), show i + (3 - i) = 3 by omega], rfl⟩
        · refine aw_aload_n (i := 0) dX2_faultOfThree_19 rfl rfl ?_
          refine aw_iload_n (i := 2) dX2_faultOfThree_20 rfl rfl ?_
          refine aw_iload dX2_faultOfThree_21 rfl ?_
          refine aw_iadd dX2_faultOfThree_23 ?_
          refine ax_callV1i (M' := MX2_faultAt) (ci := 2) dX2_faultOfThree_24 lmX2_40 oX2_faultAt (by decide +kernel) (by assumption) rfl rfl (Nat.le_of_ble_eq_true rfl) (f_X2_faultAt hs _) ?_
          refine aw_istore_n (i := 3) (L' := [_, _, _, _, _]) dX2_faultOfThree_27 rfl (Nat.le_of_ble_eq_true rfl) rfl rfl ?_
          refine aw_incN (L' := [_, _, _, _, _]) dX2_faultOfThree_28 rfl (Nat.le_of_ble_eq_true rfl) rfl rfl ?_
          refine aw_goto (tgt := 9) dX2_faultOfThree_31 (by decide) ?_
          have e := ih (i + 1) hi (by omega)
          first | (rw [f3F, if_pos c16] at e; exact e) | (rw [f3F, if_pos (Decidable.not_not.mp c16)] at e; exact e)
  refine aw_aload_n (i := 0) dX2_faultOfThree_0 rfl rfl ?_
  refine aw_iload_n (i := 1) dX2_faultOfThree_1 rfl rfl ?_
  refine ax_callV1i (M' := MX2_faultAs) (ci := 2) dX2_faultOfThree_2 lmX2_36 oX2_faultAs (by decide +kernel) (by assumption) rfl rfl (Nat.le_of_ble_eq_true rfl) (f_X2_faultAs hs _) ?_
  refine aw_istore_n (i := 3) (L' := [_, _, _, _, _]) dX2_faultOfThree_5 rfl (Nat.le_of_ble_eq_true rfl) rfl rfl ?_
  refine aw_iconst (v := 0) dX2_faultOfThree_6 (by decide) ?_
  refine aw_istore (i := 4) (L' := [_, _, _, _, _]) dX2_faultOfThree_7 (Nat.le_of_ble_eq_true rfl) rfl rfl ?_
  exact loop (3 + 1) 0 (Nat.zero_le _) (by omega)
set_option maxRecDepth 100000 in
set_option maxHeartbeats 4000000 in
theorem f_X2_get {V : am_V} {d a : Nat} {f : Nat → Nat → Int32} {τ : Nat → Nat → Int64} (hs : am_isS a) {z : Nat} (hz : z ≤ 40) (hsz : f a 2 = nI z) (i : Int32) : AF V MX2_get (d + 2) [.ref a, .int i] (f, τ) (some (.int (gtF f a i))) (f, τ) := by
  have tS := tb_S hs
  have tC := tb_Sc hs
  refine AM.of (L := [some (.ref a), some (.int i)]) (by decide +kernel) (Nat.le_of_ble_eq_true rfl) rfl ?_
  refine aw_aload_n (i := 0) dX2_get_0 rfl rfl ?_
  refine aw_iload_n (i := 1) dX2_get_1 rfl rfl ?_
  refine ax_callV1i (M' := MX2_faultAt) (ci := 2) dX2_get_2 lmX2_40 oX2_faultAt (by decide +kernel) (by assumption) rfl rfl (Nat.le_of_ble_eq_true rfl) (f_X2_faultAt hs _) ?_
  refine aw_if_ne (tgt := 17) dX2_get_5 (by decide) (fun c5 => ?_) (fun c5 => ?_)
  · refine aw_iconst (v := 0) dX2_get_17 (by decide) ?_
    refine aw_ireturn (ty := .int) dX2_get_18 rfl rfl ?_
    first | exact ⟨congrArg (fun z => some (Value.int z)) (if_neg c5).symm, rfl⟩ | exact ⟨congrArg (fun z => some (Value.int z)) (if_pos c5).symm, rfl⟩
  · refine aw_aload_n (i := 0) dX2_get_8 rfl rfl ?_
    refine ax_getr (ci := 2) 0 dX2_get_9 rfl lfX2_9 (by decide) (by assumption) (by rfl) ?_
    refine aw_iload_n (i := 1) dX2_get_12 rfl rfl ?_
    refine ax_iald dX2_get_13 (by assumption) (faF_in hz hsz (by first | exact c5 | exact Decidable.not_not.mp c5)) ?_
    refine aw_goto (tgt := 18) dX2_get_14 (by decide) ?_
    refine aw_ireturn (ty := .int) dX2_get_18 rfl rfl ?_
    first | exact ⟨congrArg (fun z => some (Value.int z)) (if_neg c5).symm, rfl⟩ | exact ⟨congrArg (fun z => some (Value.int z)) (if_pos c5).symm, rfl⟩
set_option maxRecDepth 100000 in
set_option maxHeartbeats 4000000 in
theorem f_X2_put {V : am_V} {d a : Nat} {f : Nat → Nat → Int32} {τ : Nat → Nat → Int64} (hs : am_isS a) {z : Nat} (hz : z ≤ 40) (hsz : f a 2 = nI z) (i v : Int32) : AF V MX2_put (d + 2) [.ref a, .int i, .int v] (f, τ) none (ptF f a i v, τ) := by
  have tS := tb_S hs
  have tC := tb_Sc hs
  refine AM.of (L := [some (.ref a), some (.int i), some (.int v)]) (by decide +kernel) (Nat.le_of_ble_eq_true rfl) rfl ?_
  refine aw_aload_n (i := 0) dX2_put_0 rfl rfl ?_
  refine aw_iload_n (i := 1) dX2_put_1 rfl rfl ?_
  refine ax_callV1i (M' := MX2_faultAt) (ci := 2) dX2_put_2 lmX2_40 oX2_faultAt (by decide +kernel) (by assumption) rfl rfl (Nat.le_of_ble_eq_true rfl) (f_X2_faultAt hs _) ?_
  refine aw_if_eq (tgt := 9) dX2_put_5 (by decide) (fun c5 => ?_) (fun c5 => ?_)
  · refine aw_aload_n (i := 0) dX2_put_9 rfl rfl ?_
    refine ax_geti (ci := 2) 1 dX2_put_10 rfl lfX2_15 (by decide) (by assumption) (by rfl) ?_
    refine aw_look2 (t1 := 40) (t2 := 51) (td := 62) 0 1 dX2_put_13 rfl rfl (by decide) (by decide) (by decide) (by decide) (fun c1 => ?_) (fun c1 c2 => ?_) (fun c1 c2 => ?_)
    · refine aw_aload_n (i := 0) dX2_put_40 rfl rfl ?_
      refine ax_getr (ci := 2) 0 dX2_put_41 rfl lfX2_9 (by decide) (by assumption) (by rfl) ?_
      refine aw_iload_n (i := 1) dX2_put_44 rfl rfl ?_
      refine aw_iload_n (i := 2) dX2_put_45 rfl rfl ?_
      refine aw_i2b dX2_put_46 ?_
      refine ax_iast dX2_put_47 (by assumption) (faF_in hz hsz c5) ?_
      refine aw_goto (tgt := 69) dX2_put_48 (by decide) ?_
      refine aw_return dX2_put_69 rfl ?_
      exact ⟨rfl, by rw [ptF, if_pos c5, ptV, if_pos c1]⟩
    · refine aw_aload_n (i := 0) dX2_put_51 rfl rfl ?_
      refine ax_getr (ci := 2) 0 dX2_put_52 rfl lfX2_9 (by decide) (by assumption) (by rfl) ?_
      refine aw_iload_n (i := 1) dX2_put_55 rfl rfl ?_
      refine aw_iload_n (i := 2) dX2_put_56 rfl rfl ?_
      refine aw_i2s dX2_put_57 ?_
      refine ax_iast dX2_put_58 (by assumption) (faF_in hz hsz c5) ?_
      refine aw_goto (tgt := 69) dX2_put_59 (by decide) ?_
      refine aw_return dX2_put_69 rfl ?_
      exact ⟨rfl, by rw [ptF, if_pos c5, ptV, if_neg c1, if_pos c2]⟩
    · refine aw_aload_n (i := 0) dX2_put_62 rfl rfl ?_
      refine ax_getr (ci := 2) 0 dX2_put_63 rfl lfX2_9 (by decide) (by assumption) (by rfl) ?_
      refine aw_iload_n (i := 1) dX2_put_66 rfl rfl ?_
      refine aw_iload_n (i := 2) dX2_put_67 rfl rfl ?_
      refine ax_iast dX2_put_68 (by assumption) (faF_in hz hsz c5) ?_
      refine aw_return dX2_put_69 rfl ?_
      exact ⟨rfl, by rw [ptF, if_pos c5, ptV, if_neg c1, if_neg c2]⟩
  · refine aw_return dX2_put_8 rfl ?_
    exact ⟨rfl, by rw [ptF, if_neg c5]⟩
set_option maxRecDepth 100000 in
set_option maxHeartbeats 4000000 in
theorem f_X2_renew {V : am_V} {d a : Nat} {f : Nat → Nat → Int32} {τ : Nat → Nat → Int64} (hs : am_isS a) (ln sz : Int32) : AF V MX2_renew (d + 1) [.ref a, .int ln, .int sz] (f, τ) none (rnF f a ln sz, τ) := by
  have tS := tb_S hs
  have tC := tb_Sc hs
  refine AM.of (L := [some (.ref a), some (.int ln), some (.int sz), none]) (by decide +kernel) (Nat.le_of_ble_eq_true rfl) rfl ?_
  have loop : ∀ (m i : Nat), i ≤ 40 → 40 - i < m → AW V MX2_renew (d + 1) 0 0 17 [some (.ref a), some (.int ln), some (.int sz), some (.int (nI i))] [] (hp (zrP (up2 (up2 f a 1 ln) a 2 (imin sz 40)) (a + 1) i, τ)) (fun r' h' => r' = none ∧ h' = hp (rnF f a ln sz, τ)) := by
    intro m
    induction m with
    | zero => intro i h1 h2; omega
    | succ m ih =>
      intro i h1 h2
      refine aw_iload_n (i := 3) dX2_renew_17 rfl rfl ?_
      refine aw_bipush (v := 40) dX2_renew_18 (by decide) ?_
      refine aw_tE (nI 40) rfl ?_
      refine aw_icmp_ge (tgt := 36) dX2_renew_20 (by decide) (fun c20 => ?_) (fun c20 => ?_)
      · refine aw_return dX2_renew_36 rfl ?_
        have hip : i = 40 := by have := (nI_leI (a := 40) (b := i) (by omega) (by omega)).mp c20; omega
        subst hip
        exact ⟨rfl, rfl⟩
      · have hi : i < 40 := Nat.not_le.mp (fun z => c20 (nI_le z (by omega)))
        refine aw_aload_n (i := 0) dX2_renew_23 rfl rfl ?_
        refine ax_getr (ci := 2) 0 dX2_renew_24 rfl lfX2_9 (by decide) (by assumption) (by rfl) ?_
        refine aw_iload_n (i := 3) dX2_renew_27 rfl rfl ?_
        refine aw_iconst (v := 0) dX2_renew_28 (by decide) ?_
        refine ax_iastN dX2_renew_29 (by assumption) (by omega) (Nat.le_of_ble_eq_true rfl) ?_
        refine aw_incN (L' := [_, _, _, _]) dX2_renew_30 rfl (Nat.le_of_ble_eq_true rfl) rfl rfl ?_
        refine aw_goto (tgt := 17) dX2_renew_33 (by decide) ?_
        have e := ih (i + 1) hi (by omega)
        rw [← zrP_s] at e
        exact e
  refine aw_aload_n (i := 0) dX2_renew_0 rfl rfl ?_
  refine aw_iload_n (i := 1) dX2_renew_1 rfl rfl ?_
  refine ax_puti (ci := 2) 1 dX2_renew_2 rfl lfX2_15 (by decide) (by assumption) (by rfl) rfl rfl ?_
  refine aw_aload_n (i := 0) dX2_renew_5 rfl rfl ?_
  refine aw_iload_n (i := 2) dX2_renew_6 rfl rfl ?_
  refine aw_bipush (v := 40) dX2_renew_7 (by decide) ?_
  refine aw_mmin dX2_renew_9 lmX2_23 (Nat.le_of_ble_eq_true rfl) ?_
  refine ax_puti (ci := 2) 2 dX2_renew_12 rfl lfX2_29 (by decide) (by assumption) (by rfl) rfl rfl ?_
  refine aw_iconst (v := 0) dX2_renew_15 (by decide) ?_
  refine aw_istore_n (i := 3) (L' := [_, _, _, _]) dX2_renew_16 rfl (Nat.le_of_ble_eq_true rfl) rfl rfl ?_
  have e := loop (40 + 1) 0 (Nat.zero_le _) (by omega)
  rw [zrP_0] at e
  exact e
