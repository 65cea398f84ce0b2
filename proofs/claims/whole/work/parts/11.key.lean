def b2i (c : Prop) [Decidable c] : Int32 := if c then 1 else 0
theorem b2i_z (c : Prop) [Decidable c] : narrow .boolean (.int (b2i c)) = .int (b2i c) := by unfold b2i; split <;> rfl
theorem b2i_t {c : Prop} [Decidable c] (h : c) : b2i c = 1 := by simp [b2i, h]
theorem b2i_f {c : Prop} [Decidable c] (h : ¬ c) : b2i c = 0 := by simp [b2i, h]
def imin (x y : Int32) : Int32 := if y < x then y else x
def imax (x y : Int32) : Int32 := if x < y then y else x
set_option maxRecDepth 100000 in
set_option maxHeartbeats 4000000 in
theorem f_X4_within {V : am_V} {d : Nat} {S : fm} (v lo hi : Int32) : AF V MX4_within d [.int v, .int lo, .int hi] S (some (.int (b2i (lo ≤ v ∧ v ≤ hi)))) S := by
  refine AM.of (L := [some (.int v), some (.int lo), some (.int hi)]) (by decide +kernel) (Nat.le_of_ble_eq_true rfl) rfl ?_
  refine aw_iload_n (i := 0) dX4_within_0 rfl rfl ?_
  refine aw_iload_n (i := 1) dX4_within_1 rfl rfl ?_
  refine aw_icmp_lt (tgt := 14) dX4_within_2 (by decide) (fun c2 => ?_) (fun c2 => ?_)
  · refine aw_iconst (v := 0) dX4_within_14 (by decide) ?_
    refine aw_ireturn (ty := .boolean) dX4_within_15 rfl (by decide) ?_
    first | exact ⟨congrArg (fun z => some (Value.int z)) (b2i_t ⟨Int32.not_lt.mp c2, Int32.not_lt.mp c7⟩).symm, rfl⟩ | exact ⟨congrArg (fun z => some (Value.int z)) (b2i_f (fun z => absurd c2 (Int32.not_lt.mpr z.1))).symm, rfl⟩ | exact ⟨congrArg (fun z => some (Value.int z)) (b2i_f (fun z => absurd c7 (Int32.not_lt.mpr z.2))).symm, rfl⟩
  · refine aw_iload_n (i := 0) dX4_within_5 rfl rfl ?_
    refine aw_iload_n (i := 2) dX4_within_6 rfl rfl ?_
    refine aw_icmp_gt (tgt := 14) dX4_within_7 (by decide) (fun c7 => ?_) (fun c7 => ?_)
    · refine aw_iconst (v := 0) dX4_within_14 (by decide) ?_
      refine aw_ireturn (ty := .boolean) dX4_within_15 rfl (by decide) ?_
      first | exact ⟨congrArg (fun z => some (Value.int z)) (b2i_t ⟨Int32.not_lt.mp c2, Int32.not_lt.mp c7⟩).symm, rfl⟩ | exact ⟨congrArg (fun z => some (Value.int z)) (b2i_f (fun z => absurd c2 (Int32.not_lt.mpr z.1))).symm, rfl⟩ | exact ⟨congrArg (fun z => some (Value.int z)) (b2i_f (fun z => absurd c7 (Int32.not_lt.mpr z.2))).symm, rfl⟩
    · refine aw_iconst (v := 1) dX4_within_10 (by decide) ?_
      refine aw_goto (tgt := 15) dX4_within_11 (by decide) ?_
      refine aw_ireturn (ty := .boolean) dX4_within_15 rfl (by decide) ?_
      first | exact ⟨congrArg (fun z => some (Value.int z)) (b2i_t ⟨Int32.not_lt.mp c2, Int32.not_lt.mp c7⟩).symm, rfl⟩ | exact ⟨congrArg (fun z => some (Value.int z)) (b2i_f (fun z => absurd c2 (Int32.not_lt.mpr z.1))).symm, rfl⟩ | exact ⟨congrArg (fun z => some (Value.int z)) (b2i_f (fun z => absurd c7 (Int32.not_lt.mpr z.2))).symm, rfl⟩
def k_start (g : Nat → Int32) : Nat → Int32 := upd (upd g 7 0) 8 0
set_option maxRecDepth 100000 in
set_option maxHeartbeats 4000000 in
theorem f_X1_startRun {V : am_V} {d a : Nat} {f : Nat → Nat → Int32} {g : Nat → Int32} {τ : Nat → Nat → Int64} (ht : am_tab[a]? = some (.inl (1, [0, 0, 0, 0, 0, 0, 0, 0, 0]))) : AF V MX1_startRun d [.ref a] (upk f a g, τ) none (upk f a (k_start g), τ) := by
  refine AM.of (L := [some (.ref a)]) (by decide +kernel) (Nat.le_of_ble_eq_true rfl) rfl ?_
  refine aw_aload_n (i := 0) dX1_startRun_0 rfl rfl ?_
  refine aw_iconst (v := 0) dX1_startRun_1 (by decide) ?_
  refine ax_putK (ci := 1) 7 dX1_startRun_2 rfl lfX1_36 (by decide) (by assumption) (by rfl) rfl rfl ?_
  refine aw_aload_n (i := 0) dX1_startRun_5 rfl rfl ?_
  refine aw_iconst (v := 0) dX1_startRun_6 (by decide) ?_
  refine ax_putK (ci := 1) 8 dX1_startRun_7 rfl lfX1_39 (by decide) (by assumption) (by rfl) rfl rfl ?_
  refine aw_return dX1_startRun_10 rfl ?_
  exact ⟨rfl, rfl⟩
def k_begin (g : Nat → Int32) (kind bounce number : Int32) : Nat → Int32 := k_start (upd (upd (upd (upd (upd (upd (upd g 0 bounce) 1 kind) 2 number) 3 0) 4 0) 5 0) 6 0)
set_option maxRecDepth 100000 in
set_option maxHeartbeats 4000000 in
theorem f_X1_begin {V : am_V} {d a : Nat} {f : Nat → Nat → Int32} {g : Nat → Int32} {τ : Nat → Nat → Int64} (ht : am_tab[a]? = some (.inl (1, [0, 0, 0, 0, 0, 0, 0, 0, 0]))) (kind bounce number : Int32) : AF V MX1_begin (d + 1) [.ref a, .int kind, .int bounce, .int number] (upk f a g, τ) none (upk f a (k_begin g kind bounce number), τ) := by
  refine AM.of (L := [some (.ref a), some (.int kind), some (.int bounce), some (.int number)]) (by decide +kernel) (Nat.le_of_ble_eq_true rfl) rfl ?_
  refine aw_aload_n (i := 0) dX1_begin_0 rfl rfl ?_
  refine aw_iload_n (i := 2) dX1_begin_1 rfl rfl ?_
  refine ax_putK (ci := 1) 0 dX1_begin_2 rfl lfX1_9 (by decide) (by assumption) (by rfl) rfl rfl ?_
  refine aw_aload_n (i := 0) dX1_begin_5 rfl rfl ?_
  refine aw_iload_n (i := 1) dX1_begin_6 rfl rfl ?_
  refine ax_putK (ci := 1) 1 dX1_begin_7 rfl lfX1_15 (by decide) (by assumption) (by rfl) rfl rfl ?_
  refine aw_aload_n (i := 0) dX1_begin_10 rfl rfl ?_
  refine aw_iload_n (i := 3) dX1_begin_11 rfl rfl ?_
  refine ax_putK (ci := 1) 2 dX1_begin_12 rfl lfX1_18 (by decide) (by assumption) (by rfl) rfl rfl ?_
  refine aw_aload_n (i := 0) dX1_begin_15 rfl rfl ?_
  refine aw_iconst (v := 0) dX1_begin_16 (by decide) ?_
  refine ax_putK (ci := 1) 3 dX1_begin_17 rfl lfX1_21 (by decide) (by assumption) (by rfl) rfl rfl ?_
  refine aw_aload_n (i := 0) dX1_begin_20 rfl rfl ?_
  refine aw_iconst (v := 0) dX1_begin_21 (by decide) ?_
  refine ax_putK (ci := 1) 4 dX1_begin_22 rfl lfX1_24 (by decide) (by assumption) (by rfl) rfl rfl ?_
  refine aw_aload_n (i := 0) dX1_begin_25 rfl rfl ?_
  refine aw_iconst (v := 0) dX1_begin_26 (by decide) ?_
  refine ax_putK (ci := 1) 5 dX1_begin_27 rfl lfX1_27 (by decide) (by assumption) (by rfl) rfl rfl ?_
  refine aw_aload_n (i := 0) dX1_begin_30 rfl rfl ?_
  refine aw_iconst (v := 0) dX1_begin_31 (by decide) ?_
  refine ax_putK (ci := 1) 6 dX1_begin_32 rfl lfX1_30 (by decide) (by assumption) (by rfl) rfl rfl ?_
  refine aw_aload_n (i := 0) dX1_begin_35 rfl rfl ?_
  refine ax_callV0v (M' := MX1_startRun) (ci := 1) dX1_begin_36 lmX1_33 oX1_startRun (by decide +kernel) (by assumption) rfl rfl (Nat.le_of_ble_eq_true rfl) (f_X1_startRun ht) ?_
  refine aw_return dX1_begin_39 rfl ?_
  exact ⟨rfl, rfl⟩
def k_part (g : Nat → Int32) (what : Int32) : Int32 := if what = 0 then g 0 else if what = 1 then g 1 else g 2
set_option maxRecDepth 100000 in
set_option maxHeartbeats 4000000 in
theorem f_X1_part {V : am_V} {d a : Nat} {f : Nat → Nat → Int32} {g : Nat → Int32} {τ : Nat → Nat → Int64} (ht : am_tab[a]? = some (.inl (1, [0, 0, 0, 0, 0, 0, 0, 0, 0]))) (what : Int32) : AF V MX1_part d [.ref a, .int what] (upk f a g, τ) (some (.int (k_part g what))) (upk f a g, τ) := by
  refine AM.of (L := [some (.ref a), some (.int what)]) (by decide +kernel) (Nat.le_of_ble_eq_true rfl) rfl ?_
  refine aw_iload_n (i := 1) dX1_part_0 rfl rfl ?_
  refine aw_look2 (t1 := 28) (t2 := 33) (td := 38) 0 1 dX1_part_1 rfl rfl (by decide) (by decide) (by decide) (by decide) (fun c1 => ?_) (fun c1 c2 => ?_) (fun c1 c2 => ?_)
  · refine aw_aload_n (i := 0) dX1_part_28 rfl rfl ?_
    refine ax_getK (ci := 1) 0 dX1_part_29 rfl lfX1_9 (by decide) (by assumption) (by rfl) ?_
    refine aw_ireturn (ty := .int) dX1_part_32 rfl rfl ?_
    exact ⟨by simp [k_part, *], rfl⟩
  · refine aw_aload_n (i := 0) dX1_part_33 rfl rfl ?_
    refine ax_getK (ci := 1) 1 dX1_part_34 rfl lfX1_15 (by decide) (by assumption) (by rfl) ?_
    refine aw_ireturn (ty := .int) dX1_part_37 rfl rfl ?_
    exact ⟨by simp [k_part, *], rfl⟩
  · refine aw_aload_n (i := 0) dX1_part_38 rfl rfl ?_
    refine ax_getK (ci := 1) 2 dX1_part_39 rfl lfX1_18 (by decide) (by assumption) (by rfl) ?_
    refine aw_ireturn (ty := .int) dX1_part_42 rfl rfl ?_
    exact ⟨by simp [k_part, *], rfl⟩
def k_become (g : Nat → Int32) (part v : Int32) : Nat → Int32 := upd (upd g (if part = 0 then 0 else if part = 1 then 1 else 2) v) 4 (imin (upd g (if part = 0 then 0 else if part = 1 then 1 else 2) v 4) (upd g (if part = 0 then 0 else if part = 1 then 1 else 2) v 2))
set_option maxRecDepth 100000 in
set_option maxHeartbeats 4000000 in
theorem f_X1_become {V : am_V} {d a : Nat} {f : Nat → Nat → Int32} {g : Nat → Int32} {τ : Nat → Nat → Int64} (ht : am_tab[a]? = some (.inl (1, [0, 0, 0, 0, 0, 0, 0, 0, 0]))) (part v : Int32) : AF V MX1_become (d + 1) [.ref a, .int part, .int v] (upk f a g, τ) none (upk f a (k_become g part v), τ) := by
  refine AM.of (L := [some (.ref a), some (.int part), some (.int v)]) (by decide +kernel) (Nat.le_of_ble_eq_true rfl) rfl ?_
  refine aw_iload_n (i := 1) dX1_become_0 rfl rfl ?_
  refine aw_look2 (t1 := 28) (t2 := 36) (td := 44) 0 1 dX1_become_1 rfl rfl (by decide) (by decide) (by decide) (by decide) (fun c1 => ?_) (fun c1 c2 => ?_) (fun c1 c2 => ?_)
  · refine aw_aload_n (i := 0) dX1_become_28 rfl rfl ?_
    refine aw_iload_n (i := 2) dX1_become_29 rfl rfl ?_
    refine ax_putK (ci := 1) 0 dX1_become_30 rfl lfX1_9 (by decide) (by assumption) (by rfl) rfl rfl ?_
    refine aw_goto (tgt := 49) dX1_become_33 (by decide) ?_
    refine aw_aload_n (i := 0) dX1_become_49 rfl rfl ?_
    refine aw_aload_n (i := 0) dX1_become_50 rfl rfl ?_
    refine ax_getK (ci := 1) 4 dX1_become_51 rfl lfX1_24 (by decide) (by assumption) (by rfl) ?_
    refine aw_aload_n (i := 0) dX1_become_54 rfl rfl ?_
    refine ax_getK (ci := 1) 2 dX1_become_55 rfl lfX1_18 (by decide) (by assumption) (by rfl) ?_
    refine aw_mmin dX1_become_58 lmX1_46 (Nat.le_of_ble_eq_true rfl) ?_
    refine ax_putK (ci := 1) 4 dX1_become_61 rfl lfX1_24 (by decide) (by assumption) (by rfl) rfl rfl ?_
    refine aw_return dX1_become_64 rfl ?_
    exact ⟨rfl, by simp only [k_become, if_pos, if_neg, c1, not_false_eq_true, *]; rfl⟩
  · refine aw_aload_n (i := 0) dX1_become_36 rfl rfl ?_
    refine aw_iload_n (i := 2) dX1_become_37 rfl rfl ?_
    refine ax_putK (ci := 1) 1 dX1_become_38 rfl lfX1_15 (by decide) (by assumption) (by rfl) rfl rfl ?_
    refine aw_goto (tgt := 49) dX1_become_41 (by decide) ?_
    refine aw_aload_n (i := 0) dX1_become_49 rfl rfl ?_
    refine aw_aload_n (i := 0) dX1_become_50 rfl rfl ?_
    refine ax_getK (ci := 1) 4 dX1_become_51 rfl lfX1_24 (by decide) (by assumption) (by rfl) ?_
    refine aw_aload_n (i := 0) dX1_become_54 rfl rfl ?_
    refine ax_getK (ci := 1) 2 dX1_become_55 rfl lfX1_18 (by decide) (by assumption) (by rfl) ?_
    refine aw_mmin dX1_become_58 lmX1_46 (Nat.le_of_ble_eq_true rfl) ?_
    refine ax_putK (ci := 1) 4 dX1_become_61 rfl lfX1_24 (by decide) (by assumption) (by rfl) rfl rfl ?_
    refine aw_return dX1_become_64 rfl ?_
    exact ⟨rfl, by simp only [k_become, if_pos, if_neg, c1, not_false_eq_true, *]; rfl⟩
  · refine aw_aload_n (i := 0) dX1_become_44 rfl rfl ?_
    refine aw_iload_n (i := 2) dX1_become_45 rfl rfl ?_
    refine ax_putK (ci := 1) 2 dX1_become_46 rfl lfX1_18 (by decide) (by assumption) (by rfl) rfl rfl ?_
    refine aw_aload_n (i := 0) dX1_become_49 rfl rfl ?_
    refine aw_aload_n (i := 0) dX1_become_50 rfl rfl ?_
    refine ax_getK (ci := 1) 4 dX1_become_51 rfl lfX1_24 (by decide) (by assumption) (by rfl) ?_
    refine aw_aload_n (i := 0) dX1_become_54 rfl rfl ?_
    refine ax_getK (ci := 1) 2 dX1_become_55 rfl lfX1_18 (by decide) (by assumption) (by rfl) ?_
    refine aw_mmin dX1_become_58 lmX1_46 (Nat.le_of_ble_eq_true rfl) ?_
    refine ax_putK (ci := 1) 4 dX1_become_61 rfl lfX1_24 (by decide) (by assumption) (by rfl) rfl rfl ?_
    refine aw_return dX1_become_64 rfl ?_
    exact ⟨rfl, by simp only [k_become, if_pos, if_neg, c1, not_false_eq_true, *]; rfl⟩
def k_may (part v : Int32) : Prop := (part = 0 ∧ 0 ≤ v ∧ v ≤ 9) ∨ (part = 1 ∧ 0 ≤ v ∧ v ≤ 3) ∨ (part = 2 ∧ 1 ≤ v ∧ v ≤ 9)
def k_mayI (part v : Int32) : Int32 := if part = 0 then b2i (0 ≤ v ∧ v ≤ 9) else if part = 1 then b2i (0 ≤ v ∧ v ≤ 3) else if part = 2 then b2i (1 ≤ v ∧ v ≤ 9) else 0
set_option maxRecDepth 100000 in
set_option maxHeartbeats 4000000 in
theorem f_X1_mayBe {V : am_V} {d : Nat} {S : fm} (part v : Int32) : AF V MX1_mayBe (d + 1) [.int part, .int v] S (some (.int (k_mayI part v))) S := by
  refine AM.of (L := [some (.int part), some (.int v)]) (by decide +kernel) (Nat.le_of_ble_eq_true rfl) rfl ?_
  refine aw_iload_n (i := 0) dX1_mayBe_0 rfl rfl ?_
  refine aw_tab3 (t0 := 28) (t1 := 36) (t2 := 43) (td := 51) dX1_mayBe_1 (by decide) (by decide) (by decide) (by decide) (fun c0 => ?_) (fun c0 c1 => ?_) (fun c0 c1 c2 => ?_) (fun c0 c1 c2 => ?_)
  · refine aw_iload_n (i := 1) dX1_mayBe_28 rfl rfl ?_
    refine aw_iconst (v := 0) dX1_mayBe_29 (by decide) ?_
    refine aw_bipush (v := 9) dX1_mayBe_30 (by decide) ?_
    refine ax_callSN3i (M' := MX4_within) dX1_mayBe_32 (List.mem_of_getElem? (i := 3) rfl) oX4_within (by decide +kernel) (Nat.le_of_ble_eq_true rfl) (f_X4_within _ _ _) ?_
    refine aw_ireturn (ty := .boolean) dX1_mayBe_35 rfl (b2i_z _) ?_
    exact ⟨by simp [k_mayI, *], rfl⟩
  · refine aw_iload_n (i := 1) dX1_mayBe_36 rfl rfl ?_
    refine aw_iconst (v := 0) dX1_mayBe_37 (by decide) ?_
    refine aw_iconst (v := 3) dX1_mayBe_38 (by decide) ?_
    refine ax_callSN3i (M' := MX4_within) dX1_mayBe_39 (List.mem_of_getElem? (i := 3) rfl) oX4_within (by decide +kernel) (Nat.le_of_ble_eq_true rfl) (f_X4_within _ _ _) ?_
    refine aw_ireturn (ty := .boolean) dX1_mayBe_42 rfl (b2i_z _) ?_
    exact ⟨by simp [k_mayI, *], rfl⟩
  · refine aw_iload_n (i := 1) dX1_mayBe_43 rfl rfl ?_
    refine aw_iconst (v := 1) dX1_mayBe_44 (by decide) ?_
    refine aw_bipush (v := 9) dX1_mayBe_45 (by decide) ?_
    refine ax_callSN3i (M' := MX4_within) dX1_mayBe_47 (List.mem_of_getElem? (i := 3) rfl) oX4_within (by decide +kernel) (Nat.le_of_ble_eq_true rfl) (f_X4_within _ _ _) ?_
    refine aw_ireturn (ty := .boolean) dX1_mayBe_50 rfl (b2i_z _) ?_
    exact ⟨by simp [k_mayI, *], rfl⟩
  · refine aw_iconst (v := 0) dX1_mayBe_51 (by decide) ?_
    refine aw_ireturn (ty := .boolean) dX1_mayBe_52 rfl (by decide) ?_
    exact ⟨by simp [k_mayI, *], rfl⟩
def k_copy (g g2 : Nat → Int32) : Nat → Int32 := upd (upd (upd (upd (upd (upd (upd g 0 (g2 0)) 1 (g2 1)) 2 (g2 2)) 3 (g2 3)) 4 (g2 4)) 5 (g2 5)) 6 (g2 6)
def k_sum (g : Nat → Int32) (seen : Int32) : Int32 := if seen = 1 then imin (g 4 + 1) (g 2) else imax (g 4 - 1) 0
def k_weigh (g : Nat → Int32) (seen : Int32) : Nat → Int32 := upd g 4 (k_sum g seen)
def k_weighR (g : Nat → Int32) (seen : Int32) : Int32 := if k_sum g seen = g 2 then 1 else if k_sum g seen = 0 then 0 else g 3
set_option maxRecDepth 100000 in
set_option maxHeartbeats 4000000 in
theorem f_X1_weigh {V : am_V} {d a : Nat} {f : Nat → Nat → Int32} {g : Nat → Int32} {τ : Nat → Nat → Int64} (ht : am_tab[a]? = some (.inl (1, [0, 0, 0, 0, 0, 0, 0, 0, 0]))) (seen : Int32) : AF V MX1_weigh (d + 1) [.ref a, .int seen] (upk f a g, τ) (some (.int (k_weighR g seen))) (upk f a (k_weigh g seen), τ) := by
  refine AM.of (L := [some (.ref a), some (.int seen)]) (by decide +kernel) (Nat.le_of_ble_eq_true rfl) rfl ?_
  refine aw_aload_n (i := 0) dX1_weigh_0 rfl rfl ?_
  refine aw_iload_n (i := 1) dX1_weigh_1 rfl rfl ?_
  refine aw_iconst (v := 1) dX1_weigh_2 (by decide) ?_
  refine aw_icmp_ne (tgt := 22) dX1_weigh_3 (by decide) (fun c3 => ?_) (fun c3 => ?_)
  · refine aw_aload_n (i := 0) dX1_weigh_22 rfl rfl ?_
    refine ax_getK (ci := 1) 4 dX1_weigh_23 rfl lfX1_24 (by decide) (by assumption) (by rfl) ?_
    refine aw_iconst (v := 1) dX1_weigh_26 (by decide) ?_
    refine aw_isub dX1_weigh_27 ?_
    refine aw_iconst (v := 0) dX1_weigh_28 (by decide) ?_
    refine aw_mmax dX1_weigh_29 lmX1_63 (Nat.le_of_ble_eq_true rfl) ?_
    first | refine aw_tE (k_sum g seen) (if_pos c3).symm ?_ | refine aw_tE (k_sum g seen) (if_neg c3).symm ?_
    refine ax_putK (ci := 1) 4 dX1_weigh_32 rfl lfX1_24 (by decide) (by assumption) (by rfl) rfl rfl ?_
    refine aw_aload_n (i := 0) dX1_weigh_35 rfl rfl ?_
    refine ax_getK (ci := 1) 4 dX1_weigh_36 rfl lfX1_24 (by decide) (by assumption) (by rfl) ?_
    refine aw_aload_n (i := 0) dX1_weigh_39 rfl rfl ?_
    refine ax_getK (ci := 1) 2 dX1_weigh_40 rfl lfX1_18 (by decide) (by assumption) (by rfl) ?_
    refine aw_icmp_ne (tgt := 48) dX1_weigh_43 (by decide) (fun c43 => ?_) (fun c43 => ?_)
    · refine aw_aload_n (i := 0) dX1_weigh_48 rfl rfl ?_
      refine ax_getK (ci := 1) 4 dX1_weigh_49 rfl lfX1_24 (by decide) (by assumption) (by rfl) ?_
      refine aw_if_ne (tgt := 59) dX1_weigh_52 (by decide) (fun c52 => ?_) (fun c52 => ?_)
      · refine aw_aload_n (i := 0) dX1_weigh_59 rfl rfl ?_
        refine ax_getK (ci := 1) 3 dX1_weigh_60 rfl lfX1_21 (by decide) (by assumption) (by rfl) ?_
        refine aw_ireturn (ty := .int) dX1_weigh_63 rfl rfl ?_
        exact ⟨congrArg (fun z => some (Value.int z)) (by unfold k_weighR; first | exact (if_pos c43).symm | exact ((if_neg c43).trans (if_pos c52)).symm | exact ((if_neg c43).trans (if_neg c52)).symm), rfl⟩
      · refine aw_iconst (v := 0) dX1_weigh_55 (by decide) ?_
        refine aw_goto (tgt := 63) dX1_weigh_56 (by decide) ?_
        refine aw_ireturn (ty := .int) dX1_weigh_63 rfl rfl ?_
        exact ⟨congrArg (fun z => some (Value.int z)) (by unfold k_weighR; first | exact (if_pos c43).symm | exact ((if_neg c43).trans (if_pos c52)).symm | exact ((if_neg c43).trans (if_neg c52)).symm), rfl⟩
    · refine aw_iconst (v := 1) dX1_weigh_46 (by decide) ?_
      refine aw_ireturn (ty := .int) dX1_weigh_47 rfl rfl ?_
      exact ⟨congrArg (fun z => some (Value.int z)) (by unfold k_weighR; first | exact (if_pos c43).symm | exact ((if_neg c43).trans (if_pos c52)).symm | exact ((if_neg c43).trans (if_neg c52)).symm), rfl⟩
  · refine aw_aload_n (i := 0) dX1_weigh_6 rfl rfl ?_
    refine ax_getK (ci := 1) 4 dX1_weigh_7 rfl lfX1_24 (by decide) (by assumption) (by rfl) ?_
    refine aw_iconst (v := 1) dX1_weigh_10 (by decide) ?_
    refine aw_iadd dX1_weigh_11 ?_
    refine aw_aload_n (i := 0) dX1_weigh_12 rfl rfl ?_
    refine ax_getK (ci := 1) 2 dX1_weigh_13 rfl lfX1_18 (by decide) (by assumption) (by rfl) ?_
    refine aw_mmin dX1_weigh_16 lmX1_46 (Nat.le_of_ble_eq_true rfl) ?_
    refine aw_goto (tgt := 32) dX1_weigh_19 (by decide) ?_
    first | refine aw_tE (k_sum g seen) (if_pos c3).symm ?_ | refine aw_tE (k_sum g seen) (if_neg c3).symm ?_
    refine ax_putK (ci := 1) 4 dX1_weigh_32 rfl lfX1_24 (by decide) (by assumption) (by rfl) rfl rfl ?_
    refine aw_aload_n (i := 0) dX1_weigh_35 rfl rfl ?_
    refine ax_getK (ci := 1) 4 dX1_weigh_36 rfl lfX1_24 (by decide) (by assumption) (by rfl) ?_
    refine aw_aload_n (i := 0) dX1_weigh_39 rfl rfl ?_
    refine ax_getK (ci := 1) 2 dX1_weigh_40 rfl lfX1_18 (by decide) (by assumption) (by rfl) ?_
    refine aw_icmp_ne (tgt := 48) dX1_weigh_43 (by decide) (fun c43 => ?_) (fun c43 => ?_)
    · refine aw_aload_n (i := 0) dX1_weigh_48 rfl rfl ?_
      refine ax_getK (ci := 1) 4 dX1_weigh_49 rfl lfX1_24 (by decide) (by assumption) (by rfl) ?_
      refine aw_if_ne (tgt := 59) dX1_weigh_52 (by decide) (fun c52 => ?_) (fun c52 => ?_)
      · refine aw_aload_n (i := 0) dX1_weigh_59 rfl rfl ?_
        refine ax_getK (ci := 1) 3 dX1_weigh_60 rfl lfX1_21 (by decide) (by assumption) (by rfl) ?_
        refine aw_ireturn (ty := .int) dX1_weigh_63 rfl rfl ?_
        exact ⟨congrArg (fun z => some (Value.int z)) (by unfold k_weighR; first | exact (if_pos c43).symm | exact ((if_neg c43).trans (if_pos c52)).symm | exact ((if_neg c43).trans (if_neg c52)).symm), rfl⟩
      · refine aw_iconst (v := 0) dX1_weigh_55 (by decide) ?_
        refine aw_goto (tgt := 63) dX1_weigh_56 (by decide) ?_
        refine aw_ireturn (ty := .int) dX1_weigh_63 rfl rfl ?_
        exact ⟨congrArg (fun z => some (Value.int z)) (by unfold k_weighR; first | exact (if_pos c43).symm | exact ((if_neg c43).trans (if_pos c52)).symm | exact ((if_neg c43).trans (if_neg c52)).symm), rfl⟩
    · refine aw_iconst (v := 1) dX1_weigh_46 (by decide) ?_
      refine aw_ireturn (ty := .int) dX1_weigh_47 rfl rfl ?_
      exact ⟨congrArg (fun z => some (Value.int z)) (by unfold k_weighR; first | exact (if_pos c43).symm | exact ((if_neg c43).trans (if_pos c52)).symm | exact ((if_neg c43).trans (if_neg c52)).symm), rfl⟩
def k_wants (g : Nat → Int32) : Int32 := if g 1 = 2 then 1 else g 2
def k_comp (g : Nat → Int32) (seen : Int32) : Nat → Int32 := if seen = g 3 then upd g 4 0 else if g 4 + 1 < k_wants g then upd g 4 (g 4 + 1) else upd (upd (upd g 4 (g 4 + 1)) 4 0) 5 (if g 1 = 0 then 0 else g 2)
def k_compR (g : Nat → Int32) (seen : Int32) : Int32 := if seen = g 3 then g 3 else if g 4 + 1 < k_wants g then g 3 else seen
set_option maxRecDepth 100000 in
set_option maxHeartbeats 4000000 in
theorem f_X1_compare {V : am_V} {d a : Nat} {f : Nat → Nat → Int32} {g : Nat → Int32} {τ : Nat → Nat → Int64} (ht : am_tab[a]? = some (.inl (1, [0, 0, 0, 0, 0, 0, 0, 0, 0]))) (seen : Int32) : AF V MX1_compare d [.ref a, .int seen] (upk f a g, τ) (some (.int (k_compR g seen))) (upk f a (k_comp g seen), τ) := by
  refine AM.of (L := [some (.ref a), some (.int seen), none]) (by decide +kernel) (Nat.le_of_ble_eq_true rfl) rfl ?_
  refine aw_iload_n (i := 1) dX1_compare_0 rfl rfl ?_
  refine aw_aload_n (i := 0) dX1_compare_1 rfl rfl ?_
  refine ax_getK (ci := 1) 3 dX1_compare_2 rfl lfX1_21 (by decide) (by assumption) (by rfl) ?_
  refine aw_icmp_ne (tgt := 18) dX1_compare_5 (by decide) (fun c5 => ?_) (fun c5 => ?_)
  · refine aw_aload_n (i := 0) dX1_compare_18 rfl rfl ?_
    refine aw_dup dX1_compare_19 rfl ?_
    refine ax_getK (ci := 1) 4 dX1_compare_20 rfl lfX1_24 (by decide) (by assumption) (by rfl) ?_
    refine aw_iconst (v := 1) dX1_compare_23 (by decide) ?_
    refine aw_iadd dX1_compare_24 ?_
    refine ax_putK (ci := 1) 4 dX1_compare_25 rfl lfX1_24 (by decide) (by assumption) (by rfl) rfl rfl ?_
    refine aw_aload_n (i := 0) dX1_compare_28 rfl rfl ?_
    refine ax_getK (ci := 1) 1 dX1_compare_29 rfl lfX1_15 (by decide) (by assumption) (by rfl) ?_
    refine aw_iconst (v := 2) dX1_compare_32 (by decide) ?_
    refine aw_icmp_ne (tgt := 40) dX1_compare_33 (by decide) (fun c33 => ?_) (fun c33 => ?_)
    · refine aw_aload_n (i := 0) dX1_compare_40 rfl rfl ?_
      refine ax_getK (ci := 1) 2 dX1_compare_41 rfl lfX1_18 (by decide) (by assumption) (by rfl) ?_
      first | refine aw_tE (k_wants g) (if_pos c33).symm ?_ | refine aw_tE (k_wants g) (if_neg c33).symm ?_
      refine aw_istore_n (i := 2) (L' := [_, _, _]) dX1_compare_44 rfl (Nat.le_of_ble_eq_true rfl) rfl rfl ?_
      refine aw_aload_n (i := 0) dX1_compare_45 rfl rfl ?_
      refine ax_getK (ci := 1) 4 dX1_compare_46 rfl lfX1_24 (by decide) (by assumption) (by rfl) ?_
      refine aw_iload_n (i := 2) dX1_compare_49 rfl rfl ?_
      refine aw_icmp_ge (tgt := 58) dX1_compare_50 (by decide) (fun c50 => ?_) (fun c50 => ?_)
      · refine aw_aload_n (i := 0) dX1_compare_58 rfl rfl ?_
        refine aw_iconst (v := 0) dX1_compare_59 (by decide) ?_
        refine ax_putK (ci := 1) 4 dX1_compare_60 rfl lfX1_24 (by decide) (by assumption) (by rfl) rfl rfl ?_
        refine aw_aload_n (i := 0) dX1_compare_63 rfl rfl ?_
        refine aw_aload_n (i := 0) dX1_compare_64 rfl rfl ?_
        refine ax_getK (ci := 1) 1 dX1_compare_65 rfl lfX1_15 (by decide) (by assumption) (by rfl) ?_
        refine aw_if_ne (tgt := 75) dX1_compare_68 (by decide) (fun c68 => ?_) (fun c68 => ?_)
        · refine aw_aload_n (i := 0) dX1_compare_75 rfl rfl ?_
          refine ax_getK (ci := 1) 2 dX1_compare_76 rfl lfX1_18 (by decide) (by assumption) (by rfl) ?_
          first | refine aw_tE (if g 1 = 0 then 0 else g 2) (if_pos c68).symm ?_ | refine aw_tE (if g 1 = 0 then 0 else g 2) (if_neg c68).symm ?_
          refine ax_putK (ci := 1) 5 dX1_compare_79 rfl lfX1_27 (by decide) (by assumption) (by rfl) rfl rfl ?_
          refine aw_iload_n (i := 1) dX1_compare_82 rfl rfl ?_
          refine aw_ireturn (ty := .int) dX1_compare_83 rfl rfl ?_
          exact ⟨congrArg (fun z => some (Value.int z)) (by unfold k_compR; first | exact ((if_neg c5).trans (if_neg (Int32.not_lt.mpr c50))).symm | exact ((if_neg c5).trans (if_pos (Int32.not_le.mp c50))).symm), congrArg (fun z => hp (upk f a z, τ)) (by unfold k_comp; first | exact ((if_neg c5).trans (if_pos (Int32.not_le.mp c50))).symm | exact ((if_neg c5).trans (if_neg (Int32.not_lt.mpr c50))).symm)⟩
        · refine aw_iconst (v := 0) dX1_compare_71 (by decide) ?_
          refine aw_goto (tgt := 79) dX1_compare_72 (by decide) ?_
          first | refine aw_tE (if g 1 = 0 then 0 else g 2) (if_pos c68).symm ?_ | refine aw_tE (if g 1 = 0 then 0 else g 2) (if_neg c68).symm ?_
          refine ax_putK (ci := 1) 5 dX1_compare_79 rfl lfX1_27 (by decide) (by assumption) (by rfl) rfl rfl ?_
          refine aw_iload_n (i := 1) dX1_compare_82 rfl rfl ?_
          refine aw_ireturn (ty := .int) dX1_compare_83 rfl rfl ?_
          exact ⟨congrArg (fun z => some (Value.int z)) (by unfold k_compR; first | exact ((if_neg c5).trans (if_neg (Int32.not_lt.mpr c50))).symm | exact ((if_neg c5).trans (if_pos (Int32.not_le.mp c50))).symm), congrArg (fun z => hp (upk f a z, τ)) (by unfold k_comp; first | exact ((if_neg c5).trans (if_pos (Int32.not_le.mp c50))).symm | exact ((if_neg c5).trans (if_neg (Int32.not_lt.mpr c50))).symm)⟩
      · refine aw_aload_n (i := 0) dX1_compare_53 rfl rfl ?_
        refine ax_getK (ci := 1) 3 dX1_compare_54 rfl lfX1_21 (by decide) (by assumption) (by rfl) ?_
        refine aw_ireturn (ty := .int) dX1_compare_57 rfl rfl ?_
        exact ⟨congrArg (fun z => some (Value.int z)) (by unfold k_compR; first | exact ((if_neg c5).trans (if_neg (Int32.not_lt.mpr c50))).symm | exact ((if_neg c5).trans (if_pos (Int32.not_le.mp c50))).symm), congrArg (fun z => hp (upk f a z, τ)) (by unfold k_comp; first | exact ((if_neg c5).trans (if_pos (Int32.not_le.mp c50))).symm | exact ((if_neg c5).trans (if_neg (Int32.not_lt.mpr c50))).symm)⟩
    · refine aw_iconst (v := 1) dX1_compare_36 (by decide) ?_
      refine aw_goto (tgt := 44) dX1_compare_37 (by decide) ?_
      first | refine aw_tE (k_wants g) (if_pos c33).symm ?_ | refine aw_tE (k_wants g) (if_neg c33).symm ?_
      refine aw_istore_n (i := 2) (L' := [_, _, _]) dX1_compare_44 rfl (Nat.le_of_ble_eq_true rfl) rfl rfl ?_
      refine aw_aload_n (i := 0) dX1_compare_45 rfl rfl ?_
      refine ax_getK (ci := 1) 4 dX1_compare_46 rfl lfX1_24 (by decide) (by assumption) (by rfl) ?_
      refine aw_iload_n (i := 2) dX1_compare_49 rfl rfl ?_
      refine aw_icmp_ge (tgt := 58) dX1_compare_50 (by decide) (fun c50 => ?_) (fun c50 => ?_)
      · refine aw_aload_n (i := 0) dX1_compare_58 rfl rfl ?_
        refine aw_iconst (v := 0) dX1_compare_59 (by decide) ?_
        refine ax_putK (ci := 1) 4 dX1_compare_60 rfl lfX1_24 (by decide) (by assumption) (by rfl) rfl rfl ?_
        refine aw_aload_n (i := 0) dX1_compare_63 rfl rfl ?_
        refine aw_aload_n (i := 0) dX1_compare_64 rfl rfl ?_
        refine ax_getK (ci := 1) 1 dX1_compare_65 rfl lfX1_15 (by decide) (by assumption) (by rfl) ?_
        refine aw_if_ne (tgt := 75) dX1_compare_68 (by decide) (fun c68 => ?_) (fun c68 => ?_)
        · refine aw_aload_n (i := 0) dX1_compare_75 rfl rfl ?_
          refine ax_getK (ci := 1) 2 dX1_compare_76 rfl lfX1_18 (by decide) (by assumption) (by rfl) ?_
          first | refine aw_tE (if g 1 = 0 then 0 else g 2) (if_pos c68).symm ?_ | refine aw_tE (if g 1 = 0 then 0 else g 2) (if_neg c68).symm ?_
          refine ax_putK (ci := 1) 5 dX1_compare_79 rfl lfX1_27 (by decide) (by assumption) (by rfl) rfl rfl ?_
          refine aw_iload_n (i := 1) dX1_compare_82 rfl rfl ?_
          refine aw_ireturn (ty := .int) dX1_compare_83 rfl rfl ?_
          exact ⟨congrArg (fun z => some (Value.int z)) (by unfold k_compR; first | exact ((if_neg c5).trans (if_neg (Int32.not_lt.mpr c50))).symm | exact ((if_neg c5).trans (if_pos (Int32.not_le.mp c50))).symm), congrArg (fun z => hp (upk f a z, τ)) (by unfold k_comp; first | exact ((if_neg c5).trans (if_pos (Int32.not_le.mp c50))).symm | exact ((if_neg c5).trans (if_neg (Int32.not_lt.mpr c50))).symm)⟩
        · refine aw_iconst (v := 0) dX1_compare_71 (by decide) ?_
          refine aw_goto (tgt := 79) dX1_compare_72 (by decide) ?_
          first | refine aw_tE (if g 1 = 0 then 0 else g 2) (if_pos c68).symm ?_ | refine aw_tE (if g 1 = 0 then 0 else g 2) (if_neg c68).symm ?_
          refine ax_putK (ci := 1) 5 dX1_compare_79 rfl lfX1_27 (by decide) (by assumption) (by rfl) rfl rfl ?_
          refine aw_iload_n (i := 1) dX1_compare_82 rfl rfl ?_
          refine aw_ireturn (ty := .int) dX1_compare_83 rfl rfl ?_
          exact ⟨congrArg (fun z => some (Value.int z)) (by unfold k_compR; first | exact ((if_neg c5).trans (if_neg (Int32.not_lt.mpr c50))).symm | exact ((if_neg c5).trans (if_pos (Int32.not_le.mp c50))).symm), congrArg (fun z => hp (upk f a z, τ)) (by unfold k_comp; first | exact ((if_neg c5).trans (if_pos (Int32.not_le.mp c50))).symm | exact ((if_neg c5).trans (if_neg (Int32.not_lt.mpr c50))).symm)⟩
      · refine aw_aload_n (i := 0) dX1_compare_53 rfl rfl ?_
        refine ax_getK (ci := 1) 3 dX1_compare_54 rfl lfX1_21 (by decide) (by assumption) (by rfl) ?_
        refine aw_ireturn (ty := .int) dX1_compare_57 rfl rfl ?_
        exact ⟨congrArg (fun z => some (Value.int z)) (by unfold k_compR; first | exact ((if_neg c5).trans (if_neg (Int32.not_lt.mpr c50))).symm | exact ((if_neg c5).trans (if_pos (Int32.not_le.mp c50))).symm), congrArg (fun z => hp (upk f a z, τ)) (by unfold k_comp; first | exact ((if_neg c5).trans (if_pos (Int32.not_le.mp c50))).symm | exact ((if_neg c5).trans (if_neg (Int32.not_lt.mpr c50))).symm)⟩
  · refine aw_aload_n (i := 0) dX1_compare_8 rfl rfl ?_
    refine aw_iconst (v := 0) dX1_compare_9 (by decide) ?_
    refine ax_putK (ci := 1) 4 dX1_compare_10 rfl lfX1_24 (by decide) (by assumption) (by rfl) rfl rfl ?_
    refine aw_aload_n (i := 0) dX1_compare_13 rfl rfl ?_
    refine ax_getK (ci := 1) 3 dX1_compare_14 rfl lfX1_21 (by decide) (by assumption) (by rfl) ?_
    refine aw_ireturn (ty := .int) dX1_compare_17 rfl rfl ?_
    exact ⟨congrArg (fun z => some (Value.int z)) (if_pos c5).symm, congrArg (fun z => hp (upk f a z, τ)) (if_pos c5).symm⟩
def k_say (g : Nat → Int32) (v : Int32) : Nat → Int32 := if v = g 3 then g else if v = 1 then upd (upd (upd (upd g 3 v) 8 (g 8 + 1)) 7 (g 7 + 1)) 6 (imin (g 6 + 1) 999) else upd (upd g 3 v) 8 (g 8 + 1)
set_option maxRecDepth 100000 in
set_option maxHeartbeats 4000000 in
theorem f_X1_say {V : am_V} {d a : Nat} {f : Nat → Nat → Int32} {g : Nat → Int32} {τ : Nat → Nat → Int64} (ht : am_tab[a]? = some (.inl (1, [0, 0, 0, 0, 0, 0, 0, 0, 0]))) (v : Int32) : AF V MX1_say (d + 1) [.ref a, .int v] (upk f a g, τ) none (upk f a (k_say g v), τ) := by
  refine AM.of (L := [some (.ref a), some (.int v)]) (by decide +kernel) (Nat.le_of_ble_eq_true rfl) rfl ?_
  refine aw_iload_n (i := 1) dX1_say_0 rfl rfl ?_
  refine aw_aload_n (i := 0) dX1_say_1 rfl rfl ?_
  refine ax_getK (ci := 1) 3 dX1_say_2 rfl lfX1_21 (by decide) (by assumption) (by rfl) ?_
  refine aw_icmp_ne (tgt := 9) dX1_say_5 (by decide) (fun c5 => ?_) (fun c5 => ?_)
  · refine aw_aload_n (i := 0) dX1_say_9 rfl rfl ?_
    refine aw_iload_n (i := 1) dX1_say_10 rfl rfl ?_
    refine ax_putK (ci := 1) 3 dX1_say_11 rfl lfX1_21 (by decide) (by assumption) (by rfl) rfl rfl ?_
    refine aw_aload_n (i := 0) dX1_say_14 rfl rfl ?_
    refine aw_dup dX1_say_15 rfl ?_
    refine ax_getK (ci := 1) 8 dX1_say_16 rfl lfX1_39 (by decide) (by assumption) (by rfl) ?_
    refine aw_iconst (v := 1) dX1_say_19 (by decide) ?_
    refine aw_iadd dX1_say_20 ?_
    refine ax_putK (ci := 1) 8 dX1_say_21 rfl lfX1_39 (by decide) (by assumption) (by rfl) rfl rfl ?_
    refine aw_iload_n (i := 1) dX1_say_24 rfl rfl ?_
    refine aw_iconst (v := 1) dX1_say_25 (by decide) ?_
    refine aw_icmp_ne (tgt := 55) dX1_say_26 (by decide) (fun c26 => ?_) (fun c26 => ?_)
    · refine aw_return dX1_say_55 rfl ?_
      exact ⟨rfl, congrArg (fun z => hp (upk f a z, τ)) (by unfold k_say; first | exact (if_pos c5).symm | exact ((if_neg c5).trans (if_pos c26)).symm | exact ((if_neg c5).trans (if_neg c26)).symm)⟩
    · refine aw_aload_n (i := 0) dX1_say_29 rfl rfl ?_
      refine aw_dup dX1_say_30 rfl ?_
      refine ax_getK (ci := 1) 7 dX1_say_31 rfl lfX1_36 (by decide) (by assumption) (by rfl) ?_
      refine aw_iconst (v := 1) dX1_say_34 (by decide) ?_
      refine aw_iadd dX1_say_35 ?_
      refine ax_putK (ci := 1) 7 dX1_say_36 rfl lfX1_36 (by decide) (by assumption) (by rfl) rfl rfl ?_
      refine aw_aload_n (i := 0) dX1_say_39 rfl rfl ?_
      refine aw_aload_n (i := 0) dX1_say_40 rfl rfl ?_
      refine ax_getK (ci := 1) 6 dX1_say_41 rfl lfX1_30 (by decide) (by assumption) (by rfl) ?_
      refine aw_iconst (v := 1) dX1_say_44 (by decide) ?_
      refine aw_iadd dX1_say_45 ?_
      refine aw_sipush (v := 999) dX1_say_46 (by decide) ?_
      refine aw_mmin dX1_say_49 lmX1_46 (Nat.le_of_ble_eq_true rfl) ?_
      refine ax_putK (ci := 1) 6 dX1_say_52 rfl lfX1_30 (by decide) (by assumption) (by rfl) rfl rfl ?_
      refine aw_return dX1_say_55 rfl ?_
      exact ⟨rfl, congrArg (fun z => hp (upk f a z, τ)) (by unfold k_say; first | exact (if_pos c5).symm | exact ((if_neg c5).trans (if_pos c26)).symm | exact ((if_neg c5).trans (if_neg c26)).symm)⟩
  · refine aw_return dX1_say_8 rfl ?_
    exact ⟨rfl, congrArg (fun z => hp (upk f a z, τ)) (by unfold k_say; first | exact (if_pos c5).symm | exact ((if_neg c5).trans (if_pos c26)).symm | exact ((if_neg c5).trans (if_neg c26)).symm)⟩
def k_look (g : Nat → Int32) (seen : Int32) : Nat → Int32 := if 0 < g 5 then upd g 5 (g 5 - 1) else if g 1 = 1 then k_say (k_weigh g seen) (k_weighR g seen) else k_say (k_comp g seen) (k_compR g seen)
set_option maxRecDepth 100000 in
set_option maxHeartbeats 4000000 in
theorem f_X1_look {V : am_V} {d a : Nat} {f : Nat → Nat → Int32} {g : Nat → Int32} {τ : Nat → Nat → Int64} (ht : am_tab[a]? = some (.inl (1, [0, 0, 0, 0, 0, 0, 0, 0, 0]))) (seen : Int32) : AF V MX1_look (d + 2) [.ref a, .int seen] (upk f a g, τ) none (upk f a (k_look g seen), τ) := by
  refine AM.of (L := [some (.ref a), some (.int seen)]) (by decide +kernel) (Nat.le_of_ble_eq_true rfl) rfl ?_
  refine aw_aload_n (i := 0) dX1_look_0 rfl rfl ?_
  refine ax_getK (ci := 1) 5 dX1_look_1 rfl lfX1_27 (by decide) (by assumption) (by rfl) ?_
  refine aw_if_le (tgt := 20) dX1_look_4 (by decide) (fun c4 => ?_) (fun c4 => ?_)
  · refine aw_aload_n (i := 0) dX1_look_20 rfl rfl ?_
    refine aw_aload_n (i := 0) dX1_look_21 rfl rfl ?_
    refine ax_getK (ci := 1) 1 dX1_look_22 rfl lfX1_15 (by decide) (by assumption) (by rfl) ?_
    refine aw_iconst (v := 1) dX1_look_25 (by decide) ?_
    refine aw_icmp_ne (tgt := 37) dX1_look_26 (by decide) (fun c26 => ?_) (fun c26 => ?_)
    · refine aw_aload_n (i := 0) dX1_look_37 rfl rfl ?_
      refine aw_iload_n (i := 1) dX1_look_38 rfl rfl ?_
      refine ax_callV1i (M' := MX1_compare) (ci := 1) dX1_look_39 lmX1_56 oX1_compare (by decide +kernel) (by assumption) rfl rfl (Nat.le_of_ble_eq_true rfl) (f_X1_compare ht _) ?_
      refine ax_callV1v (M' := MX1_say) (ci := 1) dX1_look_42 lmX1_59 oX1_say (by decide +kernel) (by assumption) rfl rfl (Nat.le_of_ble_eq_true rfl) (f_X1_say ht _) ?_
      refine aw_return dX1_look_45 rfl ?_
      exact ⟨rfl, congrArg (fun z => hp (upk f a z, τ)) (by unfold k_look; first | exact (if_pos (Int32.not_le.mp c4)).symm | exact ((if_neg (Int32.not_lt.mpr c4)).trans (if_pos c26)).symm | exact ((if_neg (Int32.not_lt.mpr c4)).trans (if_neg c26)).symm)⟩
    · refine aw_aload_n (i := 0) dX1_look_29 rfl rfl ?_
      refine aw_iload_n (i := 1) dX1_look_30 rfl rfl ?_
      refine ax_callV1i (M' := MX1_weigh) (ci := 1) dX1_look_31 lmX1_52 oX1_weigh (by decide +kernel) (by assumption) rfl rfl (Nat.le_of_ble_eq_true rfl) (f_X1_weigh ht _) ?_
      refine aw_goto (tgt := 42) dX1_look_34 (by decide) ?_
      refine ax_callV1v (M' := MX1_say) (ci := 1) dX1_look_42 lmX1_59 oX1_say (by decide +kernel) (by assumption) rfl rfl (Nat.le_of_ble_eq_true rfl) (f_X1_say ht _) ?_
      refine aw_return dX1_look_45 rfl ?_
      exact ⟨rfl, congrArg (fun z => hp (upk f a z, τ)) (by unfold k_look; first | exact (if_pos (Int32.not_le.mp c4)).symm | exact ((if_neg (Int32.not_lt.mpr c4)).trans (if_pos c26)).symm | exact ((if_neg (Int32.not_lt.mpr c4)).trans (if_neg c26)).symm)⟩
  · refine aw_aload_n (i := 0) dX1_look_7 rfl rfl ?_
    refine aw_dup dX1_look_8 rfl ?_
    refine ax_getK (ci := 1) 5 dX1_look_9 rfl lfX1_27 (by decide) (by assumption) (by rfl) ?_
    refine aw_iconst (v := 1) dX1_look_12 (by decide) ?_
    refine aw_isub dX1_look_13 ?_
    refine ax_putK (ci := 1) 5 dX1_look_14 rfl lfX1_27 (by decide) (by assumption) (by rfl) rfl rfl ?_
    refine aw_goto (tgt := 45) dX1_look_17 (by decide) ?_
    refine aw_return dX1_look_45 rfl ?_
    exact ⟨rfl, congrArg (fun z => hp (upk f a z, τ)) (by unfold k_look; first | exact (if_pos (Int32.not_le.mp c4)).symm | exact ((if_neg (Int32.not_lt.mpr c4)).trans (if_pos c26)).symm | exact ((if_neg (Int32.not_lt.mpr c4)).trans (if_neg c26)).symm)⟩
