def rqG (g : Nat → Int32) (c : Int32) : Nat → Int32 := if g 12 = 0 then upd (upd g 12 c) 13 (g 9) else g
/-- the token at q was read by the model -/
def MT (ch : Nat → Int32) (g : Nat → Int32) (q : Nat) : Prop := (zk ch q = 4 → g 12 = 1 ∧ g 13 = nI q) ∧ (zk ch q ≠ 4 → g 12 = 0 ∧ g 10 = nI (zk ch q) ∧ g 9 = nI q ∧ g 8 = nI (zr ch q) ∧ (zk ch q = 2 → g 11 = zv ch q))
def mEq (g' g : Nat → Int32) : Prop := ∀ j, (j < 8 ∨ 14 ≤ j) → g' j = g j
theorem mEq.up {g' g : Nat → Int32} (h : mEq g' g) {k : Nat} (hk : 8 ≤ k ∧ k < 14) (x : Int32) : mEq (upd g' k x) g := fun j hj => (upd_ne (by omega)).trans (h j hj)
theorem mEq.rf {g : Nat → Int32} : mEq g g := fun _ _ => rfl
theorem mEq.tr {a b c : Nat → Int32} (h : mEq a b) (h' : mEq b c) : mEq a c := fun j hj => (h j hj).trans (h' j hj)
theorem rqG_e (g : Nat → Int32) (c : Int32) : mEq (rqG g c) g := by
  unfold rqG
  split
  · exact (mEq.rf.up (by omega) _).up (by omega) _
  · exact mEq.rf
theorem rqG_f {g : Nat → Int32} {c : Int32} (h : ¬ g 12 = 0) : rqG g c = g := if_neg h
theorem rqG_t {g : Nat → Int32} {c : Int32} (h : g 12 = 0) : rqG g c = upd (upd g 12 c) 13 (g 9) := if_pos h
set_option maxRecDepth 100000 in
set_option maxHeartbeats 1000000 in
theorem f_req1 {V : am_V} {d : Nat} {f : Nat → Nat → Int32} {g : Nat → Int32} {τ : Nat → Nat → Int64} (c : Int32) : AF V MX5_requires d [.ref 64, .int 1, .int c] (upk f 64 g, τ) none (upk f 64 g, τ) := by
  have tM := tb_M
  have t68 := tb_68
  have t69 := tb_69
  refine AM.of (L := [some (.ref 64), some (.int 1), some (.int c)]) (by decide +kernel) (Nat.le_of_ble_eq_true rfl) rfl ?_
  refine aw_iload_n (i := 1) dX5_requires_0 rfl rfl ?_
  refine aw_if_ne (tgt := 24) dX5_requires_1 (by decide) (fun c1 => ?_) (fun c1 => ?_)
  · refine aw_return dX5_requires_24 rfl ?_
    exact ⟨rfl, rfl⟩
  · exact absurd c1 (by decide)
set_option maxRecDepth 100000 in
set_option maxHeartbeats 1000000 in
theorem f_req0 {V : am_V} {d : Nat} {f : Nat → Nat → Int32} {g : Nat → Int32} {τ : Nat → Nat → Int64} (c : Int32) : AF V MX5_requires d [.ref 64, .int 0, .int c] (upk f 64 g, τ) none (upk f 64 (rqG g c), τ) := by
  have tM := tb_M
  have t68 := tb_68
  have t69 := tb_69
  refine AM.of (L := [some (.ref 64), some (.int 0), some (.int c)]) (by decide +kernel) (Nat.le_of_ble_eq_true rfl) rfl ?_
  refine aw_iload_n (i := 1) dX5_requires_0 rfl rfl ?_
  refine aw_if_ne (tgt := 24) dX5_requires_1 (by decide) (fun c1 => ?_) (fun c1 => ?_)
  · exact absurd rfl c1
  · refine aw_aload_n (i := 0) dX5_requires_4 rfl rfl ?_
    refine ax_getK (ci := 5) 12 dX5_requires_5 rfl lfX5_70 (by decide) (by assumption) (by rfl) ?_
    refine aw_if_ne (tgt := 24) dX5_requires_8 (by decide) (fun c8 => ?_) (fun c8 => ?_)
    · refine aw_return dX5_requires_24 rfl ?_
      exact ⟨rfl, congrArg (fun z => hp (upk f 64 z, τ)) (by unfold rqG; first | exact (if_pos c8).symm | exact (if_neg c8).symm)⟩
    · refine aw_aload_n (i := 0) dX5_requires_11 rfl rfl ?_
      refine aw_iload_n (i := 2) dX5_requires_12 rfl rfl ?_
      refine ax_putK (ci := 5) 12 dX5_requires_13 rfl lfX5_70 (by decide) (by assumption) (by rfl) rfl rfl ?_
      refine aw_aload_n (i := 0) dX5_requires_16 rfl rfl ?_
      refine aw_aload_n (i := 0) dX5_requires_17 rfl rfl ?_
      refine ax_getK (ci := 5) 9 dX5_requires_18 rfl lfX5_73 (by decide) (by assumption) (by rfl) ?_
      refine ax_putK (ci := 5) 13 dX5_requires_21 rfl lfX5_76 (by decide) (by assumption) (by rfl) rfl rfl ?_
      refine aw_return dX5_requires_24 rfl ?_
      exact ⟨rfl, congrArg (fun z => hp (upk f 64 z, τ)) (by unfold rqG; first | exact (if_pos c8).symm | exact (if_neg c8).symm)⟩
theorem f_requires {V : am_V} {d : Nat} {f : Nat → Nat → Int32} {g : Nat → Int32} {τ : Nat → Nat → Int64} (P : Prop) [Decidable P] (c : Int32) : AF V MX5_requires d [.ref 64, .int (b2i P), .int c] (upk f 64 g, τ) none (upk f 64 (if P then g else rqG g c), τ) := by
  by_cases h : P
  · rw [b2i_t h, if_pos h]; exact f_req1 c
  · rw [b2i_f h, if_neg h]; exact f_req0 c
set_option maxRecDepth 100000 in
set_option maxHeartbeats 1000000 in
theorem f_byteAt {V : am_V} {d L : Nat} {f : Nat → Nat → Int32} {g ch : Nat → Int32} {τ : Nat → Nat → Int64} (hT : tpOK f 69 L ch) (h7 : g 7 = nI L) {q : Nat} (hq : q < 2 ^ 30) : AF V MX5_byteAt d [.ref 64, .int (nI q)] (upk f 64 g, τ) (some (.int (ch q))) (upk f 64 g, τ) := by
  have tM := tb_M
  have t68 := tb_68
  have t69 := tb_69
  have hL := hT.1
  refine AM.of (L := [some (.ref 64), some (.int (nI q))]) (by decide +kernel) (Nat.le_of_ble_eq_true rfl) rfl ?_
  refine aw_iload_n (i := 1) dX5_byteAt_0 rfl rfl ?_
  refine aw_aload_n (i := 0) dX5_byteAt_1 rfl rfl ?_
  refine ax_getK (ci := 5) 7 dX5_byteAt_2 rfl lfX5_67 (by decide) (by assumption) (by rfl) ?_
  refine aw_tE (nI L) h7 ?_
  refine aw_icmp_ge (tgt := 17) dX5_byteAt_5 (by decide) (fun c5 => ?_) (fun c5 => ?_)
  · refine aw_iconst (v := -1) dX5_byteAt_17 (by decide) ?_
    first | refine aw_tE (ch q) (by rw [upk_ne (by omega)]; exact (hT.2.1 q hqL).1) ?_ | refine aw_tE (ch q) (hT.2.2 q ((nI_leI (by omega) (by omega)).mp c5)).symm ?_
    refine aw_ireturn (ty := .int) dX5_byteAt_18 rfl rfl ?_
    exact ⟨rfl, rfl⟩
  · have hqL : q < L := Nat.lt_of_not_le fun z => c5 ((nI_leI (by omega) (by omega)).mpr z)
    refine aw_aload_n (i := 0) dX5_byteAt_8 rfl rfl ?_
    refine ax_getr (ci := 5) 6 dX5_byteAt_9 rfl lfX5_23 (by decide) (by assumption) (by rfl) ?_
    refine aw_iload_n (i := 1) dX5_byteAt_12 rfl rfl ?_
    refine ax_ialdN dX5_byteAt_13 (by assumption) (by omega) (Nat.le_of_ble_eq_true rfl) ?_
    refine aw_goto (tgt := 18) dX5_byteAt_14 (by decide) ?_
    first | refine aw_tE (ch q) (by rw [upk_ne (by omega)]; exact (hT.2.1 q hqL).1) ?_ | refine aw_tE (ch q) (hT.2.2 q ((nI_leI (by omega) (by omega)).mp c5)).symm ?_
    refine aw_ireturn (ty := .int) dX5_byteAt_18 rfl rfl ?_
    exact ⟨rfl, rfl⟩
set_option maxRecDepth 100000 in
set_option maxHeartbeats 1000000 in
theorem f_is {V : am_V} {d L : Nat} {f : Nat → Nat → Int32} {g ch : Nat → Int32} {τ : Nat → Nat → Int64} (hT : tpOK f 69 L ch) (h7 : g 7 = nI L) {q r : Nat} (hqr : q ≤ r) (hr : r ≤ L) (h8 : g 8 = nI r) (h9 : g 9 = nI q) (n0 a0 a1 a2 : Int32) : AF V MX5_is (d + 1) [.ref 64, .int n0, .int a0, .int a1, .int a2] (upk f 64 g, τ) (some (.int (b2i (nI (r - q) = n0 ∧ ch q = a0 ∧ ch (q + 1) = a1 ∧ ch (q + 2) = a2)))) (upk f 64 g, τ) := by
  have tM := tb_M
  have t68 := tb_68
  have t69 := tb_69
  have hL := hT.1
  refine AM.of (L := [some (.ref 64), some (.int n0), some (.int a0), some (.int a1), some (.int a2)]) (by decide +kernel) (Nat.le_of_ble_eq_true rfl) rfl ?_
  refine aw_aload_n (i := 0) dX5_is_0 rfl rfl ?_
  refine ax_getK (ci := 5) 8 dX5_is_1 rfl lfX5_79 (by decide) (by assumption) (by rfl) ?_
  refine aw_tE (nI r) h8 ?_
  refine aw_aload_n (i := 0) dX5_is_4 rfl rfl ?_
  refine ax_getK (ci := 5) 9 dX5_is_5 rfl lfX5_73 (by decide) (by assumption) (by rfl) ?_
  refine aw_tE (nI q) h9 ?_
  refine aw_isub dX5_is_8 ?_
  refine aw_tE (nI (r - q)) (pk_sub hqr) ?_
  refine aw_iload_n (i := 1) dX5_is_9 rfl rfl ?_
  refine aw_icmp_ne (tgt := 58) dX5_is_10 (by decide) (fun c10 => ?_) (fun c10 => ?_)
  · refine aw_iconst (v := 0) dX5_is_58 (by decide) ?_
    refine aw_ireturn (ty := .boolean) dX5_is_59 rfl (by decide) ?_
    refine ⟨congrArg (fun z => some (Value.int z)) (Eq.symm ?_), rfl⟩
    first
      | exact b2i_f (fun z => c10 z.1)
      | exact b2i_f (fun z => c22 z.2.1)
      | exact b2i_f (fun z => c36 z.2.2.1)
      | exact b2i_f (fun z => c51 z.2.2.2)
      | exact b2i_t ⟨c10, c22, c36, c51⟩
  · refine aw_aload_n (i := 0) dX5_is_13 rfl rfl ?_
    refine aw_aload_n (i := 0) dX5_is_14 rfl rfl ?_
    refine ax_getK (ci := 5) 9 dX5_is_15 rfl lfX5_73 (by decide) (by assumption) (by rfl) ?_
    refine aw_tE (nI q) h9 ?_
    refine ax_callV1i (M' := MX5_byteAt) (ci := 5) dX5_is_18 lmX5_82 oX5_byteAt (by decide +kernel) (by assumption) rfl rfl (Nat.le_of_ble_eq_true rfl) (f_byteAt hT h7 (by omega)) ?_
    refine aw_iload_n (i := 2) dX5_is_21 rfl rfl ?_
    refine aw_icmp_ne (tgt := 58) dX5_is_22 (by decide) (fun c22 => ?_) (fun c22 => ?_)
    · refine aw_iconst (v := 0) dX5_is_58 (by decide) ?_
      refine aw_ireturn (ty := .boolean) dX5_is_59 rfl (by decide) ?_
      refine ⟨congrArg (fun z => some (Value.int z)) (Eq.symm ?_), rfl⟩
      first
        | exact b2i_f (fun z => c10 z.1)
        | exact b2i_f (fun z => c22 z.2.1)
        | exact b2i_f (fun z => c36 z.2.2.1)
        | exact b2i_f (fun z => c51 z.2.2.2)
        | exact b2i_t ⟨c10, c22, c36, c51⟩
    · refine aw_aload_n (i := 0) dX5_is_25 rfl rfl ?_
      refine aw_aload_n (i := 0) dX5_is_26 rfl rfl ?_
      refine ax_getK (ci := 5) 9 dX5_is_27 rfl lfX5_73 (by decide) (by assumption) (by rfl) ?_
      refine aw_tE (nI q) h9 ?_
      refine aw_iconst (v := 1) dX5_is_30 (by decide) ?_
      refine aw_iadd dX5_is_31 ?_
      refine aw_tE (nI (q + 1)) (nI_1 q) ?_
      refine ax_callV1i (M' := MX5_byteAt) (ci := 5) dX5_is_32 lmX5_82 oX5_byteAt (by decide +kernel) (by assumption) rfl rfl (Nat.le_of_ble_eq_true rfl) (f_byteAt hT h7 (by omega)) ?_
      refine aw_iload_n (i := 3) dX5_is_35 rfl rfl ?_
      refine aw_icmp_ne (tgt := 58) dX5_is_36 (by decide) (fun c36 => ?_) (fun c36 => ?_)
      · refine aw_iconst (v := 0) dX5_is_58 (by decide) ?_
        refine aw_ireturn (ty := .boolean) dX5_is_59 rfl (by decide) ?_
        refine ⟨congrArg (fun z => some (Value.int z)) (Eq.symm ?_), rfl⟩
        first
          | exact b2i_f (fun z => c10 z.1)
          | exact b2i_f (fun z => c22 z.2.1)
          | exact b2i_f (fun z => c36 z.2.2.1)
          | exact b2i_f (fun z => c51 z.2.2.2)
          | exact b2i_t ⟨c10, c22, c36, c51⟩
      · refine aw_aload_n (i := 0) dX5_is_39 rfl rfl ?_
        refine aw_aload_n (i := 0) dX5_is_40 rfl rfl ?_
        refine ax_getK (ci := 5) 9 dX5_is_41 rfl lfX5_73 (by decide) (by assumption) (by rfl) ?_
        refine aw_tE (nI q) h9 ?_
        refine aw_iconst (v := 2) dX5_is_44 (by decide) ?_
        refine aw_iadd dX5_is_45 ?_
        refine aw_tE (nI (q + 2)) (nI_add q 2) ?_
        refine ax_callV1i (M' := MX5_byteAt) (ci := 5) dX5_is_46 lmX5_82 oX5_byteAt (by decide +kernel) (by assumption) rfl rfl (Nat.le_of_ble_eq_true rfl) (f_byteAt hT h7 (by omega)) ?_
        refine aw_iload dX5_is_49 rfl ?_
        refine aw_icmp_ne (tgt := 58) dX5_is_51 (by decide) (fun c51 => ?_) (fun c51 => ?_)
        · refine aw_iconst (v := 0) dX5_is_58 (by decide) ?_
          refine aw_ireturn (ty := .boolean) dX5_is_59 rfl (by decide) ?_
          refine ⟨congrArg (fun z => some (Value.int z)) (Eq.symm ?_), rfl⟩
          first
            | exact b2i_f (fun z => c10 z.1)
            | exact b2i_f (fun z => c22 z.2.1)
            | exact b2i_f (fun z => c36 z.2.2.1)
            | exact b2i_f (fun z => c51 z.2.2.2)
            | exact b2i_t ⟨c10, c22, c36, c51⟩
        · refine aw_iconst (v := 1) dX5_is_54 (by decide) ?_
          refine aw_goto (tgt := 59) dX5_is_55 (by decide) ?_
          refine aw_ireturn (ty := .boolean) dX5_is_59 rfl (by decide) ?_
          refine ⟨congrArg (fun z => some (Value.int z)) (Eq.symm ?_), rfl⟩
          first
            | exact b2i_f (fun z => c10 z.1)
            | exact b2i_f (fun z => c22 z.2.1)
            | exact b2i_f (fun z => c36 z.2.2.1)
            | exact b2i_f (fun z => c51 z.2.2.2)
            | exact b2i_t ⟨c10, c22, c36, c51⟩
set_option maxRecDepth 100000 in
set_option maxHeartbeats 1000000 in
theorem f_endsIn {V : am_V} {d L : Nat} {f : Nat → Nat → Int32} {g ch : Nat → Int32} {τ : Nat → Nat → Int64} (hT : tpOK f 69 L ch) (h7 : g 7 = nI L) {q r : Nat} (hqr : q ≤ r) (hr : r ≤ L) (h8 : g 8 = nI r) (h9 : g 9 = nI q) (a3 a4 : Int32) : AF V MX5_endsIn (d + 1) [.ref 64, .int a3, .int a4] (upk f 64 g, τ) (some (.int (b2i (ch (q + 3) = a3 ∧ (a4 = 0 ∨ ch (q + 4) = a4))))) (upk f 64 g, τ) := by
  have tM := tb_M
  have t68 := tb_68
  have t69 := tb_69
  have hL := hT.1
  refine AM.of (L := [some (.ref 64), some (.int a3), some (.int a4)]) (by decide +kernel) (Nat.le_of_ble_eq_true rfl) rfl ?_
  refine aw_aload_n (i := 0) dX5_endsIn_0 rfl rfl ?_
  refine aw_aload_n (i := 0) dX5_endsIn_1 rfl rfl ?_
  refine ax_getK (ci := 5) 9 dX5_endsIn_2 rfl lfX5_73 (by decide) (by assumption) (by rfl) ?_
  refine aw_tE (nI q) h9 ?_
  refine aw_iconst (v := 3) dX5_endsIn_5 (by decide) ?_
  refine aw_iadd dX5_endsIn_6 ?_
  refine aw_tE (nI (q + 3)) (nI_add q 3) ?_
  refine ax_callV1i (M' := MX5_byteAt) (ci := 5) dX5_endsIn_7 lmX5_82 oX5_byteAt (by decide +kernel) (by assumption) rfl rfl (Nat.le_of_ble_eq_true rfl) (f_byteAt hT h7 (by omega)) ?_
  refine aw_iload_n (i := 1) dX5_endsIn_10 rfl rfl ?_
  refine aw_icmp_ne (tgt := 36) dX5_endsIn_11 (by decide) (fun c11 => ?_) (fun c11 => ?_)
  · refine aw_iconst (v := 0) dX5_endsIn_36 (by decide) ?_
    refine aw_ireturn (ty := .boolean) dX5_endsIn_37 rfl (by decide) ?_
    refine ⟨congrArg (fun z => some (Value.int z)) (Eq.symm ?_), rfl⟩
    first
      | exact b2i_f (fun z => c11 z.1)
      | exact b2i_t ⟨c11, Or.inl c15⟩
      | exact b2i_f (fun z => z.2.elim c15 c29)
      | exact b2i_t ⟨c11, Or.inr c29⟩
  · refine aw_iload_n (i := 2) dX5_endsIn_14 rfl rfl ?_
    refine aw_if_eq (tgt := 32) dX5_endsIn_15 (by decide) (fun c15 => ?_) (fun c15 => ?_)
    · refine aw_iconst (v := 1) dX5_endsIn_32 (by decide) ?_
      refine aw_goto (tgt := 37) dX5_endsIn_33 (by decide) ?_
      refine aw_ireturn (ty := .boolean) dX5_endsIn_37 rfl (by decide) ?_
      refine ⟨congrArg (fun z => some (Value.int z)) (Eq.symm ?_), rfl⟩
      first
        | exact b2i_f (fun z => c11 z.1)
        | exact b2i_t ⟨c11, Or.inl c15⟩
        | exact b2i_f (fun z => z.2.elim c15 c29)
        | exact b2i_t ⟨c11, Or.inr c29⟩
    · refine aw_aload_n (i := 0) dX5_endsIn_18 rfl rfl ?_
      refine aw_aload_n (i := 0) dX5_endsIn_19 rfl rfl ?_
      refine ax_getK (ci := 5) 9 dX5_endsIn_20 rfl lfX5_73 (by decide) (by assumption) (by rfl) ?_
      refine aw_tE (nI q) h9 ?_
      refine aw_iconst (v := 4) dX5_endsIn_23 (by decide) ?_
      refine aw_iadd dX5_endsIn_24 ?_
      refine aw_tE (nI (q + 4)) (nI_add q 4) ?_
      refine ax_callV1i (M' := MX5_byteAt) (ci := 5) dX5_endsIn_25 lmX5_82 oX5_byteAt (by decide +kernel) (by assumption) rfl rfl (Nat.le_of_ble_eq_true rfl) (f_byteAt hT h7 (by omega)) ?_
      refine aw_iload_n (i := 2) dX5_endsIn_28 rfl rfl ?_
      refine aw_icmp_ne (tgt := 36) dX5_endsIn_29 (by decide) (fun c29 => ?_) (fun c29 => ?_)
      · refine aw_iconst (v := 0) dX5_endsIn_36 (by decide) ?_
        refine aw_ireturn (ty := .boolean) dX5_endsIn_37 rfl (by decide) ?_
        refine ⟨congrArg (fun z => some (Value.int z)) (Eq.symm ?_), rfl⟩
        first
          | exact b2i_f (fun z => c11 z.1)
          | exact b2i_t ⟨c11, Or.inl c15⟩
          | exact b2i_f (fun z => z.2.elim c15 c29)
          | exact b2i_t ⟨c11, Or.inr c29⟩
      · refine aw_iconst (v := 1) dX5_endsIn_32 (by decide) ?_
        refine aw_goto (tgt := 37) dX5_endsIn_33 (by decide) ?_
        refine aw_ireturn (ty := .boolean) dX5_endsIn_37 rfl (by decide) ?_
        refine ⟨congrArg (fun z => some (Value.int z)) (Eq.symm ?_), rfl⟩
        first
          | exact b2i_f (fun z => c11 z.1)
          | exact b2i_t ⟨c11, Or.inl c15⟩
          | exact b2i_f (fun z => z.2.elim c15 c29)
          | exact b2i_t ⟨c11, Or.inr c29⟩
theorem nm_iff {ch : Nat → Int32} {q r : Nat} (hqr : q ≤ r) (hr : r < 2 ^ 30) : 
    (nmE ch q r 0 ↔ (nI (r - q) = 5 ∧ ch q = 97 ∧ ch (q + 1) = 108 ∧ ch (q + 2) = 105) ∧ (ch (q + 3) = 107 ∧ ((101 : Int32) = 0 ∨ ch (q + 4) = 101))) ∧
    (nmE ch q r 1 ↔ (nI (r - q) = 5 ∧ ch q = 115 ∧ ch (q + 1) = 99 ∧ ch (q + 2) = 97) ∧ (ch (q + 3) = 108 ∧ ((101 : Int32) = 0 ∨ ch (q + 4) = 101))) ∧
    (nmE ch q r 2 ↔ (nI (r - q) = 4 ∧ ch q = 115 ∧ ch (q + 1) = 104 ∧ ch (q + 2) = 117) ∧ (ch (q + 3) = 116 ∧ ((0 : Int32) = 0 ∨ ch (q + 4) = 0))) ∧
    (nmE ch q r 3 ↔ (nI (r - q) = 4 ∧ ch q = 98 ∧ ch (q + 1) = 111 ∧ ch (q + 2) = 116) ∧ (ch (q + 3) = 104 ∧ ((0 : Int32) = 0 ∨ ch (q + 4) = 0))) ∧
    (nmE ch q r 4 ↔ (nI (r - q) = 5 ∧ ch q = 112 ∧ ch (q + 1) = 114 ∧ ch (q + 2) = 101) ∧ (ch (q + 3) = 115 ∧ ((115 : Int32) = 0 ∨ ch (q + 4) = 115))) ∧
    (nmE ch q r 5 ↔ (nI (r - q) = 5 ∧ ch q = 101 ∧ ch (q + 1) = 118 ∧ ch (q + 2) = 101) ∧ (ch (q + 3) = 114 ∧ ((121 : Int32) = 0 ∨ ch (q + 4) = 121))) := by
  have e5 : nI (r - q) = 5 ↔ r - q = 5 := nI_eq (b := 5) (by omega) (by omega)
  have e4 : nI (r - q) = 4 ↔ r - q = 4 := nI_eq (b := 4) (by omega) (by omega)
  have five : ∀ (i : Nat) (a b c x y : Int32), am_txL.getD i 0 = 5 → am_txB.getD i [] = [a, b, c, x, y] → ¬ y = 0 → (nmE ch q r i ↔ (nI (r - q) = 5 ∧ ch q = a ∧ ch (q + 1) = b ∧ ch (q + 2) = c) ∧ (ch (q + 3) = x ∧ (y = 0 ∨ ch (q + 4) = y))) := by
    intro i a b c x y h1 h2 h3
    unfold nmE
    rw [h1, h2, e5]
    constructor
    · rintro ⟨z, h⟩
      exact ⟨⟨z, h 0 (by omega), h 1 (by omega), h 2 (by omega)⟩, h 3 (by omega), Or.inr (h 4 (by omega))⟩
    · rintro ⟨⟨z, g0, g1, g2⟩, g3, g4⟩
      refine ⟨z, fun j hj => ?_⟩
      rcases (show j = 0 ∨ j = 1 ∨ j = 2 ∨ j = 3 ∨ j = 4 by omega) with rfl | rfl | rfl | rfl | rfl
      · exact g0
      · exact g1
      · exact g2
      · exact g3
      · exact g4.resolve_left h3
  have four : ∀ (i : Nat) (a b c x : Int32), am_txL.getD i 0 = 4 → am_txB.getD i [] = [a, b, c, x] → (nmE ch q r i ↔ (nI (r - q) = 4 ∧ ch q = a ∧ ch (q + 1) = b ∧ ch (q + 2) = c) ∧ (ch (q + 3) = x ∧ ((0 : Int32) = 0 ∨ ch (q + 4) = 0))) := by
    intro i a b c x h1 h2
    unfold nmE
    rw [h1, h2, e4]
    constructor
    · rintro ⟨z, h⟩
      exact ⟨⟨z, h 0 (by omega), h 1 (by omega), h 2 (by omega)⟩, h 3 (by omega), Or.inl rfl⟩
    · rintro ⟨⟨z, g0, g1, g2⟩, g3, g4⟩
      refine ⟨z, fun j hj => ?_⟩
      rcases (show j = 0 ∨ j = 1 ∨ j = 2 ∨ j = 3 by omega) with rfl | rfl | rfl | rfl
      · exact g0
      · exact g1
      · exact g2
      · exact g3
  exact ⟨five 0 _ _ _ _ _ rfl rfl (by decide), five 1 _ _ _ _ _ rfl rfl (by decide), four 2 _ _ _ _ rfl rfl, four 3 _ _ _ _ rfl rfl, five 4 _ _ _ _ _ rfl rfl (by decide), five 5 _ _ _ _ _ rfl rfl (by decide)⟩
theorem nmF_6 (ch : Nat → Int32) (q r : Nat) : nmF ch q r 6 0 = if nmE ch q r 0 then nI 0 else if nmE ch q r 1 then nI 1 else if nmE ch q r 2 then nI 2 else if nmE ch q r 3 then nI 3 else if nmE ch q r 4 then nI 4 else if nmE ch q r 5 then nI 5 else -4 := rfl
set_option maxRecDepth 100000 in
set_option maxHeartbeats 1000000 in
theorem f_lineNow {V : am_V} {d L : Nat} {f : Nat → Nat → Int32} {g ch : Nat → Int32} {τ : Nat → Nat → Int64} (hT : tpOK f 69 L ch) (h7 : g 7 = nI L) {q r : Nat} (hqr : q ≤ r) (hr : r ≤ L) (h8 : g 8 = nI r) (h9 : g 9 = nI q) : AF V MX5_lineNow (d + 2) [.ref 64] (upk f 64 g, τ) (some (.int (nmF ch q r 6 0))) (upk f 64 g, τ) := by
  have tM := tb_M
  have t68 := tb_68
  have t69 := tb_69
  have hL := hT.1
  obtain ⟨i0, i1, i2, i3, i4, i5⟩ := nm_iff (ch := ch) hqr (by omega)
  refine AM.of (L := [some (.ref 64)]) (by decide +kernel) (Nat.le_of_ble_eq_true rfl) rfl ?_
  have s6 : ¬ nmE ch q r 0 → ¬ nmE ch q r 1 → ¬ nmE ch q r 2 → ¬ nmE ch q r 3 → ¬ nmE ch q r 4 → ¬ nmE ch q r 5 → AW V MX5_lineNow (d + 2) 0 0 164 [some (.ref 64)] [] (hp (upk f 64 g, τ)) (fun r' h' => r' = some (.int (nmF ch q r 6 0)) ∧ h' = hp (upk f 64 g, τ)) := by
    intro n0 n1 n2 n3 n4 n5
    refine aw_bipush (v := -4) dX5_lineNow_164 (by decide) ?_
    refine aw_ireturn (ty := .int) dX5_lineNow_166 rfl rfl ?_
    rw [nmF_6, if_neg n0, if_neg n1, if_neg n2, if_neg n3, if_neg n4, if_neg n5]
    exact ⟨rfl, rfl⟩
  have s5 : ¬ nmE ch q r 0 → ¬ nmE ch q r 1 → ¬ nmE ch q r 2 → ¬ nmE ch q r 3 → ¬ nmE ch q r 4 → AW V MX5_lineNow (d + 2) 0 0 135 [some (.ref 64)] [] (hp (upk f 64 g, τ)) (fun r' h' => r' = some (.int (nmF ch q r 6 0)) ∧ h' = hp (upk f 64 g, τ)) := by
    intro n0 n1 n2 n3 n4
    refine aw_aload_n (i := 0) dX5_lineNow_135 rfl rfl ?_
    refine aw_iconst (v := 5) dX5_lineNow_136 (by decide) ?_
    refine aw_bipush (v := 101) dX5_lineNow_137 (by decide) ?_
    refine aw_bipush (v := 118) dX5_lineNow_139 (by decide) ?_
    refine aw_bipush (v := 101) dX5_lineNow_141 (by decide) ?_
    refine ax_callV4i (M' := MX5_is) (ci := 5) dX5_lineNow_143 lmX5_86 oX5_is (by decide +kernel) (by assumption) rfl rfl (Nat.le_of_ble_eq_true rfl) (f_is hT h7 hqr hr h8 h9 _ _ _ _) ?_
    refine aw_beq (tgt := 164) dX5_lineNow_146 (by decide) (fun c146 => ?_) (fun c146 => ?_)
    · first | exact s6 n0 n1 n2 n3 n4 (fun z => c157 (i5.mp z).2) | exact s6 n0 n1 n2 n3 n4 (fun z => c146 (i5.mp z).1)
    · refine aw_aload_n (i := 0) dX5_lineNow_149 rfl rfl ?_
      refine aw_bipush (v := 114) dX5_lineNow_150 (by decide) ?_
      refine aw_bipush (v := 121) dX5_lineNow_152 (by decide) ?_
      refine ax_callV2i (M' := MX5_endsIn) (ci := 5) dX5_lineNow_154 lmX5_90 oX5_endsIn (by decide +kernel) (by assumption) rfl rfl (Nat.le_of_ble_eq_true rfl) (f_endsIn hT h7 hqr hr h8 h9 _ _) ?_
      refine aw_beq (tgt := 164) dX5_lineNow_157 (by decide) (fun c157 => ?_) (fun c157 => ?_)
      · first | exact s6 n0 n1 n2 n3 n4 (fun z => c157 (i5.mp z).2) | exact s6 n0 n1 n2 n3 n4 (fun z => c146 (i5.mp z).1)
      · refine aw_iconst (v := 5) dX5_lineNow_160 (by decide) ?_
        refine aw_goto (tgt := 166) dX5_lineNow_161 (by decide) ?_
        refine aw_ireturn (ty := .int) dX5_lineNow_166 rfl rfl ?_
        rw [nmF_6, if_neg n0, if_neg n1, if_neg n2, if_neg n3, if_neg n4, if_pos (i5.mpr ⟨c146, c157⟩)]
        exact ⟨rfl, rfl⟩
  have s4 : ¬ nmE ch q r 0 → ¬ nmE ch q r 1 → ¬ nmE ch q r 2 → ¬ nmE ch q r 3 → AW V MX5_lineNow (d + 2) 0 0 106 [some (.ref 64)] [] (hp (upk f 64 g, τ)) (fun r' h' => r' = some (.int (nmF ch q r 6 0)) ∧ h' = hp (upk f 64 g, τ)) := by
    intro n0 n1 n2 n3
    refine aw_aload_n (i := 0) dX5_lineNow_106 rfl rfl ?_
    refine aw_iconst (v := 5) dX5_lineNow_107 (by decide) ?_
    refine aw_bipush (v := 112) dX5_lineNow_108 (by decide) ?_
    refine aw_bipush (v := 114) dX5_lineNow_110 (by decide) ?_
    refine aw_bipush (v := 101) dX5_lineNow_112 (by decide) ?_
    refine ax_callV4i (M' := MX5_is) (ci := 5) dX5_lineNow_114 lmX5_86 oX5_is (by decide +kernel) (by assumption) rfl rfl (Nat.le_of_ble_eq_true rfl) (f_is hT h7 hqr hr h8 h9 _ _ _ _) ?_
    refine aw_beq (tgt := 135) dX5_lineNow_117 (by decide) (fun c117 => ?_) (fun c117 => ?_)
    · first | exact s5 n0 n1 n2 n3 (fun z => c128 (i4.mp z).2) | exact s5 n0 n1 n2 n3 (fun z => c117 (i4.mp z).1)
    · refine aw_aload_n (i := 0) dX5_lineNow_120 rfl rfl ?_
      refine aw_bipush (v := 115) dX5_lineNow_121 (by decide) ?_
      refine aw_bipush (v := 115) dX5_lineNow_123 (by decide) ?_
      refine ax_callV2i (M' := MX5_endsIn) (ci := 5) dX5_lineNow_125 lmX5_90 oX5_endsIn (by decide +kernel) (by assumption) rfl rfl (Nat.le_of_ble_eq_true rfl) (f_endsIn hT h7 hqr hr h8 h9 _ _) ?_
      refine aw_beq (tgt := 135) dX5_lineNow_128 (by decide) (fun c128 => ?_) (fun c128 => ?_)
      · first | exact s5 n0 n1 n2 n3 (fun z => c128 (i4.mp z).2) | exact s5 n0 n1 n2 n3 (fun z => c117 (i4.mp z).1)
      · refine aw_iconst (v := 4) dX5_lineNow_131 (by decide) ?_
        refine aw_goto (tgt := 166) dX5_lineNow_132 (by decide) ?_
        refine aw_ireturn (ty := .int) dX5_lineNow_166 rfl rfl ?_
        rw [nmF_6, if_neg n0, if_neg n1, if_neg n2, if_neg n3, if_pos (i4.mpr ⟨c117, c128⟩)]
        exact ⟨rfl, rfl⟩
  have s3 : ¬ nmE ch q r 0 → ¬ nmE ch q r 1 → ¬ nmE ch q r 2 → AW V MX5_lineNow (d + 2) 0 0 80 [some (.ref 64)] [] (hp (upk f 64 g, τ)) (fun r' h' => r' = some (.int (nmF ch q r 6 0)) ∧ h' = hp (upk f 64 g, τ)) := by
    intro n0 n1 n2
    refine aw_aload_n (i := 0) dX5_lineNow_80 rfl rfl ?_
    refine aw_iconst (v := 4) dX5_lineNow_81 (by decide) ?_
    refine aw_bipush (v := 98) dX5_lineNow_82 (by decide) ?_
    refine aw_bipush (v := 111) dX5_lineNow_84 (by decide) ?_
    refine aw_bipush (v := 116) dX5_lineNow_86 (by decide) ?_
    refine ax_callV4i (M' := MX5_is) (ci := 5) dX5_lineNow_88 lmX5_86 oX5_is (by decide +kernel) (by assumption) rfl rfl (Nat.le_of_ble_eq_true rfl) (f_is hT h7 hqr hr h8 h9 _ _ _ _) ?_
    refine aw_beq (tgt := 106) dX5_lineNow_91 (by decide) (fun c91 => ?_) (fun c91 => ?_)
    · first | exact s4 n0 n1 n2 (fun z => c101 (i3.mp z).2) | exact s4 n0 n1 n2 (fun z => c91 (i3.mp z).1)
    · refine aw_aload_n (i := 0) dX5_lineNow_94 rfl rfl ?_
      refine aw_bipush (v := 104) dX5_lineNow_95 (by decide) ?_
      refine aw_iconst (v := 0) dX5_lineNow_97 (by decide) ?_
      refine ax_callV2i (M' := MX5_endsIn) (ci := 5) dX5_lineNow_98 lmX5_90 oX5_endsIn (by decide +kernel) (by assumption) rfl rfl (Nat.le_of_ble_eq_true rfl) (f_endsIn hT h7 hqr hr h8 h9 _ _) ?_
      refine aw_beq (tgt := 106) dX5_lineNow_101 (by decide) (fun c101 => ?_) (fun c101 => ?_)
      · first | exact s4 n0 n1 n2 (fun z => c101 (i3.mp z).2) | exact s4 n0 n1 n2 (fun z => c91 (i3.mp z).1)
      · refine aw_iconst (v := 3) dX5_lineNow_104 (by decide) ?_
        refine aw_ireturn (ty := .int) dX5_lineNow_105 rfl rfl ?_
        rw [nmF_6, if_neg n0, if_neg n1, if_neg n2, if_pos (i3.mpr ⟨c91, c101⟩)]
        exact ⟨rfl, rfl⟩
  have s2 : ¬ nmE ch q r 0 → ¬ nmE ch q r 1 → AW V MX5_lineNow (d + 2) 0 0 54 [some (.ref 64)] [] (hp (upk f 64 g, τ)) (fun r' h' => r' = some (.int (nmF ch q r 6 0)) ∧ h' = hp (upk f 64 g, τ)) := by
    intro n0 n1
    refine aw_aload_n (i := 0) dX5_lineNow_54 rfl rfl ?_
    refine aw_iconst (v := 4) dX5_lineNow_55 (by decide) ?_
    refine aw_bipush (v := 115) dX5_lineNow_56 (by decide) ?_
    refine aw_bipush (v := 104) dX5_lineNow_58 (by decide) ?_
    refine aw_bipush (v := 117) dX5_lineNow_60 (by decide) ?_
    refine ax_callV4i (M' := MX5_is) (ci := 5) dX5_lineNow_62 lmX5_86 oX5_is (by decide +kernel) (by assumption) rfl rfl (Nat.le_of_ble_eq_true rfl) (f_is hT h7 hqr hr h8 h9 _ _ _ _) ?_
    refine aw_beq (tgt := 80) dX5_lineNow_65 (by decide) (fun c65 => ?_) (fun c65 => ?_)
    · first | exact s3 n0 n1 (fun z => c75 (i2.mp z).2) | exact s3 n0 n1 (fun z => c65 (i2.mp z).1)
    · refine aw_aload_n (i := 0) dX5_lineNow_68 rfl rfl ?_
      refine aw_bipush (v := 116) dX5_lineNow_69 (by decide) ?_
      refine aw_iconst (v := 0) dX5_lineNow_71 (by decide) ?_
      refine ax_callV2i (M' := MX5_endsIn) (ci := 5) dX5_lineNow_72 lmX5_90 oX5_endsIn (by decide +kernel) (by assumption) rfl rfl (Nat.le_of_ble_eq_true rfl) (f_endsIn hT h7 hqr hr h8 h9 _ _) ?_
      refine aw_beq (tgt := 80) dX5_lineNow_75 (by decide) (fun c75 => ?_) (fun c75 => ?_)
      · first | exact s3 n0 n1 (fun z => c75 (i2.mp z).2) | exact s3 n0 n1 (fun z => c65 (i2.mp z).1)
      · refine aw_iconst (v := 2) dX5_lineNow_78 (by decide) ?_
        refine aw_ireturn (ty := .int) dX5_lineNow_79 rfl rfl ?_
        rw [nmF_6, if_neg n0, if_neg n1, if_pos (i2.mpr ⟨c65, c75⟩)]
        exact ⟨rfl, rfl⟩
  have s1 : ¬ nmE ch q r 0 → AW V MX5_lineNow (d + 2) 0 0 27 [some (.ref 64)] [] (hp (upk f 64 g, τ)) (fun r' h' => r' = some (.int (nmF ch q r 6 0)) ∧ h' = hp (upk f 64 g, τ)) := by
    intro n0
    refine aw_aload_n (i := 0) dX5_lineNow_27 rfl rfl ?_
    refine aw_iconst (v := 5) dX5_lineNow_28 (by decide) ?_
    refine aw_bipush (v := 115) dX5_lineNow_29 (by decide) ?_
    refine aw_bipush (v := 99) dX5_lineNow_31 (by decide) ?_
    refine aw_bipush (v := 97) dX5_lineNow_33 (by decide) ?_
    refine ax_callV4i (M' := MX5_is) (ci := 5) dX5_lineNow_35 lmX5_86 oX5_is (by decide +kernel) (by assumption) rfl rfl (Nat.le_of_ble_eq_true rfl) (f_is hT h7 hqr hr h8 h9 _ _ _ _) ?_
    refine aw_beq (tgt := 54) dX5_lineNow_38 (by decide) (fun c38 => ?_) (fun c38 => ?_)
    · first | exact s2 n0 (fun z => c49 (i1.mp z).2) | exact s2 n0 (fun z => c38 (i1.mp z).1)
    · refine aw_aload_n (i := 0) dX5_lineNow_41 rfl rfl ?_
      refine aw_bipush (v := 108) dX5_lineNow_42 (by decide) ?_
      refine aw_bipush (v := 101) dX5_lineNow_44 (by decide) ?_
      refine ax_callV2i (M' := MX5_endsIn) (ci := 5) dX5_lineNow_46 lmX5_90 oX5_endsIn (by decide +kernel) (by assumption) rfl rfl (Nat.le_of_ble_eq_true rfl) (f_endsIn hT h7 hqr hr h8 h9 _ _) ?_
      refine aw_beq (tgt := 54) dX5_lineNow_49 (by decide) (fun c49 => ?_) (fun c49 => ?_)
      · first | exact s2 n0 (fun z => c49 (i1.mp z).2) | exact s2 n0 (fun z => c38 (i1.mp z).1)
      · refine aw_iconst (v := 1) dX5_lineNow_52 (by decide) ?_
        refine aw_ireturn (ty := .int) dX5_lineNow_53 rfl rfl ?_
        rw [nmF_6, if_neg n0, if_pos (i1.mpr ⟨c38, c49⟩)]
        exact ⟨rfl, rfl⟩
  refine aw_aload_n (i := 0) dX5_lineNow_0 rfl rfl ?_
  refine aw_iconst (v := 5) dX5_lineNow_1 (by decide) ?_
  refine aw_bipush (v := 97) dX5_lineNow_2 (by decide) ?_
  refine aw_bipush (v := 108) dX5_lineNow_4 (by decide) ?_
  refine aw_bipush (v := 105) dX5_lineNow_6 (by decide) ?_
  refine ax_callV4i (M' := MX5_is) (ci := 5) dX5_lineNow_8 lmX5_86 oX5_is (by decide +kernel) (by assumption) rfl rfl (Nat.le_of_ble_eq_true rfl) (f_is hT h7 hqr hr h8 h9 _ _ _ _) ?_
  refine aw_beq (tgt := 27) dX5_lineNow_11 (by decide) (fun c11 => ?_) (fun c11 => ?_)
  · first | exact s1  (fun z => c22 (i0.mp z).2) | exact s1  (fun z => c11 (i0.mp z).1)
  · refine aw_aload_n (i := 0) dX5_lineNow_14 rfl rfl ?_
    refine aw_bipush (v := 107) dX5_lineNow_15 (by decide) ?_
    refine aw_bipush (v := 101) dX5_lineNow_17 (by decide) ?_
    refine ax_callV2i (M' := MX5_endsIn) (ci := 5) dX5_lineNow_19 lmX5_90 oX5_endsIn (by decide +kernel) (by assumption) rfl rfl (Nat.le_of_ble_eq_true rfl) (f_endsIn hT h7 hqr hr h8 h9 _ _) ?_
    refine aw_beq (tgt := 27) dX5_lineNow_22 (by decide) (fun c22 => ?_) (fun c22 => ?_)
    · first | exact s1  (fun z => c22 (i0.mp z).2) | exact s1  (fun z => c11 (i0.mp z).1)
    · refine aw_iconst (v := 0) dX5_lineNow_25 (by decide) ?_
      refine aw_ireturn (ty := .int) dX5_lineNow_26 rfl rfl ?_
      rw [nmF_6, if_pos (i0.mpr ⟨c11, c22⟩)]
      exact ⟨rfl, rfl⟩
