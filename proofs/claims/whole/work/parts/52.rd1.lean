theorem upd_same {g : Nat → Int32} {k : Nat} {x : Int32} (h : g k = x) : upd g k x = g := by
  funext j
  unfold upd
  split
  · rename_i e; rw [e, h]
  · rfl
theorem upd_upd (g : Nat → Int32) (k : Nat) (x y : Int32) : upd (upd g k x) k y = upd g k y := by
  funext j
  unfold upd
  split <;> rfl
section AXZ
variable {V : am_V} {M : am_M} {d kc ks pc : Nat} {L : List (Option Value)} {st : List Value} {R : Option Value → List va_E → Prop} {f : Nat → Nat → Int32} {g : Nat → Int32} {τ : Nat → Nat → Int64}
theorem ax_putKz {a ci idx : Nat} {q : vw_C} {ts : List Nat} {x : Int32} (k : Nat) (hd : decode M.2.1 pc = .ok (.putfield idx, 3)) (hq : am_cl[ci]? = some q) (hl : Cond.fieldLink M.1.cls idx (q.2.1 k).1 (q.2.1 k).2.1 (q.2.1 k).2.2.1 ∈ am_T) (hk : k < q.2.2) (ht : am_tab[a]? = some (.inl (ci, ts))) (hv : ts[k]? = some 0) (hf : (q.2.1 k).2.2.2 = false) (hty : am_fty ci k = .boolean) (hx : x = 0 ∨ x = 1) (kk : AW V M d kc ks (pc + 3) L st (hp (upk f a (upd g k x), τ)) R) : AW V M d kc ks pc L (.int x :: .ref a :: st) (hp (upk f a g, τ)) R := by
  refine ax_putz k hd hq hl hk ht hv hf hty hx ?_
  rw [show up2 (upk f a g) a k x = upk f a (upd g k x) from up2_upk f a k g x]
  exact kk
end AXZ
/-- a fault is told, if there is none yet -/
def flG (g : Nat → Int32) (c p : Int32) : Nat → Int32 := if g 8 = 0 then upd (upd g 8 c) 9 p else g
/-- a number was taken from q to r -/
def TN (ch : Nat → Int32) (L q r : Nat) (g g' : Nat → Int32) : Prop := g' 2 = nI L ∧ g' 7 = g 7 ∧ g' 5 = nI q ∧ (r - q ≤ 2 → g' 8 = 0 ∧ g' 4 = 2 ∧ g' 3 = nI r ∧ g' 6 = zVal ch q (r - q)) ∧ (¬ r - q ≤ 2 → g' 8 = 1 ∧ g' 9 = nI q ∧ g' 4 = g 4)
/-- the token at q was read -/
def CT (ch : Nat → Int32) (L : Nat) (g : Nat → Int32) (q : Nat) : Prop := g 2 = nI L ∧ q ≤ L ∧ (zk ch q = 4 → g 8 = 1 ∧ g 9 = nI q ∧ g 4 = 4) ∧ (zk ch q ≠ 4 → g 8 = 0 ∧ g 4 = nI (zk ch q) ∧ g 5 = nI q ∧ g 3 = nI (zr ch q) ∧ (zk ch q = 2 → g 6 = zv ch q))
def CS (L : Nat) (g : Nat → Int32) : sg → Prop
  | .inl p => g 8 = 0 ∧ g 3 = nI p ∧ p ≤ L ∧ g 2 = nI L
  | .inr x => g 8 = nI x.1 ∧ (1 ≤ x.1 ∧ x.1 ≤ 6) ∧ g 9 = nI x.2 ∧ g 2 = nI L
theorem CT_end {f : Nat → Nat → Int32} {L q c : Nat} {ch g : Nat → Int32} (hT : tpOK f c L ch) (hq : L ≤ q) (hq2 : q ≤ L) (h2 : g 2 = nI L) (h8 : g 8 = 0) (h4 : g 4 = 0) (h5 : g 5 = nI q) (h3 : g 3 = nI q) : CT ch L g q := by
  have e : zk ch q = 0 := (zk_0 hT).mpr hq
  have r : zr ch q = q := by unfold zr; rw [if_pos (hT.no hq).1]
  refine ⟨h2, hq2, fun z => by omega, fun _ => ⟨h8, by rw [e]; exact h4, h5, by rw [r]; exact h3, fun z => by omega⟩⟩
theorem CT_name {L q : Nat} {ch g : Nat → Int32} (hl : isLe ch q) (hn : ¬ ch q < 0) (hq2 : q ≤ L) (h2 : g 2 = nI L) (h8 : g 8 = 0) (h4 : g 4 = 1) (h5 : g 5 = nI q) (h3 : g 3 = nI (scn (isLe ch) 161 q)) : CT ch L g q := by
  have e : zk ch q = 1 := by unfold zk; rw [if_neg hn, if_pos hl]
  have r : zr ch q = scn (isLe ch) 161 q := by unfold zr; rw [if_neg hn, if_pos hl]
  refine ⟨h2, hq2, fun z => by omega, fun _ => ⟨h8, by rw [e]; exact h4, h5, by rw [r]; exact h3, fun z => by omega⟩⟩
theorem CT_num {L q : Nat} {ch g g1 : Nat → Int32} (hl : ¬ isLe ch q) (hf : isFi ch q) (hn : ¬ ch q < 0) (hq2 : q ≤ L) (h : TN ch L q (scn (isFi ch) 161 q) g1 g) (h4 : g1 4 = 4) : CT ch L g q := by
  have r : zr ch q = scn (isFi ch) 161 q := by unfold zr; rw [if_neg hn, if_neg hl, if_pos hf]
  obtain ⟨a, b, c, d, e⟩ := h
  rw [← r] at d e
  have k : zk ch q = if zr ch q - q ≤ 2 then 2 else 4 := by
    conv => lhs; unfold zk
    rw [if_neg hn, if_neg hl, if_pos hf]
  by_cases z : zr ch q - q ≤ 2
  · rw [if_pos z] at k
    obtain ⟨d1, d2, d3, d4⟩ := d z
    exact ⟨a, hq2, fun y => by omega, fun _ => ⟨d1, by rw [k]; exact d2, c, d3, fun _ => d4⟩⟩
  · rw [if_neg z] at k
    obtain ⟨d1, d2, d3⟩ := e z
    exact ⟨a, hq2, fun _ => ⟨d1, d2, d3.trans h4⟩, fun y => absurd k y⟩
theorem CT_semi {L q : Nat} {ch g : Nat → Int32} (hl : ¬ isLe ch q) (hf : ¬ isFi ch q) (hn : ¬ ch q < 0) (hs : ch q = 59) (hq2 : q ≤ L) (h2 : g 2 = nI L) (h8 : g 8 = 0) (h4 : g 4 = 3) (h5 : g 5 = nI q) (h3 : g 3 = nI (q + 1)) : CT ch L g q := by
  have e : zk ch q = 3 := by unfold zk; rw [if_neg hn, if_neg hl, if_neg hf, if_pos hs]
  have r : zr ch q = q + 1 := by unfold zr; rw [if_neg hn, if_neg hl, if_neg hf]
  refine ⟨h2, hq2, fun z => by omega, fun _ => ⟨h8, by rw [e]; exact h4, h5, by rw [r]; exact h3, fun z => by omega⟩⟩
theorem CT_bad {L q : Nat} {ch g : Nat → Int32} (hl : ¬ isLe ch q) (hf : ¬ isFi ch q) (hn : ¬ ch q < 0) (hs : ¬ ch q = 59) (hq2 : q ≤ L) (h2 : g 2 = nI L) (h8 : g 8 = 1) (h9 : g 9 = nI q) (h4 : g 4 = 4) : CT ch L g q := by
  have e : zk ch q = 4 := by unfold zk; rw [if_neg hn, if_neg hl, if_neg hf, if_neg hs]
  exact ⟨h2, hq2, fun _ => ⟨h8, h9, h4⟩, fun y => absurd e y⟩
set_option maxRecDepth 100000 in
set_option maxHeartbeats 1000000 in
theorem f_X3_isLetter {V : am_V} {d : Nat} {S : fm} (c : Int32) : AF V MX3_isLetter d [.int c] S (some (.int (b2i (97 ≤ c ∧ c ≤ 122)))) S := by
  refine AM.of (L := [some (.int c)]) (by decide +kernel) (Nat.le_of_ble_eq_true rfl) rfl ?_
  refine aw_iload_n (i := 0) dX3_isLetter_0 rfl rfl ?_
  refine aw_bipush (v := 97) dX3_isLetter_1 (by decide) ?_
  refine aw_icmp_lt (tgt := 16) dX3_isLetter_3 (by decide) (fun c3 => ?_) (fun c3 => ?_)
  · refine aw_iconst (v := 0) dX3_isLetter_16 (by decide) ?_
    refine aw_ireturn (ty := .boolean) dX3_isLetter_17 rfl (by decide) ?_
    first | exact ⟨congrArg (fun z => some (Value.int z)) (b2i_t ⟨Int32.not_lt.mp c3, Int32.not_lt.mp c9⟩).symm, rfl⟩ | exact ⟨congrArg (fun z => some (Value.int z)) (b2i_f (fun z => absurd c3 (Int32.not_lt.mpr z.1))).symm, rfl⟩ | exact ⟨congrArg (fun z => some (Value.int z)) (b2i_f (fun z => absurd c9 (Int32.not_lt.mpr z.2))).symm, rfl⟩
  · refine aw_iload_n (i := 0) dX3_isLetter_6 rfl rfl ?_
    refine aw_bipush (v := 122) dX3_isLetter_7 (by decide) ?_
    refine aw_icmp_gt (tgt := 16) dX3_isLetter_9 (by decide) (fun c9 => ?_) (fun c9 => ?_)
    · refine aw_iconst (v := 0) dX3_isLetter_16 (by decide) ?_
      refine aw_ireturn (ty := .boolean) dX3_isLetter_17 rfl (by decide) ?_
      first | exact ⟨congrArg (fun z => some (Value.int z)) (b2i_t ⟨Int32.not_lt.mp c3, Int32.not_lt.mp c9⟩).symm, rfl⟩ | exact ⟨congrArg (fun z => some (Value.int z)) (b2i_f (fun z => absurd c3 (Int32.not_lt.mpr z.1))).symm, rfl⟩ | exact ⟨congrArg (fun z => some (Value.int z)) (b2i_f (fun z => absurd c9 (Int32.not_lt.mpr z.2))).symm, rfl⟩
    · refine aw_iconst (v := 1) dX3_isLetter_12 (by decide) ?_
      refine aw_goto (tgt := 17) dX3_isLetter_13 (by decide) ?_
      refine aw_ireturn (ty := .boolean) dX3_isLetter_17 rfl (by decide) ?_
      first | exact ⟨congrArg (fun z => some (Value.int z)) (b2i_t ⟨Int32.not_lt.mp c3, Int32.not_lt.mp c9⟩).symm, rfl⟩ | exact ⟨congrArg (fun z => some (Value.int z)) (b2i_f (fun z => absurd c3 (Int32.not_lt.mpr z.1))).symm, rfl⟩ | exact ⟨congrArg (fun z => some (Value.int z)) (b2i_f (fun z => absurd c9 (Int32.not_lt.mpr z.2))).symm, rfl⟩
set_option maxRecDepth 100000 in
set_option maxHeartbeats 1000000 in
theorem f_X3_isFigure {V : am_V} {d : Nat} {S : fm} (c : Int32) : AF V MX3_isFigure d [.int c] S (some (.int (b2i (48 ≤ c ∧ c ≤ 57)))) S := by
  refine AM.of (L := [some (.int c)]) (by decide +kernel) (Nat.le_of_ble_eq_true rfl) rfl ?_
  refine aw_iload_n (i := 0) dX3_isFigure_0 rfl rfl ?_
  refine aw_bipush (v := 48) dX3_isFigure_1 (by decide) ?_
  refine aw_icmp_lt (tgt := 16) dX3_isFigure_3 (by decide) (fun c3 => ?_) (fun c3 => ?_)
  · refine aw_iconst (v := 0) dX3_isFigure_16 (by decide) ?_
    refine aw_ireturn (ty := .boolean) dX3_isFigure_17 rfl (by decide) ?_
    first | exact ⟨congrArg (fun z => some (Value.int z)) (b2i_t ⟨Int32.not_lt.mp c3, Int32.not_lt.mp c9⟩).symm, rfl⟩ | exact ⟨congrArg (fun z => some (Value.int z)) (b2i_f (fun z => absurd c3 (Int32.not_lt.mpr z.1))).symm, rfl⟩ | exact ⟨congrArg (fun z => some (Value.int z)) (b2i_f (fun z => absurd c9 (Int32.not_lt.mpr z.2))).symm, rfl⟩
  · refine aw_iload_n (i := 0) dX3_isFigure_6 rfl rfl ?_
    refine aw_bipush (v := 57) dX3_isFigure_7 (by decide) ?_
    refine aw_icmp_gt (tgt := 16) dX3_isFigure_9 (by decide) (fun c9 => ?_) (fun c9 => ?_)
    · refine aw_iconst (v := 0) dX3_isFigure_16 (by decide) ?_
      refine aw_ireturn (ty := .boolean) dX3_isFigure_17 rfl (by decide) ?_
      first | exact ⟨congrArg (fun z => some (Value.int z)) (b2i_t ⟨Int32.not_lt.mp c3, Int32.not_lt.mp c9⟩).symm, rfl⟩ | exact ⟨congrArg (fun z => some (Value.int z)) (b2i_f (fun z => absurd c3 (Int32.not_lt.mpr z.1))).symm, rfl⟩ | exact ⟨congrArg (fun z => some (Value.int z)) (b2i_f (fun z => absurd c9 (Int32.not_lt.mpr z.2))).symm, rfl⟩
    · refine aw_iconst (v := 1) dX3_isFigure_12 (by decide) ?_
      refine aw_goto (tgt := 17) dX3_isFigure_13 (by decide) ?_
      refine aw_ireturn (ty := .boolean) dX3_isFigure_17 rfl (by decide) ?_
      first | exact ⟨congrArg (fun z => some (Value.int z)) (b2i_t ⟨Int32.not_lt.mp c3, Int32.not_lt.mp c9⟩).symm, rfl⟩ | exact ⟨congrArg (fun z => some (Value.int z)) (b2i_f (fun z => absurd c3 (Int32.not_lt.mpr z.1))).symm, rfl⟩ | exact ⟨congrArg (fun z => some (Value.int z)) (b2i_f (fun z => absurd c9 (Int32.not_lt.mpr z.2))).symm, rfl⟩
set_option maxRecDepth 100000 in
set_option maxHeartbeats 1000000 in
theorem f_X3_fail {V : am_V} {d : Nat} {f : Nat → Nat → Int32} {g : Nat → Int32} {τ : Nat → Nat → Int64} (c p : Int32) : AF V MX3_fail d [.ref 61, .int c, .int p] (upk f 61 g, τ) none (upk f 61 (flG g c p), τ) := by
  have tR := tb_rd
  have tT := tb_tp
  have t14 := tb_B isB14
  refine AM.of (L := [some (.ref 61), some (.int c), some (.int p)]) (by decide +kernel) (Nat.le_of_ble_eq_true rfl) rfl ?_
  refine aw_aload_n (i := 0) dX3_fail_0 rfl rfl ?_
  refine ax_getK (ci := 3) 8 dX3_fail_1 rfl lfX3_41 (by decide) (by assumption) (by rfl) ?_
  refine aw_if_ne (tgt := 17) dX3_fail_4 (by decide) (fun c4 => ?_) (fun c4 => ?_)
  · refine aw_return dX3_fail_17 rfl ?_
    exact ⟨rfl, congrArg (fun z => hp (upk f 61 z, τ)) (by unfold flG; first | exact (if_pos c4).symm | exact (if_neg c4).symm)⟩
  · refine aw_aload_n (i := 0) dX3_fail_7 rfl rfl ?_
    refine aw_iload_n (i := 1) dX3_fail_8 rfl rfl ?_
    refine ax_putK (ci := 3) 8 dX3_fail_9 rfl lfX3_41 (by decide) (by assumption) (by rfl) rfl rfl ?_
    refine aw_aload_n (i := 0) dX3_fail_12 rfl rfl ?_
    refine aw_iload_n (i := 2) dX3_fail_13 rfl rfl ?_
    refine ax_putK (ci := 3) 9 dX3_fail_14 rfl lfX3_44 (by decide) (by assumption) (by rfl) rfl rfl ?_
    refine aw_return dX3_fail_17 rfl ?_
    exact ⟨rfl, congrArg (fun z => hp (upk f 61 z, τ)) (by unfold flG; first | exact (if_pos c4).symm | exact (if_neg c4).symm)⟩
set_option maxRecDepth 100000 in
set_option maxHeartbeats 1000000 in
theorem f_X3_takeName {V : am_V} {d L : Nat} {f : Nat → Nat → Int32} {g ch : Nat → Int32} {τ : Nat → Nat → Int64} (hT : tpOK f 1 L ch) {q : Nat} (hq : q ≤ L) (h2 : g 2 = nI L) (h3 : g 3 = nI q) : AF V MX3_takeName (d + 1) [.ref 61] (upk f 61 g, τ) none (upk f 61 (upd (upd g 3 (nI (scn (isLe ch) 161 q))) 4 1), τ) := by
  have tR := tb_rd
  have tT := tb_tp
  have t14 := tb_B isB14
  have hL := hT.1
  refine AM.of (L := [some (.ref 61)]) (by decide +kernel) (Nat.le_of_ble_eq_true rfl) rfl ?_
  have loop : ∀ (m q : Nat) (g : Nat → Int32), q ≤ L → g 2 = nI L → g 3 = nI q → L - q < m → AW V MX3_takeName (d + 1) 0 0 0 [some (.ref 61)] [] (hp (upk f 61 g, τ)) (fun r' h' => r' = none ∧ h' = hp (upk f 61 (upd (upd g 3 (nI (scn (isLe ch) m q))) 4 1), τ)) := by
    intro m
    induction m with
    | zero => intro q g a b c e; omega
    | succ m ih =>
      intro q g hq h2 h3 hm
      have fin : ¬ isLe ch q → (none : Option Value) = none ∧ hp (upk f 61 (upd g 4 1), τ) = hp (upk f 61 (upd (upd g 3 (nI (scn (isLe ch) (m + 1) q))) 4 1), τ) := by
        intro z
        rw [scn_f z, upd_same h3]
        exact ⟨rfl, rfl⟩
      refine aw_aload_n (i := 0) dX3_takeName_0 rfl rfl ?_
      refine ax_getK (ci := 3) 3 dX3_takeName_1 rfl lfX3_34 (by decide) (by assumption) (by rfl) ?_
      refine aw_tE (nI q) h3 ?_
      refine aw_aload_n (i := 0) dX3_takeName_4 rfl rfl ?_
      refine ax_getK (ci := 3) 2 dX3_takeName_5 rfl lfX3_30 (by decide) (by assumption) (by rfl) ?_
      refine aw_tE (nI L) h2 ?_
      refine aw_icmp_ge (tgt := 39) dX3_takeName_8 (by decide) (fun c8 => ?_) (fun c8 => ?_)
      · refine aw_aload_n (i := 0) dX3_takeName_39 rfl rfl ?_
        refine aw_iconst (v := 1) dX3_takeName_40 (by decide) ?_
        refine ax_putK (ci := 3) 4 dX3_takeName_41 rfl lfX3_50 (by decide) (by assumption) (by rfl) rfl rfl ?_
        refine aw_return dX3_takeName_44 rfl ?_
        first | exact fin c23 | exact fin (hT.no ((nI_leI (by omega) (by omega)).mp c8)).2.2.1
      · have hqL : q < L := Nat.lt_of_not_le fun z => c8 ((nI_leI (by omega) (by omega)).mpr z)
        refine aw_aload_n (i := 0) dX3_takeName_11 rfl rfl ?_
        refine ax_getr (ci := 3) 0 dX3_takeName_12 rfl lfX3_9 (by decide) (by assumption) (by rfl) ?_
        refine aw_aload_n (i := 0) dX3_takeName_15 rfl rfl ?_
        refine ax_getK (ci := 3) 3 dX3_takeName_16 rfl lfX3_34 (by decide) (by assumption) (by rfl) ?_
        refine aw_tE (nI (q)) h3 ?_
        refine ax_baldN dX3_takeName_19 tT (by omega) (Nat.le_of_ble_eq_true rfl) ?_
        refine aw_tE (ch (q)) (by rw [upk_ne (by omega)]; exact (hT.2.1 (q) hqL).1) ?_
        refine ax_callS1i (M' := MX3_isLetter) dX3_takeName_20 lmX3_110 oX3_isLetter (by decide +kernel) (Nat.le_of_ble_eq_true rfl) (f_X3_isLetter _) ?_
        refine aw_beq (tgt := 39) dX3_takeName_23 (by decide) (fun c23 => ?_) (fun c23 => ?_)
        · refine aw_aload_n (i := 0) dX3_takeName_39 rfl rfl ?_
          refine aw_iconst (v := 1) dX3_takeName_40 (by decide) ?_
          refine ax_putK (ci := 3) 4 dX3_takeName_41 rfl lfX3_50 (by decide) (by assumption) (by rfl) rfl rfl ?_
          refine aw_return dX3_takeName_44 rfl ?_
          first | exact fin c23 | exact fin (hT.no ((nI_leI (by omega) (by omega)).mp c8)).2.2.1
        · refine aw_aload_n (i := 0) dX3_takeName_26 rfl rfl ?_
          refine aw_dup dX3_takeName_27 rfl ?_
          refine ax_getK (ci := 3) 3 dX3_takeName_28 rfl lfX3_34 (by decide) (by assumption) (by rfl) ?_
          refine aw_tE (nI q) h3 ?_
          refine aw_iconst (v := 1) dX3_takeName_31 (by decide) ?_
          refine aw_iadd dX3_takeName_32 ?_
          refine aw_tE (nI (q + 1)) (nI_1 q) ?_
          refine ax_putK (ci := 3) 3 dX3_takeName_33 rfl lfX3_34 (by decide) (by assumption) (by rfl) rfl rfl ?_
          refine aw_goto (tgt := 0) dX3_takeName_36 (by decide) ?_
          refine AW.weaken ?_ (ih (q + 1) (upd g 3 (nI (q + 1))) (by omega) h2 rfl (by omega))
          intro r h' z
          rw [upd_upd] at z
          rw [scn, if_pos c23]
          exact z
  exact loop 161 q g hq h2 h3 (by omega)
set_option maxRecDepth 100000 in
set_option maxHeartbeats 1000000 in
theorem g_X3_takeNumber {V : am_V} {d L : Nat} {f : Nat → Nat → Int32} {g ch : Nat → Int32} {τ : Nat → Nat → Int64} (hT : tpOK f 1 L ch) {q : Nat} (hq : q ≤ L) (h2 : g 2 = nI L) (h3 : g 3 = nI q) (h5 : g 5 = nI q) (h8 : g 8 = 0) : AGv V MX3_takeNumber (d + 1) [.ref 61] (upk f 61 g, τ) (fun S' => ∃ g', S' = (upk f 61 g', τ) ∧ TN ch L q (scn (isFi ch) 161 q) g g') := by
  have tR := tb_rd
  have tT := tb_tp
  have t14 := tb_B isB14
  have hL := hT.1
  refine AM.of (L := [some (.ref 61)]) (by decide +kernel) (Nat.le_of_ble_eq_true rfl) rfl ?_
  have loop : ∀ (m i : Nat) (g1 : Nat → Int32), q + i ≤ L → g1 2 = nI L → g1 3 = nI (q + i) → g1 5 = nI q → g1 8 = 0 → g1 6 = zVal ch q i → g1 7 = g 7 → g1 4 = g 4 → L - (q + i) < m → AW V MX3_takeNumber (d + 1) 0 0 5 [some (.ref 61)] [] (hp (upk f 61 g1, τ)) (fun r' h' => ∃ S' : fm, r' = none ∧ h' = hp S' ∧ ∃ g', S' = (upk f 61 g', τ) ∧ TN ch L q (scn (isFi ch) m (q + i)) g g') := by
    intro m
    induction m with
    | zero => intro i g1 a b c e a1 a2 a3 a4 a5; omega
    | succ m ih =>
      intro i g1 hq h2 h3 h5 h8 h6 h7 h4 hm
      refine aw_aload_n (i := 0) dX3_takeNumber_5 rfl rfl ?_
      refine ax_getK (ci := 3) 3 dX3_takeNumber_6 rfl lfX3_34 (by decide) (by assumption) (by rfl) ?_
      refine aw_tE (nI (q + i)) h3 ?_
      refine aw_aload_n (i := 0) dX3_takeNumber_9 rfl rfl ?_
      refine ax_getK (ci := 3) 2 dX3_takeNumber_10 rfl lfX3_30 (by decide) (by assumption) (by rfl) ?_
      refine aw_tE (nI L) h2 ?_
      refine aw_icmp_ge (tgt := 68) dX3_takeNumber_13 (by decide) (fun c13 => ?_) (fun c13 => ?_)
      · have hnf : ¬ isFi ch (q + i) := by first | exact c28 | exact (hT.no ((nI_leI (by omega) (by omega)).mp c13)).2.2.2
        rw [scn_f hnf]
        refine aw_aload_n (i := 0) dX3_takeNumber_68 rfl rfl ?_
        refine ax_getK (ci := 3) 3 dX3_takeNumber_69 rfl lfX3_34 (by decide) (by assumption) (by rfl) ?_
        refine aw_tE (nI (q + i)) h3 ?_
        refine aw_aload_n (i := 0) dX3_takeNumber_72 rfl rfl ?_
        refine ax_getK (ci := 3) 5 dX3_takeNumber_73 rfl lfX3_68 (by decide) (by assumption) (by rfl) ?_
        refine aw_tE (nI q) h5 ?_
        refine aw_isub dX3_takeNumber_76 ?_
        refine aw_tE (nI i) (by rw [pk_sub (by omega), Nat.add_sub_cancel_left]) ?_
        refine aw_iconst (v := 2) dX3_takeNumber_77 (by decide) ?_
        refine aw_icmp_le (tgt := 93) dX3_takeNumber_78 (by decide) (fun c78 => ?_) (fun c78 => ?_)
        · refine aw_aload_n (i := 0) dX3_takeNumber_93 rfl rfl ?_
          refine aw_iconst (v := 2) dX3_takeNumber_94 (by decide) ?_
          refine ax_putK (ci := 3) 4 dX3_takeNumber_95 rfl lfX3_50 (by decide) (by assumption) (by rfl) rfl rfl ?_
          refine aw_return dX3_takeNumber_98 rfl ?_
          have ei : q + i - q = i := by omega
          first
            | (have c2 : i ≤ 2 := (nI_leI (b := 2) (by omega) (by omega)).mp c78
               exact ⟨_, rfl, rfl, _, rfl, h2, h7, h5, fun _ => ⟨h8, rfl, h3, by rw [ei]; exact h6⟩, fun z => absurd (by omega) z⟩)
            | (have c2 : ¬ i ≤ 2 := fun z => c78 ((nI_leI (b := 2) (by omega) (by omega)).mpr z)
               refine ⟨_, rfl, rfl, _, rfl, ?_⟩
               unfold flG
               rw [if_pos h8]
               exact ⟨h2, h7, h5, fun z => absurd z (by omega), fun _ => ⟨rfl, rfl, h4⟩⟩)
        · refine aw_aload_n (i := 0) dX3_takeNumber_81 rfl rfl ?_
          refine aw_iconst (v := 1) dX3_takeNumber_82 (by decide) ?_
          refine aw_aload_n (i := 0) dX3_takeNumber_83 rfl rfl ?_
          refine ax_getK (ci := 3) 5 dX3_takeNumber_84 rfl lfX3_68 (by decide) (by assumption) (by rfl) ?_
          refine aw_tE (nI q) h5 ?_
          refine ax_callV2v (M' := MX3_fail) (ci := 3) dX3_takeNumber_87 lmX3_60 oX3_fail (by decide +kernel) (by assumption) rfl rfl (Nat.le_of_ble_eq_true rfl) (f_X3_fail _ _) ?_
          refine aw_goto (tgt := 98) dX3_takeNumber_90 (by decide) ?_
          refine aw_return dX3_takeNumber_98 rfl ?_
          have ei : q + i - q = i := by omega
          first
            | (have c2 : i ≤ 2 := (nI_leI (b := 2) (by omega) (by omega)).mp c78
               exact ⟨_, rfl, rfl, _, rfl, h2, h7, h5, fun _ => ⟨h8, rfl, h3, by rw [ei]; exact h6⟩, fun z => absurd (by omega) z⟩)
            | (have c2 : ¬ i ≤ 2 := fun z => c78 ((nI_leI (b := 2) (by omega) (by omega)).mpr z)
               refine ⟨_, rfl, rfl, _, rfl, ?_⟩
               unfold flG
               rw [if_pos h8]
               exact ⟨h2, h7, h5, fun z => absurd z (by omega), fun _ => ⟨rfl, rfl, h4⟩⟩)
      · have hqL : q + i < L := Nat.lt_of_not_le fun z => c13 ((nI_leI (by omega) (by omega)).mpr z)
        refine aw_aload_n (i := 0) dX3_takeNumber_16 rfl rfl ?_
        refine ax_getr (ci := 3) 0 dX3_takeNumber_17 rfl lfX3_9 (by decide) (by assumption) (by rfl) ?_
        refine aw_aload_n (i := 0) dX3_takeNumber_20 rfl rfl ?_
        refine ax_getK (ci := 3) 3 dX3_takeNumber_21 rfl lfX3_34 (by decide) (by assumption) (by rfl) ?_
        refine aw_tE (nI (q + i)) h3 ?_
        refine ax_baldN dX3_takeNumber_24 tT (by omega) (Nat.le_of_ble_eq_true rfl) ?_
        refine aw_tE (ch (q + i)) (by rw [upk_ne (by omega)]; exact (hT.2.1 (q + i) hqL).1) ?_
        refine ax_callS1i (M' := MX3_isFigure) dX3_takeNumber_25 lmX3_117 oX3_isFigure (by decide +kernel) (Nat.le_of_ble_eq_true rfl) (f_X3_isFigure _) ?_
        refine aw_beq (tgt := 68) dX3_takeNumber_28 (by decide) (fun c28 => ?_) (fun c28 => ?_)
        · have hnf : ¬ isFi ch (q + i) := by first | exact c28 | exact (hT.no ((nI_leI (by omega) (by omega)).mp c13)).2.2.2
          rw [scn_f hnf]
          refine aw_aload_n (i := 0) dX3_takeNumber_68 rfl rfl ?_
          refine ax_getK (ci := 3) 3 dX3_takeNumber_69 rfl lfX3_34 (by decide) (by assumption) (by rfl) ?_
          refine aw_tE (nI (q + i)) h3 ?_
          refine aw_aload_n (i := 0) dX3_takeNumber_72 rfl rfl ?_
          refine ax_getK (ci := 3) 5 dX3_takeNumber_73 rfl lfX3_68 (by decide) (by assumption) (by rfl) ?_
          refine aw_tE (nI q) h5 ?_
          refine aw_isub dX3_takeNumber_76 ?_
          refine aw_tE (nI i) (by rw [pk_sub (by omega), Nat.add_sub_cancel_left]) ?_
          refine aw_iconst (v := 2) dX3_takeNumber_77 (by decide) ?_
          refine aw_icmp_le (tgt := 93) dX3_takeNumber_78 (by decide) (fun c78 => ?_) (fun c78 => ?_)
          · refine aw_aload_n (i := 0) dX3_takeNumber_93 rfl rfl ?_
            refine aw_iconst (v := 2) dX3_takeNumber_94 (by decide) ?_
            refine ax_putK (ci := 3) 4 dX3_takeNumber_95 rfl lfX3_50 (by decide) (by assumption) (by rfl) rfl rfl ?_
            refine aw_return dX3_takeNumber_98 rfl ?_
            have ei : q + i - q = i := by omega
            first
              | (have c2 : i ≤ 2 := (nI_leI (b := 2) (by omega) (by omega)).mp c78
                 exact ⟨_, rfl, rfl, _, rfl, h2, h7, h5, fun _ => ⟨h8, rfl, h3, by rw [ei]; exact h6⟩, fun z => absurd (by omega) z⟩)
              | (have c2 : ¬ i ≤ 2 := fun z => c78 ((nI_leI (b := 2) (by omega) (by omega)).mpr z)
                 refine ⟨_, rfl, rfl, _, rfl, ?_⟩
                 unfold flG
                 rw [if_pos h8]
                 exact ⟨h2, h7, h5, fun z => absurd z (by omega), fun _ => ⟨rfl, rfl, h4⟩⟩)
          · refine aw_aload_n (i := 0) dX3_takeNumber_81 rfl rfl ?_
            refine aw_iconst (v := 1) dX3_takeNumber_82 (by decide) ?_
            refine aw_aload_n (i := 0) dX3_takeNumber_83 rfl rfl ?_
            refine ax_getK (ci := 3) 5 dX3_takeNumber_84 rfl lfX3_68 (by decide) (by assumption) (by rfl) ?_
            refine aw_tE (nI q) h5 ?_
            refine ax_callV2v (M' := MX3_fail) (ci := 3) dX3_takeNumber_87 lmX3_60 oX3_fail (by decide +kernel) (by assumption) rfl rfl (Nat.le_of_ble_eq_true rfl) (f_X3_fail _ _) ?_
            refine aw_goto (tgt := 98) dX3_takeNumber_90 (by decide) ?_
            refine aw_return dX3_takeNumber_98 rfl ?_
            have ei : q + i - q = i := by omega
            first
              | (have c2 : i ≤ 2 := (nI_leI (b := 2) (by omega) (by omega)).mp c78
                 exact ⟨_, rfl, rfl, _, rfl, h2, h7, h5, fun _ => ⟨h8, rfl, h3, by rw [ei]; exact h6⟩, fun z => absurd (by omega) z⟩)
              | (have c2 : ¬ i ≤ 2 := fun z => c78 ((nI_leI (b := 2) (by omega) (by omega)).mpr z)
                 refine ⟨_, rfl, rfl, _, rfl, ?_⟩
                 unfold flG
                 rw [if_pos h8]
                 exact ⟨h2, h7, h5, fun z => absurd z (by omega), fun _ => ⟨rfl, rfl, h4⟩⟩)
        · refine aw_aload_n (i := 0) dX3_takeNumber_31 rfl rfl ?_
          refine aw_aload_n (i := 0) dX3_takeNumber_32 rfl rfl ?_
          refine ax_getK (ci := 3) 6 dX3_takeNumber_33 rfl lfX3_103 (by decide) (by assumption) (by rfl) ?_
          refine aw_tE (zVal ch q i) h6 ?_
          refine aw_bipush (v := 10) dX3_takeNumber_36 (by decide) ?_
          refine aw_imul dX3_takeNumber_38 ?_
          refine aw_aload_n (i := 0) dX3_takeNumber_39 rfl rfl ?_
          refine ax_getr (ci := 3) 0 dX3_takeNumber_40 rfl lfX3_9 (by decide) (by assumption) (by rfl) ?_
          refine aw_aload_n (i := 0) dX3_takeNumber_43 rfl rfl ?_
          refine ax_getK (ci := 3) 3 dX3_takeNumber_44 rfl lfX3_34 (by decide) (by assumption) (by rfl) ?_
          refine aw_tE (nI (q + i)) h3 ?_
          refine ax_baldN dX3_takeNumber_47 tT (by omega) (Nat.le_of_ble_eq_true rfl) ?_
          refine aw_tE (ch (q + i)) (by rw [upk_ne (by omega)]; exact (hT.2.1 (q + i) hqL).1) ?_
          refine aw_iadd dX3_takeNumber_48 ?_
          refine aw_bipush (v := 48) dX3_takeNumber_49 (by decide) ?_
          refine aw_isub dX3_takeNumber_51 ?_
          refine aw_tE (zVal ch q (i + 1)) rfl ?_
          refine ax_putK (ci := 3) 6 dX3_takeNumber_52 rfl lfX3_103 (by decide) (by assumption) (by rfl) rfl rfl ?_
          refine aw_aload_n (i := 0) dX3_takeNumber_55 rfl rfl ?_
          refine aw_dup dX3_takeNumber_56 rfl ?_
          refine ax_getK (ci := 3) 3 dX3_takeNumber_57 rfl lfX3_34 (by decide) (by assumption) (by rfl) ?_
          refine aw_tE (nI (q + i)) h3 ?_
          refine aw_iconst (v := 1) dX3_takeNumber_60 (by decide) ?_
          refine aw_iadd dX3_takeNumber_61 ?_
          refine aw_tE (nI (q + i + 1)) (nI_1 _) ?_
          refine ax_putK (ci := 3) 3 dX3_takeNumber_62 rfl lfX3_34 (by decide) (by assumption) (by rfl) rfl rfl ?_
          refine aw_goto (tgt := 5) dX3_takeNumber_65 (by decide) ?_
          have e9 : scn (isFi ch) (m + 1) (q + i) = scn (isFi ch) m (q + (i + 1)) := by rw [scn, if_pos c28]; rfl
          rw [e9]
          exact ih (i + 1) (upd (upd g1 6 (zVal ch q (i + 1))) 3 (nI (q + i + 1))) (by omega) h2 rfl h5 h8 rfl h7 h4 (by omega)
  refine aw_aload_n (i := 0) dX3_takeNumber_0 rfl rfl ?_
  refine aw_iconst (v := 0) dX3_takeNumber_1 (by decide) ?_
  refine ax_putK (ci := 3) 6 dX3_takeNumber_2 rfl lfX3_103 (by decide) (by assumption) (by rfl) rfl rfl ?_
  exact loop 161 0 (upd g 6 0) hq h2 h3 h5 h8 rfl rfl rfl (by omega)
set_option maxRecDepth 100000 in
set_option maxHeartbeats 1000000 in
theorem g_X3_next {V : am_V} {d L : Nat} {f : Nat → Nat → Int32} {g ch : Nat → Int32} {τ : Nat → Nat → Int64} (hT : tpOK f 1 L ch) {p : Nat} (hpL : p ≤ L) (h2 : g 2 = nI L) (h3 : g 3 = nI p) (h8 : g 8 = 0) : AGv V MX3_nextToken (d + 2) [.ref 61] (upk f 61 g, τ) (fun S' => ∃ g', S' = (upk f 61 g', τ) ∧ CT ch L g' (zQ ch p) ∧ g' 7 = g 7) := by
  have tR := tb_rd
  have tT := tb_tp
  have t14 := tb_B isB14
  have hL := hT.1
  refine AM.of (L := [some (.ref 61)]) (by decide +kernel) (Nat.le_of_ble_eq_true rfl) rfl ?_
  have tok : ∀ (q : Nat) (g1 : Nat → Int32), q ≤ L → g1 2 = nI L → g1 3 = nI q → g1 8 = 0 → g1 4 = 4 → g1 7 = g 7 → AW V MX3_nextToken (d + 2) 0 0 51 [some (.ref 61)] [] (hp (upk f 61 g1, τ)) (fun r' h' => ∃ S' : fm, r' = none ∧ h' = hp S' ∧ ∃ g', S' = (upk f 61 g', τ) ∧ CT ch L g' (q) ∧ g' 7 = g 7) := by
    intro q g1 hq h2 h3 h8 h4 h7
    refine aw_aload_n (i := 0) dX3_nextToken_51 rfl rfl ?_
    refine aw_aload_n (i := 0) dX3_nextToken_52 rfl rfl ?_
    refine ax_getK (ci := 3) 3 dX3_nextToken_53 rfl lfX3_34 (by decide) (by assumption) (by rfl) ?_
    refine aw_tE (nI q) h3 ?_
    refine ax_putK (ci := 3) 5 dX3_nextToken_56 rfl lfX3_68 (by decide) (by assumption) (by rfl) rfl rfl ?_
    refine aw_aload_n (i := 0) dX3_nextToken_59 rfl rfl ?_
    refine ax_getK (ci := 3) 3 dX3_nextToken_60 rfl lfX3_34 (by decide) (by assumption) (by rfl) ?_
    refine aw_tE (nI q) h3 ?_
    refine aw_aload_n (i := 0) dX3_nextToken_63 rfl rfl ?_
    refine ax_getK (ci := 3) 2 dX3_nextToken_64 rfl lfX3_30 (by decide) (by assumption) (by rfl) ?_
    refine aw_tE (nI L) h2 ?_
    refine aw_icmp_lt (tgt := 78) dX3_nextToken_67 (by decide) (fun c67 => ?_) (fun c67 => ?_)
    · have hqL : q < L := (nI_ltI (by omega) (by omega)).mp c67
      have hng := (hT.2.1 q hqL).2
      refine aw_aload_n (i := 0) dX3_nextToken_78 rfl rfl ?_
      refine ax_getr (ci := 3) 0 dX3_nextToken_79 rfl lfX3_9 (by decide) (by assumption) (by rfl) ?_
      refine aw_aload_n (i := 0) dX3_nextToken_82 rfl rfl ?_
      refine ax_getK (ci := 3) 3 dX3_nextToken_83 rfl lfX3_34 (by decide) (by assumption) (by rfl) ?_
      refine aw_tE (nI (q)) h3 ?_
      refine ax_baldN dX3_nextToken_86 tT (by omega) (Nat.le_of_ble_eq_true rfl) ?_
      refine aw_tE (ch (q)) (by rw [upk_ne (by omega)]; exact (hT.2.1 (q) hqL).1) ?_
      refine ax_callS1i (M' := MX3_isLetter) dX3_nextToken_87 lmX3_110 oX3_isLetter (by decide +kernel) (Nat.le_of_ble_eq_true rfl) (f_X3_isLetter _) ?_
      refine aw_beq (tgt := 100) dX3_nextToken_90 (by decide) (fun c90 => ?_) (fun c90 => ?_)
      · refine aw_aload_n (i := 0) dX3_nextToken_100 rfl rfl ?_
        refine ax_getr (ci := 3) 0 dX3_nextToken_101 rfl lfX3_9 (by decide) (by assumption) (by rfl) ?_
        refine aw_aload_n (i := 0) dX3_nextToken_104 rfl rfl ?_
        refine ax_getK (ci := 3) 3 dX3_nextToken_105 rfl lfX3_34 (by decide) (by assumption) (by rfl) ?_
        refine aw_tE (nI (q)) h3 ?_
        refine ax_baldN dX3_nextToken_108 tT (by omega) (Nat.le_of_ble_eq_true rfl) ?_
        refine aw_tE (ch (q)) (by rw [upk_ne (by omega)]; exact (hT.2.1 (q) hqL).1) ?_
        refine ax_callS1i (M' := MX3_isFigure) dX3_nextToken_109 lmX3_117 oX3_isFigure (by decide +kernel) (Nat.le_of_ble_eq_true rfl) (f_X3_isFigure _) ?_
        refine aw_beq (tgt := 122) dX3_nextToken_112 (by decide) (fun c112 => ?_) (fun c112 => ?_)
        · refine aw_aload_n (i := 0) dX3_nextToken_122 rfl rfl ?_
          refine ax_getr (ci := 3) 0 dX3_nextToken_123 rfl lfX3_9 (by decide) (by assumption) (by rfl) ?_
          refine aw_aload_n (i := 0) dX3_nextToken_126 rfl rfl ?_
          refine ax_getK (ci := 3) 3 dX3_nextToken_127 rfl lfX3_34 (by decide) (by assumption) (by rfl) ?_
          refine aw_tE (nI (q)) h3 ?_
          refine ax_baldN dX3_nextToken_130 tT (by omega) (Nat.le_of_ble_eq_true rfl) ?_
          refine aw_tE (ch (q)) (by rw [upk_ne (by omega)]; exact (hT.2.1 (q) hqL).1) ?_
          refine aw_bipush (v := 59) dX3_nextToken_131 (by decide) ?_
          refine aw_icmp_ne (tgt := 154) dX3_nextToken_133 (by decide) (fun c133 => ?_) (fun c133 => ?_)
          · refine aw_aload_n (i := 0) dX3_nextToken_154 rfl rfl ?_
            refine aw_iconst (v := 1) dX3_nextToken_155 (by decide) ?_
            refine aw_aload_n (i := 0) dX3_nextToken_156 rfl rfl ?_
            refine ax_getK (ci := 3) 5 dX3_nextToken_157 rfl lfX3_68 (by decide) (by assumption) (by rfl) ?_
            refine ax_callV2v (M' := MX3_fail) (ci := 3) dX3_nextToken_160 lmX3_60 oX3_fail (by decide +kernel) (by assumption) rfl rfl (Nat.le_of_ble_eq_true rfl) (f_X3_fail _ _) ?_
            refine aw_return dX3_nextToken_163 rfl ?_
            first
              | exact ⟨_, rfl, rfl, _, rfl, CT_end hT (Nat.le_of_not_lt fun z => c67 ((nI_ltI (by omega) (by omega)).mpr z)) hq h2 h8 rfl rfl h3, h7⟩
              | exact ⟨_, rfl, rfl, _, rfl, CT_name c90 hng hq h2 h8 rfl rfl rfl, h7⟩
              | exact ⟨_, rfl, rfl, _, rfl, CT_num c90 c112 hng hq hTN h4, hTN.2.1.trans h7⟩
              | exact ⟨_, rfl, rfl, _, rfl, CT_semi c90 c112 hng c133 hq h2 h8 rfl rfl rfl, h7⟩
              | (refine ⟨_, rfl, rfl, _, rfl, ?_, ?_⟩
                 · refine CT_bad c90 c112 hng c133 hq ?_ ?_ ?_ ?_ <;> (unfold flG; rw [show upd g1 5 (nI q) 8 = 0 from h8, if_pos rfl])
                   · exact h2
                   · rfl
                   · rfl
                   · exact h4
                 · unfold flG
                   rw [show upd g1 5 (nI q) 8 = 0 from h8, if_pos rfl]
                   exact h7)
          · refine aw_aload_n (i := 0) dX3_nextToken_136 rfl rfl ?_
            refine aw_dup dX3_nextToken_137 rfl ?_
            refine ax_getK (ci := 3) 3 dX3_nextToken_138 rfl lfX3_34 (by decide) (by assumption) (by rfl) ?_
            refine aw_tE (nI q) h3 ?_
            refine aw_iconst (v := 1) dX3_nextToken_141 (by decide) ?_
            refine aw_iadd dX3_nextToken_142 ?_
            refine aw_tE (nI (q + 1)) (nI_1 q) ?_
            refine ax_putK (ci := 3) 3 dX3_nextToken_143 rfl lfX3_34 (by decide) (by assumption) (by rfl) rfl rfl ?_
            refine aw_aload_n (i := 0) dX3_nextToken_146 rfl rfl ?_
            refine aw_iconst (v := 3) dX3_nextToken_147 (by decide) ?_
            refine ax_putK (ci := 3) 4 dX3_nextToken_148 rfl lfX3_50 (by decide) (by assumption) (by rfl) rfl rfl ?_
            refine aw_goto (tgt := 163) dX3_nextToken_151 (by decide) ?_
            refine aw_return dX3_nextToken_163 rfl ?_
            first
              | exact ⟨_, rfl, rfl, _, rfl, CT_end hT (Nat.le_of_not_lt fun z => c67 ((nI_ltI (by omega) (by omega)).mpr z)) hq h2 h8 rfl rfl h3, h7⟩
              | exact ⟨_, rfl, rfl, _, rfl, CT_name c90 hng hq h2 h8 rfl rfl rfl, h7⟩
              | exact ⟨_, rfl, rfl, _, rfl, CT_num c90 c112 hng hq hTN h4, hTN.2.1.trans h7⟩
              | exact ⟨_, rfl, rfl, _, rfl, CT_semi c90 c112 hng c133 hq h2 h8 rfl rfl rfl, h7⟩
              | (refine ⟨_, rfl, rfl, _, rfl, ?_, ?_⟩
                 · refine CT_bad c90 c112 hng c133 hq ?_ ?_ ?_ ?_ <;> (unfold flG; rw [show upd g1 5 (nI q) 8 = 0 from h8, if_pos rfl])
                   · exact h2
                   · rfl
                   · rfl
                   · exact h4
                 · unfold flG
                   rw [show upd g1 5 (nI q) 8 = 0 from h8, if_pos rfl]
                   exact h7)
        · refine aw_aload_n (i := 0) dX3_nextToken_115 rfl rfl ?_
          refine ax_gV0v (M' := MX3_takeNumber) (ci := 3) dX3_nextToken_116 lmX3_120 oX3_takeNumber (by decide +kernel) (by assumption) rfl rfl (Nat.le_of_ble_eq_true rfl) (g_X3_takeNumber (g := upd g1 5 (nI q)) hT hq h2 h3 rfl h8) (fun S_ h_ => ?_)
          obtain ⟨g2, rfl, hTN⟩ := h_
          refine aw_goto (tgt := 163) dX3_nextToken_119 (by decide) ?_
          refine aw_return dX3_nextToken_163 rfl ?_
          first
            | exact ⟨_, rfl, rfl, _, rfl, CT_end hT (Nat.le_of_not_lt fun z => c67 ((nI_ltI (by omega) (by omega)).mpr z)) hq h2 h8 rfl rfl h3, h7⟩
            | exact ⟨_, rfl, rfl, _, rfl, CT_name c90 hng hq h2 h8 rfl rfl rfl, h7⟩
            | exact ⟨_, rfl, rfl, _, rfl, CT_num c90 c112 hng hq hTN h4, hTN.2.1.trans h7⟩
            | exact ⟨_, rfl, rfl, _, rfl, CT_semi c90 c112 hng c133 hq h2 h8 rfl rfl rfl, h7⟩
            | (refine ⟨_, rfl, rfl, _, rfl, ?_, ?_⟩
               · refine CT_bad c90 c112 hng c133 hq ?_ ?_ ?_ ?_ <;> (unfold flG; rw [show upd g1 5 (nI q) 8 = 0 from h8, if_pos rfl])
                 · exact h2
                 · rfl
                 · rfl
                 · exact h4
               · unfold flG
                 rw [show upd g1 5 (nI q) 8 = 0 from h8, if_pos rfl]
                 exact h7)
      · refine aw_aload_n (i := 0) dX3_nextToken_93 rfl rfl ?_
        refine ax_callV0v (M' := MX3_takeName) (ci := 3) dX3_nextToken_94 lmX3_114 oX3_takeName (by decide +kernel) (by assumption) rfl rfl (Nat.le_of_ble_eq_true rfl) (f_X3_takeName (g := upd g1 5 (nI q)) hT hq h2 h3) ?_
        refine aw_goto (tgt := 163) dX3_nextToken_97 (by decide) ?_
        refine aw_return dX3_nextToken_163 rfl ?_
        first
          | exact ⟨_, rfl, rfl, _, rfl, CT_end hT (Nat.le_of_not_lt fun z => c67 ((nI_ltI (by omega) (by omega)).mpr z)) hq h2 h8 rfl rfl h3, h7⟩
          | exact ⟨_, rfl, rfl, _, rfl, CT_name c90 hng hq h2 h8 rfl rfl rfl, h7⟩
          | exact ⟨_, rfl, rfl, _, rfl, CT_num c90 c112 hng hq hTN h4, hTN.2.1.trans h7⟩
          | exact ⟨_, rfl, rfl, _, rfl, CT_semi c90 c112 hng c133 hq h2 h8 rfl rfl rfl, h7⟩
          | (refine ⟨_, rfl, rfl, _, rfl, ?_, ?_⟩
             · refine CT_bad c90 c112 hng c133 hq ?_ ?_ ?_ ?_ <;> (unfold flG; rw [show upd g1 5 (nI q) 8 = 0 from h8, if_pos rfl])
               · exact h2
               · rfl
               · rfl
               · exact h4
             · unfold flG
               rw [show upd g1 5 (nI q) 8 = 0 from h8, if_pos rfl]
               exact h7)
    · refine aw_aload_n (i := 0) dX3_nextToken_70 rfl rfl ?_
      refine aw_iconst (v := 0) dX3_nextToken_71 (by decide) ?_
      refine ax_putK (ci := 3) 4 dX3_nextToken_72 rfl lfX3_50 (by decide) (by assumption) (by rfl) rfl rfl ?_
      refine aw_goto (tgt := 163) dX3_nextToken_75 (by decide) ?_
      refine aw_return dX3_nextToken_163 rfl ?_
      first
        | exact ⟨_, rfl, rfl, _, rfl, CT_end hT (Nat.le_of_not_lt fun z => c67 ((nI_ltI (by omega) (by omega)).mpr z)) hq h2 h8 rfl rfl h3, h7⟩
        | exact ⟨_, rfl, rfl, _, rfl, CT_name c90 hng hq h2 h8 rfl rfl rfl, h7⟩
        | exact ⟨_, rfl, rfl, _, rfl, CT_num c90 c112 hng hq hTN h4, hTN.2.1.trans h7⟩
        | exact ⟨_, rfl, rfl, _, rfl, CT_semi c90 c112 hng c133 hq h2 h8 rfl rfl rfl, h7⟩
        | (refine ⟨_, rfl, rfl, _, rfl, ?_, ?_⟩
           · refine CT_bad c90 c112 hng c133 hq ?_ ?_ ?_ ?_ <;> (unfold flG; rw [show upd g1 5 (nI q) 8 = 0 from h8, if_pos rfl])
             · exact h2
             · rfl
             · rfl
             · exact h4
           · unfold flG
             rw [show upd g1 5 (nI q) 8 = 0 from h8, if_pos rfl]
             exact h7)
  have loop : ∀ (m p : Nat) (g1 : Nat → Int32), p ≤ L → g1 2 = nI L → g1 3 = nI p → g1 8 = 0 → g1 4 = 4 → g1 7 = g 7 → L - p < m → AW V MX3_nextToken (d + 2) 0 0 13 [some (.ref 61)] [] (hp (upk f 61 g1, τ)) (fun r' h' => ∃ S' : fm, r' = none ∧ h' = hp S' ∧ ∃ g', S' = (upk f 61 g', τ) ∧ CT ch L g' (scn (isSp ch) m p) ∧ g' 7 = g 7) := by
    intro m
    induction m with
    | zero => intro q g a b c e a1 a2 a3; omega
    | succ m ih =>
      intro q g1 hq h2 h3 h8 h4 h7 hm
      refine aw_aload_n (i := 0) dX3_nextToken_13 rfl rfl ?_
      refine ax_getK (ci := 3) 3 dX3_nextToken_14 rfl lfX3_34 (by decide) (by assumption) (by rfl) ?_
      refine aw_tE (nI q) h3 ?_
      refine aw_aload_n (i := 0) dX3_nextToken_17 rfl rfl ?_
      refine ax_getK (ci := 3) 2 dX3_nextToken_18 rfl lfX3_30 (by decide) (by assumption) (by rfl) ?_
      refine aw_tE (nI L) h2 ?_
      refine aw_icmp_ge (tgt := 51) dX3_nextToken_21 (by decide) (fun c21 => ?_) (fun c21 => ?_)
      · have hns : ¬ isSp ch q := by first | exact c35 | exact (hT.no ((nI_leI (by omega) (by omega)).mp c21)).2.1
        rw [scn_f hns]
        exact tok q g1 hq h2 h3 h8 h4 h7
      · have hqL : q < L := Nat.lt_of_not_le fun z => c21 ((nI_leI (by omega) (by omega)).mpr z)
        refine aw_aload_n (i := 0) dX3_nextToken_24 rfl rfl ?_
        refine ax_getr (ci := 3) 0 dX3_nextToken_25 rfl lfX3_9 (by decide) (by assumption) (by rfl) ?_
        refine aw_aload_n (i := 0) dX3_nextToken_28 rfl rfl ?_
        refine ax_getK (ci := 3) 3 dX3_nextToken_29 rfl lfX3_34 (by decide) (by assumption) (by rfl) ?_
        refine aw_tE (nI (q)) h3 ?_
        refine ax_baldN dX3_nextToken_32 tT (by omega) (Nat.le_of_ble_eq_true rfl) ?_
        refine aw_tE (ch (q)) (by rw [upk_ne (by omega)]; exact (hT.2.1 (q) hqL).1) ?_
        refine aw_bipush (v := 32) dX3_nextToken_33 (by decide) ?_
        refine aw_icmp_ne (tgt := 51) dX3_nextToken_35 (by decide) (fun c35 => ?_) (fun c35 => ?_)
        · have hns : ¬ isSp ch q := by first | exact c35 | exact (hT.no ((nI_leI (by omega) (by omega)).mp c21)).2.1
          rw [scn_f hns]
          exact tok q g1 hq h2 h3 h8 h4 h7
        · refine aw_aload_n (i := 0) dX3_nextToken_38 rfl rfl ?_
          refine aw_dup dX3_nextToken_39 rfl ?_
          refine ax_getK (ci := 3) 3 dX3_nextToken_40 rfl lfX3_34 (by decide) (by assumption) (by rfl) ?_
          refine aw_tE (nI q) h3 ?_
          refine aw_iconst (v := 1) dX3_nextToken_43 (by decide) ?_
          refine aw_iadd dX3_nextToken_44 ?_
          refine aw_tE (nI (q + 1)) (nI_1 q) ?_
          refine ax_putK (ci := 3) 3 dX3_nextToken_45 rfl lfX3_34 (by decide) (by assumption) (by rfl) rfl rfl ?_
          refine aw_goto (tgt := 13) dX3_nextToken_48 (by decide) ?_
          rw [scn, if_pos c35]
          exact ih (q + 1) (upd g1 3 (nI (q + 1))) (by omega) h2 rfl h8 h4 h7 (by omega)
  refine aw_aload_n (i := 0) dX3_nextToken_0 rfl rfl ?_
  refine aw_iconst (v := 4) dX3_nextToken_1 (by decide) ?_
  refine ax_putK (ci := 3) 4 dX3_nextToken_2 rfl lfX3_50 (by decide) (by assumption) (by rfl) rfl rfl ?_
  refine aw_aload_n (i := 0) dX3_nextToken_5 rfl rfl ?_
  refine ax_getK (ci := 3) 8 dX3_nextToken_6 rfl lfX3_41 (by decide) (by assumption) (by rfl) ?_
  refine aw_if_eq (tgt := 13) dX3_nextToken_9 (by decide) (fun c9 => ?_) (fun c9 => ?_)
  · exact loop 161 p (upd g 4 4) hpL h2 h3 h8 rfl rfl (by omega)
  · exact absurd h8 c9
set_option maxRecDepth 100000 in
set_option maxHeartbeats 1000000 in
theorem f_X3_nextF {V : am_V} {d : Nat} {f : Nat → Nat → Int32} {g : Nat → Int32} {τ : Nat → Nat → Int64} (h8 : ¬ g 8 = 0) : AF V MX3_nextToken d [.ref 61] (upk f 61 g, τ) none (upk f 61 (upd g 4 4), τ) := by
  have tR := tb_rd
  have tT := tb_tp
  have t14 := tb_B isB14
  refine AM.of (L := [some (.ref 61)]) (by decide +kernel) (Nat.le_of_ble_eq_true rfl) rfl ?_
  refine aw_aload_n (i := 0) dX3_nextToken_0 rfl rfl ?_
  refine aw_iconst (v := 4) dX3_nextToken_1 (by decide) ?_
  refine ax_putK (ci := 3) 4 dX3_nextToken_2 rfl lfX3_50 (by decide) (by assumption) (by rfl) rfl rfl ?_
  refine aw_aload_n (i := 0) dX3_nextToken_5 rfl rfl ?_
  refine ax_getK (ci := 3) 8 dX3_nextToken_6 rfl lfX3_41 (by decide) (by assumption) (by rfl) ?_
  refine aw_if_eq (tgt := 13) dX3_nextToken_9 (by decide) (fun c9 => ?_) (fun c9 => ?_)
  · exact absurd c9 h8
  · refine aw_return dX3_nextToken_12 rfl ?_
    exact ⟨rfl, rfl⟩
