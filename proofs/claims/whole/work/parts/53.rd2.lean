theorem nI_6 {c : Nat} (h : 1 ≤ c ∧ c ≤ 6) : ¬ nI c = 0 := nI_ne0 (by omega) (by omega)
theorem flG_f {g : Nat → Int32} {c p : Int32} (h : ¬ g 8 = 0) : flG g c p = g := if_neg h
theorem flG_t {g : Nat → Int32} {c p : Int32} (h : g 8 = 0) : flG g c p = upd (upd g 8 c) 9 p := if_pos h
theorem flG_7 (g : Nat → Int32) (c p : Int32) : flG g c p 7 = g 7 := by
  unfold flG
  split <;> rfl
theorem CT_4 {ch g : Nat → Int32} {L q k : Nat} (h : CT ch L g q) (hk : k ≤ 3) : g 4 = nI k ↔ zk ch q = k := by
  have hz := zk_le ch q
  constructor
  · intro e
    by_cases z : zk ch q = 4
    · have e2 := (h.2.2.1 z).2.2
      rw [e] at e2
      exact absurd ((nI_eq (b := 4) (by omega) (by omega)).mp e2) (by omega)
    · have e2 := (h.2.2.2 z).2.1
      rw [e] at e2
      exact ((nI_eq (by omega) (by omega)).mp e2).symm
  · intro e
    have e2 := (h.2.2.2 (by omega)).2.1
    rw [e2, e]
/-- a number was asked for at p, and none stands there -/
theorem rn_not {f : Nat → Nat → Int32} {c : Nat} {ch g : Nat → Int32} {L p : Nat} {lo hi : Int32} (hT : tpOK f c L ch) (h : CT ch L g (zQ ch p)) (h4 : ¬ g 4 = 2) : CS L (flG g 2 (g 5)) (pNum ch lo hi (.inl p)).2 ∧ ∀ r x, (pNum ch lo hi (.inl p)).2 = .inl r → x = (pNum ch lo hi (.inl p)).1 := by
  have n2 : ¬ zk ch (zQ ch p) = 2 := fun z => h4 ((CT_4 (k := 2) h (by omega)).mpr z)
  rw [pNum_l]
  by_cases z : zk ch (zQ ch p) = 4
  · rw [if_pos z]
    obtain ⟨a, b, -⟩ := h.2.2.1 z
    rw [flG_f (by rw [a]; decide)]
    exact ⟨⟨a, ⟨Nat.le_of_ble_eq_true rfl, Nat.le_of_ble_eq_true rfl⟩, b, h.1⟩, fun r x q => by cases q⟩
  · rw [if_neg z, if_neg n2]
    obtain ⟨a, -, b, -⟩ := h.2.2.2 z
    rw [flG_t a]
    exact ⟨⟨rfl, ⟨Nat.le_of_ble_eq_true rfl, Nat.le_of_ble_eq_true rfl⟩, b, h.1⟩, fun r x q => by cases q⟩
theorem rn_in {f : Nat → Nat → Int32} {c : Nat} {ch g : Nat → Int32} {L p : Nat} {lo hi : Int32} (hT : tpOK f c L ch) (h : CT ch L g (zQ ch p)) (h4 : g 4 = 2) (hv : lo ≤ g 6 ∧ g 6 ≤ hi) : CS L g (pNum ch lo hi (.inl p)).2 ∧ ∀ r, (pNum ch lo hi (.inl p)).2 = .inl r → g 6 = (pNum ch lo hi (.inl p)).1 := by
  have z : zk ch (zQ ch p) = 2 := (CT_4 (k := 2) h (by omega)).mp h4
  obtain ⟨a, -, b, c3, e⟩ := h.2.2.2 (by omega)
  have e6 := e z
  rw [e6] at hv
  rw [pNum_l, if_neg (by omega), if_pos z, if_pos hv]
  exact ⟨⟨a, c3, zr_le hT h.2.1, h.1⟩, fun r _ => e6⟩
theorem rn_out {f : Nat → Nat → Int32} {c : Nat} {ch g : Nat → Int32} {L p : Nat} {lo hi : Int32} (hT : tpOK f c L ch) (h : CT ch L g (zQ ch p)) (h4 : g 4 = 2) (hv : ¬ (lo ≤ g 6 ∧ g 6 ≤ hi)) : CS L (flG g 3 (g 5)) (pNum ch lo hi (.inl p)).2 ∧ ∀ r x, (pNum ch lo hi (.inl p)).2 = .inl r → x = (pNum ch lo hi (.inl p)).1 := by
  have z : zk ch (zQ ch p) = 2 := (CT_4 (k := 2) h (by omega)).mp h4
  obtain ⟨a, -, b, c3, e⟩ := h.2.2.2 (by omega)
  rw [e z] at hv
  rw [pNum_l, if_neg (by omega), if_pos z, if_neg hv, flG_t a]
  exact ⟨⟨rfl, ⟨Nat.le_of_ble_eq_true rfl, Nat.le_of_ble_eq_true rfl⟩, b, h.1⟩, fun r x q => by cases q⟩
theorem rs_not {f : Nat → Nat → Int32} {c : Nat} {ch g : Nat → Int32} {L p : Nat} (hT : tpOK f c L ch) (h : CT ch L g (zQ ch p)) (h4 : ¬ g 4 = 3) : CS L (flG g 2 (g 5)) (pSemi ch (.inl p)) := by
  have n2 : ¬ zk ch (zQ ch p) = 3 := fun z => h4 ((CT_4 (k := 3) h (by omega)).mpr z)
  rw [pSemi_l]
  by_cases z : zk ch (zQ ch p) = 4
  · rw [if_pos z]
    obtain ⟨a, b, -⟩ := h.2.2.1 z
    rw [flG_f (by rw [a]; decide)]
    exact ⟨a, ⟨Nat.le_of_ble_eq_true rfl, Nat.le_of_ble_eq_true rfl⟩, b, h.1⟩
  · rw [if_neg z, if_neg n2]
    obtain ⟨a, -, b, -⟩ := h.2.2.2 z
    rw [flG_t a]
    exact ⟨rfl, ⟨Nat.le_of_ble_eq_true rfl, Nat.le_of_ble_eq_true rfl⟩, b, h.1⟩
theorem rs_in {f : Nat → Nat → Int32} {c : Nat} {ch g : Nat → Int32} {L p : Nat} (hT : tpOK f c L ch) (h : CT ch L g (zQ ch p)) (h4 : g 4 = 3) : CS L g (pSemi ch (.inl p)) := by
  have z : zk ch (zQ ch p) = 3 := (CT_4 (k := 3) h (by omega)).mp h4
  obtain ⟨a, -, b, c3, e⟩ := h.2.2.2 (by omega)
  rw [pSemi_l, if_neg (by omega), if_pos z]
  exact ⟨a, c3, zr_le hT h.2.1, h.1⟩
set_option maxRecDepth 100000 in
set_option maxHeartbeats 1000000 in
theorem g_X3_readNumber {V : am_V} {d L : Nat} {f : Nat → Nat → Int32} {g ch : Nat → Int32} {τ : Nat → Nat → Int64} (hT : tpOK f 1 L ch) {s : sg} (hs : CS L g s) (lo hi : Int32) : AGi V MX3_readNumber (d + 3) [.ref 61, .int lo, .int hi] (upk f 61 g, τ) (fun x S' => ∃ g', S' = (upk f 61 g', τ) ∧ CS L g' (pNum ch lo hi s).2 ∧ (∀ r, (pNum ch lo hi s).2 = .inl r → x = (pNum ch lo hi s).1) ∧ g' 7 = g 7) := by
  have tR := tb_rd
  have tT := tb_tp
  have t14 := tb_B isB14
  refine AM.of (L := [some (.ref 61), some (.int lo), some (.int hi)]) (by decide +kernel) (Nat.le_of_ble_eq_true rfl) rfl ?_
  cases s with
  | inr x =>
    have h8 : ¬ g 8 = 0 := by rw [hs.1]; exact nI_6 hs.2.1
    refine aw_aload_n (i := 0) dX3_readNumber_0 rfl rfl ?_
    refine ax_callV0v (M' := MX3_nextToken) (ci := 3) dX3_readNumber_1 lmX3_47 oX3_nextToken (by decide +kernel) (by assumption) rfl rfl (Nat.le_of_ble_eq_true rfl) (f_X3_nextF h8) ?_
    refine aw_aload_n (i := 0) dX3_readNumber_4 rfl rfl ?_
    refine ax_getK (ci := 3) 4 dX3_readNumber_5 rfl lfX3_50 (by decide) (by assumption) (by rfl) ?_
    refine aw_iconst (v := 2) dX3_readNumber_8 (by decide) ?_
    refine aw_icmp_eq (tgt := 24) dX3_readNumber_9 (by decide) (fun c9 => ?_) (fun c9 => ?_)
    · exact absurd c9 (by show ¬ (4 : Int32) = 2; decide)
    · refine aw_aload_n (i := 0) dX3_readNumber_12 rfl rfl ?_
      refine aw_iconst (v := 2) dX3_readNumber_13 (by decide) ?_
      refine aw_aload_n (i := 0) dX3_readNumber_14 rfl rfl ?_
      refine ax_getK (ci := 3) 5 dX3_readNumber_15 rfl lfX3_68 (by decide) (by assumption) (by rfl) ?_
      refine ax_callV2v (M' := MX3_fail) (ci := 3) dX3_readNumber_18 lmX3_60 oX3_fail (by decide +kernel) (by assumption) rfl rfl (Nat.le_of_ble_eq_true rfl) (f_X3_fail _ _) ?_
      refine aw_goto (tgt := 45) dX3_readNumber_21 (by decide) ?_
      refine aw_aload_n (i := 0) dX3_readNumber_45 rfl rfl ?_
      refine ax_getK (ci := 3) 6 dX3_readNumber_46 rfl lfX3_103 (by decide) (by assumption) (by rfl) ?_
      refine aw_ireturn (ty := .int) dX3_readNumber_49 rfl rfl ?_
      exact ⟨_, _, rfl, rfl, _, rfl, by rw [flG_f (show ¬ upd g 4 4 8 = 0 from h8)]; exact hs, fun r q => (by cases q), flG_7 _ _ _⟩
  | inl p =>
    refine aw_aload_n (i := 0) dX3_readNumber_0 rfl rfl ?_
    refine ax_gV0v (M' := MX3_nextToken) (ci := 3) dX3_readNumber_1 lmX3_47 oX3_nextToken (by decide +kernel) (by assumption) rfl rfl (Nat.le_of_ble_eq_true rfl) (g_X3_next hT hs.2.2.1 hs.2.2.2 hs.2.1 hs.1) (fun S_ h_ => ?_)
    obtain ⟨g1, rfl, hC, h7⟩ := h_
    refine aw_aload_n (i := 0) dX3_readNumber_4 rfl rfl ?_
    refine ax_getK (ci := 3) 4 dX3_readNumber_5 rfl lfX3_50 (by decide) (by assumption) (by rfl) ?_
    refine aw_iconst (v := 2) dX3_readNumber_8 (by decide) ?_
    refine aw_icmp_eq (tgt := 24) dX3_readNumber_9 (by decide) (fun c9 => ?_) (fun c9 => ?_)
    · refine aw_aload_n (i := 0) dX3_readNumber_24 rfl rfl ?_
      refine ax_getK (ci := 3) 6 dX3_readNumber_25 rfl lfX3_103 (by decide) (by assumption) (by rfl) ?_
      refine aw_iload_n (i := 1) dX3_readNumber_28 rfl rfl ?_
      refine aw_iload_n (i := 2) dX3_readNumber_29 rfl rfl ?_
      refine ax_callSN3i (M' := MX4_within) dX3_readNumber_30 (List.mem_of_getElem? (i := 1) rfl) oX4_within (by decide +kernel) (Nat.le_of_ble_eq_true rfl) (f_X4_within _ _ _) ?_
      refine aw_bne (tgt := 45) dX3_readNumber_33 (by decide) (fun c33 => ?_) (fun c33 => ?_)
      · refine aw_aload_n (i := 0) dX3_readNumber_45 rfl rfl ?_
        refine ax_getK (ci := 3) 6 dX3_readNumber_46 rfl lfX3_103 (by decide) (by assumption) (by rfl) ?_
        refine aw_ireturn (ty := .int) dX3_readNumber_49 rfl rfl ?_
        first
          | exact ⟨_, _, rfl, rfl, _, rfl, (rn_in hT hC c9 c33).1, (rn_in hT hC c9 c33).2, h7⟩
          | exact ⟨_, _, rfl, rfl, _, rfl, (rn_not hT hC c9).1, fun r => (rn_not hT hC c9).2 r _, (flG_7 _ _ _).trans h7⟩
          | exact ⟨_, _, rfl, rfl, _, rfl, (rn_out hT hC c9 c33).1, fun r => (rn_out hT hC c9 c33).2 r _, (flG_7 _ _ _).trans h7⟩
      · refine aw_aload_n (i := 0) dX3_readNumber_36 rfl rfl ?_
        refine aw_iconst (v := 3) dX3_readNumber_37 (by decide) ?_
        refine aw_aload_n (i := 0) dX3_readNumber_38 rfl rfl ?_
        refine ax_getK (ci := 3) 5 dX3_readNumber_39 rfl lfX3_68 (by decide) (by assumption) (by rfl) ?_
        refine ax_callV2v (M' := MX3_fail) (ci := 3) dX3_readNumber_42 lmX3_60 oX3_fail (by decide +kernel) (by assumption) rfl rfl (Nat.le_of_ble_eq_true rfl) (f_X3_fail _ _) ?_
        refine aw_aload_n (i := 0) dX3_readNumber_45 rfl rfl ?_
        refine ax_getK (ci := 3) 6 dX3_readNumber_46 rfl lfX3_103 (by decide) (by assumption) (by rfl) ?_
        refine aw_ireturn (ty := .int) dX3_readNumber_49 rfl rfl ?_
        first
          | exact ⟨_, _, rfl, rfl, _, rfl, (rn_in hT hC c9 c33).1, (rn_in hT hC c9 c33).2, h7⟩
          | exact ⟨_, _, rfl, rfl, _, rfl, (rn_not hT hC c9).1, fun r => (rn_not hT hC c9).2 r _, (flG_7 _ _ _).trans h7⟩
          | exact ⟨_, _, rfl, rfl, _, rfl, (rn_out hT hC c9 c33).1, fun r => (rn_out hT hC c9 c33).2 r _, (flG_7 _ _ _).trans h7⟩
    · refine aw_aload_n (i := 0) dX3_readNumber_12 rfl rfl ?_
      refine aw_iconst (v := 2) dX3_readNumber_13 (by decide) ?_
      refine aw_aload_n (i := 0) dX3_readNumber_14 rfl rfl ?_
      refine ax_getK (ci := 3) 5 dX3_readNumber_15 rfl lfX3_68 (by decide) (by assumption) (by rfl) ?_
      refine ax_callV2v (M' := MX3_fail) (ci := 3) dX3_readNumber_18 lmX3_60 oX3_fail (by decide +kernel) (by assumption) rfl rfl (Nat.le_of_ble_eq_true rfl) (f_X3_fail _ _) ?_
      refine aw_goto (tgt := 45) dX3_readNumber_21 (by decide) ?_
      refine aw_aload_n (i := 0) dX3_readNumber_45 rfl rfl ?_
      refine ax_getK (ci := 3) 6 dX3_readNumber_46 rfl lfX3_103 (by decide) (by assumption) (by rfl) ?_
      refine aw_ireturn (ty := .int) dX3_readNumber_49 rfl rfl ?_
      first
        | exact ⟨_, _, rfl, rfl, _, rfl, (rn_in hT hC c9 c33).1, (rn_in hT hC c9 c33).2, h7⟩
        | exact ⟨_, _, rfl, rfl, _, rfl, (rn_not hT hC c9).1, fun r => (rn_not hT hC c9).2 r _, (flG_7 _ _ _).trans h7⟩
        | exact ⟨_, _, rfl, rfl, _, rfl, (rn_out hT hC c9 c33).1, fun r => (rn_out hT hC c9 c33).2 r _, (flG_7 _ _ _).trans h7⟩
set_option maxRecDepth 100000 in
set_option maxHeartbeats 1000000 in
theorem g_X3_readSemicolon {V : am_V} {d L : Nat} {f : Nat → Nat → Int32} {g ch : Nat → Int32} {τ : Nat → Nat → Int64} (hT : tpOK f 1 L ch) {s : sg} (hs : CS L g s) : AGv V MX3_readSemicolon (d + 3) [.ref 61] (upk f 61 g, τ) (fun S' => ∃ g', S' = (upk f 61 g', τ) ∧ CS L g' (pSemi ch s) ∧ g' 7 = g 7) := by
  have tR := tb_rd
  have tT := tb_tp
  have t14 := tb_B isB14
  refine AM.of (L := [some (.ref 61)]) (by decide +kernel) (Nat.le_of_ble_eq_true rfl) rfl ?_
  cases s with
  | inr x =>
    have h8 : ¬ g 8 = 0 := by rw [hs.1]; exact nI_6 hs.2.1
    refine aw_aload_n (i := 0) dX3_readSemicolon_0 rfl rfl ?_
    refine ax_callV0v (M' := MX3_nextToken) (ci := 3) dX3_readSemicolon_1 lmX3_47 oX3_nextToken (by decide +kernel) (by assumption) rfl rfl (Nat.le_of_ble_eq_true rfl) (f_X3_nextF h8) ?_
    refine aw_aload_n (i := 0) dX3_readSemicolon_4 rfl rfl ?_
    refine ax_getK (ci := 3) 4 dX3_readSemicolon_5 rfl lfX3_50 (by decide) (by assumption) (by rfl) ?_
    refine aw_iconst (v := 3) dX3_readSemicolon_8 (by decide) ?_
    refine aw_icmp_eq (tgt := 21) dX3_readSemicolon_9 (by decide) (fun c9 => ?_) (fun c9 => ?_)
    · exact absurd c9 (by show ¬ (4 : Int32) = 3; decide)
    · refine aw_aload_n (i := 0) dX3_readSemicolon_12 rfl rfl ?_
      refine aw_iconst (v := 2) dX3_readSemicolon_13 (by decide) ?_
      refine aw_aload_n (i := 0) dX3_readSemicolon_14 rfl rfl ?_
      refine ax_getK (ci := 3) 5 dX3_readSemicolon_15 rfl lfX3_68 (by decide) (by assumption) (by rfl) ?_
      refine ax_callV2v (M' := MX3_fail) (ci := 3) dX3_readSemicolon_18 lmX3_60 oX3_fail (by decide +kernel) (by assumption) rfl rfl (Nat.le_of_ble_eq_true rfl) (f_X3_fail _ _) ?_
      refine aw_return dX3_readSemicolon_21 rfl ?_
      exact ⟨_, rfl, rfl, _, rfl, by rw [flG_f (show ¬ upd g 4 4 8 = 0 from h8)]; exact hs, flG_7 _ _ _⟩
  | inl p =>
    refine aw_aload_n (i := 0) dX3_readSemicolon_0 rfl rfl ?_
    refine ax_gV0v (M' := MX3_nextToken) (ci := 3) dX3_readSemicolon_1 lmX3_47 oX3_nextToken (by decide +kernel) (by assumption) rfl rfl (Nat.le_of_ble_eq_true rfl) (g_X3_next hT hs.2.2.1 hs.2.2.2 hs.2.1 hs.1) (fun S_ h_ => ?_)
    obtain ⟨g1, rfl, hC, h7⟩ := h_
    refine aw_aload_n (i := 0) dX3_readSemicolon_4 rfl rfl ?_
    refine ax_getK (ci := 3) 4 dX3_readSemicolon_5 rfl lfX3_50 (by decide) (by assumption) (by rfl) ?_
    refine aw_iconst (v := 3) dX3_readSemicolon_8 (by decide) ?_
    refine aw_icmp_eq (tgt := 21) dX3_readSemicolon_9 (by decide) (fun c9 => ?_) (fun c9 => ?_)
    · refine aw_return dX3_readSemicolon_21 rfl ?_
      first | exact ⟨_, rfl, rfl, _, rfl, rs_in hT hC c9, h7⟩ | exact ⟨_, rfl, rfl, _, rfl, rs_not hT hC c9, (flG_7 _ _ _).trans h7⟩
    · refine aw_aload_n (i := 0) dX3_readSemicolon_12 rfl rfl ?_
      refine aw_iconst (v := 2) dX3_readSemicolon_13 (by decide) ?_
      refine aw_aload_n (i := 0) dX3_readSemicolon_14 rfl rfl ?_
      refine ax_getK (ci := 3) 5 dX3_readSemicolon_15 rfl lfX3_68 (by decide) (by assumption) (by rfl) ?_
      refine ax_callV2v (M' := MX3_fail) (ci := 3) dX3_readSemicolon_18 lmX3_60 oX3_fail (by decide +kernel) (by assumption) rfl rfl (Nat.le_of_ble_eq_true rfl) (f_X3_fail _ _) ?_
      refine aw_return dX3_readSemicolon_21 rfl ?_
      first | exact ⟨_, rfl, rfl, _, rfl, rs_in hT hC c9, h7⟩ | exact ⟨_, rfl, rfl, _, rfl, rs_not hT hC c9, (flG_7 _ _ _).trans h7⟩
set_option maxRecDepth 100000 in
set_option maxHeartbeats 1000000 in
theorem f_X3_nameIs {V : am_V} {d L : Nat} {f : Nat → Nat → Int32} {g ch : Nat → Int32} {τ : Nat → Nat → Int64} (hT : tpOK f 1 L ch) {q r i : Nat} (hi : i < 6) (hqr : q ≤ r) (hr : r ≤ L) (h3 : g 3 = nI r) (h5 : g 5 = nI q) : AF V MX3_nameIs (d + 4) [.ref 61, .ref (1000000 + i)] (upk f 61 g, τ) (some (.int (b2i (nmE ch q r i)))) (upk f 61 g, τ) := by
  have tR := tb_rd
  have tT := tb_tp
  have t14 := tb_B isB14
  have hL := hT.1
  have hl5 := tx_len hi
  refine AM.of (L := [some (.ref 61), some (.ref (1000000 + i)), none]) (by decide +kernel) (Nat.le_of_ble_eq_true rfl) rfl ?_
  have loop : ∀ (m j : Nat), r - q = am_txL.getD i 0 → j ≤ am_txL.getD i 0 → am_txL.getD i 0 - j < m → (∀ u, u < j → ch (q + u) = (am_txB.getD i []).getD u 0) → AW V MX3_nameIs (d + 4) 0 0 20 [some (.ref 61), some (.ref (1000000 + i)), some (.int (nI j))] [] (hp (upk f 61 g, τ)) (fun r' h' => r' = some (.int (b2i (nmE ch q r i))) ∧ h' = hp (upk f 61 g, τ)) := by
    intro m
    induction m with
    | zero => intro j a b c e; omega
    | succ m ih =>
      intro j hrq hj hm hall
      refine aw_iload_n (i := 2) dX3_nameIs_20 rfl rfl ?_
      refine aw_aload_n (i := 1) dX3_nameIs_21 rfl rfl ?_
      refine ax_callVS (M' := MJ0_length_8abf5) (as := []) hi dX3_nameIs_22 lmX3_131 oJ0_length_8abf5 (by decide +kernel) rfl rfl (Nat.le_of_ble_eq_true rfl) (f_J0_length_8abf5 hi) ?_
      refine aw_icmp_ge (tgt := 55) dX3_nameIs_25 (by decide) (fun c25 => ?_) (fun c25 => ?_)
      · refine aw_iconst (v := 1) dX3_nameIs_55 (by decide) ?_
        refine aw_ireturn (ty := .boolean) dX3_nameIs_56 rfl (by decide) ?_
        exact ⟨congrArg (fun z => some (Value.int z)) (b2i_t ⟨hrq, fun u hu => hall u (Nat.lt_of_lt_of_le hu ((nI_leI (by omega) (by omega)).mp c25))⟩).symm, rfl⟩
      · have hjl : j < am_txL.getD i 0 := Nat.lt_of_not_le fun z => c25 ((nI_leI (by omega) (by omega)).mpr z)
        refine aw_aload_n (i := 0) dX3_nameIs_28 rfl rfl ?_
        refine ax_getr (ci := 3) 0 dX3_nameIs_29 rfl lfX3_9 (by decide) (by assumption) (by rfl) ?_
        refine aw_aload_n (i := 0) dX3_nameIs_32 rfl rfl ?_
        refine ax_getK (ci := 3) 5 dX3_nameIs_33 rfl lfX3_68 (by decide) (by assumption) (by rfl) ?_
        refine aw_tE (nI q) h5 ?_
        refine aw_iload_n (i := 2) dX3_nameIs_36 rfl rfl ?_
        refine aw_iadd dX3_nameIs_37 ?_
        refine aw_tE (nI (q + j)) (nI_add q j) ?_
        refine ax_baldN dX3_nameIs_38 tT (by omega) (Nat.le_of_ble_eq_true rfl) ?_
        refine aw_tE (ch (q + j)) (by rw [upk_ne (by omega)]; exact (hT.2.1 (q + j) (by omega)).1) ?_
        refine aw_aload_n (i := 1) dX3_nameIs_39 rfl rfl ?_
        refine aw_iload_n (i := 2) dX3_nameIs_40 rfl rfl ?_
        refine ax_callVS (M' := MJ0_charAt_5068e) (as := [.int (nI j)]) hi dX3_nameIs_41 lmX3_135 oJ0_charAt_5068e (by show _ = some 1; decide +kernel) rfl rfl (Nat.le_of_ble_eq_true rfl) (f_J0_charAt_5068e hi hjl) ?_
        refine aw_icmp_eq (tgt := 49) dX3_nameIs_44 (by decide) (fun c44 => ?_) (fun c44 => ?_)
        · refine aw_incN (L' := [_, _, _]) dX3_nameIs_49 rfl (Nat.le_of_ble_eq_true rfl) rfl rfl ?_
          refine aw_goto (tgt := 20) dX3_nameIs_52 (by decide) ?_
          refine ih (j + 1) hrq (by omega) (by omega) (fun u hu => ?_)
          rcases (show u = j ∨ u < j by omega) with rfl | h
          · exact c44
          · exact hall u h
        · refine aw_iconst (v := 0) dX3_nameIs_47 (by decide) ?_
          refine aw_ireturn (ty := .boolean) dX3_nameIs_48 rfl (by decide) ?_
          exact ⟨congrArg (fun z => some (Value.int z)) (b2i_f (fun z => c44 (z.2 j hjl))).symm, rfl⟩
  refine aw_aload_n (i := 0) dX3_nameIs_0 rfl rfl ?_
  refine ax_getK (ci := 3) 3 dX3_nameIs_1 rfl lfX3_34 (by decide) (by assumption) (by rfl) ?_
  refine aw_tE (nI r) h3 ?_
  refine aw_aload_n (i := 0) dX3_nameIs_4 rfl rfl ?_
  refine ax_getK (ci := 3) 5 dX3_nameIs_5 rfl lfX3_68 (by decide) (by assumption) (by rfl) ?_
  refine aw_tE (nI q) h5 ?_
  refine aw_isub dX3_nameIs_8 ?_
  refine aw_tE (nI (r - q)) (pk_sub hqr) ?_
  refine aw_aload_n (i := 1) dX3_nameIs_9 rfl rfl ?_
  refine ax_callVS (M' := MJ0_length_8abf5) (as := []) hi dX3_nameIs_10 lmX3_131 oJ0_length_8abf5 (by decide +kernel) rfl rfl (Nat.le_of_ble_eq_true rfl) (f_J0_length_8abf5 hi) ?_
  refine aw_icmp_eq (tgt := 18) dX3_nameIs_13 (by decide) (fun c13 => ?_) (fun c13 => ?_)
  · refine aw_iconst (v := 0) dX3_nameIs_18 (by decide) ?_
    refine aw_istore_n (i := 2) (L' := [_, _, _]) dX3_nameIs_19 rfl (Nat.le_of_ble_eq_true rfl) rfl rfl ?_
    exact loop 161 0 ((nI_eq (by omega) (by omega)).mp c13) (Nat.zero_le _) (by omega) (fun u hu => absurd hu (by omega))
  · refine aw_iconst (v := 0) dX3_nameIs_16 (by decide) ?_
    refine aw_ireturn (ty := .boolean) dX3_nameIs_17 rfl (by decide) ?_
    exact ⟨congrArg (fun z => some (Value.int z)) (b2i_f (fun z => c13 (by rw [z.1]))).symm, rfl⟩
set_option maxRecDepth 100000 in
set_option maxHeartbeats 1000000 in
theorem f_X3_lineNamed {V : am_V} {d L : Nat} {f : Nat → Nat → Int32} {g ch : Nat → Int32} {τ : Nat → Nat → Int64} (hT : tpOK f 1 L ch) {q r : Nat} (hqr : q ≤ r) (hr : r ≤ L) (h3 : g 3 = nI r) (h5 : g 5 = nI q) : AF V MX3_lineNamed (d + 5) [.ref 61] (upk f 61 g, τ) (some (.int (nmF ch q r 6 0))) (upk f 61 g, τ) := by
  have tR := tb_rd
  have tT := tb_tp
  have t14 := tb_B isB14
  refine AM.of (L := [some (.ref 61), none]) (by decide +kernel) (Nat.le_of_ble_eq_true rfl) rfl ?_
  have loop : ∀ (m i : Nat), i + m = 6 → AW V MX3_lineNamed (d + 5) 0 0 2 [some (.ref 61), some (.int (nI i))] [] (hp (upk f 61 g, τ)) (fun r' h' => r' = some (.int (nmF ch q r m i)) ∧ h' = hp (upk f 61 g, τ)) := by
    intro m
    induction m with
    | zero =>
      intro i hm
      have hi : i = 6 := by omega
      subst hi
      refine aw_iload_n (i := 1) dX3_lineNamed_2 rfl rfl ?_
      refine aw_bipush (v := 6) dX3_lineNamed_3 (by decide) ?_
      refine aw_icmp_ge (tgt := 27) dX3_lineNamed_5 (by decide) (fun c5 => ?_) (fun c5 => ?_)
      · refine aw_bipush (v := -4) dX3_lineNamed_27 (by decide) ?_
        refine aw_ireturn (ty := .int) dX3_lineNamed_29 rfl rfl ?_
        exact ⟨rfl, rfl⟩
      · exact absurd (show nI 6 ≤ nI 6 from Int32.le_refl _) c5
    | succ m ih =>
      intro i hm
      have hi : i < 6 := by omega
      refine aw_iload_n (i := 1) dX3_lineNamed_2 rfl rfl ?_
      refine aw_bipush (v := 6) dX3_lineNamed_3 (by decide) ?_
      refine aw_icmp_ge (tgt := 27) dX3_lineNamed_5 (by decide) (fun c5 => ?_) (fun c5 => ?_)
      · exact absurd ((nI_leI (a := 6) (by omega) (by omega)).mp c5) (by omega)
      · refine aw_aload_n (i := 0) dX3_lineNamed_8 rfl rfl ?_
        refine aw_iload_n (i := 1) dX3_lineNamed_9 rfl rfl ?_
        refine ax_callS1r (M' := MX3_lineName) dX3_lineNamed_10 lmX3_123 oX3_lineName (by decide +kernel) (Nat.le_of_ble_eq_true rfl) (f_X3_lineName hi) ?_
        refine ax_callV1i (M' := MX3_nameIs) (ci := 3) dX3_lineNamed_13 lmX3_127 oX3_nameIs (by decide +kernel) (by assumption) rfl rfl (Nat.le_of_ble_eq_true rfl) (f_X3_nameIs hT hi hqr hr h3 h5) ?_
        refine aw_beq (tgt := 21) dX3_lineNamed_16 (by decide) (fun c16 => ?_) (fun c16 => ?_)
        · refine aw_incN (L' := [_, _]) dX3_lineNamed_21 rfl (Nat.le_of_ble_eq_true rfl) rfl rfl ?_
          refine aw_goto (tgt := 2) dX3_lineNamed_24 (by decide) ?_
          rw [nmF, if_neg c16]
          exact ih (i + 1) (by omega)
        · refine aw_iload_n (i := 1) dX3_lineNamed_19 rfl rfl ?_
          refine aw_ireturn (ty := .int) dX3_lineNamed_20 rfl rfl ?_
          rw [nmF, if_pos c16]
          exact ⟨rfl, rfl⟩
  refine aw_iconst (v := 0) dX3_lineNamed_0 (by decide) ?_
  refine aw_istore_n (i := 1) (L' := [_, _]) dX3_lineNamed_1 rfl (Nat.le_of_ble_eq_true rfl) rfl rfl ?_
  exact loop 6 0 rfl
