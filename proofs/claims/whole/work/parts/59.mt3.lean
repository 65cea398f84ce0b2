section AXD
variable {V : am_V} {M : am_M} {d kc ks pc : Nat} {L : List (Option Value)} {st : List Value} {R : Option Value → List va_E → Prop} {f : Nat → Nat → Int32} {D g : Nat → Int32} {τ : Nat → Nat → Int64}
theorem ax_ialdD {i : Nat} (hd : decode M.2.1 pc = .ok (.iaload, 1)) (hi : i < 75) (kk : AW V M d kc ks (pc + 1) L (.int (D i) :: st) (hp (upk (upk f 68 D) 64 g, τ)) R) : AW V M d kc ks pc L (.int (nI i) :: .ref 68 :: st) (hp (upk (upk f 68 D) 64 g, τ)) R := by
  refine ax_ialdN hd tb_68 hi (Nat.le_of_ble_eq_true rfl) ?_
  rw [upk_ne (by omega), upk_at]
  exact kk
theorem ax_iastD {i : Nat} {x : Int32} (hd : decode M.2.1 pc = .ok (.iastore, 1)) (hi : i < 75) (kk : AW V M d kc ks (pc + 1) L st (hp (upk (upk f 68 (upd D i x)) 64 g, τ)) R) : AW V M d kc ks pc L (.int x :: .int (nI i) :: .ref 68 :: st) (hp (upk (upk f 68 D) 64 g, τ)) R := by
  refine ax_iastN hd tb_68 hi (Nat.le_of_ble_eq_true rfl) ?_
  rw [up2_upk_ne _ _ _ _ (by omega), up2_upk]
  exact kk
end AXD
def MS (ch : Nat → Int32) (L : Nat) (g : Nat → Int32) : sg → Prop
  | .inl p => MT ch g (zQ ch p) ∧ p ≤ L
  | .inr x => g 12 = nI x.1 ∧ (1 ≤ x.1 ∧ x.1 ≤ 6) ∧ g 13 = nI x.2
theorem MS_4 {ch g : Nat → Int32} {L p : Nat} (h : MS ch L g (.inl p)) (hz : zk ch (zQ ch p) = 4) : MS ch L g (.inr (1, zQ ch p)) := ⟨(h.1.1 hz).1, ⟨Nat.le_refl _, Nat.le_of_ble_eq_true rfl⟩, (h.1.1 hz).2⟩
theorem MS_rq {ch g : Nat → Int32} {L q c : Nat} (h12 : g 12 = 0) (h9 : g 9 = nI q) (hc : 1 ≤ c ∧ c ≤ 6) : MS ch L (rqG g (nI c)) (.inr (c, q)) := by
  rw [rqG_t h12]
  exact ⟨rfl, hc, h9⟩
set_option maxRecDepth 100000 in
set_option maxHeartbeats 1000000 in
theorem g_mNum {V : am_V} {d L : Nat} {f : Nat → Nat → Int32} {g ch : Nat → Int32} {τ : Nat → Nat → Int64} (hT : tpOK f 69 L ch) (h7 : g 7 = nI L) {s : sg} (hs : MS ch L g s) (lo hi : Int32) : AGi V MX5_readNumber (d + 2) [.ref 64, .int lo, .int hi] (upk f 64 g, τ) (fun x S' => x = (pNum ch lo hi s).1 ∧ ∃ g', S' = (upk f 64 g', τ) ∧ MS ch L g' (pNum ch lo hi s).2 ∧ mEq g' g) := by
  have tM := tb_M
  have t65 := tb_65
  have t67 := tb_67
  have t68 := tb_68
  have t69 := tb_69
  refine AM.of (L := [some (.ref 64), some (.int lo), some (.int hi), none]) (by decide +kernel) (Nat.le_of_ble_eq_true rfl) rfl ?_
  have bad : ∀ (y : Nat × Nat), MS ch L g (.inr y) → AW V MX5_readNumber (d + 2) 0 0 0 [some (.ref 64), some (.int lo), some (.int hi), none] [] (hp (upk f 64 g, τ)) (fun r' h' => ∃ (x : Int32) (S' : fm), r' = some (.int x) ∧ h' = hp S' ∧ (x = (pNum ch lo hi (.inr y)).1 ∧ ∃ g', S' = (upk f 64 g', τ) ∧ MS ch L g' (pNum ch lo hi (.inr y)).2 ∧ mEq g' g)) := by
    intro y hx
    have n12 : ¬ g 12 = 0 := by rw [hx.1]; exact nI_6 hx.2.1
    refine aw_aload_n (i := 0) dX5_readNumber_0 rfl rfl ?_
    refine ax_getK (ci := 5) 12 dX5_readNumber_1 rfl lfX5_70 (by decide) (by assumption) (by rfl) ?_
    refine aw_if_ne (tgt := 25) dX5_readNumber_4 (by decide) (fun c4 => ?_) (fun c4 => ?_)
    · refine aw_aload_n (i := 0) dX5_readNumber_25 rfl rfl ?_
      refine ax_getK (ci := 5) 12 dX5_readNumber_26 rfl lfX5_70 (by decide) (by assumption) (by rfl) ?_
      refine aw_if_ne (tgt := 49) dX5_readNumber_29 (by decide) (fun c29 => ?_) (fun c29 => ?_)
      · refine aw_aload_n (i := 0) dX5_readNumber_49 rfl rfl ?_
        refine ax_getK (ci := 5) 12 dX5_readNumber_50 rfl lfX5_70 (by decide) (by assumption) (by rfl) ?_
        refine aw_if_ne (tgt := 63) dX5_readNumber_53 (by decide) (fun c53 => ?_) (fun c53 => ?_)
        · refine aw_iconst (v := 0) dX5_readNumber_63 (by decide) ?_
          refine aw_istore_n (i := 3) (L' := [_, _, _, _]) dX5_readNumber_64 rfl (Nat.le_of_ble_eq_true rfl) rfl rfl ?_
          refine aw_aload_n (i := 0) dX5_readNumber_65 rfl rfl ?_
          refine ax_callV0v (M' := MX5_reads) (ci := 5) dX5_readNumber_66 lmX5_112 oX5_reads (by decide +kernel) (by assumption) rfl rfl (Nat.le_of_ble_eq_true rfl) (f_readsF hx.2.1 hx.1) ?_
          refine aw_iload_n (i := 3) dX5_readNumber_69 rfl rfl ?_
          refine aw_ireturn (ty := .int) dX5_readNumber_70 rfl rfl ?_
          exact ⟨_, _, rfl, rfl, rfl, g, rfl, hx, mEq.rf⟩
        · exact absurd c53 n12
      · exact absurd c29 n12
    · exact absurd c4 n12
  cases s with
  | inr x => exact bad x hs
  | inl p =>
    by_cases hz : zk ch (zQ ch p) = 4
    · refine AW.weaken ?_ (bad _ (MS_4 hs hz))
      rintro r h' ⟨x, S', e1, e2, e3, e4⟩
      refine ⟨x, S', e1, e2, ?_⟩
      rw [pNum_l, if_pos hz]
      exact ⟨e3, e4⟩
    · obtain ⟨h12, h10, h9, h8, h11⟩ := hs.1.2 hz
      have hqL := zQ_le hT hs.2
      rw [pNum_l, if_neg hz]
      by_cases hz2 : zk ch (zQ ch p) = 2
      · rw [if_pos hz2]
        have e10 : g 10 = 2 := by rw [h10, hz2]; rfl
        have e11 := h11 hz2
        by_cases hP : lo ≤ zv ch (zQ ch p) ∧ zv ch (zQ ch p) ≤ hi
        · rw [if_pos hP]
          refine aw_aload_n (i := 0) dX5_readNumber_0 rfl rfl ?_
          refine ax_getK (ci := 5) 12 dX5_readNumber_1 rfl lfX5_70 (by decide) (by assumption) (by rfl) ?_
          refine aw_if_ne (tgt := 25) dX5_readNumber_4 (by decide) (fun c4 => ?_) (fun c4 => ?_)
          · exact absurd h12 c4
          · refine aw_aload_n (i := 0) dX5_readNumber_7 rfl rfl ?_
            refine aw_aload_n (i := 0) dX5_readNumber_8 rfl rfl ?_
            refine ax_getK (ci := 5) 10 dX5_readNumber_9 rfl lfX5_94 (by decide) (by assumption) (by rfl) ?_
            refine aw_iconst (v := 2) dX5_readNumber_12 (by decide) ?_
            refine aw_icmp_ne (tgt := 20) dX5_readNumber_13 (by decide) (fun c13 => ?_) (fun c13 => ?_)
            · exact absurd e10 c13
            · refine aw_iconst (v := 1) dX5_readNumber_16 (by decide) ?_
              refine aw_goto (tgt := 21) dX5_readNumber_17 (by decide) ?_
              refine aw_iconst (v := 2) dX5_readNumber_21 (by decide) ?_
              refine ax_callV2v (M' := MX5_requires) (ci := 5) dX5_readNumber_22 lmX5_108 oX5_requires (by decide +kernel) (by assumption) rfl rfl (Nat.le_of_ble_eq_true rfl) (f_req1 _) ?_
              refine aw_aload_n (i := 0) dX5_readNumber_25 rfl rfl ?_
              refine ax_getK (ci := 5) 12 dX5_readNumber_26 rfl lfX5_70 (by decide) (by assumption) (by rfl) ?_
              refine aw_if_ne (tgt := 49) dX5_readNumber_29 (by decide) (fun c29 => ?_) (fun c29 => ?_)
              · exact absurd h12 c29
              · refine aw_aload_n (i := 0) dX5_readNumber_32 rfl rfl ?_
                refine aw_aload_n (i := 0) dX5_readNumber_33 rfl rfl ?_
                refine ax_getK (ci := 5) 11 dX5_readNumber_34 rfl lfX5_105 (by decide) (by assumption) (by rfl) ?_
                refine aw_tE (zv ch (zQ ch p)) e11 ?_
                refine aw_i2l dX5_readNumber_37 ?_
                refine aw_iload_n (i := 1) dX5_readNumber_38 rfl rfl ?_
                refine aw_i2l dX5_readNumber_39 ?_
                refine aw_iload_n (i := 2) dX5_readNumber_40 rfl rfl ?_
                refine aw_i2l dX5_readNumber_41 ?_
                refine ax_callS3i (M' := MX5_in) dX5_readNumber_42 lmX5_63 oX5_in (by decide +kernel) (Nat.le_of_ble_eq_true rfl) (e_in _ _ _) ?_
                refine aw_iconst (v := 3) dX5_readNumber_45 (by decide) ?_
                refine ax_callV2v (M' := MX5_requires) (ci := 5) dX5_readNumber_46 lmX5_108 oX5_requires (by decide +kernel) (by assumption) rfl rfl (Nat.le_of_ble_eq_true rfl) (f_requires _ _) ?_
                rw [if_pos hP]
                refine aw_aload_n (i := 0) dX5_readNumber_49 rfl rfl ?_
                refine ax_getK (ci := 5) 12 dX5_readNumber_50 rfl lfX5_70 (by decide) (by assumption) (by rfl) ?_
                refine aw_if_ne (tgt := 63) dX5_readNumber_53 (by decide) (fun c53 => ?_) (fun c53 => ?_)
                · exact absurd h12 c53
                · refine aw_aload_n (i := 0) dX5_readNumber_56 rfl rfl ?_
                  refine ax_getK (ci := 5) 11 dX5_readNumber_57 rfl lfX5_105 (by decide) (by assumption) (by rfl) ?_
                  refine aw_tE (zv ch (zQ ch p)) e11 ?_
                  refine aw_goto (tgt := 64) dX5_readNumber_60 (by decide) ?_
                  refine aw_istore_n (i := 3) (L' := [_, _, _, _]) dX5_readNumber_64 rfl (Nat.le_of_ble_eq_true rfl) rfl rfl ?_
                  refine aw_aload_n (i := 0) dX5_readNumber_65 rfl rfl ?_
                  refine ax_gV0v (M' := MX5_reads) (ci := 5) dX5_readNumber_66 lmX5_112 oX5_reads (by decide +kernel) (by assumption) rfl rfl (Nat.le_of_ble_eq_true rfl) (g_reads hT (zr_le hT hqL) h7 h8 h12) (fun S_ h_ => ?_)
                  obtain ⟨g2, rfl, hM2, hE2⟩ := h_
                  refine aw_iload_n (i := 3) dX5_readNumber_69 rfl rfl ?_
                  refine aw_ireturn (ty := .int) dX5_readNumber_70 rfl rfl ?_
                  exact ⟨_, _, rfl, rfl, rfl, g2, rfl, ⟨hM2, zr_le hT hqL⟩, hE2⟩
        · rw [if_neg hP]
          have hb : MS ch L (rqG g 3) (.inr (3, zQ ch p)) := MS_rq (c := 3) h12 h9 (by omega)
          have n12 : ¬ rqG g 3 12 = 0 := by rw [hb.1]; exact nI_6 hb.2.1
          refine aw_aload_n (i := 0) dX5_readNumber_0 rfl rfl ?_
          refine ax_getK (ci := 5) 12 dX5_readNumber_1 rfl lfX5_70 (by decide) (by assumption) (by rfl) ?_
          refine aw_if_ne (tgt := 25) dX5_readNumber_4 (by decide) (fun c4 => ?_) (fun c4 => ?_)
          · exact absurd h12 c4
          · refine aw_aload_n (i := 0) dX5_readNumber_7 rfl rfl ?_
            refine aw_aload_n (i := 0) dX5_readNumber_8 rfl rfl ?_
            refine ax_getK (ci := 5) 10 dX5_readNumber_9 rfl lfX5_94 (by decide) (by assumption) (by rfl) ?_
            refine aw_iconst (v := 2) dX5_readNumber_12 (by decide) ?_
            refine aw_icmp_ne (tgt := 20) dX5_readNumber_13 (by decide) (fun c13 => ?_) (fun c13 => ?_)
            · exact absurd e10 c13
            · refine aw_iconst (v := 1) dX5_readNumber_16 (by decide) ?_
              refine aw_goto (tgt := 21) dX5_readNumber_17 (by decide) ?_
              refine aw_iconst (v := 2) dX5_readNumber_21 (by decide) ?_
              refine ax_callV2v (M' := MX5_requires) (ci := 5) dX5_readNumber_22 lmX5_108 oX5_requires (by decide +kernel) (by assumption) rfl rfl (Nat.le_of_ble_eq_true rfl) (f_req1 _) ?_
              refine aw_aload_n (i := 0) dX5_readNumber_25 rfl rfl ?_
              refine ax_getK (ci := 5) 12 dX5_readNumber_26 rfl lfX5_70 (by decide) (by assumption) (by rfl) ?_
              refine aw_if_ne (tgt := 49) dX5_readNumber_29 (by decide) (fun c29 => ?_) (fun c29 => ?_)
              · exact absurd h12 c29
              · refine aw_aload_n (i := 0) dX5_readNumber_32 rfl rfl ?_
                refine aw_aload_n (i := 0) dX5_readNumber_33 rfl rfl ?_
                refine ax_getK (ci := 5) 11 dX5_readNumber_34 rfl lfX5_105 (by decide) (by assumption) (by rfl) ?_
                refine aw_tE (zv ch (zQ ch p)) e11 ?_
                refine aw_i2l dX5_readNumber_37 ?_
                refine aw_iload_n (i := 1) dX5_readNumber_38 rfl rfl ?_
                refine aw_i2l dX5_readNumber_39 ?_
                refine aw_iload_n (i := 2) dX5_readNumber_40 rfl rfl ?_
                refine aw_i2l dX5_readNumber_41 ?_
                refine ax_callS3i (M' := MX5_in) dX5_readNumber_42 lmX5_63 oX5_in (by decide +kernel) (Nat.le_of_ble_eq_true rfl) (e_in _ _ _) ?_
                refine aw_iconst (v := 3) dX5_readNumber_45 (by decide) ?_
                refine ax_callV2v (M' := MX5_requires) (ci := 5) dX5_readNumber_46 lmX5_108 oX5_requires (by decide +kernel) (by assumption) rfl rfl (Nat.le_of_ble_eq_true rfl) (f_requires _ _) ?_
                rw [if_neg hP]
                refine aw_aload_n (i := 0) dX5_readNumber_49 rfl rfl ?_
                refine ax_getK (ci := 5) 12 dX5_readNumber_50 rfl lfX5_70 (by decide) (by assumption) (by rfl) ?_
                refine aw_if_ne (tgt := 63) dX5_readNumber_53 (by decide) (fun c53 => ?_) (fun c53 => ?_)
                · refine aw_iconst (v := 0) dX5_readNumber_63 (by decide) ?_
                  refine aw_istore_n (i := 3) (L' := [_, _, _, _]) dX5_readNumber_64 rfl (Nat.le_of_ble_eq_true rfl) rfl rfl ?_
                  refine aw_aload_n (i := 0) dX5_readNumber_65 rfl rfl ?_
                  refine ax_callV0v (M' := MX5_reads) (ci := 5) dX5_readNumber_66 lmX5_112 oX5_reads (by decide +kernel) (by assumption) rfl rfl (Nat.le_of_ble_eq_true rfl) (f_readsF (c := 3) (by omega) hb.1) ?_
                  refine aw_iload_n (i := 3) dX5_readNumber_69 rfl rfl ?_
                  refine aw_ireturn (ty := .int) dX5_readNumber_70 rfl rfl ?_
                  exact ⟨_, _, rfl, rfl, rfl, rqG g 3, rfl, hb, rqG_e _ _⟩
                · exact absurd c53 n12
      · rw [if_neg hz2]
        have e10 : ¬ g 10 = 2 := by
          rw [h10]
          intro z
          exact hz2 ((nI_eq (b := 2) (by have := zk_le ch (zQ ch p); omega) (by omega)).mp z)
        have hb : MS ch L (rqG g 2) (.inr (2, zQ ch p)) := MS_rq (c := 2) h12 h9 (by omega)
        have n12 : ¬ rqG g 2 12 = 0 := by rw [hb.1]; exact nI_6 hb.2.1
        refine aw_aload_n (i := 0) dX5_readNumber_0 rfl rfl ?_
        refine ax_getK (ci := 5) 12 dX5_readNumber_1 rfl lfX5_70 (by decide) (by assumption) (by rfl) ?_
        refine aw_if_ne (tgt := 25) dX5_readNumber_4 (by decide) (fun c4 => ?_) (fun c4 => ?_)
        · exact absurd h12 c4
        · refine aw_aload_n (i := 0) dX5_readNumber_7 rfl rfl ?_
          refine aw_aload_n (i := 0) dX5_readNumber_8 rfl rfl ?_
          refine ax_getK (ci := 5) 10 dX5_readNumber_9 rfl lfX5_94 (by decide) (by assumption) (by rfl) ?_
          refine aw_iconst (v := 2) dX5_readNumber_12 (by decide) ?_
          refine aw_icmp_ne (tgt := 20) dX5_readNumber_13 (by decide) (fun c13 => ?_) (fun c13 => ?_)
          · refine aw_iconst (v := 0) dX5_readNumber_20 (by decide) ?_
            refine aw_iconst (v := 2) dX5_readNumber_21 (by decide) ?_
            refine ax_callV2v (M' := MX5_requires) (ci := 5) dX5_readNumber_22 lmX5_108 oX5_requires (by decide +kernel) (by assumption) rfl rfl (Nat.le_of_ble_eq_true rfl) (f_req0 _) ?_
            refine aw_aload_n (i := 0) dX5_readNumber_25 rfl rfl ?_
            refine ax_getK (ci := 5) 12 dX5_readNumber_26 rfl lfX5_70 (by decide) (by assumption) (by rfl) ?_
            refine aw_if_ne (tgt := 49) dX5_readNumber_29 (by decide) (fun c29 => ?_) (fun c29 => ?_)
            · refine aw_aload_n (i := 0) dX5_readNumber_49 rfl rfl ?_
              refine ax_getK (ci := 5) 12 dX5_readNumber_50 rfl lfX5_70 (by decide) (by assumption) (by rfl) ?_
              refine aw_if_ne (tgt := 63) dX5_readNumber_53 (by decide) (fun c53 => ?_) (fun c53 => ?_)
              · refine aw_iconst (v := 0) dX5_readNumber_63 (by decide) ?_
                refine aw_istore_n (i := 3) (L' := [_, _, _, _]) dX5_readNumber_64 rfl (Nat.le_of_ble_eq_true rfl) rfl rfl ?_
                refine aw_aload_n (i := 0) dX5_readNumber_65 rfl rfl ?_
                refine ax_callV0v (M' := MX5_reads) (ci := 5) dX5_readNumber_66 lmX5_112 oX5_reads (by decide +kernel) (by assumption) rfl rfl (Nat.le_of_ble_eq_true rfl) (f_readsF (c := 2) (by omega) hb.1) ?_
                refine aw_iload_n (i := 3) dX5_readNumber_69 rfl rfl ?_
                refine aw_ireturn (ty := .int) dX5_readNumber_70 rfl rfl ?_
                exact ⟨_, _, rfl, rfl, rfl, rqG g 2, rfl, hb, rqG_e _ _⟩
              · exact absurd c53 n12
            · exact absurd c29 n12
          · exact absurd c13 e10
/-- all but what the reading changes of the model's own cell -/
def mEh (g' g : Nat → Int32) : Prop := ∀ j, (j < 4 ∨ j = 6 ∨ j = 7 ∨ 14 ≤ j) → g' j = g j
theorem mEh.rf {g : Nat → Int32} : mEh g g := fun _ _ => rfl
theorem mEh.tr {a b c : Nat → Int32} (h : mEh a b) (h' : mEh b c) : mEh a c := fun j hj => (h j hj).trans (h' j hj)
theorem mEq.h {g' g : Nat → Int32} (h : mEq g' g) : mEh g' g := fun j hj => h j (by omega)
theorem mEh.up {g' g : Nat → Int32} (h : mEh g' g) {k : Nat} (hk : k = 4 ∨ k = 5 ∨ (8 ≤ k ∧ k < 14)) (x : Int32) : mEh (upd g' k x) g := fun j hj => (upd_ne (by omega)).trans (h j hj)
theorem MS_5 {ch g : Nat → Int32} {L : Nat} {s : sg} (h : MS ch L g s) {k : Nat} (hk : k < 8 ∨ 14 ≤ k) (x : Int32) : MS ch L (upd g k x) s := by
  have e : ∀ j, 8 ≤ j → j < 14 → upd g k x j = g j := fun j h1 h2 => upd_ne (by omega)
  cases s with
  | inr y => exact ⟨(e 12 (by omega) (by omega)).trans h.1, h.2.1, (e 13 (by omega) (by omega)).trans h.2.2⟩
  | inl p =>
    refine ⟨⟨fun z => ?_, fun z => ?_⟩, h.2⟩
    · rw [e 12 (by omega) (by omega), e 13 (by omega) (by omega)]; exact h.1.1 z
    · rw [e 12 (by omega) (by omega), e 10 (by omega) (by omega), e 9 (by omega) (by omega), e 8 (by omega) (by omega), e 11 (by omega) (by omega)]; exact h.1.2 z
def hiF (h k : Int32) : Int32 := if h < k then k else h
def dPress (D : Nat → Int32) (np : Nat) (a b c : Int32) : Nat → Int32 := upd (upd (upd (upd D (29 + 3 * np + 0) a) (29 + 3 * np + 1) b) (29 + 3 * np + 2) c) 53 (nI (np + 1))
def dKey (D : Nat → Int32) (n : Nat) (k a b : Int32) : Nat → Int32 := upd (upd (upd (upd D (7 * n + 1) k) (7 * n + 0) a) (7 * n + 2) b) 28 (nI (n + 1))
set_option maxRecDepth 100000 in
set_option maxHeartbeats 1000000 in
theorem g_mPress {V : am_V} {d L : Nat} {f : Nat → Nat → Int32} {D g ch : Nat → Int32} {τ : Nat → Nat → Int64} (hT : tpOK f 69 L ch) (h7 : g 7 = nI L) {s : sg} (hs : MS ch L g s) {np : Nat} (hlt : np < 8) (hnp : D 53 = nI np) : AGv V MX5_readPress (d + 3) [.ref 64] (upk (upk f 68 D) 64 g, τ) (fun S' => ∃ g', S' = (upk (upk f 68 (dPress D np (pNum ch 0 99 s).1 (pNum ch 0 3 (pNum ch 0 99 s).2).1 (pNum ch 0 1 (pNum ch 0 3 (pNum ch 0 99 s).2).2).1)) 64 g', τ) ∧ MS ch L g' (pNum ch 0 1 (pNum ch 0 3 (pNum ch 0 99 s).2).2).2 ∧ mEh g' g ∧ g' 4 = g 4 ∧ g' 5 = hiF (g 5) (pNum ch 0 3 (pNum ch 0 99 s).2).1) := by
  have tM := tb_M
  have t65 := tb_65
  have t67 := tb_67
  have t68 := tb_68
  have t69 := tb_69
  refine AM.of (L := [some (.ref 64), none]) (by decide +kernel) (Nat.le_of_ble_eq_true rfl) rfl ?_
  refine aw_bipush (v := 29) dX5_readPress_0 (by decide) ?_
  refine aw_iconst (v := 3) dX5_readPress_2 (by decide) ?_
  refine aw_aload_n (i := 0) dX5_readPress_3 rfl rfl ?_
  refine ax_getr (ci := 5) 3 dX5_readPress_4 rfl lfX5_20 (by decide) (by assumption) (by rfl) ?_
  refine aw_bipush (v := 53) dX5_readPress_7 (by decide) ?_
  refine ax_ialdD (i := 53) dX5_readPress_9 (by omega) ?_
  refine aw_tE (nI np) hnp ?_
  refine aw_imul dX5_readPress_10 ?_
  refine aw_tE (nI (3 * np)) (pk_mul 3 np) ?_
  refine aw_iadd dX5_readPress_11 ?_
  refine aw_tE (nI (29 + 3 * np)) (nI_add 29 (3 * np)) ?_
  refine aw_istore_n (i := 1) (L' := [_, _]) dX5_readPress_12 rfl (Nat.le_of_ble_eq_true rfl) rfl rfl ?_
  refine aw_aload_n (i := 0) dX5_readPress_13 rfl rfl ?_
  refine ax_getr (ci := 5) 3 dX5_readPress_14 rfl lfX5_20 (by decide) (by assumption) (by rfl) ?_
  refine aw_iload_n (i := 1) dX5_readPress_17 rfl rfl ?_
  refine aw_iconst (v := 0) dX5_readPress_18 (by decide) ?_
  refine aw_iadd dX5_readPress_19 ?_
  refine aw_tE (nI (29 + 3 * np + 0)) (nI_add _ 0) ?_
  refine aw_aload_n (i := 0) dX5_readPress_20 rfl rfl ?_
  refine aw_iconst (v := 0) dX5_readPress_21 (by decide) ?_
  refine aw_bipush (v := 99) dX5_readPress_22 (by decide) ?_
  refine ax_gV2i (M' := MX5_readNumber) (ci := 5) dX5_readPress_24 lmX5_115 oX5_readNumber (by decide +kernel) (by assumption) rfl rfl (Nat.le_of_ble_eq_true rfl) (g_mNum (hT.mv (upk_rne (by omega))) h7 hs _ _) (fun r_ S_ h_ => ?_)
  obtain ⟨rfl, g1, rfl, hM1, hE1⟩ := h_
  refine ax_iastD dX5_readPress_27 (by omega) ?_
  refine aw_aload_n (i := 0) dX5_readPress_28 rfl rfl ?_
  refine ax_getr (ci := 5) 3 dX5_readPress_29 rfl lfX5_20 (by decide) (by assumption) (by rfl) ?_
  refine aw_iload_n (i := 1) dX5_readPress_32 rfl rfl ?_
  refine aw_iconst (v := 1) dX5_readPress_33 (by decide) ?_
  refine aw_iadd dX5_readPress_34 ?_
  refine aw_tE (nI (29 + 3 * np + 1)) (nI_add _ 1) ?_
  refine aw_aload_n (i := 0) dX5_readPress_35 rfl rfl ?_
  refine aw_iconst (v := 0) dX5_readPress_36 (by decide) ?_
  refine aw_iconst (v := 3) dX5_readPress_37 (by decide) ?_
  refine ax_gV2i (M' := MX5_readNumber) (ci := 5) dX5_readPress_38 lmX5_115 oX5_readNumber (by decide +kernel) (by assumption) rfl rfl (Nat.le_of_ble_eq_true rfl) (g_mNum (hT.mv (upk_rne (by omega))) ((hE1 7 (by omega)).trans h7) hM1 _ _) (fun r_ S_ h_ => ?_)
  obtain ⟨rfl, g2, rfl, hM2, hE2⟩ := h_
  refine ax_iastD dX5_readPress_41 (by omega) ?_
  refine aw_aload_n (i := 0) dX5_readPress_42 rfl rfl ?_
  refine aw_aload_n (i := 0) dX5_readPress_43 rfl rfl ?_
  refine ax_getr (ci := 5) 3 dX5_readPress_44 rfl lfX5_20 (by decide) (by assumption) (by rfl) ?_
  refine aw_iload_n (i := 1) dX5_readPress_47 rfl rfl ?_
  refine aw_iconst (v := 1) dX5_readPress_48 (by decide) ?_
  refine aw_iadd dX5_readPress_49 ?_
  refine aw_tE (nI (29 + 3 * np + 1)) (nI_add _ 1) ?_
  refine ax_ialdD dX5_readPress_50 (by omega) ?_
  refine aw_tE (pNum ch 0 3 (pNum ch 0 99 s).2).1 (upd_eq _ _ _) ?_
  refine aw_aload_n (i := 0) dX5_readPress_51 rfl rfl ?_
  refine ax_getK (ci := 5) 5 dX5_readPress_52 rfl lfX5_57 (by decide) (by assumption) (by rfl) ?_
  refine aw_tE (g 5) ((hE2 5 (by omega)).trans (hE1 5 (by omega))) ?_
  refine aw_icmp_le (tgt := 69) dX5_readPress_55 (by decide) (fun c55 => ?_) (fun c55 => ?_)
  · refine aw_aload_n (i := 0) dX5_readPress_69 rfl rfl ?_
    refine ax_getK (ci := 5) 5 dX5_readPress_70 rfl lfX5_57 (by decide) (by assumption) (by rfl) ?_
    first
      | refine aw_tE (hiF (g 5) (pNum ch 0 3 (pNum ch 0 99 s).2).1) (if_pos (Int32.not_le.mp c55)).symm ?_
      | refine aw_tE (hiF (g 5) (pNum ch 0 3 (pNum ch 0 99 s).2).1) (((hE2 5 (by omega)).trans (hE1 5 (by omega))).trans (if_neg (Int32.not_lt.mpr c55)).symm) ?_
    refine ax_putK (ci := 5) 5 dX5_readPress_73 rfl lfX5_57 (by decide) (by assumption) (by rfl) rfl rfl ?_
    refine aw_aload_n (i := 0) dX5_readPress_76 rfl rfl ?_
    refine ax_getr (ci := 5) 3 dX5_readPress_77 rfl lfX5_20 (by decide) (by assumption) (by rfl) ?_
    refine aw_iload_n (i := 1) dX5_readPress_80 rfl rfl ?_
    refine aw_iconst (v := 2) dX5_readPress_81 (by decide) ?_
    refine aw_iadd dX5_readPress_82 ?_
    refine aw_tE (nI (29 + 3 * np + 2)) (nI_add _ 2) ?_
    refine aw_aload_n (i := 0) dX5_readPress_83 rfl rfl ?_
    refine aw_iconst (v := 0) dX5_readPress_84 (by decide) ?_
    refine aw_iconst (v := 1) dX5_readPress_85 (by decide) ?_
    refine ax_gV2i (M' := MX5_readNumber) (ci := 5) dX5_readPress_86 lmX5_115 oX5_readNumber (by decide +kernel) (by assumption) rfl rfl (Nat.le_of_ble_eq_true rfl) (g_mNum (g := upd g2 5 (hiF (g 5) (pNum ch 0 3 (pNum ch 0 99 s).2).1)) (hT.mv (upk_rne (by omega))) (((hE2 7 (by omega)).trans (hE1 7 (by omega))).trans h7) (MS_5 hM2 (by omega) _) _ _) (fun r_ S_ h_ => ?_)
    obtain ⟨rfl, g3, rfl, hM3, hE3⟩ := h_
    refine ax_iastD dX5_readPress_89 (by omega) ?_
    refine aw_aload_n (i := 0) dX5_readPress_90 rfl rfl ?_
    refine ax_getr (ci := 5) 3 dX5_readPress_91 rfl lfX5_20 (by decide) (by assumption) (by rfl) ?_
    refine aw_bipush (v := 53) dX5_readPress_94 (by decide) ?_
    refine aw_dup2 dX5_readPress_96 rfl rfl ?_
    refine ax_ialdD (i := 53) dX5_readPress_97 (by omega) ?_
    refine aw_tE (nI np) (by rw [upd_ne (by omega), upd_ne (by omega), upd_ne (by omega)]; exact hnp) ?_
    refine aw_iconst (v := 1) dX5_readPress_98 (by decide) ?_
    refine aw_iadd dX5_readPress_99 ?_
    refine aw_tE (nI (np + 1)) (nI_1 np) ?_
    refine ax_iastD (i := 53) dX5_readPress_100 (by omega) ?_
    refine aw_return dX5_readPress_101 rfl ?_
    refine ⟨_, rfl, rfl, g3, rfl, hM3, hE3.h.tr (((hE2.tr hE1).h).up (by omega) _), ?_, hE3 5 (by omega)⟩
    rw [hE3 4 (by omega)]
    exact (hE2 4 (by omega)).trans (hE1 4 (by omega))
  · refine aw_aload_n (i := 0) dX5_readPress_58 rfl rfl ?_
    refine ax_getr (ci := 5) 3 dX5_readPress_59 rfl lfX5_20 (by decide) (by assumption) (by rfl) ?_
    refine aw_iload_n (i := 1) dX5_readPress_62 rfl rfl ?_
    refine aw_iconst (v := 1) dX5_readPress_63 (by decide) ?_
    refine aw_iadd dX5_readPress_64 ?_
    refine aw_tE (nI (29 + 3 * np + 1)) (nI_add _ 1) ?_
    refine ax_ialdD dX5_readPress_65 (by omega) ?_
    refine aw_tE (pNum ch 0 3 (pNum ch 0 99 s).2).1 (upd_eq _ _ _) ?_
    refine aw_goto (tgt := 73) dX5_readPress_66 (by decide) ?_
    first
      | refine aw_tE (hiF (g 5) (pNum ch 0 3 (pNum ch 0 99 s).2).1) (if_pos (Int32.not_le.mp c55)).symm ?_
      | refine aw_tE (hiF (g 5) (pNum ch 0 3 (pNum ch 0 99 s).2).1) (((hE2 5 (by omega)).trans (hE1 5 (by omega))).trans (if_neg (Int32.not_lt.mpr c55)).symm) ?_
    refine ax_putK (ci := 5) 5 dX5_readPress_73 rfl lfX5_57 (by decide) (by assumption) (by rfl) rfl rfl ?_
    refine aw_aload_n (i := 0) dX5_readPress_76 rfl rfl ?_
    refine ax_getr (ci := 5) 3 dX5_readPress_77 rfl lfX5_20 (by decide) (by assumption) (by rfl) ?_
    refine aw_iload_n (i := 1) dX5_readPress_80 rfl rfl ?_
    refine aw_iconst (v := 2) dX5_readPress_81 (by decide) ?_
    refine aw_iadd dX5_readPress_82 ?_
    refine aw_tE (nI (29 + 3 * np + 2)) (nI_add _ 2) ?_
    refine aw_aload_n (i := 0) dX5_readPress_83 rfl rfl ?_
    refine aw_iconst (v := 0) dX5_readPress_84 (by decide) ?_
    refine aw_iconst (v := 1) dX5_readPress_85 (by decide) ?_
    refine ax_gV2i (M' := MX5_readNumber) (ci := 5) dX5_readPress_86 lmX5_115 oX5_readNumber (by decide +kernel) (by assumption) rfl rfl (Nat.le_of_ble_eq_true rfl) (g_mNum (g := upd g2 5 (hiF (g 5) (pNum ch 0 3 (pNum ch 0 99 s).2).1)) (hT.mv (upk_rne (by omega))) (((hE2 7 (by omega)).trans (hE1 7 (by omega))).trans h7) (MS_5 hM2 (by omega) _) _ _) (fun r_ S_ h_ => ?_)
    obtain ⟨rfl, g3, rfl, hM3, hE3⟩ := h_
    refine ax_iastD dX5_readPress_89 (by omega) ?_
    refine aw_aload_n (i := 0) dX5_readPress_90 rfl rfl ?_
    refine ax_getr (ci := 5) 3 dX5_readPress_91 rfl lfX5_20 (by decide) (by assumption) (by rfl) ?_
    refine aw_bipush (v := 53) dX5_readPress_94 (by decide) ?_
    refine aw_dup2 dX5_readPress_96 rfl rfl ?_
    refine ax_ialdD (i := 53) dX5_readPress_97 (by omega) ?_
    refine aw_tE (nI np) (by rw [upd_ne (by omega), upd_ne (by omega), upd_ne (by omega)]; exact hnp) ?_
    refine aw_iconst (v := 1) dX5_readPress_98 (by decide) ?_
    refine aw_iadd dX5_readPress_99 ?_
    refine aw_tE (nI (np + 1)) (nI_1 np) ?_
    refine ax_iastD (i := 53) dX5_readPress_100 (by omega) ?_
    refine aw_return dX5_readPress_101 rfl ?_
    refine ⟨_, rfl, rfl, g3, rfl, hM3, hE3.h.tr (((hE2.tr hE1).h).up (by omega) _), ?_, hE3 5 (by omega)⟩
    rw [hE3 4 (by omega)]
    exact (hE2 4 (by omega)).trans (hE1 4 (by omega))
set_option maxRecDepth 100000 in
set_option maxHeartbeats 1000000 in
theorem g_mOf4 {V : am_V} {d L : Nat} {f : Nat → Nat → Int32} {D g ch : Nat → Int32} {τ : Nat → Nat → Int64} (hT : tpOK f 69 L ch) (h7 : g 7 = nI L) {s : sg} (hs : MS ch L g s) {np : Nat} (hlt : np < 8) (hnp : D 53 = nI np) : AGv V MX5_readLineOf (d + 4) [.ref 64, .int 4] (upk (upk f 68 D) 64 g, τ) (fun S' => ∃ g', S' = (upk (upk f 68 (dPress D np (pNum ch 0 99 s).1 (pNum ch 0 3 (pNum ch 0 99 s).2).1 (pNum ch 0 1 (pNum ch 0 3 (pNum ch 0 99 s).2).2).1)) 64 g', τ) ∧ MS ch L g' (pNum ch 0 1 (pNum ch 0 3 (pNum ch 0 99 s).2).2).2 ∧ mEh g' g ∧ g' 4 = g 4 ∧ g' 5 = hiF (g 5) (pNum ch 0 3 (pNum ch 0 99 s).2).1) := by
  have tM := tb_M
  have t65 := tb_65
  have t67 := tb_67
  have t68 := tb_68
  have t69 := tb_69
  refine AM.of (L := [some (.ref 64), some (.int 4)]) (by decide +kernel) (Nat.le_of_ble_eq_true rfl) rfl ?_
  refine aw_iload_n (i := 1) dX5_readLineOf_0 rfl rfl ?_
  refine aw_look2 (t1 := 28) (t2 := 35) (td := 51) 4 5 dX5_readLineOf_1 rfl rfl (by decide) (by decide) (by decide) (by decide) (fun c1_0 => ?_) (fun c1_0 c1_1 => ?_) (fun c1_0 c1_1 => ?_)
  · refine aw_aload_n (i := 0) dX5_readLineOf_28 rfl rfl ?_
    refine ax_gV0v (M' := MX5_readPress) (ci := 5) dX5_readLineOf_29 lmX5_119 oX5_readPress (by decide +kernel) (by assumption) rfl rfl (Nat.le_of_ble_eq_true rfl) (g_mPress hT h7 hs hlt hnp) (fun S_ h_ => ?_)
    obtain ⟨g1, rfl, hM1, hE1, h41, h51⟩ := h_
    refine aw_goto (tgt := 128) dX5_readLineOf_32 (by decide) ?_
    refine aw_return dX5_readLineOf_128 rfl ?_
    exact ⟨_, rfl, rfl, g1, rfl, hM1, hE1, h41, h51⟩
  · exact absurd rfl c1_0
  · exact absurd rfl c1_0
set_option maxRecDepth 100000 in
set_option maxHeartbeats 1000000 in
theorem g_mOf5 {V : am_V} {d L : Nat} {f : Nat → Nat → Int32} {D g ch : Nat → Int32} {τ : Nat → Nat → Int64} (hT : tpOK f 69 L ch) (h7 : g 7 = nI L) {s : sg} (hs : MS ch L g s) : AGv V MX5_readLineOf (d + 4) [.ref 64, .int 5] (upk (upk f 68 D) 64 g, τ) (fun S' => ∃ g', S' = (upk (upk f 68 (upd D 54 (pNum ch 1 4 s).1)) 64 g', τ) ∧ MS ch L g' (pNum ch 1 4 s).2 ∧ mEh g' g ∧ g' 4 = g 4 ∧ g' 5 = g 5) := by
  have tM := tb_M
  have t65 := tb_65
  have t67 := tb_67
  have t68 := tb_68
  have t69 := tb_69
  refine AM.of (L := [some (.ref 64), some (.int 5)]) (by decide +kernel) (Nat.le_of_ble_eq_true rfl) rfl ?_
  refine aw_iload_n (i := 1) dX5_readLineOf_0 rfl rfl ?_
  refine aw_look2 (t1 := 28) (t2 := 35) (td := 51) 4 5 dX5_readLineOf_1 rfl rfl (by decide) (by decide) (by decide) (by decide) (fun c1_0 => ?_) (fun c1_0 c1_1 => ?_) (fun c1_0 c1_1 => ?_)
  · exact absurd c1_0 (by decide)
  · refine aw_aload_n (i := 0) dX5_readLineOf_35 rfl rfl ?_
    refine ax_getr (ci := 5) 3 dX5_readLineOf_36 rfl lfX5_20 (by decide) (by assumption) (by rfl) ?_
    refine aw_bipush (v := 54) dX5_readLineOf_39 (by decide) ?_
    refine aw_aload_n (i := 0) dX5_readLineOf_41 rfl rfl ?_
    refine aw_iconst (v := 1) dX5_readLineOf_42 (by decide) ?_
    refine aw_iconst (v := 4) dX5_readLineOf_43 (by decide) ?_
    refine ax_gV2i (M' := MX5_readNumber) (ci := 5) dX5_readLineOf_44 lmX5_115 oX5_readNumber (by decide +kernel) (by assumption) rfl rfl (Nat.le_of_ble_eq_true rfl) (g_mNum (hT.mv (upk_rne (by omega))) h7 hs _ _) (fun r_ S_ h_ => ?_)
    obtain ⟨rfl, g1, rfl, hM1, hE1⟩ := h_
    refine ax_iastD (i := 54) dX5_readLineOf_47 (by omega) ?_
    refine aw_goto (tgt := 128) dX5_readLineOf_48 (by decide) ?_
    refine aw_return dX5_readLineOf_128 rfl ?_
    exact ⟨_, rfl, rfl, g1, rfl, hM1, hE1.h, hE1 4 (by omega), hE1 5 (by omega)⟩
  · exact absurd rfl c1_1
set_option maxRecDepth 100000 in
set_option maxHeartbeats 1000000 in
theorem g_mOfK {V : am_V} {d L : Nat} {f : Nat → Nat → Int32} {D g ch : Nat → Int32} {τ : Nat → Nat → Int64} (hT : tpOK f 69 L ch) (h7 : g 7 = nI L) {s : sg} (hs : MS ch L g s) {n : Nat} (hlt : n < 4) (hn : D 28 = nI n) {k : Int32} (hk4 : ¬ k = 4) (hk5 : ¬ k = 5) : AGv V MX5_readLineOf (d + 4) [.ref 64, .int k] (upk (upk f 68 D) 64 g, τ) (fun S' => ∃ g', S' = (upk (upk f 68 (dKey D n k (pNum ch 0 9 s).1 (pNum ch 1 9 (pNum ch 0 9 s).2).1)) 64 g', τ) ∧ MS ch L g' (pNum ch 1 9 (pNum ch 0 9 s).2).2 ∧ mEh g' g ∧ g' 4 = g 4 ∧ g' 5 = g 5) := by
  have tM := tb_M
  have t65 := tb_65
  have t67 := tb_67
  have t68 := tb_68
  have t69 := tb_69
  refine AM.of (L := [some (.ref 64), some (.int k)]) (by decide +kernel) (Nat.le_of_ble_eq_true rfl) rfl ?_
  refine aw_iload_n (i := 1) dX5_readLineOf_0 rfl rfl ?_
  refine aw_look2 (t1 := 28) (t2 := 35) (td := 51) 4 5 dX5_readLineOf_1 rfl rfl (by decide) (by decide) (by decide) (by decide) (fun c1_0 => ?_) (fun c1_0 c1_1 => ?_) (fun c1_0 c1_1 => ?_)
  · exact absurd c1_0 hk4
  · exact absurd c1_1 hk5
  · refine aw_aload_n (i := 0) dX5_readLineOf_51 rfl rfl ?_
    refine ax_getr (ci := 5) 3 dX5_readLineOf_52 rfl lfX5_20 (by decide) (by assumption) (by rfl) ?_
    refine aw_bipush (v := 7) dX5_readLineOf_55 (by decide) ?_
    refine aw_aload_n (i := 0) dX5_readLineOf_57 rfl rfl ?_
    refine ax_getr (ci := 5) 3 dX5_readLineOf_58 rfl lfX5_20 (by decide) (by assumption) (by rfl) ?_
    refine aw_bipush (v := 28) dX5_readLineOf_61 (by decide) ?_
    refine ax_ialdD (i := 28) dX5_readLineOf_63 (by omega) ?_
    refine aw_tE (nI n) (hn) ?_
    refine aw_imul dX5_readLineOf_64 ?_
    refine aw_tE (nI (7 * n)) (pk_mul 7 n) ?_
    refine aw_iconst (v := 1) dX5_readLineOf_65 (by decide) ?_
    refine aw_iadd dX5_readLineOf_66 ?_
    refine aw_tE (nI (7 * n + 1)) (nI_add _ 1) ?_
    refine aw_iload_n (i := 1) dX5_readLineOf_67 rfl rfl ?_
    refine ax_iastD dX5_readLineOf_68 (by omega) ?_
    refine aw_aload_n (i := 0) dX5_readLineOf_69 rfl rfl ?_
    refine ax_getr (ci := 5) 3 dX5_readLineOf_70 rfl lfX5_20 (by decide) (by assumption) (by rfl) ?_
    refine aw_bipush (v := 7) dX5_readLineOf_73 (by decide) ?_
    refine aw_aload_n (i := 0) dX5_readLineOf_75 rfl rfl ?_
    refine ax_getr (ci := 5) 3 dX5_readLineOf_76 rfl lfX5_20 (by decide) (by assumption) (by rfl) ?_
    refine aw_bipush (v := 28) dX5_readLineOf_79 (by decide) ?_
    refine ax_ialdD (i := 28) dX5_readLineOf_81 (by omega) ?_
    refine aw_tE (nI n) (by rw [upd_ne (by omega)]; exact hn) ?_
    refine aw_imul dX5_readLineOf_82 ?_
    refine aw_tE (nI (7 * n)) (pk_mul 7 n) ?_
    refine aw_iconst (v := 0) dX5_readLineOf_83 (by decide) ?_
    refine aw_iadd dX5_readLineOf_84 ?_
    refine aw_tE (nI (7 * n + 0)) (nI_add _ 0) ?_
    refine aw_aload_n (i := 0) dX5_readLineOf_85 rfl rfl ?_
    refine aw_iconst (v := 0) dX5_readLineOf_86 (by decide) ?_
    refine aw_bipush (v := 9) dX5_readLineOf_87 (by decide) ?_
    refine ax_gV2i (M' := MX5_readNumber) (ci := 5) dX5_readLineOf_89 lmX5_115 oX5_readNumber (by decide +kernel) (by assumption) rfl rfl (Nat.le_of_ble_eq_true rfl) (g_mNum (hT.mv (upk_rne (by omega))) h7 hs _ _) (fun r_ S_ h_ => ?_)
    obtain ⟨rfl, g1, rfl, hM1, hE1⟩ := h_
    refine ax_iastD dX5_readLineOf_92 (by omega) ?_
    refine aw_aload_n (i := 0) dX5_readLineOf_93 rfl rfl ?_
    refine ax_getr (ci := 5) 3 dX5_readLineOf_94 rfl lfX5_20 (by decide) (by assumption) (by rfl) ?_
    refine aw_bipush (v := 7) dX5_readLineOf_97 (by decide) ?_
    refine aw_aload_n (i := 0) dX5_readLineOf_99 rfl rfl ?_
    refine ax_getr (ci := 5) 3 dX5_readLineOf_100 rfl lfX5_20 (by decide) (by assumption) (by rfl) ?_
    refine aw_bipush (v := 28) dX5_readLineOf_103 (by decide) ?_
    refine ax_ialdD (i := 28) dX5_readLineOf_105 (by omega) ?_
    refine aw_tE (nI n) (by rw [upd_ne (by omega), upd_ne (by omega)]; exact hn) ?_
    refine aw_imul dX5_readLineOf_106 ?_
    refine aw_tE (nI (7 * n)) (pk_mul 7 n) ?_
    refine aw_iconst (v := 2) dX5_readLineOf_107 (by decide) ?_
    refine aw_iadd dX5_readLineOf_108 ?_
    refine aw_tE (nI (7 * n + 2)) (nI_add _ 2) ?_
    refine aw_aload_n (i := 0) dX5_readLineOf_109 rfl rfl ?_
    refine aw_iconst (v := 1) dX5_readLineOf_110 (by decide) ?_
    refine aw_bipush (v := 9) dX5_readLineOf_111 (by decide) ?_
    refine ax_gV2i (M' := MX5_readNumber) (ci := 5) dX5_readLineOf_113 lmX5_115 oX5_readNumber (by decide +kernel) (by assumption) rfl rfl (Nat.le_of_ble_eq_true rfl) (g_mNum (hT.mv (upk_rne (by omega))) ((hE1 7 (by omega)).trans h7) hM1 _ _) (fun r_ S_ h_ => ?_)
    obtain ⟨rfl, g2, rfl, hM2, hE2⟩ := h_
    refine ax_iastD dX5_readLineOf_116 (by omega) ?_
    refine aw_aload_n (i := 0) dX5_readLineOf_117 rfl rfl ?_
    refine ax_getr (ci := 5) 3 dX5_readLineOf_118 rfl lfX5_20 (by decide) (by assumption) (by rfl) ?_
    refine aw_bipush (v := 28) dX5_readLineOf_121 (by decide) ?_
    refine aw_dup2 dX5_readLineOf_123 rfl rfl ?_
    refine ax_ialdD (i := 28) dX5_readLineOf_124 (by omega) ?_
    refine aw_tE (nI n) (by rw [upd_ne (by omega), upd_ne (by omega), upd_ne (by omega)]; exact hn) ?_
    refine aw_iconst (v := 1) dX5_readLineOf_125 (by decide) ?_
    refine aw_iadd dX5_readLineOf_126 ?_
    refine aw_tE (nI (n + 1)) (nI_1 n) ?_
    refine ax_iastD (i := 28) dX5_readLineOf_127 (by omega) ?_
    refine aw_return dX5_readLineOf_128 rfl ?_
    exact ⟨_, rfl, rfl, g2, rfl, hM2, (hE2.tr hE1).h, (hE2 4 (by omega)).trans (hE1 4 (by omega)), (hE2 5 (by omega)).trans (hE1 5 (by omega))⟩
def zD (D : Nat → Int32) (i : Nat) : Nat → Int32 := fun j => if j < i then 0 else D j
theorem zD_0 (D : Nat → Int32) : zD D 0 = D := by
  funext j
  unfold zD
  rw [if_neg (by omega)]
theorem zD_s (D : Nat → Int32) (i : Nat) : upd (zD D i) i 0 = zD D (i + 1) := by
  funext j
  unfold upd zD
  by_cases h : j = i
  · subst h; rw [if_pos rfl, if_pos (by omega)]
  · rw [if_neg h]
    by_cases h2 : j < i
    · rw [if_pos h2, if_pos (by omega)]
    · rw [if_neg h2, if_neg (by omega)]
set_option maxRecDepth 100000 in
set_option maxHeartbeats 1000000 in
theorem f_firstDraft {V : am_V} {d : Nat} {f : Nat → Nat → Int32} {D g : Nat → Int32} {τ : Nat → Nat → Int64} : AF V MX5_firstDraft d [.ref 64] (upk (upk f 68 D) 64 g, τ) none (upk (upk f 68 (upd (zD D 75) 54 1)) 64 (upd (upd g 4 0) 5 (-1)), τ) := by
  have tM := tb_M
  have t65 := tb_65
  have t67 := tb_67
  have t68 := tb_68
  have t69 := tb_69
  refine AM.of (L := [some (.ref 64), none]) (by decide +kernel) (Nat.le_of_ble_eq_true rfl) rfl ?_
  have loop : ∀ (m i : Nat), i + m = 75 → AW V MX5_firstDraft d 0 0 2 [some (.ref 64), some (.int (nI i))] [] (hp (upk (upk f 68 (zD D i)) 64 g, τ)) (fun r' h' => r' = none ∧ h' = hp (upk (upk f 68 (upd (zD D 75) 54 1)) 64 (upd (upd g 4 0) 5 (-1)), τ)) := by
    intro m
    induction m with
    | zero =>
      intro i hm
      have hi : i = 75 := by omega
      subst hi
      refine aw_iload_n (i := 1) dX5_firstDraft_2 rfl rfl ?_
      refine aw_bipush (v := 75) dX5_firstDraft_3 (by decide) ?_
      refine aw_icmp_ge (tgt := 21) dX5_firstDraft_5 (by decide) (fun c5 => ?_) (fun c5 => ?_)
      · refine aw_aload_n (i := 0) dX5_firstDraft_21 rfl rfl ?_
        refine ax_getr (ci := 5) 3 dX5_firstDraft_22 rfl lfX5_20 (by decide) (by assumption) (by rfl) ?_
        refine aw_bipush (v := 54) dX5_firstDraft_25 (by decide) ?_
        refine aw_iconst (v := 1) dX5_firstDraft_27 (by decide) ?_
        refine ax_iastD (i := 54) dX5_firstDraft_28 (by omega) ?_
        refine aw_aload_n (i := 0) dX5_firstDraft_29 rfl rfl ?_
        refine aw_iconst (v := 0) dX5_firstDraft_30 (by decide) ?_
        refine ax_putKz (ci := 5) 4 dX5_firstDraft_31 rfl lfX5_53 (by decide) (by assumption) (by rfl) rfl rfl (Or.inl rfl) ?_
        refine aw_aload_n (i := 0) dX5_firstDraft_34 rfl rfl ?_
        refine aw_iconst (v := -1) dX5_firstDraft_35 (by decide) ?_
        refine ax_putK (ci := 5) 5 dX5_firstDraft_36 rfl lfX5_57 (by decide) (by assumption) (by rfl) rfl rfl ?_
        refine aw_return dX5_firstDraft_39 rfl ?_
        exact ⟨rfl, rfl⟩
      · exact absurd (show nI 75 ≤ nI 75 from Int32.le_refl _) c5
    | succ m ih =>
      intro i hm
      refine aw_iload_n (i := 1) dX5_firstDraft_2 rfl rfl ?_
      refine aw_bipush (v := 75) dX5_firstDraft_3 (by decide) ?_
      refine aw_icmp_ge (tgt := 21) dX5_firstDraft_5 (by decide) (fun c5 => ?_) (fun c5 => ?_)
      · exact absurd ((nI_leI (a := 75) (by omega) (by omega)).mp c5) (by omega)
      · refine aw_aload_n (i := 0) dX5_firstDraft_8 rfl rfl ?_
        refine ax_getr (ci := 5) 3 dX5_firstDraft_9 rfl lfX5_20 (by decide) (by assumption) (by rfl) ?_
        refine aw_iload_n (i := 1) dX5_firstDraft_12 rfl rfl ?_
        refine aw_iconst (v := 0) dX5_firstDraft_13 (by decide) ?_
        refine ax_iastD dX5_firstDraft_14 (by omega) ?_
        rw [zD_s]
        refine aw_incN (L' := [_, _]) dX5_firstDraft_15 rfl (Nat.le_of_ble_eq_true rfl) rfl rfl ?_
        refine aw_goto (tgt := 2) dX5_firstDraft_18 (by decide) ?_
        exact ih (i + 1) (by omega)
  refine aw_iconst (v := 0) dX5_firstDraft_0 (by decide) ?_
  refine aw_istore_n (i := 1) (L' := [_, _]) dX5_firstDraft_1 rfl (Nat.le_of_ble_eq_true rfl) rfl rfl ?_
  have e := loop 75 0 rfl
  rw [zD_0] at e
  exact e
def kdF (f : Nat → Nat → Int32) : Nat → Nat → Int32 := up2 (up2 (cpR f 65 0 68 0 75) 67 0 0) 67 1 0
set_option maxRecDepth 100000 in
set_option maxHeartbeats 1000000 in
theorem f_keepDraft {V : am_V} {d : Nat} {f : Nat → Nat → Int32} {τ : Nat → Nat → Int64} : AF V MX5_keepDraft d [.ref 64] (f, τ) none (kdF f, τ) := by
  have tM := tb_M
  have t65 := tb_65
  have t67 := tb_67
  have t68 := tb_68
  have t69 := tb_69
  refine AM.of (L := [some (.ref 64), none]) (by decide +kernel) (Nat.le_of_ble_eq_true rfl) rfl ?_
  have loop : ∀ (m i : Nat), i + m = 75 → AW V MX5_keepDraft d 0 0 2 [some (.ref 64), some (.int (nI i))] [] (hp (cpR f 65 0 68 0 i, τ)) (fun r' h' => r' = none ∧ h' = hp (kdF f, τ)) := by
    intro m
    induction m with
    | zero =>
      intro i hm
      have hi : i = 75 := by omega
      subst hi
      refine aw_iload_n (i := 1) dX5_keepDraft_2 rfl rfl ?_
      refine aw_bipush (v := 75) dX5_keepDraft_3 (by decide) ?_
      refine aw_icmp_ge (tgt := 26) dX5_keepDraft_5 (by decide) (fun c5 => ?_) (fun c5 => ?_)
      · refine aw_aload_n (i := 0) dX5_keepDraft_26 rfl rfl ?_
        refine ax_getr (ci := 5) 2 dX5_keepDraft_27 rfl lfX5_16 (by decide) (by assumption) (by rfl) ?_
        refine aw_iconst (v := 0) dX5_keepDraft_30 (by decide) ?_
        refine aw_iconst (v := 0) dX5_keepDraft_31 (by decide) ?_
        refine ax_zastN (i := 0) dX5_keepDraft_32 t67 (by omega) (Nat.le_of_ble_eq_true rfl) (Or.inl rfl) ?_
        refine aw_aload_n (i := 0) dX5_keepDraft_33 rfl rfl ?_
        refine ax_getr (ci := 5) 2 dX5_keepDraft_34 rfl lfX5_16 (by decide) (by assumption) (by rfl) ?_
        refine aw_iconst (v := 1) dX5_keepDraft_37 (by decide) ?_
        refine aw_iconst (v := 0) dX5_keepDraft_38 (by decide) ?_
        refine ax_zastN (i := 1) dX5_keepDraft_39 t67 (by omega) (Nat.le_of_ble_eq_true rfl) (Or.inl rfl) ?_
        refine aw_return dX5_keepDraft_40 rfl ?_
        exact ⟨rfl, rfl⟩
      · exact absurd (show nI 75 ≤ nI 75 from Int32.le_refl _) c5
    | succ m ih =>
      intro i hm
      refine aw_iload_n (i := 1) dX5_keepDraft_2 rfl rfl ?_
      refine aw_bipush (v := 75) dX5_keepDraft_3 (by decide) ?_
      refine aw_icmp_ge (tgt := 26) dX5_keepDraft_5 (by decide) (fun c5 => ?_) (fun c5 => ?_)
      · exact absurd ((nI_leI (a := 75) (by omega) (by omega)).mp c5) (by omega)
      · refine aw_aload_n (i := 0) dX5_keepDraft_8 rfl rfl ?_
        refine ax_getr (ci := 5) 0 dX5_keepDraft_9 rfl lfX5_7 (by decide) (by assumption) (by rfl) ?_
        refine aw_iload_n (i := 1) dX5_keepDraft_12 rfl rfl ?_
        refine aw_aload_n (i := 0) dX5_keepDraft_13 rfl rfl ?_
        refine ax_getr (ci := 5) 3 dX5_keepDraft_14 rfl lfX5_20 (by decide) (by assumption) (by rfl) ?_
        refine aw_iload_n (i := 1) dX5_keepDraft_17 rfl rfl ?_
        refine ax_ialdN dX5_keepDraft_18 (by assumption) (by omega) (Nat.le_of_ble_eq_true rfl) ?_
        refine aw_tE (f 68 i) (cpR_o (by omega)) ?_
        refine ax_iastN dX5_keepDraft_19 (by assumption) (by omega) (Nat.le_of_ble_eq_true rfl) ?_
        refine aw_incN (L' := [_, _]) dX5_keepDraft_20 rfl (Nat.le_of_ble_eq_true rfl) rfl rfl ?_
        refine aw_goto (tgt := 2) dX5_keepDraft_23 (by decide) ?_
        rw [cpR_s0]
        exact ih (i + 1) (by omega)
  refine aw_iconst (v := 0) dX5_keepDraft_0 (by decide) ?_
  refine aw_istore_n (i := 1) (L' := [_, _]) dX5_keepDraft_1 rfl (Nat.le_of_ble_eq_true rfl) rfl rfl ?_
  have e := loop 75 0 rfl
  rw [cpR_0] at e
  exact e
