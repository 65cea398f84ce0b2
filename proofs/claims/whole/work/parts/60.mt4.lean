def mStep (ch : Nat → Int32) (q : Nat) (D : Nat → Int32) (n np : Nat) : Nat → Int32 := if lnN ch q = 5 then upd D 54 (pEv ch q).1 else if lnN ch q = 4 then dPress D np (pP1 ch q).1 (pP2 ch q).1 (pP3 ch q).1 else dKey D n (lnN ch q) (pK1 ch q).1 (pK2 ch q).1
def hStep (ch : Nat → Int32) (q : Nat) (h : Int32) : Int32 := if lnN ch q = 4 then hiF h (pP2 ch q).1 else h
theorem pNum_4 {ch : Nat → Int32} {r : Nat} (h : zk ch (zQ ch r) = 4) (lo hi : Int32) : (pNum ch lo hi (.inl r)).2 = .inr (1, zQ ch r) := by
  rw [pNum_l, if_pos h]
theorem MT_12 {ch g : Nat → Int32} {q : Nat} (h : MT ch g q) : (zk ch q = 4 ∧ g 12 = 1) ∨ (zk ch q ≠ 4 ∧ g 12 = 0) := by
  by_cases z : zk ch q = 4
  · exact Or.inl ⟨z, (h.1 z).1⟩
  · exact Or.inr ⟨z, (h.2 z).1⟩
theorem MT_10 {ch g : Nat → Int32} {q : Nat} (h : MT ch g q) (hz : zk ch q ≠ 4) {k : Nat} (hk : k ≤ 3) : g 10 = nI k ↔ zk ch q = k := by
  have e2 := (h.2 hz).2.1
  have hl := zk_le ch q
  rw [e2]
  exact nI_eq (by omega) (by omega)
set_option maxRecDepth 100000 in
set_option maxHeartbeats 3000000 in
theorem g_mLine {V : am_V} {d L : Nat} {f : Nat → Nat → Int32} {D g ch : Nat → Int32} {τ : Nat → Nat → Int64} (hT : tpOK f 69 L ch) (h7 : g 7 = nI L) {q n np told : Nat} (hM : MT ch g q) (hq : q ≤ L) (hk : zk ch q ≠ 4) (hn4 : n ≤ 4) (hn : D 28 = nI n) (hn8 : np ≤ 8) (hnp : D 53 = nI np) (ht : told ≤ 1) (h4 : g 4 = nI told) : AGv V MX5_readLine (d + 5) [.ref 64] (upk (upk f 68 D) 64 g, τ) (fun S' => ∃ D' g', S' = (upk (upk f 68 D') 64 g', τ) ∧ MS ch L g' (pL ch q n np told) ∧ mEh g' g ∧ (∀ p', pL ch q n np told = .inl p' → D' = mStep ch q D n np ∧ g' 4 = nI (tStep ch q told) ∧ g' 5 = hStep ch q (g 5))) := by
  have tM := tb_M
  have t65 := tb_65
  have t67 := tb_67
  have t68 := tb_68
  have t69 := tb_69
  have hL := hT.1
  obtain ⟨h12, h10, h9, h8, h11⟩ := hM.2 hk
  have hzr := zr_le hT hq
  refine AM.of (L := [some (.ref 64), none]) (by decide +kernel) (Nat.le_of_ble_eq_true rfl) rfl ?_
  have semiF : ∀ (D1 g3 : Nat → Int32) (k : Int32) (x : Nat × Nat), MS ch L g3 (.inr x) → mEh g3 g → AW V MX5_readLine (d + 5) 0 0 147 [some (.ref 64), some (.int k)] [] (hp (upk (upk f 68 D1) 64 g3, τ)) (fun r' h' => ∃ S' : fm, r' = none ∧ h' = hp S' ∧ ∃ g', S' = (upk (upk f 68 D1) 64 g', τ) ∧ MS ch L g' (pSemi ch (.inr x)) ∧ mEh g' g ∧ g' 4 = g3 4 ∧ g' 5 = g3 5) := by
    intro D1 g3 k x hx hE
    have n12 : ¬ g3 12 = 0 := by rw [hx.1]; exact nI_6 hx.2.1
    refine aw_aload_n (i := 0) dX5_readLine_147 rfl rfl ?_
    refine ax_getK (ci := 5) 12 dX5_readLine_148 rfl lfX5_70 (by decide) (by assumption) (by rfl) ?_
    refine aw_if_ne (tgt := 172) dX5_readLine_151 (by decide) (fun c151 => ?_) (fun c151 => ?_)
    · refine aw_aload_n (i := 0) dX5_readLine_172 rfl rfl ?_
      refine ax_callV0v (M' := MX5_reads) (ci := 5) dX5_readLine_173 lmX5_112 oX5_reads (by decide +kernel) (by assumption) rfl rfl (Nat.le_of_ble_eq_true rfl) (f_readsF hx.2.1 hx.1) ?_
      refine aw_return dX5_readLine_176 rfl ?_
      exact ⟨_, rfl, rfl, g3, rfl, hx, hE, rfl, rfl⟩
    · exact absurd c151 n12
  have semi : ∀ (D1 g3 : Nat → Int32) (k : Int32) (s2 : sg), MS ch L g3 s2 → mEh g3 g → AW V MX5_readLine (d + 5) 0 0 147 [some (.ref 64), some (.int k)] [] (hp (upk (upk f 68 D1) 64 g3, τ)) (fun r' h' => ∃ S' : fm, r' = none ∧ h' = hp S' ∧ ∃ g', S' = (upk (upk f 68 D1) 64 g', τ) ∧ MS ch L g' (pSemi ch s2) ∧ mEh g' g ∧ g' 4 = g3 4 ∧ g' 5 = g3 5) := by
    intro D1 g3 k s2 hs hE
    cases s2 with
    | inr x => exact semiF D1 g3 k x hs hE
    | inl p =>
      by_cases hz : zk ch (zQ ch p) = 4
      · rw [pSemi_l, if_pos hz]
        exact semiF D1 g3 k _ (MS_4 hs hz) hE
      · obtain ⟨k12, k10, k9, k8, -⟩ := hs.1.2 hz
        have hqp := zQ_le hT hs.2
        rw [pSemi_l, if_neg hz]
        by_cases hz3 : zk ch (zQ ch p) = 3
        · rw [if_pos hz3]
          have e10 : g3 10 = 3 := (MT_10 hs.1 hz (k := 3) (by omega)).mpr hz3
          refine aw_aload_n (i := 0) dX5_readLine_147 rfl rfl ?_
          refine ax_getK (ci := 5) 12 dX5_readLine_148 rfl lfX5_70 (by decide) (by assumption) (by rfl) ?_
          refine aw_if_ne (tgt := 172) dX5_readLine_151 (by decide) (fun c151 => ?_) (fun c151 => ?_)
          · exact absurd k12 c151
          · refine aw_aload_n (i := 0) dX5_readLine_154 rfl rfl ?_
            refine aw_aload_n (i := 0) dX5_readLine_155 rfl rfl ?_
            refine ax_getK (ci := 5) 10 dX5_readLine_156 rfl lfX5_94 (by decide) (by assumption) (by rfl) ?_
            refine aw_iconst (v := 3) dX5_readLine_159 (by decide) ?_
            refine aw_icmp_ne (tgt := 167) dX5_readLine_160 (by decide) (fun c160 => ?_) (fun c160 => ?_)
            · exact absurd e10 c160
            · refine aw_iconst (v := 1) dX5_readLine_163 (by decide) ?_
              refine aw_goto (tgt := 168) dX5_readLine_164 (by decide) ?_
              refine aw_iconst (v := 2) dX5_readLine_168 (by decide) ?_
              refine ax_callV2v (M' := MX5_requires) (ci := 5) dX5_readLine_169 lmX5_108 oX5_requires (by decide +kernel) (by assumption) rfl rfl (Nat.le_of_ble_eq_true rfl) (f_req1 _) ?_
              refine aw_aload_n (i := 0) dX5_readLine_172 rfl rfl ?_
              refine ax_gV0v (M' := MX5_reads) (ci := 5) dX5_readLine_173 lmX5_112 oX5_reads (by decide +kernel) (by assumption) rfl rfl (Nat.le_of_ble_eq_true rfl) (g_reads (hT.mv (upk_rne (by omega))) (zr_le hT hqp) ((hE 7 (by omega)).trans h7) k8 k12) (fun S_ h_ => ?_)
              obtain ⟨g5, rfl, hM5, hE5⟩ := h_
              refine aw_return dX5_readLine_176 rfl ?_
              exact ⟨_, rfl, rfl, g5, rfl, ⟨hM5, zr_le hT hqp⟩, hE5.h.tr hE, hE5 4 (by omega), hE5 5 (by omega)⟩
        · rw [if_neg hz3]
          have e10 : ¬ g3 10 = 3 := fun z => hz3 ((MT_10 hs.1 hz (k := 3) (by omega)).mp z)
          have hb : MS ch L (rqG g3 2) (.inr (2, zQ ch p)) := MS_rq (c := 2) k12 k9 (by omega)
          refine aw_aload_n (i := 0) dX5_readLine_147 rfl rfl ?_
          refine ax_getK (ci := 5) 12 dX5_readLine_148 rfl lfX5_70 (by decide) (by assumption) (by rfl) ?_
          refine aw_if_ne (tgt := 172) dX5_readLine_151 (by decide) (fun c151 => ?_) (fun c151 => ?_)
          · exact absurd k12 c151
          · refine aw_aload_n (i := 0) dX5_readLine_154 rfl rfl ?_
            refine aw_aload_n (i := 0) dX5_readLine_155 rfl rfl ?_
            refine ax_getK (ci := 5) 10 dX5_readLine_156 rfl lfX5_94 (by decide) (by assumption) (by rfl) ?_
            refine aw_iconst (v := 3) dX5_readLine_159 (by decide) ?_
            refine aw_icmp_ne (tgt := 167) dX5_readLine_160 (by decide) (fun c160 => ?_) (fun c160 => ?_)
            · refine aw_iconst (v := 0) dX5_readLine_167 (by decide) ?_
              refine aw_iconst (v := 2) dX5_readLine_168 (by decide) ?_
              refine ax_callV2v (M' := MX5_requires) (ci := 5) dX5_readLine_169 lmX5_108 oX5_requires (by decide +kernel) (by assumption) rfl rfl (Nat.le_of_ble_eq_true rfl) (f_req0 _) ?_
              refine aw_aload_n (i := 0) dX5_readLine_172 rfl rfl ?_
              refine ax_callV0v (M' := MX5_reads) (ci := 5) dX5_readLine_173 lmX5_112 oX5_reads (by decide +kernel) (by assumption) rfl rfl (Nat.le_of_ble_eq_true rfl) (f_readsF (c := 2) (by omega) hb.1) ?_
              refine aw_return dX5_readLine_176 rfl ?_
              exact ⟨_, rfl, rfl, rqG g3 2, rfl, hb, (rqG_e _ _).h.tr hE, rqG_e _ _ 4 (by omega), rqG_e _ _ 5 (by omega)⟩
            · exact absurd c160 e10
  have tailF : ∀ (g1 : Nat → Int32) (k : Int32) (x : Nat × Nat), MS ch L g1 (.inr x) → mEh g1 g → pL ch q n np told = .inr x → AW V MX5_readLine (d + 5) 0 0 109 [some (.ref 64), some (.int k)] [] (hp (upk (upk f 68 D) 64 g1, τ)) (fun r' h' => ∃ S' : fm, r' = none ∧ h' = hp S' ∧ ∃ D' g', S' = (upk (upk f 68 D') 64 g', τ) ∧ MS ch L g' (pL ch q n np told) ∧ mEh g' g ∧ (∀ p', pL ch q n np told = .inl p' → D' = mStep ch q D n np ∧ g' 4 = nI (tStep ch q told) ∧ g' 5 = hStep ch q (g 5))) := by
    intro g1 k x hx hE hpl
    have hxc := hx.2.1
    have n12 : ¬ g1 12 ≤ 0 := by rw [hx.1]; exact nI_nle (by omega) (by omega)
    refine aw_aload_n (i := 0) dX5_readLine_109 rfl rfl ?_
    refine aw_aload_n (i := 0) dX5_readLine_110 rfl rfl ?_
    refine ax_getK (ci := 5) 4 dX5_readLine_111 rfl lfX5_53 (by decide) (by assumption) (by rfl) ?_
    refine aw_if_ne (tgt := 122) dX5_readLine_114 (by decide) (fun c114 => ?_) (fun c114 => ?_)
    · refine aw_iconst (v := 1) dX5_readLine_122 (by decide) ?_
      refine aw_goto (tgt := 127) dX5_readLine_123 (by decide) ?_
      first
        | refine ax_putKz (ci := 5) 4 dX5_readLine_127 rfl lfX5_53 (by decide) (by assumption) (by rfl) rfl rfl (Or.inl rfl) ?_
        | refine ax_putKz (ci := 5) 4 dX5_readLine_127 rfl lfX5_53 (by decide) (by assumption) (by rfl) rfl rfl (Or.inr rfl) ?_
      refine aw_aload_n (i := 0) dX5_readLine_130 rfl rfl ?_
      refine ax_callV0v (M' := MX5_reads) (ci := 5) dX5_readLine_131 lmX5_112 oX5_reads (by decide +kernel) (by assumption) rfl rfl (Nat.le_of_ble_eq_true rfl) (f_readsF hxc (MS_5 (k := 4) hx (by omega) _).1) ?_
      refine aw_aload_n (i := 0) dX5_readLine_134 rfl rfl ?_
      refine ax_getK (ci := 5) 12 dX5_readLine_135 rfl lfX5_70 (by decide) (by assumption) (by rfl) ?_
      refine aw_if_le (tgt := 142) dX5_readLine_138 (by decide) (fun c138 => ?_) (fun c138 => ?_)
      · exact absurd c138 n12
      · refine aw_return dX5_readLine_141 rfl ?_
        refine ⟨_, rfl, rfl, D, _, rfl, ?_, hE.up (by omega) _, fun p' z => absurd (hpl.symm.trans z) (by intro z; cases z)⟩
        rw [hpl]
        exact MS_5 hx (by omega) _
    · refine aw_iload_n (i := 1) dX5_readLine_117 rfl rfl ?_
      refine aw_iconst (v := 5) dX5_readLine_118 (by decide) ?_
      refine aw_icmp_ne (tgt := 126) dX5_readLine_119 (by decide) (fun c119 => ?_) (fun c119 => ?_)
      · refine aw_iconst (v := 0) dX5_readLine_126 (by decide) ?_
        first
          | refine ax_putKz (ci := 5) 4 dX5_readLine_127 rfl lfX5_53 (by decide) (by assumption) (by rfl) rfl rfl (Or.inl rfl) ?_
          | refine ax_putKz (ci := 5) 4 dX5_readLine_127 rfl lfX5_53 (by decide) (by assumption) (by rfl) rfl rfl (Or.inr rfl) ?_
        refine aw_aload_n (i := 0) dX5_readLine_130 rfl rfl ?_
        refine ax_callV0v (M' := MX5_reads) (ci := 5) dX5_readLine_131 lmX5_112 oX5_reads (by decide +kernel) (by assumption) rfl rfl (Nat.le_of_ble_eq_true rfl) (f_readsF hxc (MS_5 (k := 4) hx (by omega) _).1) ?_
        refine aw_aload_n (i := 0) dX5_readLine_134 rfl rfl ?_
        refine ax_getK (ci := 5) 12 dX5_readLine_135 rfl lfX5_70 (by decide) (by assumption) (by rfl) ?_
        refine aw_if_le (tgt := 142) dX5_readLine_138 (by decide) (fun c138 => ?_) (fun c138 => ?_)
        · exact absurd c138 n12
        · refine aw_return dX5_readLine_141 rfl ?_
          refine ⟨_, rfl, rfl, D, _, rfl, ?_, hE.up (by omega) _, fun p' z => absurd (hpl.symm.trans z) (by intro z; cases z)⟩
          rw [hpl]
          exact MS_5 hx (by omega) _
      · refine aw_iconst (v := 1) dX5_readLine_122 (by decide) ?_
        refine aw_goto (tgt := 127) dX5_readLine_123 (by decide) ?_
        first
          | refine ax_putKz (ci := 5) 4 dX5_readLine_127 rfl lfX5_53 (by decide) (by assumption) (by rfl) rfl rfl (Or.inl rfl) ?_
          | refine ax_putKz (ci := 5) 4 dX5_readLine_127 rfl lfX5_53 (by decide) (by assumption) (by rfl) rfl rfl (Or.inr rfl) ?_
        refine aw_aload_n (i := 0) dX5_readLine_130 rfl rfl ?_
        refine ax_callV0v (M' := MX5_reads) (ci := 5) dX5_readLine_131 lmX5_112 oX5_reads (by decide +kernel) (by assumption) rfl rfl (Nat.le_of_ble_eq_true rfl) (f_readsF hxc (MS_5 (k := 4) hx (by omega) _).1) ?_
        refine aw_aload_n (i := 0) dX5_readLine_134 rfl rfl ?_
        refine ax_getK (ci := 5) 12 dX5_readLine_135 rfl lfX5_70 (by decide) (by assumption) (by rfl) ?_
        refine aw_if_le (tgt := 142) dX5_readLine_138 (by decide) (fun c138 => ?_) (fun c138 => ?_)
        · exact absurd c138 n12
        · refine aw_return dX5_readLine_141 rfl ?_
          refine ⟨_, rfl, rfl, D, _, rfl, ?_, hE.up (by omega) _, fun p' z => absurd (hpl.symm.trans z) (by intro z; cases z)⟩
          rw [hpl]
          exact MS_5 hx (by omega) _
  have tail5 : lnN ch q = 5 → told = 0 → AW V MX5_readLine (d + 5) 0 0 109 [some (.ref 64), some (.int (lnN ch q))] [] (hp (upk (upk f 68 D) 64 g, τ)) (fun r' h' => ∃ S' : fm, r' = none ∧ h' = hp S' ∧ ∃ D' g', S' = (upk (upk f 68 D') 64 g', τ) ∧ MS ch L g' (pL ch q n np told) ∧ mEh g' g ∧ (∀ p', pL ch q n np told = .inl p' → D' = mStep ch q D n np ∧ g' 4 = nI (tStep ch q told) ∧ g' 5 = hStep ch q (g 5))) := by
    intro e5 e0
    have hpl0 : pL ch q n np told = pSemi ch (pEv ch q).2 := by
      unfold pL
      rw [if_neg (by rw [e5]; decide), if_pos e5, if_pos e0]
    have t5 : tStep ch q told = 1 := by unfold tStep; rw [if_pos e5]
    have g40 : g 4 = 0 := by rw [h4, e0]; rfl
    refine aw_aload_n (i := 0) dX5_readLine_109 rfl rfl ?_
    refine aw_aload_n (i := 0) dX5_readLine_110 rfl rfl ?_
    refine ax_getK (ci := 5) 4 dX5_readLine_111 rfl lfX5_53 (by decide) (by assumption) (by rfl) ?_
    refine aw_if_ne (tgt := 122) dX5_readLine_114 (by decide) (fun c114 => ?_) (fun c114 => ?_)
    · exact absurd g40 c114
    · refine aw_iload_n (i := 1) dX5_readLine_117 rfl rfl ?_
      refine aw_iconst (v := 5) dX5_readLine_118 (by decide) ?_
      refine aw_icmp_ne (tgt := 126) dX5_readLine_119 (by decide) (fun c119 => ?_) (fun c119 => ?_)
      · exact absurd e5 c119
      · refine aw_iconst (v := 1) dX5_readLine_122 (by decide) ?_
        refine aw_goto (tgt := 127) dX5_readLine_123 (by decide) ?_
        first
          | refine ax_putKz (ci := 5) 4 dX5_readLine_127 rfl lfX5_53 (by decide) (by assumption) (by rfl) rfl rfl (Or.inl rfl) ?_
          | refine ax_putKz (ci := 5) 4 dX5_readLine_127 rfl lfX5_53 (by decide) (by assumption) (by rfl) rfl rfl (Or.inr rfl) ?_
        rw [show (1 : Int32) = nI (tStep ch q told) from (by rw [t5]; rfl)]
        refine aw_aload_n (i := 0) dX5_readLine_130 rfl rfl ?_
        refine ax_gV0v (M' := MX5_reads) (ci := 5) dX5_readLine_131 lmX5_112 oX5_reads (by decide +kernel) (by assumption) rfl rfl (Nat.le_of_ble_eq_true rfl) (g_reads (g := upd g 4 (nI (tStep ch q told))) (hT.mv (upk_rne (by omega))) hzr h7 h8 h12) (fun S_ h_ => ?_)
        obtain ⟨g2, rfl, hM2, hE2⟩ := h_
        refine aw_aload_n (i := 0) dX5_readLine_134 rfl rfl ?_
        refine ax_getK (ci := 5) 12 dX5_readLine_135 rfl lfX5_70 (by decide) (by assumption) (by rfl) ?_
        refine aw_if_le (tgt := 142) dX5_readLine_138 (by decide) (fun c138 => ?_) (fun c138 => ?_)
        · have hz2 : zk ch (zQ ch (zr ch q)) ≠ 4 := by
            rcases MT_12 hM2 with z | z
            · exact absurd c138 (by rw [z.2]; decide)
            · exact z.1
          rw [e5]
          refine aw_aload_n (i := 0) dX5_readLine_142 rfl rfl ?_
          refine aw_iload_n (i := 1) dX5_readLine_143 rfl rfl ?_
          refine ax_gV1v (M' := MX5_readLineOf) (ci := 5) dX5_readLine_144 lmX5_126 oX5_readLineOf (by decide +kernel) (by assumption) rfl rfl (Nat.le_of_ble_eq_true rfl) (g_mOf5 (s := .inl (zr ch q)) hT ((hE2 7 (by omega)).trans h7) ⟨hM2, hzr⟩) (fun S_ h_ => ?_)
          obtain ⟨g3, rfl, hM3, hE3, h43, h53⟩ := h_
          refine AW.weaken ?_ (semi _ g3 _ _ hM3 (hE3.tr (hE2.h.tr (mEh.rf.up (by omega) _))))
          rintro r h' ⟨S', w1, w2, g', w3, w4, w5, w6, w7⟩
          refine ⟨S', w1, w2, _, g', w3, ?_, w5, fun p' z => ⟨?_, ?_, ?_⟩⟩
          · rw [hpl0]; exact w4
          · unfold mStep; rw [if_pos e5]; rfl
          · rw [w6, h43]; exact hE2 4 (by omega)
          · rw [w7, h53]
            unfold hStep
            rw [if_neg (show ¬ lnN ch q = 4 by rw [e5]; decide), show g2 5 = g 5 from hE2 5 (by omega)]
        · have hz2 : zk ch (zQ ch (zr ch q)) = 4 := by
            rcases MT_12 hM2 with z | z
            · exact z.1
            · exact absurd (by rw [z.2]; decide) c138
          refine aw_return dX5_readLine_141 rfl ?_
          have hpl : pL ch q n np told = .inr (1, zQ ch (zr ch q)) := by
            rw [hpl0]
            show pSemi ch (pNum ch 1 4 (.inl (zr ch q))).2 = _
            rw [pNum_4 hz2]
            rfl
          refine ⟨_, rfl, rfl, D, g2, rfl, ?_, hE2.h.tr (mEh.rf.up (by omega) _), fun p' z => absurd (hpl.symm.trans z) (by intro z; cases z)⟩
          rw [hpl]
          exact MS_4 (p := zr ch q) ⟨hM2, hzr⟩ hz2
  have tail4 : lnN ch q = 4 → np < 8 → AW V MX5_readLine (d + 5) 0 0 109 [some (.ref 64), some (.int (lnN ch q))] [] (hp (upk (upk f 68 D) 64 g, τ)) (fun r' h' => ∃ S' : fm, r' = none ∧ h' = hp S' ∧ ∃ D' g', S' = (upk (upk f 68 D') 64 g', τ) ∧ MS ch L g' (pL ch q n np told) ∧ mEh g' g ∧ (∀ p', pL ch q n np told = .inl p' → D' = mStep ch q D n np ∧ g' 4 = nI (tStep ch q told) ∧ g' 5 = hStep ch q (g 5))) := by
    intro e4 e8
    have n5 : ¬ lnN ch q = 5 := by rw [e4]; decide
    have hpl0 : pL ch q n np told = pSemi ch (pP3 ch q).2 := by
      unfold pL
      rw [if_neg (by rw [e4]; decide), if_neg n5, if_pos e4, if_pos e8]
    have t5 : tStep ch q told = told := by unfold tStep; rw [if_neg n5]
    have hv : (if g 4 = 0 then (0 : Int32) else 1) = nI (tStep ch q told) := by
      rw [t5, h4]
      rcases (show told = 0 ∨ told = 1 by omega) with rfl | rfl <;> rfl
    refine aw_aload_n (i := 0) dX5_readLine_109 rfl rfl ?_
    refine aw_aload_n (i := 0) dX5_readLine_110 rfl rfl ?_
    refine ax_getK (ci := 5) 4 dX5_readLine_111 rfl lfX5_53 (by decide) (by assumption) (by rfl) ?_
    refine aw_if_ne (tgt := 122) dX5_readLine_114 (by decide) (fun c114 => ?_) (fun c114 => ?_)
    · refine aw_iconst (v := 1) dX5_readLine_122 (by decide) ?_
      refine aw_goto (tgt := 127) dX5_readLine_123 (by decide) ?_
      first
        | refine ax_putKz (ci := 5) 4 dX5_readLine_127 rfl lfX5_53 (by decide) (by assumption) (by rfl) rfl rfl (Or.inl rfl) ?_
        | refine ax_putKz (ci := 5) 4 dX5_readLine_127 rfl lfX5_53 (by decide) (by assumption) (by rfl) rfl rfl (Or.inr rfl) ?_
      first
        | rw [show (1 : Int32) = nI (tStep ch q told) from (if_neg c114).symm.trans hv]
        | rw [show (0 : Int32) = nI (tStep ch q told) from (if_pos c114).symm.trans hv]
      refine aw_aload_n (i := 0) dX5_readLine_130 rfl rfl ?_
      refine ax_gV0v (M' := MX5_reads) (ci := 5) dX5_readLine_131 lmX5_112 oX5_reads (by decide +kernel) (by assumption) rfl rfl (Nat.le_of_ble_eq_true rfl) (g_reads (g := upd g 4 (nI (tStep ch q told))) (hT.mv (upk_rne (by omega))) hzr h7 h8 h12) (fun S_ h_ => ?_)
      obtain ⟨g2, rfl, hM2, hE2⟩ := h_
      refine aw_aload_n (i := 0) dX5_readLine_134 rfl rfl ?_
      refine ax_getK (ci := 5) 12 dX5_readLine_135 rfl lfX5_70 (by decide) (by assumption) (by rfl) ?_
      refine aw_if_le (tgt := 142) dX5_readLine_138 (by decide) (fun c138 => ?_) (fun c138 => ?_)
      · have hz2 : zk ch (zQ ch (zr ch q)) ≠ 4 := by
          rcases MT_12 hM2 with z | z
          · exact absurd c138 (by rw [z.2]; decide)
          · exact z.1
        rw [e4]
        refine aw_aload_n (i := 0) dX5_readLine_142 rfl rfl ?_
        refine aw_iload_n (i := 1) dX5_readLine_143 rfl rfl ?_
        refine ax_gV1v (M' := MX5_readLineOf) (ci := 5) dX5_readLine_144 lmX5_126 oX5_readLineOf (by decide +kernel) (by assumption) rfl rfl (Nat.le_of_ble_eq_true rfl) (g_mOf4 (s := .inl (zr ch q)) hT ((hE2 7 (by omega)).trans h7) ⟨hM2, hzr⟩ e8 hnp) (fun S_ h_ => ?_)
        obtain ⟨g3, rfl, hM3, hE3, h43, h53⟩ := h_
        refine AW.weaken ?_ (semi _ g3 _ _ hM3 (hE3.tr (hE2.h.tr (mEh.rf.up (by omega) _))))
        rintro r h' ⟨S', w1, w2, g', w3, w4, w5, w6, w7⟩
        refine ⟨S', w1, w2, _, g', w3, ?_, w5, fun p' z => ⟨?_, ?_, ?_⟩⟩
        · rw [hpl0]; exact w4
        · unfold mStep; rw [if_neg n5, if_pos e4]; rfl
        · rw [w6, h43]; exact hE2 4 (by omega)
        · rw [w7, h53]
          unfold hStep
          rw [if_pos e4, show g2 5 = g 5 from hE2 5 (by omega)]
          rfl
      · have hz2 : zk ch (zQ ch (zr ch q)) = 4 := by
          rcases MT_12 hM2 with z | z
          · exact z.1
          · exact absurd (by rw [z.2]; decide) c138
        refine aw_return dX5_readLine_141 rfl ?_
        have hpl : pL ch q n np told = .inr (1, zQ ch (zr ch q)) := by
          rw [hpl0]
          show pSemi ch (pNum ch 0 1 (pNum ch 0 3 (pNum ch 0 99 (.inl (zr ch q))).2).2).2 = _
          rw [pNum_4 hz2]
          rfl
        refine ⟨_, rfl, rfl, D, g2, rfl, ?_, hE2.h.tr (mEh.rf.up (by omega) _), fun p' z => absurd (hpl.symm.trans z) (by intro z; cases z)⟩
        rw [hpl]
        exact MS_4 (p := zr ch q) ⟨hM2, hzr⟩ hz2
    · refine aw_iload_n (i := 1) dX5_readLine_117 rfl rfl ?_
      refine aw_iconst (v := 5) dX5_readLine_118 (by decide) ?_
      refine aw_icmp_ne (tgt := 126) dX5_readLine_119 (by decide) (fun c119 => ?_) (fun c119 => ?_)
      · refine aw_iconst (v := 0) dX5_readLine_126 (by decide) ?_
        first
          | refine ax_putKz (ci := 5) 4 dX5_readLine_127 rfl lfX5_53 (by decide) (by assumption) (by rfl) rfl rfl (Or.inl rfl) ?_
          | refine ax_putKz (ci := 5) 4 dX5_readLine_127 rfl lfX5_53 (by decide) (by assumption) (by rfl) rfl rfl (Or.inr rfl) ?_
        first
          | rw [show (1 : Int32) = nI (tStep ch q told) from (if_neg c114).symm.trans hv]
          | rw [show (0 : Int32) = nI (tStep ch q told) from (if_pos c114).symm.trans hv]
        refine aw_aload_n (i := 0) dX5_readLine_130 rfl rfl ?_
        refine ax_gV0v (M' := MX5_reads) (ci := 5) dX5_readLine_131 lmX5_112 oX5_reads (by decide +kernel) (by assumption) rfl rfl (Nat.le_of_ble_eq_true rfl) (g_reads (g := upd g 4 (nI (tStep ch q told))) (hT.mv (upk_rne (by omega))) hzr h7 h8 h12) (fun S_ h_ => ?_)
        obtain ⟨g2, rfl, hM2, hE2⟩ := h_
        refine aw_aload_n (i := 0) dX5_readLine_134 rfl rfl ?_
        refine ax_getK (ci := 5) 12 dX5_readLine_135 rfl lfX5_70 (by decide) (by assumption) (by rfl) ?_
        refine aw_if_le (tgt := 142) dX5_readLine_138 (by decide) (fun c138 => ?_) (fun c138 => ?_)
        · have hz2 : zk ch (zQ ch (zr ch q)) ≠ 4 := by
            rcases MT_12 hM2 with z | z
            · exact absurd c138 (by rw [z.2]; decide)
            · exact z.1
          rw [e4]
          refine aw_aload_n (i := 0) dX5_readLine_142 rfl rfl ?_
          refine aw_iload_n (i := 1) dX5_readLine_143 rfl rfl ?_
          refine ax_gV1v (M' := MX5_readLineOf) (ci := 5) dX5_readLine_144 lmX5_126 oX5_readLineOf (by decide +kernel) (by assumption) rfl rfl (Nat.le_of_ble_eq_true rfl) (g_mOf4 (s := .inl (zr ch q)) hT ((hE2 7 (by omega)).trans h7) ⟨hM2, hzr⟩ e8 hnp) (fun S_ h_ => ?_)
          obtain ⟨g3, rfl, hM3, hE3, h43, h53⟩ := h_
          refine AW.weaken ?_ (semi _ g3 _ _ hM3 (hE3.tr (hE2.h.tr (mEh.rf.up (by omega) _))))
          rintro r h' ⟨S', w1, w2, g', w3, w4, w5, w6, w7⟩
          refine ⟨S', w1, w2, _, g', w3, ?_, w5, fun p' z => ⟨?_, ?_, ?_⟩⟩
          · rw [hpl0]; exact w4
          · unfold mStep; rw [if_neg n5, if_pos e4]; rfl
          · rw [w6, h43]; exact hE2 4 (by omega)
          · rw [w7, h53]
            unfold hStep
            rw [if_pos e4, show g2 5 = g 5 from hE2 5 (by omega)]
            rfl
        · have hz2 : zk ch (zQ ch (zr ch q)) = 4 := by
            rcases MT_12 hM2 with z | z
            · exact z.1
            · exact absurd (by rw [z.2]; decide) c138
          refine aw_return dX5_readLine_141 rfl ?_
          have hpl : pL ch q n np told = .inr (1, zQ ch (zr ch q)) := by
            rw [hpl0]
            show pSemi ch (pNum ch 0 1 (pNum ch 0 3 (pNum ch 0 99 (.inl (zr ch q))).2).2).2 = _
            rw [pNum_4 hz2]
            rfl
          refine ⟨_, rfl, rfl, D, g2, rfl, ?_, hE2.h.tr (mEh.rf.up (by omega) _), fun p' z => absurd (hpl.symm.trans z) (by intro z; cases z)⟩
          rw [hpl]
          exact MS_4 (p := zr ch q) ⟨hM2, hzr⟩ hz2
      · exact absurd c119 n5
  have tailK : lnN ch q ≠ -4 → lnN ch q ≠ 5 → lnN ch q ≠ 4 → n < 4 → AW V MX5_readLine (d + 5) 0 0 109 [some (.ref 64), some (.int (lnN ch q))] [] (hp (upk (upk f 68 D) 64 g, τ)) (fun r' h' => ∃ S' : fm, r' = none ∧ h' = hp S' ∧ ∃ D' g', S' = (upk (upk f 68 D') 64 g', τ) ∧ MS ch L g' (pL ch q n np told) ∧ mEh g' g ∧ (∀ p', pL ch q n np told = .inl p' → D' = mStep ch q D n np ∧ g' 4 = nI (tStep ch q told) ∧ g' 5 = hStep ch q (g 5))) := by
    intro n9 n5 n4 e8
    have hpl0 : pL ch q n np told = pSemi ch (pK2 ch q).2 := by
      unfold pL
      rw [if_neg n9, if_neg n5, if_neg n4, if_pos e8]
    have t5 : tStep ch q told = told := by unfold tStep; rw [if_neg n5]
    have hv : (if g 4 = 0 then (0 : Int32) else 1) = nI (tStep ch q told) := by
      rw [t5, h4]
      rcases (show told = 0 ∨ told = 1 by omega) with rfl | rfl <;> rfl
    refine aw_aload_n (i := 0) dX5_readLine_109 rfl rfl ?_
    refine aw_aload_n (i := 0) dX5_readLine_110 rfl rfl ?_
    refine ax_getK (ci := 5) 4 dX5_readLine_111 rfl lfX5_53 (by decide) (by assumption) (by rfl) ?_
    refine aw_if_ne (tgt := 122) dX5_readLine_114 (by decide) (fun c114 => ?_) (fun c114 => ?_)
    · refine aw_iconst (v := 1) dX5_readLine_122 (by decide) ?_
      refine aw_goto (tgt := 127) dX5_readLine_123 (by decide) ?_
      first
        | refine ax_putKz (ci := 5) 4 dX5_readLine_127 rfl lfX5_53 (by decide) (by assumption) (by rfl) rfl rfl (Or.inl rfl) ?_
        | refine ax_putKz (ci := 5) 4 dX5_readLine_127 rfl lfX5_53 (by decide) (by assumption) (by rfl) rfl rfl (Or.inr rfl) ?_
      first
        | rw [show (1 : Int32) = nI (tStep ch q told) from (if_neg c114).symm.trans hv]
        | rw [show (0 : Int32) = nI (tStep ch q told) from (if_pos c114).symm.trans hv]
      refine aw_aload_n (i := 0) dX5_readLine_130 rfl rfl ?_
      refine ax_gV0v (M' := MX5_reads) (ci := 5) dX5_readLine_131 lmX5_112 oX5_reads (by decide +kernel) (by assumption) rfl rfl (Nat.le_of_ble_eq_true rfl) (g_reads (g := upd g 4 (nI (tStep ch q told))) (hT.mv (upk_rne (by omega))) hzr h7 h8 h12) (fun S_ h_ => ?_)
      obtain ⟨g2, rfl, hM2, hE2⟩ := h_
      refine aw_aload_n (i := 0) dX5_readLine_134 rfl rfl ?_
      refine ax_getK (ci := 5) 12 dX5_readLine_135 rfl lfX5_70 (by decide) (by assumption) (by rfl) ?_
      refine aw_if_le (tgt := 142) dX5_readLine_138 (by decide) (fun c138 => ?_) (fun c138 => ?_)
      · have hz2 : zk ch (zQ ch (zr ch q)) ≠ 4 := by
          rcases MT_12 hM2 with z | z
          · exact absurd c138 (by rw [z.2]; decide)
          · exact z.1
        refine aw_aload_n (i := 0) dX5_readLine_142 rfl rfl ?_
        refine aw_iload_n (i := 1) dX5_readLine_143 rfl rfl ?_
        refine ax_gV1v (M' := MX5_readLineOf) (ci := 5) dX5_readLine_144 lmX5_126 oX5_readLineOf (by decide +kernel) (by assumption) rfl rfl (Nat.le_of_ble_eq_true rfl) (g_mOfK (s := .inl (zr ch q)) hT ((hE2 7 (by omega)).trans h7) ⟨hM2, hzr⟩ e8 hn n4 n5) (fun S_ h_ => ?_)
        obtain ⟨g3, rfl, hM3, hE3, h43, h53⟩ := h_
        refine AW.weaken ?_ (semi _ g3 _ _ hM3 (hE3.tr (hE2.h.tr (mEh.rf.up (by omega) _))))
        rintro r h' ⟨S', w1, w2, g', w3, w4, w5, w6, w7⟩
        refine ⟨S', w1, w2, _, g', w3, ?_, w5, fun p' z => ⟨?_, ?_, ?_⟩⟩
        · rw [hpl0]; exact w4
        · unfold mStep; rw [if_neg n5, if_neg n4]; rfl
        · rw [w6, h43]; exact hE2 4 (by omega)
        · rw [w7, h53]
          unfold hStep
          rw [if_neg n4, show g2 5 = g 5 from hE2 5 (by omega)]
      · have hz2 : zk ch (zQ ch (zr ch q)) = 4 := by
          rcases MT_12 hM2 with z | z
          · exact z.1
          · exact absurd (by rw [z.2]; decide) c138
        refine aw_return dX5_readLine_141 rfl ?_
        have hpl : pL ch q n np told = .inr (1, zQ ch (zr ch q)) := by
          rw [hpl0]
          show pSemi ch (pNum ch 1 9 (pNum ch 0 9 (.inl (zr ch q))).2).2 = _
          rw [pNum_4 hz2]
          rfl
        refine ⟨_, rfl, rfl, D, g2, rfl, ?_, hE2.h.tr (mEh.rf.up (by omega) _), fun p' z => absurd (hpl.symm.trans z) (by intro z; cases z)⟩
        rw [hpl]
        exact MS_4 (p := zr ch q) ⟨hM2, hzr⟩ hz2
    · refine aw_iload_n (i := 1) dX5_readLine_117 rfl rfl ?_
      refine aw_iconst (v := 5) dX5_readLine_118 (by decide) ?_
      refine aw_icmp_ne (tgt := 126) dX5_readLine_119 (by decide) (fun c119 => ?_) (fun c119 => ?_)
      · refine aw_iconst (v := 0) dX5_readLine_126 (by decide) ?_
        first
          | refine ax_putKz (ci := 5) 4 dX5_readLine_127 rfl lfX5_53 (by decide) (by assumption) (by rfl) rfl rfl (Or.inl rfl) ?_
          | refine ax_putKz (ci := 5) 4 dX5_readLine_127 rfl lfX5_53 (by decide) (by assumption) (by rfl) rfl rfl (Or.inr rfl) ?_
        first
          | rw [show (1 : Int32) = nI (tStep ch q told) from (if_neg c114).symm.trans hv]
          | rw [show (0 : Int32) = nI (tStep ch q told) from (if_pos c114).symm.trans hv]
        refine aw_aload_n (i := 0) dX5_readLine_130 rfl rfl ?_
        refine ax_gV0v (M' := MX5_reads) (ci := 5) dX5_readLine_131 lmX5_112 oX5_reads (by decide +kernel) (by assumption) rfl rfl (Nat.le_of_ble_eq_true rfl) (g_reads (g := upd g 4 (nI (tStep ch q told))) (hT.mv (upk_rne (by omega))) hzr h7 h8 h12) (fun S_ h_ => ?_)
        obtain ⟨g2, rfl, hM2, hE2⟩ := h_
        refine aw_aload_n (i := 0) dX5_readLine_134 rfl rfl ?_
        refine ax_getK (ci := 5) 12 dX5_readLine_135 rfl lfX5_70 (by decide) (by assumption) (by rfl) ?_
        refine aw_if_le (tgt := 142) dX5_readLine_138 (by decide) (fun c138 => ?_) (fun c138 => ?_)
        · have hz2 : zk ch (zQ ch (zr ch q)) ≠ 4 := by
            rcases MT_12 hM2 with z | z
            · exact absurd c138 (by rw [z.2]; decide)
            · exact z.1
          refine aw_aload_n (i := 0) dX5_readLine_142 rfl rfl ?_
          refine aw_iload_n (i := 1) dX5_readLine_143 rfl rfl ?_
          refine ax_gV1v (M' := MX5_readLineOf) (ci := 5) dX5_readLine_144 lmX5_126 oX5_readLineOf (by decide +kernel) (by assumption) rfl rfl (Nat.le_of_ble_eq_true rfl) (g_mOfK (s := .inl (zr ch q)) hT ((hE2 7 (by omega)).trans h7) ⟨hM2, hzr⟩ e8 hn n4 n5) (fun S_ h_ => ?_)
          obtain ⟨g3, rfl, hM3, hE3, h43, h53⟩ := h_
          refine AW.weaken ?_ (semi _ g3 _ _ hM3 (hE3.tr (hE2.h.tr (mEh.rf.up (by omega) _))))
          rintro r h' ⟨S', w1, w2, g', w3, w4, w5, w6, w7⟩
          refine ⟨S', w1, w2, _, g', w3, ?_, w5, fun p' z => ⟨?_, ?_, ?_⟩⟩
          · rw [hpl0]; exact w4
          · unfold mStep; rw [if_neg n5, if_neg n4]; rfl
          · rw [w6, h43]; exact hE2 4 (by omega)
          · rw [w7, h53]
            unfold hStep
            rw [if_neg n4, show g2 5 = g 5 from hE2 5 (by omega)]
        · have hz2 : zk ch (zQ ch (zr ch q)) = 4 := by
            rcases MT_12 hM2 with z | z
            · exact z.1
            · exact absurd (by rw [z.2]; decide) c138
          refine aw_return dX5_readLine_141 rfl ?_
          have hpl : pL ch q n np told = .inr (1, zQ ch (zr ch q)) := by
            rw [hpl0]
            show pSemi ch (pNum ch 1 9 (pNum ch 0 9 (.inl (zr ch q))).2).2 = _
            rw [pNum_4 hz2]
            rfl
          refine ⟨_, rfl, rfl, D, g2, rfl, ?_, hE2.h.tr (mEh.rf.up (by omega) _), fun p' z => absurd (hpl.symm.trans z) (by intro z; cases z)⟩
          rw [hpl]
          exact MS_4 (p := zr ch q) ⟨hM2, hzr⟩ hz2
      · exact absurd c119 n5
  have mid : AW V MX5_readLine (d + 5) 0 0 17 [some (.ref 64), none] [.int (lnN ch q)] (hp (upk (upk f 68 D) 64 g, τ)) (fun r' h' => ∃ S' : fm, r' = none ∧ h' = hp S' ∧ ∃ D' g', S' = (upk (upk f 68 D') 64 g', τ) ∧ MS ch L g' (pL ch q n np told) ∧ mEh g' g ∧ (∀ p', pL ch q n np told = .inl p' → D' = mStep ch q D n np ∧ g' 4 = nI (tStep ch q told) ∧ g' 5 = hStep ch q (g 5))) := by
    by_cases hA : lnN ch q = -4
    · have hb : MS ch L (rqG g 2) (.inr (2, q)) := MS_rq (c := 2) h12 h9 (by omega)
      have n12 : ¬ rqG g 2 12 = 0 := by rw [hb.1]; exact nI_6 hb.2.1
      have hpl : pL ch q n np told = .inr (2, q) := by unfold pL; rw [if_pos hA]
      refine aw_istore_n (i := 1) (L' := [_, _]) dX5_readLine_17 rfl (Nat.le_of_ble_eq_true rfl) rfl rfl ?_
      refine aw_aload_n (i := 0) dX5_readLine_18 rfl rfl ?_
      refine aw_iload_n (i := 1) dX5_readLine_19 rfl rfl ?_
      refine aw_bipush (v := -4) dX5_readLine_20 (by decide) ?_
      refine aw_icmp_eq (tgt := 29) dX5_readLine_22 (by decide) (fun c22 => ?_) (fun c22 => ?_)
      · refine aw_iconst (v := 0) dX5_readLine_29 (by decide) ?_
        refine aw_iconst (v := 2) dX5_readLine_30 (by decide) ?_
        refine ax_callV2v (M' := MX5_requires) (ci := 5) dX5_readLine_31 lmX5_108 oX5_requires (by decide +kernel) (by assumption) rfl rfl (Nat.le_of_ble_eq_true rfl) (f_req0 _) ?_
        refine aw_aload_n (i := 0) dX5_readLine_34 rfl rfl ?_
        refine aw_iload_n (i := 1) dX5_readLine_35 rfl rfl ?_
        refine aw_iconst (v := 4) dX5_readLine_36 (by decide) ?_
        refine aw_icmp_ge (tgt := 51) dX5_readLine_37 (by decide) (fun c37 => ?_) (fun c37 => ?_)
        · exact absurd c37 (by rw [hA]; decide)
        · refine aw_aload_n (i := 0) dX5_readLine_40 rfl rfl ?_
          refine ax_getr (ci := 5) 3 dX5_readLine_41 rfl lfX5_20 (by decide) (by assumption) (by rfl) ?_
          refine aw_bipush (v := 28) dX5_readLine_44 (by decide) ?_
          refine ax_ialdD (i := 28) dX5_readLine_46 (by omega) ?_
          refine aw_tE (nI n) hn ?_
          refine aw_iconst (v := 4) dX5_readLine_47 (by decide) ?_
          refine aw_icmp_ge (tgt := 55) dX5_readLine_48 (by decide) (fun c48 => ?_) (fun c48 => ?_)
          · refine aw_iconst (v := 0) dX5_readLine_55 (by decide) ?_
            refine aw_iconst (v := 5) dX5_readLine_56 (by decide) ?_
            refine ax_callV2v (M' := MX5_requires) (ci := 5) dX5_readLine_57 lmX5_108 oX5_requires (by decide +kernel) (by assumption) rfl rfl (Nat.le_of_ble_eq_true rfl) (f_req0 _) ?_
            refine aw_aload_n (i := 0) dX5_readLine_60 rfl rfl ?_
            refine aw_iload_n (i := 1) dX5_readLine_61 rfl rfl ?_
            refine aw_iconst (v := 4) dX5_readLine_62 (by decide) ?_
            refine aw_icmp_ne (tgt := 78) dX5_readLine_63 (by decide) (fun c63 => ?_) (fun c63 => ?_)
            · refine aw_iconst (v := 1) dX5_readLine_78 (by decide) ?_
              refine aw_goto (tgt := 83) dX5_readLine_79 (by decide) ?_
              refine aw_iconst (v := 5) dX5_readLine_83 (by decide) ?_
              refine ax_callV2v (M' := MX5_requires) (ci := 5) dX5_readLine_84 lmX5_108 oX5_requires (by decide +kernel) (by assumption) rfl rfl (Nat.le_of_ble_eq_true rfl) (f_req1 _) ?_
              refine aw_aload_n (i := 0) dX5_readLine_87 rfl rfl ?_
              refine aw_iload_n (i := 1) dX5_readLine_88 rfl rfl ?_
              refine aw_iconst (v := 5) dX5_readLine_89 (by decide) ?_
              refine aw_icmp_ne (tgt := 100) dX5_readLine_90 (by decide) (fun c90 => ?_) (fun c90 => ?_)
              · refine aw_iconst (v := 1) dX5_readLine_100 (by decide) ?_
                refine aw_goto (tgt := 105) dX5_readLine_101 (by decide) ?_
                refine aw_iconst (v := 4) dX5_readLine_105 (by decide) ?_
                refine ax_callV2v (M' := MX5_requires) (ci := 5) dX5_readLine_106 lmX5_108 oX5_requires (by decide +kernel) (by assumption) rfl rfl (Nat.le_of_ble_eq_true rfl) (f_req1 _) ?_
                first
                  | (rw [rqG_f (c := 5) n12]; exact tailF (rqG g 2) _ (2, q) hb (rqG_e _ _).h hpl)
                  | exact tailF (rqG g 2) _ (2, q) hb (rqG_e _ _).h hpl
              · exact absurd c90 (by rw [hA]; decide)
            · exact absurd c63 (by rw [hA]; decide)
          · refine aw_iconst (v := 1) dX5_readLine_51 (by decide) ?_
            refine aw_goto (tgt := 56) dX5_readLine_52 (by decide) ?_
            refine aw_iconst (v := 5) dX5_readLine_56 (by decide) ?_
            refine ax_callV2v (M' := MX5_requires) (ci := 5) dX5_readLine_57 lmX5_108 oX5_requires (by decide +kernel) (by assumption) rfl rfl (Nat.le_of_ble_eq_true rfl) (f_req1 _) ?_
            refine aw_aload_n (i := 0) dX5_readLine_60 rfl rfl ?_
            refine aw_iload_n (i := 1) dX5_readLine_61 rfl rfl ?_
            refine aw_iconst (v := 4) dX5_readLine_62 (by decide) ?_
            refine aw_icmp_ne (tgt := 78) dX5_readLine_63 (by decide) (fun c63 => ?_) (fun c63 => ?_)
            · refine aw_iconst (v := 1) dX5_readLine_78 (by decide) ?_
              refine aw_goto (tgt := 83) dX5_readLine_79 (by decide) ?_
              refine aw_iconst (v := 5) dX5_readLine_83 (by decide) ?_
              refine ax_callV2v (M' := MX5_requires) (ci := 5) dX5_readLine_84 lmX5_108 oX5_requires (by decide +kernel) (by assumption) rfl rfl (Nat.le_of_ble_eq_true rfl) (f_req1 _) ?_
              refine aw_aload_n (i := 0) dX5_readLine_87 rfl rfl ?_
              refine aw_iload_n (i := 1) dX5_readLine_88 rfl rfl ?_
              refine aw_iconst (v := 5) dX5_readLine_89 (by decide) ?_
              refine aw_icmp_ne (tgt := 100) dX5_readLine_90 (by decide) (fun c90 => ?_) (fun c90 => ?_)
              · refine aw_iconst (v := 1) dX5_readLine_100 (by decide) ?_
                refine aw_goto (tgt := 105) dX5_readLine_101 (by decide) ?_
                refine aw_iconst (v := 4) dX5_readLine_105 (by decide) ?_
                refine ax_callV2v (M' := MX5_requires) (ci := 5) dX5_readLine_106 lmX5_108 oX5_requires (by decide +kernel) (by assumption) rfl rfl (Nat.le_of_ble_eq_true rfl) (f_req1 _) ?_
                first
                  | (rw [rqG_f (c := 5) n12]; exact tailF (rqG g 2) _ (2, q) hb (rqG_e _ _).h hpl)
                  | exact tailF (rqG g 2) _ (2, q) hb (rqG_e _ _).h hpl
              · exact absurd c90 (by rw [hA]; decide)
            · exact absurd c63 (by rw [hA]; decide)
      · exact absurd hA c22
    · by_cases e5 : lnN ch q = 5
      · by_cases e0 : told = 0
        · have n0 : nI told = 0 := by rw [e0]; rfl
          refine aw_istore_n (i := 1) (L' := [_, _]) dX5_readLine_17 rfl (Nat.le_of_ble_eq_true rfl) rfl rfl ?_
          refine aw_aload_n (i := 0) dX5_readLine_18 rfl rfl ?_
          refine aw_iload_n (i := 1) dX5_readLine_19 rfl rfl ?_
          refine aw_bipush (v := -4) dX5_readLine_20 (by decide) ?_
          refine aw_icmp_eq (tgt := 29) dX5_readLine_22 (by decide) (fun c22 => ?_) (fun c22 => ?_)
          · exact absurd c22 hA
          · refine aw_iconst (v := 1) dX5_readLine_25 (by decide) ?_
            refine aw_goto (tgt := 30) dX5_readLine_26 (by decide) ?_
            refine aw_iconst (v := 2) dX5_readLine_30 (by decide) ?_
            refine ax_callV2v (M' := MX5_requires) (ci := 5) dX5_readLine_31 lmX5_108 oX5_requires (by decide +kernel) (by assumption) rfl rfl (Nat.le_of_ble_eq_true rfl) (f_req1 _) ?_
            refine aw_aload_n (i := 0) dX5_readLine_34 rfl rfl ?_
            refine aw_iload_n (i := 1) dX5_readLine_35 rfl rfl ?_
            refine aw_iconst (v := 4) dX5_readLine_36 (by decide) ?_
            refine aw_icmp_ge (tgt := 51) dX5_readLine_37 (by decide) (fun c37 => ?_) (fun c37 => ?_)
            · refine aw_iconst (v := 1) dX5_readLine_51 (by decide) ?_
              refine aw_goto (tgt := 56) dX5_readLine_52 (by decide) ?_
              refine aw_iconst (v := 5) dX5_readLine_56 (by decide) ?_
              refine ax_callV2v (M' := MX5_requires) (ci := 5) dX5_readLine_57 lmX5_108 oX5_requires (by decide +kernel) (by assumption) rfl rfl (Nat.le_of_ble_eq_true rfl) (f_req1 _) ?_
              refine aw_aload_n (i := 0) dX5_readLine_60 rfl rfl ?_
              refine aw_iload_n (i := 1) dX5_readLine_61 rfl rfl ?_
              refine aw_iconst (v := 4) dX5_readLine_62 (by decide) ?_
              refine aw_icmp_ne (tgt := 78) dX5_readLine_63 (by decide) (fun c63 => ?_) (fun c63 => ?_)
              · refine aw_iconst (v := 1) dX5_readLine_78 (by decide) ?_
                refine aw_goto (tgt := 83) dX5_readLine_79 (by decide) ?_
                refine aw_iconst (v := 5) dX5_readLine_83 (by decide) ?_
                refine ax_callV2v (M' := MX5_requires) (ci := 5) dX5_readLine_84 lmX5_108 oX5_requires (by decide +kernel) (by assumption) rfl rfl (Nat.le_of_ble_eq_true rfl) (f_req1 _) ?_
                refine aw_aload_n (i := 0) dX5_readLine_87 rfl rfl ?_
                refine aw_iload_n (i := 1) dX5_readLine_88 rfl rfl ?_
                refine aw_iconst (v := 5) dX5_readLine_89 (by decide) ?_
                refine aw_icmp_ne (tgt := 100) dX5_readLine_90 (by decide) (fun c90 => ?_) (fun c90 => ?_)
                · exact absurd e5 c90
                · refine aw_aload_n (i := 0) dX5_readLine_93 rfl rfl ?_
                  refine ax_getK (ci := 5) 4 dX5_readLine_94 rfl lfX5_53 (by decide) (by assumption) (by rfl) ?_
                  refine aw_tE (nI told) h4 ?_
                  refine aw_if_ne (tgt := 104) dX5_readLine_97 (by decide) (fun c97 => ?_) (fun c97 => ?_)
                  · exact absurd n0 c97
                  · refine aw_iconst (v := 1) dX5_readLine_100 (by decide) ?_
                    refine aw_goto (tgt := 105) dX5_readLine_101 (by decide) ?_
                    refine aw_iconst (v := 4) dX5_readLine_105 (by decide) ?_
                    refine ax_callV2v (M' := MX5_requires) (ci := 5) dX5_readLine_106 lmX5_108 oX5_requires (by decide +kernel) (by assumption) rfl rfl (Nat.le_of_ble_eq_true rfl) (f_req1 _) ?_
                    exact tail5 e5 e0
              · exact absurd c63 (by rw [e5]; decide)
            · exact absurd (by rw [e5]; decide) c37
        · have n0 : ¬ nI told = 0 := nI_ne0 (by omega) (by omega)
          have hb : MS ch L (rqG g 4) (.inr (4, q)) := MS_rq (c := 4) h12 h9 (by omega)
          have hpl : pL ch q n np told = .inr (4, q) := by unfold pL; rw [if_neg hA, if_pos e5, if_neg e0]
          refine aw_istore_n (i := 1) (L' := [_, _]) dX5_readLine_17 rfl (Nat.le_of_ble_eq_true rfl) rfl rfl ?_
          refine aw_aload_n (i := 0) dX5_readLine_18 rfl rfl ?_
          refine aw_iload_n (i := 1) dX5_readLine_19 rfl rfl ?_
          refine aw_bipush (v := -4) dX5_readLine_20 (by decide) ?_
          refine aw_icmp_eq (tgt := 29) dX5_readLine_22 (by decide) (fun c22 => ?_) (fun c22 => ?_)
          · exact absurd c22 hA
          · refine aw_iconst (v := 1) dX5_readLine_25 (by decide) ?_
            refine aw_goto (tgt := 30) dX5_readLine_26 (by decide) ?_
            refine aw_iconst (v := 2) dX5_readLine_30 (by decide) ?_
            refine ax_callV2v (M' := MX5_requires) (ci := 5) dX5_readLine_31 lmX5_108 oX5_requires (by decide +kernel) (by assumption) rfl rfl (Nat.le_of_ble_eq_true rfl) (f_req1 _) ?_
            refine aw_aload_n (i := 0) dX5_readLine_34 rfl rfl ?_
            refine aw_iload_n (i := 1) dX5_readLine_35 rfl rfl ?_
            refine aw_iconst (v := 4) dX5_readLine_36 (by decide) ?_
            refine aw_icmp_ge (tgt := 51) dX5_readLine_37 (by decide) (fun c37 => ?_) (fun c37 => ?_)
            · refine aw_iconst (v := 1) dX5_readLine_51 (by decide) ?_
              refine aw_goto (tgt := 56) dX5_readLine_52 (by decide) ?_
              refine aw_iconst (v := 5) dX5_readLine_56 (by decide) ?_
              refine ax_callV2v (M' := MX5_requires) (ci := 5) dX5_readLine_57 lmX5_108 oX5_requires (by decide +kernel) (by assumption) rfl rfl (Nat.le_of_ble_eq_true rfl) (f_req1 _) ?_
              refine aw_aload_n (i := 0) dX5_readLine_60 rfl rfl ?_
              refine aw_iload_n (i := 1) dX5_readLine_61 rfl rfl ?_
              refine aw_iconst (v := 4) dX5_readLine_62 (by decide) ?_
              refine aw_icmp_ne (tgt := 78) dX5_readLine_63 (by decide) (fun c63 => ?_) (fun c63 => ?_)
              · refine aw_iconst (v := 1) dX5_readLine_78 (by decide) ?_
                refine aw_goto (tgt := 83) dX5_readLine_79 (by decide) ?_
                refine aw_iconst (v := 5) dX5_readLine_83 (by decide) ?_
                refine ax_callV2v (M' := MX5_requires) (ci := 5) dX5_readLine_84 lmX5_108 oX5_requires (by decide +kernel) (by assumption) rfl rfl (Nat.le_of_ble_eq_true rfl) (f_req1 _) ?_
                refine aw_aload_n (i := 0) dX5_readLine_87 rfl rfl ?_
                refine aw_iload_n (i := 1) dX5_readLine_88 rfl rfl ?_
                refine aw_iconst (v := 5) dX5_readLine_89 (by decide) ?_
                refine aw_icmp_ne (tgt := 100) dX5_readLine_90 (by decide) (fun c90 => ?_) (fun c90 => ?_)
                · exact absurd e5 c90
                · refine aw_aload_n (i := 0) dX5_readLine_93 rfl rfl ?_
                  refine ax_getK (ci := 5) 4 dX5_readLine_94 rfl lfX5_53 (by decide) (by assumption) (by rfl) ?_
                  refine aw_tE (nI told) h4 ?_
                  refine aw_if_ne (tgt := 104) dX5_readLine_97 (by decide) (fun c97 => ?_) (fun c97 => ?_)
                  · refine aw_iconst (v := 0) dX5_readLine_104 (by decide) ?_
                    refine aw_iconst (v := 4) dX5_readLine_105 (by decide) ?_
                    refine ax_callV2v (M' := MX5_requires) (ci := 5) dX5_readLine_106 lmX5_108 oX5_requires (by decide +kernel) (by assumption) rfl rfl (Nat.le_of_ble_eq_true rfl) (f_req0 _) ?_
                    exact tailF (rqG g 4) _ (4, q) hb (rqG_e _ _).h hpl
                  · exact absurd c97 n0
              · exact absurd c63 (by rw [e5]; decide)
            · exact absurd (by rw [e5]; decide) c37
      · by_cases e4 : lnN ch q = 4
        · by_cases e8 : np < 8
          · have n8 : ¬ nI 8 ≤ nI np := nI_ge e8 (by omega)
            refine aw_istore_n (i := 1) (L' := [_, _]) dX5_readLine_17 rfl (Nat.le_of_ble_eq_true rfl) rfl rfl ?_
            refine aw_aload_n (i := 0) dX5_readLine_18 rfl rfl ?_
            refine aw_iload_n (i := 1) dX5_readLine_19 rfl rfl ?_
            refine aw_bipush (v := -4) dX5_readLine_20 (by decide) ?_
            refine aw_icmp_eq (tgt := 29) dX5_readLine_22 (by decide) (fun c22 => ?_) (fun c22 => ?_)
            · exact absurd c22 hA
            · refine aw_iconst (v := 1) dX5_readLine_25 (by decide) ?_
              refine aw_goto (tgt := 30) dX5_readLine_26 (by decide) ?_
              refine aw_iconst (v := 2) dX5_readLine_30 (by decide) ?_
              refine ax_callV2v (M' := MX5_requires) (ci := 5) dX5_readLine_31 lmX5_108 oX5_requires (by decide +kernel) (by assumption) rfl rfl (Nat.le_of_ble_eq_true rfl) (f_req1 _) ?_
              refine aw_aload_n (i := 0) dX5_readLine_34 rfl rfl ?_
              refine aw_iload_n (i := 1) dX5_readLine_35 rfl rfl ?_
              refine aw_iconst (v := 4) dX5_readLine_36 (by decide) ?_
              refine aw_icmp_ge (tgt := 51) dX5_readLine_37 (by decide) (fun c37 => ?_) (fun c37 => ?_)
              · refine aw_iconst (v := 1) dX5_readLine_51 (by decide) ?_
                refine aw_goto (tgt := 56) dX5_readLine_52 (by decide) ?_
                refine aw_iconst (v := 5) dX5_readLine_56 (by decide) ?_
                refine ax_callV2v (M' := MX5_requires) (ci := 5) dX5_readLine_57 lmX5_108 oX5_requires (by decide +kernel) (by assumption) rfl rfl (Nat.le_of_ble_eq_true rfl) (f_req1 _) ?_
                refine aw_aload_n (i := 0) dX5_readLine_60 rfl rfl ?_
                refine aw_iload_n (i := 1) dX5_readLine_61 rfl rfl ?_
                refine aw_iconst (v := 4) dX5_readLine_62 (by decide) ?_
                refine aw_icmp_ne (tgt := 78) dX5_readLine_63 (by decide) (fun c63 => ?_) (fun c63 => ?_)
                · exact absurd e4 c63
                · refine aw_aload_n (i := 0) dX5_readLine_66 rfl rfl ?_
                  refine ax_getr (ci := 5) 3 dX5_readLine_67 rfl lfX5_20 (by decide) (by assumption) (by rfl) ?_
                  refine aw_bipush (v := 53) dX5_readLine_70 (by decide) ?_
                  refine ax_ialdD (i := 53) dX5_readLine_72 (by omega) ?_
                  refine aw_tE (nI np) hnp ?_
                  refine aw_bipush (v := 8) dX5_readLine_73 (by decide) ?_
                  refine aw_icmp_ge (tgt := 82) dX5_readLine_75 (by decide) (fun c75 => ?_) (fun c75 => ?_)
                  · exact absurd c75 n8
                  · refine aw_iconst (v := 1) dX5_readLine_78 (by decide) ?_
                    refine aw_goto (tgt := 83) dX5_readLine_79 (by decide) ?_
                    refine aw_iconst (v := 5) dX5_readLine_83 (by decide) ?_
                    refine ax_callV2v (M' := MX5_requires) (ci := 5) dX5_readLine_84 lmX5_108 oX5_requires (by decide +kernel) (by assumption) rfl rfl (Nat.le_of_ble_eq_true rfl) (f_req1 _) ?_
                    refine aw_aload_n (i := 0) dX5_readLine_87 rfl rfl ?_
                    refine aw_iload_n (i := 1) dX5_readLine_88 rfl rfl ?_
                    refine aw_iconst (v := 5) dX5_readLine_89 (by decide) ?_
                    refine aw_icmp_ne (tgt := 100) dX5_readLine_90 (by decide) (fun c90 => ?_) (fun c90 => ?_)
                    · refine aw_iconst (v := 1) dX5_readLine_100 (by decide) ?_
                      refine aw_goto (tgt := 105) dX5_readLine_101 (by decide) ?_
                      refine aw_iconst (v := 4) dX5_readLine_105 (by decide) ?_
                      refine ax_callV2v (M' := MX5_requires) (ci := 5) dX5_readLine_106 lmX5_108 oX5_requires (by decide +kernel) (by assumption) rfl rfl (Nat.le_of_ble_eq_true rfl) (f_req1 _) ?_
                      exact tail4 e4 e8
                    · exact absurd c90 e5
              · exact absurd (by rw [e4]; decide) c37
          · have n8 : nI 8 ≤ nI np := nI_le (by omega) (by omega)
            have hb : MS ch L (rqG g 5) (.inr (5, q)) := MS_rq (c := 5) h12 h9 (by omega)
            have hpl : pL ch q n np told = .inr (5, q) := by unfold pL; rw [if_neg hA, if_neg e5, if_pos e4, if_neg e8]
            refine aw_istore_n (i := 1) (L' := [_, _]) dX5_readLine_17 rfl (Nat.le_of_ble_eq_true rfl) rfl rfl ?_
            refine aw_aload_n (i := 0) dX5_readLine_18 rfl rfl ?_
            refine aw_iload_n (i := 1) dX5_readLine_19 rfl rfl ?_
            refine aw_bipush (v := -4) dX5_readLine_20 (by decide) ?_
            refine aw_icmp_eq (tgt := 29) dX5_readLine_22 (by decide) (fun c22 => ?_) (fun c22 => ?_)
            · exact absurd c22 hA
            · refine aw_iconst (v := 1) dX5_readLine_25 (by decide) ?_
              refine aw_goto (tgt := 30) dX5_readLine_26 (by decide) ?_
              refine aw_iconst (v := 2) dX5_readLine_30 (by decide) ?_
              refine ax_callV2v (M' := MX5_requires) (ci := 5) dX5_readLine_31 lmX5_108 oX5_requires (by decide +kernel) (by assumption) rfl rfl (Nat.le_of_ble_eq_true rfl) (f_req1 _) ?_
              refine aw_aload_n (i := 0) dX5_readLine_34 rfl rfl ?_
              refine aw_iload_n (i := 1) dX5_readLine_35 rfl rfl ?_
              refine aw_iconst (v := 4) dX5_readLine_36 (by decide) ?_
              refine aw_icmp_ge (tgt := 51) dX5_readLine_37 (by decide) (fun c37 => ?_) (fun c37 => ?_)
              · refine aw_iconst (v := 1) dX5_readLine_51 (by decide) ?_
                refine aw_goto (tgt := 56) dX5_readLine_52 (by decide) ?_
                refine aw_iconst (v := 5) dX5_readLine_56 (by decide) ?_
                refine ax_callV2v (M' := MX5_requires) (ci := 5) dX5_readLine_57 lmX5_108 oX5_requires (by decide +kernel) (by assumption) rfl rfl (Nat.le_of_ble_eq_true rfl) (f_req1 _) ?_
                refine aw_aload_n (i := 0) dX5_readLine_60 rfl rfl ?_
                refine aw_iload_n (i := 1) dX5_readLine_61 rfl rfl ?_
                refine aw_iconst (v := 4) dX5_readLine_62 (by decide) ?_
                refine aw_icmp_ne (tgt := 78) dX5_readLine_63 (by decide) (fun c63 => ?_) (fun c63 => ?_)
                · exact absurd e4 c63
                · refine aw_aload_n (i := 0) dX5_readLine_66 rfl rfl ?_
                  refine ax_getr (ci := 5) 3 dX5_readLine_67 rfl lfX5_20 (by decide) (by assumption) (by rfl) ?_
                  refine aw_bipush (v := 53) dX5_readLine_70 (by decide) ?_
                  refine ax_ialdD (i := 53) dX5_readLine_72 (by omega) ?_
                  refine aw_tE (nI np) hnp ?_
                  refine aw_bipush (v := 8) dX5_readLine_73 (by decide) ?_
                  refine aw_icmp_ge (tgt := 82) dX5_readLine_75 (by decide) (fun c75 => ?_) (fun c75 => ?_)
                  · refine aw_iconst (v := 0) dX5_readLine_82 (by decide) ?_
                    refine aw_iconst (v := 5) dX5_readLine_83 (by decide) ?_
                    refine ax_callV2v (M' := MX5_requires) (ci := 5) dX5_readLine_84 lmX5_108 oX5_requires (by decide +kernel) (by assumption) rfl rfl (Nat.le_of_ble_eq_true rfl) (f_req0 _) ?_
                    refine aw_aload_n (i := 0) dX5_readLine_87 rfl rfl ?_
                    refine aw_iload_n (i := 1) dX5_readLine_88 rfl rfl ?_
                    refine aw_iconst (v := 5) dX5_readLine_89 (by decide) ?_
                    refine aw_icmp_ne (tgt := 100) dX5_readLine_90 (by decide) (fun c90 => ?_) (fun c90 => ?_)
                    · refine aw_iconst (v := 1) dX5_readLine_100 (by decide) ?_
                      refine aw_goto (tgt := 105) dX5_readLine_101 (by decide) ?_
                      refine aw_iconst (v := 4) dX5_readLine_105 (by decide) ?_
                      refine ax_callV2v (M' := MX5_requires) (ci := 5) dX5_readLine_106 lmX5_108 oX5_requires (by decide +kernel) (by assumption) rfl rfl (Nat.le_of_ble_eq_true rfl) (f_req1 _) ?_
                      exact tailF (rqG g 5) _ (5, q) hb (rqG_e _ _).h hpl
                    · exact absurd c90 e5
                  · exact absurd n8 c75
              · exact absurd (by rw [e4]; decide) c37
        · have l4 : ¬ 4 ≤ lnN ch q := by
            rcases lnN_or ch q with z | ⟨j, hj, z⟩
            · exact absurd z hA
            · rw [z]
              have j5 : j ≠ 5 := fun y => e5 (by rw [z, y]; rfl)
              have j4 : j ≠ 4 := fun y => e4 (by rw [z, y]; rfl)
              exact fun y => absurd ((nI_leI (a := 4) (by omega) (by omega)).mp y) (by omega)
          by_cases e8 : n < 4
          · have n8 : ¬ nI 4 ≤ nI n := nI_ge e8 (by omega)
            refine aw_istore_n (i := 1) (L' := [_, _]) dX5_readLine_17 rfl (Nat.le_of_ble_eq_true rfl) rfl rfl ?_
            refine aw_aload_n (i := 0) dX5_readLine_18 rfl rfl ?_
            refine aw_iload_n (i := 1) dX5_readLine_19 rfl rfl ?_
            refine aw_bipush (v := -4) dX5_readLine_20 (by decide) ?_
            refine aw_icmp_eq (tgt := 29) dX5_readLine_22 (by decide) (fun c22 => ?_) (fun c22 => ?_)
            · exact absurd c22 hA
            · refine aw_iconst (v := 1) dX5_readLine_25 (by decide) ?_
              refine aw_goto (tgt := 30) dX5_readLine_26 (by decide) ?_
              refine aw_iconst (v := 2) dX5_readLine_30 (by decide) ?_
              refine ax_callV2v (M' := MX5_requires) (ci := 5) dX5_readLine_31 lmX5_108 oX5_requires (by decide +kernel) (by assumption) rfl rfl (Nat.le_of_ble_eq_true rfl) (f_req1 _) ?_
              refine aw_aload_n (i := 0) dX5_readLine_34 rfl rfl ?_
              refine aw_iload_n (i := 1) dX5_readLine_35 rfl rfl ?_
              refine aw_iconst (v := 4) dX5_readLine_36 (by decide) ?_
              refine aw_icmp_ge (tgt := 51) dX5_readLine_37 (by decide) (fun c37 => ?_) (fun c37 => ?_)
              · exact absurd c37 l4
              · refine aw_aload_n (i := 0) dX5_readLine_40 rfl rfl ?_
                refine ax_getr (ci := 5) 3 dX5_readLine_41 rfl lfX5_20 (by decide) (by assumption) (by rfl) ?_
                refine aw_bipush (v := 28) dX5_readLine_44 (by decide) ?_
                refine ax_ialdD (i := 28) dX5_readLine_46 (by omega) ?_
                refine aw_tE (nI n) hn ?_
                refine aw_iconst (v := 4) dX5_readLine_47 (by decide) ?_
                refine aw_icmp_ge (tgt := 55) dX5_readLine_48 (by decide) (fun c48 => ?_) (fun c48 => ?_)
                · exact absurd c48 n8
                · refine aw_iconst (v := 1) dX5_readLine_51 (by decide) ?_
                  refine aw_goto (tgt := 56) dX5_readLine_52 (by decide) ?_
                  refine aw_iconst (v := 5) dX5_readLine_56 (by decide) ?_
                  refine ax_callV2v (M' := MX5_requires) (ci := 5) dX5_readLine_57 lmX5_108 oX5_requires (by decide +kernel) (by assumption) rfl rfl (Nat.le_of_ble_eq_true rfl) (f_req1 _) ?_
                  refine aw_aload_n (i := 0) dX5_readLine_60 rfl rfl ?_
                  refine aw_iload_n (i := 1) dX5_readLine_61 rfl rfl ?_
                  refine aw_iconst (v := 4) dX5_readLine_62 (by decide) ?_
                  refine aw_icmp_ne (tgt := 78) dX5_readLine_63 (by decide) (fun c63 => ?_) (fun c63 => ?_)
                  · refine aw_iconst (v := 1) dX5_readLine_78 (by decide) ?_
                    refine aw_goto (tgt := 83) dX5_readLine_79 (by decide) ?_
                    refine aw_iconst (v := 5) dX5_readLine_83 (by decide) ?_
                    refine ax_callV2v (M' := MX5_requires) (ci := 5) dX5_readLine_84 lmX5_108 oX5_requires (by decide +kernel) (by assumption) rfl rfl (Nat.le_of_ble_eq_true rfl) (f_req1 _) ?_
                    refine aw_aload_n (i := 0) dX5_readLine_87 rfl rfl ?_
                    refine aw_iload_n (i := 1) dX5_readLine_88 rfl rfl ?_
                    refine aw_iconst (v := 5) dX5_readLine_89 (by decide) ?_
                    refine aw_icmp_ne (tgt := 100) dX5_readLine_90 (by decide) (fun c90 => ?_) (fun c90 => ?_)
                    · refine aw_iconst (v := 1) dX5_readLine_100 (by decide) ?_
                      refine aw_goto (tgt := 105) dX5_readLine_101 (by decide) ?_
                      refine aw_iconst (v := 4) dX5_readLine_105 (by decide) ?_
                      refine ax_callV2v (M' := MX5_requires) (ci := 5) dX5_readLine_106 lmX5_108 oX5_requires (by decide +kernel) (by assumption) rfl rfl (Nat.le_of_ble_eq_true rfl) (f_req1 _) ?_
                      exact tailK hA e5 e4 e8
                    · exact absurd c90 e5
                  · exact absurd c63 e4
          · have n8 : nI 4 ≤ nI n := nI_le (by omega) (by omega)
            have hb : MS ch L (rqG g 5) (.inr (5, q)) := MS_rq (c := 5) h12 h9 (by omega)
            have hpl : pL ch q n np told = .inr (5, q) := by unfold pL; rw [if_neg hA, if_neg e5, if_neg e4, if_neg e8]
            refine aw_istore_n (i := 1) (L' := [_, _]) dX5_readLine_17 rfl (Nat.le_of_ble_eq_true rfl) rfl rfl ?_
            refine aw_aload_n (i := 0) dX5_readLine_18 rfl rfl ?_
            refine aw_iload_n (i := 1) dX5_readLine_19 rfl rfl ?_
            refine aw_bipush (v := -4) dX5_readLine_20 (by decide) ?_
            refine aw_icmp_eq (tgt := 29) dX5_readLine_22 (by decide) (fun c22 => ?_) (fun c22 => ?_)
            · exact absurd c22 hA
            · refine aw_iconst (v := 1) dX5_readLine_25 (by decide) ?_
              refine aw_goto (tgt := 30) dX5_readLine_26 (by decide) ?_
              refine aw_iconst (v := 2) dX5_readLine_30 (by decide) ?_
              refine ax_callV2v (M' := MX5_requires) (ci := 5) dX5_readLine_31 lmX5_108 oX5_requires (by decide +kernel) (by assumption) rfl rfl (Nat.le_of_ble_eq_true rfl) (f_req1 _) ?_
              refine aw_aload_n (i := 0) dX5_readLine_34 rfl rfl ?_
              refine aw_iload_n (i := 1) dX5_readLine_35 rfl rfl ?_
              refine aw_iconst (v := 4) dX5_readLine_36 (by decide) ?_
              refine aw_icmp_ge (tgt := 51) dX5_readLine_37 (by decide) (fun c37 => ?_) (fun c37 => ?_)
              · exact absurd c37 l4
              · refine aw_aload_n (i := 0) dX5_readLine_40 rfl rfl ?_
                refine ax_getr (ci := 5) 3 dX5_readLine_41 rfl lfX5_20 (by decide) (by assumption) (by rfl) ?_
                refine aw_bipush (v := 28) dX5_readLine_44 (by decide) ?_
                refine ax_ialdD (i := 28) dX5_readLine_46 (by omega) ?_
                refine aw_tE (nI n) hn ?_
                refine aw_iconst (v := 4) dX5_readLine_47 (by decide) ?_
                refine aw_icmp_ge (tgt := 55) dX5_readLine_48 (by decide) (fun c48 => ?_) (fun c48 => ?_)
                · refine aw_iconst (v := 0) dX5_readLine_55 (by decide) ?_
                  refine aw_iconst (v := 5) dX5_readLine_56 (by decide) ?_
                  refine ax_callV2v (M' := MX5_requires) (ci := 5) dX5_readLine_57 lmX5_108 oX5_requires (by decide +kernel) (by assumption) rfl rfl (Nat.le_of_ble_eq_true rfl) (f_req0 _) ?_
                  refine aw_aload_n (i := 0) dX5_readLine_60 rfl rfl ?_
                  refine aw_iload_n (i := 1) dX5_readLine_61 rfl rfl ?_
                  refine aw_iconst (v := 4) dX5_readLine_62 (by decide) ?_
                  refine aw_icmp_ne (tgt := 78) dX5_readLine_63 (by decide) (fun c63 => ?_) (fun c63 => ?_)
                  · refine aw_iconst (v := 1) dX5_readLine_78 (by decide) ?_
                    refine aw_goto (tgt := 83) dX5_readLine_79 (by decide) ?_
                    refine aw_iconst (v := 5) dX5_readLine_83 (by decide) ?_
                    refine ax_callV2v (M' := MX5_requires) (ci := 5) dX5_readLine_84 lmX5_108 oX5_requires (by decide +kernel) (by assumption) rfl rfl (Nat.le_of_ble_eq_true rfl) (f_req1 _) ?_
                    refine aw_aload_n (i := 0) dX5_readLine_87 rfl rfl ?_
                    refine aw_iload_n (i := 1) dX5_readLine_88 rfl rfl ?_
                    refine aw_iconst (v := 5) dX5_readLine_89 (by decide) ?_
                    refine aw_icmp_ne (tgt := 100) dX5_readLine_90 (by decide) (fun c90 => ?_) (fun c90 => ?_)
                    · refine aw_iconst (v := 1) dX5_readLine_100 (by decide) ?_
                      refine aw_goto (tgt := 105) dX5_readLine_101 (by decide) ?_
                      refine aw_iconst (v := 4) dX5_readLine_105 (by decide) ?_
                      refine ax_callV2v (M' := MX5_requires) (ci := 5) dX5_readLine_106 lmX5_108 oX5_requires (by decide +kernel) (by assumption) rfl rfl (Nat.le_of_ble_eq_true rfl) (f_req1 _) ?_
                      exact tailF (rqG g 5) _ (5, q) hb (rqG_e _ _).h hpl
                    · exact absurd c90 e5
                  · exact absurd c63 e4
                · exact absurd n8 c48
  refine aw_aload_n (i := 0) dX5_readLine_0 rfl rfl ?_
  refine ax_getK (ci := 5) 10 dX5_readLine_1 rfl lfX5_94 (by decide) (by assumption) (by rfl) ?_
  refine aw_iconst (v := 1) dX5_readLine_4 (by decide) ?_
  refine aw_icmp_ne (tgt := 15) dX5_readLine_5 (by decide) (fun c5 => ?_) (fun c5 => ?_)
  · refine aw_bipush (v := -4) dX5_readLine_15 (by decide) ?_
    first | exact mid | (refine aw_tE (lnN ch q) (if_neg (fun z => c5 ((MT_10 hM hk (k := 1) (by omega)).mpr z))).symm ?_; exact mid)
  · refine aw_aload_n (i := 0) dX5_readLine_8 rfl rfl ?_
    refine ax_callV0i (M' := MX5_lineNow) (ci := 5) dX5_readLine_9 lmX5_122 oX5_lineNow (by decide +kernel) (by assumption) rfl rfl (Nat.le_of_ble_eq_true rfl) (f_lineNow (hT.mv (upk_rne (by omega))) h7 (zr_ge ch q) hzr h8 h9) ?_
    refine aw_tE (lnN ch q) (if_pos ((MT_10 hM hk (k := 1) (by omega)).mp c5)).symm ?_
    refine aw_goto (tgt := 17) dX5_readLine_12 (by decide) ?_
    first | exact mid | (refine aw_tE (lnN ch q) (if_neg (fun z => c5 ((MT_10 hM hk (k := 1) (by omega)).mpr z))).symm ?_; exact mid)
