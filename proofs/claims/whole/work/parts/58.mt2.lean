theorem MT_end {f : Nat → Nat → Int32} {L q c : Nat} {ch g : Nat → Int32} (hT : tpOK f c L ch) (hq : L ≤ q) (h12 : g 12 = 0) (h10 : g 10 = 0) (h9 : g 9 = nI q) (h8 : g 8 = nI q) : MT ch g q := by
  have e : zk ch q = 0 := (zk_0 hT).mpr hq
  have r : zr ch q = q := by unfold zr; rw [if_pos (hT.no hq).1]
  exact ⟨fun z => by omega, fun _ => ⟨h12, by rw [e]; exact h10, h9, by rw [r]; exact h8, fun z => by omega⟩⟩
theorem MT_name {q : Nat} {ch g : Nat → Int32} (hl : isLe ch q) (hn : ¬ ch q < 0) (h12 : g 12 = 0) (h10 : g 10 = 1) (h9 : g 9 = nI q) (h8 : g 8 = nI (scn (isLe ch) 161 q)) : MT ch g q := by
  have e : zk ch q = 1 := by unfold zk; rw [if_neg hn, if_pos hl]
  have r : zr ch q = scn (isLe ch) 161 q := by unfold zr; rw [if_neg hn, if_pos hl]
  exact ⟨fun z => by omega, fun _ => ⟨h12, by rw [e]; exact h10, h9, by rw [r]; exact h8, fun z => by omega⟩⟩
/-- a number was taken by the model from q to r -/
def MN (ch : Nat → Int32) (q r : Nat) (g' : Nat → Int32) : Prop := (r - q ≤ 2 → g' 12 = 0 ∧ g' 10 = 2 ∧ g' 9 = nI q ∧ g' 8 = nI r ∧ g' 11 = zVal ch q (r - q)) ∧ (¬ r - q ≤ 2 → g' 12 = 1 ∧ g' 13 = nI q)
theorem MT_num {q : Nat} {ch g : Nat → Int32} (hl : ¬ isLe ch q) (hf : isFi ch q) (hn : ¬ ch q < 0) (h : MN ch q (scn (isFi ch) 161 q) g) : MT ch g q := by
  have r : zr ch q = scn (isFi ch) 161 q := by unfold zr; rw [if_neg hn, if_neg hl, if_pos hf]
  obtain ⟨d, e⟩ := h
  rw [← r] at d e
  have k : zk ch q = if zr ch q - q ≤ 2 then 2 else 4 := by
    conv => lhs; unfold zk
    rw [if_neg hn, if_neg hl, if_pos hf]
  by_cases z : zr ch q - q ≤ 2
  · rw [if_pos z] at k
    obtain ⟨d1, d2, d3, d4, d5⟩ := d z
    exact ⟨fun y => by omega, fun _ => ⟨d1, by rw [k]; exact d2, d3, d4, fun _ => d5⟩⟩
  · rw [if_neg z] at k
    exact ⟨fun _ => e z, fun y => absurd k y⟩
theorem MT_semi {q : Nat} {ch g : Nat → Int32} (hl : ¬ isLe ch q) (hf : ¬ isFi ch q) (hn : ¬ ch q < 0) (hs : ch q = 59) (h12 : g 12 = 0) (h10 : g 10 = 3) (h9 : g 9 = nI q) (h8 : g 8 = nI (q + 1)) : MT ch g q := by
  have e : zk ch q = 3 := by unfold zk; rw [if_neg hn, if_neg hl, if_neg hf, if_pos hs]
  have r : zr ch q = q + 1 := by unfold zr; rw [if_neg hn, if_neg hl, if_neg hf]
  exact ⟨fun z => by omega, fun _ => ⟨h12, by rw [e]; exact h10, h9, by rw [r]; exact h8, fun z => by omega⟩⟩
theorem MT_bad {q : Nat} {ch g : Nat → Int32} (hl : ¬ isLe ch q) (hf : ¬ isFi ch q) (hn : ¬ ch q < 0) (hs : ¬ ch q = 59) (h12 : g 12 = 1) (h13 : g 13 = nI q) : MT ch g q := by
  have e : zk ch q = 4 := by unfold zk; rw [if_neg hn, if_neg hl, if_neg hf, if_neg hs]
  exact ⟨fun _ => ⟨h12, h13⟩, fun y => absurd e y⟩
theorem zVal_2 (ch : Nat → Int32) (q i : Nat) (h : i < 2) : 10 * zVal ch q i + ch (q + i) - 48 = zVal ch q (i + 1) := by
  rw [Int32.mul_comm]
  rfl
set_option maxRecDepth 100000 in
set_option maxHeartbeats 1000000 in
theorem g_reads {V : am_V} {d L : Nat} {f : Nat → Nat → Int32} {g ch : Nat → Int32} {τ : Nat → Nat → Int64} (hT : tpOK f 69 L ch) {p : Nat} (hpL : p ≤ L) (h7 : g 7 = nI L) (h8 : g 8 = nI p) (h12 : g 12 = 0) : AGv V MX5_reads (d + 1) [.ref 64] (upk f 64 g, τ) (fun S' => ∃ g', S' = (upk f 64 g', τ) ∧ MT ch g' (zQ ch p) ∧ mEq g' g) := by
  have tM := tb_M
  have t68 := tb_68
  have t69 := tb_69
  have hL := hT.1
  refine AM.of (L := [some (.ref 64), none]) (by decide +kernel) (Nat.le_of_ble_eq_true rfl) rfl ?_
  have letters : ∀ (m q i : Nat) (x : Int32) (g1 : Nat → Int32), isLe ch q → ¬ ch q < 0 → q + i ≤ L → scn (isLe ch) 161 q = scn (isLe ch) m (q + i) → g1 7 = nI L → g1 8 = nI (q + i) → g1 9 = nI q → g1 10 = 1 → g1 12 = 0 → mEq g1 g → L - (q + i) < m → AW V MX5_reads (d + 1) 0 0 82 [some (.ref 64), some (.int x)] [] (hp (upk f 64 g1, τ)) (fun r' h' => ∃ S' : fm, r' = none ∧ h' = hp S' ∧ ∃ g', S' = (upk f 64 g', τ) ∧ MT ch g' (q) ∧ mEq g' g) := by
    intro m
    induction m with
    | zero => intro q i x g1 a1 a2 a3 a4 a5 a6 a7 a8 a9 b1 b2; omega
    | succ m ih =>
      intro q i x g1 hl hng hqi hs h7 h8 h9 h10 h12 hE hm
      refine aw_aload_n (i := 0) dX5_reads_82 rfl rfl ?_
      refine aw_aload_n (i := 0) dX5_reads_83 rfl rfl ?_
      refine ax_getK (ci := 5) 8 dX5_reads_84 rfl lfX5_79 (by decide) (by assumption) (by rfl) ?_
      refine aw_tE (nI (q + i)) h8 ?_
      refine ax_callV1i (M' := MX5_byteAt) (ci := 5) dX5_reads_87 lmX5_82 oX5_byteAt (by decide +kernel) (by assumption) rfl rfl (Nat.le_of_ble_eq_true rfl) (f_byteAt hT h7 (by omega)) ?_
      refine aw_i2l dX5_reads_90 ?_
      refine aw_ldc2 dX5_reads_91 lkX5_97 ?_
      refine aw_ldc2 dX5_reads_94 lkX5_99 ?_
      refine ax_callS3i (M' := MX5_in) dX5_reads_97 lmX5_63 oX5_in (by decide +kernel) (Nat.le_of_ble_eq_true rfl) (e_in _ 97 122) ?_
      refine aw_beq (tgt := 274) dX5_reads_100 (by decide) (fun c100 => ?_) (fun c100 => ?_)
      · refine aw_return dX5_reads_274 rfl ?_
        rw [scn_f (m := m + 1) (p := q + i) c100] at hs
        exact ⟨_, rfl, rfl, g1, rfl, MT_name hl hng h12 h10 h9 (by rw [hs]; exact h8), hE⟩
      · have hqL := hT.le (q + i) c100
        refine aw_aload_n (i := 0) dX5_reads_103 rfl rfl ?_
        refine aw_dup dX5_reads_104 rfl ?_
        refine ax_getK (ci := 5) 8 dX5_reads_105 rfl lfX5_79 (by decide) (by assumption) (by rfl) ?_
        refine aw_tE (nI (q + i)) h8 ?_
        refine aw_iconst (v := 1) dX5_reads_108 (by decide) ?_
        refine aw_iadd dX5_reads_109 ?_
        refine aw_tE (nI (q + (i + 1))) (nI_1 _) ?_
        refine ax_putK (ci := 5) 8 dX5_reads_110 rfl lfX5_79 (by decide) (by assumption) (by rfl) rfl rfl ?_
        refine aw_goto (tgt := 82) dX5_reads_113 (by decide) ?_
        exact ih q (i + 1) x (upd g1 8 (nI (q + (i + 1)))) hl hng (by omega) (by rw [hs, scn, if_pos c100]; rfl) h7 rfl h9 h10 h12 (hE.up (by omega) _) (by omega)
  have figures : ∀ (m q i : Nat) (x : Int32) (g1 : Nat → Int32), ¬ isLe ch q → isFi ch q → ¬ ch q < 0 → q + i ≤ L → scn (isFi ch) 161 q = scn (isFi ch) m (q + i) → g1 7 = nI L → g1 8 = nI (q + i) → g1 9 = nI q → g1 10 = 2 → g1 12 = 0 → g1 11 = zVal ch q (if i ≤ 2 then i else 2) → mEq g1 g → L - (q + i) < m → AW V MX5_reads (d + 1) 0 0 140 [some (.ref 64), some (.int x)] [] (hp (upk f 64 g1, τ)) (fun r' h' => ∃ S' : fm, r' = none ∧ h' = hp S' ∧ ∃ g', S' = (upk f 64 g', τ) ∧ MT ch g' (q) ∧ mEq g' g) := by
    intro m
    induction m with
    | zero => intro q i x g1 a1 a2 a3 a4 a5 a6 a7 a8 a9 b1 b2 b3 b4; omega
    | succ m ih =>
      intro q i x g1 hl hf hng hqi hs h7 h8 h9 h10 h12 h11 hE hm
      refine aw_aload_n (i := 0) dX5_reads_140 rfl rfl ?_
      refine aw_aload_n (i := 0) dX5_reads_141 rfl rfl ?_
      refine ax_getK (ci := 5) 8 dX5_reads_142 rfl lfX5_79 (by decide) (by assumption) (by rfl) ?_
      refine aw_tE (nI (q + i)) h8 ?_
      refine ax_callV1i (M' := MX5_byteAt) (ci := 5) dX5_reads_145 lmX5_82 oX5_byteAt (by decide +kernel) (by assumption) rfl rfl (Nat.le_of_ble_eq_true rfl) (f_byteAt hT h7 (by omega)) ?_
      refine aw_i2l dX5_reads_148 ?_
      refine aw_ldc2 dX5_reads_149 lkX5_101 ?_
      refine aw_ldc2 dX5_reads_152 lkX5_103 ?_
      refine ax_callS3i (M' := MX5_in) dX5_reads_155 lmX5_63 oX5_in (by decide +kernel) (Nat.le_of_ble_eq_true rfl) (e_in _ 48 57) ?_
      refine aw_beq (tgt := 217) dX5_reads_158 (by decide) (fun c158 => ?_) (fun c158 => ?_)
      · rw [scn_f (m := m + 1) (p := q + i) c158] at hs
        refine aw_aload_n (i := 0) dX5_reads_217 rfl rfl ?_
        refine aw_aload_n (i := 0) dX5_reads_218 rfl rfl ?_
        refine ax_getK (ci := 5) 8 dX5_reads_219 rfl lfX5_79 (by decide) (by assumption) (by rfl) ?_
        refine aw_tE (nI (q + i)) h8 ?_
        refine aw_aload_n (i := 0) dX5_reads_222 rfl rfl ?_
        refine ax_getK (ci := 5) 9 dX5_reads_223 rfl lfX5_73 (by decide) (by assumption) (by rfl) ?_
        refine aw_tE (nI q) h9 ?_
        refine aw_isub dX5_reads_226 ?_
        refine aw_tE (nI i) (by rw [pk_sub (by omega), Nat.add_sub_cancel_left]) ?_
        refine aw_iconst (v := 2) dX5_reads_227 (by decide) ?_
        refine aw_icmp_gt (tgt := 235) dX5_reads_228 (by decide) (fun c228 => ?_) (fun c228 => ?_)
        · refine aw_iconst (v := 0) dX5_reads_235 (by decide) ?_
          refine aw_iconst (v := 1) dX5_reads_236 (by decide) ?_
          refine ax_callV2v (M' := MX5_requires) (ci := 5) dX5_reads_237 lmX5_108 oX5_requires (by decide +kernel) (by assumption) rfl rfl (Nat.le_of_ble_eq_true rfl) (f_req0 _) ?_
          refine aw_goto (tgt := 274) dX5_reads_240 (by decide) ?_
          refine aw_return dX5_reads_274 rfl ?_
          first
            | (have hi2 : i ≤ 2 := Nat.le_of_not_lt fun z => c228 ((nI_ltI (a := 2) (by omega) (by omega)).mpr z)
               rw [if_pos hi2] at h11
               refine ⟨_, rfl, rfl, g1, rfl, MT_num hl hf hng ?_, hE⟩
               rw [hs]
               exact ⟨fun _ => ⟨h12, h10, h9, h8, by rw [Nat.add_sub_cancel_left]; exact h11⟩, fun z => absurd (by omega) z⟩)
            | (have hi2 : 2 < i := (nI_ltI (a := 2) (by omega) (by omega)).mp c228
               refine ⟨_, rfl, rfl, _, rfl, MT_num hl hf hng ?_, (rqG_e _ _).tr hE⟩
               rw [hs, rqG_t h12]
               exact ⟨fun z => absurd z (by omega), fun _ => ⟨rfl, h9⟩⟩)
        · refine aw_iconst (v := 1) dX5_reads_231 (by decide) ?_
          refine aw_goto (tgt := 236) dX5_reads_232 (by decide) ?_
          refine aw_iconst (v := 1) dX5_reads_236 (by decide) ?_
          refine ax_callV2v (M' := MX5_requires) (ci := 5) dX5_reads_237 lmX5_108 oX5_requires (by decide +kernel) (by assumption) rfl rfl (Nat.le_of_ble_eq_true rfl) (f_req1 _) ?_
          refine aw_goto (tgt := 274) dX5_reads_240 (by decide) ?_
          refine aw_return dX5_reads_274 rfl ?_
          first
            | (have hi2 : i ≤ 2 := Nat.le_of_not_lt fun z => c228 ((nI_ltI (a := 2) (by omega) (by omega)).mpr z)
               rw [if_pos hi2] at h11
               refine ⟨_, rfl, rfl, g1, rfl, MT_num hl hf hng ?_, hE⟩
               rw [hs]
               exact ⟨fun _ => ⟨h12, h10, h9, h8, by rw [Nat.add_sub_cancel_left]; exact h11⟩, fun z => absurd (by omega) z⟩)
            | (have hi2 : 2 < i := (nI_ltI (a := 2) (by omega) (by omega)).mp c228
               refine ⟨_, rfl, rfl, _, rfl, MT_num hl hf hng ?_, (rqG_e _ _).tr hE⟩
               rw [hs, rqG_t h12]
               exact ⟨fun z => absurd z (by omega), fun _ => ⟨rfl, h9⟩⟩)
      · have hqL := hT.fi (q + i) c158
        refine aw_aload_n (i := 0) dX5_reads_161 rfl rfl ?_
        refine aw_aload_n (i := 0) dX5_reads_162 rfl rfl ?_
        refine ax_getK (ci := 5) 8 dX5_reads_163 rfl lfX5_79 (by decide) (by assumption) (by rfl) ?_
        refine aw_tE (nI (q + i)) h8 ?_
        refine aw_aload_n (i := 0) dX5_reads_166 rfl rfl ?_
        refine ax_getK (ci := 5) 9 dX5_reads_167 rfl lfX5_73 (by decide) (by assumption) (by rfl) ?_
        refine aw_tE (nI q) h9 ?_
        refine aw_isub dX5_reads_170 ?_
        refine aw_tE (nI i) (by rw [pk_sub (by omega), Nat.add_sub_cancel_left]) ?_
        refine aw_iconst (v := 2) dX5_reads_171 (by decide) ?_
        refine aw_icmp_ge (tgt := 197) dX5_reads_172 (by decide) (fun c172 => ?_) (fun c172 => ?_)
        · have hi2 : 2 ≤ i := (nI_leI (a := 2) (by omega) (by omega)).mp c172
          refine aw_aload_n (i := 0) dX5_reads_197 rfl rfl ?_
          refine ax_getK (ci := 5) 11 dX5_reads_198 rfl lfX5_105 (by decide) (by assumption) (by rfl) ?_
          have e11 : ∃ v, v = zVal ch q (if i + 1 ≤ 2 then i + 1 else 2) := ⟨_, rfl⟩
          first
            | refine aw_tE (zVal ch q (if i + 1 ≤ 2 then i + 1 else 2)) (by rw [if_pos (show i + 1 ≤ 2 by omega)]) ?_
            | refine aw_tE (zVal ch q (if i + 1 ≤ 2 then i + 1 else 2)) (by
                rw [h11]
                rw [if_neg (show ¬ i + 1 ≤ 2 by omega)]
                split
                · rw [show i = 2 by omega]
                · rfl) ?_
          refine ax_putK (ci := 5) 11 dX5_reads_201 rfl lfX5_105 (by decide) (by assumption) (by rfl) rfl rfl ?_
          refine aw_aload_n (i := 0) dX5_reads_204 rfl rfl ?_
          refine aw_dup dX5_reads_205 rfl ?_
          refine ax_getK (ci := 5) 8 dX5_reads_206 rfl lfX5_79 (by decide) (by assumption) (by rfl) ?_
          refine aw_tE (nI (q + i)) h8 ?_
          refine aw_iconst (v := 1) dX5_reads_209 (by decide) ?_
          refine aw_iadd dX5_reads_210 ?_
          refine aw_tE (nI (q + (i + 1))) (nI_1 _) ?_
          refine ax_putK (ci := 5) 8 dX5_reads_211 rfl lfX5_79 (by decide) (by assumption) (by rfl) rfl rfl ?_
          refine aw_goto (tgt := 140) dX5_reads_214 (by decide) ?_
          exact ih q (i + 1) x (upd (upd g1 11 (zVal ch q (if i + 1 ≤ 2 then i + 1 else 2))) 8 (nI (q + (i + 1)))) hl hf hng (by omega) (by rw [hs, scn, if_pos c158]; rfl) h7 rfl h9 h10 h12 rfl ((hE.up (by omega) _).up (by omega) _) (by omega)
        · have hi2 : i < 2 := Nat.lt_of_not_le fun z => c172 ((nI_leI (a := 2) (by omega) (by omega)).mpr z)
          rw [if_pos (show i ≤ 2 by omega)] at h11
          refine aw_bipush (v := 10) dX5_reads_175 (by decide) ?_
          refine aw_aload_n (i := 0) dX5_reads_177 rfl rfl ?_
          refine ax_getK (ci := 5) 11 dX5_reads_178 rfl lfX5_105 (by decide) (by assumption) (by rfl) ?_
          refine aw_tE (zVal ch q i) h11 ?_
          refine aw_imul dX5_reads_181 ?_
          refine aw_aload_n (i := 0) dX5_reads_182 rfl rfl ?_
          refine aw_aload_n (i := 0) dX5_reads_183 rfl rfl ?_
          refine ax_getK (ci := 5) 8 dX5_reads_184 rfl lfX5_79 (by decide) (by assumption) (by rfl) ?_
          refine aw_tE (nI (q + i)) h8 ?_
          refine ax_callV1i (M' := MX5_byteAt) (ci := 5) dX5_reads_187 lmX5_82 oX5_byteAt (by decide +kernel) (by assumption) rfl rfl (Nat.le_of_ble_eq_true rfl) (f_byteAt hT h7 (by omega)) ?_
          refine aw_iadd dX5_reads_190 ?_
          refine aw_bipush (v := 48) dX5_reads_191 (by decide) ?_
          refine aw_isub dX5_reads_193 ?_
          refine aw_tE (zVal ch q (i + 1)) (zVal_2 ch q i hi2) ?_
          refine aw_goto (tgt := 201) dX5_reads_194 (by decide) ?_
          have e11 : ∃ v, v = zVal ch q (if i + 1 ≤ 2 then i + 1 else 2) := ⟨_, rfl⟩
          first
            | refine aw_tE (zVal ch q (if i + 1 ≤ 2 then i + 1 else 2)) (by rw [if_pos (show i + 1 ≤ 2 by omega)]) ?_
            | refine aw_tE (zVal ch q (if i + 1 ≤ 2 then i + 1 else 2)) (by
                rw [h11]
                rw [if_neg (show ¬ i + 1 ≤ 2 by omega)]
                split
                · rw [show i = 2 by omega]
                · rfl) ?_
          refine ax_putK (ci := 5) 11 dX5_reads_201 rfl lfX5_105 (by decide) (by assumption) (by rfl) rfl rfl ?_
          refine aw_aload_n (i := 0) dX5_reads_204 rfl rfl ?_
          refine aw_dup dX5_reads_205 rfl ?_
          refine ax_getK (ci := 5) 8 dX5_reads_206 rfl lfX5_79 (by decide) (by assumption) (by rfl) ?_
          refine aw_tE (nI (q + i)) h8 ?_
          refine aw_iconst (v := 1) dX5_reads_209 (by decide) ?_
          refine aw_iadd dX5_reads_210 ?_
          refine aw_tE (nI (q + (i + 1))) (nI_1 _) ?_
          refine ax_putK (ci := 5) 8 dX5_reads_211 rfl lfX5_79 (by decide) (by assumption) (by rfl) rfl rfl ?_
          refine aw_goto (tgt := 140) dX5_reads_214 (by decide) ?_
          exact ih q (i + 1) x (upd (upd g1 11 (zVal ch q (if i + 1 ≤ 2 then i + 1 else 2))) 8 (nI (q + (i + 1)))) hl hf hng (by omega) (by rw [hs, scn, if_pos c158]; rfl) h7 rfl h9 h10 h12 rfl ((hE.up (by omega) _).up (by omega) _) (by omega)
  have tok : ∀ (q : Nat) (g1 : Nat → Int32), q ≤ L → g1 7 = nI L → g1 8 = nI q → g1 12 = 0 → mEq g1 g → AW V MX5_reads (d + 1) 0 0 34 [some (.ref 64), none] [] (hp (upk f 64 g1, τ)) (fun r' h' => ∃ S' : fm, r' = none ∧ h' = hp S' ∧ ∃ g', S' = (upk f 64 g', τ) ∧ MT ch g' (q) ∧ mEq g' g) := by
    intro q g1 hq h7 h8 h12 hE
    refine aw_aload_n (i := 0) dX5_reads_34 rfl rfl ?_
    refine aw_aload_n (i := 0) dX5_reads_35 rfl rfl ?_
    refine ax_getK (ci := 5) 8 dX5_reads_36 rfl lfX5_79 (by decide) (by assumption) (by rfl) ?_
    refine aw_tE (nI q) h8 ?_
    refine ax_putK (ci := 5) 9 dX5_reads_39 rfl lfX5_73 (by decide) (by assumption) (by rfl) rfl rfl ?_
    refine aw_aload_n (i := 0) dX5_reads_42 rfl rfl ?_
    refine aw_aload_n (i := 0) dX5_reads_43 rfl rfl ?_
    refine ax_getK (ci := 5) 8 dX5_reads_44 rfl lfX5_79 (by decide) (by assumption) (by rfl) ?_
    refine aw_tE (nI q) h8 ?_
    refine ax_callV1i (M' := MX5_byteAt) (ci := 5) dX5_reads_47 lmX5_82 oX5_byteAt (by decide +kernel) (by assumption) rfl rfl (Nat.le_of_ble_eq_true rfl) (f_byteAt (g := upd g1 9 (nI q)) hT h7 (by omega)) ?_
    refine aw_istore_n (i := 1) (L' := [_, _]) dX5_reads_50 rfl (Nat.le_of_ble_eq_true rfl) rfl rfl ?_
    refine aw_iload_n (i := 1) dX5_reads_51 rfl rfl ?_
    refine aw_if_ge (tgt := 63) dX5_reads_52 (by decide) (fun c52 => ?_) (fun c52 => ?_)
    · have hng : ¬ ch q < 0 := Int32.not_lt.mpr c52
      refine aw_iload_n (i := 1) dX5_reads_63 rfl rfl ?_
      refine aw_i2l dX5_reads_64 ?_
      refine aw_ldc2 dX5_reads_65 lkX5_97 ?_
      refine aw_ldc2 dX5_reads_68 lkX5_99 ?_
      refine ax_callS3i (M' := MX5_in) dX5_reads_71 lmX5_63 oX5_in (by decide +kernel) (Nat.le_of_ble_eq_true rfl) (e_in _ 97 122) ?_
      refine aw_beq (tgt := 116) dX5_reads_74 (by decide) (fun c74 => ?_) (fun c74 => ?_)
      · refine aw_iload_n (i := 1) dX5_reads_116 rfl rfl ?_
        refine aw_i2l dX5_reads_117 ?_
        refine aw_ldc2 dX5_reads_118 lkX5_101 ?_
        refine aw_ldc2 dX5_reads_121 lkX5_103 ?_
        refine ax_callS3i (M' := MX5_in) dX5_reads_124 lmX5_63 oX5_in (by decide +kernel) (Nat.le_of_ble_eq_true rfl) (e_in _ 48 57) ?_
        refine aw_beq (tgt := 243) dX5_reads_127 (by decide) (fun c127 => ?_) (fun c127 => ?_)
        · refine aw_aload_n (i := 0) dX5_reads_243 rfl rfl ?_
          refine aw_iconst (v := 3) dX5_reads_244 (by decide) ?_
          refine ax_putK (ci := 5) 10 dX5_reads_245 rfl lfX5_94 (by decide) (by assumption) (by rfl) rfl rfl ?_
          refine aw_aload_n (i := 0) dX5_reads_248 rfl rfl ?_
          refine aw_iload_n (i := 1) dX5_reads_249 rfl rfl ?_
          refine aw_bipush (v := 59) dX5_reads_250 (by decide) ?_
          refine aw_icmp_ne (tgt := 259) dX5_reads_252 (by decide) (fun c252 => ?_) (fun c252 => ?_)
          · refine aw_iconst (v := 0) dX5_reads_259 (by decide) ?_
            refine aw_iconst (v := 1) dX5_reads_260 (by decide) ?_
            refine ax_callV2v (M' := MX5_requires) (ci := 5) dX5_reads_261 lmX5_108 oX5_requires (by decide +kernel) (by assumption) rfl rfl (Nat.le_of_ble_eq_true rfl) (f_req0 _) ?_
            refine aw_aload_n (i := 0) dX5_reads_264 rfl rfl ?_
            refine aw_dup dX5_reads_265 rfl ?_
            refine ax_getK (ci := 5) 8 dX5_reads_266 rfl lfX5_79 (by decide) (by assumption) (by rfl) ?_
            refine aw_tE (nI q) (by first | exact h8 | (rw [rqG_t h12]; exact h8) | (unfold rqG; rw [if_pos (show upd (upd g1 9 (nI q)) 10 3 12 = 0 from h12)]; exact h8)) ?_
            refine aw_iconst (v := 1) dX5_reads_269 (by decide) ?_
            refine aw_iadd dX5_reads_270 ?_
            refine aw_tE (nI (q + 1)) (nI_1 q) ?_
            refine ax_putK (ci := 5) 8 dX5_reads_271 rfl lfX5_79 (by decide) (by assumption) (by rfl) rfl rfl ?_
            refine aw_return dX5_reads_274 rfl ?_
            first
              | exact ⟨_, rfl, rfl, _, rfl, MT_end hT (hT.neg.mp (Int32.not_le.mp c52)) h12 rfl rfl h8, (hE.up (by omega) _).up (by omega) _⟩
              | exact ⟨_, rfl, rfl, _, rfl, MT_semi c74 c127 hng c252 h12 rfl rfl rfl, ((hE.up (by omega) _).up (by omega) _).up (by omega) _⟩
              | (refine ⟨_, rfl, rfl, _, rfl, MT_bad c74 c127 hng c252 ?_ ?_, ((rqG_e _ _).tr ((hE.up (by omega) _).up (by omega) _)).up (by omega) _⟩
                 · unfold rqG
                   rw [if_pos (show upd (upd g1 9 (nI q)) 10 3 12 = 0 from h12)]
                   rfl
                 · unfold rqG
                   rw [if_pos (show upd (upd g1 9 (nI q)) 10 3 12 = 0 from h12)]
                   rfl)
          · refine aw_iconst (v := 1) dX5_reads_255 (by decide) ?_
            refine aw_goto (tgt := 260) dX5_reads_256 (by decide) ?_
            refine aw_iconst (v := 1) dX5_reads_260 (by decide) ?_
            refine ax_callV2v (M' := MX5_requires) (ci := 5) dX5_reads_261 lmX5_108 oX5_requires (by decide +kernel) (by assumption) rfl rfl (Nat.le_of_ble_eq_true rfl) (f_req1 _) ?_
            refine aw_aload_n (i := 0) dX5_reads_264 rfl rfl ?_
            refine aw_dup dX5_reads_265 rfl ?_
            refine ax_getK (ci := 5) 8 dX5_reads_266 rfl lfX5_79 (by decide) (by assumption) (by rfl) ?_
            refine aw_tE (nI q) (by first | exact h8 | (rw [rqG_t h12]; exact h8) | (unfold rqG; rw [if_pos (show upd (upd g1 9 (nI q)) 10 3 12 = 0 from h12)]; exact h8)) ?_
            refine aw_iconst (v := 1) dX5_reads_269 (by decide) ?_
            refine aw_iadd dX5_reads_270 ?_
            refine aw_tE (nI (q + 1)) (nI_1 q) ?_
            refine ax_putK (ci := 5) 8 dX5_reads_271 rfl lfX5_79 (by decide) (by assumption) (by rfl) rfl rfl ?_
            refine aw_return dX5_reads_274 rfl ?_
            first
              | exact ⟨_, rfl, rfl, _, rfl, MT_end hT (hT.neg.mp (Int32.not_le.mp c52)) h12 rfl rfl h8, (hE.up (by omega) _).up (by omega) _⟩
              | exact ⟨_, rfl, rfl, _, rfl, MT_semi c74 c127 hng c252 h12 rfl rfl rfl, ((hE.up (by omega) _).up (by omega) _).up (by omega) _⟩
              | (refine ⟨_, rfl, rfl, _, rfl, MT_bad c74 c127 hng c252 ?_ ?_, ((rqG_e _ _).tr ((hE.up (by omega) _).up (by omega) _)).up (by omega) _⟩
                 · unfold rqG
                   rw [if_pos (show upd (upd g1 9 (nI q)) 10 3 12 = 0 from h12)]
                   rfl
                 · unfold rqG
                   rw [if_pos (show upd (upd g1 9 (nI q)) 10 3 12 = 0 from h12)]
                   rfl)
        · refine aw_aload_n (i := 0) dX5_reads_130 rfl rfl ?_
          refine aw_iconst (v := 2) dX5_reads_131 (by decide) ?_
          refine ax_putK (ci := 5) 10 dX5_reads_132 rfl lfX5_94 (by decide) (by assumption) (by rfl) rfl rfl ?_
          refine aw_aload_n (i := 0) dX5_reads_135 rfl rfl ?_
          refine aw_iconst (v := 0) dX5_reads_136 (by decide) ?_
          refine ax_putK (ci := 5) 11 dX5_reads_137 rfl lfX5_105 (by decide) (by assumption) (by rfl) rfl rfl ?_
          exact figures 161 q 0 _ (upd (upd (upd g1 9 (nI q)) 10 2) 11 0) c74 c127 hng hq rfl h7 h8 rfl rfl h12 rfl (((hE.up (by omega) _).up (by omega) _).up (by omega) _) (by omega)
      · refine aw_aload_n (i := 0) dX5_reads_77 rfl rfl ?_
        refine aw_iconst (v := 1) dX5_reads_78 (by decide) ?_
        refine ax_putK (ci := 5) 10 dX5_reads_79 rfl lfX5_94 (by decide) (by assumption) (by rfl) rfl rfl ?_
        exact letters 161 q 0 _ (upd (upd g1 9 (nI q)) 10 1) c74 hng hq rfl h7 h8 rfl rfl h12 ((hE.up (by omega) _).up (by omega) _) (by omega)
    · refine aw_aload_n (i := 0) dX5_reads_55 rfl rfl ?_
      refine aw_iconst (v := 0) dX5_reads_56 (by decide) ?_
      refine ax_putK (ci := 5) 10 dX5_reads_57 rfl lfX5_94 (by decide) (by assumption) (by rfl) rfl rfl ?_
      refine aw_goto (tgt := 274) dX5_reads_60 (by decide) ?_
      refine aw_return dX5_reads_274 rfl ?_
      first
        | exact ⟨_, rfl, rfl, _, rfl, MT_end hT (hT.neg.mp (Int32.not_le.mp c52)) h12 rfl rfl h8, (hE.up (by omega) _).up (by omega) _⟩
        | exact ⟨_, rfl, rfl, _, rfl, MT_semi c74 c127 hng c252 h12 rfl rfl rfl, ((hE.up (by omega) _).up (by omega) _).up (by omega) _⟩
        | (refine ⟨_, rfl, rfl, _, rfl, MT_bad c74 c127 hng c252 ?_ ?_, ((rqG_e _ _).tr ((hE.up (by omega) _).up (by omega) _)).up (by omega) _⟩
           · unfold rqG
             rw [if_pos (show upd (upd g1 9 (nI q)) 10 3 12 = 0 from h12)]
             rfl
           · unfold rqG
             rw [if_pos (show upd (upd g1 9 (nI q)) 10 3 12 = 0 from h12)]
             rfl)
  have loop : ∀ (m p : Nat) (g1 : Nat → Int32), p ≤ L → g1 7 = nI L → g1 8 = nI p → g1 12 = 0 → mEq g1 g → L - p < m → AW V MX5_reads (d + 1) 0 0 8 [some (.ref 64), none] [] (hp (upk f 64 g1, τ)) (fun r' h' => ∃ S' : fm, r' = none ∧ h' = hp S' ∧ ∃ g', S' = (upk f 64 g', τ) ∧ MT ch g' (scn (isSp ch) m p) ∧ mEq g' g) := by
    intro m
    induction m with
    | zero => intro q g1 a1 a2 a3 a4 a5 a6; omega
    | succ m ih =>
      intro q g1 hq h7 h8 h12 hE hm
      refine aw_aload_n (i := 0) dX5_reads_8 rfl rfl ?_
      refine aw_aload_n (i := 0) dX5_reads_9 rfl rfl ?_
      refine ax_getK (ci := 5) 8 dX5_reads_10 rfl lfX5_79 (by decide) (by assumption) (by rfl) ?_
      refine aw_tE (nI q) h8 ?_
      refine ax_callV1i (M' := MX5_byteAt) (ci := 5) dX5_reads_13 lmX5_82 oX5_byteAt (by decide +kernel) (by assumption) rfl rfl (Nat.le_of_ble_eq_true rfl) (f_byteAt hT h7 (by omega)) ?_
      refine aw_bipush (v := 32) dX5_reads_16 (by decide) ?_
      refine aw_icmp_ne (tgt := 34) dX5_reads_18 (by decide) (fun c18 => ?_) (fun c18 => ?_)
      · rw [scn_f c18]
        exact tok q g1 hq h7 h8 h12 hE
      · have hqL := hT.sp q c18
        refine aw_aload_n (i := 0) dX5_reads_21 rfl rfl ?_
        refine aw_dup dX5_reads_22 rfl ?_
        refine ax_getK (ci := 5) 8 dX5_reads_23 rfl lfX5_79 (by decide) (by assumption) (by rfl) ?_
        refine aw_tE (nI q) h8 ?_
        refine aw_iconst (v := 1) dX5_reads_26 (by decide) ?_
        refine aw_iadd dX5_reads_27 ?_
        refine aw_tE (nI (q + 1)) (nI_1 q) ?_
        refine ax_putK (ci := 5) 8 dX5_reads_28 rfl lfX5_79 (by decide) (by assumption) (by rfl) rfl rfl ?_
        refine aw_goto (tgt := 8) dX5_reads_31 (by decide) ?_
        rw [scn, if_pos c18]
        exact ih (q + 1) (upd g1 8 (nI (q + 1))) (by omega) h7 rfl h12 (hE.up (by omega) _) (by omega)
  refine aw_aload_n (i := 0) dX5_reads_0 rfl rfl ?_
  refine ax_getK (ci := 5) 12 dX5_reads_1 rfl lfX5_70 (by decide) (by assumption) (by rfl) ?_
  refine aw_if_le (tgt := 8) dX5_reads_4 (by decide) (fun c4 => ?_) (fun c4 => ?_)
  · exact loop 161 p g hpL h7 h8 h12 mEq.rf (by omega)
  · exact absurd (by rw [h12]; decide) c4
set_option maxRecDepth 100000 in
set_option maxHeartbeats 1000000 in
theorem f_readsF {V : am_V} {d : Nat} {f : Nat → Nat → Int32} {g : Nat → Int32} {τ : Nat → Nat → Int64} {c : Nat} (hc : 1 ≤ c ∧ c ≤ 6) (h12 : g 12 = nI c) : AF V MX5_reads d [.ref 64] (upk f 64 g, τ) none (upk f 64 g, τ) := by
  have tM := tb_M
  have t68 := tb_68
  have t69 := tb_69
  refine AM.of (L := [some (.ref 64), none]) (by decide +kernel) (Nat.le_of_ble_eq_true rfl) rfl ?_
  refine aw_aload_n (i := 0) dX5_reads_0 rfl rfl ?_
  refine ax_getK (ci := 5) 12 dX5_reads_1 rfl lfX5_70 (by decide) (by assumption) (by rfl) ?_
  refine aw_if_le (tgt := 8) dX5_reads_4 (by decide) (fun c4 => ?_) (fun c4 => ?_)
  · exact absurd c4 (by rw [h12]; exact nI_nle (by omega) (by omega))
  · refine aw_return dX5_reads_7 rfl ?_
    exact ⟨rfl, rfl⟩
