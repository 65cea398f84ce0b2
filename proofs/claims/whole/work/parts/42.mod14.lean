def m3V (f : Nat → Nat → Int32) (j : Nat) (ln F : Int32) (i c : Nat) : Int32 := if f 73 j = -4 then 1 else if f 73 j = ln then (if (F.toInt64 + (nI (3 * i)).toInt64 + (nI c).toInt64) < 0 then 2 else if (F.toInt64 + (nI (3 * i)).toInt64 + (nI c).toInt64) < (f 74 j).toInt64 then 0 else 2) else 3
def m3 (f : Nat → Nat → Int32) (j : Nat) (ln F : Int32) (i : Nat) : Nat → Int32
  | 0 => 0
  | c + 1 => if m3 f j ln F i c = 0 then m3V f j ln F i c else m3 f j ln F i c
theorem m3_stop {f : Nat → Nat → Int32} {j i c : Nat} {ln F : Int32} (h : ¬ m3 f j ln F i c = 0) : ∀ m, m3 f j ln F i (c + m) = m3 f j ln F i c := by
  intro m
  induction m with
  | zero => rfl
  | succ m ih => rw [← Nat.add_assoc, m3, ih, if_neg h]
def rmI (f : Nat → Nat → Int32) (p : Nat) (T K S : Nat → Int32) (i : Nat) (g : Nat → Nat → Int32) : Prop :=
  (∀ c q, c ≠ 65 → c ≠ 76 → g c q = f c q) ∧ (∀ q, q < 75 → g 76 q = f 65 q) ∧ (∀ q, q < 29 + 3 * p ∨ 54 ≤ q → g 65 q = f 65 q) ∧ (∀ u, u < i → g 65 (29 + 3 * (p + u) + 0) = T u ∧ g 65 (29 + 3 * (p + u) + 1) = K u ∧ g 65 (29 + 3 * (p + u) + 2) = S u)
theorem rmI.ap {f g : Nat → Nat → Int32} {p i : Nat} {T K S : Nat → Int32} (hp : p + i < 8) (h : rmI f p T K S i g) : rmI f p T K S (i + 1) (pu4 g 29 53 (p + i) (T i) (K i) (S i)) := by
  obtain ⟨h1, h0, h2, h3⟩ := h
  have eo : ∀ c q, ¬ (c = 65 ∧ 29 + 3 * (p + i) ≤ q ∧ q ≤ 53) → pu4 g 29 53 (p + i) (T i) (K i) (S i) c q = g c q := fun c q hq => by unfold pu4; rw [up2_ne (by omega), up2_ne (by omega), up2_ne (by omega), up2_ne (by omega)]
  refine ⟨fun c q a b => (eo c q (by omega)).trans (h1 c q a b), fun q hq => (eo 76 q (by omega)).trans (h0 q hq), fun q hq => (eo 65 q (by omega)).trans (h2 q hq), fun u hu => ?_⟩
  rcases (show u = i ∨ u < i by omega) with rfl | q
  · refine ⟨?_, ?_, ?_⟩
    · unfold pu4; rw [up2_ne (by omega), up2_ne (by omega), up2_ne (by omega)]; exact up2_self _ _ _ _
    · unfold pu4; rw [up2_ne (by omega), up2_ne (by omega)]; exact up2_self _ _ _ _
    · unfold pu4; rw [up2_ne (by omega)]; exact up2_self _ _ _ _
  · rw [eo _ _ (by omega), eo _ _ (by omega), eo _ _ (by omega)]
    exact h3 u q
def rmQ (τ : Nat → Nat → Int64) (f : Nat → Nat → Int32) (p : Nat) (fl T K S : Nat → Int32) (o : Nat × Nat) : Int32 → fm → Prop := fun x S' => x = rdV o ∧ ∃ f', S' = (f', τ) ∧
  f' 65 53 = nI (rdP p o) ∧ f' 64 27 = rdT fl o (f 64 27) ∧ (∀ c q, c ≠ 65 → c ≠ 76 → ¬ (c = 64 ∧ q = 27) → f' c q = f c q) ∧ (∀ q, q < 29 + 3 * p ∨ 54 ≤ q → f' 65 q = f 65 q) ∧ (o.2 ≠ 2 → ∀ u, u < o.1 → f' 65 (29 + 3 * (p + u) + 0) = T u ∧ f' 65 (29 + 3 * (p + u) + 1) = K u ∧ f' 65 (29 + 3 * (p + u) + 2) = S u)
theorem put_ok {g : Nat → Nat → Int32} {n q : Nat} {T K S : Nat → Int32} {p i : Nat} (hg : g 65 28 = nI n) (hq : q = p + i) (hq8 : q ≤ 8) : (okP n p T K S i → mr_put g 99 q 8 (T i) (K i) (S i) = nI (q + 1) ∧ ms_put g 99 29 53 q 8 (T i) (K i) (S i) = pu4 g 29 53 q (T i) (K i) (S i)) ∧ (¬ okP n p T K S i → mr_put g 99 q 8 (T i) (K i) (S i) < 0 ∧ ms_put g 99 29 53 q 8 (T i) (K i) (S i) = g) := by
  subst hq
  constructor
  · rintro ⟨a, b, c, d⟩
    have d8 : ¬ nI (p + i) = 8 := fun z => absurd ((nI_eq (a := p + i) (b := 8) (by omega) (by omega)).mp z) (by omega)
    rw [← hg] at b
    unfold mr_put ms_put
    rw [if_pos a, if_pos b, if_pos c, if_neg d8, if_pos a, if_pos b, if_pos c, if_neg d8]
    exact ⟨rfl, rfl⟩
  · intro h
    have m1 : (-1 : Int32) < 0 := by decide
    have m3 : (-3 : Int32) < 0 := by decide
    unfold mr_put ms_put
    by_cases a : 0 ≤ T i ∧ T i ≤ 99
    · rw [if_pos a, if_pos a]
      by_cases b : 0 ≤ K i ∧ K i ≤ g 65 28 - 1
      · rw [if_pos b, if_pos b]
        by_cases c : 0 ≤ S i ∧ S i ≤ 1
        · rw [if_pos c, if_pos c]
          by_cases d : nI (p + i) = 8
          · rw [if_pos d, if_pos d]; exact ⟨m3, rfl⟩
          · refine absurd ⟨a, by rw [← hg]; exact b, c, ?_⟩ h
            rcases (show p + i = 8 ∨ p + i < 8 by omega) with q | q
            · exact absurd (by rw [q]; rfl) d
            · exact q
        · rw [if_neg c, if_neg c]; exact ⟨m1, rfl⟩
      · rw [if_neg b, if_neg b]; exact ⟨m1, rfl⟩
    · rw [if_neg a, if_neg a]; exact ⟨m1, rfl⟩
set_option maxRecDepth 100000 in
set_option maxHeartbeats 1000000 in
theorem n_read {V : am_V} {d : Nat} {f : Nat → Nat → Int32} {τ : Nat → Nat → Int64} {n : Nat} (hn4 : n ≤ 4) (hn : f 65 28 = nI n) {p : Nat} (hp8 : p ≤ 8) (hp1 : f 65 53 = nI p) {fl T K S : Nat → Nat → Int32} (ln F : Int32) (hfl : ∀ j i, j < 4 → i < 13 → m3 f j ln F i 3 = fl j i) (hcl : ∀ j i, j < 4 → i < 13 → fl j i = 0 → ∃ u, u + 2 < 40 ∧ nI (40 * j) + F + nI (3 * i) = nI (40 * j + u) ∧ f 75 (40 * j + u) = T j i ∧ f 75 (40 * j + u + 1) = K j i ∧ f 75 (40 * j + u + 2) = S j i) (k x : Int32) : AGi V MX5_read (d + 3) [.ref 64, .int k, .int ln, .int F, .int x] (f, τ) (fun r S' => (∃ j N, j < 4 ∧ N ≤ 13 ∧ k = nI j ∧ x = nI N ∧ (0 ≤ ln ∧ ln ≤ 2) ∧ rmQ τ f p (fl j) (T j) (K j) (S j) (rdO (fl j) (okP n p (T j) (K j) (S j)) N 0) r S') ∨ (¬ ((0 ≤ k ∧ k ≤ 3) ∧ (0 ≤ ln ∧ ln ≤ 2) ∧ (0 ≤ x ∧ x ≤ 13)) ∧ r = -1 ∧ S' = (f, τ))) := by
  have tM := tb_M
  have m65 := tb_65
  have m66 := tb_66
  have m67 := tb_67
  have m68 := tb_68
  have m69 := tb_69
  have m70 := tb_70
  have m71 := tb_71
  have m72 := tb_72
  have m73 := tb_73
  have m74 := tb_74
  have m75 := tb_75
  have m76 := tb_76
  refine AM.of (L := [some (.ref 64), some (.int k), some (.int ln), some (.int F), some (.int x), none, none, none, none, none, none]) (by decide +kernel) (Nat.le_of_ble_eq_true rfl) rfl ?_
  have fin : ∀ (j N i i2 : Nat) (fo : Int32) (z8 z9 : Option Value) (g : Nat → Nat → Int32), j < 4 → rmI f p (T j) (K j) (S j) i g → g 65 53 = nI (p + i) → (∃ t, (rdO (fl j) (okP n p (T j) (K j) (S j)) N 0) = (i, t) ∧ t ≠ 2 ∧ (t = 1 → fo = fl j i) ∧ (t ≠ 1 → fo = 0)) → AW V MX5_read (d + 3) 0 0 259 [some (.ref 64), some (.int (nI j)), some (.int ln), some (.int F), some (.int (nI N)), some (.int fo), some (.int (nI i)), some (.int (nI i2)), z8, z9, none] [] (hp (g, τ)) (fun r' h' => ∃ (x : Int32) (S' : fm), r' = some (.int x) ∧ h' = hp S' ∧ rmQ τ f p (fl j) (T j) (K j) (S j) (rdO (fl j) (okP n p (T j) (K j) (S j)) N 0) x S') := by
    intro j N i i2 fo z8 z9 g hj hI h25 ht
    obtain ⟨t, ht, t2, t1, t0'⟩ := ht
    refine aw_aload_n (i := 0) dX5_read_259 rfl rfl ?_
    refine aw_iload dX5_read_260 rfl ?_
    refine ax_puti (ci := 5) 27 dX5_read_262 rfl lfX5_320 (by decide) (by assumption) (by rfl) rfl rfl ?_
    refine aw_iload dX5_read_265 rfl ?_
    refine aw_ireturn (ty := .int) dX5_read_267 rfl rfl ?_
    refine ⟨_, _, rfl, rfl, ?_, _, rfl, ?_, ?_, fun c q g1 g2 g3 => ?_, fun u hu => ?_, fun _ u hu => ?_⟩
    · rw [ht]; unfold rdV; rw [if_neg t2]
    · rw [ht, up2_ne (by omega), h25]; unfold rdP; rw [if_neg t2]
    · rw [ht, up2_self]
      unfold rdT
      rw [if_neg t2]
      by_cases q : t = 1
      · rw [if_pos q]; exact t1 q
      · rw [if_neg q]; exact t0' q
    · rw [up2_ne (by omega)]; exact hI.1 c q g1 g2
    · rw [up2_ne (by omega)]; exact hI.2.2.1 u hu
    · rw [ht] at hu; rw [up2_ne (by omega), up2_ne (by omega), up2_ne (by omega)]; exact hI.2.2.2 u hu
  have head2 : ∀ (j N i : Nat) (fo : Int32) (z8 z9 : Option Value) (g : Nat → Nat → Int32), j < 4 → rmI f p (T j) (K j) (S j) i g → g 65 53 = nI (p + i) → (rdO (fl j) (okP n p (T j) (K j) (S j)) N 0) = (i, 1) → fo = fl j i → ¬ fo = 0 → AW V MX5_read (d + 3) 0 0 62 [some (.ref 64), some (.int (nI j)), some (.int ln), some (.int F), some (.int (nI N)), some (.int fo), some (.int (nI i)), some (.int (nI (i + 1))), z8, z9, none] [] (hp (g, τ)) (fun r' h' => ∃ (x : Int32) (S' : fm), r' = some (.int x) ∧ h' = hp S' ∧ rmQ τ f p (fl j) (T j) (K j) (S j) (rdO (fl j) (okP n p (T j) (K j) (S j)) N 0) x S') := by
    intro j N i fo z8 z9 g hj hI h25 ht hf h0
    refine aw_iload dX5_read_62 rfl ?_
    refine aw_iload dX5_read_64 rfl ?_
    refine aw_icmp_ge (tgt := 259) dX5_read_66 (by decide) (fun c66 => ?_) (fun c66 => ?_)
    · exact fin j N i (i + 1) fo z8 z9 g hj hI h25 ⟨1, ht, by omega, fun _ => hf, fun q => absurd rfl q⟩
    · refine aw_iload dX5_read_69 rfl ?_
      refine aw_if_ne (tgt := 259) dX5_read_71 (by decide) (fun c71 => ?_) (fun c71 => ?_)
      · exact fin j N i (i + 1) fo z8 z9 g hj hI h25 ⟨1, ht, by omega, fun _ => hf, fun q => absurd rfl q⟩
      · exact absurd c71 h0
  have inner : ∀ (m c i j N : Nat) (z9 : Option Value) (g : Nat → Nat → Int32), j < 4 → N ≤ 13 → i < N → c + m = 3 → (∀ q, g 73 q = f 73 q) → (∀ q, g 74 q = f 74 q) → (∀ z8 z9, AW V MX5_read (d + 3) 0 0 164 [some (.ref 64), some (.int (nI j)), some (.int ln), some (.int F), some (.int (nI N)), some (.int (m3 f j ln F i 3)), some (.int (nI i)), some (.int (nI i)), z8, z9, none] [] (hp (g, τ)) (fun r' h' => ∃ (x : Int32) (S' : fm), r' = some (.int x) ∧ h' = hp S' ∧ rmQ τ f p (fl j) (T j) (K j) (S j) (rdO (fl j) (okP n p (T j) (K j) (S j)) N 0) x S')) → AW V MX5_read (d + 3) 0 0 77 [some (.ref 64), some (.int (nI j)), some (.int ln), some (.int F), some (.int (nI N)), some (.int (m3 f j ln F i c)), some (.int (nI i)), some (.int (nI i)), some (.int (nI c)), z9, none] [] (hp (g, τ)) (fun r' h' => ∃ (x : Int32) (S' : fm), r' = some (.int x) ∧ h' = hp S' ∧ rmQ τ f p (fl j) (T j) (K j) (S j) (rdO (fl j) (okP n p (T j) (K j) (S j)) N 0) x S') := by
    intro m
    induction m with
    | zero =>
      intro c i j N z9 g hj hN hi hm h73 h74 hk
      have hc : c = 3 := by omega
      subst hc
      refine aw_iload dX5_read_77 rfl ?_
      refine aw_iconst (v := 3) dX5_read_79 (by decide) ?_
      refine aw_icmp_ge (tgt := 164) dX5_read_80 (by decide) (fun c80 => ?_) (fun c80 => ?_)
      · exact hk _ _
      · exact absurd (Int32.le_refl _) c80
    | succ m ih =>
      intro c i j N z9 g hj hN hi hm h73 h74 hk
      refine aw_iload dX5_read_77 rfl ?_
      refine aw_iconst (v := 3) dX5_read_79 (by decide) ?_
      refine aw_tE (nI 3) rfl ?_
      refine aw_icmp_ge (tgt := 164) dX5_read_80 (by decide) (fun c80 => ?_) (fun c80 => ?_)
      · exact absurd ((nI_leI (a := 3) (b := c) (by omega) (by omega)).mp c80) (by omega)
      · refine aw_iload dX5_read_83 rfl ?_
        refine aw_if_ne (tgt := 164) dX5_read_85 (by decide) (fun c85 => ?_) (fun c85 => ?_)
        · rw [← m3_stop c85 (3 - c), show c + (3 - c) = 3 by omega]
          exact hk _ _
        · refine aw_iload_n (i := 3) dX5_read_88 rfl rfl ?_
          refine aw_i2l dX5_read_89 ?_
          refine aw_iconst (v := 3) dX5_read_90 (by decide) ?_
          refine aw_iload dX5_read_91 rfl ?_
          refine aw_imul dX5_read_93 ?_
          refine aw_tE (nI (3 * i)) (by rw [show (3 : Int32) = nI 3 from rfl, pk_mul]) ?_
          refine aw_i2l dX5_read_94 ?_
          refine aw_ladd dX5_read_95 ?_
          refine aw_iload dX5_read_96 rfl ?_
          refine aw_i2l dX5_read_98 ?_
          refine aw_ladd dX5_read_99 ?_
          refine aw_lstore (i := 9) (L' := [_, _, _, _, _, _, _, _, _, _, _]) dX5_read_100 (Nat.le_of_ble_eq_true rfl) rfl rfl ?_
          refine aw_aload_n (i := 0) dX5_read_102 rfl rfl ?_
          refine ax_getr (ci := 5) 24 dX5_read_103 rfl lfX5_35 (by decide) (by assumption) (by rfl) ?_
          refine aw_iload_n (i := 1) dX5_read_106 rfl rfl ?_
          refine ax_ialdN dX5_read_107 (by assumption) (by omega) (Nat.le_of_ble_eq_true rfl) ?_
          refine aw_tE (f 73 j) (h73 j) ?_
          refine aw_bipush (v := -4) dX5_read_108 (by decide) ?_
          refine aw_icmp_ne (tgt := 117) dX5_read_110 (by decide) (fun c110 => ?_) (fun c110 => ?_)
          · refine aw_aload_n (i := 0) dX5_read_117 rfl rfl ?_
            refine ax_getr (ci := 5) 24 dX5_read_118 rfl lfX5_35 (by decide) (by assumption) (by rfl) ?_
            refine aw_iload_n (i := 1) dX5_read_121 rfl rfl ?_
            refine ax_ialdN dX5_read_122 (by assumption) (by omega) (Nat.le_of_ble_eq_true rfl) ?_
            refine aw_tE (f 73 j) (h73 j) ?_
            refine aw_iload_n (i := 2) dX5_read_123 rfl rfl ?_
            refine aw_icmp_eq (tgt := 131) dX5_read_124 (by decide) (fun c124 => ?_) (fun c124 => ?_)
            · refine aw_lload dX5_read_131 rfl ?_
              refine aw_lconst (v := 0) dX5_read_133 (by decide) ?_
              refine aw_lcmp dX5_read_134 ?_
              refine aw_if_lt (tgt := 151) dX5_read_135 (by decide) (fun c135 => ?_) (fun c135 => ?_)
              · refine aw_iconst (v := 2) dX5_read_151 (by decide) ?_
                refine aw_goto (tgt := 156) dX5_read_152 (by decide) ?_
                refine aw_istore (i := 5) (L' := [_, _, _, _, _, _, _, _, _, _, _]) dX5_read_156 (Nat.le_of_ble_eq_true rfl) rfl rfl ?_
                refine aw_incN (L' := [_, _, _, _, _, _, _, _, _, _, _]) dX5_read_158 rfl (Nat.le_of_ble_eq_true rfl) rfl rfl ?_
                refine aw_goto (tgt := 77) dX5_read_161 (by decide) ?_
                have e9 := ih (c + 1) i j N (some (.long (F.toInt64 + (nI (3 * i)).toInt64 + (nI c).toInt64))) g hj hN hi (by omega) h73 h74 hk
                rw [show m3 f j ln F i (c + 1) = m3V f j ln F i c by rw [m3, if_pos c85]] at e9
                unfold m3V at e9
                first | (rw [if_pos c110] at e9; exact e9) | (rw [if_neg c110, if_neg c124] at e9; exact e9) | (rw [if_neg c110, if_pos c124, if_pos ((lg_cmp_lt _ _).mp c135)] at e9; exact e9) | (rw [if_neg c110, if_pos c124, if_neg (fun z => c135 ((lg_cmp_lt _ _).mpr z)), if_pos ((lg_cmp_lt _ _).mp c148)] at e9; exact e9) | (rw [if_neg c110, if_pos c124, if_neg (fun z => c135 ((lg_cmp_lt _ _).mpr z)), if_neg (fun z => c148 ((lg_cmp_lt _ _).mpr z))] at e9; exact e9)
              · refine aw_lload dX5_read_138 rfl ?_
                refine aw_aload_n (i := 0) dX5_read_140 rfl rfl ?_
                refine ax_getr (ci := 5) 25 dX5_read_141 rfl lfX5_38 (by decide) (by assumption) (by rfl) ?_
                refine aw_iload_n (i := 1) dX5_read_144 rfl rfl ?_
                refine ax_ialdN dX5_read_145 (by assumption) (by omega) (Nat.le_of_ble_eq_true rfl) ?_
                refine aw_tE (f 74 j) (h74 j) ?_
                refine aw_i2l dX5_read_146 ?_
                refine aw_lcmp dX5_read_147 ?_
                refine aw_if_lt (tgt := 155) dX5_read_148 (by decide) (fun c148 => ?_) (fun c148 => ?_)
                · refine aw_iconst (v := 0) dX5_read_155 (by decide) ?_
                  refine aw_istore (i := 5) (L' := [_, _, _, _, _, _, _, _, _, _, _]) dX5_read_156 (Nat.le_of_ble_eq_true rfl) rfl rfl ?_
                  refine aw_incN (L' := [_, _, _, _, _, _, _, _, _, _, _]) dX5_read_158 rfl (Nat.le_of_ble_eq_true rfl) rfl rfl ?_
                  refine aw_goto (tgt := 77) dX5_read_161 (by decide) ?_
                  have e9 := ih (c + 1) i j N (some (.long (F.toInt64 + (nI (3 * i)).toInt64 + (nI c).toInt64))) g hj hN hi (by omega) h73 h74 hk
                  rw [show m3 f j ln F i (c + 1) = m3V f j ln F i c by rw [m3, if_pos c85]] at e9
                  unfold m3V at e9
                  first | (rw [if_pos c110] at e9; exact e9) | (rw [if_neg c110, if_neg c124] at e9; exact e9) | (rw [if_neg c110, if_pos c124, if_pos ((lg_cmp_lt _ _).mp c135)] at e9; exact e9) | (rw [if_neg c110, if_pos c124, if_neg (fun z => c135 ((lg_cmp_lt _ _).mpr z)), if_pos ((lg_cmp_lt _ _).mp c148)] at e9; exact e9) | (rw [if_neg c110, if_pos c124, if_neg (fun z => c135 ((lg_cmp_lt _ _).mpr z)), if_neg (fun z => c148 ((lg_cmp_lt _ _).mpr z))] at e9; exact e9)
                · refine aw_iconst (v := 2) dX5_read_151 (by decide) ?_
                  refine aw_goto (tgt := 156) dX5_read_152 (by decide) ?_
                  refine aw_istore (i := 5) (L' := [_, _, _, _, _, _, _, _, _, _, _]) dX5_read_156 (Nat.le_of_ble_eq_true rfl) rfl rfl ?_
                  refine aw_incN (L' := [_, _, _, _, _, _, _, _, _, _, _]) dX5_read_158 rfl (Nat.le_of_ble_eq_true rfl) rfl rfl ?_
                  refine aw_goto (tgt := 77) dX5_read_161 (by decide) ?_
                  have e9 := ih (c + 1) i j N (some (.long (F.toInt64 + (nI (3 * i)).toInt64 + (nI c).toInt64))) g hj hN hi (by omega) h73 h74 hk
                  rw [show m3 f j ln F i (c + 1) = m3V f j ln F i c by rw [m3, if_pos c85]] at e9
                  unfold m3V at e9
                  first | (rw [if_pos c110] at e9; exact e9) | (rw [if_neg c110, if_neg c124] at e9; exact e9) | (rw [if_neg c110, if_pos c124, if_pos ((lg_cmp_lt _ _).mp c135)] at e9; exact e9) | (rw [if_neg c110, if_pos c124, if_neg (fun z => c135 ((lg_cmp_lt _ _).mpr z)), if_pos ((lg_cmp_lt _ _).mp c148)] at e9; exact e9) | (rw [if_neg c110, if_pos c124, if_neg (fun z => c135 ((lg_cmp_lt _ _).mpr z)), if_neg (fun z => c148 ((lg_cmp_lt _ _).mpr z))] at e9; exact e9)
            · refine aw_iconst (v := 3) dX5_read_127 (by decide) ?_
              refine aw_goto (tgt := 156) dX5_read_128 (by decide) ?_
              refine aw_istore (i := 5) (L' := [_, _, _, _, _, _, _, _, _, _, _]) dX5_read_156 (Nat.le_of_ble_eq_true rfl) rfl rfl ?_
              refine aw_incN (L' := [_, _, _, _, _, _, _, _, _, _, _]) dX5_read_158 rfl (Nat.le_of_ble_eq_true rfl) rfl rfl ?_
              refine aw_goto (tgt := 77) dX5_read_161 (by decide) ?_
              have e9 := ih (c + 1) i j N (some (.long (F.toInt64 + (nI (3 * i)).toInt64 + (nI c).toInt64))) g hj hN hi (by omega) h73 h74 hk
              rw [show m3 f j ln F i (c + 1) = m3V f j ln F i c by rw [m3, if_pos c85]] at e9
              unfold m3V at e9
              first | (rw [if_pos c110] at e9; exact e9) | (rw [if_neg c110, if_neg c124] at e9; exact e9) | (rw [if_neg c110, if_pos c124, if_pos ((lg_cmp_lt _ _).mp c135)] at e9; exact e9) | (rw [if_neg c110, if_pos c124, if_neg (fun z => c135 ((lg_cmp_lt _ _).mpr z)), if_pos ((lg_cmp_lt _ _).mp c148)] at e9; exact e9) | (rw [if_neg c110, if_pos c124, if_neg (fun z => c135 ((lg_cmp_lt _ _).mpr z)), if_neg (fun z => c148 ((lg_cmp_lt _ _).mpr z))] at e9; exact e9)
          · refine aw_iconst (v := 1) dX5_read_113 (by decide) ?_
            refine aw_goto (tgt := 156) dX5_read_114 (by decide) ?_
            refine aw_istore (i := 5) (L' := [_, _, _, _, _, _, _, _, _, _, _]) dX5_read_156 (Nat.le_of_ble_eq_true rfl) rfl rfl ?_
            refine aw_incN (L' := [_, _, _, _, _, _, _, _, _, _, _]) dX5_read_158 rfl (Nat.le_of_ble_eq_true rfl) rfl rfl ?_
            refine aw_goto (tgt := 77) dX5_read_161 (by decide) ?_
            have e9 := ih (c + 1) i j N (some (.long (F.toInt64 + (nI (3 * i)).toInt64 + (nI c).toInt64))) g hj hN hi (by omega) h73 h74 hk
            rw [show m3 f j ln F i (c + 1) = m3V f j ln F i c by rw [m3, if_pos c85]] at e9
            unfold m3V at e9
            first | (rw [if_pos c110] at e9; exact e9) | (rw [if_neg c110, if_neg c124] at e9; exact e9) | (rw [if_neg c110, if_pos c124, if_pos ((lg_cmp_lt _ _).mp c135)] at e9; exact e9) | (rw [if_neg c110, if_pos c124, if_neg (fun z => c135 ((lg_cmp_lt _ _).mpr z)), if_pos ((lg_cmp_lt _ _).mp c148)] at e9; exact e9) | (rw [if_neg c110, if_pos c124, if_neg (fun z => c135 ((lg_cmp_lt _ _).mpr z)), if_neg (fun z => c148 ((lg_cmp_lt _ _).mpr z))] at e9; exact e9)
  have rest : ∀ (m u i j N : Nat) (fo : Int32) (z8 : Int32) (z10 : Option Value) (g : Nat → Nat → Int32), j < 4 → u + m = 75 → (rdO (fl j) (okP n p (T j) (K j) (S j)) N 0) = (i, 2) → (∀ c q, c ≠ 65 → c ≠ 76 → g c q = f c q) → (∀ q, q < 75 → g 76 q = f 65 q) → (∀ q, q < u ∨ 75 ≤ q → g 65 q = f 65 q) → AW V MX5_read (d + 3) 0 0 217 [some (.ref 64), some (.int (nI j)), some (.int ln), some (.int F), some (.int (nI N)), some (.int fo), some (.int (nI i)), some (.int (nI i)), some (.int z8), some (.int (nI u)), z10] [] (hp (g, τ)) (fun r' h' => ∃ (x : Int32) (S' : fm), r' = some (.int x) ∧ h' = hp S' ∧ rmQ τ f p (fl j) (T j) (K j) (S j) (rdO (fl j) (okP n p (T j) (K j) (S j)) N 0) x S') := by
    intro m
    induction m with
    | zero =>
      intro u i j N fo z8 z10 g hj hm hX h1 h0 h2
      have hc : u = 75 := by omega
      subst hc
      refine aw_iload dX5_read_217 rfl ?_
      refine aw_bipush (v := 75) dX5_read_219 (by decide) ?_
      refine aw_icmp_ge (tgt := 244) dX5_read_221 (by decide) (fun c221 => ?_) (fun c221 => ?_)
      · refine aw_bipush (v := -20) dX5_read_244 (by decide) ?_
        refine aw_iload dX5_read_246 rfl ?_
        refine aw_isub dX5_read_248 ?_
        refine aw_ireturn (ty := .int) dX5_read_249 rfl rfl ?_
        refine ⟨_, _, rfl, rfl, ?_, _, rfl, ?_, ?_, fun c q g1 g2 g3 => h1 c q g1 g2, fun q hq => h2 q (by omega), fun q => absurd (by rw [hX]) q⟩
        · rw [hX]; rfl
        · rw [hX, h2 53 (by omega)]; exact hp1
        · rw [hX, h1 64 27 (by omega) (by omega)]; rfl
      · exact absurd (Int32.le_refl _) c221
    | succ m ih =>
      intro u i j N fo z8 z10 g hj hm hX h1 h0 h2
      refine aw_iload dX5_read_217 rfl ?_
      refine aw_bipush (v := 75) dX5_read_219 (by decide) ?_
      refine aw_tE (nI 75) rfl ?_
      refine aw_icmp_ge (tgt := 244) dX5_read_221 (by decide) (fun c221 => ?_) (fun c221 => ?_)
      · exact absurd ((nI_leI (a := 75) (b := u) (by omega) (by omega)).mp c221) (by omega)
      · refine aw_aload_n (i := 0) dX5_read_224 rfl rfl ?_
        refine ax_getr (ci := 5) 0 dX5_read_225 rfl lfX5_7 (by decide) (by assumption) (by rfl) ?_
        refine aw_iload dX5_read_228 rfl ?_
        refine aw_aload_n (i := 0) dX5_read_230 rfl rfl ?_
        refine ax_getr (ci := 5) 28 dX5_read_231 rfl lfX5_44 (by decide) (by assumption) (by rfl) ?_
        refine aw_iload dX5_read_234 rfl ?_
        refine ax_ialdN dX5_read_236 (by assumption) (by omega) (Nat.le_of_ble_eq_true rfl) ?_
        refine aw_tE (f 65 u) (h0 u (by omega)) ?_
        refine ax_iastN dX5_read_237 (by assumption) (by omega) (Nat.le_of_ble_eq_true rfl) ?_
        refine aw_incN (L' := [_, _, _, _, _, _, _, _, _, _, _]) dX5_read_238 rfl (Nat.le_of_ble_eq_true rfl) rfl rfl ?_
        refine aw_goto (tgt := 217) dX5_read_241 (by decide) ?_
        refine ih (u + 1) i j N fo z8 z10 _ hj (by omega) hX (fun c q a b => (up2_ne (by omega)).trans (h1 c q a b)) (fun q hq => (up2_ne (by omega)).trans (h0 q hq)) (fun q hq => ?_)
        rcases (show q = u ∨ q ≠ u by omega) with rfl | q2
        · exact up2_self _ _ _ _
        · rw [up2_ne (by omega)]; exact h2 q (by omega)
  have loop : ∀ (m i j N : Nat) (z8 z9 : Option Value) (g : Nat → Nat → Int32), j < 4 → N ≤ 13 → i + m = N → p + i ≤ 8 → rmI f p (T j) (K j) (S j) i g → g 65 53 = nI (p + i) → (rdO (fl j) (okP n p (T j) (K j) (S j)) N 0) = (rdO (fl j) (okP n p (T j) (K j) (S j)) m i) → AW V MX5_read (d + 3) 0 0 62 [some (.ref 64), some (.int (nI j)), some (.int ln), some (.int F), some (.int (nI N)), some (.int 0), some (.int (nI i)), some (.int (nI i)), z8, z9, none] [] (hp (g, τ)) (fun r' h' => ∃ (x : Int32) (S' : fm), r' = some (.int x) ∧ h' = hp S' ∧ rmQ τ f p (fl j) (T j) (K j) (S j) (rdO (fl j) (okP n p (T j) (K j) (S j)) N 0) x S') := by
    intro m
    induction m with
    | zero =>
      intro i j N z8 z9 g hj hN hm hpi hI h25 hX
      have hi : i = N := by omega
      subst hi
      refine aw_iload dX5_read_62 rfl ?_
      refine aw_iload dX5_read_64 rfl ?_
      refine aw_icmp_ge (tgt := 259) dX5_read_66 (by decide) (fun c66 => ?_) (fun c66 => ?_)
      · exact fin j i i i 0 z8 z9 g hj hI h25 ⟨0, hX, by omega, fun q => absurd q (by omega), fun _ => rfl⟩
      · exact absurd (Int32.le_refl _) c66
    | succ m ih =>
      intro i j N z8 z9 g hj hN hm hpi hI h25 hX
      have hi : i < N := by omega
      have eg1 : g 65 28 = nI n := (hI.2.2.1 28 (by omega)).trans hn
      have e75 : ∀ q, g 75 q = f 75 q := fun q => hI.1 75 q (by omega) (by omega)
      have hF := hfl j i hj (by omega)
      obtain ⟨okY, okN⟩ := put_ok (T := T j) (K := K j) (S := S j) (p := p) (i := i) eg1 rfl (by omega)
      refine aw_iload dX5_read_62 rfl ?_
      refine aw_iload dX5_read_64 rfl ?_
      refine aw_icmp_ge (tgt := 259) dX5_read_66 (by decide) (fun c66 => ?_) (fun c66 => ?_)
      · exact absurd ((nI_leI (a := N) (b := i) (by omega) (by omega)).mp c66) (by omega)
      · refine aw_iload dX5_read_69 rfl ?_
        refine aw_if_ne (tgt := 259) dX5_read_71 (by decide) (fun c71 => ?_) (fun c71 => ?_)
        · exact absurd rfl c71
        · refine aw_iconst (v := 0) dX5_read_74 (by decide) ?_
          refine aw_istore (i := 8) (L' := [_, _, _, _, _, _, _, _, _, _, _]) dX5_read_75 (Nat.le_of_ble_eq_true rfl) rfl rfl ?_
          refine inner 3 0 i j N _ g hj hN hi rfl (fun q => hI.1 73 q (by omega) (by omega)) (fun q => hI.1 74 q (by omega) (by omega)) (fun z8 z9 => ?_)
          refine aw_iload dX5_read_164 rfl ?_
          refine aw_if_ne (tgt := 253) dX5_read_166 (by decide) (fun c166 => ?_) (fun c166 => ?_)
          · refine aw_incN (L' := [_, _, _, _, _, _, _, _, _, _, _]) dX5_read_253 rfl (Nat.le_of_ble_eq_true rfl) rfl rfl ?_
            refine aw_goto (tgt := 62) dX5_read_256 (by decide) ?_
            exact head2 j N i _ _ _ g hj hI h25 (by rw [hX, rdO, if_neg (by rw [← hF]; exact c166)]) hF c166
          · have hz0 : fl j i = 0 := hF.symm.trans c166
            obtain ⟨u, hu, eu, w0, w1, w2⟩ := hcl j i hj (by omega) hz0
            refine aw_bipush (v := 40) dX5_read_169 (by decide) ?_
            refine aw_iload_n (i := 1) dX5_read_171 rfl rfl ?_
            refine aw_imul dX5_read_172 ?_
            refine aw_iload_n (i := 3) dX5_read_173 rfl rfl ?_
            refine aw_iadd dX5_read_174 ?_
            refine aw_iconst (v := 3) dX5_read_175 (by decide) ?_
            refine aw_iload dX5_read_176 rfl ?_
            refine aw_imul dX5_read_178 ?_
            refine aw_iadd dX5_read_179 ?_
            refine aw_tE (nI (40 * j + u)) (by rw [← eu, show (40 : Int32) = nI 40 from rfl, pk_mul, show (3 : Int32) = nI 3 from rfl, pk_mul]) ?_
            refine aw_istore (i := 8) (L' := [_, _, _, _, _, _, _, _, _, _, _]) dX5_read_180 (Nat.le_of_ble_eq_true rfl) rfl rfl ?_
            refine aw_aload_n (i := 0) dX5_read_182 rfl rfl ?_
            refine aw_aload_n (i := 0) dX5_read_183 rfl rfl ?_
            refine ax_getr (ci := 5) 26 dX5_read_184 rfl lfX5_41 (by decide) (by assumption) (by rfl) ?_
            refine aw_iload dX5_read_187 rfl ?_
            refine ax_ialdN dX5_read_189 (by assumption) (by omega) (Nat.le_of_ble_eq_true rfl) ?_
            refine aw_tE (T j i) ((e75 _).trans w0) ?_
            refine aw_aload_n (i := 0) dX5_read_190 rfl rfl ?_
            refine ax_getr (ci := 5) 26 dX5_read_191 rfl lfX5_41 (by decide) (by assumption) (by rfl) ?_
            refine aw_iload dX5_read_194 rfl ?_
            refine aw_iconst (v := 1) dX5_read_196 (by decide) ?_
            refine aw_iadd dX5_read_197 ?_
            refine aw_tE (nI (40 * j + u + 1)) (nI_1 _) ?_
            refine ax_ialdN dX5_read_198 (by assumption) (by omega) (Nat.le_of_ble_eq_true rfl) ?_
            refine aw_tE (K j i) ((e75 _).trans w1) ?_
            refine aw_aload_n (i := 0) dX5_read_199 rfl rfl ?_
            refine ax_getr (ci := 5) 26 dX5_read_200 rfl lfX5_41 (by decide) (by assumption) (by rfl) ?_
            refine aw_iload dX5_read_203 rfl ?_
            refine aw_iconst (v := 2) dX5_read_205 (by decide) ?_
            refine aw_iadd dX5_read_206 ?_
            refine aw_tE (nI (40 * j + u + 2)) (nI_add _ 2) ?_
            refine ax_ialdN dX5_read_207 (by assumption) (by omega) (Nat.le_of_ble_eq_true rfl) ?_
            refine aw_tE (S j i) ((e75 _).trans w2) ?_
            refine ax_callV3i (M' := MX5_strike) (ci := 5) dX5_read_208 lmX5_316 oX5_strike (by decide +kernel) (by assumption) rfl rfl (Nat.le_of_ble_eq_true rfl) (q_strike (p := p + i) (by omega) h25 _ _ _) ?_
            refine aw_if_ge (tgt := 250) dX5_read_211 (by decide) (fun c211 => ?_) (fun c211 => ?_)
            · have hyes : okP n p (T j) (K j) (S j) i := by
                by_cases q : okP n p (T j) (K j) (S j) i
                · exact q
                · exact absurd (okN q).1 (Int32.not_lt.mpr c211)
              have hpi2 : p + (i + 1) ≤ 8 := by have := hyes.2.2.2; omega
              rw [(okY hyes).2]
              refine aw_iinc (v := nI (i + 1)) (L' := [_, _, _, _, _, _, _, _, _, _, _]) dX5_read_250 rfl (nI_1 i) (Nat.le_of_ble_eq_true rfl) rfl rfl ?_
              refine aw_incN (L' := [_, _, _, _, _, _, _, _, _, _, _]) dX5_read_253 rfl (Nat.le_of_ble_eq_true rfl) rfl rfl ?_
              refine aw_goto (tgt := 62) dX5_read_256 (by decide) ?_
              rw [c166]
              refine ih (i + 1) j N _ _ _ hj hN (by omega) hpi2 (hI.ap hyes.2.2.2) (by rw [← Nat.add_assoc]; exact up2_self _ _ _ _) ?_
              rw [hX, rdO, if_pos hz0, if_pos hyes]
            · have hno : ¬ okP n p (T j) (K j) (S j) i := fun q => c211 (by rw [(okY q).1]; exact nI_pos' (by omega))
              rw [(okN hno).2]
              have hX2 : (rdO (fl j) (okP n p (T j) (K j) (S j)) N 0) = (i, 2) := by rw [hX, rdO, if_pos hz0, if_neg hno]
              refine aw_iconst (v := 0) dX5_read_214 (by decide) ?_
              refine aw_istore (i := 9) (L' := [_, _, _, _, _, _, _, _, _, _, _]) dX5_read_215 (Nat.le_of_ble_eq_true rfl) rfl rfl ?_
              exact rest 75 0 i j N _ _ _ g hj rfl hX2 hI.1 hI.2.1 (fun q hq => hI.2.2.1 q (by omega))
  have loopB : ∀ (m u j N : Nat) (g : Nat → Nat → Int32), j < 4 → N ≤ 13 → u + m = 75 → (∀ c q, c ≠ 76 → g c q = f c q) → (∀ q, q < u → g 76 q = f 65 q) → AW V MX5_read (d + 3) 0 0 26 [some (.ref 64), some (.int (nI j)), some (.int ln), some (.int F), some (.int (nI N)), some (.int (nI u)), none, none, none, none, none] [] (hp (g, τ)) (fun r' h' => ∃ (x : Int32) (S' : fm), r' = some (.int x) ∧ h' = hp S' ∧ rmQ τ f p (fl j) (T j) (K j) (S j) (rdO (fl j) (okP n p (T j) (K j) (S j)) N 0) x S') := by
    intro m
    induction m with
    | zero =>
      intro u j N g hj hN hm h1 h0
      have hc : u = 75 := by omega
      subst hc
      refine aw_iload dX5_read_26 rfl ?_
      refine aw_bipush (v := 75) dX5_read_28 (by decide) ?_
      refine aw_icmp_ge (tgt := 53) dX5_read_30 (by decide) (fun c30 => ?_) (fun c30 => ?_)
      · refine aw_iconst (v := 0) dX5_read_53 (by decide) ?_
        refine aw_istore (i := 5) (L' := [_, _, _, _, _, _, _, _, _, _, _]) dX5_read_54 (Nat.le_of_ble_eq_true rfl) rfl rfl ?_
        refine aw_iconst (v := 0) dX5_read_56 (by decide) ?_
        refine aw_istore (i := 6) (L' := [_, _, _, _, _, _, _, _, _, _, _]) dX5_read_57 (Nat.le_of_ble_eq_true rfl) rfl rfl ?_
        refine aw_iconst (v := 0) dX5_read_59 (by decide) ?_
        refine aw_istore (i := 7) (L' := [_, _, _, _, _, _, _, _, _, _, _]) dX5_read_60 (Nat.le_of_ble_eq_true rfl) rfl rfl ?_
        exact loop N 0 j N none none g hj hN (by omega) (by omega) ⟨fun c q a b => h1 c q b, h0, fun q _ => h1 65 q (by omega), fun u hu => absurd hu (by omega)⟩ ((h1 65 53 (by omega)).trans hp1) rfl
      · exact absurd (Int32.le_refl _) c30
    | succ m ih =>
      intro u j N g hj hN hm h1 h0
      refine aw_iload dX5_read_26 rfl ?_
      refine aw_bipush (v := 75) dX5_read_28 (by decide) ?_
      refine aw_tE (nI 75) rfl ?_
      refine aw_icmp_ge (tgt := 53) dX5_read_30 (by decide) (fun c30 => ?_) (fun c30 => ?_)
      · exact absurd ((nI_leI (a := 75) (b := u) (by omega) (by omega)).mp c30) (by omega)
      · refine aw_aload_n (i := 0) dX5_read_33 rfl rfl ?_
        refine ax_getr (ci := 5) 28 dX5_read_34 rfl lfX5_44 (by decide) (by assumption) (by rfl) ?_
        refine aw_iload dX5_read_37 rfl ?_
        refine aw_aload_n (i := 0) dX5_read_39 rfl rfl ?_
        refine ax_getr (ci := 5) 0 dX5_read_40 rfl lfX5_7 (by decide) (by assumption) (by rfl) ?_
        refine aw_iload dX5_read_43 rfl ?_
        refine ax_ialdN dX5_read_45 (by assumption) (by omega) (Nat.le_of_ble_eq_true rfl) ?_
        refine aw_tE (f 65 u) (h1 65 u (by omega)) ?_
        refine ax_iastN dX5_read_46 (by assumption) (by omega) (Nat.le_of_ble_eq_true rfl) ?_
        refine aw_incN (L' := [_, _, _, _, _, _, _, _, _, _, _]) dX5_read_47 rfl (Nat.le_of_ble_eq_true rfl) rfl rfl ?_
        refine aw_goto (tgt := 26) dX5_read_50 (by decide) ?_
        refine ih (u + 1) j N _ hj hN (by omega) (fun c q a => (up2_ne (by omega)).trans (h1 c q a)) (fun q hq => ?_)
        rcases (show q = u ∨ q ≠ u by omega) with rfl | q2
        · exact up2_self _ _ _ _
        · rw [up2_ne (by omega)]; exact h0 q (by omega)
  refine aw_iload_n (i := 1) dX5_read_0 rfl rfl ?_
  refine aw_iload_n (i := 2) dX5_read_1 rfl rfl ?_
  refine ax_callS2i (M' := MX5_isSheet) dX5_read_2 lmX5_311 oX5_isSheet (by decide +kernel) (Nat.le_of_ble_eq_true rfl) (f_X5_isSheet _ _) ?_
  refine aw_beq (tgt := 21) dX5_read_5 (by decide) (fun c5 => ?_) (fun c5 => ?_)
  · refine aw_iconst (v := -1) dX5_read_21 (by decide) ?_
    refine aw_ireturn (ty := .int) dX5_read_22 rfl rfl ?_
    first | exact ⟨_, _, rfl, rfl, Or.inr ⟨fun z => c5 ⟨z.1, z.2.1⟩, rfl, rfl⟩⟩ | exact ⟨_, _, rfl, rfl, Or.inr ⟨fun z => c18 z.2.2, rfl, rfl⟩⟩
  · refine aw_iload dX5_read_8 rfl ?_
    refine aw_i2l dX5_read_10 ?_
    refine aw_lconst (v := 0) dX5_read_11 (by decide) ?_
    refine aw_ldc2 dX5_read_12 lkX5_314 ?_
    refine ax_callS3i (M' := MX5_in) dX5_read_15 lmX5_63 oX5_in (by decide +kernel) (Nat.le_of_ble_eq_true rfl) (e_in _ 0 13) ?_
    refine aw_bne (tgt := 23) dX5_read_18 (by decide) (fun c18 => ?_) (fun c18 => ?_)
    · obtain ⟨j, hj0, rfl⟩ := rng_of (n := 3) (by omega) c5.1
      have hj : j < 4 := by omega
      obtain ⟨N, hN, rfl⟩ := rng_of (n := 13) (by omega) c18
      refine aw_iconst (v := 0) dX5_read_23 (by decide) ?_
      refine aw_istore (i := 5) (L' := [_, _, _, _, _, _, _, _, _, _, _]) dX5_read_24 (Nat.le_of_ble_eq_true rfl) rfl rfl ?_
      refine AW.weaken ?_ (loopB 75 0 j N f hj hN rfl (fun _ _ _ => rfl) (fun q hq => by omega))
      rintro r h' ⟨x, S', e1, e2, e3⟩
      exact ⟨x, S', e1, e2, Or.inl ⟨j, N, hj, hN, rfl, rfl, c5.2, e3⟩⟩
    · refine aw_iconst (v := -1) dX5_read_21 (by decide) ?_
      refine aw_ireturn (ty := .int) dX5_read_22 rfl rfl ?_
      first | exact ⟨_, _, rfl, rfl, Or.inr ⟨fun z => c5 ⟨z.1, z.2.1⟩, rfl, rfl⟩⟩ | exact ⟨_, _, rfl, rfl, Or.inr ⟨fun z => c18 z.2.2, rfl, rfl⟩⟩
