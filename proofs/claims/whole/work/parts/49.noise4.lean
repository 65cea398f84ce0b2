theorem k_say_0 (g : Nat → Int32) (v : Int32) : k_say g v 0 = g 0 := by
  unfold k_say
  split
  · rfl
  · split <;> rfl
theorem k_look_0 (g : Nat → Int32) (c : Int32) : k_look g c 0 = g 0 := by
  unfold k_look
  split
  · rfl
  · split
    · rw [k_say_0]; rfl
    · rw [k_say_0]
      unfold k_comp
      split
      · rfl
      · split <;> rfl
theorem tkK_0 {ev c t : Int32} {K : Nat → Nat → Int32} {k : Nat} : tkK ev c K t k 0 = K k 0 := by
  unfold tkK
  split
  · exact k_look_0 _ _
  · rfl
theorem avK_0 {pk pt ps : Nat → Int32} {n p : Nat} {ev t : Int32} {K : Nat → Nat → Int32} {k : Nat} : ∀ i, (avK pk pt ps n p ev K t i).1 k 0 = K k 0 := by
  intro i
  induction i with
  | zero => rfl
  | succ i ih => rw [avK]; exact tkK_0.trans ih
theorem cbK_0 {pk pt ps : Nat → Int32} {n p : Nat} {t : Int32} {K K' : Nat → Nat → Int32} (h : ∀ k, k < n → K k 0 = K' k 0) : cbK pk pt ps n p K t = cbK pk pt ps n p K' t := by
  unfold cbK
  exact orF_congr n (fun k hk => by rw [h k hk])
def nmC (c : Int32) (b : Nat) : Int32 := if b = 1 then 15 - c else c
def nmK (f : Nat → Nat → Int32) (n p m : Nat) : Nat → (Nat → Nat → Int32) × Int32
  | 0 => (K0 f, f 2 7)
  | i + 1 => (tkK (f 2 6) (nmC (qcK f n p i) (m / 2 ^ i % 2)) (nmK f n p m i).1 (nmK f n p m i).2, (nmK f n p m i).2 + 1)
theorem or_16 {c : Nat → Int32} {n : Nat} (hn4 : n ≤ 4) (h : ∀ i, i < n → ∃ q, q ≤ 1 ∧ c i = nI q) : ∃ q, q ≤ 15 ∧ orF c n = nI q := by
  have z : ∀ i, i < n → c i = 0 ∨ c i = 1 := by
    intro i hi
    obtain ⟨q, hq, e⟩ := h i hi
    rcases (show q = 0 ∨ q = 1 by omega) with rfl | rfl
    · exact Or.inl e
    · exact Or.inr e
  refine rng_of (n := 15) (by omega) ?_
  rcases (show n = 0 ∨ n = 1 ∨ n = 2 ∨ n = 3 ∨ n = 4 by omega) with rfl | rfl | rfl | rfl | rfl
  · exact ⟨show (0 : Int32) ≤ 0 by decide, show (0 : Int32) ≤ nI 15 by decide⟩
  · simp only [orF]
    rcases z 0 (by omega) with a | a <;> rw [a] <;> decide
  · simp only [orF]
    rcases z 0 (by omega) with a | a <;> rcases z 1 (by omega) with b | b <;> rw [a, b] <;> decide
  · simp only [orF]
    rcases z 0 (by omega) with a | a <;> rcases z 1 (by omega) with b | b <;> rcases z 2 (by omega) with c2 | c2 <;> rw [a, b, c2] <;> decide
  · simp only [orF]
    rcases z 0 (by omega) with a | a <;> rcases z 1 (by omega) with b | b <;> rcases z 2 (by omega) with c2 | c2 <;> rcases z 3 (by omega) with c3 | c3 <;> rw [a, b, c2, c3] <;> decide
theorem conF_01 {pk pt ps : Nat → Int32} {p : Nat} {b k t : Int32} (hp8 : p ≤ 8) (h : ∀ i, i < p → ∃ q, q ≤ 1 ∧ ps i = nI q) : ∃ q, q ≤ 1 ∧ conF pk pt ps p b k t = nI q := by
  unfold conF
  rcases latF_or pk pt k t p with e | ⟨j, hj, e⟩
  · rw [e, if_pos (by decide)]
    exact ⟨0, by omega, rfl⟩
  · rw [e, if_neg (nI_pos (by omega)), nI_clamp (by omega)]
    obtain ⟨q, hq, eq⟩ := h j hj
    split
    · rw [eq]
      exact ⟨1 - q, by omega, pk_sub (a := 1) hq⟩
    · exact ⟨q, hq, eq⟩
theorem qcK_16 {f : Nat → Nat → Int32} {n p i : Nat} (hn4 : n ≤ 4) (hp8 : p ≤ 8) (h : ∀ i, i < p → ∃ q, q ≤ 1 ∧ f 10 i = nI q) : ∃ q, q ≤ 15 ∧ qcK f n p i = nI q := or_16 hn4 (fun k _ => conF_01 hp8 h)
set_option maxRecDepth 100000 in
theorem bit_not : ∀ q, q < 16 → ∀ k, k < 4 → ((15 - nI q) >>> (nI k &&& 31)) &&& 1 = ((nI q ^^^ (-1)) >>> (nI k &&& 31)) &&& 1 := by decide +kernel
theorem nmK_eq {f : Nat → Nat → Int32} {n p m : Nat} (hn4 : n ≤ 4) (hp8 : p ≤ 8) (h : ∀ i, i < p → ∃ q, q ≤ 1 ∧ f 10 i = nI q) : ∀ i, (nmK f n p m i).2 = (nzK f n p m i).2 ∧ ∀ k, k < 4 → (nmK f n p m i).1 k = (nzK f n p m i).1 k := by
  intro i
  induction i with
  | zero => exact ⟨rfl, fun _ _ => rfl⟩
  | succ i ih =>
    refine ⟨by rw [nmK, nzK, ih.1], fun k hk => ?_⟩
    rw [nmK, nzK]
    show tkK _ _ _ _ k = tkK _ _ _ _ k
    unfold tkK
    rw [ih.1, ih.2 k hk]
    obtain ⟨q, hq, e⟩ := qcK_16 (i := i) hn4 hp8 h
    have eb : ((nmC (qcK f n p i) (m / 2 ^ i % 2)) >>> (nI k &&& 31)) &&& 1 = ((nzC (qcK f n p i) (m / 2 ^ i % 2)) >>> (nI k &&& 31)) &&& 1 := by
      unfold nmC nzC
      rw [e]
      split
      · exact bit_not q (by omega) k hk
      · rfl
    rw [eb]
theorem nmK_t {f : Nat → Nat → Int32} {n p m T : Nat} (h : f 2 7 = nI T) : ∀ i, (nmK f n p m i).2 = nI (T + i) := by
  intro i
  induction i with
  | zero => exact h
  | succ i ih => rw [nmK, ih, nI_1]; rfl
theorem nmK_0 {f : Nat → Nat → Int32} {n p m k : Nat} : ∀ i, (nmK f n p m i).1 k 0 = K0 f k 0 := by
  intro i
  induction i with
  | zero => rfl
  | succ i ih => rw [nmK]; exact tkK_0.trans ih
theorem qcK_m {f : Nat → Nat → Int32} {n p m T : Nat} (h : f 2 7 = nI T) (i : Nat) : cbK (f 9) (f 8) (f 10) n p (nmK f n p m i).1 (nI (T + i)) = qcK f n p i := by
  unfold qcK
  show _ = cbK (f 9) (f 8) (f 10) n p (avK (f 9) (f 8) (f 10) n p (f 2 6) (K0 f) (f 2 7) i).1 (avK (f 9) (f 8) (f 10) n p (f 2 6) (K0 f) (f 2 7) i).2
  rw [h, avK_t]
  exact cbK_0 (fun k _ => (nmK_0 i).trans (avK_0 i).symm)
def foQ (f : Nat → Nat → Int32) (n p v N : Nat) (k : Int32) : fm → Prop := fun S' => eqM S'.1 f ∧ (∀ j, j < n → k = nI j → S'.2 64 19 = lN (lkN f n p v N j (2 ^ N))) ∧ S'.2 64 20 = lN (meN f n p v N (2 ^ N)) ∧ S'.2 64 21 = lN (10 ^ N)
set_option maxRecDepth 100000 in
set_option maxHeartbeats 1000000 in
theorem n_findOdds {V : am_V} {d : Nat} {f : Nat → Nat → Int32} {τ : Nat → Nat → Int64} {n p s e T : Nat} (hB : BR f 2 0 n p s e T) {v N : Nat} (hv : v ≤ 10) (hN : N ≤ 8) (k : Int32) (hk : k = -4 ∨ ∃ j, j < n ∧ k = nI j) : AGv V MX5_findOdds (d + 5) [.ref 64, .int (nI v), .int k, .int (nI N)] (f, τ) (foQ f n p v N k) := by
  have hn4 : n ≤ 4 := hB.1.1
  have hp8 : p ≤ 8 := hB.1.2.1
  have he : 1 ≤ e ∧ e ≤ 4 := ⟨hB.1.2.2.2.1, hB.1.2.2.2.2.1⟩
  have hT9 : T ≤ 999 := hB.1.2.2.2.2.2
  have ev6 : f 2 6 = nI e := hB.2.1.2.2.2.1
  have ev7 : f 2 7 = nI T := hB.2.1.2.2.2.2
  have hG : eqM f f := eqM.rf
  have hps : ∀ i, i < p → ∃ q, q ≤ 1 ∧ f 10 i = nI q := fun i hi => (hB.2.2.2.2.1 i hi).2.2.1
  have h2N := p2_8 hN
  have tM := tb_M
  have m65 := tb_65
  have m66 := tb_66
  have m67 := tb_67
  have m68 := tb_68
  have m69 := tb_69
  have m70 := tb_70
  have m71 := tb_71
  have m72 := tb_72
  have m73 := tb_73
  have m74 := tb_74
  have m75 := tb_75
  have m76 := tb_76
  refine AM.of (L := [some (.ref 64), some (.int (nI v)), some (.int k), some (.int (nI N)), none, none, none, none, none]) (by decide +kernel) (Nat.le_of_ble_eq_true rfl) rfl ?_
  have outer : ∀ (u m : Nat) (z5 z7 z8 : Option Value) (g : Nat → Nat → Int32) (σ : Nat → Nat → Int64), m + u = 2 ^ N → eqM g f → (∀ j, j < n → k = nI j → σ 64 19 = lN (lkN f n p v N j m)) → σ 64 20 = lN (meN f n p v N m) → σ 64 21 = lN (10 ^ N) → AW V MX5_findOdds (d + 5) 0 0 45 [some (.ref 64), some (.int (nI v)), some (.int k), some (.int (nI N)), some (.int (nI m)), z5, none, z7, z8] [] (hp (g, σ)) (fun r' h' => ∃ S' : fm, r' = none ∧ h' = hp S' ∧ foQ f n p v N k S') := by
    intro u
    induction u with
    | zero =>
      intro m z5 z7 z8 g σ hu hG7 s1 s2 s3
      have hi : m = 2 ^ N := by omega
      subst hi
      refine aw_iload dX5_findOdds_45 rfl ?_
      refine aw_iconst (v := 1) dX5_findOdds_47 (by decide) ?_
      refine aw_iload_n (i := 3) dX5_findOdds_48 rfl rfl ?_
      refine aw_ishl dX5_findOdds_49 ?_
      refine aw_tE (nI (2 ^ N)) (shl_1 hN) ?_
      refine aw_icmp_ge (tgt := 190) dX5_findOdds_50 (by decide) (fun c50 => ?_) (fun c50 => ?_)
      · refine aw_return dX5_findOdds_190 rfl ?_
        exact ⟨_, rfl, rfl, hG7, s1, s2, s3⟩
      · exact absurd (Int32.le_refl _) c50
    | succ u ih =>
      intro m z5 z7 z8 g σ hu hG7 s1 s2 s3
      have hm : m < 2 ^ N := by omega
      have hm10 : m < 2 ^ 10 := by omega
      have inner : ∀ (q i : Nat) (z8 : Option Value) (g : Nat → Nat → Int32), i + q = N → MR f n p (f 9) (f 8) (f 10) e (nmK f n p m i).1 (T + i) g → AW V MX5_findOdds (d + 5) 0 0 63 [some (.ref 64), some (.int (nI v)), some (.int k), some (.int (nI N)), some (.int (nI m)), some (.long (lN (wN v m i))), none, some (.int (nI i)), z8] [] (hp (g, σ)) (fun r' h' => ∃ S' : fm, r' = none ∧ h' = hp S' ∧ foQ f n p v N k S') := by
        intro q
        induction q with
        | zero =>
          intro i z8 g hq hT
          have hi : i = N := by omega
          subst hi
          obtain ⟨hst, est⟩ := stN_b (f := f) (n := n) (p := p) (m := m) hn4 hN
          have eN := nmK_eq (m := m) hn4 hp8 hps i
          have eS : sumF (fun k => (nmK f n p m i).1 k 7) n = nI (stN f n p i m) := by rw [← est]; exact sumF_congr n (fun k hk => by rw [eN.2 k (by omega)])
          have e165 := hT.1
          refine aw_iload dX5_findOdds_63 rfl ?_
          refine aw_iload_n (i := 3) dX5_findOdds_65 rfl rfl ?_
          refine aw_icmp_ge (tgt := 136) dX5_findOdds_66 (by decide) (fun c66 => ?_) (fun c66 => ?_)
          · refine aw_aload_n (i := 0) dX5_findOdds_136 rfl rfl ?_
            refine aw_dup dX5_findOdds_137 rfl ?_
            refine ax_getl (ci := 5) 19 dX5_findOdds_138 rfl lfX5_275 (by decide) (by assumption) (by rfl) ?_
            refine aw_iload_n (i := 2) dX5_findOdds_141 rfl rfl ?_
            refine aw_bipush (v := -4) dX5_findOdds_142 (by decide) ?_
            refine aw_icmp_eq (tgt := 162) dX5_findOdds_144 (by decide) (fun c144 => ?_) (fun c144 => ?_)
            · refine aw_lconst (v := 0) dX5_findOdds_162 (by decide) ?_
              refine aw_ladd dX5_findOdds_163 ?_
              refine ax_putl (ci := 5) 19 dX5_findOdds_164 rfl lfX5_275 (by decide) (by assumption) (by rfl) rfl rfl ?_
              refine aw_aload_n (i := 0) dX5_findOdds_167 rfl rfl ?_
              refine aw_dup dX5_findOdds_168 rfl ?_
              refine ax_getl (ci := 5) 20 dX5_findOdds_169 rfl lfX5_279 (by decide) (by assumption) (by rfl) ?_
              refine aw_lload dX5_findOdds_172 rfl ?_
              refine aw_aload_n (i := 0) dX5_findOdds_174 rfl rfl ?_
              refine ax_callV0i (M' := MX5_struckByAll) (ci := 5) dX5_findOdds_175 lmX5_226 oX5_struckByAll (by decide +kernel) (by assumption) rfl rfl (Nat.le_of_ble_eq_true rfl) (n_struckByAll hn4 hT) ?_
              refine aw_tE _ eS ?_
              refine aw_i2l dX5_findOdds_178 ?_
              refine aw_lmul dX5_findOdds_179 ?_
              refine aw_ladd dX5_findOdds_180 ?_
              refine aw_tEl (lN (meN f n p v i (m + 1))) (by rw [up2_ne (by omega), s2, nI_l (by omega), lN_mul, lN_add, meN]) ?_
              refine ax_putl (ci := 5) 20 dX5_findOdds_181 rfl lfX5_279 (by decide) (by assumption) (by rfl) rfl rfl ?_
              refine aw_incN (L' := [_, _, _, _, _, _, _, _, _]) dX5_findOdds_184 rfl (Nat.le_of_ble_eq_true rfl) rfl rfl ?_
              refine aw_goto (tgt := 45) dX5_findOdds_187 (by decide) ?_
              refine ih (m + 1) _ _ _ _ _ (by omega) hT.1 (fun j2 hj2 hkj => ?_) ?_ ?_
              · exact absurd (hkj.symm.trans c144) (nI_ne4 (by omega))
              · rw [up2_self]
              · rw [up2_ne (by omega), up2_ne (by omega)]
                exact s3
            · obtain ⟨j, hj, rfl⟩ := hk.resolve_left c144
              refine aw_aload_n (i := 0) dX5_findOdds_147 rfl rfl ?_
              refine aw_iload_n (i := 2) dX5_findOdds_148 rfl rfl ?_
              refine aw_iconst (v := 3) dX5_findOdds_149 (by decide) ?_
              refine ax_callV2i (M' := MX5_of) (ci := 5) dX5_findOdds_150 lmX5_145 oX5_of (by decide +kernel) (by assumption) rfl rfl (Nat.le_of_ble_eq_true rfl) (n_of hn4 hT (k := j) hj (by decide)) ?_
              refine aw_tE ((nzK f n p m i).1 j 3) (by rw [eN.2 j (by omega)]) ?_
              refine aw_iconst (v := 1) dX5_findOdds_153 (by decide) ?_
              refine aw_icmp_ne (tgt := 162) dX5_findOdds_154 (by decide) (fun c154 => ?_) (fun c154 => ?_)
              · refine aw_lconst (v := 0) dX5_findOdds_162 (by decide) ?_
                refine aw_ladd dX5_findOdds_163 ?_
                refine ax_putl (ci := 5) 19 dX5_findOdds_164 rfl lfX5_275 (by decide) (by assumption) (by rfl) rfl rfl ?_
                refine aw_aload_n (i := 0) dX5_findOdds_167 rfl rfl ?_
                refine aw_dup dX5_findOdds_168 rfl ?_
                refine ax_getl (ci := 5) 20 dX5_findOdds_169 rfl lfX5_279 (by decide) (by assumption) (by rfl) ?_
                refine aw_lload dX5_findOdds_172 rfl ?_
                refine aw_aload_n (i := 0) dX5_findOdds_174 rfl rfl ?_
                refine ax_callV0i (M' := MX5_struckByAll) (ci := 5) dX5_findOdds_175 lmX5_226 oX5_struckByAll (by decide +kernel) (by assumption) rfl rfl (Nat.le_of_ble_eq_true rfl) (n_struckByAll hn4 hT) ?_
                refine aw_tE _ eS ?_
                refine aw_i2l dX5_findOdds_178 ?_
                refine aw_lmul dX5_findOdds_179 ?_
                refine aw_ladd dX5_findOdds_180 ?_
                refine aw_tEl (lN (meN f n p v i (m + 1))) (by rw [up2_ne (by omega), s2, nI_l (by omega), lN_mul, lN_add, meN]) ?_
                refine ax_putl (ci := 5) 20 dX5_findOdds_181 rfl lfX5_279 (by decide) (by assumption) (by rfl) rfl rfl ?_
                refine aw_incN (L' := [_, _, _, _, _, _, _, _, _]) dX5_findOdds_184 rfl (Nat.le_of_ble_eq_true rfl) rfl rfl ?_
                refine aw_goto (tgt := 45) dX5_findOdds_187 (by decide) ?_
                refine ih (m + 1) _ _ _ _ _ (by omega) hT.1 (fun j2 hj2 hkj => ?_) ?_ ?_
                · have ej : j2 = j := ((nI_eq (a := j) (b := j2) (by omega) (by omega)).mp hkj).symm
                  subst ej
                  rw [up2_ne (by omega), up2_self, s1 _ hj rfl, lkN]
                  first | rw [if_pos c154, lN_add] | (rw [if_neg c154]; exact Int64.add_zero _)
                · rw [up2_self]
                · rw [up2_ne (by omega), up2_ne (by omega)]
                  exact s3
              · refine aw_lload dX5_findOdds_157 rfl ?_
                refine aw_goto (tgt := 163) dX5_findOdds_159 (by decide) ?_
                refine aw_ladd dX5_findOdds_163 ?_
                refine ax_putl (ci := 5) 19 dX5_findOdds_164 rfl lfX5_275 (by decide) (by assumption) (by rfl) rfl rfl ?_
                refine aw_aload_n (i := 0) dX5_findOdds_167 rfl rfl ?_
                refine aw_dup dX5_findOdds_168 rfl ?_
                refine ax_getl (ci := 5) 20 dX5_findOdds_169 rfl lfX5_279 (by decide) (by assumption) (by rfl) ?_
                refine aw_lload dX5_findOdds_172 rfl ?_
                refine aw_aload_n (i := 0) dX5_findOdds_174 rfl rfl ?_
                refine ax_callV0i (M' := MX5_struckByAll) (ci := 5) dX5_findOdds_175 lmX5_226 oX5_struckByAll (by decide +kernel) (by assumption) rfl rfl (Nat.le_of_ble_eq_true rfl) (n_struckByAll hn4 hT) ?_
                refine aw_tE _ eS ?_
                refine aw_i2l dX5_findOdds_178 ?_
                refine aw_lmul dX5_findOdds_179 ?_
                refine aw_ladd dX5_findOdds_180 ?_
                refine aw_tEl (lN (meN f n p v i (m + 1))) (by rw [up2_ne (by omega), s2, nI_l (by omega), lN_mul, lN_add, meN]) ?_
                refine ax_putl (ci := 5) 20 dX5_findOdds_181 rfl lfX5_279 (by decide) (by assumption) (by rfl) rfl rfl ?_
                refine aw_incN (L' := [_, _, _, _, _, _, _, _, _]) dX5_findOdds_184 rfl (Nat.le_of_ble_eq_true rfl) rfl rfl ?_
                refine aw_goto (tgt := 45) dX5_findOdds_187 (by decide) ?_
                refine ih (m + 1) _ _ _ _ _ (by omega) hT.1 (fun j2 hj2 hkj => ?_) ?_ ?_
                · have ej : j2 = j := ((nI_eq (a := j) (b := j2) (by omega) (by omega)).mp hkj).symm
                  subst ej
                  rw [up2_ne (by omega), up2_self, s1 _ hj rfl, lkN]
                  first | rw [if_pos c154, lN_add] | (rw [if_neg c154]; exact Int64.add_zero _)
                · rw [up2_self]
                · rw [up2_ne (by omega), up2_ne (by omega)]
                  exact s3
          · exact absurd (Int32.le_refl _) c66
        | succ q ihq =>
          intro i z8 g hq hT
          have hqc := qcK_m (n := n) (p := p) (m := m) ev7 i
          refine aw_iload dX5_findOdds_63 rfl ?_
          refine aw_iload_n (i := 3) dX5_findOdds_65 rfl rfl ?_
          refine aw_icmp_ge (tgt := 136) dX5_findOdds_66 (by decide) (fun c66 => ?_) (fun c66 => ?_)
          · exact absurd ((nI_leI (a := N) (b := i) (by omega) (by omega)).mp c66) (by omega)
          · refine aw_iload dX5_findOdds_69 rfl ?_
            refine aw_iload dX5_findOdds_71 rfl ?_
            refine aw_ishr dX5_findOdds_73 ?_
            refine aw_iconst (v := 1) dX5_findOdds_74 (by decide) ?_
            refine aw_iand dX5_findOdds_75 ?_
            refine aw_tE (nI (m / 2 ^ i % 2)) (bit_tst hm10 (by omega)) ?_
            refine aw_iconst (v := 1) dX5_findOdds_76 (by decide) ?_
            refine aw_icmp_ne (tgt := 84) dX5_findOdds_77 (by decide) (fun c77 => ?_) (fun c77 => ?_)
            · have hb : ¬ m / 2 ^ i % 2 = 1 := fun z => c77 (by rw [z]; rfl)
              refine aw_iconst (v := 0) dX5_findOdds_84 (by decide) ?_
              refine aw_istore (i := 8) (L' := [_, _, _, _, _, _, _, _, _]) dX5_findOdds_85 (Nat.le_of_ble_eq_true rfl) rfl rfl ?_
              refine aw_lload dX5_findOdds_87 rfl ?_
              refine aw_iload dX5_findOdds_89 rfl ?_
              refine aw_if_eq (tgt := 99) dX5_findOdds_91 (by decide) (fun _ => ?_) (fun z => absurd (by decide) z)
              refine aw_bipush (v := 10) dX5_findOdds_99 (by decide) ?_
              refine aw_iload_n (i := 1) dX5_findOdds_101 rfl rfl ?_
              refine aw_isub dX5_findOdds_102 ?_
              refine aw_i2l dX5_findOdds_103 ?_
              refine aw_lmul dX5_findOdds_104 ?_
              first | refine aw_tEl (lN (wN v m (i + 1))) (by rw [nI_l (by omega), lN_mul, wN, if_pos hb]) ?_ | refine aw_tEl (lN (wN v m (i + 1))) (by rw [show (10 : Int32) = nI 10 from rfl, pk_sub (by omega), nI_l (by omega), lN_mul, wN, if_neg hb]) ?_
              refine aw_lstore (i := 5) (L' := [_, _, _, _, _, _, _, _, _]) dX5_findOdds_105 (Nat.le_of_ble_eq_true rfl) rfl rfl ?_
              refine aw_aload_n (i := 0) dX5_findOdds_107 rfl rfl ?_
              refine aw_iload dX5_findOdds_108 rfl ?_
              refine aw_if_eq (tgt := 123) dX5_findOdds_110 (by decide) (fun _ => ?_) (fun z => absurd (by decide) z)
              refine aw_aload_n (i := 0) dX5_findOdds_123 rfl rfl ?_
              refine ax_callV0i (M' := MX5_contactsNow) (ci := 5) dX5_findOdds_124 lmX5_177 oX5_contactsNow (by decide +kernel) (by assumption) rfl rfl (Nat.le_of_ble_eq_true rfl) (n_contactsNow hn4 (by omega) hT) ?_
              try refine aw_tE (qcK f n p i) hqc ?_
              refine ax_gV1v (M' := MX5_tickGoesBy) (ci := 5) dX5_findOdds_127 lmX5_180 oX5_tickGoesBy (by decide +kernel) (by assumption) rfl rfl (Nat.le_of_ble_eq_true rfl) (n_tickGoesBy hn4 he hT _) (fun S_ h_ => ?_)
              obtain ⟨f127, rfl, T127⟩ := h_
              refine aw_incN (L' := [_, _, _, _, _, _, _, _, _]) dX5_findOdds_130 rfl (Nat.le_of_ble_eq_true rfl) rfl rfl ?_
              refine aw_goto (tgt := 63) dX5_findOdds_133 (by decide) ?_
              refine ihq (i + 1) _ f127 (by omega) ?_
              rw [nmK, nmK_t ev7, ev6]
              first | (rw [show nmC (qcK f n p i) (m / 2 ^ i % 2) = 15 - qcK f n p i from if_pos hb]; exact T127) | (rw [show nmC (qcK f n p i) (m / 2 ^ i % 2) = qcK f n p i from if_neg hb]; exact T127)
            · have hb : m / 2 ^ i % 2 = 1 := (nI_eq (a := m / 2 ^ i % 2) (b := 1) (by omega) (by omega)).mp c77
              refine aw_iconst (v := 1) dX5_findOdds_80 (by decide) ?_
              refine aw_goto (tgt := 85) dX5_findOdds_81 (by decide) ?_
              refine aw_istore (i := 8) (L' := [_, _, _, _, _, _, _, _, _]) dX5_findOdds_85 (Nat.le_of_ble_eq_true rfl) rfl rfl ?_
              refine aw_lload dX5_findOdds_87 rfl ?_
              refine aw_iload dX5_findOdds_89 rfl ?_
              refine aw_if_eq (tgt := 99) dX5_findOdds_91 (by decide) (fun z => absurd z (by decide)) (fun _ => ?_)
              refine aw_iload_n (i := 1) dX5_findOdds_94 rfl rfl ?_
              refine aw_i2l dX5_findOdds_95 ?_
              refine aw_goto (tgt := 104) dX5_findOdds_96 (by decide) ?_
              refine aw_lmul dX5_findOdds_104 ?_
              first | refine aw_tEl (lN (wN v m (i + 1))) (by rw [nI_l (by omega), lN_mul, wN, if_pos hb]) ?_ | refine aw_tEl (lN (wN v m (i + 1))) (by rw [show (10 : Int32) = nI 10 from rfl, pk_sub (by omega), nI_l (by omega), lN_mul, wN, if_neg hb]) ?_
              refine aw_lstore (i := 5) (L' := [_, _, _, _, _, _, _, _, _]) dX5_findOdds_105 (Nat.le_of_ble_eq_true rfl) rfl rfl ?_
              refine aw_aload_n (i := 0) dX5_findOdds_107 rfl rfl ?_
              refine aw_iload dX5_findOdds_108 rfl ?_
              refine aw_if_eq (tgt := 123) dX5_findOdds_110 (by decide) (fun z => absurd z (by decide)) (fun _ => ?_)
              refine aw_bipush (v := 15) dX5_findOdds_113 (by decide) ?_
              refine aw_aload_n (i := 0) dX5_findOdds_115 rfl rfl ?_
              refine ax_callV0i (M' := MX5_contactsNow) (ci := 5) dX5_findOdds_116 lmX5_177 oX5_contactsNow (by decide +kernel) (by assumption) rfl rfl (Nat.le_of_ble_eq_true rfl) (n_contactsNow hn4 (by omega) hT) ?_
              refine aw_tE (qcK f n p i) hqc ?_
              refine aw_isub dX5_findOdds_119 ?_
              skip
              refine aw_goto (tgt := 127) dX5_findOdds_120 (by decide) ?_
              try refine aw_tE (qcK f n p i) hqc ?_
              refine ax_gV1v (M' := MX5_tickGoesBy) (ci := 5) dX5_findOdds_127 lmX5_180 oX5_tickGoesBy (by decide +kernel) (by assumption) rfl rfl (Nat.le_of_ble_eq_true rfl) (n_tickGoesBy hn4 he hT _) (fun S_ h_ => ?_)
              obtain ⟨f127, rfl, T127⟩ := h_
              refine aw_incN (L' := [_, _, _, _, _, _, _, _, _]) dX5_findOdds_130 rfl (Nat.le_of_ble_eq_true rfl) rfl rfl ?_
              refine aw_goto (tgt := 63) dX5_findOdds_133 (by decide) ?_
              refine ihq (i + 1) _ f127 (by omega) ?_
              rw [nmK, nmK_t ev7, ev6]
              first | (rw [show nmC (qcK f n p i) (m / 2 ^ i % 2) = 15 - qcK f n p i from if_pos hb]; exact T127) | (rw [show nmC (qcK f n p i) (m / 2 ^ i % 2) = qcK f n p i from if_neg hb]; exact T127)
      refine aw_iload dX5_findOdds_45 rfl ?_
      refine aw_iconst (v := 1) dX5_findOdds_47 (by decide) ?_
      refine aw_iload_n (i := 3) dX5_findOdds_48 rfl rfl ?_
      refine aw_ishl dX5_findOdds_49 ?_
      refine aw_tE (nI (2 ^ N)) (shl_1 hN) ?_
      refine aw_icmp_ge (tgt := 190) dX5_findOdds_50 (by decide) (fun c50 => ?_) (fun c50 => ?_)
      · exact absurd ((nI_leI (a := 2 ^ N) (b := m) (by omega) (by omega)).mp c50) (by omega)
      · refine aw_lconst (v := 1) dX5_findOdds_53 (by decide) ?_
        refine aw_lstore (i := 5) (L' := [_, _, _, _, _, _, _, _, _]) dX5_findOdds_54 (Nat.le_of_ble_eq_true rfl) rfl rfl ?_
        refine aw_aload_n (i := 0) dX5_findOdds_56 rfl rfl ?_
        refine ax_gV0v (M' := MX5_starts) (ci := 5) dX5_findOdds_57 lmX5_183 oX5_starts (by decide +kernel) (by assumption) rfl rfl (Nat.le_of_ble_eq_true rfl) (n_starts hB hG7) (fun S_ h_ => ?_)
        obtain ⟨f57, rfl, T57, Q57⟩ := h_
        refine aw_iconst (v := 0) dX5_findOdds_60 (by decide) ?_
        refine aw_istore (i := 7) (L' := [_, _, _, _, _, _, _, _, _]) dX5_findOdds_61 (Nat.le_of_ble_eq_true rfl) rfl rfl ?_
        exact inner N 0 _ f57 (by omega) T57
  have ten : ∀ (u i : Nat) (σ : Nat → Nat → Int64), i + u = N → σ 64 19 = 0 → σ 64 20 = 0 → σ 64 21 = lN (10 ^ i) → AW V MX5_findOdds (d + 5) 0 0 18 [some (.ref 64), some (.int (nI v)), some (.int k), some (.int (nI N)), some (.int (nI i)), none, none, none, none] [] (hp (f, σ)) (fun r' h' => ∃ S' : fm, r' = none ∧ h' = hp S' ∧ foQ f n p v N k S') := by
    intro u
    induction u with
    | zero =>
      intro i σ hu s1 s2 s3
      have hi : i = N := by omega
      subst hi
      refine aw_iload dX5_findOdds_18 rfl ?_
      refine aw_iload_n (i := 3) dX5_findOdds_20 rfl rfl ?_
      refine aw_icmp_ge (tgt := 42) dX5_findOdds_21 (by decide) (fun c21 => ?_) (fun c21 => ?_)
      · refine aw_iconst (v := 0) dX5_findOdds_42 (by decide) ?_
        refine aw_istore (i := 4) (L' := [_, _, _, _, _, _, _, _, _]) dX5_findOdds_43 (Nat.le_of_ble_eq_true rfl) rfl rfl ?_
        exact outer (2 ^ i) 0 none none none f σ (by omega) hG (fun _ _ _ => s1) s2 s3
      · exact absurd (Int32.le_refl _) c21
    | succ u ih =>
      intro i σ hu s1 s2 s3
      refine aw_iload dX5_findOdds_18 rfl ?_
      refine aw_iload_n (i := 3) dX5_findOdds_20 rfl rfl ?_
      refine aw_icmp_ge (tgt := 42) dX5_findOdds_21 (by decide) (fun c21 => ?_) (fun c21 => ?_)
      · exact absurd ((nI_leI (a := N) (b := i) (by omega) (by omega)).mp c21) (by omega)
      · refine aw_aload_n (i := 0) dX5_findOdds_24 rfl rfl ?_
        refine aw_dup dX5_findOdds_25 rfl ?_
        refine ax_getl (ci := 5) 21 dX5_findOdds_26 rfl lfX5_282 (by decide) (by assumption) (by rfl) ?_
        refine aw_ldc2 dX5_findOdds_29 lkX5_285 ?_
        refine aw_lmul dX5_findOdds_32 ?_
        refine aw_tEl (lN (10 ^ (i + 1))) (by rw [s3, show (10 : Int64) = lN 10 from rfl, lN_mul, Nat.pow_succ]) ?_
        refine ax_putl (ci := 5) 21 dX5_findOdds_33 rfl lfX5_282 (by decide) (by assumption) (by rfl) rfl rfl ?_
        refine aw_incN (L' := [_, _, _, _, _, _, _, _, _]) dX5_findOdds_36 rfl (Nat.le_of_ble_eq_true rfl) rfl rfl ?_
        refine aw_goto (tgt := 18) dX5_findOdds_39 (by decide) ?_
        exact ih (i + 1) _ (by omega) (by rw [up2_ne (by omega)]; exact s1) (by rw [up2_ne (by omega)]; exact s2) (up2_self _ _ _ _)
  refine aw_aload_n (i := 0) dX5_findOdds_0 rfl rfl ?_
  refine aw_lconst (v := 0) dX5_findOdds_1 (by decide) ?_
  refine ax_putl (ci := 5) 19 dX5_findOdds_2 rfl lfX5_275 (by decide) (by assumption) (by rfl) rfl rfl ?_
  refine aw_aload_n (i := 0) dX5_findOdds_5 rfl rfl ?_
  refine aw_lconst (v := 0) dX5_findOdds_6 (by decide) ?_
  refine ax_putl (ci := 5) 20 dX5_findOdds_7 rfl lfX5_279 (by decide) (by assumption) (by rfl) rfl rfl ?_
  refine aw_aload_n (i := 0) dX5_findOdds_10 rfl rfl ?_
  refine aw_lconst (v := 1) dX5_findOdds_11 (by decide) ?_
  refine ax_putl (ci := 5) 21 dX5_findOdds_12 rfl lfX5_282 (by decide) (by assumption) (by rfl) rfl rfl ?_
  refine aw_iconst (v := 0) dX5_findOdds_15 (by decide) ?_
  refine aw_istore (i := 4) (L' := [_, _, _, _, _, _, _, _, _]) dX5_findOdds_16 (Nat.le_of_ble_eq_true rfl) rfl rfl ?_
  exact ten N 0 _ (by omega) (by rw [up2_ne (by omega), up2_ne (by omega), up2_self]) (by rw [up2_ne (by omega), up2_self]) (up2_self _ _ _ _)
def GMl (f : Nat → Nat → Int32) (v : Int64) : Int64 → fm → Prop := fun x S' => x = v ∧ eqM S'.1 f
set_option maxRecDepth 100000 in
set_option maxHeartbeats 1000000 in
theorem n_luck {V : am_V} {d : Nat} {f : Nat → Nat → Int32} {τ : Nat → Nat → Int64} {n p s e T : Nat} (hB : BR f 2 0 n p s e T) (v k x what : Int32) : AGl V MX5_luck (d + 6) [.ref 64, .int v, .int k, .int x, .int what] (f, τ) (GMl f (r_luck f n p v k x what)) := by
  have hn4 : n ≤ 4 := hB.1.1
  have hp8 : p ≤ 8 := hB.1.2.1
  have he : 1 ≤ e ∧ e ≤ 4 := ⟨hB.1.2.2.2.1, hB.1.2.2.2.2.1⟩
  have hT9 : T ≤ 999 := hB.1.2.2.2.2.2
  have ev6 : f 2 6 = nI e := hB.2.1.2.2.2.1
  have ev7 : f 2 7 = nI T := hB.2.1.2.2.2.2
  have hG : eqM f f := eqM.rf
  have tM := tb_M
  have m65 := tb_65
  have m66 := tb_66
  have m67 := tb_67
  have m68 := tb_68
  have m69 := tb_69
  have m70 := tb_70
  have m71 := tb_71
  have m72 := tb_72
  have m73 := tb_73
  have m74 := tb_74
  have m75 := tb_75
  have m76 := tb_76
  refine AM.of (L := [some (.ref 64), some (.int v), some (.int k), some (.int x), some (.int what)]) (by decide +kernel) (Nat.le_of_ble_eq_true rfl) rfl ?_
  refine aw_iload_n (i := 1) dX5_luck_0 rfl rfl ?_
  refine aw_i2l dX5_luck_1 ?_
  refine aw_lconst (v := 0) dX5_luck_2 (by decide) ?_
  refine aw_ldc2 dX5_luck_3 lkX5_285 ?_
  refine ax_callS3i (M' := MX5_in) dX5_luck_6 lmX5_63 oX5_in (by decide +kernel) (Nat.le_of_ble_eq_true rfl) (e_in _ 0 10) ?_
  refine aw_beq (tgt := 40) dX5_luck_9 (by decide) (fun c9 => ?_) (fun c9 => ?_)
  · refine aw_ldc2 dX5_luck_40 lkX5_289 ?_
    refine aw_lreturn dX5_luck_43 rfl ?_
    first | exact ⟨_, _, rfl, rfl, (if_neg (fun z => c9 z.2.1)).symm, hG⟩ | exact ⟨_, _, rfl, rfl, (if_neg (fun z => c17 z.1)).symm, hG⟩ | exact ⟨_, _, rfl, rfl, (if_neg (fun z => c29 z.2.2.1)).symm, hG⟩ | exact ⟨_, _, rfl, rfl, (if_neg (fun z => c37 z.2.2.2)).symm, hG⟩
  · refine aw_aload_n (i := 0) dX5_luck_12 rfl rfl ?_
    refine aw_iload_n (i := 2) dX5_luck_13 rfl rfl ?_
    refine ax_callV1i (M' := MX5_isKey) (ci := 5) dX5_luck_14 lmX5_192 oX5_isKey (by decide +kernel) (by assumption) rfl rfl (Nat.le_of_ble_eq_true rfl) (n_isKey hB _) ?_
    refine aw_beq (tgt := 40) dX5_luck_17 (by decide) (fun c17 => ?_) (fun c17 => ?_)
    · refine aw_ldc2 dX5_luck_40 lkX5_289 ?_
      refine aw_lreturn dX5_luck_43 rfl ?_
      first | exact ⟨_, _, rfl, rfl, (if_neg (fun z => c9 z.2.1)).symm, hG⟩ | exact ⟨_, _, rfl, rfl, (if_neg (fun z => c17 z.1)).symm, hG⟩ | exact ⟨_, _, rfl, rfl, (if_neg (fun z => c29 z.2.2.1)).symm, hG⟩ | exact ⟨_, _, rfl, rfl, (if_neg (fun z => c37 z.2.2.2)).symm, hG⟩
    · refine aw_iload_n (i := 3) dX5_luck_20 rfl rfl ?_
      refine aw_i2l dX5_luck_21 ?_
      refine aw_lconst (v := 0) dX5_luck_22 (by decide) ?_
      refine aw_ldc2 dX5_luck_23 lkX5_287 ?_
      refine ax_callS3i (M' := MX5_in) dX5_luck_26 lmX5_63 oX5_in (by decide +kernel) (Nat.le_of_ble_eq_true rfl) (e_in _ 0 8) ?_
      refine aw_beq (tgt := 40) dX5_luck_29 (by decide) (fun c29 => ?_) (fun c29 => ?_)
      · refine aw_ldc2 dX5_luck_40 lkX5_289 ?_
        refine aw_lreturn dX5_luck_43 rfl ?_
        first | exact ⟨_, _, rfl, rfl, (if_neg (fun z => c9 z.2.1)).symm, hG⟩ | exact ⟨_, _, rfl, rfl, (if_neg (fun z => c17 z.1)).symm, hG⟩ | exact ⟨_, _, rfl, rfl, (if_neg (fun z => c29 z.2.2.1)).symm, hG⟩ | exact ⟨_, _, rfl, rfl, (if_neg (fun z => c37 z.2.2.2)).symm, hG⟩
      · refine aw_iload dX5_luck_32 rfl ?_
        refine ax_callS1i (M' := MX5_isPart) dX5_luck_34 lmX5_240 oX5_isPart (by decide +kernel) (Nat.le_of_ble_eq_true rfl) (f_X5_isPart _) ?_
        refine aw_bne (tgt := 44) dX5_luck_37 (by decide) (fun c37 => ?_) (fun c37 => ?_)
        · obtain ⟨j, hj, rfl⟩ := key_of hn4 (show 0 ≤ k ∧ k ≤ nI n - 1 by rw [← hB.2.1.1]; exact c17)
          obtain ⟨u, hu, rfl⟩ := rng_of (n := 10) (by omega) c9
          obtain ⟨N, hN, rfl⟩ := rng_of (n := 8) (by omega) c29
          have hb := lkN_b (f := f) (n := n) (p := p) (j := j) hu hN (2 ^ N)
          have h2N := p2_8 hN
          have h10 := p10_8 hN
          have h10p : 0 < 10 ^ N := Nat.pow_pos (by omega)
          have hb2 : lkN f n p u N j (2 ^ N) < 2 ^ 62 := Nat.lt_of_le_of_lt hb (by omega)
          refine aw_aload_n (i := 0) dX5_luck_44 rfl rfl ?_
          refine aw_iload_n (i := 1) dX5_luck_45 rfl rfl ?_
          refine aw_iload_n (i := 2) dX5_luck_46 rfl rfl ?_
          refine aw_iload_n (i := 3) dX5_luck_47 rfl rfl ?_
          refine ax_gV3v (M' := MX5_findOdds) (ci := 5) dX5_luck_48 lmX5_291 oX5_findOdds (by decide +kernel) (by assumption) rfl rfl (Nat.le_of_ble_eq_true rfl) (n_findOdds hB hu hN (nI j) (Or.inr ⟨j, hj, rfl⟩)) (fun S_ h_ => ?_)
          obtain ⟨g1, g2, g3, g4⟩ := h_
          obtain ⟨f48, σ48⟩ := S_
          refine aw_aload_n (i := 0) dX5_luck_51 rfl rfl ?_
          refine ax_getl (ci := 5) 19 dX5_luck_52 rfl lfX5_275 (by decide) (by assumption) (by rfl) ?_
          refine aw_tEl (lN (lkN f n p u N j (2 ^ N))) (g2 j hj rfl) ?_
          refine aw_aload_n (i := 0) dX5_luck_55 rfl rfl ?_
          refine ax_getl (ci := 5) 21 dX5_luck_56 rfl lfX5_282 (by decide) (by assumption) (by rfl) ?_
          refine aw_tEl (lN (10 ^ N)) g4 ?_
          refine aw_iload dX5_luck_59 rfl ?_
          refine ax_callS3l (M' := MX5_lowest) dX5_luck_61 lmX5_294 oX5_lowest (by decide +kernel) (Nat.le_of_ble_eq_true rfl) (f_X5_lowest hb2 h10p (by omega) _) ?_
          refine aw_lreturn dX5_luck_64 rfl ?_
          refine ⟨_, _, rfl, rfl, ?_, g1⟩
          unfold r_luck
          rw [if_pos ⟨c17, c9, c29, c37⟩, nI_clamp (by omega), nI_clamp (by omega), nI_clamp (by omega)]
        · refine aw_ldc2 dX5_luck_40 lkX5_289 ?_
          refine aw_lreturn dX5_luck_43 rfl ?_
          first | exact ⟨_, _, rfl, rfl, (if_neg (fun z => c9 z.2.1)).symm, hG⟩ | exact ⟨_, _, rfl, rfl, (if_neg (fun z => c17 z.1)).symm, hG⟩ | exact ⟨_, _, rfl, rfl, (if_neg (fun z => c29 z.2.2.1)).symm, hG⟩ | exact ⟨_, _, rfl, rfl, (if_neg (fun z => c37 z.2.2.2)).symm, hG⟩
set_option maxRecDepth 100000 in
set_option maxHeartbeats 1000000 in
theorem n_mean {V : am_V} {d : Nat} {f : Nat → Nat → Int32} {τ : Nat → Nat → Int64} {n p s e T : Nat} (hB : BR f 2 0 n p s e T) (v x what : Int32) : AGl V MX5_mean (d + 6) [.ref 64, .int v, .int x, .int what] (f, τ) (GMl f (r_mean f n p v x what)) := by
  have hn4 : n ≤ 4 := hB.1.1
  have hp8 : p ≤ 8 := hB.1.2.1
  have he : 1 ≤ e ∧ e ≤ 4 := ⟨hB.1.2.2.2.1, hB.1.2.2.2.2.1⟩
  have hT9 : T ≤ 999 := hB.1.2.2.2.2.2
  have ev6 : f 2 6 = nI e := hB.2.1.2.2.2.1
  have ev7 : f 2 7 = nI T := hB.2.1.2.2.2.2
  have hG : eqM f f := eqM.rf
  have tM := tb_M
  have m65 := tb_65
  have m66 := tb_66
  have m67 := tb_67
  have m68 := tb_68
  have m69 := tb_69
  have m70 := tb_70
  have m71 := tb_71
  have m72 := tb_72
  have m73 := tb_73
  have m74 := tb_74
  have m75 := tb_75
  have m76 := tb_76
  refine AM.of (L := [some (.ref 64), some (.int v), some (.int x), some (.int what)]) (by decide +kernel) (Nat.le_of_ble_eq_true rfl) rfl ?_
  refine aw_iload_n (i := 1) dX5_mean_0 rfl rfl ?_
  refine aw_i2l dX5_mean_1 ?_
  refine aw_lconst (v := 0) dX5_mean_2 (by decide) ?_
  refine aw_ldc2 dX5_mean_3 lkX5_285 ?_
  refine ax_callS3i (M' := MX5_in) dX5_mean_6 lmX5_63 oX5_in (by decide +kernel) (Nat.le_of_ble_eq_true rfl) (e_in _ 0 10) ?_
  refine aw_beq (tgt := 31) dX5_mean_9 (by decide) (fun c9 => ?_) (fun c9 => ?_)
  · refine aw_ldc2 dX5_mean_31 lkX5_289 ?_
    refine aw_lreturn dX5_mean_34 rfl ?_
    first | exact ⟨_, _, rfl, rfl, (if_neg (fun z => c9 z.1)).symm, hG⟩ | exact ⟨_, _, rfl, rfl, (if_neg (fun z => c21 z.2.1)).symm, hG⟩ | exact ⟨_, _, rfl, rfl, (if_neg (fun z => c28 z.2.2)).symm, hG⟩
  · refine aw_iload_n (i := 2) dX5_mean_12 rfl rfl ?_
    refine aw_i2l dX5_mean_13 ?_
    refine aw_lconst (v := 0) dX5_mean_14 (by decide) ?_
    refine aw_ldc2 dX5_mean_15 lkX5_287 ?_
    refine ax_callS3i (M' := MX5_in) dX5_mean_18 lmX5_63 oX5_in (by decide +kernel) (Nat.le_of_ble_eq_true rfl) (e_in _ 0 8) ?_
    refine aw_beq (tgt := 31) dX5_mean_21 (by decide) (fun c21 => ?_) (fun c21 => ?_)
    · refine aw_ldc2 dX5_mean_31 lkX5_289 ?_
      refine aw_lreturn dX5_mean_34 rfl ?_
      first | exact ⟨_, _, rfl, rfl, (if_neg (fun z => c9 z.1)).symm, hG⟩ | exact ⟨_, _, rfl, rfl, (if_neg (fun z => c21 z.2.1)).symm, hG⟩ | exact ⟨_, _, rfl, rfl, (if_neg (fun z => c28 z.2.2)).symm, hG⟩
    · refine aw_iload_n (i := 3) dX5_mean_24 rfl rfl ?_
      refine ax_callS1i (M' := MX5_isPart) dX5_mean_25 lmX5_240 oX5_isPart (by decide +kernel) (Nat.le_of_ble_eq_true rfl) (f_X5_isPart _) ?_
      refine aw_bne (tgt := 35) dX5_mean_28 (by decide) (fun c28 => ?_) (fun c28 => ?_)
      · obtain ⟨u, hu, rfl⟩ := rng_of (n := 10) (by omega) c9
        obtain ⟨N, hN, rfl⟩ := rng_of (n := 8) (by omega) c21
        have hb := meN_b (f := f) (n := n) (p := p) hn4 hu hN (2 ^ N)
        have h2N := p2_8 hN
        have h10 := p10_8 hN
        have h10p : 0 < 10 ^ N := Nat.pow_pos (by omega)
        have hb2 : meN f n p u N (2 ^ N) < 2 ^ 62 := Nat.lt_of_le_of_lt hb (by omega)
        refine aw_aload_n (i := 0) dX5_mean_35 rfl rfl ?_
        refine aw_iload_n (i := 1) dX5_mean_36 rfl rfl ?_
        refine aw_bipush (v := -4) dX5_mean_37 (by decide) ?_
        refine aw_iload_n (i := 2) dX5_mean_39 rfl rfl ?_
        refine ax_gV3v (M' := MX5_findOdds) (ci := 5) dX5_mean_40 lmX5_291 oX5_findOdds (by decide +kernel) (by assumption) rfl rfl (Nat.le_of_ble_eq_true rfl) (n_findOdds hB hu hN (-4) (Or.inl rfl)) (fun S_ h_ => ?_)
        obtain ⟨g1, g2, g3, g4⟩ := h_
        obtain ⟨f48, σ48⟩ := S_
        refine aw_aload_n (i := 0) dX5_mean_43 rfl rfl ?_
        refine ax_getl (ci := 5) 20 dX5_mean_44 rfl lfX5_279 (by decide) (by assumption) (by rfl) ?_
        refine aw_tEl (lN (meN f n p u N (2 ^ N))) g3 ?_
        refine aw_aload_n (i := 0) dX5_mean_47 rfl rfl ?_
        refine ax_getl (ci := 5) 21 dX5_mean_48 rfl lfX5_282 (by decide) (by assumption) (by rfl) ?_
        refine aw_tEl (lN (10 ^ N)) g4 ?_
        refine aw_iload_n (i := 3) dX5_mean_51 rfl rfl ?_
        refine ax_callS3l (M' := MX5_lowest) dX5_mean_52 lmX5_294 oX5_lowest (by decide +kernel) (Nat.le_of_ble_eq_true rfl) (f_X5_lowest hb2 h10p (by omega) _) ?_
        refine aw_lreturn dX5_mean_55 rfl ?_
        refine ⟨_, _, rfl, rfl, ?_, g1⟩
        unfold r_mean
        rw [if_pos ⟨c9, c21, c28⟩, nI_clamp (by omega), nI_clamp (by omega)]
      · refine aw_ldc2 dX5_mean_31 lkX5_289 ?_
        refine aw_lreturn dX5_mean_34 rfl ?_
        first | exact ⟨_, _, rfl, rfl, (if_neg (fun z => c9 z.1)).symm, hG⟩ | exact ⟨_, _, rfl, rfl, (if_neg (fun z => c21 z.2.1)).symm, hG⟩ | exact ⟨_, _, rfl, rfl, (if_neg (fun z => c28 z.2.2)).symm, hG⟩
