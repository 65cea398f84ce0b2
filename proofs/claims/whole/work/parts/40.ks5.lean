def rdO (fl : Nat → Int32) (ok : Nat → Prop) [DecidablePred ok] : Nat → Nat → Nat × Nat
  | 0, i => (i, 0)
  | m + 1, i => if fl i = 0 then (if ok i then rdO fl ok m (i + 1) else (i, 2)) else (i, 1)
abbrev okP (n p : Nat) (T K S : Nat → Int32) (i : Nat) : Prop := (0 ≤ T i ∧ T i ≤ 99) ∧ (0 ≤ K i ∧ K i ≤ nI n - 1) ∧ (0 ≤ S i ∧ S i ≤ 1) ∧ p + i < 8
def rdV (o : Nat × Nat) : Int32 := if o.2 = 2 then -20 - nI o.1 else nI o.1
def rdT (fl : Nat → Int32) (o : Nat × Nat) (was : Int32) : Int32 := if o.2 = 2 then was else if o.2 = 1 then fl o.1 else 0
def rdP (p : Nat) (o : Nat × Nat) : Nat := if o.2 = 2 then p else p + o.1
/-- i presses more than in f -/
def rdI (f : Nat → Nat → Int32) (p : Nat) (T K S : Nat → Int32) (i : Nat) (g : Nat → Nat → Int32) : Prop :=
  (∀ c q, c ≠ 8 → c ≠ 9 → c ≠ 10 → ¬ (c = 2 ∧ q = 5) → g c q = f c q) ∧ (∀ u, u < p → g 8 u = f 8 u ∧ g 9 u = f 9 u ∧ g 10 u = f 10 u) ∧ (∀ u, u < i → g 8 (p + u) = T u ∧ g 9 (p + u) = K u ∧ g 10 (p + u) = S u)
theorem rdI.ap {f g : Nat → Nat → Int32} {p i : Nat} {T K S : Nat → Int32} (h : rdI f p T K S i g) : rdI f p T K S (i + 1) (apF g 2 6 5 (p + i) (T i) (K i) (S i)) := by
  obtain ⟨h1, h2, h3⟩ := h
  have e8 : ∀ u, u ≠ p + i → apF g 2 6 5 (p + i) (T i) (K i) (S i) 8 u = g 8 u := fun u hu => by unfold apF; rw [up2_ne (by omega), up2_ne (by omega), up2_ne (by omega), up2_ne (by omega)]
  have e9 : ∀ u, u ≠ p + i → apF g 2 6 5 (p + i) (T i) (K i) (S i) 9 u = g 9 u := fun u hu => by unfold apF; rw [up2_ne (by omega), up2_ne (by omega), up2_ne (by omega), up2_ne (by omega)]
  have e10 : ∀ u, u ≠ p + i → apF g 2 6 5 (p + i) (T i) (K i) (S i) 10 u = g 10 u := fun u hu => by unfold apF; rw [up2_ne (by omega), up2_ne (by omega), up2_ne (by omega), up2_ne (by omega)]
  refine ⟨fun c q c8 c9 c10 c2 => ?_, fun u hu => ?_, fun u hu => ?_⟩
  · rw [← h1 c q c8 c9 c10 c2]
    unfold apF
    rw [up2_ne (by omega), up2_ne (by omega), up2_ne (by omega), up2_ne (by omega)]
  · rw [e8 u (by omega), e9 u (by omega), e10 u (by omega)]
    exact h2 u hu
  · rcases (show u = i ∨ u < i by omega) with rfl | q
    · refine ⟨?_, ?_, ?_⟩
      · unfold apF; rw [up2_ne (by omega), up2_ne (by omega), up2_ne (by omega)]; exact up2_self _ _ _ _
      · unfold apF; rw [up2_ne (by omega), up2_ne (by omega)]; exact up2_self _ _ _ _
      · unfold apF; rw [up2_ne (by omega)]; exact up2_self _ _ _ _
    · rw [e8 _ (by omega), e9 _ (by omega), e10 _ (by omega)]
      exact h3 u q
theorem faF_cg {f g : Nat → Nat → Int32} {a : Nat} {i : Int32} (h : g a = f a) : faF g a i = faF f a i := by unfold faF; rw [h]
theorem f3F_cg {f g : Nat → Nat → Int32} {a : Nat} {ln at_ : Int32} (h : g a = f a) : ∀ i, f3F g a ln at_ i = f3F f a ln at_ i := by
  intro i
  induction i with
  | zero => show fsF g a ln = fsF f a ln; unfold fsF; rw [h]
  | succ i ih => rw [f3F, f3F, ih, faF_cg h]
theorem gtF_cg {f g : Nat → Nat → Int32} {a : Nat} {i : Int32} (h : g a = f a) (h' : g (a + 1) = f (a + 1)) : gtF g a i = gtF f a i := by
  unfold gtF
  rw [faF_cg h, h']
theorem strike_ok {g : Nat → Nat → Int32} {n q : Nat} {T K S : Nat → Int32} {p i : Nat} (hg : g 2 1 = nI n) (hq : q = p + i) (hq8 : q ≤ 8) : (okP n p T K S i → r_strike g q (T i) (K i) (S i) = nI (q + 1) ∧ s_strike g q (T i) (K i) (S i) = apF g 2 6 5 q (T i) (K i) (S i)) ∧ (¬ okP n p T K S i → r_strike g q (T i) (K i) (S i) < 0 ∧ s_strike g q (T i) (K i) (S i) = g) := by
  subst hq
  constructor
  · rintro ⟨a, b, c, d⟩
    rw [← hg] at b
    unfold r_strike s_strike
    have d8 : nI (p + i) < 8 := nI_lt (b := 8) d (by omega)
    rw [if_pos a, if_pos b, if_pos c, if_pos d8, if_pos a, if_pos b, if_pos c, if_pos d8]
    exact ⟨rfl, rfl⟩
  · intro h
    have m1 : (-1 : Int32) < 0 := by decide
    have m3 : (-3 : Int32) < 0 := by decide
    unfold r_strike s_strike
    by_cases a : 0 ≤ T i ∧ T i ≤ 99
    · rw [if_pos a, if_pos a]
      by_cases b : 0 ≤ K i ∧ K i ≤ g 2 1 - 1
      · rw [if_pos b, if_pos b]
        by_cases c : 0 ≤ S i ∧ S i ≤ 1
        · rw [if_pos c, if_pos c]
          by_cases d : nI (p + i) < 8
          · exact absurd ⟨a, by rw [← hg]; exact b, c, (nI_ltI (a := p + i) (b := 8) (by omega) (by omega)).mp d⟩ h
          · rw [if_neg d, if_neg d]; exact ⟨m3, rfl⟩
        · rw [if_neg c, if_neg c]; exact ⟨m1, rfl⟩
      · rw [if_neg b, if_neg b]; exact ⟨m1, rfl⟩
    · rw [if_neg a, if_neg a]; exact ⟨m1, rfl⟩
def rdFl (f : Nat → Nat → Int32) (a : Nat) (ln F : Int32) (i : Nat) : Int32 := f3F f a ln (F + nI (3 * i)) 3
def rdC (f : Nat → Nat → Int32) (a : Nat) (F : Int32) (u i : Nat) : Int32 := gtF f a (F + nI (3 * i) + nI u)
def rdX (f : Nat → Nat → Int32) (n p a : Nat) (ln F : Int32) (N : Nat) : Nat × Nat := rdO (rdFl f a ln F) (okP n p (rdC f a F 0) (rdC f a F 1) (rdC f a F 2)) N 0
/-- what the class's read leaves -/
def rdQ (τ : Nat → Nat → Int64) (f : Nat → Nat → Int32) (n p a : Nat) (ln F : Int32) (N : Nat) : Int32 → fm → Prop := fun x S' => x = rdV (rdX f n p a ln F N) ∧ ∃ f', S' = (f', τ) ∧
  f' 2 5 = nI (rdP p (rdX f n p a ln F N)) ∧ f' 0 9 = rdT (rdFl f a ln F) (rdX f n p a ln F N) (f 0 9) ∧ (∀ c q, c ≠ 8 → c ≠ 9 → c ≠ 10 → ¬ (c = 2 ∧ q = 5) → ¬ (c = 0 ∧ q = 9) → f' c q = f c q) ∧ (∀ u, u < p → f' 8 u = f 8 u ∧ f' 9 u = f 9 u ∧ f' 10 u = f 10 u) ∧ ((rdX f n p a ln F N).2 ≠ 2 → ∀ u, u < (rdX f n p a ln F N).1 → f' 8 (p + u) = rdC f a F 0 u ∧ f' 9 (p + u) = rdC f a F 1 u ∧ f' 10 (p + u) = rdC f a F 2 u)
set_option maxRecDepth 100000 in
set_option maxHeartbeats 1000000 in
theorem g_read {V : am_V} {d : Nat} {f : Nat → Nat → Int32} {τ : Nat → Nat → Int64} {n : Nat} (hn4 : n ≤ 4) (hn : f 2 1 = nI n) {p : Nat} (hp8 : p ≤ 8) (hp1 : f 2 5 = nI p) (hsz : ∀ j, j < 4 → ∃ z, z ≤ 40 ∧ f (53 + 2 * j) 2 = nI z) (k ln F x : Int32) : AGi V MX4_read (d + 3) [.ref 0, .int k, .int ln, .int F, .int x] (f, τ) (fun r S' => (∃ j N, j < 4 ∧ N ≤ 13 ∧ k = nI j ∧ x = nI N ∧ (0 ≤ ln ∧ ln ≤ 2) ∧ rdQ τ f n p (53 + 2 * j) ln F N r S') ∨ (¬ ((0 ≤ k ∧ k ≤ 3) ∧ (0 ≤ ln ∧ ln ≤ 2) ∧ (0 ≤ x ∧ x ≤ 13)) ∧ r = -1 ∧ S' = (f, τ))) := by
  have t0 := tb_0
  have ttp := tb_tp
  have tkp := tb_kp
  have tB := tb_B isB2
  have tk := tb_Bk isB2
  have t6 := tb_B6 isB2
  have t7 := tb_B7 isB2
  have t8 := tb_B8 isB2
  refine AM.of (L := [some (.ref 0), some (.int k), some (.int ln), some (.int F), some (.int x), none, none, none, none, none, none]) (by decide +kernel) (Nat.le_of_ble_eq_true rfl) rfl ?_
  have fin : ∀ (j N i i2 : Nat) (fo : Int32) (z : Option Value) (g : Nat → Nat → Int32), j < 4 → rdI f p (rdC f (53 + 2 * j) F 0) (rdC f (53 + 2 * j) F 1) (rdC f (53 + 2 * j) F 2) i g → g 2 5 = nI (p + i) → (∃ t, rdX f n p (53 + 2 * j) ln F N = (i, t) ∧ t ≠ 2 ∧ (t = 1 → fo = rdFl f (53 + 2 * j) ln F i) ∧ (t ≠ 1 → fo = 0)) → AW V MX4_read (d + 3) 0 0 144 [some (.ref 0), some (.int (nI j)), some (.int ln), some (.int F), some (.int (nI N)), some (.ref (53 + 2 * j)), some (.int (nI p)), some (.int fo), some (.int (nI i)), some (.int (nI i2)), z] [] (hp (g, τ)) (fun r' h' => ∃ (x : Int32) (S' : fm), r' = some (.int x) ∧ h' = hp S' ∧ rdQ τ f n p (53 + 2 * j) ln F N x S') := by
    intro j N i i2 fo z g hj hI h25 ht
    obtain ⟨t, ht, t2, t1, t0'⟩ := ht
    refine aw_aload_n (i := 0) dX4_read_144 rfl rfl ?_
    refine aw_iload dX4_read_145 rfl ?_
    refine ax_puti (ci := 4) 9 dX4_read_147 rfl lfX4_292 (by decide) (by assumption) (by rfl) rfl rfl ?_
    refine aw_iload dX4_read_150 rfl ?_
    refine aw_ireturn (ty := .int) dX4_read_152 rfl rfl ?_
    refine ⟨_, _, rfl, rfl, ?_, _, rfl, ?_, ?_, fun c q g1 g2 g3 g4 g5 => ?_, fun u hu => ?_, fun _ u hu => ?_⟩
    · rw [ht]; unfold rdV; rw [if_neg t2]
    · rw [ht, up2_ne (by omega), h25]; unfold rdP; rw [if_neg t2]
    · rw [ht, up2_self]
      unfold rdT
      rw [if_neg t2]
      by_cases q : t = 1
      · rw [if_pos q]; exact t1 q
      · rw [if_neg q]; exact t0' q
    · rw [up2_ne (by omega)]; exact hI.1 c q g1 g2 g3 g4
    · rw [up2_ne (by omega), up2_ne (by omega), up2_ne (by omega)]; exact hI.2.1 u hu
    · rw [ht] at hu; rw [up2_ne (by omega), up2_ne (by omega), up2_ne (by omega)]; exact hI.2.2 u hu
  have head2 : ∀ (j N i : Nat) (fo : Int32) (z : Option Value) (g : Nat → Nat → Int32), j < 4 → rdI f p (rdC f (53 + 2 * j) F 0) (rdC f (53 + 2 * j) F 1) (rdC f (53 + 2 * j) F 2) i g → g 2 5 = nI (p + i) → rdX f n p (53 + 2 * j) ln F N = (i, 1) → fo = rdFl f (53 + 2 * j) ln F i → ¬ fo = 0 → AW V MX4_read (d + 3) 0 0 53 [some (.ref 0), some (.int (nI j)), some (.int ln), some (.int F), some (.int (nI N)), some (.ref (53 + 2 * j)), some (.int (nI p)), some (.int fo), some (.int (nI i)), some (.int (nI (i + 1))), z] [] (hp (g, τ)) (fun r' h' => ∃ (x : Int32) (S' : fm), r' = some (.int x) ∧ h' = hp S' ∧ rdQ τ f n p (53 + 2 * j) ln F N x S') := by
    intro j N i fo z g hj hI h25 ht hf h0
    refine aw_iload dX4_read_53 rfl ?_
    refine aw_iload dX4_read_55 rfl ?_
    refine aw_icmp_ge (tgt := 144) dX4_read_57 (by decide) (fun c57 => ?_) (fun c57 => ?_)
    · exact fin j N i (i + 1) fo z g hj hI h25 ⟨1, ht, by omega, fun _ => hf, fun q => absurd rfl q⟩
    · refine aw_iload dX4_read_60 rfl ?_
      refine aw_if_ne (tgt := 144) dX4_read_62 (by decide) (fun c62 => ?_) (fun c62 => ?_)
      · exact fin j N i (i + 1) fo z g hj hI h25 ⟨1, ht, by omega, fun _ => hf, fun q => absurd rfl q⟩
      · exact absurd c62 h0
  have loop : ∀ (m i j N : Nat) (z : Option Value) (g : Nat → Nat → Int32), j < 4 → N ≤ 13 → i + m = N → p + i ≤ 8 → rdI f p (rdC f (53 + 2 * j) F 0) (rdC f (53 + 2 * j) F 1) (rdC f (53 + 2 * j) F 2) i g → g 2 5 = nI (p + i) → rdX f n p (53 + 2 * j) ln F N = rdO (rdFl f (53 + 2 * j) ln F) (okP n p (rdC f (53 + 2 * j) F 0) (rdC f (53 + 2 * j) F 1) (rdC f (53 + 2 * j) F 2)) m i → AW V MX4_read (d + 3) 0 0 53 [some (.ref 0), some (.int (nI j)), some (.int ln), some (.int F), some (.int (nI N)), some (.ref (53 + 2 * j)), some (.int (nI p)), some (.int 0), some (.int (nI i)), some (.int (nI i)), z] [] (hp (g, τ)) (fun r' h' => ∃ (x : Int32) (S' : fm), r' = some (.int x) ∧ h' = hp S' ∧ rdQ τ f n p (53 + 2 * j) ln F N x S') := by
    intro m
    induction m with
    | zero =>
      intro i j N z g hj hN hm hpi hI h25 hX
      have hi : i = N := by omega
      subst hi
      refine aw_iload dX4_read_53 rfl ?_
      refine aw_iload dX4_read_55 rfl ?_
      refine aw_icmp_ge (tgt := 144) dX4_read_57 (by decide) (fun c57 => ?_) (fun c57 => ?_)
      · exact fin j i i i 0 z g hj hI h25 ⟨0, hX, by omega, fun q => absurd q (by omega), fun _ => rfl⟩
      · exact absurd (Int32.le_refl _) c57
    | succ m ih =>
      intro i j N z g hj hN hm hpi hI h25 hX
      have hi : i < N := by omega
      have tS := tb_S (isSi hj)
      obtain ⟨z2, hz, ez⟩ := hsz j hj
      have ea : g (53 + 2 * j) = f (53 + 2 * j) := funext fun q => hI.1 _ _ (by omega) (by omega) (by omega) (by omega)
      have ea2 : g (53 + 2 * j + 1) = f (53 + 2 * j + 1) := funext fun q => hI.1 _ _ (by omega) (by omega) (by omega) (by omega)
      have eg1 : g 2 1 = nI n := (hI.1 2 1 (by omega) (by omega) (by omega) (by omega)).trans hn
      have hzg : g (53 + 2 * j) 2 = nI z2 := by rw [ea]; exact ez
      obtain ⟨okY, okN⟩ := strike_ok (T := rdC f (53 + 2 * j) F 0) (K := rdC f (53 + 2 * j) F 1) (S := rdC f (53 + 2 * j) F 2) (p := p) (i := i) eg1 rfl (by omega)
      refine aw_iload dX4_read_53 rfl ?_
      refine aw_iload dX4_read_55 rfl ?_
      refine aw_icmp_ge (tgt := 144) dX4_read_57 (by decide) (fun c57 => ?_) (fun c57 => ?_)
      · exact absurd ((nI_leI (a := N) (b := i) (by omega) (by omega)).mp c57) (by omega)
      · refine aw_iload dX4_read_60 rfl ?_
        refine aw_if_ne (tgt := 144) dX4_read_62 (by decide) (fun c62 => ?_) (fun c62 => ?_)
        · exact absurd rfl c62
        · refine aw_iload_n (i := 3) dX4_read_65 rfl rfl ?_
          refine aw_iconst (v := 3) dX4_read_66 (by decide) ?_
          refine aw_iload dX4_read_67 rfl ?_
          refine aw_imul dX4_read_69 ?_
          refine aw_iadd dX4_read_70 ?_
          refine aw_tE (F + nI (3 * i)) (by rw [show (3 : Int32) = nI 3 from rfl, pk_mul]) ?_
          refine aw_istore (i := 10) (L' := [_, _, _, _, _, _, _, _, _, _, _]) dX4_read_71 (Nat.le_of_ble_eq_true rfl) rfl rfl ?_
          refine aw_aload dX4_read_73 rfl ?_
          refine aw_iload_n (i := 2) dX4_read_75 rfl rfl ?_
          refine aw_iload dX4_read_76 rfl ?_
          refine ax_callV2i (M' := MX2_faultOfThree) (ci := 2) dX4_read_78 lmX4_286 oX2_faultOfThree (by decide +kernel) (by assumption) rfl rfl (Nat.le_of_ble_eq_true rfl) (f_X2_faultOfThree (isSi hj) _ _) ?_
          refine aw_tE (rdFl f (53 + 2 * j) ln F i) (f3F_cg ea 3) ?_
          refine aw_istore (i := 7) (L' := [_, _, _, _, _, _, _, _, _, _, _]) dX4_read_81 (Nat.le_of_ble_eq_true rfl) rfl rfl ?_
          refine aw_iload dX4_read_83 rfl ?_
          refine aw_if_ne (tgt := 138) dX4_read_85 (by decide) (fun c85 => ?_) (fun c85 => ?_)
          · refine aw_incN (L' := [_, _, _, _, _, _, _, _, _, _, _]) dX4_read_138 rfl (Nat.le_of_ble_eq_true rfl) rfl rfl ?_
            refine aw_goto (tgt := 53) dX4_read_141 (by decide) ?_
            exact head2 j N i _ _ g hj hI h25 (by rw [hX, rdO, if_neg c85]) rfl c85
          · refine aw_aload_n (i := 0) dX4_read_88 rfl rfl ?_
            refine aw_aload dX4_read_89 rfl ?_
            refine aw_iload dX4_read_91 rfl ?_
            refine ax_callV1i (M' := MX2_get) (ci := 2) dX4_read_93 lmX4_289 oX2_get (by decide +kernel) (by assumption) rfl rfl (Nat.le_of_ble_eq_true rfl) (f_X2_get (isSi hj) hz hzg _) ?_
            refine aw_tE (rdC f (53 + 2 * j) F 0 i) (by unfold rdC; rw [show nI 0 = 0 from rfl, Int32.add_zero]; exact gtF_cg ea ea2) ?_
            refine aw_aload dX4_read_96 rfl ?_
            refine aw_iload dX4_read_98 rfl ?_
            refine aw_iconst (v := 1) dX4_read_100 (by decide) ?_
            refine aw_iadd dX4_read_101 ?_
            refine ax_callV1i (M' := MX2_get) (ci := 2) dX4_read_102 lmX4_289 oX2_get (by decide +kernel) (by assumption) rfl rfl (Nat.le_of_ble_eq_true rfl) (f_X2_get (isSi hj) hz hzg _) ?_
            refine aw_tE (rdC f (53 + 2 * j) F 1 i) (gtF_cg ea ea2) ?_
            refine aw_aload dX4_read_105 rfl ?_
            refine aw_iload dX4_read_107 rfl ?_
            refine aw_iconst (v := 2) dX4_read_109 (by decide) ?_
            refine aw_iadd dX4_read_110 ?_
            refine ax_callV1i (M' := MX2_get) (ci := 2) dX4_read_111 lmX4_289 oX2_get (by decide +kernel) (by assumption) rfl rfl (Nat.le_of_ble_eq_true rfl) (f_X2_get (isSi hj) hz hzg _) ?_
            refine aw_tE (rdC f (53 + 2 * j) F 2 i) (gtF_cg ea ea2) ?_
            refine ax_callV3i (M' := MX4_putPress) (ci := 4) dX4_read_114 lmX4_147 oX4_putPress (by decide +kernel) (by assumption) rfl rfl (Nat.le_of_ble_eq_true rfl) (f_X4_putPress (p := p + i) (by omega) h25 _ _ _) ?_
            refine aw_if_ge (tgt := 135) dX4_read_117 (by decide) (fun c117 => ?_) (fun c117 => ?_)
            · have hyes : okP n p (rdC f (53 + 2 * j) F 0) (rdC f (53 + 2 * j) F 1) (rdC f (53 + 2 * j) F 2) i := by
                by_cases q : okP n p (rdC f (53 + 2 * j) F 0) (rdC f (53 + 2 * j) F 1) (rdC f (53 + 2 * j) F 2) i
                · exact q
                · exact absurd (okN q).1 (Int32.not_lt.mpr c117)
              have hpi2 : p + (i + 1) ≤ 8 := by have := hyes.2.2.2; omega
              rw [(okY hyes).2]
              refine aw_iinc (v := nI (i + 1)) (L' := [_, _, _, _, _, _, _, _, _, _, _]) dX4_read_135 rfl (nI_1 i) (Nat.le_of_ble_eq_true rfl) rfl rfl ?_
              refine aw_incN (L' := [_, _, _, _, _, _, _, _, _, _, _]) dX4_read_138 rfl (Nat.le_of_ble_eq_true rfl) rfl rfl ?_
              refine aw_goto (tgt := 53) dX4_read_141 (by decide) ?_
              rw [c85]
              refine ih (i + 1) j N _ _ hj hN (by omega) hpi2 hI.ap (by rw [← Nat.add_assoc]; exact apF_q) ?_
              rw [hX, rdO, if_pos c85, if_pos hyes]
            · have hno : ¬ okP n p (rdC f (53 + 2 * j) F 0) (rdC f (53 + 2 * j) F 1) (rdC f (53 + 2 * j) F 2) i := fun q => c117 (by rw [(okY q).1]; exact nI_pos' (by omega))
              rw [(okN hno).2]
              have hX2 : rdX f n p (53 + 2 * j) ln F N = (i, 2) := by rw [hX, rdO, if_pos c85, if_neg hno]
              refine aw_aload_n (i := 0) dX4_read_120 rfl rfl ?_
              refine ax_getr (ci := 4) 2 dX4_read_121 rfl lfX4_16 (by decide) (by assumption) (by rfl) ?_
              refine aw_iload dX4_read_124 rfl ?_
              refine ax_puti (ci := 0) 5 dX4_read_126 rfl lfX4_82 (by decide) (by assumption) (by rfl) rfl rfl ?_
              refine aw_bipush (v := -20) dX4_read_129 (by decide) ?_
              refine aw_iload dX4_read_131 rfl ?_
              refine aw_isub dX4_read_133 ?_
              refine aw_ireturn (ty := .int) dX4_read_134 rfl rfl ?_
              refine ⟨_, _, rfl, rfl, ?_, _, rfl, ?_, ?_, fun c q g1 g2 g3 g4 g5 => ?_, fun u hu => ?_, fun q => absurd (by rw [hX2]) q⟩
              · rw [hX2]; rfl
              · rw [hX2, up2_self]; rfl
              · rw [hX2, up2_ne (by omega), hI.1 0 9 (by omega) (by omega) (by omega) (by omega)]; rfl
              · rw [up2_ne (by omega)]; exact hI.1 c q g1 g2 g3 g4
              · rw [up2_ne (by omega), up2_ne (by omega), up2_ne (by omega)]; exact hI.2.1 u hu
  refine aw_iload_n (i := 1) dX4_read_0 rfl rfl ?_
  refine ax_callS1i (M' := MX4_isSheet) dX4_read_1 lmX4_271 oX4_isSheet (by decide +kernel) (Nat.le_of_ble_eq_true rfl) (f_X4_isSheet _) ?_
  refine aw_beq (tgt := 25) dX4_read_4 (by decide) (fun c4 => ?_) (fun c4 => ?_)
  · refine aw_iconst (v := -1) dX4_read_25 (by decide) ?_
    refine aw_ireturn (ty := .int) dX4_read_26 rfl rfl ?_
    first | exact ⟨_, _, rfl, rfl, Or.inr ⟨fun z => c4 z.1, rfl, rfl⟩⟩ | exact ⟨_, _, rfl, rfl, Or.inr ⟨fun z => c11 z.2.1, rfl, rfl⟩⟩ | exact ⟨_, _, rfl, rfl, Or.inr ⟨fun z => c22 z.2.2, rfl, rfl⟩⟩
  · refine aw_iload_n (i := 2) dX4_read_7 rfl rfl ?_
    refine ax_callS1i (M' := MX2_isLane) dX4_read_8 lmX4_274 oX2_isLane (by decide +kernel) (Nat.le_of_ble_eq_true rfl) (f_X2_isLane _) ?_
    refine aw_beq (tgt := 25) dX4_read_11 (by decide) (fun c11 => ?_) (fun c11 => ?_)
    · refine aw_iconst (v := -1) dX4_read_25 (by decide) ?_
      refine aw_ireturn (ty := .int) dX4_read_26 rfl rfl ?_
      first | exact ⟨_, _, rfl, rfl, Or.inr ⟨fun z => c4 z.1, rfl, rfl⟩⟩ | exact ⟨_, _, rfl, rfl, Or.inr ⟨fun z => c11 z.2.1, rfl, rfl⟩⟩ | exact ⟨_, _, rfl, rfl, Or.inr ⟨fun z => c22 z.2.2, rfl, rfl⟩⟩
    · refine aw_iload dX4_read_14 rfl ?_
      refine aw_iconst (v := 0) dX4_read_16 (by decide) ?_
      refine aw_bipush (v := 13) dX4_read_17 (by decide) ?_
      refine ax_callS3i (M' := MX4_within) dX4_read_19 lmX4_54 oX4_within (by decide +kernel) (Nat.le_of_ble_eq_true rfl) (f_X4_within _ _ _) ?_
      refine aw_bne (tgt := 27) dX4_read_22 (by decide) (fun c22 => ?_) (fun c22 => ?_)
      · obtain ⟨j, hj0, rfl⟩ := rng_of (n := 3) (by omega) c4
        have hj : j < 4 := by omega
        obtain ⟨N, hN, rfl⟩ := rng_of (n := 13) (by omega) c22
        refine aw_aload_n (i := 0) dX4_read_27 rfl rfl ?_
        refine ax_getr (ci := 4) 6 dX4_read_28 rfl lfX4_33 (by decide) (by assumption) (by rfl) ?_
        refine aw_iload_n (i := 1) dX4_read_31 rfl rfl ?_
        refine ax_shtN dX4_read_32 hj ?_
        refine aw_astore (i := 5) (L' := [_, _, _, _, _, _, _, _, _, _, _]) dX4_read_33 (Nat.le_of_ble_eq_true rfl) rfl rfl ?_
        refine aw_aload_n (i := 0) dX4_read_35 rfl rfl ?_
        refine ax_getr (ci := 4) 2 dX4_read_36 rfl lfX4_16 (by decide) (by assumption) (by rfl) ?_
        refine ax_geti (ci := 0) 5 dX4_read_39 rfl lfX4_82 (by decide) (by assumption) (by rfl) ?_
        refine aw_tE (nI p) hp1 ?_
        refine aw_istore (i := 6) (L' := [_, _, _, _, _, _, _, _, _, _, _]) dX4_read_42 (Nat.le_of_ble_eq_true rfl) rfl rfl ?_
        refine aw_iconst (v := 0) dX4_read_44 (by decide) ?_
        refine aw_istore (i := 7) (L' := [_, _, _, _, _, _, _, _, _, _, _]) dX4_read_45 (Nat.le_of_ble_eq_true rfl) rfl rfl ?_
        refine aw_iconst (v := 0) dX4_read_47 (by decide) ?_
        refine aw_istore (i := 8) (L' := [_, _, _, _, _, _, _, _, _, _, _]) dX4_read_48 (Nat.le_of_ble_eq_true rfl) rfl rfl ?_
        refine aw_iconst (v := 0) dX4_read_50 (by decide) ?_
        refine aw_istore (i := 9) (L' := [_, _, _, _, _, _, _, _, _, _, _]) dX4_read_51 (Nat.le_of_ble_eq_true rfl) rfl rfl ?_
        refine AW.weaken ?_ (loop N 0 j N none f hj hN (by omega) (by omega) ⟨fun _ _ _ _ _ _ => rfl, fun _ _ => ⟨rfl, rfl, rfl⟩, fun u hu => absurd hu (by omega)⟩ hp1 rfl)
        rintro r h' ⟨x, S', e1, e2, e3⟩
        exact ⟨x, S', e1, e2, Or.inl ⟨j, N, hj, hN, rfl, rfl, c11, e3⟩⟩
      · refine aw_iconst (v := -1) dX4_read_25 (by decide) ?_
        refine aw_ireturn (ty := .int) dX4_read_26 rfl rfl ?_
        first | exact ⟨_, _, rfl, rfl, Or.inr ⟨fun z => c4 z.1, rfl, rfl⟩⟩ | exact ⟨_, _, rfl, rfl, Or.inr ⟨fun z => c11 z.2.1, rfl, rfl⟩⟩ | exact ⟨_, _, rfl, rfl, Or.inr ⟨fun z => c22 z.2.2, rfl, rfl⟩⟩
