theorem or_bit {c : Nat → Int32} {n k : Nat} (hn4 : n ≤ 4) (h : ∀ i, i < n → ∃ q, q ≤ 1 ∧ c i = nI q) (hk : k < n) : (orF c n >>> (nI k &&& 31)) &&& 1 = c k := by
  have z : ∀ i, i < n → c i = 0 ∨ c i = 1 := by
    intro i hi
    obtain ⟨q, hq, e⟩ := h i hi
    rcases (show q = 0 ∨ q = 1 by omega) with rfl | rfl
    · exact Or.inl e
    · exact Or.inr e
  rcases (show n = 1 ∨ n = 2 ∨ n = 3 ∨ n = 4 by omega) with rfl | rfl | rfl | rfl
  · obtain rfl : k = 0 := by omega
    simp only [orF]
    rcases z 0 (by omega) with a | a <;> rw [a] <;> decide
  · simp only [orF]
    rcases (show k = 0 ∨ k = 1 by omega) with rfl | rfl <;> rcases z 0 (by omega) with a | a <;> rcases z 1 (by omega) with b | b <;> rw [a, b] <;> decide
  · simp only [orF]
    rcases (show k = 0 ∨ k = 1 ∨ k = 2 by omega) with rfl | rfl | rfl <;> rcases z 0 (by omega) with a | a <;> rcases z 1 (by omega) with b | b <;> rcases z 2 (by omega) with c2 | c2 <;> rw [a, b, c2] <;> decide
  · simp only [orF]
    rcases (show k = 0 ∨ k = 1 ∨ k = 2 ∨ k = 3 by omega) with rfl | rfl | rfl | rfl <;> rcases z 0 (by omega) with a | a <;> rcases z 1 (by omega) with b | b <;> rcases z 2 (by omega) with c2 | c2 <;> rcases z 3 (by omega) with c3 | c3 <;> rw [a, b, c2, c3] <;> decide
def soB (sT sK sS : Nat → Int32) (n : Nat) (KK : Nat → Nat → Nat → Int32) : Nat → Int32
  | 0 => 1
  | i + 1 => if soB sT sK sS n KK i = 0 then 0 else if (orF (fun k => KK (sT i).toNatClampNeg k 3) n >>> (sK i &&& 31)) &&& 1 = sS i then 1 else 0
theorem lastF_ge (g : Nat → Int32) : ∀ s, (∀ i, i < s → ∃ q, q ≤ 40 ∧ g i = nI q) → ∀ i, i < s → g i ≤ lastF g s := by
  intro s
  induction s with
  | zero => intro _ i hi; omega
  | succ s ih =>
    intro h i hi
    rw [lastF, imax]
    have e1 := ih (fun i hi => h i (Nat.lt_succ_of_lt hi))
    rcases (show i = s ∨ i < s by omega) with rfl | q
    · split
      · exact Int32.le_refl _
      · rename_i q; exact Int32.not_lt.mp q
    · split
      · rename_i q2; exact Int32.le_trans (e1 i q) (Int32.le_of_lt q2)
      · exact e1 i q
theorem lastS_gt {g : Nat → Int32} {s i q : Nat} (h : ∀ i, i < s → ∃ q, q ≤ 40 ∧ g i = nI q) (hi : i < s) (hq : q ≤ 40) (e : g i = nI q) : q < lastS g s := by
  have h1 := lastF_ge g s h i hi
  rw [e] at h1
  unfold lastS
  rcases lastF_or g s h with q1 | ⟨q2, hq2, q1⟩
  · rw [q1] at h1
    exact absurd (Int32.lt_of_le_of_lt h1 (by decide)) (nI_pos (by omega))
  · rw [q1] at h1 ⊢
    rw [if_neg (nI_pos (by omega)), nI_clamp (by omega)]
    have := (nI_leI (a := q) (b := q2) (by omega) (by omega)).mp h1
    omega
theorem soB_fit {sT sK sS : Nat → Int32} {n s : Nat} {KK : Nat → Nat → Nat → Int32} (hn4 : n ≤ 4) (hK : ∀ q, q ≤ 40 → ∀ k, k < n → ∃ z, z ≤ 1 ∧ KK q k 3 = nI z) (h : ∀ i, i < s → (∃ q, q ≤ 40 ∧ sT i = nI q) ∧ (∃ q, q < n ∧ sK i = nI q)) : soB sT sK sS n KK s = b2i (asK sT sK sS n s KK (lastS sT s)) := by
  have key : ∀ i, i ≤ s → (soB sT sK sS n KK i = 1 ∧ ∀ u, u < i → KK (sT u).toNatClampNeg (sK u).toNatClampNeg 3 = sS u) ∨ (soB sT sK sS n KK i = 0 ∧ ∃ u, u < i ∧ ¬ KK (sT u).toNatClampNeg (sK u).toNatClampNeg 3 = sS u) := by
    intro i
    induction i with
    | zero => intro _; exact Or.inl ⟨rfl, fun u hu => by omega⟩
    | succ i ih =>
      intro hi
      obtain ⟨⟨q, hq, eq⟩, q2, hq2, eq2⟩ := h i (by omega)
      have hb : (orF (fun k => KK (sT i).toNatClampNeg k 3) n >>> (sK i &&& 31)) &&& 1 = KK (sT i).toNatClampNeg (sK i).toNatClampNeg 3 := by
        rw [eq, eq2, nI_clamp (by omega), nI_clamp (by omega)]
        exact or_bit (c := fun k => KK q k 3) hn4 (hK q hq) hq2
      rcases ih (by omega) with ⟨z, g⟩ | ⟨z, u, hu, g⟩
      · rw [soB, z, if_neg (by decide), hb]
        by_cases q3 : KK (sT i).toNatClampNeg (sK i).toNatClampNeg 3 = sS i
        · rw [if_pos q3]
          refine Or.inl ⟨rfl, fun u hu => ?_⟩
          rcases (show u = i ∨ u < i by omega) with rfl | q4
          · exact q3
          · exact g u q4
        · rw [if_neg q3]
          exact Or.inr ⟨rfl, i, by omega, q3⟩
      · rw [soB, z, if_pos rfl]
        exact Or.inr ⟨rfl, u, by omega, g⟩
  have hT : ∀ i, i < s → ∃ q, q ≤ 40 ∧ sT i = nI q := fun i hi => (h i hi).1
  rcases key s (Nat.le_refl s) with ⟨z, g⟩ | ⟨z, u, hu, g⟩
  · rw [z, b2i_t]
    intro t ht i hi ⟨g1, g2, g3⟩
    have g4 := g i hi
    obtain ⟨⟨q, hq, eq⟩, q2, hq2, eq2⟩ := h i hi
    have hlt : t < 2 ^ 31 := by
      unfold lastS at ht
      have := Int32.toNatClampNeg_lt (lastF sT s)
      split at ht <;> omega
    rw [g1, nI_clamp hlt] at g4
    exact g3 g4
  · rw [z, b2i_f]
    intro q0
    obtain ⟨⟨q, hq, eq⟩, q2, hq2, eq2⟩ := h u hu
    refine q0 q (lastS_gt hT hu hq eq) u hu ⟨eq, ⟨by rw [eq2]; exact nI_pos' (by omega), ?_⟩, ?_⟩
    · rw [eq2, show (1 : Int32) = nI 1 from rfl, pk_sub (by omega)]
      exact nI_le (by omega) (by omega)
    · rw [eq, nI_clamp (by omega)] at g
      exact g
theorem MR.u71 {f0 f : Nat → Nat → Int32} {n p e T : Nat} {pk pt ps : Nat → Int32} {K : Nat → Nat → Int32} (h : MR f0 n p pk pt ps e K T f) (i : Nat) (x : Int32) : MR f0 n p pk pt ps e K T (up2 f 71 i x) := by
  obtain ⟨h0, ⟨h1, ⟨q, hq, eq, hC⟩, h3, h4, h5, h6, h7, h8⟩, hK⟩ := h
  have eo : ∀ c j, c ≠ 71 → up2 f 71 i x c j = f c j := fun c j hc => up2_ne (by omega)
  have eo2 : ∀ c, c ≠ 71 → up2 f 71 i x c = f c := fun c hc => funext fun j => eo c j hc
  refine ⟨h0.step (fun c i g1 g2 g3 g4 g5 g6 => eo c i (by omega)), ⟨by rw [eo _ _ (by omega)]; exact h1, ⟨q, hq, by rw [eo _ _ (by omega)]; exact eq, fun b k U hU => ?_⟩, by rw [eo _ _ (by omega)]; exact h3, by rw [eo _ _ (by omega)]; exact h4, fun k hk j hj => by rw [eo _ _ (by omega)]; exact h5 k hk j hj, fun k hk => by rw [eo _ _ (by omega)]; exact h6 k hk, fun k a1 a2 => by rw [eo _ _ (by omega)]; exact h7 k a1 a2, by rw [eo _ _ (by omega)]; exact h8⟩, hK⟩
  have r : pkM (up2 f 71 i x) = pkM f ∧ ptM (up2 f 71 i x) = ptM f ∧ psM (up2 f 71 i x) = psM f := ⟨funext fun j => eo _ _ (by omega), funext fun j => eo _ _ (by omega), funext fun j => eo _ _ (by omega)⟩
  rw [eo 64 16 (by omega), r.1, r.2.1, r.2.2]
  exact hC b k U hU
set_option maxRecDepth 100000 in
set_option maxHeartbeats 1000000 in
theorem n_isSoWith {V : am_V} {d : Nat} {f : Nat → Nat → Int32} {τ : Nat → Nat → Int64} {f0 : Nat → Nat → Int32} {n p s e T : Nat} (hB : BR f 2 0 n p s e T) {j part : Nat} (hj : j < n) (hpt : part ≤ 2) (v : Int32) (hv : k_mayP (nI part) v) (hG0 : eqM f0 f) : AGi V MX5_isSoWith (d + 6) [.ref 64, .int (nI j), .int (nI part), .int v] (f0, τ) (fun x S' => x = b2i (fitP f n p s j (nI part) v) ∧ ∃ f', S' = (f', τ) ∧ eqM f' f ∧ (∀ q, q < 41 → f' 71 q = orF (fun k => (avK (f 9) (f 8) (f 10) n p (nI e) (altK (K0 f) j (nI part) v) (nI T) q).1 k 3) n) ∧ (∀ q, q < 41 → ∀ k, k < n → ∃ z, z ≤ 1 ∧ (avK (f 9) (f 8) (f 10) n p (nI e) (altK (K0 f) j (nI part) v) (nI T) q).1 k 3 = nI z) ∧ f' 72 = f0 72) := by
  have hn4 : n ≤ 4 := hB.1.1
  have hp8 : p ≤ 8 := hB.1.2.1
  have he : 1 ≤ e ∧ e ≤ 4 := ⟨hB.1.2.2.2.1, hB.1.2.2.2.2.1⟩
  have hT9 : T ≤ 999 := hB.1.2.2.2.2.2
  have ev6 : f 2 6 = nI e := hB.2.1.2.2.2.1
  have ev7 : f 2 7 = nI T := hB.2.1.2.2.2.2
  have hG : eqM f f := eqM.rf
  have hs6 : s ≤ 6 := hB.1.2.2.1
  have tM := tb_M
  have m65 := tb_65
  have m66 := tb_66
  have m67 := tb_67
  have m68 := tb_68
  have m69 := tb_69
  have m70 := tb_70
  have m71 := tb_71
  have m72 := tb_72
  have m73 := tb_73
  have m74 := tb_74
  have m75 := tb_75
  have m76 := tb_76
  refine AM.of (L := [some (.ref 64), some (.int (nI j)), some (.int (nI part)), some (.int v), none, none, none]) (by decide +kernel) (Nat.le_of_ble_eq_true rfl) rfl ?_
  have loop2 : ∀ (m i : Nat) (z6 : Option Value) (g : Nat → Nat → Int32), i ≤ s → s - i < m → eqM g f → (∀ q, q < 41 → g 71 q = orF (fun k => (avK (f 9) (f 8) (f 10) n p (nI e) (altK (K0 f) j (nI part) v) (nI T) q).1 k 3) n) → (∀ q, q < 41 → ∀ k, k < n → ∃ z, z ≤ 1 ∧ (avK (f 9) (f 8) (f 10) n p (nI e) (altK (K0 f) j (nI part) v) (nI T) q).1 k 3 = nI z) → g 72 = f0 72 → AW V MX5_isSoWith (d + 6) 0 0 45 [some (.ref 64), some (.int (nI j)), some (.int (nI part)), some (.int v), some (.int (soB (f 11) (f 12) (f 13) n (fun i => (avK (f 9) (f 8) (f 10) n p (nI e) (altK (K0 f) j (nI part) v) (nI T) i).1) i)), some (.int (nI i)), z6] [] (hp (g, τ)) (fun r' h' => ∃ (x : Int32) (S' : fm), r' = some (.int x) ∧ h' = hp S' ∧ x = b2i (fitP f n p s j (nI part) v) ∧ ∃ f', S' = (f', τ) ∧ eqM f' f ∧ (∀ q, q < 41 → f' 71 q = orF (fun k => (avK (f 9) (f 8) (f 10) n p (nI e) (altK (K0 f) j (nI part) v) (nI T) q).1 k 3) n) ∧ (∀ q, q < 41 → ∀ k, k < n → ∃ z, z ≤ 1 ∧ (avK (f 9) (f 8) (f 10) n p (nI e) (altK (K0 f) j (nI part) v) (nI T) q).1 k 3 = nI z) ∧ f' 72 = f0 72) := by
    intro m
    induction m with
    | zero => intro i z6 g h1 h2; omega
    | succ m ih =>
      intro i z6 g h1 h2 hG7 hS hZ h72
      have e65 : ∀ q, g 65 q = f 65 q := fun q => hG7 65 q (by omega) (by omega) (by omega) (by omega) (by omega) (by omega)
      refine aw_iload dX5_isSoWith_45 rfl ?_
      refine aw_aload_n (i := 0) dX5_isSoWith_47 rfl rfl ?_
      refine ax_getr (ci := 5) 0 dX5_isSoWith_48 rfl lfX5_7 (by decide) (by assumption) (by rfl) ?_
      refine aw_bipush (v := 56) dX5_isSoWith_51 (by decide) ?_
      refine ax_ialdN (i := 56) dX5_isSoWith_53 (by assumption) (by omega) (Nat.le_of_ble_eq_true rfl) ?_
      refine aw_tE (nI s) ((e65 56).trans hB.2.2.1.2.2.1) ?_
      refine aw_icmp_ge (tgt := 120) dX5_isSoWith_54 (by decide) (fun c54 => ?_) (fun c54 => ?_)
      · have hip : i = s := by have := (nI_leI (a := s) (b := i) (by omega) (by omega)).mp c54; omega
        subst hip
        refine aw_iload dX5_isSoWith_120 rfl ?_
        refine aw_tE (b2i (fitP f n p i j (nI part) v)) (by rw [soB_fit hn4 (fun q hq => hZ q (by omega)) (fun u hu => ⟨(hB.2.2.2.2.2 u hu).1, (hB.2.2.2.2.2 u hu).2.1⟩), ← ev6, ← ev7]) ?_
        refine aw_ireturn (ty := .boolean) dX5_isSoWith_122 rfl (b2i_z _) ?_
        exact ⟨_, _, rfl, rfl, rfl, g, rfl, hG7, hS, hZ, h72⟩
      · have hi : i < s := Nat.not_le.mp (fun z => c54 (nI_le z (by omega)))
        obtain ⟨⟨q, hq, eq⟩, ⟨q2, hq2, eq2⟩, -, g1, g2, g3⟩ := hB.2.2.2.2.2 i hi
        rw [Nat.zero_add] at g1 g2 g3
        refine aw_bipush (v := 57) dX5_isSoWith_57 (by decide) ?_
        refine aw_iconst (v := 3) dX5_isSoWith_59 (by decide) ?_
        refine aw_iload dX5_isSoWith_60 rfl ?_
        refine aw_imul dX5_isSoWith_62 ?_
        refine aw_iadd dX5_isSoWith_63 ?_
        refine aw_tE (nI (57 + 3 * i)) (by rw [show (3 : Int32) = nI 3 from rfl, pk_mul, show (57 : Int32) = nI 57 from rfl, nI_add]) ?_
        refine aw_istore (i := 6) (L' := [_, _, _, _, _, _, _]) dX5_isSoWith_64 (Nat.le_of_ble_eq_true rfl) rfl rfl ?_
        refine aw_iload dX5_isSoWith_66 rfl ?_
        refine aw_if_eq (tgt := 111) dX5_isSoWith_68 (by decide) (fun c68 => ?_) (fun c68 => ?_)
        · refine aw_iconst (v := 0) dX5_isSoWith_111 (by decide) ?_
          refine aw_istore (i := 4) (L' := [_, _, _, _, _, _, _]) dX5_isSoWith_112 (Nat.le_of_ble_eq_true rfl) rfl rfl ?_
          refine aw_incN (L' := [_, _, _, _, _, _, _]) dX5_isSoWith_114 rfl (Nat.le_of_ble_eq_true rfl) rfl rfl ?_
          refine aw_goto (tgt := 45) dX5_isSoWith_117 (by decide) ?_
          have e9 := ih (i + 1) (some (.int (nI (57 + 3 * i)))) g hi (by omega) hG7 hS hZ h72
          have eqc : (f 11 i).toNatClampNeg = q := by rw [show f 11 i = nI q from eq, nI_clamp (by omega)]
          first | (rw [show (soB (f 11) (f 12) (f 13) n (fun i => (avK (f 9) (f 8) (f 10) n p (nI e) (altK (K0 f) j (nI part) v) (nI T) i).1) (i + 1)) = 0 by rw [soB, if_pos c68]] at e9; exact e9) | (rw [show (soB (f 11) (f 12) (f 13) n (fun i => (avK (f 9) (f 8) (f 10) n p (nI e) (altK (K0 f) j (nI part) v) (nI T) i).1) (i + 1)) = 1 by rw [soB, if_neg c68, eqc]; exact if_pos c104] at e9; exact e9) | (rw [show (soB (f 11) (f 12) (f 13) n (fun i => (avK (f 9) (f 8) (f 10) n p (nI e) (altK (K0 f) j (nI part) v) (nI T) i).1) (i + 1)) = 0 by rw [soB, if_neg c68, eqc]; exact if_neg c104] at e9; exact e9)
        · refine aw_aload_n (i := 0) dX5_isSoWith_71 rfl rfl ?_
          refine ax_getr (ci := 5) 22 dX5_isSoWith_72 rfl lfX5_29 (by decide) (by assumption) (by rfl) ?_
          refine aw_aload_n (i := 0) dX5_isSoWith_75 rfl rfl ?_
          refine ax_getr (ci := 5) 0 dX5_isSoWith_76 rfl lfX5_7 (by decide) (by assumption) (by rfl) ?_
          refine aw_iload dX5_isSoWith_79 rfl ?_
          refine ax_ialdN dX5_isSoWith_81 (by assumption) (by omega) (Nat.le_of_ble_eq_true rfl) ?_
          refine aw_tE (nI q) (((e65 _).trans g1).trans eq) ?_
          refine ax_ialdN dX5_isSoWith_82 (by assumption) (by omega) (Nat.le_of_ble_eq_true rfl) ?_
          refine aw_tE _ (hS q (by omega)) ?_
          refine aw_aload_n (i := 0) dX5_isSoWith_83 rfl rfl ?_
          refine ax_getr (ci := 5) 0 dX5_isSoWith_84 rfl lfX5_7 (by decide) (by assumption) (by rfl) ?_
          refine aw_iload dX5_isSoWith_87 rfl ?_
          refine aw_iconst (v := 1) dX5_isSoWith_89 (by decide) ?_
          refine aw_iadd dX5_isSoWith_90 ?_
          refine aw_tE (nI (57 + 3 * i + 1)) (nI_1 _) ?_
          refine ax_ialdN dX5_isSoWith_91 (by assumption) (by omega) (Nat.le_of_ble_eq_true rfl) ?_
          refine aw_tE (f 12 i) ((e65 _).trans g2) ?_
          refine aw_ishr dX5_isSoWith_92 ?_
          refine aw_iconst (v := 1) dX5_isSoWith_93 (by decide) ?_
          refine aw_iand dX5_isSoWith_94 ?_
          refine aw_aload_n (i := 0) dX5_isSoWith_95 rfl rfl ?_
          refine ax_getr (ci := 5) 0 dX5_isSoWith_96 rfl lfX5_7 (by decide) (by assumption) (by rfl) ?_
          refine aw_iload dX5_isSoWith_99 rfl ?_
          refine aw_iconst (v := 2) dX5_isSoWith_101 (by decide) ?_
          refine aw_iadd dX5_isSoWith_102 ?_
          refine aw_tE (nI (57 + 3 * i + 2)) (nI_add _ 2) ?_
          refine ax_ialdN dX5_isSoWith_103 (by assumption) (by omega) (Nat.le_of_ble_eq_true rfl) ?_
          refine aw_tE (f 13 i) ((e65 _).trans g3) ?_
          refine aw_icmp_ne (tgt := 111) dX5_isSoWith_104 (by decide) (fun c104 => ?_) (fun c104 => ?_)
          · refine aw_iconst (v := 0) dX5_isSoWith_111 (by decide) ?_
            refine aw_istore (i := 4) (L' := [_, _, _, _, _, _, _]) dX5_isSoWith_112 (Nat.le_of_ble_eq_true rfl) rfl rfl ?_
            refine aw_incN (L' := [_, _, _, _, _, _, _]) dX5_isSoWith_114 rfl (Nat.le_of_ble_eq_true rfl) rfl rfl ?_
            refine aw_goto (tgt := 45) dX5_isSoWith_117 (by decide) ?_
            have e9 := ih (i + 1) (some (.int (nI (57 + 3 * i)))) g hi (by omega) hG7 hS hZ h72
            have eqc : (f 11 i).toNatClampNeg = q := by rw [show f 11 i = nI q from eq, nI_clamp (by omega)]
            first | (rw [show (soB (f 11) (f 12) (f 13) n (fun i => (avK (f 9) (f 8) (f 10) n p (nI e) (altK (K0 f) j (nI part) v) (nI T) i).1) (i + 1)) = 0 by rw [soB, if_pos c68]] at e9; exact e9) | (rw [show (soB (f 11) (f 12) (f 13) n (fun i => (avK (f 9) (f 8) (f 10) n p (nI e) (altK (K0 f) j (nI part) v) (nI T) i).1) (i + 1)) = 1 by rw [soB, if_neg c68, eqc]; exact if_pos c104] at e9; exact e9) | (rw [show (soB (f 11) (f 12) (f 13) n (fun i => (avK (f 9) (f 8) (f 10) n p (nI e) (altK (K0 f) j (nI part) v) (nI T) i).1) (i + 1)) = 0 by rw [soB, if_neg c68, eqc]; exact if_neg c104] at e9; exact e9)
          · refine aw_iconst (v := 1) dX5_isSoWith_107 (by decide) ?_
            refine aw_goto (tgt := 112) dX5_isSoWith_108 (by decide) ?_
            refine aw_istore (i := 4) (L' := [_, _, _, _, _, _, _]) dX5_isSoWith_112 (Nat.le_of_ble_eq_true rfl) rfl rfl ?_
            refine aw_incN (L' := [_, _, _, _, _, _, _]) dX5_isSoWith_114 rfl (Nat.le_of_ble_eq_true rfl) rfl rfl ?_
            refine aw_goto (tgt := 45) dX5_isSoWith_117 (by decide) ?_
            have e9 := ih (i + 1) (some (.int (nI (57 + 3 * i)))) g hi (by omega) hG7 hS hZ h72
            have eqc : (f 11 i).toNatClampNeg = q := by rw [show f 11 i = nI q from eq, nI_clamp (by omega)]
            first | (rw [show (soB (f 11) (f 12) (f 13) n (fun i => (avK (f 9) (f 8) (f 10) n p (nI e) (altK (K0 f) j (nI part) v) (nI T) i).1) (i + 1)) = 0 by rw [soB, if_pos c68]] at e9; exact e9) | (rw [show (soB (f 11) (f 12) (f 13) n (fun i => (avK (f 9) (f 8) (f 10) n p (nI e) (altK (K0 f) j (nI part) v) (nI T) i).1) (i + 1)) = 1 by rw [soB, if_neg c68, eqc]; exact if_pos c104] at e9; exact e9) | (rw [show (soB (f 11) (f 12) (f 13) n (fun i => (avK (f 9) (f 8) (f 10) n p (nI e) (altK (K0 f) j (nI part) v) (nI T) i).1) (i + 1)) = 0 by rw [soB, if_neg c68, eqc]; exact if_neg c104] at e9; exact e9)
  have loop : ∀ (m i : Nat) (g : Nat → Nat → Int32), i + m = 41 → MR f n p (f 9) (f 8) (f 10) e (avK (f 9) (f 8) (f 10) n p (nI e) (altK (K0 f) j (nI part) v) (nI T) i).1 (T + i) g → (∀ q, q < i → g 71 q = orF (fun k => (avK (f 9) (f 8) (f 10) n p (nI e) (altK (K0 f) j (nI part) v) (nI T) q).1 k 3) n) → (∀ q, q < i → ∀ k, k < n → ∃ z, z ≤ 1 ∧ (avK (f 9) (f 8) (f 10) n p (nI e) (altK (K0 f) j (nI part) v) (nI T) q).1 k 3 = nI z) → g 72 = f0 72 → AW V MX5_isSoWith (d + 6) 0 0 10 [some (.ref 64), some (.int (nI j)), some (.int (nI part)), some (.int v), some (.int (nI i)), none, none] [] (hp (g, τ)) (fun r' h' => ∃ (x : Int32) (S' : fm), r' = some (.int x) ∧ h' = hp S' ∧ x = b2i (fitP f n p s j (nI part) v) ∧ ∃ f', S' = (f', τ) ∧ eqM f' f ∧ (∀ q, q < 41 → f' 71 q = orF (fun k => (avK (f 9) (f 8) (f 10) n p (nI e) (altK (K0 f) j (nI part) v) (nI T) q).1 k 3) n) ∧ (∀ q, q < 41 → ∀ k, k < n → ∃ z, z ≤ 1 ∧ (avK (f 9) (f 8) (f 10) n p (nI e) (altK (K0 f) j (nI part) v) (nI T) q).1 k 3 = nI z) ∧ f' 72 = f0 72) := by
    intro m
    induction m with
    | zero =>
      intro i g hm hT hS hZ h72
      have hi : i = 41 := by omega
      subst hi
      refine aw_iload dX5_isSoWith_10 rfl ?_
      refine aw_bipush (v := 40) dX5_isSoWith_12 (by decide) ?_
      refine aw_icmp_gt (tgt := 39) dX5_isSoWith_14 (by decide) (fun c14 => ?_) (fun c14 => absurd (by decide) c14)
      refine aw_iconst (v := 1) dX5_isSoWith_39 (by decide) ?_
      refine aw_istore (i := 4) (L' := [_, _, _, _, _, _, _]) dX5_isSoWith_40 (Nat.le_of_ble_eq_true rfl) rfl rfl ?_
      refine aw_iconst (v := 0) dX5_isSoWith_42 (by decide) ?_
      refine aw_istore (i := 5) (L' := [_, _, _, _, _, _, _]) dX5_isSoWith_43 (Nat.le_of_ble_eq_true rfl) rfl rfl ?_
      exact loop2 (s + 1) 0 none g (by omega) (by omega) hT.1 hS hZ h72
    | succ m ih =>
      intro i g hm hT hS hZ h72
      refine aw_iload dX5_isSoWith_10 rfl ?_
      refine aw_bipush (v := 40) dX5_isSoWith_12 (by decide) ?_
      refine aw_tE (nI 40) rfl ?_
      refine aw_icmp_gt (tgt := 39) dX5_isSoWith_14 (by decide) (fun c14 => ?_) (fun c14 => ?_)
      · exact absurd ((nI_ltI (a := 40) (b := i) (by omega) (by omega)).mp c14) (by omega)
      · refine aw_aload_n (i := 0) dX5_isSoWith_17 rfl rfl ?_
        refine ax_getr (ci := 5) 22 dX5_isSoWith_18 rfl lfX5_29 (by decide) (by assumption) (by rfl) ?_
        refine aw_iload dX5_isSoWith_21 rfl ?_
        refine aw_aload_n (i := 0) dX5_isSoWith_23 rfl rfl ?_
        refine ax_callV0i (M' := MX5_says) (ci := 5) dX5_isSoWith_24 lmX5_186 oX5_says (by decide +kernel) (by assumption) rfl rfl (Nat.le_of_ble_eq_true rfl) (n_says hn4 hT) ?_
        refine ax_iastN dX5_isSoWith_27 (by assumption) (by omega) (Nat.le_of_ble_eq_true rfl) ?_
        refine aw_aload_n (i := 0) dX5_isSoWith_28 rfl rfl ?_
        refine aw_iconst (v := 1) dX5_isSoWith_29 (by decide) ?_
        refine ax_gV1v (M' := MX5_ticksGo) (ci := 5) dX5_isSoWith_30 lmX5_223 oX5_ticksGo (by decide +kernel) (by assumption) rfl rfl (Nat.le_of_ble_eq_true rfl) (n_ticksGo hn4 he (hT.u71 i _) (N := 1) (by omega)) (fun S_ h_ => ?_)
        obtain ⟨f30, rfl, T30, Q30⟩ := h_
        refine aw_incN (L' := [_, _, _, _, _, _, _]) dX5_isSoWith_33 rfl (Nat.le_of_ble_eq_true rfl) rfl rfl ?_
        refine aw_goto (tgt := 10) dX5_isSoWith_36 (by decide) ?_
        rw [avK_s2] at T30
        have e71 : ∀ q, f30 71 q = up2 g 71 i (orF (fun k => (avK (f 9) (f 8) (f 10) n p (nI e) (altK (K0 f) j (nI part) v) (nI T) i).1 k 3) n) 71 q := fun q => Q30 71 q (by omega)
        refine ih (i + 1) f30 (by omega) T30 (fun q hq => ?_) (fun q hq => ?_) ?_
        · rw [e71]
          rcases (show q = i ∨ q < i by omega) with rfl | q3
          · rw [up2_self]
          · rw [up2_ne (by omega)]
            exact hS q q3
        · rcases (show q = i ∨ q < i by omega) with rfl | q3
          · exact fun k hk => (hT.2.2 k hk).2.2.2.1
          · exact hZ q q3
        · funext q
          rw [Q30 72 q (by omega), up2_ne (by omega), h72]
  refine aw_aload_n (i := 0) dX5_isSoWith_0 rfl rfl ?_
  refine aw_iload_n (i := 1) dX5_isSoWith_1 rfl rfl ?_
  refine aw_iload_n (i := 2) dX5_isSoWith_2 rfl rfl ?_
  refine aw_iload_n (i := 3) dX5_isSoWith_3 rfl rfl ?_
  refine ax_gV3v (M' := MX5_startsWith) (ci := 5) dX5_isSoWith_4 lmX5_252 oX5_startsWith (by decide +kernel) (by assumption) rfl rfl (Nat.le_of_ble_eq_true rfl) (n_startsWith hB hj hpt v hv hG0) (fun S_ h_ => ?_)
  obtain ⟨f4, rfl, T4, Q4⟩ := h_
  refine aw_iconst (v := 0) dX5_isSoWith_7 (by decide) ?_
  refine aw_istore (i := 4) (L' := [_, _, _, _, _, _, _]) dX5_isSoWith_8 (Nat.le_of_ble_eq_true rfl) rfl rfl ?_
  exact loop 41 0 f4 rfl T4 (fun q hq => by omega) (fun q hq => by omega) (funext fun q => Q4 72 q (by omega) (by omega) (by omega))
