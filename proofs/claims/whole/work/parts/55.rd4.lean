theorem upd_ne {g : Nat → Int32} {k j : Nat} {x : Int32} (h : j ≠ k) : upd g k x j = g j := if_neg h
theorem upd_eq (g : Nat → Int32) (k : Nat) (x : Int32) : upd g k x k = x := if_pos rfl
/-- the board at b holds what was told -/
def TBx (f : Nat → Nat → Int32) (b : Nat) (D : Nat → Int32) (n np told : Nat) : Prop :=
  (n ≤ 4 ∧ np ≤ 8 ∧ told ≤ 1) ∧ (f b 1 = nI n ∧ f b 5 = nI np ∧ f b 6 = D 54 ∧ f b 7 = 0 ∧ f b 11 = 0) ∧ (∀ k, k < n → ∀ j, j < 7 → f (b + 2 + k) j = D (7 * k + j)) ∧ (∀ j, j < np → f (b + 6) j = D (29 + 3 * j + 0) ∧ f (b + 7) j = D (29 + 3 * j + 1) ∧ f (b + 8) j = D (29 + 3 * j + 2)) ∧ (∀ k, n ≤ k → k < 4 → ∀ j, 3 ≤ j → j < 7 → D (7 * k + j) = 0)
def TB (f : Nat → Nat → Int32) (b : Nat) (s : pst) : Prop := TBx f b s.1 s.2.1 s.2.2.1 s.2.2.2
theorem pL_lt {ch : Nat → Int32} {q n np told p' : Nat} (h : pL ch q n np told = .inl p') : lnN ch q ≠ -4 ∧ (lnN ch q = 5 → told = 0 ∧ ∃ r, (pEv ch q).2 = .inl r) ∧ (lnN ch q ≠ 5 → lnN ch q = 4 → np < 8 ∧ ∃ r, (pP3 ch q).2 = .inl r) ∧ (lnN ch q ≠ 5 → lnN ch q ≠ 4 → n < 4 ∧ ∃ r, (pK2 ch q).2 = .inl r) := by
  unfold pL at h
  split at h
  · cases h
  · rename_i z1
    refine ⟨z1, fun z => ?_, fun z y => ?_, fun z y => ?_⟩
    · rw [if_pos z] at h
      split at h
      · rename_i z2; exact ⟨z2, pSemi_src h⟩
      · cases h
    · rw [if_neg z, if_pos y] at h
      split at h
      · rename_i z2; exact ⟨z2, pSemi_src h⟩
      · cases h
    · rw [if_neg z, if_neg y] at h
      split at h
      · rename_i z2; exact ⟨z2, pSemi_src h⟩
      · cases h
theorem TB_step {f : Nat → Nat → Int32} {s : pst} {ch : Nat → Int32} {q p' : Nat} (h : TB f 14 s) (hp' : pL ch q s.2.1 s.2.2.1 s.2.2.2 = .inl p') : TB (bStep ch q f s.2.1 s.2.2.1) 14 (pStep ch q s) := by
  obtain ⟨D, n, np, told⟩ := s
  obtain ⟨⟨a1, a2, a3⟩, ⟨b1, b2, b3, b4, b5⟩, hk, hpr, hz⟩ := h
  obtain ⟨c1, c2, c3, c4⟩ := pL_lt hp'
  simp only at a1 a2 a3 b1 b2 b3 b4 b5 hk hpr hz c2 c3 c4 ⊢
  unfold TB bStep pStep
  by_cases e5 : lnN ch q = 5
  · rw [if_pos e5, if_pos e5]
    show TBx (up2 f 14 6 (pEv ch q).1) 14 (upd D 54 (pEv ch q).1) n np 1
    refine ⟨⟨a1, a2, Nat.le_refl _⟩, ⟨?_, ?_, ?_, ?_, ?_⟩, fun k hk1 j hj => ?_, fun j hj => ?_, fun k k1 k2 j j1 j2 => ?_⟩
    · rw [up2_ne (by omega)]; exact b1
    · rw [up2_ne (by omega)]; exact b2
    · rw [up2_self]; exact (upd_eq _ _ _).symm
    · rw [up2_ne (by omega)]; exact b4
    · rw [up2_ne (by omega)]; exact b5
    · have : k < n := hk1
      rw [up2_ne (by omega), upd_ne (by omega)]; exact hk k hk1 j hj
    · have : j < np := hj
      rw [up2_ne (by omega), up2_ne (by omega), up2_ne (by omega), upd_ne (by omega), upd_ne (by omega), upd_ne (by omega)]; exact hpr j hj
    · rw [upd_ne (by omega)]; exact hz k k1 k2 j j1 j2
  · rw [if_neg e5, if_neg e5]
    by_cases e4 : lnN ch q = 4
    · rw [if_pos e4, if_pos e4]
      obtain ⟨hlt, -⟩ := c3 e5 e4
      show TBx (apF f 14 6 5 np (pP1 ch q).1 (pP2 ch q).1 (pP3 ch q).1) 14 (upd (upd (upd (upd D (29 + 3 * np + 0) (pP1 ch q).1) (29 + 3 * np + 1) (pP2 ch q).1) (29 + 3 * np + 2) (pP3 ch q).1) 53 (nI (np + 1))) n (np + 1) told
      unfold apF
      refine ⟨⟨a1, hlt, a3⟩, ⟨?_, ?_, ?_, ?_, ?_⟩, fun k hk1 j hj => ?_, fun j hj => ?_, fun k k1 k2 j j1 j2 => ?_⟩
      · rw [up2_ne (by omega), up2_ne (by omega), up2_ne (by omega), up2_ne (by omega)]; exact b1
      · exact up2_self _ _ _ _
      · rw [up2_ne (by omega), up2_ne (by omega), up2_ne (by omega), up2_ne (by omega), upd_ne (by omega), upd_ne (by omega), upd_ne (by omega), upd_ne (by omega)]; exact b3
      · rw [up2_ne (by omega), up2_ne (by omega), up2_ne (by omega), up2_ne (by omega)]; exact b4
      · rw [up2_ne (by omega), up2_ne (by omega), up2_ne (by omega), up2_ne (by omega)]; exact b5
      · have : k < n := hk1
        rw [up2_ne (by omega), up2_ne (by omega), up2_ne (by omega), up2_ne (by omega), upd_ne (by omega), upd_ne (by omega), upd_ne (by omega), upd_ne (by omega)]; exact hk k hk1 j hj
      · have hj' : j < np + 1 := hj
        rcases (show j = np ∨ j < np by omega) with rfl | hj2
        · refine ⟨?_, ?_, ?_⟩
          · rw [up2_ne (by omega), up2_ne (by omega), up2_ne (by omega), up2_self, upd_ne (by omega), upd_ne (by omega), upd_ne (by omega), upd_eq]
          · rw [up2_ne (by omega), up2_ne (by omega), up2_self, upd_ne (by omega), upd_ne (by omega), upd_eq]
          · rw [up2_ne (by omega), up2_self, upd_ne (by omega), upd_eq]
        · obtain ⟨x1, x2, x3⟩ := hpr j hj2
          refine ⟨?_, ?_, ?_⟩
          · rw [up2_ne (by omega), up2_ne (by omega), up2_ne (by omega), up2_ne (by omega), upd_ne (by omega), upd_ne (by omega), upd_ne (by omega), upd_ne (by omega)]; exact x1
          · rw [up2_ne (by omega), up2_ne (by omega), up2_ne (by omega), up2_ne (by omega), upd_ne (by omega), upd_ne (by omega), upd_ne (by omega), upd_ne (by omega)]; exact x2
          · rw [up2_ne (by omega), up2_ne (by omega), up2_ne (by omega), up2_ne (by omega), upd_ne (by omega), upd_ne (by omega), upd_ne (by omega), upd_ne (by omega)]; exact x3
      · rw [upd_ne (by omega), upd_ne (by omega), upd_ne (by omega), upd_ne (by omega)]; exact hz k k1 k2 j j1 j2
    · rw [if_neg e4, if_neg e4]
      obtain ⟨hlt, -⟩ := c4 e5 e4
      show TBx (akF f 14 n (lnN ch q) (pK1 ch q).1 (pK2 ch q).1) 14 (upd (upd (upd (upd D (7 * n + 1) (lnN ch q)) (7 * n + 0) (pK1 ch q).1) (7 * n + 2) (pK2 ch q).1) 28 (nI (n + 1))) (n + 1) np told
      unfold akF
      refine ⟨⟨hlt, a2, a3⟩, ⟨?_, ?_, ?_, ?_, ?_⟩, fun k hk1 j hj => ?_, fun j hj => ?_, fun k k1 k2 j j1 j2 => ?_⟩
      · exact up2_self _ _ _ _
      · rw [up2_ne (by omega), upk_ne (by omega)]; exact b2
      · rw [up2_ne (by omega), upk_ne (by omega), upd_ne (by omega), upd_ne (by omega), upd_ne (by omega), upd_ne (by omega)]; exact b3
      · rw [up2_ne (by omega), upk_ne (by omega)]; exact b4
      · rw [up2_ne (by omega), upk_ne (by omega)]; exact b5
      · have hk' : k < n + 1 := hk1
        rcases (show k = n ∨ k < n by omega) with rfl | hk2
        · rw [up2_ne (by omega), upk_at, upd_ne (by omega)]
          rcases (show j = 0 ∨ j = 1 ∨ j = 2 ∨ (3 ≤ j ∧ j < 7) by omega) with rfl | rfl | rfl | h3
          · rw [upd_ne (by omega), upd_eq]; rfl
          · rw [upd_ne (by omega), upd_ne (by omega), upd_eq]; rfl
          · rw [upd_eq]; rfl
          · rw [upd_ne (by omega), upd_ne (by omega), upd_ne (by omega), hz k (Nat.le_refl _) hlt j h3.1 h3.2]
            rcases (show j = 3 ∨ j = 4 ∨ j = 5 ∨ j = 6 by omega) with rfl | rfl | rfl | rfl <;> rfl
        · rw [up2_ne (by omega), upk_ne (by omega), upd_ne (by omega), upd_ne (by omega), upd_ne (by omega), upd_ne (by omega)]; exact hk k hk2 j hj
      · have : j < np := hj
        obtain ⟨x1, x2, x3⟩ := hpr j hj
        refine ⟨?_, ?_, ?_⟩
        · rw [up2_ne (by omega), upk_ne (by omega), upd_ne (by omega), upd_ne (by omega), upd_ne (by omega), upd_ne (by omega)]; exact x1
        · rw [up2_ne (by omega), upk_ne (by omega), upd_ne (by omega), upd_ne (by omega), upd_ne (by omega), upd_ne (by omega)]; exact x2
        · rw [up2_ne (by omega), upk_ne (by omega), upd_ne (by omega), upd_ne (by omega), upd_ne (by omega), upd_ne (by omega)]; exact x3
      · have k1' : n + 1 ≤ k := k1
        rw [upd_ne (by omega), upd_ne (by omega), upd_ne (by omega), upd_ne (by omega)]; exact hz k (by omega) k2 j j1 j2
abbrev kyOK (s : pst) : Prop := ∀ j, j < s.2.2.1 → (0 ≤ s.1 (29 + 3 * j + 1) ∧ s.1 (29 + 3 * j + 1) ≤ nI s.2.1 - 1)
/-- how a text ends: so many lines, or a fault -/
def pEnd (L : Nat) (o : sg × Nat × pst) : sg := match o.1 with
  | .inr x => .inr x
  | .inl _ => if kyOK o.2.2 then .inl o.2.1 else .inr (6, L)
def ps0 : pst := (upd (fun _ => 0) 54 1, 0, 0, 0)
def RLp (L : Nat) (o : sg × Nat × pst) (f' : Nat → Nat → Int32) (g' : Nat → Int32) (x : Int32) : sg → Prop
  | .inr y => g' 8 = nI y.1 ∧ (1 ≤ y.1 ∧ y.1 ≤ 6) ∧ g' 9 = nI y.2
  | .inl i => g' 8 = 0 ∧ x = nI i ∧ TB f' 14 o.2.2
theorem pLo_s (ch : Nat → Int32) (m p i : Nat) (s : pst) : pLo ch (m + 1) p i s = if zk ch (zQ ch p) = 4 then (.inr (1, zQ ch p), i, s) else if zk ch (zQ ch p) = 0 then (.inl p, i, s) else match pL ch (zQ ch p) s.2.1 s.2.2.1 s.2.2.2 with
    | .inr x => (.inr x, i + 1, s)
    | .inl p' => pLo ch m p' (i + 1) (pStep ch (zQ ch p) s) := rfl
theorem CS_to {ch g : Nat → Int32} {L : Nat} {x : Nat × Nat} (h : CS L g (.inr x)) : CS L (upd g 4 4) (.inr x) := h
theorem pStep_t (ch : Nat → Int32) (q : Nat) (s : pst) : (pStep ch q s).2.2.2 = tStep ch q s.2.2.2 := by
  unfold pStep tStep
  split
  · rfl
  · split <;> rfl
theorem kyOK_TB {f : Nat → Nat → Int32} {s : pst} {b : Nat} (h : TB f b s) : kyOK s ↔ ∀ i, i < s.2.2.1 → (0 ≤ f (b + 7) i ∧ f (b + 7) i ≤ f b 1 - 1) := by
  unfold kyOK
  constructor
  · intro z i hi
    rw [(h.2.2.2.1 i hi).2.1, h.2.1.1]
    exact z i hi
  · intro z i hi
    have := z i hi
    rw [(h.2.2.2.1 i hi).2.1, h.2.1.1] at this
    exact this
set_option maxRecDepth 100000 in
set_option maxHeartbeats 1000000 in
theorem g_X3_readLines {V : am_V} {d L : Nat} {f : Nat → Nat → Int32} {g ch : Nat → Int32} {τ : Nat → Nat → Int64} (hT : tpOK f 1 L ch) : AGi V MX3_readLines (d + 7) [.ref 61, .int (nI L)] (upk f 61 g, τ) (fun x S' => ∃ f' g', S' = (upk f' 61 g', τ) ∧ (∀ c, (c < 14 ∨ 26 ≤ c) → f' c = f c) ∧ RLp L (pLo ch 161 0 0 ps0) f' g' x (pEnd L (pLo ch 161 0 0 ps0))) := by
  have tR := tb_rd
  have tT := tb_tp
  have t14 := tb_B isB14
  have hL := hT.1
  refine AM.of (L := [some (.ref 61), some (.int (nI L)), none]) (by decide +kernel) (Nat.le_of_ble_eq_true rfl) rfl ?_
  have loop : ∀ (m p i : Nat) (s : pst) (f1 : Nat → Nat → Int32) (g1 : Nat → Int32), p ≤ L → i ≤ p → L - p < m → (∀ c, (c < 14 ∨ 26 ≤ c) → f1 c = f c) → TB f1 14 s → CT ch L g1 (zQ ch p) → g1 7 = nI s.2.2.2 → AW V MX3_readLines (d + 7) 0 0 46 [some (.ref 61), some (.int (nI L)), some (.int (nI i))] [] (hp (upk f1 61 g1, τ)) (fun r' h' => ∃ (x : Int32) (S' : fm), r' = some (.int x) ∧ h' = hp S' ∧ ∃ f' g', S' = (upk f' 61 g', τ) ∧ (∀ c, (c < 14 ∨ 26 ≤ c) → f' c = f c) ∧ RLp L (pLo ch m p i s) f' g' x (pEnd L (pLo ch m p i s))) := by
    intro m
    induction m with
    | zero => intro p i s f1 g1 a b c; omega
    | succ m ih =>
      intro p i s f1 g1 hpL hip hm hE hB hC h7
      have hT1 : tpOK f1 1 L ch := hT.mv (hE 1 (Or.inl (by omega)))
      have hqL := hC.2.1
      by_cases hz4 : zk ch (zQ ch p) = 4
      · obtain ⟨h8, h9, h4⟩ := hC.2.2.1 hz4
        have n8 : ¬ g1 8 = 0 := by rw [h8]; decide
        rw [pLo_s, if_pos hz4]
        refine aw_aload_n (i := 0) dX3_readLines_46 rfl rfl ?_
        refine ax_getK (ci := 3) 8 dX3_readLines_47 rfl lfX3_41 (by decide) (by assumption) (by rfl) ?_
        refine aw_if_ne (tgt := 81) dX3_readLines_50 (by decide) (fun c50 => ?_) (fun c50 => ?_)
        · refine aw_aload_n (i := 0) dX3_readLines_81 rfl rfl ?_
          refine ax_getK (ci := 3) 8 dX3_readLines_82 rfl lfX3_41 (by decide) (by assumption) (by rfl) ?_
          refine aw_if_ne (tgt := 108) dX3_readLines_85 (by decide) (fun c85 => ?_) (fun c85 => ?_)
          · refine aw_iload_n (i := 2) dX3_readLines_108 rfl rfl ?_
            refine aw_ireturn (ty := .int) dX3_readLines_109 rfl rfl ?_
            exact ⟨_, _, rfl, rfl, f1, g1, rfl, hE, h8, ⟨Nat.le_refl _, Nat.le_of_ble_eq_true rfl⟩, h9⟩
          · exact absurd c85 n8
        · exact absurd c50 n8
      · obtain ⟨h8, h4, h5, h3, h6⟩ := hC.2.2.2 hz4
        rw [pLo_s, if_neg hz4]
        by_cases hz0 : zk ch (zQ ch p) = 0
        · rw [if_pos hz0]
          have e4 : g1 4 = 0 := by rw [h4, hz0]; rfl
          refine aw_aload_n (i := 0) dX3_readLines_46 rfl rfl ?_
          refine ax_getK (ci := 3) 8 dX3_readLines_47 rfl lfX3_41 (by decide) (by assumption) (by rfl) ?_
          refine aw_if_ne (tgt := 81) dX3_readLines_50 (by decide) (fun c50 => ?_) (fun c50 => ?_)
          · exact absurd h8 c50
          · refine aw_aload_n (i := 0) dX3_readLines_53 rfl rfl ?_
            refine ax_getK (ci := 3) 4 dX3_readLines_54 rfl lfX3_50 (by decide) (by assumption) (by rfl) ?_
            refine aw_if_eq (tgt := 81) dX3_readLines_57 (by decide) (fun c57 => ?_) (fun c57 => ?_)
            · refine aw_aload_n (i := 0) dX3_readLines_81 rfl rfl ?_
              refine ax_getK (ci := 3) 8 dX3_readLines_82 rfl lfX3_41 (by decide) (by assumption) (by rfl) ?_
              refine aw_if_ne (tgt := 108) dX3_readLines_85 (by decide) (fun c85 => ?_) (fun c85 => ?_)
              · exact absurd h8 c85
              · refine aw_aload_n (i := 0) dX3_readLines_88 rfl rfl ?_
                refine ax_getr (ci := 3) 1 dX3_readLines_89 rfl lfX3_15 (by decide) (by assumption) (by rfl) ?_
                refine ax_callV0i (M' := MX0_hasPressOfNoKey) (ci := 0) dX3_readLines_92 lmX3_56 oX0_hasPressOfNoKey (by decide +kernel) (by assumption) rfl rfl (Nat.le_of_ble_eq_true rfl) (f_X0_hasPressOfNoKey isB14 hB.1.2.1 (by rw [upk_ne (by omega)]; exact hB.2.1.2.1)) ?_
                refine aw_beq (tgt := 108) dX3_readLines_95 (by decide) (fun c95 => ?_) (fun c95 => ?_)
                · refine aw_iload_n (i := 2) dX3_readLines_108 rfl rfl ?_
                  refine aw_ireturn (ty := .int) dX3_readLines_109 rfl rfl ?_
                  first
                    | (have ok : kyOK s := (kyOK_TB hB).mpr (by
                         have c := Decidable.of_not_not c95
                         intro i hi
                         have := c i hi
                         rw [upk_ne (by omega), upk_ne (by omega)] at this
                         exact this)
                       refine ⟨_, _, rfl, rfl, f1, g1, rfl, hE, ?_⟩
                       rw [show pEnd L (Sum.inl p, i, s) = .inl i from if_pos ok]
                       exact ⟨h8, rfl, hB⟩)
                    | (have ok : ¬ kyOK s := fun z => c95 (fun i hi => by
                         have := (kyOK_TB hB).mp z i hi
                         rw [upk_ne (by omega), upk_ne (by omega)]
                         exact this)
                       refine ⟨_, _, rfl, rfl, f1, _, rfl, hE, ?_⟩
                       rw [show pEnd L (Sum.inl p, i, s) = .inr (6, L) from if_neg ok, flG_t h8]
                       exact ⟨rfl, ⟨Nat.le_of_ble_eq_true rfl, Nat.le_refl _⟩, rfl⟩)
                · refine aw_aload_n (i := 0) dX3_readLines_98 rfl rfl ?_
                  refine aw_bipush (v := 6) dX3_readLines_99 (by decide) ?_
                  refine aw_aload_n (i := 0) dX3_readLines_101 rfl rfl ?_
                  refine ax_getK (ci := 3) 2 dX3_readLines_102 rfl lfX3_30 (by decide) (by assumption) (by rfl) ?_
                  refine aw_tE (nI L) hC.1 ?_
                  refine ax_callV2v (M' := MX3_fail) (ci := 3) dX3_readLines_105 lmX3_60 oX3_fail (by decide +kernel) (by assumption) rfl rfl (Nat.le_of_ble_eq_true rfl) (f_X3_fail _ _) ?_
                  refine aw_iload_n (i := 2) dX3_readLines_108 rfl rfl ?_
                  refine aw_ireturn (ty := .int) dX3_readLines_109 rfl rfl ?_
                  first
                    | (have ok : kyOK s := (kyOK_TB hB).mpr (by
                         have c := Decidable.of_not_not c95
                         intro i hi
                         have := c i hi
                         rw [upk_ne (by omega), upk_ne (by omega)] at this
                         exact this)
                       refine ⟨_, _, rfl, rfl, f1, g1, rfl, hE, ?_⟩
                       rw [show pEnd L (Sum.inl p, i, s) = .inl i from if_pos ok]
                       exact ⟨h8, rfl, hB⟩)
                    | (have ok : ¬ kyOK s := fun z => c95 (fun i hi => by
                         have := (kyOK_TB hB).mp z i hi
                         rw [upk_ne (by omega), upk_ne (by omega)]
                         exact this)
                       refine ⟨_, _, rfl, rfl, f1, _, rfl, hE, ?_⟩
                       rw [show pEnd L (Sum.inl p, i, s) = .inr (6, L) from if_neg ok, flG_t h8]
                       exact ⟨rfl, ⟨Nat.le_of_ble_eq_true rfl, Nat.le_refl _⟩, rfl⟩)
            · exact absurd e4 c57
        · rw [if_neg hz0]
          have e4 : ¬ g1 4 = 0 := by rw [h4]; exact nI_ne0 (by omega) (by have := zk_le ch (zQ ch p); omega)
          have hgt := zr_gt hz0
          have hge := zQ_ge ch p
          have hpO := pL_OK hT1 hqL s.2.1 s.2.2.1 s.2.2.2
          refine aw_aload_n (i := 0) dX3_readLines_46 rfl rfl ?_
          refine ax_getK (ci := 3) 8 dX3_readLines_47 rfl lfX3_41 (by decide) (by assumption) (by rfl) ?_
          refine aw_if_ne (tgt := 81) dX3_readLines_50 (by decide) (fun c50 => ?_) (fun c50 => ?_)
          · exact absurd h8 c50
          · refine aw_aload_n (i := 0) dX3_readLines_53 rfl rfl ?_
            refine ax_getK (ci := 3) 4 dX3_readLines_54 rfl lfX3_50 (by decide) (by assumption) (by rfl) ?_
            refine aw_if_eq (tgt := 81) dX3_readLines_57 (by decide) (fun c57 => ?_) (fun c57 => ?_)
            · exact absurd c57 e4
            · refine aw_iload_n (i := 2) dX3_readLines_60 rfl rfl ?_
              refine aw_sipush (v := 160) dX3_readLines_61 (by decide) ?_
              refine aw_icmp_gt (tgt := 81) dX3_readLines_64 (by decide) (fun c64 => ?_) (fun c64 => ?_)
              · exact absurd ((nI_ltI (a := 160) (by omega) (by omega)).mp c64) (by omega)
              · refine aw_aload_n (i := 0) dX3_readLines_67 rfl rfl ?_
                refine ax_gV0v (M' := MX3_readLine) (ci := 3) dX3_readLines_68 lmX3_53 oX3_readLine (by decide +kernel) (by assumption) rfl rfl (Nat.le_of_ble_eq_true rfl) (g_X3_readLine hT1 hC hz4 hB.1.1 hB.2.1.1 hB.1.2.1 hB.2.1.2.1 hB.1.2.2 h7) (fun S_ h_ => ?_)
                obtain ⟨f2, g2, rfl, hC2, hq2, hb⟩ := h_
                cases hσ : pL ch (zQ ch p) s.2.1 s.2.2.1 s.2.2.2 with
                | inl p2 =>
                  rw [hσ] at hC2 hpO
                  have hb2 := hb p2 hσ
                  have hT2 : tpOK f2 1 L ch := hT1.mv (hq2 1 (Or.inl (by omega)))
                  refine aw_aload_n (i := 0) dX3_readLines_71 rfl rfl ?_
                  refine ax_gV0v (M' := MX3_nextToken) (ci := 3) dX3_readLines_72 lmX3_47 oX3_nextToken (by decide +kernel) (by assumption) rfl rfl (Nat.le_of_ble_eq_true rfl) (g_X3_next hT2 hpO.2 hC2.2.2.2 hC2.2.1 hC2.1) (fun S_ h_ => ?_)
                  obtain ⟨g3, rfl, hC3, h73⟩ := h_
                  refine aw_incN (L' := [_, _, _]) dX3_readLines_75 rfl (Nat.le_of_ble_eq_true rfl) rfl rfl ?_
                  refine aw_goto (tgt := 46) dX3_readLines_78 (by decide) ?_
                  refine ih p2 (i + 1) (pStep ch (zQ ch p) s) f2 g3 hpO.2 (by have := hpO.1; omega) (by have := hpO.1; have := hpO.2; omega) (fun c hc => (hq2 c hc).trans (hE c hc)) ?_ hC3 ?_
                  · rw [hb2.1]; exact TB_step hB hσ
                  · rw [h73, hb2.2, pStep_t]
                | inr x2 =>
                  rw [hσ] at hC2
                  have n8 : ¬ g2 8 = 0 := by rw [hC2.1]; exact nI_6 hC2.2.1
                  refine aw_aload_n (i := 0) dX3_readLines_71 rfl rfl ?_
                  refine ax_callV0v (M' := MX3_nextToken) (ci := 3) dX3_readLines_72 lmX3_47 oX3_nextToken (by decide +kernel) (by assumption) rfl rfl (Nat.le_of_ble_eq_true rfl) (f_X3_nextF n8) ?_
                  refine aw_incN (L' := [_, _, _]) dX3_readLines_75 rfl (Nat.le_of_ble_eq_true rfl) rfl rfl ?_
                  refine aw_goto (tgt := 46) dX3_readLines_78 (by decide) ?_
                  refine aw_aload_n (i := 0) dX3_readLines_46 rfl rfl ?_
                  refine ax_getK (ci := 3) 8 dX3_readLines_47 rfl lfX3_41 (by decide) (by assumption) (by rfl) ?_
                  refine aw_if_ne (tgt := 81) dX3_readLines_50 (by decide) (fun c50 => ?_) (fun c50 => ?_)
                  · refine aw_aload_n (i := 0) dX3_readLines_81 rfl rfl ?_
                    refine ax_getK (ci := 3) 8 dX3_readLines_82 rfl lfX3_41 (by decide) (by assumption) (by rfl) ?_
                    refine aw_if_ne (tgt := 108) dX3_readLines_85 (by decide) (fun c85 => ?_) (fun c85 => ?_)
                    · refine aw_iload_n (i := 2) dX3_readLines_108 rfl rfl ?_
                      refine aw_ireturn (ty := .int) dX3_readLines_109 rfl rfl ?_
                      exact ⟨_, _, rfl, rfl, f2, upd g2 4 4, rfl, fun c hc => (hq2 c hc).trans (hE c hc), hC2.1, hC2.2.1, hC2.2.2.1⟩
                    · exact absurd c85 n8
                  · exact absurd c50 n8
  refine aw_aload_n (i := 0) dX3_readLines_0 rfl rfl ?_
  refine ax_getr (ci := 3) 1 dX3_readLines_1 rfl lfX3_15 (by decide) (by assumption) (by rfl) ?_
  refine ax_callV0v (M' := MX0_clear) (ci := 0) dX3_readLines_4 lmX3_19 oX0_clear (by decide +kernel) (by assumption) rfl rfl (Nat.le_of_ble_eq_true rfl) (f_X0_clear isB14) ?_
  rw [clF_upk]
  refine aw_aload_n (i := 0) dX3_readLines_7 rfl rfl ?_
  refine aw_iload_n (i := 1) dX3_readLines_8 rfl rfl ?_
  refine aw_aload_n (i := 0) dX3_readLines_9 rfl rfl ?_
  refine ax_getr (ci := 3) 0 dX3_readLines_10 rfl lfX3_9 (by decide) (by assumption) (by rfl) ?_
  refine ax_alen dX3_readLines_13 (by assumption) rfl ?_
  refine aw_mmin dX3_readLines_14 lmX3_24 (Nat.le_of_ble_eq_true rfl) ?_
  refine aw_tE (nI L) (if_neg (nI_nlt (a := 160) (b := L) (by omega) (by omega))) ?_
  refine ax_putK (ci := 3) 2 dX3_readLines_17 rfl lfX3_30 (by decide) (by assumption) (by rfl) rfl rfl ?_
  refine aw_aload_n (i := 0) dX3_readLines_20 rfl rfl ?_
  refine aw_iconst (v := 0) dX3_readLines_21 (by decide) ?_
  refine ax_putK (ci := 3) 3 dX3_readLines_22 rfl lfX3_34 (by decide) (by assumption) (by rfl) rfl rfl ?_
  refine aw_aload_n (i := 0) dX3_readLines_25 rfl rfl ?_
  refine aw_iconst (v := 0) dX3_readLines_26 (by decide) ?_
  refine ax_putKz (ci := 3) 7 dX3_readLines_27 rfl lfX3_37 (by decide) (by assumption) (by rfl) rfl rfl (Or.inl rfl) ?_
  refine aw_aload_n (i := 0) dX3_readLines_30 rfl rfl ?_
  refine aw_iconst (v := 0) dX3_readLines_31 (by decide) ?_
  refine ax_putK (ci := 3) 8 dX3_readLines_32 rfl lfX3_41 (by decide) (by assumption) (by rfl) rfl rfl ?_
  refine aw_aload_n (i := 0) dX3_readLines_35 rfl rfl ?_
  refine aw_iconst (v := 0) dX3_readLines_36 (by decide) ?_
  refine ax_putK (ci := 3) 9 dX3_readLines_37 rfl lfX3_44 (by decide) (by assumption) (by rfl) rfl rfl ?_
  refine aw_iconst (v := 0) dX3_readLines_40 (by decide) ?_
  refine aw_istore_n (i := 2) (L' := [_, _, _]) dX3_readLines_41 rfl (Nat.le_of_ble_eq_true rfl) rfl rfl ?_
  refine aw_aload_n (i := 0) dX3_readLines_42 rfl rfl ?_
  refine ax_gV0v (M' := MX3_nextToken) (ci := 3) dX3_readLines_43 lmX3_47 oX3_nextToken (by decide +kernel) (by assumption) rfl rfl (Nat.le_of_ble_eq_true rfl) (g_X3_next (f := clF f 14) (p := 0) (hT.mv (funext fun j => by unfold clF; rw [up2_ne (by omega), up2_ne (by omega), up2_ne (by omega), up2_ne (by omega), up2_ne (by omega)])) (Nat.zero_le _) rfl rfl rfl) (fun S_ h_ => ?_)
  obtain ⟨g1, rfl, hC1, h71⟩ := h_
  refine loop 161 0 0 ps0 (clF f 14) g1 (Nat.zero_le _) (Nat.le_refl _) (by omega) (fun c hc => funext fun j => by unfold clF; rw [up2_ne (by omega), up2_ne (by omega), up2_ne (by omega), up2_ne (by omega), up2_ne (by omega)]) ?_ hC1 h71
  exact ⟨⟨Nat.zero_le _, Nat.zero_le _, Nat.zero_le _⟩, ⟨rfl, rfl, rfl, rfl, rfl⟩, fun k hk => absurd hk (Nat.not_lt_zero _), fun j hj => absurd hj (Nat.not_lt_zero _), fun k k1 k2 j j1 j2 => by
    show upd (fun _ => 0) 54 1 (7 * k + j) = 0
    rw [upd_ne (by omega)]⟩
