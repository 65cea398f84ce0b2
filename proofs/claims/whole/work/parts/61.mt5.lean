abbrev eq75 (D D' : Nat → Int32) : Prop := ∀ j, j < 75 → D j = D' j
theorem eq75_upd {D D' : Nat → Int32} (h : eq75 D D') (k : Nat) (x : Int32) : eq75 (upd D k x) (upd D' k x) := by
  intro j hj
  unfold upd
  split
  · rfl
  · exact h j hj
theorem eq75_step {ch : Nat → Int32} {q n np : Nat} {D D' : Nat → Int32} (h : eq75 D D') : eq75 (mStep ch q D n np) (mStep ch q D' n np) := by
  unfold mStep
  split
  · exact eq75_upd h _ _
  · split
    · exact eq75_upd (eq75_upd (eq75_upd (eq75_upd h _ _) _ _) _ _) _ _
    · exact eq75_upd (eq75_upd (eq75_upd (eq75_upd h _ _) _ _) _ _) _ _
theorem pStep_1 (ch : Nat → Int32) (q : Nat) (s : pst) : (pStep ch q s).1 = mStep ch q s.1 s.2.1 s.2.2.1 := by
  unfold pStep mStep
  split
  · rfl
  · split <;> rfl
/-- what was told so far, and the highest key of its presses -/
def PIv (h : Int32) (D : Nat → Int32) (n np told : Nat) : Prop := (n ≤ 4 ∧ np ≤ 8 ∧ told ≤ 1) ∧ (D 28 = nI n ∧ D 53 = nI np) ∧ (∀ j, j < np → 0 ≤ D (29 + 3 * j + 1) ∧ D (29 + 3 * j + 1) ≤ h) ∧ (h = -1 ∨ ∃ j, j < np ∧ D (29 + 3 * j + 1) = h)
def PI (h : Int32) (s : pst) : Prop := PIv h s.1 s.2.1 s.2.2.1 s.2.2.2
theorem hiF_l (h k : Int32) : h ≤ hiF h k := by
  unfold hiF
  split
  · rename_i z; exact Int32.le_of_lt z
  · exact Int32.le_refl _
theorem hiF_r (h k : Int32) : k ≤ hiF h k := by
  unfold hiF
  split
  · exact Int32.le_refl _
  · rename_i z; exact Int32.not_lt.mp z
theorem hiF_or (h k : Int32) : hiF h k = k ∨ hiF h k = h := by
  unfold hiF
  split
  · exact Or.inl rfl
  · exact Or.inr rfl
theorem PI_step {h : Int32} {s : pst} {ch : Nat → Int32} {q p' : Nat} (hI : PI h s) (hp' : pL ch q s.2.1 s.2.2.1 s.2.2.2 = .inl p') : PI (hStep ch q h) (pStep ch q s) := by
  obtain ⟨D, n, np, told⟩ := s
  obtain ⟨⟨a1, a2, a3⟩, ⟨b1, b2⟩, hk, hz⟩ := hI
  obtain ⟨c1, c2, c3, c4⟩ := pL_lt hp'
  simp only at a1 a2 a3 b1 b2 hk hz c2 c3 c4 ⊢
  unfold PI hStep pStep
  by_cases e5 : lnN ch q = 5
  · rw [if_pos e5, if_neg (show ¬ lnN ch q = 4 from fun z => absurd (e5.symm.trans z) (by decide))]
    show PIv h (upd D 54 (pEv ch q).1) n np 1
    refine ⟨⟨a1, a2, Nat.le_refl _⟩, ⟨?_, ?_⟩, fun j hj => ?_, ?_⟩
    · rw [upd_ne (by omega)]; exact b1
    · rw [upd_ne (by omega)]; exact b2
    · rw [upd_ne (by omega)]; exact hk j hj
    · rcases hz with z | ⟨j, hj, z⟩
      · exact Or.inl z
      · exact Or.inr ⟨j, hj, by rw [upd_ne (by omega)]; exact z⟩
  · rw [if_neg e5]
    by_cases e4 : lnN ch q = 4
    · rw [if_pos e4, if_pos e4]
      obtain ⟨hlt, r, hr⟩ := c3 e5 e4
      obtain ⟨r2, hr2⟩ := pNum_src hr
      have hb := pNum_in hr2
      show PIv (hiF h (pP2 ch q).1) (upd (upd (upd (upd D (29 + 3 * np + 0) (pP1 ch q).1) (29 + 3 * np + 1) (pP2 ch q).1) (29 + 3 * np + 2) (pP3 ch q).1) 53 (nI (np + 1))) n (np + 1) told
      have eo : ∀ j, j < np → upd (upd (upd (upd D (29 + 3 * np + 0) (pP1 ch q).1) (29 + 3 * np + 1) (pP2 ch q).1) (29 + 3 * np + 2) (pP3 ch q).1) 53 (nI (np + 1)) (29 + 3 * j + 1) = D (29 + 3 * j + 1) := fun j hj => by rw [upd_ne (by omega), upd_ne (by omega), upd_ne (by omega), upd_ne (by omega)]
      have en : upd (upd (upd (upd D (29 + 3 * np + 0) (pP1 ch q).1) (29 + 3 * np + 1) (pP2 ch q).1) (29 + 3 * np + 2) (pP3 ch q).1) 53 (nI (np + 1)) (29 + 3 * np + 1) = (pP2 ch q).1 := by rw [upd_ne (by omega), upd_ne (by omega), upd_eq]
      refine ⟨⟨a1, hlt, a3⟩, ⟨?_, upd_eq _ _ _⟩, fun j hj => ?_, ?_⟩
      · rw [upd_ne (by omega), upd_ne (by omega), upd_ne (by omega), upd_ne (by omega)]; exact b1
      · rcases (show j = np ∨ j < np by omega) with rfl | hj2
        · rw [en]; exact ⟨hb.1, hiF_r _ _⟩
        · rw [eo j hj2]; exact ⟨(hk j hj2).1, Int32.le_trans (hk j hj2).2 (hiF_l _ _)⟩
      · rcases hiF_or h (pP2 ch q).1 with z | z
        · exact Or.inr ⟨np, Nat.lt_succ_self _, by rw [en, z]⟩
        · rcases hz with y | ⟨j, hj, y⟩
          · exact Or.inl (z.trans y)
          · exact Or.inr ⟨j, by omega, by rw [eo j hj, y, z]⟩
    · rw [if_neg e4, if_neg e4]
      obtain ⟨hlt, -⟩ := c4 e5 e4
      show PIv h (upd (upd (upd (upd D (7 * n + 1) (lnN ch q)) (7 * n + 0) (pK1 ch q).1) (7 * n + 2) (pK2 ch q).1) 28 (nI (n + 1))) (n + 1) np told
      have eo : ∀ j, j < np → upd (upd (upd (upd D (7 * n + 1) (lnN ch q)) (7 * n + 0) (pK1 ch q).1) (7 * n + 2) (pK2 ch q).1) 28 (nI (n + 1)) (29 + 3 * j + 1) = D (29 + 3 * j + 1) := fun j hj => by rw [upd_ne (by omega), upd_ne (by omega), upd_ne (by omega), upd_ne (by omega)]
      refine ⟨⟨hlt, a2, a3⟩, ⟨upd_eq _ _ _, ?_⟩, fun j hj => ?_, ?_⟩
      · rw [upd_ne (by omega), upd_ne (by omega), upd_ne (by omega), upd_ne (by omega)]; exact b2
      · rw [eo j hj]; exact hk j hj
      · rcases hz with z | ⟨j, hj, z⟩
        · exact Or.inl z
        · exact Or.inr ⟨j, hj, by rw [eo j hj]; exact z⟩
theorem le_pred {x : Int32} {n : Nat} (hn : n ≤ 4) (hx : 0 ≤ x) : x ≤ nI n - 1 ↔ x < nI n := by
  rcases (show n = 0 ∨ 1 ≤ n by omega) with rfl | h
  · constructor
    · intro z; exact absurd (Int32.le_trans hx z) (by decide)
    · intro z; exact absurd (Int32.lt_of_le_of_lt hx z) (by decide)
  · obtain ⟨m, rfl⟩ : ∃ m, n = m + 1 := ⟨n - 1, by omega⟩
    rw [nI_pred]
    obtain ⟨j, hj, rfl⟩ := nI_of (Int32.not_lt.mpr hx)
    rw [nI_leI hj (by omega), nI_ltI hj (by omega)]
    omega
theorem PI_ky {h : Int32} {s : pst} (hI : PI h s) : h < nI s.2.1 ↔ kyOK s := by
  obtain ⟨⟨a1, a2, a3⟩, ⟨b1, b2⟩, hk, hz⟩ := hI
  unfold kyOK
  constructor
  · intro z j hj
    exact ⟨(hk j hj).1, (le_pred a1 (hk j hj).1).mpr (Int32.lt_of_le_of_lt (hk j hj).2 z)⟩
  · intro z
    rcases hz with y | ⟨j, hj, y⟩
    · rw [y]
      exact Int32.lt_of_lt_of_le (by decide) (nI_pos' (by omega))
    · rw [← y]
      exact (le_pred a1 (hk j hj).1).mp (z j hj).2
def MXp (o : sg × Nat × pst) (f : Nat → Nat → Int32) (g : Nat → Int32) (x : Int32) (f' : Nat → Nat → Int32) : sg → Prop
  | .inr y => x = -10 - nI y.2 ∧ f' 64 12 = nI y.1 ∧ f' 64 7 = 0 ∧ (∀ j, (j < 4 ∨ j = 6 ∨ 14 ≤ j) → f' 64 j = g j) ∧ (∀ c j, c ≠ 68 → c ≠ 64 → f' c j = f c j)
  | .inl i => x = nI i ∧ f' 64 12 = 0 ∧ f' 64 7 = 0 ∧ (∀ j, (j < 4 ∨ j = 6 ∨ 14 ≤ j) → f' 64 j = g j) ∧ f' 67 0 = 0 ∧ f' 67 1 = 0 ∧ (∀ j, j < 75 → f' 65 j = o.2.2.1 j) ∧ (∀ c j, c ≠ 68 → c ≠ 64 → ¬ (c = 65 ∧ j < 75) → c ≠ 67 → f' c j = f c j)
set_option maxRecDepth 100000 in
set_option maxHeartbeats 1000000 in
theorem g_mText0 {V : am_V} {d L : Nat} {f : Nat → Nat → Int32} {D g ch : Nat → Int32} {τ : Nat → Nat → Int64} (hT : tpOK f 69 L ch) (h7 : g 7 = nI L) : AGi V MX5_text (d + 6) [.ref 64] (upk (upk f 68 D) 64 g, τ) (fun x S' => ∃ f', S' = (f', τ) ∧ MXp (pLo ch 161 0 0 ps0) f g x f' (pEnd L (pLo ch 161 0 0 ps0))) := by
  have tM := tb_M
  have t65 := tb_65
  have t67 := tb_67
  have t68 := tb_68
  have t69 := tb_69
  have hL := hT.1
  refine AM.of (L := [some (.ref 64), none]) (by decide +kernel) (Nat.le_of_ble_eq_true rfl) rfl ?_
  have exitF : ∀ (D1 g1 : Nat → Int32) (i : Nat) (y : Nat × Nat) (o : sg × Nat × pst), pEnd L o = .inr y → MS ch L g1 (.inr y) → mEh g1 g → AW V MX5_text (d + 6) 0 0 44 [some (.ref 64), some (.int (nI i))] [] (hp (upk (upk f 68 D1) 64 g1, τ)) (fun r' h' => ∃ (x : Int32) (S' : fm), r' = some (.int x) ∧ h' = hp S' ∧ ∃ f', S' = (f', τ) ∧ MXp (o) f g x f' (pEnd L (o))) := by
    intro D1 g1 i y o ho hs hE
    have hy := hs.2.1
    have n12 : ¬ g1 12 = 0 := by rw [hs.1]; exact nI_6 hy
    have n12' : ¬ g1 12 ≤ 0 := by rw [hs.1]; exact nI_nle (by omega) (by omega)
    refine aw_aload_n (i := 0) dX5_text_44 rfl rfl ?_
    refine aw_aload_n (i := 0) dX5_text_45 rfl rfl ?_
    refine ax_getK (ci := 5) 5 dX5_text_46 rfl lfX5_57 (by decide) (by assumption) (by rfl) ?_
    refine aw_aload_n (i := 0) dX5_text_49 rfl rfl ?_
    refine ax_getr (ci := 5) 3 dX5_text_50 rfl lfX5_20 (by decide) (by assumption) (by rfl) ?_
    refine aw_bipush (v := 28) dX5_text_53 (by decide) ?_
    refine ax_ialdD (i := 28) dX5_text_55 (by omega) ?_
    refine aw_icmp_ge (tgt := 63) dX5_text_56 (by decide) (fun c56 => ?_) (fun c56 => ?_)
    · refine aw_iconst (v := 0) dX5_text_63 (by decide) ?_
      refine aw_bipush (v := 6) dX5_text_64 (by decide) ?_
      refine ax_callV2v (M' := MX5_requires) (ci := 5) dX5_text_66 lmX5_108 oX5_requires (by decide +kernel) (by assumption) rfl rfl (Nat.le_of_ble_eq_true rfl) (f_req0 _) ?_
      first | rw [rqG_f n12] | skip
      refine aw_aload_n (i := 0) dX5_text_69 rfl rfl ?_
      refine aw_iconst (v := 0) dX5_text_70 (by decide) ?_
      refine ax_putK (ci := 5) 7 dX5_text_71 rfl lfX5_67 (by decide) (by assumption) (by rfl) rfl rfl ?_
      refine aw_aload_n (i := 0) dX5_text_74 rfl rfl ?_
      refine ax_getK (ci := 5) 12 dX5_text_75 rfl lfX5_70 (by decide) (by assumption) (by rfl) ?_
      refine aw_if_le (tgt := 89) dX5_text_78 (by decide) (fun c78 => ?_) (fun c78 => ?_)
      · exact absurd c78 n12'
      · refine aw_bipush (v := -10) dX5_text_81 (by decide) ?_
        refine aw_aload_n (i := 0) dX5_text_83 rfl rfl ?_
        refine ax_getK (ci := 5) 13 dX5_text_84 rfl lfX5_76 (by decide) (by assumption) (by rfl) ?_
        refine aw_isub dX5_text_87 ?_
        refine aw_ireturn (ty := .int) dX5_text_88 rfl rfl ?_
        refine ⟨_, _, rfl, rfl, _, rfl, ?_⟩
        rw [ho]
        refine ⟨by rw [show upd g1 7 0 13 = nI y.2 from hs.2.2], by rw [upk_at]; exact hs.1, by rw [upk_at]; rfl, fun j hj => ?_, fun c j h1 h2 => by rw [upk_ne h2, upk_ne h1]⟩
        rw [upk_at, upd_ne (by omega)]
        exact hE j (by omega)
    · refine aw_iconst (v := 1) dX5_text_59 (by decide) ?_
      refine aw_goto (tgt := 64) dX5_text_60 (by decide) ?_
      refine aw_bipush (v := 6) dX5_text_64 (by decide) ?_
      refine ax_callV2v (M' := MX5_requires) (ci := 5) dX5_text_66 lmX5_108 oX5_requires (by decide +kernel) (by assumption) rfl rfl (Nat.le_of_ble_eq_true rfl) (f_req1 _) ?_
      first | rw [rqG_f n12] | skip
      refine aw_aload_n (i := 0) dX5_text_69 rfl rfl ?_
      refine aw_iconst (v := 0) dX5_text_70 (by decide) ?_
      refine ax_putK (ci := 5) 7 dX5_text_71 rfl lfX5_67 (by decide) (by assumption) (by rfl) rfl rfl ?_
      refine aw_aload_n (i := 0) dX5_text_74 rfl rfl ?_
      refine ax_getK (ci := 5) 12 dX5_text_75 rfl lfX5_70 (by decide) (by assumption) (by rfl) ?_
      refine aw_if_le (tgt := 89) dX5_text_78 (by decide) (fun c78 => ?_) (fun c78 => ?_)
      · exact absurd c78 n12'
      · refine aw_bipush (v := -10) dX5_text_81 (by decide) ?_
        refine aw_aload_n (i := 0) dX5_text_83 rfl rfl ?_
        refine ax_getK (ci := 5) 13 dX5_text_84 rfl lfX5_76 (by decide) (by assumption) (by rfl) ?_
        refine aw_isub dX5_text_87 ?_
        refine aw_ireturn (ty := .int) dX5_text_88 rfl rfl ?_
        refine ⟨_, _, rfl, rfl, _, rfl, ?_⟩
        rw [ho]
        refine ⟨by rw [show upd g1 7 0 13 = nI y.2 from hs.2.2], by rw [upk_at]; exact hs.1, by rw [upk_at]; rfl, fun j hj => ?_, fun c j h1 h2 => by rw [upk_ne h2, upk_ne h1]⟩
        rw [upk_at, upd_ne (by omega)]
        exact hE j (by omega)
  have exitO : ∀ (D1 g1 : Nat → Int32) (i p : Nat) (s : pst), MT ch g1 (zQ ch p) → p ≤ L → zk ch (zQ ch p) = 0 → mEh g1 g → eq75 D1 s.1 → PI (g1 5) s → AW V MX5_text (d + 6) 0 0 44 [some (.ref 64), some (.int (nI i))] [] (hp (upk (upk f 68 D1) 64 g1, τ)) (fun r' h' => ∃ (x : Int32) (S' : fm), r' = some (.int x) ∧ h' = hp S' ∧ ∃ f', S' = (f', τ) ∧ MXp ((.inl p, i, s)) f g x f' (pEnd L ((.inl p, i, s)))) := by
    intro D1 g1 i p s hM hpL hz hE hD hI
    obtain ⟨h12, h10, h9, h8, -⟩ := hM.2 (by omega)
    have hqL : zQ ch p = L := Nat.le_antisymm (zQ_le hT hpL) ((zk_0 hT).mp hz)
    have hD28 : D1 28 = nI s.2.1 := (hD 28 (by omega)).trans hI.2.1.1
    by_cases ok : kyOK s
    · have hlt := (PI_ky hI).mpr ok
      have ho : pEnd L ((Sum.inl p : sg), i, s) = .inl i := if_pos ok
      refine aw_aload_n (i := 0) dX5_text_44 rfl rfl ?_
      refine aw_aload_n (i := 0) dX5_text_45 rfl rfl ?_
      refine ax_getK (ci := 5) 5 dX5_text_46 rfl lfX5_57 (by decide) (by assumption) (by rfl) ?_
      refine aw_aload_n (i := 0) dX5_text_49 rfl rfl ?_
      refine ax_getr (ci := 5) 3 dX5_text_50 rfl lfX5_20 (by decide) (by assumption) (by rfl) ?_
      refine aw_bipush (v := 28) dX5_text_53 (by decide) ?_
      refine ax_ialdD (i := 28) dX5_text_55 (by omega) ?_
      refine aw_tE (nI s.2.1) hD28 ?_
      refine aw_icmp_ge (tgt := 63) dX5_text_56 (by decide) (fun c56 => ?_) (fun c56 => ?_)
      · exact absurd hlt (Int32.not_lt.mpr c56)
      · refine aw_iconst (v := 1) dX5_text_59 (by decide) ?_
        refine aw_goto (tgt := 64) dX5_text_60 (by decide) ?_
        refine aw_bipush (v := 6) dX5_text_64 (by decide) ?_
        refine ax_callV2v (M' := MX5_requires) (ci := 5) dX5_text_66 lmX5_108 oX5_requires (by decide +kernel) (by assumption) rfl rfl (Nat.le_of_ble_eq_true rfl) (f_req1 _) ?_
        refine aw_aload_n (i := 0) dX5_text_69 rfl rfl ?_
        refine aw_iconst (v := 0) dX5_text_70 (by decide) ?_
        refine ax_putK (ci := 5) 7 dX5_text_71 rfl lfX5_67 (by decide) (by assumption) (by rfl) rfl rfl ?_
        refine aw_aload_n (i := 0) dX5_text_74 rfl rfl ?_
        refine ax_getK (ci := 5) 12 dX5_text_75 rfl lfX5_70 (by decide) (by assumption) (by rfl) ?_
        refine aw_if_le (tgt := 89) dX5_text_78 (by decide) (fun c78 => ?_) (fun c78 => ?_)
        · refine aw_aload_n (i := 0) dX5_text_89 rfl rfl ?_
          refine ax_callV0v (M' := MX5_keepDraft) (ci := 5) dX5_text_90 lmX5_50 oX5_keepDraft (by decide +kernel) (by assumption) rfl rfl (Nat.le_of_ble_eq_true rfl) (f_keepDraft) ?_
          refine aw_iload_n (i := 1) dX5_text_93 rfl rfl ?_
          refine aw_ireturn (ty := .int) dX5_text_94 rfl rfl ?_
          refine ⟨_, _, rfl, rfl, _, rfl, ?_⟩
          rw [ho]
          unfold kdF
          have e64 : ∀ j, up2 (up2 (cpR (upk (upk f 68 D1) 64 (upd g1 7 0)) 65 0 68 0 75) 67 0 0) 67 1 0 64 j = upd g1 7 0 j := fun j => by rw [up2_ne (by omega), up2_ne (by omega), cpR_o (by omega), upk_at]
          refine ⟨rfl, by rw [e64]; exact h12, by rw [e64]; rfl, fun j hj => ?_, by rw [up2_ne (by omega), up2_self], up2_self _ _ _ _, fun j hj => ?_, fun c j h1 h2 h3 h4 => ?_⟩
          · rw [e64, upd_ne (by omega)]; exact hE j (by omega)
          · rw [up2_ne (by omega), up2_ne (by omega)]
            have e := cpR_i (f := upk (upk f 68 D1) 64 (upd g1 7 0)) (c0 := 65) (o0 := 0) (c1 := 68) (o1 := 0) (i := 75) hj
            rw [Nat.zero_add] at e
            rw [e, upk_ne (by omega), upk_at]
            exact hD j hj
          · rw [up2_ne (by omega), up2_ne (by omega), cpR_o (by omega), upk_ne h2, upk_ne h1]
        · exact absurd (show g1 12 ≤ 0 by rw [h12]; decide) c78
    · have hlt : ¬ g1 5 < nI s.2.1 := fun z => ok ((PI_ky hI).mp z)
      have ho : pEnd L ((Sum.inl p : sg), i, s) = .inr (6, L) := if_neg ok
      have hb : MS ch L (rqG g1 6) (.inr (6, L)) := MS_rq (c := 6) h12 (by rw [h9, hqL]) (by omega)
      have n12' : ¬ rqG g1 6 12 ≤ 0 := by rw [hb.1]; exact nI_nle (by omega) (by omega)
      refine aw_aload_n (i := 0) dX5_text_44 rfl rfl ?_
      refine aw_aload_n (i := 0) dX5_text_45 rfl rfl ?_
      refine ax_getK (ci := 5) 5 dX5_text_46 rfl lfX5_57 (by decide) (by assumption) (by rfl) ?_
      refine aw_aload_n (i := 0) dX5_text_49 rfl rfl ?_
      refine ax_getr (ci := 5) 3 dX5_text_50 rfl lfX5_20 (by decide) (by assumption) (by rfl) ?_
      refine aw_bipush (v := 28) dX5_text_53 (by decide) ?_
      refine ax_ialdD (i := 28) dX5_text_55 (by omega) ?_
      refine aw_tE (nI s.2.1) hD28 ?_
      refine aw_icmp_ge (tgt := 63) dX5_text_56 (by decide) (fun c56 => ?_) (fun c56 => ?_)
      · refine aw_iconst (v := 0) dX5_text_63 (by decide) ?_
        refine aw_bipush (v := 6) dX5_text_64 (by decide) ?_
        refine ax_callV2v (M' := MX5_requires) (ci := 5) dX5_text_66 lmX5_108 oX5_requires (by decide +kernel) (by assumption) rfl rfl (Nat.le_of_ble_eq_true rfl) (f_req0 _) ?_
        refine aw_aload_n (i := 0) dX5_text_69 rfl rfl ?_
        refine aw_iconst (v := 0) dX5_text_70 (by decide) ?_
        refine ax_putK (ci := 5) 7 dX5_text_71 rfl lfX5_67 (by decide) (by assumption) (by rfl) rfl rfl ?_
        refine aw_aload_n (i := 0) dX5_text_74 rfl rfl ?_
        refine ax_getK (ci := 5) 12 dX5_text_75 rfl lfX5_70 (by decide) (by assumption) (by rfl) ?_
        refine aw_if_le (tgt := 89) dX5_text_78 (by decide) (fun c78 => ?_) (fun c78 => ?_)
        · exact absurd c78 n12'
        · refine aw_bipush (v := -10) dX5_text_81 (by decide) ?_
          refine aw_aload_n (i := 0) dX5_text_83 rfl rfl ?_
          refine ax_getK (ci := 5) 13 dX5_text_84 rfl lfX5_76 (by decide) (by assumption) (by rfl) ?_
          refine aw_isub dX5_text_87 ?_
          refine aw_ireturn (ty := .int) dX5_text_88 rfl rfl ?_
          refine ⟨_, _, rfl, rfl, _, rfl, ?_⟩
          rw [ho]
          refine ⟨by rw [show upd (rqG g1 6) 7 0 13 = nI L from hb.2.2], by rw [upk_at]; exact hb.1, by rw [upk_at]; rfl, fun j hj => ?_, fun c j h1 h2 => by rw [upk_ne h2, upk_ne h1]⟩
          rw [upk_at, upd_ne (by omega), rqG_e g1 6 j (by omega)]
          exact hE j (by omega)
      · exact absurd (Int32.not_le.mp c56) hlt
  have loop : ∀ (m p i : Nat) (s : pst) (D1 g1 : Nat → Int32), p ≤ L → L - p < m → eq75 D1 s.1 → PI (g1 5) s → g1 4 = nI s.2.2.2 → MT ch g1 (zQ ch p) → mEh g1 g → AW V MX5_text (d + 6) 0 0 20 [some (.ref 64), some (.int (nI i))] [] (hp (upk (upk f 68 D1) 64 g1, τ)) (fun r' h' => ∃ (x : Int32) (S' : fm), r' = some (.int x) ∧ h' = hp S' ∧ ∃ f', S' = (f', τ) ∧ MXp (pLo ch m p i s) f g x f' (pEnd L (pLo ch m p i s))) := by
    intro m
    induction m with
    | zero => intro p i s D1 g1 a b; omega
    | succ m ih =>
      intro p i s D1 g1 hpL hm hD hI h4 hM hE
      have hqL := zQ_le hT hpL
      by_cases hz4 : zk ch (zQ ch p) = 4
      · have hs := MS_4 (L := L) ⟨hM, hpL⟩ hz4
        have n12 : ¬ g1 12 = 0 := by rw [hs.1]; exact nI_6 hs.2.1
        rw [pLo_s, if_pos hz4]
        refine aw_aload_n (i := 0) dX5_text_20 rfl rfl ?_
        refine ax_getK (ci := 5) 12 dX5_text_21 rfl lfX5_70 (by decide) (by assumption) (by rfl) ?_
        refine aw_if_ne (tgt := 44) dX5_text_24 (by decide) (fun c24 => ?_) (fun c24 => ?_)
        · exact exitF D1 g1 i _ _ rfl hs hE
        · exact absurd c24 n12
      · obtain ⟨h12, h10, h9, h8, -⟩ := hM.2 hz4
        rw [pLo_s, if_neg hz4]
        by_cases hz0 : zk ch (zQ ch p) = 0
        · rw [if_pos hz0]
          have e10 : g1 10 = 0 := by rw [h10, hz0]; rfl
          refine aw_aload_n (i := 0) dX5_text_20 rfl rfl ?_
          refine ax_getK (ci := 5) 12 dX5_text_21 rfl lfX5_70 (by decide) (by assumption) (by rfl) ?_
          refine aw_if_ne (tgt := 44) dX5_text_24 (by decide) (fun c24 => ?_) (fun c24 => ?_)
          · exact absurd h12 c24
          · refine aw_aload_n (i := 0) dX5_text_27 rfl rfl ?_
            refine ax_getK (ci := 5) 10 dX5_text_28 rfl lfX5_94 (by decide) (by assumption) (by rfl) ?_
            refine aw_if_eq (tgt := 44) dX5_text_31 (by decide) (fun c31 => ?_) (fun c31 => ?_)
            · exact exitO D1 g1 i p s hM hpL hz0 hE hD hI
            · exact absurd e10 c31
        · rw [if_neg hz0]
          have e10 : ¬ g1 10 = 0 := by rw [h10]; exact nI_ne0 (by omega) (by have := zk_le ch (zQ ch p); omega)
          have hgt := zr_gt hz0
          have hge := zQ_ge ch p
          have hpO := pL_OK hT hqL s.2.1 s.2.2.1 s.2.2.2
          refine aw_aload_n (i := 0) dX5_text_20 rfl rfl ?_
          refine ax_getK (ci := 5) 12 dX5_text_21 rfl lfX5_70 (by decide) (by assumption) (by rfl) ?_
          refine aw_if_ne (tgt := 44) dX5_text_24 (by decide) (fun c24 => ?_) (fun c24 => ?_)
          · exact absurd h12 c24
          · refine aw_aload_n (i := 0) dX5_text_27 rfl rfl ?_
            refine ax_getK (ci := 5) 10 dX5_text_28 rfl lfX5_94 (by decide) (by assumption) (by rfl) ?_
            refine aw_if_eq (tgt := 44) dX5_text_31 (by decide) (fun c31 => ?_) (fun c31 => ?_)
            · exact absurd c31 e10
            · refine aw_aload_n (i := 0) dX5_text_34 rfl rfl ?_
              refine ax_gV0v (M' := MX5_readLine) (ci := 5) dX5_text_35 lmX5_130 oX5_readLine (by decide +kernel) (by assumption) rfl rfl (Nat.le_of_ble_eq_true rfl) (g_mLine hT ((hE 7 (by omega)).trans h7) hM hqL hz4 hI.1.1 ((hD 28 (by omega)).trans hI.2.1.1) hI.1.2.1 ((hD 53 (by omega)).trans hI.2.1.2) hI.1.2.2 h4) (fun S_ h_ => ?_)
              obtain ⟨D2, g2, rfl, hM2, hE2, hb⟩ := h_
              cases hσ : pL ch (zQ ch p) s.2.1 s.2.2.1 s.2.2.2 with
              | inl p2 =>
                rw [hσ] at hM2 hpO
                have hb2 := hb p2 hσ
                refine aw_incN (L' := [_, _]) dX5_text_38 rfl (Nat.le_of_ble_eq_true rfl) rfl rfl ?_
                refine aw_goto (tgt := 20) dX5_text_41 (by decide) ?_
                refine ih p2 (i + 1) (pStep ch (zQ ch p) s) D2 g2 hpO.2 (by have := hpO.1; have := hpO.2; omega) ?_ ?_ ?_ hM2.1 (hE2.tr hE)
                · rw [hb2.1, pStep_1]; exact eq75_step hD
                · rw [hb2.2.2]; exact PI_step hI hσ
                · rw [hb2.2.1, pStep_t]
              | inr x2 =>
                rw [hσ] at hM2
                have n12 : ¬ g2 12 = 0 := by rw [hM2.1]; exact nI_6 hM2.2.1
                refine aw_incN (L' := [_, _]) dX5_text_38 rfl (Nat.le_of_ble_eq_true rfl) rfl rfl ?_
                refine aw_goto (tgt := 20) dX5_text_41 (by decide) ?_
                refine aw_aload_n (i := 0) dX5_text_20 rfl rfl ?_
                refine ax_getK (ci := 5) 12 dX5_text_21 rfl lfX5_70 (by decide) (by assumption) (by rfl) ?_
                refine aw_if_ne (tgt := 44) dX5_text_24 (by decide) (fun c24 => ?_) (fun c24 => ?_)
                · exact exitF D2 g2 (i + 1) _ _ rfl hM2 (hE2.tr hE)
                · exact absurd c24 n12
  refine aw_iconst (v := 0) dX5_text_0 (by decide) ?_
  refine aw_istore_n (i := 1) (L' := [_, _]) dX5_text_1 rfl (Nat.le_of_ble_eq_true rfl) rfl rfl ?_
  refine aw_aload_n (i := 0) dX5_text_2 rfl rfl ?_
  refine aw_iconst (v := 0) dX5_text_3 (by decide) ?_
  refine ax_putK (ci := 5) 12 dX5_text_4 rfl lfX5_70 (by decide) (by assumption) (by rfl) rfl rfl ?_
  refine aw_aload_n (i := 0) dX5_text_7 rfl rfl ?_
  refine aw_iconst (v := 0) dX5_text_8 (by decide) ?_
  refine ax_putK (ci := 5) 8 dX5_text_9 rfl lfX5_79 (by decide) (by assumption) (by rfl) rfl rfl ?_
  refine aw_aload_n (i := 0) dX5_text_12 rfl rfl ?_
  refine ax_callV0v (M' := MX5_firstDraft) (ci := 5) dX5_text_13 lmX5_47 oX5_firstDraft (by decide +kernel) (by assumption) rfl rfl (Nat.le_of_ble_eq_true rfl) (f_firstDraft) ?_
  refine aw_aload_n (i := 0) dX5_text_16 rfl rfl ?_
  refine ax_gV0v (M' := MX5_reads) (ci := 5) dX5_text_17 lmX5_112 oX5_reads (by decide +kernel) (by assumption) rfl rfl (Nat.le_of_ble_eq_true rfl) (g_reads (g := upd (upd (upd (upd g 12 0) 8 0) 4 0) 5 (-1)) (p := 0) (hT.mv (upk_rne (by omega))) (Nat.zero_le _) h7 rfl rfl) (fun S_ h_ => ?_)
  obtain ⟨g1, rfl, hM1, hE1⟩ := h_
  refine loop 161 0 0 ps0 _ g1 (Nat.zero_le _) (by omega) ?_ ?_ (hE1 4 (by omega)) hM1 (hE1.h.tr ((((mEh.rf.up (by omega) _).up (by omega) _).up (by omega) _).up (by omega) _))
  · exact eq75_upd (fun j hj => if_pos hj) 54 1
  · rw [show g1 5 = -1 from hE1 5 (by omega)]
    exact ⟨⟨Nat.zero_le _, Nat.zero_le _, Nat.zero_le _⟩, ⟨rfl, rfl⟩, fun j hj => absurd hj (Nat.not_lt_zero _), Or.inl rfl⟩
theorem g_mText {V : am_V} {d L : Nat} {f : Nat → Nat → Int32} {ch : Nat → Int32} {τ : Nat → Nat → Int64} (hT : tpOK f 69 L ch) (h7 : f 64 7 = nI L) : AGi V MX5_text (d + 6) [.ref 64] (f, τ) (fun x S' => ∃ f', S' = (f', τ) ∧ MXp (pLo ch 161 0 0 ps0) f (f 64) x f' (pEnd L (pLo ch 161 0 0 ps0))) := by
  have h := g_mText0 (V := V) (d := d) (D := f 68) (g := f 64) (τ := τ) hT h7
  rw [upk_self, upk_self] at h
  exact h
