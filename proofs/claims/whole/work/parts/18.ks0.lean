section AMB
variable {V : am_V} {M : am_M} {d kc ks pc : Nat} {L : List (Option Value)} {st : List Value} {h : List va_E} {R : Option Value → List va_E → Prop}
theorem aw_bne {P : Prop} [Decidable P] {off : Int} {tgt : Nat} (hd : decode M.2.1 pc = .ok (.ifCond .ne off, 3)) (ht : (pc : Int) + off = (tgt : Int)) (kt : P → AW V M d kc ks tgt L st h R) (kf : ¬ P → AW V M d kc ks (pc + 3) L st h R) : AW V M d kc ks pc L (.int (b2i P) :: st) h R := by
  by_cases q : P
  · exact aw_if_ne hd ht (fun _ => kt q) (fun z => absurd z (by rw [b2i_t q]; decide))
  · exact aw_if_ne hd ht (fun z => absurd (b2i_f q) z) (fun _ => kf q)
theorem aw_beq {P : Prop} [Decidable P] {off : Int} {tgt : Nat} (hd : decode M.2.1 pc = .ok (.ifCond .eq off, 3)) (ht : (pc : Int) + off = (tgt : Int)) (kt : ¬ P → AW V M d kc ks tgt L st h R) (kf : P → AW V M d kc ks (pc + 3) L st h R) : AW V M d kc ks pc L (.int (b2i P) :: st) h R := by
  by_cases q : P
  · exact aw_if_eq hd ht (fun z => absurd z (by rw [b2i_t q]; decide)) (fun _ => kf q)
  · exact aw_if_eq hd ht (fun _ => kt q) (fun z => absurd (b2i_f q) z)
end AMB
section AXN2
variable {V : am_V} {M : am_M} {d kc ks pc : Nat} {L : List (Option Value)} {st : List Value} {f : Nat → Nat → Int32} {τ : Nat → Nat → Int64} {R : Option Value → List va_E → Prop}
theorem ax_imgN {k : Nat} (hd : decode M.2.1 pc = .ok (.aaload, 1)) (hk : k < 2) (kk : AW V M d kc ks (pc + 1) L (.ref (28 + 12 * k) :: st) (hp (f, τ)) R) : AW V M d kc ks pc L (.int (nI k) :: .ref 26 :: st) (hp (f, τ)) R := by
  refine ax_aald (ts := [28, 40]) (t := 4) (cn := "KeySieves$Board") (b := 28 + 12 * k) hd rfl rfl (vp_in_nI hk (Nat.le_of_ble_eq_true rfl)) ?_ kk
  rw [nI_clamp (by omega)]
  rcases (show k = 0 ∨ k = 1 by omega) with rfl | rfl <;> rfl
theorem ax_shtN {k : Nat} (hd : decode M.2.1 pc = .ok (.aaload, 1)) (hk : k < 4) (kk : AW V M d kc ks (pc + 1) L (.ref (53 + 2 * k) :: st) (hp (f, τ)) R) : AW V M d kc ks pc L (.int (nI k) :: .ref 52 :: st) (hp (f, τ)) R := by
  refine ax_aald (ts := [53, 55, 57, 59]) (t := 5) (cn := "KeySieves$Sheet") (b := 53 + 2 * k) hd rfl rfl (vp_in_nI hk (Nat.le_of_ble_eq_true rfl)) ?_ kk
  rw [nI_clamp (by omega)]
  rcases (show k = 0 ∨ k = 1 ∨ k = 2 ∨ k = 3 by omega) with rfl | rfl | rfl | rfl <;> rfl
theorem ax_zaldN {a n i : Nat} (hd : decode M.2.1 pc = .ok (.baload, 1)) (ht : am_tab[a]? = some (.inr (.inl (2, n)))) (hi : i < n) (hn : n < 2 ^ 31) (kk : AW V M d kc ks (pc + 1) L (.int (f a i) :: st) (hp (f, τ)) R) : AW V M d kc ks pc L (.int (nI i) :: .ref a :: st) (hp (f, τ)) R := by
  refine ax_zald hd ht (vp_in_nI hi hn) ?_
  rw [nI_clamp (Nat.lt_trans hi hn)]
  exact kk
theorem ax_zastN {a n i : Nat} {x : Int32} (hd : decode M.2.1 pc = .ok (.bastore, 1)) (ht : am_tab[a]? = some (.inr (.inl (2, n)))) (hi : i < n) (hn : n < 2 ^ 31) (hx : x = 0 ∨ x = 1) (kk : AW V M d kc ks (pc + 1) L st (hp (up2 f a i x, τ)) R) : AW V M d kc ks pc L (.int x :: .int (nI i) :: .ref a :: st) (hp (f, τ)) R := by
  refine ax_zast hd ht (vp_in_nI hi hn) ?_
  rw [nI_clamp (Nat.lt_trans hi hn), show vp_nar .boolean x = x by rcases hx with rfl | rfl <;> rfl]
  exact kk
theorem ax_baldN {a n i : Nat} (hd : decode M.2.1 pc = .ok (.baload, 1)) (ht : am_tab[a]? = some (.inr (.inl (1, n)))) (hi : i < n) (hn : n < 2 ^ 31) (kk : AW V M d kc ks (pc + 1) L (.int (f a i) :: st) (hp (f, τ)) R) : AW V M d kc ks pc L (.int (nI i) :: .ref a :: st) (hp (f, τ)) R := by
  refine ax_bald hd ht (vp_in_nI hi hn) ?_
  rw [nI_clamp (Nat.lt_trans hi hn)]
  exact kk
theorem ax_bastN {a n i : Nat} {x : Int32} (hd : decode M.2.1 pc = .ok (.bastore, 1)) (ht : am_tab[a]? = some (.inr (.inl (1, n)))) (hi : i < n) (hn : n < 2 ^ 31) (kk : AW V M d kc ks (pc + 1) L st (hp (up2 f a i x.toInt8.toInt32, τ)) R) : AW V M d kc ks pc L (.int x :: .int (nI i) :: .ref a :: st) (hp (f, τ)) R := by
  refine ax_bast hd ht (vp_in_nI hi hn) ?_
  rw [nI_clamp (Nat.lt_trans hi hn), vp_nar_byte]
  exact kk
end AXN2
theorem key_in {k : Int32} {n : Nat} (hn : n < 2 ^ 30) (h : 0 ≤ k ∧ k ≤ nI n - 1) : ∃ j, j < n ∧ k = nI j := by
  obtain ⟨j, hj, rfl⟩ := nI_of (Int32.not_lt.mpr h.1)
  refine ⟨j, ?_, rfl⟩
  have h2 := Int32.le_iff_toInt_le.mp h.2
  rcases (show n = 0 ∨ 0 < n by omega) with rfl | hn0
  · rw [nI_toInt hj, show (nI 0 - 1).toInt = -1 from rfl] at h2
    omega
  · rw [show (1 : Int32) = nI 1 from rfl, pk_sub (by omega), nI_toInt hj, nI_toInt (by omega)] at h2
    omega
theorem rng_of {k : Int32} {n : Nat} (hn : n < 2 ^ 31) (h : 0 ≤ k ∧ k ≤ nI n) : ∃ j, j ≤ n ∧ k = nI j := by
  obtain ⟨j, hj, rfl⟩ := nI_of (Int32.not_lt.mpr h.1)
  exact ⟨j, (nI_leI hj hn).mp h.2, rfl⟩
abbrev k_mayP (part v : Int32) : Prop := (part = 0 ∧ 0 ≤ v ∧ v ≤ 9) ∨ (part = 1 ∧ 0 ≤ v ∧ v ≤ 3) ∨ (part = 2 ∧ 1 ≤ v ∧ v ≤ 9)
theorem k_may_b (part v : Int32) : k_mayI part v = b2i (k_mayP part v) := by
  unfold k_mayI k_mayP
  by_cases h0 : part = 0
  · subst h0; simp [b2i]
  · by_cases h1 : part = 1
    · subst h1; simp [b2i]
    · by_cases h2 : part = 2
      · subst h2; simp [b2i]
      · simp [b2i, h0, h1, h2]
theorem e_X1_mayBe {V : am_V} {d : Nat} {S : fm} (part v : Int32) : AF V MX1_mayBe (d + 1) [.int part, .int v] S (some (.int (b2i (k_mayP part v)))) S := by
  rw [← k_may_b]
  exact f_X1_mayBe part v
theorem tb_0 : am_tab[0]? = some (.inl (4, [3, 0, 4, 16, 28, 29, 54, 63, 0, 0, 64, 65])) := rfl
theorem tb_tp : am_tab[1]? = some (.inr (.inl (1, 160))) := rfl
theorem tb_kp : am_tab[27]? = some (.inr (.inl (2, 2))) := rfl
theorem tb_qu : am_tab[62]? = some (.inr (.inl (0, 8))) := rfl
theorem tb_so : am_tab[63]? = some (.inr (.inl (0, 41))) := rfl
theorem tb_rd : am_tab[61]? = some (.inl (3, [3, 16, 0, 0, 0, 0, 0, 0, 0, 0])) := rfl
theorem isB2 : am_isB 2 := Or.inl rfl
theorem isB14 : am_isB 14 := Or.inr (Or.inl rfl)
