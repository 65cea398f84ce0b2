section BQ
variable {V : am_V} {f : Nat → Nat → Int32} {τ : Nat → Nat → Int64}
theorem b_runs (hI : INV f) (x what : Int32) : Both V MX4_runs MX5_runs 9 [.int x, .int what] (f, τ) := by
  obtain ⟨n, p, s, e, T, hB⟩ := hI.1
  exact Both.tm hI (g_runs (d := 4) hB.1.1 hB.2.1.1 hB.1.2.1 hB.2.1.2.1  x what) (fun f1 h => ⟨_, cg_runs h.lo n p x what, n_runs (d := 4) (h.BR hB) x what⟩)
theorem b_ahead (hI : INV f) (k x what : Int32) : Both V MX4_ahead MX5_ahead 9 [.int k, .int x, .int what] (f, τ) := by
  obtain ⟨n, p, s, e, T, hB⟩ := hI.1
  exact Both.tm hI (g_ahead (d := 4) hB.1.1 hB.2.1.1 hB.1.2.1 hB.2.1.2.1  k x what) (fun f1 h => ⟨_, cg_ahead h.lo n p k x what, n_ahead (d := 3) (h.BR hB) k x what⟩)
theorem b_when (hI : INV f) (k v : Int32) : Both V MX4_when MX5_when 9 [.int k, .int v] (f, τ) := by
  obtain ⟨n, p, s, e, T, hB⟩ := hI.1
  exact Both.tm hI (g_when (d := 4) hB.1.1 hB.2.1.1 hB.1.2.1 hB.2.1.2.1  k v) (fun f1 h => ⟨_, cg_when h.lo n p k v, n_when (d := 3) (h.BR hB) k v⟩)
theorem b_need (hI : INV f) (k x mm : Int32) : Both V MX4_need MX5_need 9 [.int k, .int x, .int mm] (f, τ) := by
  obtain ⟨n, p, s, e, T, hB⟩ := hI.1
  exact Both.tm hI (g_need (d := 3) hB.1.1 hB.2.1.1 hB.1.2.1 hB.2.1.2.1  k x mm) (fun f1 h => ⟨_, cg_need h.lo n p k x mm, n_need (d := 2) (h.BR hB) k x mm⟩)
theorem b_bear (hI : INV f) (k x mm : Int32) : Both V MX4_bear MX5_bear 9 [.int k, .int x, .int mm] (f, τ) := by
  obtain ⟨n, p, s, e, T, hB⟩ := hI.1
  exact Both.tm hI (g_bear (d := 3) hB.1.1 hB.2.1.1 hB.1.2.1 hB.2.1.2.1  k x mm) (fun f1 h => ⟨_, cg_bear h.lo n p k x mm, n_bear (d := 2) (h.BR hB) k x mm⟩)
theorem b_kind (hI : INV f) (k x what : Int32) : Both V MX4_kind MX5_kind 9 [.int k, .int x, .int what] (f, τ) := by
  obtain ⟨n, p, s, e, T, hB⟩ := hI.1
  exact Both.tm hI (g_kind (d := 2) hB.1.1 hB.2.1.1 hB.1.2.1 hB.2.1.2.1  k x what) (fun f1 h => ⟨_, cg_kind h.lo n p k x what, n_kind (d := 2) (h.BR hB) k x what⟩)
theorem b_slow (hI : INV f) (x what : Int32) : Both V MX4_slow MX5_slow 9 [.int x, .int what] (f, τ) := by
  obtain ⟨n, p, s, e, T, hB⟩ := hI.1
  exact Both.tm hI (g_slow (d := 2) hB.1.1 hB.2.1.1 hB.1.2.1 hB.2.1.2.1  x what) (fun f1 h => ⟨_, cg_slow h.lo n p x what, n_slow (d := 2) (h.BR hB) x what⟩)
theorem b_lose (hI : INV f) (x what : Int32) : Both V MX4_lose MX5_lose 9 [.int x, .int what] (f, τ) := by
  obtain ⟨n, p, s, e, T, hB⟩ := hI.1
  exact Both.tm hI (g_lose (d := 3) hB.1.1 hB.2.1.1 hB.1.2.1 hB.2.1.2.1  x what) (fun f1 h => ⟨_, cg_lose h.lo n p x what, n_lose (d := 3) (h.BR hB) x what⟩)
theorem b_drift (hI : INV f) (seed x what : Int32) : Both V MX4_drift MX5_drift 9 [.int seed, .int x, .int what] (f, τ) := by
  obtain ⟨n, p, s, e, T, hB⟩ := hI.1
  exact Both.tm hI (g_drift (d := 5) hB.1.1 hB.2.1.1 hB.1.2.1 hB.2.1.2.1  seed x what) (fun f1 h => ⟨_, cg_drift h.lo n seed x what, n_drift (d := 4) (h.BR hB) seed x what⟩)
theorem b_kinds (hI : INV f) (k : Int32) : Both V MX4_kinds MX5_kinds 9 [.int k] (f, τ) := by
  obtain ⟨n, p, s, e, T, hB⟩ := hI.1
  exact Both.tm hI (g_kinds (d := 2) hB.1.1 hB.2.1.1 hB.1.2.1 hB.2.1.2.1 hB.1.2.2.1 hB.2.1.2.2.1 (fun i hi => (hB.2.2.2.2.2 i hi).1) k) (fun f1 h => ⟨_, cg_kinds h.lo n p s k, n_kinds (d := 1) (h.BR hB) k⟩)
theorem b_numbers (hI : INV f) (k : Int32) : Both V MX4_numbers MX5_numbers 9 [.int k] (f, τ) := by
  obtain ⟨n, p, s, e, T, hB⟩ := hI.1
  exact Both.tm hI (g_numbers (d := 2) hB.1.1 hB.2.1.1 hB.1.2.1 hB.2.1.2.1 hB.1.2.2.1 hB.2.1.2.2.1 (fun i hi => (hB.2.2.2.2.2 i hi).1) k) (fun f1 h => ⟨_, cg_numbers h.lo n p s k, n_numbers (d := 1) (h.BR hB) k⟩)
theorem b_bounces (hI : INV f) (k : Int32) : Both V MX4_bounces MX5_bounces 9 [.int k] (f, τ) := by
  obtain ⟨n, p, s, e, T, hB⟩ := hI.1
  exact Both.tm hI (g_bounces (d := 2) hB.1.1 hB.2.1.1 hB.1.2.1 hB.2.1.2.1 hB.1.2.2.1 hB.2.1.2.2.1 (fun i hi => (hB.2.2.2.2.2 i hi).1) k) (fun f1 h => ⟨_, cg_bounces h.lo n p s k, n_bounces (d := 1) (h.BR hB) k⟩)
theorem b_ask (hI : INV f) (k what : Int32) : Both V MX4_ask MX5_ask 9 [.int k, .int what] (f, τ) := by
  obtain ⟨n, p, s, e, T, hB⟩ := hI.1
  exact Both.tm hI (g_ask (d := 2) hB.1.1 hB.2.1.1 hB.1.2.1 hB.2.1.2.1 hB.1.2.2.1 hB.2.1.2.2.1 (fun i hi => (hB.2.2.2.2.2 i hi).1) k what) (fun f1 h => ⟨_, cg_ask h.lo n p s k what, n_ask (d := 2) (h.BR hB) k what⟩)
theorem b_luck (hI : INV f) (v k x what : Int32) : BothL V MX4_luck MX5_luck 9 [.int v, .int k, .int x, .int what] (f, τ) := by
  obtain ⟨n, p, s, e, T, hB⟩ := hI.1
  exact BothL.tm hI (g_luck (d := 3) hB.1.1 hB.2.1.1 hB.1.2.1 hB.2.1.2.1 v k x what) (fun f1 h => ⟨_, cg_luck h.lo n p v k x what, n_luck (d := 3) (h.BR hB) v k x what⟩)
theorem b_mean (hI : INV f) (v x what : Int32) : BothL V MX4_mean MX5_mean 9 [.int v, .int x, .int what] (f, τ) := by
  obtain ⟨n, p, s, e, T, hB⟩ := hI.1
  exact BothL.tm hI (g_mean (d := 3) hB.1.1 hB.2.1.1 hB.1.2.1 hB.2.1.2.1 v x what) (fun f1 h => ⟨_, cg_mean h.lo n p v x what, n_mean (d := 3) (h.BR hB) v x what⟩)
theorem b_rule (hI : INV f) (what : Int32) : Both V MX4_rule MX5_rule 9 [.int what] (f, τ) := by
  obtain ⟨n, p, s, e, T, hB⟩ := hI.1
  exact Both.fm hI (f_X4_rule (d := 6) hB.1.1 hB.2.1.1 hB.1.2.1 hB.2.1.2.1 what) (n_rule (d := 5) hB what)
theorem b_contact (hI : INV f) (k t : Int32) : Both V MX4_contact MX5_contact 9 [.int k, .int t] (f, τ) := by
  obtain ⟨n, p, s, e, T, hB⟩ := hI.1
  exact Both.fm hI (f_X4_contact (d := 7) hB.1.1 hB.2.1.1 hB.1.2.1 hB.2.1.2.1 k t) (n_contact (d := 6) hB k t)
theorem b_due (hI : INV f) (x : Int32) : Both V MX4_due MX5_due 9 [.int x] (f, τ) := by
  obtain ⟨n, p, s, e, T, hB⟩ := hI.1
  exact Both.fm hI (f_X4_due (d := 7) hB.1.2.1 hB.2.1.2.1 x) (n_due (d := 7) hB x)
theorem b_key (hI : INV f) (k what : Int32) : Both V MX4_key MX5_key 9 [.int k, .int what] (f, τ) := by
  obtain ⟨n, p, s, e, T, hB⟩ := hI.1
  exact Both.ff (f_X4_key (d := 7) hB.1.1 hB.2.1.1 k what) (n_key (d := 7) hB k what) rfl hI
theorem b_press (hI : INV f) (i what : Int32) : Both V MX4_press MX5_press 9 [.int i, .int what] (f, τ) := by
  obtain ⟨n, p, s, e, T, hB⟩ := hI.1
  exact Both.ff (f_X4_press (d := 8) hB.1.2.1 hB.2.1.2.1 i what) (n_press (d := 7) hB i what) rfl hI
theorem b_fault (hI : INV f) : Both V MX4_fault MX5_fault 9 [] (f, τ) := Both.ff f_X4_fault q_fault hI.2.2.1.1.symm hI
theorem b_torn (hI : INV f) : Both V MX4_torn MX5_torn 9 [] (f, τ) := Both.ff f_X4_torn q_torn hI.2.2.1.2.symm hI
theorem IS.ln {k : Nat} (h : IS f k) : f 73 k = -4 ↔ f (53 + 2 * k) 1 = -1 := by
  obtain ⟨h | ⟨q, hq, h1, h2⟩, -⟩ := h
  · exact ⟨fun _ => h.1, fun _ => h.2⟩
  · rw [h1, h2]
    rcases (show q = 0 ∨ q = 1 ∨ q = 2 by omega) with rfl | rfl | rfl <;> decide
theorem b_count (hI : INV f) (what : Int32) : Both V MX4_count MX5_count 9 [.int what] (f, τ) := by
  obtain ⟨n, p, s, e, T, hB⟩ := hI.1
  obtain ⟨L, -, hL1, hL2, -⟩ := hI.2.1
  have h0 := hI.2.2.2.2 0 (by omega)
  obtain ⟨z, -, z1, z2⟩ := h0.2.1
  exact Both.ff (f_X4_count (d := 7) hB.1.1 hB.2.1.1 what) (n_count (d := 7) hB (fun j hj => ⟨(hI.2.2.2.1 j hj).1, (hI.2.2.2.1 j hj).2.1⟩) (hL2.trans hL1.symm) ⟨h0.ln, z2.trans z1.symm⟩ what) rfl hI
end BQ
