section CGR
variable {f1 f : Nat → Nat → Int32}
theorem K0_cg (H : ∀ c, c < 14 → f1 c = f c) : K0 f1 = K0 f := by
  funext k
  unfold K0
  rw [H (2 + 2 + k % 4) (by omega)]
theorem cg_runs (H : ∀ c, c < 14 → f1 c = f c) (n p : Nat) (x w : Int32) : r_runs f1 n p x w = r_runs f n p x w := by
  simp only [r_runs, av0, K0_cg H, H 2 (by omega), H 8 (by omega), H 9 (by omega), H 10 (by omega)]
theorem cg_ahead (H : ∀ c, c < 14 → f1 c = f c) (n p : Nat) (k x w : Int32) : r_ahead f1 n p k x w = r_ahead f n p k x w := by
  simp only [r_ahead, av0, K0_cg H, H 2 (by omega), H 8 (by omega), H 9 (by omega), H 10 (by omega)]
theorem cg_when (H : ∀ c, c < 14 → f1 c = f c) (n p : Nat) (k v : Int32) : r_when f1 n p k v = r_when f n p k v := by
  simp only [r_when, av0, K0_cg H, H 2 (by omega), H 8 (by omega), H 9 (by omega), H 10 (by omega)]
theorem cg_need (H : ∀ c, c < 14 → f1 c = f c) (n p : Nat) (k x m : Int32) : r_need f1 n p k x m = r_need f n p k x m := by
  simp only [r_need, av0, K0_cg H, H 2 (by omega), H 8 (by omega), H 9 (by omega), H 10 (by omega)]
theorem cg_bear (H : ∀ c, c < 14 → f1 c = f c) (n p : Nat) (k x m : Int32) : r_bear f1 n p k x m = r_bear f n p k x m := by
  simp only [r_bear, av0, K0_cg H, H 2 (by omega), H 8 (by omega), H 9 (by omega), H 10 (by omega)]
theorem cg_kind (H : ∀ c, c < 14 → f1 c = f c) (n p : Nat) (k x w : Int32) : r_kind f1 n p k x w = r_kind f n p k x w := by
  have e : ∀ j N, kdC f1 n p j N = kdC f n p j N := fun j N => by
    funext i
    simp only [kdC, av0, K0_cg H, H 2 (by omega), H 8 (by omega), H 9 (by omega), H 10 (by omega)]
  simp only [r_kind, e, H 2 (by omega)]
theorem cg_slow (H : ∀ c, c < 14 → f1 c = f c) (n p : Nat) (x w : Int32) : r_slow f1 n p x w = r_slow f n p x w := by
  have e : ∀ N, slC f1 n p N = slC f n p N := fun N => by
    funext i
    simp only [slC, K0_cg H, H 2 (by omega), H 8 (by omega), H 9 (by omega), H 10 (by omega)]
  simp only [r_slow, e]
theorem cg_lose (H : ∀ c, c < 14 → f1 c = f c) (n p : Nat) (x w : Int32) : r_lose f1 n p x w = r_lose f n p x w := by
  have e : ∀ N i, loC f1 n p N i = loC f n p N i := fun N i => by
    simp only [loC, K0_cg H, H 2 (by omega), H 8 (by omega), H 9 (by omega), H 10 (by omega)]
  have e2 : ∀ N i, loJ f1 n p N i = loJ f n p N i := by
    intro N i
    induction i with
    | zero => simp only [loJ, av0, jdM, K0_cg H, H 2 (by omega), H 8 (by omega), H 9 (by omega), H 10 (by omega)]
    | succ i ih =>
      show (if loC f1 n p N i ≤ (loJ f1 n p N i).2 then loJ f1 n p N i else (nI i, loC f1 n p N i)) = (if loC f n p N i ≤ (loJ f n p N i).2 then loJ f n p N i else (nI i, loC f n p N i))
      rw [ih, e]
  simp only [r_lose, e2]
theorem cg_drift (H : ∀ c, c < 14 → f1 c = f c) (n : Nat) (s x w : Int32) : r_drift f1 n s x w = r_drift f n s x w := by
  have e : ∀ msk i, dkF f1 s msk i = dkF f s msk i := by
    intro msk i
    induction i with
    | zero => simp only [dkF, K0_cg H, H 2 (by omega)]
    | succ i ih => rw [dkF, dkF, ih, H 2 (by omega)]
  simp only [r_drift, e, H 2 (by omega)]
theorem cg_fit (H : ∀ c, c < 14 → f1 c = f c) (n p s j : Nat) (part v : Int32) : fitP f1 n p s j part v = fitP f n p s j part v := by
  simp only [fitP, av0, K0_cg H, H 2 (by omega), H 8 (by omega), H 9 (by omega), H 10 (by omega), H 11 (by omega), H 12 (by omega), H 13 (by omega)]
theorem cg_ft (H : ∀ c, c < 14 → f1 c = f c) (n p s j : Nat) (part : Int32) : ∀ v, ftF f1 n p s j part v = ftF f n p s j part v := by
  intro v
  induction v with
  | zero => rfl
  | succ v ih => simp only [ftF, ih, cg_fit H]
theorem cg_kinds (H : ∀ c, c < 14 → f1 c = f c) (n p s : Nat) (k : Int32) : r_kinds f1 n p s k = r_kinds f n p s k := by
  simp only [r_kinds, cg_ft H, H 2 (by omega)]
theorem cg_numbers (H : ∀ c, c < 14 → f1 c = f c) (n p s : Nat) (k : Int32) : r_numbers f1 n p s k = r_numbers f n p s k := by
  simp only [r_numbers, cg_ft H, H 2 (by omega)]
theorem cg_bounces (H : ∀ c, c < 14 → f1 c = f c) (n p s : Nat) (k : Int32) : r_bounces f1 n p s k = r_bounces f n p s k := by
  simp only [r_bounces, cg_ft H, H 2 (by omega)]
theorem cg_ct (H : ∀ c, c < 14 → f1 c = f c) (n p s j : Nat) : ∀ v, ctN f1 n p s j v = ctN f n p s j v := by
  intro v
  induction v with
  | zero => rfl
  | succ v ih => simp only [ctN, ih, cg_fit H]
theorem cg_sy (H : ∀ c, c < 14 → f1 c = f c) (n p s j q : Nat) : ∀ v, syN f1 n p s j q v = syN f n p s j q v := by
  intro v
  induction v with
  | zero => rfl
  | succ v ih => simp only [syN, ih, cg_fit H, av0, K0_cg H, H 2 (by omega), H 8 (by omega), H 9 (by omega), H 10 (by omega)]
theorem cg_cs (H : ∀ c, c < 14 → f1 c = f c) (n p j : Nat) (b : Int32) (q : Nat) : ∀ v, csN f1 n p j b q v = csN f n p j b q v := by
  intro v
  induction v with
  | zero => rfl
  | succ v ih => simp only [csN, ih, av0, K0_cg H, H 2 (by omega), H 8 (by omega), H 9 (by omega), H 10 (by omega)]
theorem cg_ask (H : ∀ c, c < 14 → f1 c = f c) (n p s : Nat) (k w : Int32) : r_ask f1 n p s k w = r_ask f n p s k w := by
  have e : ∀ j i, akJ f1 n p s j i = akJ f n p s j i := by
    intro j i
    simp only [akJ, cg_ct H, cg_sy H]
  simp only [r_ask, e, H 2 (by omega)]
end CGR
theorem eqT.lo {f1 f : Nat → Nat → Int32} (h : eqT f1 f) : ∀ c, c < 14 → f1 c = f c := fun c hc => h c (Or.inl hc) (by omega) (by omega)
