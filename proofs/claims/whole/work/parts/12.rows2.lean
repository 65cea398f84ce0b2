section AXN
variable {V : am_V} {M : am_M} {d kc ks pc : Nat} {L : List (Option Value)} {st : List Value} {f : Nat → Nat → Int32} {τ : Nat → Nat → Int64} {R : Option Value → List va_E → Prop}
theorem ax_ialdN {a n i : Nat} (hd : decode M.2.1 pc = .ok (.iaload, 1)) (ht : am_tab[a]? = some (.inr (.inl (0, n)))) (hi : i < n) (hn : n < 2 ^ 31) (kk : AW V M d kc ks (pc + 1) L (.int (f a i) :: st) (hp (f, τ)) R) : AW V M d kc ks pc L (.int (nI i) :: .ref a :: st) (hp (f, τ)) R := by
  refine ax_iald hd ht (vp_in_nI hi hn) ?_
  rw [nI_clamp (Nat.lt_trans hi hn)]
  exact kk
theorem ax_iastN {a n i : Nat} {x : Int32} (hd : decode M.2.1 pc = .ok (.iastore, 1)) (ht : am_tab[a]? = some (.inr (.inl (0, n)))) (hi : i < n) (hn : n < 2 ^ 31) (kk : AW V M d kc ks (pc + 1) L st (hp (up2 f a i x, τ)) R) : AW V M d kc ks pc L (.int x :: .int (nI i) :: .ref a :: st) (hp (f, τ)) R := by
  refine ax_iast hd ht (vp_in_nI hi hn) ?_
  rw [nI_clamp (Nat.lt_trans hi hn)]
  exact kk
theorem ax_keyN {b k : Nat} (hd : decode M.2.1 pc = .ok (.aaload, 1)) (ht : am_tab[b + 1]? = some (.inr (.inr (3, [b + 2, b + 3, b + 4, b + 5])))) (hk : k < 4) (kk : AW V M d kc ks (pc + 1) L (.ref (b + 2 + k) :: st) (hp (f, τ)) R) : AW V M d kc ks pc L (.int (nI k) :: .ref (b + 1) :: st) (hp (f, τ)) R := by
  refine ax_aald (cn := "KeySieves$Key") (b := b + 2 + k) hd ht rfl (vp_in_nI hk (Nat.le_of_ble_eq_true rfl)) ?_ kk
  rw [nI_clamp (by omega)]
  rcases (show k = 0 ∨ k = 1 ∨ k = 2 ∨ k = 3 by omega) with rfl | rfl | rfl | rfl <;> rfl
theorem aw_incN {h : List va_E} {i j : Nat} {L' : List (Option Value)} (hd : decode M.2.1 pc = .ok (.iinc i 1, 3)) (hx : L[i]? = some (some (.int (nI j)))) (hn : i < M.2.2.1) (ho : am_ok1 L i = true) (hl : L.set i (some (.int (nI (j + 1)))) = L') (k : AW V M d kc ks (pc + 3) L' st h R) : AW V M d kc ks pc L st h R :=
  aw_iinc (v := nI (j + 1)) hd hx (nI_1 j) hn ho hl k
theorem ax_getE {a ci idx : Nat} {q : vw_C} {ts : List Nat} {v : Int32} (k : Nat) (e : f a k = v) (hd : decode M.2.1 pc = .ok (.getfield idx, 3)) (hq : am_cl[ci]? = some q) (hl : Cond.fieldLink M.1.cls idx (q.2.1 k).1 (q.2.1 k).2.1 (q.2.1 k).2.2.1 ∈ am_T) (hk : k < q.2.2) (ht : am_tab[a]? = some (.inl (ci, ts))) (hv : ts[k]? = some 0) (kk : AW V M d kc ks (pc + 3) L (.int v :: st) (hp (f, τ)) R) : AW V M d kc ks pc L (.ref a :: st) (hp (f, τ)) R := by
  refine ax_geti k hd hq hl hk ht hv ?_
  rw [e]
  exact kk
end AXN
/-- the latest press of key k at tick t, among the first: its number, or -4 -/
def latF (pk pt : Nat → Int32) (k t : Int32) : Nat → Int32
  | 0 => -4
  | i + 1 => if pk i = k ∧ pt i ≤ t ∧ (latF pk pt k t i < 0 ∨ pt (latF pk pt k t i).toNatClampNeg ≤ pt i) then nI i else latF pk pt k t i
theorem latF_or (pk pt : Nat → Int32) (k t : Int32) : ∀ i, latF pk pt k t i = -4 ∨ ∃ j, j < i ∧ latF pk pt k t i = nI j := by
  intro i
  induction i with
  | zero => exact Or.inl rfl
  | succ i ih =>
    unfold latF
    split
    · exact Or.inr ⟨i, Nat.lt_succ_self i, rfl⟩
    · rcases ih with h | ⟨j, h1, h2⟩
      · exact Or.inl h
      · exact Or.inr ⟨j, Nat.lt_succ_of_lt h1, h2⟩
def conF (pk pt ps : Nat → Int32) (p : Nat) (bounce k t : Int32) : Int32 :=
  if latF pk pt k t p < 0 then 0 else if t - pt (latF pk pt k t p).toNatClampNeg < bounce ∧ (t - pt (latF pk pt k t p).toNatClampNeg) &&& 1 = 1 then 1 - ps (latF pk pt k t p).toNatClampNeg else ps (latF pk pt k t p).toNatClampNeg
def orF (c : Nat → Int32) : Nat → Int32
  | 0 => 0
  | i + 1 => orF c i ||| (c i <<< (nI i &&& 31))
def sumF (c : Nat → Int32) : Nat → Int32
  | 0 => 0
  | i + 1 => sumF c i + c i
/-- the contact bits of the board at b, with n keys and p presses -/
def cbF (f : Nat → Nat → Int32) (b n p : Nat) : Int32 := orF (fun k => conF (f (b + 7)) (f (b + 6)) (f (b + 8)) p (f (b + 2 + k) 0) (nI k) (f b 7)) n
def upn (f : Nat → Nat → Int32) (b n : Nat) (G : Nat → Nat → Int32) : Nat → Nat → Int32 := fun c j => if b + 2 ≤ c ∧ c < b + 2 + n then G (c - (b + 2)) j else f c j
theorem upn_0 (f : Nat → Nat → Int32) (b : Nat) (G : Nat → Nat → Int32) : upn f b 0 G = f := by
  funext c j
  unfold upn
  rw [if_neg (by omega)]
theorem upn_s (f : Nat → Nat → Int32) (b i : Nat) (G : Nat → Nat → Int32) : upk (upn f b i G) (b + 2 + i) (G i) = upn f b (i + 1) G := by
  funext c j
  unfold upk upn
  by_cases h : c = b + 2 + i
  · subst h
    rw [if_pos rfl, if_pos (by omega), show b + 2 + i - (b + 2) = i by omega]
  · rw [if_neg h]
    by_cases h2 : b + 2 ≤ c ∧ c < b + 2 + i
    · rw [if_pos h2, if_pos (by omega)]
    · rw [if_neg h2, if_neg (by omega)]
theorem upn_out {f : Nat → Nat → Int32} {b n c : Nat} {G : Nat → Nat → Int32} (h : c < b + 2 ∨ b + 2 + n ≤ c) : upn f b n G c = f c := by
  funext j
  unfold upn
  rw [if_neg (by omega)]
theorem upn_in {f : Nat → Nat → Int32} {b n k : Nat} {G : Nat → Nat → Int32} (h : k < n) : upn f b n G (b + 2 + k) = G k := by
  funext j
  unfold upn
  rw [if_pos (by omega), show b + 2 + k - (b + 2) = k by omega]

