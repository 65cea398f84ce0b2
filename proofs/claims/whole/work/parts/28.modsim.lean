theorem nI_ne4 {i : Nat} (h : i < 2 ^ 31) : ¬ nI i = -4 := fun e => absurd (show nI i < 0 by rw [e]; decide) (nI_pos h)
theorem latS_none {pk pt : Nat → Int32} {k t : Int32} : ∀ i, i ≤ 8 → latS (-4) pk pt k t i = latF pk pt k t i := by
  intro i
  induction i with
  | zero => intro _; rfl
  | succ i ih =>
    intro hi
    unfold latS latF
    rw [ih (by omega)]
    have hiff : (latF pk pt k t i = -4 ∨ pt (latF pk pt k t i).toNatClampNeg ≤ pt i) ↔ (latF pk pt k t i < 0 ∨ pt (latF pk pt k t i).toNatClampNeg ≤ pt i) := by
      rcases latF_or pk pt k t i with q | ⟨j, hj, q⟩
      · rw [q]; exact ⟨fun _ => Or.inl (by decide), fun _ => Or.inl rfl⟩
      · rw [q]
        constructor
        · rintro (z | z)
          · exact absurd z (nI_ne4 (by omega))
          · exact Or.inr z
        · rintro (z | z)
          · exact absurd z (nI_pos (by omega))
          · exact Or.inr z
    by_cases c : pk i = k ∧ pt i ≤ t ∧ (latF pk pt k t i < 0 ∨ pt (latF pk pt k t i).toNatClampNeg ≤ pt i)
    · rw [if_pos c, if_pos ⟨nI_ne4 (by omega), c.1, c.2.1, hiff.mpr c.2.2⟩]
    · rw [if_neg c, if_neg (fun z => c ⟨z.2.1, z.2.2.1, hiff.mp z.2.2.2⟩)]
theorem latF_le {pk pt : Nat → Int32} {k t : Int32} : ∀ i, i ≤ 8 → ∀ j, latF pk pt k t i = nI j → j < i → pt j ≤ t := by
  intro i
  induction i with
  | zero => intro _ j _ h; exact absurd h (Nat.not_lt_zero _)
  | succ i ih =>
    intro hi j hj hlt
    unfold latF at hj
    by_cases c : pk i = k ∧ pt i ≤ t ∧ (latF pk pt k t i < 0 ∨ pt (latF pk pt k t i).toNatClampNeg ≤ pt i)
    · rw [if_pos c] at hj
      have : i = j := (nI_eq (by omega) (by omega)).mp hj
      rw [← this]
      exact c.2.1
    · rw [if_neg c] at hj
      rcases latF_or pk pt k t i with q | ⟨j', hj', q⟩
      · rw [q] at hj
        exact absurd hj.symm (nI_ne4 (by omega))
      · rw [q] at hj
        have e : j' = j := (nI_eq (by omega) (by omega)).mp hj
        rw [← e]
        exact ih (by omega) j' q hj'
theorem par_eq {a : Nat} (h : a < 2 ^ 30) : nI a - nI a / 2 * 2 = nI a &&& 1 := by
  rw [show (2 : Int32) = nI 2 from rfl, pk_rem (by omega) (by omega) (by omega), pk_andN (by omega) (m := 1) 1 rfl]
theorem gone_eq {q T : Nat} (hq : q ≤ 99) (hT : T < 2 ^ 20) (h : nI q ≤ nI T) : ∃ a, a < 2 ^ 30 ∧ nI T - nI q = nI a := ⟨T - q, by omega, pk_sub ((nI_leI (by omega) (by omega)).mp h)⟩
theorem conS_none {pk pt ps : Nat → Int32} {p T : Nat} {b k : Int32} (hp : p ≤ 8) (hpt : ∀ i, i < p → ∃ q, q ≤ 99 ∧ pt i = nI q) (hT : T < 2 ^ 20) : conS (-4) pk pt ps p b k (nI T) = conF pk pt ps p b k (nI T) := by
  unfold conS conF
  rw [latS_none p hp]
  rcases latF_or pk pt k (nI T) p with q | ⟨j, hj, q⟩
  · rw [q, if_pos rfl, if_pos (by decide)]
  · have hle := latF_le p hp j q hj
    rw [q, nI_clamp (by omega), if_neg (nI_ne4 (by omega)), if_neg (nI_pos (by omega))]
    obtain ⟨z, hz, ez⟩ := hpt j hj
    rw [ez] at hle ⊢
    obtain ⟨a, ha, ea⟩ := gone_eq hz hT hle
    rw [ea, par_eq ha]
theorem latS_skip {pk pt : Nat → Int32} {k t : Int32} {i0 : Nat} (h0 : i0 < 8) : ∀ i, i < 8 → (latF (rmR pk i0) (rmR pt i0) k t i = -4 ∧ latS (nI i0) pk pt k t (if i0 < i then i + 1 else i) = -4) ∨ ∃ j, j < i ∧ latF (rmR pk i0) (rmR pt i0) k t i = nI j ∧ latS (nI i0) pk pt k t (if i0 < i then i + 1 else i) = nI (if i0 ≤ j then j + 1 else j) := by
  intro i
  induction i with
  | zero => intro _; exact Or.inl ⟨rfl, by rw [if_neg (by omega)]; rfl⟩
  | succ i ih =>
    intro hi
    have ih := ih (by omega)
    -- the place in the rows of all that place i of the rows without i0 has
    have hst : latS (nI i0) pk pt k t (if i0 < i + 1 then i + 1 + 1 else i + 1) = (if pk (if i0 ≤ i then i + 1 else i) = k ∧ pt (if i0 ≤ i then i + 1 else i) ≤ t ∧ (latS (nI i0) pk pt k t (if i0 < i then i + 1 else i) = -4 ∨ pt (latS (nI i0) pk pt k t (if i0 < i then i + 1 else i)).toNatClampNeg ≤ pt (if i0 ≤ i then i + 1 else i)) then nI (if i0 ≤ i then i + 1 else i) else latS (nI i0) pk pt k t (if i0 < i then i + 1 else i)) := by
      have step : ∀ a, a < 16 → a ≠ i0 → latS (nI i0) pk pt k t (a + 1) = (if pk a = k ∧ pt a ≤ t ∧ (latS (nI i0) pk pt k t a = -4 ∨ pt (latS (nI i0) pk pt k t a).toNatClampNeg ≤ pt a) then nI a else latS (nI i0) pk pt k t a) := by
        intro a ha hne
        have hn : ¬ nI a = nI i0 := fun z => hne ((nI_eq (by omega) (by omega)).mp z)
        rw [latS]
        by_cases c : pk a = k ∧ pt a ≤ t ∧ (latS (nI i0) pk pt k t a = -4 ∨ pt (latS (nI i0) pk pt k t a).toNatClampNeg ≤ pt a)
        · rw [if_pos c, if_pos ⟨hn, c⟩]
        · rw [if_neg c, if_neg (fun z => c z.2)]
      have same : latS (nI i0) pk pt k t (i0 + 1) = latS (nI i0) pk pt k t i0 := by
        rw [latS, if_neg (fun z => z.1 rfl)]
      rcases (show i < i0 ∨ i = i0 ∨ i0 < i by omega) with c | c | c
      · rw [if_neg (show ¬ i0 < i + 1 by omega), if_neg (show ¬ i0 ≤ i by omega), if_neg (show ¬ i0 < i by omega)]
        exact step i (by omega) (by omega)
      · subst c
        rw [if_pos (show i < i + 1 by omega), if_pos (Nat.le_refl i), if_neg (Nat.lt_irrefl i), step (i + 1) (by omega) (by omega), same]
      · rw [if_pos (show i0 < i + 1 by omega), if_pos (show i0 ≤ i by omega), if_pos c]
        exact step (i + 1) (by omega) (by omega)
    have hpk : rmR pk i0 i = pk (if i0 ≤ i then i + 1 else i) := by unfold rmR; split <;> rfl
    have hpt : rmR pt i0 i = pt (if i0 ≤ i then i + 1 else i) := by unfold rmR; split <;> rfl
    rw [hst, latF, hpk, hpt]
    rcases ih with ⟨e1, e2⟩ | ⟨j, hj, e1, e2⟩
    · rw [e1, e2]
      by_cases c : pk (if i0 ≤ i then i + 1 else i) = k ∧ pt (if i0 ≤ i then i + 1 else i) ≤ t
      · rw [if_pos ⟨c.1, c.2, Or.inl (by decide)⟩, if_pos ⟨c.1, c.2, Or.inl rfl⟩]
        exact Or.inr ⟨i, Nat.lt_succ_self i, rfl, rfl⟩
      · rw [if_neg (fun z => c ⟨z.1, z.2.1⟩), if_neg (fun z => c ⟨z.1, z.2.1⟩)]
        exact Or.inl ⟨rfl, rfl⟩
    · have hj2 : rmR pt i0 j = pt (if i0 ≤ j then j + 1 else j) := by unfold rmR; split <;> rfl
      have b1 : (if i0 ≤ j then j + 1 else j) < 2 ^ 31 := by split <;> omega
      rw [e1, e2, nI_clamp (show j < 2 ^ 31 by omega), nI_clamp b1, hj2]
      by_cases c : pk (if i0 ≤ i then i + 1 else i) = k ∧ pt (if i0 ≤ i then i + 1 else i) ≤ t ∧ pt (if i0 ≤ j then j + 1 else j) ≤ pt (if i0 ≤ i then i + 1 else i)
      · rw [if_pos ⟨c.1, c.2.1, Or.inr c.2.2⟩, if_pos ⟨c.1, c.2.1, Or.inr c.2.2⟩]
        exact Or.inr ⟨i, Nat.lt_succ_self i, rfl, rfl⟩
      · rw [if_neg (fun z => c ⟨z.1, z.2.1, z.2.2.resolve_left (nI_pos (by omega))⟩), if_neg (fun z => c ⟨z.1, z.2.1, z.2.2.resolve_left (nI_ne4 b1)⟩)]
        exact Or.inr ⟨j, Nat.lt_succ_of_lt hj, rfl, rfl⟩
theorem conS_skip {pk pt ps : Nat → Int32} {p T i0 : Nat} {b k : Int32} (hp : p ≤ 8) (h0 : i0 < p) (hpt : ∀ i, i < p → ∃ q, q ≤ 99 ∧ pt i = nI q) (hT : T < 2 ^ 20) : conS (nI i0) pk pt ps p b k (nI T) = conF (rmR pk i0) (rmR pt i0) (rmR ps i0) (p - 1) b k (nI T) := by
  have key : (latF (rmR pk i0) (rmR pt i0) k (nI T) (p - 1) = -4 ∧ latS (nI i0) pk pt k (nI T) p = -4) ∨ ∃ j, j < p - 1 ∧ latF (rmR pk i0) (rmR pt i0) k (nI T) (p - 1) = nI j ∧ latS (nI i0) pk pt k (nI T) p = nI (if i0 ≤ j then j + 1 else j) := by
    rcases (show i0 < p - 1 ∨ i0 = p - 1 by omega) with c | c
    · have e := latS_skip (pk := pk) (pt := pt) (k := k) (t := nI T) (i0 := i0) (by omega) (p - 1) (by omega)
      rw [if_pos c, show p - 1 + 1 = p by omega] at e
      exact e
    · have e := latS_skip (pk := pk) (pt := pt) (k := k) (t := nI T) (i0 := i0) (by omega) (p - 1) (by omega)
      rw [if_neg (show ¬ i0 < p - 1 by omega)] at e
      have same : latS (nI i0) pk pt k (nI T) p = latS (nI i0) pk pt k (nI T) (p - 1) := by
        have hp1 : p = i0 + 1 := by omega
        rw [hp1, Nat.add_sub_cancel, latS, if_neg (fun z => z.1 rfl)]
      rw [same]
      exact e
  unfold conS conF
  rcases key with ⟨e1, e2⟩ | ⟨j, hj, e1, e2⟩
  · rw [e1, e2, if_pos rfl, if_pos (by decide)]
  · have b1 : (if i0 ≤ j then j + 1 else j) < p := by split <;> omega
    have hle := latF_le (p - 1) (by omega) j e1 hj
    have r1 : rmR pt i0 j = pt (if i0 ≤ j then j + 1 else j) := by unfold rmR; split <;> rfl
    have r2 : rmR ps i0 j = ps (if i0 ≤ j then j + 1 else j) := by unfold rmR; split <;> rfl
    rw [e1, e2, nI_clamp (show j < 2 ^ 31 by omega), nI_clamp (show (if i0 ≤ j then j + 1 else j) < 2 ^ 31 by omega), if_neg (nI_ne4 (show (if i0 ≤ j then j + 1 else j) < 2 ^ 31 by omega)), if_neg (nI_pos (show j < 2 ^ 31 by omega)), r1, r2]
    rw [r1] at hle
    obtain ⟨z, hz, ez⟩ := hpt _ b1
    rw [ez] at hle ⊢
    obtain ⟨a, ha, ea⟩ := gone_eq hz hT hle
    rw [ea, par_eq ha]
/-- the model's board at hand is this one -/
def isMd (n p : Nat) (pk pt ps : Nat → Int32) (ev : Int32) (K : Nat → Nat → Int32) (T : Nat) (f : Nat → Nat → Int32) : Prop :=
  f 66 28 = nI n ∧ (∃ q, q ≤ 8 ∧ f 66 53 = nI q ∧ ∀ (b k : Int32) (U : Nat), U < 2 ^ 20 → conS (f 64 16) (pkM f) (ptM f) (psM f) q b k (nI U) = conF pk pt ps p b k (nI U)) ∧ f 66 54 = ev ∧ f 66 55 = nI T ∧
  (∀ k, k < n → ∀ j, j < 7 → f 66 (7 * k + j) = K k j) ∧ (∀ k, k < n → f 70 k = K k 7) ∧ (∀ k, n ≤ k → k < 4 → f 70 k = 0) ∧ f 64 15 = sumF (fun k => K k 8) n
theorem cbM_Md {n p T : Nat} {pk pt ps : Nat → Int32} {ev : Int32} {K : Nat → Nat → Int32} {f : Nat → Nat → Int32} (hT : T < 2 ^ 20) (h : isMd n p pk pt ps ev K T f) {q : Nat} (hq : f 66 53 = nI q) (hq8 : q ≤ 8) : cbM f n q = cbK pk pt ps n p K (nI T) := by
  obtain ⟨h1, ⟨q', hq', e', hC⟩, h3, h4, h5, h6, h7, h8⟩ := h
  have eq : q = q' := (nI_eq (by omega) (by omega)).mp (hq.symm.trans e')
  subst eq
  unfold cbM cbK
  refine orF_congr n (fun k hk => ?_)
  rw [h4, h5 k hk 0 (by decide)]
  exact hC _ _ _ hT
theorem lkM_row {f : Nat → Nat → Int32} {c : Int32} {n : Nat} (hn : n ≤ 4) {K : Nat → Nat → Int32} (hK : ∀ k, k < n → kOK (K k)) (h5 : ∀ k, k < n → ∀ j, j < 7 → f 66 (7 * k + j) = K k j) (h6 : ∀ k, k < n → f 70 k = K k 7) :
    ∀ i, i ≤ n → (∀ k, k < i → (∀ j, j < 7 → lkM f c i 66 (7 * k + j) = k_look (K k) ((c >>> (nI k &&& 31)) &&& 1) j) ∧ lkM f c i 70 k = k_look (K k) ((c >>> (nI k &&& 31)) &&& 1) 7) ∧ (∀ k, i ≤ k → (∀ j, j < 7 → lkM f c i 66 (7 * k + j) = f 66 (7 * k + j)) ∧ lkM f c i 70 k = f 70 k) ∧ lkM f c i 64 15 + sumF (fun k => K k 8) i = sumF (fun k => k_look (K k) ((c >>> (nI k &&& 31)) &&& 1) 8) i + f 64 15 := by
  intro i
  induction i with
  | zero => intro _; exact ⟨fun k hk => absurd hk (Nat.not_lt_zero _), fun k _ => ⟨fun _ _ => rfl, rfl⟩, Int32.add_comm _ _⟩
  | succ i ih =>
    intro hi
    obtain ⟨g1, g2, g3⟩ := ih (by omega)
    have hrow : eq8 (rowM (lkM f c i) i) (K i) := by
      intro j hj
      unfold rowM
      rcases (show j < 7 ∨ j = 7 by omega) with z | z
      · rw [if_pos z, (g2 i (Nat.le_refl i)).1 j z, h5 i (by omega) j z]
      · subst z
        rw [if_neg (by omega), if_pos rfl, (g2 i (Nat.le_refl i)).2, h6 i (by omega)]
    have hr8 : rowM (lkM f c i) i 8 = lkM f c i 64 15 := rfl
    obtain ⟨r1, r2, -⟩ := m_look_rel hrow (hK i (by omega)) (and1 (c >>> (nI i &&& 31)))
    rw [hr8] at r2
    refine ⟨fun k hk => ?_, fun k hk => ?_, ?_⟩
    · rcases (show k < i ∨ k = i by omega) with z | z
      · refine ⟨fun j hj => ?_, ?_⟩
        · rw [lkM, wrM_o (by omega)]
          exact (g1 k z).1 j hj
        · rw [lkM, wrM_o (by omega)]
          exact (g1 k z).2
      · subst z
        refine ⟨fun j hj => ?_, ?_⟩
        · rw [lkM, wrM_of hj]
          exact r1 j (by omega)
        · rw [lkM, wrM_7]
          exact r1 7 (by omega)
    · refine ⟨fun j hj => ?_, ?_⟩
      · rw [lkM, wrM_o (by omega)]
        exact (g2 k (by omega)).1 j hj
      · rw [lkM, wrM_o (by omega)]
        exact (g2 k (by omega)).2
    · rw [lkM, wrM_8, sumF, sumF]
      have e1 : m_look (rowM (lkM f c i) i) ((c >>> (nI i &&& 31)) &&& 1) 8 + (sumF (fun k => K k 8) i + K i 8) = m_look (rowM (lkM f c i) i) ((c >>> (nI i &&& 31)) &&& 1) 8 + K i 8 + sumF (fun k => K k 8) i := by
        rw [Int32.add_assoc, Int32.add_comm (K i 8)]
      rw [e1, r2, Int32.add_assoc, g3, ← Int32.add_assoc, Int32.add_comm (k_look (K i) _ 8)]
theorem tkM_Md {n p T : Nat} {pk pt ps : Nat → Int32} {e : Nat} {K : Nat → Nat → Int32} {f : Nat → Nat → Int32} (hn4 : n ≤ 4) (he : 1 ≤ e ∧ e ≤ 4) (hK : ∀ k, k < n → kOK (K k)) (h : isMd n p pk pt ps (nI e) K T f) (c : Int32) : isMd n p pk pt ps (nI e) (tkK (nI e) c K (nI T)) (T + 1) (tkM f n c) ∧ ∀ k, k < n → kOK (tkK (nI e) c K (nI T) k) := by
  obtain ⟨h1, ⟨q, hq, eq, hC⟩, h3, h4, h5, h6, h7, h8⟩ := h
  have epos : (0 : Int32) < nI e := nI_lt (a := 0) (by omega) (by omega)
  have rows : ∀ a j, (a = 66 → 28 ≤ j ∧ j ≠ 55) ∧ a ≠ 70 ∧ ¬ (a = 64 ∧ j = 15) → tkM f n c a j = f a j := fun a j hh => tkM_o hn4 hh
  have epk : pkM (tkM f n c) = fun i => if 29 + 3 * i + 1 = 55 then tkM f n c 66 55 else pkM f i := by
    funext i
    unfold pkM
    by_cases z : 29 + 3 * i + 1 = 55
    · rw [if_pos z, z]
    · rw [if_neg z, rows _ _ (by omega)]
  have hcong : ∀ (b k : Int32) (U : Nat), conS (tkM f n c 64 16) (pkM (tkM f n c)) (ptM (tkM f n c)) (psM (tkM f n c)) q b k (nI U) = conS (f 64 16) (pkM f) (ptM f) (psM f) q b k (nI U) := by
    intro b k U
    have ea : ∀ i, i < 8 → pkM (tkM f n c) i = pkM f i ∧ ptM (tkM f n c) i = ptM f i ∧ psM (tkM f n c) i = psM f i := by
      intro i hi
      exact ⟨rows _ _ (by omega), rows _ _ (by omega), rows _ _ (by omega)⟩
    have el : ∀ i, i ≤ 8 → latS (f 64 16) (pkM (tkM f n c)) (ptM (tkM f n c)) k (nI U) i = latS (f 64 16) (pkM f) (ptM f) k (nI U) i := by
      intro i
      induction i with
      | zero => intro _; rfl
      | succ i ih =>
        intro hi
        unfold latS
        rw [ih (by omega), (ea i (by omega)).1, (ea i (by omega)).2.1]
        rcases latS_or (f 64 16) (pkM f) (ptM f) k (nI U) i with z | ⟨j, hj, z⟩
        · rw [z]
          simp only [true_or]
        · rw [z, nI_clamp (by omega), (ea j (by omega)).2.1]
    rw [rows 64 16 (by omega)]
    unfold conS
    rw [el q hq]
    rcases latS_or (f 64 16) (pkM f) (ptM f) k (nI U) q with z | ⟨j, hj, z⟩
    · rw [z, if_pos rfl, if_pos rfl]
    · rw [z, nI_clamp (by omega), (ea j (by omega)).2.1, (ea j (by omega)).2.2]
  have ht55 : tkM f n c 66 55 = nI (T + 1) := by
    unfold tkM
    rw [up2_self]
    unfold tkM0
    split
    · rw [lkM_o (by omega) n hn4, h4, nI_1]
    · rw [h4, nI_1]
  have hcond : (f 66 55 - f 66 55 / f 66 54 * f 66 54 = 0) ↔ (0 < nI e ∧ nI T - nI T / nI e * nI e = 0) := by
    rw [h3, h4]
    exact ⟨fun z => ⟨epos, z⟩, fun z => z.2⟩
  obtain ⟨l1, l2, l3⟩ := lkM_row (c := c) hn4 hK h5 h6 n (Nat.le_refl n)
  refine ⟨⟨by rw [rows 66 28 (by omega)]; exact h1, ⟨q, hq, by rw [rows 66 53 (by omega)]; exact eq, fun b k U hU => by rw [hcong]; exact hC b k U hU⟩, by rw [rows 66 54 (by omega)]; exact h3, ht55, ?_, ?_, ?_, ?_⟩, ?_⟩
  · intro k hk j hj
    unfold tkM
    rw [up2_ne (by omega)]
    unfold tkM0 tkK
    by_cases z : f 66 55 - f 66 55 / f 66 54 * f 66 54 = 0
    · rw [if_pos z, if_pos (hcond.mp z)]
      exact (l1 k hk).1 j hj
    · rw [if_neg z, if_neg (fun y => z (hcond.mpr y))]
      exact h5 k hk j hj
  · intro k hk
    unfold tkM
    rw [up2_ne (by omega)]
    unfold tkM0 tkK
    by_cases z : f 66 55 - f 66 55 / f 66 54 * f 66 54 = 0
    · rw [if_pos z, if_pos (hcond.mp z)]
      exact (l1 k hk).2
    · rw [if_neg z, if_neg (fun y => z (hcond.mpr y))]
      exact h6 k hk
  · intro k hk hk4
    unfold tkM
    rw [up2_ne (by omega)]
    unfold tkM0
    by_cases z : f 66 55 - f 66 55 / f 66 54 * f 66 54 = 0
    · rw [if_pos z, (l2 k hk).2]
      exact h7 k hk hk4
    · rw [if_neg z]
      exact h7 k hk hk4
  · unfold tkM
    rw [up2_ne (by omega)]
    unfold tkM0 tkK
    by_cases z : f 66 55 - f 66 55 / f 66 54 * f 66 54 = 0
    · rw [if_pos z]
      simp only [if_pos (hcond.mp z)]
      rw [h8] at l3
      exact (Int32.add_left_inj _).mp l3
    · rw [if_neg z]
      simp only [if_neg (fun y => z (hcond.mpr y))]
      exact h8
  · intro k hk
    unfold tkK
    split
    · have hrow : eq8 (K k) (K k) := fun _ _ => rfl
      exact (m_look_rel hrow (hK k hk) (and1 _)).2.2
    · exact hK k hk
