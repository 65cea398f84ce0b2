/-! THE PURE LAYER: keys as rows K k j (j < 9: bounce, kind, number, says, sum, rest, strokes, struck, changed), presses as rows, a tick -/
def kst (g : Nat → Int32) : Nat → Int32 := fun j => if j < 7 then g j else 0
def eq9 (g g' : Nat → Int32) : Prop := ∀ j, j < 9 → g j = g' j
theorem eq9_upd {g g' : Nat → Int32} (h : eq9 g g') (k : Nat) (x : Int32) : eq9 (upd g k x) (upd g' k x) := by
  intro j hj
  unfold upd
  by_cases q : j = k
  · rw [if_pos q, if_pos q]
  · rw [if_neg q, if_neg q, h j hj]
theorem k_say_eq9 {g g' : Nat → Int32} (h : eq9 g g') (v : Int32) : eq9 (k_say g v) (k_say g' v) := by
  unfold k_say
  rw [h 3 (by decide), h 8 (by decide), h 7 (by decide), h 6 (by decide)]
  by_cases q : v = g' 3
  · rw [if_pos q, if_pos q]; exact h
  · rw [if_neg q, if_neg q]
    by_cases q2 : v = 1
    · rw [if_pos q2, if_pos q2]
      exact eq9_upd (eq9_upd (eq9_upd (eq9_upd h _ _) _ _) _ _) _ _
    · rw [if_neg q2, if_neg q2]
      exact eq9_upd (eq9_upd h _ _) _ _
theorem k_sum_eq9 {g g' : Nat → Int32} (h : eq9 g g') (v : Int32) : k_sum g v = k_sum g' v := by
  unfold k_sum
  rw [h 4 (by decide), h 2 (by decide)]
theorem k_weigh_eq9 {g g' : Nat → Int32} (h : eq9 g g') (v : Int32) : eq9 (k_weigh g v) (k_weigh g' v) := by
  unfold k_weigh
  rw [k_sum_eq9 h]
  exact eq9_upd h _ _
theorem k_weighR_eq9 {g g' : Nat → Int32} (h : eq9 g g') (v : Int32) : k_weighR g v = k_weighR g' v := by
  unfold k_weighR
  rw [k_sum_eq9 h, h 2 (by decide), h 3 (by decide)]
theorem k_wants_eq9 {g g' : Nat → Int32} (h : eq9 g g') : k_wants g = k_wants g' := by
  unfold k_wants
  rw [h 1 (by decide), h 2 (by decide)]
theorem k_comp_eq9 {g g' : Nat → Int32} (h : eq9 g g') (v : Int32) : eq9 (k_comp g v) (k_comp g' v) := by
  unfold k_comp
  rw [k_wants_eq9 h, h 1 (by decide), h 2 (by decide), h 3 (by decide), h 4 (by decide)]
  by_cases q : v = g' 3
  · rw [if_pos q, if_pos q]; exact eq9_upd h _ _
  · rw [if_neg q, if_neg q]
    by_cases q2 : g' 4 + 1 < k_wants g'
    · rw [if_pos q2, if_pos q2]; exact eq9_upd h _ _
    · rw [if_neg q2, if_neg q2]
      exact eq9_upd (eq9_upd (eq9_upd h _ _) _ _) _ _
theorem k_compR_eq9 {g g' : Nat → Int32} (h : eq9 g g') (v : Int32) : k_compR g v = k_compR g' v := by
  unfold k_compR
  rw [k_wants_eq9 h, h 3 (by decide), h 4 (by decide)]
theorem k_look_eq9 {g g' : Nat → Int32} (h : eq9 g g') (v : Int32) : eq9 (k_look g v) (k_look g' v) := by
  unfold k_look
  rw [h 5 (by decide), h 1 (by decide), k_weighR_eq9 h, k_compR_eq9 h]
  by_cases q : 0 < g' 5
  · rw [if_pos q, if_pos q]; exact eq9_upd h _ _
  · rw [if_neg q, if_neg q]
    by_cases q2 : g' 1 = 1
    · rw [if_pos q2, if_pos q2]; exact k_say_eq9 (k_weigh_eq9 h v) _
    · rw [if_neg q2, if_neg q2]; exact k_say_eq9 (k_comp_eq9 h v) _
theorem k_become_eq9 {g g' : Nat → Int32} (h : eq9 g g') (x y : Int32) : eq9 (k_become g x y) (k_become g' x y) := by
  have h2 : ∀ k, eq9 (upd g k y) (upd g' k y) := fun k => eq9_upd h k y
  unfold k_become
  rw [h2 _ 4 (by decide), h2 _ 2 (by decide)]
  exact eq9_upd (h2 _) _ _
theorem latF_congr {pk pt pk' pt' : Nat → Int32} {k t : Int32} : ∀ p, (∀ i, i < p → pk i = pk' i ∧ pt i = pt' i) → latF pk pt k t p = latF pk' pt' k t p := by
  intro p
  induction p with
  | zero => intro _; rfl
  | succ p ih =>
    intro h
    have e := ih (fun i hi => h i (Nat.lt_succ_of_lt hi))
    unfold latF
    rw [e, (h p (Nat.lt_succ_self p)).1, (h p (Nat.lt_succ_self p)).2]
    rcases latF_or pk' pt' k t p with q | ⟨j, hj, q⟩
    · have hneg : (-4 : Int32) < 0 := by decide
      rw [q]
      simp only [hneg, true_or]
    · by_cases hb : j < 2 ^ 31
      · rw [q, nI_clamp hb, (h j (Nat.lt_succ_of_lt hj)).2]
      · have hlt : (nI j).toNatClampNeg < p + 1 ∨ p + 1 ≤ (nI j).toNatClampNeg := by omega
        rcases hlt with z | z
        · rw [q, (h _ z).2]
        · exfalso
          have h1 : (nI j).toNatClampNeg < 2 ^ 31 := by
            have := Int32.toNatClampNeg_lt (nI j)
            omega
          omega
theorem conF_congr {pk pt ps pk' pt' ps' : Nat → Int32} {b k t : Int32} {p : Nat} (hp : p ≤ 8) (h : ∀ i, i < p → pk i = pk' i ∧ pt i = pt' i ∧ ps i = ps' i) : conF pk pt ps p b k t = conF pk' pt' ps' p b k t := by
  unfold conF
  rw [latF_congr p (fun i hi => ⟨(h i hi).1, (h i hi).2.1⟩)]
  rcases latF_or pk' pt' k t p with q | ⟨j, hj, q⟩
  · rw [q, if_pos (by decide), if_pos (by decide)]
  · rw [q, nI_clamp (by omega), (h j hj).2.1, (h j hj).2.2]
theorem orF_congr {c c' : Nat → Int32} : ∀ n, (∀ i, i < n → c i = c' i) → orF c n = orF c' n := by
  intro n
  induction n with
  | zero => intro _; rfl
  | succ n ih => intro h; rw [orF, orF, ih (fun i hi => h i (Nat.lt_succ_of_lt hi)), h n (Nat.lt_succ_self n)]
theorem sumF_congr {c c' : Nat → Int32} : ∀ n, (∀ i, i < n → c i = c' i) → sumF c n = sumF c' n := by
  intro n
  induction n with
  | zero => intro _; rfl
  | succ n ih => intro h; rw [sumF, sumF, ih (fun i hi => h i (Nat.lt_succ_of_lt hi)), h n (Nat.lt_succ_self n)]
theorem dueF_congr {pt ps pt' ps' : Nat → Int32} {lo hi : Int32} : ∀ p, (∀ i, i < p → pt i = pt' i ∧ ps i = ps' i) → dueF pt ps lo hi p = dueF pt' ps' lo hi p := by
  intro p
  induction p with
  | zero => intro _; rfl
  | succ p ih => intro h; rw [dueF, dueF, ih (fun i hi => h i (Nat.lt_succ_of_lt hi)), (h p (Nat.lt_succ_self p)).1, (h p (Nat.lt_succ_self p)).2]
def tkK (ev c : Int32) (K : Nat → Nat → Int32) (t : Int32) : Nat → Nat → Int32 := fun k => if 0 < ev ∧ t - t / ev * ev = 0 then k_look (K k) ((c >>> (nI k &&& 31)) &&& 1) else K k
def cbK (pk pt ps : Nat → Int32) (n p : Nat) (K : Nat → Nat → Int32) (t : Int32) : Int32 := orF (fun k => conF pk pt ps p (K k 0) (nI k) t) n
/-- keys and tick behind i ticks -/
def avK (pk pt ps : Nat → Int32) (n p : Nat) (ev : Int32) (K : Nat → Nat → Int32) (t : Int32) : Nat → (Nat → Nat → Int32) × Int32
  | 0 => (K, t)
  | i + 1 => (tkK ev (cbK pk pt ps n p (avK pk pt ps n p ev K t i).1 (avK pk pt ps n p ev K t i).2) (avK pk pt ps n p ev K t i).1 (avK pk pt ps n p ev K t i).2, (avK pk pt ps n p ev K t i).2 + 1)
/-- the board at b is this one -/
def isBd (b n p : Nat) (pk pt ps : Nat → Int32) (ev : Int32) (K : Nat → Nat → Int32) (t : Int32) (f : Nat → Nat → Int32) : Prop :=
  f b 1 = nI n ∧ f b 5 = nI p ∧ f b 6 = ev ∧ f b 7 = t ∧ (∀ k, k < n → eq9 (f (b + 2 + k)) (K k)) ∧ ∀ i, i < p → f (b + 7) i = pk i ∧ f (b + 6) i = pt i ∧ f (b + 8) i = ps i
theorem tkF_Bd {b n p : Nat} {pk pt ps : Nat → Int32} {ev t : Int32} {K : Nat → Nat → Int32} {f : Nat → Nat → Int32} (hn4 : n ≤ 4) (h : isBd b n p pk pt ps ev K t f) (c : Int32) : isBd b n p pk pt ps ev (tkK ev c K t) (t + 1) (tkF f b n c) := by
  obtain ⟨h1, h2, h3, h4, h5, h6⟩ := h
  refine ⟨by rw [tkF_b (by decide)]; exact h1, by rw [tkF_b (by decide)]; exact h2, by rw [tkF_b (by decide)]; exact h3, by rw [tkF_t, h4], ?_, ?_⟩
  · intro k hk j hj
    unfold tkF
    rw [up2_ne (by omega)]
    unfold tkL tkK
    rw [h3, h4]
    split
    · rw [upn_in hk]
      exact k_look_eq9 (h5 k hk) _ j hj
    · exact h5 k hk j hj
  · intro i hi
    rw [tkF_out (by omega), tkF_out (by omega), tkF_out (by omega)]
    exact h6 i hi
theorem cbF_Bd {b n p : Nat} {pk pt ps : Nat → Int32} {ev t : Int32} {K : Nat → Nat → Int32} {f : Nat → Nat → Int32} (hp8 : p ≤ 8) (h : isBd b n p pk pt ps ev K t f) : cbF f b n p = cbK pk pt ps n p K t := by
  obtain ⟨h1, h2, h3, h4, h5, h6⟩ := h
  unfold cbF cbK
  refine orF_congr n (fun k hk => ?_)
  rw [h4, h5 k hk 0 (by decide)]
  exact conF_congr hp8 h6
theorem advF_Bd {b n p : Nat} {pk pt ps : Nat → Int32} {ev t : Int32} {K : Nat → Nat → Int32} {f : Nat → Nat → Int32} (hn4 : n ≤ 4) (hp8 : p ≤ 8) (h : isBd b n p pk pt ps ev K t f) : ∀ i, isBd b n p pk pt ps ev (avK pk pt ps n p ev K t i).1 (avK pk pt ps n p ev K t i).2 (advF f b n p i) := by
  intro i
  induction i with
  | zero => exact h
  | succ i ih =>
    have e := tkF_Bd hn4 ih (cbF (advF f b n p i) b n p)
    rw [cbF_Bd hp8 ih] at e
    unfold advF
    rw [cbF_Bd hp8 ih]
    exact e
def wrK (pk pt ps : Nat → Int32) (n p : Nat) (ev : Int32) (K : Nat → Nat → Int32) (t : Int32) : Nat → Int32
  | 0 => 0
  | i + 1 => if cbK pk pt ps n p (avK pk pt ps n p ev K t i).1 (avK pk pt ps n p ev K t i).2 = orF (fun k => (avK pk pt ps n p ev K t (i + 1)).1 k 3) n then wrK pk pt ps n p ev K t i else wrK pk pt ps n p ev K t i + 1
theorem wrF_Bd {b n p : Nat} {pk pt ps : Nat → Int32} {ev t : Int32} {K : Nat → Nat → Int32} {f : Nat → Nat → Int32} (hn4 : n ≤ 4) (hp8 : p ≤ 8) (h : isBd b n p pk pt ps ev K t f) : ∀ i, wrF f b n p i = wrK pk pt ps n p ev K t i := by
  intro i
  induction i with
  | zero => rfl
  | succ i ih =>
    unfold wrF wrK
    rw [ih, cbF_Bd hp8 (advF_Bd hn4 hp8 h i), orF_congr n (fun k hk => (advF_Bd hn4 hp8 h (i + 1)).2.2.2.2.1 k hk 3 (by decide))]
theorem Bd_or {b n p : Nat} {pk pt ps : Nat → Int32} {ev t : Int32} {K : Nat → Nat → Int32} {f : Nat → Nat → Int32} (h : isBd b n p pk pt ps ev K t f) {j : Nat} (hj : j < 9) : orF (fun k => f (b + 2 + k) j) n = orF (fun k => K k j) n := orF_congr n (fun k hk => h.2.2.2.2.1 k hk j hj)
theorem Bd_sum {b n p : Nat} {pk pt ps : Nat → Int32} {ev t : Int32} {K : Nat → Nat → Int32} {f : Nat → Nat → Int32} (h : isBd b n p pk pt ps ev K t f) {j : Nat} (hj : j < 9) : sumF (fun k => f (b + 2 + k) j) n = sumF (fun k => K k j) n := sumF_congr n (fun k hk => h.2.2.2.2.1 k hk j hj)
theorem Bd_due {b n p : Nat} {pk pt ps : Nat → Int32} {ev t : Int32} {K : Nat → Nat → Int32} {f : Nat → Nat → Int32} (h : isBd b n p pk pt ps ev K t f) (x : Int32) : dueF (f (b + 6)) (f (b + 8)) (f b 7) (f b 7 + x - 1) p = dueF pt ps t (t + x - 1) p := by
  rw [h.2.2.2.1]
  exact dueF_congr p (fun i hi => ⟨(h.2.2.2.2.2 i hi).2.1, (h.2.2.2.2.2 i hi).2.2⟩)
