/-! THE TEXT, PURE: ch p is the byte at p, -1 behind the end. -/
/-- the first place from p on that is not P -/
def scn (P : Nat → Prop) [DecidablePred P] : Nat → Nat → Nat
  | 0, p => p
  | m + 1, p => if P p then scn P m (p + 1) else p
theorem scn_ge {P : Nat → Prop} [DecidablePred P] : ∀ m p, p ≤ scn P m p := by
  intro m
  induction m with
  | zero => intro p; exact Nat.le_refl _
  | succ m ih =>
    intro p
    rw [scn]
    split
    · have := ih (p + 1); omega
    · exact Nat.le_refl _
theorem scn_le {P : Nat → Prop} [DecidablePred P] {L : Nat} (hP : ∀ q, P q → q < L) : ∀ m p, p ≤ L → scn P m p ≤ L := by
  intro m
  induction m with
  | zero => intro p h; exact h
  | succ m ih =>
    intro p h
    rw [scn]
    split
    · rename_i z; exact ih (p + 1) (hP p z)
    · exact h
theorem scn_gt {P : Nat → Prop} [DecidablePred P] {m p : Nat} (h : P p) : p < scn P (m + 1) p := by
  rw [scn, if_pos h]
  exact scn_ge m (p + 1)
theorem scn_f {P : Nat → Prop} [DecidablePred P] {m p : Nat} (h : ¬ P p) : scn P m p = p := by
  cases m with
  | zero => rfl
  | succ m => rw [scn, if_neg h]
theorem scn_in {P : Nat → Prop} [DecidablePred P] : ∀ m p q, p ≤ q → q < scn P m p → P q := by
  intro m
  induction m with
  | zero => intro p q h1 h2; rw [scn] at h2; omega
  | succ m ih =>
    intro p q h1 h2
    rw [scn] at h2
    split at h2
    · rename_i z
      rcases (show q = p ∨ p + 1 ≤ q by omega) with rfl | h
      · exact z
      · exact ih (p + 1) q h h2
    · omega
abbrev isSp (ch : Nat → Int32) (q : Nat) : Prop := ch q = 32
abbrev isLe (ch : Nat → Int32) (q : Nat) : Prop := 97 ≤ ch q ∧ ch q ≤ 122
abbrev isFi (ch : Nat → Int32) (q : Nat) : Prop := 48 ≤ ch q ∧ ch q ≤ 57
/-- where the next token begins; where it ends; its sort (0 end, 1 name, 2 number, 3 semicolon, 4 none); its number -/
def zQ (ch : Nat → Int32) (p : Nat) : Nat := scn (isSp ch) 161 p
def zr (ch : Nat → Int32) (q : Nat) : Nat := if ch q < 0 then q else if isLe ch q then scn (isLe ch) 161 q else if isFi ch q then scn (isFi ch) 161 q else q + 1
def zk (ch : Nat → Int32) (q : Nat) : Nat := if ch q < 0 then 0 else if isLe ch q then 1 else if isFi ch q then (if zr ch q - q ≤ 2 then 2 else 4) else if ch q = 59 then 3 else 4
def zVal (ch : Nat → Int32) (q : Nat) : Nat → Int32
  | 0 => 0
  | i + 1 => zVal ch q i * 10 + ch (q + i) - 48
def zv (ch : Nat → Int32) (q : Nat) : Int32 := zVal ch q (zr ch q - q)
/-- the bytes of a text of length L at cell c -/
def tpOK (f : Nat → Nat → Int32) (c L : Nat) (ch : Nat → Int32) : Prop := L ≤ 160 ∧ (∀ q, q < L → f c q = ch q ∧ ¬ ch q < 0) ∧ ∀ q, L ≤ q → ch q = -1
theorem tpOK.no {f : Nat → Nat → Int32} {c L : Nat} {ch : Nat → Int32} (h : tpOK f c L ch) {q : Nat} (hq : L ≤ q) : ch q < 0 ∧ ¬ isSp ch q ∧ ¬ isLe ch q ∧ ¬ isFi ch q := by
  have e := h.2.2 q hq
  unfold isSp isLe isFi
  rw [e]
  exact ⟨by decide, by decide, by decide, by decide⟩
theorem tpOK.sp {f : Nat → Nat → Int32} {c L : Nat} {ch : Nat → Int32} (h : tpOK f c L ch) : ∀ q, isSp ch q → q < L := fun q z => Nat.lt_of_not_le fun hq => (h.no hq).2.1 z
theorem tpOK.le {f : Nat → Nat → Int32} {c L : Nat} {ch : Nat → Int32} (h : tpOK f c L ch) : ∀ q, isLe ch q → q < L := fun q z => Nat.lt_of_not_le fun hq => (h.no hq).2.2.1 z
theorem tpOK.fi {f : Nat → Nat → Int32} {c L : Nat} {ch : Nat → Int32} (h : tpOK f c L ch) : ∀ q, isFi ch q → q < L := fun q z => Nat.lt_of_not_le fun hq => (h.no hq).2.2.2 z
theorem tpOK.neg {f : Nat → Nat → Int32} {c L : Nat} {ch : Nat → Int32} (h : tpOK f c L ch) {q : Nat} : ch q < 0 ↔ L ≤ q := by
  constructor
  · intro z
    exact Nat.le_of_not_lt fun hq => (h.2.1 q hq).2 z
  · intro hq; exact (h.no hq).1
theorem zQ_ge (ch : Nat → Int32) (p : Nat) : p ≤ zQ ch p := scn_ge _ _
theorem zQ_le {f : Nat → Nat → Int32} {c L : Nat} {ch : Nat → Int32} (h : tpOK f c L ch) {p : Nat} (hp : p ≤ L) : zQ ch p ≤ L := scn_le h.sp _ _ hp
theorem zr_ge (ch : Nat → Int32) (q : Nat) : q ≤ zr ch q := by
  unfold zr
  split
  · exact Nat.le_refl _
  · split
    · exact scn_ge _ _
    · split
      · exact scn_ge _ _
      · omega
theorem zr_le {f : Nat → Nat → Int32} {c L : Nat} {ch : Nat → Int32} (h : tpOK f c L ch) {q : Nat} (hq : q ≤ L) : zr ch q ≤ L := by
  unfold zr
  split
  · exact hq
  · rename_i z
    split
    · exact scn_le h.le _ _ hq
    · split
      · exact scn_le h.fi _ _ hq
      · have : ¬ L ≤ q := fun y => z (h.neg.mpr y)
        omega
theorem zr_gt {ch : Nat → Int32} {q : Nat} (h : zk ch q ≠ 0) : q < zr ch q := by
  unfold zk at h
  unfold zr
  split
  · rename_i z; rw [if_pos z] at h; exact absurd rfl h
  · split
    · rename_i z; exact scn_gt z
    · split
      · rename_i z; exact scn_gt z
      · omega
theorem zk_le (ch : Nat → Int32) (q : Nat) : zk ch q ≤ 4 := by
  unfold zk
  repeat' split
  all_goals omega
theorem zk_0 {f : Nat → Nat → Int32} {c L : Nat} {ch : Nat → Int32} (h : tpOK f c L ch) {q : Nat} : zk ch q = 0 ↔ L ≤ q := by
  rw [← h.neg]
  unfold zk
  constructor
  · intro z
    by_cases y : ch q < 0
    · exact y
    · exfalso
      rw [if_neg y] at z
      repeat' split at z
      all_goals omega
  · intro y
    rw [if_pos y]
/-- the state of a reading: at a place, or a fault (its code, its place) -/
abbrev sg : Type := Nat ⊕ (Nat × Nat)
def pNum (ch : Nat → Int32) (lo hi : Int32) : sg → Int32 × sg
  | .inr x => (0, .inr x)
  | .inl p => if zk ch (zQ ch p) = 4 then (0, .inr (1, zQ ch p)) else if zk ch (zQ ch p) = 2 then (if lo ≤ zv ch (zQ ch p) ∧ zv ch (zQ ch p) ≤ hi then (zv ch (zQ ch p), .inl (zr ch (zQ ch p))) else (0, .inr (3, zQ ch p))) else (0, .inr (2, zQ ch p))
def pSemi (ch : Nat → Int32) : sg → sg
  | .inr x => .inr x
  | .inl p => if zk ch (zQ ch p) = 4 then .inr (1, zQ ch p) else if zk ch (zQ ch p) = 3 then .inl (zr ch (zQ ch p)) else .inr (2, zQ ch p)
theorem pNum_l (ch : Nat → Int32) (lo hi : Int32) (p : Nat) : pNum ch lo hi (.inl p) = if zk ch (zQ ch p) = 4 then (0, .inr (1, zQ ch p)) else if zk ch (zQ ch p) = 2 then (if lo ≤ zv ch (zQ ch p) ∧ zv ch (zQ ch p) ≤ hi then (zv ch (zQ ch p), .inl (zr ch (zQ ch p))) else (0, .inr (3, zQ ch p))) else (0, .inr (2, zQ ch p)) := rfl
theorem pSemi_l (ch : Nat → Int32) (p : Nat) : pSemi ch (.inl p) = if zk ch (zQ ch p) = 4 then .inr (1, zQ ch p) else if zk ch (zQ ch p) = 3 then .inl (zr ch (zQ ch p)) else .inr (2, zQ ch p) := rfl
/-- the state is at a place of the text behind p, or a fault of 1 to 6 in it -/
def sgOK (L p : Nat) : sg → Prop
  | .inl r => p ≤ r ∧ r ≤ L
  | .inr x => (1 ≤ x.1 ∧ x.1 ≤ 6) ∧ x.2 ≤ L
theorem pNum_OK {f : Nat → Nat → Int32} {c L : Nat} {ch : Nat → Int32} (h : tpOK f c L ch) (lo hi : Int32) {p : Nat} {s : sg} (hs : sgOK L p s) : sgOK L p (pNum ch lo hi s).2 := by
  cases s with
  | inr x => exact hs
  | inl r =>
    have h1 := zQ_ge ch r
    have h2 := zQ_le h hs.2
    have h3 := zr_ge ch (zQ ch r)
    have h4 := zr_le h h2
    have h5 := hs.1
    rw [pNum_l]
    split
    · exact ⟨⟨Nat.le_of_ble_eq_true rfl, Nat.le_of_ble_eq_true rfl⟩, h2⟩
    · split
      · split
        · exact ⟨by omega, h4⟩
        · exact ⟨⟨Nat.le_of_ble_eq_true rfl, Nat.le_of_ble_eq_true rfl⟩, h2⟩
      · exact ⟨⟨Nat.le_of_ble_eq_true rfl, Nat.le_of_ble_eq_true rfl⟩, h2⟩
theorem pSemi_OK {f : Nat → Nat → Int32} {c L : Nat} {ch : Nat → Int32} (h : tpOK f c L ch) {p : Nat} {s : sg} (hs : sgOK L p s) : sgOK L p (pSemi ch s) := by
  cases s with
  | inr x => exact hs
  | inl r =>
    have h1 := zQ_ge ch r
    have h2 := zQ_le h hs.2
    have h3 := zr_ge ch (zQ ch r)
    have h4 := zr_le h h2
    have h5 := hs.1
    rw [pSemi_l]
    split
    · exact ⟨⟨Nat.le_of_ble_eq_true rfl, Nat.le_of_ble_eq_true rfl⟩, h2⟩
    · split
      · exact ⟨by omega, h4⟩
      · exact ⟨⟨Nat.le_of_ble_eq_true rfl, Nat.le_of_ble_eq_true rfl⟩, h2⟩
theorem pNum_in {ch : Nat → Int32} {lo hi : Int32} {s : sg} {r : Nat} (h : (pNum ch lo hi s).2 = .inl r) : lo ≤ (pNum ch lo hi s).1 ∧ (pNum ch lo hi s).1 ≤ hi := by
  cases s with
  | inr x => cases h
  | inl p =>
    revert h
    rw [pNum_l]
    split
    · intro h; cases h
    · split
      · split
        · rename_i z; intro _; exact z
        · intro h; cases h
      · intro h; cases h
theorem pNum_src {ch : Nat → Int32} {lo hi : Int32} {s : sg} {r : Nat} (h : (pNum ch lo hi s).2 = .inl r) : ∃ p, s = .inl p := by
  cases s with
  | inr x => cases h
  | inl p => exact ⟨p, rfl⟩
theorem pSemi_src {ch : Nat → Int32} {s : sg} {r : Nat} (h : pSemi ch s = .inl r) : ∃ p, s = .inl p := by
  cases s with
  | inr x => cases h
  | inl p => exact ⟨p, rfl⟩
/-- the name from q to r is that of line i -/
abbrev nmE (ch : Nat → Int32) (q r i : Nat) : Prop := r - q = am_txL.getD i 0 ∧ ∀ j, j < am_txL.getD i 0 → ch (q + j) = (am_txB.getD i []).getD j 0
def nmF (ch : Nat → Int32) (q r : Nat) : Nat → Nat → Int32
  | 0, _ => -4
  | m + 1, i => if nmE ch q r i then nI i else nmF ch q r m (i + 1)
theorem nmF_or (ch : Nat → Int32) (q r : Nat) : ∀ m i, nmF ch q r m i = -4 ∨ ∃ j, i ≤ j ∧ j < i + m ∧ nmF ch q r m i = nI j := by
  intro m
  induction m with
  | zero => intro i; exact Or.inl rfl
  | succ m ih =>
    intro i
    rw [nmF]
    split
    · exact Or.inr ⟨i, Nat.le_refl _, by omega, rfl⟩
    · rcases ih (i + 1) with h | ⟨j, h1, h2, h3⟩
      · exact Or.inl h
      · exact Or.inr ⟨j, by omega, by omega, h3⟩
/-- the line that the token at q names: 0 to 3 a key, 4 a press, 5 every, -4 none -/
def lnN (ch : Nat → Int32) (q : Nat) : Int32 := if zk ch q = 1 then nmF ch q (zr ch q) 6 0 else -4
theorem lnN_or (ch : Nat → Int32) (q : Nat) : lnN ch q = -4 ∨ ∃ j, j < 6 ∧ lnN ch q = nI j := by
  unfold lnN
  split
  · rcases nmF_or ch q (zr ch q) 6 0 with h | ⟨j, -, h2, h3⟩
    · exact Or.inl h
    · exact Or.inr ⟨j, by omega, h3⟩
  · exact Or.inl rfl
def pEv (ch : Nat → Int32) (q : Nat) : Int32 × sg := pNum ch 1 4 (.inl (zr ch q))
def pK1 (ch : Nat → Int32) (q : Nat) : Int32 × sg := pNum ch 0 9 (.inl (zr ch q))
def pK2 (ch : Nat → Int32) (q : Nat) : Int32 × sg := pNum ch 1 9 (pK1 ch q).2
def pP1 (ch : Nat → Int32) (q : Nat) : Int32 × sg := pNum ch 0 99 (.inl (zr ch q))
def pP2 (ch : Nat → Int32) (q : Nat) : Int32 × sg := pNum ch 0 3 (pP1 ch q).2
def pP3 (ch : Nat → Int32) (q : Nat) : Int32 × sg := pNum ch 0 1 (pP2 ch q).2
/-- where a line ends -/
def pL (ch : Nat → Int32) (q n np told : Nat) : sg :=
  if lnN ch q = -4 then .inr (2, q) else if lnN ch q = 5 then (if told = 0 then pSemi ch (pEv ch q).2 else .inr (4, q)) else if lnN ch q = 4 then (if np < 8 then pSemi ch (pP3 ch q).2 else .inr (5, q)) else (if n < 4 then pSemi ch (pK2 ch q).2 else .inr (5, q))
/-- what is told: the cells, how many keys, how many presses, whether EVERY was told -/
abbrev pst : Type := (Nat → Int32) × Nat × Nat × Nat
def pStep (ch : Nat → Int32) (q : Nat) (s : pst) : pst :=
  if lnN ch q = 5 then (upd s.1 54 (pEv ch q).1, s.2.1, s.2.2.1, 1) else if lnN ch q = 4 then (upd (upd (upd (upd s.1 (29 + 3 * s.2.2.1 + 0) (pP1 ch q).1) (29 + 3 * s.2.2.1 + 1) (pP2 ch q).1) (29 + 3 * s.2.2.1 + 2) (pP3 ch q).1) 53 (nI (s.2.2.1 + 1)), s.2.1, s.2.2.1 + 1, s.2.2.2) else (upd (upd (upd (upd s.1 (7 * s.2.1 + 1) (lnN ch q)) (7 * s.2.1 + 0) (pK1 ch q).1) (7 * s.2.1 + 2) (pK2 ch q).1) 28 (nI (s.2.1 + 1)), s.2.1 + 1, s.2.2.1, s.2.2.2)
def pLo (ch : Nat → Int32) : Nat → Nat → Nat → pst → sg × Nat × pst
  | 0, p, i, s => (.inl p, i, s)
  | m + 1, p, i, s => if zk ch (zQ ch p) = 4 then (.inr (1, zQ ch p), i, s) else if zk ch (zQ ch p) = 0 then (.inl p, i, s) else match pL ch (zQ ch p) s.2.1 s.2.2.1 s.2.2.2 with
    | .inr x => (.inr x, i + 1, s)
    | .inl p' => pLo ch m p' (i + 1) (pStep ch (zQ ch p) s)
theorem pL_OK {f : Nat → Nat → Int32} {c L : Nat} {ch : Nat → Int32} (h : tpOK f c L ch) {q : Nat} (hq : q ≤ L) (n np told : Nat) : sgOK L (zr ch q) (pL ch q n np told) := by
  have h4 := zr_le h hq
  have b : sgOK L (zr ch q) (.inl (zr ch q)) := ⟨Nat.le_refl _, h4⟩
  unfold pL
  split
  · exact ⟨⟨Nat.le_of_ble_eq_true rfl, Nat.le_of_ble_eq_true rfl⟩, hq⟩
  · split
    · split
      · exact pSemi_OK h (pNum_OK h _ _ b)
      · exact ⟨⟨Nat.le_of_ble_eq_true rfl, Nat.le_of_ble_eq_true rfl⟩, hq⟩
    · split
      · split
        · exact pSemi_OK h (pNum_OK h _ _ (pNum_OK h _ _ (pNum_OK h _ _ b)))
        · exact ⟨⟨Nat.le_of_ble_eq_true rfl, Nat.le_of_ble_eq_true rfl⟩, hq⟩
      · split
        · exact pSemi_OK h (pNum_OK h _ _ (pNum_OK h _ _ b))
        · exact ⟨⟨Nat.le_of_ble_eq_true rfl, Nat.le_of_ble_eq_true rfl⟩, hq⟩
