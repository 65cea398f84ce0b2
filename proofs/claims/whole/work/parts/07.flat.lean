/-! THE FLAT MEMORY: behind the constructors the heap's shape never changes: 77 cells; a state is what stands in (cell, slot). -/
abbrev am_tp : Type := (Nat × List Nat) ⊕ (Nat × Nat) ⊕ (Nat × List Nat)
abbrev fm : Type := (Nat → Nat → Int32) × (Nat → Nat → Int64)
def am_slot (S : fm) (a k t : Nat) : Value := match t with
  | 0 => .int (S.1 a k)
  | 1 => .long (S.2 a k)
  | p + 2 => .ref p
def am_cell (S : fm) (a : Nat) (t : am_tp) : va_E := match t with
  | .inl (ci, ts) => .inr (ci, ts.mapIdx (fun k t => am_slot S a k t))
  | .inr (.inl (ty, n)) => .inl (ty, n, .inl (S.1 a))
  | .inr (.inr (ty, ts)) => .inl (ty, ts.length, .inr (.inr (.inr (.inr (fun j => ts[j]?)))))
def am_key : am_tp := .inl (1, [0, 0, 0, 0, 0, 0, 0, 0, 0])
def am_bd (b : Nat) : List am_tp := [.inl (0, [b + 3, 0, b + 8, b + 9, b + 10, 0, 0, 0, b + 11, b + 12, b + 13, 0]), .inr (.inr (3, [b + 2, b + 3, b + 4, b + 5])), am_key, am_key, am_key, am_key, .inr (.inl (0, 8)), .inr (.inl (0, 8)), .inr (.inl (0, 8)), .inr (.inl (0, 6)), .inr (.inl (0, 6)), .inr (.inl (0, 6))]
def am_sh (a : Nat) : List am_tp := [.inl (2, [a + 3, 0, 0]), .inr (.inl (0, 40))]
def am_tab : List am_tp := [.inl (4, [3, 0, 4, 16, 28, 29, 54, 63, 0, 0, 64, 65]), .inr (.inl (1, 160))] ++ (am_bd 2 ++ (am_bd 14 ++ ([.inr (.inr (4, [28, 40])), .inr (.inl (2, 2))] ++ (am_bd 28 ++ (am_bd 40 ++ ([.inr (.inr (5, [53, 55, 57, 59]))] ++ (am_sh 53 ++ (am_sh 55 ++ (am_sh 57 ++ (am_sh 59 ++
  [.inl (3, [3, 16, 0, 0, 0, 0, 0, 0, 0, 0]), .inr (.inl (0, 8)), .inr (.inl (0, 41)),
   .inl (5, [67, 68, 69, 70, 0, 0, 71, 0, 0, 0, 0, 0, 0, 0, 72, 0, 0, 0, 0, 1, 1, 1, 73, 74, 75, 76, 77, 0, 78]),
   .inr (.inl (0, 225)), .inr (.inl (0, 75)), .inr (.inl (2, 2)), .inr (.inl (0, 75)), .inr (.inl (0, 160)), .inr (.inl (0, 4)), .inr (.inl (0, 41)), .inr (.inl (0, 41)), .inr (.inl (0, 4)), .inr (.inl (0, 4)), .inr (.inl (0, 160)), .inr (.inl (0, 75))]))))))))))
def hp (S : fm) : List va_E := am_tab.mapIdx (fun a t => am_cell S a t)
def up2 {α : Type} (f : Nat → Nat → α) (a k : Nat) (x : α) : Nat → Nat → α := fun b j => if b = a ∧ j = k then x else f b j
theorem up2_self {α : Type} (f : Nat → Nat → α) (a k : Nat) (x : α) : up2 f a k x a k = x := by simp [up2]
theorem up2_ne {α : Type} {f : Nat → Nat → α} {a k b j : Nat} {x : α} (h : ¬ (b = a ∧ j = k)) : up2 f a k x b j = f b j := by simp [up2, h]
theorem hp_at {S : fm} {a : Nat} {t : am_tp} (ht : am_tab[a]? = some t) : (hp S)[a]? = some (am_cell S a t) := by
  unfold hp
  rw [List.getElem?_mapIdx, ht]
  rfl
theorem am_cell_ne {S : fm} {a k b : Nat} {x : Int32} (h : b ≠ a) (t : am_tp) : am_cell (up2 S.1 a k x, S.2) b t = am_cell S b t := by
  have e : up2 S.1 a k x b = S.1 b := by funext j; simp [up2, h]
  have e2 : ∀ i t, am_slot (up2 S.1 a k x, S.2) b i t = am_slot S b i t := by
    intro i t
    match t with
    | 0 => simp only [am_slot]; rw [e]
    | 1 => rfl
    | p + 2 => rfl
  match t with
  | .inl (ci, ts) => simp only [am_cell, e2]
  | .inr (.inl (ty, n)) => simp only [am_cell, e]
  | .inr (.inr (ty, ts)) => rfl
theorem am_cell_neL {S : fm} {a k b : Nat} {x : Int64} (h : b ≠ a) (t : am_tp) : am_cell (S.1, up2 S.2 a k x) b t = am_cell S b t := by
  have e : up2 S.2 a k x b = S.2 b := by funext j; simp [up2, h]
  have e2 : ∀ i t, am_slot (S.1, up2 S.2 a k x) b i t = am_slot S b i t := by
    intro i t
    match t with
    | 0 => rfl
    | 1 => simp only [am_slot]; rw [e]
    | p + 2 => rfl
  match t with
  | .inl (ci, ts) => simp only [am_cell, e2]
  | .inr (.inl (ty, n)) => rfl
  | .inr (.inr (ty, ts)) => rfl
theorem hp_set {S S' : fm} {a : Nat} {t : am_tp} (ht : am_tab[a]? = some t) (ho : ∀ b, b ≠ a → ∀ t, am_cell S' b t = am_cell S b t) : (hp S).set a (am_cell S' a t) = hp S' := by
  have hl : a < am_tab.length := (List.getElem?_eq_some_iff.mp ht).1
  apply List.ext_getElem?
  intro b
  by_cases hb : b = a
  · subst hb
    rw [List.getElem?_set_self (by unfold hp; rw [List.length_mapIdx]; exact hl), hp_at ht]
  · rw [List.getElem?_set_ne (Ne.symm hb)]
    unfold hp
    rw [List.getElem?_mapIdx, List.getElem?_mapIdx]
    cases h : am_tab[b]? with
    | none => rfl
    | some t => simp only [Option.map_some, ho b hb]
theorem hp_put {S : fm} {a ci k : Nat} {ts : List Nat} {x : Int32} (ht : am_tab[a]? = some (.inl (ci, ts))) (hk : ts[k]? = some 0) : (hp S).set a (.inr (ci, (ts.mapIdx (fun k t => am_slot S a k t)).set k (.int x))) = hp (up2 S.1 a k x, S.2) := by
  rw [← hp_set ht (fun b hb t => am_cell_ne hb t)]
  have e : (ts.mapIdx (fun k t => am_slot S a k t)).set k (.int x) = ts.mapIdx (fun j t => am_slot (up2 S.1 a k x, S.2) a j t) := by
    have hl : k < ts.length := (List.getElem?_eq_some_iff.mp hk).1
    apply List.ext_getElem?
    intro j
    by_cases hj : j = k
    · subst hj
      rw [List.getElem?_set_self (by rw [List.length_mapIdx]; exact hl), List.getElem?_mapIdx, hk]
      simp [am_slot, up2]
    · rw [List.getElem?_set_ne (Ne.symm hj), List.getElem?_mapIdx, List.getElem?_mapIdx]
      cases h : ts[j]? with
      | none => rfl
      | some t =>
        match t with
        | 0 => simp [am_slot, up2, hj]
        | 1 => rfl
        | p + 2 => rfl
  rw [e]
  rfl
theorem hp_putL {S : fm} {a ci k : Nat} {ts : List Nat} {x : Int64} (ht : am_tab[a]? = some (.inl (ci, ts))) (hk : ts[k]? = some 1) : (hp S).set a (.inr (ci, (ts.mapIdx (fun k t => am_slot S a k t)).set k (.long x))) = hp (S.1, up2 S.2 a k x) := by
  rw [← hp_set ht (fun b hb t => am_cell_neL hb t)]
  have e : (ts.mapIdx (fun k t => am_slot S a k t)).set k (.long x) = ts.mapIdx (fun j t => am_slot (S.1, up2 S.2 a k x) a j t) := by
    have hl : k < ts.length := (List.getElem?_eq_some_iff.mp hk).1
    apply List.ext_getElem?
    intro j
    by_cases hj : j = k
    · subst hj
      rw [List.getElem?_set_self (by rw [List.length_mapIdx]; exact hl), List.getElem?_mapIdx, hk]
      simp [am_slot, up2]
    · rw [List.getElem?_set_ne (Ne.symm hj), List.getElem?_mapIdx, List.getElem?_mapIdx]
      cases h : ts[j]? with
      | none => rfl
      | some t =>
        match t with
        | 0 => rfl
        | 1 => simp [am_slot, up2, hj]
        | p + 2 => rfl
  rw [e]
  rfl
theorem hp_ast {S : fm} {a ty n k : Nat} {x : Int32} (ht : am_tab[a]? = some (.inr (.inl (ty, n)))) : (hp S).set a (.inl (ty, n, .inl (upd (S.1 a) k x))) = hp (up2 S.1 a k x, S.2) := by
  rw [← hp_set ht (fun b hb t => am_cell_ne hb t)]
  have e : upd (S.1 a) k x = up2 S.1 a k x a := by funext j; simp [upd, up2]
  rw [e]
  rfl
/-- a contract that is a function: with these arguments, in state S, method M answers r and leaves S' -/
def AF (V : am_V) (M : am_M) (d : Nat) (args : List Value) (S : fm) (r : Option Value) (S' : fm) : Prop := AM V M d 0 0 args (hp S) (fun r' h' => r' = r ∧ h' = hp S')
