/-- contracts whose end is told by a property of the answer and the state -/
def AGi (V : am_V) (M : am_M) (d : Nat) (args : List Value) (S : fm) (P : Int32 → fm → Prop) : Prop := AM V M d 0 0 args (hp S) (fun r' h' => ∃ (x : Int32) (S' : fm), r' = some (.int x) ∧ h' = hp S' ∧ P x S')
def AGl (V : am_V) (M : am_M) (d : Nat) (args : List Value) (S : fm) (P : Int64 → fm → Prop) : Prop := AM V M d 0 0 args (hp S) (fun r' h' => ∃ (x : Int64) (S' : fm), r' = some (.long x) ∧ h' = hp S' ∧ P x S')
def AGr (V : am_V) (M : am_M) (d : Nat) (args : List Value) (S : fm) (P : Nat → fm → Prop) : Prop := AM V M d 0 0 args (hp S) (fun r' h' => ∃ (x : Nat) (S' : fm), r' = some (.ref x) ∧ h' = hp S' ∧ P x S')
def AGv (V : am_V) (M : am_M) (d : Nat) (args : List Value) (S : fm) (P : fm → Prop) : Prop := AM V M d 0 0 args (hp S) (fun r' h' => ∃ S' : fm, r' = none ∧ h' = hp S' ∧ P S')
section AXG
variable {V : am_V} {M : am_M} {d kc ks pc : Nat} {L : List (Option Value)} {st : List Value} {S : fm} {R : Option Value → List va_E → Prop}
theorem ax_gV0i {M' : am_M} {idx : Nat} {b ci : Nat} {q : vw_C} {ts : List Nat} {P : Int32 → fm → Prop} (hd : decode M.2.1 pc = .ok (.invokevirtual idx, 3)) (hl : Cond.methodLink M.1.cls idx M'.1 ∈ am_T) (ho : am_okV M') (hn : (parseMethodDescriptor M'.1.desc).map (fun d => d.parameters.length) = some 0) (ht : am_tab[b]? = some (.inl (ci, ts))) (hq : am_cl[ci]? = some q) (hqc : q.1 = M'.1.cls) (hw : (st.map fun v => v.category).sum ≤ 8) (kk : AGi V M' d [.ref b] S P) (k : ∀ (r : Int32) (S' : fm), P r S' → AW V M (d + 1) kc ks (pc + 3) L (.int r :: st) (hp S') R) : AW V M (d + 1) kc ks pc L (.ref b :: st) (hp S) R := by
  unfold AGi at kk
  have k1 : AM V M' d 0 0 (.ref b :: []) (hp S) (fun r' h' => AW V M (d + 1) kc ks (pc + 3) L (r'.toList ++ st) h' R) := by
    refine AM.weaken ?_ kk
    intro r' h' z
    obtain ⟨x, S', z1, z2, z3⟩ := z
    rw [z1, z2]
    exact k x S' z3
  have k2 := aw_callV (V := V) (M := M) (M' := M') (d := d) (kc := kc) (ks := ks) (pc := pc) (kc' := 0) (ks' := 0) (as := []) (st := st) (L := L) (h := hp S) (R := R) (b := b) (host := "") hd hl ho hn (hp_at (S := S) ht) hq hqc rfl hw k1
  rw [Nat.zero_add, Nat.zero_add] at k2
  exact k2
theorem ax_gV0v {M' : am_M} {idx : Nat} {b ci : Nat} {q : vw_C} {ts : List Nat} {P : fm → Prop} (hd : decode M.2.1 pc = .ok (.invokevirtual idx, 3)) (hl : Cond.methodLink M.1.cls idx M'.1 ∈ am_T) (ho : am_okV M') (hn : (parseMethodDescriptor M'.1.desc).map (fun d => d.parameters.length) = some 0) (ht : am_tab[b]? = some (.inl (ci, ts))) (hq : am_cl[ci]? = some q) (hqc : q.1 = M'.1.cls) (hw : (st.map fun v => v.category).sum ≤ 8) (kk : AGv V M' d [.ref b] S P) (k : ∀ S' : fm, P S' → AW V M (d + 1) kc ks (pc + 3) L (st) (hp S') R) : AW V M (d + 1) kc ks pc L (.ref b :: st) (hp S) R := by
  unfold AGv at kk
  have k1 : AM V M' d 0 0 (.ref b :: []) (hp S) (fun r' h' => AW V M (d + 1) kc ks (pc + 3) L (r'.toList ++ st) h' R) := by
    refine AM.weaken ?_ kk
    intro r' h' z
    obtain ⟨S', z1, z2, z3⟩ := z
    rw [z1, z2]
    exact k S' z3
  have k2 := aw_callV (V := V) (M := M) (M' := M') (d := d) (kc := kc) (ks := ks) (pc := pc) (kc' := 0) (ks' := 0) (as := []) (st := st) (L := L) (h := hp S) (R := R) (b := b) (host := "") hd hl ho hn (hp_at (S := S) ht) hq hqc rfl hw k1
  rw [Nat.zero_add, Nat.zero_add] at k2
  exact k2
theorem ax_gV0l {M' : am_M} {idx : Nat} {b ci : Nat} {q : vw_C} {ts : List Nat} {P : Int64 → fm → Prop} (hd : decode M.2.1 pc = .ok (.invokevirtual idx, 3)) (hl : Cond.methodLink M.1.cls idx M'.1 ∈ am_T) (ho : am_okV M') (hn : (parseMethodDescriptor M'.1.desc).map (fun d => d.parameters.length) = some 0) (ht : am_tab[b]? = some (.inl (ci, ts))) (hq : am_cl[ci]? = some q) (hqc : q.1 = M'.1.cls) (hw : (st.map fun v => v.category).sum ≤ 8) (kk : AGl V M' d [.ref b] S P) (k : ∀ (r : Int64) (S' : fm), P r S' → AW V M (d + 1) kc ks (pc + 3) L (.long r :: st) (hp S') R) : AW V M (d + 1) kc ks pc L (.ref b :: st) (hp S) R := by
  unfold AGl at kk
  have k1 : AM V M' d 0 0 (.ref b :: []) (hp S) (fun r' h' => AW V M (d + 1) kc ks (pc + 3) L (r'.toList ++ st) h' R) := by
    refine AM.weaken ?_ kk
    intro r' h' z
    obtain ⟨x, S', z1, z2, z3⟩ := z
    rw [z1, z2]
    exact k x S' z3
  have k2 := aw_callV (V := V) (M := M) (M' := M') (d := d) (kc := kc) (ks := ks) (pc := pc) (kc' := 0) (ks' := 0) (as := []) (st := st) (L := L) (h := hp S) (R := R) (b := b) (host := "") hd hl ho hn (hp_at (S := S) ht) hq hqc rfl hw k1
  rw [Nat.zero_add, Nat.zero_add] at k2
  exact k2
theorem ax_gV0r {M' : am_M} {idx : Nat} {b ci : Nat} {q : vw_C} {ts : List Nat} {P : Nat → fm → Prop} (hd : decode M.2.1 pc = .ok (.invokevirtual idx, 3)) (hl : Cond.methodLink M.1.cls idx M'.1 ∈ am_T) (ho : am_okV M') (hn : (parseMethodDescriptor M'.1.desc).map (fun d => d.parameters.length) = some 0) (ht : am_tab[b]? = some (.inl (ci, ts))) (hq : am_cl[ci]? = some q) (hqc : q.1 = M'.1.cls) (hw : (st.map fun v => v.category).sum ≤ 8) (kk : AGr V M' d [.ref b] S P) (k : ∀ (r : Nat) (S' : fm), P r S' → AW V M (d + 1) kc ks (pc + 3) L (.ref r :: st) (hp S') R) : AW V M (d + 1) kc ks pc L (.ref b :: st) (hp S) R := by
  unfold AGr at kk
  have k1 : AM V M' d 0 0 (.ref b :: []) (hp S) (fun r' h' => AW V M (d + 1) kc ks (pc + 3) L (r'.toList ++ st) h' R) := by
    refine AM.weaken ?_ kk
    intro r' h' z
    obtain ⟨x, S', z1, z2, z3⟩ := z
    rw [z1, z2]
    exact k x S' z3
  have k2 := aw_callV (V := V) (M := M) (M' := M') (d := d) (kc := kc) (ks := ks) (pc := pc) (kc' := 0) (ks' := 0) (as := []) (st := st) (L := L) (h := hp S) (R := R) (b := b) (host := "") hd hl ho hn (hp_at (S := S) ht) hq hqc rfl hw k1
  rw [Nat.zero_add, Nat.zero_add] at k2
  exact k2
theorem ax_gV1i {M' : am_M} {idx : Nat} {b ci : Nat} {q : vw_C} {ts : List Nat} {x1 : Value} {P : Int32 → fm → Prop} (hd : decode M.2.1 pc = .ok (.invokevirtual idx, 3)) (hl : Cond.methodLink M.1.cls idx M'.1 ∈ am_T) (ho : am_okV M') (hn : (parseMethodDescriptor M'.1.desc).map (fun d => d.parameters.length) = some 1) (ht : am_tab[b]? = some (.inl (ci, ts))) (hq : am_cl[ci]? = some q) (hqc : q.1 = M'.1.cls) (hw : (st.map fun v => v.category).sum ≤ 8) (kk : AGi V M' d [.ref b, x1] S P) (k : ∀ (r : Int32) (S' : fm), P r S' → AW V M (d + 1) kc ks (pc + 3) L (.int r :: st) (hp S') R) : AW V M (d + 1) kc ks pc L (x1 :: .ref b :: st) (hp S) R := by
  unfold AGi at kk
  have k1 : AM V M' d 0 0 (.ref b :: [x1]) (hp S) (fun r' h' => AW V M (d + 1) kc ks (pc + 3) L (r'.toList ++ st) h' R) := by
    refine AM.weaken ?_ kk
    intro r' h' z
    obtain ⟨x, S', z1, z2, z3⟩ := z
    rw [z1, z2]
    exact k x S' z3
  have k2 := aw_callV (V := V) (M := M) (M' := M') (d := d) (kc := kc) (ks := ks) (pc := pc) (kc' := 0) (ks' := 0) (as := [x1]) (st := st) (L := L) (h := hp S) (R := R) (b := b) (host := "") hd hl ho hn (hp_at (S := S) ht) hq hqc rfl hw k1
  rw [Nat.zero_add, Nat.zero_add] at k2
  exact k2
theorem ax_gV1v {M' : am_M} {idx : Nat} {b ci : Nat} {q : vw_C} {ts : List Nat} {x1 : Value} {P : fm → Prop} (hd : decode M.2.1 pc = .ok (.invokevirtual idx, 3)) (hl : Cond.methodLink M.1.cls idx M'.1 ∈ am_T) (ho : am_okV M') (hn : (parseMethodDescriptor M'.1.desc).map (fun d => d.parameters.length) = some 1) (ht : am_tab[b]? = some (.inl (ci, ts))) (hq : am_cl[ci]? = some q) (hqc : q.1 = M'.1.cls) (hw : (st.map fun v => v.category).sum ≤ 8) (kk : AGv V M' d [.ref b, x1] S P) (k : ∀ S' : fm, P S' → AW V M (d + 1) kc ks (pc + 3) L (st) (hp S') R) : AW V M (d + 1) kc ks pc L (x1 :: .ref b :: st) (hp S) R := by
  unfold AGv at kk
  have k1 : AM V M' d 0 0 (.ref b :: [x1]) (hp S) (fun r' h' => AW V M (d + 1) kc ks (pc + 3) L (r'.toList ++ st) h' R) := by
    refine AM.weaken ?_ kk
    intro r' h' z
    obtain ⟨S', z1, z2, z3⟩ := z
    rw [z1, z2]
    exact k S' z3
  have k2 := aw_callV (V := V) (M := M) (M' := M') (d := d) (kc := kc) (ks := ks) (pc := pc) (kc' := 0) (ks' := 0) (as := [x1]) (st := st) (L := L) (h := hp S) (R := R) (b := b) (host := "") hd hl ho hn (hp_at (S := S) ht) hq hqc rfl hw k1
  rw [Nat.zero_add, Nat.zero_add] at k2
  exact k2
theorem ax_gV1l {M' : am_M} {idx : Nat} {b ci : Nat} {q : vw_C} {ts : List Nat} {x1 : Value} {P : Int64 → fm → Prop} (hd : decode M.2.1 pc = .ok (.invokevirtual idx, 3)) (hl : Cond.methodLink M.1.cls idx M'.1 ∈ am_T) (ho : am_okV M') (hn : (parseMethodDescriptor M'.1.desc).map (fun d => d.parameters.length) = some 1) (ht : am_tab[b]? = some (.inl (ci, ts))) (hq : am_cl[ci]? = some q) (hqc : q.1 = M'.1.cls) (hw : (st.map fun v => v.category).sum ≤ 8) (kk : AGl V M' d [.ref b, x1] S P) (k : ∀ (r : Int64) (S' : fm), P r S' → AW V M (d + 1) kc ks (pc + 3) L (.long r :: st) (hp S') R) : AW V M (d + 1) kc ks pc L (x1 :: .ref b :: st) (hp S) R := by
  unfold AGl at kk
  have k1 : AM V M' d 0 0 (.ref b :: [x1]) (hp S) (fun r' h' => AW V M (d + 1) kc ks (pc + 3) L (r'.toList ++ st) h' R) := by
    refine AM.weaken ?_ kk
    intro r' h' z
    obtain ⟨x, S', z1, z2, z3⟩ := z
    rw [z1, z2]
    exact k x S' z3
  have k2 := aw_callV (V := V) (M := M) (M' := M') (d := d) (kc := kc) (ks := ks) (pc := pc) (kc' := 0) (ks' := 0) (as := [x1]) (st := st) (L := L) (h := hp S) (R := R) (b := b) (host := "") hd hl ho hn (hp_at (S := S) ht) hq hqc rfl hw k1
  rw [Nat.zero_add, Nat.zero_add] at k2
  exact k2
theorem ax_gV1r {M' : am_M} {idx : Nat} {b ci : Nat} {q : vw_C} {ts : List Nat} {x1 : Value} {P : Nat → fm → Prop} (hd : decode M.2.1 pc = .ok (.invokevirtual idx, 3)) (hl : Cond.methodLink M.1.cls idx M'.1 ∈ am_T) (ho : am_okV M') (hn : (parseMethodDescriptor M'.1.desc).map (fun d => d.parameters.length) = some 1) (ht : am_tab[b]? = some (.inl (ci, ts))) (hq : am_cl[ci]? = some q) (hqc : q.1 = M'.1.cls) (hw : (st.map fun v => v.category).sum ≤ 8) (kk : AGr V M' d [.ref b, x1] S P) (k : ∀ (r : Nat) (S' : fm), P r S' → AW V M (d + 1) kc ks (pc + 3) L (.ref r :: st) (hp S') R) : AW V M (d + 1) kc ks pc L (x1 :: .ref b :: st) (hp S) R := by
  unfold AGr at kk
  have k1 : AM V M' d 0 0 (.ref b :: [x1]) (hp S) (fun r' h' => AW V M (d + 1) kc ks (pc + 3) L (r'.toList ++ st) h' R) := by
    refine AM.weaken ?_ kk
    intro r' h' z
    obtain ⟨x, S', z1, z2, z3⟩ := z
    rw [z1, z2]
    exact k x S' z3
  have k2 := aw_callV (V := V) (M := M) (M' := M') (d := d) (kc := kc) (ks := ks) (pc := pc) (kc' := 0) (ks' := 0) (as := [x1]) (st := st) (L := L) (h := hp S) (R := R) (b := b) (host := "") hd hl ho hn (hp_at (S := S) ht) hq hqc rfl hw k1
  rw [Nat.zero_add, Nat.zero_add] at k2
  exact k2
theorem ax_gV2i {M' : am_M} {idx : Nat} {b ci : Nat} {q : vw_C} {ts : List Nat} {x1 x2 : Value} {P : Int32 → fm → Prop} (hd : decode M.2.1 pc = .ok (.invokevirtual idx, 3)) (hl : Cond.methodLink M.1.cls idx M'.1 ∈ am_T) (ho : am_okV M') (hn : (parseMethodDescriptor M'.1.desc).map (fun d => d.parameters.length) = some 2) (ht : am_tab[b]? = some (.inl (ci, ts))) (hq : am_cl[ci]? = some q) (hqc : q.1 = M'.1.cls) (hw : (st.map fun v => v.category).sum ≤ 8) (kk : AGi V M' d [.ref b, x1, x2] S P) (k : ∀ (r : Int32) (S' : fm), P r S' → AW V M (d + 1) kc ks (pc + 3) L (.int r :: st) (hp S') R) : AW V M (d + 1) kc ks pc L (x2 :: x1 :: .ref b :: st) (hp S) R := by
  unfold AGi at kk
  have k1 : AM V M' d 0 0 (.ref b :: [x1, x2]) (hp S) (fun r' h' => AW V M (d + 1) kc ks (pc + 3) L (r'.toList ++ st) h' R) := by
    refine AM.weaken ?_ kk
    intro r' h' z
    obtain ⟨x, S', z1, z2, z3⟩ := z
    rw [z1, z2]
    exact k x S' z3
  have k2 := aw_callV (V := V) (M := M) (M' := M') (d := d) (kc := kc) (ks := ks) (pc := pc) (kc' := 0) (ks' := 0) (as := [x1, x2]) (st := st) (L := L) (h := hp S) (R := R) (b := b) (host := "") hd hl ho hn (hp_at (S := S) ht) hq hqc rfl hw k1
  rw [Nat.zero_add, Nat.zero_add] at k2
  exact k2
theorem ax_gV2v {M' : am_M} {idx : Nat} {b ci : Nat} {q : vw_C} {ts : List Nat} {x1 x2 : Value} {P : fm → Prop} (hd : decode M.2.1 pc = .ok (.invokevirtual idx, 3)) (hl : Cond.methodLink M.1.cls idx M'.1 ∈ am_T) (ho : am_okV M') (hn : (parseMethodDescriptor M'.1.desc).map (fun d => d.parameters.length) = some 2) (ht : am_tab[b]? = some (.inl (ci, ts))) (hq : am_cl[ci]? = some q) (hqc : q.1 = M'.1.cls) (hw : (st.map fun v => v.category).sum ≤ 8) (kk : AGv V M' d [.ref b, x1, x2] S P) (k : ∀ S' : fm, P S' → AW V M (d + 1) kc ks (pc + 3) L (st) (hp S') R) : AW V M (d + 1) kc ks pc L (x2 :: x1 :: .ref b :: st) (hp S) R := by
  unfold AGv at kk
  have k1 : AM V M' d 0 0 (.ref b :: [x1, x2]) (hp S) (fun r' h' => AW V M (d + 1) kc ks (pc + 3) L (r'.toList ++ st) h' R) := by
    refine AM.weaken ?_ kk
    intro r' h' z
    obtain ⟨S', z1, z2, z3⟩ := z
    rw [z1, z2]
    exact k S' z3
  have k2 := aw_callV (V := V) (M := M) (M' := M') (d := d) (kc := kc) (ks := ks) (pc := pc) (kc' := 0) (ks' := 0) (as := [x1, x2]) (st := st) (L := L) (h := hp S) (R := R) (b := b) (host := "") hd hl ho hn (hp_at (S := S) ht) hq hqc rfl hw k1
  rw [Nat.zero_add, Nat.zero_add] at k2
  exact k2
theorem ax_gV2l {M' : am_M} {idx : Nat} {b ci : Nat} {q : vw_C} {ts : List Nat} {x1 x2 : Value} {P : Int64 → fm → Prop} (hd : decode M.2.1 pc = .ok (.invokevirtual idx, 3)) (hl : Cond.methodLink M.1.cls idx M'.1 ∈ am_T) (ho : am_okV M') (hn : (parseMethodDescriptor M'.1.desc).map (fun d => d.parameters.length) = some 2) (ht : am_tab[b]? = some (.inl (ci, ts))) (hq : am_cl[ci]? = some q) (hqc : q.1 = M'.1.cls) (hw : (st.map fun v => v.category).sum ≤ 8) (kk : AGl V M' d [.ref b, x1, x2] S P) (k : ∀ (r : Int64) (S' : fm), P r S' → AW V M (d + 1) kc ks (pc + 3) L (.long r :: st) (hp S') R) : AW V M (d + 1) kc ks pc L (x2 :: x1 :: .ref b :: st) (hp S) R := by
  unfold AGl at kk
  have k1 : AM V M' d 0 0 (.ref b :: [x1, x2]) (hp S) (fun r' h' => AW V M (d + 1) kc ks (pc + 3) L (r'.toList ++ st) h' R) := by
    refine AM.weaken ?_ kk
    intro r' h' z
    obtain ⟨x, S', z1, z2, z3⟩ := z
    rw [z1, z2]
    exact k x S' z3
  have k2 := aw_callV (V := V) (M := M) (M' := M') (d := d) (kc := kc) (ks := ks) (pc := pc) (kc' := 0) (ks' := 0) (as := [x1, x2]) (st := st) (L := L) (h := hp S) (R := R) (b := b) (host := "") hd hl ho hn (hp_at (S := S) ht) hq hqc rfl hw k1
  rw [Nat.zero_add, Nat.zero_add] at k2
  exact k2
theorem ax_gV2r {M' : am_M} {idx : Nat} {b ci : Nat} {q : vw_C} {ts : List Nat} {x1 x2 : Value} {P : Nat → fm → Prop} (hd : decode M.2.1 pc = .ok (.invokevirtual idx, 3)) (hl : Cond.methodLink M.1.cls idx M'.1 ∈ am_T) (ho : am_okV M') (hn : (parseMethodDescriptor M'.1.desc).map (fun d => d.parameters.length) = some 2) (ht : am_tab[b]? = some (.inl (ci, ts))) (hq : am_cl[ci]? = some q) (hqc : q.1 = M'.1.cls) (hw : (st.map fun v => v.category).sum ≤ 8) (kk : AGr V M' d [.ref b, x1, x2] S P) (k : ∀ (r : Nat) (S' : fm), P r S' → AW V M (d + 1) kc ks (pc + 3) L (.ref r :: st) (hp S') R) : AW V M (d + 1) kc ks pc L (x2 :: x1 :: .ref b :: st) (hp S) R := by
  unfold AGr at kk
  have k1 : AM V M' d 0 0 (.ref b :: [x1, x2]) (hp S) (fun r' h' => AW V M (d + 1) kc ks (pc + 3) L (r'.toList ++ st) h' R) := by
    refine AM.weaken ?_ kk
    intro r' h' z
    obtain ⟨x, S', z1, z2, z3⟩ := z
    rw [z1, z2]
    exact k x S' z3
  have k2 := aw_callV (V := V) (M := M) (M' := M') (d := d) (kc := kc) (ks := ks) (pc := pc) (kc' := 0) (ks' := 0) (as := [x1, x2]) (st := st) (L := L) (h := hp S) (R := R) (b := b) (host := "") hd hl ho hn (hp_at (S := S) ht) hq hqc rfl hw k1
  rw [Nat.zero_add, Nat.zero_add] at k2
  exact k2
theorem ax_gV3i {M' : am_M} {idx : Nat} {b ci : Nat} {q : vw_C} {ts : List Nat} {x1 x2 x3 : Value} {P : Int32 → fm → Prop} (hd : decode M.2.1 pc = .ok (.invokevirtual idx, 3)) (hl : Cond.methodLink M.1.cls idx M'.1 ∈ am_T) (ho : am_okV M') (hn : (parseMethodDescriptor M'.1.desc).map (fun d => d.parameters.length) = some 3) (ht : am_tab[b]? = some (.inl (ci, ts))) (hq : am_cl[ci]? = some q) (hqc : q.1 = M'.1.cls) (hw : (st.map fun v => v.category).sum ≤ 8) (kk : AGi V M' d [.ref b, x1, x2, x3] S P) (k : ∀ (r : Int32) (S' : fm), P r S' → AW V M (d + 1) kc ks (pc + 3) L (.int r :: st) (hp S') R) : AW V M (d + 1) kc ks pc L (x3 :: x2 :: x1 :: .ref b :: st) (hp S) R := by
  unfold AGi at kk
  have k1 : AM V M' d 0 0 (.ref b :: [x1, x2, x3]) (hp S) (fun r' h' => AW V M (d + 1) kc ks (pc + 3) L (r'.toList ++ st) h' R) := by
    refine AM.weaken ?_ kk
    intro r' h' z
    obtain ⟨x, S', z1, z2, z3⟩ := z
    rw [z1, z2]
    exact k x S' z3
  have k2 := aw_callV (V := V) (M := M) (M' := M') (d := d) (kc := kc) (ks := ks) (pc := pc) (kc' := 0) (ks' := 0) (as := [x1, x2, x3]) (st := st) (L := L) (h := hp S) (R := R) (b := b) (host := "") hd hl ho hn (hp_at (S := S) ht) hq hqc rfl hw k1
  rw [Nat.zero_add, Nat.zero_add] at k2
  exact k2
theorem ax_gV3v {M' : am_M} {idx : Nat} {b ci : Nat} {q : vw_C} {ts : List Nat} {x1 x2 x3 : Value} {P : fm → Prop} (hd : decode M.2.1 pc = .ok (.invokevirtual idx, 3)) (hl : Cond.methodLink M.1.cls idx M'.1 ∈ am_T) (ho : am_okV M') (hn : (parseMethodDescriptor M'.1.desc).map (fun d => d.parameters.length) = some 3) (ht : am_tab[b]? = some (.inl (ci, ts))) (hq : am_cl[ci]? = some q) (hqc : q.1 = M'.1.cls) (hw : (st.map fun v => v.category).sum ≤ 8) (kk : AGv V M' d [.ref b, x1, x2, x3] S P) (k : ∀ S' : fm, P S' → AW V M (d + 1) kc ks (pc + 3) L (st) (hp S') R) : AW V M (d + 1) kc ks pc L (x3 :: x2 :: x1 :: .ref b :: st) (hp S) R := by
  unfold AGv at kk
  have k1 : AM V M' d 0 0 (.ref b :: [x1, x2, x3]) (hp S) (fun r' h' => AW V M (d + 1) kc ks (pc + 3) L (r'.toList ++ st) h' R) := by
    refine AM.weaken ?_ kk
    intro r' h' z
    obtain ⟨S', z1, z2, z3⟩ := z
    rw [z1, z2]
    exact k S' z3
  have k2 := aw_callV (V := V) (M := M) (M' := M') (d := d) (kc := kc) (ks := ks) (pc := pc) (kc' := 0) (ks' := 0) (as := [x1, x2, x3]) (st := st) (L := L) (h := hp S) (R := R) (b := b) (host := "") hd hl ho hn (hp_at (S := S) ht) hq hqc rfl hw k1
  rw [Nat.zero_add, Nat.zero_add] at k2
  exact k2
theorem ax_gV3l {M' : am_M} {idx : Nat} {b ci : Nat} {q : vw_C} {ts : List Nat} {x1 x2 x3 : Value} {P : Int64 → fm → Prop} (hd : decode M.2.1 pc = .ok (.invokevirtual idx, 3)) (hl : Cond.methodLink M.1.cls idx M'.1 ∈ am_T) (ho : am_okV M') (hn : (parseMethodDescriptor M'.1.desc).map (fun d => d.parameters.length) = some 3) (ht : am_tab[b]? = some (.inl (ci, ts))) (hq : am_cl[ci]? = some q) (hqc : q.1 = M'.1.cls) (hw : (st.map fun v => v.category).sum ≤ 8) (kk : AGl V M' d [.ref b, x1, x2, x3] S P) (k : ∀ (r : Int64) (S' : fm), P r S' → AW V M (d + 1) kc ks (pc + 3) L (.long r :: st) (hp S') R) : AW V M (d + 1) kc ks pc L (x3 :: x2 :: x1 :: .ref b :: st) (hp S) R := by
  unfold AGl at kk
  have k1 : AM V M' d 0 0 (.ref b :: [x1, x2, x3]) (hp S) (fun r' h' => AW V M (d + 1) kc ks (pc + 3) L (r'.toList ++ st) h' R) := by
    refine AM.weaken ?_ kk
    intro r' h' z
    obtain ⟨x, S', z1, z2, z3⟩ := z
    rw [z1, z2]
    exact k x S' z3
  have k2 := aw_callV (V := V) (M := M) (M' := M') (d := d) (kc := kc) (ks := ks) (pc := pc) (kc' := 0) (ks' := 0) (as := [x1, x2, x3]) (st := st) (L := L) (h := hp S) (R := R) (b := b) (host := "") hd hl ho hn (hp_at (S := S) ht) hq hqc rfl hw k1
  rw [Nat.zero_add, Nat.zero_add] at k2
  exact k2
theorem ax_gV3r {M' : am_M} {idx : Nat} {b ci : Nat} {q : vw_C} {ts : List Nat} {x1 x2 x3 : Value} {P : Nat → fm → Prop} (hd : decode M.2.1 pc = .ok (.invokevirtual idx, 3)) (hl : Cond.methodLink M.1.cls idx M'.1 ∈ am_T) (ho : am_okV M') (hn : (parseMethodDescriptor M'.1.desc).map (fun d => d.parameters.length) = some 3) (ht : am_tab[b]? = some (.inl (ci, ts))) (hq : am_cl[ci]? = some q) (hqc : q.1 = M'.1.cls) (hw : (st.map fun v => v.category).sum ≤ 8) (kk : AGr V M' d [.ref b, x1, x2, x3] S P) (k : ∀ (r : Nat) (S' : fm), P r S' → AW V M (d + 1) kc ks (pc + 3) L (.ref r :: st) (hp S') R) : AW V M (d + 1) kc ks pc L (x3 :: x2 :: x1 :: .ref b :: st) (hp S) R := by
  unfold AGr at kk
  have k1 : AM V M' d 0 0 (.ref b :: [x1, x2, x3]) (hp S) (fun r' h' => AW V M (d + 1) kc ks (pc + 3) L (r'.toList ++ st) h' R) := by
    refine AM.weaken ?_ kk
    intro r' h' z
    obtain ⟨x, S', z1, z2, z3⟩ := z
    rw [z1, z2]
    exact k x S' z3
  have k2 := aw_callV (V := V) (M := M) (M' := M') (d := d) (kc := kc) (ks := ks) (pc := pc) (kc' := 0) (ks' := 0) (as := [x1, x2, x3]) (st := st) (L := L) (h := hp S) (R := R) (b := b) (host := "") hd hl ho hn (hp_at (S := S) ht) hq hqc rfl hw k1
  rw [Nat.zero_add, Nat.zero_add] at k2
  exact k2
theorem ax_gV4i {M' : am_M} {idx : Nat} {b ci : Nat} {q : vw_C} {ts : List Nat} {x1 x2 x3 x4 : Value} {P : Int32 → fm → Prop} (hd : decode M.2.1 pc = .ok (.invokevirtual idx, 3)) (hl : Cond.methodLink M.1.cls idx M'.1 ∈ am_T) (ho : am_okV M') (hn : (parseMethodDescriptor M'.1.desc).map (fun d => d.parameters.length) = some 4) (ht : am_tab[b]? = some (.inl (ci, ts))) (hq : am_cl[ci]? = some q) (hqc : q.1 = M'.1.cls) (hw : (st.map fun v => v.category).sum ≤ 8) (kk : AGi V M' d [.ref b, x1, x2, x3, x4] S P) (k : ∀ (r : Int32) (S' : fm), P r S' → AW V M (d + 1) kc ks (pc + 3) L (.int r :: st) (hp S') R) : AW V M (d + 1) kc ks pc L (x4 :: x3 :: x2 :: x1 :: .ref b :: st) (hp S) R := by
  unfold AGi at kk
  have k1 : AM V M' d 0 0 (.ref b :: [x1, x2, x3, x4]) (hp S) (fun r' h' => AW V M (d + 1) kc ks (pc + 3) L (r'.toList ++ st) h' R) := by
    refine AM.weaken ?_ kk
    intro r' h' z
    obtain ⟨x, S', z1, z2, z3⟩ := z
    rw [z1, z2]
    exact k x S' z3
  have k2 := aw_callV (V := V) (M := M) (M' := M') (d := d) (kc := kc) (ks := ks) (pc := pc) (kc' := 0) (ks' := 0) (as := [x1, x2, x3, x4]) (st := st) (L := L) (h := hp S) (R := R) (b := b) (host := "") hd hl ho hn (hp_at (S := S) ht) hq hqc rfl hw k1
  rw [Nat.zero_add, Nat.zero_add] at k2
  exact k2
theorem ax_gV4v {M' : am_M} {idx : Nat} {b ci : Nat} {q : vw_C} {ts : List Nat} {x1 x2 x3 x4 : Value} {P : fm → Prop} (hd : decode M.2.1 pc = .ok (.invokevirtual idx, 3)) (hl : Cond.methodLink M.1.cls idx M'.1 ∈ am_T) (ho : am_okV M') (hn : (parseMethodDescriptor M'.1.desc).map (fun d => d.parameters.length) = some 4) (ht : am_tab[b]? = some (.inl (ci, ts))) (hq : am_cl[ci]? = some q) (hqc : q.1 = M'.1.cls) (hw : (st.map fun v => v.category).sum ≤ 8) (kk : AGv V M' d [.ref b, x1, x2, x3, x4] S P) (k : ∀ S' : fm, P S' → AW V M (d + 1) kc ks (pc + 3) L (st) (hp S') R) : AW V M (d + 1) kc ks pc L (x4 :: x3 :: x2 :: x1 :: .ref b :: st) (hp S) R := by
  unfold AGv at kk
  have k1 : AM V M' d 0 0 (.ref b :: [x1, x2, x3, x4]) (hp S) (fun r' h' => AW V M (d + 1) kc ks (pc + 3) L (r'.toList ++ st) h' R) := by
    refine AM.weaken ?_ kk
    intro r' h' z
    obtain ⟨S', z1, z2, z3⟩ := z
    rw [z1, z2]
    exact k S' z3
  have k2 := aw_callV (V := V) (M := M) (M' := M') (d := d) (kc := kc) (ks := ks) (pc := pc) (kc' := 0) (ks' := 0) (as := [x1, x2, x3, x4]) (st := st) (L := L) (h := hp S) (R := R) (b := b) (host := "") hd hl ho hn (hp_at (S := S) ht) hq hqc rfl hw k1
  rw [Nat.zero_add, Nat.zero_add] at k2
  exact k2
theorem ax_gV4l {M' : am_M} {idx : Nat} {b ci : Nat} {q : vw_C} {ts : List Nat} {x1 x2 x3 x4 : Value} {P : Int64 → fm → Prop} (hd : decode M.2.1 pc = .ok (.invokevirtual idx, 3)) (hl : Cond.methodLink M.1.cls idx M'.1 ∈ am_T) (ho : am_okV M') (hn : (parseMethodDescriptor M'.1.desc).map (fun d => d.parameters.length) = some 4) (ht : am_tab[b]? = some (.inl (ci, ts))) (hq : am_cl[ci]? = some q) (hqc : q.1 = M'.1.cls) (hw : (st.map fun v => v.category).sum ≤ 8) (kk : AGl V M' d [.ref b, x1, x2, x3, x4] S P) (k : ∀ (r : Int64) (S' : fm), P r S' → AW V M (d + 1) kc ks (pc + 3) L (.long r :: st) (hp S') R) : AW V M (d + 1) kc ks pc L (x4 :: x3 :: x2 :: x1 :: .ref b :: st) (hp S) R := by
  unfold AGl at kk
  have k1 : AM V M' d 0 0 (.ref b :: [x1, x2, x3, x4]) (hp S) (fun r' h' => AW V M (d + 1) kc ks (pc + 3) L (r'.toList ++ st) h' R) := by
    refine AM.weaken ?_ kk
    intro r' h' z
    obtain ⟨x, S', z1, z2, z3⟩ := z
    rw [z1, z2]
    exact k x S' z3
  have k2 := aw_callV (V := V) (M := M) (M' := M') (d := d) (kc := kc) (ks := ks) (pc := pc) (kc' := 0) (ks' := 0) (as := [x1, x2, x3, x4]) (st := st) (L := L) (h := hp S) (R := R) (b := b) (host := "") hd hl ho hn (hp_at (S := S) ht) hq hqc rfl hw k1
  rw [Nat.zero_add, Nat.zero_add] at k2
  exact k2
theorem ax_gV4r {M' : am_M} {idx : Nat} {b ci : Nat} {q : vw_C} {ts : List Nat} {x1 x2 x3 x4 : Value} {P : Nat → fm → Prop} (hd : decode M.2.1 pc = .ok (.invokevirtual idx, 3)) (hl : Cond.methodLink M.1.cls idx M'.1 ∈ am_T) (ho : am_okV M') (hn : (parseMethodDescriptor M'.1.desc).map (fun d => d.parameters.length) = some 4) (ht : am_tab[b]? = some (.inl (ci, ts))) (hq : am_cl[ci]? = some q) (hqc : q.1 = M'.1.cls) (hw : (st.map fun v => v.category).sum ≤ 8) (kk : AGr V M' d [.ref b, x1, x2, x3, x4] S P) (k : ∀ (r : Nat) (S' : fm), P r S' → AW V M (d + 1) kc ks (pc + 3) L (.ref r :: st) (hp S') R) : AW V M (d + 1) kc ks pc L (x4 :: x3 :: x2 :: x1 :: .ref b :: st) (hp S) R := by
  unfold AGr at kk
  have k1 : AM V M' d 0 0 (.ref b :: [x1, x2, x3, x4]) (hp S) (fun r' h' => AW V M (d + 1) kc ks (pc + 3) L (r'.toList ++ st) h' R) := by
    refine AM.weaken ?_ kk
    intro r' h' z
    obtain ⟨x, S', z1, z2, z3⟩ := z
    rw [z1, z2]
    exact k x S' z3
  have k2 := aw_callV (V := V) (M := M) (M' := M') (d := d) (kc := kc) (ks := ks) (pc := pc) (kc' := 0) (ks' := 0) (as := [x1, x2, x3, x4]) (st := st) (L := L) (h := hp S) (R := R) (b := b) (host := "") hd hl ho hn (hp_at (S := S) ht) hq hqc rfl hw k1
  rw [Nat.zero_add, Nat.zero_add] at k2
  exact k2
theorem ax_gV5i {M' : am_M} {idx : Nat} {b ci : Nat} {q : vw_C} {ts : List Nat} {x1 x2 x3 x4 x5 : Value} {P : Int32 → fm → Prop} (hd : decode M.2.1 pc = .ok (.invokevirtual idx, 3)) (hl : Cond.methodLink M.1.cls idx M'.1 ∈ am_T) (ho : am_okV M') (hn : (parseMethodDescriptor M'.1.desc).map (fun d => d.parameters.length) = some 5) (ht : am_tab[b]? = some (.inl (ci, ts))) (hq : am_cl[ci]? = some q) (hqc : q.1 = M'.1.cls) (hw : (st.map fun v => v.category).sum ≤ 8) (kk : AGi V M' d [.ref b, x1, x2, x3, x4, x5] S P) (k : ∀ (r : Int32) (S' : fm), P r S' → AW V M (d + 1) kc ks (pc + 3) L (.int r :: st) (hp S') R) : AW V M (d + 1) kc ks pc L (x5 :: x4 :: x3 :: x2 :: x1 :: .ref b :: st) (hp S) R := by
  unfold AGi at kk
  have k1 : AM V M' d 0 0 (.ref b :: [x1, x2, x3, x4, x5]) (hp S) (fun r' h' => AW V M (d + 1) kc ks (pc + 3) L (r'.toList ++ st) h' R) := by
    refine AM.weaken ?_ kk
    intro r' h' z
    obtain ⟨x, S', z1, z2, z3⟩ := z
    rw [z1, z2]
    exact k x S' z3
  have k2 := aw_callV (V := V) (M := M) (M' := M') (d := d) (kc := kc) (ks := ks) (pc := pc) (kc' := 0) (ks' := 0) (as := [x1, x2, x3, x4, x5]) (st := st) (L := L) (h := hp S) (R := R) (b := b) (host := "") hd hl ho hn (hp_at (S := S) ht) hq hqc rfl hw k1
  rw [Nat.zero_add, Nat.zero_add] at k2
  exact k2
theorem ax_gV5v {M' : am_M} {idx : Nat} {b ci : Nat} {q : vw_C} {ts : List Nat} {x1 x2 x3 x4 x5 : Value} {P : fm → Prop} (hd : decode M.2.1 pc = .ok (.invokevirtual idx, 3)) (hl : Cond.methodLink M.1.cls idx M'.1 ∈ am_T) (ho : am_okV M') (hn : (parseMethodDescriptor M'.1.desc).map (fun d => d.parameters.length) = some 5) (ht : am_tab[b]? = some (.inl (ci, ts))) (hq : am_cl[ci]? = some q) (hqc : q.1 = M'.1.cls) (hw : (st.map fun v => v.category).sum ≤ 8) (kk : AGv V M' d [.ref b, x1, x2, x3, x4, x5] S P) (k : ∀ S' : fm, P S' → AW V M (d + 1) kc ks (pc + 3) L (st) (hp S') R) : AW V M (d + 1) kc ks pc L (x5 :: x4 :: x3 :: x2 :: x1 :: .ref b :: st) (hp S) R := by
  unfold AGv at kk
  have k1 : AM V M' d 0 0 (.ref b :: [x1, x2, x3, x4, x5]) (hp S) (fun r' h' => AW V M (d + 1) kc ks (pc + 3) L (r'.toList ++ st) h' R) := by
    refine AM.weaken ?_ kk
    intro r' h' z
    obtain ⟨S', z1, z2, z3⟩ := z
    rw [z1, z2]
    exact k S' z3
  have k2 := aw_callV (V := V) (M := M) (M' := M') (d := d) (kc := kc) (ks := ks) (pc := pc) (kc' := 0) (ks' := 0) (as := [x1, x2, x3, x4, x5]) (st := st) (L := L) (h := hp S) (R := R) (b := b) (host := "") hd hl ho hn (hp_at (S := S) ht) hq hqc rfl hw k1
  rw [Nat.zero_add, Nat.zero_add] at k2
  exact k2
theorem ax_gV5l {M' : am_M} {idx : Nat} {b ci : Nat} {q : vw_C} {ts : List Nat} {x1 x2 x3 x4 x5 : Value} {P : Int64 → fm → Prop} (hd : decode M.2.1 pc = .ok (.invokevirtual idx, 3)) (hl : Cond.methodLink M.1.cls idx M'.1 ∈ am_T) (ho : am_okV M') (hn : (parseMethodDescriptor M'.1.desc).map (fun d => d.parameters.length) = some 5) (ht : am_tab[b]? = some (.inl (ci, ts))) (hq : am_cl[ci]? = some q) (hqc : q.1 = M'.1.cls) (hw : (st.map fun v => v.category).sum ≤ 8) (kk : AGl V M' d [.ref b, x1, x2, x3, x4, x5] S P) (k : ∀ (r : Int64) (S' : fm), P r S' → AW V M (d + 1) kc ks (pc + 3) L (.long r :: st) (hp S') R) : AW V M (d + 1) kc ks pc L (x5 :: x4 :: x3 :: x2 :: x1 :: .ref b :: st) (hp S) R := by
  unfold AGl at kk
  have k1 : AM V M' d 0 0 (.ref b :: [x1, x2, x3, x4, x5]) (hp S) (fun r' h' => AW V M (d + 1) kc ks (pc + 3) L (r'.toList ++ st) h' R) := by
    refine AM.weaken ?_ kk
    intro r' h' z
    obtain ⟨x, S', z1, z2, z3⟩ := z
    rw [z1, z2]
    exact k x S' z3
  have k2 := aw_callV (V := V) (M := M) (M' := M') (d := d) (kc := kc) (ks := ks) (pc := pc) (kc' := 0) (ks' := 0) (as := [x1, x2, x3, x4, x5]) (st := st) (L := L) (h := hp S) (R := R) (b := b) (host := "") hd hl ho hn (hp_at (S := S) ht) hq hqc rfl hw k1
  rw [Nat.zero_add, Nat.zero_add] at k2
  exact k2
theorem ax_gV5r {M' : am_M} {idx : Nat} {b ci : Nat} {q : vw_C} {ts : List Nat} {x1 x2 x3 x4 x5 : Value} {P : Nat → fm → Prop} (hd : decode M.2.1 pc = .ok (.invokevirtual idx, 3)) (hl : Cond.methodLink M.1.cls idx M'.1 ∈ am_T) (ho : am_okV M') (hn : (parseMethodDescriptor M'.1.desc).map (fun d => d.parameters.length) = some 5) (ht : am_tab[b]? = some (.inl (ci, ts))) (hq : am_cl[ci]? = some q) (hqc : q.1 = M'.1.cls) (hw : (st.map fun v => v.category).sum ≤ 8) (kk : AGr V M' d [.ref b, x1, x2, x3, x4, x5] S P) (k : ∀ (r : Nat) (S' : fm), P r S' → AW V M (d + 1) kc ks (pc + 3) L (.ref r :: st) (hp S') R) : AW V M (d + 1) kc ks pc L (x5 :: x4 :: x3 :: x2 :: x1 :: .ref b :: st) (hp S) R := by
  unfold AGr at kk
  have k1 : AM V M' d 0 0 (.ref b :: [x1, x2, x3, x4, x5]) (hp S) (fun r' h' => AW V M (d + 1) kc ks (pc + 3) L (r'.toList ++ st) h' R) := by
    refine AM.weaken ?_ kk
    intro r' h' z
    obtain ⟨x, S', z1, z2, z3⟩ := z
    rw [z1, z2]
    exact k x S' z3
  have k2 := aw_callV (V := V) (M := M) (M' := M') (d := d) (kc := kc) (ks := ks) (pc := pc) (kc' := 0) (ks' := 0) (as := [x1, x2, x3, x4, x5]) (st := st) (L := L) (h := hp S) (R := R) (b := b) (host := "") hd hl ho hn (hp_at (S := S) ht) hq hqc rfl hw k1
  rw [Nat.zero_add, Nat.zero_add] at k2
  exact k2
theorem ax_gS0i {M' : am_M} {idx : Nat} {P : Int32 → fm → Prop} (hd : decode M.2.1 pc = .ok (.invokestatic idx, 3)) (hl : Cond.methodLink M.1.cls idx M'.1 ∈ am_T) (ho : am_okS M') (hn : (parseMethodDescriptor M'.1.desc).map (fun d => d.parameters.length) = some 0) (hw : (st.map fun v => v.category).sum ≤ 8) (kk : AGi V M' d [] S P) (k : ∀ (r : Int32) (S' : fm), P r S' → AW V M (d + 1) kc ks (pc + 3) L (.int r :: st) (hp S') R) : AW V M (d + 1) kc ks pc L (st) (hp S) R := by
  unfold AGi at kk
  have k1 : AM V M' d 0 0 [] (hp S) (fun r' h' => AW V M (d + 1) kc ks (pc + 3) L (r'.toList ++ st) h' R) := by
    refine AM.weaken ?_ kk
    intro r' h' z
    obtain ⟨x, S', z1, z2, z3⟩ := z
    rw [z1, z2]
    exact k x S' z3
  have k2 := aw_callS (V := V) (M := M) (M' := M') (d := d) (kc := kc) (ks := ks) (pc := pc) (kc' := 0) (ks' := 0) (as := []) (st := st) (L := L) (h := hp S) (R := R) (b := 0) (ci := 0) (q := (RX0, TX0, 12)) (fs := []) (host := "") hd hl ho hn rfl hw k1
  rw [Nat.zero_add, Nat.zero_add] at k2
  exact k2
theorem ax_gS0v {M' : am_M} {idx : Nat} {P : fm → Prop} (hd : decode M.2.1 pc = .ok (.invokestatic idx, 3)) (hl : Cond.methodLink M.1.cls idx M'.1 ∈ am_T) (ho : am_okS M') (hn : (parseMethodDescriptor M'.1.desc).map (fun d => d.parameters.length) = some 0) (hw : (st.map fun v => v.category).sum ≤ 8) (kk : AGv V M' d [] S P) (k : ∀ S' : fm, P S' → AW V M (d + 1) kc ks (pc + 3) L (st) (hp S') R) : AW V M (d + 1) kc ks pc L (st) (hp S) R := by
  unfold AGv at kk
  have k1 : AM V M' d 0 0 [] (hp S) (fun r' h' => AW V M (d + 1) kc ks (pc + 3) L (r'.toList ++ st) h' R) := by
    refine AM.weaken ?_ kk
    intro r' h' z
    obtain ⟨S', z1, z2, z3⟩ := z
    rw [z1, z2]
    exact k S' z3
  have k2 := aw_callS (V := V) (M := M) (M' := M') (d := d) (kc := kc) (ks := ks) (pc := pc) (kc' := 0) (ks' := 0) (as := []) (st := st) (L := L) (h := hp S) (R := R) (b := 0) (ci := 0) (q := (RX0, TX0, 12)) (fs := []) (host := "") hd hl ho hn rfl hw k1
  rw [Nat.zero_add, Nat.zero_add] at k2
  exact k2
theorem ax_gS0l {M' : am_M} {idx : Nat} {P : Int64 → fm → Prop} (hd : decode M.2.1 pc = .ok (.invokestatic idx, 3)) (hl : Cond.methodLink M.1.cls idx M'.1 ∈ am_T) (ho : am_okS M') (hn : (parseMethodDescriptor M'.1.desc).map (fun d => d.parameters.length) = some 0) (hw : (st.map fun v => v.category).sum ≤ 8) (kk : AGl V M' d [] S P) (k : ∀ (r : Int64) (S' : fm), P r S' → AW V M (d + 1) kc ks (pc + 3) L (.long r :: st) (hp S') R) : AW V M (d + 1) kc ks pc L (st) (hp S) R := by
  unfold AGl at kk
  have k1 : AM V M' d 0 0 [] (hp S) (fun r' h' => AW V M (d + 1) kc ks (pc + 3) L (r'.toList ++ st) h' R) := by
    refine AM.weaken ?_ kk
    intro r' h' z
    obtain ⟨x, S', z1, z2, z3⟩ := z
    rw [z1, z2]
    exact k x S' z3
  have k2 := aw_callS (V := V) (M := M) (M' := M') (d := d) (kc := kc) (ks := ks) (pc := pc) (kc' := 0) (ks' := 0) (as := []) (st := st) (L := L) (h := hp S) (R := R) (b := 0) (ci := 0) (q := (RX0, TX0, 12)) (fs := []) (host := "") hd hl ho hn rfl hw k1
  rw [Nat.zero_add, Nat.zero_add] at k2
  exact k2
theorem ax_gS0r {M' : am_M} {idx : Nat} {P : Nat → fm → Prop} (hd : decode M.2.1 pc = .ok (.invokestatic idx, 3)) (hl : Cond.methodLink M.1.cls idx M'.1 ∈ am_T) (ho : am_okS M') (hn : (parseMethodDescriptor M'.1.desc).map (fun d => d.parameters.length) = some 0) (hw : (st.map fun v => v.category).sum ≤ 8) (kk : AGr V M' d [] S P) (k : ∀ (r : Nat) (S' : fm), P r S' → AW V M (d + 1) kc ks (pc + 3) L (.ref r :: st) (hp S') R) : AW V M (d + 1) kc ks pc L (st) (hp S) R := by
  unfold AGr at kk
  have k1 : AM V M' d 0 0 [] (hp S) (fun r' h' => AW V M (d + 1) kc ks (pc + 3) L (r'.toList ++ st) h' R) := by
    refine AM.weaken ?_ kk
    intro r' h' z
    obtain ⟨x, S', z1, z2, z3⟩ := z
    rw [z1, z2]
    exact k x S' z3
  have k2 := aw_callS (V := V) (M := M) (M' := M') (d := d) (kc := kc) (ks := ks) (pc := pc) (kc' := 0) (ks' := 0) (as := []) (st := st) (L := L) (h := hp S) (R := R) (b := 0) (ci := 0) (q := (RX0, TX0, 12)) (fs := []) (host := "") hd hl ho hn rfl hw k1
  rw [Nat.zero_add, Nat.zero_add] at k2
  exact k2
theorem ax_gS1i {M' : am_M} {idx : Nat} {x1 : Value} {P : Int32 → fm → Prop} (hd : decode M.2.1 pc = .ok (.invokestatic idx, 3)) (hl : Cond.methodLink M.1.cls idx M'.1 ∈ am_T) (ho : am_okS M') (hn : (parseMethodDescriptor M'.1.desc).map (fun d => d.parameters.length) = some 1) (hw : (st.map fun v => v.category).sum ≤ 8) (kk : AGi V M' d [x1] S P) (k : ∀ (r : Int32) (S' : fm), P r S' → AW V M (d + 1) kc ks (pc + 3) L (.int r :: st) (hp S') R) : AW V M (d + 1) kc ks pc L (x1 :: st) (hp S) R := by
  unfold AGi at kk
  have k1 : AM V M' d 0 0 [x1] (hp S) (fun r' h' => AW V M (d + 1) kc ks (pc + 3) L (r'.toList ++ st) h' R) := by
    refine AM.weaken ?_ kk
    intro r' h' z
    obtain ⟨x, S', z1, z2, z3⟩ := z
    rw [z1, z2]
    exact k x S' z3
  have k2 := aw_callS (V := V) (M := M) (M' := M') (d := d) (kc := kc) (ks := ks) (pc := pc) (kc' := 0) (ks' := 0) (as := [x1]) (st := st) (L := L) (h := hp S) (R := R) (b := 0) (ci := 0) (q := (RX0, TX0, 12)) (fs := []) (host := "") hd hl ho hn rfl hw k1
  rw [Nat.zero_add, Nat.zero_add] at k2
  exact k2
theorem ax_gS1v {M' : am_M} {idx : Nat} {x1 : Value} {P : fm → Prop} (hd : decode M.2.1 pc = .ok (.invokestatic idx, 3)) (hl : Cond.methodLink M.1.cls idx M'.1 ∈ am_T) (ho : am_okS M') (hn : (parseMethodDescriptor M'.1.desc).map (fun d => d.parameters.length) = some 1) (hw : (st.map fun v => v.category).sum ≤ 8) (kk : AGv V M' d [x1] S P) (k : ∀ S' : fm, P S' → AW V M (d + 1) kc ks (pc + 3) L (st) (hp S') R) : AW V M (d + 1) kc ks pc L (x1 :: st) (hp S) R := by
  unfold AGv at kk
  have k1 : AM V M' d 0 0 [x1] (hp S) (fun r' h' => AW V M (d + 1) kc ks (pc + 3) L (r'.toList ++ st) h' R) := by
    refine AM.weaken ?_ kk
    intro r' h' z
    obtain ⟨S', z1, z2, z3⟩ := z
    rw [z1, z2]
    exact k S' z3
  have k2 := aw_callS (V := V) (M := M) (M' := M') (d := d) (kc := kc) (ks := ks) (pc := pc) (kc' := 0) (ks' := 0) (as := [x1]) (st := st) (L := L) (h := hp S) (R := R) (b := 0) (ci := 0) (q := (RX0, TX0, 12)) (fs := []) (host := "") hd hl ho hn rfl hw k1
  rw [Nat.zero_add, Nat.zero_add] at k2
  exact k2
theorem ax_gS1l {M' : am_M} {idx : Nat} {x1 : Value} {P : Int64 → fm → Prop} (hd : decode M.2.1 pc = .ok (.invokestatic idx, 3)) (hl : Cond.methodLink M.1.cls idx M'.1 ∈ am_T) (ho : am_okS M') (hn : (parseMethodDescriptor M'.1.desc).map (fun d => d.parameters.length) = some 1) (hw : (st.map fun v => v.category).sum ≤ 8) (kk : AGl V M' d [x1] S P) (k : ∀ (r : Int64) (S' : fm), P r S' → AW V M (d + 1) kc ks (pc + 3) L (.long r :: st) (hp S') R) : AW V M (d + 1) kc ks pc L (x1 :: st) (hp S) R := by
  unfold AGl at kk
  have k1 : AM V M' d 0 0 [x1] (hp S) (fun r' h' => AW V M (d + 1) kc ks (pc + 3) L (r'.toList ++ st) h' R) := by
    refine AM.weaken ?_ kk
    intro r' h' z
    obtain ⟨x, S', z1, z2, z3⟩ := z
    rw [z1, z2]
    exact k x S' z3
  have k2 := aw_callS (V := V) (M := M) (M' := M') (d := d) (kc := kc) (ks := ks) (pc := pc) (kc' := 0) (ks' := 0) (as := [x1]) (st := st) (L := L) (h := hp S) (R := R) (b := 0) (ci := 0) (q := (RX0, TX0, 12)) (fs := []) (host := "") hd hl ho hn rfl hw k1
  rw [Nat.zero_add, Nat.zero_add] at k2
  exact k2
theorem ax_gS1r {M' : am_M} {idx : Nat} {x1 : Value} {P : Nat → fm → Prop} (hd : decode M.2.1 pc = .ok (.invokestatic idx, 3)) (hl : Cond.methodLink M.1.cls idx M'.1 ∈ am_T) (ho : am_okS M') (hn : (parseMethodDescriptor M'.1.desc).map (fun d => d.parameters.length) = some 1) (hw : (st.map fun v => v.category).sum ≤ 8) (kk : AGr V M' d [x1] S P) (k : ∀ (r : Nat) (S' : fm), P r S' → AW V M (d + 1) kc ks (pc + 3) L (.ref r :: st) (hp S') R) : AW V M (d + 1) kc ks pc L (x1 :: st) (hp S) R := by
  unfold AGr at kk
  have k1 : AM V M' d 0 0 [x1] (hp S) (fun r' h' => AW V M (d + 1) kc ks (pc + 3) L (r'.toList ++ st) h' R) := by
    refine AM.weaken ?_ kk
    intro r' h' z
    obtain ⟨x, S', z1, z2, z3⟩ := z
    rw [z1, z2]
    exact k x S' z3
  have k2 := aw_callS (V := V) (M := M) (M' := M') (d := d) (kc := kc) (ks := ks) (pc := pc) (kc' := 0) (ks' := 0) (as := [x1]) (st := st) (L := L) (h := hp S) (R := R) (b := 0) (ci := 0) (q := (RX0, TX0, 12)) (fs := []) (host := "") hd hl ho hn rfl hw k1
  rw [Nat.zero_add, Nat.zero_add] at k2
  exact k2
theorem ax_gS2i {M' : am_M} {idx : Nat} {x1 x2 : Value} {P : Int32 → fm → Prop} (hd : decode M.2.1 pc = .ok (.invokestatic idx, 3)) (hl : Cond.methodLink M.1.cls idx M'.1 ∈ am_T) (ho : am_okS M') (hn : (parseMethodDescriptor M'.1.desc).map (fun d => d.parameters.length) = some 2) (hw : (st.map fun v => v.category).sum ≤ 8) (kk : AGi V M' d [x1, x2] S P) (k : ∀ (r : Int32) (S' : fm), P r S' → AW V M (d + 1) kc ks (pc + 3) L (.int r :: st) (hp S') R) : AW V M (d + 1) kc ks pc L (x2 :: x1 :: st) (hp S) R := by
  unfold AGi at kk
  have k1 : AM V M' d 0 0 [x1, x2] (hp S) (fun r' h' => AW V M (d + 1) kc ks (pc + 3) L (r'.toList ++ st) h' R) := by
    refine AM.weaken ?_ kk
    intro r' h' z
    obtain ⟨x, S', z1, z2, z3⟩ := z
    rw [z1, z2]
    exact k x S' z3
  have k2 := aw_callS (V := V) (M := M) (M' := M') (d := d) (kc := kc) (ks := ks) (pc := pc) (kc' := 0) (ks' := 0) (as := [x1, x2]) (st := st) (L := L) (h := hp S) (R := R) (b := 0) (ci := 0) (q := (RX0, TX0, 12)) (fs := []) (host := "") hd hl ho hn rfl hw k1
  rw [Nat.zero_add, Nat.zero_add] at k2
  exact k2
theorem ax_gS2v {M' : am_M} {idx : Nat} {x1 x2 : Value} {P : fm → Prop} (hd : decode M.2.1 pc = .ok (.invokestatic idx, 3)) (hl : Cond.methodLink M.1.cls idx M'.1 ∈ am_T) (ho : am_okS M') (hn : (parseMethodDescriptor M'.1.desc).map (fun d => d.parameters.length) = some 2) (hw : (st.map fun v => v.category).sum ≤ 8) (kk : AGv V M' d [x1, x2] S P) (k : ∀ S' : fm, P S' → AW V M (d + 1) kc ks (pc + 3) L (st) (hp S') R) : AW V M (d + 1) kc ks pc L (x2 :: x1 :: st) (hp S) R := by
  unfold AGv at kk
  have k1 : AM V M' d 0 0 [x1, x2] (hp S) (fun r' h' => AW V M (d + 1) kc ks (pc + 3) L (r'.toList ++ st) h' R) := by
    refine AM.weaken ?_ kk
    intro r' h' z
    obtain ⟨S', z1, z2, z3⟩ := z
    rw [z1, z2]
    exact k S' z3
  have k2 := aw_callS (V := V) (M := M) (M' := M') (d := d) (kc := kc) (ks := ks) (pc := pc) (kc' := 0) (ks' := 0) (as := [x1, x2]) (st := st) (L := L) (h := hp S) (R := R) (b := 0) (ci := 0) (q := (RX0, TX0, 12)) (fs := []) (host := "") hd hl ho hn rfl hw k1
  rw [Nat.zero_add, Nat.zero_add] at k2
  exact k2
theorem ax_gS2l {M' : am_M} {idx : Nat} {x1 x2 : Value} {P : Int64 → fm → Prop} (hd : decode M.2.1 pc = .ok (.invokestatic idx, 3)) (hl : Cond.methodLink M.1.cls idx M'.1 ∈ am_T) (ho : am_okS M') (hn : (parseMethodDescriptor M'.1.desc).map (fun d => d.parameters.length) = some 2) (hw : (st.map fun v => v.category).sum ≤ 8) (kk : AGl V M' d [x1, x2] S P) (k : ∀ (r : Int64) (S' : fm), P r S' → AW V M (d + 1) kc ks (pc + 3) L (.long r :: st) (hp S') R) : AW V M (d + 1) kc ks pc L (x2 :: x1 :: st) (hp S) R := by
  unfold AGl at kk
  have k1 : AM V M' d 0 0 [x1, x2] (hp S) (fun r' h' => AW V M (d + 1) kc ks (pc + 3) L (r'.toList ++ st) h' R) := by
    refine AM.weaken ?_ kk
    intro r' h' z
    obtain ⟨x, S', z1, z2, z3⟩ := z
    rw [z1, z2]
    exact k x S' z3
  have k2 := aw_callS (V := V) (M := M) (M' := M') (d := d) (kc := kc) (ks := ks) (pc := pc) (kc' := 0) (ks' := 0) (as := [x1, x2]) (st := st) (L := L) (h := hp S) (R := R) (b := 0) (ci := 0) (q := (RX0, TX0, 12)) (fs := []) (host := "") hd hl ho hn rfl hw k1
  rw [Nat.zero_add, Nat.zero_add] at k2
  exact k2
theorem ax_gS2r {M' : am_M} {idx : Nat} {x1 x2 : Value} {P : Nat → fm → Prop} (hd : decode M.2.1 pc = .ok (.invokestatic idx, 3)) (hl : Cond.methodLink M.1.cls idx M'.1 ∈ am_T) (ho : am_okS M') (hn : (parseMethodDescriptor M'.1.desc).map (fun d => d.parameters.length) = some 2) (hw : (st.map fun v => v.category).sum ≤ 8) (kk : AGr V M' d [x1, x2] S P) (k : ∀ (r : Nat) (S' : fm), P r S' → AW V M (d + 1) kc ks (pc + 3) L (.ref r :: st) (hp S') R) : AW V M (d + 1) kc ks pc L (x2 :: x1 :: st) (hp S) R := by
  unfold AGr at kk
  have k1 : AM V M' d 0 0 [x1, x2] (hp S) (fun r' h' => AW V M (d + 1) kc ks (pc + 3) L (r'.toList ++ st) h' R) := by
    refine AM.weaken ?_ kk
    intro r' h' z
    obtain ⟨x, S', z1, z2, z3⟩ := z
    rw [z1, z2]
    exact k x S' z3
  have k2 := aw_callS (V := V) (M := M) (M' := M') (d := d) (kc := kc) (ks := ks) (pc := pc) (kc' := 0) (ks' := 0) (as := [x1, x2]) (st := st) (L := L) (h := hp S) (R := R) (b := 0) (ci := 0) (q := (RX0, TX0, 12)) (fs := []) (host := "") hd hl ho hn rfl hw k1
  rw [Nat.zero_add, Nat.zero_add] at k2
  exact k2
theorem ax_gS3i {M' : am_M} {idx : Nat} {x1 x2 x3 : Value} {P : Int32 → fm → Prop} (hd : decode M.2.1 pc = .ok (.invokestatic idx, 3)) (hl : Cond.methodLink M.1.cls idx M'.1 ∈ am_T) (ho : am_okS M') (hn : (parseMethodDescriptor M'.1.desc).map (fun d => d.parameters.length) = some 3) (hw : (st.map fun v => v.category).sum ≤ 8) (kk : AGi V M' d [x1, x2, x3] S P) (k : ∀ (r : Int32) (S' : fm), P r S' → AW V M (d + 1) kc ks (pc + 3) L (.int r :: st) (hp S') R) : AW V M (d + 1) kc ks pc L (x3 :: x2 :: x1 :: st) (hp S) R := by
  unfold AGi at kk
  have k1 : AM V M' d 0 0 [x1, x2, x3] (hp S) (fun r' h' => AW V M (d + 1) kc ks (pc + 3) L (r'.toList ++ st) h' R) := by
    refine AM.weaken ?_ kk
    intro r' h' z
    obtain ⟨x, S', z1, z2, z3⟩ := z
    rw [z1, z2]
    exact k x S' z3
  have k2 := aw_callS (V := V) (M := M) (M' := M') (d := d) (kc := kc) (ks := ks) (pc := pc) (kc' := 0) (ks' := 0) (as := [x1, x2, x3]) (st := st) (L := L) (h := hp S) (R := R) (b := 0) (ci := 0) (q := (RX0, TX0, 12)) (fs := []) (host := "") hd hl ho hn rfl hw k1
  rw [Nat.zero_add, Nat.zero_add] at k2
  exact k2
theorem ax_gS3v {M' : am_M} {idx : Nat} {x1 x2 x3 : Value} {P : fm → Prop} (hd : decode M.2.1 pc = .ok (.invokestatic idx, 3)) (hl : Cond.methodLink M.1.cls idx M'.1 ∈ am_T) (ho : am_okS M') (hn : (parseMethodDescriptor M'.1.desc).map (fun d => d.parameters.length) = some 3) (hw : (st.map fun v => v.category).sum ≤ 8) (kk : AGv V M' d [x1, x2, x3] S P) (k : ∀ S' : fm, P S' → AW V M (d + 1) kc ks (pc + 3) L (st) (hp S') R) : AW V M (d + 1) kc ks pc L (x3 :: x2 :: x1 :: st) (hp S) R := by
  unfold AGv at kk
  have k1 : AM V M' d 0 0 [x1, x2, x3] (hp S) (fun r' h' => AW V M (d + 1) kc ks (pc + 3) L (r'.toList ++ st) h' R) := by
    refine AM.weaken ?_ kk
    intro r' h' z
    obtain ⟨S', z1, z2, z3⟩ := z
    rw [z1, z2]
    exact k S' z3
  have k2 := aw_callS (V := V) (M := M) (M' := M') (d := d) (kc := kc) (ks := ks) (pc := pc) (kc' := 0) (ks' := 0) (as := [x1, x2, x3]) (st := st) (L := L) (h := hp S) (R := R) (b := 0) (ci := 0) (q := (RX0, TX0, 12)) (fs := []) (host := "") hd hl ho hn rfl hw k1
  rw [Nat.zero_add, Nat.zero_add] at k2
  exact k2
theorem ax_gS3l {M' : am_M} {idx : Nat} {x1 x2 x3 : Value} {P : Int64 → fm → Prop} (hd : decode M.2.1 pc = .ok (.invokestatic idx, 3)) (hl : Cond.methodLink M.1.cls idx M'.1 ∈ am_T) (ho : am_okS M') (hn : (parseMethodDescriptor M'.1.desc).map (fun d => d.parameters.length) = some 3) (hw : (st.map fun v => v.category).sum ≤ 8) (kk : AGl V M' d [x1, x2, x3] S P) (k : ∀ (r : Int64) (S' : fm), P r S' → AW V M (d + 1) kc ks (pc + 3) L (.long r :: st) (hp S') R) : AW V M (d + 1) kc ks pc L (x3 :: x2 :: x1 :: st) (hp S) R := by
  unfold AGl at kk
  have k1 : AM V M' d 0 0 [x1, x2, x3] (hp S) (fun r' h' => AW V M (d + 1) kc ks (pc + 3) L (r'.toList ++ st) h' R) := by
    refine AM.weaken ?_ kk
    intro r' h' z
    obtain ⟨x, S', z1, z2, z3⟩ := z
    rw [z1, z2]
    exact k x S' z3
  have k2 := aw_callS (V := V) (M := M) (M' := M') (d := d) (kc := kc) (ks := ks) (pc := pc) (kc' := 0) (ks' := 0) (as := [x1, x2, x3]) (st := st) (L := L) (h := hp S) (R := R) (b := 0) (ci := 0) (q := (RX0, TX0, 12)) (fs := []) (host := "") hd hl ho hn rfl hw k1
  rw [Nat.zero_add, Nat.zero_add] at k2
  exact k2
theorem ax_gS3r {M' : am_M} {idx : Nat} {x1 x2 x3 : Value} {P : Nat → fm → Prop} (hd : decode M.2.1 pc = .ok (.invokestatic idx, 3)) (hl : Cond.methodLink M.1.cls idx M'.1 ∈ am_T) (ho : am_okS M') (hn : (parseMethodDescriptor M'.1.desc).map (fun d => d.parameters.length) = some 3) (hw : (st.map fun v => v.category).sum ≤ 8) (kk : AGr V M' d [x1, x2, x3] S P) (k : ∀ (r : Nat) (S' : fm), P r S' → AW V M (d + 1) kc ks (pc + 3) L (.ref r :: st) (hp S') R) : AW V M (d + 1) kc ks pc L (x3 :: x2 :: x1 :: st) (hp S) R := by
  unfold AGr at kk
  have k1 : AM V M' d 0 0 [x1, x2, x3] (hp S) (fun r' h' => AW V M (d + 1) kc ks (pc + 3) L (r'.toList ++ st) h' R) := by
    refine AM.weaken ?_ kk
    intro r' h' z
    obtain ⟨x, S', z1, z2, z3⟩ := z
    rw [z1, z2]
    exact k x S' z3
  have k2 := aw_callS (V := V) (M := M) (M' := M') (d := d) (kc := kc) (ks := ks) (pc := pc) (kc' := 0) (ks' := 0) (as := [x1, x2, x3]) (st := st) (L := L) (h := hp S) (R := R) (b := 0) (ci := 0) (q := (RX0, TX0, 12)) (fs := []) (host := "") hd hl ho hn rfl hw k1
  rw [Nat.zero_add, Nat.zero_add] at k2
  exact k2
theorem ax_gS4i {M' : am_M} {idx : Nat} {x1 x2 x3 x4 : Value} {P : Int32 → fm → Prop} (hd : decode M.2.1 pc = .ok (.invokestatic idx, 3)) (hl : Cond.methodLink M.1.cls idx M'.1 ∈ am_T) (ho : am_okS M') (hn : (parseMethodDescriptor M'.1.desc).map (fun d => d.parameters.length) = some 4) (hw : (st.map fun v => v.category).sum ≤ 8) (kk : AGi V M' d [x1, x2, x3, x4] S P) (k : ∀ (r : Int32) (S' : fm), P r S' → AW V M (d + 1) kc ks (pc + 3) L (.int r :: st) (hp S') R) : AW V M (d + 1) kc ks pc L (x4 :: x3 :: x2 :: x1 :: st) (hp S) R := by
  unfold AGi at kk
  have k1 : AM V M' d 0 0 [x1, x2, x3, x4] (hp S) (fun r' h' => AW V M (d + 1) kc ks (pc + 3) L (r'.toList ++ st) h' R) := by
    refine AM.weaken ?_ kk
    intro r' h' z
    obtain ⟨x, S', z1, z2, z3⟩ := z
    rw [z1, z2]
    exact k x S' z3
  have k2 := aw_callS (V := V) (M := M) (M' := M') (d := d) (kc := kc) (ks := ks) (pc := pc) (kc' := 0) (ks' := 0) (as := [x1, x2, x3, x4]) (st := st) (L := L) (h := hp S) (R := R) (b := 0) (ci := 0) (q := (RX0, TX0, 12)) (fs := []) (host := "") hd hl ho hn rfl hw k1
  rw [Nat.zero_add, Nat.zero_add] at k2
  exact k2
theorem ax_gS4v {M' : am_M} {idx : Nat} {x1 x2 x3 x4 : Value} {P : fm → Prop} (hd : decode M.2.1 pc = .ok (.invokestatic idx, 3)) (hl : Cond.methodLink M.1.cls idx M'.1 ∈ am_T) (ho : am_okS M') (hn : (parseMethodDescriptor M'.1.desc).map (fun d => d.parameters.length) = some 4) (hw : (st.map fun v => v.category).sum ≤ 8) (kk : AGv V M' d [x1, x2, x3, x4] S P) (k : ∀ S' : fm, P S' → AW V M (d + 1) kc ks (pc + 3) L (st) (hp S') R) : AW V M (d + 1) kc ks pc L (x4 :: x3 :: x2 :: x1 :: st) (hp S) R := by
  unfold AGv at kk
  have k1 : AM V M' d 0 0 [x1, x2, x3, x4] (hp S) (fun r' h' => AW V M (d + 1) kc ks (pc + 3) L (r'.toList ++ st) h' R) := by
    refine AM.weaken ?_ kk
    intro r' h' z
    obtain ⟨S', z1, z2, z3⟩ := z
    rw [z1, z2]
    exact k S' z3
  have k2 := aw_callS (V := V) (M := M) (M' := M') (d := d) (kc := kc) (ks := ks) (pc := pc) (kc' := 0) (ks' := 0) (as := [x1, x2, x3, x4]) (st := st) (L := L) (h := hp S) (R := R) (b := 0) (ci := 0) (q := (RX0, TX0, 12)) (fs := []) (host := "") hd hl ho hn rfl hw k1
  rw [Nat.zero_add, Nat.zero_add] at k2
  exact k2
theorem ax_gS4l {M' : am_M} {idx : Nat} {x1 x2 x3 x4 : Value} {P : Int64 → fm → Prop} (hd : decode M.2.1 pc = .ok (.invokestatic idx, 3)) (hl : Cond.methodLink M.1.cls idx M'.1 ∈ am_T) (ho : am_okS M') (hn : (parseMethodDescriptor M'.1.desc).map (fun d => d.parameters.length) = some 4) (hw : (st.map fun v => v.category).sum ≤ 8) (kk : AGl V M' d [x1, x2, x3, x4] S P) (k : ∀ (r : Int64) (S' : fm), P r S' → AW V M (d + 1) kc ks (pc + 3) L (.long r :: st) (hp S') R) : AW V M (d + 1) kc ks pc L (x4 :: x3 :: x2 :: x1 :: st) (hp S) R := by
  unfold AGl at kk
  have k1 : AM V M' d 0 0 [x1, x2, x3, x4] (hp S) (fun r' h' => AW V M (d + 1) kc ks (pc + 3) L (r'.toList ++ st) h' R) := by
    refine AM.weaken ?_ kk
    intro r' h' z
    obtain ⟨x, S', z1, z2, z3⟩ := z
    rw [z1, z2]
    exact k x S' z3
  have k2 := aw_callS (V := V) (M := M) (M' := M') (d := d) (kc := kc) (ks := ks) (pc := pc) (kc' := 0) (ks' := 0) (as := [x1, x2, x3, x4]) (st := st) (L := L) (h := hp S) (R := R) (b := 0) (ci := 0) (q := (RX0, TX0, 12)) (fs := []) (host := "") hd hl ho hn rfl hw k1
  rw [Nat.zero_add, Nat.zero_add] at k2
  exact k2
theorem ax_gS4r {M' : am_M} {idx : Nat} {x1 x2 x3 x4 : Value} {P : Nat → fm → Prop} (hd : decode M.2.1 pc = .ok (.invokestatic idx, 3)) (hl : Cond.methodLink M.1.cls idx M'.1 ∈ am_T) (ho : am_okS M') (hn : (parseMethodDescriptor M'.1.desc).map (fun d => d.parameters.length) = some 4) (hw : (st.map fun v => v.category).sum ≤ 8) (kk : AGr V M' d [x1, x2, x3, x4] S P) (k : ∀ (r : Nat) (S' : fm), P r S' → AW V M (d + 1) kc ks (pc + 3) L (.ref r :: st) (hp S') R) : AW V M (d + 1) kc ks pc L (x4 :: x3 :: x2 :: x1 :: st) (hp S) R := by
  unfold AGr at kk
  have k1 : AM V M' d 0 0 [x1, x2, x3, x4] (hp S) (fun r' h' => AW V M (d + 1) kc ks (pc + 3) L (r'.toList ++ st) h' R) := by
    refine AM.weaken ?_ kk
    intro r' h' z
    obtain ⟨x, S', z1, z2, z3⟩ := z
    rw [z1, z2]
    exact k x S' z3
  have k2 := aw_callS (V := V) (M := M) (M' := M') (d := d) (kc := kc) (ks := ks) (pc := pc) (kc' := 0) (ks' := 0) (as := [x1, x2, x3, x4]) (st := st) (L := L) (h := hp S) (R := R) (b := 0) (ci := 0) (q := (RX0, TX0, 12)) (fs := []) (host := "") hd hl ho hn rfl hw k1
  rw [Nat.zero_add, Nat.zero_add] at k2
  exact k2
theorem ax_gS5i {M' : am_M} {idx : Nat} {x1 x2 x3 x4 x5 : Value} {P : Int32 → fm → Prop} (hd : decode M.2.1 pc = .ok (.invokestatic idx, 3)) (hl : Cond.methodLink M.1.cls idx M'.1 ∈ am_T) (ho : am_okS M') (hn : (parseMethodDescriptor M'.1.desc).map (fun d => d.parameters.length) = some 5) (hw : (st.map fun v => v.category).sum ≤ 8) (kk : AGi V M' d [x1, x2, x3, x4, x5] S P) (k : ∀ (r : Int32) (S' : fm), P r S' → AW V M (d + 1) kc ks (pc + 3) L (.int r :: st) (hp S') R) : AW V M (d + 1) kc ks pc L (x5 :: x4 :: x3 :: x2 :: x1 :: st) (hp S) R := by
  unfold AGi at kk
  have k1 : AM V M' d 0 0 [x1, x2, x3, x4, x5] (hp S) (fun r' h' => AW V M (d + 1) kc ks (pc + 3) L (r'.toList ++ st) h' R) := by
    refine AM.weaken ?_ kk
    intro r' h' z
    obtain ⟨x, S', z1, z2, z3⟩ := z
    rw [z1, z2]
    exact k x S' z3
  have k2 := aw_callS (V := V) (M := M) (M' := M') (d := d) (kc := kc) (ks := ks) (pc := pc) (kc' := 0) (ks' := 0) (as := [x1, x2, x3, x4, x5]) (st := st) (L := L) (h := hp S) (R := R) (b := 0) (ci := 0) (q := (RX0, TX0, 12)) (fs := []) (host := "") hd hl ho hn rfl hw k1
  rw [Nat.zero_add, Nat.zero_add] at k2
  exact k2
theorem ax_gS5v {M' : am_M} {idx : Nat} {x1 x2 x3 x4 x5 : Value} {P : fm → Prop} (hd : decode M.2.1 pc = .ok (.invokestatic idx, 3)) (hl : Cond.methodLink M.1.cls idx M'.1 ∈ am_T) (ho : am_okS M') (hn : (parseMethodDescriptor M'.1.desc).map (fun d => d.parameters.length) = some 5) (hw : (st.map fun v => v.category).sum ≤ 8) (kk : AGv V M' d [x1, x2, x3, x4, x5] S P) (k : ∀ S' : fm, P S' → AW V M (d + 1) kc ks (pc + 3) L (st) (hp S') R) : AW V M (d + 1) kc ks pc L (x5 :: x4 :: x3 :: x2 :: x1 :: st) (hp S) R := by
  unfold AGv at kk
  have k1 : AM V M' d 0 0 [x1, x2, x3, x4, x5] (hp S) (fun r' h' => AW V M (d + 1) kc ks (pc + 3) L (r'.toList ++ st) h' R) := by
    refine AM.weaken ?_ kk
    intro r' h' z
    obtain ⟨S', z1, z2, z3⟩ := z
    rw [z1, z2]
    exact k S' z3
  have k2 := aw_callS (V := V) (M := M) (M' := M') (d := d) (kc := kc) (ks := ks) (pc := pc) (kc' := 0) (ks' := 0) (as := [x1, x2, x3, x4, x5]) (st := st) (L := L) (h := hp S) (R := R) (b := 0) (ci := 0) (q := (RX0, TX0, 12)) (fs := []) (host := "") hd hl ho hn rfl hw k1
  rw [Nat.zero_add, Nat.zero_add] at k2
  exact k2
theorem ax_gS5l {M' : am_M} {idx : Nat} {x1 x2 x3 x4 x5 : Value} {P : Int64 → fm → Prop} (hd : decode M.2.1 pc = .ok (.invokestatic idx, 3)) (hl : Cond.methodLink M.1.cls idx M'.1 ∈ am_T) (ho : am_okS M') (hn : (parseMethodDescriptor M'.1.desc).map (fun d => d.parameters.length) = some 5) (hw : (st.map fun v => v.category).sum ≤ 8) (kk : AGl V M' d [x1, x2, x3, x4, x5] S P) (k : ∀ (r : Int64) (S' : fm), P r S' → AW V M (d + 1) kc ks (pc + 3) L (.long r :: st) (hp S') R) : AW V M (d + 1) kc ks pc L (x5 :: x4 :: x3 :: x2 :: x1 :: st) (hp S) R := by
  unfold AGl at kk
  have k1 : AM V M' d 0 0 [x1, x2, x3, x4, x5] (hp S) (fun r' h' => AW V M (d + 1) kc ks (pc + 3) L (r'.toList ++ st) h' R) := by
    refine AM.weaken ?_ kk
    intro r' h' z
    obtain ⟨x, S', z1, z2, z3⟩ := z
    rw [z1, z2]
    exact k x S' z3
  have k2 := aw_callS (V := V) (M := M) (M' := M') (d := d) (kc := kc) (ks := ks) (pc := pc) (kc' := 0) (ks' := 0) (as := [x1, x2, x3, x4, x5]) (st := st) (L := L) (h := hp S) (R := R) (b := 0) (ci := 0) (q := (RX0, TX0, 12)) (fs := []) (host := "") hd hl ho hn rfl hw k1
  rw [Nat.zero_add, Nat.zero_add] at k2
  exact k2
theorem ax_gS5r {M' : am_M} {idx : Nat} {x1 x2 x3 x4 x5 : Value} {P : Nat → fm → Prop} (hd : decode M.2.1 pc = .ok (.invokestatic idx, 3)) (hl : Cond.methodLink M.1.cls idx M'.1 ∈ am_T) (ho : am_okS M') (hn : (parseMethodDescriptor M'.1.desc).map (fun d => d.parameters.length) = some 5) (hw : (st.map fun v => v.category).sum ≤ 8) (kk : AGr V M' d [x1, x2, x3, x4, x5] S P) (k : ∀ (r : Nat) (S' : fm), P r S' → AW V M (d + 1) kc ks (pc + 3) L (.ref r :: st) (hp S') R) : AW V M (d + 1) kc ks pc L (x5 :: x4 :: x3 :: x2 :: x1 :: st) (hp S) R := by
  unfold AGr at kk
  have k1 : AM V M' d 0 0 [x1, x2, x3, x4, x5] (hp S) (fun r' h' => AW V M (d + 1) kc ks (pc + 3) L (r'.toList ++ st) h' R) := by
    refine AM.weaken ?_ kk
    intro r' h' z
    obtain ⟨x, S', z1, z2, z3⟩ := z
    rw [z1, z2]
    exact k x S' z3
  have k2 := aw_callS (V := V) (M := M) (M' := M') (d := d) (kc := kc) (ks := ks) (pc := pc) (kc' := 0) (ks' := 0) (as := [x1, x2, x3, x4, x5]) (st := st) (L := L) (h := hp S) (R := R) (b := 0) (ci := 0) (q := (RX0, TX0, 12)) (fs := []) (host := "") hd hl ho hn rfl hw k1
  rw [Nat.zero_add, Nat.zero_add] at k2
  exact k2
end AXG
theorem key_of {k : Int32} {n : Nat} (hn4 : n ≤ 4) (h : 0 ≤ k ∧ k ≤ nI n - 1) : ∃ j, j < n ∧ k = nI j := by
  obtain ⟨j, hj, rfl⟩ := nI_of (Int32.not_lt.mpr h.1)
  refine ⟨j, ?_, rfl⟩
  have h2 := Int32.le_iff_toInt_le.mp h.2
  rw [nI_toInt hj, show (1 : Int32) = nI 1 from rfl, pk_sub_toInt (by omega) (by omega)] at h2
  omega
theorem key_iff {j n : Nat} (hn4 : n ≤ 4) (hj : j < 2 ^ 31) : (0 ≤ nI j ∧ nI j ≤ nI n - 1) ↔ j < n := by
  constructor
  · intro h
    obtain ⟨i, hi, e⟩ := key_of hn4 h
    have := (nI_eq hj (by omega)).mp e
    omega
  · intro h
    refine ⟨nI_pos' hj, Int32.le_iff_toInt_le.mpr ?_⟩
    rw [nI_toInt hj, show (1 : Int32) = nI 1 from rfl, pk_sub_toInt (by omega) (by omega)]
    omega
def kcF (g g2 : Nat → Int32) : Nat → Int32 := k_copy g g2
set_option maxRecDepth 100000 in
set_option maxHeartbeats 4000000 in
theorem f_X1_copyFrom {V : am_V} {d a a2 : Nat} {f : Nat → Nat → Int32} {g : Nat → Int32} {τ : Nat → Nat → Int64} (ht : am_tab[a]? = some (.inl (1, [0, 0, 0, 0, 0, 0, 0, 0, 0]))) (ht2 : am_tab[a2]? = some (.inl (1, [0, 0, 0, 0, 0, 0, 0, 0, 0]))) (hne : a2 ≠ a) : AF V MX1_copyFrom d [.ref a, .ref a2] (upk f a g, τ) none (upk f a (k_copy g (f a2)), τ) := by
  refine AM.of (L := [some (.ref a), some (.ref a2)]) (by decide +kernel) (Nat.le_of_ble_eq_true rfl) rfl ?_
  refine aw_aload_n (i := 0) dX1_copyFrom_0 rfl rfl ?_
  refine aw_aload_n (i := 1) dX1_copyFrom_1 rfl rfl ?_
  refine ax_getE (ci := 1) 0 (upk_ne hne 0) dX1_copyFrom_2 rfl lfX1_9 (by decide) ht2 (by rfl) ?_
  refine ax_putK (ci := 1) 0 dX1_copyFrom_5 rfl lfX1_9 (by decide) (by assumption) (by rfl) rfl rfl ?_
  refine aw_aload_n (i := 0) dX1_copyFrom_8 rfl rfl ?_
  refine aw_aload_n (i := 1) dX1_copyFrom_9 rfl rfl ?_
  refine ax_getE (ci := 1) 1 (upk_ne hne 1) dX1_copyFrom_10 rfl lfX1_15 (by decide) ht2 (by rfl) ?_
  refine ax_putK (ci := 1) 1 dX1_copyFrom_13 rfl lfX1_15 (by decide) (by assumption) (by rfl) rfl rfl ?_
  refine aw_aload_n (i := 0) dX1_copyFrom_16 rfl rfl ?_
  refine aw_aload_n (i := 1) dX1_copyFrom_17 rfl rfl ?_
  refine ax_getE (ci := 1) 2 (upk_ne hne 2) dX1_copyFrom_18 rfl lfX1_18 (by decide) ht2 (by rfl) ?_
  refine ax_putK (ci := 1) 2 dX1_copyFrom_21 rfl lfX1_18 (by decide) (by assumption) (by rfl) rfl rfl ?_
  refine aw_aload_n (i := 0) dX1_copyFrom_24 rfl rfl ?_
  refine aw_aload_n (i := 1) dX1_copyFrom_25 rfl rfl ?_
  refine ax_getE (ci := 1) 3 (upk_ne hne 3) dX1_copyFrom_26 rfl lfX1_21 (by decide) ht2 (by rfl) ?_
  refine ax_putK (ci := 1) 3 dX1_copyFrom_29 rfl lfX1_21 (by decide) (by assumption) (by rfl) rfl rfl ?_
  refine aw_aload_n (i := 0) dX1_copyFrom_32 rfl rfl ?_
  refine aw_aload_n (i := 1) dX1_copyFrom_33 rfl rfl ?_
  refine ax_getE (ci := 1) 4 (upk_ne hne 4) dX1_copyFrom_34 rfl lfX1_24 (by decide) ht2 (by rfl) ?_
  refine ax_putK (ci := 1) 4 dX1_copyFrom_37 rfl lfX1_24 (by decide) (by assumption) (by rfl) rfl rfl ?_
  refine aw_aload_n (i := 0) dX1_copyFrom_40 rfl rfl ?_
  refine aw_aload_n (i := 1) dX1_copyFrom_41 rfl rfl ?_
  refine ax_getE (ci := 1) 5 (upk_ne hne 5) dX1_copyFrom_42 rfl lfX1_27 (by decide) ht2 (by rfl) ?_
  refine ax_putK (ci := 1) 5 dX1_copyFrom_45 rfl lfX1_27 (by decide) (by assumption) (by rfl) rfl rfl ?_
  refine aw_aload_n (i := 0) dX1_copyFrom_48 rfl rfl ?_
  refine aw_aload_n (i := 1) dX1_copyFrom_49 rfl rfl ?_
  refine ax_getE (ci := 1) 6 (upk_ne hne 6) dX1_copyFrom_50 rfl lfX1_30 (by decide) ht2 (by rfl) ?_
  refine ax_putK (ci := 1) 6 dX1_copyFrom_53 rfl lfX1_30 (by decide) (by assumption) (by rfl) rfl rfl ?_
  refine aw_return dX1_copyFrom_56 rfl ?_
  exact ⟨rfl, rfl⟩
theorem e_X1_copyFrom {V : am_V} {d a a2 : Nat} {f : Nat → Nat → Int32} {τ : Nat → Nat → Int64} (g g2 : Nat → Int32) (ht : am_tab[a]? = some (.inl (1, [0, 0, 0, 0, 0, 0, 0, 0, 0]))) (ht2 : am_tab[a2]? = some (.inl (1, [0, 0, 0, 0, 0, 0, 0, 0, 0]))) (hne : a2 ≠ a) (hg : f a = g) (hg2 : f a2 = g2) : AF V MX1_copyFrom d [.ref a, .ref a2] (f, τ) none (upk f a (k_copy g g2), τ) := by
  have e := f_X1_copyFrom (V := V) (d := d) (f := f) (g := f a) (τ := τ) ht ht2 hne
  rw [upk_self, hg, hg2] at e
  exact e
def clF (f : Nat → Nat → Int32) (b : Nat) : Nat → Nat → Int32 := up2 (up2 (up2 (up2 (up2 f b 1 0) b 5 0) b 6 1) b 7 0) b 11 0
set_option maxRecDepth 100000 in
set_option maxHeartbeats 4000000 in
theorem f_X0_clear {V : am_V} {d b : Nat} {f : Nat → Nat → Int32} {τ : Nat → Nat → Int64} (hb : am_isB b) : AF V MX0_clear d [.ref b] (f, τ) none (clF f b, τ) := by
  have tB := tb_B hb
  have tk := tb_Bk hb
  have t6 := tb_B6 hb
  have t7 := tb_B7 hb
  have t8 := tb_B8 hb
  have t9 := tb_B9 hb
  have t10 := tb_B10 hb
  have t11 := tb_B11 hb
  refine AM.of (L := [some (.ref b)]) (by decide +kernel) (Nat.le_of_ble_eq_true rfl) rfl ?_
  refine aw_aload_n (i := 0) dX0_clear_0 rfl rfl ?_
  refine aw_iconst (v := 0) dX0_clear_1 (by decide) ?_
  refine ax_puti (ci := 0) 1 dX0_clear_2 rfl lfX0_41 (by decide) (by assumption) (by rfl) rfl rfl ?_
  refine aw_aload_n (i := 0) dX0_clear_5 rfl rfl ?_
  refine aw_iconst (v := 0) dX0_clear_6 (by decide) ?_
  refine ax_puti (ci := 0) 5 dX0_clear_7 rfl lfX0_44 (by decide) (by assumption) (by rfl) rfl rfl ?_
  refine aw_aload_n (i := 0) dX0_clear_10 rfl rfl ?_
  refine aw_iconst (v := 1) dX0_clear_11 (by decide) ?_
  refine ax_puti (ci := 0) 6 dX0_clear_12 rfl lfX0_37 (by decide) (by assumption) (by rfl) rfl rfl ?_
  refine aw_aload_n (i := 0) dX0_clear_15 rfl rfl ?_
  refine aw_iconst (v := 0) dX0_clear_16 (by decide) ?_
  refine ax_puti (ci := 0) 7 dX0_clear_17 rfl lfX0_47 (by decide) (by assumption) (by rfl) rfl rfl ?_
  refine aw_aload_n (i := 0) dX0_clear_20 rfl rfl ?_
  refine aw_iconst (v := 0) dX0_clear_21 (by decide) ?_
  refine ax_puti (ci := 0) 11 dX0_clear_22 rfl lfX0_50 (by decide) (by assumption) (by rfl) rfl rfl ?_
  refine aw_return dX0_clear_25 rfl ?_
  exact ⟨rfl, rfl⟩
def apF (f : Nat → Nat → Int32) (b m q p : Nat) (x y z : Int32) : Nat → Nat → Int32 := up2 (up2 (up2 (up2 f (b + m) p x) (b + m + 1) p y) (b + m + 2) p z) b q (nI (p + 1))
set_option maxRecDepth 100000 in
set_option maxHeartbeats 4000000 in
theorem f_X0_addPress {V : am_V} {d b : Nat} {f : Nat → Nat → Int32} {τ : Nat → Nat → Int64} (hb : am_isB b) {p : Nat} (hlt : p < 8) (hp1 : f b 5 = nI p) (x y z : Int32) : AF V MX0_addPress d [.ref b, .int x, .int y, .int z] (f, τ) none (apF f b 6 5 p x y z, τ) := by
  have tB := tb_B hb
  have tk := tb_Bk hb
  have t6 := tb_B6 hb
  have t7 := tb_B7 hb
  have t8 := tb_B8 hb
  have t9 := tb_B9 hb
  have t10 := tb_B10 hb
  have t11 := tb_B11 hb
  refine AM.of (L := [some (.ref b), some (.int x), some (.int y), some (.int z)]) (by decide +kernel) (Nat.le_of_ble_eq_true rfl) rfl ?_
  refine aw_aload_n (i := 0) dX0_addPress_0 rfl rfl ?_
  refine ax_geti (ci := 0) 5 dX0_addPress_1 rfl lfX0_44 (by decide) (by assumption) (by rfl) ?_
  refine aw_tE (nI p) hp1 ?_
  refine aw_bipush (v := 8) dX0_addPress_4 (by decide) ?_
  refine aw_icmp_ge (tgt := 49) dX0_addPress_6 (by decide) (fun c6 => ?_) (fun c6 => ?_)
  · exact absurd (show nI 8 ≤ nI p from c6) (nI_ge hlt (Nat.le_of_ble_eq_true rfl))
  · refine aw_aload_n (i := 0) dX0_addPress_9 rfl rfl ?_
    refine ax_getr (ci := 0) 2 dX0_addPress_10 rfl lfX0_18 (by decide) (by assumption) (by rfl) ?_
    refine aw_aload_n (i := 0) dX0_addPress_13 rfl rfl ?_
    refine ax_geti (ci := 0) 5 dX0_addPress_14 rfl lfX0_44 (by decide) (by assumption) (by rfl) ?_
    refine aw_tE (nI p) hp1 ?_
    refine aw_iload_n (i := 1) dX0_addPress_17 rfl rfl ?_
    refine ax_iastN dX0_addPress_18 (by assumption) (by omega) (Nat.le_of_ble_eq_true rfl) ?_
    refine aw_aload_n (i := 0) dX0_addPress_19 rfl rfl ?_
    refine ax_getr (ci := 0) 3 dX0_addPress_20 rfl lfX0_22 (by decide) (by assumption) (by rfl) ?_
    refine aw_aload_n (i := 0) dX0_addPress_23 rfl rfl ?_
    refine ax_geti (ci := 0) 5 dX0_addPress_24 rfl lfX0_44 (by decide) (by assumption) (by rfl) ?_
    refine aw_tE (nI p) (by rw [up2_ne (by omega)]; exact hp1) ?_
    refine aw_iload_n (i := 2) dX0_addPress_27 rfl rfl ?_
    refine ax_iastN dX0_addPress_28 (by assumption) (by omega) (Nat.le_of_ble_eq_true rfl) ?_
    refine aw_aload_n (i := 0) dX0_addPress_29 rfl rfl ?_
    refine ax_getr (ci := 0) 4 dX0_addPress_30 rfl lfX0_25 (by decide) (by assumption) (by rfl) ?_
    refine aw_aload_n (i := 0) dX0_addPress_33 rfl rfl ?_
    refine ax_geti (ci := 0) 5 dX0_addPress_34 rfl lfX0_44 (by decide) (by assumption) (by rfl) ?_
    refine aw_tE (nI p) (by rw [up2_ne (by omega), up2_ne (by omega)]; exact hp1) ?_
    refine aw_iload_n (i := 3) dX0_addPress_37 rfl rfl ?_
    refine ax_iastN dX0_addPress_38 (by assumption) (by omega) (Nat.le_of_ble_eq_true rfl) ?_
    refine aw_aload_n (i := 0) dX0_addPress_39 rfl rfl ?_
    refine aw_dup dX0_addPress_40 rfl ?_
    refine ax_geti (ci := 0) 5 dX0_addPress_41 rfl lfX0_44 (by decide) (by assumption) (by rfl) ?_
    refine aw_tE (nI p) (by rw [up2_ne (by omega), up2_ne (by omega), up2_ne (by omega)]; exact hp1) ?_
    refine aw_iconst (v := 1) dX0_addPress_44 (by decide) ?_
    refine aw_iadd dX0_addPress_45 ?_
    refine aw_tE (nI (p + 1)) (nI_1 p) ?_
    refine ax_puti (ci := 0) 5 dX0_addPress_46 rfl lfX0_44 (by decide) (by assumption) (by rfl) rfl rfl ?_
    refine aw_return dX0_addPress_49 rfl ?_
    exact ⟨rfl, rfl⟩
set_option maxRecDepth 100000 in
set_option maxHeartbeats 4000000 in
theorem f_X0_addSeen {V : am_V} {d b : Nat} {f : Nat → Nat → Int32} {τ : Nat → Nat → Int64} (hb : am_isB b) {s : Nat} (hlt : s < 6) (hs : f b 11 = nI s) (x y z : Int32) : AF V MX0_addSeen d [.ref b, .int x, .int y, .int z] (f, τ) none (apF f b 9 11 s x y z, τ) := by
  have tB := tb_B hb
  have tk := tb_Bk hb
  have t6 := tb_B6 hb
  have t7 := tb_B7 hb
  have t8 := tb_B8 hb
  have t9 := tb_B9 hb
  have t10 := tb_B10 hb
  have t11 := tb_B11 hb
  refine AM.of (L := [some (.ref b), some (.int x), some (.int y), some (.int z)]) (by decide +kernel) (Nat.le_of_ble_eq_true rfl) rfl ?_
  refine aw_aload_n (i := 0) dX0_addSeen_0 rfl rfl ?_
  refine ax_geti (ci := 0) 11 dX0_addSeen_1 rfl lfX0_50 (by decide) (by assumption) (by rfl) ?_
  refine aw_tE (nI s) hs ?_
  refine aw_bipush (v := 6) dX0_addSeen_4 (by decide) ?_
  refine aw_icmp_ge (tgt := 49) dX0_addSeen_6 (by decide) (fun c6 => ?_) (fun c6 => ?_)
  · exact absurd (show nI 6 ≤ nI s from c6) (nI_ge hlt (Nat.le_of_ble_eq_true rfl))
  · refine aw_aload_n (i := 0) dX0_addSeen_9 rfl rfl ?_
    refine ax_getr (ci := 0) 8 dX0_addSeen_10 rfl lfX0_28 (by decide) (by assumption) (by rfl) ?_
    refine aw_aload_n (i := 0) dX0_addSeen_13 rfl rfl ?_
    refine ax_geti (ci := 0) 11 dX0_addSeen_14 rfl lfX0_50 (by decide) (by assumption) (by rfl) ?_
    refine aw_tE (nI s) hs ?_
    refine aw_iload_n (i := 1) dX0_addSeen_17 rfl rfl ?_
    refine ax_iastN dX0_addSeen_18 (by assumption) (by omega) (Nat.le_of_ble_eq_true rfl) ?_
    refine aw_aload_n (i := 0) dX0_addSeen_19 rfl rfl ?_
    refine ax_getr (ci := 0) 9 dX0_addSeen_20 rfl lfX0_31 (by decide) (by assumption) (by rfl) ?_
    refine aw_aload_n (i := 0) dX0_addSeen_23 rfl rfl ?_
    refine ax_geti (ci := 0) 11 dX0_addSeen_24 rfl lfX0_50 (by decide) (by assumption) (by rfl) ?_
    refine aw_tE (nI s) (by rw [up2_ne (by omega)]; exact hs) ?_
    refine aw_iload_n (i := 2) dX0_addSeen_27 rfl rfl ?_
    refine ax_iastN dX0_addSeen_28 (by assumption) (by omega) (Nat.le_of_ble_eq_true rfl) ?_
    refine aw_aload_n (i := 0) dX0_addSeen_29 rfl rfl ?_
    refine ax_getr (ci := 0) 10 dX0_addSeen_30 rfl lfX0_34 (by decide) (by assumption) (by rfl) ?_
    refine aw_aload_n (i := 0) dX0_addSeen_33 rfl rfl ?_
    refine ax_geti (ci := 0) 11 dX0_addSeen_34 rfl lfX0_50 (by decide) (by assumption) (by rfl) ?_
    refine aw_tE (nI s) (by rw [up2_ne (by omega), up2_ne (by omega)]; exact hs) ?_
    refine aw_iload_n (i := 3) dX0_addSeen_37 rfl rfl ?_
    refine ax_iastN dX0_addSeen_38 (by assumption) (by omega) (Nat.le_of_ble_eq_true rfl) ?_
    refine aw_aload_n (i := 0) dX0_addSeen_39 rfl rfl ?_
    refine aw_dup dX0_addSeen_40 rfl ?_
    refine ax_geti (ci := 0) 11 dX0_addSeen_41 rfl lfX0_50 (by decide) (by assumption) (by rfl) ?_
    refine aw_tE (nI s) (by rw [up2_ne (by omega), up2_ne (by omega), up2_ne (by omega)]; exact hs) ?_
    refine aw_iconst (v := 1) dX0_addSeen_44 (by decide) ?_
    refine aw_iadd dX0_addSeen_45 ?_
    refine aw_tE (nI (s + 1)) (nI_1 s) ?_
    refine ax_puti (ci := 0) 11 dX0_addSeen_46 rfl lfX0_50 (by decide) (by assumption) (by rfl) rfl rfl ?_
    refine aw_return dX0_addSeen_49 rfl ?_
    exact ⟨rfl, rfl⟩
def akF (f : Nat → Nat → Int32) (b n : Nat) (x y z : Int32) : Nat → Nat → Int32 := up2 (upk f (b + 2 + n) (k_begin (f (b + 2 + n)) x y z)) b 1 (nI (n + 1))
set_option maxRecDepth 100000 in
set_option maxHeartbeats 4000000 in
theorem f_X0_addKey {V : am_V} {d b : Nat} {f : Nat → Nat → Int32} {τ : Nat → Nat → Int64} (hb : am_isB b) {n : Nat} (hlt : n < 4) (hn : f b 1 = nI n) (x y z : Int32) : AF V MX0_addKey (d + 2) [.ref b, .int x, .int y, .int z] (f, τ) none (akF f b n x y z, τ) := by
  have tB := tb_B hb
  have tk := tb_Bk hb
  have t6 := tb_B6 hb
  have t7 := tb_B7 hb
  have t8 := tb_B8 hb
  have t9 := tb_B9 hb
  have t10 := tb_B10 hb
  have t11 := tb_B11 hb
  have tK := tb_K hb hlt
  refine AM.of (L := [some (.ref b), some (.int x), some (.int y), some (.int z)]) (by decide +kernel) (Nat.le_of_ble_eq_true rfl) rfl ?_
  refine aw_aload_n (i := 0) dX0_addKey_0 rfl rfl ?_
  refine ax_geti (ci := 0) 1 dX0_addKey_1 rfl lfX0_41 (by decide) (by assumption) (by rfl) ?_
  refine aw_tE (nI n) hn ?_
  refine aw_iconst (v := 4) dX0_addKey_4 (by decide) ?_
  refine aw_icmp_ge (tgt := 33) dX0_addKey_5 (by decide) (fun c5 => ?_) (fun c5 => ?_)
  · exact absurd (show nI 4 ≤ nI n from c5) (nI_ge hlt (Nat.le_of_ble_eq_true rfl))
  · refine aw_aload_n (i := 0) dX0_addKey_8 rfl rfl ?_
    refine ax_getr (ci := 0) 0 dX0_addKey_9 rfl lfX0_11 (by decide) (by assumption) (by rfl) ?_
    refine aw_aload_n (i := 0) dX0_addKey_12 rfl rfl ?_
    refine ax_geti (ci := 0) 1 dX0_addKey_13 rfl lfX0_41 (by decide) (by assumption) (by rfl) ?_
    refine aw_tE (nI n) hn ?_
    refine ax_keyN dX0_addKey_16 (by assumption) (by omega) ?_
    refine aw_iload_n (i := 1) dX0_addKey_17 rfl rfl ?_
    refine aw_iload_n (i := 2) dX0_addKey_18 rfl rfl ?_
    refine aw_iload_n (i := 3) dX0_addKey_19 rfl rfl ?_
    refine ax_callV3v (M' := MX1_begin) (ci := 1) dX0_addKey_20 lmX0_65 oX1_begin (by decide +kernel) (by assumption) rfl rfl (Nat.le_of_ble_eq_true rfl) (e_X1_begin _ tK rfl _ _ _) ?_
    refine aw_aload_n (i := 0) dX0_addKey_23 rfl rfl ?_
    refine aw_dup dX0_addKey_24 rfl ?_
    refine ax_geti (ci := 0) 1 dX0_addKey_25 rfl lfX0_41 (by decide) (by assumption) (by rfl) ?_
    refine aw_tE (nI n) (by rw [upk_ne (by omega)]; exact hn) ?_
    refine aw_iconst (v := 1) dX0_addKey_28 (by decide) ?_
    refine aw_iadd dX0_addKey_29 ?_
    refine aw_tE (nI (n + 1)) (nI_1 n) ?_
    refine ax_puti (ci := 0) 1 dX0_addKey_30 rfl lfX0_41 (by decide) (by assumption) (by rfl) rfl rfl ?_
    refine aw_return dX0_addKey_33 rfl ?_
    exact ⟨rfl, rfl⟩
set_option maxRecDepth 100000 in
set_option maxHeartbeats 4000000 in
theorem f_X0_hasPressOfNoKey {V : am_V} {d b : Nat} {f : Nat → Nat → Int32} {τ : Nat → Nat → Int64} (hb : am_isB b) {p : Nat} (hp8 : p ≤ 8) (hp1 : f b 5 = nI p) : AF V MX0_hasPressOfNoKey (d + 2) [.ref b] (f, τ) (some (.int (b2i (¬ ∀ i, i < p → (0 ≤ f (b + 7) i ∧ f (b + 7) i ≤ f b 1 - 1))))) (f, τ) := by
  have tB := tb_B hb
  have tk := tb_Bk hb
  have t6 := tb_B6 hb
  have t7 := tb_B7 hb
  have t8 := tb_B8 hb
  have t9 := tb_B9 hb
  have t10 := tb_B10 hb
  have t11 := tb_B11 hb
  refine AM.of (L := [some (.ref b), none]) (by decide +kernel) (Nat.le_of_ble_eq_true rfl) rfl ?_
  have loop : ∀ (m i : Nat) (ha : ∀ j, j < i → (0 ≤ f (b + 7) j ∧ f (b + 7) j ≤ f b 1 - 1)), i ≤ p → p - i < m → AW V MX0_hasPressOfNoKey (d + 2) 0 0 2 [some (.ref b), some (.int (nI i))] [] (hp (f, τ)) (fun r' h' => r' = some (.int (b2i (¬ ∀ i, i < p → (0 ≤ f (b + 7) i ∧ f (b + 7) i ≤ f b 1 - 1)))) ∧ h' = hp (f, τ)) := by
    intro m
    induction m with
    | zero => intro i ha h1 h2; omega
    | succ m ih =>
      intro i ha h1 h2
      refine aw_iload_n (i := 1) dX0_hasPressOfNoKey_2 rfl rfl ?_
      refine aw_aload_n (i := 0) dX0_hasPressOfNoKey_3 rfl rfl ?_
      refine ax_geti (ci := 0) 5 dX0_hasPressOfNoKey_4 rfl lfX0_44 (by decide) (by assumption) (by rfl) ?_
      refine aw_tE (nI p) hp1 ?_
      refine aw_icmp_ge (tgt := 31) dX0_hasPressOfNoKey_7 (by decide) (fun c7 => ?_) (fun c7 => ?_)
      · refine aw_iconst (v := 0) dX0_hasPressOfNoKey_31 (by decide) ?_
        refine aw_ireturn (ty := .boolean) dX0_hasPressOfNoKey_32 rfl (by decide) ?_
        have hip : i = p := by have := (nI_leI (a := p) (b := i) (by omega) (by omega)).mp c7; omega
        subst hip
        exact ⟨congrArg (fun z => some (Value.int z)) (b2i_f (show ¬ ¬ ∀ j, j < i → (0 ≤ f (b + 7) j ∧ f (b + 7) j ≤ f b 1 - 1) from fun q => q ha)).symm, rfl⟩
      · have hi : i < p := Nat.not_le.mp (fun z => c7 (nI_le z (by omega)))
        refine aw_aload_n (i := 0) dX0_hasPressOfNoKey_10 rfl rfl ?_
        refine aw_aload_n (i := 0) dX0_hasPressOfNoKey_11 rfl rfl ?_
        refine ax_getr (ci := 0) 3 dX0_hasPressOfNoKey_12 rfl lfX0_22 (by decide) (by assumption) (by rfl) ?_
        refine aw_iload_n (i := 1) dX0_hasPressOfNoKey_15 rfl rfl ?_
        refine ax_ialdN dX0_hasPressOfNoKey_16 (by assumption) (by omega) (Nat.le_of_ble_eq_true rfl) ?_
        refine ax_callV1i (M' := MX0_hasKey) (ci := 0) dX0_hasPressOfNoKey_17 lmX0_127 oX0_hasKey (by decide +kernel) (by assumption) rfl rfl (Nat.le_of_ble_eq_true rfl) (f_X0_hasKey hb _) ?_
        refine aw_if_ne (tgt := 25) dX0_hasPressOfNoKey_20 (by decide) (fun c20 => ?_) (fun c20 => ?_)
        · refine aw_incN (L' := [_, _]) dX0_hasPressOfNoKey_25 rfl (Nat.le_of_ble_eq_true rfl) rfl rfl ?_
          refine aw_goto (tgt := 2) dX0_hasPressOfNoKey_28 (by decide) ?_
          exact ih (i + 1) (lt_s ha (Decidable.not_not.mp (fun q => c20 (b2i_f q)))) hi (by omega)
        · refine aw_iconst (v := 1) dX0_hasPressOfNoKey_23 (by decide) ?_
          refine aw_ireturn (ty := .boolean) dX0_hasPressOfNoKey_24 rfl (by decide) ?_
          exact ⟨congrArg (fun z => some (Value.int z)) (b2i_t (show ¬ ∀ i, i < p → (0 ≤ f (b + 7) i ∧ f (b + 7) i ≤ f b 1 - 1) from fun q => by rw [b2i_t (q i hi)] at c20; exact absurd c20 (by decide))).symm, rfl⟩
  refine aw_iconst (v := 0) dX0_hasPressOfNoKey_0 (by decide) ?_
  refine aw_istore_n (i := 1) (L' := [_, _]) dX0_hasPressOfNoKey_1 rfl (Nat.le_of_ble_eq_true rfl) rfl rfl ?_
  exact loop (p + 1) 0 (fun _ q => absurd q (Nat.not_lt_zero _)) (Nat.zero_le _) (by omega)
def csK (f : Nat → Nat → Int32) (b b2 : Nat) : Nat → Nat → Int32 := fun k => k_copy (f (b + 2 + k)) (f (b2 + 2 + k))
def csF (f : Nat → Nat → Int32) (b b2 : Nat) : Nat → Nat → Int32 := up2 (up2 (up2 (upn f b 4 (csK f b b2)) b 1 (f b2 1)) b 6 (f b2 6)) b 7 (f b2 7)
def am_ap (b b2 : Nat) : Prop := b + 12 ≤ b2 ∨ b2 + 12 ≤ b
set_option maxRecDepth 100000 in
set_option maxHeartbeats 4000000 in
theorem f_X0_copySievesFrom {V : am_V} {d b b2 : Nat} {f : Nat → Nat → Int32} {τ : Nat → Nat → Int64} (hb : am_isB b) (hb2 : am_isB b2) (hap : am_ap b b2) : AF V MX0_copySievesFrom (d + 1) [.ref b, .ref b2] (f, τ) none (csF f b b2, τ) := by
  have tB := tb_B hb
  have tk := tb_Bk hb
  have t6 := tb_B6 hb
  have t7 := tb_B7 hb
  have t8 := tb_B8 hb
  have t9 := tb_B9 hb
  have t10 := tb_B10 hb
  have t11 := tb_B11 hb
  have uB := tb_B hb2
  have uk := tb_Bk hb2
  have u6 := tb_B6 hb2
  have u7 := tb_B7 hb2
  have u8 := tb_B8 hb2
  have u9 := tb_B9 hb2
  have u10 := tb_B10 hb2
  have u11 := tb_B11 hb2
  have hap2 : b + 12 ≤ b2 ∨ b2 + 12 ≤ b := hap
  refine AM.of (L := [some (.ref b), some (.ref b2), none]) (by decide +kernel) (Nat.le_of_ble_eq_true rfl) rfl ?_
  have loop : ∀ (m i : Nat), i ≤ 4 → 4 - i < m → AW V MX0_copySievesFrom (d + 1) 0 0 2 [some (.ref b), some (.ref b2), some (.int (nI i))] [] (hp (upn f b i (csK f b b2), τ)) (fun r' h' => r' = none ∧ h' = hp (csF f b b2, τ)) := by
    intro m
    induction m with
    | zero => intro i h1 h2; omega
    | succ m ih =>
      intro i h1 h2
      refine aw_iload_n (i := 2) dX0_copySievesFrom_2 rfl rfl ?_
      refine aw_iconst (v := 4) dX0_copySievesFrom_3 (by decide) ?_
      refine aw_tE (nI 4) rfl ?_
      refine aw_icmp_ge (tgt := 28) dX0_copySievesFrom_4 (by decide) (fun c4 => ?_) (fun c4 => ?_)
      · refine aw_aload_n (i := 0) dX0_copySievesFrom_28 rfl rfl ?_
        refine aw_aload_n (i := 1) dX0_copySievesFrom_29 rfl rfl ?_
        refine ax_geti (ci := 0) 1 dX0_copySievesFrom_30 rfl lfX0_41 (by decide) (by assumption) (by rfl) ?_
        refine aw_tE (f b2 1) (by rw [upn_out (by omega)]) ?_
        refine ax_puti (ci := 0) 1 dX0_copySievesFrom_33 rfl lfX0_41 (by decide) (by assumption) (by rfl) rfl rfl ?_
        refine aw_aload_n (i := 0) dX0_copySievesFrom_36 rfl rfl ?_
        refine aw_aload_n (i := 1) dX0_copySievesFrom_37 rfl rfl ?_
        refine ax_geti (ci := 0) 6 dX0_copySievesFrom_38 rfl lfX0_37 (by decide) (by assumption) (by rfl) ?_
        refine aw_tE (f b2 6) (by rw [up2_ne (by omega), upn_out (by omega)]) ?_
        refine ax_puti (ci := 0) 6 dX0_copySievesFrom_41 rfl lfX0_37 (by decide) (by assumption) (by rfl) rfl rfl ?_
        refine aw_aload_n (i := 0) dX0_copySievesFrom_44 rfl rfl ?_
        refine aw_aload_n (i := 1) dX0_copySievesFrom_45 rfl rfl ?_
        refine ax_geti (ci := 0) 7 dX0_copySievesFrom_46 rfl lfX0_47 (by decide) (by assumption) (by rfl) ?_
        refine aw_tE (f b2 7) (by rw [up2_ne (by omega), up2_ne (by omega), upn_out (by omega)]) ?_
        refine ax_puti (ci := 0) 7 dX0_copySievesFrom_49 rfl lfX0_47 (by decide) (by assumption) (by rfl) rfl rfl ?_
        refine aw_return dX0_copySievesFrom_52 rfl ?_
        have hip : i = 4 := by have := (nI_leI (a := 4) (b := i) (by omega) (by omega)).mp c4; omega
        subst hip
        exact ⟨rfl, rfl⟩
      · have hi : i < 4 := Nat.not_le.mp (fun z => c4 (nI_le z (by omega)))
        have tK := tb_K hb hi
        have uK := tb_K hb2 hi
        refine aw_aload_n (i := 0) dX0_copySievesFrom_7 rfl rfl ?_
        refine ax_getr (ci := 0) 0 dX0_copySievesFrom_8 rfl lfX0_11 (by decide) (by assumption) (by rfl) ?_
        refine aw_iload_n (i := 2) dX0_copySievesFrom_11 rfl rfl ?_
        refine ax_keyN dX0_copySievesFrom_12 (by assumption) (by omega) ?_
        refine aw_aload_n (i := 1) dX0_copySievesFrom_13 rfl rfl ?_
        refine ax_getr (ci := 0) 0 dX0_copySievesFrom_14 rfl lfX0_11 (by decide) (by assumption) (by rfl) ?_
        refine aw_iload_n (i := 2) dX0_copySievesFrom_17 rfl rfl ?_
        refine ax_keyN dX0_copySievesFrom_18 (by assumption) (by omega) ?_
        refine ax_callV1v (M' := MX1_copyFrom) (ci := 1) dX0_copySievesFrom_19 lmX0_57 oX1_copyFrom (by decide +kernel) (by assumption) rfl rfl (Nat.le_of_ble_eq_true rfl) (e_X1_copyFrom (f (b + 2 + i)) (f (b2 + 2 + i)) tK uK (by omega) (upn_out (Or.inr (Nat.le_refl _))) (upn_out (by omega))) ?_
        refine aw_incN (L' := [_, _, _]) dX0_copySievesFrom_22 rfl (Nat.le_of_ble_eq_true rfl) rfl rfl ?_
        refine aw_goto (tgt := 2) dX0_copySievesFrom_25 (by decide) ?_
        have e := ih (i + 1) hi (by omega)
        rw [← upn_s] at e
        exact e
  refine aw_iconst (v := 0) dX0_copySievesFrom_0 (by decide) ?_
  refine aw_istore_n (i := 2) (L' := [_, _, _]) dX0_copySievesFrom_1 rfl (Nat.le_of_ble_eq_true rfl) rfl rfl ?_
  have e := loop (4 + 1) 0 (Nat.zero_le _) (by omega)
  rw [upn_0] at e
  exact e
