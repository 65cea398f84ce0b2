set_option maxRecDepth 100000 in
set_option maxHeartbeats 4000000 in
theorem whole_start {p : Program} {e : Env} {s : State} {m : MethodId} {below : List Frame} {meth : Method} {c : Code} (l : Launch) (hflags : l.flags = flags0) {b L : Nat} {xs : Nat → Int32} (hL : L ≤ 2560) (C0 : lw_At p s m meth c b L xs) : W p l e room_1 s m #[Value.ref b] below meth c s.heap [] 0 0 (lw_Z below #[Value.ref b] s) (entryFrame m ([Value.ref b] : List Value).toArray 4) := by
  obtain ⟨hx, hb, hr, hml, hown, hts, hX, hbl, hlocks, hgv⟩ := id C0
  have hT : ∀ w ∈ am_T, w.before #[Value.ref b] s = true := fun w hw => hts w (List.mem_filter.mp hw).1
  have hs := flat_of_before _ hgv
  have hA : ∀ a : Nat, a < s.heap.size → ¬ (fun q : Nat => s.heap.size ≤ q) a := fun a h => Nat.not_le.mpr h
  obtain ⟨c0, i0, hK0⟩ := u_known (C := RX0) (T := TX0) (N := 12) (n := 12) hT am_lay0 (hT _ ni_0)
  obtain ⟨c1, i1, hK1⟩ := u_known (C := RX1) (T := TX1) (N := 9) (n := 9) hT am_lay1 (hT _ ni_1)
  obtain ⟨c2, i2, hK2⟩ := u_known (C := RX2) (T := TX2) (N := 3) (n := 3) hT am_lay2 (hT _ ni_2)
  obtain ⟨c3, i3, hK3⟩ := u_known (C := RX3) (T := TX3) (N := 10) (n := 10) hT am_lay3 (hT _ ni_3)
  obtain ⟨c4, i4, hK4⟩ := u_known (C := RX4) (T := TX4) (N := 12) (n := 12) hT am_lay4 (hT _ ni_4)
  obtain ⟨c5, i5, hK5⟩ := u_known (C := RX5) (T := TX5) (N := 29) (n := 29) hT am_lay5 (hT _ ni_5)
  obtain ⟨a0, g0⟩ := st_arr (hT _ am_ac_i) (fun _ _ z => z)
  obtain ⟨a1, g1⟩ := st_arr (hT _ am_ac_b) (fun _ _ z => z)
  obtain ⟨a2, g2⟩ := st_arr (hT _ am_ac_z) (fun _ _ z => z)
  obtain ⟨a3, g3⟩ := st_ovr (hts _ st_oK)
  obtain ⟨a4, g4⟩ := st_ovr (hts _ st_oB)
  obtain ⟨a5, g5⟩ := st_ovr (hts _ st_oS)
  obtain ⟨adK, adV, hSt, hEv⟩ := vk_Sof (N := 6) (tm := tmS) (len := am_txL) (byt := am_txB) (A := fun q : Nat => s.heap.size ≤ q) (by decide) (fun i hi => hs _ (st_ex i hi)) (fun i hi => hs _ (st_co i hi)) (fun i hi => hs _ (st_ar i hi)) (fun i hi => hs _ (st_le i hi)) (fun i hi j hj => hs _ (st_el i hi j hj)) (fun i j hi hj hij => (st_ne i hi j hj hij).elim (fun z => Or.inl (hs _ z)) (fun z => Or.inr (hs _ z))) hA
  have hZc := va_Zof (v := .int 1) (hts _ st_lc) (hts _ st_ic) (Cond.eq_int (hs _ st_cs) rfl) hA
  have hZf := va_Zqof (hts _ st_lf) (hts _ st_if) (hs _ st_fm) hA
  obtain ⟨tf, hZf⟩ : ∃ tf : Nat, va_Z "jdk/internal/util/Preconditions" "SIOOBE_FORMATTER" "Ljava/util/function/BiFunction;" .null (fun q : Nat => s.heap.size ≤ q) s s.heap ∨ va_Z "jdk/internal/util/Preconditions" "SIOOBE_FORMATTER" "Ljava/util/function/BiFunction;" (.ref tf) (fun q : Nat => s.heap.size ≤ q) s s.heap := by
    rcases hZf with h | ⟨t, h⟩
    · exact ⟨0, Or.inl h⟩
    · exact ⟨t, Or.inr h⟩
  let adr : Nat → Nat := fun i => if i < 100 then adK i else if i < 200 then adV (i - 100) else if i = 200 then tf else b
  let V : am_V := (l, (fun k => if k = 0 then c0 else if k = 1 then c1 else if k = 2 then c2 else if k = 3 then c3 else if k = 4 then c4 else c5, fun k => if k = 0 then i0 else if k = 1 then i1 else if k = 2 then i2 else if k = 3 then i3 else if k = 4 then i4 else i5), (fun k => if k = 0 then a0 else if k = 1 then a1 else if k = 2 then a2 else if k = 3 then a3 else if k = 4 then a4 else a5), s.heap.size, adr)
  have eK : ∀ i, i < 6 → am_adK V i = adK i := fun i hi => if_pos (by omega)
  have eV : ∀ i, i < 6 → am_adV V i = adV i := fun i hi => by
    show (if 100 + i < 100 then adK (100 + i) else if 100 + i < 200 then adV (100 + i - 100) else if 100 + i = 200 then tf else b) = adV i
    rw [if_neg (by omega), if_pos (by omega), Nat.add_sub_cancel_left]
  have hK : va_K V.2.1 am_cl (am_tys V) s := by
    refine ⟨fun k q hq => ?_, fun k q hq => ?_⟩
    · match k, hq with
      | 0, hq => cases hq; exact hK0
      | 1, hq => cases hq; exact hK1
      | 2, hq => cases hq; exact hK2
      | 3, hq => cases hq; exact hK3
      | 4, hq => cases hq; exact hK4
      | 5, hq => cases hq; exact hK5
      | k + 6, hq => simp [am_cl] at hq
    · match k, hq with
      | 0, hq => cases hq; exact g0
      | 1, hq => cases hq; exact g1
      | 2, hq => cases hq; exact g2
      | 3, hq => cases hq; exact g3
      | 4, hq => cases hq; exact g4
      | 5, hq => cases hq; exact g5
      | k + 6, hq => simp [am_tys] at hq
  have hN : am_N V s := by
    refine ⟨fun w hw => va_Nw.of (st_nestT w hw) (hts _ (st_nest w hw)), va_AO.of (hts _ st_oK), va_AO.of (hts _ st_oB), va_AO.of (hts _ st_oS), fun i hi => ?_, ⟨fun i hi => ?_, fun i j hi hj hij => ?_⟩, hZc, ?_⟩
    · rw [eK i hi]
      exact vk_R.of (hts _ (st_sr i hi)) (hEv i hi)
    · rw [eK i hi, eV i hi]
      exact hSt.1 i hi
    · rw [eK i hi, eK j hj] at hij
      exact hSt.2 i j hi hj hij
    · exact hZf
  have hLC : LC V b L xs p s m meth c := ⟨hx, hb, hml, hr, hown, hT, hN, hK, hlocks, rfl, hX, hbl, rfl⟩
  have hloc : am_L V ((lg_sl [Value.ref b] ++ List.replicate (4 - (lg_sl [Value.ref b]).length) Slot.unset).toArray) 4 [some (.ref 1000300), none, none, none] := am_L.entry V [.ref 1000300] (n := 4) (Nat.le_of_ble_eq_true rfl)
  rw [lg_entry_eq]
  exact law_make hL p e s m below meth c hLC s.heap [] _ 0 0 rfl rfl ⟨Nat.zero_le _, rfl, fun a e he => by simp at he⟩ va_S.rf hloc
set_option maxHeartbeats 4000000 in
theorem lw_walk (l : Launch) (hflags : l.flags = flags0) (b : Addr) (xs : List Int32) : MetFree l x (headSpec (Jvm.Cond.code x code maxLocals ret :: tables_1) room_1) (lw_P b xs) (fun _ _ _ _ _ => True) lw_Q := by
  refine MetFree.of_bodyS (code := code) (maxLocals := maxLocals) (ret := ret) (by decide) ?_ ?_
  · intro args s m h hn
    obtain ⟨meth, c, h1, h2, h3, h4, h5, h6, -, -⟩ := Cond.code_spec hn (atoms_spec (ws := Jvm.Cond.code x code maxLocals ret :: tables_1) h _ List.mem_cons_self)
    exact ⟨meth, c, h1, h2, h3, h4, h5, h6⟩
  · intro p e s m args below meth c s₁ B hml0 hP _
    obtain ⟨rfl, hx, hbd, hgv⟩ := hP
    obtain ⟨scr, harrAt, hlist, hof, hsmall⟩ := hx
    obtain ⟨hcb, hkn, -, -⟩ := State.arrayAt?_spec harrAt
    have hown : s.vm.findClass R_law = some m.cls := findClass_of_methodNamed B.named
    have hts0 : ∀ c ∈ (Jvm.Cond.code x code maxLocals ret :: tables_1), c.before #[Value.ref b] s = true := atoms_spec (ws := Jvm.Cond.code x code maxLocals ret :: tables_1) B.pre
    have hts : ∀ w ∈ lw_tbl, w.before #[Value.ref b] s = true := k2_hts_sels lw_privs (fun w hw => hts0 w (List.mem_cons_of_mem _ hw)) lw_privs_ok
    have hml : c.maxLocals = 4 := B.maxLocals_eq (hts0 _ List.mem_cons_self)
    have X₀ : Stand p l e room_1 s m #[Value.ref b] below meth c s₁ [] 0 0 := Stand.of_body B
    have hh0 : s₁.heap = s.heap := by rw [B.state]; rfl
    have hsz : scr.slots.size = xs.length := by rw [← Array.length_toList, hlist, List.length_map]
    have hval : ∀ j : Nat, j < xs.length → scr.slots[j]? = some (.int (xs.getD j 0)) := fun j hj => by
      rw [← Array.getElem?_toList, hlist]
      simp [hj]
    have hbl : b < s.heap.size := (Array.getElem?_eq_some_iff.mp hcb).1
    have hX : va_X b xs.length (fun j => xs.getD j 0) s s.heap := ⟨scr, hcb, hof, hkn, hsz, hval⟩
    have K : W p l e room_1 s m #[Value.ref b] below meth c s₁.heap [] 0 0 (lw_Z below #[Value.ref b] s) (entryFrame m ([Value.ref b] : List Value).toArray 4) := by
      rw [hh0]
      exact whole_start l hflags hbd ⟨B.exec, B.bytes, B.returns, hml, hown, hts, hX, hbl, B.notSynchronized, hgv⟩
    obtain ⟨t, a1, o, b1, b2, b3⟩ := K s₁ rfl X₀
    exact ⟨t, o, a1, b1, b2, b3⟩
theorem lw_pre_spec {args : Array Value} {s : State} (h : (Jvm.Cond.and given_1 narrow_1).before args s = true) (hr : rest_1_c.before args s = true) : ∃ (b : Addr) (xs : List Int32), lw_P b xs args s := by
  have hs := flat_of_before _ h
  have hq := flat_of_before _ hr
  have hc : (Cond.count 1).before args s = true := hs _ (by decide +kernel)
  have harr : (Cond.arrayOf (.arg 0) .int).before args s = true := hs _ (by decide +kernel)
  have hle : (Cond.le (.length (.arg 0)) (.int 2560)).before args s = true := hs _ (by decide +kernel)
  have hlen : (Cond.isInt (.length (.arg 0))).before args s = true := hq _ (by decide +kernel)
  have hall : (Cond.all (.arg 0) (.isInt (.elem (.arg 0) (.index 0)))).before args s = true := hq _ (by decide +kernel)
  obtain ⟨b, xs, hb, hx⟩ := State.ints_of_pre rfl harr hlen hall
  have hsm : xs.length < 2 ^ 31 := hx.choose_spec.2.2.2
  have hev : (Term.length (.arg 0)).eval args s none [] s = some (.int xs.length.toInt32) := hx.length_eval hb
  have hv := Cond.le_ints hev (show (Term.int 2560).eval args s none [] s = some (.int 2560) from rfl)
  have hd : xs.length.toInt32 ≤ 2560 := by
    simpa [Cond.before, Cond.holds, hv] using hle
  have hN : xs.length ≤ 2560 := (Int32.ofNat_le_ofNat hsm (by decide)).mp (show Int32.ofNat xs.length ≤ Int32.ofNat 2560 from hd)
  exact ⟨b, xs, Cond.one_arg hc (show args[0]? = some (.ref b) from hb), hx, hN, h⟩
theorem lw_comes (l : Launch) (hflags : l.flags = flags0) : Comes l x (Jvm.Cond.code x code maxLocals ret :: tables_1) room_1 (fun tb e args s => Calls_1 tb e args s ∧ rest_1 tb e args s ∧ Pre_1 tb e args s)
    (fun _ _ args s o t => lw_Q args s o t) := by
  intro p e ha hc hk s m args below hf hfit hheap happ hpre
  obtain ⟨b, xs, hP⟩ := lw_pre_spec hpre.2.2 hpre.2.1
  obtain ⟨k, o, h1, h2, h3, hQ⟩ := lw_walk l hflags b xs p e ha hc hk s m args below hf ((Spec.applies_iff_loose hf).mp happ).1 hP trivial
  exact ⟨k, o, h1, h2, h3, hQ⟩
theorem lw_frame {s t : State} {o : Outcome} {args : Array Value} (h : Framed s o t [] 600000 7302250) :
    Framed s o t (fieldLocs frame_1_writes args s ++ arrayLocs frame_1_arrays args s ++ staticLocs frame_1_statics s) 600000 7302250 := h
theorem lw_limb (L : Cond) (hL : ∀ (args : Array Value) (s t : State), L.after args s (.returned (some (.int 1))) t = true) :
    ArmFor flags0 classFile x code maxLocals ret World_1 tables_1 room_1 Calls_1 rest_1 Pre_1
      (fun tb e a s o t => postC L tb e a s o t ∧ Framed s o t (fieldLocs frame_1_writes a s ++ arrayLocs frame_1_arrays a s ++ staticLocs frame_1_statics s) 600000 7302250) := by
  intro l hflags _ _ p e ha hc hk s m args below hf hfit hheap happ hpre
  obtain ⟨k, o, h1, h2, h3, rfl, hF⟩ := lw_comes l hflags p e ha hc hk s m args below hf hfit hheap happ hpre
  exact ⟨k, _, h1, h2, h3, hL args s _, lw_frame hF⟩
theorem i_vc : Claimed_1_1 ∧ Claimed_1_2 := ⟨lw_limb limb_1_1 (fun args s t => by simp [limb_1_1, Cond.after, Cond.holds, Cond.value]), lw_limb limb_1_2 (fun args s t => Cond.after_iff.mpr (by
  first | (rw [show limb_1_2 = Cond.eq .result (.int 1) from rfl, Cond.eq_ints (x := 1) (y := 1) rfl rfl]; simp; done) | (simp [limb_1_2, Cond.value, Term.eval]; done)))⟩
