def MJ0_length_8abf5 : am_M := (yJ0_length_8abf5, cJ0_length_8abf5, 1, (some .int))
theorem oJ0_length_8abf5 : am_okV MJ0_length_8abf5 := ⟨⟨(am_in 363 (by decide +kernel) (by decide +kernel)), (am_in 80 (by decide +kernel) (by decide +kernel)), by decide +kernel, by decide +kernel, by decide +kernel, by decide⟩, (am_in 361 (by decide +kernel) (by decide +kernel)), (am_in 362 (by decide +kernel) (by decide +kernel))⟩
def MJ0_charAt_5068e : am_M := (yJ0_charAt_5068e, cJ0_charAt_5068e, 2, (some .char))
theorem oJ0_charAt_5068e : am_okV MJ0_charAt_5068e := ⟨⟨(am_in 373 (by decide +kernel) (by decide +kernel)), (am_in 80 (by decide +kernel) (by decide +kernel)), by decide +kernel, by decide +kernel, by decide +kernel, by decide⟩, (am_in 371 (by decide +kernel) (by decide +kernel)), (am_in 372 (by decide +kernel) (by decide +kernel))⟩
def MJ0_coder_7d493 : am_M := (yJ0_coder_7d493, cJ0_coder_7d493, 1, (some .byte))
theorem oJ0_coder_7d493 : am_okV MJ0_coder_7d493 := ⟨⟨(am_in 367 (by decide +kernel) (by decide +kernel)), (am_in 80 (by decide +kernel) (by decide +kernel)), by decide +kernel, by decide +kernel, by decide +kernel, by decide⟩, (am_in 365 (by decide +kernel) (by decide +kernel)), (am_in 366 (by decide +kernel) (by decide +kernel))⟩
def MJ0_isLatin1_aae02 : am_M := (yJ0_isLatin1_aae02, cJ0_isLatin1_aae02, 1, (some .boolean))
theorem oJ0_isLatin1_aae02 : am_okV MJ0_isLatin1_aae02 := ⟨⟨(am_in 377 (by decide +kernel) (by decide +kernel)), (am_in 80 (by decide +kernel) (by decide +kernel)), by decide +kernel, by decide +kernel, by decide +kernel, by decide⟩, (am_in 375 (by decide +kernel) (by decide +kernel)), (am_in 376 (by decide +kernel) (by decide +kernel))⟩
def MJ0_checkIndex_df160 : am_M := (yJ0_checkIndex_df160, cJ0_checkIndex_df160, 2, none)
theorem oJ0_checkIndex_df160 : am_okS MJ0_checkIndex_df160 := ⟨⟨(am_in 383 (by decide +kernel) (by decide +kernel)), (am_in 80 (by decide +kernel) (by decide +kernel)), by decide +kernel, by decide +kernel, by decide +kernel, by decide⟩, (am_in 382 (by decide +kernel) (by decide +kernel))⟩
def MJ1_charAt_3b067 : am_M := (yJ1_charAt_3b067, cJ1_charAt_3b067, 2, (some .char))
theorem oJ1_charAt_3b067 : am_okS MJ1_charAt_3b067 := ⟨⟨(am_in 380 (by decide +kernel) (by decide +kernel)), (am_in 81 (by decide +kernel) (by decide +kernel)), by decide +kernel, by decide +kernel, by decide +kernel, by decide⟩, (am_in 379 (by decide +kernel) (by decide +kernel))⟩
def MJ3_checkIndex_8e157 : am_M := (yJ3_checkIndex_8e157, cJ3_checkIndex_8e157, 3, (some .int))
theorem oJ3_checkIndex_8e157 : am_okS MJ3_checkIndex_8e157 := ⟨⟨(am_in 388 (by decide +kernel) (by decide +kernel)), (am_in 82 (by decide +kernel) (by decide +kernel)), by decide +kernel, by decide +kernel, by decide +kernel, by decide⟩, (am_in 387 (by decide +kernel) (by decide +kernel))⟩
theorem lmJ0_335 : Cond.methodLink RJ0 335 yJ0_coder_7d493 ∈ am_T := (am_in 364 (by decide +kernel) (by decide +kernel))
theorem lfJ0_38 : Cond.fieldLink RJ0 38 "java/lang/String" "COMPACT_STRINGS" "Z" ∈ am_T := (am_in 368 (by decide +kernel) (by decide +kernel))
theorem lmJ0_492 : Cond.methodLink RJ0 492 yJ0_isLatin1_aae02 ∈ am_T := (am_in 374 (by decide +kernel) (by decide +kernel))
theorem lmJ0_495 : Cond.methodLink RJ0 495 yJ1_charAt_3b067 ∈ am_T := (am_in 378 (by decide +kernel) (by decide +kernel))
theorem lmJ1_9 : Cond.methodLink RJ1 9 yJ0_checkIndex_df160 ∈ am_T := (am_in 381 (by decide +kernel) (by decide +kernel))
theorem lfJ0_1053 : Cond.fieldLink RJ0 1053 "jdk/internal/util/Preconditions" "SIOOBE_FORMATTER" "Ljava/util/function/BiFunction;" ∈ am_T := (am_in 384 (by decide +kernel) (by decide +kernel))
theorem lmJ0_1059 : Cond.methodLink RJ0 1059 yJ3_checkIndex_8e157 ∈ am_T := (am_in 386 (by decide +kernel) (by decide +kernel))
theorem lfJ0_9 : Cond.fieldLink RJ0 9 "java/lang/String" "value" "[B" ∈ am_T := (am_in 1306 (by decide +kernel) (by decide +kernel))
theorem lfJ0_15 : Cond.fieldLink RJ0 15 "java/lang/String" "coder" "B" ∈ am_T := (am_in 1307 (by decide +kernel) (by decide +kernel))
theorem dJ0_length_8abf5_0 : decode cJ0_length_8abf5 0 = .ok (.aload_n 0, 1) := by decide +kernel
theorem dJ0_length_8abf5_1 : decode cJ0_length_8abf5 1 = .ok (.getfield 9, 3) := by decide +kernel
theorem dJ0_length_8abf5_4 : decode cJ0_length_8abf5 4 = .ok (.arraylength, 1) := by decide +kernel
theorem dJ0_length_8abf5_5 : decode cJ0_length_8abf5 5 = .ok (.aload_n 0, 1) := by decide +kernel
theorem dJ0_length_8abf5_6 : decode cJ0_length_8abf5 6 = .ok (.invokevirtual 335, 3) := by decide +kernel
theorem dJ0_length_8abf5_9 : decode cJ0_length_8abf5 9 = .ok (.ishr, 1) := by decide +kernel
theorem dJ0_length_8abf5_10 : decode cJ0_length_8abf5 10 = .ok (.ireturn, 1) := by decide +kernel
theorem dJ0_charAt_5068e_0 : decode cJ0_charAt_5068e 0 = .ok (.aload_n 0, 1) := by decide +kernel
theorem dJ0_charAt_5068e_1 : decode cJ0_charAt_5068e 1 = .ok (.invokevirtual 492, 3) := by decide +kernel
theorem dJ0_charAt_5068e_4 : decode cJ0_charAt_5068e 4 = .ok (.ifCond .eq 12, 3) := by decide +kernel
theorem dJ0_charAt_5068e_7 : decode cJ0_charAt_5068e 7 = .ok (.aload_n 0, 1) := by decide +kernel
theorem dJ0_charAt_5068e_8 : decode cJ0_charAt_5068e 8 = .ok (.getfield 9, 3) := by decide +kernel
theorem dJ0_charAt_5068e_11 : decode cJ0_charAt_5068e 11 = .ok (.iload_n 1, 1) := by decide +kernel
theorem dJ0_charAt_5068e_12 : decode cJ0_charAt_5068e 12 = .ok (.invokestatic 495, 3) := by decide +kernel
theorem dJ0_charAt_5068e_15 : decode cJ0_charAt_5068e 15 = .ok (.ireturn, 1) := by decide +kernel
theorem dJ0_charAt_5068e_16 : decode cJ0_charAt_5068e 16 = .ok (.aload_n 0, 1) := by decide +kernel
theorem dJ0_charAt_5068e_17 : decode cJ0_charAt_5068e 17 = .ok (.getfield 9, 3) := by decide +kernel
theorem dJ0_charAt_5068e_20 : decode cJ0_charAt_5068e 20 = .ok (.iload_n 1, 1) := by decide +kernel
theorem dJ0_charAt_5068e_21 : decode cJ0_charAt_5068e 21 = .ok (.invokestatic 498, 3) := by decide +kernel
theorem dJ0_charAt_5068e_24 : decode cJ0_charAt_5068e 24 = .ok (.ireturn, 1) := by decide +kernel
theorem dJ0_coder_7d493_0 : decode cJ0_coder_7d493 0 = .ok (.getstatic 38, 3) := by decide +kernel
theorem dJ0_coder_7d493_3 : decode cJ0_coder_7d493 3 = .ok (.ifCond .eq 10, 3) := by decide +kernel
theorem dJ0_coder_7d493_6 : decode cJ0_coder_7d493 6 = .ok (.aload_n 0, 1) := by decide +kernel
theorem dJ0_coder_7d493_7 : decode cJ0_coder_7d493 7 = .ok (.getfield 15, 3) := by decide +kernel
theorem dJ0_coder_7d493_10 : decode cJ0_coder_7d493 10 = .ok (.goto 4, 3) := by decide +kernel
theorem dJ0_coder_7d493_13 : decode cJ0_coder_7d493 13 = .ok (.iconst 1, 1) := by decide +kernel
theorem dJ0_coder_7d493_14 : decode cJ0_coder_7d493 14 = .ok (.ireturn, 1) := by decide +kernel
theorem dJ0_isLatin1_aae02_0 : decode cJ0_isLatin1_aae02 0 = .ok (.getstatic 38, 3) := by decide +kernel
theorem dJ0_isLatin1_aae02_3 : decode cJ0_isLatin1_aae02 3 = .ok (.ifCond .eq 14, 3) := by decide +kernel
theorem dJ0_isLatin1_aae02_6 : decode cJ0_isLatin1_aae02 6 = .ok (.aload_n 0, 1) := by decide +kernel
theorem dJ0_isLatin1_aae02_7 : decode cJ0_isLatin1_aae02 7 = .ok (.getfield 15, 3) := by decide +kernel
theorem dJ0_isLatin1_aae02_10 : decode cJ0_isLatin1_aae02 10 = .ok (.ifCond .ne 7, 3) := by decide +kernel
theorem dJ0_isLatin1_aae02_13 : decode cJ0_isLatin1_aae02 13 = .ok (.iconst 1, 1) := by decide +kernel
theorem dJ0_isLatin1_aae02_14 : decode cJ0_isLatin1_aae02 14 = .ok (.goto 4, 3) := by decide +kernel
theorem dJ0_isLatin1_aae02_17 : decode cJ0_isLatin1_aae02 17 = .ok (.iconst 0, 1) := by decide +kernel
theorem dJ0_isLatin1_aae02_18 : decode cJ0_isLatin1_aae02 18 = .ok (.ireturn, 1) := by decide +kernel
theorem dJ0_checkIndex_df160_0 : decode cJ0_checkIndex_df160 0 = .ok (.iload_n 0, 1) := by decide +kernel
theorem dJ0_checkIndex_df160_1 : decode cJ0_checkIndex_df160 1 = .ok (.iload_n 1, 1) := by decide +kernel
theorem dJ0_checkIndex_df160_2 : decode cJ0_checkIndex_df160 2 = .ok (.getstatic 1053, 3) := by decide +kernel
theorem dJ0_checkIndex_df160_5 : decode cJ0_checkIndex_df160 5 = .ok (.invokestatic 1059, 3) := by decide +kernel
theorem dJ0_checkIndex_df160_8 : decode cJ0_checkIndex_df160 8 = .ok (.pop, 1) := by decide +kernel
theorem dJ0_checkIndex_df160_9 : decode cJ0_checkIndex_df160 9 = .ok (.return_, 1) := by decide +kernel
theorem dJ1_charAt_3b067_0 : decode cJ1_charAt_3b067 0 = .ok (.iload_n 1, 1) := by decide +kernel
theorem dJ1_charAt_3b067_1 : decode cJ1_charAt_3b067 1 = .ok (.aload_n 0, 1) := by decide +kernel
theorem dJ1_charAt_3b067_2 : decode cJ1_charAt_3b067 2 = .ok (.arraylength, 1) := by decide +kernel
theorem dJ1_charAt_3b067_3 : decode cJ1_charAt_3b067 3 = .ok (.invokestatic 9, 3) := by decide +kernel
theorem dJ1_charAt_3b067_6 : decode cJ1_charAt_3b067 6 = .ok (.aload_n 0, 1) := by decide +kernel
theorem dJ1_charAt_3b067_7 : decode cJ1_charAt_3b067 7 = .ok (.iload_n 1, 1) := by decide +kernel
theorem dJ1_charAt_3b067_8 : decode cJ1_charAt_3b067 8 = .ok (.baload, 1) := by decide +kernel
theorem dJ1_charAt_3b067_9 : decode cJ1_charAt_3b067 9 = .ok (.sipush 255, 3) := by decide +kernel
theorem dJ1_charAt_3b067_12 : decode cJ1_charAt_3b067 12 = .ok (.iand, 1) := by decide +kernel
theorem dJ1_charAt_3b067_13 : decode cJ1_charAt_3b067 13 = .ok (.i2c, 1) := by decide +kernel
theorem dJ1_charAt_3b067_14 : decode cJ1_charAt_3b067 14 = .ok (.ireturn, 1) := by decide +kernel
theorem dJ3_checkIndex_8e157_0 : decode cJ3_checkIndex_8e157 0 = .ok (.iload_n 0, 1) := by decide +kernel
theorem dJ3_checkIndex_8e157_1 : decode cJ3_checkIndex_8e157 1 = .ok (.ifCond .lt 8, 3) := by decide +kernel
theorem dJ3_checkIndex_8e157_4 : decode cJ3_checkIndex_8e157 4 = .ok (.iload_n 0, 1) := by decide +kernel
theorem dJ3_checkIndex_8e157_5 : decode cJ3_checkIndex_8e157 5 = .ok (.iload_n 1, 1) := by decide +kernel
theorem dJ3_checkIndex_8e157_6 : decode cJ3_checkIndex_8e157 6 = .ok (.if_icmp .lt 10, 3) := by decide +kernel
theorem dJ3_checkIndex_8e157_9 : decode cJ3_checkIndex_8e157 9 = .ok (.aload_n 2, 1) := by decide +kernel
theorem dJ3_checkIndex_8e157_10 : decode cJ3_checkIndex_8e157 10 = .ok (.iload_n 0, 1) := by decide +kernel
theorem dJ3_checkIndex_8e157_11 : decode cJ3_checkIndex_8e157 11 = .ok (.iload_n 1, 1) := by decide +kernel
theorem dJ3_checkIndex_8e157_12 : decode cJ3_checkIndex_8e157 12 = .ok (.invokestatic 95, 3) := by decide +kernel
theorem dJ3_checkIndex_8e157_15 : decode cJ3_checkIndex_8e157 15 = .ok (.athrow, 1) := by decide +kernel
theorem dJ3_checkIndex_8e157_16 : decode cJ3_checkIndex_8e157 16 = .ok (.iload_n 0, 1) := by decide +kernel
theorem dJ3_checkIndex_8e157_17 : decode cJ3_checkIndex_8e157 17 = .ok (.ireturn, 1) := by decide +kernel
section AMT
variable {V : am_V} {M : am_M} {d kc ks pc : Nat} {L : List (Option Value)} {st : List Value} {h : List va_E} {R : Option Value → List va_E → Prop}
theorem am_adX (V : am_V) (i : Nat) : am_ad V (1000000 + i) = V.2.2.2.2 i := by
  unfold am_ad
  rw [if_neg (by omega), Nat.add_sub_cancel_left]
theorem am_cvK (V : am_V) (i : Nat) : am_cv V (.ref (1000000 + i)) = .ref (am_adK V i) := by
  show Value.ref (am_ad V (1000000 + i)) = _
  rw [am_adX]
  rfl
theorem am_cvV (V : am_V) (i : Nat) : am_cv V (.ref (1000100 + i)) = .ref (am_adV V i) := by
  show Value.ref (am_ad V (1000100 + i)) = _
  rw [show 1000100 + i = 1000000 + (100 + i) by omega, am_adX]
  rfl
theorem aw_i2c {x : Int32} (hd : decode M.2.1 pc = .ok (.i2c, 1)) (k : AW V M d kc ks (pc + 1) L (.int (x.toUInt32 % 65536).toInt32 :: st) h R) : AW V M d kc ks pc L (.int x :: st) h R := by
  intro p e s m args below meth c C H locs ls cells slots mc ms hc hs hS hF hL
  exact lv_i2c C.1 C.2.1 hd rfl (k p e s m args below meth c C H locs ls cells slots mc ms hc hs hS hF hL)
theorem aw_ldcS {i idx : Nat} (hi : i < 6) (hx : am_txI.getD i 0 = idx) (hc0 : M.1.cls = "KeySieves$TextReader") (hd : decode M.2.1 pc = .ok (.ldc idx, 2)) (k : AW V M d kc ks (pc + 2) L (.ref (1000000 + i) :: st) h R) : AW V M d kc ks pc L st h R := by
  subst hx
  intro p e s m args below meth c C H locs ls cells slots mc ms hc hs hS hF hL
  have k1 := k p e s m args below meth c C H locs ls cells slots mc ms hc hs hS hF hL
  rw [List.map_cons, am_cvK] at k1
  exact va_ldcS C.1 C.2.1 (by rw [← hc0]; exact C.2.2.2.2.1) (C.2.2.2.2.2.2.1.2.2.2.2.1 i hi) hd k1
theorem aw_compact {idx : Nat} (hd : decode M.2.1 pc = .ok (.getstatic idx, 3)) (hl : Cond.fieldLink M.1.cls idx "java/lang/String" "COMPACT_STRINGS" "Z" ∈ am_T) (k : AW V M d kc ks (pc + 3) L (.int 1 :: st) h R) : AW V M d kc ks pc L st h R := by
  intro p e s m args below meth c C H locs ls cells slots mc ms hc hs hS hF hL
  exact va_gets (A := am_A V) (v := .int 1) C.1 C.2.1 C.2.2.2.2.2.2.1.2.2.2.2.2.2.1 hF C.2.2.2.2.1 (C.2.2.2.2.2.1 _ hl) (fun _ z => z) hd (k p e s m args below meth c C H locs ls cells slots mc ms hc hs hS hF hL)
theorem aw_formatter {idx : Nat} (hd : decode M.2.1 pc = .ok (.getstatic idx, 3)) (hl : Cond.fieldLink M.1.cls idx "jdk/internal/util/Preconditions" "SIOOBE_FORMATTER" "Ljava/util/function/BiFunction;" ∈ am_T) (k1 : AW V M d kc ks (pc + 3) L (.null :: st) h R) (k2 : AW V M d kc ks (pc + 3) L (.ref (1000000 + 200) :: st) h R) : AW V M d kc ks pc L st h R := by
  intro p e s m args below meth c C H locs ls cells slots mc ms hc hs hS hF hL
  rcases C.2.2.2.2.2.2.1.2.2.2.2.2.2.2 with z | z
  · exact va_gets (A := am_A V) (v := .null) C.1 C.2.1 z hF C.2.2.2.2.1 (C.2.2.2.2.2.1 _ hl) (fun _ z => z) hd (k1 p e s m args below meth c C H locs ls cells slots mc ms hc hs hS hF hL)
  · have k3 := k2 p e s m args below meth c C H locs ls cells slots mc ms hc hs hS hF hL
    rw [List.map_cons, am_cvK] at k3
    exact va_gets (A := am_A V) (v := .ref (V.2.2.2.2 200)) C.1 C.2.1 z hF C.2.2.2.2.1 (C.2.2.2.2.2.1 _ hl) (fun _ z => z) hd k3
theorem aw_strC {i idx : Nat} (hi : i < 6) (hd : decode M.2.1 pc = .ok (.getfield idx, 3)) (hl : Cond.fieldLink M.1.cls idx "java/lang/String" "coder" "B" ∈ am_T) (k : AW V M d kc ks (pc + 3) L (.int 0 :: st) h R) : AW V M d kc ks pc L (.ref (1000000 + i) :: st) h R := by
  intro p e s m args below meth c C H locs ls cells slots mc ms hc hs hS hF hL
  rw [List.map_cons, am_cvK]
  exact vk_getf (A := am_A V) C.1 C.2.1 (C.2.2.2.2.2.2.1.2.2.2.2.2.1.1 i hi).2.1 hF C.2.2.2.2.1 (C.2.2.2.2.2.1 _ hl) (fun _ z => z) hd (k p e s m args below meth c C H locs ls cells slots mc ms hc hs hS hF hL)
theorem aw_strV {i idx : Nat} (hi : i < 6) (hd : decode M.2.1 pc = .ok (.getfield idx, 3)) (hl : Cond.fieldLink M.1.cls idx "java/lang/String" "value" "[B" ∈ am_T) (k : AW V M d kc ks (pc + 3) L (.ref (1000100 + i) :: st) h R) : AW V M d kc ks pc L (.ref (1000000 + i) :: st) h R := by
  intro p e s m args below meth c C H locs ls cells slots mc ms hc hs hS hF hL
  rw [List.map_cons, am_cvK]
  have k1 := k p e s m args below meth c C H locs ls cells slots mc ms hc hs hS hF hL
  rw [List.map_cons, am_cvV] at k1
  exact vk_getf (A := am_A V) C.1 C.2.1 (C.2.2.2.2.2.2.1.2.2.2.2.2.1.1 i hi).2.2.1 hF C.2.2.2.2.1 (C.2.2.2.2.2.1 _ hl) (fun _ z => z) hd k1
theorem aw_strL {i : Nat} (hi : i < 6) (hd : decode M.2.1 pc = .ok (.arraylength, 1)) (k : AW V M d kc ks (pc + 1) L (.int (nI (am_txL.getD i 0)) :: st) h R) : AW V M d kc ks pc L (.ref (1000100 + i) :: st) h R := by
  intro p e s m args below meth c C H locs ls cells slots mc ms hc hs hS hF hL
  rw [List.map_cons, am_cvV]
  exact va_tlen (A := am_A V) C.1 C.2.1 (C.2.2.2.2.2.2.1.2.2.2.2.2.1.1 i hi).2.2.2 hF rfl hd (k p e s m args below meth c C H locs ls cells slots mc ms hc hs hS hF hL)
theorem aw_strB {i j : Nat} (hi : i < 6) (hj : j < am_txL.getD i 0) (hd : decode M.2.1 pc = .ok (.baload, 1)) (k : AW V M d kc ks (pc + 1) L (.int ((am_txB.getD i []).getD j 0) :: st) h R) : AW V M d kc ks pc L (.int (nI j) :: .ref (1000100 + i) :: st) h R := by
  intro p e s m args below meth c C H locs ls cells slots mc ms hc hs hS hF hL
  have hl : am_txL.getD i 0 ≤ 5 := by
    rcases (show i = 0 ∨ i = 1 ∨ i = 2 ∨ i = 3 ∨ i = 4 ∨ i = 5 by omega) with rfl | rfl | rfl | rfl | rfl | rfl <;> decide
  rw [List.map_cons, List.map_cons, am_cvV]
  exact va_tb (A := am_A V) C.1 C.2.1 (C.2.2.2.2.2.2.1.2.2.2.2.2.1.1 i hi).2.2.2 hF (vp_in_nI hj (by omega)) (by rw [nI_clamp (by omega)]; rfl) hd (k p e s m args below meth c C H locs ls cells slots mc ms hc hs hS hF hL)
theorem aw_callVS {M' : am_M} {i idx kc' ks' : Nat} {as stk : List Value} (hi : i < 6) (hd : decode M.2.1 pc = .ok (.invokevirtual idx, 3)) (hl : Cond.methodLink M.1.cls idx M'.1 ∈ am_T) (ho : am_okV M') (hn : (parseMethodDescriptor M'.1.desc).map (fun d => d.parameters.length) = some as.length) (hqc : M'.1.cls = "java/lang/String") (hst : as.reverse ++ .ref (1000000 + i) :: st = stk) (hw : (st.map fun v => v.category).sum ≤ 8) (kk : AM V M' d kc' ks' (.ref (1000000 + i) :: as) h (fun r h' => AW V M (d + 1) kc ks (pc + 3) L (r.toList ++ st) h' R)) : AW V M (d + 1) (kc' + kc) (ks' + ks) pc L stk h R := by
  subst hst
  intro p e s m args below meth c C H locs ls cells slots mc ms hc hs hS hF hL
  have hts := C.2.2.2.2.2.1
  have hown := C.2.2.2.2.1
  have hK := C.2.2.2.2.2.2.2.1
  have hrm : (am_rm d kc' ks').frames + 1 ≤ (am_rm (d + 1) mc ms).frames ∧ 8 + (M'.2.2.1 + 11) + (am_rm d kc' ks').locals ≤ (am_rm (d + 1) mc ms).locals := ⟨Nat.le_refl _, by show 8 + (M'.2.2.1 + 11) + 40 * d ≤ 40 * (d + 1); have := ho.1.2.2.2.2.2; omega⟩
  refine am_call (R' := fun r h' => AW V M (d + 1) kc ks (pc + 3) L (r.toList ++ st) h' R) (va_runV (As := as.map (am_cv V)) (rest := st.map (am_cv V)) (b := am_ad V (1000000 + i)) ⟨C.1, C.2.1, C.2.2.1, hown, hts⟩ kk ⟨callB_of as.length hts (am_ws_good ho.1) rfl rfl rfl (hts _ ho.1.2.1) (hts _ hl) ⟨ho.1.2.2.1, ho.1.2.2.2.1, hn⟩ hrm, hts _ ho.2.1, hts _ ho.2.2⟩ ⟨am_P.blind, by rw [hqc, am_adX]; exact vk_recv C.2.2.2.2.2.2.1.2.2.2.2.2.1 hi hF, fun U hU hW => ⟨rfl, C.2.2.2.2.2.2.1.warm hW hU hF, va_K.moved hW.alike hK, by rw [hU]; exact hS⟩⟩ rfl (by rw [List.length_map]) hL.2.1 (by simp [am_cv]) (lv_room (am_restC hw)) hd ⟨by show cells + kc' ≤ mc; omega, by show slots + ks' ≤ ms; omega⟩) hF (fun r h' H1 locs1 hR hS1 hF1 => ?_)
  rw [am_restL]
  exact hR p e s m args below meth c C H1 locs1 ls (cells + kc') (slots + ks') mc ms (by omega) (by omega) hS1 hF1 hL
theorem ax_callVS {M' : am_M} {i idx : Nat} {as stk : List Value} {S : fm} {r : Int32} (hi : i < 6) (hd : decode M.2.1 pc = .ok (.invokevirtual idx, 3)) (hl : Cond.methodLink M.1.cls idx M'.1 ∈ am_T) (ho : am_okV M') (hn : (parseMethodDescriptor M'.1.desc).map (fun d => d.parameters.length) = some as.length) (hqc : M'.1.cls = "java/lang/String") (hst : as.reverse ++ .ref (1000000 + i) :: st = stk) (hw : (st.map fun v => v.category).sum ≤ 8) (kk : AF V M' d (.ref (1000000 + i) :: as) S (some (.int r)) S) (k : AW V M (d + 1) kc ks (pc + 3) L (.int r :: st) (hp S) R) : AW V M (d + 1) kc ks pc L stk (hp S) R := by
  unfold AF at kk
  have k1 : AM V M' d 0 0 (.ref (1000000 + i) :: as) (hp S) (fun r' h' => AW V M (d + 1) kc ks (pc + 3) L (r'.toList ++ st) h' R) := by
    refine AM.weaken ?_ kk
    intro r' h' z
    rw [z.1, z.2]
    exact k
  have k2 := aw_callVS (V := V) (M := M) (M' := M') (d := d) (kc := kc) (ks := ks) (pc := pc) (kc' := 0) (ks' := 0) (as := as) (st := st) (L := L) (h := hp S) (R := R) hi hd hl ho hn hqc hst hw k1
  rw [Nat.zero_add, Nat.zero_add] at k2
  exact k2
end AMT
set_option maxRecDepth 100000 in
set_option maxHeartbeats 1000000 in
theorem f_J0_coder_7d493 {V : am_V} {d : Nat} {S : fm} {i : Nat} (hi : i < 6) : AF V MJ0_coder_7d493 d [.ref (1000000 + i)] S (some (.int 0)) S := by
  refine AM.of (L := [some (.ref (1000000 + i))]) (by decide +kernel) (Nat.le_of_ble_eq_true rfl) rfl ?_
  refine aw_compact dJ0_coder_7d493_0 lfJ0_38 ?_
  refine aw_if_eq (tgt := 13) dJ0_coder_7d493_3 (by decide) (fun c3 => ?_) (fun c3 => ?_)
  · exact absurd c3 (by decide)
  · refine aw_aload_n (i := 0) dJ0_coder_7d493_6 rfl rfl ?_
    refine aw_strC hi dJ0_coder_7d493_7 lfJ0_15 ?_
    refine aw_goto (tgt := 14) dJ0_coder_7d493_10 (by decide) ?_
    refine aw_ireturn (ty := .byte) dJ0_coder_7d493_14 rfl (by decide) ?_
    exact ⟨rfl, rfl⟩
set_option maxRecDepth 100000 in
set_option maxHeartbeats 1000000 in
theorem f_J0_isLatin1_aae02 {V : am_V} {d : Nat} {S : fm} {i : Nat} (hi : i < 6) : AF V MJ0_isLatin1_aae02 d [.ref (1000000 + i)] S (some (.int 1)) S := by
  refine AM.of (L := [some (.ref (1000000 + i))]) (by decide +kernel) (Nat.le_of_ble_eq_true rfl) rfl ?_
  refine aw_compact dJ0_isLatin1_aae02_0 lfJ0_38 ?_
  refine aw_if_eq (tgt := 17) dJ0_isLatin1_aae02_3 (by decide) (fun c3 => ?_) (fun c3 => ?_)
  · exact absurd c3 (by decide)
  · refine aw_aload_n (i := 0) dJ0_isLatin1_aae02_6 rfl rfl ?_
    refine aw_strC hi dJ0_isLatin1_aae02_7 lfJ0_15 ?_
    refine aw_if_ne (tgt := 17) dJ0_isLatin1_aae02_10 (by decide) (fun c10 => ?_) (fun c10 => ?_)
    · exact absurd rfl c10
    · refine aw_iconst (v := 1) dJ0_isLatin1_aae02_13 (by decide) ?_
      refine aw_goto (tgt := 18) dJ0_isLatin1_aae02_14 (by decide) ?_
      refine aw_ireturn (ty := .boolean) dJ0_isLatin1_aae02_18 rfl (by decide) ?_
      exact ⟨rfl, rfl⟩
set_option maxRecDepth 100000 in
set_option maxHeartbeats 1000000 in
theorem f_J0_length_8abf5 {V : am_V} {d : Nat} {S : fm} {i : Nat} (hi : i < 6) : AF V MJ0_length_8abf5 (d + 1) [.ref (1000000 + i)] S (some (.int (nI (am_txL.getD i 0)))) S := by
  refine AM.of (L := [some (.ref (1000000 + i))]) (by decide +kernel) (Nat.le_of_ble_eq_true rfl) rfl ?_
  refine aw_aload_n (i := 0) dJ0_length_8abf5_0 rfl rfl ?_
  refine aw_strV hi dJ0_length_8abf5_1 lfJ0_9 ?_
  refine aw_strL hi dJ0_length_8abf5_4 ?_
  refine aw_aload_n (i := 0) dJ0_length_8abf5_5 rfl rfl ?_
  refine ax_callVS (M' := MJ0_coder_7d493) (as := []) hi dJ0_length_8abf5_6 lmJ0_335 oJ0_coder_7d493 (by decide +kernel) rfl rfl (Nat.le_of_ble_eq_true rfl) (f_J0_coder_7d493 hi) ?_
  refine aw_ishr dJ0_length_8abf5_9 ?_
  refine aw_tE (nI (am_txL.getD i 0)) (sc_shr0 (by rcases (show i = 0 ∨ i = 1 ∨ i = 2 ∨ i = 3 ∨ i = 4 ∨ i = 5 by omega) with rfl | rfl | rfl | rfl | rfl | rfl <;> decide)) ?_
  refine aw_ireturn (ty := .int) dJ0_length_8abf5_10 rfl rfl ?_
  exact ⟨rfl, rfl⟩
set_option maxRecDepth 100000 in
set_option maxHeartbeats 1000000 in
theorem f_J3_checkIndex_n {V : am_V} {d : Nat} {S : fm} {j n : Nat} (hj : j < n) (hn : n < 2 ^ 31) : AF V MJ3_checkIndex_8e157 d [.int (nI j), .int (nI n), .null] S (some (.int (nI j))) S := by
  refine AM.of (L := [some (.int (nI j)), some (.int (nI n)), some (.null)]) (by decide +kernel) (Nat.le_of_ble_eq_true rfl) rfl ?_
  refine aw_iload_n (i := 0) dJ3_checkIndex_8e157_0 rfl rfl ?_
  refine aw_if_lt (tgt := 9) dJ3_checkIndex_8e157_1 (by decide) (fun c1 => ?_) (fun c1 => ?_)
  · exact absurd c1 (nI_pos (by omega))
  · refine aw_iload_n (i := 0) dJ3_checkIndex_8e157_4 rfl rfl ?_
    refine aw_iload_n (i := 1) dJ3_checkIndex_8e157_5 rfl rfl ?_
    refine aw_icmp_lt (tgt := 16) dJ3_checkIndex_8e157_6 (by decide) (fun c6 => ?_) (fun c6 => ?_)
    · refine aw_iload_n (i := 0) dJ3_checkIndex_8e157_16 rfl rfl ?_
      refine aw_ireturn (ty := .int) dJ3_checkIndex_8e157_17 rfl rfl ?_
      exact ⟨rfl, rfl⟩
    · exact absurd (nI_lt hj hn) c6
set_option maxRecDepth 100000 in
set_option maxHeartbeats 1000000 in
theorem f_J3_checkIndex_r {V : am_V} {d : Nat} {S : fm} {j n : Nat} (hj : j < n) (hn : n < 2 ^ 31) : AF V MJ3_checkIndex_8e157 d [.int (nI j), .int (nI n), .ref (1000000 + 200)] S (some (.int (nI j))) S := by
  refine AM.of (L := [some (.int (nI j)), some (.int (nI n)), some (.ref (1000000 + 200))]) (by decide +kernel) (Nat.le_of_ble_eq_true rfl) rfl ?_
  refine aw_iload_n (i := 0) dJ3_checkIndex_8e157_0 rfl rfl ?_
  refine aw_if_lt (tgt := 9) dJ3_checkIndex_8e157_1 (by decide) (fun c1 => ?_) (fun c1 => ?_)
  · exact absurd c1 (nI_pos (by omega))
  · refine aw_iload_n (i := 0) dJ3_checkIndex_8e157_4 rfl rfl ?_
    refine aw_iload_n (i := 1) dJ3_checkIndex_8e157_5 rfl rfl ?_
    refine aw_icmp_lt (tgt := 16) dJ3_checkIndex_8e157_6 (by decide) (fun c6 => ?_) (fun c6 => ?_)
    · refine aw_iload_n (i := 0) dJ3_checkIndex_8e157_16 rfl rfl ?_
      refine aw_ireturn (ty := .int) dJ3_checkIndex_8e157_17 rfl rfl ?_
      exact ⟨rfl, rfl⟩
    · exact absurd (nI_lt hj hn) c6
set_option maxRecDepth 100000 in
set_option maxHeartbeats 1000000 in
theorem f_J0_checkIndex_df160 {V : am_V} {d : Nat} {S : fm} {j n : Nat} (hj : j < n) (hn : n < 2 ^ 31) : AF V MJ0_checkIndex_df160 (d + 1) [.int (nI j), .int (nI n)] S none S := by
  refine AM.of (L := [some (.int (nI j)), some (.int (nI n))]) (by decide +kernel) (Nat.le_of_ble_eq_true rfl) rfl ?_
  refine aw_iload_n (i := 0) dJ0_checkIndex_df160_0 rfl rfl ?_
  refine aw_iload_n (i := 1) dJ0_checkIndex_df160_1 rfl rfl ?_
  refine aw_formatter dJ0_checkIndex_df160_2 lfJ0_1053 ?_ ?_
  · refine ax_callS3i (M' := MJ3_checkIndex_8e157) dJ0_checkIndex_df160_5 lmJ0_1059 oJ3_checkIndex_8e157 (by decide +kernel) (Nat.le_of_ble_eq_true rfl) (f_J3_checkIndex_n hj hn) ?_
    refine aw_pop dJ0_checkIndex_df160_8 rfl ?_
    refine aw_return dJ0_checkIndex_df160_9 rfl ?_
    exact ⟨rfl, rfl⟩
  · refine ax_callS3i (M' := MJ3_checkIndex_8e157) dJ0_checkIndex_df160_5 lmJ0_1059 oJ3_checkIndex_8e157 (by decide +kernel) (Nat.le_of_ble_eq_true rfl) (f_J3_checkIndex_r hj hn) ?_
    refine aw_pop dJ0_checkIndex_df160_8 rfl ?_
    refine aw_return dJ0_checkIndex_df160_9 rfl ?_
    exact ⟨rfl, rfl⟩
theorem tx_len {i : Nat} (hi : i < 6) : am_txL.getD i 0 ≤ 5 := by
  rcases (show i = 0 ∨ i = 1 ∨ i = 2 ∨ i = 3 ∨ i = 4 ∨ i = 5 by omega) with rfl | rfl | rfl | rfl | rfl | rfl <;> decide
theorem tx_b : ∀ i, i < 6 → ∀ j, j < 5 → ((((am_txB.getD i []).getD j 0) &&& 255).toUInt32 % 65536).toInt32 = (am_txB.getD i []).getD j 0 := by decide +kernel
theorem tx_n : ∀ i, i < 6 → ∀ j, j < 5 → narrow .char (.int ((am_txB.getD i []).getD j 0)) = .int ((am_txB.getD i []).getD j 0) := by decide +kernel
set_option maxRecDepth 100000 in
set_option maxHeartbeats 1000000 in
theorem f_J1_charAt_3b067 {V : am_V} {d : Nat} {S : fm} {i j : Nat} (hi : i < 6) (hj : j < am_txL.getD i 0) : AF V MJ1_charAt_3b067 (d + 2) [.ref (1000100 + i), .int (nI j)] S (some (.int ((am_txB.getD i []).getD j 0))) S := by
  have hl := tx_len hi
  refine AM.of (L := [some (.ref (1000100 + i)), some (.int (nI j))]) (by decide +kernel) (Nat.le_of_ble_eq_true rfl) rfl ?_
  refine aw_iload_n (i := 1) dJ1_charAt_3b067_0 rfl rfl ?_
  refine aw_aload_n (i := 0) dJ1_charAt_3b067_1 rfl rfl ?_
  refine aw_strL hi dJ1_charAt_3b067_2 ?_
  refine ax_callS2v (M' := MJ0_checkIndex_df160) dJ1_charAt_3b067_3 lmJ1_9 oJ0_checkIndex_df160 (by decide +kernel) (Nat.le_of_ble_eq_true rfl) (f_J0_checkIndex_df160 hj (by omega)) ?_
  refine aw_aload_n (i := 0) dJ1_charAt_3b067_6 rfl rfl ?_
  refine aw_iload_n (i := 1) dJ1_charAt_3b067_7 rfl rfl ?_
  refine aw_strB hi hj dJ1_charAt_3b067_8 ?_
  refine aw_sipush (v := 255) dJ1_charAt_3b067_9 (by decide) ?_
  refine aw_iand dJ1_charAt_3b067_12 ?_
  refine aw_i2c dJ1_charAt_3b067_13 ?_
  refine aw_tE ((am_txB.getD i []).getD j 0) (tx_b i hi j (by omega)) ?_
  refine aw_ireturn (ty := .char) dJ1_charAt_3b067_14 rfl (tx_n i hi j (by omega)) ?_
  exact ⟨rfl, rfl⟩
set_option maxRecDepth 100000 in
set_option maxHeartbeats 1000000 in
theorem f_J0_charAt_5068e {V : am_V} {d : Nat} {S : fm} {i j : Nat} (hi : i < 6) (hj : j < am_txL.getD i 0) : AF V MJ0_charAt_5068e (d + 3) [.ref (1000000 + i), .int (nI j)] S (some (.int ((am_txB.getD i []).getD j 0))) S := by
  have hl := tx_len hi
  refine AM.of (L := [some (.ref (1000000 + i)), some (.int (nI j))]) (by decide +kernel) (Nat.le_of_ble_eq_true rfl) rfl ?_
  refine aw_aload_n (i := 0) dJ0_charAt_5068e_0 rfl rfl ?_
  refine ax_callVS (M' := MJ0_isLatin1_aae02) (as := []) hi dJ0_charAt_5068e_1 lmJ0_492 oJ0_isLatin1_aae02 (by decide +kernel) rfl rfl (Nat.le_of_ble_eq_true rfl) (f_J0_isLatin1_aae02 hi) ?_
  refine aw_if_eq (tgt := 16) dJ0_charAt_5068e_4 (by decide) (fun c4 => ?_) (fun c4 => ?_)
  · exact absurd c4 (by decide)
  · refine aw_aload_n (i := 0) dJ0_charAt_5068e_7 rfl rfl ?_
    refine aw_strV hi dJ0_charAt_5068e_8 lfJ0_9 ?_
    refine aw_iload_n (i := 1) dJ0_charAt_5068e_11 rfl rfl ?_
    refine ax_callS2i (M' := MJ1_charAt_3b067) dJ0_charAt_5068e_12 lmJ0_495 oJ1_charAt_3b067 (by decide +kernel) (Nat.le_of_ble_eq_true rfl) (f_J1_charAt_3b067 hi hj) ?_
    refine aw_ireturn (ty := .char) dJ0_charAt_5068e_15 rfl (tx_n i hi j (by omega)) ?_
    exact ⟨rfl, rfl⟩
set_option maxRecDepth 100000 in
set_option maxHeartbeats 1000000 in
theorem f_X3_lineName {V : am_V} {d : Nat} {S : fm} {i : Nat} (hi : i < 6) : AF V MX3_lineName d [.int (nI i)] S (some (.ref (1000000 + i))) S := by
  refine AM.of (L := [some (.int (nI i))]) (by decide +kernel) (Nat.le_of_ble_eq_true rfl) rfl ?_
  refine aw_iload_n (i := 0) dX3_lineName_0 rfl rfl ?_
  refine aw_tab5 (t0 := 36) (t1 := 39) (t2 := 42) (t3 := 45) (t4 := 48) (td := 51) dX3_lineName_1 (by decide) (by decide) (by decide) (by decide) (by decide) (by decide) (fun c0 => ?_) (fun c0 c1 => ?_) (fun c0 c1 c2 => ?_) (fun c0 c1 c2 c3 => ?_) (fun c0 c1 c2 c3 c4 => ?_) (fun c0 c1 c2 c3 c4 => ?_)
  · have e : i = 0 := (nI_eq (b := 0) (by omega) (by omega)).mp c0
    subst e
    refine aw_ldcS (i := 0) (by decide) rfl rfl dX3_lineName_36 ?_
    refine aw_areturn dX3_lineName_38 rfl ?_
    exact ⟨rfl, rfl⟩
  · have e : i = 1 := (nI_eq (b := 1) (by omega) (by omega)).mp c1
    subst e
    refine aw_ldcS (i := 1) (by decide) rfl rfl dX3_lineName_39 ?_
    refine aw_areturn dX3_lineName_41 rfl ?_
    exact ⟨rfl, rfl⟩
  · have e : i = 2 := (nI_eq (b := 2) (by omega) (by omega)).mp c2
    subst e
    refine aw_ldcS (i := 2) (by decide) rfl rfl dX3_lineName_42 ?_
    refine aw_areturn dX3_lineName_44 rfl ?_
    exact ⟨rfl, rfl⟩
  · have e : i = 3 := (nI_eq (b := 3) (by omega) (by omega)).mp c3
    subst e
    refine aw_ldcS (i := 3) (by decide) rfl rfl dX3_lineName_45 ?_
    refine aw_areturn dX3_lineName_47 rfl ?_
    exact ⟨rfl, rfl⟩
  · have e : i = 4 := (nI_eq (b := 4) (by omega) (by omega)).mp c4
    subst e
    refine aw_ldcS (i := 4) (by decide) rfl rfl dX3_lineName_48 ?_
    refine aw_areturn dX3_lineName_50 rfl ?_
    exact ⟨rfl, rfl⟩
  · have e : i = 5 := by
      rcases (show i = 0 ∨ i = 1 ∨ i = 2 ∨ i = 3 ∨ i = 4 ∨ i = 5 by omega) with rfl | rfl | rfl | rfl | rfl | rfl
      · exact absurd rfl c0
      · exact absurd rfl c1
      · exact absurd rfl c2
      · exact absurd rfl c3
      · exact absurd rfl c4
      · rfl
    subst e
    refine aw_ldcS (i := 5) (by decide) rfl rfl dX3_lineName_51 ?_
    refine aw_areturn dX3_lineName_53 rfl ?_
    exact ⟨rfl, rfl⟩
