theorem law_loop {V : am_V} {b Ln kc ks : Nat} {xs : Nat → Int32} (hLn : Ln ≤ 2560) : ∀ (m i : Nat) (S : fm), i ≤ Ln → Ln - i < m → INV S.1 → AL V b Ln xs kc ks 18 (LL i) [] (hp S) := by
  intro m
  induction m with
  | zero => intro i S h1 h2; omega
  | succ m ih =>
    intro i S h1 h2 hI
    obtain ⟨f, τ⟩ := S
    refine al_iload (i := 3) (x := nI i) dL_18 rfl rfl ?_
    refine al_aload (i := 0) (x := 1000300) dL_19 rfl rfl ?_
    refine al_slen dL_20 ?_
    refine al_iconst (v := nI 5) dL_21 (by decide) ?_
    refine al_isub dL_22 ?_
    refine al_icmp_gt (tgt := 1412) dL_23 (by decide) (fun _ => ?_) (fun hc => ?_)
    · refine al_iconst (v := 1) dL_1412 (by decide) ?_
      exact al_ret dL_1413
    have hi : i + 5 ≤ Ln := by
      refine Classical.byContradiction fun y => hc ?_
      rw [Int32.lt_iff_toInt_lt, pk_sub_toInt (by omega) (by omega), nI_toInt (by omega)]
      omega
    refine al_aload (i := 0) (x := 1000300) dL_26 rfl rfl ?_
    refine al_iload (i := 3) (x := nI i) dL_27 rfl rfl ?_
    refine al_sld (by omega) (by omega) dL_28 ?_
    refine al_bipush (v := 63) dL_29 (by decide) ?_
    refine al_iand dL_31 ?_
    have next : ∀ S : fm, INV S.1 → AL V b Ln xs kc ks 1406 (LL i) [] (hp S) := fun S hS => by
      refine al_iinc (v := nI (i + 5)) (L' := LL (i + 5)) dL_1406 rfl ?_ (by omega) rfl rfl ?_
      · show nI i + nI 5 = nI (i + 5)
        exact nI_add i 5
      · refine al_goto (tgt := 18) dL_1409 (by decide) ?_
        exact ih (i + 5) S hi (by omega) hS
    obtain ⟨q, hq, e⟩ := pk_andE (xs i) (m := 63) 6 rfl
    rw [e]
    match q, hq with
    | 0, _ => exact al_tableIn (off := 168) (tgt := 200) dL_32 (by decide) (by decide) (by decide) (by decide) (c_feed hLn hi hI next)
    | 1, _ => exact al_tableIn (off := 191) (tgt := 223) dL_32 (by decide) (by decide) (by decide) (by decide) (c_end hLn hi hI next)
    | 2, _ => exact al_tableIn (off := 214) (tgt := 246) dL_32 (by decide) (by decide) (by decide) (by decide) (c_text hLn hi hI next)
    | 3, _ => exact al_tableIn (off := 227) (tgt := 259) dL_32 (by decide) (by decide) (by decide) (by decide) (c_fault hLn hi hI next)
    | 4, _ => exact al_tableIn (off := 240) (tgt := 272) dL_32 (by decide) (by decide) (by decide) (by decide) (c_rule hLn hi hI next)
    | 5, _ => exact al_tableIn (off := 263) (tgt := 295) dL_32 (by decide) (by decide) (by decide) (by decide) (c_key hLn hi hI next)
    | 6, _ => exact al_tableIn (off := 296) (tgt := 328) dL_32 (by decide) (by decide) (by decide) (by decide) (c_press hLn hi hI next)
    | 7, _ => exact al_tableIn (off := 329) (tgt := 361) dL_32 (by decide) (by decide) (by decide) (by decide) (c_contact hLn hi hI next)
    | 8, _ => exact al_tableIn (off := 362) (tgt := 394) dL_32 (by decide) (by decide) (by decide) (by decide) (c_alter hLn hi hI next)
    | 9, _ => exact al_tableIn (off := 405) (tgt := 437) dL_32 (by decide) (by decide) (by decide) (by decide) (c_every hLn hi hI next)
    | 10, _ => exact al_tableIn (off := 428) (tgt := 460) dL_32 (by decide) (by decide) (by decide) (by decide) (c_strike hLn hi hI next)
    | 11, _ => exact al_tableIn (off := 471) (tgt := 503) dL_32 (by decide) (by decide) (by decide) (by decide) (c_drop hLn hi hI next)
    | 12, _ => exact al_tableIn (off := 494) (tgt := 526) dL_32 (by decide) (by decide) (by decide) (by decide) (c_ticks hLn hi hI next)
    | 13, _ => exact al_tableIn (off := 517) (tgt := 549) dL_32 (by decide) (by decide) (by decide) (by decide) (c_runs hLn hi hI next)
    | 14, _ => exact al_tableIn (off := 550) (tgt := 582) dL_32 (by decide) (by decide) (by decide) (by decide) (c_ahead hLn hi hI next)
    | 15, _ => exact al_tableIn (off := 593) (tgt := 625) dL_32 (by decide) (by decide) (by decide) (by decide) (c_when hLn hi hI next)
    | 16, _ => exact al_tableIn (off := 626) (tgt := 658) dL_32 (by decide) (by decide) (by decide) (by decide) (c_due hLn hi hI next)
    | 17, _ => exact al_tableIn (off := 649) (tgt := 681) dL_32 (by decide) (by decide) (by decide) (by decide) (c_need hLn hi hI next)
    | 18, _ => exact al_tableIn (off := 692) (tgt := 724) dL_32 (by decide) (by decide) (by decide) (by decide) (c_bear hLn hi hI next)
    | 19, _ => exact al_tableIn (off := 735) (tgt := 767) dL_32 (by decide) (by decide) (by decide) (by decide) (c_kind hLn hi hI next)
    | 20, _ => exact al_tableIn (off := 778) (tgt := 810) dL_32 (by decide) (by decide) (by decide) (by decide) (c_slow hLn hi hI next)
    | 21, _ => exact al_tableIn (off := 811) (tgt := 843) dL_32 (by decide) (by decide) (by decide) (by decide) (c_lose hLn hi hI next)
    | 22, _ => exact al_tableIn (off := 844) (tgt := 876) dL_32 (by decide) (by decide) (by decide) (by decide) (c_luck hLn hi hI next)
    | 23, _ => exact al_tableIn (off := 898) (tgt := 930) dL_32 (by decide) (by decide) (by decide) (by decide) (c_mean hLn hi hI next)
    | 24, _ => exact al_tableIn (off := 942) (tgt := 974) dL_32 (by decide) (by decide) (by decide) (by decide) (c_see hLn hi hI next)
    | 25, _ => exact al_tableIn (off := 985) (tgt := 1017) dL_32 (by decide) (by decide) (by decide) (by decide) (c_forget hLn hi hI next)
    | 26, _ => exact al_tableIn (off := 1008) (tgt := 1040) dL_32 (by decide) (by decide) (by decide) (by decide) (c_kinds hLn hi hI next)
    | 27, _ => exact al_tableIn (off := 1031) (tgt := 1063) dL_32 (by decide) (by decide) (by decide) (by decide) (c_numbers hLn hi hI next)
    | 28, _ => exact al_tableIn (off := 1054) (tgt := 1086) dL_32 (by decide) (by decide) (by decide) (by decide) (c_bounces hLn hi hI next)
    | 29, _ => exact al_tableIn (off := 1077) (tgt := 1109) dL_32 (by decide) (by decide) (by decide) (by decide) (c_ask hLn hi hI next)
    | 30, _ => exact al_tableIn (off := 1110) (tgt := 1142) dL_32 (by decide) (by decide) (by decide) (by decide) (c_drift hLn hi hI next)
    | 31, _ => exact al_tableIn (off := 1153) (tgt := 1185) dL_32 (by decide) (by decide) (by decide) (by decide) (c_keep hLn hi hI next)
    | 32, _ => exact al_tableIn (off := 1176) (tgt := 1208) dL_32 (by decide) (by decide) (by decide) (by decide) (c_back hLn hi hI next)
    | 33, _ => exact al_tableIn (off := 1199) (tgt := 1231) dL_32 (by decide) (by decide) (by decide) (by decide) (c_sheet hLn hi hI next)
    | 34, _ => exact al_tableIn (off := 1242) (tgt := 1274) dL_32 (by decide) (by decide) (by decide) (by decide) (c_lay hLn hi hI next)
    | 35, _ => exact al_tableIn (off := 1285) (tgt := 1317) dL_32 (by decide) (by decide) (by decide) (by decide) (c_read hLn hi hI next)
    | 36, _ => exact al_tableIn (off := 1338) (tgt := 1370) dL_32 (by decide) (by decide) (by decide) (by decide) (c_torn hLn hi hI next)
    | 37, _ => exact al_tableIn (off := 1351) (tgt := 1383) dL_32 (by decide) (by decide) (by decide) (by decide) (c_count hLn hi hI next)
    | q + 38, hq =>
      refine al_tableOut (tgt := 1406) dL_32 (Or.inr ?_) (by decide) (next _ hI)
      rw [nI_toInt (by omega)]
      omega
