/-! THE LAW, walked: behind its loop, and its beginning -/
theorem mx_ask_1 {s : ZSt} {c : Nat} {la x sz lo : Int32} : op_ask s c la x sz lo 1 = nI (c + 1) := by
  unfold op_ask
  rw [u_ne _ _ (by omega), u_ne _ _ (by omega), u_ne _ _ (by omega), u_ne _ _ (by omega), u_ne _ _ (by omega), u_ne _ _ (by omega), u_ne _ _ (by omega), u_ne _ _ (by omega), u_eq, nI_1]
section ZLEND
variable {G : ZG} {l : Launch} {w : Nat → ZL → List Value → Nat → ZE → ZI → Prop} {z : Nat}
set_option maxHeartbeats 2000000 in
theorem lo_sin (S : zLS G l w) (hL : zz_sL G ≤ 260) {v : Int32} {s : ZSt} {n nw nc : Nat} {h : Nat → ZSt}
    (K : ∀ (im' : ZI) (x : Int32), zY im' s n h nw nc → w 324 [some (.ref 1050), some (.ref 0), some (.int v), some (.int x), none, none, none, none, none, none] [] z zE im') :
    ∀ (m k : Nat) (x : Int32) (im : ZI), k + m = 4 → x = nI k → zY im s n h nw nc → w 247 [some (.ref 1050), some (.ref 0), some (.int v), some (.int x), none, none, none, none, none, none] [] z zE im := by
  intro m
  induction m with
  | zero =>
    intro k x im hk hx hY
    refine zz_iload_3 S dL_law_247 (q := 248) rfl ?_
    refine zz_iconst S (v := 4) rfl dL_law_248 (q := 249) rfl ?_
    refine zz_icmp_ge S dL_law_249 (t := 324) (by decide) (q := 252) rfl (fun a1 => ?_) (fun a1 => ?_)
    -- then 324 else 252
    · exact K im x hY
    · exact absurd (by rw [hx, show k = 4 by omega]; decide) a1
  | succ m ih =>
    intro k x im hk hx hY
    refine zz_iload_3 S dL_law_247 (q := 248) rfl ?_
    refine zz_iconst S (v := 4) rfl dL_law_248 (q := 249) rfl ?_
    refine zz_icmp_ge S dL_law_249 (t := 324) (by decide) (q := 252) rfl (fun a1 => ?_) (fun a1 => ?_)
    -- then 324 else 252
    · exact absurd ((zn_ge (a := k) (b := 4) (by omega) (by omega)).mp (by rw [← hx]; exact a1)) (by omega)
    · refine zz_aload_0 S dL_law_252 (q := 253) rfl ?_
      refine zz_bipush S (v := 18) rfl dL_law_253 (q := 255) rfl ?_
      refine zz_iload_3 S dL_law_255 (q := 256) rfl ?_
      refine zz_iadd S dL_law_256 (q := 257) rfl ?_
      -- at 257: invokestatic 81
      refine zz_statI S yy_L_cell lL_81 (ll_cell (18 + x) (18 + k) (by rw [hx]; exact nI_add 18 k) (by omega) hL) rfl (Nat.le_of_ble_eq_true rfl) (Nat.le_of_ble_eq_true rfl) rfl dL_law_257 (q := 260) rfl ?_
      rintro a im1 rfl
      refine zz_sipush S (v := 721) rfl dL_law_260 (q := 263) rfl ?_
      -- at 263: invokestatic 28
      refine zz_statP S yy_L_low lL_28 (ll_low a 721 (by decide) zE im1) rfl (Nat.le_of_ble_eq_true rfl) (Nat.le_of_ble_eq_true rfl) rfl dL_law_263 (q := 266) rfl ?_
      obtain ⟨i, hi, ei⟩ := lw_in a (d := 721) (by omega) (by omega)
      rw [show lw a 721 = nI i from ei]
      clear ei
      obtain ⟨z1, z2, z3⟩ := zd_sine_all i hi
      refine zz_istore_4 S rfl dL_law_266 (q := 268) rfl ?_
      refine zz_aload_1 S dL_law_268 (q := 269) rfl ?_
      refine zz_iload_4 S dL_law_269 (q := 271) rfl ?_
      -- at 271: invokevirtual 107
      refine zz_virtI S yy_X7_sine lL_107 (ci := 7) (by decide) rfl (lk_sine (nI i) hY) rfl (Nat.le_of_ble_eq_true rfl) (Nat.le_of_ble_eq_true rfl) rfl (Nat.le_of_ble_eq_true rfl) rfl dL_law_271 (q := 274) rfl ?_
      rintro r1 im2 ⟨e1, hY2⟩
      refine zz_aload_1 S dL_law_274 (q := 275) rfl ?_
      refine zz_iload_4 S dL_law_275 (q := 277) rfl ?_
      refine zz_ineg S dL_law_277 (q := 278) rfl ?_
      -- at 278: invokevirtual 107
      refine zz_virtI S yy_X7_sine lL_107 (ci := 7) (by decide) rfl (lk_sine (-nI i) hY2) rfl (Nat.le_of_ble_eq_true rfl) (Nat.le_of_ble_eq_true rfl) rfl (Nat.le_of_ble_eq_true rfl) rfl dL_law_278 (q := 281) rfl ?_
      rintro r2 im3 ⟨e2, hY3⟩
      rw [← e1, ← e2] at z1
      refine zz_ineg S dL_law_281 (q := 282) rfl ?_
      refine zz_icmp_ne S dL_law_282 (t := 316) (by decide) (q := 285) rfl (fun b1 => ?_) (fun b1 => ?_)
      -- then 316 else 285
      · exact absurd z1 b1
      · refine zz_aload_1 S dL_law_285 (q := 286) rfl ?_
        refine zz_iload_4 S dL_law_286 (q := 288) rfl ?_
        -- at 288: invokevirtual 107
        refine zz_virtI S yy_X7_sine lL_107 (ci := 7) (by decide) rfl (lk_sine (nI i) hY3) rfl (Nat.le_of_ble_eq_true rfl) (Nat.le_of_ble_eq_true rfl) rfl (Nat.le_of_ble_eq_true rfl) rfl dL_law_288 (q := 291) rfl ?_
        rintro r3 im4 ⟨e3, hY4⟩
        refine zz_aload_1 S dL_law_291 (q := 292) rfl ?_
        refine zz_sipush S (v := 720) rfl dL_law_292 (q := 295) rfl ?_
        refine zz_iload_4 S dL_law_295 (q := 297) rfl ?_
        refine zz_isub S dL_law_297 (q := 298) rfl ?_
        -- at 298: invokevirtual 107
        refine zz_virtI S yy_X7_sine lL_107 (ci := 7) (by decide) rfl (lk_sine (720 - nI i) hY4) rfl (Nat.le_of_ble_eq_true rfl) (Nat.le_of_ble_eq_true rfl) rfl (Nat.le_of_ble_eq_true rfl) rfl dL_law_298 (q := 301) rfl ?_
        rintro r4 im5 ⟨e4, hY5⟩
        rw [← e4] at z2
        refine zz_icmp_ne S dL_law_301 (t := 316) (by decide) (q := 304) rfl (fun b2 => ?_) (fun b2 => ?_)
        -- then 316 else 304
        · exact absurd (e3.trans z2) b2
        · refine zz_aload_1 S dL_law_304 (q := 305) rfl ?_
          refine zz_iload_4 S dL_law_305 (q := 307) rfl ?_
          -- at 307: invokevirtual 107
          refine zz_virtI S yy_X7_sine lL_107 (ci := 7) (by decide) rfl (lk_sine (nI i) hY5) rfl (Nat.le_of_ble_eq_true rfl) (Nat.le_of_ble_eq_true rfl) rfl (Nat.le_of_ble_eq_true rfl) rfl dL_law_307 (q := 310) rfl ?_
          rintro r5 im6 ⟨e5, hY6⟩
          rw [← e5] at z3
          refine zz_sipush S (v := 10000) rfl dL_law_310 (q := 313) rfl ?_
          refine zz_icmp_le S dL_law_313 (t := 318) (by decide) (q := 316) rfl (fun b3 => ?_) (fun b3 => ?_)
          -- then 318 else 316
          · refine zz_iinc_3 S rfl dL_law_318 (q := 321) rfl ?_
            refine zz_goto S dL_law_321 (t := 247) (by decide) ?_
            -- at 247
            refine zz_msk S [true, true, true, true, false, false, false, false, false, false] ?_
            exact ih (k + 1) _ im6 (by omega) (by rw [hx]; exact nI_add k 1) hY6
          · exact absurd z3 b3
set_option maxHeartbeats 2000000 in
theorem lo_545 (S : zLS G l w) {v c M x : Int32} {d : Int64} {s : ZSt} {n nw nc N : Nat} {h : Nat → ZSt} {im : ZI} (hY : zY im s n h nw nc) (hJ : sJ s nc N) (hN : N < 1000) : w 545 [some (.ref 1050), some (.ref 0), some (.int v), some (.int c), some (.long d), none, some (.int M), some (.int x), none, none] [] z zE im := by
  refine zz_aload_1 S dL_law_545 (q := 546) rfl ?_
  -- at 546: invokestatic 103
  refine zz_statI S yy_L_addsUp lL_103 (ll_addsUp hY hJ hN) rfl (Nat.le_of_ble_eq_true rfl) (Nat.le_of_ble_eq_true rfl) rfl dL_law_546 (q := 549) rfl ?_
  rintro r1 im1 ⟨e1, hY1⟩
  subst e1
  refine zz_if_eq S dL_law_549 (t := 556) (by decide) (q := 552) rfl (fun b1 => ?_) (fun b1 => ?_)
  -- then 556 else 552
  · exact absurd b1 (by decide)
  · refine zz_iconst S (v := 1) rfl dL_law_552 (q := 553) rfl ?_
    refine zz_goto S dL_law_553 (t := 557) (by decide) ?_
    -- at 557: ireturn 
    exact zz_zret S rfl dL_law_557 rfl
set_option maxHeartbeats 2000000 in
theorem lo_ml (S : zLS G l w) {v c : Int32} {d : Int64} {T nc : Nat} (hT : T ≤ 11) :
    ∀ (m k : Nat) (x : Int32) (im : ZI) (s : ZSt) (n : Nat) (h : Nat → ZSt) (nw : Nat), k + m = T → x = nI k → zY im s n h nw nc → mI s nc k T → sJ s nc (100 + k) → w 497 [some (.ref 1050), some (.ref 0), some (.int v), some (.int c), some (.long d), none, some (.int (nI T)), some (.int x), none, none] [] z zE im := by
  intro m
  induction m with
  | zero =>
    intro k x im s n h nw hk hx hY hM hJ
    have hk : k = T := by omega
    subst hk
    have hn := hY.2.1.2.2.2.1
    refine zz_iload_7 S dL_law_497 (q := 499) rfl ?_
    refine zz_iload_6 S dL_law_499 (q := 501) rfl ?_
    refine zz_icmp_ge S dL_law_501 (t := 519) (by decide) (q := 504) rfl (fun a1 => ?_) (fun a1 => ?_)
    -- then 519 else 504
    · have hne : nI k ≠ -100009 := fun e => by
        have e2 := congrArg Int32.toInt e
        rw [nI_toInt (by omega), show ((-100009 : Int32)).toInt = -100009 from rfl] at e2
        omega
      refine zz_iload_6 S dL_law_519 (q := 521) rfl ?_
      refine zz_ldc S (v := (-100009)) kL_67 dL_law_521 (q := 523) rfl ?_
      refine zz_icmp_ne S dL_law_523 (t := 537) (by decide) (q := 526) rfl (fun b1 => ?_) (fun b1 => ?_)
      -- then 537 else 526
      · refine zz_aload_1 S dL_law_537 (q := 538) rfl ?_
        refine zz_iconst S (v := 4) rfl dL_law_538 (q := 539) rfl ?_
        -- at 539: invokevirtual 12
        refine zz_virtI S yy_X7_count lL_12 (ci := 7) (by decide) rfl (lk_count 4 hY) rfl (Nat.le_of_ble_eq_true rfl) (Nat.le_of_ble_eq_true rfl) rfl (Nat.le_of_ble_eq_true rfl) rfl dL_law_539 (q := 542) rfl ?_
        rintro r1 im1 ⟨e1, hY1⟩
        rw [oc_4, mI_end hn hM] at e1
        subst e1
        refine zz_if_ne S dL_law_542 (t := 556) (by decide) (q := 545) rfl (fun b2 => ?_) (fun b2 => ?_)
        -- then 556 else 545
        · exact absurd rfl b2
        · exact lo_545 S hY1 hJ (by omega)
      · exact absurd b1 hne
    · exact absurd (by rw [hx]; exact Int32.le_refl _) a1
  | succ m ih =>
    intro k x im s n h nw hk hx hY hM hJ
    have hI := hY.2.1
    have hn := hI.2.2.2.1
    obtain ⟨p1, p2⟩ := mI_step hn hM (by omega)
    refine zz_iload_7 S dL_law_497 (q := 499) rfl ?_
    refine zz_iload_6 S dL_law_499 (q := 501) rfl ?_
    refine zz_icmp_ge S dL_law_501 (t := 519) (by decide) (q := 504) rfl (fun a1 => ?_) (fun a1 => ?_)
    -- then 519 else 504
    · exact absurd ((zn_ge (a := k) (b := T) (by omega) (by omega)).mp (by rw [← hx]; exact a1)) (by omega)
    · refine zz_aload_1 S dL_law_504 (q := 505) rfl ?_
      -- at 505: invokevirtual 56
      refine zz_virtI S yy_X7_cast lL_56 (ci := 7) (by decide) rfl (la_cast hY) rfl (Nat.le_of_ble_eq_true rfl) (Nat.le_of_ble_eq_true rfl) rfl (Nat.le_of_ble_eq_true rfl) rfl dL_law_505 (q := 508) rfl ?_
      rintro r1 im1 hq
      have e : ox_cas s n h nc = ((op_ml s nc (op_st s)).1, op_cas s nc, sh_n n, sh_p n h s) := by
        unfold ox_cas
        rw [if_pos]
        unfold op_cCas
        rw [if_neg (fun q => by rw [q] at p1; exact absurd p1 (by decide))]
        decide
      rw [e] at hq
      obtain ⟨e1, hX1⟩ := hq
      have e1 : r1 = (op_ml s nc (op_st s)).1 := e1
      subst e1
      obtain ⟨nw2, nc2, hY1⟩ := zY_of hX1
      have en : nc2 = nc := nI_same (hY1.2.1.2.2.1.symm.trans ((op_cas_1 s nc).trans hI.2.2.1)) (by have := hY1.2.1.2.2.2.1; omega) (by omega)
      subst en
      refine zz_if_gt S dL_law_508 (t := 513) (by decide) (q := 511) rfl (fun b1 => ?_) (fun b1 => ?_)
      -- then 513 else 511
      · refine zz_iinc_7 S rfl dL_law_513 (q := 516) rfl ?_
        refine zz_goto S dL_law_516 (t := 497) (by decide) ?_
        -- at 497
        exact ih (k + 1) _ im1 _ _ _ nw2 (by omega) (by rw [hx]; exact nI_add k 1) hY1 p2 (sJ_cas hJ hn)
      · exact absurd p1 b1
set_option maxHeartbeats 4000000 in
theorem lo_end (S : zLS G l w) (hL : zz_sL G ≤ 260) {v : Int32} (im : ZI) (s : ZSt) (n : Nat) (h : Nat → ZSt) (nw nc : Nat) (x : Int32) (hY : zY im s n h nw nc) (h1 : 1 ≤ nc) (hJ : sJ s nc 100) : w 245 [some (.ref 1050), some (.ref 0), some (.int v), some (.int x), none, none, none, none, none, none] [] z zE im := by
  have hI := hY.2.1
  have hn := hI.2.2.2.1
  refine zz_iconst S (v := 0) rfl dL_law_245 (q := 246) rfl ?_
  refine zz_istore_3 S rfl dL_law_246 (q := 247) rfl ?_
  -- at 247
  refine lo_sin S hL (fun im1 x1 hY1 => ?_) 4 0 _ im (by omega) rfl hY
  refine zz_aload_1 S dL_law_324 (q := 325) rfl ?_
  refine zz_sipush S (v := 360) rfl dL_law_325 (q := 328) rfl ?_
  -- at 328: invokevirtual 107
  refine zz_virtI S yy_X7_sine lL_107 (ci := 7) (by decide) rfl (lk_sine 360 hY1) rfl (Nat.le_of_ble_eq_true rfl) (Nat.le_of_ble_eq_true rfl) rfl (Nat.le_of_ble_eq_true rfl) rfl dL_law_328 (q := 331) rfl ?_
  rintro r2 im2 ⟨e2, hY2⟩
  rw [zd_sine_2.1] at e2
  subst e2
  refine zz_sipush S (v := 10000) rfl dL_law_331 (q := 334) rfl ?_
  refine zz_icmp_ne S dL_law_334 (t := 345) (by decide) (q := 337) rfl (fun b1 => ?_) (fun b1 => ?_)
  -- then 345 else 337
  · exact absurd rfl b1
  refine zz_aload_1 S dL_law_337 (q := 338) rfl ?_
  refine zz_iconst S (v := 0) rfl dL_law_338 (q := 339) rfl ?_
  -- at 339: invokevirtual 107
  refine zz_virtI S yy_X7_sine lL_107 (ci := 7) (by decide) rfl (lk_sine 0 hY2) rfl (Nat.le_of_ble_eq_true rfl) (Nat.le_of_ble_eq_true rfl) rfl (Nat.le_of_ble_eq_true rfl) rfl dL_law_339 (q := 342) rfl ?_
  rintro r3 im3 ⟨e3, hY3⟩
  rw [zd_sine_2.2] at e3
  subst e3
  have T347 : w 347 [some (.ref 1050), some (.ref 0), some (.int v), some (.int x1), none, none, none, none, none, none] [] z zE im3 := by
    refine zz_iload_2 S dL_law_347 (q := 348) rfl ?_
    refine zz_iconst S (v := 5) rfl dL_law_348 (q := 349) rfl ?_
    refine zz_ishr S dL_law_349 (q := 350) rfl ?_
    refine zz_aload_1 S dL_law_350 (q := 351) rfl ?_
    refine zz_iconst S (v := 2) rfl dL_law_351 (q := 352) rfl ?_
    -- at 352: invokevirtual 12
    refine zz_virtI S yy_X7_count lL_12 (ci := 7) (by decide) rfl (lk_count 2 hY3) rfl (Nat.le_of_ble_eq_true rfl) (Nat.le_of_ble_eq_true rfl) rfl (Nat.le_of_ble_eq_true rfl) rfl dL_law_352 (q := 355) rfl ?_
    rintro r4 im4 ⟨e4, hY4⟩
    rw [oc_2, hI.2.2.1] at e4
    subst e4
    refine zz_statP S yy_L_low lL_28 (ll_low (sr v 5) (nI nc) (nI_ne0 (by omega) (by omega)) zE im4) rfl (Nat.le_of_ble_eq_true rfl) (Nat.le_of_ble_eq_true rfl) rfl dL_law_355 (q := 358) rfl ?_
    obtain ⟨c, hc, ec⟩ := lw_in (sr v 5) (d := nc) (by omega) (by omega)
    rw [show lw (sr v 5) (nI nc) = nI c from ec]
    clear ec
    -- refused calls, melts
    have T409 : ∀ im' : ZI, zY im' s n h nw nc → w 409 [some (.ref 1050), some (.ref 0), some (.int v), some (.int (nI c)), none, none, none, none, none, none] [] z zE im' := by
      intro im5 hY5
      refine zz_aload_1 S dL_law_409 (q := 410) rfl ?_
      -- at 410: invokestatic 85
      refine zz_statL S yy_L_digest lL_85 (ll_digest hY5) rfl (Nat.le_of_ble_eq_true rfl) (Nat.le_of_ble_eq_true rfl) rfl dL_law_410 (q := 413) rfl ?_
      rintro d6 im6 ⟨e6, hY6⟩
      subst e6
      refine zz_lstore_4 S rfl dL_law_413 (q := 415) rfl ?_
      refine zz_aload_1 S dL_law_415 (q := 416) rfl ?_
      refine zz_bipush S (v := 71) rfl dL_law_416 (q := 418) rfl ?_
      refine zz_iconst S (v := (-1)) rfl dL_law_418 (q := 419) rfl ?_
      refine zz_bipush S (v := 20) rfl dL_law_419 (q := 421) rfl ?_
      refine zz_iconst S (v := 0) rfl dL_law_421 (q := 422) rfl ?_
      -- at 422: invokevirtual 46
      refine zz_virtI S yy_X7_ask lL_46 (ci := 7) (by decide) rfl (la_ask 71 (-1) 20 0 hY6) rfl (Nat.le_of_ble_eq_true rfl) (Nat.le_of_ble_eq_true rfl) rfl (Nat.le_of_ble_eq_true rfl) rfl dL_law_422 (q := 425) rfl ?_
      rintro r7 im7 hq7
      rw [rf_ask] at hq7
      obtain ⟨e7, hX7⟩ := hq7
      have e7 : r7 = -100001 := e7
      subst e7
      have hY7 := zY_same hX7 hI
      refine zz_ldc S (v := (-100001)) kL_65 dL_law_425 (q := 427) rfl ?_
      refine zz_icmp_ne S dL_law_427 (t := 486) (by decide) (q := 430) rfl (fun b1 => ?_) (fun b1 => ?_)
      -- then 486 else 430
      · exact absurd rfl b1
      refine zz_aload_1 S dL_law_430 (q := 431) rfl ?_
      refine zz_bipush S (v := 6) rfl dL_law_431 (q := 433) rfl ?_
      refine zz_iconst S (v := 0) rfl dL_law_433 (q := 434) rfl ?_
      -- at 434: invokevirtual 43
      refine zz_virtI S yy_X7_measure lL_43 (ci := 7) (by decide) rfl (la_measure 6 0 hY7) rfl (Nat.le_of_ble_eq_true rfl) (Nat.le_of_ble_eq_true rfl) rfl (Nat.le_of_ble_eq_true rfl) rfl dL_law_434 (q := 437) rfl ?_
      rintro r8 im8 hq8
      rw [rf_meas hI] at hq8
      obtain ⟨e8, hX8⟩ := hq8
      have e8 : r8 = -100001 := e8
      subst e8
      have hY8 := zY_same hX8 hI
      refine zz_ldc S (v := (-100001)) kL_65 dL_law_437 (q := 439) rfl ?_
      refine zz_icmp_ne S dL_law_439 (t := 486) (by decide) (q := 442) rfl (fun b2 => ?_) (fun b2 => ?_)
      -- then 486 else 442
      · exact absurd rfl b2
      refine zz_aload_1 S dL_law_442 (q := 443) rfl ?_
      refine zz_bipush S (v := 10) rfl dL_law_443 (q := 445) rfl ?_
      -- at 445: invokevirtual 50
      refine zz_virtI S yy_X7_decide lL_50 (ci := 7) (by decide) rfl (la_decide 10 hY8) rfl (Nat.le_of_ble_eq_true rfl) (Nat.le_of_ble_eq_true rfl) rfl (Nat.le_of_ble_eq_true rfl) rfl dL_law_445 (q := 448) rfl ?_
      rintro r9 im9 hq9
      rw [rf_dec hI] at hq9
      obtain ⟨e9, hX9⟩ := hq9
      have e9 : r9 = -100001 := e9
      subst e9
      have hY9 := zY_same hX9 hI
      refine zz_ldc S (v := (-100001)) kL_65 dL_law_448 (q := 450) rfl ?_
      refine zz_icmp_ne S dL_law_450 (t := 486) (by decide) (q := 453) rfl (fun b3 => ?_) (fun b3 => ?_)
      -- then 486 else 453
      · exact absurd rfl b3
      refine zz_aload_1 S dL_law_453 (q := 454) rfl ?_
      refine zz_bipush S (v := 12) rfl dL_law_454 (q := 456) rfl ?_
      refine zz_iconst S (v := 0) rfl dL_law_456 (q := 457) rfl ?_
      -- at 457: invokevirtual 33
      refine zz_virtI S yy_X7_setCorrection lL_33 (ci := 7) (by decide) rfl (la_setCorrection 12 0 hY9) rfl (Nat.le_of_ble_eq_true rfl) (Nat.le_of_ble_eq_true rfl) rfl (Nat.le_of_ble_eq_true rfl) rfl dL_law_457 (q := 460) rfl ?_
      rintro r10 im10 hq10
      rw [rf_corr] at hq10
      obtain ⟨e10, hX10⟩ := hq10
      have e10 : r10 = -100001 := e10
      subst e10
      have hY10 := zY_same hX10 hI
      refine zz_ldc S (v := (-100001)) kL_65 dL_law_460 (q := 462) rfl ?_
      refine zz_icmp_ne S dL_law_462 (t := 486) (by decide) (q := 465) rfl (fun b4 => ?_) (fun b4 => ?_)
      -- then 486 else 465
      · exact absurd rfl b4
      refine zz_aload_1 S dL_law_465 (q := 466) rfl ?_
      refine zz_bipush S (v := 61) rfl dL_law_466 (q := 468) rfl ?_
      -- at 468: invokevirtual 115
      refine zz_virtI S yy_X7_bestLatitude lL_115 (ci := 7) (by decide) rfl (lk_bestLatitude 61 hY10) rfl (Nat.le_of_ble_eq_true rfl) (Nat.le_of_ble_eq_true rfl) rfl (Nat.le_of_ble_eq_true rfl) rfl dL_law_468 (q := 471) rfl ?_
      rintro r11 im11 ⟨e11, hY11⟩
      rw [rf_best] at e11
      subst e11
      refine zz_ldc S (v := (-100001)) kL_65 dL_law_471 (q := 473) rfl ?_
      refine zz_icmp_ne S dL_law_473 (t := 486) (by decide) (q := 476) rfl (fun b5 => ?_) (fun b5 => ?_)
      -- then 486 else 476
      · exact absurd rfl b5
      refine zz_aload_1 S dL_law_476 (q := 477) rfl ?_
      -- at 477: invokestatic 85
      refine zz_statL S yy_L_digest lL_85 (ll_digest hY11) rfl (Nat.le_of_ble_eq_true rfl) (Nat.le_of_ble_eq_true rfl) rfl dL_law_477 (q := 480) rfl ?_
      rintro d12 im12 ⟨e12, hY12⟩
      subst e12
      refine zz_lload_4 S dL_law_480 (q := 482) rfl ?_
      refine zz_lcmp S dL_law_482 (q := 483) rfl ?_
      -- at 483
      rw [lcmp_eq]
      have T488 : w 488 [some (.ref 1050), some (.ref 0), some (.int v), some (.int (nI c)), some (.long (dg s nw nc)), none, none, none, none, none] [] z zE im12 := by
        refine zz_aload_1 S dL_law_488 (q := 489) rfl ?_
        -- at 489: invokevirtual 118
        refine zz_virtI S yy_X7_melts lL_118 (ci := 7) (by decide) rfl (lk_melts hY12) rfl (Nat.le_of_ble_eq_true rfl) (Nat.le_of_ble_eq_true rfl) rfl (Nat.le_of_ble_eq_true rfl) rfl dL_law_489 (q := 492) rfl ?_
        rintro r13 im13 ⟨e13, hY13⟩
        subst e13
        refine zz_istore_6 S rfl dL_law_492 (q := 494) rfl ?_
        refine zz_iconst S (v := 0) rfl dL_law_494 (q := 495) rfl ?_
        refine zz_istore_7 S rfl dL_law_495 (q := 497) rfl ?_
        -- at 497
        by_cases hM : ol_melts s nc = -100009
        · rw [hM]
          refine zz_iload_7 S dL_law_497 (q := 499) rfl ?_
          refine zz_iload_6 S dL_law_499 (q := 501) rfl ?_
          refine zz_icmp_ge S dL_law_501 (t := 519) (by decide) (q := 504) rfl (fun b6 => ?_) (fun b6 => ?_)
          -- then 519 else 504
          · refine zz_iload_6 S dL_law_519 (q := 521) rfl ?_
            refine zz_ldc S (v := (-100009)) kL_67 dL_law_521 (q := 523) rfl ?_
            refine zz_icmp_ne S dL_law_523 (t := 537) (by decide) (q := 526) rfl (fun b7 => ?_) (fun b7 => ?_)
            -- then 537 else 526
            · exact absurd rfl b7
            · refine zz_aload_1 S dL_law_526 (q := 527) rfl ?_
              refine zz_iconst S (v := 4) rfl dL_law_527 (q := 528) rfl ?_
              -- at 528: invokevirtual 12
              refine zz_virtI S yy_X7_count lL_12 (ci := 7) (by decide) rfl (lk_count 4 hY13) rfl (Nat.le_of_ble_eq_true rfl) (Nat.le_of_ble_eq_true rfl) rfl (Nat.le_of_ble_eq_true rfl) rfl dL_law_528 (q := 531) rfl ?_
              rintro r14 im14 ⟨e14, hY14⟩
              have hp := mI_no hn hM
              rw [oc_4] at e14
              rw [← e14] at hp
              refine zz_if_le S dL_law_531 (t := 556) (by decide) (q := 534) rfl (fun b8 => ?_) (fun b8 => ?_)
              -- then 556 else 534
              · exfalso
                rw [gt_iff_lt, Int32.lt_iff_toInt_lt] at hp
                rw [Int32.le_iff_toInt_le] at b8
                omega
              · refine zz_goto S dL_law_534 (t := 545) (by decide) ?_
                -- at 545
                exact lo_545 S hY14 hJ (by omega)
          · exact absurd (by decide) b6
        · obtain ⟨T, hT, hm⟩ := mI_0 hM
          rw [hT]
          exact lo_ml S hm.2.1 T 0 _ im13 s n h nw (by omega) rfl hY13 hm hJ
      refine zz_if_eq S dL_law_483 (t := 488) (by decide) (q := 486) rfl (fun b6 => ?_) (fun b6 => ?_)
      -- then 488 else 486
      · exact T488
      · exact absurd rfl b6
    refine zz_istore_3 S rfl dL_law_358 (q := 359) rfl ?_
    refine zz_aload_1 S dL_law_359 (q := 360) rfl ?_
    refine zz_iload_3 S dL_law_360 (q := 361) rfl ?_
    refine zz_iconst S (v := 5) rfl dL_law_361 (q := 362) rfl ?_
    -- at 362: invokevirtual 22
    refine zz_virtI S yy_X7_commission lL_22 (ci := 7) (by decide) rfl (lk_commission (nI c) 5 hY4) rfl (Nat.le_of_ble_eq_true rfl) (Nat.le_of_ble_eq_true rfl) rfl (Nat.le_of_ble_eq_true rfl) rfl dL_law_362 (q := 365) rfl ?_
    rintro r5 im5 ⟨e5, hY5⟩
    rw [cc_5 hI hc] at e5
    subst e5
    refine zz_ldc S (v := (-100009)) kL_67 dL_law_365 (q := 367) rfl ?_
    refine zz_icmp_eq S dL_law_367 (t := 387) (by decide) (q := 370) rfl (fun b1 => ?_) (fun b1 => ?_)
    -- then 387 else 370
    · obtain ⟨f1, f2⟩ := rf_lines hI hc b1
      refine zz_aload_1 S dL_law_387 (q := 388) rfl ?_
      refine zz_iload_3 S dL_law_388 (q := 389) rfl ?_
      refine zz_iconst S (v := 0) rfl dL_law_389 (q := 390) rfl ?_
      -- at 390: invokevirtual 68
      refine zz_virtI S yy_X7_lines lL_68 (ci := 7) (by decide) rfl (lk_lines (nI c) 0 hY5) rfl (Nat.le_of_ble_eq_true rfl) (Nat.le_of_ble_eq_true rfl) rfl (Nat.le_of_ble_eq_true rfl) rfl dL_law_390 (q := 393) rfl ?_
      rintro r6 im6 ⟨e6, hY6⟩
      rw [f1] at e6
      subst e6
      refine zz_ldc S (v := (-100002)) kL_114 dL_law_393 (q := 395) rfl ?_
      refine zz_icmp_ne S dL_law_395 (t := 407) (by decide) (q := 398) rfl (fun b2 => ?_) (fun b2 => ?_)
      -- then 407 else 398
      · exact absurd rfl b2
      · refine zz_aload_1 S dL_law_398 (q := 399) rfl ?_
        refine zz_iload_3 S dL_law_399 (q := 400) rfl ?_
        -- at 400: invokevirtual 89
        refine zz_virtI S yy_X7_reason lL_89 (ci := 7) (by decide) rfl (lk_reason (nI c) hY6) rfl (Nat.le_of_ble_eq_true rfl) (Nat.le_of_ble_eq_true rfl) rfl (Nat.le_of_ble_eq_true rfl) rfl dL_law_400 (q := 403) rfl ?_
        rintro r7 im7 ⟨e7, hY7⟩
        rw [f2] at e7
        subst e7
        refine zz_iconst S (v := 1) rfl dL_law_403 (q := 404) rfl ?_
        refine zz_icmp_eq S dL_law_404 (t := 409) (by decide) (q := 407) rfl (fun b3 => ?_) (fun b3 => ?_)
        -- then 409 else 407
        · exact T409 im7 hY7
        · exact absurd rfl b3
    · refine zz_aload_1 S dL_law_370 (q := 371) rfl ?_
      refine zz_iload_3 S dL_law_371 (q := 372) rfl ?_
      refine zz_aload_0 S dL_law_372 (q := 373) rfl ?_
      refine zz_bipush S (v := 22) rfl dL_law_373 (q := 375) rfl ?_
      -- at 375: invokestatic 81
      refine zz_statI S yy_L_cell lL_81 (ll_cell 22 22 rfl (by omega) hL) rfl (Nat.le_of_ble_eq_true rfl) (Nat.le_of_ble_eq_true rfl) rfl dL_law_375 (q := 378) rfl ?_
      rintro a im6 rfl
      refine zz_statI S yy_L_isDial lL_110 (ll_isDial (nI c) a rfl hc b1 hY5) rfl (Nat.le_of_ble_eq_true rfl) (Nat.le_of_ble_eq_true rfl) rfl dL_law_378 (q := 381) rfl ?_
      rintro r7 im7 ⟨e7, hY7⟩
      subst e7
      refine zz_if_ne S dL_law_381 (t := 409) (by decide) (q := 384) rfl (fun b2 => ?_) (fun b2 => ?_)
      -- then 409 else 384
      · exact T409 im7 hY7
      · exact absurd b2 (by decide)
  refine zz_if_eq S dL_law_342 (t := 347) (by decide) (q := 345) rfl (fun b2 => ?_) (fun b2 => ?_)
  -- then 347 else 345
  · exact T347
  · exact absurd rfl b2
set_option maxHeartbeats 4000000 in
theorem lo_begin (S : zLS G l w) (hL : zz_sL G ≤ 260) : w 0 [some (.ref 1050), none, none, none, none, none, none, none, none, none] [] 0 zE00 (fun _ _ => 0) := by
  refine zz_new S (c := 7) (by decide) nL_13 n_inst7.1 n_inst7.2 (by decide) (fun _ => by decide) (by decide) dL_law_0 (q := 3) rfl ?_
  have hk1 : (zz_nE zE00 (0, 7)).2.1 0 = (0, 7) := rfl
  have ho1 : (zz_nE zE00 (0, 7)).2.2 0 = fun _ => none := rfl
  have hE1 : (zz_nE zE00 (0, 7)).1 = 1 := rfl
  generalize zz_nE zE00 (0, 7) = E1 at hk1 ho1 hE1 ⊢
  generalize zz_nI zE00 (fun _ _ => 0) = im1
  refine zz_dup S rfl dL_law_3 (q := 4) rfl ?_
  -- at 4
  refine zz_initE S yy_X7_init lL_80 (cx_init E1 im1 hE1 hk1 ho1) rfl (Nat.le_of_ble_eq_true rfl) (fun _ => by omega) (fun _ => by decide) (Nat.le_of_ble_eq_true rfl) rfl dL_law_4 (q := 7) rfl (fun E2 im2 hE2 h2 => ?_)
  obtain ⟨hL2, hX2⟩ := h2
  refine zz_wE S (E2 := zE) (by show E2.1 = 470; omega) (fun k hk => ?_) ?_
  · have h := hL2.2.1 k (by have := hL2.1; omega)
    rw [Nat.zero_add] at h
    exact h
  have hY := zY_0 hX2
  have hJ := sJ_0
  refine zz_astore_1 S rfl dL_law_7 (q := 8) rfl ?_
  refine zz_aload_1 S dL_law_8 (q := 9) rfl ?_
  -- at 9: invokevirtual 39
  refine zz_virtI S yy_X7_addWall lL_39 (ci := 7) (by decide) rfl (la_addWall hY) rfl (Nat.le_of_ble_eq_true rfl) (Nat.le_of_ble_eq_true rfl) rfl (Nat.le_of_ble_eq_true rfl) rfl dL_law_9 (q := 12) rfl ?_
  rintro r3 im3 hq3
  obtain ⟨q3, hP3⟩ := aP_wall hY.2.1 hJ
  obtain ⟨r, hPr⟩ := aP_wall hY.2.1 hJ
  have hX3 : ∃ s' n' h' nw', zY im3 s' n' h' nw' 0 ∧ sJ s' 0 1 := by
    have e : op_cWall zS0 = 0 := by decide +kernel
    have e2 : ox_wall zS0 0 (fun _ => zS0) 0 = (nI 0, op_wall zS0 0, sh_n 0, sh_p 0 (fun _ => zS0) zS0) := by
      unfold ox_wall
      rw [e, if_pos (by decide)]
    rw [e2] at hq3
    obtain ⟨nw', nc', hY3⟩ := zY_of hq3.2
    have en : nc' = 0 := nI_same (hY3.2.1.2.2.1.symm.trans (by decide +kernel)) (by have := hY3.2.1.2.2.2.1; omega) (by omega)
    subst en
    exact ⟨_, _, _, nw', hY3, sJ_le (sJ_wall hJ (by omega) (by omega)) (by omega)⟩
  clear hP3 hPr
  obtain ⟨s3, n3, h3, nw3, hY3, hJ3⟩ := hX3
  refine zz_pop S rfl dL_law_12 (q := 13) rfl ?_
  refine zz_aload_0 S dL_law_13 (q := 14) rfl ?_
  refine zz_iconst S (v := 0) rfl dL_law_14 (q := 15) rfl ?_
  -- at 15: invokestatic 81
  refine zz_statI S yy_L_cell lL_81 (ll_cell 0 0 rfl (by omega) hL) rfl (Nat.le_of_ble_eq_true rfl) (Nat.le_of_ble_eq_true rfl) rfl dL_law_15 (q := 18) rfl ?_
  rintro v im4 rfl
  refine zz_istore_2 S rfl dL_law_18 (q := 19) rfl ?_
  refine zz_aload_1 S dL_law_19 (q := 20) rfl ?_
  refine zz_iconst S (v := 3) rfl dL_law_20 (q := 21) rfl ?_
  refine zz_bipush S (v := 20) rfl dL_law_21 (q := 23) rfl ?_
  refine zz_iload_2 S dL_law_23 (q := 24) rfl ?_
  refine zz_bipush S (v := 20) rfl dL_law_24 (q := 26) rfl ?_
  -- at 26: invokestatic 28
  refine zz_statP S yy_L_low lL_28 (ll_low v 20 (by decide) zE im4) rfl (Nat.le_of_ble_eq_true rfl) (Nat.le_of_ble_eq_true rfl) rfl dL_law_26 (q := 29) rfl ?_
  refine zz_iadd S dL_law_29 (q := 30) rfl ?_
  -- at 30: invokevirtual 36
  refine zz_virtI S yy_X7_set lL_36 (ci := 7) (by decide) rfl (la_set 3 _ hY3) rfl (Nat.le_of_ble_eq_true rfl) (Nat.le_of_ble_eq_true rfl) rfl (Nat.le_of_ble_eq_true rfl) rfl dL_law_30 (q := 33) rfl ?_
  rintro r5 im5 hq5
  have hX5 : ∃ s' n' h' nw', zY im5 s' n' h' nw' 0 ∧ sJ s' 0 2 := by
    obtain ⟨r0, hP⟩ := aP_set hY3.2.1 hJ3 3 (20 + lw v 20)
    rcases hP with ⟨-, e⟩ | ⟨-, s', nc', e, -, e1, g1, g2, g3⟩
    · rw [show ox_set s3 n3 h3 3 (20 + lw v 20) = (r0, s3, n3, h3) from e n3 h3] at hq5
      exact ⟨s3, n3, h3, nw3, zY_same hq5.2 hY3.2.1, sJ_le hJ3 (by omega)⟩
    · rw [show ox_set s3 n3 h3 3 (20 + lw v 20) = (r0, s', sh_n n3, sh_p n3 h3 s3) from e n3 h3] at hq5
      obtain ⟨nw2, nc2, hY5⟩ := zY_of hq5.2
      have ox1 : s' 1 = s3 1 := by
        have e9 := e n3 h3
        dsimp only at e9
        unfold ox_set at e9
        split at e9
        · rename_i hc
          obtain ⟨k, hk, hkk⟩ := zs_within (n := 4) (by omega) hc.1
          have e8 := congrArg (fun q : ZQ => q.2.1 1) e9
          dsimp only at e8
          rw [← e8, u_ne]
          have := nI_clamp (n := k) (by omega)
          rw [hkk, this]
          omega
        · have e8 := congrArg (fun q : ZQ => q.2.1 1) e9
          exact e8.symm
      have en : nc2 = 0 := nI_same (hY5.2.1.2.2.1.symm.trans (ox1.trans hY3.2.1.2.2.1)) (by have := hY5.2.1.2.2.2.1; omega) (by omega)
      subst en
      have en' : nc' = 0 := nI_same (e1.symm.trans (ox1.trans hY3.2.1.2.2.1)) (by omega) (by omega)
      subst en'
      exact ⟨_, _, _, nw2, hY5, g3⟩
  obtain ⟨s5, n5, h5, nw5, hY5, hJ5⟩ := hX5
  refine zz_pop S rfl dL_law_33 (q := 34) rfl ?_
  refine zz_aload_1 S dL_law_34 (q := 35) rfl ?_
  refine zz_bipush S (v := 10) rfl dL_law_35 (q := 37) rfl ?_
  refine zz_iload_2 S dL_law_37 (q := 38) rfl ?_
  refine zz_iconst S (v := 3) rfl dL_law_38 (q := 39) rfl ?_
  refine zz_ishr S dL_law_39 (q := 40) rfl ?_
  refine zz_bipush S (v := 61) rfl dL_law_40 (q := 42) rfl ?_
  -- at 42: invokestatic 28
  refine zz_statP S yy_L_low lL_28 (ll_low (sr v 3) 61 (by decide) zE im5) rfl (Nat.le_of_ble_eq_true rfl) (Nat.le_of_ble_eq_true rfl) rfl dL_law_42 (q := 45) rfl ?_
  refine zz_iadd S dL_law_45 (q := 46) rfl ?_
  refine zz_iconst S (v := (-1)) rfl dL_law_46 (q := 47) rfl ?_
  refine zz_bipush S (v := 20) rfl dL_law_47 (q := 49) rfl ?_
  refine zz_iload_2 S dL_law_49 (q := 50) rfl ?_
  refine zz_bipush S (v := 9) rfl dL_law_50 (q := 52) rfl ?_
  refine zz_ishr S dL_law_52 (q := 53) rfl ?_
  refine zz_bipush S (v := 30) rfl dL_law_53 (q := 55) rfl ?_
  -- at 55: invokestatic 28
  refine zz_statP S yy_L_low lL_28 (ll_low (sr v 9) 30 (by decide) zE im5) rfl (Nat.le_of_ble_eq_true rfl) (Nat.le_of_ble_eq_true rfl) rfl dL_law_55 (q := 58) rfl ?_
  refine zz_iadd S dL_law_58 (q := 59) rfl ?_
  refine zz_iload_2 S dL_law_59 (q := 60) rfl ?_
  refine zz_bipush S (v := 14) rfl dL_law_60 (q := 62) rfl ?_
  refine zz_ishr S dL_law_62 (q := 63) rfl ?_
  refine zz_bipush S (v := 121) rfl dL_law_63 (q := 65) rfl ?_
  -- at 65: invokestatic 28
  refine zz_statP S yy_L_low lL_28 (ll_low (sr v 14) 121 (by decide) zE im5) rfl (Nat.le_of_ble_eq_true rfl) (Nat.le_of_ble_eq_true rfl) rfl dL_law_65 (q := 68) rfl ?_
  refine zz_bipush S (v := 60) rfl dL_law_68 (q := 70) rfl ?_
  refine zz_isub S dL_law_70 (q := 71) rfl ?_
  -- at 71: invokevirtual 46
  refine zz_virtI S yy_X7_ask lL_46 (ci := 7) (by decide) rfl (la_ask _ _ _ _ hY5) rfl (Nat.le_of_ble_eq_true rfl) (Nat.le_of_ble_eq_true rfl) rfl (Nat.le_of_ble_eq_true rfl) rfl dL_law_71 (q := 74) rfl ?_
  rintro r6 im6 hq6
  have p1 := lw_plus (v := sr v 3) (d := 61) (a := 10) (by omega) (by omega) (by omega)
  have p2 := lw_plus (v := sr v 9) (d := 30) (a := 20) (by omega) (by omega) (by omega)
  have p3 := lw_minus (v := sr v 14) (d := 121) (a := 60) (by omega) (by omega) (by omega)
  have p1' : 10 ≤ ((10 : Int32) + lw (sr v 3) 61).toInt ∧ ((10 : Int32) + lw (sr v 3) 61).toInt < 10 + 61 := p1
  have p2' : 20 ≤ ((20 : Int32) + lw (sr v 9) 30).toInt ∧ ((20 : Int32) + lw (sr v 9) 30).toInt < 20 + 30 := p2
  have p3' : -60 ≤ (lw (sr v 14) 121 - (60 : Int32)).toInt ∧ (lw (sr v 14) 121 - (60 : Int32)).toInt < 121 - 60 := p3
  rw [ok_ask hY5.2.1 (by omega) (by omega) (by omega)] at hq6
  obtain ⟨nw6, nc6, hY6⟩ := zY_of hq6.2
  have hJ6 := sJ_ask (la := (10 : Int32) + lw (sr v 3) 61) (x := -1) (sz := (20 : Int32) + lw (sr v 9) 30) (lo := lw (sr v 14) 121 - (60 : Int32)) hJ5 (by omega)
  have en : nc6 = 1 := nI_same (hY6.2.1.2.2.1.symm.trans (mx_ask_1 (s := s5) (c := 0) (la := (10 : Int32) + lw (sr v 3) 61) (x := -1) (sz := (20 : Int32) + lw (sr v 9) 30) (lo := lw (sr v 14) 121 - (60 : Int32)))) (by have := hY6.2.1.2.2.2.1; omega) (by omega)
  subst en
  refine zz_pop S rfl dL_law_74 (q := 75) rfl ?_
  refine zz_iconst S (v := 1) rfl dL_law_75 (q := 76) rfl ?_
  refine zz_istore_3 S rfl dL_law_76 (q := 77) rfl ?_
  -- at 77
  exact lo_law S hL (fun im' s' n' h' nw' nc' x hY' g1 g2 => lo_end S hL im' s' n' h' nw' nc' x hY' g1 g2) 17 1 _ im6 _ _ _ nw6 1 (by omega) rfl hY6 (by omega) (sJ_le hJ6 (by omega))
end ZLEND
