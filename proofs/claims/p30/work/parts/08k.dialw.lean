/-! THE LAW: isDial, walked -/
theorem zt_sub (i : Nat) : nI i - 360 = zs_t i := Int32.sub_eq_add_neg _ _
section ZDW
variable {G : ZG} {l : Launch} {n0 mcT msT : Nat} {isI : Bool} {Qf : Option Value → ZE → ZI → Prop} {w : Nat → ZL → List Value → Nat → ZE → ZI → Prop} {z n nw nc c : Nat} {h : Nat → ZSt} {s : ZSt}
set_option maxHeartbeats 1000000 in
theorem lo_id (S : zz_S G l RL cL_isDial 17 6 n0 mcT msT isI (some .boolean) Qf w) {v a3 a4 a5 a6 a7 a8 a9 a11 : Int32} (hc : c < nc) (hd : sp_de s c ≠ -100009)
    (K : ∀ (im' : ZI) (x : Int32), zY im' s n h nw nc → w 414 [some (.ref 0), some (.int (nI c)), some (.int v), some (.int a3), some (.int a4), some (.int a5), some (.int a6), some (.int a7), some (.int a8), some (.int a9), some (.int (zs_ap (sp_dial s c)).1), some (.int a11), some (.int x), none, none, none, none] [] z zE im') :
    ∀ (m k : Nat) (x : Int32) (im : ZI), k + m = 5 → x = nI k → zY im s n h nw nc → w 245 [some (.ref 0), some (.int (nI c)), some (.int v), some (.int a3), some (.int a4), some (.int a5), some (.int a6), some (.int a7), some (.int a8), some (.int a9), some (.int (zs_ap (sp_dial s c)).1), some (.int a11), some (.int x), none, none, none, none] [] z zE im := by
  intro m
  induction m with
  | zero =>
    intro k x im hk hx hY
    refine zz_iload_12 S dL_isDial_245 (q := 247) rfl ?_
    refine zz_iconst S (v := 5) rfl dL_isDial_247 (q := 248) rfl ?_
    refine zz_icmp_ge S dL_isDial_248 (t := 414) (by decide) (q := 251) rfl (fun b1 => ?_) (fun b1 => ?_)
    -- then 414 else 251
    · exact K im x hY
    · exact absurd (by rw [hx, show k = 5 by omega]; decide) b1
  | succ m ih =>
    intro k x im hk hx hY
    have hI := hY.2.1
    refine zz_iload_12 S dL_isDial_245 (q := 247) rfl ?_
    refine zz_iconst S (v := 5) rfl dL_isDial_247 (q := 248) rfl ?_
    refine zz_icmp_ge S dL_isDial_248 (t := 414) (by decide) (q := 251) rfl (fun b1 => ?_) (fun b1 => ?_)
    -- then 414 else 251
    · exact absurd ((zn_ge (a := k) (b := 5) (by omega) (by omega)).mp (by rw [← hx]; exact b1)) (by omega)
    · subst hx
      refine zz_iload_2 S dL_isDial_251 (q := 252) rfl ?_
      refine zz_iconst S (v := 3) rfl dL_isDial_252 (q := 253) rfl ?_
      refine zz_iload_12 S dL_isDial_253 (q := 255) rfl ?_
      refine zz_imul S dL_isDial_255 (q := 256) rfl ?_
      refine zz_ishr S dL_isDial_256 (q := 257) rfl ?_
      refine zz_sipush S (v := 721) rfl dL_isDial_257 (q := 260) rfl ?_
      -- at 260: invokestatic 28
      refine zz_statP S yy_L_low lL_28 (ll_low (v >>> ((3 * nI k) &&& 31)) 721 (by decide) zE im) rfl (Nat.le_of_ble_eq_true rfl) (Nat.le_of_ble_eq_true rfl) rfl dL_isDial_260 (q := 263) rfl ?_
      obtain ⟨i, hi, ei⟩ := lw_in (v >>> ((3 * nI k) &&& 31)) (d := 721) (by omega) (by omega)
      rw [show lw (v >>> ((3 * nI k) &&& 31)) 721 = nI i from ei]
      clear ei
      refine zz_sipush S (v := 360) rfl dL_isDial_263 (q := 266) rfl ?_
      refine zz_isub S dL_isDial_266 (q := 267) rfl ?_
      -- at 267
      rw [zt_sub]
      refine zz_istore_13 S rfl dL_isDial_267 (q := 269) rfl ?_
      refine zz_aload_0 S dL_isDial_269 (q := 270) rfl ?_
      refine zz_iload_1 S dL_isDial_270 (q := 271) rfl ?_
      refine zz_iload_13 S dL_isDial_271 (q := 273) rfl ?_
      -- at 273: invokevirtual 71
      refine zz_virtI S yy_X7_offset lL_71 (ci := 7) (by decide) rfl (lk_offset (nI c) (zs_t i) hY) rfl (Nat.le_of_ble_eq_true rfl) (Nat.le_of_ble_eq_true rfl) rfl (Nat.le_of_ble_eq_true rfl) rfl dL_isDial_273 (q := 276) rfl ?_
      rintro r1 im1 ⟨e1, hY1⟩
      rw [dl_off hI hc hd hi] at e1
      subst e1
      refine zz_istore_14 S rfl dL_isDial_276 (q := 278) rfl ?_
      -- at 278
      -- behind the readings
      have T355 : ∀ im' : ZI, zY im' s n h nw nc → w 355 [some (.ref 0), some (.int (nI c)), some (.int v), some (.int a3), some (.int a4), some (.int a5), some (.int a6), some (.int a7), some (.int a8), some (.int a9), some (.int (zs_ap (sp_dial s c)).1), some (.int a11), some (.int (nI k)), some (.int (zs_t i)), some (.int (sp_dial s c i)), none, none] [] z zE im' := by
        intro im2 hY2
        refine zz_aload_0 S dL_isDial_355 (q := 356) rfl ?_
        refine zz_iload_1 S dL_isDial_356 (q := 357) rfl ?_
        refine zz_iload_13 S dL_isDial_357 (q := 359) rfl ?_
        refine zz_ineg S dL_isDial_359 (q := 360) rfl ?_
        -- at 360
        rw [zs_t_neg hi]
        refine zz_virtI S yy_X7_offset lL_71 (ci := 7) (by decide) rfl (lk_offset (nI c) (zs_t (720 - i)) hY2) rfl (Nat.le_of_ble_eq_true rfl) (Nat.le_of_ble_eq_true rfl) rfl (Nat.le_of_ble_eq_true rfl) rfl dL_isDial_360 (q := 363) rfl ?_
        rintro r3 im3 ⟨e3, hY3⟩
        rw [dl_off hI hc hd (by omega)] at e3
        subst e3
        refine zz_istore_15 S rfl dL_isDial_363 (q := 365) rfl ?_
        refine zz_aload_0 S dL_isDial_365 (q := 366) rfl ?_
        refine zz_iload_1 S dL_isDial_366 (q := 367) rfl ?_
        refine zz_iconst S (v := 5) rfl dL_isDial_367 (q := 368) rfl ?_
        -- at 368: invokevirtual 22
        refine zz_virtI S yy_X7_commission lL_22 (ci := 7) (by decide) rfl (lk_commission (nI c) 5 hY3) rfl (Nat.le_of_ble_eq_true rfl) (Nat.le_of_ble_eq_true rfl) rfl (Nat.le_of_ble_eq_true rfl) rfl dL_isDial_368 (q := 371) rfl ?_
        rintro r4 im4 ⟨e4, hY4⟩
        rw [cc_5 hI hc] at e4
        subst e4
        have T408 : w 408 [some (.ref 0), some (.int (nI c)), some (.int v), some (.int a3), some (.int a4), some (.int a5), some (.int a6), some (.int a7), some (.int a8), some (.int a9), some (.int (zs_ap (sp_dial s c)).1), some (.int a11), some (.int (nI k)), some (.int (zs_t i)), some (.int (sp_dial s c i)), some (.int (sp_dial s c (720 - i))), none] [] z zE im4 := by
          refine zz_iinc_12 S rfl dL_isDial_408 (q := 411) rfl ?_
          refine zz_goto S dL_isDial_411 (t := 245) (by decide) ?_
          -- at 245
          refine zz_msk S [true, true, true, true, true, true, true, true, true, true, true, true, true, false, false, false, false] ?_
          exact ih (k + 1) _ im4 (by omega) (nI_add k 1) hY4
        refine zz_if_ne S dL_isDial_371 (t := 408) (by decide) (q := 374) rfl (fun b2 => ?_) (fun b2 => ?_)
        -- then 408 else 374
        · exact T408
        · refine zz_iload_14 S dL_isDial_374 (q := 376) rfl ?_
          refine zz_ldc S (v := (-100009)) kL_67 dL_isDial_376 (q := 378) rfl ?_
          refine zz_icmp_eq S dL_isDial_378 (t := 408) (by decide) (q := 381) rfl (fun b3 => ?_) (fun b3 => ?_)
          -- then 408 else 381
          · exact T408
          · refine zz_iload_15 S dL_isDial_381 (q := 383) rfl ?_
            refine zz_ldc S (v := (-100009)) kL_67 dL_isDial_383 (q := 385) rfl ?_
            refine zz_icmp_eq S dL_isDial_385 (t := 408) (by decide) (q := 388) rfl (fun b4 => ?_) (fun b4 => ?_)
            -- then 408 else 388
            · exact T408
            · obtain ⟨f1, f2⟩ := dl_mirror hI hc b2 hi b3 b4
              refine zz_iload_14 S dL_isDial_388 (q := 390) rfl ?_
              refine zz_iload_15 S dL_isDial_390 (q := 392) rfl ?_
              refine zz_iadd S dL_isDial_392 (q := 393) rfl ?_
              refine zz_iconst S (v := 1) rfl dL_isDial_393 (q := 394) rfl ?_
              refine zz_icmp_gt S dL_isDial_394 (t := 406) (by decide) (q := 397) rfl (fun b5 => ?_) (fun b5 => ?_)
              -- then 406 else 397
              · exact (f1 b5).elim
              · refine zz_iload_14 S dL_isDial_397 (q := 399) rfl ?_
                refine zz_iload_15 S dL_isDial_399 (q := 401) rfl ?_
                refine zz_iadd S dL_isDial_401 (q := 402) rfl ?_
                refine zz_iconst S (v := (-1)) rfl dL_isDial_402 (q := 403) rfl ?_
                refine zz_icmp_ge S dL_isDial_403 (t := 408) (by decide) (q := 406) rfl (fun b6 => ?_) (fun b6 => ?_)
                -- then 408 else 406
                · exact T408
                · exact (f2 b6).elim
      refine zz_iload_14 S dL_isDial_278 (q := 280) rfl ?_
      refine zz_ldc S (v := (-100009)) kL_67 dL_isDial_280 (q := 282) rfl ?_
      refine zz_icmp_eq S dL_isDial_282 (t := 355) (by decide) (q := 285) rfl (fun b2 => ?_) (fun b2 => ?_)
      -- then 355 else 285
      · exact T355 im1 hY1
      · have ho := dl_fine s c i b2
        obtain ⟨j, j1, j2, j3⟩ := zd_sh (dl_fine s c) b2 hi
        refine zz_aload_0 S dL_isDial_285 (q := 286) rfl ?_
        refine zz_iload_1 S dL_isDial_286 (q := 287) rfl ?_
        refine zz_iload_14 S dL_isDial_287 (q := 289) rfl ?_
        refine zz_iconst S (v := 1) rfl dL_isDial_289 (q := 290) rfl ?_
        refine zz_iconst S (v := (-1)) rfl dL_isDial_290 (q := 291) rfl ?_
        -- at 291: invokevirtual 74
        refine zz_virtI S yy_X7_read lL_74 (ci := 7) (by decide) rfl (lk_read (nI c) (sp_dial s c i) 1 (-1) hY1) rfl (Nat.le_of_ble_eq_true rfl) (Nat.le_of_ble_eq_true rfl) rfl (Nat.le_of_ble_eq_true rfl) rfl dL_isDial_291 (q := 294) rfl ?_
        rintro r2 im2 ⟨e2, hY2⟩
        rw [(dl_read hI hc hd ho).2, j2] at e2
        subst e2
        refine zz_istore_15 S rfl dL_isDial_294 (q := 296) rfl ?_
        refine zz_aload_0 S dL_isDial_296 (q := 297) rfl ?_
        refine zz_iload_1 S dL_isDial_297 (q := 298) rfl ?_
        refine zz_iload_14 S dL_isDial_298 (q := 300) rfl ?_
        refine zz_iconst S (v := 0) rfl dL_isDial_300 (q := 301) rfl ?_
        refine zz_iconst S (v := (-1)) rfl dL_isDial_301 (q := 302) rfl ?_
        -- at 302: invokevirtual 74
        refine zz_virtI S yy_X7_read lL_74 (ci := 7) (by decide) rfl (lk_read (nI c) (sp_dial s c i) 0 (-1) hY2) rfl (Nat.le_of_ble_eq_true rfl) (Nat.le_of_ble_eq_true rfl) rfl (Nat.le_of_ble_eq_true rfl) rfl dL_isDial_302 (q := 305) rfl ?_
        rintro r3 im3 ⟨e3, hY3⟩
        rw [(dl_read hI hc hd ho).1] at e3
        subst e3
        refine zz_istore_16 S rfl dL_isDial_305 (q := 307) rfl ?_
        refine zz_iload_15 S dL_isDial_307 (q := 309) rfl ?_
        refine zz_iload_13 S dL_isDial_309 (q := 311) rfl ?_
        refine zz_icmp_gt S dL_isDial_311 (t := 353) (by decide) (q := 314) rfl (fun b3 => ?_) (fun b3 => ?_)
        -- then 353 else 314
        · exact (zs_t_le j1 hi b3).elim
        · refine zz_aload_0 S dL_isDial_314 (q := 315) rfl ?_
          refine zz_iload_1 S dL_isDial_315 (q := 316) rfl ?_
          refine zz_iload_15 S dL_isDial_316 (q := 318) rfl ?_
          -- at 318: invokevirtual 71
          refine zz_virtI S yy_X7_offset lL_71 (ci := 7) (by decide) rfl (lk_offset (nI c) (zs_t j) hY3) rfl (Nat.le_of_ble_eq_true rfl) (Nat.le_of_ble_eq_true rfl) rfl (Nat.le_of_ble_eq_true rfl) rfl dL_isDial_318 (q := 321) rfl ?_
          rintro r4 im4 ⟨e4, hY4⟩
          rw [dl_off hI hc hd (by omega)] at e4
          subst e4
          refine zz_iload_14 S dL_isDial_321 (q := 323) rfl ?_
          refine zz_icmp_ne S dL_isDial_323 (t := 353) (by decide) (q := 326) rfl (fun b4 => ?_) (fun b4 => ?_)
          -- then 353 else 326
          · exact absurd j3 b4
          · have T : w 355 [some (.ref 0), some (.int (nI c)), some (.int v), some (.int a3), some (.int a4), some (.int a5), some (.int a6), some (.int a7), some (.int a8), some (.int a9), some (.int (zs_ap (sp_dial s c)).1), some (.int a11), some (.int (nI k)), some (.int (zs_t i)), some (.int (sp_dial s c i)), some (.int (zs_t j)), some (.int (zs_byL (sp_dial s c) (sp_dial s c i)))] [] z zE im4 := by
              refine zz_msk S [true, true, true, true, true, true, true, true, true, true, true, true, true, true, true, false, false] ?_
              exact T355 im4 hY4
            refine zz_iload_16 S dL_isDial_326 (q := 328) rfl ?_
            refine zz_ldc S (v := (-100009)) kL_67 dL_isDial_328 (q := 330) rfl ?_
            refine zz_icmp_eq S dL_isDial_330 (t := 355) (by decide) (q := 333) rfl (fun b5 => ?_) (fun b5 => ?_)
            -- then 355 else 333
            · exact T
            · obtain ⟨f1, f2⟩ := dl_near hi b2 b5
              refine zz_iload_16 S dL_isDial_333 (q := 335) rfl ?_
              refine zz_iload_13 S dL_isDial_335 (q := 337) rfl ?_
              refine zz_isub S dL_isDial_337 (q := 338) rfl ?_
              refine zz_iload_10 S dL_isDial_338 (q := 340) rfl ?_
              refine zz_icmp_gt S dL_isDial_340 (t := 353) (by decide) (q := 343) rfl (fun b6 => ?_) (fun b6 => ?_)
              -- then 353 else 343
              · exact (f1 b6).elim
              · refine zz_iload_13 S dL_isDial_343 (q := 345) rfl ?_
                refine zz_iload_16 S dL_isDial_345 (q := 347) rfl ?_
                refine zz_isub S dL_isDial_347 (q := 348) rfl ?_
                refine zz_iload_10 S dL_isDial_348 (q := 350) rfl ?_
                refine zz_icmp_le S dL_isDial_350 (t := 355) (by decide) (q := 353) rfl (fun b7 => ?_) (fun b7 => ?_)
                -- then 355 else 353
                · exact T
                · exact (f2 b7).elim
set_option maxHeartbeats 1000000 in
theorem lo_idA {im : ZI} {d : Nat} (S : zz_S G l RL cL_isDial 17 d n0 mcT msT isI (some .boolean) Qf w) {v hl f1 f2 no : Int32} (g1 : hl < 0 → False) (g2 : hl > 13 → False) (g3 : hl = 0 → f1 ≠ -100009 → False) (g4 : hl ≠ 0 → f1 = -100009 → False) (g5 : f2 < f1 → False) (g6 : ¬ no = 0 → ¬ no = -100009 → False)
    (T86 : w 86 [some (.ref 0), some (.int (nI c)), some (.int v), some (.int hl), some (.int f1), some (.int f2), some (.int no), none, none, none, none, none, none, none, none, none, none] [] z zE im) : w 31 [some (.ref 0), some (.int (nI c)), some (.int v), some (.int hl), some (.int f1), some (.int f2), some (.int no), none, none, none, none, none, none, none, none, none, none] [] z zE im := by
  refine zz_iload_3 S dL_isDial_31 (q := 32) rfl ?_
  refine zz_if_lt S dL_isDial_32 (t := 84) (by decide) (q := 35) rfl (fun b1 => ?_) (fun b1 => ?_)
  · first | exact (g1 ‹_›).elim | exact (g2 ‹_›).elim | exact (g3 ‹_› ‹_›).elim | exact (g4 ‹_› ‹_›).elim | exact (g5 ‹_›).elim | exact (g6 ‹_› ‹_›).elim | exact absurd rfl ‹(1 : Int32) ≠ 1› | exact absurd rfl ‹(0 : Int32) ≠ 0›
  · refine zz_iload_3 S dL_isDial_35 (q := 36) rfl ?_
    refine zz_bipush S (v := 13) rfl dL_isDial_36 (q := 38) rfl ?_
    refine zz_icmp_gt S dL_isDial_38 (t := 84) (by decide) (q := 41) rfl (fun b2 => ?_) (fun b2 => ?_)
    · first | exact (g1 ‹_›).elim | exact (g2 ‹_›).elim | exact (g3 ‹_› ‹_›).elim | exact (g4 ‹_› ‹_›).elim | exact (g5 ‹_›).elim | exact (g6 ‹_› ‹_›).elim | exact absurd rfl ‹(1 : Int32) ≠ 1› | exact absurd rfl ‹(0 : Int32) ≠ 0›
    · refine zz_iload_3 S dL_isDial_41 (q := 42) rfl ?_
      refine zz_if_ne S dL_isDial_42 (t := 49) (by decide) (q := 45) rfl (fun b3 => ?_) (fun b3 => ?_)
      · refine zz_iconst S (v := 0) rfl dL_isDial_49 (q := 50) rfl ?_
        refine zz_iload_4 S dL_isDial_50 (q := 52) rfl ?_
        refine zz_ldc S (v := (-100009)) kL_67 dL_isDial_52 (q := 54) rfl ?_
        refine zz_icmp_ne S dL_isDial_54 (t := 61) (by decide) (q := 57) rfl (fun b4 => ?_) (fun b4 => ?_)
        · refine zz_iconst S (v := 0) rfl dL_isDial_61 (q := 62) rfl ?_
          refine zz_icmp_ne S dL_isDial_62 (t := 84) (by decide) (q := 65) rfl (fun b5 => ?_) (fun b5 => ?_)
          · first | exact (g1 ‹_›).elim | exact (g2 ‹_›).elim | exact (g3 ‹_› ‹_›).elim | exact (g4 ‹_› ‹_›).elim | exact (g5 ‹_›).elim | exact (g6 ‹_› ‹_›).elim | exact absurd rfl ‹(1 : Int32) ≠ 1› | exact absurd rfl ‹(0 : Int32) ≠ 0›
          · refine zz_iload_5 S dL_isDial_65 (q := 67) rfl ?_
            refine zz_iload_4 S dL_isDial_67 (q := 69) rfl ?_
            refine zz_icmp_lt S dL_isDial_69 (t := 84) (by decide) (q := 72) rfl (fun b6 => ?_) (fun b6 => ?_)
            · first | exact (g1 ‹_›).elim | exact (g2 ‹_›).elim | exact (g3 ‹_› ‹_›).elim | exact (g4 ‹_› ‹_›).elim | exact (g5 ‹_›).elim | exact (g6 ‹_› ‹_›).elim | exact absurd rfl ‹(1 : Int32) ≠ 1› | exact absurd rfl ‹(0 : Int32) ≠ 0›
            · refine zz_iload_6 S dL_isDial_72 (q := 74) rfl ?_
              refine zz_if_eq S dL_isDial_74 (t := 86) (by decide) (q := 77) rfl (fun b7 => ?_) (fun b7 => ?_)
              · exact T86
              · refine zz_iload_6 S dL_isDial_77 (q := 79) rfl ?_
                refine zz_ldc S (v := (-100009)) kL_67 dL_isDial_79 (q := 81) rfl ?_
                refine zz_icmp_eq S dL_isDial_81 (t := 86) (by decide) (q := 84) rfl (fun b8 => ?_) (fun b8 => ?_)
                · exact T86
                · first | exact (g1 ‹_›).elim | exact (g2 ‹_›).elim | exact (g3 ‹_› ‹_›).elim | exact (g4 ‹_› ‹_›).elim | exact (g5 ‹_›).elim | exact (g6 ‹_› ‹_›).elim | exact absurd rfl ‹(1 : Int32) ≠ 1› | exact absurd rfl ‹(0 : Int32) ≠ 0›
        · refine zz_iconst S (v := 1) rfl dL_isDial_57 (q := 58) rfl ?_
          refine zz_goto S dL_isDial_58 (t := 62) (by decide) ?_
          refine zz_icmp_ne S dL_isDial_62 (t := 84) (by decide) (q := 65) rfl (fun b5 => ?_) (fun b5 => ?_)
          · first | exact (g1 ‹_›).elim | exact (g2 ‹_›).elim | exact (g3 ‹_› ‹_›).elim | exact (g4 ‹_› ‹_›).elim | exact (g5 ‹_›).elim | exact (g6 ‹_› ‹_›).elim | exact absurd rfl ‹(1 : Int32) ≠ 1› | exact absurd rfl ‹(0 : Int32) ≠ 0›
          · refine zz_iload_5 S dL_isDial_65 (q := 67) rfl ?_
            refine zz_iload_4 S dL_isDial_67 (q := 69) rfl ?_
            refine zz_icmp_lt S dL_isDial_69 (t := 84) (by decide) (q := 72) rfl (fun b6 => ?_) (fun b6 => ?_)
            · first | exact (g1 ‹_›).elim | exact (g2 ‹_›).elim | exact (g3 ‹_› ‹_›).elim | exact (g4 ‹_› ‹_›).elim | exact (g5 ‹_›).elim | exact (g6 ‹_› ‹_›).elim | exact absurd rfl ‹(1 : Int32) ≠ 1› | exact absurd rfl ‹(0 : Int32) ≠ 0›
            · refine zz_iload_6 S dL_isDial_72 (q := 74) rfl ?_
              refine zz_if_eq S dL_isDial_74 (t := 86) (by decide) (q := 77) rfl (fun b7 => ?_) (fun b7 => ?_)
              · exact T86
              · refine zz_iload_6 S dL_isDial_77 (q := 79) rfl ?_
                refine zz_ldc S (v := (-100009)) kL_67 dL_isDial_79 (q := 81) rfl ?_
                refine zz_icmp_eq S dL_isDial_81 (t := 86) (by decide) (q := 84) rfl (fun b8 => ?_) (fun b8 => ?_)
                · exact T86
                · first | exact (g1 ‹_›).elim | exact (g2 ‹_›).elim | exact (g3 ‹_› ‹_›).elim | exact (g4 ‹_› ‹_›).elim | exact (g5 ‹_›).elim | exact (g6 ‹_› ‹_›).elim | exact absurd rfl ‹(1 : Int32) ≠ 1› | exact absurd rfl ‹(0 : Int32) ≠ 0›
      · refine zz_iconst S (v := 1) rfl dL_isDial_45 (q := 46) rfl ?_
        refine zz_goto S dL_isDial_46 (t := 50) (by decide) ?_
        refine zz_iload_4 S dL_isDial_50 (q := 52) rfl ?_
        refine zz_ldc S (v := (-100009)) kL_67 dL_isDial_52 (q := 54) rfl ?_
        refine zz_icmp_ne S dL_isDial_54 (t := 61) (by decide) (q := 57) rfl (fun b4 => ?_) (fun b4 => ?_)
        · refine zz_iconst S (v := 0) rfl dL_isDial_61 (q := 62) rfl ?_
          refine zz_icmp_ne S dL_isDial_62 (t := 84) (by decide) (q := 65) rfl (fun b5 => ?_) (fun b5 => ?_)
          · first | exact (g1 ‹_›).elim | exact (g2 ‹_›).elim | exact (g3 ‹_› ‹_›).elim | exact (g4 ‹_› ‹_›).elim | exact (g5 ‹_›).elim | exact (g6 ‹_› ‹_›).elim | exact absurd rfl ‹(1 : Int32) ≠ 1› | exact absurd rfl ‹(0 : Int32) ≠ 0›
          · refine zz_iload_5 S dL_isDial_65 (q := 67) rfl ?_
            refine zz_iload_4 S dL_isDial_67 (q := 69) rfl ?_
            refine zz_icmp_lt S dL_isDial_69 (t := 84) (by decide) (q := 72) rfl (fun b6 => ?_) (fun b6 => ?_)
            · first | exact (g1 ‹_›).elim | exact (g2 ‹_›).elim | exact (g3 ‹_› ‹_›).elim | exact (g4 ‹_› ‹_›).elim | exact (g5 ‹_›).elim | exact (g6 ‹_› ‹_›).elim | exact absurd rfl ‹(1 : Int32) ≠ 1› | exact absurd rfl ‹(0 : Int32) ≠ 0›
            · refine zz_iload_6 S dL_isDial_72 (q := 74) rfl ?_
              refine zz_if_eq S dL_isDial_74 (t := 86) (by decide) (q := 77) rfl (fun b7 => ?_) (fun b7 => ?_)
              · exact T86
              · refine zz_iload_6 S dL_isDial_77 (q := 79) rfl ?_
                refine zz_ldc S (v := (-100009)) kL_67 dL_isDial_79 (q := 81) rfl ?_
                refine zz_icmp_eq S dL_isDial_81 (t := 86) (by decide) (q := 84) rfl (fun b8 => ?_) (fun b8 => ?_)
                · exact T86
                · first | exact (g1 ‹_›).elim | exact (g2 ‹_›).elim | exact (g3 ‹_› ‹_›).elim | exact (g4 ‹_› ‹_›).elim | exact (g5 ‹_›).elim | exact (g6 ‹_› ‹_›).elim | exact absurd rfl ‹(1 : Int32) ≠ 1› | exact absurd rfl ‹(0 : Int32) ≠ 0›
        · refine zz_iconst S (v := 1) rfl dL_isDial_57 (q := 58) rfl ?_
          refine zz_goto S dL_isDial_58 (t := 62) (by decide) ?_
          refine zz_icmp_ne S dL_isDial_62 (t := 84) (by decide) (q := 65) rfl (fun b5 => ?_) (fun b5 => ?_)
          · first | exact (g1 ‹_›).elim | exact (g2 ‹_›).elim | exact (g3 ‹_› ‹_›).elim | exact (g4 ‹_› ‹_›).elim | exact (g5 ‹_›).elim | exact (g6 ‹_› ‹_›).elim | exact absurd rfl ‹(1 : Int32) ≠ 1› | exact absurd rfl ‹(0 : Int32) ≠ 0›
          · refine zz_iload_5 S dL_isDial_65 (q := 67) rfl ?_
            refine zz_iload_4 S dL_isDial_67 (q := 69) rfl ?_
            refine zz_icmp_lt S dL_isDial_69 (t := 84) (by decide) (q := 72) rfl (fun b6 => ?_) (fun b6 => ?_)
            · first | exact (g1 ‹_›).elim | exact (g2 ‹_›).elim | exact (g3 ‹_› ‹_›).elim | exact (g4 ‹_› ‹_›).elim | exact (g5 ‹_›).elim | exact (g6 ‹_› ‹_›).elim | exact absurd rfl ‹(1 : Int32) ≠ 1› | exact absurd rfl ‹(0 : Int32) ≠ 0›
            · refine zz_iload_6 S dL_isDial_72 (q := 74) rfl ?_
              refine zz_if_eq S dL_isDial_74 (t := 86) (by decide) (q := 77) rfl (fun b7 => ?_) (fun b7 => ?_)
              · exact T86
              · refine zz_iload_6 S dL_isDial_77 (q := 79) rfl ?_
                refine zz_ldc S (v := (-100009)) kL_67 dL_isDial_79 (q := 81) rfl ?_
                refine zz_icmp_eq S dL_isDial_81 (t := 86) (by decide) (q := 84) rfl (fun b8 => ?_) (fun b8 => ?_)
                · exact T86
                · first | exact (g1 ‹_›).elim | exact (g2 ‹_›).elim | exact (g3 ‹_› ‹_›).elim | exact (g4 ‹_› ‹_›).elim | exact (g5 ‹_›).elim | exact (g6 ‹_› ‹_›).elim | exact absurd rfl ‹(1 : Int32) ≠ 1› | exact absurd rfl ‹(0 : Int32) ≠ 0›
set_option maxHeartbeats 1000000 in
theorem ll_isDial {im : ZI} (x v : Int32) (hx : x = nI c) (hc : c < nc) (hd : sp_de s c ≠ -100009) (hY : zY im s n h nw nc) : zz_OI G l 6 mL_isDial [.ref 0, .int x, .int v] zE im (fun r im' => r = 1 ∧ zY im' s n h nw nc) := by
  have hI := hY.2.1
  subst hx
  refine zz_intro (isI := false) (by decide) rfl (Nat.le_of_ble_eq_true rfl) (fun h => by cases h) (fun w S => ?_)
  refine zz_aload_0 S dL_isDial_0 (q := 1) rfl ?_
  refine zz_iload_1 S dL_isDial_1 (q := 2) rfl ?_
  refine zz_iconst S (v := 0) rfl dL_isDial_2 (q := 3) rfl ?_
  -- at 3: invokevirtual 68
  refine zz_virtI S yy_X7_lines lL_68 (ci := 7) (by decide) rfl (lk_lines (nI c) 0 hY) rfl (Nat.le_of_ble_eq_true rfl) (Nat.le_of_ble_eq_true rfl) rfl (Nat.le_of_ble_eq_true rfl) rfl dL_isDial_3 (q := 6) rfl ?_
  rintro r1 im1 ⟨e1, hY1⟩
  rw [(dl_lines hI hc hd).1] at e1
  subst e1
  refine zz_istore_3 S rfl dL_isDial_6 (q := 7) rfl ?_
  refine zz_aload_0 S dL_isDial_7 (q := 8) rfl ?_
  refine zz_iload_1 S dL_isDial_8 (q := 9) rfl ?_
  refine zz_iconst S (v := 1) rfl dL_isDial_9 (q := 10) rfl ?_
  -- at 10: invokevirtual 68
  refine zz_virtI S yy_X7_lines lL_68 (ci := 7) (by decide) rfl (lk_lines (nI c) 1 hY1) rfl (Nat.le_of_ble_eq_true rfl) (Nat.le_of_ble_eq_true rfl) rfl (Nat.le_of_ble_eq_true rfl) rfl dL_isDial_10 (q := 13) rfl ?_
  rintro r1 im2 ⟨e1, hY2⟩
  rw [(dl_lines hI hc hd).2.1] at e1
  subst e1
  refine zz_istore_4 S rfl dL_isDial_13 (q := 15) rfl ?_
  refine zz_aload_0 S dL_isDial_15 (q := 16) rfl ?_
  refine zz_iload_1 S dL_isDial_16 (q := 17) rfl ?_
  refine zz_iconst S (v := 2) rfl dL_isDial_17 (q := 18) rfl ?_
  -- at 18: invokevirtual 68
  refine zz_virtI S yy_X7_lines lL_68 (ci := 7) (by decide) rfl (lk_lines (nI c) 2 hY2) rfl (Nat.le_of_ble_eq_true rfl) (Nat.le_of_ble_eq_true rfl) rfl (Nat.le_of_ble_eq_true rfl) rfl dL_isDial_18 (q := 21) rfl ?_
  rintro r1 im3 ⟨e1, hY3⟩
  rw [(dl_lines hI hc hd).2.2] at e1
  subst e1
  refine zz_istore_5 S rfl dL_isDial_21 (q := 23) rfl ?_
  refine zz_aload_0 S dL_isDial_23 (q := 24) rfl ?_
  refine zz_iload_1 S dL_isDial_24 (q := 25) rfl ?_
  refine zz_iconst S (v := 0) rfl dL_isDial_25 (q := 26) rfl ?_
  -- at 26: invokevirtual 71
  refine zz_virtI S yy_X7_offset lL_71 (ci := 7) (by decide) rfl (lk_offset (nI c) 0 hY3) rfl (Nat.le_of_ble_eq_true rfl) (Nat.le_of_ble_eq_true rfl) rfl (Nat.le_of_ble_eq_true rfl) rfl dL_isDial_26 (q := 29) rfl ?_
  rintro r1 im4 ⟨e1, hY4⟩
  rw [show (0 : Int32) = zs_t 360 by decide +kernel, dl_off hI hc hd (by omega)] at e1
  subst e1
  refine zz_istore_6 S rfl dL_isDial_29 (q := 31) rfl ?_
  -- at 31
  obtain ⟨g1, g2, g3, g4, g5, g6⟩ := dl_first hI hc hd
  have T242 : ∀ (a7 a8 a9 a11 : Int32) (im' : ZI), zY im' s n h nw nc → w 242 [some (.ref 0), some (.int (nI c)), some (.int v), some (.int (zs_hl (sp_dial s c))), some (.int (zs_fl (sp_dial s c)).1), some (.int (zs_fl (sp_dial s c)).2), some (.int (sp_dial s c 360)), some (.int a7), some (.int a8), some (.int a9), some (.int (zs_ap (sp_dial s c)).1), some (.int a11), none, none, none, none, none] [] 0 zE im' := by
    intro a7 a8 a9 a11 im' hY'
    refine zz_iconst S (v := 0) rfl dL_isDial_242 (q := 243) rfl ?_
    refine zz_istore_12 S rfl dL_isDial_243 (q := 245) rfl ?_
    -- at 245
    refine lo_id S hc hd (fun im9 x9 hY9 => ?_) 5 0 _ im' (by omega) rfl hY'
    refine zz_iconst S (v := 1) rfl dL_isDial_414 (q := 415) rfl ?_
    -- at 415: ireturn 
    refine zz_zret S rfl dL_isDial_415 ⟨rfl, _, rfl, rfl, ?_⟩
    exact ⟨rfl, hY9⟩
  have T181 : ∀ (a7 a8 a9 : Int32) (im' : ZI), zY im' s n h nw nc → w 181 [some (.ref 0), some (.int (nI c)), some (.int v), some (.int (zs_hl (sp_dial s c))), some (.int (zs_fl (sp_dial s c)).1), some (.int (zs_fl (sp_dial s c)).2), some (.int (sp_dial s c 360)), some (.int a7), some (.int a8), some (.int a9), none, none, none, none, none, none, none] [] 0 zE im' := by
    intro a7 a8 a9 im5 hY5
    refine zz_aload_0 S dL_isDial_181 (q := 182) rfl ?_
    refine zz_iload_1 S dL_isDial_182 (q := 183) rfl ?_
    refine zz_iconst S (v := 0) rfl dL_isDial_183 (q := 184) rfl ?_
    -- at 184: invokevirtual 77
    refine zz_virtI S yy_X7_apart lL_77 (ci := 7) (by decide) rfl (lk_apart (nI c) 0 hY5) rfl (Nat.le_of_ble_eq_true rfl) (Nat.le_of_ble_eq_true rfl) rfl (Nat.le_of_ble_eq_true rfl) rfl dL_isDial_184 (q := 187) rfl ?_
    rintro r1 im6 ⟨e1, hY6⟩
    rw [(dl_apart hI hc hd).1] at e1
    subst e1
    refine zz_istore_10 S rfl dL_isDial_187 (q := 189) rfl ?_
    refine zz_aload_0 S dL_isDial_189 (q := 190) rfl ?_
    refine zz_iload_1 S dL_isDial_190 (q := 191) rfl ?_
    refine zz_iconst S (v := 1) rfl dL_isDial_191 (q := 192) rfl ?_
    -- at 192: invokevirtual 77
    refine zz_virtI S yy_X7_apart lL_77 (ci := 7) (by decide) rfl (lk_apart (nI c) 1 hY6) rfl (Nat.le_of_ble_eq_true rfl) (Nat.le_of_ble_eq_true rfl) rfl (Nat.le_of_ble_eq_true rfl) rfl dL_isDial_192 (q := 195) rfl ?_
    rintro r1 im7 ⟨e1, hY7⟩
    rw [(dl_apart hI hc hd).2] at e1
    subst e1
    refine zz_istore_11 S rfl dL_isDial_195 (q := 197) rfl ?_
    refine zz_iload_11 S dL_isDial_197 (q := 199) rfl ?_
    refine zz_ldc S (v := (-100009)) kL_67 dL_isDial_199 (q := 201) rfl ?_
    refine zz_icmp_eq S dL_isDial_201 (t := 242) (by decide) (q := 204) rfl (fun b1 => ?_) (fun b1 => ?_)
    -- then 242 else 204
    · exact T242 _ _ _ _ im7 hY7
    · obtain ⟨i, i1, i2, i3, i4⟩ := dl_ap b1
      rw [i2]
      refine zz_aload_0 S dL_isDial_204 (q := 205) rfl ?_
      refine zz_iload_1 S dL_isDial_205 (q := 206) rfl ?_
      refine zz_aload_0 S dL_isDial_206 (q := 207) rfl ?_
      refine zz_iload_1 S dL_isDial_207 (q := 208) rfl ?_
      refine zz_iload_11 S dL_isDial_208 (q := 210) rfl ?_
      -- at 210: invokevirtual 71
      refine zz_virtI S yy_X7_offset lL_71 (ci := 7) (by decide) rfl (lk_offset (nI c) (zs_t i) hY7) rfl (Nat.le_of_ble_eq_true rfl) (Nat.le_of_ble_eq_true rfl) rfl (Nat.le_of_ble_eq_true rfl) rfl dL_isDial_210 (q := 213) rfl ?_
      rintro r2 im8 ⟨e2, hY8⟩
      rw [dl_off hI hc hd i1] at e2
      subst e2
      refine zz_iconst S (v := 0) rfl dL_isDial_213 (q := 214) rfl ?_
      refine zz_iconst S (v := (-1)) rfl dL_isDial_214 (q := 215) rfl ?_
      -- at 215: invokevirtual 74
      refine zz_virtI S yy_X7_read lL_74 (ci := 7) (by decide) rfl (lk_read (nI c) (sp_dial s c i) 0 (-1) hY8) rfl (Nat.le_of_ble_eq_true rfl) (Nat.le_of_ble_eq_true rfl) rfl (Nat.le_of_ble_eq_true rfl) rfl dL_isDial_215 (q := 218) rfl ?_
      rintro r3 im9 ⟨e3, hY9⟩
      rw [(dl_read hI hc hd (dl_fine s c i i3)).1] at e3
      subst e3
      have T : w 242 [some (.ref 0), some (.int (nI c)), some (.int v), some (.int (zs_hl (sp_dial s c))), some (.int (zs_fl (sp_dial s c)).1), some (.int (zs_fl (sp_dial s c)).2), some (.int (sp_dial s c 360)), some (.int a7), some (.int a8), some (.int a9), some (.int (zs_ap (sp_dial s c)).1), some (.int (zs_t i)), some (.int (zs_byL (sp_dial s c) (sp_dial s c i))), none, none, none, none] [] 0 zE im9 := by
        refine zz_msk S [true, true, true, true, true, true, true, true, true, true, true, true, false, false, false, false, false] ?_
        exact T242 _ _ _ _ im9 hY9
      refine zz_istore_12 S rfl dL_isDial_218 (q := 220) rfl ?_
      refine zz_iload_12 S dL_isDial_220 (q := 222) rfl ?_
      refine zz_iload_11 S dL_isDial_222 (q := 224) rfl ?_
      refine zz_isub S dL_isDial_224 (q := 225) rfl ?_
      refine zz_iload_10 S dL_isDial_225 (q := 227) rfl ?_
      refine zz_icmp_eq S dL_isDial_227 (t := 242) (by decide) (q := 230) rfl (fun b2 => ?_) (fun b2 => ?_)
      -- then 242 else 230
      · exact T
      · refine zz_iload_11 S dL_isDial_230 (q := 232) rfl ?_
        refine zz_iload_12 S dL_isDial_232 (q := 234) rfl ?_
        refine zz_isub S dL_isDial_234 (q := 235) rfl ?_
        refine zz_iload_10 S dL_isDial_235 (q := 237) rfl ?_
        refine zz_icmp_eq S dL_isDial_237 (t := 242) (by decide) (q := 240) rfl (fun b3 => ?_) (fun b3 => ?_)
        -- then 242 else 240
        · exact T
        · exact (i4 b2 b3).elim
  have T86 : w 86 [some (.ref 0), some (.int (nI c)), some (.int v), some (.int (zs_hl (sp_dial s c))), some (.int (zs_fl (sp_dial s c)).1), some (.int (zs_fl (sp_dial s c)).2), some (.int (sp_dial s c 360)), none, none, none, none, none, none, none, none, none, none] [] 0 zE im4 := by
    refine zz_iload_2 S dL_isDial_86 (q := 87) rfl ?_
    refine zz_sipush S (v := 6001) rfl dL_isDial_87 (q := 90) rfl ?_
    -- at 90: invokestatic 28
    refine zz_statP S yy_L_low lL_28 (ll_low v 6001 (by decide) zE im4) rfl (Nat.le_of_ble_eq_true rfl) (Nat.le_of_ble_eq_true rfl) rfl dL_isDial_90 (q := 93) rfl ?_
    obtain ⟨i, hi, ei⟩ := lw_in v (d := 6001) (by omega) (by omega)
    rw [show lw v 6001 = nI i from ei]
    clear ei
    have ho : -3000 ≤ (nI i - 3000).toInt ∧ (nI i - 3000).toInt ≤ 3000 := by
      have e := zd_sub (a := nI i) (b := 3000) (by rw [nI_toInt (by omega)]; omega) (by decide)
      rw [nI_toInt (by omega), show ((3000 : Int32)).toInt = 3000 from rfl] at e
      omega
    refine zz_sipush S (v := 3000) rfl dL_isDial_93 (q := 96) rfl ?_
    refine zz_isub S dL_isDial_96 (q := 97) rfl ?_
    -- at 97
    generalize nI i - 3000 = o at ho ⊢
    refine zz_istore_7 S rfl dL_isDial_97 (q := 99) rfl ?_
    refine zz_aload_0 S dL_isDial_99 (q := 100) rfl ?_
    refine zz_iload_1 S dL_isDial_100 (q := 101) rfl ?_
    refine zz_iload_7 S dL_isDial_101 (q := 103) rfl ?_
    refine zz_iconst S (v := 0) rfl dL_isDial_103 (q := 104) rfl ?_
    refine zz_iconst S (v := (-1)) rfl dL_isDial_104 (q := 105) rfl ?_
    -- at 105: invokevirtual 74
    refine zz_virtI S yy_X7_read lL_74 (ci := 7) (by decide) rfl (lk_read (nI c) o 0 (-1) hY4) rfl (Nat.le_of_ble_eq_true rfl) (Nat.le_of_ble_eq_true rfl) rfl (Nat.le_of_ble_eq_true rfl) rfl dL_isDial_105 (q := 108) rfl ?_
    rintro r1 im5 ⟨e1, hY5⟩
    rw [(dl_read hI hc hd ho).1] at e1
    subst e1
    obtain ⟨f1, f2⟩ := dl_by (s := s) (c := c) o
    have T133 : w 133 [some (.ref 0), some (.int (nI c)), some (.int v), some (.int (zs_hl (sp_dial s c))), some (.int (zs_fl (sp_dial s c)).1), some (.int (zs_fl (sp_dial s c)).2), some (.int (sp_dial s c 360)), some (.int o), some (.int (zs_byL (sp_dial s c) o)), none, none, none, none, none, none, none, none] [] 0 zE im5 := by
      refine zz_iload_2 S dL_isDial_133 (q := 134) rfl ?_
      refine zz_iconst S (v := 3) rfl dL_isDial_134 (q := 135) rfl ?_
      refine zz_ishr S dL_isDial_135 (q := 136) rfl ?_
      refine zz_bipush S (v := 12) rfl dL_isDial_136 (q := 138) rfl ?_
      -- at 138: invokestatic 28
      refine zz_statP S yy_L_low lL_28 (ll_low (sr v 3) 12 (by decide) zE im5) rfl (Nat.le_of_ble_eq_true rfl) (Nat.le_of_ble_eq_true rfl) rfl dL_isDial_138 (q := 141) rfl ?_
      obtain ⟨mo, hm, em⟩ := lw_in (sr v 3) (d := 12) (by omega) (by omega)
      rw [show lw (sr v 3) 12 = nI mo from em]
      clear em
      refine zz_istore_9 S rfl dL_isDial_141 (q := 143) rfl ?_
      refine zz_iload_8 S dL_isDial_143 (q := 145) rfl ?_
      refine zz_ldc S (v := (-100009)) kL_67 dL_isDial_145 (q := 147) rfl ?_
      refine zz_icmp_eq S dL_isDial_147 (t := 181) (by decide) (q := 150) rfl (fun b1 => ?_) (fun b1 => ?_)
      -- then 181 else 150
      · exact T181 _ _ _ im5 hY5
      · refine zz_aload_0 S dL_isDial_150 (q := 151) rfl ?_
        refine zz_iload_1 S dL_isDial_151 (q := 152) rfl ?_
        refine zz_iload_7 S dL_isDial_152 (q := 154) rfl ?_
        refine zz_iconst S (v := 0) rfl dL_isDial_154 (q := 155) rfl ?_
        refine zz_iload_9 S dL_isDial_155 (q := 157) rfl ?_
        -- at 157: invokevirtual 74
        refine zz_virtI S yy_X7_read lL_74 (ci := 7) (by decide) rfl (lk_read (nI c) o 0 (nI mo) hY5) rfl (Nat.le_of_ble_eq_true rfl) (Nat.le_of_ble_eq_true rfl) rfl (Nat.le_of_ble_eq_true rfl) rfl dL_isDial_157 (q := 160) rfl ?_
        rintro r2 im6 ⟨e2, hY6⟩
        rw [dl_readM hI hc hd ho hm b1] at e2
        subst e2
        refine zz_iload_8 S dL_isDial_160 (q := 162) rfl ?_
        refine zz_aload_0 S dL_isDial_162 (q := 163) rfl ?_
        refine zz_iload_9 S dL_isDial_163 (q := 165) rfl ?_
        -- at 165: invokevirtual 25
        refine zz_virtI S yy_X7_correction lL_25 (ci := 7) (by decide) rfl (lk_correction (nI mo) hY6) rfl (Nat.le_of_ble_eq_true rfl) (Nat.le_of_ble_eq_true rfl) rfl (Nat.le_of_ble_eq_true rfl) rfl dL_isDial_165 (q := 168) rfl ?_
        rintro r3 im7 ⟨e3, hY7⟩
        rw [dl_corr hm] at e3
        subst e3
        refine zz_iadd S dL_isDial_168 (q := 169) rfl ?_
        refine zz_aload_0 S dL_isDial_169 (q := 170) rfl ?_
        refine zz_iload_1 S dL_isDial_170 (q := 171) rfl ?_
        refine zz_iconst S (v := 3) rfl dL_isDial_171 (q := 172) rfl ?_
        -- at 172: invokevirtual 22
        refine zz_virtI S yy_X7_commission lL_22 (ci := 7) (by decide) rfl (lk_commission (nI c) 3 hY7) rfl (Nat.le_of_ble_eq_true rfl) (Nat.le_of_ble_eq_true rfl) rfl (Nat.le_of_ble_eq_true rfl) rfl dL_isDial_172 (q := 175) rfl ?_
        rintro r4 im8 ⟨e4, hY8⟩
        rw [cc_3 hI hc] at e4
        subst e4
        refine zz_iadd S dL_isDial_175 (q := 176) rfl ?_
        refine zz_icmp_eq S dL_isDial_176 (t := 181) (by decide) (q := 179) rfl (fun b2 => ?_) (fun b2 => ?_)
        -- then 181 else 179
        · exact T181 _ _ _ im8 hY8
        · exact absurd rfl b2
    refine zz_istore_8 S rfl dL_isDial_108 (q := 110) rfl ?_
    refine zz_iload_8 S dL_isDial_110 (q := 112) rfl ?_
    refine zz_ldc S (v := (-100009)) kL_67 dL_isDial_112 (q := 114) rfl ?_
    refine zz_icmp_eq S dL_isDial_114 (t := 133) (by decide) (q := 117) rfl (fun b1 => ?_) (fun b1 => ?_)
    -- then 133 else 117
    · exact T133
    · refine zz_iload_8 S dL_isDial_117 (q := 119) rfl ?_
      refine zz_iload_4 S dL_isDial_119 (q := 121) rfl ?_
      refine zz_icmp_lt S dL_isDial_121 (t := 131) (by decide) (q := 124) rfl (fun b2 => ?_) (fun b2 => ?_)
      -- then 131 else 124
      · exact (f1 b1 b2).elim
      · refine zz_iload_8 S dL_isDial_124 (q := 126) rfl ?_
        refine zz_iload_5 S dL_isDial_126 (q := 128) rfl ?_
        refine zz_icmp_le S dL_isDial_128 (t := 133) (by decide) (q := 131) rfl (fun b3 => ?_) (fun b3 => ?_)
        -- then 133 else 131
        · exact T133
        · exact (f2 b1 b3).elim
  exact lo_idA S g1 g2 g3 g4 g5 g6 T86
end ZDW
