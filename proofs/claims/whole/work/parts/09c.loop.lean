/-! THE LAW: its loop -/
theorem lz_gt {t L : Nat} (ht : t ≤ 2560) (hL : L ≤ 2560) : nI t > nI L - 5 ↔ L < t + 5 := by
  have e1 := nI_toInt (n := t) (by omega)
  have e2 : (nI L - 5).toInt = (L : Int) - 5 := by
    rw [Int32.toInt_sub, nI_toInt (by omega), show ((5 : Int32)).toInt = 5 from rfl, Int.bmod_eq_of_le (by omega) (by omega)]
  rw [gt_iff_lt, Int32.lt_iff_toInt_lt, e1, e2]
  omega
section ZLOOP
variable {G : ZG} {l : Launch} {L : Nat} {xs : Nat → Int32} {w : zL_w}
set_option maxHeartbeats 4000000 in
theorem lz_loop {z : Nat} (SX : zz_SX G l L xs w) (hL : L ≤ 2560) : ∀ (n1 t n len : Nat) (h : Nat → ZSt) (s : ZSt) (tx : Nat → Int32) (im : ZI), L ≤ t + n1 → t ≤ L → zLW im s n h len tx → w 18 [some (.ref 1050), some (.ref 0), some (.ref 470), some (.int (nI t))] [] z zE im := by
  have S := SX.1
  intro n1
  induction n1 with
  | zero =>
    intro t n len h s tx im h1 h2 hW
    refine zz_iload_3 S dL_law_18 (q := 19) rfl ?_
    refine zz_aload_0 S dL_law_19 (q := 20) rfl ?_
    -- at 20
    refine zz_slen SX dL_law_20 (q := 21) rfl ?_
    refine zz_iconst S (v := 5) rfl dL_law_21 (q := 22) rfl ?_
    refine zz_isub S dL_law_22 (q := 23) rfl ?_
    refine zz_icmp_gt S dL_law_23 (t := 863) (by decide) (q := 26) rfl (fun a1 => ?_) (fun a1 => ?_)
    -- then 863 else 26
    · refine zz_iconst S (v := 1) rfl dL_law_863 (q := 864) rfl ?_
      -- at 864: ireturn 
      exact zz_zret S rfl dL_law_864 rfl
    · exact absurd ((lz_gt (by omega) hL).mpr (by omega)) a1
  | succ n1 ih =>
    intro t n len h s tx im h1 h2 hW
    refine zz_iload_3 S dL_law_18 (q := 19) rfl ?_
    refine zz_aload_0 S dL_law_19 (q := 20) rfl ?_
    -- at 20
    refine zz_slen SX dL_law_20 (q := 21) rfl ?_
    refine zz_iconst S (v := 5) rfl dL_law_21 (q := 22) rfl ?_
    refine zz_isub S dL_law_22 (q := 23) rfl ?_
    refine zz_icmp_gt S dL_law_23 (t := 863) (by decide) (q := 26) rfl (fun a1 => ?_) (fun a1 => ?_)
    -- then 863 else 26
    · refine zz_iconst S (v := 1) rfl dL_law_863 (q := 864) rfl ?_
      -- at 864: ireturn 
      exact zz_zret S rfl dL_law_864 rfl
    · have ht : t + 5 ≤ L := by
        have := mt (lz_gt (t := t) (L := L) (by omega) hL).mpr a1
        omega
      have hN : ∀ (im' : ZI) (s' : ZSt) (n' : Nat) (h' : Nat → ZSt) (len' : Nat) (tx' : Nat → Int32), zLW im' s' n' h' len' tx' → w 857 [some (.ref 1050), some (.ref 0), some (.ref 470), some (.int (nI t))] [] z zE im' := fun im' s' n' h' len' tx' hW' => by
        refine zz_iinc_3 S rfl dL_law_857 (q := 860) rfl ?_
        refine zz_goto S dL_law_860 (t := 18) (by decide) ?_
        -- at 18
        rw [show nI t + Int32.ofInt 5 = nI (t + 5) from nI_add t 5]
        exact ih (t + 5) n' len' h' s' tx' im' (by omega) (by omega) hW'
      refine zz_aload_0 S dL_law_26 (q := 27) rfl ?_
      refine zz_iload_3 S dL_law_27 (q := 28) rfl ?_
      refine zz_sld SX (j := t) rfl (by omega) hL dL_law_28 (q := 29) rfl ?_
      refine zz_bipush S (v := 31) rfl dL_law_29 (q := 31) rfl ?_
      refine zz_iand S dL_law_31 (q := 32) rfl ?_
      -- at 32: tableswitch 825 0 26 #[124, 157, 190, 203, 236, 289, 312, 335, 348, 371, 394, 417, 430, 453, 466, 479, 502, 535, 568, 591, 614, 647, 680, 733, 766, 789, 812]
      generalize xs t &&& 31 = x
      by_cases hx : x.toInt < 0 ∨ 26 < x.toInt
      · refine zz_tabOut S dL_law_32 hx (t := 857) (by decide) ?_
        exact hN im s n h len tx hW
      · obtain ⟨k, hk, rfl⟩ : ∃ k : Nat, k ≤ 26 ∧ x = nI k := ⟨x.toInt.toNat, by omega, by
          apply Int32.toInt_inj.mp
          rw [nI_toInt (by omega)]
          omega⟩
        clear hx
        rcases (show k = 0 ∨ k = 1 ∨ k = 2 ∨ k = 3 ∨ k = 4 ∨ k = 5 ∨ k = 6 ∨ k = 7 ∨ k = 8 ∨ k = 9 ∨ k = 10 ∨ k = 11 ∨ k = 12 ∨ k = 13 ∨ k = 14 ∨ k = 15 ∨ k = 16 ∨ k = 17 ∨ k = 18 ∨ k = 19 ∨ k = 20 ∨ k = 21 ∨ k = 22 ∨ k = 23 ∨ k = 24 ∨ k = 25 ∨ k = 26 by omega) with rfl | rfl | rfl | rfl | rfl | rfl | rfl | rfl | rfl | rfl | rfl | rfl | rfl | rfl | rfl | rfl | rfl | rfl | rfl | rfl | rfl | rfl | rfl | rfl | rfl | rfl | rfl
        · refine zz_tabIn S dL_law_32 (by decide) (by decide) (off := 124) (by decide) (t := 156) (by decide) ?_
          exact lz_setCorrection SX hL ht hW hN
        · refine zz_tabIn S dL_law_32 (by decide) (by decide) (off := 157) (by decide) (t := 189) (by decide) ?_
          exact lz_set SX hL ht hW hN
        · refine zz_tabIn S dL_law_32 (by decide) (by decide) (off := 190) (by decide) (t := 222) (by decide) ?_
          exact lz_addWall SX hL ht hW hN
        · refine zz_tabIn S dL_law_32 (by decide) (by decide) (off := 203) (by decide) (t := 235) (by decide) ?_
          exact lz_measure SX hL ht hW hN
        · refine zz_tabIn S dL_law_32 (by decide) (by decide) (off := 236) (by decide) (t := 268) (by decide) ?_
          exact lz_ask SX hL ht hW hN
        · refine zz_tabIn S dL_law_32 (by decide) (by decide) (off := 289) (by decide) (t := 321) (by decide) ?_
          exact lz_decide SX hL ht hW hN
        · refine zz_tabIn S dL_law_32 (by decide) (by decide) (off := 312) (by decide) (t := 344) (by decide) ?_
          exact lz_askAgain SX hL ht hW hN
        · refine zz_tabIn S dL_law_32 (by decide) (by decide) (off := 335) (by decide) (t := 367) (by decide) ?_
          exact lz_cast SX hL ht hW hN
        · refine zz_tabIn S dL_law_32 (by decide) (by decide) (off := 348) (by decide) (t := 380) (by decide) ?_
          exact lz_deliver SX hL ht hW hN
        · refine zz_tabIn S dL_law_32 (by decide) (by decide) (off := 371) (by decide) (t := 403) (by decide) ?_
          exact lz_take SX hL ht hW hN
        · refine zz_tabIn S dL_law_32 (by decide) (by decide) (off := 394) (by decide) (t := 426) (by decide) ?_
          exact lz_restore SX hL ht hW hN
        · refine zz_tabIn S dL_law_32 (by decide) (by decide) (off := 417) (by decide) (t := 449) (by decide) ?_
          exact lz_undo SX hL ht hW hN
        · refine zz_tabIn S dL_law_32 (by decide) (by decide) (off := 430) (by decide) (t := 462) (by decide) ?_
          exact lz_append SX hL ht hW hN
        · refine zz_tabIn S dL_law_32 (by decide) (by decide) (off := 453) (by decide) (t := 485) (by decide) ?_
          exact lz_clearText SX hL ht hW hN
        · refine zz_tabIn S dL_law_32 (by decide) (by decide) (off := 466) (by decide) (t := 498) (by decide) ?_
          exact lz_run SX hL ht hW hN
        · refine zz_tabIn S dL_law_32 (by decide) (by decide) (off := 479) (by decide) (t := 511) (by decide) ?_
          exact lz_count SX hL ht hW hN
        · refine zz_tabIn S dL_law_32 (by decide) (by decide) (off := 502) (by decide) (t := 534) (by decide) ?_
          exact lz_wall SX hL ht hW hN
        · refine zz_tabIn S dL_law_32 (by decide) (by decide) (off := 535) (by decide) (t := 567) (by decide) ?_
          exact lz_commission SX hL ht hW hN
        · refine zz_tabIn S dL_law_32 (by decide) (by decide) (off := 568) (by decide) (t := 600) (by decide) ?_
          exact lz_correction SX hL ht hW hN
        · refine zz_tabIn S dL_law_32 (by decide) (by decide) (off := 591) (by decide) (t := 623) (by decide) ?_
          exact lz_sine SX hL ht hW hN
        · refine zz_tabIn S dL_law_32 (by decide) (by decide) (off := 614) (by decide) (t := 646) (by decide) ?_
          exact lz_offset SX hL ht hW hN
        · refine zz_tabIn S dL_law_32 (by decide) (by decide) (off := 647) (by decide) (t := 679) (by decide) ?_
          exact lz_lines SX hL ht hW hN
        · refine zz_tabIn S dL_law_32 (by decide) (by decide) (off := 680) (by decide) (t := 712) (by decide) ?_
          exact lz_read SX hL ht hW hN
        · refine zz_tabIn S dL_law_32 (by decide) (by decide) (off := 733) (by decide) (t := 765) (by decide) ?_
          exact lz_apart SX hL ht hW hN
        · refine zz_tabIn S dL_law_32 (by decide) (by decide) (off := 766) (by decide) (t := 798) (by decide) ?_
          exact lz_reason SX hL ht hW hN
        · refine zz_tabIn S dL_law_32 (by decide) (by decide) (off := 789) (by decide) (t := 821) (by decide) ?_
          exact lz_bestLatitude SX hL ht hW hN
        · refine zz_tabIn S dL_law_32 (by decide) (by decide) (off := 812) (by decide) (t := 844) (by decide) ?_
          exact lz_melts SX hL ht hW hN
end ZLOOP
