/-! THE REFERENCE: snapshots, undo, text -/
def op_take (s : ZSt) (b : Nat) : ZSt := fun j => if j = 118 + 119 * b then 1 else if 119 + 119 * b ≤ j ∧ j < 119 + 119 * b + 118 then s (j - (119 + 119 * b)) else s j
def op_rest (s : ZSt) (b : Nat) : ZSt := fun j => if j < 118 then s (119 + 119 * b + j) else s j
def ox_take (s : ZSt) (n : Nat) (h : Nat → ZSt) (x : Int32) : ZQ := if x ≥ 0 ∧ x ≤ 1 then (s 1, op_take s x.toNatClampNeg, sh_n n, sh_p n h s) else (-100001, s, n, h)
def ox_rest (s : ZSt) (n : Nat) (h : Nat → ZSt) (x : Int32) : ZQ := if x ≥ 0 ∧ x ≤ 1 then (if s (118 + 119 * x.toNatClampNeg) = 0 then (-100002, s, n, h) else (s (119 + 119 * x.toNatClampNeg + 1), op_rest s x.toNatClampNeg, sh_n n, sh_p n h s)) else (-100001, s, n, h)
def ox_undo (s : ZSt) (n : Nat) (h : Nat → ZSt) : ZQ := if n = 0 then (-100002, s, n, h) else (nI (n - 1), fun j => if j < 356 then h (n - 1) j else s j, n - 1, h)
section ZPUB2
variable {G : ZG} {l : Launch}
theorem co_askAgain (x : Int32) (im : ZI) (n nw nc : Nat) (h : Nat → ZSt) (hh : zm_h im n h) (hI : sI (im 471) nw nc) : zz_OI G l 7 mX8_askAgain [.ref 470, .int x] zE im (fun r im' => zPQ im im' r (ox_again (im 471) n h x)) := by
  have hn10 := hI.2.2.2.1
  refine zz_intro (isI := false) (by decide) rfl (Nat.le_of_ble_eq_true rfl) (fun h => by cases h) (fun w S => ?_)
  refine zz_aload_0 S dX8_askAgain_0 (q := 1) rfl ?_
  refine zz_iconst S (v := 0) rfl dX8_askAgain_1 (q := 2) rfl ?_
  refine zz_putI S fX8_35 rfl rfl (Nat.le_of_ble_eq_true rfl) rfl dX8_askAgain_2 (q := 5) rfl ?_
  refine zz_aload_0 S dX8_askAgain_5 (q := 6) rfl ?_
  refine zz_iload_1 S dX8_askAgain_6 (q := 7) rfl ?_
  refine zz_iconst S (v := 4) rfl dX8_askAgain_7 (q := 8) rfl ?_
  -- at 8: invokevirtual 169
  refine zz_virtP S yy_X8_stateCode lX8_169 (ci := 8) (by decide) rfl (co_stateCode x 4 nc (zz_u im 470 0 0) (by rw [(zPre.t im).s]; exact hI.2.2.1) hI.2.2.2.1) rfl (Nat.le_of_ble_eq_true rfl) (Nat.le_of_ble_eq_true rfl) rfl (Nat.le_of_ble_eq_true rfl) rfl dX8_askAgain_8 (q := 11) rfl ?_
  rw [(zPre.t im).s]
  refine zz_istore_2 S rfl dX8_askAgain_11 (q := 12) rfl ?_
  refine zz_iload_2 S dX8_askAgain_12 (q := 13) rfl ?_
  refine zz_if_ge S dX8_askAgain_13 (t := 18) (by decide) (q := 16) rfl (fun h1 => ?_) (fun h1 => ?_)
  -- then 18 else 16
  · obtain ⟨k, hk, ek, -⟩ := op_cSt_ok hI.2.2.1 hI.2.2.2.1 h1
    have ec : x.toNatClampNeg = k := by rw [ek]; exact nI_clamp (by omega)
    refine zz_aload_0 S dX8_askAgain_18 (q := 19) rfl ?_
    -- at 19: invokevirtual 95
    refine zz_virtV S yy_X8_act lX8_95 (ci := 8) (by decide) rfl (co_act (zz_u im 470 0 0) n h ((zPre.t im).h hh)) rfl (Nat.le_of_ble_eq_true rfl) (Nat.le_of_ble_eq_true rfl) rfl (Nat.le_of_ble_eq_true rfl) rfl dX8_askAgain_19 (q := 22) rfl ?_
    intro im2 ha
    have e471 : im2 471 = im 471 := (zAct_s ha.2.2).trans (zPre.t im).s
    refine zz_aload_0 S dX8_askAgain_22 (q := 23) rfl ?_
    refine zz_iload_1 S dX8_askAgain_23 (q := 24) rfl ?_
    refine zz_iconst S (v := 4) rfl dX8_askAgain_24 (q := 25) rfl ?_
    refine zz_iconst S (v := 0) rfl dX8_askAgain_25 (q := 26) rfl ?_
    -- at 26: invokevirtual 151
    refine zz_virtV S yy_X8_put lX8_151 (ci := 8) (by decide) rfl (co_put x 4 0 k 4 im2 ek rfl (by omega)) rfl (Nat.le_of_ble_eq_true rfl) (Nat.le_of_ble_eq_true rfl) rfl (Nat.le_of_ble_eq_true rfl) rfl dX8_askAgain_26 (q := 29) rfl ?_
    rintro im3 rfl
    have e3 : (zz_u im2 471 (38 + 8 * k + 4) 0) 471 = op_again (im 471) k := by rw [zz_u_row, e471]; rfl
    refine zz_aload_0 S dX8_askAgain_29 (q := 30) rfl ?_
    refine zz_iload_1 S dX8_askAgain_30 (q := 31) rfl ?_
    -- at 31: invokevirtual 166
    refine zz_virtI S yy_X8_reasonFor lX8_166 (ci := 8) (by decide) rfl (co_reasonFor x k nw nc (zz_u im2 471 (38 + 8 * k + 4) 0) ek (by rw [e3]; exact sI_again hI hk) hk) rfl (Nat.le_of_ble_eq_true rfl) (Nat.le_of_ble_eq_true rfl) rfl (Nat.le_of_ble_eq_true rfl) rfl dX8_askAgain_31 (q := 34) rfl ?_
    rintro r im4 ⟨rfl, hb⟩
    refine zz_iret S dX8_askAgain_34 ⟨rfl, _, rfl, rfl, ?_⟩
    show zPQ _ _ _ _
    rw [ox_again, if_pos h1, ec]
    exact ⟨by rw [e3], zP_act (zPre.t im) ha (by rw [hb 471 (by decide), e3]) ((zz_keep.rf.u (by decide)).tr hb (by decide))⟩
  · refine zz_iload_2 S dX8_askAgain_16 (q := 17) rfl ?_
    -- at 17: ireturn 
    refine zz_iret S dX8_askAgain_17 ⟨rfl, _, rfl, rfl, ?_⟩
    show zPQ _ _ _ _
    rw [ox_again, if_neg h1]
    exact ⟨rfl, zP_same (zPre.t im) hh⟩
theorem zs_slot {x : Int32} {b k : Nat} {y : Int32} (hx : x = nI b) (hy : y = nI k) : 118 + 119 * x + 1 + y = nI (119 + 119 * b + k) := by
  rw [hx, hy]
  show nI 118 + nI 119 * nI b + nI 1 + nI k = _
  rw [pk_mul, nI_add, nI_add, nI_add]
  congr 1
  omega
set_option maxHeartbeats 4000000 in
theorem lo_take {n0 mcT msT : Nat} {isI : Bool} {Qf : Option Value → ZE → ZI → Prop} {w : Nat → ZL → List Value → Nat → ZE → ZI → Prop} {z b : Nat} {x : Int32} {im : ZI} (S : zz_S G l RX8 cX8_take 3 2 n0 mcT msT isI (some .int) Qf w) (hb : b < 2) (hx : x = nI b)
    (hQ : ∀ y, w 62 [some (.ref 470), some (.int x), some (.int y)] [] z zE (zz_fo im 471 (119 + 119 * b) (im 471) 118)) :
    ∀ (n k : Nat) (y : Int32), k + n = 118 → y = nI k → w 31 [some (.ref 470), some (.int x), some (.int y)] [] z zE (zz_fo im 471 (119 + 119 * b) (im 471) k) := by
  intro n
  induction n with
  | zero =>
    intro k y hk hy
    have hk : k = 118 := by omega
    subst hk
    refine zz_iload_2 S dX8_take_31 (q := 32) rfl ?_
    refine zz_bipush S (v := 118) rfl dX8_take_32 (q := 34) rfl ?_
    refine zz_icmp_ge S dX8_take_34 (t := 62) (by decide) (q := 37) rfl (fun a1 => ?_) (fun a1 => ?_)
    -- then 62 else 37
    · exact hQ y
    · exact absurd (by rw [hy, ge_iff_le, Int32.le_iff_toInt_le]; decide) a1
  | succ n ih =>
    intro k y hk hy
    have hy1 := nI_toInt (n := k) (by omega)
    refine zz_iload_2 S dX8_take_31 (q := 32) rfl ?_
    refine zz_bipush S (v := 118) rfl dX8_take_32 (q := 34) rfl ?_
    refine zz_icmp_ge S dX8_take_34 (t := 62) (by decide) (q := 37) rfl (fun a1 => ?_) (fun a1 => ?_)
    -- then 62 else 37
    · exact absurd a1 (by rw [hy, ge_iff_le, Int32.le_iff_toInt_le, hy1]; show ¬ (118 : Int) ≤ _; omega)
    · refine zz_aload_0 S dX8_take_37 (q := 38) rfl ?_
      refine zz_getR S fX8_7 rfl (Nat.le_of_ble_eq_true rfl) rfl rfl dX8_take_38 (q := 41) rfl ?_
      refine zz_iload_1 S dX8_take_41 (q := 42) rfl ?_
      -- at 42: invokestatic 196
      refine zz_statP S yy_X8_slotAt lX8_196 (co_slotAt x zE (zz_fo im 471 (119 + 119 * b) (im 471) k)) rfl (Nat.le_of_ble_eq_true rfl) (Nat.le_of_ble_eq_true rfl) rfl dX8_take_42 (q := 45) rfl ?_
      refine zz_iconst S (v := 1) rfl dX8_take_45 (q := 46) rfl ?_
      refine zz_iadd S dX8_take_46 (q := 47) rfl ?_
      refine zz_iload_2 S dX8_take_47 (q := 48) rfl ?_
      refine zz_iadd S dX8_take_48 (q := 49) rfl ?_
      refine zz_aload_0 S dX8_take_49 (q := 50) rfl ?_
      refine zz_getR S fX8_7 rfl (Nat.le_of_ble_eq_true rfl) rfl rfl dX8_take_50 (q := 53) rfl ?_
      refine zz_iload_2 S dX8_take_53 (q := 54) rfl ?_
      refine zz_iaN S (j := k) (Nat.le_of_ble_eq_true rfl) rfl (Nat.le_of_ble_eq_true rfl) hy (by omega) dX8_take_54 (q := 55) rfl ?_
      refine zz_iaS S (j := 119 + 119 * b + k) (Nat.le_of_ble_eq_true rfl) rfl (Nat.le_of_ble_eq_true rfl) (zs_slot hx hy) (by omega) dX8_take_55 (q := 56) rfl ?_
      refine zz_iinc_2 S rfl dX8_take_56 (q := 59) rfl ?_
      refine zz_goto S dX8_take_59 (t := 31) (by decide) ?_
      -- at 31
      rw [zz_fo_s (by rw [zz_fo_at, if_neg (by omega)])]
      exact ih (k + 1) _ (by omega) (by rw [hy]; exact nI_add k 1)
theorem co_take (x : Int32) (im : ZI) (n : Nat) (h : Nat → ZSt) (hh : zm_h im n h) : zz_OI G l 2 mX8_take [.ref 470, .int x] zE im (fun r im' => zPQ im im' r (ox_take (im 471) n h x)) := by
  refine zz_intro (isI := false) (by decide) rfl (Nat.le_of_ble_eq_true rfl) (fun h => by cases h) (fun w S => ?_)
  refine zz_aload_0 S dX8_take_0 (q := 1) rfl ?_
  refine zz_iconst S (v := 0) rfl dX8_take_1 (q := 2) rfl ?_
  refine zz_putI S fX8_35 rfl rfl (Nat.le_of_ble_eq_true rfl) rfl dX8_take_2 (q := 5) rfl ?_
  refine zz_iload_1 S dX8_take_5 (q := 6) rfl ?_
  -- at 6: invokestatic 193
  refine zz_statP S yy_X8_isBit lX8_193 (co_isBit x zE (zz_u im 470 0 0)) rfl (Nat.le_of_ble_eq_true rfl) (Nat.le_of_ble_eq_true rfl) rfl dX8_take_6 (q := 9) rfl ?_
  refine zz_if_ne S dX8_take_9 (t := 15) (by decide) (q := 12) rfl (fun h1 => ?_) (fun h1 => ?_)
  -- then 15 else 12
  · have hp := zs_ne0 h1
    obtain ⟨b, hb, eb⟩ := zs_within (n := 2) (by omega) hp
    have ec : x.toNatClampNeg = b := by rw [eb]; exact nI_clamp (by omega)
    have e8 : 118 + 119 * x = nI (118 + 119 * b) := by
      rw [eb]
      show nI 118 + nI 119 * nI b = _
      rw [pk_mul, nI_add]
    refine zz_aload_0 S dX8_take_15 (q := 16) rfl ?_
    -- at 16: invokevirtual 95
    refine zz_virtV S yy_X8_act lX8_95 (ci := 8) (by decide) rfl (co_act (zz_u im 470 0 0) n h ((zPre.t im).h hh)) rfl (Nat.le_of_ble_eq_true rfl) (Nat.le_of_ble_eq_true rfl) rfl (Nat.le_of_ble_eq_true rfl) rfl dX8_take_16 (q := 19) rfl ?_
    intro im2 ha
    have e471 : im2 471 = im 471 := (zAct_s ha.2.2).trans (zPre.t im).s
    refine zz_aload_0 S dX8_take_19 (q := 20) rfl ?_
    refine zz_getR S fX8_7 rfl (Nat.le_of_ble_eq_true rfl) rfl rfl dX8_take_20 (q := 23) rfl ?_
    refine zz_iload_1 S dX8_take_23 (q := 24) rfl ?_
    -- at 24: invokestatic 196
    refine zz_statP S yy_X8_slotAt lX8_196 (co_slotAt x zE im2) rfl (Nat.le_of_ble_eq_true rfl) (Nat.le_of_ble_eq_true rfl) rfl dX8_take_24 (q := 27) rfl ?_
    refine zz_iconst S (v := 1) rfl dX8_take_27 (q := 28) rfl ?_
    refine zz_iaS S (j := 118 + 119 * b) (Nat.le_of_ble_eq_true rfl) rfl (Nat.le_of_ble_eq_true rfl) e8 (by omega) dX8_take_28 (q := 29) rfl ?_
    refine zz_iconst S (v := 0) rfl dX8_take_29 (q := 30) rfl ?_
    refine zz_istore_2 S rfl dX8_take_30 (q := 31) rfl ?_
    -- at 31
    have key := lo_take (im := zz_u im2 471 (118 + 119 * b) 1) (z := 0) S hb eb (fun y => ?_) 118 0 0 (by omega) rfl
    · rw [zz_fo_0] at key
      exact key
    · have e9 : (zz_fo (zz_u im2 471 (118 + 119 * b) 1) 471 (119 + 119 * b) (zz_u im2 471 (118 + 119 * b) 1 471) 118) 471 = op_take (im 471) b := by
        funext j
        rw [zz_fo_at, op_take]
        by_cases h1 : j = 118 + 119 * b
        · rw [if_pos h1, if_neg (by omega), h1, zz_u_e]
        · rw [if_neg h1]
          by_cases h2 : 119 + 119 * b ≤ j ∧ j < 119 + 119 * b + 118
          · rw [if_pos h2, if_pos h2, zz_u_n _ _ (Or.inr (by omega)), e471]
          · rw [if_neg h2, if_neg h2, zz_u_n _ _ (Or.inr h1), e471]
      refine zz_aload_0 S dX8_take_62 (q := 63) rfl ?_
      refine zz_getR S fX8_7 rfl (Nat.le_of_ble_eq_true rfl) rfl rfl dX8_take_63 (q := 66) rfl ?_
      refine zz_iconst S (v := 1) rfl dX8_take_66 (q := 67) rfl ?_
      refine zz_iaN S (j := 1) (Nat.le_of_ble_eq_true rfl) rfl (Nat.le_of_ble_eq_true rfl) rfl (Nat.le_of_ble_eq_true rfl) dX8_take_67 (q := 68) rfl ?_
      -- at 68: ireturn 
      refine zz_iret S dX8_take_68 ⟨rfl, _, rfl, rfl, ?_⟩
      show zPQ _ _ _ _
      rw [ox_take, if_pos hp, ec]
      refine ⟨?_, zP_act (zPre.t im) ha e9 (fun k hk => ?_)⟩
      · rw [e9]
        show op_take (im 471) b 1 = im 471 1
        rw [op_take, if_neg (by omega), if_neg (by omega)]
      · rw [zz_fo_off (fun e => hk (by rw [e]; decide)), zz_u_off _ _ _ _ (fun e => hk (by rw [e]; decide))]
  · refine zz_ldc S (v := (-100001)) kX8_94 dX8_take_12 (q := 14) rfl ?_
    -- at 14: ireturn 
    refine zz_iret S dX8_take_14 ⟨rfl, _, rfl, rfl, ?_⟩
    show zPQ _ _ _ _
    rw [ox_take, if_neg (zs_b1.mp h1)]
    exact ⟨rfl, zP_same (zPre.t im) hh⟩
set_option maxHeartbeats 4000000 in
theorem lo_restore {n0 mcT msT : Nat} {isI : Bool} {Qf : Option Value → ZE → ZI → Prop} {w : Nat → ZL → List Value → Nat → ZE → ZI → Prop} {z b : Nat} {x : Int32} {im : ZI} (S : zz_S G l RX8 cX8_restore 3 2 n0 mcT msT isI (some .int) Qf w) (hb : b < 2) (hx : x = nI b)
    (hQ : ∀ y, w 67 [some (.ref 470), some (.int x), some (.int y)] [] z zE (zz_fo im 471 0 (fun j => im 471 (119 + 119 * b + j)) 118)) :
    ∀ (n k : Nat) (y : Int32), k + n = 118 → y = nI k → w 36 [some (.ref 470), some (.int x), some (.int y)] [] z zE (zz_fo im 471 0 (fun j => im 471 (119 + 119 * b + j)) k) := by
  intro n
  induction n with
  | zero =>
    intro k y hk hy
    have hk : k = 118 := by omega
    subst hk
    refine zz_iload_2 S dX8_restore_36 (q := 37) rfl ?_
    refine zz_bipush S (v := 118) rfl dX8_restore_37 (q := 39) rfl ?_
    refine zz_icmp_ge S dX8_restore_39 (t := 67) (by decide) (q := 42) rfl (fun a1 => ?_) (fun a1 => ?_)
    -- then 67 else 42
    · exact hQ y
    · exact absurd (by rw [hy, ge_iff_le, Int32.le_iff_toInt_le]; decide) a1
  | succ n ih =>
    intro k y hk hy
    have hy1 := nI_toInt (n := k) (by omega)
    refine zz_iload_2 S dX8_restore_36 (q := 37) rfl ?_
    refine zz_bipush S (v := 118) rfl dX8_restore_37 (q := 39) rfl ?_
    refine zz_icmp_ge S dX8_restore_39 (t := 67) (by decide) (q := 42) rfl (fun a1 => ?_) (fun a1 => ?_)
    -- then 67 else 42
    · exact absurd a1 (by rw [hy, ge_iff_le, Int32.le_iff_toInt_le, hy1]; show ¬ (118 : Int) ≤ _; omega)
    · refine zz_aload_0 S dX8_restore_42 (q := 43) rfl ?_
      refine zz_getR S fX8_7 rfl (Nat.le_of_ble_eq_true rfl) rfl rfl dX8_restore_43 (q := 46) rfl ?_
      refine zz_iload_2 S dX8_restore_46 (q := 47) rfl ?_
      refine zz_aload_0 S dX8_restore_47 (q := 48) rfl ?_
      refine zz_getR S fX8_7 rfl (Nat.le_of_ble_eq_true rfl) rfl rfl dX8_restore_48 (q := 51) rfl ?_
      refine zz_iload_1 S dX8_restore_51 (q := 52) rfl ?_
      -- at 52: invokestatic 196
      refine zz_statP S yy_X8_slotAt lX8_196 (co_slotAt x zE (zz_fo im 471 0 (fun j => im 471 (119 + 119 * b + j)) k)) rfl (Nat.le_of_ble_eq_true rfl) (Nat.le_of_ble_eq_true rfl) rfl dX8_restore_52 (q := 55) rfl ?_
      refine zz_iconst S (v := 1) rfl dX8_restore_55 (q := 56) rfl ?_
      refine zz_iadd S dX8_restore_56 (q := 57) rfl ?_
      refine zz_iload_2 S dX8_restore_57 (q := 58) rfl ?_
      refine zz_iadd S dX8_restore_58 (q := 59) rfl ?_
      refine zz_iaN S (j := 119 + 119 * b + k) (Nat.le_of_ble_eq_true rfl) rfl (Nat.le_of_ble_eq_true rfl) (zs_slot hx hy) (by omega) dX8_restore_59 (q := 60) rfl ?_
      refine zz_iaS S (j := k) (Nat.le_of_ble_eq_true rfl) rfl (Nat.le_of_ble_eq_true rfl) hy (by omega) dX8_restore_60 (q := 61) rfl ?_
      refine zz_iinc_2 S rfl dX8_restore_61 (q := 64) rfl ?_
      refine zz_goto S dX8_restore_64 (t := 36) (by decide) ?_
      -- at 36
      have e2 := zz_fo_s (im := im) (r := 471) (b := 0) (f := fun j => im 471 (119 + 119 * b + j)) (k := k) (v := zz_fo im 471 0 (fun j => im 471 (119 + 119 * b + j)) k 471 (119 + 119 * b + k)) (by rw [zz_fo_at, if_neg (by omega)])
      rw [Nat.zero_add] at e2
      rw [e2]
      exact ih (k + 1) _ (by omega) (by rw [hy]; exact nI_add k 1)
theorem co_restore (x : Int32) (im : ZI) (n : Nat) (h : Nat → ZSt) (hh : zm_h im n h) : zz_OI G l 2 mX8_restore [.ref 470, .int x] zE im (fun r im' => zPQ im im' r (ox_rest (im 471) n h x)) := by
  refine zz_intro (isI := false) (by decide) rfl (Nat.le_of_ble_eq_true rfl) (fun h => by cases h) (fun w S => ?_)
  refine zz_aload_0 S dX8_restore_0 (q := 1) rfl ?_
  refine zz_iconst S (v := 0) rfl dX8_restore_1 (q := 2) rfl ?_
  refine zz_putI S fX8_35 rfl rfl (Nat.le_of_ble_eq_true rfl) rfl dX8_restore_2 (q := 5) rfl ?_
  refine zz_iload_1 S dX8_restore_5 (q := 6) rfl ?_
  -- at 6: invokestatic 193
  refine zz_statP S yy_X8_isBit lX8_193 (co_isBit x zE (zz_u im 470 0 0)) rfl (Nat.le_of_ble_eq_true rfl) (Nat.le_of_ble_eq_true rfl) rfl dX8_restore_6 (q := 9) rfl ?_
  refine zz_if_ne S dX8_restore_9 (t := 15) (by decide) (q := 12) rfl (fun h1 => ?_) (fun h1 => ?_)
  -- then 15 else 12
  · have hp := zs_ne0 h1
    obtain ⟨b, hb, eb⟩ := zs_within (n := 2) (by omega) hp
    have ec : x.toNatClampNeg = b := by rw [eb]; exact nI_clamp (by omega)
    have e8 : 118 + 119 * x = nI (118 + 119 * b) := by
      rw [eb]
      show nI 118 + nI 119 * nI b = _
      rw [pk_mul, nI_add]
    refine zz_aload_0 S dX8_restore_15 (q := 16) rfl ?_
    refine zz_getR S fX8_7 rfl (Nat.le_of_ble_eq_true rfl) rfl rfl dX8_restore_16 (q := 19) rfl ?_
    refine zz_iload_1 S dX8_restore_19 (q := 20) rfl ?_
    -- at 20: invokestatic 196
    refine zz_statP S yy_X8_slotAt lX8_196 (co_slotAt x zE (zz_u im 470 0 0)) rfl (Nat.le_of_ble_eq_true rfl) (Nat.le_of_ble_eq_true rfl) rfl dX8_restore_20 (q := 23) rfl ?_
    refine zz_iaN S (j := 118 + 119 * b) (Nat.le_of_ble_eq_true rfl) rfl (Nat.le_of_ble_eq_true rfl) e8 (by omega) dX8_restore_23 (q := 24) rfl ?_
    refine zz_if_ne S dX8_restore_24 (t := 30) (by decide) (q := 27) rfl (fun h2 => ?_) (fun h2 => ?_)
    -- then 30 else 27
    · have h2' : ¬ im 471 (118 + 119 * b) = 0 := h2
      refine zz_aload_0 S dX8_restore_30 (q := 31) rfl ?_
      -- at 31: invokevirtual 95
      refine zz_virtV S yy_X8_act lX8_95 (ci := 8) (by decide) rfl (co_act (zz_u im 470 0 0) n h ((zPre.t im).h hh)) rfl (Nat.le_of_ble_eq_true rfl) (Nat.le_of_ble_eq_true rfl) rfl (Nat.le_of_ble_eq_true rfl) rfl dX8_restore_31 (q := 34) rfl ?_
      intro im2 ha
      have e471 : im2 471 = im 471 := (zAct_s ha.2.2).trans (zPre.t im).s
      refine zz_iconst S (v := 0) rfl dX8_restore_34 (q := 35) rfl ?_
      refine zz_istore_2 S rfl dX8_restore_35 (q := 36) rfl ?_
      -- at 36
      have key := lo_restore (im := im2) (z := 0) S hb eb (fun y => ?_) 118 0 0 (by omega) rfl
      · rw [zz_fo_0] at key
        exact key
      · have e9 : (zz_fo im2 471 0 (fun j => im2 471 (119 + 119 * b + j)) 118) 471 = op_rest (im 471) b := by
          funext j
          rw [zz_fo_at, op_rest, e471]
          by_cases h1 : j < 118
          · rw [if_pos (by omega), if_pos h1]
            rfl
          · rw [if_neg (by omega), if_neg h1]
        refine zz_aload_0 S dX8_restore_67 (q := 68) rfl ?_
        refine zz_getR S fX8_7 rfl (Nat.le_of_ble_eq_true rfl) rfl rfl dX8_restore_68 (q := 71) rfl ?_
        refine zz_iconst S (v := 1) rfl dX8_restore_71 (q := 72) rfl ?_
        refine zz_iaN S (j := 1) (Nat.le_of_ble_eq_true rfl) rfl (Nat.le_of_ble_eq_true rfl) rfl (Nat.le_of_ble_eq_true rfl) dX8_restore_72 (q := 73) rfl ?_
        -- at 73: ireturn 
        refine zz_iret S dX8_restore_73 ⟨rfl, _, rfl, rfl, ?_⟩
        show zPQ _ _ _ _
        rw [ox_rest, if_pos hp, ec, if_neg h2']
        refine ⟨?_, zP_act (zPre.t im) ha e9 (fun k hk => ?_)⟩
        · rw [e9, op_rest, if_pos (by decide)]
        · exact zz_fo_off (fun e => hk (by rw [e]; decide))
    · have h2' : im 471 (118 + 119 * b) = 0 := h2
      refine zz_ldc S (v := (-100002)) kX8_165 dX8_restore_27 (q := 29) rfl ?_
      -- at 29: ireturn 
      refine zz_iret S dX8_restore_29 ⟨rfl, _, rfl, rfl, ?_⟩
      show zPQ _ _ _ _
      rw [ox_rest, if_pos hp, ec, if_pos h2']
      exact ⟨rfl, zP_same (zPre.t im) hh⟩
  · refine zz_ldc S (v := (-100001)) kX8_94 dX8_restore_12 (q := 14) rfl ?_
    -- at 14: ireturn 
    refine zz_iret S dX8_restore_14 ⟨rfl, _, rfl, rfl, ?_⟩
    show zPQ _ _ _ _
    rw [ox_rest, if_neg (zs_b1.mp h1)]
    exact ⟨rfl, zP_same (zPre.t im) hh⟩
set_option maxHeartbeats 4000000 in
theorem lo_undo {n0 mcT msT : Nat} {isI : Bool} {Qf : Option Value → ZE → ZI → Prop} {w : Nat → ZL → List Value → Nat → ZE → ZI → Prop} {z m : Nat} {im : ZI} (S : zz_S G l RX8 cX8_undo 2 0 n0 mcT msT isI (some .int) Qf w) (hm : m < 5) (h4 : im 470 4 = nI m)
    (hQ : ∀ y, w 61 [some (.ref 470), some (.int y)] [] z zE (zz_fo im 471 0 (fun j => im 473 (356 * m + j)) 356)) :
    ∀ (n k : Nat) (y : Int32), k + n = 356 → y = nI k → w 27 [some (.ref 470), some (.int y)] [] z zE (zz_fo im 471 0 (fun j => im 473 (356 * m + j)) k) := by
  intro n
  induction n with
  | zero =>
    intro k y hk hy
    have hk : k = 356 := by omega
    subst hk
    refine zz_iload_1 S dX8_undo_27 (q := 28) rfl ?_
    refine zz_sipush S (v := 356) rfl dX8_undo_28 (q := 31) rfl ?_
    refine zz_icmp_ge S dX8_undo_31 (t := 61) (by decide) (q := 34) rfl (fun a1 => ?_) (fun a1 => ?_)
    -- then 61 else 34
    · exact hQ y
    · exact absurd (by rw [hy, ge_iff_le, Int32.le_iff_toInt_le]; decide) a1
  | succ n ih =>
    intro k y hk hy
    have hy1 := nI_toInt (n := k) (by omega)
    have e1 : 356 * zz_fo im 471 0 (fun j => im 473 (356 * m + j)) k 470 4 + y = nI (356 * m + k) := by
      rw [zz_fo_off (by decide), h4, hy]
      show nI 356 * nI m + nI k = _
      rw [pk_mul, nI_add]
    refine zz_iload_1 S dX8_undo_27 (q := 28) rfl ?_
    refine zz_sipush S (v := 356) rfl dX8_undo_28 (q := 31) rfl ?_
    refine zz_icmp_ge S dX8_undo_31 (t := 61) (by decide) (q := 34) rfl (fun a1 => ?_) (fun a1 => ?_)
    -- then 61 else 34
    · exact absurd a1 (by rw [hy, ge_iff_le, Int32.le_iff_toInt_le, hy1]; show ¬ (356 : Int) ≤ _; omega)
    · refine zz_aload_0 S dX8_undo_34 (q := 35) rfl ?_
      refine zz_getR S fX8_7 rfl (Nat.le_of_ble_eq_true rfl) rfl rfl dX8_undo_35 (q := 38) rfl ?_
      refine zz_iload_1 S dX8_undo_38 (q := 39) rfl ?_
      refine zz_aload_0 S dX8_undo_39 (q := 40) rfl ?_
      refine zz_getR S fX8_16 rfl (Nat.le_of_ble_eq_true rfl) rfl rfl dX8_undo_40 (q := 43) rfl ?_
      refine zz_sipush S (v := 356) rfl dX8_undo_43 (q := 46) rfl ?_
      refine zz_aload_0 S dX8_undo_46 (q := 47) rfl ?_
      refine zz_getI S fX8_39 rfl (Nat.le_of_ble_eq_true rfl) rfl dX8_undo_47 (q := 50) rfl ?_
      refine zz_imul S dX8_undo_50 (q := 51) rfl ?_
      refine zz_iload_1 S dX8_undo_51 (q := 52) rfl ?_
      refine zz_iadd S dX8_undo_52 (q := 53) rfl ?_
      refine zz_iaN S (j := 356 * m + k) (Nat.le_of_ble_eq_true rfl) rfl (Nat.le_of_ble_eq_true rfl) e1 (by omega) dX8_undo_53 (q := 54) rfl ?_
      refine zz_iaS S (j := k) (Nat.le_of_ble_eq_true rfl) rfl (Nat.le_of_ble_eq_true rfl) hy (by omega) dX8_undo_54 (q := 55) rfl ?_
      refine zz_iinc_1 S rfl dX8_undo_55 (q := 58) rfl ?_
      refine zz_goto S dX8_undo_58 (t := 27) (by decide) ?_
      -- at 27
      have e2 := zz_fo_s (im := im) (r := 471) (b := 0) (f := fun j => im 473 (356 * m + j)) (k := k) (v := zz_fo im 471 0 (fun j => im 473 (356 * m + j)) k 473 (356 * m + k)) (by rw [zz_fo_off (by decide)])
      rw [Nat.zero_add] at e2
      rw [e2]
      exact ih (k + 1) _ (by omega) (by rw [hy]; exact nI_add k 1)
theorem co_undo (im : ZI) (n : Nat) (h : Nat → ZSt) (hh : zm_h im n h) : zz_OI G l 0 mX8_undo [.ref 470] zE im (fun r im' => zPQ im im' r (ox_undo (im 471) n h)) := by
  obtain ⟨hn, h4, hs⟩ := id hh
  have h4' : zz_u im 470 0 0 470 4 = nI n := by rw [zz_u_n _ _ (Or.inr (by decide))]; exact h4
  refine zz_intro (isI := false) (by decide) rfl (Nat.le_of_ble_eq_true rfl) (fun h => by cases h) (fun w S => ?_)
  refine zz_aload_0 S dX8_undo_0 (q := 1) rfl ?_
  refine zz_iconst S (v := 0) rfl dX8_undo_1 (q := 2) rfl ?_
  refine zz_putI S fX8_35 rfl rfl (Nat.le_of_ble_eq_true rfl) rfl dX8_undo_2 (q := 5) rfl ?_
  refine zz_aload_0 S dX8_undo_5 (q := 6) rfl ?_
  refine zz_getI S fX8_39 rfl (Nat.le_of_ble_eq_true rfl) rfl dX8_undo_6 (q := 9) rfl ?_
  refine zz_if_ne S dX8_undo_9 (t := 15) (by decide) (q := 12) rfl (fun h1 => ?_) (fun h1 => ?_)
  -- then 15 else 12
  · have hn0 : n ≠ 0 := fun e => h1 (by rw [h4', e]; rfl)
    obtain ⟨m, rfl⟩ : ∃ m, n = m + 1 := ⟨n - 1, by omega⟩
    refine zz_aload_0 S dX8_undo_15 (q := 16) rfl ?_
    refine zz_dup S rfl dX8_undo_16 (q := 17) rfl ?_
    refine zz_getI S fX8_39 rfl (Nat.le_of_ble_eq_true rfl) rfl dX8_undo_17 (q := 20) rfl ?_
    refine zz_iconst S (v := 1) rfl dX8_undo_20 (q := 21) rfl ?_
    refine zz_isub S dX8_undo_21 (q := 22) rfl ?_
    refine zz_putI S fX8_39 rfl rfl (Nat.le_of_ble_eq_true rfl) rfl dX8_undo_22 (q := 25) rfl ?_
    refine zz_iconst S (v := 0) rfl dX8_undo_25 (q := 26) rfl ?_
    refine zz_istore_1 S rfl dX8_undo_26 (q := 27) rfl ?_
    -- at 27
    have e4 : (zz_u (zz_u im 470 0 0) 470 4 (zz_u im 470 0 0 470 4 - 1)) 470 4 = nI m := by rw [zz_u_e, h4']; exact nI_pred m
    have e473 : (zz_u (zz_u im 470 0 0) 470 4 (zz_u im 470 0 0 470 4 - 1)) 473 = im 473 := rfl
    have e471 : (zz_u (zz_u im 470 0 0) 470 4 (zz_u im 470 0 0 470 4 - 1)) 471 = im 471 := rfl
    have eoff : ∀ k, k ≠ 470 → (zz_u (zz_u im 470 0 0) 470 4 (zz_u im 470 0 0 470 4 - 1)) k = im k := fun k hk => by rw [zz_u_off _ _ _ _ hk, zz_u_off _ _ _ _ hk]
    have e6 : (zz_u (zz_u im 470 0 0) 470 4 (zz_u im 470 0 0 470 4 - 1)) 470 6 = im 470 6 := by rw [zz_u_n _ _ (Or.inr (by decide)), zz_u_n _ _ (Or.inr (by decide))]
    generalize zz_u (zz_u im 470 0 0) 470 4 (zz_u im 470 0 0 470 4 - 1) = im1 at e4 e473 e471 eoff e6 ⊢
    have key := lo_undo (im := im1) (z := 0) S (by omega) e4 (fun y => ?_) 356 0 0 (by omega) rfl
    · rw [zz_fo_0] at key
      exact key
    · refine zz_aload_0 S dX8_undo_61 (q := 62) rfl ?_
      refine zz_getI S fX8_39 rfl (Nat.le_of_ble_eq_true rfl) rfl dX8_undo_62 (q := 65) rfl ?_
      -- at 65: ireturn 
      refine zz_iret S dX8_undo_65 ⟨rfl, _, rfl, rfl, ?_⟩
      show zPQ _ _ _ _
      rw [ox_undo, if_neg hn0]
      refine ⟨?_, ?_, ⟨by show m ≤ 5; omega, ?_, fun i k hi hk => ?_⟩, ?_, ?_, fun k hk => ?_⟩
      · rw [zz_fo_off (by decide)]; exact e4
      · funext j
        rw [zz_fo_at, e473, e471]
        by_cases hj : j < 356
        · rw [if_pos (by omega)]
          show _ = (if j < 356 then h m j else im 471 j)
          rw [if_pos hj, ← hs m j (by omega) hj]
          rfl
        · rw [if_neg (by omega)]
          show _ = (if j < 356 then h m j else im 471 j)
          rw [if_neg hj]
      · rw [zz_fo_off (by decide)]; exact e4
      · rw [zz_fo_off (by decide), e473]
        exact hs i k (by have : i < m := hi; omega) hk
      · rw [zz_fo_off (by decide)]; exact e6
      · rw [zz_fo_off (by decide)]; exact eoff 474 (by decide)
      · rw [zz_fo_off (by omega)]; exact eoff k (by omega)
  · have hn0 : n = 0 := (nI_eq (a := n) (b := 0) (by omega) (by omega)).mp (h4'.symm.trans h1)
    refine zz_ldc S (v := (-100002)) kX8_165 dX8_undo_12 (q := 14) rfl ?_
    -- at 14: ireturn 
    refine zz_iret S dX8_undo_14 ⟨rfl, _, rfl, rfl, ?_⟩
    show zPQ _ _ _ _
    rw [ox_undo, if_pos hn0]
    exact ⟨rfl, zP_same (zPre.t im) hh⟩
/-- the text too -/
def zPT (im im' : ZI) (s' : ZSt) (n' : Nat) (h' : Nat → ZSt) (len' : Nat) (tx' : Nat → Int32) : Prop := im' 471 = s' ∧ zm_h im' n' h' ∧ im' 470 6 = nI len' ∧ im' 474 = tx' ∧ ∀ k, k < 470 → im' k = im k
theorem zPT_same {im im1 : ZI} (h : zPre im im1) {n len : Nat} {hs : Nat → ZSt} (hh : zm_h im n hs) (hl : im 470 6 = nI len) : zPT im im1 (im 471) n hs len (im 474) :=
  ⟨h.s, h.h hh, (h.2 6 (by decide)).trans hl, h.1 474 (by decide), zP_lt h.1 rfl⟩
def ot_app (len : Nat) (tx : Nat → Int32) (x : Int32) : Int32 × Nat × (Nat → Int32) := if x ≥ 1 ∧ x ≤ 255 then (if len = 140 then (-100003, len, tx) else (nI (len + 1), len + 1, upd tx len x)) else (-100001, len, tx)
theorem co_append (x : Int32) (im : ZI) (n len : Nat) (h : Nat → ZSt) (hh : zm_h im n h) (hl : im 470 6 = nI len) (hln : len ≤ 140) : zz_OI G l 1 mX8_append [.ref 470, .int x] zE im (fun r im' => r = (ot_app len (im 474) x).1 ∧ zPT im im' (im 471) n h (ot_app len (im 474) x).2.1 (ot_app len (im 474) x).2.2) := by
  have h6 : zz_u im 470 0 0 470 6 = nI len := by rw [zz_u_n _ _ (Or.inr (by decide))]; exact hl
  refine zz_intro (isI := false) (by decide) rfl (Nat.le_of_ble_eq_true rfl) (fun h => by cases h) (fun w S => ?_)
  refine zz_aload_0 S dX8_append_0 (q := 1) rfl ?_
  refine zz_iconst S (v := 0) rfl dX8_append_1 (q := 2) rfl ?_
  refine zz_putI S fX8_35 rfl rfl (Nat.le_of_ble_eq_true rfl) rfl dX8_append_2 (q := 5) rfl ?_
  refine zz_iload_1 S dX8_append_5 (q := 6) rfl ?_
  refine zz_iconst S (v := 1) rfl dX8_append_6 (q := 7) rfl ?_
  refine zz_sipush S (v := 255) rfl dX8_append_7 (q := 10) rfl ?_
  -- at 10: invokestatic 90
  refine zz_statP S yy_X8_in lX8_90 (co_in G l x 1 255 zE (zz_u im 470 0 0)) rfl (Nat.le_of_ble_eq_true rfl) (Nat.le_of_ble_eq_true rfl) rfl dX8_append_10 (q := 13) rfl ?_
  refine zz_if_ne S dX8_append_13 (t := 19) (by decide) (q := 16) rfl (fun h1 => ?_) (fun h1 => ?_)
  -- then 19 else 16
  · have hp := zs_ne0 h1
    refine zz_aload_0 S dX8_append_19 (q := 20) rfl ?_
    refine zz_getI S fX8_199 rfl (Nat.le_of_ble_eq_true rfl) rfl dX8_append_20 (q := 23) rfl ?_
    refine zz_sipush S (v := 140) rfl dX8_append_23 (q := 26) rfl ?_
    refine zz_icmp_ne S dX8_append_26 (t := 32) (by decide) (q := 29) rfl (fun h2 => ?_) (fun h2 => ?_)
    -- then 32 else 29
    · have hne : len ≠ 140 := fun e => h2 (by rw [h6, e]; rfl)
      refine zz_aload_0 S dX8_append_32 (q := 33) rfl ?_
      refine zz_getR S fX8_19 rfl (Nat.le_of_ble_eq_true rfl) rfl rfl dX8_append_33 (q := 36) rfl ?_
      refine zz_aload_0 S dX8_append_36 (q := 37) rfl ?_
      refine zz_getI S fX8_199 rfl (Nat.le_of_ble_eq_true rfl) rfl dX8_append_37 (q := 40) rfl ?_
      refine zz_iload_1 S dX8_append_40 (q := 41) rfl ?_
      refine zz_iaS S (j := len) (Nat.le_of_ble_eq_true rfl) rfl (Nat.le_of_ble_eq_true rfl) h6 (by omega) dX8_append_41 (q := 42) rfl ?_
      refine zz_aload_0 S dX8_append_42 (q := 43) rfl ?_
      refine zz_dup S rfl dX8_append_43 (q := 44) rfl ?_
      refine zz_getI S fX8_199 rfl (Nat.le_of_ble_eq_true rfl) rfl dX8_append_44 (q := 47) rfl ?_
      refine zz_iconst S (v := 1) rfl dX8_append_47 (q := 48) rfl ?_
      refine zz_iadd S dX8_append_48 (q := 49) rfl ?_
      refine zz_putI S fX8_199 rfl rfl (Nat.le_of_ble_eq_true rfl) rfl dX8_append_49 (q := 52) rfl ?_
      refine zz_aload_0 S dX8_append_52 (q := 53) rfl ?_
      refine zz_getI S fX8_199 rfl (Nat.le_of_ble_eq_true rfl) rfl dX8_append_53 (q := 56) rfl ?_
      -- at 56: ireturn 
      refine zz_iret S dX8_append_56 ⟨rfl, _, rfl, rfl, ?_⟩
      rw [ot_app, if_pos hp, if_neg hne]
      refine ⟨?_, ?_, ⟨hh.1, ?_, fun i k a b => ?_⟩, ?_, ?_, fun k hk => ?_⟩
      · rw [zz_u_e, zz_u_off _ _ _ _ (by decide), h6]; exact nI_1 len
      · rfl
      · rw [zz_u_n _ _ (Or.inr (by decide)), zz_u_off _ _ _ _ (by decide), zz_u_n _ _ (Or.inr (by decide))]; exact hh.2.1
      · exact hh.2.2 i k a b
      · rw [zz_u_e, zz_u_off _ _ _ _ (by decide), h6]; exact nI_1 len
      · rw [zz_u_off _ _ _ _ (by decide), zz_u_row, zz_u_off _ _ _ _ (by decide)]
      · rw [zz_u_off _ _ _ _ (by omega), zz_u_off _ _ _ _ (by omega), zz_u_off _ _ _ _ (by omega)]
    · have he : len = 140 := (nI_eq (a := len) (b := 140) (by omega) (by omega)).mp (h6.symm.trans h2)
      refine zz_ldc S (v := (-100003)) kX8_104 dX8_append_29 (q := 31) rfl ?_
      -- at 31: ireturn 
      refine zz_iret S dX8_append_31 ⟨rfl, _, rfl, rfl, ?_⟩
      rw [ot_app, if_pos hp, if_pos he]
      exact ⟨rfl, zPT_same (zPre.t im) hh hl⟩
  · refine zz_ldc S (v := (-100001)) kX8_94 dX8_append_16 (q := 18) rfl ?_
    -- at 18: ireturn 
    refine zz_iret S dX8_append_18 ⟨rfl, _, rfl, rfl, ?_⟩
    rw [ot_app, if_neg (zs_b1.mp h1)]
    exact ⟨rfl, zPT_same (zPre.t im) hh hl⟩
theorem co_clearText (im : ZI) (n len : Nat) (h : Nat → ZSt) (hh : zm_h im n h) (hl : im 470 6 = nI len) : zz_OI G l 0 mX8_clearText [.ref 470] zE im (fun r im' => r = nI len ∧ zPT im im' (im 471) n h 0 (im 474)) := by
  refine zz_intro (isI := false) (by decide) rfl (Nat.le_of_ble_eq_true rfl) (fun h => by cases h) (fun w S => ?_)
  refine zz_aload_0 S dX8_clearText_0 (q := 1) rfl ?_
  refine zz_iconst S (v := 0) rfl dX8_clearText_1 (q := 2) rfl ?_
  refine zz_putI S fX8_35 rfl rfl (Nat.le_of_ble_eq_true rfl) rfl dX8_clearText_2 (q := 5) rfl ?_
  refine zz_aload_0 S dX8_clearText_5 (q := 6) rfl ?_
  refine zz_getI S fX8_199 rfl (Nat.le_of_ble_eq_true rfl) rfl dX8_clearText_6 (q := 9) rfl ?_
  refine zz_istore_1 S rfl dX8_clearText_9 (q := 10) rfl ?_
  refine zz_aload_0 S dX8_clearText_10 (q := 11) rfl ?_
  refine zz_iconst S (v := 0) rfl dX8_clearText_11 (q := 12) rfl ?_
  refine zz_putI S fX8_199 rfl rfl (Nat.le_of_ble_eq_true rfl) rfl dX8_clearText_12 (q := 15) rfl ?_
  refine zz_iload_1 S dX8_clearText_15 (q := 16) rfl ?_
  -- at 16: ireturn 
  refine zz_iret S dX8_clearText_16 ⟨rfl, _, rfl, rfl, ?_⟩
  refine ⟨?_, rfl, ⟨hh.1, ?_, fun i k a b => hh.2.2 i k a b⟩, ?_, rfl, fun k hk => ?_⟩
  · rw [zz_u_n _ _ (Or.inr (by decide))]; exact hl
  · rw [zz_u_n _ _ (Or.inr (by decide)), zz_u_n _ _ (Or.inr (by decide))]; exact hh.2.1
  · rw [zz_u_e]; rfl
  · rw [zz_u_off _ _ _ _ (by omega), zz_u_off _ _ _ _ (by omega)]
end ZPUB2
