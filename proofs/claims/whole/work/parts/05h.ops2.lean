/-! THE REFERENCE: commissions that change their state -/
def op_mlG (wt : Nat → Int32) (lim : Int32) : Nat → Nat → Int32 → Int32 → (Nat → Int32) → Int32 × (Nat → Int32)
  | 0, _, _, m, st => (m, st)
  | n + 1, c, sm, m, st => if st c = 1 ∧ ¬ sm + wt c > lim then op_mlG wt lim n (c + 1) (sm + wt c) (m + 1) (upd st c 2) else op_mlG wt lim n (c + 1) sm m st
def op_ml (s : ZSt) (nc : Nat) (st : Nat → Int32) : Int32 × (Nat → Int32) := op_mlG (sp_wt s) (s 7) nc 0 0 0 st
def op_st (s : ZSt) : Nat → Int32 := fun c => s (38 + 8 * c + 4)
def op_cCas (s : ZSt) (nc : Nat) : Int32 := if (op_ml s nc (op_st s)).1 = 0 then -100002 else 0
def op_caG (st : Nat → Int32) : Nat → Nat → ZSt → ZSt
  | 0, _, s => s
  | n + 1, c, s => if st c = s (38 + 8 * c + 4) then op_caG st n (c + 1) s
      else op_caG st n (c + 1) (upd (upd (upd s (38 + 8 * c + 4) 2) (38 + 8 * c + 6) (s 2)) 3 (s 3 + sp_wt s c))
def op_cas (s : ZSt) (nc : Nat) : ZSt := upd (op_caG (op_ml s nc (op_st s)).2 nc 0 s) 2 (op_caG (op_ml s nc (op_st s)).2 nc 0 s 2 + 1)
theorem op_mlG_eq (wt : Nat → Int32) (lim : Int32) : ∀ (n c : Nat) (sm m : Int32) (st st' : Nat → Int32), (∀ j, c ≤ j → j < c + n → st j = st' j) →
    (op_mlG wt lim n c sm m st).1 = (op_mlG wt lim n c sm m st').1 ∧ (∀ j, c ≤ j → j < c + n → (op_mlG wt lim n c sm m st).2 j = (op_mlG wt lim n c sm m st').2 j) ∧ ∀ j, j < c → (op_mlG wt lim n c sm m st).2 j = st j := by
  intro n
  induction n with
  | zero => intro c sm m st st' _; exact ⟨rfl, fun j h1 h2 => absurd h2 (by omega), fun j _ => rfl⟩
  | succ n ih =>
    intro c sm m st st' h
    have hc := h c (Nat.le_refl _) (by omega)
    rw [op_mlG, op_mlG, ← hc]
    by_cases h1 : st c = 1 ∧ ¬ sm + wt c > lim
    · rw [if_pos h1, if_pos h1]
      have hu : ∀ j, c + 1 ≤ j → j < c + 1 + n → upd st c 2 j = upd st' c 2 j := fun j a b => by
        simp only [upd]
        rw [if_neg (by omega), if_neg (by omega)]
        exact h j (by omega) (by omega)
      obtain ⟨i1, i2, i3⟩ := ih (c + 1) (sm + wt c) (m + 1) _ _ hu
      obtain ⟨-, -, i4⟩ := ih (c + 1) (sm + wt c) (m + 1) (upd st' c 2) (upd st' c 2) (fun _ _ _ => rfl)
      refine ⟨i1, fun j a b => ?_, fun j a => ?_⟩
      · by_cases hj : j = c
        · subst hj
          rw [i3 j (by omega), i4 j (by omega)]
          simp [upd]
        · exact i2 j (by omega) (by omega)
      · rw [i3 j (by omega)]
        simp only [upd]
        rw [if_neg (by omega)]
    · rw [if_neg h1, if_neg h1]
      obtain ⟨i1, i2, i3⟩ := ih (c + 1) sm m st st' (fun j a b => h j (by omega) (by omega))
      obtain ⟨-, -, i4⟩ := ih (c + 1) sm m st' st' (fun _ _ _ => rfl)
      refine ⟨i1, fun j a b => ?_, fun j a => i3 j (by omega)⟩
      by_cases hj : j = c
      · subst hj
        rw [i3 j (by omega), i4 j (by omega), hc]
      · exact i2 j (by omega) (by omega)
section ZOPS2
variable {G : ZG} {l : Launch}
theorem co_askNow (la x sz lo : Int32) (c : Nat) (im : ZI) (hc : c < 10) (h1 : im 471 1 = nI c) : zz_OI G l 1 mX8_askNow [.ref 470, .int la, .int x, .int sz, .int lo] zE im (fun r im' => r = nI c ∧ im' 471 = op_ask (im 471) c la x sz lo ∧ zz_keep [471, 476, 477, 478] im im') := by
  refine zz_intro (isI := false) (by decide) rfl (Nat.le_of_ble_eq_true rfl) (fun h => by cases h) (fun w S => ?_)
  refine zz_aload_0 S dX8_askNow_0 (q := 1) rfl ?_
  refine zz_getR S fX8_7 rfl (Nat.le_of_ble_eq_true rfl) rfl rfl dX8_askNow_1 (q := 4) rfl ?_
  refine zz_iconst S (v := 1) rfl dX8_askNow_4 (q := 5) rfl ?_
  refine zz_iaN S (j := 1) (Nat.le_of_ble_eq_true rfl) rfl (Nat.le_of_ble_eq_true rfl) rfl (Nat.le_of_ble_eq_true rfl) dX8_askNow_5 (q := 6) rfl ?_
  refine zz_istore_5 S rfl dX8_askNow_6 (q := 8) rfl ?_
  refine zz_aload_0 S dX8_askNow_8 (q := 9) rfl ?_
  refine zz_getR S fX8_7 rfl (Nat.le_of_ble_eq_true rfl) rfl rfl dX8_askNow_9 (q := 12) rfl ?_
  refine zz_iconst S (v := 1) rfl dX8_askNow_12 (q := 13) rfl ?_
  refine zz_dup2 S rfl rfl dX8_askNow_13 (q := 14) rfl ?_
  refine zz_iaN S (j := 1) (Nat.le_of_ble_eq_true rfl) rfl (Nat.le_of_ble_eq_true rfl) rfl (Nat.le_of_ble_eq_true rfl) dX8_askNow_14 (q := 15) rfl ?_
  refine zz_iconst S (v := 1) rfl dX8_askNow_15 (q := 16) rfl ?_
  refine zz_iadd S dX8_askNow_16 (q := 17) rfl ?_
  refine zz_iaS S (j := 1) (Nat.le_of_ble_eq_true rfl) rfl (Nat.le_of_ble_eq_true rfl) rfl (Nat.le_of_ble_eq_true rfl) dX8_askNow_17 (q := 18) rfl ?_
  refine zz_aload_0 S dX8_askNow_18 (q := 19) rfl ?_
  refine zz_iload_5 S dX8_askNow_19 (q := 21) rfl ?_
  refine zz_iconst S (v := 0) rfl dX8_askNow_21 (q := 22) rfl ?_
  refine zz_iload_1 S dX8_askNow_22 (q := 23) rfl ?_
  refine zz_virtV S yy_X8_put lX8_151 (ci := 8) (by decide) rfl (co_put (im 471 1) 0 la c 0 _ h1 rfl (by omega)) rfl (Nat.le_of_ble_eq_true rfl) (Nat.le_of_ble_eq_true rfl) rfl (Nat.le_of_ble_eq_true rfl) rfl dX8_askNow_23 (q := 26) rfl (fun i23 q23 => ?_)
  subst q23
  refine zz_aload_0 S dX8_askNow_26 (q := 27) rfl ?_
  refine zz_iload_5 S dX8_askNow_27 (q := 29) rfl ?_
  refine zz_iconst S (v := 1) rfl dX8_askNow_29 (q := 30) rfl ?_
  refine zz_iload_2 S dX8_askNow_30 (q := 31) rfl ?_
  refine zz_virtV S yy_X8_put lX8_151 (ci := 8) (by decide) rfl (co_put (im 471 1) 1 x c 1 _ h1 rfl (by omega)) rfl (Nat.le_of_ble_eq_true rfl) (Nat.le_of_ble_eq_true rfl) rfl (Nat.le_of_ble_eq_true rfl) rfl dX8_askNow_31 (q := 34) rfl (fun i31 q31 => ?_)
  subst q31
  refine zz_aload_0 S dX8_askNow_34 (q := 35) rfl ?_
  refine zz_iload_5 S dX8_askNow_35 (q := 37) rfl ?_
  refine zz_iconst S (v := 2) rfl dX8_askNow_37 (q := 38) rfl ?_
  refine zz_iload_3 S dX8_askNow_38 (q := 39) rfl ?_
  refine zz_virtV S yy_X8_put lX8_151 (ci := 8) (by decide) rfl (co_put (im 471 1) 2 sz c 2 _ h1 rfl (by omega)) rfl (Nat.le_of_ble_eq_true rfl) (Nat.le_of_ble_eq_true rfl) rfl (Nat.le_of_ble_eq_true rfl) rfl dX8_askNow_39 (q := 42) rfl (fun i39 q39 => ?_)
  subst q39
  refine zz_aload_0 S dX8_askNow_42 (q := 43) rfl ?_
  refine zz_iload_5 S dX8_askNow_43 (q := 45) rfl ?_
  refine zz_iconst S (v := 3) rfl dX8_askNow_45 (q := 46) rfl ?_
  refine zz_iload_4 S dX8_askNow_46 (q := 48) rfl ?_
  refine zz_virtV S yy_X8_put lX8_151 (ci := 8) (by decide) rfl (co_put (im 471 1) 3 lo c 3 _ h1 rfl (by omega)) rfl (Nat.le_of_ble_eq_true rfl) (Nat.le_of_ble_eq_true rfl) rfl (Nat.le_of_ble_eq_true rfl) rfl dX8_askNow_48 (q := 51) rfl (fun i48 q48 => ?_)
  subst q48
  refine zz_aload_0 S dX8_askNow_51 (q := 52) rfl ?_
  refine zz_iload_5 S dX8_askNow_52 (q := 54) rfl ?_
  refine zz_iconst S (v := 4) rfl dX8_askNow_54 (q := 55) rfl ?_
  refine zz_iconst S (v := 0) rfl dX8_askNow_55 (q := 56) rfl ?_
  refine zz_virtV S yy_X8_put lX8_151 (ci := 8) (by decide) rfl (co_put (im 471 1) 4 0 c 4 _ h1 rfl (by omega)) rfl (Nat.le_of_ble_eq_true rfl) (Nat.le_of_ble_eq_true rfl) rfl (Nat.le_of_ble_eq_true rfl) rfl dX8_askNow_56 (q := 59) rfl (fun i56 q56 => ?_)
  subst q56
  refine zz_aload_0 S dX8_askNow_59 (q := 60) rfl ?_
  refine zz_iload_5 S dX8_askNow_60 (q := 62) rfl ?_
  refine zz_iconst S (v := 5) rfl dX8_askNow_62 (q := 63) rfl ?_
  refine zz_iconst S (v := 0) rfl dX8_askNow_63 (q := 64) rfl ?_
  refine zz_virtV S yy_X8_put lX8_151 (ci := 8) (by decide) rfl (co_put (im 471 1) 5 0 c 5 _ h1 rfl (by omega)) rfl (Nat.le_of_ble_eq_true rfl) (Nat.le_of_ble_eq_true rfl) rfl (Nat.le_of_ble_eq_true rfl) rfl dX8_askNow_64 (q := 67) rfl (fun i64 q64 => ?_)
  subst q64
  refine zz_aload_0 S dX8_askNow_67 (q := 68) rfl ?_
  refine zz_iload_5 S dX8_askNow_68 (q := 70) rfl ?_
  refine zz_bipush S (v := 6) rfl dX8_askNow_70 (q := 72) rfl ?_
  refine zz_ldc S (v := (-100009)) kX8_83 dX8_askNow_72 (q := 74) rfl ?_
  refine zz_virtV S yy_X8_put lX8_151 (ci := 8) (by decide) rfl (co_put (im 471 1) 6 (-100009) c 6 _ h1 rfl (by omega)) rfl (Nat.le_of_ble_eq_true rfl) (Nat.le_of_ble_eq_true rfl) rfl (Nat.le_of_ble_eq_true rfl) rfl dX8_askNow_74 (q := 77) rfl (fun i74 q74 => ?_)
  subst q74
  refine zz_aload_0 S dX8_askNow_77 (q := 78) rfl ?_
  refine zz_iload_5 S dX8_askNow_78 (q := 80) rfl ?_
  refine zz_bipush S (v := 7) rfl dX8_askNow_80 (q := 82) rfl ?_
  refine zz_iconst S (v := 0) rfl dX8_askNow_82 (q := 83) rfl ?_
  refine zz_virtV S yy_X8_put lX8_151 (ci := 8) (by decide) rfl (co_put (im 471 1) 7 0 c 7 _ h1 rfl (by omega)) rfl (Nat.le_of_ble_eq_true rfl) (Nat.le_of_ble_eq_true rfl) rfl (Nat.le_of_ble_eq_true rfl) rfl dX8_askNow_83 (q := 86) rfl (fun i83 q83 => ?_)
  subst q83
  refine zz_iload_5 S dX8_askNow_86 (q := 88) rfl ?_
  refine zz_iret S dX8_askNow_88 ⟨rfl, _, rfl, rfl, ?_⟩
  refine ⟨h1, ?_, ((((((((zz_keep.rf.u (by decide)).u (by decide)).u (by decide)).u (by decide)).u (by decide)).u (by decide)).u (by decide)).u (by decide)).u (by decide)⟩
  rw [zz_u_row, zz_u_row, zz_u_row, zz_u_row, zz_u_row, zz_u_row, zz_u_row, zz_u_row, zz_u_row, h1]
  rfl
theorem co_stateCode (x st : Int32) (nc : Nat) (im : ZI) (h1 : im 471 1 = nI nc) (hn : nc ≤ 10) : zz_OP G l 2 mX8_stateCode [.ref 470, .int x, .int st] zE im (op_cSt (im 471) x st) := by
  refine zz_intro (isI := false) (by decide) rfl (Nat.le_of_ble_eq_true rfl) (fun h => by cases h) (fun w S => ?_)
  refine zz_aload_0 S dX8_stateCode_0 (q := 1) rfl ?_
  refine zz_iload_1 S dX8_stateCode_1 (q := 2) rfl ?_
  -- at 2: invokevirtual 162
  refine zz_virtP S yy_X8_isCommission lX8_162 (ci := 8) (by decide) rfl (co_isCommission x im) rfl (Nat.le_of_ble_eq_true rfl) (Nat.le_of_ble_eq_true rfl) rfl (Nat.le_of_ble_eq_true rfl) rfl dX8_stateCode_2 (q := 5) rfl ?_
  refine zz_if_ne S dX8_stateCode_5 (t := 13) (by decide) (q := 8) rfl (fun a1 => ?_) (fun a1 => ?_)
  -- then 13 else 8
  · have a2 := zs_ne0 a1
    obtain ⟨k, hk, ek⟩ := zs_within (n := nc) (by omega) (by rw [h1] at a2; exact a2)
    have ec : x.toNatClampNeg = k := by rw [ek]; exact nI_clamp (by omega)
    refine zz_aload_0 S dX8_stateCode_13 (q := 14) rfl ?_
    refine zz_iload_1 S dX8_stateCode_14 (q := 15) rfl ?_
    refine zz_iconst S (v := 4) rfl dX8_stateCode_15 (q := 16) rfl ?_
    refine zz_virtP S yy_X8_of lX8_127 (ci := 8) (by decide) rfl (co_of x 4 k 4 im ek rfl (by omega)) rfl (Nat.le_of_ble_eq_true rfl) (Nat.le_of_ble_eq_true rfl) rfl (Nat.le_of_ble_eq_true rfl) rfl dX8_stateCode_16 (q := 19) rfl ?_
    refine zz_iload_2 S dX8_stateCode_19 (q := 20) rfl ?_
    refine zz_icmp_eq S dX8_stateCode_20 (t := 28) (by decide) (q := 23) rfl (fun b1 => ?_) (fun b1 => ?_)
    · refine zz_iconst S (v := 0) rfl dX8_stateCode_28 (q := 29) rfl ?_
      refine zz_iret S dX8_stateCode_29 ⟨rfl, _, rfl, rfl, ?_⟩
      first | exact ⟨by rw [op_cSt, if_pos a2, ec, if_pos b1], rfl⟩ | exact ⟨by rw [op_cSt, if_pos a2, ec, if_neg b1], rfl⟩
    · refine zz_ldc S (v := (-100002)) kX8_165 dX8_stateCode_23 (q := 25) rfl ?_
      refine zz_goto S dX8_stateCode_25 (t := 29) (by decide) ?_
      refine zz_iret S dX8_stateCode_29 ⟨rfl, _, rfl, rfl, ?_⟩
      first | exact ⟨by rw [op_cSt, if_pos a2, ec, if_pos b1], rfl⟩ | exact ⟨by rw [op_cSt, if_pos a2, ec, if_neg b1], rfl⟩
  · refine zz_ldc S (v := (-100001)) kX8_94 dX8_stateCode_8 (q := 10) rfl ?_
    refine zz_goto S dX8_stateCode_10 (t := 29) (by decide) ?_
    refine zz_iret S dX8_stateCode_29 ⟨rfl, _, rfl, rfl, ?_⟩
    exact ⟨by rw [op_cSt, if_neg (zs_b1.mp a1)], rfl⟩
theorem co_decideNow (x : Int32) (c nw nc : Nat) (im : ZI) (hx : x = nI c) (hI : sI (im 471) nw nc) (hc : c < nc) : zz_OI G l 7 mX8_decideNow [.ref 470, .int x] zE im (fun r im' => r = sp_re (im 471) c ∧ im' 471 = op_dec (im 471) c ∧ zz_keep [471, 476, 477, 478] im im') := by
  have hc10 : c < 10 := Nat.lt_of_lt_of_le hc hI.2.2.2.1
  refine zz_intro (isI := false) (by decide) rfl (Nat.le_of_ble_eq_true rfl) (fun h => by cases h) (fun w S => ?_)
  refine zz_aload_0 S dX8_decideNow_0 (q := 1) rfl ?_
  refine zz_iload_1 S dX8_decideNow_1 (q := 2) rfl ?_
  -- at 2: invokevirtual 166
  refine zz_virtI S yy_X8_reasonFor lX8_166 (ci := 8) (by decide) rfl (co_reasonFor x c nw nc im hx hI hc) rfl (Nat.le_of_ble_eq_true rfl) (Nat.le_of_ble_eq_true rfl) rfl (Nat.le_of_ble_eq_true rfl) rfl dX8_decideNow_2 (q := 5) rfl ?_
  rintro r im1 ⟨rfl, hk⟩
  have e471 : im1 471 = im 471 := hk 471 (by decide)
  have hk2 : zz_keep [471, 476, 477, 478] im im1 := hk.le (by decide)
  refine zz_istore_2 S rfl dX8_decideNow_5 (q := 6) rfl ?_
  refine zz_iload_2 S dX8_decideNow_6 (q := 7) rfl ?_
  refine zz_if_ne S dX8_decideNow_7 (t := 31) (by decide) (q := 10) rfl (fun a1 => ?_) (fun a1 => ?_)
  -- then 31 else 10
  · refine zz_aload_0 S dX8_decideNow_31 (q := 32) rfl ?_
    refine zz_iload_1 S dX8_decideNow_32 (q := 33) rfl ?_
    refine zz_bipush S (v := 7) rfl dX8_decideNow_33 (q := 35) rfl ?_
    refine zz_iload_2 S dX8_decideNow_35 (q := 36) rfl ?_
    -- at 36: invokevirtual 151
    refine zz_virtV S yy_X8_put lX8_151 (ci := 8) (by decide) rfl (co_put x 7 (sp_re (im 471) c) c 7 im1 hx rfl (by omega)) rfl (Nat.le_of_ble_eq_true rfl) (Nat.le_of_ble_eq_true rfl) rfl (Nat.le_of_ble_eq_true rfl) rfl dX8_decideNow_36 (q := 39) rfl ?_
    rintro im2 rfl
    refine zz_aload_0 S dX8_decideNow_39 (q := 40) rfl ?_
    refine zz_iload_1 S dX8_decideNow_40 (q := 41) rfl ?_
    refine zz_iconst S (v := 4) rfl dX8_decideNow_41 (q := 42) rfl ?_
    refine zz_iconst S (v := 4) rfl dX8_decideNow_42 (q := 43) rfl ?_
    -- at 43: invokevirtual 151
    refine zz_virtV S yy_X8_put lX8_151 (ci := 8) (by decide) rfl (co_put x 4 4 c 4 _ hx rfl (by omega)) rfl (Nat.le_of_ble_eq_true rfl) (Nat.le_of_ble_eq_true rfl) rfl (Nat.le_of_ble_eq_true rfl) rfl dX8_decideNow_43 (q := 46) rfl ?_
    rintro im3 rfl
    refine zz_iload_2 S dX8_decideNow_46 (q := 47) rfl ?_
    -- at 47: ireturn 
    refine zz_iret S dX8_decideNow_47 ⟨rfl, _, rfl, rfl, ?_⟩
    exact ⟨rfl, by rw [zz_u_row, zz_u_row, e471, op_dec, if_neg a1], (hk2.u (by decide)).u (by decide)⟩
  · refine zz_aload_0 S dX8_decideNow_10 (q := 11) rfl ?_
    refine zz_iload_1 S dX8_decideNow_11 (q := 12) rfl ?_
    refine zz_iconst S (v := 5) rfl dX8_decideNow_12 (q := 13) rfl ?_
    refine zz_aload_0 S dX8_decideNow_13 (q := 14) rfl ?_
    refine zz_iload_1 S dX8_decideNow_14 (q := 15) rfl ?_
    -- at 15: invokevirtual 130
    refine zz_virtP S yy_X8_declinationOf lX8_130 (ci := 8) (by decide) rfl (co_declinationOf x c nw nc im1 hx (by rw [e471]; exact hI) hc) rfl (Nat.le_of_ble_eq_true rfl) (Nat.le_of_ble_eq_true rfl) rfl (Nat.le_of_ble_eq_true rfl) rfl dX8_decideNow_15 (q := 18) rfl ?_
    refine zz_virtV S yy_X8_put lX8_151 (ci := 8) (by decide) rfl (co_put x 5 (sp_de (im1 471) c) c 5 im1 hx rfl (by omega)) rfl (Nat.le_of_ble_eq_true rfl) (Nat.le_of_ble_eq_true rfl) rfl (Nat.le_of_ble_eq_true rfl) rfl dX8_decideNow_18 (q := 21) rfl ?_
    rintro im2 rfl
    refine zz_aload_0 S dX8_decideNow_21 (q := 22) rfl ?_
    refine zz_iload_1 S dX8_decideNow_22 (q := 23) rfl ?_
    refine zz_iconst S (v := 4) rfl dX8_decideNow_23 (q := 24) rfl ?_
    refine zz_iconst S (v := 1) rfl dX8_decideNow_24 (q := 25) rfl ?_
    -- at 25: invokevirtual 151
    refine zz_virtV S yy_X8_put lX8_151 (ci := 8) (by decide) rfl (co_put x 4 1 c 4 _ hx rfl (by omega)) rfl (Nat.le_of_ble_eq_true rfl) (Nat.le_of_ble_eq_true rfl) rfl (Nat.le_of_ble_eq_true rfl) rfl dX8_decideNow_25 (q := 28) rfl ?_
    rintro im3 rfl
    refine zz_goto S dX8_decideNow_28 (t := 46) (by decide) ?_
    refine zz_iload_2 S dX8_decideNow_46 (q := 47) rfl ?_
    -- at 47: ireturn 
    refine zz_iret S dX8_decideNow_47 ⟨rfl, _, rfl, rfl, ?_⟩
    exact ⟨rfl, by rw [zz_u_row, zz_u_row, e471, op_dec, if_pos a1], (hk2.u (by decide)).u (by decide)⟩
set_option maxHeartbeats 4000000 in
theorem lo_inState {n0 mcT msT : Nat} {isI : Bool} {Qf : Option Value → ZE → ZI → Prop} {w : Nat → ZL → List Value → Nat → ZE → ZI → Prop} {z : Nat} {im : ZI} {st : Int32} {nc : Nat} (S : zz_S G l RX8 cX8_inState 4 1 n0 mcT msT isI (some .int) Qf w)
    (h1 : im 471 1 = nI nc) (hn : nc ≤ 10) (hQ : Qf (some (.int (op_in (im 471) nc st))) zE im) :
    ∀ (n c : Nat) (x m : Int32), c + n = nc → x = nI c → op_in (im 471) nc st = op_inG (im 471) st n c m → w 4 [some (.ref 470), some (.int st), some (.int m), some (.int x)] [] z zE im := by
  intro n
  induction n with
  | zero =>
    intro c x m hc hx hF
    have hc : c = nc := by omega
    subst hc
    refine zz_iload_3 S dX8_inState_4 (q := 5) rfl ?_
    refine zz_aload_0 S dX8_inState_5 (q := 6) rfl ?_
    refine zz_getR S fX8_7 rfl (Nat.le_of_ble_eq_true rfl) rfl rfl dX8_inState_6 (q := 9) rfl ?_
    refine zz_iconst S (v := 1) rfl dX8_inState_9 (q := 10) rfl ?_
    refine zz_iaN S (j := 1) (Nat.le_of_ble_eq_true rfl) rfl (Nat.le_of_ble_eq_true rfl) rfl (Nat.le_of_ble_eq_true rfl) dX8_inState_10 (q := 11) rfl ?_
    refine zz_icmp_ge S dX8_inState_11 (t := 38) (by decide) (q := 14) rfl (fun a1 => ?_) (fun a1 => ?_)
    -- then 38 else 14
    · refine zz_iload_2 S dX8_inState_38 (q := 39) rfl ?_
      -- at 39: ireturn 
      exact zz_iret S dX8_inState_39 (by rw [hF] at hQ; exact hQ)
    · exact absurd (by rw [h1, hx]; exact Int32.le_refl _) a1
  | succ n ih =>
    intro c x m hc hx hF
    refine zz_iload_3 S dX8_inState_4 (q := 5) rfl ?_
    refine zz_aload_0 S dX8_inState_5 (q := 6) rfl ?_
    refine zz_getR S fX8_7 rfl (Nat.le_of_ble_eq_true rfl) rfl rfl dX8_inState_6 (q := 9) rfl ?_
    refine zz_iconst S (v := 1) rfl dX8_inState_9 (q := 10) rfl ?_
    refine zz_iaN S (j := 1) (Nat.le_of_ble_eq_true rfl) rfl (Nat.le_of_ble_eq_true rfl) rfl (Nat.le_of_ble_eq_true rfl) dX8_inState_10 (q := 11) rfl ?_
    refine zz_icmp_ge S dX8_inState_11 (t := 38) (by decide) (q := 14) rfl (fun a1 => ?_) (fun a1 => ?_)
    -- then 38 else 14
    · exact absurd a1 (by rw [h1, hx]; exact nI_ge (by omega) (by omega))
    · refine zz_iload_2 S dX8_inState_14 (q := 15) rfl ?_
      refine zz_aload_0 S dX8_inState_15 (q := 16) rfl ?_
      refine zz_iload_3 S dX8_inState_16 (q := 17) rfl ?_
      refine zz_iconst S (v := 4) rfl dX8_inState_17 (q := 18) rfl ?_
      refine zz_virtP S yy_X8_of lX8_127 (ci := 8) (by decide) rfl (co_of x 4 c 4 im hx rfl (by omega)) rfl (Nat.le_of_ble_eq_true rfl) (Nat.le_of_ble_eq_true rfl) rfl (Nat.le_of_ble_eq_true rfl) rfl dX8_inState_18 (q := 21) rfl ?_
      refine zz_iload_1 S dX8_inState_21 (q := 22) rfl ?_
      refine zz_icmp_ne S dX8_inState_22 (t := 29) (by decide) (q := 25) rfl (fun b1 => ?_) (fun b1 => ?_)
      · refine zz_iconst S (v := 0) rfl dX8_inState_29 (q := 30) rfl ?_
        refine zz_iadd S dX8_inState_30 (q := 31) rfl ?_
        refine zz_istore_2 S rfl dX8_inState_31 (q := 32) rfl ?_
        refine zz_iinc_3 S rfl dX8_inState_32 (q := 35) rfl ?_
        refine zz_goto S dX8_inState_35 (t := 4) (by decide) ?_
        refine ih (c + 1) _ _ (by omega) (by rw [hx]; exact nI_add c 1) ?_
        rw [hF, op_inG]
        first | rw [if_pos b1] | rw [if_neg b1]
      · refine zz_iconst S (v := 1) rfl dX8_inState_25 (q := 26) rfl ?_
        refine zz_goto S dX8_inState_26 (t := 30) (by decide) ?_
        refine zz_iadd S dX8_inState_30 (q := 31) rfl ?_
        refine zz_istore_2 S rfl dX8_inState_31 (q := 32) rfl ?_
        refine zz_iinc_3 S rfl dX8_inState_32 (q := 35) rfl ?_
        refine zz_goto S dX8_inState_35 (t := 4) (by decide) ?_
        refine ih (c + 1) _ _ (by omega) (by rw [hx]; exact nI_add c 1) ?_
        rw [hF, op_inG]
        first | rw [if_pos b1] | rw [if_neg b1]
theorem co_inState (st : Int32) (nc : Nat) (im : ZI) (h1 : im 471 1 = nI nc) (hn : nc ≤ 10) : zz_OP G l 1 mX8_inState [.ref 470, .int st] zE im (op_in (im 471) nc st) := by
  refine zz_intro (isI := false) (by decide) rfl (Nat.le_of_ble_eq_true rfl) (fun h => by cases h) (fun w S => ?_)
  refine zz_iconst S (v := 0) rfl dX8_inState_0 (q := 1) rfl ?_
  refine zz_istore_2 S rfl dX8_inState_1 (q := 2) rfl ?_
  refine zz_iconst S (v := 0) rfl dX8_inState_2 (q := 3) rfl ?_
  refine zz_istore_3 S rfl dX8_inState_3 (q := 4) rfl ?_
  -- at 4
  exact lo_inState S h1 hn ⟨rfl, _, rfl, rfl, rfl, rfl⟩ nc 0 _ _ (by omega) rfl rfl
theorem co_deliverNow (x : Int32) (c nc : Nat) (im : ZI) (hx : x = nI c) (h1 : im 471 1 = nI nc) (hn : nc ≤ 10) (hc : c < nc) : zz_OI G l 2 mX8_deliverNow [.ref 470, .int x] zE im (fun r im' => r = op_in (op_del (im 471) c) nc 3 ∧ im' 471 = op_del (im 471) c ∧ zz_keep [471, 476, 477, 478] im im') := by
  refine zz_intro (isI := false) (by decide) rfl (Nat.le_of_ble_eq_true rfl) (fun h => by cases h) (fun w S => ?_)
  refine zz_aload_0 S dX8_deliverNow_0 (q := 1) rfl ?_
  refine zz_iload_1 S dX8_deliverNow_1 (q := 2) rfl ?_
  refine zz_iconst S (v := 4) rfl dX8_deliverNow_2 (q := 3) rfl ?_
  refine zz_iconst S (v := 3) rfl dX8_deliverNow_3 (q := 4) rfl ?_
  -- at 4: invokevirtual 151
  refine zz_virtV S yy_X8_put lX8_151 (ci := 8) (by decide) rfl (co_put x 4 3 c 4 im hx rfl (by omega)) rfl (Nat.le_of_ble_eq_true rfl) (Nat.le_of_ble_eq_true rfl) rfl (Nat.le_of_ble_eq_true rfl) rfl dX8_deliverNow_4 (q := 7) rfl ?_
  rintro im2 rfl
  have e : (zz_u im 471 (38 + 8 * c + 4) 3) 471 = op_del (im 471) c := zz_u_row _ _ _ _
  refine zz_aload_0 S dX8_deliverNow_7 (q := 8) rfl ?_
  refine zz_iconst S (v := 3) rfl dX8_deliverNow_8 (q := 9) rfl ?_
  -- at 9: invokevirtual 187
  refine zz_virtP S yy_X8_inState lX8_187 (ci := 8) (by decide) rfl (co_inState 3 nc (zz_u im 471 (38 + 8 * c + 4) 3) (by rw [zz_u_n _ _ (Or.inr (by omega))]; exact h1) hn) rfl (Nat.le_of_ble_eq_true rfl) (Nat.le_of_ble_eq_true rfl) rfl (Nat.le_of_ble_eq_true rfl) rfl dX8_deliverNow_9 (q := 12) rfl ?_
  refine zz_iret S dX8_deliverNow_12 ⟨rfl, _, rfl, rfl, ?_⟩
  exact ⟨by rw [e], e, zz_keep.rf.u (by decide)⟩
set_option maxHeartbeats 4000000 in
theorem lo_takeStates {n0 mcT msT : Nat} {isI : Bool} {Qf : Option Value → ZE → ZI → Prop} {w : Nat → ZL → List Value → Nat → ZE → ZI → Prop} {z : Nat} {im : ZI} {nc : Nat} (S : zz_S G l RX8 cX8_takeStates 2 1 n0 mcT msT isI none Qf w)
    (h1 : im 471 1 = nI nc) (hn : nc ≤ 10) (hQ : Qf none zE (zz_fo im 478 0 (op_st (im 471)) nc)) :
    ∀ (n c : Nat) (x : Int32), c + n = nc → x = nI c → w 2 [some (.ref 470), some (.int x)] [] z zE (zz_fo im 478 0 (op_st (im 471)) c) := by
  intro n
  induction n with
  | zero =>
    intro c x hc hx
    have hc : c = nc := by omega
    subst hc
    refine zz_iload_1 S dX8_takeStates_2 (q := 3) rfl ?_
    refine zz_aload_0 S dX8_takeStates_3 (q := 4) rfl ?_
    refine zz_getR S fX8_7 rfl (Nat.le_of_ble_eq_true rfl) rfl rfl dX8_takeStates_4 (q := 7) rfl ?_
    refine zz_iconst S (v := 1) rfl dX8_takeStates_7 (q := 8) rfl ?_
    refine zz_iaN S (j := 1) (Nat.le_of_ble_eq_true rfl) rfl (Nat.le_of_ble_eq_true rfl) rfl (Nat.le_of_ble_eq_true rfl) dX8_takeStates_8 (q := 9) rfl ?_
    refine zz_icmp_ge S dX8_takeStates_9 (t := 30) (by decide) (q := 12) rfl (fun a1 => ?_) (fun a1 => ?_)
    -- then 30 else 12
    · exact zz_vret S dX8_takeStates_30 hQ
    · exact absurd (by rw [zz_fo_off (by decide), h1, hx]; exact Int32.le_refl _) a1
  | succ n ih =>
    intro c x hc hx
    refine zz_iload_1 S dX8_takeStates_2 (q := 3) rfl ?_
    refine zz_aload_0 S dX8_takeStates_3 (q := 4) rfl ?_
    refine zz_getR S fX8_7 rfl (Nat.le_of_ble_eq_true rfl) rfl rfl dX8_takeStates_4 (q := 7) rfl ?_
    refine zz_iconst S (v := 1) rfl dX8_takeStates_7 (q := 8) rfl ?_
    refine zz_iaN S (j := 1) (Nat.le_of_ble_eq_true rfl) rfl (Nat.le_of_ble_eq_true rfl) rfl (Nat.le_of_ble_eq_true rfl) dX8_takeStates_8 (q := 9) rfl ?_
    refine zz_icmp_ge S dX8_takeStates_9 (t := 30) (by decide) (q := 12) rfl (fun a1 => ?_) (fun a1 => ?_)
    -- then 30 else 12
    · exact absurd a1 (by rw [zz_fo_off (by decide), h1, hx]; exact nI_ge (by omega) (by omega))
    · refine zz_aload_0 S dX8_takeStates_12 (q := 13) rfl ?_
      refine zz_getR S fX8_32 rfl (Nat.le_of_ble_eq_true rfl) rfl rfl dX8_takeStates_13 (q := 16) rfl ?_
      refine zz_iload_1 S dX8_takeStates_16 (q := 17) rfl ?_
      refine zz_aload_0 S dX8_takeStates_17 (q := 18) rfl ?_
      refine zz_iload_1 S dX8_takeStates_18 (q := 19) rfl ?_
      refine zz_iconst S (v := 4) rfl dX8_takeStates_19 (q := 20) rfl ?_
      -- at 20: invokevirtual 127
      refine zz_virtP S yy_X8_of lX8_127 (ci := 8) (by decide) rfl (co_of x 4 c 4 (zz_fo im 478 0 (op_st (im 471)) c) hx rfl (by omega)) rfl (Nat.le_of_ble_eq_true rfl) (Nat.le_of_ble_eq_true rfl) rfl (Nat.le_of_ble_eq_true rfl) rfl dX8_takeStates_20 (q := 23) rfl ?_
      refine zz_iaS S (j := c) (Nat.le_of_ble_eq_true rfl) rfl (Nat.le_of_ble_eq_true rfl) hx (by omega) dX8_takeStates_23 (q := 24) rfl ?_
      refine zz_iinc_1 S rfl dX8_takeStates_24 (q := 27) rfl ?_
      refine zz_goto S dX8_takeStates_27 (t := 2) (by decide) ?_
      -- at 2
      have e2 := zz_fo_s (im := im) (r := 478) (b := 0) (f := op_st (im 471)) (k := c) (v := zz_fo im 478 0 (op_st (im 471)) c 471 (38 + 8 * c + 4)) (by rw [zz_fo_off (by decide)]; rfl)
      rw [Nat.zero_add] at e2
      rw [e2]
      exact ih (c + 1) _ (by omega) (by rw [hx]; exact nI_add c 1)
theorem co_takeStates (nc : Nat) (im : ZI) (h1 : im 471 1 = nI nc) (hn : nc ≤ 10) : zz_OV G l 1 mX8_takeStates [.ref 470] zE im (fun im' => im' = zz_fo im 478 0 (op_st (im 471)) nc) := by
  refine zz_intro (isI := false) (by decide) rfl (Nat.le_of_ble_eq_true rfl) (fun h => by cases h) (fun w S => ?_)
  refine zz_iconst S (v := 0) rfl dX8_takeStates_0 (q := 1) rfl ?_
  refine zz_istore_1 S rfl dX8_takeStates_1 (q := 2) rfl ?_
  -- at 2
  have key := lo_takeStates (im := im) (z := 0) S h1 hn ⟨rfl, rfl, rfl, rfl⟩ nc 0 0 (by omega) rfl
  rw [zz_fo_0] at key
  exact key
set_option maxHeartbeats 4000000 in
theorem lo_melt {n0 mcT msT : Nat} {isI : Bool} {Qf : Option Value → ZE → ZI → Prop} {w : Nat → ZL → List Value → Nat → ZE → ZI → Prop} {z : Nat} {im0 : ZI} {nc : Nat} (S : zz_S G l RX8 cX8_melt 4 2 n0 mcT msT isI (some .int) Qf w)
    (h1 : im0 471 1 = nI nc) (hn : nc ≤ 10) (hQ : ∀ im', im' 478 = (op_ml (im0 471) nc (im0 478)).2 → zz_keep [478] im0 im' → Qf (some (.int (op_ml (im0 471) nc (im0 478)).1)) zE im') :
    ∀ (n c : Nat) (x sm m : Int32) (im : ZI), c + n = nc → x = nI c → zz_keep [478] im0 im → op_ml (im0 471) nc (im0 478) = op_mlG (sp_wt (im0 471)) (im0 471 7) n c sm m (im 478) → w 6 [some (.ref 470), some (.int sm), some (.int m), some (.int x)] [] z zE im := by
  intro n
  induction n with
  | zero =>
    intro c x sm m im hc hx hk hF
    have hc : c = nc := by omega
    subst hc
    have e471 : im 471 = im0 471 := hk 471 (by decide)
    refine zz_iload_3 S dX8_melt_6 (q := 7) rfl ?_
    refine zz_aload_0 S dX8_melt_7 (q := 8) rfl ?_
    refine zz_getR S fX8_7 rfl (Nat.le_of_ble_eq_true rfl) rfl rfl dX8_melt_8 (q := 11) rfl ?_
    refine zz_iconst S (v := 1) rfl dX8_melt_11 (q := 12) rfl ?_
    refine zz_iaN S (j := 1) (Nat.le_of_ble_eq_true rfl) rfl (Nat.le_of_ble_eq_true rfl) rfl (Nat.le_of_ble_eq_true rfl) dX8_melt_12 (q := 13) rfl ?_
    refine zz_icmp_ge S dX8_melt_13 (t := 67) (by decide) (q := 16) rfl (fun a1 => ?_) (fun a1 => ?_)
    -- then 67 else 16
    · refine zz_iload_2 S dX8_melt_67 (q := 68) rfl ?_
      -- at 68: ireturn 
      refine zz_iret S dX8_melt_68 ?_
      have := hQ im (by rw [hF]; rfl) hk
      rw [hF] at this
      exact this
    · exact absurd (by rw [e471, h1, hx]; exact Int32.le_refl _) a1
  | succ n ih =>
    intro c x sm m im hc hx hk hF
    have e471 : im 471 = im0 471 := hk 471 (by decide)
    have hst : (x = nI c) := hx
    refine zz_iload_3 S dX8_melt_6 (q := 7) rfl ?_
    refine zz_aload_0 S dX8_melt_7 (q := 8) rfl ?_
    refine zz_getR S fX8_7 rfl (Nat.le_of_ble_eq_true rfl) rfl rfl dX8_melt_8 (q := 11) rfl ?_
    refine zz_iconst S (v := 1) rfl dX8_melt_11 (q := 12) rfl ?_
    refine zz_iaN S (j := 1) (Nat.le_of_ble_eq_true rfl) rfl (Nat.le_of_ble_eq_true rfl) rfl (Nat.le_of_ble_eq_true rfl) dX8_melt_12 (q := 13) rfl ?_
    refine zz_icmp_ge S dX8_melt_13 (t := 67) (by decide) (q := 16) rfl (fun a1 => ?_) (fun a1 => ?_)
    -- then 67 else 16
    · exact absurd a1 (by rw [e471, h1, hx]; exact nI_ge (by omega) (by omega))
    · refine zz_aload_0 S dX8_melt_16 (q := 17) rfl ?_
      refine zz_getR S fX8_32 rfl (Nat.le_of_ble_eq_true rfl) rfl rfl dX8_melt_17 (q := 20) rfl ?_
      refine zz_iload_3 S dX8_melt_20 (q := 21) rfl ?_
      refine zz_iaN S (j := c) (Nat.le_of_ble_eq_true rfl) rfl (Nat.le_of_ble_eq_true rfl) hx (by omega) dX8_melt_21 (q := 22) rfl ?_
      refine zz_iconst S (v := 1) rfl dX8_melt_22 (q := 23) rfl ?_
      refine zz_icmp_ne S dX8_melt_23 (t := 61) (by decide) (q := 26) rfl (fun b1 => ?_) (fun b1 => ?_)
      · refine zz_iinc_3 S rfl dX8_melt_61 (q := 64) rfl ?_
        refine zz_goto S dX8_melt_64 (t := 6) (by decide) ?_
        first | exact ih (c + 1) _ _ _ _ (by omega) (by rw [hx]; exact nI_add c 1) hk (by rw [hF, op_mlG, if_neg (fun q => b1 q.1)]) | exact ih (c + 1) _ _ _ _ (by omega) (by rw [hx]; exact nI_add c 1) hk (by rw [e471] at b2; rw [hF, op_mlG, if_neg (fun q => q.2 b2)]) | exact ih (c + 1) _ _ _ _ (by omega) (by rw [hx]; exact nI_add c 1) (hk.u (by decide)) (by rw [e471] at b2 ⊢; rw [hF, op_mlG, if_pos ⟨b1, b2⟩, zz_u_row]; rfl)
      · refine zz_iload_1 S dX8_melt_26 (q := 27) rfl ?_
        refine zz_aload_0 S dX8_melt_27 (q := 28) rfl ?_
        refine zz_iload_3 S dX8_melt_28 (q := 29) rfl ?_
        refine zz_virtP S yy_X8_weightOf lX8_148 (ci := 8) (by decide) rfl (co_weightOf x c im hx (by omega)) rfl (Nat.le_of_ble_eq_true rfl) (Nat.le_of_ble_eq_true rfl) rfl (Nat.le_of_ble_eq_true rfl) rfl dX8_melt_29 (q := 32) rfl ?_
        refine zz_iadd S dX8_melt_32 (q := 33) rfl ?_
        refine zz_aload_0 S dX8_melt_33 (q := 34) rfl ?_
        refine zz_getR S fX8_7 rfl (Nat.le_of_ble_eq_true rfl) rfl rfl dX8_melt_34 (q := 37) rfl ?_
        refine zz_bipush S (v := 7) rfl dX8_melt_37 (q := 39) rfl ?_
        refine zz_iaN S (j := 7) (Nat.le_of_ble_eq_true rfl) rfl (Nat.le_of_ble_eq_true rfl) rfl (Nat.le_of_ble_eq_true rfl) dX8_melt_39 (q := 40) rfl ?_
        refine zz_icmp_gt S dX8_melt_40 (t := 61) (by decide) (q := 43) rfl (fun b2 => ?_) (fun b2 => ?_)
        · refine zz_iinc_3 S rfl dX8_melt_61 (q := 64) rfl ?_
          refine zz_goto S dX8_melt_64 (t := 6) (by decide) ?_
          first | exact ih (c + 1) _ _ _ _ (by omega) (by rw [hx]; exact nI_add c 1) hk (by rw [hF, op_mlG, if_neg (fun q => b1 q.1)]) | exact ih (c + 1) _ _ _ _ (by omega) (by rw [hx]; exact nI_add c 1) hk (by rw [e471] at b2; rw [hF, op_mlG, if_neg (fun q => q.2 b2)]) | exact ih (c + 1) _ _ _ _ (by omega) (by rw [hx]; exact nI_add c 1) (hk.u (by decide)) (by rw [e471] at b2 ⊢; rw [hF, op_mlG, if_pos ⟨b1, b2⟩, zz_u_row]; rfl)
        · refine zz_iload_1 S dX8_melt_43 (q := 44) rfl ?_
          refine zz_aload_0 S dX8_melt_44 (q := 45) rfl ?_
          refine zz_iload_3 S dX8_melt_45 (q := 46) rfl ?_
          refine zz_virtP S yy_X8_weightOf lX8_148 (ci := 8) (by decide) rfl (co_weightOf x c im hx (by omega)) rfl (Nat.le_of_ble_eq_true rfl) (Nat.le_of_ble_eq_true rfl) rfl (Nat.le_of_ble_eq_true rfl) rfl dX8_melt_46 (q := 49) rfl ?_
          refine zz_iadd S dX8_melt_49 (q := 50) rfl ?_
          refine zz_istore_1 S rfl dX8_melt_50 (q := 51) rfl ?_
          refine zz_aload_0 S dX8_melt_51 (q := 52) rfl ?_
          refine zz_getR S fX8_32 rfl (Nat.le_of_ble_eq_true rfl) rfl rfl dX8_melt_52 (q := 55) rfl ?_
          refine zz_iload_3 S dX8_melt_55 (q := 56) rfl ?_
          refine zz_iconst S (v := 2) rfl dX8_melt_56 (q := 57) rfl ?_
          refine zz_iaS S (j := c) (Nat.le_of_ble_eq_true rfl) rfl (Nat.le_of_ble_eq_true rfl) hx (by omega) dX8_melt_57 (q := 58) rfl ?_
          refine zz_iinc_2 S rfl dX8_melt_58 (q := 61) rfl ?_
          refine zz_iinc_3 S rfl dX8_melt_61 (q := 64) rfl ?_
          refine zz_goto S dX8_melt_64 (t := 6) (by decide) ?_
          first | exact ih (c + 1) _ _ _ _ (by omega) (by rw [hx]; exact nI_add c 1) hk (by rw [hF, op_mlG, if_neg (fun q => b1 q.1)]) | exact ih (c + 1) _ _ _ _ (by omega) (by rw [hx]; exact nI_add c 1) hk (by rw [e471] at b2; rw [hF, op_mlG, if_neg (fun q => q.2 b2)]) | exact ih (c + 1) _ _ _ _ (by omega) (by rw [hx]; exact nI_add c 1) (hk.u (by decide)) (by rw [e471] at b2 ⊢; rw [hF, op_mlG, if_pos ⟨b1, b2⟩, zz_u_row]; rfl)
theorem co_melt (nc : Nat) (im : ZI) (h1 : im 471 1 = nI nc) (hn : nc ≤ 10) : zz_OI G l 2 mX8_melt [.ref 470] zE im (fun r im' => r = (op_ml (im 471) nc (im 478)).1 ∧ im' 478 = (op_ml (im 471) nc (im 478)).2 ∧ zz_keep [478] im im') := by
  refine zz_intro (isI := false) (by decide) rfl (Nat.le_of_ble_eq_true rfl) (fun h => by cases h) (fun w S => ?_)
  refine zz_iconst S (v := 0) rfl dX8_melt_0 (q := 1) rfl ?_
  refine zz_istore_1 S rfl dX8_melt_1 (q := 2) rfl ?_
  refine zz_iconst S (v := 0) rfl dX8_melt_2 (q := 3) rfl ?_
  refine zz_istore_2 S rfl dX8_melt_3 (q := 4) rfl ?_
  refine zz_iconst S (v := 0) rfl dX8_melt_4 (q := 5) rfl ?_
  refine zz_istore_3 S rfl dX8_melt_5 (q := 6) rfl ?_
  -- at 6
  exact lo_melt S h1 hn (fun im' a b => ⟨rfl, _, rfl, rfl, rfl, a, b⟩) nc 0 _ _ _ im (by omega) rfl zz_keep.rf rfl
theorem op_ml_st (s : ZSt) (nc : Nat) (st : Nat → Int32) (h : ∀ j, j < nc → st j = op_st s j) : (op_ml s nc st).1 = (op_ml s nc (op_st s)).1 ∧ ∀ j, j < nc → (op_ml s nc st).2 j = (op_ml s nc (op_st s)).2 j := by
  obtain ⟨a, b, -⟩ := op_mlG_eq (sp_wt s) (s 7) nc 0 0 0 st (op_st s) (fun j _ h2 => h j (by omega))
  exact ⟨a, fun j hj => b j (Nat.zero_le _) (by omega)⟩
theorem co_castCode (nc : Nat) (im : ZI) (h1 : im 471 1 = nI nc) (hn : nc ≤ 10) : zz_OI G l 3 mX8_castCode [.ref 470] zE im (fun r im' => r = op_cCas (im 471) nc ∧ zz_keep [478] im im') := by
  have e0 : (zz_fo im 478 0 (op_st (im 471)) nc) 471 = im 471 := zz_fo_off (by decide)
  have e1 := (op_ml_st (im 471) nc ((zz_fo im 478 0 (op_st (im 471)) nc) 478) (fun j hj => by rw [zz_fo_at, if_pos (by omega)]; rfl)).1
  refine zz_intro (isI := false) (by decide) rfl (Nat.le_of_ble_eq_true rfl) (fun h => by cases h) (fun w S => ?_)
  refine zz_aload_0 S dX8_castCode_0 (q := 1) rfl ?_
  -- at 1: invokevirtual 175
  refine zz_virtV S yy_X8_takeStates lX8_175 (ci := 8) (by decide) rfl (co_takeStates nc im h1 hn) rfl (Nat.le_of_ble_eq_true rfl) (Nat.le_of_ble_eq_true rfl) rfl (Nat.le_of_ble_eq_true rfl) rfl dX8_castCode_1 (q := 4) rfl ?_
  rintro im1 rfl
  refine zz_aload_0 S dX8_castCode_4 (q := 5) rfl ?_
  -- at 5: invokevirtual 178
  refine zz_virtI S yy_X8_melt lX8_178 (ci := 8) (by decide) rfl (co_melt nc (zz_fo im 478 0 (op_st (im 471)) nc) (by rw [e0]; exact h1) hn) rfl (Nat.le_of_ble_eq_true rfl) (Nat.le_of_ble_eq_true rfl) rfl (Nat.le_of_ble_eq_true rfl) rfl dX8_castCode_5 (q := 8) rfl ?_
  rintro r im2 ⟨rfl, -, hk⟩
  have hk2 : zz_keep [478] im im2 := fun k hq => (hk k hq).trans (zz_fo_off (fun e => hq (by rw [e]; decide)))
  rw [e0, e1]
  refine zz_if_ne S dX8_castCode_8 (t := 16) (by decide) (q := 11) rfl (fun b1 => ?_) (fun b1 => ?_)
  · refine zz_iconst S (v := 0) rfl dX8_castCode_16 (q := 17) rfl ?_
    refine zz_iret S dX8_castCode_17 ⟨rfl, _, rfl, rfl, ?_⟩
    first | exact ⟨by rw [op_cCas, if_pos b1], hk2⟩ | exact ⟨by rw [op_cCas, if_neg b1], hk2⟩
  · refine zz_ldc S (v := (-100002)) kX8_165 dX8_castCode_11 (q := 13) rfl ?_
    refine zz_goto S dX8_castCode_13 (t := 17) (by decide) ?_
    refine zz_iret S dX8_castCode_17 ⟨rfl, _, rfl, rfl, ?_⟩
    first | exact ⟨by rw [op_cCas, if_pos b1], hk2⟩ | exact ⟨by rw [op_cCas, if_neg b1], hk2⟩
theorem op_caG_eq : ∀ (n c : Nat) (st st' : Nat → Int32) (s : ZSt), (∀ j, c ≤ j → j < c + n → st j = st' j) → op_caG st n c s = op_caG st' n c s := by
  intro n
  induction n with
  | zero => intro c st st' s _; rfl
  | succ n ih =>
    intro c st st' s h
    rw [op_caG, op_caG, ← h c (Nat.le_refl _) (by omega), ih (c + 1) st st' _ (fun j a b => h j (by omega) (by omega)), ih (c + 1) st st' _ (fun j a b => h j (by omega) (by omega))]
set_option maxHeartbeats 4000000 in
theorem lo_castNow {n0 mcT msT : Nat} {isI : Bool} {Qf : Option Value → ZE → ZI → Prop} {w : Nat → ZL → List Value → Nat → ZE → ZI → Prop} {z : Nat} {im0 : ZI} {nc : Nat} {m : Int32} {st : Nat → Int32} {s0 : ZSt} (S : zz_S G l RX8 cX8_castNow 3 3 n0 mcT msT isI (some .int) Qf w)
    (hn : nc ≤ 10) (hQ : ∀ im' x, im' 471 = op_caG st nc 0 s0 → im' 478 = st → zz_keep [471, 478] im0 im' → w 76 [some (.ref 470), some (.int m), some (.int x)] [] z zE im') :
    ∀ (n c : Nat) (x : Int32) (im : ZI), c + n = nc → x = nI c → im 471 1 = nI nc → im 478 = st → zz_keep [471, 478] im0 im → op_caG st nc 0 s0 = op_caG st n c (im 471) → w 11 [some (.ref 470), some (.int m), some (.int x)] [] z zE im := by
  intro n
  induction n with
  | zero =>
    intro c x im hc hx h1 hst hk hF
    have hc : c = nc := by omega
    subst hc
    refine zz_iload_2 S dX8_castNow_11 (q := 12) rfl ?_
    refine zz_aload_0 S dX8_castNow_12 (q := 13) rfl ?_
    refine zz_getR S fX8_7 rfl (Nat.le_of_ble_eq_true rfl) rfl rfl dX8_castNow_13 (q := 16) rfl ?_
    refine zz_iconst S (v := 1) rfl dX8_castNow_16 (q := 17) rfl ?_
    refine zz_iaN S (j := 1) (Nat.le_of_ble_eq_true rfl) rfl (Nat.le_of_ble_eq_true rfl) rfl (Nat.le_of_ble_eq_true rfl) dX8_castNow_17 (q := 18) rfl ?_
    refine zz_icmp_ge S dX8_castNow_18 (t := 76) (by decide) (q := 21) rfl (fun a1 => ?_) (fun a1 => ?_)
    -- then 76 else 21
    · exact hQ im x (by rw [hF]; rfl) hst hk
    · exact absurd (by rw [h1, hx]; exact Int32.le_refl _) a1
  | succ n ih =>
    intro c x im hc hx h1 hst hk hF
    refine zz_iload_2 S dX8_castNow_11 (q := 12) rfl ?_
    refine zz_aload_0 S dX8_castNow_12 (q := 13) rfl ?_
    refine zz_getR S fX8_7 rfl (Nat.le_of_ble_eq_true rfl) rfl rfl dX8_castNow_13 (q := 16) rfl ?_
    refine zz_iconst S (v := 1) rfl dX8_castNow_16 (q := 17) rfl ?_
    refine zz_iaN S (j := 1) (Nat.le_of_ble_eq_true rfl) rfl (Nat.le_of_ble_eq_true rfl) rfl (Nat.le_of_ble_eq_true rfl) dX8_castNow_17 (q := 18) rfl ?_
    refine zz_icmp_ge S dX8_castNow_18 (t := 76) (by decide) (q := 21) rfl (fun a1 => ?_) (fun a1 => ?_)
    -- then 76 else 21
    · exact absurd a1 (by rw [h1, hx]; exact nI_ge (by omega) (by omega))
    · refine zz_aload_0 S dX8_castNow_21 (q := 22) rfl ?_
      refine zz_getR S fX8_32 rfl (Nat.le_of_ble_eq_true rfl) rfl rfl dX8_castNow_22 (q := 25) rfl ?_
      refine zz_iload_2 S dX8_castNow_25 (q := 26) rfl ?_
      refine zz_iaN S (j := c) (Nat.le_of_ble_eq_true rfl) rfl (Nat.le_of_ble_eq_true rfl) hx (by omega) dX8_castNow_26 (q := 27) rfl ?_
      refine zz_aload_0 S dX8_castNow_27 (q := 28) rfl ?_
      refine zz_iload_2 S dX8_castNow_28 (q := 29) rfl ?_
      refine zz_iconst S (v := 4) rfl dX8_castNow_29 (q := 30) rfl ?_
      -- at 30: invokevirtual 127
      refine zz_virtP S yy_X8_of lX8_127 (ci := 8) (by decide) rfl (co_of x 4 c 4 im hx rfl (by omega)) rfl (Nat.le_of_ble_eq_true rfl) (Nat.le_of_ble_eq_true rfl) rfl (Nat.le_of_ble_eq_true rfl) rfl dX8_castNow_30 (q := 33) rfl ?_
      refine zz_icmp_eq S dX8_castNow_33 (t := 70) (by decide) (q := 36) rfl (fun b1 => ?_) (fun b1 => ?_)
      -- then 70 else 36
      · refine zz_iinc_2 S rfl dX8_castNow_70 (q := 73) rfl ?_
        refine zz_goto S dX8_castNow_73 (t := 11) (by decide) ?_
        -- at 11
        exact ih (c + 1) _ im (by omega) (by rw [hx]; exact nI_add c 1) h1 hst hk (by rw [hF, op_caG, if_pos (by rw [← hst]; exact b1)])
      · refine zz_aload_0 S dX8_castNow_36 (q := 37) rfl ?_
        refine zz_iload_2 S dX8_castNow_37 (q := 38) rfl ?_
        refine zz_iconst S (v := 4) rfl dX8_castNow_38 (q := 39) rfl ?_
        refine zz_iconst S (v := 2) rfl dX8_castNow_39 (q := 40) rfl ?_
        -- at 40: invokevirtual 151
        refine zz_virtV S yy_X8_put lX8_151 (ci := 8) (by decide) rfl (co_put x 4 2 c 4 im hx rfl (by omega)) rfl (Nat.le_of_ble_eq_true rfl) (Nat.le_of_ble_eq_true rfl) rfl (Nat.le_of_ble_eq_true rfl) rfl dX8_castNow_40 (q := 43) rfl ?_
        rintro im1 rfl
        refine zz_aload_0 S dX8_castNow_43 (q := 44) rfl ?_
        refine zz_iload_2 S dX8_castNow_44 (q := 45) rfl ?_
        refine zz_bipush S (v := 6) rfl dX8_castNow_45 (q := 47) rfl ?_
        refine zz_aload_0 S dX8_castNow_47 (q := 48) rfl ?_
        refine zz_getR S fX8_7 rfl (Nat.le_of_ble_eq_true rfl) rfl rfl dX8_castNow_48 (q := 51) rfl ?_
        refine zz_iconst S (v := 2) rfl dX8_castNow_51 (q := 52) rfl ?_
        refine zz_iaN S (j := 2) (Nat.le_of_ble_eq_true rfl) rfl (Nat.le_of_ble_eq_true rfl) rfl (Nat.le_of_ble_eq_true rfl) dX8_castNow_52 (q := 53) rfl ?_
        -- at 53: invokevirtual 151
        have e1 : zz_u im 471 (38 + 8 * c + 4) 2 471 2 = im 471 2 := zz_u_n _ _ (Or.inr (by omega))
        rw [e1]
        refine zz_virtV S yy_X8_put lX8_151 (ci := 8) (by decide) rfl (co_put x 6 (im 471 2) c 6 (zz_u im 471 (38 + 8 * c + 4) 2) hx rfl (by omega)) rfl (Nat.le_of_ble_eq_true rfl) (Nat.le_of_ble_eq_true rfl) rfl (Nat.le_of_ble_eq_true rfl) rfl dX8_castNow_53 (q := 56) rfl ?_
        rintro im2 rfl
        refine zz_aload_0 S dX8_castNow_56 (q := 57) rfl ?_
        refine zz_getR S fX8_7 rfl (Nat.le_of_ble_eq_true rfl) rfl rfl dX8_castNow_57 (q := 60) rfl ?_
        refine zz_iconst S (v := 3) rfl dX8_castNow_60 (q := 61) rfl ?_
        refine zz_dup2 S rfl rfl dX8_castNow_61 (q := 62) rfl ?_
        refine zz_iaN S (j := 3) (Nat.le_of_ble_eq_true rfl) rfl (Nat.le_of_ble_eq_true rfl) rfl (Nat.le_of_ble_eq_true rfl) dX8_castNow_62 (q := 63) rfl ?_
        refine zz_aload_0 S dX8_castNow_63 (q := 64) rfl ?_
        refine zz_iload_2 S dX8_castNow_64 (q := 65) rfl ?_
        -- at 65: invokevirtual 148
        have e2 : zz_u (zz_u im 471 (38 + 8 * c + 4) 2) 471 (38 + 8 * c + 6) (im 471 2) 471 3 = im 471 3 := by rw [zz_u_n _ _ (Or.inr (by omega)), zz_u_n _ _ (Or.inr (by omega))]
        have e3 : sp_wt (zz_u (zz_u im 471 (38 + 8 * c + 4) 2) 471 (38 + 8 * c + 6) (im 471 2) 471) c = sp_wt (im 471) c := by
          unfold sp_wt
          rw [zz_u_n _ _ (Or.inr (by omega)), zz_u_n _ _ (Or.inr (by omega))]
        rw [e2]
        refine zz_virtP S yy_X8_weightOf lX8_148 (ci := 8) (by decide) rfl (co_weightOf x c (zz_u (zz_u im 471 (38 + 8 * c + 4) 2) 471 (38 + 8 * c + 6) (im 471 2)) hx (by omega)) rfl (Nat.le_of_ble_eq_true rfl) (Nat.le_of_ble_eq_true rfl) rfl (Nat.le_of_ble_eq_true rfl) rfl dX8_castNow_65 (q := 68) rfl ?_
        refine zz_iadd S dX8_castNow_68 (q := 69) rfl ?_
        refine zz_iaS S (j := 3) (Nat.le_of_ble_eq_true rfl) rfl (Nat.le_of_ble_eq_true rfl) rfl (Nat.le_of_ble_eq_true rfl) dX8_castNow_69 (q := 70) rfl ?_
        refine zz_iinc_2 S rfl dX8_castNow_70 (q := 73) rfl ?_
        refine zz_goto S dX8_castNow_73 (t := 11) (by decide) ?_
        -- at 11
        rw [e3]
        refine ih (c + 1) _ _ (by omega) (by rw [hx]; exact nI_add c 1) ?_ ?_ (((hk.u (by decide)).u (by decide)).u (by decide)) ?_
        · rw [zz_u_n _ _ (Or.inr (by omega)), zz_u_n _ _ (Or.inr (by omega)), zz_u_n _ _ (Or.inr (by omega))]
          exact h1
        · rw [zz_u_off _ _ _ _ (by decide), zz_u_off _ _ _ _ (by decide), zz_u_off _ _ _ _ (by decide)]
          exact hst
        · rw [hF, op_caG, if_neg (by rw [← hst]; exact b1), zz_u_row, zz_u_row, zz_u_row]
theorem co_castNow (nc : Nat) (im : ZI) (h1 : im 471 1 = nI nc) (hn : nc ≤ 10) : zz_OI G l 3 mX8_castNow [.ref 470] zE im (fun r im' => r = (op_ml (im 471) nc (op_st (im 471))).1 ∧ im' 471 = op_cas (im 471) nc ∧ zz_keep [471, 476, 477, 478] im im') := by
  have e0 : (zz_fo im 478 0 (op_st (im 471)) nc) 471 = im 471 := zz_fo_off (by decide)
  have e1 := op_ml_st (im 471) nc ((zz_fo im 478 0 (op_st (im 471)) nc) 478) (fun j hj => by rw [zz_fo_at, if_pos (by omega)]; rfl)
  refine zz_intro (isI := false) (by decide) rfl (Nat.le_of_ble_eq_true rfl) (fun h => by cases h) (fun w S => ?_)
  refine zz_aload_0 S dX8_castNow_0 (q := 1) rfl ?_
  -- at 1: invokevirtual 175
  refine zz_virtV S yy_X8_takeStates lX8_175 (ci := 8) (by decide) rfl (co_takeStates nc im h1 hn) rfl (Nat.le_of_ble_eq_true rfl) (Nat.le_of_ble_eq_true rfl) rfl (Nat.le_of_ble_eq_true rfl) rfl dX8_castNow_1 (q := 4) rfl ?_
  rintro im1 rfl
  refine zz_aload_0 S dX8_castNow_4 (q := 5) rfl ?_
  -- at 5: invokevirtual 178
  refine zz_virtI S yy_X8_melt lX8_178 (ci := 8) (by decide) rfl (co_melt nc (zz_fo im 478 0 (op_st (im 471)) nc) (by rw [e0]; exact h1) hn) rfl (Nat.le_of_ble_eq_true rfl) (Nat.le_of_ble_eq_true rfl) rfl (Nat.le_of_ble_eq_true rfl) rfl dX8_castNow_5 (q := 8) rfl ?_
  rintro r im2 ⟨rfl, hm, hk⟩
  rw [e0] at hm ⊢
  rw [e1.1]
  have hk2 : zz_keep [471, 478] im im2 := fun k hq => (hk k (fun e => hq (by simp at e ⊢; exact Or.inr e))).trans (zz_fo_off (fun e => hq (by rw [e]; decide)))
  have e471 : im2 471 = im 471 := (hk 471 (by decide)).trans e0
  have ecg : op_caG (op_ml (im 471) nc (zz_fo im 478 0 (op_st (im 471)) nc 478)).2 nc 0 (im 471) = op_caG (op_ml (im 471) nc (op_st (im 471))).2 nc 0 (im 471) := op_caG_eq nc 0 _ _ _ (fun j _ hj => e1.2 j (by omega))
  refine zz_istore_1 S rfl dX8_castNow_8 (q := 9) rfl ?_
  refine zz_iconst S (v := 0) rfl dX8_castNow_9 (q := 10) rfl ?_
  refine zz_istore_2 S rfl dX8_castNow_10 (q := 11) rfl ?_
  -- at 11
  refine lo_castNow (im0 := im) (s0 := im 471) (nc := nc) S hn (fun im' x ha hb hc => ?_) nc 0 0 im2 (by omega) rfl (by rw [e471]; exact h1) hm hk2 (by rw [e471])
  rw [ecg] at ha
  refine zz_aload_0 S dX8_castNow_76 (q := 77) rfl ?_
  refine zz_getR S fX8_7 rfl (Nat.le_of_ble_eq_true rfl) rfl rfl dX8_castNow_77 (q := 80) rfl ?_
  refine zz_iconst S (v := 2) rfl dX8_castNow_80 (q := 81) rfl ?_
  refine zz_dup2 S rfl rfl dX8_castNow_81 (q := 82) rfl ?_
  refine zz_iaN S (j := 2) (Nat.le_of_ble_eq_true rfl) rfl (Nat.le_of_ble_eq_true rfl) rfl (Nat.le_of_ble_eq_true rfl) dX8_castNow_82 (q := 83) rfl ?_
  refine zz_iconst S (v := 1) rfl dX8_castNow_83 (q := 84) rfl ?_
  refine zz_iadd S dX8_castNow_84 (q := 85) rfl ?_
  refine zz_iaS S (j := 2) (Nat.le_of_ble_eq_true rfl) rfl (Nat.le_of_ble_eq_true rfl) rfl (Nat.le_of_ble_eq_true rfl) dX8_castNow_85 (q := 86) rfl ?_
  refine zz_iload_1 S dX8_castNow_86 (q := 87) rfl ?_
  -- at 87: ireturn 
  refine zz_iret S dX8_castNow_87 ⟨rfl, _, rfl, rfl, ?_⟩
  refine ⟨rfl, ?_, (hc.u (by decide)).le (by decide)⟩
  rw [zz_u_row, ha]
  rfl
end ZOPS2
