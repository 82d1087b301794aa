/-! THE REFERENCE: what it looks up -/
section ZLOOK
variable {G : ZG} {l : Launch}
theorem zm_ix {x y : Int32} {c p : Nat} (hx : x = nI c) (hy : y = nI p) : 38 + 8 * x + y = nI (38 + 8 * c + p) := by
  rw [hx, hy]
  show nI 38 + nI 8 * nI c + nI p = _
  rw [pk_mul, nI_add, nI_add]
theorem co_of (x y : Int32) (c p : Nat) (im : ZI) (hx : x = nI c) (hy : y = nI p) (hc : 38 + 8 * c + p < 356) : zz_OP G l 0 mX8_of [.ref 470, .int x, .int y] zE im (im 471 (38 + 8 * c + p)) := by
  refine zz_intro (isI := false) (by decide) rfl (Nat.le_of_ble_eq_true rfl) (fun h => by cases h) (fun w S => ?_)
  refine zz_aload_0 S dX8_of_0 (q := 1) rfl ?_
  refine zz_getR S fX8_7 rfl (Nat.le_of_ble_eq_true rfl) rfl rfl dX8_of_1 (q := 4) rfl ?_
  refine zz_bipush S (v := 38) rfl dX8_of_4 (q := 6) rfl ?_
  refine zz_bipush S (v := 8) rfl dX8_of_6 (q := 8) rfl ?_
  refine zz_iload_1 S dX8_of_8 (q := 9) rfl ?_
  refine zz_imul S dX8_of_9 (q := 10) rfl ?_
  refine zz_iadd S dX8_of_10 (q := 11) rfl ?_
  refine zz_iload_2 S dX8_of_11 (q := 12) rfl ?_
  refine zz_iadd S dX8_of_12 (q := 13) rfl ?_
  refine zz_iaN S (j := 38 + 8 * c + p) (Nat.le_of_ble_eq_true rfl) rfl (Nat.le_of_ble_eq_true rfl) (zm_ix hx hy) hc dX8_of_13 (q := 14) rfl ?_
  refine zz_iret S dX8_of_14 ⟨rfl, _, rfl, rfl, ?_⟩
  exact ⟨rfl, rfl⟩
theorem co_put (x y v : Int32) (c p : Nat) (im : ZI) (hx : x = nI c) (hy : y = nI p) (hc : 38 + 8 * c + p < 356) : zz_OV G l 0 mX8_put [.ref 470, .int x, .int y, .int v] zE im (fun im' => im' = zz_u im 471 (38 + 8 * c + p) v) := by
  refine zz_intro (isI := false) (by decide) rfl (Nat.le_of_ble_eq_true rfl) (fun h => by cases h) (fun w S => ?_)
  refine zz_aload_0 S dX8_put_0 (q := 1) rfl ?_
  refine zz_getR S fX8_7 rfl (Nat.le_of_ble_eq_true rfl) rfl rfl dX8_put_1 (q := 4) rfl ?_
  refine zz_bipush S (v := 38) rfl dX8_put_4 (q := 6) rfl ?_
  refine zz_bipush S (v := 8) rfl dX8_put_6 (q := 8) rfl ?_
  refine zz_iload_1 S dX8_put_8 (q := 9) rfl ?_
  refine zz_imul S dX8_put_9 (q := 10) rfl ?_
  refine zz_iadd S dX8_put_10 (q := 11) rfl ?_
  refine zz_iload_2 S dX8_put_11 (q := 12) rfl ?_
  refine zz_iadd S dX8_put_12 (q := 13) rfl ?_
  refine zz_iload_3 S dX8_put_13 (q := 14) rfl ?_
  refine zz_iaS S (j := 38 + 8 * c + p) (Nat.le_of_ble_eq_true rfl) rfl (Nat.le_of_ble_eq_true rfl) (zm_ix hx hy) hc dX8_put_14 (q := 15) rfl ?_
  refine zz_vret S dX8_put_15 ⟨rfl, rfl, rfl, ?_⟩
  exact rfl
theorem co_isWall (x : Int32) (im : ZI) : zz_OP G l 1 mX8_isWall [.ref 470, .int x] zE im (if x ≥ 0 ∧ x ≤ im 471 0 - 1 then 1 else 0) := by
  refine zz_intro (isI := false) (by decide) rfl (Nat.le_of_ble_eq_true rfl) (fun h => by cases h) (fun w S => ?_)
  refine zz_iload_1 S dX8_isWall_0 (q := 1) rfl ?_
  refine zz_iconst S (v := 0) rfl dX8_isWall_1 (q := 2) rfl ?_
  refine zz_aload_0 S dX8_isWall_2 (q := 3) rfl ?_
  refine zz_getR S fX8_7 rfl (Nat.le_of_ble_eq_true rfl) rfl rfl dX8_isWall_3 (q := 6) rfl ?_
  refine zz_iconst S (v := 0) rfl dX8_isWall_6 (q := 7) rfl ?_
  refine zz_iaN S (j := 0) (Nat.le_of_ble_eq_true rfl) rfl (Nat.le_of_ble_eq_true rfl) rfl (Nat.le_of_ble_eq_true rfl) dX8_isWall_7 (q := 8) rfl ?_
  refine zz_iconst S (v := 1) rfl dX8_isWall_8 (q := 9) rfl ?_
  refine zz_isub S dX8_isWall_9 (q := 10) rfl ?_
  refine zz_statP S yy_X8_in lX8_90 (co_in G l x 0 (im 471 0 - 1) zE im) rfl (Nat.le_of_ble_eq_true rfl) (Nat.le_of_ble_eq_true rfl) rfl dX8_isWall_10 (q := 13) rfl ?_
  refine zz_zret S (zz_bit zz_ite01) dX8_isWall_13 ⟨rfl, _, rfl, rfl, ?_⟩
  exact ⟨rfl, rfl⟩
theorem co_isCommission (x : Int32) (im : ZI) : zz_OP G l 1 mX8_isCommission [.ref 470, .int x] zE im (if x ≥ 0 ∧ x ≤ im 471 1 - 1 then 1 else 0) := by
  refine zz_intro (isI := false) (by decide) rfl (Nat.le_of_ble_eq_true rfl) (fun h => by cases h) (fun w S => ?_)
  refine zz_iload_1 S dX8_isCommission_0 (q := 1) rfl ?_
  refine zz_iconst S (v := 0) rfl dX8_isCommission_1 (q := 2) rfl ?_
  refine zz_aload_0 S dX8_isCommission_2 (q := 3) rfl ?_
  refine zz_getR S fX8_7 rfl (Nat.le_of_ble_eq_true rfl) rfl rfl dX8_isCommission_3 (q := 6) rfl ?_
  refine zz_iconst S (v := 1) rfl dX8_isCommission_6 (q := 7) rfl ?_
  refine zz_iaN S (j := 1) (Nat.le_of_ble_eq_true rfl) rfl (Nat.le_of_ble_eq_true rfl) rfl (Nat.le_of_ble_eq_true rfl) dX8_isCommission_7 (q := 8) rfl ?_
  refine zz_iconst S (v := 1) rfl dX8_isCommission_8 (q := 9) rfl ?_
  refine zz_isub S dX8_isCommission_9 (q := 10) rfl ?_
  refine zz_statP S yy_X8_in lX8_90 (co_in G l x 0 (im 471 1 - 1) zE im) rfl (Nat.le_of_ble_eq_true rfl) (Nat.le_of_ble_eq_true rfl) rfl dX8_isCommission_10 (q := 13) rfl ?_
  refine zz_zret S (zz_bit zz_ite01) dX8_isCommission_13 ⟨rfl, _, rfl, rfl, ?_⟩
  exact ⟨rfl, rfl⟩
theorem co_isBit (x : Int32) (E : ZE) (im : ZI) : zz_OP G l 1 mX8_isBit [.int x] E im (if x ≥ 0 ∧ x ≤ 1 then 1 else 0) := by
  refine zz_intro (isI := false) (by decide) rfl (Nat.le_of_ble_eq_true rfl) (fun h => by cases h) (fun w S => ?_)
  refine zz_iload_0 S dX8_isBit_0 (q := 1) rfl ?_
  refine zz_iconst S (v := 0) rfl dX8_isBit_1 (q := 2) rfl ?_
  refine zz_iconst S (v := 1) rfl dX8_isBit_2 (q := 3) rfl ?_
  refine zz_statP S yy_X8_in lX8_90 (co_in G l x 0 1 E im) rfl (Nat.le_of_ble_eq_true rfl) (Nat.le_of_ble_eq_true rfl) rfl dX8_isBit_3 (q := 6) rfl ?_
  refine zz_zret S (zz_bit zz_ite01) dX8_isBit_6 ⟨rfl, _, rfl, rfl, ?_⟩
  exact ⟨rfl, rfl⟩
theorem zs_within {x : Int32} {n : Nat} (hn : n ≤ 100) (h : x ≥ 0 ∧ x ≤ nI n - 1) : ∃ k, k < n ∧ x = nI k := by
  obtain ⟨h1, h2⟩ := h
  rw [ge_iff_le, Int32.le_iff_toInt_le] at h1
  rw [Int32.le_iff_toInt_le] at h2
  have h0 : (0 : Int32).toInt = 0 := rfl
  have e : (nI n - 1).toInt = (n : Int) - 1 := by
    rw [Int32.toInt_sub, nI_toInt (by omega), show ((1 : Int32)).toInt = 1 from rfl, Int.bmod_eq_of_le (by omega) (by omega)]
  refine ⟨x.toInt.toNat, by omega, Int32.toInt_inj.mp ?_⟩
  rw [nI_toInt (by omega)]
  omega
def sp_least (x : Int32) : Int32 := if x = 0 then 0 else if x ≠ 2 then 1 else 0
def sp_most (x : Int32) : Int32 := if x ≠ 0 then (if x ≠ 1 then (if x ≠ 2 then 100 else 60) else 13) else 10
theorem co_leastOf (x : Int32) (E : ZE) (im : ZI) : zz_OP G l 0 mX8_leastOf [.int x] E im (sp_least x) := by
  refine zz_intro (isI := false) (by decide) rfl (Nat.le_of_ble_eq_true rfl) (fun h => by cases h) (fun w S => ?_)
  refine zz_iload_0 S dX8_leastOf_0 (q := 1) rfl ?_
  refine zz_if_eq S dX8_leastOf_1 (t := 9) (by decide) (q := 4) rfl (fun h1 => ?_) (fun h1 => ?_)
  · refine zz_iconst S (v := 0) rfl dX8_leastOf_9 (q := 10) rfl ?_
    refine zz_goto S dX8_leastOf_10 (t := 14) (by decide) ?_
    refine zz_iret S dX8_leastOf_14 ⟨rfl, _, rfl, rfl, ?_⟩
    exact ⟨by simp [sp_least, h1], rfl⟩
  · refine zz_iload_0 S dX8_leastOf_4 (q := 5) rfl ?_
    refine zz_iconst S (v := 2) rfl dX8_leastOf_5 (q := 6) rfl ?_
    refine zz_icmp_ne S dX8_leastOf_6 (t := 13) (by decide) (q := 9) rfl (fun h2 => ?_) (fun h2 => ?_)
    · refine zz_iconst S (v := 1) rfl dX8_leastOf_13 (q := 14) rfl ?_
      refine zz_iret S dX8_leastOf_14 ⟨rfl, _, rfl, rfl, ?_⟩
      exact ⟨by simp [sp_least, h1, h2], rfl⟩
    · refine zz_iconst S (v := 0) rfl dX8_leastOf_9 (q := 10) rfl ?_
      refine zz_goto S dX8_leastOf_10 (t := 14) (by decide) ?_
      refine zz_iret S dX8_leastOf_14 ⟨rfl, _, rfl, rfl, ?_⟩
      exact ⟨by simp [sp_least, h1, h2], rfl⟩
theorem co_mostOf (x : Int32) (E : ZE) (im : ZI) : zz_OP G l 0 mX8_mostOf [.int x] E im (sp_most x) := by
  refine zz_intro (isI := false) (by decide) rfl (Nat.le_of_ble_eq_true rfl) (fun h => by cases h) (fun w S => ?_)
  refine zz_iload_0 S dX8_mostOf_0 (q := 1) rfl ?_
  refine zz_if_ne S dX8_mostOf_1 (t := 9) (by decide) (q := 4) rfl (fun h1 => ?_) (fun h1 => ?_)
  · refine zz_iload_0 S dX8_mostOf_9 (q := 10) rfl ?_
    refine zz_iconst S (v := 1) rfl dX8_mostOf_10 (q := 11) rfl ?_
    refine zz_icmp_ne S dX8_mostOf_11 (t := 19) (by decide) (q := 14) rfl (fun h2 => ?_) (fun h2 => ?_)
    · refine zz_iload_0 S dX8_mostOf_19 (q := 20) rfl ?_
      refine zz_iconst S (v := 2) rfl dX8_mostOf_20 (q := 21) rfl ?_
      refine zz_icmp_ne S dX8_mostOf_21 (t := 29) (by decide) (q := 24) rfl (fun h3 => ?_) (fun h3 => ?_)
      · refine zz_bipush S (v := 100) rfl dX8_mostOf_29 (q := 31) rfl ?_
        refine zz_iret S dX8_mostOf_31 ⟨rfl, _, rfl, rfl, ?_⟩
        exact ⟨by simp [sp_most, h1, h2, h3], rfl⟩
      · refine zz_bipush S (v := 60) rfl dX8_mostOf_24 (q := 26) rfl ?_
        refine zz_goto S dX8_mostOf_26 (t := 31) (by decide) ?_
        refine zz_iret S dX8_mostOf_31 ⟨rfl, _, rfl, rfl, ?_⟩
        exact ⟨by simp [sp_most, h1, h2, h3], rfl⟩
    · refine zz_bipush S (v := 13) rfl dX8_mostOf_14 (q := 16) rfl ?_
      refine zz_goto S dX8_mostOf_16 (t := 31) (by decide) ?_
      refine zz_iret S dX8_mostOf_31 ⟨rfl, _, rfl, rfl, ?_⟩
      exact ⟨by simp [sp_most, h1, h2], rfl⟩
  · refine zz_bipush S (v := 10) rfl dX8_mostOf_4 (q := 6) rfl ?_
    refine zz_goto S dX8_mostOf_6 (t := 31) (by decide) ?_
    refine zz_iret S dX8_mostOf_31 ⟨rfl, _, rfl, rfl, ?_⟩
    exact ⟨by simp [sp_most, h1], rfl⟩
theorem co_slotAt (x : Int32) (E : ZE) (im : ZI) : zz_OP G l 0 mX8_slotAt [.int x] E im (118 + 119 * x) := by
  refine zz_intro (isI := false) (by decide) rfl (Nat.le_of_ble_eq_true rfl) (fun h => by cases h) (fun w S => ?_)
  refine zz_bipush S (v := 118) rfl dX8_slotAt_0 (q := 2) rfl ?_
  refine zz_bipush S (v := 119) rfl dX8_slotAt_2 (q := 4) rfl ?_
  refine zz_iload_0 S dX8_slotAt_4 (q := 5) rfl ?_
  refine zz_imul S dX8_slotAt_5 (q := 6) rfl ?_
  refine zz_iadd S dX8_slotAt_6 (q := 7) rfl ?_
  refine zz_iret S dX8_slotAt_7 ⟨rfl, _, rfl, rfl, ?_⟩
  exact ⟨rfl, rfl⟩
theorem co_weightOf (x : Int32) (c : Nat) (im : ZI) (hx : x = nI c) (hc : c < 10) : zz_OP G l 1 mX8_weightOf [.ref 470, .int x] zE im (sp_wt (im 471) c) := by
  refine zz_intro (isI := false) (by decide) rfl (Nat.le_of_ble_eq_true rfl) (fun h => by cases h) (fun w S => ?_)
  refine zz_aload_0 S dX8_weightOf_0 (q := 1) rfl ?_
  refine zz_iload_1 S dX8_weightOf_1 (q := 2) rfl ?_
  refine zz_iconst S (v := 2) rfl dX8_weightOf_2 (q := 3) rfl ?_
  refine zz_virtP S yy_X8_of lX8_127 (ci := 8) (by decide) rfl (co_of x 2 c 2 im hx rfl (by omega)) rfl (Nat.le_of_ble_eq_true rfl) (Nat.le_of_ble_eq_true rfl) rfl (Nat.le_of_ble_eq_true rfl) rfl dX8_weightOf_3 (q := 6) rfl ?_
  refine zz_aload_0 S dX8_weightOf_6 (q := 7) rfl ?_
  refine zz_iload_1 S dX8_weightOf_7 (q := 8) rfl ?_
  refine zz_iconst S (v := 2) rfl dX8_weightOf_8 (q := 9) rfl ?_
  refine zz_virtP S yy_X8_of lX8_127 (ci := 8) (by decide) rfl (co_of x 2 c 2 im hx rfl (by omega)) rfl (Nat.le_of_ble_eq_true rfl) (Nat.le_of_ble_eq_true rfl) rfl (Nat.le_of_ble_eq_true rfl) rfl dX8_weightOf_9 (q := 12) rfl ?_
  refine zz_imul S dX8_weightOf_12 (q := 13) rfl ?_
  refine zz_i2l S dX8_weightOf_13 (q := 14) rfl ?_
  refine zz_ldc2 S (v := 100) kX8_137 dX8_weightOf_14 (q := 17) rfl ?_
  refine zz_statPL S yy_X8_rounded lX8_46 (co_rounded G l (im 471 (38 + 8 * c + 2) * im 471 (38 + 8 * c + 2)).toInt64 100 (by decide) zE im) rfl (Nat.le_of_ble_eq_true rfl) (Nat.le_of_ble_eq_true rfl) rfl dX8_weightOf_17 (q := 20) rfl ?_
  refine zz_l2i S dX8_weightOf_20 (q := 21) rfl ?_
  refine zz_iret S dX8_weightOf_21 ⟨rfl, _, rfl, rfl, ?_⟩
  exact ⟨rfl, rfl⟩
theorem co_declinationOfWall (x : Int32) (k : Nat) (im : ZI) (hx : x = nI k) (hk : k < 6) : zz_OP G l 1 mX8_declinationOfWall [.ref 470, .int x] zE im (sp_wd (im 471) k) := by
  have e0 : 20 + 3 * x = nI (20 + 3 * k) := by
    rw [hx]
    show nI 20 + nI 3 * nI k = _
    rw [pk_mul, nI_add]
  have e1 : 20 + 3 * x + 1 = nI (20 + 3 * k + 1) := by rw [e0]; exact nI_1 _
  have e2 : 20 + 3 * x + 2 = nI (20 + 3 * k + 2) := by rw [e0]; exact nI_add _ 2
  refine zz_intro (isI := false) (by decide) rfl (Nat.le_of_ble_eq_true rfl) (fun h => by cases h) (fun w S => ?_)
  refine zz_bipush S (v := 20) rfl dX8_declinationOfWall_0 (q := 2) rfl ?_
  refine zz_iconst S (v := 3) rfl dX8_declinationOfWall_2 (q := 3) rfl ?_
  refine zz_iload_1 S dX8_declinationOfWall_3 (q := 4) rfl ?_
  refine zz_imul S dX8_declinationOfWall_4 (q := 5) rfl ?_
  refine zz_iadd S dX8_declinationOfWall_5 (q := 6) rfl ?_
  refine zz_istore_2 S rfl dX8_declinationOfWall_6 (q := 7) rfl ?_
  refine zz_aload_0 S dX8_declinationOfWall_7 (q := 8) rfl ?_
  refine zz_getR S fX8_7 rfl (Nat.le_of_ble_eq_true rfl) rfl rfl dX8_declinationOfWall_8 (q := 11) rfl ?_
  refine zz_iload_2 S dX8_declinationOfWall_11 (q := 12) rfl ?_
  refine zz_iaN S (j := 20 + 3 * k) (Nat.le_of_ble_eq_true rfl) rfl (Nat.le_of_ble_eq_true rfl) e0 (by omega) dX8_declinationOfWall_12 (q := 13) rfl ?_
  refine zz_iconst S (v := 2) rfl dX8_declinationOfWall_13 (q := 14) rfl ?_
  refine zz_icmp_lt S dX8_declinationOfWall_14 (t := 46) (by decide) (q := 17) rfl (fun h1 => ?_) (fun h1 => ?_)
  · refine zz_ldc S (v := (-100009)) kX8_83 dX8_declinationOfWall_46 (q := 48) rfl ?_
    refine zz_iret S dX8_declinationOfWall_48 ⟨rfl, _, rfl, rfl, ?_⟩
    first | exact ⟨by rw [sp_wd, if_pos (Or.inl h1)], rfl⟩ | exact ⟨by rw [sp_wd, if_neg (by rintro (h | h); exact h1 h; exact absurd h2 (Int32.not_le.mpr h))], rfl⟩ | exact ⟨by rw [sp_wd, if_pos (Or.inr (Int32.not_le.mp h2))], rfl⟩
  · refine zz_aload_0 S dX8_declinationOfWall_17 (q := 18) rfl ?_
    refine zz_getR S fX8_7 rfl (Nat.le_of_ble_eq_true rfl) rfl rfl dX8_declinationOfWall_18 (q := 21) rfl ?_
    refine zz_iload_2 S dX8_declinationOfWall_21 (q := 22) rfl ?_
    refine zz_iconst S (v := 1) rfl dX8_declinationOfWall_22 (q := 23) rfl ?_
    refine zz_iadd S dX8_declinationOfWall_23 (q := 24) rfl ?_
    refine zz_iaN S (j := 20 + 3 * k + 1) (Nat.le_of_ble_eq_true rfl) rfl (Nat.le_of_ble_eq_true rfl) e1 (by omega) dX8_declinationOfWall_24 (q := 25) rfl ?_
    refine zz_aload_0 S dX8_declinationOfWall_25 (q := 26) rfl ?_
    refine zz_getR S fX8_7 rfl (Nat.le_of_ble_eq_true rfl) rfl rfl dX8_declinationOfWall_26 (q := 29) rfl ?_
    refine zz_iload_2 S dX8_declinationOfWall_29 (q := 30) rfl ?_
    refine zz_iconst S (v := 2) rfl dX8_declinationOfWall_30 (q := 31) rfl ?_
    refine zz_iadd S dX8_declinationOfWall_31 (q := 32) rfl ?_
    refine zz_iaN S (j := 20 + 3 * k + 2) (Nat.le_of_ble_eq_true rfl) rfl (Nat.le_of_ble_eq_true rfl) e2 (by omega) dX8_declinationOfWall_32 (q := 33) rfl ?_
    refine zz_isub S dX8_declinationOfWall_33 (q := 34) rfl ?_
    refine zz_statP S yy_X8_size lX8_84 (co_size G l (im 471 (20 + 3 * k + 1) - im 471 (20 + 3 * k + 2)) zE im) rfl (Nat.le_of_ble_eq_true rfl) (Nat.le_of_ble_eq_true rfl) rfl dX8_declinationOfWall_34 (q := 37) rfl ?_
    refine zz_aload_0 S dX8_declinationOfWall_37 (q := 38) rfl ?_
    refine zz_getR S fX8_7 rfl (Nat.le_of_ble_eq_true rfl) rfl rfl dX8_declinationOfWall_38 (q := 41) rfl ?_
    refine zz_iconst S (v := 4) rfl dX8_declinationOfWall_41 (q := 42) rfl ?_
    refine zz_iaN S (j := 4) (Nat.le_of_ble_eq_true rfl) rfl (Nat.le_of_ble_eq_true rfl) rfl (Nat.le_of_ble_eq_true rfl) dX8_declinationOfWall_42 (q := 43) rfl ?_
    refine zz_icmp_le S dX8_declinationOfWall_43 (t := 49) (by decide) (q := 46) rfl (fun h2 => ?_) (fun h2 => ?_)
    · refine zz_aload_0 S dX8_declinationOfWall_49 (q := 50) rfl ?_
      refine zz_getR S fX8_7 rfl (Nat.le_of_ble_eq_true rfl) rfl rfl dX8_declinationOfWall_50 (q := 53) rfl ?_
      refine zz_iload_2 S dX8_declinationOfWall_53 (q := 54) rfl ?_
      refine zz_iconst S (v := 1) rfl dX8_declinationOfWall_54 (q := 55) rfl ?_
      refine zz_iadd S dX8_declinationOfWall_55 (q := 56) rfl ?_
      refine zz_iaN S (j := 20 + 3 * k + 1) (Nat.le_of_ble_eq_true rfl) rfl (Nat.le_of_ble_eq_true rfl) e1 (by omega) dX8_declinationOfWall_56 (q := 57) rfl ?_
      refine zz_aload_0 S dX8_declinationOfWall_57 (q := 58) rfl ?_
      refine zz_getR S fX8_7 rfl (Nat.le_of_ble_eq_true rfl) rfl rfl dX8_declinationOfWall_58 (q := 61) rfl ?_
      refine zz_iload_2 S dX8_declinationOfWall_61 (q := 62) rfl ?_
      refine zz_iconst S (v := 2) rfl dX8_declinationOfWall_62 (q := 63) rfl ?_
      refine zz_iadd S dX8_declinationOfWall_63 (q := 64) rfl ?_
      refine zz_iaN S (j := 20 + 3 * k + 2) (Nat.le_of_ble_eq_true rfl) rfl (Nat.le_of_ble_eq_true rfl) e2 (by omega) dX8_declinationOfWall_64 (q := 65) rfl ?_
      refine zz_iadd S dX8_declinationOfWall_65 (q := 66) rfl ?_
      refine zz_i2l S dX8_declinationOfWall_66 (q := 67) rfl ?_
      refine zz_ldc2 S (v := 2) kX8_112 dX8_declinationOfWall_67 (q := 70) rfl ?_
      refine zz_statPL S yy_X8_rounded lX8_46 (co_rounded G l (im 471 (20 + 3 * k + 1) + im 471 (20 + 3 * k + 2)).toInt64 2 (by decide) zE im) rfl (Nat.le_of_ble_eq_true rfl) (Nat.le_of_ble_eq_true rfl) rfl dX8_declinationOfWall_70 (q := 73) rfl ?_
      refine zz_l2i S dX8_declinationOfWall_73 (q := 74) rfl ?_
      refine zz_iret S dX8_declinationOfWall_74 ⟨rfl, _, rfl, rfl, ?_⟩
      first | exact ⟨by rw [sp_wd, if_pos (Or.inl h1)], rfl⟩ | exact ⟨by rw [sp_wd, if_neg (by rintro (h | h); exact h1 h; exact absurd h2 (Int32.not_le.mpr h))], rfl⟩ | exact ⟨by rw [sp_wd, if_pos (Or.inr (Int32.not_le.mp h2))], rfl⟩
    · refine zz_ldc S (v := (-100009)) kX8_83 dX8_declinationOfWall_46 (q := 48) rfl ?_
      refine zz_iret S dX8_declinationOfWall_48 ⟨rfl, _, rfl, rfl, ?_⟩
      first | exact ⟨by rw [sp_wd, if_pos (Or.inl h1)], rfl⟩ | exact ⟨by rw [sp_wd, if_neg (by rintro (h | h); exact h1 h; exact absurd h2 (Int32.not_le.mpr h))], rfl⟩ | exact ⟨by rw [sp_wd, if_pos (Or.inr (Int32.not_le.mp h2))], rfl⟩
theorem co_declinationOf (x : Int32) (c nw nc : Nat) (im : ZI) (hx : x = nI c) (hI : sI (im 471) nw nc) (hc : c < nc) : zz_OP G l 2 mX8_declinationOf [.ref 470, .int x] zE im (sp_de (im 471) c) := by
  have hc10 : c < 10 := Nat.lt_of_lt_of_le hc hI.2.2.2.1
  have hnw := hI.2.1
  have hC := hI.2.2.2.2.2.2.2 c hc
  have hw : im 471 (38 + 8 * c + 1) ≠ -1 → ∃ k, k < nw ∧ im 471 (38 + 8 * c + 1) = nI k := fun h => hC.2.1.resolve_left h
  refine zz_intro (isI := false) (by decide) rfl (Nat.le_of_ble_eq_true rfl) (fun h => by cases h) (fun w S => ?_)
  refine zz_aload_0 S dX8_declinationOf_0 (q := 1) rfl ?_
  refine zz_iload_1 S dX8_declinationOf_1 (q := 2) rfl ?_
  refine zz_iconst S (v := 1) rfl dX8_declinationOf_2 (q := 3) rfl ?_
  -- at 3: invokevirtual 127
  refine zz_virtP S yy_X8_of lX8_127 (ci := 8) (by decide) rfl (co_of x 1 c 1 im hx rfl (by omega)) rfl (Nat.le_of_ble_eq_true rfl) (Nat.le_of_ble_eq_true rfl) rfl (Nat.le_of_ble_eq_true rfl) rfl dX8_declinationOf_3 (q := 6) rfl ?_
  refine zz_iconst S (v := (-1)) rfl dX8_declinationOf_6 (q := 7) rfl ?_
  refine zz_icmp_ne S dX8_declinationOf_7 (t := 12) (by decide) (q := 10) rfl (fun h1 => ?_) (fun h1 => ?_)
  -- then 12 else 10
  · obtain ⟨k, hk, ek⟩ := hw h1
    have ec : (im 471 (38 + 8 * c + 1)).toNatClampNeg = k := by rw [ek]; exact nI_clamp (by omega)
    refine zz_aload_0 S dX8_declinationOf_12 (q := 13) rfl ?_
    refine zz_iload_1 S dX8_declinationOf_13 (q := 14) rfl ?_
    refine zz_iconst S (v := 4) rfl dX8_declinationOf_14 (q := 15) rfl ?_
    refine zz_virtP S yy_X8_of lX8_127 (ci := 8) (by decide) rfl (co_of x 4 c 4 im hx rfl (by omega)) rfl (Nat.le_of_ble_eq_true rfl) (Nat.le_of_ble_eq_true rfl) rfl (Nat.le_of_ble_eq_true rfl) rfl dX8_declinationOf_15 (q := 18) rfl ?_
    refine zz_iconst S (v := 1) rfl dX8_declinationOf_18 (q := 19) rfl ?_
    refine zz_iconst S (v := 3) rfl dX8_declinationOf_19 (q := 20) rfl ?_
    refine zz_statP S yy_X8_in lX8_90 (co_in G l (im 471 (38 + 8 * c + 4)) 1 3 zE im) rfl (Nat.le_of_ble_eq_true rfl) (Nat.le_of_ble_eq_true rfl) rfl dX8_declinationOf_20 (q := 23) rfl ?_
    refine zz_istore_2 S rfl dX8_declinationOf_23 (q := 24) rfl ?_
    refine zz_iload_2 S dX8_declinationOf_24 (q := 25) rfl ?_
    refine zz_if_eq S dX8_declinationOf_25 (t := 37) (by decide) (q := 28) rfl (fun b1 => ?_) (fun b1 => ?_)
    · refine zz_aload_0 S dX8_declinationOf_37 (q := 38) rfl ?_
      refine zz_aload_0 S dX8_declinationOf_38 (q := 39) rfl ?_
      refine zz_iload_1 S dX8_declinationOf_39 (q := 40) rfl ?_
      refine zz_iconst S (v := 1) rfl dX8_declinationOf_40 (q := 41) rfl ?_
      refine zz_virtP S yy_X8_of lX8_127 (ci := 8) (by decide) rfl (co_of x 1 c 1 im hx rfl (by omega)) rfl (Nat.le_of_ble_eq_true rfl) (Nat.le_of_ble_eq_true rfl) rfl (Nat.le_of_ble_eq_true rfl) rfl dX8_declinationOf_41 (q := 44) rfl ?_
      refine zz_virtP S yy_X8_declinationOfWall lX8_117 (ci := 8) (by decide) rfl (co_declinationOfWall (im 471 (38 + 8 * c + 1)) k im ek (by omega)) rfl (Nat.le_of_ble_eq_true rfl) (Nat.le_of_ble_eq_true rfl) rfl (Nat.le_of_ble_eq_true rfl) rfl dX8_declinationOf_44 (q := 47) rfl ?_
      refine zz_iret S dX8_declinationOf_47 ⟨rfl, _, rfl, rfl, ?_⟩
      first | exact ⟨by rw [sp_de, if_neg h1, if_neg (zs_b1.mp b1), ec], rfl⟩ | exact ⟨by rw [sp_de, if_neg h1, if_pos (Classical.not_not.mp (fun q => b1 (zs_b1.mpr q)))], rfl⟩
    · refine zz_aload_0 S dX8_declinationOf_28 (q := 29) rfl ?_
      refine zz_iload_1 S dX8_declinationOf_29 (q := 30) rfl ?_
      refine zz_iconst S (v := 5) rfl dX8_declinationOf_30 (q := 31) rfl ?_
      refine zz_virtP S yy_X8_of lX8_127 (ci := 8) (by decide) rfl (co_of x 5 c 5 im hx rfl (by omega)) rfl (Nat.le_of_ble_eq_true rfl) (Nat.le_of_ble_eq_true rfl) rfl (Nat.le_of_ble_eq_true rfl) rfl dX8_declinationOf_31 (q := 34) rfl ?_
      refine zz_goto S dX8_declinationOf_34 (t := 47) (by decide) ?_
      refine zz_iret S dX8_declinationOf_47 ⟨rfl, _, rfl, rfl, ?_⟩
      first | exact ⟨by rw [sp_de, if_neg h1, if_neg (zs_b1.mp b1), ec], rfl⟩ | exact ⟨by rw [sp_de, if_neg h1, if_pos (Classical.not_not.mp (fun q => b1 (zs_b1.mpr q)))], rfl⟩
  · refine zz_iconst S (v := 0) rfl dX8_declinationOf_10 (q := 11) rfl ?_
    refine zz_iret S dX8_declinationOf_11 ⟨rfl, _, rfl, rfl, ?_⟩
    exact ⟨by rw [sp_de, if_pos h1], rfl⟩
theorem co_takeDial (x : Int32) (c nw nc : Nat) (im : ZI) (hx : x = nI c) (hI : sI (im 471) nw nc) (hc : c < nc) : zz_OI G l 5 mX8_takeDial [.ref 470, .int x] zE im (fun r im' => zz_keep [476, 477] im im' ∧ ((sp_de (im 471) c = -100009 ∧ r = 0) ∨ (sp_de (im 471) c ≠ -100009 ∧ r = 1 ∧ zm_dial im' (sp_dial (im 471) c)))) := by
  have hc10 : c < 10 := Nat.lt_of_lt_of_le hc hI.2.2.2.1
  have hC := hI.2.2.2.2.2.2.2 c hc
  refine zz_intro (isI := false) (by decide) rfl (Nat.le_of_ble_eq_true rfl) (fun h => by cases h) (fun w S => ?_)
  refine zz_aload_0 S dX8_takeDial_0 (q := 1) rfl ?_
  refine zz_iload_1 S dX8_takeDial_1 (q := 2) rfl ?_
  -- at 2: invokevirtual 130
  refine zz_virtP S yy_X8_declinationOf lX8_130 (ci := 8) (by decide) rfl (co_declinationOf x c nw nc im hx hI hc) rfl (Nat.le_of_ble_eq_true rfl) (Nat.le_of_ble_eq_true rfl) rfl (Nat.le_of_ble_eq_true rfl) rfl dX8_takeDial_2 (q := 5) rfl ?_
  refine zz_istore_2 S rfl dX8_takeDial_5 (q := 6) rfl ?_
  refine zz_iload_2 S dX8_takeDial_6 (q := 7) rfl ?_
  refine zz_ldc S (v := (-100009)) kX8_83 dX8_takeDial_7 (q := 9) rfl ?_
  refine zz_icmp_ne S dX8_takeDial_9 (t := 14) (by decide) (q := 12) rfl (fun h1 => ?_) (fun h1 => ?_)
  -- then 14 else 12
  · have hd := zs_ok4 (sB_wid (sp_de_in hI hc h1) (by decide) (by decide))
    have hl := zs_ok4 (sB_wid hC.1 (by decide) (by decide))
    refine zz_aload_0 S dX8_takeDial_14 (q := 15) rfl ?_
    refine zz_aload_0 S dX8_takeDial_15 (q := 16) rfl ?_
    refine zz_iload_1 S dX8_takeDial_16 (q := 17) rfl ?_
    refine zz_iconst S (v := 0) rfl dX8_takeDial_17 (q := 18) rfl ?_
    -- at 18: invokevirtual 127
    refine zz_virtP S yy_X8_of lX8_127 (ci := 8) (by decide) rfl (co_of x 0 c 0 im hx rfl (by omega)) rfl (Nat.le_of_ble_eq_true rfl) (Nat.le_of_ble_eq_true rfl) rfl (Nat.le_of_ble_eq_true rfl) rfl dX8_takeDial_18 (q := 21) rfl ?_
    refine zz_aload_0 S dX8_takeDial_21 (q := 22) rfl ?_
    refine zz_iload_1 S dX8_takeDial_22 (q := 23) rfl ?_
    refine zz_iconst S (v := 1) rfl dX8_takeDial_23 (q := 24) rfl ?_
    -- at 24: invokevirtual 127
    refine zz_virtP S yy_X8_of lX8_127 (ci := 8) (by decide) rfl (co_of x 1 c 1 im hx rfl (by omega)) rfl (Nat.le_of_ble_eq_true rfl) (Nat.le_of_ble_eq_true rfl) rfl (Nat.le_of_ble_eq_true rfl) rfl dX8_takeDial_24 (q := 27) rfl ?_
    refine zz_iconst S (v := (-1)) rfl dX8_takeDial_27 (q := 28) rfl ?_
    refine zz_icmp_eq S dX8_takeDial_28 (t := 35) (by decide) (q := 31) rfl (fun h2 => ?_) (fun h2 => ?_)
    -- then 35 else 31
    · refine zz_iconst S (v := 0) rfl dX8_takeDial_35 (q := 36) rfl ?_
      refine zz_iload_2 S dX8_takeDial_36 (q := 37) rfl ?_
      -- at 37: invokevirtual 133
      refine zz_virtV S yy_X8_reckon lX8_133 (ci := 8) (by decide) rfl (co_reckon (im 471 (38 + 8 * c + 0)) 0 (sp_de (im 471) c) hl.1 hl.2 hd.1 hd.2 im) rfl (Nat.le_of_ble_eq_true rfl) (Nat.le_of_ble_eq_true rfl) rfl (Nat.le_of_ble_eq_true rfl) rfl dX8_takeDial_37 (q := 40) rfl ?_
      intro im' hq
      refine zz_iconst S (v := 1) rfl dX8_takeDial_40 (q := 41) rfl ?_
      -- at 41: ireturn 
      refine zz_zret S rfl dX8_takeDial_41 ⟨rfl, _, rfl, rfl, ?_⟩
      exact ⟨hq.2, Or.inr ⟨h1, rfl, by have := hq.1; rw [sp_dial, if_pos h2]; exact this⟩⟩
    · refine zz_iconst S (v := 1) rfl dX8_takeDial_31 (q := 32) rfl ?_
      refine zz_goto S dX8_takeDial_32 (t := 36) (by decide) ?_
      refine zz_iload_2 S dX8_takeDial_36 (q := 37) rfl ?_
      -- at 37: invokevirtual 133
      refine zz_virtV S yy_X8_reckon lX8_133 (ci := 8) (by decide) rfl (co_reckon (im 471 (38 + 8 * c + 0)) 1 (sp_de (im 471) c) hl.1 hl.2 hd.1 hd.2 im) rfl (Nat.le_of_ble_eq_true rfl) (Nat.le_of_ble_eq_true rfl) rfl (Nat.le_of_ble_eq_true rfl) rfl dX8_takeDial_37 (q := 40) rfl ?_
      intro im' hq
      refine zz_iconst S (v := 1) rfl dX8_takeDial_40 (q := 41) rfl ?_
      -- at 41: ireturn 
      refine zz_zret S rfl dX8_takeDial_41 ⟨rfl, _, rfl, rfl, ?_⟩
      exact ⟨hq.2, Or.inr ⟨h1, rfl, by have := hq.1; rw [sp_dial, if_neg h2]; exact this⟩⟩
  · refine zz_iconst S (v := 0) rfl dX8_takeDial_12 (q := 13) rfl ?_
    -- at 13: ireturn 
    refine zz_zret S rfl dX8_takeDial_13 ⟨rfl, _, rfl, rfl, ?_⟩
    exact ⟨zz_keep.rf, Or.inl ⟨h1, rfl⟩⟩
theorem co_reasonFor (x : Int32) (c nw nc : Nat) (im : ZI) (hx : x = nI c) (hI : sI (im 471) nw nc) (hc : c < nc) : zz_OI G l 6 mX8_reasonFor [.ref 470, .int x] zE im (fun r im' => r = sp_re (im 471) c ∧ zz_keep [476, 477] im im') := by
  have hc10 : c < 10 := Nat.lt_of_lt_of_le hc hI.2.2.2.1
  refine zz_intro (isI := false) (by decide) rfl (Nat.le_of_ble_eq_true rfl) (fun h => by cases h) (fun w S => ?_)
  refine zz_aload_0 S dX8_reasonFor_0 (q := 1) rfl ?_
  refine zz_iload_1 S dX8_reasonFor_1 (q := 2) rfl ?_
  -- at 2: invokevirtual 139
  refine zz_virtI S yy_X8_takeDial lX8_139 (ci := 8) (by decide) rfl (co_takeDial x c nw nc im hx hI hc) rfl (Nat.le_of_ble_eq_true rfl) (Nat.le_of_ble_eq_true rfl) rfl (Nat.le_of_ble_eq_true rfl) rfl dX8_reasonFor_2 (q := 5) rfl ?_
  intro r im' hq
  obtain ⟨hk, hq⟩ := hq
  have e471 : im' 471 = im 471 := hk 471 (by decide)
  refine zz_if_ne S dX8_reasonFor_5 (t := 10) (by decide) (q := 8) rfl (fun h1 => ?_) (fun h1 => ?_)
  -- then 10 else 8
  · rcases hq with ⟨-, h2⟩ | ⟨hn, -, hd⟩
    · exact absurd h2 h1
    · have hf : zs_fine (sp_dial (im 471) c) := zs_dial_fine _ _ _
      refine zz_aload_0 S dX8_reasonFor_10 (q := 11) rfl ?_
      refine zz_virtP S yy_X8_hourLines lX8_142 (ci := 8) (by decide) rfl (co_hourLines (sp_dial (im 471) c) im' hd) rfl (Nat.le_of_ble_eq_true rfl) (Nat.le_of_ble_eq_true rfl) rfl (Nat.le_of_ble_eq_true rfl) rfl dX8_reasonFor_11 (q := 14) rfl ?_
      refine zz_aload_0 S dX8_reasonFor_14 (q := 15) rfl ?_
      refine zz_getR S fX8_7 rfl (Nat.le_of_ble_eq_true rfl) rfl rfl dX8_reasonFor_15 (q := 18) rfl ?_
      refine zz_iconst S (v := 5) rfl dX8_reasonFor_18 (q := 19) rfl ?_
      refine zz_iaN S (j := 5) (Nat.le_of_ble_eq_true rfl) rfl (Nat.le_of_ble_eq_true rfl) rfl (Nat.le_of_ble_eq_true rfl) dX8_reasonFor_19 (q := 20) rfl ?_
      refine zz_icmp_ge S dX8_reasonFor_20 (t := 25) (by decide) (q := 23) rfl (fun b1 => ?_) (fun b1 => ?_)
      · refine zz_aload_0 S dX8_reasonFor_25 (q := 26) rfl ?_
        refine zz_iconst S (v := 0) rfl dX8_reasonFor_26 (q := 27) rfl ?_
        refine zz_virtP S yy_X8_apartOf lX8_145 (ci := 8) (by decide) rfl (co_apartOf 0 (sp_dial (im 471) c) im' hd hf) rfl (Nat.le_of_ble_eq_true rfl) (Nat.le_of_ble_eq_true rfl) rfl (Nat.le_of_ble_eq_true rfl) rfl dX8_reasonFor_27 (q := 30) rfl ?_
        refine zz_aload_0 S dX8_reasonFor_30 (q := 31) rfl ?_
        refine zz_getR S fX8_7 rfl (Nat.le_of_ble_eq_true rfl) rfl rfl dX8_reasonFor_31 (q := 34) rfl ?_
        refine zz_bipush S (v := 6) rfl dX8_reasonFor_34 (q := 36) rfl ?_
        refine zz_iaN S (j := 6) (Nat.le_of_ble_eq_true rfl) rfl (Nat.le_of_ble_eq_true rfl) rfl (Nat.le_of_ble_eq_true rfl) dX8_reasonFor_36 (q := 37) rfl ?_
        refine zz_icmp_le S dX8_reasonFor_37 (t := 42) (by decide) (q := 40) rfl (fun b2 => ?_) (fun b2 => ?_)
        · refine zz_aload_0 S dX8_reasonFor_42 (q := 43) rfl ?_
          refine zz_iload_1 S dX8_reasonFor_43 (q := 44) rfl ?_
          refine zz_virtP S yy_X8_weightOf lX8_148 (ci := 8) (by decide) rfl (co_weightOf x c im' hx hc10) rfl (Nat.le_of_ble_eq_true rfl) (Nat.le_of_ble_eq_true rfl) rfl (Nat.le_of_ble_eq_true rfl) rfl dX8_reasonFor_44 (q := 47) rfl ?_
          refine zz_aload_0 S dX8_reasonFor_47 (q := 48) rfl ?_
          refine zz_getR S fX8_7 rfl (Nat.le_of_ble_eq_true rfl) rfl rfl dX8_reasonFor_48 (q := 51) rfl ?_
          refine zz_bipush S (v := 7) rfl dX8_reasonFor_51 (q := 53) rfl ?_
          refine zz_iaN S (j := 7) (Nat.le_of_ble_eq_true rfl) rfl (Nat.le_of_ble_eq_true rfl) rfl (Nat.le_of_ble_eq_true rfl) dX8_reasonFor_53 (q := 54) rfl ?_
          refine zz_icmp_le S dX8_reasonFor_54 (t := 61) (by decide) (q := 57) rfl (fun b3 => ?_) (fun b3 => ?_)
          · refine zz_iconst S (v := 0) rfl dX8_reasonFor_61 (q := 62) rfl ?_
            refine zz_iret S dX8_reasonFor_62 ⟨rfl, _, rfl, rfl, ?_⟩
            refine ⟨?_, hk⟩
            rw [sp_re, if_neg hn]
            rw [e471] at b1
            first | (rw [if_pos (Int32.not_le.mp b1)]; done) | rw [if_neg (fun h => absurd b1 (Int32.not_le.mpr h))]
            first | done | rw [e471, if_pos rfl] at b2
            first | done | (rw [if_pos (Int32.not_le.mp b2)]; done) | rw [if_neg (fun h => absurd b2 (Int32.not_le.mpr h))]
            first | done | rw [e471] at b3
            first | done | rw [if_pos (Int32.not_le.mp b3)] | rw [if_neg (fun h => absurd b3 (Int32.not_le.mpr h))]
          · refine zz_iconst S (v := 4) rfl dX8_reasonFor_57 (q := 58) rfl ?_
            refine zz_goto S dX8_reasonFor_58 (t := 62) (by decide) ?_
            refine zz_iret S dX8_reasonFor_62 ⟨rfl, _, rfl, rfl, ?_⟩
            refine ⟨?_, hk⟩
            rw [sp_re, if_neg hn]
            rw [e471] at b1
            first | (rw [if_pos (Int32.not_le.mp b1)]; done) | rw [if_neg (fun h => absurd b1 (Int32.not_le.mpr h))]
            first | done | rw [e471, if_pos rfl] at b2
            first | done | (rw [if_pos (Int32.not_le.mp b2)]; done) | rw [if_neg (fun h => absurd b2 (Int32.not_le.mpr h))]
            first | done | rw [e471] at b3
            first | done | rw [if_pos (Int32.not_le.mp b3)] | rw [if_neg (fun h => absurd b3 (Int32.not_le.mpr h))]
        · refine zz_iconst S (v := 3) rfl dX8_reasonFor_40 (q := 41) rfl ?_
          refine zz_iret S dX8_reasonFor_41 ⟨rfl, _, rfl, rfl, ?_⟩
          refine ⟨?_, hk⟩
          rw [sp_re, if_neg hn]
          rw [e471] at b1
          first | (rw [if_pos (Int32.not_le.mp b1)]; done) | rw [if_neg (fun h => absurd b1 (Int32.not_le.mpr h))]
          first | done | rw [e471, if_pos rfl] at b2
          first | done | (rw [if_pos (Int32.not_le.mp b2)]; done) | rw [if_neg (fun h => absurd b2 (Int32.not_le.mpr h))]
          first | done | rw [e471] at b3
          first | done | rw [if_pos (Int32.not_le.mp b3)] | rw [if_neg (fun h => absurd b3 (Int32.not_le.mpr h))]
      · refine zz_iconst S (v := 2) rfl dX8_reasonFor_23 (q := 24) rfl ?_
        refine zz_iret S dX8_reasonFor_24 ⟨rfl, _, rfl, rfl, ?_⟩
        refine ⟨?_, hk⟩
        rw [sp_re, if_neg hn]
        rw [e471] at b1
        first | (rw [if_pos (Int32.not_le.mp b1)]; done) | rw [if_neg (fun h => absurd b1 (Int32.not_le.mpr h))]
        first | done | rw [e471, if_pos rfl] at b2
        first | done | (rw [if_pos (Int32.not_le.mp b2)]; done) | rw [if_neg (fun h => absurd b2 (Int32.not_le.mpr h))]
        first | done | rw [e471] at b3
        first | done | rw [if_pos (Int32.not_le.mp b3)] | rw [if_neg (fun h => absurd b3 (Int32.not_le.mpr h))]
  · rcases hq with ⟨hn, -⟩ | ⟨-, h2, -⟩
    · refine zz_iconst S (v := 1) rfl dX8_reasonFor_8 (q := 9) rfl ?_
      -- at 9: ireturn 
      refine zz_iret S dX8_reasonFor_9 ⟨rfl, _, rfl, rfl, ?_⟩
      exact ⟨by rw [sp_re, if_pos hn], hk⟩
    · exact absurd (h1.symm.trans h2) (by decide)
end ZLOOK
