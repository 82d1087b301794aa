/-! THE CLASS: what it reckons with numbers alone -/
theorem zs_bmod_tmod {x y : Int} (hx : -2 ^ 63 ≤ x ∧ x < 2 ^ 63) (hy : -2 ^ 63 ≤ y ∧ y < 2 ^ 63) (h0 : y ≠ 0) : (x.tmod y).bmod (2 ^ 64) = x.tmod y := by
  have h6 : (x.tmod y).natAbs < y.natAbs := by
    rw [Int.natAbs_tmod]
    exact Nat.mod_lt _ (by omega)
  apply Int.bmod_eq_of_le <;> omega
/-- what the machine's remainder is -/
theorem zs_rem (x y : Int64) (h0 : ¬ y = 0) : (x - x / y * y).toInt = x.toInt.tmod y.toInt := by
  have hy : y.toInt ≠ 0 := fun e => h0 (Int64.toInt_inj.mp (by rw [e]; rfl))
  have hx1 := Int64.le_toInt x
  have hx2 := Int64.toInt_lt x
  have hy1 := Int64.le_toInt y
  have hy2 := Int64.toInt_lt y
  rw [← zs_bmod_tmod ⟨by omega, by omega⟩ ⟨by omega, by omega⟩ hy, Int64.toInt_sub, Int64.toInt_mul, Int64.toInt_div, Int.tmod_def, Int.bmod_mul_bmod, Int.sub_bmod_bmod, Int.mul_comm (x.toInt.tdiv y.toInt)]
theorem zs_rem_neg (x y : Int64) (h0 : ¬ y = 0) : x - x / y * y < 0 ↔ ¬ 0 ≤ x ∧ ¬ x / y * y = x := by
  have hr := zs_rem x y h0
  have z0 : (0 : Int64).toInt = 0 := rfl
  have e1 : x / y * y = x ↔ (x - x / y * y).toInt = 0 := by
    constructor
    · intro e
      rw [e, show x - x = 0 from Int64.sub_self x]
      rfl
    · intro e
      have h1 : x - x / y * y = 0 := Int64.toInt_inj.mp (by rw [e]; rfl)
      have h2 := Int64.sub_add_cancel x (x / y * y)
      rw [h1, Int64.zero_add] at h2
      exact h2
  rw [e1, Int64.lt_iff_toInt_lt, Int64.le_iff_toInt_le, hr, z0]
  by_cases hx : 0 ≤ x.toInt
  · have := Int.tmod_nonneg y.toInt hx
    omega
  · have h2 := Int.tmod_nonneg y.toInt (show 0 ≤ -x.toInt by omega)
    rw [Int.neg_tmod] at h2
    omega
theorem zs_dbl (a : Int64) : 2 * a = a + a := by
  apply Int64.toInt_inj.mp
  rw [Int64.toInt_mul, Int64.toInt_add, show ((2 : Int64)).toInt = 2 from rfl]
  congr 1
  omega
/-- the class's way to round -/
theorem zs_rd_c {a b : Int64} (hb : 0 < b) : zs_rd a b = if (2 * a + b) - (2 * a + b) / (2 * b) * (2 * b) < 0 then (2 * a + b) / (2 * b) - 1 else (2 * a + b) / (2 * b) := by
  have h2 := zs_two hb
  rw [zs_dbl a, zs_dbl b]
  have key := zs_rem_neg (a + a + b) (b + b) h2
  unfold zs_rd
  by_cases h0 : 0 ≤ a + a + b
  · rw [if_pos h0, if_neg (fun e => (key.mp e).1 h0)]
  · rw [if_neg h0]
    by_cases h1 : (a + a + b) / (b + b) * (b + b) = a + a + b
    · rw [if_pos h1, if_neg (fun e => (key.mp e).2 h1)]
    · rw [if_neg h1, if_pos (key.mpr ⟨h0, h1⟩)]
section ZCNM
variable {G : ZG} {l : Launch}
theorem cx_within (x a b : Int32) (E : ZE) (im : ZI) : zz_OP G l 0 mX7_isWithin [.int x, .int a, .int b] E im (if x ≥ a ∧ x ≤ b then 1 else 0) := by
  refine zz_intro (isI := false) (by decide) rfl (Nat.le_of_ble_eq_true rfl) (fun h => by cases h) (fun w S => ?_)
  refine zz_iload_0 S dX7_isWithin_0 (q := 1) rfl ?_
  refine zz_iload_1 S dX7_isWithin_1 (q := 2) rfl ?_
  refine zz_icmp_lt S dX7_isWithin_2 (t := 14) (by decide) (q := 5) rfl (fun h1 => ?_) (fun h1 => ?_)
  · refine zz_iconst S (v := 0) rfl dX7_isWithin_14 (q := 15) rfl ?_
    refine zz_zret S (zz_bit (by first | exact Or.inl rfl | exact Or.inr rfl)) dX7_isWithin_15 ⟨rfl, _, rfl, rfl, ?_⟩
    refine ⟨?_, rfl⟩
    first | rw [if_neg (fun e => absurd (Int32.not_le.mpr h1) (fun q => q e.1))] | rw [if_neg (fun e => absurd (Int32.not_le.mpr h2) (fun q => q e.2))] | rw [if_pos ⟨Int32.not_lt.mp h1, Int32.not_lt.mp h2⟩]
  · refine zz_iload_0 S dX7_isWithin_5 (q := 6) rfl ?_
    refine zz_iload_2 S dX7_isWithin_6 (q := 7) rfl ?_
    refine zz_icmp_gt S dX7_isWithin_7 (t := 14) (by decide) (q := 10) rfl (fun h2 => ?_) (fun h2 => ?_)
    · refine zz_iconst S (v := 0) rfl dX7_isWithin_14 (q := 15) rfl ?_
      refine zz_zret S (zz_bit (by first | exact Or.inl rfl | exact Or.inr rfl)) dX7_isWithin_15 ⟨rfl, _, rfl, rfl, ?_⟩
      refine ⟨?_, rfl⟩
      first | rw [if_neg (fun e => absurd (Int32.not_le.mpr h1) (fun q => q e.1))] | rw [if_neg (fun e => absurd (Int32.not_le.mpr h2) (fun q => q e.2))] | rw [if_pos ⟨Int32.not_lt.mp h1, Int32.not_lt.mp h2⟩]
    · refine zz_iconst S (v := 1) rfl dX7_isWithin_10 (q := 11) rfl ?_
      refine zz_goto S dX7_isWithin_11 (t := 15) (by decide) ?_
      refine zz_zret S (zz_bit (by first | exact Or.inl rfl | exact Or.inr rfl)) dX7_isWithin_15 ⟨rfl, _, rfl, rfl, ?_⟩
      refine ⟨?_, rfl⟩
      first | rw [if_neg (fun e => absurd (Int32.not_le.mpr h1) (fun q => q e.1))] | rw [if_neg (fun e => absurd (Int32.not_le.mpr h2) (fun q => q e.2))] | rw [if_pos ⟨Int32.not_lt.mp h1, Int32.not_lt.mp h2⟩]
theorem cx_rounded (a b : Int64) (hb : 0 < b) (E : ZE) (im : ZI) : zz_OPL G l 0 mX7_rounded [.long a, .long b] E im (zs_rd a b) := by
  have h2 : ¬ 2 * b = 0 := by rw [zs_dbl]; exact zs_two hb
  rw [zs_rd_c hb]
  refine zz_intro (isI := false) (by decide) rfl (Nat.le_of_ble_eq_true rfl) (fun h => by cases h) (fun w S => ?_)
  refine zz_lload_2 S dX7_rounded_0 (q := 1) rfl ?_
  refine zz_lconst S (v := 0) rfl dX7_rounded_1 (q := 2) rfl ?_
  refine zz_lcmp S dX7_rounded_2 (q := 3) rfl ?_
  refine zz_if_gt S dX7_rounded_3 (t := 8) (by decide) (q := 6) rfl (fun h1 => ?_) (fun h1 => ?_)
  · refine zz_ldc2 S (v := 2) kX7_271 dX7_rounded_8 (q := 11) rfl ?_
    refine zz_lload_0 S dX7_rounded_11 (q := 12) rfl ?_
    refine zz_lmul S dX7_rounded_12 (q := 13) rfl ?_
    refine zz_lload_2 S dX7_rounded_13 (q := 14) rfl ?_
    refine zz_ladd S dX7_rounded_14 (q := 15) rfl ?_
    refine zz_lstore_4 S rfl dX7_rounded_15 (q := 17) rfl ?_
    refine zz_lload_4 S dX7_rounded_17 (q := 19) rfl ?_
    refine zz_ldc2 S (v := 2) kX7_271 dX7_rounded_19 (q := 22) rfl ?_
    refine zz_lload_2 S dX7_rounded_22 (q := 23) rfl ?_
    refine zz_lmul S dX7_rounded_23 (q := 24) rfl ?_
    refine zz_ldiv S h2 dX7_rounded_24 (q := 25) rfl ?_
    refine zz_lstore_6 S rfl dX7_rounded_25 (q := 27) rfl ?_
    refine zz_lload_4 S dX7_rounded_27 (q := 29) rfl ?_
    refine zz_ldc2 S (v := 2) kX7_271 dX7_rounded_29 (q := 32) rfl ?_
    refine zz_lload_2 S dX7_rounded_32 (q := 33) rfl ?_
    refine zz_lmul S dX7_rounded_33 (q := 34) rfl ?_
    refine zz_lrem S h2 dX7_rounded_34 (q := 35) rfl ?_
    refine zz_lconst S (v := 0) rfl dX7_rounded_35 (q := 36) rfl ?_
    refine zz_lcmp S dX7_rounded_36 (q := 37) rfl ?_
    refine zz_if_ge S dX7_rounded_37 (t := 47) (by decide) (q := 40) rfl (fun h2 => ?_) (fun h2 => ?_)
    · refine zz_lload_6 S dX7_rounded_47 (q := 49) rfl ?_
      refine zz_lret S dX7_rounded_49 ⟨rfl, _, rfl, rfl, ?_⟩
      refine ⟨?_, rfl⟩
      first | (rw [gt_iff_lt, lg_cmp_gt] at h1; exact absurd hb h1) | (rw [ge_iff_le, lg_cmp_ge] at h2; rw [if_neg (Int64.not_lt.mpr h2)]) | (rw [ge_iff_le, lg_cmp_ge] at h2; rw [if_pos (Int64.not_le.mp h2)])
    · refine zz_lload_6 S dX7_rounded_40 (q := 42) rfl ?_
      refine zz_lconst S (v := 1) rfl dX7_rounded_42 (q := 43) rfl ?_
      refine zz_lsub S dX7_rounded_43 (q := 44) rfl ?_
      refine zz_goto S dX7_rounded_44 (t := 49) (by decide) ?_
      refine zz_lret S dX7_rounded_49 ⟨rfl, _, rfl, rfl, ?_⟩
      refine ⟨?_, rfl⟩
      first | (rw [gt_iff_lt, lg_cmp_gt] at h1; exact absurd hb h1) | (rw [ge_iff_le, lg_cmp_ge] at h2; rw [if_neg (Int64.not_lt.mpr h2)]) | (rw [ge_iff_le, lg_cmp_ge] at h2; rw [if_pos (Int64.not_le.mp h2)])
  · refine zz_lconst S (v := 0) rfl dX7_rounded_6 (q := 7) rfl ?_
    refine zz_lret S dX7_rounded_7 ⟨rfl, _, rfl, rfl, ?_⟩
    refine ⟨?_, rfl⟩
    first | (rw [gt_iff_lt, lg_cmp_gt] at h1; exact absurd hb h1) | (rw [ge_iff_le, lg_cmp_ge] at h2; rw [if_neg (Int64.not_lt.mpr h2)]) | (rw [ge_iff_le, lg_cmp_ge] at h2; rw [if_pos (Int64.not_le.mp h2)])
theorem cx_isError (x : Int32) (E : ZE) (im : ZI) : zz_OP G l 0 mX7_isError [.int x] E im (if x = -100001 ∨ x = -100002 ∨ x = -100003 then 1 else 0) := by
  refine zz_intro (isI := false) (by decide) rfl (Nat.le_of_ble_eq_true rfl) (fun h => by cases h) (fun w S => ?_)
  refine zz_iload_0 S dX7_isError_0 (q := 1) rfl ?_
  refine zz_ldc S (v := (-100001)) kX7_159 dX7_isError_1 (q := 3) rfl ?_
  refine zz_icmp_eq S dX7_isError_3 (t := 19) (by decide) (q := 6) rfl (fun h1 => ?_) (fun h1 => ?_)
  · refine zz_iconst S (v := 1) rfl dX7_isError_19 (q := 20) rfl ?_
    refine zz_goto S dX7_isError_20 (t := 24) (by decide) ?_
    refine zz_zret S (zz_bit (by first | exact Or.inl rfl | exact Or.inr rfl)) dX7_isError_24 ⟨rfl, _, rfl, rfl, ?_⟩
    refine ⟨?_, rfl⟩
    first | rw [if_pos (Or.inl h1)] | rw [if_pos (Or.inr (Or.inl h2))] | rw [if_pos (Or.inr (Or.inr h3))] | rw [if_neg (fun e => e.elim h1 (fun e => e.elim h2 h3))]
  · refine zz_iload_0 S dX7_isError_6 (q := 7) rfl ?_
    refine zz_ldc S (v := (-100002)) kX7_95 dX7_isError_7 (q := 9) rfl ?_
    refine zz_icmp_eq S dX7_isError_9 (t := 19) (by decide) (q := 12) rfl (fun h2 => ?_) (fun h2 => ?_)
    · refine zz_iconst S (v := 1) rfl dX7_isError_19 (q := 20) rfl ?_
      refine zz_goto S dX7_isError_20 (t := 24) (by decide) ?_
      refine zz_zret S (zz_bit (by first | exact Or.inl rfl | exact Or.inr rfl)) dX7_isError_24 ⟨rfl, _, rfl, rfl, ?_⟩
      refine ⟨?_, rfl⟩
      first | rw [if_pos (Or.inl h1)] | rw [if_pos (Or.inr (Or.inl h2))] | rw [if_pos (Or.inr (Or.inr h3))] | rw [if_neg (fun e => e.elim h1 (fun e => e.elim h2 h3))]
    · refine zz_iload_0 S dX7_isError_12 (q := 13) rfl ?_
      refine zz_ldcw S (v := (-100003)) kX7_270 dX7_isError_13 (q := 16) rfl ?_
      refine zz_icmp_ne S dX7_isError_16 (t := 23) (by decide) (q := 19) rfl (fun h3 => ?_) (fun h3 => ?_)
      · refine zz_iconst S (v := 0) rfl dX7_isError_23 (q := 24) rfl ?_
        refine zz_zret S (zz_bit (by first | exact Or.inl rfl | exact Or.inr rfl)) dX7_isError_24 ⟨rfl, _, rfl, rfl, ?_⟩
        refine ⟨?_, rfl⟩
        first | rw [if_pos (Or.inl h1)] | rw [if_pos (Or.inr (Or.inl h2))] | rw [if_pos (Or.inr (Or.inr h3))] | rw [if_neg (fun e => e.elim h1 (fun e => e.elim h2 h3))]
      · refine zz_iconst S (v := 1) rfl dX7_isError_19 (q := 20) rfl ?_
        refine zz_goto S dX7_isError_20 (t := 24) (by decide) ?_
        refine zz_zret S (zz_bit (by first | exact Or.inl rfl | exact Or.inr rfl)) dX7_isError_24 ⟨rfl, _, rfl, rfl, ?_⟩
        refine ⟨?_, rfl⟩
        first | rw [if_pos (Or.inl h1)] | rw [if_pos (Or.inr (Or.inl h2))] | rw [if_pos (Or.inr (Or.inr h3))] | rw [if_neg (fun e => e.elim h1 (fun e => e.elim h2 h3))]
/-- sines are small -/
theorem zs_sine_all : ∀ i, i < 1441 → -10000 ≤ zs_sine (nI i + (-720)) ∧ zs_sine (nI i + (-720)) ≤ 10000 := by
  have h : (List.range 1441).all (fun i => decide (-10000 ≤ zs_sine (nI i + (-720)) ∧ zs_sine (nI i + (-720)) ≤ 10000)) = true := by decide +kernel
  intro i hi
  have h9 := List.all_eq_true.mp h i (List.mem_range.mpr hi)
  exact of_decide_eq_true h9
theorem zs_angle {q : Int32} (h1 : -720 ≤ q.toInt) (h2 : q.toInt ≤ 720) : ∃ i, i < 1441 ∧ q = nI i + (-720) := by
  refine ⟨(q.toInt + 720).toNat, by omega, ?_⟩
  apply Int32.toInt_inj.mp
  rw [Int32.toInt_add, nI_toInt (by omega), show ((-720 : Int32)).toInt = -720 from rfl, Int.bmod_eq_of_le (by omega) (by omega)]
  omega
theorem zs_sine_in {q : Int32} (h1 : -720 ≤ q.toInt) (h2 : q.toInt ≤ 720) : -10000 ≤ (zs_sine q).toInt ∧ (zs_sine q).toInt ≤ 10000 := by
  obtain ⟨i, hi, e⟩ := zs_angle h1 h2
  have := zs_sine_all i hi
  rw [← e] at this
  exact ⟨by have := Int64.le_iff_toInt_le.mp this.1; simpa using this, by have := Int64.le_iff_toInt_le.mp this.2; simpa using this⟩
theorem zs_sine_32 {q : Int32} (h1 : -720 ≤ q.toInt) (h2 : q.toInt ≤ 720) : (zs_sine q).toInt32.toInt64 = zs_sine q := by
  have := zs_sine_in h1 h2
  apply Int64.toInt_inj.mp
  rw [Int32.toInt_toInt64, Int64.toInt_toInt32, Int.bmod_eq_of_le (by omega) (by omega)]
/-- the divisor of a sine is above 0 -/
theorem zs_sine_pos {q : Int32} (h1 : -720 ≤ q.toInt) (h2 : q.toInt ≤ 720) : 0 < 648000 - zs_prod q := by
  have key : ∀ i, i < 1441 → 0 < 648000 - zs_prod (nI i + (-720)) := by
    have h : (List.range 1441).all (fun i => decide (0 < 648000 - zs_prod (nI i + (-720)))) = true := by decide +kernel
    intro i hi
    have h9 := List.all_eq_true.mp h i (List.mem_range.mpr hi)
    exact of_decide_eq_true h9
  obtain ⟨i, hi, e⟩ := zs_angle h1 h2
  have := key i hi
  rw [← e] at this
  exact this
theorem cx_sineOf (q : Int32) (h1 : -720 ≤ q.toInt) (h2 : q.toInt ≤ 720) (E : ZE) (im : ZI) : zz_OP G l 1 mX7_sineOf [.int q] E im (zs_sine q).toInt32 := by
  have ha : (if 0 ≤ q then q else 0 - q).toInt64 = (zs_abs q).toInt64 := by
    unfold zs_abs
    by_cases h : 0 ≤ q
    · rw [if_pos h, if_pos h]
    · rw [if_neg h, if_neg h, Int32.zero_sub]
  have hb : (zs_abs q).toInt64 * (720 - (zs_abs q).toInt64) = zs_prod q := by
    have h3 : (zs_abs q).toInt = q.toInt.natAbs := by
      unfold zs_abs
      by_cases h : q ≥ 0
      · rw [if_pos h]
        have := Int32.le_iff_toInt_le.mp h
        have z0 : (0 : Int32).toInt = 0 := rfl
        omega
      · rw [if_neg h]
        rw [ge_iff_le, Int32.le_iff_toInt_le] at h
        have z0 : (0 : Int32).toInt = 0 := rfl
        rw [Int32.toInt_neg, Int.bmod_eq_of_le (by omega) (by omega)]
        omega
    have h4 : 720 - (zs_abs q).toInt64 = (720 - zs_abs q).toInt64 := by
      apply Int64.toInt_inj.mp
      rw [Int64.toInt_sub, Int32.toInt_toInt64, Int32.toInt_toInt64, Int32.toInt_sub, show ((720 : Int64)).toInt = 720 from rfl, show ((720 : Int32)).toInt = 720 from rfl, h3, Int.bmod_eq_of_le (by omega) (by omega), Int.bmod_eq_of_le (by omega) (by omega)]
    rw [h4, zs_prod]
  have hs := zs_sine_in h1 h2
  refine zz_intro (isI := false) (by decide) rfl (Nat.le_of_ble_eq_true rfl) (fun h => by cases h) (fun w S => ?_)
  refine zz_iload_0 S dX7_sineOf_0 (q := 1) rfl ?_
  -- at 1: invokestatic 273
  refine zz_abs S lX7_273 ⟨n_absSt, n_MathIni, n_absCo⟩ (Nat.le_of_ble_eq_true rfl) (Nat.le_of_ble_eq_true rfl) dX7_sineOf_1 (q := 4) rfl ?_
  refine zz_i2l S dX7_sineOf_4 (q := 5) rfl ?_
  refine zz_lstore_1 S rfl dX7_sineOf_5 (q := 6) rfl ?_
  refine zz_lload_1 S dX7_sineOf_6 (q := 7) rfl ?_
  refine zz_ldc2 S (v := 720) kX7_278 dX7_sineOf_7 (q := 10) rfl ?_
  refine zz_lload_1 S dX7_sineOf_10 (q := 11) rfl ?_
  refine zz_lsub S dX7_sineOf_11 (q := 12) rfl ?_
  refine zz_lmul S dX7_sineOf_12 (q := 13) rfl ?_
  refine zz_lstore_3 S rfl dX7_sineOf_13 (q := 14) rfl ?_
  refine zz_ldc2 S (v := 40000) kX7_280 dX7_sineOf_14 (q := 17) rfl ?_
  refine zz_lload_3 S dX7_sineOf_17 (q := 18) rfl ?_
  refine zz_lmul S dX7_sineOf_18 (q := 19) rfl ?_
  refine zz_ldc2 S (v := 648000) kX7_282 dX7_sineOf_19 (q := 22) rfl ?_
  refine zz_lload_3 S dX7_sineOf_22 (q := 23) rfl ?_
  refine zz_lsub S dX7_sineOf_23 (q := 24) rfl ?_
  -- at 24: invokestatic 284
  rw [ha, hb]
  refine zz_statPL S yy_X7_rounded lX7_284 (cx_rounded (40000 * zs_prod q) (648000 - zs_prod q) (zs_sine_pos h1 h2) E im) rfl (Nat.le_of_ble_eq_true rfl) (Nat.le_of_ble_eq_true rfl) rfl dX7_sineOf_24 (q := 27) rfl ?_
  refine zz_l2i S dX7_sineOf_27 (q := 28) rfl ?_
  refine zz_istore_5 S rfl dX7_sineOf_28 (q := 30) rfl ?_
  refine zz_iload_0 S dX7_sineOf_30 (q := 31) rfl ?_
  refine zz_if_ge S dX7_sineOf_31 (t := 40) (by decide) (q := 34) rfl (fun b1 => ?_) (fun b1 => ?_)
  · refine zz_iload_5 S dX7_sineOf_40 (q := 42) rfl ?_
    refine zz_iret S dX7_sineOf_42 ⟨rfl, _, rfl, rfl, ?_⟩
    refine ⟨?_, rfl⟩
    unfold zs_sine at hs ⊢
    first | rw [if_pos b1] | (rw [if_neg b1] at hs ⊢; apply Int32.toInt_inj.mp; rw [Int64.toInt_neg] at hs; rw [Int32.toInt_neg, Int64.toInt_toInt32, Int64.toInt_toInt32, Int64.toInt_neg]; simp; exact (Int.bmod_bmod_of_dvd (by decide)).symm)
  · refine zz_iload_5 S dX7_sineOf_34 (q := 36) rfl ?_
    refine zz_ineg S dX7_sineOf_36 (q := 37) rfl ?_
    refine zz_goto S dX7_sineOf_37 (t := 42) (by decide) ?_
    refine zz_iret S dX7_sineOf_42 ⟨rfl, _, rfl, rfl, ?_⟩
    refine ⟨?_, rfl⟩
    unfold zs_sine at hs ⊢
    first | rw [if_pos b1] | (rw [if_neg b1] at hs ⊢; apply Int32.toInt_inj.mp; rw [Int64.toInt_neg] at hs; rw [Int32.toInt_neg, Int64.toInt_toInt32, Int64.toInt_toInt32, Int64.toInt_neg]; simp; exact (Int.bmod_bmod_of_dvd (by decide)).symm)
end ZCNM
