/-! THE REFERENCE: what it reckons with numbers alone -/
theorem co_in (G : ZG) (l : Launch) (v a b : Int32) (E : ZE) (im : ZI) : zz_OP G l 0 mX8_in [.int v, .int a, .int b] E im (if v ≥ a ∧ v ≤ b then 1 else 0) := by
  refine zz_intro (isI := false) (by decide) rfl (Nat.le_of_ble_eq_true rfl) (fun h => by cases h) (fun w S => ?_)
  refine zz_iload_0 S dX8_in_0 (q := 1) rfl ?_
  refine zz_iload_1 S dX8_in_1 (q := 2) rfl ?_
  refine zz_icmp_lt S dX8_in_2 (t := 14) (by decide) (q := 5) rfl (fun h1 => ?_) (fun h1 => ?_)
  · refine zz_iconst S (v := 0) rfl dX8_in_14 (q := 15) rfl ?_
    refine zz_zret S rfl dX8_in_15 ⟨rfl, _, rfl, rfl, ?_⟩
    refine ⟨?_, rfl⟩
    simp only [ge_iff_le, gt_iff_lt, Int32.lt_iff_toInt_lt, Int32.le_iff_toInt_le] at h1 ⊢
    try simp only [ge_iff_le, gt_iff_lt, Int32.lt_iff_toInt_lt, Int32.le_iff_toInt_le] at h2
    split <;> first | rfl | (exfalso; omega)
  · refine zz_iload_0 S dX8_in_5 (q := 6) rfl ?_
    refine zz_iload_2 S dX8_in_6 (q := 7) rfl ?_
    refine zz_icmp_gt S dX8_in_7 (t := 14) (by decide) (q := 10) rfl (fun h2 => ?_) (fun h2 => ?_)
    · refine zz_iconst S (v := 0) rfl dX8_in_14 (q := 15) rfl ?_
      refine zz_zret S rfl dX8_in_15 ⟨rfl, _, rfl, rfl, ?_⟩
      refine ⟨?_, rfl⟩
      simp only [ge_iff_le, gt_iff_lt, Int32.lt_iff_toInt_lt, Int32.le_iff_toInt_le] at h1 ⊢
      try simp only [ge_iff_le, gt_iff_lt, Int32.lt_iff_toInt_lt, Int32.le_iff_toInt_le] at h2
      split <;> first | rfl | (exfalso; omega)
    · refine zz_iconst S (v := 1) rfl dX8_in_10 (q := 11) rfl ?_
      refine zz_goto S dX8_in_11 (t := 15) (by decide) ?_
      refine zz_zret S rfl dX8_in_15 ⟨rfl, _, rfl, rfl, ?_⟩
      refine ⟨?_, rfl⟩
      simp only [ge_iff_le, gt_iff_lt, Int32.lt_iff_toInt_lt, Int32.le_iff_toInt_le] at h1 ⊢
      try simp only [ge_iff_le, gt_iff_lt, Int32.lt_iff_toInt_lt, Int32.le_iff_toInt_le] at h2
      split <;> first | rfl | (exfalso; omega)
def zs_size (v : Int32) : Int32 := if v ≥ 0 then v else -v
theorem co_size (G : ZG) (l : Launch) (v : Int32) (E : ZE) (im : ZI) : zz_OP G l 0 mX8_size [.int v] E im (zs_size v) := by
  refine zz_intro (isI := false) (by decide) rfl (Nat.le_of_ble_eq_true rfl) (fun h => by cases h) (fun w S => ?_)
  refine zz_iload_0 S dX8_size_0 (q := 1) rfl ?_
  refine zz_if_ge S dX8_size_1 (t := 9) (by decide) (q := 4) rfl (fun h1 => ?_) (fun h1 => ?_)
  · refine zz_iload_0 S dX8_size_9 (q := 10) rfl ?_
    refine zz_iret S dX8_size_10 ⟨rfl, _, rfl, rfl, ?_⟩
    exact ⟨by simp [zs_size, h1], rfl⟩
  · refine zz_iload_0 S dX8_size_4 (q := 5) rfl ?_
    refine zz_ineg S dX8_size_5 (q := 6) rfl ?_
    refine zz_goto S dX8_size_6 (t := 10) (by decide) ?_
    refine zz_iret S dX8_size_10 ⟨rfl, _, rfl, rfl, ?_⟩
    exact ⟨by simp [zs_size, h1], rfl⟩
/-- a quotient rounded, as the reference has it -/
def zs_rd (a b : Int64) : Int64 := if 0 ≤ a + a + b then (a + a + b) / (b + b) else if (a + a + b) / (b + b) * (b + b) = a + a + b then (a + a + b) / (b + b) else (a + a + b) / (b + b) - 1
theorem co_rounded (G : ZG) (l : Launch) (a b : Int64) (hb : ¬ b + b = 0) (E : ZE) (im : ZI) : zz_OPL G l 0 mX8_rounded [.long a, .long b] E im (zs_rd a b) := by
  refine zz_intro (isI := false) (by decide) rfl (Nat.le_of_ble_eq_true rfl) (fun h => by cases h) (fun w S => ?_)
  refine zz_lload_0 S dX8_rounded_0 (q := 1) rfl ?_
  refine zz_lload_0 S dX8_rounded_1 (q := 2) rfl ?_
  refine zz_ladd S dX8_rounded_2 (q := 3) rfl ?_
  refine zz_lload_2 S dX8_rounded_3 (q := 4) rfl ?_
  refine zz_ladd S dX8_rounded_4 (q := 5) rfl ?_
  refine zz_lstore_4 S rfl dX8_rounded_5 (q := 7) rfl ?_
  refine zz_lload_2 S dX8_rounded_7 (q := 8) rfl ?_
  refine zz_lload_2 S dX8_rounded_8 (q := 9) rfl ?_
  refine zz_ladd S dX8_rounded_9 (q := 10) rfl ?_
  refine zz_lstore_6 S rfl dX8_rounded_10 (q := 12) rfl ?_
  refine zz_lload_4 S dX8_rounded_12 (q := 14) rfl ?_
  refine zz_lload_6 S dX8_rounded_14 (q := 16) rfl ?_
  refine zz_ldiv S hb dX8_rounded_16 (q := 17) rfl ?_
  refine zz_lstore_8 S rfl dX8_rounded_17 (q := 19) rfl ?_
  refine zz_lload_4 S dX8_rounded_19 (q := 21) rfl ?_
  refine zz_lconst S (v := 0) rfl dX8_rounded_21 (q := 22) rfl ?_
  refine zz_lcmp S dX8_rounded_22 (q := 23) rfl ?_
  refine zz_if_ge S dX8_rounded_23 (t := 44) (by decide) (q := 26) rfl (fun h1 => ?_) (fun h1 => ?_)
  · refine zz_lload_8 S dX8_rounded_44 (q := 46) rfl ?_
    refine zz_lret S dX8_rounded_46 ⟨rfl, _, rfl, rfl, ?_⟩
    refine ⟨?_, rfl⟩
    rw [ge_iff_le, lg_cmp_ge] at h1
    unfold zs_rd
    first | rw [if_pos h1] | (rw [lg_cmp_eq] at h2; rw [if_neg h1, if_pos h2]) | (rw [lg_cmp_eq] at h2; rw [if_neg h1, if_neg h2])
  · refine zz_lload_8 S dX8_rounded_26 (q := 28) rfl ?_
    refine zz_lload_6 S dX8_rounded_28 (q := 30) rfl ?_
    refine zz_lmul S dX8_rounded_30 (q := 31) rfl ?_
    refine zz_lload_4 S dX8_rounded_31 (q := 33) rfl ?_
    refine zz_lcmp S dX8_rounded_33 (q := 34) rfl ?_
    refine zz_if_eq S dX8_rounded_34 (t := 44) (by decide) (q := 37) rfl (fun h2 => ?_) (fun h2 => ?_)
    · refine zz_lload_8 S dX8_rounded_44 (q := 46) rfl ?_
      refine zz_lret S dX8_rounded_46 ⟨rfl, _, rfl, rfl, ?_⟩
      refine ⟨?_, rfl⟩
      rw [ge_iff_le, lg_cmp_ge] at h1
      unfold zs_rd
      first | rw [if_pos h1] | (rw [lg_cmp_eq] at h2; rw [if_neg h1, if_pos h2]) | (rw [lg_cmp_eq] at h2; rw [if_neg h1, if_neg h2])
    · refine zz_lload_8 S dX8_rounded_37 (q := 39) rfl ?_
      refine zz_lconst S (v := 1) rfl dX8_rounded_39 (q := 40) rfl ?_
      refine zz_lsub S dX8_rounded_40 (q := 41) rfl ?_
      refine zz_goto S dX8_rounded_41 (t := 46) (by decide) ?_
      refine zz_lret S dX8_rounded_46 ⟨rfl, _, rfl, rfl, ?_⟩
      refine ⟨?_, rfl⟩
      rw [ge_iff_le, lg_cmp_ge] at h1
      unfold zs_rd
      first | rw [if_pos h1] | (rw [lg_cmp_eq] at h2; rw [if_neg h1, if_pos h2]) | (rw [lg_cmp_eq] at h2; rw [if_neg h1, if_neg h2])
def zs_abs (q : Int32) : Int32 := if q ≥ 0 then q else -q
def zs_prod (q : Int32) : Int64 := (zs_abs q).toInt64 * (720 - zs_abs q).toInt64
def zs_sine (q : Int32) : Int64 := if q ≥ 0 then zs_rd (40000 * zs_prod q) (648000 - zs_prod q) else -(zs_rd (40000 * zs_prod q) (648000 - zs_prod q))
/-- the reference's sine can be reckoned -/
def zs_ok (q : Int32) : Prop := ¬ (648000 - zs_prod q) + (648000 - zs_prod q) = 0
theorem co_sineOf (G : ZG) (l : Launch) (q : Int32) (hq : zs_ok q) (E : ZE) (im : ZI) : zz_OPL G l 1 mX8_sineOf [.int q] E im (zs_sine q) := by
  refine zz_intro (isI := false) (by decide) rfl (Nat.le_of_ble_eq_true rfl) (fun h => by cases h) (fun w S => ?_)
  refine zz_iload_0 S dX8_sineOf_0 (q := 1) rfl ?_
  refine zz_if_ge S dX8_sineOf_1 (t := 9) (by decide) (q := 4) rfl (fun h1 => ?_) (fun h1 => ?_)
  -- then 9 else 4
  · have e1 : zs_abs q = q := by simp only [zs_abs, if_pos h1]
    have e2 : zs_prod q = q.toInt64 * (720 - q).toInt64 := by simp only [zs_prod, e1]
    unfold zs_ok at hq
    rw [e2] at hq
    refine zz_iload_0 S dX8_sineOf_9 (q := 10) rfl ?_
    refine zz_istore_1 S rfl dX8_sineOf_10 (q := 11) rfl ?_
    refine zz_iload_1 S dX8_sineOf_11 (q := 12) rfl ?_
    refine zz_i2l S dX8_sineOf_12 (q := 13) rfl ?_
    refine zz_sipush S (v := 720) rfl dX8_sineOf_13 (q := 16) rfl ?_
    refine zz_iload_1 S dX8_sineOf_16 (q := 17) rfl ?_
    refine zz_isub S dX8_sineOf_17 (q := 18) rfl ?_
    refine zz_i2l S dX8_sineOf_18 (q := 19) rfl ?_
    refine zz_lmul S dX8_sineOf_19 (q := 20) rfl ?_
    refine zz_lstore_2 S rfl dX8_sineOf_20 (q := 21) rfl ?_
    refine zz_ldc2 S (v := 40000) kX8_42 dX8_sineOf_21 (q := 24) rfl ?_
    refine zz_lload_2 S dX8_sineOf_24 (q := 25) rfl ?_
    refine zz_lmul S dX8_sineOf_25 (q := 26) rfl ?_
    refine zz_ldc2 S (v := 648000) kX8_44 dX8_sineOf_26 (q := 29) rfl ?_
    refine zz_lload_2 S dX8_sineOf_29 (q := 30) rfl ?_
    refine zz_lsub S dX8_sineOf_30 (q := 31) rfl ?_
    refine zz_statPL S yy_X8_rounded lX8_46 (co_rounded G l (40000 * (q.toInt64 * (720 - q).toInt64)) (648000 - q.toInt64 * (720 - q).toInt64) hq E im) rfl (Nat.le_of_ble_eq_true rfl) (Nat.le_of_ble_eq_true rfl) rfl dX8_sineOf_31 (q := 34) rfl ?_
    refine zz_lstore_4 S rfl dX8_sineOf_34 (q := 36) rfl ?_
    refine zz_iload_0 S dX8_sineOf_36 (q := 37) rfl ?_
    refine zz_if_ge S dX8_sineOf_37 (t := 46) (by decide) (q := 40) rfl (fun k1 => ?_) (fun k1 => ?_)
    · refine zz_lload_4 S dX8_sineOf_46 (q := 48) rfl ?_
      refine zz_lret S dX8_sineOf_48 ⟨rfl, _, rfl, rfl, ?_⟩
      first | exact absurd h1 k1 | exact ⟨by rw [zs_sine, if_pos h1, e2], rfl⟩
    · refine zz_lload_4 S dX8_sineOf_40 (q := 42) rfl ?_
      refine zz_lneg S dX8_sineOf_42 (q := 43) rfl ?_
      refine zz_goto S dX8_sineOf_43 (t := 48) (by decide) ?_
      refine zz_lret S dX8_sineOf_48 ⟨rfl, _, rfl, rfl, ?_⟩
      first | exact absurd h1 k1 | exact ⟨by rw [zs_sine, if_pos h1, e2], rfl⟩
  · have e1 : zs_abs q = -q := by simp only [zs_abs, if_neg h1]
    have e2 : zs_prod q = (-q).toInt64 * (720 - -q).toInt64 := by simp only [zs_prod, e1]
    unfold zs_ok at hq
    rw [e2] at hq
    refine zz_iload_0 S dX8_sineOf_4 (q := 5) rfl ?_
    refine zz_ineg S dX8_sineOf_5 (q := 6) rfl ?_
    refine zz_goto S dX8_sineOf_6 (t := 10) (by decide) ?_
    refine zz_istore_1 S rfl dX8_sineOf_10 (q := 11) rfl ?_
    refine zz_iload_1 S dX8_sineOf_11 (q := 12) rfl ?_
    refine zz_i2l S dX8_sineOf_12 (q := 13) rfl ?_
    refine zz_sipush S (v := 720) rfl dX8_sineOf_13 (q := 16) rfl ?_
    refine zz_iload_1 S dX8_sineOf_16 (q := 17) rfl ?_
    refine zz_isub S dX8_sineOf_17 (q := 18) rfl ?_
    refine zz_i2l S dX8_sineOf_18 (q := 19) rfl ?_
    refine zz_lmul S dX8_sineOf_19 (q := 20) rfl ?_
    refine zz_lstore_2 S rfl dX8_sineOf_20 (q := 21) rfl ?_
    refine zz_ldc2 S (v := 40000) kX8_42 dX8_sineOf_21 (q := 24) rfl ?_
    refine zz_lload_2 S dX8_sineOf_24 (q := 25) rfl ?_
    refine zz_lmul S dX8_sineOf_25 (q := 26) rfl ?_
    refine zz_ldc2 S (v := 648000) kX8_44 dX8_sineOf_26 (q := 29) rfl ?_
    refine zz_lload_2 S dX8_sineOf_29 (q := 30) rfl ?_
    refine zz_lsub S dX8_sineOf_30 (q := 31) rfl ?_
    refine zz_statPL S yy_X8_rounded lX8_46 (co_rounded G l (40000 * ((-q).toInt64 * (720 - -q).toInt64)) (648000 - (-q).toInt64 * (720 - -q).toInt64) hq E im) rfl (Nat.le_of_ble_eq_true rfl) (Nat.le_of_ble_eq_true rfl) rfl dX8_sineOf_31 (q := 34) rfl ?_
    refine zz_lstore_4 S rfl dX8_sineOf_34 (q := 36) rfl ?_
    refine zz_iload_0 S dX8_sineOf_36 (q := 37) rfl ?_
    refine zz_if_ge S dX8_sineOf_37 (t := 46) (by decide) (q := 40) rfl (fun k1 => ?_) (fun k1 => ?_)
    · refine zz_lload_4 S dX8_sineOf_46 (q := 48) rfl ?_
      refine zz_lret S dX8_sineOf_48 ⟨rfl, _, rfl, rfl, ?_⟩
      first | exact absurd k1 h1 | exact ⟨by rw [zs_sine, if_neg h1, e2], rfl⟩
    · refine zz_lload_4 S dX8_sineOf_40 (q := 42) rfl ?_
      refine zz_lneg S dX8_sineOf_42 (q := 43) rfl ?_
      refine zz_goto S dX8_sineOf_43 (t := 48) (by decide) ?_
      refine zz_lret S dX8_sineOf_48 ⟨rfl, _, rfl, rfl, ?_⟩
      first | exact absurd k1 h1 | exact ⟨by rw [zs_sine, if_neg h1, e2], rfl⟩
theorem co_cosineOf (G : ZG) (l : Launch) (q : Int32) (hq : zs_ok (360 + q)) (E : ZE) (im : ZI) : zz_OPL G l 2 mX8_cosineOf [.int q] E im (zs_sine (360 + q)) := by
  refine zz_intro (isI := false) (by decide) rfl (Nat.le_of_ble_eq_true rfl) (fun h => by cases h) (fun w S => ?_)
  refine zz_sipush S (v := 360) rfl dX8_cosineOf_0 (q := 3) rfl ?_
  refine zz_iload_0 S dX8_cosineOf_3 (q := 4) rfl ?_
  refine zz_iadd S dX8_cosineOf_4 (q := 5) rfl ?_
  refine zz_statPL S yy_X8_sineOf lX8_50 (co_sineOf G l (360 + q) hq E im) rfl (Nat.le_of_ble_eq_true rfl) (Nat.le_of_ble_eq_true rfl) rfl dX8_cosineOf_5 (q := 8) rfl ?_
  refine zz_lret S dX8_cosineOf_8 ⟨rfl, _, rfl, rfl, ?_⟩
  exact ⟨rfl, rfl⟩
/-- side and front of the shadow -/
def zs_side (f v m : Int32) : Int64 := if v = 0 then zs_sine f * zs_sine m else 10000 * zs_sine (360 + f) * zs_sine m
def zs_front (f v d m : Int32) : Int64 := if v = 0 then 10000 * zs_sine (360 + m) else 10000 * zs_sine (360 + d) * zs_sine (360 + m) + zs_sine d * zs_sine f * zs_sine m
theorem co_sideOf (G : ZG) (l : Launch) (f v m : Int32) (h1 : zs_ok f) (h2 : zs_ok (360 + f)) (h3 : zs_ok m) (E : ZE) (im : ZI) : zz_OPL G l 3 mX8_sideOf [.int f, .int v, .int m] E im (zs_side f v m) := by
  refine zz_intro (isI := false) (by decide) rfl (Nat.le_of_ble_eq_true rfl) (fun h => by cases h) (fun w S => ?_)
  refine zz_iload_1 S dX8_sideOf_0 (q := 1) rfl ?_
  refine zz_if_eq S dX8_sideOf_1 (t := 20) (by decide) (q := 4) rfl (fun k1 => ?_) (fun k1 => ?_)
  · refine zz_iload_0 S dX8_sideOf_20 (q := 21) rfl ?_
    refine zz_statPL S yy_X8_sineOf lX8_50 (co_sineOf G l f h1 E im) rfl (Nat.le_of_ble_eq_true rfl) (Nat.le_of_ble_eq_true rfl) rfl dX8_sideOf_21 (q := 24) rfl ?_
    refine zz_iload_2 S dX8_sideOf_24 (q := 25) rfl ?_
    refine zz_statPL S yy_X8_sineOf lX8_50 (co_sineOf G l m h3 E im) rfl (Nat.le_of_ble_eq_true rfl) (Nat.le_of_ble_eq_true rfl) rfl dX8_sideOf_25 (q := 28) rfl ?_
    refine zz_lmul S dX8_sideOf_28 (q := 29) rfl ?_
    refine zz_lret S dX8_sideOf_29 ⟨rfl, _, rfl, rfl, ?_⟩
    exact ⟨by simp [zs_side, k1], rfl⟩
  · refine zz_ldc2 S (v := 10000) kX8_54 dX8_sideOf_4 (q := 7) rfl ?_
    refine zz_iload_0 S dX8_sideOf_7 (q := 8) rfl ?_
    refine zz_statPL S yy_X8_cosineOf lX8_56 (co_cosineOf G l f h2 E im) rfl (Nat.le_of_ble_eq_true rfl) (Nat.le_of_ble_eq_true rfl) rfl dX8_sideOf_8 (q := 11) rfl ?_
    refine zz_lmul S dX8_sideOf_11 (q := 12) rfl ?_
    refine zz_iload_2 S dX8_sideOf_12 (q := 13) rfl ?_
    refine zz_statPL S yy_X8_sineOf lX8_50 (co_sineOf G l m h3 E im) rfl (Nat.le_of_ble_eq_true rfl) (Nat.le_of_ble_eq_true rfl) rfl dX8_sideOf_13 (q := 16) rfl ?_
    refine zz_lmul S dX8_sideOf_16 (q := 17) rfl ?_
    refine zz_goto S dX8_sideOf_17 (t := 29) (by decide) ?_
    refine zz_lret S dX8_sideOf_29 ⟨rfl, _, rfl, rfl, ?_⟩
    exact ⟨by simp [zs_side, k1], rfl⟩
theorem co_frontOf (G : ZG) (l : Launch) (f v d m : Int32) (h1 : zs_ok f) (h2 : zs_ok (360 + d)) (h3 : zs_ok m) (h4 : zs_ok (360 + m)) (h5 : zs_ok d) (E : ZE) (im : ZI) : zz_OPL G l 3 mX8_frontOf [.int f, .int v, .int d, .int m] E im (zs_front f v d m) := by
  refine zz_intro (isI := false) (by decide) rfl (Nat.le_of_ble_eq_true rfl) (fun h => by cases h) (fun w S => ?_)
  refine zz_iload_1 S dX8_frontOf_0 (q := 1) rfl ?_
  refine zz_if_eq S dX8_frontOf_1 (t := 35) (by decide) (q := 4) rfl (fun k1 => ?_) (fun k1 => ?_)
  · refine zz_ldc2 S (v := 10000) kX8_54 dX8_frontOf_35 (q := 38) rfl ?_
    refine zz_iload_3 S dX8_frontOf_38 (q := 39) rfl ?_
    refine zz_statPL S yy_X8_cosineOf lX8_56 (co_cosineOf G l m h4 E im) rfl (Nat.le_of_ble_eq_true rfl) (Nat.le_of_ble_eq_true rfl) rfl dX8_frontOf_39 (q := 42) rfl ?_
    refine zz_lmul S dX8_frontOf_42 (q := 43) rfl ?_
    refine zz_lret S dX8_frontOf_43 ⟨rfl, _, rfl, rfl, ?_⟩
    exact ⟨by simp [zs_front, k1], rfl⟩
  · refine zz_ldc2 S (v := 10000) kX8_54 dX8_frontOf_4 (q := 7) rfl ?_
    refine zz_iload_2 S dX8_frontOf_7 (q := 8) rfl ?_
    refine zz_statPL S yy_X8_cosineOf lX8_56 (co_cosineOf G l d h2 E im) rfl (Nat.le_of_ble_eq_true rfl) (Nat.le_of_ble_eq_true rfl) rfl dX8_frontOf_8 (q := 11) rfl ?_
    refine zz_lmul S dX8_frontOf_11 (q := 12) rfl ?_
    refine zz_iload_3 S dX8_frontOf_12 (q := 13) rfl ?_
    refine zz_statPL S yy_X8_cosineOf lX8_56 (co_cosineOf G l m h4 E im) rfl (Nat.le_of_ble_eq_true rfl) (Nat.le_of_ble_eq_true rfl) rfl dX8_frontOf_13 (q := 16) rfl ?_
    refine zz_lmul S dX8_frontOf_16 (q := 17) rfl ?_
    refine zz_iload_2 S dX8_frontOf_17 (q := 18) rfl ?_
    refine zz_statPL S yy_X8_sineOf lX8_50 (co_sineOf G l d h5 E im) rfl (Nat.le_of_ble_eq_true rfl) (Nat.le_of_ble_eq_true rfl) rfl dX8_frontOf_18 (q := 21) rfl ?_
    refine zz_iload_0 S dX8_frontOf_21 (q := 22) rfl ?_
    refine zz_statPL S yy_X8_sineOf lX8_50 (co_sineOf G l f h1 E im) rfl (Nat.le_of_ble_eq_true rfl) (Nat.le_of_ble_eq_true rfl) rfl dX8_frontOf_22 (q := 25) rfl ?_
    refine zz_lmul S dX8_frontOf_25 (q := 26) rfl ?_
    refine zz_iload_3 S dX8_frontOf_26 (q := 27) rfl ?_
    refine zz_statPL S yy_X8_sineOf lX8_50 (co_sineOf G l m h3 E im) rfl (Nat.le_of_ble_eq_true rfl) (Nat.le_of_ble_eq_true rfl) rfl dX8_frontOf_27 (q := 30) rfl ?_
    refine zz_lmul S dX8_frontOf_30 (q := 31) rfl ?_
    refine zz_ladd S dX8_frontOf_31 (q := 32) rfl ?_
    refine zz_goto S dX8_frontOf_32 (t := 43) (by decide) ?_
    refine zz_lret S dX8_frontOf_43 ⟨rfl, _, rfl, rfl, ?_⟩
    exact ⟨by simp [zs_front, k1], rfl⟩
