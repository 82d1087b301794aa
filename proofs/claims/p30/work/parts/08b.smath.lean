/-! MATH: sines, dials that are alike before and after noon -/
theorem zd_sym_all : ∀ i, i < 721 → zs_sine (zs_t (720 - i)) = -zs_sine (zs_t i) ∧ zs_sine (360 + zs_t (720 - i)) = zs_sine (360 + zs_t i) := by
  have h : (List.range 721).all (fun i => decide (zs_sine (zs_t (720 - i)) = -zs_sine (zs_t i) ∧ zs_sine (360 + zs_t (720 - i)) = zs_sine (360 + zs_t i))) = true := by decide +kernel
  intro i hi
  exact of_decide_eq_true (List.all_eq_true.mp h i (List.mem_range.mpr hi))
/-- what the law asks of sines -/
theorem zd_sine_all : ∀ i, i < 721 → ol_sine (nI i) = -ol_sine (-nI i) ∧ ol_sine (nI i) = ol_sine (720 - nI i) ∧ ol_sine (nI i) ≤ 10000 := by
  have h : (List.range 721).all (fun i => decide (ol_sine (nI i) = -ol_sine (-nI i) ∧ ol_sine (nI i) = ol_sine (720 - nI i) ∧ ol_sine (nI i) ≤ 10000)) = true := by decide +kernel
  intro i hi
  exact of_decide_eq_true (List.all_eq_true.mp h i (List.mem_range.mpr hi))
theorem zd_sine_2 : ol_sine 360 = 10000 ∧ ol_sine 0 = 0 := by decide +kernel
theorem zd_s0 : zs_sine 0 = 0 := by decide +kernel
theorem zd_m64 {x y : Int64} {a b : Nat} (hx : x.toInt.natAbs ≤ a) (hy : y.toInt.natAbs ≤ b) (hab : a * b < 2 ^ 62) : (x * y).toInt = x.toInt * y.toInt ∧ (x * y).toInt.natAbs ≤ a * b := by
  have h1 : (x.toInt * y.toInt).natAbs ≤ a * b := by
    rw [Int.natAbs_mul]
    exact Nat.mul_le_mul hx hy
  have h2 : (x * y).toInt = x.toInt * y.toInt := by
    rw [Int64.toInt_mul]
    apply Int.bmod_eq_of_le <;> omega
  exact ⟨h2, by rw [h2]; exact h1⟩
theorem zd_a64 {x y : Int64} {a b : Nat} (hx : x.toInt.natAbs ≤ a) (hy : y.toInt.natAbs ≤ b) (hab : a + b < 2 ^ 62) : (x + y).toInt = x.toInt + y.toInt ∧ (x + y).toInt.natAbs ≤ a + b := by
  have h2 : (x + y).toInt = x.toInt + y.toInt := by
    rw [Int64.toInt_add]
    apply Int.bmod_eq_of_le <;> omega
  exact ⟨h2, by rw [h2]; omega⟩
theorem zd_sn {q : Int32} (h : -720 ≤ q.toInt ∧ q.toInt ≤ 720) : (zs_sine q).toInt.natAbs ≤ 10000 := by
  have := zs_sine_in h.1 h.2
  omega
theorem zd_360 {q : Int32} (h : -360 ≤ q.toInt ∧ q.toInt ≤ 360) : -720 ≤ (360 + q).toInt ∧ (360 + q).toInt ≤ 720 := by
  rw [Int32.toInt_add, show ((360 : Int32)).toInt = 360 from rfl, Int.bmod_eq_of_le (by omega) (by omega)]
  omega
theorem zd_c64 : ((10000 : Int64)).toInt.natAbs ≤ 10000 := by decide
/-- side and front are no great numbers -/
theorem zd_side {f v m : Int32} (hf : -360 ≤ f.toInt ∧ f.toInt ≤ 360) (hm : -360 ≤ m.toInt ∧ m.toInt ≤ 360) : (zs_side f v m).toInt.natAbs ≤ 1000000000000 := by
  unfold zs_side
  split
  · have := (zd_m64 (zd_sn (q := f) (by omega)) (zd_sn (q := m) (by omega)) (by decide)).2
    omega
  · have h1 := (zd_m64 zd_c64 (zd_sn (zd_360 hf)) (by decide)).2
    have := (zd_m64 h1 (zd_sn (q := m) (by omega)) (by decide)).2
    omega
theorem zd_front {f v d m : Int32} (hf : -360 ≤ f.toInt ∧ f.toInt ≤ 360) (hd : -360 ≤ d.toInt ∧ d.toInt ≤ 360) (hm : -360 ≤ m.toInt ∧ m.toInt ≤ 360) : (zs_front f v d m).toInt.natAbs ≤ 2000000000000 := by
  unfold zs_front
  split
  · have := (zd_m64 zd_c64 (zd_sn (zd_360 hm)) (by decide)).2
    omega
  · have h1 := (zd_m64 (zd_m64 zd_c64 (zd_sn (zd_360 hd)) (by decide)).2 (zd_sn (zd_360 hm)) (by decide)).2
    have h2 := (zd_m64 (zd_m64 (zd_sn (q := d) (by omega)) (zd_sn (q := f) (by omega)) (by decide)).2 (zd_sn (q := m) (by omega)) (by decide)).2
    have := (zd_a64 h1 h2 (by decide)).2
    omega
theorem zd_t_in {i : Nat} (hi : i < 721) : -360 ≤ (zs_t i).toInt ∧ (zs_t i).toInt ≤ 360 := by
  have := zs_t_i (i := i) (by omega)
  omega
theorem zd_k64 : ((1000 : Int64)).toInt.natAbs ≤ 1000 := by decide
/-- an offset as a floor -/
theorem zd_off {f v d m : Int32} (hf : -360 ≤ f.toInt ∧ f.toInt ≤ 360) (hd : -360 ≤ d.toInt ∧ d.toInt ≤ 360) (hm : -360 ≤ m.toInt ∧ m.toInt ≤ 360) (h0 : 0 < zs_front f v d m) : 0 < (zs_front f v d m).toInt ∧ (zs_off f v d m).toInt = (2 * (1000 * (zs_side f v m).toInt) + (zs_front f v d m).toInt) / (2 * (zs_front f v d m).toInt) := by
  have h1 := zd_side (v := v) hf hm
  have h2 := zd_front (v := v) hf hd hm
  have h3 : 0 < (zs_front f v d m).toInt := by
    have := Int64.lt_iff_toInt_lt.mp h0
    have z : (0 : Int64).toInt = 0 := rfl
    omega
  obtain ⟨h4, h5⟩ := zd_m64 zd_k64 h1 (by decide)
  refine ⟨h3, ?_⟩
  unfold zs_off
  rw [zs_rd_i h3 (by omega) (by omega) (by omega), h4]
  rfl
/-- two floors of numbers that differ in their sign -/
theorem zd_two {A b : Int} (hb : 0 < b) : 0 ≤ (2 * A + b) / (2 * b) + (2 * -A + b) / (2 * b) ∧ (2 * A + b) / (2 * b) + (2 * -A + b) / (2 * b) ≤ 1 := by
  have hb2 : 0 < 2 * b := by omega
  have a1 := Int.mul_ediv_add_emod (2 * A + b) (2 * b)
  have a2 := Int.emod_nonneg (2 * A + b) (b := 2 * b) (by omega)
  have a3 := Int.emod_lt_of_pos (2 * A + b) hb2
  have c1 := Int.mul_ediv_add_emod (2 * -A + b) (2 * b)
  have c2 := Int.emod_nonneg (2 * -A + b) (b := 2 * b) (by omega)
  have c3 := Int.emod_lt_of_pos (2 * -A + b) hb2
  generalize (2 * A + b) / (2 * b) = q at a1 ⊢
  generalize (2 * -A + b) / (2 * b) = p at c1 ⊢
  generalize (2 * A + b) % (2 * b) = r at a1 a2 a3
  generalize (2 * -A + b) % (2 * b) = u at c1 c2 c3
  have e : 2 * b * (q + p) = 2 * b * q + 2 * b * p := Int.mul_add _ _ _
  constructor
  · have : 2 * b * (-1) < 2 * b * (q + p) := by omega
    have := Int.lt_of_mul_lt_mul_left this (by omega)
    omega
  · have : 2 * b * (q + p) < 2 * b * 2 := by omega
    have := Int.lt_of_mul_lt_mul_left this (by omega)
    omega
theorem zd_mirror {f v : Int32} (hf : -360 ≤ f.toInt ∧ f.toInt ≤ 360) {i : Nat} (hi : i < 721) (h1 : zs_dial f v 0 i ≠ -100009) (h2 : zs_dial f v 0 (720 - i) ≠ -100009) : 0 ≤ (zs_dial f v 0 i).toInt + (zs_dial f v 0 (720 - i)).toInt ∧ (zs_dial f v 0 i).toInt + (zs_dial f v 0 (720 - i)).toInt ≤ 1 := by
  obtain ⟨y1, y2⟩ := zd_sym_all i hi
  have hd : -360 ≤ (0 : Int32).toInt ∧ (0 : Int32).toInt ≤ 360 := by decide
  have t1 := zd_t_in hi
  have t2 := zd_t_in (i := 720 - i) (by omega)
  have ef : zs_front f v 0 (zs_t (720 - i)) = zs_front f v 0 (zs_t i) := by
    unfold zs_front
    rw [y2, zd_s0, Int64.zero_mul, Int64.zero_mul, Int64.zero_mul]
  have es : zs_side f v (zs_t (720 - i)) = -zs_side f v (zs_t i) := by
    unfold zs_side
    split
    · rw [y1, Int64.mul_neg]
    · rw [y1, Int64.mul_neg]
  have c1 : 0 < zs_front f v 0 (zs_t i) ∧ -3000 ≤ zs_off f v 0 (zs_t i) ∧ zs_off f v 0 (zs_t i) ≤ 3000 := by
    refine Classical.byContradiction (fun h => h1 ?_)
    unfold zs_dial
    rw [if_neg h]
  have c2 : 0 < zs_front f v 0 (zs_t (720 - i)) ∧ -3000 ≤ zs_off f v 0 (zs_t (720 - i)) ∧ zs_off f v 0 (zs_t (720 - i)) ≤ 3000 := by
    refine Classical.byContradiction (fun h => h2 ?_)
    unfold zs_dial
    rw [if_neg h]
  obtain ⟨p1, p2⟩ := zd_off hf hd t1 c1.1
  obtain ⟨q1, q2⟩ := zd_off hf hd t2 c2.1
  rw [(zs_dial_on c1).1, (zs_dial_on c2).1, (zs_i32 c1.2.1 c1.2.2).1, (zs_i32 c2.2.1 c2.2.2).1, p2, q2, ef, es]
  have hs := zd_side (v := v) hf t1
  have en : (-zs_side f v (zs_t i)).toInt = -(zs_side f v (zs_t i)).toInt := by
    rw [Int64.toInt_neg]
    apply Int.bmod_eq_of_le <;> omega
  rw [en, show (1000 : Int) * -(zs_side f v (zs_t i)).toInt = -(1000 * (zs_side f v (zs_t i)).toInt) by omega]
  exact zd_two p1
theorem zd_noon {f v d : Int32} (hf : -360 ≤ f.toInt ∧ f.toInt ≤ 360) (hd : -360 ≤ d.toInt ∧ d.toInt ≤ 360) (h : zs_dial f v d 360 ≠ -100009) : zs_dial f v d 360 = 0 := by
  have c1 : 0 < zs_front f v d (zs_t 360) ∧ -3000 ≤ zs_off f v d (zs_t 360) ∧ zs_off f v d (zs_t 360) ≤ 3000 := by
    refine Classical.byContradiction (fun h1 => h ?_)
    unfold zs_dial
    rw [if_neg h1]
  have ht : zs_t 360 = 0 := by decide +kernel
  have es : zs_side f v (zs_t 360) = 0 := by
    unfold zs_side
    rw [ht, zd_s0, Int64.mul_zero, Int64.mul_zero]
    split <;> rfl
  obtain ⟨p1, p2⟩ := zd_off hf hd (zd_t_in (i := 360) (by omega)) c1.1
  apply Int32.toInt_inj.mp
  rw [(zs_dial_on c1).1, (zs_i32 c1.2.1 c1.2.2).1, p2, es]
  have z : (0 : Int64).toInt = 0 := rfl
  have z2 : (0 : Int32).toInt = 0 := rfl
  rw [z, z2]
  apply Int.ediv_eq_zero_of_lt <;> omega
