/-! THE REFERENCE: readings, and how far they are apart -/
def zs_by (c : Nat → Int32) (s : Int32) : Nat → Nat → Int32
  | 0, _ => -100009
  | n + 1, k => if c (60 * k) = -100009 ∨ c (60 * k + 60) = -100009 ∨ c (60 * k) > s ∨ s > c (60 * k + 60) then zs_by c s n (k + 1)
      else if c (60 * k + 60) - c (60 * k) = 0 then zs_t (60 * k)
      else ((zs_t (60 * k)).toInt64 + zs_rd (60 * (s - c (60 * k)).toInt64) (c (60 * k + 60) - c (60 * k)).toInt64).toInt32
def zs_byL (c : Nat → Int32) (s : Int32) : Int32 := zs_by c s 12 0
def zs_shG (c : Nat → Int32) (s : Int32) : Nat → Nat → Int32 → Int32 → Int32
  | 0, _, its, _ => its
  | n + 1, i, its, least => if c i = -100009 then zs_shG c s n (i + 1) its least
      else if its = -100009 ∨ zs_size (c i - s) < least then zs_shG c s n (i + 1) (zs_t i) (zs_size (c i - s))
      else zs_shG c s n (i + 1) its least
def zs_sh (c : Nat → Int32) (s : Int32) : Int32 := zs_shG c s 721 0 (-100009) 0
def zs_apG (c : Nat → Int32) : Nat → Nat → Int32 → Int32 → Int32 × Int32
  | 0, _, g, t => (g, t)
  | n + 1, i, g, t => if c i = -100009 ∨ zs_byL c (c i) = -100009 then zs_apG c n (i + 1) g t
      else if t = -100009 ∨ zs_size (zs_t i - zs_byL c (c i)) > g then zs_apG c n (i + 1) (zs_size (zs_t i - zs_byL c (c i))) (zs_t i)
      else zs_apG c n (i + 1) g t
def zs_ap (c : Nat → Int32) : Int32 × Int32 := zs_apG c 721 0 0 (-100009)
def zs_hlG (c : Nat → Int32) : Nat → Nat → Int32 → Int32
  | 0, _, m => m
  | n + 1, k, m => zs_hlG c n (k + 1) (m + (if c (60 * k) = -100009 then 0 else 1))
def zs_hl (c : Nat → Int32) : Int32 := zs_hlG c 13 0 0
theorem zs_ne (i : Nat) (h : i < 100000) : zs_t i ≠ -100009 := by
  intro e
  have h1 := zs_t_i h
  rw [e] at h1
  have h2 : ((-100009 : Int32)).toInt = -100009 := rfl
  omega
/-- a quotient by a number above 0, small numbers: the floor -/
theorem zs_rd_i {a b : Int64} (hb : 0 < b.toInt) (hb2 : b.toInt < 2 ^ 60) (ha : -2 ^ 60 < a.toInt) (ha2 : a.toInt < 2 ^ 60) : (zs_rd a b).toInt = (2 * a.toInt + b.toInt) / (2 * b.toInt) := by
  have e1 : (a + a + b).toInt = 2 * a.toInt + b.toInt := by
    rw [Int64.toInt_add, Int64.toInt_add, Int.bmod_eq_of_le (n := a.toInt + a.toInt) (by omega) (by omega), Int.bmod_eq_of_le (by omega) (by omega)]
    omega
  have e2 : (b + b).toInt = 2 * b.toInt := by
    rw [Int64.toInt_add, Int.bmod_eq_of_le (by omega) (by omega)]
    omega
  generalize hT : 2 * a.toInt + b.toInt = T at e1 ⊢
  generalize hY : 2 * b.toInt = Y at e2 ⊢
  have hY0 : 0 < Y := by omega
  have hY1 : Y < 2 ^ 61 := by omega
  have hT0 : -2 ^ 62 < T := by omega
  have hT1 : T < 2 ^ 62 := by omega
  clear hT hY
  have hn : (T.tdiv Y).natAbs ≤ T.natAbs := Int.natAbs_tdiv_le_natAbs _ _
  have ht : ((a + a + b) / (b + b)).toInt = T.tdiv Y := by
    rw [Int64.toInt_div, e1, e2]
    apply Int.bmod_eq_of_le <;> omega
  by_cases h0 : 0 ≤ a + a + b
  · unfold zs_rd
    rw [if_pos h0, ht, Int.tdiv_eq_ediv_of_nonneg]
    have := Int64.le_iff_toInt_le.mp h0
    rw [e1] at this
    simpa using this
  · have h1 : T < 0 := by
      rw [Int64.le_iff_toInt_le, e1] at h0
      have : (0 : Int64).toInt = 0 := rfl
      omega
    have hq := Int.tdiv_eq_ediv (a := T) (b := Y)
    have hsg : Y.sign = 1 := Int.sign_eq_one_of_pos hY0
    have hm : ((a + a + b) / (b + b) * (b + b)).toInt = T.tdiv Y * Y := by
      rw [Int64.toInt_mul, ht, e2]
      have h5 := Int.tmod_add_mul_tdiv T Y
      have h6 : (T.tmod Y).natAbs < Y.natAbs := by
        rw [Int.natAbs_tmod]
        exact Nat.mod_lt _ (by omega)
      rw [Int.mul_comm] at h5
      generalize T.tdiv Y * Y = P at h5 ⊢
      generalize T.tmod Y = M at h5 h6
      apply Int.bmod_eq_of_le <;> omega
    unfold zs_rd
    rw [if_neg h0]
    by_cases hd : Y ∣ T
    · have hz : (a + a + b) / (b + b) * (b + b) = a + a + b := by
        apply Int64.toInt_inj.mp
        rw [hm, e1]
        exact Int.tdiv_mul_cancel hd
      rw [if_pos hz, ht, hq, if_pos (Or.inr hd)]
      omega
    · have hz : ¬ (a + a + b) / (b + b) * (b + b) = a + a + b := by
        intro e
        have := congrArg Int64.toInt e
        rw [hm, e1] at this
        exact hd ⟨T.tdiv Y, by rw [Int.mul_comm]; exact this.symm⟩
      rw [if_neg (by rintro (h | h); omega; exact hd h), hsg] at hq
      rw [if_neg hz, Int64.toInt_sub, ht]
      have h1' : (1 : Int64).toInt = 1 := rfl
      have hs : T.tdiv Y - 1 = T / Y := by omega
      rw [h1', hs]
      apply Int.bmod_eq_of_le <;> omega
/-- a reading lies within -360 to 360 -/
theorem zs_by_in {c : Nat → Int32} (hc : zs_fine c) {s : Int32} : ∀ (n k : Nat), k + n = 12 → zs_by c s n k ≠ -100009 → -360 ≤ (zs_by c s n k).toInt ∧ (zs_by c s n k).toInt ≤ 360 := by
  intro n
  induction n with
  | zero => intro k _ h; exact absurd rfl h
  | succ n ih =>
    intro k hk
    rw [zs_by]
    split
    · exact ih (k + 1) (by omega)
    · rename_i h1
      have ha := hc (60 * k) (fun e => h1 (Or.inl e))
      have hb := hc (60 * k + 60) (fun e => h1 (Or.inr (Or.inl e)))
      have h2 : ¬ c (60 * k) > s := fun e => h1 (Or.inr (Or.inr (Or.inl e)))
      have h3 : ¬ s > c (60 * k + 60) := fun e => h1 (Or.inr (Or.inr (Or.inr e)))
      rw [gt_iff_lt, Int32.lt_iff_toInt_lt] at h2 h3
      have ht := zs_t_i (i := 60 * k) (by omega)
      split
      · intro _
        rw [ht]
        omega
      · rename_i h4
        intro _
        have d1 : (s - c (60 * k)).toInt = s.toInt - (c (60 * k)).toInt := by
          rw [Int32.toInt_sub, Int.bmod_eq_of_le (by omega) (by omega)]
        have d2 : (c (60 * k + 60) - c (60 * k)).toInt = (c (60 * k + 60)).toInt - (c (60 * k)).toInt := by
          rw [Int32.toInt_sub, Int.bmod_eq_of_le (by omega) (by omega)]
        have d3 : (c (60 * k + 60) - c (60 * k)).toInt ≠ 0 := by
          intro e
          exact h4 (Int32.toInt_inj.mp (by rw [e]; rfl))
        have d4 : ((60 : Int64) * (s - c (60 * k)).toInt64).toInt = 60 * (s - c (60 * k)).toInt := by
          rw [Int64.toInt_mul, Int32.toInt_toInt64, show ((60 : Int64)).toInt = 60 from rfl, Int.bmod_eq_of_le (by omega) (by omega)]
        have d5 : (c (60 * k + 60) - c (60 * k)).toInt64.toInt = (c (60 * k + 60) - c (60 * k)).toInt := Int32.toInt_toInt64 _
        have hr := zs_rd_i (a := 60 * (s - c (60 * k)).toInt64) (b := (c (60 * k + 60) - c (60 * k)).toInt64) (by omega) (by omega) (by omega) (by omega)
        rw [d4, d5, d1, d2] at hr
        have lo : 0 ≤ (zs_rd (60 * (s - c (60 * k)).toInt64) (c (60 * k + 60) - c (60 * k)).toInt64).toInt := by
          rw [hr]
          apply Int.ediv_nonneg <;> omega
        have hi : (zs_rd (60 * (s - c (60 * k)).toInt64) (c (60 * k + 60) - c (60 * k)).toInt64).toInt ≤ 60 := by
          rw [hr]
          apply Int.le_of_lt_add_one
          apply Int.ediv_lt_of_lt_mul <;> omega
        rw [Int64.toInt_toInt32, Int64.toInt_add, Int32.toInt_toInt64, ht]
        generalize (zs_rd (60 * (s - c (60 * k)).toInt64) (c (60 * k + 60) - c (60 * k)).toInt64).toInt = Z at lo hi
        rw [Int.bmod_eq_of_le (n := ((60 * k : Nat) : Int) - 360 + Z) (by omega) (by omega), Int.bmod_eq_of_le (by omega) (by omega)]
        omega
section ZLINES
variable {G : ZG} {l : Launch}
theorem zs_t_60 (k : Nat) : zs_t (60 * k) + 60 = zs_t (60 * k + 60) := zs_t_add (60 * k) 60
theorem zs_size_i {v : Int32} (h : -1000000 ≤ v.toInt) : 0 ≤ (zs_size v).toInt := by
  unfold zs_size
  split
  · rename_i h1
    rw [ge_iff_le, Int32.le_iff_toInt_le] at h1
    exact h1
  · rename_i h1
    rw [ge_iff_le, Int32.le_iff_toInt_le] at h1
    have h2 : (0 : Int32).toInt = 0 := rfl
    have h3 := Int32.toInt_lt v
    rw [Int32.toInt_neg, Int.bmod_eq_of_le (by omega) (by omega)]
    omega
theorem zs_ap_nn {c : Nat → Int32} (hf : zs_fine c) {i : Nat} (hi : i < 721) (h : zs_byL c (c i) ≠ -100009) : 0 ≤ (zs_size (zs_t i - zs_byL c (c i))).toInt := by
  have h1 := zs_by_in hf (s := c i) 12 0 rfl h
  have h2 := zs_t_i (i := i) (by omega)
  apply zs_size_i
  rw [Int32.toInt_sub, h2]
  unfold zs_byL
  rw [Int.bmod_eq_of_le (by omega) (by omega)]
  omega
end ZLINES
