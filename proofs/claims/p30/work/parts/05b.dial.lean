/-! THE REFERENCE: dials -/
theorem zs_okq {q : Int32} (h1 : -720 ≤ q.toInt) (h2 : q.toInt ≤ 720) : zs_ok q := by
  have key : ∀ i, i < 1441 → ¬ (648000 - zs_prod (nI i + (-720))) + (648000 - zs_prod (nI i + (-720))) = 0 := by
    have h : (List.range 1441).all (fun i => decide (¬ (648000 - zs_prod (nI i + (-720))) + (648000 - zs_prod (nI i + (-720))) = 0)) = true := by decide +kernel
    intro i hi
    have h9 := List.all_eq_true.mp h i (List.mem_range.mpr hi)
    exact of_decide_eq_true h9
  have e : q = nI (q.toInt + 720).toNat + (-720) := by
    apply Int32.toInt_inj.mp
    rw [Int32.toInt_add, nI_toInt (by omega), show ((-720 : Int32)).toInt = -720 from rfl, Int.bmod_eq_of_le (by omega) (by omega)]
    omega
  have h := key (q.toInt + 720).toNat (by omega)
  rw [← e] at h
  exact h
/-- the offset at a time, where it is on the dial -/
def zs_off (f v d m : Int32) : Int64 := zs_rd (1000 * zs_side f v m) (zs_front f v d m)
/-- a dial: the offset at each place, -100009 where there is none -/
def zs_dial (f v d : Int32) (i : Nat) : Int32 := if 0 < zs_front f v d (zs_t i) ∧ -3000 ≤ zs_off f v d (zs_t i) ∧ zs_off f v d (zs_t i) ≤ 3000 then (zs_off f v d (zs_t i)).toInt32 else -100009
theorem zs_i32 {x : Int64} (h1 : -3000 ≤ x) (h2 : x ≤ 3000) : (x.toInt32).toInt = x.toInt ∧ -3000 ≤ x.toInt ∧ x.toInt ≤ 3000 := by
  have a1 : -3000 ≤ x.toInt := by have := Int64.le_iff_toInt_le.mp h1; simpa using this
  have a2 : x.toInt ≤ 3000 := by have := Int64.le_iff_toInt_le.mp h2; simpa using this
  refine ⟨?_, a1, a2⟩
  rw [Int64.toInt_toInt32, Int.bmod_eq_of_le (by omega) (by omega)]
theorem zs_dial_on {f v d : Int32} {i : Nat} (h : 0 < zs_front f v d (zs_t i) ∧ -3000 ≤ zs_off f v d (zs_t i) ∧ zs_off f v d (zs_t i) ≤ 3000) : zs_dial f v d i = (zs_off f v d (zs_t i)).toInt32 ∧ zs_dial f v d i ≠ -100009 ∧ -3000 ≤ (zs_dial f v d i).toInt ∧ (zs_dial f v d i).toInt ≤ 3000 := by
  have e : zs_dial f v d i = (zs_off f v d (zs_t i)).toInt32 := by unfold zs_dial; rw [if_pos h]
  obtain ⟨h1, h2, h3⟩ := zs_i32 h.2.1 h.2.2
  rw [e]
  refine ⟨rfl, fun q => ?_, by omega, by omega⟩
  rw [q] at h1
  have : ((-100009 : Int32)).toInt = -100009 := rfl
  omega
/-- what offsets a dial may have -/
def zs_fine (c : Nat → Int32) : Prop := ∀ i, c i ≠ -100009 → -3000 ≤ (c i).toInt ∧ (c i).toInt ≤ 3000
theorem zs_dial_fine (f v d : Int32) : zs_fine (zs_dial f v d) := by
  intro i h
  by_cases hc : 0 < zs_front f v d (zs_t i) ∧ -3000 ≤ zs_off f v d (zs_t i) ∧ zs_off f v d (zs_t i) ≤ 3000
  · exact (zs_dial_on hc).2.2
  · exact absurd (by unfold zs_dial; rw [if_neg hc]) h
/-- what a method leaves as it was, but for some rows -/
def zz_keep (ks : List Nat) (im im' : ZI) : Prop := ∀ k, k ∉ ks → im' k = im k
theorem zz_keep.rf {ks : List Nat} {im : ZI} : zz_keep ks im im := fun _ _ => rfl
theorem zz_keep.u {ks : List Nat} {im im' : ZI} (h : zz_keep ks im im') {k j : Nat} {v : Int32} (hk : k ∈ ks) : zz_keep ks im (zz_u im' k j v) := fun q hq => by
  rw [zz_u_off _ _ _ _ (fun e => hq (by rw [e]; exact hk))]
  exact h q hq
theorem zz_keep.tr {ks ks' : List Nat} {im im1 im2 : ZI} (h1 : zz_keep ks im im1) (h2 : zz_keep ks' im1 im2) (hs : ∀ k, k ∈ ks' → k ∈ ks) : zz_keep ks im im2 := fun k hk => (h2 k (fun h => hk (hs k h))).trans (h1 k hk)
theorem zz_keep.le {ks ks' : List Nat} {im im1 : ZI} (h1 : zz_keep ks im im1) (hs : ∀ k, k ∈ ks → k ∈ ks') : zz_keep ks' im im1 := fun k hk => h1 k (fun h => hk (hs k h))
theorem zs_two {b : Int64} (h : 0 < b) : ¬ b + b = 0 := by
  intro e
  have h1 := congrArg Int64.toInt e
  rw [Int64.toInt_add] at h1
  have h2 : b.toInt < 2 ^ 63 := Int64.toInt_lt b
  have h3 : 0 < b.toInt := by have := Int64.lt_iff_toInt_lt.mp h; simpa using this
  have h4 : (0 : Int64).toInt = 0 := rfl
  rw [h4] at h1
  unfold Int.bmod at h1
  simp only at h1
  split at h1 <;> omega
section ZRECK
variable {G : ZG} {l : Launch}
end ZRECK
