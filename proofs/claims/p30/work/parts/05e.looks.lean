/-! THE REFERENCE: what it looks up -/
section ZLOOK
variable {G : ZG} {l : Launch}
theorem zs_within {x : Int32} {n : Nat} (hn : n ≤ 100) (h : x ≥ 0 ∧ x ≤ nI n - 1) : ∃ k, k < n ∧ x = nI k := by
  obtain ⟨h1, h2⟩ := h
  rw [ge_iff_le, Int32.le_iff_toInt_le] at h1
  rw [Int32.le_iff_toInt_le] at h2
  have h0 : (0 : Int32).toInt = 0 := rfl
  have e : (nI n - 1).toInt = (n : Int) - 1 := by
    rw [Int32.toInt_sub, nI_toInt (by omega), show ((1 : Int32)).toInt = 1 from rfl, Int.bmod_eq_of_le (by omega) (by omega)]
  refine ⟨x.toInt.toNat, by omega, Int32.toInt_inj.mp ?_⟩
  rw [nI_toInt (by omega)]
  omega
def sp_least (x : Int32) : Int32 := if x = 0 then 0 else if x ≠ 2 then 1 else 0
def sp_most (x : Int32) : Int32 := if x ≠ 0 then (if x ≠ 1 then (if x ≠ 2 then 100 else 60) else 13) else 10
end ZLOOK
