/-! THE REFERENCE: what a command asks and does -/
theorem op_caG_far {st : Nat → Int32} : ∀ (n c : Nat) (s : ZSt) (j : Nat), c + n ≤ 10 → 118 ≤ j → op_caG st n c s j = s j := by
  intro n
  induction n with
  | zero => intro c s j _ _; rfl
  | succ n ih =>
    intro c s j hc hj
    rw [op_caG]
    split
    · exact ih (c + 1) _ j (by omega) hj
    · rw [ih (c + 1) _ j (by omega) hj, u_ne _ _ (by omega), u_ne _ _ (by omega), u_ne _ _ (by omega)]
/-! what an action answers is no error -/
theorem op_inG_ge {s : ZSt} {st : Int32} : ∀ (n c m : Nat), m + n < 1000 → ∃ r, r < 1000 ∧ op_inG s st n c (nI m) = nI r := by
  intro n
  induction n with
  | zero => intro c m h; exact ⟨m, by omega, rfl⟩
  | succ n ih =>
    intro c m h
    rw [op_inG]
    split
    · rw [nI_1]
      exact ih (c + 1) (m + 1) (by omega)
    · rw [Int32.add_zero]
      exact ih (c + 1) m (by omega)
theorem sp_re_ge (s : ZSt) (c : Nat) : sp_re s c ≥ 0 := by
  unfold sp_re
  split
  · decide
  · split
    · decide
    · split
      · decide
      · split
        · decide
        · decide
section ZCMD
variable {G : ZG} {l : Launch}
end ZCMD
