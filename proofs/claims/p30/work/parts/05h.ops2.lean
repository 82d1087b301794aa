/-! THE REFERENCE: commissions that change their state -/
def op_mlG (wt : Nat → Int32) (lim : Int32) : Nat → Nat → Int32 → Int32 → (Nat → Int32) → Int32 × (Nat → Int32)
  | 0, _, _, m, st => (m, st)
  | n + 1, c, sm, m, st => if st c = 1 ∧ ¬ sm + wt c > lim then op_mlG wt lim n (c + 1) (sm + wt c) (m + 1) (upd st c 2) else op_mlG wt lim n (c + 1) sm m st
def op_ml (s : ZSt) (nc : Nat) (st : Nat → Int32) : Int32 × (Nat → Int32) := op_mlG (sp_wt s) (s 7) nc 0 0 0 st
def op_st (s : ZSt) : Nat → Int32 := fun c => s (38 + 8 * c + 4)
def op_cCas (s : ZSt) (nc : Nat) : Int32 := if (op_ml s nc (op_st s)).1 = 0 then -100002 else 0
def op_caG (st : Nat → Int32) : Nat → Nat → ZSt → ZSt
  | 0, _, s => s
  | n + 1, c, s => if st c = s (38 + 8 * c + 4) then op_caG st n (c + 1) s
      else op_caG st n (c + 1) (upd (upd (upd s (38 + 8 * c + 4) 2) (38 + 8 * c + 6) (s 2)) 3 (s 3 + sp_wt s c))
def op_cas (s : ZSt) (nc : Nat) : ZSt := upd (op_caG (op_ml s nc (op_st s)).2 nc 0 s) 2 (op_caG (op_ml s nc (op_st s)).2 nc 0 s 2 + 1)
theorem op_mlG_eq (wt : Nat → Int32) (lim : Int32) : ∀ (n c : Nat) (sm m : Int32) (st st' : Nat → Int32), (∀ j, c ≤ j → j < c + n → st j = st' j) →
    (op_mlG wt lim n c sm m st).1 = (op_mlG wt lim n c sm m st').1 ∧ (∀ j, c ≤ j → j < c + n → (op_mlG wt lim n c sm m st).2 j = (op_mlG wt lim n c sm m st').2 j) ∧ ∀ j, j < c → (op_mlG wt lim n c sm m st).2 j = st j := by
  intro n
  induction n with
  | zero => intro c sm m st st' _; exact ⟨rfl, fun j h1 h2 => absurd h2 (by omega), fun j _ => rfl⟩
  | succ n ih =>
    intro c sm m st st' h
    have hc := h c (Nat.le_refl _) (by omega)
    rw [op_mlG, op_mlG, ← hc]
    by_cases h1 : st c = 1 ∧ ¬ sm + wt c > lim
    · rw [if_pos h1, if_pos h1]
      have hu : ∀ j, c + 1 ≤ j → j < c + 1 + n → upd st c 2 j = upd st' c 2 j := fun j a b => by
        simp only [upd]
        rw [if_neg (by omega), if_neg (by omega)]
        exact h j (by omega) (by omega)
      obtain ⟨i1, i2, i3⟩ := ih (c + 1) (sm + wt c) (m + 1) _ _ hu
      obtain ⟨-, -, i4⟩ := ih (c + 1) (sm + wt c) (m + 1) (upd st' c 2) (upd st' c 2) (fun _ _ _ => rfl)
      refine ⟨i1, fun j a b => ?_, fun j a => ?_⟩
      · by_cases hj : j = c
        · subst hj
          rw [i3 j (by omega), i4 j (by omega)]
          simp [upd]
        · exact i2 j (by omega) (by omega)
      · rw [i3 j (by omega)]
        simp only [upd]
        rw [if_neg (by omega)]
    · rw [if_neg h1, if_neg h1]
      obtain ⟨i1, i2, i3⟩ := ih (c + 1) sm m st st' (fun j a b => h j (by omega) (by omega))
      obtain ⟨-, -, i4⟩ := ih (c + 1) sm m st' st' (fun _ _ _ => rfl)
      refine ⟨i1, fun j a b => ?_, fun j a => i3 j (by omega)⟩
      by_cases hj : j = c
      · subst hj
        rw [i3 j (by omega), i4 j (by omega), hc]
      · exact i2 j (by omega) (by omega)
section ZOPS2
variable {G : ZG} {l : Launch}
theorem op_ml_st (s : ZSt) (nc : Nat) (st : Nat → Int32) (h : ∀ j, j < nc → st j = op_st s j) : (op_ml s nc st).1 = (op_ml s nc (op_st s)).1 ∧ ∀ j, j < nc → (op_ml s nc st).2 j = (op_ml s nc (op_st s)).2 j := by
  obtain ⟨a, b, -⟩ := op_mlG_eq (sp_wt s) (s 7) nc 0 0 0 st (op_st s) (fun j _ h2 => h j (by omega))
  exact ⟨a, fun j hj => b j (Nat.zero_le _) (by omega)⟩
theorem op_caG_eq : ∀ (n c : Nat) (st st' : Nat → Int32) (s : ZSt), (∀ j, c ≤ j → j < c + n → st j = st' j) → op_caG st n c s = op_caG st' n c s := by
  intro n
  induction n with
  | zero => intro c st st' s _; rfl
  | succ n ih =>
    intro c st st' s h
    rw [op_caG, op_caG, ← h c (Nat.le_refl _) (by omega), ih (c + 1) st st' _ (fun j a b => h j (by omega) (by omega)), ih (c + 1) st st' _ (fun j a b => h j (by omega) (by omega))]
end ZOPS2
