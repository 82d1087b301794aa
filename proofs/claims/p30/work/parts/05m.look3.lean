/-! THE REFERENCE: dials, as one looks at them -/
def op_mtG (s : ZSt) (nc : Nat) : Nat → Int32 → (Nat → Int32) → Int32 × (Nat → Int32)
  | 0, m, st => (m, st)
  | n + 1, m, st => if (op_ml s nc st).1 > 0 then op_mtG s nc n (m + 1) (op_ml s nc st).2 else (m, (op_ml s nc st).2)
def op_lfG (st : Nat → Int32) : Nat → Nat → Int32 → Int32
  | 0, _, b => b
  | n + 1, c, b => op_lfG st n (c + 1) (if b ≠ 0 then 1 else if st c ≠ 1 then 0 else 1)
def ol_melts (s : ZSt) (nc : Nat) : Int32 := if op_lfG (op_mtG s nc 11 0 (op_st s)).2 nc 0 0 = 0 then (op_mtG s nc 11 0 (op_st s)).1 else -100009
/-- how many are accepted -/
def op_ones (st : Nat → Int32) : Nat → Nat → Nat
  | 0, _ => 0
  | n + 1, c => op_ones st n (c + 1) + (if st c = 1 then 1 else 0)
theorem op_ones_u (st : Nat → Int32) (v : Int32) : ∀ (n c k : Nat), k < c → op_ones (upd st k v) n c = op_ones st n c := by
  intro n
  induction n with
  | zero => intro c k _; rfl
  | succ n ih =>
    intro c k h
    rw [op_ones, op_ones, ih (c + 1) k (by omega), u_ne _ _ (by omega)]
theorem op_ml_ones (wt : Nat → Int32) (lim : Int32) : ∀ (n c : Nat) (sm m : Int32) (st : Nat → Int32), ∃ k, (op_mlG wt lim n c sm m st).1 = m + nI k ∧ k ≤ n ∧ op_ones (op_mlG wt lim n c sm m st).2 n c + k = op_ones st n c := by
  intro n
  induction n with
  | zero => intro c sm m st; exact ⟨0, by rw [nI_0, Int32.add_zero]; rfl, Nat.le_refl _, rfl⟩
  | succ n ih =>
    intro c sm m st
    rw [op_mlG, op_ones]
    split
    · rename_i h
      obtain ⟨k, e1, e2, e3⟩ := ih (c + 1) (sm + wt c) (m + 1) (upd st c 2)
      obtain ⟨-, -, e4⟩ := op_mlG_eq wt lim n (c + 1) (sm + wt c) (m + 1) (upd st c 2) (upd st c 2) (fun _ _ _ => rfl)
      refine ⟨k + 1, ?_, by omega, ?_⟩
      · rw [e1, Int32.add_assoc, Int32.add_comm 1, nI_1]
      · rw [op_ones_u _ _ _ _ _ (show c < c + 1 by omega)] at e3
        rw [op_ones, e4 c (by omega), u_eq, if_neg (by decide), if_pos h.1]
        omega
    · obtain ⟨k, e1, e2, e3⟩ := ih (c + 1) sm m st
      obtain ⟨-, -, e4⟩ := op_mlG_eq wt lim n (c + 1) sm m st st (fun _ _ _ => rfl)
      refine ⟨k, e1, by omega, ?_⟩
      rw [op_ones, e4 c (by omega)]
      omega
section ZLK3
variable {G : ZG} {l : Launch}
theorem op_ml_eq (s : ZSt) (nc : Nat) (st st' : Nat → Int32) (h : ∀ j, j < nc → st j = st' j) : (op_ml s nc st).1 = (op_ml s nc st').1 ∧ ∀ j, j < nc → (op_ml s nc st).2 j = (op_ml s nc st').2 j := by
  obtain ⟨a, b, -⟩ := op_mlG_eq (sp_wt s) (s 7) nc 0 0 0 st st' (fun j _ h2 => h j (by omega))
  exact ⟨a, fun j hj => b j (Nat.zero_le _) (by omega)⟩
theorem op_mtG_eq (s : ZSt) (nc : Nat) : ∀ (f : Nat) (m : Int32) (st st' : Nat → Int32), (∀ j, j < nc → st j = st' j) → (op_mtG s nc f m st).1 = (op_mtG s nc f m st').1 ∧ ∀ j, j < nc → (op_mtG s nc f m st).2 j = (op_mtG s nc f m st').2 j := by
  intro f
  induction f with
  | zero => intro m st st' h; exact ⟨rfl, h⟩
  | succ f ih =>
    intro m st st' h
    obtain ⟨a, b⟩ := op_ml_eq s nc st st' h
    rw [op_mtG, op_mtG, ← a]
    split
    · exact ih (m + 1) _ _ b
    · exact ⟨rfl, b⟩
end ZLK3
