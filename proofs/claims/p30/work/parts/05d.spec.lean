/-! THE WORKSHOP as numbers: s is what a state holds, in the reference's order -/
abbrev ZSt : Type := Nat → Int32
def sB (a b : Int) (x : Int32) : Prop := a ≤ x.toInt ∧ x.toInt ≤ b
def sW (k a b : Int32) : Prop := (k = 0 ∧ a = -100009 ∧ b = -100009) ∨ (k = 1 ∧ sB (-60) 60 a ∧ b = -100009) ∨ (k = 2 ∧ sB (-60) 60 a ∧ sB (-60) 60 b)
def sC (nw : Nat) (s : ZSt) (c : Nat) : Prop := sB 10 70 (s (38 + 8 * c + 0)) ∧ (s (38 + 8 * c + 1) = -1 ∨ ∃ w, w < nw ∧ s (38 + 8 * c + 1) = nI w) ∧ sB 10 60 (s (38 + 8 * c + 2)) ∧ sB (-60) 60 (s (38 + 8 * c + 3)) ∧ sB 0 4 (s (38 + 8 * c + 4)) ∧ (sB 1 3 (s (38 + 8 * c + 4)) → sB (-60) 60 (s (38 + 8 * c + 5)))
/-- what always holds of walls, settings, corrections and commissions -/
def sI (s : ZSt) (nw nc : Nat) : Prop := s 0 = nI nw ∧ nw ≤ 6 ∧ s 1 = nI nc ∧ nc ≤ 10 ∧ (sB 0 10 (s 4) ∧ sB 1 13 (s 5) ∧ sB 0 60 (s 6) ∧ sB 1 100 (s 7)) ∧ (∀ m, m < 12 → sB (-20) 20 (s (8 + m))) ∧ (∀ w, w < nw → sW (s (20 + 3 * w)) (s (20 + 3 * w + 1)) (s (20 + 3 * w + 2))) ∧ ∀ c, c < nc → sC nw s c
def sp_wd (s : ZSt) (w : Nat) : Int32 := if s (20 + 3 * w) < 2 ∨ zs_size (s (20 + 3 * w + 1) - s (20 + 3 * w + 2)) > s 4 then -100009 else (zs_rd (s (20 + 3 * w + 1) + s (20 + 3 * w + 2)).toInt64 2).toInt32
def sp_de (s : ZSt) (c : Nat) : Int32 := if s (38 + 8 * c + 1) = -1 then 0 else if s (38 + 8 * c + 4) ≥ 1 ∧ s (38 + 8 * c + 4) ≤ 3 then s (38 + 8 * c + 5) else sp_wd s (s (38 + 8 * c + 1)).toNatClampNeg
def sp_dial (s : ZSt) (c : Nat) : Nat → Int32 := zs_dial (4 * s (38 + 8 * c + 0)) (if s (38 + 8 * c + 1) = -1 then 0 else 1) (4 * sp_de s c)
def sp_wt (s : ZSt) (c : Nat) : Int32 := (zs_rd (s (38 + 8 * c + 2) * s (38 + 8 * c + 2)).toInt64 100).toInt32
def sp_re (s : ZSt) (c : Nat) : Int32 := if sp_de s c = -100009 then 1 else if zs_hl (sp_dial s c) < s 5 then 2 else if (zs_ap (sp_dial s c)).1 > s 6 then 3 else if sp_wt s c > s 7 then 4 else 0
theorem sp_wd_in {s : ZSt} {w : Nat} (hw : sW (s (20 + 3 * w)) (s (20 + 3 * w + 1)) (s (20 + 3 * w + 2))) (h : sp_wd s w ≠ -100009) : sB (-60) 60 (sp_wd s w) := by
  unfold sp_wd at h ⊢
  split at h
  · exact absurd rfl h
  · rename_i h1
    rw [if_neg h1]
    rcases hw with ⟨h2, -⟩ | ⟨h2, -⟩ | ⟨-, ha, hb⟩
    · exact absurd (Or.inl (by rw [h2]; decide)) h1
    · exact absurd (Or.inl (by rw [h2]; decide)) h1
    · obtain ⟨a1, a2⟩ := ha
      obtain ⟨b1, b2⟩ := hb
      have e1 : (s (20 + 3 * w + 1) + s (20 + 3 * w + 2)).toInt64.toInt = (s (20 + 3 * w + 1)).toInt + (s (20 + 3 * w + 2)).toInt := by
        rw [Int32.toInt_toInt64, Int32.toInt_add, Int.bmod_eq_of_le (by omega) (by omega)]
      have h2 : (2 : Int64).toInt = 2 := rfl
      have hr := zs_rd_i (a := (s (20 + 3 * w + 1) + s (20 + 3 * w + 2)).toInt64) (b := 2) (by omega) (by omega) (by omega) (by omega)
      rw [e1, h2] at hr
      unfold sB
      rw [Int64.toInt_toInt32, hr, Int.bmod_eq_of_le (by omega) (by omega)]
      omega
theorem sp_de_in {s : ZSt} {nw nc c : Nat} (h : sI s nw nc) (hc : c < nc) (hn : sp_de s c ≠ -100009) : sB (-60) 60 (sp_de s c) := by
  obtain ⟨h1, h2, h3, h4, h5, h6, h7, h8⟩ := h
  obtain ⟨c1, c2, c3, c4, c5, c6⟩ := h8 c hc
  unfold sp_de at hn ⊢
  split at hn
  · rename_i e1
    rw [if_pos e1]
    exact ⟨by decide, by decide⟩
  · rename_i e1
    rw [if_neg e1]
    split at hn
    · rename_i e2
      rw [if_pos e2]
      exact c6 ⟨by have := Int32.le_iff_toInt_le.mp e2.1; simpa using this, by have := Int32.le_iff_toInt_le.mp e2.2; simpa using this⟩
    · rename_i e2
      rw [if_neg e2]
      rcases c2 with c2 | ⟨w, hw, c2⟩
      · exact absurd c2 e1
      · rw [c2, nI_clamp (by omega)] at hn ⊢
        exact sp_wd_in (h7 w hw) hn
