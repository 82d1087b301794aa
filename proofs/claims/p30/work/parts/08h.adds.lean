/-! THE LAW: addsUp -/
theorem zn_in {c n : Nat} (hc : c < n) (hn : n ≤ 1000) : nI c ≥ 0 ∧ nI c ≤ nI n - 1 := by
  have e1 : (nI n - 1).toInt = (n : Int) - 1 := by
    rw [Int32.toInt_sub, nI_toInt (by omega), show ((1 : Int32)).toInt = 1 from rfl, Int.bmod_eq_of_le (by omega) (by omega)]
  rw [ge_iff_le, Int32.le_iff_toInt_le, Int32.le_iff_toInt_le, e1, nI_toInt (by omega), show ((0 : Int32)).toInt = 0 from rfl]
  omega
theorem zn_out {c n : Nat} (hc : n ≤ c) (hn : c ≤ 1000) : ¬ (nI c ≥ 0 ∧ nI c ≤ nI n - 1) := by
  have e1 : (nI n - 1).toInt = (n : Int) - 1 := by
    rw [Int32.toInt_sub, nI_toInt (by omega), show ((1 : Int32)).toInt = 1 from rfl, Int.bmod_eq_of_le (by omega) (by omega)]
  rw [ge_iff_le, Int32.le_iff_toInt_le, Int32.le_iff_toInt_le, e1, nI_toInt (by omega), show ((0 : Int32)).toInt = 0 from rfl]
  omega
section ZCC
variable {s : ZSt} {nw nc c : Nat}
theorem cc_0 (hI : sI s nw nc) (hc : c < nc) {v : Int32} (h1 : v ≥ 0) (h2 : v ≤ 8) : ol_comm s (nI c) v = if v = 5 then sp_de s c else if v = 6 then sp_wt s c else if v = 7 then s (38 + 8 * c + 6) else if v = 8 then s (38 + 8 * c + 7) else s (38 + 8 * c + v.toNatClampNeg) := by
  have hn := hI.2.2.2.1
  unfold ol_comm
  rw [hI.2.2.1, if_pos ⟨zn_in hc (by omega), h1, h2⟩, nI_clamp (by omega)]
theorem cc_3 (hI : sI s nw nc) (hc : c < nc) : ol_comm s (nI c) 3 = s (38 + 8 * c + 3) := by
  rw [cc_0 hI hc (by decide) (by decide), if_neg (by decide), if_neg (by decide), if_neg (by decide), if_neg (by decide)]; rfl
theorem cc_4 (hI : sI s nw nc) (hc : c < nc) : ol_comm s (nI c) 4 = s (38 + 8 * c + 4) := by
  rw [cc_0 hI hc (by decide) (by decide), if_neg (by decide), if_neg (by decide), if_neg (by decide), if_neg (by decide)]; rfl
theorem cc_5 (hI : sI s nw nc) (hc : c < nc) : ol_comm s (nI c) 5 = sp_de s c := by
  rw [cc_0 hI hc (by decide) (by decide), if_pos rfl]
theorem cc_6 (hI : sI s nw nc) (hc : c < nc) : ol_comm s (nI c) 6 = sp_wt s c := by
  rw [cc_0 hI hc (by decide) (by decide), if_neg (by decide), if_pos rfl]
theorem cc_7 (hI : sI s nw nc) (hc : c < nc) : ol_comm s (nI c) 7 = s (38 + 8 * c + 6) := by
  rw [cc_0 hI hc (by decide) (by decide), if_neg (by decide), if_neg (by decide), if_pos rfl]
theorem cc_8 (hI : sI s nw nc) (hc : c < nc) : ol_comm s (nI c) 8 = s (38 + 8 * c + 7) := by
  rw [cc_0 hI hc (by decide) (by decide), if_neg (by decide), if_neg (by decide), if_neg (by decide), if_pos rfl]
theorem cw_0 (hI : sI s nw nc) (hc : c < nw) {v : Int32} (h1 : v ≥ 0) (h2 : v ≤ 3) : ol_wall s nc (nI c) v = if v ≥ 2 then (if v ≠ 2 then op_foG s (nI c) nc 0 0 else sp_wd s c) else s (20 + 3 * c + 1 + v.toNatClampNeg) := by
  have hn := hI.2.1
  unfold ol_wall
  rw [hI.1, if_pos ⟨zn_in hc (by omega), h1, h2⟩, nI_clamp (by omega)]
theorem cw_a (hI : sI s nw nc) (hc : c < nw) : ol_wall s nc (nI c) 0 = s (20 + 3 * c + 1) := by
  rw [cw_0 hI hc (by decide) (by decide), if_neg (by decide)]; rfl
theorem cw_b (hI : sI s nw nc) (hc : c < nw) : ol_wall s nc (nI c) 1 = s (20 + 3 * c + 2) := by
  rw [cw_0 hI hc (by decide) (by decide), if_neg (by decide)]; rfl
theorem cw_d (hI : sI s nw nc) (hc : c < nw) : ol_wall s nc (nI c) 2 = sp_wd s c := by
  rw [cw_0 hI hc (by decide) (by decide), if_pos (by decide), if_neg (by decide)]
end ZCC
/-- how many are in a state -/
def cn (s : ZSt) (st : Int32) : Nat → Nat → Nat
  | 0, _ => 0
  | n + 1, c => (if s (38 + 8 * c + 4) = st then 1 else 0) + cn s st n (c + 1)
theorem op_inG_cn (s : ZSt) (st : Int32) : ∀ (n c m : Nat), op_inG s st n c (nI m) = nI (m + cn s st n c) := by
  intro n
  induction n with
  | zero => intro c m; rfl
  | succ n ih =>
    intro c m
    rw [op_inG, cn]
    split
    · rw [nI_1, ih]
      congr 1
      omega
    · rw [Int32.add_zero, ih]
      congr 1
      omega
theorem op_in_cn (s : ZSt) (nc : Nat) (st : Int32) : op_in s nc st = nI (cn s st nc 0) := by
  have h := op_inG_cn s st nc 0 0
  rw [Nat.zero_add] at h
  exact h
theorem cn_le (s : ZSt) (st : Int32) : ∀ (n c : Nat), cn s st n c ≤ n := by
  intro n
  induction n with
  | zero => intro c; exact Nat.le_refl _
  | succ n ih =>
    intro c
    have := ih (c + 1)
    rw [cn]
    split <;> omega
theorem cn_0 (s : ZSt) (st : Int32) : ∀ (n c : Nat), cn s st n c = 0 ↔ ∀ j, c ≤ j → j < c + n → s (38 + 8 * j + 4) ≠ st := by
  intro n
  induction n with
  | zero => intro c; exact ⟨fun _ j h1 h2 => absurd h2 (by omega), fun _ => rfl⟩
  | succ n ih =>
    intro c
    rw [cn]
    by_cases h : s (38 + 8 * c + 4) = st
    · rw [if_pos h]
      exact ⟨fun e => absurd e (by omega), fun e => absurd h (e c (Nat.le_refl _) (by omega))⟩
    · rw [if_neg h, Nat.zero_add, ih]
      refine ⟨fun e j h1 h2 => ?_, fun e j h1 h2 => e j (by omega) (by omega)⟩
      by_cases hj : j = c
      · rw [hj]; exact h
      · exact e j (by omega) (by omega)
theorem sB_04 {x : Int32} (h : sB 0 4 x) : x = 0 ∨ x = 1 ∨ x = 2 ∨ x = 3 ∨ x = 4 := by
  obtain ⟨h1, h2⟩ := h
  rcases (show x.toInt = 0 ∨ x.toInt = 1 ∨ x.toInt = 2 ∨ x.toInt = 3 ∨ x.toInt = 4 by omega) with e | e | e | e | e
  · exact Or.inl (Int32.toInt_inj.mp (by rw [e]; rfl))
  · exact Or.inr (Or.inl (Int32.toInt_inj.mp (by rw [e]; rfl)))
  · exact Or.inr (Or.inr (Or.inl (Int32.toInt_inj.mp (by rw [e]; rfl))))
  · exact Or.inr (Or.inr (Or.inr (Or.inl (Int32.toInt_inj.mp (by rw [e]; rfl)))))
  · exact Or.inr (Or.inr (Or.inr (Or.inr (Int32.toInt_inj.mp (by rw [e]; rfl)))))
theorem cn_sum (s : ZSt) : ∀ (n c : Nat), (∀ j, c ≤ j → j < c + n → sB 0 4 (s (38 + 8 * j + 4))) → cn s 0 n c + cn s 1 n c + cn s 2 n c + cn s 3 n c + cn s 4 n c = n := by
  intro n
  induction n with
  | zero => intro c _; rfl
  | succ n ih =>
    intro c h
    have h1 := ih (c + 1) (fun j a b => h j (by omega) (by omega))
    rw [cn, cn, cn, cn, cn]
    rcases sB_04 (h c (Nat.le_refl _) (by omega)) with e | e | e | e | e <;> rw [e]
    · rw [if_pos rfl, if_neg (by decide), if_neg (by decide), if_neg (by decide), if_neg (by decide)]; omega
    · rw [if_neg (by decide), if_pos rfl, if_neg (by decide), if_neg (by decide), if_neg (by decide)]; omega
    · rw [if_neg (by decide), if_neg (by decide), if_pos rfl, if_neg (by decide), if_neg (by decide)]; omega
    · rw [if_neg (by decide), if_neg (by decide), if_neg (by decide), if_pos rfl, if_neg (by decide)]; omega
    · rw [if_neg (by decide), if_neg (by decide), if_neg (by decide), if_neg (by decide), if_pos rfl]; omega
def cs (s : ZSt) (nc : Nat) : Nat → Nat
  | 0 => 0
  | k + 1 => cs s nc k + cn s (nI k) nc 0
theorem cs_5 {s : ZSt} {nw nc : Nat} (hI : sI s nw nc) : cs s nc 5 = nc := by
  have h := cn_sum s nc 0 (fun j _ hj => (hI.2.2.2.2.2.2.2 j (by omega)).2.2.2.2.1)
  show 0 + cn s (nI 0) nc 0 + cn s (nI 1) nc 0 + cn s (nI 2) nc 0 + cn s (nI 3) nc 0 + cn s (nI 4) nc 0 = nc
  rw [Nat.zero_add]
  exact h
theorem oc_st {s : ZSt} {n nw nc k : Nat} (hk : k < 5) : ol_count s n 0 nw nc (nI (k + 3)) = nI (cn s (nI k) nc 0) := by
  rw [← op_in_cn]
  rcases (show k = 0 ∨ k = 1 ∨ k = 2 ∨ k = 3 ∨ k = 4 by omega) with rfl | rfl | rfl | rfl | rfl
  · exact oc_3
  · exact oc_4
  · exact oc_5
  · exact oc_6
  · exact oc_7
/-- what addsUp asks of a wall -/
theorem zw_wall {s : ZSt} {nw nc c : Nat} (hI : sI s nw nc) (hc : c < nw) : (¬ sp_wd s c = -100009 → ¬ sp_wd s c ≥ s (20 + 3 * c + 1) → sp_wd s c < s (20 + 3 * c + 2) → False) ∧ (¬ sp_wd s c = -100009 → ¬ sp_wd s c ≤ s (20 + 3 * c + 1) → sp_wd s c > s (20 + 3 * c + 2) → False) ∧ (s (20 + 3 * c + 1) = -100009 → ¬ s (20 + 3 * c + 2) = -100009 → False) := by
  have hW := hI.2.2.2.2.2.2.1 c hc
  have key : ¬ sp_wd s c = -100009 → sB (-60) 60 (s (20 + 3 * c + 1)) ∧ sB (-60) 60 (s (20 + 3 * c + 2)) ∧ (sp_wd s c).toInt = ((s (20 + 3 * c + 1)).toInt + (s (20 + 3 * c + 2)).toInt + 1) / 2 := by
    intro h
    unfold sp_wd at h ⊢
    split at h
    · exact absurd rfl h
    · rename_i h1
      rw [if_neg h1]
      rcases hW with ⟨h2, -⟩ | ⟨h2, -⟩ | ⟨-, ha, hb⟩
      · exact absurd (Or.inl (by rw [h2]; decide)) h1
      · exact absurd (Or.inl (by rw [h2]; decide)) h1
      · refine ⟨ha, hb, ?_⟩
        obtain ⟨a1, a2⟩ := ha
        obtain ⟨b1, b2⟩ := hb
        have e1 : (s (20 + 3 * c + 1) + s (20 + 3 * c + 2)).toInt64.toInt = (s (20 + 3 * c + 1)).toInt + (s (20 + 3 * c + 2)).toInt := by
          rw [Int32.toInt_toInt64, Int32.toInt_add, Int.bmod_eq_of_le (by omega) (by omega)]
        have h2 : (2 : Int64).toInt = 2 := rfl
        have hr := zs_rd_i (a := (s (20 + 3 * c + 1) + s (20 + 3 * c + 2)).toInt64) (b := 2) (by omega) (by omega) (by omega) (by omega)
        rw [e1, h2] at hr
        rw [Int64.toInt_toInt32, hr, Int.bmod_eq_of_le (by omega) (by omega)]
        omega
  refine ⟨fun h h1 h2 => ?_, fun h h1 h2 => ?_, fun h1 h2 => ?_⟩
  · obtain ⟨-, -, e⟩ := key h
    rw [ge_iff_le, Int32.le_iff_toInt_le] at h1
    rw [Int32.lt_iff_toInt_lt] at h2
    omega
  · obtain ⟨-, -, e⟩ := key h
    rw [Int32.le_iff_toInt_le] at h1
    rw [gt_iff_lt, Int32.lt_iff_toInt_lt] at h2
    omega
  · rcases hW with ⟨-, -, e⟩ | ⟨-, -, e⟩ | ⟨-, ha, -⟩
    · exact h2 e
    · exact h2 e
    · rw [h1] at ha
      exact absurd ha (by unfold sB; decide)
