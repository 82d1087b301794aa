/-! MATH: what lines and readings of a dial are like -/
theorem zd_by {c : Nat → Int32} (hc : zs_fine c) {s : Int32} : ∀ (n k : Nat), k + n = 12 → zs_by c s n k ≠ -100009 → ∃ j, k ≤ j ∧ j < 12 ∧ c (60 * j) ≠ -100009 ∧ c (60 * j + 60) ≠ -100009 ∧ (60 * j : Int) - 360 ≤ (zs_by c s n k).toInt ∧ (zs_by c s n k).toInt ≤ (60 * j : Int) - 300 := by
  intro n
  induction n with
  | zero => intro k _ h; exact absurd rfl h
  | succ n ih =>
    intro k hk
    rw [zs_by]
    split
    · intro h
      obtain ⟨j, h1, h2⟩ := ih (k + 1) (by omega) h
      exact ⟨j, by omega, h2⟩
    · rename_i h1
      have ha := hc (60 * k) (fun e => h1 (Or.inl e))
      have hb := hc (60 * k + 60) (fun e => h1 (Or.inr (Or.inl e)))
      have h2 : ¬ c (60 * k) > s := fun e => h1 (Or.inr (Or.inr (Or.inl e)))
      have h3 : ¬ s > c (60 * k + 60) := fun e => h1 (Or.inr (Or.inr (Or.inr e)))
      rw [gt_iff_lt, Int32.lt_iff_toInt_lt] at h2 h3
      have ht := zs_t_i (i := 60 * k) (by omega)
      intro _
      refine ⟨k, Nat.le_refl _, by omega, fun e => h1 (Or.inl e), fun e => h1 (Or.inr (Or.inl e)), ?_⟩
      split
      · rw [ht]
        omega
      · rename_i h4
        have d1 : (s - c (60 * k)).toInt = s.toInt - (c (60 * k)).toInt := by
          rw [Int32.toInt_sub, Int.bmod_eq_of_le (by omega) (by omega)]
        have d2 : (c (60 * k + 60) - c (60 * k)).toInt = (c (60 * k + 60)).toInt - (c (60 * k)).toInt := by
          rw [Int32.toInt_sub, Int.bmod_eq_of_le (by omega) (by omega)]
        have d3 : (c (60 * k + 60) - c (60 * k)).toInt ≠ 0 := by
          intro e
          exact h4 (Int32.toInt_inj.mp (by rw [e]; rfl))
        have d4 : ((60 : Int64) * (s - c (60 * k)).toInt64).toInt = 60 * (s - c (60 * k)).toInt := by
          rw [Int64.toInt_mul, Int32.toInt_toInt64, show ((60 : Int64)).toInt = 60 from rfl, Int.bmod_eq_of_le (by omega) (by omega)]
        have d5 : (c (60 * k + 60) - c (60 * k)).toInt64.toInt = (c (60 * k + 60) - c (60 * k)).toInt := Int32.toInt_toInt64 _
        have hr := zs_rd_i (a := 60 * (s - c (60 * k)).toInt64) (b := (c (60 * k + 60) - c (60 * k)).toInt64) (by omega) (by omega) (by omega) (by omega)
        rw [d4, d5, d1, d2] at hr
        have lo : 0 ≤ (zs_rd (60 * (s - c (60 * k)).toInt64) (c (60 * k + 60) - c (60 * k)).toInt64).toInt := by
          rw [hr]
          apply Int.ediv_nonneg <;> omega
        have hi : (zs_rd (60 * (s - c (60 * k)).toInt64) (c (60 * k + 60) - c (60 * k)).toInt64).toInt ≤ 60 := by
          rw [hr]
          apply Int.le_of_lt_add_one
          apply Int.ediv_lt_of_lt_mul <;> omega
        rw [Int64.toInt_toInt32, Int64.toInt_add, Int32.toInt_toInt64, ht]
        generalize (zs_rd (60 * (s - c (60 * k)).toInt64) (c (60 * k + 60) - c (60 * k)).toInt64).toInt = Z at lo hi
        rw [Int.bmod_eq_of_le (n := ((60 * k : Nat) : Int) - 360 + Z) (by omega) (by omega), Int.bmod_eq_of_le (by omega) (by omega)]
        omega
/-- how many lines -/
theorem zd_hl (c : Nat → Int32) : ∀ (n k m : Nat), ∃ r, m ≤ r ∧ r ≤ m + n ∧ zs_hlG c n k (nI m) = nI r ∧ (r = m ↔ ∀ j, k ≤ j → j < k + n → c (60 * j) = -100009) := by
  intro n
  induction n with
  | zero => intro k m; exact ⟨m, Nat.le_refl _, Nat.le_refl _, rfl, fun _ j h1 h2 => absurd h2 (by omega), fun _ => rfl⟩
  | succ n ih =>
    intro k m
    rw [zs_hlG]
    by_cases h : c (60 * k) = -100009
    · rw [if_pos h, Int32.add_zero]
      obtain ⟨r, h1, h2, h3, h4⟩ := ih (k + 1) m
      refine ⟨r, h1, by omega, h3, fun e j hj hj2 => ?_, fun e => h4.mpr (fun j hj hj2 => e j (by omega) (by omega))⟩
      by_cases hk : j = k
      · rw [hk]; exact h
      · exact h4.mp e j (by omega) (by omega)
    · rw [if_neg h, nI_1]
      obtain ⟨r, h1, h2, h3, h4⟩ := ih (k + 1) (m + 1)
      exact ⟨r, by omega, by omega, h3, fun e => absurd e (by omega), fun e => absurd (e k (Nat.le_refl _) (by omega)) h⟩
/-- the first line -/
theorem zd_fl1 (c : Nat → Int32) : ∀ (n k : Nat) (f t : Int32), k + n ≤ 13 → (f ≠ -100009 → (zs_flG c n k f t).1 = f) ∧ (f = -100009 → ((∀ j, k ≤ j → j < k + n → c (60 * j) = -100009) ∧ (zs_flG c n k f t).1 = -100009) ∨ ∃ i, k ≤ i ∧ i < k + n ∧ c (60 * i) ≠ -100009 ∧ (zs_flG c n k f t).1 = zs_t (60 * i) ∧ ∀ j, k ≤ j → j < i → c (60 * j) = -100009) := by
  intro n
  induction n with
  | zero => intro k f t _; exact ⟨fun _ => rfl, fun e => Or.inl ⟨fun j h1 h2 => absurd h2 (by omega), e⟩⟩
  | succ n ih =>
    intro k f t hk
    rw [zs_flG]
    refine ⟨fun h => ?_, fun h => ?_⟩
    · rw [if_neg (fun e => h e.2)]
      exact (ih (k + 1) f _ (by omega)).1 h
    · by_cases hc : c (60 * k) = -100009
      · rw [if_neg (fun e => e.1 hc)]
        rcases (ih (k + 1) f _ (by omega)).2 h with ⟨h1, h2⟩ | ⟨i, h1, h2, h3, h4, h5⟩
        · refine Or.inl ⟨fun j hj hj2 => ?_, h2⟩
          by_cases e : j = k
          · rw [e]; exact hc
          · exact h1 j (by omega) (by omega)
        · refine Or.inr ⟨i, by omega, by omega, h3, h4, fun j hj hj2 => ?_⟩
          by_cases e : j = k
          · rw [e]; exact hc
          · exact h5 j (by omega) hj2
      · rw [if_pos ⟨hc, h⟩]
        exact Or.inr ⟨k, Nat.le_refl _, by omega, hc, (ih (k + 1) _ _ (by omega)).1 (zs_ne _ (by omega)), fun j h1 h2 => absurd h2 (by omega)⟩
/-- the last line -/
theorem zd_fl2 (c : Nat → Int32) : ∀ (n k : Nat) (f t : Int32), k + n ≤ 13 → ((∀ j, k ≤ j → j < k + n → c (60 * j) = -100009) ∧ (zs_flG c n k f t).2 = t) ∨ ∃ i, k ≤ i ∧ i < k + n ∧ c (60 * i) ≠ -100009 ∧ (zs_flG c n k f t).2 = zs_t (60 * i) ∧ ∀ j, i < j → j < k + n → c (60 * j) = -100009 := by
  intro n
  induction n with
  | zero => intro k f t _; exact Or.inl ⟨fun j h1 h2 => absurd h2 (by omega), rfl⟩
  | succ n ih =>
    intro k f t hk
    rw [zs_flG]
    by_cases hc : c (60 * k) = -100009
    · rw [if_neg (c := c (60 * k) ≠ -100009) (fun e => e hc)]
      rcases ih (k + 1) _ t (by omega) with ⟨h1, h2⟩ | ⟨i, h1, h2, h3, h4, h5⟩
      · refine Or.inl ⟨fun j hj hj2 => ?_, h2⟩
        by_cases e : j = k
        · rw [e]; exact hc
        · exact h1 j (by omega) (by omega)
      · exact Or.inr ⟨i, by omega, by omega, h3, h4, fun j hj hj2 => h5 j hj (by omega)⟩
    · rw [if_pos (c := c (60 * k) ≠ -100009) hc]
      rcases ih (k + 1) _ (zs_t (60 * k)) (by omega) with ⟨h1, h2⟩ | ⟨i, h1, h2, h3, h4, h5⟩
      · exact Or.inr ⟨k, Nat.le_refl _, by omega, hc, h2, fun j hj hj2 => h1 j (by omega) (by omega)⟩
      · exact Or.inr ⟨i, by omega, by omega, h3, h4, fun j hj hj2 => h5 j hj (by omega)⟩
/-- lines, the first, the last, all of a dial's -/
theorem zd_lines (c : Nat → Int32) : (0 ≤ (zs_hl c).toInt ∧ (zs_hl c).toInt ≤ 13) ∧ (zs_hl c = 0 ↔ (zs_fl c).1 = -100009) ∧ (zs_fl c).1.toInt ≤ (zs_fl c).2.toInt ∧ ∀ j, j < 13 → c (60 * j) ≠ -100009 → (zs_fl c).1.toInt ≤ (60 * j : Int) - 360 ∧ (60 * j : Int) - 360 ≤ (zs_fl c).2.toInt := by
  obtain ⟨r, -, h2, h3, h4⟩ := zd_hl c 13 0 0
  have e : zs_hl c = nI r := h3
  have er : (nI r).toInt = r := nI_toInt (by omega)
  refine ⟨by rw [e, er]; omega, ?_, ?_⟩
  · have h0 : zs_hl c = 0 ↔ r = 0 := by
      rw [e]
      refine ⟨fun h => ?_, fun h => by rw [h]; rfl⟩
      have := congrArg Int32.toInt h
      rw [er] at this
      have z : (0 : Int32).toInt = 0 := rfl
      omega
    rw [h0, h4]
    rcases (zd_fl1 c 13 0 (-100009) (-100009) (by omega)).2 rfl with ⟨a1, a2⟩ | ⟨i, a1, a2, a3, a4, a5⟩
    · exact ⟨fun _ => a2, fun _ => a1⟩
    · refine ⟨fun h => absurd (h i a1 a2) a3, fun h => ?_⟩
      have : zs_t (60 * i) = -100009 := a4.symm.trans h
      exact absurd this (zs_ne _ (by omega))
  · rcases (zd_fl1 c 13 0 (-100009) (-100009) (by omega)).2 rfl with ⟨a1, a2⟩ | ⟨i, a1, a2, a3, a4, a5⟩
    · rcases zd_fl2 c 13 0 (-100009) (-100009) (by omega) with ⟨b1, b2⟩ | ⟨j, b1, b2, b3, b4, b5⟩
      · refine ⟨?_, fun j hj hn => absurd (a1 j (by omega) (by omega)) hn⟩
        show (zs_flG c 13 0 (-100009) (-100009)).1.toInt ≤ (zs_flG c 13 0 (-100009) (-100009)).2.toInt
        rw [a2, b2]
        exact Int.le_refl _
      · exact absurd (a1 j (by omega) (by omega)) b3
    · rcases zd_fl2 c 13 0 (-100009) (-100009) (by omega) with ⟨b1, b2⟩ | ⟨j, b1, b2, b3, b4, b5⟩
      · exact absurd (b1 i (by omega) (by omega)) a3
      · have e1 : (zs_fl c).1 = zs_t (60 * i) := a4
        have e2 : (zs_fl c).2 = zs_t (60 * j) := b4
        have t1 := zs_t_i (i := 60 * i) (by omega)
        have t2 := zs_t_i (i := 60 * j) (by omega)
        have hij : i ≤ j := by
          by_cases h : i ≤ j
          · exact h
          · exact absurd (b5 i (by omega) (by omega)) a3
        rw [e1, e2, t1, t2]
        refine ⟨by omega, fun k hk hn => ?_⟩
        have k1 : i ≤ k := by
          by_cases h : i ≤ k
          · exact h
          · exact absurd (a5 k (by omega) (by omega)) hn
        have k2 : k ≤ j := by
          by_cases h : k ≤ j
          · exact h
          · exact absurd (b5 k (by omega) (by omega)) hn
        omega
/-- a reading by lines lies between the first and the last -/
theorem zd_read {c : Nat → Int32} (hc : zs_fine c) {s : Int32} (h : zs_byL c s ≠ -100009) : (zs_fl c).1.toInt ≤ (zs_byL c s).toInt ∧ (zs_byL c s).toInt ≤ (zs_fl c).2.toInt ∧ -360 ≤ (zs_byL c s).toInt ∧ (zs_byL c s).toInt ≤ 360 := by
  obtain ⟨j, h1, h2, h3, h4, h5, h6⟩ := zd_by hc 12 0 (by omega) h
  have h5 : (60 * j : Int) - 360 ≤ (zs_byL c s).toInt := h5
  have h6 : (zs_byL c s).toInt ≤ (60 * j : Int) - 300 := h6
  obtain ⟨-, -, -, hl⟩ := zd_lines c
  have a1 := (hl j (by omega) h3).1
  have a2 := (hl (j + 1) (by omega) (by rw [show 60 * (j + 1) = 60 * j + 60 by omega]; exact h4)).2
  omega
/-- sizes -/
theorem zd_size {v : Int32} (h : -1000000 ≤ v.toInt) : (0 ≤ v.toInt → (zs_size v).toInt = v.toInt) ∧ (v.toInt < 0 → (zs_size v).toInt = -v.toInt) := by
  have z : (0 : Int32).toInt = 0 := rfl
  unfold zs_size
  refine ⟨fun h1 => ?_, fun h1 => ?_⟩
  · rw [if_pos (by rw [ge_iff_le, Int32.le_iff_toInt_le, z]; exact h1)]
  · rw [if_neg (by rw [ge_iff_le, Int32.le_iff_toInt_le, z]; omega), Int32.toInt_neg, Int.bmod_eq_of_le (by omega) (by omega)]
theorem zd_sub {a b : Int32} (h1 : -400000 ≤ a.toInt ∧ a.toInt ≤ 400000) (h2 : -400000 ≤ b.toInt ∧ b.toInt ≤ 400000) : (a - b).toInt = a.toInt - b.toInt := by
  rw [Int32.toInt_sub, Int.bmod_eq_of_le (by omega) (by omega)]
theorem zd_add {a b : Int32} (h1 : -400000 ≤ a.toInt ∧ a.toInt ≤ 400000) (h2 : -400000 ≤ b.toInt ∧ b.toInt ≤ 400000) : (a + b).toInt = a.toInt + b.toInt := by
  rw [Int32.toInt_add, Int.bmod_eq_of_le (by omega) (by omega)]
/-- a nearest time stays -/
theorem zd_sh0 {c : Nat → Int32} (hc : zs_fine c) {s : Int32} (hs : -3000 ≤ s.toInt ∧ s.toInt ≤ 3000) {its : Int32} (hi : its ≠ -100009) : ∀ (n i : Nat), zs_shG c s n i its 0 = its := by
  intro n
  induction n with
  | zero => intro i; rfl
  | succ n ih =>
    intro i
    rw [zs_shG]
    split
    · exact ih (i + 1)
    · rename_i h
      have h9 := hc i h
      have e := zd_sub (a := c i) (b := s) (by omega) (by omega)
      have h0 := zs_size_i (v := c i - s) (by omega)
      rw [if_neg]
      · exact ih (i + 1)
      · rintro (a | a)
        · exact hi a
        · rw [Int32.lt_iff_toInt_lt] at a
          have z : (0 : Int32).toInt = 0 := rfl
          omega
theorem zd_shG {c : Nat → Int32} (hc : zs_fine c) {i0 : Nat} (h0 : c i0 ≠ -100009) (hi0 : i0 < 721) : ∀ (n i : Nat) (its least : Int32), i + n = 721 → i ≤ i0 → (its = -100009 ∨ ∃ j, j < i ∧ its = zs_t j ∧ c j ≠ -100009 ∧ least = zs_size (c j - c i0)) → ∃ j, j ≤ i0 ∧ zs_shG c (c i0) n i its least = zs_t j ∧ c j = c i0 := by
  have hs := hc i0 h0
  have z : (0 : Int32).toInt = 0 := rfl
  intro n
  induction n with
  | zero => intro i its least h1 h2; omega
  | succ n ih =>
    intro i its least h1 h2 h3
    by_cases hz : ∃ j, j < i ∧ its = zs_t j ∧ c j = c i0
    · obtain ⟨j, a1, a2, a3⟩ := hz
      rcases h3 with h3 | ⟨j', b1, b2, b3, b4⟩
      · exact absurd (a2.symm.trans h3) (zs_ne _ (by omega))
      · have hj : j' = j := by
          have t1 := zs_t_i (i := j) (by omega)
          have t2 := zs_t_i (i := j') (by omega)
          rw [← a2, b2, t2] at t1
          omega
        subst hj
        rw [a3, Int32.sub_self] at b4
        have b5 : least = 0 := b4
        subst b5
        exact ⟨j', by omega, by rw [zd_sh0 hc hs (by rw [a2]; exact zs_ne _ (by omega)), a2], a3⟩
    · rw [zs_shG]
      by_cases hn : c i = -100009
      · rw [if_pos hn]
        have : i ≠ i0 := fun e => h0 (e ▸ hn)
        refine ih (i + 1) its least (by omega) (by omega) ?_
        rcases h3 with h3 | ⟨j, b1, b2⟩
        · exact Or.inl h3
        · exact Or.inr ⟨j, by omega, b2⟩
      · rw [if_neg hn]
        by_cases he : c i = c i0
        · have hcond : its = -100009 ∨ zs_size (c i - c i0) < least := by
            rcases h3 with h3 | ⟨j, b1, b2, b3, b4⟩
            · exact Or.inl h3
            · right
              have hj := hc j b3
              have e1 := zd_sub (a := c j) (b := c i0) (by omega) (by omega)
              have e2 := zd_size (v := c j - c i0) (by omega)
              have ne : (c j).toInt ≠ (c i0).toInt := fun e => hz ⟨j, b1, b2, Int32.toInt_inj.mp e⟩
              have e3 : zs_size (c i - c i0) = 0 := by rw [he, Int32.sub_self]; rfl
              rw [e3, b4, Int32.lt_iff_toInt_lt, z]
              by_cases hp : 0 ≤ (c j - c i0).toInt
              · rw [e2.1 hp]; omega
              · rw [e2.2 (by omega)]; omega
          rw [if_pos hcond, he, Int32.sub_self]
          exact ⟨i, h2, zd_sh0 hc hs (zs_ne _ (by omega)) n (i + 1), he⟩
        · have : i ≠ i0 := fun e => he (e ▸ rfl)
          split
          · exact ih (i + 1) _ _ (by omega) (by omega) (Or.inr ⟨i, by omega, rfl, hn, rfl⟩)
          · refine ih (i + 1) its least (by omega) (by omega) ?_
            rcases h3 with h3 | ⟨j, b1, b2⟩
            · exact Or.inl h3
            · exact Or.inr ⟨j, by omega, b2⟩
theorem zd_sh {c : Nat → Int32} (hc : zs_fine c) {i0 : Nat} (h0 : c i0 ≠ -100009) (hi0 : i0 < 721) : ∃ j, j ≤ i0 ∧ zs_sh c (c i0) = zs_t j ∧ c j = c i0 :=
  zd_shG hc h0 hi0 721 0 (-100009) 0 (by omega) (by omega) (Or.inl rfl)
/-- apart -/
def zd_g (c : Nat → Int32) (i : Nat) : Prop := c i ≠ -100009 ∧ zs_byL c (c i) ≠ -100009
def zd_d (c : Nat → Int32) (i : Nat) : Int32 := zs_size (zs_t i - zs_byL c (c i))
def zd_I (c : Nat → Int32) (i : Nat) (r : Int32 × Int32) : Prop := (r.2 ≠ -100009 → ∃ j, j < i ∧ r.2 = zs_t j ∧ zd_g c j ∧ r.1 = zd_d c j) ∧ ∀ j, j < i → zd_g c j → r.2 ≠ -100009 ∧ (zd_d c j).toInt ≤ r.1.toInt
theorem zd_apG (c : Nat → Int32) : ∀ (n i : Nat) (g t : Int32), i + n ≤ 721 → zd_I c i (g, t) → zd_I c (i + n) (zs_apG c n i g t) := by
  intro n
  induction n with
  | zero => intro i g t _ h; exact h
  | succ n ih =>
    intro i g t hi h
    rw [zs_apG, show i + (n + 1) = i + 1 + n by omega]
    obtain ⟨h1, h2⟩ := h
    split
    · rename_i a
      refine ih (i + 1) g t (by omega) ⟨fun e => ?_, fun j hj hg => ?_⟩
      · obtain ⟨j, b1, b2⟩ := h1 e
        exact ⟨j, by omega, b2⟩
      · by_cases e : j = i
        · subst e
          rcases a with a | a
          · exact absurd a hg.1
          · exact absurd a hg.2
        · exact h2 j (by omega) hg
    · rename_i a
      have hg : zd_g c i := ⟨fun e => a (Or.inl e), fun e => a (Or.inr e)⟩
      split
      · rename_i b
        have hd : ∃ j, j < i + 1 ∧ zs_t i = zs_t j ∧ zd_g c j ∧ zd_d c i = zd_d c j := ⟨i, by omega, rfl, hg, rfl⟩
        have hne : zs_t i ≠ -100009 := zs_ne i (by omega)
        refine ih (i + 1) (zd_d c i) (zs_t i) (by omega) ⟨fun _ => by dsimp only; exact hd, fun j hj hgj => ⟨by dsimp only; exact hne, ?_⟩⟩
        dsimp only
        by_cases e : j = i
        · rw [e]; exact Int.le_refl _
        · obtain ⟨k1, k2⟩ := h2 j (by omega) hgj
          rcases b with b | b
          · exact absurd b k1
          · rw [gt_iff_lt, Int32.lt_iff_toInt_lt] at b
            have b' : g.toInt < (zd_d c i).toInt := b
            have k2' : (zd_d c j).toInt ≤ g.toInt := k2
            omega
      · rename_i b
        refine ih (i + 1) g t (by omega) ⟨fun e => ?_, fun j hj hgj => ?_⟩
        · obtain ⟨j, b1, b2⟩ := h1 e
          exact ⟨j, by omega, b2⟩
        · by_cases e : j = i
          · subst e
            refine ⟨fun e => b (Or.inl e), ?_⟩
            have : ¬ zd_d c j > g := fun e => b (Or.inr e)
            rw [gt_iff_lt, Int32.lt_iff_toInt_lt] at this
            show (zd_d c j).toInt ≤ g.toInt
            omega
          · exact h2 j (by omega) hgj
theorem zd_ap (c : Nat → Int32) : zd_I c 721 (zs_ap c) := by
  have := zd_apG c 721 0 0 (-100009) (by omega) ⟨fun e => absurd rfl e, fun j hj => absurd hj (by omega)⟩
  exact this
