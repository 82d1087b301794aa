/-! THE LAW: melts, one after the other -/
theorem op_caG_o {st : Nat → Int32} : ∀ (n c : Nat) (s : ZSt) (j : Nat), j ≠ 3 → (∀ i, j ≠ 38 + 8 * i + 4 ∧ j ≠ 38 + 8 * i + 6) → op_caG st n c s j = s j := by
  intro n
  induction n with
  | zero => intro c s j _ _; rfl
  | succ n ih =>
    intro c s j h1 h2
    rw [op_caG]
    split
    · exact ih (c + 1) s j h1 h2
    · rw [ih (c + 1) _ j h1 h2, u_ne _ _ h1, u_ne _ _ (h2 c).2, u_ne _ _ (h2 c).1]
theorem op_caG_b {st : Nat → Int32} : ∀ (n c : Nat) (s : ZSt) (j : Nat), j < c → op_caG st n c s (38 + 8 * j + 4) = s (38 + 8 * j + 4) := by
  intro n
  induction n with
  | zero => intro c s j _; rfl
  | succ n ih =>
    intro c s j h1
    rw [op_caG]
    split
    · exact ih (c + 1) s j (by omega)
    · rw [ih (c + 1) _ j (by omega), u_ne _ _ (by omega), u_ne _ _ (by omega), u_ne _ _ (by omega)]
theorem op_caG_st {st : Nat → Int32} : ∀ (n c : Nat) (s : ZSt), (∀ j, c ≤ j → j < c + n → st j = s (38 + 8 * j + 4) ∨ (s (38 + 8 * j + 4) = 1 ∧ st j = 2)) → ∀ j, c ≤ j → j < c + n → op_caG st n c s (38 + 8 * j + 4) = st j := by
  intro n
  induction n with
  | zero => intro c s _ j h1 h2; exact absurd h2 (by omega)
  | succ n ih =>
    intro c s h j h1 h2
    rw [op_caG]
    split
    · rename_i e
      by_cases hj : j = c
      · subst hj
        rw [op_caG_b _ _ _ _ (by omega)]
        exact e.symm
      · exact ih (c + 1) s (fun i a b => h i (by omega) (by omega)) j (by omega) (by omega)
    · rename_i e
      by_cases hj : j = c
      · subst hj
        rw [op_caG_b _ _ _ _ (by omega), u_ne _ _ (by omega), u_ne _ _ (by omega), u_eq]
        rcases h j h1 h2 with q | ⟨-, q⟩
        · exact absurd q e
        · exact q.symm
      · refine ih (c + 1) _ (fun i a b => ?_) j (by omega) (by omega)
        rw [u_ne _ _ (by omega), u_ne _ _ (by omega), u_ne _ _ (by omega)]
        exact h i (by omega) (by omega)
theorem op_cas_st (s : ZSt) (nc : Nat) : ∀ j, j < nc → op_st (op_cas s nc) j = (op_ml s nc (op_st s)).2 j := by
  intro j hj
  show op_cas s nc (38 + 8 * j + 4) = _
  unfold op_cas
  rw [u_ne _ _ (by omega)]
  exact op_caG_st nc 0 s (fun i _ _ => op_mlG_was (sp_wt s) (s 7) nc 0 0 0 (op_st s) i) j (by omega) (by omega)
theorem op_cas_ml (s : ZSt) (nc : Nat) (st : Nat → Int32) : op_ml (op_cas s nc) nc st = op_ml s nc st := by
  have e1 : sp_wt (op_cas s nc) = sp_wt s := by
    funext c
    refine sp_wt_eq ?_
    unfold op_cas
    rw [u_ne _ _ (by omega), op_caG_o _ _ _ _ (by omega) (fun i => ⟨by omega, by omega⟩)]
  have e2 : op_cas s nc 7 = s 7 := by
    unfold op_cas
    rw [u_ne _ _ (by omega), op_caG_low _ _ _ _ (by omega) (by omega)]
  unfold op_ml
  rw [e1, e2]
theorem op_cas_mt (s : ZSt) (nc : Nat) : ∀ (f : Nat) (m : Int32) (st : Nat → Int32), op_mtG (op_cas s nc) nc f m st = op_mtG s nc f m st := by
  intro f
  induction f with
  | zero => intro m st; rfl
  | succ f ih =>
    intro m st
    rw [op_mtG, op_mtG, op_cas_ml, ih]
theorem op_mt_in (s : ZSt) (nc : Nat) : ∀ (f m : Nat) (st : Nat → Int32), ∃ t, m ≤ t ∧ t ≤ m + f ∧ (op_mtG s nc f (nI m) st).1 = nI t := by
  intro f
  induction f with
  | zero => intro m st; exact ⟨m, Nat.le_refl _, Nat.le_refl _, rfl⟩
  | succ f ih =>
    intro m st
    rw [op_mtG]
    split
    · rw [nI_1]
      obtain ⟨t, h1, h2, h3⟩ := ih (m + 1) (op_ml s nc st).2
      exact ⟨t, by omega, by omega, h3⟩
    · exact ⟨m, Nat.le_refl _, by omega, rfl⟩
theorem op_mt_was (s : ZSt) (nc : Nat) : ∀ (f : Nat) (m : Int32) (st : Nat → Int32) (j : Nat), (op_mtG s nc f m st).2 j = 1 → st j = 1 := by
  have key : ∀ (st : Nat → Int32) (j : Nat), (op_ml s nc st).2 j = 1 → st j = 1 := by
    intro st j h
    rcases op_mlG_was (sp_wt s) (s 7) nc 0 0 0 st j with e | ⟨-, e⟩
    · exact e.symm.trans h
    · exact absurd (e.symm.trans h) (by decide)
  intro f
  induction f with
  | zero => intro m st j h; exact h
  | succ f ih =>
    intro m st j h
    rw [op_mtG] at h
    split at h
    · exact key st j (ih _ _ j h)
    · exact key st j h
theorem mx_lf_0 (st : Nat → Int32) : ∀ (n c : Nat) (b : Int32), op_lfG st n c b = 0 ↔ b = 0 ∧ ∀ j, c ≤ j → j < c + n → st j ≠ 1 := by
  intro n
  induction n with
  | zero => intro c b; exact ⟨fun h => ⟨h, fun j h1 h2 => absurd h2 (by omega)⟩, fun h => h.1⟩
  | succ n ih =>
    intro c b
    rw [op_lfG, ih]
    by_cases hb : b = 0
    · rw [if_neg (fun e => e hb)]
      by_cases hc : st c = 1
      · rw [if_neg (fun e => e hc)]
        exact ⟨fun h => absurd h.1 (by decide), fun h => absurd hc (h.2 c (Nat.le_refl _) (by omega))⟩
      · rw [if_pos hc]
        refine ⟨fun h => ⟨hb, fun j h1 h2 => ?_⟩, fun h => ⟨rfl, fun j h1 h2 => h.2 j (by omega) (by omega)⟩⟩
        by_cases hj : j = c
        · rw [hj]; exact hc
        · exact h.2 j (by omega) (by omega)
    · rw [if_pos hb]
      exact ⟨fun h => absurd h.1 (by decide), fun h => absurd h.1 hb⟩
theorem mx_ones_0 (st : Nat → Int32) : ∀ (n c : Nat), op_ones st n c = 0 ↔ ∀ j, c ≤ j → j < c + n → st j ≠ 1 := by
  intro n
  induction n with
  | zero => intro c; exact ⟨fun _ j h1 h2 => absurd h2 (by omega), fun _ => rfl⟩
  | succ n ih =>
    intro c
    rw [op_ones]
    by_cases hc : st c = 1
    · rw [if_pos hc]
      exact ⟨fun h => absurd h (by omega), fun h => absurd hc (h c (Nat.le_refl _) (by omega))⟩
    · rw [if_neg hc, Nat.add_zero, ih]
      refine ⟨fun h j h1 h2 => ?_, fun h j h1 h2 => h j (by omega) (by omega)⟩
      by_cases hj : j = c
      · rw [hj]; exact hc
      · exact h j (by omega) (by omega)
/-- k melts are cast, T are needed -/
def mI (s : ZSt) (nc k T : Nat) : Prop := k ≤ T ∧ T ≤ 11 ∧ (op_mtG s nc (11 - k) (nI k) (op_st s)).1 = nI T ∧ ∀ j, j < nc → (op_mtG s nc (11 - k) (nI k) (op_st s)).2 j ≠ 1
theorem mI_0 {s : ZSt} {nc : Nat} (h : ol_melts s nc ≠ -100009) : ∃ T, ol_melts s nc = nI T ∧ mI s nc 0 T := by
  unfold ol_melts at h ⊢
  by_cases hc : op_lfG (op_mtG s nc 11 0 (op_st s)).2 nc 0 0 = 0
  · rw [if_pos hc] at h ⊢
    obtain ⟨t, -, h2, h3⟩ := op_mt_in s nc 11 0 (op_st s)
    exact ⟨t, h3, by omega, by omega, h3, fun j hj => ((mx_lf_0 _ _ _ _).mp hc).2 j (by omega) (by omega)⟩
  · rw [if_neg hc] at h
    exact absurd rfl h
theorem mI_no {s : ZSt} {nc : Nat} (hn : nc ≤ 10) (h : ol_melts s nc = -100009) : op_in s nc 1 > 0 := by
  unfold ol_melts at h
  by_cases hc : op_lfG (op_mtG s nc 11 0 (op_st s)).2 nc 0 0 = 0
  · rw [if_pos hc] at h
    obtain ⟨t, -, h2, h3⟩ := op_mt_in s nc 11 0 (op_st s)
    have h3' : (op_mtG s nc 11 0 (op_st s)).1 = nI t := h3
    rw [h3'] at h
    have e := congrArg Int32.toInt h
    rw [nI_toInt (by omega), show ((-100009 : Int32)).toInt = -100009 from rfl] at e
    omega
  · have h2 : ¬ cn s 1 nc 0 = 0 := fun e => by
      refine hc ((mx_lf_0 _ _ _ _).mpr ⟨rfl, fun j h1 h2 h3 => ?_⟩)
      exact (cn_0 s 1 nc 0).mp e j h1 h2 (op_mt_was s nc 11 0 (op_st s) j h3)
    have h3 := cn_le s 1 nc 0
    rw [op_in_cn, gt_iff_lt, Int32.lt_iff_toInt_lt, nI_toInt (by omega), show ((0 : Int32)).toInt = 0 from rfl]
    omega
theorem mI_step {s : ZSt} {nc k T : Nat} (hn : nc ≤ 10) (h : mI s nc k T) (hk : k < T) : (op_ml s nc (op_st s)).1 > 0 ∧ mI (op_cas s nc) nc (k + 1) T := by
  obtain ⟨h1, h2, h3, h4⟩ := h
  rw [show 11 - k = (11 - (k + 1)) + 1 by omega, op_mtG] at h3 h4
  by_cases hp : (op_ml s nc (op_st s)).1 > 0
  · rw [if_pos hp, nI_1] at h3 h4
    obtain ⟨q1, q2⟩ := op_mtG_eq s nc (11 - (k + 1)) (nI (k + 1)) (op_st (op_cas s nc)) (op_ml s nc (op_st s)).2 (op_cas_st s nc)
    refine ⟨hp, by omega, h2, ?_, fun j hj => ?_⟩
    · rw [op_cas_mt, q1]
      exact h3
    · rw [op_cas_mt, q2 j hj]
      exact h4 j hj
  · exfalso
    rw [if_neg hp] at h3
    have e := congrArg Int32.toInt h3
    dsimp only at e
    rw [nI_toInt (by omega), nI_toInt (by omega)] at e
    omega
theorem mI_end {s : ZSt} {nc T : Nat} (hn : nc ≤ 10) (h : mI s nc T T) : op_in s nc 1 = 0 := by
  obtain ⟨-, h2, h3, h4⟩ := h
  have key : ∀ j, 0 ≤ j → j < 0 + nc → op_st s j ≠ 1 := by
    by_cases hT : T = 11
    · subst hT
      intro j _ hj
      exact h4 j (by omega)
    · rw [show 11 - T = (11 - (T + 1)) + 1 by omega, op_mtG] at h3 h4
      by_cases hp : (op_ml s nc (op_st s)).1 > 0
      · exfalso
        rw [if_pos hp, nI_1] at h3
        obtain ⟨t, t1, t2, t3⟩ := op_mt_in s nc (11 - (T + 1)) (T + 1) (op_ml s nc (op_st s)).2
        rw [t3] at h3
        have e := congrArg Int32.toInt h3
        rw [nI_toInt (by omega), nI_toInt (by omega)] at e
        omega
      · rw [if_neg hp] at h4
        obtain ⟨k, k1, k2, k3⟩ := op_ml_nn (s := s) nc hn (op_st s)
        have hk : k = 0 := by
          rw [k2, gt_iff_lt, Int32.lt_iff_toInt_lt, nI_toInt (by omega), show ((0 : Int32)).toInt = 0 from rfl] at hp
          omega
        have h5 : op_ones (op_ml s nc (op_st s)).2 nc 0 = 0 := (mx_ones_0 _ _ _).mpr (fun j _ hj => h4 j (by omega))
        exact (mx_ones_0 _ _ _).mp (by omega)
  rw [op_in_cn, (cn_0 s 1 nc 0).mpr key]
  rfl
