/-! MATH: what the law's addsUp asks of a state, held by every step -/
abbrev cA (s : ZSt) (c : Nat) : Prop := s (38 + 8 * c + 4) = 2 ∨ s (38 + 8 * c + 4) = 3
def kg (s : ZSt) : Nat → Int32
  | 0 => 0
  | n + 1 => kg s n + (if cA s n then sp_wt s n else 0)
def sK (s : ZSt) (Q c : Nat) : Prop := (cA s c → ∃ q, q < Q ∧ s (38 + 8 * c + 6) = nI q) ∧ (¬ cA s c → s (38 + 8 * c + 6) = -100009) ∧ (s (38 + 8 * c + 4) = 4 → s (38 + 8 * c + 7) ≠ 0)
def sJq (s : ZSt) (nc Q : Nat) : Prop := s 3 = kg s nc ∧ ∀ c, c < nc → sK s Q c
def sJ (s : ZSt) (nc K : Nat) : Prop := ∃ Q, Q ≤ K ∧ s 2 = nI Q ∧ sJq s nc Q
theorem sp_wt_eq {s s' : ZSt} {c : Nat} (h : s' (38 + 8 * c + 2) = s (38 + 8 * c + 2)) : sp_wt s' c = sp_wt s c := by
  unfold sp_wt
  rw [h]
theorem kg_eq {s s' : ZSt} : ∀ n : Nat, (∀ c, c < n → (cA s' c ↔ cA s c) ∧ s' (38 + 8 * c + 2) = s (38 + 8 * c + 2)) → kg s' n = kg s n := by
  intro n
  induction n with
  | zero => intro _; rfl
  | succ n ih =>
    intro h
    rw [kg, kg, ih (fun c hc => h c (by omega)), sp_wt_eq (h n (by omega)).2]
    have h1 := (h n (by omega)).1
    by_cases hc : cA s n
    · rw [if_pos hc, if_pos (h1.mpr hc)]
    · rw [if_neg hc, if_neg (fun e => hc (h1.mp e))]
theorem kg_add {s s' : ZSt} {c : Nat} (h1 : cA s' c) (h2 : ¬ cA s c) : ∀ n : Nat, c < n → (∀ j, j < n → (j ≠ c → (cA s' j ↔ cA s j)) ∧ s' (38 + 8 * j + 2) = s (38 + 8 * j + 2)) → kg s' n = kg s n + sp_wt s c := by
  intro n
  induction n with
  | zero => intro h; exact absurd h (by omega)
  | succ n ih =>
    intro hc h
    rw [kg, kg]
    by_cases e : c = n
    · subst e
      rw [if_pos h1, if_neg h2, kg_eq c (fun j hj => ⟨(h j (by omega)).1 (by omega), (h j (by omega)).2⟩), sp_wt_eq (h c (by omega)).2, Int32.add_zero]
    · have h3 := (h n (by omega)).1 (by omega)
      rw [ih (by omega) (fun j hj => h j (by omega)), sp_wt_eq (h n (by omega)).2]
      by_cases hn : cA s n
      · rw [if_pos hn, if_pos (h3.mpr hn), Int32.add_assoc, Int32.add_assoc, Int32.add_comm (sp_wt s c)]
      · rw [if_neg hn, if_neg (fun e => hn (h3.mp e)), Int32.add_zero, Int32.add_zero]
theorem sK_eq {s s' : ZSt} {Q c : Nat} (h : sK s Q c) (h4 : s' (38 + 8 * c + 4) = s (38 + 8 * c + 4)) (h6 : s' (38 + 8 * c + 6) = s (38 + 8 * c + 6)) (h7 : s' (38 + 8 * c + 7) = s (38 + 8 * c + 7)) : sK s' Q c := by
  unfold sK cA
  rw [h4, h6, h7]
  exact h
theorem sK_le {s : ZSt} {Q Q' c : Nat} (h : sK s Q c) (hQ : Q ≤ Q') : sK s Q' c :=
  ⟨fun a => by obtain ⟨q, h1, h2⟩ := h.1 a; exact ⟨q, by omega, h2⟩, h.2.1, h.2.2⟩
theorem sJ_le {s : ZSt} {nc K K' : Nat} (h : sJ s nc K) (hK : K ≤ K') : sJ s nc K' := by
  obtain ⟨Q, h1, h2⟩ := h
  exact ⟨Q, by omega, h2⟩
/-- what writes neither castings nor commissions -/
theorem sJ_same {s s' : ZSt} {nc K : Nat} (h : sJ s nc K) (hn : nc ≤ 10) (hs : ∀ j, j = 2 ∨ j = 3 ∨ 38 ≤ j ∧ j < 118 → s' j = s j) : sJ s' nc K := by
  obtain ⟨Q, h1, h2, h3, h4⟩ := h
  refine ⟨Q, h1, by rw [hs 2 (by omega)]; exact h2, ?_, fun c hc => sK_eq (h4 c hc) (hs _ (by omega)) (hs _ (by omega)) (hs _ (by omega))⟩
  rw [hs 3 (by omega), h3]
  refine (kg_eq nc (fun c hc => ⟨?_, hs _ (by omega)⟩)).symm
  unfold cA
  rw [hs _ (by omega)]
/-- what writes one commission, neither cast before nor then, or both -/
theorem sJ_com {s s' : ZSt} {nc c K : Nat} (h : sJ s nc K) (hn : nc ≤ 10) (hc : c < nc) (hs : ∀ j, j < 118 → j ≠ 38 + 8 * c + 4 → j ≠ 38 + 8 * c + 5 → j ≠ 38 + 8 * c + 7 → s' j = s j) (hA : cA s' c ↔ cA s c) (h7 : s' (38 + 8 * c + 4) = 4 → s' (38 + 8 * c + 7) ≠ 0) : sJ s' nc K := by
  obtain ⟨Q, h1, h2, h3, h4⟩ := h
  refine ⟨Q, h1, by rw [hs 2 (by omega) (by omega) (by omega) (by omega)]; exact h2, ?_, fun j hj => ?_⟩
  · rw [hs 3 (by omega) (by omega) (by omega) (by omega), h3]
    refine (kg_eq nc (fun j hj => ⟨?_, hs _ (by omega) (by omega) (by omega) (by omega)⟩)).symm
    by_cases e : j = c
    · subst e; exact hA
    · unfold cA
      rw [hs _ (by omega) (by omega) (by omega) (by omega)]
  · by_cases e : j = c
    · subst e
      obtain ⟨a1, a2, -⟩ := h4 j hj
      refine ⟨fun a => ?_, fun a => ?_, h7⟩
      · rw [hs _ (by omega) (by omega) (by omega) (by omega)]
        exact a1 (hA.mp a)
      · rw [hs _ (by omega) (by omega) (by omega) (by omega)]
        exact a2 (fun b => a (hA.mpr b))
    · exact sK_eq (h4 j hj) (hs _ (by omega) (by omega) (by omega) (by omega)) (hs _ (by omega) (by omega) (by omega) (by omega)) (hs _ (by omega) (by omega) (by omega) (by omega))
theorem sJ_corr {s : ZSt} {nc k K : Nat} {v : Int32} (h : sJ s nc K) (hn : nc ≤ 10) (hk : k < 12) : sJ (upd s (8 + k) v) nc K := sJ_same h hn (fun j hj => u_ne _ _ (by omega))
theorem sJ_set {s : ZSt} {nc k K : Nat} {v : Int32} (h : sJ s nc K) (hn : nc ≤ 10) (hk : k < 4) : sJ (upd s (4 + k) v) nc K := sJ_same h hn (fun j hj => u_ne _ _ (by omega))
theorem sJ_wall {s : ZSt} {nw nc K : Nat} (h : sJ s nc K) (hn : nc ≤ 10) (hw : nw < 6) : sJ (op_wall s nw) nc K := sJ_same h hn (fun j hj => by
  unfold op_wall
  rw [u_ne _ _ (by omega), u_ne _ _ (by omega), u_ne _ _ (by omega), u_ne _ _ (by omega)])
theorem sJ_meas {s : ZSt} {k nc K : Nat} {v : Int32} (h : sJ s nc K) (hn : nc ≤ 10) (hk : k < 6) : sJ (op_meas s k v) nc K := sJ_same h hn (fun j hj => by
  unfold op_meas
  rw [u_ne _ _ (by omega), u_ne _ _ (by omega), u_ne _ _ (by omega)])
theorem sJ_take {s : ZSt} {b nc K : Nat} (h : sJ s nc K) (hn : nc ≤ 10) : sJ (op_take s b) nc K := sJ_same h hn (fun j hj => by
  unfold op_take
  rw [if_neg (by omega), if_neg (by omega)])
theorem sJ_again {s : ZSt} {c nc K : Nat} (h : sJ s nc K) (hn : nc ≤ 10) (hc : c < nc) (h4 : s (38 + 8 * c + 4) = 4) : sJ (op_again s c) nc K := by
  refine sJ_com h hn hc (fun j _ h1 _ _ => by unfold op_again; exact u_ne _ _ h1) ?_ ?_
  · unfold cA op_again
    rw [u_eq, h4]
    decide
  · unfold op_again
    rw [u_eq]
    intro e
    exact absurd e (by decide)
theorem sJ_del {s : ZSt} {c nc K : Nat} (h : sJ s nc K) (hn : nc ≤ 10) (hc : c < nc) (h4 : s (38 + 8 * c + 4) = 2) : sJ (op_del s c) nc K := by
  refine sJ_com h hn hc (fun j _ h1 _ _ => by unfold op_del; exact u_ne _ _ h1) ?_ ?_
  · unfold cA op_del
    rw [u_eq, h4]
    decide
  · unfold op_del
    rw [u_eq]
    intro e
    exact absurd e (by decide)
theorem sJ_dec {s : ZSt} {c nc K : Nat} (h : sJ s nc K) (hn : nc ≤ 10) (hc : c < nc) (h4 : s (38 + 8 * c + 4) = 0) : sJ (op_dec s c) nc K := by
  unfold op_dec
  split
  · refine sJ_com h hn hc (fun j _ h1 h2 _ => by rw [u_ne _ _ h1, u_ne _ _ h2]) ?_ ?_
    · unfold cA
      rw [u_eq, h4]
      decide
    · rw [u_eq]
      intro e
      exact absurd e (by decide)
  · rename_i hr
    refine sJ_com h hn hc (fun j _ h1 _ h3 => by rw [u_ne _ _ h1, u_ne _ _ h3]) ?_ ?_
    · unfold cA
      rw [u_eq, h4]
      decide
    · intro _
      rw [u_ne _ _ (by omega), u_eq]
      exact hr
theorem op_ask_ne {s : ZSt} {c j : Nat} {la x sz lo : Int32} (h1 : j ≠ 1) (h : j < 38 + 8 * c ∨ 38 + 8 * c + 8 ≤ j) : op_ask s c la x sz lo j = s j := by
  unfold op_ask
  rw [u_ne _ _ (by omega), u_ne _ _ (by omega), u_ne _ _ (by omega), u_ne _ _ (by omega), u_ne _ _ (by omega), u_ne _ _ (by omega), u_ne _ _ (by omega), u_ne _ _ (by omega), u_ne _ _ (by omega)]
theorem op_ask_4 {s : ZSt} {c : Nat} {la x sz lo : Int32} : op_ask s c la x sz lo (38 + 8 * c + 4) = 0 ∧ op_ask s c la x sz lo (38 + 8 * c + 6) = -100009 := by
  unfold op_ask
  refine ⟨?_, ?_⟩
  · rw [u_ne _ _ (by omega), u_ne _ _ (by omega), u_ne _ _ (by omega), u_eq]
  · rw [u_ne _ _ (by omega), u_eq]
theorem sJ_ask {s : ZSt} {nc K : Nat} {la x sz lo : Int32} (h : sJ s nc K) (hn : nc < 10) : sJ (op_ask s nc la x sz lo) (nc + 1) K := by
  obtain ⟨Q, h1, h2, h3, h4⟩ := h
  obtain ⟨e4, e6⟩ := op_ask_4 (s := s) (c := nc) (la := la) (x := x) (sz := sz) (lo := lo)
  have hA : ¬ cA (op_ask s nc la x sz lo) nc := by
    unfold cA
    rw [e4]
    decide
  refine ⟨Q, h1, by rw [op_ask_ne (by omega) (by omega)]; exact h2, ?_, fun j hj => ?_⟩
  · rw [op_ask_ne (by omega) (by omega), h3, kg, if_neg hA, Int32.add_zero]
    refine (kg_eq nc (fun j hj => ⟨?_, op_ask_ne (by omega) (by omega)⟩)).symm
    unfold cA
    rw [op_ask_ne (by omega) (by omega)]
  · by_cases e : j = nc
    · subst e
      exact ⟨fun a => absurd a hA, fun _ => e6, fun a => by rw [e4] at a; exact absurd a (by decide)⟩
    · exact sK_eq (h4 j (by omega)) (op_ask_ne (by omega) (by omega)) (op_ask_ne (by omega) (by omega)) (op_ask_ne (by omega) (by omega))
theorem sJ_caG {st : Nat → Int32} {nc Q : Nat} (hn : nc ≤ 10) : ∀ (n c : Nat) (s : ZSt), c + n = nc → s 2 = nI Q → sJq s nc (Q + 1) → (∀ j, c ≤ j → j < nc → st j = s (38 + 8 * j + 4) ∨ (s (38 + 8 * j + 4) = 1 ∧ st j = 2)) → sJq (op_caG st n c s) nc (Q + 1) ∧ op_caG st n c s 2 = nI Q := by
  intro n
  induction n with
  | zero => intro c s _ h2 h _; exact ⟨h, h2⟩
  | succ n ih =>
    intro c s hc h2 h hst
    rw [op_caG]
    split
    · exact ih (c + 1) s (by omega) h2 h (fun j hj hj2 => hst j (by omega) hj2)
    · rename_i hne
      have h1 : s (38 + 8 * c + 4) = 1 := by
        rcases hst c (Nat.le_refl _) (by omega) with e | ⟨e, -⟩
        · exact absurd e hne
        · exact e
      have o : ∀ j, j ≠ 3 → j ≠ 38 + 8 * c + 4 → j ≠ 38 + 8 * c + 6 → upd (upd (upd s (38 + 8 * c + 4) 2) (38 + 8 * c + 6) (s 2)) 3 (s 3 + sp_wt s c) j = s j := fun j a b d => by rw [u_ne _ _ a, u_ne _ _ d, u_ne _ _ b]
      have o4 : upd (upd (upd s (38 + 8 * c + 4) 2) (38 + 8 * c + 6) (s 2)) 3 (s 3 + sp_wt s c) (38 + 8 * c + 4) = 2 := by rw [u_ne _ _ (by omega), u_ne _ _ (by omega), u_eq]
      have o6 : upd (upd (upd s (38 + 8 * c + 4) 2) (38 + 8 * c + 6) (s 2)) 3 (s 3 + sp_wt s c) (38 + 8 * c + 6) = s 2 := by rw [u_ne _ _ (by omega), u_eq]
      have o3 : upd (upd (upd s (38 + 8 * c + 4) 2) (38 + 8 * c + 6) (s 2)) 3 (s 3 + sp_wt s c) 3 = s 3 + sp_wt s c := u_eq _ _ _
      generalize upd (upd (upd s (38 + 8 * c + 4) 2) (38 + 8 * c + 6) (s 2)) 3 (s 3 + sp_wt s c) = s1 at o o4 o6 o3 ⊢
      refine ih (c + 1) s1 (by omega) (by rw [o 2 (by omega) (by omega) (by omega)]; exact h2) ⟨?_, fun j hj => ?_⟩ (fun j hj hj2 => ?_)
      · rw [o3, h.1]
        refine (kg_add (c := c) (Or.inl o4) (by unfold cA; rw [h1]; decide) nc (by omega) (fun j hj => ⟨fun hne2 => ?_, o _ (by omega) (by omega) (by omega)⟩)).symm
        unfold cA
        rw [o _ (by omega) (by omega) (by omega)]
      · by_cases e : j = c
        · subst e
          refine ⟨fun _ => ⟨Q, by omega, by rw [o6, h2]⟩, fun a => absurd (Or.inl o4) a, fun a => ?_⟩
          rw [o4] at a
          exact absurd a (by decide)
        · exact sK_eq (h.2 j hj) (o _ (by omega) (by omega) (by omega)) (o _ (by omega) (by omega) (by omega)) (o _ (by omega) (by omega) (by omega))
      · rw [o _ (by omega) (by omega) (by omega)]
        exact hst j (by omega) hj2
theorem sJ_cas {s : ZSt} {nc K : Nat} (h : sJ s nc K) (hn : nc ≤ 10) : sJ (op_cas s nc) nc (K + 1) := by
  obtain ⟨Q, h1, h2, h3, h4⟩ := h
  obtain ⟨⟨k1, k2⟩, k3⟩ := sJ_caG (st := (op_ml s nc (op_st s)).2) (nc := nc) (Q := Q) hn nc 0 s (by omega) h2 ⟨h3, fun c hc => sK_le (h4 c hc) (by omega)⟩ (fun j _ _ => op_mlG_was (sp_wt s) (s 7) nc 0 0 0 (op_st s) j)
  refine ⟨Q + 1, by omega, ?_, ?_, fun c hc => ?_⟩
  · unfold op_cas
    rw [u_eq, k3, nI_1]
  · unfold op_cas
    rw [u_ne _ _ (by omega), k1]
    refine (kg_eq nc (fun c hc => ⟨?_, u_ne _ _ (by omega)⟩)).symm
    unfold cA
    rw [u_ne _ _ (by omega)]
  · unfold op_cas
    exact sK_eq (k2 c hc) (u_ne _ _ (by omega)) (u_ne _ _ (by omega)) (u_ne _ _ (by omega))
theorem sJ_0 : sJ zS0 0 0 := ⟨0, Nat.le_refl _, rfl, rfl, fun c hc => absurd hc (by omega)⟩
