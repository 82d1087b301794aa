/-! what always holds, held by every step -/
theorem u_eq (s : ZSt) (j : Nat) (v : Int32) : upd s j v j = v := by simp [upd]
theorem u_ne (s : ZSt) {j k : Nat} (v : Int32) (h : k ≠ j) : upd s j v k = s k := by simp [upd, h]
theorem sI_low {s s' : ZSt} {nw nc : Nat} (h : sI s nw nc) (hs : ∀ j, j < 118 → j ≠ 2 → j ≠ 3 → s' j = s j) : sI s' nw nc := by
  obtain ⟨h1, h2, h3, h4, h5, h6, h7, h8⟩ := h
  refine ⟨by rw [hs 0 (by decide) (by decide) (by decide)]; exact h1, h2, by rw [hs 1 (by decide) (by decide) (by decide)]; exact h3, h4, ?_, fun m hm => by rw [hs (8 + m) (by omega) (by omega) (by omega)]; exact h6 m hm, fun w hw => ?_, fun c hc => ?_⟩
  · rw [hs 4 (by decide) (by decide) (by decide), hs 5 (by decide) (by decide) (by decide), hs 6 (by decide) (by decide) (by decide), hs 7 (by decide) (by decide) (by decide)]
    exact h5
  · rw [hs (20 + 3 * w) (by omega) (by omega) (by omega), hs (20 + 3 * w + 1) (by omega) (by omega) (by omega), hs (20 + 3 * w + 2) (by omega) (by omega) (by omega)]
    exact h7 w hw
  · have := h8 c hc
    unfold sC at this ⊢
    rw [hs (38 + 8 * c + 0) (by omega) (by omega) (by omega), hs (38 + 8 * c + 1) (by omega) (by omega) (by omega), hs (38 + 8 * c + 2) (by omega) (by omega) (by omega), hs (38 + 8 * c + 3) (by omega) (by omega) (by omega), hs (38 + 8 * c + 4) (by omega) (by omega) (by omega), hs (38 + 8 * c + 5) (by omega) (by omega) (by omega)]
    exact this
/-- a part of one commission is written -/
theorem sI_com {s : ZSt} {nw nc c f : Nat} {v : Int32} (h : sI s nw nc) (hf : f < 8) (hn : sC nw (upd s (38 + 8 * c + f) v) c) : sI (upd s (38 + 8 * c + f) v) nw nc := by
  obtain ⟨h1, h2, h3, h4, h5, h6, h7, h8⟩ := h
  refine ⟨by rw [u_ne _ _ (by omega)]; exact h1, h2, by rw [u_ne _ _ (by omega)]; exact h3, h4, ?_, fun m hm => by rw [u_ne _ _ (by omega)]; exact h6 m hm, fun w hw => ?_, fun d hd => ?_⟩
  · rw [u_ne _ _ (by omega), u_ne _ _ (by omega), u_ne _ _ (by omega), u_ne _ _ (by omega)]
    exact h5
  · rw [u_ne _ _ (by omega), u_ne _ _ (by omega), u_ne _ _ (by omega)]
    exact h7 w hw
  · by_cases hdc : d = c
    · subst hdc
      exact hn
    · have := h8 d hd
      unfold sC at this ⊢
      rw [u_ne _ _ (by omega), u_ne _ _ (by omega), u_ne _ _ (by omega), u_ne _ _ (by omega), u_ne _ _ (by omega), u_ne _ _ (by omega)]
      exact this
/-- a commission's state is written -/
theorem sC_st {s : ZSt} {nw c : Nat} {v : Int32} (h : sC nw s c) (hv : sB 0 4 v) (hd : sB 1 3 v → sB (-60) 60 (s (38 + 8 * c + 5))) : sC nw (upd s (38 + 8 * c + 4) v) c := by
  unfold sC at h ⊢
  rw [u_ne _ _ (by omega), u_ne _ _ (by omega), u_ne _ _ (by omega), u_ne _ _ (by omega), u_eq, u_ne _ _ (by omega)]
  exact ⟨h.1, h.2.1, h.2.2.1, h.2.2.2.1, hv, hd⟩
theorem sC_5 {s : ZSt} {nw c : Nat} {v : Int32} (h : sC nw s c) (hv : sB (-60) 60 v) : sC nw (upd s (38 + 8 * c + 5) v) c := by
  unfold sC at h ⊢
  rw [u_ne _ _ (by omega), u_ne _ _ (by omega), u_ne _ _ (by omega), u_ne _ _ (by omega), u_ne _ _ (by omega), u_eq]
  exact ⟨h.1, h.2.1, h.2.2.1, h.2.2.2.1, h.2.2.2.2.1, fun _ => hv⟩
theorem sC_67 {s : ZSt} {nw c f : Nat} {v : Int32} (h : sC nw s c) (hf : f = 6 ∨ f = 7) : sC nw (upd s (38 + 8 * c + f) v) c := by
  unfold sC at h ⊢
  rw [u_ne _ _ (by omega), u_ne _ _ (by omega), u_ne _ _ (by omega), u_ne _ _ (by omega), u_ne _ _ (by omega), u_ne _ _ (by omega)]
  exact h
theorem sI_again {s : ZSt} {nw nc c : Nat} (h : sI s nw nc) (hc : c < nc) : sI (op_again s c) nw nc :=
  sI_com h (by omega) (sC_st (h.2.2.2.2.2.2.2 c hc) ⟨by decide, by decide⟩ (fun q => absurd q.1 (by decide)))
theorem sI_dec {s : ZSt} {nw nc c : Nat} (h : sI s nw nc) (hc : c < nc) : sI (op_dec s c) nw nc := by
  have hC := h.2.2.2.2.2.2.2 c hc
  unfold op_dec
  split
  · rename_i h0
    have hde : sp_de s c ≠ -100009 := fun q => by
      rw [sp_re, if_pos q] at h0
      exact absurd h0 (by decide)
    have h1 := sI_com h (f := 5) (by omega) (sC_5 hC (sp_de_in h hc hde))
    exact sI_com h1 (by omega) (sC_st (h1.2.2.2.2.2.2.2 c hc) ⟨by decide, by decide⟩ (fun _ => by rw [u_eq]; exact sp_de_in h hc hde))
  · have h1 := sI_com h (f := 7) (v := sp_re s c) (by omega) (sC_67 hC (Or.inr rfl))
    exact sI_com h1 (by omega) (sC_st (h1.2.2.2.2.2.2.2 c hc) ⟨by decide, by decide⟩ (fun q => absurd q.2 (by decide)))
theorem sI_del {s : ZSt} {nw nc c : Nat} (h : sI s nw nc) (hc : c < nc) (h2 : s (38 + 8 * c + 4) = 2) : sI (op_del s c) nw nc :=
  have hC := h.2.2.2.2.2.2.2 c hc
  sI_com h (by omega) (sC_st hC ⟨by decide, by decide⟩ (fun _ => hC.2.2.2.2.2 (by rw [h2]; exact ⟨by decide, by decide⟩)))
theorem sI_corr {s : ZSt} {nw nc k : Nat} {v : Int32} (h : sI s nw nc) (hk : k < 12) (hv : sB (-20) 20 v) : sI (upd s (8 + k) v) nw nc := by
  obtain ⟨h1, h2, h3, h4, h5, h6, h7, h8⟩ := h
  refine ⟨by rw [u_ne _ _ (by omega)]; exact h1, h2, by rw [u_ne _ _ (by omega)]; exact h3, h4, ?_, fun m hm => ?_, fun w hw => ?_, fun d hd => ?_⟩
  · rw [u_ne _ _ (by omega), u_ne _ _ (by omega), u_ne _ _ (by omega), u_ne _ _ (by omega)]
    exact h5
  · by_cases hmk : m = k
    · subst hmk
      rw [u_eq]
      exact hv
    · rw [u_ne _ _ (by omega)]
      exact h6 m hm
  · rw [u_ne _ _ (by omega), u_ne _ _ (by omega), u_ne _ _ (by omega)]
    exact h7 w hw
  · have := h8 d hd
    unfold sC at this ⊢
    rw [u_ne _ _ (by omega), u_ne _ _ (by omega), u_ne _ _ (by omega), u_ne _ _ (by omega), u_ne _ _ (by omega), u_ne _ _ (by omega)]
    exact this
theorem sI_set {s : ZSt} {nw nc k : Nat} {v : Int32} (h : sI s nw nc) (hk : k < 4) (h1v : v ≥ sp_least (nI k)) (h2v : v ≤ sp_most (nI k)) : sI (upd s (4 + k) v) nw nc := by
  obtain ⟨h1, h2, h3, h4, h5, h6, h7, h8⟩ := h
  have a1 := Int32.le_iff_toInt_le.mp h1v
  have a2 := Int32.le_iff_toInt_le.mp h2v
  refine ⟨by rw [u_ne _ _ (by omega)]; exact h1, h2, by rw [u_ne _ _ (by omega)]; exact h3, h4, ?_, fun m hm => ?_, fun w hw => ?_, fun d hd => ?_⟩
  · rcases (show k = 0 ∨ k = 1 ∨ k = 2 ∨ k = 3 by omega) with rfl | rfl | rfl | rfl
    · exact ⟨⟨a1, a2⟩, h5.2⟩
    · exact ⟨h5.1, ⟨a1, a2⟩, h5.2.2⟩
    · exact ⟨h5.1, h5.2.1, ⟨a1, a2⟩, h5.2.2.2⟩
    · exact ⟨h5.1, h5.2.1, h5.2.2.1, ⟨a1, a2⟩⟩
  · rw [u_ne _ _ (by omega)]
    exact h6 m hm
  · rw [u_ne _ _ (by omega), u_ne _ _ (by omega), u_ne _ _ (by omega)]
    exact h7 w hw
  · have := h8 d hd
    unfold sC at this ⊢
    rw [u_ne _ _ (by omega), u_ne _ _ (by omega), u_ne _ _ (by omega), u_ne _ _ (by omega), u_ne _ _ (by omega), u_ne _ _ (by omega)]
    exact this
theorem sI_wall {s : ZSt} {nw nc : Nat} (h : sI s nw nc) (hw : nw < 6) : sI (op_wall s nw) (nw + 1) nc := by
  obtain ⟨h1, h2, h3, h4, h5, h6, h7, h8⟩ := h
  have off : ∀ j, j ≠ 0 → j ≠ 20 + 3 * nw → j ≠ 20 + 3 * nw + 1 → j ≠ 20 + 3 * nw + 2 → op_wall s nw j = s j := fun j a b c d => by
    unfold op_wall
    rw [u_ne _ _ a, u_ne _ _ d, u_ne _ _ c, u_ne _ _ b]
  refine ⟨by unfold op_wall; rw [u_eq]; exact nI_1 nw, by omega, by rw [off 1 (by omega) (by omega) (by omega) (by omega)]; exact h3, h4, ?_, fun m hm => ?_, fun w hw2 => ?_, fun d hd => ?_⟩
  · rw [off 4 (by omega) (by omega) (by omega) (by omega), off 5 (by omega) (by omega) (by omega) (by omega), off 6 (by omega) (by omega) (by omega) (by omega), off 7 (by omega) (by omega) (by omega) (by omega)]
    exact h5
  · rw [off _ (by omega) (by omega) (by omega) (by omega)]
    exact h6 m hm
  · by_cases hwn : w = nw
    · subst hwn
      unfold op_wall
      left
      refine ⟨?_, ?_, ?_⟩
      · rw [u_ne _ _ (by omega), u_ne _ _ (by omega), u_ne _ _ (by omega), u_eq]
      · rw [u_ne _ _ (by omega), u_ne _ _ (by omega), u_eq]
      · rw [u_ne _ _ (by omega), u_eq]
    · rw [off _ (by omega) (by omega) (by omega) (by omega), off _ (by omega) (by omega) (by omega) (by omega), off _ (by omega) (by omega) (by omega) (by omega)]
      exact h7 w (by omega)
  · obtain ⟨c1, c2, c3⟩ := h8 d hd
    unfold sC
    rw [off _ (by omega) (by omega) (by omega) (by omega), off _ (by omega) (by omega) (by omega) (by omega), off _ (by omega) (by omega) (by omega) (by omega), off _ (by omega) (by omega) (by omega) (by omega), off _ (by omega) (by omega) (by omega) (by omega), off _ (by omega) (by omega) (by omega) (by omega)]
    refine ⟨c1, c2.imp id (fun ⟨k, hk, e⟩ => ⟨k, by omega, e⟩), c3⟩
theorem sI_meas {s : ZSt} {nw nc k : Nat} {v : Int32} (h : sI s nw nc) (hk : k < nw) (hv : sB (-60) 60 v) : sI (op_meas s k v) nw nc := by
  obtain ⟨h1, h2, h3, h4, h5, h6, h7, h8⟩ := h
  have off : ∀ j, j ≠ 20 + 3 * k → j ≠ 20 + 3 * k + 1 → j ≠ 20 + 3 * k + 2 → op_meas s k v j = s j := fun j b c d => by
    unfold op_meas
    rw [u_ne _ _ c, u_ne _ _ d, u_ne _ _ b]
  refine ⟨by rw [off 0 (by omega) (by omega) (by omega)]; exact h1, h2, by rw [off 1 (by omega) (by omega) (by omega)]; exact h3, h4, ?_, fun m hm => ?_, fun w hw2 => ?_, fun d hd => ?_⟩
  · rw [off 4 (by omega) (by omega) (by omega), off 5 (by omega) (by omega) (by omega), off 6 (by omega) (by omega) (by omega), off 7 (by omega) (by omega) (by omega)]
    exact h5
  · rw [off _ (by omega) (by omega) (by omega)]
    exact h6 m hm
  · by_cases hwn : w = k
    · subst hwn
      unfold op_meas
      rw [u_ne _ _ (by omega), u_ne _ _ (by omega), u_eq, u_eq, u_ne _ _ (by omega), u_eq]
      rcases h7 w hk with ⟨a, b, c⟩ | ⟨a, b, c⟩ | ⟨a, b, c⟩
      · right; left
        refine ⟨by rw [a]; rfl, hv, b⟩
      · right; right
        refine ⟨by rw [a]; rfl, hv, b⟩
      · right; right
        refine ⟨by rw [a]; rfl, hv, b⟩
    · rw [off _ (by omega) (by omega) (by omega), off _ (by omega) (by omega) (by omega), off _ (by omega) (by omega) (by omega)]
      exact h7 w hw2
  · have := h8 d hd
    unfold sC at this ⊢
    rw [off _ (by omega) (by omega) (by omega), off _ (by omega) (by omega) (by omega), off _ (by omega) (by omega) (by omega), off _ (by omega) (by omega) (by omega), off _ (by omega) (by omega) (by omega), off _ (by omega) (by omega) (by omega)]
    exact this
theorem sI_ask {s : ZSt} {nw nc : Nat} {la x sz lo : Int32} (h : sI s nw nc) (hn : nc < 10) (h1v : sB 10 70 la) (h2v : x = -1 ∨ ∃ k, k < nw ∧ x = nI k) (h3v : sB 10 60 sz) (h4v : sB (-60) 60 lo) : sI (op_ask s nc la x sz lo) nw (nc + 1) := by
  obtain ⟨h1, h2, h3, h4, h5, h6, h7, h8⟩ := h
  have off : ∀ j, j ≠ 1 → (j < 38 + 8 * nc ∨ 38 + 8 * nc + 7 < j) → op_ask s nc la x sz lo j = s j := fun j a b => by
    unfold op_ask
    rw [u_ne _ _ (by omega), u_ne _ _ (by omega), u_ne _ _ (by omega), u_ne _ _ (by omega), u_ne _ _ (by omega), u_ne _ _ (by omega), u_ne _ _ (by omega), u_ne _ _ (by omega), u_ne _ _ a]
  refine ⟨by rw [off 0 (by omega) (by omega)]; exact h1, h2, ?_, by omega, ?_, fun m hm => ?_, fun w hw2 => ?_, fun d hd => ?_⟩
  · unfold op_ask
    rw [u_ne _ _ (by omega), u_ne _ _ (by omega), u_ne _ _ (by omega), u_ne _ _ (by omega), u_ne _ _ (by omega), u_ne _ _ (by omega), u_ne _ _ (by omega), u_ne _ _ (by omega), u_eq]
    exact nI_1 nc
  · rw [off 4 (by omega) (by omega), off 5 (by omega) (by omega), off 6 (by omega) (by omega), off 7 (by omega) (by omega)]
    exact h5
  · rw [off _ (by omega) (by omega)]
    exact h6 m hm
  · rw [off _ (by omega) (by omega), off _ (by omega) (by omega), off _ (by omega) (by omega)]
    exact h7 w hw2
  · by_cases hdc : d = nc
    · subst hdc
      have e0 : op_ask s d la x sz lo (38 + 8 * d + 0) = la := by
        unfold op_ask
        rw [u_ne _ _ (by omega), u_ne _ _ (by omega), u_ne _ _ (by omega), u_ne _ _ (by omega), u_ne _ _ (by omega), u_ne _ _ (by omega), u_ne _ _ (by omega), u_eq]
      have e1 : op_ask s d la x sz lo (38 + 8 * d + 1) = x := by
        unfold op_ask
        rw [u_ne _ _ (by omega), u_ne _ _ (by omega), u_ne _ _ (by omega), u_ne _ _ (by omega), u_ne _ _ (by omega), u_ne _ _ (by omega), u_eq]
      have e2 : op_ask s d la x sz lo (38 + 8 * d + 2) = sz := by
        unfold op_ask
        rw [u_ne _ _ (by omega), u_ne _ _ (by omega), u_ne _ _ (by omega), u_ne _ _ (by omega), u_ne _ _ (by omega), u_eq]
      have e3 : op_ask s d la x sz lo (38 + 8 * d + 3) = lo := by
        unfold op_ask
        rw [u_ne _ _ (by omega), u_ne _ _ (by omega), u_ne _ _ (by omega), u_ne _ _ (by omega), u_eq]
      have e4 : op_ask s d la x sz lo (38 + 8 * d + 4) = 0 := by
        unfold op_ask
        rw [u_ne _ _ (by omega), u_ne _ _ (by omega), u_ne _ _ (by omega), u_eq]
      unfold sC
      rw [e0, e1, e2, e3, e4]
      exact ⟨h1v, h2v, h3v, h4v, ⟨by decide, by decide⟩, fun q => absurd q.1 (by decide)⟩
    · have := h8 d (by omega)
      unfold sC at this ⊢
      rw [off _ (by omega) (by omega), off _ (by omega) (by omega), off _ (by omega) (by omega), off _ (by omega) (by omega), off _ (by omega) (by omega), off _ (by omega) (by omega)]
      exact this
/-- what a melt takes was accepted -/
theorem op_mlG_was (wt : Nat → Int32) (lim : Int32) : ∀ (n c : Nat) (sm m : Int32) (st : Nat → Int32) (j : Nat), (op_mlG wt lim n c sm m st).2 j = st j ∨ (st j = 1 ∧ (op_mlG wt lim n c sm m st).2 j = 2) := by
  intro n
  induction n with
  | zero => intro c sm m st j; exact Or.inl rfl
  | succ n ih =>
    intro c sm m st j
    rw [op_mlG]
    split
    · rename_i h
      rcases ih (c + 1) (sm + wt c) (m + 1) (upd st c 2) j with e | ⟨e1, e2⟩
      · by_cases hj : j = c
        · subst hj
          rw [u_eq] at e
          exact Or.inr ⟨h.1, e⟩
        · rw [u_ne _ _ hj] at e
          exact Or.inl e
      · by_cases hj : j = c
        · subst hj
          rw [u_eq] at e1
          exact absurd e1 (by decide)
        · rw [u_ne _ _ hj] at e1
          exact Or.inr ⟨e1, e2⟩
    · exact ih (c + 1) sm m st j
theorem sI_caG {st : Nat → Int32} {nw nc : Nat} : ∀ (n c : Nat) (s : ZSt), c + n = nc → sI s nw nc → (∀ j, c ≤ j → j < nc → st j = s (38 + 8 * j + 4) ∨ s (38 + 8 * j + 4) = 1) → sI (op_caG st n c s) nw nc := by
  intro n
  induction n with
  | zero => intro c s _ h _; exact h
  | succ n ih =>
    intro c s hc h hst
    rw [op_caG]
    split
    · exact ih (c + 1) s (by omega) h (fun j a b => hst j (by omega) b)
    · rename_i h1
      have h2 : s (38 + 8 * c + 4) = 1 := (hst c (Nat.le_refl _) (by omega)).resolve_left h1
      have hC := h.2.2.2.2.2.2.2 c (by omega)
      refine ih (c + 1) _ (by omega) ?_ (fun j a b => ?_)
      · refine sI_low (s := upd (upd s (38 + 8 * c + 4) 2) (38 + 8 * c + 6) (s 2)) ?_ (fun j _ _ hj => u_ne _ _ hj)
        have i1 : sI (upd s (38 + 8 * c + 4) 2) nw nc := sI_com h (by omega) (sC_st hC ⟨by decide, by decide⟩ (fun _ => hC.2.2.2.2.2 (by rw [h2]; exact ⟨by decide, by decide⟩)))
        exact sI_com i1 (by omega) (sC_67 (i1.2.2.2.2.2.2.2 c (by omega)) (Or.inl rfl))
      · rw [u_ne _ _ (by omega), u_ne _ _ (by omega), u_ne _ _ (by omega)]
        exact hst j (by omega) b
theorem sI_cas {s : ZSt} {nw nc : Nat} (h : sI s nw nc) : sI (op_cas s nc) nw nc := by
  unfold op_cas
  refine sI_low (s := op_caG (op_ml s nc (op_st s)).2 nc 0 s) ?_ (fun j _ hj _ => u_ne _ _ hj)
  refine sI_caG nc 0 s (by omega) h (fun j _ _ => ?_)
  rcases op_mlG_was (sp_wt s) (s 7) nc 0 0 0 (op_st s) j with e | ⟨e, -⟩
  · exact Or.inl e
  · exact Or.inr e
