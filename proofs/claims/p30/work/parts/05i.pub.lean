/-! THE REFERENCE: its public actions -/
abbrev ZQ : Type := Int32 × ZSt × Nat × (Nat → ZSt)
def ox_corr (s : ZSt) (n : Nat) (h : Nat → ZSt) (x v : Int32) : ZQ := if (x ≥ 0 ∧ x ≤ 11) ∧ v ≥ -20 ∧ v ≤ 20 then (s (8 + x.toNatClampNeg), upd s (8 + x.toNatClampNeg) v, sh_n n, sh_p n h s) else (-100001, s, n, h)
def ox_set (s : ZSt) (n : Nat) (h : Nat → ZSt) (x v : Int32) : ZQ := if (x ≥ 0 ∧ x ≤ 3) ∧ v ≥ sp_least x ∧ v ≤ sp_most x then (s (4 + x.toNatClampNeg), upd s (4 + x.toNatClampNeg) v, sh_n n, sh_p n h s) else (-100001, s, n, h)
def ox_wall (s : ZSt) (n : Nat) (h : Nat → ZSt) (nw : Nat) : ZQ := if op_cWall s ≥ 0 then (nI nw, op_wall s nw, sh_n n, sh_p n h s) else (op_cWall s, s, n, h)
def ox_meas (s : ZSt) (n : Nat) (h : Nat → ZSt) (x v : Int32) : ZQ := if op_cMeas s x v ≥ 0 then (op_rMeas s x.toNatClampNeg v, op_meas s x.toNatClampNeg v, sh_n n, sh_p n h s) else (op_cMeas s x v, s, n, h)
def ox_ask (s : ZSt) (n : Nat) (h : Nat → ZSt) (nc : Nat) (la x sz lo : Int32) : ZQ := if op_cAsk s la x sz lo ≥ 0 then (nI nc, op_ask s nc la x sz lo, sh_n n, sh_p n h s) else (op_cAsk s la x sz lo, s, n, h)
def ox_dec (s : ZSt) (n : Nat) (h : Nat → ZSt) (x : Int32) : ZQ := if op_cSt s x 0 ≥ 0 then (sp_re s x.toNatClampNeg, op_dec s x.toNatClampNeg, sh_n n, sh_p n h s) else (op_cSt s x 0, s, n, h)
def ox_again (s : ZSt) (n : Nat) (h : Nat → ZSt) (x : Int32) : ZQ := if op_cSt s x 4 ≥ 0 then (sp_re (op_again s x.toNatClampNeg) x.toNatClampNeg, op_again s x.toNatClampNeg, sh_n n, sh_p n h s) else (op_cSt s x 4, s, n, h)
def ox_cas (s : ZSt) (n : Nat) (h : Nat → ZSt) (nc : Nat) : ZQ := if op_cCas s nc ≥ 0 then ((op_ml s nc (op_st s)).1, op_cas s nc, sh_n n, sh_p n h s) else (op_cCas s nc, s, n, h)
def ox_del (s : ZSt) (n : Nat) (h : Nat → ZSt) (nc : Nat) (x : Int32) : ZQ := if op_cSt s x 2 ≥ 0 then (op_in (op_del s x.toNatClampNeg) nc 3, op_del s x.toNatClampNeg, sh_n n, sh_p n h s) else (op_cSt s x 2, s, n, h)
theorem op_cSt_ok {s : ZSt} {x st : Int32} {nc : Nat} (h1 : s 1 = nI nc) (hn : nc ≤ 10) (h : op_cSt s x st ≥ 0) : ∃ c, c < nc ∧ x = nI c ∧ s (38 + 8 * c + 4) = st := by
  unfold op_cSt at h
  split at h
  · rename_i h2
    rw [h1] at h2
    obtain ⟨k, hk, ek⟩ := zs_within (n := nc) (by omega) h2
    split at h
    · rename_i h3
      rw [ek, nI_clamp (by omega)] at h3
      exact ⟨k, hk, ek, h3⟩
    · exact absurd h (by decide)
  · exact absurd h (by decide)
theorem op_cMeas_ok {s : ZSt} {x v : Int32} {nw : Nat} (h0 : s 0 = nI nw) (hn : nw ≤ 6) (h : op_cMeas s x v ≥ 0) : ∃ k, k < nw ∧ x = nI k ∧ sB (-60) 60 v := by
  unfold op_cMeas at h
  split at h
  · rename_i h2
    obtain ⟨h3, h4, h5⟩ := h2
    rw [h0] at h3
    obtain ⟨k, hk, ek⟩ := zs_within (n := nw) (by omega) h3
    refine ⟨k, hk, ek, ?_, ?_⟩
    · have := Int32.le_iff_toInt_le.mp h4
      simpa using this
    · have := Int32.le_iff_toInt_le.mp h5
      simpa using this
  · exact absurd h (by decide)
theorem op_cWall_ok {s : ZSt} {nw : Nat} (h0 : s 0 = nI nw) (hn : nw ≤ 6) (h : op_cWall s ≥ 0) : nw < 6 := by
  unfold op_cWall at h
  split at h
  · exact absurd h (by decide)
  · rename_i h2
    by_cases h6 : nw = 6
    · exact absurd (by rw [h0, h6]; rfl) h2
    · omega
section ZPUB
variable {G : ZG} {l : Launch}
theorem op_cAsk_ok {s : ZSt} {la x sz lo : Int32} {nw nc : Nat} (h0 : s 0 = nI nw) (hw : nw ≤ 6) (h1 : s 1 = nI nc) (hn : nc ≤ 10) (h : op_cAsk s la x sz lo ≥ 0) : nc < 10 ∧ sB 10 70 la ∧ (x = -1 ∨ ∃ k, k < nw ∧ x = nI k) ∧ sB 10 60 sz ∧ sB (-60) 60 lo := by
  unfold op_cAsk at h
  split at h
  · rename_i h2
    obtain ⟨a, b, c, d⟩ := h2
    have iv : ∀ {a b : Int32} {y : Int32}, y ≥ a ∧ y ≤ b → a.toInt ≤ y.toInt ∧ y.toInt ≤ b.toInt := fun q => ⟨Int32.le_iff_toInt_le.mp q.1, Int32.le_iff_toInt_le.mp q.2⟩
    refine ⟨?_, iv a, ?_, iv c, iv d⟩
    · split at h
      · exact absurd h (by decide)
      · rename_i h3
        by_cases h10 : nc = 10
        · exact absurd (by rw [h1, h10]; rfl) h3
        · omega
    · rcases b with b | b
      · exact Or.inl b
      · rw [h0] at b
        exact Or.inr (zs_within (n := nw) (by omega) b)
  · exact absurd h (by decide)
end ZPUB
