/-! THE CLASS: all of it against the reference's state -/
def sl (s : ZSt) (b : Nat) : ZSt := fun j => s (119 + 119 * b + j)
def rT (im : ZI) (B : Nat) (s : ZSt) : Prop := (∃ nw nc, sI s nw nc ∧ rS im (B + 1) s nw nc) ∧ ∀ b, b < 2 → im (B + 23) b = s (118 + 119 * b) ∧ (s (118 + 119 * b) = 0 ∨ (s (118 + 119 * b) = 1 ∧ ∃ nw nc, sI (sl s b) nw nc ∧ rS im (B + 24 + 21 * b) (sl s b) nw nc))
def zRg (im : ZI) (f n : Nat) (h : Nat → ZSt) : Prop := f < 6 ∧ im 67 1 = nI f ∧ n ≤ 5 ∧ im 67 2 = nI n ∧ ∀ i, i < n → rT im (69 + 66 * ((f + 6 - n + i) % 6)) (h i)
def zPg (im : ZI) (len : Nat) (tx : Nat → Int32) : Prop := im 465 2 = nI len ∧ len ≤ 140 ∧ (∀ j, j < len → im 466 j = tx j) ∧ tc tx len
def zX (im : ZI) (s : ZSt) (n : Nat) (h : Nat → ZSt) (len : Nat) (tx : Nat → Int32) : Prop := rT im 1 s ∧ (∃ f, zRg im f n h) ∧ zPg im len tx
theorem rS.cp {im im' : ZI} {b b' nw nc : Nat} {s : ZSt} (h : rS im b' s nw nc) (hw : nw ≤ 6) (hn : nc ≤ 10) (hc : ∀ r j, vv r j → im' (b + r) j = im (b' + r) j) : rS im' b s nw nc := by
  obtain ⟨⟨a1, a2, a3, a4⟩, h2, h3, h4, h5⟩ := h
  have c0 : ∀ j, 4 ≤ j → j < 8 → im' b j = im b' j := fun j x y => hc 0 j (Or.inl ⟨rfl, x, y⟩)
  refine ⟨⟨?_, ?_, ?_, ?_⟩, fun j hj => ?_, fun m hm => ?_, fun w hw2 => ?_, fun c hc2 f hf e => ?_⟩
  · rw [c0 4 (by omega) (by omega)]; exact a1
  · rw [c0 5 (by omega) (by omega)]; exact a2
  · rw [c0 6 (by omega) (by omega)]; exact a3
  · rw [c0 7 (by omega) (by omega)]; exact a4
  · rw [hc 3 j (by unfold vv; omega)]; exact h2 j hj
  · rw [hc 2 m (by unfold vv; omega)]; exact h3 m hm
  · rw [Nat.add_assoc, hc (5 + w) 0 (by unfold vv; omega), hc (5 + w) 1 (by unfold vv; omega), ← Nat.add_assoc]; exact h4 w hw2
  · rw [Nat.add_assoc, hc (11 + c) f (by unfold vv; omega), ← Nat.add_assoc]; exact h5 c hc2 f hf e
theorem rT.cp {im im' : ZI} {B B' : Nat} {s : ZSt} (h : rT im B' s) (hc : ∀ r j, vS r j → im' (B + r) j = im (B' + r) j) : rT im' B s := by
  obtain ⟨⟨nw, nc, hI, hr⟩, hs⟩ := h
  refine ⟨⟨nw, nc, hI, hr.cp hI.2.1 hI.2.2.2.1 (fun r j hv => ?_)⟩, fun b hb => ?_⟩
  · have hr21 := vv_21 hv
    have := hc (1 + r) j (Or.inl ⟨by omega, by omega, by rw [show 1 + r - 1 = r by omega]; exact hv⟩)
    rw [← Nat.add_assoc, ← Nat.add_assoc] at this
    exact this
  · obtain ⟨e1, e2⟩ := hs b hb
    refine ⟨by rw [hc 23 b (by unfold vS; omega)]; exact e1, ?_⟩
    rcases e2 with e2 | ⟨e2, nw2, nc2, hI2, hr2⟩
    · exact Or.inl e2
    · refine Or.inr ⟨e2, nw2, nc2, hI2, hr2.cp hI2.2.1 hI2.2.2.2.1 (fun r j hv => ?_)⟩
      have hr21 := vv_21 hv
      have hvs : vS (24 + 21 * b + r) j := by
        rcases (show b = 0 ∨ b = 1 by omega) with rfl | rfl
        · exact Or.inr (Or.inl ⟨by omega, by omega, by rw [show 24 + 21 * 0 + r - 24 = r by omega]; exact hv⟩)
        · exact Or.inr (Or.inr (Or.inl ⟨by omega, by omega, by rw [show 24 + 21 * 1 + r - 45 = r by omega]; exact hv⟩))
      have := hc (24 + 21 * b + r) j hvs
      rw [show B + (24 + 21 * b + r) = B + 24 + 21 * b + r by omega, show B' + (24 + 21 * b + r) = B' + 24 + 21 * b + r by omega] at this
      exact this
theorem rT.keep {im im' : ZI} {B : Nat} {s : ZSt} (h : rT im B s) (hc : ∀ k, B ≤ k → k < B + 66 → im' k = im k) : rT im' B s := h.cp (fun r j hv => by
  have : r < 66 := by
    rcases hv with ⟨_, h, _⟩ | ⟨_, h, _⟩ | ⟨_, h, _⟩ | ⟨h, _⟩ <;> omega
  rw [hc (B + r) (by omega) (by omega)])
theorem rT.act {im1 im2 : ZI} {s s' : ZSt} {nw' nc' : Nat} (h : rT im1 1 s) (hf : zFr im1 im2) (hr : rS im2 2 s' nw' nc') (hI : sI s' nw' nc') (hs : ∀ j, 118 ≤ j → s' j = s j) : rT im2 1 s' := by
  refine ⟨⟨nw', nc', hI, hr⟩, fun b hb => ?_⟩
  obtain ⟨e1, e2⟩ := h.2 b hb
  have esl : sl s' b = sl s b := by
    funext j
    unfold sl
    exact hs _ (by omega)
  rw [hs _ (by omega), hf (1 + 23) (by omega), esl]
  refine ⟨e1, ?_⟩
  rcases e2 with e2 | ⟨e2, nw2, nc2, hI2, hr2⟩
  · exact Or.inl e2
  · exact Or.inr ⟨e2, nw2, nc2, hI2, hr2.keep hI2.2.1 hI2.2.2.2.1 (fun k a _ => hf k (by omega))⟩
theorem rT.f01 {im : ZI} {B : Nat} {s : ZSt} (h : rT im B s) : ∀ j, j < 2 → im (B + 23) j = 0 ∨ im (B + 23) j = 1 := fun j hj => by
  obtain ⟨e1, e2⟩ := h.2 j hj
  rw [e1]
  rcases e2 with e2 | ⟨e2, -⟩
  · exact Or.inl e2
  · exact Or.inr e2
/-- the place that is free holds none of those kept -/
theorem zr_ne {f n i : Nat} (hf : f < 6) (hn : n ≤ 5) (hi : i < n) : (f + 6 - n + i) % 6 ≠ f ∧ (f + 6 - n + i) % 6 < 6 := by omega
/-- after the marking -/
theorem zX_mark {im im1 : ZI} {s : ZSt} {f n len : Nat} {h : Nat → ZSt} {tx : Nat → Int32} (hT : rT im 1 s) (hR : zRg im f n h) (hP : zPg im len tx) (hc : zCpS im im1 (69 + 66 * f) 1) : rT im1 1 s ∧ zRg im1 f n h ∧ zPg im1 len tx ∧ rT im1 (69 + 66 * f) s := by
  obtain ⟨hf, h1, hn, h2, h3⟩ := hR
  have o : ∀ q, (q < 69 + 66 * f ∨ 69 + 66 * f + 66 ≤ q) → im1 q = im q := hc.2
  refine ⟨hT.keep (fun k a b => o k (by omega)), ⟨hf, by rw [o 67 (by omega)]; exact h1, hn, by rw [o 67 (by omega)]; exact h2, fun i hi => ?_⟩, ?_, hT.cp hc.1⟩
  · have := zr_ne hf hn hi
    exact (h3 i hi).keep (fun k a b => o k (by omega))
  · obtain ⟨p1, p2, p3, p4⟩ := hP
    exact ⟨by rw [o 465 (by omega)]; exact p1, p2, fun j hj => by rw [o 466 (by omega)]; exact p3 j hj, p4⟩
/-- what is beyond the main shop, and the dial, stays -/
def zFd (im im' : ZI) : Prop := ∀ k, k < 2 ∨ 23 ≤ k → k ≠ 468 → k ≠ 469 → im' k = im k
theorem zFd.r {im1 im2 : ZI} {f n len : Nat} {h : Nat → ZSt} {tx : Nat → Int32} {s : ZSt} (hF : zFd im1 im2) (hR : zRg im1 f n h) (hP : zPg im1 len tx) (hM : rT im1 (69 + 66 * f) s) : zRg im2 f n h ∧ zPg im2 len tx ∧ rT im2 (69 + 66 * f) s := by
  obtain ⟨hf, h1, hn, h2, h3⟩ := hR
  obtain ⟨p1, p2, p3, p4⟩ := hP
  refine ⟨⟨hf, by rw [hF 67 (by omega) (by omega) (by omega)]; exact h1, hn, by rw [hF 67 (by omega) (by omega) (by omega)]; exact h2, fun i hi => ?_⟩, ⟨by rw [hF 465 (by omega) (by omega) (by omega)]; exact p1, p2, fun j hj => by rw [hF 466 (by omega) (by omega) (by omega)]; exact p3 j hj, p4⟩, hM.keep (fun k a b => hF k (by omega) (by omega) (by omega))⟩
  have := zr_ne hf hn hi
  exact (h3 i hi).keep (fun k a b => hF k (by omega) (by omega) (by omega))
/-- after the keeping -/
theorem zX_keep {im2 im3 : ZI} {s : ZSt} {f n : Nat} {h : Nat → ZSt} (hR : zRg im2 f n h) (hM : rT im2 (69 + 66 * f) s) (k1 : im3 67 1 = nI ((f + 1) % 6)) (k2 : im3 67 2 = nI (sh_n n)) (k3 : ∀ k, k ≠ 67 → im3 k = im2 k) : zRg im3 ((f + 1) % 6) (sh_n n) (sh_p n h s) := by
  obtain ⟨hf, h1, hn, h2, h3⟩ := hR
  have mv : ∀ {B : Nat} {t : ZSt}, 69 ≤ B → rT im2 B t → rT im3 B t := fun hB ht => ht.keep (fun k a _ => k3 k (by omega))
  unfold sh_n
  by_cases h5 : n = 5
  · rw [sh_n, if_pos h5] at k2
    rw [if_pos h5]
    refine ⟨by omega, k1, by omega, k2, fun i hi => ?_⟩
    unfold sh_p
    rw [if_pos h5]
    by_cases h4 : i = 4
    · rw [if_pos h4, show ((f + 1) % 6 + 6 - 5 + i) % 6 = f by omega]
      exact mv (by omega) hM
    · rw [if_neg h4, show ((f + 1) % 6 + 6 - 5 + i) % 6 = (f + 6 - n + (i + 1)) % 6 by omega]
      exact mv (by omega) (h3 (i + 1) (by omega))
  · rw [sh_n, if_neg h5] at k2
    rw [if_neg h5]
    refine ⟨by omega, k1, by omega, k2, fun i hi => ?_⟩
    unfold sh_p
    rw [if_neg h5]
    by_cases h4 : i = n
    · rw [if_pos h4, show ((f + 1) % 6 + 6 - (n + 1) + i) % 6 = f by omega]
      exact mv (by omega) hM
    · rw [if_neg h4, show ((f + 1) % 6 + 6 - (n + 1) + i) % 6 = (f + 6 - n + i) % 6 by omega]
      exact mv (by omega) (h3 i (by omega))
