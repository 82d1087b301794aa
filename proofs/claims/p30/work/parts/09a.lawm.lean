/-! THE LAW: between its calls -/
theorem nI_same {a b : Nat} (h : nI a = nI b) (ha : a < 1000) (hb : b < 1000) : a = b := by
  have e := congrArg Int32.toInt h
  rw [nI_toInt (by omega), nI_toInt (by omega)] at e
  omega
theorem sI_nc {s : ZSt} {nw nc nw' nc' : Nat} (h : sI s nw nc) (h' : sI s nw' nc') : nw' = nw ∧ nc' = nc :=
  ⟨nI_same (h'.1.symm.trans h.1) (by have := h'.2.1; omega) (by have := h.2.1; omega), nI_same (h'.2.2.1.symm.trans h.2.2.1) (by have := h'.2.2.2.1; omega) (by have := h.2.2.2.1; omega)⟩
theorem zY_same {im : ZI} {s : ZSt} {n nw nc : Nat} {h : Nat → ZSt} (hX : zX im s n h 0 (fun _ => 0)) (hI : sI s nw nc) : zY im s n h nw nc := by
  obtain ⟨nw', nc', hY⟩ := zY_of hX
  obtain ⟨rfl, rfl⟩ := sI_nc hI hY.2.1
  exact hY
section ZAN
variable {s : ZSt} {n nw nc K : Nat} {h : Nat → ZSt} {im' : ZI} {r r0 : Int32}
/-- behind an action of any kind -/
theorem aP_any {f : Nat → (Nat → ZSt) → ZQ} (hI : sI s nw nc) (hJ : sJ s nc K) (hP : aP s nc K f r0) (hq : zAQ im' r (f n h)) : ∃ s' n' h' nw' nc', zY im' s' n' h' nw' nc' ∧ sJ s' nc' (K + 1) ∧ nc ≤ nc' := by
  rcases hP with ⟨-, e⟩ | ⟨-, s', nc', e, -, e1, h1, h2, h3⟩
  · rw [e n h] at hq
    exact ⟨s, n, h, nw, nc, zY_same hq.2 hI, sJ_le hJ (by omega), Nat.le_refl _⟩
  · rw [e n h] at hq
    obtain ⟨nw2, nc2, hY⟩ := zY_of hq.2
    have e2 : nc2 = nc' := nI_same (hY.2.1.2.2.1.symm.trans e1) (by have := hY.2.1.2.2.2.1; omega) (by omega)
    subst e2
    exact ⟨s', sh_n n, sh_p n h s, nw2, nc2, hY, h3, h1⟩
/-- what is put into the history comes back -/
theorem sh_back (n : Nat) (h : Nat → ZSt) (s : ZSt) : sh_n n ≠ 0 ∧ sh_p n h s (sh_n n - 1) = s := by
  unfold sh_n sh_p
  by_cases hn : n = 5
  · rw [if_pos hn]
    refine ⟨by omega, ?_⟩
    rw [if_pos hn, if_pos rfl]
  · rw [if_neg hn]
    refine ⟨by omega, ?_⟩
    rw [if_neg hn, if_pos (by omega)]
theorem undo_back {s' : ZSt} (hs : ∀ j, 356 ≤ j → s' j = s j) : ox_undo s' (sh_n n) (sh_p n h s) = (nI (sh_n n - 1), s, sh_n n - 1, sh_p n h s) := by
  obtain ⟨h1, h2⟩ := sh_back n h s
  unfold ox_undo
  rw [if_neg h1, h2]
  have e : (fun j => if j < 356 then s j else s' j) = s := by
    funext j
    by_cases hj : j < 356
    · rw [if_pos hj]
    · rw [if_neg hj]
      exact hs j (by omega)
  rw [e]
/-- refused calls -/
theorem rf_ask (lo : Int32) : ox_ask s n h nc 71 (-1) 20 lo = (-100001, s, n, h) := by
  have e : op_cAsk s 71 (-1) 20 lo = -100001 := by
    unfold op_cAsk
    rw [if_neg (fun q => absurd q.1.2 (by decide))]
  unfold ox_ask
  rw [e, if_neg (by decide)]
theorem rf_meas (hI : sI s nw nc) (v : Int32) : ox_meas s n h 6 v = (-100001, s, n, h) := by
  have e : op_cMeas s 6 v = -100001 := by
    unfold op_cMeas
    rw [hI.1, if_neg (fun q => zn_out (c := 6) (n := nw) hI.2.1 (by omega) q.1)]
  unfold ox_meas
  rw [e, if_neg (by decide)]
theorem rf_dec (hI : sI s nw nc) : ox_dec s n h 10 = (-100001, s, n, h) := by
  have e : op_cSt s 10 0 = -100001 := by
    unfold op_cSt
    rw [hI.2.2.1, if_neg (c := (10 : Int32) ≥ 0 ∧ (10 : Int32) ≤ nI nc - 1) (fun q => zn_out (c := 10) (n := nc) hI.2.2.2.1 (by omega) q)]
  unfold ox_dec
  rw [e, if_neg (by decide)]
theorem rf_corr (v : Int32) : ox_corr s n h 12 v = (-100001, s, n, h) := by
  unfold ox_corr
  rw [if_neg (fun q => absurd q.1.2 (by decide))]
theorem rf_best : ol_best 61 = -100001 := by
  unfold ol_best
  rw [if_neg (by decide), if_neg (by decide)]
/-- a commission without a dial -/
theorem rf_lines {c : Nat} (hI : sI s nw nc) (hc : c < nc) (hd : sp_de s c = -100009) : ol_lines s (nI c) 0 = -100002 ∧ ol_reason s (nI c) = 1 := by
  have hn := hI.2.2.2.1
  refine ⟨?_, ?_⟩
  · unfold ol_lines
    rw [hI.2.2.1, if_pos ⟨zn_in hc (by omega), by decide, by decide⟩, nI_clamp (by omega), if_pos hd]
  · unfold ol_reason
    rw [hI.2.2.1, if_pos (zn_in hc (by omega)), nI_clamp (by omega)]
    unfold sp_re
    rw [if_pos hd]
/-- the first commission is taken down -/
theorem ok_ask {la sz lo : Int32} (hI : sI s nw 0) (h1 : 10 ≤ la.toInt ∧ la.toInt ≤ 70) (h2 : 10 ≤ sz.toInt ∧ sz.toInt ≤ 60) (h3 : -60 ≤ lo.toInt ∧ lo.toInt ≤ 60) : ox_ask s n h 0 la (-1) sz lo = (nI 0, op_ask s 0 la (-1) sz lo, sh_n n, sh_p n h s) := by
  have e : op_cAsk s la (-1) sz lo = 0 := by
    unfold op_cAsk
    rw [if_pos, if_neg]
    · rw [hI.2.2.1]; decide
    · refine ⟨?_, Or.inl rfl, ?_, ?_⟩
      · rw [ge_iff_le, Int32.le_iff_toInt_le, Int32.le_iff_toInt_le, show ((10 : Int32)).toInt = 10 from rfl, show ((70 : Int32)).toInt = 70 from rfl]; omega
      · rw [ge_iff_le, Int32.le_iff_toInt_le, Int32.le_iff_toInt_le, show ((10 : Int32)).toInt = 10 from rfl, show ((60 : Int32)).toInt = 60 from rfl]; omega
      · rw [ge_iff_le, Int32.le_iff_toInt_le, Int32.le_iff_toInt_le, show ((-60 : Int32)).toInt = -60 from rfl, show ((60 : Int32)).toInt = 60 from rfl]; omega
  unfold ox_ask
  rw [e, if_pos (by decide)]
theorem lw_plus {v : Int32} {d a : Nat} (h0 : 0 < d) (hd : d < 1000) (ha : a < 1000) : (a : Int) ≤ (nI a + lw v (nI d)).toInt ∧ (nI a + lw v (nI d)).toInt < a + d := by
  obtain ⟨r, hr, e⟩ := lw_in v (d := d) h0 (by omega)
  rw [e, nI_add, nI_toInt (by omega)]
  omega
theorem lw_minus {v : Int32} {d a : Nat} (h0 : 0 < d) (hd : d < 1000) (ha : a < 1000) : -(a : Int) ≤ (lw v (nI d) - nI a).toInt ∧ (lw v (nI d) - nI a).toInt < d - a := by
  obtain ⟨r, hr, e⟩ := lw_in v (d := d) h0 (by omega)
  have e2 := zd_sub (a := nI r) (b := nI a) (by rw [nI_toInt (by omega)]; omega) (by rw [nI_toInt (by omega)]; omega)
  rw [nI_toInt (by omega), nI_toInt (by omega)] at e2
  rw [e, e2]
  omega
end ZAN
/-- the start -/
theorem zY_0 {im : ZI} (hX : zXi im) : zY im zS0 0 (fun _ => zS0) 0 0 := by
  obtain ⟨x2, x4, x5, x24, x67, x465⟩ := hX
  have hr : rS im 2 zS0 0 0 := by
    refine ⟨⟨?_, ?_, ?_, ?_⟩, fun j hj => ?_, fun m hm => ?_, fun w hw => absurd hw (by omega), fun c hc => absurd hc (by omega)⟩
    · rw [x2]; rfl
    · rw [x2]; rfl
    · rw [x2]; rfl
    · rw [x2]; rfl
    · show im 5 j = _
      rw [x5 j hj]
      rcases (show j = 0 ∨ j = 1 ∨ j = 2 ∨ j = 3 by omega) with rfl | rfl | rfl | rfl <;> rfl
    · show im 4 m = _
      rw [x4, zS0_far (by omega)]
  refine ⟨⟨⟨⟨0, 0, sI_0, hr⟩, fun b hb => ?_⟩, ⟨0, by omega, ?_, by omega, ?_, fun i hi => absurd hi (by omega)⟩, ?_, by omega, fun j hj => absurd hj (by omega), fun j hj => absurd hj (by omega)⟩, sI_0, hr⟩
  · have e : zS0 (118 + 119 * b) = 0 := zS0_far (by omega)
    refine ⟨?_, Or.inl e⟩
    show im 24 b = _
    rw [x24, e]
  · rw [x67]; rfl
  · rw [x67]; rfl
  · rw [x465]; rfl
