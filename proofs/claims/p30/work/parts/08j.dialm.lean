/-! THE LAW: what isDial asks, in the dial's own numbers -/
section ZDM
variable {s : ZSt} {nw nc c : Nat}
theorem dl_lines (hI : sI s nw nc) (hc : c < nc) (hd : sp_de s c ≠ -100009) : ol_lines s (nI c) 0 = zs_hl (sp_dial s c) ∧ ol_lines s (nI c) 1 = (zs_fl (sp_dial s c)).1 ∧ ol_lines s (nI c) 2 = (zs_fl (sp_dial s c)).2 := by
  have hn := hI.2.2.2.1
  have key : ∀ v : Int32, v ≥ 0 → v ≤ 2 → ol_lines s (nI c) v = if v ≠ 0 then (if v ≠ 1 then (zs_fl (sp_dial s c)).2 else (zs_fl (sp_dial s c)).1) else zs_hl (sp_dial s c) := by
    intro v h1 h2
    unfold ol_lines
    rw [hI.2.2.1, if_pos ⟨zn_in hc (by omega), h1, h2⟩, nI_clamp (by omega), if_neg hd]
  refine ⟨?_, ?_, ?_⟩
  · rw [key 0 (by decide) (by decide), if_neg (by decide)]
  · rw [key 1 (by decide) (by decide), if_pos (by decide), if_neg (by decide)]
  · rw [key 2 (by decide) (by decide), if_pos (by decide), if_pos (by decide)]
theorem dl_off (hI : sI s nw nc) (hc : c < nc) (hd : sp_de s c ≠ -100009) {i : Nat} (hi : i < 721) : ol_off s (nI c) (zs_t i) = sp_dial s c i := by
  have hn := hI.2.2.2.1
  have ht := zd_t_in hi
  unfold ol_off
  rw [hI.2.2.1, if_pos ⟨zn_in hc (by omega), by rw [ge_iff_le, Int32.le_iff_toInt_le, show ((-360 : Int32)).toInt = -360 from rfl]; omega, by rw [Int32.le_iff_toInt_le, show ((360 : Int32)).toInt = 360 from rfl]; omega⟩, nI_clamp (by omega), if_neg hd, zs_t_ix, nI_clamp (by omega)]
theorem dl_read (hI : sI s nw nc) (hc : c < nc) (hd : sp_de s c ≠ -100009) {o : Int32} (ho : -3000 ≤ o.toInt ∧ o.toInt ≤ 3000) : ol_read s (nI c) o 0 (-1) = zs_byL (sp_dial s c) o ∧ ol_read s (nI c) o 1 (-1) = zs_sh (sp_dial s c) o := by
  have hn := hI.2.2.2.1
  have h1 : o ≥ -3000 ∧ o ≤ 3000 := by
    rw [ge_iff_le, Int32.le_iff_toInt_le, Int32.le_iff_toInt_le, show ((-3000 : Int32)).toInt = -3000 from rfl, show ((3000 : Int32)).toInt = 3000 from rfl]
    exact ho
  refine ⟨?_, ?_⟩
  · unfold ol_read
    rw [hI.2.2.1, if_pos ⟨zn_in hc (by omega), h1, by decide, by decide⟩, nI_clamp (by omega), if_neg hd, if_pos (Or.inr rfl)]
    unfold ol_reading
    rw [if_neg (by decide), nI_clamp (by omega)]
  · unfold ol_read
    rw [hI.2.2.1, if_pos ⟨zn_in hc (by omega), h1, by decide, by decide⟩, nI_clamp (by omega), if_neg hd, if_pos (Or.inr rfl)]
    unfold ol_reading
    rw [if_pos (by decide), nI_clamp (by omega)]
theorem dl_readM (hI : sI s nw nc) (hc : c < nc) (hd : sp_de s c ≠ -100009) {o : Int32} (ho : -3000 ≤ o.toInt ∧ o.toInt ≤ 3000) {mo : Nat} (hm : mo < 12) (hr : zs_byL (sp_dial s c) o ≠ -100009) : ol_read s (nI c) o 0 (nI mo) = zs_byL (sp_dial s c) o + s (8 + mo) + s (38 + 8 * c + 3) := by
  have hn := hI.2.2.2.1
  have h1 : o ≥ -3000 ∧ o ≤ 3000 := by
    rw [ge_iff_le, Int32.le_iff_toInt_le, Int32.le_iff_toInt_le, show ((-3000 : Int32)).toInt = -3000 from rfl, show ((3000 : Int32)).toInt = 3000 from rfl]
    exact ho
  have h2 : nI mo ≥ -1 ∧ nI mo ≤ 11 := by
    rw [ge_iff_le, Int32.le_iff_toInt_le, Int32.le_iff_toInt_le, nI_toInt (by omega), show ((-1 : Int32)).toInt = -1 from rfl, show ((11 : Int32)).toInt = 11 from rfl]
    omega
  have h3 : ¬ nI mo = -1 := fun e => by
    have e2 := congrArg Int32.toInt e
    rw [nI_toInt (by omega), show ((-1 : Int32)).toInt = -1 from rfl] at e2
    omega
  have e : ol_reading s (nI c) o 0 = zs_byL (sp_dial s c) o := by
    unfold ol_reading
    rw [if_neg (by decide), nI_clamp (by omega)]
  unfold ol_read
  rw [hI.2.2.1, if_pos ⟨zn_in hc (by omega), h1, by decide, h2⟩, nI_clamp (by omega), if_neg hd, e, if_neg (fun q => q.elim hr h3), nI_clamp (by omega)]
theorem dl_apart (hI : sI s nw nc) (hc : c < nc) (hd : sp_de s c ≠ -100009) : ol_apart s (nI c) 0 = (zs_ap (sp_dial s c)).1 ∧ ol_apart s (nI c) 1 = (zs_ap (sp_dial s c)).2 := by
  have hn := hI.2.2.2.1
  refine ⟨?_, ?_⟩
  · unfold ol_apart
    rw [hI.2.2.1, if_pos ⟨zn_in hc (by omega), by decide, by decide⟩, nI_clamp (by omega), if_neg hd, if_pos rfl]
  · unfold ol_apart
    rw [hI.2.2.1, if_pos ⟨zn_in hc (by omega), by decide, by decide⟩, nI_clamp (by omega), if_neg hd, if_neg (by decide)]
theorem dl_corr {mo : Nat} (hm : mo < 12) : ol_corr s (nI mo) = s (8 + mo) := by
  unfold ol_corr
  rw [if_pos, nI_clamp (by omega)]
  rw [ge_iff_le, Int32.le_iff_toInt_le, Int32.le_iff_toInt_le, nI_toInt (by omega), show ((0 : Int32)).toInt = 0 from rfl, show ((11 : Int32)).toInt = 11 from rfl]
  omega
theorem dl_f (hI : sI s nw nc) (hc : c < nc) : -360 ≤ (4 * s (38 + 8 * c + 0)).toInt ∧ (4 * s (38 + 8 * c + 0)).toInt ≤ 360 := by
  have h1 := (hI.2.2.2.2.2.2.2 c hc).1
  have h2 := (zs_4 h1 (by omega) (by omega)).1
  obtain ⟨a, b⟩ := h1
  omega
theorem dl_d (hI : sI s nw nc) (hc : c < nc) (hd : sp_de s c ≠ -100009) : -360 ≤ (4 * sp_de s c).toInt ∧ (4 * sp_de s c).toInt ≤ 360 := by
  have h1 := sp_de_in hI hc hd
  have h2 := (zs_4 h1 (by omega) (by omega)).1
  obtain ⟨a, b⟩ := h1
  omega
theorem dl_fine (s : ZSt) (c : Nat) : zs_fine (sp_dial s c) := zs_dial_fine _ _ _
/-- noon, lines -/
theorem dl_first (hI : sI s nw nc) (hc : c < nc) (hd : sp_de s c ≠ -100009) : (zs_hl (sp_dial s c) < 0 → False) ∧ (zs_hl (sp_dial s c) > 13 → False) ∧ (zs_hl (sp_dial s c) = 0 → (zs_fl (sp_dial s c)).1 ≠ -100009 → False) ∧ (zs_hl (sp_dial s c) ≠ 0 → (zs_fl (sp_dial s c)).1 = -100009 → False) ∧ ((zs_fl (sp_dial s c)).2 < (zs_fl (sp_dial s c)).1 → False) ∧ (¬ sp_dial s c 360 = 0 → ¬ sp_dial s c 360 = -100009 → False) := by
  obtain ⟨⟨h1, h2⟩, h3, h4, -⟩ := zd_lines (sp_dial s c)
  refine ⟨fun h => ?_, fun h => ?_, fun a b => b (h3.mp a), fun a b => a (h3.mpr b), fun h => ?_, fun a b => a (zd_noon (dl_f hI hc) (dl_d hI hc hd) b)⟩
  · rw [Int32.lt_iff_toInt_lt, show ((0 : Int32)).toInt = 0 from rfl] at h
    omega
  · rw [gt_iff_lt, Int32.lt_iff_toInt_lt, show ((13 : Int32)).toInt = 13 from rfl] at h
    omega
  · rw [Int32.lt_iff_toInt_lt] at h
    omega
theorem dl_by (o : Int32) : (¬ zs_byL (sp_dial s c) o = -100009 → zs_byL (sp_dial s c) o < (zs_fl (sp_dial s c)).1 → False) ∧ (¬ zs_byL (sp_dial s c) o = -100009 → ¬ zs_byL (sp_dial s c) o ≤ (zs_fl (sp_dial s c)).2 → False) := by
  refine ⟨fun h h2 => ?_, fun h h2 => ?_⟩
  · have := zd_read (dl_fine s c) h
    rw [Int32.lt_iff_toInt_lt] at h2
    omega
  · have := zd_read (dl_fine s c) h
    rw [Int32.le_iff_toInt_le] at h2
    omega
theorem zd_sizes (a b : Int32) : zs_size (a - b) = a - b ∨ zs_size (a - b) = b - a := by
  unfold zs_size
  split
  · exact Or.inl rfl
  · exact Or.inr (Int32.neg_sub)
/-- apart, its time -/
theorem dl_ap (h : ¬ (zs_ap (sp_dial s c)).2 = -100009) : ∃ i, i < 721 ∧ (zs_ap (sp_dial s c)).2 = zs_t i ∧ sp_dial s c i ≠ -100009 ∧ (¬ zs_byL (sp_dial s c) (sp_dial s c i) - zs_t i = (zs_ap (sp_dial s c)).1 → ¬ zs_t i - zs_byL (sp_dial s c) (sp_dial s c i) = (zs_ap (sp_dial s c)).1 → False) := by
  obtain ⟨i, h1, h2, h3, h4⟩ := (zd_ap (sp_dial s c)).1 h
  refine ⟨i, h1, h2, h3.1, fun a b => ?_⟩
  rcases zd_sizes (zs_t i) (zs_byL (sp_dial s c) (sp_dial s c i)) with e | e
  · exact b (by rw [h4]; exact e.symm)
  · exact a (by rw [h4]; exact e.symm)
theorem dl_near {i : Nat} (hi : i < 721) (h0 : sp_dial s c i ≠ -100009) (h1 : ¬ zs_byL (sp_dial s c) (sp_dial s c i) = -100009) : (zs_byL (sp_dial s c) (sp_dial s c i) - zs_t i > (zs_ap (sp_dial s c)).1 → False) ∧ (¬ zs_t i - zs_byL (sp_dial s c) (sp_dial s c i) ≤ (zs_ap (sp_dial s c)).1 → False) := by
  have h2 := ((zd_ap (sp_dial s c)).2 i hi ⟨h0, h1⟩).2
  have h3 := zd_read (dl_fine s c) h1
  have ht := zd_t_in hi
  have e1 := zd_sub (a := zs_t i) (b := zs_byL (sp_dial s c) (sp_dial s c i)) (by omega) (by omega)
  have e2 := zd_sub (b := zs_t i) (a := zs_byL (sp_dial s c) (sp_dial s c i)) (by omega) (by omega)
  have hz := zd_size (v := zs_t i - zs_byL (sp_dial s c) (sp_dial s c i)) (by omega)
  unfold zd_d at h2
  refine ⟨fun h => ?_, fun h => ?_⟩
  · rw [gt_iff_lt, Int32.lt_iff_toInt_lt] at h
    by_cases hp : 0 ≤ (zs_t i - zs_byL (sp_dial s c) (sp_dial s c i)).toInt
    · have := hz.1 hp; omega
    · have := hz.2 (by omega); omega
  · rw [Int32.le_iff_toInt_le] at h
    by_cases hp : 0 ≤ (zs_t i - zs_byL (sp_dial s c) (sp_dial s c i)).toInt
    · have := hz.1 hp; omega
    · have := hz.2 (by omega); omega
theorem zs_t_neg {i : Nat} (hi : i < 721) : -zs_t i = zs_t (720 - i) := by
  apply Int32.toInt_inj.mp
  have h1 := zs_t_i (i := i) (by omega)
  have h2 := zs_t_i (i := 720 - i) (by omega)
  rw [Int32.toInt_neg, h1, h2, Int.bmod_eq_of_le (by omega) (by omega)]
  omega
theorem dl_mirror (hI : sI s nw nc) (hc : c < nc) (h0 : sp_de s c = 0) {i : Nat} (hi : i < 721) (h1 : ¬ sp_dial s c i = -100009) (h2 : ¬ sp_dial s c (720 - i) = -100009) : (sp_dial s c i + sp_dial s c (720 - i) > 1 → False) ∧ (¬ sp_dial s c i + sp_dial s c (720 - i) ≥ -1 → False) := by
  have hf := dl_f hI hc
  have a1 := dl_fine s c i h1
  have a2 := dl_fine s c (720 - i) h2
  have ea := zd_add (a := sp_dial s c i) (b := sp_dial s c (720 - i)) (by omega) (by omega)
  have key : 0 ≤ (sp_dial s c i).toInt + (sp_dial s c (720 - i)).toInt ∧ (sp_dial s c i).toInt + (sp_dial s c (720 - i)).toInt ≤ 1 := by
    unfold sp_dial at h1 h2 ⊢
    rw [h0, show (4 : Int32) * 0 = 0 from rfl] at h1 h2 ⊢
    exact zd_mirror hf hi h1 h2
  refine ⟨fun h => ?_, fun h => ?_⟩
  · rw [gt_iff_lt, Int32.lt_iff_toInt_lt, show ((1 : Int32)).toInt = 1 from rfl] at h
    omega
  · rw [ge_iff_le, Int32.le_iff_toInt_le, show ((-1 : Int32)).toInt = -1 from rfl] at h
    omega
theorem zs_t_le {i j : Nat} (h : j ≤ i) (hi : i < 721) : zs_t j > zs_t i → False := by
  have h1 := zs_t_i (i := i) (by omega)
  have h2 := zs_t_i (i := j) (by omega)
  rw [gt_iff_lt, Int32.lt_iff_toInt_lt]
  omega
end ZDM
