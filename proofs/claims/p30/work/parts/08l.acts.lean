/-! THE LAW: what an action of the law does -/
def aP (s : ZSt) (nc K : Nat) (f : Nat → (Nat → ZSt) → ZQ) (r : Int32) : Prop := (isErr r ∧ ∀ n h, f n h = (r, s, n, h)) ∨ (¬ isErr r ∧ ∃ s' nc', (∀ n h, f n h = (r, s', sh_n n, sh_p n h s)) ∧ (∀ j, 356 ≤ j → s' j = s j) ∧ s' 1 = nI nc' ∧ nc ≤ nc' ∧ nc' ≤ 10 ∧ sJ s' nc' (K + 1))
theorem op_caG_low {st : Nat → Int32} : ∀ (n c : Nat) (s : ZSt) (j : Nat), j < 38 → j ≠ 3 → op_caG st n c s j = s j := by
  intro n
  induction n with
  | zero => intro c s j _ _; rfl
  | succ n ih =>
    intro c s j h1 h2
    rw [op_caG]
    split
    · exact ih (c + 1) s j h1 h2
    · rw [ih (c + 1) _ j h1 h2, u_ne _ _ h2, u_ne _ _ (by omega), u_ne _ _ (by omega)]
theorem op_in_ge (s : ZSt) (nc : Nat) (st : Int32) (hn : nc ≤ 10) : op_in s nc st ≥ 0 := by
  have := cn_le s st nc 0
  rw [op_in_cn, ge_iff_le, Int32.le_iff_toInt_le, nI_toInt (by omega), show ((0 : Int32)).toInt = 0 from rfl]
  omega
theorem nI_ge0 {n : Nat} (h : n < 1000) : nI n ≥ 0 := by
  rw [ge_iff_le, Int32.le_iff_toInt_le, nI_toInt (by omega), show ((0 : Int32)).toInt = 0 from rfl]
  omega
theorem sB_nn {a b : Int} {x : Int32} (h : sB a b x) (ha : 0 ≤ a) : x ≥ 0 := by
  rw [ge_iff_le, Int32.le_iff_toInt_le, show ((0 : Int32)).toInt = 0 from rfl]
  have := h.1
  omega
section ZAP
variable {s : ZSt} {nw nc K : Nat}
theorem aP_corr (hI : sI s nw nc) (hJ : sJ s nc K) (x v : Int32) : ∃ r, aP s nc K (fun n h => ox_corr s n h x v) r := by
  have hn := hI.2.2.2.1
  by_cases h : (x ≥ 0 ∧ x ≤ 11) ∧ v ≥ -20 ∧ v ≤ 20
  · obtain ⟨k, hk, rfl⟩ := zs_within (n := 12) (by omega) h.1
    refine ⟨s (8 + k), Or.inr ⟨ne_err (by have := (hI.2.2.2.2.2.1 k hk).1; omega), upd s (8 + k) v, nc, fun n h' => ?_, fun j hj => u_ne _ _ (by omega), by rw [u_ne _ _ (by omega)]; exact hI.2.2.1, Nat.le_refl _, hn, sJ_le (sJ_corr hJ hn hk) (by omega)⟩⟩
    dsimp only
    unfold ox_corr
    rw [if_pos h, nI_clamp (by omega)]
  · refine ⟨-100001, Or.inl ⟨Or.inl rfl, fun n h' => ?_⟩⟩
    dsimp only
    unfold ox_corr
    rw [if_neg h]
theorem aP_set (hI : sI s nw nc) (hJ : sJ s nc K) (x v : Int32) : ∃ r, aP s nc K (fun n h => ox_set s n h x v) r := by
  have hn := hI.2.2.2.1
  by_cases h : (x ≥ 0 ∧ x ≤ 3) ∧ v ≥ sp_least x ∧ v ≤ sp_most x
  · obtain ⟨k, hk, rfl⟩ := zs_within (n := 4) (by omega) h.1
    obtain ⟨⟨a4, a5, a6, a7⟩, -⟩ := hI.2.2.2.2
    have hr : ¬ isErr (s (4 + k)) := by
      rcases (show k = 0 ∨ k = 1 ∨ k = 2 ∨ k = 3 by omega) with rfl | rfl | rfl | rfl
      · exact ne_err0 (sB_nn a4 (by omega))
      · exact ne_err0 (sB_nn a5 (by omega))
      · exact ne_err0 (sB_nn a6 (by omega))
      · exact ne_err0 (sB_nn a7 (by omega))
    refine ⟨s (4 + k), Or.inr ⟨hr, upd s (4 + k) v, nc, fun n h' => ?_, fun j hj => u_ne _ _ (by omega), by rw [u_ne _ _ (by omega)]; exact hI.2.2.1, Nat.le_refl _, hn, sJ_le (sJ_set hJ hn hk) (by omega)⟩⟩
    dsimp only
    unfold ox_set
    rw [if_pos h, nI_clamp (by omega)]
  · refine ⟨-100001, Or.inl ⟨Or.inl rfl, fun n h' => ?_⟩⟩
    dsimp only
    unfold ox_set
    rw [if_neg h]
theorem aP_wall (hI : sI s nw nc) (hJ : sJ s nc K) : ∃ r, aP s nc K (fun n h => ox_wall s n h nw) r := by
  have hn := hI.2.2.2.1
  have hw := hI.2.1
  by_cases h : op_cWall s ≥ 0
  · have hk := op_cWall_ok hI.1 hw h
    refine ⟨nI nw, Or.inr ⟨ne_err0 (nI_ge0 (by omega)), op_wall s nw, nc, fun n h' => ?_, fun j hj => ?_, ?_, Nat.le_refl _, hn, sJ_le (sJ_wall hJ hn hk) (by omega)⟩⟩
    · dsimp only
      unfold ox_wall
      rw [if_pos h]
    · unfold op_wall
      rw [u_ne _ _ (by omega), u_ne _ _ (by omega), u_ne _ _ (by omega), u_ne _ _ (by omega)]
    · unfold op_wall
      rw [u_ne _ _ (by omega), u_ne _ _ (by omega), u_ne _ _ (by omega), u_ne _ _ (by omega)]
      exact hI.2.2.1
  · refine ⟨op_cWall s, Or.inl ⟨cWall_err h, fun n h' => ?_⟩⟩
    dsimp only
    unfold ox_wall
    rw [if_neg h]
theorem aP_meas (hI : sI s nw nc) (hJ : sJ s nc K) (x v : Int32) : ∃ r, aP s nc K (fun n h => ox_meas s n h x v) r := by
  have hn := hI.2.2.2.1
  have hw := hI.2.1
  by_cases h : op_cMeas s x v ≥ 0
  · obtain ⟨k, hk, rfl, -⟩ := op_cMeas_ok hI.1 hw h
    refine ⟨op_rMeas s k v, Or.inr ⟨ne_err0 (by unfold op_rMeas; split <;> decide), op_meas s k v, nc, fun n h' => ?_, fun j hj => ?_, ?_, Nat.le_refl _, hn, sJ_le (sJ_meas hJ hn (by omega)) (by omega)⟩⟩
    · dsimp only
      unfold ox_meas
      rw [if_pos h, nI_clamp (by omega)]
    · unfold op_meas
      rw [u_ne _ _ (by omega), u_ne _ _ (by omega), u_ne _ _ (by omega)]
    · unfold op_meas
      rw [u_ne _ _ (by omega), u_ne _ _ (by omega), u_ne _ _ (by omega)]
      exact hI.2.2.1
  · refine ⟨op_cMeas s x v, Or.inl ⟨cMeas_err h, fun n h' => ?_⟩⟩
    dsimp only
    unfold ox_meas
    rw [if_neg h]
theorem aP_ask (hI : sI s nw nc) (hJ : sJ s nc K) (la x sz lo : Int32) : ∃ r, aP s nc K (fun n h => ox_ask s n h nc la x sz lo) r := by
  have hn := hI.2.2.2.1
  by_cases h : op_cAsk s la x sz lo ≥ 0
  · obtain ⟨hk, -⟩ := op_cAsk_ok hI.1 hI.2.1 hI.2.2.1 hn h
    refine ⟨nI nc, Or.inr ⟨ne_err0 (nI_ge0 (by omega)), op_ask s nc la x sz lo, nc + 1, fun n h' => ?_, fun j hj => op_ask_ne (by omega) (by omega), ?_, by omega, by omega, sJ_le (sJ_ask hJ hk) (by omega)⟩⟩
    · dsimp only
      unfold ox_ask
      rw [if_pos h]
    · unfold op_ask
      rw [u_ne _ _ (by omega), u_ne _ _ (by omega), u_ne _ _ (by omega), u_ne _ _ (by omega), u_ne _ _ (by omega), u_ne _ _ (by omega), u_ne _ _ (by omega), u_ne _ _ (by omega), u_eq, nI_1]
  · refine ⟨op_cAsk s la x sz lo, Or.inl ⟨cAsk_err h, fun n h' => ?_⟩⟩
    dsimp only
    unfold ox_ask
    rw [if_neg h]
theorem aP_dec (hI : sI s nw nc) (hJ : sJ s nc K) (x : Int32) : ∃ r, aP s nc K (fun n h => ox_dec s n h x) r ∧ (¬ isErr r → r = ol_reason s x) := by
  have hn := hI.2.2.2.1
  by_cases h : op_cSt s x 0 ≥ 0
  · obtain ⟨c, hc, rfl, h4⟩ := op_cSt_ok hI.2.2.1 hn h
    refine ⟨sp_re s c, Or.inr ⟨ne_err0 (sp_re_ge s c), op_dec s c, nc, fun n h' => ?_, fun j hj => ?_, ?_, Nat.le_refl _, hn, sJ_le (sJ_dec hJ hn hc h4) (by omega)⟩, fun _ => ?_⟩
    · dsimp only
      unfold ox_dec
      rw [if_pos h, nI_clamp (by omega)]
    · unfold op_dec
      split
      · rw [u_ne _ _ (by omega), u_ne _ _ (by omega)]
      · rw [u_ne _ _ (by omega), u_ne _ _ (by omega)]
    · unfold op_dec
      split
      · rw [u_ne _ _ (by omega), u_ne _ _ (by omega)]
        exact hI.2.2.1
      · rw [u_ne _ _ (by omega), u_ne _ _ (by omega)]
        exact hI.2.2.1
    · unfold ol_reason
      rw [hI.2.2.1, if_pos (zn_in hc (by omega)), nI_clamp (by omega)]
  · refine ⟨op_cSt s x 0, Or.inl ⟨cSt_err h, fun n h' => ?_⟩, fun e => absurd (cSt_err h) e⟩
    dsimp only
    unfold ox_dec
    rw [if_neg h]
theorem aP_again (hI : sI s nw nc) (hJ : sJ s nc K) (x : Int32) : ∃ r, aP s nc K (fun n h => ox_again s n h x) r := by
  have hn := hI.2.2.2.1
  by_cases h : op_cSt s x 4 ≥ 0
  · obtain ⟨c, hc, rfl, h4⟩ := op_cSt_ok hI.2.2.1 hn h
    refine ⟨sp_re (op_again s c) c, Or.inr ⟨ne_err0 (sp_re_ge _ c), op_again s c, nc, fun n h' => ?_, fun j hj => ?_, ?_, Nat.le_refl _, hn, sJ_le (sJ_again hJ hn hc h4) (by omega)⟩⟩
    · dsimp only
      unfold ox_again
      rw [if_pos h, nI_clamp (by omega)]
    · unfold op_again
      rw [u_ne _ _ (by omega)]
    · unfold op_again
      rw [u_ne _ _ (by omega)]
      exact hI.2.2.1
  · refine ⟨op_cSt s x 4, Or.inl ⟨cSt_err h, fun n h' => ?_⟩⟩
    dsimp only
    unfold ox_again
    rw [if_neg h]
theorem aP_del (hI : sI s nw nc) (hJ : sJ s nc K) (x : Int32) : ∃ r, aP s nc K (fun n h => ox_del s n h nc x) r := by
  have hn := hI.2.2.2.1
  by_cases h : op_cSt s x 2 ≥ 0
  · obtain ⟨c, hc, rfl, h4⟩ := op_cSt_ok hI.2.2.1 hn h
    refine ⟨op_in (op_del s c) nc 3, Or.inr ⟨ne_err0 (op_in_ge _ _ _ hn), op_del s c, nc, fun n h' => ?_, fun j hj => ?_, ?_, Nat.le_refl _, hn, sJ_le (sJ_del hJ hn hc h4) (by omega)⟩⟩
    · dsimp only
      unfold ox_del
      rw [if_pos h, nI_clamp (by omega)]
    · unfold op_del
      rw [u_ne _ _ (by omega)]
    · unfold op_del
      rw [u_ne _ _ (by omega)]
      exact hI.2.2.1
  · refine ⟨op_cSt s x 2, Or.inl ⟨cSt_err h, fun n h' => ?_⟩⟩
    dsimp only
    unfold ox_del
    rw [if_neg h]
theorem op_ml_nn (nc : Nat) (hn : nc ≤ 10) (st : Nat → Int32) : ∃ k, k ≤ nc ∧ (op_ml s nc st).1 = nI k ∧ op_ones (op_ml s nc st).2 nc 0 + k = op_ones st nc 0 := by
  obtain ⟨k, h1, h2, h3⟩ := op_ml_ones (sp_wt s) (s 7) nc 0 0 0 st
  rw [Int32.zero_add] at h1
  exact ⟨k, h2, h1, h3⟩
theorem op_cas_1 (s : ZSt) (nc : Nat) : op_cas s nc 1 = s 1 := by
  unfold op_cas
  rw [u_ne _ _ (by omega), op_caG_low _ _ _ _ (by omega) (by omega)]
theorem aP_cas (hI : sI s nw nc) (hJ : sJ s nc K) : ∃ r, aP s nc K (fun n h => ox_cas s n h nc) r := by
  have hn := hI.2.2.2.1
  by_cases h : op_cCas s nc ≥ 0
  · obtain ⟨k, k1, k2, -⟩ := op_ml_nn (s := s) nc hn (op_st s)
    refine ⟨(op_ml s nc (op_st s)).1, Or.inr ⟨ne_err0 (by rw [k2]; exact nI_ge0 (by omega)), op_cas s nc, nc, fun n h' => ?_, fun j hj => ?_, by rw [op_cas_1]; exact hI.2.2.1, Nat.le_refl _, hn, sJ_cas hJ hn⟩⟩
    · dsimp only
      unfold ox_cas
      rw [if_pos h]
    · unfold op_cas
      rw [u_ne _ _ (by omega), op_caG_far _ _ _ _ (by omega) (by omega)]
  · refine ⟨op_cCas s nc, Or.inl ⟨cCas_err h, fun n h' => ?_⟩⟩
    dsimp only
    unfold ox_cas
    rw [if_neg h]
theorem aP_take (hI : sI s nw nc) (hJ : sJ s nc K) (x : Int32) : ∃ r, aP s nc K (fun n h => ox_take s n h x) r := by
  have hn := hI.2.2.2.1
  by_cases h : x ≥ 0 ∧ x ≤ 1
  · obtain ⟨b, hb, rfl⟩ := zs_within (n := 2) (by omega) h
    refine ⟨s 1, Or.inr ⟨ne_err0 (by rw [hI.2.2.1]; exact nI_ge0 (by omega)), op_take s b, nc, fun n h' => ?_, fun j hj => ?_, ?_, Nat.le_refl _, hn, sJ_le (sJ_take hJ hn) (by omega)⟩⟩
    · dsimp only
      unfold ox_take
      rw [if_pos h, nI_clamp (by omega)]
    · unfold op_take
      rw [if_neg (by omega), if_neg (by omega)]
    · unfold op_take
      rw [if_neg (by omega), if_neg (by omega)]
      exact hI.2.2.1
  · refine ⟨-100001, Or.inl ⟨Or.inl rfl, fun n h' => ?_⟩⟩
    dsimp only
    unfold ox_take
    rw [if_neg h]
/-- every action of the law -/
theorem aP_all (hI : sI s nw nc) (hJ : sJ s nc K) (v : Int32) : ∃ r, aP s nc K (fun n h => aq s n h nw nc v) r ∧ (v &&& 15 = 9 → ¬ isErr r → r = ol_reason s (lw (sr v 4) (s 1 + 1))) := by
  obtain ⟨k, hk, hx⟩ := pk_andE v (m := 15) 4 (by decide)
  have hxc : (v &&& 15).toNatClampNeg = k := by rw [hx]; exact nI_clamp (by omega)
  have h9 : v &&& 15 = 9 → k = 9 := fun e => by
    rw [hx] at e
    have e2 := congrArg Int32.toInt e
    rw [nI_toInt (by omega), show ((9 : Int32)).toInt = 9 from rfl] at e2
    omega
  unfold aq
  rw [hxc]
  have wk : ∀ {f : Nat → (Nat → ZSt) → ZQ}, (∃ r, aP s nc K f r) → k ≠ 9 → ∃ r, aP s nc K f r ∧ (v &&& 15 = 9 → ¬ isErr r → r = ol_reason s (lw (sr v 4) (s 1 + 1))) := fun ⟨r, hr⟩ hk9 => ⟨r, hr, fun e => absurd (h9 e) hk9⟩
  rcases (show k = 0 ∨ k = 1 ∨ k = 2 ∨ k = 3 ∨ k = 4 ∨ k = 5 ∨ k = 6 ∨ k = 7 ∨ k = 8 ∨ k = 9 ∨ k = 10 ∨ k = 11 ∨ k = 12 ∨ k = 13 ∨ k = 14 ∨ k = 15 by omega) with rfl | rfl | rfl | rfl | rfl | rfl | rfl | rfl | rfl | rfl | rfl | rfl | rfl | rfl | rfl | rfl
  · exact wk (aP_corr hI hJ _ _) (by omega)
  · exact wk (aP_set hI hJ _ _) (by omega)
  · exact wk (aP_set hI hJ _ _) (by omega)
  · exact wk (aP_set hI hJ _ _) (by omega)
  · exact wk (aP_wall hI hJ) (by omega)
  · exact wk (aP_meas hI hJ _ _) (by omega)
  · exact wk (aP_meas hI hJ _ _) (by omega)
  · exact wk (aP_ask hI hJ _ _ _ _) (by omega)
  · exact wk (aP_ask hI hJ _ _ _ _) (by omega)
  · obtain ⟨r, h1, h2⟩ := aP_dec hI hJ (lw (sr v 4) (s 1 + 1))
    exact ⟨r, h1, fun _ => h2⟩
  · obtain ⟨r, h1, -⟩ := aP_dec hI hJ (lw (sr v 4) (s 1 + 1))
    exact wk ⟨r, h1⟩ (by omega)
  · exact wk (aP_again hI hJ _) (by omega)
  · exact wk (aP_cas hI hJ) (by omega)
  · exact wk (aP_del hI hJ _) (by omega)
  · exact wk (aP_set hI hJ _ _) (by omega)
  · exact wk (aP_take hI hJ _) (by omega)
end ZAP
