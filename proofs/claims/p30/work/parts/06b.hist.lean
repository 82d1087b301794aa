/-! THE CLASS: copies of states, the history -/
abbrev vS (r j : Nat) : Prop := (1 ≤ r ∧ r < 22 ∧ vv (r - 1) j) ∨ (24 ≤ r ∧ r < 45 ∧ vv (r - 24) j) ∨ (45 ≤ r ∧ r < 66 ∧ vv (r - 45) j) ∨ (r = 23 ∧ j < 2)
def zCpS (im im' : ZI) (B B' : Nat) : Prop := (∀ r j, vS r j → im' (B + r) j = im (B' + r) j) ∧ ∀ q, (q < B ∨ B + 66 ≤ q) → im' q = im q
theorem vp_nar01 {x : Int32} (h : x = 0 ∨ x = 1) : vp_nar .boolean x = x := by
  rcases h with rfl | rfl <;> rfl
theorem vv_21 {r j : Nat} (h : vv r j) : r < 21 := by
  unfold vv at h
  omega
section ZHIS
variable {G : ZG} {l : Launch}
set_option maxHeartbeats 4000000 in
theorem cx_stateCopy (B B' : Nat) (im : ZI) (hL : zStL B) (hL' : zStL B') (hb : B + 66 ≤ B' ∨ B' + 66 ≤ B) (h01 : ∀ j, j < 2 → im (B' + 23) j = 0 ∨ im (B' + 23) j = 1) : zz_OV G l 2 mX5_copyFrom [.ref B, .ref B'] zE im (fun im' => zCpS im im' B B') := by
  obtain ⟨l1, l2, l3, l4, l5, l6, l7, l8, l9, l10⟩ := hL
  obtain ⟨m1, m2, m3, m4, m5, m6, m7, m8, m9, m10⟩ := hL'
  have hbE : B < 470 := by omega
  have hbE' : B' < 470 := by omega
  refine zz_intro (isI := false) (by decide) rfl (Nat.le_of_ble_eq_true rfl) (fun h => by cases h) (fun w S => ?_)
  refine zz_aload_0 S dX5_copyFrom_0 (q := 1) rfl ?_
  refine zz_getR S fX5_12 rfl hbE l2 l5 dX5_copyFrom_1 (q := 4) rfl ?_
  refine zz_aload_1 S dX5_copyFrom_4 (q := 5) rfl ?_
  refine zz_getR S fX5_12 rfl hbE' m2 m5 dX5_copyFrom_5 (q := 8) rfl ?_
  -- at 8: invokevirtual 26
  refine zz_virtV S yy_X4_copyFrom lX5_26 (ci := 4) (by decide) rfl (cx_shopCopy (B + 1) (B' + 1) im l9 m9 (by omega)) rfl (Nat.le_of_ble_eq_true rfl) (show B + 1 < 470 by omega) l9.2.1 (Nat.le_of_ble_eq_true rfl) rfl dX5_copyFrom_8 (q := 11) rfl ?_
  intro im1 h1
  refine zz_iconst S (v := 0) rfl dX5_copyFrom_11 (q := 12) rfl ?_
  refine zz_istore_2 S rfl dX5_copyFrom_12 (q := 13) rfl ?_
  refine zz_iload_2 S dX5_copyFrom_13 (q := 14) rfl ?_
  refine zz_iconst S (v := 2) rfl dX5_copyFrom_14 (q := 15) rfl ?_
  refine zz_icmp_ge S dX5_copyFrom_15 (t := 51) (by decide) (q := 18) rfl (fun a1 => ?_) (fun a1 => ?_)
  -- then 51 else 18
  · exact absurd a1 (by decide)
  refine zz_aload_0 S dX5_copyFrom_18 (q := 19) rfl ?_
  refine zz_getR S fX5_18 rfl hbE l2 l6 dX5_copyFrom_19 (q := 22) rfl ?_
  refine zz_iload_2 S dX5_copyFrom_22 (q := 23) rfl ?_
  refine zz_aaN S (j := 0) (show B + 22 < 470 by omega) l3 ⟨Nat.le_of_ble_eq_true rfl, Nat.le_of_ble_eq_true rfl⟩ (Nat.le_of_ble_eq_true rfl) rfl (by omega) (l8 0 (by omega)) dX5_copyFrom_23 (q := 24) rfl ?_
  refine zz_aload_1 S dX5_copyFrom_24 (q := 25) rfl ?_
  refine zz_getR S fX5_18 rfl hbE' m2 m6 dX5_copyFrom_25 (q := 28) rfl ?_
  refine zz_iload_2 S dX5_copyFrom_28 (q := 29) rfl ?_
  refine zz_aaN S (j := 0) (show B' + 22 < 470 by omega) m3 ⟨Nat.le_of_ble_eq_true rfl, Nat.le_of_ble_eq_true rfl⟩ (Nat.le_of_ble_eq_true rfl) rfl (by omega) (m8 0 (by omega)) dX5_copyFrom_29 (q := 30) rfl ?_
  -- at 30: invokevirtual 26
  refine zz_virtV S yy_X4_copyFrom lX5_26 (ci := 4) (by decide) rfl (cx_shopCopy (B + 24 + 21 * 0) (B' + 24 + 21 * 0) im1 (l10 0 (by omega)) (m10 0 (by omega)) (by omega)) rfl (Nat.le_of_ble_eq_true rfl) (show B + 24 + 21 * 0 < 470 by omega) (l10 0 (by omega)).2.1 (Nat.le_of_ble_eq_true rfl) rfl dX5_copyFrom_30 (q := 33) rfl ?_
  intro im2 h2
  refine zz_aload_0 S dX5_copyFrom_33 (q := 34) rfl ?_
  refine zz_getR S fX5_22 rfl hbE l2 l7 dX5_copyFrom_34 (q := 37) rfl ?_
  refine zz_iload_2 S dX5_copyFrom_37 (q := 38) rfl ?_
  refine zz_aload_1 S dX5_copyFrom_38 (q := 39) rfl ?_
  refine zz_getR S fX5_22 rfl hbE' m2 m7 dX5_copyFrom_39 (q := 42) rfl ?_
  refine zz_iload_2 S dX5_copyFrom_42 (q := 43) rfl ?_
  refine zz_zaN S (j := 0) (show B' + 23 < 470 by omega) m4 (Nat.le_of_ble_eq_true rfl) rfl (by omega) dX5_copyFrom_43 (q := 44) rfl ?_
  refine zz_zaS S (j := 0) (show B + 23 < 470 by omega) l4 (Nat.le_of_ble_eq_true rfl) rfl (by omega) dX5_copyFrom_44 (q := 45) rfl ?_
  -- at 45
  have e0 : im2 (B' + 23) 0 = im (B' + 23) 0 := by rw [h2.2 _ (by omega), h1.2 _ (by omega)]
  rw [e0, vp_nar01 (h01 0 (by omega))]
  generalize him3 : zz_u im2 (B + 23) 0 (im (B' + 23) 0) = im3
  have h3 : ∀ q, q ≠ B + 23 → im3 q = im2 q := fun q hq => by rw [← him3]; exact zz_u_off _ _ _ _ hq
  have h3e : im3 (B + 23) 0 = im (B' + 23) 0 := by rw [← him3, zz_u_e]
  refine zz_iinc_2 S rfl dX5_copyFrom_45 (q := 48) rfl ?_
  refine zz_goto S dX5_copyFrom_48 (t := 13) (by decide) ?_
  refine zz_iload_2 S dX5_copyFrom_13 (q := 14) rfl ?_
  refine zz_iconst S (v := 2) rfl dX5_copyFrom_14 (q := 15) rfl ?_
  refine zz_icmp_ge S dX5_copyFrom_15 (t := 51) (by decide) (q := 18) rfl (fun a2 => ?_) (fun a2 => ?_)
  -- then 51 else 18
  · exact absurd a2 (by decide)
  refine zz_aload_0 S dX5_copyFrom_18 (q := 19) rfl ?_
  refine zz_getR S fX5_18 rfl hbE l2 l6 dX5_copyFrom_19 (q := 22) rfl ?_
  refine zz_iload_2 S dX5_copyFrom_22 (q := 23) rfl ?_
  refine zz_aaN S (j := 1) (show B + 22 < 470 by omega) l3 ⟨Nat.le_of_ble_eq_true rfl, Nat.le_of_ble_eq_true rfl⟩ (Nat.le_of_ble_eq_true rfl) rfl (by omega) (l8 1 (by omega)) dX5_copyFrom_23 (q := 24) rfl ?_
  refine zz_aload_1 S dX5_copyFrom_24 (q := 25) rfl ?_
  refine zz_getR S fX5_18 rfl hbE' m2 m6 dX5_copyFrom_25 (q := 28) rfl ?_
  refine zz_iload_2 S dX5_copyFrom_28 (q := 29) rfl ?_
  refine zz_aaN S (j := 1) (show B' + 22 < 470 by omega) m3 ⟨Nat.le_of_ble_eq_true rfl, Nat.le_of_ble_eq_true rfl⟩ (Nat.le_of_ble_eq_true rfl) rfl (by omega) (m8 1 (by omega)) dX5_copyFrom_29 (q := 30) rfl ?_
  -- at 30: invokevirtual 26
  refine zz_virtV S yy_X4_copyFrom lX5_26 (ci := 4) (by decide) rfl (cx_shopCopy (B + 24 + 21 * 1) (B' + 24 + 21 * 1) im3 (l10 1 (by omega)) (m10 1 (by omega)) (by omega)) rfl (Nat.le_of_ble_eq_true rfl) (show B + 24 + 21 * 1 < 470 by omega) (l10 1 (by omega)).2.1 (Nat.le_of_ble_eq_true rfl) rfl dX5_copyFrom_30 (q := 33) rfl ?_
  intro im4 h4
  refine zz_aload_0 S dX5_copyFrom_33 (q := 34) rfl ?_
  refine zz_getR S fX5_22 rfl hbE l2 l7 dX5_copyFrom_34 (q := 37) rfl ?_
  refine zz_iload_2 S dX5_copyFrom_37 (q := 38) rfl ?_
  refine zz_aload_1 S dX5_copyFrom_38 (q := 39) rfl ?_
  refine zz_getR S fX5_22 rfl hbE' m2 m7 dX5_copyFrom_39 (q := 42) rfl ?_
  refine zz_iload_2 S dX5_copyFrom_42 (q := 43) rfl ?_
  refine zz_zaN S (j := 1) (show B' + 23 < 470 by omega) m4 (Nat.le_of_ble_eq_true rfl) rfl (by omega) dX5_copyFrom_43 (q := 44) rfl ?_
  refine zz_zaS S (j := 1) (show B + 23 < 470 by omega) l4 (Nat.le_of_ble_eq_true rfl) rfl (by omega) dX5_copyFrom_44 (q := 45) rfl ?_
  -- at 45
  have e1 : im4 (B' + 23) 1 = im (B' + 23) 1 := by rw [h4.2 _ (by omega), h3 _ (by omega), h2.2 _ (by omega), h1.2 _ (by omega)]
  rw [e1, vp_nar01 (h01 1 (by omega))]
  refine zz_iinc_2 S rfl dX5_copyFrom_45 (q := 48) rfl ?_
  refine zz_goto S dX5_copyFrom_48 (t := 13) (by decide) ?_
  refine zz_iload_2 S dX5_copyFrom_13 (q := 14) rfl ?_
  refine zz_iconst S (v := 2) rfl dX5_copyFrom_14 (q := 15) rfl ?_
  refine zz_icmp_ge S dX5_copyFrom_15 (t := 51) (by decide) (q := 18) rfl (fun a3 => ?_) (fun a3 => ?_)
  -- then 51 else 18
  · refine zz_vret S dX5_copyFrom_51 ⟨rfl, rfl, rfl, ?_⟩
    refine ⟨fun r j hv => ?_, fun q hq => ?_⟩
    · rcases hv with ⟨r1, r2, hv⟩ | ⟨r1, r2, hv⟩ | ⟨r1, r2, hv⟩ | ⟨rfl, hj⟩
      · have k1 := h1.1 _ j hv
        rw [show B + 1 + (r - 1) = B + r by omega, show B' + 1 + (r - 1) = B' + r by omega] at k1
        rw [zz_u_off _ _ _ _ (by omega), h4.2 _ (by omega), h3 _ (by omega), h2.2 _ (by omega)]
        exact k1
      · have k1 := h2.1 _ j hv
        rw [show B + 24 + 21 * 0 + (r - 24) = B + r by omega, show B' + 24 + 21 * 0 + (r - 24) = B' + r by omega, h1.2 _ (by omega)] at k1
        rw [zz_u_off _ _ _ _ (by omega), h4.2 _ (by omega), h3 _ (by omega)]
        exact k1
      · have k1 := h4.1 _ j hv
        rw [show B + 24 + 21 * 1 + (r - 45) = B + r by omega, show B' + 24 + 21 * 1 + (r - 45) = B' + r by omega, h3 _ (by omega), h2.2 _ (by omega), h1.2 _ (by omega)] at k1
        rw [zz_u_off _ _ _ _ (by omega)]
        exact k1
      · rcases (show j = 0 ∨ j = 1 by omega) with rfl | rfl
        · rw [zz_u_n _ _ (Or.inr (by decide)), h4.2 _ (by omega)]
          exact h3e
        · rw [zz_u_e]
    · rw [zz_u_off _ _ _ _ (by omega), h4.2 _ (by omega), h3 _ (by omega), h2.2 _ (by omega), h1.2 _ (by omega)]
  · exact absurd (by decide) a3
theorem zr_ref : ∀ i, i < 6 → zE.2.2 68 i = some (69 + 66 * i) := by decide +kernel
set_option maxHeartbeats 1000000 in
theorem cx_mark (f : Nat) (im : ZI) (hf : f < 6) (h1 : im 67 1 = nI f) (h01 : ∀ j, j < 2 → im 24 j = 0 ∨ im 24 j = 1) : zz_OV G l 3 mX2_mark [.ref 67, .ref 1] zE im (fun im' => zCpS im im' (69 + 66 * f) 1) := by
  have hL := zStL_r f hf
  refine zz_intro (isI := false) (by decide) rfl (Nat.le_of_ble_eq_true rfl) (fun h => by cases h) (fun w S => ?_)
  refine zz_aload_0 S dX2_mark_0 (q := 1) rfl ?_
  refine zz_getR S fX2_11 rfl (Nat.le_of_ble_eq_true rfl) rfl rfl dX2_mark_1 (q := 4) rfl ?_
  refine zz_aload_0 S dX2_mark_4 (q := 5) rfl ?_
  refine zz_getI S fX2_18 rfl (Nat.le_of_ble_eq_true rfl) rfl dX2_mark_5 (q := 8) rfl ?_
  refine zz_aaN S (j := f) (Nat.le_of_ble_eq_true rfl) rfl ⟨Nat.le_of_ble_eq_true rfl, Nat.le_of_ble_eq_true rfl⟩ (Nat.le_of_ble_eq_true rfl) h1 hf (zr_ref f hf) dX2_mark_8 (q := 9) rfl ?_
  refine zz_aload_1 S dX2_mark_9 (q := 10) rfl ?_
  -- at 10: invokevirtual 22
  refine zz_virtV S yy_X5_copyFrom lX2_22 (ci := 5) (by decide) rfl (cx_stateCopy (69 + 66 * f) 1 im hL zStL_1 (by omega) h01) rfl (Nat.le_of_ble_eq_true rfl) (show 69 + 66 * f < 470 by omega) hL.2.1 (Nat.le_of_ble_eq_true rfl) rfl dX2_mark_10 (q := 13) rfl ?_
  intro im1 h
  refine zz_vret S dX2_mark_13 ⟨rfl, rfl, rfl, ?_⟩
  exact h
set_option maxHeartbeats 1000000 in
theorem cx_return (f : Nat) (im : ZI) (hf : f < 6) (h1 : im 67 1 = nI f) (h01 : ∀ j, j < 2 → im (69 + 66 * f + 23) j = 0 ∨ im (69 + 66 * f + 23) j = 1) : zz_OV G l 3 mX2_returnToMarked [.ref 67, .ref 1] zE im (fun im' => zCpS im im' 1 (69 + 66 * f)) := by
  have hL := zStL_r f hf
  refine zz_intro (isI := false) (by decide) rfl (Nat.le_of_ble_eq_true rfl) (fun h => by cases h) (fun w S => ?_)
  refine zz_aload_1 S dX2_returnToMarked_0 (q := 1) rfl ?_
  refine zz_aload_0 S dX2_returnToMarked_1 (q := 2) rfl ?_
  refine zz_getR S fX2_11 rfl (Nat.le_of_ble_eq_true rfl) rfl rfl dX2_returnToMarked_2 (q := 5) rfl ?_
  refine zz_aload_0 S dX2_returnToMarked_5 (q := 6) rfl ?_
  refine zz_getI S fX2_18 rfl (Nat.le_of_ble_eq_true rfl) rfl dX2_returnToMarked_6 (q := 9) rfl ?_
  refine zz_aaN S (j := f) (Nat.le_of_ble_eq_true rfl) rfl ⟨Nat.le_of_ble_eq_true rfl, Nat.le_of_ble_eq_true rfl⟩ (Nat.le_of_ble_eq_true rfl) h1 hf (zr_ref f hf) dX2_returnToMarked_9 (q := 10) rfl ?_
  -- at 10: invokevirtual 22
  refine zz_virtV S yy_X5_copyFrom lX2_22 (ci := 5) (by decide) rfl (cx_stateCopy 1 (69 + 66 * f) im zStL_1 hL (by omega) h01) rfl (Nat.le_of_ble_eq_true rfl) (Nat.le_of_ble_eq_true rfl) rfl (Nat.le_of_ble_eq_true rfl) rfl dX2_returnToMarked_10 (q := 13) rfl ?_
  intro im1 h
  refine zz_vret S dX2_returnToMarked_13 ⟨rfl, rfl, rfl, ?_⟩
  exact h
theorem cx_keep (f n : Nat) (im : ZI) (hf : f < 6) (hn : n ≤ 5) (h1 : im 67 1 = nI f) (h2 : im 67 2 = nI n) : zz_OV G l 1 mX2_keepMarked [.ref 67] zE im (fun im' => im' 67 1 = nI ((f + 1) % 6) ∧ im' 67 2 = nI (sh_n n) ∧ ∀ k, k ≠ 67 → im' k = im k) := by
  refine zz_intro (isI := false) (by decide) rfl (Nat.le_of_ble_eq_true rfl) (fun h => by cases h) (fun w S => ?_)
  refine zz_aload_0 S dX2_keepMarked_0 (q := 1) rfl ?_
  refine zz_aload_0 S dX2_keepMarked_1 (q := 2) rfl ?_
  refine zz_getI S fX2_18 rfl (Nat.le_of_ble_eq_true rfl) rfl dX2_keepMarked_2 (q := 5) rfl ?_
  refine zz_iconst S (v := 1) rfl dX2_keepMarked_5 (q := 6) rfl ?_
  refine zz_iadd S dX2_keepMarked_6 (q := 7) rfl ?_
  refine zz_bipush S (v := 6) rfl dX2_keepMarked_7 (q := 9) rfl ?_
  refine zz_irem S (by decide) dX2_keepMarked_9 (q := 10) rfl ?_
  refine zz_putI S fX2_18 rfl rfl (Nat.le_of_ble_eq_true rfl) rfl dX2_keepMarked_10 (q := 13) rfl ?_
  refine zz_aload_0 S dX2_keepMarked_13 (q := 14) rfl ?_
  refine zz_aload_0 S dX2_keepMarked_14 (q := 15) rfl ?_
  refine zz_getI S fX2_26 rfl (Nat.le_of_ble_eq_true rfl) rfl dX2_keepMarked_15 (q := 18) rfl ?_
  refine zz_iconst S (v := 1) rfl dX2_keepMarked_18 (q := 19) rfl ?_
  refine zz_iadd S dX2_keepMarked_19 (q := 20) rfl ?_
  refine zz_iconst S (v := 5) rfl dX2_keepMarked_20 (q := 21) rfl ?_
  -- at 21: invokestatic 29
  have e1 : im 67 1 + 1 - (im 67 1 + 1) / 6 * 6 = nI ((f + 1) % 6) := by
    rw [h1, nI_1]
    exact pk_rem (a := f + 1) (d := 6) (by omega) (by decide) (by decide)
  rw [e1]
  have e2 : zz_u im 67 1 (nI ((f + 1) % 6)) 67 2 = nI n := by rw [zz_u_n _ _ (Or.inr (by decide))]; exact h2
  rw [e2]
  refine zz_min S lX2_29 ⟨n_minSt, n_MathIni, n_minCo⟩ (Nat.le_of_ble_eq_true rfl) (Nat.le_of_ble_eq_true rfl) dX2_keepMarked_21 (q := 24) rfl ?_
  refine zz_putI S fX2_26 rfl rfl (Nat.le_of_ble_eq_true rfl) rfl dX2_keepMarked_24 (q := 27) rfl ?_
  -- at 27: return_ 
  refine zz_vret S dX2_keepMarked_27 ⟨rfl, rfl, rfl, ?_⟩
  refine ⟨by rw [zz_u_n _ _ (Or.inr (by decide)), zz_u_e], ?_, fun k hk => by rw [zz_u_off _ _ _ _ hk, zz_u_off _ _ _ _ hk]⟩
  rw [zz_u_e, nI_1]
  unfold sh_n
  by_cases h5 : n = 5
  · rw [if_pos h5, if_pos (by rw [h5]; decide)]
    rfl
  · rw [if_neg h5, if_neg]
    show ¬ nI 5 < nI (n + 1)
    exact nI_nlt (by omega) (by omega)
set_option maxHeartbeats 1000000 in
theorem cx_step (f m : Nat) (im : ZI) (hf : f < 6) (hm : m < 5) (h1 : im 67 1 = nI f) (h2 : im 67 2 = nI (m + 1)) (h01 : ∀ j, j < 2 → im (69 + 66 * ((f + 5) % 6) + 23) j = 0 ∨ im (69 + 66 * ((f + 5) % 6) + 23) j = 1) : zz_OV G l 4 mX2_stepBack [.ref 67, .ref 1] zE im (fun im' => im' 67 1 = nI ((f + 5) % 6) ∧ im' 67 2 = nI m ∧ (∀ r j, vS r j → im' (1 + r) j = im (69 + 66 * ((f + 5) % 6) + r) j) ∧ ∀ q, q ≠ 67 → (q < 1 ∨ 67 ≤ q) → im' q = im q) := by
  have hg : (f + 5) % 6 < 6 := Nat.mod_lt _ (by decide)
  have e1 : im 67 1 + 5 - (im 67 1 + 5) / 6 * 6 = nI ((f + 5) % 6) := by
    rw [h1, show nI f + 5 = nI (f + 5) from nI_add f 5]
    exact pk_rem (a := f + 5) (d := 6) (by omega) (by decide) (by decide)
  generalize (f + 5) % 6 = g at hg h01 e1 ⊢
  refine zz_intro (isI := false) (by decide) rfl (Nat.le_of_ble_eq_true rfl) (fun h => by cases h) (fun w S => ?_)
  refine zz_aload_0 S dX2_stepBack_0 (q := 1) rfl ?_
  refine zz_getI S fX2_26 rfl (Nat.le_of_ble_eq_true rfl) rfl dX2_stepBack_1 (q := 4) rfl ?_
  refine zz_if_le S dX2_stepBack_4 (t := 35) (by decide) (q := 7) rfl (fun a1 => ?_) (fun a1 => ?_)
  -- then 35 else 7
  · exact absurd a1 (by rw [h2]; exact nI_nle (by omega) (by omega))
  refine zz_aload_0 S dX2_stepBack_7 (q := 8) rfl ?_
  refine zz_aload_0 S dX2_stepBack_8 (q := 9) rfl ?_
  refine zz_getI S fX2_18 rfl (Nat.le_of_ble_eq_true rfl) rfl dX2_stepBack_9 (q := 12) rfl ?_
  refine zz_iconst S (v := 5) rfl dX2_stepBack_12 (q := 13) rfl ?_
  refine zz_iadd S dX2_stepBack_13 (q := 14) rfl ?_
  refine zz_bipush S (v := 6) rfl dX2_stepBack_14 (q := 16) rfl ?_
  refine zz_irem S (by decide) dX2_stepBack_16 (q := 17) rfl ?_
  refine zz_putI S fX2_18 rfl rfl (Nat.le_of_ble_eq_true rfl) rfl dX2_stepBack_17 (q := 20) rfl ?_
  refine zz_aload_0 S dX2_stepBack_20 (q := 21) rfl ?_
  refine zz_dup S rfl dX2_stepBack_21 (q := 22) rfl ?_
  refine zz_getI S fX2_26 rfl (Nat.le_of_ble_eq_true rfl) rfl dX2_stepBack_22 (q := 25) rfl ?_
  refine zz_iconst S (v := 1) rfl dX2_stepBack_25 (q := 26) rfl ?_
  refine zz_isub S dX2_stepBack_26 (q := 27) rfl ?_
  refine zz_putI S fX2_26 rfl rfl (Nat.le_of_ble_eq_true rfl) rfl dX2_stepBack_27 (q := 30) rfl ?_
  refine zz_aload_0 S dX2_stepBack_30 (q := 31) rfl ?_
  refine zz_aload_1 S dX2_stepBack_31 (q := 32) rfl ?_
  -- at 32: invokevirtual 35
  rw [e1]
  have e2 : zz_u im 67 1 (nI g) 67 2 - 1 = nI m := by rw [zz_u_n _ _ (Or.inr (by decide)), h2]; exact nI_pred m
  rw [e2]
  generalize him1 : zz_u (zz_u im 67 1 (nI g)) 67 2 (nI m) = im1
  have o : ∀ k, k ≠ 67 → im1 k = im k := fun k hk => by rw [← him1, zz_u_off _ _ _ _ hk, zz_u_off _ _ _ _ hk]
  have b1 : im1 67 1 = nI g := by rw [← him1, zz_u_n _ _ (Or.inr (by decide)), zz_u_e]
  have b2 : im1 67 2 = nI m := by rw [← him1, zz_u_e]
  refine zz_virtV S yy_X2_returnToMarked lX2_35 (ci := 2) (by decide) rfl (cx_return g im1 hg b1 (fun j hj => by rw [o _ (by omega)]; exact h01 j hj)) rfl (Nat.le_of_ble_eq_true rfl) (Nat.le_of_ble_eq_true rfl) rfl (Nat.le_of_ble_eq_true rfl) rfl dX2_stepBack_32 (q := 35) rfl ?_
  rintro im2 ⟨k1, k2⟩
  refine zz_vret S dX2_stepBack_35 ⟨rfl, rfl, rfl, ?_⟩
  refine ⟨by rw [k2 67 (by omega)]; exact b1, by rw [k2 67 (by omega)]; exact b2, fun r j hv => ?_, fun q hq hr => by rw [k2 q (by omega)]; exact o q hq⟩
  rw [k1 r j hv, o _ (by omega)]
end ZHIS
