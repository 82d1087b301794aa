/-! THE REFERENCE: its public actions -/
def zP (im im' : ZI) (s' : ZSt) (n' : Nat) (h' : Nat → ZSt) : Prop := im' 471 = s' ∧ zm_h im' n' h' ∧ im' 470 6 = im 470 6 ∧ im' 474 = im 474 ∧ ∀ k, k < 470 → im' k = im k
abbrev ZQ : Type := Int32 × ZSt × Nat × (Nat → ZSt)
def zPQ (im im' : ZI) (r : Int32) (o : ZQ) : Prop := r = o.1 ∧ zP im im' o.2.1 o.2.2.1 o.2.2.2
/-- before an action: only what nobody asks has changed -/
def zPre (im im1 : ZI) : Prop := zz_keep [470, 475, 476, 477, 478] im im1 ∧ ∀ j, j ≠ 0 → im1 470 j = im 470 j
theorem zPre.t (im : ZI) : zPre im (zz_u im 470 0 0) := ⟨zz_keep.rf.u (by decide), fun j hj => zz_u_n _ _ (Or.inr hj)⟩
theorem zPre.k {im im1 im2 : ZI} (h : zPre im im1) (hk : zz_keep [476, 477, 478] im1 im2) : zPre im im2 :=
  ⟨h.1.tr hk (by decide), fun j hj => by rw [hk 470 (by decide)]; exact h.2 j hj⟩
theorem zPre.s {im im1 : ZI} (h : zPre im im1) : im1 471 = im 471 := h.1 471 (by decide)
theorem zPre.h {im im1 : ZI} (h : zPre im im1) {n : Nat} {hs : Nat → ZSt} (hh : zm_h im n hs) : zm_h im1 n hs :=
  ⟨hh.1, by rw [h.2 4 (by decide)]; exact hh.2.1, fun i k a b => by rw [h.1 473 (by decide)]; exact hh.2.2 i k a b⟩
theorem zP_lt {ks : List Nat} {im im' : ZI} (h : zz_keep ks im im') (hl : ks.all (fun k => Nat.ble 470 k) = true) : ∀ k, k < 470 → im' k = im k := fun k hk => h k (fun hm => by
  have := List.all_eq_true.mp hl k hm
  have := Nat.le_of_ble_eq_true this
  omega)
theorem zP_same {im im1 : ZI} (h : zPre im im1) {n : Nat} {hs : Nat → ZSt} (hh : zm_h im n hs) : zP im im1 (im 471) n hs :=
  ⟨h.s, h.h hh, h.2 6 (by decide), h.1 474 (by decide), zP_lt h.1 rfl⟩
theorem zP_act {im im1 im2 im3 : ZI} (h : zPre im im1) {n : Nat} {hs : Nat → ZSt} {s' : ZSt} (ha : zm_h im2 (sh_n n) (sh_p n hs (im1 471)) ∧ (∀ j, j ≠ 4 → im2 470 j = im1 470 j) ∧ zz_keep [470, 473] im1 im2)
    (hb : im3 471 = s') (hc : zz_keep [471, 476, 477, 478] im2 im3) : zP im im3 s' (sh_n n) (sh_p n hs (im 471)) := by
  obtain ⟨⟨a1, a2, a3⟩, a4, a5⟩ := ha
  rw [h.s] at a3
  refine ⟨hb, ⟨a1, by rw [hc 470 (by decide)]; exact a2, fun i k x y => by rw [hc 473 (by decide)]; exact a3 i k x y⟩, ?_, ?_, fun k hk => ?_⟩
  · rw [hc 470 (by decide), a4 6 (by decide), h.2 6 (by decide)]
  · rw [hc 474 (by decide), a5 474 (by decide), h.1 474 (by decide)]
  · rw [zP_lt hc rfl k hk, zP_lt a5 rfl k hk, zP_lt h.1 rfl k hk]
theorem zAct_s {im1 im2 : ZI} (h : zz_keep [470, 473] im1 im2) : im2 471 = im1 471 := h 471 (by decide)
def ox_corr (s : ZSt) (n : Nat) (h : Nat → ZSt) (x v : Int32) : ZQ := if (x ≥ 0 ∧ x ≤ 11) ∧ v ≥ -20 ∧ v ≤ 20 then (s (8 + x.toNatClampNeg), upd s (8 + x.toNatClampNeg) v, sh_n n, sh_p n h s) else (-100001, s, n, h)
def ox_set (s : ZSt) (n : Nat) (h : Nat → ZSt) (x v : Int32) : ZQ := if (x ≥ 0 ∧ x ≤ 3) ∧ v ≥ sp_least x ∧ v ≤ sp_most x then (s (4 + x.toNatClampNeg), upd s (4 + x.toNatClampNeg) v, sh_n n, sh_p n h s) else (-100001, s, n, h)
def ox_wall (s : ZSt) (n : Nat) (h : Nat → ZSt) (nw : Nat) : ZQ := if op_cWall s ≥ 0 then (nI nw, op_wall s nw, sh_n n, sh_p n h s) else (op_cWall s, s, n, h)
def ox_meas (s : ZSt) (n : Nat) (h : Nat → ZSt) (x v : Int32) : ZQ := if op_cMeas s x v ≥ 0 then (op_rMeas s x.toNatClampNeg v, op_meas s x.toNatClampNeg v, sh_n n, sh_p n h s) else (op_cMeas s x v, s, n, h)
def ox_ask (s : ZSt) (n : Nat) (h : Nat → ZSt) (nc : Nat) (la x sz lo : Int32) : ZQ := if op_cAsk s la x sz lo ≥ 0 then (nI nc, op_ask s nc la x sz lo, sh_n n, sh_p n h s) else (op_cAsk s la x sz lo, s, n, h)
def ox_dec (s : ZSt) (n : Nat) (h : Nat → ZSt) (x : Int32) : ZQ := if op_cSt s x 0 ≥ 0 then (sp_re s x.toNatClampNeg, op_dec s x.toNatClampNeg, sh_n n, sh_p n h s) else (op_cSt s x 0, s, n, h)
def ox_again (s : ZSt) (n : Nat) (h : Nat → ZSt) (x : Int32) : ZQ := if op_cSt s x 4 ≥ 0 then (sp_re (op_again s x.toNatClampNeg) x.toNatClampNeg, op_again s x.toNatClampNeg, sh_n n, sh_p n h s) else (op_cSt s x 4, s, n, h)
def ox_cas (s : ZSt) (n : Nat) (h : Nat → ZSt) (nc : Nat) : ZQ := if op_cCas s nc ≥ 0 then ((op_ml s nc (op_st s)).1, op_cas s nc, sh_n n, sh_p n h s) else (op_cCas s nc, s, n, h)
def ox_del (s : ZSt) (n : Nat) (h : Nat → ZSt) (nc : Nat) (x : Int32) : ZQ := if op_cSt s x 2 ≥ 0 then (op_in (op_del s x.toNatClampNeg) nc 3, op_del s x.toNatClampNeg, sh_n n, sh_p n h s) else (op_cSt s x 2, s, n, h)
theorem op_cSt_ok {s : ZSt} {x st : Int32} {nc : Nat} (h1 : s 1 = nI nc) (hn : nc ≤ 10) (h : op_cSt s x st ≥ 0) : ∃ c, c < nc ∧ x = nI c ∧ s (38 + 8 * c + 4) = st := by
  unfold op_cSt at h
  split at h
  · rename_i h2
    rw [h1] at h2
    obtain ⟨k, hk, ek⟩ := zs_within (n := nc) (by omega) h2
    split at h
    · rename_i h3
      rw [ek, nI_clamp (by omega)] at h3
      exact ⟨k, hk, ek, h3⟩
    · exact absurd h (by decide)
  · exact absurd h (by decide)
theorem op_cMeas_ok {s : ZSt} {x v : Int32} {nw : Nat} (h0 : s 0 = nI nw) (hn : nw ≤ 6) (h : op_cMeas s x v ≥ 0) : ∃ k, k < nw ∧ x = nI k ∧ sB (-60) 60 v := by
  unfold op_cMeas at h
  split at h
  · rename_i h2
    obtain ⟨h3, h4, h5⟩ := h2
    rw [h0] at h3
    obtain ⟨k, hk, ek⟩ := zs_within (n := nw) (by omega) h3
    refine ⟨k, hk, ek, ?_, ?_⟩
    · have := Int32.le_iff_toInt_le.mp h4
      simpa using this
    · have := Int32.le_iff_toInt_le.mp h5
      simpa using this
  · exact absurd h (by decide)
theorem op_cWall_ok {s : ZSt} {nw : Nat} (h0 : s 0 = nI nw) (hn : nw ≤ 6) (h : op_cWall s ≥ 0) : nw < 6 := by
  unfold op_cWall at h
  split at h
  · exact absurd h (by decide)
  · rename_i h2
    by_cases h6 : nw = 6
    · exact absurd (by rw [h0, h6]; rfl) h2
    · omega
section ZPUB
variable {G : ZG} {l : Launch}
theorem co_setCorrection (x v : Int32) (im : ZI) (n : Nat) (h : Nat → ZSt) (hh : zm_h im n h) : zz_OI G l 1 mX8_setCorrection [.ref 470, .int x, .int v] zE im (fun r im' => zPQ im im' r (ox_corr (im 471) n h x v)) := by
  have bad : ¬ ((x ≥ 0 ∧ x ≤ 11) ∧ v ≥ -20 ∧ v ≤ 20) → zPQ im (zz_u im 470 0 0) (-100001) (ox_corr (im 471) n h x v) := fun q => by
    rw [ox_corr, if_neg q]
    exact ⟨rfl, zP_same (zPre.t im) hh⟩
  refine zz_intro (isI := false) (by decide) rfl (Nat.le_of_ble_eq_true rfl) (fun h => by cases h) (fun w S => ?_)
  refine zz_aload_0 S dX8_setCorrection_0 (q := 1) rfl ?_
  refine zz_iconst S (v := 0) rfl dX8_setCorrection_1 (q := 2) rfl ?_
  refine zz_putI S fX8_35 rfl rfl (Nat.le_of_ble_eq_true rfl) rfl dX8_setCorrection_2 (q := 5) rfl ?_
  refine zz_iload_1 S dX8_setCorrection_5 (q := 6) rfl ?_
  refine zz_iconst S (v := 0) rfl dX8_setCorrection_6 (q := 7) rfl ?_
  refine zz_bipush S (v := 11) rfl dX8_setCorrection_7 (q := 9) rfl ?_
  -- at 9: invokestatic 90
  refine zz_statP S yy_X8_in lX8_90 (co_in G l x 0 11 zE (zz_u im 470 0 0)) rfl (Nat.le_of_ble_eq_true rfl) (Nat.le_of_ble_eq_true rfl) rfl dX8_setCorrection_9 (q := 12) rfl ?_
  refine zz_if_eq S dX8_setCorrection_12 (t := 26) (by decide) (q := 15) rfl (fun h1 => ?_) (fun h1 => ?_)
  -- then 26 else 15
  · refine zz_ldc S (v := (-100001)) kX8_94 dX8_setCorrection_26 (q := 28) rfl ?_
    refine zz_iret S dX8_setCorrection_28 ⟨rfl, _, rfl, rfl, ?_⟩
    exact bad (fun q => zs_b1.mp h1 q.1)
  · refine zz_iload_2 S dX8_setCorrection_15 (q := 16) rfl ?_
    refine zz_bipush S (v := (-20)) rfl dX8_setCorrection_16 (q := 18) rfl ?_
    refine zz_bipush S (v := 20) rfl dX8_setCorrection_18 (q := 20) rfl ?_
    -- at 20: invokestatic 90
    refine zz_statP S yy_X8_in lX8_90 (co_in G l v (-20) 20 zE (zz_u im 470 0 0)) rfl (Nat.le_of_ble_eq_true rfl) (Nat.le_of_ble_eq_true rfl) rfl dX8_setCorrection_20 (q := 23) rfl ?_
    refine zz_if_ne S dX8_setCorrection_23 (t := 29) (by decide) (q := 26) rfl (fun h2 => ?_) (fun h2 => ?_)
    -- then 29 else 26
    · have hp1 := zs_ne0 h1
      have hp2 := zs_ne0 h2
      obtain ⟨k, hk, ek⟩ := zs_within (n := 12) (by omega) hp1
      have ec : x.toNatClampNeg = k := by rw [ek]; exact nI_clamp (by omega)
      have e8 : 8 + x = nI (8 + k) := by rw [ek]; exact nI_add 8 k
      refine zz_aload_0 S dX8_setCorrection_29 (q := 30) rfl ?_
      -- at 30: invokevirtual 95
      refine zz_virtV S yy_X8_act lX8_95 (ci := 8) (by decide) rfl (co_act (zz_u im 470 0 0) n h ((zPre.t im).h hh)) rfl (Nat.le_of_ble_eq_true rfl) (Nat.le_of_ble_eq_true rfl) rfl (Nat.le_of_ble_eq_true rfl) rfl dX8_setCorrection_30 (q := 33) rfl ?_
      intro im2 ha
      have e471 : im2 471 = im 471 := (zAct_s ha.2.2).trans (zPre.t im).s
      refine zz_aload_0 S dX8_setCorrection_33 (q := 34) rfl ?_
      refine zz_getR S fX8_7 rfl (Nat.le_of_ble_eq_true rfl) rfl rfl dX8_setCorrection_34 (q := 37) rfl ?_
      refine zz_bipush S (v := 8) rfl dX8_setCorrection_37 (q := 39) rfl ?_
      refine zz_iload_1 S dX8_setCorrection_39 (q := 40) rfl ?_
      refine zz_iadd S dX8_setCorrection_40 (q := 41) rfl ?_
      refine zz_iaN S (j := 8 + k) (Nat.le_of_ble_eq_true rfl) rfl (Nat.le_of_ble_eq_true rfl) e8 (by omega) dX8_setCorrection_41 (q := 42) rfl ?_
      refine zz_istore_3 S rfl dX8_setCorrection_42 (q := 43) rfl ?_
      refine zz_aload_0 S dX8_setCorrection_43 (q := 44) rfl ?_
      refine zz_getR S fX8_7 rfl (Nat.le_of_ble_eq_true rfl) rfl rfl dX8_setCorrection_44 (q := 47) rfl ?_
      refine zz_bipush S (v := 8) rfl dX8_setCorrection_47 (q := 49) rfl ?_
      refine zz_iload_1 S dX8_setCorrection_49 (q := 50) rfl ?_
      refine zz_iadd S dX8_setCorrection_50 (q := 51) rfl ?_
      refine zz_iload_2 S dX8_setCorrection_51 (q := 52) rfl ?_
      refine zz_iaS S (j := 8 + k) (Nat.le_of_ble_eq_true rfl) rfl (Nat.le_of_ble_eq_true rfl) e8 (by omega) dX8_setCorrection_52 (q := 53) rfl ?_
      refine zz_iload_3 S dX8_setCorrection_53 (q := 54) rfl ?_
      -- at 54: ireturn 
      refine zz_iret S dX8_setCorrection_54 ⟨rfl, _, rfl, rfl, ?_⟩
      show zPQ _ _ _ _
      rw [ox_corr, if_pos ⟨hp1, hp2⟩, ec]
      exact ⟨by rw [e471], zP_act (zPre.t im) ha (by rw [zz_u_row, e471]) (zz_keep.rf.u (by decide))⟩
    · refine zz_ldc S (v := (-100001)) kX8_94 dX8_setCorrection_26 (q := 28) rfl ?_
      refine zz_iret S dX8_setCorrection_28 ⟨rfl, _, rfl, rfl, ?_⟩
      exact bad (fun q => zs_b1.mp h2 q.2)
theorem co_set (x v : Int32) (im : ZI) (n : Nat) (h : Nat → ZSt) (hh : zm_h im n h) : zz_OI G l 1 mX8_set [.ref 470, .int x, .int v] zE im (fun r im' => zPQ im im' r (ox_set (im 471) n h x v)) := by
  have bad : ¬ ((x ≥ 0 ∧ x ≤ 3) ∧ v ≥ sp_least x ∧ v ≤ sp_most x) → zPQ im (zz_u im 470 0 0) (-100001) (ox_set (im 471) n h x v) := fun q => by
    rw [ox_set, if_neg q]
    exact ⟨rfl, zP_same (zPre.t im) hh⟩
  refine zz_intro (isI := false) (by decide) rfl (Nat.le_of_ble_eq_true rfl) (fun h => by cases h) (fun w S => ?_)
  refine zz_aload_0 S dX8_set_0 (q := 1) rfl ?_
  refine zz_iconst S (v := 0) rfl dX8_set_1 (q := 2) rfl ?_
  refine zz_putI S fX8_35 rfl rfl (Nat.le_of_ble_eq_true rfl) rfl dX8_set_2 (q := 5) rfl ?_
  refine zz_iload_1 S dX8_set_5 (q := 6) rfl ?_
  refine zz_iconst S (v := 0) rfl dX8_set_6 (q := 7) rfl ?_
  refine zz_iconst S (v := 3) rfl dX8_set_7 (q := 8) rfl ?_
  -- at 8: invokestatic 90
  refine zz_statP S yy_X8_in lX8_90 (co_in G l x 0 3 zE (zz_u im 470 0 0)) rfl (Nat.le_of_ble_eq_true rfl) (Nat.le_of_ble_eq_true rfl) rfl dX8_set_8 (q := 11) rfl ?_
  refine zz_if_eq S dX8_set_11 (t := 29) (by decide) (q := 14) rfl (fun h1 => ?_) (fun h1 => ?_)
  -- then 29 else 14
  · refine zz_ldc S (v := (-100001)) kX8_94 dX8_set_29 (q := 31) rfl ?_
    refine zz_iret S dX8_set_31 ⟨rfl, _, rfl, rfl, ?_⟩
    exact bad (fun q => zs_b1.mp h1 q.1)
  · refine zz_iload_2 S dX8_set_14 (q := 15) rfl ?_
    refine zz_iload_1 S dX8_set_15 (q := 16) rfl ?_
    -- at 16: invokestatic 98
    refine zz_statP S yy_X8_leastOf lX8_98 (co_leastOf x zE (zz_u im 470 0 0)) rfl (Nat.le_of_ble_eq_true rfl) (Nat.le_of_ble_eq_true rfl) rfl dX8_set_16 (q := 19) rfl ?_
    refine zz_iload_1 S dX8_set_19 (q := 20) rfl ?_
    -- at 20: invokestatic 101
    refine zz_statP S yy_X8_mostOf lX8_101 (co_mostOf x zE (zz_u im 470 0 0)) rfl (Nat.le_of_ble_eq_true rfl) (Nat.le_of_ble_eq_true rfl) rfl dX8_set_20 (q := 23) rfl ?_
    refine zz_statP S yy_X8_in lX8_90 (co_in G l v (sp_least x) (sp_most x) zE (zz_u im 470 0 0)) rfl (Nat.le_of_ble_eq_true rfl) (Nat.le_of_ble_eq_true rfl) rfl dX8_set_23 (q := 26) rfl ?_
    refine zz_if_ne S dX8_set_26 (t := 32) (by decide) (q := 29) rfl (fun h2 => ?_) (fun h2 => ?_)
    -- then 32 else 29
    · have hp1 := zs_ne0 h1
      have hp2 := zs_ne0 h2
      obtain ⟨k, hk, ek⟩ := zs_within (n := 4) (by omega) hp1
      have ec : x.toNatClampNeg = k := by rw [ek]; exact nI_clamp (by omega)
      have e8 : 4 + x = nI (4 + k) := by rw [ek]; exact nI_add 4 k
      refine zz_aload_0 S dX8_set_32 (q := 33) rfl ?_
      -- at 33: invokevirtual 95
      refine zz_virtV S yy_X8_act lX8_95 (ci := 8) (by decide) rfl (co_act (zz_u im 470 0 0) n h ((zPre.t im).h hh)) rfl (Nat.le_of_ble_eq_true rfl) (Nat.le_of_ble_eq_true rfl) rfl (Nat.le_of_ble_eq_true rfl) rfl dX8_set_33 (q := 36) rfl ?_
      intro im2 ha
      have e471 : im2 471 = im 471 := (zAct_s ha.2.2).trans (zPre.t im).s
      refine zz_aload_0 S dX8_set_36 (q := 37) rfl ?_
      refine zz_getR S fX8_7 rfl (Nat.le_of_ble_eq_true rfl) rfl rfl dX8_set_37 (q := 40) rfl ?_
      refine zz_iconst S (v := 4) rfl dX8_set_40 (q := 41) rfl ?_
      refine zz_iload_1 S dX8_set_41 (q := 42) rfl ?_
      refine zz_iadd S dX8_set_42 (q := 43) rfl ?_
      refine zz_iaN S (j := 4 + k) (Nat.le_of_ble_eq_true rfl) rfl (Nat.le_of_ble_eq_true rfl) e8 (by omega) dX8_set_43 (q := 44) rfl ?_
      refine zz_istore_3 S rfl dX8_set_44 (q := 45) rfl ?_
      refine zz_aload_0 S dX8_set_45 (q := 46) rfl ?_
      refine zz_getR S fX8_7 rfl (Nat.le_of_ble_eq_true rfl) rfl rfl dX8_set_46 (q := 49) rfl ?_
      refine zz_iconst S (v := 4) rfl dX8_set_49 (q := 50) rfl ?_
      refine zz_iload_1 S dX8_set_50 (q := 51) rfl ?_
      refine zz_iadd S dX8_set_51 (q := 52) rfl ?_
      refine zz_iload_2 S dX8_set_52 (q := 53) rfl ?_
      refine zz_iaS S (j := 4 + k) (Nat.le_of_ble_eq_true rfl) rfl (Nat.le_of_ble_eq_true rfl) e8 (by omega) dX8_set_53 (q := 54) rfl ?_
      refine zz_iload_3 S dX8_set_54 (q := 55) rfl ?_
      -- at 55: ireturn 
      refine zz_iret S dX8_set_55 ⟨rfl, _, rfl, rfl, ?_⟩
      show zPQ _ _ _ _
      rw [ox_set, if_pos ⟨hp1, hp2⟩, ec]
      exact ⟨by rw [e471], zP_act (zPre.t im) ha (by rw [zz_u_row, e471]) (zz_keep.rf.u (by decide))⟩
    · refine zz_ldc S (v := (-100001)) kX8_94 dX8_set_29 (q := 31) rfl ?_
      refine zz_iret S dX8_set_31 ⟨rfl, _, rfl, rfl, ?_⟩
      exact bad (fun q => zs_b1.mp h2 q.2)
theorem co_addWall (im : ZI) (n nw nc : Nat) (h : Nat → ZSt) (hh : zm_h im n h) (hI : sI (im 471) nw nc) : zz_OI G l 1 mX8_addWall [.ref 470] zE im (fun r im' => zPQ im im' r (ox_wall (im 471) n h nw)) := by
  refine zz_intro (isI := false) (by decide) rfl (Nat.le_of_ble_eq_true rfl) (fun h => by cases h) (fun w S => ?_)
  refine zz_aload_0 S dX8_addWall_0 (q := 1) rfl ?_
  refine zz_iconst S (v := 0) rfl dX8_addWall_1 (q := 2) rfl ?_
  refine zz_putI S fX8_35 rfl rfl (Nat.le_of_ble_eq_true rfl) rfl dX8_addWall_2 (q := 5) rfl ?_
  refine zz_aload_0 S dX8_addWall_5 (q := 6) rfl ?_
  -- at 6: invokevirtual 105
  refine zz_virtP S yy_X8_wallCode lX8_105 (ci := 8) (by decide) rfl (co_wallCode (zz_u im 470 0 0)) rfl (Nat.le_of_ble_eq_true rfl) (Nat.le_of_ble_eq_true rfl) rfl (Nat.le_of_ble_eq_true rfl) rfl dX8_addWall_6 (q := 9) rfl ?_
  rw [(zPre.t im).s]
  refine zz_istore_1 S rfl dX8_addWall_9 (q := 10) rfl ?_
  refine zz_iload_1 S dX8_addWall_10 (q := 11) rfl ?_
  refine zz_if_ge S dX8_addWall_11 (t := 16) (by decide) (q := 14) rfl (fun h1 => ?_) (fun h1 => ?_)
  -- then 16 else 14
  · have hw := op_cWall_ok hI.1 hI.2.1 h1
    refine zz_aload_0 S dX8_addWall_16 (q := 17) rfl ?_
    -- at 17: invokevirtual 95
    refine zz_virtV S yy_X8_act lX8_95 (ci := 8) (by decide) rfl (co_act (zz_u im 470 0 0) n h ((zPre.t im).h hh)) rfl (Nat.le_of_ble_eq_true rfl) (Nat.le_of_ble_eq_true rfl) rfl (Nat.le_of_ble_eq_true rfl) rfl dX8_addWall_17 (q := 20) rfl ?_
    intro im2 ha
    have e471 : im2 471 = im 471 := (zAct_s ha.2.2).trans (zPre.t im).s
    refine zz_aload_0 S dX8_addWall_20 (q := 21) rfl ?_
    -- at 21: invokevirtual 109
    refine zz_virtI S yy_X8_wallNow lX8_109 (ci := 8) (by decide) rfl (co_wallNow im2 nw hw (by rw [e471]; exact hI.1)) rfl (Nat.le_of_ble_eq_true rfl) (Nat.le_of_ble_eq_true rfl) rfl (Nat.le_of_ble_eq_true rfl) rfl dX8_addWall_21 (q := 24) rfl ?_
    rintro r im3 ⟨rfl, hb, hc⟩
    refine zz_iret S dX8_addWall_24 ⟨rfl, _, rfl, rfl, ?_⟩
    show zPQ _ _ _ _
    rw [ox_wall, if_pos h1]
    exact ⟨rfl, zP_act (zPre.t im) ha (by rw [hb, e471]) hc⟩
  · refine zz_iload_1 S dX8_addWall_14 (q := 15) rfl ?_
    -- at 15: ireturn 
    refine zz_iret S dX8_addWall_15 ⟨rfl, _, rfl, rfl, ?_⟩
    show zPQ _ _ _ _
    rw [ox_wall, if_neg h1]
    exact ⟨rfl, zP_same (zPre.t im) hh⟩
theorem co_measure (x v : Int32) (im : ZI) (n nw nc : Nat) (h : Nat → ZSt) (hh : zm_h im n h) (hI : sI (im 471) nw nc) : zz_OI G l 3 mX8_measure [.ref 470, .int x, .int v] zE im (fun r im' => zPQ im im' r (ox_meas (im 471) n h x v)) := by
  have hnw := hI.2.1
  refine zz_intro (isI := false) (by decide) rfl (Nat.le_of_ble_eq_true rfl) (fun h => by cases h) (fun w S => ?_)
  refine zz_aload_0 S dX8_measure_0 (q := 1) rfl ?_
  refine zz_iconst S (v := 0) rfl dX8_measure_1 (q := 2) rfl ?_
  refine zz_putI S fX8_35 rfl rfl (Nat.le_of_ble_eq_true rfl) rfl dX8_measure_2 (q := 5) rfl ?_
  refine zz_aload_0 S dX8_measure_5 (q := 6) rfl ?_
  refine zz_iload_1 S dX8_measure_6 (q := 7) rfl ?_
  refine zz_iload_2 S dX8_measure_7 (q := 8) rfl ?_
  -- at 8: invokevirtual 120
  refine zz_virtP S yy_X8_measureCode lX8_120 (ci := 8) (by decide) rfl (co_measureCode x v (zz_u im 470 0 0)) rfl (Nat.le_of_ble_eq_true rfl) (Nat.le_of_ble_eq_true rfl) rfl (Nat.le_of_ble_eq_true rfl) rfl dX8_measure_8 (q := 11) rfl ?_
  rw [(zPre.t im).s]
  refine zz_istore_3 S rfl dX8_measure_11 (q := 12) rfl ?_
  refine zz_iload_3 S dX8_measure_12 (q := 13) rfl ?_
  refine zz_if_ge S dX8_measure_13 (t := 18) (by decide) (q := 16) rfl (fun h1 => ?_) (fun h1 => ?_)
  -- then 18 else 16
  · obtain ⟨k, hk, ek, -⟩ := op_cMeas_ok hI.1 hI.2.1 h1
    have ec : x.toNatClampNeg = k := by rw [ek]; exact nI_clamp (by omega)
    refine zz_aload_0 S dX8_measure_18 (q := 19) rfl ?_
    -- at 19: invokevirtual 95
    refine zz_virtV S yy_X8_act lX8_95 (ci := 8) (by decide) rfl (co_act (zz_u im 470 0 0) n h ((zPre.t im).h hh)) rfl (Nat.le_of_ble_eq_true rfl) (Nat.le_of_ble_eq_true rfl) rfl (Nat.le_of_ble_eq_true rfl) rfl dX8_measure_19 (q := 22) rfl ?_
    intro im2 ha
    have e471 : im2 471 = im 471 := (zAct_s ha.2.2).trans (zPre.t im).s
    refine zz_aload_0 S dX8_measure_22 (q := 23) rfl ?_
    refine zz_iload_1 S dX8_measure_23 (q := 24) rfl ?_
    refine zz_iload_2 S dX8_measure_24 (q := 25) rfl ?_
    -- at 25: invokevirtual 124
    refine zz_virtI S yy_X8_measureNow lX8_124 (ci := 8) (by decide) rfl (co_measureNow x v k im2 ek (by omega)) rfl (Nat.le_of_ble_eq_true rfl) (Nat.le_of_ble_eq_true rfl) rfl (Nat.le_of_ble_eq_true rfl) rfl dX8_measure_25 (q := 28) rfl ?_
    rintro r im3 ⟨rfl, hb, hc⟩
    refine zz_iret S dX8_measure_28 ⟨rfl, _, rfl, rfl, ?_⟩
    show zPQ _ _ _ _
    rw [ox_meas, if_pos h1, ec]
    exact ⟨by rw [e471], zP_act (zPre.t im) ha (by rw [hb, e471]) hc⟩
  · refine zz_iload_3 S dX8_measure_16 (q := 17) rfl ?_
    -- at 17: ireturn 
    refine zz_iret S dX8_measure_17 ⟨rfl, _, rfl, rfl, ?_⟩
    show zPQ _ _ _ _
    rw [ox_meas, if_neg h1]
    exact ⟨rfl, zP_same (zPre.t im) hh⟩
theorem op_cAsk_ok {s : ZSt} {la x sz lo : Int32} {nw nc : Nat} (h0 : s 0 = nI nw) (hw : nw ≤ 6) (h1 : s 1 = nI nc) (hn : nc ≤ 10) (h : op_cAsk s la x sz lo ≥ 0) : nc < 10 ∧ sB 10 70 la ∧ (x = -1 ∨ ∃ k, k < nw ∧ x = nI k) ∧ sB 10 60 sz ∧ sB (-60) 60 lo := by
  unfold op_cAsk at h
  split at h
  · rename_i h2
    obtain ⟨a, b, c, d⟩ := h2
    have iv : ∀ {a b : Int32} {y : Int32}, y ≥ a ∧ y ≤ b → a.toInt ≤ y.toInt ∧ y.toInt ≤ b.toInt := fun q => ⟨Int32.le_iff_toInt_le.mp q.1, Int32.le_iff_toInt_le.mp q.2⟩
    refine ⟨?_, iv a, ?_, iv c, iv d⟩
    · split at h
      · exact absurd h (by decide)
      · rename_i h3
        by_cases h10 : nc = 10
        · exact absurd (by rw [h1, h10]; rfl) h3
        · omega
    · rcases b with b | b
      · exact Or.inl b
      · rw [h0] at b
        exact Or.inr (zs_within (n := nw) (by omega) b)
  · exact absurd h (by decide)
theorem co_ask (la x sz lo : Int32) (im : ZI) (n nw nc : Nat) (h : Nat → ZSt) (hh : zm_h im n h) (hI : sI (im 471) nw nc) : zz_OI G l 3 mX8_ask [.ref 470, .int la, .int x, .int sz, .int lo] zE im (fun r im' => zPQ im im' r (ox_ask (im 471) n h nc la x sz lo)) := by
  refine zz_intro (isI := false) (by decide) rfl (Nat.le_of_ble_eq_true rfl) (fun h => by cases h) (fun w S => ?_)
  refine zz_aload_0 S dX8_ask_0 (q := 1) rfl ?_
  refine zz_iconst S (v := 0) rfl dX8_ask_1 (q := 2) rfl ?_
  refine zz_putI S fX8_35 rfl rfl (Nat.le_of_ble_eq_true rfl) rfl dX8_ask_2 (q := 5) rfl ?_
  refine zz_aload_0 S dX8_ask_5 (q := 6) rfl ?_
  refine zz_iload_1 S dX8_ask_6 (q := 7) rfl ?_
  refine zz_iload_2 S dX8_ask_7 (q := 8) rfl ?_
  refine zz_iload_3 S dX8_ask_8 (q := 9) rfl ?_
  refine zz_iload_4 S dX8_ask_9 (q := 11) rfl ?_
  -- at 11: invokevirtual 155
  refine zz_virtP S yy_X8_askCode lX8_155 (ci := 8) (by decide) rfl (co_askCode la x sz lo (zz_u im 470 0 0)) rfl (Nat.le_of_ble_eq_true rfl) (Nat.le_of_ble_eq_true rfl) rfl (Nat.le_of_ble_eq_true rfl) rfl dX8_ask_11 (q := 14) rfl ?_
  rw [(zPre.t im).s]
  refine zz_istore_5 S rfl dX8_ask_14 (q := 16) rfl ?_
  refine zz_iload_5 S dX8_ask_16 (q := 18) rfl ?_
  refine zz_if_ge S dX8_ask_18 (t := 24) (by decide) (q := 21) rfl (fun h1 => ?_) (fun h1 => ?_)
  -- then 24 else 21
  · have hw := op_cAsk_ok hI.1 hI.2.1 hI.2.2.1 hI.2.2.2.1 h1
    refine zz_aload_0 S dX8_ask_24 (q := 25) rfl ?_
    -- at 25: invokevirtual 95
    refine zz_virtV S yy_X8_act lX8_95 (ci := 8) (by decide) rfl (co_act (zz_u im 470 0 0) n h ((zPre.t im).h hh)) rfl (Nat.le_of_ble_eq_true rfl) (Nat.le_of_ble_eq_true rfl) rfl (Nat.le_of_ble_eq_true rfl) rfl dX8_ask_25 (q := 28) rfl ?_
    intro im2 ha
    have e471 : im2 471 = im 471 := (zAct_s ha.2.2).trans (zPre.t im).s
    refine zz_aload_0 S dX8_ask_28 (q := 29) rfl ?_
    refine zz_iload_1 S dX8_ask_29 (q := 30) rfl ?_
    refine zz_iload_2 S dX8_ask_30 (q := 31) rfl ?_
    refine zz_iload_3 S dX8_ask_31 (q := 32) rfl ?_
    refine zz_iload_4 S dX8_ask_32 (q := 34) rfl ?_
    -- at 34: invokevirtual 159
    refine zz_virtI S yy_X8_askNow lX8_159 (ci := 8) (by decide) rfl (co_askNow la x sz lo nc im2 hw.1 (by rw [e471]; exact hI.2.2.1)) rfl (Nat.le_of_ble_eq_true rfl) (Nat.le_of_ble_eq_true rfl) rfl (Nat.le_of_ble_eq_true rfl) rfl dX8_ask_34 (q := 37) rfl ?_
    rintro r im3 ⟨rfl, hb, hc⟩
    refine zz_iret S dX8_ask_37 ⟨rfl, _, rfl, rfl, ?_⟩
    show zPQ _ _ _ _
    rw [ox_ask, if_pos h1]
    exact ⟨rfl, zP_act (zPre.t im) ha (by rw [hb, e471]) hc⟩
  · refine zz_iload_5 S dX8_ask_21 (q := 23) rfl ?_
    -- at 23: ireturn 
    refine zz_iret S dX8_ask_23 ⟨rfl, _, rfl, rfl, ?_⟩
    show zPQ _ _ _ _
    rw [ox_ask, if_neg h1]
    exact ⟨rfl, zP_same (zPre.t im) hh⟩
theorem co_decide (x : Int32) (im : ZI) (n nw nc : Nat) (h : Nat → ZSt) (hh : zm_h im n h) (hI : sI (im 471) nw nc) : zz_OI G l 8 mX8_decide [.ref 470, .int x] zE im (fun r im' => zPQ im im' r (ox_dec (im 471) n h x)) := by
  have hn10 := hI.2.2.2.1
  refine zz_intro (isI := false) (by decide) rfl (Nat.le_of_ble_eq_true rfl) (fun h => by cases h) (fun w S => ?_)
  refine zz_aload_0 S dX8_decide_0 (q := 1) rfl ?_
  refine zz_iconst S (v := 0) rfl dX8_decide_1 (q := 2) rfl ?_
  refine zz_putI S fX8_35 rfl rfl (Nat.le_of_ble_eq_true rfl) rfl dX8_decide_2 (q := 5) rfl ?_
  refine zz_aload_0 S dX8_decide_5 (q := 6) rfl ?_
  refine zz_iload_1 S dX8_decide_6 (q := 7) rfl ?_
  refine zz_iconst S (v := 0) rfl dX8_decide_7 (q := 8) rfl ?_
  -- at 8: invokevirtual 169
  refine zz_virtP S yy_X8_stateCode lX8_169 (ci := 8) (by decide) rfl (co_stateCode x 0 nc (zz_u im 470 0 0) (by rw [(zPre.t im).s]; exact hI.2.2.1) hI.2.2.2.1) rfl (Nat.le_of_ble_eq_true rfl) (Nat.le_of_ble_eq_true rfl) rfl (Nat.le_of_ble_eq_true rfl) rfl dX8_decide_8 (q := 11) rfl ?_
  rw [(zPre.t im).s]
  refine zz_istore_2 S rfl dX8_decide_11 (q := 12) rfl ?_
  refine zz_iload_2 S dX8_decide_12 (q := 13) rfl ?_
  refine zz_if_ge S dX8_decide_13 (t := 18) (by decide) (q := 16) rfl (fun h1 => ?_) (fun h1 => ?_)
  -- then 18 else 16
  · obtain ⟨k, hk, ek, -⟩ := op_cSt_ok hI.2.2.1 hI.2.2.2.1 h1
    have ec : x.toNatClampNeg = k := by rw [ek]; exact nI_clamp (by omega)
    refine zz_aload_0 S dX8_decide_18 (q := 19) rfl ?_
    -- at 19: invokevirtual 95
    refine zz_virtV S yy_X8_act lX8_95 (ci := 8) (by decide) rfl (co_act (zz_u im 470 0 0) n h ((zPre.t im).h hh)) rfl (Nat.le_of_ble_eq_true rfl) (Nat.le_of_ble_eq_true rfl) rfl (Nat.le_of_ble_eq_true rfl) rfl dX8_decide_19 (q := 22) rfl ?_
    intro im2 ha
    have e471 : im2 471 = im 471 := (zAct_s ha.2.2).trans (zPre.t im).s
    refine zz_aload_0 S dX8_decide_22 (q := 23) rfl ?_
    refine zz_iload_1 S dX8_decide_23 (q := 24) rfl ?_
    -- at 24: invokevirtual 172
    refine zz_virtI S yy_X8_decideNow lX8_172 (ci := 8) (by decide) rfl (co_decideNow x k nw nc im2 ek (by rw [e471]; exact hI) hk) rfl (Nat.le_of_ble_eq_true rfl) (Nat.le_of_ble_eq_true rfl) rfl (Nat.le_of_ble_eq_true rfl) rfl dX8_decide_24 (q := 27) rfl ?_
    rintro r im3 ⟨rfl, hb, hc⟩
    refine zz_iret S dX8_decide_27 ⟨rfl, _, rfl, rfl, ?_⟩
    show zPQ _ _ _ _
    rw [ox_dec, if_pos h1, ec]
    exact ⟨by rw [e471], zP_act (zPre.t im) ha (by rw [hb, e471]) hc⟩
  · refine zz_iload_2 S dX8_decide_16 (q := 17) rfl ?_
    -- at 17: ireturn 
    refine zz_iret S dX8_decide_17 ⟨rfl, _, rfl, rfl, ?_⟩
    show zPQ _ _ _ _
    rw [ox_dec, if_neg h1]
    exact ⟨rfl, zP_same (zPre.t im) hh⟩
theorem co_cast (im : ZI) (n nw nc : Nat) (h : Nat → ZSt) (hh : zm_h im n h) (hI : sI (im 471) nw nc) : zz_OI G l 4 mX8_cast [.ref 470] zE im (fun r im' => zPQ im im' r (ox_cas (im 471) n h nc)) := by
  refine zz_intro (isI := false) (by decide) rfl (Nat.le_of_ble_eq_true rfl) (fun h => by cases h) (fun w S => ?_)
  refine zz_aload_0 S dX8_cast_0 (q := 1) rfl ?_
  refine zz_iconst S (v := 0) rfl dX8_cast_1 (q := 2) rfl ?_
  refine zz_putI S fX8_35 rfl rfl (Nat.le_of_ble_eq_true rfl) rfl dX8_cast_2 (q := 5) rfl ?_
  refine zz_aload_0 S dX8_cast_5 (q := 6) rfl ?_
  -- at 6: invokevirtual 181
  refine zz_virtI S yy_X8_castCode lX8_181 (ci := 8) (by decide) rfl (co_castCode nc (zz_u im 470 0 0) (by rw [(zPre.t im).s]; exact hI.2.2.1) hI.2.2.2.1) rfl (Nat.le_of_ble_eq_true rfl) (Nat.le_of_ble_eq_true rfl) rfl (Nat.le_of_ble_eq_true rfl) rfl dX8_cast_6 (q := 9) rfl ?_
  rintro r im1 ⟨rfl, hk⟩
  have hp : zPre im im1 := (zPre.t im).k (hk.le (by decide))
  rw [(zPre.t im).s]
  refine zz_istore_1 S rfl dX8_cast_9 (q := 10) rfl ?_
  refine zz_iload_1 S dX8_cast_10 (q := 11) rfl ?_
  refine zz_if_ge S dX8_cast_11 (t := 16) (by decide) (q := 14) rfl (fun h1 => ?_) (fun h1 => ?_)
  -- then 16 else 14
  · refine zz_aload_0 S dX8_cast_16 (q := 17) rfl ?_
    -- at 17: invokevirtual 95
    refine zz_virtV S yy_X8_act lX8_95 (ci := 8) (by decide) rfl (co_act im1 n h (hp.h hh)) rfl (Nat.le_of_ble_eq_true rfl) (Nat.le_of_ble_eq_true rfl) rfl (Nat.le_of_ble_eq_true rfl) rfl dX8_cast_17 (q := 20) rfl ?_
    intro im2 ha
    have e471 : im2 471 = im 471 := (zAct_s ha.2.2).trans hp.s
    refine zz_aload_0 S dX8_cast_20 (q := 21) rfl ?_
    -- at 21: invokevirtual 184
    refine zz_virtI S yy_X8_castNow lX8_184 (ci := 8) (by decide) rfl (co_castNow nc im2 (by rw [e471]; exact hI.2.2.1) hI.2.2.2.1) rfl (Nat.le_of_ble_eq_true rfl) (Nat.le_of_ble_eq_true rfl) rfl (Nat.le_of_ble_eq_true rfl) rfl dX8_cast_21 (q := 24) rfl ?_
    rintro r im3 ⟨rfl, hb, hc⟩
    refine zz_iret S dX8_cast_24 ⟨rfl, _, rfl, rfl, ?_⟩
    show zPQ _ _ _ _
    rw [ox_cas, if_pos h1]
    exact ⟨by rw [e471], zP_act hp ha (by rw [hb, e471]) hc⟩
  · refine zz_iload_1 S dX8_cast_14 (q := 15) rfl ?_
    -- at 15: ireturn 
    refine zz_iret S dX8_cast_15 ⟨rfl, _, rfl, rfl, ?_⟩
    show zPQ _ _ _ _
    rw [ox_cas, if_neg h1]
    exact ⟨rfl, zP_same hp hh⟩
theorem co_deliver (x : Int32) (im : ZI) (n nw nc : Nat) (h : Nat → ZSt) (hh : zm_h im n h) (hI : sI (im 471) nw nc) : zz_OI G l 3 mX8_deliver [.ref 470, .int x] zE im (fun r im' => zPQ im im' r (ox_del (im 471) n h nc x)) := by
  have hn10 := hI.2.2.2.1
  refine zz_intro (isI := false) (by decide) rfl (Nat.le_of_ble_eq_true rfl) (fun h => by cases h) (fun w S => ?_)
  refine zz_aload_0 S dX8_deliver_0 (q := 1) rfl ?_
  refine zz_iconst S (v := 0) rfl dX8_deliver_1 (q := 2) rfl ?_
  refine zz_putI S fX8_35 rfl rfl (Nat.le_of_ble_eq_true rfl) rfl dX8_deliver_2 (q := 5) rfl ?_
  refine zz_aload_0 S dX8_deliver_5 (q := 6) rfl ?_
  refine zz_iload_1 S dX8_deliver_6 (q := 7) rfl ?_
  refine zz_iconst S (v := 2) rfl dX8_deliver_7 (q := 8) rfl ?_
  -- at 8: invokevirtual 169
  refine zz_virtP S yy_X8_stateCode lX8_169 (ci := 8) (by decide) rfl (co_stateCode x 2 nc (zz_u im 470 0 0) (by rw [(zPre.t im).s]; exact hI.2.2.1) hI.2.2.2.1) rfl (Nat.le_of_ble_eq_true rfl) (Nat.le_of_ble_eq_true rfl) rfl (Nat.le_of_ble_eq_true rfl) rfl dX8_deliver_8 (q := 11) rfl ?_
  rw [(zPre.t im).s]
  refine zz_istore_2 S rfl dX8_deliver_11 (q := 12) rfl ?_
  refine zz_iload_2 S dX8_deliver_12 (q := 13) rfl ?_
  refine zz_if_ge S dX8_deliver_13 (t := 18) (by decide) (q := 16) rfl (fun h1 => ?_) (fun h1 => ?_)
  -- then 18 else 16
  · obtain ⟨k, hk, ek, -⟩ := op_cSt_ok hI.2.2.1 hI.2.2.2.1 h1
    have ec : x.toNatClampNeg = k := by rw [ek]; exact nI_clamp (by omega)
    refine zz_aload_0 S dX8_deliver_18 (q := 19) rfl ?_
    -- at 19: invokevirtual 95
    refine zz_virtV S yy_X8_act lX8_95 (ci := 8) (by decide) rfl (co_act (zz_u im 470 0 0) n h ((zPre.t im).h hh)) rfl (Nat.le_of_ble_eq_true rfl) (Nat.le_of_ble_eq_true rfl) rfl (Nat.le_of_ble_eq_true rfl) rfl dX8_deliver_19 (q := 22) rfl ?_
    intro im2 ha
    have e471 : im2 471 = im 471 := (zAct_s ha.2.2).trans (zPre.t im).s
    refine zz_aload_0 S dX8_deliver_22 (q := 23) rfl ?_
    refine zz_iload_1 S dX8_deliver_23 (q := 24) rfl ?_
    -- at 24: invokevirtual 190
    refine zz_virtI S yy_X8_deliverNow lX8_190 (ci := 8) (by decide) rfl (co_deliverNow x k nc im2 ek (by rw [e471]; exact hI.2.2.1) hI.2.2.2.1 hk) rfl (Nat.le_of_ble_eq_true rfl) (Nat.le_of_ble_eq_true rfl) rfl (Nat.le_of_ble_eq_true rfl) rfl dX8_deliver_24 (q := 27) rfl ?_
    rintro r im3 ⟨rfl, hb, hc⟩
    refine zz_iret S dX8_deliver_27 ⟨rfl, _, rfl, rfl, ?_⟩
    show zPQ _ _ _ _
    rw [ox_del, if_pos h1, ec]
    exact ⟨by rw [e471], zP_act (zPre.t im) ha (by rw [hb, e471]) hc⟩
  · refine zz_iload_2 S dX8_deliver_16 (q := 17) rfl ?_
    -- at 17: ireturn 
    refine zz_iret S dX8_deliver_17 ⟨rfl, _, rfl, rfl, ?_⟩
    show zPQ _ _ _ _
    rw [ox_del, if_neg h1]
    exact ⟨rfl, zP_same (zPre.t im) hh⟩
end ZPUB
