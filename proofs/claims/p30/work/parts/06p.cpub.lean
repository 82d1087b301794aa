/-! THE CLASS: public actions -/
def isErr (x : Int32) : Prop := x = -100001 ∨ x = -100002 ∨ x = -100003
theorem ne_err {x : Int32} (h : -1000 ≤ x.toInt) : ¬ isErr x := by
  have e1 : ((-100001 : Int32)).toInt = -100001 := rfl
  have e2 : ((-100002 : Int32)).toInt = -100002 := rfl
  have e3 : ((-100003 : Int32)).toInt = -100003 := rfl
  rintro (e | e | e)
  · rw [e] at h; omega
  · rw [e] at h; omega
  · rw [e] at h; omega
theorem ne_err0 {x : Int32} (h : x ≥ 0) : ¬ isErr x := ne_err (by have := Int32.le_iff_toInt_le.mp h; have e : (0 : Int32).toInt = 0 := rfl; omega)
def zQR (im im' : ZI) (r x : Int32) (f n : Nat) : Prop := r = x ∧ (isErr x → im' = im) ∧ (¬ isErr x → im' 67 1 = nI ((f + 1) % 6) ∧ im' 67 2 = nI (sh_n n) ∧ ∀ k, k ≠ 67 → im' k = im k)
def zHi (im im' : ZI) : Prop := ∀ k, 470 ≤ k → im' k = im k
def zXQ (im im' : ZI) (r : Int32) (o : ZQ) (len : Nat) (tx : Nat → Int32) : Prop := r = o.1 ∧ zX im' o.2.1 o.2.2.1 o.2.2.2 len tx ∧ zHi im im'
theorem zX_fin {im im1 im1' im2 im3 : ZI} {s s' : ZSt} {f n len nw' nc' : Nat} {h : Nat → ZSt} {tx : Nat → Int32} {r r3 cd ans : Int32} (hT : rT im 1 s) (hR : zRg im f n h) (hP : zPg im len tx) (hc : zCpS im im1 (69 + 66 * f) 1) (hj : zz_keep [468, 469] im1 im1')
    (hA : zA im1' im2 r cd ans s' nw' nc') (hS : cd ≥ 0 → sI s' nw' nc' ∧ (∀ j, 118 ≤ j → s' j = s j) ∧ ¬ isErr ans) (hE : ¬ cd ≥ 0 → isErr cd) (hq : zQR im2 im3 r3 r f n) : zXQ im im3 r3 (if cd ≥ 0 then (ans, s', sh_n n, sh_p n h s) else (cd, s, n, h)) len tx := by
  obtain ⟨hT1, hR1, hP1, hM1⟩ := zX_mark hT hR hP hc
  have hf := hR.1
  obtain ⟨q1, q2, q3⟩ := hq
  obtain ⟨a1, a2⟩ := hA
  have hFd : zFd im1 im2 := fun k a b c => by rw [a1 k a, hj k (by simp; omega)]
  obtain ⟨hR2, hP2, hM2⟩ := hFd.r hR1 hP1 hM1
  have hHi : zHi im im2 := fun k hk => by rw [a1 k (by omega), hj k (by simp; omega), hc.2 k (by omega)]
  have hT1' : rT im1' 1 s := hT1.keep (fun k a b => hj k (by simp; omega))
  by_cases hcd : cd ≥ 0
  · rw [if_pos hcd] at a2 ⊢
    obtain ⟨hI', hs', hne⟩ := hS hcd
    obtain ⟨rfl, hr'⟩ := a2
    obtain ⟨k1, k2, k3⟩ := q3 hne
    have hT2 : rT im2 1 s' := hT1'.act a1 hr' hI' hs'
    refine ⟨q1, ⟨hT2.keep (fun k a b => k3 k (by omega)), ⟨_, zX_keep hR2 hM2 k1 k2 k3⟩, ?_⟩, fun k hk => by rw [k3 k (by omega), hHi k hk]⟩
    obtain ⟨p1, p2, p3, p4⟩ := hP2
    exact ⟨by rw [k3 465 (by omega)]; exact p1, p2, fun j hj => by rw [k3 466 (by omega)]; exact p3 j hj, p4⟩
  · rw [if_neg hcd] at a2 ⊢
    obtain ⟨rfl, rfl⟩ := a2
    have he := q2 (hE hcd)
    subst he
    exact ⟨q1, ⟨hT1', ⟨f, hR2⟩, hP2⟩, hHi⟩
theorem zXQ.h {im im' : ZI} {r : Int32} {o o' : ZQ} {len : Nat} {tx : Nat → Int32} (h : zXQ im im' r o len tx) (e : o = o') : zXQ im im' r o' len tx := e ▸ h
theorem cd_ge {cd : Int32} {p : Prop} [Decidable p] (h : cd = if p then 0 else -100001) : (cd ≥ 0 ↔ p) ∧ (¬ cd ≥ 0 → isErr cd) := by
  by_cases hp : p
  · rw [if_pos hp] at h
    exact ⟨⟨fun _ => hp, fun _ => by rw [h]; decide⟩, fun e => absurd (by rw [h]; decide) e⟩
  · rw [if_neg hp] at h
    exact ⟨⟨fun e => absurd e (by rw [h]; decide), fun e => absurd e hp⟩, fun _ => Or.inl h⟩
theorem cSt_err {s : ZSt} {x st : Int32} (h : ¬ op_cSt s x st ≥ 0) : isErr (op_cSt s x st) := by
  unfold op_cSt at *
  split
  · rename_i h1
    rw [if_pos h1] at h
    split
    · rename_i h2
      rw [if_pos h2] at h
      exact absurd (by decide) h
    · exact Or.inr (Or.inl rfl)
  · exact Or.inl rfl
theorem cWall_err {s : ZSt} (h : ¬ op_cWall s ≥ 0) : isErr (op_cWall s) := by
  unfold op_cWall at *
  by_cases h1 : s 0 = 6
  · rw [if_pos h1]
    exact Or.inr (Or.inr rfl)
  · rw [if_neg h1] at h
    exact absurd (by decide) h
theorem cMeas_err {s : ZSt} {x v : Int32} (h : ¬ op_cMeas s x v ≥ 0) : isErr (op_cMeas s x v) := by
  unfold op_cMeas at *
  by_cases h1 : (x ≥ 0 ∧ x ≤ s 0 - 1) ∧ v ≥ -60 ∧ v ≤ 60
  · rw [if_pos h1] at h
    exact absurd (by decide) h
  · rw [if_neg h1]
    exact Or.inl rfl
theorem cAsk_err {s : ZSt} {la x sz lo : Int32} (h : ¬ op_cAsk s la x sz lo ≥ 0) : isErr (op_cAsk s la x sz lo) := by
  unfold op_cAsk at *
  by_cases h1 : (la ≥ 10 ∧ la ≤ 70) ∧ (x = -1 ∨ x ≥ 0 ∧ x ≤ s 0 - 1) ∧ (sz ≥ 10 ∧ sz ≤ 60) ∧ lo ≥ -60 ∧ lo ≤ 60
  · rw [if_pos h1] at h ⊢
    by_cases h2 : s 1 = 10
    · rw [if_pos h2]
      exact Or.inr (Or.inr rfl)
    · rw [if_neg h2] at h
      exact absurd (by decide) h
  · rw [if_neg h1]
    exact Or.inl rfl
theorem cCas_err {s : ZSt} {nc : Nat} (h : ¬ op_cCas s nc ≥ 0) : isErr (op_cCas s nc) := by
  unfold op_cCas at *
  by_cases h1 : (op_ml s nc (op_st s)).1 = 0
  · rw [if_pos h1]
    exact Or.inr (Or.inl rfl)
  · rw [if_neg h1] at h
    exact absurd (by decide) h
theorem sp_re_again {s : ZSt} {nw nc c : Nat} (hI : sI s nw nc) (hc : c < nc) (h4 : s (38 + 8 * c + 4) = 4) : sp_re (op_again s c) c = sp_re s c := by
  have hC := hI.2.2.2.2.2.2.2 c hc
  have hw := hI.2.1
  have e : ∀ j, j ≠ 38 + 8 * c + 4 → op_again s c j = s j := fun j hj => u_ne _ _ hj
  have ed : sp_de (op_again s c) c = sp_de s c := by
    unfold sp_de
    rw [e _ (by omega)]
    by_cases h1 : s (38 + 8 * c + 1) = -1
    · rw [if_pos h1, if_pos h1]
    · rw [if_neg h1, if_neg h1, if_neg (show ¬ (s (38 + 8 * c + 4) ≥ 1 ∧ s (38 + 8 * c + 4) ≤ 3) by rw [h4]; decide), if_neg (show ¬ (op_again s c (38 + 8 * c + 4) ≥ 1 ∧ op_again s c (38 + 8 * c + 4) ≤ 3) by rw [show op_again s c (38 + 8 * c + 4) = 0 from u_eq _ _ _]; decide)]
      obtain ⟨w, hw2, ew⟩ := hC.2.1.resolve_left h1
      rw [zs_cl ew (by omega)]
      unfold sp_wd
      rw [e _ (by omega), e _ (by omega), e _ (by omega), e _ (by omega)]
  unfold sp_re sp_dial sp_wt
  rw [ed, e _ (by omega), e _ (by omega), e _ (by omega), e _ (by omega), e _ (by omega), e _ (by omega)]
section ZCPB
variable {G : ZG} {l : Launch}
theorem cx_recorded (x : Int32) (f n : Nat) (im : ZI) (hf : f < 6) (hn : n ≤ 5) (h1 : im 67 1 = nI f) (h2 : im 67 2 = nI n) : zz_OI G l 2 mX7_recorded [.ref 0, .int x] zE im (fun r im' => zQR im im' r x f n) := by
  refine zz_intro (isI := false) (by decide) rfl (Nat.le_of_ble_eq_true rfl) (fun h => by cases h) (fun w S => ?_)
  refine zz_iload_1 S dX7_recorded_0 (q := 1) rfl ?_
  -- at 1: invokestatic 124
  refine zz_statP S yy_X7_isError lX7_124 (cx_isError x zE im) rfl (Nat.le_of_ble_eq_true rfl) (Nat.le_of_ble_eq_true rfl) rfl dX7_recorded_1 (q := 4) rfl ?_
  refine zz_if_ne S dX7_recorded_4 (t := 14) (by decide) (q := 7) rfl (fun b1 => ?_) (fun b1 => ?_)
  -- then 14 else 7
  · refine zz_iload_1 S dX7_recorded_14 (q := 15) rfl ?_
    -- at 15: ireturn 
    refine zz_iret S dX7_recorded_15 ⟨rfl, _, rfl, rfl, ?_⟩
    exact ⟨rfl, fun _ => rfl, fun e => absurd (zs_ne0 b1) e⟩
  · have b2 : ¬ isErr x := fun e => zs_b1.mp b1 e
    refine zz_aload_0 S dX7_recorded_7 (q := 8) rfl ?_
    refine zz_getR S fX7_19 rfl (Nat.le_of_ble_eq_true rfl) rfl rfl dX7_recorded_8 (q := 11) rfl ?_
    -- at 11: invokevirtual 128
    refine zz_virtV S yy_X2_keepMarked lX7_128 (ci := 2) (by decide) rfl (cx_keep f n im hf hn h1 h2) rfl (Nat.le_of_ble_eq_true rfl) (Nat.le_of_ble_eq_true rfl) rfl (Nat.le_of_ble_eq_true rfl) rfl dX7_recorded_11 (q := 14) rfl ?_
    intro im1 hk
    refine zz_iload_1 S dX7_recorded_14 (q := 15) rfl ?_
    -- at 15: ireturn 
    refine zz_iret S dX7_recorded_15 ⟨rfl, _, rfl, rfl, ?_⟩
    exact ⟨rfl, fun e => absurd e b2, fun _ => hk⟩
theorem mark_67 {im im1 : ZI} {f : Nat} (hc : zCpS im im1 (69 + 66 * f) 1) (j : Nat) : im1 67 j = im 67 j := by rw [hc.2 67 (by omega)]
set_option maxHeartbeats 1000000 in
theorem cx_psetCorrection (x v : Int32) (f n len nw nc : Nat) (h : Nat → ZSt) (s : ZSt) (tx : Nat → Int32) (im : ZI) (hT : rT im 1 s) (hR : zRg im f n h) (hP : zPg im len tx) (hI : sI s nw nc) (hr : rS im 2 s nw nc) : zz_OI G l 4 mX7_setCorrection [.ref 0, .int x, .int v] zE im (fun r im' => zXQ im im' r (ox_corr s n h x v) len tx) := by
  have hf := hR.1
  have hw := hI.2.1
  have hn := hI.2.2.2.1
  refine zz_intro (isI := false) (by decide) rfl (Nat.le_of_ble_eq_true rfl) (fun h => by cases h) (fun w S => ?_)
  refine zz_aload_0 S dX7_setCorrection_0 (q := 1) rfl ?_
  refine zz_getR S fX7_19 rfl (Nat.le_of_ble_eq_true rfl) rfl rfl dX7_setCorrection_1 (q := 4) rfl ?_
  refine zz_aload_0 S dX7_setCorrection_4 (q := 5) rfl ?_
  refine zz_getR S fX7_10 rfl (Nat.le_of_ble_eq_true rfl) rfl rfl dX7_setCorrection_5 (q := 8) rfl ?_
  -- at 8: invokevirtual 42
  refine zz_virtV S yy_X2_mark lX7_42 (ci := 2) (by decide) rfl (cx_mark f im hf hR.2.1 hT.f01) rfl (Nat.le_of_ble_eq_true rfl) (Nat.le_of_ble_eq_true rfl) rfl (Nat.le_of_ble_eq_true rfl) rfl dX7_setCorrection_8 (q := 11) rfl ?_
  intro im1 hc
  have hr1 : rS im1 2 s nw nc := hr.keep hw hn (fun k a b => hc.2 k (by omega))
  refine zz_aload_0 S dX7_setCorrection_11 (q := 12) rfl ?_
  refine zz_aload_0 S dX7_setCorrection_12 (q := 13) rfl ?_
  refine zz_getR S fX7_41 rfl (Nat.le_of_ble_eq_true rfl) rfl rfl dX7_setCorrection_13 (q := 16) rfl ?_
  refine zz_iload_1 S dX7_setCorrection_16 (q := 17) rfl ?_
  refine zz_iload_2 S dX7_setCorrection_17 (q := 18) rfl ?_
  -- at 18: invokevirtual 46
  have hj : zz_keep [468, 469] im1 im1 := zz_keep.rf
  refine zz_virtI S yy_X4_changeCorrection lX7_46 (ci := 4) (by decide) rfl (cx_chCor x v nw nc s im1 hI hr1) rfl (Nat.le_of_ble_eq_true rfl) (Nat.le_of_ble_eq_true rfl) rfl (Nat.le_of_ble_eq_true rfl) rfl dX7_setCorrection_18 (q := 21) rfl ?_
  intro r im2 hA
  refine zz_virtI S yy_X7_recorded lX7_52 (ci := 7) (by decide) rfl (cx_recorded r f n im2 hf hR.2.2.1 (by rw [hA.1 67 (by omega), mark_67 hc]; exact hR.2.1) (by rw [hA.1 67 (by omega), mark_67 hc]; exact hR.2.2.2.1)) rfl (Nat.le_of_ble_eq_true rfl) (Nat.le_of_ble_eq_true rfl) rfl (Nat.le_of_ble_eq_true rfl) rfl dX7_setCorrection_21 (q := 24) rfl ?_
  intro r3 im3 hq
  refine zz_iret S dX7_setCorrection_24 ⟨rfl, _, rfl, rfl, ?_⟩
  exact (zX_fin hT hR hP hc hj hA (fun hcd => ⟨by
    have q := ((cd_ge rfl).1.mp hcd)
    obtain ⟨k, hk, hx⟩ := zs_inr (k := 11) (by omega) q.1
    rw [zs_cl hx (by omega)]
    exact sI_corr hI (by omega) ⟨by have := Int32.le_iff_toInt_le.mp q.2.1; simpa using this, by have := Int32.le_iff_toInt_le.mp q.2.2; simpa using this⟩, fun j hj => by
    have q := ((cd_ge rfl).1.mp hcd)
    obtain ⟨k, hk, hx⟩ := zs_inr (k := 11) (by omega) q.1
    rw [zs_cl hx (by omega)]
    exact u_ne _ _ (by omega), by
    have q := ((cd_ge rfl).1.mp hcd)
    obtain ⟨k, hk, hx⟩ := zs_inr (k := 11) (by omega) q.1
    rw [zs_cl hx (by omega)]
    exact ne_err (by have := (hI.2.2.2.2.2.1 k (by omega)).1; omega)⟩) ((cd_ge rfl).2) hq).h (by
    unfold ox_corr
    by_cases c : (x ≥ 0 ∧ x ≤ 11) ∧ v ≥ -20 ∧ v ≤ 20
    · rw [if_pos c, if_pos c, if_pos (by decide)]
    · rw [if_neg c, if_neg c, if_neg (by decide)])
set_option maxHeartbeats 1000000 in
theorem cx_pset (x v : Int32) (f n len nw nc : Nat) (h : Nat → ZSt) (s : ZSt) (tx : Nat → Int32) (im : ZI) (hT : rT im 1 s) (hR : zRg im f n h) (hP : zPg im len tx) (hI : sI s nw nc) (hr : rS im 2 s nw nc) : zz_OI G l 4 mX7_set [.ref 0, .int x, .int v] zE im (fun r im' => zXQ im im' r (ox_set s n h x v) len tx) := by
  have hf := hR.1
  have hw := hI.2.1
  have hn := hI.2.2.2.1
  refine zz_intro (isI := false) (by decide) rfl (Nat.le_of_ble_eq_true rfl) (fun h => by cases h) (fun w S => ?_)
  refine zz_aload_0 S dX7_set_0 (q := 1) rfl ?_
  refine zz_getR S fX7_19 rfl (Nat.le_of_ble_eq_true rfl) rfl rfl dX7_set_1 (q := 4) rfl ?_
  refine zz_aload_0 S dX7_set_4 (q := 5) rfl ?_
  refine zz_getR S fX7_10 rfl (Nat.le_of_ble_eq_true rfl) rfl rfl dX7_set_5 (q := 8) rfl ?_
  -- at 8: invokevirtual 42
  refine zz_virtV S yy_X2_mark lX7_42 (ci := 2) (by decide) rfl (cx_mark f im hf hR.2.1 hT.f01) rfl (Nat.le_of_ble_eq_true rfl) (Nat.le_of_ble_eq_true rfl) rfl (Nat.le_of_ble_eq_true rfl) rfl dX7_set_8 (q := 11) rfl ?_
  intro im1 hc
  have hr1 : rS im1 2 s nw nc := hr.keep hw hn (fun k a b => hc.2 k (by omega))
  refine zz_aload_0 S dX7_set_11 (q := 12) rfl ?_
  refine zz_aload_0 S dX7_set_12 (q := 13) rfl ?_
  refine zz_getR S fX7_41 rfl (Nat.le_of_ble_eq_true rfl) rfl rfl dX7_set_13 (q := 16) rfl ?_
  refine zz_iload_1 S dX7_set_16 (q := 17) rfl ?_
  refine zz_iload_2 S dX7_set_17 (q := 18) rfl ?_
  -- at 18: invokevirtual 56
  have hj : zz_keep [468, 469] im1 im1 := zz_keep.rf
  refine zz_virtI S yy_X4_changeSetting lX7_56 (ci := 4) (by decide) rfl (cx_chSet x v nw nc s im1 hI hr1) rfl (Nat.le_of_ble_eq_true rfl) (Nat.le_of_ble_eq_true rfl) rfl (Nat.le_of_ble_eq_true rfl) rfl dX7_set_18 (q := 21) rfl ?_
  intro r im2 hA
  refine zz_virtI S yy_X7_recorded lX7_52 (ci := 7) (by decide) rfl (cx_recorded r f n im2 hf hR.2.2.1 (by rw [hA.1 67 (by omega), mark_67 hc]; exact hR.2.1) (by rw [hA.1 67 (by omega), mark_67 hc]; exact hR.2.2.2.1)) rfl (Nat.le_of_ble_eq_true rfl) (Nat.le_of_ble_eq_true rfl) rfl (Nat.le_of_ble_eq_true rfl) rfl dX7_set_21 (q := 24) rfl ?_
  intro r3 im3 hq
  refine zz_iret S dX7_set_24 ⟨rfl, _, rfl, rfl, ?_⟩
  exact (zX_fin hT hR hP hc hj hA (fun hcd => ⟨by
    have q := ((cd_ge rfl).1.mp hcd)
    obtain ⟨k, hk, hx⟩ := zs_inr (k := 3) (by omega) q.1
    rw [zs_cl hx (by omega)]
    exact sI_set hI (by omega) (by rw [← hx]; exact q.2.1) (by rw [← hx]; exact q.2.2), fun j hj => by
    have q := ((cd_ge rfl).1.mp hcd)
    obtain ⟨k, hk, hx⟩ := zs_inr (k := 3) (by omega) q.1
    rw [zs_cl hx (by omega)]
    exact u_ne _ _ (by omega), by
    have q := ((cd_ge rfl).1.mp hcd)
    obtain ⟨k, hk, hx⟩ := zs_inr (k := 3) (by omega) q.1
    rw [zs_cl hx (by omega)]
    obtain ⟨z1, z2, z3, z4⟩ := hI.2.2.2.2.1
    rcases (show k = 0 ∨ k = 1 ∨ k = 2 ∨ k = 3 by omega) with rfl | rfl | rfl | rfl
    · exact ne_err (x := s 4) (by have := z1.1; omega)
    · exact ne_err (x := s 5) (by have := z2.1; omega)
    · exact ne_err (x := s 6) (by have := z3.1; omega)
    · exact ne_err (x := s 7) (by have := z4.1; omega)⟩) ((cd_ge rfl).2) hq).h (by
    unfold ox_set
    by_cases c : (x ≥ 0 ∧ x ≤ 3) ∧ v ≥ sp_least x ∧ v ≤ sp_most x
    · rw [if_pos c, if_pos c, if_pos (by decide)]
    · rw [if_neg c, if_neg c, if_neg (by decide)])
set_option maxHeartbeats 1000000 in
theorem cx_paddWall (f n len nw nc : Nat) (h : Nat → ZSt) (s : ZSt) (tx : Nat → Int32) (im : ZI) (hT : rT im 1 s) (hR : zRg im f n h) (hP : zPg im len tx) (hI : sI s nw nc) (hr : rS im 2 s nw nc) : zz_OI G l 4 mX7_addWall [.ref 0] zE im (fun r im' => zXQ im im' r (ox_wall s n h nw) len tx) := by
  have hf := hR.1
  have hw := hI.2.1
  have hn := hI.2.2.2.1
  refine zz_intro (isI := false) (by decide) rfl (Nat.le_of_ble_eq_true rfl) (fun h => by cases h) (fun w S => ?_)
  refine zz_aload_0 S dX7_addWall_0 (q := 1) rfl ?_
  refine zz_getR S fX7_19 rfl (Nat.le_of_ble_eq_true rfl) rfl rfl dX7_addWall_1 (q := 4) rfl ?_
  refine zz_aload_0 S dX7_addWall_4 (q := 5) rfl ?_
  refine zz_getR S fX7_10 rfl (Nat.le_of_ble_eq_true rfl) rfl rfl dX7_addWall_5 (q := 8) rfl ?_
  -- at 8: invokevirtual 42
  refine zz_virtV S yy_X2_mark lX7_42 (ci := 2) (by decide) rfl (cx_mark f im hf hR.2.1 hT.f01) rfl (Nat.le_of_ble_eq_true rfl) (Nat.le_of_ble_eq_true rfl) rfl (Nat.le_of_ble_eq_true rfl) rfl dX7_addWall_8 (q := 11) rfl ?_
  intro im1 hc
  have hr1 : rS im1 2 s nw nc := hr.keep hw hn (fun k a b => hc.2 k (by omega))
  refine zz_aload_0 S dX7_addWall_11 (q := 12) rfl ?_
  refine zz_aload_0 S dX7_addWall_12 (q := 13) rfl ?_
  refine zz_getR S fX7_41 rfl (Nat.le_of_ble_eq_true rfl) rfl rfl dX7_addWall_13 (q := 16) rfl ?_
  -- at 16: invokevirtual 59
  have hj : zz_keep [468, 469] im1 im1 := zz_keep.rf
  refine zz_virtI S yy_X4_openWall lX7_59 (ci := 4) (by decide) rfl (cx_openWall nw nc s im1 hI hr1) rfl (Nat.le_of_ble_eq_true rfl) (Nat.le_of_ble_eq_true rfl) rfl (Nat.le_of_ble_eq_true rfl) rfl dX7_addWall_16 (q := 19) rfl ?_
  intro r im2 hA
  refine zz_virtI S yy_X7_recorded lX7_52 (ci := 7) (by decide) rfl (cx_recorded r f n im2 hf hR.2.2.1 (by rw [hA.1 67 (by omega), mark_67 hc]; exact hR.2.1) (by rw [hA.1 67 (by omega), mark_67 hc]; exact hR.2.2.2.1)) rfl (Nat.le_of_ble_eq_true rfl) (Nat.le_of_ble_eq_true rfl) rfl (Nat.le_of_ble_eq_true rfl) rfl dX7_addWall_19 (q := 22) rfl ?_
  intro r3 im3 hq
  refine zz_iret S dX7_addWall_22 ⟨rfl, _, rfl, rfl, ?_⟩
  exact (zX_fin hT hR hP hc hj hA (fun hcd => ⟨sI_wall hI (op_cWall_ok hI.1 hw hcd), fun j hj => by
    have := op_cWall_ok hI.1 hw hcd
    rw [op_wall, u_ne _ _ (by omega), u_ne _ _ (by omega), u_ne _ _ (by omega), u_ne _ _ (by omega)], ne_err0 (nI_pos' (by omega))⟩) cWall_err hq).h rfl
set_option maxHeartbeats 1000000 in
theorem cx_pmeasure (x v : Int32) (f n len nw nc : Nat) (h : Nat → ZSt) (s : ZSt) (tx : Nat → Int32) (im : ZI) (hT : rT im 1 s) (hR : zRg im f n h) (hP : zPg im len tx) (hI : sI s nw nc) (hr : rS im 2 s nw nc) : zz_OI G l 4 mX7_measure [.ref 0, .int x, .int v] zE im (fun r im' => zXQ im im' r (ox_meas s n h x v) len tx) := by
  have hf := hR.1
  have hw := hI.2.1
  have hn := hI.2.2.2.1
  refine zz_intro (isI := false) (by decide) rfl (Nat.le_of_ble_eq_true rfl) (fun h => by cases h) (fun w S => ?_)
  refine zz_aload_0 S dX7_measure_0 (q := 1) rfl ?_
  refine zz_getR S fX7_19 rfl (Nat.le_of_ble_eq_true rfl) rfl rfl dX7_measure_1 (q := 4) rfl ?_
  refine zz_aload_0 S dX7_measure_4 (q := 5) rfl ?_
  refine zz_getR S fX7_10 rfl (Nat.le_of_ble_eq_true rfl) rfl rfl dX7_measure_5 (q := 8) rfl ?_
  -- at 8: invokevirtual 42
  refine zz_virtV S yy_X2_mark lX7_42 (ci := 2) (by decide) rfl (cx_mark f im hf hR.2.1 hT.f01) rfl (Nat.le_of_ble_eq_true rfl) (Nat.le_of_ble_eq_true rfl) rfl (Nat.le_of_ble_eq_true rfl) rfl dX7_measure_8 (q := 11) rfl ?_
  intro im1 hc
  have hr1 : rS im1 2 s nw nc := hr.keep hw hn (fun k a b => hc.2 k (by omega))
  refine zz_aload_0 S dX7_measure_11 (q := 12) rfl ?_
  refine zz_aload_0 S dX7_measure_12 (q := 13) rfl ?_
  refine zz_getR S fX7_41 rfl (Nat.le_of_ble_eq_true rfl) rfl rfl dX7_measure_13 (q := 16) rfl ?_
  refine zz_iload_1 S dX7_measure_16 (q := 17) rfl ?_
  refine zz_iload_2 S dX7_measure_17 (q := 18) rfl ?_
  -- at 18: invokevirtual 63
  have hj : zz_keep [468, 469] im1 im1 := zz_keep.rf
  refine zz_virtI S yy_X4_measureWall lX7_63 (ci := 4) (by decide) rfl (cx_measureWall x v nw nc s im1 hI hr1) rfl (Nat.le_of_ble_eq_true rfl) (Nat.le_of_ble_eq_true rfl) rfl (Nat.le_of_ble_eq_true rfl) rfl dX7_measure_18 (q := 21) rfl ?_
  intro r im2 hA
  refine zz_virtI S yy_X7_recorded lX7_52 (ci := 7) (by decide) rfl (cx_recorded r f n im2 hf hR.2.2.1 (by rw [hA.1 67 (by omega), mark_67 hc]; exact hR.2.1) (by rw [hA.1 67 (by omega), mark_67 hc]; exact hR.2.2.2.1)) rfl (Nat.le_of_ble_eq_true rfl) (Nat.le_of_ble_eq_true rfl) rfl (Nat.le_of_ble_eq_true rfl) rfl dX7_measure_21 (q := 24) rfl ?_
  intro r3 im3 hq
  refine zz_iret S dX7_measure_24 ⟨rfl, _, rfl, rfl, ?_⟩
  exact (zX_fin hT hR hP hc hj hA (fun hcd => ⟨by
    obtain ⟨k, hk, ek, hb⟩ := op_cMeas_ok hI.1 hw hcd
    rw [zs_cl ek (by omega)]
    exact sI_meas hI hk hb, fun j hj => by
    obtain ⟨k, hk, ek, hb⟩ := op_cMeas_ok hI.1 hw hcd
    rw [zs_cl ek (by omega), op_meas, u_ne _ _ (by omega), u_ne _ _ (by omega), u_ne _ _ (by omega)], by
    apply ne_err0
    unfold op_rMeas
    split
    · decide
    · decide⟩) cMeas_err hq).h rfl
set_option maxHeartbeats 1000000 in
theorem cx_pask (la x sz lo : Int32) (f n len nw nc : Nat) (h : Nat → ZSt) (s : ZSt) (tx : Nat → Int32) (im : ZI) (hT : rT im 1 s) (hR : zRg im f n h) (hP : zPg im len tx) (hI : sI s nw nc) (hr : rS im 2 s nw nc) : zz_OI G l 4 mX7_ask [.ref 0, .int la, .int x, .int sz, .int lo] zE im (fun r im' => zXQ im im' r (ox_ask s n h nc la x sz lo) len tx) := by
  have hf := hR.1
  have hw := hI.2.1
  have hn := hI.2.2.2.1
  refine zz_intro (isI := false) (by decide) rfl (Nat.le_of_ble_eq_true rfl) (fun h => by cases h) (fun w S => ?_)
  refine zz_aload_0 S dX7_ask_0 (q := 1) rfl ?_
  refine zz_getR S fX7_19 rfl (Nat.le_of_ble_eq_true rfl) rfl rfl dX7_ask_1 (q := 4) rfl ?_
  refine zz_aload_0 S dX7_ask_4 (q := 5) rfl ?_
  refine zz_getR S fX7_10 rfl (Nat.le_of_ble_eq_true rfl) rfl rfl dX7_ask_5 (q := 8) rfl ?_
  -- at 8: invokevirtual 42
  refine zz_virtV S yy_X2_mark lX7_42 (ci := 2) (by decide) rfl (cx_mark f im hf hR.2.1 hT.f01) rfl (Nat.le_of_ble_eq_true rfl) (Nat.le_of_ble_eq_true rfl) rfl (Nat.le_of_ble_eq_true rfl) rfl dX7_ask_8 (q := 11) rfl ?_
  intro im1 hc
  have hr1 : rS im1 2 s nw nc := hr.keep hw hn (fun k a b => hc.2 k (by omega))
  refine zz_aload_0 S dX7_ask_11 (q := 12) rfl ?_
  refine zz_aload_0 S dX7_ask_12 (q := 13) rfl ?_
  refine zz_getR S fX7_41 rfl (Nat.le_of_ble_eq_true rfl) rfl rfl dX7_ask_13 (q := 16) rfl ?_
  refine zz_iload_1 S dX7_ask_16 (q := 17) rfl ?_
  refine zz_iload_2 S dX7_ask_17 (q := 18) rfl ?_
  refine zz_iload_3 S dX7_ask_18 (q := 19) rfl ?_
  refine zz_iload_4 S dX7_ask_19 (q := 21) rfl ?_
  -- at 21: invokevirtual 66
  have hj : zz_keep [468, 469] im1 im1 := zz_keep.rf
  refine zz_virtI S yy_X4_openCommission lX7_66 (ci := 4) (by decide) rfl (cx_openCom la x sz lo nw nc s im1 hI hr1) rfl (Nat.le_of_ble_eq_true rfl) (Nat.le_of_ble_eq_true rfl) rfl (Nat.le_of_ble_eq_true rfl) rfl dX7_ask_21 (q := 24) rfl ?_
  intro r im2 hA
  refine zz_virtI S yy_X7_recorded lX7_52 (ci := 7) (by decide) rfl (cx_recorded r f n im2 hf hR.2.2.1 (by rw [hA.1 67 (by omega), mark_67 hc]; exact hR.2.1) (by rw [hA.1 67 (by omega), mark_67 hc]; exact hR.2.2.2.1)) rfl (Nat.le_of_ble_eq_true rfl) (Nat.le_of_ble_eq_true rfl) rfl (Nat.le_of_ble_eq_true rfl) rfl dX7_ask_24 (q := 27) rfl ?_
  intro r3 im3 hq
  refine zz_iret S dX7_ask_27 ⟨rfl, _, rfl, rfl, ?_⟩
  exact (zX_fin hT hR hP hc hj hA (fun hcd => ⟨by
    obtain ⟨b1, b2, b3, b4, b5⟩ := op_cAsk_ok hI.1 hw hI.2.2.1 hn hcd
    exact sI_ask hI b1 b2 b3 b4 b5, fun j hj => by
    obtain ⟨b1, b2, b3, b4, b5⟩ := op_cAsk_ok hI.1 hw hI.2.2.1 hn hcd
    exact op_ask_n (by omega) (fun _ _ => by omega), ne_err0 (nI_pos' (by omega))⟩) cAsk_err hq).h rfl
set_option maxHeartbeats 1000000 in
theorem cx_pdecide (x : Int32) (f n len nw nc : Nat) (h : Nat → ZSt) (s : ZSt) (tx : Nat → Int32) (im : ZI) (hT : rT im 1 s) (hR : zRg im f n h) (hP : zPg im len tx) (hI : sI s nw nc) (hr : rS im 2 s nw nc) : zz_OI G l 6 mX7_decide [.ref 0, .int x] zE im (fun r im' => zXQ im im' r (ox_dec s n h x) len tx) := by
  have hf := hR.1
  have hw := hI.2.1
  have hn := hI.2.2.2.1
  refine zz_intro (isI := false) (by decide) rfl (Nat.le_of_ble_eq_true rfl) (fun h => by cases h) (fun w S => ?_)
  refine zz_aload_0 S dX7_decide_0 (q := 1) rfl ?_
  refine zz_getR S fX7_19 rfl (Nat.le_of_ble_eq_true rfl) rfl rfl dX7_decide_1 (q := 4) rfl ?_
  refine zz_aload_0 S dX7_decide_4 (q := 5) rfl ?_
  refine zz_getR S fX7_10 rfl (Nat.le_of_ble_eq_true rfl) rfl rfl dX7_decide_5 (q := 8) rfl ?_
  -- at 8: invokevirtual 42
  refine zz_virtV S yy_X2_mark lX7_42 (ci := 2) (by decide) rfl (cx_mark f im hf hR.2.1 hT.f01) rfl (Nat.le_of_ble_eq_true rfl) (Nat.le_of_ble_eq_true rfl) rfl (Nat.le_of_ble_eq_true rfl) rfl dX7_decide_8 (q := 11) rfl ?_
  intro im1 hc
  have hr1 : rS im1 2 s nw nc := hr.keep hw hn (fun k a b => hc.2 k (by omega))
  refine zz_aload_0 S dX7_decide_11 (q := 12) rfl ?_
  refine zz_aload_0 S dX7_decide_12 (q := 13) rfl ?_
  refine zz_getR S fX7_41 rfl (Nat.le_of_ble_eq_true rfl) rfl rfl dX7_decide_13 (q := 16) rfl ?_
  refine zz_iload_1 S dX7_decide_16 (q := 17) rfl ?_
  refine zz_aload_0 S dX7_decide_17 (q := 18) rfl ?_
  refine zz_iload_1 S dX7_decide_18 (q := 19) rfl ?_
  -- at 19: invokevirtual 70
  refine zz_virtI S yy_X7_judge lX7_70 (ci := 7) (by decide) rfl (cx_judge x nw nc s im1 hI hr1) rfl (Nat.le_of_ble_eq_true rfl) (Nat.le_of_ble_eq_true rfl) rfl (Nat.le_of_ble_eq_true rfl) rfl dX7_decide_19 (q := 22) rfl ?_
  rintro r1 im1' ⟨rfl, hj⟩
  have hr1' : rS im1' 2 s nw nc := hr1.keep hw hn (fun k a b => hj k (by simp; omega))
  refine zz_virtI S yy_X4_conclude lX7_73 (ci := 4) (by decide) rfl (cx_conclude x (ol_reason s x) nw nc s im1' hI hr1' rfl) rfl (Nat.le_of_ble_eq_true rfl) (Nat.le_of_ble_eq_true rfl) rfl (Nat.le_of_ble_eq_true rfl) rfl dX7_decide_22 (q := 25) rfl ?_
  intro r im2 hA
  refine zz_virtI S yy_X7_recorded lX7_52 (ci := 7) (by decide) rfl (cx_recorded r f n im2 hf hR.2.2.1 (by rw [hA.1 67 (by omega), hj 67 (by decide), mark_67 hc]; exact hR.2.1) (by rw [hA.1 67 (by omega), hj 67 (by decide), mark_67 hc]; exact hR.2.2.2.1)) rfl (Nat.le_of_ble_eq_true rfl) (Nat.le_of_ble_eq_true rfl) rfl (Nat.le_of_ble_eq_true rfl) rfl dX7_decide_25 (q := 28) rfl ?_
  intro r3 im3 hq
  refine zz_iret S dX7_decide_28 ⟨rfl, _, rfl, rfl, ?_⟩
  exact (zX_fin hT hR hP hc hj hA (fun hcd => ⟨by
    obtain ⟨c, hc2, ec, hb⟩ := op_cSt_ok hI.2.2.1 hn hcd
    rw [zs_cl ec (by omega)]
    exact sI_dec hI hc2, fun j hj => by
    obtain ⟨c, hc2, ec, hb⟩ := op_cSt_ok hI.2.2.1 hn hcd
    rw [zs_cl ec (by omega)]
    unfold op_dec
    split
    · rw [u_ne _ _ (by omega), u_ne _ _ (by omega)]
    · rw [u_ne _ _ (by omega), u_ne _ _ (by omega)], ne_err0 (sp_re_ge _ _)⟩) cSt_err hq).h rfl
set_option maxHeartbeats 1000000 in
theorem cx_paskAgain (x : Int32) (f n len nw nc : Nat) (h : Nat → ZSt) (s : ZSt) (tx : Nat → Int32) (im : ZI) (hT : rT im 1 s) (hR : zRg im f n h) (hP : zPg im len tx) (hI : sI s nw nc) (hr : rS im 2 s nw nc) : zz_OI G l 6 mX7_askAgain [.ref 0, .int x] zE im (fun r im' => zXQ im im' r (ox_again s n h x) len tx) := by
  have hf := hR.1
  have hw := hI.2.1
  have hn := hI.2.2.2.1
  refine zz_intro (isI := false) (by decide) rfl (Nat.le_of_ble_eq_true rfl) (fun h => by cases h) (fun w S => ?_)
  refine zz_aload_0 S dX7_askAgain_0 (q := 1) rfl ?_
  refine zz_getR S fX7_19 rfl (Nat.le_of_ble_eq_true rfl) rfl rfl dX7_askAgain_1 (q := 4) rfl ?_
  refine zz_aload_0 S dX7_askAgain_4 (q := 5) rfl ?_
  refine zz_getR S fX7_10 rfl (Nat.le_of_ble_eq_true rfl) rfl rfl dX7_askAgain_5 (q := 8) rfl ?_
  -- at 8: invokevirtual 42
  refine zz_virtV S yy_X2_mark lX7_42 (ci := 2) (by decide) rfl (cx_mark f im hf hR.2.1 hT.f01) rfl (Nat.le_of_ble_eq_true rfl) (Nat.le_of_ble_eq_true rfl) rfl (Nat.le_of_ble_eq_true rfl) rfl dX7_askAgain_8 (q := 11) rfl ?_
  intro im1 hc
  have hr1 : rS im1 2 s nw nc := hr.keep hw hn (fun k a b => hc.2 k (by omega))
  refine zz_aload_0 S dX7_askAgain_11 (q := 12) rfl ?_
  refine zz_aload_0 S dX7_askAgain_12 (q := 13) rfl ?_
  refine zz_getR S fX7_41 rfl (Nat.le_of_ble_eq_true rfl) rfl rfl dX7_askAgain_13 (q := 16) rfl ?_
  refine zz_iload_1 S dX7_askAgain_16 (q := 17) rfl ?_
  refine zz_aload_0 S dX7_askAgain_17 (q := 18) rfl ?_
  refine zz_iload_1 S dX7_askAgain_18 (q := 19) rfl ?_
  -- at 19: invokevirtual 70
  refine zz_virtI S yy_X7_judge lX7_70 (ci := 7) (by decide) rfl (cx_judge x nw nc s im1 hI hr1) rfl (Nat.le_of_ble_eq_true rfl) (Nat.le_of_ble_eq_true rfl) rfl (Nat.le_of_ble_eq_true rfl) rfl dX7_askAgain_19 (q := 22) rfl ?_
  rintro r1 im1' ⟨rfl, hj⟩
  have hr1' : rS im1' 2 s nw nc := hr1.keep hw hn (fun k a b => hj k (by simp; omega))
  refine zz_virtI S yy_X4_reopen lX7_76 (ci := 4) (by decide) rfl (cx_reopen x (ol_reason s x) nw nc s im1' hI hr1') rfl (Nat.le_of_ble_eq_true rfl) (Nat.le_of_ble_eq_true rfl) rfl (Nat.le_of_ble_eq_true rfl) rfl dX7_askAgain_22 (q := 25) rfl ?_
  intro r im2 hA
  refine zz_virtI S yy_X7_recorded lX7_52 (ci := 7) (by decide) rfl (cx_recorded r f n im2 hf hR.2.2.1 (by rw [hA.1 67 (by omega), hj 67 (by decide), mark_67 hc]; exact hR.2.1) (by rw [hA.1 67 (by omega), hj 67 (by decide), mark_67 hc]; exact hR.2.2.2.1)) rfl (Nat.le_of_ble_eq_true rfl) (Nat.le_of_ble_eq_true rfl) rfl (Nat.le_of_ble_eq_true rfl) rfl dX7_askAgain_25 (q := 28) rfl ?_
  intro r3 im3 hq
  refine zz_iret S dX7_askAgain_28 ⟨rfl, _, rfl, rfl, ?_⟩
  exact (zX_fin hT hR hP hc hj hA (fun hcd => ⟨by
    obtain ⟨c, hc2, ec, hb⟩ := op_cSt_ok hI.2.2.1 hn hcd
    rw [zs_cl ec (by omega)]
    exact sI_again hI hc2, fun j hj => by
    obtain ⟨c, hc2, ec, hb⟩ := op_cSt_ok hI.2.2.1 hn hcd
    rw [zs_cl ec (by omega)]
    exact u_ne _ _ (by omega), by
    obtain ⟨c, hc2, ec, hb⟩ := op_cSt_ok hI.2.2.1 hn hcd
    apply ne_err0
    rw [ol_reason, hI.2.2.1, if_pos (zx_in ec hc2 (by omega))]
    exact sp_re_ge _ _⟩) cSt_err hq).h (by
    unfold ox_again
    by_cases hcd : op_cSt s x 4 ≥ 0
    · rw [if_pos hcd, if_pos hcd]
      obtain ⟨c, hc2, ec, hb⟩ := op_cSt_ok hI.2.2.1 hn hcd
      rw [zs_cl ec (by omega), sp_re_again hI hc2 hb, ol_reason, hI.2.2.1, if_pos (zx_in ec hc2 (by omega)), zs_cl ec (by omega)]
    · rw [if_neg hcd, if_neg hcd])
set_option maxHeartbeats 1000000 in
theorem cx_pcast (f n len nw nc : Nat) (h : Nat → ZSt) (s : ZSt) (tx : Nat → Int32) (im : ZI) (hT : rT im 1 s) (hR : zRg im f n h) (hP : zPg im len tx) (hI : sI s nw nc) (hr : rS im 2 s nw nc) : zz_OI G l 4 mX7_cast [.ref 0] zE im (fun r im' => zXQ im im' r (ox_cas s n h nc) len tx) := by
  have hf := hR.1
  have hw := hI.2.1
  have hn := hI.2.2.2.1
  refine zz_intro (isI := false) (by decide) rfl (Nat.le_of_ble_eq_true rfl) (fun h => by cases h) (fun w S => ?_)
  refine zz_aload_0 S dX7_cast_0 (q := 1) rfl ?_
  refine zz_getR S fX7_19 rfl (Nat.le_of_ble_eq_true rfl) rfl rfl dX7_cast_1 (q := 4) rfl ?_
  refine zz_aload_0 S dX7_cast_4 (q := 5) rfl ?_
  refine zz_getR S fX7_10 rfl (Nat.le_of_ble_eq_true rfl) rfl rfl dX7_cast_5 (q := 8) rfl ?_
  -- at 8: invokevirtual 42
  refine zz_virtV S yy_X2_mark lX7_42 (ci := 2) (by decide) rfl (cx_mark f im hf hR.2.1 hT.f01) rfl (Nat.le_of_ble_eq_true rfl) (Nat.le_of_ble_eq_true rfl) rfl (Nat.le_of_ble_eq_true rfl) rfl dX7_cast_8 (q := 11) rfl ?_
  intro im1 hc
  have hr1 : rS im1 2 s nw nc := hr.keep hw hn (fun k a b => hc.2 k (by omega))
  refine zz_aload_0 S dX7_cast_11 (q := 12) rfl ?_
  refine zz_aload_0 S dX7_cast_12 (q := 13) rfl ?_
  refine zz_getR S fX7_41 rfl (Nat.le_of_ble_eq_true rfl) rfl rfl dX7_cast_13 (q := 16) rfl ?_
  -- at 16: invokevirtual 79
  have hj : zz_keep [468, 469] im1 im1 := zz_keep.rf
  refine zz_virtI S yy_X4_castMelt lX7_79 (ci := 4) (by decide) rfl (cx_castMelt nw nc s im1 hI hr1) rfl (Nat.le_of_ble_eq_true rfl) (Nat.le_of_ble_eq_true rfl) rfl (Nat.le_of_ble_eq_true rfl) rfl dX7_cast_16 (q := 19) rfl ?_
  intro r im2 hA
  refine zz_virtI S yy_X7_recorded lX7_52 (ci := 7) (by decide) rfl (cx_recorded r f n im2 hf hR.2.2.1 (by rw [hA.1 67 (by omega), mark_67 hc]; exact hR.2.1) (by rw [hA.1 67 (by omega), mark_67 hc]; exact hR.2.2.2.1)) rfl (Nat.le_of_ble_eq_true rfl) (Nat.le_of_ble_eq_true rfl) rfl (Nat.le_of_ble_eq_true rfl) rfl dX7_cast_19 (q := 22) rfl ?_
  intro r3 im3 hq
  refine zz_iret S dX7_cast_22 ⟨rfl, _, rfl, rfl, ?_⟩
  exact (zX_fin hT hR hP hc hj hA (fun hcd => ⟨sI_cas hI, fun j hj => by
    rw [op_cas, u_ne _ _ (by omega), op_caG_far _ _ _ _ (by omega) hj], by
    apply ne_err0
    have := pc_le (ch (op_ml s nc (op_st s)).2 (op_st s)) nc
    rw [op_ml_pc]
    exact nI_pos' (by omega)⟩) cCas_err hq).h rfl
set_option maxHeartbeats 1000000 in
theorem cx_pdeliver (x : Int32) (f n len nw nc : Nat) (h : Nat → ZSt) (s : ZSt) (tx : Nat → Int32) (im : ZI) (hT : rT im 1 s) (hR : zRg im f n h) (hP : zPg im len tx) (hI : sI s nw nc) (hr : rS im 2 s nw nc) : zz_OI G l 4 mX7_deliver [.ref 0, .int x] zE im (fun r im' => zXQ im im' r (ox_del s n h nc x) len tx) := by
  have hf := hR.1
  have hw := hI.2.1
  have hn := hI.2.2.2.1
  refine zz_intro (isI := false) (by decide) rfl (Nat.le_of_ble_eq_true rfl) (fun h => by cases h) (fun w S => ?_)
  refine zz_aload_0 S dX7_deliver_0 (q := 1) rfl ?_
  refine zz_getR S fX7_19 rfl (Nat.le_of_ble_eq_true rfl) rfl rfl dX7_deliver_1 (q := 4) rfl ?_
  refine zz_aload_0 S dX7_deliver_4 (q := 5) rfl ?_
  refine zz_getR S fX7_10 rfl (Nat.le_of_ble_eq_true rfl) rfl rfl dX7_deliver_5 (q := 8) rfl ?_
  -- at 8: invokevirtual 42
  refine zz_virtV S yy_X2_mark lX7_42 (ci := 2) (by decide) rfl (cx_mark f im hf hR.2.1 hT.f01) rfl (Nat.le_of_ble_eq_true rfl) (Nat.le_of_ble_eq_true rfl) rfl (Nat.le_of_ble_eq_true rfl) rfl dX7_deliver_8 (q := 11) rfl ?_
  intro im1 hc
  have hr1 : rS im1 2 s nw nc := hr.keep hw hn (fun k a b => hc.2 k (by omega))
  refine zz_aload_0 S dX7_deliver_11 (q := 12) rfl ?_
  refine zz_aload_0 S dX7_deliver_12 (q := 13) rfl ?_
  refine zz_getR S fX7_41 rfl (Nat.le_of_ble_eq_true rfl) rfl rfl dX7_deliver_13 (q := 16) rfl ?_
  refine zz_iload_1 S dX7_deliver_16 (q := 17) rfl ?_
  -- at 17: invokevirtual 82
  have hj : zz_keep [468, 469] im1 im1 := zz_keep.rf
  refine zz_virtI S yy_X4_handOver lX7_82 (ci := 4) (by decide) rfl (cx_handOver x nw nc s im1 hI hr1) rfl (Nat.le_of_ble_eq_true rfl) (Nat.le_of_ble_eq_true rfl) rfl (Nat.le_of_ble_eq_true rfl) rfl dX7_deliver_17 (q := 20) rfl ?_
  intro r im2 hA
  refine zz_virtI S yy_X7_recorded lX7_52 (ci := 7) (by decide) rfl (cx_recorded r f n im2 hf hR.2.2.1 (by rw [hA.1 67 (by omega), mark_67 hc]; exact hR.2.1) (by rw [hA.1 67 (by omega), mark_67 hc]; exact hR.2.2.2.1)) rfl (Nat.le_of_ble_eq_true rfl) (Nat.le_of_ble_eq_true rfl) rfl (Nat.le_of_ble_eq_true rfl) rfl dX7_deliver_20 (q := 23) rfl ?_
  intro r3 im3 hq
  refine zz_iret S dX7_deliver_23 ⟨rfl, _, rfl, rfl, ?_⟩
  exact (zX_fin hT hR hP hc hj hA (fun hcd => ⟨by
    obtain ⟨c, hc2, ec, hb⟩ := op_cSt_ok hI.2.2.1 hn hcd
    rw [zs_cl ec (by omega)]
    exact sI_del hI hc2 hb, fun j hj => by
    obtain ⟨c, hc2, ec, hb⟩ := op_cSt_ok hI.2.2.1 hn hcd
    rw [zs_cl ec (by omega)]
    exact u_ne _ _ (by omega), by
    apply ne_err0
    obtain ⟨r9, hr9, er9⟩ := op_inG_ge (s := op_del s x.toNatClampNeg) (st := 3) nc 0 0 (by omega)
    have er8 : op_in (op_del s x.toNatClampNeg) nc 3 = nI r9 := er9
    rw [er8]
    exact nI_pos' (by omega)⟩) cSt_err hq).h rfl
end ZCPB
