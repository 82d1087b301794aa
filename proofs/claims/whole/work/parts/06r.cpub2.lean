/-! THE CLASS: take, restore, undo, append, clearText -/
theorem ch_of {x : Int32} (h : x ≥ 1 ∧ x ≤ 255) : vp_nar .char ((x.toUInt32 % 65536).toInt32) = x := by
  have key : ∀ i, i < 256 → vp_nar .char (((nI i).toUInt32 % 65536).toInt32) = nI i := by
    have h : (List.range 256).all (fun i => decide (vp_nar .char (((nI i).toUInt32 % 65536).toInt32) = nI i)) = true := by decide +kernel
    intro i hi
    exact of_decide_eq_true (List.all_eq_true.mp h i (List.mem_range.mpr hi))
  have h1 := Int32.le_iff_toInt_le.mp h.1
  have h2 := Int32.le_iff_toInt_le.mp h.2
  have e1 : ((1 : Int32)).toInt = 1 := rfl
  have e2 : ((255 : Int32)).toInt = 255 := rfl
  have e : x = nI x.toInt.toNat := Int32.toInt_inj.mp (by rw [nI_toInt (by omega)]; omega)
  have := key x.toInt.toNat (by omega)
  rw [← e] at this
  exact this
section ZCP2
variable {G : ZG} {l : Launch}
set_option maxHeartbeats 1000000 in
theorem cx_ptake (x : Int32) (f n len nw nc : Nat) (h : Nat → ZSt) (s : ZSt) (tx : Nat → Int32) (im : ZI) (hT : rT im 1 s) (hR : zRg im f n h) (hP : zPg im len tx) (hI : sI s nw nc) (hr : rS im 2 s nw nc) : zz_OI G l 4 mX7_take [.ref 0, .int x] zE im (fun r im' => zXQ im im' r (ox_take s n h x) len tx) := by
  have hf := hR.1
  have hw := hI.2.1
  have hn := hI.2.2.2.1
  refine zz_intro (isI := false) (by decide) rfl (Nat.le_of_ble_eq_true rfl) (fun h => by cases h) (fun w S => ?_)
  refine zz_aload_0 S dX7_take_0 (q := 1) rfl ?_
  refine zz_getR S fX7_19 rfl (Nat.le_of_ble_eq_true rfl) rfl rfl dX7_take_1 (q := 4) rfl ?_
  refine zz_aload_0 S dX7_take_4 (q := 5) rfl ?_
  refine zz_getR S fX7_10 rfl (Nat.le_of_ble_eq_true rfl) rfl rfl dX7_take_5 (q := 8) rfl ?_
  -- at 8: invokevirtual 42
  refine zz_virtV S yy_X2_mark lX7_42 (ci := 2) (by decide) rfl (cx_mark f im hf hR.2.1 hT.f01) rfl (Nat.le_of_ble_eq_true rfl) (Nat.le_of_ble_eq_true rfl) rfl (Nat.le_of_ble_eq_true rfl) rfl dX7_take_8 (q := 11) rfl ?_
  intro im1 hc
  have hr1 : rS im1 2 s nw nc := hr.keep hw hn (fun k a b => hc.2 k (by omega))
  have hT1 := (zX_mark hT hR hP hc).1
  refine zz_aload_0 S dX7_take_11 (q := 12) rfl ?_
  refine zz_aload_0 S dX7_take_12 (q := 13) rfl ?_
  refine zz_getR S fX7_10 rfl (Nat.le_of_ble_eq_true rfl) rfl rfl dX7_take_13 (q := 16) rfl ?_
  refine zz_iload_1 S dX7_take_16 (q := 17) rfl ?_
  -- at 17: invokevirtual 85
  refine zz_virtI S yy_X5_keepSnapshot lX7_85 (ci := 5) (by decide) rfl (cx_keepSnap x nw nc s im1 hT1 hI hr1) rfl (Nat.le_of_ble_eq_true rfl) (Nat.le_of_ble_eq_true rfl) rfl (Nat.le_of_ble_eq_true rfl) rfl dX7_take_17 (q := 20) rfl ?_
  intro r im2 hA
  refine zz_virtI S yy_X7_recorded lX7_52 (ci := 7) (by decide) rfl (cx_recorded r f n im2 hf hR.2.2.1 (by rw [hA.1 67 (by omega), mark_67 hc]; exact hR.2.1) (by rw [hA.1 67 (by omega), mark_67 hc]; exact hR.2.2.2.1)) rfl (Nat.le_of_ble_eq_true rfl) (Nat.le_of_ble_eq_true rfl) rfl (Nat.le_of_ble_eq_true rfl) rfl dX7_take_20 (q := 23) rfl ?_
  intro r3 im3 hq
  refine zz_iret S dX7_take_23 ⟨rfl, _, rfl, rfl, ?_⟩
  exact (zX_fin2 hT hR hP hc hA (fun _ => ne_err0 (by rw [hI.2.2.1]; exact nI_pos' (by omega))) ((cd_ge rfl).2) hq).h (by
    unfold ox_take
    by_cases c : x ≥ 0 ∧ x ≤ 1
    · rw [if_pos c, if_pos c, if_pos (by decide)]
    · rw [if_neg c, if_neg c, if_neg (by decide)])
set_option maxHeartbeats 1000000 in
theorem cx_prestore (x : Int32) (f n len nw nc : Nat) (h : Nat → ZSt) (s : ZSt) (tx : Nat → Int32) (im : ZI) (hT : rT im 1 s) (hR : zRg im f n h) (hP : zPg im len tx) (hI : sI s nw nc) (hr : rS im 2 s nw nc) : zz_OI G l 4 mX7_restore [.ref 0, .int x] zE im (fun r im' => zXQ im im' r (ox_rest s n h x) len tx) := by
  have hf := hR.1
  have hw := hI.2.1
  have hn := hI.2.2.2.1
  refine zz_intro (isI := false) (by decide) rfl (Nat.le_of_ble_eq_true rfl) (fun h => by cases h) (fun w S => ?_)
  refine zz_aload_0 S dX7_restore_0 (q := 1) rfl ?_
  refine zz_getR S fX7_19 rfl (Nat.le_of_ble_eq_true rfl) rfl rfl dX7_restore_1 (q := 4) rfl ?_
  refine zz_aload_0 S dX7_restore_4 (q := 5) rfl ?_
  refine zz_getR S fX7_10 rfl (Nat.le_of_ble_eq_true rfl) rfl rfl dX7_restore_5 (q := 8) rfl ?_
  -- at 8: invokevirtual 42
  refine zz_virtV S yy_X2_mark lX7_42 (ci := 2) (by decide) rfl (cx_mark f im hf hR.2.1 hT.f01) rfl (Nat.le_of_ble_eq_true rfl) (Nat.le_of_ble_eq_true rfl) rfl (Nat.le_of_ble_eq_true rfl) rfl dX7_restore_8 (q := 11) rfl ?_
  intro im1 hc
  have hr1 : rS im1 2 s nw nc := hr.keep hw hn (fun k a b => hc.2 k (by omega))
  have hT1 := (zX_mark hT hR hP hc).1
  refine zz_aload_0 S dX7_restore_11 (q := 12) rfl ?_
  refine zz_aload_0 S dX7_restore_12 (q := 13) rfl ?_
  refine zz_getR S fX7_10 rfl (Nat.le_of_ble_eq_true rfl) rfl rfl dX7_restore_13 (q := 16) rfl ?_
  refine zz_iload_1 S dX7_restore_16 (q := 17) rfl ?_
  -- at 17: invokevirtual 88
  refine zz_virtI S yy_X5_fetchSnapshot lX7_88 (ci := 5) (by decide) rfl (cx_fetchSnap x nw nc s im1 hT1 hI hr1) rfl (Nat.le_of_ble_eq_true rfl) (Nat.le_of_ble_eq_true rfl) rfl (Nat.le_of_ble_eq_true rfl) rfl dX7_restore_17 (q := 20) rfl ?_
  intro r im2 hA
  refine zz_virtI S yy_X7_recorded lX7_52 (ci := 7) (by decide) rfl (cx_recorded r f n im2 hf hR.2.2.1 (by rw [hA.1 67 (by omega), mark_67 hc]; exact hR.2.1) (by rw [hA.1 67 (by omega), mark_67 hc]; exact hR.2.2.2.1)) rfl (Nat.le_of_ble_eq_true rfl) (Nat.le_of_ble_eq_true rfl) rfl (Nat.le_of_ble_eq_true rfl) rfl dX7_restore_20 (q := 23) rfl ?_
  intro r3 im3 hq
  refine zz_iret S dX7_restore_23 ⟨rfl, _, rfl, rfl, ?_⟩
  refine (zX_fin2 hT hR hP hc hA (fun hcd => ?_) (fun hcd => ?_) hq).h ?_
  · by_cases c : x ≥ 0 ∧ x ≤ 1
    · rw [if_pos c] at hcd
      by_cases c2 : s (118 + 119 * x.toNatClampNeg) = 0
      · rw [if_pos c2] at hcd
        exact absurd hcd (by decide)
      · obtain ⟨b, hb, hx⟩ := zs_inr (k := 1) (by omega) c
        rw [zs_cl hx (by omega)] at c2 ⊢
        obtain ⟨d3, nw2, nc2, hI2, hr2⟩ := (hT.2 b (by omega)).2.resolve_left c2
        have e1 : s (119 + 119 * b + 1) = nI nc2 := hI2.2.2.1
        rw [e1]
        exact ne_err0 (nI_pos' (by have := hI2.2.2.2.1; omega))
    · rw [if_neg c] at hcd
      exact absurd hcd (by decide)
  · by_cases c : x ≥ 0 ∧ x ≤ 1
    · rw [if_pos c] at hcd ⊢
      by_cases c2 : s (118 + 119 * x.toNatClampNeg) = 0
      · rw [if_pos c2]
        exact Or.inr (Or.inl rfl)
      · rw [if_neg c2] at hcd
        exact absurd (by decide) hcd
    · rw [if_neg c]
      exact Or.inl rfl
  · unfold ox_rest
    by_cases c : x ≥ 0 ∧ x ≤ 1
    · rw [if_pos c, if_pos c]
      by_cases c2 : s (118 + 119 * x.toNatClampNeg) = 0
      · rw [if_pos c2, if_pos c2, if_neg (by decide)]
      · rw [if_neg c2, if_neg c2, if_pos (by decide)]
    · rw [if_neg c, if_neg c, if_neg (by decide)]
set_option maxHeartbeats 1000000 in
theorem cx_pundo (f n len : Nat) (h : Nat → ZSt) (s : ZSt) (tx : Nat → Int32) (im : ZI) (hT : rT im 1 s) (hR : zRg im f n h) (hP : zPg im len tx) : zz_OI G l 5 mX7_undo [.ref 0] zE im (fun r im' => zXQ im im' r (ox_undo s n h) len tx) := by
  have hR0 := hR
  obtain ⟨hf, h1, hn, h2, h3⟩ := hR
  unfold ox_undo
  refine zz_intro (isI := false) (by decide) rfl (Nat.le_of_ble_eq_true rfl) (fun h => by cases h) (fun w S => ?_)
  refine zz_aload_0 S dX7_undo_0 (q := 1) rfl ?_
  refine zz_getR S fX7_19 rfl (Nat.le_of_ble_eq_true rfl) rfl rfl dX7_undo_1 (q := 4) rfl ?_
  refine zz_getI S fX7_91 rfl (Nat.le_of_ble_eq_true rfl) rfl dX7_undo_4 (q := 7) rfl ?_
  refine zz_if_ne S dX7_undo_7 (t := 13) (by decide) (q := 10) rfl (fun b1 => ?_) (fun b1 => ?_)
  -- then 13 else 10
  · have hne : n ≠ 0 := fun e => b1 (by rw [h2, e]; rfl)
    obtain ⟨m, rfl⟩ : ∃ m, n = m + 1 := ⟨n - 1, by omega⟩
    have hpos : (f + 6 - (m + 1) + m) % 6 = (f + 5) % 6 := by omega
    have hlast := h3 m (by omega)
    rw [hpos] at hlast
    refine zz_aload_0 S dX7_undo_13 (q := 14) rfl ?_
    refine zz_getR S fX7_19 rfl (Nat.le_of_ble_eq_true rfl) rfl rfl dX7_undo_14 (q := 17) rfl ?_
    refine zz_aload_0 S dX7_undo_17 (q := 18) rfl ?_
    refine zz_getR S fX7_10 rfl (Nat.le_of_ble_eq_true rfl) rfl rfl dX7_undo_18 (q := 21) rfl ?_
    -- at 21: invokevirtual 96
    refine zz_virtV S yy_X2_stepBack lX7_96 (ci := 2) (by decide) rfl (cx_step f m im hf (by omega) h1 h2 hlast.f01) rfl (Nat.le_of_ble_eq_true rfl) (Nat.le_of_ble_eq_true rfl) rfl (Nat.le_of_ble_eq_true rfl) rfl dX7_undo_21 (q := 24) rfl ?_
    rintro im1 ⟨k1, k2, k3, k4⟩
    refine zz_aload_0 S dX7_undo_24 (q := 25) rfl ?_
    refine zz_getR S fX7_19 rfl (Nat.le_of_ble_eq_true rfl) rfl rfl dX7_undo_25 (q := 28) rfl ?_
    refine zz_getI S fX7_91 rfl (Nat.le_of_ble_eq_true rfl) rfl dX7_undo_28 (q := 31) rfl ?_
    -- at 31: ireturn 
    refine zz_iret S dX7_undo_31 ⟨rfl, _, rfl, rfl, ?_⟩
    rw [if_neg hne]
    refine ⟨by rw [k2]; rfl, ⟨?_, ⟨(f + 5) % 6, by omega, k1, by show m + 1 - 1 ≤ 5; omega, by rw [k2]; rfl, fun i hi => ?_⟩, ?_⟩, fun k hk => k4 k (by omega) (by omega)⟩
    · exact (hlast.cp k3).cong (fun j hj => by
        show (if j < 356 then h (m + 1 - 1) j else s j) = h m j
        rw [if_pos hj]
        rfl)
    · have hi' : i < m := hi
      rw [show m + 1 - 1 = m by omega, show ((f + 5) % 6 + 6 - m + i) % 6 = (f + 6 - (m + 1) + i) % 6 by omega]
      exact (h3 i (by omega)).keep (fun k a b => k4 k (by omega) (by omega))
    · obtain ⟨p1, p2, p3, p4⟩ := hP
      exact ⟨by rw [k4 465 (by omega) (by omega)]; exact p1, p2, fun j hj => by rw [k4 466 (by omega) (by omega)]; exact p3 j hj, p4⟩
  · have he : n = 0 := (nI_eq (a := n) (b := 0) (by omega) (by omega)).mp (h2.symm.trans b1)
    refine zz_ldc S (v := (-100002)) kX7_95 dX7_undo_10 (q := 12) rfl ?_
    -- at 12: ireturn 
    refine zz_iret S dX7_undo_12 ⟨rfl, _, rfl, rfl, ?_⟩
    rw [if_pos he]
    exact ⟨rfl, ⟨hT, ⟨f, hR0⟩, hP⟩, fun _ _ => rfl⟩
def zXT (im im' : ZI) (r a : Int32) (s : ZSt) (n : Nat) (h : Nat → ZSt) (len' : Nat) (tx' : Nat → Int32) : Prop := r = a ∧ zX im' s n h len' tx' ∧ zHi im im'
/-- what writes nothing but the text leaves the rest -/
theorem zX_text {im im' : ZI} {s : ZSt} {n len' : Nat} {h : Nat → ZSt} {tx' : Nat → Int32} (hT : rT im 1 s) (hR : ∃ f, zRg im f n h) (hk : ∀ k, k < 465 → im' k = im k) (hP : zPg im' len' tx') : zX im' s n h len' tx' := by
  obtain ⟨f, hf, h1, hn, h2, h3⟩ := hR
  refine ⟨hT.keep (fun k a b => hk k (by omega)), ⟨f, hf, by rw [hk 67 (by omega)]; exact h1, hn, by rw [hk 67 (by omega)]; exact h2, fun i hi => ?_⟩, hP⟩
  have := zr_ne hf hn hi
  exact (h3 i hi).keep (fun k a b => hk k (by omega))
set_option maxHeartbeats 1000000 in
theorem cx_add (x : Int32) (len : Nat) (tx : Nat → Int32) (im : ZI) (hP : zPg im len tx) : zz_OI G l 1 mX3_add [.ref 465, .int x] zE im (fun r im' => r = (ot_app len tx x).1 ∧ zPg im' (ot_app len tx x).2.1 (ot_app len tx x).2.2 ∧ zz_keep [465, 466] im im') := by
  have hP0 := hP
  obtain ⟨p1, p2, p3, p4⟩ := hP
  have hlt : nI len < (140 : Int32) ↔ len < 140 := nI_ltI (a := len) (b := 140) (by omega) (by omega)
  unfold ot_app
  refine zz_intro (isI := false) (by decide) rfl (Nat.le_of_ble_eq_true rfl) (fun h => by cases h) (fun w S => ?_)
  refine zz_iload_1 S dX3_add_0 (q := 1) rfl ?_
  refine zz_iconst S (v := 1) rfl dX3_add_1 (q := 2) rfl ?_
  refine zz_sipush S (v := 255) rfl dX3_add_2 (q := 5) rfl ?_
  -- at 5: invokestatic 19
  refine zz_statNP S yy_X7_isWithin lX3_19 (cx_within x 1 255 zE im) rfl (Nat.le_of_ble_eq_true rfl) (Nat.le_of_ble_eq_true rfl) rfl dX3_add_5 (q := 8) rfl ?_
  refine zz_if_ne S dX3_add_8 (t := 14) (by decide) (q := 11) rfl (fun b1 => ?_) (fun b1 => ?_)
  -- then 14 else 11
  · have b1' := zs_ne0 b1
    refine zz_aload_0 S dX3_add_14 (q := 15) rfl ?_
    refine zz_getI S fX3_24 rfl (Nat.le_of_ble_eq_true rfl) rfl dX3_add_15 (q := 18) rfl ?_
    refine zz_sipush S (v := 140) rfl dX3_add_18 (q := 21) rfl ?_
    refine zz_icmp_lt S dX3_add_21 (t := 27) (by decide) (q := 24) rfl (fun b2 => ?_) (fun b2 => ?_)
    -- then 27 else 24
    · rw [p1] at b2
      have b3 := hlt.mp b2
      refine zz_aload_0 S dX3_add_27 (q := 28) rfl ?_
      refine zz_getR S fX3_9 rfl (Nat.le_of_ble_eq_true rfl) rfl rfl dX3_add_28 (q := 31) rfl ?_
      refine zz_aload_0 S dX3_add_31 (q := 32) rfl ?_
      refine zz_getI S fX3_24 rfl (Nat.le_of_ble_eq_true rfl) rfl dX3_add_32 (q := 35) rfl ?_
      refine zz_iload_1 S dX3_add_35 (q := 36) rfl ?_
      refine zz_i2c S dX3_add_36 (q := 37) rfl ?_
      refine zz_caS S (j := len) (Nat.le_of_ble_eq_true rfl) rfl (Nat.le_of_ble_eq_true rfl) p1 b3 dX3_add_37 (q := 38) rfl ?_
      refine zz_aload_0 S dX3_add_38 (q := 39) rfl ?_
      refine zz_dup S rfl dX3_add_39 (q := 40) rfl ?_
      refine zz_getI S fX3_24 rfl (Nat.le_of_ble_eq_true rfl) rfl dX3_add_40 (q := 43) rfl ?_
      refine zz_iconst S (v := 1) rfl dX3_add_43 (q := 44) rfl ?_
      refine zz_iadd S dX3_add_44 (q := 45) rfl ?_
      refine zz_putI S fX3_24 rfl rfl (Nat.le_of_ble_eq_true rfl) rfl dX3_add_45 (q := 48) rfl ?_
      refine zz_aload_0 S dX3_add_48 (q := 49) rfl ?_
      refine zz_getI S fX3_24 rfl (Nat.le_of_ble_eq_true rfl) rfl dX3_add_49 (q := 52) rfl ?_
      -- at 52: ireturn 
      rw [ch_of b1']
      have e1 : zz_u im 466 len x 465 2 = nI len := by rw [zz_u_n _ _ (by omega)]; exact p1
      rw [e1]
      refine zz_iret S dX3_add_52 ⟨rfl, _, rfl, rfl, ?_⟩
      rw [if_pos b1', if_neg (show ¬ len = 140 by omega)]
      refine ⟨by rw [zz_u_e]; exact nI_1 len, ⟨by rw [zz_u_e]; exact nI_1 len, by show len + 1 ≤ 140; omega, fun j hj => ?_, fun j hj => ?_⟩, (zz_keep.rf.u (by decide)).u (by decide)⟩
      · have hj' : j < len + 1 := hj
        show _ = upd tx len x j
        rw [zz_u_n _ _ (by omega)]
        by_cases hjl : j = len
        · rw [hjl, zz_u_e, u_eq]
        · rw [zz_u_n _ _ (by omega), u_ne _ _ hjl]
          exact p3 j (by omega)
      · have hj' : j < len + 1 := hj
        show sB 1 255 (upd tx len x j)
        by_cases hjl : j = len
        · rw [hjl, u_eq]
          exact ⟨by have := Int32.le_iff_toInt_le.mp b1'.1; simpa using this, by have := Int32.le_iff_toInt_le.mp b1'.2; simpa using this⟩
        · rw [u_ne _ _ hjl]
          exact p4 j (by omega)
    · rw [p1] at b2
      have b3 : len = 140 := by have : ¬ len < 140 := fun e => b2 (hlt.mpr e); omega
      refine zz_ldc S (v := (-100003)) kX3_28 dX3_add_24 (q := 26) rfl ?_
      -- at 26: ireturn 
      refine zz_iret S dX3_add_26 ⟨rfl, _, rfl, rfl, ?_⟩
      rw [if_pos b1', if_pos b3]
      exact ⟨rfl, hP0, zz_keep.rf⟩
  · refine zz_ldc S (v := (-100001)) kX3_23 dX3_add_11 (q := 13) rfl ?_
    -- at 13: ireturn 
    refine zz_iret S dX3_add_13 ⟨rfl, _, rfl, rfl, ?_⟩
    rw [if_neg (zs_b1.mp b1)]
    exact ⟨rfl, hP0, zz_keep.rf⟩
theorem cx_pappend (x : Int32) (n len : Nat) (h : Nat → ZSt) (s : ZSt) (tx : Nat → Int32) (im : ZI) (hT : rT im 1 s) (hR : ∃ f, zRg im f n h) (hP : zPg im len tx) : zz_OI G l 2 mX7_append [.ref 0, .int x] zE im (fun r im' => zXT im im' r (ot_app len tx x).1 s n h (ot_app len tx x).2.1 (ot_app len tx x).2.2) := by
  refine zz_intro (isI := false) (by decide) rfl (Nat.le_of_ble_eq_true rfl) (fun h => by cases h) (fun w S => ?_)
  refine zz_aload_0 S dX7_append_0 (q := 1) rfl ?_
  refine zz_getR S fX7_26 rfl (Nat.le_of_ble_eq_true rfl) rfl rfl dX7_append_1 (q := 4) rfl ?_
  refine zz_iload_1 S dX7_append_4 (q := 5) rfl ?_
  -- at 5: invokevirtual 99
  refine zz_virtI S yy_X3_add lX7_99 (ci := 3) (by decide) rfl (cx_add x len tx im hP) rfl (Nat.le_of_ble_eq_true rfl) (Nat.le_of_ble_eq_true rfl) rfl (Nat.le_of_ble_eq_true rfl) rfl dX7_append_5 (q := 8) rfl ?_
  rintro r im1 ⟨h1, h2, h3⟩
  refine zz_iret S dX7_append_8 ⟨rfl, _, rfl, rfl, ?_⟩
  exact ⟨h1, zX_text hT hR (fun k hk => h3 k (by simp; omega)) h2, fun k hk => h3 k (by simp; omega)⟩
theorem cx_empty (len : Nat) (tx : Nat → Int32) (im : ZI) (hP : zPg im len tx) : zz_OI G l 0 mX3_empty [.ref 465] zE im (fun r im' => r = nI len ∧ zPg im' 0 tx ∧ zz_keep [465] im im') := by
  refine zz_intro (isI := false) (by decide) rfl (Nat.le_of_ble_eq_true rfl) (fun h => by cases h) (fun w S => ?_)
  refine zz_aload_0 S dX3_empty_0 (q := 1) rfl ?_
  refine zz_getI S fX3_24 rfl (Nat.le_of_ble_eq_true rfl) rfl dX3_empty_1 (q := 4) rfl ?_
  refine zz_istore_1 S rfl dX3_empty_4 (q := 5) rfl ?_
  refine zz_aload_0 S dX3_empty_5 (q := 6) rfl ?_
  refine zz_iconst S (v := 0) rfl dX3_empty_6 (q := 7) rfl ?_
  refine zz_putI S fX3_24 rfl rfl (Nat.le_of_ble_eq_true rfl) rfl dX3_empty_7 (q := 10) rfl ?_
  refine zz_iload_1 S dX3_empty_10 (q := 11) rfl ?_
  -- at 11: ireturn 
  refine zz_iret S dX3_empty_11 ⟨rfl, _, rfl, rfl, ?_⟩
  exact ⟨hP.1, ⟨by rw [zz_u_e]; rfl, by omega, fun j hj => absurd hj (by omega), fun j hj => absurd hj (by omega)⟩, zz_keep.rf.u (by decide)⟩
theorem cx_pclear (n len : Nat) (h : Nat → ZSt) (s : ZSt) (tx : Nat → Int32) (im : ZI) (hT : rT im 1 s) (hR : ∃ f, zRg im f n h) (hP : zPg im len tx) : zz_OI G l 1 mX7_clearText [.ref 0] zE im (fun r im' => zXT im im' r (nI len) s n h 0 tx) := by
  refine zz_intro (isI := false) (by decide) rfl (Nat.le_of_ble_eq_true rfl) (fun h => by cases h) (fun w S => ?_)
  refine zz_aload_0 S dX7_clearText_0 (q := 1) rfl ?_
  refine zz_getR S fX7_26 rfl (Nat.le_of_ble_eq_true rfl) rfl rfl dX7_clearText_1 (q := 4) rfl ?_
  -- at 4: invokevirtual 102
  refine zz_virtI S yy_X3_empty lX7_102 (ci := 3) (by decide) rfl (cx_empty len tx im hP) rfl (Nat.le_of_ble_eq_true rfl) (Nat.le_of_ble_eq_true rfl) rfl (Nat.le_of_ble_eq_true rfl) rfl dX7_clearText_4 (q := 7) rfl ?_
  rintro r im1 ⟨h1, h2, h3⟩
  refine zz_iret S dX7_clearText_7 ⟨rfl, _, rfl, rfl, ?_⟩
  exact ⟨h1, zX_text hT hR (fun k hk => h3 k (by simp; omega)) h2, fun k hk => h3 k (by simp; omega)⟩
end ZCP2
