/-! THE CLASS: looking at dials -/
theorem zs_time {t : Int32} (h : t ≥ -360 ∧ t ≤ 360) : ∃ i, i < 721 ∧ t = zs_t i ∧ (t + 360).toNatClampNeg = i := by
  have h1 := Int32.le_iff_toInt_le.mp h.1
  have h2 := Int32.le_iff_toInt_le.mp h.2
  have e1 : ((-360 : Int32)).toInt = -360 := rfl
  have e2 : ((360 : Int32)).toInt = 360 := rfl
  have ei : t = zs_t (t.toInt + 360).toNat := by
    apply Int32.toInt_inj.mp
    rw [zs_t_i (by omega)]
    omega
  refine ⟨(t.toInt + 360).toNat, by omega, ei, ?_⟩
  have e3 : t + 360 = nI (t.toInt + 360).toNat := by
    have := zs_t_ix (t.toInt + 360).toNat
    rw [← ei] at this
    exact this
  rw [e3, nI_clamp (by omega)]
section ZCL3
variable {G : ZG} {l : Launch}
theorem zxL.d {im im' : ZI} {r f : Int32} (h : r = f) (hk : zz_keep [469] im im') : zxL im im' r f := ⟨h, hk.le (by decide)⟩
set_option maxHeartbeats 1000000 in
theorem cx_offset (x t : Int32) (nw nc : Nat) (s : ZSt) (im : ZI) (hI : sI s nw nc) (hr : rS im 2 s nw nc) : zz_OI G l 5 mX7_offset [.ref 0, .int x, .int t] zE im (fun r im' => zxL im im' r (ol_off s x t)) := by
  have h1 : im 2 5 = nI nc := hr.n.2.1.trans hI.2.2.1
  have hn := hI.2.2.2.1
  have e1 : s 1 = nI nc := hI.2.2.1
  unfold ol_off
  rw [e1]
  refine zz_intro (isI := false) (by decide) rfl (Nat.le_of_ble_eq_true rfl) (fun h => by cases h) (fun w S => ?_)
  refine zz_aload_0 S dX7_offset_0 (q := 1) rfl ?_
  refine zz_getR S fX7_41 rfl (Nat.le_of_ble_eq_true rfl) rfl rfl dX7_offset_1 (q := 4) rfl ?_
  refine zz_iload_1 S dX7_offset_4 (q := 5) rfl ?_
  -- at 5: invokevirtual 181
  refine zz_virtP S yy_X4_hasCommission lX7_181 (ci := 4) (by decide) rfl (cx_hasCom x nc im h1 hn) rfl (Nat.le_of_ble_eq_true rfl) (Nat.le_of_ble_eq_true rfl) rfl (Nat.le_of_ble_eq_true rfl) rfl dX7_offset_5 (q := 8) rfl ?_
  refine zz_if_eq S dX7_offset_8 (t := 24) (by decide) (q := 11) rfl (fun b1 => ?_) (fun b1 => ?_)
  -- then 24 else 11
  · refine zz_ldc S (v := (-100001)) kX7_159 dX7_offset_24 (q := 26) rfl ?_
    -- at 26: ireturn 
    refine zz_iret S dX7_offset_26 ⟨rfl, _, rfl, rfl, ?_⟩
    exact zxL.p (by rw [if_neg (fun e => zs_b1.mp b1 e.1)])
  have b1' := zs_ne0 b1
  obtain ⟨c, hc, hx⟩ := zs_within (n := nc) (by omega) b1'
  have hcl : x.toNatClampNeg = c := zs_cl hx (by omega)
  refine zz_iload_2 S dX7_offset_11 (q := 12) rfl ?_
  refine zz_sipush S (v := (-360)) rfl dX7_offset_12 (q := 15) rfl ?_
  refine zz_sipush S (v := 360) rfl dX7_offset_15 (q := 18) rfl ?_
  -- at 18: invokestatic 216
  refine zz_statP S yy_X7_isWithin lX7_216 (cx_within t (-360) 360 zE im) rfl (Nat.le_of_ble_eq_true rfl) (Nat.le_of_ble_eq_true rfl) rfl dX7_offset_18 (q := 21) rfl ?_
  refine zz_if_ne S dX7_offset_21 (t := 27) (by decide) (q := 24) rfl (fun b2 => ?_) (fun b2 => ?_)
  -- then 27 else 24
  · have b2' := zs_ne0 b2
    obtain ⟨i, hi, hti, htc⟩ := zs_time b2'
    refine zz_aload_0 S dX7_offset_27 (q := 28) rfl ?_
    refine zz_iload_1 S dX7_offset_28 (q := 29) rfl ?_
    -- at 29: invokevirtual 226
    refine zz_virtI S yy_X7_layDial lX7_226 (ci := 7) (by decide) rfl (cx_layDial x c nw nc s im hx hc hI hr) rfl (Nat.le_of_ble_eq_true rfl) (Nat.le_of_ble_eq_true rfl) rfl (Nat.le_of_ble_eq_true rfl) rfl dX7_offset_29 (q := 32) rfl ?_
    rintro r1 im1 ⟨rfl, hd, hk1⟩
    refine zz_if_ne S dX7_offset_32 (t := 38) (by decide) (q := 35) rfl (fun b3 => ?_) (fun b3 => ?_)
    -- then 38 else 35
    · have b3' : ¬ sp_de s c = -100009 := fun e => b3 (by rw [if_pos e])
      refine zz_aload_0 S dX7_offset_38 (q := 39) rfl ?_
      refine zz_getR S fX7_33 rfl (Nat.le_of_ble_eq_true rfl) rfl rfl dX7_offset_39 (q := 42) rfl ?_
      refine zz_iload_2 S dX7_offset_42 (q := 43) rfl ?_
      -- at 43: invokevirtual 229
      refine zz_virtP S yy_X1_offsetAt lX7_229 (ci := 1) (by decide) rfl (zx_at t i (sp_dial s c) im1 hti hi (hd b3')) rfl (Nat.le_of_ble_eq_true rfl) (Nat.le_of_ble_eq_true rfl) rfl (Nat.le_of_ble_eq_true rfl) rfl dX7_offset_43 (q := 46) rfl ?_
      refine zz_iret S dX7_offset_46 ⟨rfl, _, rfl, rfl, ?_⟩
      exact zxL.d (by rw [if_pos ⟨b1', b2'⟩, hcl, htc, if_neg b3']) hk1
    · have b3' : sp_de s c = -100009 := Classical.byContradiction (fun e => absurd b3 (by rw [if_neg e]; decide))
      refine zz_ldc S (v := (-100002)) kX7_95 dX7_offset_35 (q := 37) rfl ?_
      -- at 37: ireturn 
      refine zz_iret S dX7_offset_37 ⟨rfl, _, rfl, rfl, ?_⟩
      exact zxL.d (by rw [if_pos ⟨b1', b2'⟩, hcl, if_pos b3']) hk1
  · refine zz_ldc S (v := (-100001)) kX7_159 dX7_offset_24 (q := 26) rfl ?_
    -- at 26: ireturn 
    refine zz_iret S dX7_offset_26 ⟨rfl, _, rfl, rfl, ?_⟩
    exact zxL.p (by rw [if_neg (fun e => zs_b1.mp b2 e.2)])
set_option maxHeartbeats 1000000 in
theorem cx_lines (x v : Int32) (nw nc : Nat) (s : ZSt) (im : ZI) (hI : sI s nw nc) (hr : rS im 2 s nw nc) : zz_OI G l 5 mX7_lines [.ref 0, .int x, .int v] zE im (fun r im' => zxL im im' r (ol_lines s x v)) := by
  have h1 : im 2 5 = nI nc := hr.n.2.1.trans hI.2.2.1
  have hn := hI.2.2.2.1
  have e1 : s 1 = nI nc := hI.2.2.1
  unfold ol_lines
  rw [e1]
  refine zz_intro (isI := false) (by decide) rfl (Nat.le_of_ble_eq_true rfl) (fun h => by cases h) (fun w S => ?_)
  refine zz_aload_0 S dX7_lines_0 (q := 1) rfl ?_
  refine zz_getR S fX7_41 rfl (Nat.le_of_ble_eq_true rfl) rfl rfl dX7_lines_1 (q := 4) rfl ?_
  refine zz_iload_1 S dX7_lines_4 (q := 5) rfl ?_
  -- at 5: invokevirtual 181
  refine zz_virtP S yy_X4_hasCommission lX7_181 (ci := 4) (by decide) rfl (cx_hasCom x nc im h1 hn) rfl (Nat.le_of_ble_eq_true rfl) (Nat.le_of_ble_eq_true rfl) rfl (Nat.le_of_ble_eq_true rfl) rfl dX7_lines_5 (q := 8) rfl ?_
  refine zz_if_eq S dX7_lines_8 (t := 20) (by decide) (q := 11) rfl (fun b1 => ?_) (fun b1 => ?_)
  -- then 20 else 11
  · refine zz_ldc S (v := (-100001)) kX7_159 dX7_lines_20 (q := 22) rfl ?_
    -- at 22: ireturn 
    refine zz_iret S dX7_lines_22 ⟨rfl, _, rfl, rfl, ?_⟩
    exact zxL.p (by rw [if_neg (fun e => zs_b1.mp b1 e.1)])
  have b1' := zs_ne0 b1
  obtain ⟨c, hc, hx⟩ := zs_within (n := nc) (by omega) b1'
  have hcl : x.toNatClampNeg = c := zs_cl hx (by omega)
  refine zz_iload_2 S dX7_lines_11 (q := 12) rfl ?_
  refine zz_iconst S (v := 0) rfl dX7_lines_12 (q := 13) rfl ?_
  refine zz_iconst S (v := 2) rfl dX7_lines_13 (q := 14) rfl ?_
  -- at 14: invokestatic 216
  refine zz_statP S yy_X7_isWithin lX7_216 (cx_within v 0 2 zE im) rfl (Nat.le_of_ble_eq_true rfl) (Nat.le_of_ble_eq_true rfl) rfl dX7_lines_14 (q := 17) rfl ?_
  refine zz_if_ne S dX7_lines_17 (t := 23) (by decide) (q := 20) rfl (fun b2 => ?_) (fun b2 => ?_)
  -- then 23 else 20
  · have b2' := zs_ne0 b2
    obtain ⟨j, hj, hv⟩ := zs_inr (k := 2) (by omega) b2'
    refine zz_aload_0 S dX7_lines_23 (q := 24) rfl ?_
    refine zz_iload_1 S dX7_lines_24 (q := 25) rfl ?_
    -- at 25: invokevirtual 226
    refine zz_virtI S yy_X7_layDial lX7_226 (ci := 7) (by decide) rfl (cx_layDial x c nw nc s im hx hc hI hr) rfl (Nat.le_of_ble_eq_true rfl) (Nat.le_of_ble_eq_true rfl) rfl (Nat.le_of_ble_eq_true rfl) rfl dX7_lines_25 (q := 28) rfl ?_
    rintro r1 im1 ⟨rfl, hd, hk1⟩
    refine zz_if_ne S dX7_lines_28 (t := 34) (by decide) (q := 31) rfl (fun b3 => ?_) (fun b3 => ?_)
    -- then 34 else 31
    · have b3' : ¬ sp_de s c = -100009 := fun e => b3 (by rw [if_pos e])
      have hd' := hd b3'
      refine zz_iload_2 S dX7_lines_34 (q := 35) rfl ?_
      -- at 35: lookupswitch 41 #[(0, 25), (1, 33)]
      rcases (show j = 0 ∨ j = 1 ∨ j = 2 by omega) with rfl | rfl | rfl
      · subst hv
        refine zz_look S dX7_lines_35 (by decide) (off := 25) (by decide) (t := 60) (by decide) ?_
        refine zz_aload_0 S dX7_lines_60 (q := 61) rfl ?_
        refine zz_getR S fX7_33 rfl (Nat.le_of_ble_eq_true rfl) rfl rfl dX7_lines_61 (q := 64) rfl ?_
        -- at 64: invokevirtual 232
        refine zz_virtP S yy_X1_countLines lX7_232 (ci := 1) (by decide) rfl (cx_countLines (sp_dial s c) im1 hd') rfl (Nat.le_of_ble_eq_true rfl) (Nat.le_of_ble_eq_true rfl) rfl (Nat.le_of_ble_eq_true rfl) rfl dX7_lines_64 (q := 67) rfl ?_
        refine zz_iret S dX7_lines_67 ⟨rfl, _, rfl, rfl, ?_⟩
        exact zxL.d (by rw [if_pos ⟨b1', b2'⟩, hcl, if_neg b3', if_neg (by decide)]) hk1
      · subst hv
        refine zz_look S dX7_lines_35 (by decide) (off := 33) (by decide) (t := 68) (by decide) ?_
        refine zz_aload_0 S dX7_lines_68 (q := 69) rfl ?_
        refine zz_getR S fX7_33 rfl (Nat.le_of_ble_eq_true rfl) rfl rfl dX7_lines_69 (q := 72) rfl ?_
        -- at 72: invokevirtual 235
        refine zz_virtP S yy_X1_firstLine lX7_235 (ci := 1) (by decide) rfl (cx_firstLine (sp_dial s c) im1 hd') rfl (Nat.le_of_ble_eq_true rfl) (Nat.le_of_ble_eq_true rfl) rfl (Nat.le_of_ble_eq_true rfl) rfl dX7_lines_72 (q := 75) rfl ?_
        refine zz_iret S dX7_lines_75 ⟨rfl, _, rfl, rfl, ?_⟩
        exact zxL.d (by rw [if_pos ⟨b1', b2'⟩, hcl, if_neg b3', if_pos (by decide), if_neg (by decide)]) hk1
      · subst hv
        refine zz_look S dX7_lines_35 (by decide) (off := 41) (by decide) (t := 76) (by decide) ?_
        refine zz_aload_0 S dX7_lines_76 (q := 77) rfl ?_
        refine zz_getR S fX7_33 rfl (Nat.le_of_ble_eq_true rfl) rfl rfl dX7_lines_77 (q := 80) rfl ?_
        -- at 80: invokevirtual 238
        refine zz_virtP S yy_X1_lastLine lX7_238 (ci := 1) (by decide) rfl (cx_lastLine (sp_dial s c) im1 hd') rfl (Nat.le_of_ble_eq_true rfl) (Nat.le_of_ble_eq_true rfl) rfl (Nat.le_of_ble_eq_true rfl) rfl dX7_lines_80 (q := 83) rfl ?_
        refine zz_iret S dX7_lines_83 ⟨rfl, _, rfl, rfl, ?_⟩
        exact zxL.d (by rw [if_pos ⟨b1', b2'⟩, hcl, if_neg b3', if_pos (by decide), if_pos (by decide)]) hk1
    · have b3' : sp_de s c = -100009 := Classical.byContradiction (fun e => absurd b3 (by rw [if_neg e]; decide))
      refine zz_ldc S (v := (-100002)) kX7_95 dX7_lines_31 (q := 33) rfl ?_
      -- at 33: ireturn 
      refine zz_iret S dX7_lines_33 ⟨rfl, _, rfl, rfl, ?_⟩
      exact zxL.d (by rw [if_pos ⟨b1', b2'⟩, hcl, if_pos b3']) hk1
  · refine zz_ldc S (v := (-100001)) kX7_159 dX7_lines_20 (q := 22) rfl ?_
    -- at 22: ireturn 
    refine zz_iret S dX7_lines_22 ⟨rfl, _, rfl, rfl, ?_⟩
    exact zxL.p (by rw [if_neg (fun e => zs_b1.mp b2 e.2)])
set_option maxHeartbeats 1000000 in
theorem cx_apart (x v : Int32) (nw nc : Nat) (s : ZSt) (im : ZI) (hI : sI s nw nc) (hr : rS im 2 s nw nc) : zz_OI G l 5 mX7_apart [.ref 0, .int x, .int v] zE im (fun r im' => zxL im im' r (ol_apart s x v)) := by
  have h1 : im 2 5 = nI nc := hr.n.2.1.trans hI.2.2.1
  have hn := hI.2.2.2.1
  have e1 : s 1 = nI nc := hI.2.2.1
  unfold ol_apart
  rw [e1]
  refine zz_intro (isI := false) (by decide) rfl (Nat.le_of_ble_eq_true rfl) (fun h => by cases h) (fun w S => ?_)
  refine zz_aload_0 S dX7_apart_0 (q := 1) rfl ?_
  refine zz_getR S fX7_41 rfl (Nat.le_of_ble_eq_true rfl) rfl rfl dX7_apart_1 (q := 4) rfl ?_
  refine zz_iload_1 S dX7_apart_4 (q := 5) rfl ?_
  -- at 5: invokevirtual 181
  refine zz_virtP S yy_X4_hasCommission lX7_181 (ci := 4) (by decide) rfl (cx_hasCom x nc im h1 hn) rfl (Nat.le_of_ble_eq_true rfl) (Nat.le_of_ble_eq_true rfl) rfl (Nat.le_of_ble_eq_true rfl) rfl dX7_apart_5 (q := 8) rfl ?_
  refine zz_if_eq S dX7_apart_8 (t := 20) (by decide) (q := 11) rfl (fun b1 => ?_) (fun b1 => ?_)
  -- then 20 else 11
  · refine zz_ldc S (v := (-100001)) kX7_159 dX7_apart_20 (q := 22) rfl ?_
    -- at 22: ireturn 
    refine zz_iret S dX7_apart_22 ⟨rfl, _, rfl, rfl, ?_⟩
    exact zxL.p (by rw [if_neg (fun e => zs_b1.mp b1 e.1)])
  have b1' := zs_ne0 b1
  obtain ⟨c, hc, hx⟩ := zs_within (n := nc) (by omega) b1'
  have hcl : x.toNatClampNeg = c := zs_cl hx (by omega)
  refine zz_iload_2 S dX7_apart_11 (q := 12) rfl ?_
  refine zz_iconst S (v := 0) rfl dX7_apart_12 (q := 13) rfl ?_
  refine zz_iconst S (v := 1) rfl dX7_apart_13 (q := 14) rfl ?_
  -- at 14: invokestatic 216
  refine zz_statP S yy_X7_isWithin lX7_216 (cx_within v 0 1 zE im) rfl (Nat.le_of_ble_eq_true rfl) (Nat.le_of_ble_eq_true rfl) rfl dX7_apart_14 (q := 17) rfl ?_
  refine zz_if_ne S dX7_apart_17 (t := 23) (by decide) (q := 20) rfl (fun b2 => ?_) (fun b2 => ?_)
  -- then 23 else 20
  · have b2' := zs_ne0 b2
    refine zz_aload_0 S dX7_apart_23 (q := 24) rfl ?_
    refine zz_iload_1 S dX7_apart_24 (q := 25) rfl ?_
    -- at 25: invokevirtual 226
    refine zz_virtI S yy_X7_layDial lX7_226 (ci := 7) (by decide) rfl (cx_layDial x c nw nc s im hx hc hI hr) rfl (Nat.le_of_ble_eq_true rfl) (Nat.le_of_ble_eq_true rfl) rfl (Nat.le_of_ble_eq_true rfl) rfl dX7_apart_25 (q := 28) rfl ?_
    rintro r1 im1 ⟨rfl, hd, hk1⟩
    refine zz_if_ne S dX7_apart_28 (t := 34) (by decide) (q := 31) rfl (fun b3 => ?_) (fun b3 => ?_)
    -- then 34 else 31
    · have b3' : ¬ sp_de s c = -100009 := fun e => b3 (by rw [if_pos e])
      refine zz_aload_0 S dX7_apart_34 (q := 35) rfl ?_
      refine zz_getR S fX7_33 rfl (Nat.le_of_ble_eq_true rfl) rfl rfl dX7_apart_35 (q := 38) rfl ?_
      -- at 38: invokevirtual 248
      refine zz_virtV S yy_X1_compareReadings lX7_248 (ci := 1) (by decide) rfl (cx_compare (sp_dial s c) im1 (hd b3') (sp_dial_fine s c)) rfl (Nat.le_of_ble_eq_true rfl) (Nat.le_of_ble_eq_true rfl) rfl (Nat.le_of_ble_eq_true rfl) rfl dX7_apart_38 (q := 41) rfl ?_
      rintro im2 ⟨g1, g2, hk2⟩
      have hk : zz_keep [468, 469] im im2 := (hk1.le (by decide)).tr hk2 (by decide)
      refine zz_iload_2 S dX7_apart_41 (q := 42) rfl ?_
      refine zz_if_ne S dX7_apart_42 (t := 55) (by decide) (q := 45) rfl (fun b4 => ?_) (fun b4 => ?_)
      -- then 55 else 45
      · refine zz_aload_0 S dX7_apart_55 (q := 56) rfl ?_
        refine zz_getR S fX7_33 rfl (Nat.le_of_ble_eq_true rfl) rfl rfl dX7_apart_56 (q := 59) rfl ?_
        refine zz_getI S fX7_254 rfl (Nat.le_of_ble_eq_true rfl) rfl dX7_apart_59 (q := 62) rfl ?_
        -- at 62: ireturn 
        refine zz_iret S dX7_apart_62 ⟨rfl, _, rfl, rfl, ?_⟩
        exact ⟨by rw [if_pos ⟨b1', b2'⟩, hcl, if_neg b3', if_neg b4]; exact g2, hk⟩
      · refine zz_aload_0 S dX7_apart_45 (q := 46) rfl ?_
        refine zz_getR S fX7_33 rfl (Nat.le_of_ble_eq_true rfl) rfl rfl dX7_apart_46 (q := 49) rfl ?_
        refine zz_getI S fX7_251 rfl (Nat.le_of_ble_eq_true rfl) rfl dX7_apart_49 (q := 52) rfl ?_
        refine zz_goto S dX7_apart_52 (t := 62) (by decide) ?_
        -- at 62: ireturn 
        refine zz_iret S dX7_apart_62 ⟨rfl, _, rfl, rfl, ?_⟩
        exact ⟨by rw [if_pos ⟨b1', b2'⟩, hcl, if_neg b3', if_pos b4]; exact g1, hk⟩
    · have b3' : sp_de s c = -100009 := Classical.byContradiction (fun e => absurd b3 (by rw [if_neg e]; decide))
      refine zz_ldc S (v := (-100002)) kX7_95 dX7_apart_31 (q := 33) rfl ?_
      -- at 33: ireturn 
      refine zz_iret S dX7_apart_33 ⟨rfl, _, rfl, rfl, ?_⟩
      exact zxL.d (by rw [if_pos ⟨b1', b2'⟩, hcl, if_pos b3']) hk1
  · refine zz_ldc S (v := (-100001)) kX7_159 dX7_apart_20 (q := 22) rfl ?_
    -- at 22: ireturn 
    refine zz_iret S dX7_apart_22 ⟨rfl, _, rfl, rfl, ?_⟩
    exact zxL.p (by rw [if_neg (fun e => zs_b1.mp b2 e.2)])
theorem cx_reason (x : Int32) (nw nc : Nat) (s : ZSt) (im : ZI) (hI : sI s nw nc) (hr : rS im 2 s nw nc) : zz_OI G l 6 mX7_reason [.ref 0, .int x] zE im (fun r im' => zxL im im' r (ol_reason s x)) := by
  refine zz_intro (isI := false) (by decide) rfl (Nat.le_of_ble_eq_true rfl) (fun h => by cases h) (fun w S => ?_)
  refine zz_aload_0 S dX7_reason_0 (q := 1) rfl ?_
  refine zz_iload_1 S dX7_reason_1 (q := 2) rfl ?_
  -- at 2: invokevirtual 70
  refine zz_virtI S yy_X7_judge lX7_70 (ci := 7) (by decide) rfl (cx_judge x nw nc s im hI hr) rfl (Nat.le_of_ble_eq_true rfl) (Nat.le_of_ble_eq_true rfl) rfl (Nat.le_of_ble_eq_true rfl) rfl dX7_reason_2 (q := 5) rfl ?_
  rintro r im1 h
  refine zz_iret S dX7_reason_5 ⟨rfl, _, rfl, rfl, ?_⟩
  exact h
set_option maxHeartbeats 2000000 in
theorem cx_read (x o b mo : Int32) (nw nc : Nat) (s : ZSt) (im : ZI) (hI : sI s nw nc) (hr : rS im 2 s nw nc) : zz_OI G l 5 mX7_read [.ref 0, .int x, .int o, .int b, .int mo] zE im (fun r im' => zxL im im' r (ol_read s x o b mo)) := by
  have h1 : im 2 5 = nI nc := hr.n.2.1.trans hI.2.2.1
  have hn := hI.2.2.2.1
  have hw := hI.2.1
  have e1 : s 1 = nI nc := hI.2.2.1
  unfold ol_read
  rw [e1]
  refine zz_intro (isI := false) (by decide) rfl (Nat.le_of_ble_eq_true rfl) (fun h => by cases h) (fun w S => ?_)
  refine zz_aload_0 S dX7_read_0 (q := 1) rfl ?_
  refine zz_getR S fX7_41 rfl (Nat.le_of_ble_eq_true rfl) rfl rfl dX7_read_1 (q := 4) rfl ?_
  refine zz_iload_1 S dX7_read_4 (q := 5) rfl ?_
  -- at 5: invokevirtual 181
  refine zz_virtP S yy_X4_hasCommission lX7_181 (ci := 4) (by decide) rfl (cx_hasCom x nc im h1 hn) rfl (Nat.le_of_ble_eq_true rfl) (Nat.le_of_ble_eq_true rfl) rfl (Nat.le_of_ble_eq_true rfl) rfl dX7_read_5 (q := 8) rfl ?_
  refine zz_if_eq S dX7_read_8 (t := 44) (by decide) (q := 11) rfl (fun b1 => ?_) (fun b1 => ?_)
  -- then 44 else 11
  · refine zz_ldc S (v := (-100001)) kX7_159 dX7_read_44 (q := 46) rfl ?_
    -- at 46: ireturn 
    refine zz_iret S dX7_read_46 ⟨rfl, _, rfl, rfl, ?_⟩
    exact zxL.p (by rw [if_neg (fun e => zs_b1.mp b1 e.1)])
  have b1' := zs_ne0 b1
  obtain ⟨c, hc, hx⟩ := zs_within (n := nc) (by omega) b1'
  have hcl : x.toNatClampNeg = c := zs_cl hx (by omega)
  refine zz_iload_2 S dX7_read_11 (q := 12) rfl ?_
  refine zz_sipush S (v := (-3000)) rfl dX7_read_12 (q := 15) rfl ?_
  refine zz_sipush S (v := 3000) rfl dX7_read_15 (q := 18) rfl ?_
  -- at 18: invokestatic 216
  refine zz_statP S yy_X7_isWithin lX7_216 (cx_within o (-3000) 3000 zE im) rfl (Nat.le_of_ble_eq_true rfl) (Nat.le_of_ble_eq_true rfl) rfl dX7_read_18 (q := 21) rfl ?_
  refine zz_if_eq S dX7_read_21 (t := 44) (by decide) (q := 24) rfl (fun b2 => ?_) (fun b2 => ?_)
  -- then 44 else 24
  · refine zz_ldc S (v := (-100001)) kX7_159 dX7_read_44 (q := 46) rfl ?_
    -- at 46: ireturn 
    refine zz_iret S dX7_read_46 ⟨rfl, _, rfl, rfl, ?_⟩
    exact zxL.p (by rw [if_neg (fun e => zs_b1.mp b2 e.2.1)])
  have b2' := zs_ne0 b2
  refine zz_iload_3 S dX7_read_24 (q := 25) rfl ?_
  refine zz_iconst S (v := 0) rfl dX7_read_25 (q := 26) rfl ?_
  refine zz_iconst S (v := 1) rfl dX7_read_26 (q := 27) rfl ?_
  -- at 27: invokestatic 216
  refine zz_statP S yy_X7_isWithin lX7_216 (cx_within b 0 1 zE im) rfl (Nat.le_of_ble_eq_true rfl) (Nat.le_of_ble_eq_true rfl) rfl dX7_read_27 (q := 30) rfl ?_
  refine zz_if_eq S dX7_read_30 (t := 44) (by decide) (q := 33) rfl (fun b3 => ?_) (fun b3 => ?_)
  -- then 44 else 33
  · refine zz_ldc S (v := (-100001)) kX7_159 dX7_read_44 (q := 46) rfl ?_
    -- at 46: ireturn 
    refine zz_iret S dX7_read_46 ⟨rfl, _, rfl, rfl, ?_⟩
    exact zxL.p (by rw [if_neg (fun e => zs_b1.mp b3 e.2.2.1)])
  have b3' := zs_ne0 b3
  refine zz_iload_4 S dX7_read_33 (q := 35) rfl ?_
  refine zz_iconst S (v := (-1)) rfl dX7_read_35 (q := 36) rfl ?_
  refine zz_bipush S (v := 11) rfl dX7_read_36 (q := 38) rfl ?_
  -- at 38: invokestatic 216
  refine zz_statP S yy_X7_isWithin lX7_216 (cx_within mo (-1) 11 zE im) rfl (Nat.le_of_ble_eq_true rfl) (Nat.le_of_ble_eq_true rfl) rfl dX7_read_38 (q := 41) rfl ?_
  refine zz_if_ne S dX7_read_41 (t := 47) (by decide) (q := 44) rfl (fun b4 => ?_) (fun b4 => ?_)
  -- then 47 else 44
  · have b4' := zs_ne0 b4
    have ball : (x ≥ 0 ∧ x ≤ nI nc - 1) ∧ (o ≥ -3000 ∧ o ≤ 3000) ∧ (b ≥ 0 ∧ b ≤ 1) ∧ mo ≥ -1 ∧ mo ≤ 11 := ⟨b1', b2', b3', b4'⟩
    refine zz_aload_0 S dX7_read_47 (q := 48) rfl ?_
    refine zz_iload_1 S dX7_read_48 (q := 49) rfl ?_
    -- at 49: invokevirtual 226
    refine zz_virtI S yy_X7_layDial lX7_226 (ci := 7) (by decide) rfl (cx_layDial x c nw nc s im hx hc hI hr) rfl (Nat.le_of_ble_eq_true rfl) (Nat.le_of_ble_eq_true rfl) rfl (Nat.le_of_ble_eq_true rfl) rfl dX7_read_49 (q := 52) rfl ?_
    rintro r1 im1 ⟨rfl, hd, hk1⟩
    have hr1 : rS im1 2 s nw nc := hr.keep hw hn (fun k a b => hk1 k (by simp; omega))
    refine zz_if_ne S dX7_read_52 (t := 58) (by decide) (q := 55) rfl (fun b5 => ?_) (fun b5 => ?_)
    -- then 58 else 55
    · have b5' : ¬ sp_de s c = -100009 := fun e => b5 (by rw [if_pos e])
      have hd' := hd b5'
      -- behind the reading
      have fin : ∀ rd : Int32, rd = ol_reading s x o b → w 81 [some (.ref 0), some (.int x), some (.int o), some (.int b), some (.int mo), none] [.int rd] 0 zE im1 := fun rd hrd => by
        refine zz_istore_5 S rfl dX7_read_81 (q := 83) rfl ?_
        refine zz_iload_5 S dX7_read_83 (q := 85) rfl ?_
        refine zz_ldc S (v := (-100009)) kX7_247 dX7_read_85 (q := 87) rfl ?_
        refine zz_icmp_eq S dX7_read_87 (t := 96) (by decide) (q := 90) rfl (fun b6 => ?_) (fun b6 => ?_)
        -- then 96 else 90
        · refine zz_iload_5 S dX7_read_96 (q := 98) rfl ?_
          -- at 98: ireturn 
          refine zz_iret S dX7_read_98 ⟨rfl, _, rfl, rfl, ?_⟩
          exact zxL.d (by rw [if_pos ball, hcl, if_neg b5', ← hrd, if_pos (Or.inl b6)]) hk1
        · refine zz_iload_4 S dX7_read_90 (q := 92) rfl ?_
          refine zz_iconst S (v := (-1)) rfl dX7_read_92 (q := 93) rfl ?_
          refine zz_icmp_ne S dX7_read_93 (t := 99) (by decide) (q := 96) rfl (fun b7 => ?_) (fun b7 => ?_)
          -- then 99 else 96
          · have hm : mo ≥ 0 ∧ mo ≤ 11 := ⟨by
              have g1 := Int32.le_iff_toInt_le.mp b4'.1
              have g2 : mo.toInt ≠ -1 := fun e => b7 (Int32.toInt_inj.mp (by rw [e]; rfl))
              have g3 : ((-1 : Int32)).toInt = -1 := rfl
              have g4 : ((0 : Int32)).toInt = 0 := rfl
              exact Int32.le_iff_toInt_le.mpr (by omega), b4'.2⟩
            obtain ⟨m, hm11, hmo⟩ := zs_inr (k := 11) (by omega) hm
            refine zz_iload_5 S dX7_read_99 (q := 101) rfl ?_
            refine zz_aload_0 S dX7_read_101 (q := 102) rfl ?_
            refine zz_getR S fX7_41 rfl (Nat.le_of_ble_eq_true rfl) rfl rfl dX7_read_102 (q := 105) rfl ?_
            refine zz_getR S fX7_220 rfl (Nat.le_of_ble_eq_true rfl) rfl rfl dX7_read_105 (q := 108) rfl ?_
            refine zz_iload_4 S dX7_read_108 (q := 110) rfl ?_
            refine zz_iaN S (j := m) (Nat.le_of_ble_eq_true rfl) rfl (Nat.le_of_ble_eq_true rfl) hmo (by omega) dX7_read_110 (q := 111) rfl ?_
            refine zz_iadd S dX7_read_111 (q := 112) rfl ?_
            refine zz_aload_0 S dX7_read_112 (q := 113) rfl ?_
            refine zz_getR S fX7_41 rfl (Nat.le_of_ble_eq_true rfl) rfl rfl dX7_read_113 (q := 116) rfl ?_
            refine zz_getR S fX7_184 rfl (Nat.le_of_ble_eq_true rfl) rfl rfl dX7_read_116 (q := 119) rfl ?_
            refine zz_iload_1 S dX7_read_119 (q := 120) rfl ?_
            refine zz_aaN S (j := c) (Nat.le_of_ble_eq_true rfl) rfl ⟨Nat.le_of_ble_eq_true rfl, Nat.le_of_ble_eq_true rfl⟩ (Nat.le_of_ble_eq_true rfl) hx (by omega) (zc_ref c (by omega)) dX7_read_120 (q := 121) rfl ?_
            refine zz_getI S fX7_199 rfl (show 13 + c < 470 by omega) (zc_k c (by omega)) dX7_read_121 (q := 124) rfl ?_
            refine zz_iadd S dX7_read_124 (q := 125) rfl ?_
            -- at 125: ireturn 
            refine zz_iret S dX7_read_125 ⟨rfl, _, rfl, rfl, ?_⟩
            refine zxL.d ?_ hk1
            rw [if_pos ball, hcl, if_neg b5', ← hrd, if_neg (fun e => e.elim b6 b7), hr1.cor (by omega), hr1.com hc (by omega) (by omega), zs_cl hmo (by omega)]
          · refine zz_iload_5 S dX7_read_96 (q := 98) rfl ?_
            -- at 98: ireturn 
            refine zz_iret S dX7_read_98 ⟨rfl, _, rfl, rfl, ?_⟩
            exact zxL.d (by rw [if_pos ball, hcl, if_neg b5', ← hrd, if_pos (Or.inr b7)]) hk1
      refine zz_iload_3 S dX7_read_58 (q := 59) rfl ?_
      refine zz_if_ne S dX7_read_59 (t := 73) (by decide) (q := 62) rfl (fun b6 => ?_) (fun b6 => ?_)
      -- then 73 else 62
      · refine zz_aload_0 S dX7_read_73 (q := 74) rfl ?_
        refine zz_getR S fX7_33 rfl (Nat.le_of_ble_eq_true rfl) rfl rfl dX7_read_74 (q := 77) rfl ?_
        refine zz_iload_2 S dX7_read_77 (q := 78) rfl ?_
        -- at 78: invokevirtual 244
        refine zz_virtP S yy_X1_readingByShadow lX7_244 (ci := 1) (by decide) rfl (cx_byShadow o (sp_dial s c) im1 hd') rfl (Nat.le_of_ble_eq_true rfl) (Nat.le_of_ble_eq_true rfl) rfl (Nat.le_of_ble_eq_true rfl) rfl dX7_read_78 (q := 81) rfl ?_
        exact fin _ (by rw [ol_reading, if_pos b6, hcl])
      · refine zz_aload_0 S dX7_read_62 (q := 63) rfl ?_
        refine zz_getR S fX7_33 rfl (Nat.le_of_ble_eq_true rfl) rfl rfl dX7_read_63 (q := 66) rfl ?_
        refine zz_iload_2 S dX7_read_66 (q := 67) rfl ?_
        -- at 67: invokevirtual 241
        refine zz_virtP S yy_X1_readingByLines lX7_241 (ci := 1) (by decide) rfl (cx_byLines o (sp_dial s c) im1 hd' (sp_dial_fine s c)) rfl (Nat.le_of_ble_eq_true rfl) (Nat.le_of_ble_eq_true rfl) rfl (Nat.le_of_ble_eq_true rfl) rfl dX7_read_67 (q := 70) rfl ?_
        refine zz_goto S dX7_read_70 (t := 81) (by decide) ?_
        -- at 81
        exact fin _ (by rw [ol_reading, if_neg (fun e => e b6), hcl])
    · have b5' : sp_de s c = -100009 := Classical.byContradiction (fun e => absurd b5 (by rw [if_neg e]; decide))
      refine zz_ldc S (v := (-100002)) kX7_95 dX7_read_55 (q := 57) rfl ?_
      -- at 57: ireturn 
      refine zz_iret S dX7_read_57 ⟨rfl, _, rfl, rfl, ?_⟩
      exact zxL.d (by rw [if_pos ball, hcl, if_pos b5']) hk1
  · refine zz_ldc S (v := (-100001)) kX7_159 dX7_read_44 (q := 46) rfl ?_
    -- at 46: ireturn 
    refine zz_iret S dX7_read_46 ⟨rfl, _, rfl, rfl, ?_⟩
    exact zxL.p (by rw [if_neg (fun e => zs_b1.mp b4 e.2.2.2)])
set_option maxHeartbeats 4000000 in
theorem lx_best {n0 mcT msT : Nat} {isI : Bool} {Qf : Option Value → ZE → ZI → Prop} {w : Nat → ZL → List Value → Nat → ZE → ZI → Prop} {z : Nat} {im0 : ZI} {x v dec : Int32} (S : zz_S G l RX7 cX7_bestLatitude 6 4 n0 mcT msT isI (some .int) Qf w)
    (hv : (v = 0 ∧ dec = 0) ∨ (v = 1 ∧ x = dec ∧ sB (-60) 60 dec)) (hQ : ∀ im', zz_keep [468, 469] im0 im' → Qf (some (.int (zs_best v dec))) zE im') :
    ∀ (n k : Nat) (y best least : Int32) (im : ZI), k + n = 71 → 10 ≤ k → y = nI k → zz_keep [468, 469] im0 im → zs_best v dec = zs_beG v dec n k best least → w 40 [some (.ref 0), some (.int x), some (.int v), some (.int best), some (.int least), some (.int y)] [] z zE im := by
  intro n
  induction n with
  | zero =>
    intro k y best least im hk h10 hy hK hF
    have hk : k = 71 := by omega
    subst hk
    refine zz_iload_5 S dX7_bestLatitude_40 (q := 42) rfl ?_
    refine zz_bipush S (v := 70) rfl dX7_bestLatitude_42 (q := 44) rfl ?_
    refine zz_icmp_gt S dX7_bestLatitude_44 (t := 109) (by decide) (q := 47) rfl (fun a1 => ?_) (fun a1 => ?_)
    -- then 109 else 47
    · refine zz_iload_3 S dX7_bestLatitude_109 (q := 110) rfl ?_
      -- at 110: ireturn 
      exact zz_iret S dX7_bestLatitude_110 (by have := hQ im hK; rw [hF] at this; exact this)
    · exact absurd (by rw [hy]; decide) a1
  | succ n ih =>
    intro k y best least im hk h10 hy hK hF
    have hy1 := nI_toInt (n := k) (by omega)
    have hlat : sB 10 70 y := ⟨by rw [hy, hy1]; omega, by rw [hy, hy1]; omega⟩
    -- behind the laying out
    have fin : ∀ im1 : ZI, zx_dial im1 (zs_dial (4 * y) v (4 * dec)) → zz_keep [469] im im1 → w 66 [some (.ref 0), some (.int x), some (.int v), some (.int best), some (.int least), some (.int y)] [] z zE im1 := fun im1 hd hk1 => by
      refine zz_aload_0 S dX7_bestLatitude_66 (q := 67) rfl ?_
      refine zz_getR S fX7_33 rfl (Nat.le_of_ble_eq_true rfl) rfl rfl dX7_bestLatitude_67 (q := 70) rfl ?_
      -- at 70: invokevirtual 248
      refine zz_virtV S yy_X1_compareReadings lX7_248 (ci := 1) (by decide) rfl (cx_compare (zs_dial (4 * y) v (4 * dec)) im1 hd (zs_dial_fine _ _ _)) rfl (Nat.le_of_ble_eq_true rfl) (Nat.le_of_ble_eq_true rfl) rfl (Nat.le_of_ble_eq_true rfl) rfl dX7_bestLatitude_70 (q := 73) rfl ?_
      rintro im2 ⟨g1, -, hk2⟩
      have hK2 : zz_keep [468, 469] im0 im2 := hK.tr ((hk1.le (by decide)).tr hk2 (by decide)) (fun _ q => q)
      rw [zs_beG, ← hy] at hF
      have upd1 : (best = -100009 ∨ (zs_ap (zs_dial (4 * y) v (4 * dec))).1 < least) → w 91 [some (.ref 0), some (.int x), some (.int v), some (.int best), some (.int least), some (.int y)] [] z zE im2 := fun h => by
        rw [if_pos h] at hF
        refine zz_aload_0 S dX7_bestLatitude_91 (q := 92) rfl ?_
        refine zz_getR S fX7_33 rfl (Nat.le_of_ble_eq_true rfl) rfl rfl dX7_bestLatitude_92 (q := 95) rfl ?_
        refine zz_getI S fX7_251 rfl (Nat.le_of_ble_eq_true rfl) rfl dX7_bestLatitude_95 (q := 98) rfl ?_
        refine zz_istore_4 S rfl dX7_bestLatitude_98 (q := 100) rfl ?_
        refine zz_iload_5 S dX7_bestLatitude_100 (q := 102) rfl ?_
        refine zz_istore_3 S rfl dX7_bestLatitude_102 (q := 103) rfl ?_
        refine zz_iinc_5 S rfl dX7_bestLatitude_103 (q := 106) rfl ?_
        refine zz_goto S dX7_bestLatitude_106 (t := 40) (by decide) ?_
        -- at 40
        rw [g1]
        exact ih (k + 1) _ _ _ im2 (by omega) (by omega) (by rw [hy]; exact nI_1 k) hK2 hF
      refine zz_iload_3 S dX7_bestLatitude_73 (q := 74) rfl ?_
      refine zz_ldc S (v := (-100009)) kX7_247 dX7_bestLatitude_74 (q := 76) rfl ?_
      refine zz_icmp_eq S dX7_bestLatitude_76 (t := 91) (by decide) (q := 79) rfl (fun b1 => ?_) (fun b1 => ?_)
      -- then 91 else 79
      · exact upd1 (Or.inl b1)
      · refine zz_aload_0 S dX7_bestLatitude_79 (q := 80) rfl ?_
        refine zz_getR S fX7_33 rfl (Nat.le_of_ble_eq_true rfl) rfl rfl dX7_bestLatitude_80 (q := 83) rfl ?_
        refine zz_getI S fX7_251 rfl (Nat.le_of_ble_eq_true rfl) rfl dX7_bestLatitude_83 (q := 86) rfl ?_
        refine zz_iload_4 S dX7_bestLatitude_86 (q := 88) rfl ?_
        refine zz_icmp_ge S dX7_bestLatitude_88 (t := 103) (by decide) (q := 91) rfl (fun b2 => ?_) (fun b2 => ?_)
        -- then 103 else 91
        · rw [g1] at b2
          rw [if_neg (fun e => e.elim b1 (fun q => absurd b2 (Int32.not_le.mpr q)))] at hF
          refine zz_iinc_5 S rfl dX7_bestLatitude_103 (q := 106) rfl ?_
          refine zz_goto S dX7_bestLatitude_106 (t := 40) (by decide) ?_
          -- at 40
          exact ih (k + 1) _ _ _ im2 (by omega) (by omega) (by rw [hy]; exact nI_1 k) hK2 hF
        · rw [g1] at b2
          exact upd1 (Or.inr (Int32.not_le.mp b2))
    refine zz_iload_5 S dX7_bestLatitude_40 (q := 42) rfl ?_
    refine zz_bipush S (v := 70) rfl dX7_bestLatitude_42 (q := 44) rfl ?_
    refine zz_icmp_gt S dX7_bestLatitude_44 (t := 109) (by decide) (q := 47) rfl (fun a1 => ?_) (fun a1 => ?_)
    -- then 109 else 47
    · exact absurd a1 (by rw [gt_iff_lt, Int32.lt_iff_toInt_lt, hy, hy1]; show ¬ (70 : Int) < _; omega)
    · refine zz_aload_0 S dX7_bestLatitude_47 (q := 48) rfl ?_
      refine zz_getR S fX7_33 rfl (Nat.le_of_ble_eq_true rfl) rfl rfl dX7_bestLatitude_48 (q := 51) rfl ?_
      refine zz_iload_2 S dX7_bestLatitude_51 (q := 52) rfl ?_
      refine zz_iload_5 S dX7_bestLatitude_52 (q := 54) rfl ?_
      refine zz_iload_2 S dX7_bestLatitude_54 (q := 55) rfl ?_
      refine zz_if_eq S dX7_bestLatitude_55 (t := 62) (by decide) (q := 58) rfl (fun b1 => ?_) (fun b1 => ?_)
      -- then 62 else 58
      · rcases hv with ⟨rfl, rfl⟩ | ⟨rfl, rfl, hd⟩
        · refine zz_iconst S (v := 0) rfl dX7_bestLatitude_62 (q := 63) rfl ?_
          -- at 63: invokevirtual 257
          refine zz_virtV S yy_X1_lay lX7_257 (ci := 1) (by decide) rfl (cx_lay 0 y 0 im hlat (Or.inl rfl)) rfl (Nat.le_of_ble_eq_true rfl) (Nat.le_of_ble_eq_true rfl) rfl (Nat.le_of_ble_eq_true rfl) rfl dX7_bestLatitude_63 (q := 66) rfl ?_
          rintro im1 ⟨h1, h2⟩
          exact fin im1 h1 h2
        · exact absurd b1 (by decide)
      · rcases hv with ⟨rfl, rfl⟩ | ⟨rfl, rfl, hd⟩
        · exact absurd rfl b1
        · refine zz_iload_1 S dX7_bestLatitude_58 (q := 59) rfl ?_
          refine zz_goto S dX7_bestLatitude_59 (t := 63) (by decide) ?_
          -- at 63: invokevirtual 257
          refine zz_virtV S yy_X1_lay lX7_257 (ci := 1) (by decide) rfl (cx_lay 1 y x im hlat (Or.inr hd)) rfl (Nat.le_of_ble_eq_true rfl) (Nat.le_of_ble_eq_true rfl) rfl (Nat.le_of_ble_eq_true rfl) rfl dX7_bestLatitude_63 (q := 66) rfl ?_
          rintro im1 ⟨h1, h2⟩
          exact fin im1 h1 h2
set_option maxHeartbeats 1000000 in
theorem cx_best (x : Int32) (im : ZI) : zz_OI G l 4 mX7_bestLatitude [.ref 0, .int x] zE im (fun r im' => zxL im im' r (ol_best x)) := by
  unfold ol_best
  refine zz_intro (isI := false) (by decide) rfl (Nat.le_of_ble_eq_true rfl) (fun h => by cases h) (fun w S => ?_)
  refine zz_iload_1 S dX7_bestLatitude_0 (q := 1) rfl ?_
  refine zz_bipush S (v := 100) rfl dX7_bestLatitude_1 (q := 3) rfl ?_
  refine zz_icmp_eq S dX7_bestLatitude_3 (t := 10) (by decide) (q := 6) rfl (fun a1 => ?_) (fun a1 => ?_)
  -- then 10 else 6
  · refine zz_iconst S (v := 0) rfl dX7_bestLatitude_10 (q := 11) rfl ?_
    refine zz_istore_2 S rfl dX7_bestLatitude_11 (q := 12) rfl ?_
    refine zz_iload_2 S dX7_bestLatitude_12 (q := 13) rfl ?_
    refine zz_if_eq S dX7_bestLatitude_13 (t := 30) (by decide) (q := 16) rfl (fun a2 => ?_) (fun a2 => ?_)
    -- then 30 else 16
    · refine zz_ldc S (v := (-100009)) kX7_247 dX7_bestLatitude_30 (q := 32) rfl ?_
      refine zz_istore_3 S rfl dX7_bestLatitude_32 (q := 33) rfl ?_
      refine zz_iconst S (v := 0) rfl dX7_bestLatitude_33 (q := 34) rfl ?_
      refine zz_istore_4 S rfl dX7_bestLatitude_34 (q := 36) rfl ?_
      refine zz_bipush S (v := 10) rfl dX7_bestLatitude_36 (q := 38) rfl ?_
      refine zz_istore_5 S rfl dX7_bestLatitude_38 (q := 40) rfl ?_
      -- at 40
      exact lx_best (im0 := im) (dec := 0) S (Or.inl ⟨rfl, rfl⟩) (fun im' hk => ⟨rfl, _, rfl, rfl, by rw [if_pos a1], hk⟩) 61 10 _ _ _ im (by omega) (by omega) rfl zz_keep.rf rfl
    · exact absurd rfl a2
  · refine zz_iconst S (v := 1) rfl dX7_bestLatitude_6 (q := 7) rfl ?_
    refine zz_goto S dX7_bestLatitude_7 (t := 11) (by decide) ?_
    refine zz_istore_2 S rfl dX7_bestLatitude_11 (q := 12) rfl ?_
    refine zz_iload_2 S dX7_bestLatitude_12 (q := 13) rfl ?_
    refine zz_if_eq S dX7_bestLatitude_13 (t := 30) (by decide) (q := 16) rfl (fun a2 => ?_) (fun a2 => ?_)
    -- then 30 else 16
    · exact absurd a2 (by decide)
    refine zz_iload_1 S dX7_bestLatitude_16 (q := 17) rfl ?_
    refine zz_bipush S (v := (-60)) rfl dX7_bestLatitude_17 (q := 19) rfl ?_
    refine zz_bipush S (v := 60) rfl dX7_bestLatitude_19 (q := 21) rfl ?_
    -- at 21: invokestatic 216
    refine zz_statP S yy_X7_isWithin lX7_216 (cx_within x (-60) 60 zE im) rfl (Nat.le_of_ble_eq_true rfl) (Nat.le_of_ble_eq_true rfl) rfl dX7_bestLatitude_21 (q := 24) rfl ?_
    refine zz_if_ne S dX7_bestLatitude_24 (t := 30) (by decide) (q := 27) rfl (fun b2 => ?_) (fun b2 => ?_)
    -- then 30 else 27
    · have b2' := zs_ne0 b2
      have hd : sB (-60) 60 x := ⟨by have := Int32.le_iff_toInt_le.mp b2'.1; simpa using this, by have := Int32.le_iff_toInt_le.mp b2'.2; simpa using this⟩
      refine zz_ldc S (v := (-100009)) kX7_247 dX7_bestLatitude_30 (q := 32) rfl ?_
      refine zz_istore_3 S rfl dX7_bestLatitude_32 (q := 33) rfl ?_
      refine zz_iconst S (v := 0) rfl dX7_bestLatitude_33 (q := 34) rfl ?_
      refine zz_istore_4 S rfl dX7_bestLatitude_34 (q := 36) rfl ?_
      refine zz_bipush S (v := 10) rfl dX7_bestLatitude_36 (q := 38) rfl ?_
      refine zz_istore_5 S rfl dX7_bestLatitude_38 (q := 40) rfl ?_
      -- at 40
      exact lx_best (im0 := im) (dec := x) S (Or.inr ⟨rfl, rfl, hd⟩) (fun im' hk => ⟨rfl, _, rfl, rfl, by rw [if_neg a1, if_pos b2'], hk⟩) 61 10 _ _ _ im (by omega) (by omega) rfl zz_keep.rf rfl
    · refine zz_ldc S (v := (-100001)) kX7_159 dX7_bestLatitude_27 (q := 29) rfl ?_
      -- at 29: ireturn 
      refine zz_iret S dX7_bestLatitude_29 ⟨rfl, _, rfl, rfl, ?_⟩
      exact zxL.p (by rw [if_neg a1, if_neg (zs_b1.mp b2)])
end ZCL3
