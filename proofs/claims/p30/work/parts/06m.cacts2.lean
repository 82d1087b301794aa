/-! THE CLASS: walls, commissions, melts -/
section ZRV
variable {im : ZI} {s : ZSt} {nw nc : Nat}
theorem rS.wall (h : rS im 2 s nw nc) (hw : nw < 6) : rS (zz_u (zz_u (zz_u im (7 + nw) 0 (-100009)) (7 + nw) 1 (-100009)) 2 4 (nI nw + 1)) 2 (op_wall s nw) (nw + 1) nc := by
  obtain ⟨⟨a1, a2, a3, a4⟩, b, c, d, e⟩ := h
  unfold op_wall
  refine ⟨⟨?_, ?_, ?_, ?_⟩, fun j hj => ?_, fun m hm => ?_, fun w hw2 => ?_, fun c1 hc f hf e5 => ?_⟩
  · rw [zz_u_e, u_eq]
  · rw [zz_u_n _ _ (by omega), zz_u_n _ _ (by omega), zz_u_n _ _ (by omega), u_ne _ _ (by omega), u_ne _ _ (by omega), u_ne _ _ (by omega), u_ne _ _ (by omega)]; exact a2
  · rw [zz_u_n _ _ (by omega), zz_u_n _ _ (by omega), zz_u_n _ _ (by omega), u_ne _ _ (by omega), u_ne _ _ (by omega), u_ne _ _ (by omega), u_ne _ _ (by omega)]; exact a3
  · rw [zz_u_n _ _ (by omega), zz_u_n _ _ (by omega), zz_u_n _ _ (by omega), u_ne _ _ (by omega), u_ne _ _ (by omega), u_ne _ _ (by omega), u_ne _ _ (by omega)]; exact a4
  · rw [zz_u_n _ _ (by omega), zz_u_n _ _ (by omega), zz_u_n _ _ (by omega), u_ne _ _ (by omega), u_ne _ _ (by omega), u_ne _ _ (by omega), u_ne _ _ (by omega)]; exact b j hj
  · rw [zz_u_n _ _ (by omega), zz_u_n _ _ (by omega), zz_u_n _ _ (by omega), u_ne _ _ (by omega), u_ne _ _ (by omega), u_ne _ _ (by omega), u_ne _ _ (by omega)]; exact c m hm
  · by_cases hwn : w = nw
    · subst hwn
      rw [show (2 + 5 + w : Nat) = 7 + w by omega, zz_u_n _ _ (by omega), zz_u_n _ _ (by omega), zz_u_e, zz_u_n _ _ (by omega), zz_u_e, u_ne _ _ (by omega), u_ne _ _ (by omega), u_eq, u_ne _ _ (by omega), u_eq]
      exact ⟨rfl, rfl⟩
    · rw [zz_u_n _ _ (by omega), zz_u_n _ _ (by omega), zz_u_n _ _ (by omega), zz_u_n _ _ (by omega), zz_u_n _ _ (by omega), zz_u_n _ _ (by omega), u_ne _ _ (by omega), u_ne _ _ (by omega), u_ne _ _ (by omega), u_ne _ _ (by omega), u_ne _ _ (by omega), u_ne _ _ (by omega), u_ne _ _ (by omega), u_ne _ _ (by omega)]
      exact d w (by omega)
  · rw [zz_u_n _ _ (by omega), zz_u_n _ _ (by omega), zz_u_n _ _ (by omega), u_ne _ _ (by omega), u_ne _ _ (by omega), u_ne _ _ (by omega), u_ne _ _ (by omega)]
    exact e c1 hc f hf (fun q => by have := e5 q; rw [u_ne _ _ (by omega), u_ne _ _ (by omega), u_ne _ _ (by omega), u_ne _ _ (by omega)] at this; exact this)
theorem rS.meas (h : rS im 2 s nw nc) (hw6 : nw ≤ 6) {k : Nat} {v : Int32} (hk : k < nw) : rS (zz_u (zz_u im (7 + k) 1 (im (7 + k) 0)) (7 + k) 0 v) 2 (op_meas s k v) nw nc := by
  have hwk := h.wal hk
  obtain ⟨⟨a1, a2, a3, a4⟩, b, c, d, e⟩ := h
  unfold op_meas
  refine ⟨⟨?_, ?_, ?_, ?_⟩, fun j hj => ?_, fun m hm => ?_, fun w hw2 => ?_, fun c1 hc f hf e5 => ?_⟩
  · rw [zz_u_n _ _ (by omega), zz_u_n _ _ (by omega), u_ne _ _ (by omega), u_ne _ _ (by omega), u_ne _ _ (by omega)]; exact a1
  · rw [zz_u_n _ _ (by omega), zz_u_n _ _ (by omega), u_ne _ _ (by omega), u_ne _ _ (by omega), u_ne _ _ (by omega)]; exact a2
  · rw [zz_u_n _ _ (by omega), zz_u_n _ _ (by omega), u_ne _ _ (by omega), u_ne _ _ (by omega), u_ne _ _ (by omega)]; exact a3
  · rw [zz_u_n _ _ (by omega), zz_u_n _ _ (by omega), u_ne _ _ (by omega), u_ne _ _ (by omega), u_ne _ _ (by omega)]; exact a4
  · rw [zz_u_n _ _ (by omega), zz_u_n _ _ (by omega), u_ne _ _ (by omega), u_ne _ _ (by omega), u_ne _ _ (by omega)]; exact b j hj
  · rw [zz_u_n _ _ (by omega), zz_u_n _ _ (by omega), u_ne _ _ (by omega), u_ne _ _ (by omega), u_ne _ _ (by omega)]; exact c m hm
  · by_cases hwn : w = k
    · subst hwn
      rw [show (2 + 5 + w : Nat) = 7 + w by omega, zz_u_e, zz_u_n _ _ (by omega), zz_u_e, u_eq, u_ne _ _ (by omega), u_eq]
      exact ⟨rfl, hwk.1⟩
    · rw [zz_u_n _ _ (by omega), zz_u_n _ _ (by omega), zz_u_n _ _ (by omega), zz_u_n _ _ (by omega), u_ne _ _ (by omega), u_ne _ _ (by omega), u_ne _ _ (by omega), u_ne _ _ (by omega), u_ne _ _ (by omega), u_ne _ _ (by omega)]
      exact d w hw2
  · rw [zz_u_n _ _ (by omega), zz_u_n _ _ (by omega), u_ne _ _ (by omega), u_ne _ _ (by omega), u_ne _ _ (by omega)]
    exact e c1 hc f hf (fun q => by have := e5 q; rw [u_ne _ _ (by omega), u_ne _ _ (by omega), u_ne _ _ (by omega)] at this; exact this)
end ZRV
section ZCA2
variable {G : ZG} {l : Launch}
theorem cx_openWall (nw nc : Nat) (s : ZSt) (im : ZI) (hI : sI s nw nc) (hr : rS im 2 s nw nc) : zz_OI G l 0 mX4_openWall [.ref 2] zE im (fun r im' => zA im im' r (op_cWall s) (nI nw) (op_wall s nw) (nw + 1) nc) := by
  have h0 : im 2 4 = nI nw := hr.n.1.trans hI.1
  have hw := hI.2.1
  have e0 : s 0 = nI nw := hI.1
  have hlt : nI nw < (6 : Int32) ↔ nw < 6 := nI_ltI (a := nw) (b := 6) (by omega) (by omega)
  have heq : nI nw = (6 : Int32) ↔ nw = 6 := nI_eq (a := nw) (b := 6) (by omega) (by omega)
  have hcd : op_cWall s = if nI nw = (6 : Int32) then -100003 else 0 := by rw [op_cWall, e0]
  refine zz_intro (isI := false) (by decide) rfl (Nat.le_of_ble_eq_true rfl) (fun h => by cases h) (fun w S => ?_)
  refine zz_aload_0 S dX4_openWall_0 (q := 1) rfl ?_
  refine zz_getI S fX4_48 rfl (Nat.le_of_ble_eq_true rfl) rfl dX4_openWall_1 (q := 4) rfl ?_
  refine zz_bipush S (v := 6) rfl dX4_openWall_4 (q := 6) rfl ?_
  refine zz_icmp_lt S dX4_openWall_6 (t := 12) (by decide) (q := 9) rfl (fun b1 => ?_) (fun b1 => ?_)
  -- then 12 else 9
  · rw [h0] at b1
    have b2 := hlt.mp b1
    rw [if_neg (fun e => by have := heq.mp e; omega)] at hcd
    refine zz_aload_0 S dX4_openWall_12 (q := 13) rfl ?_
    refine zz_getR S fX4_11 rfl (Nat.le_of_ble_eq_true rfl) rfl rfl dX4_openWall_13 (q := 16) rfl ?_
    refine zz_aload_0 S dX4_openWall_16 (q := 17) rfl ?_
    refine zz_getI S fX4_48 rfl (Nat.le_of_ble_eq_true rfl) rfl dX4_openWall_17 (q := 20) rfl ?_
    refine zz_aaN S (j := nw) (Nat.le_of_ble_eq_true rfl) rfl ⟨Nat.le_of_ble_eq_true rfl, Nat.le_of_ble_eq_true rfl⟩ (Nat.le_of_ble_eq_true rfl) h0 (by omega) (zw_ref nw b2) dX4_openWall_20 (q := 21) rfl ?_
    refine zz_astore_1 S rfl dX4_openWall_21 (q := 22) rfl ?_
    refine zz_aload_1 S dX4_openWall_22 (q := 23) rfl ?_
    refine zz_ldc S (v := (-100009)) kX4_73 dX4_openWall_23 (q := 25) rfl ?_
    refine zz_putI S fX4_74 rfl rfl (show 7 + nw < 470 by omega) (zw_k nw b2) dX4_openWall_25 (q := 28) rfl ?_
    refine zz_aload_1 S dX4_openWall_28 (q := 29) rfl ?_
    refine zz_ldc S (v := (-100009)) kX4_73 dX4_openWall_29 (q := 31) rfl ?_
    refine zz_putI S fX4_77 rfl rfl (show 7 + nw < 470 by omega) (zw_k nw b2) dX4_openWall_31 (q := 34) rfl ?_
    refine zz_aload_0 S dX4_openWall_34 (q := 35) rfl ?_
    refine zz_dup S rfl dX4_openWall_35 (q := 36) rfl ?_
    refine zz_getI S fX4_48 rfl (Nat.le_of_ble_eq_true rfl) rfl dX4_openWall_36 (q := 39) rfl ?_
    refine zz_iconst S (v := 1) rfl dX4_openWall_39 (q := 40) rfl ?_
    refine zz_iadd S dX4_openWall_40 (q := 41) rfl ?_
    refine zz_putI S fX4_48 rfl rfl (Nat.le_of_ble_eq_true rfl) rfl dX4_openWall_41 (q := 44) rfl ?_
    refine zz_aload_0 S dX4_openWall_44 (q := 45) rfl ?_
    refine zz_getI S fX4_48 rfl (Nat.le_of_ble_eq_true rfl) rfl dX4_openWall_45 (q := 48) rfl ?_
    refine zz_iconst S (v := 1) rfl dX4_openWall_48 (q := 49) rfl ?_
    refine zz_isub S dX4_openWall_49 (q := 50) rfl ?_
    -- at 50: ireturn 
    have e3 : zz_u (zz_u im (7 + nw) 0 (-100009)) (7 + nw) 1 (-100009) 2 4 = nI nw := by rw [zz_u_n _ _ (by omega), zz_u_n _ _ (by omega)]; exact h0
    rw [e3]
    refine zz_iret S dX4_openWall_50 ⟨rfl, _, rfl, rfl, ?_⟩
    refine zA.yes (by rw [hcd]; decide) (((zFr.rf.u (by omega)).u (by omega)).u (by omega)) ?_ (hr.wall b2)
    rw [zz_u_e, nI_1, nI_pred]
  · rw [h0] at b1
    rw [if_pos (heq.mpr (by have : ¬ nw < 6 := fun e => b1 (hlt.mpr e); omega))] at hcd
    refine zz_ldc S (v := (-100003)) kX4_72 dX4_openWall_9 (q := 11) rfl ?_
    -- at 11: ireturn 
    refine zz_iret S dX4_openWall_11 ⟨rfl, _, rfl, rfl, ?_⟩
    exact zA.no (by rw [hcd]; decide) (by rw [hcd])
set_option maxHeartbeats 1000000 in
theorem cx_measureWall (x v : Int32) (nw nc : Nat) (s : ZSt) (im : ZI) (hI : sI s nw nc) (hr : rS im 2 s nw nc) : zz_OI G l 2 mX4_measureWall [.ref 2, .int x, .int v] zE im (fun r im' => zA im im' r (op_cMeas s x v) (op_rMeas s x.toNatClampNeg v) (op_meas s x.toNatClampNeg v) nw nc) := by
  have h0 : im 2 4 = nI nw := hr.n.1.trans hI.1
  have hw := hI.2.1
  have e0 : s 0 = nI nw := hI.1
  have hcd : op_cMeas s x v = if (x ≥ 0 ∧ x ≤ nI nw - 1) ∧ v ≥ -60 ∧ v ≤ 60 then 0 else -100001 := by rw [op_cMeas, e0]
  refine zz_intro (isI := false) (by decide) rfl (Nat.le_of_ble_eq_true rfl) (fun h => by cases h) (fun w S => ?_)
  refine zz_aload_0 S dX4_measureWall_0 (q := 1) rfl ?_
  refine zz_iload_1 S dX4_measureWall_1 (q := 2) rfl ?_
  -- at 2: invokevirtual 80
  refine zz_virtP S yy_X4_hasWall lX4_80 (ci := 4) (by decide) rfl (cx_hasWall x nw im h0 hw) rfl (Nat.le_of_ble_eq_true rfl) (Nat.le_of_ble_eq_true rfl) rfl (Nat.le_of_ble_eq_true rfl) rfl dX4_measureWall_2 (q := 5) rfl ?_
  refine zz_if_eq S dX4_measureWall_5 (t := 19) (by decide) (q := 8) rfl (fun b1 => ?_) (fun b1 => ?_)
  -- then 19 else 8
  · rw [if_neg (fun e => zs_b1.mp b1 e.1)] at hcd
    refine zz_ldc S (v := (-100001)) kX4_65 dX4_measureWall_19 (q := 21) rfl ?_
    -- at 21: ireturn 
    refine zz_iret S dX4_measureWall_21 ⟨rfl, _, rfl, rfl, ?_⟩
    exact zA.no (by rw [hcd]; decide) (by rw [hcd])
  have b1' := zs_ne0 b1
  obtain ⟨k, hk, hx⟩ := zs_within (n := nw) (by omega) b1'
  have hcl : x.toNatClampNeg = k := zs_cl hx (by omega)
  refine zz_iload_2 S dX4_measureWall_8 (q := 9) rfl ?_
  refine zz_bipush S (v := (-60)) rfl dX4_measureWall_9 (q := 11) rfl ?_
  refine zz_bipush S (v := 60) rfl dX4_measureWall_11 (q := 13) rfl ?_
  -- at 13: invokestatic 61
  refine zz_statNP S yy_X7_isWithin lX4_61 (cx_within v (-60) 60 zE im) rfl (Nat.le_of_ble_eq_true rfl) (Nat.le_of_ble_eq_true rfl) rfl dX4_measureWall_13 (q := 16) rfl ?_
  refine zz_if_ne S dX4_measureWall_16 (t := 22) (by decide) (q := 19) rfl (fun b2 => ?_) (fun b2 => ?_)
  -- then 22 else 19
  · have b2' := zs_ne0 b2
    rw [if_pos ⟨b1', b2'⟩] at hcd
    have hv : sB (-60) 60 v := ⟨by have := Int32.le_iff_toInt_le.mp b2'.1; simpa using this, by have := Int32.le_iff_toInt_le.mp b2'.2; simpa using this⟩
    have hI2 := sI_meas hI hk hv
    have hr2 := hr.meas hw (v := v) hk
    have hkE : 7 + k < 470 := by omega
    have hkk := zw_k k (by omega)
    refine zz_aload_0 S dX4_measureWall_22 (q := 23) rfl ?_
    refine zz_getR S fX4_11 rfl (Nat.le_of_ble_eq_true rfl) rfl rfl dX4_measureWall_23 (q := 26) rfl ?_
    refine zz_iload_1 S dX4_measureWall_26 (q := 27) rfl ?_
    refine zz_aaN S (j := k) (Nat.le_of_ble_eq_true rfl) rfl ⟨Nat.le_of_ble_eq_true rfl, Nat.le_of_ble_eq_true rfl⟩ (Nat.le_of_ble_eq_true rfl) hx (by omega) (zw_ref k (by omega)) dX4_measureWall_27 (q := 28) rfl ?_
    refine zz_astore_3 S rfl dX4_measureWall_28 (q := 29) rfl ?_
    refine zz_aload_3 S dX4_measureWall_29 (q := 30) rfl ?_
    refine zz_aload_3 S dX4_measureWall_30 (q := 31) rfl ?_
    refine zz_getI S fX4_74 rfl hkE hkk dX4_measureWall_31 (q := 34) rfl ?_
    refine zz_putI S fX4_77 rfl rfl hkE hkk dX4_measureWall_34 (q := 37) rfl ?_
    refine zz_aload_3 S dX4_measureWall_37 (q := 38) rfl ?_
    refine zz_iload_2 S dX4_measureWall_38 (q := 39) rfl ?_
    refine zz_putI S fX4_74 rfl rfl hkE hkk dX4_measureWall_39 (q := 42) rfl ?_
    refine zz_aload_3 S dX4_measureWall_42 (q := 43) rfl ?_
    refine zz_aload_0 S dX4_measureWall_43 (q := 44) rfl ?_
    refine zz_getR S fX4_21 rfl (Nat.le_of_ble_eq_true rfl) rfl rfl dX4_measureWall_44 (q := 47) rfl ?_
    refine zz_iconst S (v := 0) rfl dX4_measureWall_47 (q := 48) rfl ?_
    refine zz_iaN S (j := 0) (Nat.le_of_ble_eq_true rfl) rfl (Nat.le_of_ble_eq_true rfl) rfl (Nat.le_of_ble_eq_true rfl) dX4_measureWall_48 (q := 49) rfl ?_
    -- at 49: invokevirtual 84
    generalize him2 : zz_u (zz_u im (7 + k) 1 (im (7 + k) 0)) (7 + k) 0 v = im2 at hr2 ⊢
    have hf : zFr im im2 := by rw [← him2]; exact (zFr.rf.u (by omega)).u (by omega)
    have hwl := hr2.wal hk
    have hs := hI2.2.2.2.2.2.2.1 k hk
    have e4 : im2 5 0 = op_meas s k v 4 := hr2.set (by omega)
    have key := zs_known (t := op_meas s k v 4) hs
    rw [e4]
    refine zz_virtP S yy_X6_isKnown lX4_84 (ci := 6) (by decide) rfl (cx_isKnown (7 + k) (op_meas s k v 4) im2 hkE hkk) rfl (Nat.le_of_ble_eq_true rfl) hkE hkk (Nat.le_of_ble_eq_true rfl) rfl dX4_measureWall_49 (q := 52) rfl ?_
    rw [hwl.1, hwl.2]
    refine zz_if_eq S dX4_measureWall_52 (t := 59) (by decide) (q := 55) rfl (fun b3 => ?_) (fun b3 => ?_)
    -- then 59 else 55
    · have b4 : ¬ ¬ _ := fun q => (zs_b1.mp b3) (key.mpr q)
      refine zz_iconst S (v := 0) rfl dX4_measureWall_59 (q := 60) rfl ?_
      -- at 60: ireturn 
      refine zz_iret S dX4_measureWall_60 ⟨rfl, _, rfl, rfl, ?_⟩
      rw [hcl]
      refine zA.yes (by rw [hcd]; decide) hf ?_ hr2
      rw [op_rMeas, if_pos]
      unfold sp_wd
      rw [if_pos (Classical.not_not.mp b4)]
    · have b4 := key.mp (zs_ne0 b3)
      refine zz_iconst S (v := 1) rfl dX4_measureWall_55 (q := 56) rfl ?_
      refine zz_goto S dX4_measureWall_56 (t := 60) (by decide) ?_
      -- at 60: ireturn 
      refine zz_iret S dX4_measureWall_60 ⟨rfl, _, rfl, rfl, ?_⟩
      rw [hcl]
      refine zA.yes (by rw [hcd]; decide) hf ?_ hr2
      rw [op_rMeas, if_neg (sB_N (sp_wd_k hs b4))]
  · rw [if_neg (fun e => zs_b1.mp b2 e.2)] at hcd
    refine zz_ldc S (v := (-100001)) kX4_65 dX4_measureWall_19 (q := 21) rfl ?_
    -- at 21: ireturn 
    refine zz_iret S dX4_measureWall_21 ⟨rfl, _, rfl, rfl, ?_⟩
    exact zA.no (by rw [hcd]; decide) (by rw [hcd])
end ZCA2
