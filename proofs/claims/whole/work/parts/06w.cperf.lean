/-! THE CLASS: a command is carried out -/
def zPf (im im' : ZI) (r cd : Int32) (s' : ZSt) : Prop := zFd im im' ∧ (cd ≥ 0 → ¬ isErr r ∧ ∃ nw' nc', sI s' nw' nc' ∧ rS im' 2 s' nw' nc') ∧ (¬ cd ≥ 0 → isErr r)
theorem zFr.fd {im im1 im2 : ZI} (hj : zz_keep [468, 469] im im1) (h : zFr im1 im2) : zFd im im2 := fun k a b c => by rw [h k a, hj k (by simp; omega)]
theorem zA.pf {im im1 im2 : ZI} {r cd ans : Int32} {s' : ZSt} {nw' nc' : Nat} (hj : zz_keep [468, 469] im im1) (h : zA im1 im2 r cd ans s' nw' nc') (hS : cd ≥ 0 → sI s' nw' nc' ∧ ¬ isErr ans) (hE : ¬ cd ≥ 0 → isErr cd) : zPf im im2 r cd s' := by
  obtain ⟨h1, h2⟩ := h
  refine ⟨zFr.fd hj h1, fun hcd => ?_, fun hcd => ?_⟩
  · rw [if_pos hcd] at h2
    obtain ⟨rfl, h3⟩ := h2
    exact ⟨(hS hcd).2, nw', nc', (hS hcd).1, h3⟩
  · rw [if_neg hcd] at h2
    obtain ⟨rfl, -⟩ := h2
    exact hE hcd
section ZCPF
variable {G : ZG} {l : Launch}
set_option maxHeartbeats 2000000 in
theorem cx_perform (x : Int32) (v nw nc : Nat) (s : ZSt) (im : ZI) (hx : x = nI v) (hv : v < 7) (hI : sI s nw nc) (hr : rS im 2 s nw nc) : zz_OI G l 6 mX7_perform [.ref 0, .int x] zE im (fun r im' => zPf im im' r (rk_code s v (im 467)) (rk_do s v (im 467))) := by
  have h0 := hI.1
  have hw := hI.2.1
  have h1 := hI.2.2.1
  have hn := hI.2.2.2.1
  have o0 : nO s 0 = nw := nO_of h0 (by omega)
  have o1 : nO s 1 = nc := nO_of h1 (by omega)
  have pos : ∀ n, n < 1000 → ¬ isErr (nI n) := fun n h => ne_err0 (nI_pos' (by omega))
  have hj : zz_keep [468, 469] im im := zz_keep.rf
  generalize ha : im 467 = a
  subst hx
  refine zz_intro (isI := false) (by decide) rfl (Nat.le_of_ble_eq_true rfl) (fun h => by cases h) (fun w S => ?_)
  refine zz_aload_0 S dX7_perform_0 (q := 1) rfl ?_
  refine zz_getR S fX7_26 rfl (Nat.le_of_ble_eq_true rfl) rfl rfl dX7_perform_1 (q := 4) rfl ?_
  refine zz_getR S fX7_267 rfl (Nat.le_of_ble_eq_true rfl) rfl rfl dX7_perform_4 (q := 7) rfl ?_
  refine zz_iconst S (v := 0) rfl dX7_perform_7 (q := 8) rfl ?_
  refine zz_iaN S (j := 0) (Nat.le_of_ble_eq_true rfl) rfl (Nat.le_of_ble_eq_true rfl) rfl (Nat.le_of_ble_eq_true rfl) dX7_perform_8 (q := 9) rfl ?_
  refine zz_istore_2 S rfl dX7_perform_9 (q := 10) rfl ?_
  refine zz_aload_0 S dX7_perform_10 (q := 11) rfl ?_
  refine zz_getR S fX7_26 rfl (Nat.le_of_ble_eq_true rfl) rfl rfl dX7_perform_11 (q := 14) rfl ?_
  refine zz_getR S fX7_267 rfl (Nat.le_of_ble_eq_true rfl) rfl rfl dX7_perform_14 (q := 17) rfl ?_
  refine zz_iconst S (v := 1) rfl dX7_perform_17 (q := 18) rfl ?_
  refine zz_iaN S (j := 1) (Nat.le_of_ble_eq_true rfl) rfl (Nat.le_of_ble_eq_true rfl) rfl (Nat.le_of_ble_eq_true rfl) dX7_perform_18 (q := 19) rfl ?_
  refine zz_istore_3 S rfl dX7_perform_19 (q := 20) rfl ?_
  refine zz_aload_0 S dX7_perform_20 (q := 21) rfl ?_
  refine zz_getR S fX7_26 rfl (Nat.le_of_ble_eq_true rfl) rfl rfl dX7_perform_21 (q := 24) rfl ?_
  refine zz_getR S fX7_267 rfl (Nat.le_of_ble_eq_true rfl) rfl rfl dX7_perform_24 (q := 27) rfl ?_
  refine zz_iconst S (v := 2) rfl dX7_perform_27 (q := 28) rfl ?_
  refine zz_iaN S (j := 2) (Nat.le_of_ble_eq_true rfl) rfl (Nat.le_of_ble_eq_true rfl) rfl (Nat.le_of_ble_eq_true rfl) dX7_perform_28 (q := 29) rfl ?_
  refine zz_istore_4 S rfl dX7_perform_29 (q := 31) rfl ?_
  refine zz_iload_1 S dX7_perform_31 (q := 32) rfl ?_
  -- at 32: tableswitch 118 0 6 #[44, 52, 62, 74, 87, 101, 109]
  rw [ha]
  rcases rk_7 hv with rfl | rfl | rfl | rfl | rfl | rfl | rfl
  · refine zz_tabIn S dX7_perform_32 (by decide) (by decide) (off := 44) (by decide) (t := 76) (by decide) ?_
    refine zz_aload_0 S dX7_perform_76 (q := 77) rfl ?_
    refine zz_getR S fX7_41 rfl (Nat.le_of_ble_eq_true rfl) rfl rfl dX7_perform_77 (q := 80) rfl ?_
    -- at 80: invokevirtual 59
    refine zz_virtI S yy_X4_openWall lX7_59 (ci := 4) (by decide) rfl (cx_openWall nw nc s im hI hr) rfl (Nat.le_of_ble_eq_true rfl) (Nat.le_of_ble_eq_true rfl) rfl (Nat.le_of_ble_eq_true rfl) rfl dX7_perform_80 (q := 83) rfl ?_
    intro r im1 hA
    refine zz_iret S dX7_perform_83 ⟨rfl, _, rfl, rfl, ?_⟩
    have key := zA.pf hj hA (fun hcd => ⟨sI_wall hI (op_cWall_ok h0 hw hcd), pos nw (by omega)⟩) cWall_err
    show zPf im im1 r (op_cWall s) (op_wall s (nO s 0))
    rw [o0]
    exact key
  · refine zz_tabIn S dX7_perform_32 (by decide) (by decide) (off := 52) (by decide) (t := 84) (by decide) ?_
    refine zz_aload_0 S dX7_perform_84 (q := 85) rfl ?_
    refine zz_getR S fX7_41 rfl (Nat.le_of_ble_eq_true rfl) rfl rfl dX7_perform_85 (q := 88) rfl ?_
    refine zz_iload_2 S dX7_perform_88 (q := 89) rfl ?_
    refine zz_iload_3 S dX7_perform_89 (q := 90) rfl ?_
    -- at 90: invokevirtual 63
    refine zz_virtI S yy_X4_measureWall lX7_63 (ci := 4) (by decide) rfl (cx_measureWall (a 0) (a 1) nw nc s im hI hr) rfl (Nat.le_of_ble_eq_true rfl) (Nat.le_of_ble_eq_true rfl) rfl (Nat.le_of_ble_eq_true rfl) rfl dX7_perform_90 (q := 93) rfl ?_
    intro r im1 hA
    refine zz_iret S dX7_perform_93 ⟨rfl, _, rfl, rfl, ?_⟩
    refine zA.pf hj hA (fun hcd => ?_) cMeas_err
    obtain ⟨k, hk, ek, hb⟩ := op_cMeas_ok h0 hw hcd
    rw [zs_cl ek (by omega)]
    refine ⟨?_, ne_err0 ?_⟩
    · show sI (op_meas s (nO a 0) (a 1)) nw nc
      rw [nO_of ek (by omega)]
      exact sI_meas hI hk hb
    unfold op_rMeas
    split
    · decide
    · decide
  · refine zz_tabIn S dX7_perform_32 (by decide) (by decide) (off := 62) (by decide) (t := 94) (by decide) ?_
    refine zz_aload_0 S dX7_perform_94 (q := 95) rfl ?_
    refine zz_getR S fX7_41 rfl (Nat.le_of_ble_eq_true rfl) rfl rfl dX7_perform_95 (q := 98) rfl ?_
    refine zz_iload_2 S dX7_perform_98 (q := 99) rfl ?_
    refine zz_iconst S (v := (-1)) rfl dX7_perform_99 (q := 100) rfl ?_
    refine zz_iload_3 S dX7_perform_100 (q := 101) rfl ?_
    refine zz_iconst S (v := 0) rfl dX7_perform_101 (q := 102) rfl ?_
    -- at 102: invokevirtual 66
    refine zz_virtI S yy_X4_openCommission lX7_66 (ci := 4) (by decide) rfl (cx_openCom (a 0) (-1) (a 1) 0 nw nc s im hI hr) rfl (Nat.le_of_ble_eq_true rfl) (Nat.le_of_ble_eq_true rfl) rfl (Nat.le_of_ble_eq_true rfl) rfl dX7_perform_102 (q := 105) rfl ?_
    intro r im1 hA
    refine zz_iret S dX7_perform_105 ⟨rfl, _, rfl, rfl, ?_⟩
    have key := zA.pf hj hA (fun hcd => by
      obtain ⟨b1, b2, b3, b4, b5⟩ := op_cAsk_ok h0 hw h1 hn hcd
      exact ⟨sI_ask hI b1 b2 b3 b4 b5, pos nc (by omega)⟩) cAsk_err
    show zPf im im1 r (op_cAsk s (a 0) (-1) (a 1) 0) (op_ask s (nO s 1) (a 0) (-1) (a 1) 0)
    rw [o1]
    exact key
  · refine zz_tabIn S dX7_perform_32 (by decide) (by decide) (off := 74) (by decide) (t := 106) (by decide) ?_
    refine zz_aload_0 S dX7_perform_106 (q := 107) rfl ?_
    refine zz_getR S fX7_41 rfl (Nat.le_of_ble_eq_true rfl) rfl rfl dX7_perform_107 (q := 110) rfl ?_
    refine zz_iload_2 S dX7_perform_110 (q := 111) rfl ?_
    refine zz_iload_3 S dX7_perform_111 (q := 112) rfl ?_
    refine zz_iload_4 S dX7_perform_112 (q := 114) rfl ?_
    refine zz_iconst S (v := 0) rfl dX7_perform_114 (q := 115) rfl ?_
    -- at 115: invokevirtual 66
    refine zz_virtI S yy_X4_openCommission lX7_66 (ci := 4) (by decide) rfl (cx_openCom (a 0) (a 1) (a 2) 0 nw nc s im hI hr) rfl (Nat.le_of_ble_eq_true rfl) (Nat.le_of_ble_eq_true rfl) rfl (Nat.le_of_ble_eq_true rfl) rfl dX7_perform_115 (q := 118) rfl ?_
    intro r im1 hA
    refine zz_iret S dX7_perform_118 ⟨rfl, _, rfl, rfl, ?_⟩
    have key := zA.pf hj hA (fun hcd => by
      obtain ⟨b1, b2, b3, b4, b5⟩ := op_cAsk_ok h0 hw h1 hn hcd
      exact ⟨sI_ask hI b1 b2 b3 b4 b5, pos nc (by omega)⟩) cAsk_err
    show zPf im im1 r (op_cAsk s (a 0) (a 1) (a 2) 0) (op_ask s (nO s 1) (a 0) (a 1) (a 2) 0)
    rw [o1]
    exact key
  · refine zz_tabIn S dX7_perform_32 (by decide) (by decide) (off := 87) (by decide) (t := 119) (by decide) ?_
    refine zz_aload_0 S dX7_perform_119 (q := 120) rfl ?_
    refine zz_getR S fX7_41 rfl (Nat.le_of_ble_eq_true rfl) rfl rfl dX7_perform_120 (q := 123) rfl ?_
    refine zz_iload_2 S dX7_perform_123 (q := 124) rfl ?_
    refine zz_aload_0 S dX7_perform_124 (q := 125) rfl ?_
    refine zz_iload_2 S dX7_perform_125 (q := 126) rfl ?_
    -- at 126: invokevirtual 70
    refine zz_virtI S yy_X7_judge lX7_70 (ci := 7) (by decide) rfl (cx_judge (a 0) nw nc s im hI hr) rfl (Nat.le_of_ble_eq_true rfl) (Nat.le_of_ble_eq_true rfl) rfl (Nat.le_of_ble_eq_true rfl) rfl dX7_perform_126 (q := 129) rfl ?_
    rintro r1 im1 ⟨rfl, hj1⟩
    have hr1 : rS im1 2 s nw nc := hr.keep hw hn (fun k a b => hj1 k (by simp; omega))
    refine zz_virtI S yy_X4_conclude lX7_73 (ci := 4) (by decide) rfl (cx_conclude (a 0) (ol_reason s (a 0)) nw nc s im1 hI hr1 rfl) rfl (Nat.le_of_ble_eq_true rfl) (Nat.le_of_ble_eq_true rfl) rfl (Nat.le_of_ble_eq_true rfl) rfl dX7_perform_129 (q := 132) rfl ?_
    intro r im2 hA
    refine zz_iret S dX7_perform_132 ⟨rfl, _, rfl, rfl, ?_⟩
    refine zA.pf hj1 hA (fun hcd => ?_) cSt_err
    obtain ⟨c, hc2, ec, hb⟩ := op_cSt_ok h1 hn hcd
    rw [zs_cl ec (by omega)]
    refine ⟨?_, ne_err0 (sp_re_ge _ _)⟩
    show sI (op_dec s (nO a 0)) nw nc
    rw [nO_of ec (by omega)]
    exact sI_dec hI hc2
  · refine zz_tabIn S dX7_perform_32 (by decide) (by decide) (off := 101) (by decide) (t := 133) (by decide) ?_
    refine zz_aload_0 S dX7_perform_133 (q := 134) rfl ?_
    refine zz_getR S fX7_41 rfl (Nat.le_of_ble_eq_true rfl) rfl rfl dX7_perform_134 (q := 137) rfl ?_
    -- at 137: invokevirtual 79
    refine zz_virtI S yy_X4_castMelt lX7_79 (ci := 4) (by decide) rfl (cx_castMelt nw nc s im hI hr) rfl (Nat.le_of_ble_eq_true rfl) (Nat.le_of_ble_eq_true rfl) rfl (Nat.le_of_ble_eq_true rfl) rfl dX7_perform_137 (q := 140) rfl ?_
    intro r im1 hA
    refine zz_iret S dX7_perform_140 ⟨rfl, _, rfl, rfl, ?_⟩
    have key := zA.pf hj hA (fun hcd => by
      refine ⟨sI_cas hI, ?_⟩
      have := pc_le (ch (op_ml s nc (op_st s)).2 (op_st s)) nc
      rw [op_ml_pc]
      exact pos _ (by omega)) cCas_err
    show zPf im im1 r (op_cCas s (nO s 1)) (op_cas s (nO s 1))
    rw [o1]
    exact key
  · refine zz_tabIn S dX7_perform_32 (by decide) (by decide) (off := 109) (by decide) (t := 141) (by decide) ?_
    refine zz_aload_0 S dX7_perform_141 (q := 142) rfl ?_
    refine zz_getR S fX7_41 rfl (Nat.le_of_ble_eq_true rfl) rfl rfl dX7_perform_142 (q := 145) rfl ?_
    refine zz_iload_2 S dX7_perform_145 (q := 146) rfl ?_
    -- at 146: invokevirtual 82
    refine zz_virtI S yy_X4_handOver lX7_82 (ci := 4) (by decide) rfl (cx_handOver (a 0) nw nc s im hI hr) rfl (Nat.le_of_ble_eq_true rfl) (Nat.le_of_ble_eq_true rfl) rfl (Nat.le_of_ble_eq_true rfl) rfl dX7_perform_146 (q := 149) rfl ?_
    intro r im1 hA
    refine zz_iret S dX7_perform_149 ⟨rfl, _, rfl, rfl, ?_⟩
    refine zA.pf hj hA (fun hcd => ?_) cSt_err
    obtain ⟨c, hc2, ec, hb⟩ := op_cSt_ok h1 hn hcd
    rw [zs_cl ec (by omega)]
    refine ⟨?_, ?_⟩
    · show sI (op_del s (nO a 0)) nw nc
      rw [nO_of ec (by omega)]
      exact sI_del hI hc2 hb
    obtain ⟨r9, hr9, er9⟩ := op_inG_ge (s := op_del s c) (st := 3) nc 0 0 (by omega)
    have er8 : op_in (op_del s c) nc 3 = nI r9 := er9
    rw [er8]
    exact pos r9 hr9
theorem cx_failedAt (x : Int32) (f : Nat) (im : ZI) (hf : f < 6) (h1 : im 67 1 = nI f) (h01 : ∀ j, j < 2 → im (69 + 66 * f + 23) j = 0 ∨ im (69 + 66 * f + 23) j = 1) : zz_OI G l 4 mX7_failedAt [.ref 0, .int x] zE im (fun r im' => r = -1000 - x ∧ zCpS im im' 1 (69 + 66 * f)) := by
  refine zz_intro (isI := false) (by decide) rfl (Nat.le_of_ble_eq_true rfl) (fun h => by cases h) (fun w S => ?_)
  refine zz_aload_0 S dX7_failedAt_0 (q := 1) rfl ?_
  refine zz_getR S fX7_19 rfl (Nat.le_of_ble_eq_true rfl) rfl rfl dX7_failedAt_1 (q := 4) rfl ?_
  refine zz_aload_0 S dX7_failedAt_4 (q := 5) rfl ?_
  refine zz_getR S fX7_10 rfl (Nat.le_of_ble_eq_true rfl) rfl rfl dX7_failedAt_5 (q := 8) rfl ?_
  -- at 8: invokevirtual 264
  refine zz_virtV S yy_X2_returnToMarked lX7_264 (ci := 2) (by decide) rfl (cx_return f im hf h1 h01) rfl (Nat.le_of_ble_eq_true rfl) (Nat.le_of_ble_eq_true rfl) rfl (Nat.le_of_ble_eq_true rfl) rfl dX7_failedAt_8 (q := 11) rfl ?_
  intro im1 hc
  refine zz_sipush S (v := (-1000)) rfl dX7_failedAt_11 (q := 14) rfl ?_
  refine zz_iload_1 S dX7_failedAt_14 (q := 15) rfl ?_
  refine zz_isub S dX7_failedAt_15 (q := 16) rfl ?_
  -- at 16: ireturn 
  refine zz_iret S dX7_failedAt_16 ⟨rfl, _, rfl, rfl, ?_⟩
  exact ⟨rfl, hc⟩
end ZCPF
