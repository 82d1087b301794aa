/-! THE CLASS: looking -/
theorem zs_out {x : Int32} {k : Nat} (hk : k < 1000) (h : ¬ (x ≥ 0 ∧ x ≤ nI k)) : x.toInt < 0 ∨ (k : Int) < x.toInt := by
  rw [ge_iff_le, Int32.le_iff_toInt_le, Int32.le_iff_toInt_le, nI_toInt (by omega)] at h
  have z0 : (0 : Int32).toInt = 0 := rfl
  omega
theorem zs_inr {x : Int32} {k : Nat} (hk : k < 90) (h : x ≥ 0 ∧ x ≤ nI k) : ∃ j, j ≤ k ∧ x = nI j := by
  obtain ⟨j, hj, e⟩ := zs_within (n := k + 1) (by omega) (by rw [nI_pred]; exact h)
  exact ⟨j, by omega, e⟩
section ZCL2
variable {G : ZG} {l : Launch}
theorem cx_snap (s : ZSt) (im : ZI) (h0 : im 24 0 = s 118) (h1 : im 24 1 = s 237) (b0 : s 118 = 0 ∨ s 118 = 1) (b1 : s 237 = 0 ∨ s 237 = 1) : zz_OP G l 0 mX5_snapshots [.ref 1] zE im (s 118 + s 237) := by
  refine zz_intro (isI := false) (by decide) rfl (Nat.le_of_ble_eq_true rfl) (fun h => by cases h) (fun w S => ?_)
  refine zz_iconst S (v := 0) rfl dX5_snapshots_0 (q := 1) rfl ?_
  refine zz_istore_1 S rfl dX5_snapshots_1 (q := 2) rfl ?_
  refine zz_iconst S (v := 0) rfl dX5_snapshots_2 (q := 3) rfl ?_
  refine zz_istore_2 S rfl dX5_snapshots_3 (q := 4) rfl ?_
  -- at 4
  refine zz_iload_2 S dX5_snapshots_4 (q := 5) rfl ?_
  refine zz_iconst S (v := 2) rfl dX5_snapshots_5 (q := 6) rfl ?_
  refine zz_icmp_ge S dX5_snapshots_6 (t := 27) (by decide) (q := 9) rfl (fun a1 => ?_) (fun a1 => ?_)
  -- then 27 else 9
  · exact absurd a1 (by decide)
  refine zz_aload_0 S dX5_snapshots_9 (q := 10) rfl ?_
  refine zz_getR S fX5_22 rfl (Nat.le_of_ble_eq_true rfl) rfl rfl dX5_snapshots_10 (q := 13) rfl ?_
  refine zz_iload_2 S dX5_snapshots_13 (q := 14) rfl ?_
  refine zz_zaN S (j := 0) (Nat.le_of_ble_eq_true rfl) rfl (Nat.le_of_ble_eq_true rfl) rfl (Nat.le_of_ble_eq_true rfl) dX5_snapshots_14 (q := 15) rfl ?_
  refine zz_if_eq S dX5_snapshots_15 (t := 21) (by decide) (q := 18) rfl (fun a2 => ?_) (fun a2 => ?_)
  -- then 21 else 18
  · rw [h0] at a2
    refine zz_iinc_2 S rfl dX5_snapshots_21 (q := 24) rfl ?_
    refine zz_goto S dX5_snapshots_24 (t := 4) (by decide) ?_
    -- at 4
    refine zz_iload_2 S dX5_snapshots_4 (q := 5) rfl ?_
    refine zz_iconst S (v := 2) rfl dX5_snapshots_5 (q := 6) rfl ?_
    refine zz_icmp_ge S dX5_snapshots_6 (t := 27) (by decide) (q := 9) rfl (fun a3 => ?_) (fun a3 => ?_)
    -- then 27 else 9
    · exact absurd a3 (by decide)
    refine zz_aload_0 S dX5_snapshots_9 (q := 10) rfl ?_
    refine zz_getR S fX5_22 rfl (Nat.le_of_ble_eq_true rfl) rfl rfl dX5_snapshots_10 (q := 13) rfl ?_
    refine zz_iload_2 S dX5_snapshots_13 (q := 14) rfl ?_
    refine zz_zaN S (j := 1) (Nat.le_of_ble_eq_true rfl) rfl (Nat.le_of_ble_eq_true rfl) rfl (Nat.le_of_ble_eq_true rfl) dX5_snapshots_14 (q := 15) rfl ?_
    refine zz_if_eq S dX5_snapshots_15 (t := 21) (by decide) (q := 18) rfl (fun a4 => ?_) (fun a4 => ?_)
    -- then 21 else 18
    · rw [h1] at a4
      refine zz_iinc_2 S rfl dX5_snapshots_21 (q := 24) rfl ?_
      refine zz_goto S dX5_snapshots_24 (t := 4) (by decide) ?_
      -- at 4
      refine zz_iload_2 S dX5_snapshots_4 (q := 5) rfl ?_
      refine zz_iconst S (v := 2) rfl dX5_snapshots_5 (q := 6) rfl ?_
      refine zz_icmp_ge S dX5_snapshots_6 (t := 27) (by decide) (q := 9) rfl (fun a5 => ?_) (fun a5 => ?_)
      -- then 27 else 9
      · refine zz_iload_1 S dX5_snapshots_27 (q := 28) rfl ?_
        -- at 28: ireturn 
        refine zz_iret S dX5_snapshots_28 ⟨rfl, _, rfl, rfl, ?_⟩
        exact ⟨by rw [a2, a4]; rfl, rfl⟩
      · exact absurd (by decide) a5
    · rw [h1] at a4
      have e1 : s 237 = 1 := b1.resolve_left a4
      refine zz_iinc_1 S rfl dX5_snapshots_18 (q := 21) rfl ?_
      refine zz_iinc_2 S rfl dX5_snapshots_21 (q := 24) rfl ?_
      refine zz_goto S dX5_snapshots_24 (t := 4) (by decide) ?_
      -- at 4
      refine zz_iload_2 S dX5_snapshots_4 (q := 5) rfl ?_
      refine zz_iconst S (v := 2) rfl dX5_snapshots_5 (q := 6) rfl ?_
      refine zz_icmp_ge S dX5_snapshots_6 (t := 27) (by decide) (q := 9) rfl (fun a5 => ?_) (fun a5 => ?_)
      -- then 27 else 9
      · refine zz_iload_1 S dX5_snapshots_27 (q := 28) rfl ?_
        -- at 28: ireturn 
        refine zz_iret S dX5_snapshots_28 ⟨rfl, _, rfl, rfl, ?_⟩
        exact ⟨by rw [a2, e1]; rfl, rfl⟩
      · exact absurd (by decide) a5
  · rw [h0] at a2
    have e0 : s 118 = 1 := b0.resolve_left a2
    refine zz_iinc_1 S rfl dX5_snapshots_18 (q := 21) rfl ?_
    refine zz_iinc_2 S rfl dX5_snapshots_21 (q := 24) rfl ?_
    refine zz_goto S dX5_snapshots_24 (t := 4) (by decide) ?_
    -- at 4
    refine zz_iload_2 S dX5_snapshots_4 (q := 5) rfl ?_
    refine zz_iconst S (v := 2) rfl dX5_snapshots_5 (q := 6) rfl ?_
    refine zz_icmp_ge S dX5_snapshots_6 (t := 27) (by decide) (q := 9) rfl (fun a3 => ?_) (fun a3 => ?_)
    -- then 27 else 9
    · exact absurd a3 (by decide)
    refine zz_aload_0 S dX5_snapshots_9 (q := 10) rfl ?_
    refine zz_getR S fX5_22 rfl (Nat.le_of_ble_eq_true rfl) rfl rfl dX5_snapshots_10 (q := 13) rfl ?_
    refine zz_iload_2 S dX5_snapshots_13 (q := 14) rfl ?_
    refine zz_zaN S (j := 1) (Nat.le_of_ble_eq_true rfl) rfl (Nat.le_of_ble_eq_true rfl) rfl (Nat.le_of_ble_eq_true rfl) dX5_snapshots_14 (q := 15) rfl ?_
    refine zz_if_eq S dX5_snapshots_15 (t := 21) (by decide) (q := 18) rfl (fun a4 => ?_) (fun a4 => ?_)
    -- then 21 else 18
    · rw [h1] at a4
      refine zz_iinc_2 S rfl dX5_snapshots_21 (q := 24) rfl ?_
      refine zz_goto S dX5_snapshots_24 (t := 4) (by decide) ?_
      -- at 4
      refine zz_iload_2 S dX5_snapshots_4 (q := 5) rfl ?_
      refine zz_iconst S (v := 2) rfl dX5_snapshots_5 (q := 6) rfl ?_
      refine zz_icmp_ge S dX5_snapshots_6 (t := 27) (by decide) (q := 9) rfl (fun a5 => ?_) (fun a5 => ?_)
      -- then 27 else 9
      · refine zz_iload_1 S dX5_snapshots_27 (q := 28) rfl ?_
        -- at 28: ireturn 
        refine zz_iret S dX5_snapshots_28 ⟨rfl, _, rfl, rfl, ?_⟩
        exact ⟨by rw [e0, a4]; rfl, rfl⟩
      · exact absurd (by decide) a5
    · rw [h1] at a4
      have e1 : s 237 = 1 := b1.resolve_left a4
      refine zz_iinc_1 S rfl dX5_snapshots_18 (q := 21) rfl ?_
      refine zz_iinc_2 S rfl dX5_snapshots_21 (q := 24) rfl ?_
      refine zz_goto S dX5_snapshots_24 (t := 4) (by decide) ?_
      -- at 4
      refine zz_iload_2 S dX5_snapshots_4 (q := 5) rfl ?_
      refine zz_iconst S (v := 2) rfl dX5_snapshots_5 (q := 6) rfl ?_
      refine zz_icmp_ge S dX5_snapshots_6 (t := 27) (by decide) (q := 9) rfl (fun a5 => ?_) (fun a5 => ?_)
      -- then 27 else 9
      · refine zz_iload_1 S dX5_snapshots_27 (q := 28) rfl ?_
        -- at 28: ireturn 
        refine zz_iret S dX5_snapshots_28 ⟨rfl, _, rfl, rfl, ?_⟩
        exact ⟨by rw [e0, e1]; rfl, rfl⟩
      · exact absurd (by decide) a5
def zxL (im im' : ZI) (r f : Int32) : Prop := r = f ∧ zz_keep [468, 469] im im'
theorem zxL.p {im : ZI} {r f : Int32} (h : r = f) : zxL im im r f := ⟨h, zz_keep.rf⟩
set_option maxHeartbeats 2000000 in
theorem cx_count (x : Int32) (n len nw nc : Nat) (s : ZSt) (im : ZI) (hI : sI s nw nc) (hr : rS im 2 s nw nc) (hk : im 67 2 = nI n) (hl : im 465 2 = nI len) (h0 : im 24 0 = s 118) (h1 : im 24 1 = s 237) (b0 : s 118 = 0 ∨ s 118 = 1) (b1 : s 237 = 0 ∨ s 237 = 1) : zz_OI G l 3 mX7_count [.ref 0, .int x] zE im (fun r im' => zxL im im' r (ol_count s n len nw nc x)) := by
  have hn := hI.2.2.2.1
  have m3 : ∀ {j : Nat}, j < 17 → (nI j ≥ 3 ∧ nI j ≤ 7 ↔ 3 ≤ j ∧ j ≤ 7) := fun {j} hj => by
    rw [ge_iff_le, Int32.le_iff_toInt_le, Int32.le_iff_toInt_le, nI_toInt (by omega)]
    show ((3 : Int) ≤ _ ∧ _ ≤ (7 : Int)) ↔ _
    omega
  have m13 : ∀ {j : Nat}, j < 17 → (nI j ≥ 13 ∧ nI j ≤ 16 ↔ 13 ≤ j ∧ j ≤ 16) := fun {j} hj => by
    rw [ge_iff_le, Int32.le_iff_toInt_le, Int32.le_iff_toInt_le, nI_toInt (by omega)]
    show ((13 : Int) ≤ _ ∧ _ ≤ (16 : Int)) ↔ _
    omega
  refine zz_intro (isI := false) (by decide) rfl (Nat.le_of_ble_eq_true rfl) (fun h => by cases h) (fun w S => ?_)
  refine zz_iload_1 S dX7_count_0 (q := 1) rfl ?_
  -- at 1: tableswitch 171 0 16 #[83, 91, 99, 107, 107, 107, 107, 107, 118, 126, 134, 142, 150, 158, 158, 158, 158]
  by_cases hx : x ≥ 0 ∧ x ≤ nI 16
  · obtain ⟨j, hj, rfl⟩ := zs_inr (by omega) hx
    rcases (show j = 0 ∨ j = 1 ∨ j = 2 ∨ j = 3 ∨ j = 4 ∨ j = 5 ∨ j = 6 ∨ j = 7 ∨ j = 8 ∨ j = 9 ∨ j = 10 ∨ j = 11 ∨ j = 12 ∨ j = 13 ∨ j = 14 ∨ j = 15 ∨ j = 16 by omega) with rfl | rfl | rfl | rfl | rfl | rfl | rfl | rfl | rfl | rfl | rfl | rfl | rfl | rfl | rfl | rfl | rfl
    · refine zz_tabIn S dX7_count_1 (by decide) (by decide) (off := 83) (by decide) (t := 84) (by decide) ?_
      refine zz_aload_0 S dX7_count_84 (q := 85) rfl ?_
      refine zz_getR S fX7_41 rfl (Nat.le_of_ble_eq_true rfl) rfl rfl dX7_count_85 (q := 88) rfl ?_
      refine zz_getI S fX7_131 rfl (Nat.le_of_ble_eq_true rfl) rfl dX7_count_88 (q := 91) rfl ?_
      -- at 91: ireturn 
      refine zz_iret S dX7_count_91 ⟨rfl, _, rfl, rfl, ?_⟩
      exact zxL.p hr.n.1
    · refine zz_tabIn S dX7_count_1 (by decide) (by decide) (off := 91) (by decide) (t := 92) (by decide) ?_
      refine zz_aload_0 S dX7_count_92 (q := 93) rfl ?_
      refine zz_getR S fX7_41 rfl (Nat.le_of_ble_eq_true rfl) rfl rfl dX7_count_93 (q := 96) rfl ?_
      -- at 96: invokevirtual 134
      refine zz_virtP S yy_X4_knownWalls lX7_134 (ci := 4) (by decide) rfl (cx_knownWalls nw nc s im hI hr) rfl (Nat.le_of_ble_eq_true rfl) (Nat.le_of_ble_eq_true rfl) rfl (Nat.le_of_ble_eq_true rfl) rfl dX7_count_96 (q := 99) rfl ?_
      refine zz_iret S dX7_count_99 ⟨rfl, _, rfl, rfl, ?_⟩
      exact zxL.p rfl
    · refine zz_tabIn S dX7_count_1 (by decide) (by decide) (off := 99) (by decide) (t := 100) (by decide) ?_
      refine zz_aload_0 S dX7_count_100 (q := 101) rfl ?_
      refine zz_getR S fX7_41 rfl (Nat.le_of_ble_eq_true rfl) rfl rfl dX7_count_101 (q := 104) rfl ?_
      refine zz_getI S fX7_137 rfl (Nat.le_of_ble_eq_true rfl) rfl dX7_count_104 (q := 107) rfl ?_
      -- at 107: ireturn 
      refine zz_iret S dX7_count_107 ⟨rfl, _, rfl, rfl, ?_⟩
      exact zxL.p hr.n.2.1
    · refine zz_tabIn S dX7_count_1 (by decide) (by decide) (off := 107) (by decide) (t := 108) (by decide) ?_
      refine zz_aload_0 S dX7_count_108 (q := 109) rfl ?_
      refine zz_getR S fX7_41 rfl (Nat.le_of_ble_eq_true rfl) rfl rfl dX7_count_109 (q := 112) rfl ?_
      refine zz_iload_1 S dX7_count_112 (q := 113) rfl ?_
      refine zz_iconst S (v := 3) rfl dX7_count_113 (q := 114) rfl ?_
      refine zz_isub S dX7_count_114 (q := 115) rfl ?_
      -- at 115: invokevirtual 140
      refine zz_virtP S yy_X4_commissionsInState lX7_140 (ci := 4) (by decide) rfl (cx_inState (nI 3 - 3) nc s im (hr.n.2.1.trans hI.2.2.1) hn (fun c hc => hr.com hc (by omega) (by omega))) rfl (Nat.le_of_ble_eq_true rfl) (Nat.le_of_ble_eq_true rfl) rfl (Nat.le_of_ble_eq_true rfl) rfl dX7_count_115 (q := 118) rfl ?_
      refine zz_iret S dX7_count_118 ⟨rfl, _, rfl, rfl, ?_⟩
      exact zxL.p (by unfold ol_count; rw [if_pos ((m3 (by omega)).mpr (by omega))])
    · refine zz_tabIn S dX7_count_1 (by decide) (by decide) (off := 107) (by decide) (t := 108) (by decide) ?_
      refine zz_aload_0 S dX7_count_108 (q := 109) rfl ?_
      refine zz_getR S fX7_41 rfl (Nat.le_of_ble_eq_true rfl) rfl rfl dX7_count_109 (q := 112) rfl ?_
      refine zz_iload_1 S dX7_count_112 (q := 113) rfl ?_
      refine zz_iconst S (v := 3) rfl dX7_count_113 (q := 114) rfl ?_
      refine zz_isub S dX7_count_114 (q := 115) rfl ?_
      -- at 115: invokevirtual 140
      refine zz_virtP S yy_X4_commissionsInState lX7_140 (ci := 4) (by decide) rfl (cx_inState (nI 4 - 3) nc s im (hr.n.2.1.trans hI.2.2.1) hn (fun c hc => hr.com hc (by omega) (by omega))) rfl (Nat.le_of_ble_eq_true rfl) (Nat.le_of_ble_eq_true rfl) rfl (Nat.le_of_ble_eq_true rfl) rfl dX7_count_115 (q := 118) rfl ?_
      refine zz_iret S dX7_count_118 ⟨rfl, _, rfl, rfl, ?_⟩
      exact zxL.p (by unfold ol_count; rw [if_pos ((m3 (by omega)).mpr (by omega))])
    · refine zz_tabIn S dX7_count_1 (by decide) (by decide) (off := 107) (by decide) (t := 108) (by decide) ?_
      refine zz_aload_0 S dX7_count_108 (q := 109) rfl ?_
      refine zz_getR S fX7_41 rfl (Nat.le_of_ble_eq_true rfl) rfl rfl dX7_count_109 (q := 112) rfl ?_
      refine zz_iload_1 S dX7_count_112 (q := 113) rfl ?_
      refine zz_iconst S (v := 3) rfl dX7_count_113 (q := 114) rfl ?_
      refine zz_isub S dX7_count_114 (q := 115) rfl ?_
      -- at 115: invokevirtual 140
      refine zz_virtP S yy_X4_commissionsInState lX7_140 (ci := 4) (by decide) rfl (cx_inState (nI 5 - 3) nc s im (hr.n.2.1.trans hI.2.2.1) hn (fun c hc => hr.com hc (by omega) (by omega))) rfl (Nat.le_of_ble_eq_true rfl) (Nat.le_of_ble_eq_true rfl) rfl (Nat.le_of_ble_eq_true rfl) rfl dX7_count_115 (q := 118) rfl ?_
      refine zz_iret S dX7_count_118 ⟨rfl, _, rfl, rfl, ?_⟩
      exact zxL.p (by unfold ol_count; rw [if_pos ((m3 (by omega)).mpr (by omega))])
    · refine zz_tabIn S dX7_count_1 (by decide) (by decide) (off := 107) (by decide) (t := 108) (by decide) ?_
      refine zz_aload_0 S dX7_count_108 (q := 109) rfl ?_
      refine zz_getR S fX7_41 rfl (Nat.le_of_ble_eq_true rfl) rfl rfl dX7_count_109 (q := 112) rfl ?_
      refine zz_iload_1 S dX7_count_112 (q := 113) rfl ?_
      refine zz_iconst S (v := 3) rfl dX7_count_113 (q := 114) rfl ?_
      refine zz_isub S dX7_count_114 (q := 115) rfl ?_
      -- at 115: invokevirtual 140
      refine zz_virtP S yy_X4_commissionsInState lX7_140 (ci := 4) (by decide) rfl (cx_inState (nI 6 - 3) nc s im (hr.n.2.1.trans hI.2.2.1) hn (fun c hc => hr.com hc (by omega) (by omega))) rfl (Nat.le_of_ble_eq_true rfl) (Nat.le_of_ble_eq_true rfl) rfl (Nat.le_of_ble_eq_true rfl) rfl dX7_count_115 (q := 118) rfl ?_
      refine zz_iret S dX7_count_118 ⟨rfl, _, rfl, rfl, ?_⟩
      exact zxL.p (by unfold ol_count; rw [if_pos ((m3 (by omega)).mpr (by omega))])
    · refine zz_tabIn S dX7_count_1 (by decide) (by decide) (off := 107) (by decide) (t := 108) (by decide) ?_
      refine zz_aload_0 S dX7_count_108 (q := 109) rfl ?_
      refine zz_getR S fX7_41 rfl (Nat.le_of_ble_eq_true rfl) rfl rfl dX7_count_109 (q := 112) rfl ?_
      refine zz_iload_1 S dX7_count_112 (q := 113) rfl ?_
      refine zz_iconst S (v := 3) rfl dX7_count_113 (q := 114) rfl ?_
      refine zz_isub S dX7_count_114 (q := 115) rfl ?_
      -- at 115: invokevirtual 140
      refine zz_virtP S yy_X4_commissionsInState lX7_140 (ci := 4) (by decide) rfl (cx_inState (nI 7 - 3) nc s im (hr.n.2.1.trans hI.2.2.1) hn (fun c hc => hr.com hc (by omega) (by omega))) rfl (Nat.le_of_ble_eq_true rfl) (Nat.le_of_ble_eq_true rfl) rfl (Nat.le_of_ble_eq_true rfl) rfl dX7_count_115 (q := 118) rfl ?_
      refine zz_iret S dX7_count_118 ⟨rfl, _, rfl, rfl, ?_⟩
      exact zxL.p (by unfold ol_count; rw [if_pos ((m3 (by omega)).mpr (by omega))])
    · refine zz_tabIn S dX7_count_1 (by decide) (by decide) (off := 118) (by decide) (t := 119) (by decide) ?_
      refine zz_aload_0 S dX7_count_119 (q := 120) rfl ?_
      refine zz_getR S fX7_41 rfl (Nat.le_of_ble_eq_true rfl) rfl rfl dX7_count_120 (q := 123) rfl ?_
      refine zz_getI S fX7_143 rfl (Nat.le_of_ble_eq_true rfl) rfl dX7_count_123 (q := 126) rfl ?_
      -- at 126: ireturn 
      refine zz_iret S dX7_count_126 ⟨rfl, _, rfl, rfl, ?_⟩
      exact zxL.p hr.n.2.2.1
    · refine zz_tabIn S dX7_count_1 (by decide) (by decide) (off := 126) (by decide) (t := 127) (by decide) ?_
      refine zz_aload_0 S dX7_count_127 (q := 128) rfl ?_
      refine zz_getR S fX7_41 rfl (Nat.le_of_ble_eq_true rfl) rfl rfl dX7_count_128 (q := 131) rfl ?_
      refine zz_getI S fX7_146 rfl (Nat.le_of_ble_eq_true rfl) rfl dX7_count_131 (q := 134) rfl ?_
      -- at 134: ireturn 
      refine zz_iret S dX7_count_134 ⟨rfl, _, rfl, rfl, ?_⟩
      exact zxL.p hr.n.2.2.2
    · refine zz_tabIn S dX7_count_1 (by decide) (by decide) (off := 134) (by decide) (t := 135) (by decide) ?_
      refine zz_aload_0 S dX7_count_135 (q := 136) rfl ?_
      refine zz_getR S fX7_10 rfl (Nat.le_of_ble_eq_true rfl) rfl rfl dX7_count_136 (q := 139) rfl ?_
      -- at 139: invokevirtual 149
      refine zz_virtP S yy_X5_snapshots lX7_149 (ci := 5) (by decide) rfl (cx_snap s im h0 h1 b0 b1) rfl (Nat.le_of_ble_eq_true rfl) (Nat.le_of_ble_eq_true rfl) rfl (Nat.le_of_ble_eq_true rfl) rfl dX7_count_139 (q := 142) rfl ?_
      refine zz_iret S dX7_count_142 ⟨rfl, _, rfl, rfl, ?_⟩
      exact zxL.p rfl
    · refine zz_tabIn S dX7_count_1 (by decide) (by decide) (off := 142) (by decide) (t := 143) (by decide) ?_
      refine zz_aload_0 S dX7_count_143 (q := 144) rfl ?_
      refine zz_getR S fX7_19 rfl (Nat.le_of_ble_eq_true rfl) rfl rfl dX7_count_144 (q := 147) rfl ?_
      refine zz_getI S fX7_91 rfl (Nat.le_of_ble_eq_true rfl) rfl dX7_count_147 (q := 150) rfl ?_
      -- at 150: ireturn 
      refine zz_iret S dX7_count_150 ⟨rfl, _, rfl, rfl, ?_⟩
      exact zxL.p hk
    · refine zz_tabIn S dX7_count_1 (by decide) (by decide) (off := 150) (by decide) (t := 151) (by decide) ?_
      refine zz_aload_0 S dX7_count_151 (q := 152) rfl ?_
      refine zz_getR S fX7_26 rfl (Nat.le_of_ble_eq_true rfl) rfl rfl dX7_count_152 (q := 155) rfl ?_
      refine zz_getI S fX7_152 rfl (Nat.le_of_ble_eq_true rfl) rfl dX7_count_155 (q := 158) rfl ?_
      -- at 158: ireturn 
      refine zz_iret S dX7_count_158 ⟨rfl, _, rfl, rfl, ?_⟩
      exact zxL.p hl
    · refine zz_tabIn S dX7_count_1 (by decide) (by decide) (off := 158) (by decide) (t := 159) (by decide) ?_
      refine zz_aload_0 S dX7_count_159 (q := 160) rfl ?_
      refine zz_getR S fX7_41 rfl (Nat.le_of_ble_eq_true rfl) rfl rfl dX7_count_160 (q := 163) rfl ?_
      refine zz_getR S fX7_155 rfl (Nat.le_of_ble_eq_true rfl) rfl rfl dX7_count_163 (q := 166) rfl ?_
      refine zz_iload_1 S dX7_count_166 (q := 167) rfl ?_
      refine zz_bipush S (v := 13) rfl dX7_count_167 (q := 169) rfl ?_
      refine zz_isub S dX7_count_169 (q := 170) rfl ?_
      refine zz_iaN S (j := 0) (Nat.le_of_ble_eq_true rfl) rfl (Nat.le_of_ble_eq_true rfl) rfl (Nat.le_of_ble_eq_true rfl) dX7_count_170 (q := 171) rfl ?_
      -- at 171: ireturn 
      refine zz_iret S dX7_count_171 ⟨rfl, _, rfl, rfl, ?_⟩
      exact zxL.p (by unfold ol_count; rw [if_neg (fun e => absurd ((m3 (by omega)).mp e).2 (by omega)), if_pos ((m13 (by omega)).mpr (by omega))]; exact hr.set (by omega))
    · refine zz_tabIn S dX7_count_1 (by decide) (by decide) (off := 158) (by decide) (t := 159) (by decide) ?_
      refine zz_aload_0 S dX7_count_159 (q := 160) rfl ?_
      refine zz_getR S fX7_41 rfl (Nat.le_of_ble_eq_true rfl) rfl rfl dX7_count_160 (q := 163) rfl ?_
      refine zz_getR S fX7_155 rfl (Nat.le_of_ble_eq_true rfl) rfl rfl dX7_count_163 (q := 166) rfl ?_
      refine zz_iload_1 S dX7_count_166 (q := 167) rfl ?_
      refine zz_bipush S (v := 13) rfl dX7_count_167 (q := 169) rfl ?_
      refine zz_isub S dX7_count_169 (q := 170) rfl ?_
      refine zz_iaN S (j := 1) (Nat.le_of_ble_eq_true rfl) rfl (Nat.le_of_ble_eq_true rfl) rfl (Nat.le_of_ble_eq_true rfl) dX7_count_170 (q := 171) rfl ?_
      -- at 171: ireturn 
      refine zz_iret S dX7_count_171 ⟨rfl, _, rfl, rfl, ?_⟩
      exact zxL.p (by unfold ol_count; rw [if_neg (fun e => absurd ((m3 (by omega)).mp e).2 (by omega)), if_pos ((m13 (by omega)).mpr (by omega))]; exact hr.set (by omega))
    · refine zz_tabIn S dX7_count_1 (by decide) (by decide) (off := 158) (by decide) (t := 159) (by decide) ?_
      refine zz_aload_0 S dX7_count_159 (q := 160) rfl ?_
      refine zz_getR S fX7_41 rfl (Nat.le_of_ble_eq_true rfl) rfl rfl dX7_count_160 (q := 163) rfl ?_
      refine zz_getR S fX7_155 rfl (Nat.le_of_ble_eq_true rfl) rfl rfl dX7_count_163 (q := 166) rfl ?_
      refine zz_iload_1 S dX7_count_166 (q := 167) rfl ?_
      refine zz_bipush S (v := 13) rfl dX7_count_167 (q := 169) rfl ?_
      refine zz_isub S dX7_count_169 (q := 170) rfl ?_
      refine zz_iaN S (j := 2) (Nat.le_of_ble_eq_true rfl) rfl (Nat.le_of_ble_eq_true rfl) rfl (Nat.le_of_ble_eq_true rfl) dX7_count_170 (q := 171) rfl ?_
      -- at 171: ireturn 
      refine zz_iret S dX7_count_171 ⟨rfl, _, rfl, rfl, ?_⟩
      exact zxL.p (by unfold ol_count; rw [if_neg (fun e => absurd ((m3 (by omega)).mp e).2 (by omega)), if_pos ((m13 (by omega)).mpr (by omega))]; exact hr.set (by omega))
    · refine zz_tabIn S dX7_count_1 (by decide) (by decide) (off := 158) (by decide) (t := 159) (by decide) ?_
      refine zz_aload_0 S dX7_count_159 (q := 160) rfl ?_
      refine zz_getR S fX7_41 rfl (Nat.le_of_ble_eq_true rfl) rfl rfl dX7_count_160 (q := 163) rfl ?_
      refine zz_getR S fX7_155 rfl (Nat.le_of_ble_eq_true rfl) rfl rfl dX7_count_163 (q := 166) rfl ?_
      refine zz_iload_1 S dX7_count_166 (q := 167) rfl ?_
      refine zz_bipush S (v := 13) rfl dX7_count_167 (q := 169) rfl ?_
      refine zz_isub S dX7_count_169 (q := 170) rfl ?_
      refine zz_iaN S (j := 3) (Nat.le_of_ble_eq_true rfl) rfl (Nat.le_of_ble_eq_true rfl) rfl (Nat.le_of_ble_eq_true rfl) dX7_count_170 (q := 171) rfl ?_
      -- at 171: ireturn 
      refine zz_iret S dX7_count_171 ⟨rfl, _, rfl, rfl, ?_⟩
      exact zxL.p (by unfold ol_count; rw [if_neg (fun e => absurd ((m3 (by omega)).mp e).2 (by omega)), if_pos ((m13 (by omega)).mpr (by omega))]; exact hr.set (by omega))
  · refine zz_tabOut S dX7_count_1 (zs_out (k := 16) (by omega) hx) (t := 172) (by decide) ?_
    refine zz_ldc S (v := (-100001)) kX7_159 dX7_count_172 (q := 174) rfl ?_
    -- at 174: ireturn 
    refine zz_iret S dX7_count_174 ⟨rfl, _, rfl, rfl, ?_⟩
    refine zxL.p ?_
    have q : ∀ j : Nat, j ≤ 16 → ¬ x = nI j := fun j hj e => hx (by rw [e]; exact ⟨nI_pos' (by omega), nI_le hj (by omega)⟩)
    have q3 : ¬ (x ≥ 3 ∧ x ≤ 7) := fun e => hx ⟨Int32.le_trans (by decide) e.1, Int32.le_trans e.2 (by decide)⟩
    have q13 : ¬ (x ≥ 13 ∧ x ≤ 16) := fun e => hx ⟨Int32.le_trans (by decide) e.1, Int32.le_trans e.2 (by decide)⟩
    unfold ol_count
    rw [if_neg q3, if_neg q13, if_neg (show ¬ x = 0 from q 0 (by omega)), if_neg (show ¬ x = 1 from q 1 (by omega)), if_neg (show ¬ x = 2 from q 2 (by omega)), if_neg (show ¬ x = 8 from q 8 (by omega)), if_neg (show ¬ x = 9 from q 9 (by omega)), if_neg (show ¬ x = 10 from q 10 (by omega)), if_neg (show ¬ x = 11 from q 11 (by omega)), if_neg (show ¬ x = 12 from q 12 (by omega))]
set_option maxHeartbeats 1000000 in
theorem cx_wall (x v : Int32) (nw nc : Nat) (s : ZSt) (im : ZI) (hI : sI s nw nc) (hr : rS im 2 s nw nc) : zz_OI G l 3 mX7_wall [.ref 0, .int x, .int v] zE im (fun r im' => zxL im im' r (ol_wall s nc x v)) := by
  have h0 : im 2 4 = nI nw := hr.n.1.trans hI.1
  have h1 : im 2 5 = nI nc := hr.n.2.1.trans hI.2.2.1
  have hw := hI.2.1
  have hn := hI.2.2.2.1
  have e0 : s 0 = nI nw := hI.1
  unfold ol_wall
  rw [e0]
  refine zz_intro (isI := false) (by decide) rfl (Nat.le_of_ble_eq_true rfl) (fun h => by cases h) (fun w S => ?_)
  refine zz_aload_0 S dX7_wall_0 (q := 1) rfl ?_
  refine zz_getR S fX7_41 rfl (Nat.le_of_ble_eq_true rfl) rfl rfl dX7_wall_1 (q := 4) rfl ?_
  refine zz_iload_1 S dX7_wall_4 (q := 5) rfl ?_
  -- at 5: invokevirtual 160
  refine zz_virtP S yy_X4_hasWall lX7_160 (ci := 4) (by decide) rfl (cx_hasWall x nw im h0 hw) rfl (Nat.le_of_ble_eq_true rfl) (Nat.le_of_ble_eq_true rfl) rfl (Nat.le_of_ble_eq_true rfl) rfl dX7_wall_5 (q := 8) rfl ?_
  refine zz_if_ne S dX7_wall_8 (t := 14) (by decide) (q := 11) rfl (fun b1 => ?_) (fun b1 => ?_)
  -- then 14 else 11
  · have b1' := zs_ne0 b1
    obtain ⟨k, hk, hx⟩ := zs_within (n := nw) (by omega) b1'
    have hcl : x.toNatClampNeg = k := zs_cl hx (by omega)
    have hwl := hr.wal hk
    have hwr := zw_ref k (by omega)
    have hwk := zw_k k (by omega)
    have hkE : 7 + k < 470 := by omega
    refine zz_iload_2 S dX7_wall_14 (q := 15) rfl ?_
    -- at 15: tableswitch 73 0 3 #[29, 42, 55, 64]
    by_cases hv : v ≥ 0 ∧ v ≤ nI 3
    · have hv2 : (x ≥ 0 ∧ x ≤ nI nw - 1) ∧ v ≥ 0 ∧ v ≤ 3 := ⟨b1', hv⟩
      obtain ⟨j, hj, rfl⟩ := zs_inr (by omega) hv
      rcases (show j = 0 ∨ j = 1 ∨ j = 2 ∨ j = 3 by omega) with rfl | rfl | rfl | rfl
      · refine zz_tabIn S dX7_wall_15 (by decide) (by decide) (off := 29) (by decide) (t := 44) (by decide) ?_
        refine zz_aload_0 S dX7_wall_44 (q := 45) rfl ?_
        refine zz_getR S fX7_41 rfl (Nat.le_of_ble_eq_true rfl) rfl rfl dX7_wall_45 (q := 48) rfl ?_
        refine zz_getR S fX7_163 rfl (Nat.le_of_ble_eq_true rfl) rfl rfl dX7_wall_48 (q := 51) rfl ?_
        refine zz_iload_1 S dX7_wall_51 (q := 52) rfl ?_
        refine zz_aaN S (j := k) (Nat.le_of_ble_eq_true rfl) rfl ⟨Nat.le_of_ble_eq_true rfl, Nat.le_of_ble_eq_true rfl⟩ (Nat.le_of_ble_eq_true rfl) hx (by omega) hwr dX7_wall_52 (q := 53) rfl ?_
        refine zz_getI S fX7_167 rfl hkE hwk dX7_wall_53 (q := 56) rfl ?_
        -- at 56: ireturn 
        refine zz_iret S dX7_wall_56 ⟨rfl, _, rfl, rfl, ?_⟩
        refine zxL.p ?_
        rw [if_pos hv2, if_neg (by decide), hcl]
        exact hwl.1
      · refine zz_tabIn S dX7_wall_15 (by decide) (by decide) (off := 42) (by decide) (t := 57) (by decide) ?_
        refine zz_aload_0 S dX7_wall_57 (q := 58) rfl ?_
        refine zz_getR S fX7_41 rfl (Nat.le_of_ble_eq_true rfl) rfl rfl dX7_wall_58 (q := 61) rfl ?_
        refine zz_getR S fX7_163 rfl (Nat.le_of_ble_eq_true rfl) rfl rfl dX7_wall_61 (q := 64) rfl ?_
        refine zz_iload_1 S dX7_wall_64 (q := 65) rfl ?_
        refine zz_aaN S (j := k) (Nat.le_of_ble_eq_true rfl) rfl ⟨Nat.le_of_ble_eq_true rfl, Nat.le_of_ble_eq_true rfl⟩ (Nat.le_of_ble_eq_true rfl) hx (by omega) hwr dX7_wall_65 (q := 66) rfl ?_
        refine zz_getI S fX7_172 rfl hkE hwk dX7_wall_66 (q := 69) rfl ?_
        -- at 69: ireturn 
        refine zz_iret S dX7_wall_69 ⟨rfl, _, rfl, rfl, ?_⟩
        refine zxL.p ?_
        rw [if_pos hv2, if_neg (by decide), hcl]
        exact hwl.2
      · refine zz_tabIn S dX7_wall_15 (by decide) (by decide) (off := 55) (by decide) (t := 70) (by decide) ?_
        refine zz_aload_0 S dX7_wall_70 (q := 71) rfl ?_
        refine zz_getR S fX7_41 rfl (Nat.le_of_ble_eq_true rfl) rfl rfl dX7_wall_71 (q := 74) rfl ?_
        refine zz_iload_1 S dX7_wall_74 (q := 75) rfl ?_
        -- at 75: invokevirtual 175
        refine zz_virtP S yy_X4_declinationOfWall lX7_175 (ci := 4) (by decide) rfl (cx_declW x nw nc s im hI hr) rfl (Nat.le_of_ble_eq_true rfl) (Nat.le_of_ble_eq_true rfl) rfl (Nat.le_of_ble_eq_true rfl) rfl dX7_wall_75 (q := 78) rfl ?_
        refine zz_iret S dX7_wall_78 ⟨rfl, _, rfl, rfl, ?_⟩
        refine zxL.p ?_
        rw [if_pos hv2, if_pos b1', if_pos (by decide), if_neg (by decide)]
      · refine zz_tabIn S dX7_wall_15 (by decide) (by decide) (off := 64) (by decide) (t := 79) (by decide) ?_
        refine zz_aload_0 S dX7_wall_79 (q := 80) rfl ?_
        refine zz_getR S fX7_41 rfl (Nat.le_of_ble_eq_true rfl) rfl rfl dX7_wall_80 (q := 83) rfl ?_
        refine zz_iload_1 S dX7_wall_83 (q := 84) rfl ?_
        -- at 84: invokevirtual 178
        refine zz_virtP S yy_X4_commissionsForWall lX7_178 (ci := 4) (by decide) rfl (cx_forWall x nc s im h1 hn (fun c hc => hr.com hc (by omega) (by omega))) rfl (Nat.le_of_ble_eq_true rfl) (Nat.le_of_ble_eq_true rfl) rfl (Nat.le_of_ble_eq_true rfl) rfl dX7_wall_84 (q := 87) rfl ?_
        refine zz_iret S dX7_wall_87 ⟨rfl, _, rfl, rfl, ?_⟩
        refine zxL.p ?_
        rw [if_pos hv2, if_pos (by decide), if_pos (by decide)]
    · refine zz_tabOut S dX7_wall_15 (zs_out (k := 3) (by omega) hv) (t := 88) (by decide) ?_
      refine zz_ldc S (v := (-100001)) kX7_159 dX7_wall_88 (q := 90) rfl ?_
      -- at 90: ireturn 
      refine zz_iret S dX7_wall_90 ⟨rfl, _, rfl, rfl, ?_⟩
      refine zxL.p ?_
      rw [if_neg (fun e => hv e.2)]
  · refine zz_ldc S (v := (-100001)) kX7_159 dX7_wall_11 (q := 13) rfl ?_
    -- at 13: ireturn 
    refine zz_iret S dX7_wall_13 ⟨rfl, _, rfl, rfl, ?_⟩
    refine zxL.p ?_
    rw [if_neg (fun e => zs_b1.mp b1 e.1)]
set_option maxHeartbeats 2000000 in
theorem cx_commission (x v : Int32) (nw nc : Nat) (s : ZSt) (im : ZI) (hI : sI s nw nc) (hr : rS im 2 s nw nc) : zz_OI G l 4 mX7_commission [.ref 0, .int x, .int v] zE im (fun r im' => zxL im im' r (ol_comm s x v)) := by
  have h1 : im 2 5 = nI nc := hr.n.2.1.trans hI.2.2.1
  have hn := hI.2.2.2.1
  have e1 : s 1 = nI nc := hI.2.2.1
  unfold ol_comm
  rw [e1]
  refine zz_intro (isI := false) (by decide) rfl (Nat.le_of_ble_eq_true rfl) (fun h => by cases h) (fun w S => ?_)
  refine zz_aload_0 S dX7_commission_0 (q := 1) rfl ?_
  refine zz_getR S fX7_41 rfl (Nat.le_of_ble_eq_true rfl) rfl rfl dX7_commission_1 (q := 4) rfl ?_
  refine zz_iload_1 S dX7_commission_4 (q := 5) rfl ?_
  -- at 5: invokevirtual 181
  refine zz_virtP S yy_X4_hasCommission lX7_181 (ci := 4) (by decide) rfl (cx_hasCom x nc im h1 hn) rfl (Nat.le_of_ble_eq_true rfl) (Nat.le_of_ble_eq_true rfl) rfl (Nat.le_of_ble_eq_true rfl) rfl dX7_commission_5 (q := 8) rfl ?_
  refine zz_if_ne S dX7_commission_8 (t := 14) (by decide) (q := 11) rfl (fun b1 => ?_) (fun b1 => ?_)
  -- then 14 else 11
  · have b1' := zs_ne0 b1
    obtain ⟨c, hc, hx⟩ := zs_within (n := nc) (by omega) b1'
    have hcl : x.toNatClampNeg = c := zs_cl hx (by omega)
    have hck := zc_k c (by omega)
    have hcr := zc_ref c (by omega)
    have hcE : 13 + c < 470 := by omega
    refine zz_aload_0 S dX7_commission_14 (q := 15) rfl ?_
    refine zz_getR S fX7_41 rfl (Nat.le_of_ble_eq_true rfl) rfl rfl dX7_commission_15 (q := 18) rfl ?_
    refine zz_getR S fX7_184 rfl (Nat.le_of_ble_eq_true rfl) rfl rfl dX7_commission_18 (q := 21) rfl ?_
    refine zz_iload_1 S dX7_commission_21 (q := 22) rfl ?_
    refine zz_aaN S (j := c) (Nat.le_of_ble_eq_true rfl) rfl ⟨Nat.le_of_ble_eq_true rfl, Nat.le_of_ble_eq_true rfl⟩ (Nat.le_of_ble_eq_true rfl) hx (by omega) hcr dX7_commission_22 (q := 23) rfl ?_
    refine zz_astore_3 S rfl dX7_commission_23 (q := 24) rfl ?_
    refine zz_iload_2 S dX7_commission_24 (q := 25) rfl ?_
    -- at 25: tableswitch 100 0 8 #[51, 56, 61, 66, 71, 76, 85, 90, 95]
    by_cases hv : v ≥ 0 ∧ v ≤ nI 8
    · have hv2 : (x ≥ 0 ∧ x ≤ nI nc - 1) ∧ v ≥ 0 ∧ v ≤ 8 := ⟨b1', hv⟩
      obtain ⟨j, hj, rfl⟩ := zs_inr (by omega) hv
      rcases (show j = 0 ∨ j = 1 ∨ j = 2 ∨ j = 3 ∨ j = 4 ∨ j = 5 ∨ j = 6 ∨ j = 7 ∨ j = 8 by omega) with rfl | rfl | rfl | rfl | rfl | rfl | rfl | rfl | rfl
      · refine zz_tabIn S dX7_commission_25 (by decide) (by decide) (off := 51) (by decide) (t := 76) (by decide) ?_
        refine zz_aload_3 S dX7_commission_76 (q := 77) rfl ?_
        refine zz_getI S fX7_188 rfl hcE hck dX7_commission_77 (q := 80) rfl ?_
        -- at 80: ireturn 
        refine zz_iret S dX7_commission_80 ⟨rfl, _, rfl, rfl, ?_⟩
        refine zxL.p ?_
        rw [if_pos hv2, if_neg (by decide), if_neg (by decide), if_neg (by decide), if_neg (by decide), hcl]
        exact hr.com hc (by omega) (by omega)
      · refine zz_tabIn S dX7_commission_25 (by decide) (by decide) (off := 56) (by decide) (t := 81) (by decide) ?_
        refine zz_aload_3 S dX7_commission_81 (q := 82) rfl ?_
        refine zz_getI S fX7_193 rfl hcE hck dX7_commission_82 (q := 85) rfl ?_
        -- at 85: ireturn 
        refine zz_iret S dX7_commission_85 ⟨rfl, _, rfl, rfl, ?_⟩
        refine zxL.p ?_
        rw [if_pos hv2, if_neg (by decide), if_neg (by decide), if_neg (by decide), if_neg (by decide), hcl]
        exact hr.com hc (by omega) (by omega)
      · refine zz_tabIn S dX7_commission_25 (by decide) (by decide) (off := 61) (by decide) (t := 86) (by decide) ?_
        refine zz_aload_3 S dX7_commission_86 (q := 87) rfl ?_
        refine zz_getI S fX7_196 rfl hcE hck dX7_commission_87 (q := 90) rfl ?_
        -- at 90: ireturn 
        refine zz_iret S dX7_commission_90 ⟨rfl, _, rfl, rfl, ?_⟩
        refine zxL.p ?_
        rw [if_pos hv2, if_neg (by decide), if_neg (by decide), if_neg (by decide), if_neg (by decide), hcl]
        exact hr.com hc (by omega) (by omega)
      · refine zz_tabIn S dX7_commission_25 (by decide) (by decide) (off := 66) (by decide) (t := 91) (by decide) ?_
        refine zz_aload_3 S dX7_commission_91 (q := 92) rfl ?_
        refine zz_getI S fX7_199 rfl hcE hck dX7_commission_92 (q := 95) rfl ?_
        -- at 95: ireturn 
        refine zz_iret S dX7_commission_95 ⟨rfl, _, rfl, rfl, ?_⟩
        refine zxL.p ?_
        rw [if_pos hv2, if_neg (by decide), if_neg (by decide), if_neg (by decide), if_neg (by decide), hcl]
        exact hr.com hc (by omega) (by omega)
      · refine zz_tabIn S dX7_commission_25 (by decide) (by decide) (off := 71) (by decide) (t := 96) (by decide) ?_
        refine zz_aload_3 S dX7_commission_96 (q := 97) rfl ?_
        refine zz_getI S fX7_202 rfl hcE hck dX7_commission_97 (q := 100) rfl ?_
        -- at 100: ireturn 
        refine zz_iret S dX7_commission_100 ⟨rfl, _, rfl, rfl, ?_⟩
        refine zxL.p ?_
        rw [if_pos hv2, if_neg (by decide), if_neg (by decide), if_neg (by decide), if_neg (by decide), hcl]
        exact hr.com hc (by omega) (by omega)
      · refine zz_tabIn S dX7_commission_25 (by decide) (by decide) (off := 76) (by decide) (t := 101) (by decide) ?_
        refine zz_aload_0 S dX7_commission_101 (q := 102) rfl ?_
        refine zz_getR S fX7_41 rfl (Nat.le_of_ble_eq_true rfl) rfl rfl dX7_commission_102 (q := 105) rfl ?_
        refine zz_iload_1 S dX7_commission_105 (q := 106) rfl ?_
        -- at 106: invokevirtual 204
        refine zz_virtP S yy_X4_declinationOfDial lX7_204 (ci := 4) (by decide) rfl (cx_declD x c nw nc s im hx hc hI hr) rfl (Nat.le_of_ble_eq_true rfl) (Nat.le_of_ble_eq_true rfl) rfl (Nat.le_of_ble_eq_true rfl) rfl dX7_commission_106 (q := 109) rfl ?_
        refine zz_iret S dX7_commission_109 ⟨rfl, _, rfl, rfl, ?_⟩
        refine zxL.p ?_
        rw [if_pos hv2, if_pos (by decide), hcl]
      · refine zz_tabIn S dX7_commission_25 (by decide) (by decide) (off := 85) (by decide) (t := 110) (by decide) ?_
        refine zz_aload_3 S dX7_commission_110 (q := 111) rfl ?_
        -- at 111: invokevirtual 207
        refine zz_virtP S yy_X0_weight lX7_207 (ci := 0) (by decide) rfl (cx_weight (13 + c) im hcE hck) rfl (Nat.le_of_ble_eq_true rfl) hcE hck (Nat.le_of_ble_eq_true rfl) rfl dX7_commission_111 (q := 114) rfl ?_
        refine zz_iret S dX7_commission_114 ⟨rfl, _, rfl, rfl, ?_⟩
        refine zxL.p ?_
        rw [if_pos hv2, if_neg (by decide), if_pos (by decide), hcl, hr.com hc (by omega) (by omega)]
        rfl
      · refine zz_tabIn S dX7_commission_25 (by decide) (by decide) (off := 90) (by decide) (t := 115) (by decide) ?_
        refine zz_aload_3 S dX7_commission_115 (q := 116) rfl ?_
        refine zz_getI S fX7_210 rfl hcE hck dX7_commission_116 (q := 119) rfl ?_
        -- at 119: ireturn 
        refine zz_iret S dX7_commission_119 ⟨rfl, _, rfl, rfl, ?_⟩
        refine zxL.p ?_
        rw [if_pos hv2, if_neg (by decide), if_neg (by decide), if_pos (by decide), hcl]
        exact hr.com hc (by omega) (by omega)
      · refine zz_tabIn S dX7_commission_25 (by decide) (by decide) (off := 95) (by decide) (t := 120) (by decide) ?_
        refine zz_aload_3 S dX7_commission_120 (q := 121) rfl ?_
        refine zz_getI S fX7_213 rfl hcE hck dX7_commission_121 (q := 124) rfl ?_
        -- at 124: ireturn 
        refine zz_iret S dX7_commission_124 ⟨rfl, _, rfl, rfl, ?_⟩
        refine zxL.p ?_
        rw [if_pos hv2, if_neg (by decide), if_neg (by decide), if_neg (by decide), if_pos (by decide), hcl]
        exact hr.com hc (by omega) (by omega)
    · refine zz_tabOut S dX7_commission_25 (zs_out (k := 8) (by omega) hv) (t := 125) (by decide) ?_
      refine zz_ldc S (v := (-100001)) kX7_159 dX7_commission_125 (q := 127) rfl ?_
      -- at 127: ireturn 
      refine zz_iret S dX7_commission_127 ⟨rfl, _, rfl, rfl, ?_⟩
      refine zxL.p ?_
      rw [if_neg (fun e => hv e.2)]
  · refine zz_ldc S (v := (-100001)) kX7_159 dX7_commission_11 (q := 13) rfl ?_
    -- at 13: ireturn 
    refine zz_iret S dX7_commission_13 ⟨rfl, _, rfl, rfl, ?_⟩
    refine zxL.p ?_
    rw [if_neg (fun e => zs_b1.mp b1 e.1)]
theorem cx_correction (x : Int32) (nw nc : Nat) (s : ZSt) (im : ZI) (hr : rS im 2 s nw nc) : zz_OI G l 1 mX7_correction [.ref 0, .int x] zE im (fun r im' => zxL im im' r (ol_corr s x)) := by
  unfold ol_corr
  refine zz_intro (isI := false) (by decide) rfl (Nat.le_of_ble_eq_true rfl) (fun h => by cases h) (fun w S => ?_)
  refine zz_iload_1 S dX7_correction_0 (q := 1) rfl ?_
  refine zz_iconst S (v := 0) rfl dX7_correction_1 (q := 2) rfl ?_
  refine zz_bipush S (v := 11) rfl dX7_correction_2 (q := 4) rfl ?_
  -- at 4: invokestatic 216
  refine zz_statP S yy_X7_isWithin lX7_216 (cx_within x 0 11 zE im) rfl (Nat.le_of_ble_eq_true rfl) (Nat.le_of_ble_eq_true rfl) rfl dX7_correction_4 (q := 7) rfl ?_
  refine zz_if_ne S dX7_correction_7 (t := 13) (by decide) (q := 10) rfl (fun b1 => ?_) (fun b1 => ?_)
  -- then 13 else 10
  · have b1' := zs_ne0 b1
    obtain ⟨k, hk, hx⟩ := zs_inr (k := 11) (by omega) b1'
    refine zz_aload_0 S dX7_correction_13 (q := 14) rfl ?_
    refine zz_getR S fX7_41 rfl (Nat.le_of_ble_eq_true rfl) rfl rfl dX7_correction_14 (q := 17) rfl ?_
    refine zz_getR S fX7_220 rfl (Nat.le_of_ble_eq_true rfl) rfl rfl dX7_correction_17 (q := 20) rfl ?_
    refine zz_iload_1 S dX7_correction_20 (q := 21) rfl ?_
    refine zz_iaN S (j := k) (Nat.le_of_ble_eq_true rfl) rfl (Nat.le_of_ble_eq_true rfl) hx (by omega) dX7_correction_21 (q := 22) rfl ?_
    -- at 22: ireturn 
    refine zz_iret S dX7_correction_22 ⟨rfl, _, rfl, rfl, ?_⟩
    refine zxL.p ?_
    rw [if_pos b1', zs_cl hx (by omega)]
    exact hr.cor (by omega)
  · refine zz_ldc S (v := (-100001)) kX7_159 dX7_correction_10 (q := 12) rfl ?_
    -- at 12: ireturn 
    refine zz_iret S dX7_correction_12 ⟨rfl, _, rfl, rfl, ?_⟩
    refine zxL.p ?_
    rw [if_neg (zs_b1.mp b1)]
theorem cx_sine (x : Int32) (im : ZI) : zz_OI G l 2 mX7_sine [.ref 0, .int x] zE im (fun r im' => zxL im im' r (ol_sine x)) := by
  unfold ol_sine
  refine zz_intro (isI := false) (by decide) rfl (Nat.le_of_ble_eq_true rfl) (fun h => by cases h) (fun w S => ?_)
  refine zz_iload_1 S dX7_sine_0 (q := 1) rfl ?_
  refine zz_sipush S (v := (-720)) rfl dX7_sine_1 (q := 4) rfl ?_
  refine zz_sipush S (v := 720) rfl dX7_sine_4 (q := 7) rfl ?_
  -- at 7: invokestatic 216
  refine zz_statP S yy_X7_isWithin lX7_216 (cx_within x (-720) 720 zE im) rfl (Nat.le_of_ble_eq_true rfl) (Nat.le_of_ble_eq_true rfl) rfl dX7_sine_7 (q := 10) rfl ?_
  refine zz_if_ne S dX7_sine_10 (t := 16) (by decide) (q := 13) rfl (fun b1 => ?_) (fun b1 => ?_)
  -- then 16 else 13
  · have b1' := zs_ne0 b1
    have l1 : -720 ≤ x.toInt := by have := Int32.le_iff_toInt_le.mp b1'.1; simpa using this
    have l2 : x.toInt ≤ 720 := by have := Int32.le_iff_toInt_le.mp b1'.2; simpa using this
    refine zz_iload_1 S dX7_sine_16 (q := 17) rfl ?_
    -- at 17: invokestatic 223
    refine zz_statP S yy_X7_sineOf lX7_223 (cx_sineOf x l1 l2 zE im) rfl (Nat.le_of_ble_eq_true rfl) (Nat.le_of_ble_eq_true rfl) rfl dX7_sine_17 (q := 20) rfl ?_
    refine zz_iret S dX7_sine_20 ⟨rfl, _, rfl, rfl, ?_⟩
    refine zxL.p ?_
    rw [if_pos b1']
  · refine zz_ldc S (v := (-100001)) kX7_159 dX7_sine_13 (q := 15) rfl ?_
    -- at 15: ireturn 
    refine zz_iret S dX7_sine_15 ⟨rfl, _, rfl, rfl, ?_⟩
    refine zxL.p ?_
    rw [if_neg (zs_b1.mp b1)]
end ZCL2
