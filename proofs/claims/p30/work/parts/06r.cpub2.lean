/-! THE CLASS: take, restore, undo, append, clearText -/
section ZCP2
variable {G : ZG} {l : Launch}
set_option maxHeartbeats 1000000 in
theorem cx_ptake (x : Int32) (f n len nw nc : Nat) (h : Nat → ZSt) (s : ZSt) (tx : Nat → Int32) (im : ZI) (hT : rT im 1 s) (hR : zRg im f n h) (hP : zPg im len tx) (hI : sI s nw nc) (hr : rS im 2 s nw nc) : zz_OI G l 4 mX7_take [.ref 0, .int x] zE im (fun r im' => zXQ im im' r (ox_take s n h x) len tx) := by
  have hf := hR.1
  have hw := hI.2.1
  have hn := hI.2.2.2.1
  refine zz_intro (isI := false) (by decide) rfl (Nat.le_of_ble_eq_true rfl) (fun h => by cases h) (fun w S => ?_)
  refine zz_aload_0 S dX7_take_0 (q := 1) rfl ?_
  refine zz_getR S fX7_19 rfl (Nat.le_of_ble_eq_true rfl) rfl rfl dX7_take_1 (q := 4) rfl ?_
  refine zz_aload_0 S dX7_take_4 (q := 5) rfl ?_
  refine zz_getR S fX7_10 rfl (Nat.le_of_ble_eq_true rfl) rfl rfl dX7_take_5 (q := 8) rfl ?_
  -- at 8: invokevirtual 42
  refine zz_virtV S yy_X2_mark lX7_42 (ci := 2) (by decide) rfl (cx_mark f im hf hR.2.1 hT.f01) rfl (Nat.le_of_ble_eq_true rfl) (Nat.le_of_ble_eq_true rfl) rfl (Nat.le_of_ble_eq_true rfl) rfl dX7_take_8 (q := 11) rfl ?_
  intro im1 hc
  have hr1 : rS im1 2 s nw nc := hr.keep hw hn (fun k a b => hc.2 k (by omega))
  have hT1 := (zX_mark hT hR hP hc).1
  refine zz_aload_0 S dX7_take_11 (q := 12) rfl ?_
  refine zz_aload_0 S dX7_take_12 (q := 13) rfl ?_
  refine zz_getR S fX7_10 rfl (Nat.le_of_ble_eq_true rfl) rfl rfl dX7_take_13 (q := 16) rfl ?_
  refine zz_iload_1 S dX7_take_16 (q := 17) rfl ?_
  -- at 17: invokevirtual 85
  refine zz_virtI S yy_X5_keepSnapshot lX7_85 (ci := 5) (by decide) rfl (cx_keepSnap x nw nc s im1 hT1 hI hr1) rfl (Nat.le_of_ble_eq_true rfl) (Nat.le_of_ble_eq_true rfl) rfl (Nat.le_of_ble_eq_true rfl) rfl dX7_take_17 (q := 20) rfl ?_
  intro r im2 hA
  refine zz_virtI S yy_X7_recorded lX7_52 (ci := 7) (by decide) rfl (cx_recorded r f n im2 hf hR.2.2.1 (by rw [hA.1 67 (by omega), mark_67 hc]; exact hR.2.1) (by rw [hA.1 67 (by omega), mark_67 hc]; exact hR.2.2.2.1)) rfl (Nat.le_of_ble_eq_true rfl) (Nat.le_of_ble_eq_true rfl) rfl (Nat.le_of_ble_eq_true rfl) rfl dX7_take_20 (q := 23) rfl ?_
  intro r3 im3 hq
  refine zz_iret S dX7_take_23 ⟨rfl, _, rfl, rfl, ?_⟩
  exact (zX_fin2 hT hR hP hc hA (fun _ => ne_err0 (by rw [hI.2.2.1]; exact nI_pos' (by omega))) ((cd_ge rfl).2) hq).h (by
    unfold ox_take
    by_cases c : x ≥ 0 ∧ x ≤ 1
    · rw [if_pos c, if_pos c, if_pos (by decide)]
    · rw [if_neg c, if_neg c, if_neg (by decide)])
set_option maxHeartbeats 1000000 in
theorem cx_pundo (f n len : Nat) (h : Nat → ZSt) (s : ZSt) (tx : Nat → Int32) (im : ZI) (hT : rT im 1 s) (hR : zRg im f n h) (hP : zPg im len tx) : zz_OI G l 5 mX7_undo [.ref 0] zE im (fun r im' => zXQ im im' r (ox_undo s n h) len tx) := by
  have hR0 := hR
  obtain ⟨hf, h1, hn, h2, h3⟩ := hR
  unfold ox_undo
  refine zz_intro (isI := false) (by decide) rfl (Nat.le_of_ble_eq_true rfl) (fun h => by cases h) (fun w S => ?_)
  refine zz_aload_0 S dX7_undo_0 (q := 1) rfl ?_
  refine zz_getR S fX7_19 rfl (Nat.le_of_ble_eq_true rfl) rfl rfl dX7_undo_1 (q := 4) rfl ?_
  refine zz_getI S fX7_91 rfl (Nat.le_of_ble_eq_true rfl) rfl dX7_undo_4 (q := 7) rfl ?_
  refine zz_if_ne S dX7_undo_7 (t := 13) (by decide) (q := 10) rfl (fun b1 => ?_) (fun b1 => ?_)
  -- then 13 else 10
  · have hne : n ≠ 0 := fun e => b1 (by rw [h2, e]; rfl)
    obtain ⟨m, rfl⟩ : ∃ m, n = m + 1 := ⟨n - 1, by omega⟩
    have hpos : (f + 6 - (m + 1) + m) % 6 = (f + 5) % 6 := by omega
    have hlast := h3 m (by omega)
    rw [hpos] at hlast
    refine zz_aload_0 S dX7_undo_13 (q := 14) rfl ?_
    refine zz_getR S fX7_19 rfl (Nat.le_of_ble_eq_true rfl) rfl rfl dX7_undo_14 (q := 17) rfl ?_
    refine zz_aload_0 S dX7_undo_17 (q := 18) rfl ?_
    refine zz_getR S fX7_10 rfl (Nat.le_of_ble_eq_true rfl) rfl rfl dX7_undo_18 (q := 21) rfl ?_
    -- at 21: invokevirtual 96
    refine zz_virtV S yy_X2_stepBack lX7_96 (ci := 2) (by decide) rfl (cx_step f m im hf (by omega) h1 h2 hlast.f01) rfl (Nat.le_of_ble_eq_true rfl) (Nat.le_of_ble_eq_true rfl) rfl (Nat.le_of_ble_eq_true rfl) rfl dX7_undo_21 (q := 24) rfl ?_
    rintro im1 ⟨k1, k2, k3, k4⟩
    refine zz_aload_0 S dX7_undo_24 (q := 25) rfl ?_
    refine zz_getR S fX7_19 rfl (Nat.le_of_ble_eq_true rfl) rfl rfl dX7_undo_25 (q := 28) rfl ?_
    refine zz_getI S fX7_91 rfl (Nat.le_of_ble_eq_true rfl) rfl dX7_undo_28 (q := 31) rfl ?_
    -- at 31: ireturn 
    refine zz_iret S dX7_undo_31 ⟨rfl, _, rfl, rfl, ?_⟩
    rw [if_neg hne]
    refine ⟨by rw [k2]; rfl, ⟨?_, ⟨(f + 5) % 6, by omega, k1, by show m + 1 - 1 ≤ 5; omega, by rw [k2]; rfl, fun i hi => ?_⟩, ?_⟩, fun k hk => k4 k (by omega) (by omega)⟩
    · exact (hlast.cp k3).cong (fun j hj => by
        show (if j < 356 then h (m + 1 - 1) j else s j) = h m j
        rw [if_pos hj]
        rfl)
    · have hi' : i < m := hi
      rw [show m + 1 - 1 = m by omega, show ((f + 5) % 6 + 6 - m + i) % 6 = (f + 6 - (m + 1) + i) % 6 by omega]
      exact (h3 i (by omega)).keep (fun k a b => k4 k (by omega) (by omega))
    · obtain ⟨p1, p2, p3, p4⟩ := hP
      exact ⟨by rw [k4 465 (by omega) (by omega)]; exact p1, p2, fun j hj => by rw [k4 466 (by omega) (by omega)]; exact p3 j hj, p4⟩
  · have he : n = 0 := (nI_eq (a := n) (b := 0) (by omega) (by omega)).mp (h2.symm.trans b1)
    refine zz_ldc S (v := (-100002)) kX7_95 dX7_undo_10 (q := 12) rfl ?_
    -- at 12: ireturn 
    refine zz_iret S dX7_undo_12 ⟨rfl, _, rfl, rfl, ?_⟩
    rw [if_pos he]
    exact ⟨rfl, ⟨hT, ⟨f, hR0⟩, hP⟩, fun _ _ => rfl⟩
end ZCP2
