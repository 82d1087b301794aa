/-! THE CLASS: snapshots, undo -/
theorem rS.cong {im : ZI} {b nw nc : Nat} {s s' : ZSt} (h : rS im b s nw nc) (hw : nw ≤ 6) (hn : nc ≤ 10) (hs : ∀ j, j < 118 → s' j = s j) : rS im b s' nw nc := by
  obtain ⟨⟨a1, a2, a3, a4⟩, h2, h3, h4, h5⟩ := h
  refine ⟨⟨?_, ?_, ?_, ?_⟩, fun j hj => ?_, fun m hm => ?_, fun w hw2 => ?_, fun c hc f hf e => ?_⟩
  · rw [hs 0 (by omega)]; exact a1
  · rw [hs 1 (by omega)]; exact a2
  · rw [hs 2 (by omega)]; exact a3
  · rw [hs 3 (by omega)]; exact a4
  · rw [hs _ (by omega)]; exact h2 j hj
  · rw [hs _ (by omega)]; exact h3 m hm
  · rw [hs _ (by omega), hs _ (by omega)]; exact h4 w hw2
  · rw [hs _ (by omega)]; exact h5 c hc f hf (fun q => by have := e q; rw [hs _ (by omega)] at this; exact this)
theorem sI.cong {s s' : ZSt} {nw nc : Nat} (h : sI s nw nc) (hs : ∀ j, j < 118 → s' j = s j) : sI s' nw nc := sI_low h (fun j hj _ _ => hs j hj)
theorem rT.cong {im : ZI} {B : Nat} {s s' : ZSt} (h : rT im B s) (hs : ∀ j, j < 356 → s' j = s j) : rT im B s' := by
  obtain ⟨⟨nw, nc, hI, hr⟩, h2⟩ := h
  refine ⟨⟨nw, nc, hI.cong (fun j hj => hs j (by omega)), hr.cong hI.2.1 hI.2.2.2.1 (fun j hj => hs j (by omega))⟩, fun b hb => ?_⟩
  rw [hs _ (by omega)]
  obtain ⟨e1, e2⟩ := h2 b hb
  refine ⟨e1, ?_⟩
  rcases e2 with e2 | ⟨e2, nw2, nc2, hI2, hr2⟩
  · exact Or.inl e2
  · have e : ∀ j, j < 118 → sl s' b j = sl s b j := fun j hj => hs _ (by omega)
    exact Or.inr ⟨e2, nw2, nc2, hI2.cong e, hr2.cong hI2.2.1 hI2.2.2.2.1 e⟩
/-- the action of a state -/
def zB (im im' : ZI) (r cd ans : Int32) (s' : ZSt) : Prop := (∀ k, k < 1 ∨ 67 ≤ k → im' k = im k) ∧ if cd ≥ 0 then r = ans ∧ rT im' 1 s' else r = cd ∧ im' = im
theorem zX_fin2 {im im1 im2 im3 : ZI} {s s' : ZSt} {f n len : Nat} {h : Nat → ZSt} {tx : Nat → Int32} {r r3 cd ans : Int32} (hT : rT im 1 s) (hR : zRg im f n h) (hP : zPg im len tx) (hc : zCpS im im1 (69 + 66 * f) 1)
    (hA : zB im1 im2 r cd ans s') (hS : cd ≥ 0 → ¬ isErr ans) (hE : ¬ cd ≥ 0 → isErr cd) (hq : zQR im2 im3 r3 r f n) : zXQ im im3 r3 (if cd ≥ 0 then (ans, s', sh_n n, sh_p n h s) else (cd, s, n, h)) len tx := by
  obtain ⟨hT1, hR1, hP1, hM1⟩ := zX_mark hT hR hP hc
  have hf := hR.1
  obtain ⟨q1, q2, q3⟩ := hq
  obtain ⟨a1, a2⟩ := hA
  obtain ⟨hf1, g1, hn, g2, g3⟩ := hR1
  obtain ⟨p1, p2, p3, p4⟩ := hP1
  have hM2 : rT im2 (69 + 66 * f) s := hM1.keep (fun k a b => a1 k (by omega))
  have hR2 : zRg im2 f n h := ⟨hf, by rw [a1 67 (by omega)]; exact g1, hn, by rw [a1 67 (by omega)]; exact g2, fun i hi => (g3 i hi).keep (fun k a b => a1 k (by omega))⟩
  have hP2 : zPg im2 len tx := ⟨by rw [a1 465 (by omega)]; exact p1, p2, fun j hj => by rw [a1 466 (by omega)]; exact p3 j hj, p4⟩
  have hHi : zHi im im2 := fun k hk => by rw [a1 k (by omega), hc.2 k (by omega)]
  by_cases hcd : cd ≥ 0
  · rw [if_pos hcd] at a2 ⊢
    obtain ⟨rfl, hT2⟩ := a2
    obtain ⟨k1, k2, k3⟩ := q3 (hS hcd)
    refine ⟨q1, ⟨hT2.keep (fun k a b => k3 k (by omega)), ⟨_, zX_keep hR2 hM2 k1 k2 k3⟩, ?_⟩, fun k hk => by rw [k3 k (by omega), hHi k hk]⟩
    obtain ⟨p1, p2, p3, p4⟩ := hP2
    exact ⟨by rw [k3 465 (by omega)]; exact p1, p2, fun j hj => by rw [k3 466 (by omega)]; exact p3 j hj, p4⟩
  · rw [if_neg hcd] at a2 ⊢
    obtain ⟨rfl, rfl⟩ := a2
    have he := q2 (hE hcd)
    subst he
    exact ⟨q1, ⟨hT1, ⟨f, hR2⟩, hP2⟩, hHi⟩
theorem zsl_ref : ∀ b, b < 2 → zE.2.2 23 b = some (25 + 21 * b) := by decide +kernel
theorem zsl_L : ∀ b, b < 2 → zShL (25 + 21 * b) := fun b hb => zStL_1.2.2.2.2.2.2.2.2.2 b hb
theorem zsl_2 : zShL 2 := zStL_1.2.2.2.2.2.2.2.2.1
section ZSLT
variable {G : ZG} {l : Launch}
set_option maxHeartbeats 1000000 in
theorem cx_keepSnap (x : Int32) (nw nc : Nat) (s : ZSt) (im : ZI) (hT : rT im 1 s) (hI : sI s nw nc) (hr : rS im 2 s nw nc) : zz_OI G l 2 mX5_keepSnapshot [.ref 1, .int x] zE im (fun r im' => zB im im' r (if x ≥ 0 ∧ x ≤ 1 then 0 else -100001) (s 1) (op_take s x.toNatClampNeg)) := by
  have hw := hI.2.1
  have hn := hI.2.2.2.1
  refine zz_intro (isI := false) (by decide) rfl (Nat.le_of_ble_eq_true rfl) (fun h => by cases h) (fun w S => ?_)
  refine zz_iload_1 S dX5_keepSnapshot_0 (q := 1) rfl ?_
  refine zz_iconst S (v := 0) rfl dX5_keepSnapshot_1 (q := 2) rfl ?_
  refine zz_iconst S (v := 1) rfl dX5_keepSnapshot_2 (q := 3) rfl ?_
  -- at 3: invokestatic 30
  refine zz_statNP S yy_X7_isWithin lX5_30 (cx_within x 0 1 zE im) rfl (Nat.le_of_ble_eq_true rfl) (Nat.le_of_ble_eq_true rfl) rfl dX5_keepSnapshot_3 (q := 6) rfl ?_
  refine zz_if_ne S dX5_keepSnapshot_6 (t := 12) (by decide) (q := 9) rfl (fun b1 => ?_) (fun b1 => ?_)
  -- then 12 else 9
  · have b1' := zs_ne0 b1
    obtain ⟨b, hb, hx⟩ := zs_inr (k := 1) (by omega) b1'
    have hb2 : b < 2 := by omega
    have hL := zsl_L b hb2
    refine zz_aload_0 S dX5_keepSnapshot_12 (q := 13) rfl ?_
    refine zz_getR S fX5_18 rfl (Nat.le_of_ble_eq_true rfl) rfl rfl dX5_keepSnapshot_13 (q := 16) rfl ?_
    refine zz_iload_1 S dX5_keepSnapshot_16 (q := 17) rfl ?_
    refine zz_aaN S (j := b) (Nat.le_of_ble_eq_true rfl) rfl ⟨Nat.le_of_ble_eq_true rfl, Nat.le_of_ble_eq_true rfl⟩ (Nat.le_of_ble_eq_true rfl) hx hb2 (zsl_ref b hb2) dX5_keepSnapshot_17 (q := 18) rfl ?_
    refine zz_aload_0 S dX5_keepSnapshot_18 (q := 19) rfl ?_
    refine zz_getR S fX5_12 rfl (Nat.le_of_ble_eq_true rfl) rfl rfl dX5_keepSnapshot_19 (q := 22) rfl ?_
    -- at 22: invokevirtual 26
    refine zz_virtV S yy_X4_copyFrom lX5_26 (ci := 4) (by decide) rfl (cx_shopCopy (25 + 21 * b) 2 im hL zsl_2 (by omega)) rfl (Nat.le_of_ble_eq_true rfl) (show 25 + 21 * b < 470 by omega) hL.2.1 (Nat.le_of_ble_eq_true rfl) rfl dX5_keepSnapshot_22 (q := 25) rfl ?_
    rintro im1 ⟨c1, c2⟩
    refine zz_aload_0 S dX5_keepSnapshot_25 (q := 26) rfl ?_
    refine zz_getR S fX5_22 rfl (Nat.le_of_ble_eq_true rfl) rfl rfl dX5_keepSnapshot_26 (q := 29) rfl ?_
    refine zz_iload_1 S dX5_keepSnapshot_29 (q := 30) rfl ?_
    refine zz_iconst S (v := 1) rfl dX5_keepSnapshot_30 (q := 31) rfl ?_
    refine zz_zaS S (j := b) (Nat.le_of_ble_eq_true rfl) rfl (Nat.le_of_ble_eq_true rfl) hx hb2 dX5_keepSnapshot_31 (q := 32) rfl ?_
    refine zz_aload_0 S dX5_keepSnapshot_32 (q := 33) rfl ?_
    refine zz_getR S fX5_12 rfl (Nat.le_of_ble_eq_true rfl) rfl rfl dX5_keepSnapshot_33 (q := 36) rfl ?_
    refine zz_getI S fX5_35 rfl (Nat.le_of_ble_eq_true rfl) rfl dX5_keepSnapshot_36 (q := 39) rfl ?_
    -- at 39: ireturn 
    refine zz_iret S dX5_keepSnapshot_39 ⟨rfl, _, rfl, rfl, ?_⟩
    rw [if_pos b1', zs_cl hx (by omega), vp_nar01 (Or.inr rfl)]
    have o : ∀ k, k ≠ 24 → (k < 25 + 21 * b ∨ 25 + 21 * b + 21 ≤ k) → zz_u im1 24 b 1 k = im k := fun k h1 h2 => by rw [zz_u_off _ _ _ _ h1, c2 k h2]
    refine ⟨fun k hk => o k (by omega) (by omega), ?_⟩
    rw [if_pos (by decide)]
    refine ⟨by rw [o 2 (by omega) (by omega)]; exact hr.n.2.1, ?_⟩
    have elow : ∀ j, j < 118 → op_take s b j = s j := fun j hj => by
      unfold op_take
      rw [if_neg (by omega), if_neg (by omega)]
    refine ⟨⟨nw, nc, hI.cong elow, (hr.keep hw hn (fun k a d => o k (by omega) (by omega))).cong hw hn elow⟩, fun b' hb' => ?_⟩
    by_cases hbb : b' = b
    · subst hbb
      have e1 : op_take s b' (118 + 119 * b') = 1 := if_pos rfl
      have esl : ∀ j, j < 118 → sl (op_take s b') b' j = s j := fun j hj => by
        unfold sl op_take
        rw [if_neg (by omega), if_pos (by omega)]
        congr 1
        omega
      refine ⟨by rw [e1]; exact zz_u_e _ _ _ _, Or.inr ⟨e1, nw, nc, hI.cong esl, ?_⟩⟩
      refine (hr.cp hw hn (fun r j hv => ?_)).cong hw hn esl
      have := vv_21 hv
      rw [zz_u_off _ _ _ _ (by omega)]
      exact c1 r j hv
    · have e1 : op_take s b (118 + 119 * b') = s (118 + 119 * b') := by
        unfold op_take
        rw [if_neg (by omega), if_neg (by omega)]
      have esl : ∀ j, j < 118 → sl (op_take s b) b' j = sl s b' j := fun j hj => by
        unfold sl op_take
        rw [if_neg (by omega), if_neg (by omega)]
      obtain ⟨d1, d2⟩ := hT.2 b' hb'
      rw [e1]
      refine ⟨by rw [zz_u_n _ _ (Or.inr hbb), c2 _ (by omega)]; exact d1, ?_⟩
      rcases d2 with d2 | ⟨d2, nw2, nc2, hI2, hr2⟩
      · exact Or.inl d2
      · exact Or.inr ⟨d2, nw2, nc2, hI2.cong esl, (hr2.keep hI2.2.1 hI2.2.2.2.1 (fun k a d => o k (by omega) (by omega))).cong hI2.2.1 hI2.2.2.2.1 esl⟩
  · refine zz_ldc S (v := (-100001)) kX5_34 dX5_keepSnapshot_9 (q := 11) rfl ?_
    -- at 11: ireturn 
    refine zz_iret S dX5_keepSnapshot_11 ⟨rfl, _, rfl, rfl, ?_⟩
    rw [if_neg (zs_b1.mp b1)]
    exact ⟨fun _ _ => rfl, by rw [if_neg (by decide)]; exact ⟨rfl, rfl⟩⟩
end ZSLT
