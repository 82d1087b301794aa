/-! THE CLASS: its shop against the numbers s -/
def rS (im : ZI) (b : Nat) (s : ZSt) (nw nc : Nat) : Prop := (im b 4 = s 0 ∧ im b 5 = s 1 ∧ im b 6 = s 2 ∧ im b 7 = s 3) ∧ (∀ j, j < 4 → im (b + 3) j = s (4 + j)) ∧ (∀ m, m < 12 → im (b + 2) m = s (8 + m)) ∧ (∀ w, w < nw → im (b + 5 + w) 0 = s (20 + 3 * w + 1) ∧ im (b + 5 + w) 1 = s (20 + 3 * w + 2)) ∧ ∀ c, c < nc → ∀ f, f < 8 → (f = 5 → sB 1 3 (s (38 + 8 * c + 4))) → im (b + 11 + c) f = s (38 + 8 * c + f)
section ZRS
variable {im : ZI} {s : ZSt} {nw nc : Nat}
theorem rS.n (h : rS im 2 s nw nc) : im 2 4 = s 0 ∧ im 2 5 = s 1 ∧ im 2 6 = s 2 ∧ im 2 7 = s 3 := h.1
theorem rS.set (h : rS im 2 s nw nc) {j : Nat} (hj : j < 4) : im 5 j = s (4 + j) := h.2.1 j hj
theorem rS.cor (h : rS im 2 s nw nc) {j : Nat} (hj : j < 12) : im 4 j = s (8 + j) := h.2.2.1 j hj
theorem rS.wal (h : rS im 2 s nw nc) {w : Nat} (hw : w < nw) : im (7 + w) 0 = s (20 + 3 * w + 1) ∧ im (7 + w) 1 = s (20 + 3 * w + 2) := h.2.2.2.1 w hw
theorem rS.com (h : rS im 2 s nw nc) {c f : Nat} (hc : c < nc) (hf : f < 8) (h5 : f ≠ 5) : im (13 + c) f = s (38 + 8 * c + f) := h.2.2.2.2 c hc f hf (fun e => absurd e h5)
theorem rS.com5 (h : rS im 2 s nw nc) {c : Nat} (hc : c < nc) (h5 : sB 1 3 (s (38 + 8 * c + 4))) : im (13 + c) 5 = s (38 + 8 * c + 5) := h.2.2.2.2 c hc 5 (by omega) (fun _ => h5)
end ZRS
theorem zw_ref : ∀ w, w < 6 → zE.2.2 3 w = some (7 + w) := by decide +kernel
theorem zw_k : ∀ w, w < 6 → zE.2.1 (7 + w) = (0, 6) := by decide +kernel
theorem zc_ref : ∀ c, c < 10 → zE.2.2 6 c = some (13 + c) := by decide +kernel
theorem zc_k : ∀ c, c < 10 → zE.2.1 (13 + c) = (0, 0) := by decide +kernel
theorem zs_ltp {x : Int32} {n : Nat} (hn : n ≤ 1000) : x < nI n ↔ x ≤ nI n - 1 := by
  have e : (nI n - 1).toInt = (n : Int) - 1 := by
    rw [Int32.toInt_sub, nI_toInt (by omega), show ((1 : Int32)).toInt = 1 from rfl, Int.bmod_eq_of_le (by omega) (by omega)]
  rw [Int32.lt_iff_toInt_lt, Int32.le_iff_toInt_le, e, nI_toInt (by omega)]
  omega
theorem sB_N {x : Int32} (h : sB (-60) 60 x) : x ≠ -100009 := fun e => by
  have h1 := h.1
  rw [e] at h1
  have h2 : ((-100009 : Int32)).toInt = -100009 := rfl
  omega
theorem zs_known {k a b t : Int32} (h : sW k a b) : (a ≠ -100009 ∧ b ≠ -100009 ∧ zs_size (a - b) ≤ t) ↔ ¬ (k < 2 ∨ zs_size (a - b) > t) := by
  rcases h with ⟨rfl, rfl, rfl⟩ | ⟨rfl, ha, rfl⟩ | ⟨rfl, ha, hb⟩
  · exact ⟨fun e => absurd rfl e.1, fun e => absurd (Or.inl (by decide)) e⟩
  · exact ⟨fun e => absurd rfl e.2.1, fun e => absurd (Or.inl (by decide)) e⟩
  · constructor
    · rintro ⟨-, -, e⟩ (f | f)
      · exact absurd f (by decide)
      · exact absurd e (Int32.not_le.mpr f)
    · intro e
      exact ⟨sB_N ha, sB_N hb, Int32.not_lt.mp (fun f => e (Or.inr f))⟩
/-- the state of a commission, by what its declination comes from -/
theorem zs_st13 {x : Int32} (h : sB 0 4 x) : (x = 0 ∨ x = 4) ↔ ¬ (x ≥ 1 ∧ x ≤ 3) := by
  obtain ⟨h1, h2⟩ := h
  have e : ∀ n : Nat, n ≤ 4 → (x = nI n ↔ x.toInt = n) := fun n hn => by
    rw [← Int32.toInt_inj, nI_toInt (by omega)]
  have e0 := e 0 (by omega)
  have e4 := e 4 (by omega)
  have l1 : x ≥ 1 ↔ 1 ≤ x.toInt := Int32.le_iff_toInt_le
  have l3 : x ≤ 3 ↔ x.toInt ≤ 3 := Int32.le_iff_toInt_le
  rw [show ((x = 0 ∨ x = 4) ↔ (x = nI 0 ∨ x = nI 4)) from Iff.rfl, e0, e4, l1, l3]
  omega
theorem zs_sB13 {x : Int32} (h : x ≥ 1 ∧ x ≤ 3) : sB 1 3 x := ⟨Int32.le_iff_toInt_le.mp h.1, Int32.le_iff_toInt_le.mp h.2⟩
section ZCSH
variable {G : ZG} {l : Launch}
theorem cx_hasWall (x : Int32) (nw : Nat) (im : ZI) (h0 : im 2 4 = nI nw) (hn : nw ≤ 6) : zz_OP G l 0 mX4_hasWall [.ref 2, .int x] zE im (if x ≥ 0 ∧ x ≤ nI nw - 1 then 1 else 0) := by
  have e := zs_ltp (x := x) (n := nw) (by omega)
  refine zz_intro (isI := false) (by decide) rfl (Nat.le_of_ble_eq_true rfl) (fun h => by cases h) (fun w S => ?_)
  refine zz_iload_1 S dX4_hasWall_0 (q := 1) rfl ?_
  refine zz_if_lt S dX4_hasWall_1 (t := 16) (by decide) (q := 4) rfl (fun h1 => ?_) (fun h1 => ?_)
  · refine zz_iconst S (v := 0) rfl dX4_hasWall_16 (q := 17) rfl ?_
    refine zz_zret S (zz_bit (by first | exact Or.inl rfl | exact Or.inr rfl)) dX4_hasWall_17 ⟨rfl, _, rfl, rfl, ?_⟩
    refine ⟨?_, rfl⟩
    first | rw [if_neg (fun q => absurd q.1 (Int32.not_le.mpr h1))] | (rw [h0] at h2; rw [if_neg (fun q => absurd (e.mpr q.2) (Int32.not_lt.mpr h2))]) | (rw [h0] at h2; rw [if_pos ⟨Int32.not_lt.mp h1, e.mp (Int32.not_le.mp h2)⟩])
  · refine zz_iload_1 S dX4_hasWall_4 (q := 5) rfl ?_
    refine zz_aload_0 S dX4_hasWall_5 (q := 6) rfl ?_
    refine zz_getI S fX4_48 rfl (Nat.le_of_ble_eq_true rfl) rfl dX4_hasWall_6 (q := 9) rfl ?_
    refine zz_icmp_ge S dX4_hasWall_9 (t := 16) (by decide) (q := 12) rfl (fun h2 => ?_) (fun h2 => ?_)
    · refine zz_iconst S (v := 0) rfl dX4_hasWall_16 (q := 17) rfl ?_
      refine zz_zret S (zz_bit (by first | exact Or.inl rfl | exact Or.inr rfl)) dX4_hasWall_17 ⟨rfl, _, rfl, rfl, ?_⟩
      refine ⟨?_, rfl⟩
      first | rw [if_neg (fun q => absurd q.1 (Int32.not_le.mpr h1))] | (rw [h0] at h2; rw [if_neg (fun q => absurd (e.mpr q.2) (Int32.not_lt.mpr h2))]) | (rw [h0] at h2; rw [if_pos ⟨Int32.not_lt.mp h1, e.mp (Int32.not_le.mp h2)⟩])
    · refine zz_iconst S (v := 1) rfl dX4_hasWall_12 (q := 13) rfl ?_
      refine zz_goto S dX4_hasWall_13 (t := 17) (by decide) ?_
      refine zz_zret S (zz_bit (by first | exact Or.inl rfl | exact Or.inr rfl)) dX4_hasWall_17 ⟨rfl, _, rfl, rfl, ?_⟩
      refine ⟨?_, rfl⟩
      first | rw [if_neg (fun q => absurd q.1 (Int32.not_le.mpr h1))] | (rw [h0] at h2; rw [if_neg (fun q => absurd (e.mpr q.2) (Int32.not_lt.mpr h2))]) | (rw [h0] at h2; rw [if_pos ⟨Int32.not_lt.mp h1, e.mp (Int32.not_le.mp h2)⟩])
theorem cx_hasCom (x : Int32) (nc : Nat) (im : ZI) (h1c : im 2 5 = nI nc) (hn : nc ≤ 10) : zz_OP G l 0 mX4_hasCommission [.ref 2, .int x] zE im (if x ≥ 0 ∧ x ≤ nI nc - 1 then 1 else 0) := by
  have e := zs_ltp (x := x) (n := nc) (by omega)
  refine zz_intro (isI := false) (by decide) rfl (Nat.le_of_ble_eq_true rfl) (fun h => by cases h) (fun w S => ?_)
  refine zz_iload_1 S dX4_hasCommission_0 (q := 1) rfl ?_
  refine zz_if_lt S dX4_hasCommission_1 (t := 16) (by decide) (q := 4) rfl (fun h1 => ?_) (fun h1 => ?_)
  · refine zz_iconst S (v := 0) rfl dX4_hasCommission_16 (q := 17) rfl ?_
    refine zz_zret S (zz_bit (by first | exact Or.inl rfl | exact Or.inr rfl)) dX4_hasCommission_17 ⟨rfl, _, rfl, rfl, ?_⟩
    refine ⟨?_, rfl⟩
    first | rw [if_neg (fun q => absurd q.1 (Int32.not_le.mpr h1))] | (rw [h1c] at h2; rw [if_neg (fun q => absurd (e.mpr q.2) (Int32.not_lt.mpr h2))]) | (rw [h1c] at h2; rw [if_pos ⟨Int32.not_lt.mp h1, e.mp (Int32.not_le.mp h2)⟩])
  · refine zz_iload_1 S dX4_hasCommission_4 (q := 5) rfl ?_
    refine zz_aload_0 S dX4_hasCommission_5 (q := 6) rfl ?_
    refine zz_getI S fX4_52 rfl (Nat.le_of_ble_eq_true rfl) rfl dX4_hasCommission_6 (q := 9) rfl ?_
    refine zz_icmp_ge S dX4_hasCommission_9 (t := 16) (by decide) (q := 12) rfl (fun h2 => ?_) (fun h2 => ?_)
    · refine zz_iconst S (v := 0) rfl dX4_hasCommission_16 (q := 17) rfl ?_
      refine zz_zret S (zz_bit (by first | exact Or.inl rfl | exact Or.inr rfl)) dX4_hasCommission_17 ⟨rfl, _, rfl, rfl, ?_⟩
      refine ⟨?_, rfl⟩
      first | rw [if_neg (fun q => absurd q.1 (Int32.not_le.mpr h1))] | (rw [h1c] at h2; rw [if_neg (fun q => absurd (e.mpr q.2) (Int32.not_lt.mpr h2))]) | (rw [h1c] at h2; rw [if_pos ⟨Int32.not_lt.mp h1, e.mp (Int32.not_le.mp h2)⟩])
    · refine zz_iconst S (v := 1) rfl dX4_hasCommission_12 (q := 13) rfl ?_
      refine zz_goto S dX4_hasCommission_13 (t := 17) (by decide) ?_
      refine zz_zret S (zz_bit (by first | exact Or.inl rfl | exact Or.inr rfl)) dX4_hasCommission_17 ⟨rfl, _, rfl, rfl, ?_⟩
      refine ⟨?_, rfl⟩
      first | rw [if_neg (fun q => absurd q.1 (Int32.not_le.mpr h1))] | (rw [h1c] at h2; rw [if_neg (fun q => absurd (e.mpr q.2) (Int32.not_lt.mpr h2))]) | (rw [h1c] at h2; rw [if_pos ⟨Int32.not_lt.mp h1, e.mp (Int32.not_le.mp h2)⟩])
theorem cx_isKnown (k : Nat) (t : Int32) (im : ZI) (hk : k < 470) (hkk : zE.2.1 k = (0, 6)) : zz_OP G l 1 mX6_isKnown [.ref k, .int t] zE im (if im k 0 ≠ -100009 ∧ im k 1 ≠ -100009 ∧ zs_size (im k 0 - im k 1) ≤ t then 1 else 0) := by
  refine zz_intro (isI := false) (by decide) rfl (Nat.le_of_ble_eq_true rfl) (fun h => by cases h) (fun w S => ?_)
  refine zz_aload_0 S dX6_isKnown_0 (q := 1) rfl ?_
  refine zz_getI S fX6_10 rfl hk hkk dX6_isKnown_1 (q := 4) rfl ?_
  refine zz_ldc S (v := (-100009)) kX6_9 dX6_isKnown_4 (q := 6) rfl ?_
  refine zz_icmp_eq S dX6_isKnown_6 (t := 38) (by decide) (q := 9) rfl (fun b1 => ?_) (fun b1 => ?_)
  -- then 38 else 9
  · refine zz_iconst S (v := 0) rfl dX6_isKnown_38 (q := 39) rfl ?_
    refine zz_zret S (zz_bit (Or.inl rfl)) dX6_isKnown_39 ⟨rfl, _, rfl, rfl, ?_⟩
    refine ⟨?_, rfl⟩
    rw [if_neg (fun q => q.1 b1)]
  refine zz_aload_0 S dX6_isKnown_9 (q := 10) rfl ?_
  refine zz_getI S fX6_16 rfl hk hkk dX6_isKnown_10 (q := 13) rfl ?_
  refine zz_ldc S (v := (-100009)) kX6_9 dX6_isKnown_13 (q := 15) rfl ?_
  refine zz_icmp_eq S dX6_isKnown_15 (t := 38) (by decide) (q := 18) rfl (fun b2 => ?_) (fun b2 => ?_)
  -- then 38 else 18
  · refine zz_iconst S (v := 0) rfl dX6_isKnown_38 (q := 39) rfl ?_
    refine zz_zret S (zz_bit (Or.inl rfl)) dX6_isKnown_39 ⟨rfl, _, rfl, rfl, ?_⟩
    refine ⟨?_, rfl⟩
    rw [if_neg (fun q => q.2.1 b2)]
  refine zz_aload_0 S dX6_isKnown_18 (q := 19) rfl ?_
  refine zz_getI S fX6_10 rfl hk hkk dX6_isKnown_19 (q := 22) rfl ?_
  refine zz_aload_0 S dX6_isKnown_22 (q := 23) rfl ?_
  refine zz_getI S fX6_16 rfl hk hkk dX6_isKnown_23 (q := 26) rfl ?_
  refine zz_isub S dX6_isKnown_26 (q := 27) rfl ?_
  -- at 27: invokestatic 19
  refine zz_abs S lX6_19 ⟨n_absSt, n_MathIni, n_absCo⟩ (Nat.le_of_ble_eq_true rfl) (Nat.le_of_ble_eq_true rfl) dX6_isKnown_27 (q := 30) rfl ?_
  rw [zs_abs_size]
  refine zz_iload_1 S dX6_isKnown_30 (q := 31) rfl ?_
  refine zz_icmp_gt S dX6_isKnown_31 (t := 38) (by decide) (q := 34) rfl (fun h1 => ?_) (fun h1 => ?_)
  · refine zz_iconst S (v := 0) rfl dX6_isKnown_38 (q := 39) rfl ?_
    refine zz_zret S (zz_bit (by first | exact Or.inl rfl | exact Or.inr rfl)) dX6_isKnown_39 ⟨rfl, _, rfl, rfl, ?_⟩
    refine ⟨?_, rfl⟩
    first | rw [if_neg (fun q => absurd q.2.2 (Int32.not_le.mpr h1))] | rw [if_pos ⟨b1, b2, Int32.not_lt.mp h1⟩]
  · refine zz_iconst S (v := 1) rfl dX6_isKnown_34 (q := 35) rfl ?_
    refine zz_goto S dX6_isKnown_35 (t := 39) (by decide) ?_
    refine zz_zret S (zz_bit (by first | exact Or.inl rfl | exact Or.inr rfl)) dX6_isKnown_39 ⟨rfl, _, rfl, rfl, ?_⟩
    refine ⟨?_, rfl⟩
    first | rw [if_neg (fun q => absurd q.2.2 (Int32.not_le.mpr h1))] | rw [if_pos ⟨b1, b2, Int32.not_lt.mp h1⟩]
theorem cx_declW (x : Int32) (nw nc : Nat) (s : ZSt) (im : ZI) (hI : sI s nw nc) (hr : rS im 2 s nw nc) : zz_OP G l 2 mX4_declinationOfWall [.ref 2, .int x] zE im (if x ≥ 0 ∧ x ≤ nI nw - 1 then sp_wd s x.toNatClampNeg else -100009) := by
  have h0 : im 2 4 = nI nw := hr.n.1.trans hI.1
  have hw := hI.2.1
  refine zz_intro (isI := false) (by decide) rfl (Nat.le_of_ble_eq_true rfl) (fun h => by cases h) (fun w S => ?_)
  refine zz_aload_0 S dX4_declinationOfWall_0 (q := 1) rfl ?_
  refine zz_iload_1 S dX4_declinationOfWall_1 (q := 2) rfl ?_
  -- at 2: invokevirtual 80
  refine zz_virtP S yy_X4_hasWall lX4_80 (ci := 4) (by decide) rfl (cx_hasWall x nw im h0 hw) rfl (Nat.le_of_ble_eq_true rfl) (Nat.le_of_ble_eq_true rfl) rfl (Nat.le_of_ble_eq_true rfl) rfl dX4_declinationOfWall_2 (q := 5) rfl ?_
  refine zz_if_eq S dX4_declinationOfWall_5 (t := 26) (by decide) (q := 8) rfl (fun b1 => ?_) (fun b1 => ?_)
  -- then 26 else 8
  · refine zz_ldc S (v := (-100009)) kX4_73 dX4_declinationOfWall_26 (q := 28) rfl ?_
    refine zz_iret S dX4_declinationOfWall_28 ⟨rfl, _, rfl, rfl, ?_⟩
    refine ⟨?_, rfl⟩
    rw [if_neg (zs_b1.mp b1)]
  have b1' := zs_ne0 b1
  obtain ⟨k, hk, ek⟩ := zs_within (n := nw) (by omega) b1'
  have hx := hr.wal hk
  have hs := hI.2.2.2.2.2.2.1 k hk
  have e4 : im 5 0 = s 4 := hr.set (by omega)
  have key := zs_known (t := s 4) hs
  rw [← hx.1, ← hx.2] at key
  refine zz_aload_0 S dX4_declinationOfWall_8 (q := 9) rfl ?_
  refine zz_getR S fX4_11 rfl (Nat.le_of_ble_eq_true rfl) rfl rfl dX4_declinationOfWall_9 (q := 12) rfl ?_
  refine zz_iload_1 S dX4_declinationOfWall_12 (q := 13) rfl ?_
  refine zz_aaN S (j := k) (Nat.le_of_ble_eq_true rfl) rfl ⟨Nat.le_of_ble_eq_true rfl, Nat.le_of_ble_eq_true rfl⟩ (Nat.le_of_ble_eq_true rfl) ek (by omega) (zw_ref k (by omega)) dX4_declinationOfWall_13 (q := 14) rfl ?_
  refine zz_aload_0 S dX4_declinationOfWall_14 (q := 15) rfl ?_
  refine zz_getR S fX4_21 rfl (Nat.le_of_ble_eq_true rfl) rfl rfl dX4_declinationOfWall_15 (q := 18) rfl ?_
  refine zz_iconst S (v := 0) rfl dX4_declinationOfWall_18 (q := 19) rfl ?_
  refine zz_iaN S (j := 0) (Nat.le_of_ble_eq_true rfl) rfl (Nat.le_of_ble_eq_true rfl) rfl (Nat.le_of_ble_eq_true rfl) dX4_declinationOfWall_19 (q := 20) rfl ?_
  -- at 20: invokevirtual 84
  rw [e4]
  refine zz_virtP S yy_X6_isKnown lX4_84 (ci := 6) (by decide) rfl (cx_isKnown (7 + k) (s 4) im (by omega) (zw_k k (by omega))) rfl (Nat.le_of_ble_eq_true rfl) (show 7 + k < 470 by omega) (zw_k k (by omega)) (Nat.le_of_ble_eq_true rfl) rfl dX4_declinationOfWall_20 (q := 23) rfl ?_
  refine zz_if_ne S dX4_declinationOfWall_23 (t := 29) (by decide) (q := 26) rfl (fun b2 => ?_) (fun b2 => ?_)
  -- then 29 else 26
  · have b3 := key.mp (zs_ne0 b2)
    refine zz_aload_0 S dX4_declinationOfWall_29 (q := 30) rfl ?_
    refine zz_getR S fX4_11 rfl (Nat.le_of_ble_eq_true rfl) rfl rfl dX4_declinationOfWall_30 (q := 33) rfl ?_
    refine zz_iload_1 S dX4_declinationOfWall_33 (q := 34) rfl ?_
    refine zz_aaN S (j := k) (Nat.le_of_ble_eq_true rfl) rfl ⟨Nat.le_of_ble_eq_true rfl, Nat.le_of_ble_eq_true rfl⟩ (Nat.le_of_ble_eq_true rfl) ek (by omega) (zw_ref k (by omega)) dX4_declinationOfWall_34 (q := 35) rfl ?_
    refine zz_getI S fX4_74 rfl (show 7 + k < 470 by omega) (zw_k k (by omega)) dX4_declinationOfWall_35 (q := 38) rfl ?_
    refine zz_aload_0 S dX4_declinationOfWall_38 (q := 39) rfl ?_
    refine zz_getR S fX4_11 rfl (Nat.le_of_ble_eq_true rfl) rfl rfl dX4_declinationOfWall_39 (q := 42) rfl ?_
    refine zz_iload_1 S dX4_declinationOfWall_42 (q := 43) rfl ?_
    refine zz_aaN S (j := k) (Nat.le_of_ble_eq_true rfl) rfl ⟨Nat.le_of_ble_eq_true rfl, Nat.le_of_ble_eq_true rfl⟩ (Nat.le_of_ble_eq_true rfl) ek (by omega) (zw_ref k (by omega)) dX4_declinationOfWall_43 (q := 44) rfl ?_
    refine zz_getI S fX4_77 rfl (show 7 + k < 470 by omega) (zw_k k (by omega)) dX4_declinationOfWall_44 (q := 47) rfl ?_
    refine zz_iadd S dX4_declinationOfWall_47 (q := 48) rfl ?_
    refine zz_i2l S dX4_declinationOfWall_48 (q := 49) rfl ?_
    refine zz_ldc2 S (v := 2) kX4_137 dX4_declinationOfWall_49 (q := 52) rfl ?_
    -- at 52: invokestatic 139
    refine zz_statNPL S yy_X7_rounded lX4_139 (cx_rounded (im (7 + k) 0 + im (7 + k) 1).toInt64 2 (by decide) zE im) rfl (Nat.le_of_ble_eq_true rfl) (Nat.le_of_ble_eq_true rfl) rfl dX4_declinationOfWall_52 (q := 55) rfl ?_
    refine zz_l2i S dX4_declinationOfWall_55 (q := 56) rfl ?_
    -- at 56: ireturn 
    refine zz_iret S dX4_declinationOfWall_56 ⟨rfl, _, rfl, rfl, ?_⟩
    refine ⟨?_, rfl⟩
    rw [hx.1, hx.2] at b3
    rw [if_pos b1', zs_cl ek (by omega), sp_wd, if_neg b3, hx.1, hx.2]
  · have b3 : ¬ _ := fun q => (zs_b1.mp b2) (key.mpr q)
    refine zz_ldc S (v := (-100009)) kX4_73 dX4_declinationOfWall_26 (q := 28) rfl ?_
    refine zz_iret S dX4_declinationOfWall_28 ⟨rfl, _, rfl, rfl, ?_⟩
    refine ⟨?_, rfl⟩
    rw [hx.1, hx.2] at b3
    rw [if_pos b1', zs_cl ek (by omega), sp_wd, if_pos (Classical.not_not.mp b3)]
theorem cx_weight (k : Nat) (im : ZI) (hk : k < 470) (hkk : zE.2.1 k = (0, 0)) : zz_OP G l 1 mX0_weight [.ref k] zE im (zs_rd (im k 2 * im k 2).toInt64 100).toInt32 := by
  refine zz_intro (isI := false) (by decide) rfl (Nat.le_of_ble_eq_true rfl) (fun h => by cases h) (fun w S => ?_)
  refine zz_aload_0 S dX0_weight_0 (q := 1) rfl ?_
  refine zz_getI S fX0_18 rfl hk hkk dX0_weight_1 (q := 4) rfl ?_
  refine zz_aload_0 S dX0_weight_4 (q := 5) rfl ?_
  refine zz_getI S fX0_18 rfl hk hkk dX0_weight_5 (q := 8) rfl ?_
  refine zz_imul S dX0_weight_8 (q := 9) rfl ?_
  refine zz_i2l S dX0_weight_9 (q := 10) rfl ?_
  refine zz_ldc2 S (v := 100) kX0_36 dX0_weight_10 (q := 13) rfl ?_
  -- at 13: invokestatic 38
  refine zz_statNPL S yy_X7_rounded lX0_38 (cx_rounded (im k 2 * im k 2).toInt64 100 (by decide) zE im) rfl (Nat.le_of_ble_eq_true rfl) (Nat.le_of_ble_eq_true rfl) rfl dX0_weight_13 (q := 16) rfl ?_
  refine zz_l2i S dX0_weight_16 (q := 17) rfl ?_
  -- at 17: ireturn 
  refine zz_iret S dX0_weight_17 ⟨rfl, _, rfl, rfl, ?_⟩
  exact ⟨rfl, rfl⟩
theorem cx_byWall (k : Nat) (im : ZI) (hk : k < 470) (hkk : zE.2.1 k = (0, 0)) : zz_OP G l 0 mX0_isByWallNow [.ref k] zE im (if im k 4 = 0 ∨ im k 4 = 4 then 1 else 0) := by
  refine zz_intro (isI := false) (by decide) rfl (Nat.le_of_ble_eq_true rfl) (fun h => by cases h) (fun w S => ?_)
  refine zz_aload_0 S dX0_isByWallNow_0 (q := 1) rfl ?_
  refine zz_getI S fX0_24 rfl hk hkk dX0_isByWallNow_1 (q := 4) rfl ?_
  refine zz_if_eq S dX0_isByWallNow_4 (t := 15) (by decide) (q := 7) rfl (fun h1 => ?_) (fun h1 => ?_)
  · refine zz_iconst S (v := 1) rfl dX0_isByWallNow_15 (q := 16) rfl ?_
    refine zz_goto S dX0_isByWallNow_16 (t := 20) (by decide) ?_
    refine zz_zret S (zz_bit (by first | exact Or.inl rfl | exact Or.inr rfl)) dX0_isByWallNow_20 ⟨rfl, _, rfl, rfl, ?_⟩
    refine ⟨?_, rfl⟩
    first | rw [if_pos (Or.inl h1)] | rw [if_pos (Or.inr h2)] | rw [if_neg (fun q => q.elim h1 h2)]
  · refine zz_aload_0 S dX0_isByWallNow_7 (q := 8) rfl ?_
    refine zz_getI S fX0_24 rfl hk hkk dX0_isByWallNow_8 (q := 11) rfl ?_
    refine zz_iconst S (v := 4) rfl dX0_isByWallNow_11 (q := 12) rfl ?_
    refine zz_icmp_ne S dX0_isByWallNow_12 (t := 19) (by decide) (q := 15) rfl (fun h2 => ?_) (fun h2 => ?_)
    · refine zz_iconst S (v := 0) rfl dX0_isByWallNow_19 (q := 20) rfl ?_
      refine zz_zret S (zz_bit (by first | exact Or.inl rfl | exact Or.inr rfl)) dX0_isByWallNow_20 ⟨rfl, _, rfl, rfl, ?_⟩
      refine ⟨?_, rfl⟩
      first | rw [if_pos (Or.inl h1)] | rw [if_pos (Or.inr h2)] | rw [if_neg (fun q => q.elim h1 h2)]
    · refine zz_iconst S (v := 1) rfl dX0_isByWallNow_15 (q := 16) rfl ?_
      refine zz_goto S dX0_isByWallNow_16 (t := 20) (by decide) ?_
      refine zz_zret S (zz_bit (by first | exact Or.inl rfl | exact Or.inr rfl)) dX0_isByWallNow_20 ⟨rfl, _, rfl, rfl, ?_⟩
      refine ⟨?_, rfl⟩
      first | rw [if_pos (Or.inl h1)] | rw [if_pos (Or.inr h2)] | rw [if_neg (fun q => q.elim h1 h2)]
theorem cx_declD (x : Int32) (c nw nc : Nat) (s : ZSt) (im : ZI) (hx : x = nI c) (hc : c < nc) (hI : sI s nw nc) (hr : rS im 2 s nw nc) : zz_OP G l 3 mX4_declinationOfDial [.ref 2, .int x] zE im (sp_de s c) := by
  have h1 : im 2 5 = nI nc := hr.n.2.1.trans hI.2.2.1
  have hn := hI.2.2.2.1
  have hw6 := hI.2.1
  have hC := hI.2.2.2.2.2.2.2 c hc
  have e1 : im (13 + c) 1 = s (38 + 8 * c + 1) := hr.com hc (by omega) (by omega)
  have e4 : im (13 + c) 4 = s (38 + 8 * c + 4) := hr.com hc (by omega) (by omega)
  have hck : 13 + c < 470 := by omega
  have hin : x ≥ 0 ∧ x ≤ nI nc - 1 := ⟨by rw [hx]; exact nI_pos' (by omega), zs_ltp (by omega) |>.mp (by rw [hx]; exact nI_lt hc (by omega))⟩
  refine zz_intro (isI := false) (by decide) rfl (Nat.le_of_ble_eq_true rfl) (fun h => by cases h) (fun w S => ?_)
  refine zz_aload_0 S dX4_declinationOfDial_0 (q := 1) rfl ?_
  refine zz_iload_1 S dX4_declinationOfDial_1 (q := 2) rfl ?_
  -- at 2: invokevirtual 111
  refine zz_virtP S yy_X4_hasCommission lX4_111 (ci := 4) (by decide) rfl (cx_hasCom x nc im h1 hn) rfl (Nat.le_of_ble_eq_true rfl) (Nat.le_of_ble_eq_true rfl) rfl (Nat.le_of_ble_eq_true rfl) rfl dX4_declinationOfDial_2 (q := 5) rfl ?_
  rw [if_pos hin]
  refine zz_if_ne S dX4_declinationOfDial_5 (t := 11) (by decide) (q := 8) rfl (fun b1 => ?_) (fun b1 => ?_)
  -- then 11 else 8
  · refine zz_aload_0 S dX4_declinationOfDial_11 (q := 12) rfl ?_
    refine zz_getR S fX4_26 rfl (Nat.le_of_ble_eq_true rfl) rfl rfl dX4_declinationOfDial_12 (q := 15) rfl ?_
    refine zz_iload_1 S dX4_declinationOfDial_15 (q := 16) rfl ?_
    refine zz_aaN S (j := c) (Nat.le_of_ble_eq_true rfl) rfl ⟨Nat.le_of_ble_eq_true rfl, Nat.le_of_ble_eq_true rfl⟩ (Nat.le_of_ble_eq_true rfl) hx (by omega) (zc_ref c (by omega)) dX4_declinationOfDial_16 (q := 17) rfl ?_
    refine zz_astore_2 S rfl dX4_declinationOfDial_17 (q := 18) rfl ?_
    refine zz_aload_2 S dX4_declinationOfDial_18 (q := 19) rfl ?_
    refine zz_getI S fX4_90 rfl hck (zc_k c (by omega)) dX4_declinationOfDial_19 (q := 22) rfl ?_
    refine zz_iconst S (v := (-1)) rfl dX4_declinationOfDial_22 (q := 23) rfl ?_
    refine zz_icmp_ne S dX4_declinationOfDial_23 (t := 28) (by decide) (q := 26) rfl (fun b2 => ?_) (fun b2 => ?_)
    -- then 28 else 26
    · rw [e1] at b2
      refine zz_aload_2 S dX4_declinationOfDial_28 (q := 29) rfl ?_
      -- at 29: invokevirtual 143
      refine zz_virtP S yy_X0_isByWallNow lX4_143 (ci := 0) (by decide) rfl (cx_byWall (13 + c) im hck (zc_k c (by omega))) rfl (Nat.le_of_ble_eq_true rfl) hck (zc_k c (by omega)) (Nat.le_of_ble_eq_true rfl) rfl dX4_declinationOfDial_29 (q := 32) rfl ?_
      refine zz_if_eq S dX4_declinationOfDial_32 (t := 46) (by decide) (q := 35) rfl (fun b3 => ?_) (fun b3 => ?_)
      -- then 46 else 35
      · have b3' := zs_b1.mp b3
        rw [e4] at b3'
        have b4 : s (38 + 8 * c + 4) ≥ 1 ∧ s (38 + 8 * c + 4) ≤ 3 := Classical.not_not.mp (fun q => b3' ((zs_st13 hC.2.2.2.2.1).mpr q))
        refine zz_aload_2 S dX4_declinationOfDial_46 (q := 47) rfl ?_
        refine zz_getI S fX4_102 rfl hck (zc_k c (by omega)) dX4_declinationOfDial_47 (q := 50) rfl ?_
        -- at 50: ireturn 
        refine zz_iret S dX4_declinationOfDial_50 ⟨rfl, _, rfl, rfl, ?_⟩
        refine ⟨?_, rfl⟩
        rw [sp_de, if_neg b2, if_pos b4]
        exact hr.com5 hc (zs_sB13 b4)
      · have b3' := zs_ne0 b3
        rw [e4] at b3'
        have b4 := (zs_st13 hC.2.2.2.2.1).mp b3'
        obtain ⟨w0, hw0, ew0⟩ := hC.2.1.resolve_left b2
        refine zz_aload_0 S dX4_declinationOfDial_35 (q := 36) rfl ?_
        refine zz_aload_2 S dX4_declinationOfDial_36 (q := 37) rfl ?_
        refine zz_getI S fX4_90 rfl hck (zc_k c (by omega)) dX4_declinationOfDial_37 (q := 40) rfl ?_
        -- at 40: invokevirtual 147
        rw [e1]
        refine zz_virtP S yy_X4_declinationOfWall lX4_147 (ci := 4) (by decide) rfl (cx_declW (s (38 + 8 * c + 1)) nw nc s im hI hr) rfl (Nat.le_of_ble_eq_true rfl) (Nat.le_of_ble_eq_true rfl) rfl (Nat.le_of_ble_eq_true rfl) rfl dX4_declinationOfDial_40 (q := 43) rfl ?_
        refine zz_goto S dX4_declinationOfDial_43 (t := 50) (by decide) ?_
        -- at 50
        refine zz_iret S dX4_declinationOfDial_50 ⟨rfl, _, rfl, rfl, ?_⟩
        refine ⟨?_, rfl⟩
        rw [sp_de, if_neg b2, if_neg b4, if_pos]
        exact ⟨by rw [ew0]; exact nI_pos' (by omega), zs_ltp (by omega) |>.mp (by rw [ew0]; exact nI_lt hw0 (by omega))⟩
    · rw [e1] at b2
      refine zz_iconst S (v := 0) rfl dX4_declinationOfDial_26 (q := 27) rfl ?_
      -- at 27: ireturn 
      refine zz_iret S dX4_declinationOfDial_27 ⟨rfl, _, rfl, rfl, ?_⟩
      exact ⟨by rw [sp_de, if_pos b2], rfl⟩
  · exact absurd b1 (by decide)
end ZCSH
