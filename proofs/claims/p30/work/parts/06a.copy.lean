/-! THE CLASS: copies of shops and states -/
abbrev zShL (b : Nat) : Prop := b + 21 ≤ 470 ∧ zE.2.1 b = (0, 4) ∧ zE.2.1 (b + 1) = (4, 6) ∧ zE.2.1 (b + 2) = (1, 12) ∧ zE.2.1 (b + 3) = (1, 4) ∧ zE.2.1 (b + 4) = (5, 10) ∧ (∀ w, w < 6 → zE.2.1 (b + 5 + w) = (0, 6)) ∧ (∀ c, c < 10 → zE.2.1 (b + 11 + c) = (0, 0)) ∧ zE.2.2 b 0 = some (b + 1) ∧ zE.2.2 b 1 = some (b + 2) ∧ zE.2.2 b 2 = some (b + 3) ∧ zE.2.2 b 3 = some (b + 4) ∧ (∀ w, w < 6 → zE.2.2 (b + 1) w = some (b + 5 + w)) ∧ ∀ c, c < 10 → zE.2.2 (b + 4) c = some (b + 11 + c)
abbrev zStL (B : Nat) : Prop := B + 66 ≤ 470 ∧ zE.2.1 B = (0, 5) ∧ zE.2.1 (B + 22) = (6, 2) ∧ zE.2.1 (B + 23) = (2, 2) ∧ zE.2.2 B 0 = some (B + 1) ∧ zE.2.2 B 1 = some (B + 22) ∧ zE.2.2 B 2 = some (B + 23) ∧ (∀ i, i < 2 → zE.2.2 (B + 22) i = some (B + 24 + 21 * i)) ∧ zShL (B + 1) ∧ ∀ i, i < 2 → zShL (B + 24 + 21 * i)
def zbs : List Nat := [2, 25, 46, 70, 93, 114, 136, 159, 180, 202, 225, 246, 268, 291, 312, 334, 357, 378, 400, 423, 444]
def zBs : List Nat := [1, 69, 135, 201, 267, 333, 399]
theorem zShL_l : ∀ b, b ∈ zbs → zShL b := fun b hb => ⟨(by decide +kernel : ∀ b, b ∈ zbs → b + 21 ≤ 470) b hb,
  (by decide +kernel : ∀ b, b ∈ zbs → zE.2.1 b = (0, 4)) b hb,
  (by decide +kernel : ∀ b, b ∈ zbs → zE.2.1 (b + 1) = (4, 6)) b hb,
  (by decide +kernel : ∀ b, b ∈ zbs → zE.2.1 (b + 2) = (1, 12)) b hb,
  (by decide +kernel : ∀ b, b ∈ zbs → zE.2.1 (b + 3) = (1, 4)) b hb,
  (by decide +kernel : ∀ b, b ∈ zbs → zE.2.1 (b + 4) = (5, 10)) b hb,
  (by decide +kernel : ∀ b, b ∈ zbs → ∀ w, w < 6 → zE.2.1 (b + 5 + w) = (0, 6)) b hb,
  (by decide +kernel : ∀ b, b ∈ zbs → ∀ c, c < 10 → zE.2.1 (b + 11 + c) = (0, 0)) b hb,
  (by decide +kernel : ∀ b, b ∈ zbs → zE.2.2 b 0 = some (b + 1)) b hb,
  (by decide +kernel : ∀ b, b ∈ zbs → zE.2.2 b 1 = some (b + 2)) b hb,
  (by decide +kernel : ∀ b, b ∈ zbs → zE.2.2 b 2 = some (b + 3)) b hb,
  (by decide +kernel : ∀ b, b ∈ zbs → zE.2.2 b 3 = some (b + 4)) b hb,
  (by decide +kernel : ∀ b, b ∈ zbs → ∀ w, w < 6 → zE.2.2 (b + 1) w = some (b + 5 + w)) b hb,
  (by decide +kernel : ∀ b, b ∈ zbs → ∀ c, c < 10 → zE.2.2 (b + 4) c = some (b + 11 + c)) b hb⟩
theorem zStL_l : ∀ B, B ∈ zBs → zStL B := fun B hB => ⟨(by decide +kernel : ∀ B, B ∈ zBs → B + 66 ≤ 470) B hB,
  (by decide +kernel : ∀ B, B ∈ zBs → zE.2.1 B = (0, 5)) B hB,
  (by decide +kernel : ∀ B, B ∈ zBs → zE.2.1 (B + 22) = (6, 2)) B hB,
  (by decide +kernel : ∀ B, B ∈ zBs → zE.2.1 (B + 23) = (2, 2)) B hB,
  (by decide +kernel : ∀ B, B ∈ zBs → zE.2.2 B 0 = some (B + 1)) B hB,
  (by decide +kernel : ∀ B, B ∈ zBs → zE.2.2 B 1 = some (B + 22)) B hB,
  (by decide +kernel : ∀ B, B ∈ zBs → zE.2.2 B 2 = some (B + 23)) B hB,
  (by decide +kernel : ∀ B, B ∈ zBs → ∀ i, i < 2 → zE.2.2 (B + 22) i = some (B + 24 + 21 * i)) B hB,
  zShL_l _ ((by decide +kernel : ∀ B, B ∈ zBs → B + 1 ∈ zbs) B hB), fun i hi => zShL_l _ ((by decide +kernel : ∀ B, B ∈ zBs → ∀ i, i < 2 → B + 24 + 21 * i ∈ zbs) B hB i hi)⟩
theorem zStL_1 : zStL 1 := zStL_l 1 (by decide)
theorem zStL_r (i : Nat) (h : i < 6) : zStL (69 + 66 * i) := zStL_l _ ((by decide +kernel : ∀ i, i < 6 → 69 + 66 * i ∈ zBs) i h)
/-- the places of a shop that say something -/
abbrev vv (r j : Nat) : Prop := (r = 0 ∧ 4 ≤ j ∧ j < 8) ∨ (r = 2 ∧ j < 12) ∨ (r = 3 ∧ j < 4) ∨ (5 ≤ r ∧ r < 11 ∧ j < 2) ∨ (11 ≤ r ∧ r < 21 ∧ j < 8)
/-- the shop at b was copied from that at b' -/
def zCp (im im' : ZI) (b b' : Nat) : Prop := (∀ r j, vv r j → im' (b + r) j = im (b' + r) j) ∧ ∀ q, (q < b ∨ b + 21 ≤ q) → im' q = im q
def zPt (im im1 : ZI) (b b' a e m : Nat) : Prop := (∀ r j, a ≤ r → r < e → j < m → im1 (b + r) j = im (b' + r) j) ∧ ∀ q, (q < b + a ∨ b + e ≤ q) → im1 q = im q
theorem zPt_0 (im : ZI) (b b' a m : Nat) : zPt im im b b' a a m := ⟨fun r j h1 h2 _ => absurd h1 (by omega), fun _ _ => rfl⟩
theorem zPt_s {im im1 im2 : ZI} {b b' a e m : Nat} (h : zPt im im1 b b' a e m) (hb : b + 21 ≤ b' ∨ b' + 21 ≤ b) (ha : a ≤ e) (he : e < 21) (h1 : ∀ j, j < m → im2 (b + e) j = im1 (b' + e) j) (h2 : ∀ q, q ≠ b + e → im2 q = im1 q) : zPt im im2 b b' a (e + 1) m := by
  refine ⟨fun r j r1 r2 r3 => ?_, fun q hq => ?_⟩
  · by_cases hr : r = e
    · rw [hr, h1 j r3, h.2 (b' + e) (by omega)]
    · rw [h2 _ (by omega)]
      exact h.1 r j r1 (by omega) r3
  · rw [h2 q (by omega)]
    exact h.2 q (by omega)
section ZCPY
variable {G : ZG} {l : Launch}
theorem cx_wallCopy (p q : Nat) (im : ZI) (hp : p < 470) (hq : q < 470) (hpk : zE.2.1 p = (0, 6)) (hqk : zE.2.1 q = (0, 6)) (hne : p ≠ q) : zz_OV G l 0 mX6_copyFrom [.ref p, .ref q] zE im (fun im' => (∀ j, j < 2 → im' p j = im q j) ∧ ∀ k, k ≠ p → im' k = im k) := by
  refine zz_intro (isI := false) (by decide) rfl (Nat.le_of_ble_eq_true rfl) (fun h => by cases h) (fun w S => ?_)
  refine zz_aload_0 S dX6_copyFrom_0 (q := 1) rfl ?_
  refine zz_aload_1 S dX6_copyFrom_1 (q := 2) rfl ?_
  refine zz_getI S fX6_10 rfl hq hqk dX6_copyFrom_2 (q := 5) rfl ?_
  refine zz_putI S fX6_10 rfl rfl hp hpk dX6_copyFrom_5 (q := 8) rfl ?_
  refine zz_aload_0 S dX6_copyFrom_8 (q := 9) rfl ?_
  refine zz_aload_1 S dX6_copyFrom_9 (q := 10) rfl ?_
  refine zz_getI S fX6_16 rfl hq hqk dX6_copyFrom_10 (q := 13) rfl ?_
  refine zz_putI S fX6_16 rfl rfl hp hpk dX6_copyFrom_13 (q := 16) rfl ?_
  -- at 16: return_ 
  refine zz_vret S dX6_copyFrom_16 ⟨rfl, rfl, rfl, ?_⟩
  refine ⟨fun j hj => ?_, fun k hk => by rw [zz_u_off _ _ _ _ hk, zz_u_off _ _ _ _ hk]⟩
  rcases (show j = 0 ∨ j = 1 by omega) with rfl | rfl
  · rw [zz_u_n _ _ (Or.inr (by decide)), zz_u_e]
  · rw [zz_u_e, zz_u_off _ _ _ _ (Ne.symm hne)]
set_option maxHeartbeats 1000000 in
theorem cx_comCopy (p q : Nat) (im : ZI) (hp : p < 470) (hq : q < 470) (hpk : zE.2.1 p = (0, 0)) (hqk : zE.2.1 q = (0, 0)) (hne : p ≠ q) : zz_OV G l 0 mX0_copyFrom [.ref p, .ref q] zE im (fun im' => (∀ j, j < 8 → im' p j = im q j) ∧ ∀ k, k ≠ p → im' k = im k) := by
  have hne' := Ne.symm hne
  refine zz_intro (isI := false) (by decide) rfl (Nat.le_of_ble_eq_true rfl) (fun h => by cases h) (fun w S => ?_)
  refine zz_aload_0 S dX0_copyFrom_0 (q := 1) rfl ?_
  refine zz_aload_1 S dX0_copyFrom_1 (q := 2) rfl ?_
  refine zz_getI S fX0_9 rfl hq hqk dX0_copyFrom_2 (q := 5) rfl ?_
  refine zz_putI S fX0_9 rfl rfl hp hpk dX0_copyFrom_5 (q := 8) rfl ?_
  refine zz_aload_0 S dX0_copyFrom_8 (q := 9) rfl ?_
  refine zz_aload_1 S dX0_copyFrom_9 (q := 10) rfl ?_
  refine zz_getI S fX0_15 rfl hq hqk dX0_copyFrom_10 (q := 13) rfl ?_
  refine zz_putI S fX0_15 rfl rfl hp hpk dX0_copyFrom_13 (q := 16) rfl ?_
  refine zz_aload_0 S dX0_copyFrom_16 (q := 17) rfl ?_
  refine zz_aload_1 S dX0_copyFrom_17 (q := 18) rfl ?_
  refine zz_getI S fX0_18 rfl hq hqk dX0_copyFrom_18 (q := 21) rfl ?_
  refine zz_putI S fX0_18 rfl rfl hp hpk dX0_copyFrom_21 (q := 24) rfl ?_
  refine zz_aload_0 S dX0_copyFrom_24 (q := 25) rfl ?_
  refine zz_aload_1 S dX0_copyFrom_25 (q := 26) rfl ?_
  refine zz_getI S fX0_21 rfl hq hqk dX0_copyFrom_26 (q := 29) rfl ?_
  refine zz_putI S fX0_21 rfl rfl hp hpk dX0_copyFrom_29 (q := 32) rfl ?_
  refine zz_aload_0 S dX0_copyFrom_32 (q := 33) rfl ?_
  refine zz_aload_1 S dX0_copyFrom_33 (q := 34) rfl ?_
  refine zz_getI S fX0_24 rfl hq hqk dX0_copyFrom_34 (q := 37) rfl ?_
  refine zz_putI S fX0_24 rfl rfl hp hpk dX0_copyFrom_37 (q := 40) rfl ?_
  refine zz_aload_0 S dX0_copyFrom_40 (q := 41) rfl ?_
  refine zz_aload_1 S dX0_copyFrom_41 (q := 42) rfl ?_
  refine zz_getI S fX0_27 rfl hq hqk dX0_copyFrom_42 (q := 45) rfl ?_
  refine zz_putI S fX0_27 rfl rfl hp hpk dX0_copyFrom_45 (q := 48) rfl ?_
  refine zz_aload_0 S dX0_copyFrom_48 (q := 49) rfl ?_
  refine zz_aload_1 S dX0_copyFrom_49 (q := 50) rfl ?_
  refine zz_getI S fX0_30 rfl hq hqk dX0_copyFrom_50 (q := 53) rfl ?_
  refine zz_putI S fX0_30 rfl rfl hp hpk dX0_copyFrom_53 (q := 56) rfl ?_
  refine zz_aload_0 S dX0_copyFrom_56 (q := 57) rfl ?_
  refine zz_aload_1 S dX0_copyFrom_57 (q := 58) rfl ?_
  refine zz_getI S fX0_33 rfl hq hqk dX0_copyFrom_58 (q := 61) rfl ?_
  refine zz_putI S fX0_33 rfl rfl hp hpk dX0_copyFrom_61 (q := 64) rfl ?_
  -- at 64: return_ 
  refine zz_vret S dX0_copyFrom_64 ⟨rfl, rfl, rfl, ?_⟩
  refine ⟨fun j hj => ?_, fun k hk => ?_⟩
  · rcases (show j = 0 ∨ j = 1 ∨ j = 2 ∨ j = 3 ∨ j = 4 ∨ j = 5 ∨ j = 6 ∨ j = 7 by omega) with rfl | rfl | rfl | rfl | rfl | rfl | rfl | rfl
    all_goals simp [zz_u, hne']
  · funext j
    simp [zz_u, hk]
set_option maxHeartbeats 4000000 in
theorem lo_shopCopy1 {n0 mcT msT : Nat} {isI : Bool} {Qf : Option Value → ZE → ZI → Prop} {w : Nat → ZL → List Value → Nat → ZE → ZI → Prop} {z b b' : Nat} {im : ZI} (S : zz_S G l RX4 cX4_copyFrom 3 1 n0 mcT msT isI none Qf w)
    (hL : zShL b) (hL' : zShL b') (hb : b + 21 ≤ b' ∨ b' + 21 ≤ b) (hQ : ∀ im' x, zPt im im' b b' 5 11 2 → w 29 [some (.ref b), some (.ref b'), some (.int x)] [] z zE im') :
    ∀ (n k : Nat) (x : Int32) (im1 : ZI), k + n = 6 → x = nI k → zPt im im1 b b' 5 (5 + k) 2 → w 2 [some (.ref b), some (.ref b'), some (.int x)] [] z zE im1 := by
  obtain ⟨l1, l2, l3, l4, l5, l6, l7, l8, l9, l10, l11, l12, l13, l14⟩ := hL
  obtain ⟨m1, m2, m3, m4, m5, m6, m7, m8, m9, m10, m11, m12, m13, m14⟩ := hL'
  have hbE : b < 470 := by omega
  have hbE' : b' < 470 := by omega
  intro n
  induction n with
  | zero =>
    intro k x im1 hk hx hP
    have hk : k = 6 := by omega
    subst hk
    refine zz_iload_2 S dX4_copyFrom_2 (q := 3) rfl ?_
    refine zz_bipush S (v := 6) rfl dX4_copyFrom_3 (q := 5) rfl ?_
    refine zz_icmp_ge S dX4_copyFrom_5 (t := 29) (by decide) (q := 8) rfl (fun a1 => ?_) (fun a1 => ?_)
    -- then 29 else 8
    · exact hQ im1 x hP
    · exact absurd (by rw [hx]; decide) a1
  | succ n ih =>
    intro k x im1 hk hx hP
    refine zz_iload_2 S dX4_copyFrom_2 (q := 3) rfl ?_
    refine zz_bipush S (v := 6) rfl dX4_copyFrom_3 (q := 5) rfl ?_
    refine zz_icmp_ge S dX4_copyFrom_5 (t := 29) (by decide) (q := 8) rfl (fun a1 => ?_) (fun a1 => ?_)
    -- then 29 else 8
    · exact absurd a1 (by rw [hx]; exact nI_ge (b := 6) (by omega) (by omega))
    · refine zz_aload_0 S dX4_copyFrom_8 (q := 9) rfl ?_
      refine zz_getR S fX4_11 rfl hbE l2 l9 dX4_copyFrom_9 (q := 12) rfl ?_
      refine zz_iload_2 S dX4_copyFrom_12 (q := 13) rfl ?_
      refine zz_aaN S (j := k) (show b + 1 < 470 by omega) l3 ⟨Nat.le_of_ble_eq_true rfl, Nat.le_of_ble_eq_true rfl⟩ (Nat.le_of_ble_eq_true rfl) hx (by omega) (l13 k (by omega)) dX4_copyFrom_13 (q := 14) rfl ?_
      refine zz_aload_1 S dX4_copyFrom_14 (q := 15) rfl ?_
      refine zz_getR S fX4_11 rfl hbE' m2 m9 dX4_copyFrom_15 (q := 18) rfl ?_
      refine zz_iload_2 S dX4_copyFrom_18 (q := 19) rfl ?_
      refine zz_aaN S (j := k) (show b' + 1 < 470 by omega) m3 ⟨Nat.le_of_ble_eq_true rfl, Nat.le_of_ble_eq_true rfl⟩ (Nat.le_of_ble_eq_true rfl) hx (by omega) (m13 k (by omega)) dX4_copyFrom_19 (q := 20) rfl ?_
      -- at 20: invokevirtual 35
      refine zz_virtV S yy_X6_copyFrom lX4_35 (ci := 6) (by decide) rfl (cx_wallCopy (b + 5 + k) (b' + 5 + k) im1 (by omega) (by omega) (l7 k (by omega)) (m7 k (by omega)) (by omega)) rfl (Nat.le_of_ble_eq_true rfl) (show b + 5 + k < 470 by omega) (l7 k (by omega)) (Nat.le_of_ble_eq_true rfl) rfl dX4_copyFrom_20 (q := 23) rfl ?_
      rintro im2 ⟨h1, h2⟩
      refine zz_iinc_2 S rfl dX4_copyFrom_23 (q := 26) rfl ?_
      refine zz_goto S dX4_copyFrom_26 (t := 2) (by decide) ?_
      -- at 2
      refine ih (k + 1) _ im2 (by omega) (by rw [hx]; exact nI_1 k) ?_
      refine zPt_s (e := 5 + k) hP hb (by omega) (by omega) (fun j hj => ?_) (fun q hq => h2 q (by omega))
      rw [← Nat.add_assoc, ← Nat.add_assoc]
      exact h1 j hj
set_option maxHeartbeats 4000000 in
theorem lo_shopCopy2 {n0 mcT msT : Nat} {isI : Bool} {Qf : Option Value → ZE → ZI → Prop} {w : Nat → ZL → List Value → Nat → ZE → ZI → Prop} {z b b' : Nat} {im : ZI} (S : zz_S G l RX4 cX4_copyFrom 3 1 n0 mcT msT isI none Qf w)
    (hL : zShL b) (hL' : zShL b') (hb : b + 21 ≤ b' ∨ b' + 21 ≤ b) (hQ : ∀ im' x, zPt im im' b b' 11 21 8 → w 58 [some (.ref b), some (.ref b'), some (.int x)] [] z zE im') :
    ∀ (n k : Nat) (x : Int32) (im1 : ZI), k + n = 10 → x = nI k → zPt im im1 b b' 11 (11 + k) 8 → w 31 [some (.ref b), some (.ref b'), some (.int x)] [] z zE im1 := by
  obtain ⟨l1, l2, l3, l4, l5, l6, l7, l8, l9, l10, l11, l12, l13, l14⟩ := hL
  obtain ⟨m1, m2, m3, m4, m5, m6, m7, m8, m9, m10, m11, m12, m13, m14⟩ := hL'
  have hbE : b < 470 := by omega
  have hbE' : b' < 470 := by omega
  intro n
  induction n with
  | zero =>
    intro k x im1 hk hx hP
    have hk : k = 10 := by omega
    subst hk
    refine zz_iload_2 S dX4_copyFrom_31 (q := 32) rfl ?_
    refine zz_bipush S (v := 10) rfl dX4_copyFrom_32 (q := 34) rfl ?_
    refine zz_icmp_ge S dX4_copyFrom_34 (t := 58) (by decide) (q := 37) rfl (fun a1 => ?_) (fun a1 => ?_)
    -- then 58 else 37
    · exact hQ im1 x hP
    · exact absurd (by rw [hx]; decide) a1
  | succ n ih =>
    intro k x im1 hk hx hP
    refine zz_iload_2 S dX4_copyFrom_31 (q := 32) rfl ?_
    refine zz_bipush S (v := 10) rfl dX4_copyFrom_32 (q := 34) rfl ?_
    refine zz_icmp_ge S dX4_copyFrom_34 (t := 58) (by decide) (q := 37) rfl (fun a1 => ?_) (fun a1 => ?_)
    -- then 58 else 37
    · exact absurd a1 (by rw [hx]; exact nI_ge (b := 10) (by omega) (by omega))
    · refine zz_aload_0 S dX4_copyFrom_37 (q := 38) rfl ?_
      refine zz_getR S fX4_26 rfl hbE l2 l12 dX4_copyFrom_38 (q := 41) rfl ?_
      refine zz_iload_2 S dX4_copyFrom_41 (q := 42) rfl ?_
      refine zz_aaN S (j := k) (show b + 4 < 470 by omega) l6 ⟨Nat.le_of_ble_eq_true rfl, Nat.le_of_ble_eq_true rfl⟩ (Nat.le_of_ble_eq_true rfl) hx (by omega) (l14 k (by omega)) dX4_copyFrom_42 (q := 43) rfl ?_
      refine zz_aload_1 S dX4_copyFrom_43 (q := 44) rfl ?_
      refine zz_getR S fX4_26 rfl hbE' m2 m12 dX4_copyFrom_44 (q := 47) rfl ?_
      refine zz_iload_2 S dX4_copyFrom_47 (q := 48) rfl ?_
      refine zz_aaN S (j := k) (show b' + 4 < 470 by omega) m6 ⟨Nat.le_of_ble_eq_true rfl, Nat.le_of_ble_eq_true rfl⟩ (Nat.le_of_ble_eq_true rfl) hx (by omega) (m14 k (by omega)) dX4_copyFrom_48 (q := 49) rfl ?_
      -- at 49: invokevirtual 39
      refine zz_virtV S yy_X0_copyFrom lX4_39 (ci := 0) (by decide) rfl (cx_comCopy (b + 11 + k) (b' + 11 + k) im1 (by omega) (by omega) (l8 k (by omega)) (m8 k (by omega)) (by omega)) rfl (Nat.le_of_ble_eq_true rfl) (show b + 11 + k < 470 by omega) (l8 k (by omega)) (Nat.le_of_ble_eq_true rfl) rfl dX4_copyFrom_49 (q := 52) rfl ?_
      rintro im2 ⟨h1, h2⟩
      refine zz_iinc_2 S rfl dX4_copyFrom_52 (q := 55) rfl ?_
      refine zz_goto S dX4_copyFrom_55 (t := 31) (by decide) ?_
      -- at 31
      refine ih (k + 1) _ im2 (by omega) (by rw [hx]; exact nI_1 k) ?_
      refine zPt_s (e := 11 + k) hP hb (by omega) (by omega) (fun j hj => ?_) (fun q hq => h2 q (by omega))
      rw [← Nat.add_assoc, ← Nat.add_assoc]
      exact h1 j hj
theorem zz_cp_e (im : ZI) (a b n : Nat) {j : Nat} (h : j < n) : zz_cp im a b 0 0 n b j = im a j := by
  unfold zz_cp va_cpy
  rw [if_pos rfl, if_pos (by omega)]
  congr 1
  omega
theorem zz_cp_off (im : ZI) (a b n : Nat) {q : Nat} (h : q ≠ b) : zz_cp im a b 0 0 n q = im q := if_neg h
set_option maxHeartbeats 4000000 in
theorem cx_shopCopy (b b' : Nat) (im : ZI) (hL : zShL b) (hL' : zShL b') (hb : b + 21 ≤ b' ∨ b' + 21 ≤ b) : zz_OV G l 1 mX4_copyFrom [.ref b, .ref b'] zE im (fun im' => zCp im im' b b') := by
  have hL0 := hL
  have hL0' := hL'
  obtain ⟨l1, l2, l3, l4, l5, l6, l7, l8, l9, l10, l11, l12, l13, l14⟩ := hL
  obtain ⟨m1, m2, m3, m4, m5, m6, m7, m8, m9, m10, m11, m12, m13, m14⟩ := hL'
  have hbE : b < 470 := by omega
  have hbE' : b' < 470 := by omega
  refine zz_intro (isI := false) (by decide) rfl (Nat.le_of_ble_eq_true rfl) (fun h => by cases h) (fun w S => ?_)
  refine zz_iconst S (v := 0) rfl dX4_copyFrom_0 (q := 1) rfl ?_
  refine zz_istore_2 S rfl dX4_copyFrom_1 (q := 2) rfl ?_
  -- at 2
  refine lo_shopCopy1 (im := im) S hL0 hL0' hb (fun im1 x1 hP1 => ?_) 6 0 0 im (by omega) rfl (zPt_0 _ _ _ _ _)
  refine zz_iconst S (v := 0) rfl dX4_copyFrom_29 (q := 30) rfl ?_
  refine zz_istore_2 S rfl dX4_copyFrom_30 (q := 31) rfl ?_
  -- at 31
  refine lo_shopCopy2 (im := im1) S hL0 hL0' hb (fun im2 x2 hP2 => ?_) 10 0 0 im1 (by omega) rfl (zPt_0 _ _ _ _ _)
  refine zz_aload_1 S dX4_copyFrom_58 (q := 59) rfl ?_
  refine zz_getR S fX4_17 rfl hbE' m2 m10 dX4_copyFrom_59 (q := 62) rfl ?_
  refine zz_iconst S (v := 0) rfl dX4_copyFrom_62 (q := 63) rfl ?_
  refine zz_aload_0 S dX4_copyFrom_63 (q := 64) rfl ?_
  refine zz_getR S fX4_17 rfl hbE l2 l10 dX4_copyFrom_64 (q := 67) rfl ?_
  refine zz_iconst S (v := 0) rfl dX4_copyFrom_67 (q := 68) rfl ?_
  refine zz_bipush S (v := 12) rfl dX4_copyFrom_68 (q := 70) rfl ?_
  -- at 70: invokestatic 42
  refine zz_copy S lX4_42 ⟨n_acNa, n_acSt, n_SysIni⟩ (Nat.le_of_ble_eq_true rfl) (Nat.le_of_ble_eq_true rfl) (show b' + 2 < 470 by omega) (show b + 2 < 470 by omega) m4 l4 (by decide) (by decide) (by decide) (by decide) (by decide) dX4_copyFrom_70 (q := 73) rfl ?_
  refine zz_aload_1 S dX4_copyFrom_73 (q := 74) rfl ?_
  refine zz_getR S fX4_21 rfl hbE' m2 m11 dX4_copyFrom_74 (q := 77) rfl ?_
  refine zz_iconst S (v := 0) rfl dX4_copyFrom_77 (q := 78) rfl ?_
  refine zz_aload_0 S dX4_copyFrom_78 (q := 79) rfl ?_
  refine zz_getR S fX4_21 rfl hbE l2 l11 dX4_copyFrom_79 (q := 82) rfl ?_
  refine zz_iconst S (v := 0) rfl dX4_copyFrom_82 (q := 83) rfl ?_
  refine zz_iconst S (v := 4) rfl dX4_copyFrom_83 (q := 84) rfl ?_
  -- at 84: invokestatic 42
  refine zz_copy S lX4_42 ⟨n_acNa, n_acSt, n_SysIni⟩ (Nat.le_of_ble_eq_true rfl) (Nat.le_of_ble_eq_true rfl) (show b' + 3 < 470 by omega) (show b + 3 < 470 by omega) m5 l5 (by decide) (by decide) (by decide) (by decide) (by decide) dX4_copyFrom_84 (q := 87) rfl ?_
  refine zz_aload_0 S dX4_copyFrom_87 (q := 88) rfl ?_
  refine zz_aload_1 S dX4_copyFrom_88 (q := 89) rfl ?_
  refine zz_getI S fX4_48 rfl hbE' m2 dX4_copyFrom_89 (q := 92) rfl ?_
  refine zz_putI S fX4_48 rfl rfl hbE l2 dX4_copyFrom_92 (q := 95) rfl ?_
  refine zz_aload_0 S dX4_copyFrom_95 (q := 96) rfl ?_
  refine zz_aload_1 S dX4_copyFrom_96 (q := 97) rfl ?_
  refine zz_getI S fX4_52 rfl hbE' m2 dX4_copyFrom_97 (q := 100) rfl ?_
  refine zz_putI S fX4_52 rfl rfl hbE l2 dX4_copyFrom_100 (q := 103) rfl ?_
  refine zz_aload_0 S dX4_copyFrom_103 (q := 104) rfl ?_
  refine zz_aload_1 S dX4_copyFrom_104 (q := 105) rfl ?_
  refine zz_getI S fX4_55 rfl hbE' m2 dX4_copyFrom_105 (q := 108) rfl ?_
  refine zz_putI S fX4_55 rfl rfl hbE l2 dX4_copyFrom_108 (q := 111) rfl ?_
  refine zz_aload_0 S dX4_copyFrom_111 (q := 112) rfl ?_
  refine zz_aload_1 S dX4_copyFrom_112 (q := 113) rfl ?_
  refine zz_getI S fX4_58 rfl hbE' m2 dX4_copyFrom_113 (q := 116) rfl ?_
  refine zz_putI S fX4_58 rfl rfl hbE l2 dX4_copyFrom_116 (q := 119) rfl ?_
  -- at 119: return_ 
  refine zz_vret S dX4_copyFrom_119 ⟨rfl, rfl, rfl, ?_⟩
  have e12 : (12 : Int32).toNatClampNeg = 12 := rfl
  have e4 : (4 : Int32).toNatClampNeg = 4 := rfl
  have e0 : (0 : Int32).toNatClampNeg = 0 := rfl
  rw [e12, e4, e0]
  have o : ∀ q, (q < b ∨ b + 21 ≤ q) → im2 q = im q := fun q hq => by rw [hP2.2 q (by omega), hP1.2 q (by omega)]
  refine ⟨fun r j hv => ?_, fun q hq => ?_⟩
  · rcases hv with ⟨rfl, h1, h2⟩ | ⟨rfl, h1⟩ | ⟨rfl, h1⟩ | ⟨h1, h2, h3⟩ | ⟨h1, h2, h3⟩
    · have o2 : ∀ q, (q < b ∨ b + 21 ≤ q) → (zz_cp (zz_cp im2 (b' + 2) (b + 2) 0 0 12) (b' + 3) (b + 3) 0 0 4) q = im q := fun q hq => by rw [zz_cp_off _ _ _ _ (by omega), zz_cp_off _ _ _ _ (by omega)]; exact o q hq
      have ob := o2 b' (by omega)
      generalize zz_cp (zz_cp im2 (b' + 2) (b + 2) 0 0 12) (b' + 3) (b + 3) 0 0 4 = im3 at ob ⊢
      have hne : b' ≠ b := by omega
      rw [Nat.add_zero, Nat.add_zero, ← ob]
      rcases (show j = 4 ∨ j = 5 ∨ j = 6 ∨ j = 7 by omega) with rfl | rfl | rfl | rfl
      all_goals simp [zz_u, hne]
    · rw [zz_u_off _ _ _ _ (by omega), zz_u_off _ _ _ _ (by omega), zz_u_off _ _ _ _ (by omega), zz_u_off _ _ _ _ (by omega), zz_cp_off _ _ _ _ (by omega), zz_cp_e _ _ _ _ h1, o _ (by omega)]
    · rw [zz_u_off _ _ _ _ (by omega), zz_u_off _ _ _ _ (by omega), zz_u_off _ _ _ _ (by omega), zz_u_off _ _ _ _ (by omega), zz_cp_e _ _ _ _ h1, zz_cp_off _ _ _ _ (by omega), o _ (by omega)]
    · rw [zz_u_off _ _ _ _ (by omega), zz_u_off _ _ _ _ (by omega), zz_u_off _ _ _ _ (by omega), zz_u_off _ _ _ _ (by omega), zz_cp_off _ _ _ _ (by omega), zz_cp_off _ _ _ _ (by omega), hP2.2 _ (by omega)]
      exact hP1.1 r j h1 h2 h3
    · rw [zz_u_off _ _ _ _ (by omega), zz_u_off _ _ _ _ (by omega), zz_u_off _ _ _ _ (by omega), zz_u_off _ _ _ _ (by omega), zz_cp_off _ _ _ _ (by omega), zz_cp_off _ _ _ _ (by omega), hP2.1 r j h1 h2 h3, hP1.2 _ (by omega)]
  · rw [zz_u_off _ _ _ _ (by omega), zz_u_off _ _ _ _ (by omega), zz_u_off _ _ _ _ (by omega), zz_u_off _ _ _ _ (by omega), zz_cp_off _ _ _ _ (by omega), zz_cp_off _ _ _ _ (by omega)]
    exact o q hq
end ZCPY
