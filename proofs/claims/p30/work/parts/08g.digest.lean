/-! THE LAW: digest -/
def dgF (g : Nat → Int32) : Nat → Nat → Int64 → Int64
  | 0, _, m => m
  | n + 1, k, m => dgF g n (k + 1) (31 * m + (g k).toInt64)
def dg (s : ZSt) (nw nc : Nat) : Int64 :=
  dgF (fun k => ol_count s 0 0 nw nc (nI k)) 4 13 (dgF (fun k => ol_corr s (nI k)) 12 0 (dgF (fun k => ol_comm s (nI k / 9) (nI k - nI k / 9 * 9)) (9 * nc) 0 (dgF (fun k => ol_wall s nc (nI k / 4) (nI k - nI k / 4 * 4)) (4 * nw) 0 (dgF (fun k => ol_count s 0 0 nw nc (nI k)) 11 0 7))))
theorem zn_ge {a b : Nat} (ha : a < 2 ^ 31) (hb : b < 2 ^ 31) : nI a ≥ nI b ↔ b ≤ a := by
  rw [ge_iff_le, Int32.le_iff_toInt_le, nI_toInt ha, nI_toInt hb]
  omega
theorem zn_mul {a b : Nat} (h : a * b < 2 ^ 31) (ha : a < 2 ^ 31) (hb : b < 2 ^ 31) : nI a * nI b = nI (a * b) := (Int32.ofNat_mul a b).symm
section ZDIG
variable {G : ZG} {l : Launch} {n0 mcT msT : Nat} {isI : Bool} {Qf : Option Value → ZE → ZI → Prop} {w : Nat → ZL → List Value → Nat → ZE → ZI → Prop} {z n nw nc : Nat} {h : Nat → ZSt} {s : ZSt}
set_option maxHeartbeats 2000000 in
theorem lo_dg1 (S : zz_S G l RL cL_digest 4 5 n0 mcT msT isI (some .long) Qf w) (hN : 11 ≤ 11) (R : Int64)
    (K : ∀ im' : ZI, zY im' s n h nw nc → w 31 [some (.ref 0), some (.long R), none, some (.int (nI (11)))] [] z zE im') :
    ∀ (m k : Nat) (x : Int32) (hh : Int64) (im : ZI), k + m = 11 ∧ 0 ≤ k → x = nI k → zY im s n h nw nc → dgF (fun k => ol_count s 0 0 nw nc (nI k)) m k hh = R → w 6 [some (.ref 0), some (.long hh), none, some (.int x)] [] z zE im := by
  intro m
  induction m with
  | zero =>
    intro k x hh im hk hx hY hR
    have hk : k = 11 := by omega
    subst hk
    subst hx
    have hR : hh = R := hR
    subst hR
    refine zz_iload_3 S dL_digest_6 (q := 7) rfl ?_
    refine zz_bipush S (v := 11) rfl dL_digest_7 (q := 9) rfl ?_
    refine zz_icmp_ge S dL_digest_9 (t := 31) (by decide) (q := 12) rfl (fun a1 => ?_) (fun a1 => ?_)
    -- then 31 else 12
    · exact K _ hY
    · exact absurd ((zn_ge (a := 11) (b := 11) (by omega) (by omega)).mpr (Nat.le_refl _)) a1
  | succ m ih =>
    intro k x hh im hk hx hY hR
    subst hx
    refine zz_iload_3 S dL_digest_6 (q := 7) rfl ?_
    refine zz_bipush S (v := 11) rfl dL_digest_7 (q := 9) rfl ?_
    refine zz_icmp_ge S dL_digest_9 (t := 31) (by decide) (q := 12) rfl (fun a1 => ?_) (fun a1 => ?_)
    -- then 31 else 12
    · exact absurd ((zn_ge (a := k) (b := 11) (by omega) (by omega)).mp a1) (by omega)
    · refine zz_ldc2 S (v := 31) kL_10 dL_digest_12 (q := 15) rfl ?_
      refine zz_lload_1 S dL_digest_15 (q := 16) rfl ?_
      refine zz_lmul S dL_digest_16 (q := 17) rfl ?_
      refine zz_aload_0 S dL_digest_17 (q := 18) rfl ?_
      refine zz_iload_3 S dL_digest_18 (q := 19) rfl ?_
      refine zz_virtI S yy_X7_count lL_12 (ci := 7) (by decide) rfl (lk_count (nI k) hY) rfl (Nat.le_of_ble_eq_true rfl) (Nat.le_of_ble_eq_true rfl) rfl (Nat.le_of_ble_eq_true rfl) rfl dL_digest_19 (q := 22) rfl (fun r19 i19 q19 => ?_)
      refine zz_i2l S dL_digest_22 (q := 23) rfl ?_
      refine zz_ladd S dL_digest_23 (q := 24) rfl ?_
      refine zz_lstore_1 S rfl dL_digest_24 (q := 25) rfl ?_
      refine zz_iinc_3 S rfl dL_digest_25 (q := 28) rfl ?_
      refine zz_goto S dL_digest_28 (t := 6) (by decide) ?_
      obtain ⟨e9, hY9⟩ := q19
      refine ih (k + 1) _ _ _ ⟨by omega, by omega⟩ (nI_add k 1) hY9 ?_
      rw [← hR, dgF, e9]
      rw [oc_n (fun e => by have e2 := congrArg Int32.toInt e; rw [nI_toInt (by omega), show ((11 : Int32)).toInt = 11 from rfl] at e2; omega)]
set_option maxHeartbeats 2000000 in
theorem lo_dg2 (S : zz_S G l RL cL_digest 4 5 n0 mcT msT isI (some .long) Qf w) (hN : 4 * nw ≤ 24) (R : Int64)
    (K : ∀ im' : ZI, zY im' s n h nw nc → w 68 [some (.ref 0), some (.long R), none, some (.int (nI (4 * nw)))] [] z zE im') :
    ∀ (m k : Nat) (x : Int32) (hh : Int64) (im : ZI), k + m = 4 * nw ∧ 0 ≤ k → x = nI k → zY im s n h nw nc → dgF (fun k => ol_wall s nc (nI k / 4) (nI k - nI k / 4 * 4)) m k hh = R → w 33 [some (.ref 0), some (.long hh), none, some (.int x)] [] z zE im := by
  intro m
  induction m with
  | zero =>
    intro k x hh im hk hx hY hR
    have hk : k = 4 * nw := by omega
    subst hk
    subst hx
    have hR : hh = R := hR
    subst hR
    refine zz_iload_3 S dL_digest_33 (q := 34) rfl ?_
    refine zz_iconst S (v := 4) rfl dL_digest_34 (q := 35) rfl ?_
    refine zz_aload_0 S dL_digest_35 (q := 36) rfl ?_
    refine zz_iconst S (v := 0) rfl dL_digest_36 (q := 37) rfl ?_
    -- at 37: invokevirtual 12
    refine zz_virtI S yy_X7_count lL_12 (ci := 7) (by decide) rfl (lk_count 0 hY) rfl (Nat.le_of_ble_eq_true rfl) (Nat.le_of_ble_eq_true rfl) rfl (Nat.le_of_ble_eq_true rfl) rfl dL_digest_37 (q := 40) rfl ?_
    rintro r1 im1 ⟨e1, hY⟩
    rw [oc_0, hY.2.1.1] at e1
    subst e1
    refine zz_imul S dL_digest_40 (q := 41) rfl ?_
    refine zz_icmp_ge S dL_digest_41 (t := 68) (by decide) (q := 44) rfl (fun a1 => ?_) (fun a1 => ?_)
    -- then 68 else 44
    all_goals rw [show (4 : Int32) * nI nw = nI (4 * nw) from zn_mul (a := 4) (b := nw) (by omega) (by omega) (by omega)] at a1
    · exact K _ hY
    · exact absurd ((zn_ge (a := 4 * nw) (b := 4 * nw) (by omega) (by omega)).mpr (Nat.le_refl _)) a1
  | succ m ih =>
    intro k x hh im hk hx hY hR
    subst hx
    refine zz_iload_3 S dL_digest_33 (q := 34) rfl ?_
    refine zz_iconst S (v := 4) rfl dL_digest_34 (q := 35) rfl ?_
    refine zz_aload_0 S dL_digest_35 (q := 36) rfl ?_
    refine zz_iconst S (v := 0) rfl dL_digest_36 (q := 37) rfl ?_
    -- at 37: invokevirtual 12
    refine zz_virtI S yy_X7_count lL_12 (ci := 7) (by decide) rfl (lk_count 0 hY) rfl (Nat.le_of_ble_eq_true rfl) (Nat.le_of_ble_eq_true rfl) rfl (Nat.le_of_ble_eq_true rfl) rfl dL_digest_37 (q := 40) rfl ?_
    rintro r1 im1 ⟨e1, hY⟩
    rw [oc_0, hY.2.1.1] at e1
    subst e1
    refine zz_imul S dL_digest_40 (q := 41) rfl ?_
    refine zz_icmp_ge S dL_digest_41 (t := 68) (by decide) (q := 44) rfl (fun a1 => ?_) (fun a1 => ?_)
    -- then 68 else 44
    all_goals rw [show (4 : Int32) * nI nw = nI (4 * nw) from zn_mul (a := 4) (b := nw) (by omega) (by omega) (by omega)] at a1
    · exact absurd ((zn_ge (a := k) (b := 4 * nw) (by omega) (by omega)).mp a1) (by omega)
    · refine zz_ldc2 S (v := 31) kL_10 dL_digest_44 (q := 47) rfl ?_
      refine zz_lload_1 S dL_digest_47 (q := 48) rfl ?_
      refine zz_lmul S dL_digest_48 (q := 49) rfl ?_
      refine zz_aload_0 S dL_digest_49 (q := 50) rfl ?_
      refine zz_iload_3 S dL_digest_50 (q := 51) rfl ?_
      refine zz_iconst S (v := 4) rfl dL_digest_51 (q := 52) rfl ?_
      refine zz_idiv S (by decide) dL_digest_52 (q := 53) rfl ?_
      refine zz_iload_3 S dL_digest_53 (q := 54) rfl ?_
      refine zz_iconst S (v := 4) rfl dL_digest_54 (q := 55) rfl ?_
      refine zz_irem S (by decide) dL_digest_55 (q := 56) rfl ?_
      refine zz_virtI S yy_X7_wall lL_18 (ci := 7) (by decide) rfl (lk_wall _ _ hY) rfl (Nat.le_of_ble_eq_true rfl) (Nat.le_of_ble_eq_true rfl) rfl (Nat.le_of_ble_eq_true rfl) rfl dL_digest_56 (q := 59) rfl (fun r56 i56 q56 => ?_)
      refine zz_i2l S dL_digest_59 (q := 60) rfl ?_
      refine zz_ladd S dL_digest_60 (q := 61) rfl ?_
      refine zz_lstore_1 S rfl dL_digest_61 (q := 62) rfl ?_
      refine zz_iinc_3 S rfl dL_digest_62 (q := 65) rfl ?_
      refine zz_goto S dL_digest_65 (t := 33) (by decide) ?_
      obtain ⟨e9, hY9⟩ := q56
      refine ih (k + 1) _ _ _ ⟨by omega, by omega⟩ (nI_add k 1) hY9 ?_
      rw [← hR, dgF, e9]
set_option maxHeartbeats 2000000 in
theorem lo_dg3 (S : zz_S G l RL cL_digest 4 5 n0 mcT msT isI (some .long) Qf w) (hN : 9 * nc ≤ 90) (R : Int64)
    (K : ∀ im' : ZI, zY im' s n h nw nc → w 108 [some (.ref 0), some (.long R), none, some (.int (nI (9 * nc)))] [] z zE im') :
    ∀ (m k : Nat) (x : Int32) (hh : Int64) (im : ZI), k + m = 9 * nc ∧ 0 ≤ k → x = nI k → zY im s n h nw nc → dgF (fun k => ol_comm s (nI k / 9) (nI k - nI k / 9 * 9)) m k hh = R → w 70 [some (.ref 0), some (.long hh), none, some (.int x)] [] z zE im := by
  intro m
  induction m with
  | zero =>
    intro k x hh im hk hx hY hR
    have hk : k = 9 * nc := by omega
    subst hk
    subst hx
    have hR : hh = R := hR
    subst hR
    refine zz_iload_3 S dL_digest_70 (q := 71) rfl ?_
    refine zz_bipush S (v := 9) rfl dL_digest_71 (q := 73) rfl ?_
    refine zz_aload_0 S dL_digest_73 (q := 74) rfl ?_
    refine zz_iconst S (v := 2) rfl dL_digest_74 (q := 75) rfl ?_
    -- at 75: invokevirtual 12
    refine zz_virtI S yy_X7_count lL_12 (ci := 7) (by decide) rfl (lk_count 2 hY) rfl (Nat.le_of_ble_eq_true rfl) (Nat.le_of_ble_eq_true rfl) rfl (Nat.le_of_ble_eq_true rfl) rfl dL_digest_75 (q := 78) rfl ?_
    rintro r1 im1 ⟨e1, hY⟩
    rw [oc_2, hY.2.1.2.2.1] at e1
    subst e1
    refine zz_imul S dL_digest_78 (q := 79) rfl ?_
    refine zz_icmp_ge S dL_digest_79 (t := 108) (by decide) (q := 82) rfl (fun a1 => ?_) (fun a1 => ?_)
    -- then 108 else 82
    all_goals rw [show (9 : Int32) * nI nc = nI (9 * nc) from zn_mul (a := 9) (b := nc) (by omega) (by omega) (by omega)] at a1
    · exact K _ hY
    · exact absurd ((zn_ge (a := 9 * nc) (b := 9 * nc) (by omega) (by omega)).mpr (Nat.le_refl _)) a1
  | succ m ih =>
    intro k x hh im hk hx hY hR
    subst hx
    refine zz_iload_3 S dL_digest_70 (q := 71) rfl ?_
    refine zz_bipush S (v := 9) rfl dL_digest_71 (q := 73) rfl ?_
    refine zz_aload_0 S dL_digest_73 (q := 74) rfl ?_
    refine zz_iconst S (v := 2) rfl dL_digest_74 (q := 75) rfl ?_
    -- at 75: invokevirtual 12
    refine zz_virtI S yy_X7_count lL_12 (ci := 7) (by decide) rfl (lk_count 2 hY) rfl (Nat.le_of_ble_eq_true rfl) (Nat.le_of_ble_eq_true rfl) rfl (Nat.le_of_ble_eq_true rfl) rfl dL_digest_75 (q := 78) rfl ?_
    rintro r1 im1 ⟨e1, hY⟩
    rw [oc_2, hY.2.1.2.2.1] at e1
    subst e1
    refine zz_imul S dL_digest_78 (q := 79) rfl ?_
    refine zz_icmp_ge S dL_digest_79 (t := 108) (by decide) (q := 82) rfl (fun a1 => ?_) (fun a1 => ?_)
    -- then 108 else 82
    all_goals rw [show (9 : Int32) * nI nc = nI (9 * nc) from zn_mul (a := 9) (b := nc) (by omega) (by omega) (by omega)] at a1
    · exact absurd ((zn_ge (a := k) (b := 9 * nc) (by omega) (by omega)).mp a1) (by omega)
    · refine zz_ldc2 S (v := 31) kL_10 dL_digest_82 (q := 85) rfl ?_
      refine zz_lload_1 S dL_digest_85 (q := 86) rfl ?_
      refine zz_lmul S dL_digest_86 (q := 87) rfl ?_
      refine zz_aload_0 S dL_digest_87 (q := 88) rfl ?_
      refine zz_iload_3 S dL_digest_88 (q := 89) rfl ?_
      refine zz_bipush S (v := 9) rfl dL_digest_89 (q := 91) rfl ?_
      refine zz_idiv S (by decide) dL_digest_91 (q := 92) rfl ?_
      refine zz_iload_3 S dL_digest_92 (q := 93) rfl ?_
      refine zz_bipush S (v := 9) rfl dL_digest_93 (q := 95) rfl ?_
      refine zz_irem S (by decide) dL_digest_95 (q := 96) rfl ?_
      refine zz_virtI S yy_X7_commission lL_22 (ci := 7) (by decide) rfl (lk_commission _ _ hY) rfl (Nat.le_of_ble_eq_true rfl) (Nat.le_of_ble_eq_true rfl) rfl (Nat.le_of_ble_eq_true rfl) rfl dL_digest_96 (q := 99) rfl (fun r96 i96 q96 => ?_)
      refine zz_i2l S dL_digest_99 (q := 100) rfl ?_
      refine zz_ladd S dL_digest_100 (q := 101) rfl ?_
      refine zz_lstore_1 S rfl dL_digest_101 (q := 102) rfl ?_
      refine zz_iinc_3 S rfl dL_digest_102 (q := 105) rfl ?_
      refine zz_goto S dL_digest_105 (t := 70) (by decide) ?_
      obtain ⟨e9, hY9⟩ := q96
      refine ih (k + 1) _ _ _ ⟨by omega, by omega⟩ (nI_add k 1) hY9 ?_
      rw [← hR, dgF, e9]
set_option maxHeartbeats 2000000 in
theorem lo_dg4 (S : zz_S G l RL cL_digest 4 5 n0 mcT msT isI (some .long) Qf w) (hN : 12 ≤ 12) (R : Int64)
    (K : ∀ im' : ZI, zY im' s n h nw nc → w 135 [some (.ref 0), some (.long R), none, some (.int (nI (12)))] [] z zE im') :
    ∀ (m k : Nat) (x : Int32) (hh : Int64) (im : ZI), k + m = 12 ∧ 0 ≤ k → x = nI k → zY im s n h nw nc → dgF (fun k => ol_corr s (nI k)) m k hh = R → w 110 [some (.ref 0), some (.long hh), none, some (.int x)] [] z zE im := by
  intro m
  induction m with
  | zero =>
    intro k x hh im hk hx hY hR
    have hk : k = 12 := by omega
    subst hk
    subst hx
    have hR : hh = R := hR
    subst hR
    refine zz_iload_3 S dL_digest_110 (q := 111) rfl ?_
    refine zz_bipush S (v := 12) rfl dL_digest_111 (q := 113) rfl ?_
    refine zz_icmp_ge S dL_digest_113 (t := 135) (by decide) (q := 116) rfl (fun a1 => ?_) (fun a1 => ?_)
    -- then 135 else 116
    · exact K _ hY
    · exact absurd ((zn_ge (a := 12) (b := 12) (by omega) (by omega)).mpr (Nat.le_refl _)) a1
  | succ m ih =>
    intro k x hh im hk hx hY hR
    subst hx
    refine zz_iload_3 S dL_digest_110 (q := 111) rfl ?_
    refine zz_bipush S (v := 12) rfl dL_digest_111 (q := 113) rfl ?_
    refine zz_icmp_ge S dL_digest_113 (t := 135) (by decide) (q := 116) rfl (fun a1 => ?_) (fun a1 => ?_)
    -- then 135 else 116
    · exact absurd ((zn_ge (a := k) (b := 12) (by omega) (by omega)).mp a1) (by omega)
    · refine zz_ldc2 S (v := 31) kL_10 dL_digest_116 (q := 119) rfl ?_
      refine zz_lload_1 S dL_digest_119 (q := 120) rfl ?_
      refine zz_lmul S dL_digest_120 (q := 121) rfl ?_
      refine zz_aload_0 S dL_digest_121 (q := 122) rfl ?_
      refine zz_iload_3 S dL_digest_122 (q := 123) rfl ?_
      refine zz_virtI S yy_X7_correction lL_25 (ci := 7) (by decide) rfl (lk_correction (nI k) hY) rfl (Nat.le_of_ble_eq_true rfl) (Nat.le_of_ble_eq_true rfl) rfl (Nat.le_of_ble_eq_true rfl) rfl dL_digest_123 (q := 126) rfl (fun r123 i123 q123 => ?_)
      refine zz_i2l S dL_digest_126 (q := 127) rfl ?_
      refine zz_ladd S dL_digest_127 (q := 128) rfl ?_
      refine zz_lstore_1 S rfl dL_digest_128 (q := 129) rfl ?_
      refine zz_iinc_3 S rfl dL_digest_129 (q := 132) rfl ?_
      refine zz_goto S dL_digest_132 (t := 110) (by decide) ?_
      obtain ⟨e9, hY9⟩ := q123
      refine ih (k + 1) _ _ _ ⟨by omega, by omega⟩ (nI_add k 1) hY9 ?_
      rw [← hR, dgF, e9]
set_option maxHeartbeats 2000000 in
theorem lo_dg5 (S : zz_S G l RL cL_digest 4 5 n0 mcT msT isI (some .long) Qf w) (hN : 17 ≤ 17) (R : Int64)
    (K : ∀ im' : ZI, zY im' s n h nw nc → w 163 [some (.ref 0), some (.long R), none, some (.int (nI (17)))] [] z zE im') :
    ∀ (m k : Nat) (x : Int32) (hh : Int64) (im : ZI), k + m = 17 ∧ 13 ≤ k → x = nI k → zY im s n h nw nc → dgF (fun k => ol_count s 0 0 nw nc (nI k)) m k hh = R → w 138 [some (.ref 0), some (.long hh), none, some (.int x)] [] z zE im := by
  intro m
  induction m with
  | zero =>
    intro k x hh im hk hx hY hR
    have hk : k = 17 := by omega
    subst hk
    subst hx
    have hR : hh = R := hR
    subst hR
    refine zz_iload_3 S dL_digest_138 (q := 139) rfl ?_
    refine zz_bipush S (v := 17) rfl dL_digest_139 (q := 141) rfl ?_
    refine zz_icmp_ge S dL_digest_141 (t := 163) (by decide) (q := 144) rfl (fun a1 => ?_) (fun a1 => ?_)
    -- then 163 else 144
    · exact K _ hY
    · exact absurd ((zn_ge (a := 17) (b := 17) (by omega) (by omega)).mpr (Nat.le_refl _)) a1
  | succ m ih =>
    intro k x hh im hk hx hY hR
    subst hx
    refine zz_iload_3 S dL_digest_138 (q := 139) rfl ?_
    refine zz_bipush S (v := 17) rfl dL_digest_139 (q := 141) rfl ?_
    refine zz_icmp_ge S dL_digest_141 (t := 163) (by decide) (q := 144) rfl (fun a1 => ?_) (fun a1 => ?_)
    -- then 163 else 144
    · exact absurd ((zn_ge (a := k) (b := 17) (by omega) (by omega)).mp a1) (by omega)
    · refine zz_ldc2 S (v := 31) kL_10 dL_digest_144 (q := 147) rfl ?_
      refine zz_lload_1 S dL_digest_147 (q := 148) rfl ?_
      refine zz_lmul S dL_digest_148 (q := 149) rfl ?_
      refine zz_aload_0 S dL_digest_149 (q := 150) rfl ?_
      refine zz_iload_3 S dL_digest_150 (q := 151) rfl ?_
      refine zz_virtI S yy_X7_count lL_12 (ci := 7) (by decide) rfl (lk_count (nI k) hY) rfl (Nat.le_of_ble_eq_true rfl) (Nat.le_of_ble_eq_true rfl) rfl (Nat.le_of_ble_eq_true rfl) rfl dL_digest_151 (q := 154) rfl (fun r151 i151 q151 => ?_)
      refine zz_i2l S dL_digest_154 (q := 155) rfl ?_
      refine zz_ladd S dL_digest_155 (q := 156) rfl ?_
      refine zz_lstore_1 S rfl dL_digest_156 (q := 157) rfl ?_
      refine zz_iinc_3 S rfl dL_digest_157 (q := 160) rfl ?_
      refine zz_goto S dL_digest_160 (t := 138) (by decide) ?_
      obtain ⟨e9, hY9⟩ := q151
      refine ih (k + 1) _ _ _ ⟨by omega, by omega⟩ (nI_add k 1) hY9 ?_
      rw [← hR, dgF, e9]
      rw [oc_n (fun e => by have e2 := congrArg Int32.toInt e; rw [nI_toInt (by omega), show ((11 : Int32)).toInt = 11 from rfl] at e2; omega)]
end ZDIG
section ZDI2
variable {G : ZG} {l : Launch} {im : ZI} {s : ZSt} {n nw nc : Nat} {h : Nat → ZSt}
set_option maxHeartbeats 2000000 in
theorem ll_digest (hY : zY im s n h nw nc) : zz_OL G l 5 mL_digest [.ref 0] zE im (fun r im' => r = dg s nw nc ∧ zY im' s n h nw nc) := by
  have hw := hY.2.1.2.1
  have hc := hY.2.1.2.2.2.1
  refine zz_intro (isI := false) (by decide) rfl (Nat.le_of_ble_eq_true rfl) (fun h => by cases h) (fun w S => ?_)
  refine zz_ldc2 S (v := 7) kL_8 dL_digest_0 (q := 3) rfl ?_
  refine zz_lstore_1 S rfl dL_digest_3 (q := 4) rfl ?_
  refine zz_iconst S (v := 0) rfl dL_digest_4 (q := 5) rfl ?_
  refine zz_istore_3 S rfl dL_digest_5 (q := 6) rfl ?_
  -- at 6
  refine lo_dg1 S (by omega) _ (fun im1 hY1 => ?_) 11 0 _ _ im ⟨by omega, by omega⟩ rfl hY rfl
  refine zz_iconst S (v := 0) rfl dL_digest_31 (q := 32) rfl ?_
  refine zz_istore_3 S rfl dL_digest_32 (q := 33) rfl ?_
  -- at 33
  refine lo_dg2 S (by omega) _ (fun im2 hY2 => ?_) (4 * nw) 0 _ _ im1 ⟨by omega, by omega⟩ rfl hY1 rfl
  refine zz_iconst S (v := 0) rfl dL_digest_68 (q := 69) rfl ?_
  refine zz_istore_3 S rfl dL_digest_69 (q := 70) rfl ?_
  -- at 70
  refine lo_dg3 S (by omega) _ (fun im3 hY3 => ?_) (9 * nc) 0 _ _ im2 ⟨by omega, by omega⟩ rfl hY2 rfl
  refine zz_iconst S (v := 0) rfl dL_digest_108 (q := 109) rfl ?_
  refine zz_istore_3 S rfl dL_digest_109 (q := 110) rfl ?_
  -- at 110
  refine lo_dg4 S (by omega) _ (fun im4 hY4 => ?_) 12 0 _ _ im3 ⟨by omega, by omega⟩ rfl hY3 rfl
  refine zz_bipush S (v := 13) rfl dL_digest_135 (q := 137) rfl ?_
  refine zz_istore_3 S rfl dL_digest_137 (q := 138) rfl ?_
  -- at 138
  refine lo_dg5 S (by omega) _ (fun im5 hY5 => ?_) 4 13 _ _ im4 ⟨by omega, by omega⟩ rfl hY4 rfl
  refine zz_lload_1 S dL_digest_163 (q := 164) rfl ?_
  -- at 164: lreturn 
  refine zz_lret S dL_digest_164 ⟨rfl, _, rfl, rfl, ?_⟩
  exact ⟨rfl, hY5⟩
end ZDI2
