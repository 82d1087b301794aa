/-! THE CLASS: tokens -/
def kd (c : Int32) : Int32 := if c ≥ 97 ∧ c ≤ 122 then 1 else if c ≥ 48 ∧ c ≤ 57 then 2 else 0
theorem kd_1 (c : Int32) : kd c = 1 ↔ c ≥ 97 ∧ c ≤ 122 := by
  unfold kd
  by_cases h : c ≥ 97 ∧ c ≤ 122
  · rw [if_pos h]
    exact ⟨fun _ => h, fun _ => rfl⟩
  · rw [if_neg h]
    by_cases h2 : c ≥ 48 ∧ c ≤ 57
    · rw [if_pos h2]
      exact ⟨fun e => absurd e (by decide), fun e => absurd e h⟩
    · rw [if_neg h2]
      exact ⟨fun e => absurd e (by decide), fun e => absurd e h⟩
theorem kd_2 (c : Int32) : kd c = 2 ↔ c ≥ 48 ∧ c ≤ 57 := by
  unfold kd
  by_cases h : c ≥ 97 ∧ c ≤ 122
  · rw [if_pos h]
    refine ⟨fun e => absurd e (by decide), fun e => ?_⟩
    have h1 := Int32.le_trans h.1 e.2
    exact absurd h1 (by decide)
  · rw [if_neg h]
    by_cases h2 : c ≥ 48 ∧ c ≤ 57
    · rw [if_pos h2]
      exact ⟨fun _ => h2, fun _ => rfl⟩
    · rw [if_neg h2]
      exact ⟨fun e => absurd e (by decide), fun e => absurd e h2⟩
theorem ta_in {tx : Nat → Int32} {len p : Nat} (h : p < len) : ta tx len p = tx p := if_pos h
def zAd (im im' : ZI) : Prop := zz_keep [465] im im' ∧ ∀ j, j ≠ 3 → j ≠ 4 → im' 465 j = im 465 j
theorem zAd.rf {im : ZI} : zAd im im := ⟨zz_keep.rf, fun _ _ _ => rfl⟩
theorem zAd.u {im0 im : ZI} (h : zAd im0 im) {j : Nat} {v : Int32} (hj : j = 3 ∨ j = 4) : zAd im0 (zz_u im 465 j v) := ⟨h.1.u (by decide), fun k a b => by rw [zz_u_n _ _ (Or.inr (by omega))]; exact h.2 k a b⟩
theorem zAd.tr {im0 im1 im2 : ZI} (h : zAd im0 im1) (h2 : zAd im1 im2) : zAd im0 im2 := ⟨h.1.tr h2.1 (fun _ q => q), fun j a b => (h2.2 j a b).trans (h.2 j a b)⟩
theorem zAd.pg {im im' : ZI} {len : Nat} {tx : Nat → Int32} (h : zAd im im') (hP : zPg im len tx) : zPg im' len tx := by
  obtain ⟨p1, p2, p3, p4⟩ := hP
  exact ⟨by rw [h.2 2 (by decide) (by decide)]; exact p1, p2, fun j hj => by rw [h.1 466 (by decide)]; exact p3 j hj, p4⟩
/-- the class stands at the token T -/
def zXk (im : ZI) (T : ZTok) : Prop := im 465 3 = nI T.1 ∧ im 465 4 = nI T.2.1
section ZADV
variable {G : ZG} {l : Launch}
theorem cx_kindOf (c : Int32) (E : ZE) (im : ZI) : zz_OP G l 0 mX3_kindOf [.int c] E im (kd c) := by
  have no1 : ¬ (c ≥ 97 ∧ c ≤ 122) → kd c = if c ≥ 48 ∧ c ≤ 57 then 2 else 0 := fun h => by unfold kd; rw [if_neg h]
  refine zz_intro (isI := false) (by decide) rfl (Nat.le_of_ble_eq_true rfl) (fun h => by cases h) (fun w S => ?_)
  -- no letter
  have low : ¬ (c ≥ 97 ∧ c ≤ 122) → w 14 [some (.int c)] [] 0 E im := fun h => by
    have e := no1 h
    refine zz_iload_0 S dX3_kindOf_14 (q := 15) rfl ?_
    refine zz_bipush S (v := 48) rfl dX3_kindOf_15 (q := 17) rfl ?_
    refine zz_icmp_lt S dX3_kindOf_17 (t := 30) (by decide) (q := 20) rfl (fun b1 => ?_) (fun b1 => ?_)
    -- then 30 else 20
    · refine zz_iconst S (v := 0) rfl dX3_kindOf_30 (q := 31) rfl ?_
      -- at 31: ireturn 
      refine zz_iret S dX3_kindOf_31 ⟨rfl, _, rfl, rfl, ?_⟩
      refine ⟨?_, rfl⟩
      rw [e, if_neg (fun q => absurd q.1 (Int32.not_le.mpr b1))]
    · refine zz_iload_0 S dX3_kindOf_20 (q := 21) rfl ?_
      refine zz_bipush S (v := 57) rfl dX3_kindOf_21 (q := 23) rfl ?_
      refine zz_icmp_gt S dX3_kindOf_23 (t := 30) (by decide) (q := 26) rfl (fun b2 => ?_) (fun b2 => ?_)
      -- then 30 else 26
      · refine zz_iconst S (v := 0) rfl dX3_kindOf_30 (q := 31) rfl ?_
        -- at 31: ireturn 
        refine zz_iret S dX3_kindOf_31 ⟨rfl, _, rfl, rfl, ?_⟩
        refine ⟨?_, rfl⟩
        rw [e, if_neg (fun q => absurd q.2 (Int32.not_le.mpr b2))]
      · have b3 : c ≥ 48 ∧ c ≤ 57 := ⟨Int32.not_lt.mp b1, Int32.not_lt.mp b2⟩
        refine zz_iconst S (v := 2) rfl dX3_kindOf_26 (q := 27) rfl ?_
        refine zz_goto S dX3_kindOf_27 (t := 31) (by decide) ?_
        -- at 31: ireturn 
        refine zz_iret S dX3_kindOf_31 ⟨rfl, _, rfl, rfl, ?_⟩
        refine ⟨?_, rfl⟩
        rw [e, if_pos b3]
  refine zz_iload_0 S dX3_kindOf_0 (q := 1) rfl ?_
  refine zz_bipush S (v := 97) rfl dX3_kindOf_1 (q := 3) rfl ?_
  refine zz_icmp_lt S dX3_kindOf_3 (t := 14) (by decide) (q := 6) rfl (fun a1 => ?_) (fun a1 => ?_)
  -- then 14 else 6
  · exact low (fun q => absurd q.1 (Int32.not_le.mpr a1))
  · refine zz_iload_0 S dX3_kindOf_6 (q := 7) rfl ?_
    refine zz_bipush S (v := 122) rfl dX3_kindOf_7 (q := 9) rfl ?_
    refine zz_icmp_gt S dX3_kindOf_9 (t := 14) (by decide) (q := 12) rfl (fun a2 => ?_) (fun a2 => ?_)
    -- then 14 else 12
    · exact low (fun q => absurd q.2 (Int32.not_le.mpr a2))
    · have a3 : c ≥ 97 ∧ c ≤ 122 := ⟨Int32.not_lt.mp a1, Int32.not_lt.mp a2⟩
      refine zz_iconst S (v := 1) rfl dX3_kindOf_12 (q := 13) rfl ?_
      -- at 13: ireturn 
      refine zz_iret S dX3_kindOf_13 ⟨rfl, _, rfl, rfl, ?_⟩
      exact ⟨((kd_1 c).mpr a3).symm, rfl⟩
theorem cx_rewind (im : ZI) : zz_OV G l 0 mX3_rewind [.ref 465] zE im (fun im' => im' 465 4 = nI 0 ∧ zAd im im') := by
  refine zz_intro (isI := false) (by decide) rfl (Nat.le_of_ble_eq_true rfl) (fun h => by cases h) (fun w S => ?_)
  refine zz_aload_0 S dX3_rewind_0 (q := 1) rfl ?_
  refine zz_iconst S (v := 0) rfl dX3_rewind_1 (q := 2) rfl ?_
  refine zz_putI S fX3_29 rfl rfl (Nat.le_of_ble_eq_true rfl) rfl dX3_rewind_2 (q := 5) rfl ?_
  refine zz_aload_0 S dX3_rewind_5 (q := 6) rfl ?_
  refine zz_iconst S (v := 0) rfl dX3_rewind_6 (q := 7) rfl ?_
  refine zz_putI S fX3_32 rfl rfl (Nat.le_of_ble_eq_true rfl) rfl dX3_rewind_7 (q := 10) rfl ?_
  -- at 10: return_ 
  refine zz_vret S dX3_rewind_10 ⟨rfl, rfl, rfl, ?_⟩
  exact ⟨by rw [zz_u_e]; rfl, (zAd.rf.u (by decide)).u (by decide)⟩
set_option maxHeartbeats 4000000 in
theorem lx_adv1 {n0 mcT msT : Nat} {isI : Bool} {Qf : Option Value → ZE → ZI → Prop} {w : Nat → ZL → List Value → Nat → ZE → ZI → Prop} {z len Z : Nat} {tx : Nat → Int32} {im0 : ZI} {u : Option Value} (S : zz_S G l RX3 cX3_advance 2 1 n0 mcT msT isI (some .boolean) Qf w)
    (hP : zPg im0 len tx) (hQ : ∀ im, zAd im0 im → im 465 3 = nI Z → w 46 [some (.ref 465), u] [] z zE im) :
    ∀ (n p : Nat) (im : ZI), p + n = len → zAd im0 im → im 465 3 = nI p → Z = tk_sp tx len n p → w 8 [some (.ref 465), u] [] z zE im := by
  have hln := hP.2.1
  intro n
  induction n with
  | zero =>
    intro p im hp hA h3 hZ
    have hp : p = len := by omega
    subst hp
    have hl : im 465 2 = nI p := (hA.pg hP).1
    refine zz_aload_0 S dX3_advance_8 (q := 9) rfl ?_
    refine zz_getI S fX3_29 rfl (Nat.le_of_ble_eq_true rfl) rfl dX3_advance_9 (q := 12) rfl ?_
    refine zz_aload_0 S dX3_advance_12 (q := 13) rfl ?_
    refine zz_getI S fX3_24 rfl (Nat.le_of_ble_eq_true rfl) rfl dX3_advance_13 (q := 16) rfl ?_
    refine zz_icmp_ge S dX3_advance_16 (t := 46) (by decide) (q := 19) rfl (fun a1 => ?_) (fun a1 => ?_)
    -- then 46 else 19
    · exact hQ im hA (by rw [h3, hZ]; rfl)
    · exact absurd (by rw [h3, hl]; exact Int32.le_refl _) a1
  | succ n ih =>
    intro p im hp hA h3 hZ
    obtain ⟨hl, -, htx, htc⟩ := hA.pg hP
    rw [tk_sp, ta_in (show p < len by omega), ← htx p (by omega)] at hZ
    refine zz_aload_0 S dX3_advance_8 (q := 9) rfl ?_
    refine zz_getI S fX3_29 rfl (Nat.le_of_ble_eq_true rfl) rfl dX3_advance_9 (q := 12) rfl ?_
    refine zz_aload_0 S dX3_advance_12 (q := 13) rfl ?_
    refine zz_getI S fX3_24 rfl (Nat.le_of_ble_eq_true rfl) rfl dX3_advance_13 (q := 16) rfl ?_
    refine zz_icmp_ge S dX3_advance_16 (t := 46) (by decide) (q := 19) rfl (fun a1 => ?_) (fun a1 => ?_)
    -- then 46 else 19
    · exact absurd a1 (by rw [h3, hl]; exact nI_ge (by omega) (by omega))
    · refine zz_aload_0 S dX3_advance_19 (q := 20) rfl ?_
      refine zz_getR S fX3_9 rfl (Nat.le_of_ble_eq_true rfl) rfl rfl dX3_advance_20 (q := 23) rfl ?_
      refine zz_aload_0 S dX3_advance_23 (q := 24) rfl ?_
      refine zz_getI S fX3_29 rfl (Nat.le_of_ble_eq_true rfl) rfl dX3_advance_24 (q := 27) rfl ?_
      refine zz_caN S (j := p) (Nat.le_of_ble_eq_true rfl) rfl (Nat.le_of_ble_eq_true rfl) h3 (by omega) dX3_advance_27 (q := 28) rfl ?_
      refine zz_bipush S (v := 32) rfl dX3_advance_28 (q := 30) rfl ?_
      refine zz_icmp_ne S dX3_advance_30 (t := 46) (by decide) (q := 33) rfl (fun a2 => ?_) (fun a2 => ?_)
      -- then 46 else 33
      · rw [if_neg a2] at hZ
        exact hQ im hA (by rw [h3, hZ])
      · rw [if_pos a2] at hZ
        refine zz_aload_0 S dX3_advance_33 (q := 34) rfl ?_
        refine zz_dup S rfl dX3_advance_34 (q := 35) rfl ?_
        refine zz_getI S fX3_29 rfl (Nat.le_of_ble_eq_true rfl) rfl dX3_advance_35 (q := 38) rfl ?_
        refine zz_iconst S (v := 1) rfl dX3_advance_38 (q := 39) rfl ?_
        refine zz_iadd S dX3_advance_39 (q := 40) rfl ?_
        refine zz_putI S fX3_29 rfl rfl (Nat.le_of_ble_eq_true rfl) rfl dX3_advance_40 (q := 43) rfl ?_
        refine zz_goto S dX3_advance_43 (t := 8) (by decide) ?_
        -- at 8
        exact ih (p + 1) _ (by omega) (hA.u (by decide)) (by rw [zz_u_e, h3]; exact nI_1 p) hZ
set_option maxHeartbeats 4000000 in
theorem lx_adv2 {n0 mcT msT : Nat} {isI : Bool} {Qf : Option Value → ZE → ZI → Prop} {w : Nat → ZL → List Value → Nat → ZE → ZI → Prop} {z len Z q : Nat} {tx : Nat → Int32} {im0 : ZI} {a b k : Int32} (S : zz_S G l RX3 cX3_advance 2 1 n0 mcT msT isI (some .boolean) Qf w)
    (hk : ∀ c, kd c = k ↔ c ≥ a ∧ c ≤ b) (hk0 : k ≠ 0) (hP : zPg im0 len tx) (hQ : ∀ im, zAd im0 im → im 465 3 = nI q → im 465 4 = nI Z → w 134 [some (.ref 465), some (.int k)] [] z zE im) :
    ∀ (n p : Nat) (im : ZI), p + n = len → zAd im0 im → im 465 3 = nI q → im 465 4 = nI p → Z = tk_run tx len a b n p → w 90 [some (.ref 465), some (.int k)] [] z zE im := by
  have hln := hP.2.1
  intro n
  induction n with
  | zero =>
    intro p im hp hA h3 h4 hZ
    have hp : p = len := by omega
    subst hp
    have hl : im 465 2 = nI p := (hA.pg hP).1
    refine zz_iload_1 S dX3_advance_90 (q := 91) rfl ?_
    refine zz_if_eq S dX3_advance_91 (t := 134) (by decide) (q := 94) rfl (fun a1 => ?_) (fun a1 => ?_)
    -- then 134 else 94
    · exact absurd a1 hk0
    · refine zz_aload_0 S dX3_advance_94 (q := 95) rfl ?_
      refine zz_getI S fX3_32 rfl (Nat.le_of_ble_eq_true rfl) rfl dX3_advance_95 (q := 98) rfl ?_
      refine zz_aload_0 S dX3_advance_98 (q := 99) rfl ?_
      refine zz_getI S fX3_24 rfl (Nat.le_of_ble_eq_true rfl) rfl dX3_advance_99 (q := 102) rfl ?_
      refine zz_icmp_ge S dX3_advance_102 (t := 134) (by decide) (q := 105) rfl (fun a2 => ?_) (fun a2 => ?_)
      -- then 134 else 105
      · exact hQ im hA h3 (by rw [h4, hZ]; rfl)
      · exact absurd (by rw [h4, hl]; exact Int32.le_refl _) a2
  | succ n ih =>
    intro p im hp hA h3 h4 hZ
    obtain ⟨hl, -, htx, htc⟩ := hA.pg hP
    rw [tk_run, ta_in (show p < len by omega), ← htx p (by omega)] at hZ
    refine zz_iload_1 S dX3_advance_90 (q := 91) rfl ?_
    refine zz_if_eq S dX3_advance_91 (t := 134) (by decide) (q := 94) rfl (fun a1 => ?_) (fun a1 => ?_)
    -- then 134 else 94
    · exact absurd a1 hk0
    · refine zz_aload_0 S dX3_advance_94 (q := 95) rfl ?_
      refine zz_getI S fX3_32 rfl (Nat.le_of_ble_eq_true rfl) rfl dX3_advance_95 (q := 98) rfl ?_
      refine zz_aload_0 S dX3_advance_98 (q := 99) rfl ?_
      refine zz_getI S fX3_24 rfl (Nat.le_of_ble_eq_true rfl) rfl dX3_advance_99 (q := 102) rfl ?_
      refine zz_icmp_ge S dX3_advance_102 (t := 134) (by decide) (q := 105) rfl (fun a2 => ?_) (fun a2 => ?_)
      -- then 134 else 105
      · exact absurd a2 (by rw [h4, hl]; exact nI_ge (by omega) (by omega))
      · refine zz_aload_0 S dX3_advance_105 (q := 106) rfl ?_
        refine zz_getR S fX3_9 rfl (Nat.le_of_ble_eq_true rfl) rfl rfl dX3_advance_106 (q := 109) rfl ?_
        refine zz_aload_0 S dX3_advance_109 (q := 110) rfl ?_
        refine zz_getI S fX3_32 rfl (Nat.le_of_ble_eq_true rfl) rfl dX3_advance_110 (q := 113) rfl ?_
        refine zz_caN S (j := p) (Nat.le_of_ble_eq_true rfl) rfl (Nat.le_of_ble_eq_true rfl) h4 (by omega) dX3_advance_113 (q := 114) rfl ?_
        -- at 114: invokestatic 35
        refine zz_statP S yy_X3_kindOf lX3_35 (cx_kindOf (im 466 p) zE im) rfl (Nat.le_of_ble_eq_true rfl) (Nat.le_of_ble_eq_true rfl) rfl dX3_advance_114 (q := 117) rfl ?_
        refine zz_iload_1 S dX3_advance_117 (q := 118) rfl ?_
        refine zz_icmp_ne S dX3_advance_118 (t := 134) (by decide) (q := 121) rfl (fun a3 => ?_) (fun a3 => ?_)
        -- then 134 else 121
        · rw [if_neg (fun e => a3 ((hk _).mpr e))] at hZ
          exact hQ im hA h3 (by rw [h4, hZ])
        · rw [if_pos ((hk _).mp a3)] at hZ
          refine zz_aload_0 S dX3_advance_121 (q := 122) rfl ?_
          refine zz_dup S rfl dX3_advance_122 (q := 123) rfl ?_
          refine zz_getI S fX3_32 rfl (Nat.le_of_ble_eq_true rfl) rfl dX3_advance_123 (q := 126) rfl ?_
          refine zz_iconst S (v := 1) rfl dX3_advance_126 (q := 127) rfl ?_
          refine zz_iadd S dX3_advance_127 (q := 128) rfl ?_
          refine zz_putI S fX3_32 rfl rfl (Nat.le_of_ble_eq_true rfl) rfl dX3_advance_128 (q := 131) rfl ?_
          refine zz_goto S dX3_advance_131 (t := 90) (by decide) ?_
          -- at 90
          exact ih (p + 1) _ (by omega) (hA.u (by decide)) (by rw [zz_u_n _ _ (Or.inr (by decide))]; exact h3) (by rw [zz_u_e, h4]; exact nI_1 p) hZ
set_option maxHeartbeats 4000000 in
theorem cx_advance (p len : Nat) (tx : Nat → Int32) (im : ZI) (h4 : im 465 4 = nI p) (hp : p ≤ len) (hP : zPg im len tx) : zz_OI G l 1 mX3_advance [.ref 465] zE im (fun r im' => r = (if (tk tx len p).2.2 = 0 then 0 else 1) ∧ zXk im' (tk tx len p) ∧ zAd im im') := by
  have hln := hP.2.1
  have h1 := tk_sp_in tx len (len - p) p (by omega)
  have hT : tk tx len p = tk_at tx len (tk_sp tx len (len - p) p) := rfl
  rw [hT]
  generalize hqq : tk_sp tx len (len - p) p = q at h1
  refine zz_intro (isI := false) (by decide) rfl (Nat.le_of_ble_eq_true rfl) (fun h => by cases h) (fun w S => ?_)
  refine zz_aload_0 S dX3_advance_0 (q := 1) rfl ?_
  refine zz_aload_0 S dX3_advance_1 (q := 2) rfl ?_
  refine zz_getI S fX3_32 rfl (Nat.le_of_ble_eq_true rfl) rfl dX3_advance_2 (q := 5) rfl ?_
  refine zz_putI S fX3_29 rfl rfl (Nat.le_of_ble_eq_true rfl) rfl dX3_advance_5 (q := 8) rfl ?_
  -- at 8
  refine lx_adv1 (im0 := im) (Z := q) S hP (fun im1 hA1 h3 => ?_) (len - p) p _ (by omega) (zAd.rf.u (by decide)) (by rw [zz_u_e]; exact h4) hqq.symm
  refine zz_aload_0 S dX3_advance_46 (q := 47) rfl ?_
  refine zz_aload_0 S dX3_advance_47 (q := 48) rfl ?_
  refine zz_getI S fX3_29 rfl (Nat.le_of_ble_eq_true rfl) rfl dX3_advance_48 (q := 51) rfl ?_
  refine zz_putI S fX3_32 rfl rfl (Nat.le_of_ble_eq_true rfl) rfl dX3_advance_51 (q := 54) rfl ?_
  -- at 54
  generalize him2 : zz_u im1 465 4 (im1 465 3) = im2
  have hA2 : zAd im im2 := by rw [← him2]; exact hA1.u (by decide)
  have h32 : im2 465 3 = nI q := by rw [← him2, zz_u_n _ _ (Or.inr (by decide))]; exact h3
  have h42 : im2 465 4 = nI q := by rw [← him2, zz_u_e]; exact h3
  clear him2
  obtain ⟨hl, -, htx, htc⟩ := hA2.pg hP
  refine zz_aload_0 S dX3_advance_54 (q := 55) rfl ?_
  refine zz_getI S fX3_29 rfl (Nat.le_of_ble_eq_true rfl) rfl dX3_advance_55 (q := 58) rfl ?_
  refine zz_aload_0 S dX3_advance_58 (q := 59) rfl ?_
  refine zz_getI S fX3_24 rfl (Nat.le_of_ble_eq_true rfl) rfl dX3_advance_59 (q := 62) rfl ?_
  refine zz_icmp_lt S dX3_advance_62 (t := 67) (by decide) (q := 65) rfl (fun a1 => ?_) (fun a1 => ?_)
  -- then 67 else 65
  · have hq : q < len := by
      rw [h32, hl] at a1
      exact (nI_ltI (by omega) (by omega)).mp a1
    refine zz_aload_0 S dX3_advance_67 (q := 68) rfl ?_
    refine zz_getR S fX3_9 rfl (Nat.le_of_ble_eq_true rfl) rfl rfl dX3_advance_68 (q := 71) rfl ?_
    refine zz_aload_0 S dX3_advance_71 (q := 72) rfl ?_
    refine zz_getI S fX3_29 rfl (Nat.le_of_ble_eq_true rfl) rfl dX3_advance_72 (q := 75) rfl ?_
    refine zz_caN S (j := q) (Nat.le_of_ble_eq_true rfl) rfl (Nat.le_of_ble_eq_true rfl) h32 (by omega) dX3_advance_75 (q := 76) rfl ?_
    -- at 76: invokestatic 35
    refine zz_statP S yy_X3_kindOf lX3_35 (cx_kindOf (im2 466 q) zE im2) rfl (Nat.le_of_ble_eq_true rfl) (Nat.le_of_ble_eq_true rfl) rfl dX3_advance_76 (q := 79) rfl ?_
    rw [htx q hq]
    refine zz_istore_1 S rfl dX3_advance_79 (q := 80) rfl ?_
    refine zz_aload_0 S dX3_advance_80 (q := 81) rfl ?_
    refine zz_dup S rfl dX3_advance_81 (q := 82) rfl ?_
    refine zz_getI S fX3_32 rfl (Nat.le_of_ble_eq_true rfl) rfl dX3_advance_82 (q := 85) rfl ?_
    refine zz_iconst S (v := 1) rfl dX3_advance_85 (q := 86) rfl ?_
    refine zz_iadd S dX3_advance_86 (q := 87) rfl ?_
    refine zz_putI S fX3_32 rfl rfl (Nat.le_of_ble_eq_true rfl) rfl dX3_advance_87 (q := 90) rfl ?_
    -- at 90
    have e4 : im2 465 4 + 1 = nI (q + 1) := by rw [h42]; exact nI_1 q
    rw [e4]
    generalize him3 : zz_u im2 465 4 (nI (q + 1)) = im3
    have hA3 : zAd im im3 := by rw [← him3]; exact hA2.u (by decide)
    have h33 : im3 465 3 = nI q := by rw [← him3, zz_u_n _ _ (Or.inr (by decide))]; exact h32
    have h43 : im3 465 4 = nI (q + 1) := by rw [← him3, zz_u_e]
    obtain ⟨n, hn⟩ : ∃ n, len - q = n + 1 := ⟨len - q - 1, by omega⟩
    have tq : ta tx len q = tx q := ta_in hq
    have fin : ∀ (T : ZTok) (im' : ZI), tk_at tx len q = T → T.2.2 ≠ 0 → zAd im im' → im' 465 3 = nI T.1 → im' 465 4 = nI T.2.1 → ∀ k : Int32, w 134 [some (.ref 465), some (.int k)] [] 0 zE im' := fun T im' e h0 hA a b k => by
      refine zz_iconst S (v := 1) rfl dX3_advance_134 (q := 135) rfl ?_
      -- at 135: ireturn 
      refine zz_zret S (zz_bit (Or.inr rfl)) dX3_advance_135 ⟨rfl, _, rfl, rfl, ?_⟩
      rw [e, if_neg h0]
      exact ⟨rfl, ⟨a, b⟩, hA⟩
    by_cases c1 : kd (tx q) = 1
    · have c1' := (kd_1 _).mp c1
      have eT : tk_at tx len q = (q, tk_run tx len 97 122 n (q + 1), 1) := by
        rw [tk_at, tq, if_pos c1', hn, tk_run, tq, if_pos c1']
      rw [c1]
      exact lx_adv2 (im0 := im) (a := 97) (b := 122) (Z := tk_run tx len 97 122 n (q + 1)) S kd_1 (by decide) hP (fun im' hA a b => fin _ im' eT (show (1 : Nat) ≠ 0 by decide) hA a b 1) n (q + 1) im3 (by omega) hA3 h33 h43 rfl
    · have c1' : ¬ _ := fun e => c1 ((kd_1 (tx q)).mpr e)
      by_cases c2 : kd (tx q) = 2
      · have c2' := (kd_2 _).mp c2
        have eT : tk_at tx len q = (q, tk_run tx len 48 57 n (q + 1), 2) := by
          rw [tk_at, tq, if_neg c1', if_pos c2', hn, tk_run, tq, if_pos c2']
        rw [c2]
        exact lx_adv2 (im0 := im) (a := 48) (b := 57) (Z := tk_run tx len 48 57 n (q + 1)) S kd_2 (by decide) hP (fun im' hA a b => fin _ im' eT (show (2 : Nat) ≠ 0 by decide) hA a b 2) n (q + 1) im3 (by omega) hA3 h33 h43 rfl
      · have c2' : ¬ _ := fun e => c2 ((kd_2 (tx q)).mpr e)
        have c0 : kd (tx q) = 0 := by unfold kd; rw [if_neg c1', if_neg c2']
        have eT : tk_at tx len q = (q, q + 1, 3) := by
          rw [tk_at, tq, if_neg c1', if_neg c2', if_pos hq]
        rw [c0]
        refine zz_iload_1 S dX3_advance_90 (q := 91) rfl ?_
        refine zz_if_eq S dX3_advance_91 (t := 134) (by decide) (q := 94) rfl (fun a2 => ?_) (fun a2 => ?_)
        -- then 134 else 94
        · exact fin _ im3 eT (show (3 : Nat) ≠ 0 by decide) hA3 h33 h43 0
        · exact absurd rfl a2
  · have hq : ¬ q < len := fun e => a1 (by rw [h32, hl]; exact nI_lt e (by omega))
    have hm1 : ta tx len q = -1 := ta_end hq
    have eT : tk_at tx len q = (q, q, 0) := by
      rw [tk_at, hm1, if_neg (by decide), if_neg (by decide), if_neg hq]
    refine zz_iconst S (v := 0) rfl dX3_advance_65 (q := 66) rfl ?_
    -- at 66: ireturn 
    refine zz_zret S (zz_bit (Or.inl rfl)) dX3_advance_66 ⟨rfl, _, rfl, rfl, ?_⟩
    rw [eT]
    exact ⟨rfl, ⟨h32, h42⟩, hA2⟩
end ZADV
