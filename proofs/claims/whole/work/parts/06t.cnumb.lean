/-! THE CLASS: numbers in the text -/
theorem tk_run_all {tx : Nat → Int32} {len : Nat} {a b : Int32} : ∀ (n p : Nat), p + n = len → ∀ j, p ≤ j → j < tk_run tx len a b n p → j < len ∧ tx j ≥ a ∧ tx j ≤ b := by
  intro n
  induction n with
  | zero =>
    intro p hp j h1 h2
    have h2' : j < p := h2
    omega
  | succ n ih =>
    intro p hp j h1 h2
    rw [tk_run] at h2
    by_cases hc : ta tx len p ≥ a ∧ ta tx len p ≤ b
    · rw [if_pos hc] at h2
      by_cases hj : j = p
      · subst hj
        rw [ta_in (show j < len by omega)] at hc
        exact ⟨by omega, hc⟩
      · exact ih (p + 1) (by omega) j (by omega) h2
    · rw [if_neg hc] at h2
      omega
/-- what a token is made of -/
theorem tk_kind {tx : Nat → Int32} {len p : Nat} (hp : p ≤ len) : ((tk tx len p).2.2 = 1 → (tk tx len p).1 < (tk tx len p).2.1 ∧ ∀ j, (tk tx len p).1 ≤ j → j < (tk tx len p).2.1 → kd (tx j) = 1) ∧ ((tk tx len p).2.2 = 2 → (tk tx len p).1 < (tk tx len p).2.1 ∧ ∀ j, (tk tx len p).1 ≤ j → j < (tk tx len p).2.1 → kd (tx j) = 2) ∧ ((tk tx len p).2.2 = 3 → (tk tx len p).2.1 = (tk tx len p).1 + 1 ∧ kd (tx (tk tx len p).1) = 0) ∧ ((tk tx len p).2.2 = 0 → (tk tx len p).2.1 = (tk tx len p).1) := by
  have h1 := tk_sp_in tx len (len - p) p (by omega)
  have hin := tk_in tx hp
  unfold tk at *
  generalize tk_sp tx len (len - p) p = q at h1 hin ⊢
  have ek : (tk_at tx len q).1 = q := (tk_at_in tx h1.2).1
  rw [ek] at hin ⊢
  unfold tk_at at *
  by_cases c1 : ta tx len q ≥ 97 ∧ ta tx len q ≤ 122
  · rw [if_pos c1] at hin ⊢
    have hl : q < len := Classical.byContradiction (fun e => by rw [ta_end e] at c1; exact absurd c1 (by decide))
    refine ⟨fun _ => ⟨hin.2.2.2.2.2 hl, fun j a b => (kd_1 _).mpr (tk_run_all (len - q) q (by omega) j a b).2⟩, fun e => absurd e (by show ¬ 1 = 2; decide), fun e => absurd e (by show ¬ 1 = 3; decide), fun e => absurd e (by show ¬ 1 = 0; decide)⟩
  · rw [if_neg c1] at hin ⊢
    by_cases c2 : ta tx len q ≥ 48 ∧ ta tx len q ≤ 57
    · rw [if_pos c2] at hin ⊢
      have hl : q < len := Classical.byContradiction (fun e => by rw [ta_end e] at c2; exact absurd c2 (by decide))
      refine ⟨fun e => absurd e (by show ¬ 2 = 1; decide), fun _ => ⟨hin.2.2.2.2.2 hl, fun j a b => (kd_2 _).mpr (tk_run_all (len - q) q (by omega) j a b).2⟩, fun e => absurd e (by show ¬ 2 = 3; decide), fun e => absurd e (by show ¬ 2 = 0; decide)⟩
    · rw [if_neg c2] at hin ⊢
      by_cases hl : q < len
      · rw [if_pos hl]
        rw [ta_in hl] at c1 c2
        refine ⟨fun e => absurd e (by show ¬ 3 = 1; decide), fun e => absurd e (by show ¬ 3 = 2; decide), fun _ => ⟨rfl, by unfold kd; rw [if_neg c1, if_neg c2]⟩, fun e => absurd e (by show ¬ 3 = 0; decide)⟩
      · rw [if_neg hl]
        exact ⟨fun e => absurd e (by show ¬ 0 = 1; decide), fun e => absurd e (by show ¬ 0 = 2; decide), fun e => absurd e (by show ¬ 0 = 3; decide), fun _ => rfl⟩
theorem rk_vG_ge {tx : Nat → Int32} {len : Nat} : ∀ (n p : Nat) (a : Int32), n ≤ 4 → (∀ j, p ≤ j → j < p + n → j < len ∧ kd (tx j) = 2) → 0 ≤ a.toInt → a.toInt < 10 ^ (4 - n) → 0 ≤ (rk_vG tx len n p a).toInt := by
  intro n
  induction n with
  | zero => intro p a _ _ h _; exact h
  | succ n ih =>
    intro p a hn hd h0 hB
    rw [rk_vG]
    obtain ⟨d1, d2⟩ := hd p (by omega) (by omega)
    have d3 := (kd_2 _).mp d2
    have d4 := Int32.le_iff_toInt_le.mp d3.1
    have d5 := Int32.le_iff_toInt_le.mp d3.2
    have e48 : ((48 : Int32)).toInt = 48 := rfl
    have e57 : ((57 : Int32)).toInt = 57 := rfl
    have hp : (10 : Int) ^ (4 - n) = 10 * 10 ^ (4 - (n + 1)) ∧ (10 : Int) ^ (4 - (n + 1)) ≤ 1000 := by
      rcases (show n = 0 ∨ n = 1 ∨ n = 2 ∨ n = 3 by omega) with rfl | rfl | rfl | rfl <;> decide
    generalize (10 : Int) ^ (4 - (n + 1)) = B at hB hp
    have e : (10 * a + ta tx len p - 48).toInt = 10 * a.toInt + (tx p).toInt - 48 := by
      rw [ta_in d1, Int32.toInt_sub, Int32.toInt_add, Int32.toInt_mul, show ((10 : Int32)).toInt = 10 from rfl, e48, Int.bmod_eq_of_le (n := 10 * a.toInt) (by omega) (by omega), Int.bmod_eq_of_le (n := 10 * a.toInt + (tx p).toInt) (by omega) (by omega), Int.bmod_eq_of_le (by omega) (by omega)]
    exact ih (p + 1) _ (by omega) (fun j a b => hd j (by omega) (by omega)) (by rw [e]; omega) (by rw [e, hp.1]; omega)
section ZCNB
variable {G : ZG} {l : Launch}
set_option maxHeartbeats 4000000 in
theorem lx_numTok {n0 mcT msT : Nat} {isI : Bool} {Qf : Option Value → ZE → ZI → Prop} {w : Nat → ZL → List Value → Nat → ZE → ZI → Prop} {z len q : Nat} {tx : Nat → Int32} {im : ZI} {y Z : Int32} (S : zz_S G l RX3 cX3_numberOfToken 4 1 n0 mcT msT isI (some .int) Qf w)
    (hP : zPg im len tx) (h4 : im 465 4 = nI q) (hq : q ≤ len) (hQ : Qf (some (.int Z)) zE im) :
    ∀ (n p : Nat) (x a : Int32), p + n = q → x = nI p → (∀ j, p ≤ j → j < q → kd (tx j) = 2) → Z = rk_vG tx len n p a → w 48 [some (.ref 465), some (.int y), some (.int a), some (.int x)] [] z zE im := by
  obtain ⟨hl, hln, htx, htc⟩ := hP
  intro n
  induction n with
  | zero =>
    intro p x a hp hx hd hZ
    have hp : p = q := by omega
    subst hp
    refine zz_iload_3 S dX3_numberOfToken_48 (q := 49) rfl ?_
    refine zz_aload_0 S dX3_numberOfToken_49 (q := 50) rfl ?_
    refine zz_getI S fX3_32 rfl (Nat.le_of_ble_eq_true rfl) rfl dX3_numberOfToken_50 (q := 53) rfl ?_
    refine zz_icmp_ge S dX3_numberOfToken_53 (t := 92) (by decide) (q := 56) rfl (fun a1 => ?_) (fun a1 => ?_)
    -- then 92 else 56
    · refine zz_iload_2 S dX3_numberOfToken_92 (q := 93) rfl ?_
      -- at 93: ireturn 
      exact zz_iret S dX3_numberOfToken_93 (by rw [hZ] at hQ; exact hQ)
    · exact absurd (by rw [h4, hx]; exact Int32.le_refl _) a1
  | succ n ih =>
    intro p x a hp hx hd hZ
    refine zz_iload_3 S dX3_numberOfToken_48 (q := 49) rfl ?_
    refine zz_aload_0 S dX3_numberOfToken_49 (q := 50) rfl ?_
    refine zz_getI S fX3_32 rfl (Nat.le_of_ble_eq_true rfl) rfl dX3_numberOfToken_50 (q := 53) rfl ?_
    refine zz_icmp_ge S dX3_numberOfToken_53 (t := 92) (by decide) (q := 56) rfl (fun a1 => ?_) (fun a1 => ?_)
    -- then 92 else 56
    · exact absurd a1 (by rw [h4, hx]; exact nI_ge (by omega) (by omega))
    · refine zz_aload_0 S dX3_numberOfToken_56 (q := 57) rfl ?_
      refine zz_getR S fX3_9 rfl (Nat.le_of_ble_eq_true rfl) rfl rfl dX3_numberOfToken_57 (q := 60) rfl ?_
      refine zz_iload_3 S dX3_numberOfToken_60 (q := 61) rfl ?_
      refine zz_caN S (j := p) (Nat.le_of_ble_eq_true rfl) rfl (Nat.le_of_ble_eq_true rfl) hx (by omega) dX3_numberOfToken_61 (q := 62) rfl ?_
      -- at 62: invokestatic 35
      refine zz_statP S yy_X3_kindOf lX3_35 (cx_kindOf (im 466 p) zE im) rfl (Nat.le_of_ble_eq_true rfl) (Nat.le_of_ble_eq_true rfl) rfl dX3_numberOfToken_62 (q := 65) rfl ?_
      rw [htx p (by omega), hd p (by omega) (by omega)]
      refine zz_iconst S (v := 2) rfl dX3_numberOfToken_65 (q := 66) rfl ?_
      refine zz_icmp_eq S dX3_numberOfToken_66 (t := 71) (by decide) (q := 69) rfl (fun a2 => ?_) (fun a2 => ?_)
      -- then 71 else 69
      · refine zz_bipush S (v := 10) rfl dX3_numberOfToken_71 (q := 73) rfl ?_
        refine zz_iload_2 S dX3_numberOfToken_73 (q := 74) rfl ?_
        refine zz_imul S dX3_numberOfToken_74 (q := 75) rfl ?_
        refine zz_aload_0 S dX3_numberOfToken_75 (q := 76) rfl ?_
        refine zz_getR S fX3_9 rfl (Nat.le_of_ble_eq_true rfl) rfl rfl dX3_numberOfToken_76 (q := 79) rfl ?_
        refine zz_iload_3 S dX3_numberOfToken_79 (q := 80) rfl ?_
        refine zz_caN S (j := p) (Nat.le_of_ble_eq_true rfl) rfl (Nat.le_of_ble_eq_true rfl) hx (by omega) dX3_numberOfToken_80 (q := 81) rfl ?_
        refine zz_bipush S (v := 48) rfl dX3_numberOfToken_81 (q := 83) rfl ?_
        refine zz_isub S dX3_numberOfToken_83 (q := 84) rfl ?_
        refine zz_iadd S dX3_numberOfToken_84 (q := 85) rfl ?_
        refine zz_istore_2 S rfl dX3_numberOfToken_85 (q := 86) rfl ?_
        refine zz_iinc_3 S rfl dX3_numberOfToken_86 (q := 89) rfl ?_
        refine zz_goto S dX3_numberOfToken_89 (t := 48) (by decide) ?_
        -- at 48
        refine ih (p + 1) _ _ (by omega) (by rw [hx]; exact nI_1 p) (fun j a b => hd j (by omega) b) ?_
        rw [hZ, rk_vG, ta_in (show p < len by omega), htx p (by omega), Int32.sub_eq_add_neg, Int32.sub_eq_add_neg, Int32.add_assoc]
      · exact absurd rfl a2
set_option maxHeartbeats 1000000 in
theorem cx_numTok (p len : Nat) (tx : Nat → Int32) (im : ZI) (hp : p ≤ len) (hP : zPg im len tx) (hk : zXk im (tk tx len p)) : zz_OP G l 1 mX3_numberOfToken [.ref 465] zE im (if rk_bad tx len (tk tx len p) then -1 else rk_v tx len (tk tx len p)) := by
  have hki := tk_kind (tx := tx) hp
  have hti := tk_in tx hp
  have hP0 := hP
  obtain ⟨hl, hln, htx, htc⟩ := hP
  generalize tk tx len p = T at hki hti hk ⊢
  obtain ⟨h3, h4⟩ := hk
  obtain ⟨k1, k2, k3, k0⟩ := hki
  have hd : im 465 4 - im 465 3 = nI (T.2.1 - T.1) := by rw [h3, h4]; exact pk_sub hti.2.1
  have hx2 := nI_toInt (n := T.2.1 - T.1) (by omega)
  have l1 : nI (T.2.1 - T.1) < 1 ↔ T.2.1 - T.1 = 0 := by
    rw [Int32.lt_iff_toInt_lt, hx2]
    show _ < (1 : Int) ↔ _
    omega
  have l4 : nI (T.2.1 - T.1) > 4 ↔ 4 < T.2.1 - T.1 := by
    rw [gt_iff_lt, Int32.lt_iff_toInt_lt, hx2]
    show (4 : Int) < _ ↔ _
    omega
  have l2 : nI (T.2.1 - T.1) ≤ 1 ↔ ¬ 1 < T.2.1 - T.1 := by
    rw [Int32.le_iff_toInt_le, hx2]
    show _ ≤ (1 : Int) ↔ _
    omega
  refine zz_intro (isI := false) (by decide) rfl (Nat.le_of_ble_eq_true rfl) (fun h => by cases h) (fun w S => ?_)
  have bad : ∀ u, rk_bad tx len T → w 39 [some (.ref 465), u, none, none] [] 0 zE im := fun u hb => by
    refine zz_iconst S (v := (-1)) rfl dX3_numberOfToken_39 (q := 40) rfl ?_
    -- at 40: ireturn 
    refine zz_iret S dX3_numberOfToken_40 ⟨rfl, _, rfl, rfl, ?_⟩
    exact ⟨by rw [if_pos hb], rfl⟩
  have good : (T.2.1 - T.1 ≠ 0) → ¬ (4 < T.2.1 - T.1) → ¬ (1 < T.2.1 - T.1 ∧ ta tx len T.1 = 48) → w 41 [some (.ref 465), some (.int (nI (T.2.1 - T.1))), none, none] [] 0 zE im := fun g1 g2 g3 => by
    refine zz_iconst S (v := 0) rfl dX3_numberOfToken_41 (q := 42) rfl ?_
    refine zz_istore_2 S rfl dX3_numberOfToken_42 (q := 43) rfl ?_
    refine zz_aload_0 S dX3_numberOfToken_43 (q := 44) rfl ?_
    refine zz_getI S fX3_29 rfl (Nat.le_of_ble_eq_true rfl) rfl dX3_numberOfToken_44 (q := 47) rfl ?_
    refine zz_istore_3 S rfl dX3_numberOfToken_47 (q := 48) rfl ?_
    -- at 48
    by_cases hk2 : T.2.2 = 2
    · have hnb : ¬ rk_bad tx len T := by
        rintro (e | e | e)
        · exact e hk2
        · exact g2 e
        · exact g3 e
      refine lx_numTok (Z := rk_v tx len T) S hP0 h4 hti.2.2.1 ⟨rfl, _, rfl, rfl, by rw [if_neg hnb], rfl⟩ (T.2.1 - T.1) T.1 _ 0 (by omega) h3 (k2 hk2).2 rfl
    · have hb : rk_bad tx len T := Or.inl hk2
      have hlt : T.1 < T.2.1 := by omega
      have hnd : kd (tx T.1) ≠ 2 := by
        rcases (show T.2.2 = 0 ∨ T.2.2 = 1 ∨ T.2.2 = 3 by omega) with e | e | e
        · have := k0 e
          omega
        · rw [(k1 e).2 T.1 (Nat.le_refl _) hlt]
          decide
        · rw [(k3 e).2]
          decide
      refine zz_iload_3 S dX3_numberOfToken_48 (q := 49) rfl ?_
      refine zz_aload_0 S dX3_numberOfToken_49 (q := 50) rfl ?_
      refine zz_getI S fX3_32 rfl (Nat.le_of_ble_eq_true rfl) rfl dX3_numberOfToken_50 (q := 53) rfl ?_
      refine zz_icmp_ge S dX3_numberOfToken_53 (t := 92) (by decide) (q := 56) rfl (fun a1 => ?_) (fun a1 => ?_)
      -- then 92 else 56
      · exact absurd a1 (by rw [h3, h4]; exact nI_ge hlt (by omega))
      · refine zz_aload_0 S dX3_numberOfToken_56 (q := 57) rfl ?_
        refine zz_getR S fX3_9 rfl (Nat.le_of_ble_eq_true rfl) rfl rfl dX3_numberOfToken_57 (q := 60) rfl ?_
        refine zz_iload_3 S dX3_numberOfToken_60 (q := 61) rfl ?_
        refine zz_caN S (j := T.1) (Nat.le_of_ble_eq_true rfl) rfl (Nat.le_of_ble_eq_true rfl) h3 (by omega) dX3_numberOfToken_61 (q := 62) rfl ?_
        -- at 62: invokestatic 35
        refine zz_statP S yy_X3_kindOf lX3_35 (cx_kindOf (im 466 T.1) zE im) rfl (Nat.le_of_ble_eq_true rfl) (Nat.le_of_ble_eq_true rfl) rfl dX3_numberOfToken_62 (q := 65) rfl ?_
        rw [htx T.1 (by omega)]
        refine zz_iconst S (v := 2) rfl dX3_numberOfToken_65 (q := 66) rfl ?_
        refine zz_icmp_eq S dX3_numberOfToken_66 (t := 71) (by decide) (q := 69) rfl (fun a2 => ?_) (fun a2 => ?_)
        -- then 71 else 69
        · exact absurd a2 hnd
        · refine zz_iconst S (v := (-1)) rfl dX3_numberOfToken_69 (q := 70) rfl ?_
          -- at 70: ireturn 
          refine zz_iret S dX3_numberOfToken_70 ⟨rfl, _, rfl, rfl, ?_⟩
          exact ⟨by rw [if_pos hb], rfl⟩
  refine zz_aload_0 S dX3_numberOfToken_0 (q := 1) rfl ?_
  refine zz_getI S fX3_32 rfl (Nat.le_of_ble_eq_true rfl) rfl dX3_numberOfToken_1 (q := 4) rfl ?_
  refine zz_aload_0 S dX3_numberOfToken_4 (q := 5) rfl ?_
  refine zz_getI S fX3_29 rfl (Nat.le_of_ble_eq_true rfl) rfl dX3_numberOfToken_5 (q := 8) rfl ?_
  refine zz_isub S dX3_numberOfToken_8 (q := 9) rfl ?_
  refine zz_istore_1 S rfl dX3_numberOfToken_9 (q := 10) rfl ?_
  -- at 10
  rw [hd]
  refine zz_iload_1 S dX3_numberOfToken_10 (q := 11) rfl ?_
  refine zz_iconst S (v := 1) rfl dX3_numberOfToken_11 (q := 12) rfl ?_
  refine zz_icmp_lt S dX3_numberOfToken_12 (t := 39) (by decide) (q := 15) rfl (fun a1 => ?_) (fun a1 => ?_)
  -- then 39 else 15
  · have e := l1.mp a1
    refine bad _ (Or.inl (fun q => ?_))
    have := (k2 q).1
    omega
  · have e1 : T.2.1 - T.1 ≠ 0 := fun e => a1 (l1.mpr e)
    refine zz_iload_1 S dX3_numberOfToken_15 (q := 16) rfl ?_
    refine zz_iconst S (v := 4) rfl dX3_numberOfToken_16 (q := 17) rfl ?_
    refine zz_icmp_gt S dX3_numberOfToken_17 (t := 39) (by decide) (q := 20) rfl (fun a2 => ?_) (fun a2 => ?_)
    -- then 39 else 20
    · exact bad _ (Or.inr (Or.inl (l4.mp a2)))
    · have e2 : ¬ 4 < T.2.1 - T.1 := fun e => a2 (l4.mpr e)
      refine zz_iload_1 S dX3_numberOfToken_20 (q := 21) rfl ?_
      refine zz_iconst S (v := 1) rfl dX3_numberOfToken_21 (q := 22) rfl ?_
      refine zz_icmp_le S dX3_numberOfToken_22 (t := 41) (by decide) (q := 25) rfl (fun a3 => ?_) (fun a3 => ?_)
      -- then 41 else 25
      · exact good e1 e2 (fun e => l2.mp a3 e.1)
      · have e3 : 1 < T.2.1 - T.1 := Classical.byContradiction (fun e => a3 (l2.mpr e))
        refine zz_aload_0 S dX3_numberOfToken_25 (q := 26) rfl ?_
        refine zz_getR S fX3_9 rfl (Nat.le_of_ble_eq_true rfl) rfl rfl dX3_numberOfToken_26 (q := 29) rfl ?_
        refine zz_aload_0 S dX3_numberOfToken_29 (q := 30) rfl ?_
        refine zz_getI S fX3_29 rfl (Nat.le_of_ble_eq_true rfl) rfl dX3_numberOfToken_30 (q := 33) rfl ?_
        refine zz_caN S (j := T.1) (Nat.le_of_ble_eq_true rfl) rfl (Nat.le_of_ble_eq_true rfl) h3 (by omega) dX3_numberOfToken_33 (q := 34) rfl ?_
        refine zz_bipush S (v := 48) rfl dX3_numberOfToken_34 (q := 36) rfl ?_
        refine zz_icmp_ne S dX3_numberOfToken_36 (t := 41) (by decide) (q := 39) rfl (fun a4 => ?_) (fun a4 => ?_)
        -- then 41 else 39
        · rw [htx T.1 (by omega)] at a4
          exact good e1 e2 (fun e => a4 (by have q := e.2; rw [ta_in (show T.1 < len by omega)] at q; exact q))
        · rw [htx T.1 (by omega)] at a4
          exact bad _ (Or.inr (Or.inr ⟨e3, by rw [ta_in (show T.1 < len by omega)]; exact a4⟩))
end ZCNB
