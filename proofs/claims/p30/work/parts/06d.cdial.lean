/-! THE CLASS: dials -/
def zs_cs (a b : Int64) : Int32 := if 0 < b ∧ -3000 ≤ zs_rd (1000 * a) b ∧ zs_rd (1000 * a) b ≤ 3000 then (zs_rd (1000 * a) b).toInt32 else -100009
theorem zs_dial_cs (f v d : Int32) (i : Nat) : zs_dial f v d i = zs_cs (zs_side f v (zs_t i)) (zs_front f v d (zs_t i)) := rfl
section ZCDL
variable {G : ZG} {l : Launch}
theorem cx_shadow (a b : Int64) (E : ZE) (im : ZI) : zz_OP G l 1 mX1_offsetOfShadow [.long a, .long b] E im (zs_cs a b) := by
  refine zz_intro (isI := false) (by decide) rfl (Nat.le_of_ble_eq_true rfl) (fun h => by cases h) (fun w S => ?_)
  refine zz_lload_2 S dX1_offsetOfShadow_0 (q := 1) rfl ?_
  refine zz_lconst S (v := 0) rfl dX1_offsetOfShadow_1 (q := 2) rfl ?_
  refine zz_lcmp S dX1_offsetOfShadow_2 (q := 3) rfl ?_
  refine zz_if_gt S dX1_offsetOfShadow_3 (t := 9) (by decide) (q := 6) rfl (fun a1 => ?_) (fun a1 => ?_)
  -- then 9 else 6
  · have hb : 0 < b := (lg_cmp_gt _ _).mp a1
    refine zz_ldc2 S (v := 1000) kX1_26 dX1_offsetOfShadow_9 (q := 12) rfl ?_
    refine zz_lload_0 S dX1_offsetOfShadow_12 (q := 13) rfl ?_
    refine zz_lmul S dX1_offsetOfShadow_13 (q := 14) rfl ?_
    refine zz_lload_2 S dX1_offsetOfShadow_14 (q := 15) rfl ?_
    -- at 15: invokestatic 28
    refine zz_statNPL S yy_X7_rounded lX1_28 (cx_rounded (1000 * a) b hb E im) rfl (Nat.le_of_ble_eq_true rfl) (Nat.le_of_ble_eq_true rfl) rfl dX1_offsetOfShadow_15 (q := 18) rfl ?_
    refine zz_lstore_4 S rfl dX1_offsetOfShadow_18 (q := 20) rfl ?_
    refine zz_lload_4 S dX1_offsetOfShadow_20 (q := 22) rfl ?_
    refine zz_ldc2 S (v := (-3000)) kX1_32 dX1_offsetOfShadow_22 (q := 25) rfl ?_
    refine zz_lcmp S dX1_offsetOfShadow_25 (q := 26) rfl ?_
    refine zz_if_lt S dX1_offsetOfShadow_26 (t := 38) (by decide) (q := 29) rfl (fun b1 => ?_) (fun b1 => ?_)
    · refine zz_ldc S (v := (-100009)) kX1_25 dX1_offsetOfShadow_38 (q := 40) rfl ?_
      refine zz_goto S dX1_offsetOfShadow_40 (t := 46) (by decide) ?_
      refine zz_iret S dX1_offsetOfShadow_46 ⟨rfl, _, rfl, rfl, ?_⟩
      refine ⟨?_, rfl⟩
      unfold zs_cs
      first | (rw [lg_cmp_lt] at b1; rw [if_neg (fun e => absurd e.2.1 (Int64.not_le.mpr b1))]) | (rw [lg_cmp_le] at b2; rw [if_neg (fun e => b2 e.2.2)]) | (rw [lg_cmp_le] at b2; rw [lg_cmp_lt] at b1; rw [if_pos ⟨hb, Int64.not_lt.mp b1, b2⟩])
    · refine zz_lload_4 S dX1_offsetOfShadow_29 (q := 31) rfl ?_
      refine zz_ldc2 S (v := 3000) kX1_34 dX1_offsetOfShadow_31 (q := 34) rfl ?_
      refine zz_lcmp S dX1_offsetOfShadow_34 (q := 35) rfl ?_
      refine zz_if_le S dX1_offsetOfShadow_35 (t := 43) (by decide) (q := 38) rfl (fun b2 => ?_) (fun b2 => ?_)
      · refine zz_lload_4 S dX1_offsetOfShadow_43 (q := 45) rfl ?_
        refine zz_l2i S dX1_offsetOfShadow_45 (q := 46) rfl ?_
        refine zz_iret S dX1_offsetOfShadow_46 ⟨rfl, _, rfl, rfl, ?_⟩
        refine ⟨?_, rfl⟩
        unfold zs_cs
        first | (rw [lg_cmp_lt] at b1; rw [if_neg (fun e => absurd e.2.1 (Int64.not_le.mpr b1))]) | (rw [lg_cmp_le] at b2; rw [if_neg (fun e => b2 e.2.2)]) | (rw [lg_cmp_le] at b2; rw [lg_cmp_lt] at b1; rw [if_pos ⟨hb, Int64.not_lt.mp b1, b2⟩])
      · refine zz_ldc S (v := (-100009)) kX1_25 dX1_offsetOfShadow_38 (q := 40) rfl ?_
        refine zz_goto S dX1_offsetOfShadow_40 (t := 46) (by decide) ?_
        refine zz_iret S dX1_offsetOfShadow_46 ⟨rfl, _, rfl, rfl, ?_⟩
        refine ⟨?_, rfl⟩
        unfold zs_cs
        first | (rw [lg_cmp_lt] at b1; rw [if_neg (fun e => absurd e.2.1 (Int64.not_le.mpr b1))]) | (rw [lg_cmp_le] at b2; rw [if_neg (fun e => b2 e.2.2)]) | (rw [lg_cmp_le] at b2; rw [lg_cmp_lt] at b1; rw [if_pos ⟨hb, Int64.not_lt.mp b1, b2⟩])
  · refine zz_ldc S (v := (-100009)) kX1_25 dX1_offsetOfShadow_6 (q := 8) rfl ?_
    refine zz_iret S dX1_offsetOfShadow_8 ⟨rfl, _, rfl, rfl, ?_⟩
    refine ⟨?_, rfl⟩
    unfold zs_cs
    rw [gt_iff_lt, lg_cmp_gt] at a1
    rw [if_neg (fun e => a1 e.1)]
set_option maxHeartbeats 8000000 in
theorem lo_lay {n0 mcT msT : Nat} {isI : Bool} {Qf : Option Value → ZE → ZI → Prop} {w : Nat → ZL → List Value → Nat → ZE → ZI → Prop} {z : Nat} {im0 : ZI} {v lat dec : Int32} {s4 A B C : Int64} {c : Nat → Int32} (S : zz_S G l RX1 cX1_lay 17 2 n0 mcT msT isI none Qf w)
    (hc : ∀ i, i < 721 → c i = zs_cs (A * zs_sine (zs_t i)) (B * zs_sine (360 + zs_t i) + C * zs_sine (zs_t i))) (hQ : ∀ im', (∀ i, i < 721 → im' 469 i = c i) → zz_keep [469] im0 im' → Qf none zE im') :
    ∀ (n i : Nat) (x : Int32) (u1 u2 u3 u4 : Option Value) (im : ZI), i + n = 721 → x = zs_t i → (∀ j, j < i → im 469 j = c j) → zz_keep [469] im0 im → w 76 [some (.ref 468), some (.int v), some (.int lat), some (.int dec), some (.long s4), none, some (.long A), none, some (.long B), none, some (.long C), none, some (.int x), u1, u2, u3, u4] [] z zE im := by
  intro n
  induction n with
  | zero =>
    intro i x u1 u2 u3 u4 im hi hx hr hk
    have hi : i = 721 := by omega
    subst hi
    refine zz_iload_12 S dX1_lay_76 (q := 78) rfl ?_
    refine zz_sipush S (v := 360) rfl dX1_lay_78 (q := 81) rfl ?_
    refine zz_icmp_gt S dX1_lay_81 (t := 140) (by decide) (q := 84) rfl (fun a1 => ?_) (fun a1 => ?_)
    -- then 140 else 84
    · exact zz_vret S dX1_lay_140 (hQ im hr hk)
    · exact absurd (by rw [hx]; decide) a1
  | succ n ih =>
    intro i x u1 u2 u3 u4 im hi hx hr hk
    have hx1 := zs_t_i (i := i) (by omega)
    have hx2 : 360 + x = nI i := by rw [hx, Int32.add_comm]; exact zs_t_ix i
    have hx3 : (360 + x).toInt = i := by rw [hx2]; exact nI_toInt (by omega)
    have hix : x + 360 = nI i := by rw [hx]; exact zs_t_ix i
    have g1 : -720 ≤ x.toInt ∧ x.toInt ≤ 720 := by rw [hx]; omega
    have g2 : -720 ≤ (360 + x).toInt ∧ (360 + x).toInt ≤ 720 := by omega
    refine zz_iload_12 S dX1_lay_76 (q := 78) rfl ?_
    refine zz_sipush S (v := 360) rfl dX1_lay_78 (q := 81) rfl ?_
    refine zz_icmp_gt S dX1_lay_81 (t := 140) (by decide) (q := 84) rfl (fun a1 => ?_) (fun a1 => ?_)
    -- then 140 else 84
    · exact absurd a1 (by rw [gt_iff_lt, Int32.lt_iff_toInt_lt, hx, hx1]; show ¬ (360 : Int) < _; omega)
    · refine zz_iload_12 S dX1_lay_84 (q := 86) rfl ?_
      -- at 86: invokestatic 15
      refine zz_statNP S yy_X7_sineOf lX1_15 (cx_sineOf x g1.1 g1.2 zE im) rfl (Nat.le_of_ble_eq_true rfl) (Nat.le_of_ble_eq_true rfl) rfl dX1_lay_86 (q := 89) rfl ?_
      refine zz_i2l S dX1_lay_89 (q := 90) rfl ?_
      refine zz_lstore_13 S rfl dX1_lay_90 (q := 92) rfl ?_
      refine zz_sipush S (v := 360) rfl dX1_lay_92 (q := 95) rfl ?_
      refine zz_iload_12 S dX1_lay_95 (q := 97) rfl ?_
      refine zz_iadd S dX1_lay_97 (q := 98) rfl ?_
      -- at 98: invokestatic 15
      rw [zs_sine_32 g1.1 g1.2]
      refine zz_statNP S yy_X7_sineOf lX1_15 (cx_sineOf (360 + x) g2.1 g2.2 zE im) rfl (Nat.le_of_ble_eq_true rfl) (Nat.le_of_ble_eq_true rfl) rfl dX1_lay_98 (q := 101) rfl ?_
      refine zz_i2l S dX1_lay_101 (q := 102) rfl ?_
      refine zz_lstore_15 S rfl dX1_lay_102 (q := 104) rfl ?_
      refine zz_aload_0 S dX1_lay_104 (q := 105) rfl ?_
      refine zz_getR S fX1_9 rfl (Nat.le_of_ble_eq_true rfl) rfl rfl dX1_lay_105 (q := 108) rfl ?_
      refine zz_iload_12 S dX1_lay_108 (q := 110) rfl ?_
      refine zz_sipush S (v := 360) rfl dX1_lay_110 (q := 113) rfl ?_
      refine zz_iadd S dX1_lay_113 (q := 114) rfl ?_
      refine zz_lload_6 S dX1_lay_114 (q := 116) rfl ?_
      refine zz_lload_13 S dX1_lay_116 (q := 118) rfl ?_
      refine zz_lmul S dX1_lay_118 (q := 119) rfl ?_
      refine zz_lload_8 S dX1_lay_119 (q := 121) rfl ?_
      refine zz_lload_15 S dX1_lay_121 (q := 123) rfl ?_
      refine zz_lmul S dX1_lay_123 (q := 124) rfl ?_
      refine zz_lload_10 S dX1_lay_124 (q := 126) rfl ?_
      refine zz_lload_13 S dX1_lay_126 (q := 128) rfl ?_
      refine zz_lmul S dX1_lay_128 (q := 129) rfl ?_
      refine zz_ladd S dX1_lay_129 (q := 130) rfl ?_
      -- at 130: invokestatic 21
      rw [zs_sine_32 g2.1 g2.2]
      refine zz_statP S yy_X1_offsetOfShadow lX1_21 (cx_shadow (A * zs_sine x) (B * zs_sine (360 + x) + C * zs_sine x) zE im) rfl (Nat.le_of_ble_eq_true rfl) (Nat.le_of_ble_eq_true rfl) rfl dX1_lay_130 (q := 133) rfl ?_
      refine zz_iaS S (j := i) (Nat.le_of_ble_eq_true rfl) rfl (Nat.le_of_ble_eq_true rfl) hix (by omega) dX1_lay_133 (q := 134) rfl ?_
      refine zz_iinc_12 S rfl dX1_lay_134 (q := 137) rfl ?_
      refine zz_goto S dX1_lay_137 (t := 76) (by decide) ?_
      -- at 76
      refine ih (i + 1) _ _ _ _ _ _ (by omega) (by rw [hx]; exact zs_t_add i 1) (fun j hj => ?_) (hk.u (by decide))
      by_cases hji : j = i
      · rw [hji, zz_u_e, hc i (by omega), ← hx]
      · rw [zz_u_n _ _ (Or.inr hji)]
        exact hr j (by omega)
theorem zs_4 {a b : Int} {x : Int32} (h : sB a b x) (ha : -90 ≤ a) (hb : b ≤ 90) : (4 * x).toInt = 4 * x.toInt ∧ (360 + 4 * x).toInt = 360 + 4 * x.toInt := by
  obtain ⟨h1, h2⟩ := h
  have e1 : (4 * x).toInt = 4 * x.toInt := by
    rw [Int32.toInt_mul, show ((4 : Int32)).toInt = 4 from rfl, Int.bmod_eq_of_le (by omega) (by omega)]
  refine ⟨e1, ?_⟩
  rw [Int32.toInt_add, e1, show ((360 : Int32)).toInt = 360 from rfl, Int.bmod_eq_of_le (by omega) (by omega)]
set_option maxHeartbeats 4000000 in
theorem cx_lay (v lat dec : Int32) (im : ZI) (hl : sB 10 70 lat) (hd : v = 0 ∨ sB (-60) 60 dec) : zz_OV G l 2 mX1_lay [.ref 468, .int v, .int lat, .int dec] zE im (fun im' => (∀ i, i < 721 → im' 469 i = zs_dial (4 * lat) v (4 * dec) i) ∧ zz_keep [469] im im') := by
  have q1 := zs_4 hl (by omega) (by omega)
  obtain ⟨hl1, hl2⟩ := hl
  refine zz_intro (isI := false) (by decide) rfl (Nat.le_of_ble_eq_true rfl) (fun h => by cases h) (fun w S => ?_)
  refine zz_iconst S (v := 4) rfl dX1_lay_0 (q := 1) rfl ?_
  refine zz_iload_2 S dX1_lay_1 (q := 2) rfl ?_
  refine zz_imul S dX1_lay_2 (q := 3) rfl ?_
  -- at 3: invokestatic 15
  refine zz_statNP S yy_X7_sineOf lX1_15 (cx_sineOf (4 * lat) (by omega) (by omega) zE im) rfl (Nat.le_of_ble_eq_true rfl) (Nat.le_of_ble_eq_true rfl) rfl dX1_lay_3 (q := 6) rfl ?_
  refine zz_i2l S dX1_lay_6 (q := 7) rfl ?_
  refine zz_lstore_4 S rfl dX1_lay_7 (q := 9) rfl ?_
  refine zz_lload_4 S dX1_lay_9 (q := 11) rfl ?_
  refine zz_lstore_6 S rfl dX1_lay_11 (q := 13) rfl ?_
  refine zz_ldc2 S (v := 10000) kX1_19 dX1_lay_13 (q := 16) rfl ?_
  refine zz_lstore_8 S rfl dX1_lay_16 (q := 18) rfl ?_
  refine zz_lconst S (v := 0) rfl dX1_lay_18 (q := 19) rfl ?_
  refine zz_lstore_10 S rfl dX1_lay_19 (q := 21) rfl ?_
  refine zz_iload_1 S dX1_lay_21 (q := 22) rfl ?_
  refine zz_if_eq S dX1_lay_22 (t := 71) (by decide) (q := 25) rfl (fun a1 => ?_) (fun a1 => ?_)
  -- then 71 else 25
  · have hv : v = 0 := a1
    rw [zs_sine_32 (by omega) (by omega)]
    refine zz_sipush S (v := (-360)) rfl dX1_lay_71 (q := 74) rfl ?_
    refine zz_istore_12 S rfl dX1_lay_74 (q := 76) rfl ?_
    -- at 76
    refine lo_lay (im0 := im) (c := zs_dial (4 * lat) v (4 * dec)) S (fun i hi => ?_) (fun im' a b => ⟨rfl, rfl, rfl, a, b⟩) 721 0 _ _ _ _ _ im (by omega) rfl (fun j hj => absurd hj (Nat.not_lt_zero j)) zz_keep.rf
    rw [zs_dial_cs, zs_side, zs_front, if_pos hv, if_pos hv, Int64.zero_mul, Int64.add_zero]
  · have hv : ¬ v = 0 := a1
    have hd2 : sB (-60) 60 dec := hd.resolve_left hv
    have q2 := zs_4 hd2 (by omega) (by omega)
    obtain ⟨hd3, hd4⟩ := hd2
    rw [zs_sine_32 (by omega) (by omega)]
    refine zz_ldc2 S (v := 10000) kX1_19 dX1_lay_25 (q := 28) rfl ?_
    refine zz_sipush S (v := 360) rfl dX1_lay_28 (q := 31) rfl ?_
    refine zz_iconst S (v := 4) rfl dX1_lay_31 (q := 32) rfl ?_
    refine zz_iload_2 S dX1_lay_32 (q := 33) rfl ?_
    refine zz_imul S dX1_lay_33 (q := 34) rfl ?_
    refine zz_iadd S dX1_lay_34 (q := 35) rfl ?_
    -- at 35: invokestatic 15
    refine zz_statNP S yy_X7_sineOf lX1_15 (cx_sineOf (360 + 4 * lat) (by omega) (by omega) zE im) rfl (Nat.le_of_ble_eq_true rfl) (Nat.le_of_ble_eq_true rfl) rfl dX1_lay_35 (q := 38) rfl ?_
    refine zz_i2l S dX1_lay_38 (q := 39) rfl ?_
    refine zz_lmul S dX1_lay_39 (q := 40) rfl ?_
    refine zz_lstore_6 S rfl dX1_lay_40 (q := 42) rfl ?_
    refine zz_ldc2 S (v := 10000) kX1_19 dX1_lay_42 (q := 45) rfl ?_
    refine zz_sipush S (v := 360) rfl dX1_lay_45 (q := 48) rfl ?_
    refine zz_iconst S (v := 4) rfl dX1_lay_48 (q := 49) rfl ?_
    refine zz_iload_3 S dX1_lay_49 (q := 50) rfl ?_
    refine zz_imul S dX1_lay_50 (q := 51) rfl ?_
    refine zz_iadd S dX1_lay_51 (q := 52) rfl ?_
    -- at 52: invokestatic 15
    rw [zs_sine_32 (by omega) (by omega)]
    refine zz_statNP S yy_X7_sineOf lX1_15 (cx_sineOf (360 + 4 * dec) (by omega) (by omega) zE im) rfl (Nat.le_of_ble_eq_true rfl) (Nat.le_of_ble_eq_true rfl) rfl dX1_lay_52 (q := 55) rfl ?_
    refine zz_i2l S dX1_lay_55 (q := 56) rfl ?_
    refine zz_lmul S dX1_lay_56 (q := 57) rfl ?_
    refine zz_lstore_8 S rfl dX1_lay_57 (q := 59) rfl ?_
    refine zz_iconst S (v := 4) rfl dX1_lay_59 (q := 60) rfl ?_
    refine zz_iload_3 S dX1_lay_60 (q := 61) rfl ?_
    refine zz_imul S dX1_lay_61 (q := 62) rfl ?_
    -- at 62: invokestatic 15
    rw [zs_sine_32 (by omega) (by omega)]
    refine zz_statNP S yy_X7_sineOf lX1_15 (cx_sineOf (4 * dec) (by omega) (by omega) zE im) rfl (Nat.le_of_ble_eq_true rfl) (Nat.le_of_ble_eq_true rfl) rfl dX1_lay_62 (q := 65) rfl ?_
    refine zz_i2l S dX1_lay_65 (q := 66) rfl ?_
    refine zz_lload_4 S dX1_lay_66 (q := 68) rfl ?_
    refine zz_lmul S dX1_lay_68 (q := 69) rfl ?_
    refine zz_lstore_10 S rfl dX1_lay_69 (q := 71) rfl ?_
    refine zz_sipush S (v := (-360)) rfl dX1_lay_71 (q := 74) rfl ?_
    refine zz_istore_12 S rfl dX1_lay_74 (q := 76) rfl ?_
    -- at 76
    rw [zs_sine_32 (by omega) (by omega)]
    refine lo_lay (im0 := im) (c := zs_dial (4 * lat) v (4 * dec)) S (fun i hi => ?_) (fun im' a b => ⟨rfl, rfl, rfl, a, b⟩) 721 0 _ _ _ _ _ im (by omega) rfl (fun j hj => absurd hj (Nat.not_lt_zero j)) zz_keep.rf
    rw [zs_dial_cs, zs_side, zs_front, if_neg hv, if_neg hv]
/-- the class's dial -/
def zx_dial (im : ZI) (c : Nat → Int32) : Prop := ∀ i, i < 721 → im 469 i = c i
theorem zx_at (x : Int32) (i : Nat) (c : Nat → Int32) (im : ZI) (hx : x = zs_t i) (hi : i < 721) (hc : zx_dial im c) : zz_OP G l 1 mX1_offsetAt [.ref 468, .int x] zE im (c i) := by
  have hix : x + 360 = nI i := by rw [hx]; exact zs_t_ix i
  have hx1 := zs_t_i (i := i) (by omega)
  have hin : x ≥ -360 ∧ x ≤ 360 := by
    constructor
    · rw [ge_iff_le, Int32.le_iff_toInt_le, hx, hx1]
      show (-360 : Int) ≤ _
      omega
    · rw [Int32.le_iff_toInt_le, hx, hx1]
      show _ ≤ (360 : Int)
      omega
  refine zz_intro (isI := false) (by decide) rfl (Nat.le_of_ble_eq_true rfl) (fun h => by cases h) (fun w S => ?_)
  refine zz_iload_1 S dX1_offsetAt_0 (q := 1) rfl ?_
  refine zz_sipush S (v := (-360)) rfl dX1_offsetAt_1 (q := 4) rfl ?_
  refine zz_sipush S (v := 360) rfl dX1_offsetAt_4 (q := 7) rfl ?_
  -- at 7: invokestatic 36
  refine zz_statNP S yy_X7_isWithin lX1_36 (cx_within x (-360) 360 zE im) rfl (Nat.le_of_ble_eq_true rfl) (Nat.le_of_ble_eq_true rfl) rfl dX1_offsetAt_7 (q := 10) rfl ?_
  rw [if_pos hin]
  refine zz_if_ne S dX1_offsetAt_10 (t := 16) (by decide) (q := 13) rfl (fun h1 => ?_) (fun h1 => ?_)
  · refine zz_aload_0 S dX1_offsetAt_16 (q := 17) rfl ?_
    refine zz_getR S fX1_9 rfl (Nat.le_of_ble_eq_true rfl) rfl rfl dX1_offsetAt_17 (q := 20) rfl ?_
    refine zz_iload_1 S dX1_offsetAt_20 (q := 21) rfl ?_
    refine zz_sipush S (v := 360) rfl dX1_offsetAt_21 (q := 24) rfl ?_
    refine zz_iadd S dX1_offsetAt_24 (q := 25) rfl ?_
    refine zz_iaN S (j := i) (Nat.le_of_ble_eq_true rfl) rfl (Nat.le_of_ble_eq_true rfl) hix hi dX1_offsetAt_25 (q := 26) rfl ?_
    refine zz_iret S dX1_offsetAt_26 ⟨rfl, _, rfl, rfl, ?_⟩
    first | exact ⟨hc i hi, rfl⟩ | exact absurd h1 (by decide)
  · refine zz_ldc S (v := (-100009)) kX1_25 dX1_offsetAt_13 (q := 15) rfl ?_
    refine zz_iret S dX1_offsetAt_15 ⟨rfl, _, rfl, rfl, ?_⟩
    first | exact ⟨hc i hi, rfl⟩ | exact absurd h1 (by decide)
end ZCDL
