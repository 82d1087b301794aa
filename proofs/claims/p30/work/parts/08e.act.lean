/-! THE LAW: low, isError, act -/
abbrev sr (v k : Int32) : Int32 := v >>> (k &&& 31)
def lw (v n : Int32) : Int32 := (v &&& 2147483647) - (v &&& 2147483647) / n * n
theorem lw_in (v : Int32) {d : Nat} (h0 : 0 < d) (hd : d < 2 ^ 31) : ∃ r, r < d ∧ lw v (nI d) = nI r := by
  obtain ⟨j, hj, e⟩ := pk_andE v (m := 2147483647) 31 (by decide)
  refine ⟨j % d, Nat.mod_lt _ h0, ?_⟩
  unfold lw
  rw [e]
  exact pk_rem hj h0 hd
def aq (s : ZSt) (n : Nat) (h : Nat → ZSt) (nw nc : Nat) (v : Int32) : ZQ := match (v &&& 15).toNatClampNeg with
  | 0 => ox_corr s n h (lw (sr v 4) 12) (lw (sr v 8) 41 - (20 : Int32))
  | 1 => ox_set s n h 0 (lw (sr v 4) 11)
  | 2 => ox_set s n h 2 (lw (sr v 4) 61)
  | 3 => ox_set s n h 3 ((1 : Int32) + lw (sr v 4) 40)
  | 4 => ox_wall s n h nw
  | 5 => ox_meas s n h (lw (sr v 4) (s 0 + 1)) (lw (sr v 8) 9 - (4 : Int32) + (10 : Int32) * (sr v 12 &&& (1 : Int32)))
  | 6 => ox_meas s n h (lw (sr v 4) (s 0 + 1)) (lw (sr v 8) 9 - (4 : Int32) + (10 : Int32) * (sr v 12 &&& (1 : Int32)))
  | 7 => ox_ask s n h nc ((10 : Int32) + lw (sr v 6) 61) (lw (sr v 4) (s 0 + 1) - (1 : Int32)) ((10 : Int32) + lw (sr v 12) 45) (lw (sr v 17) 121 - (60 : Int32))
  | 8 => ox_ask s n h nc ((10 : Int32) + lw (sr v 6) 61) (lw (sr v 4) (s 0 + 1) - (1 : Int32)) ((10 : Int32) + lw (sr v 12) 45) (lw (sr v 17) 121 - (60 : Int32))
  | 9 => ox_dec s n h (lw (sr v 4) (s 1 + 1))
  | 10 => ox_dec s n h (lw (sr v 4) (s 1 + 1))
  | 11 => ox_again s n h (lw (sr v 4) (s 1 + 1))
  | 12 => ox_cas s n h nc
  | 13 => ox_del s n h nc (lw (sr v 4) (s 1 + 1))
  | 14 => ox_set s n h 1 ((1 : Int32) + lw (sr v 4) 13)
  | _ => ox_take s n h (sr v 4 &&& (1 : Int32))
section ZACT
variable {G : ZG} {l : Launch} {im : ZI} {s : ZSt} {n nw nc : Nat} {h : Nat → ZSt}
theorem zz_statL {own : String} {cc : ByteArray} {nL d n0 mcT msT : Nat} {isI : Bool} {rt : Option FieldType} {Qf : Option Value → ZE → ZI → Prop} {w : Nat → ZL → List Value → Nat → ZE → ZI → Prop} {pc q : Nat} {L : ZL} {st rest as : List Value} {z : Nat} {E : ZE} {idx d2 : Nat} {y : ZY} {q2 : Int64 → ZI → Prop} (S : zz_S G l own cc nL d n0 mcT msT isI rt Qf w) {n : Nat} (hy : zz_YS y n) (hlk : Cond.methodLink own idx y.1 ∈ zz_t) (hO : zz_OL G l d2 y as E im q2) (hn : as.length = n) (hdd : d2 + 1 ≤ d) (hrs : (rest.map fun v => v.category).sum ≤ 8) (hst : as.reverse ++ rest = st) (hd : decode cc pc = .ok (.invokestatic idx, 3)) (hq : pc + 3 = q)
    (kk : ∀ (r : Int64) (im' : ZI), q2 r im' → w q L (.long r :: rest) z E im') : w pc L st z E im :=
  zz_stat S (hn ▸ hy) hlk hO hdd (fun h => h) (fun h => h) hrs hst hd hq (fun v E' im' h1 h2 => by obtain ⟨r, rfl, rfl, h⟩ := h2; exact kk r im' h)
theorem ll_low (v n : Int32) (hn : ¬ n = 0) (E : ZE) (im : ZI) : zz_OP G l 0 mL_low [.int v, .int n] E im (lw v n) := by
  refine zz_intro (isI := false) (by decide) rfl (Nat.le_of_ble_eq_true rfl) (fun h => by cases h) (fun w S => ?_)
  refine zz_iload_0 S dL_low_0 (q := 1) rfl ?_
  refine zz_ldc S (v := 2147483647) kL_7 dL_low_1 (q := 3) rfl ?_
  refine zz_iand S dL_low_3 (q := 4) rfl ?_
  refine zz_iload_1 S dL_low_4 (q := 5) rfl ?_
  refine zz_irem S hn dL_low_5 (q := 6) rfl ?_
  refine zz_iret S dL_low_6 ⟨rfl, _, rfl, rfl, ?_⟩
  exact ⟨rfl, rfl⟩
theorem ll_isError (x : Int32) (E : ZE) (im : ZI) : zz_OP G l 0 mL_isError [.int x] E im (if x = -100001 ∨ x = -100002 ∨ x = -100003 then 1 else 0) := by
  refine zz_intro (isI := false) (by decide) rfl (Nat.le_of_ble_eq_true rfl) (fun h => by cases h) (fun w S => ?_)
  have key : (x = -100001 ∨ x = -100002 ∨ x = -100003) ↔ ¬ x > -100001 ∧ ¬ x < -100003 := by
    rw [gt_iff_lt, Int32.lt_iff_toInt_lt, Int32.lt_iff_toInt_lt, ← Int32.toInt_inj, ← Int32.toInt_inj, ← Int32.toInt_inj, show ((-100001 : Int32)).toInt = -100001 from rfl, show ((-100002 : Int32)).toInt = -100002 from rfl, show ((-100003 : Int32)).toInt = -100003 from rfl]
    omega
  refine zz_iload_0 S dL_isError_0 (q := 1) rfl ?_
  refine zz_ldc S (v := (-100001)) kL_65 dL_isError_1 (q := 3) rfl ?_
  refine zz_icmp_gt S dL_isError_3 (t := 16) (by decide) (q := 6) rfl (fun h1 => ?_) (fun h1 => ?_)
  · refine zz_iconst S (v := 0) rfl dL_isError_16 (q := 17) rfl ?_
    refine zz_zret S rfl dL_isError_17 ⟨rfl, _, rfl, rfl, ?_⟩
    refine ⟨?_, rfl⟩
    first | exact (if_pos (key.mpr ⟨h1, h2⟩)).symm | exact (if_neg (fun e => (key.mp e).1 h1)).symm | exact (if_neg (fun e => (key.mp e).2 h2)).symm
  · refine zz_iload_0 S dL_isError_6 (q := 7) rfl ?_
    refine zz_ldc S (v := (-100003)) kL_66 dL_isError_7 (q := 9) rfl ?_
    refine zz_icmp_lt S dL_isError_9 (t := 16) (by decide) (q := 12) rfl (fun h2 => ?_) (fun h2 => ?_)
    · refine zz_iconst S (v := 0) rfl dL_isError_16 (q := 17) rfl ?_
      refine zz_zret S rfl dL_isError_17 ⟨rfl, _, rfl, rfl, ?_⟩
      refine ⟨?_, rfl⟩
      first | exact (if_pos (key.mpr ⟨h1, h2⟩)).symm | exact (if_neg (fun e => (key.mp e).1 h1)).symm | exact (if_neg (fun e => (key.mp e).2 h2)).symm
    · refine zz_iconst S (v := 1) rfl dL_isError_12 (q := 13) rfl ?_
      refine zz_goto S dL_isError_13 (t := 17) (by decide) ?_
      refine zz_zret S rfl dL_isError_17 ⟨rfl, _, rfl, rfl, ?_⟩
      refine ⟨?_, rfl⟩
      first | exact (if_pos (key.mpr ⟨h1, h2⟩)).symm | exact (if_neg (fun e => (key.mp e).1 h1)).symm | exact (if_neg (fun e => (key.mp e).2 h2)).symm
theorem sN_ne {nw : Nat} {x : Int32} (h : x = nI nw) (hn : nw ≤ 10) : ¬ x + 1 = 0 := by
  rw [h, nI_1]
  exact nI_ne0 (by omega) (by omega)
set_option maxHeartbeats 4000000 in
theorem ll_act (v : Int32) (hY0 : zY im s n h nw nc) : zz_OI G l 7 mL_act [.ref 0, .int v] zE im (fun r im' => zAQ im' r (aq s n h nw nc v)) := by
  refine zz_intro (isI := false) (by decide) rfl (Nat.le_of_ble_eq_true rfl) (fun h => by cases h) (fun w S => ?_)
  refine zz_iload_1 S dL_act_0 (q := 1) rfl ?_
  refine zz_iconst S (v := 4) rfl dL_act_1 (q := 2) rfl ?_
  refine zz_ishr S dL_act_2 (q := 3) rfl ?_
  refine zz_aload_0 S dL_act_3 (q := 4) rfl ?_
  refine zz_iconst S (v := 0) rfl dL_act_4 (q := 5) rfl ?_
  -- at 5: invokevirtual 12
  refine zz_virtI S yy_X7_count lL_12 (ci := 7) (by decide) rfl (lk_count 0 hY0) rfl (Nat.le_of_ble_eq_true rfl) (Nat.le_of_ble_eq_true rfl) rfl (Nat.le_of_ble_eq_true rfl) rfl dL_act_5 (q := 8) rfl ?_
  rintro r1 im1 ⟨e1, hY1⟩
  rw [oc_0] at e1
  subst e1
  refine zz_iconst S (v := 1) rfl dL_act_8 (q := 9) rfl ?_
  refine zz_iadd S dL_act_9 (q := 10) rfl ?_
  -- at 10: invokestatic 28
  refine zz_statP S yy_L_low lL_28 (ll_low (sr v 4) (s 0 + 1) (sN_ne hY0.2.1.1 (by have := hY0.2.1.2.1; omega)) zE im1) rfl (Nat.le_of_ble_eq_true rfl) (Nat.le_of_ble_eq_true rfl) rfl dL_act_10 (q := 13) rfl ?_
  refine zz_istore_2 S rfl dL_act_13 (q := 14) rfl ?_
  refine zz_iload_1 S dL_act_14 (q := 15) rfl ?_
  refine zz_iconst S (v := 4) rfl dL_act_15 (q := 16) rfl ?_
  refine zz_ishr S dL_act_16 (q := 17) rfl ?_
  refine zz_aload_0 S dL_act_17 (q := 18) rfl ?_
  refine zz_iconst S (v := 2) rfl dL_act_18 (q := 19) rfl ?_
  -- at 19: invokevirtual 12
  refine zz_virtI S yy_X7_count lL_12 (ci := 7) (by decide) rfl (lk_count 2 hY1) rfl (Nat.le_of_ble_eq_true rfl) (Nat.le_of_ble_eq_true rfl) rfl (Nat.le_of_ble_eq_true rfl) rfl dL_act_19 (q := 22) rfl ?_
  rintro r2 im2 ⟨e2, hY⟩
  rw [oc_2] at e2
  subst e2
  refine zz_iconst S (v := 1) rfl dL_act_22 (q := 23) rfl ?_
  refine zz_iadd S dL_act_23 (q := 24) rfl ?_
  -- at 24: invokestatic 28
  refine zz_statP S yy_L_low lL_28 (ll_low (sr v 4) (s 1 + 1) (sN_ne hY0.2.1.2.2.1 hY0.2.1.2.2.2.1) zE im2) rfl (Nat.le_of_ble_eq_true rfl) (Nat.le_of_ble_eq_true rfl) rfl dL_act_24 (q := 27) rfl ?_
  refine zz_istore_3 S rfl dL_act_27 (q := 28) rfl ?_
  refine zz_iload_1 S dL_act_28 (q := 29) rfl ?_
  refine zz_bipush S (v := 15) rfl dL_act_29 (q := 31) rfl ?_
  refine zz_iand S dL_act_31 (q := 32) rfl ?_
  -- at 32: tableswitch 260 0 14 #[76, 101, 115, 129, 145, 150, 150, 177, 177, 221, 221, 227, 233, 238, 244]
  obtain ⟨k, hk, hx⟩ := pk_andE v (m := 15) 4 (by decide)
  have hxc : (v &&& 15).toNatClampNeg = k := by rw [hx]; exact nI_clamp (by omega)
  rw [hx]
  clear hx hY0 hY1
  rcases (show k = 0 ∨ k = 1 ∨ k = 2 ∨ k = 3 ∨ k = 4 ∨ k = 5 ∨ k = 6 ∨ k = 7 ∨ k = 8 ∨ k = 9 ∨ k = 10 ∨ k = 11 ∨ k = 12 ∨ k = 13 ∨ k = 14 ∨ k = 15 by omega) with rfl | rfl | rfl | rfl | rfl | rfl | rfl | rfl | rfl | rfl | rfl | rfl | rfl | rfl | rfl | rfl
  · refine zz_tabIn S dL_act_32 (by decide) (by decide) (off := 76) (by decide) (t := 108) (by decide) ?_
    refine zz_aload_0 S dL_act_108 (q := 109) rfl ?_
    refine zz_iload_1 S dL_act_109 (q := 110) rfl ?_
    refine zz_iconst S (v := 4) rfl dL_act_110 (q := 111) rfl ?_
    refine zz_ishr S dL_act_111 (q := 112) rfl ?_
    refine zz_bipush S (v := 12) rfl dL_act_112 (q := 114) rfl ?_
    refine zz_statP S yy_L_low lL_28 (ll_low (sr v 4) 12 (by decide) zE im2) rfl (Nat.le_of_ble_eq_true rfl) (Nat.le_of_ble_eq_true rfl) rfl dL_act_114 (q := 117) rfl ?_
    refine zz_iload_1 S dL_act_117 (q := 118) rfl ?_
    refine zz_bipush S (v := 8) rfl dL_act_118 (q := 120) rfl ?_
    refine zz_ishr S dL_act_120 (q := 121) rfl ?_
    refine zz_bipush S (v := 41) rfl dL_act_121 (q := 123) rfl ?_
    refine zz_statP S yy_L_low lL_28 (ll_low (sr v 8) 41 (by decide) zE im2) rfl (Nat.le_of_ble_eq_true rfl) (Nat.le_of_ble_eq_true rfl) rfl dL_act_123 (q := 126) rfl ?_
    refine zz_bipush S (v := 20) rfl dL_act_126 (q := 128) rfl ?_
    refine zz_isub S dL_act_128 (q := 129) rfl ?_
    refine zz_virtI S yy_X7_setCorrection lL_33 (ci := 7) (by decide) rfl (la_setCorrection _ _ hY) rfl (Nat.le_of_ble_eq_true rfl) (Nat.le_of_ble_eq_true rfl) rfl (Nat.le_of_ble_eq_true rfl) rfl dL_act_129 (q := 132) rfl (fun r129 i129 q129 => ?_)
    refine zz_iret S dL_act_132 ⟨rfl, _, rfl, rfl, ?_⟩
    unfold aq
    rw [hxc]
    exact q129
  · refine zz_tabIn S dL_act_32 (by decide) (by decide) (off := 101) (by decide) (t := 133) (by decide) ?_
    refine zz_aload_0 S dL_act_133 (q := 134) rfl ?_
    refine zz_iconst S (v := 0) rfl dL_act_134 (q := 135) rfl ?_
    refine zz_iload_1 S dL_act_135 (q := 136) rfl ?_
    refine zz_iconst S (v := 4) rfl dL_act_136 (q := 137) rfl ?_
    refine zz_ishr S dL_act_137 (q := 138) rfl ?_
    refine zz_bipush S (v := 11) rfl dL_act_138 (q := 140) rfl ?_
    refine zz_statP S yy_L_low lL_28 (ll_low (sr v 4) 11 (by decide) zE im2) rfl (Nat.le_of_ble_eq_true rfl) (Nat.le_of_ble_eq_true rfl) rfl dL_act_140 (q := 143) rfl ?_
    refine zz_virtI S yy_X7_set lL_36 (ci := 7) (by decide) rfl (la_set 0 _ hY) rfl (Nat.le_of_ble_eq_true rfl) (Nat.le_of_ble_eq_true rfl) rfl (Nat.le_of_ble_eq_true rfl) rfl dL_act_143 (q := 146) rfl (fun r143 i143 q143 => ?_)
    refine zz_iret S dL_act_146 ⟨rfl, _, rfl, rfl, ?_⟩
    unfold aq
    rw [hxc]
    exact q143
  · refine zz_tabIn S dL_act_32 (by decide) (by decide) (off := 115) (by decide) (t := 147) (by decide) ?_
    refine zz_aload_0 S dL_act_147 (q := 148) rfl ?_
    refine zz_iconst S (v := 2) rfl dL_act_148 (q := 149) rfl ?_
    refine zz_iload_1 S dL_act_149 (q := 150) rfl ?_
    refine zz_iconst S (v := 4) rfl dL_act_150 (q := 151) rfl ?_
    refine zz_ishr S dL_act_151 (q := 152) rfl ?_
    refine zz_bipush S (v := 61) rfl dL_act_152 (q := 154) rfl ?_
    refine zz_statP S yy_L_low lL_28 (ll_low (sr v 4) 61 (by decide) zE im2) rfl (Nat.le_of_ble_eq_true rfl) (Nat.le_of_ble_eq_true rfl) rfl dL_act_154 (q := 157) rfl ?_
    refine zz_virtI S yy_X7_set lL_36 (ci := 7) (by decide) rfl (la_set 2 _ hY) rfl (Nat.le_of_ble_eq_true rfl) (Nat.le_of_ble_eq_true rfl) rfl (Nat.le_of_ble_eq_true rfl) rfl dL_act_157 (q := 160) rfl (fun r157 i157 q157 => ?_)
    refine zz_iret S dL_act_160 ⟨rfl, _, rfl, rfl, ?_⟩
    unfold aq
    rw [hxc]
    exact q157
  · refine zz_tabIn S dL_act_32 (by decide) (by decide) (off := 129) (by decide) (t := 161) (by decide) ?_
    refine zz_aload_0 S dL_act_161 (q := 162) rfl ?_
    refine zz_iconst S (v := 3) rfl dL_act_162 (q := 163) rfl ?_
    refine zz_iconst S (v := 1) rfl dL_act_163 (q := 164) rfl ?_
    refine zz_iload_1 S dL_act_164 (q := 165) rfl ?_
    refine zz_iconst S (v := 4) rfl dL_act_165 (q := 166) rfl ?_
    refine zz_ishr S dL_act_166 (q := 167) rfl ?_
    refine zz_bipush S (v := 40) rfl dL_act_167 (q := 169) rfl ?_
    refine zz_statP S yy_L_low lL_28 (ll_low (sr v 4) 40 (by decide) zE im2) rfl (Nat.le_of_ble_eq_true rfl) (Nat.le_of_ble_eq_true rfl) rfl dL_act_169 (q := 172) rfl ?_
    refine zz_iadd S dL_act_172 (q := 173) rfl ?_
    refine zz_virtI S yy_X7_set lL_36 (ci := 7) (by decide) rfl (la_set 3 _ hY) rfl (Nat.le_of_ble_eq_true rfl) (Nat.le_of_ble_eq_true rfl) rfl (Nat.le_of_ble_eq_true rfl) rfl dL_act_173 (q := 176) rfl (fun r173 i173 q173 => ?_)
    refine zz_iret S dL_act_176 ⟨rfl, _, rfl, rfl, ?_⟩
    unfold aq
    rw [hxc]
    exact q173
  · refine zz_tabIn S dL_act_32 (by decide) (by decide) (off := 145) (by decide) (t := 177) (by decide) ?_
    refine zz_aload_0 S dL_act_177 (q := 178) rfl ?_
    refine zz_virtI S yy_X7_addWall lL_39 (ci := 7) (by decide) rfl (la_addWall hY) rfl (Nat.le_of_ble_eq_true rfl) (Nat.le_of_ble_eq_true rfl) rfl (Nat.le_of_ble_eq_true rfl) rfl dL_act_178 (q := 181) rfl (fun r178 i178 q178 => ?_)
    refine zz_iret S dL_act_181 ⟨rfl, _, rfl, rfl, ?_⟩
    unfold aq
    rw [hxc]
    exact q178
  · refine zz_tabIn S dL_act_32 (by decide) (by decide) (off := 150) (by decide) (t := 182) (by decide) ?_
    refine zz_aload_0 S dL_act_182 (q := 183) rfl ?_
    refine zz_iload_2 S dL_act_183 (q := 184) rfl ?_
    refine zz_iload_1 S dL_act_184 (q := 185) rfl ?_
    refine zz_bipush S (v := 8) rfl dL_act_185 (q := 187) rfl ?_
    refine zz_ishr S dL_act_187 (q := 188) rfl ?_
    refine zz_bipush S (v := 9) rfl dL_act_188 (q := 190) rfl ?_
    refine zz_statP S yy_L_low lL_28 (ll_low (sr v 8) 9 (by decide) zE im2) rfl (Nat.le_of_ble_eq_true rfl) (Nat.le_of_ble_eq_true rfl) rfl dL_act_190 (q := 193) rfl ?_
    refine zz_iconst S (v := 4) rfl dL_act_193 (q := 194) rfl ?_
    refine zz_isub S dL_act_194 (q := 195) rfl ?_
    refine zz_bipush S (v := 10) rfl dL_act_195 (q := 197) rfl ?_
    refine zz_iload_1 S dL_act_197 (q := 198) rfl ?_
    refine zz_bipush S (v := 12) rfl dL_act_198 (q := 200) rfl ?_
    refine zz_ishr S dL_act_200 (q := 201) rfl ?_
    refine zz_iconst S (v := 1) rfl dL_act_201 (q := 202) rfl ?_
    refine zz_iand S dL_act_202 (q := 203) rfl ?_
    refine zz_imul S dL_act_203 (q := 204) rfl ?_
    refine zz_iadd S dL_act_204 (q := 205) rfl ?_
    refine zz_virtI S yy_X7_measure lL_43 (ci := 7) (by decide) rfl (la_measure _ _ hY) rfl (Nat.le_of_ble_eq_true rfl) (Nat.le_of_ble_eq_true rfl) rfl (Nat.le_of_ble_eq_true rfl) rfl dL_act_205 (q := 208) rfl (fun r205 i205 q205 => ?_)
    refine zz_iret S dL_act_208 ⟨rfl, _, rfl, rfl, ?_⟩
    unfold aq
    rw [hxc]
    exact q205
  · refine zz_tabIn S dL_act_32 (by decide) (by decide) (off := 150) (by decide) (t := 182) (by decide) ?_
    refine zz_aload_0 S dL_act_182 (q := 183) rfl ?_
    refine zz_iload_2 S dL_act_183 (q := 184) rfl ?_
    refine zz_iload_1 S dL_act_184 (q := 185) rfl ?_
    refine zz_bipush S (v := 8) rfl dL_act_185 (q := 187) rfl ?_
    refine zz_ishr S dL_act_187 (q := 188) rfl ?_
    refine zz_bipush S (v := 9) rfl dL_act_188 (q := 190) rfl ?_
    refine zz_statP S yy_L_low lL_28 (ll_low (sr v 8) 9 (by decide) zE im2) rfl (Nat.le_of_ble_eq_true rfl) (Nat.le_of_ble_eq_true rfl) rfl dL_act_190 (q := 193) rfl ?_
    refine zz_iconst S (v := 4) rfl dL_act_193 (q := 194) rfl ?_
    refine zz_isub S dL_act_194 (q := 195) rfl ?_
    refine zz_bipush S (v := 10) rfl dL_act_195 (q := 197) rfl ?_
    refine zz_iload_1 S dL_act_197 (q := 198) rfl ?_
    refine zz_bipush S (v := 12) rfl dL_act_198 (q := 200) rfl ?_
    refine zz_ishr S dL_act_200 (q := 201) rfl ?_
    refine zz_iconst S (v := 1) rfl dL_act_201 (q := 202) rfl ?_
    refine zz_iand S dL_act_202 (q := 203) rfl ?_
    refine zz_imul S dL_act_203 (q := 204) rfl ?_
    refine zz_iadd S dL_act_204 (q := 205) rfl ?_
    refine zz_virtI S yy_X7_measure lL_43 (ci := 7) (by decide) rfl (la_measure _ _ hY) rfl (Nat.le_of_ble_eq_true rfl) (Nat.le_of_ble_eq_true rfl) rfl (Nat.le_of_ble_eq_true rfl) rfl dL_act_205 (q := 208) rfl (fun r205 i205 q205 => ?_)
    refine zz_iret S dL_act_208 ⟨rfl, _, rfl, rfl, ?_⟩
    unfold aq
    rw [hxc]
    exact q205
  · refine zz_tabIn S dL_act_32 (by decide) (by decide) (off := 177) (by decide) (t := 209) (by decide) ?_
    refine zz_aload_0 S dL_act_209 (q := 210) rfl ?_
    refine zz_bipush S (v := 10) rfl dL_act_210 (q := 212) rfl ?_
    refine zz_iload_1 S dL_act_212 (q := 213) rfl ?_
    refine zz_bipush S (v := 6) rfl dL_act_213 (q := 215) rfl ?_
    refine zz_ishr S dL_act_215 (q := 216) rfl ?_
    refine zz_bipush S (v := 61) rfl dL_act_216 (q := 218) rfl ?_
    refine zz_statP S yy_L_low lL_28 (ll_low (sr v 6) 61 (by decide) zE im2) rfl (Nat.le_of_ble_eq_true rfl) (Nat.le_of_ble_eq_true rfl) rfl dL_act_218 (q := 221) rfl ?_
    refine zz_iadd S dL_act_221 (q := 222) rfl ?_
    refine zz_iload_2 S dL_act_222 (q := 223) rfl ?_
    refine zz_iconst S (v := 1) rfl dL_act_223 (q := 224) rfl ?_
    refine zz_isub S dL_act_224 (q := 225) rfl ?_
    refine zz_bipush S (v := 10) rfl dL_act_225 (q := 227) rfl ?_
    refine zz_iload_1 S dL_act_227 (q := 228) rfl ?_
    refine zz_bipush S (v := 12) rfl dL_act_228 (q := 230) rfl ?_
    refine zz_ishr S dL_act_230 (q := 231) rfl ?_
    refine zz_bipush S (v := 45) rfl dL_act_231 (q := 233) rfl ?_
    refine zz_statP S yy_L_low lL_28 (ll_low (sr v 12) 45 (by decide) zE im2) rfl (Nat.le_of_ble_eq_true rfl) (Nat.le_of_ble_eq_true rfl) rfl dL_act_233 (q := 236) rfl ?_
    refine zz_iadd S dL_act_236 (q := 237) rfl ?_
    refine zz_iload_1 S dL_act_237 (q := 238) rfl ?_
    refine zz_bipush S (v := 17) rfl dL_act_238 (q := 240) rfl ?_
    refine zz_ishr S dL_act_240 (q := 241) rfl ?_
    refine zz_bipush S (v := 121) rfl dL_act_241 (q := 243) rfl ?_
    refine zz_statP S yy_L_low lL_28 (ll_low (sr v 17) 121 (by decide) zE im2) rfl (Nat.le_of_ble_eq_true rfl) (Nat.le_of_ble_eq_true rfl) rfl dL_act_243 (q := 246) rfl ?_
    refine zz_bipush S (v := 60) rfl dL_act_246 (q := 248) rfl ?_
    refine zz_isub S dL_act_248 (q := 249) rfl ?_
    refine zz_virtI S yy_X7_ask lL_46 (ci := 7) (by decide) rfl (la_ask _ _ _ _ hY) rfl (Nat.le_of_ble_eq_true rfl) (Nat.le_of_ble_eq_true rfl) rfl (Nat.le_of_ble_eq_true rfl) rfl dL_act_249 (q := 252) rfl (fun r249 i249 q249 => ?_)
    refine zz_iret S dL_act_252 ⟨rfl, _, rfl, rfl, ?_⟩
    unfold aq
    rw [hxc]
    exact q249
  · refine zz_tabIn S dL_act_32 (by decide) (by decide) (off := 177) (by decide) (t := 209) (by decide) ?_
    refine zz_aload_0 S dL_act_209 (q := 210) rfl ?_
    refine zz_bipush S (v := 10) rfl dL_act_210 (q := 212) rfl ?_
    refine zz_iload_1 S dL_act_212 (q := 213) rfl ?_
    refine zz_bipush S (v := 6) rfl dL_act_213 (q := 215) rfl ?_
    refine zz_ishr S dL_act_215 (q := 216) rfl ?_
    refine zz_bipush S (v := 61) rfl dL_act_216 (q := 218) rfl ?_
    refine zz_statP S yy_L_low lL_28 (ll_low (sr v 6) 61 (by decide) zE im2) rfl (Nat.le_of_ble_eq_true rfl) (Nat.le_of_ble_eq_true rfl) rfl dL_act_218 (q := 221) rfl ?_
    refine zz_iadd S dL_act_221 (q := 222) rfl ?_
    refine zz_iload_2 S dL_act_222 (q := 223) rfl ?_
    refine zz_iconst S (v := 1) rfl dL_act_223 (q := 224) rfl ?_
    refine zz_isub S dL_act_224 (q := 225) rfl ?_
    refine zz_bipush S (v := 10) rfl dL_act_225 (q := 227) rfl ?_
    refine zz_iload_1 S dL_act_227 (q := 228) rfl ?_
    refine zz_bipush S (v := 12) rfl dL_act_228 (q := 230) rfl ?_
    refine zz_ishr S dL_act_230 (q := 231) rfl ?_
    refine zz_bipush S (v := 45) rfl dL_act_231 (q := 233) rfl ?_
    refine zz_statP S yy_L_low lL_28 (ll_low (sr v 12) 45 (by decide) zE im2) rfl (Nat.le_of_ble_eq_true rfl) (Nat.le_of_ble_eq_true rfl) rfl dL_act_233 (q := 236) rfl ?_
    refine zz_iadd S dL_act_236 (q := 237) rfl ?_
    refine zz_iload_1 S dL_act_237 (q := 238) rfl ?_
    refine zz_bipush S (v := 17) rfl dL_act_238 (q := 240) rfl ?_
    refine zz_ishr S dL_act_240 (q := 241) rfl ?_
    refine zz_bipush S (v := 121) rfl dL_act_241 (q := 243) rfl ?_
    refine zz_statP S yy_L_low lL_28 (ll_low (sr v 17) 121 (by decide) zE im2) rfl (Nat.le_of_ble_eq_true rfl) (Nat.le_of_ble_eq_true rfl) rfl dL_act_243 (q := 246) rfl ?_
    refine zz_bipush S (v := 60) rfl dL_act_246 (q := 248) rfl ?_
    refine zz_isub S dL_act_248 (q := 249) rfl ?_
    refine zz_virtI S yy_X7_ask lL_46 (ci := 7) (by decide) rfl (la_ask _ _ _ _ hY) rfl (Nat.le_of_ble_eq_true rfl) (Nat.le_of_ble_eq_true rfl) rfl (Nat.le_of_ble_eq_true rfl) rfl dL_act_249 (q := 252) rfl (fun r249 i249 q249 => ?_)
    refine zz_iret S dL_act_252 ⟨rfl, _, rfl, rfl, ?_⟩
    unfold aq
    rw [hxc]
    exact q249
  · refine zz_tabIn S dL_act_32 (by decide) (by decide) (off := 221) (by decide) (t := 253) (by decide) ?_
    refine zz_aload_0 S dL_act_253 (q := 254) rfl ?_
    refine zz_iload_3 S dL_act_254 (q := 255) rfl ?_
    refine zz_virtI S yy_X7_decide lL_50 (ci := 7) (by decide) rfl (la_decide _ hY) rfl (Nat.le_of_ble_eq_true rfl) (Nat.le_of_ble_eq_true rfl) rfl (Nat.le_of_ble_eq_true rfl) rfl dL_act_255 (q := 258) rfl (fun r255 i255 q255 => ?_)
    refine zz_iret S dL_act_258 ⟨rfl, _, rfl, rfl, ?_⟩
    unfold aq
    rw [hxc]
    exact q255
  · refine zz_tabIn S dL_act_32 (by decide) (by decide) (off := 221) (by decide) (t := 253) (by decide) ?_
    refine zz_aload_0 S dL_act_253 (q := 254) rfl ?_
    refine zz_iload_3 S dL_act_254 (q := 255) rfl ?_
    refine zz_virtI S yy_X7_decide lL_50 (ci := 7) (by decide) rfl (la_decide _ hY) rfl (Nat.le_of_ble_eq_true rfl) (Nat.le_of_ble_eq_true rfl) rfl (Nat.le_of_ble_eq_true rfl) rfl dL_act_255 (q := 258) rfl (fun r255 i255 q255 => ?_)
    refine zz_iret S dL_act_258 ⟨rfl, _, rfl, rfl, ?_⟩
    unfold aq
    rw [hxc]
    exact q255
  · refine zz_tabIn S dL_act_32 (by decide) (by decide) (off := 227) (by decide) (t := 259) (by decide) ?_
    refine zz_aload_0 S dL_act_259 (q := 260) rfl ?_
    refine zz_iload_3 S dL_act_260 (q := 261) rfl ?_
    refine zz_virtI S yy_X7_askAgain lL_53 (ci := 7) (by decide) rfl (la_askAgain _ hY) rfl (Nat.le_of_ble_eq_true rfl) (Nat.le_of_ble_eq_true rfl) rfl (Nat.le_of_ble_eq_true rfl) rfl dL_act_261 (q := 264) rfl (fun r261 i261 q261 => ?_)
    refine zz_iret S dL_act_264 ⟨rfl, _, rfl, rfl, ?_⟩
    unfold aq
    rw [hxc]
    exact q261
  · refine zz_tabIn S dL_act_32 (by decide) (by decide) (off := 233) (by decide) (t := 265) (by decide) ?_
    refine zz_aload_0 S dL_act_265 (q := 266) rfl ?_
    refine zz_virtI S yy_X7_cast lL_56 (ci := 7) (by decide) rfl (la_cast hY) rfl (Nat.le_of_ble_eq_true rfl) (Nat.le_of_ble_eq_true rfl) rfl (Nat.le_of_ble_eq_true rfl) rfl dL_act_266 (q := 269) rfl (fun r266 i266 q266 => ?_)
    refine zz_iret S dL_act_269 ⟨rfl, _, rfl, rfl, ?_⟩
    unfold aq
    rw [hxc]
    exact q266
  · refine zz_tabIn S dL_act_32 (by decide) (by decide) (off := 238) (by decide) (t := 270) (by decide) ?_
    refine zz_aload_0 S dL_act_270 (q := 271) rfl ?_
    refine zz_iload_3 S dL_act_271 (q := 272) rfl ?_
    refine zz_virtI S yy_X7_deliver lL_59 (ci := 7) (by decide) rfl (la_deliver _ hY) rfl (Nat.le_of_ble_eq_true rfl) (Nat.le_of_ble_eq_true rfl) rfl (Nat.le_of_ble_eq_true rfl) rfl dL_act_272 (q := 275) rfl (fun r272 i272 q272 => ?_)
    refine zz_iret S dL_act_275 ⟨rfl, _, rfl, rfl, ?_⟩
    unfold aq
    rw [hxc]
    exact q272
  · refine zz_tabIn S dL_act_32 (by decide) (by decide) (off := 244) (by decide) (t := 276) (by decide) ?_
    refine zz_aload_0 S dL_act_276 (q := 277) rfl ?_
    refine zz_iconst S (v := 1) rfl dL_act_277 (q := 278) rfl ?_
    refine zz_iconst S (v := 1) rfl dL_act_278 (q := 279) rfl ?_
    refine zz_iload_1 S dL_act_279 (q := 280) rfl ?_
    refine zz_iconst S (v := 4) rfl dL_act_280 (q := 281) rfl ?_
    refine zz_ishr S dL_act_281 (q := 282) rfl ?_
    refine zz_bipush S (v := 13) rfl dL_act_282 (q := 284) rfl ?_
    refine zz_statP S yy_L_low lL_28 (ll_low (sr v 4) 13 (by decide) zE im2) rfl (Nat.le_of_ble_eq_true rfl) (Nat.le_of_ble_eq_true rfl) rfl dL_act_284 (q := 287) rfl ?_
    refine zz_iadd S dL_act_287 (q := 288) rfl ?_
    refine zz_virtI S yy_X7_set lL_36 (ci := 7) (by decide) rfl (la_set 1 _ hY) rfl (Nat.le_of_ble_eq_true rfl) (Nat.le_of_ble_eq_true rfl) rfl (Nat.le_of_ble_eq_true rfl) rfl dL_act_288 (q := 291) rfl (fun r288 i288 q288 => ?_)
    refine zz_iret S dL_act_291 ⟨rfl, _, rfl, rfl, ?_⟩
    unfold aq
    rw [hxc]
    exact q288
  · refine zz_tabOut S dL_act_32 (Or.inr (by decide)) (t := 292) (by decide) ?_
    refine zz_aload_0 S dL_act_292 (q := 293) rfl ?_
    refine zz_iload_1 S dL_act_293 (q := 294) rfl ?_
    refine zz_iconst S (v := 4) rfl dL_act_294 (q := 295) rfl ?_
    refine zz_ishr S dL_act_295 (q := 296) rfl ?_
    refine zz_iconst S (v := 1) rfl dL_act_296 (q := 297) rfl ?_
    refine zz_iand S dL_act_297 (q := 298) rfl ?_
    refine zz_virtI S yy_X7_take lL_62 (ci := 7) (by decide) rfl (la_take _ hY) rfl (Nat.le_of_ble_eq_true rfl) (Nat.le_of_ble_eq_true rfl) rfl (Nat.le_of_ble_eq_true rfl) rfl dL_act_298 (q := 301) rfl (fun r298 i298 q298 => ?_)
    refine zz_iret S dL_act_301 ⟨rfl, _, rfl, rfl, ?_⟩
    unfold aq
    rw [hxc]
    exact q298
end ZACT
