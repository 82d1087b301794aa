/-! TEXTS: length -/
section ZSR2
variable {G : ZG} {l : Launch} {own : String} {cc : ByteArray} {nL d n0 mcT msT : Nat} {isI : Bool} {rt : Option FieldType} {Qf : Option Value → ZE → ZI → Prop} {w : Nat → ZL → List Value → Nat → ZE → ZI → Prop}
variable {pc q : Nat} {L : ZL} {st : List Value} {z : Nat} {E : ZE} {im : ZI}
/-- a class's own reader of texts: nobody looks at it -/
theorem zz_fmt (S : zz_S G l RJ0 cc nL d n0 mcT msT isI rt Qf w) (hd : decode cc pc = .ok (.getstatic 1053, 3)) (hq : pc + 3 = q) (kk : ∀ v : Value, v = .null ∨ v = .ref 1040 → w q L (v :: st) z E im) : w pc L st z E im := by
  subst hq
  obtain ⟨p, e, R, s, m, args, below, meth, c0, Q, ⟨hx, hb, hml, hown, hts⟩, hR, hI, hK, hsz, hret, rfl⟩ := S
  intro H locs ls h1 h2 h3 h4 h5 h6
  rcases hK.2.2.2.2.2 with hZ | hZ
  · exact va_gets hx hb hZ h5 hown (hts _ fJ0_1053) (fun _ h => h) hd (kk .null (Or.inl rfl) H locs ls h1 h2 h3 h4 h5 h6)
  · exact va_gets hx hb hZ h5 hown (hts _ fJ0_1053) (fun _ h => h) hd (kk (.ref 1040) (Or.inr rfl) H locs ls h1 h2 h3 h4 h5 h6)
/-- a text's call that answers a number -/
theorem zz_virtSP {i n idx d2 : Nat} {rest as : List Value} {y : ZY} {f : Int32} (S : zz_S G l own cc nL d n0 mcT msT isI rt Qf w) (hy : zz_YV y n) (hlk : Cond.methodLink own idx y.1 ∈ zz_t) (hi : i < 10) (hcn : y.1.cls = "java/lang/String") (hO : zz_OP G l d2 y (.ref (1010 + i) :: as) E im f) (hn : as.length = n) (hdd : d2 + 1 ≤ d) (hrs : (rest.map fun v => v.category).sum ≤ 8) (hst : as.reverse ++ .ref (1010 + i) :: rest = st) (hd : decode cc pc = .ok (.invokevirtual idx, 3)) (hq : pc + 3 = q)
    (kk : w q L (.int f :: rest) z E im) : w pc L st z E im :=
  zz_virtS S (hn ▸ hy) hlk hi hcn hO hdd (fun h => h) (fun h => h) hrs hst hd hq (fun v E' im' h1 h2 => by obtain ⟨r, rfl, rfl, rfl, rfl⟩ := h2; exact kk)
theorem zz_statV {q2 : ZI → Prop} {n idx d2 : Nat} {rest as : List Value} {y : ZY} (S : zz_S G l own cc nL d n0 mcT msT isI rt Qf w) (hy : zz_YS y n) (hlk : Cond.methodLink own idx y.1 ∈ zz_t) (hO : zz_OV G l d2 y as E im q2) (hn : as.length = n) (hdd : d2 + 1 ≤ d) (hrs : (rest.map fun v => v.category).sum ≤ 8) (hst : as.reverse ++ rest = st) (hd : decode cc pc = .ok (.invokestatic idx, 3)) (hq : pc + 3 = q)
    (kk : ∀ (im' : ZI), q2 im' → w q L rest z E im') : w pc L st z E im :=
  zz_stat S (hn ▸ hy) hlk hO hdd (fun h => h) (fun h => h) hrs hst hd hq (fun v E' im' h1 h2 => by obtain ⟨rfl, rfl, h⟩ := h2; exact kk im' h)
/-- an answer that is a cell -/
def zz_OR (G : ZG) (l : Launch) (d : Nat) (y : ZY) (as : List Value) (E : ZE) (im : ZI) (k : Nat) : Prop := zz_O G l d y as E im 0 0 (fun v E' im' => v = some (.ref k) ∧ E' = E ∧ im' = im)
theorem zz_statR {k n idx d2 : Nat} {rest as : List Value} {y : ZY} (S : zz_S G l own cc nL d n0 mcT msT isI rt Qf w) (hy : zz_YS y n) (hlk : Cond.methodLink own idx y.1 ∈ zz_t) (hO : zz_OR G l d2 y as E im k) (hn : as.length = n) (hdd : d2 + 1 ≤ d) (hrs : (rest.map fun v => v.category).sum ≤ 8) (hst : as.reverse ++ rest = st) (hd : decode cc pc = .ok (.invokestatic idx, 3)) (hq : pc + 3 = q)
    (kk : w q L (.ref k :: rest) z E im) : w pc L st z E im :=
  zz_stat S (hn ▸ hy) hlk hO hdd (fun h => h) (fun h => h) hrs hst hd hq (fun v E' im' h1 h2 => by obtain ⟨rfl, rfl, rfl⟩ := h2; exact kk)
end ZSR2
section ZST2
variable {G : ZG} {l : Launch}
theorem cs_coder (i : Nat) (hi : i < 10) (E : ZE) (im : ZI) : zz_OP G l 0 mJ0_coder_7d493 [.ref (1010 + i)] E im 0 := by
  refine zz_intro (isI := false) (by decide) rfl (Nat.le_of_ble_eq_true rfl) (fun h => by cases h) (fun w S => ?_)
  refine zz_cmpS S dJ0_coder_7d493_0 (q := 3) rfl ?_
  refine zz_if_eq S dJ0_coder_7d493_3 (t := 13) (by decide) (q := 6) rfl (fun a1 => ?_) (fun a1 => ?_)
  -- then 13 else 6
  · exact absurd a1 (by decide)
  refine zz_aload_0 S dJ0_coder_7d493_6 (q := 7) rfl ?_
  refine zz_strC S hi dJ0_coder_7d493_7 (q := 10) rfl ?_
  refine zz_goto S dJ0_coder_7d493_10 (t := 14) (by decide) ?_
  -- at 14: ireturn 
  refine zz_bret S rfl dJ0_coder_7d493_14 ⟨rfl, _, rfl, rfl, ?_⟩
  exact ⟨rfl, rfl⟩
theorem cs_len (i : Nat) (hi : i < 10) (E : ZE) (im : ZI) : zz_OP G l 1 mJ0_length_8abf5 [.ref (1010 + i)] E im (nI (wl i).length) := by
  have hll : ∀ i, i < 10 → nI (zz_xl.getD i 0) >>> ((0 : Int32) &&& 31) = nI (wl i).length := by decide
  refine zz_intro (isI := false) (by decide) rfl (Nat.le_of_ble_eq_true rfl) (fun h => by cases h) (fun w S => ?_)
  refine zz_aload_0 S dJ0_length_8abf5_0 (q := 1) rfl ?_
  refine zz_strV S hi dJ0_length_8abf5_1 (q := 4) rfl ?_
  refine zz_strL S hi (v := nI (zz_xl.getD i 0)) rfl dJ0_length_8abf5_4 (q := 5) rfl ?_
  refine zz_aload_0 S dJ0_length_8abf5_5 (q := 6) rfl ?_
  refine zz_virtSP S yy_J0_coder_7d493 lJ0_335 hi rfl (cs_coder i hi E im) rfl (Nat.le_of_ble_eq_true rfl) (Nat.le_of_ble_eq_true rfl) rfl dJ0_length_8abf5_6 (q := 9) rfl ?_
  refine zz_ishr S dJ0_length_8abf5_9 (q := 10) rfl ?_
  rw [hll i hi]
  refine zz_iret S dJ0_length_8abf5_10 ⟨rfl, _, rfl, rfl, ?_⟩
  exact ⟨rfl, rfl⟩
theorem cs_isLatin1 (i : Nat) (hi : i < 10) (E : ZE) (im : ZI) : zz_OP G l 0 mJ0_isLatin1_aae02 [.ref (1010 + i)] E im 1 := by
  refine zz_intro (isI := false) (by decide) rfl (Nat.le_of_ble_eq_true rfl) (fun h => by cases h) (fun w S => ?_)
  refine zz_cmpS S dJ0_isLatin1_aae02_0 (q := 3) rfl ?_
  refine zz_if_eq S dJ0_isLatin1_aae02_3 (t := 17) (by decide) (q := 6) rfl (fun a1 => ?_) (fun a1 => ?_)
  -- then 17 else 6
  · exact absurd a1 (by decide)
  refine zz_aload_0 S dJ0_isLatin1_aae02_6 (q := 7) rfl ?_
  refine zz_strC S hi dJ0_isLatin1_aae02_7 (q := 10) rfl ?_
  refine zz_if_ne S dJ0_isLatin1_aae02_10 (t := 17) (by decide) (q := 13) rfl (fun a2 => ?_) (fun a2 => ?_)
  -- then 17 else 13
  · exact absurd rfl a2
  refine zz_iconst S (v := 1) rfl dJ0_isLatin1_aae02_13 (q := 14) rfl ?_
  refine zz_goto S dJ0_isLatin1_aae02_14 (t := 18) (by decide) ?_
  -- at 18: ireturn 
  refine zz_zret S rfl dJ0_isLatin1_aae02_18 ⟨rfl, _, rfl, rfl, ?_⟩
  exact ⟨rfl, rfl⟩
theorem cs_preCheck (x y : Int32) (v : Value) (hv : v = .null ∨ v = .ref 1040) (h0 : ¬ x < 0) (h1 : x < y) (E : ZE) (im : ZI) : zz_OP G l 0 mJ3_checkIndex_8e157 [.int x, .int y, v] E im x := by
  rcases hv with rfl | rfl
  · refine zz_intro (isI := false) (by decide) rfl (Nat.le_of_ble_eq_true rfl) (fun h => by cases h) (fun w S => ?_)
    refine zz_iload_0 S dJ3_checkIndex_8e157_0 (q := 1) rfl ?_
    refine zz_if_lt S dJ3_checkIndex_8e157_1 (t := 9) (by decide) (q := 4) rfl (fun a1 => ?_) (fun a1 => ?_)
    -- then 9 else 4
    · exact absurd a1 h0
    refine zz_iload_0 S dJ3_checkIndex_8e157_4 (q := 5) rfl ?_
    refine zz_iload_1 S dJ3_checkIndex_8e157_5 (q := 6) rfl ?_
    refine zz_icmp_lt S dJ3_checkIndex_8e157_6 (t := 16) (by decide) (q := 9) rfl (fun a2 => ?_) (fun a2 => ?_)
    -- then 16 else 9
    · refine zz_iload_0 S dJ3_checkIndex_8e157_16 (q := 17) rfl ?_
      -- at 17: ireturn 
      refine zz_iret S dJ3_checkIndex_8e157_17 ⟨rfl, _, rfl, rfl, ?_⟩
      exact ⟨rfl, rfl⟩
    · exact absurd h1 a2
  · refine zz_intro (isI := false) (by decide) rfl (Nat.le_of_ble_eq_true rfl) (fun h => by cases h) (fun w S => ?_)
    refine zz_iload_0 S dJ3_checkIndex_8e157_0 (q := 1) rfl ?_
    refine zz_if_lt S dJ3_checkIndex_8e157_1 (t := 9) (by decide) (q := 4) rfl (fun a1 => ?_) (fun a1 => ?_)
    -- then 9 else 4
    · exact absurd a1 h0
    refine zz_iload_0 S dJ3_checkIndex_8e157_4 (q := 5) rfl ?_
    refine zz_iload_1 S dJ3_checkIndex_8e157_5 (q := 6) rfl ?_
    refine zz_icmp_lt S dJ3_checkIndex_8e157_6 (t := 16) (by decide) (q := 9) rfl (fun a2 => ?_) (fun a2 => ?_)
    -- then 16 else 9
    · refine zz_iload_0 S dJ3_checkIndex_8e157_16 (q := 17) rfl ?_
      -- at 17: ireturn 
      refine zz_iret S dJ3_checkIndex_8e157_17 ⟨rfl, _, rfl, rfl, ?_⟩
      exact ⟨rfl, rfl⟩
    · exact absurd h1 a2
theorem cs_checkIndex (x y : Int32) (h0 : ¬ x < 0) (h1 : x < y) (E : ZE) (im : ZI) : zz_OV G l 1 mJ0_checkIndex_df160 [.int x, .int y] E im (fun im' => im' = im) := by
  refine zz_intro (isI := false) (by decide) rfl (Nat.le_of_ble_eq_true rfl) (fun h => by cases h) (fun w S => ?_)
  refine zz_iload_0 S dJ0_checkIndex_df160_0 (q := 1) rfl ?_
  refine zz_iload_1 S dJ0_checkIndex_df160_1 (q := 2) rfl ?_
  -- at 2
  refine zz_fmt S dJ0_checkIndex_df160_2 (q := 5) rfl (fun v hv => ?_)
  refine zz_statP S yy_J3_checkIndex_8e157 lJ0_1059 (cs_preCheck x y v hv h0 h1 E im) rfl (Nat.le_of_ble_eq_true rfl) (Nat.le_of_ble_eq_true rfl) rfl dJ0_checkIndex_df160_5 (q := 8) rfl ?_
  refine zz_pop S rfl dJ0_checkIndex_df160_8 (q := 9) rfl ?_
  -- at 9: return_ 
  refine zz_vret S dJ0_checkIndex_df160_9 ⟨rfl, rfl, rfl, ?_⟩
  rfl
theorem cs_latinAt (i j : Nat) (hi : i < 10) (hj : j < (wl i).length) (E : ZE) (im : ZI) : zz_OP G l 2 mJ1_charAt_3b067 [.ref (1030 + i), .int (nI j)] E im (wt i j) := by
  have hll : ∀ i, i < 10 → zz_xl.getD i 0 = (wl i).length ∧ (wl i).length ≤ 7 := by decide
  have hcc : ∀ i, i < 10 → ∀ j, j < (wl i).length → ((((zz_xb.getD i []).getD j 0 &&& 255).toUInt32 % 65536).toInt32) = wt i j ∧ narrow .char (.int (wt i j)) = .int (wt i j) := by decide
  obtain ⟨h1, h2⟩ := hll i hi
  refine zz_intro (isI := false) (by decide) rfl (Nat.le_of_ble_eq_true rfl) (fun h => by cases h) (fun w S => ?_)
  refine zz_iload_1 S dJ1_charAt_3b067_0 (q := 1) rfl ?_
  refine zz_aload_0 S dJ1_charAt_3b067_1 (q := 2) rfl ?_
  refine zz_strL S hi (v := nI (zz_xl.getD i 0)) rfl dJ1_charAt_3b067_2 (q := 3) rfl ?_
  refine zz_statV S yy_J0_checkIndex_df160 lJ1_9 (cs_checkIndex (nI j) (nI (zz_xl.getD i 0)) (by exact Int32.not_lt.mpr (nI_pos' (by omega))) (nI_lt (by omega) (by omega)) E im) rfl (Nat.le_of_ble_eq_true rfl) (Nat.le_of_ble_eq_true rfl) rfl dJ1_charAt_3b067_3 (q := 6) rfl ?_
  rintro im1 rfl
  refine zz_aload_0 S dJ1_charAt_3b067_6 (q := 7) rfl ?_
  refine zz_iload_1 S dJ1_charAt_3b067_7 (q := 8) rfl ?_
  refine zz_strB S hi (j := j) rfl (by omega) dJ1_charAt_3b067_8 (q := 9) rfl ?_
  refine zz_sipush S (v := 255) rfl dJ1_charAt_3b067_9 (q := 12) rfl ?_
  refine zz_iand S dJ1_charAt_3b067_12 (q := 13) rfl ?_
  refine zz_i2c S dJ1_charAt_3b067_13 (q := 14) rfl ?_
  -- at 14: ireturn 
  rw [(hcc i hi j hj).1]
  refine zz_cret S (hcc i hi j hj).2 dJ1_charAt_3b067_14 ⟨rfl, _, rfl, rfl, ?_⟩
  exact ⟨rfl, rfl⟩
theorem cs_charAt (i j : Nat) (hi : i < 10) (hj : j < (wl i).length) (E : ZE) (im : ZI) : zz_OP G l 3 mJ0_charAt_5068e [.ref (1010 + i), .int (nI j)] E im (wt i j) := by
  have hcc : ∀ i, i < 10 → ∀ j, j < (wl i).length → narrow .char (.int (wt i j)) = .int (wt i j) := by decide
  refine zz_intro (isI := false) (by decide) rfl (Nat.le_of_ble_eq_true rfl) (fun h => by cases h) (fun w S => ?_)
  refine zz_aload_0 S dJ0_charAt_5068e_0 (q := 1) rfl ?_
  refine zz_virtSP S yy_J0_isLatin1_aae02 lJ0_492 hi rfl (cs_isLatin1 i hi E im) rfl (Nat.le_of_ble_eq_true rfl) (Nat.le_of_ble_eq_true rfl) rfl dJ0_charAt_5068e_1 (q := 4) rfl ?_
  refine zz_if_eq S dJ0_charAt_5068e_4 (t := 16) (by decide) (q := 7) rfl (fun a1 => ?_) (fun a1 => ?_)
  -- then 16 else 7
  · exact absurd a1 (by decide)
  refine zz_aload_0 S dJ0_charAt_5068e_7 (q := 8) rfl ?_
  refine zz_strV S hi dJ0_charAt_5068e_8 (q := 11) rfl ?_
  refine zz_iload_1 S dJ0_charAt_5068e_11 (q := 12) rfl ?_
  refine zz_statP S yy_J1_charAt_3b067 lJ0_495 (cs_latinAt i j hi hj E im) rfl (Nat.le_of_ble_eq_true rfl) (Nat.le_of_ble_eq_true rfl) rfl dJ0_charAt_5068e_12 (q := 15) rfl ?_
  refine zz_cret S (hcc i hi j hj) dJ0_charAt_5068e_15 ⟨rfl, _, rfl, rfl, ?_⟩
  exact ⟨rfl, rfl⟩
end ZST2
