/-! THE REFERENCE: what a command asks and does -/
def nO (s : ZSt) (k : Nat) : Nat := (s k).toNatClampNeg
theorem nO_of {s : ZSt} {k n : Nat} (h : s k = nI n) (hn : n < 2 ^ 31) : nO s k = n := zs_cl h hn
def rk_code (s : ZSt) (v : Nat) (a : Nat → Int32) : Int32 := match v with
  | 0 => op_cWall s
  | 1 => op_cMeas s (a 0) (a 1)
  | 2 => op_cAsk s (a 0) (-1) (a 1) 0
  | 3 => op_cAsk s (a 0) (a 1) (a 2) 0
  | 4 => op_cSt s (a 0) 0
  | 5 => op_cCas s (nO s 1)
  | _ => op_cSt s (a 0) 2
def rk_do (s : ZSt) (v : Nat) (a : Nat → Int32) : ZSt := match v with
  | 0 => op_wall s (nO s 0)
  | 1 => op_meas s (nO a 0) (a 1)
  | 2 => op_ask s (nO s 1) (a 0) (-1) (a 1) 0
  | 3 => op_ask s (nO s 1) (a 0) (a 1) (a 2) 0
  | 4 => op_dec s (nO a 0)
  | 5 => op_cas s (nO s 1)
  | _ => op_del s (nO a 0)
theorem rk_7 {v : Nat} (hv : v < 7) : v = 0 ∨ v = 1 ∨ v = 2 ∨ v = 3 ∨ v = 4 ∨ v = 5 ∨ v = 6 := by omega
theorem rk_code_eq {s : ZSt} {v : Nat} {a b : Nat → Int32} (hv : v < 7) (h : ∀ k, k < rk_cnt v → a k = b k) : rk_code s v a = rk_code s v b := by
  rcases rk_7 hv with rfl | rfl | rfl | rfl | rfl | rfl | rfl
  · show op_cWall s = op_cWall s
    rfl
  · show op_cMeas s (a 0) (a 1) = op_cMeas s (b 0) (b 1)
    rw [h 0 (by decide), h 1 (by decide)]
  · show op_cAsk s (a 0) (-1) (a 1) 0 = op_cAsk s (b 0) (-1) (b 1) 0
    rw [h 0 (by decide), h 1 (by decide)]
  · show op_cAsk s (a 0) (a 1) (a 2) 0 = op_cAsk s (b 0) (b 1) (b 2) 0
    rw [h 0 (by decide), h 1 (by decide), h 2 (by decide)]
  · show op_cSt s (a 0) 0 = op_cSt s (b 0) 0
    rw [h 0 (by decide)]
  · show op_cCas s (nO s 1) = op_cCas s (nO s 1)
    rfl
  · show op_cSt s (a 0) 2 = op_cSt s (b 0) 2
    rw [h 0 (by decide)]
theorem rk_do_eq {s : ZSt} {v : Nat} {a b : Nat → Int32} (hv : v < 7) (h : ∀ k, k < rk_cnt v → a k = b k) : rk_do s v a = rk_do s v b := by
  have e0 : 0 < rk_cnt v → nO a 0 = nO b 0 := fun q => by unfold nO; rw [h 0 q]
  rcases rk_7 hv with rfl | rfl | rfl | rfl | rfl | rfl | rfl
  · show op_wall s (nO s 0) = op_wall s (nO s 0)
    rfl
  · show op_meas s (nO a 0) (a 1) = op_meas s (nO b 0) (b 1)
    rw [e0 (by decide), h 1 (by decide)]
  · show op_ask s (nO s 1) (a 0) (-1) (a 1) 0 = op_ask s (nO s 1) (b 0) (-1) (b 1) 0
    rw [h 0 (by decide), h 1 (by decide)]
  · show op_ask s (nO s 1) (a 0) (a 1) (a 2) 0 = op_ask s (nO s 1) (b 0) (b 1) (b 2) 0
    rw [h 0 (by decide), h 1 (by decide), h 2 (by decide)]
  · show op_dec s (nO a 0) = op_dec s (nO b 0)
    rw [e0 (by decide)]
  · show op_cas s (nO s 1) = op_cas s (nO s 1)
    rfl
  · show op_del s (nO a 0) = op_del s (nO b 0)
    rw [e0 (by decide)]
theorem sB_0of (x : Int32) (h : x = 0) : sB (-60) 60 x := by rw [h]; exact ⟨by decide, by decide⟩
theorem rk_do_I {s : ZSt} {v nw nc : Nat} {a : Nat → Int32} (hv : v < 7) (hI : sI s nw nc) (hc : rk_code s v a ≥ 0) : ∃ nw' nc', sI (rk_do s v a) nw' nc' := by
  have h0 := hI.1
  have hw := hI.2.1
  have h1 := hI.2.2.1
  have hn := hI.2.2.2.1
  have o0 : nO s 0 = nw := nO_of h0 (by omega)
  have o1 : nO s 1 = nc := nO_of h1 (by omega)
  rcases rk_7 hv with rfl | rfl | rfl | rfl | rfl | rfl | rfl
  · refine ⟨nw + 1, nc, ?_⟩
    show sI (op_wall s (nO s 0)) _ _
    rw [o0]
    exact sI_wall hI (op_cWall_ok h0 hw hc)
  · obtain ⟨k, hk, ek, hb⟩ := op_cMeas_ok h0 hw hc
    refine ⟨nw, nc, ?_⟩
    show sI (op_meas s (nO a 0) (a 1)) _ _
    rw [nO_of ek (by omega)]
    exact sI_meas hI hk hb
  · obtain ⟨b1, b2, b3, b4, b5⟩ := op_cAsk_ok h0 hw h1 hn hc
    refine ⟨nw, nc + 1, ?_⟩
    show sI (op_ask s (nO s 1) (a 0) (-1) (a 1) 0) _ _
    rw [o1]
    exact sI_ask hI b1 b2 b3 b4 b5
  · obtain ⟨b1, b2, b3, b4, b5⟩ := op_cAsk_ok h0 hw h1 hn hc
    refine ⟨nw, nc + 1, ?_⟩
    show sI (op_ask s (nO s 1) (a 0) (a 1) (a 2) 0) _ _
    rw [o1]
    exact sI_ask hI b1 b2 b3 b4 b5
  · obtain ⟨k, hk, ek, hb⟩ := op_cSt_ok h1 hn hc
    refine ⟨nw, nc, ?_⟩
    show sI (op_dec s (nO a 0)) _ _
    rw [nO_of ek (by omega)]
    exact sI_dec hI hk
  · refine ⟨nw, nc, ?_⟩
    show sI (op_cas s (nO s 1)) _ _
    rw [o1]
    exact sI_cas hI
  · obtain ⟨k, hk, ek, hb⟩ := op_cSt_ok h1 hn hc
    refine ⟨nw, nc, ?_⟩
    show sI (op_del s (nO a 0)) _ _
    rw [nO_of ek (by omega)]
    exact sI_del hI hk hb
theorem op_caG_far {st : Nat → Int32} : ∀ (n c : Nat) (s : ZSt) (j : Nat), c + n ≤ 10 → 118 ≤ j → op_caG st n c s j = s j := by
  intro n
  induction n with
  | zero => intro c s j _ _; rfl
  | succ n ih =>
    intro c s j hc hj
    rw [op_caG]
    split
    · exact ih (c + 1) _ j (by omega) hj
    · rw [ih (c + 1) _ j (by omega) hj, u_ne _ _ (by omega), u_ne _ _ (by omega), u_ne _ _ (by omega)]
/-- nothing but the workshop itself changes -/
theorem rk_do_far {s : ZSt} {v nw nc : Nat} {a : Nat → Int32} (hv : v < 7) (hI : sI s nw nc) (hc : rk_code s v a ≥ 0) {j : Nat} (hj : 118 ≤ j) : rk_do s v a j = s j := by
  have h0 := hI.1
  have hw := hI.2.1
  have h1 := hI.2.2.1
  have hn := hI.2.2.2.1
  have o0 : nO s 0 = nw := nO_of h0 (by omega)
  have o1 : nO s 1 = nc := nO_of h1 (by omega)
  rcases rk_7 hv with rfl | rfl | rfl | rfl | rfl | rfl | rfl
  · have := op_cWall_ok h0 hw hc
    show op_wall s (nO s 0) j = _
    rw [o0, op_wall, u_ne _ _ (by omega), u_ne _ _ (by omega), u_ne _ _ (by omega), u_ne _ _ (by omega)]
  · obtain ⟨k, hk, ek, hb⟩ := op_cMeas_ok h0 hw hc
    show op_meas s (nO a 0) (a 1) j = _
    rw [nO_of ek (by omega), op_meas, u_ne _ _ (by omega), u_ne _ _ (by omega), u_ne _ _ (by omega)]
  · obtain ⟨b1, b2, b3, b4, b5⟩ := op_cAsk_ok h0 hw h1 hn hc
    show op_ask s (nO s 1) (a 0) (-1) (a 1) 0 j = _
    rw [o1, op_ask, u_ne _ _ (by omega), u_ne _ _ (by omega), u_ne _ _ (by omega), u_ne _ _ (by omega), u_ne _ _ (by omega), u_ne _ _ (by omega), u_ne _ _ (by omega), u_ne _ _ (by omega), u_ne _ _ (by omega)]
  · obtain ⟨b1, b2, b3, b4, b5⟩ := op_cAsk_ok h0 hw h1 hn hc
    show op_ask s (nO s 1) (a 0) (a 1) (a 2) 0 j = _
    rw [o1, op_ask, u_ne _ _ (by omega), u_ne _ _ (by omega), u_ne _ _ (by omega), u_ne _ _ (by omega), u_ne _ _ (by omega), u_ne _ _ (by omega), u_ne _ _ (by omega), u_ne _ _ (by omega), u_ne _ _ (by omega)]
  · obtain ⟨k, hk, ek, hb⟩ := op_cSt_ok h1 hn hc
    show op_dec s (nO a 0) j = _
    rw [nO_of ek (by omega), op_dec]
    split
    · rw [u_ne _ _ (by omega), u_ne _ _ (by omega)]
    · rw [u_ne _ _ (by omega), u_ne _ _ (by omega)]
  · show op_cas s (nO s 1) j = _
    rw [o1, op_cas, u_ne _ _ (by omega), op_caG_far _ _ _ _ (by omega) hj]
  · obtain ⟨k, hk, ek, hb⟩ := op_cSt_ok h1 hn hc
    show op_del s (nO a 0) j = _
    rw [nO_of ek (by omega), op_del, u_ne _ _ (by omega)]
/-! what an action answers is no error -/
theorem op_inG_ge {s : ZSt} {st : Int32} : ∀ (n c m : Nat), m + n < 1000 → ∃ r, r < 1000 ∧ op_inG s st n c (nI m) = nI r := by
  intro n
  induction n with
  | zero => intro c m h; exact ⟨m, by omega, rfl⟩
  | succ n ih =>
    intro c m h
    rw [op_inG]
    split
    · rw [nI_1]
      exact ih (c + 1) (m + 1) (by omega)
    · rw [Int32.add_zero]
      exact ih (c + 1) m (by omega)
theorem op_mlG_ge {wt : Nat → Int32} {lim : Int32} : ∀ (n c m : Nat) (sm : Int32) (st : Nat → Int32), m + n < 1000 → ∃ r, r < 1000 ∧ (op_mlG wt lim n c sm (nI m) st).1 = nI r := by
  intro n
  induction n with
  | zero => intro c m sm st h; exact ⟨m, by omega, rfl⟩
  | succ n ih =>
    intro c m sm st h
    rw [op_mlG]
    split
    · rw [nI_1]
      exact ih (c + 1) (m + 1) _ _ (by omega)
    · exact ih (c + 1) m _ _ (by omega)
theorem sp_re_ge (s : ZSt) (c : Nat) : sp_re s c ≥ 0 := by
  unfold sp_re
  split
  · decide
  · split
    · decide
    · split
      · decide
      · split
        · decide
        · decide
section ZCMD
variable {G : ZG} {l : Launch}
theorem co_codeOf (x : Int32) (v nw nc : Nat) (a : Nat → Int32) (im : ZI) (hx : x = nI v) (hv : v < 7) (hI : sI (im 471) nw nc) : zz_OI G l 4 mX8_codeOf [.ref 470, .int x, .int (a 0), .int (a 1), .int (a 2)] zE im (fun r im' => r = rk_code (im 471) v a ∧ zz_keep [478] im im') := by
  have h1 := hI.2.2.1
  have hn := hI.2.2.2.1
  subst hx
  refine zz_intro (isI := false) (by decide) rfl (Nat.le_of_ble_eq_true rfl) (fun h => by cases h) (fun w S => ?_)
  refine zz_iload_1 S dX8_codeOf_0 (q := 1) rfl ?_
  -- at 1: tableswitch 82 0 5 #[39, 44, 51, 60, 70, 77]
  rcases rk_7 hv with rfl | rfl | rfl | rfl | rfl | rfl | rfl
  · refine zz_tabIn S dX8_codeOf_1 (by decide) (by decide) (off := 39) (by decide) (t := 40) (by decide) ?_
    refine zz_aload_0 S dX8_codeOf_40 (q := 41) rfl ?_
    refine zz_virtP S yy_X8_wallCode lX8_105 (ci := 8) (by decide) rfl (co_wallCode im) rfl (Nat.le_of_ble_eq_true rfl) (Nat.le_of_ble_eq_true rfl) rfl (Nat.le_of_ble_eq_true rfl) rfl dX8_codeOf_41 (q := 44) rfl ?_
    refine zz_iret S dX8_codeOf_44 ⟨rfl, _, rfl, rfl, ?_⟩
    exact ⟨rfl, zz_keep.rf⟩
  · refine zz_tabIn S dX8_codeOf_1 (by decide) (by decide) (off := 44) (by decide) (t := 45) (by decide) ?_
    refine zz_aload_0 S dX8_codeOf_45 (q := 46) rfl ?_
    refine zz_iload_2 S dX8_codeOf_46 (q := 47) rfl ?_
    refine zz_iload_3 S dX8_codeOf_47 (q := 48) rfl ?_
    refine zz_virtP S yy_X8_measureCode lX8_120 (ci := 8) (by decide) rfl (co_measureCode (a 0) (a 1) im) rfl (Nat.le_of_ble_eq_true rfl) (Nat.le_of_ble_eq_true rfl) rfl (Nat.le_of_ble_eq_true rfl) rfl dX8_codeOf_48 (q := 51) rfl ?_
    refine zz_iret S dX8_codeOf_51 ⟨rfl, _, rfl, rfl, ?_⟩
    exact ⟨rfl, zz_keep.rf⟩
  · refine zz_tabIn S dX8_codeOf_1 (by decide) (by decide) (off := 51) (by decide) (t := 52) (by decide) ?_
    refine zz_aload_0 S dX8_codeOf_52 (q := 53) rfl ?_
    refine zz_iload_2 S dX8_codeOf_53 (q := 54) rfl ?_
    refine zz_iconst S (v := (-1)) rfl dX8_codeOf_54 (q := 55) rfl ?_
    refine zz_iload_3 S dX8_codeOf_55 (q := 56) rfl ?_
    refine zz_iconst S (v := 0) rfl dX8_codeOf_56 (q := 57) rfl ?_
    refine zz_virtP S yy_X8_askCode lX8_155 (ci := 8) (by decide) rfl (co_askCode (a 0) (-1) (a 1) 0 im) rfl (Nat.le_of_ble_eq_true rfl) (Nat.le_of_ble_eq_true rfl) rfl (Nat.le_of_ble_eq_true rfl) rfl dX8_codeOf_57 (q := 60) rfl ?_
    refine zz_iret S dX8_codeOf_60 ⟨rfl, _, rfl, rfl, ?_⟩
    exact ⟨rfl, zz_keep.rf⟩
  · refine zz_tabIn S dX8_codeOf_1 (by decide) (by decide) (off := 60) (by decide) (t := 61) (by decide) ?_
    refine zz_aload_0 S dX8_codeOf_61 (q := 62) rfl ?_
    refine zz_iload_2 S dX8_codeOf_62 (q := 63) rfl ?_
    refine zz_iload_3 S dX8_codeOf_63 (q := 64) rfl ?_
    refine zz_iload_4 S dX8_codeOf_64 (q := 66) rfl ?_
    refine zz_iconst S (v := 0) rfl dX8_codeOf_66 (q := 67) rfl ?_
    refine zz_virtP S yy_X8_askCode lX8_155 (ci := 8) (by decide) rfl (co_askCode (a 0) (a 1) (a 2) 0 im) rfl (Nat.le_of_ble_eq_true rfl) (Nat.le_of_ble_eq_true rfl) rfl (Nat.le_of_ble_eq_true rfl) rfl dX8_codeOf_67 (q := 70) rfl ?_
    refine zz_iret S dX8_codeOf_70 ⟨rfl, _, rfl, rfl, ?_⟩
    exact ⟨rfl, zz_keep.rf⟩
  · refine zz_tabIn S dX8_codeOf_1 (by decide) (by decide) (off := 70) (by decide) (t := 71) (by decide) ?_
    refine zz_aload_0 S dX8_codeOf_71 (q := 72) rfl ?_
    refine zz_iload_2 S dX8_codeOf_72 (q := 73) rfl ?_
    refine zz_iconst S (v := 0) rfl dX8_codeOf_73 (q := 74) rfl ?_
    refine zz_virtP S yy_X8_stateCode lX8_169 (ci := 8) (by decide) rfl (co_stateCode (a 0) 0 nc im h1 hn) rfl (Nat.le_of_ble_eq_true rfl) (Nat.le_of_ble_eq_true rfl) rfl (Nat.le_of_ble_eq_true rfl) rfl dX8_codeOf_74 (q := 77) rfl ?_
    refine zz_iret S dX8_codeOf_77 ⟨rfl, _, rfl, rfl, ?_⟩
    exact ⟨rfl, zz_keep.rf⟩
  · refine zz_tabIn S dX8_codeOf_1 (by decide) (by decide) (off := 77) (by decide) (t := 78) (by decide) ?_
    refine zz_aload_0 S dX8_codeOf_78 (q := 79) rfl ?_
    -- at 79: invokevirtual 181
    refine zz_virtI S yy_X8_castCode lX8_181 (ci := 8) (by decide) rfl (co_castCode nc im h1 hn) rfl (Nat.le_of_ble_eq_true rfl) (Nat.le_of_ble_eq_true rfl) rfl (Nat.le_of_ble_eq_true rfl) rfl dX8_codeOf_79 (q := 82) rfl ?_
    rintro r im1 ⟨rfl, hk⟩
    refine zz_iret S dX8_codeOf_82 ⟨rfl, _, rfl, rfl, ?_⟩
    refine ⟨?_, hk⟩
    show op_cCas (im 471) nc = op_cCas (im 471) (nO (im 471) 1)
    rw [nO_of h1 (by omega)]
  · refine zz_tabOut S dX8_codeOf_1 (Or.inr (by decide)) (t := 83) (by decide) ?_
    refine zz_aload_0 S dX8_codeOf_83 (q := 84) rfl ?_
    refine zz_iload_2 S dX8_codeOf_84 (q := 85) rfl ?_
    refine zz_iconst S (v := 2) rfl dX8_codeOf_85 (q := 86) rfl ?_
    refine zz_virtP S yy_X8_stateCode lX8_169 (ci := 8) (by decide) rfl (co_stateCode (a 0) 2 nc im h1 hn) rfl (Nat.le_of_ble_eq_true rfl) (Nat.le_of_ble_eq_true rfl) rfl (Nat.le_of_ble_eq_true rfl) rfl dX8_codeOf_86 (q := 89) rfl ?_
    refine zz_iret S dX8_codeOf_89 ⟨rfl, _, rfl, rfl, ?_⟩
    exact ⟨rfl, zz_keep.rf⟩
theorem co_carry (x : Int32) (v nw nc : Nat) (a : Nat → Int32) (im : ZI) (hx : x = nI v) (hv : v < 7) (hI : sI (im 471) nw nc) (hc : rk_code (im 471) v a ≥ 0) : zz_OI G l 8 mX8_carry [.ref 470, .int x, .int (a 0), .int (a 1), .int (a 2)] zE im (fun r im' => r ≥ 0 ∧ im' 471 = rk_do (im 471) v a ∧ zz_keep [471, 476, 477, 478] im im') := by
  have h0 := hI.1
  have hw := hI.2.1
  have h1 := hI.2.2.1
  have hn := hI.2.2.2.1
  have o0 : nO (im 471) 0 = nw := nO_of h0 (by omega)
  have o1 : nO (im 471) 1 = nc := nO_of h1 (by omega)
  have pos : ∀ n, n < 1000 → nI n ≥ 0 := fun n h => nI_pos' (by omega)
  subst hx
  refine zz_intro (isI := false) (by decide) rfl (Nat.le_of_ble_eq_true rfl) (fun h => by cases h) (fun w S => ?_)
  refine zz_iload_1 S dX8_carry_0 (q := 1) rfl ?_
  -- at 1: tableswitch 81 0 5 #[39, 44, 51, 60, 70, 76]
  rcases rk_7 hv with rfl | rfl | rfl | rfl | rfl | rfl | rfl
  · have g := op_cWall_ok h0 hw hc
    refine zz_tabIn S dX8_carry_1 (by decide) (by decide) (off := 39) (by decide) (t := 40) (by decide) ?_
    refine zz_aload_0 S dX8_carry_40 (q := 41) rfl ?_
    -- at 41: invokevirtual 109
    refine zz_virtI S yy_X8_wallNow lX8_109 (ci := 8) (by decide) rfl (co_wallNow im nw g h0) rfl (Nat.le_of_ble_eq_true rfl) (Nat.le_of_ble_eq_true rfl) rfl (Nat.le_of_ble_eq_true rfl) rfl dX8_carry_41 (q := 44) rfl ?_
    rintro r im1 ⟨rfl, hb, hk⟩
    refine zz_iret S dX8_carry_44 ⟨rfl, _, rfl, rfl, ?_⟩
    exact ⟨pos _ (by omega), by rw [hb]; show _ = op_wall (im 471) (nO (im 471) 0); rw [o0], hk⟩
  · obtain ⟨k, hk2, ek, -⟩ := op_cMeas_ok h0 hw hc
    refine zz_tabIn S dX8_carry_1 (by decide) (by decide) (off := 44) (by decide) (t := 45) (by decide) ?_
    refine zz_aload_0 S dX8_carry_45 (q := 46) rfl ?_
    refine zz_iload_2 S dX8_carry_46 (q := 47) rfl ?_
    refine zz_iload_3 S dX8_carry_47 (q := 48) rfl ?_
    -- at 48: invokevirtual 124
    refine zz_virtI S yy_X8_measureNow lX8_124 (ci := 8) (by decide) rfl (co_measureNow (a 0) (a 1) k im ek (by omega)) rfl (Nat.le_of_ble_eq_true rfl) (Nat.le_of_ble_eq_true rfl) rfl (Nat.le_of_ble_eq_true rfl) rfl dX8_carry_48 (q := 51) rfl ?_
    rintro r im1 ⟨rfl, hb, hk⟩
    refine zz_iret S dX8_carry_51 ⟨rfl, _, rfl, rfl, ?_⟩
    refine ⟨?_, by rw [hb]; show _ = op_meas (im 471) (nO a 0) (a 1); rw [nO_of ek (by omega)], hk⟩
    unfold op_rMeas
    split
    · decide
    · decide
  · have g := op_cAsk_ok h0 hw h1 hn hc
    refine zz_tabIn S dX8_carry_1 (by decide) (by decide) (off := 51) (by decide) (t := 52) (by decide) ?_
    refine zz_aload_0 S dX8_carry_52 (q := 53) rfl ?_
    refine zz_iload_2 S dX8_carry_53 (q := 54) rfl ?_
    refine zz_iconst S (v := (-1)) rfl dX8_carry_54 (q := 55) rfl ?_
    refine zz_iload_3 S dX8_carry_55 (q := 56) rfl ?_
    refine zz_iconst S (v := 0) rfl dX8_carry_56 (q := 57) rfl ?_
    -- at 57: invokevirtual 159
    refine zz_virtI S yy_X8_askNow lX8_159 (ci := 8) (by decide) rfl (co_askNow (a 0) (-1) (a 1) 0 nc im g.1 h1) rfl (Nat.le_of_ble_eq_true rfl) (Nat.le_of_ble_eq_true rfl) rfl (Nat.le_of_ble_eq_true rfl) rfl dX8_carry_57 (q := 60) rfl ?_
    rintro r im1 ⟨rfl, hb, hk⟩
    refine zz_iret S dX8_carry_60 ⟨rfl, _, rfl, rfl, ?_⟩
    exact ⟨pos _ (by omega), by rw [hb]; show _ = op_ask (im 471) (nO (im 471) 1) (a 0) (-1) (a 1) 0; rw [o1], hk⟩
  · have g := op_cAsk_ok h0 hw h1 hn hc
    refine zz_tabIn S dX8_carry_1 (by decide) (by decide) (off := 60) (by decide) (t := 61) (by decide) ?_
    refine zz_aload_0 S dX8_carry_61 (q := 62) rfl ?_
    refine zz_iload_2 S dX8_carry_62 (q := 63) rfl ?_
    refine zz_iload_3 S dX8_carry_63 (q := 64) rfl ?_
    refine zz_iload_4 S dX8_carry_64 (q := 66) rfl ?_
    refine zz_iconst S (v := 0) rfl dX8_carry_66 (q := 67) rfl ?_
    -- at 67: invokevirtual 159
    refine zz_virtI S yy_X8_askNow lX8_159 (ci := 8) (by decide) rfl (co_askNow (a 0) (a 1) (a 2) 0 nc im g.1 h1) rfl (Nat.le_of_ble_eq_true rfl) (Nat.le_of_ble_eq_true rfl) rfl (Nat.le_of_ble_eq_true rfl) rfl dX8_carry_67 (q := 70) rfl ?_
    rintro r im1 ⟨rfl, hb, hk⟩
    refine zz_iret S dX8_carry_70 ⟨rfl, _, rfl, rfl, ?_⟩
    exact ⟨pos _ (by omega), by rw [hb]; show _ = op_ask (im 471) (nO (im 471) 1) (a 0) (a 1) (a 2) 0; rw [o1], hk⟩
  · obtain ⟨k, hk2, ek, -⟩ := op_cSt_ok h1 hn hc
    refine zz_tabIn S dX8_carry_1 (by decide) (by decide) (off := 70) (by decide) (t := 71) (by decide) ?_
    refine zz_aload_0 S dX8_carry_71 (q := 72) rfl ?_
    refine zz_iload_2 S dX8_carry_72 (q := 73) rfl ?_
    -- at 73: invokevirtual 172
    refine zz_virtI S yy_X8_decideNow lX8_172 (ci := 8) (by decide) rfl (co_decideNow (a 0) k nw nc im ek hI hk2) rfl (Nat.le_of_ble_eq_true rfl) (Nat.le_of_ble_eq_true rfl) rfl (Nat.le_of_ble_eq_true rfl) rfl dX8_carry_73 (q := 76) rfl ?_
    rintro r im1 ⟨rfl, hb, hk⟩
    refine zz_iret S dX8_carry_76 ⟨rfl, _, rfl, rfl, ?_⟩
    exact ⟨sp_re_ge _ _, by rw [hb]; show _ = op_dec (im 471) (nO a 0); rw [nO_of ek (by omega)], hk⟩
  · refine zz_tabIn S dX8_carry_1 (by decide) (by decide) (off := 76) (by decide) (t := 77) (by decide) ?_
    refine zz_aload_0 S dX8_carry_77 (q := 78) rfl ?_
    -- at 78: invokevirtual 184
    refine zz_virtI S yy_X8_castNow lX8_184 (ci := 8) (by decide) rfl (co_castNow nc im h1 hn) rfl (Nat.le_of_ble_eq_true rfl) (Nat.le_of_ble_eq_true rfl) rfl (Nat.le_of_ble_eq_true rfl) rfl dX8_carry_78 (q := 81) rfl ?_
    rintro r im1 ⟨rfl, hb, hk⟩
    refine zz_iret S dX8_carry_81 ⟨rfl, _, rfl, rfl, ?_⟩
    refine ⟨?_, by rw [hb]; show _ = op_cas (im 471) (nO (im 471) 1); rw [o1], hk⟩
    obtain ⟨r, hr, er⟩ := op_mlG_ge (wt := sp_wt (im 471)) (lim := im 471 7) nc 0 0 0 (op_st (im 471)) (by omega)
    have er' : (op_ml (im 471) nc (op_st (im 471))).1 = nI r := er
    rw [er']
    exact pos r hr
  · obtain ⟨k, hk2, ek, -⟩ := op_cSt_ok h1 hn hc
    refine zz_tabOut S dX8_carry_1 (Or.inr (by decide)) (t := 82) (by decide) ?_
    refine zz_aload_0 S dX8_carry_82 (q := 83) rfl ?_
    refine zz_iload_2 S dX8_carry_83 (q := 84) rfl ?_
    -- at 84: invokevirtual 190
    refine zz_virtI S yy_X8_deliverNow lX8_190 (ci := 8) (by decide) rfl (co_deliverNow (a 0) k nc im ek h1 hn hk2) rfl (Nat.le_of_ble_eq_true rfl) (Nat.le_of_ble_eq_true rfl) rfl (Nat.le_of_ble_eq_true rfl) rfl dX8_carry_84 (q := 87) rfl ?_
    rintro r im1 ⟨rfl, hb, hk⟩
    refine zz_iret S dX8_carry_87 ⟨rfl, _, rfl, rfl, ?_⟩
    refine ⟨?_, by rw [hb]; show _ = op_del (im 471) (nO a 0); rw [nO_of ek (by omega)], hk⟩
    obtain ⟨r, hr, er⟩ := op_inG_ge (s := op_del (im 471) k) (st := 3) nc 0 0 (by omega)
    have er' : op_in (op_del (im 471) k) nc 3 = nI r := er
    rw [er']
    exact pos r hr
end ZCMD
