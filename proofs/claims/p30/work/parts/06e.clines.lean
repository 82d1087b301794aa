/-! THE CLASS: lines, readings -/
theorem zs_abs_size (x : Int32) : (if 0 ≤ x then x else 0 - x) = zs_size x := by
  unfold zs_size
  by_cases h : 0 ≤ x
  · rw [if_pos h, if_pos h]
  · rw [if_neg h, if_neg h, Int32.zero_sub]
theorem zs_sub0 {a b : Int32} : b - a = 0 ↔ a = b := by
  constructor
  · intro h
    have := Int32.sub_add_cancel b a
    rw [h, Int32.zero_add] at this
    exact this
  · intro h
    rw [h]
    exact Int32.sub_self b
/-- the class's way to read between two lines -/
theorem zs_between {a b s x : Int32} (ha : -3000 ≤ a.toInt ∧ a.toInt ≤ 3000) (hb : -3000 ≤ b.toInt ∧ b.toInt ≤ 3000) (h1 : ¬ a > s) (h2 : ¬ s > b) (h3 : ¬ a = b) : 0 < (b - a).toInt64 ∧ x + (zs_rd (60 * (s - a)).toInt64 (b - a).toInt64).toInt32 = (x.toInt64 + zs_rd (60 * (s - a).toInt64) (b - a).toInt64).toInt32 := by
  rw [gt_iff_lt, Int32.lt_iff_toInt_lt] at h1 h2
  have h4 : a.toInt ≠ b.toInt := fun e => h3 (Int32.toInt_inj.mp e)
  have d1 : (s - a).toInt = s.toInt - a.toInt := by rw [Int32.toInt_sub, Int.bmod_eq_of_le (by omega) (by omega)]
  have d2 : (b - a).toInt = b.toInt - a.toInt := by rw [Int32.toInt_sub, Int.bmod_eq_of_le (by omega) (by omega)]
  constructor
  · rw [Int64.lt_iff_toInt_lt, Int32.toInt_toInt64, d2]
    show (0 : Int) < _
    omega
  · have e : (60 * (s - a)).toInt64 = 60 * (s - a).toInt64 := by
      apply Int64.toInt_inj.mp
      rw [Int32.toInt_toInt64, Int32.toInt_mul, Int64.toInt_mul, Int32.toInt_toInt64, d1, show ((60 : Int32)).toInt = 60 from rfl, show ((60 : Int64)).toInt = 60 from rfl, Int.bmod_eq_of_le (by omega) (by omega), Int.bmod_eq_of_le (by omega) (by omega)]
    rw [e, Int64.toInt32_add, Int32.toInt32_toInt64]
def la (c : Nat → Int32) : Nat → Int32
  | 0 => -100009
  | k + 1 => if c (60 * k) ≠ -100009 then zs_t (60 * k) else la c k
theorem zs_fl_last {c : Nat → Int32} : ∀ (n k : Nat) (f : Int32), (zs_flG c n k f (la c k)).2 = la c (k + n) := by
  intro n
  induction n with
  | zero => intro k f; rfl
  | succ n ih =>
    intro k f
    rw [zs_flG]
    have := ih (k + 1) (if c (60 * k) ≠ -100009 ∧ f = -100009 then zs_t (60 * k) else f)
    rw [la] at this
    rw [this]
    congr 1
    omega
theorem zs_fl_2 (c : Nat → Int32) : (zs_fl c).2 = la c 13 := zs_fl_last 13 0 (-100009)
theorem zs_fl_f {c : Nat → Int32} : ∀ (n k : Nat) (f t : Int32), f ≠ -100009 → (zs_flG c n k f t).1 = f := by
  intro n
  induction n with
  | zero => intro k f t _; rfl
  | succ n ih =>
    intro k f t h
    rw [zs_flG, if_neg (show ¬ (c (60 * k) ≠ -100009 ∧ f = -100009) from fun e => h e.2)]
    exact ih (k + 1) f _ h
section ZCLN
variable {G : ZG} {l : Launch}
set_option maxHeartbeats 4000000 in
theorem lx_countLines {n0 mcT msT : Nat} {isI : Bool} {Qf : Option Value → ZE → ZI → Prop} {w : Nat → ZL → List Value → Nat → ZE → ZI → Prop} {z : Nat} {im : ZI} {c : Nat → Int32} (S : zz_S G l RX1 cX1_countLines 3 2 n0 mcT msT isI (some .int) Qf w)
    (hc : zx_dial im c) (hQ : Qf (some (.int (zs_hl c))) zE im) :
    ∀ (n k : Nat) (x m : Int32), k + n = 13 → x = zs_t (60 * k) → zs_hl c = zs_hlG c n k m → w 6 [some (.ref 468), some (.int m), some (.int x)] [] z zE im := by
  intro n
  induction n with
  | zero =>
    intro k x m hk hx hF
    have hk : k = 13 := by omega
    subst hk
    refine zz_iload_2 S dX1_countLines_6 (q := 7) rfl ?_
    refine zz_sipush S (v := 360) rfl dX1_countLines_7 (q := 10) rfl ?_
    refine zz_icmp_gt S dX1_countLines_10 (t := 32) (by decide) (q := 13) rfl (fun a1 => ?_) (fun a1 => ?_)
    -- then 32 else 13
    · refine zz_iload_1 S dX1_countLines_32 (q := 33) rfl ?_
      -- at 33: ireturn 
      exact zz_iret S dX1_countLines_33 (by rw [hF] at hQ; exact hQ)
    · exact absurd (by rw [hx]; decide) a1
  | succ n ih =>
    intro k x m hk hx hF
    have hx1 := zs_t_i (i := 60 * k) (by omega)
    refine zz_iload_2 S dX1_countLines_6 (q := 7) rfl ?_
    refine zz_sipush S (v := 360) rfl dX1_countLines_7 (q := 10) rfl ?_
    refine zz_icmp_gt S dX1_countLines_10 (t := 32) (by decide) (q := 13) rfl (fun a1 => ?_) (fun a1 => ?_)
    -- then 32 else 13
    · exact absurd a1 (by rw [hx, gt_iff_lt, Int32.lt_iff_toInt_lt, hx1]; show ¬ (360 : Int) < _; omega)
    · refine zz_aload_0 S dX1_countLines_13 (q := 14) rfl ?_
      refine zz_iload_2 S dX1_countLines_14 (q := 15) rfl ?_
      refine zz_virtP S yy_X1_offsetAt lX1_40 (ci := 1) (by decide) rfl (zx_at x (60 * k) c im hx (by omega) hc) rfl (Nat.le_of_ble_eq_true rfl) (Nat.le_of_ble_eq_true rfl) rfl (Nat.le_of_ble_eq_true rfl) rfl dX1_countLines_15 (q := 18) rfl ?_
      refine zz_ldc S (v := (-100009)) kX1_25 dX1_countLines_18 (q := 20) rfl ?_
      refine zz_icmp_eq S dX1_countLines_20 (t := 26) (by decide) (q := 23) rfl (fun b1 => ?_) (fun b1 => ?_)
      · refine zz_iinc_2 S rfl dX1_countLines_26 (q := 29) rfl ?_
        refine zz_goto S dX1_countLines_29 (t := 6) (by decide) ?_
        refine ih (k + 1) _ _ (by omega) (by rw [hx]; exact zs_t_60 k) ?_
        rw [hF, zs_hlG]
        first | (rw [if_pos b1, Int32.add_zero]) | (rw [if_neg b1]; rfl)
      · refine zz_iinc_1 S rfl dX1_countLines_23 (q := 26) rfl ?_
        refine zz_iinc_2 S rfl dX1_countLines_26 (q := 29) rfl ?_
        refine zz_goto S dX1_countLines_29 (t := 6) (by decide) ?_
        refine ih (k + 1) _ _ (by omega) (by rw [hx]; exact zs_t_60 k) ?_
        rw [hF, zs_hlG]
        first | (rw [if_pos b1, Int32.add_zero]) | (rw [if_neg b1]; rfl)
theorem cx_countLines (c : Nat → Int32) (im : ZI) (hc : zx_dial im c) : zz_OP G l 2 mX1_countLines [.ref 468] zE im (zs_hl c) := by
  refine zz_intro (isI := false) (by decide) rfl (Nat.le_of_ble_eq_true rfl) (fun h => by cases h) (fun w S => ?_)
  refine zz_iconst S (v := 0) rfl dX1_countLines_0 (q := 1) rfl ?_
  refine zz_istore_1 S rfl dX1_countLines_1 (q := 2) rfl ?_
  refine zz_sipush S (v := (-360)) rfl dX1_countLines_2 (q := 5) rfl ?_
  refine zz_istore_2 S rfl dX1_countLines_5 (q := 6) rfl ?_
  -- at 6
  exact lx_countLines S hc ⟨rfl, _, rfl, rfl, rfl, rfl⟩ 13 0 _ _ rfl rfl rfl
set_option maxHeartbeats 4000000 in
theorem lx_firstLine {n0 mcT msT : Nat} {isI : Bool} {Qf : Option Value → ZE → ZI → Prop} {w : Nat → ZL → List Value → Nat → ZE → ZI → Prop} {z : Nat} {im : ZI} {c : Nat → Int32} (S : zz_S G l RX1 cX1_firstLine 2 2 n0 mcT msT isI (some .int) Qf w)
    (hc : zx_dial im c) (hQ : Qf (some (.int (zs_fl c).1)) zE im) :
    ∀ (n k : Nat) (x t : Int32), k + n = 13 → x = zs_t (60 * k) → (zs_fl c).1 = (zs_flG c n k (-100009) t).1 → w 4 [some (.ref 468), some (.int x)] [] z zE im := by
  intro n
  induction n with
  | zero =>
    intro k x t hk hx hF
    have hk : k = 13 := by omega
    subst hk
    refine zz_iload_1 S dX1_firstLine_4 (q := 5) rfl ?_
    refine zz_sipush S (v := 360) rfl dX1_firstLine_5 (q := 8) rfl ?_
    refine zz_icmp_gt S dX1_firstLine_8 (t := 29) (by decide) (q := 11) rfl (fun a1 => ?_) (fun a1 => ?_)
    -- then 29 else 11
    · refine zz_ldc S (v := (-100009)) kX1_25 dX1_firstLine_29 (q := 31) rfl ?_
      -- at 31: ireturn 
      exact zz_iret S dX1_firstLine_31 (by rw [hF] at hQ; exact hQ)
    · exact absurd (by rw [hx]; decide) a1
  | succ n ih =>
    intro k x t hk hx hF
    have hx1 := zs_t_i (i := 60 * k) (by omega)
    refine zz_iload_1 S dX1_firstLine_4 (q := 5) rfl ?_
    refine zz_sipush S (v := 360) rfl dX1_firstLine_5 (q := 8) rfl ?_
    refine zz_icmp_gt S dX1_firstLine_8 (t := 29) (by decide) (q := 11) rfl (fun a1 => ?_) (fun a1 => ?_)
    -- then 29 else 11
    · exact absurd a1 (by rw [hx, gt_iff_lt, Int32.lt_iff_toInt_lt, hx1]; show ¬ (360 : Int) < _; omega)
    · refine zz_aload_0 S dX1_firstLine_11 (q := 12) rfl ?_
      refine zz_iload_1 S dX1_firstLine_12 (q := 13) rfl ?_
      -- at 13: invokevirtual 40
      refine zz_virtP S yy_X1_offsetAt lX1_40 (ci := 1) (by decide) rfl (zx_at x (60 * k) c im hx (by omega) hc) rfl (Nat.le_of_ble_eq_true rfl) (Nat.le_of_ble_eq_true rfl) rfl (Nat.le_of_ble_eq_true rfl) rfl dX1_firstLine_13 (q := 16) rfl ?_
      rw [zs_flG] at hF
      refine zz_ldc S (v := (-100009)) kX1_25 dX1_firstLine_16 (q := 18) rfl ?_
      refine zz_icmp_eq S dX1_firstLine_18 (t := 23) (by decide) (q := 21) rfl (fun b1 => ?_) (fun b1 => ?_)
      -- then 23 else 21
      · rw [if_neg (show ¬ (c (60 * k) ≠ -100009 ∧ (-100009 : Int32) = -100009) from fun e => e.1 b1)] at hF
        refine zz_iinc_1 S rfl dX1_firstLine_23 (q := 26) rfl ?_
        refine zz_goto S dX1_firstLine_26 (t := 4) (by decide) ?_
        -- at 4
        exact ih (k + 1) _ _ (by omega) (by rw [hx]; exact zs_t_60 k) hF
      · rw [if_pos (show (c (60 * k) ≠ -100009 ∧ (-100009 : Int32) = -100009) from ⟨b1, rfl⟩), zs_fl_f _ _ _ _ (zs_ne _ (by omega)), ← hx] at hF
        refine zz_iload_1 S dX1_firstLine_21 (q := 22) rfl ?_
        -- at 22: ireturn 
        exact zz_iret S dX1_firstLine_22 (by rw [hF] at hQ; exact hQ)
theorem cx_firstLine (c : Nat → Int32) (im : ZI) (hc : zx_dial im c) : zz_OP G l 2 mX1_firstLine [.ref 468] zE im (zs_fl c).1 := by
  refine zz_intro (isI := false) (by decide) rfl (Nat.le_of_ble_eq_true rfl) (fun h => by cases h) (fun w S => ?_)
  refine zz_sipush S (v := (-360)) rfl dX1_firstLine_0 (q := 3) rfl ?_
  refine zz_istore_1 S rfl dX1_firstLine_3 (q := 4) rfl ?_
  -- at 4
  exact lx_firstLine S hc ⟨rfl, _, rfl, rfl, rfl, rfl⟩ 13 0 _ _ rfl rfl rfl
set_option maxHeartbeats 4000000 in
theorem lx_lastLine {n0 mcT msT : Nat} {isI : Bool} {Qf : Option Value → ZE → ZI → Prop} {w : Nat → ZL → List Value → Nat → ZE → ZI → Prop} {z : Nat} {Z : Int32} {im : ZI} {c : Nat → Int32} (S : zz_S G l RX1 cX1_lastLine 2 2 n0 mcT msT isI (some .int) Qf w)
    (hc : zx_dial im c) (hQ : Qf (some (.int Z)) zE im) :
    ∀ (m : Nat) (x : Int32), m ≤ 13 → x = zs_t (60 * m) + (-60) → Z = la c m → w 4 [some (.ref 468), some (.int x)] [] z zE im := by
  intro m
  induction m with
  | zero =>
    intro x hm hx hF
    rw [hF] at hQ
    refine zz_iload_1 S dX1_lastLine_4 (q := 5) rfl ?_
    refine zz_sipush S (v := (-360)) rfl dX1_lastLine_5 (q := 8) rfl ?_
    refine zz_icmp_lt S dX1_lastLine_8 (t := 29) (by decide) (q := 11) rfl (fun a1 => ?_) (fun a1 => ?_)
    -- then 29 else 11
    · refine zz_ldc S (v := (-100009)) kX1_25 dX1_lastLine_29 (q := 31) rfl ?_
      -- at 31: ireturn 
      exact zz_iret S dX1_lastLine_31 hQ
    · exact absurd (by rw [hx]; decide) a1
  | succ m ih =>
    intro x hm hx hF
    have hx2 : x = zs_t (60 * m) := by
      rw [hx, show 60 * (m + 1) = 60 * m + 60 by omega, ← zs_t_60, Int32.add_assoc, show ((60 : Int32) + (-60)) = 0 from rfl, Int32.add_zero]
    have hx1 := zs_t_i (i := 60 * m) (by omega)
    refine zz_iload_1 S dX1_lastLine_4 (q := 5) rfl ?_
    refine zz_sipush S (v := (-360)) rfl dX1_lastLine_5 (q := 8) rfl ?_
    refine zz_icmp_lt S dX1_lastLine_8 (t := 29) (by decide) (q := 11) rfl (fun a1 => ?_) (fun a1 => ?_)
    -- then 29 else 11
    · exact absurd a1 (by rw [hx2, Int32.lt_iff_toInt_lt, hx1]; show ¬ _ < (-360 : Int); omega)
    · refine zz_aload_0 S dX1_lastLine_11 (q := 12) rfl ?_
      refine zz_iload_1 S dX1_lastLine_12 (q := 13) rfl ?_
      -- at 13: invokevirtual 40
      refine zz_virtP S yy_X1_offsetAt lX1_40 (ci := 1) (by decide) rfl (zx_at x (60 * m) c im hx2 (by omega) hc) rfl (Nat.le_of_ble_eq_true rfl) (Nat.le_of_ble_eq_true rfl) rfl (Nat.le_of_ble_eq_true rfl) rfl dX1_lastLine_13 (q := 16) rfl ?_
      rw [la] at hF
      refine zz_ldc S (v := (-100009)) kX1_25 dX1_lastLine_16 (q := 18) rfl ?_
      refine zz_icmp_eq S dX1_lastLine_18 (t := 23) (by decide) (q := 21) rfl (fun b1 => ?_) (fun b1 => ?_)
      -- then 23 else 21
      · rw [if_neg (show ¬ c (60 * m) ≠ -100009 from fun e => e b1)] at hF
        refine zz_iinc_1 S rfl dX1_lastLine_23 (q := 26) rfl ?_
        refine zz_goto S dX1_lastLine_26 (t := 4) (by decide) ?_
        -- at 4
        exact ih _ (by omega) (by rw [hx2]; rfl) hF
      · rw [if_pos b1, ← hx2] at hF
        refine zz_iload_1 S dX1_lastLine_21 (q := 22) rfl ?_
        -- at 22: ireturn 
        exact zz_iret S dX1_lastLine_22 (by rw [hF] at hQ; exact hQ)
theorem cx_lastLine (c : Nat → Int32) (im : ZI) (hc : zx_dial im c) : zz_OP G l 2 mX1_lastLine [.ref 468] zE im (zs_fl c).2 := by
  refine zz_intro (isI := false) (by decide) rfl (Nat.le_of_ble_eq_true rfl) (fun h => by cases h) (fun w S => ?_)
  refine zz_sipush S (v := 360) rfl dX1_lastLine_0 (q := 3) rfl ?_
  refine zz_istore_1 S rfl dX1_lastLine_3 (q := 4) rfl ?_
  -- at 4
  exact lx_lastLine (Z := (zs_fl c).2) S hc ⟨rfl, _, rfl, rfl, rfl, rfl⟩ 13 _ (by omega) rfl (zs_fl_2 c)
set_option maxHeartbeats 4000000 in
theorem lx_byLines {n0 mcT msT : Nat} {isI : Bool} {Qf : Option Value → ZE → ZI → Prop} {w : Nat → ZL → List Value → Nat → ZE → ZI → Prop} {s : Int32} {z : Nat} {im : ZI} {c : Nat → Int32} (S : zz_S G l RX1 cX1_readingByLines 5 2 n0 mcT msT isI (some .int) Qf w)
    (hc : zx_dial im c) (hf : zs_fine c) (hQ : Qf (some (.int (zs_byL c s))) zE im) :
    ∀ (n k : Nat) (x : Int32) (u3 u4 : Option Value), k + n = 12 → x = zs_t (60 * k) → zs_byL c s = zs_by c s n k → w 4 [some (.ref 468), some (.int s), some (.int x), u3, u4] [] z zE im := by
  intro n
  induction n with
  | zero =>
    intro k x u3 u4 hk hx hF
    have hk : k = 12 := by omega
    subst hk
    refine zz_iload_2 S dX1_readingByLines_4 (q := 5) rfl ?_
    refine zz_sipush S (v := 360) rfl dX1_readingByLines_5 (q := 8) rfl ?_
    refine zz_icmp_ge S dX1_readingByLines_8 (t := 89) (by decide) (q := 11) rfl (fun a1 => ?_) (fun a1 => ?_)
    -- then 89 else 11
    · refine zz_ldc S (v := (-100009)) kX1_25 dX1_readingByLines_89 (q := 91) rfl ?_
      -- at 91: ireturn 
      exact zz_iret S dX1_readingByLines_91 (by rw [hF] at hQ; exact hQ)
    · exact absurd (by rw [hx]; decide) a1
  | succ n ih =>
    intro k x u3 u4 hk hx hF
    have hx1 := zs_t_i (i := 60 * k) (by omega)
    have hx2 : x + 60 = zs_t (60 * k + 60) := by rw [hx]; exact zs_t_60 k
    have step : ∀ u3 u4, (c (60 * k) = -100009 ∨ c (60 * k + 60) = -100009 ∨ c (60 * k) > s ∨ s > c (60 * k + 60)) → w 83 [some (.ref 468), some (.int s), some (.int x), u3, u4] [] z zE im := fun u3 u4 h => by
      refine zz_iinc_2 S rfl dX1_readingByLines_83 (q := 86) rfl ?_
      refine zz_goto S dX1_readingByLines_86 (t := 4) (by decide) ?_
      -- at 4
      exact ih (k + 1) _ _ _ (by omega) (by rw [hx]; exact zs_t_60 k) (by rw [hF, zs_by, if_pos h])
    refine zz_iload_2 S dX1_readingByLines_4 (q := 5) rfl ?_
    refine zz_sipush S (v := 360) rfl dX1_readingByLines_5 (q := 8) rfl ?_
    refine zz_icmp_ge S dX1_readingByLines_8 (t := 89) (by decide) (q := 11) rfl (fun a1 => ?_) (fun a1 => ?_)
    -- then 89 else 11
    · exact absurd a1 (by rw [hx, ge_iff_le, Int32.le_iff_toInt_le, hx1]; show ¬ (360 : Int) ≤ _; omega)
    · refine zz_aload_0 S dX1_readingByLines_11 (q := 12) rfl ?_
      refine zz_iload_2 S dX1_readingByLines_12 (q := 13) rfl ?_
      -- at 13: invokevirtual 40
      refine zz_virtP S yy_X1_offsetAt lX1_40 (ci := 1) (by decide) rfl (zx_at x (60 * k) c im hx (by omega) hc) rfl (Nat.le_of_ble_eq_true rfl) (Nat.le_of_ble_eq_true rfl) rfl (Nat.le_of_ble_eq_true rfl) rfl dX1_readingByLines_13 (q := 16) rfl ?_
      refine zz_istore_3 S rfl dX1_readingByLines_16 (q := 17) rfl ?_
      refine zz_aload_0 S dX1_readingByLines_17 (q := 18) rfl ?_
      refine zz_iload_2 S dX1_readingByLines_18 (q := 19) rfl ?_
      refine zz_bipush S (v := 60) rfl dX1_readingByLines_19 (q := 21) rfl ?_
      refine zz_iadd S dX1_readingByLines_21 (q := 22) rfl ?_
      -- at 22: invokevirtual 40
      refine zz_virtP S yy_X1_offsetAt lX1_40 (ci := 1) (by decide) rfl (zx_at (x + 60) (60 * k + 60) c im hx2 (by omega) hc) rfl (Nat.le_of_ble_eq_true rfl) (Nat.le_of_ble_eq_true rfl) rfl (Nat.le_of_ble_eq_true rfl) rfl dX1_readingByLines_22 (q := 25) rfl ?_
      refine zz_istore_4 S rfl dX1_readingByLines_25 (q := 27) rfl ?_
      refine zz_iload_3 S dX1_readingByLines_27 (q := 28) rfl ?_
      refine zz_ldc S (v := (-100009)) kX1_25 dX1_readingByLines_28 (q := 30) rfl ?_
      refine zz_icmp_eq S dX1_readingByLines_30 (t := 83) (by decide) (q := 33) rfl (fun b1 => ?_) (fun b1 => ?_)
      -- then 83 else 33
      · exact step _ _ (Or.inl b1)
      refine zz_iload_4 S dX1_readingByLines_33 (q := 35) rfl ?_
      refine zz_ldc S (v := (-100009)) kX1_25 dX1_readingByLines_35 (q := 37) rfl ?_
      refine zz_icmp_eq S dX1_readingByLines_37 (t := 83) (by decide) (q := 40) rfl (fun b2 => ?_) (fun b2 => ?_)
      -- then 83 else 40
      · exact step _ _ (Or.inr (Or.inl b2))
      refine zz_iload_3 S dX1_readingByLines_40 (q := 41) rfl ?_
      refine zz_iload_1 S dX1_readingByLines_41 (q := 42) rfl ?_
      refine zz_icmp_gt S dX1_readingByLines_42 (t := 83) (by decide) (q := 45) rfl (fun b3 => ?_) (fun b3 => ?_)
      -- then 83 else 45
      · exact step _ _ (Or.inr (Or.inr (Or.inl b3)))
      refine zz_iload_4 S dX1_readingByLines_45 (q := 47) rfl ?_
      refine zz_iload_1 S dX1_readingByLines_47 (q := 48) rfl ?_
      refine zz_icmp_ge S dX1_readingByLines_48 (t := 54) (by decide) (q := 51) rfl (fun b4 => ?_) (fun b4 => ?_)
      -- then 54 else 51
      · have b4' : ¬ s > c (60 * k + 60) := fun e => absurd b4 (Int32.not_le.mpr e)
        have hno : ¬ (c (60 * k) = -100009 ∨ c (60 * k + 60) = -100009 ∨ c (60 * k) > s ∨ s > c (60 * k + 60)) := by
          rintro (e | e | e | e)
          · exact b1 e
          · exact b2 e
          · exact b3 e
          · exact b4' e
        rw [zs_by, if_neg hno] at hF
        refine zz_iload_3 S dX1_readingByLines_54 (q := 55) rfl ?_
        refine zz_iload_4 S dX1_readingByLines_55 (q := 57) rfl ?_
        refine zz_icmp_ne S dX1_readingByLines_57 (t := 64) (by decide) (q := 60) rfl (fun b5 => ?_) (fun b5 => ?_)
        -- then 64 else 60
        · have hbt := zs_between (x := x) (hf _ b1) (hf _ b2) b3 b4' b5
          rw [if_neg (fun e => b5 (zs_sub0.mp e)), ← hx, ← hbt.2] at hF
          refine zz_iload_2 S dX1_readingByLines_64 (q := 65) rfl ?_
          refine zz_bipush S (v := 60) rfl dX1_readingByLines_65 (q := 67) rfl ?_
          refine zz_iload_1 S dX1_readingByLines_67 (q := 68) rfl ?_
          refine zz_iload_3 S dX1_readingByLines_68 (q := 69) rfl ?_
          refine zz_isub S dX1_readingByLines_69 (q := 70) rfl ?_
          refine zz_imul S dX1_readingByLines_70 (q := 71) rfl ?_
          refine zz_i2l S dX1_readingByLines_71 (q := 72) rfl ?_
          refine zz_iload_4 S dX1_readingByLines_72 (q := 74) rfl ?_
          refine zz_iload_3 S dX1_readingByLines_74 (q := 75) rfl ?_
          refine zz_isub S dX1_readingByLines_75 (q := 76) rfl ?_
          refine zz_i2l S dX1_readingByLines_76 (q := 77) rfl ?_
          -- at 77: invokestatic 28
          refine zz_statNPL S yy_X7_rounded lX1_28 (cx_rounded (60 * (s - c (60 * k))).toInt64 (c (60 * k + 60) - c (60 * k)).toInt64 hbt.1 zE im) rfl (Nat.le_of_ble_eq_true rfl) (Nat.le_of_ble_eq_true rfl) rfl dX1_readingByLines_77 (q := 80) rfl ?_
          refine zz_l2i S dX1_readingByLines_80 (q := 81) rfl ?_
          refine zz_iadd S dX1_readingByLines_81 (q := 82) rfl ?_
          -- at 82: ireturn 
          exact zz_iret S dX1_readingByLines_82 (by rw [hF] at hQ; exact hQ)
        · rw [if_pos (zs_sub0.mpr b5), ← hx] at hF
          refine zz_iload_2 S dX1_readingByLines_60 (q := 61) rfl ?_
          refine zz_goto S dX1_readingByLines_61 (t := 82) (by decide) ?_
          -- at 82: ireturn 
          exact zz_iret S dX1_readingByLines_82 (by rw [hF] at hQ; exact hQ)
      · refine zz_goto S dX1_readingByLines_51 (t := 83) (by decide) ?_
        -- at 83
        exact step _ _ (Or.inr (Or.inr (Or.inr (Int32.not_le.mp b4))))
theorem cx_byLines (s : Int32) (c : Nat → Int32) (im : ZI) (hc : zx_dial im c) (hf : zs_fine c) : zz_OP G l 2 mX1_readingByLines [.ref 468, .int s] zE im (zs_byL c s) := by
  refine zz_intro (isI := false) (by decide) rfl (Nat.le_of_ble_eq_true rfl) (fun h => by cases h) (fun w S => ?_)
  refine zz_sipush S (v := (-360)) rfl dX1_readingByLines_0 (q := 3) rfl ?_
  refine zz_istore_2 S rfl dX1_readingByLines_3 (q := 4) rfl ?_
  -- at 4
  exact lx_byLines S hc hf ⟨rfl, _, rfl, rfl, rfl, rfl⟩ 12 0 _ _ _ rfl rfl rfl
set_option maxHeartbeats 4000000 in
theorem lx_byShadow {n0 mcT msT : Nat} {isI : Bool} {Qf : Option Value → ZE → ZI → Prop} {w : Nat → ZL → List Value → Nat → ZE → ZI → Prop} {s : Int32} {z : Nat} {im : ZI} {c : Nat → Int32} (S : zz_S G l RX1 cX1_readingByShadow 7 2 n0 mcT msT isI (some .int) Qf w)
    (hc : zx_dial im c) (hQ : Qf (some (.int (zs_sh c s))) zE im) :
    ∀ (n i : Nat) (x its least : Int32) (u5 u6 : Option Value), i + n = 721 → x = zs_t i → zs_sh c s = zs_shG c s n i its least → w 10 [some (.ref 468), some (.int s), some (.int its), some (.int least), some (.int x), u5, u6] [] z zE im := by
  intro n
  induction n with
  | zero =>
    intro i x its least u5 u6 hi hx hF
    have hi : i = 721 := by omega
    subst hi
    refine zz_iload_4 S dX1_readingByShadow_10 (q := 12) rfl ?_
    refine zz_sipush S (v := 360) rfl dX1_readingByShadow_12 (q := 15) rfl ?_
    refine zz_icmp_gt S dX1_readingByShadow_15 (t := 69) (by decide) (q := 18) rfl (fun a1 => ?_) (fun a1 => ?_)
    -- then 69 else 18
    · refine zz_iload_2 S dX1_readingByShadow_69 (q := 70) rfl ?_
      -- at 70: ireturn 
      exact zz_iret S dX1_readingByShadow_70 (by rw [hF] at hQ; exact hQ)
    · exact absurd (by rw [hx]; decide) a1
  | succ n ih =>
    intro i x its least u5 u6 hi hx hF
    have hx1 := zs_t_i (i := i) (by omega)
    have step : ∀ (its' least' : Int32) (u5 u6 : Option Value), zs_shG c s (n + 1) i its least = zs_shG c s n (i + 1) its' least' → w 63 [some (.ref 468), some (.int s), some (.int its'), some (.int least'), some (.int x), u5, u6] [] z zE im := fun its' least' u5 u6 h => by
      refine zz_iinc_4 S rfl dX1_readingByShadow_63 (q := 66) rfl ?_
      refine zz_goto S dX1_readingByShadow_66 (t := 10) (by decide) ?_
      -- at 10
      exact ih (i + 1) _ _ _ _ _ (by omega) (by rw [hx]; exact zs_t_add i 1) (by rw [hF, h])
    refine zz_iload_4 S dX1_readingByShadow_10 (q := 12) rfl ?_
    refine zz_sipush S (v := 360) rfl dX1_readingByShadow_12 (q := 15) rfl ?_
    refine zz_icmp_gt S dX1_readingByShadow_15 (t := 69) (by decide) (q := 18) rfl (fun a1 => ?_) (fun a1 => ?_)
    -- then 69 else 18
    · exact absurd a1 (by rw [hx, gt_iff_lt, Int32.lt_iff_toInt_lt, hx1]; show ¬ (360 : Int) < _; omega)
    · refine zz_aload_0 S dX1_readingByShadow_18 (q := 19) rfl ?_
      refine zz_iload_4 S dX1_readingByShadow_19 (q := 21) rfl ?_
      -- at 21: invokevirtual 40
      refine zz_virtP S yy_X1_offsetAt lX1_40 (ci := 1) (by decide) rfl (zx_at x i c im hx (by omega) hc) rfl (Nat.le_of_ble_eq_true rfl) (Nat.le_of_ble_eq_true rfl) rfl (Nat.le_of_ble_eq_true rfl) rfl dX1_readingByShadow_21 (q := 24) rfl ?_
      refine zz_istore_5 S rfl dX1_readingByShadow_24 (q := 26) rfl ?_
      refine zz_iload_5 S dX1_readingByShadow_26 (q := 28) rfl ?_
      refine zz_ldc S (v := (-100009)) kX1_25 dX1_readingByShadow_28 (q := 30) rfl ?_
      refine zz_icmp_ne S dX1_readingByShadow_30 (t := 36) (by decide) (q := 33) rfl (fun b1 => ?_) (fun b1 => ?_)
      -- then 36 else 33
      · refine zz_iload_5 S dX1_readingByShadow_36 (q := 38) rfl ?_
        refine zz_iload_1 S dX1_readingByShadow_38 (q := 39) rfl ?_
        refine zz_isub S dX1_readingByShadow_39 (q := 40) rfl ?_
        -- at 40: invokestatic 43
        refine zz_abs S lX1_43 ⟨n_absSt, n_MathIni, n_absCo⟩ (Nat.le_of_ble_eq_true rfl) (Nat.le_of_ble_eq_true rfl) dX1_readingByShadow_40 (q := 43) rfl ?_
        rw [zs_abs_size]
        refine zz_istore_6 S rfl dX1_readingByShadow_43 (q := 45) rfl ?_
        refine zz_iload_2 S dX1_readingByShadow_45 (q := 46) rfl ?_
        refine zz_ldc S (v := (-100009)) kX1_25 dX1_readingByShadow_46 (q := 48) rfl ?_
        refine zz_icmp_eq S dX1_readingByShadow_48 (t := 57) (by decide) (q := 51) rfl (fun b2 => ?_) (fun b2 => ?_)
        -- then 57 else 51
        · refine zz_iload_6 S dX1_readingByShadow_57 (q := 59) rfl ?_
          refine zz_istore_3 S rfl dX1_readingByShadow_59 (q := 60) rfl ?_
          refine zz_iload_4 S dX1_readingByShadow_60 (q := 62) rfl ?_
          refine zz_istore_2 S rfl dX1_readingByShadow_62 (q := 63) rfl ?_
          -- at 63
          exact step _ _ _ _ (by rw [zs_shG, if_neg b1, if_pos (Or.inl b2), ← hx])
        · refine zz_iload_6 S dX1_readingByShadow_51 (q := 53) rfl ?_
          refine zz_iload_3 S dX1_readingByShadow_53 (q := 54) rfl ?_
          refine zz_icmp_ge S dX1_readingByShadow_54 (t := 63) (by decide) (q := 57) rfl (fun b3 => ?_) (fun b3 => ?_)
          -- then 63 else 57
          · exact step _ _ _ _ (by rw [zs_shG, if_neg b1, if_neg (fun e => e.elim b2 (fun q => absurd b3 (Int32.not_le.mpr q)))])
          · refine zz_iload_6 S dX1_readingByShadow_57 (q := 59) rfl ?_
            refine zz_istore_3 S rfl dX1_readingByShadow_59 (q := 60) rfl ?_
            refine zz_iload_4 S dX1_readingByShadow_60 (q := 62) rfl ?_
            refine zz_istore_2 S rfl dX1_readingByShadow_62 (q := 63) rfl ?_
            -- at 63
            exact step _ _ _ _ (by rw [zs_shG, if_neg b1, if_pos (Or.inr (Int32.not_le.mp b3)), ← hx])
      · refine zz_goto S dX1_readingByShadow_33 (t := 63) (by decide) ?_
        -- at 63
        exact step _ _ _ _ (by rw [zs_shG, if_pos b1])
theorem cx_byShadow (s : Int32) (c : Nat → Int32) (im : ZI) (hc : zx_dial im c) : zz_OP G l 2 mX1_readingByShadow [.ref 468, .int s] zE im (zs_sh c s) := by
  refine zz_intro (isI := false) (by decide) rfl (Nat.le_of_ble_eq_true rfl) (fun h => by cases h) (fun w S => ?_)
  refine zz_ldc S (v := (-100009)) kX1_25 dX1_readingByShadow_0 (q := 2) rfl ?_
  refine zz_istore_2 S rfl dX1_readingByShadow_2 (q := 3) rfl ?_
  refine zz_iconst S (v := 0) rfl dX1_readingByShadow_3 (q := 4) rfl ?_
  refine zz_istore_3 S rfl dX1_readingByShadow_4 (q := 5) rfl ?_
  refine zz_sipush S (v := (-360)) rfl dX1_readingByShadow_5 (q := 8) rfl ?_
  refine zz_istore_4 S rfl dX1_readingByShadow_8 (q := 10) rfl ?_
  -- at 10
  exact lx_byShadow S hc ⟨rfl, _, rfl, rfl, rfl, rfl⟩ 721 0 _ _ _ _ _ rfl rfl rfl
set_option maxHeartbeats 4000000 in
theorem lx_compare {n0 mcT msT : Nat} {isI : Bool} {Qf : Option Value → ZE → ZI → Prop} {w : Nat → ZL → List Value → Nat → ZE → ZI → Prop} {z : Nat} {im0 : ZI} {c : Nat → Int32} (S : zz_S G l RX1 cX1_compareReadings 5 3 n0 mcT msT isI none Qf w)
    (hf : zs_fine c) (hQ : ∀ im', im' 468 1 = (zs_ap c).1 → im' 468 2 = (zs_ap c).2 → zz_keep [468] im0 im' → Qf none zE im') :
    ∀ (n i : Nat) (x : Int32) (u2 u3 u4 : Option Value) (im : ZI), i + n = 721 → x = zs_t i → zx_dial im c → zz_keep [468] im0 im → zs_ap c = zs_apG c n i (im 468 1) (im 468 2) → w 15 [some (.ref 468), some (.int x), u2, u3, u4] [] z zE im := by
  intro n
  induction n with
  | zero =>
    intro i x u2 u3 u4 im hi hx hc hk hF
    have hi : i = 721 := by omega
    subst hi
    refine zz_iload_1 S dX1_compareReadings_15 (q := 16) rfl ?_
    refine zz_sipush S (v := 360) rfl dX1_compareReadings_16 (q := 19) rfl ?_
    refine zz_icmp_gt S dX1_compareReadings_19 (t := 97) (by decide) (q := 22) rfl (fun a1 => ?_) (fun a1 => ?_)
    -- then 97 else 22
    · exact zz_vret S dX1_compareReadings_97 (hQ im (by rw [hF]; rfl) (by rw [hF]; rfl) hk)
    · exact absurd (by rw [hx]; decide) a1
  | succ n ih =>
    intro i x u2 u3 u4 im hi hx hc hk hF
    have hx1 := zs_t_i (i := i) (by omega)
    have same : ∀ (u2 u3 u4 : Option Value), zs_apG c (n + 1) i (im 468 1) (im 468 2) = zs_apG c n (i + 1) (im 468 1) (im 468 2) → w 91 [some (.ref 468), some (.int x), u2, u3, u4] [] z zE im := fun u2 u3 u4 h => by
      refine zz_iinc_1 S rfl dX1_compareReadings_91 (q := 94) rfl ?_
      refine zz_goto S dX1_compareReadings_94 (t := 15) (by decide) ?_
      -- at 15
      exact ih (i + 1) _ _ _ _ im (by omega) (by rw [hx]; exact zs_t_add i 1) hc hk (by rw [hF, h])
    refine zz_iload_1 S dX1_compareReadings_15 (q := 16) rfl ?_
    refine zz_sipush S (v := 360) rfl dX1_compareReadings_16 (q := 19) rfl ?_
    refine zz_icmp_gt S dX1_compareReadings_19 (t := 97) (by decide) (q := 22) rfl (fun a1 => ?_) (fun a1 => ?_)
    -- then 97 else 22
    · exact absurd a1 (by rw [hx, gt_iff_lt, Int32.lt_iff_toInt_lt, hx1]; show ¬ (360 : Int) < _; omega)
    · refine zz_aload_0 S dX1_compareReadings_22 (q := 23) rfl ?_
      refine zz_iload_1 S dX1_compareReadings_23 (q := 24) rfl ?_
      -- at 24: invokevirtual 40
      refine zz_virtP S yy_X1_offsetAt lX1_40 (ci := 1) (by decide) rfl (zx_at x i c im hx (by omega) hc) rfl (Nat.le_of_ble_eq_true rfl) (Nat.le_of_ble_eq_true rfl) rfl (Nat.le_of_ble_eq_true rfl) rfl dX1_compareReadings_24 (q := 27) rfl ?_
      refine zz_istore_2 S rfl dX1_compareReadings_27 (q := 28) rfl ?_
      refine zz_iload_2 S dX1_compareReadings_28 (q := 29) rfl ?_
      refine zz_ldc S (v := (-100009)) kX1_25 dX1_compareReadings_29 (q := 31) rfl ?_
      refine zz_icmp_ne S dX1_compareReadings_31 (t := 39) (by decide) (q := 34) rfl (fun b1 => ?_) (fun b1 => ?_)
      -- then 39 else 34
      · refine zz_aload_0 S dX1_compareReadings_39 (q := 40) rfl ?_
        refine zz_iload_2 S dX1_compareReadings_40 (q := 41) rfl ?_
        -- at 41: invokevirtual 55
        refine zz_virtP S yy_X1_readingByLines lX1_55 (ci := 1) (by decide) rfl (cx_byLines (c i) c im hc hf) rfl (Nat.le_of_ble_eq_true rfl) (Nat.le_of_ble_eq_true rfl) rfl (Nat.le_of_ble_eq_true rfl) rfl dX1_compareReadings_41 (q := 44) rfl ?_
        refine zz_istore_3 S rfl dX1_compareReadings_44 (q := 45) rfl ?_
        refine zz_iload_3 S dX1_compareReadings_45 (q := 46) rfl ?_
        refine zz_ldc S (v := (-100009)) kX1_25 dX1_compareReadings_46 (q := 48) rfl ?_
        refine zz_icmp_ne S dX1_compareReadings_48 (t := 54) (by decide) (q := 51) rfl (fun b2 => ?_) (fun b2 => ?_)
        -- then 54 else 51
        · have no : ¬ (c i = -100009 ∨ zs_byL c (c i) = -100009) := fun e => e.elim b1 b2
          have go80 : ∀ (u2 u3 : Option Value), (im 468 2 = -100009 ∨ zs_size (x - zs_byL c (c i)) > im 468 1) → w 80 [some (.ref 468), some (.int x), u2, u3, some (.int (zs_size (x - zs_byL c (c i))))] [] z zE im := fun u2 u3 h => by
            refine zz_aload_0 S dX1_compareReadings_80 (q := 81) rfl ?_
            refine zz_iload_4 S dX1_compareReadings_81 (q := 83) rfl ?_
            refine zz_putI S fX1_48 rfl rfl (Nat.le_of_ble_eq_true rfl) rfl dX1_compareReadings_83 (q := 86) rfl ?_
            refine zz_aload_0 S dX1_compareReadings_86 (q := 87) rfl ?_
            refine zz_iload_1 S dX1_compareReadings_87 (q := 88) rfl ?_
            refine zz_putI S fX1_52 rfl rfl (Nat.le_of_ble_eq_true rfl) rfl dX1_compareReadings_88 (q := 91) rfl ?_
            -- at 91
            refine zz_iinc_1 S rfl dX1_compareReadings_91 (q := 94) rfl ?_
            refine zz_goto S dX1_compareReadings_94 (t := 15) (by decide) ?_
            -- at 15
            refine ih (i + 1) _ _ _ _ _ (by omega) (by rw [hx]; exact zs_t_add i 1) (fun j hj => by rw [zz_u_n _ _ (Or.inl (by decide)), zz_u_n _ _ (Or.inl (by decide))]; exact hc j hj) ((hk.u (by decide)).u (by decide)) ?_
            rw [zz_u_e, zz_u_n _ _ (Or.inr (by decide)), zz_u_e, hF, zs_apG, if_neg no, ← hx, if_pos h]
          refine zz_iload_1 S dX1_compareReadings_54 (q := 55) rfl ?_
          refine zz_iload_3 S dX1_compareReadings_55 (q := 56) rfl ?_
          refine zz_isub S dX1_compareReadings_56 (q := 57) rfl ?_
          -- at 57: invokestatic 43
          refine zz_abs S lX1_43 ⟨n_absSt, n_MathIni, n_absCo⟩ (Nat.le_of_ble_eq_true rfl) (Nat.le_of_ble_eq_true rfl) dX1_compareReadings_57 (q := 60) rfl ?_
          rw [zs_abs_size]
          refine zz_istore_4 S rfl dX1_compareReadings_60 (q := 62) rfl ?_
          refine zz_aload_0 S dX1_compareReadings_62 (q := 63) rfl ?_
          refine zz_getI S fX1_52 rfl (Nat.le_of_ble_eq_true rfl) rfl dX1_compareReadings_63 (q := 66) rfl ?_
          refine zz_ldc S (v := (-100009)) kX1_25 dX1_compareReadings_66 (q := 68) rfl ?_
          refine zz_icmp_eq S dX1_compareReadings_68 (t := 80) (by decide) (q := 71) rfl (fun b3 => ?_) (fun b3 => ?_)
          -- then 80 else 71
          · exact go80 _ _ (Or.inl b3)
          · refine zz_iload_4 S dX1_compareReadings_71 (q := 73) rfl ?_
            refine zz_aload_0 S dX1_compareReadings_73 (q := 74) rfl ?_
            refine zz_getI S fX1_48 rfl (Nat.le_of_ble_eq_true rfl) rfl dX1_compareReadings_74 (q := 77) rfl ?_
            refine zz_icmp_le S dX1_compareReadings_77 (t := 91) (by decide) (q := 80) rfl (fun b4 => ?_) (fun b4 => ?_)
            -- then 91 else 80
            · exact same _ _ _ (by rw [zs_apG, if_neg no, ← hx, if_neg (fun e => e.elim b3 (fun q => absurd b4 (Int32.not_le.mpr q)))])
            · exact go80 _ _ (Or.inr (Int32.not_le.mp b4))
        · refine zz_goto S dX1_compareReadings_51 (t := 91) (by decide) ?_
          -- at 91
          exact same _ _ _ (by rw [zs_apG, if_pos (Or.inr b2)])
      · refine zz_ldc S (v := (-100009)) kX1_25 dX1_compareReadings_34 (q := 36) rfl ?_
        refine zz_goto S dX1_compareReadings_36 (t := 44) (by decide) ?_
        refine zz_istore_3 S rfl dX1_compareReadings_44 (q := 45) rfl ?_
        refine zz_iload_3 S dX1_compareReadings_45 (q := 46) rfl ?_
        refine zz_ldc S (v := (-100009)) kX1_25 dX1_compareReadings_46 (q := 48) rfl ?_
        refine zz_icmp_ne S dX1_compareReadings_48 (t := 54) (by decide) (q := 51) rfl (fun b2 => ?_) (fun b2 => ?_)
        -- then 54 else 51
        · exact absurd rfl b2
        · refine zz_goto S dX1_compareReadings_51 (t := 91) (by decide) ?_
          -- at 91
          exact same _ _ _ (by rw [zs_apG, if_pos (Or.inl b1)])
theorem cx_compare (c : Nat → Int32) (im : ZI) (hc : zx_dial im c) (hf : zs_fine c) : zz_OV G l 3 mX1_compareReadings [.ref 468] zE im (fun im' => im' 468 1 = (zs_ap c).1 ∧ im' 468 2 = (zs_ap c).2 ∧ zz_keep [468] im im') := by
  refine zz_intro (isI := false) (by decide) rfl (Nat.le_of_ble_eq_true rfl) (fun h => by cases h) (fun w S => ?_)
  refine zz_aload_0 S dX1_compareReadings_0 (q := 1) rfl ?_
  refine zz_iconst S (v := 0) rfl dX1_compareReadings_1 (q := 2) rfl ?_
  refine zz_putI S fX1_48 rfl rfl (Nat.le_of_ble_eq_true rfl) rfl dX1_compareReadings_2 (q := 5) rfl ?_
  refine zz_aload_0 S dX1_compareReadings_5 (q := 6) rfl ?_
  refine zz_ldc S (v := (-100009)) kX1_25 dX1_compareReadings_6 (q := 8) rfl ?_
  refine zz_putI S fX1_52 rfl rfl (Nat.le_of_ble_eq_true rfl) rfl dX1_compareReadings_8 (q := 11) rfl ?_
  refine zz_sipush S (v := (-360)) rfl dX1_compareReadings_11 (q := 14) rfl ?_
  refine zz_istore_1 S rfl dX1_compareReadings_14 (q := 15) rfl ?_
  -- at 15
  refine lx_compare (im0 := im) S hf (fun im' a b d => ⟨rfl, rfl, rfl, a, b, d⟩) 721 0 _ _ _ _ _ (by omega) rfl (fun j hj => by rw [zz_u_n _ _ (Or.inl (by decide)), zz_u_n _ _ (Or.inl (by decide))]; exact hc j hj) ((zz_keep.rf.u (by decide)).u (by decide)) ?_
  rw [zz_u_e, zz_u_n _ _ (Or.inr (by decide)), zz_u_e]
  rfl
end ZCLN
